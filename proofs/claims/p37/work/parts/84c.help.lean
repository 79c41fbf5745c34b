theorem dL_areStocks_0 : decode cL_areStocks 0 = .ok (.aload_n 0, 1) := by decide +kernel
theorem dL_areStocks_1 : decode cL_areStocks 1 = .ok (.iconst 0, 1) := by decide +kernel
theorem dL_areStocks_2 : decode cL_areStocks 2 = .ok (.invokestatic 174, 3) := by decide +kernel
theorem dL_areStocks_5 : decode cL_areStocks 5 = .ok (.aload_n 0, 1) := by decide +kernel
theorem dL_areStocks_6 : decode cL_areStocks 6 = .ok (.iconst 1, 1) := by decide +kernel
theorem dL_areStocks_7 : decode cL_areStocks 7 = .ok (.invokestatic 174, 3) := by decide +kernel
theorem dL_areStocks_10 : decode cL_areStocks 10 = .ok (.iadd, 1) := by decide +kernel
theorem dL_areStocks_11 : decode cL_areStocks 11 = .ok (.istore_n 3, 1) := by decide +kernel
theorem dL_areStocks_12 : decode cL_areStocks 12 = .ok (.iconst 1, 1) := by decide +kernel
theorem dL_areStocks_13 : decode cL_areStocks 13 = .ok (.istore 4, 2) := by decide +kernel
theorem dL_areStocks_15 : decode cL_areStocks 15 = .ok (.iconst 0, 1) := by decide +kernel
theorem dL_areStocks_16 : decode cL_areStocks 16 = .ok (.istore 5, 2) := by decide +kernel
theorem dL_areStocks_18 : decode cL_areStocks 18 = .ok (.iload 5, 2) := by decide +kernel
theorem dL_areStocks_20 : decode cL_areStocks 20 = .ok (.iconst 3, 1) := by decide +kernel
theorem dL_areStocks_21 : decode cL_areStocks 21 = .ok (.if_icmp .ge 112, 3) := by decide +kernel
theorem dL_areStocks_24 : decode cL_areStocks 24 = .ok (.iload_n 3, 1) := by decide +kernel
theorem dL_areStocks_25 : decode cL_areStocks 25 = .ok (.aload_n 0, 1) := by decide +kernel
theorem dL_areStocks_26 : decode cL_areStocks 26 = .ok (.iload 5, 2) := by decide +kernel
theorem dL_areStocks_28 : decode cL_areStocks 28 = .ok (.invokestatic 146, 3) := by decide +kernel
theorem dL_areStocks_31 : decode cL_areStocks 31 = .ok (.aload_n 0, 1) := by decide +kernel
theorem dL_areStocks_32 : decode cL_areStocks 32 = .ok (.iload 5, 2) := by decide +kernel
theorem dL_areStocks_34 : decode cL_areStocks 34 = .ok (.invokestatic 170, 3) := by decide +kernel
theorem dL_areStocks_37 : decode cL_areStocks 37 = .ok (.iadd, 1) := by decide +kernel
theorem dL_areStocks_38 : decode cL_areStocks 38 = .ok (.iadd, 1) := by decide +kernel
theorem dL_areStocks_39 : decode cL_areStocks 39 = .ok (.istore_n 3, 1) := by decide +kernel
theorem dL_areStocks_40 : decode cL_areStocks 40 = .ok (.iload 4, 2) := by decide +kernel
theorem dL_areStocks_42 : decode cL_areStocks 42 = .ok (.aload_n 0, 1) := by decide +kernel
theorem dL_areStocks_43 : decode cL_areStocks 43 = .ok (.iload 5, 2) := by decide +kernel
theorem dL_areStocks_45 : decode cL_areStocks 45 = .ok (.invokestatic 146, 3) := by decide +kernel
theorem dL_areStocks_48 : decode cL_areStocks 48 = .ok (.ifCond .lt 75, 3) := by decide +kernel
theorem dL_areStocks_51 : decode cL_areStocks 51 = .ok (.aload_n 0, 1) := by decide +kernel
theorem dL_areStocks_52 : decode cL_areStocks 52 = .ok (.iload 5, 2) := by decide +kernel
theorem dL_areStocks_54 : decode cL_areStocks 54 = .ok (.invokestatic 146, 3) := by decide +kernel
theorem dL_areStocks_57 : decode cL_areStocks 57 = .ok (.aload_n 2, 1) := by decide +kernel
theorem dL_areStocks_58 : decode cL_areStocks 58 = .ok (.iload 5, 2) := by decide +kernel
theorem dL_areStocks_60 : decode cL_areStocks 60 = .ok (.iaload, 1) := by decide +kernel
theorem dL_areStocks_61 : decode cL_areStocks 61 = .ok (.if_icmp .gt 62, 3) := by decide +kernel
theorem dL_areStocks_64 : decode cL_areStocks 64 = .ok (.aload_n 0, 1) := by decide +kernel
theorem dL_areStocks_65 : decode cL_areStocks 65 = .ok (.iload 5, 2) := by decide +kernel
theorem dL_areStocks_67 : decode cL_areStocks 67 = .ok (.invokestatic 170, 3) := by decide +kernel
theorem dL_areStocks_70 : decode cL_areStocks 70 = .ok (.ifCond .lt 53, 3) := by decide +kernel
theorem dL_areStocks_73 : decode cL_areStocks 73 = .ok (.aload_n 0, 1) := by decide +kernel
theorem dL_areStocks_74 : decode cL_areStocks 74 = .ok (.iload 5, 2) := by decide +kernel
theorem dL_areStocks_76 : decode cL_areStocks 76 = .ok (.invokestatic 138, 3) := by decide +kernel
theorem dL_areStocks_79 : decode cL_areStocks 79 = .ok (.ifCond .lt 44, 3) := by decide +kernel
theorem dL_areStocks_82 : decode cL_areStocks 82 = .ok (.aload_n 0, 1) := by decide +kernel
theorem dL_areStocks_83 : decode cL_areStocks 83 = .ok (.iload 5, 2) := by decide +kernel
theorem dL_areStocks_85 : decode cL_areStocks 85 = .ok (.invokestatic 138, 3) := by decide +kernel
theorem dL_areStocks_88 : decode cL_areStocks 88 = .ok (.aload_n 0, 1) := by decide +kernel
theorem dL_areStocks_89 : decode cL_areStocks 89 = .ok (.iload 5, 2) := by decide +kernel
theorem dL_areStocks_91 : decode cL_areStocks 91 = .ok (.invokestatic 146, 3) := by decide +kernel
theorem dL_areStocks_94 : decode cL_areStocks 94 = .ok (.aload_n 0, 1) := by decide +kernel
theorem dL_areStocks_95 : decode cL_areStocks 95 = .ok (.iload 5, 2) := by decide +kernel
theorem dL_areStocks_97 : decode cL_areStocks 97 = .ok (.invokestatic 152, 3) := by decide +kernel
theorem dL_areStocks_100 : decode cL_areStocks 100 = .ok (.isub, 1) := by decide +kernel
theorem dL_areStocks_101 : decode cL_areStocks 101 = .ok (.if_icmp .ne 22, 3) := by decide +kernel
theorem dL_areStocks_104 : decode cL_areStocks 104 = .ok (.aload_n 0, 1) := by decide +kernel
theorem dL_areStocks_105 : decode cL_areStocks 105 = .ok (.iload 5, 2) := by decide +kernel
theorem dL_areStocks_107 : decode cL_areStocks 107 = .ok (.invokestatic 152, 3) := by decide +kernel
theorem dL_areStocks_110 : decode cL_areStocks 110 = .ok (.aload_n 0, 1) := by decide +kernel
theorem dL_areStocks_111 : decode cL_areStocks 111 = .ok (.iload 5, 2) := by decide +kernel
theorem dL_areStocks_113 : decode cL_areStocks 113 = .ok (.invokestatic 218, 3) := by decide +kernel
theorem dL_areStocks_116 : decode cL_areStocks 116 = .ok (.if_icmp .ne 7, 3) := by decide +kernel
theorem dL_areStocks_119 : decode cL_areStocks 119 = .ok (.iconst 1, 1) := by decide +kernel
theorem dL_areStocks_120 : decode cL_areStocks 120 = .ok (.goto 4, 3) := by decide +kernel
theorem dL_areStocks_123 : decode cL_areStocks 123 = .ok (.iconst 0, 1) := by decide +kernel
theorem dL_areStocks_124 : decode cL_areStocks 124 = .ok (.iand, 1) := by decide +kernel
theorem dL_areStocks_125 : decode cL_areStocks 125 = .ok (.istore 4, 2) := by decide +kernel
theorem dL_areStocks_127 : decode cL_areStocks 127 = .ok (.iinc 5 1, 3) := by decide +kernel
theorem dL_areStocks_130 : decode cL_areStocks 130 = .ok (.goto (-112), 3) := by decide +kernel
theorem dL_areStocks_133 : decode cL_areStocks 133 = .ok (.iconst 0, 1) := by decide +kernel
theorem dL_areStocks_134 : decode cL_areStocks 134 = .ok (.istore 5, 2) := by decide +kernel
theorem dL_areStocks_136 : decode cL_areStocks 136 = .ok (.iload 5, 2) := by decide +kernel
theorem dL_areStocks_138 : decode cL_areStocks 138 = .ok (.iconst 2, 1) := by decide +kernel
theorem dL_areStocks_139 : decode cL_areStocks 139 = .ok (.if_icmp .ge 81, 3) := by decide +kernel
theorem dL_areStocks_142 : decode cL_areStocks 142 = .ok (.iload 4, 2) := by decide +kernel
theorem dL_areStocks_144 : decode cL_areStocks 144 = .ok (.aload_n 0, 1) := by decide +kernel
theorem dL_areStocks_145 : decode cL_areStocks 145 = .ok (.iload 5, 2) := by decide +kernel
theorem dL_areStocks_147 : decode cL_areStocks 147 = .ok (.invokestatic 174, 3) := by decide +kernel
theorem dL_areStocks_150 : decode cL_areStocks 150 = .ok (.ifCond .le 7, 3) := by decide +kernel
theorem dL_areStocks_153 : decode cL_areStocks 153 = .ok (.iconst 1, 1) := by decide +kernel
theorem dL_areStocks_154 : decode cL_areStocks 154 = .ok (.goto 4, 3) := by decide +kernel
theorem dL_areStocks_157 : decode cL_areStocks 157 = .ok (.iconst 0, 1) := by decide +kernel
theorem dL_areStocks_158 : decode cL_areStocks 158 = .ok (.aload_n 0, 1) := by decide +kernel
theorem dL_areStocks_159 : decode cL_areStocks 159 = .ok (.iload 5, 2) := by decide +kernel
theorem dL_areStocks_161 : decode cL_areStocks 161 = .ok (.invokestatic 176, 3) := by decide +kernel
theorem dL_areStocks_164 : decode cL_areStocks 164 = .ok (.ifCond .le 7, 3) := by decide +kernel
theorem dL_areStocks_167 : decode cL_areStocks 167 = .ok (.iconst 1, 1) := by decide +kernel
theorem dL_areStocks_168 : decode cL_areStocks 168 = .ok (.goto 4, 3) := by decide +kernel
theorem dL_areStocks_171 : decode cL_areStocks 171 = .ok (.iconst 0, 1) := by decide +kernel
theorem dL_areStocks_172 : decode cL_areStocks 172 = .ok (.if_icmp .ne 38, 3) := by decide +kernel
theorem dL_areStocks_175 : decode cL_areStocks 175 = .ok (.aload_n 0, 1) := by decide +kernel
theorem dL_areStocks_176 : decode cL_areStocks 176 = .ok (.iload 5, 2) := by decide +kernel
theorem dL_areStocks_178 : decode cL_areStocks 178 = .ok (.invokestatic 174, 3) := by decide +kernel
theorem dL_areStocks_181 : decode cL_areStocks 181 = .ok (.ifCond .le 7, 3) := by decide +kernel
theorem dL_areStocks_184 : decode cL_areStocks 184 = .ok (.iconst 1, 1) := by decide +kernel
theorem dL_areStocks_185 : decode cL_areStocks 185 = .ok (.goto 4, 3) := by decide +kernel
theorem dL_areStocks_188 : decode cL_areStocks 188 = .ok (.iconst 0, 1) := by decide +kernel
theorem dL_areStocks_189 : decode cL_areStocks 189 = .ok (.aload_n 0, 1) := by decide +kernel
theorem dL_areStocks_190 : decode cL_areStocks 190 = .ok (.iload 5, 2) := by decide +kernel
theorem dL_areStocks_192 : decode cL_areStocks 192 = .ok (.invokestatic 178, 3) := by decide +kernel
theorem dL_areStocks_195 : decode cL_areStocks 195 = .ok (.ifCond .lt 7, 3) := by decide +kernel
theorem dL_areStocks_198 : decode cL_areStocks 198 = .ok (.iconst 1, 1) := by decide +kernel
theorem dL_areStocks_199 : decode cL_areStocks 199 = .ok (.goto 4, 3) := by decide +kernel
theorem dL_areStocks_202 : decode cL_areStocks 202 = .ok (.iconst 0, 1) := by decide +kernel
theorem dL_areStocks_203 : decode cL_areStocks 203 = .ok (.if_icmp .ne 7, 3) := by decide +kernel
theorem dL_areStocks_206 : decode cL_areStocks 206 = .ok (.iconst 1, 1) := by decide +kernel
theorem dL_areStocks_207 : decode cL_areStocks 207 = .ok (.goto 4, 3) := by decide +kernel
theorem dL_areStocks_210 : decode cL_areStocks 210 = .ok (.iconst 0, 1) := by decide +kernel
theorem dL_areStocks_211 : decode cL_areStocks 211 = .ok (.iand, 1) := by decide +kernel
theorem dL_areStocks_212 : decode cL_areStocks 212 = .ok (.istore 4, 2) := by decide +kernel
theorem dL_areStocks_214 : decode cL_areStocks 214 = .ok (.iinc 5 1, 3) := by decide +kernel
theorem dL_areStocks_217 : decode cL_areStocks 217 = .ok (.goto (-81), 3) := by decide +kernel
theorem dL_areStocks_220 : decode cL_areStocks 220 = .ok (.iload 4, 2) := by decide +kernel
theorem dL_areStocks_222 : decode cL_areStocks 222 = .ok (.ifCond .eq 12, 3) := by decide +kernel
theorem dL_areStocks_225 : decode cL_areStocks 225 = .ok (.iload_n 3, 1) := by decide +kernel
theorem dL_areStocks_226 : decode cL_areStocks 226 = .ok (.iload_n 1, 1) := by decide +kernel
theorem dL_areStocks_227 : decode cL_areStocks 227 = .ok (.if_icmp .ne 7, 3) := by decide +kernel
theorem dL_areStocks_230 : decode cL_areStocks 230 = .ok (.iconst 1, 1) := by decide +kernel
theorem dL_areStocks_231 : decode cL_areStocks 231 = .ok (.goto 4, 3) := by decide +kernel
theorem dL_areStocks_234 : decode cL_areStocks 234 = .ok (.iconst 0, 1) := by decide +kernel
theorem dL_areStocks_235 : decode cL_areStocks 235 = .ok (.ireturn, 1) := by decide +kernel
set_option maxHeartbeats 4000000 in
set_option maxRecDepth 100000 in
theorem c_L_areStocks (l : Launch) (hl0 : l.stackTraces = false) (g : kG) (e0 : Nat) (z av lv : Nat → Nat) (S O : wPS) (sz : Nat) (q : qS) (hI : Inv z e0 S) (hR : Rq z av lv S q) (hW : q_W q) (hL : q_L q) (hU : q_U q ≤ 5000) (ra rr rb ri : Nat) (un : Int32) (hO9 : q_O O ra rr rb ri q) (hun : un.toInt = ((q_U q : Nat) : Int)) : kMv l g e0 yL_areStocks cL_areStocks 6 (some .boolean) 9 150 45 270 [.ref (z 0), .int un, .ref rr] S O sz (fun v => v = .int 1) := by
  refine kMv.of (by decide) (Nat.le_of_ble_eq_true rfl) ?_
  intro p e s m below meth c ls B
  obtain ⟨F, hr, hlk, hP, hO, hK, hD, hDO, hdis, hE, hNc, hS, hA, hl, hsz⟩ := B
  subst hsz
  have hx := F.1
  have hb := F.2.1
  have hl : lv_has ls 6 [(0, .ref (z 0)), (1, .int un), (2, .ref rr)] := hl
  have h721 : q 72 0 = 3 := hL.1
  have h72 : q 72 0 ≤ 12 := by omega
  have h73 : q 73 0 ≤ 12 := hW.1.1.2.1
  have hro : q 42 0 ≤ 504 := q_room hW.1.1 hW.1.2.2.2.1 hW.1.2.2.2.2.1
  have hroom : q 42 0 < 516 := by omega
  have h57 : q 57 0 ≤ 20 := hW.1.2.2.2.2.1.1
  have h56 : q 56 0 ≤ 1439 := hL.2.2.2.2.2.1
  have h25 : ∀ i, i < q 73 0 → q 25 i < 2 ^ 31 := fun i hi => by have := (hW.1.2.2.1 i hi).2.2.2; omega
  have w30 := hW.2.1 0 (by omega)
  have w31 := hW.2.1 1 (by omega)
  have w32 := hW.2.1 2 (by omega)
  have w20 := hW.1.2.1 0 (by omega)
  have w21 := hW.1.2.1 1 (by omega)
  have w22 := hW.1.2.1 2 (by omega)
  have u0 := q_U13 (q := q) (a := 0) (by decide)
  have u1 := q_U13 (q := q) (a := 1) (by decide)
  have u2 := q_U13 (q := q) (a := 2) (by decide)
  have b310 := q_31 (r := 0) hW (by decide)
  have b311 := q_31 (r := 1) hW (by decide)
  have m70 := hL.2.2.2.2.1 0 (by decide)
  have m71 := hL.2.2.2.2.1 1 (by decide)
  obtain ⟨⟨oa, la⟩, ⟨orr, lr⟩, ⟨obb, lb⟩, ⟨oi, li⟩, hne, hra, hrb, hri⟩ := hO9
  have w70 := hW.1.2.2.2.2.2.1 0 (by decide)
  have w71 := hW.1.2.2.2.2.2.1 1 (by decide)
  have hun2 : un.toInt = ((q 12 0 + q 13 0 + q 12 1 + q 13 1 + q 12 2 + q 13 2 + q 31 0 + q 31 1 : Nat) : Int) := hun
  have hU2 : q 12 0 + q 13 0 + q 12 1 + q 13 1 + q 12 2 + q 13 2 + q 31 0 + q 31 1 ≤ 5000 := hU
  refine lv_aload_n hx hb dL_areStocks_0 rfl (lv_at hl 0 rfl) ?_
  refine lv_iconst (v := 0) hx hb dL_areStocks_1 (by decide) ?_
  refine kcallhI (kSthW (n := 2) (As := [.ref (z 0), .int 0]) (rest := []) F hE hNc hK hP hD hS hA (kh_carried l g e0 S _ (z 0) 0 _ _ hI.ob0 (c_X5_carried l hl0 g e0 z S _ hI 0) (fun E h => h.1)) kw_236 kw_237 kw_61 kw_238 (by decide +kernel) ⟨Nat.le_of_ble_eq_true rfl, Nat.le_of_ble_eq_true rfl⟩ rfl hl.1 rfl (Nat.le_of_ble_eq_true rfl) dL_areStocks_2 ⟨(by show 0 + 1 ≤ 45; omega), (by show 0 + 6 ≤ 270; omega)⟩) rfl hD hS hA (fun r1 T1 H locs hp hP hq1x hq2x hq3x hf1 hS => ?_)
  clear hq1x hq2x hq3x
  have hO := kO_keep hO hdis hf1
  obtain ⟨hT, nr1⟩ := kp_R (i := 0) (f := fun j => q 31 j) hp (by decide : (0 : Int32).toInt = ((0 : Nat) : Int)) (by omega) (fun j hj => (hR.2.2.2.2.2.1 j hj).2 31 (by decide)) (show q 31 0 < 2 ^ 31 by omega)
  subst hT
  clear hp
  refine lv_aload_n hx hb dL_areStocks_5 rfl (lv_at hl 0 rfl) ?_
  refine lv_iconst (v := 1) hx hb dL_areStocks_6 (by decide) ?_
  refine kcallhI (kSthW (n := 2) (As := [.ref (z 0), .int 1]) (rest := [.int r1]) F hE hNc hK hP hD hS hA (kh_carried l g e0 S _ (z 0) 1 _ _ hI.ob0 (c_X5_carried l hl0 g e0 z S _ hI 1) (fun E h => h.1)) kw_236 kw_237 kw_61 kw_238 (by decide +kernel) ⟨Nat.le_of_ble_eq_true rfl, Nat.le_of_ble_eq_true rfl⟩ rfl hl.1 rfl (Nat.le_of_ble_eq_true rfl) dL_areStocks_7 ⟨(by show 0 + 1 + 1 ≤ 45; omega), (by show 0 + 6 + 6 ≤ 270; omega)⟩) rfl hD hS hA (fun r2 T1 H locs hp hP hq1x hq2x hq3x hf1 hS => ?_)
  clear hq1x hq2x hq3x
  have hO := kO_keep hO hdis hf1
  obtain ⟨hT, nr2⟩ := kp_R (i := 1) (f := fun j => q 31 j) hp (by decide : (1 : Int32).toInt = ((1 : Nat) : Int)) (by omega) (fun j hj => (hR.2.2.2.2.2.1 j hj).2 31 (by decide)) (show q 31 1 < 2 ^ 31 by omega)
  subst hT
  clear hp
  refine lv_iadd hx hb dL_areStocks_10 ?_
  refine lv_topi (fun x3 ex3 => ?_)
  have tx3 : x3.toInt = r1.toInt + r2.toInt := kt_add ex3 (rfl : r1.toInt = r1.toInt) (rfl : r2.toInt = r2.toInt) (by omega) (by omega)
  refine lv_istore_n (lv' := [(3, .int x3), (0, .ref (z 0)), (1, .int un), (2, .ref rr)]) hx hb dL_areStocks_11 rfl hl (by decide) rfl (fun ls hl => ?_)
  refine lv_iconst (v := 1) hx hb dL_areStocks_12 (by decide) ?_
  refine lv_istore (lv' := [(4, .int 1), (3, .int x3), (0, .ref (z 0)), (1, .int un), (2, .ref rr)]) hx hb dL_areStocks_13 hl (by decide) rfl (fun ls hl => ?_)
  refine lv_iconst (v := 0) hx hb dL_areStocks_15 (by decide) ?_
  refine lv_istore (lv' := [(5, .int 0), (4, .int 1), (3, .int x3), (0, .ref (z 0)), (1, .int un), (2, .ref rr)]) hx hb dL_areStocks_16 hl (by decide) rfl (fun ls hl => ?_)
  refine lv_iload hx hb dL_areStocks_18 (lv_at hl 0 rfl) ?_
  refine lv_iconst (v := 3) hx hb dL_areStocks_20 (by decide) ?_
  refine lv_icmp_ge (tgt := 133) hx hb dL_areStocks_21 (by decide) (fun c4 => ?_) (fun c4 => ?_)
  · exact absurd c4 (by decide)
  · refine lv_iload_n hx hb dL_areStocks_24 rfl (lv_at hl 2 rfl) ?_
    refine lv_aload_n hx hb dL_areStocks_25 rfl (lv_at hl 3 rfl) ?_
    refine lv_iload hx hb dL_areStocks_26 (lv_at hl 0 rfl) ?_
    refine kcallhI (kSthW (n := 2) (As := [.ref (z 0), .int 0]) (rest := [.int x3]) F hE hNc hK hP hD hS hA (kh_stock l g e0 S _ (z 0) 0 _ _ hI.ob0 (c_X5_stock_x l hl0 g e0 z S _ hI av lv q hR h72 0) (fun E h => h.1)) kw_188 kw_189 kw_61 kw_190 (by decide +kernel) ⟨Nat.le_of_ble_eq_true rfl, Nat.le_of_ble_eq_true rfl⟩ rfl hl.1 rfl (Nat.le_of_ble_eq_true rfl) dL_areStocks_28 ⟨(by show 0 + 1 + 1 + 1 ≤ 45; omega), (by show 0 + 6 + 6 + 6 ≤ 270; omega)⟩) rfl hD hS hA (fun r5 T1 H locs hp hP hq1x hq2x hq3x hf1 hS => ?_)
    clear hq1x hq2x hq3x
    have hO := kO_keep hO hdis hf1
    obtain ⟨hT, nr5⟩ := kp_A (i := 0) hp (by decide : (0 : Int32).toInt = ((0 : Nat) : Int)) (by omega) (by omega) (by omega)
    subst hT
    clear hp
    refine lv_aload_n hx hb dL_areStocks_31 rfl (lv_at hl 3 rfl) ?_
    refine lv_iload hx hb dL_areStocks_32 (lv_at hl 0 rfl) ?_
    refine kcallhI (kSthW (n := 2) (As := [.ref (z 0), .int 0]) (rest := [.int r5, .int x3]) F hE hNc hK hP hD hS hA (kh_reserve l g e0 S _ (z 0) 0 _ _ hI.ob0 (c_X5_reserve_x l hl0 g e0 z S _ hI av lv q hR h72 0) (fun E h => h.1)) kw_220 kw_221 kw_61 kw_222 (by decide +kernel) ⟨Nat.le_of_ble_eq_true rfl, Nat.le_of_ble_eq_true rfl⟩ rfl hl.1 rfl (Nat.le_of_ble_eq_true rfl) dL_areStocks_34 ⟨(by show 0 + 1 + 1 + 1 + 1 ≤ 45; omega), (by show 0 + 6 + 6 + 6 + 6 ≤ 270; omega)⟩) rfl hD hS hA (fun r6 T1 H locs hp hP hq1x hq2x hq3x hf1 hS => ?_)
    clear hq1x hq2x hq3x
    have hO := kO_keep hO hdis hf1
    obtain ⟨hT, nr6⟩ := kp_A (i := 0) hp (by decide : (0 : Int32).toInt = ((0 : Nat) : Int)) (by omega) (by omega) (by omega)
    subst hT
    clear hp
    refine lv_iadd hx hb dL_areStocks_37 ?_
    refine lv_topi (fun x7 ex7 => ?_)
    have tx7 : x7.toInt = r5.toInt + r6.toInt := kt_add ex7 (rfl : r5.toInt = r5.toInt) (rfl : r6.toInt = r6.toInt) (by omega) (by omega)
    refine lv_iadd hx hb dL_areStocks_38 ?_
    refine lv_topi (fun x8 ex8 => ?_)
    have tx8 : x8.toInt = x3.toInt + x7.toInt := kt_add ex8 (rfl : x3.toInt = x3.toInt) (rfl : x7.toInt = x7.toInt) (by omega) (by omega)
    refine lv_istore_n (lv' := [(3, .int x8), (5, .int 0), (4, .int 1), (0, .ref (z 0)), (1, .int un), (2, .ref rr)]) hx hb dL_areStocks_39 rfl hl (by decide) rfl (fun ls hl => ?_)
    refine lv_iload hx hb dL_areStocks_40 (lv_at hl 2 rfl) ?_
    refine lv_aload_n hx hb dL_areStocks_42 rfl (lv_at hl 3 rfl) ?_
    refine lv_iload hx hb dL_areStocks_43 (lv_at hl 1 rfl) ?_
    refine kcallhI (kSthW (n := 2) (As := [.ref (z 0), .int 0]) (rest := [.int 1]) F hE hNc hK hP hD hS hA (kh_stock l g e0 S _ (z 0) 0 _ _ hI.ob0 (c_X5_stock_x l hl0 g e0 z S _ hI av lv q hR h72 0) (fun E h => h.1)) kw_188 kw_189 kw_61 kw_190 (by decide +kernel) ⟨Nat.le_of_ble_eq_true rfl, Nat.le_of_ble_eq_true rfl⟩ rfl hl.1 rfl (Nat.le_of_ble_eq_true rfl) dL_areStocks_45 ⟨(by show 0 + 1 + 1 + 1 + 1 + 1 ≤ 45; omega), (by show 0 + 6 + 6 + 6 + 6 + 6 ≤ 270; omega)⟩) rfl hD hS hA (fun r9 T1 H locs hp hP hq1x hq2x hq3x hf1 hS => ?_)
    clear hq1x hq2x hq3x
    have hO := kO_keep hO hdis hf1
    obtain ⟨hT, nr9⟩ := kp_A (i := 0) hp (by decide : (0 : Int32).toInt = ((0 : Nat) : Int)) (by omega) (by omega) (by omega)
    subst hT
    clear hp
    refine lv_if_lt (tgt := 123) hx hb dL_areStocks_48 (by decide) (fun c10 => ?_) (fun c10 => ?_)
    · have d10 : r9.toInt < (0) := (kc_lt (rfl : r9.toInt = r9.toInt) (by decide : (0 : Int32).toInt = 0)).mp c10
      exfalso; omega
    · have d10 : ¬ (r9.toInt < (0)) := mt (kc_lt (rfl : r9.toInt = r9.toInt) (by decide : (0 : Int32).toInt = 0)).mpr c10
      refine lv_aload_n hx hb dL_areStocks_51 rfl (lv_at hl 3 rfl) ?_
      refine lv_iload hx hb dL_areStocks_52 (lv_at hl 1 rfl) ?_
      refine kcallhI (kSthW (n := 2) (As := [.ref (z 0), .int 0]) (rest := [.int 1]) F hE hNc hK hP hD hS hA (kh_stock l g e0 S _ (z 0) 0 _ _ hI.ob0 (c_X5_stock_x l hl0 g e0 z S _ hI av lv q hR h72 0) (fun E h => h.1)) kw_188 kw_189 kw_61 kw_190 (by decide +kernel) ⟨Nat.le_of_ble_eq_true rfl, Nat.le_of_ble_eq_true rfl⟩ rfl hl.1 rfl (Nat.le_of_ble_eq_true rfl) dL_areStocks_54 ⟨(by show 0 + 1 + 1 + 1 + 1 + 1 + 1 ≤ 45; omega), (by show 0 + 6 + 6 + 6 + 6 + 6 + 6 ≤ 270; omega)⟩) rfl hD hS hA (fun r11 T1 H locs hp hP hq1x hq2x hq3x hf1 hS => ?_)
      clear hq1x hq2x hq3x
      have hO := kO_keep hO hdis hf1
      obtain ⟨hT, nr11⟩ := kp_A (i := 0) hp (by decide : (0 : Int32).toInt = ((0 : Nat) : Int)) (by omega) (by omega) (by omega)
      subst hT
      clear hp
      refine lv_aload_n hx hb dL_areStocks_57 rfl (lv_at hl 5 rfl) ?_
      refine lv_iload hx hb dL_areStocks_58 (lv_at hl 1 rfl) ?_
      refine rd_I F hK hO orr (by rw [lr]; exact kt_in (by decide : (0 : Int32).toInt = ((0 : Nat) : Int)) (by omega) (by decide)) dL_areStocks_60 ?_
      refine lv_topi (fun x12 ex12 => ?_)
      have nx12 : x12.toInt = ((q 11 0 : Nat) : Int) := kt_nI (by rw [ex12, kt_clamp (by decide : (0 : Int32).toInt = ((0 : Nat) : Int)) (by omega)]; exact (hra 0 (by omega)).2) (by omega)
      refine lv_icmp_gt (tgt := 123) hx hb dL_areStocks_61 (by decide) (fun c13 => ?_) (fun c13 => ?_)
      · have d13 : x12.toInt < r11.toInt := (kc_lt (rfl : x12.toInt = x12.toInt) (rfl : r11.toInt = r11.toInt)).mp c13
        exfalso; omega
      · have d13 : ¬ (x12.toInt < r11.toInt) := mt (kc_lt (rfl : x12.toInt = x12.toInt) (rfl : r11.toInt = r11.toInt)).mpr c13
        refine lv_aload_n hx hb dL_areStocks_64 rfl (lv_at hl 3 rfl) ?_
        refine lv_iload hx hb dL_areStocks_65 (lv_at hl 1 rfl) ?_
        refine kcallhI (kSthW (n := 2) (As := [.ref (z 0), .int 0]) (rest := [.int 1]) F hE hNc hK hP hD hS hA (kh_reserve l g e0 S _ (z 0) 0 _ _ hI.ob0 (c_X5_reserve_x l hl0 g e0 z S _ hI av lv q hR h72 0) (fun E h => h.1)) kw_220 kw_221 kw_61 kw_222 (by decide +kernel) ⟨Nat.le_of_ble_eq_true rfl, Nat.le_of_ble_eq_true rfl⟩ rfl hl.1 rfl (Nat.le_of_ble_eq_true rfl) dL_areStocks_67 ⟨(by show 0 + 1 + 1 + 1 + 1 + 1 + 1 + 1 ≤ 45; omega), (by show 0 + 6 + 6 + 6 + 6 + 6 + 6 + 6 ≤ 270; omega)⟩) rfl hD hS hA (fun r14 T1 H locs hp hP hq1x hq2x hq3x hf1 hS => ?_)
        clear hq1x hq2x hq3x
        have hO := kO_keep hO hdis hf1
        obtain ⟨hT, nr14⟩ := kp_A (i := 0) hp (by decide : (0 : Int32).toInt = ((0 : Nat) : Int)) (by omega) (by omega) (by omega)
        subst hT
        clear hp
        refine lv_if_lt (tgt := 123) hx hb dL_areStocks_70 (by decide) (fun c15 => ?_) (fun c15 => ?_)
        · have d15 : r14.toInt < (0) := (kc_lt (rfl : r14.toInt = r14.toInt) (by decide : (0 : Int32).toInt = 0)).mp c15
          exfalso; omega
        · have d15 : ¬ (r14.toInt < (0)) := mt (kc_lt (rfl : r14.toInt = r14.toInt) (by decide : (0 : Int32).toInt = 0)).mpr c15
          refine lv_aload_n hx hb dL_areStocks_73 rfl (lv_at hl 3 rfl) ?_
          refine lv_iload hx hb dL_areStocks_74 (lv_at hl 1 rfl) ?_
          refine kcallhI (kSthW (n := 2) (As := [.ref (z 0), .int 0]) (rest := [.int 1]) F hE hNc hK hP hD hS hA (kh_free l g e0 S _ (z 0) 0 _ _ hI.ob0 (c_X5_free_x l hl0 g e0 z S _ hI av lv q hR h72 hW.2.1 0) (fun E h => h.1)) kw_346 kw_347 kw_61 kw_348 (by decide +kernel) ⟨Nat.le_of_ble_eq_true rfl, Nat.le_of_ble_eq_true rfl⟩ rfl hl.1 rfl (Nat.le_of_ble_eq_true rfl) dL_areStocks_76 ⟨(by show 0 + 1 + 1 + 1 + 1 + 1 + 1 + 1 + 1 ≤ 45; omega), (by show 0 + 6 + 6 + 6 + 6 + 6 + 6 + 6 + 6 ≤ 270; omega)⟩) rfl hD hS hA (fun r16 T1 H locs hp hP hq1x hq2x hq3x hf1 hS => ?_)
          clear hq1x hq2x hq3x
          have hO := kO_keep hO hdis hf1
          obtain ⟨hT, nr16⟩ := kp_A (i := 0) hp (by decide : (0 : Int32).toInt = ((0 : Nat) : Int)) (by omega) (by omega) (by omega)
          subst hT
          clear hp
          refine lv_if_lt (tgt := 123) hx hb dL_areStocks_79 (by decide) (fun c17 => ?_) (fun c17 => ?_)
          · have d17 : r16.toInt < (0) := (kc_lt (rfl : r16.toInt = r16.toInt) (by decide : (0 : Int32).toInt = 0)).mp c17
            exfalso; omega
          · have d17 : ¬ (r16.toInt < (0)) := mt (kc_lt (rfl : r16.toInt = r16.toInt) (by decide : (0 : Int32).toInt = 0)).mpr c17
            refine lv_aload_n hx hb dL_areStocks_82 rfl (lv_at hl 3 rfl) ?_
            refine lv_iload hx hb dL_areStocks_83 (lv_at hl 1 rfl) ?_
            refine kcallhI (kSthW (n := 2) (As := [.ref (z 0), .int 0]) (rest := [.int 1]) F hE hNc hK hP hD hS hA (kh_free l g e0 S _ (z 0) 0 _ _ hI.ob0 (c_X5_free_x l hl0 g e0 z S _ hI av lv q hR h72 hW.2.1 0) (fun E h => h.1)) kw_346 kw_347 kw_61 kw_348 (by decide +kernel) ⟨Nat.le_of_ble_eq_true rfl, Nat.le_of_ble_eq_true rfl⟩ rfl hl.1 rfl (Nat.le_of_ble_eq_true rfl) dL_areStocks_85 ⟨(by show 0 + 1 + 1 + 1 + 1 + 1 + 1 + 1 + 1 + 1 ≤ 45; omega), (by show 0 + 6 + 6 + 6 + 6 + 6 + 6 + 6 + 6 + 6 ≤ 270; omega)⟩) rfl hD hS hA (fun r18 T1 H locs hp hP hq1x hq2x hq3x hf1 hS => ?_)
            clear hq1x hq2x hq3x
            have hO := kO_keep hO hdis hf1
            obtain ⟨hT, nr18⟩ := kp_A (i := 0) hp (by decide : (0 : Int32).toInt = ((0 : Nat) : Int)) (by omega) (by omega) (by omega)
            subst hT
            clear hp
            refine lv_aload_n hx hb dL_areStocks_88 rfl (lv_at hl 3 rfl) ?_
            refine lv_iload hx hb dL_areStocks_89 (lv_at hl 1 rfl) ?_
            refine kcallhI (kSthW (n := 2) (As := [.ref (z 0), .int 0]) (rest := [.int r18, .int 1]) F hE hNc hK hP hD hS hA (kh_stock l g e0 S _ (z 0) 0 _ _ hI.ob0 (c_X5_stock_x l hl0 g e0 z S _ hI av lv q hR h72 0) (fun E h => h.1)) kw_188 kw_189 kw_61 kw_190 (by decide +kernel) ⟨Nat.le_of_ble_eq_true rfl, Nat.le_of_ble_eq_true rfl⟩ rfl hl.1 rfl (Nat.le_of_ble_eq_true rfl) dL_areStocks_91 ⟨(by show 0 + 1 + 1 + 1 + 1 + 1 + 1 + 1 + 1 + 1 + 1 ≤ 45; omega), (by show 0 + 6 + 6 + 6 + 6 + 6 + 6 + 6 + 6 + 6 + 6 ≤ 270; omega)⟩) rfl hD hS hA (fun r19 T1 H locs hp hP hq1x hq2x hq3x hf1 hS => ?_)
            clear hq1x hq2x hq3x
            have hO := kO_keep hO hdis hf1
            obtain ⟨hT, nr19⟩ := kp_A (i := 0) hp (by decide : (0 : Int32).toInt = ((0 : Nat) : Int)) (by omega) (by omega) (by omega)
            subst hT
            clear hp
            refine lv_aload_n hx hb dL_areStocks_94 rfl (lv_at hl 3 rfl) ?_
            refine lv_iload hx hb dL_areStocks_95 (lv_at hl 1 rfl) ?_
            refine kcallhI (kSthW (n := 2) (As := [.ref (z 0), .int 0]) (rest := [.int r19, .int r18, .int 1]) F hE hNc hK hP hD hS hA (kh_promised l g e0 S _ (z 0) 0 _ _ hI.ob0 (c_X5_promised_x l hl0 g e0 z S _ hI av lv q hR h72 0) (fun E h => h.1)) kw_228 kw_229 kw_61 kw_230 (by decide +kernel) ⟨Nat.le_of_ble_eq_true rfl, Nat.le_of_ble_eq_true rfl⟩ rfl hl.1 rfl (Nat.le_of_ble_eq_true rfl) dL_areStocks_97 ⟨(by show 0 + 1 + 1 + 1 + 1 + 1 + 1 + 1 + 1 + 1 + 1 + 1 ≤ 45; omega), (by show 0 + 6 + 6 + 6 + 6 + 6 + 6 + 6 + 6 + 6 + 6 + 6 ≤ 270; omega)⟩) rfl hD hS hA (fun r20 T1 H locs hp hP hq1x hq2x hq3x hf1 hS => ?_)
            clear hq1x hq2x hq3x
            have hO := kO_keep hO hdis hf1
            obtain ⟨hT, nr20⟩ := kp_A (i := 0) hp (by decide : (0 : Int32).toInt = ((0 : Nat) : Int)) (by omega) (by omega) (by omega)
            subst hT
            clear hp
            refine lv_isub hx hb dL_areStocks_100 ?_
            refine lv_topi (fun x21 ex21 => ?_)
            have tx21 : x21.toInt = r19.toInt - r20.toInt := kt_sub ex21 (rfl : r19.toInt = r19.toInt) (rfl : r20.toInt = r20.toInt) (by omega) (by omega)
            refine lv_icmp_ne (tgt := 123) hx hb dL_areStocks_101 (by decide) (fun c22 => ?_) (fun c22 => ?_)
            · have d22 : r18.toInt ≠ x21.toInt := mt (kc_eq (rfl : r18.toInt = r18.toInt) (rfl : x21.toInt = x21.toInt)).mpr c22
              exfalso; omega
            · have d22 : r18.toInt = x21.toInt := (kc_eq (rfl : r18.toInt = r18.toInt) (rfl : x21.toInt = x21.toInt)).mp c22
              refine lv_aload_n hx hb dL_areStocks_104 rfl (lv_at hl 3 rfl) ?_
              refine lv_iload hx hb dL_areStocks_105 (lv_at hl 1 rfl) ?_
              refine kcallhI (kSthW (n := 2) (As := [.ref (z 0), .int 0]) (rest := [.int 1]) F hE hNc hK hP hD hS hA (kh_promised l g e0 S _ (z 0) 0 _ _ hI.ob0 (c_X5_promised_x l hl0 g e0 z S _ hI av lv q hR h72 0) (fun E h => h.1)) kw_228 kw_229 kw_61 kw_230 (by decide +kernel) ⟨Nat.le_of_ble_eq_true rfl, Nat.le_of_ble_eq_true rfl⟩ rfl hl.1 rfl (Nat.le_of_ble_eq_true rfl) dL_areStocks_107 ⟨(by show 0 + 1 + 1 + 1 + 1 + 1 + 1 + 1 + 1 + 1 + 1 + 1 + 1 ≤ 45; omega), (by show 0 + 6 + 6 + 6 + 6 + 6 + 6 + 6 + 6 + 6 + 6 + 6 + 6 ≤ 270; omega)⟩) rfl hD hS hA (fun r23 T1 H locs hp hP hq1x hq2x hq3x hf1 hS => ?_)
              clear hq1x hq2x hq3x
              have hO := kO_keep hO hdis hf1
              obtain ⟨hT, nr23⟩ := kp_A (i := 0) hp (by decide : (0 : Int32).toInt = ((0 : Nat) : Int)) (by omega) (by omega) (by omega)
              subst hT
              clear hp
              refine lv_aload_n hx hb dL_areStocks_110 rfl (lv_at hl 3 rfl) ?_
              refine lv_iload hx hb dL_areStocks_111 (lv_at hl 1 rfl) ?_
              refine kcallhI (kSthW (n := 2) (As := [.ref (z 0), .int 0]) (rest := [.int r23, .int 1]) F hE hNc hK hP hD hS hA (kh_promisedByScans l g e0 S _ (z 0) 0 _ _ hI.ob0 (c_X5_promisedByScans_x l hl0 g e0 z S _ hI av lv q hR hW.1 0) (fun E h => h.1)) kw_488 kw_489 kw_61 kw_490 (by decide +kernel) ⟨Nat.le_of_ble_eq_true rfl, Nat.le_of_ble_eq_true rfl⟩ rfl hl.1 rfl (Nat.le_of_ble_eq_true rfl) dL_areStocks_113 ⟨(by show 0 + 1 + 1 + 1 + 1 + 1 + 1 + 1 + 1 + 1 + 1 + 1 + 1 + 1 ≤ 45; omega), (by show 0 + 6 + 6 + 6 + 6 + 6 + 6 + 6 + 6 + 6 + 6 + 6 + 6 + 6 ≤ 270; omega)⟩) rfl hD hS hA (fun r24 T1 H locs hp hP hq1x hq2x hq3x hf1 hS => ?_)
              clear hq1x hq2x hq3x
              have hO := kO_keep hO hdis hf1
              obtain ⟨hT, nr24⟩ := kp_A (i := 0) hp (by decide : (0 : Int32).toInt = ((0 : Nat) : Int)) (by omega) (by omega) (by omega)
              subst hT
              clear hp
              refine lv_icmp_ne (tgt := 123) hx hb dL_areStocks_116 (by decide) (fun c25 => ?_) (fun c25 => ?_)
              · have d25 : r23.toInt ≠ r24.toInt := mt (kc_eq (rfl : r23.toInt = r23.toInt) (rfl : r24.toInt = r24.toInt)).mpr c25
                exfalso; omega
              · have d25 : r23.toInt = r24.toInt := (kc_eq (rfl : r23.toInt = r23.toInt) (rfl : r24.toInt = r24.toInt)).mp c25
                refine lv_iconst (v := 1) hx hb dL_areStocks_119 (by decide) ?_
                refine lv_goto (tgt := 124) hx hb dL_areStocks_120 (by decide) ?_
                refine lv_iand hx hb dL_areStocks_124 ?_
                refine lv_topi (fun x26 e26 => ?_)
                obtain rfl : x26 = 1 := e26.trans (by decide)
                refine lv_istore (lv' := [(4, .int 1), (3, .int x8), (5, .int 0), (0, .ref (z 0)), (1, .int un), (2, .ref rr)]) hx hb dL_areStocks_125 hl (by decide) rfl (fun ls hl => ?_)
                have nA27 : x8.toInt = ((q 31 0 + q 31 1 + q 12 0 + q 13 0 : Nat) : Int) := by omega
                clear nr1 nr2 ex3 tx3 c4 nr5 nr6 ex7 tx7 ex8 tx8 nr9 c10 d10 nr11 ex12 nx12 c13 d13 nr14 c15 d15 nr16 c17 d17 nr18 nr19 nr20 ex21 tx21 c22 d22 nr23 nr24 c25 d25 e26
                refine lv_iinc (v := 1) (lv' := [(5, .int 1), (4, .int 1), (3, .int x8), (0, .ref (z 0)), (1, .int un), (2, .ref rr)]) hx hb dL_areStocks_127 hl (k := 2) rfl (by decide) (by decide) rfl (fun ls hl => ?_)
                refine lv_goto (tgt := 18) hx hb dL_areStocks_130 (by decide) ?_
                refine lv_iload hx hb dL_areStocks_18 (lv_at hl 0 rfl) ?_
                refine lv_iconst (v := 3) hx hb dL_areStocks_20 (by decide) ?_
                refine lv_icmp_ge (tgt := 133) hx hb dL_areStocks_21 (by decide) (fun c28 => ?_) (fun c28 => ?_)
                · exact absurd c28 (by decide)
                · refine lv_iload_n hx hb dL_areStocks_24 rfl (lv_at hl 2 rfl) ?_
                  refine lv_aload_n hx hb dL_areStocks_25 rfl (lv_at hl 3 rfl) ?_
                  refine lv_iload hx hb dL_areStocks_26 (lv_at hl 0 rfl) ?_
                  refine kcallhI (kSthW (n := 2) (As := [.ref (z 0), .int 1]) (rest := [.int x8]) F hE hNc hK hP hD hS hA (kh_stock l g e0 S _ (z 0) 1 _ _ hI.ob0 (c_X5_stock_x l hl0 g e0 z S _ hI av lv q hR h72 1) (fun E h => h.1)) kw_188 kw_189 kw_61 kw_190 (by decide +kernel) ⟨Nat.le_of_ble_eq_true rfl, Nat.le_of_ble_eq_true rfl⟩ rfl hl.1 rfl (Nat.le_of_ble_eq_true rfl) dL_areStocks_28 ⟨(by show 0 + 1 + 1 + 1 + 1 + 1 + 1 + 1 + 1 + 1 + 1 + 1 + 1 + 1 + 1 ≤ 45; omega), (by show 0 + 6 + 6 + 6 + 6 + 6 + 6 + 6 + 6 + 6 + 6 + 6 + 6 + 6 + 6 ≤ 270; omega)⟩) rfl hD hS hA (fun r29 T1 H locs hp hP hq1x hq2x hq3x hf1 hS => ?_)
                  clear hq1x hq2x hq3x
                  have hO := kO_keep hO hdis hf1
                  obtain ⟨hT, nr29⟩ := kp_A (i := 1) hp (by decide : (1 : Int32).toInt = ((1 : Nat) : Int)) (by omega) (by omega) (by omega)
                  subst hT
                  clear hp
                  refine lv_aload_n hx hb dL_areStocks_31 rfl (lv_at hl 3 rfl) ?_
                  refine lv_iload hx hb dL_areStocks_32 (lv_at hl 0 rfl) ?_
                  refine kcallhI (kSthW (n := 2) (As := [.ref (z 0), .int 1]) (rest := [.int r29, .int x8]) F hE hNc hK hP hD hS hA (kh_reserve l g e0 S _ (z 0) 1 _ _ hI.ob0 (c_X5_reserve_x l hl0 g e0 z S _ hI av lv q hR h72 1) (fun E h => h.1)) kw_220 kw_221 kw_61 kw_222 (by decide +kernel) ⟨Nat.le_of_ble_eq_true rfl, Nat.le_of_ble_eq_true rfl⟩ rfl hl.1 rfl (Nat.le_of_ble_eq_true rfl) dL_areStocks_34 ⟨(by show 0 + 1 + 1 + 1 + 1 + 1 + 1 + 1 + 1 + 1 + 1 + 1 + 1 + 1 + 1 + 1 ≤ 45; omega), (by show 0 + 6 + 6 + 6 + 6 + 6 + 6 + 6 + 6 + 6 + 6 + 6 + 6 + 6 + 6 + 6 ≤ 270; omega)⟩) rfl hD hS hA (fun r30 T1 H locs hp hP hq1x hq2x hq3x hf1 hS => ?_)
                  clear hq1x hq2x hq3x
                  have hO := kO_keep hO hdis hf1
                  obtain ⟨hT, nr30⟩ := kp_A (i := 1) hp (by decide : (1 : Int32).toInt = ((1 : Nat) : Int)) (by omega) (by omega) (by omega)
                  subst hT
                  clear hp
                  refine lv_iadd hx hb dL_areStocks_37 ?_
                  refine lv_topi (fun x31 ex31 => ?_)
                  have tx31 : x31.toInt = r29.toInt + r30.toInt := kt_add ex31 (rfl : r29.toInt = r29.toInt) (rfl : r30.toInt = r30.toInt) (by omega) (by omega)
                  refine lv_iadd hx hb dL_areStocks_38 ?_
                  refine lv_topi (fun x32 ex32 => ?_)
                  have tx32 : x32.toInt = x8.toInt + x31.toInt := kt_add ex32 (rfl : x8.toInt = x8.toInt) (rfl : x31.toInt = x31.toInt) (by omega) (by omega)
                  refine lv_istore_n (lv' := [(3, .int x32), (5, .int 1), (4, .int 1), (0, .ref (z 0)), (1, .int un), (2, .ref rr)]) hx hb dL_areStocks_39 rfl hl (by decide) rfl (fun ls hl => ?_)
                  refine lv_iload hx hb dL_areStocks_40 (lv_at hl 2 rfl) ?_
                  refine lv_aload_n hx hb dL_areStocks_42 rfl (lv_at hl 3 rfl) ?_
                  refine lv_iload hx hb dL_areStocks_43 (lv_at hl 1 rfl) ?_
                  refine kcallhI (kSthW (n := 2) (As := [.ref (z 0), .int 1]) (rest := [.int 1]) F hE hNc hK hP hD hS hA (kh_stock l g e0 S _ (z 0) 1 _ _ hI.ob0 (c_X5_stock_x l hl0 g e0 z S _ hI av lv q hR h72 1) (fun E h => h.1)) kw_188 kw_189 kw_61 kw_190 (by decide +kernel) ⟨Nat.le_of_ble_eq_true rfl, Nat.le_of_ble_eq_true rfl⟩ rfl hl.1 rfl (Nat.le_of_ble_eq_true rfl) dL_areStocks_45 ⟨(by show 0 + 1 + 1 + 1 + 1 + 1 + 1 + 1 + 1 + 1 + 1 + 1 + 1 + 1 + 1 + 1 + 1 ≤ 45; omega), (by show 0 + 6 + 6 + 6 + 6 + 6 + 6 + 6 + 6 + 6 + 6 + 6 + 6 + 6 + 6 + 6 + 6 ≤ 270; omega)⟩) rfl hD hS hA (fun r33 T1 H locs hp hP hq1x hq2x hq3x hf1 hS => ?_)
                  clear hq1x hq2x hq3x
                  have hO := kO_keep hO hdis hf1
                  obtain ⟨hT, nr33⟩ := kp_A (i := 1) hp (by decide : (1 : Int32).toInt = ((1 : Nat) : Int)) (by omega) (by omega) (by omega)
                  subst hT
                  clear hp
                  refine lv_if_lt (tgt := 123) hx hb dL_areStocks_48 (by decide) (fun c34 => ?_) (fun c34 => ?_)
                  · have d34 : r33.toInt < (0) := (kc_lt (rfl : r33.toInt = r33.toInt) (by decide : (0 : Int32).toInt = 0)).mp c34
                    exfalso; omega
                  · have d34 : ¬ (r33.toInt < (0)) := mt (kc_lt (rfl : r33.toInt = r33.toInt) (by decide : (0 : Int32).toInt = 0)).mpr c34
                    refine lv_aload_n hx hb dL_areStocks_51 rfl (lv_at hl 3 rfl) ?_
                    refine lv_iload hx hb dL_areStocks_52 (lv_at hl 1 rfl) ?_
                    refine kcallhI (kSthW (n := 2) (As := [.ref (z 0), .int 1]) (rest := [.int 1]) F hE hNc hK hP hD hS hA (kh_stock l g e0 S _ (z 0) 1 _ _ hI.ob0 (c_X5_stock_x l hl0 g e0 z S _ hI av lv q hR h72 1) (fun E h => h.1)) kw_188 kw_189 kw_61 kw_190 (by decide +kernel) ⟨Nat.le_of_ble_eq_true rfl, Nat.le_of_ble_eq_true rfl⟩ rfl hl.1 rfl (Nat.le_of_ble_eq_true rfl) dL_areStocks_54 ⟨(by show 0 + 1 + 1 + 1 + 1 + 1 + 1 + 1 + 1 + 1 + 1 + 1 + 1 + 1 + 1 + 1 + 1 + 1 ≤ 45; omega), (by show 0 + 6 + 6 + 6 + 6 + 6 + 6 + 6 + 6 + 6 + 6 + 6 + 6 + 6 + 6 + 6 + 6 + 6 ≤ 270; omega)⟩) rfl hD hS hA (fun r35 T1 H locs hp hP hq1x hq2x hq3x hf1 hS => ?_)
                    clear hq1x hq2x hq3x
                    have hO := kO_keep hO hdis hf1
                    obtain ⟨hT, nr35⟩ := kp_A (i := 1) hp (by decide : (1 : Int32).toInt = ((1 : Nat) : Int)) (by omega) (by omega) (by omega)
                    subst hT
                    clear hp
                    refine lv_aload_n hx hb dL_areStocks_57 rfl (lv_at hl 5 rfl) ?_
                    refine lv_iload hx hb dL_areStocks_58 (lv_at hl 1 rfl) ?_
                    refine rd_I F hK hO orr (by rw [lr]; exact kt_in (by decide : (1 : Int32).toInt = ((1 : Nat) : Int)) (by omega) (by decide)) dL_areStocks_60 ?_
                    refine lv_topi (fun x36 ex36 => ?_)
                    have nx36 : x36.toInt = ((q 11 1 : Nat) : Int) := kt_nI (by rw [ex36, kt_clamp (by decide : (1 : Int32).toInt = ((1 : Nat) : Int)) (by omega)]; exact (hra 1 (by omega)).2) (by omega)
                    refine lv_icmp_gt (tgt := 123) hx hb dL_areStocks_61 (by decide) (fun c37 => ?_) (fun c37 => ?_)
                    · have d37 : x36.toInt < r35.toInt := (kc_lt (rfl : x36.toInt = x36.toInt) (rfl : r35.toInt = r35.toInt)).mp c37
                      exfalso; omega
                    · have d37 : ¬ (x36.toInt < r35.toInt) := mt (kc_lt (rfl : x36.toInt = x36.toInt) (rfl : r35.toInt = r35.toInt)).mpr c37
                      refine lv_aload_n hx hb dL_areStocks_64 rfl (lv_at hl 3 rfl) ?_
                      refine lv_iload hx hb dL_areStocks_65 (lv_at hl 1 rfl) ?_
                      refine kcallhI (kSthW (n := 2) (As := [.ref (z 0), .int 1]) (rest := [.int 1]) F hE hNc hK hP hD hS hA (kh_reserve l g e0 S _ (z 0) 1 _ _ hI.ob0 (c_X5_reserve_x l hl0 g e0 z S _ hI av lv q hR h72 1) (fun E h => h.1)) kw_220 kw_221 kw_61 kw_222 (by decide +kernel) ⟨Nat.le_of_ble_eq_true rfl, Nat.le_of_ble_eq_true rfl⟩ rfl hl.1 rfl (Nat.le_of_ble_eq_true rfl) dL_areStocks_67 ⟨(by show 0 + 1 + 1 + 1 + 1 + 1 + 1 + 1 + 1 + 1 + 1 + 1 + 1 + 1 + 1 + 1 + 1 + 1 + 1 ≤ 45; omega), (by show 0 + 6 + 6 + 6 + 6 + 6 + 6 + 6 + 6 + 6 + 6 + 6 + 6 + 6 + 6 + 6 + 6 + 6 + 6 ≤ 270; omega)⟩) rfl hD hS hA (fun r38 T1 H locs hp hP hq1x hq2x hq3x hf1 hS => ?_)
                      clear hq1x hq2x hq3x
                      have hO := kO_keep hO hdis hf1
                      obtain ⟨hT, nr38⟩ := kp_A (i := 1) hp (by decide : (1 : Int32).toInt = ((1 : Nat) : Int)) (by omega) (by omega) (by omega)
                      subst hT
                      clear hp
                      refine lv_if_lt (tgt := 123) hx hb dL_areStocks_70 (by decide) (fun c39 => ?_) (fun c39 => ?_)
                      · have d39 : r38.toInt < (0) := (kc_lt (rfl : r38.toInt = r38.toInt) (by decide : (0 : Int32).toInt = 0)).mp c39
                        exfalso; omega
                      · have d39 : ¬ (r38.toInt < (0)) := mt (kc_lt (rfl : r38.toInt = r38.toInt) (by decide : (0 : Int32).toInt = 0)).mpr c39
                        refine lv_aload_n hx hb dL_areStocks_73 rfl (lv_at hl 3 rfl) ?_
                        refine lv_iload hx hb dL_areStocks_74 (lv_at hl 1 rfl) ?_
                        refine kcallhI (kSthW (n := 2) (As := [.ref (z 0), .int 1]) (rest := [.int 1]) F hE hNc hK hP hD hS hA (kh_free l g e0 S _ (z 0) 1 _ _ hI.ob0 (c_X5_free_x l hl0 g e0 z S _ hI av lv q hR h72 hW.2.1 1) (fun E h => h.1)) kw_346 kw_347 kw_61 kw_348 (by decide +kernel) ⟨Nat.le_of_ble_eq_true rfl, Nat.le_of_ble_eq_true rfl⟩ rfl hl.1 rfl (Nat.le_of_ble_eq_true rfl) dL_areStocks_76 ⟨(by show 0 + 1 + 1 + 1 + 1 + 1 + 1 + 1 + 1 + 1 + 1 + 1 + 1 + 1 + 1 + 1 + 1 + 1 + 1 + 1 ≤ 45; omega), (by show 0 + 6 + 6 + 6 + 6 + 6 + 6 + 6 + 6 + 6 + 6 + 6 + 6 + 6 + 6 + 6 + 6 + 6 + 6 + 6 ≤ 270; omega)⟩) rfl hD hS hA (fun r40 T1 H locs hp hP hq1x hq2x hq3x hf1 hS => ?_)
                        clear hq1x hq2x hq3x
                        have hO := kO_keep hO hdis hf1
                        obtain ⟨hT, nr40⟩ := kp_A (i := 1) hp (by decide : (1 : Int32).toInt = ((1 : Nat) : Int)) (by omega) (by omega) (by omega)
                        subst hT
                        clear hp
                        refine lv_if_lt (tgt := 123) hx hb dL_areStocks_79 (by decide) (fun c41 => ?_) (fun c41 => ?_)
                        · have d41 : r40.toInt < (0) := (kc_lt (rfl : r40.toInt = r40.toInt) (by decide : (0 : Int32).toInt = 0)).mp c41
                          exfalso; omega
                        · have d41 : ¬ (r40.toInt < (0)) := mt (kc_lt (rfl : r40.toInt = r40.toInt) (by decide : (0 : Int32).toInt = 0)).mpr c41
                          refine lv_aload_n hx hb dL_areStocks_82 rfl (lv_at hl 3 rfl) ?_
                          refine lv_iload hx hb dL_areStocks_83 (lv_at hl 1 rfl) ?_
                          refine kcallhI (kSthW (n := 2) (As := [.ref (z 0), .int 1]) (rest := [.int 1]) F hE hNc hK hP hD hS hA (kh_free l g e0 S _ (z 0) 1 _ _ hI.ob0 (c_X5_free_x l hl0 g e0 z S _ hI av lv q hR h72 hW.2.1 1) (fun E h => h.1)) kw_346 kw_347 kw_61 kw_348 (by decide +kernel) ⟨Nat.le_of_ble_eq_true rfl, Nat.le_of_ble_eq_true rfl⟩ rfl hl.1 rfl (Nat.le_of_ble_eq_true rfl) dL_areStocks_85 ⟨(by show 0 + 1 + 1 + 1 + 1 + 1 + 1 + 1 + 1 + 1 + 1 + 1 + 1 + 1 + 1 + 1 + 1 + 1 + 1 + 1 + 1 ≤ 45; omega), (by show 0 + 6 + 6 + 6 + 6 + 6 + 6 + 6 + 6 + 6 + 6 + 6 + 6 + 6 + 6 + 6 + 6 + 6 + 6 + 6 + 6 ≤ 270; omega)⟩) rfl hD hS hA (fun r42 T1 H locs hp hP hq1x hq2x hq3x hf1 hS => ?_)
                          clear hq1x hq2x hq3x
                          have hO := kO_keep hO hdis hf1
                          obtain ⟨hT, nr42⟩ := kp_A (i := 1) hp (by decide : (1 : Int32).toInt = ((1 : Nat) : Int)) (by omega) (by omega) (by omega)
                          subst hT
                          clear hp
                          refine lv_aload_n hx hb dL_areStocks_88 rfl (lv_at hl 3 rfl) ?_
                          refine lv_iload hx hb dL_areStocks_89 (lv_at hl 1 rfl) ?_
                          refine kcallhI (kSthW (n := 2) (As := [.ref (z 0), .int 1]) (rest := [.int r42, .int 1]) F hE hNc hK hP hD hS hA (kh_stock l g e0 S _ (z 0) 1 _ _ hI.ob0 (c_X5_stock_x l hl0 g e0 z S _ hI av lv q hR h72 1) (fun E h => h.1)) kw_188 kw_189 kw_61 kw_190 (by decide +kernel) ⟨Nat.le_of_ble_eq_true rfl, Nat.le_of_ble_eq_true rfl⟩ rfl hl.1 rfl (Nat.le_of_ble_eq_true rfl) dL_areStocks_91 ⟨(by show 0 + 1 + 1 + 1 + 1 + 1 + 1 + 1 + 1 + 1 + 1 + 1 + 1 + 1 + 1 + 1 + 1 + 1 + 1 + 1 + 1 + 1 ≤ 45; omega), (by show 0 + 6 + 6 + 6 + 6 + 6 + 6 + 6 + 6 + 6 + 6 + 6 + 6 + 6 + 6 + 6 + 6 + 6 + 6 + 6 + 6 + 6 ≤ 270; omega)⟩) rfl hD hS hA (fun r43 T1 H locs hp hP hq1x hq2x hq3x hf1 hS => ?_)
                          clear hq1x hq2x hq3x
                          have hO := kO_keep hO hdis hf1
                          obtain ⟨hT, nr43⟩ := kp_A (i := 1) hp (by decide : (1 : Int32).toInt = ((1 : Nat) : Int)) (by omega) (by omega) (by omega)
                          subst hT
                          clear hp
                          refine lv_aload_n hx hb dL_areStocks_94 rfl (lv_at hl 3 rfl) ?_
                          refine lv_iload hx hb dL_areStocks_95 (lv_at hl 1 rfl) ?_
                          refine kcallhI (kSthW (n := 2) (As := [.ref (z 0), .int 1]) (rest := [.int r43, .int r42, .int 1]) F hE hNc hK hP hD hS hA (kh_promised l g e0 S _ (z 0) 1 _ _ hI.ob0 (c_X5_promised_x l hl0 g e0 z S _ hI av lv q hR h72 1) (fun E h => h.1)) kw_228 kw_229 kw_61 kw_230 (by decide +kernel) ⟨Nat.le_of_ble_eq_true rfl, Nat.le_of_ble_eq_true rfl⟩ rfl hl.1 rfl (Nat.le_of_ble_eq_true rfl) dL_areStocks_97 ⟨(by show 0 + 1 + 1 + 1 + 1 + 1 + 1 + 1 + 1 + 1 + 1 + 1 + 1 + 1 + 1 + 1 + 1 + 1 + 1 + 1 + 1 + 1 + 1 ≤ 45; omega), (by show 0 + 6 + 6 + 6 + 6 + 6 + 6 + 6 + 6 + 6 + 6 + 6 + 6 + 6 + 6 + 6 + 6 + 6 + 6 + 6 + 6 + 6 + 6 ≤ 270; omega)⟩) rfl hD hS hA (fun r44 T1 H locs hp hP hq1x hq2x hq3x hf1 hS => ?_)
                          clear hq1x hq2x hq3x
                          have hO := kO_keep hO hdis hf1
                          obtain ⟨hT, nr44⟩ := kp_A (i := 1) hp (by decide : (1 : Int32).toInt = ((1 : Nat) : Int)) (by omega) (by omega) (by omega)
                          subst hT
                          clear hp
                          refine lv_isub hx hb dL_areStocks_100 ?_
                          refine lv_topi (fun x45 ex45 => ?_)
                          have tx45 : x45.toInt = r43.toInt - r44.toInt := kt_sub ex45 (rfl : r43.toInt = r43.toInt) (rfl : r44.toInt = r44.toInt) (by omega) (by omega)
                          refine lv_icmp_ne (tgt := 123) hx hb dL_areStocks_101 (by decide) (fun c46 => ?_) (fun c46 => ?_)
                          · have d46 : r42.toInt ≠ x45.toInt := mt (kc_eq (rfl : r42.toInt = r42.toInt) (rfl : x45.toInt = x45.toInt)).mpr c46
                            exfalso; omega
                          · have d46 : r42.toInt = x45.toInt := (kc_eq (rfl : r42.toInt = r42.toInt) (rfl : x45.toInt = x45.toInt)).mp c46
                            refine lv_aload_n hx hb dL_areStocks_104 rfl (lv_at hl 3 rfl) ?_
                            refine lv_iload hx hb dL_areStocks_105 (lv_at hl 1 rfl) ?_
                            refine kcallhI (kSthW (n := 2) (As := [.ref (z 0), .int 1]) (rest := [.int 1]) F hE hNc hK hP hD hS hA (kh_promised l g e0 S _ (z 0) 1 _ _ hI.ob0 (c_X5_promised_x l hl0 g e0 z S _ hI av lv q hR h72 1) (fun E h => h.1)) kw_228 kw_229 kw_61 kw_230 (by decide +kernel) ⟨Nat.le_of_ble_eq_true rfl, Nat.le_of_ble_eq_true rfl⟩ rfl hl.1 rfl (Nat.le_of_ble_eq_true rfl) dL_areStocks_107 ⟨(by show 0 + 1 + 1 + 1 + 1 + 1 + 1 + 1 + 1 + 1 + 1 + 1 + 1 + 1 + 1 + 1 + 1 + 1 + 1 + 1 + 1 + 1 + 1 + 1 ≤ 45; omega), (by show 0 + 6 + 6 + 6 + 6 + 6 + 6 + 6 + 6 + 6 + 6 + 6 + 6 + 6 + 6 + 6 + 6 + 6 + 6 + 6 + 6 + 6 + 6 + 6 ≤ 270; omega)⟩) rfl hD hS hA (fun r47 T1 H locs hp hP hq1x hq2x hq3x hf1 hS => ?_)
                            clear hq1x hq2x hq3x
                            have hO := kO_keep hO hdis hf1
                            obtain ⟨hT, nr47⟩ := kp_A (i := 1) hp (by decide : (1 : Int32).toInt = ((1 : Nat) : Int)) (by omega) (by omega) (by omega)
                            subst hT
                            clear hp
                            refine lv_aload_n hx hb dL_areStocks_110 rfl (lv_at hl 3 rfl) ?_
                            refine lv_iload hx hb dL_areStocks_111 (lv_at hl 1 rfl) ?_
                            refine kcallhI (kSthW (n := 2) (As := [.ref (z 0), .int 1]) (rest := [.int r47, .int 1]) F hE hNc hK hP hD hS hA (kh_promisedByScans l g e0 S _ (z 0) 1 _ _ hI.ob0 (c_X5_promisedByScans_x l hl0 g e0 z S _ hI av lv q hR hW.1 1) (fun E h => h.1)) kw_488 kw_489 kw_61 kw_490 (by decide +kernel) ⟨Nat.le_of_ble_eq_true rfl, Nat.le_of_ble_eq_true rfl⟩ rfl hl.1 rfl (Nat.le_of_ble_eq_true rfl) dL_areStocks_113 ⟨(by show 0 + 1 + 1 + 1 + 1 + 1 + 1 + 1 + 1 + 1 + 1 + 1 + 1 + 1 + 1 + 1 + 1 + 1 + 1 + 1 + 1 + 1 + 1 + 1 + 1 ≤ 45; omega), (by show 0 + 6 + 6 + 6 + 6 + 6 + 6 + 6 + 6 + 6 + 6 + 6 + 6 + 6 + 6 + 6 + 6 + 6 + 6 + 6 + 6 + 6 + 6 + 6 + 6 ≤ 270; omega)⟩) rfl hD hS hA (fun r48 T1 H locs hp hP hq1x hq2x hq3x hf1 hS => ?_)
                            clear hq1x hq2x hq3x
                            have hO := kO_keep hO hdis hf1
                            obtain ⟨hT, nr48⟩ := kp_A (i := 1) hp (by decide : (1 : Int32).toInt = ((1 : Nat) : Int)) (by omega) (by omega) (by omega)
                            subst hT
                            clear hp
                            refine lv_icmp_ne (tgt := 123) hx hb dL_areStocks_116 (by decide) (fun c49 => ?_) (fun c49 => ?_)
                            · have d49 : r47.toInt ≠ r48.toInt := mt (kc_eq (rfl : r47.toInt = r47.toInt) (rfl : r48.toInt = r48.toInt)).mpr c49
                              exfalso; omega
                            · have d49 : r47.toInt = r48.toInt := (kc_eq (rfl : r47.toInt = r47.toInt) (rfl : r48.toInt = r48.toInt)).mp c49
                              refine lv_iconst (v := 1) hx hb dL_areStocks_119 (by decide) ?_
                              refine lv_goto (tgt := 124) hx hb dL_areStocks_120 (by decide) ?_
                              refine lv_iand hx hb dL_areStocks_124 ?_
                              refine lv_topi (fun x50 e50 => ?_)
                              obtain rfl : x50 = 1 := e50.trans (by decide)
                              refine lv_istore (lv' := [(4, .int 1), (3, .int x32), (5, .int 1), (0, .ref (z 0)), (1, .int un), (2, .ref rr)]) hx hb dL_areStocks_125 hl (by decide) rfl (fun ls hl => ?_)
                              have nA51 : x32.toInt = ((q 31 0 + q 31 1 + q 12 0 + q 13 0 + q 12 1 + q 13 1 : Nat) : Int) := by omega
                              clear nA27 c28 nr29 nr30 ex31 tx31 ex32 tx32 nr33 c34 d34 nr35 ex36 nx36 c37 d37 nr38 c39 d39 nr40 c41 d41 nr42 nr43 nr44 ex45 tx45 c46 d46 nr47 nr48 c49 d49 e50
                              refine lv_iinc (v := 2) (lv' := [(5, .int 2), (4, .int 1), (3, .int x32), (0, .ref (z 0)), (1, .int un), (2, .ref rr)]) hx hb dL_areStocks_127 hl (k := 2) rfl (by decide) (by decide) rfl (fun ls hl => ?_)
                              refine lv_goto (tgt := 18) hx hb dL_areStocks_130 (by decide) ?_
                              refine lv_iload hx hb dL_areStocks_18 (lv_at hl 0 rfl) ?_
                              refine lv_iconst (v := 3) hx hb dL_areStocks_20 (by decide) ?_
                              refine lv_icmp_ge (tgt := 133) hx hb dL_areStocks_21 (by decide) (fun c52 => ?_) (fun c52 => ?_)
                              · exact absurd c52 (by decide)
                              · refine lv_iload_n hx hb dL_areStocks_24 rfl (lv_at hl 2 rfl) ?_
                                refine lv_aload_n hx hb dL_areStocks_25 rfl (lv_at hl 3 rfl) ?_
                                refine lv_iload hx hb dL_areStocks_26 (lv_at hl 0 rfl) ?_
                                refine kcallhI (kSthW (n := 2) (As := [.ref (z 0), .int 2]) (rest := [.int x32]) F hE hNc hK hP hD hS hA (kh_stock l g e0 S _ (z 0) 2 _ _ hI.ob0 (c_X5_stock_x l hl0 g e0 z S _ hI av lv q hR h72 2) (fun E h => h.1)) kw_188 kw_189 kw_61 kw_190 (by decide +kernel) ⟨Nat.le_of_ble_eq_true rfl, Nat.le_of_ble_eq_true rfl⟩ rfl hl.1 rfl (Nat.le_of_ble_eq_true rfl) dL_areStocks_28 ⟨(by show 0 + 1 + 1 + 1 + 1 + 1 + 1 + 1 + 1 + 1 + 1 + 1 + 1 + 1 + 1 + 1 + 1 + 1 + 1 + 1 + 1 + 1 + 1 + 1 + 1 + 1 ≤ 45; omega), (by show 0 + 6 + 6 + 6 + 6 + 6 + 6 + 6 + 6 + 6 + 6 + 6 + 6 + 6 + 6 + 6 + 6 + 6 + 6 + 6 + 6 + 6 + 6 + 6 + 6 + 6 ≤ 270; omega)⟩) rfl hD hS hA (fun r53 T1 H locs hp hP hq1x hq2x hq3x hf1 hS => ?_)
                                clear hq1x hq2x hq3x
                                have hO := kO_keep hO hdis hf1
                                obtain ⟨hT, nr53⟩ := kp_A (i := 2) hp (by decide : (2 : Int32).toInt = ((2 : Nat) : Int)) (by omega) (by omega) (by omega)
                                subst hT
                                clear hp
                                refine lv_aload_n hx hb dL_areStocks_31 rfl (lv_at hl 3 rfl) ?_
                                refine lv_iload hx hb dL_areStocks_32 (lv_at hl 0 rfl) ?_
                                refine kcallhI (kSthW (n := 2) (As := [.ref (z 0), .int 2]) (rest := [.int r53, .int x32]) F hE hNc hK hP hD hS hA (kh_reserve l g e0 S _ (z 0) 2 _ _ hI.ob0 (c_X5_reserve_x l hl0 g e0 z S _ hI av lv q hR h72 2) (fun E h => h.1)) kw_220 kw_221 kw_61 kw_222 (by decide +kernel) ⟨Nat.le_of_ble_eq_true rfl, Nat.le_of_ble_eq_true rfl⟩ rfl hl.1 rfl (Nat.le_of_ble_eq_true rfl) dL_areStocks_34 ⟨(by show 0 + 1 + 1 + 1 + 1 + 1 + 1 + 1 + 1 + 1 + 1 + 1 + 1 + 1 + 1 + 1 + 1 + 1 + 1 + 1 + 1 + 1 + 1 + 1 + 1 + 1 + 1 ≤ 45; omega), (by show 0 + 6 + 6 + 6 + 6 + 6 + 6 + 6 + 6 + 6 + 6 + 6 + 6 + 6 + 6 + 6 + 6 + 6 + 6 + 6 + 6 + 6 + 6 + 6 + 6 + 6 + 6 ≤ 270; omega)⟩) rfl hD hS hA (fun r54 T1 H locs hp hP hq1x hq2x hq3x hf1 hS => ?_)
                                clear hq1x hq2x hq3x
                                have hO := kO_keep hO hdis hf1
                                obtain ⟨hT, nr54⟩ := kp_A (i := 2) hp (by decide : (2 : Int32).toInt = ((2 : Nat) : Int)) (by omega) (by omega) (by omega)
                                subst hT
                                clear hp
                                refine lv_iadd hx hb dL_areStocks_37 ?_
                                refine lv_topi (fun x55 ex55 => ?_)
                                have tx55 : x55.toInt = r53.toInt + r54.toInt := kt_add ex55 (rfl : r53.toInt = r53.toInt) (rfl : r54.toInt = r54.toInt) (by omega) (by omega)
                                refine lv_iadd hx hb dL_areStocks_38 ?_
                                refine lv_topi (fun x56 ex56 => ?_)
                                have tx56 : x56.toInt = x32.toInt + x55.toInt := kt_add ex56 (rfl : x32.toInt = x32.toInt) (rfl : x55.toInt = x55.toInt) (by omega) (by omega)
                                refine lv_istore_n (lv' := [(3, .int x56), (5, .int 2), (4, .int 1), (0, .ref (z 0)), (1, .int un), (2, .ref rr)]) hx hb dL_areStocks_39 rfl hl (by decide) rfl (fun ls hl => ?_)
                                refine lv_iload hx hb dL_areStocks_40 (lv_at hl 2 rfl) ?_
                                refine lv_aload_n hx hb dL_areStocks_42 rfl (lv_at hl 3 rfl) ?_
                                refine lv_iload hx hb dL_areStocks_43 (lv_at hl 1 rfl) ?_
                                refine kcallhI (kSthW (n := 2) (As := [.ref (z 0), .int 2]) (rest := [.int 1]) F hE hNc hK hP hD hS hA (kh_stock l g e0 S _ (z 0) 2 _ _ hI.ob0 (c_X5_stock_x l hl0 g e0 z S _ hI av lv q hR h72 2) (fun E h => h.1)) kw_188 kw_189 kw_61 kw_190 (by decide +kernel) ⟨Nat.le_of_ble_eq_true rfl, Nat.le_of_ble_eq_true rfl⟩ rfl hl.1 rfl (Nat.le_of_ble_eq_true rfl) dL_areStocks_45 ⟨(by show 0 + 1 + 1 + 1 + 1 + 1 + 1 + 1 + 1 + 1 + 1 + 1 + 1 + 1 + 1 + 1 + 1 + 1 + 1 + 1 + 1 + 1 + 1 + 1 + 1 + 1 + 1 + 1 ≤ 45; omega), (by show 0 + 6 + 6 + 6 + 6 + 6 + 6 + 6 + 6 + 6 + 6 + 6 + 6 + 6 + 6 + 6 + 6 + 6 + 6 + 6 + 6 + 6 + 6 + 6 + 6 + 6 + 6 + 6 ≤ 270; omega)⟩) rfl hD hS hA (fun r57 T1 H locs hp hP hq1x hq2x hq3x hf1 hS => ?_)
                                clear hq1x hq2x hq3x
                                have hO := kO_keep hO hdis hf1
                                obtain ⟨hT, nr57⟩ := kp_A (i := 2) hp (by decide : (2 : Int32).toInt = ((2 : Nat) : Int)) (by omega) (by omega) (by omega)
                                subst hT
                                clear hp
                                refine lv_if_lt (tgt := 123) hx hb dL_areStocks_48 (by decide) (fun c58 => ?_) (fun c58 => ?_)
                                · have d58 : r57.toInt < (0) := (kc_lt (rfl : r57.toInt = r57.toInt) (by decide : (0 : Int32).toInt = 0)).mp c58
                                  exfalso; omega
                                · have d58 : ¬ (r57.toInt < (0)) := mt (kc_lt (rfl : r57.toInt = r57.toInt) (by decide : (0 : Int32).toInt = 0)).mpr c58
                                  refine lv_aload_n hx hb dL_areStocks_51 rfl (lv_at hl 3 rfl) ?_
                                  refine lv_iload hx hb dL_areStocks_52 (lv_at hl 1 rfl) ?_
                                  refine kcallhI (kSthW (n := 2) (As := [.ref (z 0), .int 2]) (rest := [.int 1]) F hE hNc hK hP hD hS hA (kh_stock l g e0 S _ (z 0) 2 _ _ hI.ob0 (c_X5_stock_x l hl0 g e0 z S _ hI av lv q hR h72 2) (fun E h => h.1)) kw_188 kw_189 kw_61 kw_190 (by decide +kernel) ⟨Nat.le_of_ble_eq_true rfl, Nat.le_of_ble_eq_true rfl⟩ rfl hl.1 rfl (Nat.le_of_ble_eq_true rfl) dL_areStocks_54 ⟨(by show 0 + 1 + 1 + 1 + 1 + 1 + 1 + 1 + 1 + 1 + 1 + 1 + 1 + 1 + 1 + 1 + 1 + 1 + 1 + 1 + 1 + 1 + 1 + 1 + 1 + 1 + 1 + 1 + 1 ≤ 45; omega), (by show 0 + 6 + 6 + 6 + 6 + 6 + 6 + 6 + 6 + 6 + 6 + 6 + 6 + 6 + 6 + 6 + 6 + 6 + 6 + 6 + 6 + 6 + 6 + 6 + 6 + 6 + 6 + 6 + 6 ≤ 270; omega)⟩) rfl hD hS hA (fun r59 T1 H locs hp hP hq1x hq2x hq3x hf1 hS => ?_)
                                  clear hq1x hq2x hq3x
                                  have hO := kO_keep hO hdis hf1
                                  obtain ⟨hT, nr59⟩ := kp_A (i := 2) hp (by decide : (2 : Int32).toInt = ((2 : Nat) : Int)) (by omega) (by omega) (by omega)
                                  subst hT
                                  clear hp
                                  refine lv_aload_n hx hb dL_areStocks_57 rfl (lv_at hl 5 rfl) ?_
                                  refine lv_iload hx hb dL_areStocks_58 (lv_at hl 1 rfl) ?_
                                  refine rd_I F hK hO orr (by rw [lr]; exact kt_in (by decide : (2 : Int32).toInt = ((2 : Nat) : Int)) (by omega) (by decide)) dL_areStocks_60 ?_
                                  refine lv_topi (fun x60 ex60 => ?_)
                                  have nx60 : x60.toInt = ((q 11 2 : Nat) : Int) := kt_nI (by rw [ex60, kt_clamp (by decide : (2 : Int32).toInt = ((2 : Nat) : Int)) (by omega)]; exact (hra 2 (by omega)).2) (by omega)
                                  refine lv_icmp_gt (tgt := 123) hx hb dL_areStocks_61 (by decide) (fun c61 => ?_) (fun c61 => ?_)
                                  · have d61 : x60.toInt < r59.toInt := (kc_lt (rfl : x60.toInt = x60.toInt) (rfl : r59.toInt = r59.toInt)).mp c61
                                    exfalso; omega
                                  · have d61 : ¬ (x60.toInt < r59.toInt) := mt (kc_lt (rfl : x60.toInt = x60.toInt) (rfl : r59.toInt = r59.toInt)).mpr c61
                                    refine lv_aload_n hx hb dL_areStocks_64 rfl (lv_at hl 3 rfl) ?_
                                    refine lv_iload hx hb dL_areStocks_65 (lv_at hl 1 rfl) ?_
                                    refine kcallhI (kSthW (n := 2) (As := [.ref (z 0), .int 2]) (rest := [.int 1]) F hE hNc hK hP hD hS hA (kh_reserve l g e0 S _ (z 0) 2 _ _ hI.ob0 (c_X5_reserve_x l hl0 g e0 z S _ hI av lv q hR h72 2) (fun E h => h.1)) kw_220 kw_221 kw_61 kw_222 (by decide +kernel) ⟨Nat.le_of_ble_eq_true rfl, Nat.le_of_ble_eq_true rfl⟩ rfl hl.1 rfl (Nat.le_of_ble_eq_true rfl) dL_areStocks_67 ⟨(by show 0 + 1 + 1 + 1 + 1 + 1 + 1 + 1 + 1 + 1 + 1 + 1 + 1 + 1 + 1 + 1 + 1 + 1 + 1 + 1 + 1 + 1 + 1 + 1 + 1 + 1 + 1 + 1 + 1 + 1 ≤ 45; omega), (by show 0 + 6 + 6 + 6 + 6 + 6 + 6 + 6 + 6 + 6 + 6 + 6 + 6 + 6 + 6 + 6 + 6 + 6 + 6 + 6 + 6 + 6 + 6 + 6 + 6 + 6 + 6 + 6 + 6 + 6 ≤ 270; omega)⟩) rfl hD hS hA (fun r62 T1 H locs hp hP hq1x hq2x hq3x hf1 hS => ?_)
                                    clear hq1x hq2x hq3x
                                    have hO := kO_keep hO hdis hf1
                                    obtain ⟨hT, nr62⟩ := kp_A (i := 2) hp (by decide : (2 : Int32).toInt = ((2 : Nat) : Int)) (by omega) (by omega) (by omega)
                                    subst hT
                                    clear hp
                                    refine lv_if_lt (tgt := 123) hx hb dL_areStocks_70 (by decide) (fun c63 => ?_) (fun c63 => ?_)
                                    · have d63 : r62.toInt < (0) := (kc_lt (rfl : r62.toInt = r62.toInt) (by decide : (0 : Int32).toInt = 0)).mp c63
                                      exfalso; omega
                                    · have d63 : ¬ (r62.toInt < (0)) := mt (kc_lt (rfl : r62.toInt = r62.toInt) (by decide : (0 : Int32).toInt = 0)).mpr c63
                                      refine lv_aload_n hx hb dL_areStocks_73 rfl (lv_at hl 3 rfl) ?_
                                      refine lv_iload hx hb dL_areStocks_74 (lv_at hl 1 rfl) ?_
                                      refine kcallhI (kSthW (n := 2) (As := [.ref (z 0), .int 2]) (rest := [.int 1]) F hE hNc hK hP hD hS hA (kh_free l g e0 S _ (z 0) 2 _ _ hI.ob0 (c_X5_free_x l hl0 g e0 z S _ hI av lv q hR h72 hW.2.1 2) (fun E h => h.1)) kw_346 kw_347 kw_61 kw_348 (by decide +kernel) ⟨Nat.le_of_ble_eq_true rfl, Nat.le_of_ble_eq_true rfl⟩ rfl hl.1 rfl (Nat.le_of_ble_eq_true rfl) dL_areStocks_76 ⟨(by show 0 + 1 + 1 + 1 + 1 + 1 + 1 + 1 + 1 + 1 + 1 + 1 + 1 + 1 + 1 + 1 + 1 + 1 + 1 + 1 + 1 + 1 + 1 + 1 + 1 + 1 + 1 + 1 + 1 + 1 + 1 ≤ 45; omega), (by show 0 + 6 + 6 + 6 + 6 + 6 + 6 + 6 + 6 + 6 + 6 + 6 + 6 + 6 + 6 + 6 + 6 + 6 + 6 + 6 + 6 + 6 + 6 + 6 + 6 + 6 + 6 + 6 + 6 + 6 + 6 ≤ 270; omega)⟩) rfl hD hS hA (fun r64 T1 H locs hp hP hq1x hq2x hq3x hf1 hS => ?_)
                                      clear hq1x hq2x hq3x
                                      have hO := kO_keep hO hdis hf1
                                      obtain ⟨hT, nr64⟩ := kp_A (i := 2) hp (by decide : (2 : Int32).toInt = ((2 : Nat) : Int)) (by omega) (by omega) (by omega)
                                      subst hT
                                      clear hp
                                      refine lv_if_lt (tgt := 123) hx hb dL_areStocks_79 (by decide) (fun c65 => ?_) (fun c65 => ?_)
                                      · have d65 : r64.toInt < (0) := (kc_lt (rfl : r64.toInt = r64.toInt) (by decide : (0 : Int32).toInt = 0)).mp c65
                                        exfalso; omega
                                      · have d65 : ¬ (r64.toInt < (0)) := mt (kc_lt (rfl : r64.toInt = r64.toInt) (by decide : (0 : Int32).toInt = 0)).mpr c65
                                        refine lv_aload_n hx hb dL_areStocks_82 rfl (lv_at hl 3 rfl) ?_
                                        refine lv_iload hx hb dL_areStocks_83 (lv_at hl 1 rfl) ?_
                                        refine kcallhI (kSthW (n := 2) (As := [.ref (z 0), .int 2]) (rest := [.int 1]) F hE hNc hK hP hD hS hA (kh_free l g e0 S _ (z 0) 2 _ _ hI.ob0 (c_X5_free_x l hl0 g e0 z S _ hI av lv q hR h72 hW.2.1 2) (fun E h => h.1)) kw_346 kw_347 kw_61 kw_348 (by decide +kernel) ⟨Nat.le_of_ble_eq_true rfl, Nat.le_of_ble_eq_true rfl⟩ rfl hl.1 rfl (Nat.le_of_ble_eq_true rfl) dL_areStocks_85 ⟨(by show 0 + 1 + 1 + 1 + 1 + 1 + 1 + 1 + 1 + 1 + 1 + 1 + 1 + 1 + 1 + 1 + 1 + 1 + 1 + 1 + 1 + 1 + 1 + 1 + 1 + 1 + 1 + 1 + 1 + 1 + 1 + 1 ≤ 45; omega), (by show 0 + 6 + 6 + 6 + 6 + 6 + 6 + 6 + 6 + 6 + 6 + 6 + 6 + 6 + 6 + 6 + 6 + 6 + 6 + 6 + 6 + 6 + 6 + 6 + 6 + 6 + 6 + 6 + 6 + 6 + 6 + 6 ≤ 270; omega)⟩) rfl hD hS hA (fun r66 T1 H locs hp hP hq1x hq2x hq3x hf1 hS => ?_)
                                        clear hq1x hq2x hq3x
                                        have hO := kO_keep hO hdis hf1
                                        obtain ⟨hT, nr66⟩ := kp_A (i := 2) hp (by decide : (2 : Int32).toInt = ((2 : Nat) : Int)) (by omega) (by omega) (by omega)
                                        subst hT
                                        clear hp
                                        refine lv_aload_n hx hb dL_areStocks_88 rfl (lv_at hl 3 rfl) ?_
                                        refine lv_iload hx hb dL_areStocks_89 (lv_at hl 1 rfl) ?_
                                        refine kcallhI (kSthW (n := 2) (As := [.ref (z 0), .int 2]) (rest := [.int r66, .int 1]) F hE hNc hK hP hD hS hA (kh_stock l g e0 S _ (z 0) 2 _ _ hI.ob0 (c_X5_stock_x l hl0 g e0 z S _ hI av lv q hR h72 2) (fun E h => h.1)) kw_188 kw_189 kw_61 kw_190 (by decide +kernel) ⟨Nat.le_of_ble_eq_true rfl, Nat.le_of_ble_eq_true rfl⟩ rfl hl.1 rfl (Nat.le_of_ble_eq_true rfl) dL_areStocks_91 ⟨(by show 0 + 1 + 1 + 1 + 1 + 1 + 1 + 1 + 1 + 1 + 1 + 1 + 1 + 1 + 1 + 1 + 1 + 1 + 1 + 1 + 1 + 1 + 1 + 1 + 1 + 1 + 1 + 1 + 1 + 1 + 1 + 1 + 1 ≤ 45; omega), (by show 0 + 6 + 6 + 6 + 6 + 6 + 6 + 6 + 6 + 6 + 6 + 6 + 6 + 6 + 6 + 6 + 6 + 6 + 6 + 6 + 6 + 6 + 6 + 6 + 6 + 6 + 6 + 6 + 6 + 6 + 6 + 6 + 6 ≤ 270; omega)⟩) rfl hD hS hA (fun r67 T1 H locs hp hP hq1x hq2x hq3x hf1 hS => ?_)
                                        clear hq1x hq2x hq3x
                                        have hO := kO_keep hO hdis hf1
                                        obtain ⟨hT, nr67⟩ := kp_A (i := 2) hp (by decide : (2 : Int32).toInt = ((2 : Nat) : Int)) (by omega) (by omega) (by omega)
                                        subst hT
                                        clear hp
                                        refine lv_aload_n hx hb dL_areStocks_94 rfl (lv_at hl 3 rfl) ?_
                                        refine lv_iload hx hb dL_areStocks_95 (lv_at hl 1 rfl) ?_
                                        refine kcallhI (kSthW (n := 2) (As := [.ref (z 0), .int 2]) (rest := [.int r67, .int r66, .int 1]) F hE hNc hK hP hD hS hA (kh_promised l g e0 S _ (z 0) 2 _ _ hI.ob0 (c_X5_promised_x l hl0 g e0 z S _ hI av lv q hR h72 2) (fun E h => h.1)) kw_228 kw_229 kw_61 kw_230 (by decide +kernel) ⟨Nat.le_of_ble_eq_true rfl, Nat.le_of_ble_eq_true rfl⟩ rfl hl.1 rfl (Nat.le_of_ble_eq_true rfl) dL_areStocks_97 ⟨(by show 0 + 1 + 1 + 1 + 1 + 1 + 1 + 1 + 1 + 1 + 1 + 1 + 1 + 1 + 1 + 1 + 1 + 1 + 1 + 1 + 1 + 1 + 1 + 1 + 1 + 1 + 1 + 1 + 1 + 1 + 1 + 1 + 1 + 1 ≤ 45; omega), (by show 0 + 6 + 6 + 6 + 6 + 6 + 6 + 6 + 6 + 6 + 6 + 6 + 6 + 6 + 6 + 6 + 6 + 6 + 6 + 6 + 6 + 6 + 6 + 6 + 6 + 6 + 6 + 6 + 6 + 6 + 6 + 6 + 6 + 6 ≤ 270; omega)⟩) rfl hD hS hA (fun r68 T1 H locs hp hP hq1x hq2x hq3x hf1 hS => ?_)
                                        clear hq1x hq2x hq3x
                                        have hO := kO_keep hO hdis hf1
                                        obtain ⟨hT, nr68⟩ := kp_A (i := 2) hp (by decide : (2 : Int32).toInt = ((2 : Nat) : Int)) (by omega) (by omega) (by omega)
                                        subst hT
                                        clear hp
                                        refine lv_isub hx hb dL_areStocks_100 ?_
                                        refine lv_topi (fun x69 ex69 => ?_)
                                        have tx69 : x69.toInt = r67.toInt - r68.toInt := kt_sub ex69 (rfl : r67.toInt = r67.toInt) (rfl : r68.toInt = r68.toInt) (by omega) (by omega)
                                        refine lv_icmp_ne (tgt := 123) hx hb dL_areStocks_101 (by decide) (fun c70 => ?_) (fun c70 => ?_)
                                        · have d70 : r66.toInt ≠ x69.toInt := mt (kc_eq (rfl : r66.toInt = r66.toInt) (rfl : x69.toInt = x69.toInt)).mpr c70
                                          exfalso; omega
                                        · have d70 : r66.toInt = x69.toInt := (kc_eq (rfl : r66.toInt = r66.toInt) (rfl : x69.toInt = x69.toInt)).mp c70
                                          refine lv_aload_n hx hb dL_areStocks_104 rfl (lv_at hl 3 rfl) ?_
                                          refine lv_iload hx hb dL_areStocks_105 (lv_at hl 1 rfl) ?_
                                          refine kcallhI (kSthW (n := 2) (As := [.ref (z 0), .int 2]) (rest := [.int 1]) F hE hNc hK hP hD hS hA (kh_promised l g e0 S _ (z 0) 2 _ _ hI.ob0 (c_X5_promised_x l hl0 g e0 z S _ hI av lv q hR h72 2) (fun E h => h.1)) kw_228 kw_229 kw_61 kw_230 (by decide +kernel) ⟨Nat.le_of_ble_eq_true rfl, Nat.le_of_ble_eq_true rfl⟩ rfl hl.1 rfl (Nat.le_of_ble_eq_true rfl) dL_areStocks_107 ⟨(by show 0 + 1 + 1 + 1 + 1 + 1 + 1 + 1 + 1 + 1 + 1 + 1 + 1 + 1 + 1 + 1 + 1 + 1 + 1 + 1 + 1 + 1 + 1 + 1 + 1 + 1 + 1 + 1 + 1 + 1 + 1 + 1 + 1 + 1 + 1 ≤ 45; omega), (by show 0 + 6 + 6 + 6 + 6 + 6 + 6 + 6 + 6 + 6 + 6 + 6 + 6 + 6 + 6 + 6 + 6 + 6 + 6 + 6 + 6 + 6 + 6 + 6 + 6 + 6 + 6 + 6 + 6 + 6 + 6 + 6 + 6 + 6 + 6 ≤ 270; omega)⟩) rfl hD hS hA (fun r71 T1 H locs hp hP hq1x hq2x hq3x hf1 hS => ?_)
                                          clear hq1x hq2x hq3x
                                          have hO := kO_keep hO hdis hf1
                                          obtain ⟨hT, nr71⟩ := kp_A (i := 2) hp (by decide : (2 : Int32).toInt = ((2 : Nat) : Int)) (by omega) (by omega) (by omega)
                                          subst hT
                                          clear hp
                                          refine lv_aload_n hx hb dL_areStocks_110 rfl (lv_at hl 3 rfl) ?_
                                          refine lv_iload hx hb dL_areStocks_111 (lv_at hl 1 rfl) ?_
                                          refine kcallhI (kSthW (n := 2) (As := [.ref (z 0), .int 2]) (rest := [.int r71, .int 1]) F hE hNc hK hP hD hS hA (kh_promisedByScans l g e0 S _ (z 0) 2 _ _ hI.ob0 (c_X5_promisedByScans_x l hl0 g e0 z S _ hI av lv q hR hW.1 2) (fun E h => h.1)) kw_488 kw_489 kw_61 kw_490 (by decide +kernel) ⟨Nat.le_of_ble_eq_true rfl, Nat.le_of_ble_eq_true rfl⟩ rfl hl.1 rfl (Nat.le_of_ble_eq_true rfl) dL_areStocks_113 ⟨(by show 0 + 1 + 1 + 1 + 1 + 1 + 1 + 1 + 1 + 1 + 1 + 1 + 1 + 1 + 1 + 1 + 1 + 1 + 1 + 1 + 1 + 1 + 1 + 1 + 1 + 1 + 1 + 1 + 1 + 1 + 1 + 1 + 1 + 1 + 1 + 1 ≤ 45; omega), (by show 0 + 6 + 6 + 6 + 6 + 6 + 6 + 6 + 6 + 6 + 6 + 6 + 6 + 6 + 6 + 6 + 6 + 6 + 6 + 6 + 6 + 6 + 6 + 6 + 6 + 6 + 6 + 6 + 6 + 6 + 6 + 6 + 6 + 6 + 6 + 6 ≤ 270; omega)⟩) rfl hD hS hA (fun r72 T1 H locs hp hP hq1x hq2x hq3x hf1 hS => ?_)
                                          clear hq1x hq2x hq3x
                                          have hO := kO_keep hO hdis hf1
                                          obtain ⟨hT, nr72⟩ := kp_A (i := 2) hp (by decide : (2 : Int32).toInt = ((2 : Nat) : Int)) (by omega) (by omega) (by omega)
                                          subst hT
                                          clear hp
                                          refine lv_icmp_ne (tgt := 123) hx hb dL_areStocks_116 (by decide) (fun c73 => ?_) (fun c73 => ?_)
                                          · have d73 : r71.toInt ≠ r72.toInt := mt (kc_eq (rfl : r71.toInt = r71.toInt) (rfl : r72.toInt = r72.toInt)).mpr c73
                                            exfalso; omega
                                          · have d73 : r71.toInt = r72.toInt := (kc_eq (rfl : r71.toInt = r71.toInt) (rfl : r72.toInt = r72.toInt)).mp c73
                                            refine lv_iconst (v := 1) hx hb dL_areStocks_119 (by decide) ?_
                                            refine lv_goto (tgt := 124) hx hb dL_areStocks_120 (by decide) ?_
                                            refine lv_iand hx hb dL_areStocks_124 ?_
                                            refine lv_topi (fun x74 e74 => ?_)
                                            obtain rfl : x74 = 1 := e74.trans (by decide)
                                            refine lv_istore (lv' := [(4, .int 1), (3, .int x56), (5, .int 2), (0, .ref (z 0)), (1, .int un), (2, .ref rr)]) hx hb dL_areStocks_125 hl (by decide) rfl (fun ls hl => ?_)
                                            have nA75 : x56.toInt = ((q 31 0 + q 31 1 + q 12 0 + q 13 0 + q 12 1 + q 13 1 + q 12 2 + q 13 2 : Nat) : Int) := by omega
                                            clear nA51 c52 nr53 nr54 ex55 tx55 ex56 tx56 nr57 c58 d58 nr59 ex60 nx60 c61 d61 nr62 c63 d63 nr64 c65 d65 nr66 nr67 nr68 ex69 tx69 c70 d70 nr71 nr72 c73 d73 e74
                                            refine lv_iinc (v := 3) (lv' := [(5, .int 3), (4, .int 1), (3, .int x56), (0, .ref (z 0)), (1, .int un), (2, .ref rr)]) hx hb dL_areStocks_127 hl (k := 2) rfl (by decide) (by decide) rfl (fun ls hl => ?_)
                                            refine lv_goto (tgt := 18) hx hb dL_areStocks_130 (by decide) ?_
                                            refine lv_iload hx hb dL_areStocks_18 (lv_at hl 0 rfl) ?_
                                            refine lv_iconst (v := 3) hx hb dL_areStocks_20 (by decide) ?_
                                            refine lv_icmp_ge (tgt := 133) hx hb dL_areStocks_21 (by decide) (fun c76 => ?_) (fun c76 => ?_)
                                            · refine lv_iconst (v := 0) hx hb dL_areStocks_133 (by decide) ?_
                                              refine lv_istore (lv' := [(5, .int 0), (4, .int 1), (3, .int x56), (0, .ref (z 0)), (1, .int un), (2, .ref rr)]) hx hb dL_areStocks_134 hl (by decide) rfl (fun ls hl => ?_)
                                              refine lv_iload hx hb dL_areStocks_136 (lv_at hl 0 rfl) ?_
                                              refine lv_iconst (v := 2) hx hb dL_areStocks_138 (by decide) ?_
                                              refine lv_icmp_ge (tgt := 220) hx hb dL_areStocks_139 (by decide) (fun c77 => ?_) (fun c77 => ?_)
                                              · exact absurd c77 (by decide)
                                              · rcases w70 with ⟨i1, i2, i3⟩ | ⟨o1, o2, o3, o4, o5⟩
                                                · refine lv_iload hx hb dL_areStocks_142 (lv_at hl 1 rfl) ?_
                                                  refine lv_aload_n hx hb dL_areStocks_144 rfl (lv_at hl 3 rfl) ?_
                                                  refine lv_iload hx hb dL_areStocks_145 (lv_at hl 0 rfl) ?_
                                                  refine kcallhI (kSthW (n := 2) (As := [.ref (z 0), .int 0]) (rest := [.int 1]) F hE hNc hK hP hD hS hA (kh_carried l g e0 S _ (z 0) 0 _ _ hI.ob0 (c_X5_carried l hl0 g e0 z S _ hI 0) (fun E h => h.1)) kw_236 kw_237 kw_61 kw_238 (by decide +kernel) ⟨Nat.le_of_ble_eq_true rfl, Nat.le_of_ble_eq_true rfl⟩ rfl hl.1 rfl (Nat.le_of_ble_eq_true rfl) dL_areStocks_147 ⟨(by show 0 + 1 + 1 + 1 + 1 + 1 + 1 + 1 + 1 + 1 + 1 + 1 + 1 + 1 + 1 + 1 + 1 + 1 + 1 + 1 + 1 + 1 + 1 + 1 + 1 + 1 + 1 + 1 + 1 + 1 + 1 + 1 + 1 + 1 + 1 + 1 + 1 ≤ 45; omega), (by show 0 + 6 + 6 + 6 + 6 + 6 + 6 + 6 + 6 + 6 + 6 + 6 + 6 + 6 + 6 + 6 + 6 + 6 + 6 + 6 + 6 + 6 + 6 + 6 + 6 + 6 + 6 + 6 + 6 + 6 + 6 + 6 + 6 + 6 + 6 + 6 + 6 ≤ 270; omega)⟩) rfl hD hS hA (fun r78 T1 H locs hp hP hq1x hq2x hq3x hf1 hS => ?_)
                                                  clear hq1x hq2x hq3x
                                                  have hO := kO_keep hO hdis hf1
                                                  obtain ⟨hT, nr78⟩ := kp_R (i := 0) (f := fun j => q 31 j) hp (by decide : (0 : Int32).toInt = ((0 : Nat) : Int)) (by omega) (fun j hj => (hR.2.2.2.2.2.1 j hj).2 31 (by decide)) (show q 31 0 < 2 ^ 31 by omega)
                                                  subst hT
                                                  clear hp
                                                  obtain rfl : r78 = 0 := kt_lit (A := 0) (by omega) (by decide)
                                                  refine lv_if_le (tgt := 157) hx hb dL_areStocks_150 (by decide) (fun c79 => ?_) (fun c79 => ?_)
                                                  · refine lv_iconst (v := 0) hx hb dL_areStocks_157 (by decide) ?_
                                                    refine lv_aload_n hx hb dL_areStocks_158 rfl (lv_at hl 3 rfl) ?_
                                                    refine lv_iload hx hb dL_areStocks_159 (lv_at hl 0 rfl) ?_
                                                    refine kcallhI (kSthW (n := 2) (As := [.ref (z 0), .int 0]) (rest := [.int 0, .int 1]) F hE hNc hK hP hD hS hA (kh_minutesOf l g e0 S _ (z 0) 0 _ _ hI.ob0 (c_X5_minutesOf l hl0 g e0 z S _ hI 0) (fun E h => h.1)) kw_248 kw_249 kw_61 kw_250 (by decide +kernel) ⟨Nat.le_of_ble_eq_true rfl, Nat.le_of_ble_eq_true rfl⟩ rfl hl.1 rfl (Nat.le_of_ble_eq_true rfl) dL_areStocks_161 ⟨(by show 0 + 1 + 1 + 1 + 1 + 1 + 1 + 1 + 1 + 1 + 1 + 1 + 1 + 1 + 1 + 1 + 1 + 1 + 1 + 1 + 1 + 1 + 1 + 1 + 1 + 1 + 1 + 1 + 1 + 1 + 1 + 1 + 1 + 1 + 1 + 1 + 1 + 1 ≤ 45; omega), (by show 0 + 6 + 6 + 6 + 6 + 6 + 6 + 6 + 6 + 6 + 6 + 6 + 6 + 6 + 6 + 6 + 6 + 6 + 6 + 6 + 6 + 6 + 6 + 6 + 6 + 6 + 6 + 6 + 6 + 6 + 6 + 6 + 6 + 6 + 6 + 6 + 6 + 6 ≤ 270; omega)⟩) rfl hD hS hA (fun r80 T1 H locs hp hP hq1x hq2x hq3x hf1 hS => ?_)
                                                    clear hq1x hq2x hq3x
                                                    have hO := kO_keep hO hdis hf1
                                                    obtain ⟨hT, nr80⟩ := kp_R (i := 0) (f := fun j => q 32 j) hp (by decide : (0 : Int32).toInt = ((0 : Nat) : Int)) (by omega) (fun j hj => (hR.2.2.2.2.2.1 j hj).2 32 (by decide)) (show q 32 0 < 2 ^ 31 by omega)
                                                    subst hT
                                                    clear hp
                                                    obtain rfl : r80 = 0 := kt_lit (A := 0) (by omega) (by decide)
                                                    refine lv_if_le (tgt := 171) hx hb dL_areStocks_164 (by decide) (fun c81 => ?_) (fun c81 => ?_)
                                                    · refine lv_iconst (v := 0) hx hb dL_areStocks_171 (by decide) ?_
                                                      refine lv_icmp_ne (tgt := 210) hx hb dL_areStocks_172 (by decide) (fun c82 => ?_) (fun c82 => ?_)
                                                      · exact absurd c82 (by decide)
                                                      · refine lv_aload_n hx hb dL_areStocks_175 rfl (lv_at hl 3 rfl) ?_
                                                        refine lv_iload hx hb dL_areStocks_176 (lv_at hl 0 rfl) ?_
                                                        refine kcallhI (kSthW (n := 2) (As := [.ref (z 0), .int 0]) (rest := [.int 1]) F hE hNc hK hP hD hS hA (kh_carried l g e0 S _ (z 0) 0 _ _ hI.ob0 (c_X5_carried l hl0 g e0 z S _ hI 0) (fun E h => h.1)) kw_236 kw_237 kw_61 kw_238 (by decide +kernel) ⟨Nat.le_of_ble_eq_true rfl, Nat.le_of_ble_eq_true rfl⟩ rfl hl.1 rfl (Nat.le_of_ble_eq_true rfl) dL_areStocks_178 ⟨(by show 0 + 1 + 1 + 1 + 1 + 1 + 1 + 1 + 1 + 1 + 1 + 1 + 1 + 1 + 1 + 1 + 1 + 1 + 1 + 1 + 1 + 1 + 1 + 1 + 1 + 1 + 1 + 1 + 1 + 1 + 1 + 1 + 1 + 1 + 1 + 1 + 1 + 1 + 1 ≤ 45; omega), (by show 0 + 6 + 6 + 6 + 6 + 6 + 6 + 6 + 6 + 6 + 6 + 6 + 6 + 6 + 6 + 6 + 6 + 6 + 6 + 6 + 6 + 6 + 6 + 6 + 6 + 6 + 6 + 6 + 6 + 6 + 6 + 6 + 6 + 6 + 6 + 6 + 6 + 6 + 6 ≤ 270; omega)⟩) rfl hD hS hA (fun r83 T1 H locs hp hP hq1x hq2x hq3x hf1 hS => ?_)
                                                        clear hq1x hq2x hq3x
                                                        have hO := kO_keep hO hdis hf1
                                                        obtain ⟨hT, nr83⟩ := kp_R (i := 0) (f := fun j => q 31 j) hp (by decide : (0 : Int32).toInt = ((0 : Nat) : Int)) (by omega) (fun j hj => (hR.2.2.2.2.2.1 j hj).2 31 (by decide)) (show q 31 0 < 2 ^ 31 by omega)
                                                        subst hT
                                                        clear hp
                                                        obtain rfl : r83 = 0 := kt_lit (A := 0) (by omega) (by decide)
                                                        refine lv_if_le (tgt := 188) hx hb dL_areStocks_181 (by decide) (fun c84 => ?_) (fun c84 => ?_)
                                                        · refine lv_iconst (v := 0) hx hb dL_areStocks_188 (by decide) ?_
                                                          refine lv_aload_n hx hb dL_areStocks_189 rfl (lv_at hl 3 rfl) ?_
                                                          refine lv_iload hx hb dL_areStocks_190 (lv_at hl 0 rfl) ?_
                                                          refine kcallhI (kSthW (n := 2) (As := [.ref (z 0), .int 0]) (rest := [.int 0, .int 1]) F hE hNc hK hP hD hS hA (kh_aisleOf l g e0 S _ (z 0) 0 _ _ hI.ob0 (c_X5_aisleOf_x l hl0 g e0 z S _ hI av lv q hR hW.1 0) (fun E h => h.imp And.left And.left)) kw_467 kw_468 kw_61 kw_469 (by decide +kernel) ⟨Nat.le_of_ble_eq_true rfl, Nat.le_of_ble_eq_true rfl⟩ rfl hl.1 rfl (Nat.le_of_ble_eq_true rfl) dL_areStocks_192 ⟨(by show 0 + 1 + 1 + 1 + 1 + 1 + 1 + 1 + 1 + 1 + 1 + 1 + 1 + 1 + 1 + 1 + 1 + 1 + 1 + 1 + 1 + 1 + 1 + 1 + 1 + 1 + 1 + 1 + 1 + 1 + 1 + 1 + 1 + 1 + 1 + 1 + 1 + 1 + 1 + 2 ≤ 45; omega), (by show 0 + 6 + 6 + 6 + 6 + 6 + 6 + 6 + 6 + 6 + 6 + 6 + 6 + 6 + 6 + 6 + 6 + 6 + 6 + 6 + 6 + 6 + 6 + 6 + 6 + 6 + 6 + 6 + 6 + 6 + 6 + 6 + 6 + 6 + 6 + 6 + 6 + 6 + 6 + 12 ≤ 270; omega)⟩) rfl hD hS hA (fun r85 T1 H locs hp hP hq1x hq2x hq3x hf1 hS => ?_)
                                                          clear hq1x hq2x hq3x
                                                          have hO := kO_keep hO hdis hf1
                                                          obtain ⟨hT, ar85, br85⟩ := kp_I (i := 0) (k := fun j => q 30 j) (f := fun j => q 0 (q 10 (q 30 j - 1))) hp (by decide : (0 : Int32).toInt = ((0 : Nat) : Int)) (by omega) (fun h9 => (by have h9 : q 30 0 ≠ 0 := h9; show q 0 (q 10 (q 30 0 - 1)) < 2 ^ 31; have h8 := hW.1.1.2.2.2 (q 30 0 - 1) (by omega); rw [hL.2.1 _ h8]; omega))
                                                          subst hT
                                                          clear hp
                                                          obtain rfl : r85 = (-75) := kt_lit (A := -75) (by omega) (by decide)
                                                          refine lv_if_lt (tgt := 202) hx hb dL_areStocks_195 (by decide) (fun c86 => ?_) (fun c86 => ?_)
                                                          · refine lv_iconst (v := 0) hx hb dL_areStocks_202 (by decide) ?_
                                                            refine lv_icmp_ne (tgt := 210) hx hb dL_areStocks_203 (by decide) (fun c87 => ?_) (fun c87 => ?_)
                                                            · exact absurd c87 (by decide)
                                                            · refine lv_iconst (v := 1) hx hb dL_areStocks_206 (by decide) ?_
                                                              refine lv_goto (tgt := 211) hx hb dL_areStocks_207 (by decide) ?_
                                                              refine lv_iand hx hb dL_areStocks_211 ?_
                                                              refine lv_topi (fun x88 e88 => ?_)
                                                              obtain rfl : x88 = 1 := e88.trans (by decide)
                                                              refine lv_istore (lv' := [(4, .int 1), (5, .int 0), (3, .int x56), (0, .ref (z 0)), (1, .int un), (2, .ref rr)]) hx hb dL_areStocks_212 hl (by decide) rfl (fun ls hl => ?_)
                                                              clear c76 c77 nr78 c79 nr80 c81 c82 nr83 c84 ar85 br85 c86 c87 e88
                                                              refine lv_iinc (v := 1) (lv' := [(5, .int 1), (4, .int 1), (3, .int x56), (0, .ref (z 0)), (1, .int un), (2, .ref rr)]) hx hb dL_areStocks_214 hl (k := 1) rfl (by decide) (by decide) rfl (fun ls hl => ?_)
                                                              refine lv_goto (tgt := 136) hx hb dL_areStocks_217 (by decide) ?_
                                                              refine lv_iload hx hb dL_areStocks_136 (lv_at hl 0 rfl) ?_
                                                              refine lv_iconst (v := 2) hx hb dL_areStocks_138 (by decide) ?_
                                                              refine lv_icmp_ge (tgt := 220) hx hb dL_areStocks_139 (by decide) (fun c89 => ?_) (fun c89 => ?_)
                                                              · exact absurd c89 (by decide)
                                                              · rcases w71 with ⟨i1, i2, i3⟩ | ⟨o1, o2, o3, o4, o5⟩
                                                                · refine lv_iload hx hb dL_areStocks_142 (lv_at hl 1 rfl) ?_
                                                                  refine lv_aload_n hx hb dL_areStocks_144 rfl (lv_at hl 3 rfl) ?_
                                                                  refine lv_iload hx hb dL_areStocks_145 (lv_at hl 0 rfl) ?_
                                                                  refine kcallhI (kSthW (n := 2) (As := [.ref (z 0), .int 1]) (rest := [.int 1]) F hE hNc hK hP hD hS hA (kh_carried l g e0 S _ (z 0) 1 _ _ hI.ob0 (c_X5_carried l hl0 g e0 z S _ hI 1) (fun E h => h.1)) kw_236 kw_237 kw_61 kw_238 (by decide +kernel) ⟨Nat.le_of_ble_eq_true rfl, Nat.le_of_ble_eq_true rfl⟩ rfl hl.1 rfl (Nat.le_of_ble_eq_true rfl) dL_areStocks_147 ⟨(by show 0 + 1 + 1 + 1 + 1 + 1 + 1 + 1 + 1 + 1 + 1 + 1 + 1 + 1 + 1 + 1 + 1 + 1 + 1 + 1 + 1 + 1 + 1 + 1 + 1 + 1 + 1 + 1 + 1 + 1 + 1 + 1 + 1 + 1 + 1 + 1 + 1 + 1 + 1 + 2 + 1 ≤ 45; omega), (by show 0 + 6 + 6 + 6 + 6 + 6 + 6 + 6 + 6 + 6 + 6 + 6 + 6 + 6 + 6 + 6 + 6 + 6 + 6 + 6 + 6 + 6 + 6 + 6 + 6 + 6 + 6 + 6 + 6 + 6 + 6 + 6 + 6 + 6 + 6 + 6 + 6 + 6 + 6 + 12 + 6 ≤ 270; omega)⟩) rfl hD hS hA (fun r90 T1 H locs hp hP hq1x hq2x hq3x hf1 hS => ?_)
                                                                  clear hq1x hq2x hq3x
                                                                  have hO := kO_keep hO hdis hf1
                                                                  obtain ⟨hT, nr90⟩ := kp_R (i := 1) (f := fun j => q 31 j) hp (by decide : (1 : Int32).toInt = ((1 : Nat) : Int)) (by omega) (fun j hj => (hR.2.2.2.2.2.1 j hj).2 31 (by decide)) (show q 31 1 < 2 ^ 31 by omega)
                                                                  subst hT
                                                                  clear hp
                                                                  obtain rfl : r90 = 0 := kt_lit (A := 0) (by omega) (by decide)
                                                                  refine lv_if_le (tgt := 157) hx hb dL_areStocks_150 (by decide) (fun c91 => ?_) (fun c91 => ?_)
                                                                  · refine lv_iconst (v := 0) hx hb dL_areStocks_157 (by decide) ?_
                                                                    refine lv_aload_n hx hb dL_areStocks_158 rfl (lv_at hl 3 rfl) ?_
                                                                    refine lv_iload hx hb dL_areStocks_159 (lv_at hl 0 rfl) ?_
                                                                    refine kcallhI (kSthW (n := 2) (As := [.ref (z 0), .int 1]) (rest := [.int 0, .int 1]) F hE hNc hK hP hD hS hA (kh_minutesOf l g e0 S _ (z 0) 1 _ _ hI.ob0 (c_X5_minutesOf l hl0 g e0 z S _ hI 1) (fun E h => h.1)) kw_248 kw_249 kw_61 kw_250 (by decide +kernel) ⟨Nat.le_of_ble_eq_true rfl, Nat.le_of_ble_eq_true rfl⟩ rfl hl.1 rfl (Nat.le_of_ble_eq_true rfl) dL_areStocks_161 ⟨(by show 0 + 1 + 1 + 1 + 1 + 1 + 1 + 1 + 1 + 1 + 1 + 1 + 1 + 1 + 1 + 1 + 1 + 1 + 1 + 1 + 1 + 1 + 1 + 1 + 1 + 1 + 1 + 1 + 1 + 1 + 1 + 1 + 1 + 1 + 1 + 1 + 1 + 1 + 1 + 2 + 1 + 1 ≤ 45; omega), (by show 0 + 6 + 6 + 6 + 6 + 6 + 6 + 6 + 6 + 6 + 6 + 6 + 6 + 6 + 6 + 6 + 6 + 6 + 6 + 6 + 6 + 6 + 6 + 6 + 6 + 6 + 6 + 6 + 6 + 6 + 6 + 6 + 6 + 6 + 6 + 6 + 6 + 6 + 6 + 12 + 6 + 6 ≤ 270; omega)⟩) rfl hD hS hA (fun r92 T1 H locs hp hP hq1x hq2x hq3x hf1 hS => ?_)
                                                                    clear hq1x hq2x hq3x
                                                                    have hO := kO_keep hO hdis hf1
                                                                    obtain ⟨hT, nr92⟩ := kp_R (i := 1) (f := fun j => q 32 j) hp (by decide : (1 : Int32).toInt = ((1 : Nat) : Int)) (by omega) (fun j hj => (hR.2.2.2.2.2.1 j hj).2 32 (by decide)) (show q 32 1 < 2 ^ 31 by omega)
                                                                    subst hT
                                                                    clear hp
                                                                    obtain rfl : r92 = 0 := kt_lit (A := 0) (by omega) (by decide)
                                                                    refine lv_if_le (tgt := 171) hx hb dL_areStocks_164 (by decide) (fun c93 => ?_) (fun c93 => ?_)
                                                                    · refine lv_iconst (v := 0) hx hb dL_areStocks_171 (by decide) ?_
                                                                      refine lv_icmp_ne (tgt := 210) hx hb dL_areStocks_172 (by decide) (fun c94 => ?_) (fun c94 => ?_)
                                                                      · exact absurd c94 (by decide)
                                                                      · refine lv_aload_n hx hb dL_areStocks_175 rfl (lv_at hl 3 rfl) ?_
                                                                        refine lv_iload hx hb dL_areStocks_176 (lv_at hl 0 rfl) ?_
                                                                        refine kcallhI (kSthW (n := 2) (As := [.ref (z 0), .int 1]) (rest := [.int 1]) F hE hNc hK hP hD hS hA (kh_carried l g e0 S _ (z 0) 1 _ _ hI.ob0 (c_X5_carried l hl0 g e0 z S _ hI 1) (fun E h => h.1)) kw_236 kw_237 kw_61 kw_238 (by decide +kernel) ⟨Nat.le_of_ble_eq_true rfl, Nat.le_of_ble_eq_true rfl⟩ rfl hl.1 rfl (Nat.le_of_ble_eq_true rfl) dL_areStocks_178 ⟨(by show 0 + 1 + 1 + 1 + 1 + 1 + 1 + 1 + 1 + 1 + 1 + 1 + 1 + 1 + 1 + 1 + 1 + 1 + 1 + 1 + 1 + 1 + 1 + 1 + 1 + 1 + 1 + 1 + 1 + 1 + 1 + 1 + 1 + 1 + 1 + 1 + 1 + 1 + 1 + 2 + 1 + 1 + 1 ≤ 45; omega), (by show 0 + 6 + 6 + 6 + 6 + 6 + 6 + 6 + 6 + 6 + 6 + 6 + 6 + 6 + 6 + 6 + 6 + 6 + 6 + 6 + 6 + 6 + 6 + 6 + 6 + 6 + 6 + 6 + 6 + 6 + 6 + 6 + 6 + 6 + 6 + 6 + 6 + 6 + 6 + 12 + 6 + 6 + 6 ≤ 270; omega)⟩) rfl hD hS hA (fun r95 T1 H locs hp hP hq1x hq2x hq3x hf1 hS => ?_)
                                                                        clear hq1x hq2x hq3x
                                                                        have hO := kO_keep hO hdis hf1
                                                                        obtain ⟨hT, nr95⟩ := kp_R (i := 1) (f := fun j => q 31 j) hp (by decide : (1 : Int32).toInt = ((1 : Nat) : Int)) (by omega) (fun j hj => (hR.2.2.2.2.2.1 j hj).2 31 (by decide)) (show q 31 1 < 2 ^ 31 by omega)
                                                                        subst hT
                                                                        clear hp
                                                                        obtain rfl : r95 = 0 := kt_lit (A := 0) (by omega) (by decide)
                                                                        refine lv_if_le (tgt := 188) hx hb dL_areStocks_181 (by decide) (fun c96 => ?_) (fun c96 => ?_)
                                                                        · refine lv_iconst (v := 0) hx hb dL_areStocks_188 (by decide) ?_
                                                                          refine lv_aload_n hx hb dL_areStocks_189 rfl (lv_at hl 3 rfl) ?_
                                                                          refine lv_iload hx hb dL_areStocks_190 (lv_at hl 0 rfl) ?_
                                                                          refine kcallhI (kSthW (n := 2) (As := [.ref (z 0), .int 1]) (rest := [.int 0, .int 1]) F hE hNc hK hP hD hS hA (kh_aisleOf l g e0 S _ (z 0) 1 _ _ hI.ob0 (c_X5_aisleOf_x l hl0 g e0 z S _ hI av lv q hR hW.1 1) (fun E h => h.imp And.left And.left)) kw_467 kw_468 kw_61 kw_469 (by decide +kernel) ⟨Nat.le_of_ble_eq_true rfl, Nat.le_of_ble_eq_true rfl⟩ rfl hl.1 rfl (Nat.le_of_ble_eq_true rfl) dL_areStocks_192 ⟨(by show 0 + 1 + 1 + 1 + 1 + 1 + 1 + 1 + 1 + 1 + 1 + 1 + 1 + 1 + 1 + 1 + 1 + 1 + 1 + 1 + 1 + 1 + 1 + 1 + 1 + 1 + 1 + 1 + 1 + 1 + 1 + 1 + 1 + 1 + 1 + 1 + 1 + 1 + 1 + 2 + 1 + 1 + 1 + 2 ≤ 45; omega), (by show 0 + 6 + 6 + 6 + 6 + 6 + 6 + 6 + 6 + 6 + 6 + 6 + 6 + 6 + 6 + 6 + 6 + 6 + 6 + 6 + 6 + 6 + 6 + 6 + 6 + 6 + 6 + 6 + 6 + 6 + 6 + 6 + 6 + 6 + 6 + 6 + 6 + 6 + 6 + 12 + 6 + 6 + 6 + 12 ≤ 270; omega)⟩) rfl hD hS hA (fun r97 T1 H locs hp hP hq1x hq2x hq3x hf1 hS => ?_)
                                                                          clear hq1x hq2x hq3x
                                                                          have hO := kO_keep hO hdis hf1
                                                                          obtain ⟨hT, ar97, br97⟩ := kp_I (i := 1) (k := fun j => q 30 j) (f := fun j => q 0 (q 10 (q 30 j - 1))) hp (by decide : (1 : Int32).toInt = ((1 : Nat) : Int)) (by omega) (fun h9 => (by have h9 : q 30 1 ≠ 0 := h9; show q 0 (q 10 (q 30 1 - 1)) < 2 ^ 31; have h8 := hW.1.1.2.2.2 (q 30 1 - 1) (by omega); rw [hL.2.1 _ h8]; omega))
                                                                          subst hT
                                                                          clear hp
                                                                          obtain rfl : r97 = (-75) := kt_lit (A := -75) (by omega) (by decide)
                                                                          refine lv_if_lt (tgt := 202) hx hb dL_areStocks_195 (by decide) (fun c98 => ?_) (fun c98 => ?_)
                                                                          · refine lv_iconst (v := 0) hx hb dL_areStocks_202 (by decide) ?_
                                                                            refine lv_icmp_ne (tgt := 210) hx hb dL_areStocks_203 (by decide) (fun c99 => ?_) (fun c99 => ?_)
                                                                            · exact absurd c99 (by decide)
                                                                            · refine lv_iconst (v := 1) hx hb dL_areStocks_206 (by decide) ?_
                                                                              refine lv_goto (tgt := 211) hx hb dL_areStocks_207 (by decide) ?_
                                                                              refine lv_iand hx hb dL_areStocks_211 ?_
                                                                              refine lv_topi (fun x100 e100 => ?_)
                                                                              obtain rfl : x100 = 1 := e100.trans (by decide)
                                                                              refine lv_istore (lv' := [(4, .int 1), (5, .int 1), (3, .int x56), (0, .ref (z 0)), (1, .int un), (2, .ref rr)]) hx hb dL_areStocks_212 hl (by decide) rfl (fun ls hl => ?_)
                                                                              clear c89 nr90 c91 nr92 c93 c94 nr95 c96 ar97 br97 c98 c99 e100
                                                                              refine lv_iinc (v := 2) (lv' := [(5, .int 2), (4, .int 1), (3, .int x56), (0, .ref (z 0)), (1, .int un), (2, .ref rr)]) hx hb dL_areStocks_214 hl (k := 1) rfl (by decide) (by decide) rfl (fun ls hl => ?_)
                                                                              refine lv_goto (tgt := 136) hx hb dL_areStocks_217 (by decide) ?_
                                                                              refine lv_iload hx hb dL_areStocks_136 (lv_at hl 0 rfl) ?_
                                                                              refine lv_iconst (v := 2) hx hb dL_areStocks_138 (by decide) ?_
                                                                              refine lv_icmp_ge (tgt := 220) hx hb dL_areStocks_139 (by decide) (fun c101 => ?_) (fun c101 => ?_)
                                                                              · refine lv_iload hx hb dL_areStocks_220 (lv_at hl 1 rfl) ?_
                                                                                refine lv_if_eq (tgt := 234) hx hb dL_areStocks_222 (by decide) (fun c102 => ?_) (fun c102 => ?_)
                                                                                · exact absurd c102 (by decide)
                                                                                · refine lv_iload_n hx hb dL_areStocks_225 rfl (lv_at hl 2 rfl) ?_
                                                                                  refine lv_iload_n hx hb dL_areStocks_226 rfl (lv_at hl 4 rfl) ?_
                                                                                  refine lv_icmp_ne (tgt := 234) hx hb dL_areStocks_227 (by decide) (fun c103 => ?_) (fun c103 => ?_)
                                                                                  · have d103 : x56.toInt ≠ un.toInt := mt (kc_eq (rfl : x56.toInt = x56.toInt) (rfl : un.toInt = un.toInt)).mpr c103
                                                                                    exfalso; omega
                                                                                  · have d103 : x56.toInt = un.toInt := (kc_eq (rfl : x56.toInt = x56.toInt) (rfl : un.toInt = un.toInt)).mp c103
                                                                                    refine lv_iconst (v := 1) hx hb dL_areStocks_230 (by decide) ?_
                                                                                    refine lv_goto (tgt := 235) hx hb dL_areStocks_231 (by decide) ?_
                                                                                    exact kEndv F hr rfl hlk hP hO hS (by omega) (by omega) dL_areStocks_235 rfl
                                                                              · exact absurd (by decide) c101
                                                                          · exact absurd (by decide) c98
                                                                        · exact absurd (by decide) c96
                                                                    · exact absurd (by decide) c93
                                                                  · exact absurd (by decide) c91
                                                                · refine lv_iload hx hb dL_areStocks_142 (lv_at hl 1 rfl) ?_
                                                                  refine lv_aload_n hx hb dL_areStocks_144 rfl (lv_at hl 3 rfl) ?_
                                                                  refine lv_iload hx hb dL_areStocks_145 (lv_at hl 0 rfl) ?_
                                                                  refine kcallhI (kSthW (n := 2) (As := [.ref (z 0), .int 1]) (rest := [.int 1]) F hE hNc hK hP hD hS hA (kh_carried l g e0 S _ (z 0) 1 _ _ hI.ob0 (c_X5_carried l hl0 g e0 z S _ hI 1) (fun E h => h.1)) kw_236 kw_237 kw_61 kw_238 (by decide +kernel) ⟨Nat.le_of_ble_eq_true rfl, Nat.le_of_ble_eq_true rfl⟩ rfl hl.1 rfl (Nat.le_of_ble_eq_true rfl) dL_areStocks_147 ⟨(by show 0 + 1 + 1 + 1 + 1 + 1 + 1 + 1 + 1 + 1 + 1 + 1 + 1 + 1 + 1 + 1 + 1 + 1 + 1 + 1 + 1 + 1 + 1 + 1 + 1 + 1 + 1 + 1 + 1 + 1 + 1 + 1 + 1 + 1 + 1 + 1 + 1 + 1 + 1 + 2 + 1 ≤ 45; omega), (by show 0 + 6 + 6 + 6 + 6 + 6 + 6 + 6 + 6 + 6 + 6 + 6 + 6 + 6 + 6 + 6 + 6 + 6 + 6 + 6 + 6 + 6 + 6 + 6 + 6 + 6 + 6 + 6 + 6 + 6 + 6 + 6 + 6 + 6 + 6 + 6 + 6 + 6 + 6 + 12 + 6 ≤ 270; omega)⟩) rfl hD hS hA (fun r104 T1 H locs hp hP hq1x hq2x hq3x hf1 hS => ?_)
                                                                  clear hq1x hq2x hq3x
                                                                  have hO := kO_keep hO hdis hf1
                                                                  obtain ⟨hT, nr104⟩ := kp_R (i := 1) (f := fun j => q 31 j) hp (by decide : (1 : Int32).toInt = ((1 : Nat) : Int)) (by omega) (fun j hj => (hR.2.2.2.2.2.1 j hj).2 31 (by decide)) (show q 31 1 < 2 ^ 31 by omega)
                                                                  subst hT
                                                                  clear hp
                                                                  refine lv_if_le (tgt := 157) hx hb dL_areStocks_150 (by decide) (fun c105 => ?_) (fun c105 => ?_)
                                                                  · have d105 : r104.toInt ≤ (0) := (kc_le (rfl : r104.toInt = r104.toInt) (by decide : (0 : Int32).toInt = 0)).mp c105
                                                                    exfalso; omega
                                                                  · have d105 : ¬ (r104.toInt ≤ (0)) := mt (kc_le (rfl : r104.toInt = r104.toInt) (by decide : (0 : Int32).toInt = 0)).mpr c105
                                                                    refine lv_iconst (v := 1) hx hb dL_areStocks_153 (by decide) ?_
                                                                    refine lv_goto (tgt := 158) hx hb dL_areStocks_154 (by decide) ?_
                                                                    refine lv_aload_n hx hb dL_areStocks_158 rfl (lv_at hl 3 rfl) ?_
                                                                    refine lv_iload hx hb dL_areStocks_159 (lv_at hl 0 rfl) ?_
                                                                    refine kcallhI (kSthW (n := 2) (As := [.ref (z 0), .int 1]) (rest := [.int 1, .int 1]) F hE hNc hK hP hD hS hA (kh_minutesOf l g e0 S _ (z 0) 1 _ _ hI.ob0 (c_X5_minutesOf l hl0 g e0 z S _ hI 1) (fun E h => h.1)) kw_248 kw_249 kw_61 kw_250 (by decide +kernel) ⟨Nat.le_of_ble_eq_true rfl, Nat.le_of_ble_eq_true rfl⟩ rfl hl.1 rfl (Nat.le_of_ble_eq_true rfl) dL_areStocks_161 ⟨(by show 0 + 1 + 1 + 1 + 1 + 1 + 1 + 1 + 1 + 1 + 1 + 1 + 1 + 1 + 1 + 1 + 1 + 1 + 1 + 1 + 1 + 1 + 1 + 1 + 1 + 1 + 1 + 1 + 1 + 1 + 1 + 1 + 1 + 1 + 1 + 1 + 1 + 1 + 1 + 2 + 1 + 1 ≤ 45; omega), (by show 0 + 6 + 6 + 6 + 6 + 6 + 6 + 6 + 6 + 6 + 6 + 6 + 6 + 6 + 6 + 6 + 6 + 6 + 6 + 6 + 6 + 6 + 6 + 6 + 6 + 6 + 6 + 6 + 6 + 6 + 6 + 6 + 6 + 6 + 6 + 6 + 6 + 6 + 6 + 12 + 6 + 6 ≤ 270; omega)⟩) rfl hD hS hA (fun r106 T1 H locs hp hP hq1x hq2x hq3x hf1 hS => ?_)
                                                                    clear hq1x hq2x hq3x
                                                                    have hO := kO_keep hO hdis hf1
                                                                    obtain ⟨hT, nr106⟩ := kp_R (i := 1) (f := fun j => q 32 j) hp (by decide : (1 : Int32).toInt = ((1 : Nat) : Int)) (by omega) (fun j hj => (hR.2.2.2.2.2.1 j hj).2 32 (by decide)) (show q 32 1 < 2 ^ 31 by omega)
                                                                    subst hT
                                                                    clear hp
                                                                    refine lv_if_le (tgt := 171) hx hb dL_areStocks_164 (by decide) (fun c107 => ?_) (fun c107 => ?_)
                                                                    · have d107 : r106.toInt ≤ (0) := (kc_le (rfl : r106.toInt = r106.toInt) (by decide : (0 : Int32).toInt = 0)).mp c107
                                                                      exfalso; omega
                                                                    · have d107 : ¬ (r106.toInt ≤ (0)) := mt (kc_le (rfl : r106.toInt = r106.toInt) (by decide : (0 : Int32).toInt = 0)).mpr c107
                                                                      refine lv_iconst (v := 1) hx hb dL_areStocks_167 (by decide) ?_
                                                                      refine lv_goto (tgt := 172) hx hb dL_areStocks_168 (by decide) ?_
                                                                      refine lv_icmp_ne (tgt := 210) hx hb dL_areStocks_172 (by decide) (fun c108 => ?_) (fun c108 => ?_)
                                                                      · exact absurd c108 (by decide)
                                                                      · refine lv_aload_n hx hb dL_areStocks_175 rfl (lv_at hl 3 rfl) ?_
                                                                        refine lv_iload hx hb dL_areStocks_176 (lv_at hl 0 rfl) ?_
                                                                        refine kcallhI (kSthW (n := 2) (As := [.ref (z 0), .int 1]) (rest := [.int 1]) F hE hNc hK hP hD hS hA (kh_carried l g e0 S _ (z 0) 1 _ _ hI.ob0 (c_X5_carried l hl0 g e0 z S _ hI 1) (fun E h => h.1)) kw_236 kw_237 kw_61 kw_238 (by decide +kernel) ⟨Nat.le_of_ble_eq_true rfl, Nat.le_of_ble_eq_true rfl⟩ rfl hl.1 rfl (Nat.le_of_ble_eq_true rfl) dL_areStocks_178 ⟨(by show 0 + 1 + 1 + 1 + 1 + 1 + 1 + 1 + 1 + 1 + 1 + 1 + 1 + 1 + 1 + 1 + 1 + 1 + 1 + 1 + 1 + 1 + 1 + 1 + 1 + 1 + 1 + 1 + 1 + 1 + 1 + 1 + 1 + 1 + 1 + 1 + 1 + 1 + 1 + 2 + 1 + 1 + 1 ≤ 45; omega), (by show 0 + 6 + 6 + 6 + 6 + 6 + 6 + 6 + 6 + 6 + 6 + 6 + 6 + 6 + 6 + 6 + 6 + 6 + 6 + 6 + 6 + 6 + 6 + 6 + 6 + 6 + 6 + 6 + 6 + 6 + 6 + 6 + 6 + 6 + 6 + 6 + 6 + 6 + 6 + 12 + 6 + 6 + 6 ≤ 270; omega)⟩) rfl hD hS hA (fun r109 T1 H locs hp hP hq1x hq2x hq3x hf1 hS => ?_)
                                                                        clear hq1x hq2x hq3x
                                                                        have hO := kO_keep hO hdis hf1
                                                                        obtain ⟨hT, nr109⟩ := kp_R (i := 1) (f := fun j => q 31 j) hp (by decide : (1 : Int32).toInt = ((1 : Nat) : Int)) (by omega) (fun j hj => (hR.2.2.2.2.2.1 j hj).2 31 (by decide)) (show q 31 1 < 2 ^ 31 by omega)
                                                                        subst hT
                                                                        clear hp
                                                                        refine lv_if_le (tgt := 188) hx hb dL_areStocks_181 (by decide) (fun c110 => ?_) (fun c110 => ?_)
                                                                        · have d110 : r109.toInt ≤ (0) := (kc_le (rfl : r109.toInt = r109.toInt) (by decide : (0 : Int32).toInt = 0)).mp c110
                                                                          exfalso; omega
                                                                        · have d110 : ¬ (r109.toInt ≤ (0)) := mt (kc_le (rfl : r109.toInt = r109.toInt) (by decide : (0 : Int32).toInt = 0)).mpr c110
                                                                          refine lv_iconst (v := 1) hx hb dL_areStocks_184 (by decide) ?_
                                                                          refine lv_goto (tgt := 189) hx hb dL_areStocks_185 (by decide) ?_
                                                                          refine lv_aload_n hx hb dL_areStocks_189 rfl (lv_at hl 3 rfl) ?_
                                                                          refine lv_iload hx hb dL_areStocks_190 (lv_at hl 0 rfl) ?_
                                                                          refine kcallhI (kSthW (n := 2) (As := [.ref (z 0), .int 1]) (rest := [.int 1, .int 1]) F hE hNc hK hP hD hS hA (kh_aisleOf l g e0 S _ (z 0) 1 _ _ hI.ob0 (c_X5_aisleOf_x l hl0 g e0 z S _ hI av lv q hR hW.1 1) (fun E h => h.imp And.left And.left)) kw_467 kw_468 kw_61 kw_469 (by decide +kernel) ⟨Nat.le_of_ble_eq_true rfl, Nat.le_of_ble_eq_true rfl⟩ rfl hl.1 rfl (Nat.le_of_ble_eq_true rfl) dL_areStocks_192 ⟨(by show 0 + 1 + 1 + 1 + 1 + 1 + 1 + 1 + 1 + 1 + 1 + 1 + 1 + 1 + 1 + 1 + 1 + 1 + 1 + 1 + 1 + 1 + 1 + 1 + 1 + 1 + 1 + 1 + 1 + 1 + 1 + 1 + 1 + 1 + 1 + 1 + 1 + 1 + 1 + 2 + 1 + 1 + 1 + 2 ≤ 45; omega), (by show 0 + 6 + 6 + 6 + 6 + 6 + 6 + 6 + 6 + 6 + 6 + 6 + 6 + 6 + 6 + 6 + 6 + 6 + 6 + 6 + 6 + 6 + 6 + 6 + 6 + 6 + 6 + 6 + 6 + 6 + 6 + 6 + 6 + 6 + 6 + 6 + 6 + 6 + 6 + 12 + 6 + 6 + 6 + 12 ≤ 270; omega)⟩) rfl hD hS hA (fun r111 T1 H locs hp hP hq1x hq2x hq3x hf1 hS => ?_)
                                                                          clear hq1x hq2x hq3x
                                                                          have hO := kO_keep hO hdis hf1
                                                                          obtain ⟨hT, ar111, br111⟩ := kp_I (i := 1) (k := fun j => q 30 j) (f := fun j => q 0 (q 10 (q 30 j - 1))) hp (by decide : (1 : Int32).toInt = ((1 : Nat) : Int)) (by omega) (fun h9 => (by have h9 : q 30 1 ≠ 0 := h9; show q 0 (q 10 (q 30 1 - 1)) < 2 ^ 31; have h8 := hW.1.1.2.2.2 (q 30 1 - 1) (by omega); rw [hL.2.1 _ h8]; omega))
                                                                          subst hT
                                                                          clear hp
                                                                          refine lv_if_lt (tgt := 202) hx hb dL_areStocks_195 (by decide) (fun c112 => ?_) (fun c112 => ?_)
                                                                          · have d112 : r111.toInt < (0) := (kc_lt (rfl : r111.toInt = r111.toInt) (by decide : (0 : Int32).toInt = 0)).mp c112
                                                                            exfalso; omega
                                                                          · have d112 : ¬ (r111.toInt < (0)) := mt (kc_lt (rfl : r111.toInt = r111.toInt) (by decide : (0 : Int32).toInt = 0)).mpr c112
                                                                            refine lv_iconst (v := 1) hx hb dL_areStocks_198 (by decide) ?_
                                                                            refine lv_goto (tgt := 203) hx hb dL_areStocks_199 (by decide) ?_
                                                                            refine lv_icmp_ne (tgt := 210) hx hb dL_areStocks_203 (by decide) (fun c113 => ?_) (fun c113 => ?_)
                                                                            · exact absurd c113 (by decide)
                                                                            · refine lv_iconst (v := 1) hx hb dL_areStocks_206 (by decide) ?_
                                                                              refine lv_goto (tgt := 211) hx hb dL_areStocks_207 (by decide) ?_
                                                                              refine lv_iand hx hb dL_areStocks_211 ?_
                                                                              refine lv_topi (fun x114 e114 => ?_)
                                                                              obtain rfl : x114 = 1 := e114.trans (by decide)
                                                                              refine lv_istore (lv' := [(4, .int 1), (5, .int 1), (3, .int x56), (0, .ref (z 0)), (1, .int un), (2, .ref rr)]) hx hb dL_areStocks_212 hl (by decide) rfl (fun ls hl => ?_)
                                                                              clear c89 nr104 c105 d105 nr106 c107 d107 c108 nr109 c110 d110 ar111 br111 c112 d112 c113 e114
                                                                              refine lv_iinc (v := 2) (lv' := [(5, .int 2), (4, .int 1), (3, .int x56), (0, .ref (z 0)), (1, .int un), (2, .ref rr)]) hx hb dL_areStocks_214 hl (k := 1) rfl (by decide) (by decide) rfl (fun ls hl => ?_)
                                                                              refine lv_goto (tgt := 136) hx hb dL_areStocks_217 (by decide) ?_
                                                                              refine lv_iload hx hb dL_areStocks_136 (lv_at hl 0 rfl) ?_
                                                                              refine lv_iconst (v := 2) hx hb dL_areStocks_138 (by decide) ?_
                                                                              refine lv_icmp_ge (tgt := 220) hx hb dL_areStocks_139 (by decide) (fun c115 => ?_) (fun c115 => ?_)
                                                                              · refine lv_iload hx hb dL_areStocks_220 (lv_at hl 1 rfl) ?_
                                                                                refine lv_if_eq (tgt := 234) hx hb dL_areStocks_222 (by decide) (fun c116 => ?_) (fun c116 => ?_)
                                                                                · exact absurd c116 (by decide)
                                                                                · refine lv_iload_n hx hb dL_areStocks_225 rfl (lv_at hl 2 rfl) ?_
                                                                                  refine lv_iload_n hx hb dL_areStocks_226 rfl (lv_at hl 4 rfl) ?_
                                                                                  refine lv_icmp_ne (tgt := 234) hx hb dL_areStocks_227 (by decide) (fun c117 => ?_) (fun c117 => ?_)
                                                                                  · have d117 : x56.toInt ≠ un.toInt := mt (kc_eq (rfl : x56.toInt = x56.toInt) (rfl : un.toInt = un.toInt)).mpr c117
                                                                                    exfalso; omega
                                                                                  · have d117 : x56.toInt = un.toInt := (kc_eq (rfl : x56.toInt = x56.toInt) (rfl : un.toInt = un.toInt)).mp c117
                                                                                    refine lv_iconst (v := 1) hx hb dL_areStocks_230 (by decide) ?_
                                                                                    refine lv_goto (tgt := 235) hx hb dL_areStocks_231 (by decide) ?_
                                                                                    exact kEndv F hr rfl hlk hP hO hS (by omega) (by omega) dL_areStocks_235 rfl
                                                                              · exact absurd (by decide) c115
                                                          · exact absurd (by decide) c86
                                                        · exact absurd (by decide) c84
                                                    · exact absurd (by decide) c81
                                                  · exact absurd (by decide) c79
                                                · refine lv_iload hx hb dL_areStocks_142 (lv_at hl 1 rfl) ?_
                                                  refine lv_aload_n hx hb dL_areStocks_144 rfl (lv_at hl 3 rfl) ?_
                                                  refine lv_iload hx hb dL_areStocks_145 (lv_at hl 0 rfl) ?_
                                                  refine kcallhI (kSthW (n := 2) (As := [.ref (z 0), .int 0]) (rest := [.int 1]) F hE hNc hK hP hD hS hA (kh_carried l g e0 S _ (z 0) 0 _ _ hI.ob0 (c_X5_carried l hl0 g e0 z S _ hI 0) (fun E h => h.1)) kw_236 kw_237 kw_61 kw_238 (by decide +kernel) ⟨Nat.le_of_ble_eq_true rfl, Nat.le_of_ble_eq_true rfl⟩ rfl hl.1 rfl (Nat.le_of_ble_eq_true rfl) dL_areStocks_147 ⟨(by show 0 + 1 + 1 + 1 + 1 + 1 + 1 + 1 + 1 + 1 + 1 + 1 + 1 + 1 + 1 + 1 + 1 + 1 + 1 + 1 + 1 + 1 + 1 + 1 + 1 + 1 + 1 + 1 + 1 + 1 + 1 + 1 + 1 + 1 + 1 + 1 + 1 ≤ 45; omega), (by show 0 + 6 + 6 + 6 + 6 + 6 + 6 + 6 + 6 + 6 + 6 + 6 + 6 + 6 + 6 + 6 + 6 + 6 + 6 + 6 + 6 + 6 + 6 + 6 + 6 + 6 + 6 + 6 + 6 + 6 + 6 + 6 + 6 + 6 + 6 + 6 + 6 ≤ 270; omega)⟩) rfl hD hS hA (fun r118 T1 H locs hp hP hq1x hq2x hq3x hf1 hS => ?_)
                                                  clear hq1x hq2x hq3x
                                                  have hO := kO_keep hO hdis hf1
                                                  obtain ⟨hT, nr118⟩ := kp_R (i := 0) (f := fun j => q 31 j) hp (by decide : (0 : Int32).toInt = ((0 : Nat) : Int)) (by omega) (fun j hj => (hR.2.2.2.2.2.1 j hj).2 31 (by decide)) (show q 31 0 < 2 ^ 31 by omega)
                                                  subst hT
                                                  clear hp
                                                  refine lv_if_le (tgt := 157) hx hb dL_areStocks_150 (by decide) (fun c119 => ?_) (fun c119 => ?_)
                                                  · have d119 : r118.toInt ≤ (0) := (kc_le (rfl : r118.toInt = r118.toInt) (by decide : (0 : Int32).toInt = 0)).mp c119
                                                    exfalso; omega
                                                  · have d119 : ¬ (r118.toInt ≤ (0)) := mt (kc_le (rfl : r118.toInt = r118.toInt) (by decide : (0 : Int32).toInt = 0)).mpr c119
                                                    refine lv_iconst (v := 1) hx hb dL_areStocks_153 (by decide) ?_
                                                    refine lv_goto (tgt := 158) hx hb dL_areStocks_154 (by decide) ?_
                                                    refine lv_aload_n hx hb dL_areStocks_158 rfl (lv_at hl 3 rfl) ?_
                                                    refine lv_iload hx hb dL_areStocks_159 (lv_at hl 0 rfl) ?_
                                                    refine kcallhI (kSthW (n := 2) (As := [.ref (z 0), .int 0]) (rest := [.int 1, .int 1]) F hE hNc hK hP hD hS hA (kh_minutesOf l g e0 S _ (z 0) 0 _ _ hI.ob0 (c_X5_minutesOf l hl0 g e0 z S _ hI 0) (fun E h => h.1)) kw_248 kw_249 kw_61 kw_250 (by decide +kernel) ⟨Nat.le_of_ble_eq_true rfl, Nat.le_of_ble_eq_true rfl⟩ rfl hl.1 rfl (Nat.le_of_ble_eq_true rfl) dL_areStocks_161 ⟨(by show 0 + 1 + 1 + 1 + 1 + 1 + 1 + 1 + 1 + 1 + 1 + 1 + 1 + 1 + 1 + 1 + 1 + 1 + 1 + 1 + 1 + 1 + 1 + 1 + 1 + 1 + 1 + 1 + 1 + 1 + 1 + 1 + 1 + 1 + 1 + 1 + 1 + 1 ≤ 45; omega), (by show 0 + 6 + 6 + 6 + 6 + 6 + 6 + 6 + 6 + 6 + 6 + 6 + 6 + 6 + 6 + 6 + 6 + 6 + 6 + 6 + 6 + 6 + 6 + 6 + 6 + 6 + 6 + 6 + 6 + 6 + 6 + 6 + 6 + 6 + 6 + 6 + 6 + 6 ≤ 270; omega)⟩) rfl hD hS hA (fun r120 T1 H locs hp hP hq1x hq2x hq3x hf1 hS => ?_)
                                                    clear hq1x hq2x hq3x
                                                    have hO := kO_keep hO hdis hf1
                                                    obtain ⟨hT, nr120⟩ := kp_R (i := 0) (f := fun j => q 32 j) hp (by decide : (0 : Int32).toInt = ((0 : Nat) : Int)) (by omega) (fun j hj => (hR.2.2.2.2.2.1 j hj).2 32 (by decide)) (show q 32 0 < 2 ^ 31 by omega)
                                                    subst hT
                                                    clear hp
                                                    refine lv_if_le (tgt := 171) hx hb dL_areStocks_164 (by decide) (fun c121 => ?_) (fun c121 => ?_)
                                                    · have d121 : r120.toInt ≤ (0) := (kc_le (rfl : r120.toInt = r120.toInt) (by decide : (0 : Int32).toInt = 0)).mp c121
                                                      exfalso; omega
                                                    · have d121 : ¬ (r120.toInt ≤ (0)) := mt (kc_le (rfl : r120.toInt = r120.toInt) (by decide : (0 : Int32).toInt = 0)).mpr c121
                                                      refine lv_iconst (v := 1) hx hb dL_areStocks_167 (by decide) ?_
                                                      refine lv_goto (tgt := 172) hx hb dL_areStocks_168 (by decide) ?_
                                                      refine lv_icmp_ne (tgt := 210) hx hb dL_areStocks_172 (by decide) (fun c122 => ?_) (fun c122 => ?_)
                                                      · exact absurd c122 (by decide)
                                                      · refine lv_aload_n hx hb dL_areStocks_175 rfl (lv_at hl 3 rfl) ?_
                                                        refine lv_iload hx hb dL_areStocks_176 (lv_at hl 0 rfl) ?_
                                                        refine kcallhI (kSthW (n := 2) (As := [.ref (z 0), .int 0]) (rest := [.int 1]) F hE hNc hK hP hD hS hA (kh_carried l g e0 S _ (z 0) 0 _ _ hI.ob0 (c_X5_carried l hl0 g e0 z S _ hI 0) (fun E h => h.1)) kw_236 kw_237 kw_61 kw_238 (by decide +kernel) ⟨Nat.le_of_ble_eq_true rfl, Nat.le_of_ble_eq_true rfl⟩ rfl hl.1 rfl (Nat.le_of_ble_eq_true rfl) dL_areStocks_178 ⟨(by show 0 + 1 + 1 + 1 + 1 + 1 + 1 + 1 + 1 + 1 + 1 + 1 + 1 + 1 + 1 + 1 + 1 + 1 + 1 + 1 + 1 + 1 + 1 + 1 + 1 + 1 + 1 + 1 + 1 + 1 + 1 + 1 + 1 + 1 + 1 + 1 + 1 + 1 + 1 ≤ 45; omega), (by show 0 + 6 + 6 + 6 + 6 + 6 + 6 + 6 + 6 + 6 + 6 + 6 + 6 + 6 + 6 + 6 + 6 + 6 + 6 + 6 + 6 + 6 + 6 + 6 + 6 + 6 + 6 + 6 + 6 + 6 + 6 + 6 + 6 + 6 + 6 + 6 + 6 + 6 + 6 ≤ 270; omega)⟩) rfl hD hS hA (fun r123 T1 H locs hp hP hq1x hq2x hq3x hf1 hS => ?_)
                                                        clear hq1x hq2x hq3x
                                                        have hO := kO_keep hO hdis hf1
                                                        obtain ⟨hT, nr123⟩ := kp_R (i := 0) (f := fun j => q 31 j) hp (by decide : (0 : Int32).toInt = ((0 : Nat) : Int)) (by omega) (fun j hj => (hR.2.2.2.2.2.1 j hj).2 31 (by decide)) (show q 31 0 < 2 ^ 31 by omega)
                                                        subst hT
                                                        clear hp
                                                        refine lv_if_le (tgt := 188) hx hb dL_areStocks_181 (by decide) (fun c124 => ?_) (fun c124 => ?_)
                                                        · have d124 : r123.toInt ≤ (0) := (kc_le (rfl : r123.toInt = r123.toInt) (by decide : (0 : Int32).toInt = 0)).mp c124
                                                          exfalso; omega
                                                        · have d124 : ¬ (r123.toInt ≤ (0)) := mt (kc_le (rfl : r123.toInt = r123.toInt) (by decide : (0 : Int32).toInt = 0)).mpr c124
                                                          refine lv_iconst (v := 1) hx hb dL_areStocks_184 (by decide) ?_
                                                          refine lv_goto (tgt := 189) hx hb dL_areStocks_185 (by decide) ?_
                                                          refine lv_aload_n hx hb dL_areStocks_189 rfl (lv_at hl 3 rfl) ?_
                                                          refine lv_iload hx hb dL_areStocks_190 (lv_at hl 0 rfl) ?_
                                                          refine kcallhI (kSthW (n := 2) (As := [.ref (z 0), .int 0]) (rest := [.int 1, .int 1]) F hE hNc hK hP hD hS hA (kh_aisleOf l g e0 S _ (z 0) 0 _ _ hI.ob0 (c_X5_aisleOf_x l hl0 g e0 z S _ hI av lv q hR hW.1 0) (fun E h => h.imp And.left And.left)) kw_467 kw_468 kw_61 kw_469 (by decide +kernel) ⟨Nat.le_of_ble_eq_true rfl, Nat.le_of_ble_eq_true rfl⟩ rfl hl.1 rfl (Nat.le_of_ble_eq_true rfl) dL_areStocks_192 ⟨(by show 0 + 1 + 1 + 1 + 1 + 1 + 1 + 1 + 1 + 1 + 1 + 1 + 1 + 1 + 1 + 1 + 1 + 1 + 1 + 1 + 1 + 1 + 1 + 1 + 1 + 1 + 1 + 1 + 1 + 1 + 1 + 1 + 1 + 1 + 1 + 1 + 1 + 1 + 1 + 2 ≤ 45; omega), (by show 0 + 6 + 6 + 6 + 6 + 6 + 6 + 6 + 6 + 6 + 6 + 6 + 6 + 6 + 6 + 6 + 6 + 6 + 6 + 6 + 6 + 6 + 6 + 6 + 6 + 6 + 6 + 6 + 6 + 6 + 6 + 6 + 6 + 6 + 6 + 6 + 6 + 6 + 6 + 12 ≤ 270; omega)⟩) rfl hD hS hA (fun r125 T1 H locs hp hP hq1x hq2x hq3x hf1 hS => ?_)
                                                          clear hq1x hq2x hq3x
                                                          have hO := kO_keep hO hdis hf1
                                                          obtain ⟨hT, ar125, br125⟩ := kp_I (i := 0) (k := fun j => q 30 j) (f := fun j => q 0 (q 10 (q 30 j - 1))) hp (by decide : (0 : Int32).toInt = ((0 : Nat) : Int)) (by omega) (fun h9 => (by have h9 : q 30 0 ≠ 0 := h9; show q 0 (q 10 (q 30 0 - 1)) < 2 ^ 31; have h8 := hW.1.1.2.2.2 (q 30 0 - 1) (by omega); rw [hL.2.1 _ h8]; omega))
                                                          subst hT
                                                          clear hp
                                                          refine lv_if_lt (tgt := 202) hx hb dL_areStocks_195 (by decide) (fun c126 => ?_) (fun c126 => ?_)
                                                          · have d126 : r125.toInt < (0) := (kc_lt (rfl : r125.toInt = r125.toInt) (by decide : (0 : Int32).toInt = 0)).mp c126
                                                            exfalso; omega
                                                          · have d126 : ¬ (r125.toInt < (0)) := mt (kc_lt (rfl : r125.toInt = r125.toInt) (by decide : (0 : Int32).toInt = 0)).mpr c126
                                                            refine lv_iconst (v := 1) hx hb dL_areStocks_198 (by decide) ?_
                                                            refine lv_goto (tgt := 203) hx hb dL_areStocks_199 (by decide) ?_
                                                            refine lv_icmp_ne (tgt := 210) hx hb dL_areStocks_203 (by decide) (fun c127 => ?_) (fun c127 => ?_)
                                                            · exact absurd c127 (by decide)
                                                            · refine lv_iconst (v := 1) hx hb dL_areStocks_206 (by decide) ?_
                                                              refine lv_goto (tgt := 211) hx hb dL_areStocks_207 (by decide) ?_
                                                              refine lv_iand hx hb dL_areStocks_211 ?_
                                                              refine lv_topi (fun x128 e128 => ?_)
                                                              obtain rfl : x128 = 1 := e128.trans (by decide)
                                                              refine lv_istore (lv' := [(4, .int 1), (5, .int 0), (3, .int x56), (0, .ref (z 0)), (1, .int un), (2, .ref rr)]) hx hb dL_areStocks_212 hl (by decide) rfl (fun ls hl => ?_)
                                                              clear c76 c77 nr118 c119 d119 nr120 c121 d121 c122 nr123 c124 d124 ar125 br125 c126 d126 c127 e128
                                                              refine lv_iinc (v := 1) (lv' := [(5, .int 1), (4, .int 1), (3, .int x56), (0, .ref (z 0)), (1, .int un), (2, .ref rr)]) hx hb dL_areStocks_214 hl (k := 1) rfl (by decide) (by decide) rfl (fun ls hl => ?_)
                                                              refine lv_goto (tgt := 136) hx hb dL_areStocks_217 (by decide) ?_
                                                              refine lv_iload hx hb dL_areStocks_136 (lv_at hl 0 rfl) ?_
                                                              refine lv_iconst (v := 2) hx hb dL_areStocks_138 (by decide) ?_
                                                              refine lv_icmp_ge (tgt := 220) hx hb dL_areStocks_139 (by decide) (fun c129 => ?_) (fun c129 => ?_)
                                                              · exact absurd c129 (by decide)
                                                              · rcases w71 with ⟨i1, i2, i3⟩ | ⟨o1, o2, o3, o4, o5⟩
                                                                · refine lv_iload hx hb dL_areStocks_142 (lv_at hl 1 rfl) ?_
                                                                  refine lv_aload_n hx hb dL_areStocks_144 rfl (lv_at hl 3 rfl) ?_
                                                                  refine lv_iload hx hb dL_areStocks_145 (lv_at hl 0 rfl) ?_
                                                                  refine kcallhI (kSthW (n := 2) (As := [.ref (z 0), .int 1]) (rest := [.int 1]) F hE hNc hK hP hD hS hA (kh_carried l g e0 S _ (z 0) 1 _ _ hI.ob0 (c_X5_carried l hl0 g e0 z S _ hI 1) (fun E h => h.1)) kw_236 kw_237 kw_61 kw_238 (by decide +kernel) ⟨Nat.le_of_ble_eq_true rfl, Nat.le_of_ble_eq_true rfl⟩ rfl hl.1 rfl (Nat.le_of_ble_eq_true rfl) dL_areStocks_147 ⟨(by show 0 + 1 + 1 + 1 + 1 + 1 + 1 + 1 + 1 + 1 + 1 + 1 + 1 + 1 + 1 + 1 + 1 + 1 + 1 + 1 + 1 + 1 + 1 + 1 + 1 + 1 + 1 + 1 + 1 + 1 + 1 + 1 + 1 + 1 + 1 + 1 + 1 + 1 + 1 + 2 + 1 ≤ 45; omega), (by show 0 + 6 + 6 + 6 + 6 + 6 + 6 + 6 + 6 + 6 + 6 + 6 + 6 + 6 + 6 + 6 + 6 + 6 + 6 + 6 + 6 + 6 + 6 + 6 + 6 + 6 + 6 + 6 + 6 + 6 + 6 + 6 + 6 + 6 + 6 + 6 + 6 + 6 + 6 + 12 + 6 ≤ 270; omega)⟩) rfl hD hS hA (fun r130 T1 H locs hp hP hq1x hq2x hq3x hf1 hS => ?_)
                                                                  clear hq1x hq2x hq3x
                                                                  have hO := kO_keep hO hdis hf1
                                                                  obtain ⟨hT, nr130⟩ := kp_R (i := 1) (f := fun j => q 31 j) hp (by decide : (1 : Int32).toInt = ((1 : Nat) : Int)) (by omega) (fun j hj => (hR.2.2.2.2.2.1 j hj).2 31 (by decide)) (show q 31 1 < 2 ^ 31 by omega)
                                                                  subst hT
                                                                  clear hp
                                                                  obtain rfl : r130 = 0 := kt_lit (A := 0) (by omega) (by decide)
                                                                  refine lv_if_le (tgt := 157) hx hb dL_areStocks_150 (by decide) (fun c131 => ?_) (fun c131 => ?_)
                                                                  · refine lv_iconst (v := 0) hx hb dL_areStocks_157 (by decide) ?_
                                                                    refine lv_aload_n hx hb dL_areStocks_158 rfl (lv_at hl 3 rfl) ?_
                                                                    refine lv_iload hx hb dL_areStocks_159 (lv_at hl 0 rfl) ?_
                                                                    refine kcallhI (kSthW (n := 2) (As := [.ref (z 0), .int 1]) (rest := [.int 0, .int 1]) F hE hNc hK hP hD hS hA (kh_minutesOf l g e0 S _ (z 0) 1 _ _ hI.ob0 (c_X5_minutesOf l hl0 g e0 z S _ hI 1) (fun E h => h.1)) kw_248 kw_249 kw_61 kw_250 (by decide +kernel) ⟨Nat.le_of_ble_eq_true rfl, Nat.le_of_ble_eq_true rfl⟩ rfl hl.1 rfl (Nat.le_of_ble_eq_true rfl) dL_areStocks_161 ⟨(by show 0 + 1 + 1 + 1 + 1 + 1 + 1 + 1 + 1 + 1 + 1 + 1 + 1 + 1 + 1 + 1 + 1 + 1 + 1 + 1 + 1 + 1 + 1 + 1 + 1 + 1 + 1 + 1 + 1 + 1 + 1 + 1 + 1 + 1 + 1 + 1 + 1 + 1 + 1 + 2 + 1 + 1 ≤ 45; omega), (by show 0 + 6 + 6 + 6 + 6 + 6 + 6 + 6 + 6 + 6 + 6 + 6 + 6 + 6 + 6 + 6 + 6 + 6 + 6 + 6 + 6 + 6 + 6 + 6 + 6 + 6 + 6 + 6 + 6 + 6 + 6 + 6 + 6 + 6 + 6 + 6 + 6 + 6 + 6 + 12 + 6 + 6 ≤ 270; omega)⟩) rfl hD hS hA (fun r132 T1 H locs hp hP hq1x hq2x hq3x hf1 hS => ?_)
                                                                    clear hq1x hq2x hq3x
                                                                    have hO := kO_keep hO hdis hf1
                                                                    obtain ⟨hT, nr132⟩ := kp_R (i := 1) (f := fun j => q 32 j) hp (by decide : (1 : Int32).toInt = ((1 : Nat) : Int)) (by omega) (fun j hj => (hR.2.2.2.2.2.1 j hj).2 32 (by decide)) (show q 32 1 < 2 ^ 31 by omega)
                                                                    subst hT
                                                                    clear hp
                                                                    obtain rfl : r132 = 0 := kt_lit (A := 0) (by omega) (by decide)
                                                                    refine lv_if_le (tgt := 171) hx hb dL_areStocks_164 (by decide) (fun c133 => ?_) (fun c133 => ?_)
                                                                    · refine lv_iconst (v := 0) hx hb dL_areStocks_171 (by decide) ?_
                                                                      refine lv_icmp_ne (tgt := 210) hx hb dL_areStocks_172 (by decide) (fun c134 => ?_) (fun c134 => ?_)
                                                                      · exact absurd c134 (by decide)
                                                                      · refine lv_aload_n hx hb dL_areStocks_175 rfl (lv_at hl 3 rfl) ?_
                                                                        refine lv_iload hx hb dL_areStocks_176 (lv_at hl 0 rfl) ?_
                                                                        refine kcallhI (kSthW (n := 2) (As := [.ref (z 0), .int 1]) (rest := [.int 1]) F hE hNc hK hP hD hS hA (kh_carried l g e0 S _ (z 0) 1 _ _ hI.ob0 (c_X5_carried l hl0 g e0 z S _ hI 1) (fun E h => h.1)) kw_236 kw_237 kw_61 kw_238 (by decide +kernel) ⟨Nat.le_of_ble_eq_true rfl, Nat.le_of_ble_eq_true rfl⟩ rfl hl.1 rfl (Nat.le_of_ble_eq_true rfl) dL_areStocks_178 ⟨(by show 0 + 1 + 1 + 1 + 1 + 1 + 1 + 1 + 1 + 1 + 1 + 1 + 1 + 1 + 1 + 1 + 1 + 1 + 1 + 1 + 1 + 1 + 1 + 1 + 1 + 1 + 1 + 1 + 1 + 1 + 1 + 1 + 1 + 1 + 1 + 1 + 1 + 1 + 1 + 2 + 1 + 1 + 1 ≤ 45; omega), (by show 0 + 6 + 6 + 6 + 6 + 6 + 6 + 6 + 6 + 6 + 6 + 6 + 6 + 6 + 6 + 6 + 6 + 6 + 6 + 6 + 6 + 6 + 6 + 6 + 6 + 6 + 6 + 6 + 6 + 6 + 6 + 6 + 6 + 6 + 6 + 6 + 6 + 6 + 6 + 12 + 6 + 6 + 6 ≤ 270; omega)⟩) rfl hD hS hA (fun r135 T1 H locs hp hP hq1x hq2x hq3x hf1 hS => ?_)
                                                                        clear hq1x hq2x hq3x
                                                                        have hO := kO_keep hO hdis hf1
                                                                        obtain ⟨hT, nr135⟩ := kp_R (i := 1) (f := fun j => q 31 j) hp (by decide : (1 : Int32).toInt = ((1 : Nat) : Int)) (by omega) (fun j hj => (hR.2.2.2.2.2.1 j hj).2 31 (by decide)) (show q 31 1 < 2 ^ 31 by omega)
                                                                        subst hT
                                                                        clear hp
                                                                        obtain rfl : r135 = 0 := kt_lit (A := 0) (by omega) (by decide)
                                                                        refine lv_if_le (tgt := 188) hx hb dL_areStocks_181 (by decide) (fun c136 => ?_) (fun c136 => ?_)
                                                                        · refine lv_iconst (v := 0) hx hb dL_areStocks_188 (by decide) ?_
                                                                          refine lv_aload_n hx hb dL_areStocks_189 rfl (lv_at hl 3 rfl) ?_
                                                                          refine lv_iload hx hb dL_areStocks_190 (lv_at hl 0 rfl) ?_
                                                                          refine kcallhI (kSthW (n := 2) (As := [.ref (z 0), .int 1]) (rest := [.int 0, .int 1]) F hE hNc hK hP hD hS hA (kh_aisleOf l g e0 S _ (z 0) 1 _ _ hI.ob0 (c_X5_aisleOf_x l hl0 g e0 z S _ hI av lv q hR hW.1 1) (fun E h => h.imp And.left And.left)) kw_467 kw_468 kw_61 kw_469 (by decide +kernel) ⟨Nat.le_of_ble_eq_true rfl, Nat.le_of_ble_eq_true rfl⟩ rfl hl.1 rfl (Nat.le_of_ble_eq_true rfl) dL_areStocks_192 ⟨(by show 0 + 1 + 1 + 1 + 1 + 1 + 1 + 1 + 1 + 1 + 1 + 1 + 1 + 1 + 1 + 1 + 1 + 1 + 1 + 1 + 1 + 1 + 1 + 1 + 1 + 1 + 1 + 1 + 1 + 1 + 1 + 1 + 1 + 1 + 1 + 1 + 1 + 1 + 1 + 2 + 1 + 1 + 1 + 2 ≤ 45; omega), (by show 0 + 6 + 6 + 6 + 6 + 6 + 6 + 6 + 6 + 6 + 6 + 6 + 6 + 6 + 6 + 6 + 6 + 6 + 6 + 6 + 6 + 6 + 6 + 6 + 6 + 6 + 6 + 6 + 6 + 6 + 6 + 6 + 6 + 6 + 6 + 6 + 6 + 6 + 6 + 12 + 6 + 6 + 6 + 12 ≤ 270; omega)⟩) rfl hD hS hA (fun r137 T1 H locs hp hP hq1x hq2x hq3x hf1 hS => ?_)
                                                                          clear hq1x hq2x hq3x
                                                                          have hO := kO_keep hO hdis hf1
                                                                          obtain ⟨hT, ar137, br137⟩ := kp_I (i := 1) (k := fun j => q 30 j) (f := fun j => q 0 (q 10 (q 30 j - 1))) hp (by decide : (1 : Int32).toInt = ((1 : Nat) : Int)) (by omega) (fun h9 => (by have h9 : q 30 1 ≠ 0 := h9; show q 0 (q 10 (q 30 1 - 1)) < 2 ^ 31; have h8 := hW.1.1.2.2.2 (q 30 1 - 1) (by omega); rw [hL.2.1 _ h8]; omega))
                                                                          subst hT
                                                                          clear hp
                                                                          obtain rfl : r137 = (-75) := kt_lit (A := -75) (by omega) (by decide)
                                                                          refine lv_if_lt (tgt := 202) hx hb dL_areStocks_195 (by decide) (fun c138 => ?_) (fun c138 => ?_)
                                                                          · refine lv_iconst (v := 0) hx hb dL_areStocks_202 (by decide) ?_
                                                                            refine lv_icmp_ne (tgt := 210) hx hb dL_areStocks_203 (by decide) (fun c139 => ?_) (fun c139 => ?_)
                                                                            · exact absurd c139 (by decide)
                                                                            · refine lv_iconst (v := 1) hx hb dL_areStocks_206 (by decide) ?_
                                                                              refine lv_goto (tgt := 211) hx hb dL_areStocks_207 (by decide) ?_
                                                                              refine lv_iand hx hb dL_areStocks_211 ?_
                                                                              refine lv_topi (fun x140 e140 => ?_)
                                                                              obtain rfl : x140 = 1 := e140.trans (by decide)
                                                                              refine lv_istore (lv' := [(4, .int 1), (5, .int 1), (3, .int x56), (0, .ref (z 0)), (1, .int un), (2, .ref rr)]) hx hb dL_areStocks_212 hl (by decide) rfl (fun ls hl => ?_)
                                                                              clear c129 nr130 c131 nr132 c133 c134 nr135 c136 ar137 br137 c138 c139 e140
                                                                              refine lv_iinc (v := 2) (lv' := [(5, .int 2), (4, .int 1), (3, .int x56), (0, .ref (z 0)), (1, .int un), (2, .ref rr)]) hx hb dL_areStocks_214 hl (k := 1) rfl (by decide) (by decide) rfl (fun ls hl => ?_)
                                                                              refine lv_goto (tgt := 136) hx hb dL_areStocks_217 (by decide) ?_
                                                                              refine lv_iload hx hb dL_areStocks_136 (lv_at hl 0 rfl) ?_
                                                                              refine lv_iconst (v := 2) hx hb dL_areStocks_138 (by decide) ?_
                                                                              refine lv_icmp_ge (tgt := 220) hx hb dL_areStocks_139 (by decide) (fun c141 => ?_) (fun c141 => ?_)
                                                                              · refine lv_iload hx hb dL_areStocks_220 (lv_at hl 1 rfl) ?_
                                                                                refine lv_if_eq (tgt := 234) hx hb dL_areStocks_222 (by decide) (fun c142 => ?_) (fun c142 => ?_)
                                                                                · exact absurd c142 (by decide)
                                                                                · refine lv_iload_n hx hb dL_areStocks_225 rfl (lv_at hl 2 rfl) ?_
                                                                                  refine lv_iload_n hx hb dL_areStocks_226 rfl (lv_at hl 4 rfl) ?_
                                                                                  refine lv_icmp_ne (tgt := 234) hx hb dL_areStocks_227 (by decide) (fun c143 => ?_) (fun c143 => ?_)
                                                                                  · have d143 : x56.toInt ≠ un.toInt := mt (kc_eq (rfl : x56.toInt = x56.toInt) (rfl : un.toInt = un.toInt)).mpr c143
                                                                                    exfalso; omega
                                                                                  · have d143 : x56.toInt = un.toInt := (kc_eq (rfl : x56.toInt = x56.toInt) (rfl : un.toInt = un.toInt)).mp c143
                                                                                    refine lv_iconst (v := 1) hx hb dL_areStocks_230 (by decide) ?_
                                                                                    refine lv_goto (tgt := 235) hx hb dL_areStocks_231 (by decide) ?_
                                                                                    exact kEndv F hr rfl hlk hP hO hS (by omega) (by omega) dL_areStocks_235 rfl
                                                                              · exact absurd (by decide) c141
                                                                          · exact absurd (by decide) c138
                                                                        · exact absurd (by decide) c136
                                                                    · exact absurd (by decide) c133
                                                                  · exact absurd (by decide) c131
                                                                · refine lv_iload hx hb dL_areStocks_142 (lv_at hl 1 rfl) ?_
                                                                  refine lv_aload_n hx hb dL_areStocks_144 rfl (lv_at hl 3 rfl) ?_
                                                                  refine lv_iload hx hb dL_areStocks_145 (lv_at hl 0 rfl) ?_
                                                                  refine kcallhI (kSthW (n := 2) (As := [.ref (z 0), .int 1]) (rest := [.int 1]) F hE hNc hK hP hD hS hA (kh_carried l g e0 S _ (z 0) 1 _ _ hI.ob0 (c_X5_carried l hl0 g e0 z S _ hI 1) (fun E h => h.1)) kw_236 kw_237 kw_61 kw_238 (by decide +kernel) ⟨Nat.le_of_ble_eq_true rfl, Nat.le_of_ble_eq_true rfl⟩ rfl hl.1 rfl (Nat.le_of_ble_eq_true rfl) dL_areStocks_147 ⟨(by show 0 + 1 + 1 + 1 + 1 + 1 + 1 + 1 + 1 + 1 + 1 + 1 + 1 + 1 + 1 + 1 + 1 + 1 + 1 + 1 + 1 + 1 + 1 + 1 + 1 + 1 + 1 + 1 + 1 + 1 + 1 + 1 + 1 + 1 + 1 + 1 + 1 + 1 + 1 + 2 + 1 ≤ 45; omega), (by show 0 + 6 + 6 + 6 + 6 + 6 + 6 + 6 + 6 + 6 + 6 + 6 + 6 + 6 + 6 + 6 + 6 + 6 + 6 + 6 + 6 + 6 + 6 + 6 + 6 + 6 + 6 + 6 + 6 + 6 + 6 + 6 + 6 + 6 + 6 + 6 + 6 + 6 + 6 + 12 + 6 ≤ 270; omega)⟩) rfl hD hS hA (fun r144 T1 H locs hp hP hq1x hq2x hq3x hf1 hS => ?_)
                                                                  clear hq1x hq2x hq3x
                                                                  have hO := kO_keep hO hdis hf1
                                                                  obtain ⟨hT, nr144⟩ := kp_R (i := 1) (f := fun j => q 31 j) hp (by decide : (1 : Int32).toInt = ((1 : Nat) : Int)) (by omega) (fun j hj => (hR.2.2.2.2.2.1 j hj).2 31 (by decide)) (show q 31 1 < 2 ^ 31 by omega)
                                                                  subst hT
                                                                  clear hp
                                                                  refine lv_if_le (tgt := 157) hx hb dL_areStocks_150 (by decide) (fun c145 => ?_) (fun c145 => ?_)
                                                                  · have d145 : r144.toInt ≤ (0) := (kc_le (rfl : r144.toInt = r144.toInt) (by decide : (0 : Int32).toInt = 0)).mp c145
                                                                    exfalso; omega
                                                                  · have d145 : ¬ (r144.toInt ≤ (0)) := mt (kc_le (rfl : r144.toInt = r144.toInt) (by decide : (0 : Int32).toInt = 0)).mpr c145
                                                                    refine lv_iconst (v := 1) hx hb dL_areStocks_153 (by decide) ?_
                                                                    refine lv_goto (tgt := 158) hx hb dL_areStocks_154 (by decide) ?_
                                                                    refine lv_aload_n hx hb dL_areStocks_158 rfl (lv_at hl 3 rfl) ?_
                                                                    refine lv_iload hx hb dL_areStocks_159 (lv_at hl 0 rfl) ?_
                                                                    refine kcallhI (kSthW (n := 2) (As := [.ref (z 0), .int 1]) (rest := [.int 1, .int 1]) F hE hNc hK hP hD hS hA (kh_minutesOf l g e0 S _ (z 0) 1 _ _ hI.ob0 (c_X5_minutesOf l hl0 g e0 z S _ hI 1) (fun E h => h.1)) kw_248 kw_249 kw_61 kw_250 (by decide +kernel) ⟨Nat.le_of_ble_eq_true rfl, Nat.le_of_ble_eq_true rfl⟩ rfl hl.1 rfl (Nat.le_of_ble_eq_true rfl) dL_areStocks_161 ⟨(by show 0 + 1 + 1 + 1 + 1 + 1 + 1 + 1 + 1 + 1 + 1 + 1 + 1 + 1 + 1 + 1 + 1 + 1 + 1 + 1 + 1 + 1 + 1 + 1 + 1 + 1 + 1 + 1 + 1 + 1 + 1 + 1 + 1 + 1 + 1 + 1 + 1 + 1 + 1 + 2 + 1 + 1 ≤ 45; omega), (by show 0 + 6 + 6 + 6 + 6 + 6 + 6 + 6 + 6 + 6 + 6 + 6 + 6 + 6 + 6 + 6 + 6 + 6 + 6 + 6 + 6 + 6 + 6 + 6 + 6 + 6 + 6 + 6 + 6 + 6 + 6 + 6 + 6 + 6 + 6 + 6 + 6 + 6 + 6 + 12 + 6 + 6 ≤ 270; omega)⟩) rfl hD hS hA (fun r146 T1 H locs hp hP hq1x hq2x hq3x hf1 hS => ?_)
                                                                    clear hq1x hq2x hq3x
                                                                    have hO := kO_keep hO hdis hf1
                                                                    obtain ⟨hT, nr146⟩ := kp_R (i := 1) (f := fun j => q 32 j) hp (by decide : (1 : Int32).toInt = ((1 : Nat) : Int)) (by omega) (fun j hj => (hR.2.2.2.2.2.1 j hj).2 32 (by decide)) (show q 32 1 < 2 ^ 31 by omega)
                                                                    subst hT
                                                                    clear hp
                                                                    refine lv_if_le (tgt := 171) hx hb dL_areStocks_164 (by decide) (fun c147 => ?_) (fun c147 => ?_)
                                                                    · have d147 : r146.toInt ≤ (0) := (kc_le (rfl : r146.toInt = r146.toInt) (by decide : (0 : Int32).toInt = 0)).mp c147
                                                                      exfalso; omega
                                                                    · have d147 : ¬ (r146.toInt ≤ (0)) := mt (kc_le (rfl : r146.toInt = r146.toInt) (by decide : (0 : Int32).toInt = 0)).mpr c147
                                                                      refine lv_iconst (v := 1) hx hb dL_areStocks_167 (by decide) ?_
                                                                      refine lv_goto (tgt := 172) hx hb dL_areStocks_168 (by decide) ?_
                                                                      refine lv_icmp_ne (tgt := 210) hx hb dL_areStocks_172 (by decide) (fun c148 => ?_) (fun c148 => ?_)
                                                                      · exact absurd c148 (by decide)
                                                                      · refine lv_aload_n hx hb dL_areStocks_175 rfl (lv_at hl 3 rfl) ?_
                                                                        refine lv_iload hx hb dL_areStocks_176 (lv_at hl 0 rfl) ?_
                                                                        refine kcallhI (kSthW (n := 2) (As := [.ref (z 0), .int 1]) (rest := [.int 1]) F hE hNc hK hP hD hS hA (kh_carried l g e0 S _ (z 0) 1 _ _ hI.ob0 (c_X5_carried l hl0 g e0 z S _ hI 1) (fun E h => h.1)) kw_236 kw_237 kw_61 kw_238 (by decide +kernel) ⟨Nat.le_of_ble_eq_true rfl, Nat.le_of_ble_eq_true rfl⟩ rfl hl.1 rfl (Nat.le_of_ble_eq_true rfl) dL_areStocks_178 ⟨(by show 0 + 1 + 1 + 1 + 1 + 1 + 1 + 1 + 1 + 1 + 1 + 1 + 1 + 1 + 1 + 1 + 1 + 1 + 1 + 1 + 1 + 1 + 1 + 1 + 1 + 1 + 1 + 1 + 1 + 1 + 1 + 1 + 1 + 1 + 1 + 1 + 1 + 1 + 1 + 2 + 1 + 1 + 1 ≤ 45; omega), (by show 0 + 6 + 6 + 6 + 6 + 6 + 6 + 6 + 6 + 6 + 6 + 6 + 6 + 6 + 6 + 6 + 6 + 6 + 6 + 6 + 6 + 6 + 6 + 6 + 6 + 6 + 6 + 6 + 6 + 6 + 6 + 6 + 6 + 6 + 6 + 6 + 6 + 6 + 6 + 12 + 6 + 6 + 6 ≤ 270; omega)⟩) rfl hD hS hA (fun r149 T1 H locs hp hP hq1x hq2x hq3x hf1 hS => ?_)
                                                                        clear hq1x hq2x hq3x
                                                                        have hO := kO_keep hO hdis hf1
                                                                        obtain ⟨hT, nr149⟩ := kp_R (i := 1) (f := fun j => q 31 j) hp (by decide : (1 : Int32).toInt = ((1 : Nat) : Int)) (by omega) (fun j hj => (hR.2.2.2.2.2.1 j hj).2 31 (by decide)) (show q 31 1 < 2 ^ 31 by omega)
                                                                        subst hT
                                                                        clear hp
                                                                        refine lv_if_le (tgt := 188) hx hb dL_areStocks_181 (by decide) (fun c150 => ?_) (fun c150 => ?_)
                                                                        · have d150 : r149.toInt ≤ (0) := (kc_le (rfl : r149.toInt = r149.toInt) (by decide : (0 : Int32).toInt = 0)).mp c150
                                                                          exfalso; omega
                                                                        · have d150 : ¬ (r149.toInt ≤ (0)) := mt (kc_le (rfl : r149.toInt = r149.toInt) (by decide : (0 : Int32).toInt = 0)).mpr c150
                                                                          refine lv_iconst (v := 1) hx hb dL_areStocks_184 (by decide) ?_
                                                                          refine lv_goto (tgt := 189) hx hb dL_areStocks_185 (by decide) ?_
                                                                          refine lv_aload_n hx hb dL_areStocks_189 rfl (lv_at hl 3 rfl) ?_
                                                                          refine lv_iload hx hb dL_areStocks_190 (lv_at hl 0 rfl) ?_
                                                                          refine kcallhI (kSthW (n := 2) (As := [.ref (z 0), .int 1]) (rest := [.int 1, .int 1]) F hE hNc hK hP hD hS hA (kh_aisleOf l g e0 S _ (z 0) 1 _ _ hI.ob0 (c_X5_aisleOf_x l hl0 g e0 z S _ hI av lv q hR hW.1 1) (fun E h => h.imp And.left And.left)) kw_467 kw_468 kw_61 kw_469 (by decide +kernel) ⟨Nat.le_of_ble_eq_true rfl, Nat.le_of_ble_eq_true rfl⟩ rfl hl.1 rfl (Nat.le_of_ble_eq_true rfl) dL_areStocks_192 ⟨(by show 0 + 1 + 1 + 1 + 1 + 1 + 1 + 1 + 1 + 1 + 1 + 1 + 1 + 1 + 1 + 1 + 1 + 1 + 1 + 1 + 1 + 1 + 1 + 1 + 1 + 1 + 1 + 1 + 1 + 1 + 1 + 1 + 1 + 1 + 1 + 1 + 1 + 1 + 1 + 2 + 1 + 1 + 1 + 2 ≤ 45; omega), (by show 0 + 6 + 6 + 6 + 6 + 6 + 6 + 6 + 6 + 6 + 6 + 6 + 6 + 6 + 6 + 6 + 6 + 6 + 6 + 6 + 6 + 6 + 6 + 6 + 6 + 6 + 6 + 6 + 6 + 6 + 6 + 6 + 6 + 6 + 6 + 6 + 6 + 6 + 6 + 12 + 6 + 6 + 6 + 12 ≤ 270; omega)⟩) rfl hD hS hA (fun r151 T1 H locs hp hP hq1x hq2x hq3x hf1 hS => ?_)
                                                                          clear hq1x hq2x hq3x
                                                                          have hO := kO_keep hO hdis hf1
                                                                          obtain ⟨hT, ar151, br151⟩ := kp_I (i := 1) (k := fun j => q 30 j) (f := fun j => q 0 (q 10 (q 30 j - 1))) hp (by decide : (1 : Int32).toInt = ((1 : Nat) : Int)) (by omega) (fun h9 => (by have h9 : q 30 1 ≠ 0 := h9; show q 0 (q 10 (q 30 1 - 1)) < 2 ^ 31; have h8 := hW.1.1.2.2.2 (q 30 1 - 1) (by omega); rw [hL.2.1 _ h8]; omega))
                                                                          subst hT
                                                                          clear hp
                                                                          refine lv_if_lt (tgt := 202) hx hb dL_areStocks_195 (by decide) (fun c152 => ?_) (fun c152 => ?_)
                                                                          · have d152 : r151.toInt < (0) := (kc_lt (rfl : r151.toInt = r151.toInt) (by decide : (0 : Int32).toInt = 0)).mp c152
                                                                            exfalso; omega
                                                                          · have d152 : ¬ (r151.toInt < (0)) := mt (kc_lt (rfl : r151.toInt = r151.toInt) (by decide : (0 : Int32).toInt = 0)).mpr c152
                                                                            refine lv_iconst (v := 1) hx hb dL_areStocks_198 (by decide) ?_
                                                                            refine lv_goto (tgt := 203) hx hb dL_areStocks_199 (by decide) ?_
                                                                            refine lv_icmp_ne (tgt := 210) hx hb dL_areStocks_203 (by decide) (fun c153 => ?_) (fun c153 => ?_)
                                                                            · exact absurd c153 (by decide)
                                                                            · refine lv_iconst (v := 1) hx hb dL_areStocks_206 (by decide) ?_
                                                                              refine lv_goto (tgt := 211) hx hb dL_areStocks_207 (by decide) ?_
                                                                              refine lv_iand hx hb dL_areStocks_211 ?_
                                                                              refine lv_topi (fun x154 e154 => ?_)
                                                                              obtain rfl : x154 = 1 := e154.trans (by decide)
                                                                              refine lv_istore (lv' := [(4, .int 1), (5, .int 1), (3, .int x56), (0, .ref (z 0)), (1, .int un), (2, .ref rr)]) hx hb dL_areStocks_212 hl (by decide) rfl (fun ls hl => ?_)
                                                                              clear c129 nr144 c145 d145 nr146 c147 d147 c148 nr149 c150 d150 ar151 br151 c152 d152 c153 e154
                                                                              refine lv_iinc (v := 2) (lv' := [(5, .int 2), (4, .int 1), (3, .int x56), (0, .ref (z 0)), (1, .int un), (2, .ref rr)]) hx hb dL_areStocks_214 hl (k := 1) rfl (by decide) (by decide) rfl (fun ls hl => ?_)
                                                                              refine lv_goto (tgt := 136) hx hb dL_areStocks_217 (by decide) ?_
                                                                              refine lv_iload hx hb dL_areStocks_136 (lv_at hl 0 rfl) ?_
                                                                              refine lv_iconst (v := 2) hx hb dL_areStocks_138 (by decide) ?_
                                                                              refine lv_icmp_ge (tgt := 220) hx hb dL_areStocks_139 (by decide) (fun c155 => ?_) (fun c155 => ?_)
                                                                              · refine lv_iload hx hb dL_areStocks_220 (lv_at hl 1 rfl) ?_
                                                                                refine lv_if_eq (tgt := 234) hx hb dL_areStocks_222 (by decide) (fun c156 => ?_) (fun c156 => ?_)
                                                                                · exact absurd c156 (by decide)
                                                                                · refine lv_iload_n hx hb dL_areStocks_225 rfl (lv_at hl 2 rfl) ?_
                                                                                  refine lv_iload_n hx hb dL_areStocks_226 rfl (lv_at hl 4 rfl) ?_
                                                                                  refine lv_icmp_ne (tgt := 234) hx hb dL_areStocks_227 (by decide) (fun c157 => ?_) (fun c157 => ?_)
                                                                                  · have d157 : x56.toInt ≠ un.toInt := mt (kc_eq (rfl : x56.toInt = x56.toInt) (rfl : un.toInt = un.toInt)).mpr c157
                                                                                    exfalso; omega
                                                                                  · have d157 : x56.toInt = un.toInt := (kc_eq (rfl : x56.toInt = x56.toInt) (rfl : un.toInt = un.toInt)).mp c157
                                                                                    refine lv_iconst (v := 1) hx hb dL_areStocks_230 (by decide) ?_
                                                                                    refine lv_goto (tgt := 235) hx hb dL_areStocks_231 (by decide) ?_
                                                                                    exact kEndv F hr rfl hlk hP hO hS (by omega) (by omega) dL_areStocks_235 rfl
                                                                              · exact absurd (by decide) c155
                                            · exact absurd (by decide) c76
