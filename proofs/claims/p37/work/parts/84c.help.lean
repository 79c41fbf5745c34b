theorem dL_areStocks_0 : decode cL_areStocks 0 = .ok (.aload_n 0, 1) := by decide +kernel
theorem dL_areStocks_1 : decode cL_areStocks 1 = .ok (.iconst 0, 1) := by decide +kernel
theorem dL_areStocks_2 : decode cL_areStocks 2 = .ok (.invokestatic 174, 3) := by decide +kernel
theorem dL_areStocks_5 : decode cL_areStocks 5 = .ok (.aload_n 0, 1) := by decide +kernel
theorem dL_areStocks_6 : decode cL_areStocks 6 = .ok (.iconst 1, 1) := by decide +kernel
theorem dL_areStocks_7 : decode cL_areStocks 7 = .ok (.invokestatic 174, 3) := by decide +kernel
theorem dL_areStocks_10 : decode cL_areStocks 10 = .ok (.iadd, 1) := by decide +kernel
theorem dL_areStocks_11 : decode cL_areStocks 11 = .ok (.istore_n 3, 1) := by decide +kernel
theorem dL_areStocks_12 : decode cL_areStocks 12 = .ok (.iconst 1, 1) := by decide +kernel
theorem dL_areStocks_13 : decode cL_areStocks 13 = .ok (.istore 4, 2) := by decide +kernel
theorem dL_areStocks_15 : decode cL_areStocks 15 = .ok (.iconst 0, 1) := by decide +kernel
theorem dL_areStocks_16 : decode cL_areStocks 16 = .ok (.istore 5, 2) := by decide +kernel
theorem dL_areStocks_18 : decode cL_areStocks 18 = .ok (.iload 5, 2) := by decide +kernel
theorem dL_areStocks_20 : decode cL_areStocks 20 = .ok (.iconst 3, 1) := by decide +kernel
theorem dL_areStocks_21 : decode cL_areStocks 21 = .ok (.if_icmp .ge 112, 3) := by decide +kernel
theorem dL_areStocks_24 : decode cL_areStocks 24 = .ok (.iload_n 3, 1) := by decide +kernel
theorem dL_areStocks_25 : decode cL_areStocks 25 = .ok (.aload_n 0, 1) := by decide +kernel
theorem dL_areStocks_26 : decode cL_areStocks 26 = .ok (.iload 5, 2) := by decide +kernel
theorem dL_areStocks_28 : decode cL_areStocks 28 = .ok (.invokestatic 146, 3) := by decide +kernel
theorem dL_areStocks_31 : decode cL_areStocks 31 = .ok (.aload_n 0, 1) := by decide +kernel
theorem dL_areStocks_32 : decode cL_areStocks 32 = .ok (.iload 5, 2) := by decide +kernel
theorem dL_areStocks_34 : decode cL_areStocks 34 = .ok (.invokestatic 170, 3) := by decide +kernel
theorem dL_areStocks_37 : decode cL_areStocks 37 = .ok (.iadd, 1) := by decide +kernel
theorem dL_areStocks_38 : decode cL_areStocks 38 = .ok (.iadd, 1) := by decide +kernel
theorem dL_areStocks_39 : decode cL_areStocks 39 = .ok (.istore_n 3, 1) := by decide +kernel
theorem dL_areStocks_40 : decode cL_areStocks 40 = .ok (.iload 4, 2) := by decide +kernel
theorem dL_areStocks_42 : decode cL_areStocks 42 = .ok (.aload_n 0, 1) := by decide +kernel
theorem dL_areStocks_43 : decode cL_areStocks 43 = .ok (.iload 5, 2) := by decide +kernel
theorem dL_areStocks_45 : decode cL_areStocks 45 = .ok (.invokestatic 146, 3) := by decide +kernel
theorem dL_areStocks_48 : decode cL_areStocks 48 = .ok (.ifCond .lt 75, 3) := by decide +kernel
theorem dL_areStocks_51 : decode cL_areStocks 51 = .ok (.aload_n 0, 1) := by decide +kernel
theorem dL_areStocks_52 : decode cL_areStocks 52 = .ok (.iload 5, 2) := by decide +kernel
theorem dL_areStocks_54 : decode cL_areStocks 54 = .ok (.invokestatic 146, 3) := by decide +kernel
theorem dL_areStocks_57 : decode cL_areStocks 57 = .ok (.aload_n 2, 1) := by decide +kernel
theorem dL_areStocks_58 : decode cL_areStocks 58 = .ok (.iload 5, 2) := by decide +kernel
theorem dL_areStocks_60 : decode cL_areStocks 60 = .ok (.iaload, 1) := by decide +kernel
theorem dL_areStocks_61 : decode cL_areStocks 61 = .ok (.if_icmp .gt 62, 3) := by decide +kernel
theorem dL_areStocks_64 : decode cL_areStocks 64 = .ok (.aload_n 0, 1) := by decide +kernel
theorem dL_areStocks_65 : decode cL_areStocks 65 = .ok (.iload 5, 2) := by decide +kernel
theorem dL_areStocks_67 : decode cL_areStocks 67 = .ok (.invokestatic 170, 3) := by decide +kernel
theorem dL_areStocks_70 : decode cL_areStocks 70 = .ok (.ifCond .lt 53, 3) := by decide +kernel
theorem dL_areStocks_73 : decode cL_areStocks 73 = .ok (.aload_n 0, 1) := by decide +kernel
theorem dL_areStocks_74 : decode cL_areStocks 74 = .ok (.iload 5, 2) := by decide +kernel
theorem dL_areStocks_76 : decode cL_areStocks 76 = .ok (.invokestatic 138, 3) := by decide +kernel
theorem dL_areStocks_79 : decode cL_areStocks 79 = .ok (.ifCond .lt 44, 3) := by decide +kernel
theorem dL_areStocks_82 : decode cL_areStocks 82 = .ok (.aload_n 0, 1) := by decide +kernel
theorem dL_areStocks_83 : decode cL_areStocks 83 = .ok (.iload 5, 2) := by decide +kernel
theorem dL_areStocks_85 : decode cL_areStocks 85 = .ok (.invokestatic 138, 3) := by decide +kernel
theorem dL_areStocks_88 : decode cL_areStocks 88 = .ok (.aload_n 0, 1) := by decide +kernel
theorem dL_areStocks_89 : decode cL_areStocks 89 = .ok (.iload 5, 2) := by decide +kernel
theorem dL_areStocks_91 : decode cL_areStocks 91 = .ok (.invokestatic 146, 3) := by decide +kernel
theorem dL_areStocks_94 : decode cL_areStocks 94 = .ok (.aload_n 0, 1) := by decide +kernel
theorem dL_areStocks_95 : decode cL_areStocks 95 = .ok (.iload 5, 2) := by decide +kernel
theorem dL_areStocks_97 : decode cL_areStocks 97 = .ok (.invokestatic 152, 3) := by decide +kernel
theorem dL_areStocks_100 : decode cL_areStocks 100 = .ok (.isub, 1) := by decide +kernel
theorem dL_areStocks_101 : decode cL_areStocks 101 = .ok (.if_icmp .ne 22, 3) := by decide +kernel
theorem dL_areStocks_104 : decode cL_areStocks 104 = .ok (.aload_n 0, 1) := by decide +kernel
theorem dL_areStocks_105 : decode cL_areStocks 105 = .ok (.iload 5, 2) := by decide +kernel
theorem dL_areStocks_107 : decode cL_areStocks 107 = .ok (.invokestatic 152, 3) := by decide +kernel
theorem dL_areStocks_110 : decode cL_areStocks 110 = .ok (.aload_n 0, 1) := by decide +kernel
theorem dL_areStocks_111 : decode cL_areStocks 111 = .ok (.iload 5, 2) := by decide +kernel
theorem dL_areStocks_113 : decode cL_areStocks 113 = .ok (.invokestatic 218, 3) := by decide +kernel
theorem dL_areStocks_116 : decode cL_areStocks 116 = .ok (.if_icmp .ne 7, 3) := by decide +kernel
theorem dL_areStocks_119 : decode cL_areStocks 119 = .ok (.iconst 1, 1) := by decide +kernel
theorem dL_areStocks_120 : decode cL_areStocks 120 = .ok (.goto 4, 3) := by decide +kernel
theorem dL_areStocks_123 : decode cL_areStocks 123 = .ok (.iconst 0, 1) := by decide +kernel
theorem dL_areStocks_124 : decode cL_areStocks 124 = .ok (.iand, 1) := by decide +kernel
theorem dL_areStocks_125 : decode cL_areStocks 125 = .ok (.istore 4, 2) := by decide +kernel
theorem dL_areStocks_127 : decode cL_areStocks 127 = .ok (.iinc 5 1, 3) := by decide +kernel
theorem dL_areStocks_130 : decode cL_areStocks 130 = .ok (.goto (-112), 3) := by decide +kernel
theorem dL_areStocks_133 : decode cL_areStocks 133 = .ok (.iconst 0, 1) := by decide +kernel
theorem dL_areStocks_134 : decode cL_areStocks 134 = .ok (.istore 5, 2) := by decide +kernel
theorem dL_areStocks_136 : decode cL_areStocks 136 = .ok (.iload 5, 2) := by decide +kernel
theorem dL_areStocks_138 : decode cL_areStocks 138 = .ok (.iconst 2, 1) := by decide +kernel
theorem dL_areStocks_139 : decode cL_areStocks 139 = .ok (.if_icmp .ge 81, 3) := by decide +kernel
theorem dL_areStocks_142 : decode cL_areStocks 142 = .ok (.iload 4, 2) := by decide +kernel
theorem dL_areStocks_144 : decode cL_areStocks 144 = .ok (.aload_n 0, 1) := by decide +kernel
theorem dL_areStocks_145 : decode cL_areStocks 145 = .ok (.iload 5, 2) := by decide +kernel
theorem dL_areStocks_147 : decode cL_areStocks 147 = .ok (.invokestatic 174, 3) := by decide +kernel
theorem dL_areStocks_150 : decode cL_areStocks 150 = .ok (.ifCond .le 7, 3) := by decide +kernel
theorem dL_areStocks_153 : decode cL_areStocks 153 = .ok (.iconst 1, 1) := by decide +kernel
theorem dL_areStocks_154 : decode cL_areStocks 154 = .ok (.goto 4, 3) := by decide +kernel
theorem dL_areStocks_157 : decode cL_areStocks 157 = .ok (.iconst 0, 1) := by decide +kernel
theorem dL_areStocks_158 : decode cL_areStocks 158 = .ok (.aload_n 0, 1) := by decide +kernel
theorem dL_areStocks_159 : decode cL_areStocks 159 = .ok (.iload 5, 2) := by decide +kernel
theorem dL_areStocks_161 : decode cL_areStocks 161 = .ok (.invokestatic 176, 3) := by decide +kernel
theorem dL_areStocks_164 : decode cL_areStocks 164 = .ok (.ifCond .le 7, 3) := by decide +kernel
theorem dL_areStocks_167 : decode cL_areStocks 167 = .ok (.iconst 1, 1) := by decide +kernel
theorem dL_areStocks_168 : decode cL_areStocks 168 = .ok (.goto 4, 3) := by decide +kernel
theorem dL_areStocks_171 : decode cL_areStocks 171 = .ok (.iconst 0, 1) := by decide +kernel
theorem dL_areStocks_172 : decode cL_areStocks 172 = .ok (.if_icmp .ne 38, 3) := by decide +kernel
theorem dL_areStocks_175 : decode cL_areStocks 175 = .ok (.aload_n 0, 1) := by decide +kernel
theorem dL_areStocks_176 : decode cL_areStocks 176 = .ok (.iload 5, 2) := by decide +kernel
theorem dL_areStocks_178 : decode cL_areStocks 178 = .ok (.invokestatic 174, 3) := by decide +kernel
theorem dL_areStocks_181 : decode cL_areStocks 181 = .ok (.ifCond .le 7, 3) := by decide +kernel
theorem dL_areStocks_184 : decode cL_areStocks 184 = .ok (.iconst 1, 1) := by decide +kernel
theorem dL_areStocks_185 : decode cL_areStocks 185 = .ok (.goto 4, 3) := by decide +kernel
theorem dL_areStocks_188 : decode cL_areStocks 188 = .ok (.iconst 0, 1) := by decide +kernel
theorem dL_areStocks_189 : decode cL_areStocks 189 = .ok (.aload_n 0, 1) := by decide +kernel
theorem dL_areStocks_190 : decode cL_areStocks 190 = .ok (.iload 5, 2) := by decide +kernel
theorem dL_areStocks_192 : decode cL_areStocks 192 = .ok (.invokestatic 178, 3) := by decide +kernel
theorem dL_areStocks_195 : decode cL_areStocks 195 = .ok (.ifCond .lt 7, 3) := by decide +kernel
theorem dL_areStocks_198 : decode cL_areStocks 198 = .ok (.iconst 1, 1) := by decide +kernel
theorem dL_areStocks_199 : decode cL_areStocks 199 = .ok (.goto 4, 3) := by decide +kernel
theorem dL_areStocks_202 : decode cL_areStocks 202 = .ok (.iconst 0, 1) := by decide +kernel
theorem dL_areStocks_203 : decode cL_areStocks 203 = .ok (.if_icmp .ne 7, 3) := by decide +kernel
theorem dL_areStocks_206 : decode cL_areStocks 206 = .ok (.iconst 1, 1) := by decide +kernel
theorem dL_areStocks_207 : decode cL_areStocks 207 = .ok (.goto 4, 3) := by decide +kernel
theorem dL_areStocks_210 : decode cL_areStocks 210 = .ok (.iconst 0, 1) := by decide +kernel
theorem dL_areStocks_211 : decode cL_areStocks 211 = .ok (.iand, 1) := by decide +kernel
theorem dL_areStocks_212 : decode cL_areStocks 212 = .ok (.istore 4, 2) := by decide +kernel
theorem dL_areStocks_214 : decode cL_areStocks 214 = .ok (.iinc 5 1, 3) := by decide +kernel
theorem dL_areStocks_217 : decode cL_areStocks 217 = .ok (.goto (-81), 3) := by decide +kernel
theorem dL_areStocks_220 : decode cL_areStocks 220 = .ok (.iload 4, 2) := by decide +kernel
theorem dL_areStocks_222 : decode cL_areStocks 222 = .ok (.ifCond .eq 12, 3) := by decide +kernel
theorem dL_areStocks_225 : decode cL_areStocks 225 = .ok (.iload_n 3, 1) := by decide +kernel
theorem dL_areStocks_226 : decode cL_areStocks 226 = .ok (.iload_n 1, 1) := by decide +kernel
theorem dL_areStocks_227 : decode cL_areStocks 227 = .ok (.if_icmp .ne 7, 3) := by decide +kernel
theorem dL_areStocks_230 : decode cL_areStocks 230 = .ok (.iconst 1, 1) := by decide +kernel
theorem dL_areStocks_231 : decode cL_areStocks 231 = .ok (.goto 4, 3) := by decide +kernel
theorem dL_areStocks_234 : decode cL_areStocks 234 = .ok (.iconst 0, 1) := by decide +kernel
theorem dL_areStocks_235 : decode cL_areStocks 235 = .ok (.ireturn, 1) := by decide +kernel
set_option maxHeartbeats 4000000 in
set_option maxRecDepth 100000 in
theorem c_L_areStocks (l : Launch) (hl0 : l.stackTraces = false) (g : kG) (e0 : Nat) (z av lv : Nat → Nat) (S O : wPS) (sz : Nat) (q : qS) (hI : Inv z e0 S) (hR : Rq z av lv S q) (hW : q_W q) (hL : q_L q) (hU : q_U q ≤ 5000) (ra rr rb ri : Nat) (un : Int32) (hO9 : q_O O ra rr rb ri q) (hun : un.toInt = ((q_U q : Nat) : Int)) : kMv l g e0 yL_areStocks cL_areStocks 6 (some .boolean) 9 150 45 270 [.ref (z 0), .int un, .ref rr] S O sz (fun v => v = .int 1) := by
  refine kMv.of (by decide) (Nat.le_of_ble_eq_true rfl) ?_
  intro p e s m below meth c ls B
  obtain ⟨F, hr, hlk, hP, hO, hK, hD, hDO, hdis, hE, hNc, hS, hA, hl, hsz⟩ := B
  subst hsz
  have hx := F.1
  have hb := F.2.1
  have hl : lv_has ls 6 [(0, .ref (z 0)), (1, .int un), (2, .ref rr)] := hl
  have h721 : q 72 0 = 3 := hL.1
  have h72 : q 72 0 ≤ 12 := by omega
  have h73 : q 73 0 ≤ 12 := hW.1.1.2.1
  have hro : q 42 0 ≤ 504 := q_room hW.1.1 hW.1.2.2.2.1 hW.1.2.2.2.2.1
  have hroom : q 42 0 < 516 := by omega
  have h57 : q 57 0 ≤ 20 := hW.1.2.2.2.2.1.1
  have h56 : q 56 0 ≤ 1439 := hL.2.2.2.2.2.1
  have h25 : ∀ i, i < q 73 0 → q 25 i < 2 ^ 31 := fun i hi => by have := (hW.1.2.2.1 i hi).2.2.2; omega
  have w30 := hW.2.1 0 (by omega)
  have w31 := hW.2.1 1 (by omega)
  have w32 := hW.2.1 2 (by omega)
  have w20 := hW.1.2.1 0 (by omega)
  have w21 := hW.1.2.1 1 (by omega)
  have w22 := hW.1.2.1 2 (by omega)
  have u0 := q_U13 (q := q) (a := 0) (by decide)
  have u1 := q_U13 (q := q) (a := 1) (by decide)
  have u2 := q_U13 (q := q) (a := 2) (by decide)
  have b310 := q_31 (r := 0) hW (by decide)
  have b311 := q_31 (r := 1) hW (by decide)
  have m70 := hL.2.2.2.2.1 0 (by decide)
  have m71 := hL.2.2.2.2.1 1 (by decide)
  obtain ⟨⟨oa, la⟩, ⟨orr, lr⟩, ⟨obb, lb⟩, ⟨oi, li⟩, hne, hra, hrb, hri⟩ := hO9
  have w70 := hW.1.2.2.2.2.2.1 0 (by decide)
  have w71 := hW.1.2.2.2.2.2.1 1 (by decide)
  have hun2 : un.toInt = ((q 12 0 + q 13 0 + q 12 1 + q 13 1 + q 12 2 + q 13 2 + q 31 0 + q 31 1 : Nat) : Int) := hun
  have hU2 : q 12 0 + q 13 0 + q 12 1 + q 13 1 + q 12 2 + q 13 2 + q 31 0 + q 31 1 ≤ 5000 := hU
  refine lv_aload_n hx hb dL_areStocks_0 rfl (lv_at hl 0 rfl) ?_
  refine lv_iconst (v := 0) hx hb dL_areStocks_1 (by decide) ?_
  refine kcallhI (kSthW (n := 2) (As := [.ref (z 0), .int 0]) (rest := []) F hE hNc hK hP hD hS hA (kh_carried l g e0 S _ (z 0) 0 _ _ hI.ob0 (c_X5_carried l hl0 g e0 z S _ hI 0) (fun E h => h.1)) kw_236 kw_237 kw_61 kw_238 (by decide +kernel) ⟨Nat.le_of_ble_eq_true rfl, Nat.le_of_ble_eq_true rfl⟩ rfl hl.1 rfl (Nat.le_of_ble_eq_true rfl) dL_areStocks_2 ⟨(by show 0 + 1 ≤ 45; omega), (by show 0 + 6 ≤ 270; omega)⟩) rfl hD hS hA (fun r1 T1 H locs hp hP hq1x hq2x hq3x hf1 hS => ?_)
  clear hq1x hq2x hq3x
  have hO := kO_keep hO hdis hf1
  obtain ⟨hT, nr1⟩ := kp_R (i := 0) (f := fun j => q 31 j) hp (by decide : (0 : Int32).toInt = ((0 : Nat) : Int)) (by omega) (fun j hj => (hR.2.2.2.2.2.1 j hj).2 31 (by decide)) (show q 31 0 < 2 ^ 31 by omega)
  subst hT
  refine lv_aload_n hx hb dL_areStocks_5 rfl (lv_at hl 0 rfl) ?_
  refine lv_iconst (v := 1) hx hb dL_areStocks_6 (by decide) ?_
  refine kcallhI (kSthW (n := 2) (As := [.ref (z 0), .int 1]) (rest := [.int r1]) F hE hNc hK hP hD hS hA (kh_carried l g e0 S _ (z 0) 1 _ _ hI.ob0 (c_X5_carried l hl0 g e0 z S _ hI 1) (fun E h => h.1)) kw_236 kw_237 kw_61 kw_238 (by decide +kernel) ⟨Nat.le_of_ble_eq_true rfl, Nat.le_of_ble_eq_true rfl⟩ rfl hl.1 rfl (Nat.le_of_ble_eq_true rfl) dL_areStocks_7 ⟨(by show 0 + 1 + 1 ≤ 45; omega), (by show 0 + 6 + 6 ≤ 270; omega)⟩) rfl hD hS hA (fun r2 T1 H locs hp hP hq1x hq2x hq3x hf1 hS => ?_)
  clear hq1x hq2x hq3x
  have hO := kO_keep hO hdis hf1
  obtain ⟨hT, nr2⟩ := kp_R (i := 1) (f := fun j => q 31 j) hp (by decide : (1 : Int32).toInt = ((1 : Nat) : Int)) (by omega) (fun j hj => (hR.2.2.2.2.2.1 j hj).2 31 (by decide)) (show q 31 1 < 2 ^ 31 by omega)
  subst hT
  refine lv_iadd hx hb dL_areStocks_10 ?_
  refine lv_topi (fun x3 ex3 => ?_)
  have tx3 : x3.toInt = r1.toInt + r2.toInt := kt_add ex3 (rfl : r1.toInt = r1.toInt) (rfl : r2.toInt = r2.toInt) (by omega) (by omega)
  refine lv_istore_n (lv' := [(3, .int x3), (0, .ref (z 0)), (1, .int un), (2, .ref rr)]) hx hb dL_areStocks_11 rfl hl (by decide) rfl (fun ls hl => ?_)
  refine lv_iconst (v := 1) hx hb dL_areStocks_12 (by decide) ?_
  refine lv_istore (lv' := [(4, .int 1), (3, .int x3), (0, .ref (z 0)), (1, .int un), (2, .ref rr)]) hx hb dL_areStocks_13 hl (by decide) rfl (fun ls hl => ?_)
  refine lv_iconst (v := 0) hx hb dL_areStocks_15 (by decide) ?_
  refine lv_istore (lv' := [(5, .int 0), (4, .int 1), (3, .int x3), (0, .ref (z 0)), (1, .int un), (2, .ref rr)]) hx hb dL_areStocks_16 hl (by decide) rfl (fun ls hl => ?_)
  refine lv_iload hx hb dL_areStocks_18 (lv_at hl 0 rfl) ?_
  refine lv_iconst (v := 3) hx hb dL_areStocks_20 (by decide) ?_
  refine lv_icmp_ge (tgt := 133) hx hb dL_areStocks_21 (by decide) (fun c4 => ?_) (fun c4 => ?_)
  · exact absurd c4 (by decide)
  · refine lv_iload_n hx hb dL_areStocks_24 rfl (lv_at hl 2 rfl) ?_
    refine lv_aload_n hx hb dL_areStocks_25 rfl (lv_at hl 3 rfl) ?_
    refine lv_iload hx hb dL_areStocks_26 (lv_at hl 0 rfl) ?_
    refine kcallhI (kSthW (n := 2) (As := [.ref (z 0), .int 0]) (rest := [.int x3]) F hE hNc hK hP hD hS hA (kh_stock l g e0 S _ (z 0) 0 _ _ hI.ob0 (c_X5_stock_x l hl0 g e0 z S _ hI av lv q hR h72 0) (fun E h => h.1)) kw_188 kw_189 kw_61 kw_190 (by decide +kernel) ⟨Nat.le_of_ble_eq_true rfl, Nat.le_of_ble_eq_true rfl⟩ rfl hl.1 rfl (Nat.le_of_ble_eq_true rfl) dL_areStocks_28 ⟨(by show 0 + 1 + 1 + 1 ≤ 45; omega), (by show 0 + 6 + 6 + 6 ≤ 270; omega)⟩) rfl hD hS hA (fun r5 T1 H locs hp hP hq1x hq2x hq3x hf1 hS => ?_)
    clear hq1x hq2x hq3x
    have hO := kO_keep hO hdis hf1
    obtain ⟨hT, nr5⟩ := kp_A (i := 0) hp (by decide : (0 : Int32).toInt = ((0 : Nat) : Int)) (by omega) (by omega) (by omega)
    subst hT
    refine lv_aload_n hx hb dL_areStocks_31 rfl (lv_at hl 3 rfl) ?_
    refine lv_iload hx hb dL_areStocks_32 (lv_at hl 0 rfl) ?_
    refine kcallhI (kSthW (n := 2) (As := [.ref (z 0), .int 0]) (rest := [.int r5, .int x3]) F hE hNc hK hP hD hS hA (kh_reserve l g e0 S _ (z 0) 0 _ _ hI.ob0 (c_X5_reserve_x l hl0 g e0 z S _ hI av lv q hR h72 0) (fun E h => h.1)) kw_220 kw_221 kw_61 kw_222 (by decide +kernel) ⟨Nat.le_of_ble_eq_true rfl, Nat.le_of_ble_eq_true rfl⟩ rfl hl.1 rfl (Nat.le_of_ble_eq_true rfl) dL_areStocks_34 ⟨(by show 0 + 1 + 1 + 1 + 1 ≤ 45; omega), (by show 0 + 6 + 6 + 6 + 6 ≤ 270; omega)⟩) rfl hD hS hA (fun r6 T1 H locs hp hP hq1x hq2x hq3x hf1 hS => ?_)
    clear hq1x hq2x hq3x
    have hO := kO_keep hO hdis hf1
    obtain ⟨hT, nr6⟩ := kp_A (i := 0) hp (by decide : (0 : Int32).toInt = ((0 : Nat) : Int)) (by omega) (by omega) (by omega)
    subst hT
    refine lv_iadd hx hb dL_areStocks_37 ?_
    refine lv_topi (fun x7 ex7 => ?_)
    have tx7 : x7.toInt = r5.toInt + r6.toInt := kt_add ex7 (rfl : r5.toInt = r5.toInt) (rfl : r6.toInt = r6.toInt) (by omega) (by omega)
    refine lv_iadd hx hb dL_areStocks_38 ?_
    refine lv_topi (fun x8 ex8 => ?_)
    have tx8 : x8.toInt = x3.toInt + x7.toInt := kt_add ex8 (rfl : x3.toInt = x3.toInt) (rfl : x7.toInt = x7.toInt) (by omega) (by omega)
    refine lv_istore_n (lv' := [(3, .int x8), (5, .int 0), (4, .int 1), (0, .ref (z 0)), (1, .int un), (2, .ref rr)]) hx hb dL_areStocks_39 rfl hl (by decide) rfl (fun ls hl => ?_)
    refine lv_iload hx hb dL_areStocks_40 (lv_at hl 2 rfl) ?_
    refine lv_aload_n hx hb dL_areStocks_42 rfl (lv_at hl 3 rfl) ?_
    refine lv_iload hx hb dL_areStocks_43 (lv_at hl 1 rfl) ?_
    refine kcallhI (kSthW (n := 2) (As := [.ref (z 0), .int 0]) (rest := [.int 1]) F hE hNc hK hP hD hS hA (kh_stock l g e0 S _ (z 0) 0 _ _ hI.ob0 (c_X5_stock_x l hl0 g e0 z S _ hI av lv q hR h72 0) (fun E h => h.1)) kw_188 kw_189 kw_61 kw_190 (by decide +kernel) ⟨Nat.le_of_ble_eq_true rfl, Nat.le_of_ble_eq_true rfl⟩ rfl hl.1 rfl (Nat.le_of_ble_eq_true rfl) dL_areStocks_45 ⟨(by show 0 + 1 + 1 + 1 + 1 + 1 ≤ 45; omega), (by show 0 + 6 + 6 + 6 + 6 + 6 ≤ 270; omega)⟩) rfl hD hS hA (fun r9 T1 H locs hp hP hq1x hq2x hq3x hf1 hS => ?_)
    clear hq1x hq2x hq3x
    have hO := kO_keep hO hdis hf1
    obtain ⟨hT, nr9⟩ := kp_A (i := 0) hp (by decide : (0 : Int32).toInt = ((0 : Nat) : Int)) (by omega) (by omega) (by omega)
    subst hT
    refine lv_if_lt (tgt := 123) hx hb dL_areStocks_48 (by decide) (fun c10 => ?_) (fun c10 => ?_)
    · have d10 : r9.toInt < (0) := (kc_lt (rfl : r9.toInt = r9.toInt) (by decide : (0 : Int32).toInt = 0)).mp c10
      exfalso; omega
    · have d10 : ¬ (r9.toInt < (0)) := mt (kc_lt (rfl : r9.toInt = r9.toInt) (by decide : (0 : Int32).toInt = 0)).mpr c10
      refine lv_aload_n hx hb dL_areStocks_51 rfl (lv_at hl 3 rfl) ?_
      refine lv_iload hx hb dL_areStocks_52 (lv_at hl 1 rfl) ?_
      refine kcallhI (kSthW (n := 2) (As := [.ref (z 0), .int 0]) (rest := [.int 1]) F hE hNc hK hP hD hS hA (kh_stock l g e0 S _ (z 0) 0 _ _ hI.ob0 (c_X5_stock_x l hl0 g e0 z S _ hI av lv q hR h72 0) (fun E h => h.1)) kw_188 kw_189 kw_61 kw_190 (by decide +kernel) ⟨Nat.le_of_ble_eq_true rfl, Nat.le_of_ble_eq_true rfl⟩ rfl hl.1 rfl (Nat.le_of_ble_eq_true rfl) dL_areStocks_54 ⟨(by show 0 + 1 + 1 + 1 + 1 + 1 + 1 ≤ 45; omega), (by show 0 + 6 + 6 + 6 + 6 + 6 + 6 ≤ 270; omega)⟩) rfl hD hS hA (fun r11 T1 H locs hp hP hq1x hq2x hq3x hf1 hS => ?_)
      clear hq1x hq2x hq3x
      have hO := kO_keep hO hdis hf1
      obtain ⟨hT, nr11⟩ := kp_A (i := 0) hp (by decide : (0 : Int32).toInt = ((0 : Nat) : Int)) (by omega) (by omega) (by omega)
      subst hT
      refine lv_aload_n hx hb dL_areStocks_57 rfl (lv_at hl 5 rfl) ?_
      refine lv_iload hx hb dL_areStocks_58 (lv_at hl 1 rfl) ?_
      refine rd_I F hK hO orr (by rw [lr]; exact kt_in (by decide : (0 : Int32).toInt = ((0 : Nat) : Int)) (by omega) (by decide)) dL_areStocks_60 ?_
      refine lv_topi (fun x12 ex12 => ?_)
      have nx12 : x12.toInt = ((q 11 0 : Nat) : Int) := kt_nI (by rw [ex12, kt_clamp (by decide : (0 : Int32).toInt = ((0 : Nat) : Int)) (by omega)]; exact (hra 0 (by omega)).2) (by omega)
      refine lv_icmp_gt (tgt := 123) hx hb dL_areStocks_61 (by decide) (fun c13 => ?_) (fun c13 => ?_)
      · have d13 : x12.toInt < r11.toInt := (kc_lt (rfl : x12.toInt = x12.toInt) (rfl : r11.toInt = r11.toInt)).mp c13
        exfalso; omega
      · have d13 : ¬ (x12.toInt < r11.toInt) := mt (kc_lt (rfl : x12.toInt = x12.toInt) (rfl : r11.toInt = r11.toInt)).mpr c13
        refine lv_aload_n hx hb dL_areStocks_64 rfl (lv_at hl 3 rfl) ?_
        refine lv_iload hx hb dL_areStocks_65 (lv_at hl 1 rfl) ?_
        refine kcallhI (kSthW (n := 2) (As := [.ref (z 0), .int 0]) (rest := [.int 1]) F hE hNc hK hP hD hS hA (kh_reserve l g e0 S _ (z 0) 0 _ _ hI.ob0 (c_X5_reserve_x l hl0 g e0 z S _ hI av lv q hR h72 0) (fun E h => h.1)) kw_220 kw_221 kw_61 kw_222 (by decide +kernel) ⟨Nat.le_of_ble_eq_true rfl, Nat.le_of_ble_eq_true rfl⟩ rfl hl.1 rfl (Nat.le_of_ble_eq_true rfl) dL_areStocks_67 ⟨(by show 0 + 1 + 1 + 1 + 1 + 1 + 1 + 1 ≤ 45; omega), (by show 0 + 6 + 6 + 6 + 6 + 6 + 6 + 6 ≤ 270; omega)⟩) rfl hD hS hA (fun r14 T1 H locs hp hP hq1x hq2x hq3x hf1 hS => ?_)
        clear hq1x hq2x hq3x
        have hO := kO_keep hO hdis hf1
        obtain ⟨hT, nr14⟩ := kp_A (i := 0) hp (by decide : (0 : Int32).toInt = ((0 : Nat) : Int)) (by omega) (by omega) (by omega)
        subst hT
        refine lv_if_lt (tgt := 123) hx hb dL_areStocks_70 (by decide) (fun c15 => ?_) (fun c15 => ?_)
        · have d15 : r14.toInt < (0) := (kc_lt (rfl : r14.toInt = r14.toInt) (by decide : (0 : Int32).toInt = 0)).mp c15
          exfalso; omega
        · have d15 : ¬ (r14.toInt < (0)) := mt (kc_lt (rfl : r14.toInt = r14.toInt) (by decide : (0 : Int32).toInt = 0)).mpr c15
          refine lv_aload_n hx hb dL_areStocks_73 rfl (lv_at hl 3 rfl) ?_
          refine lv_iload hx hb dL_areStocks_74 (lv_at hl 1 rfl) ?_
          refine kcallhI (kSthW (n := 2) (As := [.ref (z 0), .int 0]) (rest := [.int 1]) F hE hNc hK hP hD hS hA (kh_free l g e0 S _ (z 0) 0 _ _ hI.ob0 (c_X5_free_x l hl0 g e0 z S _ hI av lv q hR h72 hW.2.1 0) (fun E h => h.1)) kw_346 kw_347 kw_61 kw_348 (by decide +kernel) ⟨Nat.le_of_ble_eq_true rfl, Nat.le_of_ble_eq_true rfl⟩ rfl hl.1 rfl (Nat.le_of_ble_eq_true rfl) dL_areStocks_76 ⟨(by show 0 + 1 + 1 + 1 + 1 + 1 + 1 + 1 + 1 ≤ 45; omega), (by show 0 + 6 + 6 + 6 + 6 + 6 + 6 + 6 + 6 ≤ 270; omega)⟩) rfl hD hS hA (fun r16 T1 H locs hp hP hq1x hq2x hq3x hf1 hS => ?_)
          clear hq1x hq2x hq3x
          have hO := kO_keep hO hdis hf1
          obtain ⟨hT, nr16⟩ := kp_A (i := 0) hp (by decide : (0 : Int32).toInt = ((0 : Nat) : Int)) (by omega) (by omega) (by omega)
          subst hT
          refine lv_if_lt (tgt := 123) hx hb dL_areStocks_79 (by decide) (fun c17 => ?_) (fun c17 => ?_)
          · have d17 : r16.toInt < (0) := (kc_lt (rfl : r16.toInt = r16.toInt) (by decide : (0 : Int32).toInt = 0)).mp c17
            exfalso; omega
          · have d17 : ¬ (r16.toInt < (0)) := mt (kc_lt (rfl : r16.toInt = r16.toInt) (by decide : (0 : Int32).toInt = 0)).mpr c17
            refine lv_aload_n hx hb dL_areStocks_82 rfl (lv_at hl 3 rfl) ?_
            refine lv_iload hx hb dL_areStocks_83 (lv_at hl 1 rfl) ?_
            refine kcallhI (kSthW (n := 2) (As := [.ref (z 0), .int 0]) (rest := [.int 1]) F hE hNc hK hP hD hS hA (kh_free l g e0 S _ (z 0) 0 _ _ hI.ob0 (c_X5_free_x l hl0 g e0 z S _ hI av lv q hR h72 hW.2.1 0) (fun E h => h.1)) kw_346 kw_347 kw_61 kw_348 (by decide +kernel) ⟨Nat.le_of_ble_eq_true rfl, Nat.le_of_ble_eq_true rfl⟩ rfl hl.1 rfl (Nat.le_of_ble_eq_true rfl) dL_areStocks_85 ⟨(by show 0 + 1 + 1 + 1 + 1 + 1 + 1 + 1 + 1 + 1 ≤ 45; omega), (by show 0 + 6 + 6 + 6 + 6 + 6 + 6 + 6 + 6 + 6 ≤ 270; omega)⟩) rfl hD hS hA (fun r18 T1 H locs hp hP hq1x hq2x hq3x hf1 hS => ?_)
            clear hq1x hq2x hq3x
            have hO := kO_keep hO hdis hf1
            obtain ⟨hT, nr18⟩ := kp_A (i := 0) hp (by decide : (0 : Int32).toInt = ((0 : Nat) : Int)) (by omega) (by omega) (by omega)
            subst hT
            refine lv_aload_n hx hb dL_areStocks_88 rfl (lv_at hl 3 rfl) ?_
            refine lv_iload hx hb dL_areStocks_89 (lv_at hl 1 rfl) ?_
            refine kcallhI (kSthW (n := 2) (As := [.ref (z 0), .int 0]) (rest := [.int r18, .int 1]) F hE hNc hK hP hD hS hA (kh_stock l g e0 S _ (z 0) 0 _ _ hI.ob0 (c_X5_stock_x l hl0 g e0 z S _ hI av lv q hR h72 0) (fun E h => h.1)) kw_188 kw_189 kw_61 kw_190 (by decide +kernel) ⟨Nat.le_of_ble_eq_true rfl, Nat.le_of_ble_eq_true rfl⟩ rfl hl.1 rfl (Nat.le_of_ble_eq_true rfl) dL_areStocks_91 ⟨(by show 0 + 1 + 1 + 1 + 1 + 1 + 1 + 1 + 1 + 1 + 1 ≤ 45; omega), (by show 0 + 6 + 6 + 6 + 6 + 6 + 6 + 6 + 6 + 6 + 6 ≤ 270; omega)⟩) rfl hD hS hA (fun r19 T1 H locs hp hP hq1x hq2x hq3x hf1 hS => ?_)
            clear hq1x hq2x hq3x
            have hO := kO_keep hO hdis hf1
            obtain ⟨hT, nr19⟩ := kp_A (i := 0) hp (by decide : (0 : Int32).toInt = ((0 : Nat) : Int)) (by omega) (by omega) (by omega)
            subst hT
            refine lv_aload_n hx hb dL_areStocks_94 rfl (lv_at hl 3 rfl) ?_
            refine lv_iload hx hb dL_areStocks_95 (lv_at hl 1 rfl) ?_
            refine kcallhI (kSthW (n := 2) (As := [.ref (z 0), .int 0]) (rest := [.int r19, .int r18, .int 1]) F hE hNc hK hP hD hS hA (kh_promised l g e0 S _ (z 0) 0 _ _ hI.ob0 (c_X5_promised_x l hl0 g e0 z S _ hI av lv q hR h72 0) (fun E h => h.1)) kw_228 kw_229 kw_61 kw_230 (by decide +kernel) ⟨Nat.le_of_ble_eq_true rfl, Nat.le_of_ble_eq_true rfl⟩ rfl hl.1 rfl (Nat.le_of_ble_eq_true rfl) dL_areStocks_97 ⟨(by show 0 + 1 + 1 + 1 + 1 + 1 + 1 + 1 + 1 + 1 + 1 + 1 ≤ 45; omega), (by show 0 + 6 + 6 + 6 + 6 + 6 + 6 + 6 + 6 + 6 + 6 + 6 ≤ 270; omega)⟩) rfl hD hS hA (fun r20 T1 H locs hp hP hq1x hq2x hq3x hf1 hS => ?_)
            clear hq1x hq2x hq3x
            have hO := kO_keep hO hdis hf1
            obtain ⟨hT, nr20⟩ := kp_A (i := 0) hp (by decide : (0 : Int32).toInt = ((0 : Nat) : Int)) (by omega) (by omega) (by omega)
            subst hT
            refine lv_isub hx hb dL_areStocks_100 ?_
            refine lv_topi (fun x21 ex21 => ?_)
            have tx21 : x21.toInt = r19.toInt - r20.toInt := kt_sub ex21 (rfl : r19.toInt = r19.toInt) (rfl : r20.toInt = r20.toInt) (by omega) (by omega)
            refine lv_icmp_ne (tgt := 123) hx hb dL_areStocks_101 (by decide) (fun c22 => ?_) (fun c22 => ?_)
            · have d22 : r18.toInt ≠ x21.toInt := mt (kc_eq (rfl : r18.toInt = r18.toInt) (rfl : x21.toInt = x21.toInt)).mpr c22
              exfalso; omega
            · have d22 : r18.toInt = x21.toInt := (kc_eq (rfl : r18.toInt = r18.toInt) (rfl : x21.toInt = x21.toInt)).mp c22
              refine lv_aload_n hx hb dL_areStocks_104 rfl (lv_at hl 3 rfl) ?_
              refine lv_iload hx hb dL_areStocks_105 (lv_at hl 1 rfl) ?_
              refine kcallhI (kSthW (n := 2) (As := [.ref (z 0), .int 0]) (rest := [.int 1]) F hE hNc hK hP hD hS hA (kh_promised l g e0 S _ (z 0) 0 _ _ hI.ob0 (c_X5_promised_x l hl0 g e0 z S _ hI av lv q hR h72 0) (fun E h => h.1)) kw_228 kw_229 kw_61 kw_230 (by decide +kernel) ⟨Nat.le_of_ble_eq_true rfl, Nat.le_of_ble_eq_true rfl⟩ rfl hl.1 rfl (Nat.le_of_ble_eq_true rfl) dL_areStocks_107 ⟨(by show 0 + 1 + 1 + 1 + 1 + 1 + 1 + 1 + 1 + 1 + 1 + 1 + 1 ≤ 45; omega), (by show 0 + 6 + 6 + 6 + 6 + 6 + 6 + 6 + 6 + 6 + 6 + 6 + 6 ≤ 270; omega)⟩) rfl hD hS hA (fun r23 T1 H locs hp hP hq1x hq2x hq3x hf1 hS => ?_)
              clear hq1x hq2x hq3x
              have hO := kO_keep hO hdis hf1
              obtain ⟨hT, nr23⟩ := kp_A (i := 0) hp (by decide : (0 : Int32).toInt = ((0 : Nat) : Int)) (by omega) (by omega) (by omega)
              subst hT
              refine lv_aload_n hx hb dL_areStocks_110 rfl (lv_at hl 3 rfl) ?_
              refine lv_iload hx hb dL_areStocks_111 (lv_at hl 1 rfl) ?_
              refine kcallhI (kSthW (n := 2) (As := [.ref (z 0), .int 0]) (rest := [.int r23, .int 1]) F hE hNc hK hP hD hS hA (kh_promisedByScans l g e0 S _ (z 0) 0 _ _ hI.ob0 (c_X5_promisedByScans_x l hl0 g e0 z S _ hI av lv q hR hW.1 0) (fun E h => h.1)) kw_488 kw_489 kw_61 kw_490 (by decide +kernel) ⟨Nat.le_of_ble_eq_true rfl, Nat.le_of_ble_eq_true rfl⟩ rfl hl.1 rfl (Nat.le_of_ble_eq_true rfl) dL_areStocks_113 ⟨(by show 0 + 1 + 1 + 1 + 1 + 1 + 1 + 1 + 1 + 1 + 1 + 1 + 1 + 1 ≤ 45; omega), (by show 0 + 6 + 6 + 6 + 6 + 6 + 6 + 6 + 6 + 6 + 6 + 6 + 6 + 6 ≤ 270; omega)⟩) rfl hD hS hA (fun r24 T1 H locs hp hP hq1x hq2x hq3x hf1 hS => ?_)
              clear hq1x hq2x hq3x
              have hO := kO_keep hO hdis hf1
              obtain ⟨hT, nr24⟩ := kp_A (i := 0) hp (by decide : (0 : Int32).toInt = ((0 : Nat) : Int)) (by omega) (by omega) (by omega)
              subst hT
              refine lv_icmp_ne (tgt := 123) hx hb dL_areStocks_116 (by decide) (fun c25 => ?_) (fun c25 => ?_)
              · have d25 : r23.toInt ≠ r24.toInt := mt (kc_eq (rfl : r23.toInt = r23.toInt) (rfl : r24.toInt = r24.toInt)).mpr c25
                exfalso; omega
              · have d25 : r23.toInt = r24.toInt := (kc_eq (rfl : r23.toInt = r23.toInt) (rfl : r24.toInt = r24.toInt)).mp c25
                refine lv_iconst (v := 1) hx hb dL_areStocks_119 (by decide) ?_
                refine lv_goto (tgt := 124) hx hb dL_areStocks_120 (by decide) ?_
                refine lv_iand hx hb dL_areStocks_124 ?_
                refine lv_topi (fun x26 e26 => ?_)
                obtain rfl : x26 = 1 := e26.trans (by decide)
                refine lv_istore (lv' := [(4, .int 1), (3, .int x8), (5, .int 0), (0, .ref (z 0)), (1, .int un), (2, .ref rr)]) hx hb dL_areStocks_125 hl (by decide) rfl (fun ls hl => ?_)
                refine lv_iinc (v := 1) (lv' := [(5, .int 1), (4, .int 1), (3, .int x8), (0, .ref (z 0)), (1, .int un), (2, .ref rr)]) hx hb dL_areStocks_127 hl (k := 2) rfl (by decide) (by decide) rfl (fun ls hl => ?_)
                refine lv_goto (tgt := 18) hx hb dL_areStocks_130 (by decide) ?_
                refine lv_iload hx hb dL_areStocks_18 (lv_at hl 0 rfl) ?_
                refine lv_iconst (v := 3) hx hb dL_areStocks_20 (by decide) ?_
                refine lv_icmp_ge (tgt := 133) hx hb dL_areStocks_21 (by decide) (fun c27 => ?_) (fun c27 => ?_)
                · exact absurd c27 (by decide)
                · refine lv_iload_n hx hb dL_areStocks_24 rfl (lv_at hl 2 rfl) ?_
                  refine lv_aload_n hx hb dL_areStocks_25 rfl (lv_at hl 3 rfl) ?_
                  refine lv_iload hx hb dL_areStocks_26 (lv_at hl 0 rfl) ?_
                  refine kcallhI (kSthW (n := 2) (As := [.ref (z 0), .int 1]) (rest := [.int x8]) F hE hNc hK hP hD hS hA (kh_stock l g e0 S _ (z 0) 1 _ _ hI.ob0 (c_X5_stock_x l hl0 g e0 z S _ hI av lv q hR h72 1) (fun E h => h.1)) kw_188 kw_189 kw_61 kw_190 (by decide +kernel) ⟨Nat.le_of_ble_eq_true rfl, Nat.le_of_ble_eq_true rfl⟩ rfl hl.1 rfl (Nat.le_of_ble_eq_true rfl) dL_areStocks_28 ⟨(by show 0 + 1 + 1 + 1 + 1 + 1 + 1 + 1 + 1 + 1 + 1 + 1 + 1 + 1 + 1 ≤ 45; omega), (by show 0 + 6 + 6 + 6 + 6 + 6 + 6 + 6 + 6 + 6 + 6 + 6 + 6 + 6 + 6 ≤ 270; omega)⟩) rfl hD hS hA (fun r28 T1 H locs hp hP hq1x hq2x hq3x hf1 hS => ?_)
                  clear hq1x hq2x hq3x
                  have hO := kO_keep hO hdis hf1
                  obtain ⟨hT, nr28⟩ := kp_A (i := 1) hp (by decide : (1 : Int32).toInt = ((1 : Nat) : Int)) (by omega) (by omega) (by omega)
                  subst hT
                  refine lv_aload_n hx hb dL_areStocks_31 rfl (lv_at hl 3 rfl) ?_
                  refine lv_iload hx hb dL_areStocks_32 (lv_at hl 0 rfl) ?_
                  refine kcallhI (kSthW (n := 2) (As := [.ref (z 0), .int 1]) (rest := [.int r28, .int x8]) F hE hNc hK hP hD hS hA (kh_reserve l g e0 S _ (z 0) 1 _ _ hI.ob0 (c_X5_reserve_x l hl0 g e0 z S _ hI av lv q hR h72 1) (fun E h => h.1)) kw_220 kw_221 kw_61 kw_222 (by decide +kernel) ⟨Nat.le_of_ble_eq_true rfl, Nat.le_of_ble_eq_true rfl⟩ rfl hl.1 rfl (Nat.le_of_ble_eq_true rfl) dL_areStocks_34 ⟨(by show 0 + 1 + 1 + 1 + 1 + 1 + 1 + 1 + 1 + 1 + 1 + 1 + 1 + 1 + 1 + 1 ≤ 45; omega), (by show 0 + 6 + 6 + 6 + 6 + 6 + 6 + 6 + 6 + 6 + 6 + 6 + 6 + 6 + 6 + 6 ≤ 270; omega)⟩) rfl hD hS hA (fun r29 T1 H locs hp hP hq1x hq2x hq3x hf1 hS => ?_)
                  clear hq1x hq2x hq3x
                  have hO := kO_keep hO hdis hf1
                  obtain ⟨hT, nr29⟩ := kp_A (i := 1) hp (by decide : (1 : Int32).toInt = ((1 : Nat) : Int)) (by omega) (by omega) (by omega)
                  subst hT
                  refine lv_iadd hx hb dL_areStocks_37 ?_
                  refine lv_topi (fun x30 ex30 => ?_)
                  have tx30 : x30.toInt = r28.toInt + r29.toInt := kt_add ex30 (rfl : r28.toInt = r28.toInt) (rfl : r29.toInt = r29.toInt) (by omega) (by omega)
                  refine lv_iadd hx hb dL_areStocks_38 ?_
                  refine lv_topi (fun x31 ex31 => ?_)
                  have tx31 : x31.toInt = x8.toInt + x30.toInt := kt_add ex31 (rfl : x8.toInt = x8.toInt) (rfl : x30.toInt = x30.toInt) (by omega) (by omega)
                  refine lv_istore_n (lv' := [(3, .int x31), (5, .int 1), (4, .int 1), (0, .ref (z 0)), (1, .int un), (2, .ref rr)]) hx hb dL_areStocks_39 rfl hl (by decide) rfl (fun ls hl => ?_)
                  refine lv_iload hx hb dL_areStocks_40 (lv_at hl 2 rfl) ?_
                  refine lv_aload_n hx hb dL_areStocks_42 rfl (lv_at hl 3 rfl) ?_
                  refine lv_iload hx hb dL_areStocks_43 (lv_at hl 1 rfl) ?_
                  refine kcallhI (kSthW (n := 2) (As := [.ref (z 0), .int 1]) (rest := [.int 1]) F hE hNc hK hP hD hS hA (kh_stock l g e0 S _ (z 0) 1 _ _ hI.ob0 (c_X5_stock_x l hl0 g e0 z S _ hI av lv q hR h72 1) (fun E h => h.1)) kw_188 kw_189 kw_61 kw_190 (by decide +kernel) ⟨Nat.le_of_ble_eq_true rfl, Nat.le_of_ble_eq_true rfl⟩ rfl hl.1 rfl (Nat.le_of_ble_eq_true rfl) dL_areStocks_45 ⟨(by show 0 + 1 + 1 + 1 + 1 + 1 + 1 + 1 + 1 + 1 + 1 + 1 + 1 + 1 + 1 + 1 + 1 ≤ 45; omega), (by show 0 + 6 + 6 + 6 + 6 + 6 + 6 + 6 + 6 + 6 + 6 + 6 + 6 + 6 + 6 + 6 + 6 ≤ 270; omega)⟩) rfl hD hS hA (fun r32 T1 H locs hp hP hq1x hq2x hq3x hf1 hS => ?_)
                  clear hq1x hq2x hq3x
                  have hO := kO_keep hO hdis hf1
                  obtain ⟨hT, nr32⟩ := kp_A (i := 1) hp (by decide : (1 : Int32).toInt = ((1 : Nat) : Int)) (by omega) (by omega) (by omega)
                  subst hT
                  refine lv_if_lt (tgt := 123) hx hb dL_areStocks_48 (by decide) (fun c33 => ?_) (fun c33 => ?_)
                  · have d33 : r32.toInt < (0) := (kc_lt (rfl : r32.toInt = r32.toInt) (by decide : (0 : Int32).toInt = 0)).mp c33
                    exfalso; omega
                  · have d33 : ¬ (r32.toInt < (0)) := mt (kc_lt (rfl : r32.toInt = r32.toInt) (by decide : (0 : Int32).toInt = 0)).mpr c33
                    refine lv_aload_n hx hb dL_areStocks_51 rfl (lv_at hl 3 rfl) ?_
                    refine lv_iload hx hb dL_areStocks_52 (lv_at hl 1 rfl) ?_
                    refine kcallhI (kSthW (n := 2) (As := [.ref (z 0), .int 1]) (rest := [.int 1]) F hE hNc hK hP hD hS hA (kh_stock l g e0 S _ (z 0) 1 _ _ hI.ob0 (c_X5_stock_x l hl0 g e0 z S _ hI av lv q hR h72 1) (fun E h => h.1)) kw_188 kw_189 kw_61 kw_190 (by decide +kernel) ⟨Nat.le_of_ble_eq_true rfl, Nat.le_of_ble_eq_true rfl⟩ rfl hl.1 rfl (Nat.le_of_ble_eq_true rfl) dL_areStocks_54 ⟨(by show 0 + 1 + 1 + 1 + 1 + 1 + 1 + 1 + 1 + 1 + 1 + 1 + 1 + 1 + 1 + 1 + 1 + 1 ≤ 45; omega), (by show 0 + 6 + 6 + 6 + 6 + 6 + 6 + 6 + 6 + 6 + 6 + 6 + 6 + 6 + 6 + 6 + 6 + 6 ≤ 270; omega)⟩) rfl hD hS hA (fun r34 T1 H locs hp hP hq1x hq2x hq3x hf1 hS => ?_)
                    clear hq1x hq2x hq3x
                    have hO := kO_keep hO hdis hf1
                    obtain ⟨hT, nr34⟩ := kp_A (i := 1) hp (by decide : (1 : Int32).toInt = ((1 : Nat) : Int)) (by omega) (by omega) (by omega)
                    subst hT
                    refine lv_aload_n hx hb dL_areStocks_57 rfl (lv_at hl 5 rfl) ?_
                    refine lv_iload hx hb dL_areStocks_58 (lv_at hl 1 rfl) ?_
                    refine rd_I F hK hO orr (by rw [lr]; exact kt_in (by decide : (1 : Int32).toInt = ((1 : Nat) : Int)) (by omega) (by decide)) dL_areStocks_60 ?_
                    refine lv_topi (fun x35 ex35 => ?_)
                    have nx35 : x35.toInt = ((q 11 1 : Nat) : Int) := kt_nI (by rw [ex35, kt_clamp (by decide : (1 : Int32).toInt = ((1 : Nat) : Int)) (by omega)]; exact (hra 1 (by omega)).2) (by omega)
                    refine lv_icmp_gt (tgt := 123) hx hb dL_areStocks_61 (by decide) (fun c36 => ?_) (fun c36 => ?_)
                    · have d36 : x35.toInt < r34.toInt := (kc_lt (rfl : x35.toInt = x35.toInt) (rfl : r34.toInt = r34.toInt)).mp c36
                      exfalso; omega
                    · have d36 : ¬ (x35.toInt < r34.toInt) := mt (kc_lt (rfl : x35.toInt = x35.toInt) (rfl : r34.toInt = r34.toInt)).mpr c36
                      refine lv_aload_n hx hb dL_areStocks_64 rfl (lv_at hl 3 rfl) ?_
                      refine lv_iload hx hb dL_areStocks_65 (lv_at hl 1 rfl) ?_
                      refine kcallhI (kSthW (n := 2) (As := [.ref (z 0), .int 1]) (rest := [.int 1]) F hE hNc hK hP hD hS hA (kh_reserve l g e0 S _ (z 0) 1 _ _ hI.ob0 (c_X5_reserve_x l hl0 g e0 z S _ hI av lv q hR h72 1) (fun E h => h.1)) kw_220 kw_221 kw_61 kw_222 (by decide +kernel) ⟨Nat.le_of_ble_eq_true rfl, Nat.le_of_ble_eq_true rfl⟩ rfl hl.1 rfl (Nat.le_of_ble_eq_true rfl) dL_areStocks_67 ⟨(by show 0 + 1 + 1 + 1 + 1 + 1 + 1 + 1 + 1 + 1 + 1 + 1 + 1 + 1 + 1 + 1 + 1 + 1 + 1 ≤ 45; omega), (by show 0 + 6 + 6 + 6 + 6 + 6 + 6 + 6 + 6 + 6 + 6 + 6 + 6 + 6 + 6 + 6 + 6 + 6 + 6 ≤ 270; omega)⟩) rfl hD hS hA (fun r37 T1 H locs hp hP hq1x hq2x hq3x hf1 hS => ?_)
                      clear hq1x hq2x hq3x
                      have hO := kO_keep hO hdis hf1
                      obtain ⟨hT, nr37⟩ := kp_A (i := 1) hp (by decide : (1 : Int32).toInt = ((1 : Nat) : Int)) (by omega) (by omega) (by omega)
                      subst hT
                      refine lv_if_lt (tgt := 123) hx hb dL_areStocks_70 (by decide) (fun c38 => ?_) (fun c38 => ?_)
                      · have d38 : r37.toInt < (0) := (kc_lt (rfl : r37.toInt = r37.toInt) (by decide : (0 : Int32).toInt = 0)).mp c38
                        exfalso; omega
                      · have d38 : ¬ (r37.toInt < (0)) := mt (kc_lt (rfl : r37.toInt = r37.toInt) (by decide : (0 : Int32).toInt = 0)).mpr c38
                        refine lv_aload_n hx hb dL_areStocks_73 rfl (lv_at hl 3 rfl) ?_
                        refine lv_iload hx hb dL_areStocks_74 (lv_at hl 1 rfl) ?_
                        refine kcallhI (kSthW (n := 2) (As := [.ref (z 0), .int 1]) (rest := [.int 1]) F hE hNc hK hP hD hS hA (kh_free l g e0 S _ (z 0) 1 _ _ hI.ob0 (c_X5_free_x l hl0 g e0 z S _ hI av lv q hR h72 hW.2.1 1) (fun E h => h.1)) kw_346 kw_347 kw_61 kw_348 (by decide +kernel) ⟨Nat.le_of_ble_eq_true rfl, Nat.le_of_ble_eq_true rfl⟩ rfl hl.1 rfl (Nat.le_of_ble_eq_true rfl) dL_areStocks_76 ⟨(by show 0 + 1 + 1 + 1 + 1 + 1 + 1 + 1 + 1 + 1 + 1 + 1 + 1 + 1 + 1 + 1 + 1 + 1 + 1 + 1 ≤ 45; omega), (by show 0 + 6 + 6 + 6 + 6 + 6 + 6 + 6 + 6 + 6 + 6 + 6 + 6 + 6 + 6 + 6 + 6 + 6 + 6 + 6 ≤ 270; omega)⟩) rfl hD hS hA (fun r39 T1 H locs hp hP hq1x hq2x hq3x hf1 hS => ?_)
                        clear hq1x hq2x hq3x
                        have hO := kO_keep hO hdis hf1
                        obtain ⟨hT, nr39⟩ := kp_A (i := 1) hp (by decide : (1 : Int32).toInt = ((1 : Nat) : Int)) (by omega) (by omega) (by omega)
                        subst hT
                        refine lv_if_lt (tgt := 123) hx hb dL_areStocks_79 (by decide) (fun c40 => ?_) (fun c40 => ?_)
                        · have d40 : r39.toInt < (0) := (kc_lt (rfl : r39.toInt = r39.toInt) (by decide : (0 : Int32).toInt = 0)).mp c40
                          exfalso; omega
                        · have d40 : ¬ (r39.toInt < (0)) := mt (kc_lt (rfl : r39.toInt = r39.toInt) (by decide : (0 : Int32).toInt = 0)).mpr c40
                          refine lv_aload_n hx hb dL_areStocks_82 rfl (lv_at hl 3 rfl) ?_
                          refine lv_iload hx hb dL_areStocks_83 (lv_at hl 1 rfl) ?_
                          refine kcallhI (kSthW (n := 2) (As := [.ref (z 0), .int 1]) (rest := [.int 1]) F hE hNc hK hP hD hS hA (kh_free l g e0 S _ (z 0) 1 _ _ hI.ob0 (c_X5_free_x l hl0 g e0 z S _ hI av lv q hR h72 hW.2.1 1) (fun E h => h.1)) kw_346 kw_347 kw_61 kw_348 (by decide +kernel) ⟨Nat.le_of_ble_eq_true rfl, Nat.le_of_ble_eq_true rfl⟩ rfl hl.1 rfl (Nat.le_of_ble_eq_true rfl) dL_areStocks_85 ⟨(by show 0 + 1 + 1 + 1 + 1 + 1 + 1 + 1 + 1 + 1 + 1 + 1 + 1 + 1 + 1 + 1 + 1 + 1 + 1 + 1 + 1 ≤ 45; omega), (by show 0 + 6 + 6 + 6 + 6 + 6 + 6 + 6 + 6 + 6 + 6 + 6 + 6 + 6 + 6 + 6 + 6 + 6 + 6 + 6 + 6 ≤ 270; omega)⟩) rfl hD hS hA (fun r41 T1 H locs hp hP hq1x hq2x hq3x hf1 hS => ?_)
                          clear hq1x hq2x hq3x
                          have hO := kO_keep hO hdis hf1
                          obtain ⟨hT, nr41⟩ := kp_A (i := 1) hp (by decide : (1 : Int32).toInt = ((1 : Nat) : Int)) (by omega) (by omega) (by omega)
                          subst hT
                          refine lv_aload_n hx hb dL_areStocks_88 rfl (lv_at hl 3 rfl) ?_
                          refine lv_iload hx hb dL_areStocks_89 (lv_at hl 1 rfl) ?_
                          refine kcallhI (kSthW (n := 2) (As := [.ref (z 0), .int 1]) (rest := [.int r41, .int 1]) F hE hNc hK hP hD hS hA (kh_stock l g e0 S _ (z 0) 1 _ _ hI.ob0 (c_X5_stock_x l hl0 g e0 z S _ hI av lv q hR h72 1) (fun E h => h.1)) kw_188 kw_189 kw_61 kw_190 (by decide +kernel) ⟨Nat.le_of_ble_eq_true rfl, Nat.le_of_ble_eq_true rfl⟩ rfl hl.1 rfl (Nat.le_of_ble_eq_true rfl) dL_areStocks_91 ⟨(by show 0 + 1 + 1 + 1 + 1 + 1 + 1 + 1 + 1 + 1 + 1 + 1 + 1 + 1 + 1 + 1 + 1 + 1 + 1 + 1 + 1 + 1 ≤ 45; omega), (by show 0 + 6 + 6 + 6 + 6 + 6 + 6 + 6 + 6 + 6 + 6 + 6 + 6 + 6 + 6 + 6 + 6 + 6 + 6 + 6 + 6 + 6 ≤ 270; omega)⟩) rfl hD hS hA (fun r42 T1 H locs hp hP hq1x hq2x hq3x hf1 hS => ?_)
                          clear hq1x hq2x hq3x
                          have hO := kO_keep hO hdis hf1
                          obtain ⟨hT, nr42⟩ := kp_A (i := 1) hp (by decide : (1 : Int32).toInt = ((1 : Nat) : Int)) (by omega) (by omega) (by omega)
                          subst hT
                          refine lv_aload_n hx hb dL_areStocks_94 rfl (lv_at hl 3 rfl) ?_
                          refine lv_iload hx hb dL_areStocks_95 (lv_at hl 1 rfl) ?_
                          refine kcallhI (kSthW (n := 2) (As := [.ref (z 0), .int 1]) (rest := [.int r42, .int r41, .int 1]) F hE hNc hK hP hD hS hA (kh_promised l g e0 S _ (z 0) 1 _ _ hI.ob0 (c_X5_promised_x l hl0 g e0 z S _ hI av lv q hR h72 1) (fun E h => h.1)) kw_228 kw_229 kw_61 kw_230 (by decide +kernel) ⟨Nat.le_of_ble_eq_true rfl, Nat.le_of_ble_eq_true rfl⟩ rfl hl.1 rfl (Nat.le_of_ble_eq_true rfl) dL_areStocks_97 ⟨(by show 0 + 1 + 1 + 1 + 1 + 1 + 1 + 1 + 1 + 1 + 1 + 1 + 1 + 1 + 1 + 1 + 1 + 1 + 1 + 1 + 1 + 1 + 1 ≤ 45; omega), (by show 0 + 6 + 6 + 6 + 6 + 6 + 6 + 6 + 6 + 6 + 6 + 6 + 6 + 6 + 6 + 6 + 6 + 6 + 6 + 6 + 6 + 6 + 6 ≤ 270; omega)⟩) rfl hD hS hA (fun r43 T1 H locs hp hP hq1x hq2x hq3x hf1 hS => ?_)
                          clear hq1x hq2x hq3x
                          have hO := kO_keep hO hdis hf1
                          obtain ⟨hT, nr43⟩ := kp_A (i := 1) hp (by decide : (1 : Int32).toInt = ((1 : Nat) : Int)) (by omega) (by omega) (by omega)
                          subst hT
                          refine lv_isub hx hb dL_areStocks_100 ?_
                          refine lv_topi (fun x44 ex44 => ?_)
                          have tx44 : x44.toInt = r42.toInt - r43.toInt := kt_sub ex44 (rfl : r42.toInt = r42.toInt) (rfl : r43.toInt = r43.toInt) (by omega) (by omega)
                          refine lv_icmp_ne (tgt := 123) hx hb dL_areStocks_101 (by decide) (fun c45 => ?_) (fun c45 => ?_)
                          · have d45 : r41.toInt ≠ x44.toInt := mt (kc_eq (rfl : r41.toInt = r41.toInt) (rfl : x44.toInt = x44.toInt)).mpr c45
                            exfalso; omega
                          · have d45 : r41.toInt = x44.toInt := (kc_eq (rfl : r41.toInt = r41.toInt) (rfl : x44.toInt = x44.toInt)).mp c45
                            refine lv_aload_n hx hb dL_areStocks_104 rfl (lv_at hl 3 rfl) ?_
                            refine lv_iload hx hb dL_areStocks_105 (lv_at hl 1 rfl) ?_
                            refine kcallhI (kSthW (n := 2) (As := [.ref (z 0), .int 1]) (rest := [.int 1]) F hE hNc hK hP hD hS hA (kh_promised l g e0 S _ (z 0) 1 _ _ hI.ob0 (c_X5_promised_x l hl0 g e0 z S _ hI av lv q hR h72 1) (fun E h => h.1)) kw_228 kw_229 kw_61 kw_230 (by decide +kernel) ⟨Nat.le_of_ble_eq_true rfl, Nat.le_of_ble_eq_true rfl⟩ rfl hl.1 rfl (Nat.le_of_ble_eq_true rfl) dL_areStocks_107 ⟨(by show 0 + 1 + 1 + 1 + 1 + 1 + 1 + 1 + 1 + 1 + 1 + 1 + 1 + 1 + 1 + 1 + 1 + 1 + 1 + 1 + 1 + 1 + 1 + 1 ≤ 45; omega), (by show 0 + 6 + 6 + 6 + 6 + 6 + 6 + 6 + 6 + 6 + 6 + 6 + 6 + 6 + 6 + 6 + 6 + 6 + 6 + 6 + 6 + 6 + 6 + 6 ≤ 270; omega)⟩) rfl hD hS hA (fun r46 T1 H locs hp hP hq1x hq2x hq3x hf1 hS => ?_)
                            clear hq1x hq2x hq3x
                            have hO := kO_keep hO hdis hf1
                            obtain ⟨hT, nr46⟩ := kp_A (i := 1) hp (by decide : (1 : Int32).toInt = ((1 : Nat) : Int)) (by omega) (by omega) (by omega)
                            subst hT
                            refine lv_aload_n hx hb dL_areStocks_110 rfl (lv_at hl 3 rfl) ?_
                            refine lv_iload hx hb dL_areStocks_111 (lv_at hl 1 rfl) ?_
                            refine kcallhI (kSthW (n := 2) (As := [.ref (z 0), .int 1]) (rest := [.int r46, .int 1]) F hE hNc hK hP hD hS hA (kh_promisedByScans l g e0 S _ (z 0) 1 _ _ hI.ob0 (c_X5_promisedByScans_x l hl0 g e0 z S _ hI av lv q hR hW.1 1) (fun E h => h.1)) kw_488 kw_489 kw_61 kw_490 (by decide +kernel) ⟨Nat.le_of_ble_eq_true rfl, Nat.le_of_ble_eq_true rfl⟩ rfl hl.1 rfl (Nat.le_of_ble_eq_true rfl) dL_areStocks_113 ⟨(by show 0 + 1 + 1 + 1 + 1 + 1 + 1 + 1 + 1 + 1 + 1 + 1 + 1 + 1 + 1 + 1 + 1 + 1 + 1 + 1 + 1 + 1 + 1 + 1 + 1 ≤ 45; omega), (by show 0 + 6 + 6 + 6 + 6 + 6 + 6 + 6 + 6 + 6 + 6 + 6 + 6 + 6 + 6 + 6 + 6 + 6 + 6 + 6 + 6 + 6 + 6 + 6 + 6 ≤ 270; omega)⟩) rfl hD hS hA (fun r47 T1 H locs hp hP hq1x hq2x hq3x hf1 hS => ?_)
                            clear hq1x hq2x hq3x
                            have hO := kO_keep hO hdis hf1
                            obtain ⟨hT, nr47⟩ := kp_A (i := 1) hp (by decide : (1 : Int32).toInt = ((1 : Nat) : Int)) (by omega) (by omega) (by omega)
                            subst hT
                            refine lv_icmp_ne (tgt := 123) hx hb dL_areStocks_116 (by decide) (fun c48 => ?_) (fun c48 => ?_)
                            · have d48 : r46.toInt ≠ r47.toInt := mt (kc_eq (rfl : r46.toInt = r46.toInt) (rfl : r47.toInt = r47.toInt)).mpr c48
                              exfalso; omega
                            · have d48 : r46.toInt = r47.toInt := (kc_eq (rfl : r46.toInt = r46.toInt) (rfl : r47.toInt = r47.toInt)).mp c48
                              refine lv_iconst (v := 1) hx hb dL_areStocks_119 (by decide) ?_
                              refine lv_goto (tgt := 124) hx hb dL_areStocks_120 (by decide) ?_
                              refine lv_iand hx hb dL_areStocks_124 ?_
                              refine lv_topi (fun x49 e49 => ?_)
                              obtain rfl : x49 = 1 := e49.trans (by decide)
                              refine lv_istore (lv' := [(4, .int 1), (3, .int x31), (5, .int 1), (0, .ref (z 0)), (1, .int un), (2, .ref rr)]) hx hb dL_areStocks_125 hl (by decide) rfl (fun ls hl => ?_)
                              refine lv_iinc (v := 2) (lv' := [(5, .int 2), (4, .int 1), (3, .int x31), (0, .ref (z 0)), (1, .int un), (2, .ref rr)]) hx hb dL_areStocks_127 hl (k := 2) rfl (by decide) (by decide) rfl (fun ls hl => ?_)
                              refine lv_goto (tgt := 18) hx hb dL_areStocks_130 (by decide) ?_
                              refine lv_iload hx hb dL_areStocks_18 (lv_at hl 0 rfl) ?_
                              refine lv_iconst (v := 3) hx hb dL_areStocks_20 (by decide) ?_
                              refine lv_icmp_ge (tgt := 133) hx hb dL_areStocks_21 (by decide) (fun c50 => ?_) (fun c50 => ?_)
                              · exact absurd c50 (by decide)
                              · refine lv_iload_n hx hb dL_areStocks_24 rfl (lv_at hl 2 rfl) ?_
                                refine lv_aload_n hx hb dL_areStocks_25 rfl (lv_at hl 3 rfl) ?_
                                refine lv_iload hx hb dL_areStocks_26 (lv_at hl 0 rfl) ?_
                                refine kcallhI (kSthW (n := 2) (As := [.ref (z 0), .int 2]) (rest := [.int x31]) F hE hNc hK hP hD hS hA (kh_stock l g e0 S _ (z 0) 2 _ _ hI.ob0 (c_X5_stock_x l hl0 g e0 z S _ hI av lv q hR h72 2) (fun E h => h.1)) kw_188 kw_189 kw_61 kw_190 (by decide +kernel) ⟨Nat.le_of_ble_eq_true rfl, Nat.le_of_ble_eq_true rfl⟩ rfl hl.1 rfl (Nat.le_of_ble_eq_true rfl) dL_areStocks_28 ⟨(by show 0 + 1 + 1 + 1 + 1 + 1 + 1 + 1 + 1 + 1 + 1 + 1 + 1 + 1 + 1 + 1 + 1 + 1 + 1 + 1 + 1 + 1 + 1 + 1 + 1 + 1 ≤ 45; omega), (by show 0 + 6 + 6 + 6 + 6 + 6 + 6 + 6 + 6 + 6 + 6 + 6 + 6 + 6 + 6 + 6 + 6 + 6 + 6 + 6 + 6 + 6 + 6 + 6 + 6 + 6 ≤ 270; omega)⟩) rfl hD hS hA (fun r51 T1 H locs hp hP hq1x hq2x hq3x hf1 hS => ?_)
                                clear hq1x hq2x hq3x
                                have hO := kO_keep hO hdis hf1
                                obtain ⟨hT, nr51⟩ := kp_A (i := 2) hp (by decide : (2 : Int32).toInt = ((2 : Nat) : Int)) (by omega) (by omega) (by omega)
                                subst hT
                                refine lv_aload_n hx hb dL_areStocks_31 rfl (lv_at hl 3 rfl) ?_
                                refine lv_iload hx hb dL_areStocks_32 (lv_at hl 0 rfl) ?_
                                refine kcallhI (kSthW (n := 2) (As := [.ref (z 0), .int 2]) (rest := [.int r51, .int x31]) F hE hNc hK hP hD hS hA (kh_reserve l g e0 S _ (z 0) 2 _ _ hI.ob0 (c_X5_reserve_x l hl0 g e0 z S _ hI av lv q hR h72 2) (fun E h => h.1)) kw_220 kw_221 kw_61 kw_222 (by decide +kernel) ⟨Nat.le_of_ble_eq_true rfl, Nat.le_of_ble_eq_true rfl⟩ rfl hl.1 rfl (Nat.le_of_ble_eq_true rfl) dL_areStocks_34 ⟨(by show 0 + 1 + 1 + 1 + 1 + 1 + 1 + 1 + 1 + 1 + 1 + 1 + 1 + 1 + 1 + 1 + 1 + 1 + 1 + 1 + 1 + 1 + 1 + 1 + 1 + 1 + 1 ≤ 45; omega), (by show 0 + 6 + 6 + 6 + 6 + 6 + 6 + 6 + 6 + 6 + 6 + 6 + 6 + 6 + 6 + 6 + 6 + 6 + 6 + 6 + 6 + 6 + 6 + 6 + 6 + 6 + 6 ≤ 270; omega)⟩) rfl hD hS hA (fun r52 T1 H locs hp hP hq1x hq2x hq3x hf1 hS => ?_)
                                clear hq1x hq2x hq3x
                                have hO := kO_keep hO hdis hf1
                                obtain ⟨hT, nr52⟩ := kp_A (i := 2) hp (by decide : (2 : Int32).toInt = ((2 : Nat) : Int)) (by omega) (by omega) (by omega)
                                subst hT
                                refine lv_iadd hx hb dL_areStocks_37 ?_
                                refine lv_topi (fun x53 ex53 => ?_)
                                have tx53 : x53.toInt = r51.toInt + r52.toInt := kt_add ex53 (rfl : r51.toInt = r51.toInt) (rfl : r52.toInt = r52.toInt) (by omega) (by omega)
                                refine lv_iadd hx hb dL_areStocks_38 ?_
                                refine lv_topi (fun x54 ex54 => ?_)
                                have tx54 : x54.toInt = x31.toInt + x53.toInt := kt_add ex54 (rfl : x31.toInt = x31.toInt) (rfl : x53.toInt = x53.toInt) (by omega) (by omega)
                                refine lv_istore_n (lv' := [(3, .int x54), (5, .int 2), (4, .int 1), (0, .ref (z 0)), (1, .int un), (2, .ref rr)]) hx hb dL_areStocks_39 rfl hl (by decide) rfl (fun ls hl => ?_)
                                refine lv_iload hx hb dL_areStocks_40 (lv_at hl 2 rfl) ?_
                                refine lv_aload_n hx hb dL_areStocks_42 rfl (lv_at hl 3 rfl) ?_
                                refine lv_iload hx hb dL_areStocks_43 (lv_at hl 1 rfl) ?_
                                refine kcallhI (kSthW (n := 2) (As := [.ref (z 0), .int 2]) (rest := [.int 1]) F hE hNc hK hP hD hS hA (kh_stock l g e0 S _ (z 0) 2 _ _ hI.ob0 (c_X5_stock_x l hl0 g e0 z S _ hI av lv q hR h72 2) (fun E h => h.1)) kw_188 kw_189 kw_61 kw_190 (by decide +kernel) ⟨Nat.le_of_ble_eq_true rfl, Nat.le_of_ble_eq_true rfl⟩ rfl hl.1 rfl (Nat.le_of_ble_eq_true rfl) dL_areStocks_45 ⟨(by show 0 + 1 + 1 + 1 + 1 + 1 + 1 + 1 + 1 + 1 + 1 + 1 + 1 + 1 + 1 + 1 + 1 + 1 + 1 + 1 + 1 + 1 + 1 + 1 + 1 + 1 + 1 + 1 ≤ 45; omega), (by show 0 + 6 + 6 + 6 + 6 + 6 + 6 + 6 + 6 + 6 + 6 + 6 + 6 + 6 + 6 + 6 + 6 + 6 + 6 + 6 + 6 + 6 + 6 + 6 + 6 + 6 + 6 + 6 ≤ 270; omega)⟩) rfl hD hS hA (fun r55 T1 H locs hp hP hq1x hq2x hq3x hf1 hS => ?_)
                                clear hq1x hq2x hq3x
                                have hO := kO_keep hO hdis hf1
                                obtain ⟨hT, nr55⟩ := kp_A (i := 2) hp (by decide : (2 : Int32).toInt = ((2 : Nat) : Int)) (by omega) (by omega) (by omega)
                                subst hT
                                refine lv_if_lt (tgt := 123) hx hb dL_areStocks_48 (by decide) (fun c56 => ?_) (fun c56 => ?_)
                                · have d56 : r55.toInt < (0) := (kc_lt (rfl : r55.toInt = r55.toInt) (by decide : (0 : Int32).toInt = 0)).mp c56
                                  exfalso; omega
                                · have d56 : ¬ (r55.toInt < (0)) := mt (kc_lt (rfl : r55.toInt = r55.toInt) (by decide : (0 : Int32).toInt = 0)).mpr c56
                                  refine lv_aload_n hx hb dL_areStocks_51 rfl (lv_at hl 3 rfl) ?_
                                  refine lv_iload hx hb dL_areStocks_52 (lv_at hl 1 rfl) ?_
                                  refine kcallhI (kSthW (n := 2) (As := [.ref (z 0), .int 2]) (rest := [.int 1]) F hE hNc hK hP hD hS hA (kh_stock l g e0 S _ (z 0) 2 _ _ hI.ob0 (c_X5_stock_x l hl0 g e0 z S _ hI av lv q hR h72 2) (fun E h => h.1)) kw_188 kw_189 kw_61 kw_190 (by decide +kernel) ⟨Nat.le_of_ble_eq_true rfl, Nat.le_of_ble_eq_true rfl⟩ rfl hl.1 rfl (Nat.le_of_ble_eq_true rfl) dL_areStocks_54 ⟨(by show 0 + 1 + 1 + 1 + 1 + 1 + 1 + 1 + 1 + 1 + 1 + 1 + 1 + 1 + 1 + 1 + 1 + 1 + 1 + 1 + 1 + 1 + 1 + 1 + 1 + 1 + 1 + 1 + 1 ≤ 45; omega), (by show 0 + 6 + 6 + 6 + 6 + 6 + 6 + 6 + 6 + 6 + 6 + 6 + 6 + 6 + 6 + 6 + 6 + 6 + 6 + 6 + 6 + 6 + 6 + 6 + 6 + 6 + 6 + 6 + 6 ≤ 270; omega)⟩) rfl hD hS hA (fun r57 T1 H locs hp hP hq1x hq2x hq3x hf1 hS => ?_)
                                  clear hq1x hq2x hq3x
                                  have hO := kO_keep hO hdis hf1
                                  obtain ⟨hT, nr57⟩ := kp_A (i := 2) hp (by decide : (2 : Int32).toInt = ((2 : Nat) : Int)) (by omega) (by omega) (by omega)
                                  subst hT
                                  refine lv_aload_n hx hb dL_areStocks_57 rfl (lv_at hl 5 rfl) ?_
                                  refine lv_iload hx hb dL_areStocks_58 (lv_at hl 1 rfl) ?_
                                  refine rd_I F hK hO orr (by rw [lr]; exact kt_in (by decide : (2 : Int32).toInt = ((2 : Nat) : Int)) (by omega) (by decide)) dL_areStocks_60 ?_
                                  refine lv_topi (fun x58 ex58 => ?_)
                                  have nx58 : x58.toInt = ((q 11 2 : Nat) : Int) := kt_nI (by rw [ex58, kt_clamp (by decide : (2 : Int32).toInt = ((2 : Nat) : Int)) (by omega)]; exact (hra 2 (by omega)).2) (by omega)
                                  refine lv_icmp_gt (tgt := 123) hx hb dL_areStocks_61 (by decide) (fun c59 => ?_) (fun c59 => ?_)
                                  · have d59 : x58.toInt < r57.toInt := (kc_lt (rfl : x58.toInt = x58.toInt) (rfl : r57.toInt = r57.toInt)).mp c59
                                    exfalso; omega
                                  · have d59 : ¬ (x58.toInt < r57.toInt) := mt (kc_lt (rfl : x58.toInt = x58.toInt) (rfl : r57.toInt = r57.toInt)).mpr c59
                                    refine lv_aload_n hx hb dL_areStocks_64 rfl (lv_at hl 3 rfl) ?_
                                    refine lv_iload hx hb dL_areStocks_65 (lv_at hl 1 rfl) ?_
                                    refine kcallhI (kSthW (n := 2) (As := [.ref (z 0), .int 2]) (rest := [.int 1]) F hE hNc hK hP hD hS hA (kh_reserve l g e0 S _ (z 0) 2 _ _ hI.ob0 (c_X5_reserve_x l hl0 g e0 z S _ hI av lv q hR h72 2) (fun E h => h.1)) kw_220 kw_221 kw_61 kw_222 (by decide +kernel) ⟨Nat.le_of_ble_eq_true rfl, Nat.le_of_ble_eq_true rfl⟩ rfl hl.1 rfl (Nat.le_of_ble_eq_true rfl) dL_areStocks_67 ⟨(by show 0 + 1 + 1 + 1 + 1 + 1 + 1 + 1 + 1 + 1 + 1 + 1 + 1 + 1 + 1 + 1 + 1 + 1 + 1 + 1 + 1 + 1 + 1 + 1 + 1 + 1 + 1 + 1 + 1 + 1 ≤ 45; omega), (by show 0 + 6 + 6 + 6 + 6 + 6 + 6 + 6 + 6 + 6 + 6 + 6 + 6 + 6 + 6 + 6 + 6 + 6 + 6 + 6 + 6 + 6 + 6 + 6 + 6 + 6 + 6 + 6 + 6 + 6 ≤ 270; omega)⟩) rfl hD hS hA (fun r60 T1 H locs hp hP hq1x hq2x hq3x hf1 hS => ?_)
                                    clear hq1x hq2x hq3x
                                    have hO := kO_keep hO hdis hf1
                                    obtain ⟨hT, nr60⟩ := kp_A (i := 2) hp (by decide : (2 : Int32).toInt = ((2 : Nat) : Int)) (by omega) (by omega) (by omega)
                                    subst hT
                                    refine lv_if_lt (tgt := 123) hx hb dL_areStocks_70 (by decide) (fun c61 => ?_) (fun c61 => ?_)
                                    · have d61 : r60.toInt < (0) := (kc_lt (rfl : r60.toInt = r60.toInt) (by decide : (0 : Int32).toInt = 0)).mp c61
                                      exfalso; omega
                                    · have d61 : ¬ (r60.toInt < (0)) := mt (kc_lt (rfl : r60.toInt = r60.toInt) (by decide : (0 : Int32).toInt = 0)).mpr c61
                                      refine lv_aload_n hx hb dL_areStocks_73 rfl (lv_at hl 3 rfl) ?_
                                      refine lv_iload hx hb dL_areStocks_74 (lv_at hl 1 rfl) ?_
                                      refine kcallhI (kSthW (n := 2) (As := [.ref (z 0), .int 2]) (rest := [.int 1]) F hE hNc hK hP hD hS hA (kh_free l g e0 S _ (z 0) 2 _ _ hI.ob0 (c_X5_free_x l hl0 g e0 z S _ hI av lv q hR h72 hW.2.1 2) (fun E h => h.1)) kw_346 kw_347 kw_61 kw_348 (by decide +kernel) ⟨Nat.le_of_ble_eq_true rfl, Nat.le_of_ble_eq_true rfl⟩ rfl hl.1 rfl (Nat.le_of_ble_eq_true rfl) dL_areStocks_76 ⟨(by show 0 + 1 + 1 + 1 + 1 + 1 + 1 + 1 + 1 + 1 + 1 + 1 + 1 + 1 + 1 + 1 + 1 + 1 + 1 + 1 + 1 + 1 + 1 + 1 + 1 + 1 + 1 + 1 + 1 + 1 + 1 ≤ 45; omega), (by show 0 + 6 + 6 + 6 + 6 + 6 + 6 + 6 + 6 + 6 + 6 + 6 + 6 + 6 + 6 + 6 + 6 + 6 + 6 + 6 + 6 + 6 + 6 + 6 + 6 + 6 + 6 + 6 + 6 + 6 + 6 ≤ 270; omega)⟩) rfl hD hS hA (fun r62 T1 H locs hp hP hq1x hq2x hq3x hf1 hS => ?_)
                                      clear hq1x hq2x hq3x
                                      have hO := kO_keep hO hdis hf1
                                      obtain ⟨hT, nr62⟩ := kp_A (i := 2) hp (by decide : (2 : Int32).toInt = ((2 : Nat) : Int)) (by omega) (by omega) (by omega)
                                      subst hT
                                      refine lv_if_lt (tgt := 123) hx hb dL_areStocks_79 (by decide) (fun c63 => ?_) (fun c63 => ?_)
                                      · have d63 : r62.toInt < (0) := (kc_lt (rfl : r62.toInt = r62.toInt) (by decide : (0 : Int32).toInt = 0)).mp c63
                                        exfalso; omega
                                      · have d63 : ¬ (r62.toInt < (0)) := mt (kc_lt (rfl : r62.toInt = r62.toInt) (by decide : (0 : Int32).toInt = 0)).mpr c63
                                        refine lv_aload_n hx hb dL_areStocks_82 rfl (lv_at hl 3 rfl) ?_
                                        refine lv_iload hx hb dL_areStocks_83 (lv_at hl 1 rfl) ?_
                                        refine kcallhI (kSthW (n := 2) (As := [.ref (z 0), .int 2]) (rest := [.int 1]) F hE hNc hK hP hD hS hA (kh_free l g e0 S _ (z 0) 2 _ _ hI.ob0 (c_X5_free_x l hl0 g e0 z S _ hI av lv q hR h72 hW.2.1 2) (fun E h => h.1)) kw_346 kw_347 kw_61 kw_348 (by decide +kernel) ⟨Nat.le_of_ble_eq_true rfl, Nat.le_of_ble_eq_true rfl⟩ rfl hl.1 rfl (Nat.le_of_ble_eq_true rfl) dL_areStocks_85 ⟨(by show 0 + 1 + 1 + 1 + 1 + 1 + 1 + 1 + 1 + 1 + 1 + 1 + 1 + 1 + 1 + 1 + 1 + 1 + 1 + 1 + 1 + 1 + 1 + 1 + 1 + 1 + 1 + 1 + 1 + 1 + 1 + 1 ≤ 45; omega), (by show 0 + 6 + 6 + 6 + 6 + 6 + 6 + 6 + 6 + 6 + 6 + 6 + 6 + 6 + 6 + 6 + 6 + 6 + 6 + 6 + 6 + 6 + 6 + 6 + 6 + 6 + 6 + 6 + 6 + 6 + 6 + 6 ≤ 270; omega)⟩) rfl hD hS hA (fun r64 T1 H locs hp hP hq1x hq2x hq3x hf1 hS => ?_)
                                        clear hq1x hq2x hq3x
                                        have hO := kO_keep hO hdis hf1
                                        obtain ⟨hT, nr64⟩ := kp_A (i := 2) hp (by decide : (2 : Int32).toInt = ((2 : Nat) : Int)) (by omega) (by omega) (by omega)
                                        subst hT
                                        refine lv_aload_n hx hb dL_areStocks_88 rfl (lv_at hl 3 rfl) ?_
                                        refine lv_iload hx hb dL_areStocks_89 (lv_at hl 1 rfl) ?_
                                        refine kcallhI (kSthW (n := 2) (As := [.ref (z 0), .int 2]) (rest := [.int r64, .int 1]) F hE hNc hK hP hD hS hA (kh_stock l g e0 S _ (z 0) 2 _ _ hI.ob0 (c_X5_stock_x l hl0 g e0 z S _ hI av lv q hR h72 2) (fun E h => h.1)) kw_188 kw_189 kw_61 kw_190 (by decide +kernel) ⟨Nat.le_of_ble_eq_true rfl, Nat.le_of_ble_eq_true rfl⟩ rfl hl.1 rfl (Nat.le_of_ble_eq_true rfl) dL_areStocks_91 ⟨(by show 0 + 1 + 1 + 1 + 1 + 1 + 1 + 1 + 1 + 1 + 1 + 1 + 1 + 1 + 1 + 1 + 1 + 1 + 1 + 1 + 1 + 1 + 1 + 1 + 1 + 1 + 1 + 1 + 1 + 1 + 1 + 1 + 1 ≤ 45; omega), (by show 0 + 6 + 6 + 6 + 6 + 6 + 6 + 6 + 6 + 6 + 6 + 6 + 6 + 6 + 6 + 6 + 6 + 6 + 6 + 6 + 6 + 6 + 6 + 6 + 6 + 6 + 6 + 6 + 6 + 6 + 6 + 6 + 6 ≤ 270; omega)⟩) rfl hD hS hA (fun r65 T1 H locs hp hP hq1x hq2x hq3x hf1 hS => ?_)
                                        clear hq1x hq2x hq3x
                                        have hO := kO_keep hO hdis hf1
                                        obtain ⟨hT, nr65⟩ := kp_A (i := 2) hp (by decide : (2 : Int32).toInt = ((2 : Nat) : Int)) (by omega) (by omega) (by omega)
                                        subst hT
                                        refine lv_aload_n hx hb dL_areStocks_94 rfl (lv_at hl 3 rfl) ?_
                                        refine lv_iload hx hb dL_areStocks_95 (lv_at hl 1 rfl) ?_
                                        refine kcallhI (kSthW (n := 2) (As := [.ref (z 0), .int 2]) (rest := [.int r65, .int r64, .int 1]) F hE hNc hK hP hD hS hA (kh_promised l g e0 S _ (z 0) 2 _ _ hI.ob0 (c_X5_promised_x l hl0 g e0 z S _ hI av lv q hR h72 2) (fun E h => h.1)) kw_228 kw_229 kw_61 kw_230 (by decide +kernel) ⟨Nat.le_of_ble_eq_true rfl, Nat.le_of_ble_eq_true rfl⟩ rfl hl.1 rfl (Nat.le_of_ble_eq_true rfl) dL_areStocks_97 ⟨(by show 0 + 1 + 1 + 1 + 1 + 1 + 1 + 1 + 1 + 1 + 1 + 1 + 1 + 1 + 1 + 1 + 1 + 1 + 1 + 1 + 1 + 1 + 1 + 1 + 1 + 1 + 1 + 1 + 1 + 1 + 1 + 1 + 1 + 1 ≤ 45; omega), (by show 0 + 6 + 6 + 6 + 6 + 6 + 6 + 6 + 6 + 6 + 6 + 6 + 6 + 6 + 6 + 6 + 6 + 6 + 6 + 6 + 6 + 6 + 6 + 6 + 6 + 6 + 6 + 6 + 6 + 6 + 6 + 6 + 6 + 6 ≤ 270; omega)⟩) rfl hD hS hA (fun r66 T1 H locs hp hP hq1x hq2x hq3x hf1 hS => ?_)
                                        clear hq1x hq2x hq3x
                                        have hO := kO_keep hO hdis hf1
                                        obtain ⟨hT, nr66⟩ := kp_A (i := 2) hp (by decide : (2 : Int32).toInt = ((2 : Nat) : Int)) (by omega) (by omega) (by omega)
                                        subst hT
                                        refine lv_isub hx hb dL_areStocks_100 ?_
                                        refine lv_topi (fun x67 ex67 => ?_)
                                        have tx67 : x67.toInt = r65.toInt - r66.toInt := kt_sub ex67 (rfl : r65.toInt = r65.toInt) (rfl : r66.toInt = r66.toInt) (by omega) (by omega)
                                        refine lv_icmp_ne (tgt := 123) hx hb dL_areStocks_101 (by decide) (fun c68 => ?_) (fun c68 => ?_)
                                        · have d68 : r64.toInt ≠ x67.toInt := mt (kc_eq (rfl : r64.toInt = r64.toInt) (rfl : x67.toInt = x67.toInt)).mpr c68
                                          exfalso; omega
                                        · have d68 : r64.toInt = x67.toInt := (kc_eq (rfl : r64.toInt = r64.toInt) (rfl : x67.toInt = x67.toInt)).mp c68
                                          refine lv_aload_n hx hb dL_areStocks_104 rfl (lv_at hl 3 rfl) ?_
                                          refine lv_iload hx hb dL_areStocks_105 (lv_at hl 1 rfl) ?_
                                          refine kcallhI (kSthW (n := 2) (As := [.ref (z 0), .int 2]) (rest := [.int 1]) F hE hNc hK hP hD hS hA (kh_promised l g e0 S _ (z 0) 2 _ _ hI.ob0 (c_X5_promised_x l hl0 g e0 z S _ hI av lv q hR h72 2) (fun E h => h.1)) kw_228 kw_229 kw_61 kw_230 (by decide +kernel) ⟨Nat.le_of_ble_eq_true rfl, Nat.le_of_ble_eq_true rfl⟩ rfl hl.1 rfl (Nat.le_of_ble_eq_true rfl) dL_areStocks_107 ⟨(by show 0 + 1 + 1 + 1 + 1 + 1 + 1 + 1 + 1 + 1 + 1 + 1 + 1 + 1 + 1 + 1 + 1 + 1 + 1 + 1 + 1 + 1 + 1 + 1 + 1 + 1 + 1 + 1 + 1 + 1 + 1 + 1 + 1 + 1 + 1 ≤ 45; omega), (by show 0 + 6 + 6 + 6 + 6 + 6 + 6 + 6 + 6 + 6 + 6 + 6 + 6 + 6 + 6 + 6 + 6 + 6 + 6 + 6 + 6 + 6 + 6 + 6 + 6 + 6 + 6 + 6 + 6 + 6 + 6 + 6 + 6 + 6 + 6 ≤ 270; omega)⟩) rfl hD hS hA (fun r69 T1 H locs hp hP hq1x hq2x hq3x hf1 hS => ?_)
                                          clear hq1x hq2x hq3x
                                          have hO := kO_keep hO hdis hf1
                                          obtain ⟨hT, nr69⟩ := kp_A (i := 2) hp (by decide : (2 : Int32).toInt = ((2 : Nat) : Int)) (by omega) (by omega) (by omega)
                                          subst hT
                                          refine lv_aload_n hx hb dL_areStocks_110 rfl (lv_at hl 3 rfl) ?_
                                          refine lv_iload hx hb dL_areStocks_111 (lv_at hl 1 rfl) ?_
                                          refine kcallhI (kSthW (n := 2) (As := [.ref (z 0), .int 2]) (rest := [.int r69, .int 1]) F hE hNc hK hP hD hS hA (kh_promisedByScans l g e0 S _ (z 0) 2 _ _ hI.ob0 (c_X5_promisedByScans_x l hl0 g e0 z S _ hI av lv q hR hW.1 2) (fun E h => h.1)) kw_488 kw_489 kw_61 kw_490 (by decide +kernel) ⟨Nat.le_of_ble_eq_true rfl, Nat.le_of_ble_eq_true rfl⟩ rfl hl.1 rfl (Nat.le_of_ble_eq_true rfl) dL_areStocks_113 ⟨(by show 0 + 1 + 1 + 1 + 1 + 1 + 1 + 1 + 1 + 1 + 1 + 1 + 1 + 1 + 1 + 1 + 1 + 1 + 1 + 1 + 1 + 1 + 1 + 1 + 1 + 1 + 1 + 1 + 1 + 1 + 1 + 1 + 1 + 1 + 1 + 1 ≤ 45; omega), (by show 0 + 6 + 6 + 6 + 6 + 6 + 6 + 6 + 6 + 6 + 6 + 6 + 6 + 6 + 6 + 6 + 6 + 6 + 6 + 6 + 6 + 6 + 6 + 6 + 6 + 6 + 6 + 6 + 6 + 6 + 6 + 6 + 6 + 6 + 6 + 6 ≤ 270; omega)⟩) rfl hD hS hA (fun r70 T1 H locs hp hP hq1x hq2x hq3x hf1 hS => ?_)
                                          clear hq1x hq2x hq3x
                                          have hO := kO_keep hO hdis hf1
                                          obtain ⟨hT, nr70⟩ := kp_A (i := 2) hp (by decide : (2 : Int32).toInt = ((2 : Nat) : Int)) (by omega) (by omega) (by omega)
                                          subst hT
                                          refine lv_icmp_ne (tgt := 123) hx hb dL_areStocks_116 (by decide) (fun c71 => ?_) (fun c71 => ?_)
                                          · have d71 : r69.toInt ≠ r70.toInt := mt (kc_eq (rfl : r69.toInt = r69.toInt) (rfl : r70.toInt = r70.toInt)).mpr c71
                                            exfalso; omega
                                          · have d71 : r69.toInt = r70.toInt := (kc_eq (rfl : r69.toInt = r69.toInt) (rfl : r70.toInt = r70.toInt)).mp c71
                                            refine lv_iconst (v := 1) hx hb dL_areStocks_119 (by decide) ?_
                                            refine lv_goto (tgt := 124) hx hb dL_areStocks_120 (by decide) ?_
                                            refine lv_iand hx hb dL_areStocks_124 ?_
                                            refine lv_topi (fun x72 e72 => ?_)
                                            obtain rfl : x72 = 1 := e72.trans (by decide)
                                            refine lv_istore (lv' := [(4, .int 1), (3, .int x54), (5, .int 2), (0, .ref (z 0)), (1, .int un), (2, .ref rr)]) hx hb dL_areStocks_125 hl (by decide) rfl (fun ls hl => ?_)
                                            refine lv_iinc (v := 3) (lv' := [(5, .int 3), (4, .int 1), (3, .int x54), (0, .ref (z 0)), (1, .int un), (2, .ref rr)]) hx hb dL_areStocks_127 hl (k := 2) rfl (by decide) (by decide) rfl (fun ls hl => ?_)
                                            refine lv_goto (tgt := 18) hx hb dL_areStocks_130 (by decide) ?_
                                            refine lv_iload hx hb dL_areStocks_18 (lv_at hl 0 rfl) ?_
                                            refine lv_iconst (v := 3) hx hb dL_areStocks_20 (by decide) ?_
                                            refine lv_icmp_ge (tgt := 133) hx hb dL_areStocks_21 (by decide) (fun c73 => ?_) (fun c73 => ?_)
                                            · refine lv_iconst (v := 0) hx hb dL_areStocks_133 (by decide) ?_
                                              refine lv_istore (lv' := [(5, .int 0), (4, .int 1), (3, .int x54), (0, .ref (z 0)), (1, .int un), (2, .ref rr)]) hx hb dL_areStocks_134 hl (by decide) rfl (fun ls hl => ?_)
                                              refine lv_iload hx hb dL_areStocks_136 (lv_at hl 0 rfl) ?_
                                              refine lv_iconst (v := 2) hx hb dL_areStocks_138 (by decide) ?_
                                              refine lv_icmp_ge (tgt := 220) hx hb dL_areStocks_139 (by decide) (fun c74 => ?_) (fun c74 => ?_)
                                              · exact absurd c74 (by decide)
                                              · rcases w70 with ⟨i1, i2, i3⟩ | ⟨o1, o2, o3, o4, o5⟩
                                                · refine lv_iload hx hb dL_areStocks_142 (lv_at hl 1 rfl) ?_
                                                  refine lv_aload_n hx hb dL_areStocks_144 rfl (lv_at hl 3 rfl) ?_
                                                  refine lv_iload hx hb dL_areStocks_145 (lv_at hl 0 rfl) ?_
                                                  refine kcallhI (kSthW (n := 2) (As := [.ref (z 0), .int 0]) (rest := [.int 1]) F hE hNc hK hP hD hS hA (kh_carried l g e0 S _ (z 0) 0 _ _ hI.ob0 (c_X5_carried l hl0 g e0 z S _ hI 0) (fun E h => h.1)) kw_236 kw_237 kw_61 kw_238 (by decide +kernel) ⟨Nat.le_of_ble_eq_true rfl, Nat.le_of_ble_eq_true rfl⟩ rfl hl.1 rfl (Nat.le_of_ble_eq_true rfl) dL_areStocks_147 ⟨(by show 0 + 1 + 1 + 1 + 1 + 1 + 1 + 1 + 1 + 1 + 1 + 1 + 1 + 1 + 1 + 1 + 1 + 1 + 1 + 1 + 1 + 1 + 1 + 1 + 1 + 1 + 1 + 1 + 1 + 1 + 1 + 1 + 1 + 1 + 1 + 1 + 1 ≤ 45; omega), (by show 0 + 6 + 6 + 6 + 6 + 6 + 6 + 6 + 6 + 6 + 6 + 6 + 6 + 6 + 6 + 6 + 6 + 6 + 6 + 6 + 6 + 6 + 6 + 6 + 6 + 6 + 6 + 6 + 6 + 6 + 6 + 6 + 6 + 6 + 6 + 6 + 6 ≤ 270; omega)⟩) rfl hD hS hA (fun r75 T1 H locs hp hP hq1x hq2x hq3x hf1 hS => ?_)
                                                  clear hq1x hq2x hq3x
                                                  have hO := kO_keep hO hdis hf1
                                                  obtain ⟨hT, nr75⟩ := kp_R (i := 0) (f := fun j => q 31 j) hp (by decide : (0 : Int32).toInt = ((0 : Nat) : Int)) (by omega) (fun j hj => (hR.2.2.2.2.2.1 j hj).2 31 (by decide)) (show q 31 0 < 2 ^ 31 by omega)
                                                  subst hT
                                                  obtain rfl : r75 = 0 := kt_lit (A := 0) (by omega) (by decide)
                                                  refine lv_if_le (tgt := 157) hx hb dL_areStocks_150 (by decide) (fun c76 => ?_) (fun c76 => ?_)
                                                  · refine lv_iconst (v := 0) hx hb dL_areStocks_157 (by decide) ?_
                                                    refine lv_aload_n hx hb dL_areStocks_158 rfl (lv_at hl 3 rfl) ?_
                                                    refine lv_iload hx hb dL_areStocks_159 (lv_at hl 0 rfl) ?_
                                                    refine kcallhI (kSthW (n := 2) (As := [.ref (z 0), .int 0]) (rest := [.int 0, .int 1]) F hE hNc hK hP hD hS hA (kh_minutesOf l g e0 S _ (z 0) 0 _ _ hI.ob0 (c_X5_minutesOf l hl0 g e0 z S _ hI 0) (fun E h => h.1)) kw_248 kw_249 kw_61 kw_250 (by decide +kernel) ⟨Nat.le_of_ble_eq_true rfl, Nat.le_of_ble_eq_true rfl⟩ rfl hl.1 rfl (Nat.le_of_ble_eq_true rfl) dL_areStocks_161 ⟨(by show 0 + 1 + 1 + 1 + 1 + 1 + 1 + 1 + 1 + 1 + 1 + 1 + 1 + 1 + 1 + 1 + 1 + 1 + 1 + 1 + 1 + 1 + 1 + 1 + 1 + 1 + 1 + 1 + 1 + 1 + 1 + 1 + 1 + 1 + 1 + 1 + 1 + 1 ≤ 45; omega), (by show 0 + 6 + 6 + 6 + 6 + 6 + 6 + 6 + 6 + 6 + 6 + 6 + 6 + 6 + 6 + 6 + 6 + 6 + 6 + 6 + 6 + 6 + 6 + 6 + 6 + 6 + 6 + 6 + 6 + 6 + 6 + 6 + 6 + 6 + 6 + 6 + 6 + 6 ≤ 270; omega)⟩) rfl hD hS hA (fun r77 T1 H locs hp hP hq1x hq2x hq3x hf1 hS => ?_)
                                                    clear hq1x hq2x hq3x
                                                    have hO := kO_keep hO hdis hf1
                                                    obtain ⟨hT, nr77⟩ := kp_R (i := 0) (f := fun j => q 32 j) hp (by decide : (0 : Int32).toInt = ((0 : Nat) : Int)) (by omega) (fun j hj => (hR.2.2.2.2.2.1 j hj).2 32 (by decide)) (show q 32 0 < 2 ^ 31 by omega)
                                                    subst hT
                                                    obtain rfl : r77 = 0 := kt_lit (A := 0) (by omega) (by decide)
                                                    refine lv_if_le (tgt := 171) hx hb dL_areStocks_164 (by decide) (fun c78 => ?_) (fun c78 => ?_)
                                                    · refine lv_iconst (v := 0) hx hb dL_areStocks_171 (by decide) ?_
                                                      refine lv_icmp_ne (tgt := 210) hx hb dL_areStocks_172 (by decide) (fun c79 => ?_) (fun c79 => ?_)
                                                      · exact absurd c79 (by decide)
                                                      · refine lv_aload_n hx hb dL_areStocks_175 rfl (lv_at hl 3 rfl) ?_
                                                        refine lv_iload hx hb dL_areStocks_176 (lv_at hl 0 rfl) ?_
                                                        refine kcallhI (kSthW (n := 2) (As := [.ref (z 0), .int 0]) (rest := [.int 1]) F hE hNc hK hP hD hS hA (kh_carried l g e0 S _ (z 0) 0 _ _ hI.ob0 (c_X5_carried l hl0 g e0 z S _ hI 0) (fun E h => h.1)) kw_236 kw_237 kw_61 kw_238 (by decide +kernel) ⟨Nat.le_of_ble_eq_true rfl, Nat.le_of_ble_eq_true rfl⟩ rfl hl.1 rfl (Nat.le_of_ble_eq_true rfl) dL_areStocks_178 ⟨(by show 0 + 1 + 1 + 1 + 1 + 1 + 1 + 1 + 1 + 1 + 1 + 1 + 1 + 1 + 1 + 1 + 1 + 1 + 1 + 1 + 1 + 1 + 1 + 1 + 1 + 1 + 1 + 1 + 1 + 1 + 1 + 1 + 1 + 1 + 1 + 1 + 1 + 1 + 1 ≤ 45; omega), (by show 0 + 6 + 6 + 6 + 6 + 6 + 6 + 6 + 6 + 6 + 6 + 6 + 6 + 6 + 6 + 6 + 6 + 6 + 6 + 6 + 6 + 6 + 6 + 6 + 6 + 6 + 6 + 6 + 6 + 6 + 6 + 6 + 6 + 6 + 6 + 6 + 6 + 6 + 6 ≤ 270; omega)⟩) rfl hD hS hA (fun r80 T1 H locs hp hP hq1x hq2x hq3x hf1 hS => ?_)
                                                        clear hq1x hq2x hq3x
                                                        have hO := kO_keep hO hdis hf1
                                                        obtain ⟨hT, nr80⟩ := kp_R (i := 0) (f := fun j => q 31 j) hp (by decide : (0 : Int32).toInt = ((0 : Nat) : Int)) (by omega) (fun j hj => (hR.2.2.2.2.2.1 j hj).2 31 (by decide)) (show q 31 0 < 2 ^ 31 by omega)
                                                        subst hT
                                                        obtain rfl : r80 = 0 := kt_lit (A := 0) (by omega) (by decide)
                                                        refine lv_if_le (tgt := 188) hx hb dL_areStocks_181 (by decide) (fun c81 => ?_) (fun c81 => ?_)
                                                        · refine lv_iconst (v := 0) hx hb dL_areStocks_188 (by decide) ?_
                                                          refine lv_aload_n hx hb dL_areStocks_189 rfl (lv_at hl 3 rfl) ?_
                                                          refine lv_iload hx hb dL_areStocks_190 (lv_at hl 0 rfl) ?_
                                                          refine kcallhI (kSthW (n := 2) (As := [.ref (z 0), .int 0]) (rest := [.int 0, .int 1]) F hE hNc hK hP hD hS hA (kh_aisleOf l g e0 S _ (z 0) 0 _ _ hI.ob0 (c_X5_aisleOf_x l hl0 g e0 z S _ hI av lv q hR hW.1 0) (fun E h => h.imp And.left And.left)) kw_467 kw_468 kw_61 kw_469 (by decide +kernel) ⟨Nat.le_of_ble_eq_true rfl, Nat.le_of_ble_eq_true rfl⟩ rfl hl.1 rfl (Nat.le_of_ble_eq_true rfl) dL_areStocks_192 ⟨(by show 0 + 1 + 1 + 1 + 1 + 1 + 1 + 1 + 1 + 1 + 1 + 1 + 1 + 1 + 1 + 1 + 1 + 1 + 1 + 1 + 1 + 1 + 1 + 1 + 1 + 1 + 1 + 1 + 1 + 1 + 1 + 1 + 1 + 1 + 1 + 1 + 1 + 1 + 1 + 2 ≤ 45; omega), (by show 0 + 6 + 6 + 6 + 6 + 6 + 6 + 6 + 6 + 6 + 6 + 6 + 6 + 6 + 6 + 6 + 6 + 6 + 6 + 6 + 6 + 6 + 6 + 6 + 6 + 6 + 6 + 6 + 6 + 6 + 6 + 6 + 6 + 6 + 6 + 6 + 6 + 6 + 6 + 12 ≤ 270; omega)⟩) rfl hD hS hA (fun r82 T1 H locs hp hP hq1x hq2x hq3x hf1 hS => ?_)
                                                          clear hq1x hq2x hq3x
                                                          have hO := kO_keep hO hdis hf1
                                                          obtain ⟨hT, ar82, br82⟩ := kp_I (i := 0) (k := fun j => q 30 j) (f := fun j => q 0 (q 10 (q 30 j - 1))) hp (by decide : (0 : Int32).toInt = ((0 : Nat) : Int)) (by omega) (fun h9 => (by have h9 : q 30 0 ≠ 0 := h9; show q 0 (q 10 (q 30 0 - 1)) < 2 ^ 31; have h8 := hW.1.1.2.2.2 (q 30 0 - 1) (by omega); rw [hL.2.1 _ h8]; omega))
                                                          subst hT
                                                          obtain rfl : r82 = (-75) := kt_lit (A := -75) (by omega) (by decide)
                                                          refine lv_if_lt (tgt := 202) hx hb dL_areStocks_195 (by decide) (fun c83 => ?_) (fun c83 => ?_)
                                                          · refine lv_iconst (v := 0) hx hb dL_areStocks_202 (by decide) ?_
                                                            refine lv_icmp_ne (tgt := 210) hx hb dL_areStocks_203 (by decide) (fun c84 => ?_) (fun c84 => ?_)
                                                            · exact absurd c84 (by decide)
                                                            · refine lv_iconst (v := 1) hx hb dL_areStocks_206 (by decide) ?_
                                                              refine lv_goto (tgt := 211) hx hb dL_areStocks_207 (by decide) ?_
                                                              refine lv_iand hx hb dL_areStocks_211 ?_
                                                              refine lv_topi (fun x85 e85 => ?_)
                                                              obtain rfl : x85 = 1 := e85.trans (by decide)
                                                              refine lv_istore (lv' := [(4, .int 1), (5, .int 0), (3, .int x54), (0, .ref (z 0)), (1, .int un), (2, .ref rr)]) hx hb dL_areStocks_212 hl (by decide) rfl (fun ls hl => ?_)
                                                              refine lv_iinc (v := 1) (lv' := [(5, .int 1), (4, .int 1), (3, .int x54), (0, .ref (z 0)), (1, .int un), (2, .ref rr)]) hx hb dL_areStocks_214 hl (k := 1) rfl (by decide) (by decide) rfl (fun ls hl => ?_)
                                                              refine lv_goto (tgt := 136) hx hb dL_areStocks_217 (by decide) ?_
                                                              refine lv_iload hx hb dL_areStocks_136 (lv_at hl 0 rfl) ?_
                                                              refine lv_iconst (v := 2) hx hb dL_areStocks_138 (by decide) ?_
                                                              refine lv_icmp_ge (tgt := 220) hx hb dL_areStocks_139 (by decide) (fun c86 => ?_) (fun c86 => ?_)
                                                              · exact absurd c86 (by decide)
                                                              · rcases w71 with ⟨i1, i2, i3⟩ | ⟨o1, o2, o3, o4, o5⟩
                                                                · refine lv_iload hx hb dL_areStocks_142 (lv_at hl 1 rfl) ?_
                                                                  refine lv_aload_n hx hb dL_areStocks_144 rfl (lv_at hl 3 rfl) ?_
                                                                  refine lv_iload hx hb dL_areStocks_145 (lv_at hl 0 rfl) ?_
                                                                  refine kcallhI (kSthW (n := 2) (As := [.ref (z 0), .int 1]) (rest := [.int 1]) F hE hNc hK hP hD hS hA (kh_carried l g e0 S _ (z 0) 1 _ _ hI.ob0 (c_X5_carried l hl0 g e0 z S _ hI 1) (fun E h => h.1)) kw_236 kw_237 kw_61 kw_238 (by decide +kernel) ⟨Nat.le_of_ble_eq_true rfl, Nat.le_of_ble_eq_true rfl⟩ rfl hl.1 rfl (Nat.le_of_ble_eq_true rfl) dL_areStocks_147 ⟨(by show 0 + 1 + 1 + 1 + 1 + 1 + 1 + 1 + 1 + 1 + 1 + 1 + 1 + 1 + 1 + 1 + 1 + 1 + 1 + 1 + 1 + 1 + 1 + 1 + 1 + 1 + 1 + 1 + 1 + 1 + 1 + 1 + 1 + 1 + 1 + 1 + 1 + 1 + 1 + 2 + 1 ≤ 45; omega), (by show 0 + 6 + 6 + 6 + 6 + 6 + 6 + 6 + 6 + 6 + 6 + 6 + 6 + 6 + 6 + 6 + 6 + 6 + 6 + 6 + 6 + 6 + 6 + 6 + 6 + 6 + 6 + 6 + 6 + 6 + 6 + 6 + 6 + 6 + 6 + 6 + 6 + 6 + 6 + 12 + 6 ≤ 270; omega)⟩) rfl hD hS hA (fun r87 T1 H locs hp hP hq1x hq2x hq3x hf1 hS => ?_)
                                                                  clear hq1x hq2x hq3x
                                                                  have hO := kO_keep hO hdis hf1
                                                                  obtain ⟨hT, nr87⟩ := kp_R (i := 1) (f := fun j => q 31 j) hp (by decide : (1 : Int32).toInt = ((1 : Nat) : Int)) (by omega) (fun j hj => (hR.2.2.2.2.2.1 j hj).2 31 (by decide)) (show q 31 1 < 2 ^ 31 by omega)
                                                                  subst hT
                                                                  obtain rfl : r87 = 0 := kt_lit (A := 0) (by omega) (by decide)
                                                                  refine lv_if_le (tgt := 157) hx hb dL_areStocks_150 (by decide) (fun c88 => ?_) (fun c88 => ?_)
                                                                  · refine lv_iconst (v := 0) hx hb dL_areStocks_157 (by decide) ?_
                                                                    refine lv_aload_n hx hb dL_areStocks_158 rfl (lv_at hl 3 rfl) ?_
                                                                    refine lv_iload hx hb dL_areStocks_159 (lv_at hl 0 rfl) ?_
                                                                    refine kcallhI (kSthW (n := 2) (As := [.ref (z 0), .int 1]) (rest := [.int 0, .int 1]) F hE hNc hK hP hD hS hA (kh_minutesOf l g e0 S _ (z 0) 1 _ _ hI.ob0 (c_X5_minutesOf l hl0 g e0 z S _ hI 1) (fun E h => h.1)) kw_248 kw_249 kw_61 kw_250 (by decide +kernel) ⟨Nat.le_of_ble_eq_true rfl, Nat.le_of_ble_eq_true rfl⟩ rfl hl.1 rfl (Nat.le_of_ble_eq_true rfl) dL_areStocks_161 ⟨(by show 0 + 1 + 1 + 1 + 1 + 1 + 1 + 1 + 1 + 1 + 1 + 1 + 1 + 1 + 1 + 1 + 1 + 1 + 1 + 1 + 1 + 1 + 1 + 1 + 1 + 1 + 1 + 1 + 1 + 1 + 1 + 1 + 1 + 1 + 1 + 1 + 1 + 1 + 1 + 2 + 1 + 1 ≤ 45; omega), (by show 0 + 6 + 6 + 6 + 6 + 6 + 6 + 6 + 6 + 6 + 6 + 6 + 6 + 6 + 6 + 6 + 6 + 6 + 6 + 6 + 6 + 6 + 6 + 6 + 6 + 6 + 6 + 6 + 6 + 6 + 6 + 6 + 6 + 6 + 6 + 6 + 6 + 6 + 6 + 12 + 6 + 6 ≤ 270; omega)⟩) rfl hD hS hA (fun r89 T1 H locs hp hP hq1x hq2x hq3x hf1 hS => ?_)
                                                                    clear hq1x hq2x hq3x
                                                                    have hO := kO_keep hO hdis hf1
                                                                    obtain ⟨hT, nr89⟩ := kp_R (i := 1) (f := fun j => q 32 j) hp (by decide : (1 : Int32).toInt = ((1 : Nat) : Int)) (by omega) (fun j hj => (hR.2.2.2.2.2.1 j hj).2 32 (by decide)) (show q 32 1 < 2 ^ 31 by omega)
                                                                    subst hT
                                                                    obtain rfl : r89 = 0 := kt_lit (A := 0) (by omega) (by decide)
                                                                    refine lv_if_le (tgt := 171) hx hb dL_areStocks_164 (by decide) (fun c90 => ?_) (fun c90 => ?_)
                                                                    · refine lv_iconst (v := 0) hx hb dL_areStocks_171 (by decide) ?_
                                                                      refine lv_icmp_ne (tgt := 210) hx hb dL_areStocks_172 (by decide) (fun c91 => ?_) (fun c91 => ?_)
                                                                      · exact absurd c91 (by decide)
                                                                      · refine lv_aload_n hx hb dL_areStocks_175 rfl (lv_at hl 3 rfl) ?_
                                                                        refine lv_iload hx hb dL_areStocks_176 (lv_at hl 0 rfl) ?_
                                                                        refine kcallhI (kSthW (n := 2) (As := [.ref (z 0), .int 1]) (rest := [.int 1]) F hE hNc hK hP hD hS hA (kh_carried l g e0 S _ (z 0) 1 _ _ hI.ob0 (c_X5_carried l hl0 g e0 z S _ hI 1) (fun E h => h.1)) kw_236 kw_237 kw_61 kw_238 (by decide +kernel) ⟨Nat.le_of_ble_eq_true rfl, Nat.le_of_ble_eq_true rfl⟩ rfl hl.1 rfl (Nat.le_of_ble_eq_true rfl) dL_areStocks_178 ⟨(by show 0 + 1 + 1 + 1 + 1 + 1 + 1 + 1 + 1 + 1 + 1 + 1 + 1 + 1 + 1 + 1 + 1 + 1 + 1 + 1 + 1 + 1 + 1 + 1 + 1 + 1 + 1 + 1 + 1 + 1 + 1 + 1 + 1 + 1 + 1 + 1 + 1 + 1 + 1 + 2 + 1 + 1 + 1 ≤ 45; omega), (by show 0 + 6 + 6 + 6 + 6 + 6 + 6 + 6 + 6 + 6 + 6 + 6 + 6 + 6 + 6 + 6 + 6 + 6 + 6 + 6 + 6 + 6 + 6 + 6 + 6 + 6 + 6 + 6 + 6 + 6 + 6 + 6 + 6 + 6 + 6 + 6 + 6 + 6 + 6 + 12 + 6 + 6 + 6 ≤ 270; omega)⟩) rfl hD hS hA (fun r92 T1 H locs hp hP hq1x hq2x hq3x hf1 hS => ?_)
                                                                        clear hq1x hq2x hq3x
                                                                        have hO := kO_keep hO hdis hf1
                                                                        obtain ⟨hT, nr92⟩ := kp_R (i := 1) (f := fun j => q 31 j) hp (by decide : (1 : Int32).toInt = ((1 : Nat) : Int)) (by omega) (fun j hj => (hR.2.2.2.2.2.1 j hj).2 31 (by decide)) (show q 31 1 < 2 ^ 31 by omega)
                                                                        subst hT
                                                                        obtain rfl : r92 = 0 := kt_lit (A := 0) (by omega) (by decide)
                                                                        refine lv_if_le (tgt := 188) hx hb dL_areStocks_181 (by decide) (fun c93 => ?_) (fun c93 => ?_)
                                                                        · refine lv_iconst (v := 0) hx hb dL_areStocks_188 (by decide) ?_
                                                                          refine lv_aload_n hx hb dL_areStocks_189 rfl (lv_at hl 3 rfl) ?_
                                                                          refine lv_iload hx hb dL_areStocks_190 (lv_at hl 0 rfl) ?_
                                                                          refine kcallhI (kSthW (n := 2) (As := [.ref (z 0), .int 1]) (rest := [.int 0, .int 1]) F hE hNc hK hP hD hS hA (kh_aisleOf l g e0 S _ (z 0) 1 _ _ hI.ob0 (c_X5_aisleOf_x l hl0 g e0 z S _ hI av lv q hR hW.1 1) (fun E h => h.imp And.left And.left)) kw_467 kw_468 kw_61 kw_469 (by decide +kernel) ⟨Nat.le_of_ble_eq_true rfl, Nat.le_of_ble_eq_true rfl⟩ rfl hl.1 rfl (Nat.le_of_ble_eq_true rfl) dL_areStocks_192 ⟨(by show 0 + 1 + 1 + 1 + 1 + 1 + 1 + 1 + 1 + 1 + 1 + 1 + 1 + 1 + 1 + 1 + 1 + 1 + 1 + 1 + 1 + 1 + 1 + 1 + 1 + 1 + 1 + 1 + 1 + 1 + 1 + 1 + 1 + 1 + 1 + 1 + 1 + 1 + 1 + 2 + 1 + 1 + 1 + 2 ≤ 45; omega), (by show 0 + 6 + 6 + 6 + 6 + 6 + 6 + 6 + 6 + 6 + 6 + 6 + 6 + 6 + 6 + 6 + 6 + 6 + 6 + 6 + 6 + 6 + 6 + 6 + 6 + 6 + 6 + 6 + 6 + 6 + 6 + 6 + 6 + 6 + 6 + 6 + 6 + 6 + 6 + 12 + 6 + 6 + 6 + 12 ≤ 270; omega)⟩) rfl hD hS hA (fun r94 T1 H locs hp hP hq1x hq2x hq3x hf1 hS => ?_)
                                                                          clear hq1x hq2x hq3x
                                                                          have hO := kO_keep hO hdis hf1
                                                                          obtain ⟨hT, ar94, br94⟩ := kp_I (i := 1) (k := fun j => q 30 j) (f := fun j => q 0 (q 10 (q 30 j - 1))) hp (by decide : (1 : Int32).toInt = ((1 : Nat) : Int)) (by omega) (fun h9 => (by have h9 : q 30 1 ≠ 0 := h9; show q 0 (q 10 (q 30 1 - 1)) < 2 ^ 31; have h8 := hW.1.1.2.2.2 (q 30 1 - 1) (by omega); rw [hL.2.1 _ h8]; omega))
                                                                          subst hT
                                                                          obtain rfl : r94 = (-75) := kt_lit (A := -75) (by omega) (by decide)
                                                                          refine lv_if_lt (tgt := 202) hx hb dL_areStocks_195 (by decide) (fun c95 => ?_) (fun c95 => ?_)
                                                                          · refine lv_iconst (v := 0) hx hb dL_areStocks_202 (by decide) ?_
                                                                            refine lv_icmp_ne (tgt := 210) hx hb dL_areStocks_203 (by decide) (fun c96 => ?_) (fun c96 => ?_)
                                                                            · exact absurd c96 (by decide)
                                                                            · refine lv_iconst (v := 1) hx hb dL_areStocks_206 (by decide) ?_
                                                                              refine lv_goto (tgt := 211) hx hb dL_areStocks_207 (by decide) ?_
                                                                              refine lv_iand hx hb dL_areStocks_211 ?_
                                                                              refine lv_topi (fun x97 e97 => ?_)
                                                                              obtain rfl : x97 = 1 := e97.trans (by decide)
                                                                              refine lv_istore (lv' := [(4, .int 1), (5, .int 1), (3, .int x54), (0, .ref (z 0)), (1, .int un), (2, .ref rr)]) hx hb dL_areStocks_212 hl (by decide) rfl (fun ls hl => ?_)
                                                                              refine lv_iinc (v := 2) (lv' := [(5, .int 2), (4, .int 1), (3, .int x54), (0, .ref (z 0)), (1, .int un), (2, .ref rr)]) hx hb dL_areStocks_214 hl (k := 1) rfl (by decide) (by decide) rfl (fun ls hl => ?_)
                                                                              refine lv_goto (tgt := 136) hx hb dL_areStocks_217 (by decide) ?_
                                                                              refine lv_iload hx hb dL_areStocks_136 (lv_at hl 0 rfl) ?_
                                                                              refine lv_iconst (v := 2) hx hb dL_areStocks_138 (by decide) ?_
                                                                              refine lv_icmp_ge (tgt := 220) hx hb dL_areStocks_139 (by decide) (fun c98 => ?_) (fun c98 => ?_)
                                                                              · refine lv_iload hx hb dL_areStocks_220 (lv_at hl 1 rfl) ?_
                                                                                refine lv_if_eq (tgt := 234) hx hb dL_areStocks_222 (by decide) (fun c99 => ?_) (fun c99 => ?_)
                                                                                · exact absurd c99 (by decide)
                                                                                · refine lv_iload_n hx hb dL_areStocks_225 rfl (lv_at hl 2 rfl) ?_
                                                                                  refine lv_iload_n hx hb dL_areStocks_226 rfl (lv_at hl 4 rfl) ?_
                                                                                  refine lv_icmp_ne (tgt := 234) hx hb dL_areStocks_227 (by decide) (fun c100 => ?_) (fun c100 => ?_)
                                                                                  · have d100 : x54.toInt ≠ un.toInt := mt (kc_eq (rfl : x54.toInt = x54.toInt) (rfl : un.toInt = un.toInt)).mpr c100
                                                                                    exfalso; omega
                                                                                  · have d100 : x54.toInt = un.toInt := (kc_eq (rfl : x54.toInt = x54.toInt) (rfl : un.toInt = un.toInt)).mp c100
                                                                                    refine lv_iconst (v := 1) hx hb dL_areStocks_230 (by decide) ?_
                                                                                    refine lv_goto (tgt := 235) hx hb dL_areStocks_231 (by decide) ?_
                                                                                    exact kEndv F hr rfl hlk hP hO hS (by omega) (by omega) dL_areStocks_235 rfl
                                                                              · exact absurd (by decide) c98
                                                                          · exact absurd (by decide) c95
                                                                        · exact absurd (by decide) c93
                                                                    · exact absurd (by decide) c90
                                                                  · exact absurd (by decide) c88
                                                                · refine lv_iload hx hb dL_areStocks_142 (lv_at hl 1 rfl) ?_
                                                                  refine lv_aload_n hx hb dL_areStocks_144 rfl (lv_at hl 3 rfl) ?_
                                                                  refine lv_iload hx hb dL_areStocks_145 (lv_at hl 0 rfl) ?_
                                                                  refine kcallhI (kSthW (n := 2) (As := [.ref (z 0), .int 1]) (rest := [.int 1]) F hE hNc hK hP hD hS hA (kh_carried l g e0 S _ (z 0) 1 _ _ hI.ob0 (c_X5_carried l hl0 g e0 z S _ hI 1) (fun E h => h.1)) kw_236 kw_237 kw_61 kw_238 (by decide +kernel) ⟨Nat.le_of_ble_eq_true rfl, Nat.le_of_ble_eq_true rfl⟩ rfl hl.1 rfl (Nat.le_of_ble_eq_true rfl) dL_areStocks_147 ⟨(by show 0 + 1 + 1 + 1 + 1 + 1 + 1 + 1 + 1 + 1 + 1 + 1 + 1 + 1 + 1 + 1 + 1 + 1 + 1 + 1 + 1 + 1 + 1 + 1 + 1 + 1 + 1 + 1 + 1 + 1 + 1 + 1 + 1 + 1 + 1 + 1 + 1 + 1 + 1 + 2 + 1 + 1 ≤ 45; omega), (by show 0 + 6 + 6 + 6 + 6 + 6 + 6 + 6 + 6 + 6 + 6 + 6 + 6 + 6 + 6 + 6 + 6 + 6 + 6 + 6 + 6 + 6 + 6 + 6 + 6 + 6 + 6 + 6 + 6 + 6 + 6 + 6 + 6 + 6 + 6 + 6 + 6 + 6 + 6 + 12 + 6 + 6 ≤ 270; omega)⟩) rfl hD hS hA (fun r101 T1 H locs hp hP hq1x hq2x hq3x hf1 hS => ?_)
                                                                  clear hq1x hq2x hq3x
                                                                  have hO := kO_keep hO hdis hf1
                                                                  obtain ⟨hT, nr101⟩ := kp_R (i := 1) (f := fun j => q 31 j) hp (by decide : (1 : Int32).toInt = ((1 : Nat) : Int)) (by omega) (fun j hj => (hR.2.2.2.2.2.1 j hj).2 31 (by decide)) (show q 31 1 < 2 ^ 31 by omega)
                                                                  subst hT
                                                                  refine lv_if_le (tgt := 157) hx hb dL_areStocks_150 (by decide) (fun c102 => ?_) (fun c102 => ?_)
                                                                  · have d102 : r101.toInt ≤ (0) := (kc_le (rfl : r101.toInt = r101.toInt) (by decide : (0 : Int32).toInt = 0)).mp c102
                                                                    exfalso; omega
                                                                  · have d102 : ¬ (r101.toInt ≤ (0)) := mt (kc_le (rfl : r101.toInt = r101.toInt) (by decide : (0 : Int32).toInt = 0)).mpr c102
                                                                    refine lv_iconst (v := 1) hx hb dL_areStocks_153 (by decide) ?_
                                                                    refine lv_goto (tgt := 158) hx hb dL_areStocks_154 (by decide) ?_
                                                                    refine lv_aload_n hx hb dL_areStocks_158 rfl (lv_at hl 3 rfl) ?_
                                                                    refine lv_iload hx hb dL_areStocks_159 (lv_at hl 0 rfl) ?_
                                                                    refine kcallhI (kSthW (n := 2) (As := [.ref (z 0), .int 1]) (rest := [.int 1, .int 1]) F hE hNc hK hP hD hS hA (kh_minutesOf l g e0 S _ (z 0) 1 _ _ hI.ob0 (c_X5_minutesOf l hl0 g e0 z S _ hI 1) (fun E h => h.1)) kw_248 kw_249 kw_61 kw_250 (by decide +kernel) ⟨Nat.le_of_ble_eq_true rfl, Nat.le_of_ble_eq_true rfl⟩ rfl hl.1 rfl (Nat.le_of_ble_eq_true rfl) dL_areStocks_161 ⟨(by show 0 + 1 + 1 + 1 + 1 + 1 + 1 + 1 + 1 + 1 + 1 + 1 + 1 + 1 + 1 + 1 + 1 + 1 + 1 + 1 + 1 + 1 + 1 + 1 + 1 + 1 + 1 + 1 + 1 + 1 + 1 + 1 + 1 + 1 + 1 + 1 + 1 + 1 + 1 + 2 + 1 + 1 + 1 ≤ 45; omega), (by show 0 + 6 + 6 + 6 + 6 + 6 + 6 + 6 + 6 + 6 + 6 + 6 + 6 + 6 + 6 + 6 + 6 + 6 + 6 + 6 + 6 + 6 + 6 + 6 + 6 + 6 + 6 + 6 + 6 + 6 + 6 + 6 + 6 + 6 + 6 + 6 + 6 + 6 + 6 + 12 + 6 + 6 + 6 ≤ 270; omega)⟩) rfl hD hS hA (fun r103 T1 H locs hp hP hq1x hq2x hq3x hf1 hS => ?_)
                                                                    clear hq1x hq2x hq3x
                                                                    have hO := kO_keep hO hdis hf1
                                                                    obtain ⟨hT, nr103⟩ := kp_R (i := 1) (f := fun j => q 32 j) hp (by decide : (1 : Int32).toInt = ((1 : Nat) : Int)) (by omega) (fun j hj => (hR.2.2.2.2.2.1 j hj).2 32 (by decide)) (show q 32 1 < 2 ^ 31 by omega)
                                                                    subst hT
                                                                    refine lv_if_le (tgt := 171) hx hb dL_areStocks_164 (by decide) (fun c104 => ?_) (fun c104 => ?_)
                                                                    · have d104 : r103.toInt ≤ (0) := (kc_le (rfl : r103.toInt = r103.toInt) (by decide : (0 : Int32).toInt = 0)).mp c104
                                                                      exfalso; omega
                                                                    · have d104 : ¬ (r103.toInt ≤ (0)) := mt (kc_le (rfl : r103.toInt = r103.toInt) (by decide : (0 : Int32).toInt = 0)).mpr c104
                                                                      refine lv_iconst (v := 1) hx hb dL_areStocks_167 (by decide) ?_
                                                                      refine lv_goto (tgt := 172) hx hb dL_areStocks_168 (by decide) ?_
                                                                      refine lv_icmp_ne (tgt := 210) hx hb dL_areStocks_172 (by decide) (fun c105 => ?_) (fun c105 => ?_)
                                                                      · exact absurd c105 (by decide)
                                                                      · refine lv_aload_n hx hb dL_areStocks_175 rfl (lv_at hl 3 rfl) ?_
                                                                        refine lv_iload hx hb dL_areStocks_176 (lv_at hl 0 rfl) ?_
                                                                        refine kcallhI (kSthW (n := 2) (As := [.ref (z 0), .int 1]) (rest := [.int 1]) F hE hNc hK hP hD hS hA (kh_carried l g e0 S _ (z 0) 1 _ _ hI.ob0 (c_X5_carried l hl0 g e0 z S _ hI 1) (fun E h => h.1)) kw_236 kw_237 kw_61 kw_238 (by decide +kernel) ⟨Nat.le_of_ble_eq_true rfl, Nat.le_of_ble_eq_true rfl⟩ rfl hl.1 rfl (Nat.le_of_ble_eq_true rfl) dL_areStocks_178 ⟨(by show 0 + 1 + 1 + 1 + 1 + 1 + 1 + 1 + 1 + 1 + 1 + 1 + 1 + 1 + 1 + 1 + 1 + 1 + 1 + 1 + 1 + 1 + 1 + 1 + 1 + 1 + 1 + 1 + 1 + 1 + 1 + 1 + 1 + 1 + 1 + 1 + 1 + 1 + 1 + 2 + 1 + 1 + 1 + 1 ≤ 45; omega), (by show 0 + 6 + 6 + 6 + 6 + 6 + 6 + 6 + 6 + 6 + 6 + 6 + 6 + 6 + 6 + 6 + 6 + 6 + 6 + 6 + 6 + 6 + 6 + 6 + 6 + 6 + 6 + 6 + 6 + 6 + 6 + 6 + 6 + 6 + 6 + 6 + 6 + 6 + 6 + 12 + 6 + 6 + 6 + 6 ≤ 270; omega)⟩) rfl hD hS hA (fun r106 T1 H locs hp hP hq1x hq2x hq3x hf1 hS => ?_)
                                                                        clear hq1x hq2x hq3x
                                                                        have hO := kO_keep hO hdis hf1
                                                                        obtain ⟨hT, nr106⟩ := kp_R (i := 1) (f := fun j => q 31 j) hp (by decide : (1 : Int32).toInt = ((1 : Nat) : Int)) (by omega) (fun j hj => (hR.2.2.2.2.2.1 j hj).2 31 (by decide)) (show q 31 1 < 2 ^ 31 by omega)
                                                                        subst hT
                                                                        refine lv_if_le (tgt := 188) hx hb dL_areStocks_181 (by decide) (fun c107 => ?_) (fun c107 => ?_)
                                                                        · have d107 : r106.toInt ≤ (0) := (kc_le (rfl : r106.toInt = r106.toInt) (by decide : (0 : Int32).toInt = 0)).mp c107
                                                                          exfalso; omega
                                                                        · have d107 : ¬ (r106.toInt ≤ (0)) := mt (kc_le (rfl : r106.toInt = r106.toInt) (by decide : (0 : Int32).toInt = 0)).mpr c107
                                                                          refine lv_iconst (v := 1) hx hb dL_areStocks_184 (by decide) ?_
                                                                          refine lv_goto (tgt := 189) hx hb dL_areStocks_185 (by decide) ?_
                                                                          refine lv_aload_n hx hb dL_areStocks_189 rfl (lv_at hl 3 rfl) ?_
                                                                          refine lv_iload hx hb dL_areStocks_190 (lv_at hl 0 rfl) ?_
                                                                          refine kcallhI (kSthW (n := 2) (As := [.ref (z 0), .int 1]) (rest := [.int 1, .int 1]) F hE hNc hK hP hD hS hA (kh_aisleOf l g e0 S _ (z 0) 1 _ _ hI.ob0 (c_X5_aisleOf_x l hl0 g e0 z S _ hI av lv q hR hW.1 1) (fun E h => h.imp And.left And.left)) kw_467 kw_468 kw_61 kw_469 (by decide +kernel) ⟨Nat.le_of_ble_eq_true rfl, Nat.le_of_ble_eq_true rfl⟩ rfl hl.1 rfl (Nat.le_of_ble_eq_true rfl) dL_areStocks_192 ⟨(by show 0 + 1 + 1 + 1 + 1 + 1 + 1 + 1 + 1 + 1 + 1 + 1 + 1 + 1 + 1 + 1 + 1 + 1 + 1 + 1 + 1 + 1 + 1 + 1 + 1 + 1 + 1 + 1 + 1 + 1 + 1 + 1 + 1 + 1 + 1 + 1 + 1 + 1 + 1 + 2 + 1 + 1 + 1 + 1 + 2 ≤ 45; omega), (by show 0 + 6 + 6 + 6 + 6 + 6 + 6 + 6 + 6 + 6 + 6 + 6 + 6 + 6 + 6 + 6 + 6 + 6 + 6 + 6 + 6 + 6 + 6 + 6 + 6 + 6 + 6 + 6 + 6 + 6 + 6 + 6 + 6 + 6 + 6 + 6 + 6 + 6 + 6 + 12 + 6 + 6 + 6 + 6 + 12 ≤ 270; omega)⟩) rfl hD hS hA (fun r108 T1 H locs hp hP hq1x hq2x hq3x hf1 hS => ?_)
                                                                          clear hq1x hq2x hq3x
                                                                          have hO := kO_keep hO hdis hf1
                                                                          obtain ⟨hT, ar108, br108⟩ := kp_I (i := 1) (k := fun j => q 30 j) (f := fun j => q 0 (q 10 (q 30 j - 1))) hp (by decide : (1 : Int32).toInt = ((1 : Nat) : Int)) (by omega) (fun h9 => (by have h9 : q 30 1 ≠ 0 := h9; show q 0 (q 10 (q 30 1 - 1)) < 2 ^ 31; have h8 := hW.1.1.2.2.2 (q 30 1 - 1) (by omega); rw [hL.2.1 _ h8]; omega))
                                                                          subst hT
                                                                          refine lv_if_lt (tgt := 202) hx hb dL_areStocks_195 (by decide) (fun c109 => ?_) (fun c109 => ?_)
                                                                          · have d109 : r108.toInt < (0) := (kc_lt (rfl : r108.toInt = r108.toInt) (by decide : (0 : Int32).toInt = 0)).mp c109
                                                                            exfalso; omega
                                                                          · have d109 : ¬ (r108.toInt < (0)) := mt (kc_lt (rfl : r108.toInt = r108.toInt) (by decide : (0 : Int32).toInt = 0)).mpr c109
                                                                            refine lv_iconst (v := 1) hx hb dL_areStocks_198 (by decide) ?_
                                                                            refine lv_goto (tgt := 203) hx hb dL_areStocks_199 (by decide) ?_
                                                                            refine lv_icmp_ne (tgt := 210) hx hb dL_areStocks_203 (by decide) (fun c110 => ?_) (fun c110 => ?_)
                                                                            · exact absurd c110 (by decide)
                                                                            · refine lv_iconst (v := 1) hx hb dL_areStocks_206 (by decide) ?_
                                                                              refine lv_goto (tgt := 211) hx hb dL_areStocks_207 (by decide) ?_
                                                                              refine lv_iand hx hb dL_areStocks_211 ?_
                                                                              refine lv_topi (fun x111 e111 => ?_)
                                                                              obtain rfl : x111 = 1 := e111.trans (by decide)
                                                                              refine lv_istore (lv' := [(4, .int 1), (5, .int 1), (3, .int x54), (0, .ref (z 0)), (1, .int un), (2, .ref rr)]) hx hb dL_areStocks_212 hl (by decide) rfl (fun ls hl => ?_)
                                                                              refine lv_iinc (v := 2) (lv' := [(5, .int 2), (4, .int 1), (3, .int x54), (0, .ref (z 0)), (1, .int un), (2, .ref rr)]) hx hb dL_areStocks_214 hl (k := 1) rfl (by decide) (by decide) rfl (fun ls hl => ?_)
                                                                              refine lv_goto (tgt := 136) hx hb dL_areStocks_217 (by decide) ?_
                                                                              refine lv_iload hx hb dL_areStocks_136 (lv_at hl 0 rfl) ?_
                                                                              refine lv_iconst (v := 2) hx hb dL_areStocks_138 (by decide) ?_
                                                                              refine lv_icmp_ge (tgt := 220) hx hb dL_areStocks_139 (by decide) (fun c112 => ?_) (fun c112 => ?_)
                                                                              · refine lv_iload hx hb dL_areStocks_220 (lv_at hl 1 rfl) ?_
                                                                                refine lv_if_eq (tgt := 234) hx hb dL_areStocks_222 (by decide) (fun c113 => ?_) (fun c113 => ?_)
                                                                                · exact absurd c113 (by decide)
                                                                                · refine lv_iload_n hx hb dL_areStocks_225 rfl (lv_at hl 2 rfl) ?_
                                                                                  refine lv_iload_n hx hb dL_areStocks_226 rfl (lv_at hl 4 rfl) ?_
                                                                                  refine lv_icmp_ne (tgt := 234) hx hb dL_areStocks_227 (by decide) (fun c114 => ?_) (fun c114 => ?_)
                                                                                  · have d114 : x54.toInt ≠ un.toInt := mt (kc_eq (rfl : x54.toInt = x54.toInt) (rfl : un.toInt = un.toInt)).mpr c114
                                                                                    exfalso; omega
                                                                                  · have d114 : x54.toInt = un.toInt := (kc_eq (rfl : x54.toInt = x54.toInt) (rfl : un.toInt = un.toInt)).mp c114
                                                                                    refine lv_iconst (v := 1) hx hb dL_areStocks_230 (by decide) ?_
                                                                                    refine lv_goto (tgt := 235) hx hb dL_areStocks_231 (by decide) ?_
                                                                                    exact kEndv F hr rfl hlk hP hO hS (by omega) (by omega) dL_areStocks_235 rfl
                                                                              · exact absurd (by decide) c112
                                                          · exact absurd (by decide) c83
                                                        · exact absurd (by decide) c81
                                                    · exact absurd (by decide) c78
                                                  · exact absurd (by decide) c76
                                                · refine lv_iload hx hb dL_areStocks_142 (lv_at hl 1 rfl) ?_
                                                  refine lv_aload_n hx hb dL_areStocks_144 rfl (lv_at hl 3 rfl) ?_
                                                  refine lv_iload hx hb dL_areStocks_145 (lv_at hl 0 rfl) ?_
                                                  refine kcallhI (kSthW (n := 2) (As := [.ref (z 0), .int 0]) (rest := [.int 1]) F hE hNc hK hP hD hS hA (kh_carried l g e0 S _ (z 0) 0 _ _ hI.ob0 (c_X5_carried l hl0 g e0 z S _ hI 0) (fun E h => h.1)) kw_236 kw_237 kw_61 kw_238 (by decide +kernel) ⟨Nat.le_of_ble_eq_true rfl, Nat.le_of_ble_eq_true rfl⟩ rfl hl.1 rfl (Nat.le_of_ble_eq_true rfl) dL_areStocks_147 ⟨(by show 0 + 1 + 1 + 1 + 1 + 1 + 1 + 1 + 1 + 1 + 1 + 1 + 1 + 1 + 1 + 1 + 1 + 1 + 1 + 1 + 1 + 1 + 1 + 1 + 1 + 1 + 1 + 1 + 1 + 1 + 1 + 1 + 1 + 1 + 1 + 1 + 1 + 1 ≤ 45; omega), (by show 0 + 6 + 6 + 6 + 6 + 6 + 6 + 6 + 6 + 6 + 6 + 6 + 6 + 6 + 6 + 6 + 6 + 6 + 6 + 6 + 6 + 6 + 6 + 6 + 6 + 6 + 6 + 6 + 6 + 6 + 6 + 6 + 6 + 6 + 6 + 6 + 6 + 6 ≤ 270; omega)⟩) rfl hD hS hA (fun r115 T1 H locs hp hP hq1x hq2x hq3x hf1 hS => ?_)
                                                  clear hq1x hq2x hq3x
                                                  have hO := kO_keep hO hdis hf1
                                                  obtain ⟨hT, nr115⟩ := kp_R (i := 0) (f := fun j => q 31 j) hp (by decide : (0 : Int32).toInt = ((0 : Nat) : Int)) (by omega) (fun j hj => (hR.2.2.2.2.2.1 j hj).2 31 (by decide)) (show q 31 0 < 2 ^ 31 by omega)
                                                  subst hT
                                                  refine lv_if_le (tgt := 157) hx hb dL_areStocks_150 (by decide) (fun c116 => ?_) (fun c116 => ?_)
                                                  · have d116 : r115.toInt ≤ (0) := (kc_le (rfl : r115.toInt = r115.toInt) (by decide : (0 : Int32).toInt = 0)).mp c116
                                                    exfalso; omega
                                                  · have d116 : ¬ (r115.toInt ≤ (0)) := mt (kc_le (rfl : r115.toInt = r115.toInt) (by decide : (0 : Int32).toInt = 0)).mpr c116
                                                    refine lv_iconst (v := 1) hx hb dL_areStocks_153 (by decide) ?_
                                                    refine lv_goto (tgt := 158) hx hb dL_areStocks_154 (by decide) ?_
                                                    refine lv_aload_n hx hb dL_areStocks_158 rfl (lv_at hl 3 rfl) ?_
                                                    refine lv_iload hx hb dL_areStocks_159 (lv_at hl 0 rfl) ?_
                                                    refine kcallhI (kSthW (n := 2) (As := [.ref (z 0), .int 0]) (rest := [.int 1, .int 1]) F hE hNc hK hP hD hS hA (kh_minutesOf l g e0 S _ (z 0) 0 _ _ hI.ob0 (c_X5_minutesOf l hl0 g e0 z S _ hI 0) (fun E h => h.1)) kw_248 kw_249 kw_61 kw_250 (by decide +kernel) ⟨Nat.le_of_ble_eq_true rfl, Nat.le_of_ble_eq_true rfl⟩ rfl hl.1 rfl (Nat.le_of_ble_eq_true rfl) dL_areStocks_161 ⟨(by show 0 + 1 + 1 + 1 + 1 + 1 + 1 + 1 + 1 + 1 + 1 + 1 + 1 + 1 + 1 + 1 + 1 + 1 + 1 + 1 + 1 + 1 + 1 + 1 + 1 + 1 + 1 + 1 + 1 + 1 + 1 + 1 + 1 + 1 + 1 + 1 + 1 + 1 + 1 ≤ 45; omega), (by show 0 + 6 + 6 + 6 + 6 + 6 + 6 + 6 + 6 + 6 + 6 + 6 + 6 + 6 + 6 + 6 + 6 + 6 + 6 + 6 + 6 + 6 + 6 + 6 + 6 + 6 + 6 + 6 + 6 + 6 + 6 + 6 + 6 + 6 + 6 + 6 + 6 + 6 + 6 ≤ 270; omega)⟩) rfl hD hS hA (fun r117 T1 H locs hp hP hq1x hq2x hq3x hf1 hS => ?_)
                                                    clear hq1x hq2x hq3x
                                                    have hO := kO_keep hO hdis hf1
                                                    obtain ⟨hT, nr117⟩ := kp_R (i := 0) (f := fun j => q 32 j) hp (by decide : (0 : Int32).toInt = ((0 : Nat) : Int)) (by omega) (fun j hj => (hR.2.2.2.2.2.1 j hj).2 32 (by decide)) (show q 32 0 < 2 ^ 31 by omega)
                                                    subst hT
                                                    refine lv_if_le (tgt := 171) hx hb dL_areStocks_164 (by decide) (fun c118 => ?_) (fun c118 => ?_)
                                                    · have d118 : r117.toInt ≤ (0) := (kc_le (rfl : r117.toInt = r117.toInt) (by decide : (0 : Int32).toInt = 0)).mp c118
                                                      exfalso; omega
                                                    · have d118 : ¬ (r117.toInt ≤ (0)) := mt (kc_le (rfl : r117.toInt = r117.toInt) (by decide : (0 : Int32).toInt = 0)).mpr c118
                                                      refine lv_iconst (v := 1) hx hb dL_areStocks_167 (by decide) ?_
                                                      refine lv_goto (tgt := 172) hx hb dL_areStocks_168 (by decide) ?_
                                                      refine lv_icmp_ne (tgt := 210) hx hb dL_areStocks_172 (by decide) (fun c119 => ?_) (fun c119 => ?_)
                                                      · exact absurd c119 (by decide)
                                                      · refine lv_aload_n hx hb dL_areStocks_175 rfl (lv_at hl 3 rfl) ?_
                                                        refine lv_iload hx hb dL_areStocks_176 (lv_at hl 0 rfl) ?_
                                                        refine kcallhI (kSthW (n := 2) (As := [.ref (z 0), .int 0]) (rest := [.int 1]) F hE hNc hK hP hD hS hA (kh_carried l g e0 S _ (z 0) 0 _ _ hI.ob0 (c_X5_carried l hl0 g e0 z S _ hI 0) (fun E h => h.1)) kw_236 kw_237 kw_61 kw_238 (by decide +kernel) ⟨Nat.le_of_ble_eq_true rfl, Nat.le_of_ble_eq_true rfl⟩ rfl hl.1 rfl (Nat.le_of_ble_eq_true rfl) dL_areStocks_178 ⟨(by show 0 + 1 + 1 + 1 + 1 + 1 + 1 + 1 + 1 + 1 + 1 + 1 + 1 + 1 + 1 + 1 + 1 + 1 + 1 + 1 + 1 + 1 + 1 + 1 + 1 + 1 + 1 + 1 + 1 + 1 + 1 + 1 + 1 + 1 + 1 + 1 + 1 + 1 + 1 + 1 ≤ 45; omega), (by show 0 + 6 + 6 + 6 + 6 + 6 + 6 + 6 + 6 + 6 + 6 + 6 + 6 + 6 + 6 + 6 + 6 + 6 + 6 + 6 + 6 + 6 + 6 + 6 + 6 + 6 + 6 + 6 + 6 + 6 + 6 + 6 + 6 + 6 + 6 + 6 + 6 + 6 + 6 + 6 ≤ 270; omega)⟩) rfl hD hS hA (fun r120 T1 H locs hp hP hq1x hq2x hq3x hf1 hS => ?_)
                                                        clear hq1x hq2x hq3x
                                                        have hO := kO_keep hO hdis hf1
                                                        obtain ⟨hT, nr120⟩ := kp_R (i := 0) (f := fun j => q 31 j) hp (by decide : (0 : Int32).toInt = ((0 : Nat) : Int)) (by omega) (fun j hj => (hR.2.2.2.2.2.1 j hj).2 31 (by decide)) (show q 31 0 < 2 ^ 31 by omega)
                                                        subst hT
                                                        refine lv_if_le (tgt := 188) hx hb dL_areStocks_181 (by decide) (fun c121 => ?_) (fun c121 => ?_)
                                                        · have d121 : r120.toInt ≤ (0) := (kc_le (rfl : r120.toInt = r120.toInt) (by decide : (0 : Int32).toInt = 0)).mp c121
                                                          exfalso; omega
                                                        · have d121 : ¬ (r120.toInt ≤ (0)) := mt (kc_le (rfl : r120.toInt = r120.toInt) (by decide : (0 : Int32).toInt = 0)).mpr c121
                                                          refine lv_iconst (v := 1) hx hb dL_areStocks_184 (by decide) ?_
                                                          refine lv_goto (tgt := 189) hx hb dL_areStocks_185 (by decide) ?_
                                                          refine lv_aload_n hx hb dL_areStocks_189 rfl (lv_at hl 3 rfl) ?_
                                                          refine lv_iload hx hb dL_areStocks_190 (lv_at hl 0 rfl) ?_
                                                          refine kcallhI (kSthW (n := 2) (As := [.ref (z 0), .int 0]) (rest := [.int 1, .int 1]) F hE hNc hK hP hD hS hA (kh_aisleOf l g e0 S _ (z 0) 0 _ _ hI.ob0 (c_X5_aisleOf_x l hl0 g e0 z S _ hI av lv q hR hW.1 0) (fun E h => h.imp And.left And.left)) kw_467 kw_468 kw_61 kw_469 (by decide +kernel) ⟨Nat.le_of_ble_eq_true rfl, Nat.le_of_ble_eq_true rfl⟩ rfl hl.1 rfl (Nat.le_of_ble_eq_true rfl) dL_areStocks_192 ⟨(by show 0 + 1 + 1 + 1 + 1 + 1 + 1 + 1 + 1 + 1 + 1 + 1 + 1 + 1 + 1 + 1 + 1 + 1 + 1 + 1 + 1 + 1 + 1 + 1 + 1 + 1 + 1 + 1 + 1 + 1 + 1 + 1 + 1 + 1 + 1 + 1 + 1 + 1 + 1 + 1 + 2 ≤ 45; omega), (by show 0 + 6 + 6 + 6 + 6 + 6 + 6 + 6 + 6 + 6 + 6 + 6 + 6 + 6 + 6 + 6 + 6 + 6 + 6 + 6 + 6 + 6 + 6 + 6 + 6 + 6 + 6 + 6 + 6 + 6 + 6 + 6 + 6 + 6 + 6 + 6 + 6 + 6 + 6 + 6 + 12 ≤ 270; omega)⟩) rfl hD hS hA (fun r122 T1 H locs hp hP hq1x hq2x hq3x hf1 hS => ?_)
                                                          clear hq1x hq2x hq3x
                                                          have hO := kO_keep hO hdis hf1
                                                          obtain ⟨hT, ar122, br122⟩ := kp_I (i := 0) (k := fun j => q 30 j) (f := fun j => q 0 (q 10 (q 30 j - 1))) hp (by decide : (0 : Int32).toInt = ((0 : Nat) : Int)) (by omega) (fun h9 => (by have h9 : q 30 0 ≠ 0 := h9; show q 0 (q 10 (q 30 0 - 1)) < 2 ^ 31; have h8 := hW.1.1.2.2.2 (q 30 0 - 1) (by omega); rw [hL.2.1 _ h8]; omega))
                                                          subst hT
                                                          refine lv_if_lt (tgt := 202) hx hb dL_areStocks_195 (by decide) (fun c123 => ?_) (fun c123 => ?_)
                                                          · have d123 : r122.toInt < (0) := (kc_lt (rfl : r122.toInt = r122.toInt) (by decide : (0 : Int32).toInt = 0)).mp c123
                                                            exfalso; omega
                                                          · have d123 : ¬ (r122.toInt < (0)) := mt (kc_lt (rfl : r122.toInt = r122.toInt) (by decide : (0 : Int32).toInt = 0)).mpr c123
                                                            refine lv_iconst (v := 1) hx hb dL_areStocks_198 (by decide) ?_
                                                            refine lv_goto (tgt := 203) hx hb dL_areStocks_199 (by decide) ?_
                                                            refine lv_icmp_ne (tgt := 210) hx hb dL_areStocks_203 (by decide) (fun c124 => ?_) (fun c124 => ?_)
                                                            · exact absurd c124 (by decide)
                                                            · refine lv_iconst (v := 1) hx hb dL_areStocks_206 (by decide) ?_
                                                              refine lv_goto (tgt := 211) hx hb dL_areStocks_207 (by decide) ?_
                                                              refine lv_iand hx hb dL_areStocks_211 ?_
                                                              refine lv_topi (fun x125 e125 => ?_)
                                                              obtain rfl : x125 = 1 := e125.trans (by decide)
                                                              refine lv_istore (lv' := [(4, .int 1), (5, .int 0), (3, .int x54), (0, .ref (z 0)), (1, .int un), (2, .ref rr)]) hx hb dL_areStocks_212 hl (by decide) rfl (fun ls hl => ?_)
                                                              refine lv_iinc (v := 1) (lv' := [(5, .int 1), (4, .int 1), (3, .int x54), (0, .ref (z 0)), (1, .int un), (2, .ref rr)]) hx hb dL_areStocks_214 hl (k := 1) rfl (by decide) (by decide) rfl (fun ls hl => ?_)
                                                              refine lv_goto (tgt := 136) hx hb dL_areStocks_217 (by decide) ?_
                                                              refine lv_iload hx hb dL_areStocks_136 (lv_at hl 0 rfl) ?_
                                                              refine lv_iconst (v := 2) hx hb dL_areStocks_138 (by decide) ?_
                                                              refine lv_icmp_ge (tgt := 220) hx hb dL_areStocks_139 (by decide) (fun c126 => ?_) (fun c126 => ?_)
                                                              · exact absurd c126 (by decide)
                                                              · rcases w71 with ⟨i1, i2, i3⟩ | ⟨o1, o2, o3, o4, o5⟩
                                                                · refine lv_iload hx hb dL_areStocks_142 (lv_at hl 1 rfl) ?_
                                                                  refine lv_aload_n hx hb dL_areStocks_144 rfl (lv_at hl 3 rfl) ?_
                                                                  refine lv_iload hx hb dL_areStocks_145 (lv_at hl 0 rfl) ?_
                                                                  refine kcallhI (kSthW (n := 2) (As := [.ref (z 0), .int 1]) (rest := [.int 1]) F hE hNc hK hP hD hS hA (kh_carried l g e0 S _ (z 0) 1 _ _ hI.ob0 (c_X5_carried l hl0 g e0 z S _ hI 1) (fun E h => h.1)) kw_236 kw_237 kw_61 kw_238 (by decide +kernel) ⟨Nat.le_of_ble_eq_true rfl, Nat.le_of_ble_eq_true rfl⟩ rfl hl.1 rfl (Nat.le_of_ble_eq_true rfl) dL_areStocks_147 ⟨(by show 0 + 1 + 1 + 1 + 1 + 1 + 1 + 1 + 1 + 1 + 1 + 1 + 1 + 1 + 1 + 1 + 1 + 1 + 1 + 1 + 1 + 1 + 1 + 1 + 1 + 1 + 1 + 1 + 1 + 1 + 1 + 1 + 1 + 1 + 1 + 1 + 1 + 1 + 1 + 1 + 2 + 1 ≤ 45; omega), (by show 0 + 6 + 6 + 6 + 6 + 6 + 6 + 6 + 6 + 6 + 6 + 6 + 6 + 6 + 6 + 6 + 6 + 6 + 6 + 6 + 6 + 6 + 6 + 6 + 6 + 6 + 6 + 6 + 6 + 6 + 6 + 6 + 6 + 6 + 6 + 6 + 6 + 6 + 6 + 6 + 12 + 6 ≤ 270; omega)⟩) rfl hD hS hA (fun r127 T1 H locs hp hP hq1x hq2x hq3x hf1 hS => ?_)
                                                                  clear hq1x hq2x hq3x
                                                                  have hO := kO_keep hO hdis hf1
                                                                  obtain ⟨hT, nr127⟩ := kp_R (i := 1) (f := fun j => q 31 j) hp (by decide : (1 : Int32).toInt = ((1 : Nat) : Int)) (by omega) (fun j hj => (hR.2.2.2.2.2.1 j hj).2 31 (by decide)) (show q 31 1 < 2 ^ 31 by omega)
                                                                  subst hT
                                                                  obtain rfl : r127 = 0 := kt_lit (A := 0) (by omega) (by decide)
                                                                  refine lv_if_le (tgt := 157) hx hb dL_areStocks_150 (by decide) (fun c128 => ?_) (fun c128 => ?_)
                                                                  · refine lv_iconst (v := 0) hx hb dL_areStocks_157 (by decide) ?_
                                                                    refine lv_aload_n hx hb dL_areStocks_158 rfl (lv_at hl 3 rfl) ?_
                                                                    refine lv_iload hx hb dL_areStocks_159 (lv_at hl 0 rfl) ?_
                                                                    refine kcallhI (kSthW (n := 2) (As := [.ref (z 0), .int 1]) (rest := [.int 0, .int 1]) F hE hNc hK hP hD hS hA (kh_minutesOf l g e0 S _ (z 0) 1 _ _ hI.ob0 (c_X5_minutesOf l hl0 g e0 z S _ hI 1) (fun E h => h.1)) kw_248 kw_249 kw_61 kw_250 (by decide +kernel) ⟨Nat.le_of_ble_eq_true rfl, Nat.le_of_ble_eq_true rfl⟩ rfl hl.1 rfl (Nat.le_of_ble_eq_true rfl) dL_areStocks_161 ⟨(by show 0 + 1 + 1 + 1 + 1 + 1 + 1 + 1 + 1 + 1 + 1 + 1 + 1 + 1 + 1 + 1 + 1 + 1 + 1 + 1 + 1 + 1 + 1 + 1 + 1 + 1 + 1 + 1 + 1 + 1 + 1 + 1 + 1 + 1 + 1 + 1 + 1 + 1 + 1 + 1 + 2 + 1 + 1 ≤ 45; omega), (by show 0 + 6 + 6 + 6 + 6 + 6 + 6 + 6 + 6 + 6 + 6 + 6 + 6 + 6 + 6 + 6 + 6 + 6 + 6 + 6 + 6 + 6 + 6 + 6 + 6 + 6 + 6 + 6 + 6 + 6 + 6 + 6 + 6 + 6 + 6 + 6 + 6 + 6 + 6 + 6 + 12 + 6 + 6 ≤ 270; omega)⟩) rfl hD hS hA (fun r129 T1 H locs hp hP hq1x hq2x hq3x hf1 hS => ?_)
                                                                    clear hq1x hq2x hq3x
                                                                    have hO := kO_keep hO hdis hf1
                                                                    obtain ⟨hT, nr129⟩ := kp_R (i := 1) (f := fun j => q 32 j) hp (by decide : (1 : Int32).toInt = ((1 : Nat) : Int)) (by omega) (fun j hj => (hR.2.2.2.2.2.1 j hj).2 32 (by decide)) (show q 32 1 < 2 ^ 31 by omega)
                                                                    subst hT
                                                                    obtain rfl : r129 = 0 := kt_lit (A := 0) (by omega) (by decide)
                                                                    refine lv_if_le (tgt := 171) hx hb dL_areStocks_164 (by decide) (fun c130 => ?_) (fun c130 => ?_)
                                                                    · refine lv_iconst (v := 0) hx hb dL_areStocks_171 (by decide) ?_
                                                                      refine lv_icmp_ne (tgt := 210) hx hb dL_areStocks_172 (by decide) (fun c131 => ?_) (fun c131 => ?_)
                                                                      · exact absurd c131 (by decide)
                                                                      · refine lv_aload_n hx hb dL_areStocks_175 rfl (lv_at hl 3 rfl) ?_
                                                                        refine lv_iload hx hb dL_areStocks_176 (lv_at hl 0 rfl) ?_
                                                                        refine kcallhI (kSthW (n := 2) (As := [.ref (z 0), .int 1]) (rest := [.int 1]) F hE hNc hK hP hD hS hA (kh_carried l g e0 S _ (z 0) 1 _ _ hI.ob0 (c_X5_carried l hl0 g e0 z S _ hI 1) (fun E h => h.1)) kw_236 kw_237 kw_61 kw_238 (by decide +kernel) ⟨Nat.le_of_ble_eq_true rfl, Nat.le_of_ble_eq_true rfl⟩ rfl hl.1 rfl (Nat.le_of_ble_eq_true rfl) dL_areStocks_178 ⟨(by show 0 + 1 + 1 + 1 + 1 + 1 + 1 + 1 + 1 + 1 + 1 + 1 + 1 + 1 + 1 + 1 + 1 + 1 + 1 + 1 + 1 + 1 + 1 + 1 + 1 + 1 + 1 + 1 + 1 + 1 + 1 + 1 + 1 + 1 + 1 + 1 + 1 + 1 + 1 + 1 + 2 + 1 + 1 + 1 ≤ 45; omega), (by show 0 + 6 + 6 + 6 + 6 + 6 + 6 + 6 + 6 + 6 + 6 + 6 + 6 + 6 + 6 + 6 + 6 + 6 + 6 + 6 + 6 + 6 + 6 + 6 + 6 + 6 + 6 + 6 + 6 + 6 + 6 + 6 + 6 + 6 + 6 + 6 + 6 + 6 + 6 + 6 + 12 + 6 + 6 + 6 ≤ 270; omega)⟩) rfl hD hS hA (fun r132 T1 H locs hp hP hq1x hq2x hq3x hf1 hS => ?_)
                                                                        clear hq1x hq2x hq3x
                                                                        have hO := kO_keep hO hdis hf1
                                                                        obtain ⟨hT, nr132⟩ := kp_R (i := 1) (f := fun j => q 31 j) hp (by decide : (1 : Int32).toInt = ((1 : Nat) : Int)) (by omega) (fun j hj => (hR.2.2.2.2.2.1 j hj).2 31 (by decide)) (show q 31 1 < 2 ^ 31 by omega)
                                                                        subst hT
                                                                        obtain rfl : r132 = 0 := kt_lit (A := 0) (by omega) (by decide)
                                                                        refine lv_if_le (tgt := 188) hx hb dL_areStocks_181 (by decide) (fun c133 => ?_) (fun c133 => ?_)
                                                                        · refine lv_iconst (v := 0) hx hb dL_areStocks_188 (by decide) ?_
                                                                          refine lv_aload_n hx hb dL_areStocks_189 rfl (lv_at hl 3 rfl) ?_
                                                                          refine lv_iload hx hb dL_areStocks_190 (lv_at hl 0 rfl) ?_
                                                                          refine kcallhI (kSthW (n := 2) (As := [.ref (z 0), .int 1]) (rest := [.int 0, .int 1]) F hE hNc hK hP hD hS hA (kh_aisleOf l g e0 S _ (z 0) 1 _ _ hI.ob0 (c_X5_aisleOf_x l hl0 g e0 z S _ hI av lv q hR hW.1 1) (fun E h => h.imp And.left And.left)) kw_467 kw_468 kw_61 kw_469 (by decide +kernel) ⟨Nat.le_of_ble_eq_true rfl, Nat.le_of_ble_eq_true rfl⟩ rfl hl.1 rfl (Nat.le_of_ble_eq_true rfl) dL_areStocks_192 ⟨(by show 0 + 1 + 1 + 1 + 1 + 1 + 1 + 1 + 1 + 1 + 1 + 1 + 1 + 1 + 1 + 1 + 1 + 1 + 1 + 1 + 1 + 1 + 1 + 1 + 1 + 1 + 1 + 1 + 1 + 1 + 1 + 1 + 1 + 1 + 1 + 1 + 1 + 1 + 1 + 1 + 2 + 1 + 1 + 1 + 2 ≤ 45; omega), (by show 0 + 6 + 6 + 6 + 6 + 6 + 6 + 6 + 6 + 6 + 6 + 6 + 6 + 6 + 6 + 6 + 6 + 6 + 6 + 6 + 6 + 6 + 6 + 6 + 6 + 6 + 6 + 6 + 6 + 6 + 6 + 6 + 6 + 6 + 6 + 6 + 6 + 6 + 6 + 6 + 12 + 6 + 6 + 6 + 12 ≤ 270; omega)⟩) rfl hD hS hA (fun r134 T1 H locs hp hP hq1x hq2x hq3x hf1 hS => ?_)
                                                                          clear hq1x hq2x hq3x
                                                                          have hO := kO_keep hO hdis hf1
                                                                          obtain ⟨hT, ar134, br134⟩ := kp_I (i := 1) (k := fun j => q 30 j) (f := fun j => q 0 (q 10 (q 30 j - 1))) hp (by decide : (1 : Int32).toInt = ((1 : Nat) : Int)) (by omega) (fun h9 => (by have h9 : q 30 1 ≠ 0 := h9; show q 0 (q 10 (q 30 1 - 1)) < 2 ^ 31; have h8 := hW.1.1.2.2.2 (q 30 1 - 1) (by omega); rw [hL.2.1 _ h8]; omega))
                                                                          subst hT
                                                                          obtain rfl : r134 = (-75) := kt_lit (A := -75) (by omega) (by decide)
                                                                          refine lv_if_lt (tgt := 202) hx hb dL_areStocks_195 (by decide) (fun c135 => ?_) (fun c135 => ?_)
                                                                          · refine lv_iconst (v := 0) hx hb dL_areStocks_202 (by decide) ?_
                                                                            refine lv_icmp_ne (tgt := 210) hx hb dL_areStocks_203 (by decide) (fun c136 => ?_) (fun c136 => ?_)
                                                                            · exact absurd c136 (by decide)
                                                                            · refine lv_iconst (v := 1) hx hb dL_areStocks_206 (by decide) ?_
                                                                              refine lv_goto (tgt := 211) hx hb dL_areStocks_207 (by decide) ?_
                                                                              refine lv_iand hx hb dL_areStocks_211 ?_
                                                                              refine lv_topi (fun x137 e137 => ?_)
                                                                              obtain rfl : x137 = 1 := e137.trans (by decide)
                                                                              refine lv_istore (lv' := [(4, .int 1), (5, .int 1), (3, .int x54), (0, .ref (z 0)), (1, .int un), (2, .ref rr)]) hx hb dL_areStocks_212 hl (by decide) rfl (fun ls hl => ?_)
                                                                              refine lv_iinc (v := 2) (lv' := [(5, .int 2), (4, .int 1), (3, .int x54), (0, .ref (z 0)), (1, .int un), (2, .ref rr)]) hx hb dL_areStocks_214 hl (k := 1) rfl (by decide) (by decide) rfl (fun ls hl => ?_)
                                                                              refine lv_goto (tgt := 136) hx hb dL_areStocks_217 (by decide) ?_
                                                                              refine lv_iload hx hb dL_areStocks_136 (lv_at hl 0 rfl) ?_
                                                                              refine lv_iconst (v := 2) hx hb dL_areStocks_138 (by decide) ?_
                                                                              refine lv_icmp_ge (tgt := 220) hx hb dL_areStocks_139 (by decide) (fun c138 => ?_) (fun c138 => ?_)
                                                                              · refine lv_iload hx hb dL_areStocks_220 (lv_at hl 1 rfl) ?_
                                                                                refine lv_if_eq (tgt := 234) hx hb dL_areStocks_222 (by decide) (fun c139 => ?_) (fun c139 => ?_)
                                                                                · exact absurd c139 (by decide)
                                                                                · refine lv_iload_n hx hb dL_areStocks_225 rfl (lv_at hl 2 rfl) ?_
                                                                                  refine lv_iload_n hx hb dL_areStocks_226 rfl (lv_at hl 4 rfl) ?_
                                                                                  refine lv_icmp_ne (tgt := 234) hx hb dL_areStocks_227 (by decide) (fun c140 => ?_) (fun c140 => ?_)
                                                                                  · have d140 : x54.toInt ≠ un.toInt := mt (kc_eq (rfl : x54.toInt = x54.toInt) (rfl : un.toInt = un.toInt)).mpr c140
                                                                                    exfalso; omega
                                                                                  · have d140 : x54.toInt = un.toInt := (kc_eq (rfl : x54.toInt = x54.toInt) (rfl : un.toInt = un.toInt)).mp c140
                                                                                    refine lv_iconst (v := 1) hx hb dL_areStocks_230 (by decide) ?_
                                                                                    refine lv_goto (tgt := 235) hx hb dL_areStocks_231 (by decide) ?_
                                                                                    exact kEndv F hr rfl hlk hP hO hS (by omega) (by omega) dL_areStocks_235 rfl
                                                                              · exact absurd (by decide) c138
                                                                          · exact absurd (by decide) c135
                                                                        · exact absurd (by decide) c133
                                                                    · exact absurd (by decide) c130
                                                                  · exact absurd (by decide) c128
                                                                · refine lv_iload hx hb dL_areStocks_142 (lv_at hl 1 rfl) ?_
                                                                  refine lv_aload_n hx hb dL_areStocks_144 rfl (lv_at hl 3 rfl) ?_
                                                                  refine lv_iload hx hb dL_areStocks_145 (lv_at hl 0 rfl) ?_
                                                                  refine kcallhI (kSthW (n := 2) (As := [.ref (z 0), .int 1]) (rest := [.int 1]) F hE hNc hK hP hD hS hA (kh_carried l g e0 S _ (z 0) 1 _ _ hI.ob0 (c_X5_carried l hl0 g e0 z S _ hI 1) (fun E h => h.1)) kw_236 kw_237 kw_61 kw_238 (by decide +kernel) ⟨Nat.le_of_ble_eq_true rfl, Nat.le_of_ble_eq_true rfl⟩ rfl hl.1 rfl (Nat.le_of_ble_eq_true rfl) dL_areStocks_147 ⟨(by show 0 + 1 + 1 + 1 + 1 + 1 + 1 + 1 + 1 + 1 + 1 + 1 + 1 + 1 + 1 + 1 + 1 + 1 + 1 + 1 + 1 + 1 + 1 + 1 + 1 + 1 + 1 + 1 + 1 + 1 + 1 + 1 + 1 + 1 + 1 + 1 + 1 + 1 + 1 + 1 + 2 + 1 + 1 ≤ 45; omega), (by show 0 + 6 + 6 + 6 + 6 + 6 + 6 + 6 + 6 + 6 + 6 + 6 + 6 + 6 + 6 + 6 + 6 + 6 + 6 + 6 + 6 + 6 + 6 + 6 + 6 + 6 + 6 + 6 + 6 + 6 + 6 + 6 + 6 + 6 + 6 + 6 + 6 + 6 + 6 + 6 + 12 + 6 + 6 ≤ 270; omega)⟩) rfl hD hS hA (fun r141 T1 H locs hp hP hq1x hq2x hq3x hf1 hS => ?_)
                                                                  clear hq1x hq2x hq3x
                                                                  have hO := kO_keep hO hdis hf1
                                                                  obtain ⟨hT, nr141⟩ := kp_R (i := 1) (f := fun j => q 31 j) hp (by decide : (1 : Int32).toInt = ((1 : Nat) : Int)) (by omega) (fun j hj => (hR.2.2.2.2.2.1 j hj).2 31 (by decide)) (show q 31 1 < 2 ^ 31 by omega)
                                                                  subst hT
                                                                  refine lv_if_le (tgt := 157) hx hb dL_areStocks_150 (by decide) (fun c142 => ?_) (fun c142 => ?_)
                                                                  · have d142 : r141.toInt ≤ (0) := (kc_le (rfl : r141.toInt = r141.toInt) (by decide : (0 : Int32).toInt = 0)).mp c142
                                                                    exfalso; omega
                                                                  · have d142 : ¬ (r141.toInt ≤ (0)) := mt (kc_le (rfl : r141.toInt = r141.toInt) (by decide : (0 : Int32).toInt = 0)).mpr c142
                                                                    refine lv_iconst (v := 1) hx hb dL_areStocks_153 (by decide) ?_
                                                                    refine lv_goto (tgt := 158) hx hb dL_areStocks_154 (by decide) ?_
                                                                    refine lv_aload_n hx hb dL_areStocks_158 rfl (lv_at hl 3 rfl) ?_
                                                                    refine lv_iload hx hb dL_areStocks_159 (lv_at hl 0 rfl) ?_
                                                                    refine kcallhI (kSthW (n := 2) (As := [.ref (z 0), .int 1]) (rest := [.int 1, .int 1]) F hE hNc hK hP hD hS hA (kh_minutesOf l g e0 S _ (z 0) 1 _ _ hI.ob0 (c_X5_minutesOf l hl0 g e0 z S _ hI 1) (fun E h => h.1)) kw_248 kw_249 kw_61 kw_250 (by decide +kernel) ⟨Nat.le_of_ble_eq_true rfl, Nat.le_of_ble_eq_true rfl⟩ rfl hl.1 rfl (Nat.le_of_ble_eq_true rfl) dL_areStocks_161 ⟨(by show 0 + 1 + 1 + 1 + 1 + 1 + 1 + 1 + 1 + 1 + 1 + 1 + 1 + 1 + 1 + 1 + 1 + 1 + 1 + 1 + 1 + 1 + 1 + 1 + 1 + 1 + 1 + 1 + 1 + 1 + 1 + 1 + 1 + 1 + 1 + 1 + 1 + 1 + 1 + 1 + 2 + 1 + 1 + 1 ≤ 45; omega), (by show 0 + 6 + 6 + 6 + 6 + 6 + 6 + 6 + 6 + 6 + 6 + 6 + 6 + 6 + 6 + 6 + 6 + 6 + 6 + 6 + 6 + 6 + 6 + 6 + 6 + 6 + 6 + 6 + 6 + 6 + 6 + 6 + 6 + 6 + 6 + 6 + 6 + 6 + 6 + 6 + 12 + 6 + 6 + 6 ≤ 270; omega)⟩) rfl hD hS hA (fun r143 T1 H locs hp hP hq1x hq2x hq3x hf1 hS => ?_)
                                                                    clear hq1x hq2x hq3x
                                                                    have hO := kO_keep hO hdis hf1
                                                                    obtain ⟨hT, nr143⟩ := kp_R (i := 1) (f := fun j => q 32 j) hp (by decide : (1 : Int32).toInt = ((1 : Nat) : Int)) (by omega) (fun j hj => (hR.2.2.2.2.2.1 j hj).2 32 (by decide)) (show q 32 1 < 2 ^ 31 by omega)
                                                                    subst hT
                                                                    refine lv_if_le (tgt := 171) hx hb dL_areStocks_164 (by decide) (fun c144 => ?_) (fun c144 => ?_)
                                                                    · have d144 : r143.toInt ≤ (0) := (kc_le (rfl : r143.toInt = r143.toInt) (by decide : (0 : Int32).toInt = 0)).mp c144
                                                                      exfalso; omega
                                                                    · have d144 : ¬ (r143.toInt ≤ (0)) := mt (kc_le (rfl : r143.toInt = r143.toInt) (by decide : (0 : Int32).toInt = 0)).mpr c144
                                                                      refine lv_iconst (v := 1) hx hb dL_areStocks_167 (by decide) ?_
                                                                      refine lv_goto (tgt := 172) hx hb dL_areStocks_168 (by decide) ?_
                                                                      refine lv_icmp_ne (tgt := 210) hx hb dL_areStocks_172 (by decide) (fun c145 => ?_) (fun c145 => ?_)
                                                                      · exact absurd c145 (by decide)
                                                                      · refine lv_aload_n hx hb dL_areStocks_175 rfl (lv_at hl 3 rfl) ?_
                                                                        refine lv_iload hx hb dL_areStocks_176 (lv_at hl 0 rfl) ?_
                                                                        refine kcallhI (kSthW (n := 2) (As := [.ref (z 0), .int 1]) (rest := [.int 1]) F hE hNc hK hP hD hS hA (kh_carried l g e0 S _ (z 0) 1 _ _ hI.ob0 (c_X5_carried l hl0 g e0 z S _ hI 1) (fun E h => h.1)) kw_236 kw_237 kw_61 kw_238 (by decide +kernel) ⟨Nat.le_of_ble_eq_true rfl, Nat.le_of_ble_eq_true rfl⟩ rfl hl.1 rfl (Nat.le_of_ble_eq_true rfl) dL_areStocks_178 ⟨(by show 0 + 1 + 1 + 1 + 1 + 1 + 1 + 1 + 1 + 1 + 1 + 1 + 1 + 1 + 1 + 1 + 1 + 1 + 1 + 1 + 1 + 1 + 1 + 1 + 1 + 1 + 1 + 1 + 1 + 1 + 1 + 1 + 1 + 1 + 1 + 1 + 1 + 1 + 1 + 1 + 2 + 1 + 1 + 1 + 1 ≤ 45; omega), (by show 0 + 6 + 6 + 6 + 6 + 6 + 6 + 6 + 6 + 6 + 6 + 6 + 6 + 6 + 6 + 6 + 6 + 6 + 6 + 6 + 6 + 6 + 6 + 6 + 6 + 6 + 6 + 6 + 6 + 6 + 6 + 6 + 6 + 6 + 6 + 6 + 6 + 6 + 6 + 6 + 12 + 6 + 6 + 6 + 6 ≤ 270; omega)⟩) rfl hD hS hA (fun r146 T1 H locs hp hP hq1x hq2x hq3x hf1 hS => ?_)
                                                                        clear hq1x hq2x hq3x
                                                                        have hO := kO_keep hO hdis hf1
                                                                        obtain ⟨hT, nr146⟩ := kp_R (i := 1) (f := fun j => q 31 j) hp (by decide : (1 : Int32).toInt = ((1 : Nat) : Int)) (by omega) (fun j hj => (hR.2.2.2.2.2.1 j hj).2 31 (by decide)) (show q 31 1 < 2 ^ 31 by omega)
                                                                        subst hT
                                                                        refine lv_if_le (tgt := 188) hx hb dL_areStocks_181 (by decide) (fun c147 => ?_) (fun c147 => ?_)
                                                                        · have d147 : r146.toInt ≤ (0) := (kc_le (rfl : r146.toInt = r146.toInt) (by decide : (0 : Int32).toInt = 0)).mp c147
                                                                          exfalso; omega
                                                                        · have d147 : ¬ (r146.toInt ≤ (0)) := mt (kc_le (rfl : r146.toInt = r146.toInt) (by decide : (0 : Int32).toInt = 0)).mpr c147
                                                                          refine lv_iconst (v := 1) hx hb dL_areStocks_184 (by decide) ?_
                                                                          refine lv_goto (tgt := 189) hx hb dL_areStocks_185 (by decide) ?_
                                                                          refine lv_aload_n hx hb dL_areStocks_189 rfl (lv_at hl 3 rfl) ?_
                                                                          refine lv_iload hx hb dL_areStocks_190 (lv_at hl 0 rfl) ?_
                                                                          refine kcallhI (kSthW (n := 2) (As := [.ref (z 0), .int 1]) (rest := [.int 1, .int 1]) F hE hNc hK hP hD hS hA (kh_aisleOf l g e0 S _ (z 0) 1 _ _ hI.ob0 (c_X5_aisleOf_x l hl0 g e0 z S _ hI av lv q hR hW.1 1) (fun E h => h.imp And.left And.left)) kw_467 kw_468 kw_61 kw_469 (by decide +kernel) ⟨Nat.le_of_ble_eq_true rfl, Nat.le_of_ble_eq_true rfl⟩ rfl hl.1 rfl (Nat.le_of_ble_eq_true rfl) dL_areStocks_192 ⟨(by show 0 + 1 + 1 + 1 + 1 + 1 + 1 + 1 + 1 + 1 + 1 + 1 + 1 + 1 + 1 + 1 + 1 + 1 + 1 + 1 + 1 + 1 + 1 + 1 + 1 + 1 + 1 + 1 + 1 + 1 + 1 + 1 + 1 + 1 + 1 + 1 + 1 + 1 + 1 + 1 + 2 + 1 + 1 + 1 + 1 + 2 ≤ 45; omega), (by show 0 + 6 + 6 + 6 + 6 + 6 + 6 + 6 + 6 + 6 + 6 + 6 + 6 + 6 + 6 + 6 + 6 + 6 + 6 + 6 + 6 + 6 + 6 + 6 + 6 + 6 + 6 + 6 + 6 + 6 + 6 + 6 + 6 + 6 + 6 + 6 + 6 + 6 + 6 + 6 + 12 + 6 + 6 + 6 + 6 + 12 ≤ 270; omega)⟩) rfl hD hS hA (fun r148 T1 H locs hp hP hq1x hq2x hq3x hf1 hS => ?_)
                                                                          clear hq1x hq2x hq3x
                                                                          have hO := kO_keep hO hdis hf1
                                                                          obtain ⟨hT, ar148, br148⟩ := kp_I (i := 1) (k := fun j => q 30 j) (f := fun j => q 0 (q 10 (q 30 j - 1))) hp (by decide : (1 : Int32).toInt = ((1 : Nat) : Int)) (by omega) (fun h9 => (by have h9 : q 30 1 ≠ 0 := h9; show q 0 (q 10 (q 30 1 - 1)) < 2 ^ 31; have h8 := hW.1.1.2.2.2 (q 30 1 - 1) (by omega); rw [hL.2.1 _ h8]; omega))
                                                                          subst hT
                                                                          refine lv_if_lt (tgt := 202) hx hb dL_areStocks_195 (by decide) (fun c149 => ?_) (fun c149 => ?_)
                                                                          · have d149 : r148.toInt < (0) := (kc_lt (rfl : r148.toInt = r148.toInt) (by decide : (0 : Int32).toInt = 0)).mp c149
                                                                            exfalso; omega
                                                                          · have d149 : ¬ (r148.toInt < (0)) := mt (kc_lt (rfl : r148.toInt = r148.toInt) (by decide : (0 : Int32).toInt = 0)).mpr c149
                                                                            refine lv_iconst (v := 1) hx hb dL_areStocks_198 (by decide) ?_
                                                                            refine lv_goto (tgt := 203) hx hb dL_areStocks_199 (by decide) ?_
                                                                            refine lv_icmp_ne (tgt := 210) hx hb dL_areStocks_203 (by decide) (fun c150 => ?_) (fun c150 => ?_)
                                                                            · exact absurd c150 (by decide)
                                                                            · refine lv_iconst (v := 1) hx hb dL_areStocks_206 (by decide) ?_
                                                                              refine lv_goto (tgt := 211) hx hb dL_areStocks_207 (by decide) ?_
                                                                              refine lv_iand hx hb dL_areStocks_211 ?_
                                                                              refine lv_topi (fun x151 e151 => ?_)
                                                                              obtain rfl : x151 = 1 := e151.trans (by decide)
                                                                              refine lv_istore (lv' := [(4, .int 1), (5, .int 1), (3, .int x54), (0, .ref (z 0)), (1, .int un), (2, .ref rr)]) hx hb dL_areStocks_212 hl (by decide) rfl (fun ls hl => ?_)
                                                                              refine lv_iinc (v := 2) (lv' := [(5, .int 2), (4, .int 1), (3, .int x54), (0, .ref (z 0)), (1, .int un), (2, .ref rr)]) hx hb dL_areStocks_214 hl (k := 1) rfl (by decide) (by decide) rfl (fun ls hl => ?_)
                                                                              refine lv_goto (tgt := 136) hx hb dL_areStocks_217 (by decide) ?_
                                                                              refine lv_iload hx hb dL_areStocks_136 (lv_at hl 0 rfl) ?_
                                                                              refine lv_iconst (v := 2) hx hb dL_areStocks_138 (by decide) ?_
                                                                              refine lv_icmp_ge (tgt := 220) hx hb dL_areStocks_139 (by decide) (fun c152 => ?_) (fun c152 => ?_)
                                                                              · refine lv_iload hx hb dL_areStocks_220 (lv_at hl 1 rfl) ?_
                                                                                refine lv_if_eq (tgt := 234) hx hb dL_areStocks_222 (by decide) (fun c153 => ?_) (fun c153 => ?_)
                                                                                · exact absurd c153 (by decide)
                                                                                · refine lv_iload_n hx hb dL_areStocks_225 rfl (lv_at hl 2 rfl) ?_
                                                                                  refine lv_iload_n hx hb dL_areStocks_226 rfl (lv_at hl 4 rfl) ?_
                                                                                  refine lv_icmp_ne (tgt := 234) hx hb dL_areStocks_227 (by decide) (fun c154 => ?_) (fun c154 => ?_)
                                                                                  · have d154 : x54.toInt ≠ un.toInt := mt (kc_eq (rfl : x54.toInt = x54.toInt) (rfl : un.toInt = un.toInt)).mpr c154
                                                                                    exfalso; omega
                                                                                  · have d154 : x54.toInt = un.toInt := (kc_eq (rfl : x54.toInt = x54.toInt) (rfl : un.toInt = un.toInt)).mp c154
                                                                                    refine lv_iconst (v := 1) hx hb dL_areStocks_230 (by decide) ?_
                                                                                    refine lv_goto (tgt := 235) hx hb dL_areStocks_231 (by decide) ?_
                                                                                    exact kEndv F hr rfl hlk hP hO hS (by omega) (by omega) dL_areStocks_235 rfl
                                                                              · exact absurd (by decide) c152
                                            · exact absurd (by decide) c73
