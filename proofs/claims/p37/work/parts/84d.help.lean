theorem dL_areOrders_0 : decode cL_areOrders 0 = .ok (.iconst 3, 1) := by decide +kernel
theorem dL_areOrders_1 : decode cL_areOrders 1 = .ok (.newarray .int, 2) := by decide +kernel
theorem dL_areOrders_3 : decode cL_areOrders 3 = .ok (.astore 5, 2) := by decide +kernel
theorem dL_areOrders_5 : decode cL_areOrders 5 = .ok (.lconst 0, 1) := by decide +kernel
theorem dL_areOrders_6 : decode cL_areOrders 6 = .ok (.lstore 6, 2) := by decide +kernel
theorem dL_areOrders_8 : decode cL_areOrders 8 = .ok (.iconst 0, 1) := by decide +kernel
theorem dL_areOrders_9 : decode cL_areOrders 9 = .ok (.istore 8, 2) := by decide +kernel
theorem dL_areOrders_11 : decode cL_areOrders 11 = .ok (.aload_n 0, 1) := by decide +kernel
theorem dL_areOrders_12 : decode cL_areOrders 12 = .ok (.invokevirtual 213, 3) := by decide +kernel
theorem dL_areOrders_15 : decode cL_areOrders 15 = .ok (.iload_n 1, 1) := by decide +kernel
theorem dL_areOrders_16 : decode cL_areOrders 16 = .ok (.if_icmp .ne 7, 3) := by decide +kernel
theorem dL_areOrders_19 : decode cL_areOrders 19 = .ok (.iconst 1, 1) := by decide +kernel
theorem dL_areOrders_20 : decode cL_areOrders 20 = .ok (.goto 4, 3) := by decide +kernel
theorem dL_areOrders_23 : decode cL_areOrders 23 = .ok (.iconst 0, 1) := by decide +kernel
theorem dL_areOrders_24 : decode cL_areOrders 24 = .ok (.istore 9, 2) := by decide +kernel
theorem dL_areOrders_26 : decode cL_areOrders 26 = .ok (.iconst 0, 1) := by decide +kernel
theorem dL_areOrders_27 : decode cL_areOrders 27 = .ok (.istore 10, 2) := by decide +kernel
theorem dL_areOrders_29 : decode cL_areOrders 29 = .ok (.iload 10, 2) := by decide +kernel
theorem dL_areOrders_31 : decode cL_areOrders 31 = .ok (.iload_n 1, 1) := by decide +kernel
theorem dL_areOrders_32 : decode cL_areOrders 32 = .ok (.if_icmp .ge 154, 3) := by decide +kernel
theorem dL_areOrders_35 : decode cL_areOrders 35 = .ok (.aload_n 0, 1) := by decide +kernel
theorem dL_areOrders_36 : decode cL_areOrders 36 = .ok (.iload 10, 2) := by decide +kernel
theorem dL_areOrders_38 : decode cL_areOrders 38 = .ok (.invokestatic 129, 3) := by decide +kernel
theorem dL_areOrders_41 : decode cL_areOrders 41 = .ok (.istore 11, 2) := by decide +kernel
theorem dL_areOrders_43 : decode cL_areOrders 43 = .ok (.aload 5, 2) := by decide +kernel
theorem dL_areOrders_45 : decode cL_areOrders 45 = .ok (.aload_n 2, 1) := by decide +kernel
theorem dL_areOrders_46 : decode cL_areOrders 46 = .ok (.iload 10, 2) := by decide +kernel
theorem dL_areOrders_48 : decode cL_areOrders 48 = .ok (.iaload, 1) := by decide +kernel
theorem dL_areOrders_49 : decode cL_areOrders 49 = .ok (.dup2, 1) := by decide +kernel
theorem dL_areOrders_50 : decode cL_areOrders 50 = .ok (.iaload, 1) := by decide +kernel
theorem dL_areOrders_51 : decode cL_areOrders 51 = .ok (.iload 11, 2) := by decide +kernel
theorem dL_areOrders_53 : decode cL_areOrders 53 = .ok (.bipush 112, 2) := by decide +kernel
theorem dL_areOrders_55 : decode cL_areOrders 55 = .ok (.if_icmp .ne 12, 3) := by decide +kernel
theorem dL_areOrders_58 : decode cL_areOrders 58 = .ok (.aload_n 0, 1) := by decide +kernel
theorem dL_areOrders_59 : decode cL_areOrders 59 = .ok (.iload 10, 2) := by decide +kernel
theorem dL_areOrders_61 : decode cL_areOrders 61 = .ok (.invokestatic 132, 3) := by decide +kernel
theorem dL_areOrders_64 : decode cL_areOrders 64 = .ok (.goto 4, 3) := by decide +kernel
theorem dL_areOrders_67 : decode cL_areOrders 67 = .ok (.iconst 0, 1) := by decide +kernel
theorem dL_areOrders_68 : decode cL_areOrders 68 = .ok (.iadd, 1) := by decide +kernel
theorem dL_areOrders_69 : decode cL_areOrders 69 = .ok (.iastore, 1) := by decide +kernel
theorem dL_areOrders_70 : decode cL_areOrders 70 = .ok (.lload 6, 2) := by decide +kernel
theorem dL_areOrders_72 : decode cL_areOrders 72 = .ok (.iload 11, 2) := by decide +kernel
theorem dL_areOrders_74 : decode cL_areOrders 74 = .ok (.bipush 115, 2) := by decide +kernel
theorem dL_areOrders_76 : decode cL_areOrders 76 = .ok (.if_icmp .ne 13, 3) := by decide +kernel
theorem dL_areOrders_79 : decode cL_areOrders 79 = .ok (.aload_n 0, 1) := by decide +kernel
theorem dL_areOrders_80 : decode cL_areOrders 80 = .ok (.iload 10, 2) := by decide +kernel
theorem dL_areOrders_82 : decode cL_areOrders 82 = .ok (.invokestatic 132, 3) := by decide +kernel
theorem dL_areOrders_85 : decode cL_areOrders 85 = .ok (.i2l, 1) := by decide +kernel
theorem dL_areOrders_86 : decode cL_areOrders 86 = .ok (.goto 4, 3) := by decide +kernel
theorem dL_areOrders_89 : decode cL_areOrders 89 = .ok (.lconst 0, 1) := by decide +kernel
theorem dL_areOrders_90 : decode cL_areOrders 90 = .ok (.ladd, 1) := by decide +kernel
theorem dL_areOrders_91 : decode cL_areOrders 91 = .ok (.lstore 6, 2) := by decide +kernel
theorem dL_areOrders_93 : decode cL_areOrders 93 = .ok (.iload 8, 2) := by decide +kernel
theorem dL_areOrders_95 : decode cL_areOrders 95 = .ok (.iload 11, 2) := by decide +kernel
theorem dL_areOrders_97 : decode cL_areOrders 97 = .ok (.bipush 115, 2) := by decide +kernel
theorem dL_areOrders_99 : decode cL_areOrders 99 = .ok (.if_icmp .ne 7, 3) := by decide +kernel
theorem dL_areOrders_102 : decode cL_areOrders 102 = .ok (.iconst 1, 1) := by decide +kernel
theorem dL_areOrders_103 : decode cL_areOrders 103 = .ok (.goto 4, 3) := by decide +kernel
theorem dL_areOrders_106 : decode cL_areOrders 106 = .ok (.iconst 0, 1) := by decide +kernel
theorem dL_areOrders_107 : decode cL_areOrders 107 = .ok (.iadd, 1) := by decide +kernel
theorem dL_areOrders_108 : decode cL_areOrders 108 = .ok (.istore 8, 2) := by decide +kernel
theorem dL_areOrders_110 : decode cL_areOrders 110 = .ok (.iload 9, 2) := by decide +kernel
theorem dL_areOrders_112 : decode cL_areOrders 112 = .ok (.iload 11, 2) := by decide +kernel
theorem dL_areOrders_114 : decode cL_areOrders 114 = .ok (.aload_n 0, 1) := by decide +kernel
theorem dL_areOrders_115 : decode cL_areOrders 115 = .ok (.iload 10, 2) := by decide +kernel
theorem dL_areOrders_117 : decode cL_areOrders 117 = .ok (.invokestatic 220, 3) := by decide +kernel
theorem dL_areOrders_120 : decode cL_areOrders 120 = .ok (.if_icmp .ne 56, 3) := by decide +kernel
theorem dL_areOrders_123 : decode cL_areOrders 123 = .ok (.iload 11, 2) := by decide +kernel
theorem dL_areOrders_125 : decode cL_areOrders 125 = .ok (.bipush 112, 2) := by decide +kernel
theorem dL_areOrders_127 : decode cL_areOrders 127 = .ok (.if_icmp .ne 24, 3) := by decide +kernel
theorem dL_areOrders_130 : decode cL_areOrders 130 = .ok (.aload 4, 2) := by decide +kernel
theorem dL_areOrders_132 : decode cL_areOrders 132 = .ok (.aload_n 3, 1) := by decide +kernel
theorem dL_areOrders_133 : decode cL_areOrders 133 = .ok (.aload_n 2, 1) := by decide +kernel
theorem dL_areOrders_134 : decode cL_areOrders 134 = .ok (.iload 10, 2) := by decide +kernel
theorem dL_areOrders_136 : decode cL_areOrders 136 = .ok (.iaload, 1) := by decide +kernel
theorem dL_areOrders_137 : decode cL_areOrders 137 = .ok (.iaload, 1) := by decide +kernel
theorem dL_areOrders_138 : decode cL_areOrders 138 = .ok (.baload, 1) := by decide +kernel
theorem dL_areOrders_139 : decode cL_areOrders 139 = .ok (.ifCond .ne 37, 3) := by decide +kernel
theorem dL_areOrders_142 : decode cL_areOrders 142 = .ok (.aload_n 0, 1) := by decide +kernel
theorem dL_areOrders_143 : decode cL_areOrders 143 = .ok (.iload 10, 2) := by decide +kernel
theorem dL_areOrders_145 : decode cL_areOrders 145 = .ok (.invokestatic 134, 3) := by decide +kernel
theorem dL_areOrders_148 : decode cL_areOrders 148 = .ok (.ifCond .lt 28, 3) := by decide +kernel
theorem dL_areOrders_151 : decode cL_areOrders 151 = .ok (.aload_n 0, 1) := by decide +kernel
theorem dL_areOrders_152 : decode cL_areOrders 152 = .ok (.iload 10, 2) := by decide +kernel
theorem dL_areOrders_154 : decode cL_areOrders 154 = .ok (.invokestatic 132, 3) := by decide +kernel
theorem dL_areOrders_157 : decode cL_areOrders 157 = .ok (.iload 11, 2) := by decide +kernel
theorem dL_areOrders_159 : decode cL_areOrders 159 = .ok (.bipush 100, 2) := by decide +kernel
theorem dL_areOrders_161 : decode cL_areOrders 161 = .ok (.if_icmp .ne 7, 3) := by decide +kernel
theorem dL_areOrders_164 : decode cL_areOrders 164 = .ok (.iconst 0, 1) := by decide +kernel
theorem dL_areOrders_165 : decode cL_areOrders 165 = .ok (.goto 4, 3) := by decide +kernel
theorem dL_areOrders_168 : decode cL_areOrders 168 = .ok (.iconst 1, 1) := by decide +kernel
theorem dL_areOrders_169 : decode cL_areOrders 169 = .ok (.if_icmp .lt 7, 3) := by decide +kernel
theorem dL_areOrders_172 : decode cL_areOrders 172 = .ok (.iconst 1, 1) := by decide +kernel
theorem dL_areOrders_173 : decode cL_areOrders 173 = .ok (.goto 4, 3) := by decide +kernel
theorem dL_areOrders_176 : decode cL_areOrders 176 = .ok (.iconst 0, 1) := by decide +kernel
theorem dL_areOrders_177 : decode cL_areOrders 177 = .ok (.iand, 1) := by decide +kernel
theorem dL_areOrders_178 : decode cL_areOrders 178 = .ok (.istore 9, 2) := by decide +kernel
theorem dL_areOrders_180 : decode cL_areOrders 180 = .ok (.iinc 10 1, 3) := by decide +kernel
theorem dL_areOrders_183 : decode cL_areOrders 183 = .ok (.goto (-154), 3) := by decide +kernel
theorem dL_areOrders_186 : decode cL_areOrders 186 = .ok (.iconst 0, 1) := by decide +kernel
theorem dL_areOrders_187 : decode cL_areOrders 187 = .ok (.istore 10, 2) := by decide +kernel
theorem dL_areOrders_189 : decode cL_areOrders 189 = .ok (.iload 10, 2) := by decide +kernel
theorem dL_areOrders_191 : decode cL_areOrders 191 = .ok (.iconst 3, 1) := by decide +kernel
theorem dL_areOrders_192 : decode cL_areOrders 192 = .ok (.if_icmp .ge 33, 3) := by decide +kernel
theorem dL_areOrders_195 : decode cL_areOrders 195 = .ok (.iload 9, 2) := by decide +kernel
theorem dL_areOrders_197 : decode cL_areOrders 197 = .ok (.aload 5, 2) := by decide +kernel
theorem dL_areOrders_199 : decode cL_areOrders 199 = .ok (.iload 10, 2) := by decide +kernel
theorem dL_areOrders_201 : decode cL_areOrders 201 = .ok (.iaload, 1) := by decide +kernel
theorem dL_areOrders_202 : decode cL_areOrders 202 = .ok (.aload_n 0, 1) := by decide +kernel
theorem dL_areOrders_203 : decode cL_areOrders 203 = .ok (.iload 10, 2) := by decide +kernel
theorem dL_areOrders_205 : decode cL_areOrders 205 = .ok (.invokestatic 152, 3) := by decide +kernel
theorem dL_areOrders_208 : decode cL_areOrders 208 = .ok (.if_icmp .ne 7, 3) := by decide +kernel
theorem dL_areOrders_211 : decode cL_areOrders 211 = .ok (.iconst 1, 1) := by decide +kernel
theorem dL_areOrders_212 : decode cL_areOrders 212 = .ok (.goto 4, 3) := by decide +kernel
theorem dL_areOrders_215 : decode cL_areOrders 215 = .ok (.iconst 0, 1) := by decide +kernel
theorem dL_areOrders_216 : decode cL_areOrders 216 = .ok (.iand, 1) := by decide +kernel
theorem dL_areOrders_217 : decode cL_areOrders 217 = .ok (.istore 9, 2) := by decide +kernel
theorem dL_areOrders_219 : decode cL_areOrders 219 = .ok (.iinc 10 1, 3) := by decide +kernel
theorem dL_areOrders_222 : decode cL_areOrders 222 = .ok (.goto (-33), 3) := by decide +kernel
theorem dL_areOrders_225 : decode cL_areOrders 225 = .ok (.iload 9, 2) := by decide +kernel
theorem dL_areOrders_227 : decode cL_areOrders 227 = .ok (.ifCond .eq 40, 3) := by decide +kernel
theorem dL_areOrders_230 : decode cL_areOrders 230 = .ok (.lload 6, 2) := by decide +kernel
theorem dL_areOrders_232 : decode cL_areOrders 232 = .ok (.aload_n 0, 1) := by decide +kernel
theorem dL_areOrders_233 : decode cL_areOrders 233 = .ok (.invokevirtual 154, 3) := by decide +kernel
theorem dL_areOrders_236 : decode cL_areOrders 236 = .ok (.lcmp, 1) := by decide +kernel
theorem dL_areOrders_237 : decode cL_areOrders 237 = .ok (.ifCond .ne 30, 3) := by decide +kernel
theorem dL_areOrders_240 : decode cL_areOrders 240 = .ok (.aload_n 0, 1) := by decide +kernel
theorem dL_areOrders_241 : decode cL_areOrders 241 = .ok (.invokestatic 222, 3) := by decide +kernel
theorem dL_areOrders_244 : decode cL_areOrders 244 = .ok (.iload_n 1, 1) := by decide +kernel
theorem dL_areOrders_245 : decode cL_areOrders 245 = .ok (.ifCond .ne 8, 3) := by decide +kernel
theorem dL_areOrders_248 : decode cL_areOrders 248 = .ok (.ldc 114, 2) := by decide +kernel
theorem dL_areOrders_250 : decode cL_areOrders 250 = .ok (.goto 9, 3) := by decide +kernel
theorem dL_areOrders_253 : decode cL_areOrders 253 = .ok (.iload 8, 2) := by decide +kernel
theorem dL_areOrders_255 : decode cL_areOrders 255 = .ok (.i2f, 1) := by decide +kernel
theorem dL_areOrders_256 : decode cL_areOrders 256 = .ok (.iload_n 1, 1) := by decide +kernel
theorem dL_areOrders_257 : decode cL_areOrders 257 = .ok (.i2f, 1) := by decide +kernel
theorem dL_areOrders_258 : decode cL_areOrders 258 = .ok (.fdiv, 1) := by decide +kernel
theorem dL_areOrders_259 : decode cL_areOrders 259 = .ok (.fcmp .l, 1) := by decide +kernel
theorem dL_areOrders_260 : decode cL_areOrders 260 = .ok (.ifCond .ne 7, 3) := by decide +kernel
theorem dL_areOrders_263 : decode cL_areOrders 263 = .ok (.iconst 1, 1) := by decide +kernel
theorem dL_areOrders_264 : decode cL_areOrders 264 = .ok (.goto 4, 3) := by decide +kernel
theorem dL_areOrders_267 : decode cL_areOrders 267 = .ok (.iconst 0, 1) := by decide +kernel
theorem dL_areOrders_268 : decode cL_areOrders 268 = .ok (.ireturn, 1) := by decide +kernel
set_option maxHeartbeats 4000000 in
set_option maxRecDepth 100000 in
theorem c_L_areOrders (l : Launch) (hl0 : l.stackTraces = false) (g : kG) (e0 : Nat) (z av lv : Nat → Nat) (S O : wPS) (sz : Nat) (q : qS) (hI : Inv z e0 S) (hR : Rq z av lv S q) (hW : q_W q) (hL : q_L q) (hU : q_U q ≤ 5000) (ra rr rb ri : Nat) (on : Int32) (hO9 : q_O O ra rr rb ri q) (hon : on.toInt = ((q 73 0 : Nat) : Int)) : kMv l g e0 yL_areOrders cL_areOrders 12 (some .boolean) 9 147 79 471 [.ref (z 0), .int on, .ref ri, .ref ra, .ref rb] S O sz (fun v => v = .int 1) := by
  refine kMv.of (by decide) (Nat.le_of_ble_eq_true rfl) ?_
  intro p e s m below meth c ls B
  obtain ⟨F, hr, hlk, hP, hO, hK, hD, hDO, hdis, hE, hNc, hS, hA, hl, hsz⟩ := B
  subst hsz
  have hx := F.1
  have hb := F.2.1
  have hl : lv_has ls 12 [(0, .ref (z 0)), (1, .int on), (2, .ref ri), (3, .ref ra), (4, .ref rb)] := hl
  have h721 : q 72 0 = 3 := hL.1
  have h72 : q 72 0 ≤ 12 := by omega
  have h73 : q 73 0 ≤ 12 := hW.1.1.2.1
  have hro : q 42 0 ≤ 504 := q_room hW.1.1 hW.1.2.2.2.1 hW.1.2.2.2.2.1
  have hroom : q 42 0 < 516 := by omega
  have h57 : q 57 0 ≤ 20 := hW.1.2.2.2.2.1.1
  have h56 : q 56 0 ≤ 1439 := hL.2.2.2.2.2.1
  have h25 : ∀ i, i < q 73 0 → q 25 i < 2 ^ 31 := fun i hi => by have := (hW.1.2.2.1 i hi).2.2.2; omega
  refine lv_iconst (v := 3) hx hb dL_areOrders_0 (by decide) ?_
  refine rn3_R_I (w0 := kW g S) (N := 3) F hK (va_P.app hP hO) (kD_app hD hDO hdis) hS hA kw_3 (by decide) (by decide) (Nat.le_of_ble_eq_true rfl) (by show 0 + 1 ≤ 79; omega) (by show 0 + 3 ≤ 471; omega) dL_areOrders_1 (fun p1 H hp1 hPa hDa hS => ?_)
  have hP := va_P_l hPa
  have hO := va_P_r hPa
  have hDO := va_D_r hDa
  have hdis := kd_of2 hDa
  have hdis9 := hdis
  rw [kx_new (O := O) (p := p1) (kd := 9) (n := 3)] at hO hDO
  refine lv_astore (lv' := [(5, .ref p1), (0, .ref (z 0)), (1, .int on), (2, .ref ri), (3, .ref ra), (4, .ref rb)]) hx hb dL_areOrders_3 hl (by decide) rfl (fun ls hl => ?_)
  refine lv_lconst (v := 0) hx hb dL_areOrders_5 (by decide) ?_
  refine lv_lstore (lv' := [(6, .long (0 : Int64)), (5, .ref p1), (0, .ref (z 0)), (1, .int on), (2, .ref ri), (3, .ref ra), (4, .ref rb)]) hx hb dL_areOrders_6 hl (by decide) rfl (fun ls hl => ?_)
  refine lv_iconst (v := 0) hx hb dL_areOrders_8 (by decide) ?_
  refine lv_istore (lv' := [(8, .int 0), (6, .long (0 : Int64)), (5, .ref p1), (0, .ref (z 0)), (1, .int on), (2, .ref ri), (3, .ref ra), (4, .ref rb)]) hx hb dL_areOrders_9 hl (by decide) rfl (fun ls hl => ?_)
  refine lv_aload_n hx hb dL_areOrders_11 rfl (lv_at hl 3 rfl) ?_
  refine kcallWI (kV (n := 0) (As := []) (rest := []) (b := z 0) (C := RX5) F hE hK hP hD hS hA (c_X5_orders l hl0 g e0 z S _ hI) (rr_Pickwave hK hP hI.ob0) kw_256 kw_257 kw_258 kw_2 kw_259 (by decide +kernel) ⟨Nat.le_of_ble_eq_true rfl, Nat.le_of_ble_eq_true rfl⟩ rfl hl.1 rfl (Nat.le_of_ble_eq_true rfl) dL_areOrders_12 ⟨(by show 0 + 1 + 0 ≤ 79; omega), (by show 0 + 3 + 0 ≤ 471; omega)⟩) rfl hD hS hA (fun _ _ _ _ _ h => False.elim h) (fun r2 T1 H locs hp hP hq1x hq2x hq3x hf1 hS => ?_)
  clear hq1x hq2x hq3x
  have hO := kO_keep hO hdis hf1
  obtain ⟨hT, er2⟩ := hp
  have hT := hT.symm
  subst hT
  have vr2 : r2 = nI (q 73 0) := er2.trans hR.2.2.2.1.2
  have nr2 : r2.toInt = ((q 73 0 : Nat) : Int) := kt_nI vr2 (by omega)
  refine lv_iload_n hx hb dL_areOrders_15 rfl (lv_at hl 4 rfl) ?_
  refine lv_icmp_ne (tgt := 23) hx hb dL_areOrders_16 (by decide) (fun c3 => ?_) (fun c3 => ?_)
  · have d3 : r2.toInt ≠ on.toInt := mt (kc_eq (rfl : r2.toInt = r2.toInt) (rfl : on.toInt = on.toInt)).mpr c3
    exfalso; omega
  · have d3 : r2.toInt = on.toInt := (kc_eq (rfl : r2.toInt = r2.toInt) (rfl : on.toInt = on.toInt)).mp c3
    refine lv_iconst (v := 1) hx hb dL_areOrders_19 (by decide) ?_
    refine lv_goto (tgt := 24) hx hb dL_areOrders_20 (by decide) ?_
    refine lv_istore (lv' := [(9, .int 1), (8, .int 0), (6, .long (0 : Int64)), (5, .ref p1), (0, .ref (z 0)), (1, .int on), (2, .ref ri), (3, .ref ra), (4, .ref rb)]) hx hb dL_areOrders_24 hl (by decide) rfl (fun ls hl => ?_)
    refine lv_iconst (v := 0) hx hb dL_areOrders_26 (by decide) ?_
    refine lv_istore (lv' := [(10, .int 0), (9, .int 1), (8, .int 0), (6, .long (0 : Int64)), (5, .ref p1), (0, .ref (z 0)), (1, .int on), (2, .ref ri), (3, .ref ra), (4, .ref rb)]) hx hb dL_areOrders_27 hl (by decide) rfl (fun ls hl => ?_)
    have loop : ∀ (fu i : Nat) (xi : Int32) (sh : Int64) (mn : Int32) (f : Nat → Int32) (kc ns : Nat) (H : Heap) (locs : List Loc) (ls : Array Slot), va_P (kD g) vwCl (kW g S) H → va_P (kD g) vwCl (kW g (setX (newA O p1 9 3) p1 f)) H → va_D (kA2 S O s.heap.size) (kW g (setX (newA O p1 9 3) p1 f)) → va_S (kA2 S O s.heap.size) s.heap H locs → lv_has ls 12 [(10, .int xi), (6, .long sh), (8, .int mn), (9, .int 1), (5, .ref p1), (0, .ref (z 0)), (1, .int on), (2, .ref ri), (3, .ref ra), (4, .ref rb)] → q 73 0 - i < fu → xi.toInt = ((i : Nat) : Int) → i ≤ q 73 0 → kc ≤ 1 + 6 * i → ns ≤ 3 + 36 * i → (∀ a, a < 3 → f a = nI (q_sum q a i)) → (sh = lN (q_shp q i)) → (mn.toInt = ((q_sc q i : Nat) : Int)) → W p l e ({ frames := 9, cells := 79, slots := 471, locals := 147 }) s m ([.ref (z 0), .int on, .ref ri, .ref ra, .ref rb] : List Value).toArray below meth c H locs kc ns (vx_MQ below (kQv g S O s.heap.size (fun v => v = .int 1)) kXw ([.ref (z 0), .int on, .ref ri, .ref ra, .ref rb] : List Value).toArray s 79 471 (kA2 S O s.heap.size)) (F0 m 29 ls []) := by
      intro fu
      induction fu with
      | zero => intro i xi sh mn f kc ns H locs ls _ _ _ _ _ hfu; exact absurd hfu (Nat.not_lt_zero _)
      | succ fu ih =>
        intro i xi sh mn f kc ns H locs ls hP hO hDO hS hl hfu hi hin hkc hns hf hsh hmn
        have hdis : kdis S (setX (newA O p1 9 3) p1 f) := hdis9
        obtain ⟨⟨oa, la⟩, ⟨orr, lr⟩, ⟨obb, lb⟩, ⟨oi, li⟩, hne, hra, hrb, hri⟩ := (hO9.new (kd := 9) (n := 3) (f := f) hp1)
        have onew := kp_new (O := O) (p := p1) (kd := 9) (n := 3) (f := f)
        have hsb := q_shp_b (q := q) (m := i) (fun n hn => (hW.1.2.2.1 n (by omega)).2.2.1)
        have hcb := q_sc_le (q := q) (m := i)
        have hq0 := q_sum_b (q := q) (a := 0) (m := i) (fun n hn => (hW.1.2.2.1 n (by omega)).2.2.1)
        have hq1 := q_sum_b (q := q) (a := 1) (m := i) (fun n hn => (hW.1.2.2.1 n (by omega)).2.2.1)
        have hq2 := q_sum_b (q := q) (a := 2) (m := i) (fun n hn => (hW.1.2.2.1 n (by omega)).2.2.1)
        refine lv_iload hx hb dL_areOrders_29 (lv_at hl 0 rfl) ?_
        refine lv_iload_n hx hb dL_areOrders_31 rfl (lv_at hl 6 rfl) ?_
        refine lv_icmp_ge (tgt := 186) hx hb dL_areOrders_32 (by decide) (fun c4 => ?_) (fun c4 => ?_)
        · have d4 : on.toInt ≤ xi.toInt := (kc_le (rfl : on.toInt = on.toInt) (rfl : xi.toInt = xi.toInt)).mp c4
          have hiM : i = q 73 0 := by omega
          have w30 := hW.2.1 0 (by omega)
          have w31 := hW.2.1 1 (by omega)
          have w32 := hW.2.1 2 (by omega)
          have w20 := hW.1.2.1 0 (by omega)
          have w21 := hW.1.2.1 1 (by omega)
          have w22 := hW.1.2.1 2 (by omega)
          rw [← hiM] at w20 w21 w22
          refine lv_iconst (v := 0) hx hb dL_areOrders_186 (by decide) ?_
          refine lv_istore (lv' := [(10, .int 0), (6, .long sh), (8, .int mn), (9, .int 1), (5, .ref p1), (0, .ref (z 0)), (1, .int on), (2, .ref ri), (3, .ref ra), (4, .ref rb)]) hx hb dL_areOrders_187 hl (by decide) rfl (fun ls hl => ?_)
          refine lv_iload hx hb dL_areOrders_189 (lv_at hl 0 rfl) ?_
          refine lv_iconst (v := 3) hx hb dL_areOrders_191 (by decide) ?_
          refine lv_icmp_ge (tgt := 225) hx hb dL_areOrders_192 (by decide) (fun c5 => ?_) (fun c5 => ?_)
          · exact absurd c5 (by decide)
          · refine lv_iload hx hb dL_areOrders_195 (lv_at hl 3 rfl) ?_
            refine lv_aload hx hb dL_areOrders_197 (lv_at hl 4 rfl) ?_
            refine lv_iload hx hb dL_areOrders_199 (lv_at hl 0 rfl) ?_
            refine rd_I F hK hO onew.1 (by rw [onew.2]; exact kt_in (by decide : (0 : Int32).toInt = ((0 : Nat) : Int)) (by omega) (by decide)) dL_areOrders_201 ?_
            refine lv_topi (fun x6 ex6 => ?_)
            have nx6 : x6.toInt = ((q_sum q 0 i : Nat) : Int) := kt_nI (by rw [ex6, kt_clamp (by decide : (0 : Int32).toInt = ((0 : Nat) : Int)) (by omega)]; exact (show pX (setX (newA O p1 9 3) p1 f) p1 0 = nI (q_sum q 0 i) by rw [kxs_at]; exact hf 0 (by omega))) (by omega)
            refine lv_aload_n hx hb dL_areOrders_202 rfl (lv_at hl 5 rfl) ?_
            refine lv_iload hx hb dL_areOrders_203 (lv_at hl 0 rfl) ?_
            refine kcallhI (kSthW (n := 2) (As := [.ref (z 0), .int 0]) (rest := [.int x6, .int 1]) F hE hNc hK hP hD hS hA (kh_promised l g e0 S _ (z 0) 0 _ _ hI.ob0 (c_X5_promised_x l hl0 g e0 z S _ hI av lv q hR h72 0) (fun E h => h.1)) kw_228 kw_229 kw_61 kw_230 (by decide +kernel) ⟨Nat.le_of_ble_eq_true rfl, Nat.le_of_ble_eq_true rfl⟩ rfl hl.1 rfl (Nat.le_of_ble_eq_true rfl) dL_areOrders_205 ⟨(by show kc + 1 ≤ 79; omega), (by show ns + 6 ≤ 471; omega)⟩) rfl hD hS hA (fun r7 T1 H locs hp hP hq1x hq2x hq3x hf1 hS => ?_)
            clear hq1x hq2x hq3x
            have hO := kO_keep hO hdis hf1
            obtain ⟨hT, nr7⟩ := kp_A (i := 0) hp (by decide : (0 : Int32).toInt = ((0 : Nat) : Int)) (by omega) (by omega) (by omega)
            subst hT
            clear hp
            refine lv_icmp_ne (tgt := 215) hx hb dL_areOrders_208 (by decide) (fun c8 => ?_) (fun c8 => ?_)
            · have d8 : x6.toInt ≠ r7.toInt := mt (kc_eq (rfl : x6.toInt = x6.toInt) (rfl : r7.toInt = r7.toInt)).mpr c8
              exfalso; omega
            · have d8 : x6.toInt = r7.toInt := (kc_eq (rfl : x6.toInt = x6.toInt) (rfl : r7.toInt = r7.toInt)).mp c8
              refine lv_iconst (v := 1) hx hb dL_areOrders_211 (by decide) ?_
              refine lv_goto (tgt := 216) hx hb dL_areOrders_212 (by decide) ?_
              refine lv_iand hx hb dL_areOrders_216 ?_
              refine lv_topi (fun x9 e9 => ?_)
              obtain rfl : x9 = 1 := e9.trans (by decide)
              refine lv_istore (lv' := [(9, .int 1), (10, .int 0), (6, .long sh), (8, .int mn), (5, .ref p1), (0, .ref (z 0)), (1, .int on), (2, .ref ri), (3, .ref ra), (4, .ref rb)]) hx hb dL_areOrders_217 hl (by decide) rfl (fun ls hl => ?_)
              refine lv_iinc (v := 1) (lv' := [(10, .int 1), (9, .int 1), (6, .long sh), (8, .int mn), (5, .ref p1), (0, .ref (z 0)), (1, .int on), (2, .ref ri), (3, .ref ra), (4, .ref rb)]) hx hb dL_areOrders_219 hl (k := 1) rfl (by decide) (by decide) rfl (fun ls hl => ?_)
              refine lv_goto (tgt := 189) hx hb dL_areOrders_222 (by decide) ?_
              refine lv_iload hx hb dL_areOrders_189 (lv_at hl 0 rfl) ?_
              refine lv_iconst (v := 3) hx hb dL_areOrders_191 (by decide) ?_
              refine lv_icmp_ge (tgt := 225) hx hb dL_areOrders_192 (by decide) (fun c10 => ?_) (fun c10 => ?_)
              · exact absurd c10 (by decide)
              · refine lv_iload hx hb dL_areOrders_195 (lv_at hl 1 rfl) ?_
                refine lv_aload hx hb dL_areOrders_197 (lv_at hl 4 rfl) ?_
                refine lv_iload hx hb dL_areOrders_199 (lv_at hl 0 rfl) ?_
                refine rd_I F hK hO onew.1 (by rw [onew.2]; exact kt_in (by decide : (1 : Int32).toInt = ((1 : Nat) : Int)) (by omega) (by decide)) dL_areOrders_201 ?_
                refine lv_topi (fun x11 ex11 => ?_)
                have nx11 : x11.toInt = ((q_sum q 1 i : Nat) : Int) := kt_nI (by rw [ex11, kt_clamp (by decide : (1 : Int32).toInt = ((1 : Nat) : Int)) (by omega)]; exact (show pX (setX (newA O p1 9 3) p1 f) p1 1 = nI (q_sum q 1 i) by rw [kxs_at]; exact hf 1 (by omega))) (by omega)
                refine lv_aload_n hx hb dL_areOrders_202 rfl (lv_at hl 5 rfl) ?_
                refine lv_iload hx hb dL_areOrders_203 (lv_at hl 0 rfl) ?_
                refine kcallhI (kSthW (n := 2) (As := [.ref (z 0), .int 1]) (rest := [.int x11, .int 1]) F hE hNc hK hP hD hS hA (kh_promised l g e0 S _ (z 0) 1 _ _ hI.ob0 (c_X5_promised_x l hl0 g e0 z S _ hI av lv q hR h72 1) (fun E h => h.1)) kw_228 kw_229 kw_61 kw_230 (by decide +kernel) ⟨Nat.le_of_ble_eq_true rfl, Nat.le_of_ble_eq_true rfl⟩ rfl hl.1 rfl (Nat.le_of_ble_eq_true rfl) dL_areOrders_205 ⟨(by show kc + 1 + 1 ≤ 79; omega), (by show ns + 6 + 6 ≤ 471; omega)⟩) rfl hD hS hA (fun r12 T1 H locs hp hP hq1x hq2x hq3x hf1 hS => ?_)
                clear hq1x hq2x hq3x
                have hO := kO_keep hO hdis hf1
                obtain ⟨hT, nr12⟩ := kp_A (i := 1) hp (by decide : (1 : Int32).toInt = ((1 : Nat) : Int)) (by omega) (by omega) (by omega)
                subst hT
                clear hp
                refine lv_icmp_ne (tgt := 215) hx hb dL_areOrders_208 (by decide) (fun c13 => ?_) (fun c13 => ?_)
                · have d13 : x11.toInt ≠ r12.toInt := mt (kc_eq (rfl : x11.toInt = x11.toInt) (rfl : r12.toInt = r12.toInt)).mpr c13
                  exfalso; omega
                · have d13 : x11.toInt = r12.toInt := (kc_eq (rfl : x11.toInt = x11.toInt) (rfl : r12.toInt = r12.toInt)).mp c13
                  refine lv_iconst (v := 1) hx hb dL_areOrders_211 (by decide) ?_
                  refine lv_goto (tgt := 216) hx hb dL_areOrders_212 (by decide) ?_
                  refine lv_iand hx hb dL_areOrders_216 ?_
                  refine lv_topi (fun x14 e14 => ?_)
                  obtain rfl : x14 = 1 := e14.trans (by decide)
                  refine lv_istore (lv' := [(9, .int 1), (10, .int 1), (6, .long sh), (8, .int mn), (5, .ref p1), (0, .ref (z 0)), (1, .int on), (2, .ref ri), (3, .ref ra), (4, .ref rb)]) hx hb dL_areOrders_217 hl (by decide) rfl (fun ls hl => ?_)
                  refine lv_iinc (v := 2) (lv' := [(10, .int 2), (9, .int 1), (6, .long sh), (8, .int mn), (5, .ref p1), (0, .ref (z 0)), (1, .int on), (2, .ref ri), (3, .ref ra), (4, .ref rb)]) hx hb dL_areOrders_219 hl (k := 1) rfl (by decide) (by decide) rfl (fun ls hl => ?_)
                  refine lv_goto (tgt := 189) hx hb dL_areOrders_222 (by decide) ?_
                  refine lv_iload hx hb dL_areOrders_189 (lv_at hl 0 rfl) ?_
                  refine lv_iconst (v := 3) hx hb dL_areOrders_191 (by decide) ?_
                  refine lv_icmp_ge (tgt := 225) hx hb dL_areOrders_192 (by decide) (fun c15 => ?_) (fun c15 => ?_)
                  · exact absurd c15 (by decide)
                  · refine lv_iload hx hb dL_areOrders_195 (lv_at hl 1 rfl) ?_
                    refine lv_aload hx hb dL_areOrders_197 (lv_at hl 4 rfl) ?_
                    refine lv_iload hx hb dL_areOrders_199 (lv_at hl 0 rfl) ?_
                    refine rd_I F hK hO onew.1 (by rw [onew.2]; exact kt_in (by decide : (2 : Int32).toInt = ((2 : Nat) : Int)) (by omega) (by decide)) dL_areOrders_201 ?_
                    refine lv_topi (fun x16 ex16 => ?_)
                    have nx16 : x16.toInt = ((q_sum q 2 i : Nat) : Int) := kt_nI (by rw [ex16, kt_clamp (by decide : (2 : Int32).toInt = ((2 : Nat) : Int)) (by omega)]; exact (show pX (setX (newA O p1 9 3) p1 f) p1 2 = nI (q_sum q 2 i) by rw [kxs_at]; exact hf 2 (by omega))) (by omega)
                    refine lv_aload_n hx hb dL_areOrders_202 rfl (lv_at hl 5 rfl) ?_
                    refine lv_iload hx hb dL_areOrders_203 (lv_at hl 0 rfl) ?_
                    refine kcallhI (kSthW (n := 2) (As := [.ref (z 0), .int 2]) (rest := [.int x16, .int 1]) F hE hNc hK hP hD hS hA (kh_promised l g e0 S _ (z 0) 2 _ _ hI.ob0 (c_X5_promised_x l hl0 g e0 z S _ hI av lv q hR h72 2) (fun E h => h.1)) kw_228 kw_229 kw_61 kw_230 (by decide +kernel) ⟨Nat.le_of_ble_eq_true rfl, Nat.le_of_ble_eq_true rfl⟩ rfl hl.1 rfl (Nat.le_of_ble_eq_true rfl) dL_areOrders_205 ⟨(by show kc + 1 + 1 + 1 ≤ 79; omega), (by show ns + 6 + 6 + 6 ≤ 471; omega)⟩) rfl hD hS hA (fun r17 T1 H locs hp hP hq1x hq2x hq3x hf1 hS => ?_)
                    clear hq1x hq2x hq3x
                    have hO := kO_keep hO hdis hf1
                    obtain ⟨hT, nr17⟩ := kp_A (i := 2) hp (by decide : (2 : Int32).toInt = ((2 : Nat) : Int)) (by omega) (by omega) (by omega)
                    subst hT
                    clear hp
                    refine lv_icmp_ne (tgt := 215) hx hb dL_areOrders_208 (by decide) (fun c18 => ?_) (fun c18 => ?_)
                    · have d18 : x16.toInt ≠ r17.toInt := mt (kc_eq (rfl : x16.toInt = x16.toInt) (rfl : r17.toInt = r17.toInt)).mpr c18
                      exfalso; omega
                    · have d18 : x16.toInt = r17.toInt := (kc_eq (rfl : x16.toInt = x16.toInt) (rfl : r17.toInt = r17.toInt)).mp c18
                      refine lv_iconst (v := 1) hx hb dL_areOrders_211 (by decide) ?_
                      refine lv_goto (tgt := 216) hx hb dL_areOrders_212 (by decide) ?_
                      refine lv_iand hx hb dL_areOrders_216 ?_
                      refine lv_topi (fun x19 e19 => ?_)
                      obtain rfl : x19 = 1 := e19.trans (by decide)
                      refine lv_istore (lv' := [(9, .int 1), (10, .int 2), (6, .long sh), (8, .int mn), (5, .ref p1), (0, .ref (z 0)), (1, .int on), (2, .ref ri), (3, .ref ra), (4, .ref rb)]) hx hb dL_areOrders_217 hl (by decide) rfl (fun ls hl => ?_)
                      refine lv_iinc (v := 3) (lv' := [(10, .int 3), (9, .int 1), (6, .long sh), (8, .int mn), (5, .ref p1), (0, .ref (z 0)), (1, .int on), (2, .ref ri), (3, .ref ra), (4, .ref rb)]) hx hb dL_areOrders_219 hl (k := 1) rfl (by decide) (by decide) rfl (fun ls hl => ?_)
                      refine lv_goto (tgt := 189) hx hb dL_areOrders_222 (by decide) ?_
                      refine lv_iload hx hb dL_areOrders_189 (lv_at hl 0 rfl) ?_
                      refine lv_iconst (v := 3) hx hb dL_areOrders_191 (by decide) ?_
                      refine lv_icmp_ge (tgt := 225) hx hb dL_areOrders_192 (by decide) (fun c20 => ?_) (fun c20 => ?_)
                      · refine lv_iload hx hb dL_areOrders_225 (lv_at hl 1 rfl) ?_
                        refine lv_if_eq (tgt := 267) hx hb dL_areOrders_227 (by decide) (fun c21 => ?_) (fun c21 => ?_)
                        · exact absurd c21 (by decide)
                        · refine lv_lload hx hb dL_areOrders_230 (lv_at hl 2 rfl) ?_
                          refine lv_aload_n hx hb dL_areOrders_232 rfl (lv_at hl 5 rfl) ?_
                          refine kcallWL (kV (n := 0) (As := []) (rest := [.long sh]) (b := z 0) (C := RX5) F hE hK hP hD hS hA (c_X5_shipped l hl0 g e0 z S _ hI) (rr_Pickwave hK hP hI.ob0) kw_183 kw_184 kw_185 kw_2 kw_186 (by decide +kernel) ⟨Nat.le_of_ble_eq_true rfl, Nat.le_of_ble_eq_true rfl⟩ rfl hl.1 rfl (Nat.le_of_ble_eq_true rfl) dL_areOrders_233 ⟨(by show kc + 1 + 1 + 1 + 0 ≤ 79; omega), (by show ns + 6 + 6 + 6 + 0 ≤ 471; omega)⟩) rfl hD hS hA (fun _ _ _ _ _ h => False.elim h) (fun r22 T1 H locs hp hP hq1x hq2x hq3x hf1 hS => ?_)
                          clear hq1x hq2x hq3x
                          have hO := kO_keep hO hdis hf1
                          obtain ⟨hT, er22⟩ := hp
                          have hT := hT.symm
                          subst hT
                          have vr22 : r22 = lN (q 59 0) := er22.trans hR.2.2.2.2.2.2.1.2
                          refine W.lcmp hx hb dL_areOrders_236 ?_
                          refine lv_if_ne (tgt := 267) hx hb dL_areOrders_237 (by decide) (fun c23 => ?_) (fun c23 => ?_)
                          · exact absurd ((lg_cmp_eq _ _).mpr (by rw [hsh, vr22, hW.1.2.2.2.2.2.2, hiM])) c23
                          · refine lv_aload_n hx hb dL_areOrders_240 rfl (lv_at hl 5 rfl) ?_
                            refine kcallhF (kSthW (n := 1) (As := [.ref (z 0)]) (rest := []) F hE hNc hK hP hD hS hA (kh_shippedShare l g e0 S _ (z 0)  _ _ hI.ob0 (c_X5_shippedShare_x l hl0 g e0 z S _ hI av lv q hR hW.1) (fun E h => h.1)) kw_515 kw_516 kw_61 kw_517 (by decide +kernel) ⟨Nat.le_of_ble_eq_true rfl, Nat.le_of_ble_eq_true rfl⟩ rfl hl.1 rfl (Nat.le_of_ble_eq_true rfl) dL_areOrders_241 ⟨(by show kc + 1 + 1 + 1 + 0 + 1 ≤ 79; omega), (by show ns + 6 + 6 + 6 + 0 + 6 ≤ 471; omega)⟩) rfl hD hS hA (fun r24 T1 H locs hp hP hq1x hq2x hq3x hf1 hS => ?_)
                            clear hq1x hq2x hq3x
                            have hO := kO_keep hO hdis hf1
                            rcases hp with ⟨hT, h0, er⟩ | ⟨er, ⟨-, h0⟩, hT⟩
                            · have hT := hT.symm
                              subst hT
                              refine lv_iload_n hx hb dL_areOrders_244 rfl (lv_at hl 6 rfl) ?_
                              refine lv_if_ne (tgt := 253) hx hb dL_areOrders_245 (by decide) (fun c25 => ?_) (fun c25 => ?_)
                              · have d25 : on.toInt ≠ (0) := mt (kc_eq (rfl : on.toInt = on.toInt) (by decide : (0 : Int32).toInt = 0)).mpr c25
                                refine lv_iload hx hb dL_areOrders_253 (lv_at hl 3 rfl) ?_
                                refine lv_i2f hx hb dL_areOrders_255 ?_
                                refine lv_iload_n hx hb dL_areOrders_256 rfl (lv_at hl 6 rfl) ?_
                                refine lv_i2f hx hb dL_areOrders_257 ?_
                                refine lv_fdiv hx hb dL_areOrders_258 (by rw [kt_of hmn (by omega), kt_of hon (by omega), hiM]; exact (kshare q_sc_le h73 (by omega)).1) ?_
                                refine lv_fcmp hx hb dL_areOrders_259 ?_
                                refine lv_if_ne (tgt := 267) hx hb dL_areOrders_260 (by decide) (fun c26 => ?_) (fun c26 => ?_)
                                · exact absurd (by rw [er, kt_of hmn (by omega), kt_of hon (by omega), hiM]; exact kfeq q_sc_le h73 (by omega)) c26
                                · refine lv_iconst (v := 1) hx hb dL_areOrders_263 (by decide) ?_
                                  refine lv_goto (tgt := 268) hx hb dL_areOrders_264 (by decide) ?_
                                  exact kEndv F hr rfl hlk hP (kO_drop hp1 hO) hS (by omega) (by omega) dL_areOrders_268 rfl
                              · have d25 : on.toInt = (0) := (kc_eq (rfl : on.toInt = on.toInt) (by decide : (0 : Int32).toInt = 0)).mp c25
                                exfalso; omega
                            · have hT := hT.symm
                              subst hT
                              refine lv_iload_n hx hb dL_areOrders_244 rfl (lv_at hl 6 rfl) ?_
                              refine lv_if_ne (tgt := 253) hx hb dL_areOrders_245 (by decide) (fun c27 => ?_) (fun c27 => ?_)
                              · have d27 : on.toInt ≠ (0) := mt (kc_eq (rfl : on.toInt = on.toInt) (by decide : (0 : Int32).toInt = 0)).mpr c27
                                exfalso; omega
                              · have d27 : on.toInt = (0) := (kc_eq (rfl : on.toInt = on.toInt) (by decide : (0 : Int32).toInt = 0)).mp c27
                                refine lv_ldcf hx hb F.2.2.2.1 (F.2.2.2.2 _ kw_507) dL_areOrders_248 ?_
                                refine lv_goto (tgt := 259) hx hb dL_areOrders_250 (by decide) ?_
                                refine lv_fcmp hx hb dL_areOrders_259 ?_
                                refine lv_if_ne (tgt := 267) hx hb dL_areOrders_260 (by decide) (fun c28 => ?_) (fun c28 => ?_)
                                · exact absurd (by rw [er]; decide +kernel) c28
                                · refine lv_iconst (v := 1) hx hb dL_areOrders_263 (by decide) ?_
                                  refine lv_goto (tgt := 268) hx hb dL_areOrders_264 (by decide) ?_
                                  exact kEndv F hr rfl hlk hP (kO_drop hp1 hO) hS (by omega) (by omega) dL_areOrders_268 rfl
                      · exact absurd (by decide) c20
        · have d4 : ¬ (on.toInt ≤ xi.toInt) := mt (kc_le (rfl : on.toInt = on.toInt) (rfl : xi.toInt = xi.toInt)).mpr c4
          have him : i < q 73 0 := by omega
          have h4a := hW.1.2.2.1 i him
          have h4b := hW.2.2 i him
          have h1 := hW.1.1.2.2.1 i him
          have h10 := hW.1.1.2.2.2 (q 21 i) h1.1
          have hb1 := hL.2.2.1 _ h10
          have hqb := q_sum_b (q := q) (a := q 21 i) (m := i) (fun n hn => (hW.1.2.2.1 n (by omega)).2.2.1)
          refine lv_aload_n hx hb dL_areOrders_35 rfl (lv_at hl 5 rfl) ?_
          refine lv_iload hx hb dL_areOrders_36 (lv_at hl 0 rfl) ?_
          refine kcallhI (kSthW (n := 2) (As := [.ref (z 0), .int xi]) (rest := []) F hE hNc hK hP hD hS hA (kh_state l g e0 S _ (z 0) xi _ _ hI.ob0 (c_X5_state_x l hl0 g e0 z S _ hI av lv q hR h73 xi) (fun E h => h.1)) kw_260 kw_261 kw_61 kw_262 (by decide +kernel) ⟨Nat.le_of_ble_eq_true rfl, Nat.le_of_ble_eq_true rfl⟩ rfl hl.1 rfl (Nat.le_of_ble_eq_true rfl) dL_areOrders_38 ⟨(by show kc + 1 ≤ 79; omega), (by show ns + 6 ≤ 471; omega)⟩) rfl hD hS hA (fun r29 T1 H locs hp hP hq1x hq2x hq3x hf1 hS => ?_)
          clear hq1x hq2x hq3x
          have hO := kO_keep hO hdis hf1
          obtain ⟨hT, nr29⟩ := kp_Ac (i := i) hp hi (by omega) (by omega) (by omega)
          subst hT
          clear hp
          rcases h4a.1 with hst | hst | hst | hst | hst
          · obtain rfl : r29 = 111 := kt_lit (A := 111) (by omega) (by decide)
            refine lv_istore (lv' := [(11, .int 111), (10, .int xi), (6, .long sh), (8, .int mn), (9, .int 1), (5, .ref p1), (0, .ref (z 0)), (1, .int on), (2, .ref ri), (3, .ref ra), (4, .ref rb)]) hx hb dL_areOrders_41 hl (by decide) rfl (fun ls hl => ?_)
            refine lv_aload hx hb dL_areOrders_43 (lv_at hl 5 rfl) ?_
            refine lv_aload_n hx hb dL_areOrders_45 rfl (lv_at hl 8 rfl) ?_
            refine lv_iload hx hb dL_areOrders_46 (lv_at hl 1 rfl) ?_
            refine rd_I F hK hO oi (by rw [li]; exact kt_in hi (by omega) (by decide)) dL_areOrders_48 ?_
            refine lv_topi (fun x30 ex30 => ?_)
            have nx30 : x30.toInt = ((q 21 i : Nat) : Int) := kt_nI (by rw [ex30, kt_clamp hi (by omega)]; exact hri i (by omega)) (by omega)
            refine lv_dup2_11 hx hb dL_areOrders_49 rfl rfl ?_
            refine rd_I F hK hO onew.1 (by rw [onew.2]; exact kt_in nx30 (by omega) (by decide)) dL_areOrders_50 ?_
            refine lv_topi (fun x31 ex31 => ?_)
            have nx31 : x31.toInt = ((q_sum q (q 21 i) i : Nat) : Int) := kt_nI (by rw [ex31, kt_clamp nx30 (by omega)]; exact (show pX (setX (newA O p1 9 3) p1 f) p1 (q 21 i) = nI (q_sum q (q 21 i) i) by rw [kxs_at]; exact hf (q 21 i) (by omega))) (by omega)
            refine lv_iload hx hb dL_areOrders_51 (lv_at hl 0 rfl) ?_
            refine lv_bipush (v := 112) hx hb dL_areOrders_53 (by decide) ?_
            refine lv_icmp_ne (tgt := 67) hx hb dL_areOrders_55 (by decide) (fun c32 => ?_) (fun c32 => ?_)
            · refine lv_iconst (v := 0) hx hb dL_areOrders_67 (by decide) ?_
              refine lv_iadd hx hb dL_areOrders_68 ?_
              refine lv_topi (fun x33 ex33 => ?_)
              have tx33 : x33.toInt = x31.toInt + (0) := kt_add ex33 (rfl : x31.toInt = x31.toInt) (by decide : (0 : Int32).toInt = 0) (by omega) (by omega)
              refine rt2_I F hK hP hO hD hDO hdis hS onew.1 (by rw [onew.2]; exact kt_in nx30 (by omega) (by decide)) dL_areOrders_69 (fun H locs hP hO hDO hS => ?_)
              rw [kx_set, kt_clamp nx30 (by omega)] at hO hDO
              have hdis : kdis S (setX (newA O p1 9 3) p1 (upd f (q 21 i) x33)) := hdis9
              have hfv : x33.toInt = ((q_sum q (q 21 i) i + (if q 24 i = 112 then q 23 i else 0) : Nat) : Int) := by rw [if_neg (by omega)]; omega
              have hfb : q_sum q (q 21 i) i + (if q 24 i = 112 then q 23 i else 0) < 2 ^ 31 := by rw [if_neg (by omega)]; omega
              have hf2 := q_sum_up1 hf rfl hfv hfb
              have hO9b := hO9.new (kd := 9) (n := 3) (f := upd f (q 21 i) x33) hp1
              obtain ⟨⟨oa, la⟩, ⟨orr, lr⟩, ⟨obb, lb⟩, ⟨oi, li⟩, hne, hra, hrb, hri⟩ := hO9b
              refine lv_lload hx hb dL_areOrders_70 (lv_at hl 2 rfl) ?_
              refine lv_iload hx hb dL_areOrders_72 (lv_at hl 0 rfl) ?_
              refine lv_bipush (v := 115) hx hb dL_areOrders_74 (by decide) ?_
              refine lv_icmp_ne (tgt := 89) hx hb dL_areOrders_76 (by decide) (fun c34 => ?_) (fun c34 => ?_)
              · refine lv_lconst (v := 0) hx hb dL_areOrders_89 (by decide) ?_
                refine lv_ladd hx hb dL_areOrders_90 ?_
                refine lv_topl (fun x35 ex35 => ?_)
                refine lv_lstore (lv' := [(6, .long x35), (11, .int 111), (10, .int xi), (8, .int mn), (9, .int 1), (5, .ref p1), (0, .ref (z 0)), (1, .int on), (2, .ref ri), (3, .ref ra), (4, .ref rb)]) hx hb dL_areOrders_91 hl (by decide) rfl (fun ls hl => ?_)
                refine lv_iload hx hb dL_areOrders_93 (lv_at hl 3 rfl) ?_
                refine lv_iload hx hb dL_areOrders_95 (lv_at hl 1 rfl) ?_
                refine lv_bipush (v := 115) hx hb dL_areOrders_97 (by decide) ?_
                refine lv_icmp_ne (tgt := 106) hx hb dL_areOrders_99 (by decide) (fun c36 => ?_) (fun c36 => ?_)
                · refine lv_iconst (v := 0) hx hb dL_areOrders_106 (by decide) ?_
                  refine lv_iadd hx hb dL_areOrders_107 ?_
                  refine lv_topi (fun x37 ex37 => ?_)
                  have tx37 : x37.toInt = mn.toInt + (0) := kt_add ex37 (rfl : mn.toInt = mn.toInt) (by decide : (0 : Int32).toInt = 0) (by omega) (by omega)
                  refine lv_istore (lv' := [(8, .int x37), (6, .long x35), (11, .int 111), (10, .int xi), (9, .int 1), (5, .ref p1), (0, .ref (z 0)), (1, .int on), (2, .ref ri), (3, .ref ra), (4, .ref rb)]) hx hb dL_areOrders_108 hl (by decide) rfl (fun ls hl => ?_)
                  refine lv_iload hx hb dL_areOrders_110 (lv_at hl 4 rfl) ?_
                  refine lv_iload hx hb dL_areOrders_112 (lv_at hl 2 rfl) ?_
                  refine lv_aload_n hx hb dL_areOrders_114 rfl (lv_at hl 6 rfl) ?_
                  refine lv_iload hx hb dL_areOrders_115 (lv_at hl 3 rfl) ?_
                  refine kcallhI (kSthW (n := 2) (As := [.ref (z 0), .int xi]) (rest := [.int 111, .int 1]) F hE hNc hK hP hD hS hA (kh_stateByScans l g e0 S _ (z 0) xi _ _ hI.ob0 (c_X5_stateByScans_x l hl0 g e0 z S _ hI av lv q hR hW.1 xi) (fun E h => h.1)) kw_508 kw_509 kw_61 kw_510 (by decide +kernel) ⟨Nat.le_of_ble_eq_true rfl, Nat.le_of_ble_eq_true rfl⟩ rfl hl.1 rfl (Nat.le_of_ble_eq_true rfl) dL_areOrders_117 ⟨(by show kc + 1 + 1 ≤ 79; omega), (by show ns + 6 + 6 ≤ 471; omega)⟩) rfl hD hS hA (fun r38 T1 H locs hp hP hq1x hq2x hq3x hf1 hS => ?_)
                  clear hq1x hq2x hq3x
                  have hO := kO_keep hO hdis hf1
                  obtain ⟨hT, nr38⟩ := kp_Ac (i := i) hp hi (by omega) (by omega) (by omega)
                  subst hT
                  clear hp
                  obtain rfl : r38 = 111 := kt_lit (A := 111) (by omega) (by decide)
                  refine lv_icmp_ne (tgt := 176) hx hb dL_areOrders_120 (by decide) (fun c39 => ?_) (fun c39 => ?_)
                  · exact absurd c39 (by decide)
                  · refine lv_iload hx hb dL_areOrders_123 (lv_at hl 2 rfl) ?_
                    refine lv_bipush (v := 112) hx hb dL_areOrders_125 (by decide) ?_
                    refine lv_icmp_ne (tgt := 151) hx hb dL_areOrders_127 (by decide) (fun c40 => ?_) (fun c40 => ?_)
                    · refine lv_aload_n hx hb dL_areOrders_151 rfl (lv_at hl 6 rfl) ?_
                      refine lv_iload hx hb dL_areOrders_152 (lv_at hl 3 rfl) ?_
                      refine kcallhI (kSthW (n := 2) (As := [.ref (z 0), .int xi]) (rest := [.int 1]) F hE hNc hK hP hD hS hA (kh_amount l g e0 S _ (z 0) xi _ _ hI.ob0 (c_X5_amount_x l hl0 g e0 z S _ hI av lv q hR h73 xi) (fun E h => h.1)) kw_273 kw_274 kw_61 kw_275 (by decide +kernel) ⟨Nat.le_of_ble_eq_true rfl, Nat.le_of_ble_eq_true rfl⟩ rfl hl.1 rfl (Nat.le_of_ble_eq_true rfl) dL_areOrders_154 ⟨(by show kc + 1 + 1 + 1 ≤ 79; omega), (by show ns + 6 + 6 + 6 ≤ 471; omega)⟩) rfl hD hS hA (fun r41 T1 H locs hp hP hq1x hq2x hq3x hf1 hS => ?_)
                      clear hq1x hq2x hq3x
                      have hO := kO_keep hO hdis hf1
                      obtain ⟨hT, nr41⟩ := kp_A (i := i) hp hi (by omega) (by omega) (by omega)
                      subst hT
                      clear hp
                      refine lv_iload hx hb dL_areOrders_157 (lv_at hl 2 rfl) ?_
                      refine lv_bipush (v := 100) hx hb dL_areOrders_159 (by decide) ?_
                      refine lv_icmp_ne (tgt := 168) hx hb dL_areOrders_161 (by decide) (fun c42 => ?_) (fun c42 => ?_)
                      · refine lv_iconst (v := 1) hx hb dL_areOrders_168 (by decide) ?_
                        refine lv_icmp_lt (tgt := 176) hx hb dL_areOrders_169 (by decide) (fun c43 => ?_) (fun c43 => ?_)
                        · have d43 : r41.toInt < (1) := (kc_lt (rfl : r41.toInt = r41.toInt) (by decide : (1 : Int32).toInt = 1)).mp c43
                          exfalso; omega
                        · have d43 : ¬ (r41.toInt < (1)) := mt (kc_lt (rfl : r41.toInt = r41.toInt) (by decide : (1 : Int32).toInt = 1)).mpr c43
                          refine lv_iconst (v := 1) hx hb dL_areOrders_172 (by decide) ?_
                          refine lv_goto (tgt := 177) hx hb dL_areOrders_173 (by decide) ?_
                          refine lv_iand hx hb dL_areOrders_177 ?_
                          refine lv_topi (fun x44 e44 => ?_)
                          obtain rfl : x44 = 1 := e44.trans (by decide)
                          refine lv_istore (lv' := [(9, .int 1), (8, .int x37), (6, .long x35), (11, .int 111), (10, .int xi), (5, .ref p1), (0, .ref (z 0)), (1, .int on), (2, .ref ri), (3, .ref ra), (4, .ref rb)]) hx hb dL_areOrders_178 hl (by decide) rfl (fun ls hl => ?_)
                          obtain ⟨x45, ex45⟩ : ∃ y : Int32, y = xi + 1 := ⟨_, rfl⟩
                          refine lv_iinc (v := x45) (lv' := [(10, .int x45), (9, .int 1), (8, .int x37), (6, .long x35), (11, .int 111), (5, .ref p1), (0, .ref (z 0)), (1, .int on), (2, .ref ri), (3, .ref ra), (4, .ref rb)]) hx hb dL_areOrders_180 hl (k := 4) rfl (by rw [ex45]; rfl) (by decide) rfl (fun ls hl => ?_)
                          have tx45 : x45.toInt = xi.toInt + 1 := kt_add ex45 (rfl : xi.toInt = xi.toInt) (by decide) (by omega) (by omega)
                          refine lv_goto (tgt := 29) hx hb dL_areOrders_183 (by decide) ?_
                          exact ih (i + 1) x45 x35 x37 _ _ _ H locs ls hP hO hDO hS (lv_sub hl [0, 3, 2, 1, 5, 6, 7, 8, 9, 10] rfl) (by omega) (by omega) (by omega) (by omega) (by omega) hf2 (by rw [q_shp_s, if_neg (by omega), ex35, hsh]; exact Int64.add_zero _) (by rw [q_sc_s, if_neg (by omega)]; omega)
                      · exact absurd c42 (by decide)
                    · exact absurd c40 (by decide)
                · exact absurd c36 (by decide)
              · exact absurd c34 (by decide)
            · exact absurd c32 (by decide)
          · obtain rfl : r29 = 112 := kt_lit (A := 112) (by omega) (by decide)
            refine lv_istore (lv' := [(11, .int 112), (10, .int xi), (6, .long sh), (8, .int mn), (9, .int 1), (5, .ref p1), (0, .ref (z 0)), (1, .int on), (2, .ref ri), (3, .ref ra), (4, .ref rb)]) hx hb dL_areOrders_41 hl (by decide) rfl (fun ls hl => ?_)
            refine lv_aload hx hb dL_areOrders_43 (lv_at hl 5 rfl) ?_
            refine lv_aload_n hx hb dL_areOrders_45 rfl (lv_at hl 8 rfl) ?_
            refine lv_iload hx hb dL_areOrders_46 (lv_at hl 1 rfl) ?_
            refine rd_I F hK hO oi (by rw [li]; exact kt_in hi (by omega) (by decide)) dL_areOrders_48 ?_
            refine lv_topi (fun x46 ex46 => ?_)
            have nx46 : x46.toInt = ((q 21 i : Nat) : Int) := kt_nI (by rw [ex46, kt_clamp hi (by omega)]; exact hri i (by omega)) (by omega)
            refine lv_dup2_11 hx hb dL_areOrders_49 rfl rfl ?_
            refine rd_I F hK hO onew.1 (by rw [onew.2]; exact kt_in nx46 (by omega) (by decide)) dL_areOrders_50 ?_
            refine lv_topi (fun x47 ex47 => ?_)
            have nx47 : x47.toInt = ((q_sum q (q 21 i) i : Nat) : Int) := kt_nI (by rw [ex47, kt_clamp nx46 (by omega)]; exact (show pX (setX (newA O p1 9 3) p1 f) p1 (q 21 i) = nI (q_sum q (q 21 i) i) by rw [kxs_at]; exact hf (q 21 i) (by omega))) (by omega)
            refine lv_iload hx hb dL_areOrders_51 (lv_at hl 0 rfl) ?_
            refine lv_bipush (v := 112) hx hb dL_areOrders_53 (by decide) ?_
            refine lv_icmp_ne (tgt := 67) hx hb dL_areOrders_55 (by decide) (fun c48 => ?_) (fun c48 => ?_)
            · exact absurd c48 (by decide)
            · refine lv_aload_n hx hb dL_areOrders_58 rfl (lv_at hl 6 rfl) ?_
              refine lv_iload hx hb dL_areOrders_59 (lv_at hl 1 rfl) ?_
              refine kcallhI (kSthW (n := 2) (As := [.ref (z 0), .int xi]) (rest := [.int x47, .int x46, .ref p1]) F hE hNc hK hP hD hS hA (kh_amount l g e0 S _ (z 0) xi _ _ hI.ob0 (c_X5_amount_x l hl0 g e0 z S _ hI av lv q hR h73 xi) (fun E h => h.1)) kw_273 kw_274 kw_61 kw_275 (by decide +kernel) ⟨Nat.le_of_ble_eq_true rfl, Nat.le_of_ble_eq_true rfl⟩ rfl hl.1 rfl (Nat.le_of_ble_eq_true rfl) dL_areOrders_61 ⟨(by show kc + 1 + 1 ≤ 79; omega), (by show ns + 6 + 6 ≤ 471; omega)⟩) rfl hD hS hA (fun r49 T1 H locs hp hP hq1x hq2x hq3x hf1 hS => ?_)
              clear hq1x hq2x hq3x
              have hO := kO_keep hO hdis hf1
              obtain ⟨hT, nr49⟩ := kp_A (i := i) hp hi (by omega) (by omega) (by omega)
              subst hT
              clear hp
              refine lv_goto (tgt := 68) hx hb dL_areOrders_64 (by decide) ?_
              refine lv_iadd hx hb dL_areOrders_68 ?_
              refine lv_topi (fun x50 ex50 => ?_)
              have tx50 : x50.toInt = x47.toInt + r49.toInt := kt_add ex50 (rfl : x47.toInt = x47.toInt) (rfl : r49.toInt = r49.toInt) (by omega) (by omega)
              refine rt2_I F hK hP hO hD hDO hdis hS onew.1 (by rw [onew.2]; exact kt_in nx46 (by omega) (by decide)) dL_areOrders_69 (fun H locs hP hO hDO hS => ?_)
              rw [kx_set, kt_clamp nx46 (by omega)] at hO hDO
              have hdis : kdis S (setX (newA O p1 9 3) p1 (upd f (q 21 i) x50)) := hdis9
              have hfv : x50.toInt = ((q_sum q (q 21 i) i + (if q 24 i = 112 then q 23 i else 0) : Nat) : Int) := by rw [if_pos hst]; omega
              have hfb : q_sum q (q 21 i) i + (if q 24 i = 112 then q 23 i else 0) < 2 ^ 31 := by rw [if_pos hst]; omega
              have hf2 := q_sum_up1 hf rfl hfv hfb
              have hO9b := hO9.new (kd := 9) (n := 3) (f := upd f (q 21 i) x50) hp1
              obtain ⟨⟨oa, la⟩, ⟨orr, lr⟩, ⟨obb, lb⟩, ⟨oi, li⟩, hne, hra, hrb, hri⟩ := hO9b
              refine lv_lload hx hb dL_areOrders_70 (lv_at hl 2 rfl) ?_
              refine lv_iload hx hb dL_areOrders_72 (lv_at hl 0 rfl) ?_
              refine lv_bipush (v := 115) hx hb dL_areOrders_74 (by decide) ?_
              refine lv_icmp_ne (tgt := 89) hx hb dL_areOrders_76 (by decide) (fun c51 => ?_) (fun c51 => ?_)
              · refine lv_lconst (v := 0) hx hb dL_areOrders_89 (by decide) ?_
                refine lv_ladd hx hb dL_areOrders_90 ?_
                refine lv_topl (fun x52 ex52 => ?_)
                refine lv_lstore (lv' := [(6, .long x52), (11, .int 112), (10, .int xi), (8, .int mn), (9, .int 1), (5, .ref p1), (0, .ref (z 0)), (1, .int on), (2, .ref ri), (3, .ref ra), (4, .ref rb)]) hx hb dL_areOrders_91 hl (by decide) rfl (fun ls hl => ?_)
                refine lv_iload hx hb dL_areOrders_93 (lv_at hl 3 rfl) ?_
                refine lv_iload hx hb dL_areOrders_95 (lv_at hl 1 rfl) ?_
                refine lv_bipush (v := 115) hx hb dL_areOrders_97 (by decide) ?_
                refine lv_icmp_ne (tgt := 106) hx hb dL_areOrders_99 (by decide) (fun c53 => ?_) (fun c53 => ?_)
                · refine lv_iconst (v := 0) hx hb dL_areOrders_106 (by decide) ?_
                  refine lv_iadd hx hb dL_areOrders_107 ?_
                  refine lv_topi (fun x54 ex54 => ?_)
                  have tx54 : x54.toInt = mn.toInt + (0) := kt_add ex54 (rfl : mn.toInt = mn.toInt) (by decide : (0 : Int32).toInt = 0) (by omega) (by omega)
                  refine lv_istore (lv' := [(8, .int x54), (6, .long x52), (11, .int 112), (10, .int xi), (9, .int 1), (5, .ref p1), (0, .ref (z 0)), (1, .int on), (2, .ref ri), (3, .ref ra), (4, .ref rb)]) hx hb dL_areOrders_108 hl (by decide) rfl (fun ls hl => ?_)
                  refine lv_iload hx hb dL_areOrders_110 (lv_at hl 4 rfl) ?_
                  refine lv_iload hx hb dL_areOrders_112 (lv_at hl 2 rfl) ?_
                  refine lv_aload_n hx hb dL_areOrders_114 rfl (lv_at hl 6 rfl) ?_
                  refine lv_iload hx hb dL_areOrders_115 (lv_at hl 3 rfl) ?_
                  refine kcallhI (kSthW (n := 2) (As := [.ref (z 0), .int xi]) (rest := [.int 112, .int 1]) F hE hNc hK hP hD hS hA (kh_stateByScans l g e0 S _ (z 0) xi _ _ hI.ob0 (c_X5_stateByScans_x l hl0 g e0 z S _ hI av lv q hR hW.1 xi) (fun E h => h.1)) kw_508 kw_509 kw_61 kw_510 (by decide +kernel) ⟨Nat.le_of_ble_eq_true rfl, Nat.le_of_ble_eq_true rfl⟩ rfl hl.1 rfl (Nat.le_of_ble_eq_true rfl) dL_areOrders_117 ⟨(by show kc + 1 + 1 + 1 ≤ 79; omega), (by show ns + 6 + 6 + 6 ≤ 471; omega)⟩) rfl hD hS hA (fun r55 T1 H locs hp hP hq1x hq2x hq3x hf1 hS => ?_)
                  clear hq1x hq2x hq3x
                  have hO := kO_keep hO hdis hf1
                  obtain ⟨hT, nr55⟩ := kp_Ac (i := i) hp hi (by omega) (by omega) (by omega)
                  subst hT
                  clear hp
                  obtain rfl : r55 = 112 := kt_lit (A := 112) (by omega) (by decide)
                  refine lv_icmp_ne (tgt := 176) hx hb dL_areOrders_120 (by decide) (fun c56 => ?_) (fun c56 => ?_)
                  · exact absurd c56 (by decide)
                  · refine lv_iload hx hb dL_areOrders_123 (lv_at hl 2 rfl) ?_
                    refine lv_bipush (v := 112) hx hb dL_areOrders_125 (by decide) ?_
                    refine lv_icmp_ne (tgt := 151) hx hb dL_areOrders_127 (by decide) (fun c57 => ?_) (fun c57 => ?_)
                    · exact absurd c57 (by decide)
                    · refine lv_aload hx hb dL_areOrders_130 (lv_at hl 10 rfl) ?_
                      refine lv_aload_n hx hb dL_areOrders_132 rfl (lv_at hl 9 rfl) ?_
                      refine lv_aload_n hx hb dL_areOrders_133 rfl (lv_at hl 8 rfl) ?_
                      refine lv_iload hx hb dL_areOrders_134 (lv_at hl 3 rfl) ?_
                      refine rd_I F hK hO oi (by rw [li]; exact kt_in hi (by omega) (by decide)) dL_areOrders_136 ?_
                      refine lv_topi (fun x58 ex58 => ?_)
                      have nx58 : x58.toInt = ((q 21 i : Nat) : Int) := kt_nI (by rw [ex58, kt_clamp hi (by omega)]; exact hri i (by omega)) (by omega)
                      refine rd_I F hK hO oa (by rw [la]; exact kt_in nx58 (by omega) (by decide)) dL_areOrders_137 ?_
                      refine lv_topi (fun x59 ex59 => ?_)
                      have nx59 : x59.toInt = ((q 10 (q 21 i) : Nat) : Int) := kt_nI (by rw [ex59, kt_clamp nx58 (by omega)]; exact (hra (q 21 i) (by omega)).1) (by omega)
                      refine rd_Z F hK hO obb (by rw [lb]; exact kt_in nx59 (by omega) (by decide)) dL_areOrders_138 ?_
                      refine lv_topi (fun x60 ex60 => ?_)
                      have nx60 : x60.toInt = ((q 1 (q 10 (q 21 i)) : Nat) : Int) := kt_nI (by rw [ex60, kt_clamp nx59 (by omega)]; exact hrb (q 10 (q 21 i)) (by omega)) (by omega)
                      refine lv_if_ne (tgt := 176) hx hb dL_areOrders_139 (by decide) (fun c61 => ?_) (fun c61 => ?_)
                      · have d61 : x60.toInt ≠ (0) := mt (kc_eq (rfl : x60.toInt = x60.toInt) (by decide : (0 : Int32).toInt = 0)).mpr c61
                        exfalso; omega
                      · have d61 : x60.toInt = (0) := (kc_eq (rfl : x60.toInt = x60.toInt) (by decide : (0 : Int32).toInt = 0)).mp c61
                        refine lv_aload_n hx hb dL_areOrders_142 rfl (lv_at hl 6 rfl) ?_
                        refine lv_iload hx hb dL_areOrders_143 (lv_at hl 3 rfl) ?_
                        refine kcallhI (kSthW (n := 2) (As := [.ref (z 0), .int xi]) (rest := [.int 1]) F hE hNc hK hP hD hS hA (kh_waveOf l g e0 S _ (z 0) xi _ _ hI.ob0 (c_X5_waveOf_x l hl0 g e0 z S _ hI av lv q hR h73 h25 xi) (fun E h => h.imp And.left And.left)) kw_281 kw_282 kw_61 kw_283 (by decide +kernel) ⟨Nat.le_of_ble_eq_true rfl, Nat.le_of_ble_eq_true rfl⟩ rfl hl.1 rfl (Nat.le_of_ble_eq_true rfl) dL_areOrders_145 ⟨(by show kc + 1 + 1 + 1 + 2 ≤ 79; omega), (by show ns + 6 + 6 + 6 + 12 ≤ 471; omega)⟩) rfl hD hS hA (fun r62 T1 H locs hp hP hq1x hq2x hq3x hf1 hS => ?_)
                        clear hq1x hq2x hq3x
                        have hO := kO_keep hO hdis hf1
                        obtain ⟨hT, vr62, ar62, br62⟩ := kp_W (i := i) hp hi (by omega) (by omega) (by omega)
                        subst hT
                        clear hp
                        refine lv_if_lt (tgt := 176) hx hb dL_areOrders_148 (by decide) (fun c63 => ?_) (fun c63 => ?_)
                        · have d63 : r62.toInt < (0) := (kc_lt (rfl : r62.toInt = r62.toInt) (by decide : (0 : Int32).toInt = 0)).mp c63
                          exfalso; omega
                        · have d63 : ¬ (r62.toInt < (0)) := mt (kc_lt (rfl : r62.toInt = r62.toInt) (by decide : (0 : Int32).toInt = 0)).mpr c63
                          refine lv_aload_n hx hb dL_areOrders_151 rfl (lv_at hl 6 rfl) ?_
                          refine lv_iload hx hb dL_areOrders_152 (lv_at hl 3 rfl) ?_
                          refine kcallhI (kSthW (n := 2) (As := [.ref (z 0), .int xi]) (rest := [.int 1]) F hE hNc hK hP hD hS hA (kh_amount l g e0 S _ (z 0) xi _ _ hI.ob0 (c_X5_amount_x l hl0 g e0 z S _ hI av lv q hR h73 xi) (fun E h => h.1)) kw_273 kw_274 kw_61 kw_275 (by decide +kernel) ⟨Nat.le_of_ble_eq_true rfl, Nat.le_of_ble_eq_true rfl⟩ rfl hl.1 rfl (Nat.le_of_ble_eq_true rfl) dL_areOrders_154 ⟨(by show kc + 1 + 1 + 1 + 2 + 1 ≤ 79; omega), (by show ns + 6 + 6 + 6 + 12 + 6 ≤ 471; omega)⟩) rfl hD hS hA (fun r64 T1 H locs hp hP hq1x hq2x hq3x hf1 hS => ?_)
                          clear hq1x hq2x hq3x
                          have hO := kO_keep hO hdis hf1
                          obtain ⟨hT, nr64⟩ := kp_A (i := i) hp hi (by omega) (by omega) (by omega)
                          subst hT
                          clear hp
                          refine lv_iload hx hb dL_areOrders_157 (lv_at hl 2 rfl) ?_
                          refine lv_bipush (v := 100) hx hb dL_areOrders_159 (by decide) ?_
                          refine lv_icmp_ne (tgt := 168) hx hb dL_areOrders_161 (by decide) (fun c65 => ?_) (fun c65 => ?_)
                          · refine lv_iconst (v := 1) hx hb dL_areOrders_168 (by decide) ?_
                            refine lv_icmp_lt (tgt := 176) hx hb dL_areOrders_169 (by decide) (fun c66 => ?_) (fun c66 => ?_)
                            · have d66 : r64.toInt < (1) := (kc_lt (rfl : r64.toInt = r64.toInt) (by decide : (1 : Int32).toInt = 1)).mp c66
                              exfalso; omega
                            · have d66 : ¬ (r64.toInt < (1)) := mt (kc_lt (rfl : r64.toInt = r64.toInt) (by decide : (1 : Int32).toInt = 1)).mpr c66
                              refine lv_iconst (v := 1) hx hb dL_areOrders_172 (by decide) ?_
                              refine lv_goto (tgt := 177) hx hb dL_areOrders_173 (by decide) ?_
                              refine lv_iand hx hb dL_areOrders_177 ?_
                              refine lv_topi (fun x67 e67 => ?_)
                              obtain rfl : x67 = 1 := e67.trans (by decide)
                              refine lv_istore (lv' := [(9, .int 1), (8, .int x54), (6, .long x52), (11, .int 112), (10, .int xi), (5, .ref p1), (0, .ref (z 0)), (1, .int on), (2, .ref ri), (3, .ref ra), (4, .ref rb)]) hx hb dL_areOrders_178 hl (by decide) rfl (fun ls hl => ?_)
                              obtain ⟨x68, ex68⟩ : ∃ y : Int32, y = xi + 1 := ⟨_, rfl⟩
                              refine lv_iinc (v := x68) (lv' := [(10, .int x68), (9, .int 1), (8, .int x54), (6, .long x52), (11, .int 112), (5, .ref p1), (0, .ref (z 0)), (1, .int on), (2, .ref ri), (3, .ref ra), (4, .ref rb)]) hx hb dL_areOrders_180 hl (k := 4) rfl (by rw [ex68]; rfl) (by decide) rfl (fun ls hl => ?_)
                              have tx68 : x68.toInt = xi.toInt + 1 := kt_add ex68 (rfl : xi.toInt = xi.toInt) (by decide) (by omega) (by omega)
                              refine lv_goto (tgt := 29) hx hb dL_areOrders_183 (by decide) ?_
                              exact ih (i + 1) x68 x52 x54 _ _ _ H locs ls hP hO hDO hS (lv_sub hl [0, 3, 2, 1, 5, 6, 7, 8, 9, 10] rfl) (by omega) (by omega) (by omega) (by omega) (by omega) hf2 (by rw [q_shp_s, if_neg (by omega), ex52, hsh]; exact Int64.add_zero _) (by rw [q_sc_s, if_neg (by omega)]; omega)
                          · exact absurd c65 (by decide)
                · exact absurd c53 (by decide)
              · exact absurd c51 (by decide)
          · obtain rfl : r29 = 107 := kt_lit (A := 107) (by omega) (by decide)
            refine lv_istore (lv' := [(11, .int 107), (10, .int xi), (6, .long sh), (8, .int mn), (9, .int 1), (5, .ref p1), (0, .ref (z 0)), (1, .int on), (2, .ref ri), (3, .ref ra), (4, .ref rb)]) hx hb dL_areOrders_41 hl (by decide) rfl (fun ls hl => ?_)
            refine lv_aload hx hb dL_areOrders_43 (lv_at hl 5 rfl) ?_
            refine lv_aload_n hx hb dL_areOrders_45 rfl (lv_at hl 8 rfl) ?_
            refine lv_iload hx hb dL_areOrders_46 (lv_at hl 1 rfl) ?_
            refine rd_I F hK hO oi (by rw [li]; exact kt_in hi (by omega) (by decide)) dL_areOrders_48 ?_
            refine lv_topi (fun x69 ex69 => ?_)
            have nx69 : x69.toInt = ((q 21 i : Nat) : Int) := kt_nI (by rw [ex69, kt_clamp hi (by omega)]; exact hri i (by omega)) (by omega)
            refine lv_dup2_11 hx hb dL_areOrders_49 rfl rfl ?_
            refine rd_I F hK hO onew.1 (by rw [onew.2]; exact kt_in nx69 (by omega) (by decide)) dL_areOrders_50 ?_
            refine lv_topi (fun x70 ex70 => ?_)
            have nx70 : x70.toInt = ((q_sum q (q 21 i) i : Nat) : Int) := kt_nI (by rw [ex70, kt_clamp nx69 (by omega)]; exact (show pX (setX (newA O p1 9 3) p1 f) p1 (q 21 i) = nI (q_sum q (q 21 i) i) by rw [kxs_at]; exact hf (q 21 i) (by omega))) (by omega)
            refine lv_iload hx hb dL_areOrders_51 (lv_at hl 0 rfl) ?_
            refine lv_bipush (v := 112) hx hb dL_areOrders_53 (by decide) ?_
            refine lv_icmp_ne (tgt := 67) hx hb dL_areOrders_55 (by decide) (fun c71 => ?_) (fun c71 => ?_)
            · refine lv_iconst (v := 0) hx hb dL_areOrders_67 (by decide) ?_
              refine lv_iadd hx hb dL_areOrders_68 ?_
              refine lv_topi (fun x72 ex72 => ?_)
              have tx72 : x72.toInt = x70.toInt + (0) := kt_add ex72 (rfl : x70.toInt = x70.toInt) (by decide : (0 : Int32).toInt = 0) (by omega) (by omega)
              refine rt2_I F hK hP hO hD hDO hdis hS onew.1 (by rw [onew.2]; exact kt_in nx69 (by omega) (by decide)) dL_areOrders_69 (fun H locs hP hO hDO hS => ?_)
              rw [kx_set, kt_clamp nx69 (by omega)] at hO hDO
              have hdis : kdis S (setX (newA O p1 9 3) p1 (upd f (q 21 i) x72)) := hdis9
              have hfv : x72.toInt = ((q_sum q (q 21 i) i + (if q 24 i = 112 then q 23 i else 0) : Nat) : Int) := by rw [if_neg (by omega)]; omega
              have hfb : q_sum q (q 21 i) i + (if q 24 i = 112 then q 23 i else 0) < 2 ^ 31 := by rw [if_neg (by omega)]; omega
              have hf2 := q_sum_up1 hf rfl hfv hfb
              have hO9b := hO9.new (kd := 9) (n := 3) (f := upd f (q 21 i) x72) hp1
              obtain ⟨⟨oa, la⟩, ⟨orr, lr⟩, ⟨obb, lb⟩, ⟨oi, li⟩, hne, hra, hrb, hri⟩ := hO9b
              refine lv_lload hx hb dL_areOrders_70 (lv_at hl 2 rfl) ?_
              refine lv_iload hx hb dL_areOrders_72 (lv_at hl 0 rfl) ?_
              refine lv_bipush (v := 115) hx hb dL_areOrders_74 (by decide) ?_
              refine lv_icmp_ne (tgt := 89) hx hb dL_areOrders_76 (by decide) (fun c73 => ?_) (fun c73 => ?_)
              · refine lv_lconst (v := 0) hx hb dL_areOrders_89 (by decide) ?_
                refine lv_ladd hx hb dL_areOrders_90 ?_
                refine lv_topl (fun x74 ex74 => ?_)
                refine lv_lstore (lv' := [(6, .long x74), (11, .int 107), (10, .int xi), (8, .int mn), (9, .int 1), (5, .ref p1), (0, .ref (z 0)), (1, .int on), (2, .ref ri), (3, .ref ra), (4, .ref rb)]) hx hb dL_areOrders_91 hl (by decide) rfl (fun ls hl => ?_)
                refine lv_iload hx hb dL_areOrders_93 (lv_at hl 3 rfl) ?_
                refine lv_iload hx hb dL_areOrders_95 (lv_at hl 1 rfl) ?_
                refine lv_bipush (v := 115) hx hb dL_areOrders_97 (by decide) ?_
                refine lv_icmp_ne (tgt := 106) hx hb dL_areOrders_99 (by decide) (fun c75 => ?_) (fun c75 => ?_)
                · refine lv_iconst (v := 0) hx hb dL_areOrders_106 (by decide) ?_
                  refine lv_iadd hx hb dL_areOrders_107 ?_
                  refine lv_topi (fun x76 ex76 => ?_)
                  have tx76 : x76.toInt = mn.toInt + (0) := kt_add ex76 (rfl : mn.toInt = mn.toInt) (by decide : (0 : Int32).toInt = 0) (by omega) (by omega)
                  refine lv_istore (lv' := [(8, .int x76), (6, .long x74), (11, .int 107), (10, .int xi), (9, .int 1), (5, .ref p1), (0, .ref (z 0)), (1, .int on), (2, .ref ri), (3, .ref ra), (4, .ref rb)]) hx hb dL_areOrders_108 hl (by decide) rfl (fun ls hl => ?_)
                  refine lv_iload hx hb dL_areOrders_110 (lv_at hl 4 rfl) ?_
                  refine lv_iload hx hb dL_areOrders_112 (lv_at hl 2 rfl) ?_
                  refine lv_aload_n hx hb dL_areOrders_114 rfl (lv_at hl 6 rfl) ?_
                  refine lv_iload hx hb dL_areOrders_115 (lv_at hl 3 rfl) ?_
                  refine kcallhI (kSthW (n := 2) (As := [.ref (z 0), .int xi]) (rest := [.int 107, .int 1]) F hE hNc hK hP hD hS hA (kh_stateByScans l g e0 S _ (z 0) xi _ _ hI.ob0 (c_X5_stateByScans_x l hl0 g e0 z S _ hI av lv q hR hW.1 xi) (fun E h => h.1)) kw_508 kw_509 kw_61 kw_510 (by decide +kernel) ⟨Nat.le_of_ble_eq_true rfl, Nat.le_of_ble_eq_true rfl⟩ rfl hl.1 rfl (Nat.le_of_ble_eq_true rfl) dL_areOrders_117 ⟨(by show kc + 1 + 1 ≤ 79; omega), (by show ns + 6 + 6 ≤ 471; omega)⟩) rfl hD hS hA (fun r77 T1 H locs hp hP hq1x hq2x hq3x hf1 hS => ?_)
                  clear hq1x hq2x hq3x
                  have hO := kO_keep hO hdis hf1
                  obtain ⟨hT, nr77⟩ := kp_Ac (i := i) hp hi (by omega) (by omega) (by omega)
                  subst hT
                  clear hp
                  obtain rfl : r77 = 107 := kt_lit (A := 107) (by omega) (by decide)
                  refine lv_icmp_ne (tgt := 176) hx hb dL_areOrders_120 (by decide) (fun c78 => ?_) (fun c78 => ?_)
                  · exact absurd c78 (by decide)
                  · refine lv_iload hx hb dL_areOrders_123 (lv_at hl 2 rfl) ?_
                    refine lv_bipush (v := 112) hx hb dL_areOrders_125 (by decide) ?_
                    refine lv_icmp_ne (tgt := 151) hx hb dL_areOrders_127 (by decide) (fun c79 => ?_) (fun c79 => ?_)
                    · refine lv_aload_n hx hb dL_areOrders_151 rfl (lv_at hl 6 rfl) ?_
                      refine lv_iload hx hb dL_areOrders_152 (lv_at hl 3 rfl) ?_
                      refine kcallhI (kSthW (n := 2) (As := [.ref (z 0), .int xi]) (rest := [.int 1]) F hE hNc hK hP hD hS hA (kh_amount l g e0 S _ (z 0) xi _ _ hI.ob0 (c_X5_amount_x l hl0 g e0 z S _ hI av lv q hR h73 xi) (fun E h => h.1)) kw_273 kw_274 kw_61 kw_275 (by decide +kernel) ⟨Nat.le_of_ble_eq_true rfl, Nat.le_of_ble_eq_true rfl⟩ rfl hl.1 rfl (Nat.le_of_ble_eq_true rfl) dL_areOrders_154 ⟨(by show kc + 1 + 1 + 1 ≤ 79; omega), (by show ns + 6 + 6 + 6 ≤ 471; omega)⟩) rfl hD hS hA (fun r80 T1 H locs hp hP hq1x hq2x hq3x hf1 hS => ?_)
                      clear hq1x hq2x hq3x
                      have hO := kO_keep hO hdis hf1
                      obtain ⟨hT, nr80⟩ := kp_A (i := i) hp hi (by omega) (by omega) (by omega)
                      subst hT
                      clear hp
                      refine lv_iload hx hb dL_areOrders_157 (lv_at hl 2 rfl) ?_
                      refine lv_bipush (v := 100) hx hb dL_areOrders_159 (by decide) ?_
                      refine lv_icmp_ne (tgt := 168) hx hb dL_areOrders_161 (by decide) (fun c81 => ?_) (fun c81 => ?_)
                      · refine lv_iconst (v := 1) hx hb dL_areOrders_168 (by decide) ?_
                        refine lv_icmp_lt (tgt := 176) hx hb dL_areOrders_169 (by decide) (fun c82 => ?_) (fun c82 => ?_)
                        · have d82 : r80.toInt < (1) := (kc_lt (rfl : r80.toInt = r80.toInt) (by decide : (1 : Int32).toInt = 1)).mp c82
                          exfalso; omega
                        · have d82 : ¬ (r80.toInt < (1)) := mt (kc_lt (rfl : r80.toInt = r80.toInt) (by decide : (1 : Int32).toInt = 1)).mpr c82
                          refine lv_iconst (v := 1) hx hb dL_areOrders_172 (by decide) ?_
                          refine lv_goto (tgt := 177) hx hb dL_areOrders_173 (by decide) ?_
                          refine lv_iand hx hb dL_areOrders_177 ?_
                          refine lv_topi (fun x83 e83 => ?_)
                          obtain rfl : x83 = 1 := e83.trans (by decide)
                          refine lv_istore (lv' := [(9, .int 1), (8, .int x76), (6, .long x74), (11, .int 107), (10, .int xi), (5, .ref p1), (0, .ref (z 0)), (1, .int on), (2, .ref ri), (3, .ref ra), (4, .ref rb)]) hx hb dL_areOrders_178 hl (by decide) rfl (fun ls hl => ?_)
                          obtain ⟨x84, ex84⟩ : ∃ y : Int32, y = xi + 1 := ⟨_, rfl⟩
                          refine lv_iinc (v := x84) (lv' := [(10, .int x84), (9, .int 1), (8, .int x76), (6, .long x74), (11, .int 107), (5, .ref p1), (0, .ref (z 0)), (1, .int on), (2, .ref ri), (3, .ref ra), (4, .ref rb)]) hx hb dL_areOrders_180 hl (k := 4) rfl (by rw [ex84]; rfl) (by decide) rfl (fun ls hl => ?_)
                          have tx84 : x84.toInt = xi.toInt + 1 := kt_add ex84 (rfl : xi.toInt = xi.toInt) (by decide) (by omega) (by omega)
                          refine lv_goto (tgt := 29) hx hb dL_areOrders_183 (by decide) ?_
                          exact ih (i + 1) x84 x74 x76 _ _ _ H locs ls hP hO hDO hS (lv_sub hl [0, 3, 2, 1, 5, 6, 7, 8, 9, 10] rfl) (by omega) (by omega) (by omega) (by omega) (by omega) hf2 (by rw [q_shp_s, if_neg (by omega), ex74, hsh]; exact Int64.add_zero _) (by rw [q_sc_s, if_neg (by omega)]; omega)
                      · exact absurd c81 (by decide)
                    · exact absurd c79 (by decide)
                · exact absurd c75 (by decide)
              · exact absurd c73 (by decide)
            · exact absurd c71 (by decide)
          · obtain rfl : r29 = 115 := kt_lit (A := 115) (by omega) (by decide)
            refine lv_istore (lv' := [(11, .int 115), (10, .int xi), (6, .long sh), (8, .int mn), (9, .int 1), (5, .ref p1), (0, .ref (z 0)), (1, .int on), (2, .ref ri), (3, .ref ra), (4, .ref rb)]) hx hb dL_areOrders_41 hl (by decide) rfl (fun ls hl => ?_)
            refine lv_aload hx hb dL_areOrders_43 (lv_at hl 5 rfl) ?_
            refine lv_aload_n hx hb dL_areOrders_45 rfl (lv_at hl 8 rfl) ?_
            refine lv_iload hx hb dL_areOrders_46 (lv_at hl 1 rfl) ?_
            refine rd_I F hK hO oi (by rw [li]; exact kt_in hi (by omega) (by decide)) dL_areOrders_48 ?_
            refine lv_topi (fun x85 ex85 => ?_)
            have nx85 : x85.toInt = ((q 21 i : Nat) : Int) := kt_nI (by rw [ex85, kt_clamp hi (by omega)]; exact hri i (by omega)) (by omega)
            refine lv_dup2_11 hx hb dL_areOrders_49 rfl rfl ?_
            refine rd_I F hK hO onew.1 (by rw [onew.2]; exact kt_in nx85 (by omega) (by decide)) dL_areOrders_50 ?_
            refine lv_topi (fun x86 ex86 => ?_)
            have nx86 : x86.toInt = ((q_sum q (q 21 i) i : Nat) : Int) := kt_nI (by rw [ex86, kt_clamp nx85 (by omega)]; exact (show pX (setX (newA O p1 9 3) p1 f) p1 (q 21 i) = nI (q_sum q (q 21 i) i) by rw [kxs_at]; exact hf (q 21 i) (by omega))) (by omega)
            refine lv_iload hx hb dL_areOrders_51 (lv_at hl 0 rfl) ?_
            refine lv_bipush (v := 112) hx hb dL_areOrders_53 (by decide) ?_
            refine lv_icmp_ne (tgt := 67) hx hb dL_areOrders_55 (by decide) (fun c87 => ?_) (fun c87 => ?_)
            · refine lv_iconst (v := 0) hx hb dL_areOrders_67 (by decide) ?_
              refine lv_iadd hx hb dL_areOrders_68 ?_
              refine lv_topi (fun x88 ex88 => ?_)
              have tx88 : x88.toInt = x86.toInt + (0) := kt_add ex88 (rfl : x86.toInt = x86.toInt) (by decide : (0 : Int32).toInt = 0) (by omega) (by omega)
              refine rt2_I F hK hP hO hD hDO hdis hS onew.1 (by rw [onew.2]; exact kt_in nx85 (by omega) (by decide)) dL_areOrders_69 (fun H locs hP hO hDO hS => ?_)
              rw [kx_set, kt_clamp nx85 (by omega)] at hO hDO
              have hdis : kdis S (setX (newA O p1 9 3) p1 (upd f (q 21 i) x88)) := hdis9
              have hfv : x88.toInt = ((q_sum q (q 21 i) i + (if q 24 i = 112 then q 23 i else 0) : Nat) : Int) := by rw [if_neg (by omega)]; omega
              have hfb : q_sum q (q 21 i) i + (if q 24 i = 112 then q 23 i else 0) < 2 ^ 31 := by rw [if_neg (by omega)]; omega
              have hf2 := q_sum_up1 hf rfl hfv hfb
              have hO9b := hO9.new (kd := 9) (n := 3) (f := upd f (q 21 i) x88) hp1
              obtain ⟨⟨oa, la⟩, ⟨orr, lr⟩, ⟨obb, lb⟩, ⟨oi, li⟩, hne, hra, hrb, hri⟩ := hO9b
              refine lv_lload hx hb dL_areOrders_70 (lv_at hl 2 rfl) ?_
              refine lv_iload hx hb dL_areOrders_72 (lv_at hl 0 rfl) ?_
              refine lv_bipush (v := 115) hx hb dL_areOrders_74 (by decide) ?_
              refine lv_icmp_ne (tgt := 89) hx hb dL_areOrders_76 (by decide) (fun c89 => ?_) (fun c89 => ?_)
              · exact absurd c89 (by decide)
              · refine lv_aload_n hx hb dL_areOrders_79 rfl (lv_at hl 6 rfl) ?_
                refine lv_iload hx hb dL_areOrders_80 (lv_at hl 1 rfl) ?_
                refine kcallhI (kSthW (n := 2) (As := [.ref (z 0), .int xi]) (rest := [.long sh]) F hE hNc hK hP hD hS hA (kh_amount l g e0 S _ (z 0) xi _ _ hI.ob0 (c_X5_amount_x l hl0 g e0 z S _ hI av lv q hR h73 xi) (fun E h => h.1)) kw_273 kw_274 kw_61 kw_275 (by decide +kernel) ⟨Nat.le_of_ble_eq_true rfl, Nat.le_of_ble_eq_true rfl⟩ rfl hl.1 rfl (Nat.le_of_ble_eq_true rfl) dL_areOrders_82 ⟨(by show kc + 1 + 1 ≤ 79; omega), (by show ns + 6 + 6 ≤ 471; omega)⟩) rfl hD hS hA (fun r90 T1 H locs hp hP hq1x hq2x hq3x hf1 hS => ?_)
                clear hq1x hq2x hq3x
                have hO := kO_keep hO hdis hf1
                obtain ⟨hT, nr90⟩ := kp_A (i := i) hp hi (by omega) (by omega) (by omega)
                subst hT
                clear hp
                refine lv_i2l (v := r90.toInt64) hx hb dL_areOrders_85 rfl ?_
                refine lv_goto (tgt := 90) hx hb dL_areOrders_86 (by decide) ?_
                refine lv_ladd hx hb dL_areOrders_90 ?_
                refine lv_topl (fun x91 ex91 => ?_)
                refine lv_lstore (lv' := [(6, .long x91), (11, .int 115), (10, .int xi), (8, .int mn), (9, .int 1), (5, .ref p1), (0, .ref (z 0)), (1, .int on), (2, .ref ri), (3, .ref ra), (4, .ref rb)]) hx hb dL_areOrders_91 hl (by decide) rfl (fun ls hl => ?_)
                refine lv_iload hx hb dL_areOrders_93 (lv_at hl 3 rfl) ?_
                refine lv_iload hx hb dL_areOrders_95 (lv_at hl 1 rfl) ?_
                refine lv_bipush (v := 115) hx hb dL_areOrders_97 (by decide) ?_
                refine lv_icmp_ne (tgt := 106) hx hb dL_areOrders_99 (by decide) (fun c92 => ?_) (fun c92 => ?_)
                · exact absurd c92 (by decide)
                · refine lv_iconst (v := 1) hx hb dL_areOrders_102 (by decide) ?_
                  refine lv_goto (tgt := 107) hx hb dL_areOrders_103 (by decide) ?_
                  refine lv_iadd hx hb dL_areOrders_107 ?_
                  refine lv_topi (fun x93 ex93 => ?_)
                  have tx93 : x93.toInt = mn.toInt + (1) := kt_add ex93 (rfl : mn.toInt = mn.toInt) (by decide : (1 : Int32).toInt = 1) (by omega) (by omega)
                  refine lv_istore (lv' := [(8, .int x93), (6, .long x91), (11, .int 115), (10, .int xi), (9, .int 1), (5, .ref p1), (0, .ref (z 0)), (1, .int on), (2, .ref ri), (3, .ref ra), (4, .ref rb)]) hx hb dL_areOrders_108 hl (by decide) rfl (fun ls hl => ?_)
                  refine lv_iload hx hb dL_areOrders_110 (lv_at hl 4 rfl) ?_
                  refine lv_iload hx hb dL_areOrders_112 (lv_at hl 2 rfl) ?_
                  refine lv_aload_n hx hb dL_areOrders_114 rfl (lv_at hl 6 rfl) ?_
                  refine lv_iload hx hb dL_areOrders_115 (lv_at hl 3 rfl) ?_
                  refine kcallhI (kSthW (n := 2) (As := [.ref (z 0), .int xi]) (rest := [.int 115, .int 1]) F hE hNc hK hP hD hS hA (kh_stateByScans l g e0 S _ (z 0) xi _ _ hI.ob0 (c_X5_stateByScans_x l hl0 g e0 z S _ hI av lv q hR hW.1 xi) (fun E h => h.1)) kw_508 kw_509 kw_61 kw_510 (by decide +kernel) ⟨Nat.le_of_ble_eq_true rfl, Nat.le_of_ble_eq_true rfl⟩ rfl hl.1 rfl (Nat.le_of_ble_eq_true rfl) dL_areOrders_117 ⟨(by show kc + 1 + 1 + 1 ≤ 79; omega), (by show ns + 6 + 6 + 6 ≤ 471; omega)⟩) rfl hD hS hA (fun r94 T1 H locs hp hP hq1x hq2x hq3x hf1 hS => ?_)
                  clear hq1x hq2x hq3x
                  have hO := kO_keep hO hdis hf1
                  obtain ⟨hT, nr94⟩ := kp_Ac (i := i) hp hi (by omega) (by omega) (by omega)
                  subst hT
                  clear hp
                  obtain rfl : r94 = 115 := kt_lit (A := 115) (by omega) (by decide)
                  refine lv_icmp_ne (tgt := 176) hx hb dL_areOrders_120 (by decide) (fun c95 => ?_) (fun c95 => ?_)
                  · exact absurd c95 (by decide)
                  · refine lv_iload hx hb dL_areOrders_123 (lv_at hl 2 rfl) ?_
                    refine lv_bipush (v := 112) hx hb dL_areOrders_125 (by decide) ?_
                    refine lv_icmp_ne (tgt := 151) hx hb dL_areOrders_127 (by decide) (fun c96 => ?_) (fun c96 => ?_)
                    · refine lv_aload_n hx hb dL_areOrders_151 rfl (lv_at hl 6 rfl) ?_
                      refine lv_iload hx hb dL_areOrders_152 (lv_at hl 3 rfl) ?_
                      refine kcallhI (kSthW (n := 2) (As := [.ref (z 0), .int xi]) (rest := [.int 1]) F hE hNc hK hP hD hS hA (kh_amount l g e0 S _ (z 0) xi _ _ hI.ob0 (c_X5_amount_x l hl0 g e0 z S _ hI av lv q hR h73 xi) (fun E h => h.1)) kw_273 kw_274 kw_61 kw_275 (by decide +kernel) ⟨Nat.le_of_ble_eq_true rfl, Nat.le_of_ble_eq_true rfl⟩ rfl hl.1 rfl (Nat.le_of_ble_eq_true rfl) dL_areOrders_154 ⟨(by show kc + 1 + 1 + 1 + 1 ≤ 79; omega), (by show ns + 6 + 6 + 6 + 6 ≤ 471; omega)⟩) rfl hD hS hA (fun r97 T1 H locs hp hP hq1x hq2x hq3x hf1 hS => ?_)
                      clear hq1x hq2x hq3x
                      have hO := kO_keep hO hdis hf1
                      obtain ⟨hT, nr97⟩ := kp_A (i := i) hp hi (by omega) (by omega) (by omega)
                      subst hT
                      clear hp
                      refine lv_iload hx hb dL_areOrders_157 (lv_at hl 2 rfl) ?_
                      refine lv_bipush (v := 100) hx hb dL_areOrders_159 (by decide) ?_
                      refine lv_icmp_ne (tgt := 168) hx hb dL_areOrders_161 (by decide) (fun c98 => ?_) (fun c98 => ?_)
                      · refine lv_iconst (v := 1) hx hb dL_areOrders_168 (by decide) ?_
                        refine lv_icmp_lt (tgt := 176) hx hb dL_areOrders_169 (by decide) (fun c99 => ?_) (fun c99 => ?_)
                        · have d99 : r97.toInt < (1) := (kc_lt (rfl : r97.toInt = r97.toInt) (by decide : (1 : Int32).toInt = 1)).mp c99
                          exfalso; omega
                        · have d99 : ¬ (r97.toInt < (1)) := mt (kc_lt (rfl : r97.toInt = r97.toInt) (by decide : (1 : Int32).toInt = 1)).mpr c99
                          refine lv_iconst (v := 1) hx hb dL_areOrders_172 (by decide) ?_
                          refine lv_goto (tgt := 177) hx hb dL_areOrders_173 (by decide) ?_
                          refine lv_iand hx hb dL_areOrders_177 ?_
                          refine lv_topi (fun x100 e100 => ?_)
                          obtain rfl : x100 = 1 := e100.trans (by decide)
                          refine lv_istore (lv' := [(9, .int 1), (8, .int x93), (6, .long x91), (11, .int 115), (10, .int xi), (5, .ref p1), (0, .ref (z 0)), (1, .int on), (2, .ref ri), (3, .ref ra), (4, .ref rb)]) hx hb dL_areOrders_178 hl (by decide) rfl (fun ls hl => ?_)
                          obtain ⟨x101, ex101⟩ : ∃ y : Int32, y = xi + 1 := ⟨_, rfl⟩
                          refine lv_iinc (v := x101) (lv' := [(10, .int x101), (9, .int 1), (8, .int x93), (6, .long x91), (11, .int 115), (5, .ref p1), (0, .ref (z 0)), (1, .int on), (2, .ref ri), (3, .ref ra), (4, .ref rb)]) hx hb dL_areOrders_180 hl (k := 4) rfl (by rw [ex101]; rfl) (by decide) rfl (fun ls hl => ?_)
                          have tx101 : x101.toInt = xi.toInt + 1 := kt_add ex101 (rfl : xi.toInt = xi.toInt) (by decide) (by omega) (by omega)
                          refine lv_goto (tgt := 29) hx hb dL_areOrders_183 (by decide) ?_
                          exact ih (i + 1) x101 x91 x93 _ _ _ H locs ls hP hO hDO hS (lv_sub hl [0, 3, 2, 1, 5, 6, 7, 8, 9, 10] rfl) (by omega) (by omega) (by omega) (by omega) (by omega) hf2 (by rw [q_shp_s, if_pos hst, ex91, hsh, kt_of nr90 (by omega)]; exact lN_addI (by omega)) (by rw [q_sc_s, if_pos hst]; omega)
                      · exact absurd c98 (by decide)
                    · exact absurd c96 (by decide)
            · exact absurd c87 (by decide)
          · obtain rfl : r29 = 100 := kt_lit (A := 100) (by omega) (by decide)
            refine lv_istore (lv' := [(11, .int 100), (10, .int xi), (6, .long sh), (8, .int mn), (9, .int 1), (5, .ref p1), (0, .ref (z 0)), (1, .int on), (2, .ref ri), (3, .ref ra), (4, .ref rb)]) hx hb dL_areOrders_41 hl (by decide) rfl (fun ls hl => ?_)
            refine lv_aload hx hb dL_areOrders_43 (lv_at hl 5 rfl) ?_
            refine lv_aload_n hx hb dL_areOrders_45 rfl (lv_at hl 8 rfl) ?_
            refine lv_iload hx hb dL_areOrders_46 (lv_at hl 1 rfl) ?_
            refine rd_I F hK hO oi (by rw [li]; exact kt_in hi (by omega) (by decide)) dL_areOrders_48 ?_
            refine lv_topi (fun x102 ex102 => ?_)
            have nx102 : x102.toInt = ((q 21 i : Nat) : Int) := kt_nI (by rw [ex102, kt_clamp hi (by omega)]; exact hri i (by omega)) (by omega)
            refine lv_dup2_11 hx hb dL_areOrders_49 rfl rfl ?_
            refine rd_I F hK hO onew.1 (by rw [onew.2]; exact kt_in nx102 (by omega) (by decide)) dL_areOrders_50 ?_
            refine lv_topi (fun x103 ex103 => ?_)
            have nx103 : x103.toInt = ((q_sum q (q 21 i) i : Nat) : Int) := kt_nI (by rw [ex103, kt_clamp nx102 (by omega)]; exact (show pX (setX (newA O p1 9 3) p1 f) p1 (q 21 i) = nI (q_sum q (q 21 i) i) by rw [kxs_at]; exact hf (q 21 i) (by omega))) (by omega)
            refine lv_iload hx hb dL_areOrders_51 (lv_at hl 0 rfl) ?_
            refine lv_bipush (v := 112) hx hb dL_areOrders_53 (by decide) ?_
            refine lv_icmp_ne (tgt := 67) hx hb dL_areOrders_55 (by decide) (fun c104 => ?_) (fun c104 => ?_)
            · refine lv_iconst (v := 0) hx hb dL_areOrders_67 (by decide) ?_
              refine lv_iadd hx hb dL_areOrders_68 ?_
              refine lv_topi (fun x105 ex105 => ?_)
              have tx105 : x105.toInt = x103.toInt + (0) := kt_add ex105 (rfl : x103.toInt = x103.toInt) (by decide : (0 : Int32).toInt = 0) (by omega) (by omega)
              refine rt2_I F hK hP hO hD hDO hdis hS onew.1 (by rw [onew.2]; exact kt_in nx102 (by omega) (by decide)) dL_areOrders_69 (fun H locs hP hO hDO hS => ?_)
              rw [kx_set, kt_clamp nx102 (by omega)] at hO hDO
              have hdis : kdis S (setX (newA O p1 9 3) p1 (upd f (q 21 i) x105)) := hdis9
              have hfv : x105.toInt = ((q_sum q (q 21 i) i + (if q 24 i = 112 then q 23 i else 0) : Nat) : Int) := by rw [if_neg (by omega)]; omega
              have hfb : q_sum q (q 21 i) i + (if q 24 i = 112 then q 23 i else 0) < 2 ^ 31 := by rw [if_neg (by omega)]; omega
              have hf2 := q_sum_up1 hf rfl hfv hfb
              have hO9b := hO9.new (kd := 9) (n := 3) (f := upd f (q 21 i) x105) hp1
              obtain ⟨⟨oa, la⟩, ⟨orr, lr⟩, ⟨obb, lb⟩, ⟨oi, li⟩, hne, hra, hrb, hri⟩ := hO9b
              refine lv_lload hx hb dL_areOrders_70 (lv_at hl 2 rfl) ?_
              refine lv_iload hx hb dL_areOrders_72 (lv_at hl 0 rfl) ?_
              refine lv_bipush (v := 115) hx hb dL_areOrders_74 (by decide) ?_
              refine lv_icmp_ne (tgt := 89) hx hb dL_areOrders_76 (by decide) (fun c106 => ?_) (fun c106 => ?_)
              · refine lv_lconst (v := 0) hx hb dL_areOrders_89 (by decide) ?_
                refine lv_ladd hx hb dL_areOrders_90 ?_
                refine lv_topl (fun x107 ex107 => ?_)
                refine lv_lstore (lv' := [(6, .long x107), (11, .int 100), (10, .int xi), (8, .int mn), (9, .int 1), (5, .ref p1), (0, .ref (z 0)), (1, .int on), (2, .ref ri), (3, .ref ra), (4, .ref rb)]) hx hb dL_areOrders_91 hl (by decide) rfl (fun ls hl => ?_)
                refine lv_iload hx hb dL_areOrders_93 (lv_at hl 3 rfl) ?_
                refine lv_iload hx hb dL_areOrders_95 (lv_at hl 1 rfl) ?_
                refine lv_bipush (v := 115) hx hb dL_areOrders_97 (by decide) ?_
                refine lv_icmp_ne (tgt := 106) hx hb dL_areOrders_99 (by decide) (fun c108 => ?_) (fun c108 => ?_)
                · refine lv_iconst (v := 0) hx hb dL_areOrders_106 (by decide) ?_
                  refine lv_iadd hx hb dL_areOrders_107 ?_
                  refine lv_topi (fun x109 ex109 => ?_)
                  have tx109 : x109.toInt = mn.toInt + (0) := kt_add ex109 (rfl : mn.toInt = mn.toInt) (by decide : (0 : Int32).toInt = 0) (by omega) (by omega)
                  refine lv_istore (lv' := [(8, .int x109), (6, .long x107), (11, .int 100), (10, .int xi), (9, .int 1), (5, .ref p1), (0, .ref (z 0)), (1, .int on), (2, .ref ri), (3, .ref ra), (4, .ref rb)]) hx hb dL_areOrders_108 hl (by decide) rfl (fun ls hl => ?_)
                  refine lv_iload hx hb dL_areOrders_110 (lv_at hl 4 rfl) ?_
                  refine lv_iload hx hb dL_areOrders_112 (lv_at hl 2 rfl) ?_
                  refine lv_aload_n hx hb dL_areOrders_114 rfl (lv_at hl 6 rfl) ?_
                  refine lv_iload hx hb dL_areOrders_115 (lv_at hl 3 rfl) ?_
                  refine kcallhI (kSthW (n := 2) (As := [.ref (z 0), .int xi]) (rest := [.int 100, .int 1]) F hE hNc hK hP hD hS hA (kh_stateByScans l g e0 S _ (z 0) xi _ _ hI.ob0 (c_X5_stateByScans_x l hl0 g e0 z S _ hI av lv q hR hW.1 xi) (fun E h => h.1)) kw_508 kw_509 kw_61 kw_510 (by decide +kernel) ⟨Nat.le_of_ble_eq_true rfl, Nat.le_of_ble_eq_true rfl⟩ rfl hl.1 rfl (Nat.le_of_ble_eq_true rfl) dL_areOrders_117 ⟨(by show kc + 1 + 1 ≤ 79; omega), (by show ns + 6 + 6 ≤ 471; omega)⟩) rfl hD hS hA (fun r110 T1 H locs hp hP hq1x hq2x hq3x hf1 hS => ?_)
                  clear hq1x hq2x hq3x
                  have hO := kO_keep hO hdis hf1
                  obtain ⟨hT, nr110⟩ := kp_Ac (i := i) hp hi (by omega) (by omega) (by omega)
                  subst hT
                  clear hp
                  obtain rfl : r110 = 100 := kt_lit (A := 100) (by omega) (by decide)
                  refine lv_icmp_ne (tgt := 176) hx hb dL_areOrders_120 (by decide) (fun c111 => ?_) (fun c111 => ?_)
                  · exact absurd c111 (by decide)
                  · refine lv_iload hx hb dL_areOrders_123 (lv_at hl 2 rfl) ?_
                    refine lv_bipush (v := 112) hx hb dL_areOrders_125 (by decide) ?_
                    refine lv_icmp_ne (tgt := 151) hx hb dL_areOrders_127 (by decide) (fun c112 => ?_) (fun c112 => ?_)
                    · refine lv_aload_n hx hb dL_areOrders_151 rfl (lv_at hl 6 rfl) ?_
                      refine lv_iload hx hb dL_areOrders_152 (lv_at hl 3 rfl) ?_
                      refine kcallhI (kSthW (n := 2) (As := [.ref (z 0), .int xi]) (rest := [.int 1]) F hE hNc hK hP hD hS hA (kh_amount l g e0 S _ (z 0) xi _ _ hI.ob0 (c_X5_amount_x l hl0 g e0 z S _ hI av lv q hR h73 xi) (fun E h => h.1)) kw_273 kw_274 kw_61 kw_275 (by decide +kernel) ⟨Nat.le_of_ble_eq_true rfl, Nat.le_of_ble_eq_true rfl⟩ rfl hl.1 rfl (Nat.le_of_ble_eq_true rfl) dL_areOrders_154 ⟨(by show kc + 1 + 1 + 1 ≤ 79; omega), (by show ns + 6 + 6 + 6 ≤ 471; omega)⟩) rfl hD hS hA (fun r113 T1 H locs hp hP hq1x hq2x hq3x hf1 hS => ?_)
                      clear hq1x hq2x hq3x
                      have hO := kO_keep hO hdis hf1
                      obtain ⟨hT, nr113⟩ := kp_A (i := i) hp hi (by omega) (by omega) (by omega)
                      subst hT
                      clear hp
                      refine lv_iload hx hb dL_areOrders_157 (lv_at hl 2 rfl) ?_
                      refine lv_bipush (v := 100) hx hb dL_areOrders_159 (by decide) ?_
                      refine lv_icmp_ne (tgt := 168) hx hb dL_areOrders_161 (by decide) (fun c114 => ?_) (fun c114 => ?_)
                      · exact absurd c114 (by decide)
                      · refine lv_iconst (v := 0) hx hb dL_areOrders_164 (by decide) ?_
                        refine lv_goto (tgt := 169) hx hb dL_areOrders_165 (by decide) ?_
                        refine lv_icmp_lt (tgt := 176) hx hb dL_areOrders_169 (by decide) (fun c115 => ?_) (fun c115 => ?_)
                        · have d115 : r113.toInt < (0) := (kc_lt (rfl : r113.toInt = r113.toInt) (by decide : (0 : Int32).toInt = 0)).mp c115
                          exfalso; omega
                        · have d115 : ¬ (r113.toInt < (0)) := mt (kc_lt (rfl : r113.toInt = r113.toInt) (by decide : (0 : Int32).toInt = 0)).mpr c115
                          refine lv_iconst (v := 1) hx hb dL_areOrders_172 (by decide) ?_
                          refine lv_goto (tgt := 177) hx hb dL_areOrders_173 (by decide) ?_
                          refine lv_iand hx hb dL_areOrders_177 ?_
                          refine lv_topi (fun x116 e116 => ?_)
                          obtain rfl : x116 = 1 := e116.trans (by decide)
                          refine lv_istore (lv' := [(9, .int 1), (8, .int x109), (6, .long x107), (11, .int 100), (10, .int xi), (5, .ref p1), (0, .ref (z 0)), (1, .int on), (2, .ref ri), (3, .ref ra), (4, .ref rb)]) hx hb dL_areOrders_178 hl (by decide) rfl (fun ls hl => ?_)
                          obtain ⟨x117, ex117⟩ : ∃ y : Int32, y = xi + 1 := ⟨_, rfl⟩
                          refine lv_iinc (v := x117) (lv' := [(10, .int x117), (9, .int 1), (8, .int x109), (6, .long x107), (11, .int 100), (5, .ref p1), (0, .ref (z 0)), (1, .int on), (2, .ref ri), (3, .ref ra), (4, .ref rb)]) hx hb dL_areOrders_180 hl (k := 4) rfl (by rw [ex117]; rfl) (by decide) rfl (fun ls hl => ?_)
                          have tx117 : x117.toInt = xi.toInt + 1 := kt_add ex117 (rfl : xi.toInt = xi.toInt) (by decide) (by omega) (by omega)
                          refine lv_goto (tgt := 29) hx hb dL_areOrders_183 (by decide) ?_
                          exact ih (i + 1) x117 x107 x109 _ _ _ H locs ls hP hO hDO hS (lv_sub hl [0, 3, 2, 1, 5, 6, 7, 8, 9, 10] rfl) (by omega) (by omega) (by omega) (by omega) (by omega) hf2 (by rw [q_shp_s, if_neg (by omega), ex107, hsh]; exact Int64.add_zero _) (by rw [q_sc_s, if_neg (by omega)]; omega)
                    · exact absurd c112 (by decide)
                · exact absurd c108 (by decide)
              · exact absurd c106 (by decide)
            · exact absurd c104 (by decide)
    exact loop 13 0 0 0 0 (fun _ => 0) _ _ _ _ _ hP hO hDO hS (lv_sub hl [0, 3, 2, 1, 4, 5, 6, 7, 8, 9] rfl) (by omega) (by decide) (Nat.zero_le _) (by omega) (by omega) (fun _ _ => rfl) rfl (show (0 : Int32).toInt = ((0 : Nat) : Int) by decide)
