theorem dL_areScans_0 : decode cL_areScans 0 = .ok (.bipush 12, 2) := by decide +kernel
theorem dL_areScans_2 : decode cL_areScans 2 = .ok (.newarray .char, 2) := by decide +kernel
theorem dL_areScans_4 : decode cL_areScans 4 = .ok (.astore_n 2, 1) := by decide +kernel
theorem dL_areScans_5 : decode cL_areScans 5 = .ok (.iconst 1, 1) := by decide +kernel
theorem dL_areScans_6 : decode cL_areScans 6 = .ok (.istore_n 3, 1) := by decide +kernel
theorem dL_areScans_7 : decode cL_areScans 7 = .ok (.iconst 0, 1) := by decide +kernel
theorem dL_areScans_8 : decode cL_areScans 8 = .ok (.istore 4, 2) := by decide +kernel
theorem dL_areScans_10 : decode cL_areScans 10 = .ok (.iload 4, 2) := by decide +kernel
theorem dL_areScans_12 : decode cL_areScans 12 = .ok (.aload_n 0, 1) := by decide +kernel
theorem dL_areScans_13 : decode cL_areScans 13 = .ok (.invokevirtual 199, 3) := by decide +kernel
theorem dL_areScans_16 : decode cL_areScans 16 = .ok (.if_icmp .ge 178, 3) := by decide +kernel
theorem dL_areScans_19 : decode cL_areScans 19 = .ok (.aload_n 0, 1) := by decide +kernel
theorem dL_areScans_20 : decode cL_areScans 20 = .ok (.iload 4, 2) := by decide +kernel
theorem dL_areScans_22 : decode cL_areScans 22 = .ok (.invokestatic 225, 3) := by decide +kernel
theorem dL_areScans_25 : decode cL_areScans 25 = .ok (.istore 5, 2) := by decide +kernel
theorem dL_areScans_27 : decode cL_areScans 27 = .ok (.aload_n 0, 1) := by decide +kernel
theorem dL_areScans_28 : decode cL_areScans 28 = .ok (.iload 4, 2) := by decide +kernel
theorem dL_areScans_30 : decode cL_areScans 30 = .ok (.invokestatic 227, 3) := by decide +kernel
theorem dL_areScans_33 : decode cL_areScans 33 = .ok (.i2c, 1) := by decide +kernel
theorem dL_areScans_34 : decode cL_areScans 34 = .ok (.istore 6, 2) := by decide +kernel
theorem dL_areScans_36 : decode cL_areScans 36 = .ok (.aload_n 2, 1) := by decide +kernel
theorem dL_areScans_37 : decode cL_areScans 37 = .ok (.iload 5, 2) := by decide +kernel
theorem dL_areScans_39 : decode cL_areScans 39 = .ok (.caload, 1) := by decide +kernel
theorem dL_areScans_40 : decode cL_areScans 40 = .ok (.istore 7, 2) := by decide +kernel
theorem dL_areScans_42 : decode cL_areScans 42 = .ok (.iload 6, 2) := by decide +kernel
theorem dL_areScans_44 : decode cL_areScans 44 = .ok (.bipush 110, 2) := by decide +kernel
theorem dL_areScans_46 : decode cL_areScans 46 = .ok (.if_icmp .ne 16, 3) := by decide +kernel
theorem dL_areScans_49 : decode cL_areScans 49 = .ok (.iload 7, 2) := by decide +kernel
theorem dL_areScans_51 : decode cL_areScans 51 = .ok (.ifCond .ne 7, 3) := by decide +kernel
theorem dL_areScans_54 : decode cL_areScans 54 = .ok (.iconst 1, 1) := by decide +kernel
theorem dL_areScans_55 : decode cL_areScans 55 = .ok (.goto 120, 3) := by decide +kernel
theorem dL_areScans_58 : decode cL_areScans 58 = .ok (.iconst 0, 1) := by decide +kernel
theorem dL_areScans_59 : decode cL_areScans 59 = .ok (.goto 116, 3) := by decide +kernel
theorem dL_areScans_62 : decode cL_areScans 62 = .ok (.iload 6, 2) := by decide +kernel
theorem dL_areScans_64 : decode cL_areScans 64 = .ok (.bipush 112, 2) := by decide +kernel
theorem dL_areScans_66 : decode cL_areScans 66 = .ok (.if_icmp .ne 25, 3) := by decide +kernel
theorem dL_areScans_69 : decode cL_areScans 69 = .ok (.iload 7, 2) := by decide +kernel
theorem dL_areScans_71 : decode cL_areScans 71 = .ok (.bipush 110, 2) := by decide +kernel
theorem dL_areScans_73 : decode cL_areScans 73 = .ok (.if_icmp .eq 10, 3) := by decide +kernel
theorem dL_areScans_76 : decode cL_areScans 76 = .ok (.iload 7, 2) := by decide +kernel
theorem dL_areScans_78 : decode cL_areScans 78 = .ok (.bipush 117, 2) := by decide +kernel
theorem dL_areScans_80 : decode cL_areScans 80 = .ok (.if_icmp .ne 7, 3) := by decide +kernel
theorem dL_areScans_83 : decode cL_areScans 83 = .ok (.iconst 1, 1) := by decide +kernel
theorem dL_areScans_84 : decode cL_areScans 84 = .ok (.goto 91, 3) := by decide +kernel
theorem dL_areScans_87 : decode cL_areScans 87 = .ok (.iconst 0, 1) := by decide +kernel
theorem dL_areScans_88 : decode cL_areScans 88 = .ok (.goto 87, 3) := by decide +kernel
theorem dL_areScans_91 : decode cL_areScans 91 = .ok (.iload 6, 2) := by decide +kernel
theorem dL_areScans_93 : decode cL_areScans 93 = .ok (.bipush 117, 2) := by decide +kernel
theorem dL_areScans_95 : decode cL_areScans 95 = .ok (.if_icmp .eq 10, 3) := by decide +kernel
theorem dL_areScans_98 : decode cL_areScans 98 = .ok (.iload 6, 2) := by decide +kernel
theorem dL_areScans_100 : decode cL_areScans 100 = .ok (.bipush 107, 2) := by decide +kernel
theorem dL_areScans_102 : decode cL_areScans 102 = .ok (.if_icmp .ne 18, 3) := by decide +kernel
theorem dL_areScans_105 : decode cL_areScans 105 = .ok (.iload 7, 2) := by decide +kernel
theorem dL_areScans_107 : decode cL_areScans 107 = .ok (.bipush 112, 2) := by decide +kernel
theorem dL_areScans_109 : decode cL_areScans 109 = .ok (.if_icmp .ne 7, 3) := by decide +kernel
theorem dL_areScans_112 : decode cL_areScans 112 = .ok (.iconst 1, 1) := by decide +kernel
theorem dL_areScans_113 : decode cL_areScans 113 = .ok (.goto 62, 3) := by decide +kernel
theorem dL_areScans_116 : decode cL_areScans 116 = .ok (.iconst 0, 1) := by decide +kernel
theorem dL_areScans_117 : decode cL_areScans 117 = .ok (.goto 58, 3) := by decide +kernel
theorem dL_areScans_120 : decode cL_areScans 120 = .ok (.iload 6, 2) := by decide +kernel
theorem dL_areScans_122 : decode cL_areScans 122 = .ok (.bipush 115, 2) := by decide +kernel
theorem dL_areScans_124 : decode cL_areScans 124 = .ok (.if_icmp .ne 18, 3) := by decide +kernel
theorem dL_areScans_127 : decode cL_areScans 127 = .ok (.iload 7, 2) := by decide +kernel
theorem dL_areScans_129 : decode cL_areScans 129 = .ok (.bipush 107, 2) := by decide +kernel
theorem dL_areScans_131 : decode cL_areScans 131 = .ok (.if_icmp .ne 7, 3) := by decide +kernel
theorem dL_areScans_134 : decode cL_areScans 134 = .ok (.iconst 1, 1) := by decide +kernel
theorem dL_areScans_135 : decode cL_areScans 135 = .ok (.goto 40, 3) := by decide +kernel
theorem dL_areScans_138 : decode cL_areScans 138 = .ok (.iconst 0, 1) := by decide +kernel
theorem dL_areScans_139 : decode cL_areScans 139 = .ok (.goto 36, 3) := by decide +kernel
theorem dL_areScans_142 : decode cL_areScans 142 = .ok (.iload 6, 2) := by decide +kernel
theorem dL_areScans_144 : decode cL_areScans 144 = .ok (.bipush 100, 2) := by decide +kernel
theorem dL_areScans_146 : decode cL_areScans 146 = .ok (.if_icmp .ne 28, 3) := by decide +kernel
theorem dL_areScans_149 : decode cL_areScans 149 = .ok (.iload 7, 2) := by decide +kernel
theorem dL_areScans_151 : decode cL_areScans 151 = .ok (.bipush 110, 2) := by decide +kernel
theorem dL_areScans_153 : decode cL_areScans 153 = .ok (.if_icmp .eq 17, 3) := by decide +kernel
theorem dL_areScans_156 : decode cL_areScans 156 = .ok (.iload 7, 2) := by decide +kernel
theorem dL_areScans_158 : decode cL_areScans 158 = .ok (.bipush 117, 2) := by decide +kernel
theorem dL_areScans_160 : decode cL_areScans 160 = .ok (.if_icmp .eq 10, 3) := by decide +kernel
theorem dL_areScans_163 : decode cL_areScans 163 = .ok (.iload 7, 2) := by decide +kernel
theorem dL_areScans_165 : decode cL_areScans 165 = .ok (.bipush 112, 2) := by decide +kernel
theorem dL_areScans_167 : decode cL_areScans 167 = .ok (.if_icmp .ne 7, 3) := by decide +kernel
theorem dL_areScans_170 : decode cL_areScans 170 = .ok (.iconst 1, 1) := by decide +kernel
theorem dL_areScans_171 : decode cL_areScans 171 = .ok (.goto 4, 3) := by decide +kernel
theorem dL_areScans_174 : decode cL_areScans 174 = .ok (.iconst 0, 1) := by decide +kernel
theorem dL_areScans_175 : decode cL_areScans 175 = .ok (.istore 8, 2) := by decide +kernel
theorem dL_areScans_177 : decode cL_areScans 177 = .ok (.iload_n 3, 1) := by decide +kernel
theorem dL_areScans_178 : decode cL_areScans 178 = .ok (.iload 8, 2) := by decide +kernel
theorem dL_areScans_180 : decode cL_areScans 180 = .ok (.iand, 1) := by decide +kernel
theorem dL_areScans_181 : decode cL_areScans 181 = .ok (.istore_n 3, 1) := by decide +kernel
theorem dL_areScans_182 : decode cL_areScans 182 = .ok (.aload_n 2, 1) := by decide +kernel
theorem dL_areScans_183 : decode cL_areScans 183 = .ok (.iload 5, 2) := by decide +kernel
theorem dL_areScans_185 : decode cL_areScans 185 = .ok (.iload 6, 2) := by decide +kernel
theorem dL_areScans_187 : decode cL_areScans 187 = .ok (.castore, 1) := by decide +kernel
theorem dL_areScans_188 : decode cL_areScans 188 = .ok (.iinc 4 1, 3) := by decide +kernel
theorem dL_areScans_191 : decode cL_areScans 191 = .ok (.goto (-181), 3) := by decide +kernel
theorem dL_areScans_194 : decode cL_areScans 194 = .ok (.iconst 0, 1) := by decide +kernel
theorem dL_areScans_195 : decode cL_areScans 195 = .ok (.istore 4, 2) := by decide +kernel
theorem dL_areScans_197 : decode cL_areScans 197 = .ok (.iload 4, 2) := by decide +kernel
theorem dL_areScans_199 : decode cL_areScans 199 = .ok (.iload_n 1, 1) := by decide +kernel
theorem dL_areScans_200 : decode cL_areScans 200 = .ok (.if_icmp .ge 68, 3) := by decide +kernel
theorem dL_areScans_203 : decode cL_areScans 203 = .ok (.aload_n 0, 1) := by decide +kernel
theorem dL_areScans_204 : decode cL_areScans 204 = .ok (.iload 4, 2) := by decide +kernel
theorem dL_areScans_206 : decode cL_areScans 206 = .ok (.invokestatic 129, 3) := by decide +kernel
theorem dL_areScans_209 : decode cL_areScans 209 = .ok (.i2c, 1) := by decide +kernel
theorem dL_areScans_210 : decode cL_areScans 210 = .ok (.istore 5, 2) := by decide +kernel
theorem dL_areScans_212 : decode cL_areScans 212 = .ok (.iload_n 3, 1) := by decide +kernel
theorem dL_areScans_213 : decode cL_areScans 213 = .ok (.iload 5, 2) := by decide +kernel
theorem dL_areScans_215 : decode cL_areScans 215 = .ok (.bipush 111, 2) := by decide +kernel
theorem dL_areScans_217 : decode cL_areScans 217 = .ok (.if_icmp .ne 29, 3) := by decide +kernel
theorem dL_areScans_220 : decode cL_areScans 220 = .ok (.aload_n 2, 1) := by decide +kernel
theorem dL_areScans_221 : decode cL_areScans 221 = .ok (.iload 4, 2) := by decide +kernel
theorem dL_areScans_223 : decode cL_areScans 223 = .ok (.caload, 1) := by decide +kernel
theorem dL_areScans_224 : decode cL_areScans 224 = .ok (.bipush 110, 2) := by decide +kernel
theorem dL_areScans_226 : decode cL_areScans 226 = .ok (.if_icmp .eq 12, 3) := by decide +kernel
theorem dL_areScans_229 : decode cL_areScans 229 = .ok (.aload_n 2, 1) := by decide +kernel
theorem dL_areScans_230 : decode cL_areScans 230 = .ok (.iload 4, 2) := by decide +kernel
theorem dL_areScans_232 : decode cL_areScans 232 = .ok (.caload, 1) := by decide +kernel
theorem dL_areScans_233 : decode cL_areScans 233 = .ok (.bipush 117, 2) := by decide +kernel
theorem dL_areScans_235 : decode cL_areScans 235 = .ok (.if_icmp .ne 7, 3) := by decide +kernel
theorem dL_areScans_238 : decode cL_areScans 238 = .ok (.iconst 1, 1) := by decide +kernel
theorem dL_areScans_239 : decode cL_areScans 239 = .ok (.goto 21, 3) := by decide +kernel
theorem dL_areScans_242 : decode cL_areScans 242 = .ok (.iconst 0, 1) := by decide +kernel
theorem dL_areScans_243 : decode cL_areScans 243 = .ok (.goto 17, 3) := by decide +kernel
theorem dL_areScans_246 : decode cL_areScans 246 = .ok (.iload 5, 2) := by decide +kernel
theorem dL_areScans_248 : decode cL_areScans 248 = .ok (.aload_n 2, 1) := by decide +kernel
theorem dL_areScans_249 : decode cL_areScans 249 = .ok (.iload 4, 2) := by decide +kernel
theorem dL_areScans_251 : decode cL_areScans 251 = .ok (.caload, 1) := by decide +kernel
theorem dL_areScans_252 : decode cL_areScans 252 = .ok (.if_icmp .ne 7, 3) := by decide +kernel
theorem dL_areScans_255 : decode cL_areScans 255 = .ok (.iconst 1, 1) := by decide +kernel
theorem dL_areScans_256 : decode cL_areScans 256 = .ok (.goto 4, 3) := by decide +kernel
theorem dL_areScans_259 : decode cL_areScans 259 = .ok (.iconst 0, 1) := by decide +kernel
theorem dL_areScans_260 : decode cL_areScans 260 = .ok (.iand, 1) := by decide +kernel
theorem dL_areScans_261 : decode cL_areScans 261 = .ok (.istore_n 3, 1) := by decide +kernel
theorem dL_areScans_262 : decode cL_areScans 262 = .ok (.iinc 4 1, 3) := by decide +kernel
theorem dL_areScans_265 : decode cL_areScans 265 = .ok (.goto (-68), 3) := by decide +kernel
theorem dL_areScans_268 : decode cL_areScans 268 = .ok (.iload_n 3, 1) := by decide +kernel
theorem dL_areScans_269 : decode cL_areScans 269 = .ok (.ifCond .eq 20, 3) := by decide +kernel
theorem dL_areScans_272 : decode cL_areScans 272 = .ok (.aload_n 0, 1) := by decide +kernel
theorem dL_areScans_273 : decode cL_areScans 273 = .ok (.aload_n 0, 1) := by decide +kernel
theorem dL_areScans_274 : decode cL_areScans 274 = .ok (.invokevirtual 199, 3) := by decide +kernel
theorem dL_areScans_277 : decode cL_areScans 277 = .ok (.invokestatic 225, 3) := by decide +kernel
theorem dL_areScans_280 : decode cL_areScans 280 = .ok (.bipush (-77), 2) := by decide +kernel
theorem dL_areScans_282 : decode cL_areScans 282 = .ok (.if_icmp .ne 7, 3) := by decide +kernel
theorem dL_areScans_285 : decode cL_areScans 285 = .ok (.iconst 1, 1) := by decide +kernel
theorem dL_areScans_286 : decode cL_areScans 286 = .ok (.goto 4, 3) := by decide +kernel
theorem dL_areScans_289 : decode cL_areScans 289 = .ok (.iconst 0, 1) := by decide +kernel
theorem dL_areScans_290 : decode cL_areScans 290 = .ok (.ireturn, 1) := by decide +kernel
set_option maxHeartbeats 4000000 in
set_option maxRecDepth 100000 in
theorem c_L_areScans (l : Launch) (hl0 : l.stackTraces = false) (g : kG) (e0 : Nat) (z av lv : Nat → Nat) (S O : wPS) (sz : Nat) (q : qS) (hI : Inv z e0 S) (hR : Rq z av lv S q) (hW : q_W q) (hL : q_L q) (hU : q_U q ≤ 5000) (on : Int32) (hon : on.toInt = ((q 73 0 : Nat) : Int)) : kMv l g e0 yL_areScans cL_areScans 9 (some .boolean) 9 146 1022 6138 [.ref (z 0), .int on] S O sz (fun v => v = .int 1) := by
  refine kMv.of (by decide) (Nat.le_of_ble_eq_true rfl) ?_
  intro p e s m below meth c ls B
  obtain ⟨F, hr, hlk, hP, hO, hK, hD, hDO, hdis, hE, hNc, hS, hA, hl, hsz⟩ := B
  subst hsz
  have hx := F.1
  have hb := F.2.1
  have hl : lv_has ls 9 [(0, .ref (z 0)), (1, .int on)] := hl
  have h721 : q 72 0 = 3 := hL.1
  have h72 : q 72 0 ≤ 12 := by omega
  have h73 : q 73 0 ≤ 12 := hW.1.1.2.1
  have hro : q 42 0 ≤ 504 := q_room hW.1.1 hW.1.2.2.2.1 hW.1.2.2.2.2.1
  have hroom : q 42 0 < 516 := by omega
  have h57 : q 57 0 ≤ 20 := hW.1.2.2.2.2.1.1
  have h56 : q 56 0 ≤ 1439 := hL.2.2.2.2.2.1
  have h25 : ∀ i, i < q 73 0 → q 25 i < 2 ^ 31 := fun i hi => by have := (hW.1.2.2.1 i hi).2.2.2; omega
  refine lv_bipush (v := 12) hx hb dL_areScans_0 (by decide) ?_
  refine rn3_R_C (w0 := kW g S) (N := 12) F hK (va_P.app hP hO) (kD_app hD hDO hdis) hS hA kw_57 (by decide) (by decide) (Nat.le_of_ble_eq_true rfl) (by show 0 + 1 ≤ 1022; omega) (by show 0 + 12 ≤ 6138; omega) dL_areScans_2 (fun p1 H hp1 hPa hDa hS => ?_)
  have hP := va_P_l hPa
  have hO := va_P_r hPa
  have hDO := va_D_r hDa
  have hdis := kd_of2 hDa
  have hdis9 := hdis
  rw [kx_new (O := O) (p := p1) (kd := 8) (n := 12)] at hO hDO
  refine lv_astore_n (lv' := [(2, .ref p1), (0, .ref (z 0)), (1, .int on)]) hx hb dL_areScans_4 rfl hl (by decide) rfl (fun ls hl => ?_)
  refine lv_iconst (v := 1) hx hb dL_areScans_5 (by decide) ?_
  refine lv_istore_n (lv' := [(3, .int 1), (2, .ref p1), (0, .ref (z 0)), (1, .int on)]) hx hb dL_areScans_6 rfl hl (by decide) rfl (fun ls hl => ?_)
  refine lv_iconst (v := 0) hx hb dL_areScans_7 (by decide) ?_
  refine lv_istore (lv' := [(4, .int 0), (3, .int 1), (2, .ref p1), (0, .ref (z 0)), (1, .int on)]) hx hb dL_areScans_8 hl (by decide) rfl (fun ls hl => ?_)
  have loop : ∀ (fu i : Nat) (xi : Int32) (f : Nat → Int32) (kc ns : Nat) (H : Heap) (locs : List Loc) (ls : Array Slot), va_P (kD g) vwCl (kW g S) H → va_P (kD g) vwCl (kW g (setX (newA O p1 8 12) p1 f)) H → va_D (kA2 S O s.heap.size) (kW g (setX (newA O p1 8 12) p1 f)) → va_S (kA2 S O s.heap.size) s.heap H locs → lv_has ls 9 [(4, .int xi), (3, .int 1), (2, .ref p1), (0, .ref (z 0)), (1, .int on)] → q 42 0 - i < fu → xi.toInt = ((i : Nat) : Int) → i ≤ q 42 0 → kc ≤ 1 + 2 * i → ns ≤ 12 + 12 * i → (∀ n, n < q 73 0 → f n = nI (q_last q n i)) → W p l e ({ frames := 9, cells := 1022, slots := 6138, locals := 146 }) s m ([.ref (z 0), .int on] : List Value).toArray below meth c H locs kc ns (vx_MQ below (kQv g S O s.heap.size (fun v => v = .int 1)) kXw ([.ref (z 0), .int on] : List Value).toArray s 1022 6138 (kA2 S O s.heap.size)) (F0 m 10 ls []) := by
    intro fu
    induction fu with
    | zero => intro i xi f kc ns H locs ls _ _ _ _ _ hfu; exact absurd hfu (Nat.not_lt_zero _)
    | succ fu ih =>
      intro i xi f kc ns H locs ls hP hO hDO hS hl hfu hi hin hkc hns hf
      have hdis : kdis S (setX (newA O p1 8 12) p1 f) := hdis9
      have onew := kp_new (O := O) (p := p1) (kd := 8) (n := 12) (f := f)
      refine lv_iload hx hb dL_areScans_10 (lv_at hl 0 rfl) ?_
      refine lv_aload_n hx hb dL_areScans_12 rfl (lv_at hl 3 rfl) ?_
      refine kcallWI (kV (n := 0) (As := []) (rest := [.int xi]) (b := z 0) (C := RX5) F hE hK hP hD hS hA (c_X5_scans l hl0 g e0 z S _ hI) (rr_Pickwave hK hP hI.ob0) kw_168 kw_169 kw_170 kw_2 kw_171 (by decide +kernel) ⟨Nat.le_of_ble_eq_true rfl, Nat.le_of_ble_eq_true rfl⟩ rfl hl.1 rfl (Nat.le_of_ble_eq_true rfl) dL_areScans_13 ⟨(by show kc + 0 ≤ 1022; omega), (by show ns + 0 ≤ 6138; omega)⟩) rfl hD hS hA (fun _ _ _ _ _ h => False.elim h) (fun r2 T1 H locs hp hP hq1x hq2x hq3x hf1 hS => ?_)
      clear hq1x hq2x hq3x
      have hO := kO_keep hO hdis hf1
      obtain ⟨hT, er2⟩ := hp
      have hT := hT.symm
      subst hT
      have vr2 : r2 = nI (q 42 0) := er2.trans hR.2.2.2.2.2.2.2.1.1
      have nr2 : r2.toInt = ((q 42 0 : Nat) : Int) := kt_nI vr2 (by omega)
      refine lv_icmp_ge (tgt := 194) hx hb dL_areScans_16 (by decide) (fun c3 => ?_) (fun c3 => ?_)
      · have d3 : r2.toInt ≤ xi.toInt := (kc_le (rfl : r2.toInt = r2.toInt) (rfl : xi.toInt = xi.toInt)).mp c3
        have hiM : i = q 42 0 := by omega
        rw [hiM] at hf hkc hns
        have hf2 := hf
        refine lv_iconst (v := 0) hx hb dL_areScans_194 (by decide) ?_
        refine lv_istore (lv' := [(4, .int 0), (3, .int 1), (2, .ref p1), (0, .ref (z 0)), (1, .int on)]) hx hb dL_areScans_195 hl (by decide) rfl (fun ls hl => ?_)
        have loop2 : ∀ (fu i : Nat) (xi : Int32) (kc ns : Nat) (H : Heap) (locs : List Loc) (ls : Array Slot), va_P (kD g) vwCl (kW g S) H → va_P (kD g) vwCl (kW g (setX (newA O p1 8 12) p1 f)) H → va_D (kA2 S O s.heap.size) (kW g (setX (newA O p1 8 12) p1 f)) → va_S (kA2 S O s.heap.size) s.heap H locs → lv_has ls 9 [(4, .int xi), (3, .int 1), (2, .ref p1), (0, .ref (z 0)), (1, .int on)] → q 73 0 - i < fu → xi.toInt = ((i : Nat) : Int) → i ≤ q 73 0 → kc ≤ 1009 + 1 * i → ns ≤ 6060 + 6 * i → W p l e ({ frames := 9, cells := 1022, slots := 6138, locals := 146 }) s m ([.ref (z 0), .int on] : List Value).toArray below meth c H locs kc ns (vx_MQ below (kQv g S O s.heap.size (fun v => v = .int 1)) kXw ([.ref (z 0), .int on] : List Value).toArray s 1022 6138 (kA2 S O s.heap.size)) (F0 m 197 ls []) := by
          intro fu
          induction fu with
          | zero => intro i xi  kc ns H locs ls _ _ _ _ _ hfu; exact absurd hfu (Nat.not_lt_zero _)
          | succ fu ih =>
            intro i xi  kc ns H locs ls hP hO hDO hS hl hfu hi hin hkc hns 
            have hdis : kdis S (setX (newA O p1 8 12) p1 f) := hdis9
            have onew := kp_new (O := O) (p := p1) (kd := 8) (n := 12) (f := f)
            refine lv_iload hx hb dL_areScans_197 (lv_at hl 0 rfl) ?_
            refine lv_iload_n hx hb dL_areScans_199 rfl (lv_at hl 4 rfl) ?_
            refine lv_icmp_ge (tgt := 268) hx hb dL_areScans_200 (by decide) (fun c4 => ?_) (fun c4 => ?_)
            · have d4 : on.toInt ≤ xi.toInt := (kc_le (rfl : on.toInt = on.toInt) (rfl : xi.toInt = xi.toInt)).mp c4
              refine lv_iload_n hx hb dL_areScans_268 rfl (lv_at hl 1 rfl) ?_
              refine lv_if_eq (tgt := 289) hx hb dL_areScans_269 (by decide) (fun c5 => ?_) (fun c5 => ?_)
              · exact absurd c5 (by decide)
              · refine lv_aload_n hx hb dL_areScans_272 rfl (lv_at hl 3 rfl) ?_
                refine lv_aload_n hx hb dL_areScans_273 rfl (lv_at hl 3 rfl) ?_
                refine kcallWI (kV (n := 0) (As := []) (rest := [.ref (z 0)]) (b := z 0) (C := RX5) F hE hK hP hD hS hA (c_X5_scans l hl0 g e0 z S _ hI) (rr_Pickwave hK hP hI.ob0) kw_168 kw_169 kw_170 kw_2 kw_171 (by decide +kernel) ⟨Nat.le_of_ble_eq_true rfl, Nat.le_of_ble_eq_true rfl⟩ rfl hl.1 rfl (Nat.le_of_ble_eq_true rfl) dL_areScans_274 ⟨(by show kc + 0 ≤ 1022; omega), (by show ns + 0 ≤ 6138; omega)⟩) rfl hD hS hA (fun _ _ _ _ _ h => False.elim h) (fun r6 T1 H locs hp hP hq1x hq2x hq3x hf1 hS => ?_)
                clear hq1x hq2x hq3x
                have hO := kO_keep hO hdis hf1
                obtain ⟨hT, er6⟩ := hp
                have hT := hT.symm
                subst hT
                have vr6 : r6 = nI (q 42 0) := er6.trans hR.2.2.2.2.2.2.2.1.1
                have nr6 : r6.toInt = ((q 42 0 : Nat) : Int) := kt_nI vr6 (by omega)
                refine kcallhI (kSthW (n := 2) (As := [.ref (z 0), .int r6]) (rest := []) F hE hNc hK hP hD hS hA (kh_scanOrder l g e0 S _ (z 0) r6 _ _ hI.ob0 (c_X5_scanOrder_x l hl0 g e0 z S _ hI av lv q hR hroom r6) (fun E h => h.1)) kw_525 kw_526 kw_61 kw_527 (by decide +kernel) ⟨Nat.le_of_ble_eq_true rfl, Nat.le_of_ble_eq_true rfl⟩ rfl hl.1 rfl (Nat.le_of_ble_eq_true rfl) dL_areScans_277 ⟨(by show kc + 0 + 1 ≤ 1022; omega), (by show ns + 0 + 6 ≤ 6138; omega)⟩) rfl hD hS hA (fun r7 T1 H locs hp hP hq1x hq2x hq3x hf1 hS => ?_)
                clear hq1x hq2x hq3x
                have hO := kO_keep hO hdis hf1
                obtain ⟨hT, nr7⟩ := kp_Ao (i := q 42 0) hp nr6 (by omega) (by omega)
                subst hT
                clear hp
                refine lv_bipush (v := (-77)) hx hb dL_areScans_280 (by decide) ?_
                refine lv_icmp_ne (tgt := 289) hx hb dL_areScans_282 (by decide) (fun c8 => ?_) (fun c8 => ?_)
                · have d8 : r7.toInt ≠ (-77) := mt (kc_eq (rfl : r7.toInt = r7.toInt) (by decide : (-77 : Int32).toInt = -77)).mpr c8
                  exfalso; omega
                · have d8 : r7.toInt = (-77) := (kc_eq (rfl : r7.toInt = r7.toInt) (by decide : (-77 : Int32).toInt = -77)).mp c8
                  refine lv_iconst (v := 1) hx hb dL_areScans_285 (by decide) ?_
                  refine lv_goto (tgt := 290) hx hb dL_areScans_286 (by decide) ?_
                  exact kEndv F hr rfl hlk hP (kO_drop hp1 hO) hS (by omega) (by omega) dL_areScans_290 rfl
            · have d4 : ¬ (on.toInt ≤ xi.toInt) := mt (kc_le (rfl : on.toInt = on.toInt) (rfl : xi.toInt = xi.toInt)).mpr c4
              have him : i < q 73 0 := by omega
              have h24 : q 24 i < 2 ^ 31 := by have h9 := q_lst6 hW him; omega
              refine lv_aload_n hx hb dL_areScans_203 rfl (lv_at hl 3 rfl) ?_
              refine lv_iload hx hb dL_areScans_204 (lv_at hl 0 rfl) ?_
              refine kcallhI (kSthW (n := 2) (As := [.ref (z 0), .int xi]) (rest := []) F hE hNc hK hP hD hS hA (kh_state l g e0 S _ (z 0) xi _ _ hI.ob0 (c_X5_state_x l hl0 g e0 z S _ hI av lv q hR h73 xi) (fun E h => h.1)) kw_260 kw_261 kw_61 kw_262 (by decide +kernel) ⟨Nat.le_of_ble_eq_true rfl, Nat.le_of_ble_eq_true rfl⟩ rfl hl.1 rfl (Nat.le_of_ble_eq_true rfl) dL_areScans_206 ⟨(by show kc + 1 ≤ 1022; omega), (by show ns + 6 ≤ 6138; omega)⟩) rfl hD hS hA (fun r9 T1 H locs hp hP hq1x hq2x hq3x hf1 hS => ?_)
              clear hq1x hq2x hq3x
              have hO := kO_keep hO hdis hf1
              obtain ⟨hT, nr9⟩ := kp_Ac (i := i) hp hi (by omega) (by omega) (by omega)
              subst hT
              clear hp
              rcases (q_lst6 hW him) with ⟨s1, o1⟩ | ⟨s1, o1⟩ | ⟨s1, o1⟩ | ⟨s1, o1⟩ | ⟨s1, o1⟩ | ⟨s1, o1⟩
              · obtain rfl : r9 = 111 := kt_lit (A := 111) (by omega) (by decide)
                refine lv_i2c (v := 111) hx hb dL_areScans_209 (by decide) ?_
                refine lv_istore (lv' := [(5, .int 111), (4, .int xi), (3, .int 1), (2, .ref p1), (0, .ref (z 0)), (1, .int on)]) hx hb dL_areScans_210 hl (by decide) rfl (fun ls hl => ?_)
                refine lv_iload_n hx hb dL_areScans_212 rfl (lv_at hl 2 rfl) ?_
                refine lv_iload hx hb dL_areScans_213 (lv_at hl 0 rfl) ?_
                refine lv_bipush (v := 111) hx hb dL_areScans_215 (by decide) ?_
                refine lv_icmp_ne (tgt := 246) hx hb dL_areScans_217 (by decide) (fun c11 => ?_) (fun c11 => ?_)
                · exact absurd c11 (by decide)
                · refine lv_aload_n hx hb dL_areScans_220 rfl (lv_at hl 3 rfl) ?_
                  refine lv_iload hx hb dL_areScans_221 (lv_at hl 1 rfl) ?_
                  refine rd_C F hK hO onew.1 (by rw [onew.2]; exact kt_in hi (by omega) (by decide)) dL_areScans_223 ?_
                  refine lv_topi (fun x12 ex12 => ?_)
                  have nx12 : x12.toInt = ((q_last q i (q 42 0) : Nat) : Int) := kt_nI (by rw [ex12, kt_clamp hi (by omega)]; exact (show pX (setX (newA O p1 8 12) p1 f) p1 i = nI (q_last q i (q 42 0)) by rw [kxs_at]; exact hf2 i (by omega))) (by omega)
                  obtain rfl : x12 = 110 := kt_lit (A := 110) (by omega) (by decide)
                  refine lv_bipush (v := 110) hx hb dL_areScans_224 (by decide) ?_
                  refine lv_icmp_eq (tgt := 238) hx hb dL_areScans_226 (by decide) (fun c13 => ?_) (fun c13 => ?_)
                  · refine lv_iconst (v := 1) hx hb dL_areScans_238 (by decide) ?_
                    refine lv_goto (tgt := 260) hx hb dL_areScans_239 (by decide) ?_
                    refine lv_iand hx hb dL_areScans_260 ?_
                    refine lv_topi (fun x14 e14 => ?_)
                    obtain rfl : x14 = 1 := e14.trans (by decide)
                    refine lv_istore_n (lv' := [(3, .int 1), (5, .int 111), (4, .int xi), (2, .ref p1), (0, .ref (z 0)), (1, .int on)]) hx hb dL_areScans_261 rfl hl (by decide) rfl (fun ls hl => ?_)
                    obtain ⟨x15, ex15⟩ : ∃ y : Int32, y = xi + 1 := ⟨_, rfl⟩
                    refine lv_iinc (v := x15) (lv' := [(4, .int x15), (3, .int 1), (5, .int 111), (2, .ref p1), (0, .ref (z 0)), (1, .int on)]) hx hb dL_areScans_262 hl (k := 2) rfl (by rw [ex15]; rfl) (by decide) rfl (fun ls hl => ?_)
                    have tx15 : x15.toInt = xi.toInt + 1 := kt_add ex15 (rfl : xi.toInt = xi.toInt) (by decide) (by omega) (by omega)
                    refine lv_goto (tgt := 197) hx hb dL_areScans_265 (by decide) ?_
                    exact ih (i + 1) x15 _ _ H locs ls hP hO hDO hS (lv_sub hl [0, 1, 3, 4, 5] rfl) (by omega) (by omega) (by omega) (by omega) (by omega)
                  · exact absurd (by decide) c13
              · obtain rfl : r9 = 111 := kt_lit (A := 111) (by omega) (by decide)
                refine lv_i2c (v := 111) hx hb dL_areScans_209 (by decide) ?_
                refine lv_istore (lv' := [(5, .int 111), (4, .int xi), (3, .int 1), (2, .ref p1), (0, .ref (z 0)), (1, .int on)]) hx hb dL_areScans_210 hl (by decide) rfl (fun ls hl => ?_)
                refine lv_iload_n hx hb dL_areScans_212 rfl (lv_at hl 2 rfl) ?_
                refine lv_iload hx hb dL_areScans_213 (lv_at hl 0 rfl) ?_
                refine lv_bipush (v := 111) hx hb dL_areScans_215 (by decide) ?_
                refine lv_icmp_ne (tgt := 246) hx hb dL_areScans_217 (by decide) (fun c17 => ?_) (fun c17 => ?_)
                · exact absurd c17 (by decide)
                · refine lv_aload_n hx hb dL_areScans_220 rfl (lv_at hl 3 rfl) ?_
                  refine lv_iload hx hb dL_areScans_221 (lv_at hl 1 rfl) ?_
                  refine rd_C F hK hO onew.1 (by rw [onew.2]; exact kt_in hi (by omega) (by decide)) dL_areScans_223 ?_
                  refine lv_topi (fun x18 ex18 => ?_)
                  have nx18 : x18.toInt = ((q_last q i (q 42 0) : Nat) : Int) := kt_nI (by rw [ex18, kt_clamp hi (by omega)]; exact (show pX (setX (newA O p1 8 12) p1 f) p1 i = nI (q_last q i (q 42 0)) by rw [kxs_at]; exact hf2 i (by omega))) (by omega)
                  obtain rfl : x18 = 117 := kt_lit (A := 117) (by omega) (by decide)
                  refine lv_bipush (v := 110) hx hb dL_areScans_224 (by decide) ?_
                  refine lv_icmp_eq (tgt := 238) hx hb dL_areScans_226 (by decide) (fun c19 => ?_) (fun c19 => ?_)
                  · exact absurd c19 (by decide)
                  · refine lv_aload_n hx hb dL_areScans_229 rfl (lv_at hl 3 rfl) ?_
                    refine lv_iload hx hb dL_areScans_230 (lv_at hl 1 rfl) ?_
                    refine rd_C F hK hO onew.1 (by rw [onew.2]; exact kt_in hi (by omega) (by decide)) dL_areScans_232 ?_
                    refine lv_topi (fun x20 ex20 => ?_)
                    have nx20 : x20.toInt = ((q_last q i (q 42 0) : Nat) : Int) := kt_nI (by rw [ex20, kt_clamp hi (by omega)]; exact (show pX (setX (newA O p1 8 12) p1 f) p1 i = nI (q_last q i (q 42 0)) by rw [kxs_at]; exact hf2 i (by omega))) (by omega)
                    obtain rfl : x20 = 117 := kt_lit (A := 117) (by omega) (by decide)
                    refine lv_bipush (v := 117) hx hb dL_areScans_233 (by decide) ?_
                    refine lv_icmp_ne (tgt := 242) hx hb dL_areScans_235 (by decide) (fun c21 => ?_) (fun c21 => ?_)
                    · exact absurd c21 (by decide)
                    · refine lv_iconst (v := 1) hx hb dL_areScans_238 (by decide) ?_
                      refine lv_goto (tgt := 260) hx hb dL_areScans_239 (by decide) ?_
                      refine lv_iand hx hb dL_areScans_260 ?_
                      refine lv_topi (fun x22 e22 => ?_)
                      obtain rfl : x22 = 1 := e22.trans (by decide)
                      refine lv_istore_n (lv' := [(3, .int 1), (5, .int 111), (4, .int xi), (2, .ref p1), (0, .ref (z 0)), (1, .int on)]) hx hb dL_areScans_261 rfl hl (by decide) rfl (fun ls hl => ?_)
                      obtain ⟨x23, ex23⟩ : ∃ y : Int32, y = xi + 1 := ⟨_, rfl⟩
                      refine lv_iinc (v := x23) (lv' := [(4, .int x23), (3, .int 1), (5, .int 111), (2, .ref p1), (0, .ref (z 0)), (1, .int on)]) hx hb dL_areScans_262 hl (k := 2) rfl (by rw [ex23]; rfl) (by decide) rfl (fun ls hl => ?_)
                      have tx23 : x23.toInt = xi.toInt + 1 := kt_add ex23 (rfl : xi.toInt = xi.toInt) (by decide) (by omega) (by omega)
                      refine lv_goto (tgt := 197) hx hb dL_areScans_265 (by decide) ?_
                      exact ih (i + 1) x23 _ _ H locs ls hP hO hDO hS (lv_sub hl [0, 1, 3, 4, 5] rfl) (by omega) (by omega) (by omega) (by omega) (by omega)
              · obtain rfl : r9 = 112 := kt_lit (A := 112) (by omega) (by decide)
                refine lv_i2c (v := 112) hx hb dL_areScans_209 (by decide) ?_
                refine lv_istore (lv' := [(5, .int 112), (4, .int xi), (3, .int 1), (2, .ref p1), (0, .ref (z 0)), (1, .int on)]) hx hb dL_areScans_210 hl (by decide) rfl (fun ls hl => ?_)
                refine lv_iload_n hx hb dL_areScans_212 rfl (lv_at hl 2 rfl) ?_
                refine lv_iload hx hb dL_areScans_213 (lv_at hl 0 rfl) ?_
                refine lv_bipush (v := 111) hx hb dL_areScans_215 (by decide) ?_
                refine lv_icmp_ne (tgt := 246) hx hb dL_areScans_217 (by decide) (fun c25 => ?_) (fun c25 => ?_)
                · refine lv_iload hx hb dL_areScans_246 (lv_at hl 0 rfl) ?_
                  refine lv_aload_n hx hb dL_areScans_248 rfl (lv_at hl 3 rfl) ?_
                  refine lv_iload hx hb dL_areScans_249 (lv_at hl 1 rfl) ?_
                  refine rd_C F hK hO onew.1 (by rw [onew.2]; exact kt_in hi (by omega) (by decide)) dL_areScans_251 ?_
                  refine lv_topi (fun x26 ex26 => ?_)
                  have nx26 : x26.toInt = ((q_last q i (q 42 0) : Nat) : Int) := kt_nI (by rw [ex26, kt_clamp hi (by omega)]; exact (show pX (setX (newA O p1 8 12) p1 f) p1 i = nI (q_last q i (q 42 0)) by rw [kxs_at]; exact hf2 i (by omega))) (by omega)
                  obtain rfl : x26 = 112 := kt_lit (A := 112) (by omega) (by decide)
                  refine lv_icmp_ne (tgt := 259) hx hb dL_areScans_252 (by decide) (fun c27 => ?_) (fun c27 => ?_)
                  · exact absurd c27 (by decide)
                  · refine lv_iconst (v := 1) hx hb dL_areScans_255 (by decide) ?_
                    refine lv_goto (tgt := 260) hx hb dL_areScans_256 (by decide) ?_
                    refine lv_iand hx hb dL_areScans_260 ?_
                    refine lv_topi (fun x28 e28 => ?_)
                    obtain rfl : x28 = 1 := e28.trans (by decide)
                    refine lv_istore_n (lv' := [(3, .int 1), (5, .int 112), (4, .int xi), (2, .ref p1), (0, .ref (z 0)), (1, .int on)]) hx hb dL_areScans_261 rfl hl (by decide) rfl (fun ls hl => ?_)
                    obtain ⟨x29, ex29⟩ : ∃ y : Int32, y = xi + 1 := ⟨_, rfl⟩
                    refine lv_iinc (v := x29) (lv' := [(4, .int x29), (3, .int 1), (5, .int 112), (2, .ref p1), (0, .ref (z 0)), (1, .int on)]) hx hb dL_areScans_262 hl (k := 2) rfl (by rw [ex29]; rfl) (by decide) rfl (fun ls hl => ?_)
                    have tx29 : x29.toInt = xi.toInt + 1 := kt_add ex29 (rfl : xi.toInt = xi.toInt) (by decide) (by omega) (by omega)
                    refine lv_goto (tgt := 197) hx hb dL_areScans_265 (by decide) ?_
                    exact ih (i + 1) x29 _ _ H locs ls hP hO hDO hS (lv_sub hl [0, 1, 3, 4, 5] rfl) (by omega) (by omega) (by omega) (by omega) (by omega)
                · exact absurd c25 (by decide)
              · obtain rfl : r9 = 107 := kt_lit (A := 107) (by omega) (by decide)
                refine lv_i2c (v := 107) hx hb dL_areScans_209 (by decide) ?_
                refine lv_istore (lv' := [(5, .int 107), (4, .int xi), (3, .int 1), (2, .ref p1), (0, .ref (z 0)), (1, .int on)]) hx hb dL_areScans_210 hl (by decide) rfl (fun ls hl => ?_)
                refine lv_iload_n hx hb dL_areScans_212 rfl (lv_at hl 2 rfl) ?_
                refine lv_iload hx hb dL_areScans_213 (lv_at hl 0 rfl) ?_
                refine lv_bipush (v := 111) hx hb dL_areScans_215 (by decide) ?_
                refine lv_icmp_ne (tgt := 246) hx hb dL_areScans_217 (by decide) (fun c31 => ?_) (fun c31 => ?_)
                · refine lv_iload hx hb dL_areScans_246 (lv_at hl 0 rfl) ?_
                  refine lv_aload_n hx hb dL_areScans_248 rfl (lv_at hl 3 rfl) ?_
                  refine lv_iload hx hb dL_areScans_249 (lv_at hl 1 rfl) ?_
                  refine rd_C F hK hO onew.1 (by rw [onew.2]; exact kt_in hi (by omega) (by decide)) dL_areScans_251 ?_
                  refine lv_topi (fun x32 ex32 => ?_)
                  have nx32 : x32.toInt = ((q_last q i (q 42 0) : Nat) : Int) := kt_nI (by rw [ex32, kt_clamp hi (by omega)]; exact (show pX (setX (newA O p1 8 12) p1 f) p1 i = nI (q_last q i (q 42 0)) by rw [kxs_at]; exact hf2 i (by omega))) (by omega)
                  obtain rfl : x32 = 107 := kt_lit (A := 107) (by omega) (by decide)
                  refine lv_icmp_ne (tgt := 259) hx hb dL_areScans_252 (by decide) (fun c33 => ?_) (fun c33 => ?_)
                  · exact absurd c33 (by decide)
                  · refine lv_iconst (v := 1) hx hb dL_areScans_255 (by decide) ?_
                    refine lv_goto (tgt := 260) hx hb dL_areScans_256 (by decide) ?_
                    refine lv_iand hx hb dL_areScans_260 ?_
                    refine lv_topi (fun x34 e34 => ?_)
                    obtain rfl : x34 = 1 := e34.trans (by decide)
                    refine lv_istore_n (lv' := [(3, .int 1), (5, .int 107), (4, .int xi), (2, .ref p1), (0, .ref (z 0)), (1, .int on)]) hx hb dL_areScans_261 rfl hl (by decide) rfl (fun ls hl => ?_)
                    obtain ⟨x35, ex35⟩ : ∃ y : Int32, y = xi + 1 := ⟨_, rfl⟩
                    refine lv_iinc (v := x35) (lv' := [(4, .int x35), (3, .int 1), (5, .int 107), (2, .ref p1), (0, .ref (z 0)), (1, .int on)]) hx hb dL_areScans_262 hl (k := 2) rfl (by rw [ex35]; rfl) (by decide) rfl (fun ls hl => ?_)
                    have tx35 : x35.toInt = xi.toInt + 1 := kt_add ex35 (rfl : xi.toInt = xi.toInt) (by decide) (by omega) (by omega)
                    refine lv_goto (tgt := 197) hx hb dL_areScans_265 (by decide) ?_
                    exact ih (i + 1) x35 _ _ H locs ls hP hO hDO hS (lv_sub hl [0, 1, 3, 4, 5] rfl) (by omega) (by omega) (by omega) (by omega) (by omega)
                · exact absurd c31 (by decide)
              · obtain rfl : r9 = 115 := kt_lit (A := 115) (by omega) (by decide)
                refine lv_i2c (v := 115) hx hb dL_areScans_209 (by decide) ?_
                refine lv_istore (lv' := [(5, .int 115), (4, .int xi), (3, .int 1), (2, .ref p1), (0, .ref (z 0)), (1, .int on)]) hx hb dL_areScans_210 hl (by decide) rfl (fun ls hl => ?_)
                refine lv_iload_n hx hb dL_areScans_212 rfl (lv_at hl 2 rfl) ?_
                refine lv_iload hx hb dL_areScans_213 (lv_at hl 0 rfl) ?_
                refine lv_bipush (v := 111) hx hb dL_areScans_215 (by decide) ?_
                refine lv_icmp_ne (tgt := 246) hx hb dL_areScans_217 (by decide) (fun c37 => ?_) (fun c37 => ?_)
                · refine lv_iload hx hb dL_areScans_246 (lv_at hl 0 rfl) ?_
                  refine lv_aload_n hx hb dL_areScans_248 rfl (lv_at hl 3 rfl) ?_
                  refine lv_iload hx hb dL_areScans_249 (lv_at hl 1 rfl) ?_
                  refine rd_C F hK hO onew.1 (by rw [onew.2]; exact kt_in hi (by omega) (by decide)) dL_areScans_251 ?_
                  refine lv_topi (fun x38 ex38 => ?_)
                  have nx38 : x38.toInt = ((q_last q i (q 42 0) : Nat) : Int) := kt_nI (by rw [ex38, kt_clamp hi (by omega)]; exact (show pX (setX (newA O p1 8 12) p1 f) p1 i = nI (q_last q i (q 42 0)) by rw [kxs_at]; exact hf2 i (by omega))) (by omega)
                  obtain rfl : x38 = 115 := kt_lit (A := 115) (by omega) (by decide)
                  refine lv_icmp_ne (tgt := 259) hx hb dL_areScans_252 (by decide) (fun c39 => ?_) (fun c39 => ?_)
                  · exact absurd c39 (by decide)
                  · refine lv_iconst (v := 1) hx hb dL_areScans_255 (by decide) ?_
                    refine lv_goto (tgt := 260) hx hb dL_areScans_256 (by decide) ?_
                    refine lv_iand hx hb dL_areScans_260 ?_
                    refine lv_topi (fun x40 e40 => ?_)
                    obtain rfl : x40 = 1 := e40.trans (by decide)
                    refine lv_istore_n (lv' := [(3, .int 1), (5, .int 115), (4, .int xi), (2, .ref p1), (0, .ref (z 0)), (1, .int on)]) hx hb dL_areScans_261 rfl hl (by decide) rfl (fun ls hl => ?_)
                    obtain ⟨x41, ex41⟩ : ∃ y : Int32, y = xi + 1 := ⟨_, rfl⟩
                    refine lv_iinc (v := x41) (lv' := [(4, .int x41), (3, .int 1), (5, .int 115), (2, .ref p1), (0, .ref (z 0)), (1, .int on)]) hx hb dL_areScans_262 hl (k := 2) rfl (by rw [ex41]; rfl) (by decide) rfl (fun ls hl => ?_)
                    have tx41 : x41.toInt = xi.toInt + 1 := kt_add ex41 (rfl : xi.toInt = xi.toInt) (by decide) (by omega) (by omega)
                    refine lv_goto (tgt := 197) hx hb dL_areScans_265 (by decide) ?_
                    exact ih (i + 1) x41 _ _ H locs ls hP hO hDO hS (lv_sub hl [0, 1, 3, 4, 5] rfl) (by omega) (by omega) (by omega) (by omega) (by omega)
                · exact absurd c37 (by decide)
              · obtain rfl : r9 = 100 := kt_lit (A := 100) (by omega) (by decide)
                refine lv_i2c (v := 100) hx hb dL_areScans_209 (by decide) ?_
                refine lv_istore (lv' := [(5, .int 100), (4, .int xi), (3, .int 1), (2, .ref p1), (0, .ref (z 0)), (1, .int on)]) hx hb dL_areScans_210 hl (by decide) rfl (fun ls hl => ?_)
                refine lv_iload_n hx hb dL_areScans_212 rfl (lv_at hl 2 rfl) ?_
                refine lv_iload hx hb dL_areScans_213 (lv_at hl 0 rfl) ?_
                refine lv_bipush (v := 111) hx hb dL_areScans_215 (by decide) ?_
                refine lv_icmp_ne (tgt := 246) hx hb dL_areScans_217 (by decide) (fun c43 => ?_) (fun c43 => ?_)
                · refine lv_iload hx hb dL_areScans_246 (lv_at hl 0 rfl) ?_
                  refine lv_aload_n hx hb dL_areScans_248 rfl (lv_at hl 3 rfl) ?_
                  refine lv_iload hx hb dL_areScans_249 (lv_at hl 1 rfl) ?_
                  refine rd_C F hK hO onew.1 (by rw [onew.2]; exact kt_in hi (by omega) (by decide)) dL_areScans_251 ?_
                  refine lv_topi (fun x44 ex44 => ?_)
                  have nx44 : x44.toInt = ((q_last q i (q 42 0) : Nat) : Int) := kt_nI (by rw [ex44, kt_clamp hi (by omega)]; exact (show pX (setX (newA O p1 8 12) p1 f) p1 i = nI (q_last q i (q 42 0)) by rw [kxs_at]; exact hf2 i (by omega))) (by omega)
                  obtain rfl : x44 = 100 := kt_lit (A := 100) (by omega) (by decide)
                  refine lv_icmp_ne (tgt := 259) hx hb dL_areScans_252 (by decide) (fun c45 => ?_) (fun c45 => ?_)
                  · exact absurd c45 (by decide)
                  · refine lv_iconst (v := 1) hx hb dL_areScans_255 (by decide) ?_
                    refine lv_goto (tgt := 260) hx hb dL_areScans_256 (by decide) ?_
                    refine lv_iand hx hb dL_areScans_260 ?_
                    refine lv_topi (fun x46 e46 => ?_)
                    obtain rfl : x46 = 1 := e46.trans (by decide)
                    refine lv_istore_n (lv' := [(3, .int 1), (5, .int 100), (4, .int xi), (2, .ref p1), (0, .ref (z 0)), (1, .int on)]) hx hb dL_areScans_261 rfl hl (by decide) rfl (fun ls hl => ?_)
                    obtain ⟨x47, ex47⟩ : ∃ y : Int32, y = xi + 1 := ⟨_, rfl⟩
                    refine lv_iinc (v := x47) (lv' := [(4, .int x47), (3, .int 1), (5, .int 100), (2, .ref p1), (0, .ref (z 0)), (1, .int on)]) hx hb dL_areScans_262 hl (k := 2) rfl (by rw [ex47]; rfl) (by decide) rfl (fun ls hl => ?_)
                    have tx47 : x47.toInt = xi.toInt + 1 := kt_add ex47 (rfl : xi.toInt = xi.toInt) (by decide) (by omega) (by omega)
                    refine lv_goto (tgt := 197) hx hb dL_areScans_265 (by decide) ?_
                    exact ih (i + 1) x47 _ _ H locs ls hP hO hDO hS (lv_sub hl [0, 1, 3, 4, 5] rfl) (by omega) (by omega) (by omega) (by omega) (by omega)
                · exact absurd c43 (by decide)
        exact loop2 13 0 0 _ _ _ _ _ hP hO hDO hS (lv_sub hl [0, 1, 2, 3, 4] rfl) (by omega) (by decide) (Nat.zero_le _) (by omega) (by omega)
      · have d3 : ¬ (r2.toInt ≤ xi.toInt) := mt (kc_le (rfl : r2.toInt = r2.toInt) (rfl : xi.toInt = xi.toInt)).mpr c3
        have him : i < q 42 0 := by omega
        have h5a := (hW.1.2.2.2.1.1 i him).1
        have h44 : q 44 i < 2 ^ 31 := by have h9 := q_nx9 (hW.1.2.2.2.1.1 i him).2; omega
        refine lv_aload_n hx hb dL_areScans_19 rfl (lv_at hl 3 rfl) ?_
        refine lv_iload hx hb dL_areScans_20 (lv_at hl 0 rfl) ?_
        refine kcallhI (kSthW (n := 2) (As := [.ref (z 0), .int xi]) (rest := []) F hE hNc hK hP hD hS hA (kh_scanOrder l g e0 S _ (z 0) xi _ _ hI.ob0 (c_X5_scanOrder_x l hl0 g e0 z S _ hI av lv q hR hroom xi) (fun E h => h.1)) kw_525 kw_526 kw_61 kw_527 (by decide +kernel) ⟨Nat.le_of_ble_eq_true rfl, Nat.le_of_ble_eq_true rfl⟩ rfl hl.1 rfl (Nat.le_of_ble_eq_true rfl) dL_areScans_22 ⟨(by show kc + 0 + 1 ≤ 1022; omega), (by show ns + 0 + 6 ≤ 6138; omega)⟩) rfl hD hS hA (fun r48 T1 H locs hp hP hq1x hq2x hq3x hf1 hS => ?_)
        clear hq1x hq2x hq3x
        have hO := kO_keep hO hdis hf1
        obtain ⟨hT, nr48⟩ := kp_A (i := i) hp hi (by omega) (by omega) (by omega)
        subst hT
        clear hp
        refine lv_istore (lv' := [(5, .int r48), (4, .int xi), (3, .int 1), (2, .ref p1), (0, .ref (z 0)), (1, .int on)]) hx hb dL_areScans_25 hl (by decide) rfl (fun ls hl => ?_)
        refine lv_aload_n hx hb dL_areScans_27 rfl (lv_at hl 4 rfl) ?_
        refine lv_iload hx hb dL_areScans_28 (lv_at hl 1 rfl) ?_
        refine kcallhI (kSthW (n := 2) (As := [.ref (z 0), .int xi]) (rest := []) F hE hNc hK hP hD hS hA (kh_scanSign l g e0 S _ (z 0) xi _ _ hI.ob0 (c_X5_scanSign_x l hl0 g e0 z S _ hI av lv q hR hroom xi) (fun E h => h.1)) kw_537 kw_538 kw_61 kw_539 (by decide +kernel) ⟨Nat.le_of_ble_eq_true rfl, Nat.le_of_ble_eq_true rfl⟩ rfl hl.1 rfl (Nat.le_of_ble_eq_true rfl) dL_areScans_30 ⟨(by show kc + 0 + 1 + 1 ≤ 1022; omega), (by show ns + 0 + 6 + 6 ≤ 6138; omega)⟩) rfl hD hS hA (fun r49 T1 H locs hp hP hq1x hq2x hq3x hf1 hS => ?_)
        clear hq1x hq2x hq3x
        have hO := kO_keep hO hdis hf1
        obtain ⟨hT, nr49⟩ := kp_Ac (i := i) hp hi (by omega) (by omega) (by omega)
        subst hT
        clear hp
        rcases (q_nx9 (hW.1.2.2.2.1.1 i him).2) with ⟨s1, o1⟩ | ⟨s1, o1⟩ | ⟨s1, o1⟩ | ⟨s1, o1⟩ | ⟨s1, o1⟩ | ⟨s1, o1⟩ | ⟨s1, o1⟩ | ⟨s1, o1⟩ | ⟨s1, o1⟩
        · obtain rfl : r49 = 110 := kt_lit (A := 110) (by omega) (by decide)
          refine lv_i2c (v := 110) hx hb dL_areScans_33 (by decide) ?_
          refine lv_istore (lv' := [(6, .int 110), (5, .int r48), (4, .int xi), (3, .int 1), (2, .ref p1), (0, .ref (z 0)), (1, .int on)]) hx hb dL_areScans_34 hl (by decide) rfl (fun ls hl => ?_)
          refine lv_aload_n hx hb dL_areScans_36 rfl (lv_at hl 4 rfl) ?_
          refine lv_iload hx hb dL_areScans_37 (lv_at hl 1 rfl) ?_
          refine rd_C F hK hO onew.1 (by rw [onew.2]; exact kt_in nr48 (by omega) (by decide)) dL_areScans_39 ?_
          refine lv_topi (fun x51 ex51 => ?_)
          have nx51 : x51.toInt = ((q_last q (q 43 i) i : Nat) : Int) := kt_nI (by rw [ex51, kt_clamp nr48 (by omega)]; exact (show pX (setX (newA O p1 8 12) p1 f) p1 (q 43 i) = nI (q_last q (q 43 i) i) by rw [kxs_at]; exact hf (q 43 i) (by omega))) (by omega)
          obtain rfl : x51 = 0 := kt_lit (A := 0) (by omega) (by decide)
          refine lv_istore (lv' := [(7, .int 0), (6, .int 110), (5, .int r48), (4, .int xi), (3, .int 1), (2, .ref p1), (0, .ref (z 0)), (1, .int on)]) hx hb dL_areScans_40 hl (by decide) rfl (fun ls hl => ?_)
          refine lv_iload hx hb dL_areScans_42 (lv_at hl 1 rfl) ?_
          refine lv_bipush (v := 110) hx hb dL_areScans_44 (by decide) ?_
          refine lv_icmp_ne (tgt := 62) hx hb dL_areScans_46 (by decide) (fun c52 => ?_) (fun c52 => ?_)
          · exact absurd c52 (by decide)
          · refine lv_iload hx hb dL_areScans_49 (lv_at hl 0 rfl) ?_
            refine lv_if_ne (tgt := 58) hx hb dL_areScans_51 (by decide) (fun c53 => ?_) (fun c53 => ?_)
            · exact absurd c53 (by decide)
            · refine lv_iconst (v := 1) hx hb dL_areScans_54 (by decide) ?_
              refine lv_goto (tgt := 175) hx hb dL_areScans_55 (by decide) ?_
              refine lv_istore (lv' := [(8, .int 1), (7, .int 0), (6, .int 110), (5, .int r48), (4, .int xi), (3, .int 1), (2, .ref p1), (0, .ref (z 0)), (1, .int on)]) hx hb dL_areScans_175 hl (by decide) rfl (fun ls hl => ?_)
              refine lv_iload_n hx hb dL_areScans_177 rfl (lv_at hl 5 rfl) ?_
              refine lv_iload hx hb dL_areScans_178 (lv_at hl 0 rfl) ?_
              refine lv_iand hx hb dL_areScans_180 ?_
              refine lv_topi (fun x54 e54 => ?_)
              obtain rfl : x54 = 1 := e54.trans (by decide)
              refine lv_istore_n (lv' := [(3, .int 1), (8, .int 1), (7, .int 0), (6, .int 110), (5, .int r48), (4, .int xi), (2, .ref p1), (0, .ref (z 0)), (1, .int on)]) hx hb dL_areScans_181 rfl hl (by decide) rfl (fun ls hl => ?_)
              refine lv_aload_n hx hb dL_areScans_182 rfl (lv_at hl 6 rfl) ?_
              refine lv_iload hx hb dL_areScans_183 (lv_at hl 4 rfl) ?_
              refine lv_iload hx hb dL_areScans_185 (lv_at hl 3 rfl) ?_
              refine rt2_C F hK hP hO hD hDO hdis hS onew.1 (by rw [onew.2]; exact kt_in nr48 (by omega) (by decide)) dL_areScans_187 (fun H locs hP hO hDO hS => ?_)
              rw [kx_set, kt_clamp nr48 (by omega)] at hO hDO
              have hdis : kdis S (setX (newA O p1 8 12) p1 (upd f (q 43 i) (vp_nar .char 110))) := hdis9
              have hf2 := q_last_up1 (v := vp_nar .char 110) hf rfl (by rw [s1]; rfl)
              obtain ⟨x55, ex55⟩ : ∃ y : Int32, y = xi + 1 := ⟨_, rfl⟩
              refine lv_iinc (v := x55) (lv' := [(4, .int x55), (3, .int 1), (8, .int 1), (7, .int 0), (6, .int 110), (5, .int r48), (2, .ref p1), (0, .ref (z 0)), (1, .int on)]) hx hb dL_areScans_188 hl (k := 5) rfl (by rw [ex55]; rfl) (by decide) rfl (fun ls hl => ?_)
              have tx55 : x55.toInt = xi.toInt + 1 := kt_add ex55 (rfl : xi.toInt = xi.toInt) (by decide) (by omega) (by omega)
              refine lv_goto (tgt := 10) hx hb dL_areScans_191 (by decide) ?_
              exact ih (i + 1) x55 _ _ _ H locs ls hP hO hDO hS (lv_sub hl [0, 1, 6, 7, 8] rfl) (by omega) (by omega) (by omega) (by omega) (by omega) hf2
        · obtain rfl : r49 = 112 := kt_lit (A := 112) (by omega) (by decide)
          refine lv_i2c (v := 112) hx hb dL_areScans_33 (by decide) ?_
          refine lv_istore (lv' := [(6, .int 112), (5, .int r48), (4, .int xi), (3, .int 1), (2, .ref p1), (0, .ref (z 0)), (1, .int on)]) hx hb dL_areScans_34 hl (by decide) rfl (fun ls hl => ?_)
          refine lv_aload_n hx hb dL_areScans_36 rfl (lv_at hl 4 rfl) ?_
          refine lv_iload hx hb dL_areScans_37 (lv_at hl 1 rfl) ?_
          refine rd_C F hK hO onew.1 (by rw [onew.2]; exact kt_in nr48 (by omega) (by decide)) dL_areScans_39 ?_
          refine lv_topi (fun x57 ex57 => ?_)
          have nx57 : x57.toInt = ((q_last q (q 43 i) i : Nat) : Int) := kt_nI (by rw [ex57, kt_clamp nr48 (by omega)]; exact (show pX (setX (newA O p1 8 12) p1 f) p1 (q 43 i) = nI (q_last q (q 43 i) i) by rw [kxs_at]; exact hf (q 43 i) (by omega))) (by omega)
          obtain rfl : x57 = 110 := kt_lit (A := 110) (by omega) (by decide)
          refine lv_istore (lv' := [(7, .int 110), (6, .int 112), (5, .int r48), (4, .int xi), (3, .int 1), (2, .ref p1), (0, .ref (z 0)), (1, .int on)]) hx hb dL_areScans_40 hl (by decide) rfl (fun ls hl => ?_)
          refine lv_iload hx hb dL_areScans_42 (lv_at hl 1 rfl) ?_
          refine lv_bipush (v := 110) hx hb dL_areScans_44 (by decide) ?_
          refine lv_icmp_ne (tgt := 62) hx hb dL_areScans_46 (by decide) (fun c58 => ?_) (fun c58 => ?_)
          · refine lv_iload hx hb dL_areScans_62 (lv_at hl 1 rfl) ?_
            refine lv_bipush (v := 112) hx hb dL_areScans_64 (by decide) ?_
            refine lv_icmp_ne (tgt := 91) hx hb dL_areScans_66 (by decide) (fun c59 => ?_) (fun c59 => ?_)
            · exact absurd c59 (by decide)
            · refine lv_iload hx hb dL_areScans_69 (lv_at hl 0 rfl) ?_
              refine lv_bipush (v := 110) hx hb dL_areScans_71 (by decide) ?_
              refine lv_icmp_eq (tgt := 83) hx hb dL_areScans_73 (by decide) (fun c60 => ?_) (fun c60 => ?_)
              · refine lv_iconst (v := 1) hx hb dL_areScans_83 (by decide) ?_
                refine lv_goto (tgt := 175) hx hb dL_areScans_84 (by decide) ?_
                refine lv_istore (lv' := [(8, .int 1), (7, .int 110), (6, .int 112), (5, .int r48), (4, .int xi), (3, .int 1), (2, .ref p1), (0, .ref (z 0)), (1, .int on)]) hx hb dL_areScans_175 hl (by decide) rfl (fun ls hl => ?_)
                refine lv_iload_n hx hb dL_areScans_177 rfl (lv_at hl 5 rfl) ?_
                refine lv_iload hx hb dL_areScans_178 (lv_at hl 0 rfl) ?_
                refine lv_iand hx hb dL_areScans_180 ?_
                refine lv_topi (fun x61 e61 => ?_)
                obtain rfl : x61 = 1 := e61.trans (by decide)
                refine lv_istore_n (lv' := [(3, .int 1), (8, .int 1), (7, .int 110), (6, .int 112), (5, .int r48), (4, .int xi), (2, .ref p1), (0, .ref (z 0)), (1, .int on)]) hx hb dL_areScans_181 rfl hl (by decide) rfl (fun ls hl => ?_)
                refine lv_aload_n hx hb dL_areScans_182 rfl (lv_at hl 6 rfl) ?_
                refine lv_iload hx hb dL_areScans_183 (lv_at hl 4 rfl) ?_
                refine lv_iload hx hb dL_areScans_185 (lv_at hl 3 rfl) ?_
                refine rt2_C F hK hP hO hD hDO hdis hS onew.1 (by rw [onew.2]; exact kt_in nr48 (by omega) (by decide)) dL_areScans_187 (fun H locs hP hO hDO hS => ?_)
                rw [kx_set, kt_clamp nr48 (by omega)] at hO hDO
                have hdis : kdis S (setX (newA O p1 8 12) p1 (upd f (q 43 i) (vp_nar .char 112))) := hdis9
                have hf2 := q_last_up1 (v := vp_nar .char 112) hf rfl (by rw [s1]; rfl)
                obtain ⟨x62, ex62⟩ : ∃ y : Int32, y = xi + 1 := ⟨_, rfl⟩
                refine lv_iinc (v := x62) (lv' := [(4, .int x62), (3, .int 1), (8, .int 1), (7, .int 110), (6, .int 112), (5, .int r48), (2, .ref p1), (0, .ref (z 0)), (1, .int on)]) hx hb dL_areScans_188 hl (k := 5) rfl (by rw [ex62]; rfl) (by decide) rfl (fun ls hl => ?_)
                have tx62 : x62.toInt = xi.toInt + 1 := kt_add ex62 (rfl : xi.toInt = xi.toInt) (by decide) (by omega) (by omega)
                refine lv_goto (tgt := 10) hx hb dL_areScans_191 (by decide) ?_
                exact ih (i + 1) x62 _ _ _ H locs ls hP hO hDO hS (lv_sub hl [0, 1, 6, 7, 8] rfl) (by omega) (by omega) (by omega) (by omega) (by omega) hf2
              · exact absurd (by decide) c60
          · exact absurd c58 (by decide)
        · obtain rfl : r49 = 112 := kt_lit (A := 112) (by omega) (by decide)
          refine lv_i2c (v := 112) hx hb dL_areScans_33 (by decide) ?_
          refine lv_istore (lv' := [(6, .int 112), (5, .int r48), (4, .int xi), (3, .int 1), (2, .ref p1), (0, .ref (z 0)), (1, .int on)]) hx hb dL_areScans_34 hl (by decide) rfl (fun ls hl => ?_)
          refine lv_aload_n hx hb dL_areScans_36 rfl (lv_at hl 4 rfl) ?_
          refine lv_iload hx hb dL_areScans_37 (lv_at hl 1 rfl) ?_
          refine rd_C F hK hO onew.1 (by rw [onew.2]; exact kt_in nr48 (by omega) (by decide)) dL_areScans_39 ?_
          refine lv_topi (fun x64 ex64 => ?_)
          have nx64 : x64.toInt = ((q_last q (q 43 i) i : Nat) : Int) := kt_nI (by rw [ex64, kt_clamp nr48 (by omega)]; exact (show pX (setX (newA O p1 8 12) p1 f) p1 (q 43 i) = nI (q_last q (q 43 i) i) by rw [kxs_at]; exact hf (q 43 i) (by omega))) (by omega)
          obtain rfl : x64 = 117 := kt_lit (A := 117) (by omega) (by decide)
          refine lv_istore (lv' := [(7, .int 117), (6, .int 112), (5, .int r48), (4, .int xi), (3, .int 1), (2, .ref p1), (0, .ref (z 0)), (1, .int on)]) hx hb dL_areScans_40 hl (by decide) rfl (fun ls hl => ?_)
          refine lv_iload hx hb dL_areScans_42 (lv_at hl 1 rfl) ?_
          refine lv_bipush (v := 110) hx hb dL_areScans_44 (by decide) ?_
          refine lv_icmp_ne (tgt := 62) hx hb dL_areScans_46 (by decide) (fun c65 => ?_) (fun c65 => ?_)
          · refine lv_iload hx hb dL_areScans_62 (lv_at hl 1 rfl) ?_
            refine lv_bipush (v := 112) hx hb dL_areScans_64 (by decide) ?_
            refine lv_icmp_ne (tgt := 91) hx hb dL_areScans_66 (by decide) (fun c66 => ?_) (fun c66 => ?_)
            · exact absurd c66 (by decide)
            · refine lv_iload hx hb dL_areScans_69 (lv_at hl 0 rfl) ?_
              refine lv_bipush (v := 110) hx hb dL_areScans_71 (by decide) ?_
              refine lv_icmp_eq (tgt := 83) hx hb dL_areScans_73 (by decide) (fun c67 => ?_) (fun c67 => ?_)
              · exact absurd c67 (by decide)
              · refine lv_iload hx hb dL_areScans_76 (lv_at hl 0 rfl) ?_
                refine lv_bipush (v := 117) hx hb dL_areScans_78 (by decide) ?_
                refine lv_icmp_ne (tgt := 87) hx hb dL_areScans_80 (by decide) (fun c68 => ?_) (fun c68 => ?_)
                · exact absurd c68 (by decide)
                · refine lv_iconst (v := 1) hx hb dL_areScans_83 (by decide) ?_
                  refine lv_goto (tgt := 175) hx hb dL_areScans_84 (by decide) ?_
                  refine lv_istore (lv' := [(8, .int 1), (7, .int 117), (6, .int 112), (5, .int r48), (4, .int xi), (3, .int 1), (2, .ref p1), (0, .ref (z 0)), (1, .int on)]) hx hb dL_areScans_175 hl (by decide) rfl (fun ls hl => ?_)
                  refine lv_iload_n hx hb dL_areScans_177 rfl (lv_at hl 5 rfl) ?_
                  refine lv_iload hx hb dL_areScans_178 (lv_at hl 0 rfl) ?_
                  refine lv_iand hx hb dL_areScans_180 ?_
                  refine lv_topi (fun x69 e69 => ?_)
                  obtain rfl : x69 = 1 := e69.trans (by decide)
                  refine lv_istore_n (lv' := [(3, .int 1), (8, .int 1), (7, .int 117), (6, .int 112), (5, .int r48), (4, .int xi), (2, .ref p1), (0, .ref (z 0)), (1, .int on)]) hx hb dL_areScans_181 rfl hl (by decide) rfl (fun ls hl => ?_)
                  refine lv_aload_n hx hb dL_areScans_182 rfl (lv_at hl 6 rfl) ?_
                  refine lv_iload hx hb dL_areScans_183 (lv_at hl 4 rfl) ?_
                  refine lv_iload hx hb dL_areScans_185 (lv_at hl 3 rfl) ?_
                  refine rt2_C F hK hP hO hD hDO hdis hS onew.1 (by rw [onew.2]; exact kt_in nr48 (by omega) (by decide)) dL_areScans_187 (fun H locs hP hO hDO hS => ?_)
                  rw [kx_set, kt_clamp nr48 (by omega)] at hO hDO
                  have hdis : kdis S (setX (newA O p1 8 12) p1 (upd f (q 43 i) (vp_nar .char 112))) := hdis9
                  have hf2 := q_last_up1 (v := vp_nar .char 112) hf rfl (by rw [s1]; rfl)
                  obtain ⟨x70, ex70⟩ : ∃ y : Int32, y = xi + 1 := ⟨_, rfl⟩
                  refine lv_iinc (v := x70) (lv' := [(4, .int x70), (3, .int 1), (8, .int 1), (7, .int 117), (6, .int 112), (5, .int r48), (2, .ref p1), (0, .ref (z 0)), (1, .int on)]) hx hb dL_areScans_188 hl (k := 5) rfl (by rw [ex70]; rfl) (by decide) rfl (fun ls hl => ?_)
                  have tx70 : x70.toInt = xi.toInt + 1 := kt_add ex70 (rfl : xi.toInt = xi.toInt) (by decide) (by omega) (by omega)
                  refine lv_goto (tgt := 10) hx hb dL_areScans_191 (by decide) ?_
                  exact ih (i + 1) x70 _ _ _ H locs ls hP hO hDO hS (lv_sub hl [0, 1, 6, 7, 8] rfl) (by omega) (by omega) (by omega) (by omega) (by omega) hf2
          · exact absurd c65 (by decide)
        · obtain rfl : r49 = 117 := kt_lit (A := 117) (by omega) (by decide)
          refine lv_i2c (v := 117) hx hb dL_areScans_33 (by decide) ?_
          refine lv_istore (lv' := [(6, .int 117), (5, .int r48), (4, .int xi), (3, .int 1), (2, .ref p1), (0, .ref (z 0)), (1, .int on)]) hx hb dL_areScans_34 hl (by decide) rfl (fun ls hl => ?_)
          refine lv_aload_n hx hb dL_areScans_36 rfl (lv_at hl 4 rfl) ?_
          refine lv_iload hx hb dL_areScans_37 (lv_at hl 1 rfl) ?_
          refine rd_C F hK hO onew.1 (by rw [onew.2]; exact kt_in nr48 (by omega) (by decide)) dL_areScans_39 ?_
          refine lv_topi (fun x72 ex72 => ?_)
          have nx72 : x72.toInt = ((q_last q (q 43 i) i : Nat) : Int) := kt_nI (by rw [ex72, kt_clamp nr48 (by omega)]; exact (show pX (setX (newA O p1 8 12) p1 f) p1 (q 43 i) = nI (q_last q (q 43 i) i) by rw [kxs_at]; exact hf (q 43 i) (by omega))) (by omega)
          obtain rfl : x72 = 112 := kt_lit (A := 112) (by omega) (by decide)
          refine lv_istore (lv' := [(7, .int 112), (6, .int 117), (5, .int r48), (4, .int xi), (3, .int 1), (2, .ref p1), (0, .ref (z 0)), (1, .int on)]) hx hb dL_areScans_40 hl (by decide) rfl (fun ls hl => ?_)
          refine lv_iload hx hb dL_areScans_42 (lv_at hl 1 rfl) ?_
          refine lv_bipush (v := 110) hx hb dL_areScans_44 (by decide) ?_
          refine lv_icmp_ne (tgt := 62) hx hb dL_areScans_46 (by decide) (fun c73 => ?_) (fun c73 => ?_)
          · refine lv_iload hx hb dL_areScans_62 (lv_at hl 1 rfl) ?_
            refine lv_bipush (v := 112) hx hb dL_areScans_64 (by decide) ?_
            refine lv_icmp_ne (tgt := 91) hx hb dL_areScans_66 (by decide) (fun c74 => ?_) (fun c74 => ?_)
            · refine lv_iload hx hb dL_areScans_91 (lv_at hl 1 rfl) ?_
              refine lv_bipush (v := 117) hx hb dL_areScans_93 (by decide) ?_
              refine lv_icmp_eq (tgt := 105) hx hb dL_areScans_95 (by decide) (fun c75 => ?_) (fun c75 => ?_)
              · refine lv_iload hx hb dL_areScans_105 (lv_at hl 0 rfl) ?_
                refine lv_bipush (v := 112) hx hb dL_areScans_107 (by decide) ?_
                refine lv_icmp_ne (tgt := 116) hx hb dL_areScans_109 (by decide) (fun c76 => ?_) (fun c76 => ?_)
                · exact absurd c76 (by decide)
                · refine lv_iconst (v := 1) hx hb dL_areScans_112 (by decide) ?_
                  refine lv_goto (tgt := 175) hx hb dL_areScans_113 (by decide) ?_
                  refine lv_istore (lv' := [(8, .int 1), (7, .int 112), (6, .int 117), (5, .int r48), (4, .int xi), (3, .int 1), (2, .ref p1), (0, .ref (z 0)), (1, .int on)]) hx hb dL_areScans_175 hl (by decide) rfl (fun ls hl => ?_)
                  refine lv_iload_n hx hb dL_areScans_177 rfl (lv_at hl 5 rfl) ?_
                  refine lv_iload hx hb dL_areScans_178 (lv_at hl 0 rfl) ?_
                  refine lv_iand hx hb dL_areScans_180 ?_
                  refine lv_topi (fun x77 e77 => ?_)
                  obtain rfl : x77 = 1 := e77.trans (by decide)
                  refine lv_istore_n (lv' := [(3, .int 1), (8, .int 1), (7, .int 112), (6, .int 117), (5, .int r48), (4, .int xi), (2, .ref p1), (0, .ref (z 0)), (1, .int on)]) hx hb dL_areScans_181 rfl hl (by decide) rfl (fun ls hl => ?_)
                  refine lv_aload_n hx hb dL_areScans_182 rfl (lv_at hl 6 rfl) ?_
                  refine lv_iload hx hb dL_areScans_183 (lv_at hl 4 rfl) ?_
                  refine lv_iload hx hb dL_areScans_185 (lv_at hl 3 rfl) ?_
                  refine rt2_C F hK hP hO hD hDO hdis hS onew.1 (by rw [onew.2]; exact kt_in nr48 (by omega) (by decide)) dL_areScans_187 (fun H locs hP hO hDO hS => ?_)
                  rw [kx_set, kt_clamp nr48 (by omega)] at hO hDO
                  have hdis : kdis S (setX (newA O p1 8 12) p1 (upd f (q 43 i) (vp_nar .char 117))) := hdis9
                  have hf2 := q_last_up1 (v := vp_nar .char 117) hf rfl (by rw [s1]; rfl)
                  obtain ⟨x78, ex78⟩ : ∃ y : Int32, y = xi + 1 := ⟨_, rfl⟩
                  refine lv_iinc (v := x78) (lv' := [(4, .int x78), (3, .int 1), (8, .int 1), (7, .int 112), (6, .int 117), (5, .int r48), (2, .ref p1), (0, .ref (z 0)), (1, .int on)]) hx hb dL_areScans_188 hl (k := 5) rfl (by rw [ex78]; rfl) (by decide) rfl (fun ls hl => ?_)
                  have tx78 : x78.toInt = xi.toInt + 1 := kt_add ex78 (rfl : xi.toInt = xi.toInt) (by decide) (by omega) (by omega)
                  refine lv_goto (tgt := 10) hx hb dL_areScans_191 (by decide) ?_
                  exact ih (i + 1) x78 _ _ _ H locs ls hP hO hDO hS (lv_sub hl [0, 1, 6, 7, 8] rfl) (by omega) (by omega) (by omega) (by omega) (by omega) hf2
              · exact absurd (by decide) c75
            · exact absurd c74 (by decide)
          · exact absurd c73 (by decide)
        · obtain rfl : r49 = 107 := kt_lit (A := 107) (by omega) (by decide)
          refine lv_i2c (v := 107) hx hb dL_areScans_33 (by decide) ?_
          refine lv_istore (lv' := [(6, .int 107), (5, .int r48), (4, .int xi), (3, .int 1), (2, .ref p1), (0, .ref (z 0)), (1, .int on)]) hx hb dL_areScans_34 hl (by decide) rfl (fun ls hl => ?_)
          refine lv_aload_n hx hb dL_areScans_36 rfl (lv_at hl 4 rfl) ?_
          refine lv_iload hx hb dL_areScans_37 (lv_at hl 1 rfl) ?_
          refine rd_C F hK hO onew.1 (by rw [onew.2]; exact kt_in nr48 (by omega) (by decide)) dL_areScans_39 ?_
          refine lv_topi (fun x80 ex80 => ?_)
          have nx80 : x80.toInt = ((q_last q (q 43 i) i : Nat) : Int) := kt_nI (by rw [ex80, kt_clamp nr48 (by omega)]; exact (show pX (setX (newA O p1 8 12) p1 f) p1 (q 43 i) = nI (q_last q (q 43 i) i) by rw [kxs_at]; exact hf (q 43 i) (by omega))) (by omega)
          obtain rfl : x80 = 112 := kt_lit (A := 112) (by omega) (by decide)
          refine lv_istore (lv' := [(7, .int 112), (6, .int 107), (5, .int r48), (4, .int xi), (3, .int 1), (2, .ref p1), (0, .ref (z 0)), (1, .int on)]) hx hb dL_areScans_40 hl (by decide) rfl (fun ls hl => ?_)
          refine lv_iload hx hb dL_areScans_42 (lv_at hl 1 rfl) ?_
          refine lv_bipush (v := 110) hx hb dL_areScans_44 (by decide) ?_
          refine lv_icmp_ne (tgt := 62) hx hb dL_areScans_46 (by decide) (fun c81 => ?_) (fun c81 => ?_)
          · refine lv_iload hx hb dL_areScans_62 (lv_at hl 1 rfl) ?_
            refine lv_bipush (v := 112) hx hb dL_areScans_64 (by decide) ?_
            refine lv_icmp_ne (tgt := 91) hx hb dL_areScans_66 (by decide) (fun c82 => ?_) (fun c82 => ?_)
            · refine lv_iload hx hb dL_areScans_91 (lv_at hl 1 rfl) ?_
              refine lv_bipush (v := 117) hx hb dL_areScans_93 (by decide) ?_
              refine lv_icmp_eq (tgt := 105) hx hb dL_areScans_95 (by decide) (fun c83 => ?_) (fun c83 => ?_)
              · exact absurd c83 (by decide)
              · refine lv_iload hx hb dL_areScans_98 (lv_at hl 1 rfl) ?_
                refine lv_bipush (v := 107) hx hb dL_areScans_100 (by decide) ?_
                refine lv_icmp_ne (tgt := 120) hx hb dL_areScans_102 (by decide) (fun c84 => ?_) (fun c84 => ?_)
                · exact absurd c84 (by decide)
                · refine lv_iload hx hb dL_areScans_105 (lv_at hl 0 rfl) ?_
                  refine lv_bipush (v := 112) hx hb dL_areScans_107 (by decide) ?_
                  refine lv_icmp_ne (tgt := 116) hx hb dL_areScans_109 (by decide) (fun c85 => ?_) (fun c85 => ?_)
                  · exact absurd c85 (by decide)
                  · refine lv_iconst (v := 1) hx hb dL_areScans_112 (by decide) ?_
                    refine lv_goto (tgt := 175) hx hb dL_areScans_113 (by decide) ?_
                    refine lv_istore (lv' := [(8, .int 1), (7, .int 112), (6, .int 107), (5, .int r48), (4, .int xi), (3, .int 1), (2, .ref p1), (0, .ref (z 0)), (1, .int on)]) hx hb dL_areScans_175 hl (by decide) rfl (fun ls hl => ?_)
                    refine lv_iload_n hx hb dL_areScans_177 rfl (lv_at hl 5 rfl) ?_
                    refine lv_iload hx hb dL_areScans_178 (lv_at hl 0 rfl) ?_
                    refine lv_iand hx hb dL_areScans_180 ?_
                    refine lv_topi (fun x86 e86 => ?_)
                    obtain rfl : x86 = 1 := e86.trans (by decide)
                    refine lv_istore_n (lv' := [(3, .int 1), (8, .int 1), (7, .int 112), (6, .int 107), (5, .int r48), (4, .int xi), (2, .ref p1), (0, .ref (z 0)), (1, .int on)]) hx hb dL_areScans_181 rfl hl (by decide) rfl (fun ls hl => ?_)
                    refine lv_aload_n hx hb dL_areScans_182 rfl (lv_at hl 6 rfl) ?_
                    refine lv_iload hx hb dL_areScans_183 (lv_at hl 4 rfl) ?_
                    refine lv_iload hx hb dL_areScans_185 (lv_at hl 3 rfl) ?_
                    refine rt2_C F hK hP hO hD hDO hdis hS onew.1 (by rw [onew.2]; exact kt_in nr48 (by omega) (by decide)) dL_areScans_187 (fun H locs hP hO hDO hS => ?_)
                    rw [kx_set, kt_clamp nr48 (by omega)] at hO hDO
                    have hdis : kdis S (setX (newA O p1 8 12) p1 (upd f (q 43 i) (vp_nar .char 107))) := hdis9
                    have hf2 := q_last_up1 (v := vp_nar .char 107) hf rfl (by rw [s1]; rfl)
                    obtain ⟨x87, ex87⟩ : ∃ y : Int32, y = xi + 1 := ⟨_, rfl⟩
                    refine lv_iinc (v := x87) (lv' := [(4, .int x87), (3, .int 1), (8, .int 1), (7, .int 112), (6, .int 107), (5, .int r48), (2, .ref p1), (0, .ref (z 0)), (1, .int on)]) hx hb dL_areScans_188 hl (k := 5) rfl (by rw [ex87]; rfl) (by decide) rfl (fun ls hl => ?_)
                    have tx87 : x87.toInt = xi.toInt + 1 := kt_add ex87 (rfl : xi.toInt = xi.toInt) (by decide) (by omega) (by omega)
                    refine lv_goto (tgt := 10) hx hb dL_areScans_191 (by decide) ?_
                    exact ih (i + 1) x87 _ _ _ H locs ls hP hO hDO hS (lv_sub hl [0, 1, 6, 7, 8] rfl) (by omega) (by omega) (by omega) (by omega) (by omega) hf2
            · exact absurd c82 (by decide)
          · exact absurd c81 (by decide)
        · obtain rfl : r49 = 115 := kt_lit (A := 115) (by omega) (by decide)
          refine lv_i2c (v := 115) hx hb dL_areScans_33 (by decide) ?_
          refine lv_istore (lv' := [(6, .int 115), (5, .int r48), (4, .int xi), (3, .int 1), (2, .ref p1), (0, .ref (z 0)), (1, .int on)]) hx hb dL_areScans_34 hl (by decide) rfl (fun ls hl => ?_)
          refine lv_aload_n hx hb dL_areScans_36 rfl (lv_at hl 4 rfl) ?_
          refine lv_iload hx hb dL_areScans_37 (lv_at hl 1 rfl) ?_
          refine rd_C F hK hO onew.1 (by rw [onew.2]; exact kt_in nr48 (by omega) (by decide)) dL_areScans_39 ?_
          refine lv_topi (fun x89 ex89 => ?_)
          have nx89 : x89.toInt = ((q_last q (q 43 i) i : Nat) : Int) := kt_nI (by rw [ex89, kt_clamp nr48 (by omega)]; exact (show pX (setX (newA O p1 8 12) p1 f) p1 (q 43 i) = nI (q_last q (q 43 i) i) by rw [kxs_at]; exact hf (q 43 i) (by omega))) (by omega)
          obtain rfl : x89 = 107 := kt_lit (A := 107) (by omega) (by decide)
          refine lv_istore (lv' := [(7, .int 107), (6, .int 115), (5, .int r48), (4, .int xi), (3, .int 1), (2, .ref p1), (0, .ref (z 0)), (1, .int on)]) hx hb dL_areScans_40 hl (by decide) rfl (fun ls hl => ?_)
          refine lv_iload hx hb dL_areScans_42 (lv_at hl 1 rfl) ?_
          refine lv_bipush (v := 110) hx hb dL_areScans_44 (by decide) ?_
          refine lv_icmp_ne (tgt := 62) hx hb dL_areScans_46 (by decide) (fun c90 => ?_) (fun c90 => ?_)
          · refine lv_iload hx hb dL_areScans_62 (lv_at hl 1 rfl) ?_
            refine lv_bipush (v := 112) hx hb dL_areScans_64 (by decide) ?_
            refine lv_icmp_ne (tgt := 91) hx hb dL_areScans_66 (by decide) (fun c91 => ?_) (fun c91 => ?_)
            · refine lv_iload hx hb dL_areScans_91 (lv_at hl 1 rfl) ?_
              refine lv_bipush (v := 117) hx hb dL_areScans_93 (by decide) ?_
              refine lv_icmp_eq (tgt := 105) hx hb dL_areScans_95 (by decide) (fun c92 => ?_) (fun c92 => ?_)
              · exact absurd c92 (by decide)
              · refine lv_iload hx hb dL_areScans_98 (lv_at hl 1 rfl) ?_
                refine lv_bipush (v := 107) hx hb dL_areScans_100 (by decide) ?_
                refine lv_icmp_ne (tgt := 120) hx hb dL_areScans_102 (by decide) (fun c93 => ?_) (fun c93 => ?_)
                · refine lv_iload hx hb dL_areScans_120 (lv_at hl 1 rfl) ?_
                  refine lv_bipush (v := 115) hx hb dL_areScans_122 (by decide) ?_
                  refine lv_icmp_ne (tgt := 142) hx hb dL_areScans_124 (by decide) (fun c94 => ?_) (fun c94 => ?_)
                  · exact absurd c94 (by decide)
                  · refine lv_iload hx hb dL_areScans_127 (lv_at hl 0 rfl) ?_
                    refine lv_bipush (v := 107) hx hb dL_areScans_129 (by decide) ?_
                    refine lv_icmp_ne (tgt := 138) hx hb dL_areScans_131 (by decide) (fun c95 => ?_) (fun c95 => ?_)
                    · exact absurd c95 (by decide)
                    · refine lv_iconst (v := 1) hx hb dL_areScans_134 (by decide) ?_
                      refine lv_goto (tgt := 175) hx hb dL_areScans_135 (by decide) ?_
                      refine lv_istore (lv' := [(8, .int 1), (7, .int 107), (6, .int 115), (5, .int r48), (4, .int xi), (3, .int 1), (2, .ref p1), (0, .ref (z 0)), (1, .int on)]) hx hb dL_areScans_175 hl (by decide) rfl (fun ls hl => ?_)
                      refine lv_iload_n hx hb dL_areScans_177 rfl (lv_at hl 5 rfl) ?_
                      refine lv_iload hx hb dL_areScans_178 (lv_at hl 0 rfl) ?_
                      refine lv_iand hx hb dL_areScans_180 ?_
                      refine lv_topi (fun x96 e96 => ?_)
                      obtain rfl : x96 = 1 := e96.trans (by decide)
                      refine lv_istore_n (lv' := [(3, .int 1), (8, .int 1), (7, .int 107), (6, .int 115), (5, .int r48), (4, .int xi), (2, .ref p1), (0, .ref (z 0)), (1, .int on)]) hx hb dL_areScans_181 rfl hl (by decide) rfl (fun ls hl => ?_)
                      refine lv_aload_n hx hb dL_areScans_182 rfl (lv_at hl 6 rfl) ?_
                      refine lv_iload hx hb dL_areScans_183 (lv_at hl 4 rfl) ?_
                      refine lv_iload hx hb dL_areScans_185 (lv_at hl 3 rfl) ?_
                      refine rt2_C F hK hP hO hD hDO hdis hS onew.1 (by rw [onew.2]; exact kt_in nr48 (by omega) (by decide)) dL_areScans_187 (fun H locs hP hO hDO hS => ?_)
                      rw [kx_set, kt_clamp nr48 (by omega)] at hO hDO
                      have hdis : kdis S (setX (newA O p1 8 12) p1 (upd f (q 43 i) (vp_nar .char 115))) := hdis9
                      have hf2 := q_last_up1 (v := vp_nar .char 115) hf rfl (by rw [s1]; rfl)
                      obtain ⟨x97, ex97⟩ : ∃ y : Int32, y = xi + 1 := ⟨_, rfl⟩
                      refine lv_iinc (v := x97) (lv' := [(4, .int x97), (3, .int 1), (8, .int 1), (7, .int 107), (6, .int 115), (5, .int r48), (2, .ref p1), (0, .ref (z 0)), (1, .int on)]) hx hb dL_areScans_188 hl (k := 5) rfl (by rw [ex97]; rfl) (by decide) rfl (fun ls hl => ?_)
                      have tx97 : x97.toInt = xi.toInt + 1 := kt_add ex97 (rfl : xi.toInt = xi.toInt) (by decide) (by omega) (by omega)
                      refine lv_goto (tgt := 10) hx hb dL_areScans_191 (by decide) ?_
                      exact ih (i + 1) x97 _ _ _ H locs ls hP hO hDO hS (lv_sub hl [0, 1, 6, 7, 8] rfl) (by omega) (by omega) (by omega) (by omega) (by omega) hf2
                · exact absurd c93 (by decide)
            · exact absurd c91 (by decide)
          · exact absurd c90 (by decide)
        · obtain rfl : r49 = 100 := kt_lit (A := 100) (by omega) (by decide)
          refine lv_i2c (v := 100) hx hb dL_areScans_33 (by decide) ?_
          refine lv_istore (lv' := [(6, .int 100), (5, .int r48), (4, .int xi), (3, .int 1), (2, .ref p1), (0, .ref (z 0)), (1, .int on)]) hx hb dL_areScans_34 hl (by decide) rfl (fun ls hl => ?_)
          refine lv_aload_n hx hb dL_areScans_36 rfl (lv_at hl 4 rfl) ?_
          refine lv_iload hx hb dL_areScans_37 (lv_at hl 1 rfl) ?_
          refine rd_C F hK hO onew.1 (by rw [onew.2]; exact kt_in nr48 (by omega) (by decide)) dL_areScans_39 ?_
          refine lv_topi (fun x99 ex99 => ?_)
          have nx99 : x99.toInt = ((q_last q (q 43 i) i : Nat) : Int) := kt_nI (by rw [ex99, kt_clamp nr48 (by omega)]; exact (show pX (setX (newA O p1 8 12) p1 f) p1 (q 43 i) = nI (q_last q (q 43 i) i) by rw [kxs_at]; exact hf (q 43 i) (by omega))) (by omega)
          obtain rfl : x99 = 110 := kt_lit (A := 110) (by omega) (by decide)
          refine lv_istore (lv' := [(7, .int 110), (6, .int 100), (5, .int r48), (4, .int xi), (3, .int 1), (2, .ref p1), (0, .ref (z 0)), (1, .int on)]) hx hb dL_areScans_40 hl (by decide) rfl (fun ls hl => ?_)
          refine lv_iload hx hb dL_areScans_42 (lv_at hl 1 rfl) ?_
          refine lv_bipush (v := 110) hx hb dL_areScans_44 (by decide) ?_
          refine lv_icmp_ne (tgt := 62) hx hb dL_areScans_46 (by decide) (fun c100 => ?_) (fun c100 => ?_)
          · refine lv_iload hx hb dL_areScans_62 (lv_at hl 1 rfl) ?_
            refine lv_bipush (v := 112) hx hb dL_areScans_64 (by decide) ?_
            refine lv_icmp_ne (tgt := 91) hx hb dL_areScans_66 (by decide) (fun c101 => ?_) (fun c101 => ?_)
            · refine lv_iload hx hb dL_areScans_91 (lv_at hl 1 rfl) ?_
              refine lv_bipush (v := 117) hx hb dL_areScans_93 (by decide) ?_
              refine lv_icmp_eq (tgt := 105) hx hb dL_areScans_95 (by decide) (fun c102 => ?_) (fun c102 => ?_)
              · exact absurd c102 (by decide)
              · refine lv_iload hx hb dL_areScans_98 (lv_at hl 1 rfl) ?_
                refine lv_bipush (v := 107) hx hb dL_areScans_100 (by decide) ?_
                refine lv_icmp_ne (tgt := 120) hx hb dL_areScans_102 (by decide) (fun c103 => ?_) (fun c103 => ?_)
                · refine lv_iload hx hb dL_areScans_120 (lv_at hl 1 rfl) ?_
                  refine lv_bipush (v := 115) hx hb dL_areScans_122 (by decide) ?_
                  refine lv_icmp_ne (tgt := 142) hx hb dL_areScans_124 (by decide) (fun c104 => ?_) (fun c104 => ?_)
                  · refine lv_iload hx hb dL_areScans_142 (lv_at hl 1 rfl) ?_
                    refine lv_bipush (v := 100) hx hb dL_areScans_144 (by decide) ?_
                    refine lv_icmp_ne (tgt := 174) hx hb dL_areScans_146 (by decide) (fun c105 => ?_) (fun c105 => ?_)
                    · exact absurd c105 (by decide)
                    · refine lv_iload hx hb dL_areScans_149 (lv_at hl 0 rfl) ?_
                      refine lv_bipush (v := 110) hx hb dL_areScans_151 (by decide) ?_
                      refine lv_icmp_eq (tgt := 170) hx hb dL_areScans_153 (by decide) (fun c106 => ?_) (fun c106 => ?_)
                      · refine lv_iconst (v := 1) hx hb dL_areScans_170 (by decide) ?_
                        refine lv_goto (tgt := 175) hx hb dL_areScans_171 (by decide) ?_
                        refine lv_istore (lv' := [(8, .int 1), (7, .int 110), (6, .int 100), (5, .int r48), (4, .int xi), (3, .int 1), (2, .ref p1), (0, .ref (z 0)), (1, .int on)]) hx hb dL_areScans_175 hl (by decide) rfl (fun ls hl => ?_)
                        refine lv_iload_n hx hb dL_areScans_177 rfl (lv_at hl 5 rfl) ?_
                        refine lv_iload hx hb dL_areScans_178 (lv_at hl 0 rfl) ?_
                        refine lv_iand hx hb dL_areScans_180 ?_
                        refine lv_topi (fun x107 e107 => ?_)
                        obtain rfl : x107 = 1 := e107.trans (by decide)
                        refine lv_istore_n (lv' := [(3, .int 1), (8, .int 1), (7, .int 110), (6, .int 100), (5, .int r48), (4, .int xi), (2, .ref p1), (0, .ref (z 0)), (1, .int on)]) hx hb dL_areScans_181 rfl hl (by decide) rfl (fun ls hl => ?_)
                        refine lv_aload_n hx hb dL_areScans_182 rfl (lv_at hl 6 rfl) ?_
                        refine lv_iload hx hb dL_areScans_183 (lv_at hl 4 rfl) ?_
                        refine lv_iload hx hb dL_areScans_185 (lv_at hl 3 rfl) ?_
                        refine rt2_C F hK hP hO hD hDO hdis hS onew.1 (by rw [onew.2]; exact kt_in nr48 (by omega) (by decide)) dL_areScans_187 (fun H locs hP hO hDO hS => ?_)
                        rw [kx_set, kt_clamp nr48 (by omega)] at hO hDO
                        have hdis : kdis S (setX (newA O p1 8 12) p1 (upd f (q 43 i) (vp_nar .char 100))) := hdis9
                        have hf2 := q_last_up1 (v := vp_nar .char 100) hf rfl (by rw [s1]; rfl)
                        obtain ⟨x108, ex108⟩ : ∃ y : Int32, y = xi + 1 := ⟨_, rfl⟩
                        refine lv_iinc (v := x108) (lv' := [(4, .int x108), (3, .int 1), (8, .int 1), (7, .int 110), (6, .int 100), (5, .int r48), (2, .ref p1), (0, .ref (z 0)), (1, .int on)]) hx hb dL_areScans_188 hl (k := 5) rfl (by rw [ex108]; rfl) (by decide) rfl (fun ls hl => ?_)
                        have tx108 : x108.toInt = xi.toInt + 1 := kt_add ex108 (rfl : xi.toInt = xi.toInt) (by decide) (by omega) (by omega)
                        refine lv_goto (tgt := 10) hx hb dL_areScans_191 (by decide) ?_
                        exact ih (i + 1) x108 _ _ _ H locs ls hP hO hDO hS (lv_sub hl [0, 1, 6, 7, 8] rfl) (by omega) (by omega) (by omega) (by omega) (by omega) hf2
                      · exact absurd (by decide) c106
                  · exact absurd c104 (by decide)
                · exact absurd c103 (by decide)
            · exact absurd c101 (by decide)
          · exact absurd c100 (by decide)
        · obtain rfl : r49 = 100 := kt_lit (A := 100) (by omega) (by decide)
          refine lv_i2c (v := 100) hx hb dL_areScans_33 (by decide) ?_
          refine lv_istore (lv' := [(6, .int 100), (5, .int r48), (4, .int xi), (3, .int 1), (2, .ref p1), (0, .ref (z 0)), (1, .int on)]) hx hb dL_areScans_34 hl (by decide) rfl (fun ls hl => ?_)
          refine lv_aload_n hx hb dL_areScans_36 rfl (lv_at hl 4 rfl) ?_
          refine lv_iload hx hb dL_areScans_37 (lv_at hl 1 rfl) ?_
          refine rd_C F hK hO onew.1 (by rw [onew.2]; exact kt_in nr48 (by omega) (by decide)) dL_areScans_39 ?_
          refine lv_topi (fun x110 ex110 => ?_)
          have nx110 : x110.toInt = ((q_last q (q 43 i) i : Nat) : Int) := kt_nI (by rw [ex110, kt_clamp nr48 (by omega)]; exact (show pX (setX (newA O p1 8 12) p1 f) p1 (q 43 i) = nI (q_last q (q 43 i) i) by rw [kxs_at]; exact hf (q 43 i) (by omega))) (by omega)
          obtain rfl : x110 = 117 := kt_lit (A := 117) (by omega) (by decide)
          refine lv_istore (lv' := [(7, .int 117), (6, .int 100), (5, .int r48), (4, .int xi), (3, .int 1), (2, .ref p1), (0, .ref (z 0)), (1, .int on)]) hx hb dL_areScans_40 hl (by decide) rfl (fun ls hl => ?_)
          refine lv_iload hx hb dL_areScans_42 (lv_at hl 1 rfl) ?_
          refine lv_bipush (v := 110) hx hb dL_areScans_44 (by decide) ?_
          refine lv_icmp_ne (tgt := 62) hx hb dL_areScans_46 (by decide) (fun c111 => ?_) (fun c111 => ?_)
          · refine lv_iload hx hb dL_areScans_62 (lv_at hl 1 rfl) ?_
            refine lv_bipush (v := 112) hx hb dL_areScans_64 (by decide) ?_
            refine lv_icmp_ne (tgt := 91) hx hb dL_areScans_66 (by decide) (fun c112 => ?_) (fun c112 => ?_)
            · refine lv_iload hx hb dL_areScans_91 (lv_at hl 1 rfl) ?_
              refine lv_bipush (v := 117) hx hb dL_areScans_93 (by decide) ?_
              refine lv_icmp_eq (tgt := 105) hx hb dL_areScans_95 (by decide) (fun c113 => ?_) (fun c113 => ?_)
              · exact absurd c113 (by decide)
              · refine lv_iload hx hb dL_areScans_98 (lv_at hl 1 rfl) ?_
                refine lv_bipush (v := 107) hx hb dL_areScans_100 (by decide) ?_
                refine lv_icmp_ne (tgt := 120) hx hb dL_areScans_102 (by decide) (fun c114 => ?_) (fun c114 => ?_)
                · refine lv_iload hx hb dL_areScans_120 (lv_at hl 1 rfl) ?_
                  refine lv_bipush (v := 115) hx hb dL_areScans_122 (by decide) ?_
                  refine lv_icmp_ne (tgt := 142) hx hb dL_areScans_124 (by decide) (fun c115 => ?_) (fun c115 => ?_)
                  · refine lv_iload hx hb dL_areScans_142 (lv_at hl 1 rfl) ?_
                    refine lv_bipush (v := 100) hx hb dL_areScans_144 (by decide) ?_
                    refine lv_icmp_ne (tgt := 174) hx hb dL_areScans_146 (by decide) (fun c116 => ?_) (fun c116 => ?_)
                    · exact absurd c116 (by decide)
                    · refine lv_iload hx hb dL_areScans_149 (lv_at hl 0 rfl) ?_
                      refine lv_bipush (v := 110) hx hb dL_areScans_151 (by decide) ?_
                      refine lv_icmp_eq (tgt := 170) hx hb dL_areScans_153 (by decide) (fun c117 => ?_) (fun c117 => ?_)
                      · exact absurd c117 (by decide)
                      · refine lv_iload hx hb dL_areScans_156 (lv_at hl 0 rfl) ?_
                        refine lv_bipush (v := 117) hx hb dL_areScans_158 (by decide) ?_
                        refine lv_icmp_eq (tgt := 170) hx hb dL_areScans_160 (by decide) (fun c118 => ?_) (fun c118 => ?_)
                        · refine lv_iconst (v := 1) hx hb dL_areScans_170 (by decide) ?_
                          refine lv_goto (tgt := 175) hx hb dL_areScans_171 (by decide) ?_
                          refine lv_istore (lv' := [(8, .int 1), (7, .int 117), (6, .int 100), (5, .int r48), (4, .int xi), (3, .int 1), (2, .ref p1), (0, .ref (z 0)), (1, .int on)]) hx hb dL_areScans_175 hl (by decide) rfl (fun ls hl => ?_)
                          refine lv_iload_n hx hb dL_areScans_177 rfl (lv_at hl 5 rfl) ?_
                          refine lv_iload hx hb dL_areScans_178 (lv_at hl 0 rfl) ?_
                          refine lv_iand hx hb dL_areScans_180 ?_
                          refine lv_topi (fun x119 e119 => ?_)
                          obtain rfl : x119 = 1 := e119.trans (by decide)
                          refine lv_istore_n (lv' := [(3, .int 1), (8, .int 1), (7, .int 117), (6, .int 100), (5, .int r48), (4, .int xi), (2, .ref p1), (0, .ref (z 0)), (1, .int on)]) hx hb dL_areScans_181 rfl hl (by decide) rfl (fun ls hl => ?_)
                          refine lv_aload_n hx hb dL_areScans_182 rfl (lv_at hl 6 rfl) ?_
                          refine lv_iload hx hb dL_areScans_183 (lv_at hl 4 rfl) ?_
                          refine lv_iload hx hb dL_areScans_185 (lv_at hl 3 rfl) ?_
                          refine rt2_C F hK hP hO hD hDO hdis hS onew.1 (by rw [onew.2]; exact kt_in nr48 (by omega) (by decide)) dL_areScans_187 (fun H locs hP hO hDO hS => ?_)
                          rw [kx_set, kt_clamp nr48 (by omega)] at hO hDO
                          have hdis : kdis S (setX (newA O p1 8 12) p1 (upd f (q 43 i) (vp_nar .char 100))) := hdis9
                          have hf2 := q_last_up1 (v := vp_nar .char 100) hf rfl (by rw [s1]; rfl)
                          obtain ⟨x120, ex120⟩ : ∃ y : Int32, y = xi + 1 := ⟨_, rfl⟩
                          refine lv_iinc (v := x120) (lv' := [(4, .int x120), (3, .int 1), (8, .int 1), (7, .int 117), (6, .int 100), (5, .int r48), (2, .ref p1), (0, .ref (z 0)), (1, .int on)]) hx hb dL_areScans_188 hl (k := 5) rfl (by rw [ex120]; rfl) (by decide) rfl (fun ls hl => ?_)
                          have tx120 : x120.toInt = xi.toInt + 1 := kt_add ex120 (rfl : xi.toInt = xi.toInt) (by decide) (by omega) (by omega)
                          refine lv_goto (tgt := 10) hx hb dL_areScans_191 (by decide) ?_
                          exact ih (i + 1) x120 _ _ _ H locs ls hP hO hDO hS (lv_sub hl [0, 1, 6, 7, 8] rfl) (by omega) (by omega) (by omega) (by omega) (by omega) hf2
                        · exact absurd (by decide) c118
                  · exact absurd c115 (by decide)
                · exact absurd c114 (by decide)
            · exact absurd c112 (by decide)
          · exact absurd c111 (by decide)
        · obtain rfl : r49 = 100 := kt_lit (A := 100) (by omega) (by decide)
          refine lv_i2c (v := 100) hx hb dL_areScans_33 (by decide) ?_
          refine lv_istore (lv' := [(6, .int 100), (5, .int r48), (4, .int xi), (3, .int 1), (2, .ref p1), (0, .ref (z 0)), (1, .int on)]) hx hb dL_areScans_34 hl (by decide) rfl (fun ls hl => ?_)
          refine lv_aload_n hx hb dL_areScans_36 rfl (lv_at hl 4 rfl) ?_
          refine lv_iload hx hb dL_areScans_37 (lv_at hl 1 rfl) ?_
          refine rd_C F hK hO onew.1 (by rw [onew.2]; exact kt_in nr48 (by omega) (by decide)) dL_areScans_39 ?_
          refine lv_topi (fun x122 ex122 => ?_)
          have nx122 : x122.toInt = ((q_last q (q 43 i) i : Nat) : Int) := kt_nI (by rw [ex122, kt_clamp nr48 (by omega)]; exact (show pX (setX (newA O p1 8 12) p1 f) p1 (q 43 i) = nI (q_last q (q 43 i) i) by rw [kxs_at]; exact hf (q 43 i) (by omega))) (by omega)
          obtain rfl : x122 = 112 := kt_lit (A := 112) (by omega) (by decide)
          refine lv_istore (lv' := [(7, .int 112), (6, .int 100), (5, .int r48), (4, .int xi), (3, .int 1), (2, .ref p1), (0, .ref (z 0)), (1, .int on)]) hx hb dL_areScans_40 hl (by decide) rfl (fun ls hl => ?_)
          refine lv_iload hx hb dL_areScans_42 (lv_at hl 1 rfl) ?_
          refine lv_bipush (v := 110) hx hb dL_areScans_44 (by decide) ?_
          refine lv_icmp_ne (tgt := 62) hx hb dL_areScans_46 (by decide) (fun c123 => ?_) (fun c123 => ?_)
          · refine lv_iload hx hb dL_areScans_62 (lv_at hl 1 rfl) ?_
            refine lv_bipush (v := 112) hx hb dL_areScans_64 (by decide) ?_
            refine lv_icmp_ne (tgt := 91) hx hb dL_areScans_66 (by decide) (fun c124 => ?_) (fun c124 => ?_)
            · refine lv_iload hx hb dL_areScans_91 (lv_at hl 1 rfl) ?_
              refine lv_bipush (v := 117) hx hb dL_areScans_93 (by decide) ?_
              refine lv_icmp_eq (tgt := 105) hx hb dL_areScans_95 (by decide) (fun c125 => ?_) (fun c125 => ?_)
              · exact absurd c125 (by decide)
              · refine lv_iload hx hb dL_areScans_98 (lv_at hl 1 rfl) ?_
                refine lv_bipush (v := 107) hx hb dL_areScans_100 (by decide) ?_
                refine lv_icmp_ne (tgt := 120) hx hb dL_areScans_102 (by decide) (fun c126 => ?_) (fun c126 => ?_)
                · refine lv_iload hx hb dL_areScans_120 (lv_at hl 1 rfl) ?_
                  refine lv_bipush (v := 115) hx hb dL_areScans_122 (by decide) ?_
                  refine lv_icmp_ne (tgt := 142) hx hb dL_areScans_124 (by decide) (fun c127 => ?_) (fun c127 => ?_)
                  · refine lv_iload hx hb dL_areScans_142 (lv_at hl 1 rfl) ?_
                    refine lv_bipush (v := 100) hx hb dL_areScans_144 (by decide) ?_
                    refine lv_icmp_ne (tgt := 174) hx hb dL_areScans_146 (by decide) (fun c128 => ?_) (fun c128 => ?_)
                    · exact absurd c128 (by decide)
                    · refine lv_iload hx hb dL_areScans_149 (lv_at hl 0 rfl) ?_
                      refine lv_bipush (v := 110) hx hb dL_areScans_151 (by decide) ?_
                      refine lv_icmp_eq (tgt := 170) hx hb dL_areScans_153 (by decide) (fun c129 => ?_) (fun c129 => ?_)
                      · exact absurd c129 (by decide)
                      · refine lv_iload hx hb dL_areScans_156 (lv_at hl 0 rfl) ?_
                        refine lv_bipush (v := 117) hx hb dL_areScans_158 (by decide) ?_
                        refine lv_icmp_eq (tgt := 170) hx hb dL_areScans_160 (by decide) (fun c130 => ?_) (fun c130 => ?_)
                        · exact absurd c130 (by decide)
                        · refine lv_iload hx hb dL_areScans_163 (lv_at hl 0 rfl) ?_
                          refine lv_bipush (v := 112) hx hb dL_areScans_165 (by decide) ?_
                          refine lv_icmp_ne (tgt := 174) hx hb dL_areScans_167 (by decide) (fun c131 => ?_) (fun c131 => ?_)
                          · exact absurd c131 (by decide)
                          · refine lv_iconst (v := 1) hx hb dL_areScans_170 (by decide) ?_
                            refine lv_goto (tgt := 175) hx hb dL_areScans_171 (by decide) ?_
                            refine lv_istore (lv' := [(8, .int 1), (7, .int 112), (6, .int 100), (5, .int r48), (4, .int xi), (3, .int 1), (2, .ref p1), (0, .ref (z 0)), (1, .int on)]) hx hb dL_areScans_175 hl (by decide) rfl (fun ls hl => ?_)
                            refine lv_iload_n hx hb dL_areScans_177 rfl (lv_at hl 5 rfl) ?_
                            refine lv_iload hx hb dL_areScans_178 (lv_at hl 0 rfl) ?_
                            refine lv_iand hx hb dL_areScans_180 ?_
                            refine lv_topi (fun x132 e132 => ?_)
                            obtain rfl : x132 = 1 := e132.trans (by decide)
                            refine lv_istore_n (lv' := [(3, .int 1), (8, .int 1), (7, .int 112), (6, .int 100), (5, .int r48), (4, .int xi), (2, .ref p1), (0, .ref (z 0)), (1, .int on)]) hx hb dL_areScans_181 rfl hl (by decide) rfl (fun ls hl => ?_)
                            refine lv_aload_n hx hb dL_areScans_182 rfl (lv_at hl 6 rfl) ?_
                            refine lv_iload hx hb dL_areScans_183 (lv_at hl 4 rfl) ?_
                            refine lv_iload hx hb dL_areScans_185 (lv_at hl 3 rfl) ?_
                            refine rt2_C F hK hP hO hD hDO hdis hS onew.1 (by rw [onew.2]; exact kt_in nr48 (by omega) (by decide)) dL_areScans_187 (fun H locs hP hO hDO hS => ?_)
                            rw [kx_set, kt_clamp nr48 (by omega)] at hO hDO
                            have hdis : kdis S (setX (newA O p1 8 12) p1 (upd f (q 43 i) (vp_nar .char 100))) := hdis9
                            have hf2 := q_last_up1 (v := vp_nar .char 100) hf rfl (by rw [s1]; rfl)
                            obtain ⟨x133, ex133⟩ : ∃ y : Int32, y = xi + 1 := ⟨_, rfl⟩
                            refine lv_iinc (v := x133) (lv' := [(4, .int x133), (3, .int 1), (8, .int 1), (7, .int 112), (6, .int 100), (5, .int r48), (2, .ref p1), (0, .ref (z 0)), (1, .int on)]) hx hb dL_areScans_188 hl (k := 5) rfl (by rw [ex133]; rfl) (by decide) rfl (fun ls hl => ?_)
                            have tx133 : x133.toInt = xi.toInt + 1 := kt_add ex133 (rfl : xi.toInt = xi.toInt) (by decide) (by omega) (by omega)
                            refine lv_goto (tgt := 10) hx hb dL_areScans_191 (by decide) ?_
                            exact ih (i + 1) x133 _ _ _ H locs ls hP hO hDO hS (lv_sub hl [0, 1, 6, 7, 8] rfl) (by omega) (by omega) (by omega) (by omega) (by omega) hf2
                  · exact absurd c127 (by decide)
                · exact absurd c126 (by decide)
            · exact absurd c124 (by decide)
          · exact absurd c123 (by decide)
  exact loop 505 0 0 (fun _ => 0) _ _ _ _ _ hP hO hDO hS (lv_sub hl [0, 1, 2, 3, 4] rfl) (by omega) (by decide) (Nat.zero_le _) (by omega) (by omega) (fun _ _ => rfl)
