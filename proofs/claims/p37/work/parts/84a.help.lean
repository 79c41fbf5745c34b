theorem dL_sum_0 : decode cL_sum 0 = .ok (.aload_n 0, 1) := by decide +kernel
theorem dL_sum_1 : decode cL_sum 1 = .ok (.invokevirtual 180, 3) := by decide +kernel
theorem dL_sum_4 : decode cL_sum 4 = .ok (.i2l, 1) := by decide +kernel
theorem dL_sum_5 : decode cL_sum 5 = .ok (.ldc2_w 197, 3) := by decide +kernel
theorem dL_sum_8 : decode cL_sum 8 = .ok (.aload_n 0, 1) := by decide +kernel
theorem dL_sum_9 : decode cL_sum 9 = .ok (.invokevirtual 199, 3) := by decide +kernel
theorem dL_sum_12 : decode cL_sum 12 = .ok (.i2l, 1) := by decide +kernel
theorem dL_sum_13 : decode cL_sum 13 = .ok (.lmul, 1) := by decide +kernel
theorem dL_sum_14 : decode cL_sum 14 = .ok (.ladd, 1) := by decide +kernel
theorem dL_sum_15 : decode cL_sum 15 = .ok (.ldc2_w 202, 3) := by decide +kernel
theorem dL_sum_18 : decode cL_sum 18 = .ok (.aload_n 0, 1) := by decide +kernel
theorem dL_sum_19 : decode cL_sum 19 = .ok (.invokevirtual 160, 3) := by decide +kernel
theorem dL_sum_22 : decode cL_sum 22 = .ok (.i2l, 1) := by decide +kernel
theorem dL_sum_23 : decode cL_sum 23 = .ok (.lmul, 1) := by decide +kernel
theorem dL_sum_24 : decode cL_sum 24 = .ok (.ladd, 1) := by decide +kernel
theorem dL_sum_25 : decode cL_sum 25 = .ok (.ldc2_w 204, 3) := by decide +kernel
theorem dL_sum_28 : decode cL_sum 28 = .ok (.aload_n 0, 1) := by decide +kernel
theorem dL_sum_29 : decode cL_sum 29 = .ok (.invokevirtual 206, 3) := by decide +kernel
theorem dL_sum_32 : decode cL_sum 32 = .ok (.i2l, 1) := by decide +kernel
theorem dL_sum_33 : decode cL_sum 33 = .ok (.lmul, 1) := by decide +kernel
theorem dL_sum_34 : decode cL_sum 34 = .ok (.ladd, 1) := by decide +kernel
theorem dL_sum_35 : decode cL_sum 35 = .ok (.ldc2_w 209, 3) := by decide +kernel
theorem dL_sum_38 : decode cL_sum 38 = .ok (.aload_n 0, 1) := by decide +kernel
theorem dL_sum_39 : decode cL_sum 39 = .ok (.invokevirtual 154, 3) := by decide +kernel
theorem dL_sum_42 : decode cL_sum 42 = .ok (.lmul, 1) := by decide +kernel
theorem dL_sum_43 : decode cL_sum 43 = .ok (.ladd, 1) := by decide +kernel
theorem dL_sum_44 : decode cL_sum 44 = .ok (.lstore_n 1, 1) := by decide +kernel
theorem dL_sum_45 : decode cL_sum 45 = .ok (.iconst 0, 1) := by decide +kernel
theorem dL_sum_46 : decode cL_sum 46 = .ok (.istore_n 3, 1) := by decide +kernel
theorem dL_sum_47 : decode cL_sum 47 = .ok (.iload_n 3, 1) := by decide +kernel
theorem dL_sum_48 : decode cL_sum 48 = .ok (.iconst 3, 1) := by decide +kernel
theorem dL_sum_49 : decode cL_sum 49 = .ok (.if_icmp .ge 44, 3) := by decide +kernel
theorem dL_sum_52 : decode cL_sum 52 = .ok (.ldc2_w 197, 3) := by decide +kernel
theorem dL_sum_55 : decode cL_sum 55 = .ok (.lload_n 1, 1) := by decide +kernel
theorem dL_sum_56 : decode cL_sum 56 = .ok (.lmul, 1) := by decide +kernel
theorem dL_sum_57 : decode cL_sum 57 = .ok (.aload_n 0, 1) := by decide +kernel
theorem dL_sum_58 : decode cL_sum 58 = .ok (.iload_n 3, 1) := by decide +kernel
theorem dL_sum_59 : decode cL_sum 59 = .ok (.invokestatic 146, 3) := by decide +kernel
theorem dL_sum_62 : decode cL_sum 62 = .ok (.i2l, 1) := by decide +kernel
theorem dL_sum_63 : decode cL_sum 63 = .ok (.ladd, 1) := by decide +kernel
theorem dL_sum_64 : decode cL_sum 64 = .ok (.ldc2_w 204, 3) := by decide +kernel
theorem dL_sum_67 : decode cL_sum 67 = .ok (.aload_n 0, 1) := by decide +kernel
theorem dL_sum_68 : decode cL_sum 68 = .ok (.iload_n 3, 1) := by decide +kernel
theorem dL_sum_69 : decode cL_sum 69 = .ok (.invokestatic 170, 3) := by decide +kernel
theorem dL_sum_72 : decode cL_sum 72 = .ok (.i2l, 1) := by decide +kernel
theorem dL_sum_73 : decode cL_sum 73 = .ok (.lmul, 1) := by decide +kernel
theorem dL_sum_74 : decode cL_sum 74 = .ok (.ladd, 1) := by decide +kernel
theorem dL_sum_75 : decode cL_sum 75 = .ok (.ldc2_w 211, 3) := by decide +kernel
theorem dL_sum_78 : decode cL_sum 78 = .ok (.aload_n 0, 1) := by decide +kernel
theorem dL_sum_79 : decode cL_sum 79 = .ok (.iload_n 3, 1) := by decide +kernel
theorem dL_sum_80 : decode cL_sum 80 = .ok (.invokestatic 152, 3) := by decide +kernel
theorem dL_sum_83 : decode cL_sum 83 = .ok (.i2l, 1) := by decide +kernel
theorem dL_sum_84 : decode cL_sum 84 = .ok (.lmul, 1) := by decide +kernel
theorem dL_sum_85 : decode cL_sum 85 = .ok (.ladd, 1) := by decide +kernel
theorem dL_sum_86 : decode cL_sum 86 = .ok (.lstore_n 1, 1) := by decide +kernel
theorem dL_sum_87 : decode cL_sum 87 = .ok (.iinc 3 1, 3) := by decide +kernel
theorem dL_sum_90 : decode cL_sum 90 = .ok (.goto (-43), 3) := by decide +kernel
theorem dL_sum_93 : decode cL_sum 93 = .ok (.iconst 0, 1) := by decide +kernel
theorem dL_sum_94 : decode cL_sum 94 = .ok (.istore_n 3, 1) := by decide +kernel
theorem dL_sum_95 : decode cL_sum 95 = .ok (.iload_n 3, 1) := by decide +kernel
theorem dL_sum_96 : decode cL_sum 96 = .ok (.iconst 2, 1) := by decide +kernel
theorem dL_sum_97 : decode cL_sum 97 = .ok (.if_icmp .ge 33, 3) := by decide +kernel
theorem dL_sum_100 : decode cL_sum 100 = .ok (.ldc2_w 197, 3) := by decide +kernel
theorem dL_sum_103 : decode cL_sum 103 = .ok (.lload_n 1, 1) := by decide +kernel
theorem dL_sum_104 : decode cL_sum 104 = .ok (.lmul, 1) := by decide +kernel
theorem dL_sum_105 : decode cL_sum 105 = .ok (.aload_n 0, 1) := by decide +kernel
theorem dL_sum_106 : decode cL_sum 106 = .ok (.iload_n 3, 1) := by decide +kernel
theorem dL_sum_107 : decode cL_sum 107 = .ok (.invokestatic 174, 3) := by decide +kernel
theorem dL_sum_110 : decode cL_sum 110 = .ok (.i2l, 1) := by decide +kernel
theorem dL_sum_111 : decode cL_sum 111 = .ok (.ladd, 1) := by decide +kernel
theorem dL_sum_112 : decode cL_sum 112 = .ok (.ldc2_w 204, 3) := by decide +kernel
theorem dL_sum_115 : decode cL_sum 115 = .ok (.aload_n 0, 1) := by decide +kernel
theorem dL_sum_116 : decode cL_sum 116 = .ok (.iload_n 3, 1) := by decide +kernel
theorem dL_sum_117 : decode cL_sum 117 = .ok (.invokestatic 176, 3) := by decide +kernel
theorem dL_sum_120 : decode cL_sum 120 = .ok (.i2l, 1) := by decide +kernel
theorem dL_sum_121 : decode cL_sum 121 = .ok (.lmul, 1) := by decide +kernel
theorem dL_sum_122 : decode cL_sum 122 = .ok (.ladd, 1) := by decide +kernel
theorem dL_sum_123 : decode cL_sum 123 = .ok (.lstore_n 1, 1) := by decide +kernel
theorem dL_sum_124 : decode cL_sum 124 = .ok (.iinc 3 1, 3) := by decide +kernel
theorem dL_sum_127 : decode cL_sum 127 = .ok (.goto (-32), 3) := by decide +kernel
theorem dL_sum_130 : decode cL_sum 130 = .ok (.iconst 0, 1) := by decide +kernel
theorem dL_sum_131 : decode cL_sum 131 = .ok (.istore_n 3, 1) := by decide +kernel
theorem dL_sum_132 : decode cL_sum 132 = .ok (.iload_n 3, 1) := by decide +kernel
theorem dL_sum_133 : decode cL_sum 133 = .ok (.aload_n 0, 1) := by decide +kernel
theorem dL_sum_134 : decode cL_sum 134 = .ok (.invokevirtual 213, 3) := by decide +kernel
theorem dL_sum_137 : decode cL_sum 137 = .ok (.if_icmp .ge 40, 3) := by decide +kernel
theorem dL_sum_140 : decode cL_sum 140 = .ok (.ldc2_w 197, 3) := by decide +kernel
theorem dL_sum_143 : decode cL_sum 143 = .ok (.lload_n 1, 1) := by decide +kernel
theorem dL_sum_144 : decode cL_sum 144 = .ok (.lmul, 1) := by decide +kernel
theorem dL_sum_145 : decode cL_sum 145 = .ok (.aload_n 0, 1) := by decide +kernel
theorem dL_sum_146 : decode cL_sum 146 = .ok (.iload_n 3, 1) := by decide +kernel
theorem dL_sum_147 : decode cL_sum 147 = .ok (.invokestatic 129, 3) := by decide +kernel
theorem dL_sum_150 : decode cL_sum 150 = .ok (.i2l, 1) := by decide +kernel
theorem dL_sum_151 : decode cL_sum 151 = .ok (.ladd, 1) := by decide +kernel
theorem dL_sum_152 : decode cL_sum 152 = .ok (.ldc2_w 204, 3) := by decide +kernel
theorem dL_sum_155 : decode cL_sum 155 = .ok (.aload_n 0, 1) := by decide +kernel
theorem dL_sum_156 : decode cL_sum 156 = .ok (.iload_n 3, 1) := by decide +kernel
theorem dL_sum_157 : decode cL_sum 157 = .ok (.invokestatic 132, 3) := by decide +kernel
theorem dL_sum_160 : decode cL_sum 160 = .ok (.i2l, 1) := by decide +kernel
theorem dL_sum_161 : decode cL_sum 161 = .ok (.lmul, 1) := by decide +kernel
theorem dL_sum_162 : decode cL_sum 162 = .ok (.ladd, 1) := by decide +kernel
theorem dL_sum_163 : decode cL_sum 163 = .ok (.aload_n 0, 1) := by decide +kernel
theorem dL_sum_164 : decode cL_sum 164 = .ok (.iload_n 3, 1) := by decide +kernel
theorem dL_sum_165 : decode cL_sum 165 = .ok (.invokestatic 134, 3) := by decide +kernel
theorem dL_sum_168 : decode cL_sum 168 = .ok (.i2l, 1) := by decide +kernel
theorem dL_sum_169 : decode cL_sum 169 = .ok (.ladd, 1) := by decide +kernel
theorem dL_sum_170 : decode cL_sum 170 = .ok (.lstore_n 1, 1) := by decide +kernel
theorem dL_sum_171 : decode cL_sum 171 = .ok (.iinc 3 1, 3) := by decide +kernel
theorem dL_sum_174 : decode cL_sum 174 = .ok (.goto (-42), 3) := by decide +kernel
theorem dL_sum_177 : decode cL_sum 177 = .ok (.lload_n 1, 1) := by decide +kernel
theorem dL_sum_178 : decode cL_sum 178 = .ok (.lreturn, 1) := by decide +kernel
set_option maxHeartbeats 4000000 in
set_option maxRecDepth 100000 in
theorem c_L_sum (l : Launch) (hl0 : l.stackTraces = false) (g : kG) (e0 : Nat) (z av lv : Nat → Nat) (S O : wPS) (sz : Nat) (q : qS) (hI : Inv z e0 S) (hR : Rq z av lv S q) (hW : q_W q) (hL : q_L q) (hU : q_U q ≤ 5000) : kMv l g e0 yL_sum cL_sum 4 (some .long) 9 147 65 390 [.ref (z 0)] S O sz (fun v => v = .long (q_sm q)) := by
  refine kMv.of (by decide) (Nat.le_of_ble_eq_true rfl) ?_
  intro p e s m below meth c ls B
  obtain ⟨F, hr, hlk, hP, hO, hK, hD, hDO, hdis, hE, hNc, hS, hA, hl, hsz⟩ := B
  subst hsz
  have hx := F.1
  have hb := F.2.1
  have hl : lv_has ls 4 [(0, .ref (z 0))] := hl
  have h721 : q 72 0 = 3 := hL.1
  have h72 : q 72 0 ≤ 12 := by omega
  have h73 : q 73 0 ≤ 12 := hW.1.1.2.1
  have hro : q 42 0 ≤ 504 := q_room hW.1.1 hW.1.2.2.2.1 hW.1.2.2.2.2.1
  have hroom : q 42 0 < 516 := by omega
  have h57 : q 57 0 ≤ 20 := hW.1.2.2.2.2.1.1
  have h56 : q 56 0 ≤ 1439 := hL.2.2.2.2.2.1
  have h25 : ∀ i, i < q 73 0 → q 25 i < 2 ^ 31 := fun i hi => by have := (hW.1.2.2.1 i hi).2.2.2; omega
  have w30 := hW.2.1 0 (by omega)
  have w31 := hW.2.1 1 (by omega)
  have w32 := hW.2.1 2 (by omega)
  have w20 := hW.1.2.1 0 (by omega)
  have w21 := hW.1.2.1 1 (by omega)
  have w22 := hW.1.2.1 2 (by omega)
  have u0 := q_U13 (q := q) (a := 0) (by decide)
  have u1 := q_U13 (q := q) (a := 1) (by decide)
  have u2 := q_U13 (q := q) (a := 2) (by decide)
  have b310 := q_31 (r := 0) hW (by decide)
  have b311 := q_31 (r := 1) hW (by decide)
  have m70 := hL.2.2.2.2.1 0 (by decide)
  have m71 := hL.2.2.2.2.1 1 (by decide)
  refine lv_aload_n hx hb dL_sum_0 rfl (lv_at hl 0 rfl) ?_
  refine kcallWI (kV (n := 0) (As := []) (rest := []) (b := z 0) (C := RX5) F hE hK hP hD hS hA (c_X5_minute l hl0 g e0 z S _ hI) (rr_Pickwave hK hP hI.ob0) kw_163 kw_164 kw_165 kw_2 kw_166 (by decide +kernel) ⟨Nat.le_of_ble_eq_true rfl, Nat.le_of_ble_eq_true rfl⟩ rfl hl.1 rfl (Nat.le_of_ble_eq_true rfl) dL_sum_1 ⟨(by show 0 + 0 ≤ 65; omega), (by show 0 + 0 ≤ 390; omega)⟩) rfl hD hS hA (fun _ _ _ _ _ h => False.elim h) (fun r1 T1 H locs hp hP hq1x hq2x hq3x hf1 hS => ?_)
  clear hq1x hq2x hq3x
  have hO := kO_keep hO hdis hf1
  obtain ⟨hT, er1⟩ := hp
  have hT := hT.symm
  subst hT
  have vr1 : r1 = nI (q 56 0) := er1.trans (hR.2.2.2.2.2.2.1.1 56 (by decide))
  have nr1 : r1.toInt = ((q 56 0 : Nat) : Int) := kt_nI vr1 (by omega)
  refine lv_i2l (v := r1.toInt64) hx hb dL_sum_4 rfl ?_
  refine lv_ldc2 hx hb F.2.2.2.1 (F.2.2.2.2 _ kw_158) dL_sum_5 ?_
  refine lv_aload_n hx hb dL_sum_8 rfl (lv_at hl 0 rfl) ?_
  refine kcallWI (kV (n := 0) (As := []) (rest := [.long (31 : Int64), .long r1.toInt64]) (b := z 0) (C := RX5) F hE hK hP hD hS hA (c_X5_scans l hl0 g e0 z S _ hI) (rr_Pickwave hK hP hI.ob0) kw_168 kw_169 kw_170 kw_2 kw_171 (by decide +kernel) ⟨Nat.le_of_ble_eq_true rfl, Nat.le_of_ble_eq_true rfl⟩ rfl hl.1 rfl (Nat.le_of_ble_eq_true rfl) dL_sum_9 ⟨(by show 0 + 0 + 0 ≤ 65; omega), (by show 0 + 0 + 0 ≤ 390; omega)⟩) rfl hD hS hA (fun _ _ _ _ _ h => False.elim h) (fun r2 T1 H locs hp hP hq1x hq2x hq3x hf1 hS => ?_)
  clear hq1x hq2x hq3x
  have hO := kO_keep hO hdis hf1
  obtain ⟨hT, er2⟩ := hp
  have hT := hT.symm
  subst hT
  have vr2 : r2 = nI (q 42 0) := er2.trans hR.2.2.2.2.2.2.2.1.1
  have nr2 : r2.toInt = ((q 42 0 : Nat) : Int) := kt_nI vr2 (by omega)
  refine lv_i2l (v := r2.toInt64) hx hb dL_sum_12 rfl ?_
  refine lv_lmul hx hb dL_sum_13 ?_
  refine lv_topl (fun x3 ex3 => ?_)
  refine lv_ladd hx hb dL_sum_14 ?_
  refine lv_topl (fun x4 ex4 => ?_)
  refine lv_ldc2 hx hb F.2.2.2.1 (F.2.2.2.2 _ kw_159) dL_sum_15 ?_
  refine lv_aload_n hx hb dL_sum_18 rfl (lv_at hl 0 rfl) ?_
  refine kcallWI (kV (n := 0) (As := []) (rest := [.long (101 : Int64), .long x4]) (b := z 0) (C := RX5) F hE hK hP hD hS hA (c_X5_waves l hl0 g e0 z S _ hI) (rr_Pickwave hK hP hI.ob0) kw_173 kw_174 kw_175 kw_2 kw_176 (by decide +kernel) ⟨Nat.le_of_ble_eq_true rfl, Nat.le_of_ble_eq_true rfl⟩ rfl hl.1 rfl (Nat.le_of_ble_eq_true rfl) dL_sum_19 ⟨(by show 0 + 0 + 0 + 0 ≤ 65; omega), (by show 0 + 0 + 0 + 0 ≤ 390; omega)⟩) rfl hD hS hA (fun _ _ _ _ _ h => False.elim h) (fun r5 T1 H locs hp hP hq1x hq2x hq3x hf1 hS => ?_)
  clear hq1x hq2x hq3x
  have hO := kO_keep hO hdis hf1
  obtain ⟨hT, er5⟩ := hp
  have hT := hT.symm
  subst hT
  have vr5 : r5 = nI (q 57 0) := er5.trans (hR.2.2.2.2.2.2.1.1 57 (by decide))
  have nr5 : r5.toInt = ((q 57 0 : Nat) : Int) := kt_nI vr5 (by omega)
  refine lv_i2l (v := r5.toInt64) hx hb dL_sum_22 rfl ?_
  refine lv_lmul hx hb dL_sum_23 ?_
  refine lv_topl (fun x6 ex6 => ?_)
  refine lv_ladd hx hb dL_sum_24 ?_
  refine lv_topl (fun x7 ex7 => ?_)
  refine lv_ldc2 hx hb F.2.2.2.1 (F.2.2.2.2 _ kw_160) dL_sum_25 ?_
  refine lv_aload_n hx hb dL_sum_28 rfl (lv_at hl 0 rfl) ?_
  refine kcallWI (kV (n := 0) (As := []) (rest := [.long (7 : Int64), .long x7]) (b := z 0) (C := RX5) F hE hK hP hD hS hA (c_X5_writtenOff l hl0 g e0 z S _ hI) (rr_Pickwave hK hP hI.ob0) kw_178 kw_179 kw_180 kw_2 kw_181 (by decide +kernel) ⟨Nat.le_of_ble_eq_true rfl, Nat.le_of_ble_eq_true rfl⟩ rfl hl.1 rfl (Nat.le_of_ble_eq_true rfl) dL_sum_29 ⟨(by show 0 + 0 + 0 + 0 + 0 ≤ 65; omega), (by show 0 + 0 + 0 + 0 + 0 ≤ 390; omega)⟩) rfl hD hS hA (fun _ _ _ _ _ h => False.elim h) (fun r8 T1 H locs hp hP hq1x hq2x hq3x hf1 hS => ?_)
  clear hq1x hq2x hq3x
  have hO := kO_keep hO hdis hf1
  obtain ⟨hT, er8⟩ := hp
  have hT := hT.symm
  subst hT
  have vr8 : r8 = nI (q 58 0) := er8.trans (hR.2.2.2.2.2.2.1.1 58 (by decide))
  refine lv_i2l (v := r8.toInt64) hx hb dL_sum_32 rfl ?_
  refine lv_lmul hx hb dL_sum_33 ?_
  refine lv_topl (fun x9 ex9 => ?_)
  refine lv_ladd hx hb dL_sum_34 ?_
  refine lv_topl (fun x10 ex10 => ?_)
  refine lv_ldc2 hx hb F.2.2.2.1 (F.2.2.2.2 _ kw_161) dL_sum_35 ?_
  refine lv_aload_n hx hb dL_sum_38 rfl (lv_at hl 0 rfl) ?_
  refine kcallWL (kV (n := 0) (As := []) (rest := [.long (13 : Int64), .long x10]) (b := z 0) (C := RX5) F hE hK hP hD hS hA (c_X5_shipped l hl0 g e0 z S _ hI) (rr_Pickwave hK hP hI.ob0) kw_183 kw_184 kw_185 kw_2 kw_186 (by decide +kernel) ⟨Nat.le_of_ble_eq_true rfl, Nat.le_of_ble_eq_true rfl⟩ rfl hl.1 rfl (Nat.le_of_ble_eq_true rfl) dL_sum_39 ⟨(by show 0 + 0 + 0 + 0 + 0 + 0 ≤ 65; omega), (by show 0 + 0 + 0 + 0 + 0 + 0 ≤ 390; omega)⟩) rfl hD hS hA (fun _ _ _ _ _ h => False.elim h) (fun r11 T1 H locs hp hP hq1x hq2x hq3x hf1 hS => ?_)
  clear hq1x hq2x hq3x
  have hO := kO_keep hO hdis hf1
  obtain ⟨hT, er11⟩ := hp
  have hT := hT.symm
  subst hT
  have vr11 : r11 = lN (q 59 0) := er11.trans hR.2.2.2.2.2.2.1.2
  refine lv_lmul hx hb dL_sum_42 ?_
  refine lv_topl (fun x12 ex12 => ?_)
  refine lv_ladd hx hb dL_sum_43 ?_
  refine lv_topl (fun x13 ex13 => ?_)
  have s14 : x13 = q_sm0 q := by rw [ex13, ex12, ex10, ex9, ex7, ex6, ex4, ex3, vr1, vr2, vr5, vr8, vr11]; rfl
  clear er1 vr1 nr1 er2 vr2 nr2 ex3 ex4 er5 vr5 nr5 ex6 ex7 er8 vr8 ex9 ex10 er11 vr11 ex12 ex13
  refine lv_lstore_n (lv' := [(1, .long x13), (0, .ref (z 0))]) hx hb dL_sum_44 rfl hl (by decide) rfl (fun ls hl => ?_)
  refine lv_iconst (v := 0) hx hb dL_sum_45 (by decide) ?_
  refine lv_istore_n (lv' := [(3, .int 0), (1, .long x13), (0, .ref (z 0))]) hx hb dL_sum_46 rfl hl (by decide) rfl (fun ls hl => ?_)
  refine lv_iload_n hx hb dL_sum_47 rfl (lv_at hl 0 rfl) ?_
  refine lv_iconst (v := 3) hx hb dL_sum_48 (by decide) ?_
  refine lv_icmp_ge (tgt := 93) hx hb dL_sum_49 (by decide) (fun c15 => ?_) (fun c15 => ?_)
  · exact absurd c15 (by decide)
  · refine lv_ldc2 hx hb F.2.2.2.1 (F.2.2.2.2 _ kw_158) dL_sum_52 ?_
    refine lv_lload_n hx hb dL_sum_55 rfl (lv_at hl 1 rfl) ?_
    refine lv_lmul hx hb dL_sum_56 ?_
    refine lv_topl (fun x16 ex16 => ?_)
    refine lv_aload_n hx hb dL_sum_57 rfl (lv_at hl 2 rfl) ?_
    refine lv_iload_n hx hb dL_sum_58 rfl (lv_at hl 0 rfl) ?_
    refine kcallhI (kSthW (n := 2) (As := [.ref (z 0), .int 0]) (rest := [.long x16]) F hE hNc hK hP hD hS hA (kh_stock l g e0 S _ (z 0) 0 _ _ hI.ob0 (c_X5_stock_x l hl0 g e0 z S _ hI av lv q hR h72 0) (fun E h => h.1)) kw_188 kw_189 kw_61 kw_190 (by decide +kernel) ⟨Nat.le_of_ble_eq_true rfl, Nat.le_of_ble_eq_true rfl⟩ rfl hl.1 rfl (Nat.le_of_ble_eq_true rfl) dL_sum_59 ⟨(by show 0 + 0 + 0 + 0 + 0 + 0 + 1 ≤ 65; omega), (by show 0 + 0 + 0 + 0 + 0 + 0 + 6 ≤ 390; omega)⟩) rfl hD hS hA (fun r17 T1 H locs hp hP hq1x hq2x hq3x hf1 hS => ?_)
    clear hq1x hq2x hq3x
    have hO := kO_keep hO hdis hf1
    obtain ⟨hT, nr17⟩ := kp_A (i := 0) hp (by decide : (0 : Int32).toInt = ((0 : Nat) : Int)) (by omega) (by omega) (by omega)
    subst hT
    clear hp
    refine lv_i2l (v := r17.toInt64) hx hb dL_sum_62 rfl ?_
    refine lv_ladd hx hb dL_sum_63 ?_
    refine lv_topl (fun x18 ex18 => ?_)
    refine lv_ldc2 hx hb F.2.2.2.1 (F.2.2.2.2 _ kw_160) dL_sum_64 ?_
    refine lv_aload_n hx hb dL_sum_67 rfl (lv_at hl 2 rfl) ?_
    refine lv_iload_n hx hb dL_sum_68 rfl (lv_at hl 0 rfl) ?_
    refine kcallhI (kSthW (n := 2) (As := [.ref (z 0), .int 0]) (rest := [.long (7 : Int64), .long x18]) F hE hNc hK hP hD hS hA (kh_reserve l g e0 S _ (z 0) 0 _ _ hI.ob0 (c_X5_reserve_x l hl0 g e0 z S _ hI av lv q hR h72 0) (fun E h => h.1)) kw_220 kw_221 kw_61 kw_222 (by decide +kernel) ⟨Nat.le_of_ble_eq_true rfl, Nat.le_of_ble_eq_true rfl⟩ rfl hl.1 rfl (Nat.le_of_ble_eq_true rfl) dL_sum_69 ⟨(by show 0 + 0 + 0 + 0 + 0 + 0 + 1 + 1 ≤ 65; omega), (by show 0 + 0 + 0 + 0 + 0 + 0 + 6 + 6 ≤ 390; omega)⟩) rfl hD hS hA (fun r19 T1 H locs hp hP hq1x hq2x hq3x hf1 hS => ?_)
    clear hq1x hq2x hq3x
    have hO := kO_keep hO hdis hf1
    obtain ⟨hT, nr19⟩ := kp_A (i := 0) hp (by decide : (0 : Int32).toInt = ((0 : Nat) : Int)) (by omega) (by omega) (by omega)
    subst hT
    clear hp
    refine lv_i2l (v := r19.toInt64) hx hb dL_sum_72 rfl ?_
    refine lv_lmul hx hb dL_sum_73 ?_
    refine lv_topl (fun x20 ex20 => ?_)
    refine lv_ladd hx hb dL_sum_74 ?_
    refine lv_topl (fun x21 ex21 => ?_)
    refine lv_ldc2 hx hb F.2.2.2.1 (F.2.2.2.2 _ kw_162) dL_sum_75 ?_
    refine lv_aload_n hx hb dL_sum_78 rfl (lv_at hl 2 rfl) ?_
    refine lv_iload_n hx hb dL_sum_79 rfl (lv_at hl 0 rfl) ?_
    refine kcallhI (kSthW (n := 2) (As := [.ref (z 0), .int 0]) (rest := [.long (11 : Int64), .long x21]) F hE hNc hK hP hD hS hA (kh_promised l g e0 S _ (z 0) 0 _ _ hI.ob0 (c_X5_promised_x l hl0 g e0 z S _ hI av lv q hR h72 0) (fun E h => h.1)) kw_228 kw_229 kw_61 kw_230 (by decide +kernel) ⟨Nat.le_of_ble_eq_true rfl, Nat.le_of_ble_eq_true rfl⟩ rfl hl.1 rfl (Nat.le_of_ble_eq_true rfl) dL_sum_80 ⟨(by show 0 + 0 + 0 + 0 + 0 + 0 + 1 + 1 + 1 ≤ 65; omega), (by show 0 + 0 + 0 + 0 + 0 + 0 + 6 + 6 + 6 ≤ 390; omega)⟩) rfl hD hS hA (fun r22 T1 H locs hp hP hq1x hq2x hq3x hf1 hS => ?_)
    clear hq1x hq2x hq3x
    have hO := kO_keep hO hdis hf1
    obtain ⟨hT, nr22⟩ := kp_A (i := 0) hp (by decide : (0 : Int32).toInt = ((0 : Nat) : Int)) (by omega) (by omega) (by omega)
    subst hT
    clear hp
    refine lv_i2l (v := r22.toInt64) hx hb dL_sum_83 rfl ?_
    refine lv_lmul hx hb dL_sum_84 ?_
    refine lv_topl (fun x23 ex23 => ?_)
    refine lv_ladd hx hb dL_sum_85 ?_
    refine lv_topl (fun x24 ex24 => ?_)
    have s25 : x24 = q_smA q (q_sm0 q) 0 := by rw [ex24, ex23, ex21, ex20, ex18, ex16, kt_of nr17 (show q 12 0 < 2 ^ 31 by omega), kt_of nr19 (show q 13 0 < 2 ^ 31 by omega), kt_of nr22 (show q 14 0 < 2 ^ 31 by omega), s14]; rfl
    clear c15 ex16 nr17 ex18 nr19 ex20 ex21 nr22 ex23 ex24
    refine lv_lstore_n (lv' := [(1, .long x24), (3, .int 0), (0, .ref (z 0))]) hx hb dL_sum_86 rfl hl (by decide) rfl (fun ls hl => ?_)
    refine lv_iinc (v := 1) (lv' := [(3, .int 1), (1, .long x24), (0, .ref (z 0))]) hx hb dL_sum_87 hl (k := 1) rfl (by decide) (by decide) rfl (fun ls hl => ?_)
    refine lv_goto (tgt := 47) hx hb dL_sum_90 (by decide) ?_
    refine lv_iload_n hx hb dL_sum_47 rfl (lv_at hl 0 rfl) ?_
    refine lv_iconst (v := 3) hx hb dL_sum_48 (by decide) ?_
    refine lv_icmp_ge (tgt := 93) hx hb dL_sum_49 (by decide) (fun c26 => ?_) (fun c26 => ?_)
    · exact absurd c26 (by decide)
    · refine lv_ldc2 hx hb F.2.2.2.1 (F.2.2.2.2 _ kw_158) dL_sum_52 ?_
      refine lv_lload_n hx hb dL_sum_55 rfl (lv_at hl 1 rfl) ?_
      refine lv_lmul hx hb dL_sum_56 ?_
      refine lv_topl (fun x27 ex27 => ?_)
      refine lv_aload_n hx hb dL_sum_57 rfl (lv_at hl 2 rfl) ?_
      refine lv_iload_n hx hb dL_sum_58 rfl (lv_at hl 0 rfl) ?_
      refine kcallhI (kSthW (n := 2) (As := [.ref (z 0), .int 1]) (rest := [.long x27]) F hE hNc hK hP hD hS hA (kh_stock l g e0 S _ (z 0) 1 _ _ hI.ob0 (c_X5_stock_x l hl0 g e0 z S _ hI av lv q hR h72 1) (fun E h => h.1)) kw_188 kw_189 kw_61 kw_190 (by decide +kernel) ⟨Nat.le_of_ble_eq_true rfl, Nat.le_of_ble_eq_true rfl⟩ rfl hl.1 rfl (Nat.le_of_ble_eq_true rfl) dL_sum_59 ⟨(by show 0 + 0 + 0 + 0 + 0 + 0 + 1 + 1 + 1 + 1 ≤ 65; omega), (by show 0 + 0 + 0 + 0 + 0 + 0 + 6 + 6 + 6 + 6 ≤ 390; omega)⟩) rfl hD hS hA (fun r28 T1 H locs hp hP hq1x hq2x hq3x hf1 hS => ?_)
      clear hq1x hq2x hq3x
      have hO := kO_keep hO hdis hf1
      obtain ⟨hT, nr28⟩ := kp_A (i := 1) hp (by decide : (1 : Int32).toInt = ((1 : Nat) : Int)) (by omega) (by omega) (by omega)
      subst hT
      clear hp
      refine lv_i2l (v := r28.toInt64) hx hb dL_sum_62 rfl ?_
      refine lv_ladd hx hb dL_sum_63 ?_
      refine lv_topl (fun x29 ex29 => ?_)
      refine lv_ldc2 hx hb F.2.2.2.1 (F.2.2.2.2 _ kw_160) dL_sum_64 ?_
      refine lv_aload_n hx hb dL_sum_67 rfl (lv_at hl 2 rfl) ?_
      refine lv_iload_n hx hb dL_sum_68 rfl (lv_at hl 0 rfl) ?_
      refine kcallhI (kSthW (n := 2) (As := [.ref (z 0), .int 1]) (rest := [.long (7 : Int64), .long x29]) F hE hNc hK hP hD hS hA (kh_reserve l g e0 S _ (z 0) 1 _ _ hI.ob0 (c_X5_reserve_x l hl0 g e0 z S _ hI av lv q hR h72 1) (fun E h => h.1)) kw_220 kw_221 kw_61 kw_222 (by decide +kernel) ⟨Nat.le_of_ble_eq_true rfl, Nat.le_of_ble_eq_true rfl⟩ rfl hl.1 rfl (Nat.le_of_ble_eq_true rfl) dL_sum_69 ⟨(by show 0 + 0 + 0 + 0 + 0 + 0 + 1 + 1 + 1 + 1 + 1 ≤ 65; omega), (by show 0 + 0 + 0 + 0 + 0 + 0 + 6 + 6 + 6 + 6 + 6 ≤ 390; omega)⟩) rfl hD hS hA (fun r30 T1 H locs hp hP hq1x hq2x hq3x hf1 hS => ?_)
      clear hq1x hq2x hq3x
      have hO := kO_keep hO hdis hf1
      obtain ⟨hT, nr30⟩ := kp_A (i := 1) hp (by decide : (1 : Int32).toInt = ((1 : Nat) : Int)) (by omega) (by omega) (by omega)
      subst hT
      clear hp
      refine lv_i2l (v := r30.toInt64) hx hb dL_sum_72 rfl ?_
      refine lv_lmul hx hb dL_sum_73 ?_
      refine lv_topl (fun x31 ex31 => ?_)
      refine lv_ladd hx hb dL_sum_74 ?_
      refine lv_topl (fun x32 ex32 => ?_)
      refine lv_ldc2 hx hb F.2.2.2.1 (F.2.2.2.2 _ kw_162) dL_sum_75 ?_
      refine lv_aload_n hx hb dL_sum_78 rfl (lv_at hl 2 rfl) ?_
      refine lv_iload_n hx hb dL_sum_79 rfl (lv_at hl 0 rfl) ?_
      refine kcallhI (kSthW (n := 2) (As := [.ref (z 0), .int 1]) (rest := [.long (11 : Int64), .long x32]) F hE hNc hK hP hD hS hA (kh_promised l g e0 S _ (z 0) 1 _ _ hI.ob0 (c_X5_promised_x l hl0 g e0 z S _ hI av lv q hR h72 1) (fun E h => h.1)) kw_228 kw_229 kw_61 kw_230 (by decide +kernel) ⟨Nat.le_of_ble_eq_true rfl, Nat.le_of_ble_eq_true rfl⟩ rfl hl.1 rfl (Nat.le_of_ble_eq_true rfl) dL_sum_80 ⟨(by show 0 + 0 + 0 + 0 + 0 + 0 + 1 + 1 + 1 + 1 + 1 + 1 ≤ 65; omega), (by show 0 + 0 + 0 + 0 + 0 + 0 + 6 + 6 + 6 + 6 + 6 + 6 ≤ 390; omega)⟩) rfl hD hS hA (fun r33 T1 H locs hp hP hq1x hq2x hq3x hf1 hS => ?_)
      clear hq1x hq2x hq3x
      have hO := kO_keep hO hdis hf1
      obtain ⟨hT, nr33⟩ := kp_A (i := 1) hp (by decide : (1 : Int32).toInt = ((1 : Nat) : Int)) (by omega) (by omega) (by omega)
      subst hT
      clear hp
      refine lv_i2l (v := r33.toInt64) hx hb dL_sum_83 rfl ?_
      refine lv_lmul hx hb dL_sum_84 ?_
      refine lv_topl (fun x34 ex34 => ?_)
      refine lv_ladd hx hb dL_sum_85 ?_
      refine lv_topl (fun x35 ex35 => ?_)
      have s36 : x35 = q_smA q (q_smA q (q_sm0 q) 0) 1 := by rw [ex35, ex34, ex32, ex31, ex29, ex27, kt_of nr28 (show q 12 1 < 2 ^ 31 by omega), kt_of nr30 (show q 13 1 < 2 ^ 31 by omega), kt_of nr33 (show q 14 1 < 2 ^ 31 by omega), s25]; rfl
      clear c26 ex27 nr28 ex29 nr30 ex31 ex32 nr33 ex34 ex35
      refine lv_lstore_n (lv' := [(1, .long x35), (3, .int 1), (0, .ref (z 0))]) hx hb dL_sum_86 rfl hl (by decide) rfl (fun ls hl => ?_)
      refine lv_iinc (v := 2) (lv' := [(3, .int 2), (1, .long x35), (0, .ref (z 0))]) hx hb dL_sum_87 hl (k := 1) rfl (by decide) (by decide) rfl (fun ls hl => ?_)
      refine lv_goto (tgt := 47) hx hb dL_sum_90 (by decide) ?_
      refine lv_iload_n hx hb dL_sum_47 rfl (lv_at hl 0 rfl) ?_
      refine lv_iconst (v := 3) hx hb dL_sum_48 (by decide) ?_
      refine lv_icmp_ge (tgt := 93) hx hb dL_sum_49 (by decide) (fun c37 => ?_) (fun c37 => ?_)
      · exact absurd c37 (by decide)
      · refine lv_ldc2 hx hb F.2.2.2.1 (F.2.2.2.2 _ kw_158) dL_sum_52 ?_
        refine lv_lload_n hx hb dL_sum_55 rfl (lv_at hl 1 rfl) ?_
        refine lv_lmul hx hb dL_sum_56 ?_
        refine lv_topl (fun x38 ex38 => ?_)
        refine lv_aload_n hx hb dL_sum_57 rfl (lv_at hl 2 rfl) ?_
        refine lv_iload_n hx hb dL_sum_58 rfl (lv_at hl 0 rfl) ?_
        refine kcallhI (kSthW (n := 2) (As := [.ref (z 0), .int 2]) (rest := [.long x38]) F hE hNc hK hP hD hS hA (kh_stock l g e0 S _ (z 0) 2 _ _ hI.ob0 (c_X5_stock_x l hl0 g e0 z S _ hI av lv q hR h72 2) (fun E h => h.1)) kw_188 kw_189 kw_61 kw_190 (by decide +kernel) ⟨Nat.le_of_ble_eq_true rfl, Nat.le_of_ble_eq_true rfl⟩ rfl hl.1 rfl (Nat.le_of_ble_eq_true rfl) dL_sum_59 ⟨(by show 0 + 0 + 0 + 0 + 0 + 0 + 1 + 1 + 1 + 1 + 1 + 1 + 1 ≤ 65; omega), (by show 0 + 0 + 0 + 0 + 0 + 0 + 6 + 6 + 6 + 6 + 6 + 6 + 6 ≤ 390; omega)⟩) rfl hD hS hA (fun r39 T1 H locs hp hP hq1x hq2x hq3x hf1 hS => ?_)
        clear hq1x hq2x hq3x
        have hO := kO_keep hO hdis hf1
        obtain ⟨hT, nr39⟩ := kp_A (i := 2) hp (by decide : (2 : Int32).toInt = ((2 : Nat) : Int)) (by omega) (by omega) (by omega)
        subst hT
        clear hp
        refine lv_i2l (v := r39.toInt64) hx hb dL_sum_62 rfl ?_
        refine lv_ladd hx hb dL_sum_63 ?_
        refine lv_topl (fun x40 ex40 => ?_)
        refine lv_ldc2 hx hb F.2.2.2.1 (F.2.2.2.2 _ kw_160) dL_sum_64 ?_
        refine lv_aload_n hx hb dL_sum_67 rfl (lv_at hl 2 rfl) ?_
        refine lv_iload_n hx hb dL_sum_68 rfl (lv_at hl 0 rfl) ?_
        refine kcallhI (kSthW (n := 2) (As := [.ref (z 0), .int 2]) (rest := [.long (7 : Int64), .long x40]) F hE hNc hK hP hD hS hA (kh_reserve l g e0 S _ (z 0) 2 _ _ hI.ob0 (c_X5_reserve_x l hl0 g e0 z S _ hI av lv q hR h72 2) (fun E h => h.1)) kw_220 kw_221 kw_61 kw_222 (by decide +kernel) ⟨Nat.le_of_ble_eq_true rfl, Nat.le_of_ble_eq_true rfl⟩ rfl hl.1 rfl (Nat.le_of_ble_eq_true rfl) dL_sum_69 ⟨(by show 0 + 0 + 0 + 0 + 0 + 0 + 1 + 1 + 1 + 1 + 1 + 1 + 1 + 1 ≤ 65; omega), (by show 0 + 0 + 0 + 0 + 0 + 0 + 6 + 6 + 6 + 6 + 6 + 6 + 6 + 6 ≤ 390; omega)⟩) rfl hD hS hA (fun r41 T1 H locs hp hP hq1x hq2x hq3x hf1 hS => ?_)
        clear hq1x hq2x hq3x
        have hO := kO_keep hO hdis hf1
        obtain ⟨hT, nr41⟩ := kp_A (i := 2) hp (by decide : (2 : Int32).toInt = ((2 : Nat) : Int)) (by omega) (by omega) (by omega)
        subst hT
        clear hp
        refine lv_i2l (v := r41.toInt64) hx hb dL_sum_72 rfl ?_
        refine lv_lmul hx hb dL_sum_73 ?_
        refine lv_topl (fun x42 ex42 => ?_)
        refine lv_ladd hx hb dL_sum_74 ?_
        refine lv_topl (fun x43 ex43 => ?_)
        refine lv_ldc2 hx hb F.2.2.2.1 (F.2.2.2.2 _ kw_162) dL_sum_75 ?_
        refine lv_aload_n hx hb dL_sum_78 rfl (lv_at hl 2 rfl) ?_
        refine lv_iload_n hx hb dL_sum_79 rfl (lv_at hl 0 rfl) ?_
        refine kcallhI (kSthW (n := 2) (As := [.ref (z 0), .int 2]) (rest := [.long (11 : Int64), .long x43]) F hE hNc hK hP hD hS hA (kh_promised l g e0 S _ (z 0) 2 _ _ hI.ob0 (c_X5_promised_x l hl0 g e0 z S _ hI av lv q hR h72 2) (fun E h => h.1)) kw_228 kw_229 kw_61 kw_230 (by decide +kernel) ⟨Nat.le_of_ble_eq_true rfl, Nat.le_of_ble_eq_true rfl⟩ rfl hl.1 rfl (Nat.le_of_ble_eq_true rfl) dL_sum_80 ⟨(by show 0 + 0 + 0 + 0 + 0 + 0 + 1 + 1 + 1 + 1 + 1 + 1 + 1 + 1 + 1 ≤ 65; omega), (by show 0 + 0 + 0 + 0 + 0 + 0 + 6 + 6 + 6 + 6 + 6 + 6 + 6 + 6 + 6 ≤ 390; omega)⟩) rfl hD hS hA (fun r44 T1 H locs hp hP hq1x hq2x hq3x hf1 hS => ?_)
        clear hq1x hq2x hq3x
        have hO := kO_keep hO hdis hf1
        obtain ⟨hT, nr44⟩ := kp_A (i := 2) hp (by decide : (2 : Int32).toInt = ((2 : Nat) : Int)) (by omega) (by omega) (by omega)
        subst hT
        clear hp
        refine lv_i2l (v := r44.toInt64) hx hb dL_sum_83 rfl ?_
        refine lv_lmul hx hb dL_sum_84 ?_
        refine lv_topl (fun x45 ex45 => ?_)
        refine lv_ladd hx hb dL_sum_85 ?_
        refine lv_topl (fun x46 ex46 => ?_)
        have s47 : x46 = q_smA q (q_smA q (q_smA q (q_sm0 q) 0) 1) 2 := by rw [ex46, ex45, ex43, ex42, ex40, ex38, kt_of nr39 (show q 12 2 < 2 ^ 31 by omega), kt_of nr41 (show q 13 2 < 2 ^ 31 by omega), kt_of nr44 (show q 14 2 < 2 ^ 31 by omega), s36]; rfl
        clear c37 ex38 nr39 ex40 nr41 ex42 ex43 nr44 ex45 ex46
        refine lv_lstore_n (lv' := [(1, .long x46), (3, .int 2), (0, .ref (z 0))]) hx hb dL_sum_86 rfl hl (by decide) rfl (fun ls hl => ?_)
        refine lv_iinc (v := 3) (lv' := [(3, .int 3), (1, .long x46), (0, .ref (z 0))]) hx hb dL_sum_87 hl (k := 1) rfl (by decide) (by decide) rfl (fun ls hl => ?_)
        refine lv_goto (tgt := 47) hx hb dL_sum_90 (by decide) ?_
        refine lv_iload_n hx hb dL_sum_47 rfl (lv_at hl 0 rfl) ?_
        refine lv_iconst (v := 3) hx hb dL_sum_48 (by decide) ?_
        refine lv_icmp_ge (tgt := 93) hx hb dL_sum_49 (by decide) (fun c48 => ?_) (fun c48 => ?_)
        · refine lv_iconst (v := 0) hx hb dL_sum_93 (by decide) ?_
          refine lv_istore_n (lv' := [(3, .int 0), (1, .long x46), (0, .ref (z 0))]) hx hb dL_sum_94 rfl hl (by decide) rfl (fun ls hl => ?_)
          refine lv_iload_n hx hb dL_sum_95 rfl (lv_at hl 0 rfl) ?_
          refine lv_iconst (v := 2) hx hb dL_sum_96 (by decide) ?_
          refine lv_icmp_ge (tgt := 130) hx hb dL_sum_97 (by decide) (fun c49 => ?_) (fun c49 => ?_)
          · exact absurd c49 (by decide)
          · refine lv_ldc2 hx hb F.2.2.2.1 (F.2.2.2.2 _ kw_158) dL_sum_100 ?_
            refine lv_lload_n hx hb dL_sum_103 rfl (lv_at hl 1 rfl) ?_
            refine lv_lmul hx hb dL_sum_104 ?_
            refine lv_topl (fun x50 ex50 => ?_)
            refine lv_aload_n hx hb dL_sum_105 rfl (lv_at hl 2 rfl) ?_
            refine lv_iload_n hx hb dL_sum_106 rfl (lv_at hl 0 rfl) ?_
            refine kcallhI (kSthW (n := 2) (As := [.ref (z 0), .int 0]) (rest := [.long x50]) F hE hNc hK hP hD hS hA (kh_carried l g e0 S _ (z 0) 0 _ _ hI.ob0 (c_X5_carried l hl0 g e0 z S _ hI 0) (fun E h => h.1)) kw_236 kw_237 kw_61 kw_238 (by decide +kernel) ⟨Nat.le_of_ble_eq_true rfl, Nat.le_of_ble_eq_true rfl⟩ rfl hl.1 rfl (Nat.le_of_ble_eq_true rfl) dL_sum_107 ⟨(by show 0 + 0 + 0 + 0 + 0 + 0 + 1 + 1 + 1 + 1 + 1 + 1 + 1 + 1 + 1 + 1 ≤ 65; omega), (by show 0 + 0 + 0 + 0 + 0 + 0 + 6 + 6 + 6 + 6 + 6 + 6 + 6 + 6 + 6 + 6 ≤ 390; omega)⟩) rfl hD hS hA (fun r51 T1 H locs hp hP hq1x hq2x hq3x hf1 hS => ?_)
            clear hq1x hq2x hq3x
            have hO := kO_keep hO hdis hf1
            obtain ⟨hT, nr51⟩ := kp_R (i := 0) (f := fun j => q 31 j) hp (by decide : (0 : Int32).toInt = ((0 : Nat) : Int)) (by omega) (fun j hj => (hR.2.2.2.2.2.1 j hj).2 31 (by decide)) (show q 31 0 < 2 ^ 31 by omega)
            subst hT
            clear hp
            refine lv_i2l (v := r51.toInt64) hx hb dL_sum_110 rfl ?_
            refine lv_ladd hx hb dL_sum_111 ?_
            refine lv_topl (fun x52 ex52 => ?_)
            refine lv_ldc2 hx hb F.2.2.2.1 (F.2.2.2.2 _ kw_160) dL_sum_112 ?_
            refine lv_aload_n hx hb dL_sum_115 rfl (lv_at hl 2 rfl) ?_
            refine lv_iload_n hx hb dL_sum_116 rfl (lv_at hl 0 rfl) ?_
            refine kcallhI (kSthW (n := 2) (As := [.ref (z 0), .int 0]) (rest := [.long (7 : Int64), .long x52]) F hE hNc hK hP hD hS hA (kh_minutesOf l g e0 S _ (z 0) 0 _ _ hI.ob0 (c_X5_minutesOf l hl0 g e0 z S _ hI 0) (fun E h => h.1)) kw_248 kw_249 kw_61 kw_250 (by decide +kernel) ⟨Nat.le_of_ble_eq_true rfl, Nat.le_of_ble_eq_true rfl⟩ rfl hl.1 rfl (Nat.le_of_ble_eq_true rfl) dL_sum_117 ⟨(by show 0 + 0 + 0 + 0 + 0 + 0 + 1 + 1 + 1 + 1 + 1 + 1 + 1 + 1 + 1 + 1 + 1 ≤ 65; omega), (by show 0 + 0 + 0 + 0 + 0 + 0 + 6 + 6 + 6 + 6 + 6 + 6 + 6 + 6 + 6 + 6 + 6 ≤ 390; omega)⟩) rfl hD hS hA (fun r53 T1 H locs hp hP hq1x hq2x hq3x hf1 hS => ?_)
            clear hq1x hq2x hq3x
            have hO := kO_keep hO hdis hf1
            obtain ⟨hT, nr53⟩ := kp_R (i := 0) (f := fun j => q 32 j) hp (by decide : (0 : Int32).toInt = ((0 : Nat) : Int)) (by omega) (fun j hj => (hR.2.2.2.2.2.1 j hj).2 32 (by decide)) (show q 32 0 < 2 ^ 31 by omega)
            subst hT
            clear hp
            refine lv_i2l (v := r53.toInt64) hx hb dL_sum_120 rfl ?_
            refine lv_lmul hx hb dL_sum_121 ?_
            refine lv_topl (fun x54 ex54 => ?_)
            refine lv_ladd hx hb dL_sum_122 ?_
            refine lv_topl (fun x55 ex55 => ?_)
            have s56 : x55 = q_smR q (q_smA q (q_smA q (q_smA q (q_sm0 q) 0) 1) 2) 0 := by rw [ex55, ex54, ex52, ex50, kt_of nr51 (show q 31 0 < 2 ^ 31 by omega), kt_of nr53 (show q 32 0 < 2 ^ 31 by omega), s47]; rfl
            clear c48 c49 ex50 nr51 ex52 nr53 ex54 ex55
            refine lv_lstore_n (lv' := [(1, .long x55), (3, .int 0), (0, .ref (z 0))]) hx hb dL_sum_123 rfl hl (by decide) rfl (fun ls hl => ?_)
            refine lv_iinc (v := 1) (lv' := [(3, .int 1), (1, .long x55), (0, .ref (z 0))]) hx hb dL_sum_124 hl (k := 1) rfl (by decide) (by decide) rfl (fun ls hl => ?_)
            refine lv_goto (tgt := 95) hx hb dL_sum_127 (by decide) ?_
            refine lv_iload_n hx hb dL_sum_95 rfl (lv_at hl 0 rfl) ?_
            refine lv_iconst (v := 2) hx hb dL_sum_96 (by decide) ?_
            refine lv_icmp_ge (tgt := 130) hx hb dL_sum_97 (by decide) (fun c57 => ?_) (fun c57 => ?_)
            · exact absurd c57 (by decide)
            · refine lv_ldc2 hx hb F.2.2.2.1 (F.2.2.2.2 _ kw_158) dL_sum_100 ?_
              refine lv_lload_n hx hb dL_sum_103 rfl (lv_at hl 1 rfl) ?_
              refine lv_lmul hx hb dL_sum_104 ?_
              refine lv_topl (fun x58 ex58 => ?_)
              refine lv_aload_n hx hb dL_sum_105 rfl (lv_at hl 2 rfl) ?_
              refine lv_iload_n hx hb dL_sum_106 rfl (lv_at hl 0 rfl) ?_
              refine kcallhI (kSthW (n := 2) (As := [.ref (z 0), .int 1]) (rest := [.long x58]) F hE hNc hK hP hD hS hA (kh_carried l g e0 S _ (z 0) 1 _ _ hI.ob0 (c_X5_carried l hl0 g e0 z S _ hI 1) (fun E h => h.1)) kw_236 kw_237 kw_61 kw_238 (by decide +kernel) ⟨Nat.le_of_ble_eq_true rfl, Nat.le_of_ble_eq_true rfl⟩ rfl hl.1 rfl (Nat.le_of_ble_eq_true rfl) dL_sum_107 ⟨(by show 0 + 0 + 0 + 0 + 0 + 0 + 1 + 1 + 1 + 1 + 1 + 1 + 1 + 1 + 1 + 1 + 1 + 1 ≤ 65; omega), (by show 0 + 0 + 0 + 0 + 0 + 0 + 6 + 6 + 6 + 6 + 6 + 6 + 6 + 6 + 6 + 6 + 6 + 6 ≤ 390; omega)⟩) rfl hD hS hA (fun r59 T1 H locs hp hP hq1x hq2x hq3x hf1 hS => ?_)
              clear hq1x hq2x hq3x
              have hO := kO_keep hO hdis hf1
              obtain ⟨hT, nr59⟩ := kp_R (i := 1) (f := fun j => q 31 j) hp (by decide : (1 : Int32).toInt = ((1 : Nat) : Int)) (by omega) (fun j hj => (hR.2.2.2.2.2.1 j hj).2 31 (by decide)) (show q 31 1 < 2 ^ 31 by omega)
              subst hT
              clear hp
              refine lv_i2l (v := r59.toInt64) hx hb dL_sum_110 rfl ?_
              refine lv_ladd hx hb dL_sum_111 ?_
              refine lv_topl (fun x60 ex60 => ?_)
              refine lv_ldc2 hx hb F.2.2.2.1 (F.2.2.2.2 _ kw_160) dL_sum_112 ?_
              refine lv_aload_n hx hb dL_sum_115 rfl (lv_at hl 2 rfl) ?_
              refine lv_iload_n hx hb dL_sum_116 rfl (lv_at hl 0 rfl) ?_
              refine kcallhI (kSthW (n := 2) (As := [.ref (z 0), .int 1]) (rest := [.long (7 : Int64), .long x60]) F hE hNc hK hP hD hS hA (kh_minutesOf l g e0 S _ (z 0) 1 _ _ hI.ob0 (c_X5_minutesOf l hl0 g e0 z S _ hI 1) (fun E h => h.1)) kw_248 kw_249 kw_61 kw_250 (by decide +kernel) ⟨Nat.le_of_ble_eq_true rfl, Nat.le_of_ble_eq_true rfl⟩ rfl hl.1 rfl (Nat.le_of_ble_eq_true rfl) dL_sum_117 ⟨(by show 0 + 0 + 0 + 0 + 0 + 0 + 1 + 1 + 1 + 1 + 1 + 1 + 1 + 1 + 1 + 1 + 1 + 1 + 1 ≤ 65; omega), (by show 0 + 0 + 0 + 0 + 0 + 0 + 6 + 6 + 6 + 6 + 6 + 6 + 6 + 6 + 6 + 6 + 6 + 6 + 6 ≤ 390; omega)⟩) rfl hD hS hA (fun r61 T1 H locs hp hP hq1x hq2x hq3x hf1 hS => ?_)
              clear hq1x hq2x hq3x
              have hO := kO_keep hO hdis hf1
              obtain ⟨hT, nr61⟩ := kp_R (i := 1) (f := fun j => q 32 j) hp (by decide : (1 : Int32).toInt = ((1 : Nat) : Int)) (by omega) (fun j hj => (hR.2.2.2.2.2.1 j hj).2 32 (by decide)) (show q 32 1 < 2 ^ 31 by omega)
              subst hT
              clear hp
              refine lv_i2l (v := r61.toInt64) hx hb dL_sum_120 rfl ?_
              refine lv_lmul hx hb dL_sum_121 ?_
              refine lv_topl (fun x62 ex62 => ?_)
              refine lv_ladd hx hb dL_sum_122 ?_
              refine lv_topl (fun x63 ex63 => ?_)
              have s64 : x63 = q_smR q (q_smR q (q_smA q (q_smA q (q_smA q (q_sm0 q) 0) 1) 2) 0) 1 := by rw [ex63, ex62, ex60, ex58, kt_of nr59 (show q 31 1 < 2 ^ 31 by omega), kt_of nr61 (show q 32 1 < 2 ^ 31 by omega), s56]; rfl
              clear c57 ex58 nr59 ex60 nr61 ex62 ex63
              refine lv_lstore_n (lv' := [(1, .long x63), (3, .int 1), (0, .ref (z 0))]) hx hb dL_sum_123 rfl hl (by decide) rfl (fun ls hl => ?_)
              refine lv_iinc (v := 2) (lv' := [(3, .int 2), (1, .long x63), (0, .ref (z 0))]) hx hb dL_sum_124 hl (k := 1) rfl (by decide) (by decide) rfl (fun ls hl => ?_)
              refine lv_goto (tgt := 95) hx hb dL_sum_127 (by decide) ?_
              refine lv_iload_n hx hb dL_sum_95 rfl (lv_at hl 0 rfl) ?_
              refine lv_iconst (v := 2) hx hb dL_sum_96 (by decide) ?_
              refine lv_icmp_ge (tgt := 130) hx hb dL_sum_97 (by decide) (fun c65 => ?_) (fun c65 => ?_)
              · obtain ⟨v0, hv0⟩ : ∃ v : Int64, v = q_smR q (q_smR q (q_smA q (q_smA q (q_smA q (q_sm0 q) 0) 1) 2) 0) 1 := ⟨_, rfl⟩
                refine lv_iconst (v := 0) hx hb dL_sum_130 (by decide) ?_
                refine lv_istore_n (lv' := [(3, .int 0), (1, .long x63), (0, .ref (z 0))]) hx hb dL_sum_131 rfl hl (by decide) rfl (fun ls hl => ?_)
                have loop : ∀ (fu i : Nat) (xi : Int32) (v : Int64) (kc ns : Nat) (H : Heap) (locs : List Loc) (ls : Array Slot), va_P (kD g) vwCl (kW g S) H → va_P (kD g) vwCl (kW g O) H → va_D (kA2 S O s.heap.size) (kW g O) → va_S (kA2 S O s.heap.size) s.heap H locs → lv_has ls 4 [(3, .int xi), (1, .long v), (0, .ref (z 0))] → q 73 0 - i < fu → xi.toInt = ((i : Nat) : Int) → i ≤ q 73 0 → kc ≤ 13 + 4 * i → ns ≤ 78 + 24 * i → (v = q_smL q v0 i) → W p l e ({ frames := 9, cells := 65, slots := 390, locals := 147 }) s m ([.ref (z 0)] : List Value).toArray below meth c H locs kc ns (vx_MQ below (kQv g S O s.heap.size (fun v => v = .long (q_sm q))) kXw ([.ref (z 0)] : List Value).toArray s 65 390 (kA2 S O s.heap.size)) (F0 m 132 ls []) := by
                  intro fu
                  induction fu with
                  | zero => intro i xi v kc ns H locs ls _ _ _ _ _ hfu; exact absurd hfu (Nat.not_lt_zero _)
                  | succ fu ih =>
                    intro i xi v kc ns H locs ls hP hO hDO hS hl hfu hi hin hkc hns hv
                    refine lv_iload_n hx hb dL_sum_132 rfl (lv_at hl 0 rfl) ?_
                    refine lv_aload_n hx hb dL_sum_133 rfl (lv_at hl 2 rfl) ?_
                    refine kcallWI (kV (n := 0) (As := []) (rest := [.int xi]) (b := z 0) (C := RX5) F hE hK hP hD hS hA (c_X5_orders l hl0 g e0 z S _ hI) (rr_Pickwave hK hP hI.ob0) kw_256 kw_257 kw_258 kw_2 kw_259 (by decide +kernel) ⟨Nat.le_of_ble_eq_true rfl, Nat.le_of_ble_eq_true rfl⟩ rfl hl.1 rfl (Nat.le_of_ble_eq_true rfl) dL_sum_134 ⟨(by show kc + 0 ≤ 65; omega), (by show ns + 0 ≤ 390; omega)⟩) rfl hD hS hA (fun _ _ _ _ _ h => False.elim h) (fun r66 T1 H locs hp hP hq1x hq2x hq3x hf1 hS => ?_)
                    clear hq1x hq2x hq3x
                    have hO := kO_keep hO hdis hf1
                    obtain ⟨hT, er66⟩ := hp
                    have hT := hT.symm
                    subst hT
                    have vr66 : r66 = nI (q 73 0) := er66.trans hR.2.2.2.1.2
                    have nr66 : r66.toInt = ((q 73 0 : Nat) : Int) := kt_nI vr66 (by omega)
                    refine lv_icmp_ge (tgt := 177) hx hb dL_sum_137 (by decide) (fun c67 => ?_) (fun c67 => ?_)
                    · have d67 : r66.toInt ≤ xi.toInt := (kc_le (rfl : r66.toInt = r66.toInt) (rfl : xi.toInt = xi.toInt)).mp c67
                      refine lv_lload_n hx hb dL_sum_177 rfl (lv_at hl 1 rfl) ?_
                      exact kEndvL F hr hlk hP hO hS (by omega) (by omega) dL_sum_178 (congrArg Value.long (show v = q_sm q by rw [hv, show i = q 73 0 by omega, hv0]; rfl))
                    · have d67 : ¬ (r66.toInt ≤ xi.toInt) := mt (kc_le (rfl : r66.toInt = r66.toInt) (rfl : xi.toInt = xi.toInt)).mpr c67
                      have him : i < q 73 0 := by omega
                      have h4a := hW.1.2.2.1 i him
                      refine lv_ldc2 hx hb F.2.2.2.1 (F.2.2.2.2 _ kw_158) dL_sum_140 ?_
                      refine lv_lload_n hx hb dL_sum_143 rfl (lv_at hl 1 rfl) ?_
                      refine lv_lmul hx hb dL_sum_144 ?_
                      refine lv_topl (fun x68 ex68 => ?_)
                      refine lv_aload_n hx hb dL_sum_145 rfl (lv_at hl 2 rfl) ?_
                      refine lv_iload_n hx hb dL_sum_146 rfl (lv_at hl 0 rfl) ?_
                      refine kcallhI (kSthW (n := 2) (As := [.ref (z 0), .int xi]) (rest := [.long x68]) F hE hNc hK hP hD hS hA (kh_state l g e0 S _ (z 0) xi _ _ hI.ob0 (c_X5_state_x l hl0 g e0 z S _ hI av lv q hR h73 xi) (fun E h => h.1)) kw_260 kw_261 kw_61 kw_262 (by decide +kernel) ⟨Nat.le_of_ble_eq_true rfl, Nat.le_of_ble_eq_true rfl⟩ rfl hl.1 rfl (Nat.le_of_ble_eq_true rfl) dL_sum_147 ⟨(by show kc + 0 + 1 ≤ 65; omega), (by show ns + 0 + 6 ≤ 390; omega)⟩) rfl hD hS hA (fun r69 T1 H locs hp hP hq1x hq2x hq3x hf1 hS => ?_)
                      clear hq1x hq2x hq3x
                      have hO := kO_keep hO hdis hf1
                      obtain ⟨hT, nr69⟩ := kp_Ac (i := i) hp hi (by omega) (by omega) (by omega)
                      subst hT
                      clear hp
                      refine lv_i2l (v := r69.toInt64) hx hb dL_sum_150 rfl ?_
                      refine lv_ladd hx hb dL_sum_151 ?_
                      refine lv_topl (fun x70 ex70 => ?_)
                      refine lv_ldc2 hx hb F.2.2.2.1 (F.2.2.2.2 _ kw_160) dL_sum_152 ?_
                      refine lv_aload_n hx hb dL_sum_155 rfl (lv_at hl 2 rfl) ?_
                      refine lv_iload_n hx hb dL_sum_156 rfl (lv_at hl 0 rfl) ?_
                      refine kcallhI (kSthW (n := 2) (As := [.ref (z 0), .int xi]) (rest := [.long (7 : Int64), .long x70]) F hE hNc hK hP hD hS hA (kh_amount l g e0 S _ (z 0) xi _ _ hI.ob0 (c_X5_amount_x l hl0 g e0 z S _ hI av lv q hR h73 xi) (fun E h => h.1)) kw_273 kw_274 kw_61 kw_275 (by decide +kernel) ⟨Nat.le_of_ble_eq_true rfl, Nat.le_of_ble_eq_true rfl⟩ rfl hl.1 rfl (Nat.le_of_ble_eq_true rfl) dL_sum_157 ⟨(by show kc + 0 + 1 + 1 ≤ 65; omega), (by show ns + 0 + 6 + 6 ≤ 390; omega)⟩) rfl hD hS hA (fun r71 T1 H locs hp hP hq1x hq2x hq3x hf1 hS => ?_)
                      clear hq1x hq2x hq3x
                      have hO := kO_keep hO hdis hf1
                      obtain ⟨hT, nr71⟩ := kp_A (i := i) hp hi (by omega) (by omega) (by omega)
                      subst hT
                      clear hp
                      refine lv_i2l (v := r71.toInt64) hx hb dL_sum_160 rfl ?_
                      refine lv_lmul hx hb dL_sum_161 ?_
                      refine lv_topl (fun x72 ex72 => ?_)
                      refine lv_ladd hx hb dL_sum_162 ?_
                      refine lv_topl (fun x73 ex73 => ?_)
                      refine lv_aload_n hx hb dL_sum_163 rfl (lv_at hl 2 rfl) ?_
                      refine lv_iload_n hx hb dL_sum_164 rfl (lv_at hl 0 rfl) ?_
                      refine kcallhI (kSthW (n := 2) (As := [.ref (z 0), .int xi]) (rest := [.long x73]) F hE hNc hK hP hD hS hA (kh_waveOf l g e0 S _ (z 0) xi _ _ hI.ob0 (c_X5_waveOf_x l hl0 g e0 z S _ hI av lv q hR h73 h25 xi) (fun E h => h.imp And.left And.left)) kw_281 kw_282 kw_61 kw_283 (by decide +kernel) ⟨Nat.le_of_ble_eq_true rfl, Nat.le_of_ble_eq_true rfl⟩ rfl hl.1 rfl (Nat.le_of_ble_eq_true rfl) dL_sum_165 ⟨(by show kc + 0 + 1 + 1 + 2 ≤ 65; omega), (by show ns + 0 + 6 + 6 + 12 ≤ 390; omega)⟩) rfl hD hS hA (fun r74 T1 H locs hp hP hq1x hq2x hq3x hf1 hS => ?_)
                      clear hq1x hq2x hq3x
                      have hO := kO_keep hO hdis hf1
                      obtain ⟨hT, vr74, ar74, br74⟩ := kp_W (i := i) hp hi (by omega) (by omega) (by omega)
                      subst hT
                      clear hp
                      refine lv_i2l (v := r74.toInt64) hx hb dL_sum_168 rfl ?_
                      refine lv_ladd hx hb dL_sum_169 ?_
                      refine lv_topl (fun x75 ex75 => ?_)
                      refine lv_lstore_n (lv' := [(1, .long x75), (3, .int xi), (0, .ref (z 0))]) hx hb dL_sum_170 rfl hl (by decide) rfl (fun ls hl => ?_)
                      obtain ⟨x76, ex76⟩ : ∃ y : Int32, y = xi + 1 := ⟨_, rfl⟩
                      refine lv_iinc (v := x76) (lv' := [(3, .int x76), (1, .long x75), (0, .ref (z 0))]) hx hb dL_sum_171 hl (k := 1) rfl (by rw [ex76]; rfl) (by decide) rfl (fun ls hl => ?_)
                      have tx76 : x76.toInt = xi.toInt + 1 := kt_add ex76 (rfl : xi.toInt = xi.toInt) (by decide) (by omega) (by omega)
                      refine lv_goto (tgt := 132) hx hb dL_sum_174 (by decide) ?_
                      exact ih (i + 1) x76 x75 _ _ H locs ls hP hO hDO hS (lv_sub hl [0, 1, 2] rfl) (by omega) (by omega) (by omega) (by omega) (by omega) (by rw [ex75, ex73, ex72, ex70, ex68, kt_of nr69 (show q 24 i < 2 ^ 31 by omega), kt_of nr71 (show q 23 i < 2 ^ 31 by omega), vr74, hv]; rfl)
                exact loop 13 0 0 x63 _ _ _ _ _ hP hO hDO hS (lv_sub hl [0, 1, 2] rfl) (by omega) (by decide) (Nat.zero_le _) (by omega) (by omega) (s64.trans hv0.symm)
              · exact absurd (by decide) c65
        · exact absurd (by decide) c48
