set_option maxHeartbeats 8000000 in
set_option maxRecDepth 100000 in
theorem kloop {p : Program} {s : State} {m : MethodId} {meth : Method} {c : Code} {b L : Nat} {xs : Nat → Int32} {l : Launch} (hl0 : l.stackTraces = false) {e : Env} {below : List Frame} (hL9 : L ≤ 260) (hr : meth.sig.returnType = ret) (hlocks : meth.locks = false) {g : kG} {e0 : Nat} {z : Nat → Nat} {ra rr rb ri : Nat} :
    ∀ (fu n : Nat) (S O : wPS) (av lv : Nat → Nat) (q : qS) (H : Heap) (locs : List Loc) (k0 n0 : Nat) (ls : Array Slot) (nx kx on un : Int32), 130 < fu + n → n ≤ 130 → kLw p s m c b L xs g e0 z av lv S O q ra rr rb ri H locs → q_U q ≤ 204 + 14 * n → nx.toInt = ((n : Nat) : Int) → kx.toInt = ((12 + 3 * n : Nat) : Int) → on.toInt = ((q 73 0 : Nat) : Int) → un.toInt = ((q_U q : Nat) : Int) → k0 ≤ 1000 + 5000 * n → n0 ≤ 5000 + 30000 * n → lv_has ls 23 [(10, .int nx), (9, .int kx), (8, .int 1), (7, .int on), (6, .int un), (5, .ref ri), (4, .ref rb), (3, .ref rr), (2, .ref ra), (1, .ref (z 0)), (0, .ref b)] → W p l e room_1 s m #[Value.ref b] below meth c H locs k0 n0 (lw_Z below #[Value.ref b] s) (F0 m 153 ls []) := by
  intro fu
  induction fu with
  | zero => intro n S O av lv q H locs k0 n0 ls nx kx on un h1 h2; omega
  | succ fu ih =>
    intro n S O av lv q H locs k0 n0 ls nx kx on un hfu hn C hU hnx hkx hon hun hk0 hn0 hl
    obtain ⟨⟨F, hK, hE, hNc, hX, hbl⟩, ⟨hP, hO⟩, ⟨hD, hDO⟩, hdis, hS, ⟨hI, hR, hW, hL⟩, hO9⟩ := id C
    have hx := F.1
    have hb := F.2.1
    have hbA : ¬ kAs s b := Nat.not_le.mpr hbl
    have hA : ∀ q : Nat, s.heap.size ≤ q → kAs s q := fun _ h => h
    have hU5 : q_U q ≤ 5000 := by omega
    have h721 : q 72 0 = 3 := hL.1
    have h72 : q 72 0 ≤ 12 := by omega
    have h73 : q 73 0 ≤ 12 := hW.1.1.2.1
    have hro : q 42 0 ≤ 504 := q_room hW.1.1 hW.1.2.2.2.1 hW.1.2.2.2.2.1
    have hroom : q 42 0 < 516 := by omega
    have h57 : q 57 0 ≤ 20 := hW.1.2.2.2.2.1.1
    have h56 : q 56 0 ≤ 1439 := hL.2.2.2.2.2.1
    have h25 : ∀ i, i < q 73 0 → q 25 i < 2 ^ 31 := fun i hi => by have := (hW.1.2.2.1 i hi).2.2.2; omega
    obtain ⟨⟨oa, la⟩, ⟨orr, lr⟩, ⟨obb, lb⟩, ⟨oi, li⟩, hne, hra, hrb, hri⟩ := id hO9
    refine lv_iload hx hb dL_law_153 (lv_at hl 0 rfl) ?_
    refine lv_sipush (v := 130) hx hb dL_law_155 (by decide) ?_
    refine lv_icmp_ge (tgt := 1295) hx hb dL_law_158 (by decide) (fun c1 => ?_) (fun c1 => ?_)
    · have d1 : (130) ≤ nx.toInt := (kc_le (by decide : (130 : Int32).toInt = 130) (rfl : nx.toInt = nx.toInt)).mp c1
      refine lv_iload hx hb dL_law_1295 (lv_at hl 2 rfl) ?_
      refine lv_if_eq (tgt := 1313) hx hb dL_law_1297 (by decide) (fun c2 => ?_) (fun c2 => ?_)
      · exact absurd c2 (by decide)
      · refine lv_aload_n hx hb dL_law_1300 rfl (lv_at hl 9 rfl) ?_
        refine lv_iload hx hb dL_law_1301 (lv_at hl 3 rfl) ?_
        refine kcallv (kStv (n := 2) (As := [.ref (z 0), .int on]) (rest := []) F hE hNc hK hP hO hD hDO hdis hS hA (c_L_areScans l hl0 g e0 z av lv S O _ q hI hR hW hL hU5 on hon) kw_522 kw_523 kw_61 kw_524 (by decide +kernel) ⟨Nat.le_of_ble_eq_true rfl, Nat.le_of_ble_eq_true rfl⟩ rfl hl.1 rfl (Nat.le_of_ble_eq_true rfl) dL_law_1303 ⟨(by show k0 + 1022 ≤ 1072639; omega), (by show n0 + 6138 ≤ 5883708; omega)⟩) rfl hD hDO hS hA (fun v9 H locs hp hP hO hS => ?_)
        subst hp
        refine lv_if_eq (tgt := 1313) hx hb dL_law_1306 (by decide) (fun c3 => ?_) (fun c3 => ?_)
        · exact absurd c3 (by decide)
        · refine lv_iconst (v := 1) hx hb dL_law_1309 (by decide) ?_
          refine lv_goto (tgt := 1314) hx hb dL_law_1310 (by decide) ?_
          refine va_forget (fun q hq => hS.2.2 q hq) ?_
          refine W.widen (by show k0 + 1022 ≤ 1072639; omega) (by show n0 + 6138 ≤ 5883708; omega) ?_
          refine W.base ?_
          exact lw_ret (Drawn.sameBut.refl s.drawn lw_cs) hx hb hr hlocks dL_law_1314
    · have d1 : ¬ ((130) ≤ nx.toInt) := mt (kc_le (by decide : (130 : Int32).toInt = 130) (rfl : nx.toInt = nx.toInt)).mpr c1
      refine lv_iload hx hb dL_law_161 (lv_at hl 2 rfl) ?_
      refine lv_if_eq (tgt := 1295) hx hb dL_law_163 (by decide) (fun c4 => ?_) (fun c4 => ?_)
      · exact absurd c4 (by decide)
      · refine lv_aload_n hx hb dL_law_166 rfl (lv_at hl 9 rfl) ?_
        refine kcallv (kStv (n := 1) (As := [.ref (z 0)]) (rest := []) F hE hNc hK hP hO hD hDO hdis hS hA (c_L_sum l hl0 g e0 z av lv S O _ q hI hR hW hL hU5) kw_155 kw_156 kw_61 kw_157 (by decide +kernel) ⟨Nat.le_of_ble_eq_true rfl, Nat.le_of_ble_eq_true rfl⟩ rfl hl.1 rfl (Nat.le_of_ble_eq_true rfl) dL_law_167 ⟨(by show k0 + 65 ≤ 1072639; omega), (by show n0 + 390 ≤ 5883708; omega)⟩) rfl hD hDO hS hA (fun v9 H locs hp hP hO hS => ?_)
        subst hp
        refine lv_lstore (lv' := [(11, .long (q_sm q)), (10, .int nx), (9, .int kx), (8, .int 1), (7, .int on), (6, .int un), (5, .ref ri), (4, .ref rb), (3, .ref rr), (2, .ref ra), (1, .ref (z 0)), (0, .ref b)]) hx hb dL_law_170 hl (by decide) rfl (fun ls hl => ?_)
        refine lv_aload_n hx hb dL_law_172 rfl (lv_at hl 11 rfl) ?_
        refine lv_iload hx hb dL_law_173 (lv_at hl 2 rfl) ?_
        refine lv_bipush (v := 28) hx hb dL_law_175 (by decide) ?_
        refine kcalls (kSts (n := 3) (As := [.ref b, .int kx, .int 28]) (rest := []) F hX hbl hbA hS (c_L_pick l hL9 kx hkx (by omega) (N := 28) (by decide) (by decide) rfl) kw_59 kw_60 kw_61 kw_62 (by decide +kernel) ⟨Nat.le_of_ble_eq_true rfl, Nat.le_of_ble_eq_true rfl⟩ rfl hl.1 rfl (Nat.le_of_ble_eq_true rfl) dL_law_177 ⟨(by show k0 + 65 ≤ 1072639; omega), (by show n0 + 390 ≤ 5883708; omega)⟩) rfl hS hA (fun r5 H locs hp hf1 hS => ?_)
        have hP := kP_same hP hf1
        have hO := kP_same hO hf1
        obtain ⟨j5, hj5, nr5⟩ := hp
        refine lv_istore (lv' := [(13, .int r5), (11, .long (q_sm q)), (10, .int nx), (9, .int kx), (8, .int 1), (7, .int on), (6, .int un), (5, .ref ri), (4, .ref rb), (3, .ref rr), (2, .ref ra), (1, .ref (z 0)), (0, .ref b)]) hx hb dL_law_180 hl (by decide) rfl (fun ls hl => ?_)
        refine lv_aload_n hx hb dL_law_182 rfl (lv_at hl 12 rfl) ?_
        refine lv_iload hx hb dL_law_183 (lv_at hl 3 rfl) ?_
        refine lv_iconst (v := 1) hx hb dL_law_185 (by decide) ?_
        refine lv_iadd hx hb dL_law_186 ?_
        refine lv_topi (fun x6 ex6 => ?_)
        have tx6 : x6.toInt = kx.toInt + (1) := kt_add ex6 (rfl : kx.toInt = kx.toInt) (by decide : (1 : Int32).toInt = 1) (by omega) (by omega)
        refine lv_bipush (v := 40) hx hb dL_law_187 (by decide) ?_
        refine kcalls (kSts (n := 3) (As := [.ref b, .int x6, .int 40]) (rest := []) F hX hbl hbA hS (c_L_pick l hL9 x6 (by omega : x6.toInt = (((12 + 3 * n) + 1 : Nat) : Int)) (by omega) (N := 40) (by decide) (by decide) rfl) kw_59 kw_60 kw_61 kw_62 (by decide +kernel) ⟨Nat.le_of_ble_eq_true rfl, Nat.le_of_ble_eq_true rfl⟩ rfl hl.1 rfl (Nat.le_of_ble_eq_true rfl) dL_law_189 ⟨(by show k0 + 65 ≤ 1072639; omega), (by show n0 + 390 ≤ 5883708; omega)⟩) rfl hS hA (fun r7 H locs hp hf1 hS => ?_)
        have hP := kP_same hP hf1
        have hO := kP_same hO hf1
        obtain ⟨j7, hj7, nr7⟩ := hp
        refine lv_if_ne (tgt := 199) hx hb dL_law_192 (by decide) (fun c8 => ?_) (fun c8 => ?_)
        · have d8 : r7.toInt ≠ (0) := mt (kc_eq (rfl : r7.toInt = r7.toInt) (by decide : (0 : Int32).toInt = 0)).mpr c8
          refine lv_aload_n hx hb dL_law_199 rfl (lv_at hl 12 rfl) ?_
          refine lv_iload hx hb dL_law_200 (lv_at hl 3 rfl) ?_
          refine lv_iconst (v := 1) hx hb dL_law_202 (by decide) ?_
          refine lv_iadd hx hb dL_law_203 ?_
          refine lv_topi (fun x9 ex9 => ?_)
          have tx9 : x9.toInt = kx.toInt + (1) := kt_add ex9 (rfl : kx.toInt = kx.toInt) (by decide : (1 : Int32).toInt = 1) (by omega) (by omega)
          refine lv_iconst (v := 3) hx hb dL_law_204 (by decide) ?_
          refine kcalls (kSts (n := 3) (As := [.ref b, .int x9, .int 3]) (rest := []) F hX hbl hbA hS (c_L_pick l hL9 x9 (by omega : x9.toInt = (((12 + 3 * n) + 1 : Nat) : Int)) (by omega) (N := 3) (by decide) (by decide) rfl) kw_59 kw_60 kw_61 kw_62 (by decide +kernel) ⟨Nat.le_of_ble_eq_true rfl, Nat.le_of_ble_eq_true rfl⟩ rfl hl.1 rfl (Nat.le_of_ble_eq_true rfl) dL_law_205 ⟨(by show k0 + 65 ≤ 1072639; omega), (by show n0 + 390 ≤ 5883708; omega)⟩) rfl hS hA (fun r10 H locs hp hf1 hS => ?_)
          have hP := kP_same hP hf1
          have hO := kP_same hO hf1
          obtain ⟨j10, hj10, nr10⟩ := hp
          refine lv_istore (lv' := [(14, .int r10), (13, .int r5), (11, .long (q_sm q)), (10, .int nx), (9, .int kx), (8, .int 1), (7, .int on), (6, .int un), (5, .ref ri), (4, .ref rb), (3, .ref rr), (2, .ref ra), (1, .ref (z 0)), (0, .ref b)]) hx hb dL_law_208 hl (by decide) rfl (fun ls hl => ?_)
          refine lv_aload_n hx hb dL_law_210 rfl (lv_at hl 13 rfl) ?_
          refine lv_iload hx hb dL_law_211 (lv_at hl 4 rfl) ?_
          refine lv_iconst (v := 2) hx hb dL_law_213 (by decide) ?_
          refine lv_iadd hx hb dL_law_214 ?_
          refine lv_topi (fun x11 ex11 => ?_)
          have tx11 : x11.toInt = kx.toInt + (2) := kt_add ex11 (rfl : kx.toInt = kx.toInt) (by decide : (2 : Int32).toInt = 2) (by omega) (by omega)
          refine lv_sipush (v := 1000) hx hb dL_law_215 (by decide) ?_
          refine kcalls (kSts (n := 3) (As := [.ref b, .int x11, .int 1000]) (rest := []) F hX hbl hbA hS (c_L_pick l hL9 x11 (by omega : x11.toInt = (((12 + 3 * n) + 2 : Nat) : Int)) (by omega) (N := 1000) (by decide) (by decide) rfl) kw_59 kw_60 kw_61 kw_62 (by decide +kernel) ⟨Nat.le_of_ble_eq_true rfl, Nat.le_of_ble_eq_true rfl⟩ rfl hl.1 rfl (Nat.le_of_ble_eq_true rfl) dL_law_218 ⟨(by show k0 + 65 ≤ 1072639; omega), (by show n0 + 390 ≤ 5883708; omega)⟩) rfl hS hA (fun r12 H locs hp hf1 hS => ?_)
          have hP := kP_same hP hf1
          have hO := kP_same hO hf1
          obtain ⟨j12, hj12, nr12⟩ := hp
          refine lv_istore (lv' := [(15, .int r12), (14, .int r10), (13, .int r5), (11, .long (q_sm q)), (10, .int nx), (9, .int kx), (8, .int 1), (7, .int on), (6, .int un), (5, .ref ri), (4, .ref rb), (3, .ref rr), (2, .ref ra), (1, .ref (z 0)), (0, .ref b)]) hx hb dL_law_221 hl (by decide) rfl (fun ls hl => ?_)
          refine lv_iload hx hb dL_law_223 (lv_at hl 7 rfl) ?_
          refine lv_if_eq (tgt := 236) hx hb dL_law_225 (by decide) (fun c13 => ?_) (fun c13 => ?_)
          · have d13 : on.toInt = (0) := (kc_eq (rfl : on.toInt = on.toInt) (by decide : (0 : Int32).toInt = 0)).mp c13
            refine lv_iload hx hb dL_law_236 (lv_at hl 7 rfl) ?_
            refine lv_goto (tgt := 246) hx hb dL_law_238 (by decide) ?_
            refine lv_istore (lv' := [(16, .int on), (15, .int r12), (14, .int r10), (13, .int r5), (11, .long (q_sm q)), (10, .int nx), (9, .int kx), (8, .int 1), (7, .int on), (6, .int un), (5, .ref ri), (4, .ref rb), (3, .ref rr), (2, .ref ra), (1, .ref (z 0)), (0, .ref b)]) hx hb dL_law_246 hl (by decide) rfl (fun ls hl => ?_)
            refine lv_iconst (v := 0) hx hb dL_law_248 (by decide) ?_
            refine lv_istore (lv' := [(17, .int 0), (16, .int on), (15, .int r12), (14, .int r10), (13, .int r5), (11, .long (q_sm q)), (10, .int nx), (9, .int kx), (8, .int 1), (7, .int on), (6, .int un), (5, .ref ri), (4, .ref rb), (3, .ref rr), (2, .ref ra), (1, .ref (z 0)), (0, .ref b)]) hx hb dL_law_249 hl (by decide) rfl (fun ls hl => ?_)
            refine lv_iconst (v := 0) hx hb dL_law_251 (by decide) ?_
            refine lv_istore (lv' := [(18, .int 0), (17, .int 0), (16, .int on), (15, .int r12), (14, .int r10), (13, .int r5), (11, .long (q_sm q)), (10, .int nx), (9, .int kx), (8, .int 1), (7, .int on), (6, .int un), (5, .ref ri), (4, .ref rb), (3, .ref rr), (2, .ref ra), (1, .ref (z 0)), (0, .ref b)]) hx hb dL_law_252 hl (by decide) rfl (fun ls hl => ?_)
            exact kdisp (a := j10) (m9 := j12) (o9 := (q 73 0)) hl0 hL9 ⟨⟨F, hK, hE, hNc, hX, hbl⟩, ⟨hP, hO⟩, ⟨hD, hDO⟩, hdis, hS, ⟨hI, hR, hW, hL⟩, hO9⟩ (by omega) (by omega) (by omega) (by omega) nr10 (by omega) nr12 (by omega) hon hon hun (lv_sub hl [0, 1, 2, 3, 4, 5, 6, 7, 8, 9, 10, 11, 12, 13, 14, 15, 16, 17] rfl) (fun S1 O1 av1 lv1 q1 H1 locs1 ls1 k1 n1 th on1 un1 C1 hU1 hth hon1 hun1 hk1 hn1 hl1 => kjoin (ki := 12 + 3 * n) (n := n) hl0 hL9 C1 (by omega) (by omega) (by omega) hth hon1 hun1 hkx (by omega) hnx (by omega) hl1 (fun H2 locs2 ls2 k2 n2 kx2 nx2 C2 hkx2 hnx2 hk2 hn2 hl2 => ih (n + 1) S1 O1 av1 lv1 q1 H2 locs2 k2 n2 ls2 nx2 kx2 on1 un1 (by omega) (by omega) C2 (by omega) hnx2 (by omega) hon1 hun1 (by omega) (by omega) hl2))
          · have d13 : on.toInt ≠ (0) := mt (kc_eq (rfl : on.toInt = on.toInt) (by decide : (0 : Int32).toInt = 0)).mpr c13
            refine lv_iload hx hb dL_law_228 (lv_at hl 0 rfl) ?_
            refine lv_bipush (v := 27) hx hb dL_law_230 (by decide) ?_
            refine lv_irem hx hb dL_law_232 (by decide) ?_
            refine lv_topi (fun x14 ex14 => ?_)
            have nx14 : x14.toInt = ((j12 % 27 : Nat) : Int) := kt_rem ex14 nr12 (by decide : (27 : Int32).toInt = ((27 : Nat) : Int)) (by omega) (by omega) (by omega)
            refine lv_if_ne (tgt := 241) hx hb dL_law_233 (by decide) (fun c15 => ?_) (fun c15 => ?_)
            · have d15 : x14.toInt ≠ (0) := mt (kc_eq (rfl : x14.toInt = x14.toInt) (by decide : (0 : Int32).toInt = 0)).mpr c15
              refine lv_iload hx hb dL_law_241 (lv_at hl 0 rfl) ?_
              refine lv_iload hx hb dL_law_243 (lv_at hl 7 rfl) ?_
              refine lv_irem hx hb dL_law_245 (fun h9 => by have h8 := (kc_eq (rfl : on.toInt = on.toInt) (by decide : (0 : Int32).toInt = 0)).mp h9; omega) ?_
              refine lv_topi (fun x16 ex16 => ?_)
              have nx16 : x16.toInt = ((j12 % (q 73 0) : Nat) : Int) := kt_rem ex16 nr12 hon (by omega) (by omega) (by omega)
              have mx16 : j12 % (q 73 0) < q 73 0 := Nat.mod_lt _ (by omega)
              generalize j12 % (q 73 0) = jx16 at nx16 mx16
              refine lv_istore (lv' := [(16, .int x16), (15, .int r12), (14, .int r10), (13, .int r5), (11, .long (q_sm q)), (10, .int nx), (9, .int kx), (8, .int 1), (7, .int on), (6, .int un), (5, .ref ri), (4, .ref rb), (3, .ref rr), (2, .ref ra), (1, .ref (z 0)), (0, .ref b)]) hx hb dL_law_246 hl (by decide) rfl (fun ls hl => ?_)
              refine lv_iconst (v := 0) hx hb dL_law_248 (by decide) ?_
              refine lv_istore (lv' := [(17, .int 0), (16, .int x16), (15, .int r12), (14, .int r10), (13, .int r5), (11, .long (q_sm q)), (10, .int nx), (9, .int kx), (8, .int 1), (7, .int on), (6, .int un), (5, .ref ri), (4, .ref rb), (3, .ref rr), (2, .ref ra), (1, .ref (z 0)), (0, .ref b)]) hx hb dL_law_249 hl (by decide) rfl (fun ls hl => ?_)
              refine lv_iconst (v := 0) hx hb dL_law_251 (by decide) ?_
              refine lv_istore (lv' := [(18, .int 0), (17, .int 0), (16, .int x16), (15, .int r12), (14, .int r10), (13, .int r5), (11, .long (q_sm q)), (10, .int nx), (9, .int kx), (8, .int 1), (7, .int on), (6, .int un), (5, .ref ri), (4, .ref rb), (3, .ref rr), (2, .ref ra), (1, .ref (z 0)), (0, .ref b)]) hx hb dL_law_252 hl (by decide) rfl (fun ls hl => ?_)
              exact kdisp (a := j10) (m9 := j12) (o9 := jx16) hl0 hL9 ⟨⟨F, hK, hE, hNc, hX, hbl⟩, ⟨hP, hO⟩, ⟨hD, hDO⟩, hdis, hS, ⟨hI, hR, hW, hL⟩, hO9⟩ (by omega) (by omega) (by omega) (by omega) nr10 (by omega) nr12 (by omega) nx16 hon hun (lv_sub hl [0, 1, 2, 3, 4, 5, 6, 7, 8, 9, 10, 11, 12, 13, 14, 15, 16, 17] rfl) (fun S1 O1 av1 lv1 q1 H1 locs1 ls1 k1 n1 th on1 un1 C1 hU1 hth hon1 hun1 hk1 hn1 hl1 => kjoin (ki := 12 + 3 * n) (n := n) hl0 hL9 C1 (by omega) (by omega) (by omega) hth hon1 hun1 hkx (by omega) hnx (by omega) hl1 (fun H2 locs2 ls2 k2 n2 kx2 nx2 C2 hkx2 hnx2 hk2 hn2 hl2 => ih (n + 1) S1 O1 av1 lv1 q1 H2 locs2 k2 n2 ls2 nx2 kx2 on1 un1 (by omega) (by omega) C2 (by omega) hnx2 (by omega) hon1 hun1 (by omega) (by omega) hl2))
            · have d15 : x14.toInt = (0) := (kc_eq (rfl : x14.toInt = x14.toInt) (by decide : (0 : Int32).toInt = 0)).mp c15
              refine lv_iload hx hb dL_law_236 (lv_at hl 7 rfl) ?_
              refine lv_goto (tgt := 246) hx hb dL_law_238 (by decide) ?_
              refine lv_istore (lv' := [(16, .int on), (15, .int r12), (14, .int r10), (13, .int r5), (11, .long (q_sm q)), (10, .int nx), (9, .int kx), (8, .int 1), (7, .int on), (6, .int un), (5, .ref ri), (4, .ref rb), (3, .ref rr), (2, .ref ra), (1, .ref (z 0)), (0, .ref b)]) hx hb dL_law_246 hl (by decide) rfl (fun ls hl => ?_)
              refine lv_iconst (v := 0) hx hb dL_law_248 (by decide) ?_
              refine lv_istore (lv' := [(17, .int 0), (16, .int on), (15, .int r12), (14, .int r10), (13, .int r5), (11, .long (q_sm q)), (10, .int nx), (9, .int kx), (8, .int 1), (7, .int on), (6, .int un), (5, .ref ri), (4, .ref rb), (3, .ref rr), (2, .ref ra), (1, .ref (z 0)), (0, .ref b)]) hx hb dL_law_249 hl (by decide) rfl (fun ls hl => ?_)
              refine lv_iconst (v := 0) hx hb dL_law_251 (by decide) ?_
              refine lv_istore (lv' := [(18, .int 0), (17, .int 0), (16, .int on), (15, .int r12), (14, .int r10), (13, .int r5), (11, .long (q_sm q)), (10, .int nx), (9, .int kx), (8, .int 1), (7, .int on), (6, .int un), (5, .ref ri), (4, .ref rb), (3, .ref rr), (2, .ref ra), (1, .ref (z 0)), (0, .ref b)]) hx hb dL_law_252 hl (by decide) rfl (fun ls hl => ?_)
              exact kdisp (a := j10) (m9 := j12) (o9 := (q 73 0)) hl0 hL9 ⟨⟨F, hK, hE, hNc, hX, hbl⟩, ⟨hP, hO⟩, ⟨hD, hDO⟩, hdis, hS, ⟨hI, hR, hW, hL⟩, hO9⟩ (by omega) (by omega) (by omega) (by omega) nr10 (by omega) nr12 (by omega) hon hon hun (lv_sub hl [0, 1, 2, 3, 4, 5, 6, 7, 8, 9, 10, 11, 12, 13, 14, 15, 16, 17] rfl) (fun S1 O1 av1 lv1 q1 H1 locs1 ls1 k1 n1 th on1 un1 C1 hU1 hth hon1 hun1 hk1 hn1 hl1 => kjoin (ki := 12 + 3 * n) (n := n) hl0 hL9 C1 (by omega) (by omega) (by omega) hth hon1 hun1 hkx (by omega) hnx (by omega) hl1 (fun H2 locs2 ls2 k2 n2 kx2 nx2 C2 hkx2 hnx2 hk2 hn2 hl2 => ih (n + 1) S1 O1 av1 lv1 q1 H2 locs2 k2 n2 ls2 nx2 kx2 on1 un1 (by omega) (by omega) C2 (by omega) hnx2 (by omega) hon1 hun1 (by omega) (by omega) hl2))
        · have d8 : r7.toInt = (0) := (kc_eq (rfl : r7.toInt = r7.toInt) (by decide : (0 : Int32).toInt = 0)).mp c8
          refine lv_iconst (v := 3) hx hb dL_law_195 (by decide) ?_
          refine lv_goto (tgt := 208) hx hb dL_law_196 (by decide) ?_
          refine lv_istore (lv' := [(14, .int 3), (13, .int r5), (11, .long (q_sm q)), (10, .int nx), (9, .int kx), (8, .int 1), (7, .int on), (6, .int un), (5, .ref ri), (4, .ref rb), (3, .ref rr), (2, .ref ra), (1, .ref (z 0)), (0, .ref b)]) hx hb dL_law_208 hl (by decide) rfl (fun ls hl => ?_)
          refine lv_aload_n hx hb dL_law_210 rfl (lv_at hl 13 rfl) ?_
          refine lv_iload hx hb dL_law_211 (lv_at hl 4 rfl) ?_
          refine lv_iconst (v := 2) hx hb dL_law_213 (by decide) ?_
          refine lv_iadd hx hb dL_law_214 ?_
          refine lv_topi (fun x17 ex17 => ?_)
          have tx17 : x17.toInt = kx.toInt + (2) := kt_add ex17 (rfl : kx.toInt = kx.toInt) (by decide : (2 : Int32).toInt = 2) (by omega) (by omega)
          refine lv_sipush (v := 1000) hx hb dL_law_215 (by decide) ?_
          refine kcalls (kSts (n := 3) (As := [.ref b, .int x17, .int 1000]) (rest := []) F hX hbl hbA hS (c_L_pick l hL9 x17 (by omega : x17.toInt = (((12 + 3 * n) + 2 : Nat) : Int)) (by omega) (N := 1000) (by decide) (by decide) rfl) kw_59 kw_60 kw_61 kw_62 (by decide +kernel) ⟨Nat.le_of_ble_eq_true rfl, Nat.le_of_ble_eq_true rfl⟩ rfl hl.1 rfl (Nat.le_of_ble_eq_true rfl) dL_law_218 ⟨(by show k0 + 65 ≤ 1072639; omega), (by show n0 + 390 ≤ 5883708; omega)⟩) rfl hS hA (fun r18 H locs hp hf1 hS => ?_)
          have hP := kP_same hP hf1
          have hO := kP_same hO hf1
          obtain ⟨j18, hj18, nr18⟩ := hp
          refine lv_istore (lv' := [(15, .int r18), (14, .int 3), (13, .int r5), (11, .long (q_sm q)), (10, .int nx), (9, .int kx), (8, .int 1), (7, .int on), (6, .int un), (5, .ref ri), (4, .ref rb), (3, .ref rr), (2, .ref ra), (1, .ref (z 0)), (0, .ref b)]) hx hb dL_law_221 hl (by decide) rfl (fun ls hl => ?_)
          refine lv_iload hx hb dL_law_223 (lv_at hl 7 rfl) ?_
          refine lv_if_eq (tgt := 236) hx hb dL_law_225 (by decide) (fun c19 => ?_) (fun c19 => ?_)
          · have d19 : on.toInt = (0) := (kc_eq (rfl : on.toInt = on.toInt) (by decide : (0 : Int32).toInt = 0)).mp c19
            refine lv_iload hx hb dL_law_236 (lv_at hl 7 rfl) ?_
            refine lv_goto (tgt := 246) hx hb dL_law_238 (by decide) ?_
            refine lv_istore (lv' := [(16, .int on), (15, .int r18), (14, .int 3), (13, .int r5), (11, .long (q_sm q)), (10, .int nx), (9, .int kx), (8, .int 1), (7, .int on), (6, .int un), (5, .ref ri), (4, .ref rb), (3, .ref rr), (2, .ref ra), (1, .ref (z 0)), (0, .ref b)]) hx hb dL_law_246 hl (by decide) rfl (fun ls hl => ?_)
            refine lv_iconst (v := 0) hx hb dL_law_248 (by decide) ?_
            refine lv_istore (lv' := [(17, .int 0), (16, .int on), (15, .int r18), (14, .int 3), (13, .int r5), (11, .long (q_sm q)), (10, .int nx), (9, .int kx), (8, .int 1), (7, .int on), (6, .int un), (5, .ref ri), (4, .ref rb), (3, .ref rr), (2, .ref ra), (1, .ref (z 0)), (0, .ref b)]) hx hb dL_law_249 hl (by decide) rfl (fun ls hl => ?_)
            refine lv_iconst (v := 0) hx hb dL_law_251 (by decide) ?_
            refine lv_istore (lv' := [(18, .int 0), (17, .int 0), (16, .int on), (15, .int r18), (14, .int 3), (13, .int r5), (11, .long (q_sm q)), (10, .int nx), (9, .int kx), (8, .int 1), (7, .int on), (6, .int un), (5, .ref ri), (4, .ref rb), (3, .ref rr), (2, .ref ra), (1, .ref (z 0)), (0, .ref b)]) hx hb dL_law_252 hl (by decide) rfl (fun ls hl => ?_)
            exact kdisp (a := 3) (m9 := j18) (o9 := (q 73 0)) hl0 hL9 ⟨⟨F, hK, hE, hNc, hX, hbl⟩, ⟨hP, hO⟩, ⟨hD, hDO⟩, hdis, hS, ⟨hI, hR, hW, hL⟩, hO9⟩ (by omega) (by omega) (by omega) (by omega) (by decide : (3 : Int32).toInt = ((3 : Nat) : Int)) (by omega) nr18 (by omega) hon hon hun (lv_sub hl [0, 1, 2, 3, 4, 5, 6, 7, 8, 9, 10, 11, 12, 13, 14, 15, 16, 17] rfl) (fun S1 O1 av1 lv1 q1 H1 locs1 ls1 k1 n1 th on1 un1 C1 hU1 hth hon1 hun1 hk1 hn1 hl1 => kjoin (ki := 12 + 3 * n) (n := n) hl0 hL9 C1 (by omega) (by omega) (by omega) hth hon1 hun1 hkx (by omega) hnx (by omega) hl1 (fun H2 locs2 ls2 k2 n2 kx2 nx2 C2 hkx2 hnx2 hk2 hn2 hl2 => ih (n + 1) S1 O1 av1 lv1 q1 H2 locs2 k2 n2 ls2 nx2 kx2 on1 un1 (by omega) (by omega) C2 (by omega) hnx2 (by omega) hon1 hun1 (by omega) (by omega) hl2))
          · have d19 : on.toInt ≠ (0) := mt (kc_eq (rfl : on.toInt = on.toInt) (by decide : (0 : Int32).toInt = 0)).mpr c19
            refine lv_iload hx hb dL_law_228 (lv_at hl 0 rfl) ?_
            refine lv_bipush (v := 27) hx hb dL_law_230 (by decide) ?_
            refine lv_irem hx hb dL_law_232 (by decide) ?_
            refine lv_topi (fun x20 ex20 => ?_)
            have nx20 : x20.toInt = ((j18 % 27 : Nat) : Int) := kt_rem ex20 nr18 (by decide : (27 : Int32).toInt = ((27 : Nat) : Int)) (by omega) (by omega) (by omega)
            refine lv_if_ne (tgt := 241) hx hb dL_law_233 (by decide) (fun c21 => ?_) (fun c21 => ?_)
            · have d21 : x20.toInt ≠ (0) := mt (kc_eq (rfl : x20.toInt = x20.toInt) (by decide : (0 : Int32).toInt = 0)).mpr c21
              refine lv_iload hx hb dL_law_241 (lv_at hl 0 rfl) ?_
              refine lv_iload hx hb dL_law_243 (lv_at hl 7 rfl) ?_
              refine lv_irem hx hb dL_law_245 (fun h9 => by have h8 := (kc_eq (rfl : on.toInt = on.toInt) (by decide : (0 : Int32).toInt = 0)).mp h9; omega) ?_
              refine lv_topi (fun x22 ex22 => ?_)
              have nx22 : x22.toInt = ((j18 % (q 73 0) : Nat) : Int) := kt_rem ex22 nr18 hon (by omega) (by omega) (by omega)
              have mx22 : j18 % (q 73 0) < q 73 0 := Nat.mod_lt _ (by omega)
              generalize j18 % (q 73 0) = jx22 at nx22 mx22
              refine lv_istore (lv' := [(16, .int x22), (15, .int r18), (14, .int 3), (13, .int r5), (11, .long (q_sm q)), (10, .int nx), (9, .int kx), (8, .int 1), (7, .int on), (6, .int un), (5, .ref ri), (4, .ref rb), (3, .ref rr), (2, .ref ra), (1, .ref (z 0)), (0, .ref b)]) hx hb dL_law_246 hl (by decide) rfl (fun ls hl => ?_)
              refine lv_iconst (v := 0) hx hb dL_law_248 (by decide) ?_
              refine lv_istore (lv' := [(17, .int 0), (16, .int x22), (15, .int r18), (14, .int 3), (13, .int r5), (11, .long (q_sm q)), (10, .int nx), (9, .int kx), (8, .int 1), (7, .int on), (6, .int un), (5, .ref ri), (4, .ref rb), (3, .ref rr), (2, .ref ra), (1, .ref (z 0)), (0, .ref b)]) hx hb dL_law_249 hl (by decide) rfl (fun ls hl => ?_)
              refine lv_iconst (v := 0) hx hb dL_law_251 (by decide) ?_
              refine lv_istore (lv' := [(18, .int 0), (17, .int 0), (16, .int x22), (15, .int r18), (14, .int 3), (13, .int r5), (11, .long (q_sm q)), (10, .int nx), (9, .int kx), (8, .int 1), (7, .int on), (6, .int un), (5, .ref ri), (4, .ref rb), (3, .ref rr), (2, .ref ra), (1, .ref (z 0)), (0, .ref b)]) hx hb dL_law_252 hl (by decide) rfl (fun ls hl => ?_)
              exact kdisp (a := 3) (m9 := j18) (o9 := jx22) hl0 hL9 ⟨⟨F, hK, hE, hNc, hX, hbl⟩, ⟨hP, hO⟩, ⟨hD, hDO⟩, hdis, hS, ⟨hI, hR, hW, hL⟩, hO9⟩ (by omega) (by omega) (by omega) (by omega) (by decide : (3 : Int32).toInt = ((3 : Nat) : Int)) (by omega) nr18 (by omega) nx22 hon hun (lv_sub hl [0, 1, 2, 3, 4, 5, 6, 7, 8, 9, 10, 11, 12, 13, 14, 15, 16, 17] rfl) (fun S1 O1 av1 lv1 q1 H1 locs1 ls1 k1 n1 th on1 un1 C1 hU1 hth hon1 hun1 hk1 hn1 hl1 => kjoin (ki := 12 + 3 * n) (n := n) hl0 hL9 C1 (by omega) (by omega) (by omega) hth hon1 hun1 hkx (by omega) hnx (by omega) hl1 (fun H2 locs2 ls2 k2 n2 kx2 nx2 C2 hkx2 hnx2 hk2 hn2 hl2 => ih (n + 1) S1 O1 av1 lv1 q1 H2 locs2 k2 n2 ls2 nx2 kx2 on1 un1 (by omega) (by omega) C2 (by omega) hnx2 (by omega) hon1 hun1 (by omega) (by omega) hl2))
            · have d21 : x20.toInt = (0) := (kc_eq (rfl : x20.toInt = x20.toInt) (by decide : (0 : Int32).toInt = 0)).mp c21
              refine lv_iload hx hb dL_law_236 (lv_at hl 7 rfl) ?_
              refine lv_goto (tgt := 246) hx hb dL_law_238 (by decide) ?_
              refine lv_istore (lv' := [(16, .int on), (15, .int r18), (14, .int 3), (13, .int r5), (11, .long (q_sm q)), (10, .int nx), (9, .int kx), (8, .int 1), (7, .int on), (6, .int un), (5, .ref ri), (4, .ref rb), (3, .ref rr), (2, .ref ra), (1, .ref (z 0)), (0, .ref b)]) hx hb dL_law_246 hl (by decide) rfl (fun ls hl => ?_)
              refine lv_iconst (v := 0) hx hb dL_law_248 (by decide) ?_
              refine lv_istore (lv' := [(17, .int 0), (16, .int on), (15, .int r18), (14, .int 3), (13, .int r5), (11, .long (q_sm q)), (10, .int nx), (9, .int kx), (8, .int 1), (7, .int on), (6, .int un), (5, .ref ri), (4, .ref rb), (3, .ref rr), (2, .ref ra), (1, .ref (z 0)), (0, .ref b)]) hx hb dL_law_249 hl (by decide) rfl (fun ls hl => ?_)
              refine lv_iconst (v := 0) hx hb dL_law_251 (by decide) ?_
              refine lv_istore (lv' := [(18, .int 0), (17, .int 0), (16, .int on), (15, .int r18), (14, .int 3), (13, .int r5), (11, .long (q_sm q)), (10, .int nx), (9, .int kx), (8, .int 1), (7, .int on), (6, .int un), (5, .ref ri), (4, .ref rb), (3, .ref rr), (2, .ref ra), (1, .ref (z 0)), (0, .ref b)]) hx hb dL_law_252 hl (by decide) rfl (fun ls hl => ?_)
              exact kdisp (a := 3) (m9 := j18) (o9 := (q 73 0)) hl0 hL9 ⟨⟨F, hK, hE, hNc, hX, hbl⟩, ⟨hP, hO⟩, ⟨hD, hDO⟩, hdis, hS, ⟨hI, hR, hW, hL⟩, hO9⟩ (by omega) (by omega) (by omega) (by omega) (by decide : (3 : Int32).toInt = ((3 : Nat) : Int)) (by omega) nr18 (by omega) hon hon hun (lv_sub hl [0, 1, 2, 3, 4, 5, 6, 7, 8, 9, 10, 11, 12, 13, 14, 15, 16, 17] rfl) (fun S1 O1 av1 lv1 q1 H1 locs1 ls1 k1 n1 th on1 un1 C1 hU1 hth hon1 hun1 hk1 hn1 hl1 => kjoin (ki := 12 + 3 * n) (n := n) hl0 hL9 C1 (by omega) (by omega) (by omega) hth hon1 hun1 hkx (by omega) hnx (by omega) hl1 (fun H2 locs2 ls2 k2 n2 kx2 nx2 C2 hkx2 hnx2 hk2 hn2 hl2 => ih (n + 1) S1 O1 av1 lv1 q1 H2 locs2 k2 n2 ls2 nx2 kx2 on1 un1 (by omega) (by omega) C2 (by omega) hnx2 (by omega) hon1 hun1 (by omega) (by omega) hl2))
