set_option maxHeartbeats 8000000 in
set_option maxRecDepth 100000 in
theorem kfirst {p : Program} {s : State} {m : MethodId} {meth : Method} {c : Code} {b L : Nat} {xs : Nat → Int32} {l : Launch} (hl0 : l.stackTraces = false) {e : Env} {below : List Frame} (hL9 : L ≤ 260) (hr : meth.sig.returnType = ret) (hlocks : meth.locks = false) {g : kG} {e0 : Nat} {z : Nat → Nat} {ra rr rb ri : Nat} :
    ∀ (fu n : Nat) (S O : wPS) (av lv : Nat → Nat) (q : qS) (H : Heap) (locs : List Loc) (k0 n0 : Nat) (ls : Array Slot) (nx kx un : Int32), 3 < fu + n → n ≤ 3 → (CallFix p m c cL_law 23 s #[.ref b] wsL_law RL ∧ va_K (kD g) vwCl (kT g) s ∧ kEn g e0 (kAs s) s s.heap ∧ kNc s ∧ va_X b L xs s s.heap ∧ b < s.heap.size) → va_P (kD g) vwCl (kW g S) H → va_P (kD g) vwCl (kW g O) H → va_D (kAs s) (kW g S) → va_D (kAs s) (kW g O) → kdis S O → va_S (kAs s) s.heap H locs → Inv z e0 S → Rq z av lv S q → q_W q → q 72 0 = n → q 73 0 = 0 → q_M q → (∀ a, n ≤ a → q 12 a = 0 ∧ q 13 a = 0) → q_P O ra rr rb ri q → q_U q ≤ 68 * n → nx.toInt = ((n : Nat) : Int) → kx.toInt = ((4 * n : Nat) : Int) → un.toInt = ((q_U q : Nat) : Int) → k0 ≤ 100 + 100 * n → n0 ≤ 2000 + 500 * n → lv_has ls 23 [(10, .int nx), (9, .int kx), (8, .int 1), (7, .int 0), (6, .int un), (5, .ref ri), (4, .ref rb), (3, .ref rr), (2, .ref ra), (1, .ref (z 0)), (0, .ref b)] → W p l e room_1 s m #[Value.ref b] below meth c H locs k0 n0 (lw_Z below #[Value.ref b] s) (F0 m 42 ls []) := by
  intro fu
  induction fu with
  | zero => intro n S O av lv q H locs k0 n0 ls nx kx un h1 h2; omega
  | succ fu ih =>
    intro n S O av lv q H locs k0 n0 ls nx kx un hfu hn hC hP hO hD hDO hdis hS hI hR hW h72 h73 hL hz hO9 hU hnx hkx hun hk0 hn0 hl
    obtain ⟨F, hK, hE, hNc, hX, hbl⟩ := hC
    have hx := F.1
    have hb := F.2.1
    have hbA : ¬ kAs s b := Nat.not_le.mpr hbl
    have hA : ∀ q : Nat, s.heap.size ≤ q → kAs s q := fun _ h => h
    obtain ⟨⟨oa, la⟩, ⟨orr, lr⟩, ⟨obb, lb⟩, ⟨oi, li⟩, hne, hra, hrb⟩ := hO9
    refine lv_iload hx hb dL_law_42 (lv_at hl 0 rfl) ?_
    refine lv_iconst (v := 3) hx hb dL_law_44 (by decide) ?_
    refine lv_icmp_ge (tgt := 150) hx hb dL_law_45 (by decide) (fun c1 => ?_) (fun c1 => ?_)
    · have d1 : (3) ≤ nx.toInt := (kc_le (by decide : (3 : Int32).toInt = 3) (rfl : nx.toInt = nx.toInt)).mp c1
      have hn3 : n = 3 := by omega
      subst hn3
      refine lv_iconst (v := 0) hx hb dL_law_150 (by decide) ?_
      refine lv_istore (lv' := [(10, .int 0), (9, .int kx), (8, .int 1), (7, .int 0), (6, .int un), (5, .ref ri), (4, .ref rb), (3, .ref rr), (2, .ref ra), (1, .ref (z 0)), (0, .ref b)]) hx hb dL_law_151 hl (by decide) rfl (fun ls hl => ?_)
      exact kloop hl0 hL9 hr hlocks 131 0 S O av lv q _ _ _ _ ls 0 kx 0 un (by decide) (by decide) ⟨⟨F, hK, hE, hNc, hX, hbl⟩, ⟨hP, hO⟩, ⟨hD, hDO⟩, hdis, hS, ⟨hI, hR, hW, ⟨h72, hL⟩⟩, ⟨⟨oa, la⟩, ⟨orr, lr⟩, ⟨obb, lb⟩, ⟨oi, li⟩, hne, fun a ha => hra a (by omega), hrb, fun n9 h9 => absurd h9 (by omega)⟩⟩ (by omega) (by decide) (by omega) (by rw [h73]; decide) hun (by omega) (by omega) (lv_sub hl [0, 1, 2, 3, 4, 5, 6, 7, 8, 9, 10] rfl)
    · have d1 : ¬ ((3) ≤ nx.toInt) := mt (kc_le (by decide : (3 : Int32).toInt = 3) (rfl : nx.toInt = nx.toInt)).mpr c1
      refine lv_aload_n hx hb dL_law_48 rfl (lv_at hl 8 rfl) ?_
      refine lv_iload hx hb dL_law_49 (lv_at hl 0 rfl) ?_
      refine lv_aload_n hx hb dL_law_51 rfl (lv_at hl 10 rfl) ?_
      refine lv_iload hx hb dL_law_52 (lv_at hl 1 rfl) ?_
      refine lv_iconst (v := 4) hx hb dL_law_54 (by decide) ?_
      refine kcalls (kSts (n := 3) (As := [.ref b, .int kx, .int 4]) (rest := [.int nx, .ref ra]) F hX hbl hbA hS (c_L_pick l hL9 kx hkx (by omega) (N := 4) (by decide) (by decide) rfl) kw_59 kw_60 kw_61 kw_62 (by decide +kernel) ⟨Nat.le_of_ble_eq_true rfl, Nat.le_of_ble_eq_true rfl⟩ rfl hl.1 rfl (Nat.le_of_ble_eq_true rfl) dL_law_55 ⟨(by show k0 ≤ 1072639; omega), (by show n0 ≤ 5883708; omega)⟩) rfl hS hA (fun r2 H locs hp hf1 hS => ?_)
      have hP := kP_same hP hf1
      have hO := kP_same hO hf1
      obtain ⟨j2, hj2, nr2⟩ := hp
      refine rt2_I F hK hP hO hD hDO hdis hS oa (by rw [(show pN O ra = 3 from la)]; exact kt_in hnx (by omega) (by decide)) dL_law_58 (fun H locs hP hO hDO hS => ?_)
      rw [kt_clamp hnx (by omega)] at hO hDO
      have hdis : kdis S (setX O ra (upd (pX O ra) n r2)) := hdis
      refine lv_aload_n hx hb dL_law_59 rfl (lv_at hl 7 rfl) ?_
      refine lv_iload hx hb dL_law_60 (lv_at hl 0 rfl) ?_
      refine lv_bipush (v := 10) hx hb dL_law_62 (by decide) ?_
      refine lv_aload_n hx hb dL_law_64 rfl (lv_at hl 10 rfl) ?_
      refine lv_iload hx hb dL_law_65 (lv_at hl 1 rfl) ?_
      refine lv_iconst (v := 1) hx hb dL_law_67 (by decide) ?_
      refine lv_iadd hx hb dL_law_68 ?_
      refine lv_topi (fun x3 ex3 => ?_)
      have tx3 : x3.toInt = kx.toInt + (1) := kt_add ex3 (rfl : kx.toInt = kx.toInt) (by decide : (1 : Int32).toInt = 1) (by omega) (by omega)
      refine lv_bipush (v := 20) hx hb dL_law_69 (by decide) ?_
      refine kcalls (kSts (n := 3) (As := [.ref b, .int x3, .int 20]) (rest := [.int 10, .int nx, .ref rr]) F hX hbl hbA hS (c_L_pick l hL9 x3 (by omega : x3.toInt = (((4 * n) + 1 : Nat) : Int)) (by omega) (N := 20) (by decide) (by decide) rfl) kw_59 kw_60 kw_61 kw_62 (by decide +kernel) ⟨Nat.le_of_ble_eq_true rfl, Nat.le_of_ble_eq_true rfl⟩ rfl hl.1 rfl (Nat.le_of_ble_eq_true rfl) dL_law_71 ⟨(by show k0 ≤ 1072639; omega), (by show n0 ≤ 5883708; omega)⟩) rfl hS hA (fun r4 H locs hp hf1 hS => ?_)
      have hP := kP_same hP hf1
      have hO := kP_same hO hf1
      obtain ⟨j4, hj4, nr4⟩ := hp
      refine lv_iadd hx hb dL_law_74 ?_
      refine lv_topi (fun x5 ex5 => ?_)
      have tx5 : x5.toInt = (10) + r4.toInt := kt_add ex5 (by decide : (10 : Int32).toInt = 10) (rfl : r4.toInt = r4.toInt) (by omega) (by omega)
      refine rt2_I F hK hP hO hD hDO hdis hS orr (by rw [(show pN (setX O ra (upd (pX O ra) n r2)) rr = 3 from lr)]; exact kt_in hnx (by omega) (by decide)) dL_law_75 (fun H locs hP hO hDO hS => ?_)
      rw [kt_clamp hnx (by omega)] at hO hDO
      have hdis : kdis S (setX (setX O ra (upd (pX O ra) n r2)) rr (upd (pX (setX O ra (upd (pX O ra) n r2)) rr) n x5)) := hdis
      refine lv_aload_n hx hb dL_law_76 rfl (lv_at hl 10 rfl) ?_
      refine lv_iload hx hb dL_law_77 (lv_at hl 1 rfl) ?_
      refine lv_iconst (v := 2) hx hb dL_law_79 (by decide) ?_
      refine lv_iadd hx hb dL_law_80 ?_
      refine lv_topi (fun x6 ex6 => ?_)
      have tx6 : x6.toInt = kx.toInt + (2) := kt_add ex6 (rfl : kx.toInt = kx.toInt) (by decide : (2 : Int32).toInt = 2) (by omega) (by omega)
      refine lv_bipush (v := 10) hx hb dL_law_81 (by decide) ?_
      refine kcalls (kSts (n := 3) (As := [.ref b, .int x6, .int 10]) (rest := []) F hX hbl hbA hS (c_L_pick l hL9 x6 (by omega : x6.toInt = (((4 * n) + 2 : Nat) : Int)) (by omega) (N := 10) (by decide) (by decide) rfl) kw_59 kw_60 kw_61 kw_62 (by decide +kernel) ⟨Nat.le_of_ble_eq_true rfl, Nat.le_of_ble_eq_true rfl⟩ rfl hl.1 rfl (Nat.le_of_ble_eq_true rfl) dL_law_83 ⟨(by show k0 ≤ 1072639; omega), (by show n0 ≤ 5883708; omega)⟩) rfl hS hA (fun r7 H locs hp hf1 hS => ?_)
      have hP := kP_same hP hf1
      have hO := kP_same hO hf1
      obtain ⟨j7, hj7, nr7⟩ := hp
      refine lv_istore (lv' := [(11, .int r7), (10, .int nx), (9, .int kx), (8, .int 1), (7, .int 0), (6, .int un), (5, .ref ri), (4, .ref rb), (3, .ref rr), (2, .ref ra), (1, .ref (z 0)), (0, .ref b)]) hx hb dL_law_86 hl (by decide) rfl (fun ls hl => ?_)
      refine lv_aload_n hx hb dL_law_88 rfl (lv_at hl 11 rfl) ?_
      refine lv_iload hx hb dL_law_89 (lv_at hl 2 rfl) ?_
      refine lv_iconst (v := 3) hx hb dL_law_91 (by decide) ?_
      refine lv_iadd hx hb dL_law_92 ?_
      refine lv_topi (fun x8 ex8 => ?_)
      have tx8 : x8.toInt = kx.toInt + (3) := kt_add ex8 (rfl : kx.toInt = kx.toInt) (by decide : (3 : Int32).toInt = 3) (by omega) (by omega)
      refine lv_bipush (v := 60) hx hb dL_law_93 (by decide) ?_
      refine kcalls (kSts (n := 3) (As := [.ref b, .int x8, .int 60]) (rest := []) F hX hbl hbA hS (c_L_pick l hL9 x8 (by omega : x8.toInt = (((4 * n) + 3 : Nat) : Int)) (by omega) (N := 60) (by decide) (by decide) rfl) kw_59 kw_60 kw_61 kw_62 (by decide +kernel) ⟨Nat.le_of_ble_eq_true rfl, Nat.le_of_ble_eq_true rfl⟩ rfl hl.1 rfl (Nat.le_of_ble_eq_true rfl) dL_law_95 ⟨(by show k0 ≤ 1072639; omega), (by show n0 ≤ 5883708; omega)⟩) rfl hS hA (fun r9 H locs hp hf1 hS => ?_)
      have hP := kP_same hP hf1
      have hO := kP_same hO hf1
      obtain ⟨j9, hj9, nr9⟩ := hp
      refine lv_istore (lv' := [(12, .int r9), (11, .int r7), (10, .int nx), (9, .int kx), (8, .int 1), (7, .int 0), (6, .int un), (5, .ref ri), (4, .ref rb), (3, .ref rr), (2, .ref ra), (1, .ref (z 0)), (0, .ref b)]) hx hb dL_law_98 hl (by decide) rfl (fun ls hl => ?_)
      refine lv_iload hx hb dL_law_100 (lv_at hl 6 rfl) ?_
      refine lv_iload hx hb dL_law_102 (lv_at hl 1 rfl) ?_
      refine lv_iload hx hb dL_law_104 (lv_at hl 0 rfl) ?_
      refine lv_iadd hx hb dL_law_106 ?_
      refine lv_topi (fun x10 ex10 => ?_)
      have tx10 : x10.toInt = r7.toInt + r9.toInt := kt_add ex10 (rfl : r7.toInt = r7.toInt) (rfl : r9.toInt = r9.toInt) (by omega) (by omega)
      refine lv_iadd hx hb dL_law_107 ?_
      refine lv_topi (fun x11 ex11 => ?_)
      have tx11 : x11.toInt = un.toInt + x10.toInt := kt_add ex11 (rfl : un.toInt = un.toInt) (rfl : x10.toInt = x10.toInt) (by omega) (by omega)
      refine lv_istore (lv' := [(6, .int x11), (12, .int r9), (11, .int r7), (10, .int nx), (9, .int kx), (8, .int 1), (7, .int 0), (5, .ref ri), (4, .ref rb), (3, .ref rr), (2, .ref ra), (1, .ref (z 0)), (0, .ref b)]) hx hb dL_law_108 hl (by decide) rfl (fun ls hl => ?_)
      refine lv_iload hx hb dL_law_110 (lv_at hl 5 rfl) ?_
      refine lv_aload_n hx hb dL_law_112 rfl (lv_at hl 11 rfl) ?_
      refine lv_aload_n hx hb dL_law_113 rfl (lv_at hl 10 rfl) ?_
      refine lv_iload hx hb dL_law_114 (lv_at hl 3 rfl) ?_
      refine rd_I F hK hO oa (by rw [(show pN (setX (setX O ra (upd (pX O ra) n r2)) rr (upd (pX (setX O ra (upd (pX O ra) n r2)) rr) n x5)) ra = 3 from la)]; exact kt_in hnx (by omega) (by decide)) dL_law_116 ?_
      refine lv_topi (fun x12 ex12 => ?_)
      have nx12 : x12.toInt = ((j2 : Nat) : Int) := kt_nI (by rw [ex12, kt_clamp hnx (by omega)]; exact (show pX (setX (setX O ra _) rr _) ra n = nI (j2) by rw [kx_ne hne.2.2.2.2.2, kxs_at, upd_at]; exact kt_of nr2 (by omega))) (by omega)
      refine lv_iload hx hb dL_law_117 (lv_at hl 2 rfl) ?_
      refine lv_iload hx hb dL_law_119 (lv_at hl 1 rfl) ?_
      refine lv_aload_n hx hb dL_law_121 rfl (lv_at hl 9 rfl) ?_
      refine lv_iload hx hb dL_law_122 (lv_at hl 3 rfl) ?_
      refine rd_I F hK hO orr (by rw [(show pN (setX (setX O ra (upd (pX O ra) n r2)) rr (upd (pX (setX O ra (upd (pX O ra) n r2)) rr) n x5)) rr = 3 from lr)]; exact kt_in hnx (by omega) (by decide)) dL_law_124 ?_
      refine lv_topi (fun x13 ex13 => ?_)
      have nx13 : x13.toInt = ((10 + j4 : Nat) : Int) := kt_nI (by rw [ex13, kt_clamp hnx (by omega)]; exact (show pX (setX _ rr _) rr n = nI (10 + j4) by rw [kxs_at, upd_at]; exact kt_of (by omega : x5.toInt = ((10 + j4 : Nat) : Int)) (by omega))) (by omega)
      refine kcallhI (kSthW (n := 5) (As := [.ref (z 0), .int x12, .int r7, .int r9, .int x13]) (rest := [.int 1]) F hE hNc hK hP hD hS hA (kh_addArticle l g e0 S _ (z 0) x12 r7 r9 x13 _ _ hI.ob0 (c_X5_addArticle_x l hl0 g e0 z S _ hI av lv q hR hW (by omega) (j7) (j9) (10 + j4) x12 r7 r9 x13 (kt_of nr7 (by omega)) (kt_of nr9 (by omega)) (kt_of nx13 (by omega)) ⟨fun h => by rw [kc_lt nx12 (by decide : (0 : Int32).toInt = 0)] at h; omega, fun h => by rw [kc_le (by decide : (4 : Int32).toInt = 4) nx12] at h; omega⟩ ⟨fun h => by rw [kc_lt nx13 (by decide : (1 : Int32).toInt = 1)] at h; omega, fun h => by rw [kc_lt (by decide : (99 : Int32).toInt = 99) nx13] at h; omega⟩ ⟨fun h => by rw [kc_lt nr7 (by decide : (0 : Int32).toInt = 0)] at h; omega, fun h => by rw [kc_lt nx13 nr7] at h; omega⟩ ⟨fun h => by rw [kc_lt nr9 (by decide : (0 : Int32).toInt = 0)] at h; omega, fun h => by rw [kc_lt (by decide : (999 : Int32).toInt = 999) nr9] at h; omega⟩) (fun E h => False.elim h)) kw_67 kw_68 kw_61 kw_69 (by decide +kernel) ⟨Nat.le_of_ble_eq_true rfl, Nat.le_of_ble_eq_true rfl⟩ rfl hl.1 rfl (Nat.le_of_ble_eq_true rfl) dL_law_125 ⟨(by show k0 + 2 ≤ 1072639; omega), (by show n0 + 15 ≤ 5883708; omega)⟩) rfl hD hS hA (fun r14 S1 H locs hp hP hDs hD1 hq3x hf1 hS => ?_)
      clear hq3x
      have hO9x := kO_keep hO hdis hf1
      have hdis9 := kdis_keep hO hdis hDs
      rcases hp with hp | hp
      · have hO := hO9x
        have hdis := hdis9
        have hD := hD1
        obtain ⟨hI1, ⟨j, x9, hj, ej, hR1⟩, er⟩ := hp
        obtain rfl : j2 = j := nI_inj (by omega) (by omega) ((kt_of nx12 (by omega)).symm.trans ej)
        obtain ⟨q1, hq1⟩ : ∃ q9 : qS, q9 = q_art j2 (10 + j4) (j7) (j9) q := ⟨_, rfl⟩
        rw [← hq1] at hR1
        have hW1 : q_W q1 := by rw [hq1]; exact q_art_W hW (by omega) hj (by omega) (by omega)
        have fo : ∀ k, k ∉ [10, 11, 12, 13, 14, 72] → ∀ i, q1 k i = q k i := fun k hk i => by rw [hq1]; exact q_art_o hk
        have fi : ∀ k i, k ≠ 72 → i ≠ n → q1 k i = q k i := fun k i hk hi => by rw [hq1]; exact q_art_i hk (by rw [h72]; exact hi)
        have f72 : q1 72 0 = n + 1 := by rw [hq1, q_art_72, h72]
        have f10 : q1 10 n = j2 := by rw [hq1]; have h9 := q_art_10 (j := j2) (ro := (10 + j4)) (st := j7) (re := j9) (q := q); rw [h72] at h9; exact h9
        have f11 : q1 11 n = 10 + j4 := by rw [hq1]; have h9 := q_art_11 (j := j2) (ro := (10 + j4)) (st := j7) (re := j9) (q := q); rw [h72] at h9; exact h9
        have f12 : q1 12 n = j7 := by rw [hq1]; have h9 := q_art_12 (j := j2) (ro := (10 + j4)) (st := j7) (re := j9) (q := q); rw [h72] at h9; exact h9
        have f13 : q1 13 n = j9 := by rw [hq1]; have h9 := q_art_13 (j := j2) (ro := (10 + j4)) (st := j7) (re := j9) (q := q); rw [h72] at h9; exact h9
        have nr14 : r14.toInt = ((n : Nat) : Int) := kt_nI (er.trans (congrArg nI h72)) (by omega)
        have hU1 : q_U q1 = q_U q + (j7 + j9) := by have h9 := q_U_art (q := q) (q' := q1) (a := n) (by omega) (fun k hk i hi => fi k i (q_mem (P := fun k => k ≠ 72) hk (by decide)) hi) (fun r => fo 31 (by decide) r); rw [f12, f13, (hz n (Nat.le_refl _)).1, (hz n (Nat.le_refl _)).2] at h9; omega
        have hO9 : q_P (setX (setX O ra (upd (pX O ra) n r2)) rr (upd (pX (setX O ra (upd (pX O ra) n r2)) rr) n x5)) ra rr rb ri q1 := by
          refine ⟨⟨oa, la⟩, ⟨orr, lr⟩, ⟨obb, lb⟩, ⟨oi, li⟩, hne, fun a ha => ?_, fun j hj => ?_⟩
          · rw [f72] at ha
            by_cases c9 : a = n
            · rw [c9]; exact ⟨by rw [f10]; exact (show pX (setX (setX O ra _) rr _) ra n = nI (j2) by rw [kx_ne hne.2.2.2.2.2, kxs_at, upd_at]; exact kt_of nr2 (by omega)), by rw [f11]; exact (show pX (setX _ rr _) rr n = nI (10 + j4) by rw [kxs_at, upd_at]; exact kt_of (by omega : x5.toInt = ((10 + j4 : Nat) : Int)) (by omega))⟩
            · rw [fi 10 a (by decide) c9, fi 11 a (by decide) c9, kx_ne hne.2.2.2.2.2, kxs_at, upd_of c9, kxs_at, upd_of c9, kx_ne hne.2.2.2.2.2.symm]; exact hra a (by omega)
          · rw [fo 1 (by decide), kx_ne hne.2.2.2.2.1.symm, kx_ne hne.2.2.2.1.symm]; exact hrb j hj
        have hI := hI1
        have hR := hR1
        have hW := hW1
        have hL := q_M_of hL fo
        have hz1 : ∀ a, n + 1 ≤ a → q1 12 a = 0 ∧ q1 13 a = 0 := fun a ha => by rw [fi 12 a (by decide) (by omega), fi 13 a (by decide) (by omega)]; exact hz a (by omega)
        refine lv_iload hx hb dL_law_128 (lv_at hl 3 rfl) ?_
        refine lv_icmp_ne (tgt := 137) hx hb dL_law_130 (by decide) (fun c15 => ?_) (fun c15 => ?_)
        · have d15 : r14.toInt ≠ nx.toInt := mt (kc_eq (rfl : r14.toInt = r14.toInt) (rfl : nx.toInt = nx.toInt)).mpr c15
          exfalso; omega
        · have d15 : r14.toInt = nx.toInt := (kc_eq (rfl : r14.toInt = r14.toInt) (rfl : nx.toInt = nx.toInt)).mp c15
          refine lv_iconst (v := 1) hx hb dL_law_133 (by decide) ?_
          refine lv_goto (tgt := 138) hx hb dL_law_134 (by decide) ?_
          refine lv_iand hx hb dL_law_138 ?_
          refine lv_topi (fun x16 e16 => ?_)
          obtain rfl : x16 = 1 := e16.trans (by decide)
          refine lv_istore (lv' := [(8, .int 1), (6, .int x11), (12, .int r9), (11, .int r7), (10, .int nx), (9, .int kx), (7, .int 0), (5, .ref ri), (4, .ref rb), (3, .ref rr), (2, .ref ra), (1, .ref (z 0)), (0, .ref b)]) hx hb dL_law_139 hl (by decide) rfl (fun ls hl => ?_)
          obtain ⟨x17, ex17⟩ : ∃ y : Int32, y = kx + 4 := ⟨_, rfl⟩
          refine lv_iinc (v := x17) (lv' := [(9, .int x17), (8, .int 1), (6, .int x11), (12, .int r9), (11, .int r7), (10, .int nx), (7, .int 0), (5, .ref ri), (4, .ref rb), (3, .ref rr), (2, .ref ra), (1, .ref (z 0)), (0, .ref b)]) hx hb dL_law_141 hl (k := 5) rfl (by rw [ex17]; rfl) (by decide) rfl (fun ls hl => ?_)
          have tx17 : x17.toInt = kx.toInt + 4 := kt_add ex17 (rfl : kx.toInt = kx.toInt) (by decide) (by omega) (by omega)
          obtain ⟨x18, ex18⟩ : ∃ y : Int32, y = nx + 1 := ⟨_, rfl⟩
          refine lv_iinc (v := x18) (lv' := [(10, .int x18), (9, .int x17), (8, .int 1), (6, .int x11), (12, .int r9), (11, .int r7), (7, .int 0), (5, .ref ri), (4, .ref rb), (3, .ref rr), (2, .ref ra), (1, .ref (z 0)), (0, .ref b)]) hx hb dL_law_144 hl (k := 5) rfl (by rw [ex18]; rfl) (by decide) rfl (fun ls hl => ?_)
          have tx18 : x18.toInt = nx.toInt + 1 := kt_add ex18 (rfl : nx.toInt = nx.toInt) (by decide) (by omega) (by omega)
          refine lv_goto (tgt := 42) hx hb dL_law_147 (by decide) ?_
          exact ih (n + 1) S1 (setX (setX O ra (upd (pX O ra) n r2)) rr (upd (pX (setX O ra (upd (pX O ra) n r2)) rr) n x5)) _ lv q1 _ _ _ _ ls x18 x17 x11 (by omega) (by omega) ⟨F, hK, hE, hNc, hX, hbl⟩ hP hO hD hDO hdis hS hI hR hW f72 (by rw [fo 73 (by decide)]; exact h73) hL hz1 hO9 (by omega) (by omega) (by omega) (by omega) (by omega) (by omega) (lv_sub hl [0, 1, 2, 6, 3, 7, 8, 9, 10, 11, 12] rfl)
      · have hO := hO9x
        exfalso; rcases hp with ⟨-, h, -⟩ | ⟨-, h, -⟩ <;> exact h
