def q_art (j ro st re : Nat) (q : qS) : qS := q_up (q_up (q_up (q_up (q_up (q_up q 10 (q 72 0) j) 11 (q 72 0) ro) 12 (q 72 0) st) 13 (q 72 0) re) 14 (q 72 0) 0) 72 0 (q 72 0 + 1)
theorem q_art_o {j ro st re k i : Nat} {q : qS} (h : k ∉ [10, 11, 12, 13, 14, 72]) : q_art j ro st re q k i = q k i := by
  have m : ∀ x, x ∈ [10, 11, 12, 13, 14, 72] → k ≠ x := fun x hx e => h (by rw [e]; exact hx)
  unfold q_art
  rw [q_k (m 72 (by decide)), q_k (m 14 (by decide)), q_k (m 13 (by decide)), q_k (m 12 (by decide)), q_k (m 11 (by decide)), q_k (m 10 (by decide))]
theorem q_art_i {j ro st re k i : Nat} {q : qS} (h : k ≠ 72) (hi : i ≠ q 72 0) : q_art j ro st re q k i = q k i := by
  unfold q_art
  rw [q_k h, q_i hi, q_i hi, q_i hi, q_i hi, q_i hi]
theorem q_art_72 {j ro st re : Nat} {q : qS} : q_art j ro st re q 72 0 = q 72 0 + 1 := q_at
theorem q_art_10 {j ro st re : Nat} {q : qS} : q_art j ro st re q 10 (q 72 0) = j := by unfold q_art; rw [q_k (by decide), q_k (by decide), q_k (by decide), q_k (by decide), q_k (by decide), q_at]
theorem q_art_11 {j ro st re : Nat} {q : qS} : q_art j ro st re q 11 (q 72 0) = ro := by unfold q_art; rw [q_k (by decide), q_k (by decide), q_k (by decide), q_k (by decide), q_at]
theorem q_art_12 {j ro st re : Nat} {q : qS} : q_art j ro st re q 12 (q 72 0) = st := by unfold q_art; rw [q_k (by decide), q_k (by decide), q_k (by decide), q_at]
theorem q_art_13 {j ro st re : Nat} {q : qS} : q_art j ro st re q 13 (q 72 0) = re := by unfold q_art; rw [q_k (by decide), q_k (by decide), q_at]
theorem q_art_14 {j ro st re : Nat} {q : qS} : q_art j ro st re q 14 (q 72 0) = 0 := by unfold q_art; rw [q_k (by decide), q_at]
section RA
variable {z av lv : Nat → Nat} {S T : wPS} {q : qS} {e0 x kd : Nat}
theorem Rq.adda (h : Rq z av lv S q) (hI : Inv z e0 S) (h73 : q 73 0 ≤ 12) (h7 : ∀ r, r < 2 → q 30 r ≤ q 72 0) (hA : AddR S T e0 (z 10) 1 (q 72 0)) (hX : AddX S T (z 10) (q 72 0) x) (ox : Ob S 1 x) (hnew : ∀ i, i < q 72 0 → av i ≠ x) {j ro st re : Nat} (hj4 : j < 4) (e10 : pG S 10 x = some (z (2 + j))) (e11 : pF S 11 x = nI ro) (e12 : pF S 12 x = nI st) (e13 : pF S 13 x = nI re) (e14 : pF S 14 x = nI 0) : Rq z (lvu av (q 72 0) x) lv T (q_art j ro st re q) := by
  obtain ⟨ha, hl, hj, hn, hb, hr, hs, hg, hc⟩ := h
  have hA9 := hA
  obtain ⟨r1, r2, r3, r4, r5, r6, r7, r8, r9, r10, r11, r12, r13⟩ := hA
  have z1 : z 11 ≠ z 10 := fun e => absurd (hI.1.2 11 10 (by decide) (by decide) e) (by decide)
  obtain ⟨m1, hm1, hL1⟩ := hI.lines
  obtain rfl : m1 = q 73 0 := nI_inj (by omega) (by omega) (hL1.1.symm.trans hn.2)
  refine ⟨fun i hi => ?_, fun i hi => ?_, ⟨fun i j hi hj9 => ?_, fun i j hi hj9 => ?_⟩, ⟨?_, ?_⟩, fun j hj k hk => ?_, fun r hr9 => ?_, ⟨fun k hk => ?_, ?_⟩, ⟨?_, fun k hk => ?_⟩, fun j hj => ?_⟩
  · rw [q_art_72] at hi
    by_cases c : i = q 72 0
    · subst c
      refine ⟨by rw [lvu_at]; exact r1 _ _ ox, by rw [lvu_at]; exact hX.1, by rw [lvu_at, r7 10 (by decide), q_art_10]; exact e10, by rw [q_art_10]; exact hj4, fun k hk => ?_⟩
      rw [lvu_at]
      rcases q_m4 hk with rfl | rfl | rfl | rfl
      · rw [r9 _ (by decide) (by decide), q_art_11]; exact e11
      · rw [r9 _ (by decide) (by decide), q_art_12]; exact e12
      · rw [r9 _ (by decide) (by decide), q_art_13]; exact e13
      · rw [r9 _ (by decide) (by decide), q_art_14]; exact e14
    · have hi2 : i < q 72 0 := by omega
      obtain ⟨o, le, g10, h4, hf⟩ := ha i hi2
      refine ⟨by rw [lvu_ne c]; exact r1 _ _ o, by rw [lvu_ne c]; exact hX.2 i _ hi2 le, by rw [lvu_ne c, r7 10 (by decide), q_art_i (by decide) c]; exact g10, by rw [q_art_i (by decide) c]; exact h4, fun k hk => ?_⟩
      rw [lvu_ne c]
      rcases q_m4 hk with rfl | rfl | rfl | rfl <;> (rw [r9 _ (by decide) (by decide), q_art_i (by decide) c]; exact hf _ (by decide))
  · rw [q_art_o (by decide)] at hi
    obtain ⟨o, le, g21, h21, h20, h25, hf⟩ := hl i hi
    refine ⟨r1 _ _ o, le.add hA9 hL1 hi z1 (fun d a b => hI.2.2.2.2.1.2.2.1 d b a) hI.2.2.2.2.1.2.2.2, ?_, ?_, ?_, ?_, fun k hk => ?_⟩
    · rw [r7 21 (by decide), q_art_o (by decide), lvu_ne (by omega)]; exact g21
    · rw [q_art_o (by decide), q_art_72]; omega
    · rw [r9 _ (by decide) (by decide)]; exact h20
    · rw [r9 _ (by decide) (by decide), q_art_o (by decide)]; exact h25
    · rcases q_m3 hk with rfl | rfl | rfl <;> (rw [r9 _ (by decide) (by decide), q_art_o (by decide)]; exact hf _ (by decide))
  · rw [q_art_72] at hi hj9
    intro e
    by_cases c : i = q 72 0
    · by_cases d : j = q 72 0
      · omega
      · rw [c, lvu_at, lvu_ne d] at e
        exact absurd e.symm (hnew j (by omega))
    · by_cases d : j = q 72 0
      · rw [d, lvu_at, lvu_ne c] at e
        exact absurd e (hnew i (by omega))
      · rw [lvu_ne c, lvu_ne d] at e
        exact hj.1 i j (by omega) (by omega) e
  · rw [q_art_o (by decide)] at hi hj9
    exact hj.2 i j hi hj9
  · rw [q_art_72]; exact r4.1
  · rw [q_art_o (by decide)]; exact (r10 _ z1).trans hn.2
  · rcases q_m3 hk with rfl | rfl | rfl <;> (rw [r9 _ (by decide) (by decide), q_art_o (by decide)]; exact hb j hj _ (by decide))
  · refine ⟨?_, fun k hk => ?_⟩
    · rw [r7 30 (by decide), q_art_o (by decide), (hr r hr9).1]
      by_cases c : q 30 r = 0
      · rw [if_pos c, if_pos c]
      · have := h7 r hr9
        rw [if_neg c, if_neg c, lvu_ne (by omega)]
    · rcases q_m2 hk with rfl | rfl <;> (rw [r9 _ (by decide) (by decide), q_art_o (by decide)]; exact (hr r hr9).2 _ (by decide))
  · rcases q_m3 hk with rfl | rfl | rfl <;> (rw [r9 _ (by decide) (by decide), q_art_o (by decide)]; exact hs.1 _ (by decide))
  · rw [r11, q_art_o (by decide)]; exact hs.2
  · rw [r9 _ (by decide) (by decide), q_art_o (by decide)]; exact hg.1
  · rw [q_art_o (by decide)] at hk
    rw [(r12 _ (hI.1.1 13 (by decide)).1).2, (r12 _ (hI.1.1 14 (by decide)).1).2, q_art_o (by decide), q_art_o (by decide)]
    exact hg.2 k hk
  · rw [(r12 _ (hI.1.1 6 (by decide)).1).2, q_art_o (by decide)]; exact hc j hj
end RA
theorem q_art_W {q : qS} {j ro st re : Nat} (h : q_W q) (h6 : q 72 0 < 6) (hj : j < 4) (h1 : st ≤ ro) (h2 : ro ≤ 99) : q_W (q_art j ro st re q) := by
  obtain ⟨⟨w1, w2, w4a, w5, w6, w7, w8⟩, w3, w4b⟩ := h
  have e : ∀ k, k ∉ [10, 11, 12, 13, 14, 72] → ∀ i, q_art j ro st re q k i = q k i := fun k hk i => q_art_o hk
  have hl : ∀ n k, q_last (q_art j ro st re q) n k = q_last q n k := fun n k => q_last_congr (fun j _ => e 43 (by decide) j) (fun j _ => e 44 (by decide) j)
  have hc : ∀ n k, q_cnt (q_art j ro st re q) n k = q_cnt q n k := fun n k => q_cnt_congr (fun j _ => e 43 (by decide) j)
  refine ⟨⟨⟨?_, ?_, fun n hn => ?_, fun i hi => ?_⟩, fun a ha => ?_, fun n hn => ?_, ⟨fun k hk => ?_, fun n hn => ?_⟩, ⟨?_, fun n hn => ?_⟩, fun r hr => ?_, ?_⟩, fun a ha => ?_, fun n hn hp => ?_⟩
  · rw [q_art_72]; omega
  · rw [e 73 (by decide)]; exact w1.2.1
  · rw [e 73 (by decide)] at hn
    rw [e 21 (by decide), e 22 (by decide), q_art_72]
    have := w1.2.2.1 n hn
    omega
  · rw [q_art_72] at hi
    by_cases c : i = q 72 0
    · rw [c, q_art_10]; exact hj
    · rw [q_art_i (by decide) c]; exact w1.2.2.2 i (by omega)
  · rw [q_art_72] at ha
    rw [e 73 (by decide), q_sum_congr (q := q) (fun n _ => e 21 (by decide) n) (fun n _ => e 24 (by decide) n) (fun n _ => e 23 (by decide) n)]
    by_cases c : a = q 72 0
    · rw [c, q_art_14, q_sum_zero (fun n hn _ => by have := (w1.2.2.1 n hn).1; omega)]
    · rw [q_art_i (by decide) c]; exact w2 a (by omega)
  · rw [e 73 (by decide)] at hn
    rw [e 24 (by decide), e 23 (by decide), e 25 (by decide), e 57 (by decide)]
    exact w4a n hn
  · rw [e 42 (by decide)] at hk
    rw [e 43 (by decide), e 44 (by decide), e 73 (by decide), hl]
    exact w5.1 k hk
  · rw [e 73 (by decide)] at hn
    rw [hl, e 42 (by decide), e 24 (by decide)]
    exact w5.2 n hn
  · rw [e 57 (by decide)]; exact w6.1
  · rw [e 73 (by decide)] at hn
    rw [hc, e 42 (by decide), e 57 (by decide), e 24 (by decide)]
    exact w6.2 n hn
  · rw [e 30 (by decide), e 31 (by decide), e 32 (by decide), q_art_72]
    have := w7 r hr
    omega
  · unfold q_W8
    rw [e 59 (by decide), e 73 (by decide), q_shp_congr (q := q) (fun n _ => e 24 (by decide) n) (fun n _ => e 23 (by decide) n)]
    exact w8
  · rw [q_art_72] at ha
    by_cases c : a = q 72 0
    · rw [c, q_art_14, q_art_12, q_art_11]; exact ⟨Nat.zero_le _, h1, h2⟩
    · rw [q_art_i (by decide) c, q_art_i (by decide) c, q_art_i (by decide) c]; exact w3 a (by omega)
  · rw [e 73 (by decide)] at hn
    rw [e 24 (by decide)] at hp
    have := (w1.2.2.1 n hn).1
    rw [e 1 (by decide), e 21 (by decide), q_art_i (by decide) (by omega), e 25 (by decide)]
    exact w4b n hn hp
set_option maxHeartbeats 4000000 in
set_option maxRecDepth 100000 in
theorem c_X5_addArticle_x (l : Launch) (hl0 : l.stackTraces = false) (g : kG) (e0 : Nat) (z : Nat → Nat) (S : wPS) (sz : Nat) (hI : Inv z e0 S) (av lv : Nat → Nat) (q : qS) (hR : Rq z av lv S q) (hW : q_W q) (h6 : q 72 0 < 6) (sn rn on : Nat) (ai st re ro : Int32) (hst : st = nI sn) (hre : re = nI rn) (hro : ro = nI on) (v_ai : ¬ ai < 0 ∧ ¬ 4 ≤ ai) (v_ro : ¬ ro < 1 ∧ ¬ 99 < ro) (v_st : ¬ st < 0 ∧ ¬ ro < st) (v_re : ¬ re < 0 ∧ ¬ 999 < re) : kM l g e0 yX5_addArticle cX5_addArticle 5 (some .int) 6 101 2 15 [.ref (z 0), .int ai, .int st, .int re, .int ro] S sz (pI (fun r T => Inv z e0 T ∧ (∃ j x, j < 4 ∧ ai = nI j ∧ Rq z (lvu av (q 72 0) x) lv T (q_art j on sn rn q)) ∧ r = nI (q 72 0))) (fun E => False) := by
  refine kM.of (by decide) (Nat.le_of_ble_eq_true rfl) ?_
  intro p e s m below meth c ls B hin
  obtain ⟨F, hr, hlk, hte, hP, hK, hD, hE, hS, hA, hl, hsz⟩ := B
  subst hsz
  have hx := F.1
  have hb := F.2.1
  have hl : lv_has ls 5 [(0, .ref (z 0)), (1, .int ai), (2, .int st), (3, .int re), (4, .int ro)] := hl
  refine lv_aload_n hx hb dX5_addArticle_0 rfl (lv_at hl 0 rfl) ?_
  refine lv_iload_n hx hb dX5_addArticle_1 rfl (lv_at hl 1 rfl) ?_
  refine kcallI (kV (n := 1) (As := [.int ai]) (rest := []) (b := (z 0)) (C := RX5) F hE hK hP hD hS hA (c_X5_isAisle l hl0 g e0 z S _ hI ai) (rr_Pickwave hK hP (hI.1.1 0 (by decide))) kw_83 kw_84 kw_85 kw_2 kw_86 (by decide +kernel) ⟨Nat.le_of_ble_eq_true rfl, Nat.le_of_ble_eq_true rfl⟩ rfl hl.1 rfl (Nat.le_of_ble_eq_true rfl) dX5_addArticle_2 ⟨Nat.le_of_ble_eq_true rfl, Nat.le_of_ble_eq_true rfl⟩) rfl hD hS hA (fun _ _ _ _ _ h => False.elim h) (fun r1 T1 H locs hp hP hD hS => ?_)
  obtain ⟨hT, hp2⟩ := hp
  have hT := hT.symm
  subst hT
  refine lv_if_ne (tgt := 18) hx hb dX5_addArticle_5 (by decide) (fun c3 => ?_) (fun c3 => ?_)
  · refine lv_iload hx hb dX5_addArticle_18 (lv_at hl 4 rfl) ?_
    refine lv_iconst (v := 1) hx hb dX5_addArticle_20 (by decide) ?_
    refine lv_bipush (v := 99) hx hb dX5_addArticle_21 (by decide) ?_
    refine kcallI (kSt (n := 3) (As := [.int ro, .int 1, .int 99]) (rest := []) F hE hK hP hD hS hA (c_X5_isBetween l hl0 g e0 S _ ro 1 99) kw_87 kw_88 kw_2 kw_89 (by decide +kernel) ⟨Nat.le_of_ble_eq_true rfl, Nat.le_of_ble_eq_true rfl⟩ rfl hl.1 rfl (Nat.le_of_ble_eq_true rfl) dX5_addArticle_23 ⟨Nat.le_of_ble_eq_true rfl, Nat.le_of_ble_eq_true rfl⟩) rfl hD hS hA (fun _ _ _ _ _ h => False.elim h) (fun r4 T4 H locs hp hP hD hS => ?_)
    obtain ⟨hT, hp5⟩ := hp
    have hT := hT.symm
    subst hT
    refine lv_if_eq (tgt := 39) hx hb dX5_addArticle_26 (by decide) (fun c6 => ?_) (fun c6 => ?_)
    · exact kth_IAE hl0 F hE hlk hte hP hS hl.1 (List.mem_of_getElem? (i := 1) rfl) dX5_addArticle_39 dX5_addArticle_42 dX5_addArticle_43 dX5_addArticle_45 dX5_addArticle_48 ⟨Nat.le_of_ble_eq_true rfl, Nat.le_of_ble_eq_true rfl, Nat.le_of_ble_eq_true rfl, Nat.le_of_ble_eq_true rfl⟩ (Nat.le_of_ble_eq_true rfl) (Nat.le_of_ble_eq_true rfl) ((show ro < 1 ∨ 99 < ro from (by rcases hp5 with ⟨h, -, -⟩ | ⟨-, h⟩; exact absurd c6 (by rw [h]; decide); exact h)).elim v_ro.1 v_ro.2)
    · refine lv_iload_n hx hb dX5_addArticle_29 rfl (lv_at hl 2 rfl) ?_
      refine lv_iconst (v := 0) hx hb dX5_addArticle_30 (by decide) ?_
      refine lv_iload hx hb dX5_addArticle_31 (lv_at hl 4 rfl) ?_
      refine kcallI (kSt (n := 3) (As := [.int st, .int 0, .int ro]) (rest := []) F hE hK hP hD hS hA (c_X5_isBetween l hl0 g e0 S _ st 0 ro) kw_87 kw_88 kw_2 kw_89 (by decide +kernel) ⟨Nat.le_of_ble_eq_true rfl, Nat.le_of_ble_eq_true rfl⟩ rfl hl.1 rfl (Nat.le_of_ble_eq_true rfl) dX5_addArticle_33 ⟨Nat.le_of_ble_eq_true rfl, Nat.le_of_ble_eq_true rfl⟩) rfl hD hS hA (fun _ _ _ _ _ h => False.elim h) (fun r7 T7 H locs hp hP hD hS => ?_)
      obtain ⟨hT, hp8⟩ := hp
      have hT := hT.symm
      subst hT
      refine lv_if_ne (tgt := 49) hx hb dX5_addArticle_36 (by decide) (fun c9 => ?_) (fun c9 => ?_)
      · refine lv_iload_n hx hb dX5_addArticle_49 rfl (lv_at hl 3 rfl) ?_
        refine lv_iconst (v := 0) hx hb dX5_addArticle_50 (by decide) ?_
        refine lv_sipush (v := 999) hx hb dX5_addArticle_51 (by decide) ?_
        refine kcallI (kSt (n := 3) (As := [.int re, .int 0, .int 999]) (rest := []) F hE hK hP hD hS hA (c_X5_isBetween l hl0 g e0 S _ re 0 999) kw_87 kw_88 kw_2 kw_89 (by decide +kernel) ⟨Nat.le_of_ble_eq_true rfl, Nat.le_of_ble_eq_true rfl⟩ rfl hl.1 rfl (Nat.le_of_ble_eq_true rfl) dX5_addArticle_54 ⟨Nat.le_of_ble_eq_true rfl, Nat.le_of_ble_eq_true rfl⟩) rfl hD hS hA (fun _ _ _ _ _ h => False.elim h) (fun r10 T10 H locs hp hP hD hS => ?_)
        obtain ⟨hT, hp11⟩ := hp
        have hT := hT.symm
        subst hT
        refine lv_if_ne (tgt := 70) hx hb dX5_addArticle_57 (by decide) (fun c12 => ?_) (fun c12 => ?_)
        · refine lv_aload_n hx hb dX5_addArticle_70 rfl (lv_at hl 0 rfl) ?_
          refine rs_Pickwave_articles (b := z 10) F hK hP (hI.1.1 0 (by decide)) hI.2.1.2.2.2.1 kw_23 dX5_addArticle_71 ?_
          refine kcallI (kV (n := 0) (As := []) (rest := []) (b := (z 10)) (C := RJx4a65c) F hE hK hP hD hS hA (c_Jx4a65c_size_8abf5 l hl0 g e0 S _ (z 10) (hI.1.1 10 (by decide))) (rr_ArrayList hK hP (hI.1.1 10 (by decide))) kw_90 kw_91 kw_92 kw_22 kw_93 (by decide +kernel) ⟨Nat.le_of_ble_eq_true rfl, Nat.le_of_ble_eq_true rfl⟩ rfl hl.1 rfl (Nat.le_of_ble_eq_true rfl) dX5_addArticle_74 ⟨Nat.le_of_ble_eq_true rfl, Nat.le_of_ble_eq_true rfl⟩) rfl hD hS hA (fun _ _ _ _ _ h => False.elim h) (fun r13 T13 H locs hp hP hD hS => ?_)
          obtain ⟨hT, hp14⟩ := hp
          have hT := hT.symm
          subst hT
          refine lv_bipush (v := 6) hx hb dX5_addArticle_77 (by decide) ?_
          refine lv_icmp_lt (tgt := 92) hx hb dX5_addArticle_79 (by decide) (fun c15 => ?_) (fun c15 => ?_)
          · obtain ⟨m1, hm1, hL1⟩ := hI.arts
            obtain rfl : m1 = q 72 0 := nI_inj (by omega) (by omega) (hL1.1.symm.trans hR.2.2.2.1.1)
            obtain ⟨j, hj, hn⟩ := kix (M := 4) (N := 4) rfl (by decide) v_ai.1 v_ai.2
            refine lv_aload_n hx hb dX5_addArticle_92 rfl (lv_at hl 0 rfl) ?_
            refine rs_Pickwave_articles (b := z 10) F hK hP (hI.1.1 0 (by decide)) hI.2.1.2.2.2.1 kw_23 dX5_addArticle_93 ?_
            refine rn_Article F hK hP hD hS hA kw_80 kw_81 kw_82 (Nat.le_of_ble_eq_true rfl) (Nat.le_of_ble_eq_true rfl) dX5_addArticle_96 (fun q16 H hq16 hP hD hS => ?_)
            refine lv_dup hx hb dX5_addArticle_99 rfl ?_
            refine lv_aload_n hx hb dX5_addArticle_100 rfl (lv_at hl 0 rfl) ?_
            refine rs_Pickwave_aisles (b := z 1) F hK hP (obO_old (kd := 1) hq16 (hI.1.1 0 (by decide))) ((va_up_ne _ _ (kne hq16 (hI.1.1 0 (by decide)))).trans hI.2.1.1) kw_12 dX5_addArticle_101 ?_
            refine lv_iload_n hx hb dX5_addArticle_104 rfl (lv_at hl 1 rfl) ?_
            refine rds_Aisle (b := z (2 + j)) F hK hP (obO_old (kd := 1) hq16 (hI.1.1 1 (by decide))) (by show vp_in ai (pN S (z 1)); rw [hn, hI.2.2.1.1]; exact vp_in_nI hj (by decide)) (by rw [hn, nI_clamp (by omega)]; exact hI.2.2.1.2.1 _ hj) dX5_addArticle_105 ?_
            refine lv_iload_n hx hb dX5_addArticle_106 rfl (lv_at hl 2 rfl) ?_
            refine lv_iload_n hx hb dX5_addArticle_107 rfl (lv_at hl 3 rfl) ?_
            refine lv_iload hx hb dX5_addArticle_108 (lv_at hl 4 rfl) ?_
            refine kcallU (kIn (n := 4) (As := [.ref (z (2 + j)), .int st, .int re, .int ro]) (rest := [.ref q16, .ref (z 10)]) (b := q16) F hE hK hP hD hS hA (c_X1_init l hl0 g e0 (newO S q16 1) _ q16 (z (2 + j)) st re ro (obO_new (S := S) (q := q16) (kd := 1))) kw_95 kw_96 kw_82 kw_97 rfl (by decide +kernel) ⟨Nat.le_of_ble_eq_true rfl, Nat.le_of_ble_eq_true rfl⟩ rfl hl.1 rfl (Nat.le_of_ble_eq_true rfl) dX5_addArticle_110 ⟨Nat.le_of_ble_eq_true rfl, Nat.le_of_ble_eq_true rfl⟩) rfl hD hS hA (fun _ _ _ _ _ h => False.elim h) (fun T17 H locs hp hP hD hS => ?_)
            have hN : NewO S T17 q16 1 := by rw [hp]; exact (NewO.mk hq16).g.f.f.f
            have e10 : pG T17 10 q16 = some (z (2 + j)) := by rw [hp]; exact uG_at
            have e11 : pF T17 11 q16 = nI on := by rw [hp]; exact uF_at.trans hro
            have e13 : pF T17 13 q16 = nI rn := by rw [hp]; exact ((uF_of (Or.inl (by decide))).trans uF_at).trans hre
            have e12 : pF T17 12 q16 = nI sn := by rw [hp]; exact ((uF_of (Or.inl (by decide))).trans ((uF_of (Or.inl (by decide))).trans uF_at)).trans hst
            have e14 : pF T17 14 q16 = nI 0 := by rw [hp]; exact (uF_of (Or.inl (by decide))).trans ((uF_of (Or.inl (by decide))).trans ((uF_of (Or.inl (by decide))).trans (va_up_self _ _ _)))
            have hI2 : Inv z e0 T17 := hI.new hN (fun e => hE.2.1.out (by rw [e]; exact kD_in hD hN.self.1)) (Or.inr ⟨rfl, j, hj, e10⟩)
            have hR2 : Rq z av lv T17 q := hR.nob hI hN
            refine kcallI (kV (n := 1) (As := [.ref q16]) (rest := []) (b := (z 10)) (C := RJx4a65c) F hE hK hP hD hS hA (c_Jx4a65c_add_9ea2d1x l hl0 g e0 T17 _ (z 10) q16 (q 72 0) (hI2.1.1 10 (by decide)) hN.self (hN.li (hI.1.1 10 (by decide)) hL1) (by omega) hI2.2.2.2.2.1.2.2.2) (rr_ArrayList hK hP (hI2.1.1 10 (by decide))) kw_103 kw_104 kw_105 kw_22 kw_106 (by decide +kernel) ⟨Nat.le_of_ble_eq_true rfl, Nat.le_of_ble_eq_true rfl⟩ rfl hl.1 rfl (Nat.le_of_ble_eq_true rfl) dX5_addArticle_113 ⟨Nat.le_of_ble_eq_true rfl, Nat.le_of_ble_eq_true rfl⟩) rfl hD hS hA (fun _ _ _ _ _ h => False.elim h) (fun r18 T18 H locs hp hP hD hS => ?_)
            obtain ⟨hAd, hX⟩ := hp
            have hI3 : Inv z e0 T18 := hI2.add (Or.inl ⟨rfl, rfl, (by omega)⟩) hAd
            have hR3 : Rq z (lvu av (q 72 0) q16) lv T18 (q_art j on sn rn q) := hR2.adda hI2 hW.1.1.2.1 (fun r hr => by have := hW.1.2.2.2.2.2.1 r hr; omega) hAd hX hN.self (fun i hi e => hq16 (by rw [← e]; exact (hR.1 i hi).1.1)) hj e10 e11 e12 e13 e14
            refine lv_pop hx hb dX5_addArticle_116 rfl ?_
            refine lv_aload_n hx hb dX5_addArticle_117 rfl (lv_at hl 0 rfl) ?_
            refine rs_Pickwave_articles (b := z 10) F hK hP (hI3.1.1 0 (by decide)) hI3.2.1.2.2.2.1 kw_23 dX5_addArticle_118 ?_
            refine kcallI (kV (n := 0) (As := []) (rest := []) (b := (z 10)) (C := RJx4a65c) F hE hK hP hD hS hA (c_Jx4a65c_size_8abf5 l hl0 g e0 T18 _ (z 10) (hI3.1.1 10 (by decide))) (rr_ArrayList hK hP (hI3.1.1 10 (by decide))) kw_90 kw_91 kw_92 kw_22 kw_93 (by decide +kernel) ⟨Nat.le_of_ble_eq_true rfl, Nat.le_of_ble_eq_true rfl⟩ rfl hl.1 rfl (Nat.le_of_ble_eq_true rfl) dX5_addArticle_121 ⟨Nat.le_of_ble_eq_true rfl, Nat.le_of_ble_eq_true rfl⟩) rfl hD hS hA (fun _ _ _ _ _ h => False.elim h) (fun r19 T19 H locs hp hP hD hS => ?_)
            obtain ⟨hT, hp20⟩ := hp
            have hT := hT.symm
            subst hT
            refine lv_iconst (v := 1) hx hb dX5_addArticle_124 (by decide) ?_
            refine lv_isub hx hb dX5_addArticle_125 ?_
            refine lv_topi (fun x21 ex21 => ?_)
            exact kEndI F hr rfl hlk hP hD hS (Nat.le_of_ble_eq_true rfl) (Nat.le_of_ble_eq_true rfl) dX5_addArticle_126 ⟨_, rfl, ⟨hI3, ⟨j, q16, hj, hn, hR3⟩, (show x21 = nI ((q_art j on sn rn q 72 0) - 1) from (by rw [ex21, (show (r19 : Int32) = nI (q_art j on sn rn q 72 0) from (hp20.trans hR3.2.2.2.1.1)), (show (1 : Int32) = nI 1 from rfl)]; exact nI_subI (by rw [q_art_72]; omega))).trans (congrArg nI (by rw [q_art_72]; omega))⟩⟩
          · exact kth_ISE hl0 F hE hlk hte hP hS hl.1 (List.mem_of_getElem? (i := 3) rfl) dX5_addArticle_82 dX5_addArticle_85 dX5_addArticle_86 dX5_addArticle_88 dX5_addArticle_91 ⟨Nat.le_of_ble_eq_true rfl, Nat.le_of_ble_eq_true rfl, Nat.le_of_ble_eq_true rfl, Nat.le_of_ble_eq_true rfl⟩ (Nat.le_of_ble_eq_true rfl) (Nat.le_of_ble_eq_true rfl) (c15 (by rw [hp14.trans hR.2.2.2.1.1]; exact nI_lt (b := 6) h6 (by decide)))
        · exact kth_IAE hl0 F hE hlk hte hP hS hl.1 (List.mem_of_getElem? (i := 2) rfl) dX5_addArticle_60 dX5_addArticle_63 dX5_addArticle_64 dX5_addArticle_66 dX5_addArticle_69 ⟨Nat.le_of_ble_eq_true rfl, Nat.le_of_ble_eq_true rfl, Nat.le_of_ble_eq_true rfl, Nat.le_of_ble_eq_true rfl⟩ (Nat.le_of_ble_eq_true rfl) (Nat.le_of_ble_eq_true rfl) ((show re < 0 ∨ 999 < re from (by rcases hp11 with ⟨h, -, -⟩ | ⟨-, h⟩; exact absurd c12 (by rw [h]; decide); exact h)).elim v_re.1 v_re.2)
      · exact kth_IAE hl0 F hE hlk hte hP hS hl.1 (List.mem_of_getElem? (i := 1) rfl) dX5_addArticle_39 dX5_addArticle_42 dX5_addArticle_43 dX5_addArticle_45 dX5_addArticle_48 ⟨Nat.le_of_ble_eq_true rfl, Nat.le_of_ble_eq_true rfl, Nat.le_of_ble_eq_true rfl, Nat.le_of_ble_eq_true rfl⟩ (Nat.le_of_ble_eq_true rfl) (Nat.le_of_ble_eq_true rfl) ((show st < 0 ∨ ro < st from (by rcases hp8 with ⟨h, -, -⟩ | ⟨-, h⟩; exact absurd c9 (by rw [h]; decide); exact h)).elim v_st.1 v_st.2)
  · exact kth_IAE hl0 F hE hlk hte hP hS hl.1 (List.mem_of_getElem? (i := 0) rfl) dX5_addArticle_8 dX5_addArticle_11 dX5_addArticle_12 dX5_addArticle_14 dX5_addArticle_17 ⟨Nat.le_of_ble_eq_true rfl, Nat.le_of_ble_eq_true rfl, Nat.le_of_ble_eq_true rfl, Nat.le_of_ble_eq_true rfl⟩ (Nat.le_of_ble_eq_true rfl) (Nat.le_of_ble_eq_true rfl) ((show ai < 0 ∨ 4 ≤ ai from (by rcases hp2 with ⟨h, -, -⟩ | ⟨-, h⟩; exact absurd c3 (by rw [h]; decide); exact h)).elim v_ai.1 v_ai.2)
