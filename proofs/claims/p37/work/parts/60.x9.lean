/-! a new order, a new article: where they stand in the lists -/
def AddX (S T : wPS) (q n x : Nat) : Prop := LE T q n x ∧ ∀ i y, i < n → LE S q i y → LE T q i y
theorem addX_C {S : wPS} {q n d b : Nat} {m v : Int32} {i : Nat} (hd : pG S 71 q = some d) (hi : i = n) : AddX S (setF (setY (setF S 70 q m) d (va_up (pY (setF S 70 q m) d) i (some b))) 72 q v) q n b := by
  subst hi
  refine ⟨⟨d, hd, (congrFun (va_up_self _ _ _) _).trans (va_up_self _ _ _)⟩, fun j y hj h => ?_⟩
  obtain ⟨d', h1, h2⟩ := h
  cases Option.some.inj (hd.symm.trans h1)
  exact ⟨d, hd, (congrFun (va_up_self _ _ _) _).trans ((va_up_ne _ _ (Nat.ne_of_lt hj)).trans h2)⟩
theorem addX_A {S : wPS} {q d b : Nat} {m v : Int32} {i : Nat} (hi : i = 0) : AddX S (setF (setY (setG (newA (setF S 70 q m) d 13 10) 71 q (some d)) d (va_up (pY (setG (newA (setF S 70 q m) d 13 10) 71 q (some d)) d) i (some b))) 72 q v) q 0 b := by
  subst hi
  exact ⟨⟨d, uG_at (S := newA (setF S 70 q m) d 13 10) (k := 71) (a := q) (v := some d), (congrFun (va_up_self _ _ _) _).trans (va_up_self _ _ _)⟩, fun j y hj => absurd hj (Nat.not_lt_zero j)⟩
theorem addX_B {S : wPS} {q b d0 d : Nat} {m v : Int32} {i : Nat} {f : Nat → Option Nat} (hd : pG S 71 q = some d0) (hf : ∀ i, i < 10 → f i = pY S d0 i) (hi : i = 10) :
    AddX S (setF (setY (setG (setY (newA (setF S 70 q m) d 13 15) d f) 71 q (some d)) d (va_up (pY (setG (setY (newA (setF S 70 q m) d 13 15) d f) 71 q (some d)) d) i (some b))) 72 q v) q 10 b := by
  subst hi
  refine ⟨⟨d, uG_at (S := setY (newA (setF S 70 q m) d 13 15) d f) (k := 71) (a := q) (v := some d), (congrFun (va_up_self _ _ _) _).trans (va_up_self _ _ _)⟩, fun j y hj h => ?_⟩
  obtain ⟨d', h1, h2⟩ := h
  cases Option.some.inj (hd.symm.trans h1)
  exact ⟨d, uG_at (S := setY (newA (setF S 70 q m) d 13 15) d f) (k := 71) (a := q) (v := some d), (congrFun (va_up_self _ _ _) _).trans ((va_up_ne _ _ (Nat.ne_of_lt hj)).trans ((congrFun (va_up_self _ _ _) j).trans ((hf j hj).trans h2)))⟩
theorem LE.inl {S : wPS} {e0 l kd m i x : Nat} (hL : LI S e0 l kd m) (hi : i < m) (h : LE S l i x) : ∃ d, pG S 71 l = some d ∧ d ∈ pL S ∧ pY S d i = some x := by
  obtain ⟨d, h1, h2⟩ := h
  rcases hL.2 with ⟨h0, -⟩ | ⟨d', h3, h4, -⟩
  · omega
  · cases Option.some.inj (h3.symm.trans h1)
    exact ⟨d, h1, h4.1, h2⟩
theorem LE.add {S T : wPS} {e0 l kd m i x q2 kd2 n2 : Nat} (hA : AddR S T e0 q2 kd2 n2) (hL : LI S e0 l kd m) (hi : i < m) (h : LE S l i x) (hl : l ≠ q2) (hne : ∀ d, pG S 71 l = some d → pG S 71 q2 = some d → d = e0) (he : e0 ∉ pL S) : LE T l i x := by
  obtain ⟨d, hd, hdl, hy⟩ := h.inl hL hi
  obtain ⟨-, -, -, -, -, -, -, r8, -, -, -, -, r13⟩ := hA
  exact ⟨d, (r8 l hl).trans hd, by rw [r13 d hdl (fun e => he (by rw [← hne d hd e]; exact hdl))]; exact hy⟩
def lvu (lv : Nat → Nat) (k x : Nat) : Nat → Nat := fun i => if i = k then x else lv i
theorem lvu_at {lv : Nat → Nat} {k x : Nat} : lvu lv k x k = x := if_pos rfl
theorem lvu_ne {lv : Nat → Nat} {k x i : Nat} (h : i ≠ k) : lvu lv k x i = lv i := if_neg h
section RN
variable {z av lv : Nat → Nat} {S T : wPS} {q : qS} {e0 x kd : Nat}
theorem Rq.nob (h : Rq z av lv S q) (hI : Inv z e0 S) (hN : NewO S T x kd) : Rq z av lv T q := by
  obtain ⟨ha, hl, hj, hn, hb, hr, hs, hg, hc⟩ := h
  obtain ⟨-, -, -, nF, nG, nJ, nN, nX, nY⟩ := id hN
  have hz : ∀ i, i < 15 → z i ≠ x := fun i hi => hN.ne (hI.1.1 i hi)
  refine ⟨fun i hi => ?_, fun i hi => ?_, hj, ⟨?_, ?_⟩, fun j hj k hk => ?_, fun r hr9 => ?_, ⟨fun k hk => ?_, ?_⟩, ⟨?_, fun k hk => ?_⟩, fun j hj => ?_⟩
  · obtain ⟨o, le, g10, h4, hf⟩ := ha i hi
    have e := hN.ne o
    obtain ⟨d, l1, l2⟩ := le
    exact ⟨hN.ob o, ⟨d, (nG _ _ (hz 10 (by decide))).trans l1, by rw [nY]; exact l2⟩, (nG _ _ e).trans g10, h4, fun k hk => (nF _ _ e).trans (hf k hk)⟩
  · obtain ⟨o, le, g21, h21, h20, h25, hf⟩ := hl i hi
    have e := hN.ne o
    obtain ⟨d, l1, l2⟩ := le
    exact ⟨hN.ob o, ⟨d, (nG _ _ (hz 11 (by decide))).trans l1, by rw [nY]; exact l2⟩, (nG _ _ e).trans g21, h21, (nF _ _ e).trans h20, (nF _ _ e).trans h25, fun k hk => (nF _ _ e).trans (hf k hk)⟩
  · exact (nF _ _ (hz 10 (by decide))).trans hn.1
  · exact (nF _ _ (hz 11 (by decide))).trans hn.2
  · exact (nF _ _ (hz _ (by omega))).trans (hb j hj k hk)
  · exact ⟨(nG _ _ (hz _ (by omega))).trans (hr r hr9).1, fun k hk => (nF _ _ (hz _ (by omega))).trans ((hr r hr9).2 k hk)⟩
  · exact (nF _ _ (hz 0 (by decide))).trans (hs.1 k hk)
  · exact (nJ _ (hz 0 (by decide))).trans hs.2
  · exact (nF _ _ (hz 12 (by decide))).trans hg.1
  · rw [nX]; exact hg.2 k hk
  · rw [nX]; exact hc j hj
theorem q_m4 {k a b c d : Nat} (h : k ∈ [a, b, c, d]) : k = a ∨ k = b ∨ k = c ∨ k = d := by
  simp only [List.mem_cons, List.not_mem_nil, or_false] at h
  exact h
theorem q_m3 {k a b c : Nat} (h : k ∈ [a, b, c]) : k = a ∨ k = b ∨ k = c := by
  simp only [List.mem_cons, List.not_mem_nil, or_false] at h
  exact h
theorem q_m2 {k a b : Nat} (h : k ∈ [a, b]) : k = a ∨ k = b := by
  simp only [List.mem_cons, List.not_mem_nil, or_false] at h
  exact h
theorem Rq.addl (h : Rq z av lv S q) (hI : Inv z e0 S) (h72 : q 72 0 ≤ 12) (hA : AddR S T e0 (z 11) 2 (q 73 0)) (hX : AddX S T (z 11) (q 73 0) x) (ox : Ob S 2 x) (hnew : ∀ i, i < q 73 0 → lv i ≠ x) {a am ca : Nat} (ha9 : a < q 72 0) (e20 : pF S 20 x = nI (q 73 0)) (e21 : pG S 21 x = some (av a)) (e22 : pF S 22 x = nI ca) (e23 : pF S 23 x = nI am) (e24 : pF S 24 x = nI 111) (e25 : pF S 25 x = nI 0 - 1) : Rq z av (lvu lv (q 73 0) x) T (q_new a am ca q) := by
  obtain ⟨ha, hl, hj, hn, hb, hr, hs, hg, hc⟩ := h
  have hA9 := hA
  obtain ⟨r1, r2, r3, r4, r5, r6, r7, r8, r9, r10, r11, r12, r13⟩ := hA
  have z1 : z 10 ≠ z 11 := fun e => absurd (hI.1.2 10 11 (by decide) (by decide) e) (by decide)
  obtain ⟨m1, hm1, hL1⟩ := hI.arts
  obtain rfl : m1 = q 72 0 := nI_inj (by omega) (by omega) (hL1.1.symm.trans hn.1)
  refine ⟨fun i hi => ?_, fun i hi => ?_, ⟨fun i j hi hj9 => ?_, fun i j hi hj9 => ?_⟩, ⟨?_, ?_⟩, fun j hj k hk => ?_, fun r hr9 => ?_, ⟨fun k hk => ?_, ?_⟩, ⟨?_, fun k hk => ?_⟩, fun j hj => ?_⟩
  · rw [q_new_o (by decide)] at hi
    obtain ⟨o, le, g10, h4, hf⟩ := ha i hi
    refine ⟨r1 _ _ o, le.add hA9 hL1 hi z1 hI.2.2.2.2.1.2.2.1 hI.2.2.2.2.1.2.2.2, ?_, ?_, fun k hk => ?_⟩
    · rw [r7 10 (by decide), q_new_o (by decide)]; exact g10
    · rw [q_new_o (by decide)]; exact h4
    · rcases q_m4 hk with rfl | rfl | rfl | rfl <;> (rw [r9 _ (by decide) (by decide), q_new_o (by decide)]; exact hf _ (by decide))
  · rw [q_new_73] at hi
    by_cases c : i = q 73 0
    · subst c
      refine ⟨by rw [lvu_at]; exact r1 _ _ ox, by rw [lvu_at]; exact hX.1, by rw [lvu_at, r7 21 (by decide), q_new_21]; exact e21, by rw [q_new_21, q_new_o (by decide)]; exact ha9, by rw [lvu_at, r9 _ (by decide) (by decide)]; exact e20, by rw [lvu_at, r9 _ (by decide) (by decide), q_new_25]; exact e25, fun k hk => ?_⟩
      rw [lvu_at]
      rcases q_m3 hk with rfl | rfl | rfl
      · rw [r9 _ (by decide) (by decide), q_new_22]; exact e22
      · rw [r9 _ (by decide) (by decide), q_new_23]; exact e23
      · rw [r9 _ (by decide) (by decide), q_new_24]; exact e24
    · have hi2 : i < q 73 0 := by omega
      obtain ⟨o, le, g21, h21, h20, h25, hf⟩ := hl i hi2
      refine ⟨by rw [lvu_ne c]; exact r1 _ _ o, by rw [lvu_ne c]; exact hX.2 i _ hi2 le, by rw [lvu_ne c, r7 21 (by decide), q_new_i (by decide) c]; exact g21, by rw [q_new_i (by decide) c, q_new_o (by decide)]; exact h21, by rw [lvu_ne c, r9 _ (by decide) (by decide)]; exact h20, by rw [lvu_ne c, r9 _ (by decide) (by decide), q_new_i (by decide) c]; exact h25, fun k hk => ?_⟩
      rw [lvu_ne c]
      rcases q_m3 hk with rfl | rfl | rfl <;> (rw [r9 _ (by decide) (by decide), q_new_i (by decide) c]; exact hf _ (by decide))
  · rw [q_new_o (by decide)] at hi hj9
    exact hj.1 i j hi hj9
  · rw [q_new_73] at hi hj9
    intro e
    by_cases c : i = q 73 0
    · by_cases d : j = q 73 0
      · omega
      · rw [c, lvu_at, lvu_ne d] at e
        exact absurd e.symm (hnew j (by omega))
    · by_cases d : j = q 73 0
      · rw [d, lvu_at, lvu_ne c] at e
        exact absurd e (hnew i (by omega))
      · rw [lvu_ne c, lvu_ne d] at e
        exact hj.2 i j (by omega) (by omega) e
  · rw [q_new_o (by decide)]; exact (r10 _ z1).trans hn.1
  · rw [q_new_73]; exact r4.1
  · rcases q_m3 hk with rfl | rfl | rfl <;> (rw [r9 _ (by decide) (by decide), q_new_o (by decide)]; exact hb j hj _ (by decide))
  · refine ⟨by rw [r7 30 (by decide), q_new_o (by decide)]; exact (hr r hr9).1, fun k hk => ?_⟩
    rcases q_m2 hk with rfl | rfl <;> (rw [r9 _ (by decide) (by decide), q_new_o (by decide)]; exact (hr r hr9).2 _ (by decide))
  · rcases q_m3 hk with rfl | rfl | rfl <;> (rw [r9 _ (by decide) (by decide), q_new_o (by decide)]; exact hs.1 _ (by decide))
  · rw [r11, q_new_o (by decide)]; exact hs.2
  · rw [r9 _ (by decide) (by decide), q_new_o (by decide)]; exact hg.1
  · rw [q_new_o (by decide)] at hk
    rw [(r12 _ (hI.1.1 13 (by decide)).1).2, (r12 _ (hI.1.1 14 (by decide)).1).2, q_new_o (by decide), q_new_o (by decide)]
    exact hg.2 k hk
  · rw [(r12 _ (hI.1.1 6 (by decide)).1).2, q_new_o (by decide)]; exact hc j hj
end RN
set_option maxHeartbeats 4000000 in
set_option maxRecDepth 100000 in
theorem c_Jx4a65c_add_9ea2d1x (l : Launch) (hl0 : l.stackTraces = false) (g : kG) (e0 : Nat) (S : wPS) (sz : Nat) (q x n : Nat) (oq : Ob S 7 q) (ox : Ob S 1 x) (hL : LI S e0 q 1 n) (hn : n ≤ 5) (he : e0 ∉ pL S) : kM l g e0 yJx4a65c_add_9ea2d cJx4a65c_add_9ea2d 2 (some .boolean) 4 80 1 10 [.ref q, .ref x] S sz (pI (fun r T => AddR S T e0 q 1 n ∧ AddX S T q n x)) (fun E => False) := by
  refine kM.of (by decide) (Nat.le_of_ble_eq_true rfl) ?_
  intro p e s m below meth c ls B hin
  obtain ⟨F, hr, hlk, hte, hP, hK, hD, hE, hS, hA, hl, hsz⟩ := B
  subst hsz
  have hx := F.1
  have hb := F.2.1
  have hl : lv_has ls 2 [(0, .ref q), (1, .ref x)] := hl
  obtain ⟨hs0, hdat⟩ := hL
  have hdat : (n = 0 ∧ pG S 71 q = some e0) ∨ (∃ d, pG S 71 q = some d ∧ Ob S 13 d ∧ (pN S d = 10 ∨ pN S d = 15) ∧ n < pN S d ∧ ∀ i, i < n → ∃ b, pY S d i = some b ∧ Ob S 1 b) ∨ (∃ d, pG S 71 q = some d ∧ Ob S 13 d ∧ (pN S d = 10 ∨ pN S d = 15) ∧ n = pN S d ∧ ∀ i, i < n → ∃ b, pY S d i = some b ∧ Ob S 1 b) := by
    rcases hdat with h | ⟨d, h1, h2, h3, h4, h5⟩
    · exact Or.inl h
    · rcases Nat.lt_or_ge n (pN S d) with q | q
      · exact Or.inr (Or.inl ⟨d, h1, h2, h3, q, h5⟩)
      · exact Or.inr (Or.inr ⟨d, h1, h2, h3, by omega, h5⟩)
  rcases hdat with ⟨hz, hd⟩ | ⟨d, hd, od, hN, hn3, hx9⟩ | ⟨d, hd, od, hN1, hn4, hx9⟩
  · subst hz
    have hs : pF S 72 q = 0 := hs0
    refine lv_aload_n hx hb dJx4a65c_add_9ea2d_0 rfl (lv_at hl 0 rfl) ?_
    refine lv_dup hx hb dJx4a65c_add_9ea2d_1 rfl ?_
    refine rg_ArrayList_modCountA F hK hP oq kw_107 dJx4a65c_add_9ea2d_2 ?_
    refine lv_topi (fun x1 ex1 => ?_)
    refine lv_iconst (v := 1) hx hb dJx4a65c_add_9ea2d_5 (by decide) ?_
    refine lv_iadd hx hb dJx4a65c_add_9ea2d_6 ?_
    refine lv_topi (fun x2 ex2 => ?_)
    refine rp_ArrayList_modCountA F hK hP hD hS oq kw_107 dJx4a65c_add_9ea2d_7 (fun H locs hP hD hS => ?_)
    refine lv_aload_n hx hb dJx4a65c_add_9ea2d_10 rfl (lv_at hl 0 rfl) ?_
    refine lv_aload_n hx hb dJx4a65c_add_9ea2d_11 rfl (lv_at hl 1 rfl) ?_
    refine lv_aload_n hx hb dJx4a65c_add_9ea2d_12 rfl (lv_at hl 0 rfl) ?_
    refine rs_ArrayList_elementData (b := e0) F hK hP oq hd kw_41 dJx4a65c_add_9ea2d_13 ?_
    refine lv_aload_n hx hb dJx4a65c_add_9ea2d_16 rfl (lv_at hl 0 rfl) ?_
    refine rg_ArrayList_size F hK hP oq kw_94 dJx4a65c_add_9ea2d_17 ?_
    refine lv_topi (fun x3 ex3 => ?_)
    obtain rfl : x3 = 0 := by rw [ex3]; exact hs0
    refine kcallU (kV (n := 3) (As := [.ref x, .ref e0, .int 0]) (rest := []) (b := q) (C := RJx4a65c) F hE hK hP hD hS hA (c_Jx4a65c_add_72be8_a1 l hl0 g e0 (setF S 70 q x2) _ q x oq ox hd hs) (rr_ArrayList hK hP oq) kw_109 kw_110 kw_111 kw_22 kw_112 (by decide +kernel) ⟨Nat.le_of_ble_eq_true rfl, Nat.le_of_ble_eq_true rfl⟩ rfl hl.1 rfl (Nat.le_of_ble_eq_true rfl) dJx4a65c_add_9ea2d_20 ⟨Nat.le_of_ble_eq_true rfl, Nat.le_of_ble_eq_true rfl⟩) rfl hD hS hA (fun _ _ _ _ _ h => False.elim h) (fun T4 H locs hp hP hD hS => ?_)
    obtain ⟨d, v, i, hq9, hv9, hi9, hT⟩ := hp
    subst hT
    refine lv_iconst (v := 1) hx hb dJx4a65c_add_9ea2d_23 (by decide) ?_
    exact kEndI F hr rfl hlk hP hD hS (Nat.le_of_ble_eq_true rfl) (Nat.le_of_ble_eq_true rfl) dJx4a65c_add_9ea2d_24 ⟨_, rfl, ⟨addR_A he oq ox hd hq9 (fun e => hE.2.1.out (by rw [← e]; exact kD_in hD (List.mem_append_right _ List.mem_cons_self))) hi9 hv9, addX_A hi9⟩⟩
  · have hn2 : n < pN S d := hn3
    refine lv_aload_n hx hb dJx4a65c_add_9ea2d_0 rfl (lv_at hl 0 rfl) ?_
    refine lv_dup hx hb dJx4a65c_add_9ea2d_1 rfl ?_
    refine rg_ArrayList_modCountA F hK hP oq kw_107 dJx4a65c_add_9ea2d_2 ?_
    refine lv_topi (fun x5 ex5 => ?_)
    refine lv_iconst (v := 1) hx hb dJx4a65c_add_9ea2d_5 (by decide) ?_
    refine lv_iadd hx hb dJx4a65c_add_9ea2d_6 ?_
    refine lv_topi (fun x6 ex6 => ?_)
    refine rp_ArrayList_modCountA F hK hP hD hS oq kw_107 dJx4a65c_add_9ea2d_7 (fun H locs hP hD hS => ?_)
    refine lv_aload_n hx hb dJx4a65c_add_9ea2d_10 rfl (lv_at hl 0 rfl) ?_
    refine lv_aload_n hx hb dJx4a65c_add_9ea2d_11 rfl (lv_at hl 1 rfl) ?_
    refine lv_aload_n hx hb dJx4a65c_add_9ea2d_12 rfl (lv_at hl 0 rfl) ?_
    refine rs_ArrayList_elementData (b := d) F hK hP oq hd kw_41 dJx4a65c_add_9ea2d_13 ?_
    refine lv_aload_n hx hb dJx4a65c_add_9ea2d_16 rfl (lv_at hl 0 rfl) ?_
    refine rg_ArrayList_size F hK hP oq kw_94 dJx4a65c_add_9ea2d_17 ?_
    refine lv_topi (fun x7 ex7 => ?_)
    obtain rfl : x7 = (nI n) := by rw [ex7]; exact hs0
    refine kcallU (kV (n := 3) (As := [.ref x, .ref d, .int (nI n)]) (rest := []) (b := q) (C := RJx4a65c) F hE hK hP hD hS hA (c_Jx4a65c_add_72be8_c1 l hl0 g e0 (setF S 70 q x6) _ q x oq ox d n hd od hn2 hN) (rr_ArrayList hK hP oq) kw_109 kw_110 kw_111 kw_22 kw_112 (by decide +kernel) ⟨Nat.le_of_ble_eq_true rfl, Nat.le_of_ble_eq_true rfl⟩ rfl hl.1 rfl (Nat.le_of_ble_eq_true rfl) dJx4a65c_add_9ea2d_20 ⟨Nat.le_of_ble_eq_true rfl, Nat.le_of_ble_eq_true rfl⟩) rfl hD hS hA (fun _ _ _ _ _ h => False.elim h) (fun T8 H locs hp hP hD hS => ?_)
    obtain ⟨v, i, hv9, hi9, hT⟩ := hp
    subst hT
    refine lv_iconst (v := 1) hx hb dJx4a65c_add_9ea2d_23 (by decide) ?_
    exact kEndI F hr rfl hlk hP hD hS (Nat.le_of_ble_eq_true rfl) (Nat.le_of_ble_eq_true rfl) dJx4a65c_add_9ea2d_24 ⟨_, rfl, ⟨addR_C he oq ox hd od hN hn2 hx9 hi9 hv9, addX_C hd hi9⟩⟩
  · exact absurd hn4 (by omega)
set_option maxHeartbeats 4000000 in
set_option maxRecDepth 100000 in
theorem c_Jx4a65c_add_9ea2d2x (l : Launch) (hl0 : l.stackTraces = false) (g : kG) (e0 : Nat) (S : wPS) (sz : Nat) (q x n : Nat) (oq : Ob S 7 q) (ox : Ob S 2 x) (hL : LI S e0 q 2 n) (hn : n ≤ 11) (he : e0 ∉ pL S) : kM l g e0 yJx4a65c_add_9ea2d cJx4a65c_add_9ea2d 2 (some .boolean) 6 134 1 15 [.ref q, .ref x] S sz (pI (fun r T => AddR S T e0 q 2 n ∧ AddX S T q n x)) (fun E => False) := by
  refine kM.of (by decide) (Nat.le_of_ble_eq_true rfl) ?_
  intro p e s m below meth c ls B hin
  obtain ⟨F, hr, hlk, hte, hP, hK, hD, hE, hS, hA, hl, hsz⟩ := B
  subst hsz
  have hx := F.1
  have hb := F.2.1
  have hl : lv_has ls 2 [(0, .ref q), (1, .ref x)] := hl
  obtain ⟨hs0, hdat⟩ := hL
  have hdat : (n = 0 ∧ pG S 71 q = some e0) ∨ (∃ d, pG S 71 q = some d ∧ Ob S 13 d ∧ (pN S d = 10 ∨ pN S d = 15) ∧ n < pN S d ∧ ∀ i, i < n → ∃ b, pY S d i = some b ∧ Ob S 2 b) ∨ (∃ d, pG S 71 q = some d ∧ Ob S 13 d ∧ (pN S d = 10 ∨ pN S d = 15) ∧ n = pN S d ∧ ∀ i, i < n → ∃ b, pY S d i = some b ∧ Ob S 2 b) := by
    rcases hdat with h | ⟨d, h1, h2, h3, h4, h5⟩
    · exact Or.inl h
    · rcases Nat.lt_or_ge n (pN S d) with q | q
      · exact Or.inr (Or.inl ⟨d, h1, h2, h3, q, h5⟩)
      · exact Or.inr (Or.inr ⟨d, h1, h2, h3, by omega, h5⟩)
  rcases hdat with ⟨hz, hd⟩ | ⟨d, hd, od, hN, hn3, hx9⟩ | ⟨d, hd, od, hN1, hn4, hx9⟩
  · subst hz
    have hs : pF S 72 q = 0 := hs0
    refine lv_aload_n hx hb dJx4a65c_add_9ea2d_0 rfl (lv_at hl 0 rfl) ?_
    refine lv_dup hx hb dJx4a65c_add_9ea2d_1 rfl ?_
    refine rg_ArrayList_modCountA F hK hP oq kw_107 dJx4a65c_add_9ea2d_2 ?_
    refine lv_topi (fun x1 ex1 => ?_)
    refine lv_iconst (v := 1) hx hb dJx4a65c_add_9ea2d_5 (by decide) ?_
    refine lv_iadd hx hb dJx4a65c_add_9ea2d_6 ?_
    refine lv_topi (fun x2 ex2 => ?_)
    refine rp_ArrayList_modCountA F hK hP hD hS oq kw_107 dJx4a65c_add_9ea2d_7 (fun H locs hP hD hS => ?_)
    refine lv_aload_n hx hb dJx4a65c_add_9ea2d_10 rfl (lv_at hl 0 rfl) ?_
    refine lv_aload_n hx hb dJx4a65c_add_9ea2d_11 rfl (lv_at hl 1 rfl) ?_
    refine lv_aload_n hx hb dJx4a65c_add_9ea2d_12 rfl (lv_at hl 0 rfl) ?_
    refine rs_ArrayList_elementData (b := e0) F hK hP oq hd kw_41 dJx4a65c_add_9ea2d_13 ?_
    refine lv_aload_n hx hb dJx4a65c_add_9ea2d_16 rfl (lv_at hl 0 rfl) ?_
    refine rg_ArrayList_size F hK hP oq kw_94 dJx4a65c_add_9ea2d_17 ?_
    refine lv_topi (fun x3 ex3 => ?_)
    obtain rfl : x3 = 0 := by rw [ex3]; exact hs0
    refine kcallU (kV (n := 3) (As := [.ref x, .ref e0, .int 0]) (rest := []) (b := q) (C := RJx4a65c) F hE hK hP hD hS hA (c_Jx4a65c_add_72be8_a2 l hl0 g e0 (setF S 70 q x2) _ q x oq ox hd hs) (rr_ArrayList hK hP oq) kw_109 kw_110 kw_111 kw_22 kw_112 (by decide +kernel) ⟨Nat.le_of_ble_eq_true rfl, Nat.le_of_ble_eq_true rfl⟩ rfl hl.1 rfl (Nat.le_of_ble_eq_true rfl) dJx4a65c_add_9ea2d_20 ⟨Nat.le_of_ble_eq_true rfl, Nat.le_of_ble_eq_true rfl⟩) rfl hD hS hA (fun _ _ _ _ _ h => False.elim h) (fun T4 H locs hp hP hD hS => ?_)
    obtain ⟨d, v, i, hq9, hv9, hi9, hT⟩ := hp
    subst hT
    refine lv_iconst (v := 1) hx hb dJx4a65c_add_9ea2d_23 (by decide) ?_
    exact kEndI F hr rfl hlk hP hD hS (Nat.le_of_ble_eq_true rfl) (Nat.le_of_ble_eq_true rfl) dJx4a65c_add_9ea2d_24 ⟨_, rfl, ⟨addR_A he oq ox hd hq9 (fun e => hE.2.1.out (by rw [← e]; exact kD_in hD (List.mem_append_right _ List.mem_cons_self))) hi9 hv9, addX_A hi9⟩⟩
  · have hn2 : n < pN S d := hn3
    refine lv_aload_n hx hb dJx4a65c_add_9ea2d_0 rfl (lv_at hl 0 rfl) ?_
    refine lv_dup hx hb dJx4a65c_add_9ea2d_1 rfl ?_
    refine rg_ArrayList_modCountA F hK hP oq kw_107 dJx4a65c_add_9ea2d_2 ?_
    refine lv_topi (fun x5 ex5 => ?_)
    refine lv_iconst (v := 1) hx hb dJx4a65c_add_9ea2d_5 (by decide) ?_
    refine lv_iadd hx hb dJx4a65c_add_9ea2d_6 ?_
    refine lv_topi (fun x6 ex6 => ?_)
    refine rp_ArrayList_modCountA F hK hP hD hS oq kw_107 dJx4a65c_add_9ea2d_7 (fun H locs hP hD hS => ?_)
    refine lv_aload_n hx hb dJx4a65c_add_9ea2d_10 rfl (lv_at hl 0 rfl) ?_
    refine lv_aload_n hx hb dJx4a65c_add_9ea2d_11 rfl (lv_at hl 1 rfl) ?_
    refine lv_aload_n hx hb dJx4a65c_add_9ea2d_12 rfl (lv_at hl 0 rfl) ?_
    refine rs_ArrayList_elementData (b := d) F hK hP oq hd kw_41 dJx4a65c_add_9ea2d_13 ?_
    refine lv_aload_n hx hb dJx4a65c_add_9ea2d_16 rfl (lv_at hl 0 rfl) ?_
    refine rg_ArrayList_size F hK hP oq kw_94 dJx4a65c_add_9ea2d_17 ?_
    refine lv_topi (fun x7 ex7 => ?_)
    obtain rfl : x7 = (nI n) := by rw [ex7]; exact hs0
    refine kcallU (kV (n := 3) (As := [.ref x, .ref d, .int (nI n)]) (rest := []) (b := q) (C := RJx4a65c) F hE hK hP hD hS hA (c_Jx4a65c_add_72be8_c2 l hl0 g e0 (setF S 70 q x6) _ q x oq ox d n hd od hn2 hN) (rr_ArrayList hK hP oq) kw_109 kw_110 kw_111 kw_22 kw_112 (by decide +kernel) ⟨Nat.le_of_ble_eq_true rfl, Nat.le_of_ble_eq_true rfl⟩ rfl hl.1 rfl (Nat.le_of_ble_eq_true rfl) dJx4a65c_add_9ea2d_20 ⟨Nat.le_of_ble_eq_true rfl, Nat.le_of_ble_eq_true rfl⟩) rfl hD hS hA (fun _ _ _ _ _ h => False.elim h) (fun T8 H locs hp hP hD hS => ?_)
    obtain ⟨v, i, hv9, hi9, hT⟩ := hp
    subst hT
    refine lv_iconst (v := 1) hx hb dJx4a65c_add_9ea2d_23 (by decide) ?_
    exact kEndI F hr rfl hlk hP hD hS (Nat.le_of_ble_eq_true rfl) (Nat.le_of_ble_eq_true rfl) dJx4a65c_add_9ea2d_24 ⟨_, rfl, ⟨addR_C he oq ox hd od hN hn2 hx9 hi9 hv9, addX_C hd hi9⟩⟩
  · have hn10 : n = 10 := by omega
    subst hn10
    have hN : pN S d = 10 := hn4.symm
    have hs : pF S 72 q = 10 := hs0
    have hel : ∀ i y, i < 10 → pY S d i = some y → Ob S 2 y := fun i y hi hy => by
      obtain ⟨y2, h1, h2⟩ := hx9 i hi
      rw [h1] at hy
      rw [← Option.some.inj hy]; exact h2
    refine lv_aload_n hx hb dJx4a65c_add_9ea2d_0 rfl (lv_at hl 0 rfl) ?_
    refine lv_dup hx hb dJx4a65c_add_9ea2d_1 rfl ?_
    refine rg_ArrayList_modCountA F hK hP oq kw_107 dJx4a65c_add_9ea2d_2 ?_
    refine lv_topi (fun x9 ex9 => ?_)
    refine lv_iconst (v := 1) hx hb dJx4a65c_add_9ea2d_5 (by decide) ?_
    refine lv_iadd hx hb dJx4a65c_add_9ea2d_6 ?_
    refine lv_topi (fun x10 ex10 => ?_)
    refine rp_ArrayList_modCountA F hK hP hD hS oq kw_107 dJx4a65c_add_9ea2d_7 (fun H locs hP hD hS => ?_)
    refine lv_aload_n hx hb dJx4a65c_add_9ea2d_10 rfl (lv_at hl 0 rfl) ?_
    refine lv_aload_n hx hb dJx4a65c_add_9ea2d_11 rfl (lv_at hl 1 rfl) ?_
    refine lv_aload_n hx hb dJx4a65c_add_9ea2d_12 rfl (lv_at hl 0 rfl) ?_
    refine rs_ArrayList_elementData (b := d) F hK hP oq hd kw_41 dJx4a65c_add_9ea2d_13 ?_
    refine lv_aload_n hx hb dJx4a65c_add_9ea2d_16 rfl (lv_at hl 0 rfl) ?_
    refine rg_ArrayList_size F hK hP oq kw_94 dJx4a65c_add_9ea2d_17 ?_
    refine lv_topi (fun x11 ex11 => ?_)
    obtain rfl : x11 = 10 := by rw [ex11]; exact hs0
    refine kcallU (kV (n := 3) (As := [.ref x, .ref d, .int 10]) (rest := []) (b := q) (C := RJx4a65c) F hE hK hP hD hS hA (c_Jx4a65c_add_72be8_b2 l hl0 g e0 (setF S 70 q x10) _ q x oq ox d hd od hN hel hs) (rr_ArrayList hK hP oq) kw_109 kw_110 kw_111 kw_22 kw_112 (by decide +kernel) ⟨Nat.le_of_ble_eq_true rfl, Nat.le_of_ble_eq_true rfl⟩ rfl hl.1 rfl (Nat.le_of_ble_eq_true rfl) dJx4a65c_add_9ea2d_20 ⟨Nat.le_of_ble_eq_true rfl, Nat.le_of_ble_eq_true rfl⟩) rfl hD hS hA (fun _ _ _ _ _ h => False.elim h) (fun T12 H locs hp hP hD hS => ?_)
    obtain ⟨d1, v, i, hq9, hv9, hi9, hT⟩ := hp
    subst hT
    refine lv_iconst (v := 1) hx hb dJx4a65c_add_9ea2d_23 (by decide) ?_
    exact kEndI F hr rfl hlk hP hD hS (Nat.le_of_ble_eq_true rfl) (Nat.le_of_ble_eq_true rfl) dJx4a65c_add_9ea2d_24 ⟨_, rfl, ⟨addR_B he oq ox hd od hx9 (fun i hi => pk_cpy_in (Nat.zero_le i) (by omega) |>.trans (by rw [Nat.zero_add, Nat.sub_zero]; rfl)) hq9 (fun e => hE.2.1.out (by rw [← e]; exact kD_in hD (List.mem_append_right _ List.mem_cons_self))) hi9 hv9, addX_B hd (fun i hi => pk_cpy_in (Nat.zero_le i) (by omega) |>.trans (by rw [Nat.zero_add, Nat.sub_zero]; rfl)) hi9⟩⟩
theorem c_X5_scan_y (l : Launch) (hl0 : l.stackTraces = false) (g : kG) (e0 : Nat) (z : Nat → Nat) (S : wPS) (sz : Nat) (hI : Inv z e0 S) (av lv : Nat → Nat) (q : qS) (hR : Rq z av lv S q) (n sn : Nat) (hn : n < q 73 0) (sg : Int32) (hs : sg = nI sn) (hs16 : sn < 65536) (hsg : kCh sg) (hroom : q 42 0 < 516) (h24 : q 24 n < 65536) (hp : q 24 n = 112 → q 23 n ≤ q 14 (q 21 n) ∧ q_st sn ≠ 112) (x : Nat) (hx : lv n = x) : kM l g e0 yX5_scan cX5_scan 4 none 1 22 0 0 [.ref (z 0), .ref x, .int sg] S sz (pU (fun T => Kp z S T ∧ Rq z av lv T (q_scan n sn q))) (fun E => False) := by
  subst hx
  exact c_X5_scan_x l hl0 g e0 z S sz hI av lv q hR n sn hn sg hs hs16 hsg hroom h24 hp
set_option maxHeartbeats 4000000 in
set_option maxRecDepth 100000 in
theorem c_X5_letCome_x (l : Launch) (hl0 : l.stackTraces = false) (g : kG) (e0 : Nat) (z : Nat → Nat) (S : wPS) (sz : Nat) (hI : Inv z e0 S) (av lv : Nat → Nat) (q : qS) (hR : Rq z av lv S q) (a amn can : Nat) (ha : a < q 72 0) (h72 : q 72 0 ≤ 12) (h11 : q 73 0 ≤ 11) (am ca : Int32) (ham : am = nI amn) (hca : ca = nI can) (hroom : q 42 0 < 516) : kM l g e0 yX5_letCome cX5_letCome 5 (some .int) 7 155 2 21 [.ref (z 0), .ref (av a), .int am, .int ca] S sz (pI (fun r T => Inv z e0 T ∧ (∃ x, Rq z av (lvu lv (q 73 0) x) T (q_come a amn can q)) ∧ r = nI (q 73 0))) (fun E => False) := by
  refine kM.of (by decide) (Nat.le_of_ble_eq_true rfl) ?_
  intro p e s m below meth c ls B hin
  obtain ⟨F, hr, hlk, hte, hP, hK, hD, hE, hS, hA, hl, hsz⟩ := B
  subst hsz
  have hx := F.1
  have hb := F.2.1
  have hl : lv_has ls 5 [(0, .ref (z 0)), (1, .ref (av a)), (2, .int am), (3, .int ca)] := hl
  refine rn_Line F hK hP hD hS hA kw_272 kw_308 kw_309 (Nat.le_of_ble_eq_true rfl) (Nat.le_of_ble_eq_true rfl) dX5_letCome_0 (fun q1 H hq1 hP hD hS => ?_)
  refine lv_dup hx hb dX5_letCome_3 rfl ?_
  refine lv_aload_n hx hb dX5_letCome_4 rfl (lv_at hl 0 rfl) ?_
  refine rs_Pickwave_lines (b := z 11) F hK hP (obO_old (kd := 2) hq1 (hI.1.1 0 (by decide))) ((va_up_ne _ _ (kne hq1 (hI.1.1 0 (by decide)))).trans hI.2.1.2.2.2.2.1) kw_24 dX5_letCome_5 ?_
  refine kcallI (kV (n := 0) (As := []) (rest := [.ref q1, .ref q1]) (b := (z 11)) (C := RJx4a65c) F hE hK hP hD hS hA (c_Jx4a65c_size_8abf5 l hl0 g e0 (newO S q1 2) _ (z 11) (obO_old (kd := 2) hq1 (hI.1.1 11 (by decide)))) (rr_ArrayList hK hP (obO_old (kd := 2) hq1 (hI.1.1 11 (by decide)))) kw_90 kw_91 kw_92 kw_22 kw_93 (by decide +kernel) ⟨Nat.le_of_ble_eq_true rfl, Nat.le_of_ble_eq_true rfl⟩ rfl hl.1 rfl (Nat.le_of_ble_eq_true rfl) dX5_letCome_8 ⟨Nat.le_of_ble_eq_true rfl, Nat.le_of_ble_eq_true rfl⟩) rfl hD hS hA (fun _ _ _ _ _ h => False.elim h) (fun r2 T2 H locs hp hP hD hS => ?_)
  obtain ⟨hT, hp3⟩ := hp
  have hT := hT.symm
  subst hT
  refine lv_aload_n hx hb dX5_letCome_11 rfl (lv_at hl 1 rfl) ?_
  refine lv_iload_n hx hb dX5_letCome_12 rfl (lv_at hl 2 rfl) ?_
  refine lv_iload_n hx hb dX5_letCome_13 rfl (lv_at hl 3 rfl) ?_
  refine kcallU (kIn (n := 4) (As := [.int r2, .ref (av a), .int am, .int ca]) (rest := [.ref q1]) (b := q1) F hE hK hP hD hS hA (c_X2_init l hl0 g e0 (newO S q1 2) _ q1 (av a) r2 am ca (obO_new (S := S) (q := q1) (kd := 2))) kw_311 kw_312 kw_309 kw_313 rfl (by decide +kernel) ⟨Nat.le_of_ble_eq_true rfl, Nat.le_of_ble_eq_true rfl⟩ rfl hl.1 rfl (Nat.le_of_ble_eq_true rfl) dX5_letCome_14 ⟨Nat.le_of_ble_eq_true rfl, Nat.le_of_ble_eq_true rfl⟩) rfl hD hS hA (fun _ _ _ _ _ h => False.elim h) (fun T4 H locs hp hP hD hS => ?_)
  have hN : NewO S T4 q1 2 := by rw [hp]; exact (NewO.mk hq1).f.g.f.f.f.f
  have e24 : pF T4 24 q1 = nI 111 := by rw [hp]; exact (uF_of (Or.inl (by decide))).trans uF_at
  have e25 : pF T4 25 q1 = nI 0 - 1 := by rw [hp]; exact uF_at.trans (by decide)
  have e22 : pF T4 22 q1 = nI can := by rw [hp]; exact ((uF_of (Or.inl (by decide))).trans ((uF_of (Or.inl (by decide))).trans uF_at)).trans hca
  have e23 : pF T4 23 q1 = nI amn := by rw [hp]; exact ((uF_of (Or.inl (by decide))).trans ((uF_of (Or.inl (by decide))).trans ((uF_of (Or.inl (by decide))).trans uF_at))).trans ham
  have e20 : pF T4 20 q1 = nI (q 73 0) := by rw [hp]; exact ((uF_of (Or.inl (by decide))).trans ((uF_of (Or.inl (by decide))).trans ((uF_of (Or.inl (by decide))).trans ((uF_of (Or.inl (by decide))).trans (uF_at (S := newO S q1 2) (k := 20) (a := q1) (v := r2)))))).trans (show r2 = nI (q 73 0) from hp3.trans ((show pF (newO S q1 2) 72 (z 11) = pF S 72 (z 11) from va_up_ne _ _ (kne hq1 (hI.1.1 11 (by decide)))).trans hR.2.2.2.1.2))
  have e21 : pG T4 21 q1 = some (av a) := by rw [hp]; exact uG_at
  have hI2 : Inv z e0 T4 := hI.new hN (fun e => hE.2.1.out (by rw [e]; exact kD_in hD hN.self.1)) (Or.inl ⟨rfl, by rw [e24]; exact ⟨rfl, rfl⟩, av a, e21, (hR.1 a ha).1⟩)
  have hR2 : Rq z av lv T4 q := hR.nob hI hN
  obtain ⟨m1, hm1, hL1⟩ := hI2.lines
  obtain rfl : m1 = q 73 0 := nI_inj (by omega) (by omega) (hL1.1.symm.trans hR2.2.2.2.1.2)
  refine lv_astore (lv' := [(4, .ref q1), (0, .ref (z 0)), (1, .ref (av a)), (2, .int am), (3, .int ca)]) hx hb dX5_letCome_17 hl (by decide) rfl (fun ls hl => ?_)
  refine lv_aload_n hx hb dX5_letCome_19 rfl (lv_at hl 1 rfl) ?_
  refine rs_Pickwave_lines (b := z 11) F hK hP (hI2.1.1 0 (by decide)) hI2.2.1.2.2.2.2.1 kw_24 dX5_letCome_20 ?_
  refine lv_aload hx hb dX5_letCome_23 (lv_at hl 0 rfl) ?_
  refine kcallI (kV (n := 1) (As := [.ref q1]) (rest := []) (b := (z 11)) (C := RJx4a65c) F hE hK hP hD hS hA (c_Jx4a65c_add_9ea2d2x l hl0 g e0 T4 _ (z 11) q1 (q 73 0) (hI2.1.1 11 (by decide)) hN.self hL1 h11 hI2.2.2.2.2.1.2.2.2) (rr_ArrayList hK hP (hI2.1.1 11 (by decide))) kw_103 kw_104 kw_105 kw_22 kw_106 (by decide +kernel) ⟨Nat.le_of_ble_eq_true rfl, Nat.le_of_ble_eq_true rfl⟩ rfl hl.1 rfl (Nat.le_of_ble_eq_true rfl) dX5_letCome_25 ⟨Nat.le_of_ble_eq_true rfl, Nat.le_of_ble_eq_true rfl⟩) rfl hD hS hA (fun _ _ _ _ _ h => False.elim h) (fun r5 T5 H locs hp hP hD hS => ?_)
  obtain ⟨hAd, hX⟩ := hp
  have hI3 : Inv z e0 T5 := hI2.add (Or.inr ⟨rfl, rfl, (by omega)⟩) hAd
  have hR3 : Rq z av (lvu lv (q 73 0) q1) T5 (q_new a amn can q) := hR2.addl hI2 h72 hAd hX hN.self (fun i hi e => hq1 (by rw [← e]; exact (hR.2.1 i hi).1.1)) ha e20 e21 e22 e23 e24 e25
  have hxq : q 73 0 < q_new a amn can q 73 0 := by rw [q_new_73]; omega
  have hroom2 : q_new a amn can q 42 0 < 516 := by rw [q_new_o (by decide)]; exact hroom
  have h24 : q_new a amn can q 24 (q 73 0) < 65536 := by rw [q_new_24]; decide
  have hpp : q_new a amn can q 24 (q 73 0) = 112 → q_new a amn can q 23 (q 73 0) ≤ q_new a amn can q 14 (q_new a amn can q 21 (q 73 0)) ∧ q_st 110 ≠ 112 := fun h => absurd (q_new_24.symm.trans h) (by decide)
  refine lv_pop hx hb dX5_letCome_28 rfl ?_
  refine lv_aload_n hx hb dX5_letCome_29 rfl (lv_at hl 1 rfl) ?_
  refine lv_aload hx hb dX5_letCome_30 (lv_at hl 0 rfl) ?_
  refine lv_bipush (v := 110) hx hb dX5_letCome_32 (by decide) ?_
  refine kcallU (kV (n := 2) (As := [.ref q1, .int 110]) (rest := []) (b := (z 0)) (C := RX5) F hE hK hP hD hS hA (c_X5_scan_y l hl0 g e0 z T5 _ hI3 av (lvu lv (q 73 0) q1) (q_new a amn can q) hR3 (q 73 0) 110 hxq 110 (rfl : (110 : Int32) = nI 110) (by decide) ⟨rfl, rfl⟩ hroom2 h24 hpp q1 lvu_at) (rr_Pickwave hK hP (hI3.1.1 0 (by decide))) kw_321 kw_322 kw_323 kw_2 kw_324 (by decide +kernel) ⟨Nat.le_of_ble_eq_true rfl, Nat.le_of_ble_eq_true rfl⟩ rfl hl.1 rfl (Nat.le_of_ble_eq_true rfl) dX5_letCome_34 ⟨Nat.le_of_ble_eq_true rfl, Nat.le_of_ble_eq_true rfl⟩) rfl hD hS hA (fun _ _ _ _ _ h => False.elim h) (fun T6 H locs hp hP hD hS => ?_)
  obtain ⟨hk7, hr7⟩ := hp
  have N7 : Kp z T5 T6 := hk7
  have K7 : Kp z T5 T6 := Kp.trans hI3.kp N7
  have I7 : Inv z e0 T6 := hI3.keep K7.1
  have o8 : Ob T6 2 q1 := N7.1.ob (hAd.1 _ _ hN.self)
  refine lv_aload hx hb dX5_letCome_37 (lv_at hl 0 rfl) ?_
  refine rg_Line_number F hK hP o8 kw_310 dX5_letCome_39 ?_
  refine lv_topi (fun x9 ex9 => ?_)
  exact kEndI F hr rfl hlk hP hD hS (Nat.le_of_ble_eq_true rfl) (Nat.le_of_ble_eq_true rfl) dX5_letCome_42 ⟨_, rfl, ⟨hI3.keep K7.1, ⟨q1, hr7⟩, (show x9 = nI (q 73 0) from (ex9.trans (by have h9 := (hr7.2.1 (q 73 0) (by rw [q_scan_o (by decide)]; exact hxq)).2.2.2.2.1; rw [lvu_at] at h9; exact h9)))⟩⟩
