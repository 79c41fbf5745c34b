/-- an order's amount is changed that is neither promised nor shipped -/
theorem q_am_V {q : qS} {n v : Nat} (h : q_V q) (hn : n < q 73 0) (h1 : q 24 n ≠ 112) (h2 : q 24 n ≠ 115) (hv : 1 ≤ v ∨ q 24 n = 100) (h20 : v ≤ 20) : q_V (q_up q 23 n v) := by
  obtain ⟨w1, w2, w4, w5, w6, w7, w8⟩ := h
  have e : ∀ k, k ≠ 23 → ∀ i, q_up q 23 n v k i = q k i := fun k hk i => q_k hk
  have l : ∀ m k', q_last (q_up q 23 n v) m k' = q_last q m k' := fun m k' => q_last_congr (fun j _ => e 43 (by decide) j) (fun j _ => e 44 (by decide) j)
  have ct : ∀ m k', q_cnt (q_up q 23 n v) m k' = q_cnt q m k' := fun m k' => q_cnt_congr (fun j _ => e 43 (by decide) j)
  refine ⟨?_, ?_, ?_, ?_, ?_, ?_, ?_⟩
  · unfold q_W1
    rw [e 72 (by decide), e 73 (by decide)]
    exact ⟨w1.1, w1.2.1, fun m hm => by rw [e 21 (by decide), e 22 (by decide)]; exact w1.2.2.1 m hm, fun a ha => by rw [e 10 (by decide)]; exact w1.2.2.2 a ha⟩
  · intro a ha
    rw [e 72 (by decide)] at ha
    rw [e 14 (by decide), e 73 (by decide), w2 a ha]
    have s := q_sum_up (q := q) (r := q_up q 23 n v) (a := a) hn (fun i => e 21 (by decide) i) (fun i _ => e 24 (by decide) i) (fun i hi => q_i hi)
    unfold q_term at s
    rw [e 24 (by decide), if_neg (fun e9 => h1 e9.2), if_neg (fun e9 => h1 e9.2)] at s
    exact s.symm
  · intro m hm
    rw [e 73 (by decide)] at hm
    rw [e 24 (by decide), e 25 (by decide), e 57 (by decide)]
    by_cases c : m = n
    · subst c; rw [q_at]; exact ⟨(w4 m hm).1, hv, h20, (w4 m hm).2.2.2⟩
    · rw [q_i c]; exact w4 m hm
  · unfold q_W5
    rw [e 42 (by decide), e 73 (by decide)]
    exact ⟨fun k' hk' => by rw [e 43 (by decide), e 44 (by decide), l]; exact w5.1 k' hk', fun m hm => by rw [l, e 24 (by decide)]; exact w5.2 m hm⟩
  · unfold q_W6
    rw [e 57 (by decide), e 73 (by decide), e 42 (by decide)]
    exact ⟨w6.1, fun m hm => by rw [ct, e 24 (by decide)]; exact w6.2 m hm⟩
  · intro r hr
    rw [e 30 (by decide), e 31 (by decide), e 32 (by decide), e 72 (by decide)]
    exact w7 r hr
  · unfold q_W8
    rw [e 59 (by decide), e 73 (by decide), w8]
    have s := q_shp_up (q := q) (r := q_up q 23 n v) hn (fun i _ => e 24 (by decide) i) (fun i hi => q_i hi)
    unfold q_sterm at s
    rw [e 24 (by decide), if_neg h2, if_neg h2] at s
    exact s.symm
theorem q_re_14 {P : qS → Nat → Bool} {m a : Nat} {q : qS} : q_re P m q 14 a ≤ q 14 a := by
  induction m with
  | zero => exact Nat.le_refl _
  | succ m ih =>
    show (if P (q_re P m q) m = true then q_scan m 117 (q_re P m q) else q_re P m q) 14 a ≤ q 14 a
    split
    · by_cases c : a = q_re P m q 21 m
      · subst c
        rw [q_scan_14, if_neg (show ¬ q_st 117 = 112 by decide)]
        exact Nat.le_trans (Nat.sub_le _ _) ih
      · rw [q_scan_14o c]; exact ih
    · exact ih
/-- pick with all found -/
def q_pickA (n : Nat) (q : qS) : qS := q_up (q_scan n 107 q) 12 (q 21 n) (q 12 (q 21 n) - q 23 n)
theorem q_pickA_W {q : qS} {n : Nat} (h : q_W q) (hn : n < q 73 0) (hp : q 24 n = 112) (h1 : 1 ≤ q 23 n) : q_W (q_pickA n q) := by
  obtain ⟨v, w3, w4b⟩ := h
  have v1 := q_V_scan v hn (Or.inr (Or.inl ⟨rfl, hp, h1⟩))
  refine ⟨q_up_V v1.1 (by decide) (by decide), ?_, q_up_W4b (q_scan_W4b w4b v1.2) (by decide)⟩
  intro a ha
  unfold q_pickA at ha ⊢
  rw [q_k (by decide), q_scan_o (by decide)] at ha
  rw [q_k (k' := 14) (by decide), q_k (k' := 11) (by decide), q_scan_o (k := 11) (by decide)]
  obtain ⟨b1, b2, b3⟩ := w3 a ha
  by_cases c : a = q 21 n
  · subst c
    rw [q_at, q_scan_14, if_pos hp, if_neg (show ¬ q_st 107 = 112 by decide)]
    omega
  · rw [q_i c, q_scan_14o c, q_scan_o (k := 12) (by decide)]
    exact ⟨b1, b2, b3⟩
/-- pick with less than all found: an order more, the shelf is empty, its other promised orders are open again -/
def q_split (n f : Nat) (q : qS) : qS :=
  q_re (q_PI (q 21 n)) (q 73 0 + 1) (q_up (q_come (q 21 n) (q 23 n - f) (q 22 n) (q_up (q_scan n (if f = 0 then 100 else 107) q) 23 n f)) 12 (q 21 n) 0)
theorem q_split_W {q : qS} {n f : Nat} (h : q_W q) (hn : n < q 73 0) (hp : q 24 n = 112) (hf : f < q 23 n) (h12 : q 73 0 < 12) : q_W (q_split n f q) := by
  obtain ⟨v, w3, w4b⟩ := h
  have hs : ((if f = 0 then 100 else 107) = 117 ∧ q 24 n = 112) ∨ ((if f = 0 then 100 else 107) = 107 ∧ q 24 n = 112 ∧ 1 ≤ q 23 n) ∨ ((if f = 0 then 100 else 107) = 100 ∧ (q 24 n = 111 ∨ q 24 n = 112)) := by
    by_cases c : f = 0
    · rw [if_pos c]; exact Or.inr (Or.inr ⟨rfl, Or.inr hp⟩)
    · rw [if_neg c]; exact Or.inr (Or.inl ⟨rfl, hp, by omega⟩)
  have hst : q_st (if f = 0 then 100 else 107) = (if f = 0 then 100 else 107) := by by_cases c : f = 0 <;> simp [c, q_st]
  have v1 := q_V_scan v hn hs
  have n1 : q_scan n (if f = 0 then 100 else 107) q 73 0 = q 73 0 := q_scan_o (by decide)
  have s1 : q_scan n (if f = 0 then 100 else 107) q 24 n = (if f = 0 then 100 else 107) := by rw [q_scan_24, hst]
  have a20 := (v.2.2.1 n hn).2.2.1
  have v2 : q_V (q_up (q_scan n (if f = 0 then 100 else 107) q) 23 n f) := q_am_V v1.1 (by rw [n1]; exact hn) (by rw [s1]; by_cases c : f = 0 <;> simp [c]) (by rw [s1]; by_cases c : f = 0 <;> simp [c]) (by rw [s1]; by_cases c : f = 0; exact Or.inr (by rw [if_pos c]); exact Or.inl (by omega)) (by omega)
  have n2 : q_up (q_scan n (if f = 0 then 100 else 107) q) 23 n f 73 0 = q 73 0 := (q_k (by decide)).trans n1
  have m2 : q_up (q_scan n (if f = 0 then 100 else 107) q) 23 n f 72 0 = q 72 0 := (q_k (by decide)).trans (q_scan_o (by decide))
  have hla := v.1.2.2.1 n hn
  have v3 : q_V (q_come (q 21 n) (q 23 n - f) (q 22 n) (q_up (q_scan n (if f = 0 then 100 else 107) q) 23 n f)) := q_come_V v2 (by rw [m2]; exact hla.1) hla.2 (by omega) (by omega) (by rw [n2]; exact h12)
  have n3 : q_come (q 21 n) (q 23 n - f) (q 22 n) (q_up (q_scan n (if f = 0 then 100 else 107) q) 23 n f) 73 0 = q 73 0 + 1 := by
    unfold q_come; rw [q_scan_o (by decide), q_new_73, n2]
  have v4 := q_up_V (k := 12) (i := q 21 n) (v := 0) v3 (by decide) (by decide)
  have n4 : q_up (q_come (q 21 n) (q 23 n - f) (q 22 n) (q_up (q_scan n (if f = 0 then 100 else 107) q) 23 n f)) 12 (q 21 n) 0 73 0 = q 73 0 + 1 := (q_k (by decide)).trans n3
  have v5 : q_V (q_split n f q) := q_re_V v4 (by rw [n4]; exact Nat.le_refl _) q_PI_p
  have n5 : q_split n f q 73 0 = q 73 0 + 1 := (q_re_o (by decide)).trans n4
  refine ⟨v5, ?_, ?_⟩
  · intro b hb
    have e12 : q_split n f q 12 b = q_up (q_come (q 21 n) (q 23 n - f) (q 22 n) (q_up (q_scan n (if f = 0 then 100 else 107) q) 23 n f)) 12 (q 21 n) 0 12 b := q_re_o (by decide)
    have e11 : q_split n f q 11 b = q 11 b := (q_re_o (by decide)).trans ((q_k (by decide)).trans ((q_scan_o (by decide)).trans ((q_new_o (by decide)).trans ((q_k (by decide)).trans (q_scan_o (by decide))))))
    have e72 : q_split n f q 72 0 = q 72 0 := (q_re_o (by decide)).trans ((q_k (by decide)).trans ((q_scan_o (by decide)).trans ((q_new_o (by decide)).trans m2)))
    have hb' := hb
    rw [e72] at hb
    obtain ⟨b1, b2, b3⟩ := w3 b hb
    rw [e11, e12]
    by_cases c : b = q 21 n
    · subst c
      rw [q_at]
      refine ⟨?_, Nat.zero_le _, b3⟩
      rw [v5.2.1 _ hb', n5, q_sum_zero (fun m hm hmp => ?_)]
      · exact Nat.le_refl _
      · have := q_re_PI (m := q 73 0 + 1) hm hmp
        have e21 : q_split n f q 21 m = q_up (q_come (q 21 n) (q 23 n - f) (q 22 n) (q_up (q_scan n (if f = 0 then 100 else 107) q) 23 n f)) 12 (q 21 n) 0 21 m := q_re_o (by decide)
        rw [e21]; exact this
    · rw [q_i c]
      have e12b : q_come (q 21 n) (q 23 n - f) (q 22 n) (q_up (q_scan n (if f = 0 then 100 else 107) q) 23 n f) 12 b = q 12 b := (q_scan_o (by decide)).trans ((q_new_o (by decide)).trans ((q_k (by decide)).trans (q_scan_o (by decide))))
      rw [e12b]
      refine ⟨?_, b2, b3⟩
      have l1 : q_split n f q 14 b ≤ q_up (q_come (q 21 n) (q 23 n - f) (q 22 n) (q_up (q_scan n (if f = 0 then 100 else 107) q) 23 n f)) 12 (q 21 n) 0 14 b := q_re_14
      have l2 : q_up (q_come (q 21 n) (q 23 n - f) (q 22 n) (q_up (q_scan n (if f = 0 then 100 else 107) q) 23 n f)) 12 (q 21 n) 0 14 b = q 14 b := by
        rw [q_k (by decide)]
        unfold q_come
        rw [q_scan_14o, q_new_o (by decide), q_k (by decide), q_scan_14o c]
        rw [q_new_21]; exact c
      rw [l2] at l1
      exact Nat.le_trans l1 b1
  · exact q_re_W4b (q_up_W4b (q_come_W4b (q_up_W4b (q_scan_W4b w4b v1.2) (by decide))) (by decide))
/-- units put away -/
def q_put (a u : Nat) (q : qS) : qS := q_up (q_up q 12 a (q 12 a + min u (q 11 a - q 12 a))) 13 a (q 13 a + (u - min u (q 11 a - q 12 a)))
theorem q_put_W {q : qS} {a u : Nat} (h : q_W q) : q_W (q_put a u q) := by
  obtain ⟨v, w3, w4b⟩ := h
  refine ⟨q_up_V (q_up_V v (by decide) (by decide)) (by decide) (by decide), ?_, q_up_W4b (q_up_W4b w4b (by decide)) (by decide)⟩
  refine q_up_W3 ?_ (by decide)
  intro b hb
  rw [q_k (by decide)] at hb
  rw [q_k (k' := 14) (by decide), q_k (k' := 11) (by decide)]
  obtain ⟨b1, b2, b3⟩ := w3 b hb
  by_cases c : b = a
  · subst c; rw [q_at]; omega
  · rw [q_i c]; exact ⟨b1, b2, b3⟩
/-- ship -/
def q_ship (ca : Nat) : Nat → qS → qS
  | 0, q => q
  | m + 1, q => if q_ship ca m q 22 m = ca ∧ q_ship ca m q 24 m = 107 then q_up (q_scan m 115 (q_ship ca m q)) 59 0 (q_ship ca m q 59 0 + q_ship ca m q 23 m) else q_ship ca m q
theorem q_ship1_W {q : qS} {n : Nat} (h : q_W q) (hn : n < q 73 0) (hk : q 24 n = 107) : q_W (q_up (q_scan n 115 q) 59 0 (q 59 0 + q 23 n)) := by
  obtain ⟨⟨w1, w2, w4, w5, w6, w7, w8⟩, w3, w4b⟩ := h
  have l2 := (q_last_of w5 hn).2 (by omega)
  have hc := w6.2 n hn
  rw [hk] at hc l2
  have h1 : 1 ≤ q 23 n := by have := (w4 n hn).2.1; omega
  have x1 := q_scan_W1 (n := n) (s := 115) w1
  have x2 := q_scan_W2 (s := 115) w1 w2 hn
  have x4 := q_scan_W4a (n := n) (s := 115) w4 (Or.inr (Or.inr (Or.inr (Or.inl rfl)))) (Or.inl h1)
  have x5 := q_scan_W5 (s := 115) w5 hn (by rw [l2]; exact Or.inr (Or.inr (Or.inr (Or.inl ⟨rfl, rfl⟩)))) (by decide)
  have x6 := q_scan_W6 (n := n) (s := 115) w6 (by have e1 : q_b 107 = 1 := by decide
                                                  have e2 : q_b (q_st 115) = 2 := by decide
                                                  omega)
  have x7 := q_scan_W7 (n := n) (s := 115) w7
  have x3 := q_scan_W3 (n := n) (s := 115) w3 (fun e => absurd e (by decide))
  have x4b := q_scan_W4b (n := n) (s := 115) w4b (by decide)
  have e : ∀ k, k ≠ 59 → ∀ i, q_up (q_scan n 115 q) 59 0 (q 59 0 + q 23 n) k i = q_scan n 115 q k i := fun k hk i => q_k hk
  have l : ∀ m k', q_last (q_up (q_scan n 115 q) 59 0 (q 59 0 + q 23 n)) m k' = q_last (q_scan n 115 q) m k' := fun m k' => q_last_congr (fun j _ => e 43 (by decide) j) (fun j _ => e 44 (by decide) j)
  have ct : ∀ m k', q_cnt (q_up (q_scan n 115 q) 59 0 (q 59 0 + q 23 n)) m k' = q_cnt (q_scan n 115 q) m k' := fun m k' => q_cnt_congr (fun j _ => e 43 (by decide) j)
  refine ⟨⟨?_, ?_, ?_, ?_, ?_, ?_, ?_⟩, q_up_W3 x3 (by decide), q_up_W4b x4b (by decide)⟩
  · unfold q_W1
    rw [e 72 (by decide), e 73 (by decide)]
    exact ⟨x1.1, x1.2.1, fun m hm => by rw [e 21 (by decide), e 22 (by decide)]; exact x1.2.2.1 m hm, fun a ha => by rw [e 10 (by decide)]; exact x1.2.2.2 a ha⟩
  · intro a ha
    rw [e 72 (by decide)] at ha
    rw [e 14 (by decide), e 73 (by decide), x2 a ha]
    exact (q_sum_congr (fun i _ => e 21 (by decide) i) (fun i _ => e 24 (by decide) i) (fun i _ => e 23 (by decide) i)).symm
  · intro m hm
    rw [e 73 (by decide)] at hm
    rw [e 24 (by decide), e 23 (by decide), e 25 (by decide), e 57 (by decide)]
    exact x4 m hm
  · unfold q_W5
    rw [e 42 (by decide), e 73 (by decide)]
    exact ⟨fun k' hk' => by rw [e 43 (by decide), e 44 (by decide), l]; exact x5.1 k' hk', fun m hm => by rw [l, e 24 (by decide)]; exact x5.2 m hm⟩
  · unfold q_W6
    rw [e 57 (by decide), e 73 (by decide), e 42 (by decide)]
    exact ⟨x6.1, fun m hm => by rw [ct, e 24 (by decide)]; exact x6.2 m hm⟩
  · intro r hr
    rw [e 30 (by decide), e 31 (by decide), e 32 (by decide), e 72 (by decide)]
    exact x7 r hr
  · unfold q_W8
    have c9 := q_shp_congr (q := q_scan n 115 q) (r := q_up (q_scan n 115 q) 59 0 (q 59 0 + q 23 n)) (m := q 73 0) (fun i _ => e 24 (by decide) i) (fun i _ => e 23 (by decide) i)
    rw [q_at, e 73 (by decide), q_scan_o (k := 73) (by decide), c9, w8]
    have s := q_shp_up (q := q) (r := q_scan n 115 q) hn (fun i hi => q_scan_24o hi) (fun i _ => q_scan_o (by decide))
    unfold q_sterm at s
    rw [q_scan_24, if_neg (by omega), if_pos (show q_st 115 = 115 by decide), q_scan_o (k := 23) (by decide)] at s
    omega
theorem q_ship_o {ca m : Nat} {q : qS} {k i : Nat} (h : k ≠ 14 ∧ k ≠ 24 ∧ k ≠ 42 ∧ k ≠ 43 ∧ k ≠ 44) (h9 : k ≠ 59) : q_ship ca m q k i = q k i := by
  induction m with
  | zero => rfl
  | succ m ih =>
    show (if q_ship ca m q 22 m = ca ∧ q_ship ca m q 24 m = 107 then q_up (q_scan m 115 (q_ship ca m q)) 59 0 (q_ship ca m q 59 0 + q_ship ca m q 23 m) else q_ship ca m q) k i = q k i
    split
    · rw [q_k h9, q_scan_o h]; exact ih
    · exact ih
theorem q_ship_W {ca m : Nat} {q : qS} (h : q_W q) (hm : m ≤ q 73 0) : q_W (q_ship ca m q) := by
  induction m with
  | zero => exact h
  | succ m ih =>
    show q_W (if q_ship ca m q 22 m = ca ∧ q_ship ca m q 24 m = 107 then q_up (q_scan m 115 (q_ship ca m q)) 59 0 (q_ship ca m q 59 0 + q_ship ca m q 23 m) else q_ship ca m q)
    split
    · next e => exact q_ship1_W (ih (by omega)) (by rw [q_ship_o (by decide) (by decide)]; omega) e.2
    · exact ih (by omega)
