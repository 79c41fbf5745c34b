/-! the law's own numbers over each operation -/
theorem q_mem {k : Nat} {l : List Nat} {P : Nat → Prop} [DecidablePred P] (h : k ∈ l) (hl : l.all (fun x => decide (P x)) = true) : P k := of_decide_eq_true (List.all_eq_true.mp hl k h)
theorem q_L_of {q q' : qS} (h : q_L q) (e : ∀ k, k ∈ [72, 0, 1, 2, 32, 56, 60] → ∀ i, q' k i = q k i) : q_L q' := by
  obtain ⟨h1, h2, h3, h4, h5, h6, h7⟩ := h
  exact ⟨(e 72 (by decide) 0).trans h1, fun j hj => (e 0 (by decide) j).trans (h2 j hj), fun j hj => by rw [e 1 (by decide)]; exact h3 j hj, fun j hj => by rw [e 2 (by decide)]; exact h4 j hj, fun j hj => by rw [e 32 (by decide)]; exact h5 j hj, by rw [e 56 (by decide)]; exact h6, fun j hj => (e 60 (by decide) j).trans (h7 j hj)⟩
theorem q_U_of {q q' : qS} (e : ∀ k, k ∈ [12, 13, 31] → ∀ i, q' k i = q k i) : q_U q' = q_U q := by
  unfold q_U
  rw [e 12 (by decide), e 12 (by decide), e 12 (by decide), e 13 (by decide), e 13 (by decide), e 13 (by decide), e 31 (by decide), e 31 (by decide)]
theorem q_O_of {O : wPS} {ra rr rb ri : Nat} {q q' : qS} (h : q_O O ra rr rb ri q) (e : ∀ k, k ∈ [10, 11, 1, 21, 73] → ∀ i, q' k i = q k i) : q_O O ra rr rb ri q' := by
  obtain ⟨a, b, c, d, n, h1, h2, h3⟩ := h
  refine ⟨a, b, c, d, n, fun i hi => ?_, fun j hj => ?_, fun m hm => ?_⟩
  · rw [e 10 (by decide), e 11 (by decide)]; exact h1 i hi
  · rw [e 1 (by decide)]; exact h2 j hj
  · rw [e 73 (by decide)] at hm; rw [e 21 (by decide)]; exact h3 m hm
/-- a new order's article is written -/
theorem q_O_item {O : wPS} {ra rr rb ri N a : Nat} {q q' : qS} {v : Int32} (h : q_O O ra rr rb ri q) (e : ∀ k, k ∈ [10, 11, 1] → ∀ i, q' k i = q k i) (hN : N = q 73 0) (h73 : q' 73 0 = q 73 0 + 1) (h21 : ∀ n, n ≠ q 73 0 → q' 21 n = q 21 n) (ha : q' 21 (q 73 0) = a) (hv : v = nI a) : q_O (setX O ri (upd (pX O ri) N v)) ra rr rb ri q' := by
  obtain ⟨a1, b1, c1, d1, hne, h1, h2, h3⟩ := h
  obtain ⟨n1, n2, n3, n4, n5⟩ := id hne
  refine ⟨a1, b1, c1, d1, hne, fun i hi => ?_, fun j hj => ?_, fun m hm => ?_⟩
  · rw [e 10 (by decide), e 11 (by decide), kx_ne n1, kx_ne n2]; exact h1 i hi
  · rw [e 1 (by decide), kx_ne n3]; exact h2 j hj
  · rw [kxs_at]
    by_cases c : m = q 73 0
    · rw [c, hN, upd_at, ha]; exact hv
    · rw [hN, upd_of c, h21 m c]; exact h3 m (by omega)
/-- an aisle is blocked or not -/
theorem q_O_blk {O : wPS} {ra rr rb ri j v : Nat} {q q' : qS} {x : Int32} (h : q_O O ra rr rb ri q) (e : ∀ k, k ∈ [10, 11, 21, 73] → ∀ i, q' k i = q k i) (h1j : q' 1 j = v) (h1o : ∀ i, i ≠ j → q' 1 i = q 1 i) (hx : x = nI v) : q_O (setX O rb (upd (pX O rb) j x)) ra rr rb ri q' := by
  obtain ⟨a1, b1, c1, d1, hne, h1, h2, h3⟩ := h
  obtain ⟨n1, n2, n3, n4, n5, n6⟩ := id hne
  refine ⟨a1, b1, c1, d1, hne, fun i hi => ?_, fun i hi => ?_, fun m hm => ?_⟩
  · rw [e 10 (by decide), e 11 (by decide), kx_ne n4, kx_ne n5]; exact h1 i hi
  · rw [kxs_at]
    by_cases c : i = j
    · rw [c, upd_at, h1j]; exact hx
    · rw [upd_of c, h1o i c]; exact h2 i hi
  · rw [e 73 (by decide)] at hm; rw [e 21 (by decide), kx_ne (fun c => n3 c.symm)]; exact h3 m hm
theorem q_U_art {q q' : qS} {a : Nat} (ha : a < 3) (e : ∀ k, k ∈ [12, 13] → ∀ i, i ≠ a → q' k i = q k i) (h31 : ∀ r, q' 31 r = q 31 r) : q_U q' + q 12 a + q 13 a = q_U q + q' 12 a + q' 13 a := by
  unfold q_U
  rw [h31, h31]
  rcases q_lt3 ha with rfl | rfl | rfl
  · rw [e 12 (by decide) 1 (by decide), e 12 (by decide) 2 (by decide), e 13 (by decide) 1 (by decide), e 13 (by decide) 2 (by decide)]; omega
  · rw [e 12 (by decide) 0 (by decide), e 12 (by decide) 2 (by decide), e 13 (by decide) 0 (by decide), e 13 (by decide) 2 (by decide)]; omega
  · rw [e 12 (by decide) 0 (by decide), e 12 (by decide) 1 (by decide), e 13 (by decide) 0 (by decide), e 13 (by decide) 1 (by decide)]; omega
theorem q_come_o {q : qS} {a am ca k i : Nat} (h : k ∉ [14, 21, 22, 23, 24, 25, 42, 43, 44, 73]) : q_come a am ca q k i = q k i := by
  simp only [List.mem_cons, List.not_mem_nil, or_false, not_or] at h
  unfold q_come
  rw [q_scan_o (by omega), q_new_o (by simp only [List.mem_cons, List.not_mem_nil, or_false, not_or]; omega)]
theorem q_come_i {q : qS} {a am ca k i : Nat} (h : k = 21 ∨ k = 23 ∨ k = 25) (hi : i ≠ q 73 0) : q_come a am ca q k i = q k i := by
  unfold q_come
  rw [q_scan_o (by omega), q_new_i (by omega) hi]
theorem q_come_73 {q : qS} {a am ca : Nat} : q_come a am ca q 73 0 = q 73 0 + 1 := by unfold q_come; rw [q_scan_o (by decide), q_new_73]
theorem q_come_21 {q : qS} {a am ca : Nat} : q_come a am ca q 21 (q 73 0) = a := by unfold q_come; rw [q_scan_o (by decide), q_new_21]
theorem q_come_23 {q : qS} {a am ca : Nat} : q_come a am ca q 23 (q 73 0) = am := by unfold q_come; rw [q_scan_o (by decide), q_new_23]
theorem q_come_25 {q : qS} {a am ca : Nat} : q_come a am ca q 25 (q 73 0) = 0 := by unfold q_come; rw [q_scan_o (by decide), q_new_25]
theorem q_come_24 {q : qS} {a am ca : Nat} : q_come a am ca q 24 (q 73 0) = 111 := by unfold q_come; rw [q_scan_24]; rfl
/-- a part of an order is found -/
theorem q_split_o {q : qS} {n f k i : Nat} (h : k ∉ [12, 14, 21, 22, 23, 24, 25, 42, 43, 44, 73]) : q_split n f q k i = q k i := by
  simp only [List.mem_cons, List.not_mem_nil, or_false, not_or] at h
  unfold q_split
  rw [q_re_o (by omega), q_k (by omega), q_come_o (by simp only [List.mem_cons, List.not_mem_nil, or_false, not_or]; omega), q_k (by omega), q_scan_o (by omega)]
theorem q_split_p {q : qS} {n f k i : Nat} (h : k = 21 ∨ k = 23 ∨ k = 25) (hi : i ≠ q 73 0) : q_split n f q k i = q_up q 23 n f k i := by
  unfold q_split
  have e73 : (q_up (q_scan n (if f = 0 then 100 else 107) q) 23 n f) 73 0 = q 73 0 := by rw [q_k (by decide), q_scan_o (by decide)]
  rw [q_re_o (by omega), q_k (by omega), q_come_i h (by rw [e73]; exact hi)]
  by_cases c : k = 23 ∧ i = n
  · rw [c.1, c.2, q_at, q_at]
  · unfold q_up
    rw [if_neg c, if_neg c, q_scan_o (by omega)]
theorem q_split_f {q : qS} {n f : Nat} : q_split n f q 73 0 = q 73 0 + 1 ∧ q_split n f q 21 (q 73 0) = q 21 n ∧ q_split n f q 23 (q 73 0) = q 23 n - f ∧ q_split n f q 12 (q 21 n) = 0 ∧ ∀ i, i ≠ q 21 n → q_split n f q 12 i = q 12 i := by
  unfold q_split
  have e73 : (q_up (q_scan n (if f = 0 then 100 else 107) q) 23 n f) 73 0 = q 73 0 := by rw [q_k (by decide), q_scan_o (by decide)]
  refine ⟨?_, ?_, ?_, ?_, fun i hi => ?_⟩
  · rw [q_re_o (by decide), q_k (by decide), q_come_73, e73]
  · rw [q_re_o (by decide), q_k (by decide)]
    have h := q_come_21 (q := q_up (q_scan n (if f = 0 then 100 else 107) q) 23 n f) (a := q 21 n) (am := q 23 n - f) (ca := q 22 n)
    rw [e73] at h; exact h
  · rw [q_re_o (by decide), q_k (by decide)]
    have h := q_come_23 (q := q_up (q_scan n (if f = 0 then 100 else 107) q) 23 n f) (a := q 21 n) (am := q 23 n - f) (ca := q 22 n)
    rw [e73] at h; exact h
  · rw [q_re_o (by decide), q_at]
  · rw [q_re_o (by decide), q_i hi, q_come_o (by decide), q_k (by decide), q_scan_o (by decide)]
theorem q_pickA_o {q : qS} {n k i : Nat} (h : k ∉ [12, 14, 24, 42, 43, 44]) : q_pickA n q k i = q k i := by
  simp only [List.mem_cons, List.not_mem_nil, or_false, not_or] at h
  unfold q_pickA
  rw [q_k (by omega), q_scan_o (by omega)]
theorem q_pickA_f {q : qS} {n : Nat} : q_pickA n q 24 n = 107 ∧ q_pickA n q 12 (q 21 n) = q 12 (q 21 n) - q 23 n ∧ ∀ i, i ≠ q 21 n → q_pickA n q 12 i = q 12 i := by
  unfold q_pickA
  refine ⟨?_, q_at, fun i hi => ?_⟩
  · rw [q_k (by decide), q_scan_24]; rfl
  · rw [q_i hi, q_scan_o (by decide)]
theorem q_puto {q : qS} {a u k i : Nat} (h : k ≠ 12 ∧ k ≠ 13) : q_put a u q k i = q k i := by
  unfold q_put
  rw [q_k h.2, q_k h.1]
theorem q_put_f {q : qS} {a u : Nat} : q_put a u q 12 a = q 12 a + min u (q 11 a - q 12 a) ∧ q_put a u q 13 a = q 13 a + (u - min u (q 11 a - q 12 a)) ∧ ∀ k, k ∈ [12, 13] → ∀ i, i ≠ a → q_put a u q k i = q k i := by
  unfold q_put
  refine ⟨?_, q_at, fun k hk i hi => ?_⟩
  · rw [q_k (by decide), q_at]
  · rw [q_i hi, q_i hi]
theorem q_put_U {q : qS} {a u : Nat} (ha : a < 3) : q_U (q_put a u q) = q_U q + u := by
  have h := q_U_art (q := q) (q' := q_put a u q) ha q_put_f.2.2 (fun r => q_puto (by decide))
  rw [q_put_f.1, q_put_f.2.1] at h
  have := Nat.min_le_left u (q 11 a - q 12 a)
  omega
theorem q_send_o {q : qS} {r a mi ld k i : Nat} (h : k ∉ [13, 30, 31, 32]) : q_send r a mi ld q k i = q k i := by
  simp only [List.mem_cons, List.not_mem_nil, or_false, not_or] at h
  unfold q_send
  rw [q_k (by omega), q_k (by omega), q_k (by omega), q_k (by omega)]
theorem q_send_f {q : qS} {r a mi ld : Nat} : q_send r a mi ld q 31 r = ld ∧ q_send r a mi ld q 30 r = a + 1 ∧ q_send r a mi ld q 32 r = mi ∧ q_send r a mi ld q 13 a = q 13 a - ld ∧ (∀ i, i ≠ a → q_send r a mi ld q 13 i = q 13 i) ∧ ∀ k, k = 31 ∨ k = 32 → ∀ i, i ≠ r → q_send r a mi ld q k i = q k i := by
  unfold q_send
  refine ⟨?_, ?_, ?_, q_at, fun i hi => ?_, fun k hk i hi => ?_⟩
  · rw [q_k (by decide), q_at]
  · rw [q_k (by decide), q_k (by decide), q_at]
  · rw [q_k (by decide), q_k (by decide), q_k (by decide), q_at]
  · rw [q_i hi, q_k (by decide), q_k (by decide), q_k (by decide)]
  · rcases hk with rfl | rfl
    · rw [q_k (by decide), q_i hi, q_k (by decide), q_k (by decide)]
    · rw [q_k (by decide), q_k (by decide), q_k (by decide), q_i hi]
theorem q_lt2 {r : Nat} (h : r < 2) : r = 0 ∨ r = 1 := by omega
theorem q_send_U {q : qS} {r a mi ld : Nat} (hr : r < 2) (ha : a < 3) (h0 : q 31 r = 0) (hl : ld ≤ q 13 a) : q_U (q_send r a mi ld q) = q_U q := by
  obtain ⟨f1, -, -, f4, f5, f6⟩ := q_send_f (q := q) (r := r) (a := a) (mi := mi) (ld := ld)
  have e12 : ∀ i, q_send r a mi ld q 12 i = q 12 i := fun i => q_send_o (by decide)
  unfold q_U
  rw [e12, e12, e12]
  rcases q_lt3 ha with rfl | rfl | rfl <;> rcases q_lt2 hr with rfl | rfl
  · rw [f1, f4, f5 1 (by decide), f5 2 (by decide), f6 31 (Or.inl rfl) 1 (by decide)]; omega
  · rw [f1, f4, f5 1 (by decide), f5 2 (by decide), f6 31 (Or.inl rfl) 0 (by decide)]; omega
  · rw [f1, f4, f5 0 (by decide), f5 2 (by decide), f6 31 (Or.inl rfl) 1 (by decide)]; omega
  · rw [f1, f4, f5 0 (by decide), f5 2 (by decide), f6 31 (Or.inl rfl) 0 (by decide)]; omega
  · rw [f1, f4, f5 0 (by decide), f5 1 (by decide), f6 31 (Or.inl rfl) 1 (by decide)]; omega
  · rw [f1, f4, f5 0 (by decide), f5 1 (by decide), f6 31 (Or.inl rfl) 0 (by decide)]; omega
theorem q_send_L {q : qS} {r a mi ld : Nat} (h : q_L q) (hm : mi ≤ 30) : q_L (q_send r a mi ld q) := by
  obtain ⟨h1, h2, h3, h4, h5, h6, h7⟩ := h
  have e : ∀ k, k ∈ [72, 0, 1, 2, 56, 60] → ∀ i, q_send r a mi ld q k i = q k i := fun k hk i => q_send_o (q_mem (P := fun k => k ∉ [13, 30, 31, 32]) hk (by decide))
  refine ⟨(e 72 (by decide) 0).trans h1, fun j hj => (e 0 (by decide) j).trans (h2 j hj), fun j hj => by rw [e 1 (by decide)]; exact h3 j hj, fun j hj => by rw [e 2 (by decide)]; exact h4 j hj, fun j hj => ?_, by rw [e 56 (by decide)]; exact h6, fun j hj => (e 60 (by decide) j).trans (h7 j hj)⟩
  by_cases c : j = r
  · rw [c, q_send_f.2.2.1]; exact hm
  · rw [q_send_f.2.2.2.2.2 32 (Or.inr rfl) j c]; exact h5 j hj
theorem q_pmo {q : qS} {r k i : Nat} (h : k ∉ [12, 13, 30, 31, 32]) : q_pm r q k i = q k i := by
  simp only [List.mem_cons, List.not_mem_nil, or_false, not_or] at h
  unfold q_pm
  split
  · rfl
  · split
    · rw [q_k (by omega)]
    · rw [q_puto (by omega), q_k (by omega), q_k (by omega), q_k (by omega)]
theorem q_pm32 {q : qS} {r j : Nat} : q_pm r q 32 j ≤ q 32 j := by
  have hu : ∀ v, v ≤ q 32 r → q_up q 32 r v 32 j ≤ q 32 j := fun v hv => by
    by_cases c : j = r
    · rw [c, q_at]; exact hv
    · rw [q_i c]; exact Nat.le_refl _
  unfold q_pm
  split
  · exact Nat.le_refl _
  · split
    · exact hu _ (Nat.sub_le _ _)
    · rw [q_puto (by decide), q_k (by decide), q_k (by decide)]; exact hu 0 (Nat.zero_le _)
theorem q_pm_U {q : qS} {r : Nat} (hr : r < 2) (h : q 30 r ≤ 3) : q_U (q_pm r q) = q_U q := by
  unfold q_pm
  split
  · rfl
  · next h1 =>
    split
    · exact q_U_of (fun k hk i => q_k (q_mem (P := fun k => k ≠ 32) hk (by decide)))
    · rw [q_put_U (by omega)]
      have e : ∀ k i, k ≠ 32 ∧ k ≠ 30 ∧ k ≠ 31 → q_up (q_up (q_up q 32 r 0) 30 r 0) 31 r 0 k i = q k i := fun k i hk => by rw [q_k hk.2.2, q_k hk.2.1, q_k hk.1]
      have e0 : q_up (q_up (q_up q 32 r 0) 30 r 0) 31 r 0 31 r = 0 := q_at
      have e1 : ∀ i, i ≠ r → q_up (q_up (q_up q 32 r 0) 30 r 0) 31 r 0 31 i = q 31 i := fun i hi => by rw [q_i hi, q_k (by decide), q_k (by decide)]
      unfold q_U
      rw [e 12 0 (by decide), e 12 1 (by decide), e 12 2 (by decide), e 13 0 (by decide), e 13 1 (by decide), e 13 2 (by decide)]
      rcases q_lt2 hr with rfl | rfl
      · rw [e0, e1 1 (by decide)]; omega
      · rw [e0, e1 0 (by decide)]; omega
theorem q_min_o {q : qS} {k i : Nat} (h : k ∉ [12, 13, 30, 31, 32, 56]) : q_min q k i = q k i := by
  simp only [List.mem_cons, List.not_mem_nil, or_false, not_or] at h
  unfold q_min
  rw [q_pmo (by simp only [List.mem_cons, List.not_mem_nil, or_false, not_or]; omega), q_pmo (by simp only [List.mem_cons, List.not_mem_nil, or_false, not_or]; omega), q_k (by omega)]
theorem q_min_56 {q : qS} : q_min q 56 0 = q 56 0 + 1 := by unfold q_min; rw [q_pmo (by decide), q_pmo (by decide), q_at]
theorem q_min_32 {q : qS} {j : Nat} : q_min q 32 j ≤ q 32 j := by
  unfold q_min
  refine Nat.le_trans q_pm32 (Nat.le_trans q_pm32 ?_)
  rw [q_k (by decide)]
  exact Nat.le_refl _
theorem q_min_U {q : qS} (hW : q_W q) (h : q 72 0 = 3) : q_U (q_min q) = q_U q := by
  have h0 : q_W (q_up q 56 0 (q 56 0 + 1)) := ⟨q_up_V hW.1 (by decide) (by decide), q_up_W3 hW.2.1 (by decide), q_up_W4b hW.2.2 (by decide)⟩
  have h1 : q_W (q_pm 0 (q_up q 56 0 (q 56 0 + 1))) := q_pm_W h0 (by decide)
  unfold q_min
  have e1 : (q_pm 0 (q_up q 56 0 (q 56 0 + 1))) 72 0 = 3 := by rw [q_pmo (by decide), q_k (by decide)]; exact h
  have e0 : (q_up q 56 0 (q 56 0 + 1)) 72 0 = 3 := by rw [q_k (by decide)]; exact h
  have w1 := h1.1.2.2.2.2.2.1 1 (by decide)
  have w0 := h0.1.2.2.2.2.2.1 0 (by decide)
  rw [q_pm_U (by decide) (by omega), q_pm_U (by decide) (by omega)]
  exact q_U_of (fun k hk i => q_k (q_mem (P := fun k => k ≠ 56) hk (by decide)))
theorem q_pass_all {m : Nat} {q : qS} (hW : q_W q) (h : q 72 0 = 3) : (∀ k i, k ∉ [12, 13, 30, 31, 32, 56] → q_pass m q k i = q k i) ∧ q_pass m q 56 0 = q 56 0 + m ∧ (∀ j, q_pass m q 32 j ≤ q 32 j) ∧ q_U (q_pass m q) = q_U q := by
  induction m with
  | zero => exact ⟨fun _ _ _ => rfl, rfl, fun _ => Nat.le_refl _, rfl⟩
  | succ m ih =>
    obtain ⟨i1, i2, i3, i4⟩ := ih
    have hW1 : q_W (q_pass m q) := q_pass_W hW
    show (∀ k i, k ∉ [12, 13, 30, 31, 32, 56] → q_min (q_pass m q) k i = q k i) ∧ q_min (q_pass m q) 56 0 = q 56 0 + (m + 1) ∧ (∀ j, q_min (q_pass m q) 32 j ≤ q 32 j) ∧ q_U (q_min (q_pass m q)) = q_U q
    exact ⟨fun k i hk => (q_min_o hk).trans (i1 k i hk), by rw [q_min_56, i2]; omega, fun j => Nat.le_trans q_min_32 (i3 j), (q_min_U hW1 (by rw [i1 72 0 (by decide)]; exact h)).trans i4⟩
theorem q_pass_L {m : Nat} {q : qS} (hW : q_W q) (h : q_L q) (hm : q 56 0 + m ≤ 1439) : q_L (q_pass m q) := by
  obtain ⟨h1, h2, h3, h4, h5, h6, h7⟩ := h
  obtain ⟨i1, i2, i3, i4⟩ := q_pass_all (m := m) hW h1
  exact ⟨(i1 72 0 (by decide)).trans h1, fun j hj => (i1 0 j (by decide)).trans (h2 j hj), fun j hj => by rw [i1 1 j (by decide)]; exact h3 j hj, fun j hj => by rw [i1 2 j (by decide)]; exact h4 j hj, fun j hj => Nat.le_trans (i3 j) (h5 j hj), by rw [i2]; exact hm, fun j hj => (i1 60 j (by decide)).trans (h7 j hj)⟩
theorem q_blk_o {q : qS} {j v k i : Nat} (h : k ∉ [1, 14, 24, 42, 43, 44]) : q_blk j v q k i = q k i := by
  simp only [List.mem_cons, List.not_mem_nil, or_false, not_or] at h
  unfold q_blk
  split
  · rw [q_k (by omega)]
  · rw [q_re_o (by omega), q_k (by omega)]
theorem q_blk_1f {q : qS} {j v i : Nat} : q_blk j v q 1 i = if i = j then v else q 1 i := by
  have hu : ∀ w, q_up q 1 j w 1 i = if i = j then w else q 1 i := fun w => by
    by_cases c : i = j
    · rw [if_pos c, c, q_at]
    · rw [if_neg c, q_i c]
  unfold q_blk
  split
  · next h => rw [hu, h]
  · rw [q_re_o (by decide), hu]
theorem q_blk_L {q : qS} {j v : Nat} (h : q_L q) (hv : v ≤ 1) : q_L (q_blk j v q) := by
  obtain ⟨h1, h2, h3, h4, h5, h6, h7⟩ := h
  have e : ∀ k, k ∈ [72, 0, 2, 32, 56, 60] → ∀ i, q_blk j v q k i = q k i := fun k hk i => q_blk_o (q_mem (P := fun k => k ∉ [1, 14, 24, 42, 43, 44]) hk (by decide))
  refine ⟨(e 72 (by decide) 0).trans h1, fun j hj => (e 0 (by decide) j).trans (h2 j hj), fun i hi => ?_, fun j hj => by rw [e 2 (by decide)]; exact h4 j hj, fun j hj => by rw [e 32 (by decide)]; exact h5 j hj, by rw [e 56 (by decide)]; exact h6, fun j hj => (e 60 (by decide) j).trans (h7 j hj)⟩
  rw [q_blk_1f]
  split
  · exact hv
  · exact h3 i hi
theorem q_up2_L {q : qS} {j v : Nat} (h : q_L q) (hv : v ≤ 9) : q_L (q_up q 2 j v) := by
  obtain ⟨h1, h2, h3, h4, h5, h6, h7⟩ := h
  have e : ∀ k, k ∈ [72, 0, 1, 32, 56, 60] → ∀ i, q_up q 2 j v k i = q k i := fun k hk i => q_k (q_mem (P := fun k => k ≠ 2) hk (by decide))
  refine ⟨(e 72 (by decide) 0).trans h1, fun j hj => (e 0 (by decide) j).trans (h2 j hj), fun i hi => by rw [e 1 (by decide)]; exact h3 i hi, fun i hi => ?_, fun j hj => by rw [e 32 (by decide)]; exact h5 j hj, by rw [e 56 (by decide)]; exact h6, fun j hj => (e 60 (by decide) j).trans (h7 j hj)⟩
  by_cases c : i = j
  · rw [c, q_at]; exact hv
  · rw [q_i c]; exact h4 i hi
theorem q_wave_o {q : qS} {ca k i : Nat} (h : k ∉ [14, 24, 25, 42, 43, 44, 57]) : q_wave ca q k i = q k i := by
  simp only [List.mem_cons, List.not_mem_nil, or_false, not_or] at h
  unfold q_wave
  rw [q_wl_o (by omega) (by omega), q_k (by omega)]
theorem q_ship_oo {q : qS} {ca m k i : Nat} (h : k ∉ [14, 24, 42, 43, 44, 59]) : q_ship ca m q k i = q k i := by
  simp only [List.mem_cons, List.not_mem_nil, or_false, not_or] at h
  exact q_ship_o (by omega) (by omega)
theorem q_scan_oo {q : qS} {n s k i : Nat} (h : k ∉ [14, 24, 42, 43, 44]) : q_scan n s q k i = q k i := by
  simp only [List.mem_cons, List.not_mem_nil, or_false, not_or] at h
  exact q_scan_o (by omega)
