/-! The planner in numbers: q k i. 72 0 articles, 73 0 orders; of an article 10 aisle, 11 room, 12 stock, 13 reserve, 14 promised; of an order 21 article, 22 carrier, 23 amount, 24 state, 25 last wave + 1; 42 0 scans, 43 k order and 44 k sign of scan k; 1 j blocked, 2 j pickers; of a robot 30 article + 1, 31 load, 32 minutes; 56 0 minute, 57 0 waves, 58 0 bad, 59 0 shipped; 60 j cut-offs -/
abbrev qS : Type := Nat → Nat → Nat
def q_up (q : qS) (k i v : Nat) : qS := fun k' i' => if k' = k ∧ i' = i then v else q k' i'
theorem q_at {q : qS} {k i v : Nat} : q_up q k i v k i = v := by unfold q_up; rw [if_pos ⟨rfl, rfl⟩]
theorem q_k {q : qS} {k i v k' i' : Nat} (h : k' ≠ k) : q_up q k i v k' i' = q k' i' := by unfold q_up; rw [if_neg (fun e => h e.1)]
theorem q_i {q : qS} {k i v k' i' : Nat} (h : i' ≠ i) : q_up q k i v k' i' = q k' i' := by unfold q_up; rw [if_neg (fun e => h e.2)]
/-- units promised of article a among the first m orders -/
def q_sum (q : qS) (a : Nat) : Nat → Nat
  | 0 => 0
  | m + 1 => q_sum q a m + (if q 21 m = a ∧ q 24 m = 112 then q 23 m else 0)
/-- units shipped among the first m orders -/
def q_shp (q : qS) : Nat → Nat
  | 0 => 0
  | m + 1 => q_shp q m + (if q 24 m = 115 then q 23 m else 0)
/-- the last sign of order n among the first k scans, 0: none -/
def q_last (q : qS) (n : Nat) : Nat → Nat
  | 0 => 0
  | k + 1 => if q 43 k = n then q 44 k else q_last q n k
/-- how many scans of order n are among the first k -/
def q_cnt (q : qS) (n : Nat) : Nat → Nat
  | 0 => 0
  | k + 1 => q_cnt q n k + (if q 43 k = n then 1 else 0)
def q_st (s : Nat) : Nat := if s = 110 ∨ s = 117 then 111 else s
def q_nx (old s : Nat) : Prop := (s = 110 ∧ old = 0) ∨ (s = 112 ∧ (old = 110 ∨ old = 117)) ∨ ((s = 117 ∨ s = 107) ∧ old = 112) ∨ (s = 115 ∧ old = 107) ∨ (s = 100 ∧ (old = 110 ∨ old = 117 ∨ old = 112))
/-- order n is scanned with s -/
def q_scan (n s : Nat) (q : qS) : qS :=
  q_up (q_up (q_up (q_up (q_up q 14 (q 21 n) (q 14 (q 21 n) - (if q 24 n = 112 then q 23 n else 0) + (if q_st s = 112 then q 23 n else 0))) 24 n (q_st s)) 43 (q 42 0) n) 44 (q 42 0) s) 42 0 (q 42 0 + 1)
theorem q_sum_congr {q r : qS} {a m : Nat} (h1 : ∀ n, n < m → r 21 n = q 21 n) (h2 : ∀ n, n < m → r 24 n = q 24 n) (h3 : ∀ n, n < m → r 23 n = q 23 n) : q_sum r a m = q_sum q a m := by
  induction m with
  | zero => rfl
  | succ m ih =>
    show q_sum r a m + _ = q_sum q a m + _
    rw [ih (fun n h => h1 n (by omega)) (fun n h => h2 n (by omega)) (fun n h => h3 n (by omega)), h1 m (by omega), h2 m (by omega), h3 m (by omega)]
/-- what one order's state adds to its article's sum -/
def q_term (q : qS) (a n : Nat) : Nat := if q 21 n = a ∧ q 24 n = 112 then q 23 n else 0
theorem q_sum_up {q r : qS} {a m n : Nat} (hn : n < m) (h1 : ∀ i, r 21 i = q 21 i) (h2 : ∀ i, i ≠ n → r 24 i = q 24 i) (h3 : ∀ i, i ≠ n → r 23 i = q 23 i) : q_sum r a m + q_term q a n = q_sum q a m + q_term r a n := by
  induction m with
  | zero => exact absurd hn (Nat.not_lt_zero _)
  | succ m ih =>
    show q_sum r a m + q_term r a m + q_term q a n = q_sum q a m + q_term q a m + q_term r a n
    by_cases e : n = m
    · subst e
      rw [q_sum_congr (q := q) (r := r) (fun i _ => h1 i) (fun i hi => h2 i (by omega)) (fun i hi => h3 i (by omega))]
      omega
    · have := ih (by omega)
      have h9 : q_term r a m = q_term q a m := by unfold q_term; rw [h1 m, h2 m (fun e9 => e e9.symm), h3 m (fun e9 => e e9.symm)]
      rw [h9]
      omega
theorem q_sum_le {q : qS} {a m n : Nat} (hn : n < m) : q_term q a n ≤ q_sum q a m := by
  induction m with
  | zero => exact absurd hn (Nat.not_lt_zero _)
  | succ m ih =>
    show q_term q a n ≤ q_sum q a m + q_term q a m
    by_cases e : n = m
    · subst e; omega
    · have := ih (by omega); omega
theorem q_last_congr {q r : qS} {n k : Nat} (h1 : ∀ j, j < k → r 43 j = q 43 j) (h2 : ∀ j, j < k → r 44 j = q 44 j) : q_last r n k = q_last q n k := by
  induction k with
  | zero => rfl
  | succ k ih =>
    show (if r 43 k = n then r 44 k else q_last r n k) = (if q 43 k = n then q 44 k else q_last q n k)
    rw [h1 k (by omega), h2 k (by omega), ih (fun j h => h1 j (by omega)) (fun j h => h2 j (by omega))]
theorem q_cnt_congr {q r : qS} {n k : Nat} (h1 : ∀ j, j < k → r 43 j = q 43 j) : q_cnt r n k = q_cnt q n k := by
  induction k with
  | zero => rfl
  | succ k ih =>
    show q_cnt r n k + _ = q_cnt q n k + _
    rw [h1 k (by omega), ih (fun j h => h1 j (by omega))]
/-- a sum over the first m -/
def q_tot (f : Nat → Nat) : Nat → Nat
  | 0 => 0
  | m + 1 => q_tot f m + f m
theorem q_tot_le {f : Nat → Nat} {m b : Nat} (h : ∀ n, n < m → f n ≤ b) : q_tot f m ≤ m * b := by
  induction m with
  | zero => exact Nat.zero_le _
  | succ m ih =>
    show q_tot f m + f m ≤ (m + 1) * b
    rw [Nat.succ_mul]
    exact Nat.add_le_add (ih (fun n hn => h n (by omega))) (h m (by omega))
theorem q_tot_add {f g : Nat → Nat} {m : Nat} : q_tot (fun n => f n + g n) m = q_tot f m + q_tot g m := by
  induction m with
  | zero => rfl
  | succ m ih =>
    show q_tot (fun n => f n + g n) m + (f m + g m) = (q_tot f m + f m) + (q_tot g m + g m)
    rw [ih]; omega
theorem q_tot_one {m j : Nat} (h : j < m) : q_tot (fun n => if j = n then 1 else 0) m = 1 := by
  induction m with
  | zero => exact absurd h (Nat.not_lt_zero _)
  | succ m ih =>
    show q_tot (fun n => if j = n then 1 else 0) m + (if j = m then 1 else 0) = 1
    by_cases e : j = m
    · subst e
      have h0 : ∀ k, k ≤ j → q_tot (fun n => if j = n then 1 else 0) k = 0 := by
        intro k hk
        induction k with
        | zero => rfl
        | succ k ih2 =>
          show q_tot (fun n => if j = n then 1 else 0) k + (if j = k then 1 else 0) = 0
          rw [ih2 (by omega), if_neg (by omega)]
      rw [h0 j (Nat.le_refl _), if_pos rfl]
    · rw [ih (by omega), if_neg e]
/-- each scan belongs to one order: the counts add up to all scans -/
theorem q_cnt_all {q : qS} {m k : Nat} (h : ∀ j, j < k → q 43 j < m) : q_tot (fun n => q_cnt q n k) m = k := by
  induction k with
  | zero =>
    have h0 : ∀ m, q_tot (fun n => q_cnt q n 0) m = 0 := by
      intro m
      induction m with
      | zero => rfl
      | succ m ih => show q_tot (fun n => q_cnt q n 0) m + 0 = 0; rw [ih]
    exact h0 m
  | succ k ih =>
    show q_tot (fun n => q_cnt q n k + (if q 43 k = n then 1 else 0)) m = k + 1
    rw [q_tot_add, ih (fun j hj => h j (by omega)), q_tot_one (h k (by omega))]
/-- how many scans an order may have had, beside two a wave -/
def q_b (s : Nat) : Nat := if s = 112 then 0 else if s = 111 ∨ s = 107 then 1 else 2
/-- what holds of the planner: shape; sums; shelves; states; scans; robots; shipped -/
def q_W1 (q : qS) : Prop := q 72 0 ≤ 6 ∧ q 73 0 ≤ 12 ∧ (∀ n, n < q 73 0 → q 21 n < q 72 0 ∧ q 22 n < 3) ∧ ∀ i, i < q 72 0 → q 10 i < 4
def q_W2 (q : qS) : Prop := ∀ a, a < q 72 0 → q 14 a = q_sum q a (q 73 0)
def q_W3 (q : qS) : Prop := ∀ a, a < q 72 0 → q 14 a ≤ q 12 a ∧ q 12 a ≤ q 11 a ∧ q 11 a ≤ 99
def q_W5 (q : qS) : Prop := (∀ k, k < q 42 0 → q 43 k < q 73 0 ∧ q_nx (q_last q (q 43 k) k) (q 44 k)) ∧ ∀ n, n < q 73 0 → q_last q n (q 42 0) ≠ 0 ∧ q_st (q_last q n (q 42 0)) = q 24 n
def q_W6 (q : qS) : Prop := q 57 0 ≤ 20 ∧ ∀ n, n < q 73 0 → q_cnt q n (q 42 0) ≤ 2 * q 57 0 + q_b (q 24 n)
def q_W7 (q : qS) : Prop := ∀ r, r < 2 → (q 30 r = 0 ∧ q 31 r = 0 ∧ q 32 r = 0) ∨ (0 < q 30 r ∧ q 30 r ≤ q 72 0 ∧ 0 < q 31 r ∧ q 31 r ≤ 10 ∧ 0 < q 32 r)
def q_W8 (q : qS) : Prop := q 59 0 = q_shp q (q 73 0)
/-- the log has room for one scan more of an order that may have it -/
theorem q_room {q : qS} (h1 : q_W1 q) (h5 : q_W5 q) (h6 : q_W6 q) : q 42 0 ≤ 504 := by
  have e := q_cnt_all (q := q) (m := q 73 0) (k := q 42 0) (fun j hj => (h5.1 j hj).1)
  have hb : ∀ n, n < q 73 0 → q_cnt q n (q 42 0) ≤ 42 := fun n hn => by
    have a := h6.2 n hn
    have b : q_b (q 24 n) ≤ 2 := by unfold q_b; split; omega; split <;> omega
    have c := h6.1
    omega
  have t := q_tot_le (f := fun n => q_cnt q n (q 42 0)) hb
  rw [e] at t
  have c := h1.2.1
  exact Nat.le_trans t (Nat.le_trans (Nat.mul_le_mul_right 42 c) (by decide))
theorem q_scan_o {q : qS} {n s k i : Nat} (h : k ≠ 14 ∧ k ≠ 24 ∧ k ≠ 42 ∧ k ≠ 43 ∧ k ≠ 44) : q_scan n s q k i = q k i := by
  unfold q_scan
  rw [q_k h.2.2.1, q_k h.2.2.2.2, q_k h.2.2.2.1, q_k h.2.1, q_k h.1]
theorem q_scan_42 {q : qS} {n s : Nat} : q_scan n s q 42 0 = q 42 0 + 1 := q_at
theorem q_scan_44 {q : qS} {n s : Nat} : q_scan n s q 44 (q 42 0) = s := (q_k (by decide)).trans q_at
theorem q_scan_44o {q : qS} {n s i : Nat} (h : i ≠ q 42 0) : q_scan n s q 44 i = q 44 i := by
  unfold q_scan
  rw [q_k (by decide), q_i h, q_k (by decide), q_k (by decide), q_k (by decide)]
theorem q_scan_43 {q : qS} {n s : Nat} : q_scan n s q 43 (q 42 0) = n := by
  unfold q_scan
  rw [q_k (by decide), q_k (by decide), q_at]
theorem q_scan_43o {q : qS} {n s i : Nat} (h : i ≠ q 42 0) : q_scan n s q 43 i = q 43 i := by
  unfold q_scan
  rw [q_k (by decide), q_k (by decide), q_i h, q_k (by decide), q_k (by decide)]
theorem q_scan_24 {q : qS} {n s : Nat} : q_scan n s q 24 n = q_st s := by
  unfold q_scan
  rw [q_k (by decide), q_k (by decide), q_k (by decide), q_at]
theorem q_scan_24o {q : qS} {n s i : Nat} (h : i ≠ n) : q_scan n s q 24 i = q 24 i := by
  unfold q_scan
  rw [q_k (by decide), q_k (by decide), q_k (by decide), q_i h, q_k (by decide)]
theorem q_scan_14 {q : qS} {n s : Nat} : q_scan n s q 14 (q 21 n) = q 14 (q 21 n) - (if q 24 n = 112 then q 23 n else 0) + (if q_st s = 112 then q 23 n else 0) := by
  unfold q_scan
  rw [q_k (by decide), q_k (by decide), q_k (by decide), q_k (by decide), q_at]
theorem q_scan_14o {q : qS} {n s i : Nat} (h : i ≠ q 21 n) : q_scan n s q 14 i = q 14 i := by
  unfold q_scan
  rw [q_k (by decide), q_k (by decide), q_k (by decide), q_k (by decide), q_i h]
theorem q_scan_last {q : qS} {n s m : Nat} : q_last (q_scan n s q) m (q 42 0 + 1) = if n = m then s else q_last q m (q 42 0) := by
  show (if q_scan n s q 43 (q 42 0) = m then q_scan n s q 44 (q 42 0) else q_last (q_scan n s q) m (q 42 0)) = _
  rw [q_scan_43, q_scan_44, q_last_congr (fun j hj => q_scan_43o (by omega)) (fun j hj => q_scan_44o (by omega))]
theorem q_scan_cnt {q : qS} {n s m : Nat} : q_cnt (q_scan n s q) m (q 42 0 + 1) = q_cnt q m (q 42 0) + (if n = m then 1 else 0) := by
  show q_cnt (q_scan n s q) m (q 42 0) + (if q_scan n s q 43 (q 42 0) = m then 1 else 0) = _
  rw [q_scan_43, q_cnt_congr (fun j hj => q_scan_43o (by omega))]
theorem q_scan_W1 {q : qS} {n s : Nat} (h : q_W1 q) : q_W1 (q_scan n s q) := by
  unfold q_W1
  rw [q_scan_o (k := 72) (by decide), q_scan_o (k := 73) (by decide)]
  exact ⟨h.1, h.2.1, fun i hi => by rw [q_scan_o (k := 21) (by decide), q_scan_o (k := 22) (by decide)]; exact h.2.2.1 i hi, fun i hi => by rw [q_scan_o (k := 10) (by decide)]; exact h.2.2.2 i hi⟩
theorem q_scan_W2 {q : qS} {n s : Nat} (h1 : q_W1 q) (h : q_W2 q) (hn : n < q 73 0) : q_W2 (q_scan n s q) := by
  intro a ha
  rw [q_scan_o (k := 72) (by decide)] at ha
  rw [q_scan_o (k := 73) (by decide)]
  have e := q_sum_up (q := q) (r := q_scan n s q) (a := a) hn (fun i => q_scan_o (by decide)) (fun i hi => q_scan_24o hi) (fun i _ => q_scan_o (by decide))
  have l := q_sum_le (q := q) (a := a) hn
  have t1 : q_term (q_scan n s q) a n = if q 21 n = a ∧ q_st s = 112 then q 23 n else 0 := by
    unfold q_term
    rw [q_scan_o (k := 21) (by decide), q_scan_24, q_scan_o (k := 23) (by decide)]
  rw [t1] at e
  have hs := h a ha
  by_cases c : a = q 21 n
  · subst c
    rw [q_scan_14]
    unfold q_term at e l
    simp only [true_and] at e l
    rw [hs]
    generalize (if q 24 n = 112 then q 23 n else 0) = x at e l ⊢
    generalize (if q_st s = 112 then q 23 n else 0) = y at e ⊢
    omega
  · rw [q_scan_14o c, hs]
    unfold q_term at e
    rw [if_neg (fun h9 => c h9.1.symm), if_neg (fun h9 => c h9.1.symm)] at e
    omega
theorem q_scan_W5x {q : qS} {n s : Nat} (h : (∀ k, k < q 42 0 → q 43 k < q 73 0 ∧ q_nx (q_last q (q 43 k) k) (q 44 k)) ∧ ∀ m, m < q 73 0 → m ≠ n → q_last q m (q 42 0) ≠ 0 ∧ q_st (q_last q m (q 42 0)) = q 24 m) (hn : n < q 73 0) (hs : q_nx (q_last q n (q 42 0)) s) (hs0 : s ≠ 0) : q_W5 (q_scan n s q) := by
  unfold q_W5
  rw [q_scan_42, q_scan_o (k := 73) (by decide)]
  refine ⟨fun k hk => ?_, fun m hm => ?_⟩
  · by_cases c : k = q 42 0
    · subst c
      rw [q_scan_43, q_scan_44, q_last_congr (fun j hj => q_scan_43o (by omega)) (fun j hj => q_scan_44o (by omega))]
      exact ⟨hn, hs⟩
    · rw [q_scan_43o c, q_scan_44o c, q_last_congr (fun j hj => q_scan_43o (by omega)) (fun j hj => q_scan_44o (by omega))]
      exact h.1 k (by omega)
  · rw [q_scan_last]
    by_cases c : n = m
    · subst c
      rw [if_pos rfl, q_scan_24]
      exact ⟨hs0, rfl⟩
    · rw [if_neg c, q_scan_24o (fun e => c e.symm)]
      exact h.2 m hm (fun e => c e.symm)
theorem q_scan_W5 {q : qS} {n s : Nat} (h : q_W5 q) (hn : n < q 73 0) (hs : q_nx (q_last q n (q 42 0)) s) (hs0 : s ≠ 0) : q_W5 (q_scan n s q) := q_scan_W5x ⟨h.1, fun m hm _ => h.2 m hm⟩ hn hs hs0
theorem q_scan_W6 {q : qS} {n s : Nat} (h : q_W6 q) (hb : q_cnt q n (q 42 0) + 1 ≤ 2 * q 57 0 + q_b (q_st s)) : q_W6 (q_scan n s q) := by
  unfold q_W6
  rw [q_scan_42, q_scan_o (k := 73) (by decide), q_scan_o (k := 57) (by decide)]
  refine ⟨h.1, fun m hm => ?_⟩
  rw [q_scan_cnt]
  by_cases c : n = m
  · subst c
    rw [if_pos rfl, q_scan_24]; exact hb
  · rw [if_neg c, q_scan_24o (fun e => c e.symm)]; exact h.2 m hm
/-- a sign is one of six -/
def q_sg (s : Nat) : Prop := s = 110 ∨ s = 112 ∨ s = 117 ∨ s = 107 ∨ s = 115 ∨ s = 100
theorem q_nx_sg {o s : Nat} (h : q_nx o s) : q_sg s := by
  unfold q_nx at h; unfold q_sg; omega
theorem q_last_sg {q : qS} {n k : Nat} (h : ∀ j, j < k → q_sg (q 44 j)) : q_last q n k = 0 ∨ q_sg (q_last q n k) := by
  induction k with
  | zero => exact Or.inl rfl
  | succ k ih =>
    show (if q 43 k = n then q 44 k else q_last q n k) = 0 ∨ q_sg (if q 43 k = n then q 44 k else q_last q n k)
    by_cases c : q 43 k = n
    · rw [if_pos c]; exact Or.inr (h k (by omega))
    · rw [if_neg c]; exact ih (fun j hj => h j (by omega))
/-- the last sign by the state -/
theorem q_last_of {q : qS} {n : Nat} (h : q_W5 q) (hn : n < q 73 0) : (q 24 n = 111 → q_last q n (q 42 0) = 110 ∨ q_last q n (q 42 0) = 117) ∧ (q 24 n ≠ 111 → q_last q n (q 42 0) = q 24 n) := by
  obtain ⟨h0, hs⟩ := h.2 n hn
  have hg : q_sg (q_last q n (q 42 0)) := (q_last_sg (fun j hj => q_nx_sg (h.1 j hj).2)).resolve_left h0
  rw [← hs]
  generalize q_last q n (q 42 0) = x at hg ⊢
  unfold q_sg at hg
  unfold q_st
  rcases hg with rfl | rfl | rfl | rfl | rfl | rfl <;> simp
def q_W4b (q : qS) : Prop := ∀ n, n < q 73 0 → q 24 n = 112 → q 1 (q 10 (q 21 n)) = 0 ∧ q 25 n ≠ 0
def q_W4a (q : qS) : Prop := ∀ n, n < q 73 0 → (q 24 n = 111 ∨ q 24 n = 112 ∨ q 24 n = 107 ∨ q 24 n = 115 ∨ q 24 n = 100) ∧ (1 ≤ q 23 n ∨ q 24 n = 100) ∧ q 23 n ≤ 20 ∧ q 25 n ≤ q 57 0
/-- all but the shelves' bound and what a promised order has; all -/
def q_V (q : qS) : Prop := q_W1 q ∧ q_W2 q ∧ q_W4a q ∧ q_W5 q ∧ q_W6 q ∧ q_W7 q ∧ q_W8 q
def q_W (q : qS) : Prop := q_V q ∧ q_W3 q ∧ q_W4b q
theorem q_shp_congr {q r : qS} {m : Nat} (h2 : ∀ n, n < m → r 24 n = q 24 n) (h3 : ∀ n, n < m → r 23 n = q 23 n) : q_shp r m = q_shp q m := by
  induction m with
  | zero => rfl
  | succ m ih =>
    show q_shp r m + _ = q_shp q m + _
    rw [ih (fun n h => h2 n (by omega)) (fun n h => h3 n (by omega)), h2 m (by omega), h3 m (by omega)]
def q_sterm (q : qS) (n : Nat) : Nat := if q 24 n = 115 then q 23 n else 0
theorem q_shp_up {q r : qS} {m n : Nat} (hn : n < m) (h2 : ∀ i, i ≠ n → r 24 i = q 24 i) (h3 : ∀ i, i ≠ n → r 23 i = q 23 i) : q_shp r m + q_sterm q n = q_shp q m + q_sterm r n := by
  induction m with
  | zero => exact absurd hn (Nat.not_lt_zero _)
  | succ m ih =>
    show q_shp r m + q_sterm r m + q_sterm q n = q_shp q m + q_sterm q m + q_sterm r n
    by_cases e : n = m
    · subst e
      rw [q_shp_congr (q := q) (r := r) (fun i hi => h2 i (by omega)) (fun i hi => h3 i (by omega))]
      omega
    · have := ih (by omega)
      have h9 : q_sterm r m = q_sterm q m := by unfold q_sterm; rw [h2 m (fun e9 => e e9.symm), h3 m (fun e9 => e e9.symm)]
      rw [h9]
      omega
theorem q_scan_W3 {q : qS} {n s : Nat} (h : q_W3 q) (hs : q_st s = 112 → q 14 (q 21 n) - (if q 24 n = 112 then q 23 n else 0) + q 23 n ≤ q 12 (q 21 n)) : q_W3 (q_scan n s q) := by
  intro a ha
  rw [q_scan_o (k := 72) (by decide)] at ha
  rw [q_scan_o (k := 12) (by decide), q_scan_o (k := 11) (by decide)]
  obtain ⟨h1, h2, h3⟩ := h a ha
  refine ⟨?_, h2, h3⟩
  by_cases c : a = q 21 n
  · subst c
    rw [q_scan_14]
    by_cases e : q_st s = 112
    · rw [if_pos e]; exact hs e
    · rw [if_neg e]; omega
  · rw [q_scan_14o c]; exact h1
theorem q_scan_W4a {q : qS} {n s : Nat} (h : q_W4a q) (hs : q_st s = 111 ∨ q_st s = 112 ∨ q_st s = 107 ∨ q_st s = 115 ∨ q_st s = 100) (ha : 1 ≤ q 23 n ∨ q_st s = 100) : q_W4a (q_scan n s q) := by
  intro m hm
  rw [q_scan_o (k := 73) (by decide)] at hm
  rw [q_scan_o (k := 23) (by decide), q_scan_o (k := 25) (by decide), q_scan_o (k := 57) (by decide)]
  obtain ⟨h1, h2, h3, h4⟩ := h m hm
  by_cases c : m = n
  · subst c
    rw [q_scan_24]; exact ⟨hs, ha, h3, h4⟩
  · rw [q_scan_24o c]; exact ⟨h1, h2, h3, h4⟩
theorem q_scan_W4b {q : qS} {n s : Nat} (h : q_W4b q) (hs : q_st s ≠ 112) : q_W4b (q_scan n s q) := by
  intro m hm hp
  rw [q_scan_o (k := 73) (by decide)] at hm
  rw [q_scan_o (k := 1) (by decide), q_scan_o (k := 25) (by decide), q_scan_o (k := 21) (by decide), q_scan_o (k := 10) (by decide)]
  by_cases c : m = n
  · subst c; rw [q_scan_24] at hp; exact absurd hp hs
  · rw [q_scan_24o c] at hp; exact h m hm hp
theorem q_scan_W7 {q : qS} {n s : Nat} (h : q_W7 q) : q_W7 (q_scan n s q) := by
  intro r hr
  rw [q_scan_o (k := 30) (by decide), q_scan_o (k := 31) (by decide), q_scan_o (k := 32) (by decide), q_scan_o (k := 72) (by decide)]
  exact h r hr
theorem q_scan_W8 {q : qS} {n s : Nat} (h : q_W8 q) (hn : n < q 73 0) (h1 : q 24 n ≠ 115) (h2 : q_st s ≠ 115) : q_W8 (q_scan n s q) := by
  unfold q_W8
  rw [q_scan_o (k := 59) (by decide), q_scan_o (k := 73) (by decide), h]
  have e := q_shp_up (q := q) (r := q_scan n s q) hn (fun i hi => q_scan_24o hi) (fun i _ => q_scan_o (by decide))
  unfold q_sterm at e
  rw [q_scan_24, if_neg h1, if_neg h2] at e
  exact e.symm
/-- an order leaves the promised ones, or is dropped -/
theorem q_V_scan {q : qS} {n s : Nat} (h : q_V q) (hn : n < q 73 0) (hs : (s = 117 ∧ q 24 n = 112) ∨ (s = 107 ∧ q 24 n = 112 ∧ 1 ≤ q 23 n) ∨ (s = 100 ∧ (q 24 n = 111 ∨ q 24 n = 112))) : q_V (q_scan n s q) ∧ q_st s ≠ 112 := by
  obtain ⟨w1, w2, w4, w5, w6, w7, w8⟩ := h
  obtain ⟨l1, l2⟩ := q_last_of w5 hn
  have hst : q_st s ≠ 112 ∧ q_st s ≠ 115 ∧ (q_st s = 111 ∨ q_st s = 112 ∨ q_st s = 107 ∨ q_st s = 115 ∨ q_st s = 100) ∧ s ≠ 0 := by
    rcases hs with ⟨rfl, -⟩ | ⟨rfl, -⟩ | ⟨rfl, -⟩ <;> decide
  have h15 : q 24 n ≠ 115 := by omega
  have ham := (w4 n hn).2.1
  have hnx : q_nx (q_last q n (q 42 0)) s := by
    unfold q_nx
    rcases hs with ⟨rfl, e⟩ | ⟨rfl, e, -⟩ | ⟨rfl, e | e⟩
    · have := l2 (by omega); omega
    · have := l2 (by omega); omega
    · have := l1 e; omega
    · have := l2 (by omega); omega
  have hb : q_cnt q n (q 42 0) + 1 ≤ 2 * q 57 0 + q_b (q_st s) := by
    have hc := w6.2 n hn
    rcases hs with ⟨rfl, e⟩ | ⟨rfl, e, -⟩ | ⟨rfl, e | e⟩
    · rw [e] at hc; have h8 : q_b 112 = 0 := by decide
      have h9 : q_b (q_st 117) = 1 := by decide
      omega
    · rw [e] at hc; have h8 : q_b 112 = 0 := by decide
      have h9 : q_b (q_st 107) = 1 := by decide
      omega
    · rw [e] at hc; have h8 : q_b 111 = 1 := by decide
      have h9 : q_b (q_st 100) = 2 := by decide
      omega
    · rw [e] at hc; have h8 : q_b 112 = 0 := by decide
      have h9 : q_b (q_st 100) = 2 := by decide
      omega
  refine ⟨⟨q_scan_W1 w1, q_scan_W2 w1 w2 hn, q_scan_W4a w4 hst.2.2.1 ?_, q_scan_W5 w5 hn hnx hst.2.2.2, q_scan_W6 w6 hb, q_scan_W7 w7, q_scan_W8 w8 hn h15 hst.2.1⟩, hst.1⟩
  rcases hs with ⟨rfl, e⟩ | ⟨rfl, e, h1⟩ | ⟨rfl, e⟩
  · rcases ham with h | h
    · exact Or.inl h
    · omega
  · exact Or.inl h1
  · exact Or.inr rfl
theorem q_W_scan {q : qS} {n s : Nat} (h : q_W q) (hn : n < q 73 0) (hs : (s = 117 ∧ q 24 n = 112) ∨ (s = 107 ∧ q 24 n = 112 ∧ 1 ≤ q 23 n) ∨ (s = 100 ∧ (q 24 n = 111 ∨ q 24 n = 112))) : q_W (q_scan n s q) := by
  obtain ⟨v, e⟩ := q_V_scan h.1 hn hs
  exact ⟨v, q_scan_W3 h.2.1 (fun e9 => absurd e9 e), q_scan_W4b h.2.2 e⟩
/-- orders opened again, those that P says -/
def q_re (P : qS → Nat → Bool) : Nat → qS → qS
  | 0, q => q
  | m + 1, q => if P (q_re P m q) m = true then q_scan m 117 (q_re P m q) else q_re P m q
theorem q_re_o {P : qS → Nat → Bool} {m : Nat} {q : qS} {k i : Nat} (h : k ≠ 14 ∧ k ≠ 24 ∧ k ≠ 42 ∧ k ≠ 43 ∧ k ≠ 44) : q_re P m q k i = q k i := by
  induction m with
  | zero => rfl
  | succ m ih =>
    show (if P (q_re P m q) m = true then q_scan m 117 (q_re P m q) else q_re P m q) k i = q k i
    split
    · rw [q_scan_o h]; exact ih
    · exact ih
theorem q_re_V {P : qS → Nat → Bool} {m : Nat} {q : qS} (h : q_V q) (hm : m ≤ q 73 0) (hP : ∀ r n, P r n = true → r 24 n = 112) : q_V (q_re P m q) := by
  induction m with
  | zero => exact h
  | succ m ih =>
    show q_V (if P (q_re P m q) m = true then q_scan m 117 (q_re P m q) else q_re P m q)
    split
    · next e => exact (q_V_scan (ih (by omega)) (by rw [q_re_o (by decide)]; omega) (Or.inl ⟨rfl, hP _ _ e⟩)).1
    · exact ih (by omega)
theorem q_re_W3 {P : qS → Nat → Bool} {m : Nat} {q : qS} (h : q_W3 q) : q_W3 (q_re P m q) := by
  induction m with
  | zero => exact h
  | succ m ih =>
    show q_W3 (if P (q_re P m q) m = true then q_scan m 117 (q_re P m q) else q_re P m q)
    split
    · exact q_scan_W3 ih (fun e => absurd e (by decide))
    · exact ih
theorem q_re_W4b {P : qS → Nat → Bool} {m : Nat} {q : qS} (h : q_W4b q) : q_W4b (q_re P m q) := by
  induction m with
  | zero => exact h
  | succ m ih =>
    show q_W4b (if P (q_re P m q) m = true then q_scan m 117 (q_re P m q) else q_re P m q)
    split
    · exact q_scan_W4b ih (by decide)
    · exact ih
theorem q_re_W {P : qS → Nat → Bool} {m : Nat} {q : qS} (h : q_W q) (hm : m ≤ q 73 0) (hP : ∀ r n, P r n = true → r 24 n = 112) : q_W (q_re P m q) := ⟨q_re_V h.1 hm hP, q_re_W3 h.2.1, q_re_W4b h.2.2⟩
/-- an order that is not reached is as it was -/
theorem q_re_24 {P : qS → Nat → Bool} {m n : Nat} {q : qS} (hn : m ≤ n) : q_re P m q 24 n = q 24 n := by
  induction m with
  | zero => rfl
  | succ m ih =>
    show (if P (q_re P m q) m = true then q_scan m 117 (q_re P m q) else q_re P m q) 24 n = q 24 n
    split
    · rw [q_scan_24o (by omega)]; exact ih (by omega)
    · exact ih (by omega)
theorem q_re_le {P : qS → Nat → Bool} {m n : Nat} {q : qS} : q_re P m q 24 n = q 24 n ∨ q_re P m q 24 n = 111 := by
  induction m with
  | zero => exact Or.inl rfl
  | succ m ih =>
    show (if P (q_re P m q) m = true then q_scan m 117 (q_re P m q) else q_re P m q) 24 n = q 24 n ∨ (if P (q_re P m q) m = true then q_scan m 117 (q_re P m q) else q_re P m q) 24 n = 111
    split
    · by_cases c : n = m
      · subst c; rw [q_scan_24]; exact Or.inr rfl
      · rw [q_scan_24o c]; exact ih
    · exact ih
def q_PA (j : Nat) : qS → Nat → Bool := fun q n => decide (q 10 (q 21 n) = j ∧ q 24 n = 112)
def q_PI (a : Nat) : qS → Nat → Bool := fun q n => decide (q 21 n = a ∧ q 24 n = 112)
/-- behind it none of those is promised -/
theorem q_re_PA {m j n : Nat} {q : qS} (hn : n < m) (h : q_re (q_PA j) m q 24 n = 112) : q 10 (q 21 n) ≠ j := by
  induction m with
  | zero => exact absurd hn (Nat.not_lt_zero _)
  | succ m ih =>
    intro hj
    have h' : (if q_PA j (q_re (q_PA j) m q) m = true then q_scan m 117 (q_re (q_PA j) m q) else q_re (q_PA j) m q) 24 n = 112 := h
    by_cases c : n = m
    · subst c
      by_cases e : q_PA j (q_re (q_PA j) n q) n = true
      · rw [if_pos e, q_scan_24] at h'; exact absurd h' (by decide)
      · rw [if_neg e] at h'
        apply e
        unfold q_PA
        rw [q_re_o (k := 10) (by decide), q_re_o (k := 21) (by decide)]
        exact decide_eq_true ⟨hj, h'⟩
    · refine ih (by omega) ?_ hj
      split at h'
      · rw [q_scan_24o c] at h'; exact h'
      · exact h'
theorem q_re_PI {m a n : Nat} {q : qS} (hn : n < m) (h : q_re (q_PI a) m q 24 n = 112) : q 21 n ≠ a := by
  induction m with
  | zero => exact absurd hn (Nat.not_lt_zero _)
  | succ m ih =>
    intro hj
    have h' : (if q_PI a (q_re (q_PI a) m q) m = true then q_scan m 117 (q_re (q_PI a) m q) else q_re (q_PI a) m q) 24 n = 112 := h
    by_cases c : n = m
    · subst c
      by_cases e : q_PI a (q_re (q_PI a) n q) n = true
      · rw [if_pos e, q_scan_24] at h'; exact absurd h' (by decide)
      · rw [if_neg e] at h'
        apply e
        unfold q_PI
        rw [q_re_o (k := 21) (by decide)]
        exact decide_eq_true ⟨hj, h'⟩
    · refine ih (by omega) ?_ hj
      split at h'
      · rw [q_scan_24o c] at h'; exact h'
      · exact h'
theorem q_PA_p {j : Nat} : ∀ r n, q_PA j r n = true → r 24 n = 112 := fun r n h => (of_decide_eq_true h).2
theorem q_PI_p {a : Nat} : ∀ r n, q_PI a r n = true → r 24 n = 112 := fun r n h => (of_decide_eq_true h).2
/-- setBlocked -/
def q_blk (j v : Nat) (q : qS) : qS := if v = 0 then q_up q 1 j 0 else q_re (q_PA j) (q 73 0) (q_up q 1 j v)
/-- V rests on these fields, and on the robots -/
theorem q_V_of {q r : qS} (h : q_V q) (e : ∀ k, k ∈ [72, 73, 21, 22, 10, 14, 23, 24, 25, 42, 43, 44, 57, 59] → ∀ i, r k i = q k i) (h7 : q_W7 r) : q_V r := by
  obtain ⟨w1, w2, w4, w5, w6, w7, w8⟩ := h
  have e72 := e 72 (by decide) 0
  have e73 := e 73 (by decide) 0
  have e21 := e 21 (by decide)
  have e22 := e 22 (by decide)
  have e10 := e 10 (by decide)
  have e14 := e 14 (by decide)
  have e23 := e 23 (by decide)
  have e24 := e 24 (by decide)
  have e25 := e 25 (by decide)
  have e42 := e 42 (by decide) 0
  have e43 := e 43 (by decide)
  have e44 := e 44 (by decide)
  have e57 := e 57 (by decide) 0
  have e59 := e 59 (by decide) 0
  have l : ∀ n k', q_last r n k' = q_last q n k' := fun n k' => q_last_congr (fun j _ => e43 j) (fun j _ => e44 j)
  have ct : ∀ n k', q_cnt r n k' = q_cnt q n k' := fun n k' => q_cnt_congr (fun j _ => e43 j)
  refine ⟨?_, ?_, ?_, ?_, ?_, h7, ?_⟩
  · unfold q_W1
    rw [e72, e73]
    exact ⟨w1.1, w1.2.1, fun n hn => by rw [e21, e22]; exact w1.2.2.1 n hn, fun a ha => by rw [e10]; exact w1.2.2.2 a ha⟩
  · intro a ha
    rw [e72] at ha
    rw [e14, e73, w2 a ha]
    exact (q_sum_congr (fun n _ => e21 n) (fun n _ => e24 n) (fun n _ => e23 n)).symm
  · intro n hn
    rw [e73] at hn
    rw [e24, e23, e25, e57]
    exact w4 n hn
  · unfold q_W5
    rw [e42, e73]
    exact ⟨fun k' hk' => by rw [e43, e44, l]; exact w5.1 k' hk', fun n hn => by rw [l, e24]; exact w5.2 n hn⟩
  · unfold q_W6
    rw [e57, e73, e42]
    exact ⟨w6.1, fun n hn => by rw [ct, e24]; exact w6.2 n hn⟩
  · unfold q_W8
    rw [e59, e73, w8]
    exact (q_shp_congr (fun n _ => e24 n) (fun n _ => e23 n)).symm
theorem q_up_e {q : qS} {k i v : Nat} (hk : k ∉ [72, 73, 21, 22, 10, 14, 23, 24, 25, 42, 43, 44, 57, 59]) : ∀ k', k' ∈ [72, 73, 21, 22, 10, 14, 23, 24, 25, 42, 43, 44, 57, 59] → ∀ i', q_up q k i v k' i' = q k' i' := fun k' h i' => q_k (fun e => hk (by rw [← e]; exact h))
/-- a field that no sum, no state and no scan is made of -/
theorem q_up_V {q : qS} {k i v : Nat} (h : q_V q) (hk : k ∉ [72, 73, 21, 22, 10, 14, 23, 24, 25, 42, 43, 44, 57, 59]) (hk3 : k ∉ [30, 31, 32]) : q_V (q_up q k i v) :=
  q_V_of h (q_up_e hk) (fun r hr => by
    have e : ∀ k', k' ∈ [30, 31, 32] → ∀ i', q_up q k i v k' i' = q k' i' := fun k' h i' => q_k (fun e => hk3 (by rw [← e]; exact h))
    rw [e 30 (by decide), e 31 (by decide), e 32 (by decide), q_up_e hk 72 (by decide)]
    exact h.2.2.2.2.2.1 r hr)
theorem q_up_W3 {q : qS} {k i v : Nat} (h : q_W3 q) (hk : k ≠ 72 ∧ k ≠ 14 ∧ k ≠ 12 ∧ k ≠ 11) : q_W3 (q_up q k i v) := by
  intro a ha
  rw [q_k (fun e => hk.1 e.symm)] at ha
  rw [q_k (k' := 14) (fun e => hk.2.1 e.symm), q_k (k' := 12) (fun e => hk.2.2.1 e.symm), q_k (k' := 11) (fun e => hk.2.2.2 e.symm)]
  exact h a ha
theorem q_up_W4b {q : qS} {k i v : Nat} (h : q_W4b q) (hk : k ≠ 73 ∧ k ≠ 24 ∧ k ≠ 1 ∧ k ≠ 10 ∧ k ≠ 21 ∧ k ≠ 25) : q_W4b (q_up q k i v) := by
  intro n hn hp
  rw [q_k (fun e => hk.1 e.symm)] at hn
  rw [q_k (fun e => hk.2.1 e.symm)] at hp
  rw [q_k (k' := 1) (fun e => hk.2.2.1 e.symm), q_k (k' := 10) (fun e => hk.2.2.2.1 e.symm), q_k (k' := 21) (fun e => hk.2.2.2.2.1 e.symm), q_k (k' := 25) (fun e => hk.2.2.2.2.2 e.symm)]
  exact h n hn hp
theorem q_blk_W {q : qS} {j v : Nat} (h : q_W q) : q_W (q_blk j v q) := by
  unfold q_blk
  by_cases hv : v = 0
  · rw [if_pos hv]
    refine ⟨q_up_V h.1 (by decide) (by decide), q_up_W3 h.2.1 (by decide), ?_⟩
    intro n hn hp
    rw [q_k (by decide)] at hn hp
    obtain ⟨h1, h2⟩ := h.2.2 n hn hp
    rw [q_k (k' := 10) (by decide), q_k (k' := 21) (by decide), q_k (k' := 25) (by decide)]
    refine ⟨?_, h2⟩
    by_cases c : q 10 (q 21 n) = j
    · rw [c, q_at]
    · rw [q_i c]; exact h1
  · rw [if_neg hv]
    have v0 : q_V (q_up q 1 j v) := q_up_V h.1 (by decide) (by decide)
    refine ⟨q_re_V v0 (by rw [q_k (by decide)]; exact Nat.le_refl _) q_PA_p, q_re_W3 (q_up_W3 h.2.1 (by decide)), ?_⟩
    intro n hn hp
    rw [q_re_o (by decide), q_k (by decide)] at hn
    have hne := q_re_PA hn hp
    rw [q_k (k' := 10) (by decide), q_k (k' := 21) (by decide)] at hne
    rw [q_re_o (k := 1) (by decide), q_re_o (k := 10) (by decide), q_re_o (k := 21) (by decide), q_re_o (k := 25) (by decide), q_k (k' := 10) (by decide), q_k (k' := 21) (by decide), q_k (k' := 25) (by decide), q_i hne]
    refine h.2.2 n hn ?_
    rcases q_re_le (P := q_PA j) (m := q 73 0) (n := n) (q := q_up q 1 j v) with e | e
    · rw [e, q_k (by decide)] at hp; exact hp
    · rw [e] at hp; exact absurd hp (by decide)
theorem q_last_none {q : qS} {n k : Nat} (h : ∀ j, j < k → q 43 j ≠ n) : q_last q n k = 0 := by
  induction k with
  | zero => rfl
  | succ k ih =>
    show (if q 43 k = n then q 44 k else q_last q n k) = 0
    rw [if_neg (h k (by omega))]; exact ih (fun j hj => h j (by omega))
theorem q_cnt_none {q : qS} {n k : Nat} (h : ∀ j, j < k → q 43 j ≠ n) : q_cnt q n k = 0 := by
  induction k with
  | zero => rfl
  | succ k ih =>
    show q_cnt q n k + (if q 43 k = n then 1 else 0) = 0
    rw [if_neg (h k (by omega)), ih (fun j hj => h j (by omega))]
theorem q_sum_zero {q : qS} {a m : Nat} (h : ∀ n, n < m → q 24 n = 112 → q 21 n ≠ a) : q_sum q a m = 0 := by
  induction m with
  | zero => rfl
  | succ m ih =>
    show q_sum q a m + (if q 21 m = a ∧ q 24 m = 112 then q 23 m else 0) = 0
    rw [ih (fun n hn => h n (by omega)), if_neg (fun e => h m (by omega) e.2 e.1)]
/-- an order more, its number not scanned yet -/
def q_new (a am ca : Nat) (q : qS) : qS := q_up (q_up (q_up (q_up (q_up (q_up q 21 (q 73 0) a) 22 (q 73 0) ca) 23 (q 73 0) am) 24 (q 73 0) 111) 25 (q 73 0) 0) 73 0 (q 73 0 + 1)
theorem q_new_o {q : qS} {a am ca k i : Nat} (h : k ∉ [21, 22, 23, 24, 25, 73]) : q_new a am ca q k i = q k i := by
  have e : ∀ j, j ∈ [21, 22, 23, 24, 25, 73] → k ≠ j := fun j hj e => h (by rw [e]; exact hj)
  unfold q_new
  rw [q_k (e 73 (by decide)), q_k (e 25 (by decide)), q_k (e 24 (by decide)), q_k (e 23 (by decide)), q_k (e 22 (by decide)), q_k (e 21 (by decide))]
theorem q_new_i {q : qS} {a am ca k i : Nat} (h : k ≠ 73) (hi : i ≠ q 73 0) : q_new a am ca q k i = q k i := by
  unfold q_new
  rw [q_k h, q_i hi, q_i hi, q_i hi, q_i hi, q_i hi]
theorem q_new_73 {q : qS} {a am ca : Nat} : q_new a am ca q 73 0 = q 73 0 + 1 := q_at
theorem q_new_25 {q : qS} {a am ca : Nat} : q_new a am ca q 25 (q 73 0) = 0 := (q_k (by decide)).trans q_at
theorem q_new_24 {q : qS} {a am ca : Nat} : q_new a am ca q 24 (q 73 0) = 111 := by unfold q_new; rw [q_k (by decide), q_k (by decide), q_at]
theorem q_new_23 {q : qS} {a am ca : Nat} : q_new a am ca q 23 (q 73 0) = am := by unfold q_new; rw [q_k (by decide), q_k (by decide), q_k (by decide), q_at]
theorem q_new_22 {q : qS} {a am ca : Nat} : q_new a am ca q 22 (q 73 0) = ca := by unfold q_new; rw [q_k (by decide), q_k (by decide), q_k (by decide), q_k (by decide), q_at]
theorem q_new_21 {q : qS} {a am ca : Nat} : q_new a am ca q 21 (q 73 0) = a := by unfold q_new; rw [q_k (by decide), q_k (by decide), q_k (by decide), q_k (by decide), q_k (by decide), q_at]
/-- an order comes -/
def q_come (a am ca : Nat) (q : qS) : qS := q_scan (q 73 0) 110 (q_new a am ca q)
theorem q_come_V {q : qS} {a am ca : Nat} (h : q_V q) (ha : a < q 72 0) (hc : ca < 3) (h1 : 1 ≤ am) (h2 : am ≤ 20) (hn : q 73 0 < 12) : q_V (q_come a am ca q) := by
  obtain ⟨w1, w2, w4, w5, w6, w7, w8⟩ := h
  have hno : ∀ j, j < q 42 0 → q_new a am ca q 43 j ≠ q 73 0 := fun j hj => by rw [q_new_o (by decide)]; have := (w5.1 j hj).1; omega
  have e42 : q_new a am ca q 42 0 = q 42 0 := q_new_o (by decide)
  have x1 : q_W1 (q_new a am ca q) := by
    unfold q_W1
    rw [q_new_o (k := 72) (by decide), q_new_73]
    refine ⟨w1.1, hn, fun n hm => ?_, fun i hi => by rw [q_new_o (k := 10) (by decide)]; exact w1.2.2.2 i hi⟩
    by_cases c : n = q 73 0
    · subst c; rw [q_new_21, q_new_22]; exact ⟨ha, hc⟩
    · rw [q_new_i (by decide) c, q_new_i (by decide) c]; exact w1.2.2.1 n (by omega)
  have x2 : q_W2 (q_new a am ca q) := by
    intro b hb
    rw [q_new_o (k := 72) (by decide)] at hb
    rw [q_new_o (k := 14) (by decide), q_new_73, w2 b hb]
    show _ = q_sum (q_new a am ca q) b (q 73 0) + (if q_new a am ca q 21 (q 73 0) = b ∧ q_new a am ca q 24 (q 73 0) = 112 then q_new a am ca q 23 (q 73 0) else 0)
    rw [q_new_24, if_neg (fun e => absurd e.2 (by decide)), q_sum_congr (q := q) (fun n hn => q_new_i (by decide) (by omega)) (fun n hn => q_new_i (by decide) (by omega)) (fun n hn => q_new_i (by decide) (by omega))]
    rfl
  have x4 : q_W4a (q_new a am ca q) := by
    intro n hm
    rw [q_new_73] at hm
    rw [q_new_o (k := 57) (by decide)]
    by_cases c : n = q 73 0
    · subst c; rw [q_new_24, q_new_23, q_new_25]; exact ⟨Or.inl rfl, Or.inl h1, h2, Nat.zero_le _⟩
    · rw [q_new_i (by decide) c, q_new_i (by decide) c, q_new_i (by decide) c]; exact w4 n (by omega)
  have x6 : q_W6 (q_new a am ca q) := by
    unfold q_W6
    rw [q_new_73, q_new_o (k := 57) (by decide), e42]
    refine ⟨w6.1, fun n hm => ?_⟩
    by_cases c : n = q 73 0
    · subst c; rw [q_cnt_none hno]; exact Nat.zero_le _
    · rw [q_cnt_congr (q := q) (fun j hj => q_new_o (by decide)), q_new_i (by decide) c]; exact w6.2 n (by omega)
  have x7 : q_W7 (q_new a am ca q) := by
    intro r hr
    rw [q_new_o (k := 30) (by decide), q_new_o (k := 31) (by decide), q_new_o (k := 32) (by decide), q_new_o (k := 72) (by decide)]
    exact w7 r hr
  have x8 : q_W8 (q_new a am ca q) := by
    unfold q_W8
    rw [q_new_o (k := 59) (by decide), q_new_73, w8]
    show _ = q_shp (q_new a am ca q) (q 73 0) + (if q_new a am ca q 24 (q 73 0) = 115 then q_new a am ca q 23 (q 73 0) else 0)
    rw [q_new_24, if_neg (by decide), q_shp_congr (q := q) (fun n hn => q_new_i (by decide) (by omega)) (fun n hn => q_new_i (by decide) (by omega))]
    rfl
  have hlt : q 73 0 < q_new a am ca q 73 0 := by rw [q_new_73]; omega
  have hl : ∀ m k, q_last (q_new a am ca q) m k = q_last q m k := fun m k => q_last_congr (fun j _ => q_new_o (by decide)) (fun j _ => q_new_o (by decide))
  refine ⟨q_scan_W1 x1, q_scan_W2 x1 x2 hlt, q_scan_W4a x4 (Or.inl rfl) (Or.inl (by rw [q_new_23]; exact h1)), q_scan_W5x ⟨fun k hk => ?_, fun m hm hne => ?_⟩ hlt ?_ (by decide), q_scan_W6 x6 ?_, q_scan_W7 x7, q_scan_W8 x8 hlt (by rw [q_new_24]; decide) (by decide)⟩
  · rw [e42] at hk
    rw [q_new_o (k := 43) (by decide), q_new_o (k := 44) (by decide), hl, q_new_73]
    have := w5.1 k hk
    exact ⟨by omega, this.2⟩
  · rw [q_new_73] at hm
    rw [e42, hl, q_new_i (by decide) hne]
    exact w5.2 m (by omega)
  · rw [e42, q_last_none hno]; exact Or.inl ⟨rfl, rfl⟩
  · rw [e42, q_cnt_none hno, q_new_o (k := 57) (by decide)]; have : q_b (q_st 110) = 1 := by decide
    omega
theorem q_come_W3 {q : qS} {a am ca : Nat} (h : q_W3 q) : q_W3 (q_come a am ca q) := by
  refine q_scan_W3 (fun b hb => ?_) (fun e => absurd e (by decide))
  rw [q_new_o (k := 72) (by decide)] at hb
  rw [q_new_o (k := 14) (by decide), q_new_o (k := 12) (by decide), q_new_o (k := 11) (by decide)]
  exact h b hb
theorem q_come_W4b {q : qS} {a am ca : Nat} (h : q_W4b q) : q_W4b (q_come a am ca q) := by
  refine q_scan_W4b (fun n hn hp => ?_) (by decide)
  rw [q_new_73] at hn
  by_cases c : n = q 73 0
  · subst c; rw [q_new_24] at hp; exact absurd hp (by decide)
  · rw [q_new_i (by decide) c] at hp
    rw [q_new_i (k := 21) (by decide) c, q_new_i (k := 25) (by decide) c, q_new_o (k := 1) (by decide), q_new_o (k := 10) (by decide)]
    exact h n (by omega) hp
theorem q_come_W {q : qS} {a am ca : Nat} (h : q_W q) (ha : a < q 72 0) (hc : ca < 3) (h1 : 1 ≤ am) (h2 : am ≤ 20) (hn : q 73 0 < 12) : q_W (q_come a am ca q) := ⟨q_come_V h.1 ha hc h1 h2 hn, q_come_W3 h.2.1, q_come_W4b h.2.2⟩
