/-- an order is promised in wave w -/
def q_prm (n w : Nat) (q : qS) : qS := q_up (q_scan n 112 q) 25 n (w + 1)
/-- while wave w runs -/
def q_Wv (w : Nat) (q : qS) : Prop := (q_W1 q ∧ q_W2 q ∧ q_W4a q ∧ q_W5 q ∧ q_W7 q ∧ q_W8 q) ∧ q_W3 q ∧ q_W4b q ∧ (q 57 0 = w + 1 ∧ w + 1 ≤ 20) ∧ ∀ n, n < q 73 0 → q_cnt q n (q 42 0) ≤ 2 * (w + 1) + q_b (q 24 n) ∧ (q 24 n = 111 → q_cnt q n (q 42 0) + 1 ≤ 2 * (w + 1)) ∧ (q 25 n = w + 1 → q 24 n = 112)
theorem q_Wv_W {w : Nat} {q : qS} (h : q_Wv w q) : q_W q := by
  obtain ⟨⟨w1, w2, w4, w5, w7, w8⟩, w3, w4b, ⟨e1, e2⟩, hc⟩ := h
  refine ⟨⟨w1, w2, w4, w5, ⟨by omega, fun n hn => ?_⟩, w7, w8⟩, w3, w4b⟩
  rw [e1]; exact (hc n hn).1
theorem q_Wv_begin {w : Nat} {q : qS} (h : q_W q) (hw : q 57 0 = w) (h20 : w < 20) : q_Wv w (q_up q 57 0 (w + 1)) := by
  obtain ⟨⟨w1, w2, w4, w5, w6, w7, w8⟩, w3, w4b⟩ := h
  have e : ∀ k, k ≠ 57 → ∀ i, q_up q 57 0 (w + 1) k i = q k i := fun k hk i => q_k hk
  have l : ∀ m k', q_last (q_up q 57 0 (w + 1)) m k' = q_last q m k' := fun m k' => q_last_congr (fun j _ => e 43 (by decide) j) (fun j _ => e 44 (by decide) j)
  have ct : ∀ m k', q_cnt (q_up q 57 0 (w + 1)) m k' = q_cnt q m k' := fun m k' => q_cnt_congr (fun j _ => e 43 (by decide) j)
  refine ⟨⟨?_, ?_, ?_, ?_, ?_, ?_⟩, q_up_W3 w3 (by decide), q_up_W4b w4b (by decide), ⟨q_at, by omega⟩, ?_⟩
  · unfold q_W1
    rw [e 72 (by decide), e 73 (by decide)]
    exact ⟨w1.1, w1.2.1, fun m hm => by rw [e 21 (by decide), e 22 (by decide)]; exact w1.2.2.1 m hm, fun a ha => by rw [e 10 (by decide)]; exact w1.2.2.2 a ha⟩
  · intro a ha
    rw [e 72 (by decide)] at ha
    rw [e 14 (by decide), e 73 (by decide), w2 a ha]
    exact (q_sum_congr (fun i _ => e 21 (by decide) i) (fun i _ => e 24 (by decide) i) (fun i _ => e 23 (by decide) i)).symm
  · intro m hm
    rw [e 73 (by decide)] at hm
    rw [e 24 (by decide), e 23 (by decide), e 25 (by decide), q_at]
    have := w4 m hm
    exact ⟨this.1, this.2.1, this.2.2.1, by omega⟩
  · unfold q_W5
    rw [e 42 (by decide), e 73 (by decide)]
    exact ⟨fun k' hk' => by rw [e 43 (by decide), e 44 (by decide), l]; exact w5.1 k' hk', fun m hm => by rw [l, e 24 (by decide)]; exact w5.2 m hm⟩
  · intro r hr
    rw [e 30 (by decide), e 31 (by decide), e 32 (by decide), e 72 (by decide)]
    exact w7 r hr
  · unfold q_W8
    rw [e 59 (by decide), e 73 (by decide), w8]
    exact (q_shp_congr (fun i _ => e 24 (by decide) i) (fun i _ => e 23 (by decide) i)).symm
  · intro n hn
    rw [e 73 (by decide)] at hn
    rw [e 42 (by decide), ct, e 24 (by decide), e 25 (by decide)]
    have hc := w6.2 n hn
    have h4 := (w4 n hn).2.2.2
    refine ⟨by omega, fun e9 => ?_, fun e9 => ?_⟩
    · rw [e9] at hc; have : q_b 111 = 1 := by decide
      omega
    · omega
theorem q_prm_o {n w : Nat} {q : qS} {k i : Nat} (h : k ≠ 14 ∧ k ≠ 24 ∧ k ≠ 42 ∧ k ≠ 43 ∧ k ≠ 44) (h9 : k ≠ 25) : q_prm n w q k i = q k i := (q_k h9).trans (q_scan_o h)
theorem q_prm_Wv {n w : Nat} {q : qS} (h : q_Wv w q) (hn : n < q 73 0) (ho : q 24 n = 111) (hb : q 1 (q 10 (q 21 n)) = 0) (hf : q 23 n ≤ q 12 (q 21 n) - q 14 (q 21 n)) : q_Wv w (q_prm n w q) := by
  obtain ⟨⟨w1, w2, w4, w5, w7, w8⟩, w3, w4b, ⟨e1, e2⟩, hc⟩ := h
  have l1 := (q_last_of w5 hn).1 ho
  have h1 : 1 ≤ q 23 n := by have := (w4 n hn).2.1; omega
  have hla := (w1.2.2.1 n hn).1
  have h3 := w3 _ hla
  have x1 := q_scan_W1 (n := n) (s := 112) w1
  have x2 := q_scan_W2 (s := 112) w1 w2 hn
  have x4 := q_scan_W4a (n := n) (s := 112) w4 (Or.inr (Or.inl rfl)) (Or.inl h1)
  have x5 := q_scan_W5 (s := 112) w5 hn (Or.inr (Or.inl ⟨rfl, l1⟩)) (by decide)
  have x7 := q_scan_W7 (n := n) (s := 112) w7
  have x3 := q_scan_W3 (n := n) (s := 112) w3 (fun _ => by rw [if_neg (by omega)]; omega)
  have x8 := q_scan_W8 (s := 112) w8 hn (by omega) (by decide)
  have e : ∀ k, k ≠ 25 → ∀ i, q_prm n w q k i = q_scan n 112 q k i := fun k hk i => q_k hk
  have l : ∀ m k', q_last (q_prm n w q) m k' = q_last (q_scan n 112 q) m k' := fun m k' => q_last_congr (fun j _ => e 43 (by decide) j) (fun j _ => e 44 (by decide) j)
  have ct : ∀ m k', q_cnt (q_prm n w q) m k' = q_cnt (q_scan n 112 q) m k' := fun m k' => q_cnt_congr (fun j _ => e 43 (by decide) j)
  refine ⟨⟨?_, ?_, ?_, ?_, ?_, ?_⟩, q_up_W3 x3 (by decide), ?_, ⟨?_, e2⟩, ?_⟩
  · unfold q_W1
    rw [e 72 (by decide), e 73 (by decide)]
    exact ⟨x1.1, x1.2.1, fun m hm => by rw [e 21 (by decide), e 22 (by decide)]; exact x1.2.2.1 m hm, fun a ha => by rw [e 10 (by decide)]; exact x1.2.2.2 a ha⟩
  · intro a ha
    rw [e 72 (by decide)] at ha
    rw [e 14 (by decide), e 73 (by decide), x2 a ha]
    exact (q_sum_congr (fun i _ => e 21 (by decide) i) (fun i _ => e 24 (by decide) i) (fun i _ => e 23 (by decide) i)).symm
  · intro m hm
    rw [e 73 (by decide)] at hm
    rw [e 24 (by decide), e 23 (by decide), e 57 (by decide)]
    have y := x4 m hm
    refine ⟨y.1, y.2.1, y.2.2.1, ?_⟩
    by_cases c : m = n
    · subst c
      rw [show q_prm m w q 25 m = w + 1 from q_at, q_scan_o (k := 57) (by decide), e1]; exact Nat.le_refl _
    · rw [show q_prm n w q 25 m = q_scan n 112 q 25 m from q_i c]; exact y.2.2.2
  · unfold q_W5
    rw [e 42 (by decide), e 73 (by decide)]
    exact ⟨fun k' hk' => by rw [e 43 (by decide), e 44 (by decide), l]; exact x5.1 k' hk', fun m hm => by rw [l, e 24 (by decide)]; exact x5.2 m hm⟩
  · intro r hr
    rw [e 30 (by decide), e 31 (by decide), e 32 (by decide), e 72 (by decide)]
    exact x7 r hr
  · unfold q_W8
    rw [e 59 (by decide), e 73 (by decide), x8]
    exact (q_shp_congr (fun i _ => e 24 (by decide) i) (fun i _ => e 23 (by decide) i)).symm
  · intro m hm hp
    rw [e 73 (by decide), q_scan_o (k := 73) (by decide)] at hm
    rw [e 24 (by decide)] at hp
    rw [e 1 (by decide), e 10 (by decide), e 21 (by decide), q_scan_o (k := 1) (by decide), q_scan_o (k := 10) (by decide), q_scan_o (k := 21) (by decide)]
    by_cases c : m = n
    · subst c
      rw [show q_prm m w q 25 m = w + 1 from q_at]; exact ⟨hb, by omega⟩
    · rw [q_scan_24o c] at hp
      rw [show q_prm n w q 25 m = q_scan n 112 q 25 m from q_i c, q_scan_o (k := 25) (by decide)]
      exact w4b m hm hp
  · rw [e 57 (by decide), q_scan_o (k := 57) (by decide)]; exact e1
  · intro m hm
    rw [e 73 (by decide), q_scan_o (k := 73) (by decide)] at hm
    rw [e 42 (by decide), q_scan_42, ct, q_scan_cnt, e 24 (by decide)]
    have y := hc m hm
    by_cases c : n = m
    · subst c
      rw [if_pos rfl, q_scan_24]
      have := y.2.1 ho
      exact ⟨by omega, fun e9 => absurd e9 (by decide), fun _ => rfl⟩
    · rw [if_neg c, q_scan_24o (fun e9 => c e9.symm), show q_prm n w q 25 m = q_scan n 112 q 25 m from q_i (fun e9 => c e9.symm), q_scan_o (k := 25) (by decide)]
      exact y
/-- what one look of wave w at the orders of a carrier and an amount does -/
def q_pro (ca am w : Nat) : Nat → qS → qS
  | 0, q => q
  | m + 1, q => if (q_pro ca am w m q 22 m = ca ∧ q_pro ca am w m q 23 m = am ∧ q_pro ca am w m q 24 m = 111) ∧ q_pro ca am w m q 1 (q_pro ca am w m q 10 (q_pro ca am w m q 21 m)) = 0 ∧ q_pro ca am w m q 23 m ≤ q_pro ca am w m q 12 (q_pro ca am w m q 21 m) - q_pro ca am w m q 14 (q_pro ca am w m q 21 m) then q_prm m w (q_pro ca am w m q) else q_pro ca am w m q
theorem q_pro_o {ca am w m : Nat} {q : qS} {k i : Nat} (h : k ≠ 14 ∧ k ≠ 24 ∧ k ≠ 42 ∧ k ≠ 43 ∧ k ≠ 44) (h9 : k ≠ 25) : q_pro ca am w m q k i = q k i := by
  induction m with
  | zero => rfl
  | succ m ih =>
    unfold q_pro
    split
    · rw [q_prm_o h h9]; exact ih
    · exact ih
theorem q_pro_Wv {ca am w m : Nat} {q : qS} (h : q_Wv w q) (hm : m ≤ q 73 0) : q_Wv w (q_pro ca am w m q) := by
  induction m with
  | zero => exact h
  | succ m ih =>
    unfold q_pro
    split
    · next e => exact q_prm_Wv (ih (by omega)) (by rw [q_pro_o (by decide) (by decide)]; omega) e.1.2.2 e.2.1 e.2.2
    · exact ih (by omega)
/-- the looks for amounts 1 to k -/
def q_wl (ca w : Nat) : Nat → qS → qS
  | 0, q => q
  | k + 1, q => q_pro ca (k + 1) w (q 73 0) (q_wl ca w k q)
theorem q_wl_o {ca w k9 : Nat} {q : qS} {k i : Nat} (h : k ≠ 14 ∧ k ≠ 24 ∧ k ≠ 42 ∧ k ≠ 43 ∧ k ≠ 44) (h9 : k ≠ 25) : q_wl ca w k9 q k i = q k i := by
  induction k9 with
  | zero => rfl
  | succ k9 ih => exact (q_pro_o h h9).trans ih
theorem q_wl_Wv {ca w k9 : Nat} {q : qS} (h : q_Wv w q) : q_Wv w (q_wl ca w k9 q) := by
  induction k9 with
  | zero => exact h
  | succ k9 ih => exact q_pro_Wv ih (by rw [q_wl_o (by decide) (by decide)]; exact Nat.le_refl _)
def q_wave (ca : Nat) (q : qS) : qS := q_wl ca (q 57 0) 20 (q_up q 57 0 (q 57 0 + 1))
theorem q_wave_Wv {ca : Nat} {q : qS} (h : q_W q) (h20 : q 57 0 < 20) : q_Wv (q 57 0) (q_wave ca q) := q_wl_Wv (q_Wv_begin h rfl h20)
/-- a robot is sent -/
def q_send (r a mi ld : Nat) (q : qS) : qS := q_up (q_up (q_up (q_up q 32 r mi) 30 r (a + 1)) 31 r ld) 13 a (q 13 a - ld)
theorem q_send_W {r a mi ld : Nat} {q : qS} (h : q_W q) (ha : a < q 72 0) (h1 : 0 < mi) (h2 : 0 < ld) (h3 : ld ≤ 10) : q_W (q_send r a mi ld q) := by
  obtain ⟨v, w3, w4b⟩ := h
  have e : ∀ k, k ∉ [32, 30, 31, 13] → ∀ i, q_send r a mi ld q k i = q k i := by
    intro k hk i
    have f : ∀ j, j ∈ [32, 30, 31, 13] → k ≠ j := fun j hj e => hk (by rw [e]; exact hj)
    unfold q_send
    rw [q_k (f 13 (by decide)), q_k (f 31 (by decide)), q_k (f 30 (by decide)), q_k (f 32 (by decide))]
  refine ⟨q_V_of v (fun k hk => e k (fun h9 => ?_)) ?_, q_up_W3 (q_up_W3 (q_up_W3 (q_up_W3 w3 (by decide)) (by decide)) (by decide)) (by decide), q_up_W4b (q_up_W4b (q_up_W4b (q_up_W4b w4b (by decide)) (by decide)) (by decide)) (by decide)⟩
  · simp only [List.mem_cons, List.not_mem_nil, or_false] at h9 hk
    omega
  · intro x hx
    rw [e 72 (by decide)]
    by_cases c : x = r
    · subst c
      have g30 : q_send x a mi ld q 30 x = a + 1 := by unfold q_send; rw [q_k (by decide), q_k (by decide), q_at]
      have g31 : q_send x a mi ld q 31 x = ld := by unfold q_send; rw [q_k (by decide), q_at]
      have g32 : q_send x a mi ld q 32 x = mi := by unfold q_send; rw [q_k (by decide), q_k (by decide), q_k (by decide), q_at]
      rw [g30, g31, g32]
      exact Or.inr ⟨by omega, by omega, h2, h3, h1⟩
    · have g30 : q_send r a mi ld q 30 x = q 30 x := by unfold q_send; rw [q_k (by decide), q_k (by decide), q_i c, q_k (by decide)]
      have g31 : q_send r a mi ld q 31 x = q 31 x := by unfold q_send; rw [q_k (by decide), q_i c, q_k (by decide), q_k (by decide)]
      have g32 : q_send r a mi ld q 32 x = q 32 x := by unfold q_send; rw [q_k (by decide), q_k (by decide), q_k (by decide), q_i c]
      rw [g30, g31, g32]
      exact v.2.2.2.2.2.1 x hx
/-- a minute passes for a robot -/
def q_pm (r : Nat) (q : qS) : qS :=
  if q 30 r = 0 ∨ q 1 (q 10 (q 30 r - 1)) ≠ 0 then q
  else if 0 < q 32 r - 1 then q_up q 32 r (q 32 r - 1)
  else q_put (q 30 r - 1) (q 31 r) (q_up (q_up (q_up q 32 r 0) 30 r 0) 31 r 0)
theorem q_rob_W {q q' : qS} (h : q_W q) (e : ∀ k, k ∉ [30, 31, 32] → ∀ i, q' k i = q k i) (h7 : q_W7 q') : q_W q' := by
  obtain ⟨v, w3, w4b⟩ := h
  refine ⟨q_V_of v (fun k hk => e k (fun h9 => ?_)) h7, ?_, ?_⟩
  · simp only [List.mem_cons, List.not_mem_nil, or_false] at h9 hk
    omega
  · intro a ha
    rw [e 72 (by decide)] at ha
    rw [e 14 (by decide), e 12 (by decide), e 11 (by decide)]
    exact w3 a ha
  · intro n hn hp
    rw [e 73 (by decide)] at hn
    rw [e 24 (by decide)] at hp
    rw [e 1 (by decide), e 10 (by decide), e 21 (by decide), e 25 (by decide)]
    exact w4b n hn hp
theorem q_pm_W {r : Nat} {q : qS} (h : q_W q) (hr : r < 2) : q_W (q_pm r q) := by
  unfold q_pm
  by_cases c : q 30 r = 0 ∨ q 1 (q 10 (q 30 r - 1)) ≠ 0
  · rw [if_pos c]; exact h
  · rw [if_neg c]
    have h7 := h.1.2.2.2.2.2.1
    by_cases d : 0 < q 32 r - 1
    · rw [if_pos d]
      refine q_rob_W h (fun k hk i => q_k (fun e => hk (by rw [e]; decide))) (fun x hx => ?_)
      rw [q_k (k' := 30) (by decide), q_k (k' := 31) (by decide), q_k (k' := 72) (by decide)]
      by_cases e : x = r
      · subst e; rw [q_at]; have := h7 x hx; omega
      · rw [q_i e]; exact h7 x hx
    · rw [if_neg d]
      refine q_put_W (q_rob_W h (fun k hk i => ?_) (fun x hx => ?_))
      · have f : ∀ j, j ∈ [30, 31, 32] → k ≠ j := fun j hj e => hk (by rw [e]; exact hj)
        rw [q_k (f 31 (by decide)), q_k (f 30 (by decide)), q_k (f 32 (by decide))]
      · have g72 : q_up (q_up (q_up q 32 r 0) 30 r 0) 31 r 0 72 0 = q 72 0 := by rw [q_k (by decide), q_k (by decide), q_k (by decide)]
        by_cases e : x = r
        · subst e
          have g30 : q_up (q_up (q_up q 32 x 0) 30 x 0) 31 x 0 30 x = 0 := by rw [q_k (by decide), q_at]
          have g31 : q_up (q_up (q_up q 32 x 0) 30 x 0) 31 x 0 31 x = 0 := q_at
          have g32 : q_up (q_up (q_up q 32 x 0) 30 x 0) 31 x 0 32 x = 0 := by rw [q_k (by decide), q_k (by decide), q_at]
          exact Or.inl ⟨g30, g31, g32⟩
        · have g30 : q_up (q_up (q_up q 32 r 0) 30 r 0) 31 r 0 30 x = q 30 x := by rw [q_k (by decide), q_i e, q_k (by decide)]
          have g31 : q_up (q_up (q_up q 32 r 0) 30 r 0) 31 r 0 31 x = q 31 x := by rw [q_i e, q_k (by decide), q_k (by decide)]
          have g32 : q_up (q_up (q_up q 32 r 0) 30 r 0) 31 r 0 32 x = q 32 x := by rw [q_k (by decide), q_k (by decide), q_i e]
          rw [g30, g31, g32, g72]
          exact h7 x hx
/-- a minute passes -/
def q_min (q : qS) : qS := q_pm 1 (q_pm 0 (q_up q 56 0 (q 56 0 + 1)))
theorem q_min_W {q : qS} (h : q_W q) : q_W (q_min q) := q_pm_W (q_pm_W ⟨q_up_V h.1 (by decide) (by decide), q_up_W3 h.2.1 (by decide), q_up_W4b h.2.2 (by decide)⟩ (by decide)) (by decide)
def q_pass : Nat → qS → qS
  | 0, q => q
  | m + 1, q => q_min (q_pass m q)
theorem q_pass_W {m : Nat} {q : qS} (h : q_W q) : q_W (q_pass m q) := by
  induction m with
  | zero => exact h
  | succ m ih => exact q_min_W ih
