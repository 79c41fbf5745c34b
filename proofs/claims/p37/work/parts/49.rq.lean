/-! The pool holds the numbers: av, lv: where articles and orders lie -/
def LE (S : wPS) (l i x : Nat) : Prop := ∃ d, pG S 71 l = some d ∧ pY S d i = some x
def Rqa (z av : Nat → Nat) (S : wPS) (q : qS) : Prop := ∀ i, i < q 72 0 → Ob S 1 (av i) ∧ LE S (z 10) i (av i) ∧ pG S 10 (av i) = some (z (2 + q 10 i)) ∧ q 10 i < 4 ∧ ∀ k, k ∈ [11, 12, 13, 14] → pF S k (av i) = nI (q k i)
def Rql (z av lv : Nat → Nat) (S : wPS) (q : qS) : Prop := ∀ n, n < q 73 0 → Ob S 2 (lv n) ∧ LE S (z 11) n (lv n) ∧ pG S 21 (lv n) = some (av (q 21 n)) ∧ q 21 n < q 72 0 ∧ pF S 20 (lv n) = nI n ∧ pF S 25 (lv n) = nI (q 25 n) - 1 ∧ ∀ k, k ∈ [22, 23, 24] → pF S k (lv n) = nI (q k n)
def Rqi (av lv : Nat → Nat) (q : qS) : Prop := (∀ i j, i < q 72 0 → j < q 72 0 → av i = av j → i = j) ∧ ∀ i j, i < q 73 0 → j < q 73 0 → lv i = lv j → i = j
def Rqn (z : Nat → Nat) (S : wPS) (q : qS) : Prop := pF S 72 (z 10) = nI (q 72 0) ∧ pF S 72 (z 11) = nI (q 73 0)
def Rqb (z : Nat → Nat) (S : wPS) (q : qS) : Prop := ∀ j, j < 4 → ∀ k, k ∈ [0, 1, 2] → pF S k (z (2 + j)) = nI (q k j)
def Rqr (z av : Nat → Nat) (S : wPS) (q : qS) : Prop := ∀ r, r < 2 → pG S 30 (z (8 + r)) = (if q 30 r = 0 then none else some (av (q 30 r - 1))) ∧ ∀ k, k ∈ [31, 32] → pF S k (z (8 + r)) = nI (q k r)
def Rqs (z : Nat → Nat) (S : wPS) (q : qS) : Prop := (∀ k, k ∈ [56, 57, 58] → pF S k (z 0) = nI (q k 0)) ∧ pJ S (z 0) = lN (q 59 0)
def Rqg (z : Nat → Nat) (S : wPS) (q : qS) : Prop := pF S 42 (z 12) = nI (q 42 0) ∧ ∀ k, k < q 42 0 → pX S (z 13) k = nI (q 43 k) ∧ pX S (z 14) k = nI (q 44 k)
def Rqc (z : Nat → Nat) (S : wPS) (q : qS) : Prop := ∀ j, j < 3 → pX S (z 6) j = nI (q 60 j)
def Rq (z av lv : Nat → Nat) (S : wPS) (q : qS) : Prop := Rqa z av S q ∧ Rql z av lv S q ∧ Rqi av lv q ∧ Rqn z S q ∧ Rqb z S q ∧ Rqr z av S q ∧ Rqs z S q ∧ Rqg z S q ∧ Rqc z S q
section RQ
variable {z av lv : Nat → Nat} {S : wPS} {q : qS} {e0 f a i v : Nat} {x : Int32}
/-- a whole field is written: what doesn't speak of it -/
theorem Rqa.wf (h : Rqa z av S q) (hf : f ∉ [11, 12, 13, 14]) (hk : f ∉ [72, 10]) {g j : Nat} (hg : g ∉ [72, 10, 11, 12, 13, 14]) : Rqa z av (setF S f a x) (q_up q g j v) := by
  intro i hi
  have f9 : ∀ k, k ∈ [72, 10, 11, 12, 13, 14] → ∀ i, q_up q g j v k i = q k i := fun k hk i => q_k (fun e => hg (by rw [← e]; exact hk))
  rw [f9 72 (by decide)] at hi
  obtain ⟨h1, h2, h3, h4, h5⟩ := h i hi
  refine ⟨h1, h2, by rw [f9 10 (by decide)]; exact h3, by rw [f9 10 (by decide)]; exact h4, fun k hk => ?_⟩
  rw [uF_of (Or.inl (fun e => hf (by rw [← e]; exact hk))), f9 k (List.mem_cons_of_mem _ (List.mem_cons_of_mem _ hk))]
  exact h5 k hk
theorem Rql.wf (h : Rql z av lv S q) (hf : f ∉ [20, 22, 23, 24, 25]) {g j : Nat} (hg : g ∉ [72, 73, 21, 22, 23, 24, 25]) : Rql z av lv (setF S f a x) (q_up q g j v) := by
  intro n hn
  have f9 : ∀ k, k ∈ [72, 73, 21, 22, 23, 24, 25] → ∀ i, q_up q g j v k i = q k i := fun k hk i => q_k (fun e => hg (by rw [← e]; exact hk))
  have u9 : ∀ k, k ∈ [20, 22, 23, 24, 25] → ∀ b, pF (setF S f a x) k b = pF S k b := fun k hk b => uF_of (Or.inl (fun e => hf (by rw [← e]; exact hk)))
  rw [f9 73 (by decide)] at hn
  obtain ⟨h1, h2, h3, h4, h5, h6, h7⟩ := h n hn
  rw [f9 21 (by decide), f9 72 (by decide), f9 25 (by decide), u9 20 (by decide), u9 25 (by decide)]
  refine ⟨h1, h2, h3, h4, h5, h6, fun k hk => ?_⟩
  have hk9 : k = 22 ∨ k = 23 ∨ k = 24 := by simp only [List.mem_cons, List.not_mem_nil, or_false] at hk; exact hk
  rcases hk9 with rfl | rfl | rfl
  · rw [u9 22 (by decide), f9 22 (by decide)]; exact h7 _ hk
  · rw [u9 23 (by decide), f9 23 (by decide)]; exact h7 _ hk
  · rw [u9 24 (by decide), f9 24 (by decide)]; exact h7 _ hk
theorem Rqi.wf (h : Rqi av lv q) {g j : Nat} (hg : g ∉ [72, 73]) : Rqi av lv (q_up q g j v) := by
  unfold Rqi
  rw [q_k (k' := 72) (fun e => hg (by rw [← e]; decide)), q_k (k' := 73) (fun e => hg (by rw [← e]; decide))]
  exact h
theorem Rqn.wf (h : Rqn z S q) (hf : f ≠ 72) {g j : Nat} (hg : g ∉ [72, 73]) : Rqn z (setF S f a x) (q_up q g j v) := by
  unfold Rqn
  rw [q_k (k' := 72) (fun e => hg (by rw [← e]; decide)), q_k (k' := 73) (fun e => hg (by rw [← e]; decide)), uF_of (Or.inl hf.symm), uF_of (Or.inl hf.symm)]
  exact h
theorem Rqb.wf (h : Rqb z S q) (hf : f ∉ [0, 1, 2]) {g j : Nat} (hg : g ∉ [0, 1, 2]) : Rqb z (setF S f a x) (q_up q g j v) := by
  intro j hj k hk
  rw [uF_of (Or.inl (fun e => hf (by rw [← e]; exact hk))), q_k (fun e => hg (by rw [← e]; exact hk))]
  exact h j hj k hk
theorem Rqr.wf (h : Rqr z av S q) (hf : f ∉ [31, 32]) {g j : Nat} (hg : g ∉ [30, 31, 32]) : Rqr z av (setF S f a x) (q_up q g j v) := by
  intro r hr
  obtain ⟨h1, h2⟩ := h r hr
  rw [q_k (k' := 30) (fun e => hg (by rw [← e]; decide))]
  exact ⟨h1, fun k hk => by rw [uF_of (Or.inl (fun e => hf (by rw [← e]; exact hk))), q_k (fun e => hg (by rw [← e]; exact List.mem_cons_of_mem _ hk))]; exact h2 k hk⟩
theorem Rqs.wf (h : Rqs z S q) (hf : f ∉ [56, 57, 58]) {g j : Nat} (hg : g ∉ [56, 57, 58, 59]) : Rqs z (setF S f a x) (q_up q g j v) := by
  refine ⟨fun k hk => ?_, by rw [q_k (fun e => hg (by rw [← e]; decide))]; exact h.2⟩
  have hk9 : k ∈ [56, 57, 58, 59] := by simp only [List.mem_cons, List.not_mem_nil, or_false] at hk ⊢; omega
  rw [uF_of (Or.inl (fun e => hf (by rw [← e]; exact hk))), q_k (fun e => hg (by rw [← e]; exact hk9))]
  exact h.1 k hk
theorem Rqg.wf (h : Rqg z S q) (hf : f ≠ 42) {g j : Nat} (hg : g ∉ [42, 43, 44]) : Rqg z (setF S f a x) (q_up q g j v) := by
  unfold Rqg
  rw [uF_of (Or.inl hf.symm), q_k (k' := 42) (fun e => hg (by rw [← e]; decide))]
  exact ⟨h.1, fun k hk => by rw [q_k (k' := 43) (fun e => hg (by rw [← e]; decide)), q_k (k' := 44) (fun e => hg (by rw [← e]; decide))]; exact h.2 k hk⟩
theorem Rqc.wf (h : Rqc z S q) {g j : Nat} (hg : g ≠ 60) : Rqc z (setF S f a x) (q_up q g j v) := by
  intro j hj
  rw [q_k (fun e => hg e.symm)]
  exact h j hj
/-- stock, reserve, promised of an article -/
theorem Rq.art (h : Rq z av lv S q) (hi : i < q 72 0) (hf : f ∈ [12, 13, 14]) : Rq z av lv (setF S f (av i) (nI v)) (q_up q f i v) := by
  obtain ⟨ha, hl, hj, hn, hb, hr, hs, hg, hc⟩ := h
  have hf9 : f = 12 ∨ f = 13 ∨ f = 14 := by simp only [List.mem_cons, List.not_mem_nil, or_false] at hf; exact hf
  have m : ∀ L : List Nat, 12 ∉ L → 13 ∉ L → 14 ∉ L → f ∉ L := fun L a b c => by rcases hf9 with rfl | rfl | rfl <;> assumption
  refine ⟨fun b hb => ?_, hl.wf (m _ (by decide) (by decide) (by decide)) (m _ (by decide) (by decide) (by decide)), hj.wf (m _ (by decide) (by decide) (by decide)), hn.wf (by omega) (m _ (by decide) (by decide) (by decide)), hb.wf (m _ (by decide) (by decide) (by decide)) (m _ (by decide) (by decide) (by decide)), hr.wf (m _ (by decide) (by decide) (by decide)) (m _ (by decide) (by decide) (by decide)), hs.wf (m _ (by decide) (by decide) (by decide)) (m _ (by decide) (by decide) (by decide)), hg.wf (by omega) (m _ (by decide) (by decide) (by decide)), hc.wf (by omega)⟩
  rw [q_k (by omega)] at hb
  obtain ⟨h1, h2, h3, h4, h5⟩ := ha b hb
  refine ⟨h1, h2, by rw [q_k (by omega)]; exact h3, by rw [q_k (by omega)]; exact h4, fun k hk => ?_⟩
  by_cases c : k = f
  · subst c
    by_cases d : b = i
    · subst d; rw [uF_at, q_at]
    · rw [uF_of (Or.inr (fun e => d (hj.1 b i hb hi e))), q_i d]; exact h5 _ hk
  · rw [uF_of (Or.inl c), q_k c]; exact h5 k hk
/-- amount, state of an order -/
theorem Rq.lin (h : Rq z av lv S q) (hi : i < q 73 0) (hf : f ∈ [23, 24]) : Rq z av lv (setF S f (lv i) (nI v)) (q_up q f i v) := by
  obtain ⟨ha, hl, hj, hn, hb, hr, hs, hg, hc⟩ := h
  have hf9 : f = 23 ∨ f = 24 := by simp only [List.mem_cons, List.not_mem_nil, or_false] at hf; exact hf
  have m : ∀ L : List Nat, 23 ∉ L → 24 ∉ L → f ∉ L := fun L a b => by rcases hf9 with rfl | rfl <;> assumption
  refine ⟨ha.wf (m _ (by decide) (by decide)) (m _ (by decide) (by decide)) (m _ (by decide) (by decide)), fun b hb => ?_, hj.wf (m _ (by decide) (by decide)), hn.wf (by omega) (m _ (by decide) (by decide)), hb.wf (m _ (by decide) (by decide)) (m _ (by decide) (by decide)), hr.wf (m _ (by decide) (by decide)) (m _ (by decide) (by decide)), hs.wf (m _ (by decide) (by decide)) (m _ (by decide) (by decide)), hg.wf (by omega) (m _ (by decide) (by decide)), hc.wf (by omega)⟩
  rw [q_k (by omega)] at hb
  obtain ⟨h1, h2, h3, h4, h5, h6, h7⟩ := hl b hb
  rw [q_k (k' := 21) (by omega), q_k (k' := 72) (by omega), q_k (k' := 25) (by omega), uF_of (Or.inl (by omega)), uF_of (Or.inl (by omega))]
  refine ⟨h1, h2, h3, h4, h5, h6, fun k hk => ?_⟩
  by_cases c : k = f
  · subst c
    by_cases d : b = i
    · subst d; rw [uF_at, q_at]
    · rw [uF_of (Or.inr (fun e => d (hj.2 b i hb hi e))), q_i d]; exact h7 _ hk
  · rw [uF_of (Or.inl c), q_k c]; exact h7 k hk
/-- the last wave of an order -/
theorem Rq.wav (h : Rq z av lv S q) (hi : i < q 73 0) (hx : x = nI v - 1) : Rq z av lv (setF S 25 (lv i) x) (q_up q 25 i v) := by
  obtain ⟨ha, hl, hj, hn, hb, hr, hs, hg, hc⟩ := h
  refine ⟨ha.wf (by decide) (by decide) (by decide), fun b hb => ?_, hj.wf (by decide), hn.wf (by decide) (by decide), hb.wf (by decide) (by decide), hr.wf (by decide) (by decide), hs.wf (by decide) (by decide), hg.wf (by decide) (by decide), hc.wf (by decide)⟩
  rw [q_k (by decide)] at hb
  obtain ⟨h1, h2, h3, h4, h5, h6, h7⟩ := hl b hb
  rw [q_k (k' := 21) (by decide), q_k (k' := 72) (by decide), uF_of (k := 25) (j := 20) (Or.inl (by decide))]
  refine ⟨h1, h2, h3, h4, h5, ?_, fun k hk => ?_⟩
  · by_cases d : b = i
    · subst d; rw [uF_at, q_at]; exact hx
    · rw [uF_of (Or.inr (fun e => d (hj.2 b i hb hi e))), q_i d]; exact h6
  · have hk9 : k ≠ 25 := by simp only [List.mem_cons, List.not_mem_nil, or_false] at hk; omega
    rw [uF_of (Or.inl hk9), q_k hk9]; exact h7 k hk
/-- blocked, pickers of an aisle -/
theorem Rq.ais (h : Rq z av lv S q) (hz : ∀ i j, i < 15 → j < 15 → z i = z j → i = j) (hi : i < 4) (hf : f ∈ [1, 2]) : Rq z av lv (setF S f (z (2 + i)) (nI v)) (q_up q f i v) := by
  obtain ⟨ha, hl, hj, hn, hb, hr, hs, hg, hc⟩ := h
  have hf9 : f = 1 ∨ f = 2 := by simp only [List.mem_cons, List.not_mem_nil, or_false] at hf; exact hf
  have m : ∀ L : List Nat, 1 ∉ L → 2 ∉ L → f ∉ L := fun L a b => by rcases hf9 with rfl | rfl <;> assumption
  refine ⟨ha.wf (m _ (by decide) (by decide)) (m _ (by decide) (by decide)) (m _ (by decide) (by decide)), hl.wf (m _ (by decide) (by decide)) (m _ (by decide) (by decide)), hj.wf (m _ (by decide) (by decide)), hn.wf (by omega) (m _ (by decide) (by decide)), fun b hb9 k hk => ?_, hr.wf (m _ (by decide) (by decide)) (m _ (by decide) (by decide)), hs.wf (m _ (by decide) (by decide)) (m _ (by decide) (by decide)), hg.wf (by omega) (m _ (by decide) (by decide)), hc.wf (by omega)⟩
  by_cases c : k = f
  · subst c
    by_cases d : b = i
    · subst d; rw [uF_at, q_at]
    · rw [uF_of (Or.inr (fun e => d (by have := hz _ _ (by omega) (by omega) e; omega))), q_i d]; exact hb b hb9 _ hk
  · rw [uF_of (Or.inl c), q_k c]; exact hb b hb9 k hk
/-- load, minutes of a robot -/
theorem Rq.rob (h : Rq z av lv S q) (hz : ∀ i j, i < 15 → j < 15 → z i = z j → i = j) (hi : i < 2) (hf : f ∈ [31, 32]) : Rq z av lv (setF S f (z (8 + i)) (nI v)) (q_up q f i v) := by
  obtain ⟨ha, hl, hj, hn, hb, hr, hs, hg, hc⟩ := h
  have hf9 : f = 31 ∨ f = 32 := by simp only [List.mem_cons, List.not_mem_nil, or_false] at hf; exact hf
  have m : ∀ L : List Nat, 31 ∉ L → 32 ∉ L → f ∉ L := fun L a b => by rcases hf9 with rfl | rfl <;> assumption
  refine ⟨ha.wf (m _ (by decide) (by decide)) (m _ (by decide) (by decide)) (m _ (by decide) (by decide)), hl.wf (m _ (by decide) (by decide)) (m _ (by decide) (by decide)), hj.wf (m _ (by decide) (by decide)), hn.wf (by omega) (m _ (by decide) (by decide)), hb.wf (m _ (by decide) (by decide)) (m _ (by decide) (by decide)), fun b hb9 => ?_, hs.wf (m _ (by decide) (by decide)) (m _ (by decide) (by decide)), hg.wf (by omega) (m _ (by decide) (by decide)), hc.wf (by omega)⟩
  obtain ⟨h1, h2⟩ := hr b hb9
  refine ⟨by rw [q_k (by omega)]; exact h1, fun k hk => ?_⟩
  by_cases c : k = f
  · subst c
    by_cases d : b = i
    · subst d; rw [uF_at, q_at]
    · rw [uF_of (Or.inr (fun e => d (by have := hz _ _ (by omega) (by omega) e; omega))), q_i d]; exact h2 _ hk
  · rw [uF_of (Or.inl c), q_k c]; exact h2 k hk
/-- the robot's article -/
theorem Rq.way (h : Rq z av lv S q) (hz : ∀ i j, i < 15 → j < 15 → z i = z j → i = j) (hi : i < 2) {o : Option Nat} (ho : o = if v = 0 then none else some (av (v - 1))) : Rq z av lv (setG S 30 (z (8 + i)) o) (q_up q 30 i v) := by
  obtain ⟨ha, hl, hj, hn, hb, hr, hs, hg, hc⟩ := h
  refine ⟨fun b hb => ?_, fun b hb => ?_, hj.wf (by decide), ?_, fun b hb9 k hk => ?_, fun b hb9 => ?_, ⟨fun k hk => ?_, ?_⟩, ?_, fun b hb9 => ?_⟩
  · rw [q_k (by decide)] at hb
    obtain ⟨h1, ⟨d, h2, h2b⟩, h3, h4, h5⟩ := ha b hb
    refine ⟨h1, ⟨d, (uG_of (Or.inl (by decide))).trans h2, h2b⟩, by rw [q_k (by decide)]; exact (uG_of (Or.inl (by decide))).trans h3, by rw [q_k (by decide)]; exact h4, fun k hk => ?_⟩
    rw [q_k (by simp only [List.mem_cons, List.not_mem_nil, or_false] at hk; omega)]; exact h5 k hk
  · rw [q_k (by decide)] at hb
    obtain ⟨h1, ⟨d, h2, h2b⟩, h3, h4, h5, h6, h7⟩ := hl b hb
    rw [q_k (k' := 21) (by decide), q_k (k' := 72) (by decide), q_k (k' := 25) (by decide)]
    refine ⟨h1, ⟨d, (uG_of (Or.inl (by decide))).trans h2, h2b⟩, (uG_of (Or.inl (by decide))).trans h3, h4, h5, h6, fun k hk => ?_⟩
    rw [q_k (by simp only [List.mem_cons, List.not_mem_nil, or_false] at hk; omega)]; exact h7 k hk
  · unfold Rqn; rw [q_k (by decide), q_k (by decide)]; exact hn
  · rw [q_k (by simp only [List.mem_cons, List.not_mem_nil, or_false] at hk; omega)]; exact hb b hb9 k hk
  · obtain ⟨h1, h2⟩ := hr b hb9
    refine ⟨?_, fun k hk => by rw [q_k (by simp only [List.mem_cons, List.not_mem_nil, or_false] at hk; omega)]; exact h2 k hk⟩
    by_cases d : b = i
    · subst d; rw [uG_at, q_at]; exact ho
    · rw [uG_of (Or.inr (fun e => d (by have := hz _ _ (by omega) (by omega) e; omega))), q_i d]; exact h1
  · rw [q_k (by simp only [List.mem_cons, List.not_mem_nil, or_false] at hk; omega)]; exact hs.1 k hk
  · rw [q_k (by decide)]; exact hs.2
  · unfold Rqg; rw [q_k (k' := 42) (by decide)]; exact ⟨hg.1, fun k hk => by rw [q_k (k' := 43) (by decide), q_k (k' := 44) (by decide)]; exact hg.2 k hk⟩
  · rw [q_k (by decide)]; exact hc b hb9
/-- minute, waves, bad units -/
theorem Rq.num (h : Rq z av lv S q) (hf : f ∈ [56, 57, 58]) : Rq z av lv (setF S f (z 0) (nI v)) (q_up q f 0 v) := by
  obtain ⟨ha, hl, hj, hn, hb, hr, hs, hg, hc⟩ := h
  have hf9 : f = 56 ∨ f = 57 ∨ f = 58 := by simp only [List.mem_cons, List.not_mem_nil, or_false] at hf; exact hf
  have m : ∀ L : List Nat, 56 ∉ L → 57 ∉ L → 58 ∉ L → f ∉ L := fun L a b c => by rcases hf9 with rfl | rfl | rfl <;> assumption
  refine ⟨ha.wf (m _ (by decide) (by decide) (by decide)) (m _ (by decide) (by decide) (by decide)) (m _ (by decide) (by decide) (by decide)), hl.wf (m _ (by decide) (by decide) (by decide)) (m _ (by decide) (by decide) (by decide)), hj.wf (m _ (by decide) (by decide) (by decide)), hn.wf (by omega) (m _ (by decide) (by decide) (by decide)), hb.wf (m _ (by decide) (by decide) (by decide)) (m _ (by decide) (by decide) (by decide)), hr.wf (m _ (by decide) (by decide) (by decide)) (m _ (by decide) (by decide) (by decide)), ⟨fun k hk => ?_, by rw [q_k (by omega)]; exact hs.2⟩, hg.wf (by omega) (m _ (by decide) (by decide) (by decide)), hc.wf (by omega)⟩
  by_cases c : k = f
  · subst c; rw [uF_at, q_at]
  · rw [uF_of (Or.inl c), q_k c]; exact hs.1 k hk
/-- units shipped -/
theorem Rq.shp (h : Rq z av lv S q) {y : Int64} (hy : y = lN v) : Rq z av lv (setJ S (z 0) y) (q_up q 59 0 v) := by
  obtain ⟨ha, hl, hj, hn, hb, hr, hs, hg, hc⟩ := h
  refine ⟨fun b hb => ?_, fun b hb => ?_, hj.wf (by decide), ?_, fun b hb9 k hk => ?_, fun b hb9 => ?_, ⟨fun k hk => ?_, ?_⟩, ?_, fun b hb9 => ?_⟩
  · rw [q_k (by decide)] at hb
    obtain ⟨h1, h2, h3, h4, h5⟩ := ha b hb
    refine ⟨h1, h2, by rw [q_k (by decide)]; exact h3, by rw [q_k (by decide)]; exact h4, fun k hk => ?_⟩
    rw [q_k (by simp only [List.mem_cons, List.not_mem_nil, or_false] at hk; omega)]; exact h5 k hk
  · rw [q_k (by decide)] at hb
    obtain ⟨h1, h2, h3, h4, h5, h6, h7⟩ := hl b hb
    rw [q_k (k' := 21) (by decide), q_k (k' := 72) (by decide), q_k (k' := 25) (by decide)]
    refine ⟨h1, h2, h3, h4, h5, h6, fun k hk => ?_⟩
    rw [q_k (by simp only [List.mem_cons, List.not_mem_nil, or_false] at hk; omega)]; exact h7 k hk
  · unfold Rqn; rw [q_k (by decide), q_k (by decide)]; exact hn
  · rw [q_k (by simp only [List.mem_cons, List.not_mem_nil, or_false] at hk; omega)]; exact hb b hb9 k hk
  · obtain ⟨h1, h2⟩ := hr b hb9
    exact ⟨by rw [q_k (by decide)]; exact h1, fun k hk => by rw [q_k (by simp only [List.mem_cons, List.not_mem_nil, or_false] at hk; omega)]; exact h2 k hk⟩
  · rw [q_k (by simp only [List.mem_cons, List.not_mem_nil, or_false] at hk; omega)]; exact hs.1 k hk
  · rw [q_at]; exact (va_up_self _ _ _).trans hy
  · unfold Rqg; rw [q_k (k' := 42) (by decide)]; exact ⟨hg.1, fun k hk => by rw [q_k (k' := 43) (by decide), q_k (k' := 44) (by decide)]; exact hg.2 k hk⟩
  · rw [q_k (by decide)]; exact hc b hb9
/-- a scan is written: both rows, then the count -/
theorem Rq.log (h : Rq z av lv S q) (hz : ∀ i j, i < 15 → j < 15 → z i = z j → i = j) {n s c : Nat} {x1 x2 x3 : Int32} (hc : c = q 42 0) (h1 : x1 = nI n) (h2 : x2 = nI s) (h3 : x3 = nI (c + 1)) :
    Rq z av lv (setF (setX (setX S (z 13) (upd (pX S (z 13)) c x1)) (z 14) (upd (pX (setX S (z 13) (upd (pX S (z 13)) c x1)) (z 14)) c x2)) 42 (z 12) x3) (q_up (q_up (q_up q 43 (q 42 0) n) 44 (q 42 0) s) 42 0 (q 42 0 + 1)) := by
  obtain ⟨ha, hl, hj, hn, hb, hr, hs, hg, hc9⟩ := h
  subst hc
  have n3 : z 13 ≠ z 14 := fun e => absurd (hz _ _ (by decide) (by decide) e) (by decide)
  have e : ∀ k, k ∉ [42, 43, 44] → ∀ i, q_up (q_up (q_up q 43 (q 42 0) n) 44 (q 42 0) s) 42 0 (q 42 0 + 1) k i = q k i := by
    intro k hk i
    have f : ∀ j, j ∈ [42, 43, 44] → k ≠ j := fun j hj e => hk (by rw [e]; exact hj)
    rw [q_k (f 42 (by decide)), q_k (f 44 (by decide)), q_k (f 43 (by decide))]
  have u : ∀ k, k ≠ 42 → ∀ b, pF (setF (setX (setX S (z 13) (upd (pX S (z 13)) (q 42 0) x1)) (z 14) (upd (pX (setX S (z 13) (upd (pX S (z 13)) (q 42 0) x1)) (z 14)) (q 42 0) x2)) 42 (z 12) x3) k b = pF S k b := fun k hk b => uF_of (Or.inl hk)
  refine ⟨fun b hb => ?_, fun b hb => ?_, ?_, ?_, fun b hb9 k hk => ?_, fun b hb9 => ?_, ⟨fun k hk => ?_, ?_⟩, ⟨?_, fun k hk => ?_⟩, fun b hb9 => ?_⟩
  · rw [e 72 (by decide)] at hb
    obtain ⟨h1, h2, h3, h4, h5⟩ := ha b hb
    refine ⟨h1, h2, by rw [e 10 (by decide)]; exact h3, by rw [e 10 (by decide)]; exact h4, fun k hk => ?_⟩
    have hk9 : k ∉ [42, 43, 44] ∧ k ≠ 42 := by simp only [List.mem_cons, List.not_mem_nil, or_false] at hk ⊢; omega
    rw [u k hk9.2, e k hk9.1]; exact h5 k hk
  · rw [e 73 (by decide)] at hb
    obtain ⟨h1, h2, h3, h4, h5, h6, h7⟩ := hl b hb
    rw [e 21 (by decide), e 72 (by decide), e 25 (by decide), u 20 (by decide), u 25 (by decide)]
    refine ⟨h1, h2, h3, h4, h5, h6, fun k hk => ?_⟩
    have hk9 : k ∉ [42, 43, 44] ∧ k ≠ 42 := by simp only [List.mem_cons, List.not_mem_nil, or_false] at hk ⊢; omega
    rw [u k hk9.2, e k hk9.1]; exact h7 k hk
  · unfold Rqi; rw [e 72 (by decide), e 73 (by decide)]; exact hj
  · unfold Rqn; rw [e 72 (by decide), e 73 (by decide), u 72 (by decide), u 72 (by decide)]; exact hn
  · have hk9 : k ∉ [42, 43, 44] ∧ k ≠ 42 := by simp only [List.mem_cons, List.not_mem_nil, or_false] at hk ⊢; omega
    rw [u k hk9.2, e k hk9.1]; exact hb b hb9 k hk
  · obtain ⟨h1, h2⟩ := hr b hb9
    refine ⟨by rw [e 30 (by decide)]; exact h1, fun k hk => ?_⟩
    have hk9 : k ∉ [42, 43, 44] ∧ k ≠ 42 := by simp only [List.mem_cons, List.not_mem_nil, or_false] at hk ⊢; omega
    rw [u k hk9.2, e k hk9.1]; exact h2 k hk
  · have hk9 : k ∉ [42, 43, 44] ∧ k ≠ 42 := by simp only [List.mem_cons, List.not_mem_nil, or_false] at hk ⊢; omega
    rw [u k hk9.2, e k hk9.1]; exact hs.1 k hk
  · rw [e 59 (by decide)]; exact hs.2
  · rw [q_at]; exact uF_at.trans h3
  · rw [q_at] at hk
    have y13 : pX (setX (setX S (z 13) (upd (pX S (z 13)) (q 42 0) x1)) (z 14) (upd (pX (setX S (z 13) (upd (pX S (z 13)) (q 42 0) x1)) (z 14)) (q 42 0) x2)) (z 13) = upd (pX S (z 13)) (q 42 0) x1 := (va_up_ne _ _ n3).trans (va_up_self _ _ _)
    have y14 : pX (setX (setX S (z 13) (upd (pX S (z 13)) (q 42 0) x1)) (z 14) (upd (pX (setX S (z 13) (upd (pX S (z 13)) (q 42 0) x1)) (z 14)) (q 42 0) x2)) (z 14) = upd (pX S (z 14)) (q 42 0) x2 := (va_up_self _ _ _).trans (congrArg (fun t => upd t (q 42 0) x2) (va_up_ne _ _ n3.symm))
    show pX (setX (setX S (z 13) (upd (pX S (z 13)) (q 42 0) x1)) (z 14) (upd (pX (setX S (z 13) (upd (pX S (z 13)) (q 42 0) x1)) (z 14)) (q 42 0) x2)) (z 13) k = _ ∧ pX (setX (setX S (z 13) (upd (pX S (z 13)) (q 42 0) x1)) (z 14) (upd (pX (setX S (z 13) (upd (pX S (z 13)) (q 42 0) x1)) (z 14)) (q 42 0) x2)) (z 14) k = _
    rw [y13, y14, q_k (k' := 43) (by decide), q_k (k' := 43) (by decide), q_k (k' := 44) (by decide)]
    by_cases d : k = q 42 0
    · subst d
      rw [q_at, q_at]
      unfold upd
      rw [if_pos rfl, if_pos rfl]; exact ⟨h1, h2⟩
    · rw [q_i d, q_i d, q_k (by decide)]
      unfold upd
      rw [if_neg d, if_neg d]; exact hg.2 k (by omega)
  · rw [e 60 (by decide)]
    have n6 : z 6 ≠ z 13 ∧ z 6 ≠ z 14 := ⟨fun e => absurd (hz _ _ (by decide) (by decide) e) (by decide), fun e => absurd (hz _ _ (by decide) (by decide) e) (by decide)⟩
    have y6 : pX (setX (setX S (z 13) (upd (pX S (z 13)) (q 42 0) x1)) (z 14) (upd (pX (setX S (z 13) (upd (pX S (z 13)) (q 42 0) x1)) (z 14)) (q 42 0) x2)) (z 6) = pX S (z 6) := (va_up_ne _ _ n6.2).trans (va_up_ne _ _ n6.1)
    show pX (setX (setX S (z 13) (upd (pX S (z 13)) (q 42 0) x1)) (z 14) (upd (pX (setX S (z 13) (upd (pX S (z 13)) (q 42 0) x1)) (z 14)) (q 42 0) x2)) (z 6) b = _
    rw [y6]; exact hc9 b hb9
end RQ
