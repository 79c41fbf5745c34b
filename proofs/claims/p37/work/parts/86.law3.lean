abbrev kAs (s : State) : Nat → Prop := fun q => s.heap.size ≤ q
def kE0 : wPS := ([], fun _ => 0, fun _ _ => 0, fun _ _ => none, fun _ => 0, fun _ => 0, fun _ _ => 0, fun _ _ => none)
/-- what holds at the law's rows -/
def kLw (p : Program) (s : State) (m : MethodId) (c : Code) (b L : Nat) (xs : Nat → Int32) (g : kG) (e0 : Nat) (z av lv : Nat → Nat) (S O : wPS) (q : qS) (ra rr rb ri : Nat) (H : Heap) (locs : List Loc) : Prop :=
  (CallFix p m c cL_law 23 s #[.ref b] wsL_law RL ∧ va_K (kD g) vwCl (kT g) s ∧ kEn g e0 (kAs s) s s.heap ∧ kNc s ∧ va_X b L xs s s.heap ∧ b < s.heap.size) ∧ (va_P (kD g) vwCl (kW g S) H ∧ va_P (kD g) vwCl (kW g O) H) ∧ (va_D (kAs s) (kW g S) ∧ va_D (kAs s) (kW g O)) ∧ kdis S O ∧ va_S (kAs s) s.heap H locs ∧ (Inv z e0 S ∧ Rq z av lv S q ∧ q_W q ∧ q_L q) ∧ q_O O ra rr rb ri q
theorem k_lnlt {A B : Nat} (h : B ≤ A) (hA : A < 2 ^ 31) : ¬ lN A < lN B := fun c => by
  have := (lN_lt (a := A) (b := B) hA (by omega)).mp c
  omega
theorem k_min {a b : Nat} : (min a b ≤ a ∧ min a b ≤ b) ∧ (min a b = a ∨ min a b = b) := ⟨⟨Nat.min_le_left _ _, Nat.min_le_right _ _⟩, by rcases Nat.le_total a b with h | h; exact Or.inl (Nat.min_eq_left h); exact Or.inr (Nat.min_eq_right h)⟩
/-- the numbers at the start -/
def q_0 : qS := fun k i => if k = 60 then 1439 else if k = 0 then i else 0
theorem q_0_o {k i : Nat} (h : k ≠ 60 ∧ k ≠ 0) : q_0 k i = 0 := by unfold q_0; rw [if_neg h.1, if_neg h.2]
theorem q_0_W : q_W q_0 := by
  have e : ∀ k i, k ≠ 60 ∧ k ≠ 0 → q_0 k i = 0 := fun k i h => q_0_o h
  have e73 : q_0 73 0 = 0 := e 73 0 (by decide)
  have e72 : q_0 72 0 = 0 := e 72 0 (by decide)
  have e42 : q_0 42 0 = 0 := e 42 0 (by decide)
  refine ⟨⟨⟨by rw [e72]; decide, by rw [e73]; decide, fun n hn => absurd hn (by rw [e73]; exact Nat.not_lt_zero _), fun i hi => absurd hi (by rw [e72]; exact Nat.not_lt_zero _)⟩, fun a ha => absurd ha (by rw [e72]; exact Nat.not_lt_zero _), fun n hn => absurd hn (by rw [e73]; exact Nat.not_lt_zero _), ⟨fun k hk => absurd hk (by rw [e42]; exact Nat.not_lt_zero _), fun n hn => absurd hn (by rw [e73]; exact Nat.not_lt_zero _)⟩, ⟨by rw [e 57 0 (by decide)]; decide, fun n hn => absurd hn (by rw [e73]; exact Nat.not_lt_zero _)⟩, fun r hr => Or.inl ⟨e 30 r (by decide), e 31 r (by decide), e 32 r (by decide)⟩, ?_⟩, fun a ha => absurd ha (by rw [e72]; exact Nat.not_lt_zero _), fun n hn => absurd hn (by rw [e73]; exact Nat.not_lt_zero _)⟩
  show q_0 59 0 = q_shp q_0 (q_0 73 0)
  rw [e73, e 59 0 (by decide)]
  rfl
theorem q_0_R {z av lv : Nat → Nat} {S : wPS} (hF : Fr z S) (h0 : ∀ i, i < 4 → pF S 0 (z (2 + i)) = nI i) : Rq z av lv S q_0 := by
  obtain ⟨f1, f2, f3, f4, f5, f6, f7, f8, f9, f10⟩ := hF
  have e : ∀ k i, k ≠ 60 ∧ k ≠ 0 → q_0 k i = 0 := fun k i h => q_0_o h
  have e73 : q_0 73 0 = 0 := e 73 0 (by decide)
  have e72 : q_0 72 0 = 0 := e 72 0 (by decide)
  have e42 : q_0 42 0 = 0 := e 42 0 (by decide)
  refine ⟨fun i hi => absurd hi (by rw [e72]; exact Nat.not_lt_zero _), fun i hi => absurd hi (by rw [e73]; exact Nat.not_lt_zero _), ⟨fun i j hi => absurd hi (by rw [e72]; exact Nat.not_lt_zero _), fun i j hi => absurd hi (by rw [e73]; exact Nat.not_lt_zero _)⟩, ⟨by rw [e72]; exact f1, by rw [e73]; exact f2⟩, fun j hj k hk => ?_, fun r hr => ⟨by rw [e 30 r (by decide), if_pos rfl]; exact (f10 r hr).1, fun k hk => ?_⟩, ⟨fun k hk => ?_, by rw [e 59 0 (by decide)]; exact f7⟩, ⟨by rw [e42]; exact f3, fun k hk => absurd hk (by rw [e42]; exact Nat.not_lt_zero _)⟩, fun j hj => f9 j hj⟩
  · rcases q_m3 hk with rfl | rfl | rfl
    · exact h0 j hj
    · rw [e 1 j (by decide)]; exact (f8 j hj).1
    · rw [e 2 j (by decide)]; exact (f8 j hj).2
  · rcases q_m2 hk with rfl | rfl
    · rw [e 31 r (by decide)]; exact (f10 r hr).2.1
    · rw [e 32 r (by decide)]; exact (f10 r hr).2.2
  · rcases q_m3 hk with rfl | rfl | rfl
    · rw [e 56 0 (by decide)]; exact f4
    · rw [e 57 0 (by decide)]; exact f5
    · rw [e 58 0 (by decide)]; exact f6
/-- as q_L and q_O, while articles still come -/
def q_M (q : qS) : Prop := (∀ j, j < 4 → q 0 j = j) ∧ (∀ j, j < 4 → q 1 j ≤ 1) ∧ (∀ j, j < 4 → q 2 j ≤ 9) ∧ (∀ r, r < 2 → q 32 r ≤ 30) ∧ q 56 0 ≤ 1439 ∧ (∀ j, j < 3 → q 60 j = 1439)
theorem q_M_of {q q' : qS} (h : q_M q) (e : ∀ k, k ∉ [10, 11, 12, 13, 14, 72] → ∀ i, q' k i = q k i) : q_M q' := by
  obtain ⟨h2, h3, h4, h5, h6, h7⟩ := h
  exact ⟨fun j hj => (e 0 (by decide) j).trans (h2 j hj), fun j hj => by rw [e 1 (by decide)]; exact h3 j hj, fun j hj => by rw [e 2 (by decide)]; exact h4 j hj, fun j hj => by rw [e 32 (by decide)]; exact h5 j hj, by rw [e 56 (by decide)]; exact h6, fun j hj => (e 60 (by decide) j).trans (h7 j hj)⟩
def q_P (O : wPS) (ra rr rb ri : Nat) (q : qS) : Prop := (Ob O 9 ra ∧ pN O ra = 3) ∧ (Ob O 9 rr ∧ pN O rr = 3) ∧ (Ob O 10 rb ∧ pN O rb = 4) ∧ (Ob O 9 ri ∧ pN O ri = 12) ∧ (ra ≠ ri ∧ rr ≠ ri ∧ rb ≠ ri ∧ ra ≠ rb ∧ rr ≠ rb ∧ ra ≠ rr) ∧ (∀ a, a < q 72 0 → pX O ra a = nI (q 10 a) ∧ pX O rr a = nI (q 11 a)) ∧ ∀ j, j < 4 → pX O rb j = nI (q 1 j)
theorem q_0_M : q_M q_0 := ⟨fun j _ => by unfold q_0; rw [if_neg (by decide), if_pos rfl], fun j _ => by rw [q_0_o (by decide)]; decide, fun j _ => by rw [q_0_o (by decide)]; decide, fun j _ => by rw [q_0_o (by decide)]; decide, by rw [q_0_o (by decide)]; decide, fun j _ => rfl⟩
theorem q_0_U : q_U q_0 = 0 := by
  unfold q_U
  rw [q_0_o (by decide), q_0_o (by decide), q_0_o (by decide), q_0_o (by decide), q_0_o (by decide), q_0_o (by decide), q_0_o (by decide), q_0_o (by decide)]
