theorem q_nx9 {o s : Nat} (h : q_nx o s) : (s = 110 ∧ o = 0) ∨ (s = 112 ∧ o = 110) ∨ (s = 112 ∧ o = 117) ∨ (s = 117 ∧ o = 112) ∨ (s = 107 ∧ o = 112) ∨ (s = 115 ∧ o = 107) ∨ (s = 100 ∧ o = 110) ∨ (s = 100 ∧ o = 117) ∨ (s = 100 ∧ o = 112) := by
  unfold q_nx at h
  rcases h with ⟨rfl, rfl⟩ | ⟨rfl, rfl | rfl⟩ | ⟨rfl | rfl, rfl⟩ | ⟨rfl, rfl⟩ | ⟨rfl, rfl | rfl | rfl⟩ <;> simp
theorem q_lst6 {q : qS} {i : Nat} (hW : q_W q) (hi : i < q 73 0) : (q 24 i = 111 ∧ q_last q i (q 42 0) = 110) ∨ (q 24 i = 111 ∧ q_last q i (q 42 0) = 117) ∨ (q 24 i = 112 ∧ q_last q i (q 42 0) = 112) ∨ (q 24 i = 107 ∧ q_last q i (q 42 0) = 107) ∨ (q 24 i = 115 ∧ q_last q i (q 42 0) = 115) ∨ (q 24 i = 100 ∧ q_last q i (q 42 0) = 100) := by
  have h4 := (hW.1.2.2.1 i hi).1
  obtain ⟨l1, l2⟩ := q_last_of hW.1.2.2.2.1 hi
  rcases h4 with h | h | h | h | h
  · rcases l1 h with h9 | h9
    · exact Or.inl ⟨h, h9⟩
    · exact Or.inr (Or.inl ⟨h, h9⟩)
  · exact Or.inr (Or.inr (Or.inl ⟨h, (l2 (by omega)).trans h⟩))
  · exact Or.inr (Or.inr (Or.inr (Or.inl ⟨h, (l2 (by omega)).trans h⟩)))
  · exact Or.inr (Or.inr (Or.inr (Or.inr (Or.inl ⟨h, (l2 (by omega)).trans h⟩))))
  · exact Or.inr (Or.inr (Or.inr (Or.inr (Or.inr ⟨h, (l2 (by omega)).trans h⟩))))
