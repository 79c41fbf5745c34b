theorem kz_no {n x : Int32} (hx : x = 0) (h1 : ¬ n < 0) (h2 : n < x) : False := by rw [hx] at h2; exact h1 h2
theorem kz_m {m j : Nat} {x : Int32} (hx : x = 0) (h1 : m ≤ 12) (h2 : x = nI m) (h3 : j < m) : False := by
  have h9 : nI m = nI 0 := h2.symm.trans hx
  have := (nI_eq (by omega) (by decide)).mp h9
  omega
theorem kz_2a {n : Int32} {j : Nat} (hj : j < 2) (hn : n = nI j) (h : n < 0 ∨ ¬ n < 2) : False := by
  subst hn
  rcases (show j = 0 ∨ j = 1 by omega) with rfl | rfl <;> revert h <;> decide
theorem kz_2b {n : Int32} {j : Nat} (hj : j < 2) (hn : n = nI j) (h : n < 0 ∨ 1 < n) : False := by
  subst hn
  rcases (show j = 0 ∨ j = 1 by omega) with rfl | rfl <;> revert h <;> decide
theorem kz_3a {n : Int32} {j : Nat} (hj : j < 3) (hn : n = nI j) (h : n < 0 ∨ 3 ≤ n) : False := by
  subst hn
  rcases (show j = 0 ∨ j = 1 ∨ j = 2 by omega) with rfl | rfl | rfl <;> revert h <;> decide
theorem kz_3b {n : Int32} {j : Nat} (hj : j < 3) (hn : n = nI j) (h : n < 0 ∨ 2 < n) : False := by
  subst hn
  rcases (show j = 0 ∨ j = 1 ∨ j = 2 by omega) with rfl | rfl | rfl <;> revert h <;> decide
theorem kz_4a {n : Int32} {j : Nat} (hj : j < 4) (hn : n = nI j) (h : n < 0 ∨ 4 ≤ n) : False := by
  subst hn
  rcases (show j = 0 ∨ j = 1 ∨ j = 2 ∨ j = 3 by omega) with rfl | rfl | rfl | rfl <;> revert h <;> decide
theorem kz_4b {n : Int32} {j : Nat} (hj : j < 4) (hn : n = nI j) (h : n < 0 ∨ 3 < n) : False := by
  subst hn
  rcases (show j = 0 ∨ j = 1 ∨ j = 2 ∨ j = 3 by omega) with rfl | rfl | rfl | rfl <;> revert h <;> decide
theorem kz_23 {n : Int32} (h1 : ¬ n < 0) (h2 : ¬ 3 ≤ n) (h : n < 0 ∨ 2 < n) : False := by
  rcases h with h | h
  · exact h1 h
  · rw [Int32.le_iff_toInt_le] at h2
    rw [Int32.lt_iff_toInt_lt] at h
    rw [show (3 : Int32).toInt = 3 by decide] at h2
    rw [show (2 : Int32).toInt = 2 by decide] at h
    omega
theorem kz_o {O : wPS} {o od : Nat} {v : Int64} (h : Ob O 14 o ∧ pN O o = 1 ∧ Ob O 15 od ∧ pN O od = 1) : Ob (setJ O o v) 14 o ∧ pN (setJ O o v) o = 1 ∧ Ob (setJ O o v) 15 od ∧ pN (setJ O o v) od = 1 := h
theorem kz_v {O : wPS} {o : Nat} {v : Int32} {r2 : Int32} (h : v = r2) : pJ (setJ O o v.toInt64) o = r2.toInt64 := by rw [h]; exact va_up_self _ _ _
theorem kq_addArticle {z w : Nat → Nat} {e0 : Nat} {S M S1 O O1 M1 : wPS} {o od : Nat} {n1 n2 n3 n4 r r2 : Int32} (hF : Fr z S) (hG : MFr w M) (ho : Ob O 14 o ∧ pN O o = 1 ∧ Ob O 15 od ∧ pN O od = 1) (hp : (r = 0 ∧ ∃ v9 : Int32, (¬ aOut n1 n2 n3 n4 ∧ ∃ n, n + 1 ≤ 6 ∧ pF S 72 (z 10) = nI n ∧ v9 = nI n ∧ pF S1 72 (z 10) = nI (n + 1) ∧ Inv z e0 S1 ∧ Tr z S S1) ∧ O1 = setJ O o v9.toInt64) ∨ (r = 1 ∧ ((xA = xA ∧ aOut n1 n2 n3 n4) ∨ (xA = xS ∧ ¬ aOut n1 n2 n3 n4 ∧ ¬ pF S 72 (z 10) < 6)) ∧ S1 = S ∧ O1 = O) ∨ (r = 2 ∧ ((xS = xA ∧ aOut n1 n2 n3 n4) ∨ (xS = xS ∧ ¬ aOut n1 n2 n3 n4 ∧ ¬ pF S 72 (z 10) < 6)) ∧ S1 = S ∧ O1 = O)) (hm : pF M1 106 (w 0) = pF M 106 (w 0) ∧ ((aOut n1 n2 n3 n4 ∧ pF M1 100 (w 0) = 1 ∧ Mr w M M1) ∨ (¬ aOut n1 n2 n3 n4 ∧ pF M 101 (w 0) = 6 ∧ pF M1 100 (w 0) = 2 ∧ Mr w M M1) ∨ (¬ aOut n1 n2 n3 n4 ∧ pF M1 100 (w 0) = 0 ∧ ∃ n, n < 6 ∧ pF M 101 (w 0) = nI n ∧ r2 = nI n ∧ pF M1 101 (w 0) = nI (n + 1) ∧ Mq w M M1))) : Ob M1 6 (w 0) ∧ (Ob O1 14 o ∧ pN O1 o = 1 ∧ Ob O1 15 od ∧ pN O1 od = 1) ∧ pF M1 100 (w 0) = r ∧ (r = 0 → pJ O1 o = r2.toInt64) := by
  obtain ⟨f1, f2, f3, f4, f5, f6, f7, f8, f9, f10⟩ := hF
  obtain ⟨g1, g2, g3, g4⟩ := hG
  have m101 : pF M 101 (w 0) = 0 := g1 101 (by decide) (by decide)
  have m102 : pF M 102 (w 0) = 0 := g1 102 (by decide) (by decide)
  have m103 : pF M 103 (w 0) = 0 := g1 103 (by decide) (by decide)
  have m104 : pF M 104 (w 0) = 0 := g1 104 (by decide) (by decide)
  have m105 : pF M 105 (w 0) = 0 := g1 105 (by decide) (by decide)
  have m106 : pF M 106 (w 0) = 0 := g1 106 (by decide) (by decide)
  rcases hp with ⟨rfl, v9, ⟨h1, q, -, h2, h3, -⟩, rfl⟩ | ⟨rfl, hx, rfl, rfl⟩ | ⟨rfl, hx, rfl, rfl⟩
  · rcases hm with ⟨-, ⟨k1, k2, hr⟩ | ⟨k1, k2, k3, hr⟩ | ⟨k1, k2, q2, k3, k4, k5, k6, hr⟩⟩
    · exact absurd k1 h1
    · exact absurd (m101.symm.trans k2) (by decide)
    · exact ⟨hr.1.ob (i := 0) (by decide), kz_o ho, k2, fun _ => kz_v (by rw [h3, k5, ← h2, ← k4, f1, m101])⟩
  · rcases hx with ⟨-, hx⟩ | ⟨e9, -⟩
    · rcases hm with ⟨-, ⟨k1, k2, hr⟩ | ⟨k1, -⟩ | ⟨k1, -⟩⟩
      · exact ⟨hr.1.ob (i := 0) (by decide), ho, k2, fun h => absurd h (by decide)⟩
      · exact absurd hx k1
      · exact absurd hx k1
    · exact absurd e9 (by decide +kernel)
  · rcases hx with ⟨e9, -⟩ | ⟨-, -, hx⟩
    · exact absurd e9 (by decide +kernel)
    · exact absurd (by rw [f1]; decide) hx
theorem kq_stock {z w : Nat → Nat} {S M S1 O O1 M1 : wPS} {o od : Nat} {n1 r r2 : Int32} (hF : Fr z S) (hG : MFr w M) (ho : Ob O 14 o ∧ pN O o = 1 ∧ Ob O 15 od ∧ pN O od = 1) (hp : (r = 0 ∧ ∃ v9 : Int32, (S1 = S ∧ ¬ n1 < 0 ∧ n1 < pF S 72 (z 10)) ∧ O1 = setJ O o v9.toInt64) ∨ (r = 1 ∧ (xI = xI ∧ (n1 < 0 ∨ ¬ n1 < pF S 72 (z 10))) ∧ S1 = S ∧ O1 = O)) (hm : Mr w M M1 ∧ pF M1 106 (w 0) = pF M 106 (w 0) ∧ (pF M1 100 (w 0) = 1 ∨ (∃ m, m ≤ 6 ∧ pF M 101 (w 0) = nI m ∧ ∃ j, j < m ∧ n1 = nI j))) : Ob M1 6 (w 0) ∧ (Ob O1 14 o ∧ pN O1 o = 1 ∧ Ob O1 15 od ∧ pN O1 od = 1) ∧ pF M1 100 (w 0) = r ∧ (r = 0 → pJ O1 o = r2.toInt64) := by
  obtain ⟨f1, f2, f3, f4, f5, f6, f7, f8, f9, f10⟩ := hF
  obtain ⟨g1, g2, g3, g4⟩ := hG
  have m101 : pF M 101 (w 0) = 0 := g1 101 (by decide) (by decide)
  have m102 : pF M 102 (w 0) = 0 := g1 102 (by decide) (by decide)
  have m103 : pF M 103 (w 0) = 0 := g1 103 (by decide) (by decide)
  have m104 : pF M 104 (w 0) = 0 := g1 104 (by decide) (by decide)
  have m105 : pF M 105 (w 0) = 0 := g1 105 (by decide) (by decide)
  have m106 : pF M 106 (w 0) = 0 := g1 106 (by decide) (by decide)
  obtain ⟨hr, -, hd⟩ := hm
  have h100 : pF M1 100 (w 0) = 1 := by
    rcases hd with h | ⟨m9, hm9, he9, j, hj, -⟩
    · exact h
    · exact (kz_m m101 (by omega) he9 hj).elim
  rcases hp with ⟨rfl, v9, ⟨-, h1, h2⟩, rfl⟩ | ⟨rfl, hx, rfl, rfl⟩
  · exact (kz_no f1 h1 h2).elim
  · exact ⟨hr.1.ob (i := 0) (by decide), ho, h100, fun h => absurd h (by decide)⟩
theorem kq_reserve {z w : Nat → Nat} {S M S1 O O1 M1 : wPS} {o od : Nat} {n1 r r2 : Int32} (hF : Fr z S) (hG : MFr w M) (ho : Ob O 14 o ∧ pN O o = 1 ∧ Ob O 15 od ∧ pN O od = 1) (hp : (r = 0 ∧ ∃ v9 : Int32, (S1 = S ∧ ¬ n1 < 0 ∧ n1 < pF S 72 (z 10)) ∧ O1 = setJ O o v9.toInt64) ∨ (r = 1 ∧ (xI = xI ∧ (n1 < 0 ∨ ¬ n1 < pF S 72 (z 10))) ∧ S1 = S ∧ O1 = O)) (hm : Mr w M M1 ∧ pF M1 106 (w 0) = pF M 106 (w 0) ∧ (pF M1 100 (w 0) = 1 ∨ (∃ m, m ≤ 6 ∧ pF M 101 (w 0) = nI m ∧ ∃ j, j < m ∧ n1 = nI j))) : Ob M1 6 (w 0) ∧ (Ob O1 14 o ∧ pN O1 o = 1 ∧ Ob O1 15 od ∧ pN O1 od = 1) ∧ pF M1 100 (w 0) = r ∧ (r = 0 → pJ O1 o = r2.toInt64) := by
  obtain ⟨f1, f2, f3, f4, f5, f6, f7, f8, f9, f10⟩ := hF
  obtain ⟨g1, g2, g3, g4⟩ := hG
  have m101 : pF M 101 (w 0) = 0 := g1 101 (by decide) (by decide)
  have m102 : pF M 102 (w 0) = 0 := g1 102 (by decide) (by decide)
  have m103 : pF M 103 (w 0) = 0 := g1 103 (by decide) (by decide)
  have m104 : pF M 104 (w 0) = 0 := g1 104 (by decide) (by decide)
  have m105 : pF M 105 (w 0) = 0 := g1 105 (by decide) (by decide)
  have m106 : pF M 106 (w 0) = 0 := g1 106 (by decide) (by decide)
  obtain ⟨hr, -, hd⟩ := hm
  have h100 : pF M1 100 (w 0) = 1 := by
    rcases hd with h | ⟨m9, hm9, he9, j, hj, -⟩
    · exact h
    · exact (kz_m m101 (by omega) he9 hj).elim
  rcases hp with ⟨rfl, v9, ⟨-, h1, h2⟩, rfl⟩ | ⟨rfl, hx, rfl, rfl⟩
  · exact (kz_no f1 h1 h2).elim
  · exact ⟨hr.1.ob (i := 0) (by decide), ho, h100, fun h => absurd h (by decide)⟩
theorem kq_free {z w : Nat → Nat} {S M S1 O O1 M1 : wPS} {o od : Nat} {n1 r r2 : Int32} (hF : Fr z S) (hG : MFr w M) (ho : Ob O 14 o ∧ pN O o = 1 ∧ Ob O 15 od ∧ pN O od = 1) (hp : (r = 0 ∧ ∃ v9 : Int32, (S1 = S ∧ ¬ n1 < 0 ∧ n1 < pF S 72 (z 10)) ∧ O1 = setJ O o v9.toInt64) ∨ (r = 1 ∧ (xI = xI ∧ (n1 < 0 ∨ ¬ n1 < pF S 72 (z 10))) ∧ S1 = S ∧ O1 = O)) (hm : Mr w M M1 ∧ pF M1 106 (w 0) = pF M 106 (w 0) ∧ (pF M1 100 (w 0) = 1 ∨ (∃ m, m ≤ 6 ∧ pF M 101 (w 0) = nI m ∧ ∃ j, j < m ∧ n1 = nI j))) : Ob M1 6 (w 0) ∧ (Ob O1 14 o ∧ pN O1 o = 1 ∧ Ob O1 15 od ∧ pN O1 od = 1) ∧ pF M1 100 (w 0) = r ∧ (r = 0 → pJ O1 o = r2.toInt64) := by
  obtain ⟨f1, f2, f3, f4, f5, f6, f7, f8, f9, f10⟩ := hF
  obtain ⟨g1, g2, g3, g4⟩ := hG
  have m101 : pF M 101 (w 0) = 0 := g1 101 (by decide) (by decide)
  have m102 : pF M 102 (w 0) = 0 := g1 102 (by decide) (by decide)
  have m103 : pF M 103 (w 0) = 0 := g1 103 (by decide) (by decide)
  have m104 : pF M 104 (w 0) = 0 := g1 104 (by decide) (by decide)
  have m105 : pF M 105 (w 0) = 0 := g1 105 (by decide) (by decide)
  have m106 : pF M 106 (w 0) = 0 := g1 106 (by decide) (by decide)
  obtain ⟨hr, -, hd⟩ := hm
  have h100 : pF M1 100 (w 0) = 1 := by
    rcases hd with h | ⟨m9, hm9, he9, j, hj, -⟩
    · exact h
    · exact (kz_m m101 (by omega) he9 hj).elim
  rcases hp with ⟨rfl, v9, ⟨-, h1, h2⟩, rfl⟩ | ⟨rfl, hx, rfl, rfl⟩
  · exact (kz_no f1 h1 h2).elim
  · exact ⟨hr.1.ob (i := 0) (by decide), ho, h100, fun h => absurd h (by decide)⟩
theorem kq_promised {z w : Nat → Nat} {S M S1 O O1 M1 : wPS} {o od : Nat} {n1 r r2 : Int32} (hF : Fr z S) (hG : MFr w M) (ho : Ob O 14 o ∧ pN O o = 1 ∧ Ob O 15 od ∧ pN O od = 1) (hp : (r = 0 ∧ ∃ v9 : Int32, (S1 = S ∧ ¬ n1 < 0 ∧ n1 < pF S 72 (z 10)) ∧ O1 = setJ O o v9.toInt64) ∨ (r = 1 ∧ (xI = xI ∧ (n1 < 0 ∨ ¬ n1 < pF S 72 (z 10))) ∧ S1 = S ∧ O1 = O)) (hm : Mr w M M1 ∧ pF M1 106 (w 0) = pF M 106 (w 0) ∧ (pF M1 100 (w 0) = 1 ∨ (∃ m, m ≤ 6 ∧ pF M 101 (w 0) = nI m ∧ ∃ j, j < m ∧ n1 = nI j))) : Ob M1 6 (w 0) ∧ (Ob O1 14 o ∧ pN O1 o = 1 ∧ Ob O1 15 od ∧ pN O1 od = 1) ∧ pF M1 100 (w 0) = r ∧ (r = 0 → pJ O1 o = r2.toInt64) := by
  obtain ⟨f1, f2, f3, f4, f5, f6, f7, f8, f9, f10⟩ := hF
  obtain ⟨g1, g2, g3, g4⟩ := hG
  have m101 : pF M 101 (w 0) = 0 := g1 101 (by decide) (by decide)
  have m102 : pF M 102 (w 0) = 0 := g1 102 (by decide) (by decide)
  have m103 : pF M 103 (w 0) = 0 := g1 103 (by decide) (by decide)
  have m104 : pF M 104 (w 0) = 0 := g1 104 (by decide) (by decide)
  have m105 : pF M 105 (w 0) = 0 := g1 105 (by decide) (by decide)
  have m106 : pF M 106 (w 0) = 0 := g1 106 (by decide) (by decide)
  obtain ⟨hr, -, hd⟩ := hm
  have h100 : pF M1 100 (w 0) = 1 := by
    rcases hd with h | ⟨m9, hm9, he9, j, hj, -⟩
    · exact h
    · exact (kz_m m101 (by omega) he9 hj).elim
  rcases hp with ⟨rfl, v9, ⟨-, h1, h2⟩, rfl⟩ | ⟨rfl, hx, rfl, rfl⟩
  · exact (kz_no f1 h1 h2).elim
  · exact ⟨hr.1.ob (i := 0) (by decide), ho, h100, fun h => absurd h (by decide)⟩
theorem kq_promisedByScans {z w : Nat → Nat} {S M S1 O O1 M1 : wPS} {o od : Nat} {n1 r r2 : Int32} (hF : Fr z S) (hG : MFr w M) (ho : Ob O 14 o ∧ pN O o = 1 ∧ Ob O 15 od ∧ pN O od = 1) (hp : (r = 0 ∧ ∃ v9 : Int32, (S1 = S ∧ ¬ n1 < 0 ∧ n1 < pF S 72 (z 10)) ∧ O1 = setJ O o v9.toInt64) ∨ (r = 1 ∧ (xI = xI ∧ (n1 < 0 ∨ ¬ n1 < pF S 72 (z 10))) ∧ S1 = S ∧ O1 = O)) (hm : Mr w M M1 ∧ pF M1 106 (w 0) = pF M 106 (w 0) ∧ (pF M1 100 (w 0) = 1 ∨ (∃ m, m ≤ 6 ∧ pF M 101 (w 0) = nI m ∧ ∃ j, j < m ∧ n1 = nI j))) : Ob M1 6 (w 0) ∧ (Ob O1 14 o ∧ pN O1 o = 1 ∧ Ob O1 15 od ∧ pN O1 od = 1) ∧ pF M1 100 (w 0) = r ∧ (r = 0 → pJ O1 o = r2.toInt64) := by
  obtain ⟨f1, f2, f3, f4, f5, f6, f7, f8, f9, f10⟩ := hF
  obtain ⟨g1, g2, g3, g4⟩ := hG
  have m101 : pF M 101 (w 0) = 0 := g1 101 (by decide) (by decide)
  have m102 : pF M 102 (w 0) = 0 := g1 102 (by decide) (by decide)
  have m103 : pF M 103 (w 0) = 0 := g1 103 (by decide) (by decide)
  have m104 : pF M 104 (w 0) = 0 := g1 104 (by decide) (by decide)
  have m105 : pF M 105 (w 0) = 0 := g1 105 (by decide) (by decide)
  have m106 : pF M 106 (w 0) = 0 := g1 106 (by decide) (by decide)
  obtain ⟨hr, -, hd⟩ := hm
  have h100 : pF M1 100 (w 0) = 1 := by
    rcases hd with h | ⟨m9, hm9, he9, j, hj, -⟩
    · exact h
    · exact (kz_m m101 (by omega) he9 hj).elim
  rcases hp with ⟨rfl, v9, ⟨-, h1, h2⟩, rfl⟩ | ⟨rfl, hx, rfl, rfl⟩
  · exact (kz_no f1 h1 h2).elim
  · exact ⟨hr.1.ob (i := 0) (by decide), ho, h100, fun h => absurd h (by decide)⟩
theorem kq_setBlocked {z w : Nat → Nat} {e0 : Nat} {S M S1 O O1 M1 : wPS} {o od : Nat} {n1 n2 r r2 : Int32} (hF : Fr z S) (hG : MFr w M) (ho : Ob O 14 o ∧ pN O o = 1 ∧ Ob O 15 od ∧ pN O od = 1) (hp : (r = 0 ∧ ∃ v9 : Int32, (∃ j, j < 4 ∧ n1 = nI j ∧ v9 = pF S 1 (z (2 + j)) ∧ Inv z e0 S1 ∧ Tk z (setF S 1 (z (2 + j)) n2) S1) ∧ ((¬ v9 = 0 ∧ O1 = setJ O o 1) ∨ (v9 = 0 ∧ O1 = setJ O o 0))) ∨ (r = 1 ∧ (xI = xI ∧ (n1 < 0 ∨ 4 ≤ n1)) ∧ S1 = S ∧ O1 = O)) (hm : kBo r2 ∧ (∃ c9, c9 ≤ 0 + 13 ∧ pF M1 106 (w 0) = nI c9) ∧ ((pF M1 100 (w 0) = 1 ∧ (n1 < 0 ∨ 3 < n1) ∧ Mr w M M1) ∨ (pF M1 100 (w 0) = 0 ∧ ∃ j, j < 4 ∧ n1 = nI j ∧ r2 = pX M (w 10) j ∧ Mr w (setX M (w 10) (upd (pX M (w 10)) j n2)) M1))) : Ob M1 6 (w 0) ∧ (Ob O1 14 o ∧ pN O1 o = 1 ∧ Ob O1 15 od ∧ pN O1 od = 1) ∧ pF M1 100 (w 0) = r ∧ (r = 0 → pJ O1 o = 0 ∧ r2 = 0) := by
  obtain ⟨f1, f2, f3, f4, f5, f6, f7, f8, f9, f10⟩ := hF
  obtain ⟨g1, g2, g3, g4⟩ := hG
  have m101 : pF M 101 (w 0) = 0 := g1 101 (by decide) (by decide)
  have m102 : pF M 102 (w 0) = 0 := g1 102 (by decide) (by decide)
  have m103 : pF M 103 (w 0) = 0 := g1 103 (by decide) (by decide)
  have m104 : pF M 104 (w 0) = 0 := g1 104 (by decide) (by decide)
  have m105 : pF M 105 (w 0) = 0 := g1 105 (by decide) (by decide)
  have m106 : pF M 106 (w 0) = 0 := g1 106 (by decide) (by decide)
  rcases hp with ⟨rfl, v9, ⟨j, hj, hn, hv, -⟩, hO⟩ | ⟨rfl, ⟨-, hx⟩, rfl, rfl⟩
  · rw [(f8 j hj).1] at hv
    obtain rfl : O1 = setJ O o 0 := by
      rcases hO with ⟨h, -⟩ | ⟨-, h⟩
      · exact absurd hv h
      · exact h
    rcases hm with ⟨-, -, ⟨h1, h2, hr⟩ | ⟨h1, j2, hj2, hn2, hv2, hr⟩⟩
    · exact (kz_4b hj hn h2).elim
    · exact ⟨hr.1.ob (i := 0) (by decide), kz_o ho, h1, fun _ => ⟨va_up_self _ _ _, by rw [hv2, (g2 j2 hj2).1]⟩⟩
  · rcases hm with ⟨-, -, ⟨h1, h2, hr⟩ | ⟨h1, j2, hj2, hn2, hv2, hr⟩⟩
    · exact ⟨hr.1.ob (i := 0) (by decide), ho, h1, fun h => absurd h (by decide)⟩
    · exact (kz_4a hj2 hn2 hx).elim
theorem kq_setPickers {z w : Nat → Nat} {S M S1 O O1 M1 : wPS} {o od : Nat} {n1 n2 r r2 : Int32} (hF : Fr z S) (hG : MFr w M) (ho : Ob O 14 o ∧ pN O o = 1 ∧ Ob O 15 od ∧ pN O od = 1) (hp : (r = 0 ∧ ∃ v9 : Int32, (∃ j, j < 4 ∧ n1 = nI j ∧ (¬ n2 < 0 ∧ ¬ 9 < n2) ∧ v9 = pF S 2 (z (2 + j)) ∧ S1 = setF S 2 (z (2 + j)) n2) ∧ O1 = setJ O o v9.toInt64) ∨ (r = 1 ∧ ((xI = xI ∧ (n1 < 0 ∨ 4 ≤ n1)) ∨ (xI = xA ∧ (∃ j, j < 4 ∧ n1 = nI j) ∧ (n2 < 0 ∨ 9 < n2))) ∧ S1 = S ∧ O1 = O) ∨ (r = 2 ∧ ((xA = xI ∧ (n1 < 0 ∨ 4 ≤ n1)) ∨ (xA = xA ∧ (∃ j, j < 4 ∧ n1 = nI j) ∧ (n2 < 0 ∨ 9 < n2))) ∧ S1 = S ∧ O1 = O)) (hm : pF M1 106 (w 0) = pF M 106 (w 0) ∧ ((pF M1 100 (w 0) = 1 ∧ (n1 < 0 ∨ 3 < n1) ∧ Mr w M M1) ∨ ∃ j, j < 4 ∧ n1 = nI j ∧ ((pF M1 100 (w 0) = 2 ∧ (n2 < 0 ∨ 9 < n2) ∧ Mr w M M1) ∨ (pF M1 100 (w 0) = 0 ∧ (¬ n2 < 0 ∧ ¬ 9 < n2) ∧ r2 = pX M (w 11) j ∧ Mr w (setX M (w 11) (upd (pX M (w 11)) j n2)) M1)))) : Ob M1 6 (w 0) ∧ (Ob O1 14 o ∧ pN O1 o = 1 ∧ Ob O1 15 od ∧ pN O1 od = 1) ∧ pF M1 100 (w 0) = r ∧ (r = 0 → pJ O1 o = r2.toInt64) := by
  obtain ⟨f1, f2, f3, f4, f5, f6, f7, f8, f9, f10⟩ := hF
  obtain ⟨g1, g2, g3, g4⟩ := hG
  have m101 : pF M 101 (w 0) = 0 := g1 101 (by decide) (by decide)
  have m102 : pF M 102 (w 0) = 0 := g1 102 (by decide) (by decide)
  have m103 : pF M 103 (w 0) = 0 := g1 103 (by decide) (by decide)
  have m104 : pF M 104 (w 0) = 0 := g1 104 (by decide) (by decide)
  have m105 : pF M 105 (w 0) = 0 := g1 105 (by decide) (by decide)
  have m106 : pF M 106 (w 0) = 0 := g1 106 (by decide) (by decide)
  rcases hp with ⟨rfl, v9, ⟨j, hj, hn, hb, hv, -⟩, rfl⟩ | ⟨rfl, hx, rfl, rfl⟩ | ⟨rfl, hx, rfl, rfl⟩
  · rcases hm with ⟨-, ⟨h1, h2, hr⟩ | ⟨j2, hj2, hn2, ⟨h1, h2, hr⟩ | ⟨h1, h2, hv2, hr⟩⟩⟩
    · exact (kz_4b hj hn h2).elim
    · exact (h2.elim hb.1 hb.2).elim
    · exact ⟨hr.1.ob (i := 0) (by decide), kz_o ho, h1, fun _ => kz_v (by rw [hv, hv2, (f8 j hj).2, (g2 j2 hj2).2])⟩
  · rcases hx with ⟨-, hx⟩ | ⟨e9, -⟩
    · rcases hm with ⟨-, ⟨h1, h2, hr⟩ | ⟨j2, hj2, hn2, -⟩⟩
      · exact ⟨hr.1.ob (i := 0) (by decide), ho, h1, fun h => absurd h (by decide)⟩
      · exact (kz_4a hj2 hn2 hx).elim
    · exact absurd e9 (by decide +kernel)
  · rcases hx with ⟨e9, -⟩ | ⟨-, ⟨j, hj, hn⟩, hb⟩
    · exact absurd e9 (by decide +kernel)
    · rcases hm with ⟨-, ⟨h1, h2, hr⟩ | ⟨j2, hj2, hn2, ⟨h1, h2, hr⟩ | ⟨h1, h2, hv2, hr⟩⟩⟩
      · exact (kz_4b hj hn h2).elim
      · exact ⟨hr.1.ob (i := 0) (by decide), ho, h1, fun h => absurd h (by decide)⟩
      · exact (hb.elim h2.1 h2.2).elim
theorem kq_giveBack {z w : Nat → Nat} {S M S1 O O1 M1 : wPS} {o od : Nat} {n1 n2 n3 r r2 : Int32} (hF : Fr z S) (hG : MFr w M) (ho : Ob O 14 o ∧ pN O o = 1 ∧ Ob O 15 od ∧ pN O od = 1) (hp : (r = 0 ∧ ∃ v9 : Int32, (Kp z S S1 ∧ (¬ n1 < 0 ∧ n1 < pF S 72 (z 10))) ∧ O1 = setJ O o v9.toInt64) ∨ (r = 1 ∧ ((xI = xI ∧ (n1 < 0 ∨ ¬ n1 < pF S 72 (z 10))) ∨ ((xI = xA ∨ xI = xS) ∧ (¬ n1 < 0 ∧ n1 < pF S 72 (z 10)))) ∧ S1 = S ∧ O1 = O) ∨ (r = 2 ∧ ((xA = xI ∧ (n1 < 0 ∨ ¬ n1 < pF S 72 (z 10))) ∨ ((xA = xA ∨ xA = xS) ∧ (¬ n1 < 0 ∧ n1 < pF S 72 (z 10)))) ∧ S1 = S ∧ O1 = O) ∨ (r = 3 ∧ ((xS = xI ∧ (n1 < 0 ∨ ¬ n1 < pF S 72 (z 10))) ∨ ((xS = xA ∨ xS = xS) ∧ (¬ n1 < 0 ∧ n1 < pF S 72 (z 10)))) ∧ S1 = S ∧ O1 = O)) (hm : Mr w M M1 ∧ pF M1 106 (w 0) = pF M 106 (w 0) ∧ (pF M1 100 (w 0) = 1 ∨ (∃ m, m ≤ 6 ∧ pF M 101 (w 0) = nI m ∧ ∃ j, j < m ∧ n1 = nI j))) : Ob M1 6 (w 0) ∧ (Ob O1 14 o ∧ pN O1 o = 1 ∧ Ob O1 15 od ∧ pN O1 od = 1) ∧ pF M1 100 (w 0) = r ∧ (r = 0 → pJ O1 o = r2.toInt64) := by
  obtain ⟨f1, f2, f3, f4, f5, f6, f7, f8, f9, f10⟩ := hF
  obtain ⟨g1, g2, g3, g4⟩ := hG
  have m101 : pF M 101 (w 0) = 0 := g1 101 (by decide) (by decide)
  have m102 : pF M 102 (w 0) = 0 := g1 102 (by decide) (by decide)
  have m103 : pF M 103 (w 0) = 0 := g1 103 (by decide) (by decide)
  have m104 : pF M 104 (w 0) = 0 := g1 104 (by decide) (by decide)
  have m105 : pF M 105 (w 0) = 0 := g1 105 (by decide) (by decide)
  have m106 : pF M 106 (w 0) = 0 := g1 106 (by decide) (by decide)
  obtain ⟨hr, -, hd⟩ := hm
  have h100 : pF M1 100 (w 0) = 1 := by
    rcases hd with h | ⟨m9, hm9, he9, j, hj, -⟩
    · exact h
    · exact (kz_m m101 (by omega) he9 hj).elim
  rcases hp with ⟨rfl, v9, ⟨-, h1, h2⟩, rfl⟩ | ⟨rfl, hx, rfl, rfl⟩ | ⟨rfl, hx, rfl, rfl⟩ | ⟨rfl, hx, rfl, rfl⟩
  · exact (kz_no f1 h1 h2).elim
  · exact ⟨hr.1.ob (i := 0) (by decide), ho, h100, fun h => absurd h (by decide)⟩
  · rcases hx with ⟨e9, -⟩ | ⟨-, h1, h2⟩
    · exact absurd e9 (by decide +kernel)
    · exact (kz_no f1 h1 h2).elim
  · rcases hx with ⟨e9, -⟩ | ⟨-, h1, h2⟩
    · exact absurd e9 (by decide +kernel)
    · exact (kz_no f1 h1 h2).elim
theorem kq_order {z w : Nat → Nat} {e0 : Nat} {S M S1 O O1 M1 : wPS} {o od : Nat} {n1 n2 n3 r r2 : Int32} (hF : Fr z S) (hG : MFr w M) (ho : Ob O 14 o ∧ pN O o = 1 ∧ Ob O 15 od ∧ pN O od = 1) (hp : (r = 0 ∧ ∃ v9 : Int32, ((¬ n1 < 0 ∧ n1 < pF S 72 (z 10)) ∧ Inv z e0 S1 ∧ Tk z S S1) ∧ O1 = setJ O o v9.toInt64) ∨ (r = 1 ∧ ((xI = xI ∧ (n1 < 0 ∨ ¬ n1 < pF S 72 (z 10))) ∨ ((xI = xA ∨ xI = xS) ∧ (¬ n1 < 0 ∧ n1 < pF S 72 (z 10)))) ∧ S1 = S ∧ O1 = O) ∨ (r = 2 ∧ ((xA = xI ∧ (n1 < 0 ∨ ¬ n1 < pF S 72 (z 10))) ∨ ((xA = xA ∨ xA = xS) ∧ (¬ n1 < 0 ∧ n1 < pF S 72 (z 10)))) ∧ S1 = S ∧ O1 = O) ∨ (r = 3 ∧ ((xS = xI ∧ (n1 < 0 ∨ ¬ n1 < pF S 72 (z 10))) ∨ ((xS = xA ∨ xS = xS) ∧ (¬ n1 < 0 ∧ n1 < pF S 72 (z 10)))) ∧ S1 = S ∧ O1 = O)) (hm : Mr w M M1 ∧ (∃ c9, c9 ≤ 0 + 13 ∧ pF M1 106 (w 0) = nI c9) ∧ (pF M1 100 (w 0) = 1 ∨ (∃ m, m ≤ 6 ∧ pF M 101 (w 0) = nI m ∧ ∃ j, j < m ∧ n1 = nI j))) : Ob M1 6 (w 0) ∧ (Ob O1 14 o ∧ pN O1 o = 1 ∧ Ob O1 15 od ∧ pN O1 od = 1) ∧ pF M1 100 (w 0) = r ∧ (r = 0 → pJ O1 o = r2.toInt64) := by
  obtain ⟨f1, f2, f3, f4, f5, f6, f7, f8, f9, f10⟩ := hF
  obtain ⟨g1, g2, g3, g4⟩ := hG
  have m101 : pF M 101 (w 0) = 0 := g1 101 (by decide) (by decide)
  have m102 : pF M 102 (w 0) = 0 := g1 102 (by decide) (by decide)
  have m103 : pF M 103 (w 0) = 0 := g1 103 (by decide) (by decide)
  have m104 : pF M 104 (w 0) = 0 := g1 104 (by decide) (by decide)
  have m105 : pF M 105 (w 0) = 0 := g1 105 (by decide) (by decide)
  have m106 : pF M 106 (w 0) = 0 := g1 106 (by decide) (by decide)
  obtain ⟨hr, -, hd⟩ := hm
  have h100 : pF M1 100 (w 0) = 1 := by
    rcases hd with h | ⟨m9, hm9, he9, j, hj, -⟩
    · exact h
    · exact (kz_m m101 (by omega) he9 hj).elim
  rcases hp with ⟨rfl, v9, ⟨⟨h1, h2⟩, -⟩, rfl⟩ | ⟨rfl, hx, rfl, rfl⟩ | ⟨rfl, hx, rfl, rfl⟩ | ⟨rfl, hx, rfl, rfl⟩
  · exact (kz_no f1 h1 h2).elim
  · exact ⟨hr.1.ob (i := 0) (by decide), ho, h100, fun h => absurd h (by decide)⟩
  · rcases hx with ⟨e9, -⟩ | ⟨-, h1, h2⟩
    · exact absurd e9 (by decide +kernel)
    · exact (kz_no f1 h1 h2).elim
  · rcases hx with ⟨e9, -⟩ | ⟨-, h1, h2⟩
    · exact absurd e9 (by decide +kernel)
    · exact (kz_no f1 h1 h2).elim
theorem kq_drop {z w : Nat → Nat} {S M S1 O O1 M1 : wPS} {o od : Nat} {n1 r r2 : Int32} (hF : Fr z S) (hG : MFr w M) (ho : Ob O 14 o ∧ pN O o = 1 ∧ Ob O 15 od ∧ pN O od = 1) (hp : (r = 0 ∧ ∃ v9 : Int32, (Kp z S S1 ∧ (¬ n1 < 0 ∧ n1 < pF S 72 (z 11))) ∧ O1 = setJ O o v9.toInt64) ∨ (r = 1 ∧ ((xI = xI ∧ (n1 < 0 ∨ ¬ n1 < pF S 72 (z 11))) ∨ ((xI = xS) ∧ (¬ n1 < 0 ∧ n1 < pF S 72 (z 11)))) ∧ S1 = S ∧ O1 = O) ∨ (r = 2 ∧ ((xS = xI ∧ (n1 < 0 ∨ ¬ n1 < pF S 72 (z 11))) ∨ ((xS = xS) ∧ (¬ n1 < 0 ∧ n1 < pF S 72 (z 11)))) ∧ S1 = S ∧ O1 = O)) (hm : Mr w M M1 ∧ (∃ c9, c9 ≤ 0 + 13 ∧ pF M1 106 (w 0) = nI c9) ∧ (pF M1 100 (w 0) = 1 ∨ (∃ m, m ≤ 12 ∧ pF M 102 (w 0) = nI m ∧ ∃ j, j < m ∧ n1 = nI j))) : Ob M1 6 (w 0) ∧ (Ob O1 14 o ∧ pN O1 o = 1 ∧ Ob O1 15 od ∧ pN O1 od = 1) ∧ pF M1 100 (w 0) = r ∧ (r = 0 → pJ O1 o = r2.toInt64) := by
  obtain ⟨f1, f2, f3, f4, f5, f6, f7, f8, f9, f10⟩ := hF
  obtain ⟨g1, g2, g3, g4⟩ := hG
  have m101 : pF M 101 (w 0) = 0 := g1 101 (by decide) (by decide)
  have m102 : pF M 102 (w 0) = 0 := g1 102 (by decide) (by decide)
  have m103 : pF M 103 (w 0) = 0 := g1 103 (by decide) (by decide)
  have m104 : pF M 104 (w 0) = 0 := g1 104 (by decide) (by decide)
  have m105 : pF M 105 (w 0) = 0 := g1 105 (by decide) (by decide)
  have m106 : pF M 106 (w 0) = 0 := g1 106 (by decide) (by decide)
  obtain ⟨hr, -, hd⟩ := hm
  have h100 : pF M1 100 (w 0) = 1 := by
    rcases hd with h | ⟨m9, hm9, he9, j, hj, -⟩
    · exact h
    · exact (kz_m m102 (by omega) he9 hj).elim
  rcases hp with ⟨rfl, v9, ⟨-, h1, h2⟩, rfl⟩ | ⟨rfl, hx, rfl, rfl⟩ | ⟨rfl, hx, rfl, rfl⟩
  · exact (kz_no f2 h1 h2).elim
  · exact ⟨hr.1.ob (i := 0) (by decide), ho, h100, fun h => absurd h (by decide)⟩
  · rcases hx with ⟨e9, -⟩ | ⟨-, h1, h2⟩
    · exact absurd e9 (by decide +kernel)
    · exact (kz_no f2 h1 h2).elim
theorem kq_state {z w : Nat → Nat} {S M S1 O O1 M1 : wPS} {o od : Nat} {n1 r r2 : Int32} (hF : Fr z S) (hG : MFr w M) (ho : Ob O 14 o ∧ pN O o = 1 ∧ Ob O 15 od ∧ pN O od = 1) (hp : (r = 0 ∧ ∃ v9 : Int32, (S1 = S ∧ kCh v9 ∧ ¬ n1 < 0 ∧ n1 < pF S 72 (z 11)) ∧ O1 = setJ O o v9.toInt64) ∨ (r = 1 ∧ (xI = xI ∧ (n1 < 0 ∨ ¬ n1 < pF S 72 (z 11))) ∧ S1 = S ∧ O1 = O)) (hm : Mr w M M1 ∧ pF M1 106 (w 0) = pF M 106 (w 0) ∧ kCh r2 ∧ (pF M1 100 (w 0) = 1 ∨ (∃ m, m ≤ 12 ∧ pF M 102 (w 0) = nI m ∧ ∃ j, j < m ∧ n1 = nI j))) : Ob M1 6 (w 0) ∧ (Ob O1 14 o ∧ pN O1 o = 1 ∧ Ob O1 15 od ∧ pN O1 od = 1) ∧ pF M1 100 (w 0) = r ∧ (r = 0 → pJ O1 o = r2.toInt64) := by
  obtain ⟨f1, f2, f3, f4, f5, f6, f7, f8, f9, f10⟩ := hF
  obtain ⟨g1, g2, g3, g4⟩ := hG
  have m101 : pF M 101 (w 0) = 0 := g1 101 (by decide) (by decide)
  have m102 : pF M 102 (w 0) = 0 := g1 102 (by decide) (by decide)
  have m103 : pF M 103 (w 0) = 0 := g1 103 (by decide) (by decide)
  have m104 : pF M 104 (w 0) = 0 := g1 104 (by decide) (by decide)
  have m105 : pF M 105 (w 0) = 0 := g1 105 (by decide) (by decide)
  have m106 : pF M 106 (w 0) = 0 := g1 106 (by decide) (by decide)
  obtain ⟨hr, -, -, hd⟩ := hm
  have h100 : pF M1 100 (w 0) = 1 := by
    rcases hd with h | ⟨m9, hm9, he9, j, hj, -⟩
    · exact h
    · exact (kz_m m102 (by omega) he9 hj).elim
  rcases hp with ⟨rfl, v9, ⟨-, -, h1, h2⟩, rfl⟩ | ⟨rfl, hx, rfl, rfl⟩
  · exact (kz_no f2 h1 h2).elim
  · exact ⟨hr.1.ob (i := 0) (by decide), ho, h100, fun h => absurd h (by decide)⟩
theorem kq_stateByScans {z w : Nat → Nat} {S M S1 O O1 M1 : wPS} {o od : Nat} {n1 r r2 : Int32} (hF : Fr z S) (hG : MFr w M) (ho : Ob O 14 o ∧ pN O o = 1 ∧ Ob O 15 od ∧ pN O od = 1) (hp : (r = 0 ∧ ∃ v9 : Int32, (S1 = S ∧ kCh v9 ∧ ¬ n1 < 0 ∧ n1 < pF S 72 (z 11)) ∧ O1 = setJ O o v9.toInt64) ∨ (r = 1 ∧ (xI = xI ∧ (n1 < 0 ∨ ¬ n1 < pF S 72 (z 11))) ∧ S1 = S ∧ O1 = O)) (hm : Mr w M M1 ∧ pF M1 106 (w 0) = pF M 106 (w 0) ∧ kCh r2 ∧ (pF M1 100 (w 0) = 1 ∨ (∃ m, m ≤ 12 ∧ pF M 102 (w 0) = nI m ∧ ∃ j, j < m ∧ n1 = nI j))) : Ob M1 6 (w 0) ∧ (Ob O1 14 o ∧ pN O1 o = 1 ∧ Ob O1 15 od ∧ pN O1 od = 1) ∧ pF M1 100 (w 0) = r ∧ (r = 0 → pJ O1 o = r2.toInt64) := by
  obtain ⟨f1, f2, f3, f4, f5, f6, f7, f8, f9, f10⟩ := hF
  obtain ⟨g1, g2, g3, g4⟩ := hG
  have m101 : pF M 101 (w 0) = 0 := g1 101 (by decide) (by decide)
  have m102 : pF M 102 (w 0) = 0 := g1 102 (by decide) (by decide)
  have m103 : pF M 103 (w 0) = 0 := g1 103 (by decide) (by decide)
  have m104 : pF M 104 (w 0) = 0 := g1 104 (by decide) (by decide)
  have m105 : pF M 105 (w 0) = 0 := g1 105 (by decide) (by decide)
  have m106 : pF M 106 (w 0) = 0 := g1 106 (by decide) (by decide)
  obtain ⟨hr, -, -, hd⟩ := hm
  have h100 : pF M1 100 (w 0) = 1 := by
    rcases hd with h | ⟨m9, hm9, he9, j, hj, -⟩
    · exact h
    · exact (kz_m m102 (by omega) he9 hj).elim
  rcases hp with ⟨rfl, v9, ⟨-, -, h1, h2⟩, rfl⟩ | ⟨rfl, hx, rfl, rfl⟩
  · exact (kz_no f2 h1 h2).elim
  · exact ⟨hr.1.ob (i := 0) (by decide), ho, h100, fun h => absurd h (by decide)⟩
theorem kq_amount {z w : Nat → Nat} {S M S1 O O1 M1 : wPS} {o od : Nat} {n1 r r2 : Int32} (hF : Fr z S) (hG : MFr w M) (ho : Ob O 14 o ∧ pN O o = 1 ∧ Ob O 15 od ∧ pN O od = 1) (hp : (r = 0 ∧ ∃ v9 : Int32, (S1 = S ∧ ¬ n1 < 0 ∧ n1 < pF S 72 (z 11)) ∧ O1 = setJ O o v9.toInt64) ∨ (r = 1 ∧ (xI = xI ∧ (n1 < 0 ∨ ¬ n1 < pF S 72 (z 11))) ∧ S1 = S ∧ O1 = O)) (hm : Mr w M M1 ∧ pF M1 106 (w 0) = pF M 106 (w 0) ∧ (pF M1 100 (w 0) = 1 ∨ (∃ m, m ≤ 12 ∧ pF M 102 (w 0) = nI m ∧ ∃ j, j < m ∧ n1 = nI j))) : Ob M1 6 (w 0) ∧ (Ob O1 14 o ∧ pN O1 o = 1 ∧ Ob O1 15 od ∧ pN O1 od = 1) ∧ pF M1 100 (w 0) = r ∧ (r = 0 → pJ O1 o = r2.toInt64) := by
  obtain ⟨f1, f2, f3, f4, f5, f6, f7, f8, f9, f10⟩ := hF
  obtain ⟨g1, g2, g3, g4⟩ := hG
  have m101 : pF M 101 (w 0) = 0 := g1 101 (by decide) (by decide)
  have m102 : pF M 102 (w 0) = 0 := g1 102 (by decide) (by decide)
  have m103 : pF M 103 (w 0) = 0 := g1 103 (by decide) (by decide)
  have m104 : pF M 104 (w 0) = 0 := g1 104 (by decide) (by decide)
  have m105 : pF M 105 (w 0) = 0 := g1 105 (by decide) (by decide)
  have m106 : pF M 106 (w 0) = 0 := g1 106 (by decide) (by decide)
  obtain ⟨hr, -, hd⟩ := hm
  have h100 : pF M1 100 (w 0) = 1 := by
    rcases hd with h | ⟨m9, hm9, he9, j, hj, -⟩
    · exact h
    · exact (kz_m m102 (by omega) he9 hj).elim
  rcases hp with ⟨rfl, v9, ⟨-, h1, h2⟩, rfl⟩ | ⟨rfl, hx, rfl, rfl⟩
  · exact (kz_no f2 h1 h2).elim
  · exact ⟨hr.1.ob (i := 0) (by decide), ho, h100, fun h => absurd h (by decide)⟩
theorem kq_pick {z w : Nat → Nat} {e0 : Nat} {S M S1 O O1 M1 : wPS} {o od : Nat} {n1 n2 r r2 : Int32} (hF : Fr z S) (hG : MFr w M) (ho : Ob O 14 o ∧ pN O o = 1 ∧ Ob O 15 od ∧ pN O od = 1) (hp : (r = 0 ∧ ∃ v9 : Int32, ((¬ n1 < 0 ∧ n1 < pF S 72 (z 11)) ∧ Inv z e0 S1 ∧ Tk z S S1) ∧ O1 = setJ O o v9.toInt64) ∨ (r = 1 ∧ ((xI = xI ∧ (n1 < 0 ∨ ¬ n1 < pF S 72 (z 11))) ∨ ((xI = xA ∨ xI = xU ∨ xI = xS) ∧ (¬ n1 < 0 ∧ n1 < pF S 72 (z 11)))) ∧ S1 = S ∧ O1 = O) ∨ (r = 2 ∧ ((xA = xI ∧ (n1 < 0 ∨ ¬ n1 < pF S 72 (z 11))) ∨ ((xA = xA ∨ xA = xU ∨ xA = xS) ∧ (¬ n1 < 0 ∧ n1 < pF S 72 (z 11)))) ∧ S1 = S ∧ O1 = O) ∨ (r = 3 ∧ ((xU = xI ∧ (n1 < 0 ∨ ¬ n1 < pF S 72 (z 11))) ∨ ((xU = xA ∨ xU = xU ∨ xU = xS) ∧ (¬ n1 < 0 ∧ n1 < pF S 72 (z 11)))) ∧ S1 = S ∧ O1 = O) ∨ (r = 4 ∧ ((xS = xI ∧ (n1 < 0 ∨ ¬ n1 < pF S 72 (z 11))) ∨ ((xS = xA ∨ xS = xU ∨ xS = xS) ∧ (¬ n1 < 0 ∧ n1 < pF S 72 (z 11)))) ∧ S1 = S ∧ O1 = O)) (hm : Mr w M M1 ∧ pF M1 106 (w 0) = pF M 106 (w 0) ∧ pF M1 100 (w 0) = 1) : Ob M1 6 (w 0) ∧ (Ob O1 14 o ∧ pN O1 o = 1 ∧ Ob O1 15 od ∧ pN O1 od = 1) ∧ pF M1 100 (w 0) = r ∧ (r = 0 → pJ O1 o = r2.toInt64) := by
  obtain ⟨f1, f2, f3, f4, f5, f6, f7, f8, f9, f10⟩ := hF
  obtain ⟨g1, g2, g3, g4⟩ := hG
  have m101 : pF M 101 (w 0) = 0 := g1 101 (by decide) (by decide)
  have m102 : pF M 102 (w 0) = 0 := g1 102 (by decide) (by decide)
  have m103 : pF M 103 (w 0) = 0 := g1 103 (by decide) (by decide)
  have m104 : pF M 104 (w 0) = 0 := g1 104 (by decide) (by decide)
  have m105 : pF M 105 (w 0) = 0 := g1 105 (by decide) (by decide)
  have m106 : pF M 106 (w 0) = 0 := g1 106 (by decide) (by decide)
  obtain ⟨hr, -, h100⟩ := hm
  rcases hp with ⟨rfl, v9, ⟨⟨h1, h2⟩, -⟩, rfl⟩ | ⟨rfl, hx, rfl, rfl⟩ | ⟨rfl, hx, rfl, rfl⟩ | ⟨rfl, hx, rfl, rfl⟩ | ⟨rfl, hx, rfl, rfl⟩
  · exact (kz_no f2 h1 h2).elim
  · exact ⟨hr.1.ob (i := 0) (by decide), ho, h100, fun h => absurd h (by decide)⟩
  · rcases hx with ⟨e9, -⟩ | ⟨-, h1, h2⟩
    · exact absurd e9 (by decide +kernel)
    · exact (kz_no f2 h1 h2).elim
  · rcases hx with ⟨e9, -⟩ | ⟨-, h1, h2⟩
    · exact absurd e9 (by decide +kernel)
    · exact (kz_no f2 h1 h2).elim
  · rcases hx with ⟨e9, -⟩ | ⟨-, h1, h2⟩
    · exact absurd e9 (by decide +kernel)
    · exact (kz_no f2 h1 h2).elim
theorem kq_ship {z w : Nat → Nat} {S M S1 O O1 M1 : wPS} {o od : Nat} {n1 r r2 : Int32} (hF : Fr z S) (hG : MFr w M) (ho : Ob O 14 o ∧ pN O o = 1 ∧ Ob O 15 od ∧ pN O od = 1) (hp : (r = 0 ∧ ∃ v9 : Int32, (Kp z S S1 ∧ ¬ n1 < 0 ∧ ¬ 3 ≤ n1 ∧ (pF S 72 (z 11) = 0 → v9 = 0)) ∧ O1 = setJ O o v9.toInt64) ∨ (r = 1 ∧ (xI = xI ∧ (n1 < 0 ∨ 3 ≤ n1)) ∧ S1 = S ∧ O1 = O)) (hm : Mr w M M1 ∧ (∃ c9, c9 ≤ 0 + 13 ∧ pF M1 106 (w 0) = nI c9) ∧ ((pF M1 100 (w 0) = 1 ∧ (n1 < 0 ∨ 2 < n1)) ∨ (pF M1 100 (w 0) = 0 ∧ (∃ j, j < 3 ∧ n1 = nI j) ∧ (pF M 102 (w 0) = 0 → r2 = 0)))) : Ob M1 6 (w 0) ∧ (Ob O1 14 o ∧ pN O1 o = 1 ∧ Ob O1 15 od ∧ pN O1 od = 1) ∧ pF M1 100 (w 0) = r ∧ (r = 0 → pJ O1 o = r2.toInt64) := by
  obtain ⟨f1, f2, f3, f4, f5, f6, f7, f8, f9, f10⟩ := hF
  obtain ⟨g1, g2, g3, g4⟩ := hG
  have m101 : pF M 101 (w 0) = 0 := g1 101 (by decide) (by decide)
  have m102 : pF M 102 (w 0) = 0 := g1 102 (by decide) (by decide)
  have m103 : pF M 103 (w 0) = 0 := g1 103 (by decide) (by decide)
  have m104 : pF M 104 (w 0) = 0 := g1 104 (by decide) (by decide)
  have m105 : pF M 105 (w 0) = 0 := g1 105 (by decide) (by decide)
  have m106 : pF M 106 (w 0) = 0 := g1 106 (by decide) (by decide)
  rcases hp with ⟨rfl, v9, ⟨-, h1, h2, h3⟩, rfl⟩ | ⟨rfl, ⟨-, hx⟩, rfl, rfl⟩
  · rcases hm with ⟨hr, -, ⟨k1, k2⟩ | ⟨k1, -, k3⟩⟩
    · exact (kz_23 h1 h2 k2).elim
    · exact ⟨hr.1.ob (i := 0) (by decide), kz_o ho, k1, fun _ => kz_v (by rw [h3 f2, k3 m102])⟩
  · rcases hm with ⟨hr, -, ⟨k1, k2⟩ | ⟨k1, ⟨j, hj, hn⟩, k3⟩⟩
    · exact ⟨hr.1.ob (i := 0) (by decide), ho, k1, fun h => absurd h (by decide)⟩
    · exact (kz_3a hj hn hx).elim
theorem kq_setCutOff {z w : Nat → Nat} {S M S1 O O1 M1 : wPS} {o od : Nat} {n1 n2 r r2 : Int32} (hF : Fr z S) (hG : MFr w M) (ho : Ob O 14 o ∧ pN O o = 1 ∧ Ob O 15 od ∧ pN O od = 1) (hp : (r = 0 ∧ ∃ v9 : Int32, (∃ j, j < 3 ∧ n1 = nI j ∧ (¬ n2 < 0 ∧ ¬ 1439 < n2) ∧ v9 = pX S (z 6) j ∧ S1 = setX S (z 6) (upd (pX S (z 6)) j n2)) ∧ O1 = setJ O o v9.toInt64) ∨ (r = 1 ∧ ((xI = xI ∧ (n1 < 0 ∨ 3 ≤ n1)) ∨ (xI = xA ∧ (∃ j, j < 3 ∧ n1 = nI j) ∧ (n2 < 0 ∨ 1439 < n2))) ∧ S1 = S ∧ O1 = O) ∨ (r = 2 ∧ ((xA = xI ∧ (n1 < 0 ∨ 3 ≤ n1)) ∨ (xA = xA ∧ (∃ j, j < 3 ∧ n1 = nI j) ∧ (n2 < 0 ∨ 1439 < n2))) ∧ S1 = S ∧ O1 = O)) (hm : pF M1 106 (w 0) = pF M 106 (w 0) ∧ ((pF M1 100 (w 0) = 1 ∧ (n1 < 0 ∨ 2 < n1) ∧ Mr w M M1) ∨ ∃ j, j < 3 ∧ n1 = nI j ∧ ((pF M1 100 (w 0) = 2 ∧ (n2 < 0 ∨ 1439 < n2) ∧ Mr w M M1) ∨ (pF M1 100 (w 0) = 0 ∧ (¬ n2 < 0 ∧ ¬ 1439 < n2) ∧ r2 = pX M (w 12) j ∧ Mr w (setX M (w 12) (upd (pX M (w 12)) j n2)) M1)))) : Ob M1 6 (w 0) ∧ (Ob O1 14 o ∧ pN O1 o = 1 ∧ Ob O1 15 od ∧ pN O1 od = 1) ∧ pF M1 100 (w 0) = r ∧ (r = 0 → pJ O1 o = r2.toInt64) := by
  obtain ⟨f1, f2, f3, f4, f5, f6, f7, f8, f9, f10⟩ := hF
  obtain ⟨g1, g2, g3, g4⟩ := hG
  have m101 : pF M 101 (w 0) = 0 := g1 101 (by decide) (by decide)
  have m102 : pF M 102 (w 0) = 0 := g1 102 (by decide) (by decide)
  have m103 : pF M 103 (w 0) = 0 := g1 103 (by decide) (by decide)
  have m104 : pF M 104 (w 0) = 0 := g1 104 (by decide) (by decide)
  have m105 : pF M 105 (w 0) = 0 := g1 105 (by decide) (by decide)
  have m106 : pF M 106 (w 0) = 0 := g1 106 (by decide) (by decide)
  rcases hp with ⟨rfl, v9, ⟨j, hj, hn, hb, hv, -⟩, rfl⟩ | ⟨rfl, hx, rfl, rfl⟩ | ⟨rfl, hx, rfl, rfl⟩
  · rcases hm with ⟨-, ⟨h1, h2, hr⟩ | ⟨j2, hj2, hn2, ⟨h1, h2, hr⟩ | ⟨h1, h2, hv2, hr⟩⟩⟩
    · exact (kz_3b hj hn h2).elim
    · exact (h2.elim hb.1 hb.2).elim
    · exact ⟨hr.1.ob (i := 0) (by decide), kz_o ho, h1, fun _ => kz_v (by rw [hv, hv2, f9 j hj, g3 j2 hj2])⟩
  · rcases hx with ⟨-, hx⟩ | ⟨e9, -⟩
    · rcases hm with ⟨-, ⟨h1, h2, hr⟩ | ⟨j2, hj2, hn2, -⟩⟩
      · exact ⟨hr.1.ob (i := 0) (by decide), ho, h1, fun h => absurd h (by decide)⟩
      · exact (kz_3a hj2 hn2 hx).elim
    · exact absurd e9 (by decide +kernel)
  · rcases hx with ⟨e9, -⟩ | ⟨-, ⟨j, hj, hn⟩, hb⟩
    · exact absurd e9 (by decide +kernel)
    · rcases hm with ⟨-, ⟨h1, h2, hr⟩ | ⟨j2, hj2, hn2, ⟨h1, h2, hr⟩ | ⟨h1, h2, hv2, hr⟩⟩⟩
      · exact (kz_3b hj hn h2).elim
      · exact ⟨hr.1.ob (i := 0) (by decide), ho, h1, fun h => absurd h (by decide)⟩
      · exact (hb.elim h2.1 h2.2).elim
theorem kq_wave {z w : Nat → Nat} {e0 : Nat} {S M S1 O O1 M1 : wPS} {o od : Nat} {n1 r r2 : Int32} (hF : Fr z S) (hG : MFr w M) (ho : Ob O 14 o ∧ pN O o = 1 ∧ Ob O 15 od ∧ pN O od = 1) (hp : (r = 0 ∧ ∃ v9 : Int32, (∃ j, j < 3 ∧ n1 = nI j ∧ ¬ pX S (z 6) j < pF S 56 (z 0) ∧ pF S 57 (z 0) < 20 ∧ Inv z e0 S1 ∧ Tk z (setF S 57 (z 0) (pF S 57 (z 0) + 1)) S1 ∧ (pF S 72 (z 11) = 0 → v9 = 0)) ∧ O1 = setJ O o v9.toInt64) ∨ (r = 1 ∧ ((xI = xI ∧ (n1 < 0 ∨ 3 ≤ n1)) ∨ (∃ j, j < 3 ∧ n1 = nI j ∧ ((xI = xU ∧ pX S (z 6) j < pF S 56 (z 0)) ∨ (xI = xS ∧ ¬ pX S (z 6) j < pF S 56 (z 0) ∧ ¬ pF S 57 (z 0) < 20)))) ∧ S1 = S ∧ O1 = O) ∨ (r = 2 ∧ ((xU = xI ∧ (n1 < 0 ∨ 3 ≤ n1)) ∨ (∃ j, j < 3 ∧ n1 = nI j ∧ ((xU = xU ∧ pX S (z 6) j < pF S 56 (z 0)) ∨ (xU = xS ∧ ¬ pX S (z 6) j < pF S 56 (z 0) ∧ ¬ pF S 57 (z 0) < 20)))) ∧ S1 = S ∧ O1 = O) ∨ (r = 3 ∧ ((xS = xI ∧ (n1 < 0 ∨ 3 ≤ n1)) ∨ (∃ j, j < 3 ∧ n1 = nI j ∧ ((xS = xU ∧ pX S (z 6) j < pF S 56 (z 0)) ∨ (xS = xS ∧ ¬ pX S (z 6) j < pF S 56 (z 0) ∧ ¬ pF S 57 (z 0) < 20)))) ∧ S1 = S ∧ O1 = O)) (hm : Ob M1 6 (w 0) ∧ pF M1 106 (w 0) = pF M 106 (w 0) ∧ ((pF M1 100 (w 0) = 1 ∧ (n1 < 0 ∨ 2 < n1) ∧ Mr w M M1) ∨ ∃ j, j < 3 ∧ n1 = nI j ∧ ((pF M1 100 (w 0) = 2 ∧ pX M (w 12) j < pF M 104 (w 0) ∧ Mr w M M1) ∨ (¬ pX M (w 12) j < pF M 104 (w 0) ∧ ((pF M1 100 (w 0) = 3 ∧ pF M 103 (w 0) = 20) ∨ (pF M1 100 (w 0) = 0 ∧ ¬ pF M 103 (w 0) = 20 ∧ r2 = 0)))))) : Ob M1 6 (w 0) ∧ (Ob O1 14 o ∧ pN O1 o = 1 ∧ Ob O1 15 od ∧ pN O1 od = 1) ∧ pF M1 100 (w 0) = r ∧ (r = 0 → pJ O1 o = r2.toInt64) := by
  obtain ⟨f1, f2, f3, f4, f5, f6, f7, f8, f9, f10⟩ := hF
  obtain ⟨g1, g2, g3, g4⟩ := hG
  have m101 : pF M 101 (w 0) = 0 := g1 101 (by decide) (by decide)
  have m102 : pF M 102 (w 0) = 0 := g1 102 (by decide) (by decide)
  have m103 : pF M 103 (w 0) = 0 := g1 103 (by decide) (by decide)
  have m104 : pF M 104 (w 0) = 0 := g1 104 (by decide) (by decide)
  have m105 : pF M 105 (w 0) = 0 := g1 105 (by decide) (by decide)
  have m106 : pF M 106 (w 0) = 0 := g1 106 (by decide) (by decide)
  rcases hm with ⟨hob, -, hm⟩
  rcases hp with ⟨rfl, v9, ⟨j, hj, hn, h1, h2, -, -, h3⟩, rfl⟩ | ⟨rfl, hx, rfl, rfl⟩ | ⟨rfl, hx, rfl, rfl⟩ | ⟨rfl, hx, rfl, rfl⟩
  · rcases hm with ⟨k1, k2, -⟩ | ⟨j2, hj2, hn2, ⟨k1, k2, -⟩ | ⟨k1, ⟨k2, k3⟩ | ⟨k2, k3, k4⟩⟩⟩
    · exact (kz_3b hj hn k2).elim
    · rw [g3 j2 hj2, m104] at k2; exact absurd k2 (by decide)
    · rw [m103] at k3; exact absurd k3 (by decide)
    · exact ⟨hob, kz_o ho, k2, fun _ => kz_v (by rw [h3 f2, k4])⟩
  · rcases hx with ⟨-, hx⟩ | ⟨j, hj, hn, ⟨e9, -⟩ | ⟨e9, -⟩⟩
    · rcases hm with ⟨k1, k2, -⟩ | ⟨j2, hj2, hn2, -⟩
      · exact ⟨hob, ho, k1, fun h => absurd h (by decide)⟩
      · exact (kz_3a hj2 hn2 hx).elim
    · exact absurd e9 (by decide +kernel)
    · exact absurd e9 (by decide +kernel)
  · rcases hx with ⟨e9, -⟩ | ⟨j, hj, hn, ⟨-, hx⟩ | ⟨e9, -⟩⟩
    · exact absurd e9 (by decide +kernel)
    · rw [f9 j hj, f4] at hx; exact absurd hx (by decide)
    · exact absurd e9 (by decide +kernel)
  · rcases hx with ⟨e9, -⟩ | ⟨j, hj, hn, ⟨e9, -⟩ | ⟨-, -, hx⟩⟩
    · exact absurd e9 (by decide +kernel)
    · exact absurd e9 (by decide +kernel)
    · rw [f5] at hx; exact absurd (by decide) hx
theorem kq_waveOf {z w : Nat → Nat} {S M S1 O O1 M1 : wPS} {o od : Nat} {n1 r r2 : Int32} (hF : Fr z S) (hG : MFr w M) (ho : Ob O 14 o ∧ pN O o = 1 ∧ Ob O 15 od ∧ pN O od = 1) (hp : (r = 0 ∧ ∃ v9 : Int32, (S1 = S ∧ ¬ n1 < 0 ∧ n1 < pF S 72 (z 11)) ∧ O1 = setJ O o v9.toInt64) ∨ (r = 1 ∧ ((xI = xI ∧ (n1 < 0 ∨ ¬ n1 < pF S 72 (z 11))) ∨ (xI = xN ∧ ¬ n1 < 0 ∧ n1 < pF S 72 (z 11))) ∧ S1 = S ∧ O1 = O) ∨ (r = 2 ∧ ((xN = xI ∧ (n1 < 0 ∨ ¬ n1 < pF S 72 (z 11))) ∨ (xN = xN ∧ ¬ n1 < 0 ∧ n1 < pF S 72 (z 11))) ∧ S1 = S ∧ O1 = O)) (hm : Mr w M M1 ∧ pF M1 106 (w 0) = pF M 106 (w 0) ∧ (pF M1 100 (w 0) = 1 ∨ (∃ m, m ≤ 12 ∧ pF M 102 (w 0) = nI m ∧ ∃ j, j < m ∧ n1 = nI j))) : Ob M1 6 (w 0) ∧ (Ob O1 14 o ∧ pN O1 o = 1 ∧ Ob O1 15 od ∧ pN O1 od = 1) ∧ pF M1 100 (w 0) = r ∧ (r = 0 → pJ O1 o = r2.toInt64) := by
  obtain ⟨f1, f2, f3, f4, f5, f6, f7, f8, f9, f10⟩ := hF
  obtain ⟨g1, g2, g3, g4⟩ := hG
  have m101 : pF M 101 (w 0) = 0 := g1 101 (by decide) (by decide)
  have m102 : pF M 102 (w 0) = 0 := g1 102 (by decide) (by decide)
  have m103 : pF M 103 (w 0) = 0 := g1 103 (by decide) (by decide)
  have m104 : pF M 104 (w 0) = 0 := g1 104 (by decide) (by decide)
  have m105 : pF M 105 (w 0) = 0 := g1 105 (by decide) (by decide)
  have m106 : pF M 106 (w 0) = 0 := g1 106 (by decide) (by decide)
  obtain ⟨hr, -, hd⟩ := hm
  have h100 : pF M1 100 (w 0) = 1 := by
    rcases hd with h | ⟨m9, hm9, he9, j, hj, -⟩
    · exact h
    · exact (kz_m m102 (by omega) he9 hj).elim
  rcases hp with ⟨rfl, v9, ⟨-, h1, h2⟩, rfl⟩ | ⟨rfl, hx, rfl, rfl⟩ | ⟨rfl, hx, rfl, rfl⟩
  · exact (kz_no f2 h1 h2).elim
  · exact ⟨hr.1.ob (i := 0) (by decide), ho, h100, fun h => absurd h (by decide)⟩
  · rcases hx with ⟨e9, -⟩ | ⟨-, h1, h2⟩
    · exact absurd e9 (by decide +kernel)
    · exact (kz_no f2 h1 h2).elim
theorem kq_minutesLeft {z w : Nat → Nat} {S M S1 O O1 M1 : wPS} {o od : Nat} {n1 r r2 : Int32} (hF : Fr z S) (hG : MFr w M) (ho : Ob O 14 o ∧ pN O o = 1 ∧ Ob O 15 od ∧ pN O od = 1) (hp : (r = 0 ∧ ∃ v9 : Int32, (S1 = S ∧ ∃ j, j < 3 ∧ n1 = nI j ∧ v9 = if pX S (z 6) j - pF S 56 (z 0) < 0 then -1 else pX S (z 6) j - pF S 56 (z 0)) ∧ O1 = setJ O o v9.toInt64) ∨ (r = 1 ∧ (xI = xI ∧ (n1 < 0 ∨ 3 ≤ n1)) ∧ S1 = S ∧ O1 = O)) (hm : Mr w M M1 ∧ pF M1 106 (w 0) = pF M 106 (w 0) ∧ ((pF M1 100 (w 0) = 1 ∧ (n1 < 0 ∨ 2 < n1)) ∨ (pF M1 100 (w 0) = 0 ∧ ∃ j, j < 3 ∧ n1 = nI j ∧ r2 = if pX M (w 12) j < pF M 104 (w 0) then -1 else pX M (w 12) j - pF M 104 (w 0)))) : Ob M1 6 (w 0) ∧ (Ob O1 14 o ∧ pN O1 o = 1 ∧ Ob O1 15 od ∧ pN O1 od = 1) ∧ pF M1 100 (w 0) = r ∧ (r = 0 → pJ O1 o = r2.toInt64) := by
  obtain ⟨f1, f2, f3, f4, f5, f6, f7, f8, f9, f10⟩ := hF
  obtain ⟨g1, g2, g3, g4⟩ := hG
  have m101 : pF M 101 (w 0) = 0 := g1 101 (by decide) (by decide)
  have m102 : pF M 102 (w 0) = 0 := g1 102 (by decide) (by decide)
  have m103 : pF M 103 (w 0) = 0 := g1 103 (by decide) (by decide)
  have m104 : pF M 104 (w 0) = 0 := g1 104 (by decide) (by decide)
  have m105 : pF M 105 (w 0) = 0 := g1 105 (by decide) (by decide)
  have m106 : pF M 106 (w 0) = 0 := g1 106 (by decide) (by decide)
  rcases hp with ⟨rfl, v9, ⟨-, j, hj, hn, hv⟩, rfl⟩ | ⟨rfl, ⟨-, hx⟩, rfl, rfl⟩
  · rcases hm with ⟨hr, -, ⟨h1, h2⟩ | ⟨h1, j2, hj2, hn2, hv2⟩⟩
    · exact (kz_3b hj hn h2).elim
    · exact ⟨hr.1.ob (i := 0) (by decide), kz_o ho, h1, fun _ => kz_v (by rw [hv, hv2, f9 j hj, f4, g3 j2 hj2, m104]; decide)⟩
  · rcases hm with ⟨hr, -, ⟨h1, h2⟩ | ⟨h1, j2, hj2, hn2, hv2⟩⟩
    · exact ⟨hr.1.ob (i := 0) (by decide), ho, h1, fun h => absurd h (by decide)⟩
    · exact (kz_3a hj2 hn2 hx).elim
theorem kq_send {z w : Nat → Nat} {e0 : Nat} {S M S1 O O1 M1 : wPS} {o od : Nat} {n1 n2 r r2 : Int32} (hF : Fr z S) (hG : MFr w M) (ho : Ob O 14 o ∧ pN O o = 1 ∧ Ob O 15 od ∧ pN O od = 1) (hp : (r = 0 ∧ ∃ v9 : Int32, ((¬ n2 < 0 ∧ n2 < pF S 72 (z 10)) ∧ Inv z e0 S1 ∧ Tk z S S1) ∧ O1 = setJ O o v9.toInt64) ∨ (r = 1 ∧ ((xI = xI) ∨ ((xI = xU ∨ xI = xS ∨ xI = xN) ∧ (¬ n2 < 0 ∧ n2 < pF S 72 (z 10)))) ∧ S1 = S ∧ O1 = O) ∨ (r = 2 ∧ ((xU = xI) ∨ ((xU = xU ∨ xU = xS ∨ xU = xN) ∧ (¬ n2 < 0 ∧ n2 < pF S 72 (z 10)))) ∧ S1 = S ∧ O1 = O) ∨ (r = 3 ∧ ((xS = xI) ∨ ((xS = xU ∨ xS = xS ∨ xS = xN) ∧ (¬ n2 < 0 ∧ n2 < pF S 72 (z 10)))) ∧ S1 = S ∧ O1 = O) ∨ (r = 4 ∧ ((xN = xI) ∨ ((xN = xU ∨ xN = xS ∨ xN = xN) ∧ (¬ n2 < 0 ∧ n2 < pF S 72 (z 10)))) ∧ S1 = S ∧ O1 = O)) (hm : Mr w M M1 ∧ pF M1 106 (w 0) = pF M 106 (w 0) ∧ (pF M1 100 (w 0) = 1 ∨ (∃ m, m ≤ 6 ∧ pF M 101 (w 0) = nI m ∧ ∃ j, j < m ∧ n2 = nI j))) : Ob M1 6 (w 0) ∧ (Ob O1 14 o ∧ pN O1 o = 1 ∧ Ob O1 15 od ∧ pN O1 od = 1) ∧ pF M1 100 (w 0) = r ∧ (r = 0 → pJ O1 o = r2.toInt64) := by
  obtain ⟨f1, f2, f3, f4, f5, f6, f7, f8, f9, f10⟩ := hF
  obtain ⟨g1, g2, g3, g4⟩ := hG
  have m101 : pF M 101 (w 0) = 0 := g1 101 (by decide) (by decide)
  have m102 : pF M 102 (w 0) = 0 := g1 102 (by decide) (by decide)
  have m103 : pF M 103 (w 0) = 0 := g1 103 (by decide) (by decide)
  have m104 : pF M 104 (w 0) = 0 := g1 104 (by decide) (by decide)
  have m105 : pF M 105 (w 0) = 0 := g1 105 (by decide) (by decide)
  have m106 : pF M 106 (w 0) = 0 := g1 106 (by decide) (by decide)
  obtain ⟨hr, -, hd⟩ := hm
  have h100 : pF M1 100 (w 0) = 1 := by
    rcases hd with h | ⟨m9, hm9, he9, j, hj, -⟩
    · exact h
    · exact (kz_m m101 (by omega) he9 hj).elim
  rcases hp with ⟨rfl, v9, ⟨⟨h1, h2⟩, -⟩, rfl⟩ | ⟨rfl, hx, rfl, rfl⟩ | ⟨rfl, hx, rfl, rfl⟩ | ⟨rfl, hx, rfl, rfl⟩ | ⟨rfl, hx, rfl, rfl⟩
  · exact (kz_no f1 h1 h2).elim
  · exact ⟨hr.1.ob (i := 0) (by decide), ho, h100, fun h => absurd h (by decide)⟩
  · rcases hx with e9 | ⟨-, h1, h2⟩
    · exact absurd e9 (by decide +kernel)
    · exact (kz_no f1 h1 h2).elim
  · rcases hx with e9 | ⟨-, h1, h2⟩
    · exact absurd e9 (by decide +kernel)
    · exact (kz_no f1 h1 h2).elim
  · rcases hx with e9 | ⟨-, h1, h2⟩
    · exact absurd e9 (by decide +kernel)
    · exact (kz_no f1 h1 h2).elim
theorem kq_carried {z w : Nat → Nat} {S M S1 O O1 M1 : wPS} {o od : Nat} {n1 r r2 : Int32} (hF : Fr z S) (hG : MFr w M) (ho : Ob O 14 o ∧ pN O o = 1 ∧ Ob O 15 od ∧ pN O od = 1) (hp : (r = 0 ∧ ∃ v9 : Int32, (S1 = S ∧ ∃ j, j < 2 ∧ n1 = nI j ∧ v9 = pF S 31 (z (8 + j))) ∧ O1 = setJ O o v9.toInt64) ∨ (r = 1 ∧ (xI = xI ∧ (n1 < 0 ∨ ¬ n1 < 2)) ∧ S1 = S ∧ O1 = O)) (hm : Mr w M M1 ∧ pF M1 106 (w 0) = pF M 106 (w 0) ∧ ((pF M1 100 (w 0) = 1 ∧ (n1 < 0 ∨ 1 < n1)) ∨ (pF M1 100 (w 0) = 0 ∧ ∃ j, j < 2 ∧ n1 = nI j ∧ r2 = pX M (w 13) j))) : Ob M1 6 (w 0) ∧ (Ob O1 14 o ∧ pN O1 o = 1 ∧ Ob O1 15 od ∧ pN O1 od = 1) ∧ pF M1 100 (w 0) = r ∧ (r = 0 → pJ O1 o = r2.toInt64) := by
  obtain ⟨f1, f2, f3, f4, f5, f6, f7, f8, f9, f10⟩ := hF
  obtain ⟨g1, g2, g3, g4⟩ := hG
  have m101 : pF M 101 (w 0) = 0 := g1 101 (by decide) (by decide)
  have m102 : pF M 102 (w 0) = 0 := g1 102 (by decide) (by decide)
  have m103 : pF M 103 (w 0) = 0 := g1 103 (by decide) (by decide)
  have m104 : pF M 104 (w 0) = 0 := g1 104 (by decide) (by decide)
  have m105 : pF M 105 (w 0) = 0 := g1 105 (by decide) (by decide)
  have m106 : pF M 106 (w 0) = 0 := g1 106 (by decide) (by decide)
  rcases hp with ⟨rfl, v9, ⟨-, j, hj, hn, hv⟩, rfl⟩ | ⟨rfl, ⟨-, hx⟩, rfl, rfl⟩
  · rcases hm with ⟨hr, -, ⟨h1, h2⟩ | ⟨h1, j2, hj2, hn2, hv2⟩⟩
    · exact (kz_2b hj hn h2).elim
    · exact ⟨hr.1.ob (i := 0) (by decide), kz_o ho, h1, fun _ => kz_v (by rw [hv, hv2, (f10 j hj).2.1, (g4 j2 hj2).1])⟩
  · rcases hm with ⟨hr, -, ⟨h1, h2⟩ | ⟨h1, j2, hj2, hn2, hv2⟩⟩
    · exact ⟨hr.1.ob (i := 0) (by decide), ho, h1, fun h => absurd h (by decide)⟩
    · exact (kz_2a hj2 hn2 hx).elim
theorem kq_minutesOf {z w : Nat → Nat} {S M S1 O O1 M1 : wPS} {o od : Nat} {n1 r r2 : Int32} (hF : Fr z S) (hG : MFr w M) (ho : Ob O 14 o ∧ pN O o = 1 ∧ Ob O 15 od ∧ pN O od = 1) (hp : (r = 0 ∧ ∃ v9 : Int32, (S1 = S ∧ ∃ j, j < 2 ∧ n1 = nI j ∧ v9 = pF S 32 (z (8 + j))) ∧ O1 = setJ O o v9.toInt64) ∨ (r = 1 ∧ (xI = xI ∧ (n1 < 0 ∨ ¬ n1 < 2)) ∧ S1 = S ∧ O1 = O)) (hm : Mr w M M1 ∧ pF M1 106 (w 0) = pF M 106 (w 0) ∧ ((pF M1 100 (w 0) = 1 ∧ (n1 < 0 ∨ 1 < n1)) ∨ (pF M1 100 (w 0) = 0 ∧ ∃ j, j < 2 ∧ n1 = nI j ∧ r2 = pX M (w 14) j))) : Ob M1 6 (w 0) ∧ (Ob O1 14 o ∧ pN O1 o = 1 ∧ Ob O1 15 od ∧ pN O1 od = 1) ∧ pF M1 100 (w 0) = r ∧ (r = 0 → pJ O1 o = r2.toInt64) := by
  obtain ⟨f1, f2, f3, f4, f5, f6, f7, f8, f9, f10⟩ := hF
  obtain ⟨g1, g2, g3, g4⟩ := hG
  have m101 : pF M 101 (w 0) = 0 := g1 101 (by decide) (by decide)
  have m102 : pF M 102 (w 0) = 0 := g1 102 (by decide) (by decide)
  have m103 : pF M 103 (w 0) = 0 := g1 103 (by decide) (by decide)
  have m104 : pF M 104 (w 0) = 0 := g1 104 (by decide) (by decide)
  have m105 : pF M 105 (w 0) = 0 := g1 105 (by decide) (by decide)
  have m106 : pF M 106 (w 0) = 0 := g1 106 (by decide) (by decide)
  rcases hp with ⟨rfl, v9, ⟨-, j, hj, hn, hv⟩, rfl⟩ | ⟨rfl, ⟨-, hx⟩, rfl, rfl⟩
  · rcases hm with ⟨hr, -, ⟨h1, h2⟩ | ⟨h1, j2, hj2, hn2, hv2⟩⟩
    · exact (kz_2b hj hn h2).elim
    · exact ⟨hr.1.ob (i := 0) (by decide), kz_o ho, h1, fun _ => kz_v (by rw [hv, hv2, (f10 j hj).2.2, (g4 j2 hj2).2])⟩
  · rcases hm with ⟨hr, -, ⟨h1, h2⟩ | ⟨h1, j2, hj2, hn2, hv2⟩⟩
    · exact ⟨hr.1.ob (i := 0) (by decide), ho, h1, fun h => absurd h (by decide)⟩
    · exact (kz_2a hj2 hn2 hx).elim
theorem kq_aisleOf {z w : Nat → Nat} {S M S1 O O1 M1 : wPS} {o od : Nat} {n1 r r2 : Int32} (hF : Fr z S) (hG : MFr w M) (ho : Ob O 14 o ∧ pN O o = 1 ∧ Ob O 15 od ∧ pN O od = 1) (hp : (r = 0 ∧ ∃ v9 : Int32, (S1 = S ∧ ∃ j, j < 2 ∧ n1 = nI j ∧ pG S 30 (z (8 + j)) ≠ none) ∧ O1 = setJ O o v9.toInt64) ∨ (r = 1 ∧ ((xI = xI ∧ (n1 < 0 ∨ ¬ n1 < 2)) ∨ (xI = xN ∧ ∃ j, j < 2 ∧ n1 = nI j)) ∧ S1 = S ∧ O1 = O) ∨ (r = 2 ∧ ((xN = xI ∧ (n1 < 0 ∨ ¬ n1 < 2)) ∨ (xN = xN ∧ ∃ j, j < 2 ∧ n1 = nI j)) ∧ S1 = S ∧ O1 = O)) (hm : Mr w M M1 ∧ pF M1 106 (w 0) = pF M 106 (w 0) ∧ ((pF M1 100 (w 0) = 1 ∧ (n1 < 0 ∨ 1 < n1)) ∨ (∃ j, j < 2 ∧ n1 = nI j ∧ (pX M (w 13) j = 0 → pF M1 100 (w 0) = 2)))) : Ob M1 6 (w 0) ∧ (Ob O1 14 o ∧ pN O1 o = 1 ∧ Ob O1 15 od ∧ pN O1 od = 1) ∧ pF M1 100 (w 0) = r ∧ (r = 0 → pJ O1 o = r2.toInt64) := by
  obtain ⟨f1, f2, f3, f4, f5, f6, f7, f8, f9, f10⟩ := hF
  obtain ⟨g1, g2, g3, g4⟩ := hG
  have m101 : pF M 101 (w 0) = 0 := g1 101 (by decide) (by decide)
  have m102 : pF M 102 (w 0) = 0 := g1 102 (by decide) (by decide)
  have m103 : pF M 103 (w 0) = 0 := g1 103 (by decide) (by decide)
  have m104 : pF M 104 (w 0) = 0 := g1 104 (by decide) (by decide)
  have m105 : pF M 105 (w 0) = 0 := g1 105 (by decide) (by decide)
  have m106 : pF M 106 (w 0) = 0 := g1 106 (by decide) (by decide)
  rcases hp with ⟨rfl, v9, ⟨-, j, hj, hn, hv⟩, rfl⟩ | ⟨rfl, hx, rfl, rfl⟩ | ⟨rfl, hx, rfl, rfl⟩
  · exact absurd (f10 j hj).1 hv
  · rcases hx with ⟨-, hx⟩ | ⟨e9, -⟩
    · rcases hm with ⟨hr, -, ⟨h1, h2⟩ | ⟨j2, hj2, hn2, hv2⟩⟩
      · exact ⟨hr.1.ob (i := 0) (by decide), ho, h1, fun h => absurd h (by decide)⟩
      · exact (kz_2a hj2 hn2 hx).elim
    · exact absurd e9 (by decide +kernel)
  · rcases hx with ⟨e9, -⟩ | ⟨-, j, hj, hn⟩
    · exact absurd e9 (by decide +kernel)
    · rcases hm with ⟨hr, -, ⟨h1, h2⟩ | ⟨j2, hj2, hn2, hv2⟩⟩
      · exact (kz_2b hj hn h2).elim
      · exact ⟨hr.1.ob (i := 0) (by decide), ho, hv2 (g4 j2 hj2).1, fun h => absurd h (by decide)⟩
theorem kq_pass {z w : Nat → Nat} {e0 : Nat} {S M S1 O O1 M1 : wPS} {o od : Nat} {n1 r r2 : Int32} (hF : Fr z S) (hG : MFr w M) (ho : Ob O 14 o ∧ pN O o = 1 ∧ Ob O 15 od ∧ pN O od = 1) (hp : (r = 0 ∧ ∃ v9 : Int32, ((¬ n1 < 1 ∧ ¬ 60 < n1) ∧ ¬ 1439 < pF S 56 (z 0) + n1 ∧ Inv z e0 S1 ∧ Tk z (setF S 56 (z 0) (pF S 56 (z 0) + n1)) S1 ∧ (pG S 30 (z 8) = none → pG S 30 (z 9) = none → v9 = 0)) ∧ O1 = setJ O o v9.toInt64) ∨ (r = 1 ∧ (xA = xA ∧ ((n1 < 1 ∨ 60 < n1) ∨ 1439 < pF S 56 (z 0) + n1)) ∧ S1 = S ∧ O1 = O)) (hm : pF M1 106 (w 0) = pF M 106 (w 0) ∧ ((pF M1 100 (w 0) = 1 ∧ ((n1 < 1 ∨ 60 < n1) ∨ 1439 < pF M 104 (w 0) + n1) ∧ Mr w M M1) ∨ (pF M1 100 (w 0) = 0 ∧ (¬ n1 < 1 ∧ ¬ 60 < n1) ∧ ¬ 1439 < pF M 104 (w 0) + n1 ∧ Mr w (setF M 104 (w 0) (pF M 104 (w 0) + n1)) M1 ∧ (pX M (w 13) 0 = 0 → pX M (w 13) 1 = 0 → r2 = 0)))) : Ob M1 6 (w 0) ∧ (Ob O1 14 o ∧ pN O1 o = 1 ∧ Ob O1 15 od ∧ pN O1 od = 1) ∧ pF M1 100 (w 0) = r ∧ (r = 0 → pJ O1 o = r2.toInt64) := by
  obtain ⟨f1, f2, f3, f4, f5, f6, f7, f8, f9, f10⟩ := hF
  obtain ⟨g1, g2, g3, g4⟩ := hG
  have m101 : pF M 101 (w 0) = 0 := g1 101 (by decide) (by decide)
  have m102 : pF M 102 (w 0) = 0 := g1 102 (by decide) (by decide)
  have m103 : pF M 103 (w 0) = 0 := g1 103 (by decide) (by decide)
  have m104 : pF M 104 (w 0) = 0 := g1 104 (by decide) (by decide)
  have m105 : pF M 105 (w 0) = 0 := g1 105 (by decide) (by decide)
  have m106 : pF M 106 (w 0) = 0 := g1 106 (by decide) (by decide)
  rw [f4] at hp
  rw [m104] at hm
  rcases hp with ⟨rfl, v9, ⟨h1, h2, -, -, h3⟩, rfl⟩ | ⟨rfl, ⟨-, hx⟩, rfl, rfl⟩
  · rcases hm with ⟨-, ⟨k1, k2, hr⟩ | ⟨k1, k2, k3, hr, k4⟩⟩
    · exact (k2.elim (fun k => k.elim h1.1 h1.2) h2).elim
    · exact ⟨hr.1.ob (i := 0) (by decide), kz_o ho, k1, fun _ => kz_v (by rw [h3 (f10 0 (by decide)).1 (f10 1 (by decide)).1, k4 (g4 0 (by decide)).1 (g4 1 (by decide)).1])⟩
  · rcases hm with ⟨-, ⟨k1, k2, hr⟩ | ⟨k1, k2, k3, hr, k4⟩⟩
    · exact ⟨hr.1.ob (i := 0) (by decide), ho, k1, fun h => absurd h (by decide)⟩
    · exact (hx.elim (fun k => k.elim k2.1 k2.2) k3).elim
theorem kq_scanOrder {z w : Nat → Nat} {S M S1 O O1 M1 : wPS} {o od : Nat} {n1 r r2 : Int32} (hF : Fr z S) (hG : MFr w M) (ho : Ob O 14 o ∧ pN O o = 1 ∧ Ob O 15 od ∧ pN O od = 1) (hp : (r = 0 ∧ ∃ v9 : Int32, (S1 = S ∧ ¬ n1 < 0 ∧ n1 < pF S 42 (z 12)) ∧ O1 = setJ O o v9.toInt64) ∨ (r = 1 ∧ (xI = xI) ∧ S1 = S ∧ O1 = O)) (hm : Mr w M M1 ∧ pF M1 106 (w 0) = pF M 106 (w 0) ∧ (pF M1 100 (w 0) = 1 ∨ ∃ j, j < 0 ∧ n1 = nI j)) : Ob M1 6 (w 0) ∧ (Ob O1 14 o ∧ pN O1 o = 1 ∧ Ob O1 15 od ∧ pN O1 od = 1) ∧ pF M1 100 (w 0) = r ∧ (r = 0 → pJ O1 o = r2.toInt64) := by
  obtain ⟨f1, f2, f3, f4, f5, f6, f7, f8, f9, f10⟩ := hF
  obtain ⟨g1, g2, g3, g4⟩ := hG
  have m101 : pF M 101 (w 0) = 0 := g1 101 (by decide) (by decide)
  have m102 : pF M 102 (w 0) = 0 := g1 102 (by decide) (by decide)
  have m103 : pF M 103 (w 0) = 0 := g1 103 (by decide) (by decide)
  have m104 : pF M 104 (w 0) = 0 := g1 104 (by decide) (by decide)
  have m105 : pF M 105 (w 0) = 0 := g1 105 (by decide) (by decide)
  have m106 : pF M 106 (w 0) = 0 := g1 106 (by decide) (by decide)
  obtain ⟨hr, -, hd⟩ := hm
  have h100 : pF M1 100 (w 0) = 1 := by
    rcases hd with h | ⟨j, hj, -⟩
    · exact h
    · exact absurd hj (Nat.not_lt_zero _)
  rcases hp with ⟨rfl, v9, ⟨-, h1, h2⟩, rfl⟩ | ⟨rfl, hx, rfl, rfl⟩
  · exact (kz_no f3 h1 h2).elim
  · exact ⟨hr.1.ob (i := 0) (by decide), ho, h100, fun h => absurd h (by decide)⟩
theorem kq_scanSign {z w : Nat → Nat} {S M S1 O O1 M1 : wPS} {o od : Nat} {n1 r r2 : Int32} (hF : Fr z S) (hG : MFr w M) (ho : Ob O 14 o ∧ pN O o = 1 ∧ Ob O 15 od ∧ pN O od = 1) (hp : (r = 0 ∧ ∃ v9 : Int32, (S1 = S ∧ kCh v9 ∧ ¬ n1 < 0 ∧ n1 < pF S 42 (z 12)) ∧ O1 = setJ O o v9.toInt64) ∨ (r = 1 ∧ (xI = xI) ∧ S1 = S ∧ O1 = O)) (hm : Mr w M M1 ∧ pF M1 106 (w 0) = pF M 106 (w 0) ∧ kCh r2 ∧ (pF M1 100 (w 0) = 1 ∨ ∃ j, j < 0 ∧ n1 = nI j)) : Ob M1 6 (w 0) ∧ (Ob O1 14 o ∧ pN O1 o = 1 ∧ Ob O1 15 od ∧ pN O1 od = 1) ∧ pF M1 100 (w 0) = r ∧ (r = 0 → pJ O1 o = r2.toInt64) := by
  obtain ⟨f1, f2, f3, f4, f5, f6, f7, f8, f9, f10⟩ := hF
  obtain ⟨g1, g2, g3, g4⟩ := hG
  have m101 : pF M 101 (w 0) = 0 := g1 101 (by decide) (by decide)
  have m102 : pF M 102 (w 0) = 0 := g1 102 (by decide) (by decide)
  have m103 : pF M 103 (w 0) = 0 := g1 103 (by decide) (by decide)
  have m104 : pF M 104 (w 0) = 0 := g1 104 (by decide) (by decide)
  have m105 : pF M 105 (w 0) = 0 := g1 105 (by decide) (by decide)
  have m106 : pF M 106 (w 0) = 0 := g1 106 (by decide) (by decide)
  obtain ⟨hr, -, -, hd⟩ := hm
  have h100 : pF M1 100 (w 0) = 1 := by
    rcases hd with h | ⟨j, hj, -⟩
    · exact h
    · exact absurd hj (Nat.not_lt_zero _)
  rcases hp with ⟨rfl, v9, ⟨-, -, h1, h2⟩, rfl⟩ | ⟨rfl, hx, rfl, rfl⟩
  · exact (kz_no f3 h1 h2).elim
  · exact ⟨hr.1.ob (i := 0) (by decide), ho, h100, fun h => absurd h (by decide)⟩
theorem kq_shippedShare {z w : Nat → Nat} {S M S1 O O1 M1 : wPS} {o od : Nat} {r : Int32} {r2 : UInt32} (hF : Fr z S) (hG : MFr w M) (ho : Ob O 14 o ∧ pN O o = 1 ∧ Ob O 15 od ∧ pN O od = 1) (hp : (r = 0 ∧ ∃ v9 : UInt32, ((∃ k m, k ≤ m ∧ m ≤ 12 ∧ 1 ≤ m ∧ v9 = FP.fdiv (FP.i2f (nI k)) (FP.i2f (nI m))) ∧ ¬ pF S 72 (z 11) = 0 ∧ S1 = S) ∧ O1 = setJ O od (FP.f2d v9).toInt64) ∨ (r = 1 ∧ (xN = xN) ∧ S1 = S ∧ O1 = O)) (hm : pF M1 106 (w 0) = pF M 106 (w 0) ∧ Mr w M M1 ∧ ((pF M 102 (w 0) = 0 ∧ pF M1 100 (w 0) = 1) ∨ (¬ pF M 102 (w 0) = 0 ∧ pF M1 100 (w 0) = 0))) : Ob M1 6 (w 0) ∧ (Ob O1 14 o ∧ pN O1 o = 1 ∧ Ob O1 15 od ∧ pN O1 od = 1) ∧ pF M1 100 (w 0) = r ∧ (r = 0 → False) := by
  obtain ⟨f1, f2, f3, f4, f5, f6, f7, f8, f9, f10⟩ := hF
  obtain ⟨g1, g2, g3, g4⟩ := hG
  have m101 : pF M 101 (w 0) = 0 := g1 101 (by decide) (by decide)
  have m102 : pF M 102 (w 0) = 0 := g1 102 (by decide) (by decide)
  have m103 : pF M 103 (w 0) = 0 := g1 103 (by decide) (by decide)
  have m104 : pF M 104 (w 0) = 0 := g1 104 (by decide) (by decide)
  have m105 : pF M 105 (w 0) = 0 := g1 105 (by decide) (by decide)
  have m106 : pF M 106 (w 0) = 0 := g1 106 (by decide) (by decide)
  rcases hp with ⟨rfl, v9, ⟨-, h1, -⟩, rfl⟩ | ⟨rfl, -, rfl, rfl⟩
  · exact absurd f2 h1
  · rcases hm with ⟨-, hr, ⟨-, k1⟩ | ⟨k1, -⟩⟩
    · exact ⟨hr.1.ob (i := 0) (by decide), ho, k1, fun h => absurd h (by decide)⟩
    · exact absurd m102 k1
