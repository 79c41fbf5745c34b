/-! the model's pool: places w 0 (the model), w 1 .. w 17 its rows in the order of its fields -/
def mK : Nat → Nat := fun i => if i = 0 then 6 else if i = 10 then 10 else 9
def mN : Nat → Nat := fun i => if i ≤ 4 then 6 else if i ≤ 9 then 12 else if i ≤ 11 then 4 else if i = 12 then 3 else if i ≤ 15 then 2 else 7000
def mV (M : wPS) (a N : Nat) : Prop := ∀ i, ∃ j, j < N ∧ pX M a i = nI j
def MI (w : Nat → Nat) (M : wPS) : Prop := ((∀ i, i < 18 → Ob M (mK i) (w i)) ∧ ∀ i j, i < 18 → j < 18 → w i = w j → i = j) ∧ (∀ i, 1 ≤ i → i < 18 → pG M (106 + i) (w 0) = some (w i) ∧ pN M (w i) = mN i) ∧ ((∃ n, n ≤ 6 ∧ pF M 101 (w 0) = nI n) ∧ ∃ n, n ≤ 12 ∧ pF M 102 (w 0) = nI n) ∧ mV M (w 1) 4 ∧ mV M (w 5) 6 ∧ mV M (w 15) 6 ∧ ∀ i, kBo (pX M (w 10) i)
/-- what tracked calls show is the same -/
def Mr (w : Nat → Nat) (M N : wPS) : Prop := MI w N ∧ pF N 101 (w 0) = pF M 101 (w 0) ∧ pF N 103 (w 0) = pF M 103 (w 0) ∧ pF N 104 (w 0) = pF M 104 (w 0) ∧ pX N (w 10) = pX M (w 10) ∧ pX N (w 11) = pX M (w 11) ∧ pX N (w 12) = pX M (w 12)
/-- .. and what was thrown, and the number of orders -/
def Mk (w : Nat → Nat) (M N : wPS) : Prop := Mr w M N ∧ pF N 100 (w 0) = pF M 100 (w 0) ∧ pF N 102 (w 0) = pF M 102 (w 0)
theorem MI.ne {w : Nat → Nat} {M : wPS} (h : MI w M) {i j : Nat} (hi : i < 18) (hj : j < 18) (hij : i ≠ j) : w i ≠ w j := fun e => hij (h.1.2 i j hi hj e)
theorem MI.ob {w : Nat → Nat} {M : wPS} (h : MI w M) {i : Nat} (hi : i < 18) : Ob M (mK i) (w i) := h.1.1 i hi
theorem MI.f {w : Nat → Nat} {M : wPS} {k : Nat} {v : Int32} (h : MI w M) (hk : k ≠ 101 ∧ k ≠ 102) : MI w (setF M k (w 0) v) := by
  obtain ⟨a, b, ⟨c, d⟩, e⟩ := h
  refine ⟨a, b, ⟨?_, ?_⟩, e⟩
  · rw [uF_of (Or.inl hk.1.symm)]; exact c
  · rw [uF_of (Or.inl hk.2.symm)]; exact d
theorem Mr.rf {w : Nat → Nat} {M : wPS} (h : MI w M) : Mr w M M := ⟨h, rfl, rfl, rfl, rfl, rfl, rfl⟩
theorem Mk.rf {w : Nat → Nat} {M : wPS} (h : MI w M) : Mk w M M := ⟨Mr.rf h, rfl, rfl⟩
theorem Mr.trans {w : Nat → Nat} {M N O : wPS} (h : Mr w M N) (k : Mr w N O) : Mr w M O := by
  obtain ⟨-, h1, h2, h3, h4, h5, h6⟩ := h
  obtain ⟨k0, k1, k2, k3, k4, k5, k6⟩ := k
  exact ⟨k0, k1.trans h1, k2.trans h2, k3.trans h3, k4.trans h4, k5.trans h5, k6.trans h6⟩
theorem Mk.trans {w : Nat → Nat} {M N O : wPS} (h : Mk w M N) (k : Mk w N O) : Mk w M O := ⟨h.1.trans k.1, k.2.1.trans h.2.1, k.2.2.trans h.2.2⟩
theorem Mk.f {w : Nat → Nat} {M N : wPS} {k : Nat} {v : Int32} (h : Mk w M N) (h1 : k ≠ 100 ∧ k ≠ 101 ∧ k ≠ 102) (h2 : k ≠ 103 ∧ k ≠ 104) : Mk w M (setF N k (w 0) v) := by
  obtain ⟨⟨k0, k1, k2, k3, k4, k5, k6⟩, k7, k8⟩ := h
  exact ⟨⟨k0.f ⟨h1.2.1, h1.2.2⟩, (uF_of (Or.inl h1.2.1.symm)).trans k1, (uF_of (Or.inl h2.1.symm)).trans k2, (uF_of (Or.inl h2.2.symm)).trans k3, k4, k5, k6⟩, (uF_of (Or.inl h1.1.symm)).trans k7, (uF_of (Or.inl h1.2.2.symm)).trans k8⟩
theorem MI.x {w : Nat → Nat} {M : wPS} {i : Nat} {f : Nat → Int32} (h : MI w M) (hi : i < 18) (h1 : i ≠ 1) (h5 : i ≠ 5) (h15 : i ≠ 15) (h10 : i ≠ 10) : MI w (setX M (w i) f) := by
  have hn : ∀ j, j < 18 → i ≠ j → pX (setX M (w i) f) (w j) = pX M (w j) := fun j hj e => va_up_ne _ _ (h.ne hj hi e.symm)
  have g1 := hn 1 (by decide) h1
  have g5 := hn 5 (by decide) h5
  have g15 := hn 15 (by decide) h15
  have g10 := hn 10 (by decide) h10
  obtain ⟨a, b, c, d1, d2, d3, d4⟩ := h
  refine ⟨a, b, c, ?_, ?_, ?_, ?_⟩
  · unfold mV; rw [g1]; exact d1
  · unfold mV; rw [g5]; exact d2
  · unfold mV; rw [g15]; exact d3
  · rw [g10]; exact d4
theorem Mk.x {w : Nat → Nat} {M N : wPS} {i : Nat} {f : Nat → Int32} (h : Mk w M N) (hi : i < 18) (h1 : i ≠ 1 ∧ i ≠ 5 ∧ i ≠ 15) (h2 : i ≠ 10 ∧ i ≠ 11 ∧ i ≠ 12) : Mk w M (setX N (w i) f) := by
  obtain ⟨⟨k0, k1, k2, k3, k4, k5, k6⟩, k7, k8⟩ := h
  have hn : ∀ j, j < 18 → i ≠ j → pX (setX N (w i) f) (w j) = pX N (w j) := fun j hj e => va_up_ne _ _ (k0.ne hj hi e.symm)
  exact ⟨⟨k0.x hi h1.1 h1.2.1 h1.2.2 h2.1, k1, k2, k3, (hn 10 (by decide) h2.1).trans k4, (hn 11 (by decide) h2.2.1).trans k5, (hn 12 (by decide) h2.2.2).trans k6⟩, k7, k8⟩
theorem mV_up {M : wPS} {a N j : Nat} {v : Int32} (h : mV M a N) (hv : ∃ j, j < N ∧ v = nI j) : mV (setX M a (upd (pX M a) j v)) a N := by
  intro i
  show ∃ q, q < N ∧ va_up (pX M) a (upd (pX M a) j v) a i = nI q
  rw [va_up_self]
  unfold upd
  split
  · exact hv
  · exact h i
/-- the rows of articles, goals, aisles -/
theorem MI.v {w : Nat → Nat} {M : wPS} {i j : Nat} {v : Int32} (h : MI w M) (hi : i = 1 ∨ i = 5 ∨ i = 15) (hv : ∃ q, q < (if i = 1 then 4 else 6) ∧ v = nI q) : MI w (setX M (w i) (upd (pX M (w i)) j v)) := by
  have hi18 : i < 18 := by omega
  have hn : ∀ q, q < 18 → i ≠ q → pX (setX M (w i) (upd (pX M (w i)) j v)) (w q) = pX M (w q) := fun q hq e => va_up_ne _ _ (h.ne hq hi18 e.symm)
  have g10 := hn 10 (by decide) (by omega)
  have e1 := hn 1 (by decide)
  have e5 := hn 5 (by decide)
  have e15 := hn 15 (by decide)
  obtain ⟨a, b, c, d1, d2, d3, d4⟩ := h
  refine ⟨a, b, c, ?_, ?_, ?_, by rw [g10]; exact d4⟩
  · rcases hi with rfl | rfl | rfl
    · exact mV_up d1 hv
    · unfold mV; rw [e1 (by decide)]; exact d1
    · unfold mV; rw [e1 (by decide)]; exact d1
  · rcases hi with rfl | rfl | rfl
    · unfold mV; rw [e5 (by decide)]; exact d2
    · exact mV_up d2 hv
    · unfold mV; rw [e5 (by decide)]; exact d2
  · rcases hi with rfl | rfl | rfl
    · unfold mV; rw [e15 (by decide)]; exact d3
    · unfold mV; rw [e15 (by decide)]; exact d3
    · exact mV_up d3 hv
theorem Mk.v {w : Nat → Nat} {M N : wPS} {i j : Nat} {v : Int32} (h : Mk w M N) (hi : i = 1 ∨ i = 5 ∨ i = 15) (hv : ∃ q, q < (if i = 1 then 4 else 6) ∧ v = nI q) : Mk w M (setX N (w i) (upd (pX N (w i)) j v)) := by
  obtain ⟨⟨k0, k1, k2, k3, k4, k5, k6⟩, k7, k8⟩ := h
  have hn : ∀ q, q < 18 → i ≠ q → pX (setX N (w i) (upd (pX N (w i)) j v)) (w q) = pX N (w q) := fun q hq e => va_up_ne _ _ (k0.ne hq (by omega) e.symm)
  exact ⟨⟨k0.v hi hv, k1, k2, k3, (hn 10 (by decide) (by omega)).trans k4, (hn 11 (by decide) (by omega)).trans k5, (hn 12 (by decide) (by omega)).trans k6⟩, k7, k8⟩
theorem Mr.thr {w : Nat → Nat} {M N : wPS} {v : Int32} (h : Mr w M N) : Mr w M (setF N 100 (w 0) v) := by
  obtain ⟨k0, k1, k2, k3, k4, k5, k6⟩ := h
  exact ⟨k0.f (by decide), (uF_of (Or.inl (by decide))).trans k1, (uF_of (Or.inl (by decide))).trans k2, (uF_of (Or.inl (by decide))).trans k3, k4, k5, k6⟩
/-- a number below another that is one less -/
theorem kixm {n x : Int32} {m N : Nat} (hx : x = nI m) (hm : m ≤ N) (hN : N < 2 ^ 30) (h0 : ¬ n < 0) (h1 : ¬ x - 1 < n) : ∃ j, j < m ∧ n = nI j := by
  rcases Nat.eq_zero_or_pos m with e | e
  · rw [hx, e] at h1
    exact absurd (Int32.lt_of_lt_of_le (show (nI 0 - 1 : Int32) < 0 by decide) (Int32.not_lt.mp h0)) h1
  · obtain ⟨q, rfl⟩ : ∃ q, m = q + 1 := ⟨m - 1, by omega⟩
    rw [hx, show nI (q + 1) - 1 = nI q by rw [← nI_1]; exact Int32.add_sub_cancel _ _] at h1
    exact (kix (M := nI (q + 1)) (N := q + 1) rfl (by omega) h0 (fun c => h1 (Int32.lt_of_lt_of_le (nI_lt (by omega) (by omega)) c)))
theorem Mr.swap {w : Nat → Nat} {S : wPS} {q : Nat} {f : Nat → Int32} {v : Int32} (h : MI w S) (hq : q = 11 ∨ q = 12) : Mr w (setX S (w q) f) (setX (setF S 100 (w 0) v) (w q) f) :=
  ⟨(h.f (by decide)).x (by omega) (by omega) (by omega) (by omega) (by omega), show pF (setF S 100 (w 0) v) 101 (w 0) = pF S 101 (w 0) from uF_of (Or.inl (by decide)), show pF (setF S 100 (w 0) v) 103 (w 0) = pF S 103 (w 0) from uF_of (Or.inl (by decide)), show pF (setF S 100 (w 0) v) 104 (w 0) = pF S 104 (w 0) from uF_of (Or.inl (by decide)), rfl, rfl, rfl⟩
theorem MI.o {w : Nat → Nat} {M : wPS} {v : Int32} {q : Nat} (h : MI w M) (hv : v = nI q) (hq : q ≤ 12) : MI w (setF M 102 (w 0) v) := by
  obtain ⟨a, b, ⟨c, d⟩, e⟩ := h
  exact ⟨a, b, ⟨by rw [uF_of (Or.inl (by decide))]; exact c, q, hq, by rw [uF_at]; exact hv⟩, e⟩
theorem MI.a {w : Nat → Nat} {M : wPS} {v : Int32} {q : Nat} (h : MI w M) (hv : v = nI q) (hq : q ≤ 6) : MI w (setF M 101 (w 0) v) := by
  obtain ⟨a, b, ⟨c, d⟩, e⟩ := h
  exact ⟨a, b, ⟨⟨q, hq, by rw [uF_at]; exact hv⟩, by rw [uF_of (Or.inl (by decide))]; exact d⟩, e⟩
theorem Mk.o {w : Nat → Nat} {M N : wPS} {v : Int32} {q : Nat} (h : Mk w M N) (hv : v = nI q) (hq : q ≤ 12) : Mr w M (setF N 102 (w 0) v) ∧ pF (setF N 102 (w 0) v) 100 (w 0) = pF M 100 (w 0) := by
  obtain ⟨⟨k0, k1, k2, k3, k4, k5, k6⟩, k7, k8⟩ := h
  exact ⟨⟨k0.o hv hq, (uF_of (Or.inl (by decide))).trans k1, (uF_of (Or.inl (by decide))).trans k2, (uF_of (Or.inl (by decide))).trans k3, k4, k5, k6⟩, (uF_of (Or.inl (by decide))).trans k7⟩
/-- .. but the number of articles -/
def Mq (w : Nat → Nat) (M N : wPS) : Prop := MI w N ∧ pF N 103 (w 0) = pF M 103 (w 0) ∧ pF N 104 (w 0) = pF M 104 (w 0) ∧ pX N (w 10) = pX M (w 10) ∧ pX N (w 11) = pX M (w 11) ∧ pX N (w 12) = pX M (w 12)
theorem Mk.a {w : Nat → Nat} {M N : wPS} {v : Int32} {q : Nat} (h : Mr w M N) (hv : v = nI q) (hq : q ≤ 6) : Mq w M (setF N 101 (w 0) v) := by
  obtain ⟨k0, k1, k2, k3, k4, k5, k6⟩ := h
  exact ⟨k0.a hv hq, (uF_of (Or.inl (by decide))).trans k2, (uF_of (Or.inl (by decide))).trans k3, k4, k5, k6⟩
theorem k34 {x : Int32} : 3 < x ↔ 4 ≤ x := by
  rw [Int32.lt_iff_toInt_lt, Int32.le_iff_toInt_le]
  rw [show (3 : Int32).toInt = 3 from rfl, show (4 : Int32).toInt = 4 from rfl]
  omega
theorem k23 {x : Int32} : 2 < x ↔ 3 ≤ x := by
  rw [Int32.lt_iff_toInt_lt, Int32.le_iff_toInt_le]
  rw [show (2 : Int32).toInt = 2 from rfl, show (3 : Int32).toInt = 3 from rfl]
  omega
theorem k12 {x : Int32} : 1 < x ↔ ¬ x < 2 := by
  rw [Int32.lt_iff_toInt_lt, Int32.lt_iff_toInt_lt]
  rw [show (2 : Int32).toInt = 2 from rfl, show (1 : Int32).toInt = 1 from rfl]
  omega
theorem kbo_vp {v : Int32} (h : kBo v) : vp_nar .boolean v = v := by
  unfold vp_nar
  rw [kbo_nar h]
theorem kbo_up {f : Nat → Int32} {j : Nat} {v : Int32} (h : ∀ i, kBo (f i)) (hv : kBo v) (i : Nat) : kBo (upd f j v i) := by
  unfold upd
  split
  · exact hv
  · exact h i
theorem MI.b {w : Nat → Nat} {M : wPS} {f : Nat → Int32} (h : MI w M) (hf : ∀ i, kBo (f i)) : MI w (setX M (w 10) f) := by
  have hn : ∀ j, j < 18 → 10 ≠ j → pX (setX M (w 10) f) (w j) = pX M (w j) := fun j hj e => va_up_ne _ _ (h.ne hj (by decide) e.symm)
  have g1 := hn 1 (by decide) (by decide)
  have g5 := hn 5 (by decide) (by decide)
  have g15 := hn 15 (by decide) (by decide)
  obtain ⟨a, b, c, d1, d2, d3, d4⟩ := h
  refine ⟨a, b, c, ?_, ?_, ?_, ?_⟩
  · unfold mV; rw [g1]; exact d1
  · unfold mV; rw [g5]; exact d2
  · unfold mV; rw [g15]; exact d3
  · intro i
    show kBo (va_up (pX M) (w 10) f (w 10) i)
    rw [va_up_self]
    exact hf i
theorem Mr.swapb {w : Nat → Nat} {S : wPS} {f : Nat → Int32} {v : Int32} (h : MI w S) (hf : ∀ i, kBo (f i)) : Mr w (setX S (w 10) f) (setX (setF S 100 (w 0) v) (w 10) f) :=
  ⟨(h.f (by decide)).b hf, show pF (setF S 100 (w 0) v) 101 (w 0) = pF S 101 (w 0) from uF_of (Or.inl (by decide)), show pF (setF S 100 (w 0) v) 103 (w 0) = pF S 103 (w 0) from uF_of (Or.inl (by decide)), show pF (setF S 100 (w 0) v) 104 (w 0) = pF S 104 (w 0) from uF_of (Or.inl (by decide)), rfl, rfl, rfl⟩
theorem Mr.min {w : Nat → Nat} {S T : wPS} {u v : Int32} (h : Mr w (setF S 104 (w 0) u) T) : Mr w (setF S 104 (w 0) v) (setF T 104 (w 0) v) := by
  obtain ⟨k0, k1, k2, k3, k4, k5, k6⟩ := h
  refine ⟨k0.f (by decide), ?_, ?_, ?_, k4, k5, k6⟩
  · rw [uF_of (Or.inl (by decide)), uF_of (Or.inl (by decide))]; rw [uF_of (Or.inl (by decide))] at k1; exact k1
  · rw [uF_of (Or.inl (by decide)), uF_of (Or.inl (by decide))]; rw [uF_of (Or.inl (by decide))] at k2; exact k2
  · rw [uF_at, uF_at]
theorem Mr.self104 {w : Nat → Nat} {S T : wPS} (h : Mr w S T) : Mr w (setF S 104 (w 0) (pF S 104 (w 0) + nI 0)) T := by
  obtain ⟨k0, k1, k2, k3, k4, k5, k6⟩ := h
  refine ⟨k0, k1.trans (uF_of (Or.inl (by decide))).symm, k2.trans (uF_of (Or.inl (by decide))).symm, ?_, k4, k5, k6⟩
  rw [uF_at, k3]
  exact (Int32.add_zero _).symm
theorem kother {n x : Int32} {j : Nat} (hj : j < 2) (hn : n = nI j) (hx : x = 1 - n) : ∃ q, q < 2 ∧ x = nI q := by
  rcases (show j = 0 ∨ j = 1 by omega) with rfl | rfl
  · exact ⟨1, by decide, by rw [hx, hn]; rfl⟩
  · exact ⟨0, by decide, by rw [hx, hn]; rfl⟩
/-- the model is new -/
def MFr (w : Nat → Nat) (S : wPS) : Prop := (∀ k, 100 ≤ k → k < 107 → pF S k (w 0) = 0) ∧ (∀ i, i < 4 → pX S (w 10) i = 0 ∧ pX S (w 11) i = 0) ∧ (∀ i, i < 3 → pX S (w 12) i = 1439) ∧ ∀ i, i < 2 → pX S (w 13) i = 0 ∧ pX S (w 14) i = 0
