/-! what a planner's pool is: the places z 0 .. z 14 (0 the planner, 1 its row of aisles, 2-5 aisles, 6 cut-offs, 7 row of robots, 8, 9 robots, 10 articles, 11 lines, 12 log, 13 numbers, 14 signs) -/
def kzK : Nat → Nat := fun i => match i with | 0 => 5 | 1 => 11 | 2 => 0 | 3 => 0 | 4 => 0 | 5 => 0 | 6 => 9 | 7 => 12 | 8 => 3 | 9 => 3 | 10 => 7 | 11 => 7 | 12 => 4 | 13 => 9 | _ => 8
def kCh (v : Int32) : Prop := narrow .char (.int v) = .int v ∧ fits .char (.int v) = true
def kBo (v : Int32) : Prop := v = 0 ∨ v = 1
/-- the list q holds n things of kind k -/
def LI (S : wPS) (e0 q k n : Nat) : Prop := pF S 72 q = nI n ∧ ((n = 0 ∧ pG S 71 q = some e0) ∨ ∃ d : Nat, pG S 71 q = some d ∧ Ob S 13 d ∧ (pN S d = 10 ∨ pN S d = 15) ∧ n ≤ pN S d ∧ ∀ i, i < n → ∃ b : Nat, pY S d i = some b ∧ Ob S k b)
def kI1 (z : Nat → Nat) (S : wPS) : Prop := (∀ i, i < 15 → Ob S (kzK i) (z i)) ∧ ∀ i j, i < 15 → j < 15 → z i = z j → i = j
def kI2 (z : Nat → Nat) (S : wPS) : Prop := pG S 50 (z 0) = some (z 1) ∧ pG S 51 (z 0) = some (z 6) ∧ pG S 52 (z 0) = some (z 7) ∧ pG S 53 (z 0) = some (z 10) ∧ pG S 54 (z 0) = some (z 11) ∧ pG S 55 (z 0) = some (z 12) ∧ pG S 40 (z 12) = some (z 13) ∧ pG S 41 (z 12) = some (z 14)
def kI3 (z : Nat → Nat) (S : wPS) : Prop := pN S (z 1) = 4 ∧ (∀ i, i < 4 → pY S (z 1) i = some (z (2 + i))) ∧ pN S (z 6) = 3 ∧ pN S (z 7) = 2 ∧ (∀ i, i < 2 → pY S (z 7) i = some (z (8 + i))) ∧ pN S (z 13) = 516 ∧ pN S (z 14) = 516
def kI4 (z : Nat → Nat) (S : wPS) : Prop := (∃ c, c ≤ 516 ∧ pF S 42 (z 12) = nI c) ∧ (∀ i, kCh (pX S (z 14) i)) ∧ (∀ i, i < 4 → kBo (pF S 1 (z (2 + i)))) ∧ ∀ a, Ob S 2 a → kCh (pF S 24 a)
def kI5 (z : Nat → Nat) (e0 : Nat) (S : wPS) : Prop := (∃ n, n ≤ 6 ∧ LI S e0 (z 10) 1 n) ∧ (∃ n, n ≤ 12 ∧ LI S e0 (z 11) 2 n) ∧ (∀ d, pG S 71 (z 10) = some d → pG S 71 (z 11) = some d → d = e0) ∧ e0 ∉ pL S
def kI6 (z : Nat → Nat) (S : wPS) : Prop := (∀ a, Ob S 1 a → ∃ j, j < 4 ∧ pG S 10 a = some (z (2 + j))) ∧ (∀ a, Ob S 2 a → ∃ b, pG S 21 a = some b ∧ Ob S 1 b) ∧ (∀ a, Ob S 3 a → pG S 30 a = none ∨ ∃ b, pG S 30 a = some b ∧ Ob S 1 b)
def Inv (z : Nat → Nat) (e0 : Nat) (S : wPS) : Prop := kI1 z S ∧ kI2 z S ∧ kI3 z S ∧ kI4 z S ∧ kI5 z e0 S ∧ kI6 z S
/-- only what no tracked call shows has changed -/
def Kq (z : Nat → Nat) (S T : wPS) : Prop := pL T = pL S ∧ pK T = pK S ∧ (∀ k, k ≠ 30 → pG T k = pG S k) ∧ (∀ a, pG T 30 a = pG S 30 a ∨ pG T 30 a = none) ∧ pN T = pN S ∧ pY T = pY S ∧ (∀ i, pX T (z 6) i = pX S (z 6) i) ∧ (∀ i, kCh (pX T (z 14) i)) ∧ pF T 72 = pF S 72 ∧ (∀ a, Ob S 2 a → kCh (pF T 24 a)) ∧ pF T 1 = pF S 1 ∧ pF T 2 = pF S 2 ∧ (∃ c, c ≤ 516 ∧ pF T 42 (z 12) = nI c)
def Kp (z : Nat → Nat) (S T : wPS) : Prop := Kq z S T ∧ pF T 56 = pF S 56 ∧ pF T 57 = pF S 57
theorem Ob.eq {S T : wPS} {k a : Nat} (h1 : pL T = pL S) (h2 : pK T = pK S) (h : Ob S k a) : Ob T k a := by
  obtain ⟨a1, a2⟩ := h
  exact ⟨by rw [h1]; exact a1, by rw [h2]; exact a2⟩
theorem Kq.ob {z : Nat → Nat} {S T : wPS} {k a : Nat} (h : Kq z S T) (o : Ob S k a) : Ob T k a := o.eq h.1 h.2.1
theorem Kq.bo {z : Nat → Nat} {S T : wPS} {k a : Nat} (h : Kq z S T) (o : Ob T k a) : Ob S k a := o.eq h.1.symm h.2.1.symm
theorem LI.keep {z : Nat → Nat} {S T : wPS} {e0 q k n : Nat} (K : Kq z S T) (h : LI S e0 q k n) : LI T e0 q k n := by
  have hob : ∀ {k a : Nat}, Ob S k a → Ob T k a := fun o => K.ob o
  obtain ⟨-, -, h3, -, h5, h6, -, -, h9, -⟩ := K
  obtain ⟨a1, a2⟩ := h
  refine ⟨by rw [h9]; exact a1, ?_⟩
  rcases a2 with ⟨b1, b2⟩ | ⟨d, b1, b2, b3, b4, b5⟩
  · exact Or.inl ⟨b1, by rw [h3 71 (by decide)]; exact b2⟩
  · exact Or.inr ⟨d, by rw [h3 71 (by decide)]; exact b1, hob b2, by rw [h5]; exact b3, by rw [h5]; exact b4, fun i hi => (b5 i hi).elim fun b c => ⟨b, by rw [h6]; exact c.1, hob c.2⟩⟩
theorem Inv.keep {z : Nat → Nat} {e0 : Nat} {S T : wPS} (h : Inv z e0 S) (K : Kq z S T) : Inv z e0 T := by
  obtain ⟨⟨a1, a2⟩, b, c, d, ⟨⟨n1, f1, f2⟩, ⟨n2, f3, f4⟩, f5, f6⟩, ⟨g1, g2, g3⟩⟩ := h
  have hob : ∀ {k a : Nat}, Ob S k a → Ob T k a := fun o => K.ob o
  have hbo : ∀ {k a : Nat}, Ob T k a → Ob S k a := fun o => K.bo o
  obtain ⟨l1, l2, l3, l4⟩ := d
  have L1 := LI.keep K f2
  have L2 := LI.keep K f4
  obtain ⟨h1, h2, h3, h4, h5, h6, h7, h8, h9, h10, h11, h12, h13⟩ := K
  refine ⟨⟨fun i hi => hob (a1 i hi), a2⟩, ?_, ?_, ⟨h13, h8, ?_, fun a ha => h10 a (hbo ha)⟩, ⟨⟨n1, f1, L1⟩, ⟨n2, f3, L2⟩, ?_, by rw [h1]; exact f6⟩, ⟨?_, ?_, ?_⟩⟩
  · unfold kI2
    rw [h3 50 (by decide), h3 51 (by decide), h3 52 (by decide), h3 53 (by decide), h3 54 (by decide), h3 55 (by decide), h3 40 (by decide), h3 41 (by decide)]
    exact b
  · unfold kI3
    rw [h5, h6]
    exact c
  · intro i hi
    rw [h11]
    exact l3 i hi
  · rw [h3 71 (by decide)]
    exact f5
  · intro a ha
    rw [h3 10 (by decide)]
    exact g1 a (hbo ha)
  · intro a ha
    rw [h3 21 (by decide)]
    obtain ⟨b, c1, c2⟩ := g2 a (hbo ha)
    exact ⟨b, c1, hob c2⟩
  · intro a ha
    rcases h4 a with e | e
    · rw [e]
      rcases g3 a (hbo ha) with q | ⟨b, c1, c2⟩
      · exact Or.inl q
      · exact Or.inr ⟨b, c1, hob c2⟩
    · exact Or.inl e
theorem Inv.kq {z : Nat → Nat} {e0 : Nat} {S : wPS} (h : Inv z e0 S) : Kq z S S := ⟨rfl, rfl, fun _ _ => rfl, fun _ => Or.inl rfl, rfl, rfl, fun _ => rfl, h.2.2.2.1.2.1, rfl, h.2.2.2.1.2.2.2, rfl, rfl, h.2.2.2.1.1⟩
theorem Inv.kp {z : Nat → Nat} {e0 : Nat} {S : wPS} (h : Inv z e0 S) : Kp z S S := ⟨h.kq, rfl, rfl⟩
theorem Kq.trans {z : Nat → Nat} {S T U : wPS} (h : Kq z S T) (k : Kq z T U) : Kq z S U := by
  have hob : ∀ {k a : Nat}, Ob S k a → Ob T k a := fun o => h.ob o
  obtain ⟨h1, h2, h3, h4, h5, h6, h7, h8, h9, h10, h11, h12, h13⟩ := h
  obtain ⟨k1, k2, k3, k4, k5, k6, k7, k8, k9, k10, k11, k12, k13⟩ := k
  refine ⟨k1.trans h1, k2.trans h2, fun j hj => (k3 j hj).trans (h3 j hj), fun a => ?_, k5.trans h5, k6.trans h6, fun i => (k7 i).trans (h7 i), k8, k9.trans h9, fun a ha => k10 a (hob ha), k11.trans h11, k12.trans h12, k13⟩
  rcases k4 a with e | e
  · rw [e]; exact h4 a
  · exact Or.inr e
theorem Kp.trans {z : Nat → Nat} {S T U : wPS} (h : Kp z S T) (k : Kp z T U) : Kp z S U := ⟨h.1.trans k.1, k.2.1.trans h.2.1, k.2.2.trans h.2.2⟩
/-- one whole-number field of no tracked kind is written -/
theorem kq_setF {z : Nat → Nat} {S T : wPS} {k a : Nat} {v : Int32} (h : Kq z S T) (h1 : k ≠ 72 ∧ k ≠ 24 ∧ k ≠ 1 ∧ k ≠ 2 ∧ k ≠ 42) : Kq z S (setF T k a v) := by
  obtain ⟨e1, e2, e3, e4, e5⟩ := h1
  have hf : ∀ j, j ≠ k → pF (setF T k a v) j = pF T j := fun j hj => va_up_ne _ _ hj
  obtain ⟨h1, h2, h3, h4, h5, h6, h7, h8, h9, h10, h11, h12, h13⟩ := h
  exact ⟨h1, h2, h3, h4, h5, h6, h7, h8, (hf 72 e1.symm).trans h9, fun b hb => by rw [hf 24 e2.symm]; exact h10 b hb, (hf 1 e3.symm).trans h11, (hf 2 e4.symm).trans h12, by rw [hf 42 e5.symm]; exact h13⟩
theorem kp_setF {z : Nat → Nat} {S T : wPS} {k a : Nat} {v : Int32} (h : Kp z S T) (h1 : k ≠ 72 ∧ k ≠ 24 ∧ k ≠ 1 ∧ k ≠ 2 ∧ k ≠ 42) (h2 : k ≠ 56 ∧ k ≠ 57) : Kp z S (setF T k a v) := ⟨kq_setF h.1 h1, (va_up_ne _ _ h2.1.symm).trans h.2.1, (va_up_ne _ _ h2.2.symm).trans h.2.2⟩
/-- the state of a line is written -/
theorem kp_setSt {z : Nat → Nat} {S T : wPS} {a : Nat} {v : Int32} (h : Kp z S T) (hv : kCh v) : Kp z S (setF T 24 a v) := by
  obtain ⟨⟨h1, h2, h3, h4, h5, h6, h7, h8, h9, h10, h11, h12, h13⟩, g1, g2⟩ := h
  refine ⟨⟨h1, h2, h3, h4, h5, h6, h7, h8, h9, fun b hb => ?_, h11, h12, h13⟩, g1, g2⟩
  by_cases e : b = a
  · rw [e, uF_at]; exact hv
  · rw [uF_ne e]; exact h10 b hb
theorem kp_setJ {z : Nat → Nat} {S T : wPS} {a : Nat} {v : Int64} (h : Kp z S T) : Kp z S (setJ T a v) := h
/-- a robot becomes idle -/
theorem kp_idle {z : Nat → Nat} {S T : wPS} {a : Nat} (h : Kp z S T) : Kp z S (setG T 30 a none) := by
  obtain ⟨⟨h1, h2, h3, h4, h5, h6, h7, h8, h9, h10, h11, h12, h13⟩, g1, g2⟩ := h
  refine ⟨⟨h1, h2, fun k hk => (show pG (setG T 30 a none) k = pG T k from va_up_ne _ _ hk).trans (h3 k hk), fun b => ?_, h5, h6, h7, h8, h9, h10, h11, h12, h13⟩, g1, g2⟩
  by_cases e : b = a
  · exact Or.inr (by rw [e]; exact uG_at)
  · rw [uG_ne e]; exact h4 b
theorem obO_old {S : wPS} {q kd k a : Nat} (hq : q ∉ pL S) (h : Ob S k a) : Ob (newO S q kd) k a := ⟨List.mem_append_left _ h.1, (va_up_ne _ _ (fun e : a = q => hq (by rw [← e]; exact h.1))).trans h.2⟩
theorem obO_new {S : wPS} {q kd : Nat} : Ob (newO S q kd) kd q := ⟨List.mem_append_right _ List.mem_cons_self, va_up_self _ _ _⟩
theorem obA_old {S : wPS} {q kd n k a : Nat} (hq : q ∉ pL S) (h : Ob S k a) : Ob (newA S q kd n) k a := ⟨List.mem_append_left _ h.1, (va_up_ne _ _ (fun e : a = q => hq (by rw [← e]; exact h.1))).trans h.2⟩
theorem obA_new {S : wPS} {q kd n : Nat} : Ob (newA S q kd n) kd q := ⟨List.mem_append_right _ List.mem_cons_self, va_up_self _ _ _⟩
theorem Inv.oa {z : Nat → Nat} {e0 : Nat} {S : wPS} (h : Inv z e0 S) {j : Nat} (hj : j < 4) : Ob S 0 (z (2 + j)) := by
  have h1 := h.1.1 (2 + j) (by omega)
  have : j = 0 ∨ j = 1 ∨ j = 2 ∨ j = 3 := by omega
  rcases this with rfl | rfl | rfl | rfl <;> exact h1
theorem Inv.or {z : Nat → Nat} {e0 : Nat} {S : wPS} (h : Inv z e0 S) {j : Nat} (hj : j < 2) : Ob S 3 (z (8 + j)) := by
  have h1 := h.1.1 (8 + j) (by omega)
  have : j = 0 ∨ j = 1 := by omega
  rcases this with rfl | rfl <;> exact h1
theorem kch_up {f : Nat → Int32} {i : Nat} {v : Int32} (h : ∀ i, kCh (f i)) (hv : kCh v) (j : Nat) : kCh (upd f i v j) := by
  unfold upd
  split
  · exact hv
  · exact h j
theorem kch_nar {v : Int32} (h : kCh v) : vp_nar .char v = v := by
  unfold vp_nar
  rw [h.1]
/-- the log is written at both rows, and counts on -/
theorem kp_write {z : Nat → Nat} {e0 : Nat} {S : wPS} {f : Nat → Int32} {i c : Nat} {sg v : Int32} (hI : Inv z e0 S) (hsg : kCh sg) (hc : c ≤ 516) (hv : v = nI c) : Kp z S (setF (setX (setX S (z 13) f) (z 14) (upd (pX (setX S (z 13) f) (z 14)) i (vp_nar .char sg))) 42 (z 12) v) := by
  have n13 : z 6 ≠ z 13 := fun h => absurd (hI.1.2 6 13 (by decide) (by decide) h) (by decide)
  have n14 : z 6 ≠ z 14 := fun h => absurd (hI.1.2 6 14 (by decide) (by decide) h) (by decide)
  have n34 : z 14 ≠ z 13 := fun h => absurd (hI.1.2 14 13 (by decide) (by decide) h) (by decide)
  have hr : ∀ a, a ≠ z 13 → a ≠ z 14 → pX (setF (setX (setX S (z 13) f) (z 14) (upd (pX (setX S (z 13) f) (z 14)) i (vp_nar .char sg))) 42 (z 12) v) a = pX S a := fun a h1 h2 => (va_up_ne _ _ h2).trans (va_up_ne _ _ h1)
  refine ⟨⟨rfl, rfl, fun _ _ => rfl, fun _ => Or.inl rfl, rfl, rfl, fun i => by rw [hr _ n13 n14], fun j => ?_, rfl, hI.2.2.2.1.2.2.2, rfl, rfl, ⟨c, hc, by rw [uF_at]; exact hv⟩⟩, rfl, rfl⟩
  have e : pX (setF (setX (setX S (z 13) f) (z 14) (upd (pX (setX S (z 13) f) (z 14)) i (vp_nar .char sg))) 42 (z 12) v) (z 14) = upd (pX S (z 14)) i sg := by
    show va_up _ (z 14) (upd (va_up (pX S) (z 13) f (z 14)) i (vp_nar .char sg)) (z 14) = _
    rw [va_up_self, kch_nar hsg, va_up_ne _ _ n34]
  rw [e]
  exact kch_up hI.2.2.2.1.2.1 hsg j
abbrev xI : String := "java/lang/IndexOutOfBoundsException"
abbrev xA : String := "java/lang/IllegalArgumentException"
abbrev xS : String := "java/lang/IllegalStateException"
abbrev xU : String := "java/lang/UnsupportedOperationException"
abbrev xN : String := "java/util/NoSuchElementException"
theorem kix {n M : Int32} {N : Nat} (hM : M = nI N) (hN : N < 2 ^ 31) (h0 : ¬ n < 0) (h1 : ¬ M ≤ n) : ∃ j, j < N ∧ n = nI j := by
  rcases pk_ix n hN with h | h | h
  · exact absurd h h0
  · exact absurd (by rw [hM]; exact h) h1
  · exact h
theorem kixlt {n M : Int32} {N : Nat} (hM : M = nI N) (hN : N < 2 ^ 31) (h0 : ¬ n < 0) (h1 : n < M) : ∃ j, j < N ∧ n = nI j := kix hM hN h0 (Int32.not_le.mpr h1)
theorem kbo1 {b : Bool} : kBo (if b then 1 else 0) := by cases b <;> simp [kBo]
theorem kbo_nar {v : Int32} (h : kBo v) : narrow .boolean (.int v) = .int v := by rcases h with rfl | rfl <;> rfl
theorem kbo_fit {v : Int32} (h : kBo v) : fits .boolean (.int v) = true := by rcases h with rfl | rfl <;> rfl
theorem Inv.lines {z : Nat → Nat} {e0 : Nat} {S : wPS} (h : Inv z e0 S) : ∃ n, n ≤ 12 ∧ LI S e0 (z 11) 2 n := h.2.2.2.2.1.2.1
theorem Inv.arts {z : Nat → Nat} {e0 : Nat} {S : wPS} (h : Inv z e0 S) : ∃ n, n ≤ 6 ∧ LI S e0 (z 10) 1 n := h.2.2.2.2.1.1
theorem Inv.bo {z : Nat → Nat} {e0 : Nat} {S : wPS} (h : Inv z e0 S) {j : Nat} (hj : j < 4) : kBo (pF S 1 (z (2 + j))) := h.2.2.2.1.2.2.1 j hj
theorem Inv.ch {z : Nat → Nat} {e0 : Nat} {S : wPS} (h : Inv z e0 S) {a : Nat} (ha : Ob S 2 a) : kCh (pF S 24 a) := h.2.2.2.1.2.2.2 a ha
theorem Inv.sg {z : Nat → Nat} {e0 : Nat} {S : wPS} (h : Inv z e0 S) (i : Nat) : kCh (pX S (z 14) i) := h.2.2.2.1.2.1 i
theorem kmin516 {x1 x2 x3 : Int32} (e2 : x2 = if (516 : Int32) < 516 then 516 else 516) (e3 : x3 = if x2 < x1 then x2 else x1) : x3 ≤ 516 := by
  have e : x2 = 516 := by rw [e2]; rfl
  rw [e] at e3
  rw [e3]
  by_cases h : (516 : Int32) < x1
  · rw [if_pos h]; decide
  · rw [if_neg h]; exact Int32.not_lt.mp h
