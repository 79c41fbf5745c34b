/-! single writes that keep a planner's shape -/
theorem Inv.setU {z : Nat → Nat} {e0 : Nat} {S : wPS} {k a : Nat} {v : Int32} (h : Inv z e0 S) (h1 : k ≠ 72 ∧ k ≠ 24 ∧ k ≠ 1 ∧ k ≠ 42) : Inv z e0 (setF S k a v) := by
  obtain ⟨e1, e2, e3, e4⟩ := h1
  have hf : ∀ j, j ≠ k → pF (setF S k a v) j = pF S j := fun j hj => va_up_ne _ _ hj
  obtain ⟨k1, k2, k3, k4, k5, k6⟩ := h
  refine ⟨k1, k2, k3, ?_, ?_, k6⟩
  · unfold kI4
    rw [hf 42 e4.symm, hf 1 e3.symm, hf 24 e2.symm]
    exact k4
  · unfold kI5 LI
    rw [hf 72 e1.symm]
    exact k5
theorem Inv.setBl {z : Nat → Nat} {e0 : Nat} {S : wPS} {a : Nat} {v : Int32} (h : Inv z e0 S) (hv : kBo v) : Inv z e0 (setF S 1 a v) := by
  have hf : ∀ j, j ≠ 1 → pF (setF S 1 a v) j = pF S j := fun j hj => va_up_ne _ _ hj
  obtain ⟨k1, k2, k3, k4, k5, k6⟩ := h
  refine ⟨k1, k2, k3, ?_, ?_, k6⟩
  · unfold kI4
    rw [hf 42 (by decide), hf 24 (by decide)]
    refine ⟨k4.1, k4.2.1, fun i hi => ?_, k4.2.2.2⟩
    by_cases e : z (2 + i) = a
    · rw [e, uF_at]; exact hv
    · rw [uF_ne e]; exact k4.2.2.1 i hi
  · unfold kI5 LI
    rw [hf 72 (by decide)]
    exact k5
theorem Inv.setC {z : Nat → Nat} {e0 : Nat} {S : wPS} {f : Nat → Int32} (h : Inv z e0 S) : Inv z e0 (setX S (z 6) f) := by
  have n14 : z 14 ≠ z 6 := fun e => absurd (h.1.2 14 6 (by decide) (by decide) e) (by decide)
  obtain ⟨k1, k2, k3, k4, k5, k6⟩ := h
  refine ⟨k1, k2, k3, ?_, k5, k6⟩
  unfold kI4
  rw [show pX (setX S (z 6) f) (z 14) = pX S (z 14) from va_up_ne _ _ n14]
  exact k4
theorem Inv.setRob {z : Nat → Nat} {e0 : Nat} {S : wPS} {a b : Nat} (h : Inv z e0 S) (hb : Ob S 1 b) : Inv z e0 (setG S 30 a (some b)) := by
  have hf : ∀ j, j ≠ 30 → pG (setG S 30 a (some b)) j = pG S j := fun j hj => va_up_ne _ _ hj
  obtain ⟨k1, k2, k3, k4, k5, k6⟩ := h
  refine ⟨k1, ?_, k3, k4, ?_, ?_⟩
  · unfold kI2
    rw [hf 50 (by decide), hf 51 (by decide), hf 52 (by decide), hf 53 (by decide), hf 54 (by decide), hf 55 (by decide), hf 40 (by decide), hf 41 (by decide)]
    exact k2
  · unfold kI5 LI
    rw [hf 71 (by decide)]
    exact k5
  · unfold kI6
    rw [hf 10 (by decide), hf 21 (by decide)]
    refine ⟨k6.1, k6.2.1, fun c hc => ?_⟩
    by_cases e : c = a
    · rw [e, uG_at]; exact Or.inr ⟨b, rfl, hb⟩
    · rw [uG_ne e]; exact k6.2.2 c hc
/-- a thing q of kind kd is new -/
def NewO (S T : wPS) (q kd : Nat) : Prop := q ∉ pL S ∧ pL T = pL S ++ [q] ∧ pK T = va_up (pK S) q kd ∧ (∀ j a, a ≠ q → pF T j a = pF S j a) ∧ (∀ j a, a ≠ q → pG T j a = pG S j a) ∧ (∀ a, a ≠ q → pJ T a = pJ S a) ∧ pN T = pN S ∧ pX T = pX S ∧ pY T = pY S
theorem NewO.mk {S : wPS} {q kd : Nat} (h : q ∉ pL S) : NewO S (newO S q kd) q kd := ⟨h, rfl, rfl, fun _ _ e => va_up_ne _ _ e, fun _ _ e => va_up_ne _ _ e, fun _ e => va_up_ne _ _ e, rfl, rfl, rfl⟩
theorem NewO.f {S T : wPS} {q kd j : Nat} {v : Int32} (h : NewO S T q kd) : NewO S (setF T j q v) q kd := ⟨h.1, h.2.1, h.2.2.1, fun i a e => (uF_ne e i).trans (h.2.2.2.1 i a e), h.2.2.2.2.1, h.2.2.2.2.2.1, h.2.2.2.2.2.2.1, h.2.2.2.2.2.2.2.1, h.2.2.2.2.2.2.2.2⟩
theorem NewO.g {S T : wPS} {q kd j : Nat} {v : Option Nat} (h : NewO S T q kd) : NewO S (setG T j q v) q kd := ⟨h.1, h.2.1, h.2.2.1, h.2.2.2.1, fun i a e => (uG_ne e i).trans (h.2.2.2.2.1 i a e), h.2.2.2.2.2.1, h.2.2.2.2.2.2.1, h.2.2.2.2.2.2.2.1, h.2.2.2.2.2.2.2.2⟩
theorem NewO.ne {S T : wPS} {q kd k a : Nat} (h : NewO S T q kd) (o : Ob S k a) : a ≠ q := fun e => h.1 (by rw [← e]; exact o.1)
theorem NewO.ob {S T : wPS} {q kd k a : Nat} (h : NewO S T q kd) (o : Ob S k a) : Ob T k a := ⟨by rw [h.2.1]; exact List.mem_append_left _ o.1, by rw [h.2.2.1, va_up_ne _ _ (h.ne o)]; exact o.2⟩
theorem NewO.self {S T : wPS} {q kd : Nat} (h : NewO S T q kd) : Ob T kd q := ⟨by rw [h.2.1]; exact List.mem_append_right _ List.mem_cons_self, by rw [h.2.2.1, va_up_self]⟩
theorem NewO.bo {S T : wPS} {q kd k a : Nat} (h : NewO S T q kd) (o : Ob T k a) : Ob S k a ∨ (a = q ∧ k = kd) := by
  obtain ⟨o1, o2⟩ := o
  rw [h.2.1] at o1
  rw [h.2.2.1] at o2
  rcases List.mem_append.mp o1 with h1 | h1
  · exact Or.inl ⟨h1, by rw [va_up_ne _ _ (fun e : a = q => h.1 (by rw [← e]; exact h1))] at o2; exact o2⟩
  · have e := List.mem_singleton.mp h1
    rw [e, va_up_self] at o2
    exact Or.inr ⟨e, o2.symm⟩
theorem NewO.li {S T : wPS} {q kd e0 a k n : Nat} (h : NewO S T q kd) (ha : Ob S 7 a) (L : LI S e0 a k n) : LI T e0 a k n := by
  obtain ⟨l1, l2⟩ := L
  have hne := h.ne ha
  have hob : ∀ {k a}, Ob S k a → Ob T k a := fun o => h.ob o
  obtain ⟨-, -, -, hF, hG, -, hN, -, hY⟩ := h
  refine ⟨by rw [hF _ _ hne]; exact l1, ?_⟩
  rcases l2 with ⟨b1, b2⟩ | ⟨d, b1, b2, b3, b4, b5⟩
  · exact Or.inl ⟨b1, by rw [hG _ _ hne]; exact b2⟩
  · exact Or.inr ⟨d, by rw [hG _ _ hne]; exact b1, hob b2, by rw [hN]; exact b3, by rw [hN]; exact b4, fun i hi => (b5 i hi).elim fun b c => ⟨b, by rw [hY]; exact c.1, hob c.2⟩⟩
theorem Inv.new {z : Nat → Nat} {e0 : Nat} {S T : wPS} {q kd : Nat} (h : Inv z e0 S) (N : NewO S T q kd) (he : e0 ≠ q) (hk : (kd = 2 ∧ kCh (pF T 24 q) ∧ ∃ b, pG T 21 q = some b ∧ Ob S 1 b) ∨ (kd = 1 ∧ ∃ j, j < 4 ∧ pG T 10 q = some (z (2 + j)))) : Inv z e0 T := by
  have I := h
  obtain ⟨⟨a1, a2⟩, b, c, d, ⟨⟨n1, f1, f2⟩, ⟨n2, f3, f4⟩, f5, f6⟩, ⟨g1, g2, g3⟩⟩ := h
  have hz : ∀ i, i < 15 → z i ≠ q := fun i hi => N.ne (a1 i hi)
  have L1 := N.li (a1 10 (by decide)) f2
  have L2 := N.li (a1 11 (by decide)) f4
  have hob : ∀ {k a}, Ob S k a → Ob T k a := fun o => N.ob o
  have hbo : ∀ {k a}, Ob T k a → Ob S k a ∨ (a = q ∧ k = kd) := fun o => N.bo o
  have hne : ∀ {k a}, Ob S k a → a ≠ q := fun o => N.ne o
  obtain ⟨hq, hL, -, hF, hG, -, hN, hX, hY⟩ := N
  refine ⟨⟨fun i hi => hob (a1 i hi), a2⟩, ?_, ?_, ⟨?_, ?_, ?_, ?_⟩, ⟨⟨n1, f1, L1⟩, ⟨n2, f3, L2⟩, ?_, ?_⟩, ⟨fun a ha => ?_, fun a ha => ?_, fun a ha => ?_⟩⟩
  · unfold kI2
    rw [hG _ _ (hz 0 (by decide)), hG _ _ (hz 0 (by decide)), hG _ _ (hz 0 (by decide)), hG _ _ (hz 0 (by decide)), hG _ _ (hz 0 (by decide)), hG _ _ (hz 0 (by decide)), hG _ _ (hz 12 (by decide)), hG _ _ (hz 12 (by decide))]
    exact b
  · unfold kI3
    rw [hN, hY]
    exact c
  · rw [hF _ _ (hz 12 (by decide))]; exact d.1
  · rw [hX]; exact d.2.1
  · intro i hi
    rw [hF _ _ (hz (2 + i) (by omega))]; exact d.2.2.1 i hi
  · intro a ha
    rcases hbo ha with o | ⟨e1, e2⟩
    · rw [hF _ _ (hne o)]; exact d.2.2.2 a o
    · rcases hk with ⟨-, k1, -⟩ | ⟨k1, -⟩
      · rw [e1]; exact k1
      · exact absurd (e2.trans k1) (by decide)
  · rw [hG _ _ (hz 10 (by decide)), hG _ _ (hz 11 (by decide))]
    exact f5
  · rw [hL]
    intro hm
    rcases List.mem_append.mp hm with h1 | h1
    · exact f6 h1
    · exact he (List.mem_singleton.mp h1)
  · rcases hbo ha with o | ⟨e1, e2⟩
    · rw [hG _ _ (hne o)]; exact g1 a o
    · rcases hk with ⟨k1, -⟩ | ⟨-, k1⟩
      · exact absurd (e2.trans k1) (by decide)
      · rw [e1]; exact k1
  · rcases hbo ha with o | ⟨e1, e2⟩
    · rw [hG _ _ (hne o)]
      obtain ⟨b, c1, c2⟩ := g2 a o
      exact ⟨b, c1, hob c2⟩
    · rcases hk with ⟨-, -, b, k1, k2⟩ | ⟨k1, -⟩
      · rw [e1]; exact ⟨b, k1, hob k2⟩
      · exact absurd (e2.trans k1) (by decide)
  · rcases hbo ha with o | ⟨e1, e2⟩
    · rw [hG _ _ (hne o)]
      rcases g3 a o with r | ⟨b, c1, c2⟩
      · exact Or.inl r
      · exact Or.inr ⟨b, c1, hob c2⟩
    · rcases hk with ⟨k1, -⟩ | ⟨k1, -⟩ <;> exact absurd (e2.trans k1) (by decide)
theorem NewO.tk {z : Nat → Nat} {e0 : Nat} {S T : wPS} {q kd : Nat} (h : Inv z e0 S) (N : NewO S T q kd) : Tk z S T := by
  have hz : ∀ i, i < 15 → z i ≠ q := fun i hi => N.ne (h.1.1 i hi)
  obtain ⟨hq, hL, -, hF, hG, -, hN, hX, hY⟩ := N
  exact ⟨hF _ _ (hz 10 (by decide)), fun i hi => ⟨hF _ _ (hz (2 + i) (by omega)), hF _ _ (hz (2 + i) (by omega))⟩, fun i _ => by rw [hX], hF _ _ (hz 0 (by decide)), hF _ _ (hz 0 (by decide))⟩
/-- what tracked calls show but the number of articles is the same -/
def Tr (z : Nat → Nat) (S T : wPS) : Prop := (∀ i, i < 4 → pF T 1 (z (2 + i)) = pF S 1 (z (2 + i)) ∧ pF T 2 (z (2 + i)) = pF S 2 (z (2 + i))) ∧ (∀ i, i < 3 → pX T (z 6) i = pX S (z 6) i) ∧ pF T 56 (z 0) = pF S 56 (z 0) ∧ pF T 57 (z 0) = pF S 57 (z 0)
theorem AddR.tr {z : Nat → Nat} {e0 : Nat} {S T : wPS} {a kd n : Nat} (h : Inv z e0 S) (R : AddR S T e0 a kd n) : Tr z S T := by
  obtain ⟨-, -, -, -, -, -, -, -, r9, -, -, r12, -⟩ := R
  exact ⟨fun i hi => ⟨congrFun (r9 1 (by decide) (by decide)) _, congrFun (r9 2 (by decide) (by decide)) _⟩, fun i _ => by rw [(r12 _ (h.1.1 6 (by decide)).1).2], congrFun (r9 56 (by decide) (by decide)) _, congrFun (r9 57 (by decide) (by decide)) _⟩
theorem AddR.tk {z : Nat → Nat} {e0 : Nat} {S T : wPS} {kd n : Nat} (h : Inv z e0 S) (R : AddR S T e0 (z 11) kd n) : Tk z S T := ⟨R.2.2.2.2.2.2.2.2.2.1 _ (fun e => absurd (h.1.2 10 11 (by decide) (by decide) e) (by decide)), R.tr h⟩
theorem Tr.trans {z : Nat → Nat} {S T U : wPS} (h : Tr z S T) (k : Tr z T U) : Tr z S U := ⟨fun i hi => ⟨(k.1 i hi).1.trans (h.1 i hi).1, (k.1 i hi).2.trans (h.1 i hi).2⟩, fun i hi => (k.2.1 i hi).trans (h.2.1 i hi), k.2.2.1.trans h.2.2.1, k.2.2.2.trans h.2.2.2⟩
/-- the same write on both sides: blocked, minute -/
theorem Tk.min {z : Nat → Nat} {S T : wPS} {v w : Int32} (h : Tk z (setF S 56 (z 0) v) T) : Tk z (setF S 56 (z 0) w) (setF T 56 (z 0) w) := by
  obtain ⟨h1, h2, h3, h4, h5⟩ := h
  refine ⟨?_, fun i hi => ⟨?_, ?_⟩, fun i hi => h3 i hi, ?_, ?_⟩
  · rw [uF_of (Or.inl (by decide)), uF_of (Or.inl (by decide))]; rw [uF_of (Or.inl (by decide))] at h1; exact h1
  · have := (h2 i hi).1; rw [uF_of (Or.inl (by decide))] at this; rw [uF_of (Or.inl (by decide)), uF_of (Or.inl (by decide))]; exact this
  · have := (h2 i hi).2; rw [uF_of (Or.inl (by decide))] at this; rw [uF_of (Or.inl (by decide)), uF_of (Or.inl (by decide))]; exact this
  · rw [uF_at, uF_at]
  · rw [uF_of (Or.inl (by decide)), uF_of (Or.inl (by decide))]; rw [uF_of (Or.inl (by decide))] at h5; exact h5
/-- one field of no tracked kind -/
theorem tk_setF {z : Nat → Nat} {S : wPS} {k a : Nat} {v : Int32} (h : k ≠ 72 ∧ k ≠ 1 ∧ k ≠ 2 ∧ k ≠ 56 ∧ k ≠ 57) : Tk z S (setF S k a v) := by
  obtain ⟨h1, h2, h3, h4, h5⟩ := h
  exact ⟨uF_of (Or.inl h1.symm), fun _ _ => ⟨uF_of (Or.inl h2.symm), uF_of (Or.inl h3.symm)⟩, fun _ _ => rfl, uF_of (Or.inl h4.symm), uF_of (Or.inl h5.symm)⟩
theorem tk_setG {z : Nat → Nat} {S : wPS} {k a : Nat} {v : Option Nat} : Tk z S (setG S k a v) := ⟨rfl, fun _ _ => ⟨rfl, rfl⟩, fun _ _ => rfl, rfl, rfl⟩
theorem kne {S : wPS} {q k a : Nat} (h : q ∉ pL S) (o : Ob S k a) : a ≠ q := fun e => h (by rw [← e]; exact o.1)
