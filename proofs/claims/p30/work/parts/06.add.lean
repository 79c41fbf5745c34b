/-! a thing is put behind a list: what the pool is then -/
def AddR (S T : wPS) (e0 q kd n : Nat) : Prop :=
  (∀ k a, Ob S k a → Ob T k a) ∧ (∀ k a, Ob T k a → Ob S k a ∨ k = 13) ∧ e0 ∉ pL T ∧ LI T e0 q kd (n + 1) ∧ (∀ d, pG T 71 q = some d → pG S 71 q = some d ∨ d ∉ pL S) ∧ pG T 71 q ≠ some e0 ∧
  (∀ k, k ≠ 71 → pG T k = pG S k) ∧ (∀ a, a ≠ q → pG T 71 a = pG S 71 a) ∧ (∀ k, k ≠ 70 → k ≠ 72 → pF T k = pF S k) ∧ (∀ a, a ≠ q → pF T 72 a = pF S 72 a) ∧ pJ T = pJ S ∧ (∀ a, a ∈ pL S → pN T a = pN S a ∧ pX T a = pX S a) ∧ (∀ a, a ∈ pL S → pG S 71 q ≠ some a → pY T a = pY S a)
/-- there is room -/
theorem addR_C {S : wPS} {e0 q kd n d b : Nat} {m v : Int32} {i : Nat} (he : e0 ∉ pL S) (oq : Ob S 7 q) (ob : Ob S kd b) (hd : pG S 71 q = some d) (od : Ob S 13 d) (hN : pN S d = 10 ∨ pN S d = 15) (hn : n < pN S d) (hx : ∀ i, i < n → ∃ b, pY S d i = some b ∧ Ob S kd b) (hi : i = n) (hv : v = nI (n + 1)) :
    AddR S (setF (setY (setF S 70 q m) d (va_up (pY (setF S 70 q m) d) i (some b))) 72 q v) e0 q kd n := by
  subst hi
  refine ⟨fun _ _ h => h, fun _ _ h => Or.inl h, he, ⟨by rw [uF_at]; exact hv, Or.inr ⟨d, hd, od, hN, hn, fun j hj => ?_⟩⟩, fun d2 h => Or.inl h, fun h => he (by rw [show pG S 71 q = some e0 from h] at hd; rw [Option.some.inj hd]; exact od.1), fun _ _ => rfl, fun _ _ => rfl, fun k h1 h2 => ?_, fun a ha => ?_, rfl, fun _ _ => ⟨rfl, rfl⟩, fun a ha h => ?_⟩
  · show ∃ b2, va_up (pY S) d (va_up (pY S d) i (some b)) d j = some b2 ∧ Ob S kd b2
    rw [va_up_self]
    by_cases e : j = i
    · rw [e, va_up_self]; exact ⟨b, rfl, ob⟩
    · rw [va_up_ne _ _ e]; exact hx j (by omega)
  · show va_up (va_up (pF S) 70 (va_up (pF S 70) q m)) 72 (va_up (va_up (pF S) 70 (va_up (pF S 70) q m) 72) q v) k = _
    rw [va_up_ne _ _ h2, va_up_ne _ _ h1]
  · rw [uF_ne ha]; rfl
  · show va_up (pY S) d _ a = pY S a
    exact va_up_ne _ _ (fun e => h (by rw [e]; exact hd))
/-- the first of all -/
theorem addR_A {S : wPS} {e0 q kd b d : Nat} {m v : Int32} {i : Nat} (he : e0 ∉ pL S) (oq : Ob S 7 q) (ob : Ob S kd b) (hd : pG S 71 q = some e0) (hq : d ∉ pL S) (hde : d ≠ e0) (hi : i = 0) (hv : v = nI 1) :
    AddR S (setF (setY (setG (newA (setF S 70 q m) d 13 10) 71 q (some d)) d (va_up (pY (setG (newA (setF S 70 q m) d 13 10) 71 q (some d)) d) i (some b))) 72 q v) e0 q kd 0 := by
  subst hi
  have hne : ∀ a, a ∈ pL S → a ≠ d := fun a ha e => hq (by rw [← e]; exact ha)
  have hold : ∀ {k a}, Ob S k a → Ob (newA (setF S 70 q m) d 13 10) k a := fun h => obA_old hq h
  refine ⟨fun _ _ h => hold h, fun k a h => ?_, ?_, ⟨by rw [uF_at]; exact hv, Or.inr ⟨d, uG_at (S := newA (setF S 70 q m) d 13 10) (k := 71) (a := q) (v := some d), obA_new (n := 10), Or.inl (va_up_self _ _ _), ?_, fun j hj => ?_⟩⟩, fun d2 h => Or.inr ?_, fun h => hde ?_, fun k hk => ?_, fun a ha => ?_, fun k h1 h2 => ?_, fun a ha => ?_, rfl, fun a ha => ⟨?_, ?_⟩, fun a ha h => ?_⟩
  · obtain ⟨h1, h2⟩ := h
    rcases List.mem_append.mp h1 with h3 | h3
    · exact Or.inl ⟨h3, by rw [← h2]; exact (va_up_ne _ _ (hne a h3)).symm⟩
    · refine Or.inr ?_
      rw [← h2, List.mem_singleton.mp h3]
      exact va_up_self _ _ _
  · intro h
    rcases List.mem_append.mp h with h3 | h3
    · exact he h3
    · exact hde (List.mem_singleton.mp h3).symm
  · show 0 + 1 ≤ va_up (pN S) d 10 d
    rw [va_up_self]; decide
  · have e : j = 0 := by omega
    subst e
    refine ⟨b, ?_, hold ob⟩
    show va_up _ d (va_up _ 0 (some b)) d 0 = some b
    rw [va_up_self, va_up_self]
  · rw [show pG (setF (setY (setG (newA (setF S 70 q m) d 13 10) 71 q (some d)) d (va_up (pY (setG (newA (setF S 70 q m) d 13 10) 71 q (some d)) d) 0 (some b))) 72 q v) 71 q = some d from uG_at (S := newA (setF S 70 q m) d 13 10) (k := 71) (a := q) (v := some d)] at h
    rw [← Option.some.inj h]; exact hq
  · rw [show pG (setF (setY (setG (newA (setF S 70 q m) d 13 10) 71 q (some d)) d (va_up (pY (setG (newA (setF S 70 q m) d 13 10) 71 q (some d)) d) 0 (some b))) 72 q v) 71 q = some d from uG_at (S := newA (setF S 70 q m) d 13 10) (k := 71) (a := q) (v := some d)] at h
    exact Option.some.inj h
  · exact va_up_ne _ _ hk
  · exact uG_ne (S := newA (setF S 70 q m) d 13 10) (k := 71) (v := some d) ha 71
  · show va_up (va_up (pF S) 70 (va_up (pF S 70) q m)) 72 (va_up (va_up (pF S) 70 (va_up (pF S 70) q m) 72) q v) k = _
    rw [va_up_ne _ _ h2, va_up_ne _ _ h1]
  · rw [uF_ne ha]; rfl
  · exact va_up_ne _ _ (hne a ha)
  · exact va_up_ne _ _ (hne a ha)
  · show va_up (va_up (pY S) d (fun _ => none)) d _ a = pY S a
    rw [va_up_ne _ _ (hne a ha), va_up_ne _ _ (hne a ha)]
/-- it was full at ten -/
theorem addR_B {S : wPS} {e0 q kd b d0 d : Nat} {m v : Int32} {i : Nat} {f : Nat → Option Nat} (he : e0 ∉ pL S) (oq : Ob S 7 q) (ob : Ob S kd b) (hd : pG S 71 q = some d0) (od : Ob S 13 d0) (hx : ∀ i, i < 10 → ∃ b, pY S d0 i = some b ∧ Ob S kd b) (hf : ∀ i, i < 10 → f i = pY S d0 i) (hq : d ∉ pL S) (hde : d ≠ e0) (hi : i = 10) (hv : v = nI 11) :
    AddR S (setF (setY (setG (setY (newA (setF S 70 q m) d 13 15) d f) 71 q (some d)) d (va_up (pY (setG (setY (newA (setF S 70 q m) d 13 15) d f) 71 q (some d)) d) i (some b))) 72 q v) e0 q kd 10 := by
  subst hi
  have hne : ∀ a, a ∈ pL S → a ≠ d := fun a ha e => hq (by rw [← e]; exact ha)
  have hold : ∀ {k a}, Ob S k a → Ob (newA (setF S 70 q m) d 13 15) k a := fun h => obA_old hq h
  have hg : pG (setF (setY (setG (setY (newA (setF S 70 q m) d 13 15) d f) 71 q (some d)) d (va_up (pY (setG (setY (newA (setF S 70 q m) d 13 15) d f) 71 q (some d)) d) 10 (some b))) 72 q v) 71 q = some d := uG_at (S := setY (newA (setF S 70 q m) d 13 15) d f) (k := 71) (a := q) (v := some d)
  refine ⟨fun _ _ h => hold h, fun k a h => ?_, ?_, ⟨by rw [uF_at]; exact hv, Or.inr ⟨d, hg, obA_new (n := 15), Or.inr (va_up_self _ _ _), ?_, fun j hj => ?_⟩⟩, fun d2 h => Or.inr ?_, fun h => hde ?_, fun k hk => ?_, fun a ha => ?_, fun k h1 h2 => ?_, fun a ha => ?_, rfl, fun a ha => ⟨?_, ?_⟩, fun a ha h => ?_⟩
  · obtain ⟨h1, h2⟩ := h
    rcases List.mem_append.mp h1 with h3 | h3
    · exact Or.inl ⟨h3, by rw [← h2]; exact (va_up_ne _ _ (hne a h3)).symm⟩
    · refine Or.inr ?_
      rw [← h2, List.mem_singleton.mp h3]
      exact va_up_self _ _ _
  · intro h
    rcases List.mem_append.mp h with h3 | h3
    · exact he h3
    · exact hde (List.mem_singleton.mp h3).symm
  · show 10 + 1 ≤ va_up (pN S) d 15 d
    rw [va_up_self]; decide
  · show ∃ b2, va_up _ d (va_up (va_up (va_up (pY S) d (fun _ => none)) d f d) 10 (some b)) d j = some b2 ∧ _
    rw [va_up_self, va_up_self]
    by_cases e : j = 10
    · rw [e, va_up_self]; exact ⟨b, rfl, hold ob⟩
    · rw [va_up_ne _ _ e, hf j (by omega)]
      obtain ⟨b2, g1, g2⟩ := hx j (by omega)
      exact ⟨b2, g1, hold g2⟩
  · rw [hg] at h
    rw [← Option.some.inj h]; exact hq
  · rw [hg] at h
    exact Option.some.inj h
  · exact va_up_ne _ _ hk
  · exact uG_ne (S := setY (newA (setF S 70 q m) d 13 15) d f) (k := 71) (v := some d) ha 71
  · show va_up (va_up (pF S) 70 (va_up (pF S 70) q m)) 72 (va_up (va_up (pF S) 70 (va_up (pF S 70) q m) 72) q v) k = _
    rw [va_up_ne _ _ h2, va_up_ne _ _ h1]
  · rw [uF_ne ha]; rfl
  · exact va_up_ne _ _ (hne a ha)
  · exact va_up_ne _ _ (hne a ha)
  · show va_up (va_up (va_up (pY S) d (fun _ => none)) d f) d _ a = pY S a
    rw [va_up_ne _ _ (hne a ha), va_up_ne _ _ (hne a ha), va_up_ne _ _ (hne a ha)]
theorem LI.add {S T : wPS} {e0 q q2 kd k2 n n2 : Nat} (R : AddR S T e0 q kd n) (hq : q2 ≠ q) (hap : ∀ d, pG S 71 q2 = some d → pG S 71 q = some d → d = e0) (he : e0 ∉ pL S) (h : LI S e0 q2 k2 n2) : LI T e0 q2 k2 n2 := by
  obtain ⟨r1, -, -, -, -, -, -, r8, -, r10, -, r12, r13⟩ := R
  obtain ⟨a1, a2⟩ := h
  refine ⟨by rw [r10 _ hq]; exact a1, ?_⟩
  rcases a2 with ⟨b1, b2⟩ | ⟨d, b1, b2, b3, b4, b5⟩
  · exact Or.inl ⟨b1, by rw [r8 _ hq]; exact b2⟩
  · have hN := (r12 d b2.1).1
    refine Or.inr ⟨d, by rw [r8 _ hq]; exact b1, r1 _ _ b2, by rw [hN]; exact b3, by rw [hN]; exact b4, fun i hi => ?_⟩
    obtain ⟨b, c1, c2⟩ := b5 i hi
    exact ⟨b, by rw [r13 d b2.1 (fun e => he (by rw [← hap d b1 e]; exact b2.1))]; exact c1, r1 _ _ c2⟩
/-- a planner stays one when a thing comes behind its list of articles (q = z 10) or lines (q = z 11) -/
theorem Inv.add {z : Nat → Nat} {e0 : Nat} {S T : wPS} {kd n w : Nat} (h : Inv z e0 S) (hw : (w = 10 ∧ kd = 1 ∧ n + 1 ≤ 6) ∨ (w = 11 ∧ kd = 2 ∧ n + 1 ≤ 12)) (R : AddR S T e0 (z w) kd n) : Inv z e0 T := by
  have I := h
  obtain ⟨⟨a1, a2⟩, b, c, d, ⟨⟨n1, f1, f2⟩, ⟨n2, f3, f4⟩, f5, f6⟩, ⟨g1, g2, g3⟩⟩ := h
  have hL : ∀ i, i < 15 → z i ∈ pL S := fun i hi => (a1 i hi).1
  have hrow : ∀ i, i < 15 → kzK i ≠ 13 → pY T (z i) = pY S (z i) := fun i hi hk => by
    refine R.2.2.2.2.2.2.2.2.2.2.2.2 (z i) (hL i hi) (fun e => ?_)
    have : ∃ n, LI S e0 (z w) kd n := by
      rcases hw with ⟨rfl, rfl, -⟩ | ⟨rfl, rfl, -⟩
      · exact ⟨_, f2⟩
      · exact ⟨_, f4⟩
    obtain ⟨m, -, ⟨-, q2⟩ | ⟨x, q1, q2, -⟩⟩ := this
    · rw [q2] at e; exact f6 (by rw [Option.some.inj e]; exact hL i hi)
    · rw [q1] at e
      have e2 := Option.some.inj e
      exact hk ((a1 i hi).2.symm.trans (by rw [← e2]; exact q2.2))
  have L10 : ∃ n, n ≤ 6 ∧ LI T e0 (z 10) 1 n := by
    rcases hw with ⟨rfl, rfl, hn⟩ | ⟨rfl, rfl, hn⟩
    · exact ⟨n + 1, hn, R.2.2.2.1⟩
    · exact ⟨n1, f1, LI.add R (fun e => absurd (a2 10 11 (by decide) (by decide) e) (by decide)) f5 f6 f2⟩
  have L11 : ∃ n, n ≤ 12 ∧ LI T e0 (z 11) 2 n := by
    rcases hw with ⟨rfl, rfl, hn⟩ | ⟨rfl, rfl, hn⟩
    · exact ⟨n2, f3, LI.add R (fun e => absurd (a2 11 10 (by decide) (by decide) e) (by decide)) (fun d h1 h2 => f5 d h2 h1) f6 f4⟩
    · exact ⟨n + 1, hn, R.2.2.2.1⟩
  have hap : ∀ d, pG T 71 (z 10) = some d → pG T 71 (z 11) = some d → d = e0 := by
    intro d h1 h2
    rcases hw with ⟨rfl, rfl, -⟩ | ⟨rfl, rfl, -⟩
    · have h3 := R.2.2.2.2.2.2.2.1 (z 11) (fun e => absurd (a2 11 10 (by decide) (by decide) e) (by decide))
      rw [h3] at h2
      rcases R.2.2.2.2.1 d h1 with h4 | h4
      · exact f5 d h4 h2
      · obtain ⟨-, ⟨-, q2⟩ | ⟨x, q1, q2, -⟩⟩ := f4
        · rw [q2] at h2; exact (Option.some.inj h2).symm
        · rw [q1] at h2; exact absurd (by rw [← Option.some.inj h2]; exact q2.1) h4
    · have h3 := R.2.2.2.2.2.2.2.1 (z 10) (fun e => absurd (a2 10 11 (by decide) (by decide) e) (by decide))
      rw [h3] at h1
      rcases R.2.2.2.2.1 d h2 with h4 | h4
      · exact f5 d h1 h4
      · obtain ⟨-, ⟨-, q2⟩ | ⟨x, q1, q2, -⟩⟩ := f2
        · rw [q2] at h1; exact (Option.some.inj h1).symm
        · rw [q1] at h1; exact absurd (by rw [← Option.some.inj h1]; exact q2.1) h4
  obtain ⟨r1, r2, r3, -, -, -, r7, -, r9, -, -, r12, -⟩ := R
  have hN : ∀ i, i < 15 → pN T (z i) = pN S (z i) := fun i hi => (r12 _ (hL i hi)).1
  have hX : ∀ i, i < 15 → pX T (z i) = pX S (z i) := fun i hi => (r12 _ (hL i hi)).2
  refine ⟨⟨fun i hi => r1 _ _ (a1 i hi), a2⟩, ?_, ?_, ?_, ⟨L10, L11, hap, r3⟩, ⟨fun a ha => ?_, fun a ha => ?_, fun a ha => ?_⟩⟩
  · unfold kI2
    rw [r7 50 (by decide), r7 51 (by decide), r7 52 (by decide), r7 53 (by decide), r7 54 (by decide), r7 55 (by decide), r7 40 (by decide), r7 41 (by decide)]
    exact b
  · unfold kI3
    rw [hN 1 (by decide), hN 6 (by decide), hN 7 (by decide), hN 13 (by decide), hN 14 (by decide), hrow 1 (by decide) (by decide), hrow 7 (by decide) (by decide)]
    exact c
  · unfold kI4
    rw [r9 42 (by decide) (by decide), r9 1 (by decide) (by decide), r9 24 (by decide) (by decide), hX 14 (by decide)]
    exact ⟨d.1, d.2.1, d.2.2.1, fun a ha => d.2.2.2 a ((r2 _ _ ha).resolve_right (by decide))⟩
  · rw [r7 10 (by decide)]
    exact g1 a ((r2 _ _ ha).resolve_right (by decide))
  · rw [r7 21 (by decide)]
    obtain ⟨b, c1, c2⟩ := g2 a ((r2 _ _ ha).resolve_right (by decide))
    exact ⟨b, c1, r1 _ _ c2⟩
  · rw [r7 30 (by decide)]
    rcases g3 a ((r2 _ _ ha).resolve_right (by decide)) with e | ⟨b, c1, c2⟩
    · exact Or.inl e
    · exact Or.inr ⟨b, c1, r1 _ _ c2⟩
/-- what tracked calls show is the same -/
def Tk (z : Nat → Nat) (S T : wPS) : Prop := pF T 72 (z 10) = pF S 72 (z 10) ∧ (∀ i, i < 4 → pF T 1 (z (2 + i)) = pF S 1 (z (2 + i)) ∧ pF T 2 (z (2 + i)) = pF S 2 (z (2 + i))) ∧ (∀ i, i < 3 → pX T (z 6) i = pX S (z 6) i) ∧ pF T 56 (z 0) = pF S 56 (z 0) ∧ pF T 57 (z 0) = pF S 57 (z 0)
theorem Kp.tk {z : Nat → Nat} {S T : wPS} (h : Kp z S T) : Tk z S T := by
  obtain ⟨⟨-, -, -, -, -, -, h7, -, h9, -, h11, h12, -⟩, g1, g2⟩ := h
  exact ⟨by rw [h9], fun i _ => ⟨by rw [h11], by rw [h12]⟩, fun i _ => h7 i, by rw [g1], by rw [g2]⟩
theorem Tk.trans {z : Nat → Nat} {S T U : wPS} (h : Tk z S T) (k : Tk z T U) : Tk z S U := ⟨k.1.trans h.1, fun i hi => ⟨(k.2.1 i hi).1.trans (h.2.1 i hi).1, (k.2.1 i hi).2.trans (h.2.1 i hi).2⟩, fun i hi => (k.2.2.1 i hi).trans (h.2.2.1 i hi), k.2.2.2.1.trans h.2.2.2.1, k.2.2.2.2.trans h.2.2.2.2⟩
theorem Tk.rf {z : Nat → Nat} {S : wPS} : Tk z S S := ⟨rfl, fun _ _ => ⟨rfl, rfl⟩, fun _ _ => rfl, rfl, rfl⟩
