/-! numbers of the law's walk: each int by its toInt -/
theorem kc_lt {x y : Int32} {a b : Int} (hx : x.toInt = a) (hy : y.toInt = b) : x < y ↔ a < b := by rw [Int32.lt_iff_toInt_lt, hx, hy]
theorem kc_le {x y : Int32} {a b : Int} (hx : x.toInt = a) (hy : y.toInt = b) : x ≤ y ↔ a ≤ b := by rw [Int32.le_iff_toInt_le, hx, hy]
theorem kc_eq {x y : Int32} {a b : Int} (hx : x.toInt = a) (hy : y.toInt = b) : x = y ↔ a = b := by rw [← Int32.toInt_inj, hx, hy]
theorem kt_of {n : Int32} {i : Nat} (h : n.toInt = ((i : Nat) : Int)) (hi : i < 2 ^ 31) : n = nI i := Int32.toInt_inj.mp (h.trans (nI_toInt hi).symm)
theorem kt_nI {n : Int32} {i : Nat} (h : n = nI i) (hi : i < 2 ^ 31) : n.toInt = ((i : Nat) : Int) := by rw [h]; exact nI_toInt hi
theorem kt_add {x a b : Int32} {A B : Int} (e : x = a + b) (ha : a.toInt = A) (hb : b.toInt = B) (h1 : -2147483648 ≤ A + B) (h2 : A + B < 2147483648) : x.toInt = A + B := by
  rw [e, Int32.toInt_add, ha, hb, Int.bmod_eq_of_le (by omega) (by omega)]
theorem kt_sub {x a b : Int32} {A B : Int} (e : x = a - b) (ha : a.toInt = A) (hb : b.toInt = B) (h1 : -2147483648 ≤ A - B) (h2 : A - B < 2147483648) : x.toInt = A - B := by
  rw [e, Int32.toInt_sub, ha, hb, Int.bmod_eq_of_le (by omega) (by omega)]
theorem kt_rem {x a b : Int32} {A B : Nat} (e : x = a - a / b * b) (ha : a.toInt = ((A : Nat) : Int)) (hb : b.toInt = ((B : Nat) : Int)) (h0 : 0 < B) (h1 : A < 2 ^ 31) (h2 : B < 2 ^ 31) : x.toInt = ((A % B : Nat) : Int) := by
  rw [e, kt_of ha h1, kt_of hb h2, pk_rem h1 h0 h2]
  exact nI_toInt (Nat.lt_of_le_of_lt (Nat.mod_le _ _) h1)
theorem kt_lit {x : Int32} {v : Int32} {A : Int} (hx : x.toInt = A) (hv : v.toInt = A) : x = v := Int32.toInt_inj.mp (hx.trans hv.symm)
theorem kt_clamp {x : Int32} {i : Nat} (h : x.toInt = ((i : Nat) : Int)) (hi : i < 2 ^ 31) : x.toNatClampNeg = i := by rw [kt_of h hi]; exact nI_clamp hi
theorem kt_in {x : Int32} {i N : Nat} (h : x.toInt = ((i : Nat) : Int)) (hi : i < N) (hN : N < 2 ^ 31) : vp_in x N := by rw [kt_of h (Nat.lt_trans hi hN)]; exact vp_in_nI hi hN
theorem kt_ush (x : Int32) : ∃ j : Nat, j < 2 ^ 31 ∧ (x.toUInt32 >>> ((1 : Int32).toUInt32 &&& Int32.toUInt32 31)).toInt32 = nI j := by
  refine ⟨(x.toUInt32 >>> ((1 : Int32).toUInt32 &&& Int32.toUInt32 31)).toNat, ?_, ?_⟩
  · rw [UInt32.toNat_shiftRight]
    have h : ((1 : Int32).toUInt32 &&& Int32.toUInt32 31).toNat % 32 = 1 := by decide
    rw [h, Nat.shiftRight_eq_div_pow]
    have := x.toUInt32.toNat_lt
    omega
  · generalize (x.toUInt32 >>> ((1 : Int32).toUInt32 &&& Int32.toUInt32 31)) = u
    apply Int32.toBitVec_inj.mp
    unfold nI
    rw [Int32.toBitVec_ofNat']
    simp
/-! what a call said, in numbers -/
section KP
variable {S T : wPS} {m i : Nat} {n r : Int32} {f : Nat → Nat}
theorem kp_A (h : (T = S ∧ ∃ j, j < m ∧ n = nI j ∧ r = nI (f j)) ∨ (r = -77 ∧ (xI = xI ∧ ∀ j, j < m → n ≠ nI j) ∧ T = S)) (hn : n.toInt = ((i : Nat) : Int)) (hi : i < m) (hm : m < 2 ^ 31) (hb : f i < 2 ^ 31) : S = T ∧ r.toInt = ((f i : Nat) : Int) := by
  rcases h with ⟨e, j, hj, hnj, hr⟩ | ⟨-, ⟨-, hx⟩, -⟩
  · obtain rfl : i = j := nI_inj (by omega) (by omega) ((kt_of hn (by omega)).symm.trans hnj)
    exact ⟨e.symm, kt_nI hr hb⟩
  · exact absurd (kt_of hn (by omega)) (hx i hi)
theorem kp_Ac (h : (T = S ∧ kCh r ∧ ∃ j, j < m ∧ n = nI j ∧ r = nI (f j)) ∨ (r = -77 ∧ (xI = xI ∧ ∀ j, j < m → n ≠ nI j) ∧ T = S)) (hn : n.toInt = ((i : Nat) : Int)) (hi : i < m) (hm : m < 2 ^ 31) (hb : f i < 2 ^ 31) : S = T ∧ r.toInt = ((f i : Nat) : Int) := kp_A (h.imp (fun h => ⟨h.1, h.2.2⟩) id) hn hi hm hb
theorem kp_Ao (h : (T = S ∧ ∃ j, j < m ∧ n = nI j ∧ r = nI (f j)) ∨ (r = -77 ∧ (xI = xI ∧ ∀ j, j < m → n ≠ nI j) ∧ T = S)) (hn : n.toInt = ((i : Nat) : Int)) (hi : m ≤ i) (hm : i < 2 ^ 31) : S = T ∧ r.toInt = -77 := by
  rcases h with ⟨e, j, hj, hnj, hr⟩ | ⟨hr, -, e⟩
  · have := nI_inj (a := i) (b := j) (by omega) (by omega) ((kt_of hn (by omega)).symm.trans hnj)
    omega
  · exact ⟨e.symm, by rw [hr]; rfl⟩
theorem kp_W (h : (T = S ∧ ∃ j, j < m ∧ n = nI j ∧ f j ≠ 0 ∧ r = nI (f j - 1)) ∨ (r = -77 ∧ ((xI = xI ∧ ∀ j, j < m → n ≠ nI j) ∨ (xI = xN ∧ ∃ j, j < m ∧ n = nI j ∧ f j = 0)) ∧ T = S) ∨ (r = -75 ∧ ((xN = xI ∧ ∀ j, j < m → n ≠ nI j) ∨ (xN = xN ∧ ∃ j, j < m ∧ n = nI j ∧ f j = 0)) ∧ T = S)) (hn : n.toInt = ((i : Nat) : Int)) (hi : i < m) (hm : m < 2 ^ 31) (hb : f i < 2 ^ 31) : S = T ∧ r = (if f i = 0 then -75 else nI (f i - 1)) ∧ (f i = 0 → r.toInt = -75) ∧ (f i ≠ 0 → r.toInt = ((f i - 1 : Nat) : Int)) := by
  have hN : xI ≠ xN := by decide
  rcases h with ⟨e, j, hj, hnj, h0, hr⟩ | ⟨-, ⟨-, hx⟩ | ⟨hx, -⟩, -⟩ | ⟨hr, ⟨hx, -⟩ | ⟨-, j, hj, hnj, h0⟩, e⟩
  · obtain rfl : i = j := nI_inj (by omega) (by omega) ((kt_of hn (by omega)).symm.trans hnj)
    exact ⟨e.symm, by rw [if_neg h0]; exact hr, fun h => absurd h h0, fun _ => kt_nI hr (by omega)⟩
  · exact absurd (kt_of hn (by omega)) (hx i hi)
  · exact absurd hx hN
  · exact absurd hx hN.symm
  · obtain rfl : i = j := nI_inj (by omega) (by omega) ((kt_of hn (by omega)).symm.trans hnj)
    exact ⟨e.symm, by rw [if_pos h0]; exact hr, fun _ => by rw [hr]; rfl, fun h => absurd h0 h⟩
/-- of a robot -/
theorem kp_R {g : Nat → Int32} (h : (T = S ∧ ∃ j, j < 2 ∧ n = nI j ∧ r = g j) ∨ (r = -77 ∧ (xI = xI ∧ (n < 0 ∨ ¬ n < 2)) ∧ T = S)) (hn : n.toInt = ((i : Nat) : Int)) (hi : i < 2) (hg : ∀ j, j < 2 → g j = nI (f j)) (hb : f i < 2 ^ 31) : S = T ∧ r.toInt = ((f i : Nat) : Int) := by
  have h0 : (0 : Int32).toInt = 0 := by decide
  have h2 : (2 : Int32).toInt = 2 := by decide
  rcases h with ⟨e, j, hj, hnj, hr⟩ | ⟨-, ⟨-, hx⟩, -⟩
  · obtain rfl : i = j := nI_inj (by omega) (by omega) ((kt_of hn (by omega)).symm.trans hnj)
    exact ⟨e.symm, kt_nI (hr.trans (hg i hj)) hb⟩
  · rw [kc_lt hn h0, kc_lt hn h2] at hx
    omega
theorem kp_I {k : Nat → Nat} (h : (T = S ∧ ∃ j, j < 2 ∧ n = nI j ∧ k j ≠ 0 ∧ r = nI (f j)) ∨ (r = -77 ∧ ((xI = xI ∧ (n < 0 ∨ ¬ n < 2)) ∨ (xI = xN ∧ ∃ j, j < 2 ∧ n = nI j ∧ k j = 0)) ∧ T = S) ∨ (r = -75 ∧ ((xN = xI ∧ (n < 0 ∨ ¬ n < 2)) ∨ (xN = xN ∧ ∃ j, j < 2 ∧ n = nI j ∧ k j = 0)) ∧ T = S)) (hn : n.toInt = ((i : Nat) : Int)) (hi : i < 2) (hb : k i ≠ 0 → f i < 2 ^ 31) : S = T ∧ (k i = 0 → r.toInt = -75) ∧ (k i ≠ 0 → r.toInt = ((f i : Nat) : Int)) := by
  have hN : xI ≠ xN := by decide
  have h0 : (0 : Int32).toInt = 0 := by decide
  have h2 : (2 : Int32).toInt = 2 := by decide
  rcases h with ⟨e, j, hj, hnj, hk, hr⟩ | ⟨-, ⟨-, hx⟩ | ⟨hx, -⟩, -⟩ | ⟨hr, ⟨hx, -⟩ | ⟨-, j, hj, hnj, hk⟩, e⟩
  · obtain rfl : i = j := nI_inj (by omega) (by omega) ((kt_of hn (by omega)).symm.trans hnj)
    exact ⟨e.symm, fun h => absurd h hk, fun _ => kt_nI hr (hb hk)⟩
  · rw [kc_lt hn h0, kc_lt hn h2] at hx
    omega
  · exact absurd hx hN
  · exact absurd hx hN.symm
  · obtain rfl : i = j := nI_inj (by omega) (by omega) ((kt_of hn (by omega)).symm.trans hnj)
    exact ⟨e.symm, fun _ => by rw [hr]; rfl, fun h => absurd hk h⟩
theorem kp_M {z : Nat → Nat} {c : Nat} (h : (T = S ∧ ∃ j, j < 3 ∧ n = nI j ∧ r = if pX S (z 6) j - pF S 56 (z 0) < 0 then -1 else pX S (z 6) j - pF S 56 (z 0)) ∨ (r = -77 ∧ (xI = xI ∧ (n < 0 ∨ 3 ≤ n)) ∧ T = S)) (hn : n.toInt = ((i : Nat) : Int)) (hi : i < 3) (hx : ∀ j, j < 3 → pX S (z 6) j = nI 1439) (h56 : pF S 56 (z 0) = nI c) (hc : c ≤ 1439) : S = T ∧ r.toInt = ((1439 - c : Nat) : Int) := by
  have h0 : (0 : Int32).toInt = 0 := by decide
  have h3 : (3 : Int32).toInt = 3 := by decide
  rcases h with ⟨e, j, hj, hnj, hr⟩ | ⟨-, ⟨-, hx⟩, -⟩
  · rw [hx j hj, h56, nI_subI hc, if_neg (fun h => nI_pos (by omega) h)] at hr
    exact ⟨e.symm, kt_nI hr (by omega)⟩
  · rw [kc_lt hn h0, kc_le h3 hn] at hx
    omega
end KP
/-- the law's own numbers of a planner -/
def q_U (q : qS) : Nat := q 12 0 + q 13 0 + q 12 1 + q 13 1 + q 12 2 + q 13 2 + q 31 0 + q 31 1
def q_L (q : qS) : Prop := q 72 0 = 3 ∧ (∀ j, j < 4 → q 0 j = j) ∧ (∀ j, j < 4 → q 1 j ≤ 1) ∧ (∀ j, j < 4 → q 2 j ≤ 9) ∧ (∀ r, r < 2 → q 32 r ≤ 30) ∧ q 56 0 ≤ 1439 ∧ (∀ j, j < 3 → q 60 j = 1439)
theorem q_lt3 {a : Nat} (h : a < 3) : a = 0 ∨ a = 1 ∨ a = 2 := by omega
theorem q_U13 {q : qS} {a : Nat} (h : a < 3) : q 12 a + q 13 a ≤ q_U q := by
  unfold q_U
  rcases q_lt3 h with rfl | rfl | rfl <;> omega
/-- the sum of the law -/
def q_sm0 (q : qS) : Int64 := (nI (q 56 0)).toInt64 + 31 * (nI (q 42 0)).toInt64 + 101 * (nI (q 57 0)).toInt64 + 7 * (nI (q 58 0)).toInt64 + 13 * lN (q 59 0)
def q_smA (q : qS) (v : Int64) (a : Nat) : Int64 := 31 * v + (nI (q 12 a)).toInt64 + 7 * (nI (q 13 a)).toInt64 + 11 * (nI (q 14 a)).toInt64
def q_smR (q : qS) (v : Int64) (r : Nat) : Int64 := 31 * v + (nI (q 31 r)).toInt64 + 7 * (nI (q 32 r)).toInt64
def q_smO (q : qS) (v : Int64) (n : Nat) : Int64 := 31 * v + (nI (q 24 n)).toInt64 + 7 * (nI (q 23 n)).toInt64 + (if q 25 n = 0 then (-75 : Int32) else nI (q 25 n - 1)).toInt64
def q_smL (q : qS) (v : Int64) : Nat → Int64
  | 0 => v
  | m + 1 => q_smO q (q_smL q v m) m
def q_sm (q : qS) : Int64 := q_smL q (q_smR q (q_smR q (q_smA q (q_smA q (q_smA q (q_sm0 q) 0) 1) 2) 0) 1) (q 73 0)
/-- a pool without its newest row -/
theorem kO_drop {g : kG} {O : wPS} {p kd n : Nat} {f : Nat → Int32} {H : Heap} (hp : p ∉ pL O) (h : va_P (kD g) vwCl (kW g (setX (newA O p kd n) p f)) H) : va_P (kD g) vwCl (kW g O) H := fun k q hk => by
  have hm := kW_mem hk
  have hne : q.1 ≠ p := fun e => hp (by rw [← e]; exact hm)
  obtain ⟨k1, h1⟩ := kW_get (g := g) (S := O) hm
  obtain ⟨k2, h2⟩ := kW_get (g := g) (S := setX (newA O p kd n) p f) (List.mem_append_left _ hm)
  have e : kF g (setX (newA O p kd n) p f) q.1 = kF g O q.1 := (kF_X hne).trans (kF_A hne)
  rw [e] at h2
  have hq : q = (q.1, kF g O q.1) := by
    have h3 := List.mem_of_getElem? hk
    simp only [kW, va_pl, List.nil_append, List.mem_map] at h3
    obtain ⟨a, -, ha⟩ := h3
    rw [← ha]
  rw [hq]
  exact h k2 _ h2
theorem kx_set {O : wPS} {p : Nat} {f : Nat → Int32} {i : Nat} {v : Int32} : setX (setX O p f) p (upd (pX (setX O p f) p) i v) = setX O p (upd f i v) := by
  have h1 : pX (setX O p f) p = f := va_up_self _ _ _
  rw [h1]
  have h2 : va_up (va_up (pX O) p f) p (upd f i v) = va_up (pX O) p (upd f i v) := by
    funext a
    by_cases e : a = p
    · rw [e, va_up_self, va_up_self]
    · rw [va_up_ne _ _ e, va_up_ne _ _ e, va_up_ne _ _ e]
  show (pL O, pK O, pF O, pG O, pJ O, pN O, va_up (va_up (pX O) p f) p (upd f i v), pY O) = (pL O, pK O, pF O, pG O, pJ O, pN O, va_up (pX O) p (upd f i v), pY O)
  rw [h2]
theorem kx_new {O : wPS} {p kd n : Nat} : newA O p kd n = setX (newA O p kd n) p (fun _ => 0) := by
  have h2 : va_up (pX (newA O p kd n)) p (fun _ => 0) = pX (newA O p kd n) := by
    funext a
    by_cases e : a = p
    · rw [e, va_up_self]; exact (va_up_self (pX O) p (fun _ => 0)).symm
    · rw [va_up_ne _ _ e]
  show newA O p kd n = (pL (newA O p kd n), pK (newA O p kd n), pF (newA O p kd n), pG (newA O p kd n), pJ (newA O p kd n), pN (newA O p kd n), va_up (pX (newA O p kd n)) p (fun _ => 0), pY (newA O p kd n))
  rw [h2]
theorem kxs_at {O : wPS} {p : Nat} {f : Nat → Int32} : pX (setX O p f) p = f := va_up_self _ _ _
theorem kx_ne {O : wPS} {p a : Nat} {f : Nat → Int32} (h : a ≠ p) : pX (setX O p f) a = pX O a := va_up_ne _ _ h
theorem kd_of2 {g : kG} {A : Nat → Prop} {S O : wPS} (h : va_D A (kW g S ++ kW g O)) : kdis S O := by
  intro a ha hb
  obtain ⟨i, hi⟩ := kW_get (g := g) ha
  obtain ⟨j, hj⟩ := kW_get (g := g) hb
  have hil := (List.getElem?_eq_some_iff.mp hi).1
  have h1 : (kW g S ++ kW g O)[i]? = some (a, kF g S a) := by rw [List.getElem?_append_left hil]; exact hi
  have h2 : (kW g S ++ kW g O)[(kW g S).length + j]? = some (a, kF g O a) := by
    rw [List.getElem?_append_right (Nat.le_add_right _ _), Nat.add_sub_cancel_left]; exact hj
  have := h.1 _ _ _ _ h1 h2 rfl
  omega
theorem kd_l {A : Nat → Prop} {w1 w2 : va_W} (h : va_D A (w1 ++ w2)) : va_D A w1 := by
  have hk : ∀ (k : Nat) (q : Nat × va_E), w1[k]? = some q → (w1 ++ w2)[k]? = some q := fun k q hk => by rw [List.getElem?_append_left (List.getElem?_eq_some_iff.mp hk).1]; exact hk
  exact ⟨fun i j p q hi hj e => h.1 _ _ p q (hk i p hi) (hk j q hj) e, fun k q hq => h.2 _ q (hk k q hq)⟩
theorem upd_at {f : Nat → Int32} {j : Nat} {v : Int32} : upd f j v j = v := by unfold upd; rw [if_pos rfl]
theorem upd_of {f : Nat → Int32} {j i : Nat} {v : Int32} (h : i ≠ j) : upd f j v i = f i := by unfold upd; rw [if_neg h]
theorem Inv.ob0 {z : Nat → Nat} {e0 : Nat} {S : wPS} (h : Inv z e0 S) : Ob S 5 (z 0) := h.1.1 0 (by decide)
/-- the law's rows hold the planner's numbers: aisles, rooms, blocked, items -/
def q_O (O : wPS) (ra rr rb ri : Nat) (q : qS) : Prop := (Ob O 9 ra ∧ pN O ra = 3) ∧ (Ob O 9 rr ∧ pN O rr = 3) ∧ (Ob O 10 rb ∧ pN O rb = 4) ∧ (Ob O 9 ri ∧ pN O ri = 12) ∧ (ra ≠ ri ∧ rr ≠ ri ∧ rb ≠ ri ∧ ra ≠ rb ∧ rr ≠ rb ∧ ra ≠ rr) ∧ (∀ a, a < 3 → pX O ra a = nI (q 10 a) ∧ pX O rr a = nI (q 11 a)) ∧ (∀ j, j < 4 → pX O rb j = nI (q 1 j)) ∧ ∀ n, n < q 73 0 → pX O ri n = nI (q 21 n)
theorem q_O.new {O : wPS} {ra rr rb ri p kd n : Nat} {q : qS} {f : Nat → Int32} (h : q_O O ra rr rb ri q) (hp : p ∉ pL O) : q_O (setX (newA O p kd n) p f) ra rr rb ri q := by
  obtain ⟨⟨a1, a2⟩, ⟨b1, b2⟩, ⟨c1, c2⟩, ⟨d1, d2⟩, hne, h1, h2, h3⟩ := h
  have na : ra ≠ p := fun e => hp (by rw [← e]; exact a1.1)
  have nb : rr ≠ p := fun e => hp (by rw [← e]; exact b1.1)
  have nc : rb ≠ p := fun e => hp (by rw [← e]; exact c1.1)
  have nd : ri ≠ p := fun e => hp (by rw [← e]; exact d1.1)
  have N : ∀ a, a ≠ p → pN (setX (newA O p kd n) p f) a = pN O a := fun a ha => va_up_ne _ _ ha
  have X : ∀ a, a ≠ p → pX (setX (newA O p kd n) p f) a = pX O a := fun a ha => (va_up_ne _ _ ha).trans (va_up_ne _ _ ha)
  have B : ∀ {k a : Nat}, Ob O k a → Ob (setX (newA O p kd n) p f) k a := fun {k a} o => ⟨List.mem_append_left _ o.1, by show va_up (pK O) p kd a = k; rw [va_up_ne _ _ (fun e => hp (by rw [← e]; exact o.1))]; exact o.2⟩
  exact ⟨⟨B a1, (N _ na).trans a2⟩, ⟨B b1, (N _ nb).trans b2⟩, ⟨B c1, (N _ nc).trans c2⟩, ⟨B d1, (N _ nd).trans d2⟩, hne, fun a ha => by rw [X _ na, X _ nb]; exact h1 a ha, fun j hj => by rw [X _ nc]; exact h2 j hj, fun m hm => by rw [X _ nd]; exact h3 m hm⟩
theorem kp_new {O : wPS} {p kd n : Nat} {f : Nat → Int32} : Ob (setX (newA O p kd n) p f) kd p ∧ pN (setX (newA O p kd n) p f) p = n := ⟨⟨List.mem_append_right _ List.mem_cons_self, va_up_self _ _ _⟩, va_up_self _ _ _⟩
theorem q_sum_b {q : qS} {a m : Nat} (h : ∀ n, n < m → q 23 n ≤ 20) : q_sum q a m ≤ 20 * m := by
  induction m with
  | zero => exact Nat.le_refl _
  | succ m ih =>
    have := ih (fun n hn => h n (by omega))
    have := h m (by omega)
    show q_sum q a m + (if q 21 m = a ∧ q 24 m = 112 then q 23 m else 0) ≤ 20 * (m + 1)
    split <;> omega
theorem q_shp_b {q : qS} {m : Nat} (h : ∀ n, n < m → q 23 n ≤ 20) : q_shp q m ≤ 20 * m := by
  induction m with
  | zero => exact Nat.le_refl _
  | succ m ih =>
    have := ih (fun n hn => h n (by omega))
    have := h m (by omega)
    show q_shp q m + (if q 24 m = 115 then q 23 m else 0) ≤ 20 * (m + 1)
    split <;> omega
theorem q_sum_up1 {q : qS} {f : Nat → Int32} {i x : Nat} {v : Int32} (hf : ∀ a, a < 3 → f a = nI (q_sum q a i)) (hx : x = q 21 i) (hv : v.toInt = ((q_sum q (q 21 i) i + (if q 24 i = 112 then q 23 i else 0) : Nat) : Int)) (hb : q_sum q (q 21 i) i + (if q 24 i = 112 then q 23 i else 0) < 2 ^ 31) : ∀ a, a < 3 → upd f x v a = nI (q_sum q a (i + 1)) := by
  intro a ha
  subst hx
  by_cases e : a = q 21 i
  · rw [e, upd_at, kt_of hv hb]
    show _ = nI (q_sum q (q 21 i) i + (if q 21 i = q 21 i ∧ q 24 i = 112 then q 23 i else 0))
    by_cases h : q 24 i = 112
    · rw [if_pos h, if_pos ⟨rfl, h⟩]
    · rw [if_neg h, if_neg (fun h9 => h h9.2)]
  · rw [upd_of e, hf a ha, q_sum_f (fun h => e h.1.symm)]
theorem q_last_up1 {q : qS} {f : Nat → Int32} {i x m : Nat} {v : Int32} (hf : ∀ n, n < m → f n = nI (q_last q n i)) (hx : x = q 43 i) (hv : v = nI (q 44 i)) : ∀ n, n < m → upd f x v n = nI (q_last q n (i + 1)) := by
  intro n hn
  subst hx
  show _ = nI (if q 43 i = n then q 44 i else q_last q n i)
  by_cases e : n = q 43 i
  · rw [e, upd_at, if_pos rfl]; exact hv
  · rw [upd_of e, if_neg (fun h => e h.symm)]; exact hf n hn
theorem q_shp_s {q : qS} {m : Nat} : q_shp q (m + 1) = q_shp q m + (if q 24 m = 115 then q 23 m else 0) := rfl
theorem q_sc_s {q : qS} {m : Nat} : q_sc q (m + 1) = q_sc q m + (if q 24 m = 115 then 1 else 0) := by
  show (if q 24 m = 115 then q_sc q m + 1 else q_sc q m) = _
  split <;> rfl
theorem q_31 {q : qS} {r : Nat} (h : q_W q) (hr : r < 2) : q 31 r ≤ 10 := by
  rcases h.1.2.2.2.2.2.1 r hr with ⟨-, h1, -⟩ | ⟨-, -, -, h1, -⟩
  · omega
  · exact h1
theorem q_310 {q : qS} {r : Nat} (h : q_W q) (hr : r < 2) (h0 : q 30 r = 0) : q 31 r = 0 := by
  rcases h.1.2.2.2.2.2.1 r hr with ⟨-, h1, -⟩ | ⟨h1, -⟩
  · exact h1
  · omega
