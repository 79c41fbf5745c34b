theorem kz_no {n x : Int32} (hx : x = 0) (h1 : ¬ n < 0) (h2 : n < x) : False := by rw [hx] at h2; exact h1 h2
theorem kz_m {m j : Nat} {x : Int32} (hx : x = 0) (h1 : m ≤ 12) (h2 : x = nI m) (h3 : j < m) : False := by
  have h9 : nI m = nI 0 := h2.symm.trans hx
  have := (nI_eq (by omega) (by decide)).mp h9
  omega
theorem kz_2a {n : Int32} {j : Nat} (hj : j < 2) (hn : n = nI j) (h : n < 0 ∨ ¬ n < 2) : False := by
  subst hn
  rcases (show j = 0 ∨ j = 1 by omega) with rfl | rfl <;> revert h <;> decide
theorem kz_2b {n : Int32} {j : Nat} (hj : j < 2) (hn : n = nI j) (h : n < 0 ∨ 1 < n) : False := by
  subst hn
  rcases (show j = 0 ∨ j = 1 by omega) with rfl | rfl <;> revert h <;> decide
theorem kz_3a {n : Int32} {j : Nat} (hj : j < 3) (hn : n = nI j) (h : n < 0 ∨ 3 ≤ n) : False := by
  subst hn
  rcases (show j = 0 ∨ j = 1 ∨ j = 2 by omega) with rfl | rfl | rfl <;> revert h <;> decide
theorem kz_3b {n : Int32} {j : Nat} (hj : j < 3) (hn : n = nI j) (h : n < 0 ∨ 2 < n) : False := by
  subst hn
  rcases (show j = 0 ∨ j = 1 ∨ j = 2 by omega) with rfl | rfl | rfl <;> revert h <;> decide
theorem kz_4a {n : Int32} {j : Nat} (hj : j < 4) (hn : n = nI j) (h : n < 0 ∨ 4 ≤ n) : False := by
  subst hn
  rcases (show j = 0 ∨ j = 1 ∨ j = 2 ∨ j = 3 by omega) with rfl | rfl | rfl | rfl <;> revert h <;> decide
theorem kz_4b {n : Int32} {j : Nat} (hj : j < 4) (hn : n = nI j) (h : n < 0 ∨ 3 < n) : False := by
  subst hn
  rcases (show j = 0 ∨ j = 1 ∨ j = 2 ∨ j = 3 by omega) with rfl | rfl | rfl | rfl <;> revert h <;> decide
theorem kz_23 {n : Int32} (h1 : ¬ n < 0) (h2 : ¬ 3 ≤ n) (h : n < 0 ∨ 2 < n) : False := by
  rcases h with h | h
  · exact h1 h
  · rw [Int32.le_iff_toInt_le] at h2
    rw [Int32.lt_iff_toInt_lt] at h
    rw [show (3 : Int32).toInt = 3 by decide] at h2
    rw [show (2 : Int32).toInt = 2 by decide] at h
    omega
theorem kz_o {O : wPS} {o od : Nat} {v : Int64} (h : Ob O 14 o ∧ pN O o = 1 ∧ Ob O 15 od ∧ pN O od = 1) : Ob (setJ O o v) 14 o ∧ pN (setJ O o v) o = 1 ∧ Ob (setJ O o v) 15 od ∧ pN (setJ O o v) od = 1 := h
theorem kz_v {O : wPS} {o : Nat} {v : Int32} {r2 : Int32} (h : v = r2) : pJ (setJ O o v.toInt64) o = r2.toInt64 := by rw [h]; exact va_up_self _ _ _
/-- what tracked calls show is the same of both; t calls -/
def kRel (z w : Nat → Nat) (t : Nat) (S M : wPS) : Prop := pF S 72 (z 10) = pF M 101 (w 0) ∧ (∀ i, i < 4 → pF S 1 (z (2 + i)) = pX M (w 10) i ∧ pF S 2 (z (2 + i)) = pX M (w 11) i) ∧ (∀ i, i < 3 → pX S (z 6) i = pX M (w 12) i ∧ ∃ c, c ≤ 1439 ∧ pX S (z 6) i = nI c) ∧ (pF S 56 (z 0) = pF M 104 (w 0) ∧ ∃ c, c ≤ 1439 ∧ pF S 56 (z 0) = nI c) ∧ (pF S 57 (z 0) = pF M 103 (w 0) ∧ ∃ c, c ≤ 20 ∧ pF S 57 (z 0) = nI c) ∧ ∃ c, c ≤ 13 * t ∧ pF M 106 (w 0) = nI c
theorem kRel.step {z w : Nat → Nat} {t cn : Nat} {S S1 M M1 : wPS} (hR : kRel z w t S M) (hT : Tk z S S1) (hr : Mr w M M1) (hc : ∃ c9, c9 ≤ cn + 13 ∧ pF M1 106 (w 0) = nI c9) (hcn : cn ≤ 13 * t) : kRel z w (t + 1) S1 M1 := by
  obtain ⟨r1, r2, r3, ⟨r4, r4b⟩, ⟨r5, r5b⟩, -⟩ := hR
  obtain ⟨t1, t2, t3, t4, t5⟩ := hT
  obtain ⟨-, k1, k2, k3, k4, k5, k6⟩ := hr
  obtain ⟨c9, hc9, hc⟩ := hc
  exact ⟨t1.trans (r1.trans k1.symm), fun i hi => ⟨(t2 i hi).1.trans ((r2 i hi).1.trans (congrFun k4 i).symm), (t2 i hi).2.trans ((r2 i hi).2.trans (congrFun k5 i).symm)⟩, fun i hi => ⟨(t3 i hi).trans ((r3 i hi).1.trans (congrFun k6 i).symm), by rw [t3 i hi]; exact (r3 i hi).2⟩, ⟨t4.trans (r4.trans k3.symm), by rw [t4]; exact r4b⟩, ⟨t5.trans (r5.trans k2.symm), by rw [t5]; exact r5b⟩, c9, by omega, hc⟩
theorem kRel.new {z w : Nat → Nat} {S M : wPS} (hF : Fr z S) (hG : MFr w M) : kRel z w 0 S M := by
  obtain ⟨f1, f2, f3, f4, f5, f6, f7, f8, f9, f10⟩ := hF
  obtain ⟨g1, g2, g3, g4⟩ := hG
  exact ⟨f1.trans (g1 101 (by decide) (by decide)).symm, fun i hi => ⟨(f8 i hi).1.trans (g2 i hi).1.symm, (f8 i hi).2.trans (g2 i hi).2.symm⟩, fun i hi => ⟨(f9 i hi).trans (g3 i hi).symm, 1439, Nat.le_refl _, f9 i hi⟩, ⟨f4.trans (g1 104 (by decide) (by decide)).symm, 0, by decide, f4⟩, ⟨f5.trans (g1 103 (by decide) (by decide)).symm, 0, by decide, f5⟩, 0, by decide, g1 106 (by decide) (by decide)⟩
theorem upd_at {f : Nat → Int32} {j : Nat} {v : Int32} : upd f j v j = v := by unfold upd; rw [if_pos rfl]
theorem upd_of {f : Nat → Int32} {j i : Nat} {v : Int32} (h : i ≠ j) : upd f j v i = f i := by unfold upd; rw [if_neg h]
theorem kz_ne {z : Nat → Nat} {e0 : Nat} {S : wPS} (h : Inv z e0 S) {i j : Nat} (hi : i < 15) (hj : j < 15) (hij : i ≠ j) : z i ≠ z j := fun e => hij (h.1.2 i j hi hj e)
theorem kRel.bl {z w : Nat → Nat} {e0 t j : Nat} {S M : wPS} {v : Int32} (hR : kRel z w t S M) (hI : Inv z e0 S) (hMI : MI w M) (hj : j < 4) : kRel z w t (setF S 1 (z (2 + j)) v) (setX M (w 10) (upd (pX M (w 10)) j v)) := by
  obtain ⟨r1, r2, r3, ⟨r4, r4b⟩, ⟨r5, r5b⟩, r6⟩ := hR
  have x11 : pX (setX M (w 10) (upd (pX M (w 10)) j v)) (w 11) = pX M (w 11) := va_up_ne _ _ (hMI.ne (by decide) (by decide) (by decide))
  have x12 : pX (setX M (w 10) (upd (pX M (w 10)) j v)) (w 12) = pX M (w 12) := va_up_ne _ _ (hMI.ne (by decide) (by decide) (by decide))
  have x10 : pX (setX M (w 10) (upd (pX M (w 10)) j v)) (w 10) = upd (pX M (w 10)) j v := va_up_self _ _ _
  refine ⟨(uF_of (Or.inl (by decide))).trans r1, fun i hi => ⟨?_, (uF_of (Or.inl (by decide))).trans ((r2 i hi).2.trans (congrFun x11 i).symm)⟩, fun i hi => ⟨(r3 i hi).1.trans (congrFun x12 i).symm, (r3 i hi).2⟩, ⟨(uF_of (Or.inl (by decide))).trans r4, r4b.elim fun c h => ⟨c, h.1, (uF_of (Or.inl (by decide))).trans h.2⟩⟩, ⟨(uF_of (Or.inl (by decide))).trans r5, r5b.elim fun c h => ⟨c, h.1, (uF_of (Or.inl (by decide))).trans h.2⟩⟩, r6⟩
  rw [x10]
  by_cases e : i = j
  · rw [e, uF_at, upd_at]
  · rw [uF_of (Or.inr (kz_ne hI (by omega) (by omega) (by omega))), upd_of e]; exact (r2 i hi).1
theorem kRel.pi {z w : Nat → Nat} {e0 t j : Nat} {S M : wPS} {v : Int32} (hR : kRel z w t S M) (hI : Inv z e0 S) (hMI : MI w M) (hj : j < 4) : kRel z w t (setF S 2 (z (2 + j)) v) (setX M (w 11) (upd (pX M (w 11)) j v)) := by
  obtain ⟨r1, r2, r3, ⟨r4, r4b⟩, ⟨r5, r5b⟩, r6⟩ := hR
  have x10 : pX (setX M (w 11) (upd (pX M (w 11)) j v)) (w 10) = pX M (w 10) := va_up_ne _ _ (hMI.ne (by decide) (by decide) (by decide))
  have x12 : pX (setX M (w 11) (upd (pX M (w 11)) j v)) (w 12) = pX M (w 12) := va_up_ne _ _ (hMI.ne (by decide) (by decide) (by decide))
  have x11 : pX (setX M (w 11) (upd (pX M (w 11)) j v)) (w 11) = upd (pX M (w 11)) j v := va_up_self _ _ _
  refine ⟨(uF_of (Or.inl (by decide))).trans r1, fun i hi => ⟨(uF_of (Or.inl (by decide))).trans ((r2 i hi).1.trans (congrFun x10 i).symm), ?_⟩, fun i hi => ⟨(r3 i hi).1.trans (congrFun x12 i).symm, (r3 i hi).2⟩, ⟨(uF_of (Or.inl (by decide))).trans r4, r4b.elim fun c h => ⟨c, h.1, (uF_of (Or.inl (by decide))).trans h.2⟩⟩, ⟨(uF_of (Or.inl (by decide))).trans r5, r5b.elim fun c h => ⟨c, h.1, (uF_of (Or.inl (by decide))).trans h.2⟩⟩, r6⟩
  rw [x11]
  by_cases e : i = j
  · rw [e, uF_at, upd_at]
  · rw [uF_of (Or.inr (kz_ne hI (by omega) (by omega) (by omega))), upd_of e]; exact (r2 i hi).2
theorem kRel.cu {z w : Nat → Nat} {t j : Nat} {S M : wPS} {v : Int32} (hR : kRel z w t S M) (hMI : MI w M) (hv : ∃ c, c ≤ 1439 ∧ v = nI c) : kRel z w t (setX S (z 6) (upd (pX S (z 6)) j v)) (setX M (w 12) (upd (pX M (w 12)) j v)) := by
  obtain ⟨r1, r2, r3, ⟨r4, r4b⟩, ⟨r5, r5b⟩, r6⟩ := hR
  have x10 : pX (setX M (w 12) (upd (pX M (w 12)) j v)) (w 10) = pX M (w 10) := va_up_ne _ _ (hMI.ne (by decide) (by decide) (by decide))
  have x11 : pX (setX M (w 12) (upd (pX M (w 12)) j v)) (w 11) = pX M (w 11) := va_up_ne _ _ (hMI.ne (by decide) (by decide) (by decide))
  have x12 : pX (setX M (w 12) (upd (pX M (w 12)) j v)) (w 12) = upd (pX M (w 12)) j v := va_up_self _ _ _
  have y6 : pX (setX S (z 6) (upd (pX S (z 6)) j v)) (z 6) = upd (pX S (z 6)) j v := va_up_self _ _ _
  refine ⟨r1, fun i hi => ⟨(r2 i hi).1.trans (congrFun x10 i).symm, (r2 i hi).2.trans (congrFun x11 i).symm⟩, fun i hi => ?_, ⟨r4, r4b⟩, ⟨r5, r5b⟩, r6⟩
  rw [x12, y6]
  by_cases e : i = j
  · rw [e, upd_at, upd_at]; exact ⟨rfl, hv⟩
  · rw [upd_of e, upd_of e]; exact r3 i hi
theorem kRel.mn {z w : Nat → Nat} {t : Nat} {S M : wPS} {u v : Int32} (hR : kRel z w t S M) (huv : u = v) (hv : ∃ c, c ≤ 1439 ∧ u = nI c) : kRel z w t (setF S 56 (z 0) u) (setF M 104 (w 0) v) := by
  obtain ⟨r1, r2, r3, ⟨r4, r4b⟩, ⟨r5, r5b⟩, r6⟩ := hR
  exact ⟨(uF_of (Or.inl (by decide))).trans (r1.trans (uF_of (Or.inl (by decide))).symm), fun i hi => ⟨(uF_of (Or.inl (by decide))).trans (r2 i hi).1, (uF_of (Or.inl (by decide))).trans (r2 i hi).2⟩, r3, ⟨uF_at.trans (huv.trans uF_at.symm), hv.elim fun c h => ⟨c, h.1, uF_at.trans h.2⟩⟩, ⟨(uF_of (Or.inl (by decide))).trans (r5.trans (uF_of (Or.inl (by decide))).symm), r5b.elim fun c h => ⟨c, h.1, (uF_of (Or.inl (by decide))).trans h.2⟩⟩, r6.elim fun c h => ⟨c, h.1, (uF_of (Or.inl (by decide))).trans h.2⟩⟩
theorem kRel.wv {z w : Nat → Nat} {t : Nat} {S M : wPS} {u v : Int32} (hR : kRel z w t S M) (huv : u = v) (hv : ∃ c, c ≤ 20 ∧ u = nI c) : kRel z w t (setF S 57 (z 0) u) (setF M 103 (w 0) v) := by
  obtain ⟨r1, r2, r3, ⟨r4, r4b⟩, ⟨r5, r5b⟩, r6⟩ := hR
  exact ⟨(uF_of (Or.inl (by decide))).trans (r1.trans (uF_of (Or.inl (by decide))).symm), fun i hi => ⟨(uF_of (Or.inl (by decide))).trans (r2 i hi).1, (uF_of (Or.inl (by decide))).trans (r2 i hi).2⟩, r3, ⟨(uF_of (Or.inl (by decide))).trans (r4.trans (uF_of (Or.inl (by decide))).symm), r4b.elim fun c h => ⟨c, h.1, (uF_of (Or.inl (by decide))).trans h.2⟩⟩, ⟨uF_at.trans (huv.trans uF_at.symm), hv.elim fun c h => ⟨c, h.1, uF_at.trans h.2⟩⟩, r6.elim fun c h => ⟨c, h.1, (uF_of (Or.inl (by decide))).trans h.2⟩⟩
/-- another article on both sides -/
theorem kRel.ar {z w : Nat → Nat} {t cn q : Nat} {S S1 M M1 : wPS} (hR : kRel z w t S M) (h1 : pF S1 72 (z 10) = nI q) (h2 : pF M1 101 (w 0) = nI q) (hT : Tr z S S1) (hr : Mq w M M1) (hc : ∃ c9, c9 ≤ cn + 13 ∧ pF M1 106 (w 0) = nI c9) (hcn : cn ≤ 13 * t) : kRel z w (t + 1) S1 M1 := by
  obtain ⟨r1, r2, r3, ⟨r4, r4b⟩, ⟨r5, r5b⟩, -⟩ := hR
  obtain ⟨t2, t3, t4, t5⟩ := hT
  obtain ⟨-, k2, k3, k4, k5, k6⟩ := hr
  obtain ⟨c9, hc9, hc⟩ := hc
  exact ⟨h1.trans h2.symm, fun i hi => ⟨(t2 i hi).1.trans ((r2 i hi).1.trans (congrFun k4 i).symm), (t2 i hi).2.trans ((r2 i hi).2.trans (congrFun k5 i).symm)⟩, fun i hi => ⟨(t3 i hi).trans ((r3 i hi).1.trans (congrFun k6 i).symm), by rw [t3 i hi]; exact (r3 i hi).2⟩, ⟨t4.trans (r4.trans k3.symm), by rw [t4]; exact r4b⟩, ⟨t5.trans (r5.trans k2.symm), by rw [t5]; exact r5b⟩, c9, by omega, hc⟩
/-- a number within bounds is a nI -/
theorem kbd {v : Int32} {N : Nat} {b : Int32} (hb : b = nI N) (hN : N < 2 ^ 31) (h1 : ¬ v < 0) (h2 : ¬ b < v) : ∃ c, c ≤ N ∧ v = nI c := nI_of2 (M := b) (by rw [hb]; exact nI_toInt hN) h1 (Int32.not_lt.mp h2)
theorem kml {a b : Int32} {c d : Nat} (ha : a = nI c) (hb : b = nI d) (hc : c ≤ 1439) (hd : d ≤ 1439) : (if a - b < 0 then -1 else a - b) = (if a < b then -1 else a - b) := by
  have e : a - b < 0 ↔ a < b := by
    rw [Int32.lt_iff_toInt_lt, Int32.lt_iff_toInt_lt, Int32.toInt_sub, ha, hb, nI_toInt (by omega), nI_toInt (by omega), show (0 : Int32).toInt = 0 by decide, Int.bmod_eq_of_le (by omega) (by omega)]
    omega
  by_cases h : a < b
  · rw [if_pos (e.mpr h), if_pos h]
  · rw [if_neg (fun h9 => h (e.mp h9)), if_neg h]
theorem kjj {n : Int32} {j i : Nat} (hj : j < 15) (hi : i < 15) (h1 : n = nI j) (h2 : n = nI i) : j = i := (nI_eq (by omega) (by omega)).mp (h1.symm.trans h2)
theorem kadd {x n : Int32} {c : Nat} (hc : c ≤ 1439) (hx : x = nI c) (h1 : ¬ n < 1) (h2 : ¬ 60 < n) (h3 : ¬ 1439 < x + n) : ∃ d, d ≤ 1439 ∧ x + n = nI d := by
  obtain ⟨q, hq, rfl⟩ := nI_of2 (x := n) (M := 60) (n := 60) (by decide) (fun h => h1 (Int32.lt_trans h (by decide))) (Int32.not_lt.mp h2)
  rw [hx, nI_add] at h3
  refine ⟨c + q, ?_, by rw [hx, nI_add]⟩
  rcases Nat.lt_or_ge 1439 (c + q) with h | h
  · exact absurd (nI_lt h (by omega)) h3
  · exact h
