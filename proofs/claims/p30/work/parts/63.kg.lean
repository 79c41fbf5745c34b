theorem kg_addArticle {z w : Nat → Nat} {e0 t cn : Nat} {S M S1 M1 : wPS} {O O1 : wPS} {o od : Nat} {n1 n2 n3 n4 : Int32} {r : Int32} {r2 : Int32} (hI : Inv z e0 S) (hMI : MI w M) (hR : kRel z w t S M) (hcn : cn ≤ 13 * t) (hc : pF M 106 (w 0) = nI cn) (ho : Ob O 14 o ∧ pN O o = 1 ∧ Ob O 15 od ∧ pN O od = 1) (hp : (r = 0 ∧ ∃ v9 : Int32, (¬ aOut n1 n2 n3 n4 ∧ ∃ n, n + 1 ≤ 6 ∧ pF S 72 (z 10) = nI n ∧ v9 = nI n ∧ pF S1 72 (z 10) = nI (n + 1) ∧ Inv z e0 S1 ∧ Tr z S S1) ∧ O1 = setJ O o v9.toInt64) ∨ (r = 1 ∧ ((xA = xA ∧ aOut n1 n2 n3 n4) ∨ (xA = xS ∧ ¬ aOut n1 n2 n3 n4 ∧ ¬ pF S 72 (z 10) < 6)) ∧ S1 = S ∧ O1 = O) ∨ (r = 2 ∧ ((xS = xA ∧ aOut n1 n2 n3 n4) ∨ (xS = xS ∧ ¬ aOut n1 n2 n3 n4 ∧ ¬ pF S 72 (z 10) < 6)) ∧ S1 = S ∧ O1 = O)) (hm : pF M1 106 (w 0) = pF M 106 (w 0) ∧ ((aOut n1 n2 n3 n4 ∧ pF M1 100 (w 0) = 1 ∧ Mr w M M1) ∨ (¬ aOut n1 n2 n3 n4 ∧ pF M 101 (w 0) = 6 ∧ pF M1 100 (w 0) = 2 ∧ Mr w M M1) ∨ (¬ aOut n1 n2 n3 n4 ∧ pF M1 100 (w 0) = 0 ∧ ∃ n, n < 6 ∧ pF M 101 (w 0) = nI n ∧ r2 = nI n ∧ pF M1 101 (w 0) = nI (n + 1) ∧ Mq w M M1))) : (Inv z e0 S1 ∧ MI w M1 ∧ kRel z w (t + 1) S1 M1) ∧ (Ob O1 14 o ∧ pN O1 o = 1 ∧ Ob O1 15 od ∧ pN O1 od = 1) := by
  have hR0 := hR
  obtain ⟨r1, r2_, r3, ⟨r4, r4b⟩, ⟨r5, r5b⟩, -⟩ := hR0
  obtain ⟨hc6, hm⟩ := hm
  have h9 : ∃ c9, c9 ≤ cn + 13 ∧ pF M1 106 (w 0) = nI c9 := ⟨cn, by omega, hc6.trans hc⟩
  rcases hp with ⟨rfl, v9, ⟨h1, q, hq, h2, h3, h4, hI1, hT⟩, rfl⟩ | ⟨rfl, hx, rfl, rfl⟩ | ⟨rfl, hx, rfl, rfl⟩
  · rcases hm with ⟨k1, k2, hr⟩ | ⟨k1, k2, k3, hr⟩ | ⟨k1, k2, q2, hq2, k4, k5, k6, hr⟩
    · exact absurd k1 h1
    · exact absurd ((nI_eq (b := 6) (by omega) (by decide)).mp (h2.symm.trans (r1.trans k2))) (by omega)
    · obtain rfl : q = q2 := (nI_eq (by omega) (by omega)).mp (h2.symm.trans (r1.trans k4))
      exact ⟨⟨hI1, hr.1, hR.ar h4 k6 hT hr h9 hcn⟩, kz_o ho⟩
  · rcases hx with ⟨-, hx⟩ | ⟨e9, -⟩
    · rcases hm with ⟨k1, k2, hr⟩ | ⟨k1, -⟩ | ⟨k1, -⟩
      · exact ⟨⟨hI, hr.1, hR.step Tk.rf hr h9 hcn⟩, ho⟩
      · exact absurd hx k1
      · exact absurd hx k1
    · exact absurd e9 (by decide +kernel)
  · rcases hx with ⟨e9, -⟩ | ⟨-, ha, hx⟩
    · exact absurd e9 (by decide +kernel)
    · rcases hm with ⟨k1, k2, hr⟩ | ⟨k1, k2, k3, hr⟩ | ⟨k1, k2, q2, hq2, k4, k5, k6, hr⟩
      · exact absurd k1 ha
      · exact ⟨⟨hI, hr.1, hR.step Tk.rf hr h9 hcn⟩, ho⟩
      · exact absurd (by rw [r1, k4]; exact nI_lt (b := 6) hq2 (by decide)) hx
theorem kg_stock {z w : Nat → Nat} {e0 t cn : Nat} {S M S1 M1 : wPS} {O O1 : wPS} {o od : Nat} {n1 : Int32} {r : Int32} (hI : Inv z e0 S) (hMI : MI w M) (hR : kRel z w t S M) (hcn : cn ≤ 13 * t) (hc : pF M 106 (w 0) = nI cn) (ho : Ob O 14 o ∧ pN O o = 1 ∧ Ob O 15 od ∧ pN O od = 1) (hp : (r = 0 ∧ ∃ v9 : Int32, (S1 = S ∧ ¬ n1 < 0 ∧ n1 < pF S 72 (z 10)) ∧ O1 = setJ O o v9.toInt64) ∨ (r = 1 ∧ (xI = xI ∧ (n1 < 0 ∨ ¬ n1 < pF S 72 (z 10))) ∧ S1 = S ∧ O1 = O)) (hm : Mr w M M1 ∧ pF M1 106 (w 0) = pF M 106 (w 0) ∧ (pF M1 100 (w 0) = 1 ∨ (∃ m, m ≤ 6 ∧ pF M 101 (w 0) = nI m ∧ ∃ j, j < m ∧ n1 = nI j))) : (Inv z e0 S1 ∧ MI w M1 ∧ kRel z w (t + 1) S1 M1) ∧ (Ob O1 14 o ∧ pN O1 o = 1 ∧ Ob O1 15 od ∧ pN O1 od = 1) := by
  have hR0 := hR
  obtain ⟨r1, r2_, r3, ⟨r4, r4b⟩, ⟨r5, r5b⟩, -⟩ := hR0
  obtain ⟨hr, hc6, -⟩ := hm
  have h9 : ∃ c9, c9 ≤ cn + 13 ∧ pF M1 106 (w 0) = nI c9 := ⟨cn, by omega, hc6.trans hc⟩
  rcases hp with ⟨rfl, v9, ⟨rfl, -⟩, rfl⟩ | ⟨rfl, -, rfl, rfl⟩
  · exact ⟨⟨hI, hr.1, hR.step Tk.rf hr h9 hcn⟩, kz_o ho⟩
  · exact ⟨⟨hI, hr.1, hR.step Tk.rf hr h9 hcn⟩, ho⟩
theorem kg_reserve {z w : Nat → Nat} {e0 t cn : Nat} {S M S1 M1 : wPS} {O O1 : wPS} {o od : Nat} {n1 : Int32} {r : Int32} (hI : Inv z e0 S) (hMI : MI w M) (hR : kRel z w t S M) (hcn : cn ≤ 13 * t) (hc : pF M 106 (w 0) = nI cn) (ho : Ob O 14 o ∧ pN O o = 1 ∧ Ob O 15 od ∧ pN O od = 1) (hp : (r = 0 ∧ ∃ v9 : Int32, (S1 = S ∧ ¬ n1 < 0 ∧ n1 < pF S 72 (z 10)) ∧ O1 = setJ O o v9.toInt64) ∨ (r = 1 ∧ (xI = xI ∧ (n1 < 0 ∨ ¬ n1 < pF S 72 (z 10))) ∧ S1 = S ∧ O1 = O)) (hm : Mr w M M1 ∧ pF M1 106 (w 0) = pF M 106 (w 0) ∧ (pF M1 100 (w 0) = 1 ∨ (∃ m, m ≤ 6 ∧ pF M 101 (w 0) = nI m ∧ ∃ j, j < m ∧ n1 = nI j))) : (Inv z e0 S1 ∧ MI w M1 ∧ kRel z w (t + 1) S1 M1) ∧ (Ob O1 14 o ∧ pN O1 o = 1 ∧ Ob O1 15 od ∧ pN O1 od = 1) := by
  have hR0 := hR
  obtain ⟨r1, r2_, r3, ⟨r4, r4b⟩, ⟨r5, r5b⟩, -⟩ := hR0
  obtain ⟨hr, hc6, -⟩ := hm
  have h9 : ∃ c9, c9 ≤ cn + 13 ∧ pF M1 106 (w 0) = nI c9 := ⟨cn, by omega, hc6.trans hc⟩
  rcases hp with ⟨rfl, v9, ⟨rfl, -⟩, rfl⟩ | ⟨rfl, -, rfl, rfl⟩
  · exact ⟨⟨hI, hr.1, hR.step Tk.rf hr h9 hcn⟩, kz_o ho⟩
  · exact ⟨⟨hI, hr.1, hR.step Tk.rf hr h9 hcn⟩, ho⟩
theorem kg_free {z w : Nat → Nat} {e0 t cn : Nat} {S M S1 M1 : wPS} {O O1 : wPS} {o od : Nat} {n1 : Int32} {r : Int32} (hI : Inv z e0 S) (hMI : MI w M) (hR : kRel z w t S M) (hcn : cn ≤ 13 * t) (hc : pF M 106 (w 0) = nI cn) (ho : Ob O 14 o ∧ pN O o = 1 ∧ Ob O 15 od ∧ pN O od = 1) (hp : (r = 0 ∧ ∃ v9 : Int32, (S1 = S ∧ ¬ n1 < 0 ∧ n1 < pF S 72 (z 10)) ∧ O1 = setJ O o v9.toInt64) ∨ (r = 1 ∧ (xI = xI ∧ (n1 < 0 ∨ ¬ n1 < pF S 72 (z 10))) ∧ S1 = S ∧ O1 = O)) (hm : Mr w M M1 ∧ pF M1 106 (w 0) = pF M 106 (w 0) ∧ (pF M1 100 (w 0) = 1 ∨ (∃ m, m ≤ 6 ∧ pF M 101 (w 0) = nI m ∧ ∃ j, j < m ∧ n1 = nI j))) : (Inv z e0 S1 ∧ MI w M1 ∧ kRel z w (t + 1) S1 M1) ∧ (Ob O1 14 o ∧ pN O1 o = 1 ∧ Ob O1 15 od ∧ pN O1 od = 1) := by
  have hR0 := hR
  obtain ⟨r1, r2_, r3, ⟨r4, r4b⟩, ⟨r5, r5b⟩, -⟩ := hR0
  obtain ⟨hr, hc6, -⟩ := hm
  have h9 : ∃ c9, c9 ≤ cn + 13 ∧ pF M1 106 (w 0) = nI c9 := ⟨cn, by omega, hc6.trans hc⟩
  rcases hp with ⟨rfl, v9, ⟨rfl, -⟩, rfl⟩ | ⟨rfl, -, rfl, rfl⟩
  · exact ⟨⟨hI, hr.1, hR.step Tk.rf hr h9 hcn⟩, kz_o ho⟩
  · exact ⟨⟨hI, hr.1, hR.step Tk.rf hr h9 hcn⟩, ho⟩
theorem kg_promised {z w : Nat → Nat} {e0 t cn : Nat} {S M S1 M1 : wPS} {O O1 : wPS} {o od : Nat} {n1 : Int32} {r : Int32} (hI : Inv z e0 S) (hMI : MI w M) (hR : kRel z w t S M) (hcn : cn ≤ 13 * t) (hc : pF M 106 (w 0) = nI cn) (ho : Ob O 14 o ∧ pN O o = 1 ∧ Ob O 15 od ∧ pN O od = 1) (hp : (r = 0 ∧ ∃ v9 : Int32, (S1 = S ∧ ¬ n1 < 0 ∧ n1 < pF S 72 (z 10)) ∧ O1 = setJ O o v9.toInt64) ∨ (r = 1 ∧ (xI = xI ∧ (n1 < 0 ∨ ¬ n1 < pF S 72 (z 10))) ∧ S1 = S ∧ O1 = O)) (hm : Mr w M M1 ∧ pF M1 106 (w 0) = pF M 106 (w 0) ∧ (pF M1 100 (w 0) = 1 ∨ (∃ m, m ≤ 6 ∧ pF M 101 (w 0) = nI m ∧ ∃ j, j < m ∧ n1 = nI j))) : (Inv z e0 S1 ∧ MI w M1 ∧ kRel z w (t + 1) S1 M1) ∧ (Ob O1 14 o ∧ pN O1 o = 1 ∧ Ob O1 15 od ∧ pN O1 od = 1) := by
  have hR0 := hR
  obtain ⟨r1, r2_, r3, ⟨r4, r4b⟩, ⟨r5, r5b⟩, -⟩ := hR0
  obtain ⟨hr, hc6, -⟩ := hm
  have h9 : ∃ c9, c9 ≤ cn + 13 ∧ pF M1 106 (w 0) = nI c9 := ⟨cn, by omega, hc6.trans hc⟩
  rcases hp with ⟨rfl, v9, ⟨rfl, -⟩, rfl⟩ | ⟨rfl, -, rfl, rfl⟩
  · exact ⟨⟨hI, hr.1, hR.step Tk.rf hr h9 hcn⟩, kz_o ho⟩
  · exact ⟨⟨hI, hr.1, hR.step Tk.rf hr h9 hcn⟩, ho⟩
theorem kg_promisedByScans {z w : Nat → Nat} {e0 t cn : Nat} {S M S1 M1 : wPS} {O O1 : wPS} {o od : Nat} {n1 : Int32} {r : Int32} (hI : Inv z e0 S) (hMI : MI w M) (hR : kRel z w t S M) (hcn : cn ≤ 13 * t) (hc : pF M 106 (w 0) = nI cn) (ho : Ob O 14 o ∧ pN O o = 1 ∧ Ob O 15 od ∧ pN O od = 1) (hp : (r = 0 ∧ ∃ v9 : Int32, (S1 = S ∧ ¬ n1 < 0 ∧ n1 < pF S 72 (z 10)) ∧ O1 = setJ O o v9.toInt64) ∨ (r = 1 ∧ (xI = xI ∧ (n1 < 0 ∨ ¬ n1 < pF S 72 (z 10))) ∧ S1 = S ∧ O1 = O)) (hm : Mr w M M1 ∧ pF M1 106 (w 0) = pF M 106 (w 0) ∧ (pF M1 100 (w 0) = 1 ∨ (∃ m, m ≤ 6 ∧ pF M 101 (w 0) = nI m ∧ ∃ j, j < m ∧ n1 = nI j))) : (Inv z e0 S1 ∧ MI w M1 ∧ kRel z w (t + 1) S1 M1) ∧ (Ob O1 14 o ∧ pN O1 o = 1 ∧ Ob O1 15 od ∧ pN O1 od = 1) := by
  have hR0 := hR
  obtain ⟨r1, r2_, r3, ⟨r4, r4b⟩, ⟨r5, r5b⟩, -⟩ := hR0
  obtain ⟨hr, hc6, -⟩ := hm
  have h9 : ∃ c9, c9 ≤ cn + 13 ∧ pF M1 106 (w 0) = nI c9 := ⟨cn, by omega, hc6.trans hc⟩
  rcases hp with ⟨rfl, v9, ⟨rfl, -⟩, rfl⟩ | ⟨rfl, -, rfl, rfl⟩
  · exact ⟨⟨hI, hr.1, hR.step Tk.rf hr h9 hcn⟩, kz_o ho⟩
  · exact ⟨⟨hI, hr.1, hR.step Tk.rf hr h9 hcn⟩, ho⟩
theorem kg_setBlocked {z w : Nat → Nat} {e0 t cn : Nat} {S M S1 M1 : wPS} {O O1 : wPS} {o od : Nat} {n1 n2 : Int32} {r : Int32} {r2 : Int32} (hv : kBo n2) (hI : Inv z e0 S) (hMI : MI w M) (hR : kRel z w t S M) (hcn : cn ≤ 13 * t) (hc : pF M 106 (w 0) = nI cn) (ho : Ob O 14 o ∧ pN O o = 1 ∧ Ob O 15 od ∧ pN O od = 1) (hp : (r = 0 ∧ ∃ v9 : Int32, (∃ j, j < 4 ∧ n1 = nI j ∧ v9 = pF S 1 (z (2 + j)) ∧ Inv z e0 S1 ∧ Tk z (setF S 1 (z (2 + j)) n2) S1) ∧ ((¬ v9 = 0 ∧ O1 = setJ O o 1) ∨ (v9 = 0 ∧ O1 = setJ O o 0))) ∨ (r = 1 ∧ (xI = xI ∧ (n1 < 0 ∨ 4 ≤ n1)) ∧ S1 = S ∧ O1 = O)) (hm : kBo r2 ∧ (∃ c9, c9 ≤ cn + 13 ∧ pF M1 106 (w 0) = nI c9) ∧ ((pF M1 100 (w 0) = 1 ∧ (n1 < 0 ∨ 3 < n1) ∧ Mr w M M1) ∨ (pF M1 100 (w 0) = 0 ∧ ∃ j, j < 4 ∧ n1 = nI j ∧ r2 = pX M (w 10) j ∧ Mr w (setX M (w 10) (upd (pX M (w 10)) j n2)) M1))) : (Inv z e0 S1 ∧ MI w M1 ∧ kRel z w (t + 1) S1 M1) ∧ (Ob O1 14 o ∧ pN O1 o = 1 ∧ Ob O1 15 od ∧ pN O1 od = 1) := by
  have hR0 := hR
  obtain ⟨r1, r2_, r3, ⟨r4, r4b⟩, ⟨r5, r5b⟩, -⟩ := hR0
  obtain ⟨hb2, h9, hm⟩ := hm
  rcases hp with ⟨rfl, v9, ⟨j, hj, hn, hv1, hI1, hk⟩, hO⟩ | ⟨rfl, ⟨-, hx⟩, rfl, rfl⟩
  · rcases hm with ⟨h1, h2, hr⟩ | ⟨h1, j2, hj2, hn2, hv2, hr⟩
    · exact (kz_4b hj hn h2).elim
    · obtain rfl := kjj (by omega) (by omega) hn hn2
      have hvv : v9 = r2 := hv1.trans ((r2_ j hj).1.trans hv2.symm)
      have hoo : Ob O1 14 o ∧ pN O1 o = 1 ∧ Ob O1 15 od ∧ pN O1 od = 1 := by rcases hO with ⟨-, rfl⟩ | ⟨-, rfl⟩ <;> exact kz_o ho
      exact ⟨⟨hI1, hr.1, (hR.bl hI hMI hj).step hk hr h9 hcn⟩, hoo⟩
  · rcases hm with ⟨h1, h2, hr⟩ | ⟨h1, j2, hj2, hn2, hv2, hr⟩
    · exact ⟨⟨hI, hr.1, hR.step Tk.rf hr h9 hcn⟩, ho⟩
    · exact (kz_4a hj2 hn2 hx).elim
theorem kg_setPickers {z w : Nat → Nat} {e0 t cn : Nat} {S M S1 M1 : wPS} {O O1 : wPS} {o od : Nat} {n1 n2 : Int32} {r : Int32} {r2 : Int32} (hI : Inv z e0 S) (hMI : MI w M) (hR : kRel z w t S M) (hcn : cn ≤ 13 * t) (hc : pF M 106 (w 0) = nI cn) (ho : Ob O 14 o ∧ pN O o = 1 ∧ Ob O 15 od ∧ pN O od = 1) (hp : (r = 0 ∧ ∃ v9 : Int32, (∃ j, j < 4 ∧ n1 = nI j ∧ (¬ n2 < 0 ∧ ¬ 9 < n2) ∧ v9 = pF S 2 (z (2 + j)) ∧ S1 = setF S 2 (z (2 + j)) n2) ∧ O1 = setJ O o v9.toInt64) ∨ (r = 1 ∧ ((xI = xI ∧ (n1 < 0 ∨ 4 ≤ n1)) ∨ (xI = xA ∧ (∃ j, j < 4 ∧ n1 = nI j) ∧ (n2 < 0 ∨ 9 < n2))) ∧ S1 = S ∧ O1 = O) ∨ (r = 2 ∧ ((xA = xI ∧ (n1 < 0 ∨ 4 ≤ n1)) ∨ (xA = xA ∧ (∃ j, j < 4 ∧ n1 = nI j) ∧ (n2 < 0 ∨ 9 < n2))) ∧ S1 = S ∧ O1 = O)) (hm : pF M1 106 (w 0) = pF M 106 (w 0) ∧ ((pF M1 100 (w 0) = 1 ∧ (n1 < 0 ∨ 3 < n1) ∧ Mr w M M1) ∨ ∃ j, j < 4 ∧ n1 = nI j ∧ ((pF M1 100 (w 0) = 2 ∧ (n2 < 0 ∨ 9 < n2) ∧ Mr w M M1) ∨ (pF M1 100 (w 0) = 0 ∧ (¬ n2 < 0 ∧ ¬ 9 < n2) ∧ r2 = pX M (w 11) j ∧ Mr w (setX M (w 11) (upd (pX M (w 11)) j n2)) M1)))) : (Inv z e0 S1 ∧ MI w M1 ∧ kRel z w (t + 1) S1 M1) ∧ (Ob O1 14 o ∧ pN O1 o = 1 ∧ Ob O1 15 od ∧ pN O1 od = 1) := by
  have hR0 := hR
  obtain ⟨r1, r2_, r3, ⟨r4, r4b⟩, ⟨r5, r5b⟩, -⟩ := hR0
  obtain ⟨hc6, hm⟩ := hm
  have h9 : ∃ c9, c9 ≤ cn + 13 ∧ pF M1 106 (w 0) = nI c9 := ⟨cn, by omega, hc6.trans hc⟩
  rcases hp with ⟨rfl, v9, ⟨j, hj, hn, hb, hv, rfl⟩, rfl⟩ | ⟨rfl, hx, rfl, rfl⟩ | ⟨rfl, hx, rfl, rfl⟩
  · rcases hm with ⟨h1, h2, hr⟩ | ⟨j2, hj2, hn2, ⟨h1, h2, hr⟩ | ⟨h1, h2, hv2, hr⟩⟩
    · exact (kz_4b hj hn h2).elim
    · exact (h2.elim hb.1 hb.2).elim
    · obtain rfl := kjj (by omega) (by omega) hn hn2
      exact ⟨⟨hI.setU (by decide), hr.1, (hR.pi hI hMI hj).step Tk.rf hr h9 hcn⟩, kz_o ho⟩
  · rcases hx with ⟨-, hx⟩ | ⟨e9, -⟩
    · rcases hm with ⟨h1, h2, hr⟩ | ⟨j2, hj2, hn2, -⟩
      · exact ⟨⟨hI, hr.1, hR.step Tk.rf hr h9 hcn⟩, ho⟩
      · exact (kz_4a hj2 hn2 hx).elim
    · exact absurd e9 (by decide +kernel)
  · rcases hx with ⟨e9, -⟩ | ⟨-, ⟨j, hj, hn⟩, hb⟩
    · exact absurd e9 (by decide +kernel)
    · rcases hm with ⟨h1, h2, hr⟩ | ⟨j2, hj2, hn2, ⟨h1, h2, hr⟩ | ⟨h1, h2, hv2, hr⟩⟩
      · exact (kz_4b hj hn h2).elim
      · exact ⟨⟨hI, hr.1, hR.step Tk.rf hr h9 hcn⟩, ho⟩
      · exact (hb.elim h2.1 h2.2).elim
theorem kg_giveBack {z w : Nat → Nat} {e0 t cn : Nat} {S M S1 M1 : wPS} {O O1 : wPS} {o od : Nat} {n1 n2 n3 : Int32} {r : Int32} (hI : Inv z e0 S) (hMI : MI w M) (hR : kRel z w t S M) (hcn : cn ≤ 13 * t) (hc : pF M 106 (w 0) = nI cn) (ho : Ob O 14 o ∧ pN O o = 1 ∧ Ob O 15 od ∧ pN O od = 1) (hp : (r = 0 ∧ ∃ v9 : Int32, (Kp z S S1 ∧ (¬ n1 < 0 ∧ n1 < pF S 72 (z 10))) ∧ O1 = setJ O o v9.toInt64) ∨ (r = 1 ∧ ((xI = xI ∧ (n1 < 0 ∨ ¬ n1 < pF S 72 (z 10))) ∨ ((xI = xA ∨ xI = xS) ∧ (¬ n1 < 0 ∧ n1 < pF S 72 (z 10)))) ∧ S1 = S ∧ O1 = O) ∨ (r = 2 ∧ ((xA = xI ∧ (n1 < 0 ∨ ¬ n1 < pF S 72 (z 10))) ∨ ((xA = xA ∨ xA = xS) ∧ (¬ n1 < 0 ∧ n1 < pF S 72 (z 10)))) ∧ S1 = S ∧ O1 = O) ∨ (r = 3 ∧ ((xS = xI ∧ (n1 < 0 ∨ ¬ n1 < pF S 72 (z 10))) ∨ ((xS = xA ∨ xS = xS) ∧ (¬ n1 < 0 ∧ n1 < pF S 72 (z 10)))) ∧ S1 = S ∧ O1 = O)) (hm : Mr w M M1 ∧ pF M1 106 (w 0) = pF M 106 (w 0) ∧ (pF M1 100 (w 0) = 1 ∨ (∃ m, m ≤ 6 ∧ pF M 101 (w 0) = nI m ∧ ∃ j, j < m ∧ n1 = nI j))) : (Inv z e0 S1 ∧ MI w M1 ∧ kRel z w (t + 1) S1 M1) ∧ (Ob O1 14 o ∧ pN O1 o = 1 ∧ Ob O1 15 od ∧ pN O1 od = 1) := by
  have hR0 := hR
  obtain ⟨r1, r2_, r3, ⟨r4, r4b⟩, ⟨r5, r5b⟩, -⟩ := hR0
  obtain ⟨hr, hc6, -⟩ := hm
  have h9 : ∃ c9, c9 ≤ cn + 13 ∧ pF M1 106 (w 0) = nI c9 := ⟨cn, by omega, hc6.trans hc⟩
  rcases hp with ⟨rfl, v9, ⟨hk, -⟩, rfl⟩ | ⟨rfl, -, rfl, rfl⟩ | ⟨rfl, -, rfl, rfl⟩ | ⟨rfl, -, rfl, rfl⟩
  · exact ⟨⟨hI.keep hk.1, hr.1, hR.step hk.tk hr h9 hcn⟩, kz_o ho⟩
  · exact ⟨⟨hI, hr.1, hR.step Tk.rf hr h9 hcn⟩, ho⟩
  · exact ⟨⟨hI, hr.1, hR.step Tk.rf hr h9 hcn⟩, ho⟩
  · exact ⟨⟨hI, hr.1, hR.step Tk.rf hr h9 hcn⟩, ho⟩
theorem kg_writtenOff {z w : Nat → Nat} {e0 t cn : Nat} {S M S1 M1 : wPS} {r : Int32} {r2 : Int32} (hI : Inv z e0 S) (hMI : MI w M) (hR : kRel z w t S M) (hcn : cn ≤ 13 * t) (hc : pF M 106 (w 0) = nI cn) (hp : S1 = S ∧ r = pF S 58 (z 0)) (hm : Mr w M M1 ∧ pF M1 106 (w 0) = pF M 106 (w 0) ∧ pF M1 100 (w 0) = 0 ∧ r2 = pF M 105 (w 0)) : (Inv z e0 S1 ∧ MI w M1 ∧ kRel z w (t + 1) S1 M1) := by
  have hR0 := hR
  obtain ⟨r1, r2_, r3, ⟨r4, r4b⟩, ⟨r5, r5b⟩, -⟩ := hR0
  obtain ⟨rfl, hv1⟩ := hp
  obtain ⟨hr, hc6, -, hv2⟩ := hm
  have h9 : ∃ c9, c9 ≤ cn + 13 ∧ pF M1 106 (w 0) = nI c9 := ⟨cn, by omega, hc6.trans hc⟩
  exact ⟨hI, hr.1, hR.step Tk.rf hr h9 hcn⟩
theorem kg_order {z w : Nat → Nat} {e0 t cn : Nat} {S M S1 M1 : wPS} {O O1 : wPS} {o od : Nat} {n1 n2 n3 : Int32} {r : Int32} (hI : Inv z e0 S) (hMI : MI w M) (hR : kRel z w t S M) (hcn : cn ≤ 13 * t) (hc : pF M 106 (w 0) = nI cn) (ho : Ob O 14 o ∧ pN O o = 1 ∧ Ob O 15 od ∧ pN O od = 1) (hp : (r = 0 ∧ ∃ v9 : Int32, ((¬ n1 < 0 ∧ n1 < pF S 72 (z 10)) ∧ Inv z e0 S1 ∧ Tk z S S1) ∧ O1 = setJ O o v9.toInt64) ∨ (r = 1 ∧ ((xI = xI ∧ (n1 < 0 ∨ ¬ n1 < pF S 72 (z 10))) ∨ ((xI = xA ∨ xI = xS) ∧ (¬ n1 < 0 ∧ n1 < pF S 72 (z 10)))) ∧ S1 = S ∧ O1 = O) ∨ (r = 2 ∧ ((xA = xI ∧ (n1 < 0 ∨ ¬ n1 < pF S 72 (z 10))) ∨ ((xA = xA ∨ xA = xS) ∧ (¬ n1 < 0 ∧ n1 < pF S 72 (z 10)))) ∧ S1 = S ∧ O1 = O) ∨ (r = 3 ∧ ((xS = xI ∧ (n1 < 0 ∨ ¬ n1 < pF S 72 (z 10))) ∨ ((xS = xA ∨ xS = xS) ∧ (¬ n1 < 0 ∧ n1 < pF S 72 (z 10)))) ∧ S1 = S ∧ O1 = O)) (hm : Mr w M M1 ∧ (∃ c9, c9 ≤ cn + 13 ∧ pF M1 106 (w 0) = nI c9) ∧ (pF M1 100 (w 0) = 1 ∨ (∃ m, m ≤ 6 ∧ pF M 101 (w 0) = nI m ∧ ∃ j, j < m ∧ n1 = nI j))) : (Inv z e0 S1 ∧ MI w M1 ∧ kRel z w (t + 1) S1 M1) ∧ (Ob O1 14 o ∧ pN O1 o = 1 ∧ Ob O1 15 od ∧ pN O1 od = 1) := by
  have hR0 := hR
  obtain ⟨r1, r2_, r3, ⟨r4, r4b⟩, ⟨r5, r5b⟩, -⟩ := hR0
  obtain ⟨hr, h9, -⟩ := hm
  rcases hp with ⟨rfl, v9, ⟨-, hI1, hk⟩, rfl⟩ | ⟨rfl, -, rfl, rfl⟩ | ⟨rfl, -, rfl, rfl⟩ | ⟨rfl, -, rfl, rfl⟩
  · exact ⟨⟨hI1, hr.1, hR.step hk hr h9 hcn⟩, kz_o ho⟩
  · exact ⟨⟨hI, hr.1, hR.step Tk.rf hr h9 hcn⟩, ho⟩
  · exact ⟨⟨hI, hr.1, hR.step Tk.rf hr h9 hcn⟩, ho⟩
  · exact ⟨⟨hI, hr.1, hR.step Tk.rf hr h9 hcn⟩, ho⟩
theorem kg_drop {z w : Nat → Nat} {e0 t cn : Nat} {S M S1 M1 : wPS} {O O1 : wPS} {o od : Nat} {n1 : Int32} {r : Int32} (hI : Inv z e0 S) (hMI : MI w M) (hR : kRel z w t S M) (hcn : cn ≤ 13 * t) (hc : pF M 106 (w 0) = nI cn) (ho : Ob O 14 o ∧ pN O o = 1 ∧ Ob O 15 od ∧ pN O od = 1) (hp : (r = 0 ∧ ∃ v9 : Int32, (Kp z S S1 ∧ (¬ n1 < 0 ∧ n1 < pF S 72 (z 11))) ∧ O1 = setJ O o v9.toInt64) ∨ (r = 1 ∧ ((xI = xI ∧ (n1 < 0 ∨ ¬ n1 < pF S 72 (z 11))) ∨ ((xI = xS) ∧ (¬ n1 < 0 ∧ n1 < pF S 72 (z 11)))) ∧ S1 = S ∧ O1 = O) ∨ (r = 2 ∧ ((xS = xI ∧ (n1 < 0 ∨ ¬ n1 < pF S 72 (z 11))) ∨ ((xS = xS) ∧ (¬ n1 < 0 ∧ n1 < pF S 72 (z 11)))) ∧ S1 = S ∧ O1 = O)) (hm : Mr w M M1 ∧ (∃ c9, c9 ≤ cn + 13 ∧ pF M1 106 (w 0) = nI c9) ∧ (pF M1 100 (w 0) = 1 ∨ (∃ m, m ≤ 12 ∧ pF M 102 (w 0) = nI m ∧ ∃ j, j < m ∧ n1 = nI j))) : (Inv z e0 S1 ∧ MI w M1 ∧ kRel z w (t + 1) S1 M1) ∧ (Ob O1 14 o ∧ pN O1 o = 1 ∧ Ob O1 15 od ∧ pN O1 od = 1) := by
  have hR0 := hR
  obtain ⟨r1, r2_, r3, ⟨r4, r4b⟩, ⟨r5, r5b⟩, -⟩ := hR0
  obtain ⟨hr, h9, -⟩ := hm
  rcases hp with ⟨rfl, v9, ⟨hk, -⟩, rfl⟩ | ⟨rfl, -, rfl, rfl⟩ | ⟨rfl, -, rfl, rfl⟩
  · exact ⟨⟨hI.keep hk.1, hr.1, hR.step hk.tk hr h9 hcn⟩, kz_o ho⟩
  · exact ⟨⟨hI, hr.1, hR.step Tk.rf hr h9 hcn⟩, ho⟩
  · exact ⟨⟨hI, hr.1, hR.step Tk.rf hr h9 hcn⟩, ho⟩
theorem kg_state {z w : Nat → Nat} {e0 t cn : Nat} {S M S1 M1 : wPS} {O O1 : wPS} {o od : Nat} {n1 : Int32} {r : Int32} {r2 : Int32} (hI : Inv z e0 S) (hMI : MI w M) (hR : kRel z w t S M) (hcn : cn ≤ 13 * t) (hc : pF M 106 (w 0) = nI cn) (ho : Ob O 14 o ∧ pN O o = 1 ∧ Ob O 15 od ∧ pN O od = 1) (hp : (r = 0 ∧ ∃ v9 : Int32, (S1 = S ∧ kCh v9 ∧ ¬ n1 < 0 ∧ n1 < pF S 72 (z 11)) ∧ O1 = setJ O o v9.toInt64) ∨ (r = 1 ∧ (xI = xI ∧ (n1 < 0 ∨ ¬ n1 < pF S 72 (z 11))) ∧ S1 = S ∧ O1 = O)) (hm : Mr w M M1 ∧ pF M1 106 (w 0) = pF M 106 (w 0) ∧ kCh r2 ∧ (pF M1 100 (w 0) = 1 ∨ (∃ m, m ≤ 12 ∧ pF M 102 (w 0) = nI m ∧ ∃ j, j < m ∧ n1 = nI j))) : (Inv z e0 S1 ∧ MI w M1 ∧ kRel z w (t + 1) S1 M1) ∧ (Ob O1 14 o ∧ pN O1 o = 1 ∧ Ob O1 15 od ∧ pN O1 od = 1) := by
  have hR0 := hR
  obtain ⟨r1, r2_, r3, ⟨r4, r4b⟩, ⟨r5, r5b⟩, -⟩ := hR0
  obtain ⟨hr, hc6, -⟩ := hm
  have h9 : ∃ c9, c9 ≤ cn + 13 ∧ pF M1 106 (w 0) = nI c9 := ⟨cn, by omega, hc6.trans hc⟩
  rcases hp with ⟨rfl, v9, ⟨rfl, -⟩, rfl⟩ | ⟨rfl, -, rfl, rfl⟩
  · exact ⟨⟨hI, hr.1, hR.step Tk.rf hr h9 hcn⟩, kz_o ho⟩
  · exact ⟨⟨hI, hr.1, hR.step Tk.rf hr h9 hcn⟩, ho⟩
theorem kg_stateByScans {z w : Nat → Nat} {e0 t cn : Nat} {S M S1 M1 : wPS} {O O1 : wPS} {o od : Nat} {n1 : Int32} {r : Int32} {r2 : Int32} (hI : Inv z e0 S) (hMI : MI w M) (hR : kRel z w t S M) (hcn : cn ≤ 13 * t) (hc : pF M 106 (w 0) = nI cn) (ho : Ob O 14 o ∧ pN O o = 1 ∧ Ob O 15 od ∧ pN O od = 1) (hp : (r = 0 ∧ ∃ v9 : Int32, (S1 = S ∧ kCh v9 ∧ ¬ n1 < 0 ∧ n1 < pF S 72 (z 11)) ∧ O1 = setJ O o v9.toInt64) ∨ (r = 1 ∧ (xI = xI ∧ (n1 < 0 ∨ ¬ n1 < pF S 72 (z 11))) ∧ S1 = S ∧ O1 = O)) (hm : Mr w M M1 ∧ pF M1 106 (w 0) = pF M 106 (w 0) ∧ kCh r2 ∧ (pF M1 100 (w 0) = 1 ∨ (∃ m, m ≤ 12 ∧ pF M 102 (w 0) = nI m ∧ ∃ j, j < m ∧ n1 = nI j))) : (Inv z e0 S1 ∧ MI w M1 ∧ kRel z w (t + 1) S1 M1) ∧ (Ob O1 14 o ∧ pN O1 o = 1 ∧ Ob O1 15 od ∧ pN O1 od = 1) := by
  have hR0 := hR
  obtain ⟨r1, r2_, r3, ⟨r4, r4b⟩, ⟨r5, r5b⟩, -⟩ := hR0
  obtain ⟨hr, hc6, -⟩ := hm
  have h9 : ∃ c9, c9 ≤ cn + 13 ∧ pF M1 106 (w 0) = nI c9 := ⟨cn, by omega, hc6.trans hc⟩
  rcases hp with ⟨rfl, v9, ⟨rfl, -⟩, rfl⟩ | ⟨rfl, -, rfl, rfl⟩
  · exact ⟨⟨hI, hr.1, hR.step Tk.rf hr h9 hcn⟩, kz_o ho⟩
  · exact ⟨⟨hI, hr.1, hR.step Tk.rf hr h9 hcn⟩, ho⟩
theorem kg_amount {z w : Nat → Nat} {e0 t cn : Nat} {S M S1 M1 : wPS} {O O1 : wPS} {o od : Nat} {n1 : Int32} {r : Int32} (hI : Inv z e0 S) (hMI : MI w M) (hR : kRel z w t S M) (hcn : cn ≤ 13 * t) (hc : pF M 106 (w 0) = nI cn) (ho : Ob O 14 o ∧ pN O o = 1 ∧ Ob O 15 od ∧ pN O od = 1) (hp : (r = 0 ∧ ∃ v9 : Int32, (S1 = S ∧ ¬ n1 < 0 ∧ n1 < pF S 72 (z 11)) ∧ O1 = setJ O o v9.toInt64) ∨ (r = 1 ∧ (xI = xI ∧ (n1 < 0 ∨ ¬ n1 < pF S 72 (z 11))) ∧ S1 = S ∧ O1 = O)) (hm : Mr w M M1 ∧ pF M1 106 (w 0) = pF M 106 (w 0) ∧ (pF M1 100 (w 0) = 1 ∨ (∃ m, m ≤ 12 ∧ pF M 102 (w 0) = nI m ∧ ∃ j, j < m ∧ n1 = nI j))) : (Inv z e0 S1 ∧ MI w M1 ∧ kRel z w (t + 1) S1 M1) ∧ (Ob O1 14 o ∧ pN O1 o = 1 ∧ Ob O1 15 od ∧ pN O1 od = 1) := by
  have hR0 := hR
  obtain ⟨r1, r2_, r3, ⟨r4, r4b⟩, ⟨r5, r5b⟩, -⟩ := hR0
  obtain ⟨hr, hc6, -⟩ := hm
  have h9 : ∃ c9, c9 ≤ cn + 13 ∧ pF M1 106 (w 0) = nI c9 := ⟨cn, by omega, hc6.trans hc⟩
  rcases hp with ⟨rfl, v9, ⟨rfl, -⟩, rfl⟩ | ⟨rfl, -, rfl, rfl⟩
  · exact ⟨⟨hI, hr.1, hR.step Tk.rf hr h9 hcn⟩, kz_o ho⟩
  · exact ⟨⟨hI, hr.1, hR.step Tk.rf hr h9 hcn⟩, ho⟩
theorem kg_orders {z w : Nat → Nat} {e0 t cn : Nat} {S M S1 M1 : wPS} {r : Int32} {r2 : Int32} (hI : Inv z e0 S) (hMI : MI w M) (hR : kRel z w t S M) (hcn : cn ≤ 13 * t) (hc : pF M 106 (w 0) = nI cn) (hp : S1 = S ∧ r = pF S 72 (z 11)) (hm : Mr w M M1 ∧ pF M1 106 (w 0) = pF M 106 (w 0) ∧ pF M1 100 (w 0) = 0 ∧ r2 = pF M 102 (w 0)) : (Inv z e0 S1 ∧ MI w M1 ∧ kRel z w (t + 1) S1 M1) := by
  have hR0 := hR
  obtain ⟨r1, r2_, r3, ⟨r4, r4b⟩, ⟨r5, r5b⟩, -⟩ := hR0
  obtain ⟨rfl, hv1⟩ := hp
  obtain ⟨hr, hc6, -, hv2⟩ := hm
  have h9 : ∃ c9, c9 ≤ cn + 13 ∧ pF M1 106 (w 0) = nI c9 := ⟨cn, by omega, hc6.trans hc⟩
  exact ⟨hI, hr.1, hR.step Tk.rf hr h9 hcn⟩
theorem kg_pick {z w : Nat → Nat} {e0 t cn : Nat} {S M S1 M1 : wPS} {O O1 : wPS} {o od : Nat} {n1 n2 : Int32} {r : Int32} (hI : Inv z e0 S) (hMI : MI w M) (hR : kRel z w t S M) (hcn : cn ≤ 13 * t) (hc : pF M 106 (w 0) = nI cn) (ho : Ob O 14 o ∧ pN O o = 1 ∧ Ob O 15 od ∧ pN O od = 1) (hp : (r = 0 ∧ ∃ v9 : Int32, ((¬ n1 < 0 ∧ n1 < pF S 72 (z 11)) ∧ Inv z e0 S1 ∧ Tk z S S1) ∧ O1 = setJ O o v9.toInt64) ∨ (r = 1 ∧ ((xI = xI ∧ (n1 < 0 ∨ ¬ n1 < pF S 72 (z 11))) ∨ ((xI = xA ∨ xI = xU ∨ xI = xS) ∧ (¬ n1 < 0 ∧ n1 < pF S 72 (z 11)))) ∧ S1 = S ∧ O1 = O) ∨ (r = 2 ∧ ((xA = xI ∧ (n1 < 0 ∨ ¬ n1 < pF S 72 (z 11))) ∨ ((xA = xA ∨ xA = xU ∨ xA = xS) ∧ (¬ n1 < 0 ∧ n1 < pF S 72 (z 11)))) ∧ S1 = S ∧ O1 = O) ∨ (r = 3 ∧ ((xU = xI ∧ (n1 < 0 ∨ ¬ n1 < pF S 72 (z 11))) ∨ ((xU = xA ∨ xU = xU ∨ xU = xS) ∧ (¬ n1 < 0 ∧ n1 < pF S 72 (z 11)))) ∧ S1 = S ∧ O1 = O) ∨ (r = 4 ∧ ((xS = xI ∧ (n1 < 0 ∨ ¬ n1 < pF S 72 (z 11))) ∨ ((xS = xA ∨ xS = xU ∨ xS = xS) ∧ (¬ n1 < 0 ∧ n1 < pF S 72 (z 11)))) ∧ S1 = S ∧ O1 = O)) (hm : Mr w M M1 ∧ (∃ c9, c9 ≤ cn + 13 ∧ pF M1 106 (w 0) = nI c9)) : (Inv z e0 S1 ∧ MI w M1 ∧ kRel z w (t + 1) S1 M1) ∧ (Ob O1 14 o ∧ pN O1 o = 1 ∧ Ob O1 15 od ∧ pN O1 od = 1) := by
  have hR0 := hR
  obtain ⟨r1, r2_, r3, ⟨r4, r4b⟩, ⟨r5, r5b⟩, -⟩ := hR0
  obtain ⟨hr, h9⟩ := hm
  rcases hp with ⟨rfl, v9, ⟨-, hI1, hk⟩, rfl⟩ | ⟨rfl, -, rfl, rfl⟩ | ⟨rfl, -, rfl, rfl⟩ | ⟨rfl, -, rfl, rfl⟩ | ⟨rfl, -, rfl, rfl⟩
  · exact ⟨⟨hI1, hr.1, hR.step hk hr h9 hcn⟩, kz_o ho⟩
  · exact ⟨⟨hI, hr.1, hR.step Tk.rf hr h9 hcn⟩, ho⟩
  · exact ⟨⟨hI, hr.1, hR.step Tk.rf hr h9 hcn⟩, ho⟩
  · exact ⟨⟨hI, hr.1, hR.step Tk.rf hr h9 hcn⟩, ho⟩
  · exact ⟨⟨hI, hr.1, hR.step Tk.rf hr h9 hcn⟩, ho⟩
theorem kg_ship {z w : Nat → Nat} {e0 t cn : Nat} {S M S1 M1 : wPS} {O O1 : wPS} {o od : Nat} {n1 : Int32} {r : Int32} {r2 : Int32} (hI : Inv z e0 S) (hMI : MI w M) (hR : kRel z w t S M) (hcn : cn ≤ 13 * t) (hc : pF M 106 (w 0) = nI cn) (ho : Ob O 14 o ∧ pN O o = 1 ∧ Ob O 15 od ∧ pN O od = 1) (hp : (r = 0 ∧ ∃ v9 : Int32, (Kp z S S1 ∧ ¬ n1 < 0 ∧ ¬ 3 ≤ n1 ∧ (pF S 72 (z 11) = 0 → v9 = 0)) ∧ O1 = setJ O o v9.toInt64) ∨ (r = 1 ∧ (xI = xI ∧ (n1 < 0 ∨ 3 ≤ n1)) ∧ S1 = S ∧ O1 = O)) (hm : Mr w M M1 ∧ (∃ c9, c9 ≤ cn + 13 ∧ pF M1 106 (w 0) = nI c9) ∧ ((pF M1 100 (w 0) = 1 ∧ (n1 < 0 ∨ 2 < n1)) ∨ (pF M1 100 (w 0) = 0 ∧ (∃ j, j < 3 ∧ n1 = nI j) ∧ (pF M 102 (w 0) = 0 → r2 = 0)))) : (Inv z e0 S1 ∧ MI w M1 ∧ kRel z w (t + 1) S1 M1) ∧ (Ob O1 14 o ∧ pN O1 o = 1 ∧ Ob O1 15 od ∧ pN O1 od = 1) := by
  have hR0 := hR
  obtain ⟨r1, r2_, r3, ⟨r4, r4b⟩, ⟨r5, r5b⟩, -⟩ := hR0
  obtain ⟨hr, h9, -⟩ := hm
  rcases hp with ⟨rfl, v9, ⟨hk, -⟩, rfl⟩ | ⟨rfl, -, rfl, rfl⟩
  · exact ⟨⟨hI.keep hk.1, hr.1, hR.step hk.tk hr h9 hcn⟩, kz_o ho⟩
  · exact ⟨⟨hI, hr.1, hR.step Tk.rf hr h9 hcn⟩, ho⟩
theorem kg_setCutOff {z w : Nat → Nat} {e0 t cn : Nat} {S M S1 M1 : wPS} {O O1 : wPS} {o od : Nat} {n1 n2 : Int32} {r : Int32} {r2 : Int32} (hI : Inv z e0 S) (hMI : MI w M) (hR : kRel z w t S M) (hcn : cn ≤ 13 * t) (hc : pF M 106 (w 0) = nI cn) (ho : Ob O 14 o ∧ pN O o = 1 ∧ Ob O 15 od ∧ pN O od = 1) (hp : (r = 0 ∧ ∃ v9 : Int32, (∃ j, j < 3 ∧ n1 = nI j ∧ (¬ n2 < 0 ∧ ¬ 1439 < n2) ∧ v9 = pX S (z 6) j ∧ S1 = setX S (z 6) (upd (pX S (z 6)) j n2)) ∧ O1 = setJ O o v9.toInt64) ∨ (r = 1 ∧ ((xI = xI ∧ (n1 < 0 ∨ 3 ≤ n1)) ∨ (xI = xA ∧ (∃ j, j < 3 ∧ n1 = nI j) ∧ (n2 < 0 ∨ 1439 < n2))) ∧ S1 = S ∧ O1 = O) ∨ (r = 2 ∧ ((xA = xI ∧ (n1 < 0 ∨ 3 ≤ n1)) ∨ (xA = xA ∧ (∃ j, j < 3 ∧ n1 = nI j) ∧ (n2 < 0 ∨ 1439 < n2))) ∧ S1 = S ∧ O1 = O)) (hm : pF M1 106 (w 0) = pF M 106 (w 0) ∧ ((pF M1 100 (w 0) = 1 ∧ (n1 < 0 ∨ 2 < n1) ∧ Mr w M M1) ∨ ∃ j, j < 3 ∧ n1 = nI j ∧ ((pF M1 100 (w 0) = 2 ∧ (n2 < 0 ∨ 1439 < n2) ∧ Mr w M M1) ∨ (pF M1 100 (w 0) = 0 ∧ (¬ n2 < 0 ∧ ¬ 1439 < n2) ∧ r2 = pX M (w 12) j ∧ Mr w (setX M (w 12) (upd (pX M (w 12)) j n2)) M1)))) : (Inv z e0 S1 ∧ MI w M1 ∧ kRel z w (t + 1) S1 M1) ∧ (Ob O1 14 o ∧ pN O1 o = 1 ∧ Ob O1 15 od ∧ pN O1 od = 1) := by
  have hR0 := hR
  obtain ⟨r1, r2_, r3, ⟨r4, r4b⟩, ⟨r5, r5b⟩, -⟩ := hR0
  obtain ⟨hc6, hm⟩ := hm
  have h9 : ∃ c9, c9 ≤ cn + 13 ∧ pF M1 106 (w 0) = nI c9 := ⟨cn, by omega, hc6.trans hc⟩
  rcases hp with ⟨rfl, v9, ⟨j, hj, hn, hb, hv, rfl⟩, rfl⟩ | ⟨rfl, hx, rfl, rfl⟩ | ⟨rfl, hx, rfl, rfl⟩
  · rcases hm with ⟨h1, h2, hr⟩ | ⟨j2, hj2, hn2, ⟨h1, h2, hr⟩ | ⟨h1, h2, hv2, hr⟩⟩
    · exact (kz_3b hj hn h2).elim
    · exact (h2.elim hb.1 hb.2).elim
    · obtain rfl := kjj (by omega) (by omega) hn hn2
      exact ⟨⟨hI.setC, hr.1, (hR.cu hMI (kbd (N := 1439) rfl (by decide) hb.1 hb.2)).step Tk.rf hr h9 hcn⟩, kz_o ho⟩
  · rcases hx with ⟨-, hx⟩ | ⟨e9, -⟩
    · rcases hm with ⟨h1, h2, hr⟩ | ⟨j2, hj2, hn2, -⟩
      · exact ⟨⟨hI, hr.1, hR.step Tk.rf hr h9 hcn⟩, ho⟩
      · exact (kz_3a hj2 hn2 hx).elim
    · exact absurd e9 (by decide +kernel)
  · rcases hx with ⟨e9, -⟩ | ⟨-, ⟨j, hj, hn⟩, hb⟩
    · exact absurd e9 (by decide +kernel)
    · rcases hm with ⟨h1, h2, hr⟩ | ⟨j2, hj2, hn2, ⟨h1, h2, hr⟩ | ⟨h1, h2, hv2, hr⟩⟩
      · exact (kz_3b hj hn h2).elim
      · exact ⟨⟨hI, hr.1, hR.step Tk.rf hr h9 hcn⟩, ho⟩
      · exact (hb.elim h2.1 h2.2).elim
theorem kg_wave {z w : Nat → Nat} {e0 t cn : Nat} {S M S1 M1 : wPS} {O O1 : wPS} {o od : Nat} {n1 : Int32} {r : Int32} (hI : Inv z e0 S) (hMI : MI w M) (hR : kRel z w t S M) (hcn : cn ≤ 13 * t) (hc : pF M 106 (w 0) = nI cn) (ho : Ob O 14 o ∧ pN O o = 1 ∧ Ob O 15 od ∧ pN O od = 1) (hp : (r = 0 ∧ ∃ v9 : Int32, (∃ j, j < 3 ∧ n1 = nI j ∧ ¬ pX S (z 6) j < pF S 56 (z 0) ∧ pF S 57 (z 0) < 20 ∧ Inv z e0 S1 ∧ Tk z (setF S 57 (z 0) (pF S 57 (z 0) + 1)) S1 ∧ (pF S 72 (z 11) = 0 → v9 = 0)) ∧ O1 = setJ O o v9.toInt64) ∨ (r = 1 ∧ ((xI = xI ∧ (n1 < 0 ∨ 3 ≤ n1)) ∨ (∃ j, j < 3 ∧ n1 = nI j ∧ ((xI = xU ∧ pX S (z 6) j < pF S 56 (z 0)) ∨ (xI = xS ∧ ¬ pX S (z 6) j < pF S 56 (z 0) ∧ ¬ pF S 57 (z 0) < 20)))) ∧ S1 = S ∧ O1 = O) ∨ (r = 2 ∧ ((xU = xI ∧ (n1 < 0 ∨ 3 ≤ n1)) ∨ (∃ j, j < 3 ∧ n1 = nI j ∧ ((xU = xU ∧ pX S (z 6) j < pF S 56 (z 0)) ∨ (xU = xS ∧ ¬ pX S (z 6) j < pF S 56 (z 0) ∧ ¬ pF S 57 (z 0) < 20)))) ∧ S1 = S ∧ O1 = O) ∨ (r = 3 ∧ ((xS = xI ∧ (n1 < 0 ∨ 3 ≤ n1)) ∨ (∃ j, j < 3 ∧ n1 = nI j ∧ ((xS = xU ∧ pX S (z 6) j < pF S 56 (z 0)) ∨ (xS = xS ∧ ¬ pX S (z 6) j < pF S 56 (z 0) ∧ ¬ pF S 57 (z 0) < 20)))) ∧ S1 = S ∧ O1 = O)) (hm : (∃ c9, c9 ≤ cn + 13 ∧ pF M1 106 (w 0) = nI c9) ∧ ((pF M1 100 (w 0) = 1 ∧ (n1 < 0 ∨ 2 < n1) ∧ Mr w M M1) ∨ ∃ j, j < 3 ∧ n1 = nI j ∧ ((pF M1 100 (w 0) = 2 ∧ pX M (w 12) j < pF M 104 (w 0) ∧ Mr w M M1) ∨ (¬ pX M (w 12) j < pF M 104 (w 0) ∧ ((pF M1 100 (w 0) = 3 ∧ pF M 103 (w 0) = 20 ∧ Mr w M M1) ∨ (pF M1 100 (w 0) = 0 ∧ ¬ pF M 103 (w 0) = 20 ∧ Mr w (setF M 103 (w 0) (pF M 103 (w 0) + 1)) M1)))))) : (Inv z e0 S1 ∧ MI w M1 ∧ kRel z w (t + 1) S1 M1) ∧ (Ob O1 14 o ∧ pN O1 o = 1 ∧ Ob O1 15 od ∧ pN O1 od = 1) := by
  have hR0 := hR
  obtain ⟨r1, r2_, r3, ⟨r4, r4b⟩, ⟨r5, r5b⟩, -⟩ := hR0
  obtain ⟨h9, hm⟩ := hm
  obtain ⟨d1, hd1, hd2⟩ := r5b
  rcases hp with ⟨rfl, v9, ⟨j, hj, hn, h1, h2, hI1, hk, -⟩, rfl⟩ | ⟨rfl, hx, rfl, rfl⟩ | ⟨rfl, hx, rfl, rfl⟩ | ⟨rfl, hx, rfl, rfl⟩
  · rcases hm with ⟨k1, k2, hr⟩ | ⟨j2, hj2, hn2, ⟨k1, k2, hr⟩ | ⟨k1, ⟨k2, k3, hr⟩ | ⟨k2, k3, hr⟩⟩⟩
    · exact (kz_3b hj hn k2).elim
    · obtain rfl := kjj (by omega) (by omega) hn hn2
      rw [← (r3 j hj).1, ← r4] at k2; exact absurd k2 h1
    · rw [r5, k3] at h2; exact absurd h2 (by decide)
    · have hd20 : d1 < 20 := by rcases Nat.lt_or_ge d1 20 with q | q; exact q; exact absurd (by rw [← r5, hd2, show d1 = 20 by omega]; rfl) k3
      exact ⟨⟨hI1, hr.1, (hR.wv (congrArg (· + 1) r5) ⟨d1 + 1, by omega, by rw [hd2]; exact nI_1 d1⟩).step hk hr h9 hcn⟩, kz_o ho⟩
  · rcases hx with ⟨-, hx⟩ | ⟨j, hj, hn, ⟨e9, -⟩ | ⟨e9, -⟩⟩
    · rcases hm with ⟨k1, k2, hr⟩ | ⟨j2, hj2, hn2, -⟩
      · exact ⟨⟨hI, hr.1, hR.step Tk.rf hr h9 hcn⟩, ho⟩
      · exact (kz_3a hj2 hn2 hx).elim
    · exact absurd e9 (by decide +kernel)
    · exact absurd e9 (by decide +kernel)
  · rcases hx with ⟨e9, -⟩ | ⟨j, hj, hn, ⟨-, hx⟩ | ⟨e9, -⟩⟩
    · exact absurd e9 (by decide +kernel)
    · rcases hm with ⟨k1, k2, hr⟩ | ⟨j2, hj2, hn2, ⟨k1, k2, hr⟩ | ⟨k1, ⟨k2, k3, hr⟩ | ⟨k2, k3, hr⟩⟩⟩
      · exact (kz_3b hj hn k2).elim
      · exact ⟨⟨hI, hr.1, hR.step Tk.rf hr h9 hcn⟩, ho⟩
      · exact ⟨⟨hI, hr.1, hR.step Tk.rf hr h9 hcn⟩, ho⟩
      · obtain rfl := kjj (by omega) (by omega) hn hn2
        rw [← (r3 j hj).1, ← r4] at k1; exact absurd hx k1
    · exact absurd e9 (by decide +kernel)
  · rcases hx with ⟨e9, -⟩ | ⟨j, hj, hn, ⟨e9, -⟩ | ⟨-, ha, hx⟩⟩
    · exact absurd e9 (by decide +kernel)
    · exact absurd e9 (by decide +kernel)
    · rcases hm with ⟨k1, k2, hr⟩ | ⟨j2, hj2, hn2, ⟨k1, k2, hr⟩ | ⟨k1, ⟨k2, k3, hr⟩ | ⟨k2, k3, hr⟩⟩⟩
      · exact (kz_3b hj hn k2).elim
      · exact ⟨⟨hI, hr.1, hR.step Tk.rf hr h9 hcn⟩, ho⟩
      · exact ⟨⟨hI, hr.1, hR.step Tk.rf hr h9 hcn⟩, ho⟩
      · have hd20 : d1 < 20 := by rcases Nat.lt_or_ge d1 20 with q | q; exact q; exact absurd (by rw [← r5, hd2, show d1 = 20 by omega]; rfl) k3
        exact absurd (by rw [hd2]; exact nI_lt (b := 20) hd20 (by decide)) hx
theorem kg_waveOf {z w : Nat → Nat} {e0 t cn : Nat} {S M S1 M1 : wPS} {O O1 : wPS} {o od : Nat} {n1 : Int32} {r : Int32} (hI : Inv z e0 S) (hMI : MI w M) (hR : kRel z w t S M) (hcn : cn ≤ 13 * t) (hc : pF M 106 (w 0) = nI cn) (ho : Ob O 14 o ∧ pN O o = 1 ∧ Ob O 15 od ∧ pN O od = 1) (hp : (r = 0 ∧ ∃ v9 : Int32, (S1 = S ∧ ¬ n1 < 0 ∧ n1 < pF S 72 (z 11)) ∧ O1 = setJ O o v9.toInt64) ∨ (r = 1 ∧ ((xI = xI ∧ (n1 < 0 ∨ ¬ n1 < pF S 72 (z 11))) ∨ (xI = xN ∧ ¬ n1 < 0 ∧ n1 < pF S 72 (z 11))) ∧ S1 = S ∧ O1 = O) ∨ (r = 2 ∧ ((xN = xI ∧ (n1 < 0 ∨ ¬ n1 < pF S 72 (z 11))) ∨ (xN = xN ∧ ¬ n1 < 0 ∧ n1 < pF S 72 (z 11))) ∧ S1 = S ∧ O1 = O)) (hm : Mr w M M1 ∧ pF M1 106 (w 0) = pF M 106 (w 0) ∧ (pF M1 100 (w 0) = 1 ∨ (∃ m, m ≤ 12 ∧ pF M 102 (w 0) = nI m ∧ ∃ j, j < m ∧ n1 = nI j))) : (Inv z e0 S1 ∧ MI w M1 ∧ kRel z w (t + 1) S1 M1) ∧ (Ob O1 14 o ∧ pN O1 o = 1 ∧ Ob O1 15 od ∧ pN O1 od = 1) := by
  have hR0 := hR
  obtain ⟨r1, r2_, r3, ⟨r4, r4b⟩, ⟨r5, r5b⟩, -⟩ := hR0
  obtain ⟨hr, hc6, -⟩ := hm
  have h9 : ∃ c9, c9 ≤ cn + 13 ∧ pF M1 106 (w 0) = nI c9 := ⟨cn, by omega, hc6.trans hc⟩
  rcases hp with ⟨rfl, v9, ⟨rfl, -⟩, rfl⟩ | ⟨rfl, -, rfl, rfl⟩ | ⟨rfl, -, rfl, rfl⟩
  · exact ⟨⟨hI, hr.1, hR.step Tk.rf hr h9 hcn⟩, kz_o ho⟩
  · exact ⟨⟨hI, hr.1, hR.step Tk.rf hr h9 hcn⟩, ho⟩
  · exact ⟨⟨hI, hr.1, hR.step Tk.rf hr h9 hcn⟩, ho⟩
theorem kg_waves {z w : Nat → Nat} {e0 t cn : Nat} {S M S1 M1 : wPS} {r : Int32} {r2 : Int32} (hI : Inv z e0 S) (hMI : MI w M) (hR : kRel z w t S M) (hcn : cn ≤ 13 * t) (hc : pF M 106 (w 0) = nI cn) (hp : S1 = S ∧ r = pF S 57 (z 0)) (hm : Mr w M M1 ∧ pF M1 106 (w 0) = pF M 106 (w 0) ∧ pF M1 100 (w 0) = 0 ∧ r2 = pF M 103 (w 0)) : (Inv z e0 S1 ∧ MI w M1 ∧ kRel z w (t + 1) S1 M1) := by
  have hR0 := hR
  obtain ⟨r1, r2_, r3, ⟨r4, r4b⟩, ⟨r5, r5b⟩, -⟩ := hR0
  obtain ⟨rfl, hv1⟩ := hp
  obtain ⟨hr, hc6, -, hv2⟩ := hm
  have h9 : ∃ c9, c9 ≤ cn + 13 ∧ pF M1 106 (w 0) = nI c9 := ⟨cn, by omega, hc6.trans hc⟩
  exact ⟨hI, hr.1, hR.step Tk.rf hr h9 hcn⟩
theorem kg_minutesLeft {z w : Nat → Nat} {e0 t cn : Nat} {S M S1 M1 : wPS} {O O1 : wPS} {o od : Nat} {n1 : Int32} {r : Int32} {r2 : Int32} (hI : Inv z e0 S) (hMI : MI w M) (hR : kRel z w t S M) (hcn : cn ≤ 13 * t) (hc : pF M 106 (w 0) = nI cn) (ho : Ob O 14 o ∧ pN O o = 1 ∧ Ob O 15 od ∧ pN O od = 1) (hp : (r = 0 ∧ ∃ v9 : Int32, (S1 = S ∧ ∃ j, j < 3 ∧ n1 = nI j ∧ v9 = if pX S (z 6) j - pF S 56 (z 0) < 0 then -1 else pX S (z 6) j - pF S 56 (z 0)) ∧ O1 = setJ O o v9.toInt64) ∨ (r = 1 ∧ (xI = xI ∧ (n1 < 0 ∨ 3 ≤ n1)) ∧ S1 = S ∧ O1 = O)) (hm : Mr w M M1 ∧ pF M1 106 (w 0) = pF M 106 (w 0) ∧ ((pF M1 100 (w 0) = 1 ∧ (n1 < 0 ∨ 2 < n1)) ∨ (pF M1 100 (w 0) = 0 ∧ ∃ j, j < 3 ∧ n1 = nI j ∧ r2 = if pX M (w 12) j < pF M 104 (w 0) then -1 else pX M (w 12) j - pF M 104 (w 0)))) : (Inv z e0 S1 ∧ MI w M1 ∧ kRel z w (t + 1) S1 M1) ∧ (Ob O1 14 o ∧ pN O1 o = 1 ∧ Ob O1 15 od ∧ pN O1 od = 1) := by
  have hR0 := hR
  obtain ⟨r1, r2_, r3, ⟨r4, r4b⟩, ⟨r5, r5b⟩, -⟩ := hR0
  obtain ⟨hr, hc6, -⟩ := hm
  have h9 : ∃ c9, c9 ≤ cn + 13 ∧ pF M1 106 (w 0) = nI c9 := ⟨cn, by omega, hc6.trans hc⟩
  rcases hp with ⟨rfl, v9, ⟨rfl, -⟩, rfl⟩ | ⟨rfl, -, rfl, rfl⟩
  · exact ⟨⟨hI, hr.1, hR.step Tk.rf hr h9 hcn⟩, kz_o ho⟩
  · exact ⟨⟨hI, hr.1, hR.step Tk.rf hr h9 hcn⟩, ho⟩
theorem kg_send {z w : Nat → Nat} {e0 t cn : Nat} {S M S1 M1 : wPS} {O O1 : wPS} {o od : Nat} {n1 n2 : Int32} {r : Int32} (hI : Inv z e0 S) (hMI : MI w M) (hR : kRel z w t S M) (hcn : cn ≤ 13 * t) (hc : pF M 106 (w 0) = nI cn) (ho : Ob O 14 o ∧ pN O o = 1 ∧ Ob O 15 od ∧ pN O od = 1) (hp : (r = 0 ∧ ∃ v9 : Int32, ((¬ n2 < 0 ∧ n2 < pF S 72 (z 10)) ∧ Inv z e0 S1 ∧ Tk z S S1) ∧ O1 = setJ O o v9.toInt64) ∨ (r = 1 ∧ ((xI = xI) ∨ ((xI = xU ∨ xI = xS ∨ xI = xN) ∧ (¬ n2 < 0 ∧ n2 < pF S 72 (z 10)))) ∧ S1 = S ∧ O1 = O) ∨ (r = 2 ∧ ((xU = xI) ∨ ((xU = xU ∨ xU = xS ∨ xU = xN) ∧ (¬ n2 < 0 ∧ n2 < pF S 72 (z 10)))) ∧ S1 = S ∧ O1 = O) ∨ (r = 3 ∧ ((xS = xI) ∨ ((xS = xU ∨ xS = xS ∨ xS = xN) ∧ (¬ n2 < 0 ∧ n2 < pF S 72 (z 10)))) ∧ S1 = S ∧ O1 = O) ∨ (r = 4 ∧ ((xN = xI) ∨ ((xN = xU ∨ xN = xS ∨ xN = xN) ∧ (¬ n2 < 0 ∧ n2 < pF S 72 (z 10)))) ∧ S1 = S ∧ O1 = O)) (hm : Mr w M M1 ∧ pF M1 106 (w 0) = pF M 106 (w 0) ∧ (pF M1 100 (w 0) = 1 ∨ (∃ m, m ≤ 6 ∧ pF M 101 (w 0) = nI m ∧ ∃ j, j < m ∧ n2 = nI j))) : (Inv z e0 S1 ∧ MI w M1 ∧ kRel z w (t + 1) S1 M1) ∧ (Ob O1 14 o ∧ pN O1 o = 1 ∧ Ob O1 15 od ∧ pN O1 od = 1) := by
  have hR0 := hR
  obtain ⟨r1, r2_, r3, ⟨r4, r4b⟩, ⟨r5, r5b⟩, -⟩ := hR0
  obtain ⟨hr, hc6, -⟩ := hm
  have h9 : ∃ c9, c9 ≤ cn + 13 ∧ pF M1 106 (w 0) = nI c9 := ⟨cn, by omega, hc6.trans hc⟩
  rcases hp with ⟨rfl, v9, ⟨-, hI1, hk⟩, rfl⟩ | ⟨rfl, -, rfl, rfl⟩ | ⟨rfl, -, rfl, rfl⟩ | ⟨rfl, -, rfl, rfl⟩ | ⟨rfl, -, rfl, rfl⟩
  · exact ⟨⟨hI1, hr.1, hR.step hk hr h9 hcn⟩, kz_o ho⟩
  · exact ⟨⟨hI, hr.1, hR.step Tk.rf hr h9 hcn⟩, ho⟩
  · exact ⟨⟨hI, hr.1, hR.step Tk.rf hr h9 hcn⟩, ho⟩
  · exact ⟨⟨hI, hr.1, hR.step Tk.rf hr h9 hcn⟩, ho⟩
  · exact ⟨⟨hI, hr.1, hR.step Tk.rf hr h9 hcn⟩, ho⟩
theorem kg_carried {z w : Nat → Nat} {e0 t cn : Nat} {S M S1 M1 : wPS} {O O1 : wPS} {o od : Nat} {n1 : Int32} {r : Int32} {r2 : Int32} (hI : Inv z e0 S) (hMI : MI w M) (hR : kRel z w t S M) (hcn : cn ≤ 13 * t) (hc : pF M 106 (w 0) = nI cn) (ho : Ob O 14 o ∧ pN O o = 1 ∧ Ob O 15 od ∧ pN O od = 1) (hp : (r = 0 ∧ ∃ v9 : Int32, (S1 = S ∧ ∃ j, j < 2 ∧ n1 = nI j ∧ v9 = pF S 31 (z (8 + j))) ∧ O1 = setJ O o v9.toInt64) ∨ (r = 1 ∧ (xI = xI ∧ (n1 < 0 ∨ ¬ n1 < 2)) ∧ S1 = S ∧ O1 = O)) (hm : Mr w M M1 ∧ pF M1 106 (w 0) = pF M 106 (w 0) ∧ ((pF M1 100 (w 0) = 1 ∧ (n1 < 0 ∨ 1 < n1)) ∨ (pF M1 100 (w 0) = 0 ∧ ∃ j, j < 2 ∧ n1 = nI j ∧ r2 = pX M (w 13) j))) : (Inv z e0 S1 ∧ MI w M1 ∧ kRel z w (t + 1) S1 M1) ∧ (Ob O1 14 o ∧ pN O1 o = 1 ∧ Ob O1 15 od ∧ pN O1 od = 1) := by
  have hR0 := hR
  obtain ⟨r1, r2_, r3, ⟨r4, r4b⟩, ⟨r5, r5b⟩, -⟩ := hR0
  obtain ⟨hr, hc6, -⟩ := hm
  have h9 : ∃ c9, c9 ≤ cn + 13 ∧ pF M1 106 (w 0) = nI c9 := ⟨cn, by omega, hc6.trans hc⟩
  rcases hp with ⟨rfl, v9, ⟨rfl, -⟩, rfl⟩ | ⟨rfl, -, rfl, rfl⟩
  · exact ⟨⟨hI, hr.1, hR.step Tk.rf hr h9 hcn⟩, kz_o ho⟩
  · exact ⟨⟨hI, hr.1, hR.step Tk.rf hr h9 hcn⟩, ho⟩
theorem kg_minutesOf {z w : Nat → Nat} {e0 t cn : Nat} {S M S1 M1 : wPS} {O O1 : wPS} {o od : Nat} {n1 : Int32} {r : Int32} {r2 : Int32} (hI : Inv z e0 S) (hMI : MI w M) (hR : kRel z w t S M) (hcn : cn ≤ 13 * t) (hc : pF M 106 (w 0) = nI cn) (ho : Ob O 14 o ∧ pN O o = 1 ∧ Ob O 15 od ∧ pN O od = 1) (hp : (r = 0 ∧ ∃ v9 : Int32, (S1 = S ∧ ∃ j, j < 2 ∧ n1 = nI j ∧ v9 = pF S 32 (z (8 + j))) ∧ O1 = setJ O o v9.toInt64) ∨ (r = 1 ∧ (xI = xI ∧ (n1 < 0 ∨ ¬ n1 < 2)) ∧ S1 = S ∧ O1 = O)) (hm : Mr w M M1 ∧ pF M1 106 (w 0) = pF M 106 (w 0) ∧ ((pF M1 100 (w 0) = 1 ∧ (n1 < 0 ∨ 1 < n1)) ∨ (pF M1 100 (w 0) = 0 ∧ ∃ j, j < 2 ∧ n1 = nI j ∧ r2 = pX M (w 14) j))) : (Inv z e0 S1 ∧ MI w M1 ∧ kRel z w (t + 1) S1 M1) ∧ (Ob O1 14 o ∧ pN O1 o = 1 ∧ Ob O1 15 od ∧ pN O1 od = 1) := by
  have hR0 := hR
  obtain ⟨r1, r2_, r3, ⟨r4, r4b⟩, ⟨r5, r5b⟩, -⟩ := hR0
  obtain ⟨hr, hc6, -⟩ := hm
  have h9 : ∃ c9, c9 ≤ cn + 13 ∧ pF M1 106 (w 0) = nI c9 := ⟨cn, by omega, hc6.trans hc⟩
  rcases hp with ⟨rfl, v9, ⟨rfl, -⟩, rfl⟩ | ⟨rfl, -, rfl, rfl⟩
  · exact ⟨⟨hI, hr.1, hR.step Tk.rf hr h9 hcn⟩, kz_o ho⟩
  · exact ⟨⟨hI, hr.1, hR.step Tk.rf hr h9 hcn⟩, ho⟩
theorem kg_aisleOf {z w : Nat → Nat} {e0 t cn : Nat} {S M S1 M1 : wPS} {O O1 : wPS} {o od : Nat} {n1 : Int32} {r : Int32} (hI : Inv z e0 S) (hMI : MI w M) (hR : kRel z w t S M) (hcn : cn ≤ 13 * t) (hc : pF M 106 (w 0) = nI cn) (ho : Ob O 14 o ∧ pN O o = 1 ∧ Ob O 15 od ∧ pN O od = 1) (hp : (r = 0 ∧ ∃ v9 : Int32, (S1 = S ∧ ∃ j, j < 2 ∧ n1 = nI j ∧ pG S 30 (z (8 + j)) ≠ none) ∧ O1 = setJ O o v9.toInt64) ∨ (r = 1 ∧ ((xI = xI ∧ (n1 < 0 ∨ ¬ n1 < 2)) ∨ (xI = xN ∧ ∃ j, j < 2 ∧ n1 = nI j)) ∧ S1 = S ∧ O1 = O) ∨ (r = 2 ∧ ((xN = xI ∧ (n1 < 0 ∨ ¬ n1 < 2)) ∨ (xN = xN ∧ ∃ j, j < 2 ∧ n1 = nI j)) ∧ S1 = S ∧ O1 = O)) (hm : Mr w M M1 ∧ pF M1 106 (w 0) = pF M 106 (w 0) ∧ ((pF M1 100 (w 0) = 1 ∧ (n1 < 0 ∨ 1 < n1)) ∨ (∃ j, j < 2 ∧ n1 = nI j ∧ (pX M (w 13) j = 0 → pF M1 100 (w 0) = 2)))) : (Inv z e0 S1 ∧ MI w M1 ∧ kRel z w (t + 1) S1 M1) ∧ (Ob O1 14 o ∧ pN O1 o = 1 ∧ Ob O1 15 od ∧ pN O1 od = 1) := by
  have hR0 := hR
  obtain ⟨r1, r2_, r3, ⟨r4, r4b⟩, ⟨r5, r5b⟩, -⟩ := hR0
  obtain ⟨hr, hc6, -⟩ := hm
  have h9 : ∃ c9, c9 ≤ cn + 13 ∧ pF M1 106 (w 0) = nI c9 := ⟨cn, by omega, hc6.trans hc⟩
  rcases hp with ⟨rfl, v9, ⟨rfl, -⟩, rfl⟩ | ⟨rfl, -, rfl, rfl⟩ | ⟨rfl, -, rfl, rfl⟩
  · exact ⟨⟨hI, hr.1, hR.step Tk.rf hr h9 hcn⟩, kz_o ho⟩
  · exact ⟨⟨hI, hr.1, hR.step Tk.rf hr h9 hcn⟩, ho⟩
  · exact ⟨⟨hI, hr.1, hR.step Tk.rf hr h9 hcn⟩, ho⟩
theorem kg_pass {z w : Nat → Nat} {e0 t cn : Nat} {S M S1 M1 : wPS} {O O1 : wPS} {o od : Nat} {n1 : Int32} {r : Int32} {r2 : Int32} (hI : Inv z e0 S) (hMI : MI w M) (hR : kRel z w t S M) (hcn : cn ≤ 13 * t) (hc : pF M 106 (w 0) = nI cn) (ho : Ob O 14 o ∧ pN O o = 1 ∧ Ob O 15 od ∧ pN O od = 1) (hp : (r = 0 ∧ ∃ v9 : Int32, ((¬ n1 < 1 ∧ ¬ 60 < n1) ∧ ¬ 1439 < pF S 56 (z 0) + n1 ∧ Inv z e0 S1 ∧ Tk z (setF S 56 (z 0) (pF S 56 (z 0) + n1)) S1 ∧ (pG S 30 (z 8) = none → pG S 30 (z 9) = none → v9 = 0)) ∧ O1 = setJ O o v9.toInt64) ∨ (r = 1 ∧ (xA = xA ∧ ((n1 < 1 ∨ 60 < n1) ∨ 1439 < pF S 56 (z 0) + n1)) ∧ S1 = S ∧ O1 = O)) (hm : pF M1 106 (w 0) = pF M 106 (w 0) ∧ ((pF M1 100 (w 0) = 1 ∧ ((n1 < 1 ∨ 60 < n1) ∨ 1439 < pF M 104 (w 0) + n1) ∧ Mr w M M1) ∨ (pF M1 100 (w 0) = 0 ∧ (¬ n1 < 1 ∧ ¬ 60 < n1) ∧ ¬ 1439 < pF M 104 (w 0) + n1 ∧ Mr w (setF M 104 (w 0) (pF M 104 (w 0) + n1)) M1 ∧ (pX M (w 13) 0 = 0 → pX M (w 13) 1 = 0 → r2 = 0)))) : (Inv z e0 S1 ∧ MI w M1 ∧ kRel z w (t + 1) S1 M1) ∧ (Ob O1 14 o ∧ pN O1 o = 1 ∧ Ob O1 15 od ∧ pN O1 od = 1) := by
  have hR0 := hR
  obtain ⟨r1, r2_, r3, ⟨r4, r4b⟩, ⟨r5, r5b⟩, -⟩ := hR0
  obtain ⟨hc6, hm⟩ := hm
  have h9 : ∃ c9, c9 ≤ cn + 13 ∧ pF M1 106 (w 0) = nI c9 := ⟨cn, by omega, hc6.trans hc⟩
  rw [← r4] at hm
  obtain ⟨d1, hd1, hd2⟩ := r4b
  rcases hp with ⟨rfl, v9, ⟨h1, h2, hI1, hk, -⟩, rfl⟩ | ⟨rfl, ⟨-, hx⟩, rfl, rfl⟩
  · rcases hm with ⟨k1, k2, hr⟩ | ⟨k1, k2, k3, hr, k4⟩
    · exact (k2.elim (fun k => k.elim h1.1 h1.2) h2).elim
    · exact ⟨⟨hI1, hr.1, (hR.mn rfl (kadd hd1 hd2 h1.1 h1.2 h2)).step hk hr h9 hcn⟩, kz_o ho⟩
  · rcases hm with ⟨k1, k2, hr⟩ | ⟨k1, k2, k3, hr, k4⟩
    · exact ⟨⟨hI, hr.1, hR.step Tk.rf hr h9 hcn⟩, ho⟩
    · exact (hx.elim (fun k => k.elim k2.1 k2.2) k3).elim
theorem kg_minute {z w : Nat → Nat} {e0 t cn : Nat} {S M S1 M1 : wPS} {r : Int32} {r2 : Int32} (hI : Inv z e0 S) (hMI : MI w M) (hR : kRel z w t S M) (hcn : cn ≤ 13 * t) (hc : pF M 106 (w 0) = nI cn) (hp : S1 = S ∧ r = pF S 56 (z 0)) (hm : Mr w M M1 ∧ pF M1 106 (w 0) = pF M 106 (w 0) ∧ pF M1 100 (w 0) = 0 ∧ r2 = pF M 104 (w 0)) : (Inv z e0 S1 ∧ MI w M1 ∧ kRel z w (t + 1) S1 M1) ∧ r = r2 := by
  have hR0 := hR
  obtain ⟨r1, r2_, r3, ⟨r4, r4b⟩, ⟨r5, r5b⟩, -⟩ := hR0
  obtain ⟨rfl, hv1⟩ := hp
  obtain ⟨hr, hc6, -, hv2⟩ := hm
  have h9 : ∃ c9, c9 ≤ cn + 13 ∧ pF M1 106 (w 0) = nI c9 := ⟨cn, by omega, hc6.trans hc⟩
  exact ⟨⟨hI, hr.1, hR.step Tk.rf hr h9 hcn⟩, hv1.trans (r4.trans hv2.symm)⟩
theorem kg_scans {z w : Nat → Nat} {e0 t cn : Nat} {S M S1 M1 : wPS} {r : Int32} {r2 : Int32} (hI : Inv z e0 S) (hMI : MI w M) (hR : kRel z w t S M) (hcn : cn ≤ 13 * t) (hc : pF M 106 (w 0) = nI cn) (hp : S1 = S ∧ r = pF S 42 (z 12)) (hm : Mr w M M1 ∧ pF M1 106 (w 0) = pF M 106 (w 0) ∧ pF M1 100 (w 0) = 0 ∧ r2 = pF M 106 (w 0)) : (Inv z e0 S1 ∧ MI w M1 ∧ kRel z w (t + 1) S1 M1) := by
  have hR0 := hR
  obtain ⟨r1, r2_, r3, ⟨r4, r4b⟩, ⟨r5, r5b⟩, -⟩ := hR0
  obtain ⟨rfl, hv1⟩ := hp
  obtain ⟨hr, hc6, -, hv2⟩ := hm
  have h9 : ∃ c9, c9 ≤ cn + 13 ∧ pF M1 106 (w 0) = nI c9 := ⟨cn, by omega, hc6.trans hc⟩
  exact ⟨hI, hr.1, hR.step Tk.rf hr h9 hcn⟩
theorem kg_scanOrder {z w : Nat → Nat} {e0 t cn : Nat} {S M S1 M1 : wPS} {O O1 : wPS} {o od : Nat} {n1 : Int32} {r : Int32} (hI : Inv z e0 S) (hMI : MI w M) (hR : kRel z w t S M) (hcn : cn ≤ 13 * t) (hc : pF M 106 (w 0) = nI cn) (ho : Ob O 14 o ∧ pN O o = 1 ∧ Ob O 15 od ∧ pN O od = 1) (hp : (r = 0 ∧ ∃ v9 : Int32, (S1 = S ∧ ¬ n1 < 0 ∧ n1 < pF S 42 (z 12)) ∧ O1 = setJ O o v9.toInt64) ∨ (r = 1 ∧ (xI = xI) ∧ S1 = S ∧ O1 = O)) (hm : Mr w M M1 ∧ pF M1 106 (w 0) = pF M 106 (w 0) ∧ (pF M1 100 (w 0) = 1 ∨ ∃ j, j < cn ∧ n1 = nI j)) : (Inv z e0 S1 ∧ MI w M1 ∧ kRel z w (t + 1) S1 M1) ∧ (Ob O1 14 o ∧ pN O1 o = 1 ∧ Ob O1 15 od ∧ pN O1 od = 1) := by
  have hR0 := hR
  obtain ⟨r1, r2_, r3, ⟨r4, r4b⟩, ⟨r5, r5b⟩, -⟩ := hR0
  obtain ⟨hr, hc6, -⟩ := hm
  have h9 : ∃ c9, c9 ≤ cn + 13 ∧ pF M1 106 (w 0) = nI c9 := ⟨cn, by omega, hc6.trans hc⟩
  rcases hp with ⟨rfl, v9, ⟨rfl, -⟩, rfl⟩ | ⟨rfl, -, rfl, rfl⟩
  · exact ⟨⟨hI, hr.1, hR.step Tk.rf hr h9 hcn⟩, kz_o ho⟩
  · exact ⟨⟨hI, hr.1, hR.step Tk.rf hr h9 hcn⟩, ho⟩
theorem kg_scanSign {z w : Nat → Nat} {e0 t cn : Nat} {S M S1 M1 : wPS} {O O1 : wPS} {o od : Nat} {n1 : Int32} {r : Int32} {r2 : Int32} (hI : Inv z e0 S) (hMI : MI w M) (hR : kRel z w t S M) (hcn : cn ≤ 13 * t) (hc : pF M 106 (w 0) = nI cn) (ho : Ob O 14 o ∧ pN O o = 1 ∧ Ob O 15 od ∧ pN O od = 1) (hp : (r = 0 ∧ ∃ v9 : Int32, (S1 = S ∧ kCh v9 ∧ ¬ n1 < 0 ∧ n1 < pF S 42 (z 12)) ∧ O1 = setJ O o v9.toInt64) ∨ (r = 1 ∧ (xI = xI) ∧ S1 = S ∧ O1 = O)) (hm : Mr w M M1 ∧ pF M1 106 (w 0) = pF M 106 (w 0) ∧ kCh r2 ∧ (pF M1 100 (w 0) = 1 ∨ ∃ j, j < cn ∧ n1 = nI j)) : (Inv z e0 S1 ∧ MI w M1 ∧ kRel z w (t + 1) S1 M1) ∧ (Ob O1 14 o ∧ pN O1 o = 1 ∧ Ob O1 15 od ∧ pN O1 od = 1) := by
  have hR0 := hR
  obtain ⟨r1, r2_, r3, ⟨r4, r4b⟩, ⟨r5, r5b⟩, -⟩ := hR0
  obtain ⟨hr, hc6, -⟩ := hm
  have h9 : ∃ c9, c9 ≤ cn + 13 ∧ pF M1 106 (w 0) = nI c9 := ⟨cn, by omega, hc6.trans hc⟩
  rcases hp with ⟨rfl, v9, ⟨rfl, -⟩, rfl⟩ | ⟨rfl, -, rfl, rfl⟩
  · exact ⟨⟨hI, hr.1, hR.step Tk.rf hr h9 hcn⟩, kz_o ho⟩
  · exact ⟨⟨hI, hr.1, hR.step Tk.rf hr h9 hcn⟩, ho⟩
theorem kg_shipped {z w : Nat → Nat} {e0 t cn : Nat} {S M S1 M1 : wPS} {r : Int64} {r2 : Int64} (hI : Inv z e0 S) (hMI : MI w M) (hR : kRel z w t S M) (hcn : cn ≤ 13 * t) (hc : pF M 106 (w 0) = nI cn) (hp : S1 = S ∧ r = pJ S (z 0)) (hm : Mr w M M1 ∧ pF M1 106 (w 0) = pF M 106 (w 0) ∧ pF M1 100 (w 0) = 0 ∧ (pF M 102 (w 0) = 0 → r2 = 0)) : (Inv z e0 S1 ∧ MI w M1 ∧ kRel z w (t + 1) S1 M1) := by
  have hR0 := hR
  obtain ⟨r1, r2_, r3, ⟨r4, r4b⟩, ⟨r5, r5b⟩, -⟩ := hR0
  obtain ⟨rfl, hv1⟩ := hp
  obtain ⟨hr, hc6, -, hv2⟩ := hm
  have h9 : ∃ c9, c9 ≤ cn + 13 ∧ pF M1 106 (w 0) = nI c9 := ⟨cn, by omega, hc6.trans hc⟩
  exact ⟨hI, hr.1, hR.step Tk.rf hr h9 hcn⟩
theorem kg_shippedShare {z w : Nat → Nat} {e0 t cn : Nat} {S M S1 M1 : wPS} {O O1 : wPS} {o od : Nat} {r : Int32} (hI : Inv z e0 S) (hMI : MI w M) (hR : kRel z w t S M) (hcn : cn ≤ 13 * t) (hc : pF M 106 (w 0) = nI cn) (ho : Ob O 14 o ∧ pN O o = 1 ∧ Ob O 15 od ∧ pN O od = 1) (hp : (r = 0 ∧ ∃ v9 : UInt32, ((∃ k m, k ≤ m ∧ m ≤ 12 ∧ 1 ≤ m ∧ v9 = FP.fdiv (FP.i2f (nI k)) (FP.i2f (nI m))) ∧ ¬ pF S 72 (z 11) = 0 ∧ S1 = S) ∧ O1 = setJ O od (FP.f2d v9).toInt64) ∨ (r = 1 ∧ (xN = xN) ∧ S1 = S ∧ O1 = O)) (hm : pF M1 106 (w 0) = pF M 106 (w 0) ∧ Mr w M M1 ∧ ((pF M 102 (w 0) = 0 ∧ pF M1 100 (w 0) = 1) ∨ (¬ pF M 102 (w 0) = 0 ∧ pF M1 100 (w 0) = 0))) : (Inv z e0 S1 ∧ MI w M1 ∧ kRel z w (t + 1) S1 M1) ∧ (Ob O1 14 o ∧ pN O1 o = 1 ∧ Ob O1 15 od ∧ pN O1 od = 1) := by
  have hR0 := hR
  obtain ⟨r1, r2_, r3, ⟨r4, r4b⟩, ⟨r5, r5b⟩, -⟩ := hR0
  obtain ⟨hc6, hr, -⟩ := hm
  have h9 : ∃ c9, c9 ≤ cn + 13 ∧ pF M1 106 (w 0) = nI c9 := ⟨cn, by omega, hc6.trans hc⟩
  rcases hp with ⟨rfl, v9, ⟨-, -, rfl⟩, rfl⟩ | ⟨rfl, -, rfl, rfl⟩
  · exact ⟨⟨hI, hr.1, hR.step Tk.rf hr h9 hcn⟩, ho⟩
  · exact ⟨⟨hI, hr.1, hR.step Tk.rf hr h9 hcn⟩, ho⟩
