theorem ko_self (d : FP.Core.Datum) (h : d ≠ .nan) : FP.Core.order d d = some .eq := by
  have hc : ∀ a : Int, compare a a = Ordering.eq := fun a => by
    show (if a < a then Ordering.lt else if a = a then Ordering.eq else Ordering.gt) = Ordering.eq
    rw [if_neg (Int.lt_irrefl _), if_pos rfl]
  cases d with
  | nan => exact absurd rfl h
  | inf s => exact congrArg some (hc _)
  | fin s c q => exact congrArg some (hc _)
theorem kfeq0 : ((List.range 13).all fun m => m == 0 || (List.range 13).all fun k => !FP.Core.isNaN FP.Core.b32 (FP.fdiv (FP.i2f (nI k)) (FP.i2f (nI m))).toNat) = true := by decide +kernel
theorem kfeq {k m : Nat} (h1 : k ≤ m) (h2 : m ≤ 12) (h3 : 1 ≤ m) : Op.cmpValue (FP.fcmp (FP.fdiv (FP.i2f (nI k)) (FP.i2f (nI m))) (FP.fdiv (FP.i2f (nI k)) (FP.i2f (nI m)))) .l = 0 := by
  have h := List.all_eq_true.mp kfeq0 m (List.mem_range.mpr (by omega))
  rcases Bool.or_eq_true _ _ |>.mp h with h | h
  · exact absurd (beq_iff_eq.mp h) (by omega)
  · have h9 := List.all_eq_true.mp h k (List.mem_range.mpr (by omega))
    generalize FP.fdiv (FP.i2f (nI k)) (FP.i2f (nI m)) = v at h9 ⊢
    have hn : FP.Core.decode FP.Core.b32 v.toNat ≠ .nan := fun e => by
      unfold FP.Core.isNaN at h9
      rw [e] at h9
      exact absurd h9 (by decide)
    have hf : FP.fcmp v v = some .eq := ko_self _ hn
    rw [hf]
    rfl
