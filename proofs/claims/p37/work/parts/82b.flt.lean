section KL5
variable {p : Program} {l : Launch} {e : Env} {R : Room} {s : State} {m : MethodId} {args : Array Value} {below : List Frame} {meth : Method} {c : Code} {H : Heap} {locs : List Loc} {cells slots : Nat} {Q : State → Prop} {pc : Nat} {ls : Array Slot} {st0 rest : List Value} {cc : ByteArray} {nL : Nat} {own : String} {g : kG} {S O M : wPS} {A : Nat → Prop} {e0 : Nat} {H0 : Heap} {a index : Nat}
theorem kcallWL {mc ms sz : Nat} {a : Array Value} {po : Int64 → wPS → Prop} {Ex : String → Prop}
    (hr : vx_Run p l e R s m args below meth c H locs cells slots mc ms (F0 m pc ls st0) rest (kQ g S sz (pLo po) a) (kX g S sz Ex) (kA (pL S) sz)) (hsz : H.size = sz) (hD : va_D A (kW g S)) (hS : va_S A s.heap H locs) (hA : ∀ q : Nat, s.heap.size ≤ q → A q)
    (kx : ∀ (E : String) (ce : Cell) (q9 : Addr) (H1 : Heap) (locs1 : List Loc), Ex E → va_P (kD g) vwCl (kW g S) H1 → H.size ≤ H1.size → (∀ q : Nat, q < H.size → ¬ kA (pL S) H.size q → H1[q]? = H[q]?) → va_S A s.heap H1 locs1 → H1[q9]? = some ce → ce.vm = .none → s.vm.findClass E = some ce.cls → vx_W p l e R s m args below meth c H1 locs1 (cells + mc) (slots + ms) Q (F0 m pc ls rest) q9)
    (kk : ∀ (r : Int64) (S1 : wPS) (H1 : Heap) (locs1 : List Loc), po r S1 → va_P (kD g) vwCl (kW g S1) H1 → va_D (kA (pL S) H.size) (kW g S1) → va_D A (kW g S1) → H.size ≤ H1.size → (∀ q : Nat, q < H.size → ¬ kA (pL S) H.size q → H1[q]? = H[q]?) → va_S A s.heap H1 locs1 → W p l e R s m args below meth c H1 locs1 (cells + mc) (slots + ms) Q (F0 m (pc + 3) ls (.long r :: rest))) :
    W p l e R s m args below meth c H locs cells slots Q (F0 m pc ls st0) :=
  kcallW hr hsz hD hS hA kx (fun v S1 H1 locs1 hp h2 h3 h4 h5 h6 h7 => by
    obtain ⟨r, rfl, hp⟩ := hp
    exact kk r S1 H1 locs1 hp h2 h3 h4 h5 h6 h7)
end KL5
theorem ko_self (d : FP.Core.Datum) (h : d ≠ .nan) : FP.Core.order d d = some .eq := by
  have hc : ∀ a : Int, compare a a = Ordering.eq := fun a => by
    show (if a < a then Ordering.lt else if a = a then Ordering.eq else Ordering.gt) = Ordering.eq
    rw [if_neg (Int.lt_irrefl _), if_pos rfl]
  cases d with
  | nan => exact absurd rfl h
  | inf s => exact congrArg some (hc _)
  | fin s c q => exact congrArg some (hc _)
theorem kfeq0 : ((List.range 13).all fun m => m == 0 || (List.range 13).all fun k => !FP.Core.isNaN FP.Core.b32 (FP.fdiv (FP.i2f (nI k)) (FP.i2f (nI m))).toNat) = true := by decide +kernel
theorem kfeq {k m : Nat} (h1 : k ≤ m) (h2 : m ≤ 12) (h3 : 1 ≤ m) : Op.cmpValue (FP.fcmp (FP.fdiv (FP.i2f (nI k)) (FP.i2f (nI m))) (FP.fdiv (FP.i2f (nI k)) (FP.i2f (nI m)))) .l = 0 := by
  have h := List.all_eq_true.mp kfeq0 m (List.mem_range.mpr (by omega))
  rcases Bool.or_eq_true _ _ |>.mp h with h | h
  · exact absurd (beq_iff_eq.mp h) (by omega)
  · have h9 := List.all_eq_true.mp h k (List.mem_range.mpr (by omega))
    generalize FP.fdiv (FP.i2f (nI k)) (FP.i2f (nI m)) = v at h9 ⊢
    have hn : FP.Core.decode FP.Core.b32 v.toNat ≠ .nan := fun e => by
      unfold FP.Core.isNaN at h9
      rw [e] at h9
      exact absurd h9 (by decide)
    have hf : FP.fcmp v v = some .eq := ko_self _ hn
    rw [hf]
    rfl
