section KR
variable {p : Program} {l : Launch} {e : Env} {R : Room} {s : State} {m : MethodId} {args : Array Value} {below : List Frame} {meth : Method} {c : Code} {H : Heap} {locs : List Loc} {cells slots : Nat} {Q : State → Prop} {pc : Nat} {ls : Array Slot} {rest : List Value} {cc : ByteArray} {nL : Nat} {own : String} {g : kG} {S : wPS} {A : Nat → Prop} {H0 : Heap} {a index : Nat}
theorem rn_R_Z {n : Int32} {N : Nat} (F : CallFix p m c cc nL s args wsL_law own) (hK : va_K (kD g) vwCl (kT g) s) (hP : va_P (kD g) vwCl (kW g S) H) (hD : va_D A (kW g S)) (hS : va_S A H0 H locs) (hA : ∀ q : Nat, H0.size ≤ q → A q) (w1 : Cond.arrayClass .boolean ∈ wsL_law) (hn : ¬ n < 0) (hN : n.toNatClampNeg = N) (hb : N * componentBytes .boolean ≤ 536870912) (hc : cells + 1 ≤ R.cells) (hs : slots + N ≤ R.slots) (hdg : decode cc pc = .ok (.newarray .boolean, 2)) (kk : ∀ (q : Nat) (H1 : Heap), q ∉ pL S → va_P (kD g) vwCl (kW g (newA S q 10 N)) H1 → va_D A (kW g (newA S q 10 N)) → va_S A H0 H1 locs → W p l e R s m args below meth c H1 locs (cells + 1) (slots + N) Q (F0 m (pc + 2) ls (.ref q :: rest))) : W p l e R s m args below meth c H locs cells slots Q (F0 m pc ls (.int n :: rest)) := by
  refine va_newa (D := kD g) (atype := .boolean) (ty := .boolean) (N' := N) (a0 := (N, .inl (fun _ => 0))) F.1 F.2.1 (F.2.2.2.2 _ w1) rfl hK hP hD hS hA (fun _ => rfl) hn hN hb hc hs hdg (fun q cA H1 a0 a1 a2 a3 => ?_)
  have hq : q ∉ pL S := va_pl_fresh2 (X := []) a2
  have h1 := (a0.2 6 (cA, .boolean) rfl).2
  have h2 := (hK.2 2 (g.2.2 2, .boolean) rfl).2
  cases Option.some.inj ((va_nm_boolean h1).symm.trans (va_nm_boolean h2))
  have e : kW g S ++ [(q, .inl (g.2.2 2, N, .inl (fun _ => 0)))] = kW g (newA S q 10 N) := kW_push hq rfl (by rw [show kF g (newA S q 10 N) q = .inl (g.2.2 2, va_up (pN S) q N q, .inl (va_up (pX S) q (fun _ => 0) q)) from kat_RZ (S := newA S q 10 N) (va_up_self _ _ _), va_up_self, va_up_self]) (fun b hb => kF_A hb)
  exact kk q H1 hq (Eq.mp (congrArg (fun w => va_P (kD g) vwCl w H1) e) a1) (Eq.mp (congrArg (fun w => va_D A w) e) a2) a3
end KR
