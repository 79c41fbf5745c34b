/-! the law's own making: a new thing in a pool of its own, beside other worlds -/
def kE0 : wPS := ([], fun _ => 0, fun _ _ => 0, fun _ _ => none, fun _ => 0, fun _ => 0, fun _ _ => 0, fun _ _ => none)
theorem kdis_of {g : kG} {A : Nat → Prop} {w0 : va_W} {S O : wPS} (h : va_D A ((w0 ++ kW g S) ++ kW g O)) : kdis S O := by
  intro a ha hb
  obtain ⟨i, hi⟩ := kW_get (g := g) ha
  obtain ⟨j, hj⟩ := kW_get (g := g) hb
  have hil := (List.getElem?_eq_some_iff.mp hi).1
  have h1 : ((w0 ++ kW g S) ++ kW g O)[w0.length + i]? = some (a, kF g S a) := by
    rw [List.getElem?_append_left (by rw [List.length_append]; omega), List.getElem?_append_right (Nat.le_add_right _ _), Nat.add_sub_cancel_left]; exact hi
  have h2 : ((w0 ++ kW g S) ++ kW g O)[(w0.length + (kW g S).length) + j]? = some (a, kF g O a) := by
    rw [List.getElem?_append_right (by rw [List.length_append]; omega), List.length_append, Nat.add_sub_cancel_left]; exact hj
  have := h.1 _ _ _ _ h1 h2 rfl
  omega
theorem kdis_of2 {g : kG} {A : Nat → Prop} {S M O : wPS} (h : va_D A ((kW g S ++ kW g M) ++ kW g O)) : kdis S O := by
  intro a ha hb
  obtain ⟨i, hi⟩ := kW_get (g := g) ha
  obtain ⟨j, hj⟩ := kW_get (g := g) hb
  have hil := (List.getElem?_eq_some_iff.mp hi).1
  have h1 : ((kW g S ++ kW g M) ++ kW g O)[i]? = some (a, kF g S a) := by
    rw [List.getElem?_append_left (by rw [List.length_append]; omega), List.getElem?_append_left hil]; exact hi
  have h2 : ((kW g S ++ kW g M) ++ kW g O)[((kW g S).length + (kW g M).length) + j]? = some (a, kF g O a) := by
    rw [List.getElem?_append_right (by rw [List.length_append]; omega), List.length_append, Nat.add_sub_cancel_left]; exact hj
  have := h.1 _ _ _ _ h1 h2 rfl
  omega
theorem va_D_l {A : Nat → Prop} {w1 w2 : va_W} (h : va_D A (w1 ++ w2)) : va_D A w1 := by
  have hk : ∀ (k : Nat) (q : Nat × va_E), w1[k]? = some q → (w1 ++ w2)[k]? = some q := fun k q hk => by rw [List.getElem?_append_left (List.getElem?_eq_some_iff.mp hk).1]; exact hk
  exact ⟨fun i j p q hi hj e => h.1 _ _ p q (hk i p hi) (hk j q hj) e, fun k q hq => h.2 _ q (hk k q hq)⟩
section KL
variable {p : Program} {l : Launch} {e : Env} {R : Room} {s : State} {m : MethodId} {args : Array Value} {below : List Frame} {meth : Method} {c : Code} {H : Heap} {locs : List Loc} {cells slots : Nat} {Q : State → Prop} {pc : Nat} {ls : Array Slot} {st0 rest : List Value} {cc : ByteArray} {nL : Nat} {own : String} {g : kG} {S O M : wPS} {A : Nat → Prop} {e0 : Nat} {H0 : Heap} {a index : Nat}
theorem kcallWL {mc ms sz : Nat} {a : Array Value} {po : Int64 → wPS → Prop} {Ex : String → Prop}
    (hr : vx_Run p l e R s m args below meth c H locs cells slots mc ms (F0 m pc ls st0) rest (kQ g S sz (pLo po) a) (kX g S sz Ex) (kA (pL S) sz)) (hsz : H.size = sz) (hD : va_D A (kW g S)) (hS : va_S A s.heap H locs) (hA : ∀ q : Nat, s.heap.size ≤ q → A q)
    (kx : ∀ (E : String) (ce : Cell) (q9 : Addr) (H1 : Heap) (locs1 : List Loc), Ex E → va_P (kD g) vwCl (kW g S) H1 → H.size ≤ H1.size → (∀ q : Nat, q < H.size → ¬ kA (pL S) H.size q → H1[q]? = H[q]?) → va_S A s.heap H1 locs1 → H1[q9]? = some ce → ce.vm = .none → s.vm.findClass E = some ce.cls → vx_W p l e R s m args below meth c H1 locs1 (cells + mc) (slots + ms) Q (F0 m pc ls rest) q9)
    (kk : ∀ (r : Int64) (S1 : wPS) (H1 : Heap) (locs1 : List Loc), po r S1 → va_P (kD g) vwCl (kW g S1) H1 → va_D (kA (pL S) H.size) (kW g S1) → va_D A (kW g S1) → H.size ≤ H1.size → (∀ q : Nat, q < H.size → ¬ kA (pL S) H.size q → H1[q]? = H[q]?) → va_S A s.heap H1 locs1 → W p l e R s m args below meth c H1 locs1 (cells + mc) (slots + ms) Q (F0 m (pc + 3) ls (.long r :: rest))) :
    W p l e R s m args below meth c H locs cells slots Q (F0 m pc ls st0) :=
  kcallW hr hsz hD hS hA kx (fun v S1 H1 locs1 hp h2 h3 h4 h5 h6 h7 => by
    obtain ⟨r, rfl, hp⟩ := hp
    exact kk r S1 H1 locs1 hp h2 h3 h4 h5 h6 h7)
theorem kcallWU {mc ms sz : Nat} {a : Array Value} {po : wPS → Prop} {Ex : String → Prop}
    (hr : vx_Run p l e R s m args below meth c H locs cells slots mc ms (F0 m pc ls st0) rest (kQ g S sz (pU po) a) (kX g S sz Ex) (kA (pL S) sz)) (hsz : H.size = sz) (hD : va_D A (kW g S)) (hS : va_S A s.heap H locs) (hA : ∀ q : Nat, s.heap.size ≤ q → A q)
    (kx : ∀ (E : String) (ce : Cell) (q9 : Addr) (H1 : Heap) (locs1 : List Loc), Ex E → va_P (kD g) vwCl (kW g S) H1 → H.size ≤ H1.size → (∀ q : Nat, q < H.size → ¬ kA (pL S) H.size q → H1[q]? = H[q]?) → va_S A s.heap H1 locs1 → H1[q9]? = some ce → ce.vm = .none → s.vm.findClass E = some ce.cls → vx_W p l e R s m args below meth c H1 locs1 (cells + mc) (slots + ms) Q (F0 m pc ls rest) q9)
    (kk : ∀ (S1 : wPS) (H1 : Heap) (locs1 : List Loc), po S1 → va_P (kD g) vwCl (kW g S1) H1 → va_D (kA (pL S) H.size) (kW g S1) → va_D A (kW g S1) → H.size ≤ H1.size → (∀ q : Nat, q < H.size → ¬ kA (pL S) H.size q → H1[q]? = H[q]?) → va_S A s.heap H1 locs1 → W p l e R s m args below meth c H1 locs1 (cells + mc) (slots + ms) Q (F0 m (pc + 3) ls rest)) :
    W p l e R s m args below meth c H locs cells slots Q (F0 m pc ls st0) :=
  kcallW hr hsz hD hS hA kx (fun v S1 H1 locs1 hp h2 h3 h4 h5 h6 h7 => by
    obtain ⟨rfl, hp⟩ := hp
    exact kk S1 H1 locs1 hp h2 h3 h4 h5 h6 h7)
/-- an int of the script, by its name -/
theorem ksld (hexec : p.tables.exec = Jvm.exec) (hb : c.code = cc) {b L : Nat} {xs : Nat → Int32} (hX : va_X b L xs s H0) (hbl : b < H0.size) (hbA : ¬ A b) (hS : va_S A H0 H locs) {i v : Int32} (hin : vp_in i L) (hv : xs i.toNatClampNeg = v) (hdg : decode cc pc = .ok (.iaload, 1))
    (kk : W p l e R s m args below meth c H locs cells slots Q (F0 m (pc + 1) ls (.int v :: rest))) : W p l e R s m args below meth c H locs cells slots Q (F0 m pc ls (.int i :: .ref b :: rest)) := va_sld hexec hb hX hbl hbA hS hin hdg (by rw [hv]; exact kk)
theorem rn3_Model {w0 : va_W} (F : CallFix p m c cc nL s args wsL_law own) (hK : va_K (kD g) vwCl (kT g) s) (hP : va_P (kD g) vwCl (w0 ++ kW g S) H) (hD : va_D A (w0 ++ kW g S)) (hS : va_S A H0 H locs) (hA : ∀ q : Nat, H0.size ≤ q → A q) (w1 : Cond.classLink own index RX6 ∈ wsL_law) (w2 : Cond.instantiable RX6 24 ∈ wsL_law) (w3 : Cond.initialized RX6 ∈ wsL_law) (hc : cells + 1 ≤ R.cells) (hs : slots + 24 ≤ R.slots) (hdg : decode cc pc = .ok (.new index, 3)) (kk : ∀ (q : Nat) (H1 : Heap), q ∉ pL S → va_P (kD g) vwCl (w0 ++ kW g (newO S q 6)) H1 → va_D A (w0 ++ kW g (newO S q 6)) → va_S A H0 H1 locs → W p l e R s m args below meth c H1 locs (cells + 1) (slots + 24) Q (F0 m (pc + 3) ls (.ref q :: rest))) : W p l e R s m args below meth c H locs cells slots Q (F0 m pc ls rest) := by
  refine va_new (D := kD g) (ci := 7) (fs := [.int 0, .int 0, .int 0, .int 0, .int 0, .int 0, .int 0, .null, .null, .null, .null, .null, .null, .null, .null, .null, .null, .null, .null, .null, .null, .null, .null, .null]) (C := RX6) (T := TX6) (N := 24) F.1 F.2.1 F.2.2.2.2 inlX6 tyX6 tyX6_ok F.2.2.2.1 (F.2.2.2.2 _ w1) (F.2.2.2.2 _ w2) (F.2.2.2.2 _ w3) hK hP hD hS hA rfl (fun j hj => by rcases (show j = 0 ∨ j = 1 ∨ j = 2 ∨ j = 3 ∨ j = 4 ∨ j = 5 ∨ j = 6 ∨ j = 7 ∨ j = 8 ∨ j = 9 ∨ j = 10 ∨ j = 11 ∨ j = 12 ∨ j = 13 ∨ j = 14 ∨ j = 15 ∨ j = 16 ∨ j = 17 ∨ j = 18 ∨ j = 19 ∨ j = 20 ∨ j = 21 ∨ j = 22 ∨ j = 23 by omega) with rfl | rfl | rfl | rfl | rfl | rfl | rfl | rfl | rfl | rfl | rfl | rfl | rfl | rfl | rfl | rfl | rfl | rfl | rfl | rfl | rfl | rfl | rfl | rfl <;> rfl) hc hs hdg (fun q H1 a1 a2 a3 => ?_)
  have hq : q ∉ pL S := va_pl_fresh2 (X := w0) a2
  have e : kW g S ++ [(q, .inr (7, [.int 0, .int 0, .int 0, .int 0, .int 0, .int 0, .int 0, .null, .null, .null, .null, .null, .null, .null, .null, .null, .null, .null, .null, .null, .null, .null, .null, .null]))] = kW g (newO S q 6) := kW_push hq rfl (by rw [show kF g (newO S q 6) q = .inr (7, [.int (va_up (pF S 100) q 0 q), .int (va_up (pF S 101) q 0 q), .int (va_up (pF S 102) q 0 q), .int (va_up (pF S 103) q 0 q), .int (va_up (pF S 104) q 0 q), .int (va_up (pF S 105) q 0 q), .int (va_up (pF S 106) q 0 q), va_rf (va_up (pG S 107) q none q), va_rf (va_up (pG S 108) q none q), va_rf (va_up (pG S 109) q none q), va_rf (va_up (pG S 110) q none q), va_rf (va_up (pG S 111) q none q), va_rf (va_up (pG S 112) q none q), va_rf (va_up (pG S 113) q none q), va_rf (va_up (pG S 114) q none q), va_rf (va_up (pG S 115) q none q), va_rf (va_up (pG S 116) q none q), va_rf (va_up (pG S 117) q none q), va_rf (va_up (pG S 118) q none q), va_rf (va_up (pG S 119) q none q), va_rf (va_up (pG S 120) q none q), va_rf (va_up (pG S 121) q none q), va_rf (va_up (pG S 122) q none q), va_rf (va_up (pG S 123) q none q)]) from kat_Model (S := newO S q 6) (va_up_self _ _ _)]; simp only [va_up_self]; try rfl) (fun b hb => kF_O hb)
  rw [List.append_assoc, e] at a1 a2
  exact kk q H1 hq a1 a2 a3
theorem rn3_R_J {w0 : va_W} (F : CallFix p m c cc nL s args wsL_law own) (hK : va_K (kD g) vwCl (kT g) s) (hP : va_P (kD g) vwCl (w0 ++ kW g S) H) (hD : va_D A (w0 ++ kW g S)) (hS : va_S A H0 H locs) (hA : ∀ q : Nat, H0.size ≤ q → A q) (w1 : Cond.arrayClass .long ∈ wsL_law) (hc : cells + 1 ≤ R.cells) (hs : slots + 1 ≤ R.slots) (hdg : decode cc pc = .ok (.newarray .long, 2)) (kk : ∀ (q : Nat) (H1 : Heap), q ∉ pL S → va_P (kD g) vwCl (w0 ++ kW g (setJ (newA S q 14 1) q 0)) H1 → va_D A (w0 ++ kW g (setJ (newA S q 14 1) q 0)) → va_S A H0 H1 locs → W p l e R s m args below meth c H1 locs (cells + 1) (slots + 1) Q (F0 m (pc + 2) ls (.ref q :: rest))) : W p l e R s m args below meth c H locs cells slots Q (F0 m pc ls (.int 1 :: rest)) := by
  refine va_newa (D := kD g) (atype := .long) (ty := .long) (N' := 1) (a0 := (1, .inr (.inl (fun _ => 0)))) F.1 F.2.1 (F.2.2.2.2 _ w1) rfl hK hP hD hS hA (fun _ => rfl) (by decide) rfl (by decide) hc hs hdg (fun q cA H1 a0 a1 a2 a3 => ?_)
  have hq : q ∉ pL S := va_pl_fresh2 (X := w0) a2
  have h1 := (a0.2 8 (cA, .long) rfl).2
  have h2 := (hK.2 6 (g.2.2 6, .long) rfl).2
  cases Option.some.inj ((va_nm_long h1).symm.trans (va_nm_long h2))
  have e : kW g S ++ [(q, .inl (g.2.2 6, 1, .inr (.inl (fun _ => 0))))] = kW g (setJ (newA S q 14 1) q 0) := kW_push hq rfl (by rw [show kF g (setJ (newA S q 14 1) q 0) q = .inl (g.2.2 6, va_up (pN S) q 1 q, .inr (.inl (kl0 (va_up (pJ S) q 0 q)))) from kat_RJ (S := setJ (newA S q 14 1) q 0) (va_up_self _ _ _)]; rw [va_up_self, va_up_self, kl0_0]) (fun b hb => (kF_J (S := newA S q 14 1) hb).trans (kF_A hb))
  rw [List.append_assoc, e] at a1 a2
  exact kk q H1 hq a1 a2 a3
theorem rn3_R_D {w0 : va_W} (F : CallFix p m c cc nL s args wsL_law own) (hK : va_K (kD g) vwCl (kT g) s) (hP : va_P (kD g) vwCl (w0 ++ kW g S) H) (hD : va_D A (w0 ++ kW g S)) (hS : va_S A H0 H locs) (hA : ∀ q : Nat, H0.size ≤ q → A q) (w1 : Cond.arrayClass .double ∈ wsL_law) (hc : cells + 1 ≤ R.cells) (hs : slots + 1 ≤ R.slots) (hdg : decode cc pc = .ok (.newarray .double, 2)) (kk : ∀ (q : Nat) (H1 : Heap), q ∉ pL S → va_P (kD g) vwCl (w0 ++ kW g (setJ (newA S q 15 1) q 0)) H1 → va_D A (w0 ++ kW g (setJ (newA S q 15 1) q 0)) → va_S A H0 H1 locs → W p l e R s m args below meth c H1 locs (cells + 1) (slots + 1) Q (F0 m (pc + 2) ls (.ref q :: rest))) : W p l e R s m args below meth c H locs cells slots Q (F0 m pc ls (.int 1 :: rest)) := by
  refine va_newa (D := kD g) (atype := .double) (ty := .double) (N' := 1) (a0 := (1, .inr (.inr (.inr (.inl (fun _ => 0)))))) F.1 F.2.1 (F.2.2.2.2 _ w1) rfl hK hP hD hS hA (fun _ => rfl) (by decide) rfl (by decide) hc hs hdg (fun q cA H1 a0 a1 a2 a3 => ?_)
  have hq : q ∉ pL S := va_pl_fresh2 (X := w0) a2
  have h1 := (a0.2 8 (cA, .double) rfl).2
  have h2 := (hK.2 7 (g.2.2 7, .double) rfl).2
  cases Option.some.inj ((va_nm_double h1).symm.trans (va_nm_double h2))
  have e : kW g S ++ [(q, .inl (g.2.2 7, 1, .inr (.inr (.inr (.inl (fun _ => 0))))))] = kW g (setJ (newA S q 15 1) q 0) := kW_push hq rfl (by rw [show kF g (setJ (newA S q 15 1) q 0) q = .inl (g.2.2 7, va_up (pN S) q 1 q, .inr (.inr (.inr (.inl (kd0 (va_up (pJ S) q 0 q).toUInt64))))) from kat_RD (S := setJ (newA S q 15 1) q 0) (va_up_self _ _ _)]; rw [va_up_self, va_up_self]; exact congrArg (fun f => Sum.inl (g.2.2 7, 1, Sum.inr (Sum.inr (Sum.inr (Sum.inl f))))) kd0_0) (fun b hb => (kF_J (S := newA S q 15 1) hb).trans (kF_A hb))
  rw [List.append_assoc, e] at a1 a2
  exact kk q H1 hq a1 a2 a3

end KL
/-- what holds at the law's calls -/
abbrev kAs (s : State) : Nat → Prop := fun q => s.heap.size ≤ q
def kLc (p : Program) (s : State) (m : MethodId) (c : Code) (b L : Nat) (xs : Nat → Int32) (g : kG) (e0 : Nat) (z w : Nat → Nat) (S M O : wPS) (o od : Nat) (H : Heap) (locs : List Loc) : Prop :=
  (CallFix p m c cL_law 8 s #[.ref b] wsL_law RL ∧ va_K (kD g) vwCl (kT g) s ∧ kEn g e0 (kAs s) s s.heap ∧ kNc s ∧ va_X b L xs s s.heap ∧ b < s.heap.size) ∧
  (va_P (kD g) vwCl (kW g S) H ∧ va_P (kD g) vwCl (kW g M) H ∧ va_P (kD g) vwCl (kW g O) H) ∧ (va_D (kAs s) (kW g S) ∧ va_D (kAs s) (kW g M) ∧ va_D (kAs s) (kW g O)) ∧
  (kdis S O ∧ kdis S M ∧ kdis O M) ∧ va_S (kAs s) s.heap H locs ∧ (Ob O 14 o ∧ pN O o = 1 ∧ Ob O 15 od ∧ pN O od = 1) ∧ Inv z e0 S ∧ MI w M
/-- the ints of one call -/
def kIx (L : Nat) (xs : Nat → Int32) (i n1 n2 n3 n4 : Int32) : Prop := (vp_in (i + 1) L ∧ vp_in (i + 2) L ∧ vp_in (i + 3) L ∧ vp_in (i + 4) L) ∧ xs (i + 1).toNatClampNeg = n1 ∧ xs (i + 2).toNatClampNeg = n2 ∧ xs (i + 3).toNatClampNeg = n3 ∧ xs (i + 4).toNatClampNeg = n4
theorem ksw (v : Int32) : ∃ n, n < 64 ∧ v &&& 63 = nI n := by
  refine ⟨(v &&& 63).toBitVec.toNat, ?_, ?_⟩
  · rw [Int32.toBitVec_and, BitVec.toNat_and]
    exact Nat.lt_of_le_of_lt Nat.and_le_right (by decide)
  · apply Int32.toBitVec_inj.mp
    unfold nI
    rw [Int32.toBitVec_ofNat']
    simp
theorem Inv.ob0 {z : Nat → Nat} {e0 : Nat} {S : wPS} (h : Inv z e0 S) : Ob S 5 (z 0) := h.1.1 0 (by decide)
