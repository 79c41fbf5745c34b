/-! Two pools side by side; the law's own methods, which catch -/
theorem va_P_l {D : va_G} {cl : List vw_C} {w1 w2 : va_W} {H : Heap} (h : va_P D cl (w1 ++ w2) H) : va_P D cl w1 H := fun k q hk => h k q (by rw [List.getElem?_append_left (List.getElem?_eq_some_iff.mp hk).1]; exact hk)
theorem va_P_r {D : va_G} {cl : List vw_C} {w1 w2 : va_W} {H : Heap} (h : va_P D cl (w1 ++ w2) H) : va_P D cl w2 H := fun k q hk => h (w1.length + k) q (by rw [List.getElem?_append_right (Nat.le_add_right _ _), Nat.add_sub_cancel_left]; exact hk)
theorem va_D_r {A : Nat → Prop} {w1 w2 : va_W} (h : va_D A (w1 ++ w2)) : va_D A w2 := by
  have hk : ∀ (k : Nat) (q : Nat × va_E), w2[k]? = some q → (w1 ++ w2)[w1.length + k]? = some q := fun k q hk => by rw [List.getElem?_append_right (Nat.le_add_right _ _), Nat.add_sub_cancel_left]; exact hk
  exact ⟨fun i j p q hi hj e => Nat.add_left_cancel (h.1 _ _ p q (hk i p hi) (hk j q hj) e), fun k q hq => h.2 _ q (hk k q hq)⟩
def kdis (S O : wPS) : Prop := ∀ a, a ∈ pL S → a ∉ pL O
theorem kW_mem {g : kG} {S : wPS} {k : Nat} {q : Nat × va_E} (hk : (kW g S)[k]? = some q) : q.1 ∈ pL S := by
  have h := List.mem_of_getElem? hk
  simp only [kW, va_pl, List.nil_append, List.mem_map] at h
  obtain ⟨a, ha, he⟩ := h
  rw [← he]
  exact ha
theorem kD_app {g : kG} {A : Nat → Prop} {S O : wPS} (h1 : va_D A (kW g S)) (h2 : va_D A (kW g O)) (hx : kdis S O) : va_D A (kW g S ++ kW g O) := va_D.app h1 h2 (fun i j p q hi hj e => hx _ (kW_mem hi) (by rw [e]; exact kW_mem hj))
theorem kO_keep {g : kG} {S O : wPS} {H H1 : Heap} (hO : va_P (kD g) vwCl (kW g O) H) (hdis : kdis S O) (hf : ∀ q : Nat, q < H.size → ¬ kA (pL S) H.size q → H1[q]? = H[q]?) : va_P (kD g) vwCl (kW g O) H1 :=
  hO.kept (fun k q hk => hf q.1 ((hO k q hk).lt) (fun h => h.elim (fun h => hdis _ h (kW_mem hk)) (fun h => absurd ((hO k q hk).lt) (Nat.not_lt.mpr h))))
theorem kdis_keep {g : kG} {S S1 O : wPS} {H : Heap} (hO : va_P (kD g) vwCl (kW g O) H) (hdis : kdis S O) (hD1 : va_D (kA (pL S) H.size) (kW g S1)) : kdis S1 O := fun a ha hb => (kD_in hD1 ha).elim (fun h => hdis a h hb) (fun h => absurd (kP_lt hO hb) (Nat.not_lt.mpr h))
def kA2 (S O : wPS) (sz : Nat) : Nat → Prop := kA (pL S ++ pL O) sz
def k_ncs : List (String × String) := [("java/lang/IllegalArgumentException", "java/lang/IndexOutOfBoundsException"), ("java/lang/IllegalStateException", "java/lang/IndexOutOfBoundsException"), ("java/lang/IllegalStateException", "java/lang/IllegalArgumentException"), ("java/lang/UnsupportedOperationException", "java/lang/IndexOutOfBoundsException"), ("java/lang/UnsupportedOperationException", "java/lang/IllegalArgumentException"), ("java/lang/IllegalStateException", "java/lang/UnsupportedOperationException"), ("java/util/NoSuchElementException", "java/lang/IndexOutOfBoundsException"), ("java/util/NoSuchElementException", "java/lang/UnsupportedOperationException"), ("java/util/NoSuchElementException", "java/lang/IllegalStateException")]
def kNc (U : State) : Prop := ∀ q ∈ k_ncs, va_Nc q.1 q.2 U
def kPw (g : kG) (e0 : Nat) (S O : wPS) (sz : Nat) (U : State) : Prop := U.heap.size = sz ∧ va_P (kD g) vwCl (kW g S) U.heap ∧ va_P (kD g) vwCl (kW g O) U.heap ∧ va_K (kD g) vwCl (kT g) U ∧ va_D (kA2 S O sz) (kW g S) ∧ va_D (kA2 S O sz) (kW g O) ∧ kdis S O ∧ kEn g e0 (kA2 S O sz) U U.heap ∧ kNc U
def kQw (g : kG) (S O : wPS) (sz : Nat) (post : Int32 → wPS → wPS → Prop) : Array Value → State → Outcome → State → Prop := fun _ st oc t => (∃ (r : Int32) (S1 O1 : wPS), oc = .returned (some (.int r)) ∧ post r S1 O1 ∧ va_P (kD g) vwCl (kW g S1) t.heap ∧ va_P (kD g) vwCl (kW g O1) t.heap ∧ va_D (kA2 S O sz) (kW g S1) ∧ va_D (kA2 S O sz) (kW g O1) ∧ kdis S1 O1) ∧ va_F (kA2 S O sz) st t
def kXw : String → State → State → Prop := fun _ _ _ => False
/-- the contract of a method of the law that catches: it returns -/
def kMw (l : Launch) (g : kG) (e0 : Nat) (y : MethodName) (cY : ByteArray) (mY : Nat) (hh : List (Nat × Nat × Nat × Nat)) (fr lo mc ms : Nat) (As : List Value) (S O : wPS) (sz : Nat) (post : Int32 → wPS → wPS → Prop) : Prop :=
  vx_Met l y (.codeWith y cY mY (some .int) hh :: wsL_law) ({ frames := fr, cells := mc, slots := ms, locals := lo }) (va_Pc As (kPw g e0 S O sz)) (kQw g S O sz post) kXw mc ms (kA2 S O sz)
section KB2
variable {p : Program} {l : Launch} {e : Env} {R : Room} {s : State} {m : MethodId} {args : Array Value} {below : List Frame} {meth : Method} {c : Code} {H : Heap} {locs : List Loc} {cells slots : Nat} {Q : State → Prop} {pc : Nat} {ls : Array Slot} {st0 rest : List Value} {cc : ByteArray} {nL : Nat} {own : String} {g : kG} {S O : wPS} {A : Nat → Prop} {e0 : Nat} {H0 : Heap} {a index : Nat}
theorem rt2_J {x : Int64} (F : CallFix p m c cc nL s args wsL_law own) (hK : va_K (kD g) vwCl (kT g) s) (hP : va_P (kD g) vwCl (kW g S) H) (hO : va_P (kD g) vwCl (kW g O) H) (hD : va_D A (kW g S)) (hDO : va_D A (kW g O)) (hdis : kdis S O) (hS : va_S A H0 H locs) (ob : Ob O 14 a) (hN : pN O a = 1) (hdg : decode cc pc = .ok (.lastore, 1))
    (kk : ∀ (H1 : Heap) (locs1 : List Loc), va_P (kD g) vwCl (kW g S) H1 → va_P (kD g) vwCl (kW g (setJ O a x)) H1 → va_D A (kW g (setJ O a x)) → va_S A H0 H1 locs1 → W p l e R s m args below meth c H1 locs1 cells slots Q (F0 m (pc + 1) ls rest)) : W p l e R s m args below meth c H locs cells slots Q (F0 m pc ls (.long x :: .int 0 :: .ref a :: rest)) := by
  obtain ⟨k, h1, h2⟩ := kge_RJ (g := g) ob
  have e : (kW g O).set k (a, .inl (g.2.2 6, pN O a, .inr (.inl (kl0 x)))) = kW g (setJ O a x) := kW_set hDO ob.1 h1 rfl (by rw [show kF g (setJ O a x) a = .inl (g.2.2 6, pN O a, .inr (.inl (kl0 (va_up (pJ O) a x a)))) from kat_RJ (S := setJ O a x) ob.2]; rw [va_up_self]) (fun b hb => kF_J hb)
  have hq : (kW g S ++ kW g O)[(kW g S).length + k]? = some (a, .inl (g.2.2 6, pN O a, .inr (.inl (kl0 (pJ O a))))) := by rw [List.getElem?_append_right (Nat.le_add_right _ _), Nat.add_sub_cancel_left]; exact h2
  refine va_last (D := kD g) F.1 F.2.1 hK (va_P.app hP hO) (kD_app hD hDO hdis) hS _ 6 hq rfl (by rw [hN]; exact vp_in_nI (n := 0) (by decide) (by decide)) hdg (fun H1 locs1 a1 a2 a3 => ?_)
  rw [kl0_up, List.set_append_right _ _ (Nat.le_add_right _ _), Nat.add_sub_cancel_left, e] at a1 a2
  exact kk H1 locs1 (va_P_l a1) (va_P_r a1) (va_D_r a2) a3
theorem rt2_D {x : UInt64} (F : CallFix p m c cc nL s args wsL_law own) (hK : va_K (kD g) vwCl (kT g) s) (hP : va_P (kD g) vwCl (kW g S) H) (hO : va_P (kD g) vwCl (kW g O) H) (hD : va_D A (kW g S)) (hDO : va_D A (kW g O)) (hdis : kdis S O) (hS : va_S A H0 H locs) (ob : Ob O 15 a) (hN : pN O a = 1) (hdg : decode cc pc = .ok (.dastore, 1))
    (kk : ∀ (H1 : Heap) (locs1 : List Loc), va_P (kD g) vwCl (kW g S) H1 → va_P (kD g) vwCl (kW g (setJ O a x.toInt64)) H1 → va_D A (kW g (setJ O a x.toInt64)) → va_S A H0 H1 locs1 → W p l e R s m args below meth c H1 locs1 cells slots Q (F0 m (pc + 1) ls rest)) : W p l e R s m args below meth c H locs cells slots Q (F0 m pc ls (.double x :: .int 0 :: .ref a :: rest)) := by
  obtain ⟨k, h1, h2⟩ := kge_RD (g := g) ob
  have e : (kW g O).set k (a, .inl (g.2.2 7, pN O a, .inr (.inr (.inr (.inl (kd0 x)))))) = kW g (setJ O a x.toInt64) := kW_set hDO ob.1 h1 rfl (by rw [show kF g (setJ O a x.toInt64) a = .inl (g.2.2 7, pN O a, .inr (.inr (.inr (.inl (kd0 (va_up (pJ O) a x.toInt64 a).toUInt64))))) from kat_RD (S := setJ O a x.toInt64) ob.2]; rw [va_up_self]; rfl) (fun b hb => kF_J hb)
  have hq : (kW g S ++ kW g O)[(kW g S).length + k]? = some (a, .inl (g.2.2 7, pN O a, .inr (.inr (.inr (.inl (kd0 (pJ O a).toUInt64)))))) := by rw [List.getElem?_append_right (Nat.le_add_right _ _), Nat.add_sub_cancel_left]; exact h2
  refine va_dast (D := kD g) F.1 F.2.1 hK (va_P.app hP hO) (kD_app hD hDO hdis) hS _ 7 hq rfl (by rw [hN]; exact vp_in_nI (n := 0) (by decide) (by decide)) hdg (fun H1 locs1 a1 a2 a3 => ?_)
  rw [kd0_up, List.set_append_right _ _ (Nat.le_add_right _ _), Nat.add_sub_cancel_left, e] at a1 a2
  exact kk H1 locs1 (va_P_l a1) (va_P_r a1) (va_D_r a2) a3
/-- behind a call, with all that is known of the heap -/
theorem kcallW {mc ms : Nat} {sz : Nat} {a : Array Value} {post : Option Value → wPS → Prop} {Ex : String → Prop}
    (hr : vx_Run p l e R s m args below meth c H locs cells slots mc ms (F0 m pc ls st0) rest (kQ g S sz post a) (kX g S sz Ex) (kA (pL S) sz)) (hsz : H.size = sz) (hD : va_D A (kW g S)) (hS : va_S A s.heap H locs) (hA : ∀ q : Nat, s.heap.size ≤ q → A q)
    (kx : ∀ (E : String) (ce : Cell) (q9 : Addr) (H1 : Heap) (locs1 : List Loc), Ex E → va_P (kD g) vwCl (kW g S) H1 → H.size ≤ H1.size → (∀ q : Nat, q < H.size → ¬ kA (pL S) H.size q → H1[q]? = H[q]?) → va_S A s.heap H1 locs1 → H1[q9]? = some ce → ce.vm = .none → s.vm.findClass E = some ce.cls → vx_W p l e R s m args below meth c H1 locs1 (cells + mc) (slots + ms) Q (F0 m pc ls rest) q9)
    (kk : ∀ (v : Option Value) (S1 : wPS) (H1 : Heap) (locs1 : List Loc), post v S1 → va_P (kD g) vwCl (kW g S1) H1 → va_D (kA (pL S) H.size) (kW g S1) → va_D A (kW g S1) → H.size ≤ H1.size → (∀ q : Nat, q < H.size → ¬ kA (pL S) H.size q → H1[q]? = H[q]?) → va_S A s.heap H1 locs1 → W p l e R s m args below meth c H1 locs1 (cells + mc) (slots + ms) Q (F0 m (pc + 3) ls (v.toList ++ rest))) :
    W p l e R s m args below meth c H locs cells slots Q (F0 m pc ls st0) := by
  subst hsz
  have hsub : ∀ q, kA (pL S) H.size q → A q := fun q hq => hq.elim (fun h => kD_in hD h) (fun h => hA q (Nat.le_trans hS.1 h))
  intro T hT X
  rcases hr T hT X with ⟨v, st₀, t, T', L, h0, X', hL, e1, e2, ⟨⟨v1, S1, hv, hp, hP1, hD1⟩, hF⟩, st⟩ | ⟨q, st₀, t, T', L, E, ce, h0, X', hL, e1, e2, ⟨hex, hP1, hF⟩, hce, hcv, hcl, st⟩
  · cases hv
    obtain ⟨k1, k2, k3⟩ := vx_keep h0 e1 hS (fun q _ h => hsub q h) hsub hL hF
    obtain ⟨t2, a1, b1⟩ := kk v S1 T'.heap (locs ++ L) hp (by rw [e1]; exact hP1) hD1 (hD1.weaken fun _ _ _ h => hsub _ h) k1 k2 k3 T' rfl X'
    exact ⟨t2, st t2 a1, b1⟩
  · obtain ⟨k1, k2, k3⟩ := vx_keep h0 e1 hS (fun q _ h => hsub q h) hsub hL hF
    obtain ⟨t2, a1, b1⟩ := kx E ce q T'.heap (locs ++ L) hex (by rw [e1]; exact hP1) k1 k2 k3 (by rw [e1]; exact hce) hcv hcl T' rfl X'
    exact ⟨t2, st.trans a1, b1⟩
theorem kcallWI {mc ms sz : Nat} {a : Array Value} {po : Int32 → wPS → Prop} {Ex : String → Prop}
    (hr : vx_Run p l e R s m args below meth c H locs cells slots mc ms (F0 m pc ls st0) rest (kQ g S sz (pI po) a) (kX g S sz Ex) (kA (pL S) sz)) (hsz : H.size = sz) (hD : va_D A (kW g S)) (hS : va_S A s.heap H locs) (hA : ∀ q : Nat, s.heap.size ≤ q → A q)
    (kx : ∀ (E : String) (ce : Cell) (q9 : Addr) (H1 : Heap) (locs1 : List Loc), Ex E → va_P (kD g) vwCl (kW g S) H1 → H.size ≤ H1.size → (∀ q : Nat, q < H.size → ¬ kA (pL S) H.size q → H1[q]? = H[q]?) → va_S A s.heap H1 locs1 → H1[q9]? = some ce → ce.vm = .none → s.vm.findClass E = some ce.cls → vx_W p l e R s m args below meth c H1 locs1 (cells + mc) (slots + ms) Q (F0 m pc ls rest) q9)
    (kk : ∀ (r : Int32) (S1 : wPS) (H1 : Heap) (locs1 : List Loc), po r S1 → va_P (kD g) vwCl (kW g S1) H1 → va_D (kA (pL S) H.size) (kW g S1) → va_D A (kW g S1) → H.size ≤ H1.size → (∀ q : Nat, q < H.size → ¬ kA (pL S) H.size q → H1[q]? = H[q]?) → va_S A s.heap H1 locs1 → W p l e R s m args below meth c H1 locs1 (cells + mc) (slots + ms) Q (F0 m (pc + 3) ls (.int r :: rest))) :
    W p l e R s m args below meth c H locs cells slots Q (F0 m pc ls st0) :=
  kcallW hr hsz hD hS hA kx (fun v S1 H1 locs1 hp h2 h3 h4 h5 h6 h7 => by
    obtain ⟨r, rfl, hp⟩ := hp
    exact kk r S1 H1 locs1 hp h2 h3 h4 h5 h6 h7)
theorem kcallWF {mc ms sz : Nat} {a : Array Value} {po : UInt32 → wPS → Prop} {Ex : String → Prop}
    (hr : vx_Run p l e R s m args below meth c H locs cells slots mc ms (F0 m pc ls st0) rest (kQ g S sz (pFl po) a) (kX g S sz Ex) (kA (pL S) sz)) (hsz : H.size = sz) (hD : va_D A (kW g S)) (hS : va_S A s.heap H locs) (hA : ∀ q : Nat, s.heap.size ≤ q → A q)
    (kx : ∀ (E : String) (ce : Cell) (q9 : Addr) (H1 : Heap) (locs1 : List Loc), Ex E → va_P (kD g) vwCl (kW g S) H1 → H.size ≤ H1.size → (∀ q : Nat, q < H.size → ¬ kA (pL S) H.size q → H1[q]? = H[q]?) → va_S A s.heap H1 locs1 → H1[q9]? = some ce → ce.vm = .none → s.vm.findClass E = some ce.cls → vx_W p l e R s m args below meth c H1 locs1 (cells + mc) (slots + ms) Q (F0 m pc ls rest) q9)
    (kk : ∀ (r : UInt32) (S1 : wPS) (H1 : Heap) (locs1 : List Loc), po r S1 → va_P (kD g) vwCl (kW g S1) H1 → va_D (kA (pL S) H.size) (kW g S1) → va_D A (kW g S1) → H.size ≤ H1.size → (∀ q : Nat, q < H.size → ¬ kA (pL S) H.size q → H1[q]? = H[q]?) → va_S A s.heap H1 locs1 → W p l e R s m args below meth c H1 locs1 (cells + mc) (slots + ms) Q (F0 m (pc + 3) ls (.float r :: rest))) :
    W p l e R s m args below meth c H locs cells slots Q (F0 m pc ls st0) :=
  kcallW hr hsz hD hS hA kx (fun v S1 H1 locs1 hp h2 h3 h4 h5 h6 h7 => by
    obtain ⟨r, rfl, hp⟩ := hp
    exact kk r S1 H1 locs1 hp h2 h3 h4 h5 h6 h7)
def kBw (p : Program) (l : Launch) (s : State) (m : MethodId) (args : Array Value) (meth : Method) (c : Code) (ls : Array Slot) (own : String) (cc : ByteArray) (nL : Nat) (hh : List (Nat × Nat × Nat × Nat)) (g : kG) (e0 : Nat) (S O : wPS) (A : Nat → Prop) (lv : List (Nat × Value)) (sz : Nat) : Prop :=
  CallFix p m c cc nL s args wsL_law own ∧ meth.sig.returnType = some .int ∧ meth.locks = false ∧ c.exceptionTable.toList = tableOf hh ∧ va_P (kD g) vwCl (kW g S) s.heap ∧ va_P (kD g) vwCl (kW g O) s.heap ∧ va_K (kD g) vwCl (kT g) s ∧ va_D A (kW g S) ∧ va_D A (kW g O) ∧ kdis S O ∧ kEn g e0 A s s.heap ∧ kNc s ∧ va_S A s.heap s.heap [] ∧ (∀ q : Nat, s.heap.size ≤ q → A q) ∧ lv_has ls nL lv ∧ s.heap.size = sz
theorem kMw.of {y : MethodName} {cY : ByteArray} {mY : Nat} {hh : List (Nat × Nat × Nat × Nat)} {fr lo mc ms : Nat} {As : List Value} {sz : Nat} {post : Int32 → wPS → wPS → Prop} (hy : plainName y.cls = true) (hlen : (lg_sl As).length ≤ mY)
    (body : ∀ (p : Program) (e : Env) (s : State) (m : MethodId) (below : List Frame) (meth : Method) (c : Code) (ls : Array Slot), kBw p l s m As.toArray meth c ls y.cls cY mY hh g e0 S O (kA2 S O sz) (lv_args 0 As) sz →
      W p l e ({ frames := fr, cells := mc, slots := ms, locals := lo }) s m As.toArray below meth c s.heap [] 0 0 (vx_MQ below (kQw g S O sz post) kXw As.toArray s mc ms (kA2 S O sz)) (F0 m 0 ls [])) : kMw l g e0 y cY mY hh fr lo mc ms As S O sz post := by
  refine vx_ofWH (cc := cY) (maxL := mY) (ret := some .int) (hh := hh) hy rfl ?_
  intro p e s m args below meth c s₁ B hml hv
  obtain ⟨rfl, hsz, hP, hO, hK, hD, hDO, hdis, hE, hN⟩ := hv
  have hts := atoms_spec (ws := .codeWith y cY mY (some .int) hh :: wsL_law) B.pre
  have ht := vx_table (x := y) B (hts _ List.mem_cons_self)
  have hl := lv_entry As hlen
  rw [lg_entry_eq]
  generalize (lg_sl As ++ List.replicate (mY - (lg_sl As).length) Slot.unset).toArray = ls at hl ⊢
  exact body p e s m below meth c ls ⟨⟨B.exec, B.bytes, hml, findClass_of_methodNamed B.named, fun w h => hts w (List.mem_cons_of_mem _ h)⟩, B.returns, B.notSynchronized, ht, hP, hO, hK, hD, hDO, hdis, hE, hN, va_S.rf, fun q h => Or.inr (by rw [← hsz]; exact h), hl, hsz⟩
theorem kEndW {S1 O1 : wPS} {sz mc0 ms0 : Nat} {post : Int32 → wPS → wPS → Prop} {v : Int32} (F : CallFix p m c cc nL s args wsL_law own) (hr : meth.sig.returnType = some .int) (hlk : meth.locks = false) (hP : va_P (kD g) vwCl (kW g S1) H) (hO : va_P (kD g) vwCl (kW g O1) H) (hD : va_D (kA2 S O sz) (kW g S1)) (hDO : va_D (kA2 S O sz) (kW g O1)) (hdis : kdis S1 O1) (hS : va_S (kA2 S O sz) s.heap H locs) (hc : cells ≤ mc0) (hs : slots ≤ ms0) (hdg : decode cc pc = .ok (.ireturn, 1)) (hp : post v S1 O1) :
    W p l e R s m args below meth c H locs cells slots (vx_MQ below (kQw g S O sz post) kXw args s mc0 ms0 (kA2 S O sz)) (F0 m pc ls [.int v]) :=
  W.widen hc hs (vx_ret (W.zret F.1 F.2.1 hr rfl (fun t ht _ => ⟨⟨v, S1, O1, rfl, hp, by rw [ht]; exact hP, by rw [ht]; exact hO, hD, hDO, hdis⟩, hS.F ht⟩) hS.2.2 hdg hlk))
end KB2
