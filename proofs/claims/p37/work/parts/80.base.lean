/-! The law's own methods: those that catch and sum (one pool, they return), those beside a pool of the law's own, those of the script -/
def kPh (g : kG) (e0 : Nat) (S : wPS) (sz : Nat) (U : State) : Prop := kPre g e0 S sz U ∧ kNc U
def kMh (l : Launch) (g : kG) (e0 : Nat) (y : MethodName) (w : Cond) (fr lo mc ms : Nat) (As : List Value) (S : wPS) (sz : Nat) (post : Option Value → wPS → Prop) : Prop :=
  vx_Met l y (w :: wsL_law) ({ frames := fr, cells := mc, slots := ms, locals := lo }) (va_Pc As (kPh g e0 S sz)) (kQ g S sz post) kXw mc ms (kA (pL S) sz)
def kQv (g : kG) (S O : wPS) (sz : Nat) (post : Value → Prop) : Array Value → State → Outcome → State → Prop := fun _ st oc t => (∃ v : Value, oc = .returned (some v) ∧ post v ∧ va_P (kD g) vwCl (kW g S) t.heap ∧ va_P (kD g) vwCl (kW g O) t.heap) ∧ va_F (kA2 S O sz) st t
def kMv (l : Launch) (g : kG) (e0 : Nat) (y : MethodName) (cY : ByteArray) (mY : Nat) (rY : Option FieldType) (fr lo mc ms : Nat) (As : List Value) (S O : wPS) (sz : Nat) (post : Value → Prop) : Prop :=
  vx_Met l y (.code y cY mY rY :: wsL_law) ({ frames := fr, cells := mc, slots := ms, locals := lo }) (va_Pc As (kPw g e0 S O sz)) (kQv g S O sz post) kXw mc ms (kA2 S O sz)
def kPs (b L : Nat) (xs : Nat → Int32) (sz : Nat) (U : State) : Prop := U.heap.size = sz ∧ va_X b L xs U U.heap ∧ b < sz
def kQs (sz : Nat) (post : Int32 → Prop) : Array Value → State → Outcome → State → Prop := fun _ st oc t => (∃ r : Int32, oc = .returned (some (.int r)) ∧ post r) ∧ va_F (fun q => sz ≤ q) st t
def kMs (l : Launch) (y : MethodName) (cY : ByteArray) (mY : Nat) (fr lo : Nat) (As : List Value) (b L : Nat) (xs : Nat → Int32) (sz : Nat) (post : Int32 → Prop) : Prop :=
  vx_Met l y (.code y cY mY (some .int) :: wsL_law) ({ frames := fr, cells := 0, slots := 0, locals := lo }) (va_Pc As (kPs b L xs sz)) (kQs sz post) kXw 0 0 (fun q => sz ≤ q)
theorem kPh.blind {g : kG} {e0 : Nat} {S : wPS} {As : List Value} {sz : Nat} : FrameBlind (va_Pc As (kPh g e0 S sz)) := fun a U gf mk q => by
  obtain ⟨h0, ⟨h1, h2, h3, h4, h5⟩, h6⟩ := q
  exact ⟨h0, ⟨h1, h2, va_K.moved (u := U) (U := U.calling gf mk a) (Vm.Alike.refl U.vm) h3, h4, kEn.same (u := U) (U := U.calling gf mk a) rfl h5⟩, fun q hq => va_Nc.moved (u := U) (U := U.calling gf mk a) (Vm.Alike.refl U.vm) (h6 q hq)⟩
theorem kPv.blind {g : kG} {e0 : Nat} {S O : wPS} {As : List Value} {sz : Nat} : FrameBlind (va_Pc As (kPw g e0 S O sz)) := fun a U gf mk q => by
  obtain ⟨h0, h1, h2, h3, h4, h5, h6, h7, h8, h9⟩ := q
  exact ⟨h0, h1, h2, h3, va_K.moved (u := U) (U := U.calling gf mk a) (Vm.Alike.refl U.vm) h4, h5, h6, h7, kEn.same (u := U) (U := U.calling gf mk a) rfl h8, fun q hq => va_Nc.moved (u := U) (U := U.calling gf mk a) (Vm.Alike.refl U.vm) (h9 q hq)⟩
theorem kPs.blind {b L : Nat} {xs : Nat → Int32} {As : List Value} {sz : Nat} : FrameBlind (va_Pc As (kPs b L xs sz)) := fun a U gf mk q => by
  obtain ⟨h0, h1, h2, h3⟩ := q
  exact ⟨h0, h1, va_X.moved (u := U) (U := U.calling gf mk a) (Vm.Alike.refl U.vm) h2, h3⟩
theorem kGoodC {w : Cond} (h : w ∈ wsL_law) : GoodIn wsL_law (w :: wsL_law) := fun x hx => (List.mem_cons.mp hx).elim (fun e => by rw [e]; exact ⟨h, wsL_law_good _ h⟩) (fun h => ⟨h, wsL_law_good _ h⟩)
section KB4
variable {p : Program} {l : Launch} {e : Env} {R : Room} {s : State} {m : MethodId} {args : Array Value} {below : List Frame} {meth : Method} {c : Code} {H : Heap} {locs : List Loc} {cells slots : Nat} {Q : State → Prop} {pc : Nat} {ls : Array Slot} {st0 rest : List Value} {cc : ByteArray} {nL : Nat} {own : String} {g : kG} {S O : wPS} {A : Nat → Prop} {e0 : Nat} {H0 : Heap} {a index : Nat}
def kBh (p : Program) (l : Launch) (s : State) (m : MethodId) (args : Array Value) (meth : Method) (c : Code) (ls : Array Slot) (own : String) (cc : ByteArray) (nL : Nat) (rY : Option FieldType) (g : kG) (e0 : Nat) (S : wPS) (A : Nat → Prop) (lv : List (Nat × Value)) (sz : Nat) : Prop :=
  CallFix p m c cc nL s args wsL_law own ∧ meth.sig.returnType = rY ∧ meth.locks = false ∧ va_P (kD g) vwCl (kW g S) s.heap ∧ va_K (kD g) vwCl (kT g) s ∧ va_D A (kW g S) ∧ kEn g e0 A s s.heap ∧ kNc s ∧ va_S A s.heap s.heap [] ∧ (∀ q : Nat, s.heap.size ≤ q → A q) ∧ lv_has ls nL lv ∧ s.heap.size = sz
theorem kMh.of {y : MethodName} {cY : ByteArray} {mY : Nat} {rY : Option FieldType} {hh : List (Nat × Nat × Nat × Nat)} {fr lo mc ms : Nat} {As : List Value} {sz : Nat} {post : Option Value → wPS → Prop} (hy : plainName y.cls = true) (hlen : (lg_sl As).length ≤ mY)
    (body : ∀ (p : Program) (e : Env) (s : State) (m : MethodId) (below : List Frame) (meth : Method) (c : Code) (ls : Array Slot), kBh p l s m As.toArray meth c ls y.cls cY mY rY g e0 S (kA (pL S) sz) (lv_args 0 As) sz → c.exceptionTable.toList = tableOf hh →
      W p l e ({ frames := fr, cells := mc, slots := ms, locals := lo }) s m As.toArray below meth c s.heap [] 0 0 (vx_MQ below (kQ g S sz post) kXw As.toArray s mc ms (kA (pL S) sz)) (F0 m 0 ls [])) : kMh l g e0 y (.codeWith y cY mY rY hh) fr lo mc ms As S sz post := by
  refine vx_ofWH (cc := cY) (maxL := mY) (ret := rY) (hh := hh) hy rfl ?_
  intro p e s m args below meth c s₁ B hml hv
  obtain ⟨rfl, ⟨hsz, hP, hK, hD, hE⟩, hN⟩ := hv
  have hts := atoms_spec (ws := .codeWith y cY mY rY hh :: wsL_law) B.pre
  have ht := vx_table (x := y) B (hts _ List.mem_cons_self)
  have hl := lv_entry As hlen
  rw [lg_entry_eq]
  generalize (lg_sl As ++ List.replicate (mY - (lg_sl As).length) Slot.unset).toArray = ls at hl ⊢
  exact body p e s m below meth c ls ⟨⟨B.exec, B.bytes, hml, findClass_of_methodNamed B.named, fun w h => hts w (List.mem_cons_of_mem _ h)⟩, B.returns, B.notSynchronized, hP, hK, hD, hE, hN, va_S.rf, fun q h => Or.inr (by rw [← hsz]; exact h), hl, hsz⟩ ht
theorem kMh.of0 {y : MethodName} {cY : ByteArray} {mY : Nat} {rY : Option FieldType} {fr lo mc ms : Nat} {As : List Value} {sz : Nat} {post : Option Value → wPS → Prop} (hy : plainName y.cls = true) (hlen : (lg_sl As).length ≤ mY)
    (body : ∀ (p : Program) (e : Env) (s : State) (m : MethodId) (below : List Frame) (meth : Method) (c : Code) (ls : Array Slot), kBh p l s m As.toArray meth c ls y.cls cY mY rY g e0 S (kA (pL S) sz) (lv_args 0 As) sz →
      W p l e ({ frames := fr, cells := mc, slots := ms, locals := lo }) s m As.toArray below meth c s.heap [] 0 0 (vx_MQ below (kQ g S sz post) kXw As.toArray s mc ms (kA (pL S) sz)) (F0 m 0 ls [])) : kMh l g e0 y (.code y cY mY rY) fr lo mc ms As S sz post := by
  refine vx_ofW (cc := cY) (maxL := mY) (ret := rY) hy rfl ?_
  intro p e s m args below meth c s₁ B hml hte hv
  obtain ⟨rfl, ⟨hsz, hP, hK, hD, hE⟩, hN⟩ := hv
  have hts := atoms_spec (ws := .code y cY mY rY :: wsL_law) B.pre
  have hl := lv_entry As hlen
  rw [lg_entry_eq]
  generalize (lg_sl As ++ List.replicate (mY - (lg_sl As).length) Slot.unset).toArray = ls at hl ⊢
  exact body p e s m below meth c ls ⟨⟨B.exec, B.bytes, hml, findClass_of_methodNamed B.named, fun w h => hts w (List.mem_cons_of_mem _ h)⟩, B.returns, B.notSynchronized, hP, hK, hD, hE, hN, va_S.rf, fun q h => Or.inr (by rw [← hsz]; exact h), hl, hsz⟩
def kBv (p : Program) (l : Launch) (s : State) (m : MethodId) (args : Array Value) (meth : Method) (c : Code) (ls : Array Slot) (own : String) (cc : ByteArray) (nL : Nat) (rY : Option FieldType) (g : kG) (e0 : Nat) (S O : wPS) (A : Nat → Prop) (lv : List (Nat × Value)) (sz : Nat) : Prop :=
  CallFix p m c cc nL s args wsL_law own ∧ meth.sig.returnType = rY ∧ meth.locks = false ∧ va_P (kD g) vwCl (kW g S) s.heap ∧ va_P (kD g) vwCl (kW g O) s.heap ∧ va_K (kD g) vwCl (kT g) s ∧ va_D A (kW g S) ∧ va_D A (kW g O) ∧ kdis S O ∧ kEn g e0 A s s.heap ∧ kNc s ∧ va_S A s.heap s.heap [] ∧ (∀ q : Nat, s.heap.size ≤ q → A q) ∧ lv_has ls nL lv ∧ s.heap.size = sz
theorem kMv.of {y : MethodName} {cY : ByteArray} {mY : Nat} {rY : Option FieldType} {fr lo mc ms : Nat} {As : List Value} {sz : Nat} {post : Value → Prop} (hy : plainName y.cls = true) (hlen : (lg_sl As).length ≤ mY)
    (body : ∀ (p : Program) (e : Env) (s : State) (m : MethodId) (below : List Frame) (meth : Method) (c : Code) (ls : Array Slot), kBv p l s m As.toArray meth c ls y.cls cY mY rY g e0 S O (kA2 S O sz) (lv_args 0 As) sz →
      W p l e ({ frames := fr, cells := mc, slots := ms, locals := lo }) s m As.toArray below meth c s.heap [] 0 0 (vx_MQ below (kQv g S O sz post) kXw As.toArray s mc ms (kA2 S O sz)) (F0 m 0 ls [])) : kMv l g e0 y cY mY rY fr lo mc ms As S O sz post := by
  refine vx_ofW (cc := cY) (maxL := mY) (ret := rY) hy rfl ?_
  intro p e s m args below meth c s₁ B hml hte hv
  obtain ⟨rfl, hsz, hP, hO, hK, hD, hDO, hdis, hE, hN⟩ := hv
  have hts := atoms_spec (ws := .code y cY mY rY :: wsL_law) B.pre
  have hl := lv_entry As hlen
  rw [lg_entry_eq]
  generalize (lg_sl As ++ List.replicate (mY - (lg_sl As).length) Slot.unset).toArray = ls at hl ⊢
  exact body p e s m below meth c ls ⟨⟨B.exec, B.bytes, hml, findClass_of_methodNamed B.named, fun w h => hts w (List.mem_cons_of_mem _ h)⟩, B.returns, B.notSynchronized, hP, hO, hK, hD, hDO, hdis, hE, hN, va_S.rf, fun q h => Or.inr (by rw [← hsz]; exact h), hl, hsz⟩
theorem kMs.of {y : MethodName} {cY : ByteArray} {mY : Nat} {fr lo b L : Nat} {xs : Nat → Int32} {As : List Value} {sz : Nat} {post : Int32 → Prop} (hy : plainName y.cls = true) (hlen : (lg_sl As).length ≤ mY)
    (body : ∀ (p : Program) (e : Env) (s : State) (m : MethodId) (below : List Frame) (meth : Method) (c : Code) (ls : Array Slot), CallFix p m c cY mY s As.toArray wsL_law y.cls → meth.sig.returnType = some .int → meth.locks = false → va_X b L xs s s.heap → b < s.heap.size → va_S (fun q => s.heap.size ≤ q) s.heap s.heap [] → lv_has ls mY (lv_args 0 As) → s.heap.size = sz →
      W p l e ({ frames := fr, cells := 0, slots := 0, locals := lo }) s m As.toArray below meth c s.heap [] 0 0 (vx_MQ below (kQs sz post) kXw As.toArray s 0 0 (fun q => sz ≤ q)) (F0 m 0 ls [])) : kMs l y cY mY fr lo As b L xs sz post := by
  refine vx_ofW (cc := cY) (maxL := mY) (ret := some .int) hy rfl ?_
  intro p e s m args below meth c s₁ B hml hte hv
  obtain ⟨rfl, hsz, hX, hb⟩ := hv
  have hts := atoms_spec (ws := .code y cY mY (some .int) :: wsL_law) B.pre
  have hl := lv_entry As hlen
  rw [lg_entry_eq]
  generalize (lg_sl As ++ List.replicate (mY - (lg_sl As).length) Slot.unset).toArray = ls at hl ⊢
  exact body p e s m below meth c ls ⟨B.exec, B.bytes, hml, findClass_of_methodNamed B.named, fun w h => hts w (List.mem_cons_of_mem _ h)⟩ B.returns B.notSynchronized hX (by rw [hsz]; exact hb) va_S.rf hl hsz
/-- a call of a method of the law over one pool: the run -/
theorem kSthC {y : MethodName} {cY : ByteArray} {mY : Nat} {rY : Option FieldType} {fr lo mc ms n : Nat} {As : List Value} {post : Option Value → wPS → Prop} (F : CallFix p m c cc nL s args wsL_law own) (hE : kEn g e0 A s s.heap) (hNc : kNc s) (hK : va_K (kD g) vwCl (kT g) s) (hP : va_P (kD g) vwCl (kW g S) H) (hD : va_D A (kW g S)) (hS : va_S A s.heap H locs) (hA : ∀ q : Nat, s.heap.size ≤ q → A q)
    (hM : kMh l g e0 y (.code y cY mY rY) fr lo mc ms As S H.size post)
    (w1 : Cond.methodLink own index y ∈ wsL_law) (w2 : Cond.static y ∈ wsL_law) (w4 : Cond.initialized y.cls ∈ wsL_law) (w5 : Cond.code y cY mY rY ∈ wsL_law)
    (hd : y.cls ≠ "java/lang/invoke/MethodHandle" ∧ y.cls ≠ "java/lang/invoke/VarHandle" ∧ (parseMethodDescriptor y.desc).map (fun d => d.parameters.length) = some n)
    (hR : fr + 1 ≤ R.frames ∧ 8 + (mY + 11) + lo ≤ R.locals) (hn : As.length = n) (hls : ls.size = nL) (hst : st0 = As.reverse ++ rest) (hcat : (rest.map fun v => v.category).sum ≤ 8) (hdg : decode cc pc = .ok (.invokestatic index, 3)) (hf : cells + mc ≤ R.cells ∧ slots + ms ≤ R.slots) :
    vx_Run p l e R s m args below meth c H locs cells slots mc ms (F0 m pc ls st0) rest (kQ g S H.size post As.toArray) kXw (kA (pL S) H.size) :=
  vx_runS (As := As) (rest := rest) F hM ⟨callB_of n F.2.2.2.2 (kGood w5) rfl rfl rfl (F.2.2.2.2 _ w4) (F.2.2.2.2 _ w1) hd hR, F.2.2.2.2 _ w2⟩ ⟨kPh.blind, fun U hU hW => ⟨rfl, kPre.at hE hK hP hD hS hA hU hW, fun q hq => (hNc q hq).moved hW.alike⟩⟩ rfl hn hls hst (lv_room hcat) hdg hf
theorem kSthW {y : MethodName} {cY : ByteArray} {mY : Nat} {rY : Option FieldType} {hh : List (Nat × Nat × Nat × Nat)} {fr lo mc ms n : Nat} {As : List Value} {post : Option Value → wPS → Prop} (F : CallFix p m c cc nL s args wsL_law own) (hE : kEn g e0 A s s.heap) (hNc : kNc s) (hK : va_K (kD g) vwCl (kT g) s) (hP : va_P (kD g) vwCl (kW g S) H) (hD : va_D A (kW g S)) (hS : va_S A s.heap H locs) (hA : ∀ q : Nat, s.heap.size ≤ q → A q)
    (hM : kMh l g e0 y (.codeWith y cY mY rY hh) fr lo mc ms As S H.size post)
    (w1 : Cond.methodLink own index y ∈ wsL_law) (w2 : Cond.static y ∈ wsL_law) (w4 : Cond.initialized y.cls ∈ wsL_law) (w5 : Cond.codeWith y cY mY rY hh ∈ wsL_law)
    (hd : y.cls ≠ "java/lang/invoke/MethodHandle" ∧ y.cls ≠ "java/lang/invoke/VarHandle" ∧ (parseMethodDescriptor y.desc).map (fun d => d.parameters.length) = some n)
    (hR : fr + 1 ≤ R.frames ∧ 8 + (mY + 11) + lo ≤ R.locals) (hn : As.length = n) (hls : ls.size = nL) (hst : st0 = As.reverse ++ rest) (hcat : (rest.map fun v => v.category).sum ≤ 8) (hdg : decode cc pc = .ok (.invokestatic index, 3)) (hf : cells + mc ≤ R.cells ∧ slots + ms ≤ R.slots) :
    vx_Run p l e R s m args below meth c H locs cells slots mc ms (F0 m pc ls st0) rest (kQ g S H.size post As.toArray) kXw (kA (pL S) H.size) :=
  vx_runSX (As := As) (rest := rest) F hM (vx_cwSW n F.2.2.2.2 (fun w hw => by
    unfold va_wsS at hw
    rcases List.mem_append.mp hw with h | h
    · rcases List.mem_cons.mp h with rfl | h
      · exact ⟨w1, wsL_law_good _ w1⟩
      rcases List.mem_cons.mp h with rfl | h
      · exact ⟨w2, wsL_law_good _ w2⟩
      rcases List.mem_cons.mp h with rfl | h
      · exact ⟨w4, wsL_law_good _ w4⟩
      exact absurd h List.not_mem_nil
    · exact kGoodC w5 w h) rfl rfl rfl hd hR) ⟨kPh.blind, fun U hU hW => ⟨rfl, kPre.at hE hK hP hD hS hA hU hW, fun q hq => (hNc q hq).moved hW.alike⟩⟩ rfl hn hls hst (lv_room hcat) hdg hf
/-- behind it: it returned -/
theorem kcallh {mc ms sz : Nat} {a : Array Value} {post : Option Value → wPS → Prop}
    (hr : vx_Run p l e R s m args below meth c H locs cells slots mc ms (F0 m pc ls st0) rest (kQ g S sz post a) kXw (kA (pL S) sz)) (hsz : H.size = sz) (hD : va_D A (kW g S)) (hS : va_S A s.heap H locs) (hA : ∀ q : Nat, s.heap.size ≤ q → A q)
    (kk : ∀ (v : Option Value) (S1 : wPS) (H1 : Heap) (locs1 : List Loc), post v S1 → va_P (kD g) vwCl (kW g S1) H1 → va_D (kA (pL S) H.size) (kW g S1) → va_D A (kW g S1) → H.size ≤ H1.size → (∀ q : Nat, q < H.size → ¬ kA (pL S) H.size q → H1[q]? = H[q]?) → va_S A s.heap H1 locs1 → W p l e R s m args below meth c H1 locs1 (cells + mc) (slots + ms) Q (F0 m (pc + 3) ls (v.toList ++ rest))) :
    W p l e R s m args below meth c H locs cells slots Q (F0 m pc ls st0) := by
  subst hsz
  have hsub : ∀ q, kA (pL S) H.size q → A q := fun q hq => hq.elim (fun h => kD_in hD h) (fun h => hA q (Nat.le_trans hS.1 h))
  intro T hT X
  rcases hr T hT X with ⟨v, st₀, t, T', L, h0, X', hL, e1, e2, ⟨⟨v1, S1, hv, hp, hP1, hD1⟩, hF⟩, st⟩ | ⟨q, st₀, t, T', L, E, ce, h0, X', hL, e1, e2, hex, hce, hcv, hcl, st⟩
  · cases hv
    obtain ⟨k1, k2, k3⟩ := vx_keep h0 e1 hS (fun q _ h => hsub q h) hsub hL hF
    obtain ⟨t2, a1, b1⟩ := kk v S1 T'.heap (locs ++ L) hp (by rw [e1]; exact hP1) hD1 (hD1.weaken fun _ _ _ h => hsub _ h) k1 k2 k3 T' rfl X'
    exact ⟨t2, st t2 a1, b1⟩
  · exact hex.elim
theorem kcallhI {mc ms sz : Nat} {a : Array Value} {po : Int32 → wPS → Prop}
    (hr : vx_Run p l e R s m args below meth c H locs cells slots mc ms (F0 m pc ls st0) rest (kQ g S sz (pI po) a) kXw (kA (pL S) sz)) (hsz : H.size = sz) (hD : va_D A (kW g S)) (hS : va_S A s.heap H locs) (hA : ∀ q : Nat, s.heap.size ≤ q → A q)
    (kk : ∀ (r : Int32) (S1 : wPS) (H1 : Heap) (locs1 : List Loc), po r S1 → va_P (kD g) vwCl (kW g S1) H1 → va_D (kA (pL S) H.size) (kW g S1) → va_D A (kW g S1) → H.size ≤ H1.size → (∀ q : Nat, q < H.size → ¬ kA (pL S) H.size q → H1[q]? = H[q]?) → va_S A s.heap H1 locs1 → W p l e R s m args below meth c H1 locs1 (cells + mc) (slots + ms) Q (F0 m (pc + 3) ls (.int r :: rest))) :
    W p l e R s m args below meth c H locs cells slots Q (F0 m pc ls st0) :=
  kcallh hr hsz hD hS hA (fun v S1 H1 locs1 hp h2 h3 h4 h5 h6 h7 => by
    obtain ⟨r, rfl, hp⟩ := hp
    exact kk r S1 H1 locs1 hp h2 h3 h4 h5 h6 h7)
theorem kcallhL {mc ms sz : Nat} {a : Array Value} {po : Int64 → wPS → Prop}
    (hr : vx_Run p l e R s m args below meth c H locs cells slots mc ms (F0 m pc ls st0) rest (kQ g S sz (pLo po) a) kXw (kA (pL S) sz)) (hsz : H.size = sz) (hD : va_D A (kW g S)) (hS : va_S A s.heap H locs) (hA : ∀ q : Nat, s.heap.size ≤ q → A q)
    (kk : ∀ (r : Int64) (S1 : wPS) (H1 : Heap) (locs1 : List Loc), po r S1 → va_P (kD g) vwCl (kW g S1) H1 → va_D (kA (pL S) H.size) (kW g S1) → va_D A (kW g S1) → H.size ≤ H1.size → (∀ q : Nat, q < H.size → ¬ kA (pL S) H.size q → H1[q]? = H[q]?) → va_S A s.heap H1 locs1 → W p l e R s m args below meth c H1 locs1 (cells + mc) (slots + ms) Q (F0 m (pc + 3) ls (.long r :: rest))) :
    W p l e R s m args below meth c H locs cells slots Q (F0 m pc ls st0) :=
  kcallh hr hsz hD hS hA (fun v S1 H1 locs1 hp h2 h3 h4 h5 h6 h7 => by
    obtain ⟨r, rfl, hp⟩ := hp
    exact kk r S1 H1 locs1 hp h2 h3 h4 h5 h6 h7)
theorem kcallhF {mc ms sz : Nat} {a : Array Value} {po : UInt32 → wPS → Prop}
    (hr : vx_Run p l e R s m args below meth c H locs cells slots mc ms (F0 m pc ls st0) rest (kQ g S sz (pFl po) a) kXw (kA (pL S) sz)) (hsz : H.size = sz) (hD : va_D A (kW g S)) (hS : va_S A s.heap H locs) (hA : ∀ q : Nat, s.heap.size ≤ q → A q)
    (kk : ∀ (r : UInt32) (S1 : wPS) (H1 : Heap) (locs1 : List Loc), po r S1 → va_P (kD g) vwCl (kW g S1) H1 → va_D (kA (pL S) H.size) (kW g S1) → va_D A (kW g S1) → H.size ≤ H1.size → (∀ q : Nat, q < H.size → ¬ kA (pL S) H.size q → H1[q]? = H[q]?) → va_S A s.heap H1 locs1 → W p l e R s m args below meth c H1 locs1 (cells + mc) (slots + ms) Q (F0 m (pc + 3) ls (.float r :: rest))) :
    W p l e R s m args below meth c H locs cells slots Q (F0 m pc ls st0) :=
  kcallh hr hsz hD hS hA (fun v S1 H1 locs1 hp h2 h3 h4 h5 h6 h7 => by
    obtain ⟨r, rfl, hp⟩ := hp
    exact kk r S1 H1 locs1 hp h2 h3 h4 h5 h6 h7)
/-- a call of a method of the law beside a second pool: the run -/
theorem kStv {y : MethodName} {cY : ByteArray} {mY : Nat} {rY : Option FieldType} {fr lo mc ms n : Nat} {As : List Value} {post : Value → Prop} (F : CallFix p m c cc nL s args wsL_law own) (hE : kEn g e0 A s s.heap) (hNc : kNc s) (hK : va_K (kD g) vwCl (kT g) s) (hP : va_P (kD g) vwCl (kW g S) H) (hO : va_P (kD g) vwCl (kW g O) H) (hD : va_D A (kW g S)) (hDO : va_D A (kW g O)) (hdis : kdis S O) (hS : va_S A s.heap H locs) (hA : ∀ q : Nat, s.heap.size ≤ q → A q)
    (hM : kMv l g e0 y cY mY rY fr lo mc ms As S O H.size post)
    (w1 : Cond.methodLink own index y ∈ wsL_law) (w2 : Cond.static y ∈ wsL_law) (w4 : Cond.initialized y.cls ∈ wsL_law) (w5 : Cond.code y cY mY rY ∈ wsL_law)
    (hd : y.cls ≠ "java/lang/invoke/MethodHandle" ∧ y.cls ≠ "java/lang/invoke/VarHandle" ∧ (parseMethodDescriptor y.desc).map (fun d => d.parameters.length) = some n)
    (hR : fr + 1 ≤ R.frames ∧ 8 + (mY + 11) + lo ≤ R.locals) (hn : As.length = n) (hls : ls.size = nL) (hst : st0 = As.reverse ++ rest) (hcat : (rest.map fun v => v.category).sum ≤ 8) (hdg : decode cc pc = .ok (.invokestatic index, 3)) (hf : cells + mc ≤ R.cells ∧ slots + ms ≤ R.slots) :
    vx_Run p l e R s m args below meth c H locs cells slots mc ms (F0 m pc ls st0) rest (kQv g S O H.size post As.toArray) kXw (kA2 S O H.size) :=
  vx_runS (As := As) (rest := rest) F hM ⟨callB_of n F.2.2.2.2 (kGood w5) rfl rfl rfl (F.2.2.2.2 _ w4) (F.2.2.2.2 _ w1) hd hR, F.2.2.2.2 _ w2⟩ ⟨kPv.blind, fun U hU hW => ⟨rfl, by rw [hU], by rw [hU]; exact hP, by rw [hU]; exact hO, hK.moved hW.alike, ⟨hD.1, fun k q hk => Or.inl (List.mem_append_left _ (kW_mem hk))⟩, ⟨hDO.1, fun k q hk => Or.inl (List.mem_append_right _ (kW_mem hk))⟩, hdis, by
    rw [hU]
    exact kEn.moved hW hS.2.1 (fun q hq => hq.elim (fun h => (List.mem_append.mp h).elim (fun h => kD_in hD h) (fun h => kD_in hDO h)) (fun h => hA q (Nat.le_trans hS.1 h))) hE, fun q hq => (hNc q hq).moved hW.alike⟩⟩ rfl hn hls hst (lv_room hcat) hdg hf
theorem kcallv {mc ms sz : Nat} {a : Array Value} {post : Value → Prop}
    (hr : vx_Run p l e R s m args below meth c H locs cells slots mc ms (F0 m pc ls st0) rest (kQv g S O sz post a) kXw (kA2 S O sz)) (hsz : H.size = sz) (hD : va_D A (kW g S)) (hDO : va_D A (kW g O)) (hS : va_S A s.heap H locs) (hA : ∀ q : Nat, s.heap.size ≤ q → A q)
    (kk : ∀ (v : Value) (H1 : Heap) (locs1 : List Loc), post v → va_P (kD g) vwCl (kW g S) H1 → va_P (kD g) vwCl (kW g O) H1 → va_S A s.heap H1 locs1 → W p l e R s m args below meth c H1 locs1 (cells + mc) (slots + ms) Q (F0 m (pc + 3) ls (v :: rest))) :
    W p l e R s m args below meth c H locs cells slots Q (F0 m pc ls st0) := by
  subst hsz
  have hsub : ∀ q, kA2 S O H.size q → A q := fun q hq => hq.elim (fun h => (List.mem_append.mp h).elim (fun h => kD_in hD h) (fun h => kD_in hDO h)) (fun h => hA q (Nat.le_trans hS.1 h))
  intro T hT X
  rcases hr T hT X with ⟨v, st₀, t, T', L, h0, X', hL, e1, e2, ⟨⟨v1, hv, hp, hP1, hO1⟩, hF⟩, st⟩ | ⟨q, st₀, t, T', L, E, ce, h0, X', hL, e1, e2, hex, hce, hcv, hcl, st⟩
  · cases hv
    obtain ⟨k1, k2, k3⟩ := vx_keep h0 e1 hS (fun q _ h => hsub q h) hsub hL hF
    obtain ⟨t2, a1, b1⟩ := kk v1 T'.heap (locs ++ L) hp (by rw [e1]; exact hP1) (by rw [e1]; exact hO1) k3 T' rfl X'
    exact ⟨t2, st t2 a1, b1⟩
  · exact hex.elim
/-- a call of a method of the law that reads the script: the run -/
theorem kSts {y : MethodName} {cY : ByteArray} {mY : Nat} {fr lo n b L : Nat} {xs : Nat → Int32} {As : List Value} {post : Int32 → Prop} (F : CallFix p m c cc nL s args wsL_law own) (hX : va_X b L xs s s.heap) (hbl : b < s.heap.size) (hbA : ¬ A b) (hS : va_S A s.heap H locs)
    (hM : kMs l y cY mY fr lo As b L xs H.size post)
    (w1 : Cond.methodLink own index y ∈ wsL_law) (w2 : Cond.static y ∈ wsL_law) (w4 : Cond.initialized y.cls ∈ wsL_law) (w5 : Cond.code y cY mY (some .int) ∈ wsL_law)
    (hd : y.cls ≠ "java/lang/invoke/MethodHandle" ∧ y.cls ≠ "java/lang/invoke/VarHandle" ∧ (parseMethodDescriptor y.desc).map (fun d => d.parameters.length) = some n)
    (hR : fr + 1 ≤ R.frames ∧ 8 + (mY + 11) + lo ≤ R.locals) (hn : As.length = n) (hls : ls.size = nL) (hst : st0 = As.reverse ++ rest) (hcat : (rest.map fun v => v.category).sum ≤ 8) (hdg : decode cc pc = .ok (.invokestatic index, 3)) (hf : cells ≤ R.cells ∧ slots ≤ R.slots) :
    vx_Run p l e R s m args below meth c H locs cells slots 0 0 (F0 m pc ls st0) rest (kQs H.size post As.toArray) kXw (fun q => H.size ≤ q) :=
  vx_runS (As := As) (rest := rest) F hM ⟨callB_of n F.2.2.2.2 (kGood w5) rfl rfl rfl (F.2.2.2.2 _ w4) (F.2.2.2.2 _ w1) hd hR, F.2.2.2.2 _ w2⟩ ⟨kPs.blind, fun U hU hW => ⟨rfl, by rw [hU], by rw [hU]; exact (hX.moved hW.alike).kept (hS.2.1 b hbl hbA), Nat.lt_of_lt_of_le hbl hS.1⟩⟩ rfl hn hls hst (lv_room hcat) hdg hf
theorem kcalls {a : Array Value} {post : Int32 → Prop} {sz : Nat}
    (hr : vx_Run p l e R s m args below meth c H locs cells slots 0 0 (F0 m pc ls st0) rest (kQs sz post a) kXw (fun q => sz ≤ q)) (hsz : H.size = sz) (hS : va_S A s.heap H locs) (hA : ∀ q : Nat, s.heap.size ≤ q → A q)
    (kk : ∀ (r : Int32) (H1 : Heap) (locs1 : List Loc), post r → (∀ q : Nat, q < H.size → H1[q]? = H[q]?) → va_S A s.heap H1 locs1 → W p l e R s m args below meth c H1 locs1 cells slots Q (F0 m (pc + 3) ls (.int r :: rest))) :
    W p l e R s m args below meth c H locs cells slots Q (F0 m pc ls st0) := by
  subst hsz
  have hsub : ∀ q, H.size ≤ q → A q := fun q h => hA q (Nat.le_trans hS.1 h)
  intro T hT X
  rcases hr T hT X with ⟨v, st₀, t, T', L, h0, X', hL, e1, e2, ⟨⟨v1, hv, hp⟩, hF⟩, st⟩ | ⟨q, st₀, t, T', L, E, ce, h0, X', hL, e1, e2, hex, hce, hcv, hcl, st⟩
  · cases hv
    obtain ⟨k1, k2, k3⟩ := vx_keep (A1 := fun q => H.size ≤ q) h0 e1 hS (fun q _ h => hsub q h) hsub hL hF
    obtain ⟨t2, a1, b1⟩ := kk v1 T'.heap (locs ++ L) hp (fun q hq => k2 q hq (Nat.not_le.mpr hq)) k3 T' rfl X'
    exact ⟨t2, st t2 a1, b1⟩
  · exact hex.elim
theorem kP_same {g : kG} {S : wPS} {H H1 : Heap} (hP : va_P (kD g) vwCl (kW g S) H) (hf : ∀ q : Nat, q < H.size → H1[q]? = H[q]?) : va_P (kD g) vwCl (kW g S) H1 := hP.kept (fun k q hk => hf q.1 ((hP k q hk).lt))
section Ends4
variable {S0 : wPS} {sz0 mc0 ms0 : Nat} {post0 : Option Value → wPS → Prop} {pov : Value → Prop} {O0 : wPS}
theorem kEndhI {v : Int32} (F : CallFix p m c cc nL s args wsL_law own) (hr : meth.sig.returnType = some .int) (hlk : meth.locks = false) (hP : va_P (kD g) vwCl (kW g S) H) (hD : va_D (kA (pL S0) sz0) (kW g S)) (hS : va_S (kA (pL S0) sz0) s.heap H locs) (hc : cells ≤ mc0) (hs : slots ≤ ms0) (hdg : decode cc pc = .ok (.ireturn, 1)) (hp : post0 (some (.int v)) S) :
    W p l e R s m args below meth c H locs cells slots (vx_MQ below (kQ g S0 sz0 post0) kXw args s mc0 ms0 (kA (pL S0) sz0)) (F0 m pc ls [.int v]) :=
  W.widen hc hs (vx_ret (W.zret F.1 F.2.1 hr rfl (fun t ht _ => ⟨⟨_, S, rfl, hp, by rw [ht]; exact hP, hD⟩, hS.F ht⟩) hS.2.2 hdg hlk))
theorem kEndhL {v : Int64} (F : CallFix p m c cc nL s args wsL_law own) (hr : meth.sig.returnType = some .long) (hlk : meth.locks = false) (hP : va_P (kD g) vwCl (kW g S) H) (hD : va_D (kA (pL S0) sz0) (kW g S)) (hS : va_S (kA (pL S0) sz0) s.heap H locs) (hc : cells ≤ mc0) (hs : slots ≤ ms0) (hdg : decode cc pc = .ok (.lreturn, 1)) (hp : post0 (some (.long v)) S) :
    W p l e R s m args below meth c H locs cells slots (vx_MQ below (kQ g S0 sz0 post0) kXw args s mc0 ms0 (kA (pL S0) sz0)) (F0 m pc ls [.long v]) :=
  W.widen hc hs (vx_ret (W.lret F.1 F.2.1 hr (fun t ht _ => ⟨⟨_, S, rfl, hp, by rw [ht]; exact hP, hD⟩, hS.F ht⟩) hS.2.2 hdg hlk))
theorem kEndhF {v : UInt32} (F : CallFix p m c cc nL s args wsL_law own) (hr : meth.sig.returnType = some .float) (hlk : meth.locks = false) (hP : va_P (kD g) vwCl (kW g S) H) (hD : va_D (kA (pL S0) sz0) (kW g S)) (hS : va_S (kA (pL S0) sz0) s.heap H locs) (hc : cells ≤ mc0) (hs : slots ≤ ms0) (hdg : decode cc pc = .ok (.freturn, 1)) (hp : post0 (some (.float v)) S) :
    W p l e R s m args below meth c H locs cells slots (vx_MQ below (kQ g S0 sz0 post0) kXw args s mc0 ms0 (kA (pL S0) sz0)) (F0 m pc ls [.float v]) :=
  W.widen hc hs (vx_ret (W.fret F.1 F.2.1 hr (fun t ht _ => ⟨⟨_, S, rfl, hp, by rw [ht]; exact hP, hD⟩, hS.F ht⟩) hS.2.2 hdg hlk))
theorem kEndv {v : Int32} (F : CallFix p m c cc nL s args wsL_law own) {ty : FieldType} (hr : meth.sig.returnType = some ty) (hn : narrow ty (.int v) = .int v) (hlk : meth.locks = false) (hP : va_P (kD g) vwCl (kW g S0) H) (hO : va_P (kD g) vwCl (kW g O0) H) (hS : va_S (kA2 S0 O0 sz0) s.heap H locs) (hc : cells ≤ mc0) (hs : slots ≤ ms0) (hdg : decode cc pc = .ok (.ireturn, 1)) (hp : pov (.int v)) :
    W p l e R s m args below meth c H locs cells slots (vx_MQ below (kQv g S0 O0 sz0 pov) kXw args s mc0 ms0 (kA2 S0 O0 sz0)) (F0 m pc ls [.int v]) :=
  W.widen hc hs (vx_ret (W.zret F.1 F.2.1 hr hn (fun t ht _ => ⟨⟨_, rfl, hp, by rw [ht]; exact hP, by rw [ht]; exact hO⟩, hS.F ht⟩) hS.2.2 hdg hlk))
theorem kEndvL {v : Int64} (F : CallFix p m c cc nL s args wsL_law own) (hr : meth.sig.returnType = some .long) (hlk : meth.locks = false) (hP : va_P (kD g) vwCl (kW g S0) H) (hO : va_P (kD g) vwCl (kW g O0) H) (hS : va_S (kA2 S0 O0 sz0) s.heap H locs) (hc : cells ≤ mc0) (hs : slots ≤ ms0) (hdg : decode cc pc = .ok (.lreturn, 1)) (hp : pov (.long v)) :
    W p l e R s m args below meth c H locs cells slots (vx_MQ below (kQv g S0 O0 sz0 pov) kXw args s mc0 ms0 (kA2 S0 O0 sz0)) (F0 m pc ls [.long v]) :=
  W.widen hc hs (vx_ret (W.lret F.1 F.2.1 hr (fun t ht _ => ⟨⟨_, rfl, hp, by rw [ht]; exact hP, by rw [ht]; exact hO⟩, hS.F ht⟩) hS.2.2 hdg hlk))
theorem kEnds {v : Int32} {pos : Int32 → Prop} (F : CallFix p m c cc nL s args wsL_law own) (hr : meth.sig.returnType = some .int) (hlk : meth.locks = false) (hS : va_S (fun q => sz0 ≤ q) s.heap H locs) (hdg : decode cc pc = .ok (.ireturn, 1)) (hp : pos v) :
    W p l e R s m args below meth c H locs 0 0 (vx_MQ below (kQs sz0 pos) kXw args s 0 0 (fun q => sz0 ≤ q)) (F0 m pc ls [.int v]) :=
  vx_ret (W.zret F.1 F.2.1 hr rfl (fun t ht _ => ⟨⟨_, rfl, hp⟩, hS.F ht⟩) hS.2.2 hdg hlk)
end Ends4
/-- a write into a row of the law's own -/
theorem rt2_I {i x : Int32} (F : CallFix p m c cc nL s args wsL_law own) (hK : va_K (kD g) vwCl (kT g) s) (hP : va_P (kD g) vwCl (kW g S) H) (hO : va_P (kD g) vwCl (kW g O) H) (hD : va_D A (kW g S)) (hDO : va_D A (kW g O)) (hdis : kdis S O) (hS : va_S A H0 H locs) (ob : Ob O 9 a) (hi : vp_in i (pN O a)) (hdg : decode cc pc = .ok (.iastore, 1))
    (kk : ∀ (H1 : Heap) (locs1 : List Loc), va_P (kD g) vwCl (kW g S) H1 → va_P (kD g) vwCl (kW g (setX O a (upd (pX O a) i.toNatClampNeg x))) H1 → va_D A (kW g (setX O a (upd (pX O a) i.toNatClampNeg x))) → va_S A H0 H1 locs1 → W p l e R s m args below meth c H1 locs1 cells slots Q (F0 m (pc + 1) ls rest)) : W p l e R s m args below meth c H locs cells slots Q (F0 m pc ls (.int x :: .int i :: .ref a :: rest)) := by
  obtain ⟨k, h1, h2⟩ := kge_RI (g := g) ob
  have e : (kW g O).set k (a, .inl (g.2.2 1, pN O a, .inl (upd (pX O a) i.toNatClampNeg x))) = kW g (setX O a (upd (pX O a) i.toNatClampNeg x)) := kW_set hDO ob.1 h1 rfl (by rw [show kF g (setX O a (upd (pX O a) i.toNatClampNeg x)) a = .inl (g.2.2 1, pN O a, .inl (va_up (pX O) a (upd (pX O a) i.toNatClampNeg x) a)) from kat_RI (S := setX O a (upd (pX O a) i.toNatClampNeg x)) ob.2]; rw [va_up_self]) (fun b hb => kF_X hb)
  have hq : (kW g S ++ kW g O)[(kW g S).length + k]? = some (a, .inl (g.2.2 1, pN O a, .inl (pX O a))) := by rw [List.getElem?_append_right (Nat.le_add_right _ _), Nat.add_sub_cancel_left]; exact h2
  refine va_iast (D := kD g) F.1 F.2.1 hK (va_P.app hP hO) (kD_app hD hDO hdis) hS _ 1 hq rfl hi hdg (fun H1 locs1 a1 a2 a3 => ?_)
  rw [List.set_append_right _ _ (Nat.le_add_right _ _), Nat.add_sub_cancel_left, e] at a1 a2
  exact kk H1 locs1 (va_P_l a1) (va_P_r a1) (va_D_r a2) a3
theorem rt2_Z {i x : Int32} (F : CallFix p m c cc nL s args wsL_law own) (hK : va_K (kD g) vwCl (kT g) s) (hP : va_P (kD g) vwCl (kW g S) H) (hO : va_P (kD g) vwCl (kW g O) H) (hD : va_D A (kW g S)) (hDO : va_D A (kW g O)) (hdis : kdis S O) (hS : va_S A H0 H locs) (ob : Ob O 10 a) (hi : vp_in i (pN O a)) (hdg : decode cc pc = .ok (.bastore, 1))
    (kk : ∀ (H1 : Heap) (locs1 : List Loc), va_P (kD g) vwCl (kW g S) H1 → va_P (kD g) vwCl (kW g (setX O a (upd (pX O a) i.toNatClampNeg (vp_nar .boolean x)))) H1 → va_D A (kW g (setX O a (upd (pX O a) i.toNatClampNeg (vp_nar .boolean x)))) → va_S A H0 H1 locs1 → W p l e R s m args below meth c H1 locs1 cells slots Q (F0 m (pc + 1) ls rest)) : W p l e R s m args below meth c H locs cells slots Q (F0 m pc ls (.int x :: .int i :: .ref a :: rest)) := by
  obtain ⟨k, h1, h2⟩ := kge_RZ (g := g) ob
  have e : (kW g O).set k (a, .inl (g.2.2 2, pN O a, .inl (upd (pX O a) i.toNatClampNeg (vp_nar .boolean x)))) = kW g (setX O a (upd (pX O a) i.toNatClampNeg (vp_nar .boolean x))) := kW_set hDO ob.1 h1 rfl (by rw [show kF g (setX O a (upd (pX O a) i.toNatClampNeg (vp_nar .boolean x))) a = .inl (g.2.2 2, pN O a, .inl (va_up (pX O) a (upd (pX O a) i.toNatClampNeg (vp_nar .boolean x)) a)) from kat_RZ (S := setX O a (upd (pX O a) i.toNatClampNeg (vp_nar .boolean x))) ob.2]; rw [va_up_self]) (fun b hb => kF_X hb)
  have hq : (kW g S ++ kW g O)[(kW g S).length + k]? = some (a, .inl (g.2.2 2, pN O a, .inl (pX O a))) := by rw [List.getElem?_append_right (Nat.le_add_right _ _), Nat.add_sub_cancel_left]; exact h2
  refine va_zast (D := kD g) F.1 F.2.1 hK (va_P.app hP hO) (kD_app hD hDO hdis) hS _ 2 hq rfl hi hdg (fun H1 locs1 a1 a2 a3 => ?_)
  rw [List.set_append_right _ _ (Nat.le_add_right _ _), Nat.add_sub_cancel_left, e] at a1 a2
  exact kk H1 locs1 (va_P_l a1) (va_P_r a1) (va_D_r a2) a3
theorem rt2_C {i x : Int32} (F : CallFix p m c cc nL s args wsL_law own) (hK : va_K (kD g) vwCl (kT g) s) (hP : va_P (kD g) vwCl (kW g S) H) (hO : va_P (kD g) vwCl (kW g O) H) (hD : va_D A (kW g S)) (hDO : va_D A (kW g O)) (hdis : kdis S O) (hS : va_S A H0 H locs) (ob : Ob O 8 a) (hi : vp_in i (pN O a)) (hdg : decode cc pc = .ok (.castore, 1))
    (kk : ∀ (H1 : Heap) (locs1 : List Loc), va_P (kD g) vwCl (kW g S) H1 → va_P (kD g) vwCl (kW g (setX O a (upd (pX O a) i.toNatClampNeg (vp_nar .char x)))) H1 → va_D A (kW g (setX O a (upd (pX O a) i.toNatClampNeg (vp_nar .char x)))) → va_S A H0 H1 locs1 → W p l e R s m args below meth c H1 locs1 cells slots Q (F0 m (pc + 1) ls rest)) : W p l e R s m args below meth c H locs cells slots Q (F0 m pc ls (.int x :: .int i :: .ref a :: rest)) := by
  obtain ⟨k, h1, h2⟩ := kge_RC (g := g) ob
  have e : (kW g O).set k (a, .inl (g.2.2 0, pN O a, .inl (upd (pX O a) i.toNatClampNeg (vp_nar .char x)))) = kW g (setX O a (upd (pX O a) i.toNatClampNeg (vp_nar .char x))) := kW_set hDO ob.1 h1 rfl (by rw [show kF g (setX O a (upd (pX O a) i.toNatClampNeg (vp_nar .char x))) a = .inl (g.2.2 0, pN O a, .inl (va_up (pX O) a (upd (pX O a) i.toNatClampNeg (vp_nar .char x)) a)) from kat_RC (S := setX O a (upd (pX O a) i.toNatClampNeg (vp_nar .char x))) ob.2]; rw [va_up_self]) (fun b hb => kF_X hb)
  have hq : (kW g S ++ kW g O)[(kW g S).length + k]? = some (a, .inl (g.2.2 0, pN O a, .inl (pX O a))) := by rw [List.getElem?_append_right (Nat.le_add_right _ _), Nat.add_sub_cancel_left]; exact h2
  refine va_cast (D := kD g) F.1 F.2.1 hK (va_P.app hP hO) (kD_app hD hDO hdis) hS _ 0 hq rfl hi hdg (fun H1 locs1 a1 a2 a3 => ?_)
  rw [List.set_append_right _ _ (Nat.le_add_right _ _), Nat.add_sub_cancel_left, e] at a1 a2
  exact kk H1 locs1 (va_P_l a1) (va_P_r a1) (va_D_r a2) a3
theorem rn3_R_I {w0 : va_W} {n : Int32} {N : Nat} (F : CallFix p m c cc nL s args wsL_law own) (hK : va_K (kD g) vwCl (kT g) s) (hP : va_P (kD g) vwCl (w0 ++ kW g S) H) (hD : va_D A (w0 ++ kW g S)) (hS : va_S A H0 H locs) (hA : ∀ q : Nat, H0.size ≤ q → A q) (w1 : Cond.arrayClass .int ∈ wsL_law) (hn : ¬ n < 0) (hN : n.toNatClampNeg = N) (hb : N * componentBytes .int ≤ 536870912) (hc : cells + 1 ≤ R.cells) (hs : slots + N ≤ R.slots) (hdg : decode cc pc = .ok (.newarray .int, 2)) (kk : ∀ (q : Nat) (H1 : Heap), q ∉ pL S → va_P (kD g) vwCl (w0 ++ kW g (newA S q 9 N)) H1 → va_D A (w0 ++ kW g (newA S q 9 N)) → va_S A H0 H1 locs → W p l e R s m args below meth c H1 locs (cells + 1) (slots + N) Q (F0 m (pc + 2) ls (.ref q :: rest))) : W p l e R s m args below meth c H locs cells slots Q (F0 m pc ls (.int n :: rest)) := by
  refine va_newa (D := kD g) (atype := .int) (ty := .int) (N' := N) (a0 := (N, .inl (fun _ => 0))) F.1 F.2.1 (F.2.2.2.2 _ w1) rfl hK hP hD hS hA (fun _ => rfl) hn hN hb hc hs hdg (fun q cA H1 a0 a1 a2 a3 => ?_)
  have hq : q ∉ pL S := va_pl_fresh2 (X := w0) a2
  have h1 := (a0.2 6 (cA, .int) rfl).2
  have h2 := (hK.2 1 (g.2.2 1, .int) rfl).2
  cases Option.some.inj ((va_nm_int h1).symm.trans (va_nm_int h2))
  have e : kW g S ++ [(q, .inl (g.2.2 1, N, .inl (fun _ => 0)))] = kW g (newA S q 9 N) := kW_push hq rfl (by rw [show kF g (newA S q 9 N) q = .inl (g.2.2 1, va_up (pN S) q N q, .inl (va_up (pX S) q (fun _ => 0) q)) from kat_RI (S := newA S q 9 N) (va_up_self _ _ _), va_up_self, va_up_self]) (fun b hb => kF_A hb)
  rw [List.append_assoc, e] at a1 a2
  exact kk q H1 hq a1 a2 a3
theorem rn3_R_C {w0 : va_W} {n : Int32} {N : Nat} (F : CallFix p m c cc nL s args wsL_law own) (hK : va_K (kD g) vwCl (kT g) s) (hP : va_P (kD g) vwCl (w0 ++ kW g S) H) (hD : va_D A (w0 ++ kW g S)) (hS : va_S A H0 H locs) (hA : ∀ q : Nat, H0.size ≤ q → A q) (w1 : Cond.arrayClass .char ∈ wsL_law) (hn : ¬ n < 0) (hN : n.toNatClampNeg = N) (hb : N * componentBytes .char ≤ 536870912) (hc : cells + 1 ≤ R.cells) (hs : slots + N ≤ R.slots) (hdg : decode cc pc = .ok (.newarray .char, 2)) (kk : ∀ (q : Nat) (H1 : Heap), q ∉ pL S → va_P (kD g) vwCl (w0 ++ kW g (newA S q 8 N)) H1 → va_D A (w0 ++ kW g (newA S q 8 N)) → va_S A H0 H1 locs → W p l e R s m args below meth c H1 locs (cells + 1) (slots + N) Q (F0 m (pc + 2) ls (.ref q :: rest))) : W p l e R s m args below meth c H locs cells slots Q (F0 m pc ls (.int n :: rest)) := by
  refine va_newa (D := kD g) (atype := .char) (ty := .char) (N' := N) (a0 := (N, .inl (fun _ => 0))) F.1 F.2.1 (F.2.2.2.2 _ w1) rfl hK hP hD hS hA (fun _ => rfl) hn hN hb hc hs hdg (fun q cA H1 a0 a1 a2 a3 => ?_)
  have hq : q ∉ pL S := va_pl_fresh2 (X := w0) a2
  have h1 := (a0.2 6 (cA, .char) rfl).2
  have h2 := (hK.2 0 (g.2.2 0, .char) rfl).2
  cases Option.some.inj ((va_nm_char h1).symm.trans (va_nm_char h2))
  have e : kW g S ++ [(q, .inl (g.2.2 0, N, .inl (fun _ => 0)))] = kW g (newA S q 8 N) := kW_push hq rfl (by rw [show kF g (newA S q 8 N) q = .inl (g.2.2 0, va_up (pN S) q N q, .inl (va_up (pX S) q (fun _ => 0) q)) from kat_RC (S := newA S q 8 N) (va_up_self _ _ _), va_up_self, va_up_self]) (fun b hb => kF_A hb)
  rw [List.append_assoc, e] at a1 a2
  exact kk q H1 hq a1 a2 a3
theorem rn3_R_Z {w0 : va_W} {n : Int32} {N : Nat} (F : CallFix p m c cc nL s args wsL_law own) (hK : va_K (kD g) vwCl (kT g) s) (hP : va_P (kD g) vwCl (w0 ++ kW g S) H) (hD : va_D A (w0 ++ kW g S)) (hS : va_S A H0 H locs) (hA : ∀ q : Nat, H0.size ≤ q → A q) (w1 : Cond.arrayClass .boolean ∈ wsL_law) (hn : ¬ n < 0) (hN : n.toNatClampNeg = N) (hb : N * componentBytes .boolean ≤ 536870912) (hc : cells + 1 ≤ R.cells) (hs : slots + N ≤ R.slots) (hdg : decode cc pc = .ok (.newarray .boolean, 2)) (kk : ∀ (q : Nat) (H1 : Heap), q ∉ pL S → va_P (kD g) vwCl (w0 ++ kW g (newA S q 10 N)) H1 → va_D A (w0 ++ kW g (newA S q 10 N)) → va_S A H0 H1 locs → W p l e R s m args below meth c H1 locs (cells + 1) (slots + N) Q (F0 m (pc + 2) ls (.ref q :: rest))) : W p l e R s m args below meth c H locs cells slots Q (F0 m pc ls (.int n :: rest)) := by
  refine va_newa (D := kD g) (atype := .boolean) (ty := .boolean) (N' := N) (a0 := (N, .inl (fun _ => 0))) F.1 F.2.1 (F.2.2.2.2 _ w1) rfl hK hP hD hS hA (fun _ => rfl) hn hN hb hc hs hdg (fun q cA H1 a0 a1 a2 a3 => ?_)
  have hq : q ∉ pL S := va_pl_fresh2 (X := w0) a2
  have h1 := (a0.2 6 (cA, .boolean) rfl).2
  have h2 := (hK.2 2 (g.2.2 2, .boolean) rfl).2
  cases Option.some.inj ((va_nm_boolean h1).symm.trans (va_nm_boolean h2))
  have e : kW g S ++ [(q, .inl (g.2.2 2, N, .inl (fun _ => 0)))] = kW g (newA S q 10 N) := kW_push hq rfl (by rw [show kF g (newA S q 10 N) q = .inl (g.2.2 2, va_up (pN S) q N q, .inl (va_up (pX S) q (fun _ => 0) q)) from kat_RZ (S := newA S q 10 N) (va_up_self _ _ _), va_up_self, va_up_self]) (fun b hb => kF_A hb)
  rw [List.append_assoc, e] at a1 a2
  exact kk q H1 hq a1 a2 a3
end KB4
