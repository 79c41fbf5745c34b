/-! The pool: the addresses, the kind of each, whole fields by (field, address), references by (field, address), longs, and arrays: lengths, rows of ints, rows of references.
kinds: 0 Aisle, 1 Article, 2 Line, 3 Robot, 4 ScanLog, 5 Pickwave, 6 PickwaveModel (fields 100 ..), 7 ArrayList; 14 long[1], 15 double[1] (held as longs); 8 char[], 9 int[], 10 boolean[], 11 Aisle[], 12 Robot[], 13 Object[]; a field's number is 10 * kind + its slot -/
abbrev wPS : Type := List Nat × (Nat → Nat) × (Nat → Nat → Int32) × (Nat → Nat → Option Nat) × (Nat → Int64) × (Nat → Nat) × (Nat → Nat → Int32) × (Nat → Nat → Option Nat)
abbrev pL (S : wPS) : List Nat := S.1
abbrev pK (S : wPS) : Nat → Nat := S.2.1
abbrev pF (S : wPS) : Nat → Nat → Int32 := S.2.2.1
abbrev pG (S : wPS) : Nat → Nat → Option Nat := S.2.2.2.1
abbrev pJ (S : wPS) : Nat → Int64 := S.2.2.2.2.1
abbrev pN (S : wPS) : Nat → Nat := S.2.2.2.2.2.1
abbrev pX (S : wPS) : Nat → Nat → Int32 := S.2.2.2.2.2.2.1
abbrev pY (S : wPS) : Nat → Nat → Option Nat := S.2.2.2.2.2.2.2
def setF (S : wPS) (k a : Nat) (v : Int32) : wPS := (pL S, pK S, va_up (pF S) k (va_up (pF S k) a v), pG S, pJ S, pN S, pX S, pY S)
def setG (S : wPS) (k a : Nat) (v : Option Nat) : wPS := (pL S, pK S, pF S, va_up (pG S) k (va_up (pG S k) a v), pJ S, pN S, pX S, pY S)
def setJ (S : wPS) (a : Nat) (v : Int64) : wPS := (pL S, pK S, pF S, pG S, va_up (pJ S) a v, pN S, pX S, pY S)
def setX (S : wPS) (a : Nat) (f : Nat → Int32) : wPS := (pL S, pK S, pF S, pG S, pJ S, pN S, va_up (pX S) a f, pY S)
def setY (S : wPS) (a : Nat) (f : Nat → Option Nat) : wPS := (pL S, pK S, pF S, pG S, pJ S, pN S, pX S, va_up (pY S) a f)
def newO (S : wPS) (a kd : Nat) : wPS := (pL S ++ [a], va_up (pK S) a kd, fun j => va_up (pF S j) a 0, fun j => va_up (pG S j) a none, va_up (pJ S) a 0, pN S, pX S, pY S)
def newA (S : wPS) (a kd n : Nat) : wPS := (pL S ++ [a], va_up (pK S) a kd, pF S, pG S, pJ S, va_up (pN S) a n, va_up (pX S) a (fun _ => 0), va_up (pY S) a (fun _ => none))
abbrev kG : Type := (Nat → ClassId) × (Nat → Nat → Nat) × (Nat → ClassId)
abbrev kD (g : kG) : va_G := (g.1, g.2.1)
abbrev kT (g : kG) : List (ClassId × FieldType) := [(g.2.2 0, .char), (g.2.2 1, .int), (g.2.2 2, .boolean), (g.2.2 3, .object RX0), (g.2.2 4, .object RX3), (g.2.2 5, .object "java/lang/Object"), (g.2.2 6, .long), (g.2.2 7, .double)]
/-- the row of an array of one -/
def kl0 (v : Int64) : Nat → Int64 := fun i => if i = 0 then v else 0
def kd0 (v : UInt64) : Nat → UInt64 := fun i => if i = 0 then v else 0
def kF (g : kG) (S : wPS) : Nat → va_E := fun a =>
  if pK S a = 0 then .inr (1, [.int (pF S 0 a), .int (pF S 1 a), .int (pF S 2 a)])
  else if pK S a = 1 then .inr (2, [va_rf (pG S 10 a), .int (pF S 11 a), .int (pF S 12 a), .int (pF S 13 a), .int (pF S 14 a)])
  else if pK S a = 2 then .inr (3, [.int (pF S 20 a), va_rf (pG S 21 a), .int (pF S 22 a), .int (pF S 23 a), .int (pF S 24 a), .int (pF S 25 a)])
  else if pK S a = 3 then .inr (4, [va_rf (pG S 30 a), .int (pF S 31 a), .int (pF S 32 a)])
  else if pK S a = 4 then .inr (5, [va_rf (pG S 40 a), va_rf (pG S 41 a), .int (pF S 42 a)])
  else if pK S a = 5 then .inr (6, [va_rf (pG S 50 a), va_rf (pG S 51 a), va_rf (pG S 52 a), va_rf (pG S 53 a), va_rf (pG S 54 a), va_rf (pG S 55 a), .int (pF S 56 a), .int (pF S 57 a), .int (pF S 58 a), .long (pJ S a)])
  else if pK S a = 6 then .inr (7, [.int (pF S 100 a), .int (pF S 101 a), .int (pF S 102 a), .int (pF S 103 a), .int (pF S 104 a), .int (pF S 105 a), .int (pF S 106 a), va_rf (pG S 107 a), va_rf (pG S 108 a), va_rf (pG S 109 a), va_rf (pG S 110 a), va_rf (pG S 111 a), va_rf (pG S 112 a), va_rf (pG S 113 a), va_rf (pG S 114 a), va_rf (pG S 115 a), va_rf (pG S 116 a), va_rf (pG S 117 a), va_rf (pG S 118 a), va_rf (pG S 119 a), va_rf (pG S 120 a), va_rf (pG S 121 a), va_rf (pG S 122 a), va_rf (pG S 123 a)])
  else if pK S a = 7 then .inr (0, [.int (pF S 70 a), va_rf (pG S 71 a), .int (pF S 72 a)])
  else if pK S a = 8 then .inl (g.2.2 0, pN S a, .inl (pX S a))
  else if pK S a = 9 then .inl (g.2.2 1, pN S a, .inl (pX S a))
  else if pK S a = 10 then .inl (g.2.2 2, pN S a, .inl (pX S a))
  else if pK S a = 11 then .inl (g.2.2 3, pN S a, .inr (.inr (.inr (.inr (pY S a)))))
  else if pK S a = 12 then .inl (g.2.2 4, pN S a, .inr (.inr (.inr (.inr (pY S a)))))
  else if pK S a = 14 then .inl (g.2.2 6, pN S a, .inr (.inl (kl0 (pJ S a))))
  else if pK S a = 15 then .inl (g.2.2 7, pN S a, .inr (.inr (.inr (.inl (kd0 (pJ S a).toUInt64)))))
  else .inl (g.2.2 5, pN S a, .inr (.inr (.inr (.inr (pY S a)))))
def kW (g : kG) (S : wPS) : va_W := [] ++ va_pl (pL S) (kF g S)
/-- a thing of kind k in the pool -/
def Ob (S : wPS) (k a : Nat) : Prop := a ∈ pL S ∧ pK S a = k
theorem kF_congr {g : kG} {S T : wPS} {b : Nat} (hK : pK T b = pK S b) (hF : ∀ j, pF T j b = pF S j b) (hG : ∀ j, pG T j b = pG S j b) (hJ : pJ T b = pJ S b) (hN : pN T b = pN S b) (hX : pX T b = pX S b) (hY : pY T b = pY S b) : kF g T b = kF g S b := by
  unfold kF
  rw [hK, hJ, hN, hX, hY]
  simp only [hF, hG]
theorem va_up_at {α : Type} (f : Nat → α) {k j : Nat} (v : α) (h : j = k) : va_up f k v j = v := by rw [h]; exact va_up_self f k v
theorem uF_ne {S : wPS} {k a b : Nat} {v : Int32} (hb : b ≠ a) (j : Nat) : pF (setF S k a v) j b = pF S j b := by
  show va_up (pF S) k (va_up (pF S k) a v) j b = pF S j b
  by_cases hj : j = k
  · rw [va_up_at _ _ hj, va_up_ne _ _ hb, hj]
  · rw [va_up_ne _ _ hj]
theorem uG_ne {S : wPS} {k a b : Nat} {v : Option Nat} (hb : b ≠ a) (j : Nat) : pG (setG S k a v) j b = pG S j b := by
  show va_up (pG S) k (va_up (pG S k) a v) j b = pG S j b
  by_cases hj : j = k
  · rw [va_up_at _ _ hj, va_up_ne _ _ hb, hj]
  · rw [va_up_ne _ _ hj]
theorem uF_at {S : wPS} {k a : Nat} {v : Int32} : pF (setF S k a v) k a = v := by
  show va_up (pF S) k (va_up (pF S k) a v) k a = v
  rw [va_up_self, va_up_self]
theorem uG_at {S : wPS} {k a : Nat} {v : Option Nat} : pG (setG S k a v) k a = v := by
  show va_up (pG S) k (va_up (pG S k) a v) k a = v
  rw [va_up_self, va_up_self]
theorem uF_of {S : wPS} {k a j b : Nat} {v : Int32} (h : j ≠ k ∨ b ≠ a) : pF (setF S k a v) j b = pF S j b := by
  by_cases hb : b = a
  · rcases h with h | h
    · show va_up (pF S) k (va_up (pF S k) a v) j b = pF S j b
      rw [va_up_ne _ _ h]
    · exact absurd hb h
  · exact uF_ne hb j
theorem uG_of {S : wPS} {k a j b : Nat} {v : Option Nat} (h : j ≠ k ∨ b ≠ a) : pG (setG S k a v) j b = pG S j b := by
  by_cases hb : b = a
  · rcases h with h | h
    · show va_up (pG S) k (va_up (pG S k) a v) j b = pG S j b
      rw [va_up_ne _ _ h]
    · exact absurd hb h
  · exact uG_ne hb j
theorem kF_F {g : kG} {S : wPS} {k a b : Nat} {v : Int32} (hb : b ≠ a) : kF g (setF S k a v) b = kF g S b := kF_congr rfl (uF_ne hb) (fun _ => rfl) rfl rfl rfl rfl
theorem kF_G {g : kG} {S : wPS} {k a b : Nat} {v : Option Nat} (hb : b ≠ a) : kF g (setG S k a v) b = kF g S b := kF_congr rfl (fun _ => rfl) (uG_ne hb) rfl rfl rfl rfl
theorem kF_J {g : kG} {S : wPS} {a b : Nat} {v : Int64} (hb : b ≠ a) : kF g (setJ S a v) b = kF g S b := kF_congr rfl (fun _ => rfl) (fun _ => rfl) (va_up_ne _ _ hb) rfl rfl rfl
theorem kF_X {g : kG} {S : wPS} {a b : Nat} {v : Nat → Int32} (hb : b ≠ a) : kF g (setX S a v) b = kF g S b := kF_congr rfl (fun _ => rfl) (fun _ => rfl) rfl rfl (va_up_ne _ _ hb) rfl
theorem kF_Y {g : kG} {S : wPS} {a b : Nat} {v : Nat → Option Nat} (hb : b ≠ a) : kF g (setY S a v) b = kF g S b := kF_congr rfl (fun _ => rfl) (fun _ => rfl) rfl rfl rfl (va_up_ne _ _ hb)
theorem kF_O {g : kG} {S : wPS} {a b kd : Nat} (hb : b ≠ a) : kF g (newO S a kd) b = kF g S b := kF_congr (va_up_ne _ _ hb) (fun _ => va_up_ne _ _ hb) (fun _ => va_up_ne _ _ hb) (va_up_ne _ _ hb) rfl rfl rfl
theorem kF_A {g : kG} {S : wPS} {a b kd n : Nat} (hb : b ≠ a) : kF g (newA S a kd n) b = kF g S b := kF_congr (va_up_ne _ _ hb) (fun _ => rfl) (fun _ => rfl) rfl (va_up_ne _ _ hb) (va_up_ne _ _ hb) (va_up_ne _ _ hb)
/-- a write at a, seen in the world -/
theorem kW_set {g : kG} {S T : wPS} {A : Nat → Prop} {a k : Nat} {x : va_E} (hD : va_D A (kW g S)) (hL : a ∈ pL S) (hk : (kW g S)[k]? = some (a, kF g S a)) (h1 : pL T = pL S) (ha : kF g T a = x) (hb : ∀ b, b ≠ a → kF g T b = kF g S b) : (kW g S).set k (a, x) = kW g T := by
  unfold kW at hD hk ⊢
  rw [va_pl_set hD hL hk, h1]
  refine congrArg (fun l => [] ++ l) (va_pl_congr fun b => ?_)
  by_cases e : b = a
  · rw [e, va_up_self, ha]
  · rw [va_up_ne _ _ e, hb b e]
theorem kW_push {g : kG} {S T : wPS} {a : Nat} {x : va_E} (hL : a ∉ pL S) (h1 : pL T = pL S ++ [a]) (ha : kF g T a = x) (hb : ∀ b, b ≠ a → kF g T b = kF g S b) : kW g S ++ [(a, x)] = kW g T := by
  unfold kW
  rw [List.append_assoc, va_pl_push hL, h1]
  refine congrArg (fun l => [] ++ l) (va_pl_congr fun b => ?_)
  by_cases e : b = a
  · rw [e, va_up_self, ha]
  · rw [va_up_ne _ _ e, hb b e]
theorem kW_get {g : kG} {S : wPS} {a : Nat} (hL : a ∈ pL S) : ∃ k : Nat, (kW g S)[k]? = some (a, kF g S a) := va_pl_get (X := []) (f := kF g S) hL
/-! The base of this proof: the pool's world, what a start gives, contracts that return or throw, calls, ends. -/
def kEx (U : State) : Prop := va_Nw (.declares ⟨"java/lang/RuntimeException", "<init>", "(Ljava/lang/String;)V"⟩) U ∧ va_Nw (.declares ⟨"java/lang/Exception", "<init>", "(Ljava/lang/String;)V"⟩) U ∧ va_Nw (.declares ⟨"java/lang/Throwable", "<init>", "(Ljava/lang/String;)V"⟩) U ∧ ∀ E ∈ k_exs, va_Nw (.castable E E) U
theorem kEx.warm {s U : State} (hW : s.WarmedH U.vm) (h : kEx s) : kEx U := ⟨h.1.warmD hW, h.2.1.warmD hW, h.2.2.1.warmD hW, fun E hE => (h.2.2.2 E hE).warmC hW⟩
theorem kEx.same {u U : State} (hv : U.vm = u.vm) (h : kEx u) : kEx U := ⟨va_tabs rfl hv.symm h.1, va_tabs rfl hv.symm h.2.1, va_tabs rfl hv.symm h.2.2.1, fun E hE => va_tabs rfl hv.symm (h.2.2.2 E hE)⟩
/-- what the start gives that no class of ours changes: words of the tables that are no good words -/
def kEv (g : kG) (U : State) : Prop := (∀ q ∈ k_texts, ∃ sa : Nat, vk_R RX5 q.1 q.2 sa U) ∧ va_AO RX0 U ∧ va_AO RX3 U ∧ va_AO "java/lang/Object" U ∧ va_Mi "[Ljava/lang/Object;" (g.2.2 9) U ∧ va_Dc U ∧ va_Nw (.castable RX1 "java/lang/Object") U ∧ va_Nw (.castable RX2 "java/lang/Object") U ∧ va_Nw (.methodLinkNest RX5 28 yX3_init RX5) U ∧ kEx U
theorem kEv.warm {g : kG} {s U : State} (hW : s.WarmedH U.vm) (h : kEv g s) : kEv g U := by
  obtain ⟨h1, h2, h3, h4, h5, h6, h7, h8, h9, h10⟩ := h
  exact ⟨fun q hq => (h1 q hq).elim fun sa k => ⟨sa, k.warm hW⟩, h2.moved hW.alike, h3.moved hW.alike, h4.moved hW.alike, h5.moved hW.alike, h6.moved hW.alike, h7.warmC hW, h8.warmC hW, h9.warmM hW, h10.warm hW⟩
theorem kEv.same {g : kG} {u U : State} (hv : U.vm = u.vm) (h : kEv g u) : kEv g U := by
  have ha : u.vm.Alike U.vm := by rw [hv]; exact Vm.Alike.refl _
  obtain ⟨h1, h2, h3, h4, h5, h6, h7, h8, h9, h10⟩ := h
  exact ⟨fun q hq => (h1 q hq).elim fun sa k => ⟨sa, k.same hv⟩, h2.moved ha, h3.moved ha, h4.moved ha, h5.moved ha, h6.moved ha, va_tabs rfl hv.symm h7, va_tabs rfl hv.symm h8, va_tabs rfl hv.symm h9, h10.same hv⟩
/-- .. and what the heap holds that none of ours writes: the empty row of lists, two statics of Throwable -/
def kEn (g : kG) (e0 : Nat) (A : Nat → Prop) (U : State) (H : Heap) : Prop :=
  va_Z RJx4a65c "DEFAULTCAPACITY_EMPTY_ELEMENTDATA" "[Ljava/lang/Object;" (.ref e0) A U H ∧ va_T (.object "java/lang/Object") e0 0 (fun _ => .null) A U H ∧ vx_Zq Bundle.tN "UNASSIGNED_STACK" Bundle.steD A U H ∧ vx_Zq Bundle.tN "SUPPRESSED_SENTINEL" Bundle.listD A U H ∧ kEv g U
theorem kEn.moved {g : kG} {e0 : Nat} {A B : Nat → Prop} {u U : State} {H H1 : Heap} (hW : u.WarmedH U.vm) (hq : ∀ a : Nat, a < H.size → ¬ A a → H1[a]? = H[a]?) (hAB : ∀ q, B q → A q) (h : kEn g e0 A u H) : kEn g e0 B U H1 := by
  obtain ⟨h1, h2, h3, h4, h5⟩ := h
  exact ⟨((h1.moved hW.alike).kept hq).narrow hAB, ((h2.moved hW.alike).kept hq).narrow hAB, ((h3.moved hW.alike).kept hq).narrow hAB, ((h4.moved hW.alike).kept hq).narrow hAB, h5.warm hW⟩
theorem kEn.same {g : kG} {e0 : Nat} {A : Nat → Prop} {u U : State} {H : Heap} (hv : U.vm = u.vm) (h : kEn g e0 A u H) : kEn g e0 A U H := by
  have ha : u.vm.Alike U.vm := by rw [hv]; exact Vm.Alike.refl _
  obtain ⟨h1, h2, h3, h4, h5⟩ := h
  exact ⟨h1.moved ha, h2.moved ha, h3.moved ha, h4.moved ha, h5.same hv⟩
def kA (L : List Nat) (sz : Nat) : Nat → Prop := fun q => q ∈ L ∨ sz ≤ q
def kPre (g : kG) (e0 : Nat) (S : wPS) (sz : Nat) (U : State) : Prop := U.heap.size = sz ∧ va_P (kD g) vwCl (kW g S) U.heap ∧ va_K (kD g) vwCl (kT g) U ∧ va_D (kA (pL S) sz) (kW g S) ∧ kEn g e0 (kA (pL S) sz) U U.heap
def kQ (g : kG) (S : wPS) (sz : Nat) (post : Option Value → wPS → Prop) : Array Value → State → Outcome → State → Prop := fun _ st oc t => (∃ (v : Option Value) (S1 : wPS), oc = .returned v ∧ post v S1 ∧ va_P (kD g) vwCl (kW g S1) t.heap ∧ va_D (kA (pL S) sz) (kW g S1)) ∧ va_F (kA (pL S) sz) st t
def kX (g : kG) (S : wPS) (sz : Nat) (Ex : String → Prop) : String → State → State → Prop := fun E st t => Ex E ∧ va_P (kD g) vwCl (kW g S) t.heap ∧ va_F (kA (pL S) sz) st t
/-- the contract of a method of the class: from the pool S it returns with 'post answer S1', or throws one of Ex with the pool as it was -/
def kM (l : Launch) (g : kG) (e0 : Nat) (y : MethodName) (cY : ByteArray) (mY : Nat) (rY : Option FieldType) (fr lo mc ms : Nat) (As : List Value) (S : wPS) (sz : Nat) (post : Option Value → wPS → Prop) (Ex : String → Prop) : Prop :=
  vx_Met l y (.code y cY mY rY :: wsL_law) ({ frames := fr, cells := mc, slots := ms, locals := lo }) (va_Pc As (kPre g e0 S sz)) (kQ g S sz post) (kX g S sz Ex) mc ms (kA (pL S) sz)
def pI (po : Int32 → wPS → Prop) : Option Value → wPS → Prop := fun v T => ∃ r : Int32, v = some (.int r) ∧ po r T
def pR (po : Nat → wPS → Prop) : Option Value → wPS → Prop := fun v T => ∃ b : Nat, v = some (.ref b) ∧ po b T
def pU (po : wPS → Prop) : Option Value → wPS → Prop := fun v T => v = none ∧ po T
def pLo (po : Int64 → wPS → Prop) : Option Value → wPS → Prop := fun v T => ∃ r : Int64, v = some (.long r) ∧ po r T
def pFl (po : UInt32 → wPS → Prop) : Option Value → wPS → Prop := fun v T => ∃ r : UInt32, v = some (.float r) ∧ po r T
/-- the contract of a constructor: it returns -/
def kC (l : Launch) (g : kG) (e0 : Nat) (y : MethodName) (cY : ByteArray) (mY : Nat) (fr lo mc ms : Nat) (As : List Value) (S : wPS) (sz : Nat) (post : wPS → Prop) : Prop :=
  Met l y (.code y cY mY none :: wsL_law) ({ frames := fr, cells := mc, slots := ms, locals := lo }) (va_Pc As (kPre g e0 S sz)) (kQ g S sz (pU post)) mc ms (kA (pL S) sz)
theorem kD_sub {g : kG} {S : wPS} {A : Nat → Prop} {sz : Nat} (hD : va_D A (kW g S)) : va_D (kA (pL S) sz) (kW g S) := by
  refine ⟨hD.1, fun k q hk => Or.inl ?_⟩
  have h := List.mem_of_getElem? hk
  simp only [kW, va_pl, List.nil_append, List.mem_map] at h
  obtain ⟨a, ha, he⟩ := h
  rw [← he]
  exact ha
theorem kD_in {g : kG} {S : wPS} {A : Nat → Prop} (hD : va_D A (kW g S)) {a : Nat} (h : a ∈ (pL S)) : A a := by
  obtain ⟨k, hk⟩ := kW_get (g := g) h
  exact hD.2 k _ hk
theorem kP_lt {g : kG} {S : wPS} {H : Heap} (hP : va_P (kD g) vwCl (kW g S) H) {a : Nat} (h : a ∈ (pL S)) : a < H.size := va_pl_lt (X := []) hP h
theorem wsL_law_good : ∀ w ∈ wsL_law, (w.onTables && w.keeps) = true ∨ ∃ ty, w = .arrayClass ty := fun w h => good_of_word (List.all_eq_true.mp (show wsL_law.all goodWord = true by decide +kernel) w h)
theorem kGood {y : MethodName} {cY : ByteArray} {mY : Nat} {rY : Option FieldType} (h : Cond.code y cY mY rY ∈ wsL_law) : GoodIn wsL_law (.code y cY mY rY :: wsL_law) := fun w hw => (List.mem_cons.mp hw).elim (fun e => by rw [e]; exact ⟨h, wsL_law_good _ h⟩) (fun h => ⟨h, wsL_law_good _ h⟩)
section KB
variable {p : Program} {l : Launch} {e : Env} {R : Room} {s : State} {m : MethodId} {args : Array Value} {below : List Frame} {meth : Method} {c : Code} {H : Heap} {locs : List Loc} {cells slots : Nat} {Q : State → Prop} {pc : Nat} {ls : Array Slot} {st0 rest : List Value} {cc : ByteArray} {nL : Nat} {own : String} {g : kG} {S : wPS} {A : Nat → Prop} {e0 : Nat}
/-- what stands at the entry of a method's body -/
def kB (p : Program) (l : Launch) (s : State) (m : MethodId) (args : Array Value) (meth : Method) (c : Code) (ls : Array Slot) (own : String) (cc : ByteArray) (nL : Nat) (rY : Option FieldType) (g : kG) (e0 : Nat) (S : wPS) (A : Nat → Prop) (lv : List (Nat × Value)) (sz : Nat) : Prop :=
  CallFix p m c cc nL s args wsL_law own ∧ meth.sig.returnType = rY ∧ meth.locks = false ∧ (∀ x ∈ c.exceptionTable.toList, False) ∧ va_P (kD g) vwCl (kW g S) s.heap ∧ va_K (kD g) vwCl (kT g) s ∧ va_D A (kW g S) ∧ kEn g e0 A s s.heap ∧ va_S A s.heap s.heap [] ∧ (∀ q : Nat, s.heap.size ≤ q → A q) ∧ lv_has ls nL lv ∧ s.heap.size = sz
theorem kM.of {y : MethodName} {cY : ByteArray} {mY : Nat} {rY : Option FieldType} {fr lo mc ms : Nat} {As : List Value} {sz : Nat} {post : Option Value → wPS → Prop} {Ex : String → Prop} (hy : plainName y.cls = true) (hlen : (lg_sl As).length ≤ mY)
    (body : ∀ (p : Program) (e : Env) (s : State) (m : MethodId) (below : List Frame) (meth : Method) (c : Code) (ls : Array Slot), kB p l s m As.toArray meth c ls y.cls cY mY rY g e0 S (kA (pL S) sz) (lv_args 0 As) sz → (y.name = "<init>" → meth.name = "<init>") →
      W p l e ({ frames := fr, cells := mc, slots := ms, locals := lo }) s m As.toArray below meth c s.heap [] 0 0 (vx_MQ below (kQ g S sz post) (kX g S sz Ex) As.toArray s mc ms (kA (pL S) sz)) (F0 m 0 ls [])) : kM l g e0 y cY mY rY fr lo mc ms As S sz post Ex := by
  refine vx_ofW (cc := cY) (maxL := mY) (ret := rY) hy rfl ?_
  intro p e s m args below meth c s₁ B hml hte hv
  obtain ⟨rfl, hsz, hP, hK, hD, hE⟩ := hv
  have hts := atoms_spec (ws := .code y cY mY rY :: wsL_law) B.pre
  have hl := lv_entry As hlen
  rw [lg_entry_eq]
  generalize (lg_sl As ++ List.replicate (mY - (lg_sl As).length) Slot.unset).toArray = ls at hl ⊢
  exact body p e s m below meth c ls ⟨⟨B.exec, B.bytes, hml, findClass_of_methodNamed B.named, fun w h => hts w (List.mem_cons_of_mem _ h)⟩, B.returns, B.notSynchronized, hte, hP, hK, hD, hE, va_S.rf, fun q h => Or.inr (by rw [← hsz]; exact h), hl, hsz⟩ (fun h => by rw [← h]; exact (name_of_methodNamed B.named B.method).1)
theorem kC.of {y : MethodName} {cY : ByteArray} {mY : Nat} {fr lo mc ms : Nat} {As : List Value} {sz : Nat} {post : wPS → Prop} (hy : plainName y.cls = true) (hlen : (lg_sl As).length ≤ mY) (hin : y.name = "<init>")
    (body : ∀ (p : Program) (e : Env) (s : State) (m : MethodId) (below : List Frame) (meth : Method) (c : Code) (ls : Array Slot), kB p l s m As.toArray meth c ls y.cls cY mY none g e0 S (kA (pL S) sz) (lv_args 0 As) sz → meth.name = "<init>" →
      W p l e ({ frames := fr, cells := mc, slots := ms, locals := lo }) s m As.toArray below meth c s.heap [] 0 0 (MQ below (kQ g S sz (pU post)) As.toArray s mc ms (kA (pL S) sz)) (F0 m 0 ls [])) : kC l g e0 y cY mY fr lo mc ms As S sz post := by
  refine Met.ofW (cc := cY) (maxL := mY) (ret := none) hy rfl ?_
  intro p e s m args below meth c s₁ B hml hv
  obtain ⟨rfl, hsz, hP, hK, hD, hE⟩ := hv
  have hts := atoms_spec (ws := .code y cY mY none :: wsL_law) B.pre
  have hte : ∀ x ∈ c.exceptionTable.toList, False := by
    obtain ⟨meth9, c9, h1, h2, -, -, -, -, h7, -⟩ := Cond.code_spec B.named (hts _ List.mem_cons_self)
    cases Option.some.inj (h1.symm.trans B.method)
    cases Option.some.inj (h2.symm.trans (Stand.of_body B).code)
    intro x hx
    rw [Array.isEmpty_iff.mp h7] at hx
    cases hx
  have hl := lv_entry As hlen
  rw [lg_entry_eq]
  generalize (lg_sl As ++ List.replicate (mY - (lg_sl As).length) Slot.unset).toArray = ls at hl ⊢
  exact body p e s m below meth c ls ⟨⟨B.exec, B.bytes, hml, findClass_of_methodNamed B.named, fun w h => hts w (List.mem_cons_of_mem _ h)⟩, B.returns, B.notSynchronized, hte, hP, hK, hD, hE, va_S.rf, fun q h => Or.inr (by rw [← hsz]; exact h), hl, hsz⟩ ((name_of_methodNamed B.named B.method).1.trans hin)
/-- what a call needs of the world here -/
theorem kPre.at (hE : kEn g e0 A s s.heap) (hK : va_K (kD g) vwCl (kT g) s) (hP : va_P (kD g) vwCl (kW g S) H) (hD : va_D A (kW g S)) (hS : va_S A s.heap H locs) (hA : ∀ q : Nat, s.heap.size ≤ q → A q) {U : State} (hU : U.heap = H) (hW : s.WarmedH U.vm) : kPre g e0 S H.size U := by
  refine ⟨by rw [hU], by rw [hU]; exact hP, hK.moved hW.alike, kD_sub hD, ?_⟩
  rw [hU]
  exact kEn.moved hW hS.2.1 (fun q hq => hq.elim (fun h => kD_in hD h) (fun h => hA q (Nat.le_trans hS.1 h))) hE
theorem kPre.blind {As : List Value} {sz : Nat} : FrameBlind (va_Pc As (kPre g e0 S sz)) := fun a U gf mk q => by
  obtain ⟨h0, h1, h2, h3, h4, h5⟩ := q
  exact ⟨h0, h1, h2, va_K.moved (u := U) (U := U.calling gf mk a) (Vm.Alike.refl U.vm) h3, h4, kEn.same (u := U) (U := U.calling gf mk a) rfl h5⟩
/-- behind a call: it returned, or it threw -/
theorem kcall {mc ms : Nat} {sz : Nat} {a : Array Value} {post : Option Value → wPS → Prop} {Ex : String → Prop}
    (hr : vx_Run p l e R s m args below meth c H locs cells slots mc ms (F0 m pc ls st0) rest (kQ g S sz post a) (kX g S sz Ex) (kA (pL S) sz)) (hsz : H.size = sz) (hD : va_D A (kW g S)) (hS : va_S A s.heap H locs) (hA : ∀ q : Nat, s.heap.size ≤ q → A q)
    (kx : ∀ (E : String) (ce : Cell) (q9 : Addr) (H1 : Heap) (locs1 : List Loc), Ex E → va_P (kD g) vwCl (kW g S) H1 → H.size ≤ H1.size → (∀ q : Nat, q < H.size → ¬ kA (pL S) H.size q → H1[q]? = H[q]?) → va_S A s.heap H1 locs1 → H1[q9]? = some ce → ce.vm = .none → s.vm.findClass E = some ce.cls → vx_W p l e R s m args below meth c H1 locs1 (cells + mc) (slots + ms) Q (F0 m pc ls rest) q9)
    (kk : ∀ (v : Option Value) (S1 : wPS) (H1 : Heap) (locs1 : List Loc), post v S1 → va_P (kD g) vwCl (kW g S1) H1 → va_D A (kW g S1) → H.size ≤ H1.size → (∀ q : Nat, q < H.size → ¬ kA (pL S) H.size q → H1[q]? = H[q]?) → va_S A s.heap H1 locs1 → W p l e R s m args below meth c H1 locs1 (cells + mc) (slots + ms) Q (F0 m (pc + 3) ls (v.toList ++ rest))) :
    W p l e R s m args below meth c H locs cells slots Q (F0 m pc ls st0) := by
  subst hsz
  have hsub : ∀ q, kA (pL S) H.size q → A q := fun q hq => hq.elim (fun h => kD_in hD h) (fun h => hA q (Nat.le_trans hS.1 h))
  intro T hT X
  rcases hr T hT X with ⟨v, st₀, t, T', L, h0, X', hL, e1, e2, ⟨⟨v1, S1, hv, hp, hP1, hD1⟩, hF⟩, st⟩ | ⟨q, st₀, t, T', L, E, ce, h0, X', hL, e1, e2, ⟨hex, hP1, hF⟩, hce, hcv, hcl, st⟩
  · cases hv
    obtain ⟨k1, k2, k3⟩ := vx_keep h0 e1 hS (fun q _ h => hsub q h) hsub hL hF
    obtain ⟨t2, a1, b1⟩ := kk v S1 T'.heap (locs ++ L) hp (by rw [e1]; exact hP1) (hD1.weaken fun _ _ _ h => hsub _ h) k1 k2 k3 T' rfl X'
    exact ⟨t2, st t2 a1, b1⟩
  · obtain ⟨k1, k2, k3⟩ := vx_keep h0 e1 hS (fun q _ h => hsub q h) hsub hL hF
    obtain ⟨t2, a1, b1⟩ := kx E ce q T'.heap (locs ++ L) hex (by rw [e1]; exact hP1) k1 k2 k3 (by rw [e1]; exact hce) hcv hcl T' rfl X'
    exact ⟨t2, st.trans a1, b1⟩
theorem kcallI {mc ms sz : Nat} {a : Array Value} {po : Int32 → wPS → Prop} {Ex : String → Prop}
    (hr : vx_Run p l e R s m args below meth c H locs cells slots mc ms (F0 m pc ls st0) rest (kQ g S sz (pI po) a) (kX g S sz Ex) (kA (pL S) sz)) (hsz : H.size = sz) (hD : va_D A (kW g S)) (hS : va_S A s.heap H locs) (hA : ∀ q : Nat, s.heap.size ≤ q → A q)
    (kx : ∀ (E : String) (ce : Cell) (q9 : Addr) (H1 : Heap) (locs1 : List Loc), Ex E → va_P (kD g) vwCl (kW g S) H1 → va_S A s.heap H1 locs1 → H1[q9]? = some ce → ce.vm = .none → s.vm.findClass E = some ce.cls → vx_W p l e R s m args below meth c H1 locs1 (cells + mc) (slots + ms) Q (F0 m pc ls rest) q9)
    (kk : ∀ (r : Int32) (S1 : wPS) (H1 : Heap) (locs1 : List Loc), po r S1 → va_P (kD g) vwCl (kW g S1) H1 → va_D A (kW g S1) → va_S A s.heap H1 locs1 → W p l e R s m args below meth c H1 locs1 (cells + mc) (slots + ms) Q (F0 m (pc + 3) ls (.int r :: rest))) :
    W p l e R s m args below meth c H locs cells slots Q (F0 m pc ls st0) :=
  kcall hr hsz hD hS hA (fun E ce q9 H1 locs1 h1 h2 _ _ h5 h6 h7 h8 => kx E ce q9 H1 locs1 h1 h2 h5 h6 h7 h8) (fun v S1 H1 locs1 hp h2 h3 _ _ h6 => by
    obtain ⟨r, rfl, hp⟩ := hp
    exact kk r S1 H1 locs1 hp h2 h3 h6)
theorem kcallR {mc ms sz : Nat} {a : Array Value} {po : Nat → wPS → Prop} {Ex : String → Prop}
    (hr : vx_Run p l e R s m args below meth c H locs cells slots mc ms (F0 m pc ls st0) rest (kQ g S sz (pR po) a) (kX g S sz Ex) (kA (pL S) sz)) (hsz : H.size = sz) (hD : va_D A (kW g S)) (hS : va_S A s.heap H locs) (hA : ∀ q : Nat, s.heap.size ≤ q → A q)
    (kx : ∀ (E : String) (ce : Cell) (q9 : Addr) (H1 : Heap) (locs1 : List Loc), Ex E → va_P (kD g) vwCl (kW g S) H1 → va_S A s.heap H1 locs1 → H1[q9]? = some ce → ce.vm = .none → s.vm.findClass E = some ce.cls → vx_W p l e R s m args below meth c H1 locs1 (cells + mc) (slots + ms) Q (F0 m pc ls rest) q9)
    (kk : ∀ (b : Nat) (S1 : wPS) (H1 : Heap) (locs1 : List Loc), po b S1 → va_P (kD g) vwCl (kW g S1) H1 → va_D A (kW g S1) → va_S A s.heap H1 locs1 → W p l e R s m args below meth c H1 locs1 (cells + mc) (slots + ms) Q (F0 m (pc + 3) ls (.ref b :: rest))) :
    W p l e R s m args below meth c H locs cells slots Q (F0 m pc ls st0) :=
  kcall hr hsz hD hS hA (fun E ce q9 H1 locs1 h1 h2 _ _ h5 h6 h7 h8 => kx E ce q9 H1 locs1 h1 h2 h5 h6 h7 h8) (fun v S1 H1 locs1 hp h2 h3 _ _ h6 => by
    obtain ⟨b, rfl, hp⟩ := hp
    exact kk b S1 H1 locs1 hp h2 h3 h6)
theorem kcallU {mc ms sz : Nat} {a : Array Value} {po : wPS → Prop} {Ex : String → Prop}
    (hr : vx_Run p l e R s m args below meth c H locs cells slots mc ms (F0 m pc ls st0) rest (kQ g S sz (pU po) a) (kX g S sz Ex) (kA (pL S) sz)) (hsz : H.size = sz) (hD : va_D A (kW g S)) (hS : va_S A s.heap H locs) (hA : ∀ q : Nat, s.heap.size ≤ q → A q)
    (kx : ∀ (E : String) (ce : Cell) (q9 : Addr) (H1 : Heap) (locs1 : List Loc), Ex E → va_P (kD g) vwCl (kW g S) H1 → va_S A s.heap H1 locs1 → H1[q9]? = some ce → ce.vm = .none → s.vm.findClass E = some ce.cls → vx_W p l e R s m args below meth c H1 locs1 (cells + mc) (slots + ms) Q (F0 m pc ls rest) q9)
    (kk : ∀ (S1 : wPS) (H1 : Heap) (locs1 : List Loc), po S1 → va_P (kD g) vwCl (kW g S1) H1 → va_D A (kW g S1) → va_S A s.heap H1 locs1 → W p l e R s m args below meth c H1 locs1 (cells + mc) (slots + ms) Q (F0 m (pc + 3) ls (rest))) :
    W p l e R s m args below meth c H locs cells slots Q (F0 m pc ls st0) :=
  kcall hr hsz hD hS hA (fun E ce q9 H1 locs1 h1 h2 _ _ h5 h6 h7 h8 => kx E ce q9 H1 locs1 h1 h2 h5 h6 h7 h8) (fun v S1 H1 locs1 hp h2 h3 _ _ h6 => by
    obtain ⟨rfl, hp⟩ := hp
    exact kk S1 H1 locs1 hp h2 h3 h6)
theorem kcallL {mc ms sz : Nat} {a : Array Value} {po : Int64 → wPS → Prop} {Ex : String → Prop}
    (hr : vx_Run p l e R s m args below meth c H locs cells slots mc ms (F0 m pc ls st0) rest (kQ g S sz (pLo po) a) (kX g S sz Ex) (kA (pL S) sz)) (hsz : H.size = sz) (hD : va_D A (kW g S)) (hS : va_S A s.heap H locs) (hA : ∀ q : Nat, s.heap.size ≤ q → A q)
    (kx : ∀ (E : String) (ce : Cell) (q9 : Addr) (H1 : Heap) (locs1 : List Loc), Ex E → va_P (kD g) vwCl (kW g S) H1 → va_S A s.heap H1 locs1 → H1[q9]? = some ce → ce.vm = .none → s.vm.findClass E = some ce.cls → vx_W p l e R s m args below meth c H1 locs1 (cells + mc) (slots + ms) Q (F0 m pc ls rest) q9)
    (kk : ∀ (r : Int64) (S1 : wPS) (H1 : Heap) (locs1 : List Loc), po r S1 → va_P (kD g) vwCl (kW g S1) H1 → va_D A (kW g S1) → va_S A s.heap H1 locs1 → W p l e R s m args below meth c H1 locs1 (cells + mc) (slots + ms) Q (F0 m (pc + 3) ls (.long r :: rest))) :
    W p l e R s m args below meth c H locs cells slots Q (F0 m pc ls st0) :=
  kcall hr hsz hD hS hA (fun E ce q9 H1 locs1 h1 h2 _ _ h5 h6 h7 h8 => kx E ce q9 H1 locs1 h1 h2 h5 h6 h7 h8) (fun v S1 H1 locs1 hp h2 h3 _ _ h6 => by
    obtain ⟨r, rfl, hp⟩ := hp
    exact kk r S1 H1 locs1 hp h2 h3 h6)
theorem kcallF {mc ms sz : Nat} {a : Array Value} {po : UInt32 → wPS → Prop} {Ex : String → Prop}
    (hr : vx_Run p l e R s m args below meth c H locs cells slots mc ms (F0 m pc ls st0) rest (kQ g S sz (pFl po) a) (kX g S sz Ex) (kA (pL S) sz)) (hsz : H.size = sz) (hD : va_D A (kW g S)) (hS : va_S A s.heap H locs) (hA : ∀ q : Nat, s.heap.size ≤ q → A q)
    (kx : ∀ (E : String) (ce : Cell) (q9 : Addr) (H1 : Heap) (locs1 : List Loc), Ex E → va_P (kD g) vwCl (kW g S) H1 → va_S A s.heap H1 locs1 → H1[q9]? = some ce → ce.vm = .none → s.vm.findClass E = some ce.cls → vx_W p l e R s m args below meth c H1 locs1 (cells + mc) (slots + ms) Q (F0 m pc ls rest) q9)
    (kk : ∀ (r : UInt32) (S1 : wPS) (H1 : Heap) (locs1 : List Loc), po r S1 → va_P (kD g) vwCl (kW g S1) H1 → va_D A (kW g S1) → va_S A s.heap H1 locs1 → W p l e R s m args below meth c H1 locs1 (cells + mc) (slots + ms) Q (F0 m (pc + 3) ls (.float r :: rest))) :
    W p l e R s m args below meth c H locs cells slots Q (F0 m pc ls st0) :=
  kcall hr hsz hD hS hA (fun E ce q9 H1 locs1 h1 h2 _ _ h5 h6 h7 h8 => kx E ce q9 H1 locs1 h1 h2 h5 h6 h7 h8) (fun v S1 H1 locs1 hp h2 h3 _ _ h6 => by
    obtain ⟨r, rfl, hp⟩ := hp
    exact kk r S1 H1 locs1 hp h2 h3 h6)
section Calls
variable {y : MethodName} {cY : ByteArray} {mY : Nat} {rY : Option FieldType} {fr lo mc ms : Nat} {As : List Value} {post : Option Value → wPS → Prop} {Ex : String → Prop} {b : Nat} {C : String} {index n : Nat}
/-- invokevirtual: the run -/
theorem kV (F : CallFix p m c cc nL s args wsL_law own) (hE : kEn g e0 A s s.heap) (hK : va_K (kD g) vwCl (kT g) s) (hP : va_P (kD g) vwCl (kW g S) H) (hD : va_D A (kW g S)) (hS : va_S A s.heap H locs) (hA : ∀ q : Nat, s.heap.size ≤ q → A q)
    (hM : kM l g e0 y cY mY rY fr lo mc ms (.ref b :: As) S H.size post Ex) (hr : ∃ cell : Cell, H[b]? = some cell ∧ cell.vm.isStatics = false ∧ s.vm.findClass C = some cell.cls)
    (w1 : Cond.methodLink own index y ∈ wsL_law) (w2 : Cond.instanceMethod y ∈ wsL_law) (w3 : Cond.selects C y y ∈ wsL_law) (w4 : Cond.initialized C ∈ wsL_law) (w5 : Cond.code y cY mY rY ∈ wsL_law)
    (hd : y.cls = C ∧ y.cls ≠ "java/lang/invoke/MethodHandle" ∧ y.cls ≠ "java/lang/invoke/VarHandle" ∧ (parseMethodDescriptor y.desc).map (fun d => d.parameters.length) = some n)
    (hR : fr + 1 ≤ R.frames ∧ 8 + (mY + 11) + lo ≤ R.locals) (hn : As.length = n) (hls : ls.size = nL) (hst : st0 = As.reverse ++ .ref b :: rest) (hcat : (rest.map fun v => v.category).sum ≤ 8) (hdg : decode cc pc = .ok (.invokevirtual index, 3)) (hf : cells + mc ≤ R.cells ∧ slots + ms ≤ R.slots) :
    vx_Run p l e R s m args below meth c H locs cells slots mc ms (F0 m pc ls st0) rest (kQ g S H.size post (Value.ref b :: As).toArray) (kX g S H.size Ex) (kA (pL S) H.size) :=
  vx_runV (As := As) (rest := rest) F hM (cwV n F.2.2.2.2 (by
    intro w hw
    unfold wsV at hw
    rcases List.mem_append.mp hw with h | h
    · have : w ∈ wsL_law := by
        simp only [List.mem_cons, List.not_mem_nil, or_false] at h
        rcases h with h | h | h | h <;> rw [h] <;> assumption
      exact ⟨this, wsL_law_good _ this⟩
    · exact kGood w5 w h) rfl rfl rfl hd hR) ⟨kPre.blind, hr, fun U hU hW => ⟨rfl, kPre.at hE hK hP hD hS hA hU hW⟩⟩ rfl hn hls hst (lv_room hcat) hdg hf
/-- invokestatic: the run -/
theorem kSt (F : CallFix p m c cc nL s args wsL_law own) (hE : kEn g e0 A s s.heap) (hK : va_K (kD g) vwCl (kT g) s) (hP : va_P (kD g) vwCl (kW g S) H) (hD : va_D A (kW g S)) (hS : va_S A s.heap H locs) (hA : ∀ q : Nat, s.heap.size ≤ q → A q)
    (hM : kM l g e0 y cY mY rY fr lo mc ms As S H.size post Ex)
    (w1 : Cond.methodLink own index y ∈ wsL_law) (w2 : Cond.static y ∈ wsL_law) (w4 : Cond.initialized y.cls ∈ wsL_law) (w5 : Cond.code y cY mY rY ∈ wsL_law)
    (hd : y.cls ≠ "java/lang/invoke/MethodHandle" ∧ y.cls ≠ "java/lang/invoke/VarHandle" ∧ (parseMethodDescriptor y.desc).map (fun d => d.parameters.length) = some n)
    (hR : fr + 1 ≤ R.frames ∧ 8 + (mY + 11) + lo ≤ R.locals) (hn : As.length = n) (hls : ls.size = nL) (hst : st0 = As.reverse ++ rest) (hcat : (rest.map fun v => v.category).sum ≤ 8) (hdg : decode cc pc = .ok (.invokestatic index, 3)) (hf : cells + mc ≤ R.cells ∧ slots + ms ≤ R.slots) :
    vx_Run p l e R s m args below meth c H locs cells slots mc ms (F0 m pc ls st0) rest (kQ g S H.size post As.toArray) (kX g S H.size Ex) (kA (pL S) H.size) :=
  vx_runS (As := As) (rest := rest) F hM ⟨callB_of n F.2.2.2.2 (kGood w5) rfl rfl rfl (F.2.2.2.2 _ w4) (F.2.2.2.2 _ w1) hd hR, F.2.2.2.2 _ w2⟩ ⟨kPre.blind, fun U hU hW => ⟨rfl, kPre.at hE hK hP hD hS hA hU hW⟩⟩ rfl hn hls hst (lv_room hcat) hdg hf
/-- invokespecial <init>: the run -/
theorem kIn {postC : wPS → Prop} (F : CallFix p m c cc nL s args wsL_law own) (hE : kEn g e0 A s s.heap) (hK : va_K (kD g) vwCl (kT g) s) (hP : va_P (kD g) vwCl (kW g S) H) (hD : va_D A (kW g S)) (hS : va_S A s.heap H locs) (hA : ∀ q : Nat, s.heap.size ≤ q → A q)
    (hM : kC l g e0 y cY mY fr lo mc ms (.ref b :: As) S H.size postC)
    (w1 : Cond.methodLink own index y ∈ wsL_law) (w2 : Cond.instanceMethod y ∈ wsL_law) (w4 : Cond.initialized y.cls ∈ wsL_law) (w5 : Cond.code y cY mY none ∈ wsL_law) (hy1 : y.name = "<init>")
    (hd : y.cls ≠ "java/lang/invoke/MethodHandle" ∧ y.cls ≠ "java/lang/invoke/VarHandle" ∧ (parseMethodDescriptor y.desc).map (fun d => d.parameters.length) = some n)
    (hR : fr + 1 ≤ R.frames ∧ 8 + (mY + 11) + lo ≤ R.locals) (hn : As.length = n) (hls : ls.size = nL) (hst : st0 = As.reverse ++ .ref b :: rest) (hcat : (rest.map fun v => v.category).sum ≤ 8) (hdg : decode cc pc = .ok (.invokespecial index, 3)) (hf : cells + mc ≤ R.cells ∧ slots + ms ≤ R.slots) :
    vx_Run p l e R s m args below meth c H locs cells slots mc ms (F0 m pc ls st0) rest (kQ g S H.size (pU postC) (Value.ref b :: As).toArray) (kX g S H.size (fun _ => False)) (kA (pL S) H.size) :=
  fun T hT X => Or.inl (va_runI (As := As) (rest := rest) F hM ⟨callB_of n F.2.2.2.2 (kGood w5) rfl rfl rfl (F.2.2.2.2 _ w4) (F.2.2.2.2 _ w1) hd hR, hy1, F.2.2.2.2 _ w2⟩ ⟨kPre.blind, fun U hU hW => ⟨rfl, kPre.at hE hK hP hD hS hA hU hW⟩⟩ rfl hn hls hst (lv_room hcat) hdg hf T hT X)
/-- .. of a private constructor of a nest mate -/
theorem kInN {host : String} {postC : wPS → Prop} (F : CallFix p m c cc nL s args wsL_law own) (hE : kEn g e0 A s s.heap) (hK : va_K (kD g) vwCl (kT g) s) (hP : va_P (kD g) vwCl (kW g S) H) (hD : va_D A (kW g S)) (hS : va_S A s.heap H locs) (hA : ∀ q : Nat, s.heap.size ≤ q → A q)
    (hM : kC l g e0 y cY mY fr lo mc ms (.ref b :: As) S H.size postC)
    (w1 : va_Nw (.methodLinkNest own index y host) s) (w2 : Cond.instanceMethod y ∈ wsL_law) (w4 : Cond.initialized y.cls ∈ wsL_law) (w5 : Cond.code y cY mY none ∈ wsL_law) (hy1 : y.name = "<init>")
    (hd : y.cls ≠ "java/lang/invoke/MethodHandle" ∧ y.cls ≠ "java/lang/invoke/VarHandle" ∧ (parseMethodDescriptor y.desc).map (fun d => d.parameters.length) = some n)
    (hR : fr + 1 ≤ R.frames ∧ 8 + (mY + 11) + lo ≤ R.locals) (hn : As.length = n) (hls : ls.size = nL) (hst : st0 = As.reverse ++ .ref b :: rest) (hcat : (rest.map fun v => v.category).sum ≤ 8) (hdg : decode cc pc = .ok (.invokespecial index, 3)) (hf : cells + mc ≤ R.cells ∧ slots + ms ≤ R.slots) :
    vx_Run p l e R s m args below meth c H locs cells slots mc ms (F0 m pc ls st0) rest (kQ g S H.size (pU postC) (Value.ref b :: As).toArray) (kX g S H.size (fun _ => False)) (kA (pL S) H.size) :=
  fun T hT X => Or.inl (va_runIN (As := As) (rest := rest) F hM ⟨va_cnB n F.2.2.2.2 (kGood w5) rfl rfl rfl w1 (F.2.2.2.2 _ w4) hd hR, hy1, F.2.2.2.2 _ w2⟩ ⟨kPre.blind, fun U hU hW => ⟨rfl, kPre.at hE hK hP hD hS hA hU hW⟩⟩ rfl hn hls hst (lv_room hcat) hdg hf T hT X)
end Calls
/-- an exception goes through: the pool is as it was at the start -/
theorem kthru {S0 : wPS} {sz0 mc0 ms0 : Nat} {post0 : Option Value → wPS → Prop} {Ex0 : String → Prop} {E : String} {ce : Cell} {q9 : Addr} (hte : ∀ x ∈ c.exceptionTable.toList, False) (hlk : meth.locks = false) (hex : Ex0 E) (hP : va_P (kD g) vwCl (kW g S0) H) (hS : va_S (kA (pL S0) sz0) s.heap H locs) (hce : H[q9]? = some ce) (hcv : ce.vm = .none) (hcl : s.vm.findClass E = some ce.cls) (hc : cells ≤ mc0) (hs : slots ≤ ms0) :
    vx_W p l e R s m args below meth c H locs cells slots (vx_MQ below (kQ g S0 sz0 post0) (kX g S0 sz0 Ex0) args s mc0 ms0 (kA (pL S0) sz0)) (F0 m pc ls rest) q9 :=
  vx_out (fun x hx => (hte x hx).elim) hlk hce hcv hcl (fun t ht _ => ⟨hex, by rw [ht]; exact hP, hS.F ht⟩) hS.2.2 hc hs
section Ends
variable {S0 : wPS} {sz0 mc0 ms0 : Nat} {post0 : Option Value → wPS → Prop} {Ex0 : String → Prop}
theorem kEndI {v : Int32} (F : CallFix p m c cc nL s args wsL_law own) {ty : FieldType} (hr : meth.sig.returnType = some ty) (hn : narrow ty (.int v) = .int v) (hlk : meth.locks = false) (hP : va_P (kD g) vwCl (kW g S) H) (hD : va_D (kA (pL S0) sz0) (kW g S)) (hS : va_S (kA (pL S0) sz0) s.heap H locs) (hc : cells ≤ mc0) (hs : slots ≤ ms0) (hdg : decode cc pc = .ok (.ireturn, 1)) (hp : post0 (some (.int v)) S) :
    W p l e R s m args below meth c H locs cells slots (vx_MQ below (kQ g S0 sz0 post0) (kX g S0 sz0 Ex0) args s mc0 ms0 (kA (pL S0) sz0)) (F0 m pc ls [.int v]) :=
  W.widen hc hs (vx_ret (W.zret F.1 F.2.1 hr hn (fun t ht _ => ⟨⟨_, S, rfl, hp, by rw [ht]; exact hP, hD⟩, hS.F ht⟩) hS.2.2 hdg hlk))
theorem kEndV (F : CallFix p m c cc nL s args wsL_law own) (hr : meth.sig.returnType = none) (hlk : meth.locks = false) (hP : va_P (kD g) vwCl (kW g S) H) (hD : va_D (kA (pL S0) sz0) (kW g S)) (hS : va_S (kA (pL S0) sz0) s.heap H locs) (hc : cells ≤ mc0) (hs : slots ≤ ms0) (hdg : decode cc pc = .ok (.return_, 1)) (hp : post0 none S) :
    W p l e R s m args below meth c H locs cells slots (vx_MQ below (kQ g S0 sz0 post0) (kX g S0 sz0 Ex0) args s mc0 ms0 (kA (pL S0) sz0)) (F0 m pc ls []) :=
  W.widen hc hs (vx_ret (W.vret F.1 F.2.1 hr (fun t ht _ => ⟨⟨_, S, rfl, hp, by rw [ht]; exact hP, hD⟩, hS.F ht⟩) hS.2.2 hdg hlk))
theorem kEndR {v : Value} {rt : FieldType} (F : CallFix p m c cc nL s args wsL_law own) (hr : meth.sig.returnType = some rt) (hrt : (∃ n, rt = .object n) ∨ ∃ t, rt = .array t) (hv : v = .null ∨ ∃ a, v = .ref a) (hlk : meth.locks = false) (hP : va_P (kD g) vwCl (kW g S) H) (hD : va_D (kA (pL S0) sz0) (kW g S)) (hS : va_S (kA (pL S0) sz0) s.heap H locs) (hc : cells ≤ mc0) (hs : slots ≤ ms0) (hdg : decode cc pc = .ok (.areturn, 1)) (hp : post0 (some v) S) :
    W p l e R s m args below meth c H locs cells slots (vx_MQ below (kQ g S0 sz0 post0) (kX g S0 sz0 Ex0) args s mc0 ms0 (kA (pL S0) sz0)) (F0 m pc ls [v]) :=
  W.widen hc hs (vx_ret (W.aret F.1 F.2.1 hr hrt hv (fun t ht _ => ⟨⟨_, S, rfl, hp, by rw [ht]; exact hP, hD⟩, hS.F ht⟩) hS.2.2 hdg hlk))
theorem kEndL {v : Int64} (F : CallFix p m c cc nL s args wsL_law own) (hr : meth.sig.returnType = some .long) (hlk : meth.locks = false) (hP : va_P (kD g) vwCl (kW g S) H) (hD : va_D (kA (pL S0) sz0) (kW g S)) (hS : va_S (kA (pL S0) sz0) s.heap H locs) (hc : cells ≤ mc0) (hs : slots ≤ ms0) (hdg : decode cc pc = .ok (.lreturn, 1)) (hp : post0 (some (.long v)) S) :
    W p l e R s m args below meth c H locs cells slots (vx_MQ below (kQ g S0 sz0 post0) (kX g S0 sz0 Ex0) args s mc0 ms0 (kA (pL S0) sz0)) (F0 m pc ls [.long v]) :=
  W.widen hc hs (vx_ret (W.lret F.1 F.2.1 hr (fun t ht _ => ⟨⟨_, S, rfl, hp, by rw [ht]; exact hP, hD⟩, hS.F ht⟩) hS.2.2 hdg hlk))
theorem kEndF {v : UInt32} (F : CallFix p m c cc nL s args wsL_law own) (hr : meth.sig.returnType = some .float) (hlk : meth.locks = false) (hP : va_P (kD g) vwCl (kW g S) H) (hD : va_D (kA (pL S0) sz0) (kW g S)) (hS : va_S (kA (pL S0) sz0) s.heap H locs) (hc : cells ≤ mc0) (hs : slots ≤ ms0) (hdg : decode cc pc = .ok (.freturn, 1)) (hp : post0 (some (.float v)) S) :
    W p l e R s m args below meth c H locs cells slots (vx_MQ below (kQ g S0 sz0 post0) (kX g S0 sz0 Ex0) args s mc0 ms0 (kA (pL S0) sz0)) (F0 m pc ls [.float v]) :=
  W.widen hc hs (vx_ret (W.fret F.1 F.2.1 hr (fun t ht _ => ⟨⟨_, S, rfl, hp, by rw [ht]; exact hP, hD⟩, hS.F ht⟩) hS.2.2 hdg hlk))
theorem kEndC {post1 : wPS → Prop} (F : CallFix p m c cc nL s args wsL_law own) (hr : meth.sig.returnType = none) (hlk : meth.locks = false) (hP : va_P (kD g) vwCl (kW g S) H) (hD : va_D (kA (pL S0) sz0) (kW g S)) (hS : va_S (kA (pL S0) sz0) s.heap H locs) (hc : cells ≤ mc0) (hs : slots ≤ ms0) (hdg : decode cc pc = .ok (.return_, 1)) (hp : post1 S) :
    W p l e R s m args below meth c H locs cells slots (MQ below (kQ g S0 sz0 (pU post1)) args s mc0 ms0 (kA (pL S0) sz0)) (F0 m pc ls []) :=
  W.widen hc hs (W.vret F.1 F.2.1 hr (fun t ht _ => ⟨⟨_, S, rfl, ⟨rfl, hp⟩, by rw [ht]; exact hP, hD⟩, hS.F ht⟩) hS.2.2 hdg hlk)
end Ends
end KB
section KT
variable {p : Program} {l : Launch} {e : Env} {R : Room} {s : State} {m : MethodId} {args : Array Value} {below : List Frame} {meth : Method} {c : Code} {H : Heap} {locs : List Loc} {cells slots : Nat} {pc : Nat} {ls : Array Slot} {rest : List Value} {cc : ByteArray} {nL : Nat} {g : kG} {S : wPS} {e0 : Nat}
variable {S0 : wPS} {sz0 mc0 ms0 : Nat} {post0 : Option Value → wPS → Prop} {Ex0 : String → Prop}
/-- throw new java/lang/IllegalArgumentException(text) -/
theorem kth_IAE (hl0 : l.stackTraces = false) (F : CallFix p m c cc nL s args wsL_law RX5) (hE : kEn g e0 (kA (pL S0) sz0) s s.heap) (hlk : meth.locks = false) (hte : ∀ x ∈ c.exceptionTable.toList, False) (hP : va_P (kD g) vwCl (kW g S0) H) (hS : va_S (kA (pL S0) sz0) s.heap H locs) (hls : ls.size = nL) {is : Nat} {tx : String} (htx : (is, tx) ∈ k_texts)
    (d0 : decode cc pc = .ok (.new 50, 3)) (d3 : decode cc (pc + 3) = .ok (.dup, 1)) (d4 : decode cc (pc + 4) = .ok (.ldc is, 2)) (d6 : decode cc (pc + 6) = .ok (.invokespecial 54, 3)) (d9 : decode cc (pc + 9) = .ok (.athrow, 1))
    (hR : 6 ≤ R.frames ∧ (rest.map fun v => v.category).sum + 82 ≤ R.locals ∧ cells + 1 ≤ R.cells ∧ slots + 6 ≤ R.slots) (hc : cells + 1 ≤ mc0) (hs : slots + 6 ≤ ms0) (hex : Ex0 "java/lang/IllegalArgumentException") :
    W p l e R s m args below meth c H locs cells slots (vx_MQ below (kQ g S0 sz0 post0) (kX g S0 sz0 Ex0) args s mc0 ms0 (kA (pL S0) sz0)) (F0 m pc ls rest) := by
  obtain ⟨hx, hb, hml, hown, hts⟩ := F
  obtain ⟨-, -, hU, hN, hV⟩ := hE
  obtain ⟨sa, hR1⟩ := hV.1 _ htx
  obtain ⟨b1, b2, b3, b4⟩ := hV.2.2.2.2.2.2.2.2.2
  have hat : ∀ w ∈ vx_atS RX5 54 "java/lang/IllegalArgumentException" ["java/lang/RuntimeException", "java/lang/Exception"], w.before args s = true := vx_hat (fun w h => hts w (kxl_IAE w h)) kxb_IAE (vx_c (va_any rfl b1) (vx_c (va_any rfl b2) (vx_c (va_any rfl b3) (vx_c (va_any rfl (b4 _ (List.mem_of_getElem? (i := 0) rfl))) vx_n))))
  exact vx_throwS (names := ["java/lang/RuntimeException", "java/lang/Exception"]) hx hb hl0 hown (by decide) (by decide) (hts _ kw_95) (hts _ kw_96) hR1 hat kxg_IAE hU hN hS (hls.trans hml.symm) d0 d3 d4 d6 d9 (fun x h => (hte x h).elim) (by have h := hR.1; simp; omega) (by have h := hR.2.1; simp only [List.length_cons, List.length_nil]; omega) hR.2.2.1 hR.2.2.2 hlk (fun t _ hz hk => ⟨hex, hP.kept (fun k q hq => hk q.1 ((hP k q hq).lt)), ⟨Nat.le_trans hS.1 hz, fun q h1 h2 => (hk q (Nat.lt_of_lt_of_le h1 hS.1)).trans (hS.2.1 q h1 h2)⟩⟩) hS.2.2 hc hs
/-- throw new java/lang/IllegalArgumentException(text) -/
theorem kth_IAEW (hl0 : l.stackTraces = false) (F : CallFix p m c cc nL s args wsL_law RX5) (hE : kEn g e0 (kA (pL S0) sz0) s s.heap) (hlk : meth.locks = false) (hte : ∀ x ∈ c.exceptionTable.toList, False) (hP : va_P (kD g) vwCl (kW g S0) H) (hS : va_S (kA (pL S0) sz0) s.heap H locs) (hls : ls.size = nL) {is : Nat} {tx : String} (htx : (is, tx) ∈ k_texts)
    (d0 : decode cc pc = .ok (.new 50, 3)) (d3 : decode cc (pc + 3) = .ok (.dup, 1)) (d4 : decode cc (pc + 4) = .ok (.ldc_w is, 3)) (d6 : decode cc (pc + 7) = .ok (.invokespecial 54, 3)) (d9 : decode cc (pc + 10) = .ok (.athrow, 1))
    (hR : 6 ≤ R.frames ∧ (rest.map fun v => v.category).sum + 82 ≤ R.locals ∧ cells + 1 ≤ R.cells ∧ slots + 6 ≤ R.slots) (hc : cells + 1 ≤ mc0) (hs : slots + 6 ≤ ms0) (hex : Ex0 "java/lang/IllegalArgumentException") :
    W p l e R s m args below meth c H locs cells slots (vx_MQ below (kQ g S0 sz0 post0) (kX g S0 sz0 Ex0) args s mc0 ms0 (kA (pL S0) sz0)) (F0 m pc ls rest) := by
  obtain ⟨hx, hb, hml, hown, hts⟩ := F
  obtain ⟨-, -, hU, hN, hV⟩ := hE
  obtain ⟨sa, hR1⟩ := hV.1 _ htx
  obtain ⟨b1, b2, b3, b4⟩ := hV.2.2.2.2.2.2.2.2.2
  have hat : ∀ w ∈ vx_atS RX5 54 "java/lang/IllegalArgumentException" ["java/lang/RuntimeException", "java/lang/Exception"], w.before args s = true := vx_hat (fun w h => hts w (kxl_IAE w h)) kxb_IAE (vx_c (va_any rfl b1) (vx_c (va_any rfl b2) (vx_c (va_any rfl b3) (vx_c (va_any rfl (b4 _ (List.mem_of_getElem? (i := 0) rfl))) vx_n))))
  exact vx_throwSW (names := ["java/lang/RuntimeException", "java/lang/Exception"]) hx hb hl0 hown (by decide) (by decide) (hts _ kw_95) (hts _ kw_96) hR1 hat kxg_IAE hU hN hS (hls.trans hml.symm) d0 d3 d4 d6 d9 (fun x h => (hte x h).elim) (by have h := hR.1; simp; omega) (by have h := hR.2.1; simp only [List.length_cons, List.length_nil]; omega) hR.2.2.1 hR.2.2.2 hlk (fun t _ hz hk => ⟨hex, hP.kept (fun k q hq => hk q.1 ((hP k q hq).lt)), ⟨Nat.le_trans hS.1 hz, fun q h1 h2 => (hk q (Nat.lt_of_lt_of_le h1 hS.1)).trans (hS.2.1 q h1 h2)⟩⟩) hS.2.2 hc hs
/-- throw new java/lang/IllegalStateException(text) -/
theorem kth_ISE (hl0 : l.stackTraces = false) (F : CallFix p m c cc nL s args wsL_law RX5) (hE : kEn g e0 (kA (pL S0) sz0) s s.heap) (hlk : meth.locks = false) (hte : ∀ x ∈ c.exceptionTable.toList, False) (hP : va_P (kD g) vwCl (kW g S0) H) (hS : va_S (kA (pL S0) sz0) s.heap H locs) (hls : ls.size = nL) {is : Nat} {tx : String} (htx : (is, tx) ∈ k_texts)
    (d0 : decode cc pc = .ok (.new 69, 3)) (d3 : decode cc (pc + 3) = .ok (.dup, 1)) (d4 : decode cc (pc + 4) = .ok (.ldc is, 2)) (d6 : decode cc (pc + 6) = .ok (.invokespecial 73, 3)) (d9 : decode cc (pc + 9) = .ok (.athrow, 1))
    (hR : 6 ≤ R.frames ∧ (rest.map fun v => v.category).sum + 82 ≤ R.locals ∧ cells + 1 ≤ R.cells ∧ slots + 6 ≤ R.slots) (hc : cells + 1 ≤ mc0) (hs : slots + 6 ≤ ms0) (hex : Ex0 "java/lang/IllegalStateException") :
    W p l e R s m args below meth c H locs cells slots (vx_MQ below (kQ g S0 sz0 post0) (kX g S0 sz0 Ex0) args s mc0 ms0 (kA (pL S0) sz0)) (F0 m pc ls rest) := by
  obtain ⟨hx, hb, hml, hown, hts⟩ := F
  obtain ⟨-, -, hU, hN, hV⟩ := hE
  obtain ⟨sa, hR1⟩ := hV.1 _ htx
  obtain ⟨b1, b2, b3, b4⟩ := hV.2.2.2.2.2.2.2.2.2
  have hat : ∀ w ∈ vx_atS RX5 73 "java/lang/IllegalStateException" ["java/lang/RuntimeException", "java/lang/Exception"], w.before args s = true := vx_hat (fun w h => hts w (kxl_ISE w h)) kxb_ISE (vx_c (va_any rfl b1) (vx_c (va_any rfl b2) (vx_c (va_any rfl b3) (vx_c (va_any rfl (b4 _ (List.mem_of_getElem? (i := 1) rfl))) vx_n))))
  exact vx_throwS (names := ["java/lang/RuntimeException", "java/lang/Exception"]) hx hb hl0 hown (by decide) (by decide) (hts _ kw_97) (hts _ kw_98) hR1 hat kxg_ISE hU hN hS (hls.trans hml.symm) d0 d3 d4 d6 d9 (fun x h => (hte x h).elim) (by have h := hR.1; simp; omega) (by have h := hR.2.1; simp only [List.length_cons, List.length_nil]; omega) hR.2.2.1 hR.2.2.2 hlk (fun t _ hz hk => ⟨hex, hP.kept (fun k q hq => hk q.1 ((hP k q hq).lt)), ⟨Nat.le_trans hS.1 hz, fun q h1 h2 => (hk q (Nat.lt_of_lt_of_le h1 hS.1)).trans (hS.2.1 q h1 h2)⟩⟩) hS.2.2 hc hs
/-- throw new java/lang/IllegalStateException(text) -/
theorem kth_ISEW (hl0 : l.stackTraces = false) (F : CallFix p m c cc nL s args wsL_law RX5) (hE : kEn g e0 (kA (pL S0) sz0) s s.heap) (hlk : meth.locks = false) (hte : ∀ x ∈ c.exceptionTable.toList, False) (hP : va_P (kD g) vwCl (kW g S0) H) (hS : va_S (kA (pL S0) sz0) s.heap H locs) (hls : ls.size = nL) {is : Nat} {tx : String} (htx : (is, tx) ∈ k_texts)
    (d0 : decode cc pc = .ok (.new 69, 3)) (d3 : decode cc (pc + 3) = .ok (.dup, 1)) (d4 : decode cc (pc + 4) = .ok (.ldc_w is, 3)) (d6 : decode cc (pc + 7) = .ok (.invokespecial 73, 3)) (d9 : decode cc (pc + 10) = .ok (.athrow, 1))
    (hR : 6 ≤ R.frames ∧ (rest.map fun v => v.category).sum + 82 ≤ R.locals ∧ cells + 1 ≤ R.cells ∧ slots + 6 ≤ R.slots) (hc : cells + 1 ≤ mc0) (hs : slots + 6 ≤ ms0) (hex : Ex0 "java/lang/IllegalStateException") :
    W p l e R s m args below meth c H locs cells slots (vx_MQ below (kQ g S0 sz0 post0) (kX g S0 sz0 Ex0) args s mc0 ms0 (kA (pL S0) sz0)) (F0 m pc ls rest) := by
  obtain ⟨hx, hb, hml, hown, hts⟩ := F
  obtain ⟨-, -, hU, hN, hV⟩ := hE
  obtain ⟨sa, hR1⟩ := hV.1 _ htx
  obtain ⟨b1, b2, b3, b4⟩ := hV.2.2.2.2.2.2.2.2.2
  have hat : ∀ w ∈ vx_atS RX5 73 "java/lang/IllegalStateException" ["java/lang/RuntimeException", "java/lang/Exception"], w.before args s = true := vx_hat (fun w h => hts w (kxl_ISE w h)) kxb_ISE (vx_c (va_any rfl b1) (vx_c (va_any rfl b2) (vx_c (va_any rfl b3) (vx_c (va_any rfl (b4 _ (List.mem_of_getElem? (i := 1) rfl))) vx_n))))
  exact vx_throwSW (names := ["java/lang/RuntimeException", "java/lang/Exception"]) hx hb hl0 hown (by decide) (by decide) (hts _ kw_97) (hts _ kw_98) hR1 hat kxg_ISE hU hN hS (hls.trans hml.symm) d0 d3 d4 d6 d9 (fun x h => (hte x h).elim) (by have h := hR.1; simp; omega) (by have h := hR.2.1; simp only [List.length_cons, List.length_nil]; omega) hR.2.2.1 hR.2.2.2 hlk (fun t _ hz hk => ⟨hex, hP.kept (fun k q hq => hk q.1 ((hP k q hq).lt)), ⟨Nat.le_trans hS.1 hz, fun q h1 h2 => (hk q (Nat.lt_of_lt_of_le h1 hS.1)).trans (hS.2.1 q h1 h2)⟩⟩) hS.2.2 hc hs
/-- throw new java/lang/IndexOutOfBoundsException(text) -/
theorem kth_IOOBE (hl0 : l.stackTraces = false) (F : CallFix p m c cc nL s args wsL_law RX5) (hE : kEn g e0 (kA (pL S0) sz0) s s.heap) (hlk : meth.locks = false) (hte : ∀ x ∈ c.exceptionTable.toList, False) (hP : va_P (kD g) vwCl (kW g S0) H) (hS : va_S (kA (pL S0) sz0) s.heap H locs) (hls : ls.size = nL) {is : Nat} {tx : String} (htx : (is, tx) ∈ k_texts)
    (d0 : decode cc pc = .ok (.new 275, 3)) (d3 : decode cc (pc + 3) = .ok (.dup, 1)) (d4 : decode cc (pc + 4) = .ok (.ldc is, 2)) (d6 : decode cc (pc + 6) = .ok (.invokespecial 279, 3)) (d9 : decode cc (pc + 9) = .ok (.athrow, 1))
    (hR : 6 ≤ R.frames ∧ (rest.map fun v => v.category).sum + 82 ≤ R.locals ∧ cells + 1 ≤ R.cells ∧ slots + 6 ≤ R.slots) (hc : cells + 1 ≤ mc0) (hs : slots + 6 ≤ ms0) (hex : Ex0 "java/lang/IndexOutOfBoundsException") :
    W p l e R s m args below meth c H locs cells slots (vx_MQ below (kQ g S0 sz0 post0) (kX g S0 sz0 Ex0) args s mc0 ms0 (kA (pL S0) sz0)) (F0 m pc ls rest) := by
  obtain ⟨hx, hb, hml, hown, hts⟩ := F
  obtain ⟨-, -, hU, hN, hV⟩ := hE
  obtain ⟨sa, hR1⟩ := hV.1 _ htx
  obtain ⟨b1, b2, b3, b4⟩ := hV.2.2.2.2.2.2.2.2.2
  have hat : ∀ w ∈ vx_atS RX5 279 "java/lang/IndexOutOfBoundsException" ["java/lang/RuntimeException", "java/lang/Exception"], w.before args s = true := vx_hat (fun w h => hts w (kxl_IOOBE w h)) kxb_IOOBE (vx_c (va_any rfl b1) (vx_c (va_any rfl b2) (vx_c (va_any rfl b3) (vx_c (va_any rfl (b4 _ (List.mem_of_getElem? (i := 2) rfl))) vx_n))))
  exact vx_throwS (names := ["java/lang/RuntimeException", "java/lang/Exception"]) hx hb hl0 hown (by decide) (by decide) (hts _ kw_200) (hts _ kw_201) hR1 hat kxg_IOOBE hU hN hS (hls.trans hml.symm) d0 d3 d4 d6 d9 (fun x h => (hte x h).elim) (by have h := hR.1; simp; omega) (by have h := hR.2.1; simp only [List.length_cons, List.length_nil]; omega) hR.2.2.1 hR.2.2.2 hlk (fun t _ hz hk => ⟨hex, hP.kept (fun k q hq => hk q.1 ((hP k q hq).lt)), ⟨Nat.le_trans hS.1 hz, fun q h1 h2 => (hk q (Nat.lt_of_lt_of_le h1 hS.1)).trans (hS.2.1 q h1 h2)⟩⟩) hS.2.2 hc hs
/-- throw new java/lang/IndexOutOfBoundsException(text) -/
theorem kth_IOOBEW (hl0 : l.stackTraces = false) (F : CallFix p m c cc nL s args wsL_law RX5) (hE : kEn g e0 (kA (pL S0) sz0) s s.heap) (hlk : meth.locks = false) (hte : ∀ x ∈ c.exceptionTable.toList, False) (hP : va_P (kD g) vwCl (kW g S0) H) (hS : va_S (kA (pL S0) sz0) s.heap H locs) (hls : ls.size = nL) {is : Nat} {tx : String} (htx : (is, tx) ∈ k_texts)
    (d0 : decode cc pc = .ok (.new 275, 3)) (d3 : decode cc (pc + 3) = .ok (.dup, 1)) (d4 : decode cc (pc + 4) = .ok (.ldc_w is, 3)) (d6 : decode cc (pc + 7) = .ok (.invokespecial 279, 3)) (d9 : decode cc (pc + 10) = .ok (.athrow, 1))
    (hR : 6 ≤ R.frames ∧ (rest.map fun v => v.category).sum + 82 ≤ R.locals ∧ cells + 1 ≤ R.cells ∧ slots + 6 ≤ R.slots) (hc : cells + 1 ≤ mc0) (hs : slots + 6 ≤ ms0) (hex : Ex0 "java/lang/IndexOutOfBoundsException") :
    W p l e R s m args below meth c H locs cells slots (vx_MQ below (kQ g S0 sz0 post0) (kX g S0 sz0 Ex0) args s mc0 ms0 (kA (pL S0) sz0)) (F0 m pc ls rest) := by
  obtain ⟨hx, hb, hml, hown, hts⟩ := F
  obtain ⟨-, -, hU, hN, hV⟩ := hE
  obtain ⟨sa, hR1⟩ := hV.1 _ htx
  obtain ⟨b1, b2, b3, b4⟩ := hV.2.2.2.2.2.2.2.2.2
  have hat : ∀ w ∈ vx_atS RX5 279 "java/lang/IndexOutOfBoundsException" ["java/lang/RuntimeException", "java/lang/Exception"], w.before args s = true := vx_hat (fun w h => hts w (kxl_IOOBE w h)) kxb_IOOBE (vx_c (va_any rfl b1) (vx_c (va_any rfl b2) (vx_c (va_any rfl b3) (vx_c (va_any rfl (b4 _ (List.mem_of_getElem? (i := 2) rfl))) vx_n))))
  exact vx_throwSW (names := ["java/lang/RuntimeException", "java/lang/Exception"]) hx hb hl0 hown (by decide) (by decide) (hts _ kw_200) (hts _ kw_201) hR1 hat kxg_IOOBE hU hN hS (hls.trans hml.symm) d0 d3 d4 d6 d9 (fun x h => (hte x h).elim) (by have h := hR.1; simp; omega) (by have h := hR.2.1; simp only [List.length_cons, List.length_nil]; omega) hR.2.2.1 hR.2.2.2 hlk (fun t _ hz hk => ⟨hex, hP.kept (fun k q hq => hk q.1 ((hP k q hq).lt)), ⟨Nat.le_trans hS.1 hz, fun q h1 h2 => (hk q (Nat.lt_of_lt_of_le h1 hS.1)).trans (hS.2.1 q h1 h2)⟩⟩) hS.2.2 hc hs
/-- throw new java/lang/UnsupportedOperationException(text) -/
theorem kth_UOE (hl0 : l.stackTraces = false) (F : CallFix p m c cc nL s args wsL_law RX5) (hE : kEn g e0 (kA (pL S0) sz0) s s.heap) (hlk : meth.locks = false) (hte : ∀ x ∈ c.exceptionTable.toList, False) (hP : va_P (kD g) vwCl (kW g S0) H) (hS : va_S (kA (pL S0) sz0) s.heap H locs) (hls : ls.size = nL) {is : Nat} {tx : String} (htx : (is, tx) ∈ k_texts)
    (d0 : decode cc pc = .ok (.new 189, 3)) (d3 : decode cc (pc + 3) = .ok (.dup, 1)) (d4 : decode cc (pc + 4) = .ok (.ldc is, 2)) (d6 : decode cc (pc + 6) = .ok (.invokespecial 193, 3)) (d9 : decode cc (pc + 9) = .ok (.athrow, 1))
    (hR : 6 ≤ R.frames ∧ (rest.map fun v => v.category).sum + 82 ≤ R.locals ∧ cells + 1 ≤ R.cells ∧ slots + 6 ≤ R.slots) (hc : cells + 1 ≤ mc0) (hs : slots + 6 ≤ ms0) (hex : Ex0 "java/lang/UnsupportedOperationException") :
    W p l e R s m args below meth c H locs cells slots (vx_MQ below (kQ g S0 sz0 post0) (kX g S0 sz0 Ex0) args s mc0 ms0 (kA (pL S0) sz0)) (F0 m pc ls rest) := by
  obtain ⟨hx, hb, hml, hown, hts⟩ := F
  obtain ⟨-, -, hU, hN, hV⟩ := hE
  obtain ⟨sa, hR1⟩ := hV.1 _ htx
  obtain ⟨b1, b2, b3, b4⟩ := hV.2.2.2.2.2.2.2.2.2
  have hat : ∀ w ∈ vx_atS RX5 193 "java/lang/UnsupportedOperationException" ["java/lang/RuntimeException", "java/lang/Exception"], w.before args s = true := vx_hat (fun w h => hts w (kxl_UOE w h)) kxb_UOE (vx_c (va_any rfl b1) (vx_c (va_any rfl b2) (vx_c (va_any rfl b3) (vx_c (va_any rfl (b4 _ (List.mem_of_getElem? (i := 3) rfl))) vx_n))))
  exact vx_throwS (names := ["java/lang/RuntimeException", "java/lang/Exception"]) hx hb hl0 hown (by decide) (by decide) (hts _ kw_501) (hts _ kw_502) hR1 hat kxg_UOE hU hN hS (hls.trans hml.symm) d0 d3 d4 d6 d9 (fun x h => (hte x h).elim) (by have h := hR.1; simp; omega) (by have h := hR.2.1; simp only [List.length_cons, List.length_nil]; omega) hR.2.2.1 hR.2.2.2 hlk (fun t _ hz hk => ⟨hex, hP.kept (fun k q hq => hk q.1 ((hP k q hq).lt)), ⟨Nat.le_trans hS.1 hz, fun q h1 h2 => (hk q (Nat.lt_of_lt_of_le h1 hS.1)).trans (hS.2.1 q h1 h2)⟩⟩) hS.2.2 hc hs
/-- throw new java/lang/UnsupportedOperationException(text) -/
theorem kth_UOEW (hl0 : l.stackTraces = false) (F : CallFix p m c cc nL s args wsL_law RX5) (hE : kEn g e0 (kA (pL S0) sz0) s s.heap) (hlk : meth.locks = false) (hte : ∀ x ∈ c.exceptionTable.toList, False) (hP : va_P (kD g) vwCl (kW g S0) H) (hS : va_S (kA (pL S0) sz0) s.heap H locs) (hls : ls.size = nL) {is : Nat} {tx : String} (htx : (is, tx) ∈ k_texts)
    (d0 : decode cc pc = .ok (.new 189, 3)) (d3 : decode cc (pc + 3) = .ok (.dup, 1)) (d4 : decode cc (pc + 4) = .ok (.ldc_w is, 3)) (d6 : decode cc (pc + 7) = .ok (.invokespecial 193, 3)) (d9 : decode cc (pc + 10) = .ok (.athrow, 1))
    (hR : 6 ≤ R.frames ∧ (rest.map fun v => v.category).sum + 82 ≤ R.locals ∧ cells + 1 ≤ R.cells ∧ slots + 6 ≤ R.slots) (hc : cells + 1 ≤ mc0) (hs : slots + 6 ≤ ms0) (hex : Ex0 "java/lang/UnsupportedOperationException") :
    W p l e R s m args below meth c H locs cells slots (vx_MQ below (kQ g S0 sz0 post0) (kX g S0 sz0 Ex0) args s mc0 ms0 (kA (pL S0) sz0)) (F0 m pc ls rest) := by
  obtain ⟨hx, hb, hml, hown, hts⟩ := F
  obtain ⟨-, -, hU, hN, hV⟩ := hE
  obtain ⟨sa, hR1⟩ := hV.1 _ htx
  obtain ⟨b1, b2, b3, b4⟩ := hV.2.2.2.2.2.2.2.2.2
  have hat : ∀ w ∈ vx_atS RX5 193 "java/lang/UnsupportedOperationException" ["java/lang/RuntimeException", "java/lang/Exception"], w.before args s = true := vx_hat (fun w h => hts w (kxl_UOE w h)) kxb_UOE (vx_c (va_any rfl b1) (vx_c (va_any rfl b2) (vx_c (va_any rfl b3) (vx_c (va_any rfl (b4 _ (List.mem_of_getElem? (i := 3) rfl))) vx_n))))
  exact vx_throwSW (names := ["java/lang/RuntimeException", "java/lang/Exception"]) hx hb hl0 hown (by decide) (by decide) (hts _ kw_501) (hts _ kw_502) hR1 hat kxg_UOE hU hN hS (hls.trans hml.symm) d0 d3 d4 d6 d9 (fun x h => (hte x h).elim) (by have h := hR.1; simp; omega) (by have h := hR.2.1; simp only [List.length_cons, List.length_nil]; omega) hR.2.2.1 hR.2.2.2 hlk (fun t _ hz hk => ⟨hex, hP.kept (fun k q hq => hk q.1 ((hP k q hq).lt)), ⟨Nat.le_trans hS.1 hz, fun q h1 h2 => (hk q (Nat.lt_of_lt_of_le h1 hS.1)).trans (hS.2.1 q h1 h2)⟩⟩) hS.2.2 hc hs
/-- throw new java/util/NoSuchElementException(text) -/
theorem kth_NSEE (hl0 : l.stackTraces = false) (F : CallFix p m c cc nL s args wsL_law RX5) (hE : kEn g e0 (kA (pL S0) sz0) s s.heap) (hlk : meth.locks = false) (hte : ∀ x ∈ c.exceptionTable.toList, False) (hP : va_P (kD g) vwCl (kW g S0) H) (hS : va_S (kA (pL S0) sz0) s.heap H locs) (hls : ls.size = nL) {is : Nat} {tx : String} (htx : (is, tx) ∈ k_texts)
    (d0 : decode cc pc = .ok (.new 229, 3)) (d3 : decode cc (pc + 3) = .ok (.dup, 1)) (d4 : decode cc (pc + 4) = .ok (.ldc is, 2)) (d6 : decode cc (pc + 6) = .ok (.invokespecial 233, 3)) (d9 : decode cc (pc + 9) = .ok (.athrow, 1))
    (hR : 6 ≤ R.frames ∧ (rest.map fun v => v.category).sum + 82 ≤ R.locals ∧ cells + 1 ≤ R.cells ∧ slots + 6 ≤ R.slots) (hc : cells + 1 ≤ mc0) (hs : slots + 6 ≤ ms0) (hex : Ex0 "java/util/NoSuchElementException") :
    W p l e R s m args below meth c H locs cells slots (vx_MQ below (kQ g S0 sz0 post0) (kX g S0 sz0 Ex0) args s mc0 ms0 (kA (pL S0) sz0)) (F0 m pc ls rest) := by
  obtain ⟨hx, hb, hml, hown, hts⟩ := F
  obtain ⟨-, -, hU, hN, hV⟩ := hE
  obtain ⟨sa, hR1⟩ := hV.1 _ htx
  obtain ⟨b1, b2, b3, b4⟩ := hV.2.2.2.2.2.2.2.2.2
  have hat : ∀ w ∈ kx_at, w.before args s = true := vx_hat (fun w h => hts w (kxl_NSEE w h)) kxb_NSEE (vx_c (va_any rfl b1) (vx_c (va_any rfl b2) (vx_c (va_any rfl b3) (vx_c (va_any rfl (b4 _ (List.mem_of_getElem? (i := 4) rfl))) vx_n))))
  exact kx_throwS hx hb hl0 hown (hts _ kw_578) (hts _ kw_579) hR1 hat kxg_NSEE hU hN hS (hls.trans hml.symm) d0 d3 d4 d6 d9 (fun x h => (hte x h).elim) (by have h := hR.1; omega) hR.2.1 hR.2.2.1 hR.2.2.2 hlk (fun t _ hz hk => ⟨hex, hP.kept (fun k q hq => hk q.1 ((hP k q hq).lt)), ⟨Nat.le_trans hS.1 hz, fun q h1 h2 => (hk q (Nat.lt_of_lt_of_le h1 hS.1)).trans (hS.2.1 q h1 h2)⟩⟩) hS.2.2 hc hs
/-- throw new java/util/NoSuchElementException(text) -/
theorem kth_NSEEW (hl0 : l.stackTraces = false) (F : CallFix p m c cc nL s args wsL_law RX5) (hE : kEn g e0 (kA (pL S0) sz0) s s.heap) (hlk : meth.locks = false) (hte : ∀ x ∈ c.exceptionTable.toList, False) (hP : va_P (kD g) vwCl (kW g S0) H) (hS : va_S (kA (pL S0) sz0) s.heap H locs) (hls : ls.size = nL) {is : Nat} {tx : String} (htx : (is, tx) ∈ k_texts)
    (d0 : decode cc pc = .ok (.new 229, 3)) (d3 : decode cc (pc + 3) = .ok (.dup, 1)) (d4 : decode cc (pc + 4) = .ok (.ldc_w is, 3)) (d6 : decode cc (pc + 7) = .ok (.invokespecial 233, 3)) (d9 : decode cc (pc + 10) = .ok (.athrow, 1))
    (hR : 6 ≤ R.frames ∧ (rest.map fun v => v.category).sum + 82 ≤ R.locals ∧ cells + 1 ≤ R.cells ∧ slots + 6 ≤ R.slots) (hc : cells + 1 ≤ mc0) (hs : slots + 6 ≤ ms0) (hex : Ex0 "java/util/NoSuchElementException") :
    W p l e R s m args below meth c H locs cells slots (vx_MQ below (kQ g S0 sz0 post0) (kX g S0 sz0 Ex0) args s mc0 ms0 (kA (pL S0) sz0)) (F0 m pc ls rest) := by
  obtain ⟨hx, hb, hml, hown, hts⟩ := F
  obtain ⟨-, -, hU, hN, hV⟩ := hE
  obtain ⟨sa, hR1⟩ := hV.1 _ htx
  obtain ⟨b1, b2, b3, b4⟩ := hV.2.2.2.2.2.2.2.2.2
  have hat : ∀ w ∈ kx_at, w.before args s = true := vx_hat (fun w h => hts w (kxl_NSEE w h)) kxb_NSEE (vx_c (va_any rfl b1) (vx_c (va_any rfl b2) (vx_c (va_any rfl b3) (vx_c (va_any rfl (b4 _ (List.mem_of_getElem? (i := 4) rfl))) vx_n))))
  exact kx_throwSW hx hb hl0 hown (hts _ kw_578) (hts _ kw_579) hR1 hat kxg_NSEE hU hN hS (hls.trans hml.symm) d0 d3 d4 d6 d9 (fun x h => (hte x h).elim) (by have h := hR.1; omega) hR.2.1 hR.2.2.1 hR.2.2.2 hlk (fun t _ hz hk => ⟨hex, hP.kept (fun k q hq => hk q.1 ((hP k q hq).lt)), ⟨Nat.le_trans hS.1 hz, fun q h1 h2 => (hk q (Nat.lt_of_lt_of_le h1 hS.1)).trans (hS.2.1 q h1 h2)⟩⟩) hS.2.2 hc hs
end KT
