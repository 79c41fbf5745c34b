/-! the law's calls: its own methods that catch, three pools side by side -/
theorem kGoodw {y : MethodName} {cY : ByteArray} {mY : Nat} {hh : List (Nat × Nat × Nat × Nat)} (h : Cond.codeWith y cY mY (some .int) hh ∈ wsL_law) : GoodIn wsL_law (.codeWith y cY mY (some .int) hh :: wsL_law) := fun w hw => (List.mem_cons.mp hw).elim (fun e => by rw [e]; exact ⟨h, wsL_law_good _ h⟩) (fun h => ⟨h, wsL_law_good _ h⟩)
theorem kPw.blind {g : kG} {e0 : Nat} {S O : wPS} {As : List Value} {sz : Nat} : FrameBlind (va_Pc As (kPw g e0 S O sz)) := fun a U gf mk q => by
  obtain ⟨h0, h1, h2, h3, h4, h5, h6, h7, h8, h9⟩ := q
  exact ⟨h0, h1, h2, h3, va_K.moved (u := U) (U := U.calling gf mk a) (Vm.Alike.refl U.vm) h4, h5, h6, h7, kEn.same (u := U) (U := U.calling gf mk a) rfl h8, fun q hq => va_Nc.moved (u := U) (U := U.calling gf mk a) (Vm.Alike.refl U.vm) (h9 q hq)⟩
section KB3
variable {p : Program} {l : Launch} {e : Env} {R : Room} {s : State} {m : MethodId} {args : Array Value} {below : List Frame} {meth : Method} {c : Code} {H : Heap} {locs : List Loc} {cells slots : Nat} {Q : State → Prop} {pc : Nat} {ls : Array Slot} {st0 rest : List Value} {cc : ByteArray} {nL : Nat} {own : String} {g : kG} {S O M : wPS} {A : Nat → Prop} {e0 : Nat} {H0 : Heap} {a index : Nat}
theorem kA2_sub (hD : va_D A (kW g S)) (hDO : va_D A (kW g O)) (hS : va_S A s.heap H locs) (hA : ∀ q : Nat, s.heap.size ≤ q → A q) : ∀ q, kA2 S O H.size q → A q := fun q hq => hq.elim (fun h => (List.mem_append.mp h).elim (fun h => kD_in hD h) (fun h => kD_in hDO h)) (fun h => hA q (Nat.le_trans hS.1 h))
theorem kPw.at (hE : kEn g e0 A s s.heap) (hNc : kNc s) (hK : va_K (kD g) vwCl (kT g) s) (hP : va_P (kD g) vwCl (kW g S) H) (hO : va_P (kD g) vwCl (kW g O) H) (hD : va_D A (kW g S)) (hDO : va_D A (kW g O)) (hdis : kdis S O) (hS : va_S A s.heap H locs) (hA : ∀ q : Nat, s.heap.size ≤ q → A q) {U : State} (hU : U.heap = H) (hW : s.WarmedH U.vm) : kPw g e0 S O H.size U := by
  refine ⟨by rw [hU], by rw [hU]; exact hP, by rw [hU]; exact hO, hK.moved hW.alike, ⟨hD.1, fun k q hk => Or.inl (List.mem_append_left _ (kW_mem hk))⟩, ⟨hDO.1, fun k q hk => Or.inl (List.mem_append_right _ (kW_mem hk))⟩, hdis, ?_, fun q hq => (hNc q hq).moved hW.alike⟩
  rw [hU]
  exact kEn.moved hW hS.2.1 (kA2_sub hD hDO hS hA) hE
/-- a call of a method of the law that catches: the run -/
theorem kStw {y : MethodName} {cY : ByteArray} {mY : Nat} {hh : List (Nat × Nat × Nat × Nat)} {fr lo mc ms n : Nat} {As : List Value} {post : Int32 → wPS → wPS → Prop} (F : CallFix p m c cc nL s args wsL_law own) (hE : kEn g e0 A s s.heap) (hNc : kNc s) (hK : va_K (kD g) vwCl (kT g) s) (hP : va_P (kD g) vwCl (kW g S) H) (hO : va_P (kD g) vwCl (kW g O) H) (hD : va_D A (kW g S)) (hDO : va_D A (kW g O)) (hdis : kdis S O) (hS : va_S A s.heap H locs) (hA : ∀ q : Nat, s.heap.size ≤ q → A q)
    (hM : kMw l g e0 y cY mY hh fr lo mc ms As S O H.size post)
    (w1 : Cond.methodLink own index y ∈ wsL_law) (w2 : Cond.static y ∈ wsL_law) (w4 : Cond.initialized y.cls ∈ wsL_law) (w5 : Cond.codeWith y cY mY (some .int) hh ∈ wsL_law)
    (hd : y.cls ≠ "java/lang/invoke/MethodHandle" ∧ y.cls ≠ "java/lang/invoke/VarHandle" ∧ (parseMethodDescriptor y.desc).map (fun d => d.parameters.length) = some n)
    (hR : fr + 1 ≤ R.frames ∧ 8 + (mY + 11) + lo ≤ R.locals) (hn : As.length = n) (hls : ls.size = nL) (hst : st0 = As.reverse ++ rest) (hcat : (rest.map fun v => v.category).sum ≤ 8) (hdg : decode cc pc = .ok (.invokestatic index, 3)) (hf : cells + mc ≤ R.cells ∧ slots + ms ≤ R.slots) :
    vx_Run p l e R s m args below meth c H locs cells slots mc ms (F0 m pc ls st0) rest (kQw g S O H.size post As.toArray) kXw (kA2 S O H.size) :=
  vx_runSX (As := As) (rest := rest) F hM (vx_cwSW n F.2.2.2.2 (fun w hw => by
    unfold va_wsS at hw
    rcases List.mem_append.mp hw with h | h
    · rcases List.mem_cons.mp h with rfl | h
      · exact ⟨w1, wsL_law_good _ w1⟩
      rcases List.mem_cons.mp h with rfl | h
      · exact ⟨w2, wsL_law_good _ w2⟩
      rcases List.mem_cons.mp h with rfl | h
      · exact ⟨w4, wsL_law_good _ w4⟩
      exact absurd h List.not_mem_nil
    · exact kGoodw w5 w h) rfl rfl rfl hd hR) ⟨kPw.blind, fun U hU hW => ⟨rfl, kPw.at hE hNc hK hP hO hD hDO hdis hS hA hU hW⟩⟩ rfl hn hls hst (lv_room hcat) hdg hf
/-- behind it: it returned -/
theorem kcallw {mc ms sz : Nat} {a : Array Value} {post : Int32 → wPS → wPS → Prop}
    (hr : vx_Run p l e R s m args below meth c H locs cells slots mc ms (F0 m pc ls st0) rest (kQw g S O sz post a) kXw (kA2 S O sz)) (hsz : H.size = sz) (hD : va_D A (kW g S)) (hDO : va_D A (kW g O)) (hS : va_S A s.heap H locs) (hA : ∀ q : Nat, s.heap.size ≤ q → A q)
    (kk : ∀ (r : Int32) (S1 O1 : wPS) (H1 : Heap) (locs1 : List Loc), post r S1 O1 → va_P (kD g) vwCl (kW g S1) H1 → va_P (kD g) vwCl (kW g O1) H1 → va_D (kA2 S O H.size) (kW g S1) → va_D (kA2 S O H.size) (kW g O1) → va_D A (kW g S1) → va_D A (kW g O1) → kdis S1 O1 → H.size ≤ H1.size → (∀ q : Nat, q < H.size → ¬ kA2 S O H.size q → H1[q]? = H[q]?) → va_S A s.heap H1 locs1 → W p l e R s m args below meth c H1 locs1 (cells + mc) (slots + ms) Q (F0 m (pc + 3) ls (.int r :: rest))) :
    W p l e R s m args below meth c H locs cells slots Q (F0 m pc ls st0) := by
  subst hsz
  have hsub := kA2_sub hD hDO hS hA
  intro T hT X
  rcases hr T hT X with ⟨v, st₀, t, T', L, h0, X', hL, e1, e2, ⟨⟨r, S1, O1, hv, hp, hP1, hO1, hD1, hDO1, hdis1⟩, hF⟩, st⟩ | ⟨q, st₀, t, T', L, E, ce, h0, X', hL, e1, e2, hex, hce, hcv, hcl, st⟩
  · cases hv
    obtain ⟨k1, k2, k3⟩ := vx_keep h0 e1 hS (fun q _ h => hsub q h) hsub hL hF
    obtain ⟨t2, a1, b1⟩ := kk r S1 O1 T'.heap (locs ++ L) hp (by rw [e1]; exact hP1) (by rw [e1]; exact hO1) hD1 hDO1 (hD1.weaken fun _ _ _ h => hsub _ h) (hDO1.weaken fun _ _ _ h => hsub _ h) hdis1 k1 k2 k3 T' rfl X'
    exact ⟨t2, st t2 a1, b1⟩
  · exact hex.elim
/-- a third pool is kept -/
theorem kM_keep {H1 : Heap} (hM : va_P (kD g) vwCl (kW g M) H) (h1 : kdis S M) (h2 : kdis O M) (hf : ∀ q : Nat, q < H.size → ¬ kA2 S O H.size q → H1[q]? = H[q]?) : va_P (kD g) vwCl (kW g M) H1 :=
  hM.kept (fun k q hk => hf q.1 ((hM k q hk).lt) (fun h => h.elim (fun h => (List.mem_append.mp h).elim (fun h => h1 _ h (kW_mem hk)) (fun h => h2 _ h (kW_mem hk))) (fun h => absurd ((hM k q hk).lt) (Nat.not_lt.mpr h))))
theorem kdis_keepM {S1 : wPS} (hM : va_P (kD g) vwCl (kW g M) H) (h1 : kdis S M) (h2 : kdis O M) (hD1 : va_D (kA2 S O H.size) (kW g S1)) : kdis S1 M := fun a ha hb => (kD_in hD1 ha).elim (fun h => (List.mem_append.mp h).elim (fun h => h1 a h hb) (fun h => h2 a h hb)) (fun h => absurd (kP_lt hM hb) (Nat.not_lt.mpr h))
theorem kdis_symm (h : kdis S O) : kdis O S := fun a ha hb => h a hb ha
end KB3
