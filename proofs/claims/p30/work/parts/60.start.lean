theorem kAO {C : String} {s : State} (h : va_AO C s) : ∃ cA : ClassId, ArrOfT s cA (.object C) ∧ va_RA s cA (.object C) := by
  obtain ⟨comp, c, k, h1, h2, h3, h4, h5⟩ := Cond.arrayOver_spec h
  exact ⟨c, fun N z => ⟨(fun k h => by cases h), k, h3, comp, h4⟩, k, comp, h3, h4, h1, h5⟩
theorem kAP {ty : FieldType} {args : Array Value} {s : State} (h : (Cond.arrayClass ty).before args s = true) : ∃ cA : ClassId, ArrOfT s cA ty ∧ s.vm.findClass ("[" ++ ty.toString) = some cA := by
  obtain ⟨cA, kA, comp, h1, h2, h3⟩ := Cond.arrayClass_spec h
  exact ⟨cA, fun N z => ⟨(fun k h => by cases h), kA, h2, comp, h3⟩, h1⟩
theorem kTx {own tx : String} {k : Nat} {args : Array Value} {s : State} (h1 : (Cond.stringRef own k tx).before args s = true) (h2 : (Cond.exactly (.string own k) "java/lang/String").before args s = true) : ∃ sa : Nat, vk_R own k tx sa s := by
  obtain ⟨a2, c, cA, kA, q1, q2, q3, q4, q5, q6, -⟩ := Cond.exactly_spec (args := args) (first := s) (o := none) (s := s) (idx := []) (t := .string own k) (cls := "java/lang/String") h2
  exact ⟨a2, vk_R.of (A := args) h1 q1⟩
set_option maxHeartbeats 4000000 in
set_option maxRecDepth 100000 in
theorem kstart {p : Program} {s : State} {m : MethodId} {meth : Method} {c : Code} {b L : Nat} {xs : Nat → Int32} (C0 : lw_At p s m meth c b L xs) : ∃ (g : kG) (e0 : Nat), va_K (kD g) vwCl (kT g) s ∧ kEn g e0 (fun q => s.heap.size ≤ q) s s.heap ∧ kNc s ∧ ∀ w ∈ wsL_law, w.before #[Value.ref b] s = true := by
  obtain ⟨hx, hb, hr, hml, hown, hts, hX, hbl, hlocks, hgv⟩ := id C0
  have hs := flat_of_before _ hgv
  have hAo : ∀ a : Nat, a < s.heap.size → ¬ (fun q : Nat => s.heap.size ≤ q) a := fun a h => Nat.not_le.mpr h
  have hw : ∀ w ∈ wsL_law, w.before #[Value.ref b] s = true := fun w h => hts w (wsL_law_in w h)
  obtain ⟨c0, i0, k0⟩ := u_known (C := RJx4a65c) (T := TJx4a65c) (N := 3) (n := 3) hw inlJx4a65c (hw _ kw_25)
  obtain ⟨c1, i1, k1⟩ := u_known (C := RX0) (T := TX0) (N := 3) (n := 3) hw inlX0 (hw _ kw_16)
  obtain ⟨c2, i2, k2⟩ := u_known (C := RX1) (T := TX1) (N := 5) (n := 5) hw inlX1 (hw _ kw_100)
  obtain ⟨c3, i3, k3⟩ := u_known (C := RX2) (T := TX2) (N := 6) (n := 6) hw inlX2 (hw _ kw_412)
  obtain ⟨c4, i4, k4⟩ := u_known (C := RX3) (T := TX3) (N := 3) (n := 3) hw inlX3 (hw _ kw_22)
  obtain ⟨c5, i5, k5⟩ := u_known (C := RX4) (T := TX4) (N := 3) (n := 3) hw inlX4 (hw _ kw_30)
  obtain ⟨c6, i6, k6⟩ := u_known (C := RX5) (T := TX5) (N := 10) (n := 10) hw inlX5 (hw _ kw_1)
  obtain ⟨c7, i7, k7⟩ := u_known (C := RX6) (T := TX6) (N := 24) (n := 24) hw inlX6 (hw _ kw_4)
  obtain ⟨t0, ta0, tb0⟩ := kAP (hw _ kw_61)
  obtain ⟨t1, ta1, tb1⟩ := kAP (hw _ kw_18)
  obtain ⟨t2, ta2, tb2⟩ := kAP (hw _ kw_76)
  obtain ⟨t6, ta6, tb6⟩ := kAP (hw _ kw_6)
  obtain ⟨t7, ta7, tb7⟩ := kAP (hw _ kw_7)
  have ao3 : va_AO RX0 s := va_AO.of (A := #[Value.ref b]) (hts (.arrayOver (.object "Pickwave$Aisle")) (by decide +kernel))
  obtain ⟨t3, ta3, tb3⟩ := kAO ao3
  have ao4 : va_AO RX3 s := va_AO.of (A := #[Value.ref b]) (hts (.arrayOver (.object "Pickwave$Robot")) (by decide +kernel))
  obtain ⟨t4, ta4, tb4⟩ := kAO ao4
  have ao5 : va_AO "java/lang/Object" s := va_AO.of (A := #[Value.ref b]) (hts (.arrayOver (.object "java/lang/Object")) (by decide +kernel))
  obtain ⟨t5, ta5, tb5⟩ := kAO ao5
  obtain ⟨mi, hmi⟩ := va_Mi.of (args := #[Value.ref b]) (hs (.isRef (.mirror "[Ljava/lang/Object;")) (by decide +kernel))
  obtain ⟨e0, he0, hT0⟩ := va_Tof (args := #[Value.ref b]) (tm := (.static "java/util/ArrayList" "DEFAULTCAPACITY_EMPTY_ELEMENTDATA" "[Ljava/lang/Object;")) (ty := .object "java/lang/Object") (N := 0) (f := fun _ => .null) (by decide) (hs _ (by decide +kernel)) (va_eqt (hs (.eq (.length (.static "java/util/ArrayList" "DEFAULTCAPACITY_EMPTY_ELEMENTDATA" "[Ljava/lang/Object;")) (.int 0)) (by decide +kernel))) (fun j h => absurd h (Nat.not_lt_zero j)) hAo
  let g : kG := (fun k => match k with | 0 => c0 | 1 => c1 | 2 => c2 | 3 => c3 | 4 => c4 | 5 => c5 | 6 => c6 | 7 => c7 | _ => 0, fun k => match k with | 0 => i0 | 1 => i1 | 2 => i2 | 3 => i3 | 4 => i4 | 5 => i5 | 6 => i6 | 7 => i7 | _ => fun _ => 0, fun k => match k with | 0 => t0 | 1 => t1 | 2 => t2 | 3 => t3 | 4 => t4 | 5 => t5 | 6 => t6 | 7 => t7 | 9 => mi | _ => 0)
  refine ⟨g, e0, ⟨?_, ?_⟩, ⟨va_Zref (args := #[Value.ref b]) (hts (.laysStatic "java/util/ArrayList" "DEFAULTCAPACITY_EMPTY_ELEMENTDATA" "[Ljava/lang/Object;") (by decide +kernel)) (hts (.initialized "java/util/ArrayList") (by decide +kernel)) he0 hAo, hT0, vx_Zqof (args := #[Value.ref b]) (hts (.laysStatic Bundle.tN "UNASSIGNED_STACK" Bundle.steD) (by decide +kernel)) (hts (.initialized Bundle.tN) (by decide +kernel)) (hs (.isRef (.static Bundle.tN "UNASSIGNED_STACK" Bundle.steD)) (by decide +kernel)) hAo, vx_Zqof (args := #[Value.ref b]) (hts (.laysStatic Bundle.tN "SUPPRESSED_SENTINEL" Bundle.listD) (by decide +kernel)) (hts (.initialized Bundle.tN) (by decide +kernel)) (hs (.isRef (.static Bundle.tN "SUPPRESSED_SENTINEL" Bundle.listD)) (by decide +kernel)) hAo, ?_⟩, ?_, hw⟩
  · intro k q hq
    match k, hq with
    | 0, hq => cases hq; exact k0
    | 1, hq => cases hq; exact k1
    | 2, hq => cases hq; exact k2
    | 3, hq => cases hq; exact k3
    | 4, hq => cases hq; exact k4
    | 5, hq => cases hq; exact k5
    | 6, hq => cases hq; exact k6
    | 7, hq => cases hq; exact k7
    | k + 8, hq => simp [vwCl] at hq
  · intro k q hq
    match k, hq with
    | 0, hq => cases hq; exact ⟨ta0, tb0⟩
    | 1, hq => cases hq; exact ⟨ta1, tb1⟩
    | 2, hq => cases hq; exact ⟨ta2, tb2⟩
    | 3, hq => cases hq; exact ⟨ta3, tb3⟩
    | 4, hq => cases hq; exact ⟨ta4, tb4⟩
    | 5, hq => cases hq; exact ⟨ta5, tb5⟩
    | 6, hq => cases hq; exact ⟨ta6, tb6⟩
    | 7, hq => cases hq; exact ⟨ta7, tb7⟩
    | k + 8, hq => simp [kT] at hq
  · refine ⟨?_, ao3, ao4, ao5, hmi, va_Dc.of (A := #[Value.ref b]) (hts _ (by decide +kernel)), va_Nw.of rfl (A := #[Value.ref b]) (hts (.castable "Pickwave$Article" "java/lang/Object") (by decide +kernel)), va_Nw.of rfl (A := #[Value.ref b]) (hts (.castable "Pickwave$Line" "java/lang/Object") (by decide +kernel)), va_Nw.of rfl (A := #[Value.ref b]) (hts (.methodLinkNest "Pickwave" 28 ⟨"Pickwave$Robot", "<init>", "()V"⟩ "Pickwave") (by decide +kernel)), ?_⟩
    · intro q hq
      have h1 : ∀ q ∈ k_texts, Cond.stringRef "Pickwave" q.1 q.2 ∈ lw_tbl := by decide +kernel
      have h2 : ∀ q ∈ k_texts, Cond.exactly (.string "Pickwave" q.1) "java/lang/String" ∈ flatC (Jvm.Cond.and given_1 narrow_1) := by decide +kernel
      exact kTx (args := #[Value.ref b]) (hts _ (h1 q hq)) (hs _ (h2 q hq))
    · refine ⟨va_Nw.of rfl (A := #[Value.ref b]) (hts (.declares ⟨"java/lang/RuntimeException", "<init>", "(Ljava/lang/String;)V"⟩) (by decide +kernel)), va_Nw.of rfl (A := #[Value.ref b]) (hts (.declares ⟨"java/lang/Exception", "<init>", "(Ljava/lang/String;)V"⟩) (by decide +kernel)), va_Nw.of rfl (A := #[Value.ref b]) (hts (.declares ⟨"java/lang/Throwable", "<init>", "(Ljava/lang/String;)V"⟩) (by decide +kernel)), fun E hE => ?_⟩
      have h1 : ∀ E ∈ k_exs, Cond.castable E E ∈ lw_tbl := by decide +kernel
      exact va_Nw.of rfl (A := #[Value.ref b]) (hts _ (h1 E hE))
  · intro q hq
    have h1 : ∀ q ∈ k_ncs, Cond.not (.castable q.1 q.2) ∈ flatC (Jvm.Cond.and given_1 narrow_1) := by decide +kernel
    exact va_Nc.of (args := #[Value.ref b]) (hs _ (h1 q hq))
