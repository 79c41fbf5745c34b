set_option maxHeartbeats 4000000 in
set_option maxRecDepth 100000 in
/-- the law's end -/
theorem kexit {p : Program} {s : State} {m : MethodId} {meth : Method} {c : Code} {b L : Nat} {xs : Nat → Int32} (l : Launch) {e : Env} {below : List Frame} (C0 : lw_At p s m meth c b L xs) {H : Heap} {locs : List Loc} {k n : Nat} {ls : Array Slot} (hk : k ≤ 601024) (hn : n ≤ 7293034) (hS : va_S (kAs s) s.heap H locs) :
    W p l e room_1 s m #[Value.ref b] below meth c H locs k n (lw_Z below #[Value.ref b] s) (F0 m 1213 ls []) := by
  obtain ⟨hx, hb, hr, hml, hown, hts, hX, hbl, hlocks, hgv⟩ := C0
  refine lv_iconst (v := 1) hx hb dL_law_1213 (by decide) ?_
  refine va_forget (fun q hq => hS.2.2 q hq) ?_
  refine W.widen hk hn ?_
  refine W.base ?_
  exact lw_ret (Drawn.sameBut.refl s.drawn lw_cs) hx hb hr hlocks dL_law_1214
theorem ksub5 {L t : Nat} (h1 : L ≤ 100000) (h2 : 5 * t ≤ 100000) (h3 : L < 5 * t + 5) : Int32.ofNat L - 5 < nI (5 * t) := by
  rw [Int32.lt_iff_toInt_lt, Int32.toInt_sub, nI_toInt (by omega), show (Int32.ofNat L).toInt = (L : Int) from nI_toInt (by omega), show (5 : Int32).toInt = 5 by decide, Int.bmod_eq_of_le (by omega) (by omega)]
  omega
set_option maxHeartbeats 4000000 in
set_option maxRecDepth 100000 in
/-- from the loop's head, t calls done -/
theorem kloop {p : Program} {s : State} {m : MethodId} {meth : Method} {c : Code} {b L : Nat} {xs : Nat → Int32} (l : Launch) (hl0 : l.stackTraces = false) {e : Env} {below : List Frame} (hL : L ≤ 2560) (C0 : lw_At p s m meth c b L xs) {g : kG} {e0 : Nat} {z w : Nat → Nat} {o od : Nat} :
    ∀ (fu t : Nat) (S M O : wPS) (H : Heap) (locs : List Loc) (k n : Nat) (ls : Array Slot) (i : Int32), 512 < fu + t → 5 * t ≤ L → i = nI (5 * t) → kLc p s m c b L xs g e0 z w S M O o od H locs → kRel z w t S M → k ≤ 100 + 3 * t → n ≤ 20000 + 27 * t → lv_has ls 8 [(5, .int i), (4, .ref od), (3, .ref o), (2, .ref (w 0)), (1, .ref (z 0)), (0, .ref b)] → W p l e room_1 s m #[Value.ref b] below meth c H locs k n (lw_Z below #[Value.ref b] s) (F0 m 28 ls []) := by
  obtain ⟨hx, hb, -, -, -, -, hX, hbl, -, -⟩ := id C0
  have hbA : ¬ kAs s b := Nat.not_le.mpr hbl
  intro fu
  induction fu with
  | zero => intro t S M O H locs k n ls i h1 h2; omega
  | succ fu ih =>
    intro t S M O H locs k n ls i hfu h5 hi C hR hk hn hl
    have hS := C.2.2.2.2.1
    refine lv_iload hx hb dL_law_28 (lv_at hl 0 rfl) ?_
    refine lv_aload_n hx hb dL_law_30 rfl (lv_at hl 5 rfl) ?_
    refine va_slen hx hb hX hbl hbA hS dL_law_31 ?_
    refine lv_iconst (v := 5) hx hb dL_law_32 (by decide) ?_
    refine lv_isub hx hb dL_law_33 ?_
    refine lv_icmp_gt (tgt := 1213) hx hb dL_law_34 (by decide) (fun c1 => ?_) (fun c1 => ?_)
    · exact kexit l C0 (by omega) (by omega) hS
    · have hlt : 5 * t + 5 ≤ L := by
        rcases Nat.lt_or_ge L (5 * t + 5) with q | q
        · refine absurd ?_ c1
          rw [hi]
          exact ksub5 (by omega) (by omega) q
        · exact q
      have hin : ∀ j, j < 5 → vp_in (nI (5 * t + j)) L := fun j hj => vp_in_nI (by omega) (by omega)
      refine lv_aload_n hx hb dL_law_37 rfl (lv_at hl 5 rfl) ?_
      refine lv_iload hx hb dL_law_38 (lv_at hl 0 rfl) ?_
      refine va_sld hx hb hX hbl hbA hS (by rw [hi]; exact hin 0 (by decide)) dL_law_40 ?_
      refine lv_bipush (v := 63) hx hb dL_law_41 (by decide) ?_
      refine lv_iand hx hb dL_law_43 ?_
      have hix : ∀ j, j < 5 → vp_in (i + nI j) L := fun j hj => by rw [hi, nI_add]; exact hin j hj
      refine kswitch hl0 C ⟨⟨hix 1 (by decide), hix 2 (by decide), hix 3 (by decide), hix 4 (by decide)⟩, rfl, rfl, rfl, rfl⟩ hR (by omega) (by omega) (by omega) hl (fun S1 M1 O1 H locs ls C1 hR1 hl => ?_)
      obtain ⟨i5, ei5⟩ : ∃ y : Int32, y = i + 5 := ⟨_, rfl⟩
      refine lv_iinc (v := i5) (lv' := [(5, .int i5), (4, .ref od), (3, .ref o), (2, .ref (w 0)), (1, .ref (z 0)), (0, .ref b)]) hx hb dL_law_1207 hl (k := 0) rfl (by rw [ei5]; rfl) (by decide) rfl (fun ls hl => ?_)
      refine lv_goto (tgt := 28) hx hb dL_law_1210 (by decide) ?_
      exact ih (t + 1) S1 M1 O1 H locs _ _ ls i5 (by omega) (by omega) (by rw [ei5, hi]; exact nI_add (5 * t) 5) C1 hR1 (by omega) (by omega) hl
set_option maxHeartbeats 4000000 in
set_option maxRecDepth 100000 in
theorem kwhole {p : Program} {e : Env} {s : State} {m : MethodId} {below : List Frame} {meth : Method} {c : Code} (l : Launch) (hflags : l.flags = flags0) {b L : Nat} {xs : Nat → Int32} (hL : L ≤ 2560) (C0 : lw_At p s m meth c b L xs) : W p l e room_1 s m #[Value.ref b] below meth c s.heap [] 0 0 (lw_Z below #[Value.ref b] s) (entryFrame m ([Value.ref b] : List Value).toArray 8) := by
  obtain ⟨g, e0, hK, hE, hNc, hw⟩ := kstart C0
  obtain ⟨hx, hb, hr, hml, hown, hts, hX, hbl, hlocks, hgv⟩ := id C0
  have hl0 : l.stackTraces = false := by unfold Launch.stackTraces; rw [hflags]; decide +kernel
  have F : CallFix p m c cL_law 8 s #[.ref b] wsL_law RL := ⟨hx, hb, hml, hown, hw⟩
  have hA : ∀ q : Nat, s.heap.size ≤ q → kAs s q := fun _ h => h
  have hS : va_S (kAs s) s.heap s.heap [] := va_S.rf
  have hn0 : ∀ ws : va_W, ws ++ kW g kE0 = ws := fun ws => List.append_nil ws
  have hP : va_P (kD g) vwCl (kW g kE0) s.heap := fun k q h => absurd h (by rw [show kW g kE0 = [] from rfl]; simp)
  have hD : va_D (kAs s) (kW g kE0) := ⟨fun i j p q h => absurd h (by rw [show kW g kE0 = [] from rfl]; simp), fun k q h => absurd h (by rw [show kW g kE0 = [] from rfl]; simp)⟩
  have hl := lv_entry ([.ref b]) (n := 8) (Nat.le_of_ble_eq_true rfl)
  rw [lg_entry_eq]
  generalize (lg_sl ([.ref b]) ++ List.replicate (8 - (lg_sl ([.ref b])).length) Slot.unset).toArray = ls at hl ⊢
  have hl : lv_has ls 8 [(0, .ref b)] := hl
  refine rn_Pickwave F hK hP hD hS hA kw_0 kw_1 kw_2 (by show 0 + 1 ≤ 601024; omega) (by show 0 + 10 ≤ 7293034; omega) dL_law_0 (fun h H hq hP hD hS => ?_)
  refine lv_dup hx hb dL_law_3 rfl ?_
  refine kcallU (kIn (n := 0) (As := []) (rest := [.ref h]) (b := h) F hE hK hP hD hS hA (c_X5_init l hl0 g e0 (newO kE0 h 5) H.size h ⟨List.mem_cons_self, va_up_self _ _ _⟩ (fun k a h9 => List.mem_singleton.mp h9.1) (va_up_self _ _ _) (va_up_self _ _ _) (va_up_self _ _ _) (va_up_self _ _ _)) kw_8 kw_9 kw_2 kw_10 rfl (by decide +kernel) ⟨Nat.le_of_ble_eq_true rfl, Nat.le_of_ble_eq_true rfl⟩ rfl hl.1 rfl (Nat.le_of_ble_eq_true rfl) dL_law_4 ⟨(by show 0 + 1 + 14 ≤ 601024; omega), (by show 0 + 10 + 1068 ≤ 7293034; omega)⟩) rfl hD hS hA (fun _ _ _ _ _ h => False.elim h) (fun S H1 locs1 hp hPs hDs hSs => ?_)
  obtain ⟨z, hz0, hI, hF⟩ := hp
  subst hz0
  refine lv_astore_n (lv' := [(1, .ref (z 0)), (0, .ref b)]) hx hb dL_law_7 rfl hl (by decide) rfl (fun ls hl => ?_)
  refine rn3_Model (w0 := kW g S) (S := kE0) F hK (by rw [hn0]; exact hPs) (by rw [hn0]; exact hDs) hSs hA kw_3 kw_4 kw_5 (by show 0 + 1 + 14 + 1 ≤ 601024; omega) (by show 0 + 10 + 1068 + 24 ≤ 7293034; omega) dL_law_8 (fun q H hq hPa hDa hS => ?_)
  have hP := va_P_l hPa
  have hM := va_P_r hPa
  have hD := va_D_l hDa
  have hDM := va_D_r hDa
  have hdSM : kdis S (newO kE0 q 6) := kdis_of (w0 := []) hDa
  refine lv_dup hx hb dL_law_11 rfl ?_
  refine kcallWU (kIn (n := 0) (As := []) (rest := [.ref q]) (b := q) F hE hK hM hDM hS hA (c_X6_init l hl0 g e0 (newO kE0 q 6) H.size q ⟨List.mem_cons_self, va_up_self _ _ _⟩ (fun k a h9 => List.mem_singleton.mp h9.1) (fun k => va_up_self _ _ _)) kw_63 kw_64 kw_5 kw_65 rfl (by decide +kernel) ⟨Nat.le_of_ble_eq_true rfl, Nat.le_of_ble_eq_true rfl⟩ rfl hl.1 rfl (Nat.le_of_ble_eq_true rfl) dL_law_12 ⟨(by show 0 + 1 + 14 + 1 + 17 ≤ 601024; omega), (by show 0 + 10 + 1068 + 24 + 14101 ≤ 7293034; omega)⟩) rfl hDM hS hA (fun _ _ _ _ _ h => False.elim h) (fun M H2 locs2 hp hMm hDx hDm _ hf hSm => ?_)
  have hP1 := kO_keep hP (kdis_symm hdSM) hf
  have hdMS := kdis_keep hP (kdis_symm hdSM) hDx
  obtain ⟨w, hw0, hMI, hG⟩ := hp
  subst hw0
  refine lv_astore_n (lv' := [(2, .ref (w 0)), (1, .ref (z 0)), (0, .ref b)]) hx hb dL_law_15 rfl hl (by decide) rfl (fun ls hl => ?_)
  refine lv_iconst (v := 1) hx hb dL_law_16 (by decide) ?_
  refine rn3_R_J (w0 := kW g S ++ kW g M) (S := kE0) F hK (by rw [hn0]; exact va_P.app hP1 hMm) (by rw [hn0]; exact kD_app hD hDm (kdis_symm hdMS)) hSm hA kw_6 (by show 0 + 1 + 14 + 1 + 17 + 1 ≤ 601024; omega) (by show 0 + 10 + 1068 + 24 + 14101 + 1 ≤ 7293034; omega) dL_law_17 (fun o H hqo hPa hDa hS => ?_)
  refine lv_astore_n (lv' := [(3, .ref o), (2, .ref (w 0)), (1, .ref (z 0)), (0, .ref b)]) hx hb dL_law_19 rfl hl (by decide) rfl (fun ls hl => ?_)
  refine lv_iconst (v := 1) hx hb dL_law_20 (by decide) ?_
  refine rn3_R_D (w0 := kW g S ++ kW g M) F hK hPa hDa hS hA kw_7 (by show 0 + 1 + 14 + 1 + 17 + 1 + 1 ≤ 601024; omega) (by show 0 + 10 + 1068 + 24 + 14101 + 1 + 1 ≤ 7293034; omega) dL_law_21 (fun od H hqd hPb hDb hS => ?_)
  refine lv_astore (lv' := [(4, .ref od), (3, .ref o), (2, .ref (w 0)), (1, .ref (z 0)), (0, .ref b)]) hx hb dL_law_23 hl (by decide) rfl (fun ls hl => ?_)
  refine lv_iconst (v := 0) hx hb dL_law_25 (by decide) ?_
  refine lv_istore (lv' := [(5, .int 0), (4, .ref od), (3, .ref o), (2, .ref (w 0)), (1, .ref (z 0)), (0, .ref b)]) hx hb dL_law_26 hl (by decide) rfl (fun ls hl => ?_)
  have hne : o ≠ od := fun h9 => hqd (by rw [← h9]; exact List.mem_cons_self)
  have ho : Ob (setJ (newA (setJ (newA kE0 o 14 1) o 0) od 15 1) od 0) 14 o ∧ pN (setJ (newA (setJ (newA kE0 o 14 1) o 0) od 15 1) od 0) o = 1 ∧ Ob (setJ (newA (setJ (newA kE0 o 14 1) o 0) od 15 1) od 0) 15 od ∧ pN (setJ (newA (setJ (newA kE0 o 14 1) o 0) od 15 1) od 0) od = 1 := by
    refine ⟨⟨List.mem_cons_self, ?_⟩, ?_, ⟨List.mem_cons_of_mem _ List.mem_cons_self, va_up_self _ _ _⟩, va_up_self _ _ _⟩
    · show va_up (va_up (pK kE0) o 14) od 15 o = 14; rw [va_up_ne _ _ hne, va_up_self]
    · show va_up (va_up (pN kE0) o 1) od 1 o = 1; rw [va_up_ne _ _ hne, va_up_self]
  exact kloop l hl0 hL C0 513 0 _ _ _ _ _ _ _ ls 0 (by decide) (Nat.zero_le _) nI_0.symm ⟨⟨F, hK, hE, hNc, hX, hbl⟩, ⟨va_P_l (va_P_l hPb), va_P_r (va_P_l hPb), va_P_r hPb⟩, ⟨va_D_l (va_D_l hDb), va_D_r (va_D_l hDb), va_D_r hDb⟩, ⟨kdis_of2 hDb, kdis_symm hdMS, kdis_symm (kdis_of (w0 := kW g S) hDb)⟩, hS, ho, hI, hMI⟩ (kRel.new hF hG) (by decide) (by decide) hl
