theorem dL_cell_0 : decode cL_cell 0 = .ok (.iload_n 1, 1) := by decide +kernel
theorem dL_cell_1 : decode cL_cell 1 = .ok (.aload_n 0, 1) := by decide +kernel
theorem dL_cell_2 : decode cL_cell 2 = .ok (.arraylength, 1) := by decide +kernel
theorem dL_cell_3 : decode cL_cell 3 = .ok (.if_icmp .ge 9, 3) := by decide +kernel
theorem dL_cell_6 : decode cL_cell 6 = .ok (.aload_n 0, 1) := by decide +kernel
theorem dL_cell_7 : decode cL_cell 7 = .ok (.iload_n 1, 1) := by decide +kernel
theorem dL_cell_8 : decode cL_cell 8 = .ok (.iaload, 1) := by decide +kernel
theorem dL_cell_9 : decode cL_cell 9 = .ok (.goto 7, 3) := by decide +kernel
theorem dL_cell_12 : decode cL_cell 12 = .ok (.ldc 7, 2) := by decide +kernel
theorem dL_cell_14 : decode cL_cell 14 = .ok (.iload_n 1, 1) := by decide +kernel
theorem dL_cell_15 : decode cL_cell 15 = .ok (.imul, 1) := by decide +kernel
theorem dL_cell_16 : decode cL_cell 16 = .ok (.ireturn, 1) := by decide +kernel
theorem dL_pick_0 : decode cL_pick 0 = .ok (.aload_n 0, 1) := by decide +kernel
theorem dL_pick_1 : decode cL_pick 1 = .ok (.iload_n 1, 1) := by decide +kernel
theorem dL_pick_2 : decode cL_pick 2 = .ok (.invokestatic 8, 3) := by decide +kernel
theorem dL_pick_5 : decode cL_pick 5 = .ok (.iconst 1, 1) := by decide +kernel
theorem dL_pick_6 : decode cL_pick 6 = .ok (.iushr, 1) := by decide +kernel
theorem dL_pick_7 : decode cL_pick 7 = .ok (.iload_n 2, 1) := by decide +kernel
theorem dL_pick_8 : decode cL_pick 8 = .ok (.irem, 1) := by decide +kernel
theorem dL_pick_9 : decode cL_pick 9 = .ok (.ireturn, 1) := by decide +kernel
theorem c_L_cell (l : Launch) {b L sz : Nat} {xs : Nat → Int32} (hL9 : L ≤ 260) (k : Int32) {i : Nat} (hk : k.toInt = ((i : Nat) : Int)) (hi : i < 100000) : kMs l yL_cell cL_cell 2 0 0 [.ref b, .int k] b L xs sz (fun _ => True) := by
  refine kMs.of (by decide) (Nat.le_of_ble_eq_true rfl) ?_
  intro p e s m below meth c ls F hr hlk hX hbl hS hl hsz
  subst hsz
  have hx := F.1
  have hb := F.2.1
  have hl : lv_has ls 2 [(0, .ref b), (1, .int k)] := hl
  have hbA : ¬ (fun q : Nat => s.heap.size ≤ q) b := Nat.not_le.mpr hbl
  refine lv_iload_n hx hb dL_cell_0 rfl (lv_at hl 1 rfl) ?_
  refine lv_aload_n hx hb dL_cell_1 rfl (lv_at hl 0 rfl) ?_
  refine va_slen hx hb hX hbl hbA hS dL_cell_2 ?_
  refine lv_icmp_ge (tgt := 12) hx hb dL_cell_3 (by decide) (fun c1 => ?_) (fun c1 => ?_)
  · refine lv_ldc hx hb F.2.2.2.1 (F.2.2.2.2 _ kw_66) dL_cell_12 ?_
    refine lv_iload_n hx hb dL_cell_14 rfl (lv_at hl 1 rfl) ?_
    refine lv_imul hx hb dL_cell_15 ?_
    exact kEnds F hr hlk hS dL_cell_16 trivial
  · have d1 : ¬ ((L : Nat) : Int) ≤ k.toInt := mt (kc_le (show (Int32.ofNat L).toInt = ((L : Nat) : Int) from nI_toInt (by omega)) rfl).mpr c1
    refine lv_aload_n hx hb dL_cell_6 rfl (lv_at hl 0 rfl) ?_
    refine lv_iload_n hx hb dL_cell_7 rfl (lv_at hl 1 rfl) ?_
    refine va_sld hx hb hX hbl hbA hS (kt_in hk (by omega) (by omega)) dL_cell_8 ?_
    refine lv_goto (tgt := 16) hx hb dL_cell_9 (by decide) ?_
    exact kEnds F hr hlk hS dL_cell_16 trivial
theorem c_L_pick (l : Launch) {b L sz : Nat} {xs : Nat → Int32} (hL9 : L ≤ 260) (k : Int32) {i : Nat} (hk : k.toInt = ((i : Nat) : Int)) (hi : i < 100000) {N : Nat} (h0 : 0 < N) (hN : N < 2 ^ 31) {nn : Int32} (hn : nn = nI N) : kMs l yL_pick cL_pick 3 1 21 [.ref b, .int k, .int nn] b L xs sz (fun r => ∃ j : Nat, j < N ∧ r.toInt = ((j : Nat) : Int)) := by
  refine kMs.of (by decide) (Nat.le_of_ble_eq_true rfl) ?_
  intro p e s m below meth c ls F hr hlk hX hbl hS hl hsz
  subst hsz
  have hx := F.1
  have hb := F.2.1
  have hl : lv_has ls 3 [(0, .ref b), (1, .int k), (2, .int nn)] := hl
  have hbA : ¬ (fun q : Nat => s.heap.size ≤ q) b := Nat.not_le.mpr hbl
  have hA : ∀ q : Nat, s.heap.size ≤ q → (fun q : Nat => s.heap.size ≤ q) q := fun _ h => h
  refine lv_aload_n hx hb dL_pick_0 rfl (lv_at hl 0 rfl) ?_
  refine lv_iload_n hx hb dL_pick_1 rfl (lv_at hl 1 rfl) ?_
  refine kcalls (kSts (n := 2) (As := [.ref b, .int k]) (rest := []) F hX hbl hbA hS (c_L_cell l hL9 k hk hi) kw_63 kw_64 kw_61 kw_65 (by decide +kernel) ⟨Nat.le_of_ble_eq_true rfl, Nat.le_of_ble_eq_true rfl⟩ rfl hl.1 rfl (Nat.le_of_ble_eq_true rfl) dL_pick_2 ⟨Nat.le_of_ble_eq_true rfl, Nat.le_of_ble_eq_true rfl⟩) rfl hS hA (fun r H locs _ hf1 hS => ?_)
  refine lv_iconst (v := 1) hx hb dL_pick_5 (by decide) ?_
  obtain ⟨j, hj, ej⟩ := kt_ush r
  refine lv_iushr (v := nI j) hx hb dL_pick_6 ej ?_
  refine lv_iload_n hx hb dL_pick_7 rfl (lv_at hl 2 rfl) ?_
  refine lv_irem hx hb dL_pick_8 (fun h => by rw [hn] at h; have := nI_inj (b := 0) hN (by decide) h; omega) ?_
  refine kEnds F hr hlk hS dL_pick_9 ⟨j % N, Nat.mod_lt _ h0, ?_⟩
  rw [hn, pk_rem hj h0 hN]
  exact nI_toInt (Nat.lt_of_lt_of_le (Nat.mod_lt _ h0) (Nat.le_of_lt hN))
