set_option maxHeartbeats 8000000 in
set_option maxRecDepth 100000 in
theorem kwhole {p : Program} {e : Env} {s : State} {m : MethodId} {below : List Frame} {meth : Method} {c : Code} (l : Launch) (hflags : l.flags = flags0) {b L : Nat} {xs : Nat → Int32} (hL9 : L ≤ 260) (C0 : lw_At p s m meth c b L xs) : W p l e room_1 s m #[Value.ref b] below meth c s.heap [] 0 0 (lw_Z below #[Value.ref b] s) (entryFrame m ([Value.ref b] : List Value).toArray 23) := by
  obtain ⟨g, e0, hK, hE, hNc, hw⟩ := kstart C0
  obtain ⟨hx, hb, hr, hml, hown, hts, hX, hbl, hlocks, hgv⟩ := id C0
  have hl0 : l.stackTraces = false := by unfold Launch.stackTraces; rw [hflags]; decide +kernel
  have F : CallFix p m c cL_law 23 s #[.ref b] wsL_law RL := ⟨hx, hb, hml, hown, hw⟩
  have hA : ∀ q : Nat, s.heap.size ≤ q → kAs s q := fun _ h => h
  have hS : va_S (kAs s) s.heap s.heap [] := va_S.rf
  have hP0 : ∀ H : Heap, va_P (kD g) vwCl (kW g kE0) H := fun H k q h => absurd h (by rw [show kW g kE0 = [] from rfl]; simp)
  have hD0 : va_D (kAs s) (kW g kE0) := ⟨fun i j p q h => absurd h (by rw [show kW g kE0 = [] from rfl]; simp), fun k q h => absurd h (by rw [show kW g kE0 = [] from rfl]; simp)⟩
  have hP := hP0 s.heap
  have hD := hD0
  have hl := lv_entry ([.ref b]) (n := 23) (Nat.le_of_ble_eq_true rfl)
  rw [lg_entry_eq]
  generalize (lg_sl ([.ref b]) ++ List.replicate (23 - (lg_sl ([.ref b])).length) Slot.unset).toArray = ls at hl ⊢
  have hl : lv_has ls 23 [(0, .ref b)] := hl
  refine rn_Pickwave F hK hP hD hS hA kw_0 kw_1 kw_2 (by show 0 + 1 ≤ 1072639; omega) (by show 0 + 10 ≤ 5883708; omega) dL_law_0 (fun h H hq hP hD hS => ?_)
  refine lv_dup hx hb dL_law_3 rfl ?_
  refine kcallU (kIn (n := 0) (As := []) (rest := [.ref h]) (b := h) F hE hK hP hD hS hA (c_X5_init_y l hl0 g e0 (newO kE0 h 5) H.size h ⟨List.mem_cons_self, va_up_self _ _ _⟩ (fun k a h9 => List.mem_singleton.mp h9.1) (va_up_self _ _ _) (va_up_self _ _ _) (va_up_self _ _ _) (va_up_self _ _ _)) kw_5 kw_6 kw_2 kw_7 rfl (by decide +kernel) ⟨Nat.le_of_ble_eq_true rfl, Nat.le_of_ble_eq_true rfl⟩ rfl hl.1 rfl (Nat.le_of_ble_eq_true rfl) dL_law_4 ⟨(by show 0 + 1 + 14 ≤ 1072639; omega), (by show 0 + 10 + 1068 ≤ 5883708; omega)⟩) rfl hD hS hA (fun _ _ _ _ _ h => False.elim h) (fun S H locs hp hPn hDn hSn => ?_)
  obtain ⟨z, hz0, hI, hF, hf0⟩ := hp
  subst hz0
  have hP := hPn
  have hD := hDn
  have hS := hSn
  refine lv_astore_n (lv' := [(1, .ref (z 0)), (0, .ref b)]) hx hb dL_law_7 rfl hl (by decide) rfl (fun ls hl => ?_)
  have hO := hP0 H
  have hDO := hD0
  have hdis : kdis S kE0 := fun a _ h => absurd h List.not_mem_nil
  refine lv_iconst (v := 3) hx hb dL_law_8 (by decide) ?_
  refine rn3_R_I (w0 := kW g S) (N := 3) F hK (va_P.app hP hO) (kD_app hD hDO hdis) hS hA kw_3 (by decide) (by decide) (Nat.le_of_ble_eq_true rfl) (by show 0 + 1 + 14 + 1 ≤ 1072639; omega) (by show 0 + 10 + 1068 + 3 ≤ 5883708; omega) dL_law_9 (fun p21 H hp21 hPa hDa hS => ?_)
  have hP := va_P_l hPa
  have hO := va_P_r hPa
  have hDO := va_D_r hDa
  have hdis := kd_of2 hDa
  refine lv_astore_n (lv' := [(2, .ref p21), (1, .ref (z 0)), (0, .ref b)]) hx hb dL_law_11 rfl hl (by decide) rfl (fun ls hl => ?_)
  refine lv_iconst (v := 3) hx hb dL_law_12 (by decide) ?_
  refine rn3_R_I (w0 := kW g S) (N := 3) F hK (va_P.app hP hO) (kD_app hD hDO hdis) hS hA kw_3 (by decide) (by decide) (Nat.le_of_ble_eq_true rfl) (by show 0 + 1 + 14 + 1 + 1 ≤ 1072639; omega) (by show 0 + 10 + 1068 + 3 + 3 ≤ 5883708; omega) dL_law_13 (fun p22 H hp22 hPa hDa hS => ?_)
  have hP := va_P_l hPa
  have hO := va_P_r hPa
  have hDO := va_D_r hDa
  have hdis := kd_of2 hDa
  refine lv_astore_n (lv' := [(3, .ref p22), (2, .ref p21), (1, .ref (z 0)), (0, .ref b)]) hx hb dL_law_15 rfl hl (by decide) rfl (fun ls hl => ?_)
  refine lv_iconst (v := 4) hx hb dL_law_16 (by decide) ?_
  refine rn3_R_Z (w0 := kW g S) (N := 4) F hK (va_P.app hP hO) (kD_app hD hDO hdis) hS hA kw_4 (by decide) (by decide) (Nat.le_of_ble_eq_true rfl) (by show 0 + 1 + 14 + 1 + 1 + 1 ≤ 1072639; omega) (by show 0 + 10 + 1068 + 3 + 3 + 4 ≤ 5883708; omega) dL_law_17 (fun p23 H hp23 hPa hDa hS => ?_)
  have hP := va_P_l hPa
  have hO := va_P_r hPa
  have hDO := va_D_r hDa
  have hdis := kd_of2 hDa
  refine lv_astore (lv' := [(4, .ref p23), (3, .ref p22), (2, .ref p21), (1, .ref (z 0)), (0, .ref b)]) hx hb dL_law_19 hl (by decide) rfl (fun ls hl => ?_)
  refine lv_bipush (v := 12) hx hb dL_law_21 (by decide) ?_
  refine rn3_R_I (w0 := kW g S) (N := 12) F hK (va_P.app hP hO) (kD_app hD hDO hdis) hS hA kw_3 (by decide) (by decide) (Nat.le_of_ble_eq_true rfl) (by show 0 + 1 + 14 + 1 + 1 + 1 + 1 ≤ 1072639; omega) (by show 0 + 10 + 1068 + 3 + 3 + 4 + 12 ≤ 5883708; omega) dL_law_23 (fun p24 H hp24 hPa hDa hS => ?_)
  have hP := va_P_l hPa
  have hO := va_P_r hPa
  have hDO := va_D_r hDa
  have hdis := kd_of2 hDa
  refine lv_astore (lv' := [(5, .ref p24), (4, .ref p23), (3, .ref p22), (2, .ref p21), (1, .ref (z 0)), (0, .ref b)]) hx hb dL_law_25 hl (by decide) rfl (fun ls hl => ?_)
  refine lv_iconst (v := 0) hx hb dL_law_27 (by decide) ?_
  refine lv_istore (lv' := [(6, .int 0), (5, .ref p24), (4, .ref p23), (3, .ref p22), (2, .ref p21), (1, .ref (z 0)), (0, .ref b)]) hx hb dL_law_28 hl (by decide) rfl (fun ls hl => ?_)
  refine lv_iconst (v := 0) hx hb dL_law_30 (by decide) ?_
  refine lv_istore (lv' := [(7, .int 0), (6, .int 0), (5, .ref p24), (4, .ref p23), (3, .ref p22), (2, .ref p21), (1, .ref (z 0)), (0, .ref b)]) hx hb dL_law_31 hl (by decide) rfl (fun ls hl => ?_)
  refine lv_iconst (v := 1) hx hb dL_law_33 (by decide) ?_
  refine lv_istore (lv' := [(8, .int 1), (7, .int 0), (6, .int 0), (5, .ref p24), (4, .ref p23), (3, .ref p22), (2, .ref p21), (1, .ref (z 0)), (0, .ref b)]) hx hb dL_law_34 hl (by decide) rfl (fun ls hl => ?_)
  refine lv_iconst (v := 0) hx hb dL_law_36 (by decide) ?_
  refine lv_istore (lv' := [(9, .int 0), (8, .int 1), (7, .int 0), (6, .int 0), (5, .ref p24), (4, .ref p23), (3, .ref p22), (2, .ref p21), (1, .ref (z 0)), (0, .ref b)]) hx hb dL_law_37 hl (by decide) rfl (fun ls hl => ?_)
  refine lv_iconst (v := 0) hx hb dL_law_39 (by decide) ?_
  refine lv_istore (lv' := [(10, .int 0), (9, .int 0), (8, .int 1), (7, .int 0), (6, .int 0), (5, .ref p24), (4, .ref p23), (3, .ref p22), (2, .ref p21), (1, .ref (z 0)), (0, .ref b)]) hx hb dL_law_40 hl (by decide) rfl (fun ls hl => ?_)
  have ne01 : p21 ≠ p22 := fun e9 => hp22 (by rw [← e9]; exact List.mem_append_right _ List.mem_cons_self)
  have ne02 : p21 ≠ p23 := fun e9 => hp23 (by rw [← e9]; exact List.mem_append_left _ (List.mem_append_right _ List.mem_cons_self))
  have ne12 : p22 ≠ p23 := fun e9 => hp23 (by rw [← e9]; exact List.mem_append_right _ List.mem_cons_self)
  have ne03 : p21 ≠ p24 := fun e9 => hp24 (by rw [← e9]; exact List.mem_append_left _ (List.mem_append_left _ (List.mem_append_right _ List.mem_cons_self)))
  have ne13 : p22 ≠ p24 := fun e9 => hp24 (by rw [← e9]; exact List.mem_append_left _ (List.mem_append_right _ List.mem_cons_self))
  have ne23 : p23 ≠ p24 := fun e9 => hp24 (by rw [← e9]; exact List.mem_append_right _ List.mem_cons_self)
  have hO9 : q_P (newA (newA (newA (newA kE0 p21 9 3) p22 9 3) p23 10 4) p24 9 12) p21 p22 p23 p24 q_0 := by
    refine ⟨⟨⟨List.mem_append_left _ (List.mem_append_left _ (List.mem_append_left _ (List.mem_append_right _ List.mem_cons_self))), (va_up_ne _ _ ne03).trans ((va_up_ne _ _ ne02).trans ((va_up_ne _ _ ne01).trans (va_up_self _ _ _)))⟩, (va_up_ne _ _ ne03).trans ((va_up_ne _ _ ne02).trans ((va_up_ne _ _ ne01).trans (va_up_self _ _ _)))⟩, ⟨⟨List.mem_append_left _ (List.mem_append_left _ (List.mem_append_right _ List.mem_cons_self)), (va_up_ne _ _ ne13).trans ((va_up_ne _ _ ne12).trans (va_up_self _ _ _))⟩, (va_up_ne _ _ ne13).trans ((va_up_ne _ _ ne12).trans (va_up_self _ _ _))⟩, ⟨⟨List.mem_append_left _ (List.mem_append_right _ List.mem_cons_self), (va_up_ne _ _ ne23).trans (va_up_self _ _ _)⟩, (va_up_ne _ _ ne23).trans (va_up_self _ _ _)⟩, ⟨⟨List.mem_append_right _ List.mem_cons_self, va_up_self _ _ _⟩, va_up_self _ _ _⟩, ⟨ne03, ne13, ne23, ne02, ne12, ne01⟩, fun a ha => absurd ha (by rw [q_0_o (by decide)]; exact Nat.not_lt_zero _), fun j hj => ?_⟩
    rw [q_0_o (by decide)]
    show va_up (va_up _ p23 (fun _ => 0)) p24 (fun _ => 0) p23 j = 0
    rw [va_up_ne _ _ ne23, va_up_self]
  exact kfirst hl0 hL9 hr hlocks 4 0 S (newA (newA (newA (newA kE0 p21 9 3) p22 9 3) p23 10 4) p24 9 12) (fun _ => 0) (fun _ => 0) q_0 _ _ _ _ ls 0 0 0 (by decide) (by decide) ⟨F, hK, hE, hNc, hX, hbl⟩ hP hO hD hDO hdis hS hI (q_0_R hF hf0) q_0_W (q_0_o (by decide)) (q_0_o (by decide)) q_0_M (fun a _ => ⟨q_0_o (by decide), q_0_o (by decide)⟩) hO9 (by rw [q_0_U]; exact Nat.zero_le _) (by decide) (by decide) (by rw [q_0_U]; decide) (by omega) (by omega) (lv_sub hl [0, 1, 2, 3, 4, 5, 6, 7, 8, 9, 10] rfl)
