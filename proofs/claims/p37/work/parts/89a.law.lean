set_option maxHeartbeats 8000000 in
set_option maxRecDepth 100000 in
theorem kdisp {p : Program} {l : Launch} {e : Env} {s : State} {m : MethodId} {below : List Frame} {meth : Method} {c : Code} {b L : Nat} {xs : Nat → Int32} {g : kG} {e0 : Nat} {z av lv : Nat → Nat} {S O : wPS} {q : qS} {ra rr rb ri : Nat} {H : Heap} {locs : List Loc} {k0 n0 : Nat} {Q : State → Prop} {ls : Array Slot} (hl0 : l.stackTraces = false) (hL9 : L ≤ 260) (C : kLw p s m c b L xs g e0 z av lv S O q ra rr rb ri H locs) (hU : q_U q ≤ 4000) (hk0 : k0 + 3000 ≤ 1072639) (hn0 : n0 + 20000 ≤ 5883708) {kd nx kx mm aa od on un : Int32} {bf : Int64} {a m9 o9 : Nat} (ha : a ≤ 3) (haa : aa.toInt = ((a : Nat) : Int)) (hm9 : m9 < 1000) (hmm : mm.toInt = ((m9 : Nat) : Int)) (ho9 : o9 ≤ q 73 0) (hod : od.toInt = ((o9 : Nat) : Int)) (hon : on.toInt = ((q 73 0 : Nat) : Int)) (hun : un.toInt = ((q_U q : Nat) : Int)) (hl : lv_has ls 23 [(18, .int 0), (17, .int 0), (16, .int od), (15, .int mm), (14, .int aa), (13, .int kd), (11, .long bf), (10, .int nx), (9, .int kx), (8, .int 1), (7, .int on), (6, .int un), (5, .ref ri), (4, .ref rb), (3, .ref rr), (2, .ref ra), (1, .ref (z 0)), (0, .ref b)])
    (kk : ∀ (S1 O1 : wPS) (av1 lv1 : Nat → Nat) (q1 : qS) (H1 : Heap) (locs1 : List Loc) (ls1 : Array Slot) (k1 n1 : Nat) (th on1 un1 : Int32), kLw p s m c b L xs g e0 z av1 lv1 S1 O1 q1 ra rr rb ri H1 locs1 → q_U q1 ≤ q_U q + 14 → (th = 0 ∨ (th = 1 ∧ q_sm q1 = q_sm q)) → on1.toInt = ((q1 73 0 : Nat) : Int) → un1.toInt = ((q_U q1 : Nat) : Int) → k1 ≤ k0 + 3000 → n1 ≤ n0 + 20000 → lv_has ls1 23 [(18, .int th), (11, .long bf), (10, .int nx), (9, .int kx), (8, .int 1), (7, .int on1), (6, .int un1), (5, .ref ri), (4, .ref rb), (3, .ref rr), (2, .ref ra), (1, .ref (z 0)), (0, .ref b)] → W p l e room_1 s m #[Value.ref b] below meth c H1 locs1 k1 n1 Q (F0 m 1227 ls1 [])) :
    W p l e room_1 s m #[Value.ref b] below meth c H locs k0 n0 Q (F0 m 254 ls []) := by
  have hx := C.1.1.1
  have hb := C.1.1.2.1
  obtain ⟨-, -, -, -, -, -, hO9⟩ := id C
  obtain ⟨⟨oa, la⟩, ⟨orr, lr⟩, ⟨obb, lb⟩, ⟨oi, li⟩, hne, hra, hrb, hri⟩ := id hO9
  refine lv_iload hx hb dL_law_254 (lv_at hl 5 rfl) ?_
  refine lv_iconst (v := 5) hx hb dL_law_256 (by decide) ?_
  refine lv_icmp_ge (tgt := 358) hx hb dL_law_257 (by decide) (fun c1 => ?_) (fun c1 => ?_)
  · have d1 : (5) ≤ kd.toInt := (kc_le (by decide : (5 : Int32).toInt = 5) (rfl : kd.toInt = kd.toInt)).mp c1
    refine lv_iload hx hb dL_law_358 (lv_at hl 5 rfl) ?_
    refine lv_iconst (v := 5) hx hb dL_law_360 (by decide) ?_
    refine lv_icmp_ne (tgt := 424) hx hb dL_law_361 (by decide) (fun c2 => ?_) (fun c2 => ?_)
    · have d2 : kd.toInt ≠ (5) := mt (kc_eq (rfl : kd.toInt = kd.toInt) (by decide : (5 : Int32).toInt = 5)).mpr c2
      refine lv_iload hx hb dL_law_424 (lv_at hl 5 rfl) ?_
      refine lv_bipush (v := 8) hx hb dL_law_426 (by decide) ?_
      refine lv_icmp_ge (tgt := 504) hx hb dL_law_428 (by decide) (fun c3 => ?_) (fun c3 => ?_)
      · have d3 : (8) ≤ kd.toInt := (kc_le (by decide : (8 : Int32).toInt = 8) (rfl : kd.toInt = kd.toInt)).mp c3
        refine lv_iload hx hb dL_law_504 (lv_at hl 5 rfl) ?_
        refine lv_bipush (v := 8) hx hb dL_law_506 (by decide) ?_
        refine lv_icmp_ne (tgt := 541) hx hb dL_law_508 (by decide) (fun c4 => ?_) (fun c4 => ?_)
        · have d4 : kd.toInt ≠ (8) := mt (kc_eq (rfl : kd.toInt = kd.toInt) (by decide : (8 : Int32).toInt = 8)).mpr c4
          refine lv_iload hx hb dL_law_541 (lv_at hl 5 rfl) ?_
          refine lv_bipush (v := 11) hx hb dL_law_543 (by decide) ?_
          refine lv_icmp_ge (tgt := 647) hx hb dL_law_545 (by decide) (fun c5 => ?_) (fun c5 => ?_)
          · have d5 : (11) ≤ kd.toInt := (kc_le (by decide : (11 : Int32).toInt = 11) (rfl : kd.toInt = kd.toInt)).mp c5
            refine lv_iload hx hb dL_law_647 (lv_at hl 5 rfl) ?_
            refine lv_bipush (v := 16) hx hb dL_law_649 (by decide) ?_
            refine lv_icmp_ge (tgt := 887) hx hb dL_law_651 (by decide) (fun c6 => ?_) (fun c6 => ?_)
            · have d6 : (16) ≤ kd.toInt := (kc_le (by decide : (16 : Int32).toInt = 16) (rfl : kd.toInt = kd.toInt)).mp c6
              refine lv_iload hx hb dL_law_887 (lv_at hl 5 rfl) ?_
              refine lv_bipush (v := 18) hx hb dL_law_889 (by decide) ?_
              refine lv_icmp_ge (tgt := 951) hx hb dL_law_891 (by decide) (fun c7 => ?_) (fun c7 => ?_)
              · have d7 : (18) ≤ kd.toInt := (kc_le (by decide : (18 : Int32).toInt = 18) (rfl : kd.toInt = kd.toInt)).mp c7
                refine lv_iload hx hb dL_law_951 (lv_at hl 5 rfl) ?_
                refine lv_bipush (v := 22) hx hb dL_law_953 (by decide) ?_
                refine lv_icmp_ge (tgt := 1030) hx hb dL_law_955 (by decide) (fun c8 => ?_) (fun c8 => ?_)
                · have d8 : (22) ≤ kd.toInt := (kc_le (by decide : (22 : Int32).toInt = 22) (rfl : kd.toInt = kd.toInt)).mp c8
                  refine lv_iload hx hb dL_law_1030 (lv_at hl 5 rfl) ?_
                  refine lv_bipush (v := 25) hx hb dL_law_1032 (by decide) ?_
                  refine lv_icmp_ge (tgt := 1156) hx hb dL_law_1034 (by decide) (fun c9 => ?_) (fun c9 => ?_)
                  · have d9 : (25) ≤ kd.toInt := (kc_le (by decide : (25 : Int32).toInt = 25) (rfl : kd.toInt = kd.toInt)).mp c9
                    exact kcs_pass hl0 hL9 C hU hk0 hn0 ha haa hm9 hmm ho9 hod hon hun hl kk
                  · have d9 : ¬ ((25) ≤ kd.toInt) := mt (kc_le (by decide : (25 : Int32).toInt = 25) (rfl : kd.toInt = kd.toInt)).mpr c9
                    exact kcs_send hl0 hL9 C hU hk0 hn0 ha haa hm9 hmm ho9 hod hon hun hl kk
                · have d8 : ¬ ((22) ≤ kd.toInt) := mt (kc_le (by decide : (22 : Int32).toInt = 22) (rfl : kd.toInt = kd.toInt)).mpr c8
                  exact kcs_wave hl0 hL9 C hU hk0 hn0 ha haa hm9 hmm ho9 hod hon hun hl kk
              · have d7 : ¬ ((18) ≤ kd.toInt) := mt (kc_le (by decide : (18 : Int32).toInt = 18) (rfl : kd.toInt = kd.toInt)).mpr c7
                exact kcs_ship hl0 hL9 C hU hk0 hn0 ha haa hm9 hmm ho9 hod hon hun hl kk
            · have d6 : ¬ ((16) ≤ kd.toInt) := mt (kc_le (by decide : (16 : Int32).toInt = 16) (rfl : kd.toInt = kd.toInt)).mpr c6
              exact kcs_pick hl0 hL9 C hU hk0 hn0 ha haa hm9 hmm ho9 hod hon hun hl kk
          · have d5 : ¬ ((11) ≤ kd.toInt) := mt (kc_le (by decide : (11 : Int32).toInt = 11) (rfl : kd.toInt = kd.toInt)).mpr c5
            exact kcs_giveBack hl0 hL9 C hU hk0 hn0 ha haa hm9 hmm ho9 hod hon hun hl kk
        · have d4 : kd.toInt = (8) := (kc_eq (rfl : kd.toInt = kd.toInt) (by decide : (8 : Int32).toInt = 8)).mp c4
          exact kcs_setPickers hl0 hL9 C hU hk0 hn0 ha haa hm9 hmm ho9 hod hon hun hl kk
      · have d3 : ¬ ((8) ≤ kd.toInt) := mt (kc_le (by decide : (8 : Int32).toInt = 8) (rfl : kd.toInt = kd.toInt)).mpr c3
        exact kcs_setBlocked hl0 hL9 C hU hk0 hn0 ha haa hm9 hmm ho9 hod hon hun hl kk
    · have d2 : kd.toInt = (5) := (kc_eq (rfl : kd.toInt = kd.toInt) (by decide : (5 : Int32).toInt = 5)).mp c2
      exact kcs_drop hl0 hL9 C hU hk0 hn0 ha haa hm9 hmm ho9 hod hon hun hl kk
  · have d1 : ¬ ((5) ≤ kd.toInt) := mt (kc_le (by decide : (5 : Int32).toInt = 5) (rfl : kd.toInt = kd.toInt)).mpr c1
    exact kcs_order hl0 hL9 C hU hk0 hn0 ha haa hm9 hmm ho9 hod hon hun hl kk
