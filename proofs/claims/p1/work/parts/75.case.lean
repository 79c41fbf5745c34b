theorem dL_law_1828 : decode cL_law 1828 = .ok (.aload_n 1, 1) := by decide +kernel
theorem dL_law_1829 : decode cL_law 1829 = .ok (.aload_n 0, 1) := by decide +kernel
theorem dL_law_1830 : decode cL_law 1830 = .ok (.iload 5, 2) := by decide +kernel
theorem dL_law_1832 : decode cL_law 1832 = .ok (.iconst 1, 1) := by decide +kernel
theorem dL_law_1833 : decode cL_law 1833 = .ok (.iadd, 1) := by decide +kernel
theorem dL_law_1834 : decode cL_law 1834 = .ok (.iaload, 1) := by decide +kernel
theorem dL_law_1835 : decode cL_law 1835 = .ok (.aload_n 3, 1) := by decide +kernel
theorem dL_law_1836 : decode cL_law 1836 = .ok (.invokestatic 220, 3) := by decide +kernel
theorem dL_law_1839 : decode cL_law 1839 = .ok (.istore 6, 2) := by decide +kernel
theorem dL_law_1841 : decode cL_law 1841 = .ok (.aload_n 2, 1) := by decide +kernel
theorem dL_law_1842 : decode cL_law 1842 = .ok (.aload_n 0, 1) := by decide +kernel
theorem dL_law_1843 : decode cL_law 1843 = .ok (.iload 5, 2) := by decide +kernel
theorem dL_law_1845 : decode cL_law 1845 = .ok (.iconst 1, 1) := by decide +kernel
theorem dL_law_1846 : decode cL_law 1846 = .ok (.iadd, 1) := by decide +kernel
theorem dL_law_1847 : decode cL_law 1847 = .ok (.iaload, 1) := by decide +kernel
theorem dL_law_1848 : decode cL_law 1848 = .ok (.invokevirtual 222, 3) := by decide +kernel
theorem dL_law_1851 : decode cL_law 1851 = .ok (.istore 7, 2) := by decide +kernel
theorem dL_law_1853 : decode cL_law 1853 = .ok (.aload_n 2, 1) := by decide +kernel
theorem dL_law_1854 : decode cL_law 1854 = .ok (.invokevirtual 120, 3) := by decide +kernel
theorem dL_law_1857 : decode cL_law 1857 = .ok (.iload 6, 2) := by decide +kernel
theorem dL_law_1859 : decode cL_law 1859 = .ok (.if_icmp .eq 5, 3) := by decide +kernel
theorem dL_law_1862 : decode cL_law 1862 = .ok (.iconst 0, 1) := by decide +kernel
theorem dL_law_1863 : decode cL_law 1863 = .ok (.ireturn, 1) := by decide +kernel
theorem dL_law_1864 : decode cL_law 1864 = .ok (.iload 6, 2) := by decide +kernel
theorem dL_law_1866 : decode cL_law 1866 = .ok (.ifCond .ne 15, 3) := by decide +kernel
theorem dL_law_1869 : decode cL_law 1869 = .ok (.aload_n 3, 1) := by decide +kernel
theorem dL_law_1870 : decode cL_law 1870 = .ok (.iconst 0, 1) := by decide +kernel
theorem dL_law_1871 : decode cL_law 1871 = .ok (.laload, 1) := by decide +kernel
theorem dL_law_1872 : decode cL_law 1872 = .ok (.iload 7, 2) := by decide +kernel
theorem dL_law_1874 : decode cL_law 1874 = .ok (.i2l, 1) := by decide +kernel
theorem dL_law_1875 : decode cL_law 1875 = .ok (.lcmp, 1) := by decide +kernel
theorem dL_law_1876 : decode cL_law 1876 = .ok (.ifCond .eq 5, 3) := by decide +kernel
theorem dL_law_1879 : decode cL_law 1879 = .ok (.iconst 0, 1) := by decide +kernel
theorem dL_law_1880 : decode cL_law 1880 = .ok (.ireturn, 1) := by decide +kernel
theorem dL_law_1881 : decode cL_law 1881 = .ok (.goto 139, 3) := by decide +kernel
set_option maxHeartbeats 4000000 in
set_option maxRecDepth 100000 in
theorem kcase_scanOrder {p : Program} {l : Launch} {e : Env} {s : State} {m : MethodId} {below : List Frame} {meth : Method} {c : Code} {b L : Nat} {xs : Nat → Int32} {g : kG} {e0 : Nat} {z w : Nat → Nat} {S M O : wPS} {o od : Nat} {H : Heap} {locs : List Loc} {k0 n0 : Nat} {Q : State → Prop} {ls : Array Slot} {i n1 n2 n3 n4 : Int32} (hl0 : l.stackTraces = false) (C : kLc p s m c b L xs g e0 z w S M O o od H locs) (hi : kIx L xs i n1 n2 n3 n4) (hF : Fr z S) (hG : MFr w M) (hk0 : k0 + 3 ≤ 600002) (hn0 : n0 + 27 ≤ 7302232) (hl : lv_has ls 8 [(5, .int i), (4, .ref od), (3, .ref o), (2, .ref (w 0)), (1, .ref (z 0)), (0, .ref b)])
    (kk : ∀ (H1 : Heap) (locs1 : List Loc) (ls1 : Array Slot), va_S (kAs s) s.heap H1 locs1 → lv_has ls1 8 [(5, .int i), (4, .ref od), (3, .ref o), (2, .ref (w 0)), (1, .ref (z 0)), (0, .ref b)] → W p l e room_1 s m #[Value.ref b] below meth c H1 locs1 (k0 + 3) (n0 + 27) Q (F0 m 2020 ls1 [])) :
    W p l e room_1 s m #[Value.ref b] below meth c H locs k0 n0 Q (F0 m 1828 ls []) := by
  obtain ⟨⟨F, hK, hE, hNc, hX, hbl⟩, ⟨hP, hM, hO⟩, ⟨hD, hDM, hDO⟩, ⟨hdSO, hdSM, hdOM⟩, hS, ho, hI, hMI⟩ := C
  obtain ⟨⟨i1, i2, i3, i4⟩, v1, v2, v3, v4⟩ := hi
  have hx := F.1
  have hb := F.2.1
  have hbA : ¬ kAs s b := Nat.not_le.mpr hbl
  have hA : ∀ q : Nat, s.heap.size ≤ q → kAs s q := fun _ h => h
  have m102 : pF M 102 (w 0) = 0 := hG.1 102 (by decide) (by decide)
  have m106 : pF M 106 (w 0) = 0 := hG.1 106 (by decide) (by decide)
  refine lv_aload_n hx hb dL_law_1828 rfl (lv_at hl 4 rfl) ?_
  refine lv_aload_n hx hb dL_law_1829 rfl (lv_at hl 5 rfl) ?_
  refine lv_iload hx hb dL_law_1830 (lv_at hl 0 rfl) ?_
  refine lv_iconst (v := 1) hx hb dL_law_1832 (by decide) ?_
  refine lv_iadd hx hb dL_law_1833 ?_
  refine ksld hx hb hX hbl hbA hS i1 v1 dL_law_1834 ?_
  refine lv_aload_n hx hb dL_law_1835 rfl (lv_at hl 2 rfl) ?_
  refine kcallw (kStw (n := 3) (As := [.ref (z 0), .int n1, .ref o]) (rest := []) F hE hNc hK hP hO hD hDO hdSO hS hA (kw_scanOrder_ l g e0 S O H.size (z 0) o n1 _ _ (hI.1.1 0 (by decide)) ho.1 ho.2.1 (c_X5_scanOrder l hl0 g e0 z S H.size hI n1) (fun E h => by rcases h with rfl <;> simp)) kw_703 kw_704 kw_87 kw_705 (by decide +kernel) ⟨Nat.le_of_ble_eq_true rfl, Nat.le_of_ble_eq_true rfl⟩ rfl hl.1 rfl (Nat.le_of_ble_eq_true rfl) dL_law_1836 ⟨(by show k0 + 1 ≤ 600002; omega), (by show n0 + 6 ≤ 7302232; omega)⟩) rfl hD hDO hS hA (fun r S1 O1 H1 locs1 hp hP1 hO1 _ hDa1 hD1 hDO1 hdis1 _ hf1 hS1 => ?_)
  have hM1 := kM_keep hM hdSM hdOM hf1
  have hMO1 := kdis_symm (kdis_keepM hM hdSM hdOM hDa1)
  refine lv_istore (lv' := [(6, .int r), (5, .int i), (4, .ref od), (3, .ref o), (2, .ref (w 0)), (1, .ref (z 0)), (0, .ref b)]) hx hb dL_law_1839 hl (by decide) rfl (fun ls hl => ?_)
  refine lv_aload_n hx hb dL_law_1841 rfl (lv_at hl 4 rfl) ?_
  refine lv_aload_n hx hb dL_law_1842 rfl (lv_at hl 6 rfl) ?_
  refine lv_iload hx hb dL_law_1843 (lv_at hl 1 rfl) ?_
  refine lv_iconst (v := 1) hx hb dL_law_1845 (by decide) ?_
  refine lv_iadd hx hb dL_law_1846 ?_
  refine ksld hx hb hX hbl hbA hS1 i1 v1 dL_law_1847 ?_
  refine kcallWI (kV (n := 1) (As := [.int n1]) (rest := []) (b := (w 0)) (C := RX6) F hE hK hM1 hDM hS1 hA (c_X6_scanOrder l hl0 g e0 w M H1.size hMI n1 0 (m106.trans nI_0.symm) (by decide)) (rr_Model hK hM1 (hMI.ob (i := 0) (by decide))) kw_715 kw_716 kw_717 kw_5 kw_718 (by decide +kernel) ⟨Nat.le_of_ble_eq_true rfl, Nat.le_of_ble_eq_true rfl⟩ rfl hl.1 rfl (Nat.le_of_ble_eq_true rfl) dL_law_1848 ⟨(by show k0 + 1 + 0 ≤ 600002; omega), (by show n0 + 6 + 0 ≤ 7302232; omega)⟩) rfl hDM hS1 hA (fun _ _ _ _ _ h => False.elim h) (fun r2 M1 H2 locs2 hm2 hP2_ hDx2 hDM1 _ hf2 hS2 => ?_)
  have hO2 := kO_keep hO1 hMO1 hf2
  have hOM2 := kdis_keep hO1 hMO1 hDx2
  have hq := kq_scanOrder (n1 := n1) (r2 := r2) hF hG ho hp hm2
  refine lv_istore (lv' := [(7, .int r2), (6, .int r), (5, .int i), (4, .ref od), (3, .ref o), (2, .ref (w 0)), (1, .ref (z 0)), (0, .ref b)]) hx hb dL_law_1851 hl (by decide) rfl (fun ls hl => ?_)
  refine lv_aload_n hx hb dL_law_1853 rfl (lv_at hl 5 rfl) ?_
  refine kcallWI (kV (n := 0) (As := []) (rest := []) (b := (w 0)) (C := RX6) F hE hK hP2_ hDM1 hS2 hA (c_X6_thrown l hl0 g e0 M1 H2.size (w 0) hq.1) (rr_Model hK hP2_ hq.1) kw_187 kw_188 kw_189 kw_5 kw_190 (by decide +kernel) ⟨Nat.le_of_ble_eq_true rfl, Nat.le_of_ble_eq_true rfl⟩ rfl hl.1 rfl (Nat.le_of_ble_eq_true rfl) dL_law_1854 ⟨(by show k0 + 1 + 0 + 0 ≤ 600002; omega), (by show n0 + 6 + 0 + 0 ≤ 7302232; omega)⟩) rfl hDM1 hS2 hA (fun _ _ _ _ _ h => False.elim h) (fun r3 M2 H3 locs3 hm3 hP3_ _ _ _ hf3 hS3 => ?_)
  have hO3 := kO_keep hO2 hOM2 hf3
  obtain ⟨-, e3⟩ := hm3
  refine lv_iload hx hb dL_law_1857 (lv_at hl 1 rfl) ?_
  refine lv_icmp_eq (tgt := 1864) hx hb dL_law_1859 (by decide) (fun c1 => ?_) (fun c1 => ?_)
  · refine lv_iload hx hb dL_law_1864 (lv_at hl 1 rfl) ?_
    refine lv_if_ne (tgt := 1881) hx hb dL_law_1866 (by decide) (fun c2 => ?_) (fun c2 => ?_)
    · refine lv_goto (tgt := 2020) hx hb dL_law_1881 (by decide) ?_
      refine W.widen (k := k0 + 3) (n := n0 + 27) (by omega) (by omega) ?_
      exact kk _ _ ls hS3 (lv_sub hl [2, 3, 4, 5, 6, 7] rfl)
    · refine lv_aload_n hx hb dL_law_1869 rfl (lv_at hl 4 rfl) ?_
      refine lv_iconst (v := 0) hx hb dL_law_1870 (by decide) ?_
      refine rd_J F hK hO3 hq.2.1.1 hq.2.1.2.1 dL_law_1871 ?_
      refine lv_iload hx hb dL_law_1872 (lv_at hl 0 rfl) ?_
      refine lv_i2l (v := r2.toInt64) hx hb dL_law_1874 rfl ?_
      refine W.lcmp hx hb dL_law_1875 ?_
      refine lv_if_eq (tgt := 1881) hx hb dL_law_1876 (by decide) (fun c3 => ?_) (fun c3 => ?_)
      · refine lv_goto (tgt := 2020) hx hb dL_law_1881 (by decide) ?_
        refine W.widen (k := k0 + 3) (n := n0 + 27) (by omega) (by omega) ?_
        exact kk _ _ ls hS3 (lv_sub hl [2, 3, 4, 5, 6, 7] rfl)
      · exact absurd ((lg_cmp_eq _ _).mpr (hq.2.2.2 c2)) c3
  · exact absurd (show r3 = r from e3.trans hq.2.2.1) c1
theorem dL_law_1884 : decode cL_law 1884 = .ok (.aload_n 1, 1) := by decide +kernel
theorem dL_law_1885 : decode cL_law 1885 = .ok (.aload_n 0, 1) := by decide +kernel
theorem dL_law_1886 : decode cL_law 1886 = .ok (.iload 5, 2) := by decide +kernel
theorem dL_law_1888 : decode cL_law 1888 = .ok (.iconst 1, 1) := by decide +kernel
theorem dL_law_1889 : decode cL_law 1889 = .ok (.iadd, 1) := by decide +kernel
theorem dL_law_1890 : decode cL_law 1890 = .ok (.iaload, 1) := by decide +kernel
theorem dL_law_1891 : decode cL_law 1891 = .ok (.aload_n 3, 1) := by decide +kernel
theorem dL_law_1892 : decode cL_law 1892 = .ok (.invokestatic 223, 3) := by decide +kernel
theorem dL_law_1895 : decode cL_law 1895 = .ok (.istore 6, 2) := by decide +kernel
theorem dL_law_1897 : decode cL_law 1897 = .ok (.aload_n 2, 1) := by decide +kernel
theorem dL_law_1898 : decode cL_law 1898 = .ok (.aload_n 0, 1) := by decide +kernel
theorem dL_law_1899 : decode cL_law 1899 = .ok (.iload 5, 2) := by decide +kernel
theorem dL_law_1901 : decode cL_law 1901 = .ok (.iconst 1, 1) := by decide +kernel
theorem dL_law_1902 : decode cL_law 1902 = .ok (.iadd, 1) := by decide +kernel
theorem dL_law_1903 : decode cL_law 1903 = .ok (.iaload, 1) := by decide +kernel
theorem dL_law_1904 : decode cL_law 1904 = .ok (.invokevirtual 225, 3) := by decide +kernel
theorem dL_law_1907 : decode cL_law 1907 = .ok (.istore 7, 2) := by decide +kernel
theorem dL_law_1909 : decode cL_law 1909 = .ok (.aload_n 2, 1) := by decide +kernel
theorem dL_law_1910 : decode cL_law 1910 = .ok (.invokevirtual 120, 3) := by decide +kernel
theorem dL_law_1913 : decode cL_law 1913 = .ok (.iload 6, 2) := by decide +kernel
theorem dL_law_1915 : decode cL_law 1915 = .ok (.if_icmp .eq 5, 3) := by decide +kernel
theorem dL_law_1918 : decode cL_law 1918 = .ok (.iconst 0, 1) := by decide +kernel
theorem dL_law_1919 : decode cL_law 1919 = .ok (.ireturn, 1) := by decide +kernel
theorem dL_law_1920 : decode cL_law 1920 = .ok (.iload 6, 2) := by decide +kernel
theorem dL_law_1922 : decode cL_law 1922 = .ok (.ifCond .ne 15, 3) := by decide +kernel
theorem dL_law_1925 : decode cL_law 1925 = .ok (.aload_n 3, 1) := by decide +kernel
theorem dL_law_1926 : decode cL_law 1926 = .ok (.iconst 0, 1) := by decide +kernel
theorem dL_law_1927 : decode cL_law 1927 = .ok (.laload, 1) := by decide +kernel
theorem dL_law_1928 : decode cL_law 1928 = .ok (.iload 7, 2) := by decide +kernel
theorem dL_law_1930 : decode cL_law 1930 = .ok (.i2l, 1) := by decide +kernel
theorem dL_law_1931 : decode cL_law 1931 = .ok (.lcmp, 1) := by decide +kernel
theorem dL_law_1932 : decode cL_law 1932 = .ok (.ifCond .eq 5, 3) := by decide +kernel
theorem dL_law_1935 : decode cL_law 1935 = .ok (.iconst 0, 1) := by decide +kernel
theorem dL_law_1936 : decode cL_law 1936 = .ok (.ireturn, 1) := by decide +kernel
theorem dL_law_1937 : decode cL_law 1937 = .ok (.goto 83, 3) := by decide +kernel
set_option maxHeartbeats 4000000 in
set_option maxRecDepth 100000 in
theorem kcase_scanSign {p : Program} {l : Launch} {e : Env} {s : State} {m : MethodId} {below : List Frame} {meth : Method} {c : Code} {b L : Nat} {xs : Nat → Int32} {g : kG} {e0 : Nat} {z w : Nat → Nat} {S M O : wPS} {o od : Nat} {H : Heap} {locs : List Loc} {k0 n0 : Nat} {Q : State → Prop} {ls : Array Slot} {i n1 n2 n3 n4 : Int32} (hl0 : l.stackTraces = false) (C : kLc p s m c b L xs g e0 z w S M O o od H locs) (hi : kIx L xs i n1 n2 n3 n4) (hF : Fr z S) (hG : MFr w M) (hk0 : k0 + 3 ≤ 600002) (hn0 : n0 + 27 ≤ 7302232) (hl : lv_has ls 8 [(5, .int i), (4, .ref od), (3, .ref o), (2, .ref (w 0)), (1, .ref (z 0)), (0, .ref b)])
    (kk : ∀ (H1 : Heap) (locs1 : List Loc) (ls1 : Array Slot), va_S (kAs s) s.heap H1 locs1 → lv_has ls1 8 [(5, .int i), (4, .ref od), (3, .ref o), (2, .ref (w 0)), (1, .ref (z 0)), (0, .ref b)] → W p l e room_1 s m #[Value.ref b] below meth c H1 locs1 (k0 + 3) (n0 + 27) Q (F0 m 2020 ls1 [])) :
    W p l e room_1 s m #[Value.ref b] below meth c H locs k0 n0 Q (F0 m 1884 ls []) := by
  obtain ⟨⟨F, hK, hE, hNc, hX, hbl⟩, ⟨hP, hM, hO⟩, ⟨hD, hDM, hDO⟩, ⟨hdSO, hdSM, hdOM⟩, hS, ho, hI, hMI⟩ := C
  obtain ⟨⟨i1, i2, i3, i4⟩, v1, v2, v3, v4⟩ := hi
  have hx := F.1
  have hb := F.2.1
  have hbA : ¬ kAs s b := Nat.not_le.mpr hbl
  have hA : ∀ q : Nat, s.heap.size ≤ q → kAs s q := fun _ h => h
  have m102 : pF M 102 (w 0) = 0 := hG.1 102 (by decide) (by decide)
  have m106 : pF M 106 (w 0) = 0 := hG.1 106 (by decide) (by decide)
  refine lv_aload_n hx hb dL_law_1884 rfl (lv_at hl 4 rfl) ?_
  refine lv_aload_n hx hb dL_law_1885 rfl (lv_at hl 5 rfl) ?_
  refine lv_iload hx hb dL_law_1886 (lv_at hl 0 rfl) ?_
  refine lv_iconst (v := 1) hx hb dL_law_1888 (by decide) ?_
  refine lv_iadd hx hb dL_law_1889 ?_
  refine ksld hx hb hX hbl hbA hS i1 v1 dL_law_1890 ?_
  refine lv_aload_n hx hb dL_law_1891 rfl (lv_at hl 2 rfl) ?_
  refine kcallw (kStw (n := 3) (As := [.ref (z 0), .int n1, .ref o]) (rest := []) F hE hNc hK hP hO hD hDO hdSO hS hA (kw_scanSign_ l g e0 S O H.size (z 0) o n1 _ _ (hI.1.1 0 (by decide)) ho.1 ho.2.1 (c_X5_scanSign l hl0 g e0 z S H.size hI n1) (fun E h => by rcases h with rfl <;> simp)) kw_719 kw_720 kw_87 kw_721 (by decide +kernel) ⟨Nat.le_of_ble_eq_true rfl, Nat.le_of_ble_eq_true rfl⟩ rfl hl.1 rfl (Nat.le_of_ble_eq_true rfl) dL_law_1892 ⟨(by show k0 + 1 ≤ 600002; omega), (by show n0 + 6 ≤ 7302232; omega)⟩) rfl hD hDO hS hA (fun r S1 O1 H1 locs1 hp hP1 hO1 _ hDa1 hD1 hDO1 hdis1 _ hf1 hS1 => ?_)
  have hM1 := kM_keep hM hdSM hdOM hf1
  have hMO1 := kdis_symm (kdis_keepM hM hdSM hdOM hDa1)
  refine lv_istore (lv' := [(6, .int r), (5, .int i), (4, .ref od), (3, .ref o), (2, .ref (w 0)), (1, .ref (z 0)), (0, .ref b)]) hx hb dL_law_1895 hl (by decide) rfl (fun ls hl => ?_)
  refine lv_aload_n hx hb dL_law_1897 rfl (lv_at hl 4 rfl) ?_
  refine lv_aload_n hx hb dL_law_1898 rfl (lv_at hl 6 rfl) ?_
  refine lv_iload hx hb dL_law_1899 (lv_at hl 1 rfl) ?_
  refine lv_iconst (v := 1) hx hb dL_law_1901 (by decide) ?_
  refine lv_iadd hx hb dL_law_1902 ?_
  refine ksld hx hb hX hbl hbA hS1 i1 v1 dL_law_1903 ?_
  refine kcallWI (kV (n := 1) (As := [.int n1]) (rest := []) (b := (w 0)) (C := RX6) F hE hK hM1 hDM hS1 hA (c_X6_scanSign l hl0 g e0 w M H1.size hMI n1 0 (m106.trans nI_0.symm) (by decide)) (rr_Model hK hM1 (hMI.ob (i := 0) (by decide))) kw_727 kw_728 kw_729 kw_5 kw_730 (by decide +kernel) ⟨Nat.le_of_ble_eq_true rfl, Nat.le_of_ble_eq_true rfl⟩ rfl hl.1 rfl (Nat.le_of_ble_eq_true rfl) dL_law_1904 ⟨(by show k0 + 1 + 0 ≤ 600002; omega), (by show n0 + 6 + 0 ≤ 7302232; omega)⟩) rfl hDM hS1 hA (fun _ _ _ _ _ h => False.elim h) (fun r2 M1 H2 locs2 hm2 hP2_ hDx2 hDM1 _ hf2 hS2 => ?_)
  have hO2 := kO_keep hO1 hMO1 hf2
  have hOM2 := kdis_keep hO1 hMO1 hDx2
  have hq := kq_scanSign (n1 := n1) (r2 := r2) hF hG ho hp hm2
  refine lv_istore (lv' := [(7, .int r2), (6, .int r), (5, .int i), (4, .ref od), (3, .ref o), (2, .ref (w 0)), (1, .ref (z 0)), (0, .ref b)]) hx hb dL_law_1907 hl (by decide) rfl (fun ls hl => ?_)
  refine lv_aload_n hx hb dL_law_1909 rfl (lv_at hl 5 rfl) ?_
  refine kcallWI (kV (n := 0) (As := []) (rest := []) (b := (w 0)) (C := RX6) F hE hK hP2_ hDM1 hS2 hA (c_X6_thrown l hl0 g e0 M1 H2.size (w 0) hq.1) (rr_Model hK hP2_ hq.1) kw_187 kw_188 kw_189 kw_5 kw_190 (by decide +kernel) ⟨Nat.le_of_ble_eq_true rfl, Nat.le_of_ble_eq_true rfl⟩ rfl hl.1 rfl (Nat.le_of_ble_eq_true rfl) dL_law_1910 ⟨(by show k0 + 1 + 0 + 0 ≤ 600002; omega), (by show n0 + 6 + 0 + 0 ≤ 7302232; omega)⟩) rfl hDM1 hS2 hA (fun _ _ _ _ _ h => False.elim h) (fun r3 M2 H3 locs3 hm3 hP3_ _ _ _ hf3 hS3 => ?_)
  have hO3 := kO_keep hO2 hOM2 hf3
  obtain ⟨-, e3⟩ := hm3
  refine lv_iload hx hb dL_law_1913 (lv_at hl 1 rfl) ?_
  refine lv_icmp_eq (tgt := 1920) hx hb dL_law_1915 (by decide) (fun c1 => ?_) (fun c1 => ?_)
  · refine lv_iload hx hb dL_law_1920 (lv_at hl 1 rfl) ?_
    refine lv_if_ne (tgt := 1937) hx hb dL_law_1922 (by decide) (fun c2 => ?_) (fun c2 => ?_)
    · refine lv_goto (tgt := 2020) hx hb dL_law_1937 (by decide) ?_
      refine W.widen (k := k0 + 3) (n := n0 + 27) (by omega) (by omega) ?_
      exact kk _ _ ls hS3 (lv_sub hl [2, 3, 4, 5, 6, 7] rfl)
    · refine lv_aload_n hx hb dL_law_1925 rfl (lv_at hl 4 rfl) ?_
      refine lv_iconst (v := 0) hx hb dL_law_1926 (by decide) ?_
      refine rd_J F hK hO3 hq.2.1.1 hq.2.1.2.1 dL_law_1927 ?_
      refine lv_iload hx hb dL_law_1928 (lv_at hl 0 rfl) ?_
      refine lv_i2l (v := r2.toInt64) hx hb dL_law_1930 rfl ?_
      refine W.lcmp hx hb dL_law_1931 ?_
      refine lv_if_eq (tgt := 1937) hx hb dL_law_1932 (by decide) (fun c3 => ?_) (fun c3 => ?_)
      · refine lv_goto (tgt := 2020) hx hb dL_law_1937 (by decide) ?_
        refine W.widen (k := k0 + 3) (n := n0 + 27) (by omega) (by omega) ?_
        exact kk _ _ ls hS3 (lv_sub hl [2, 3, 4, 5, 6, 7] rfl)
      · exact absurd ((lg_cmp_eq _ _).mpr (hq.2.2.2 c2)) c3
  · exact absurd (show r3 = r from e3.trans hq.2.2.1) c1
theorem dL_law_1940 : decode cL_law 1940 = .ok (.aload_n 1, 1) := by decide +kernel
theorem dL_law_1941 : decode cL_law 1941 = .ok (.invokevirtual 226, 3) := by decide +kernel
theorem dL_law_1944 : decode cL_law 1944 = .ok (.aload_n 2, 1) := by decide +kernel
theorem dL_law_1945 : decode cL_law 1945 = .ok (.invokevirtual 230, 3) := by decide +kernel
theorem dL_law_1948 : decode cL_law 1948 = .ok (.lcmp, 1) := by decide +kernel
theorem dL_law_1949 : decode cL_law 1949 = .ok (.ifCond .eq 71, 3) := by decide +kernel
theorem dL_law_1952 : decode cL_law 1952 = .ok (.iconst 0, 1) := by decide +kernel
theorem dL_law_1953 : decode cL_law 1953 = .ok (.ireturn, 1) := by decide +kernel
set_option maxHeartbeats 4000000 in
set_option maxRecDepth 100000 in
theorem kcase_shipped {p : Program} {l : Launch} {e : Env} {s : State} {m : MethodId} {below : List Frame} {meth : Method} {c : Code} {b L : Nat} {xs : Nat → Int32} {g : kG} {e0 : Nat} {z w : Nat → Nat} {S M O : wPS} {o od : Nat} {H : Heap} {locs : List Loc} {k0 n0 : Nat} {Q : State → Prop} {ls : Array Slot} {i n1 n2 n3 n4 : Int32} (hl0 : l.stackTraces = false) (C : kLc p s m c b L xs g e0 z w S M O o od H locs) (hi : kIx L xs i n1 n2 n3 n4) (hF : Fr z S) (hG : MFr w M) (hk0 : k0 + 3 ≤ 600002) (hn0 : n0 + 27 ≤ 7302232) (hl : lv_has ls 8 [(5, .int i), (4, .ref od), (3, .ref o), (2, .ref (w 0)), (1, .ref (z 0)), (0, .ref b)])
    (kk : ∀ (H1 : Heap) (locs1 : List Loc) (ls1 : Array Slot), va_S (kAs s) s.heap H1 locs1 → lv_has ls1 8 [(5, .int i), (4, .ref od), (3, .ref o), (2, .ref (w 0)), (1, .ref (z 0)), (0, .ref b)] → W p l e room_1 s m #[Value.ref b] below meth c H1 locs1 (k0 + 3) (n0 + 27) Q (F0 m 2020 ls1 [])) :
    W p l e room_1 s m #[Value.ref b] below meth c H locs k0 n0 Q (F0 m 1940 ls []) := by
  obtain ⟨⟨F, hK, hE, hNc, hX, hbl⟩, ⟨hP, hM, hO⟩, ⟨hD, hDM, hDO⟩, ⟨hdSO, hdSM, hdOM⟩, hS, ho, hI, hMI⟩ := C
  obtain ⟨⟨i1, i2, i3, i4⟩, v1, v2, v3, v4⟩ := hi
  have hx := F.1
  have hb := F.2.1
  have hbA : ¬ kAs s b := Nat.not_le.mpr hbl
  have hA : ∀ q : Nat, s.heap.size ≤ q → kAs s q := fun _ h => h
  have m102 : pF M 102 (w 0) = 0 := hG.1 102 (by decide) (by decide)
  have m106 : pF M 106 (w 0) = 0 := hG.1 106 (by decide) (by decide)
  obtain ⟨f1, f2, f3, f4, f5, f6, f7, f8, f9, f10⟩ := hF
  have m103 : pF M 103 (w 0) = 0 := hG.1 103 (by decide) (by decide)
  have m104 : pF M 104 (w 0) = 0 := hG.1 104 (by decide) (by decide)
  have m105 : pF M 105 (w 0) = 0 := hG.1 105 (by decide) (by decide)
  refine lv_aload_n hx hb dL_law_1940 rfl (lv_at hl 4 rfl) ?_
  refine kcallWL (kV (n := 0) (As := []) (rest := []) (b := (z 0)) (C := RX5) F hE hK hP hD hS hA (c_X5_shipped l hl0 g e0 z S H.size hI) (rr_Pickwave hK hP (hI.1.1 0 (by decide))) kw_731 kw_732 kw_733 kw_2 kw_734 (by decide +kernel) ⟨Nat.le_of_ble_eq_true rfl, Nat.le_of_ble_eq_true rfl⟩ rfl hl.1 rfl (Nat.le_of_ble_eq_true rfl) dL_law_1941 ⟨(by show k0 + 0 ≤ 600002; omega), (by show n0 + 0 ≤ 7302232; omega)⟩) rfl hD hS hA (fun _ _ _ _ _ h => False.elim h) (fun r2 T1 H2 locs2 hm2 hP2_ _ _ _ hf2 hS2 => ?_)
  have hM2 := kO_keep hM hdSM hf2
  refine lv_aload_n hx hb dL_law_1944 rfl (lv_at hl 3 rfl) ?_
  refine kcallWL (kV (n := 0) (As := []) (rest := [.long r2]) (b := (w 0)) (C := RX6) F hE hK hM2 hDM hS2 hA (c_X6_shipped l hl0 g e0 w M H2.size hMI) (rr_Model hK hM2 (hMI.ob (i := 0) (by decide))) kw_735 kw_736 kw_737 kw_5 kw_738 (by decide +kernel) ⟨Nat.le_of_ble_eq_true rfl, Nat.le_of_ble_eq_true rfl⟩ rfl hl.1 rfl (Nat.le_of_ble_eq_true rfl) dL_law_1945 ⟨(by show k0 + 0 + 0 ≤ 600002; omega), (by show n0 + 0 + 0 ≤ 7302232; omega)⟩) rfl hDM hS2 hA (fun _ _ _ _ _ h => False.elim h) (fun r3 M1 H3 locs3 hm3 hP3_ _ hDM1 _ hf3 hS3 => ?_)
  refine W.lcmp hx hb dL_law_1948 ?_
  refine lv_if_eq (tgt := 2020) hx hb dL_law_1949 (by decide) (fun c1 => ?_) (fun c1 => ?_)
  · refine W.widen (k := k0 + 3) (n := n0 + 27) (by omega) (by omega) ?_
    exact kk _ _ ls hS3 (lv_sub hl [0, 1, 2, 3, 4, 5] rfl)
  · exact absurd ((lg_cmp_eq _ _).mpr (by rw [hm2.2, hm3.2.2.2 m102, f7])) c1
theorem dL_law_1954 : decode cL_law 1954 = .ok (.aload_n 1, 1) := by decide +kernel
theorem dL_law_1955 : decode cL_law 1955 = .ok (.aload 4, 2) := by decide +kernel
theorem dL_law_1957 : decode cL_law 1957 = .ok (.invokestatic 231, 3) := by decide +kernel
theorem dL_law_1960 : decode cL_law 1960 = .ok (.istore 6, 2) := by decide +kernel
theorem dL_law_1962 : decode cL_law 1962 = .ok (.aload_n 2, 1) := by decide +kernel
theorem dL_law_1963 : decode cL_law 1963 = .ok (.invokevirtual 234, 3) := by decide +kernel
theorem dL_law_1966 : decode cL_law 1966 = .ok (.fstore 7, 2) := by decide +kernel
theorem dL_law_1968 : decode cL_law 1968 = .ok (.aload_n 2, 1) := by decide +kernel
theorem dL_law_1969 : decode cL_law 1969 = .ok (.invokevirtual 120, 3) := by decide +kernel
theorem dL_law_1972 : decode cL_law 1972 = .ok (.iload 6, 2) := by decide +kernel
theorem dL_law_1974 : decode cL_law 1974 = .ok (.if_icmp .eq 5, 3) := by decide +kernel
theorem dL_law_1977 : decode cL_law 1977 = .ok (.iconst 0, 1) := by decide +kernel
theorem dL_law_1978 : decode cL_law 1978 = .ok (.ireturn, 1) := by decide +kernel
theorem dL_law_1979 : decode cL_law 1979 = .ok (.iload 6, 2) := by decide +kernel
theorem dL_law_1981 : decode cL_law 1981 = .ok (.ifCond .ne 36, 3) := by decide +kernel
theorem dL_law_1984 : decode cL_law 1984 = .ok (.aload 4, 2) := by decide +kernel
theorem dL_law_1986 : decode cL_law 1986 = .ok (.iconst 0, 1) := by decide +kernel
theorem dL_law_1987 : decode cL_law 1987 = .ok (.daload, 1) := by decide +kernel
theorem dL_law_1988 : decode cL_law 1988 = .ok (.fload 7, 2) := by decide +kernel
theorem dL_law_1990 : decode cL_law 1990 = .ok (.f2d, 1) := by decide +kernel
theorem dL_law_1991 : decode cL_law 1991 = .ok (.dcmp .l, 1) := by decide +kernel
theorem dL_law_1992 : decode cL_law 1992 = .ok (.ifCond .eq 25, 3) := by decide +kernel
theorem dL_law_1995 : decode cL_law 1995 = .ok (.aload 4, 2) := by decide +kernel
theorem dL_law_1997 : decode cL_law 1997 = .ok (.iconst 0, 1) := by decide +kernel
theorem dL_law_1998 : decode cL_law 1998 = .ok (.daload, 1) := by decide +kernel
theorem dL_law_1999 : decode cL_law 1999 = .ok (.aload 4, 2) := by decide +kernel
theorem dL_law_2001 : decode cL_law 2001 = .ok (.iconst 0, 1) := by decide +kernel
theorem dL_law_2002 : decode cL_law 2002 = .ok (.daload, 1) := by decide +kernel
theorem dL_law_2003 : decode cL_law 2003 = .ok (.dcmp .l, 1) := by decide +kernel
theorem dL_law_2004 : decode cL_law 2004 = .ok (.ifCond .eq 11, 3) := by decide +kernel
theorem dL_law_2007 : decode cL_law 2007 = .ok (.fload 7, 2) := by decide +kernel
theorem dL_law_2009 : decode cL_law 2009 = .ok (.fload 7, 2) := by decide +kernel
theorem dL_law_2011 : decode cL_law 2011 = .ok (.fcmp .l, 1) := by decide +kernel
theorem dL_law_2012 : decode cL_law 2012 = .ok (.ifCond .ne 5, 3) := by decide +kernel
theorem dL_law_2015 : decode cL_law 2015 = .ok (.iconst 0, 1) := by decide +kernel
theorem dL_law_2016 : decode cL_law 2016 = .ok (.ireturn, 1) := by decide +kernel
theorem dL_law_2017 : decode cL_law 2017 = .ok (.goto 3, 3) := by decide +kernel
set_option maxHeartbeats 4000000 in
set_option maxRecDepth 100000 in
theorem kcase_shippedShare {p : Program} {l : Launch} {e : Env} {s : State} {m : MethodId} {below : List Frame} {meth : Method} {c : Code} {b L : Nat} {xs : Nat → Int32} {g : kG} {e0 : Nat} {z w : Nat → Nat} {S M O : wPS} {o od : Nat} {H : Heap} {locs : List Loc} {k0 n0 : Nat} {Q : State → Prop} {ls : Array Slot} {i n1 n2 n3 n4 : Int32} (hl0 : l.stackTraces = false) (C : kLc p s m c b L xs g e0 z w S M O o od H locs) (hi : kIx L xs i n1 n2 n3 n4) (hF : Fr z S) (hG : MFr w M) (hk0 : k0 + 3 ≤ 600002) (hn0 : n0 + 27 ≤ 7302232) (hl : lv_has ls 8 [(5, .int i), (4, .ref od), (3, .ref o), (2, .ref (w 0)), (1, .ref (z 0)), (0, .ref b)])
    (kk : ∀ (H1 : Heap) (locs1 : List Loc) (ls1 : Array Slot), va_S (kAs s) s.heap H1 locs1 → lv_has ls1 8 [(5, .int i), (4, .ref od), (3, .ref o), (2, .ref (w 0)), (1, .ref (z 0)), (0, .ref b)] → W p l e room_1 s m #[Value.ref b] below meth c H1 locs1 (k0 + 3) (n0 + 27) Q (F0 m 2020 ls1 [])) :
    W p l e room_1 s m #[Value.ref b] below meth c H locs k0 n0 Q (F0 m 1954 ls []) := by
  obtain ⟨⟨F, hK, hE, hNc, hX, hbl⟩, ⟨hP, hM, hO⟩, ⟨hD, hDM, hDO⟩, ⟨hdSO, hdSM, hdOM⟩, hS, ho, hI, hMI⟩ := C
  obtain ⟨⟨i1, i2, i3, i4⟩, v1, v2, v3, v4⟩ := hi
  have hx := F.1
  have hb := F.2.1
  have hbA : ¬ kAs s b := Nat.not_le.mpr hbl
  have hA : ∀ q : Nat, s.heap.size ≤ q → kAs s q := fun _ h => h
  have m102 : pF M 102 (w 0) = 0 := hG.1 102 (by decide) (by decide)
  have m106 : pF M 106 (w 0) = 0 := hG.1 106 (by decide) (by decide)
  refine lv_aload_n hx hb dL_law_1954 rfl (lv_at hl 4 rfl) ?_
  refine lv_aload hx hb dL_law_1955 (lv_at hl 1 rfl) ?_
  refine kcallw (kStw (n := 2) (As := [.ref (z 0), .ref od]) (rest := []) F hE hNc hK hP hO hD hDO hdSO hS hA (kw_shippedShare_ l g e0 S O H.size (z 0) od _ _ (hI.1.1 0 (by decide)) ho.2.2.1 ho.2.2.2 (c_X5_shippedShare l hl0 g e0 z S H.size hI) (fun E h => by rcases h with rfl <;> simp) (fun v T h => by obtain ⟨⟨k9, m9, a1, a2, a3, a4⟩, -⟩ := h; rw [a4]; exact (kshare a1 a2 a3).2)) kw_739 kw_740 kw_87 kw_741 (by decide +kernel) ⟨Nat.le_of_ble_eq_true rfl, Nat.le_of_ble_eq_true rfl⟩ rfl hl.1 rfl (Nat.le_of_ble_eq_true rfl) dL_law_1957 ⟨(by show k0 + 1 ≤ 600002; omega), (by show n0 + 6 ≤ 7302232; omega)⟩) rfl hD hDO hS hA (fun r S1 O1 H1 locs1 hp hP1 hO1 _ hDa1 hD1 hDO1 hdis1 _ hf1 hS1 => ?_)
  have hM1 := kM_keep hM hdSM hdOM hf1
  have hMO1 := kdis_symm (kdis_keepM hM hdSM hdOM hDa1)
  refine lv_istore (lv' := [(6, .int r), (5, .int i), (4, .ref od), (3, .ref o), (2, .ref (w 0)), (1, .ref (z 0)), (0, .ref b)]) hx hb dL_law_1960 hl (by decide) rfl (fun ls hl => ?_)
  refine lv_aload_n hx hb dL_law_1962 rfl (lv_at hl 4 rfl) ?_
  refine kcallWF (kV (n := 0) (As := []) (rest := []) (b := (w 0)) (C := RX6) F hE hK hM1 hDM hS1 hA (c_X6_shippedShare l hl0 g e0 w M H1.size hMI) (rr_Model hK hM1 (hMI.ob (i := 0) (by decide))) kw_746 kw_747 kw_748 kw_5 kw_749 (by decide +kernel) ⟨Nat.le_of_ble_eq_true rfl, Nat.le_of_ble_eq_true rfl⟩ rfl hl.1 rfl (Nat.le_of_ble_eq_true rfl) dL_law_1963 ⟨(by show k0 + 1 + 0 ≤ 600002; omega), (by show n0 + 6 + 0 ≤ 7302232; omega)⟩) rfl hDM hS1 hA (fun _ _ _ _ _ h => False.elim h) (fun r2 M1 H2 locs2 hm2 hP2_ hDx2 hDM1 _ hf2 hS2 => ?_)
  have hO2 := kO_keep hO1 hMO1 hf2
  have hOM2 := kdis_keep hO1 hMO1 hDx2
  have hq := kq_shippedShare (r2 := r2) hF hG ho hp hm2
  refine lv_fstore (lv' := [(7, .float r2), (6, .int r), (5, .int i), (4, .ref od), (3, .ref o), (2, .ref (w 0)), (1, .ref (z 0)), (0, .ref b)]) hx hb dL_law_1966 hl (by decide) rfl (fun ls hl => ?_)
  refine lv_aload_n hx hb dL_law_1968 rfl (lv_at hl 5 rfl) ?_
  refine kcallWI (kV (n := 0) (As := []) (rest := []) (b := (w 0)) (C := RX6) F hE hK hP2_ hDM1 hS2 hA (c_X6_thrown l hl0 g e0 M1 H2.size (w 0) hq.1) (rr_Model hK hP2_ hq.1) kw_187 kw_188 kw_189 kw_5 kw_190 (by decide +kernel) ⟨Nat.le_of_ble_eq_true rfl, Nat.le_of_ble_eq_true rfl⟩ rfl hl.1 rfl (Nat.le_of_ble_eq_true rfl) dL_law_1969 ⟨(by show k0 + 1 + 0 + 0 ≤ 600002; omega), (by show n0 + 6 + 0 + 0 ≤ 7302232; omega)⟩) rfl hDM1 hS2 hA (fun _ _ _ _ _ h => False.elim h) (fun r3 M2 H3 locs3 hm3 hP3_ _ _ _ hf3 hS3 => ?_)
  have hO3 := kO_keep hO2 hOM2 hf3
  obtain ⟨-, e3⟩ := hm3
  refine lv_iload hx hb dL_law_1972 (lv_at hl 1 rfl) ?_
  refine lv_icmp_eq (tgt := 1979) hx hb dL_law_1974 (by decide) (fun c1 => ?_) (fun c1 => ?_)
  · refine lv_iload hx hb dL_law_1979 (lv_at hl 1 rfl) ?_
    refine lv_if_ne (tgt := 2017) hx hb dL_law_1981 (by decide) (fun c2 => ?_) (fun c2 => ?_)
    · refine lv_goto (tgt := 2020) hx hb dL_law_2017 (by decide) ?_
      refine W.widen (k := k0 + 3) (n := n0 + 27) (by omega) (by omega) ?_
      exact kk _ _ ls hS3 (lv_sub hl [2, 3, 4, 5, 6, 7] rfl)
    · exact (hq.2.2.2 c2).elim
  · exact absurd (show r3 = r from e3.trans hq.2.2.1) c1
