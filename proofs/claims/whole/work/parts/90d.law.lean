set_option maxHeartbeats 4000000 in
set_option maxRecDepth 100000 in
theorem law_27 {l : Launch} {D : va_G} {cA : Nat → ClassId} {r : Nat → Nat} {Γ : Cx} {b L : Nat} {xs : Nat → Int32} {z : Zt} {i : Int} {kc ks : Nat} (hr : Inj r) (hst : l.stackTraces = false) (hG : Cok l D cA r room_1 Γ cL_law RL wsL_law 7) (hW : LwR b L xs Γ) (hL : L ≤ 2560) (hR : Rel z) (hi : 0 ≤ i ∧ i + 5 ≤ (L : Int)) (hk : kc + 4 ≤ 627503 ∧ ks + 24 ≤ 7213595) (kk : ∀ (z1 : Zt) (kc1 ks1 : Nat), Rel z1 → kc1 ≤ kc + 4 ∧ ks1 ≤ ks + 24 → V Γ z1 kc1 ks1 [(0, .ref b), (1, .ref (r 0)), (2, .ref (r 169)), (3, .ref (r 176)), (4, .int (iN i))] 2572 []) : V Γ z kc ks [(0, .ref b), (1, .ref (r 0)), (2, .ref (r 169)), (3, .ref (r 176)), (4, .int (iN i))] 1790 [] := by
  have b1 : 0 ≤ i + 1 ∧ i + 1 < (L : Int) := by omega
  have c0 : kc + 1 ≤ 627503 ∧ ks + 6 * 1 ≤ 7213595 := by omega
  have hc4 : kc + 1 ≤ kc + 4 ∧ ks + 6 * 1 ≤ ks + 24 := by omega
  refine v_aload_n hG dL_law_1790 1 rfl ?_
  refine v_aload_n hG dL_law_1791 0 rfl ?_
  refine v_iload hG dL_law_1792 4 rfl ?_
  refine v_iconst hG dL_law_1794 ?_
  refine v_iadd hG dL_law_1795 ?_
  refine w_sld hG hW hL b1 dL_law_1796 ?_
  refine v_aload_n hG dL_law_1797 3 rfl ?_
  refine w_callS (n := 3) hG hW (c_L_feastsKept hr hst k_0 (sv_rg xs (i + 1))) gL_law_L_feastsKept rfl (by decide +kernel) rfl ⟨Nat.le_of_ble_eq_true rfl, Nat.le_of_ble_eq_true rfl⟩ dL_law_1798 rfl (Nat.le_of_ble_eq_true rfl) c0 ?_
  intro k1 z1 hp1
  have hF : WF z1 := WF_nz hR (nz_feastsKept hp1)
  have rk : 0 ≤ k1 ∧ k1 ≤ 3 := by
    rcases hp1 with ⟨h9, -⟩ | ⟨h9, -⟩
    · clear hF; omega
    · clear hF; omega
  refine v_istore hG [(0, _), (1, _), (2, _), (3, _), (4, _), (5, _)] dL_law_1801 (by decide) rfl ?_
  refine v_aload_n hG dL_law_1803 2 rfl ?_
  refine v_aload_n hG dL_law_1804 0 rfl ?_
  refine v_iload hG dL_law_1805 4 rfl ?_
  refine v_iconst hG dL_law_1807 ?_
  refine v_iadd hG dL_law_1808 ?_
  refine w_sld hG hW hL b1 dL_law_1809 ?_
  refine v_callVi (n := 1) (ci := 5) hG (c_X5_feastsKept hr k_169 rfl hF.1 (sv_rg xs (i + 1))) gL_law_X5_feastsKept rfl (by decide +kernel) rfl ⟨Nat.le_of_ble_eq_true rfl, Nat.le_of_ble_eq_true rfl⟩ k_169 (by decide) (cl_6 _ _ _ _) rfl dL_law_1810 rfl (Nat.le_of_ble_eq_true rfl) c0 ?_
  intro v2 z2 hp2
  refine v_istore hG [(0, _), (1, _), (2, _), (3, _), (4, _), (5, _), (6, _)] dL_law_1813 (by decide) rfl ?_
  refine v_aload_n hG dL_law_1815 2 rfl ?_
  refine v_callVi (n := 0) (ci := 5) hG (c_X5_thrown hr k_169) gL_law_X5_thrown rfl (by decide +kernel) rfl ⟨Nat.le_of_ble_eq_true rfl, Nat.le_of_ble_eq_true rfl⟩ k_169 (by decide) (cl_6 _ _ _ _) rfl dL_law_1816 rfl (Nat.le_of_ble_eq_true rfl) c0 ?_
  intro k3 z3 hp3
  obtain ⟨rfl, e3⟩ := hp3
  have hok := ok_feastsKept (k := k1) (v := v2) hR rfl hp1 hp2
  have e9 : k3 = k1 := e3.trans hok.1
  rw [e9]
  clear hp1 hp2 hF e3 e9
  refine v_iload hG dL_law_1819 5 rfl ?_
  refine w_icmp hG 1826 dL_law_1821 (by decide) ?_
  refine v_iload hG dL_law_1826 5 rfl ?_
  refine v_if_ne hG 1843 (by omega) dL_law_1828 (by decide) (fun h8 => ?_) (fun h8 => ?_)
  · refine v_goto hG 2572 dL_law_1843 (by decide) ?_
    refine v_sub hG [(0, _), (1, _), (2, _), (3, _), (4, _)] [0, 1, 2, 3, 4] rfl ?_
    exact kk _ _ _ hok.2.2 hc4
  · refine v_aload_n hG dL_law_1831 3 rfl ?_
    refine v_iconst hG dL_law_1832 ?_
    refine v_laload hG dL_law_1833 ?_
    rw [hok.2.1 h8]
    refine v_iload hG dL_law_1834 6 rfl ?_
    refine v_i2l hG dL_law_1836 ?_
    refine v_lcmp hG dL_law_1837 ?_
    rw [lcr_0.mpr rfl]
    refine v_if_eq hG 1843 (by decide) dL_law_1838 (by decide) (fun _ => ?_) (fun h7 => absurd rfl h7)
    refine v_goto hG 2572 dL_law_1843 (by decide) ?_
    refine v_sub hG [(0, _), (1, _), (2, _), (3, _), (4, _)] [0, 1, 2, 3, 4] rfl ?_
    exact kk _ _ _ hok.2.2 hc4

set_option maxHeartbeats 4000000 in
set_option maxRecDepth 100000 in
theorem law_28 {l : Launch} {D : va_G} {cA : Nat → ClassId} {r : Nat → Nat} {Γ : Cx} {b L : Nat} {xs : Nat → Int32} {z : Zt} {i : Int} {kc ks : Nat} (hr : Inj r) (hst : l.stackTraces = false) (hG : Cok l D cA r room_1 Γ cL_law RL wsL_law 7) (hW : LwR b L xs Γ) (hL : L ≤ 2560) (hR : Rel z) (hi : 0 ≤ i ∧ i + 5 ≤ (L : Int)) (hk : kc + 4 ≤ 627503 ∧ ks + 24 ≤ 7213595) (kk : ∀ (z1 : Zt) (kc1 ks1 : Nat), Rel z1 → kc1 ≤ kc + 4 ∧ ks1 ≤ ks + 24 → V Γ z1 kc1 ks1 [(0, .ref b), (1, .ref (r 0)), (2, .ref (r 169)), (3, .ref (r 176)), (4, .int (iN i))] 2572 []) : V Γ z kc ks [(0, .ref b), (1, .ref (r 0)), (2, .ref (r 169)), (3, .ref (r 176)), (4, .int (iN i))] 1846 [] := by
  have c1 : kc ≤ 627503 ∧ ks ≤ 7213595 := by omega
  refine v_aload_n hG dL_law_1846 1 rfl ?_
  refine v_callVi (n := 0) (ci := 4) hG (c_X4_quarrelCount hr k_0) gL_law_X4_quarrelCount rfl (by decide +kernel) rfl ⟨Nat.le_of_ble_eq_true rfl, Nat.le_of_ble_eq_true rfl⟩ k_0 (by decide) (cl_1 _ _ _ _) rfl dL_law_1847 rfl (Nat.le_of_ble_eq_true rfl) c1 ?_
  intro k1 z1 hp1
  refine v_aload_n hG dL_law_1850 2 rfl ?_
  refine v_callVi (n := 0) (ci := 5) hG (c_X5_quarrelCount hr k_169 rfl) gL_law_X5_quarrelCount rfl (by decide +kernel) rfl ⟨Nat.le_of_ble_eq_true rfl, Nat.le_of_ble_eq_true rfl⟩ k_169 (by decide) (cl_6 _ _ _ _) rfl dL_law_1851 rfl (Nat.le_of_ble_eq_true rfl) c1 ?_
  intro v2 z2 hp2
  have hok := ok_quarrelCount (x := k1) (v := v2) hR rfl hp1 hp2
  rw [← hok.1]
  refine w_icmp hG 2572 dL_law_1854 (by decide) ?_
  exact kk _ _ _ hok.2 ⟨Nat.le_add_right _ _, Nat.le_add_right _ _⟩

set_option maxHeartbeats 4000000 in
set_option maxRecDepth 100000 in
theorem law_29 {l : Launch} {D : va_G} {cA : Nat → ClassId} {r : Nat → Nat} {Γ : Cx} {b L : Nat} {xs : Nat → Int32} {z : Zt} {i : Int} {kc ks : Nat} (hr : Inj r) (hst : l.stackTraces = false) (hG : Cok l D cA r room_1 Γ cL_law RL wsL_law 7) (hW : LwR b L xs Γ) (hL : L ≤ 2560) (hR : Rel z) (hi : 0 ≤ i ∧ i + 5 ≤ (L : Int)) (hk : kc + 4 ≤ 627503 ∧ ks + 24 ≤ 7213595) (kk : ∀ (z1 : Zt) (kc1 ks1 : Nat), Rel z1 → kc1 ≤ kc + 4 ∧ ks1 ≤ ks + 24 → V Γ z1 kc1 ks1 [(0, .ref b), (1, .ref (r 0)), (2, .ref (r 169)), (3, .ref (r 176)), (4, .int (iN i))] 2572 []) : V Γ z kc ks [(0, .ref b), (1, .ref (r 0)), (2, .ref (r 169)), (3, .ref (r 176)), (4, .int (iN i))] 1859 [] := by
  have c1 : kc ≤ 627503 ∧ ks ≤ 7213595 := by omega
  refine v_aload_n hG dL_law_1859 1 rfl ?_
  refine v_callVi (n := 0) (ci := 4) hG (c_X4_copiesMade hr k_0) gL_law_X4_copiesMade rfl (by decide +kernel) rfl ⟨Nat.le_of_ble_eq_true rfl, Nat.le_of_ble_eq_true rfl⟩ k_0 (by decide) (cl_1 _ _ _ _) rfl dL_law_1860 rfl (Nat.le_of_ble_eq_true rfl) c1 ?_
  intro k1 z1 hp1
  refine v_aload_n hG dL_law_1863 2 rfl ?_
  refine v_callVi (n := 0) (ci := 5) hG (c_X5_copiesMade hr k_169 rfl) gL_law_X5_copiesMade rfl (by decide +kernel) rfl ⟨Nat.le_of_ble_eq_true rfl, Nat.le_of_ble_eq_true rfl⟩ k_169 (by decide) (cl_6 _ _ _ _) rfl dL_law_1864 rfl (Nat.le_of_ble_eq_true rfl) c1 ?_
  intro v2 z2 hp2
  have hok := ok_copiesMade (x := k1) (v := v2) hR rfl hp1 hp2
  rw [← hok.1]
  refine w_icmp hG 2572 dL_law_1867 (by decide) ?_
  exact kk _ _ _ hok.2 ⟨Nat.le_add_right _ _, Nat.le_add_right _ _⟩

set_option maxHeartbeats 4000000 in
set_option maxRecDepth 100000 in
theorem law_30 {l : Launch} {D : va_G} {cA : Nat → ClassId} {r : Nat → Nat} {Γ : Cx} {b L : Nat} {xs : Nat → Int32} {z : Zt} {i : Int} {kc ks : Nat} (hr : Inj r) (hst : l.stackTraces = false) (hG : Cok l D cA r room_1 Γ cL_law RL wsL_law 7) (hW : LwR b L xs Γ) (hL : L ≤ 2560) (hR : Rel z) (hi : 0 ≤ i ∧ i + 5 ≤ (L : Int)) (hk : kc + 4 ≤ 627503 ∧ ks + 24 ≤ 7213595) (kk : ∀ (z1 : Zt) (kc1 ks1 : Nat), Rel z1 → kc1 ≤ kc + 4 ∧ ks1 ≤ ks + 24 → V Γ z1 kc1 ks1 [(0, .ref b), (1, .ref (r 0)), (2, .ref (r 169)), (3, .ref (r 176)), (4, .int (iN i))] 2572 []) : V Γ z kc ks [(0, .ref b), (1, .ref (r 0)), (2, .ref (r 169)), (3, .ref (r 176)), (4, .int (iN i))] 1872 [] := by
  have b1 : 0 ≤ i + 1 ∧ i + 1 < (L : Int) := by omega
  have c0 : kc + 1 ≤ 627503 ∧ ks + 6 * 1 ≤ 7213595 := by omega
  have hc4 : kc + 1 ≤ kc + 4 ∧ ks + 6 * 1 ≤ ks + 24 := by omega
  refine v_aload_n hG dL_law_1872 1 rfl ?_
  refine v_aload_n hG dL_law_1873 0 rfl ?_
  refine v_iload hG dL_law_1874 4 rfl ?_
  refine v_iconst hG dL_law_1876 ?_
  refine v_iadd hG dL_law_1877 ?_
  refine w_sld hG hW hL b1 dL_law_1878 ?_
  refine v_aload_n hG dL_law_1879 3 rfl ?_
  refine w_callS (n := 3) hG hW (c_L_nextDay hr hst k_0 hR.1.1 (sv_rg xs (i + 1))) gL_law_L_nextDay rfl (by decide +kernel) rfl ⟨Nat.le_of_ble_eq_true rfl, Nat.le_of_ble_eq_true rfl⟩ dL_law_1880 rfl (Nat.le_of_ble_eq_true rfl) c0 ?_
  intro k1 z1 hp1
  have hF : WF z1 := WF_nz hR (nz_nextDay hp1)
  have rk : 0 ≤ k1 ∧ k1 ≤ 3 := by
    rcases hp1 with ⟨h9, -⟩ | ⟨h9, -⟩
    · clear hF; omega
    · clear hF; omega
  refine v_istore hG [(0, _), (1, _), (2, _), (3, _), (4, _), (5, _)] dL_law_1883 (by decide) rfl ?_
  refine v_aload_n hG dL_law_1885 2 rfl ?_
  refine v_aload_n hG dL_law_1886 0 rfl ?_
  refine v_iload hG dL_law_1887 4 rfl ?_
  refine v_iconst hG dL_law_1889 ?_
  refine v_iadd hG dL_law_1890 ?_
  refine w_sld hG hW hL b1 dL_law_1891 ?_
  refine v_callVi (n := 1) (ci := 5) hG (c_X5_nextDay hr k_169 rfl hF.1 (sv_rg xs (i + 1))) gL_law_X5_nextDay rfl (by decide +kernel) rfl ⟨Nat.le_of_ble_eq_true rfl, Nat.le_of_ble_eq_true rfl⟩ k_169 (by decide) (cl_6 _ _ _ _) rfl dL_law_1892 rfl (Nat.le_of_ble_eq_true rfl) c0 ?_
  intro v2 z2 hp2
  refine v_istore hG [(0, _), (1, _), (2, _), (3, _), (4, _), (5, _), (6, _)] dL_law_1895 (by decide) rfl ?_
  refine v_aload_n hG dL_law_1897 2 rfl ?_
  refine v_callVi (n := 0) (ci := 5) hG (c_X5_thrown hr k_169) gL_law_X5_thrown rfl (by decide +kernel) rfl ⟨Nat.le_of_ble_eq_true rfl, Nat.le_of_ble_eq_true rfl⟩ k_169 (by decide) (cl_6 _ _ _ _) rfl dL_law_1898 rfl (Nat.le_of_ble_eq_true rfl) c0 ?_
  intro k3 z3 hp3
  obtain ⟨rfl, e3⟩ := hp3
  have hok := ok_nextDay (k := k1) (v := v2) hR rfl hp1 hp2
  have e9 : k3 = k1 := e3.trans hok.1
  rw [e9]
  clear hp1 hp2 hF e3 e9
  refine v_iload hG dL_law_1901 5 rfl ?_
  refine w_icmp hG 1908 dL_law_1903 (by decide) ?_
  refine v_iload hG dL_law_1908 5 rfl ?_
  refine v_if_ne hG 1925 (by omega) dL_law_1910 (by decide) (fun h8 => ?_) (fun h8 => ?_)
  · refine v_goto hG 2572 dL_law_1925 (by decide) ?_
    refine v_sub hG [(0, _), (1, _), (2, _), (3, _), (4, _)] [0, 1, 2, 3, 4] rfl ?_
    exact kk _ _ _ hok.2.2 hc4
  · refine v_aload_n hG dL_law_1913 3 rfl ?_
    refine v_iconst hG dL_law_1914 ?_
    refine v_laload hG dL_law_1915 ?_
    rw [hok.2.1 h8]
    refine v_iload hG dL_law_1916 6 rfl ?_
    refine v_i2l hG dL_law_1918 ?_
    refine v_lcmp hG dL_law_1919 ?_
    rw [lcr_0.mpr rfl]
    refine v_if_eq hG 1925 (by decide) dL_law_1920 (by decide) (fun _ => ?_) (fun h7 => absurd rfl h7)
    refine v_goto hG 2572 dL_law_1925 (by decide) ?_
    refine v_sub hG [(0, _), (1, _), (2, _), (3, _), (4, _)] [0, 1, 2, 3, 4] rfl ?_
    exact kk _ _ _ hok.2.2 hc4

set_option maxHeartbeats 4000000 in
set_option maxRecDepth 100000 in
theorem law_31 {l : Launch} {D : va_G} {cA : Nat → ClassId} {r : Nat → Nat} {Γ : Cx} {b L : Nat} {xs : Nat → Int32} {z : Zt} {i : Int} {kc ks : Nat} (hr : Inj r) (hst : l.stackTraces = false) (hG : Cok l D cA r room_1 Γ cL_law RL wsL_law 7) (hW : LwR b L xs Γ) (hL : L ≤ 2560) (hR : Rel z) (hi : 0 ≤ i ∧ i + 5 ≤ (L : Int)) (hk : kc + 4 ≤ 627503 ∧ ks + 24 ≤ 7213595) (kk : ∀ (z1 : Zt) (kc1 ks1 : Nat), Rel z1 → kc1 ≤ kc + 4 ∧ ks1 ≤ ks + 24 → V Γ z1 kc1 ks1 [(0, .ref b), (1, .ref (r 0)), (2, .ref (r 169)), (3, .ref (r 176)), (4, .int (iN i))] 2572 []) : V Γ z kc ks [(0, .ref b), (1, .ref (r 0)), (2, .ref (r 169)), (3, .ref (r 176)), (4, .int (iN i))] 1928 [] := by
  have b1 : 0 ≤ i + 1 ∧ i + 1 < (L : Int) := by omega
  have b2 : 0 ≤ i + 2 ∧ i + 2 < (L : Int) := by omega
  have c0 : kc + 3 ≤ 627503 ∧ ks + 6 * 3 ≤ 7213595 := by omega
  have hc4 : kc + 3 ≤ kc + 4 ∧ ks + 6 * 3 ≤ ks + 24 := by omega
  refine v_aload_n hG dL_law_1928 1 rfl ?_
  refine v_aload_n hG dL_law_1929 0 rfl ?_
  refine v_iload hG dL_law_1930 4 rfl ?_
  refine v_iconst hG dL_law_1932 ?_
  refine v_iadd hG dL_law_1933 ?_
  refine w_sld hG hW hL b1 dL_law_1934 ?_
  refine v_aload_n hG dL_law_1935 0 rfl ?_
  refine v_iload hG dL_law_1936 4 rfl ?_
  refine v_iconst hG dL_law_1938 ?_
  refine v_iadd hG dL_law_1939 ?_
  refine w_sld hG hW hL b2 dL_law_1940 ?_
  refine v_aload_n hG dL_law_1941 3 rfl ?_
  refine w_callS (n := 4) hG hW (c_L_daysUntilMeeting hr hst k_0 hR.1.1 (sv_rg xs (i + 1)) (sv_rg xs (i + 2))) gL_law_L_daysUntilMeeting rfl (by decide +kernel) rfl ⟨Nat.le_of_ble_eq_true rfl, Nat.le_of_ble_eq_true rfl⟩ dL_law_1942 rfl (Nat.le_of_ble_eq_true rfl) c0 ?_
  intro k1 z1 hp1
  have hF : WF z1 := WF_nz hR (nz_daysUntilMeeting hp1)
  have rk : 0 ≤ k1 ∧ k1 ≤ 3 := by
    rcases hp1 with ⟨h9, -⟩ | ⟨h9, -⟩ | ⟨h9, -⟩
    · clear hF; omega
    · clear hF; omega
    · clear hF; omega
  refine v_istore hG [(0, _), (1, _), (2, _), (3, _), (4, _), (5, _)] dL_law_1945 (by decide) rfl ?_
  refine v_aload_n hG dL_law_1947 2 rfl ?_
  refine v_aload_n hG dL_law_1948 0 rfl ?_
  refine v_iload hG dL_law_1949 4 rfl ?_
  refine v_iconst hG dL_law_1951 ?_
  refine v_iadd hG dL_law_1952 ?_
  refine w_sld hG hW hL b1 dL_law_1953 ?_
  refine v_aload_n hG dL_law_1954 0 rfl ?_
  refine v_iload hG dL_law_1955 4 rfl ?_
  refine v_iconst hG dL_law_1957 ?_
  refine v_iadd hG dL_law_1958 ?_
  refine w_sld hG hW hL b2 dL_law_1959 ?_
  refine v_callVi (n := 2) (ci := 5) hG (c_X5_daysUntilMeeting hr k_169 rfl hF.1 (sv_rg xs (i + 1)) (sv_rg xs (i + 2))) gL_law_X5_daysUntilMeeting rfl (by decide +kernel) rfl ⟨Nat.le_of_ble_eq_true rfl, Nat.le_of_ble_eq_true rfl⟩ k_169 (by decide) (cl_6 _ _ _ _) rfl dL_law_1960 rfl (Nat.le_of_ble_eq_true rfl) c0 ?_
  intro v2 z2 hp2
  refine v_istore hG [(0, _), (1, _), (2, _), (3, _), (4, _), (5, _), (6, _)] dL_law_1963 (by decide) rfl ?_
  refine v_aload_n hG dL_law_1965 2 rfl ?_
  refine v_callVi (n := 0) (ci := 5) hG (c_X5_thrown hr k_169) gL_law_X5_thrown rfl (by decide +kernel) rfl ⟨Nat.le_of_ble_eq_true rfl, Nat.le_of_ble_eq_true rfl⟩ k_169 (by decide) (cl_6 _ _ _ _) rfl dL_law_1966 rfl (Nat.le_of_ble_eq_true rfl) c0 ?_
  intro k3 z3 hp3
  obtain ⟨rfl, e3⟩ := hp3
  have hok := ok_daysUntilMeeting (k := k1) (v := v2) hR rfl hp1 hp2
  have e9 : k3 = k1 := e3.trans hok.1
  rw [e9]
  clear hp1 hp2 hF e3 e9
  refine v_iload hG dL_law_1969 5 rfl ?_
  refine w_icmp hG 1976 dL_law_1971 (by decide) ?_
  refine v_iload hG dL_law_1976 5 rfl ?_
  refine v_if_ne hG 1993 (by omega) dL_law_1978 (by decide) (fun h8 => ?_) (fun h8 => ?_)
  · refine v_goto hG 2572 dL_law_1993 (by decide) ?_
    refine v_sub hG [(0, _), (1, _), (2, _), (3, _), (4, _)] [0, 1, 2, 3, 4] rfl ?_
    exact kk _ _ _ hok.2.2 hc4
  · refine v_aload_n hG dL_law_1981 3 rfl ?_
    refine v_iconst hG dL_law_1982 ?_
    refine v_laload hG dL_law_1983 ?_
    rw [hok.2.1 h8]
    refine v_iload hG dL_law_1984 6 rfl ?_
    refine v_i2l hG dL_law_1986 ?_
    refine v_lcmp hG dL_law_1987 ?_
    rw [lcr_0.mpr rfl]
    refine v_if_eq hG 1993 (by decide) dL_law_1988 (by decide) (fun _ => ?_) (fun h7 => absurd rfl h7)
    refine v_goto hG 2572 dL_law_1993 (by decide) ?_
    refine v_sub hG [(0, _), (1, _), (2, _), (3, _), (4, _)] [0, 1, 2, 3, 4] rfl ?_
    exact kk _ _ _ hok.2.2 hc4

set_option maxHeartbeats 4000000 in
set_option maxRecDepth 100000 in
theorem law_32 {l : Launch} {D : va_G} {cA : Nat → ClassId} {r : Nat → Nat} {Γ : Cx} {b L : Nat} {xs : Nat → Int32} {z : Zt} {i : Int} {kc ks : Nat} (hr : Inj r) (hst : l.stackTraces = false) (hG : Cok l D cA r room_1 Γ cL_law RL wsL_law 7) (hW : LwR b L xs Γ) (hL : L ≤ 2560) (hR : Rel z) (hi : 0 ≤ i ∧ i + 5 ≤ (L : Int)) (hk : kc + 4 ≤ 627503 ∧ ks + 24 ≤ 7213595) (kk : ∀ (z1 : Zt) (kc1 ks1 : Nat), Rel z1 → kc1 ≤ kc + 4 ∧ ks1 ≤ ks + 24 → V Γ z1 kc1 ks1 [(0, .ref b), (1, .ref (r 0)), (2, .ref (r 169)), (3, .ref (r 176)), (4, .int (iN i))] 2572 []) : V Γ z kc ks [(0, .ref b), (1, .ref (r 0)), (2, .ref (r 169)), (3, .ref (r 176)), (4, .int (iN i))] 1996 [] := by
  have b1 : 0 ≤ i + 1 ∧ i + 1 < (L : Int) := by omega
  have c0 : kc + 1 ≤ 627503 ∧ ks + 6 * 1 ≤ 7213595 := by omega
  have hc4 : kc + 1 ≤ kc + 4 ∧ ks + 6 * 1 ≤ ks + 24 := by omega
  refine v_aload_n hG dL_law_1996 1 rfl ?_
  refine v_aload_n hG dL_law_1997 0 rfl ?_
  refine v_iload hG dL_law_1998 4 rfl ?_
  refine v_iconst hG dL_law_2000 ?_
  refine v_iadd hG dL_law_2001 ?_
  refine w_sld hG hW hL b1 dL_law_2002 ?_
  refine v_aload_n hG dL_law_2003 3 rfl ?_
  refine w_callS (n := 3) hG hW (c_L_quarrelsWithin hr hst k_0 hR.1.1 (sv_rg xs (i + 1))) gL_law_L_quarrelsWithin rfl (by decide +kernel) rfl ⟨Nat.le_of_ble_eq_true rfl, Nat.le_of_ble_eq_true rfl⟩ dL_law_2004 rfl (Nat.le_of_ble_eq_true rfl) c0 ?_
  intro k1 z1 hp1
  have hF : WF z1 := WF_nz hR (nz_quarrelsWithin hp1)
  have rk : 0 ≤ k1 ∧ k1 ≤ 3 := by
    rcases hp1 with ⟨h9, -⟩ | ⟨h9, -⟩
    · clear hF; omega
    · clear hF; omega
  refine v_istore hG [(0, _), (1, _), (2, _), (3, _), (4, _), (5, _)] dL_law_2007 (by decide) rfl ?_
  refine v_aload_n hG dL_law_2009 2 rfl ?_
  refine v_aload_n hG dL_law_2010 0 rfl ?_
  refine v_iload hG dL_law_2011 4 rfl ?_
  refine v_iconst hG dL_law_2013 ?_
  refine v_iadd hG dL_law_2014 ?_
  refine w_sld hG hW hL b1 dL_law_2015 ?_
  refine v_callVi (n := 1) (ci := 5) hG (c_X5_quarrelsWithin hr k_169 rfl hF.1 (sv_rg xs (i + 1))) gL_law_X5_quarrelsWithin rfl (by decide +kernel) rfl ⟨Nat.le_of_ble_eq_true rfl, Nat.le_of_ble_eq_true rfl⟩ k_169 (by decide) (cl_6 _ _ _ _) rfl dL_law_2016 rfl (Nat.le_of_ble_eq_true rfl) c0 ?_
  intro v2 z2 hp2
  refine v_istore hG [(0, _), (1, _), (2, _), (3, _), (4, _), (5, _), (6, _)] dL_law_2019 (by decide) rfl ?_
  refine v_aload_n hG dL_law_2021 2 rfl ?_
  refine v_callVi (n := 0) (ci := 5) hG (c_X5_thrown hr k_169) gL_law_X5_thrown rfl (by decide +kernel) rfl ⟨Nat.le_of_ble_eq_true rfl, Nat.le_of_ble_eq_true rfl⟩ k_169 (by decide) (cl_6 _ _ _ _) rfl dL_law_2022 rfl (Nat.le_of_ble_eq_true rfl) c0 ?_
  intro k3 z3 hp3
  obtain ⟨rfl, e3⟩ := hp3
  have hok := ok_quarrelsWithin (k := k1) (v := v2) hR rfl hp1 hp2
  have e9 : k3 = k1 := e3.trans hok.1
  rw [e9]
  clear hp1 hp2 hF e3 e9
  refine v_iload hG dL_law_2025 5 rfl ?_
  refine w_icmp hG 2032 dL_law_2027 (by decide) ?_
  refine v_iload hG dL_law_2032 5 rfl ?_
  refine v_if_ne hG 2049 (by omega) dL_law_2034 (by decide) (fun h8 => ?_) (fun h8 => ?_)
  · refine v_goto hG 2572 dL_law_2049 (by decide) ?_
    refine v_sub hG [(0, _), (1, _), (2, _), (3, _), (4, _)] [0, 1, 2, 3, 4] rfl ?_
    exact kk _ _ _ hok.2.2 hc4
  · refine v_aload_n hG dL_law_2037 3 rfl ?_
    refine v_iconst hG dL_law_2038 ?_
    refine v_laload hG dL_law_2039 ?_
    rw [hok.2.1 h8]
    refine v_iload hG dL_law_2040 6 rfl ?_
    refine v_i2l hG dL_law_2042 ?_
    refine v_lcmp hG dL_law_2043 ?_
    rw [lcr_0.mpr rfl]
    refine v_if_eq hG 2049 (by decide) dL_law_2044 (by decide) (fun _ => ?_) (fun h7 => absurd rfl h7)
    refine v_goto hG 2572 dL_law_2049 (by decide) ?_
    refine v_sub hG [(0, _), (1, _), (2, _), (3, _), (4, _)] [0, 1, 2, 3, 4] rfl ?_
    exact kk _ _ _ hok.2.2 hc4

set_option maxHeartbeats 4000000 in
set_option maxRecDepth 100000 in
theorem law_33 {l : Launch} {D : va_G} {cA : Nat → ClassId} {r : Nat → Nat} {Γ : Cx} {b L : Nat} {xs : Nat → Int32} {z : Zt} {i : Int} {kc ks : Nat} (hr : Inj r) (hst : l.stackTraces = false) (hG : Cok l D cA r room_1 Γ cL_law RL wsL_law 7) (hW : LwR b L xs Γ) (hL : L ≤ 2560) (hR : Rel z) (hi : 0 ≤ i ∧ i + 5 ≤ (L : Int)) (hk : kc + 4 ≤ 627503 ∧ ks + 24 ≤ 7213595) (kk : ∀ (z1 : Zt) (kc1 ks1 : Nat), Rel z1 → kc1 ≤ kc + 4 ∧ ks1 ≤ ks + 24 → V Γ z1 kc1 ks1 [(0, .ref b), (1, .ref (r 0)), (2, .ref (r 169)), (3, .ref (r 176)), (4, .int (iN i))] 2572 []) : V Γ z kc ks [(0, .ref b), (1, .ref (r 0)), (2, .ref (r 169)), (3, .ref (r 176)), (4, .int (iN i))] 2052 [] := by
  have b1 : 0 ≤ i + 1 ∧ i + 1 < (L : Int) := by omega
  have c0 : kc + 1 ≤ 627503 ∧ ks + 6 * 1 ≤ 7213595 := by omega
  have hc4 : kc + 1 ≤ kc + 4 ∧ ks + 6 * 1 ≤ ks + 24 := by omega
  refine v_aload_n hG dL_law_2052 1 rfl ?_
  refine v_aload_n hG dL_law_2053 0 rfl ?_
  refine v_iload hG dL_law_2054 4 rfl ?_
  refine v_iconst hG dL_law_2056 ?_
  refine v_iadd hG dL_law_2057 ?_
  refine w_sld hG hW hL b1 dL_law_2058 ?_
  refine v_aload_n hG dL_law_2059 3 rfl ?_
  refine w_callS (n := 3) hG hW (c_L_bestBarredWeekday hr hst k_0 hR.1.1 (sv_rg xs (i + 1))) gL_law_L_bestBarredWeekday rfl (by decide +kernel) rfl ⟨Nat.le_of_ble_eq_true rfl, Nat.le_of_ble_eq_true rfl⟩ dL_law_2060 rfl (Nat.le_of_ble_eq_true rfl) c0 ?_
  intro k1 z1 hp1
  have hF : WF z1 := WF_nz hR (nz_bestBarredWeekday hp1)
  have rk : 0 ≤ k1 ∧ k1 ≤ 3 := by
    rcases hp1 with ⟨h9, -⟩ | ⟨h9, -⟩
    · clear hF; omega
    · clear hF; omega
  refine v_istore hG [(0, _), (1, _), (2, _), (3, _), (4, _), (5, _)] dL_law_2063 (by decide) rfl ?_
  refine v_aload_n hG dL_law_2065 2 rfl ?_
  refine v_aload_n hG dL_law_2066 0 rfl ?_
  refine v_iload hG dL_law_2067 4 rfl ?_
  refine v_iconst hG dL_law_2069 ?_
  refine v_iadd hG dL_law_2070 ?_
  refine w_sld hG hW hL b1 dL_law_2071 ?_
  refine v_callVi (n := 1) (ci := 5) hG (c_X5_bestBarredWeekday hr k_169 rfl hF.1 (sv_rg xs (i + 1))) gL_law_X5_bestBarredWeekday rfl (by decide +kernel) rfl ⟨Nat.le_of_ble_eq_true rfl, Nat.le_of_ble_eq_true rfl⟩ k_169 (by decide) (cl_6 _ _ _ _) rfl dL_law_2072 rfl (Nat.le_of_ble_eq_true rfl) c0 ?_
  intro v2 z2 hp2
  refine v_istore hG [(0, _), (1, _), (2, _), (3, _), (4, _), (5, _), (6, _)] dL_law_2075 (by decide) rfl ?_
  refine v_aload_n hG dL_law_2077 2 rfl ?_
  refine v_callVi (n := 0) (ci := 5) hG (c_X5_thrown hr k_169) gL_law_X5_thrown rfl (by decide +kernel) rfl ⟨Nat.le_of_ble_eq_true rfl, Nat.le_of_ble_eq_true rfl⟩ k_169 (by decide) (cl_6 _ _ _ _) rfl dL_law_2078 rfl (Nat.le_of_ble_eq_true rfl) c0 ?_
  intro k3 z3 hp3
  obtain ⟨rfl, e3⟩ := hp3
  have hok := ok_bestBarredWeekday (k := k1) (v := v2) hR rfl hp1 hp2
  have e9 : k3 = k1 := e3.trans hok.1
  rw [e9]
  clear hp1 hp2 hF e3 e9
  refine v_iload hG dL_law_2081 5 rfl ?_
  refine w_icmp hG 2088 dL_law_2083 (by decide) ?_
  refine v_iload hG dL_law_2088 5 rfl ?_
  refine v_if_ne hG 2105 (by omega) dL_law_2090 (by decide) (fun h8 => ?_) (fun h8 => ?_)
  · refine v_goto hG 2572 dL_law_2105 (by decide) ?_
    refine v_sub hG [(0, _), (1, _), (2, _), (3, _), (4, _)] [0, 1, 2, 3, 4] rfl ?_
    exact kk _ _ _ hok.2.2 hc4
  · refine v_aload_n hG dL_law_2093 3 rfl ?_
    refine v_iconst hG dL_law_2094 ?_
    refine v_laload hG dL_law_2095 ?_
    rw [hok.2.1 h8]
    refine v_iload hG dL_law_2096 6 rfl ?_
    refine v_i2l hG dL_law_2098 ?_
    refine v_lcmp hG dL_law_2099 ?_
    rw [lcr_0.mpr rfl]
    refine v_if_eq hG 2105 (by decide) dL_law_2100 (by decide) (fun _ => ?_) (fun h7 => absurd rfl h7)
    refine v_goto hG 2572 dL_law_2105 (by decide) ?_
    refine v_sub hG [(0, _), (1, _), (2, _), (3, _), (4, _)] [0, 1, 2, 3, 4] rfl ?_
    exact kk _ _ _ hok.2.2 hc4

set_option maxHeartbeats 4000000 in
set_option maxRecDepth 100000 in
theorem law_35 {l : Launch} {D : va_G} {cA : Nat → ClassId} {r : Nat → Nat} {Γ : Cx} {b L : Nat} {xs : Nat → Int32} {z : Zt} {i : Int} {kc ks : Nat} (hr : Inj r) (hst : l.stackTraces = false) (hG : Cok l D cA r room_1 Γ cL_law RL wsL_law 7) (hW : LwR b L xs Γ) (hL : L ≤ 2560) (hR : Rel z) (hi : 0 ≤ i ∧ i + 5 ≤ (L : Int)) (hk : kc + 4 ≤ 627503 ∧ ks + 24 ≤ 7213595) (kk : ∀ (z1 : Zt) (kc1 ks1 : Nat), Rel z1 → kc1 ≤ kc + 4 ∧ ks1 ≤ ks + 24 → V Γ z1 kc1 ks1 [(0, .ref b), (1, .ref (r 0)), (2, .ref (r 169)), (3, .ref (r 176)), (4, .int (iN i))] 2572 []) : V Γ z kc ks [(0, .ref b), (1, .ref (r 0)), (2, .ref (r 169)), (3, .ref (r 176)), (4, .int (iN i))] 2196 [] := by
  have c1 : kc ≤ 627503 ∧ ks ≤ 7213595 := by omega
  refine v_aload_n hG dL_law_2196 1 rfl ?_
  refine v_callVi (n := 0) (ci := 4) hG (c_X4_clearText hr k_0) gL_law_X4_clearText rfl (by decide +kernel) rfl ⟨Nat.le_of_ble_eq_true rfl, Nat.le_of_ble_eq_true rfl⟩ k_0 (by decide) (cl_1 _ _ _ _) rfl dL_law_2197 rfl (Nat.le_of_ble_eq_true rfl) c1 ?_
  intro k1 z1 hp1
  refine v_aload_n hG dL_law_2200 2 rfl ?_
  refine v_callVi (n := 0) (ci := 5) hG (c_X5_clearText hr k_169 rfl) gL_law_X5_clearText rfl (by decide +kernel) rfl ⟨Nat.le_of_ble_eq_true rfl, Nat.le_of_ble_eq_true rfl⟩ k_169 (by decide) (cl_6 _ _ _ _) rfl dL_law_2201 rfl (Nat.le_of_ble_eq_true rfl) c1 ?_
  intro v2 z2 hp2
  have hok := ok_clearText (x := k1) (v := v2) hR rfl hp1 hp2
  rw [← hok.1]
  refine w_icmp hG 2572 dL_law_2204 (by decide) ?_
  exact kk _ _ _ hok.2 ⟨Nat.le_add_right _ _, Nat.le_add_right _ _⟩
