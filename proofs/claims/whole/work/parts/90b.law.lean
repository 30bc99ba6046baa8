set_option maxHeartbeats 4000000 in
set_option maxRecDepth 100000 in
theorem law_9 {l : Launch} {D : va_G} {cA : Nat → ClassId} {r : Nat → Nat} {Γ : Cx} {b L : Nat} {xs : Nat → Int32} {z : Zt} {i : Int} {kc ks : Nat} (hr : Inj r) (hst : l.stackTraces = false) (hG : Cok l D cA r room_1 Γ cL_law RL wsL_law 7) (hW : LwR b L xs Γ) (hL : L ≤ 2560) (hR : Rel z) (hi : 0 ≤ i ∧ i + 5 ≤ (L : Int)) (hk : kc + 4 ≤ 627503 ∧ ks + 24 ≤ 7213595) (kk : ∀ (z1 : Zt) (kc1 ks1 : Nat), Rel z1 → kc1 ≤ kc + 4 ∧ ks1 ≤ ks + 24 → V Γ z1 kc1 ks1 [(0, .ref b), (1, .ref (r 0)), (2, .ref (r 169)), (3, .ref (r 176)), (4, .int (iN i))] 2572 []) : V Γ z kc ks [(0, .ref b), (1, .ref (r 0)), (2, .ref (r 169)), (3, .ref (r 176)), (4, .int (iN i))] 832 [] := by
  have b1 : 0 ≤ i + 1 ∧ i + 1 < (L : Int) := by omega
  have b2 : 0 ≤ i + 2 ∧ i + 2 < (L : Int) := by omega
  have b3 : 0 ≤ i + 3 ∧ i + 3 < (L : Int) := by omega
  have b4 : 0 ≤ i + 4 ∧ i + 4 < (L : Int) := by omega
  have c0 : kc + 4 ≤ 627503 ∧ ks + 6 * 4 ≤ 7213595 := by omega
  have hc4 : kc + 4 ≤ kc + 4 ∧ ks + 6 * 4 ≤ ks + 24 := by omega
  refine v_aload_n hG dL_law_832 1 rfl ?_
  refine v_aload_n hG dL_law_833 0 rfl ?_
  refine v_iload hG dL_law_834 4 rfl ?_
  refine v_iconst hG dL_law_836 ?_
  refine v_iadd hG dL_law_837 ?_
  refine w_sld hG hW hL b1 dL_law_838 ?_
  refine v_aload_n hG dL_law_839 0 rfl ?_
  refine v_iload hG dL_law_840 4 rfl ?_
  refine v_iconst hG dL_law_842 ?_
  refine v_iadd hG dL_law_843 ?_
  refine w_sld hG hW hL b2 dL_law_844 ?_
  refine v_aload_n hG dL_law_845 0 rfl ?_
  refine v_iload hG dL_law_846 4 rfl ?_
  refine v_iconst hG dL_law_848 ?_
  refine v_iadd hG dL_law_849 ?_
  refine w_sld hG hW hL b3 dL_law_850 ?_
  refine v_aload_n hG dL_law_851 0 rfl ?_
  refine v_iload hG dL_law_852 4 rfl ?_
  refine v_iconst hG dL_law_854 ?_
  refine v_iadd hG dL_law_855 ?_
  refine w_sld hG hW hL b4 dL_law_856 ?_
  refine v_aload_n hG dL_law_857 3 rfl ?_
  refine w_callS (n := 6) hG hW (c_L_dayOfDate hr hst k_0 hR.1.1 (sv_rg xs (i + 1)) (sv_rg xs (i + 2)) (sv_rg xs (i + 3)) (sv_rg xs (i + 4))) gL_law_L_dayOfDate rfl (by decide +kernel) rfl ⟨Nat.le_of_ble_eq_true rfl, Nat.le_of_ble_eq_true rfl⟩ dL_law_858 rfl (Nat.le_of_ble_eq_true rfl) c0 ?_
  intro k1 z1 hp1
  have hF : WF z1 := WF_nz hR (nz_dayOfDate hp1)
  have rk : 0 ≤ k1 ∧ k1 ≤ 3 := by
    rcases hp1 with ⟨h9, -⟩ | ⟨h9, -⟩ | ⟨h9, -⟩
    · clear hF; omega
    · clear hF; omega
    · clear hF; omega
  refine v_istore hG [(0, _), (1, _), (2, _), (3, _), (4, _), (5, _)] dL_law_861 (by decide) rfl ?_
  refine v_aload_n hG dL_law_863 2 rfl ?_
  refine v_aload_n hG dL_law_864 0 rfl ?_
  refine v_iload hG dL_law_865 4 rfl ?_
  refine v_iconst hG dL_law_867 ?_
  refine v_iadd hG dL_law_868 ?_
  refine w_sld hG hW hL b1 dL_law_869 ?_
  refine v_aload_n hG dL_law_870 0 rfl ?_
  refine v_iload hG dL_law_871 4 rfl ?_
  refine v_iconst hG dL_law_873 ?_
  refine v_iadd hG dL_law_874 ?_
  refine w_sld hG hW hL b2 dL_law_875 ?_
  refine v_aload_n hG dL_law_876 0 rfl ?_
  refine v_iload hG dL_law_877 4 rfl ?_
  refine v_iconst hG dL_law_879 ?_
  refine v_iadd hG dL_law_880 ?_
  refine w_sld hG hW hL b3 dL_law_881 ?_
  refine v_aload_n hG dL_law_882 0 rfl ?_
  refine v_iload hG dL_law_883 4 rfl ?_
  refine v_iconst hG dL_law_885 ?_
  refine v_iadd hG dL_law_886 ?_
  refine w_sld hG hW hL b4 dL_law_887 ?_
  refine v_callVi (n := 4) (ci := 5) hG (c_X5_dayOfDate hr k_169 rfl hF.1 (sv_rg xs (i + 1)) (sv_rg xs (i + 2)) (sv_rg xs (i + 3)) (sv_rg xs (i + 4))) gL_law_X5_dayOfDate rfl (by decide +kernel) rfl ⟨Nat.le_of_ble_eq_true rfl, Nat.le_of_ble_eq_true rfl⟩ k_169 (by decide) (cl_6 _ _ _ _) rfl dL_law_888 rfl (Nat.le_of_ble_eq_true rfl) c0 ?_
  intro v2 z2 hp2
  refine v_istore hG [(0, _), (1, _), (2, _), (3, _), (4, _), (5, _), (6, _)] dL_law_891 (by decide) rfl ?_
  refine v_aload_n hG dL_law_893 2 rfl ?_
  refine v_callVi (n := 0) (ci := 5) hG (c_X5_thrown hr k_169) gL_law_X5_thrown rfl (by decide +kernel) rfl ⟨Nat.le_of_ble_eq_true rfl, Nat.le_of_ble_eq_true rfl⟩ k_169 (by decide) (cl_6 _ _ _ _) rfl dL_law_894 rfl (Nat.le_of_ble_eq_true rfl) c0 ?_
  intro k3 z3 hp3
  obtain ⟨rfl, e3⟩ := hp3
  have hok := ok_dayOfDate (k := k1) (v := v2) hR rfl hp1 hp2
  have e9 : k3 = k1 := e3.trans hok.1
  rw [e9]
  clear hp1 hp2 hF e3 e9
  refine v_iload hG dL_law_897 5 rfl ?_
  refine w_icmp hG 904 dL_law_899 (by decide) ?_
  refine v_iload hG dL_law_904 5 rfl ?_
  refine v_if_ne hG 921 (by omega) dL_law_906 (by decide) (fun h8 => ?_) (fun h8 => ?_)
  · refine v_goto hG 2572 dL_law_921 (by decide) ?_
    refine v_sub hG [(0, _), (1, _), (2, _), (3, _), (4, _)] [0, 1, 2, 3, 4] rfl ?_
    exact kk _ _ _ hok.2.2 hc4
  · refine v_aload_n hG dL_law_909 3 rfl ?_
    refine v_iconst hG dL_law_910 ?_
    refine v_laload hG dL_law_911 ?_
    rw [hok.2.1 h8]
    refine v_iload hG dL_law_912 6 rfl ?_
    refine v_i2l hG dL_law_914 ?_
    refine v_lcmp hG dL_law_915 ?_
    rw [lcr_0.mpr rfl]
    refine v_if_eq hG 921 (by decide) dL_law_916 (by decide) (fun _ => ?_) (fun h7 => absurd rfl h7)
    refine v_goto hG 2572 dL_law_921 (by decide) ?_
    refine v_sub hG [(0, _), (1, _), (2, _), (3, _), (4, _)] [0, 1, 2, 3, 4] rfl ?_
    exact kk _ _ _ hok.2.2 hc4

set_option maxHeartbeats 4000000 in
set_option maxRecDepth 100000 in
theorem law_10 {l : Launch} {D : va_G} {cA : Nat → ClassId} {r : Nat → Nat} {Γ : Cx} {b L : Nat} {xs : Nat → Int32} {z : Zt} {i : Int} {kc ks : Nat} (hr : Inj r) (hst : l.stackTraces = false) (hG : Cok l D cA r room_1 Γ cL_law RL wsL_law 7) (hW : LwR b L xs Γ) (hL : L ≤ 2560) (hR : Rel z) (hi : 0 ≤ i ∧ i + 5 ≤ (L : Int)) (hk : kc + 4 ≤ 627503 ∧ ks + 24 ≤ 7213595) (kk : ∀ (z1 : Zt) (kc1 ks1 : Nat), Rel z1 → kc1 ≤ kc + 4 ∧ ks1 ≤ ks + 24 → V Γ z1 kc1 ks1 [(0, .ref b), (1, .ref (r 0)), (2, .ref (r 169)), (3, .ref (r 176)), (4, .int (iN i))] 2572 []) : V Γ z kc ks [(0, .ref b), (1, .ref (r 0)), (2, .ref (r 169)), (3, .ref (r 176)), (4, .int (iN i))] 924 [] := by
  have b1 : 0 ≤ i + 1 ∧ i + 1 < (L : Int) := by omega
  have b2 : 0 ≤ i + 2 ∧ i + 2 < (L : Int) := by omega
  have b3 : 0 ≤ i + 3 ∧ i + 3 < (L : Int) := by omega
  have c0 : kc + 4 ≤ 627503 ∧ ks + 6 * 4 ≤ 7213595 := by omega
  have hc4 : kc + 4 ≤ kc + 4 ∧ ks + 6 * 4 ≤ ks + 24 := by omega
  refine v_aload_n hG dL_law_924 1 rfl ?_
  refine v_aload_n hG dL_law_925 0 rfl ?_
  refine v_iload hG dL_law_926 4 rfl ?_
  refine v_iconst hG dL_law_928 ?_
  refine v_iadd hG dL_law_929 ?_
  refine w_sld hG hW hL b1 dL_law_930 ?_
  refine v_aload_n hG dL_law_931 0 rfl ?_
  refine v_iload hG dL_law_932 4 rfl ?_
  refine v_iconst hG dL_law_934 ?_
  refine v_iadd hG dL_law_935 ?_
  refine w_sld hG hW hL b2 dL_law_936 ?_
  refine v_aload_n hG dL_law_937 0 rfl ?_
  refine v_iload hG dL_law_938 4 rfl ?_
  refine v_iconst hG dL_law_940 ?_
  refine v_iadd hG dL_law_941 ?_
  refine w_sld hG hW hL b3 dL_law_942 ?_
  refine v_aload_n hG dL_law_943 3 rfl ?_
  refine w_callS (n := 5) hG hW (c_L_addFeast hr hst k_0 hR.1.1 (PJ_PI hR.2.1) hR.2.2.1 (sv_rg xs (i + 1)) (sv_rg xs (i + 2)) (sv_rg xs (i + 3))) gL_law_L_addFeast rfl (by decide +kernel) rfl ⟨Nat.le_of_ble_eq_true rfl, Nat.le_of_ble_eq_true rfl⟩ dL_law_944 rfl (Nat.le_of_ble_eq_true rfl) c0 ?_
  intro k1 z1 hp1
  have hF : WF z1 := WF_mid hR (mid_addFeast hR hp1)
  have rk : 0 ≤ k1 ∧ k1 ≤ 3 := by
    rcases hp1 with ⟨h9, -⟩ | ⟨h9, -⟩ | ⟨h9, -⟩ | ⟨h9, -⟩
    · clear hF; omega
    · clear hF; omega
    · clear hF; omega
    · clear hF; omega
  refine v_istore hG [(0, _), (1, _), (2, _), (3, _), (4, _), (5, _)] dL_law_947 (by decide) rfl ?_
  refine v_aload_n hG dL_law_949 2 rfl ?_
  refine v_aload_n hG dL_law_950 0 rfl ?_
  refine v_iload hG dL_law_951 4 rfl ?_
  refine v_iconst hG dL_law_953 ?_
  refine v_iadd hG dL_law_954 ?_
  refine w_sld hG hW hL b1 dL_law_955 ?_
  refine v_aload_n hG dL_law_956 0 rfl ?_
  refine v_iload hG dL_law_957 4 rfl ?_
  refine v_iconst hG dL_law_959 ?_
  refine v_iadd hG dL_law_960 ?_
  refine w_sld hG hW hL b2 dL_law_961 ?_
  refine v_aload_n hG dL_law_962 0 rfl ?_
  refine v_iload hG dL_law_963 4 rfl ?_
  refine v_iconst hG dL_law_965 ?_
  refine v_iadd hG dL_law_966 ?_
  refine w_sld hG hW hL b3 dL_law_967 ?_
  refine v_callVi (n := 3) (ci := 5) hG (c_X5_addFeast hr k_169 rfl hF.1 hF.2.1 (sv_rg xs (i + 1)) (sv_rg xs (i + 2)) (sv_rg xs (i + 3))) gL_law_X5_addFeast rfl (by decide +kernel) rfl ⟨Nat.le_of_ble_eq_true rfl, Nat.le_of_ble_eq_true rfl⟩ k_169 (by decide) (cl_6 _ _ _ _) rfl dL_law_968 rfl (Nat.le_of_ble_eq_true rfl) c0 ?_
  intro v2 z2 hp2
  refine v_istore hG [(0, _), (1, _), (2, _), (3, _), (4, _), (5, _), (6, _)] dL_law_971 (by decide) rfl ?_
  refine v_aload_n hG dL_law_973 2 rfl ?_
  refine v_callVi (n := 0) (ci := 5) hG (c_X5_thrown hr k_169) gL_law_X5_thrown rfl (by decide +kernel) rfl ⟨Nat.le_of_ble_eq_true rfl, Nat.le_of_ble_eq_true rfl⟩ k_169 (by decide) (cl_6 _ _ _ _) rfl dL_law_974 rfl (Nat.le_of_ble_eq_true rfl) c0 ?_
  intro k3 z3 hp3
  obtain ⟨rfl, e3⟩ := hp3
  have hok := ok_addFeast (k := k1) (v := v2) hR rfl hp1 hp2
  have e9 : k3 = k1 := e3.trans hok.1
  rw [e9]
  clear hp1 hp2 hF e3 e9
  refine v_iload hG dL_law_977 5 rfl ?_
  refine w_icmp hG 984 dL_law_979 (by decide) ?_
  refine v_iload hG dL_law_984 5 rfl ?_
  refine v_if_ne hG 1001 (by omega) dL_law_986 (by decide) (fun h8 => ?_) (fun h8 => ?_)
  · refine v_goto hG 2572 dL_law_1001 (by decide) ?_
    refine v_sub hG [(0, _), (1, _), (2, _), (3, _), (4, _)] [0, 1, 2, 3, 4] rfl ?_
    exact kk _ _ _ hok.2.2 hc4
  · refine v_aload_n hG dL_law_989 3 rfl ?_
    refine v_iconst hG dL_law_990 ?_
    refine v_laload hG dL_law_991 ?_
    rw [hok.2.1 h8]
    refine v_iload hG dL_law_992 6 rfl ?_
    refine v_i2l hG dL_law_994 ?_
    refine v_lcmp hG dL_law_995 ?_
    rw [lcr_0.mpr rfl]
    refine v_if_eq hG 1001 (by decide) dL_law_996 (by decide) (fun _ => ?_) (fun h7 => absurd rfl h7)
    refine v_goto hG 2572 dL_law_1001 (by decide) ?_
    refine v_sub hG [(0, _), (1, _), (2, _), (3, _), (4, _)] [0, 1, 2, 3, 4] rfl ?_
    exact kk _ _ _ hok.2.2 hc4

set_option maxHeartbeats 4000000 in
set_option maxRecDepth 100000 in
theorem law_11 {l : Launch} {D : va_G} {cA : Nat → ClassId} {r : Nat → Nat} {Γ : Cx} {b L : Nat} {xs : Nat → Int32} {z : Zt} {i : Int} {kc ks : Nat} (hr : Inj r) (hst : l.stackTraces = false) (hG : Cok l D cA r room_1 Γ cL_law RL wsL_law 7) (hW : LwR b L xs Γ) (hL : L ≤ 2560) (hR : Rel z) (hi : 0 ≤ i ∧ i + 5 ≤ (L : Int)) (hk : kc + 4 ≤ 627503 ∧ ks + 24 ≤ 7213595) (kk : ∀ (z1 : Zt) (kc1 ks1 : Nat), Rel z1 → kc1 ≤ kc + 4 ∧ ks1 ≤ ks + 24 → V Γ z1 kc1 ks1 [(0, .ref b), (1, .ref (r 0)), (2, .ref (r 169)), (3, .ref (r 176)), (4, .int (iN i))] 2572 []) : V Γ z kc ks [(0, .ref b), (1, .ref (r 0)), (2, .ref (r 169)), (3, .ref (r 176)), (4, .int (iN i))] 1004 [] := by
  have b1 : 0 ≤ i + 1 ∧ i + 1 < (L : Int) := by omega
  have b2 : 0 ≤ i + 2 ∧ i + 2 < (L : Int) := by omega
  have c0 : kc + 2 ≤ 627503 ∧ ks + 6 * 2 ≤ 7213595 := by omega
  have hc4 : kc + 2 ≤ kc + 4 ∧ ks + 6 * 2 ≤ ks + 24 := by omega
  refine v_aload_n hG dL_law_1004 1 rfl ?_
  refine v_aload_n hG dL_law_1005 0 rfl ?_
  refine v_iload hG dL_law_1006 4 rfl ?_
  refine v_iconst hG dL_law_1008 ?_
  refine v_iadd hG dL_law_1009 ?_
  refine w_sld hG hW hL b1 dL_law_1010 ?_
  refine v_aload_n hG dL_law_1011 0 rfl ?_
  refine v_iload hG dL_law_1012 4 rfl ?_
  refine v_iconst hG dL_law_1014 ?_
  refine v_iadd hG dL_law_1015 ?_
  refine w_sld hG hW hL b2 dL_law_1016 ?_
  refine v_aload_n hG dL_law_1017 3 rfl ?_
  refine w_callS (n := 4) hG hW (c_L_barWeekday hr hst k_0 hR.1.1 (PJ_PI hR.2.1) hR.2.2.1 (sv_rg xs (i + 1)) (sv_rg xs (i + 2))) gL_law_L_barWeekday rfl (by decide +kernel) rfl ⟨Nat.le_of_ble_eq_true rfl, Nat.le_of_ble_eq_true rfl⟩ dL_law_1018 rfl (Nat.le_of_ble_eq_true rfl) c0 ?_
  intro k1 z1 hp1
  have hF : WF z1 := WF_mid hR (mid_barWeekday hR hp1)
  have rk : 0 ≤ k1 ∧ k1 ≤ 3 := by
    rcases hp1 with ⟨h9, -⟩ | ⟨h9, -⟩ | ⟨h9, -⟩
    · clear hF; omega
    · clear hF; omega
    · clear hF; omega
  refine v_istore hG [(0, _), (1, _), (2, _), (3, _), (4, _), (5, _)] dL_law_1021 (by decide) rfl ?_
  refine v_aload_n hG dL_law_1023 2 rfl ?_
  refine v_aload_n hG dL_law_1024 0 rfl ?_
  refine v_iload hG dL_law_1025 4 rfl ?_
  refine v_iconst hG dL_law_1027 ?_
  refine v_iadd hG dL_law_1028 ?_
  refine w_sld hG hW hL b1 dL_law_1029 ?_
  refine v_aload_n hG dL_law_1030 0 rfl ?_
  refine v_iload hG dL_law_1031 4 rfl ?_
  refine v_iconst hG dL_law_1033 ?_
  refine v_iadd hG dL_law_1034 ?_
  refine w_sld hG hW hL b2 dL_law_1035 ?_
  refine v_callVi (n := 2) (ci := 5) hG (c_X5_barWeekday hr k_169 rfl hF.1 hF.2.1 (sv_rg xs (i + 1)) (sv_rg xs (i + 2))) gL_law_X5_barWeekday rfl (by decide +kernel) rfl ⟨Nat.le_of_ble_eq_true rfl, Nat.le_of_ble_eq_true rfl⟩ k_169 (by decide) (cl_6 _ _ _ _) rfl dL_law_1036 rfl (Nat.le_of_ble_eq_true rfl) c0 ?_
  intro v2 z2 hp2
  refine v_istore hG [(0, _), (1, _), (2, _), (3, _), (4, _), (5, _), (6, _)] dL_law_1039 (by decide) rfl ?_
  refine v_aload_n hG dL_law_1041 2 rfl ?_
  refine v_callVi (n := 0) (ci := 5) hG (c_X5_thrown hr k_169) gL_law_X5_thrown rfl (by decide +kernel) rfl ⟨Nat.le_of_ble_eq_true rfl, Nat.le_of_ble_eq_true rfl⟩ k_169 (by decide) (cl_6 _ _ _ _) rfl dL_law_1042 rfl (Nat.le_of_ble_eq_true rfl) c0 ?_
  intro k3 z3 hp3
  obtain ⟨rfl, e3⟩ := hp3
  have hok := ok_barWeekday (k := k1) (v := v2) hR rfl hp1 hp2
  have e9 : k3 = k1 := e3.trans hok.1
  rw [e9]
  clear hp1 hp2 hF e3 e9
  refine v_iload hG dL_law_1045 5 rfl ?_
  refine w_icmp hG 1052 dL_law_1047 (by decide) ?_
  refine v_iload hG dL_law_1052 5 rfl ?_
  refine v_if_ne hG 1069 (by omega) dL_law_1054 (by decide) (fun h8 => ?_) (fun h8 => ?_)
  · refine v_goto hG 2572 dL_law_1069 (by decide) ?_
    refine v_sub hG [(0, _), (1, _), (2, _), (3, _), (4, _)] [0, 1, 2, 3, 4] rfl ?_
    exact kk _ _ _ hok.2.2 hc4
  · refine v_aload_n hG dL_law_1057 3 rfl ?_
    refine v_iconst hG dL_law_1058 ?_
    refine v_laload hG dL_law_1059 ?_
    rw [hok.2.1 h8]
    refine v_iload hG dL_law_1060 6 rfl ?_
    refine v_i2l hG dL_law_1062 ?_
    refine v_lcmp hG dL_law_1063 ?_
    rw [lcr_0.mpr rfl]
    refine v_if_eq hG 1069 (by decide) dL_law_1064 (by decide) (fun _ => ?_) (fun h7 => absurd rfl h7)
    refine v_goto hG 2572 dL_law_1069 (by decide) ?_
    refine v_sub hG [(0, _), (1, _), (2, _), (3, _), (4, _)] [0, 1, 2, 3, 4] rfl ?_
    exact kk _ _ _ hok.2.2 hc4

set_option maxHeartbeats 4000000 in
set_option maxRecDepth 100000 in
theorem law_12 {l : Launch} {D : va_G} {cA : Nat → ClassId} {r : Nat → Nat} {Γ : Cx} {b L : Nat} {xs : Nat → Int32} {z : Zt} {i : Int} {kc ks : Nat} (hr : Inj r) (hst : l.stackTraces = false) (hG : Cok l D cA r room_1 Γ cL_law RL wsL_law 7) (hW : LwR b L xs Γ) (hL : L ≤ 2560) (hR : Rel z) (hi : 0 ≤ i ∧ i + 5 ≤ (L : Int)) (hk : kc + 4 ≤ 627503 ∧ ks + 24 ≤ 7213595) (kk : ∀ (z1 : Zt) (kc1 ks1 : Nat), Rel z1 → kc1 ≤ kc + 4 ∧ ks1 ≤ ks + 24 → V Γ z1 kc1 ks1 [(0, .ref b), (1, .ref (r 0)), (2, .ref (r 169)), (3, .ref (r 176)), (4, .int (iN i))] 2572 []) : V Γ z kc ks [(0, .ref b), (1, .ref (r 0)), (2, .ref (r 169)), (3, .ref (r 176)), (4, .int (iN i))] 1072 [] := by
  have b1 : 0 ≤ i + 1 ∧ i + 1 < (L : Int) := by omega
  have c0 : kc + 2 ≤ 627503 ∧ ks + 6 * 2 ≤ 7213595 := by omega
  have hc4 : kc + 2 ≤ kc + 4 ∧ ks + 6 * 2 ≤ ks + 24 := by omega
  refine v_aload_n hG dL_law_1072 1 rfl ?_
  refine v_aload_n hG dL_law_1073 0 rfl ?_
  refine v_iload hG dL_law_1074 4 rfl ?_
  refine v_iconst hG dL_law_1076 ?_
  refine v_iadd hG dL_law_1077 ?_
  refine w_sld hG hW hL b1 dL_law_1078 ?_
  refine v_aload_n hG dL_law_1079 3 rfl ?_
  refine w_callS (n := 3) hG hW (c_L_allowAllWeekdays hr hst k_0 hR.1.1 (PJ_PI hR.2.1) hR.2.2.1 (sv_rg xs (i + 1))) gL_law_L_allowAllWeekdays rfl (by decide +kernel) rfl ⟨Nat.le_of_ble_eq_true rfl, Nat.le_of_ble_eq_true rfl⟩ dL_law_1080 rfl (Nat.le_of_ble_eq_true rfl) c0 ?_
  intro k1 z1 hp1
  have hF : WF z1 := WF_mid hR (mid_allowAllWeekdays hR hp1)
  have rk : 0 ≤ k1 ∧ k1 ≤ 3 := by
    rcases hp1 with ⟨h9, -⟩ | ⟨h9, -⟩ | ⟨h9, -⟩
    · clear hF; omega
    · clear hF; omega
    · clear hF; omega
  refine v_istore hG [(0, _), (1, _), (2, _), (3, _), (4, _), (5, _)] dL_law_1083 (by decide) rfl ?_
  refine v_aload_n hG dL_law_1085 2 rfl ?_
  refine v_aload_n hG dL_law_1086 0 rfl ?_
  refine v_iload hG dL_law_1087 4 rfl ?_
  refine v_iconst hG dL_law_1089 ?_
  refine v_iadd hG dL_law_1090 ?_
  refine w_sld hG hW hL b1 dL_law_1091 ?_
  refine v_callVi (n := 1) (ci := 5) hG (c_X5_allowAllWeekdays hr k_169 rfl hF.1 hF.2.1 (sv_rg xs (i + 1))) gL_law_X5_allowAllWeekdays rfl (by decide +kernel) rfl ⟨Nat.le_of_ble_eq_true rfl, Nat.le_of_ble_eq_true rfl⟩ k_169 (by decide) (cl_6 _ _ _ _) rfl dL_law_1092 rfl (Nat.le_of_ble_eq_true rfl) c0 ?_
  intro v2 z2 hp2
  refine v_istore hG [(0, _), (1, _), (2, _), (3, _), (4, _), (5, _), (6, _)] dL_law_1095 (by decide) rfl ?_
  refine v_aload_n hG dL_law_1097 2 rfl ?_
  refine v_callVi (n := 0) (ci := 5) hG (c_X5_thrown hr k_169) gL_law_X5_thrown rfl (by decide +kernel) rfl ⟨Nat.le_of_ble_eq_true rfl, Nat.le_of_ble_eq_true rfl⟩ k_169 (by decide) (cl_6 _ _ _ _) rfl dL_law_1098 rfl (Nat.le_of_ble_eq_true rfl) c0 ?_
  intro k3 z3 hp3
  obtain ⟨rfl, e3⟩ := hp3
  have hok := ok_allowAllWeekdays (k := k1) (v := v2) hR rfl hp1 hp2
  have e9 : k3 = k1 := e3.trans hok.1
  rw [e9]
  clear hp1 hp2 hF e3 e9
  refine v_iload hG dL_law_1101 5 rfl ?_
  refine w_icmp hG 1108 dL_law_1103 (by decide) ?_
  refine v_iload hG dL_law_1108 5 rfl ?_
  refine v_if_ne hG 1125 (by omega) dL_law_1110 (by decide) (fun h8 => ?_) (fun h8 => ?_)
  · refine v_goto hG 2572 dL_law_1125 (by decide) ?_
    refine v_sub hG [(0, _), (1, _), (2, _), (3, _), (4, _)] [0, 1, 2, 3, 4] rfl ?_
    exact kk _ _ _ hok.2.2 hc4
  · refine v_aload_n hG dL_law_1113 3 rfl ?_
    refine v_iconst hG dL_law_1114 ?_
    refine v_laload hG dL_law_1115 ?_
    rw [hok.2.1 h8]
    refine v_iload hG dL_law_1116 6 rfl ?_
    refine v_i2l hG dL_law_1118 ?_
    refine v_lcmp hG dL_law_1119 ?_
    rw [lcr_0.mpr rfl]
    refine v_if_eq hG 1125 (by decide) dL_law_1120 (by decide) (fun _ => ?_) (fun h7 => absurd rfl h7)
    refine v_goto hG 2572 dL_law_1125 (by decide) ?_
    refine v_sub hG [(0, _), (1, _), (2, _), (3, _), (4, _)] [0, 1, 2, 3, 4] rfl ?_
    exact kk _ _ _ hok.2.2 hc4

set_option maxHeartbeats 4000000 in
set_option maxRecDepth 100000 in
theorem law_13 {l : Launch} {D : va_G} {cA : Nat → ClassId} {r : Nat → Nat} {Γ : Cx} {b L : Nat} {xs : Nat → Int32} {z : Zt} {i : Int} {kc ks : Nat} (hr : Inj r) (hst : l.stackTraces = false) (hG : Cok l D cA r room_1 Γ cL_law RL wsL_law 7) (hW : LwR b L xs Γ) (hL : L ≤ 2560) (hR : Rel z) (hi : 0 ≤ i ∧ i + 5 ≤ (L : Int)) (hk : kc + 4 ≤ 627503 ∧ ks + 24 ≤ 7213595) (kk : ∀ (z1 : Zt) (kc1 ks1 : Nat), Rel z1 → kc1 ≤ kc + 4 ∧ ks1 ≤ ks + 24 → V Γ z1 kc1 ks1 [(0, .ref b), (1, .ref (r 0)), (2, .ref (r 169)), (3, .ref (r 176)), (4, .int (iN i))] 2572 []) : V Γ z kc ks [(0, .ref b), (1, .ref (r 0)), (2, .ref (r 169)), (3, .ref (r 176)), (4, .int (iN i))] 1128 [] := by
  have c1 : kc ≤ 627503 ∧ ks ≤ 7213595 := by omega
  refine v_aload_n hG dL_law_1128 1 rfl ?_
  refine v_callVi (n := 0) (ci := 4) hG (c_X4_feastCount hr k_0) gL_law_X4_feastCount rfl (by decide +kernel) rfl ⟨Nat.le_of_ble_eq_true rfl, Nat.le_of_ble_eq_true rfl⟩ k_0 (by decide) (cl_1 _ _ _ _) rfl dL_law_1129 rfl (Nat.le_of_ble_eq_true rfl) c1 ?_
  intro k1 z1 hp1
  refine v_aload_n hG dL_law_1132 2 rfl ?_
  refine v_callVi (n := 0) (ci := 5) hG (c_X5_feastCount hr k_169 rfl) gL_law_X5_feastCount rfl (by decide +kernel) rfl ⟨Nat.le_of_ble_eq_true rfl, Nat.le_of_ble_eq_true rfl⟩ k_169 (by decide) (cl_6 _ _ _ _) rfl dL_law_1133 rfl (Nat.le_of_ble_eq_true rfl) c1 ?_
  intro v2 z2 hp2
  have hok := ok_feastCount (x := k1) (v := v2) hR rfl hp1 hp2
  rw [← hok.1]
  refine w_icmp hG 2572 dL_law_1136 (by decide) ?_
  exact kk _ _ _ hok.2 ⟨Nat.le_add_right _ _, Nat.le_add_right _ _⟩

set_option maxHeartbeats 4000000 in
set_option maxRecDepth 100000 in
theorem law_14 {l : Launch} {D : va_G} {cA : Nat → ClassId} {r : Nat → Nat} {Γ : Cx} {b L : Nat} {xs : Nat → Int32} {z : Zt} {i : Int} {kc ks : Nat} (hr : Inj r) (hst : l.stackTraces = false) (hG : Cok l D cA r room_1 Γ cL_law RL wsL_law 7) (hW : LwR b L xs Γ) (hL : L ≤ 2560) (hR : Rel z) (hi : 0 ≤ i ∧ i + 5 ≤ (L : Int)) (hk : kc + 4 ≤ 627503 ∧ ks + 24 ≤ 7213595) (kk : ∀ (z1 : Zt) (kc1 ks1 : Nat), Rel z1 → kc1 ≤ kc + 4 ∧ ks1 ≤ ks + 24 → V Γ z1 kc1 ks1 [(0, .ref b), (1, .ref (r 0)), (2, .ref (r 169)), (3, .ref (r 176)), (4, .int (iN i))] 2572 []) : V Γ z kc ks [(0, .ref b), (1, .ref (r 0)), (2, .ref (r 169)), (3, .ref (r 176)), (4, .int (iN i))] 1141 [] := by
  have b1 : 0 ≤ i + 1 ∧ i + 1 < (L : Int) := by omega
  have c0 : kc + 1 ≤ 627503 ∧ ks + 6 * 1 ≤ 7213595 := by omega
  have hc4 : kc + 1 ≤ kc + 4 ∧ ks + 6 * 1 ≤ ks + 24 := by omega
  refine v_aload_n hG dL_law_1141 1 rfl ?_
  refine v_aload_n hG dL_law_1142 0 rfl ?_
  refine v_iload hG dL_law_1143 4 rfl ?_
  refine v_iconst hG dL_law_1145 ?_
  refine v_iadd hG dL_law_1146 ?_
  refine w_sld hG hW hL b1 dL_law_1147 ?_
  refine v_aload_n hG dL_law_1148 3 rfl ?_
  refine w_callS (n := 3) hG hW (c_L_feastTown hr hst k_0 hR.1.1 (sv_rg xs (i + 1))) gL_law_L_feastTown rfl (by decide +kernel) rfl ⟨Nat.le_of_ble_eq_true rfl, Nat.le_of_ble_eq_true rfl⟩ dL_law_1149 rfl (Nat.le_of_ble_eq_true rfl) c0 ?_
  intro k1 z1 hp1
  have hF : WF z1 := WF_nz hR (nz_feastTown hp1)
  have rk : 0 ≤ k1 ∧ k1 ≤ 3 := by
    rcases hp1 with ⟨h9, -⟩ | ⟨h9, -⟩
    · clear hF; omega
    · clear hF; omega
  refine v_istore hG [(0, _), (1, _), (2, _), (3, _), (4, _), (5, _)] dL_law_1152 (by decide) rfl ?_
  refine v_aload_n hG dL_law_1154 2 rfl ?_
  refine v_aload_n hG dL_law_1155 0 rfl ?_
  refine v_iload hG dL_law_1156 4 rfl ?_
  refine v_iconst hG dL_law_1158 ?_
  refine v_iadd hG dL_law_1159 ?_
  refine w_sld hG hW hL b1 dL_law_1160 ?_
  refine v_callVi (n := 1) (ci := 5) hG (c_X5_feastTown hr k_169 rfl hF.1 (sv_rg xs (i + 1))) gL_law_X5_feastTown rfl (by decide +kernel) rfl ⟨Nat.le_of_ble_eq_true rfl, Nat.le_of_ble_eq_true rfl⟩ k_169 (by decide) (cl_6 _ _ _ _) rfl dL_law_1161 rfl (Nat.le_of_ble_eq_true rfl) c0 ?_
  intro v2 z2 hp2
  refine v_istore hG [(0, _), (1, _), (2, _), (3, _), (4, _), (5, _), (6, _)] dL_law_1164 (by decide) rfl ?_
  refine v_aload_n hG dL_law_1166 2 rfl ?_
  refine v_callVi (n := 0) (ci := 5) hG (c_X5_thrown hr k_169) gL_law_X5_thrown rfl (by decide +kernel) rfl ⟨Nat.le_of_ble_eq_true rfl, Nat.le_of_ble_eq_true rfl⟩ k_169 (by decide) (cl_6 _ _ _ _) rfl dL_law_1167 rfl (Nat.le_of_ble_eq_true rfl) c0 ?_
  intro k3 z3 hp3
  obtain ⟨rfl, e3⟩ := hp3
  have hok := ok_feastTown (k := k1) (v := v2) hR rfl hp1 hp2
  have e9 : k3 = k1 := e3.trans hok.1
  rw [e9]
  clear hp1 hp2 hF e3 e9
  refine v_iload hG dL_law_1170 5 rfl ?_
  refine w_icmp hG 1177 dL_law_1172 (by decide) ?_
  refine v_iload hG dL_law_1177 5 rfl ?_
  refine v_if_ne hG 1194 (by omega) dL_law_1179 (by decide) (fun h8 => ?_) (fun h8 => ?_)
  · refine v_goto hG 2572 dL_law_1194 (by decide) ?_
    refine v_sub hG [(0, _), (1, _), (2, _), (3, _), (4, _)] [0, 1, 2, 3, 4] rfl ?_
    exact kk _ _ _ hok.2.2 hc4
  · refine v_aload_n hG dL_law_1182 3 rfl ?_
    refine v_iconst hG dL_law_1183 ?_
    refine v_laload hG dL_law_1184 ?_
    rw [hok.2.1 h8]
    refine v_iload hG dL_law_1185 6 rfl ?_
    refine v_i2l hG dL_law_1187 ?_
    refine v_lcmp hG dL_law_1188 ?_
    rw [lcr_0.mpr rfl]
    refine v_if_eq hG 1194 (by decide) dL_law_1189 (by decide) (fun _ => ?_) (fun h7 => absurd rfl h7)
    refine v_goto hG 2572 dL_law_1194 (by decide) ?_
    refine v_sub hG [(0, _), (1, _), (2, _), (3, _), (4, _)] [0, 1, 2, 3, 4] rfl ?_
    exact kk _ _ _ hok.2.2 hc4

set_option maxHeartbeats 4000000 in
set_option maxRecDepth 100000 in
theorem law_15 {l : Launch} {D : va_G} {cA : Nat → ClassId} {r : Nat → Nat} {Γ : Cx} {b L : Nat} {xs : Nat → Int32} {z : Zt} {i : Int} {kc ks : Nat} (hr : Inj r) (hst : l.stackTraces = false) (hG : Cok l D cA r room_1 Γ cL_law RL wsL_law 7) (hW : LwR b L xs Γ) (hL : L ≤ 2560) (hR : Rel z) (hi : 0 ≤ i ∧ i + 5 ≤ (L : Int)) (hk : kc + 4 ≤ 627503 ∧ ks + 24 ≤ 7213595) (kk : ∀ (z1 : Zt) (kc1 ks1 : Nat), Rel z1 → kc1 ≤ kc + 4 ∧ ks1 ≤ ks + 24 → V Γ z1 kc1 ks1 [(0, .ref b), (1, .ref (r 0)), (2, .ref (r 169)), (3, .ref (r 176)), (4, .int (iN i))] 2572 []) : V Γ z kc ks [(0, .ref b), (1, .ref (r 0)), (2, .ref (r 169)), (3, .ref (r 176)), (4, .int (iN i))] 1197 [] := by
  have b1 : 0 ≤ i + 1 ∧ i + 1 < (L : Int) := by omega
  have c0 : kc + 1 ≤ 627503 ∧ ks + 6 * 1 ≤ 7213595 := by omega
  have hc4 : kc + 1 ≤ kc + 4 ∧ ks + 6 * 1 ≤ ks + 24 := by omega
  refine v_aload_n hG dL_law_1197 1 rfl ?_
  refine v_aload_n hG dL_law_1198 0 rfl ?_
  refine v_iload hG dL_law_1199 4 rfl ?_
  refine v_iconst hG dL_law_1201 ?_
  refine v_iadd hG dL_law_1202 ?_
  refine w_sld hG hW hL b1 dL_law_1203 ?_
  refine v_aload_n hG dL_law_1204 3 rfl ?_
  refine w_callS (n := 3) hG hW (c_L_barredWeekday hr hst k_0 hR.1.1 (sv_rg xs (i + 1))) gL_law_L_barredWeekday rfl (by decide +kernel) rfl ⟨Nat.le_of_ble_eq_true rfl, Nat.le_of_ble_eq_true rfl⟩ dL_law_1205 rfl (Nat.le_of_ble_eq_true rfl) c0 ?_
  intro k1 z1 hp1
  have hF : WF z1 := WF_nz hR (nz_barredWeekday hp1)
  have rk : 0 ≤ k1 ∧ k1 ≤ 3 := by
    rcases hp1 with ⟨h9, -⟩ | ⟨h9, -⟩
    · clear hF; omega
    · clear hF; omega
  refine v_istore hG [(0, _), (1, _), (2, _), (3, _), (4, _), (5, _)] dL_law_1208 (by decide) rfl ?_
  refine v_aload_n hG dL_law_1210 2 rfl ?_
  refine v_aload_n hG dL_law_1211 0 rfl ?_
  refine v_iload hG dL_law_1212 4 rfl ?_
  refine v_iconst hG dL_law_1214 ?_
  refine v_iadd hG dL_law_1215 ?_
  refine w_sld hG hW hL b1 dL_law_1216 ?_
  refine v_callVi (n := 1) (ci := 5) hG (c_X5_barredWeekday hr k_169 rfl hF.1 (sv_rg xs (i + 1))) gL_law_X5_barredWeekday rfl (by decide +kernel) rfl ⟨Nat.le_of_ble_eq_true rfl, Nat.le_of_ble_eq_true rfl⟩ k_169 (by decide) (cl_6 _ _ _ _) rfl dL_law_1217 rfl (Nat.le_of_ble_eq_true rfl) c0 ?_
  intro v2 z2 hp2
  refine v_istore hG [(0, _), (1, _), (2, _), (3, _), (4, _), (5, _), (6, _)] dL_law_1220 (by decide) rfl ?_
  refine v_aload_n hG dL_law_1222 2 rfl ?_
  refine v_callVi (n := 0) (ci := 5) hG (c_X5_thrown hr k_169) gL_law_X5_thrown rfl (by decide +kernel) rfl ⟨Nat.le_of_ble_eq_true rfl, Nat.le_of_ble_eq_true rfl⟩ k_169 (by decide) (cl_6 _ _ _ _) rfl dL_law_1223 rfl (Nat.le_of_ble_eq_true rfl) c0 ?_
  intro k3 z3 hp3
  obtain ⟨rfl, e3⟩ := hp3
  have hok := ok_barredWeekday (k := k1) (v := v2) hR rfl hp1 hp2
  have e9 : k3 = k1 := e3.trans hok.1
  rw [e9]
  clear hp1 hp2 hF e3 e9
  refine v_iload hG dL_law_1226 5 rfl ?_
  refine w_icmp hG 1233 dL_law_1228 (by decide) ?_
  refine v_iload hG dL_law_1233 5 rfl ?_
  refine v_if_ne hG 1250 (by omega) dL_law_1235 (by decide) (fun h8 => ?_) (fun h8 => ?_)
  · refine v_goto hG 2572 dL_law_1250 (by decide) ?_
    refine v_sub hG [(0, _), (1, _), (2, _), (3, _), (4, _)] [0, 1, 2, 3, 4] rfl ?_
    exact kk _ _ _ hok.2.2 hc4
  · refine v_aload_n hG dL_law_1238 3 rfl ?_
    refine v_iconst hG dL_law_1239 ?_
    refine v_laload hG dL_law_1240 ?_
    rw [hok.2.1 h8]
    refine v_iload hG dL_law_1241 6 rfl ?_
    refine v_i2l hG dL_law_1243 ?_
    refine v_lcmp hG dL_law_1244 ?_
    rw [lcr_0.mpr rfl]
    refine v_if_eq hG 1250 (by decide) dL_law_1245 (by decide) (fun _ => ?_) (fun h7 => absurd rfl h7)
    refine v_goto hG 2572 dL_law_1250 (by decide) ?_
    refine v_sub hG [(0, _), (1, _), (2, _), (3, _), (4, _)] [0, 1, 2, 3, 4] rfl ?_
    exact kk _ _ _ hok.2.2 hc4

set_option maxHeartbeats 4000000 in
set_option maxRecDepth 100000 in
theorem law_16 {l : Launch} {D : va_G} {cA : Nat → ClassId} {r : Nat → Nat} {Γ : Cx} {b L : Nat} {xs : Nat → Int32} {z : Zt} {i : Int} {kc ks : Nat} (hr : Inj r) (hst : l.stackTraces = false) (hG : Cok l D cA r room_1 Γ cL_law RL wsL_law 7) (hW : LwR b L xs Γ) (hL : L ≤ 2560) (hR : Rel z) (hi : 0 ≤ i ∧ i + 5 ≤ (L : Int)) (hk : kc + 4 ≤ 627503 ∧ ks + 24 ≤ 7213595) (kk : ∀ (z1 : Zt) (kc1 ks1 : Nat), Rel z1 → kc1 ≤ kc + 4 ∧ ks1 ≤ ks + 24 → V Γ z1 kc1 ks1 [(0, .ref b), (1, .ref (r 0)), (2, .ref (r 169)), (3, .ref (r 176)), (4, .int (iN i))] 2572 []) : V Γ z kc ks [(0, .ref b), (1, .ref (r 0)), (2, .ref (r 169)), (3, .ref (r 176)), (4, .int (iN i))] 1253 [] := by
  have b1 : 0 ≤ i + 1 ∧ i + 1 < (L : Int) := by omega
  have b2 : 0 ≤ i + 2 ∧ i + 2 < (L : Int) := by omega
  have c0 : kc + 2 ≤ 627503 ∧ ks + 6 * 2 ≤ 7213595 := by omega
  have hc4 : kc + 2 ≤ kc + 4 ∧ ks + 6 * 2 ≤ ks + 24 := by omega
  refine v_aload_n hG dL_law_1253 1 rfl ?_
  refine v_aload_n hG dL_law_1254 0 rfl ?_
  refine v_iload hG dL_law_1255 4 rfl ?_
  refine v_iconst hG dL_law_1257 ?_
  refine v_iadd hG dL_law_1258 ?_
  refine w_sld hG hW hL b1 dL_law_1259 ?_
  refine v_aload_n hG dL_law_1260 0 rfl ?_
  refine v_iload hG dL_law_1261 4 rfl ?_
  refine v_iconst hG dL_law_1263 ?_
  refine v_iadd hG dL_law_1264 ?_
  refine w_sld hG hW hL b2 dL_law_1265 ?_
  refine v_aload_n hG dL_law_1266 3 rfl ?_
  refine w_callS (n := 4) hG hW (c_L_dayDue hr hst k_0 hR.1.1 (sv_rg xs (i + 1)) (sv_rg xs (i + 2))) gL_law_L_dayDue rfl (by decide +kernel) rfl ⟨Nat.le_of_ble_eq_true rfl, Nat.le_of_ble_eq_true rfl⟩ dL_law_1267 rfl (Nat.le_of_ble_eq_true rfl) c0 ?_
  intro k1 z1 hp1
  have hF : WF z1 := WF_nz hR (nz_dayDue hp1)
  have rk : 0 ≤ k1 ∧ k1 ≤ 3 := by
    rcases hp1 with ⟨h9, -⟩ | ⟨h9, -⟩ | ⟨h9, -⟩
    · clear hF; omega
    · clear hF; omega
    · clear hF; omega
  refine v_istore hG [(0, _), (1, _), (2, _), (3, _), (4, _), (5, _)] dL_law_1270 (by decide) rfl ?_
  refine v_aload_n hG dL_law_1272 2 rfl ?_
  refine v_aload_n hG dL_law_1273 0 rfl ?_
  refine v_iload hG dL_law_1274 4 rfl ?_
  refine v_iconst hG dL_law_1276 ?_
  refine v_iadd hG dL_law_1277 ?_
  refine w_sld hG hW hL b1 dL_law_1278 ?_
  refine v_aload_n hG dL_law_1279 0 rfl ?_
  refine v_iload hG dL_law_1280 4 rfl ?_
  refine v_iconst hG dL_law_1282 ?_
  refine v_iadd hG dL_law_1283 ?_
  refine w_sld hG hW hL b2 dL_law_1284 ?_
  refine v_callVi (n := 2) (ci := 5) hG (c_X5_dayDue hr k_169 rfl hF.1 (sv_rg xs (i + 1)) (sv_rg xs (i + 2))) gL_law_X5_dayDue rfl (by decide +kernel) rfl ⟨Nat.le_of_ble_eq_true rfl, Nat.le_of_ble_eq_true rfl⟩ k_169 (by decide) (cl_6 _ _ _ _) rfl dL_law_1285 rfl (Nat.le_of_ble_eq_true rfl) c0 ?_
  intro v2 z2 hp2
  refine v_istore hG [(0, _), (1, _), (2, _), (3, _), (4, _), (5, _), (6, _)] dL_law_1288 (by decide) rfl ?_
  refine v_aload_n hG dL_law_1290 2 rfl ?_
  refine v_callVi (n := 0) (ci := 5) hG (c_X5_thrown hr k_169) gL_law_X5_thrown rfl (by decide +kernel) rfl ⟨Nat.le_of_ble_eq_true rfl, Nat.le_of_ble_eq_true rfl⟩ k_169 (by decide) (cl_6 _ _ _ _) rfl dL_law_1291 rfl (Nat.le_of_ble_eq_true rfl) c0 ?_
  intro k3 z3 hp3
  obtain ⟨rfl, e3⟩ := hp3
  have hok := ok_dayDue (k := k1) (v := v2) hR rfl hp1 hp2
  have e9 : k3 = k1 := e3.trans hok.1
  rw [e9]
  clear hp1 hp2 hF e3 e9
  refine v_iload hG dL_law_1294 5 rfl ?_
  refine w_icmp hG 1301 dL_law_1296 (by decide) ?_
  refine v_iload hG dL_law_1301 5 rfl ?_
  refine v_if_ne hG 1318 (by omega) dL_law_1303 (by decide) (fun h8 => ?_) (fun h8 => ?_)
  · refine v_goto hG 2572 dL_law_1318 (by decide) ?_
    refine v_sub hG [(0, _), (1, _), (2, _), (3, _), (4, _)] [0, 1, 2, 3, 4] rfl ?_
    exact kk _ _ _ hok.2.2 hc4
  · refine v_aload_n hG dL_law_1306 3 rfl ?_
    refine v_iconst hG dL_law_1307 ?_
    refine v_laload hG dL_law_1308 ?_
    rw [hok.2.1 h8]
    refine v_iload hG dL_law_1309 6 rfl ?_
    refine v_i2l hG dL_law_1311 ?_
    refine v_lcmp hG dL_law_1312 ?_
    rw [lcr_0.mpr rfl]
    refine v_if_eq hG 1318 (by decide) dL_law_1313 (by decide) (fun _ => ?_) (fun h7 => absurd rfl h7)
    refine v_goto hG 2572 dL_law_1318 (by decide) ?_
    refine v_sub hG [(0, _), (1, _), (2, _), (3, _), (4, _)] [0, 1, 2, 3, 4] rfl ?_
    exact kk _ _ _ hok.2.2 hc4

set_option maxHeartbeats 4000000 in
set_option maxRecDepth 100000 in
theorem law_17 {l : Launch} {D : va_G} {cA : Nat → ClassId} {r : Nat → Nat} {Γ : Cx} {b L : Nat} {xs : Nat → Int32} {z : Zt} {i : Int} {kc ks : Nat} (hr : Inj r) (hst : l.stackTraces = false) (hG : Cok l D cA r room_1 Γ cL_law RL wsL_law 7) (hW : LwR b L xs Γ) (hL : L ≤ 2560) (hR : Rel z) (hi : 0 ≤ i ∧ i + 5 ≤ (L : Int)) (hk : kc + 4 ≤ 627503 ∧ ks + 24 ≤ 7213595) (kk : ∀ (z1 : Zt) (kc1 ks1 : Nat), Rel z1 → kc1 ≤ kc + 4 ∧ ks1 ≤ ks + 24 → V Γ z1 kc1 ks1 [(0, .ref b), (1, .ref (r 0)), (2, .ref (r 169)), (3, .ref (r 176)), (4, .int (iN i))] 2572 []) : V Γ z kc ks [(0, .ref b), (1, .ref (r 0)), (2, .ref (r 169)), (3, .ref (r 176)), (4, .int (iN i))] 1321 [] := by
  have b1 : 0 ≤ i + 1 ∧ i + 1 < (L : Int) := by omega
  have b2 : 0 ≤ i + 2 ∧ i + 2 < (L : Int) := by omega
  have c0 : kc + 2 ≤ 627503 ∧ ks + 6 * 2 ≤ 7213595 := by omega
  have hc4 : kc + 2 ≤ kc + 4 ∧ ks + 6 * 2 ≤ ks + 24 := by omega
  refine v_aload_n hG dL_law_1321 1 rfl ?_
  refine v_aload_n hG dL_law_1322 0 rfl ?_
  refine v_iload hG dL_law_1323 4 rfl ?_
  refine v_iconst hG dL_law_1325 ?_
  refine v_iadd hG dL_law_1326 ?_
  refine w_sld hG hW hL b1 dL_law_1327 ?_
  refine v_aload_n hG dL_law_1328 0 rfl ?_
  refine v_iload hG dL_law_1329 4 rfl ?_
  refine v_iconst hG dL_law_1331 ?_
  refine v_iadd hG dL_law_1332 ?_
  refine w_sld hG hW hL b2 dL_law_1333 ?_
  refine v_aload_n hG dL_law_1334 3 rfl ?_
  refine w_callS (n := 4) hG hW (c_L_dayKept hr hst k_0 hR.1.1 (sv_rg xs (i + 1)) (sv_rg xs (i + 2))) gL_law_L_dayKept rfl (by decide +kernel) rfl ⟨Nat.le_of_ble_eq_true rfl, Nat.le_of_ble_eq_true rfl⟩ dL_law_1335 rfl (Nat.le_of_ble_eq_true rfl) c0 ?_
  intro k1 z1 hp1
  have hF : WF z1 := WF_nz hR (nz_dayKept hp1)
  have rk : 0 ≤ k1 ∧ k1 ≤ 3 := by
    rcases hp1 with ⟨h9, -⟩ | ⟨h9, -⟩ | ⟨h9, -⟩
    · clear hF; omega
    · clear hF; omega
    · clear hF; omega
  refine v_istore hG [(0, _), (1, _), (2, _), (3, _), (4, _), (5, _)] dL_law_1338 (by decide) rfl ?_
  refine v_aload_n hG dL_law_1340 2 rfl ?_
  refine v_aload_n hG dL_law_1341 0 rfl ?_
  refine v_iload hG dL_law_1342 4 rfl ?_
  refine v_iconst hG dL_law_1344 ?_
  refine v_iadd hG dL_law_1345 ?_
  refine w_sld hG hW hL b1 dL_law_1346 ?_
  refine v_aload_n hG dL_law_1347 0 rfl ?_
  refine v_iload hG dL_law_1348 4 rfl ?_
  refine v_iconst hG dL_law_1350 ?_
  refine v_iadd hG dL_law_1351 ?_
  refine w_sld hG hW hL b2 dL_law_1352 ?_
  refine v_callVi (n := 2) (ci := 5) hG (c_X5_dayKept hr k_169 rfl hF.1 (sv_rg xs (i + 1)) (sv_rg xs (i + 2))) gL_law_X5_dayKept rfl (by decide +kernel) rfl ⟨Nat.le_of_ble_eq_true rfl, Nat.le_of_ble_eq_true rfl⟩ k_169 (by decide) (cl_6 _ _ _ _) rfl dL_law_1353 rfl (Nat.le_of_ble_eq_true rfl) c0 ?_
  intro v2 z2 hp2
  refine v_istore hG [(0, _), (1, _), (2, _), (3, _), (4, _), (5, _), (6, _)] dL_law_1356 (by decide) rfl ?_
  refine v_aload_n hG dL_law_1358 2 rfl ?_
  refine v_callVi (n := 0) (ci := 5) hG (c_X5_thrown hr k_169) gL_law_X5_thrown rfl (by decide +kernel) rfl ⟨Nat.le_of_ble_eq_true rfl, Nat.le_of_ble_eq_true rfl⟩ k_169 (by decide) (cl_6 _ _ _ _) rfl dL_law_1359 rfl (Nat.le_of_ble_eq_true rfl) c0 ?_
  intro k3 z3 hp3
  obtain ⟨rfl, e3⟩ := hp3
  have hok := ok_dayKept (k := k1) (v := v2) hR rfl hp1 hp2
  have e9 : k3 = k1 := e3.trans hok.1
  rw [e9]
  clear hp1 hp2 hF e3 e9
  refine v_iload hG dL_law_1362 5 rfl ?_
  refine w_icmp hG 1369 dL_law_1364 (by decide) ?_
  refine v_iload hG dL_law_1369 5 rfl ?_
  refine v_if_ne hG 1386 (by omega) dL_law_1371 (by decide) (fun h8 => ?_) (fun h8 => ?_)
  · refine v_goto hG 2572 dL_law_1386 (by decide) ?_
    refine v_sub hG [(0, _), (1, _), (2, _), (3, _), (4, _)] [0, 1, 2, 3, 4] rfl ?_
    exact kk _ _ _ hok.2.2 hc4
  · refine v_aload_n hG dL_law_1374 3 rfl ?_
    refine v_iconst hG dL_law_1375 ?_
    refine v_laload hG dL_law_1376 ?_
    rw [hok.2.1 h8]
    refine v_iload hG dL_law_1377 6 rfl ?_
    refine v_i2l hG dL_law_1379 ?_
    refine v_lcmp hG dL_law_1380 ?_
    rw [lcr_0.mpr rfl]
    refine v_if_eq hG 1386 (by decide) dL_law_1381 (by decide) (fun _ => ?_) (fun h7 => absurd rfl h7)
    refine v_goto hG 2572 dL_law_1386 (by decide) ?_
    refine v_sub hG [(0, _), (1, _), (2, _), (3, _), (4, _)] [0, 1, 2, 3, 4] rfl ?_
    exact kk _ _ _ hok.2.2 hc4
