set_option maxHeartbeats 4000000 in
set_option maxRecDepth 100000 in
theorem law_18 {l : Launch} {D : va_G} {cA : Nat → ClassId} {r : Nat → Nat} {Γ : Cx} {b L : Nat} {xs : Nat → Int32} {z : Zt} {i : Int} {kc ks : Nat} (hr : Inj r) (hst : l.stackTraces = false) (hG : Cok l D cA r room_1 Γ cL_law RL wsL_law 7) (hW : LwR b L xs Γ) (hL : L ≤ 2560) (hR : Rel z) (hi : 0 ≤ i ∧ i + 5 ≤ (L : Int)) (hk : kc + 4 ≤ 627503 ∧ ks + 24 ≤ 7213595) (kk : ∀ (z1 : Zt) (kc1 ks1 : Nat), Rel z1 → kc1 ≤ kc + 4 ∧ ks1 ≤ ks + 24 → V Γ z1 kc1 ks1 [(0, .ref b), (1, .ref (r 0)), (2, .ref (r 169)), (3, .ref (r 176)), (4, .int (iN i))] 2572 []) : V Γ z kc ks [(0, .ref b), (1, .ref (r 0)), (2, .ref (r 169)), (3, .ref (r 176)), (4, .int (iN i))] 1389 [] := by
  have b1 : 0 ≤ i + 1 ∧ i + 1 < (L : Int) := by omega
  have b2 : 0 ≤ i + 2 ∧ i + 2 < (L : Int) := by omega
  have c0 : kc + 2 ≤ 627503 ∧ ks + 6 * 2 ≤ 7213595 := by omega
  have hc4 : kc + 2 ≤ kc + 4 ∧ ks + 6 * 2 ≤ ks + 24 := by omega
  refine v_aload_n hG dL_law_1389 1 rfl ?_
  refine v_aload_n hG dL_law_1390 0 rfl ?_
  refine v_iload hG dL_law_1391 4 rfl ?_
  refine v_iconst hG dL_law_1393 ?_
  refine v_iadd hG dL_law_1394 ?_
  refine w_sld hG hW hL b1 dL_law_1395 ?_
  refine v_aload_n hG dL_law_1396 0 rfl ?_
  refine v_iload hG dL_law_1397 4 rfl ?_
  refine v_iconst hG dL_law_1399 ?_
  refine v_iadd hG dL_law_1400 ?_
  refine w_sld hG hW hL b2 dL_law_1401 ?_
  refine v_aload_n hG dL_law_1402 3 rfl ?_
  refine w_callS (n := 4) hG hW (c_L_isKept hr hst k_0 hR.1.1 (sv_rg xs (i + 1)) (sv_rg xs (i + 2))) gL_law_L_isKept rfl (by decide +kernel) rfl ⟨Nat.le_of_ble_eq_true rfl, Nat.le_of_ble_eq_true rfl⟩ dL_law_1403 rfl (Nat.le_of_ble_eq_true rfl) c0 ?_
  intro k1 z1 hp1
  have hF : WF z1 := WF_nz hR (nz_isKept hp1)
  have rk : 0 ≤ k1 ∧ k1 ≤ 3 := by
    rcases hp1 with ⟨h9, -⟩ | ⟨h9, -⟩ | ⟨h9, -⟩
    · clear hF; omega
    · clear hF; omega
    · clear hF; omega
  refine v_istore hG [(0, _), (1, _), (2, _), (3, _), (4, _), (5, _)] dL_law_1406 (by decide) rfl ?_
  refine v_aload_n hG dL_law_1408 2 rfl ?_
  refine v_aload_n hG dL_law_1409 0 rfl ?_
  refine v_iload hG dL_law_1410 4 rfl ?_
  refine v_iconst hG dL_law_1412 ?_
  refine v_iadd hG dL_law_1413 ?_
  refine w_sld hG hW hL b1 dL_law_1414 ?_
  refine v_aload_n hG dL_law_1415 0 rfl ?_
  refine v_iload hG dL_law_1416 4 rfl ?_
  refine v_iconst hG dL_law_1418 ?_
  refine v_iadd hG dL_law_1419 ?_
  refine w_sld hG hW hL b2 dL_law_1420 ?_
  refine v_callVi (n := 2) (ci := 5) hG (c_X5_isKept hr k_169 rfl hF.1 (sv_rg xs (i + 1)) (sv_rg xs (i + 2))) gL_law_X5_isKept rfl (by decide +kernel) rfl ⟨Nat.le_of_ble_eq_true rfl, Nat.le_of_ble_eq_true rfl⟩ k_169 (by decide) (cl_6 _ _ _ _) rfl dL_law_1421 rfl (Nat.le_of_ble_eq_true rfl) c0 ?_
  intro v2 z2 hp2
  refine v_istore hG [(0, _), (1, _), (2, _), (3, _), (4, _), (5, _), (6, _)] dL_law_1424 (by decide) rfl ?_
  refine v_aload_n hG dL_law_1426 2 rfl ?_
  refine v_callVi (n := 0) (ci := 5) hG (c_X5_thrown hr k_169) gL_law_X5_thrown rfl (by decide +kernel) rfl ⟨Nat.le_of_ble_eq_true rfl, Nat.le_of_ble_eq_true rfl⟩ k_169 (by decide) (cl_6 _ _ _ _) rfl dL_law_1427 rfl (Nat.le_of_ble_eq_true rfl) c0 ?_
  intro k3 z3 hp3
  obtain ⟨rfl, e3⟩ := hp3
  have hok := ok_isKept (k := k1) (v := v2) hR rfl hp1 hp2
  have e9 : k3 = k1 := e3.trans hok.1
  rw [e9]
  have hv2 : k1 = 0 → (v2 = 0 ∨ v2 = 1) := fun h9 => by
    rcases hp2 with ⟨s9, d1, d2, e2⟩ | ⟨q9, -⟩ | ⟨q9, -⟩
    · exact (ind_v e2).1
    · exfalso
      have h10 := hok.1
      rw [← q9, zup_s] at h10
      clear hp1 hF hok
      omega
    · exfalso
      have h10 := hok.1
      rw [← q9, zup_s] at h10
      clear hp1 hF hok
      omega
  clear hp1 hp2 hF e3 e9
  refine v_iload hG dL_law_1430 5 rfl ?_
  refine w_icmp hG 1437 dL_law_1432 (by decide) ?_
  refine v_iload hG dL_law_1437 5 rfl ?_
  refine v_if_ne hG 1461 (by omega) dL_law_1439 (by decide) (fun h8 => ?_) (fun h8 => ?_)
  · refine v_goto hG 2572 dL_law_1461 (by decide) ?_
    refine v_sub hG [(0, _), (1, _), (2, _), (3, _), (4, _)] [0, 1, 2, 3, 4] rfl ?_
    exact kk _ _ _ hok.2.2 hc4
  · refine v_aload_n hG dL_law_1442 3 rfl ?_
    refine v_iconst hG dL_law_1443 ?_
    refine v_laload hG dL_law_1444 ?_
    rw [hok.2.1 h8]
    refine v_iload hG dL_law_1445 6 rfl ?_
    have hv3 := hv2 h8
    refine v_if_eq hG 1454 (by omega) dL_law_1447 (by decide) (fun h6 => ?_) (fun h6 => ?_)
    · refine v_lconst hG dL_law_1454 ?_
      refine v_eql hG (y := Int64.ofInt (jl v2)) (by rw [h6]; rfl) ?_
      refine v_lcmp hG dL_law_1455 ?_
      rw [lcr_0.mpr rfl]
      refine v_if_eq hG 1461 (by decide) dL_law_1456 (by decide) (fun _ => ?_) (fun h7 => absurd rfl h7)
      refine v_goto hG 2572 dL_law_1461 (by decide) ?_
      refine v_sub hG [(0, _), (1, _), (2, _), (3, _), (4, _)] [0, 1, 2, 3, 4] rfl ?_
      exact kk _ _ _ hok.2.2 hc4
    · refine v_lconst hG dL_law_1450 ?_
      refine v_eql hG (y := Int64.ofInt (jl v2)) (by rw [show v2 = 1 by omega]; rfl) ?_
      refine v_goto hG 1455 dL_law_1451 (by decide) ?_
      refine v_lcmp hG dL_law_1455 ?_
      rw [lcr_0.mpr rfl]
      refine v_if_eq hG 1461 (by decide) dL_law_1456 (by decide) (fun _ => ?_) (fun h7 => absurd rfl h7)
      refine v_goto hG 2572 dL_law_1461 (by decide) ?_
      refine v_sub hG [(0, _), (1, _), (2, _), (3, _), (4, _)] [0, 1, 2, 3, 4] rfl ?_
      exact kk _ _ _ hok.2.2 hc4

set_option maxHeartbeats 4000000 in
set_option maxRecDepth 100000 in
theorem law_19 {l : Launch} {D : va_G} {cA : Nat → ClassId} {r : Nat → Nat} {Γ : Cx} {b L : Nat} {xs : Nat → Int32} {z : Zt} {i : Int} {kc ks : Nat} (hr : Inj r) (hst : l.stackTraces = false) (hG : Cok l D cA r room_1 Γ cL_law RL wsL_law 7) (hW : LwR b L xs Γ) (hL : L ≤ 2560) (hR : Rel z) (hi : 0 ≤ i ∧ i + 5 ≤ (L : Int)) (hk : kc + 4 ≤ 627503 ∧ ks + 24 ≤ 7213595) (kk : ∀ (z1 : Zt) (kc1 ks1 : Nat), Rel z1 → kc1 ≤ kc + 4 ∧ ks1 ≤ ks + 24 → V Γ z1 kc1 ks1 [(0, .ref b), (1, .ref (r 0)), (2, .ref (r 169)), (3, .ref (r 176)), (4, .int (iN i))] 2572 []) : V Γ z kc ks [(0, .ref b), (1, .ref (r 0)), (2, .ref (r 169)), (3, .ref (r 176)), (4, .int (iN i))] 1464 [] := by
  have b1 : 0 ≤ i + 1 ∧ i + 1 < (L : Int) := by omega
  have c0 : kc + 1 ≤ 627503 ∧ ks + 6 * 1 ≤ 7213595 := by omega
  have hc4 : kc + 1 ≤ kc + 4 ∧ ks + 6 * 1 ≤ ks + 24 := by omega
  refine v_aload_n hG dL_law_1464 1 rfl ?_
  refine v_aload_n hG dL_law_1465 0 rfl ?_
  refine v_iload hG dL_law_1466 4 rfl ?_
  refine v_iconst hG dL_law_1468 ?_
  refine v_iadd hG dL_law_1469 ?_
  refine w_sld hG hW hL b1 dL_law_1470 ?_
  refine v_aload_n hG dL_law_1471 3 rfl ?_
  refine w_callS (n := 3) hG hW (c_L_feastsOn hr hst k_0 hR.1.1 (sv_rg xs (i + 1))) gL_law_L_feastsOn rfl (by decide +kernel) rfl ⟨Nat.le_of_ble_eq_true rfl, Nat.le_of_ble_eq_true rfl⟩ dL_law_1472 rfl (Nat.le_of_ble_eq_true rfl) c0 ?_
  intro k1 z1 hp1
  have hF : WF z1 := WF_nz hR (nz_feastsOn hp1)
  have rk : 0 ≤ k1 ∧ k1 ≤ 3 := by
    rcases hp1 with ⟨h9, -⟩ | ⟨h9, -⟩
    · clear hF; omega
    · clear hF; omega
  refine v_istore hG [(0, _), (1, _), (2, _), (3, _), (4, _), (5, _)] dL_law_1475 (by decide) rfl ?_
  refine v_aload_n hG dL_law_1477 2 rfl ?_
  refine v_aload_n hG dL_law_1478 0 rfl ?_
  refine v_iload hG dL_law_1479 4 rfl ?_
  refine v_iconst hG dL_law_1481 ?_
  refine v_iadd hG dL_law_1482 ?_
  refine w_sld hG hW hL b1 dL_law_1483 ?_
  refine v_callVi (n := 1) (ci := 5) hG (c_X5_feastsOn hr k_169 rfl hF.1 (sv_rg xs (i + 1))) gL_law_X5_feastsOn rfl (by decide +kernel) rfl ⟨Nat.le_of_ble_eq_true rfl, Nat.le_of_ble_eq_true rfl⟩ k_169 (by decide) (cl_6 _ _ _ _) rfl dL_law_1484 rfl (Nat.le_of_ble_eq_true rfl) c0 ?_
  intro v2 z2 hp2
  refine v_istore hG [(0, _), (1, _), (2, _), (3, _), (4, _), (5, _), (6, _)] dL_law_1487 (by decide) rfl ?_
  refine v_aload_n hG dL_law_1489 2 rfl ?_
  refine v_callVi (n := 0) (ci := 5) hG (c_X5_thrown hr k_169) gL_law_X5_thrown rfl (by decide +kernel) rfl ⟨Nat.le_of_ble_eq_true rfl, Nat.le_of_ble_eq_true rfl⟩ k_169 (by decide) (cl_6 _ _ _ _) rfl dL_law_1490 rfl (Nat.le_of_ble_eq_true rfl) c0 ?_
  intro k3 z3 hp3
  obtain ⟨rfl, e3⟩ := hp3
  have hok := ok_feastsOn (k := k1) (v := v2) hR rfl hp1 hp2
  have e9 : k3 = k1 := e3.trans hok.1
  rw [e9]
  clear hp1 hp2 hF e3 e9
  refine v_iload hG dL_law_1493 5 rfl ?_
  refine w_icmp hG 1500 dL_law_1495 (by decide) ?_
  refine v_iload hG dL_law_1500 5 rfl ?_
  refine v_if_ne hG 1517 (by omega) dL_law_1502 (by decide) (fun h8 => ?_) (fun h8 => ?_)
  · refine v_goto hG 2572 dL_law_1517 (by decide) ?_
    refine v_sub hG [(0, _), (1, _), (2, _), (3, _), (4, _)] [0, 1, 2, 3, 4] rfl ?_
    exact kk _ _ _ hok.2.2 hc4
  · refine v_aload_n hG dL_law_1505 3 rfl ?_
    refine v_iconst hG dL_law_1506 ?_
    refine v_laload hG dL_law_1507 ?_
    rw [hok.2.1 h8]
    refine v_iload hG dL_law_1508 6 rfl ?_
    refine v_i2l hG dL_law_1510 ?_
    refine v_lcmp hG dL_law_1511 ?_
    rw [lcr_0.mpr rfl]
    refine v_if_eq hG 1517 (by decide) dL_law_1512 (by decide) (fun _ => ?_) (fun h7 => absurd rfl h7)
    refine v_goto hG 2572 dL_law_1517 (by decide) ?_
    refine v_sub hG [(0, _), (1, _), (2, _), (3, _), (4, _)] [0, 1, 2, 3, 4] rfl ?_
    exact kk _ _ _ hok.2.2 hc4

set_option maxHeartbeats 4000000 in
set_option maxRecDepth 100000 in
theorem law_20 {l : Launch} {D : va_G} {cA : Nat → ClassId} {r : Nat → Nat} {Γ : Cx} {b L : Nat} {xs : Nat → Int32} {z : Zt} {i : Int} {kc ks : Nat} (hr : Inj r) (hst : l.stackTraces = false) (hG : Cok l D cA r room_1 Γ cL_law RL wsL_law 7) (hW : LwR b L xs Γ) (hL : L ≤ 2560) (hR : Rel z) (hi : 0 ≤ i ∧ i + 5 ≤ (L : Int)) (hk : kc + 4 ≤ 627503 ∧ ks + 24 ≤ 7213595) (kk : ∀ (z1 : Zt) (kc1 ks1 : Nat), Rel z1 → kc1 ≤ kc + 4 ∧ ks1 ≤ ks + 24 → V Γ z1 kc1 ks1 [(0, .ref b), (1, .ref (r 0)), (2, .ref (r 169)), (3, .ref (r 176)), (4, .int (iN i))] 2572 []) : V Γ z kc ks [(0, .ref b), (1, .ref (r 0)), (2, .ref (r 169)), (3, .ref (r 176)), (4, .int (iN i))] 1520 [] := by
  have b1 : 0 ≤ i + 1 ∧ i + 1 < (L : Int) := by omega
  have c0 : kc + 1 ≤ 627503 ∧ ks + 6 * 1 ≤ 7213595 := by omega
  have hc4 : kc + 1 ≤ kc + 4 ∧ ks + 6 * 1 ≤ ks + 24 := by omega
  refine v_aload_n hG dL_law_1520 1 rfl ?_
  refine v_aload_n hG dL_law_1521 0 rfl ?_
  refine v_iload hG dL_law_1522 4 rfl ?_
  refine v_iconst hG dL_law_1524 ?_
  refine v_iadd hG dL_law_1525 ?_
  refine w_sld hG hW hL b1 dL_law_1526 ?_
  refine v_aload_n hG dL_law_1527 3 rfl ?_
  refine w_callS (n := 3) hG hW (c_L_isQuarrel hr hst k_0 hR.1.1 (sv_rg xs (i + 1))) gL_law_L_isQuarrel rfl (by decide +kernel) rfl ⟨Nat.le_of_ble_eq_true rfl, Nat.le_of_ble_eq_true rfl⟩ dL_law_1528 rfl (Nat.le_of_ble_eq_true rfl) c0 ?_
  intro k1 z1 hp1
  have hF : WF z1 := WF_nz hR (nz_isQuarrel hp1)
  have rk : 0 ≤ k1 ∧ k1 ≤ 3 := by
    rcases hp1 with ⟨h9, -⟩ | ⟨h9, -⟩
    · clear hF; omega
    · clear hF; omega
  refine v_istore hG [(0, _), (1, _), (2, _), (3, _), (4, _), (5, _)] dL_law_1531 (by decide) rfl ?_
  refine v_aload_n hG dL_law_1533 2 rfl ?_
  refine v_aload_n hG dL_law_1534 0 rfl ?_
  refine v_iload hG dL_law_1535 4 rfl ?_
  refine v_iconst hG dL_law_1537 ?_
  refine v_iadd hG dL_law_1538 ?_
  refine w_sld hG hW hL b1 dL_law_1539 ?_
  refine v_callVi (n := 1) (ci := 5) hG (c_X5_isQuarrel hr k_169 rfl hF.1 (sv_rg xs (i + 1))) gL_law_X5_isQuarrel rfl (by decide +kernel) rfl ⟨Nat.le_of_ble_eq_true rfl, Nat.le_of_ble_eq_true rfl⟩ k_169 (by decide) (cl_6 _ _ _ _) rfl dL_law_1540 rfl (Nat.le_of_ble_eq_true rfl) c0 ?_
  intro v2 z2 hp2
  refine v_istore hG [(0, _), (1, _), (2, _), (3, _), (4, _), (5, _), (6, _)] dL_law_1543 (by decide) rfl ?_
  refine v_aload_n hG dL_law_1545 2 rfl ?_
  refine v_callVi (n := 0) (ci := 5) hG (c_X5_thrown hr k_169) gL_law_X5_thrown rfl (by decide +kernel) rfl ⟨Nat.le_of_ble_eq_true rfl, Nat.le_of_ble_eq_true rfl⟩ k_169 (by decide) (cl_6 _ _ _ _) rfl dL_law_1546 rfl (Nat.le_of_ble_eq_true rfl) c0 ?_
  intro k3 z3 hp3
  obtain ⟨rfl, e3⟩ := hp3
  have hok := ok_isQuarrel (k := k1) (v := v2) hR rfl hp1 hp2
  have e9 : k3 = k1 := e3.trans hok.1
  rw [e9]
  have hv2 : k1 = 0 → (v2 = 0 ∨ v2 = 1) := fun h9 => by
    rcases hp2 with ⟨s9, d1, e2⟩ | ⟨q9, -⟩
    · exact (ind_v e2).1
    · exfalso
      have h10 := hok.1
      rw [← q9, zup_s] at h10
      clear hp1 hF hok
      omega
  clear hp1 hp2 hF e3 e9
  refine v_iload hG dL_law_1549 5 rfl ?_
  refine w_icmp hG 1556 dL_law_1551 (by decide) ?_
  refine v_iload hG dL_law_1556 5 rfl ?_
  refine v_if_ne hG 1580 (by omega) dL_law_1558 (by decide) (fun h8 => ?_) (fun h8 => ?_)
  · refine v_goto hG 2572 dL_law_1580 (by decide) ?_
    refine v_sub hG [(0, _), (1, _), (2, _), (3, _), (4, _)] [0, 1, 2, 3, 4] rfl ?_
    exact kk _ _ _ hok.2.2 hc4
  · refine v_aload_n hG dL_law_1561 3 rfl ?_
    refine v_iconst hG dL_law_1562 ?_
    refine v_laload hG dL_law_1563 ?_
    rw [hok.2.1 h8]
    refine v_iload hG dL_law_1564 6 rfl ?_
    have hv3 := hv2 h8
    refine v_if_eq hG 1573 (by omega) dL_law_1566 (by decide) (fun h6 => ?_) (fun h6 => ?_)
    · refine v_lconst hG dL_law_1573 ?_
      refine v_eql hG (y := Int64.ofInt (jl v2)) (by rw [h6]; rfl) ?_
      refine v_lcmp hG dL_law_1574 ?_
      rw [lcr_0.mpr rfl]
      refine v_if_eq hG 1580 (by decide) dL_law_1575 (by decide) (fun _ => ?_) (fun h7 => absurd rfl h7)
      refine v_goto hG 2572 dL_law_1580 (by decide) ?_
      refine v_sub hG [(0, _), (1, _), (2, _), (3, _), (4, _)] [0, 1, 2, 3, 4] rfl ?_
      exact kk _ _ _ hok.2.2 hc4
    · refine v_lconst hG dL_law_1569 ?_
      refine v_eql hG (y := Int64.ofInt (jl v2)) (by rw [show v2 = 1 by omega]; rfl) ?_
      refine v_goto hG 1574 dL_law_1570 (by decide) ?_
      refine v_lcmp hG dL_law_1574 ?_
      rw [lcr_0.mpr rfl]
      refine v_if_eq hG 1580 (by decide) dL_law_1575 (by decide) (fun _ => ?_) (fun h7 => absurd rfl h7)
      refine v_goto hG 2572 dL_law_1580 (by decide) ?_
      refine v_sub hG [(0, _), (1, _), (2, _), (3, _), (4, _)] [0, 1, 2, 3, 4] rfl ?_
      exact kk _ _ _ hok.2.2 hc4

set_option maxHeartbeats 4000000 in
set_option maxRecDepth 100000 in
theorem law_21 {l : Launch} {D : va_G} {cA : Nat → ClassId} {r : Nat → Nat} {Γ : Cx} {b L : Nat} {xs : Nat → Int32} {z : Zt} {i : Int} {kc ks : Nat} (hr : Inj r) (hst : l.stackTraces = false) (hG : Cok l D cA r room_1 Γ cL_law RL wsL_law 7) (hW : LwR b L xs Γ) (hL : L ≤ 2560) (hR : Rel z) (hi : 0 ≤ i ∧ i + 5 ≤ (L : Int)) (hk : kc + 4 ≤ 627503 ∧ ks + 24 ≤ 7213595) (kk : ∀ (z1 : Zt) (kc1 ks1 : Nat), Rel z1 → kc1 ≤ kc + 4 ∧ ks1 ≤ ks + 24 → V Γ z1 kc1 ks1 [(0, .ref b), (1, .ref (r 0)), (2, .ref (r 169)), (3, .ref (r 176)), (4, .int (iN i))] 2572 []) : V Γ z kc ks [(0, .ref b), (1, .ref (r 0)), (2, .ref (r 169)), (3, .ref (r 176)), (4, .int (iN i))] 1583 [] := by
  have b1 : 0 ≤ i + 1 ∧ i + 1 < (L : Int) := by omega
  have c0 : kc + 1 ≤ 627503 ∧ ks + 6 * 1 ≤ 7213595 := by omega
  have hc4 : kc + 1 ≤ kc + 4 ∧ ks + 6 * 1 ≤ ks + 24 := by omega
  refine v_aload_n hG dL_law_1583 1 rfl ?_
  refine v_aload_n hG dL_law_1584 0 rfl ?_
  refine v_iload hG dL_law_1585 4 rfl ?_
  refine v_iconst hG dL_law_1587 ?_
  refine v_iadd hG dL_law_1588 ?_
  refine w_sld hG hW hL b1 dL_law_1589 ?_
  refine v_aload_n hG dL_law_1590 3 rfl ?_
  refine w_callS (n := 3) hG hW (c_L_setShift hr hst k_0 (PJ_PI hR.2.1) hR.2.2.1 (sv_rg xs (i + 1))) gL_law_L_setShift rfl (by decide +kernel) rfl ⟨Nat.le_of_ble_eq_true rfl, Nat.le_of_ble_eq_true rfl⟩ dL_law_1591 rfl (Nat.le_of_ble_eq_true rfl) c0 ?_
  intro k1 z1 hp1
  have hF : WF z1 := WF_mid hR (mid_setShift hR hp1)
  have rk : 0 ≤ k1 ∧ k1 ≤ 3 := by
    rcases hp1 with ⟨h9, -⟩ | ⟨h9, -⟩
    · clear hF; omega
    · clear hF; omega
  refine v_istore hG [(0, _), (1, _), (2, _), (3, _), (4, _), (5, _)] dL_law_1594 (by decide) rfl ?_
  refine v_aload_n hG dL_law_1596 2 rfl ?_
  refine v_aload_n hG dL_law_1597 0 rfl ?_
  refine v_iload hG dL_law_1598 4 rfl ?_
  refine v_iconst hG dL_law_1600 ?_
  refine v_iadd hG dL_law_1601 ?_
  refine w_sld hG hW hL b1 dL_law_1602 ?_
  refine v_callVi (n := 1) (ci := 5) hG (c_X5_setShift hr k_169 rfl hF.1 hF.2.1 (sv_rg xs (i + 1))) gL_law_X5_setShift rfl (by decide +kernel) rfl ⟨Nat.le_of_ble_eq_true rfl, Nat.le_of_ble_eq_true rfl⟩ k_169 (by decide) (cl_6 _ _ _ _) rfl dL_law_1603 rfl (Nat.le_of_ble_eq_true rfl) c0 ?_
  intro v2 z2 hp2
  refine v_istore hG [(0, _), (1, _), (2, _), (3, _), (4, _), (5, _), (6, _)] dL_law_1606 (by decide) rfl ?_
  refine v_aload_n hG dL_law_1608 2 rfl ?_
  refine v_callVi (n := 0) (ci := 5) hG (c_X5_thrown hr k_169) gL_law_X5_thrown rfl (by decide +kernel) rfl ⟨Nat.le_of_ble_eq_true rfl, Nat.le_of_ble_eq_true rfl⟩ k_169 (by decide) (cl_6 _ _ _ _) rfl dL_law_1609 rfl (Nat.le_of_ble_eq_true rfl) c0 ?_
  intro k3 z3 hp3
  obtain ⟨rfl, e3⟩ := hp3
  have hok := ok_setShift (k := k1) (v := v2) hR rfl hp1 hp2
  have e9 : k3 = k1 := e3.trans hok.1
  rw [e9]
  clear hp1 hp2 hF e3 e9
  refine v_iload hG dL_law_1612 5 rfl ?_
  refine w_icmp hG 1619 dL_law_1614 (by decide) ?_
  refine v_iload hG dL_law_1619 5 rfl ?_
  refine v_if_ne hG 1636 (by omega) dL_law_1621 (by decide) (fun h8 => ?_) (fun h8 => ?_)
  · refine v_goto hG 2572 dL_law_1636 (by decide) ?_
    refine v_sub hG [(0, _), (1, _), (2, _), (3, _), (4, _)] [0, 1, 2, 3, 4] rfl ?_
    exact kk _ _ _ hok.2.2 hc4
  · refine v_aload_n hG dL_law_1624 3 rfl ?_
    refine v_iconst hG dL_law_1625 ?_
    refine v_laload hG dL_law_1626 ?_
    rw [hok.2.1 h8]
    refine v_iload hG dL_law_1627 6 rfl ?_
    refine v_i2l hG dL_law_1629 ?_
    refine v_lcmp hG dL_law_1630 ?_
    rw [lcr_0.mpr rfl]
    refine v_if_eq hG 1636 (by decide) dL_law_1631 (by decide) (fun _ => ?_) (fun h7 => absurd rfl h7)
    refine v_goto hG 2572 dL_law_1636 (by decide) ?_
    refine v_sub hG [(0, _), (1, _), (2, _), (3, _), (4, _)] [0, 1, 2, 3, 4] rfl ?_
    exact kk _ _ _ hok.2.2 hc4

set_option maxHeartbeats 4000000 in
set_option maxRecDepth 100000 in
theorem law_22 {l : Launch} {D : va_G} {cA : Nat → ClassId} {r : Nat → Nat} {Γ : Cx} {b L : Nat} {xs : Nat → Int32} {z : Zt} {i : Int} {kc ks : Nat} (hr : Inj r) (hst : l.stackTraces = false) (hG : Cok l D cA r room_1 Γ cL_law RL wsL_law 7) (hW : LwR b L xs Γ) (hL : L ≤ 2560) (hR : Rel z) (hi : 0 ≤ i ∧ i + 5 ≤ (L : Int)) (hk : kc + 4 ≤ 627503 ∧ ks + 24 ≤ 7213595) (kk : ∀ (z1 : Zt) (kc1 ks1 : Nat), Rel z1 → kc1 ≤ kc + 4 ∧ ks1 ≤ ks + 24 → V Γ z1 kc1 ks1 [(0, .ref b), (1, .ref (r 0)), (2, .ref (r 169)), (3, .ref (r 176)), (4, .int (iN i))] 2572 []) : V Γ z kc ks [(0, .ref b), (1, .ref (r 0)), (2, .ref (r 169)), (3, .ref (r 176)), (4, .int (iN i))] 1639 [] := by
  have c1 : kc ≤ 627503 ∧ ks ≤ 7213595 := by omega
  refine v_aload_n hG dL_law_1639 1 rfl ?_
  refine v_callVi (n := 0) (ci := 4) hG (c_X4_shift hr k_0) gL_law_X4_shift rfl (by decide +kernel) rfl ⟨Nat.le_of_ble_eq_true rfl, Nat.le_of_ble_eq_true rfl⟩ k_0 (by decide) (cl_1 _ _ _ _) rfl dL_law_1640 rfl (Nat.le_of_ble_eq_true rfl) c1 ?_
  intro k1 z1 hp1
  refine v_aload_n hG dL_law_1643 2 rfl ?_
  refine v_callVi (n := 0) (ci := 5) hG (c_X5_shift hr k_169 rfl) gL_law_X5_shift rfl (by decide +kernel) rfl ⟨Nat.le_of_ble_eq_true rfl, Nat.le_of_ble_eq_true rfl⟩ k_169 (by decide) (cl_6 _ _ _ _) rfl dL_law_1644 rfl (Nat.le_of_ble_eq_true rfl) c1 ?_
  intro v2 z2 hp2
  have hok := ok_shift (x := k1) (v := v2) hR rfl hp1 hp2
  rw [← hok.1]
  refine w_icmp hG 2572 dL_law_1647 (by decide) ?_
  exact kk _ _ _ hok.2 ⟨Nat.le_add_right _ _, Nat.le_add_right _ _⟩

set_option maxHeartbeats 4000000 in
set_option maxRecDepth 100000 in
theorem law_23 {l : Launch} {D : va_G} {cA : Nat → ClassId} {r : Nat → Nat} {Γ : Cx} {b L : Nat} {xs : Nat → Int32} {z : Zt} {i : Int} {kc ks : Nat} (hr : Inj r) (hst : l.stackTraces = false) (hG : Cok l D cA r room_1 Γ cL_law RL wsL_law 7) (hW : LwR b L xs Γ) (hL : L ≤ 2560) (hR : Rel z) (hi : 0 ≤ i ∧ i + 5 ≤ (L : Int)) (hk : kc + 4 ≤ 627503 ∧ ks + 24 ≤ 7213595) (kk : ∀ (z1 : Zt) (kc1 ks1 : Nat), Rel z1 → kc1 ≤ kc + 4 ∧ ks1 ≤ ks + 24 → V Γ z1 kc1 ks1 [(0, .ref b), (1, .ref (r 0)), (2, .ref (r 169)), (3, .ref (r 176)), (4, .int (iN i))] 2572 []) : V Γ z kc ks [(0, .ref b), (1, .ref (r 0)), (2, .ref (r 169)), (3, .ref (r 176)), (4, .int (iN i))] 1652 [] := by
  have b1 : 0 ≤ i + 1 ∧ i + 1 < (L : Int) := by omega
  have c0 : kc + 1 ≤ 627503 ∧ ks + 6 * 1 ≤ 7213595 := by omega
  have hc4 : kc + 1 ≤ kc + 4 ∧ ks + 6 * 1 ≤ ks + 24 := by omega
  refine v_aload_n hG dL_law_1652 1 rfl ?_
  refine v_aload_n hG dL_law_1653 0 rfl ?_
  refine v_iload hG dL_law_1654 4 rfl ?_
  refine v_iconst hG dL_law_1656 ?_
  refine v_iadd hG dL_law_1657 ?_
  refine w_sld hG hW hL b1 dL_law_1658 ?_
  refine v_aload_n hG dL_law_1659 3 rfl ?_
  refine w_callS (n := 3) hG hW (c_L_setCopiesPerDay hr hst k_0 (PJ_PI hR.2.1) hR.2.2.1 (sv_rg xs (i + 1))) gL_law_L_setCopiesPerDay rfl (by decide +kernel) rfl ⟨Nat.le_of_ble_eq_true rfl, Nat.le_of_ble_eq_true rfl⟩ dL_law_1660 rfl (Nat.le_of_ble_eq_true rfl) c0 ?_
  intro k1 z1 hp1
  have hF : WF z1 := WF_mid hR (mid_setCopiesPerDay hR hp1)
  have rk : 0 ≤ k1 ∧ k1 ≤ 3 := by
    rcases hp1 with ⟨h9, -⟩ | ⟨h9, -⟩
    · clear hF; omega
    · clear hF; omega
  refine v_istore hG [(0, _), (1, _), (2, _), (3, _), (4, _), (5, _)] dL_law_1663 (by decide) rfl ?_
  refine v_aload_n hG dL_law_1665 2 rfl ?_
  refine v_aload_n hG dL_law_1666 0 rfl ?_
  refine v_iload hG dL_law_1667 4 rfl ?_
  refine v_iconst hG dL_law_1669 ?_
  refine v_iadd hG dL_law_1670 ?_
  refine w_sld hG hW hL b1 dL_law_1671 ?_
  refine v_callVi (n := 1) (ci := 5) hG (c_X5_setCopiesPerDay hr k_169 rfl hF.1 hF.2.1 (sv_rg xs (i + 1))) gL_law_X5_setCopiesPerDay rfl (by decide +kernel) rfl ⟨Nat.le_of_ble_eq_true rfl, Nat.le_of_ble_eq_true rfl⟩ k_169 (by decide) (cl_6 _ _ _ _) rfl dL_law_1672 rfl (Nat.le_of_ble_eq_true rfl) c0 ?_
  intro v2 z2 hp2
  refine v_istore hG [(0, _), (1, _), (2, _), (3, _), (4, _), (5, _), (6, _)] dL_law_1675 (by decide) rfl ?_
  refine v_aload_n hG dL_law_1677 2 rfl ?_
  refine v_callVi (n := 0) (ci := 5) hG (c_X5_thrown hr k_169) gL_law_X5_thrown rfl (by decide +kernel) rfl ⟨Nat.le_of_ble_eq_true rfl, Nat.le_of_ble_eq_true rfl⟩ k_169 (by decide) (cl_6 _ _ _ _) rfl dL_law_1678 rfl (Nat.le_of_ble_eq_true rfl) c0 ?_
  intro k3 z3 hp3
  obtain ⟨rfl, e3⟩ := hp3
  have hok := ok_setCopiesPerDay (k := k1) (v := v2) hR rfl hp1 hp2
  have e9 : k3 = k1 := e3.trans hok.1
  rw [e9]
  clear hp1 hp2 hF e3 e9
  refine v_iload hG dL_law_1681 5 rfl ?_
  refine w_icmp hG 1688 dL_law_1683 (by decide) ?_
  refine v_iload hG dL_law_1688 5 rfl ?_
  refine v_if_ne hG 1705 (by omega) dL_law_1690 (by decide) (fun h8 => ?_) (fun h8 => ?_)
  · refine v_goto hG 2572 dL_law_1705 (by decide) ?_
    refine v_sub hG [(0, _), (1, _), (2, _), (3, _), (4, _)] [0, 1, 2, 3, 4] rfl ?_
    exact kk _ _ _ hok.2.2 hc4
  · refine v_aload_n hG dL_law_1693 3 rfl ?_
    refine v_iconst hG dL_law_1694 ?_
    refine v_laload hG dL_law_1695 ?_
    rw [hok.2.1 h8]
    refine v_iload hG dL_law_1696 6 rfl ?_
    refine v_i2l hG dL_law_1698 ?_
    refine v_lcmp hG dL_law_1699 ?_
    rw [lcr_0.mpr rfl]
    refine v_if_eq hG 1705 (by decide) dL_law_1700 (by decide) (fun _ => ?_) (fun h7 => absurd rfl h7)
    refine v_goto hG 2572 dL_law_1705 (by decide) ?_
    refine v_sub hG [(0, _), (1, _), (2, _), (3, _), (4, _)] [0, 1, 2, 3, 4] rfl ?_
    exact kk _ _ _ hok.2.2 hc4

set_option maxHeartbeats 4000000 in
set_option maxRecDepth 100000 in
theorem law_24 {l : Launch} {D : va_G} {cA : Nat → ClassId} {r : Nat → Nat} {Γ : Cx} {b L : Nat} {xs : Nat → Int32} {z : Zt} {i : Int} {kc ks : Nat} (hr : Inj r) (hst : l.stackTraces = false) (hG : Cok l D cA r room_1 Γ cL_law RL wsL_law 7) (hW : LwR b L xs Γ) (hL : L ≤ 2560) (hR : Rel z) (hi : 0 ≤ i ∧ i + 5 ≤ (L : Int)) (hk : kc + 4 ≤ 627503 ∧ ks + 24 ≤ 7213595) (kk : ∀ (z1 : Zt) (kc1 ks1 : Nat), Rel z1 → kc1 ≤ kc + 4 ∧ ks1 ≤ ks + 24 → V Γ z1 kc1 ks1 [(0, .ref b), (1, .ref (r 0)), (2, .ref (r 169)), (3, .ref (r 176)), (4, .int (iN i))] 2572 []) : V Γ z kc ks [(0, .ref b), (1, .ref (r 0)), (2, .ref (r 169)), (3, .ref (r 176)), (4, .int (iN i))] 1708 [] := by
  have c1 : kc ≤ 627503 ∧ ks ≤ 7213595 := by omega
  refine v_aload_n hG dL_law_1708 1 rfl ?_
  refine v_callVi (n := 0) (ci := 4) hG (c_X4_copiesPerDay hr k_0) gL_law_X4_copiesPerDay rfl (by decide +kernel) rfl ⟨Nat.le_of_ble_eq_true rfl, Nat.le_of_ble_eq_true rfl⟩ k_0 (by decide) (cl_1 _ _ _ _) rfl dL_law_1709 rfl (Nat.le_of_ble_eq_true rfl) c1 ?_
  intro k1 z1 hp1
  refine v_aload_n hG dL_law_1712 2 rfl ?_
  refine v_callVi (n := 0) (ci := 5) hG (c_X5_copiesPerDay hr k_169 rfl) gL_law_X5_copiesPerDay rfl (by decide +kernel) rfl ⟨Nat.le_of_ble_eq_true rfl, Nat.le_of_ble_eq_true rfl⟩ k_169 (by decide) (cl_6 _ _ _ _) rfl dL_law_1713 rfl (Nat.le_of_ble_eq_true rfl) c1 ?_
  intro v2 z2 hp2
  have hok := ok_copiesPerDay (x := k1) (v := v2) hR rfl hp1 hp2
  rw [← hok.1]
  refine w_icmp hG 2572 dL_law_1716 (by decide) ?_
  exact kk _ _ _ hok.2 ⟨Nat.le_add_right _ _, Nat.le_add_right _ _⟩

set_option maxHeartbeats 4000000 in
set_option maxRecDepth 100000 in
theorem law_25 {l : Launch} {D : va_G} {cA : Nat → ClassId} {r : Nat → Nat} {Γ : Cx} {b L : Nat} {xs : Nat → Int32} {z : Zt} {i : Int} {kc ks : Nat} (hr : Inj r) (hst : l.stackTraces = false) (hG : Cok l D cA r room_1 Γ cL_law RL wsL_law 7) (hW : LwR b L xs Γ) (hL : L ≤ 2560) (hR : Rel z) (hi : 0 ≤ i ∧ i + 5 ≤ (L : Int)) (hk : kc + 4 ≤ 627503 ∧ ks + 24 ≤ 7213595) (kk : ∀ (z1 : Zt) (kc1 ks1 : Nat), Rel z1 → kc1 ≤ kc + 4 ∧ ks1 ≤ ks + 24 → V Γ z1 kc1 ks1 [(0, .ref b), (1, .ref (r 0)), (2, .ref (r 169)), (3, .ref (r 176)), (4, .int (iN i))] 2572 []) : V Γ z kc ks [(0, .ref b), (1, .ref (r 0)), (2, .ref (r 169)), (3, .ref (r 176)), (4, .int (iN i))] 1721 [] := by
  have b1 : 0 ≤ i + 1 ∧ i + 1 < (L : Int) := by omega
  have c0 : kc + 2 ≤ 627503 ∧ ks + 6 * 2 ≤ 7213595 := by omega
  have hc4 : kc + 2 ≤ kc + 4 ∧ ks + 6 * 2 ≤ ks + 24 := by omega
  refine v_aload_n hG dL_law_1721 1 rfl ?_
  refine v_aload_n hG dL_law_1722 0 rfl ?_
  refine v_iload hG dL_law_1723 4 rfl ?_
  refine v_iconst hG dL_law_1725 ?_
  refine v_iadd hG dL_law_1726 ?_
  refine w_sld hG hW hL b1 dL_law_1727 ?_
  refine v_aload_n hG dL_law_1728 3 rfl ?_
  refine w_callS (n := 3) hG hW (c_L_passDays hr hst k_0 hR.1.1 (PJ_PI hR.2.1) hR.2.2.1 (sv_rg xs (i + 1))) gL_law_L_passDays rfl (by decide +kernel) rfl ⟨Nat.le_of_ble_eq_true rfl, Nat.le_of_ble_eq_true rfl⟩ dL_law_1729 rfl (Nat.le_of_ble_eq_true rfl) c0 ?_
  intro k1 z1 hp1
  have hF : WF z1 := WF_mid hR (mid_passDays hR hp1)
  have rk : 0 ≤ k1 ∧ k1 ≤ 3 := by
    rcases hp1 with ⟨h9, -⟩ | ⟨h9, -⟩ | ⟨h9, -⟩
    · clear hF; omega
    · clear hF; omega
    · clear hF; omega
  refine v_istore hG [(0, _), (1, _), (2, _), (3, _), (4, _), (5, _)] dL_law_1732 (by decide) rfl ?_
  refine v_aload_n hG dL_law_1734 2 rfl ?_
  refine v_aload_n hG dL_law_1735 0 rfl ?_
  refine v_iload hG dL_law_1736 4 rfl ?_
  refine v_iconst hG dL_law_1738 ?_
  refine v_iadd hG dL_law_1739 ?_
  refine w_sld hG hW hL b1 dL_law_1740 ?_
  refine v_callVi (n := 1) (ci := 5) hG (c_X5_passDays hr k_169 rfl hF.1 hF.2.1 (sv_rg xs (i + 1))) gL_law_X5_passDays rfl (by decide +kernel) rfl ⟨Nat.le_of_ble_eq_true rfl, Nat.le_of_ble_eq_true rfl⟩ k_169 (by decide) (cl_6 _ _ _ _) rfl dL_law_1741 rfl (Nat.le_of_ble_eq_true rfl) c0 ?_
  intro v2 z2 hp2
  refine v_istore hG [(0, _), (1, _), (2, _), (3, _), (4, _), (5, _), (6, _)] dL_law_1744 (by decide) rfl ?_
  refine v_aload_n hG dL_law_1746 2 rfl ?_
  refine v_callVi (n := 0) (ci := 5) hG (c_X5_thrown hr k_169) gL_law_X5_thrown rfl (by decide +kernel) rfl ⟨Nat.le_of_ble_eq_true rfl, Nat.le_of_ble_eq_true rfl⟩ k_169 (by decide) (cl_6 _ _ _ _) rfl dL_law_1747 rfl (Nat.le_of_ble_eq_true rfl) c0 ?_
  intro k3 z3 hp3
  obtain ⟨rfl, e3⟩ := hp3
  have hok := ok_passDays (k := k1) (v := v2) hR rfl hp1 hp2
  have e9 : k3 = k1 := e3.trans hok.1
  rw [e9]
  clear hp1 hp2 hF e3 e9
  refine v_iload hG dL_law_1750 5 rfl ?_
  refine w_icmp hG 1757 dL_law_1752 (by decide) ?_
  refine v_iload hG dL_law_1757 5 rfl ?_
  refine v_if_ne hG 1774 (by omega) dL_law_1759 (by decide) (fun h8 => ?_) (fun h8 => ?_)
  · refine v_goto hG 2572 dL_law_1774 (by decide) ?_
    refine v_sub hG [(0, _), (1, _), (2, _), (3, _), (4, _)] [0, 1, 2, 3, 4] rfl ?_
    exact kk _ _ _ hok.2.2 hc4
  · refine v_aload_n hG dL_law_1762 3 rfl ?_
    refine v_iconst hG dL_law_1763 ?_
    refine v_laload hG dL_law_1764 ?_
    rw [hok.2.1 h8]
    refine v_iload hG dL_law_1765 6 rfl ?_
    refine v_i2l hG dL_law_1767 ?_
    refine v_lcmp hG dL_law_1768 ?_
    rw [lcr_0.mpr rfl]
    refine v_if_eq hG 1774 (by decide) dL_law_1769 (by decide) (fun _ => ?_) (fun h7 => absurd rfl h7)
    refine v_goto hG 2572 dL_law_1774 (by decide) ?_
    refine v_sub hG [(0, _), (1, _), (2, _), (3, _), (4, _)] [0, 1, 2, 3, 4] rfl ?_
    exact kk _ _ _ hok.2.2 hc4

set_option maxHeartbeats 4000000 in
set_option maxRecDepth 100000 in
theorem law_26 {l : Launch} {D : va_G} {cA : Nat → ClassId} {r : Nat → Nat} {Γ : Cx} {b L : Nat} {xs : Nat → Int32} {z : Zt} {i : Int} {kc ks : Nat} (hr : Inj r) (hst : l.stackTraces = false) (hG : Cok l D cA r room_1 Γ cL_law RL wsL_law 7) (hW : LwR b L xs Γ) (hL : L ≤ 2560) (hR : Rel z) (hi : 0 ≤ i ∧ i + 5 ≤ (L : Int)) (hk : kc + 4 ≤ 627503 ∧ ks + 24 ≤ 7213595) (kk : ∀ (z1 : Zt) (kc1 ks1 : Nat), Rel z1 → kc1 ≤ kc + 4 ∧ ks1 ≤ ks + 24 → V Γ z1 kc1 ks1 [(0, .ref b), (1, .ref (r 0)), (2, .ref (r 169)), (3, .ref (r 176)), (4, .int (iN i))] 2572 []) : V Γ z kc ks [(0, .ref b), (1, .ref (r 0)), (2, .ref (r 169)), (3, .ref (r 176)), (4, .int (iN i))] 1777 [] := by
  have c1 : kc ≤ 627503 ∧ ks ≤ 7213595 := by omega
  refine v_aload_n hG dL_law_1777 1 rfl ?_
  refine v_callVi (n := 0) (ci := 4) hG (c_X4_today hr k_0) gL_law_X4_today rfl (by decide +kernel) rfl ⟨Nat.le_of_ble_eq_true rfl, Nat.le_of_ble_eq_true rfl⟩ k_0 (by decide) (cl_1 _ _ _ _) rfl dL_law_1778 rfl (Nat.le_of_ble_eq_true rfl) c1 ?_
  intro k1 z1 hp1
  refine v_aload_n hG dL_law_1781 2 rfl ?_
  refine v_callVi (n := 0) (ci := 5) hG (c_X5_today hr k_169 rfl) gL_law_X5_today rfl (by decide +kernel) rfl ⟨Nat.le_of_ble_eq_true rfl, Nat.le_of_ble_eq_true rfl⟩ k_169 (by decide) (cl_6 _ _ _ _) rfl dL_law_1782 rfl (Nat.le_of_ble_eq_true rfl) c1 ?_
  intro v2 z2 hp2
  have hok := ok_today (x := k1) (v := v2) hR rfl hp1 hp2
  rw [← hok.1]
  refine w_icmp hG 2572 dL_law_1785 (by decide) ?_
  exact kk _ _ _ hok.2 ⟨Nat.le_add_right _ _, Nat.le_add_right _ _⟩
