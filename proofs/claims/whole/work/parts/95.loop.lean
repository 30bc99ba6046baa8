set_option maxHeartbeats 4000000 in
set_option maxRecDepth 100000 in
theorem law_all {l : Launch} {D : va_G} {cA : Nat → ClassId} {r : Nat → Nat} {Γ : Cx} {b L : Nat} {xs : Nat → Int32} {z : Zt} {i : Int} {kc ks : Nat} (hr : Inj r) (hst : l.stackTraces = false) (hG : Cok l D cA r room_1 Γ cL_law RL wsL_law 7) (hW : LwR b L xs Γ) (hL : L ≤ 2560) (hR : Rel z) (hi : 0 ≤ i ∧ i + 5 ≤ (L : Int)) (hk : kc + 4 ≤ 627503 ∧ ks + 24 ≤ 7213595) (kk : ∀ (z1 : Zt) (kc1 ks1 : Nat), Rel z1 → kc1 ≤ kc + 4 ∧ ks1 ≤ ks + 24 → V Γ z1 kc1 ks1 [(0, .ref b), (1, .ref (r 0)), (2, .ref (r 169)), (3, .ref (r 176)), (4, .int (iN i))] 2572 []) : ∀ k : Nat, k < 45 → V Γ z kc ks [(0, .ref b), (1, .ref (r 0)), (2, .ref (r 169)), (3, .ref (r 176)), (4, .int (iN i))] ((fun k : Nat => ([232, 312, 368, 436, 504, 572, 640, 708, 776, 832, 924, 1004, 1072, 1128, 1141, 1197, 1253, 1321, 1389, 1464, 1520, 1583, 1639, 1652, 1708, 1721, 1777, 1790, 1846, 1859, 1872, 1928, 1996, 2052, 2108, 2196, 2209, 2222, 2235, 2291, 2335, 2403, 2447, 2460, 2516] : List Nat).getD k 0) k) []
  | 0, _ => law_0 hr hst hG hW hL hR hi hk kk
  | 1, _ => law_1 hr hst hG hW hL hR hi hk kk
  | 2, _ => law_2 hr hst hG hW hL hR hi hk kk
  | 3, _ => law_3 hr hst hG hW hL hR hi hk kk
  | 4, _ => law_4 hr hst hG hW hL hR hi hk kk
  | 5, _ => law_5 hr hst hG hW hL hR hi hk kk
  | 6, _ => law_6 hr hst hG hW hL hR hi hk kk
  | 7, _ => law_7 hr hst hG hW hL hR hi hk kk
  | 8, _ => law_8 hr hst hG hW hL hR hi hk kk
  | 9, _ => law_9 hr hst hG hW hL hR hi hk kk
  | 10, _ => law_10 hr hst hG hW hL hR hi hk kk
  | 11, _ => law_11 hr hst hG hW hL hR hi hk kk
  | 12, _ => law_12 hr hst hG hW hL hR hi hk kk
  | 13, _ => law_13 hr hst hG hW hL hR hi hk kk
  | 14, _ => law_14 hr hst hG hW hL hR hi hk kk
  | 15, _ => law_15 hr hst hG hW hL hR hi hk kk
  | 16, _ => law_16 hr hst hG hW hL hR hi hk kk
  | 17, _ => law_17 hr hst hG hW hL hR hi hk kk
  | 18, _ => law_18 hr hst hG hW hL hR hi hk kk
  | 19, _ => law_19 hr hst hG hW hL hR hi hk kk
  | 20, _ => law_20 hr hst hG hW hL hR hi hk kk
  | 21, _ => law_21 hr hst hG hW hL hR hi hk kk
  | 22, _ => law_22 hr hst hG hW hL hR hi hk kk
  | 23, _ => law_23 hr hst hG hW hL hR hi hk kk
  | 24, _ => law_24 hr hst hG hW hL hR hi hk kk
  | 25, _ => law_25 hr hst hG hW hL hR hi hk kk
  | 26, _ => law_26 hr hst hG hW hL hR hi hk kk
  | 27, _ => law_27 hr hst hG hW hL hR hi hk kk
  | 28, _ => law_28 hr hst hG hW hL hR hi hk kk
  | 29, _ => law_29 hr hst hG hW hL hR hi hk kk
  | 30, _ => law_30 hr hst hG hW hL hR hi hk kk
  | 31, _ => law_31 hr hst hG hW hL hR hi hk kk
  | 32, _ => law_32 hr hst hG hW hL hR hi hk kk
  | 33, _ => law_33 hr hst hG hW hL hR hi hk kk
  | 34, _ => law_34 hr hst hG hW hL hR hi hk kk
  | 35, _ => law_35 hr hst hG hW hL hR hi hk kk
  | 36, _ => law_36 hr hst hG hW hL hR hi hk kk
  | 37, _ => law_37 hr hst hG hW hL hR hi hk kk
  | 38, _ => law_38 hr hst hG hW hL hR hi hk kk
  | 39, _ => law_39 hr hst hG hW hL hR hi hk kk
  | 40, _ => law_40 hr hst hG hW hL hR hi hk kk
  | 41, _ => law_41 hr hst hG hW hL hR hi hk kk
  | 42, _ => law_42 hr hst hG hW hL hR hi hk kk
  | 43, _ => law_43 hr hst hG hW hL hR hi hk kk
  | 44, _ => law_44 hr hst hG hW hL hR hi hk kk
  | k + 45, h => absurd h (by omega)
set_option maxHeartbeats 4000000 in
set_option maxRecDepth 100000 in
theorem law_loop {l : Launch} {D : va_G} {cA : Nat → ClassId} {r : Nat → Nat} {Γ : Cx} {b L : Nat} {xs : Nat → Int32} (hr : Inj r) (hst : l.stackTraces = false) (hG : Cok l D cA r room_1 Γ cL_law RL wsL_law 7) (hW : LwR b L xs Γ) (hL : L ≤ 2560) : ∀ (n : Nat) (z : Zt) (i : Int) (kc ks : Nat), Rel z → (0 ≤ i ∧ i ≤ (L : Int)) → ((L : Int) - i).toNat + 1 ≤ n → (kc : Int) ≤ 400 + 4 * i → (ks : Int) ≤ 4000 + 24 * i → V Γ z kc ks [(0, .ref b), (1, .ref (r 0)), (2, .ref (r 169)), (3, .ref (r 176)), (4, .int (iN i))] 23 [] := by
  intro n
  induction n with
  | zero =>
    intro z i kc ks hR hi hm h1 h2
    exact absurd hm (by omega)
  | succ n ih =>
    intro z i kc ks hR hi hm h1 h2
    have hk : kc + 4 ≤ 627503 ∧ ks + 24 ≤ 7213595 := by omega
    refine v_iload hG dL_law_23 4 rfl ?_
    refine v_aload_n hG dL_law_25 0 rfl ?_
    refine w_slen hG hW dL_law_26 ?_
    refine v_iconst hG dL_law_27 ?_
    refine v_isub hG dL_law_28 ?_
    refine v_icmp_gt hG 2578 (by omega) (by omega) dL_law_29 (by decide) (fun h9 => ?_) (fun h9 => ?_)
    · refine v_iconst hG dL_law_2578 ?_
      exact w_lret hG hW ⟨by omega, by omega⟩ dL_law_2579
    · have hi5 : 0 ≤ i ∧ i + 5 ≤ (L : Int) := by omega
      refine v_aload_n hG dL_law_32 0 rfl ?_
      refine v_iload hG dL_law_33 4 rfl ?_
      refine w_sld hG hW hL (by omega) dL_law_35 ?_
      refine v_bipush hG dL_law_36 (by decide) ?_
      refine v_iand0 hG dL_law_38 ?_
      obtain ⟨k, hk63, ek⟩ := and63 (sv xs i)
      refine v_eqi hG ek ?_
      have kk : ∀ (z1 : Zt) (kc1 ks1 : Nat), Rel z1 → kc1 ≤ kc + 4 ∧ ks1 ≤ ks + 24 → V Γ z1 kc1 ks1 [(0, .ref b), (1, .ref (r 0)), (2, .ref (r 169)), (3, .ref (r 176)), (4, .int (iN i))] 2572 [] := by
        intro z1 kc1 ks1 hR1 hc1
        refine v_iinc hG [(0, _), (1, _), (2, _), (3, _), (4, _)] dL_law_2572 4 rfl (by decide) rfl ?_
        refine v_goto hG 23 dL_law_2575 (by decide) ?_
        exact ih z1 (i + 5) kc1 ks1 hR1 (by omega) (by omega) (by omega) (by omega)
      exact w_tab hG hk63 dL_law_39 (fun k : Nat => ([232, 312, 368, 436, 504, 572, 640, 708, 776, 832, 924, 1004, 1072, 1128, 1141, 1197, 1253, 1321, 1389, 1464, 1520, 1583, 1639, 1652, 1708, 1721, 1777, 1790, 1846, 1859, 1872, 1928, 1996, 2052, 2108, 2196, 2209, 2222, 2235, 2291, 2335, 2403, 2447, 2460, 2516] : List Nat).getD k 0) 2572 (by decide +kernel) (by decide) (law_all hr hst hG hW hL hR hi5 hk kk) (kk z kc ks hR ⟨Nat.le_add_right _ _, Nat.le_add_right _ _⟩)
