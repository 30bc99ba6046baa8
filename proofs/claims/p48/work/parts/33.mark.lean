set_option maxHeartbeats 4000000 in
set_option maxRecDepth 100000 in
theorem c_X2_markFeasts {l : Launch} {D : va_G} {cA : Nat → ClassId} {r : Nat → Nat} {z : Zt} {s : Nat} {fr days : Int} (hr : Inj r) (hs : kd s = 2) (h24 : kd 24 = 500) (hS : SI z s) (hd : 0 ≤ fr ∧ fr ≤ 20000 ∧ 1 ≤ days ∧ days ≤ 400) : Kv l D cA r yX2_markFeasts wsX2_markFeasts 4 93 z [.ref (r s), .ref (r 24), .int (iN fr), .int (iN days)] (fun z1 => ag24 z z1 ∧ ∀ i : Nat, (i : Int) < days → isSet (fun j => (j : Int) < z s 3 ∧ onS z s (s + 8 + j) (fr + i)) (z1 24 i)) := by
  have iW1 : ∀ w ∈ u_ws RX1 TX1 4, w ∈ wsX2_markFeasts := by decide +kernel
  have iW2 : ∀ w ∈ u_ws RX2 TX2 9, w ∈ wsX2_markFeasts := by decide +kernel
  have f25 : Cond.fieldLink RX2 25 (TX2 2).1 (TX2 2).2.1 (TX2 2).2.2.1 ∈ wsX2_markFeasts := by decide +kernel
  have f29 : Cond.fieldLink RX2 29 (TX2 3).1 (TX2 3).2.1 (TX2 3).2.2.1 ∈ wsX2_markFeasts := by decide +kernel
  have f56 : Cond.fieldLinkNest RX2 56 (TX1 0).1 (TX1 0).2.1 (TX1 0).2.2.1 "TwoTownAlmanac" ∈ nwF := by decide +kernel
  obtain ⟨hTA, hTB, hA1, hB0, hmn, hsh, hcp, hdn, hfe⟩ := id hS
  refine Kv_of [(0, _), (1, _), (2, _), (3, _)] hr (by decide) rfl rfl (Nat.le_of_ble_eq_true rfl) rfl (fun Γ hG hR => ?_)
  refine v_iconst hG dX2_markFeasts_0 ?_
  refine v_istore hG [(0, _), (1, _), (2, _), (3, _), (4, _)] dX2_markFeasts_1 (by decide) rfl ?_
  have L3 : ∀ (n : Nat), ∀ (a4 : Int) (z1 : Zt), (0 ≤ a4 ∧ a4 ≤ days ∧ ag24 z z1 ∧ ∀ i : Nat, (i : Int) < a4 → z1 24 i = 0) → (days - a4 + 1).toNat ≤ n → V Γ z1 0 0 [(0, .ref (r s)), (1, .ref (r 24)), (2, .int (iN fr)), (3, .int (iN days)), (4, .int (iN a4))] 3 [] := by
    intro n
    induction n with
    | zero =>
      intro a4 z1 hI hm
      obtain ⟨i1, i2, i3v, i4⟩ := hI
      exact absurd hm (by omega)
    | succ n ih3 =>
      intro a4 z1 hI hm
      obtain ⟨i1, i2, i3v, i4⟩ := hI
      refine v_iload hG dX2_markFeasts_3 4 rfl ?_
      refine v_iload_n hG dX2_markFeasts_5 3 rfl ?_
      refine v_icmp_ge hG 27 (by omega) (by omega) dX2_markFeasts_6 (by decide) (fun h6 => ?_) (fun h6 => ?_)
      · refine v_iconst hG dX2_markFeasts_27 ?_
        refine v_istore hG [(0, _), (1, _), (2, _), (3, _), (4, _)] dX2_markFeasts_28 (by decide) rfl ?_
        have L30 : ∀ (n : Nat), ∀ (x4 : Int) (z2 : Zt), (0 ≤ x4 ∧ x4 ≤ z s 3 ∧ ag24 z z2 ∧ ∀ i : Nat, (i : Int) < days → isSet (fun j => (j : Int) < x4 ∧ onS z s (s + 8 + j) (fr + i)) (z2 24 i)) → (z s 3 - x4 + 1).toNat ≤ n → V Γ z2 0 0 [(0, .ref (r s)), (1, .ref (r 24)), (2, .int (iN fr)), (3, .int (iN days)), (4, .int (iN x4))] 30 [] := by
          intro n
          induction n with
          | zero =>
            intro x4 z2 hI hm
            obtain ⟨j1, j2, j3, j4⟩ := hI
            exact absurd hm (by omega)
          | succ n ih30 =>
            intro x4 z2 hI hm
            obtain ⟨j1, j2, j3, j4⟩ := hI
            have hblQ : blkE z z2 s := ag24_blk j3 hs
            have hSQ := blk_SI hblQ hS
            have esQ : z2 s = z s := ag24_s j3 hs
            have e3Q : z2 s 3 = z s 3 := by rw [esQ]
            refine v_iload hG dX2_markFeasts_30 4 rfl ?_
            refine v_aload_n hG dX2_markFeasts_32 0 rfl ?_
            refine v_getf (ci := 2) (k := 3) hG iW2 f29 rfl (by decide) hs (by decide) (cl_2 _ _ _ _) rfl dX2_markFeasts_33 ?_
            refine v_icmp_ge hG 142 (by omega) (by omega) dX2_markFeasts_36 (by decide) (fun h36 => ?_) (fun h36 => ?_)
            · exact v_vret hG hR dX2_markFeasts_142 ⟨j3, fun i hi => isSet_congr (j4 i hi) (fun j => by rw [show x4 = z s 3 by omega])⟩
            · have hFq : FI z (s + 8 + x4.toNat) := hfe _ (by omega)
              have hFQ := hSQ.2.2.2.2.2.2.2.2 x4.toNat (by omega)
              have hKo := kS_ok hS hFq
              have hKY := blk_kS (k := x4.toNat) hblQ (by omega)
              have hyt := yS_bd (f := s + 8 + x4.toNat) hS (x := fr + days - 1) (by omega)
              have hy0 := y0_le hKo (fr := fr) (to := fr + days - 1) (by omega) (by omega)
              have hFr := hFQ.1
              refine v_aload_n hG dX2_markFeasts_39 0 rfl ?_
              refine v_aload_n hG dX2_markFeasts_40 0 rfl ?_
              refine v_getf (ci := 2) (k := 2) hG iW2 f25 rfl (by decide) hs (by decide) (cl_2 _ _ _ _) rfl dX2_markFeasts_41 ?_
              refine v_iload hG dX2_markFeasts_44 4 rfl ?_
              refine v_aaldF hG (kS_F hs) (by omega) dX2_markFeasts_46 ?_
              rw [show s + 7 + 1 + x4.toNat = s + 8 + x4.toNat by omega]
              refine v_getfN (ci := 1) (k := 0) hG iW1 f56 rfl (by decide) (kF_f (kS_F hs) (by omega)) (by decide) (cl_4 _ _ _ _) rfl dX2_markFeasts_47 ?_
              refine v_callVr (n := 1) (ci := 2) hG (c_X2_townWith hr hs (by omega)) gX2_markFeasts_X2_townWith rfl (by decide +kernel) rfl (by decide) hs (by decide) (cl_2 _ _ _ _) rfl dX2_markFeasts_50 rfl (Nat.le_of_ble_eq_true rfl) (by decide) ?_
              intro t50 z50 hp50
              obtain ⟨rfl, hk50, ht50⟩ := hp50
              have hw50 : t50 = tw z2 s (s + 8 + x4.toNat) := ht50
              subst hw50
              refine v_iload_n hG dX2_markFeasts_53 2 rfl ?_
              refine v_iload_n hG dX2_markFeasts_54 3 rfl ?_
              refine v_iadd hG dX2_markFeasts_55 ?_
              refine v_iconst hG dX2_markFeasts_56 ?_
              refine v_isub hG dX2_markFeasts_57 ?_
              refine v_callVi (n := 1) (ci := 3) hG (c_X3_yearOn hr hk50 (SI_tw hSQ) (by omega)) gX2_markFeasts_X3_yearOn rfl (by decide +kernel) rfl (by decide) hk50 (by decide) (cl_3 _ _ _ _) rfl dX2_markFeasts_58 rfl (Nat.le_of_ble_eq_true rfl) (by decide) ?_
              intro v58 z58 hp58
              obtain ⟨rfl, rfl⟩ := hp58
              refine v_eqi hG (y := iN (yS z s (s + 8 + x4.toNat) (fr + days - 1))) (by rw [← hKY.2]; rfl) ?_
              refine v_istore hG [(0, _), (1, _), (2, _), (3, _), (4, _), (5, _)] dX2_markFeasts_61 (by decide) rfl ?_
              refine v_aload_n hG dX2_markFeasts_63 0 rfl ?_
              refine v_aload_n hG dX2_markFeasts_64 0 rfl ?_
              refine v_getf (ci := 2) (k := 2) hG iW2 f25 rfl (by decide) hs (by decide) (cl_2 _ _ _ _) rfl dX2_markFeasts_65 ?_
              refine v_iload hG dX2_markFeasts_68 4 rfl ?_
              refine v_aaldF hG (kS_F hs) (by omega) dX2_markFeasts_70 ?_
              rw [show s + 7 + 1 + x4.toNat = s + 8 + x4.toNat by omega]
              refine v_iload_n hG dX2_markFeasts_71 2 rfl ?_
              refine v_callVi (n := 2) (ci := 2) hG (c_X2_firstYearFor hr hs (kF_f (kS_F hs) (by omega)) hSQ hFQ (by omega)) gX2_markFeasts_X2_firstYearFor rfl (by decide +kernel) rfl (by decide) hs (by decide) (cl_2 _ _ _ _) rfl dX2_markFeasts_72 rfl (Nat.le_of_ble_eq_true rfl) (by decide) ?_
              intro v72 z72 hp72
              obtain ⟨rfl, rfl⟩ := hp72
              refine v_eqi hG (y := iN (y0of (yS z s (s + 8 + x4.toNat)) fr)) (by rw [hKY.2]) ?_
              refine v_istore hG [(0, _), (1, _), (2, _), (3, _), (4, _), (5, _), (6, _)] dX2_markFeasts_75 (by decide) rfl ?_
              have L77 : ∀ (n : Nat), ∀ (x6 : Int) (z3 : Zt), (y0of (yS z s (s + 8 + x4.toNat)) fr ≤ x6 ∧ x6 ≤ yS z s (s + 8 + x4.toNat) (fr + days - 1) + 1 ∧ ag24 z z3 ∧ ∀ i : Nat, (i : Int) < days → isSet (fun j => ((j : Int) < x4 ∧ onS z s (s + 8 + j) (fr + i)) ∨ (j = x4.toNat ∧ ∃ y, y0of (yS z s (s + 8 + x4.toNat)) fr ≤ y ∧ y < x6 ∧ kS z s (s + 8 + x4.toNat) y = fr + i)) (z3 24 i)) → (yS z s (s + 8 + x4.toNat) (fr + days - 1) - x6 + 2).toNat ≤ n → V Γ z3 0 0 [(0, .ref (r s)), (1, .ref (r 24)), (2, .int (iN fr)), (3, .int (iN days)), (4, .int (iN x4)), (5, .int (iN (yS z s (s + 8 + x4.toNat) (fr + days - 1)))), (6, .int (iN x6))] 77 [] := by
                intro n
                induction n with
                | zero =>
                  intro x6 z3 hI hm
                  obtain ⟨k1, k2, k3, k4⟩ := hI
                  exact absurd hm (by omega)
                | succ n ih77 =>
                  intro x6 z3 hI hm
                  obtain ⟨k1, k2, k3, k4⟩ := hI
                  have hblR : blkE z z3 s := ag24_blk k3 hs
                  have hSR := blk_SI hblR hS
                  have esR : z3 s = z s := ag24_s k3 hs
                  have e3R : z3 s 3 = z s 3 := by rw [esR]
                  have hKR := blk_kS (k := x4.toNat) hblR (by omega)
                  refine v_iload hG dX2_markFeasts_77 6 rfl ?_
                  refine v_iload hG dX2_markFeasts_79 5 rfl ?_
                  refine v_icmp_gt hG 136 (by omega) (by omega) dX2_markFeasts_81 (by decide) (fun h81 => ?_) (fun h81 => ?_)
                  · refine v_iinc hG [(0, _), (1, _), (2, _), (3, _), (4, _), (5, _), (6, _)] dX2_markFeasts_136 4 rfl (by decide) rfl ?_
                    refine v_goto hG 30 dX2_markFeasts_139 (by decide) ?_
                    refine v_sub hG [(0, _), (1, _), (2, _), (3, _), (4, _)] [0, 1, 2, 3, 4] rfl ?_
                    refine ih30 _ _ ?_ (by omega)
                    refine ⟨by omega, by omega, k3, fun i hi => ?_⟩
                    refine mk_done (k4 i hi) j1 ?_
                    have e9 : x6 = yS z s (s + 8 + x4.toNat) (fr + days - 1) + 1 := by omega
                    rw [e9]
                    exact on_span hKo (by omega) (by omega) (by omega)
                  · have hFR := hSR.2.2.2.2.2.2.2.2 x4.toNat (by omega)
                    have hkb := kS_bd hS hFq (y := x6) (by omega)
                    refine v_aload_n hG dX2_markFeasts_84 0 rfl ?_
                    refine v_aload_n hG dX2_markFeasts_85 0 rfl ?_
                    refine v_getf (ci := 2) (k := 2) hG iW2 f25 rfl (by decide) hs (by decide) (cl_2 _ _ _ _) rfl dX2_markFeasts_86 ?_
                    refine v_iload hG dX2_markFeasts_89 4 rfl ?_
                    refine v_aaldF hG (kS_F hs) (by omega) dX2_markFeasts_91 ?_
                    rw [show s + 7 + 1 + x4.toNat = s + 8 + x4.toNat by omega]
                    refine v_iload hG dX2_markFeasts_92 6 rfl ?_
                    refine v_callVi (n := 2) (ci := 2) hG (c_X2_keptIn hr hs (kF_f (kS_F hs) (by omega)) hSR hFR (by omega)) gX2_markFeasts_X2_keptIn rfl (by decide +kernel) rfl (by decide) hs (by decide) (cl_2 _ _ _ _) rfl dX2_markFeasts_94 rfl (Nat.le_of_ble_eq_true rfl) (by decide) ?_
                    intro v94 z94 hp94
                    obtain ⟨rfl, rfl⟩ := hp94
                    refine v_eqi hG (y := iN (kS z s (s + 8 + x4.toNat) x6)) (by rw [hKR.1]) ?_
                    refine v_iload_n hG dX2_markFeasts_97 2 rfl ?_
                    refine v_isub hG dX2_markFeasts_98 ?_
                    refine v_istore hG [(0, _), (1, _), (2, _), (3, _), (4, _), (5, _), (6, _), (7, _)] dX2_markFeasts_99 (by decide) rfl ?_
                    refine v_iload hG dX2_markFeasts_101 7 rfl ?_
                    refine v_if_lt hG 130 (by omega) dX2_markFeasts_103 (by decide) (fun h103 => ?_) (fun h103 => ?_)
                    · refine v_iinc hG [(0, _), (1, _), (2, _), (3, _), (4, _), (5, _), (6, _), (7, _)] dX2_markFeasts_130 6 rfl (by decide) rfl ?_
                      refine v_goto hG 77 dX2_markFeasts_133 (by decide) ?_
                      refine v_sub hG [(0, _), (1, _), (2, _), (3, _), (4, _), (5, _), (6, _)] [0, 1, 2, 3, 4, 5, 6] rfl ?_
                      refine ih77 _ _ ?_ (by omega)
                      refine ⟨by omega, by omega, ?_, ?_⟩
                      · first | exact k3 | exact ag24_up k3
                      · intro i hi
                        first
                          | exact mk_skip (k4 i hi) (by omega)
                          | (by_cases q9 : i = (kS z s (s + 8 + x4.toNat) x6 - fr).toNat
                             · rw [q9, zup24_s]
                               exact mk_hit hs9 k1 (by omega)
                             · rw [zup24_n _ _ q9]
                               exact mk_skip (k4 i hi) (by omega))
                    · refine v_iload hG dX2_markFeasts_106 7 rfl ?_
                      refine v_iload_n hG dX2_markFeasts_108 3 rfl ?_
                      refine v_icmp_ge hG 130 (by omega) (by omega) dX2_markFeasts_109 (by decide) (fun h109 => ?_) (fun h109 => ?_)
                      · refine v_iinc hG [(0, _), (1, _), (2, _), (3, _), (4, _), (5, _), (6, _), (7, _)] dX2_markFeasts_130 6 rfl (by decide) rfl ?_
                        refine v_goto hG 77 dX2_markFeasts_133 (by decide) ?_
                        refine v_sub hG [(0, _), (1, _), (2, _), (3, _), (4, _), (5, _), (6, _)] [0, 1, 2, 3, 4, 5, 6] rfl ?_
                        refine ih77 _ _ ?_ (by omega)
                        refine ⟨by omega, by omega, ?_, ?_⟩
                        · first | exact k3 | exact ag24_up k3
                        · intro i hi
                          first
                            | exact mk_skip (k4 i hi) (by omega)
                            | (by_cases q9 : i = (kS z s (s + 8 + x4.toNat) x6 - fr).toNat
                               · rw [q9, zup24_s]
                                 exact mk_hit hs9 k1 (by omega)
                               · rw [zup24_n _ _ q9]
                                 exact mk_skip (k4 i hi) (by omega))
                      · refine v_iload hG dX2_markFeasts_112 7 rfl ?_
                        refine v_aload_n hG dX2_markFeasts_114 1 rfl ?_
                        refine v_alen hG h24 (by decide) (cl_500 _ _ _ _) rfl dX2_markFeasts_115 ?_
                        refine v_icmp_ge hG 130 (by omega) (by omega) dX2_markFeasts_116 (by decide) (fun h116 => ?_) (fun h116 => ?_)
                        · exfalso; omega
                        · have hi9 : ((kS z s (s + 8 + x4.toNat) x6 - fr).toNat : Int) < days := by omega
                          refine v_aload_n hG dX2_markFeasts_119 1 rfl ?_
                          refine v_iload hG dX2_markFeasts_120 7 rfl ?_
                          refine v_dup2 hG dX2_markFeasts_122 rfl rfl ?_
                          refine v_iald hG h24 (by decide) (cl_500 _ _ _ _) (by decide) (by omega) dX2_markFeasts_123 ?_
                          refine v_iconst hG dX2_markFeasts_124 ?_
                          refine v_iload hG dX2_markFeasts_125 4 rfl ?_
                          refine v_ishl0 hG dX2_markFeasts_127 ?_
                          refine v_ior0 hG dX2_markFeasts_128 ?_
                          obtain ⟨x9, e9, hs9⟩ := set_or (k4 (kS z s (s + 8 + x4.toNat) x6 - fr).toNat hi9) (k := x4) (by omega)
                          refine v_eqi hG e9 ?_
                          refine v_iast hG h24 (by decide) (cl_500 _ _ _) (by decide) (by omega) dX2_markFeasts_129 ?_
                          refine v_iinc hG [(0, _), (1, _), (2, _), (3, _), (4, _), (5, _), (6, _), (7, _)] dX2_markFeasts_130 6 rfl (by decide) rfl ?_
                          refine v_goto hG 77 dX2_markFeasts_133 (by decide) ?_
                          refine v_sub hG [(0, _), (1, _), (2, _), (3, _), (4, _), (5, _), (6, _)] [0, 1, 2, 3, 4, 5, 6] rfl ?_
                          refine ih77 _ _ ?_ (by omega)
                          refine ⟨by omega, by omega, ?_, ?_⟩
                          · first | exact k3 | exact ag24_up k3
                          · intro i hi
                            first
                              | exact mk_skip (k4 i hi) (by omega)
                              | (by_cases q9 : i = (kS z s (s + 8 + x4.toNat) x6 - fr).toNat
                                 · rw [q9, zup24_s]
                                   exact mk_hit hs9 k1 (by omega)
                                 · rw [zup24_n _ _ q9]
                                   exact mk_skip (k4 i hi) (by omega))
              exact L77 _ _ _ ⟨by omega, by omega, j3, fun i hi => mk_begin (j4 i hi)⟩ (Nat.le_refl _)
        exact L30 _ _ _ ⟨by omega, by omega, i3v, fun i hi => by rw [i4 i (by omega)]; exact isSet_0 (fun j hj => by omega)⟩ (Nat.le_refl _)
      · refine v_iload hG dX2_markFeasts_9 4 rfl ?_
        refine v_aload_n hG dX2_markFeasts_11 1 rfl ?_
        refine v_alen hG h24 (by decide) (cl_500 _ _ _ _) rfl dX2_markFeasts_12 ?_
        refine v_icmp_ge hG 27 (by omega) (by omega) dX2_markFeasts_13 (by decide) (fun h13 => ?_) (fun h13 => ?_)
        · exfalso; omega
        · refine v_aload_n hG dX2_markFeasts_16 1 rfl ?_
          refine v_iload hG dX2_markFeasts_17 4 rfl ?_
          refine v_iconst hG dX2_markFeasts_19 ?_
          refine v_iast hG h24 (by decide) (cl_500 _ _ _) (by decide) (by omega) dX2_markFeasts_20 ?_
          refine v_iinc hG [(0, _), (1, _), (2, _), (3, _), (4, _)] dX2_markFeasts_21 4 rfl (by decide) rfl ?_
          refine v_goto hG 3 dX2_markFeasts_24 (by decide) ?_
          refine ih3 _ _ ?_ (by omega)
          refine ⟨by omega, by omega, ag24_up i3v, fun i hi => ?_⟩
          by_cases q : i = a4.toNat
          · rw [q, zup24_s]
          · rw [zup24_n _ _ q]
            exact i4 i (by omega)
  exact L3 _ _ _ ⟨by omega, by omega, fun _ _ => rfl, fun i hi => by omega⟩ (Nat.le_refl _)

set_option maxHeartbeats 4000000 in
set_option maxRecDepth 100000 in
theorem c_X2_countQuarrels {l : Launch} {D : va_G} {cA : Nat → ClassId} {r : Nat → Nat} {z : Zt} {s : Nat} {days : Int} {P : Nat → Nat → Prop} (hr : Inj r) (hs : kd s = 2) (h24 : kd 24 = 500) (hS : SI z s) (hd : 1 ≤ days ∧ days ≤ 400) (hmk : ∀ i : Nat, (i : Int) < days → isSet (P i) (z 24 i)) : Ki l D cA r yX2_countQuarrels wsX2_countQuarrels 1 23 z [.ref (r s), .ref (r 24), .int (iN days)] (fun x z1 => z = z1 ∧ x = cntP (fun i => (∃ j : Nat, P i j ∧ ((j : Int) < z s 3 ∧ z (s + 8 + j) 0 = 0)) ∧ ∃ j : Nat, P i j ∧ ((j : Int) < z s 3 ∧ z (s + 8 + j) 0 = 1)) days.toNat) := by
  obtain ⟨hTA, hTB, hA1, hB0, hmn, hsh, hcp, hdn, hfe⟩ := id hS
  refine Ki_of [(0, _), (1, _), (2, _)] hr (by decide) rfl rfl (Nat.le_of_ble_eq_true rfl) rfl (fun Γ hG hR => ?_)
  refine v_aload_n hG dX2_countQuarrels_0 0 rfl ?_
  refine v_iconst hG dX2_countQuarrels_1 ?_
  refine v_callVi (n := 1) (ci := 2) hG (c_X2_feastsOf hr hs hS (by omega)) gX2_countQuarrels_X2_feastsOf rfl (by decide +kernel) rfl (by decide) hs (by decide) (cl_2 _ _ _ _) rfl dX2_countQuarrels_2 rfl (Nat.le_of_ble_eq_true rfl) (by decide) ?_
  intro v2 z2 hp2
  obtain ⟨rfl, hx2⟩ := hp2
  refine v_istore_n hG [(0, _), (1, _), (2, _), (3, _)] dX2_countQuarrels_5 (by decide) rfl ?_
  refine v_aload_n hG dX2_countQuarrels_6 0 rfl ?_
  refine v_iconst hG dX2_countQuarrels_7 ?_
  refine v_callVi (n := 1) (ci := 2) hG (c_X2_feastsOf hr hs hS (by omega)) gX2_countQuarrels_X2_feastsOf rfl (by decide +kernel) rfl (by decide) hs (by decide) (cl_2 _ _ _ _) rfl dX2_countQuarrels_8 rfl (Nat.le_of_ble_eq_true rfl) (by decide) ?_
  intro v8 z8 hp8
  obtain ⟨rfl, hx8⟩ := hp8
  refine v_istore hG [(0, _), (1, _), (2, _), (3, _), (4, _)] dX2_countQuarrels_11 (by decide) rfl ?_
  refine v_iconst hG dX2_countQuarrels_13 ?_
  refine v_istore hG [(0, _), (1, _), (2, _), (3, _), (4, _), (5, _)] dX2_countQuarrels_14 (by decide) rfl ?_
  refine v_iconst hG dX2_countQuarrels_16 ?_
  refine v_istore hG [(0, _), (1, _), (2, _), (3, _), (4, _), (5, _), (6, _)] dX2_countQuarrels_17 (by decide) rfl ?_
  have L19 : ∀ (n : Nat), ∀ (x5 x6 : Int), (0 ≤ x6 ∧ x6 ≤ days ∧ x5 = cntP (fun i => (∃ j : Nat, P i j ∧ ((j : Int) < z s 3 ∧ z (s + 8 + j) 0 = 0)) ∧ ∃ j : Nat, P i j ∧ ((j : Int) < z s 3 ∧ z (s + 8 + j) 0 = 1)) x6.toNat) → (days - x6 + 1).toNat ≤ n → V Γ z 0 0 [(0, .ref (r s)), (1, .ref (r 24)), (2, .int (iN days)), (3, .int (iN v2)), (4, .int (iN v8)), (5, .int (iN x5)), (6, .int (iN x6))] 19 [] := by
    intro n
    induction n with
    | zero =>
      intro x5 x6 hI hm
      obtain ⟨i1, i2, i3v⟩ := hI
      exact absurd hm (by omega)
    | succ n ih19 =>
      intro x5 x6 hI hm
      obtain ⟨i1, i2, i3v⟩ := hI
      refine v_iload hG dX2_countQuarrels_19 6 rfl ?_
      refine v_iload_n hG dX2_countQuarrels_21 2 rfl ?_
      refine v_icmp_ge hG 60 (by omega) (by omega) dX2_countQuarrels_22 (by decide) (fun h22 => ?_) (fun h22 => ?_)
      · refine v_iload hG dX2_countQuarrels_60 5 rfl ?_
        exact v_iret hG hR dX2_countQuarrels_62 ⟨rfl, by rw [i3v, show x6 = days by omega]⟩
      · refine v_iload hG dX2_countQuarrels_25 6 rfl ?_
        refine v_aload_n hG dX2_countQuarrels_27 1 rfl ?_
        refine v_alen hG h24 (by decide) (cl_500 _ _ _ _) rfl dX2_countQuarrels_28 ?_
        refine v_icmp_ge hG 60 (by omega) (by omega) dX2_countQuarrels_29 (by decide) (fun h29 => ?_) (fun h29 => ?_)
        · exfalso; omega
        · have hmi := hmk x6.toNat (by omega)
          refine v_aload_n hG dX2_countQuarrels_32 1 rfl ?_
          refine v_iload hG dX2_countQuarrels_33 6 rfl ?_
          refine v_iald hG h24 (by decide) (cl_500 _ _ _ _) (by decide) (by omega) dX2_countQuarrels_35 ?_
          refine v_iload_n hG dX2_countQuarrels_36 3 rfl ?_
          refine v_iand0 hG dX2_countQuarrels_37 ?_
          obtain ⟨uA, eA, hsA⟩ := set_and hmi hx2
          have hbA := isSet_bd hsA
          refine v_eqi hG eA ?_
          refine v_if_eq hG 54 (by omega) dX2_countQuarrels_38 (by decide) (fun h38 => ?_) (fun h38 => ?_)
          · refine v_iinc hG [(0, _), (1, _), (2, _), (3, _), (4, _), (5, _), (6, _)] dX2_countQuarrels_54 6 rfl (by decide) rfl ?_
            refine v_goto hG 19 dX2_countQuarrels_57 (by decide) ?_
            refine ih19 _ _ ?_ (by omega)
            refine ⟨by omega, by omega, ?_⟩
            first
              | (rw [i3v]; exact (cntP_y (Q := (fun i => (∃ j : Nat, P i j ∧ ((j : Int) < z s 3 ∧ z (s + 8 + j) 0 = 0)) ∧ ∃ j : Nat, P i j ∧ ((j : Int) < z s 3 ∧ z (s + 8 + j) 0 = 1))) i1 ⟨not_all (fun q => h38 ((isSet_zero hsA).mpr q)), not_all (fun q => h48 ((isSet_zero hsB).mpr q))⟩).symm)
              | (rw [i3v]; exact (cntP_n (Q := (fun i => (∃ j : Nat, P i j ∧ ((j : Int) < z s 3 ∧ z (s + 8 + j) 0 = 0)) ∧ ∃ j : Nat, P i j ∧ ((j : Int) < z s 3 ∧ z (s + 8 + j) 0 = 1))) i1 (fun q => by obtain ⟨-, j, hj⟩ := q; exact (isSet_zero hsB).mp h48 j hj)).symm)
              | (rw [i3v]; exact (cntP_n (Q := (fun i => (∃ j : Nat, P i j ∧ ((j : Int) < z s 3 ∧ z (s + 8 + j) 0 = 0)) ∧ ∃ j : Nat, P i j ∧ ((j : Int) < z s 3 ∧ z (s + 8 + j) 0 = 1))) i1 (fun q => by obtain ⟨⟨j, hj⟩, -⟩ := q; exact (isSet_zero hsA).mp h38 j hj)).symm)
          · refine v_aload_n hG dX2_countQuarrels_41 1 rfl ?_
            refine v_iload hG dX2_countQuarrels_42 6 rfl ?_
            refine v_iald hG h24 (by decide) (cl_500 _ _ _ _) (by decide) (by omega) dX2_countQuarrels_44 ?_
            refine v_iload hG dX2_countQuarrels_45 4 rfl ?_
            refine v_iand0 hG dX2_countQuarrels_47 ?_
            obtain ⟨uB, eB, hsB⟩ := set_and hmi hx8
            have hbB := isSet_bd hsB
            refine v_eqi hG eB ?_
            refine v_if_eq hG 54 (by omega) dX2_countQuarrels_48 (by decide) (fun h48 => ?_) (fun h48 => ?_)
            · refine v_iinc hG [(0, _), (1, _), (2, _), (3, _), (4, _), (5, _), (6, _)] dX2_countQuarrels_54 6 rfl (by decide) rfl ?_
              refine v_goto hG 19 dX2_countQuarrels_57 (by decide) ?_
              refine ih19 _ _ ?_ (by omega)
              refine ⟨by omega, by omega, ?_⟩
              first
                | (rw [i3v]; exact (cntP_y (Q := (fun i => (∃ j : Nat, P i j ∧ ((j : Int) < z s 3 ∧ z (s + 8 + j) 0 = 0)) ∧ ∃ j : Nat, P i j ∧ ((j : Int) < z s 3 ∧ z (s + 8 + j) 0 = 1))) i1 ⟨not_all (fun q => h38 ((isSet_zero hsA).mpr q)), not_all (fun q => h48 ((isSet_zero hsB).mpr q))⟩).symm)
                | (rw [i3v]; exact (cntP_n (Q := (fun i => (∃ j : Nat, P i j ∧ ((j : Int) < z s 3 ∧ z (s + 8 + j) 0 = 0)) ∧ ∃ j : Nat, P i j ∧ ((j : Int) < z s 3 ∧ z (s + 8 + j) 0 = 1))) i1 (fun q => by obtain ⟨-, j, hj⟩ := q; exact (isSet_zero hsB).mp h48 j hj)).symm)
                | (rw [i3v]; exact (cntP_n (Q := (fun i => (∃ j : Nat, P i j ∧ ((j : Int) < z s 3 ∧ z (s + 8 + j) 0 = 0)) ∧ ∃ j : Nat, P i j ∧ ((j : Int) < z s 3 ∧ z (s + 8 + j) 0 = 1))) i1 (fun q => by obtain ⟨⟨j, hj⟩, -⟩ := q; exact (isSet_zero hsA).mp h38 j hj)).symm)
            · refine v_iinc hG [(0, _), (1, _), (2, _), (3, _), (4, _), (5, _), (6, _)] dX2_countQuarrels_51 5 rfl (by decide) rfl ?_
              refine v_iinc hG [(0, _), (1, _), (2, _), (3, _), (4, _), (5, _), (6, _)] dX2_countQuarrels_54 6 rfl (by decide) rfl ?_
              refine v_goto hG 19 dX2_countQuarrels_57 (by decide) ?_
              refine ih19 _ _ ?_ (by omega)
              refine ⟨by omega, by omega, ?_⟩
              first
                | (rw [i3v]; exact (cntP_y (Q := (fun i => (∃ j : Nat, P i j ∧ ((j : Int) < z s 3 ∧ z (s + 8 + j) 0 = 0)) ∧ ∃ j : Nat, P i j ∧ ((j : Int) < z s 3 ∧ z (s + 8 + j) 0 = 1))) i1 ⟨not_all (fun q => h38 ((isSet_zero hsA).mpr q)), not_all (fun q => h48 ((isSet_zero hsB).mpr q))⟩).symm)
                | (rw [i3v]; exact (cntP_n (Q := (fun i => (∃ j : Nat, P i j ∧ ((j : Int) < z s 3 ∧ z (s + 8 + j) 0 = 0)) ∧ ∃ j : Nat, P i j ∧ ((j : Int) < z s 3 ∧ z (s + 8 + j) 0 = 1))) i1 (fun q => by obtain ⟨-, j, hj⟩ := q; exact (isSet_zero hsB).mp h48 j hj)).symm)
                | (rw [i3v]; exact (cntP_n (Q := (fun i => (∃ j : Nat, P i j ∧ ((j : Int) < z s 3 ∧ z (s + 8 + j) 0 = 0)) ∧ ∃ j : Nat, P i j ∧ ((j : Int) < z s 3 ∧ z (s + 8 + j) 0 = 1))) i1 (fun q => by obtain ⟨⟨j, hj⟩, -⟩ := q; exact (isSet_zero hsA).mp h38 j hj)).symm)
  exact L19 _ _ _ ⟨by omega, by omega, rfl⟩ (Nat.le_refl _)

set_option maxHeartbeats 4000000 in
set_option maxRecDepth 100000 in
theorem c_X2_countPassed {l : Launch} {D : va_G} {cA : Nat → ClassId} {r : Nat → Nat} {z : Zt} {s : Nat} {days : Int} {P : Nat → Nat → Prop} (hr : Inj r) (hs : kd s = 2) (h24 : kd 24 = 500) (hS : SI z s) (hd : 1 ≤ days ∧ days ≤ 400) (hmk : ∀ i : Nat, (i : Int) < days → isSet (P i) (z 24 i)) : Kv l D cA r yX2_countPassed wsX2_countPassed 1 23 z [.ref (r s), .ref (r 24), .int (iN days)] (fun z1 => psZ z s (sumN (fun i => cntP (fun j => P i j ∧ ((j : Int) < z s 3 ∧ z (s + 8 + j) 0 = 0)) 10) days.toNat) (sumN (fun i => cntP (fun j => P i j ∧ ((j : Int) < z s 3 ∧ z (s + 8 + j) 0 = 1)) 10) days.toNat) (sumN (fun i => ind (∀ j, ¬ P i j) * z s 5) days.toNat) = z1) := by
  have iW2 : ∀ w ∈ u_ws RX2 TX2 9, w ∈ wsX2_countPassed := by decide +kernel
  have iW3 : ∀ w ∈ u_ws RX3 TX3 5, w ∈ wsX2_countPassed := by decide +kernel
  have f14 : Cond.fieldLink RX2 14 (TX2 0).1 (TX2 0).2.1 (TX2 0).2.2.1 ∈ wsX2_countPassed := by decide +kernel
  have f20 : Cond.fieldLink RX2 20 (TX2 1).1 (TX2 1).2.1 (TX2 1).2.2.1 ∈ wsX2_countPassed := by decide +kernel
  have f36 : Cond.fieldLink RX2 36 (TX2 5).1 (TX2 5).2.1 (TX2 5).2.2.1 ∈ wsX2_countPassed := by decide +kernel
  have f45 : Cond.fieldLink RX2 45 (TX2 8).1 (TX2 8).2.1 (TX2 8).2.2.1 ∈ wsX2_countPassed := by decide +kernel
  have f99 : Cond.fieldLinkNest RX2 99 (TX3 4).1 (TX3 4).2.1 (TX3 4).2.2.1 "TwoTownAlmanac" ∈ nwF := by decide +kernel
  obtain ⟨hTA, hTB, hA1, hB0, hmn, hsh, hcp, hdn, hfe⟩ := id hS
  have n1 : ¬ 24 = s + 1 := fun e => (S_ne (j := 1) hs (by decide)).1 e.symm
  have n4 : ¬ 24 = s + 4 := fun e => (S_ne (j := 4) hs (by decide)).1 e.symm
  have n0 : ¬ 24 = s := fun e => (S_ne (j := 0) hs (by decide)).1 e.symm
  have p24 : ∀ a b c : Int, psZ z s a b c 24 = z 24 := fun a b c => psZ_o n1 n4 n0
  refine Kv_of [(0, _), (1, _), (2, _)] hr (by decide) rfl rfl (Nat.le_of_ble_eq_true rfl) rfl (fun Γ hG hR => ?_)
  refine v_aload_n hG dX2_countPassed_0 0 rfl ?_
  refine v_iconst hG dX2_countPassed_1 ?_
  refine v_callVi (n := 1) (ci := 2) hG (c_X2_feastsOf hr hs hS (by omega)) gX2_countPassed_X2_feastsOf rfl (by decide +kernel) rfl (by decide) hs (by decide) (cl_2 _ _ _ _) rfl dX2_countPassed_2 rfl (Nat.le_of_ble_eq_true rfl) (by decide) ?_
  intro v2 z2 hp2
  obtain ⟨rfl, hx2⟩ := hp2
  refine v_istore_n hG [(0, _), (1, _), (2, _), (3, _)] dX2_countPassed_5 (by decide) rfl ?_
  refine v_aload_n hG dX2_countPassed_6 0 rfl ?_
  refine v_iconst hG dX2_countPassed_7 ?_
  refine v_callVi (n := 1) (ci := 2) hG (c_X2_feastsOf hr hs hS (by omega)) gX2_countPassed_X2_feastsOf rfl (by decide +kernel) rfl (by decide) hs (by decide) (cl_2 _ _ _ _) rfl dX2_countPassed_8 rfl (Nat.le_of_ble_eq_true rfl) (by decide) ?_
  intro v8 z8 hp8
  obtain ⟨rfl, hx8⟩ := hp8
  refine v_istore hG [(0, _), (1, _), (2, _), (3, _), (4, _)] dX2_countPassed_11 (by decide) rfl ?_
  refine v_iconst hG dX2_countPassed_13 ?_
  refine v_istore hG [(0, _), (1, _), (2, _), (3, _), (4, _), (5, _)] dX2_countPassed_14 (by decide) rfl ?_
  have L16 : ∀ (n : Nat), ∀ (x5 : Int) (z1 : Zt), (0 ≤ x5 ∧ x5 ≤ days ∧ z1 = psZ z s (sumN (fun i => cntP (fun j => P i j ∧ ((j : Int) < z s 3 ∧ z (s + 8 + j) 0 = 0)) 10) x5.toNat) (sumN (fun i => cntP (fun j => P i j ∧ ((j : Int) < z s 3 ∧ z (s + 8 + j) 0 = 1)) 10) x5.toNat) (sumN (fun i => ind (∀ j, ¬ P i j) * z s 5) x5.toNat)) → (days - x5 + 1).toNat ≤ n → V Γ z1 0 0 [(0, .ref (r s)), (1, .ref (r 24)), (2, .int (iN days)), (3, .int (iN v2)), (4, .int (iN v8)), (5, .int (iN x5))] 16 [] := by
    intro n
    induction n with
    | zero =>
      intro x5 z1 hI hm
      obtain ⟨i1, i2, i3v⟩ := hI
      exact absurd hm (by omega)
    | succ n ih16 =>
      intro x5 z1 hI hm
      obtain ⟨i1, i2, i3v⟩ := hI
      obtain ⟨a1, ha1⟩ : ∃ q, q = sumN (fun i => cntP (fun j => P i j ∧ ((j : Int) < z s 3 ∧ z (s + 8 + j) 0 = 0)) 10) x5.toNat := ⟨_, rfl⟩
      obtain ⟨a2, ha2⟩ : ∃ q, q = sumN (fun i => cntP (fun j => P i j ∧ ((j : Int) < z s 3 ∧ z (s + 8 + j) 0 = 1)) 10) x5.toNat := ⟨_, rfl⟩
      obtain ⟨a3, ha3⟩ : ∃ q, q = sumN (fun i => ind (∀ j, ¬ P i j) * z s 5) x5.toNat := ⟨_, rfl⟩
      rw [← ha1, ← ha2, ← ha3] at i3v
      subst i3v
      refine v_iload hG dX2_countPassed_16 5 rfl ?_
      refine v_iload_n hG dX2_countPassed_18 2 rfl ?_
      refine v_icmp_ge hG 98 (by omega) (by omega) dX2_countPassed_19 (by decide) (fun h19 => ?_) (fun h19 => ?_)
      · exact v_vret hG hR dX2_countPassed_98 (by rw [ha1, ha2, ha3, show x5 = days by omega])
      · refine v_iload hG dX2_countPassed_22 5 rfl ?_
        refine v_aload_n hG dX2_countPassed_24 1 rfl ?_
        refine v_alen hG h24 (by decide) (cl_500 _ _ _ _) rfl dX2_countPassed_25 ?_
        refine v_icmp_ge hG 98 (by omega) (by omega) dX2_countPassed_26 (by decide) (fun h26 => ?_) (fun h26 => ?_)
        · exfalso; omega
        · have hmi := hmk x5.toNat (by omega)
          refine v_aload_n hG dX2_countPassed_29 0 rfl ?_
          refine v_getf (ci := 2) (k := 0) hG iW2 f14 rfl (by decide) hs (by decide) (cl_2 _ _ _ _) rfl dX2_countPassed_30 ?_
          refine v_dup hG dX2_countPassed_33 rfl ?_
          refine v_getfN (ci := 3) (k := 4) hG iW3 f99 rfl (by decide) (kS_A hs) (by decide) (cl_3 _ _ _ _) rfl dX2_countPassed_34 ?_
          refine v_aload_n hG dX2_countPassed_37 1 rfl ?_
          refine v_iload hG dX2_countPassed_38 5 rfl ?_
          refine v_iald hG h24 (by decide) (cl_500 _ _ _ _) (by decide) (by omega) dX2_countPassed_40 ?_
          rw [p24]
          refine v_iload_n hG dX2_countPassed_41 3 rfl ?_
          refine v_iand0 hG dX2_countPassed_42 ?_
          obtain ⟨uA, eA, hsA⟩ := set_and hmi hx2
          refine v_eqi hG eA ?_
          refine v_callSi (n := 1) hG (c_J6_bitCount_0f7a4 hr hsA) gX2_countPassed_J6_bitCount_0f7a4 rfl (by decide +kernel) rfl (by decide) dX2_countPassed_43 rfl (Nat.le_of_ble_eq_true rfl) (by decide) ?_
          intro v43 z43 hp43
          obtain ⟨rfl, rfl⟩ := hp43
          refine v_iadd hG dX2_countPassed_46 ?_
          refine v_putfN (ci := 3) (k := 4) hG iW3 tyX3_ok nmX3 f99 rfl (by decide) rfl rfl (kS_A hs) (by decide) (cl_3 _ _ _ _) (Nat.le_of_ble_eq_true rfl) rfl dX2_countPassed_47 ?_
          rw [psZ_A]
          refine v_aload_n hG dX2_countPassed_50 0 rfl ?_
          refine v_getf (ci := 2) (k := 1) hG iW2 f20 rfl (by decide) hs (by decide) (cl_2 _ _ _ _) rfl dX2_countPassed_51 ?_
          refine v_dup hG dX2_countPassed_54 rfl ?_
          refine v_getfN (ci := 3) (k := 4) hG iW3 f99 rfl (by decide) (kS_B hs) (by decide) (cl_3 _ _ _ _) rfl dX2_countPassed_55 ?_
          refine v_aload_n hG dX2_countPassed_58 1 rfl ?_
          refine v_iload hG dX2_countPassed_59 5 rfl ?_
          refine v_iald hG h24 (by decide) (cl_500 _ _ _ _) (by decide) (by omega) dX2_countPassed_61 ?_
          rw [p24]
          refine v_iload hG dX2_countPassed_62 4 rfl ?_
          refine v_iand0 hG dX2_countPassed_64 ?_
          obtain ⟨uB, eB, hsB⟩ := set_and hmi hx8
          refine v_eqi hG eB ?_
          refine v_callSi (n := 1) hG (c_J6_bitCount_0f7a4 hr hsB) gX2_countPassed_J6_bitCount_0f7a4 rfl (by decide +kernel) rfl (by decide) dX2_countPassed_65 rfl (Nat.le_of_ble_eq_true rfl) (by decide) ?_
          intro v65 z65 hp65
          obtain ⟨rfl, rfl⟩ := hp65
          refine v_iadd hG dX2_countPassed_68 ?_
          refine v_putfN (ci := 3) (k := 4) hG iW3 tyX3_ok nmX3 f99 rfl (by decide) rfl rfl (kS_B hs) (by decide) (cl_3 _ _ _ _) (Nat.le_of_ble_eq_true rfl) rfl dX2_countPassed_69 ?_
          rw [psZ_B]
          refine v_aload_n hG dX2_countPassed_72 1 rfl ?_
          refine v_iload hG dX2_countPassed_73 5 rfl ?_
          refine v_iald hG h24 (by decide) (cl_500 _ _ _ _) (by decide) (by omega) dX2_countPassed_75 ?_
          have hb76 := isSet_bd hmi
          refine v_if_ne hG 92 (by rw [p24]; omega) dX2_countPassed_76 (by decide) (fun h76 => ?_) (fun h76 => ?_)
          · refine v_iinc hG [(0, _), (1, _), (2, _), (3, _), (4, _), (5, _)] dX2_countPassed_92 5 rfl (by decide) rfl ?_
            refine v_goto hG 16 dX2_countPassed_95 (by decide) ?_
            refine ih16 _ _ ?_ (by omega)
            refine ⟨by omega, by omega, ?_⟩
            rw [sumN_s i1, sumN_s i1, sumN_s i1, ← ha1, ← ha2, ← ha3]
            first
              | (rw [ind_t ((isSet_zero hmi).mp (by rw [← p24 (a1 + cntP (fun j => P x5.toNat j ∧ ((j : Int) < z s 3 ∧ z (s + 8 + j) 0 = 0)) 10) (a2 + cntP (fun j => P x5.toNat j ∧ ((j : Int) < z s 3 ∧ z (s + 8 + j) 0 = 1)) 10) a3]; exact h76)), Int.one_mul, psZ_C, psZ_5.1])
              | (rw [ind_f (fun q => h76 (by rw [p24]; exact (isSet_zero hmi).mpr q)), Int.zero_mul, Int.add_zero])
          · refine v_aload_n hG dX2_countPassed_79 0 rfl ?_
            refine v_dup hG dX2_countPassed_80 rfl ?_
            refine v_getf (ci := 2) (k := 8) hG iW2 f45 rfl (by decide) hs (by decide) (cl_2 _ _ _ _) rfl dX2_countPassed_81 ?_
            refine v_aload_n hG dX2_countPassed_84 0 rfl ?_
            refine v_getf (ci := 2) (k := 5) hG iW2 f36 rfl (by decide) hs (by decide) (cl_2 _ _ _ _) rfl dX2_countPassed_85 ?_
            refine v_iadd hG dX2_countPassed_88 ?_
            refine v_putf (ci := 2) (k := 8) hG iW2 tyX2_ok nmX2 f45 rfl (by decide) rfl rfl hs (by decide) (cl_2 _ _ _ _) (Nat.le_of_ble_eq_true rfl) rfl dX2_countPassed_89 ?_
            refine v_iinc hG [(0, _), (1, _), (2, _), (3, _), (4, _), (5, _)] dX2_countPassed_92 5 rfl (by decide) rfl ?_
            refine v_goto hG 16 dX2_countPassed_95 (by decide) ?_
            refine ih16 _ _ ?_ (by omega)
            refine ⟨by omega, by omega, ?_⟩
            rw [sumN_s i1, sumN_s i1, sumN_s i1, ← ha1, ← ha2, ← ha3]
            first
              | (rw [ind_t ((isSet_zero hmi).mp (by rw [← p24 (a1 + cntP (fun j => P x5.toNat j ∧ ((j : Int) < z s 3 ∧ z (s + 8 + j) 0 = 0)) 10) (a2 + cntP (fun j => P x5.toNat j ∧ ((j : Int) < z s 3 ∧ z (s + 8 + j) 0 = 1)) 10) a3]; exact h76)), Int.one_mul, psZ_C, psZ_5.1])
              | (rw [ind_f (fun q => h76 (by rw [p24]; exact (isSet_zero hmi).mpr q)), Int.zero_mul, Int.add_zero])
  exact L16 _ _ _ ⟨by omega, by omega, (psZ_0 z s).symm⟩ (Nat.le_refl _)

