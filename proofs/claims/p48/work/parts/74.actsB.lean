set_option maxHeartbeats 4000000 in
set_option maxRecDepth 100000 in
theorem a_601 {l : Launch} {D : va_G} {cA : Nat → ClassId} {r : Nat → Nat} {Γ : Cx} {z : Zt} {c x t k : Int} (hr : Inj r) (hG : Cok l D cA r (rmz 7 164) Γ cL_acts RL wsL_acts 18) (hR : Rt r (Qi D cA r (fun v z1 => v = 1 ∧ Rel z1 ∧ 1 ≤ rho z1 14)) (some .boolean) Γ) (hRl : Rel z) (ht : t = 0 ∨ t = 1) (hk : 0 ≤ k ∧ (k < rho z 14 ∨ rho z 14 = 0)) (hn2 : 2 ≤ rho z 14) : V Γ z 0 0 [(0, .ref (r 0)), (1, .ref (r 169)), (2, .ref (r 170)), (3, .ref (r 171)), (4, .int (iN c)), (5, .int (iN x)), (6, .int (iN t)), (7, .int (iN k))] 601 [] := by
  obtain ⟨hB, hP, hA, hbd⟩ := id hRl
  have hM := RB_MI hB
  obtain ⟨hG1, h14, hFe, h55, h56, h57⟩ := id hM
  obtain ⟨hS, hT, ⟨n1, n2, n3, n4, n5, n6⟩, hFf⟩ := id hB
  obtain ⟨c1, c2, c3, c4⟩ := id hbd
  refine v_iconst hG dL_acts_601 ?_
  refine v_iload hG dL_acts_602 5 rfl ?_
  refine v_iload hG dL_acts_604 5 rfl ?_
  refine v_bipush hG dL_acts_606 (by decide) ?_
  refine v_ishr0 hG dL_acts_608 ?_
  refine v_eqi hG (y := iN (shr x 9)) (iN_of _).symm ?_
  refine v_iconst hG dL_acts_609 ?_
  refine v_callSi (n := 2) hG (c_L_low hr (by omega)) gL_acts_L_low rfl (by decide +kernel) rfl (by decide) dL_acts_610 rfl (Nat.le_of_ble_eq_true rfl) (by decide) ?_
  intro v610 z610 hp610
  obtain ⟨rfl, rfl, ha610, hb610⟩ := hp610
  have L624 : ∀ (W : Int), (W = 400 ∨ W = 60) → V Γ z 0 0 [(0, .ref (r 0)), (1, .ref (r 169)), (2, .ref (r 170)), (3, .ref (r 171)), (4, .int (iN c)), (5, .int (iN x)), (6, .int (iN t)), (7, .int (iN k))] 624 [.int (iN W), .int (iN x), .int (iN 1)] := by
    intro W hW
    refine v_callSi (n := 2) hG (c_L_low hr (by omega)) gL_acts_L_low rfl (by decide +kernel) rfl (by decide) dL_acts_624 rfl (Nat.le_of_ble_eq_true rfl) (by decide) ?_
    intro v624 z624 hp624
    obtain ⟨rfl, rfl, ha624, hb624⟩ := hp624
    refine v_iadd hG dL_acts_627 ?_
    obtain ⟨D, hD⟩ : ∃ D, D = 1 + lo x W := ⟨_, rfl⟩
    rw [← hD]
    have hD9 : 1 ≤ D ∧ D ≤ 400 := by omega
    refine v_istore hG [(0, _), (1, _), (2, _), (3, _), (4, _), (5, _), (6, _), (7, _), (14, _)] dL_acts_628 (by decide) rfl ?_
    refine v_aload_n hG dL_acts_630 3 rfl ?_
    refine v_iconst hG dL_acts_631 ?_
    refine v_iald hG k_171 (by decide) (cl_108 _ _ _ _) (by decide) (by omega) dL_acts_632 ?_
    rw [rho_57 z]
    refine v_iload hG dL_acts_633 8 rfl ?_
    refine v_iadd hG dL_acts_635 ?_
    refine v_sipush hG dL_acts_636 (by decide) ?_
    refine v_icmp_le hG 658 (by omega) (by omega) dL_acts_639 (by decide) (fun h639 => ?_) (fun h639 => ?_)
    · refine v_aload_n hG dL_acts_658 3 rfl ?_
      refine v_iconst hG dL_acts_659 ?_
      refine v_iald hG k_171 (by decide) (cl_108 _ _ _ _) (by decide) (by omega) dL_acts_660 ?_
      rw [rho_60 z]
      refine v_istore hG [(0, _), (1, _), (2, _), (3, _), (4, _), (5, _), (6, _), (7, _), (14, _), (15, _)] dL_acts_661 (by decide) rfl ?_
      refine v_iconst hG dL_acts_663 ?_
      refine v_istore hG [(0, _), (1, _), (2, _), (3, _), (4, _), (5, _), (6, _), (7, _), (14, _), (15, _), (16, _)] dL_acts_664 (by decide) rfl ?_
      refine v_wz hG (pdZ z (0 : Int).toNat) (pdZ_0 z).symm ?_
      have L666 : ∀ (n : Nat), ∀ (y : Int), (0 ≤ y ∧ y ≤ D) → (D - y + 1).toNat ≤ n → V Γ (pdZ z y.toNat) 0 0 [(0, .ref (r 0)), (1, .ref (r 169)), (2, .ref (r 170)), (3, .ref (r 171)), (4, .int (iN c)), (5, .int (iN x)), (6, .int (iN t)), (7, .int (iN k)), (14, .int (iN D)), (15, .int (iN (rho z 60))), (16, .int (iN y))] 666 [] := by
        intro n
        induction n with
        | zero =>
          intro y hI hm
          obtain ⟨y0, y1⟩ := hI
          exact absurd hm (by omega)
        | succ n ih666 =>
          intro y hI hm
          obtain ⟨y0, y1⟩ := hI
          have ey : ((y.toNat : Nat) : Int) = y := by omega
          have hMe := SMe.pd z y.toNat
          have hpb := psR_bd hM hbd y.toNat
          have p57 := psR_57 (rho z) y.toNat
          obtain ⟨b1, b2, b3, b4⟩ := hpb
          have hMp := hMe.MI hM (by rw [ pdZ_171, if_pos rfl, psR_57]; omega)
          have hA0 := cntA_bd hM y.toNat 0
          have hA1 := cntA_bd hM y.toNat 1
          refine v_iload hG dL_acts_666 10 rfl ?_
          refine v_iload hG dL_acts_668 8 rfl ?_
          refine v_icmp_ge hG 773 (by omega) (by omega) dL_acts_670 (by decide) (fun h670 => ?_) (fun h670 => ?_)
          · refine v_aload_n hG dL_acts_773 0 rfl ?_
            refine v_iload hG dL_acts_774 8 rfl ?_
            refine v_callVi (n := 1) (ci := 4) hG (c_X4_passDays hr k_0 ((pdZ_ag z y.toNat).RB hB).1 ((pdZ_ag z y.toNat).PI hP) ((pdZ_ag z y.toNat).AI hA) (by omega) (by rw [(pdZ_ag z y.toNat) 1 (by decide)]; omega)) gL_acts_X4_passDays rfl (by decide +kernel) rfl (by decide) k_0 (by decide) (cl_1 _ _ _ _) rfl dL_acts_776 rfl (Nat.le_of_ble_eq_true rfl) (by decide) ?_
            intro v776 z776 hp776
            obtain ⟨hz776, hb776, hc776, hv776⟩ := hp776
            have hp9 := Rel_pass hRl (show pdZ z y.toNat = pdZ z D.toNat by rw [show y = D by omega]) hD9 (by omega) hz776
            have e776 : v776 = psR (rho z) y.toNat 60 - rho z 60 := by
              have h9 : psR (rho z) y.toNat 60 = rho z 60 + qwM (rho z) y.toNat := by simp [psR]
              rw [hv776, RB_qw ((pdZ_ag z y.toNat).RB hB), h9, show y = D by omega]
              omega
            refine v_aload_n hG dL_acts_779 3 rfl ?_
            refine v_iconst hG dL_acts_780 ?_
            refine v_iald hG k_171 (by decide) (cl_108 _ _ _ _) (by decide) (by omega) dL_acts_781 ?_
            rw [hp9.2, rho_60 (pdZ z y.toNat), pdZ_rho]
            refine v_iload hG dL_acts_782 9 rfl ?_
            refine v_isub hG dL_acts_784 ?_
            refine v_icmp_ne hG 792 (by omega) (by omega) dL_acts_785 (by decide) (fun h785 => ?_) (fun h785 => ?_)
            · exact absurd e776 h785
            · refine v_iconst hG dL_acts_788 ?_
              refine v_goto hG 793 dL_acts_789 (by decide) ?_
              exact v_zret hG hR (by first | exact Or.inl rfl | exact Or.inr rfl | omega) dL_acts_793 ⟨rfl, hp9.1.1, by rw [hp9.1.2]; omega⟩
          · refine v_aload_n hG dL_acts_673 1 rfl ?_
            refine v_aload_n hG dL_acts_674 2 rfl ?_
            refine v_aload_n hG dL_acts_675 3 rfl ?_
            refine v_aload_n hG dL_acts_676 3 rfl ?_
            refine v_iconst hG dL_acts_677 ?_
            refine v_iald hG k_171 (by decide) (cl_108 _ _ _ _) (by decide) (by omega) dL_acts_678 ?_
            rw [rho_57 (pdZ z y.toNat), pdZ_rho, psR_57]
            refine v_callSi (n := 4) hG (c_L_feasts hr hMp (by omega)) gL_acts_L_feasts rfl (by decide +kernel) rfl (by decide) dL_acts_679 rfl (Nat.le_of_ble_eq_true rfl) (by decide) ?_
            intro v679 z679 hp679
            obtain ⟨rfl, hx679⟩ := hp679
            have hs := set_pd hMe hM hx679
            have hsb := isSet_bd hs
            refine v_istore hG [(0, _), (1, _), (2, _), (3, _), (4, _), (5, _), (6, _), (7, _), (14, _), (15, _), (16, _), (17, _)] dL_acts_682 (by decide) rfl ?_
            refine v_aload_n hG dL_acts_684 3 rfl ?_
            refine v_iconst hG dL_acts_685 ?_
            refine v_dup2 hG dL_acts_686 rfl rfl ?_
            refine v_iald hG k_171 (by decide) (cl_108 _ _ _ _) (by decide) (by omega) dL_acts_687 ?_
            rw [rho_58 (pdZ z y.toNat), pdZ_rho]
            refine v_aload_n hG dL_acts_688 2 rfl ?_
            refine v_iload hG dL_acts_689 11 rfl ?_
            refine v_iconst hG dL_acts_691 ?_
            refine v_callSi (n := 3) hG (c_L_of hr hMp hs (fun j hj => by rw [hMe.ag 14 (by decide)]; exact hj.1) (by omega)) gL_acts_L_of rfl (by decide +kernel) rfl (by decide) dL_acts_692 rfl (Nat.le_of_ble_eq_true rfl) (by decide) ?_
            intro v692 z692 hp692
            obtain ⟨rfl, rfl⟩ := hp692
            refine v_eqi hG (y := iN (cntA z y.toNat 0)) (congrArg iN (cnt10 hMe hM)) ?_
            refine v_iadd hG dL_acts_695 ?_
            refine v_iast hG k_171 (by decide) (cl_108 _ _ _) (by decide) (by omega) dL_acts_696 ?_
            refine v_wz hG (zup (pdZ z y.toNat) 171 3 (psR (rho z) y.toNat 58 + cntA z y.toNat 0)) rfl ?_
            have hM1 : SMe z (zup (pdZ z y.toNat) 171 3 (psR (rho z) y.toNat 58 + cntA z y.toNat 0)) := hMe.up (by decide)
            have hMp1 := hM1.MI hM (by rw [zup_r, if_neg (by decide),  pdZ_171, if_pos rfl, psR_57]; omega)
            refine v_aload_n hG dL_acts_697 3 rfl ?_
            refine v_iconst hG dL_acts_698 ?_
            refine v_dup2 hG dL_acts_699 rfl rfl ?_
            refine v_iald hG k_171 (by decide) (cl_108 _ _ _ _) (by decide) (by omega) dL_acts_700 ?_
            rw [zup_r, if_neg (by decide), rho_59 (pdZ z y.toNat), pdZ_rho]
            refine v_aload_n hG dL_acts_701 2 rfl ?_
            refine v_iload hG dL_acts_702 11 rfl ?_
            refine v_iconst hG dL_acts_704 ?_
            refine v_callSi (n := 3) hG (c_L_of hr hMp1 hs (fun j hj => by rw [hM1.ag 14 (by decide)]; exact hj.1) (by omega)) gL_acts_L_of rfl (by decide +kernel) rfl (by decide) dL_acts_705 rfl (Nat.le_of_ble_eq_true rfl) (by decide) ?_
            intro v705 z705 hp705
            obtain ⟨rfl, rfl⟩ := hp705
            refine v_eqi hG (y := iN (cntA z y.toNat 1)) (congrArg iN (cnt10 hM1 hM)) ?_
            refine v_iadd hG dL_acts_708 ?_
            refine v_iast hG k_171 (by decide) (cl_108 _ _ _) (by decide) (by omega) dL_acts_709 ?_
            refine v_wz hG (zup (zup (pdZ z y.toNat) 171 3 (psR (rho z) y.toNat 58 + cntA z y.toNat 0)) 171 4 (psR (rho z) y.toNat 59 + cntA z y.toNat 1)) rfl ?_
            have hM2 : SMe z (zup (zup (pdZ z y.toNat) 171 3 (psR (rho z) y.toNat 58 + cntA z y.toNat 0)) 171 4 (psR (rho z) y.toNat 59 + cntA z y.toNat 1)) := hM1.up (by decide)
            have hMp2 := hM2.MI hM (by rw [zup_r, if_neg (by decide), zup_r, if_neg (by decide),  pdZ_171, if_pos rfl, psR_57]; omega)
            refine v_aload_n hG dL_acts_710 3 rfl ?_
            refine v_iconst hG dL_acts_711 ?_
            refine v_dup2 hG dL_acts_712 rfl rfl ?_
            have L739 : ∀ (e9 : Int), e9 = (if 0 < cntA z y.toNat 0 ∧ 0 < cntA z y.toNat 1 then 1 else 0) → V Γ (zup (zup (pdZ z y.toNat) 171 3 (psR (rho z) y.toNat 58 + cntA z y.toNat 0)) 171 4 (psR (rho z) y.toNat 59 + cntA z y.toNat 1)) 0 0 [(0, .ref (r 0)), (1, .ref (r 169)), (2, .ref (r 170)), (3, .ref (r 171)), (4, .int (iN c)), (5, .int (iN x)), (6, .int (iN t)), (7, .int (iN k)), (14, .int (iN D)), (15, .int (iN (rho z 60))), (16, .int (iN y)), (17, .int (iN v679))] 739 [.int (iN e9), .int (iN (psR (rho z) y.toNat 60)), .int (iN 5), .ref (r 171)] := by
              intro e9 hE9
              refine v_iadd hG dL_acts_739 ?_
              refine v_iast hG k_171 (by decide) (cl_108 _ _ _) (by decide) (by omega) dL_acts_740 ?_
              refine v_wz hG (zup (zup (zup (pdZ z y.toNat) 171 3 (psR (rho z) y.toNat 58 + cntA z y.toNat 0)) 171 4 (psR (rho z) y.toNat 59 + cntA z y.toNat 1)) 171 5 (psR (rho z) y.toNat 60 + e9)) rfl ?_
              have hM3 : SMe z (zup (zup (zup (pdZ z y.toNat) 171 3 (psR (rho z) y.toNat 58 + cntA z y.toNat 0)) 171 4 (psR (rho z) y.toNat 59 + cntA z y.toNat 1)) 171 5 (psR (rho z) y.toNat 60 + e9)) := hM2.up (by decide)
              refine v_aload_n hG dL_acts_741 3 rfl ?_
              refine v_bipush hG dL_acts_742 (by decide) ?_
              refine v_dup2 hG dL_acts_744 rfl rfl ?_
              have L758 : ∀ (e8 : Int), e8 = (if v679 = 0 then rho z 56 else 0) → V Γ (zup (zup (zup (pdZ z y.toNat) 171 3 (psR (rho z) y.toNat 58 + cntA z y.toNat 0)) 171 4 (psR (rho z) y.toNat 59 + cntA z y.toNat 1)) 171 5 (psR (rho z) y.toNat 60 + e9)) 0 0 [(0, .ref (r 0)), (1, .ref (r 169)), (2, .ref (r 170)), (3, .ref (r 171)), (4, .int (iN c)), (5, .int (iN x)), (6, .int (iN t)), (7, .int (iN k)), (14, .int (iN D)), (15, .int (iN (rho z 60))), (16, .int (iN y)), (17, .int (iN v679))] 758 [.int (iN e8), .int (iN (psR (rho z) y.toNat 61)), .int (iN 6), .ref (r 171)] := by
                intro e8 hE8
                refine v_iadd hG dL_acts_758 ?_
                refine v_iast hG k_171 (by decide) (cl_108 _ _ _) (by decide) (by omega) dL_acts_759 ?_
                refine v_wz hG (zup (zup (zup (zup (pdZ z y.toNat) 171 3 (psR (rho z) y.toNat 58 + cntA z y.toNat 0)) 171 4 (psR (rho z) y.toNat 59 + cntA z y.toNat 1)) 171 5 (psR (rho z) y.toNat 60 + e9)) 171 6 (psR (rho z) y.toNat 61 + e8)) rfl ?_
                refine v_aload_n hG dL_acts_760 3 rfl ?_
                refine v_iconst hG dL_acts_761 ?_
                refine v_dup2 hG dL_acts_762 rfl rfl ?_
                refine v_iald hG k_171 (by decide) (cl_108 _ _ _ _) (by decide) (by omega) dL_acts_763 ?_
                rw [zup_r, if_neg (by decide), zup_r, if_neg (by decide), zup_r, if_neg (by decide), zup_r, if_neg (by decide), rho_57 (pdZ z y.toNat), pdZ_rho]
                refine v_iconst hG dL_acts_764 ?_
                refine v_iadd hG dL_acts_765 ?_
                refine v_iast hG k_171 (by decide) (cl_108 _ _ _) (by decide) (by omega) dL_acts_766 ?_
                refine v_wz hG (pdZ z (y + 1).toNat) (by rw [show (y + 1).toNat = y.toNat + 1 by omega]; exact pdZ_s hs hE9 hE8) ?_
                refine v_iinc hG [(0, _), (1, _), (2, _), (3, _), (4, _), (5, _), (6, _), (7, _), (14, _), (15, _), (16, _), (17, _)] dL_acts_767 10 rfl (by decide) rfl ?_
                refine v_goto hG 666 dL_acts_770 (by decide) ?_
                refine v_sub hG [(0, _), (1, _), (2, _), (3, _), (4, _), (5, _), (6, _), (7, _), (14, _), (15, _), (16, _)] [0, 1, 2, 3, 4, 5, 6, 7, 8, 9, 10] rfl ?_
                exact ih666 _ ⟨by omega, by omega⟩ (by omega)
              refine v_iald hG k_171 (by decide) (cl_108 _ _ _ _) (by decide) (by omega) dL_acts_745 ?_
              rw [zup_r, if_neg (by decide), zup_r, if_neg (by decide), zup_r, if_neg (by decide), rho_61 (pdZ z y.toNat), pdZ_rho]
              refine v_iload hG dL_acts_746 11 rfl ?_
              refine v_if_ne hG 757 (by omega) dL_acts_748 (by decide) (fun h748 => ?_) (fun h748 => ?_)
              · refine v_iconst hG dL_acts_757 ?_
                exact L758 _ (by first | (rw [if_pos (by omega)]) | (rw [if_neg (by omega)]))
              · refine v_aload_n hG dL_acts_751 3 rfl ?_
                refine v_iconst hG dL_acts_752 ?_
                refine v_iald hG k_171 (by decide) (cl_108 _ _ _ _) (by decide) (by omega) dL_acts_753 ?_
                rw [show (zup (zup (zup (pdZ z y.toNat) 171 3 (psR (rho z) y.toNat 58 + cntA z y.toNat 0)) 171 4 (psR (rho z) y.toNat 59 + cntA z y.toNat 1)) 171 5 (psR (rho z) y.toNat 60 + e9)) 171 (1 : Int).toNat = rho z 56 from hM3.2.2.2.2.trans (rho_56 z)]
                refine v_goto hG 758 dL_acts_754 (by decide) ?_
                exact L758 _ (by first | (rw [if_pos (by omega)]) | (rw [if_neg (by omega)]))
            refine v_iald hG k_171 (by decide) (cl_108 _ _ _ _) (by decide) (by omega) dL_acts_713 ?_
            rw [zup_r, if_neg (by decide), zup_r, if_neg (by decide), rho_60 (pdZ z y.toNat), pdZ_rho]
            refine v_aload_n hG dL_acts_714 2 rfl ?_
            refine v_iload hG dL_acts_715 11 rfl ?_
            refine v_iconst hG dL_acts_717 ?_
            refine v_callSi (n := 3) hG (c_L_of hr hMp2 hs (fun j hj => by rw [hM2.ag 14 (by decide)]; exact hj.1) (by omega)) gL_acts_L_of rfl (by decide +kernel) rfl (by decide) dL_acts_718 rfl (Nat.le_of_ble_eq_true rfl) (by decide) ?_
            intro v718 z718 hp718
            obtain ⟨rfl, rfl⟩ := hp718
            refine v_eqi hG (y := iN (cntA z y.toNat 0)) (congrArg iN (cnt10 hM2 hM)) ?_
            refine v_if_le hG 738 (by omega) dL_acts_721 (by decide) (fun h721 => ?_) (fun h721 => ?_)
            · refine v_iconst hG dL_acts_738 ?_
              exact L739 _ (by first | (rw [if_pos (by omega)]) | (rw [if_neg (by omega)]))
            · refine v_aload_n hG dL_acts_724 2 rfl ?_
              refine v_iload hG dL_acts_725 11 rfl ?_
              refine v_iconst hG dL_acts_727 ?_
              refine v_callSi (n := 3) hG (c_L_of hr hMp2 hs (fun j hj => by rw [hM2.ag 14 (by decide)]; exact hj.1) (by omega)) gL_acts_L_of rfl (by decide +kernel) rfl (by decide) dL_acts_728 rfl (Nat.le_of_ble_eq_true rfl) (by decide) ?_
              intro v728 z728 hp728
              obtain ⟨rfl, rfl⟩ := hp728
              refine v_eqi hG (y := iN (cntA z y.toNat 1)) (congrArg iN (cnt10 hM2 hM)) ?_
              refine v_if_le hG 738 (by omega) dL_acts_731 (by decide) (fun h731 => ?_) (fun h731 => ?_)
              · refine v_iconst hG dL_acts_738 ?_
                exact L739 _ (by first | (rw [if_pos (by omega)]) | (rw [if_neg (by omega)]))
              · refine v_iconst hG dL_acts_734 ?_
                refine v_goto hG 739 dL_acts_735 (by decide) ?_
                exact L739 _ (by first | (rw [if_pos (by omega)]) | (rw [if_neg (by omega)]))
      exact L666 _ _ ⟨by omega, by omega⟩ (Nat.le_refl _)
    · refine v_aload_n hG dL_acts_642 0 rfl ?_
      refine v_callVi (n := 0) (ci := 4) hG (c_X4_today hr k_0) gL_acts_X4_today rfl (by decide +kernel) rfl (by decide) k_0 (by decide) (cl_1 _ _ _ _) rfl dL_acts_643 rfl (Nat.le_of_ble_eq_true rfl) (by decide) ?_
      intro v643 z643 hp643
      obtain ⟨rfl, rfl⟩ := hp643
      refine v_aload_n hG dL_acts_646 3 rfl ?_
      refine v_iconst hG dL_acts_647 ?_
      refine v_iald hG k_171 (by decide) (cl_108 _ _ _ _) (by decide) (by omega) dL_acts_648 ?_
      rw [rho_57 z]
      refine v_icmp_ne hG 656 (by omega) (by omega) dL_acts_649 (by decide) (fun h649 => ?_) (fun h649 => ?_)
      · exfalso; omega
      · refine v_iconst hG dL_acts_652 ?_
        refine v_goto hG 657 dL_acts_653 (by decide) ?_
        exact v_zret hG hR (by first | exact Or.inl rfl | exact Or.inr rfl | omega) dL_acts_657 ⟨rfl, hRl, by omega⟩
  refine v_if_ne hG 622 (by omega) dL_acts_613 (by decide) (fun h613 => ?_) (fun h613 => ?_)
  · refine v_bipush hG dL_acts_622 (by decide) ?_
    exact L624 _ (by omega)
  · refine v_sipush hG dL_acts_616 (by decide) ?_
    refine v_goto hG 624 dL_acts_619 (by decide) ?_
    exact L624 _ (by omega)

set_option maxHeartbeats 4000000 in
set_option maxRecDepth 100000 in
theorem c_L_acts {l : Launch} {D : va_G} {cA : Nat → ClassId} {r : Nat → Nat} {z : Zt} {c x : Int} (hr : Inj r) (hRl : Rel z) (hc : 0 ≤ c ∧ c ≤ 15) : Ki l D cA r yL_acts wsL_acts 7 164 z [.ref (r 0), .ref (r 169), .ref (r 170), .ref (r 171), .int (iN c), .int (iN x)] (fun v z1 => v = 1 ∧ Rel z1 ∧ 1 ≤ rho z1 14) := by
  obtain ⟨hB, hP, hA, hbd⟩ := id hRl
  have hM := RB_MI hB
  obtain ⟨hG1, h14, hFe, h55, h56, h57⟩ := id hM
  obtain ⟨hS, hT, ⟨n1, n2, n3, n4, n5, n6⟩, hFf⟩ := id hB
  obtain ⟨c1, c2, c3, c4⟩ := id hbd
  refine Ki_of [(0, _), (1, _), (2, _), (3, _), (4, _), (5, _)] hr (by decide) rfl rfl (Nat.le_of_ble_eq_true rfl) rfl (fun Γ hG hR => ?_)
  refine v_iload hG dL_acts_0 5 rfl ?_
  refine v_iconst hG dL_acts_2 ?_
  refine v_callSi (n := 2) hG (c_L_low hr (by omega)) gL_acts_L_low rfl (by decide +kernel) rfl (by decide) dL_acts_3 rfl (Nat.le_of_ble_eq_true rfl) (by decide) ?_
  intro v3 z3 hp3
  obtain ⟨rfl, rfl, ha3, hb3⟩ := hp3
  refine v_istore hG [(0, _), (1, _), (2, _), (3, _), (4, _), (5, _), (6, _)] dL_acts_6 (by decide) rfl ?_
  refine v_aload_n hG dL_acts_8 3 rfl ?_
  refine v_bipush hG dL_acts_9 (by decide) ?_
  refine v_iald hG k_171 (by decide) (cl_108 _ _ _ _) (by decide) (by omega) dL_acts_11 ?_
  rw [rho_14 z]
  have L30 : ∀ (k : Int), (0 ≤ k ∧ (k < rho z 14 ∨ rho z 14 = 0)) → V Γ z 0 0 [(0, .ref (r 0)), (1, .ref (r 169)), (2, .ref (r 170)), (3, .ref (r 171)), (4, .int (iN c)), (5, .int (iN x)), (6, .int (iN (lo x 2)))] 30 [.int (iN k)] := by
    intro k hI
    obtain ⟨k0, k1⟩ := hI
    refine v_istore hG [(0, _), (1, _), (2, _), (3, _), (4, _), (5, _), (6, _), (7, _)] dL_acts_30 (by decide) rfl ?_
    have L46 : ∀ (K : Int), (0 ≤ K ∧ K ≤ 15 ∧ (K = 0 ∨ 2 ≤ rho z 14)) → V Γ z 0 0 [(0, .ref (r 0)), (1, .ref (r 169)), (2, .ref (r 170)), (3, .ref (r 171)), (4, .int (iN c)), (5, .int (iN x)), (6, .int (iN (lo x 2))), (7, .int (iN k))] 46 [.int (iN K)] := by
      intro K hI
      obtain ⟨K0, K1, K2⟩ := hI
      refine v_tab (M := 10) hG (by omega) (by decide) dL_acts_46 (fun k : Nat => ([104, 104, 104, 281, 281, 448, 448, 448, 484, 533, 568] : List Nat).getD k 0) 601 (by decide +kernel) (by decide) (fun k9 hk9 ek9 => ?_) (fun ek9 => ?_)
      · rcases (show k9 = 0 ∨ k9 = 1 ∨ k9 = 2 ∨ k9 = 3 ∨ k9 = 4 ∨ k9 = 5 ∨ k9 = 6 ∨ k9 = 7 ∨ k9 = 8 ∨ k9 = 9 ∨ k9 = 10 by omega) with rfl | rfl | rfl | rfl | rfl | rfl | rfl | rfl | rfl | rfl | rfl
        · exact a_104 hr hG hR hRl (by omega) ⟨k0, by omega⟩
        · exact a_104 hr hG hR hRl (by omega) ⟨k0, by omega⟩
        · exact a_104 hr hG hR hRl (by omega) ⟨k0, by omega⟩
        · exact a_281 hr hG hR hRl (by omega) ⟨k0, by omega⟩ (by omega)
        · exact a_281 hr hG hR hRl (by omega) ⟨k0, by omega⟩ (by omega)
        · exact a_448 hr hG hR hRl (by omega) ⟨k0, by omega⟩ (by omega)
        · exact a_448 hr hG hR hRl (by omega) ⟨k0, by omega⟩ (by omega)
        · exact a_448 hr hG hR hRl (by omega) ⟨k0, by omega⟩ (by omega)
        · exact a_484 hr hG hR hRl (by omega) ⟨k0, by omega⟩ (by omega)
        · exact a_533 hr hG hR hRl (by omega) ⟨k0, by omega⟩ (by omega)
        · exact a_568 hr hG hR hRl (by omega) ⟨k0, by omega⟩ (by omega)
      · exact a_601 hr hG hR hRl (by omega) ⟨k0, by omega⟩ (by omega)
    refine v_aload_n hG dL_acts_32 3 rfl ?_
    refine v_bipush hG dL_acts_33 (by decide) ?_
    refine v_iald hG k_171 (by decide) (cl_108 _ _ _ _) (by decide) (by omega) dL_acts_35 ?_
    rw [rho_14 z]
    refine v_iconst hG dL_acts_36 ?_
    refine v_icmp_ge hG 44 (by omega) (by omega) dL_acts_37 (by decide) (fun h37 => ?_) (fun h37 => ?_)
    · refine v_iload hG dL_acts_44 4 rfl ?_
      exact L46 _ ⟨by omega, by omega, by omega⟩
    · refine v_iconst hG dL_acts_40 ?_
      refine v_goto hG 46 dL_acts_41 (by decide) ?_
      exact L46 _ ⟨by omega, by omega, by omega⟩
  refine v_if_ne hG 19 (by omega) dL_acts_12 (by decide) (fun h12 => ?_) (fun h12 => ?_)
  · refine v_iload hG dL_acts_19 5 rfl ?_
    refine v_iconst hG dL_acts_21 ?_
    refine v_ishr0 hG dL_acts_22 ?_
    refine v_eqi hG (y := iN (shr x 1)) (iN_of _).symm ?_
    refine v_aload_n hG dL_acts_23 3 rfl ?_
    refine v_bipush hG dL_acts_24 (by decide) ?_
    refine v_iald hG k_171 (by decide) (cl_108 _ _ _ _) (by decide) (by omega) dL_acts_26 ?_
    rw [rho_14 z]
    refine v_callSi (n := 2) hG (c_L_low hr (by omega)) gL_acts_L_low rfl (by decide +kernel) rfl (by decide) dL_acts_27 rfl (Nat.le_of_ble_eq_true rfl) (by decide) ?_
    intro v27 z27 hp27
    obtain ⟨rfl, rfl, ha27, hb27⟩ := hp27
    exact L30 _ ⟨by omega, by omega⟩
  · refine v_iconst hG dL_acts_15 ?_
    refine v_goto hG 30 dL_acts_16 (by decide) ?_
    exact L30 _ ⟨by omega, by omega⟩
