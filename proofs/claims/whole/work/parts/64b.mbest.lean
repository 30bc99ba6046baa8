def updR (ρ : Nat → Int) (k : Nat) (x : Int) : Nat → Int := fun j => if j = k then x else ρ j
noncomputable def qwM (ρ : Nat → Int) (n : Nat) : Int := cntP (fun i => quM ρ (ρ 57 + i)) n
theorem barM_row {w : Zt} {k : Nat} {b c : Int} : zup (zup w 170 k b) 170 k c 170 = updR (w 170) k c := by
  rw [zup_zup]
  funext j
  simp [zup, updR]
theorem barR_MI {ρ : Nat → Int} {f b : Int} (hM : MI ρ) (hf : 0 ≤ f ∧ f < ρ 14) (hb : -1 ≤ b ∧ b ≤ 6) : MI (updR ρ (15 + 4 * f + 3).toNat b) := by
  obtain ⟨a1, a2, a3, a4, a5, a6⟩ := hM
  have o : ∀ p : Nat, p ≠ (15 + 4 * f + 3).toNat → updR ρ (15 + 4 * f + 3).toNat b p = ρ p := fun p hp => by simp [updR, hp]
  refine ⟨fun t ht => ?_, by rw [o _ (by omega)]; exact a2, fun g g1 g2 => ?_, by rw [o _ (by omega)]; exact a4, by rw [o _ (by omega)]; exact a5, by rw [o _ (by omega)]; exact a6⟩
  · have hg := a1 t ht
    obtain ⟨g1, g2, g3, g4⟩ := hg
    have en : mN (updR ρ (15 + 4 * f + 3).toNat b) t = mN ρ t := by
      unfold mN
      exact o _ (by omega)
    have eD : ∀ k : Nat, k < 3 → mD (updR ρ (15 + 4 * f + 3).toNat b) t k = mD ρ t k ∧ mL (updR ρ (15 + 4 * f + 3).toNat b) t k = mL ρ t k := fun k hk => by
      unfold mD mL
      exact ⟨o _ (by omega), o _ (by omega)⟩
    unfold GI
    rw [en]
    refine ⟨g1, g2, fun k hk => ?_, fun k hk => ?_⟩
    · rw [(eD k (by omega)).1, (eD k (by omega)).2]
      exact g3 k hk
    · rw [(eD k (by omega)).1, (eD (k + 1) (by omega)).1]
      exact g4 k hk
  · rw [o _ (by omega)] at g2
    have h9 := a3 g g1 g2
    unfold MF at h9 ⊢
    have e0 : ∀ x : Int, 0 ≤ x → x ≤ 2 → mF (updR ρ (15 + 4 * f + 3).toNat b) g x = mF ρ g x := fun x x1 x2 => by
      unfold mF
      exact o _ (by omega)
    rw [e0 0 (by decide) (by decide), e0 1 (by decide) (by decide), e0 2 (by decide) (by decide)]
    by_cases q : g = f
    · have e3 : mF (updR ρ (15 + 4 * f + 3).toNat b) g 3 = b := by
        unfold mF
        rw [q]
        simp [updR]
      rw [e3]
      omega
    · have e3 : mF (updR ρ (15 + 4 * f + 3).toNat b) g 3 = mF ρ g 3 := by
        unfold mF
        exact o _ (by omega)
      rw [e3]
      exact h9
theorem barM_MI {w : Zt} {f b c : Int} (hM : MI (w 170)) (hf : 0 ≤ f ∧ f < w 170 14) (hb : -1 ≤ b ∧ b ≤ 6) : MI (zup (zup w 170 (15 + 4 * f + 3).toNat c) 170 (15 + 4 * f + 3).toNat b 170) := by
  rw [barM_row]
  exact barR_MI hM hf hb
set_option maxHeartbeats 4000000 in
set_option maxRecDepth 100000 in
theorem c_X5_bestBarredWeekday {l : Launch} {D : va_G} {cA : Nat → ClassId} {r : Nat → Nat} {z : Zt} {w : Zt} {f : Int} (hr : Inj r) (k9a : kd 169 = 6) (hw : w = zup z 169 5 0) (hM : MI (w 170)) (hr_f : -2147483648 ≤ f ∧ f < 2147483648) : Ki l D cA r yX5_bestBarredWeekday wsX5_bestBarredWeekday 9 208 z [.ref (r 169), .int (iN f)] (fun v z1 => (w = z1 ∧ (0 ≤ f ∧ f < w 170 14) ∧ v = (bwN (fun k : Nat => qwM (updR (w 170) (15 + 4 * f + 3).toNat (k : Int)) 400) 7).2) ∨ (zup w 169 5 1 = z1 ∧ ¬ (0 ≤ f ∧ f < w 170 14))) := by
  have iW5 : ∀ w ∈ u_ws RX5 TX5 10, w ∈ wsX5_bestBarredWeekday := by decide +kernel
  have f7 : Cond.fieldLink RX5 7 (TX5 0).1 (TX5 0).2.1 (TX5 0).2.2.1 ∈ wsX5_bestBarredWeekday := by decide +kernel
  have f29 : Cond.fieldLink RX5 29 (TX5 5).1 (TX5 5).2.1 (TX5 5).2.2.1 ∈ wsX5_bestBarredWeekday := by decide +kernel
  obtain ⟨hG1, h14, hFe, h55, h56, h57⟩ := id hM
  refine Ki_of [(0, _), (1, _)] hr (by decide) rfl rfl (Nat.le_of_ble_eq_true rfl) rfl (fun Γ hG hR => ?_)
  refine v_aload_n hG dX5_bestBarredWeekday_0 0 rfl ?_
  refine v_iconst hG dX5_bestBarredWeekday_1 ?_
  refine v_putf (ci := 5) (k := 5) hG iW5 tyX5_ok nmX5 f29 rfl (by decide) rfl rfl k9a (by decide) (cl_6 _ _ _ _) (Nat.le_of_ble_eq_true rfl) rfl dX5_bestBarredWeekday_2 ?_
  rw [← hw]
  refine v_aload_n hG dX5_bestBarredWeekday_5 0 rfl ?_
  refine v_iload_n hG dX5_bestBarredWeekday_6 1 rfl ?_
  refine v_callVi (n := 1) (ci := 5) hG (c_X5_isFeast hr k9a (by omega) (by omega)) gX5_bestBarredWeekday_X5_isFeast rfl (by decide +kernel) rfl (by decide) k9a (by decide) (cl_6 _ _ _ _) rfl dX5_bestBarredWeekday_7 rfl (Nat.le_of_ble_eq_true rfl) (by decide) ?_
  intro v7 z7 hp7
  obtain ⟨rfl, hv7⟩ := hp7
  have hb7 := ind_v hv7
  refine v_if_ne hG 19 (by omega) dX5_bestBarredWeekday_10 (by decide) (fun h10 => ?_) (fun h10 => ?_)
  · have hFq : 0 ≤ f ∧ f < w 170 14 := by omega
    obtain ⟨Q, hQ⟩ : ∃ Q : Nat → Int, Q = (fun k : Nat => qwM (updR (w 170) (15 + 4 * f + 3).toNat (k : Int)) 400) := ⟨_, rfl⟩
    have hQb : ∀ k, 0 ≤ Q k ∧ Q k ≤ 400 := fun k => by
      rw [hQ]
      exact cntP_bd _ 400
    refine v_bipush hG dX5_bestBarredWeekday_19 (by decide) ?_
    refine v_iconst hG dX5_bestBarredWeekday_21 ?_
    refine v_iload_n hG dX5_bestBarredWeekday_22 1 rfl ?_
    refine v_imul hG dX5_bestBarredWeekday_23 ?_
    refine v_iadd hG dX5_bestBarredWeekday_24 ?_
    refine v_iconst hG dX5_bestBarredWeekday_25 ?_
    refine v_iadd hG dX5_bestBarredWeekday_26 ?_
    refine v_istore_n hG [(0, _), (1, _), (2, _)] dX5_bestBarredWeekday_27 (by decide) rfl ?_
    refine v_aload_n hG dX5_bestBarredWeekday_28 0 rfl ?_
    refine v_getf (ci := 5) (k := 0) hG iW5 f7 rfl (by decide) k9a (by decide) (cl_6 _ _ _ _) rfl dX5_bestBarredWeekday_29 ?_
    refine v_iload_n hG dX5_bestBarredWeekday_32 2 rfl ?_
    refine v_iald hG k_170 (by decide) (cl_162 _ _ _ _) (by decide) (by omega) dX5_bestBarredWeekday_33 ?_
    refine v_istore_n hG [(0, _), (1, _), (2, _), (3, _)] dX5_bestBarredWeekday_34 (by decide) rfl ?_
    refine v_iconst hG dX5_bestBarredWeekday_35 ?_
    refine v_istore hG [(0, _), (1, _), (2, _), (3, _), (4, _)] dX5_bestBarredWeekday_36 (by decide) rfl ?_
    refine v_iconst hG dX5_bestBarredWeekday_38 ?_
    refine v_istore hG [(0, _), (1, _), (2, _), (3, _), (4, _), (5, _)] dX5_bestBarredWeekday_39 (by decide) rfl ?_
    refine v_iconst hG dX5_bestBarredWeekday_41 ?_
    refine v_istore hG [(0, _), (1, _), (2, _), (3, _), (4, _), (5, _), (6, _)] dX5_bestBarredWeekday_42 (by decide) rfl ?_
    refine v_re hG (zup w 170 (15 + 4 * f + 3).toNat (w 170 (15 + 4 * f + 3).toNat)) (fun i j _ _ => by rw [zup_self]) ?_
    have L44 : ∀ (n : Nat), ∀ (x4 x5 x6 b : Int), (0 ≤ x6 ∧ x6 ≤ 7 ∧ (x6 = 0 ∨ (x5 = (bwN Q x6.toNat).1 ∧ x4 = (bwN Q x6.toNat).2)) ∧ (x6 = 0 → x5 = 0 ∧ x4 = 0)) → (7 - x6 + 1).toNat ≤ n → V Γ (zup w 170 (15 + 4 * f + 3).toNat b) 0 0 [(0, .ref (r 169)), (1, .int (iN f)), (2, .int (iN (15 + 4 * f + 3))), (3, .int (iN (w 170 (15 + 4 * f + 3).toNat))), (4, .int (iN x4)), (5, .int (iN x5)), (6, .int (iN x6))] 44 [] := by
      intro n
      induction n with
      | zero =>
        intro x4 x5 x6 b hI hm
        obtain ⟨i1, i2, i3v, i4⟩ := hI
        exact absurd hm (by omega)
      | succ n ih44 =>
        intro x4 x5 x6 b hI hm
        obtain ⟨i1, i2, i3v, i4⟩ := hI
        have hbd := bwN_bd hQb x6.toNat
        refine v_iload hG dX5_bestBarredWeekday_44 6 rfl ?_
        refine v_bipush hG dX5_bestBarredWeekday_46 (by decide) ?_
        refine v_icmp_ge hG 116 (by omega) (by omega) dX5_bestBarredWeekday_48 (by decide) (fun h48 => ?_) (fun h48 => ?_)
        · refine v_aload_n hG dX5_bestBarredWeekday_116 0 rfl ?_
          refine v_getf (ci := 5) (k := 0) hG iW5 f7 rfl (by decide) k9a (by decide) (cl_6 _ _ _ _) rfl dX5_bestBarredWeekday_117 ?_
          refine v_iload_n hG dX5_bestBarredWeekday_120 2 rfl ?_
          refine v_iload_n hG dX5_bestBarredWeekday_121 3 rfl ?_
          refine v_iast hG k_170 (by decide) (cl_162 _ _ _) (by decide) (by omega) dX5_bestBarredWeekday_122 ?_
          refine v_iload hG dX5_bestBarredWeekday_123 4 rfl ?_
          exact v_iret hG hR dX5_bestBarredWeekday_125 (by first
  | exact Or.inr ⟨rfl, by omega⟩
  | exact Or.inl ⟨by rw [zup_zup, zup_self], hFq, by rw [← hQ]; have e7 : x6.toNat = 7 := by omega
                                                     rw [e7] at i3v; omega⟩)
        · refine v_aload_n hG dX5_bestBarredWeekday_51 0 rfl ?_
          refine v_getf (ci := 5) (k := 0) hG iW5 f7 rfl (by decide) k9a (by decide) (cl_6 _ _ _ _) rfl dX5_bestBarredWeekday_52 ?_
          refine v_iload_n hG dX5_bestBarredWeekday_55 2 rfl ?_
          refine v_iload hG dX5_bestBarredWeekday_56 6 rfl ?_
          refine v_iast hG k_170 (by decide) (cl_162 _ _ _) (by decide) (by omega) dX5_bestBarredWeekday_58 ?_
          refine v_aload_n hG dX5_bestBarredWeekday_59 0 rfl ?_
          refine v_sipush hG dX5_bestBarredWeekday_60 (by decide) ?_
          refine v_callVi (n := 1) (ci := 5) hG (c_X5_quarrelsIn hr k9a (barM_MI hM hFq (b := x6) (by omega)) (by omega)) gX5_bestBarredWeekday_X5_quarrelsIn rfl (by decide +kernel) rfl (by decide) k9a (by decide) (cl_6 _ _ _ _) rfl dX5_bestBarredWeekday_63 rfl (Nat.le_of_ble_eq_true rfl) (by decide) ?_
          intro v63 z63 hp63
          obtain ⟨rfl, rfl⟩ := hp63
          have hv : cntP (fun i => quM (zup (zup w 170 (15 + 4 * f + 3).toNat b) 170 (15 + 4 * f + 3).toNat x6 170) (zup (zup w 170 (15 + 4 * f + 3).toNat b) 170 (15 + 4 * f + 3).toNat x6 170 57 + i)) (400 : Int).toNat = Q x6.toNat := by
            rw [zup_zup, hQ]
            have e6 : ((x6.toNat : Nat) : Int) = x6 := by omega
            show _ = qwM (updR (w 170) (15 + 4 * f + 3).toNat ((x6.toNat : Nat) : Int)) 400
            rw [e6]
            rfl
          rw [hv, zup_zup]
          have hqx := hQb x6.toNat
          refine v_istore hG [(0, _), (1, _), (2, _), (3, _), (4, _), (5, _), (6, _), (7, _)] dX5_bestBarredWeekday_66 (by decide) rfl ?_
          have L87 : ∀ (y : Int), y = (if x6 = 0 ∨ Q x6.toNat < x5 then x6 else x4) → V Γ (zup w 170 (15 + 4 * f + 3).toNat x6) 0 0 [(0, .ref (r 169)), (1, .int (iN f)), (2, .int (iN (15 + 4 * f + 3))), (3, .int (iN (w 170 (15 + 4 * f + 3).toNat))), (4, .int (iN x4)), (5, .int (iN x5)), (6, .int (iN x6)), (7, .int (iN (Q x6.toNat)))] 87 [.int (iN y)] := by
            intro y hI87
            refine v_istore hG [(0, _), (1, _), (2, _), (3, _), (4, _), (5, _), (6, _), (7, _)] dX5_bestBarredWeekday_87 (by decide) rfl ?_
            have L108 : ∀ (u : Int), u = (if x6 = 0 ∨ Q x6.toNat < x5 then Q x6.toNat else x5) → V Γ (zup w 170 (15 + 4 * f + 3).toNat x6) 0 0 [(0, .ref (r 169)), (1, .int (iN f)), (2, .int (iN (15 + 4 * f + 3))), (3, .int (iN (w 170 (15 + 4 * f + 3).toNat))), (4, .int (iN y)), (5, .int (iN x5)), (6, .int (iN x6)), (7, .int (iN (Q x6.toNat)))] 108 [.int (iN u)] := by
              intro u hI108
              have hy2 : (x6 = 0 ∨ Q x6.toNat < x5) → y = x6 ∧ u = Q x6.toNat := fun q9 => ⟨by rw [hI87, if_pos q9], by rw [hI108, if_pos q9]⟩
              have hy3 : ¬ (x6 = 0 ∨ Q x6.toNat < x5) → y = x4 ∧ u = x5 := fun q9 => ⟨by rw [hI87, if_neg q9], by rw [hI108, if_neg q9]⟩
              refine v_istore hG [(0, _), (1, _), (2, _), (3, _), (4, _), (5, _), (6, _), (7, _)] dX5_bestBarredWeekday_108 (by decide) rfl ?_
              refine v_iinc hG [(0, _), (1, _), (2, _), (3, _), (4, _), (5, _), (6, _), (7, _)] dX5_bestBarredWeekday_110 6 rfl (by decide) rfl ?_
              refine v_goto hG 44 dX5_bestBarredWeekday_113 (by decide) ?_
              refine v_sub hG [(0, _), (1, _), (2, _), (3, _), (4, _), (5, _), (6, _)] [0, 1, 2, 3, 4, 5, 6] rfl ?_
              refine ih44 _ _ _ x6 ?_ (by omega)
              have e9 : (x6 + 1).toNat = x6.toNat + 1 := by omega
              rw [e9]
              by_cases q9 : Q x6.toNat < (bwN Q x6.toNat).1
              · have h9 := bwN_t q9
                rw [h9.1, h9.2]
                refine ⟨by omega, by omega, Or.inr ?_, fun q8 => by omega⟩
                have e8 : ((x6.toNat : Nat) : Int) = x6 := by omega
                rw [e8]
                have hx0 : x6 = 0 → (bwN Q x6.toNat).1 = 401 := fun q7 => by rw [q7]; rfl
                omega
              · have h9 := bwN_f q9
                rw [h9]
                have hx0 : x6 = 0 → (bwN Q x6.toNat).1 = 401 := fun q7 => by rw [q7]; rfl
                refine ⟨by omega, by omega, Or.inr ?_, fun q8 => by omega⟩
                omega
            refine v_iload hG dX5_bestBarredWeekday_89 6 rfl ?_
            refine v_if_eq hG 101 (by omega) dX5_bestBarredWeekday_91 (by decide) (fun h91 => ?_) (fun h91 => ?_)
            · refine v_iload hG dX5_bestBarredWeekday_101 7 rfl ?_
              refine v_goto hG 108 dX5_bestBarredWeekday_103 (by decide) ?_
              exact L108 _ (by first | (rw [if_pos (by omega)]) | (rw [if_neg (by omega)]))
            · refine v_iload hG dX5_bestBarredWeekday_94 7 rfl ?_
              refine v_iload hG dX5_bestBarredWeekday_96 5 rfl ?_
              refine v_icmp_ge hG 106 (by omega) (by omega) dX5_bestBarredWeekday_98 (by decide) (fun h98 => ?_) (fun h98 => ?_)
              · refine v_iload hG dX5_bestBarredWeekday_106 5 rfl ?_
                exact L108 _ (by first | (rw [if_pos (by omega)]) | (rw [if_neg (by omega)]))
              · refine v_iload hG dX5_bestBarredWeekday_101 7 rfl ?_
                refine v_goto hG 108 dX5_bestBarredWeekday_103 (by decide) ?_
                exact L108 _ (by first | (rw [if_pos (by omega)]) | (rw [if_neg (by omega)]))
          refine v_iload hG dX5_bestBarredWeekday_68 6 rfl ?_
          refine v_if_eq hG 80 (by omega) dX5_bestBarredWeekday_70 (by decide) (fun h70 => ?_) (fun h70 => ?_)
          · refine v_iload hG dX5_bestBarredWeekday_80 6 rfl ?_
            refine v_goto hG 87 dX5_bestBarredWeekday_82 (by decide) ?_
            exact L87 _ (by first | (rw [if_pos (by omega)]) | (rw [if_neg (by omega)]))
          · refine v_iload hG dX5_bestBarredWeekday_73 7 rfl ?_
            refine v_iload hG dX5_bestBarredWeekday_75 5 rfl ?_
            refine v_icmp_ge hG 85 (by omega) (by omega) dX5_bestBarredWeekday_77 (by decide) (fun h77 => ?_) (fun h77 => ?_)
            · refine v_iload hG dX5_bestBarredWeekday_85 4 rfl ?_
              exact L87 _ (by first | (rw [if_pos (by omega)]) | (rw [if_neg (by omega)]))
            · refine v_iload hG dX5_bestBarredWeekday_80 6 rfl ?_
              refine v_goto hG 87 dX5_bestBarredWeekday_82 (by decide) ?_
              exact L87 _ (by first | (rw [if_pos (by omega)]) | (rw [if_neg (by omega)]))
    exact L44 _ _ _ _ (w 170 (15 + 4 * f + 3).toNat) ⟨by omega, by omega, Or.inl rfl, fun _ => ⟨rfl, rfl⟩⟩ (Nat.le_refl _)
  · refine v_aload_n hG dX5_bestBarredWeekday_13 0 rfl ?_
    refine v_iconst hG dX5_bestBarredWeekday_14 ?_
    refine v_callVi (n := 1) (ci := 5) hG (c_X5_fails hr k9a) gX5_bestBarredWeekday_X5_fails rfl (by decide +kernel) rfl (by decide) k9a (by decide) (cl_6 _ _ _ _) rfl dX5_bestBarredWeekday_15 rfl (Nat.le_of_ble_eq_true rfl) (by decide) ?_
    intro v15 z15 hp15
    obtain ⟨rfl, rfl⟩ := hp15
    exact v_iret hG hR dX5_bestBarredWeekday_18 (by first
  | exact Or.inr ⟨rfl, by omega⟩
  | exact Or.inl ⟨by rw [zup_zup, zup_self], hFq, by rw [← hQ]; have e7 : x6.toNat = 7 := by omega
                                                     rw [e7] at i3v; omega⟩)

