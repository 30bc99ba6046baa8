theorem finW {z2 w : Zt} {x v : Int} {z1 : Zt} (hw : w = zup z1 169 5 0) (h5 : z2 169 5 = w 169 5) (h176 : z2 176 0 = z1 176 0) (h1 : z1 176 0 = jl x) (hx : x = v) (hR : Rel z2) : z2 169 5 = 0 ∧ ((0 : Int) = 0 → z2 176 0 = jl v) ∧ Rel z2 := by
  refine ⟨by rw [h5, hw]; exact zup_s _ _ _ _, fun _ => by rw [h176, h1, hx], hR⟩
/-- what a call of the class leaves of the reference's cells -/
theorem mid_w {z z1 w : Zt} (hm : Mid z z1) (hw : w = zup z1 169 5 0) : w 170 = z 170 ∧ w 171 = z 171 ∧ w 172 = z 172 ∧ w 173 = z 173 ∧ w 174 = z 174 ∧ w 169 2 = z 169 2 ∧ w 169 7 = z 169 7 := by
  subst hw
  refine ⟨?_, ?_, ?_, ?_, ?_, ?_, ?_⟩
  · rw [zup_o (by decide)]; exact hm 170 (by decide) (by decide)
  · rw [zup_o (by decide)]; exact hm 171 (by decide) (by decide)
  · rw [zup_o (by decide)]; exact hm 172 (by decide) (by decide)
  · rw [zup_o (by decide)]; exact hm 173 (by decide) (by decide)
  · rw [zup_o (by decide)]; exact hm 174 (by decide) (by decide)
  · rw [zup_r, if_neg (by decide)]; exact congrFun (hm 169 (by decide) (by decide)) 2
  · rw [zup_r, if_neg (by decide)]; exact congrFun (hm 169 (by decide) (by decide)) 7
theorem recZ_big {z : Zt} (h : PI z) {a : Nat} (ha : 169 ≤ a) : recZ z a = z a := by
  have hq := recQ_is h
  have hb : recQ z + 18 ≤ 169 := by
    rcases S_base hq.1 with q | ⟨j, q1, q2⟩ <;> omega
  exact recZ_o (by omega) (by omega) (by omega)
theorem recZ_mid {z : Zt} (h : PI z) {a : Nat} (ha : 20 ≤ a ∧ a ≤ 24) : recZ z a = z a := by
  have hq := recQ_is h
  exact recZ_o (by omega) (by omega) (by omega)
/-- a writer behind a recording: y is the class's world behind its own change of block 1, σ the reference's row behind its change -/
theorem Rel_w {z y z1 w z2 : Zt} {x : Int} {σ : Nat → Int} (hR : Rel z) (hy : ∀ i, i = 24 ∨ i < 1 ∨ 19 ≤ i → i ≠ 24 → y i = recZ z i) (hA : y 2 0 = 1 ∧ y 5 0 = 0) (hRB : RB y 1 σ) (h1 : z1 = zup y 176 0 x) (hw : w = zup z1 169 5 0) (h2 : ∀ i, i ≠ 170 → z2 i = recM w i) (hσ : z2 170 = σ) : Rel z2 ∧ z2 169 5 = w 169 5 ∧ z2 176 0 = z1 176 0 := by
  have hP := PJ_PI hR.2.1
  have hyb : ∀ i, 169 ≤ i → y i = z i := fun i hi => (hy i (by omega) (by omega)).trans (recZ_big hP hi)
  have hm : Mid z z1 := fun a a1 a2 => by
    rw [h1, zup_o (by omega)]
    exact hyb a a1
  obtain ⟨m0, m1, m2, m3, m4, m5, m6⟩ := mid_w hm hw
  have hM := recM_eq m1 m5 m0
  have o2 : ∀ i, i ≠ 169 → i ≠ 170 → i ≠ 171 → i ≠ 176 → z2 i = y i := fun i a b c d => by
    rw [h2 i b, recM_o a c, hw, zup_o a, h1, zup_o d]
  have hbl : blkE y z2 1 := fun j hj => o2 _ (by omega) (by omega) (by omega) (by omega)
  refine ⟨?_, ?_, ?_⟩
  · refine Rel_rec hR ?_ ?_ (fun q hq q1 j hj => ?_) ?_ ?_ ?_ ?_ ?_ ?_ ?_ ?_ ?_ ?_ ?_ ?_
    · rw [o2 0 (by decide) (by decide) (by decide) (by decide)]
      exact congrFun (hy 0 (by omega) (by decide)) 2
    · rw [o2 19 (by decide) (by decide) (by decide) (by decide)]
      exact hy 19 (by omega) (by decide)
    · have := S_ne hq hj
      rcases S_base hq with q2 | ⟨i, q2, q3⟩
      · exact absurd q2 q1
      · rw [o2 _ (by omega) (by omega) (by omega) (by omega)]
        exact hy _ (by omega) (by omega)
    · rw [h2 171 (by decide)]
      exact hM.1
    · rw [h2 169 (by decide)]
      exact hM.2
    · rw [o2 2 (by decide) (by decide) (by decide) (by decide), o2 5 (by decide) (by decide) (by decide) (by decide)]
      exact hA
    · rw [o2 20 (by decide) (by decide) (by decide) (by decide), hy 20 (by omega) (by decide)]
      exact recZ_mid hP (by decide)
    · rw [o2 21 (by decide) (by decide) (by decide) (by decide), hy 21 (by omega) (by decide)]
      exact recZ_mid hP (by decide)
    · rw [o2 173 (by decide) (by decide) (by decide) (by decide)]
      exact hyb 173 (by decide)
    · rw [o2 172 (by decide) (by decide) (by decide) (by decide)]
      exact hyb 172 (by decide)
    · rw [o2 22 (by decide) (by decide) (by decide) (by decide), hy 22 (by omega) (by decide)]
      exact congrFun (recZ_mid hP (by decide)) 1
    · rw [o2 23 (by decide) (by decide) (by decide) (by decide), hy 23 (by omega) (by decide)]
      exact recZ_mid hP (by decide)
    · rw [h2 169 (by decide), recM_o5 (by decide)]
      exact m6
    · rw [o2 174 (by decide) (by decide) (by decide) (by decide)]
      exact hyb 174 (by decide)
    · rw [hσ]
      exact RB_blk hbl hRB
  · rw [h2 169 (by decide), recM_o5 (by decide)]
  · rw [h2 176 (by decide), recM_o (by decide) (by decide), hw, zup_o (by decide)]
theorem RB_rec {z : Zt} (hR : Rel z) : RB (recZ z) 1 (z 170) := RB_blk (recZ_blk (PJ_PI hR.2.1)) hR.1
theorem recA {z : Zt} (hR : Rel z) : recZ z 2 0 = 1 ∧ recZ z 5 0 = 0 := (recZ_AI (PJ_PI hR.2.1) hR.2.2.1) 1 k_1
/-! the changes of a state, one by one -/
theorem RB_4 {y : Zt} {ρ : Nat → Int} {q : Int} (hB : RB y 1 ρ) (hq : 1 ≤ q ∧ q ≤ 9) : RB (zup y 1 4 q) 1 (updR ρ 55 q) := by
  obtain ⟨hS, hT, hN, hF⟩ := hB
  have u : ∀ p : Nat, p ≠ 55 → updR ρ 55 q p = ρ p := fun p hp => by simp [updR, hp]
  have u5 : updR ρ 55 q 55 = q := by simp [updR]
  obtain ⟨h1, h2, h3, h4, h5, h6, h7, h8, h9⟩ := hS
  refine ⟨⟨h1, h2, h3, h4, h5, hq, h7, h8, fun k hk => ?_⟩, fun t ht => ?_, ?_, fun j hj w hw => ?_⟩
  · unfold FI
    rw [zup_o (by omega)]
    exact h9 k hk
  · obtain ⟨a1, a2, a3⟩ := hT t ht
    have ho := tS_or 1 t
    have e1 : mN (updR ρ 55 q) t = mN ρ t := by
      unfold mN
      exact u _ (by omega)
    have hg : mN ρ t ≤ 3 := by
      rw [← a1]
      rcases ho with q | q
      · rw [q]; exact h1.2.2.1
      · rw [q]; exact h2.2.2.1
    rw [zup_o (by omega), e1, u _ (by omega)]
    refine ⟨a1, a2, fun k hk => ?_⟩
    have e2 : mD (updR ρ 55 q) t k = mD ρ t k := by
      unfold mD
      exact u _ (by omega)
    have e3 : mL (updR ρ 55 q) t k = mL ρ t k := by
      unfold mL
      exact u _ (by omega)
    rw [zup_o (by omega), zup_o (by omega), e2, e3]
    exact a3 k hk
  · rw [u 14 (by decide), u5, u 56 (by decide), u 57 (by decide), u 60 (by decide), u 61 (by decide)]
    exact ⟨hN.1, rfl, hN.2.2⟩
  · rw [u _ (by decide)] at hj
    have e : mF (updR ρ 55 q) j w = mF ρ j w := by
      unfold mF
      have := hN.1
      exact u _ (by omega)
    rw [zup_o (by omega), e]
    exact hF j hj w hw
theorem RB_5 {y : Zt} {ρ : Nat → Int} {q : Int} (hB : RB y 1 ρ) (hq : 0 ≤ q ∧ q ≤ 9) : RB (zup y 1 5 q) 1 (updR ρ 56 q) := by
  obtain ⟨hS, hT, hN, hF⟩ := hB
  have u : ∀ p : Nat, p ≠ 56 → updR ρ 56 q p = ρ p := fun p hp => by simp [updR, hp]
  have u5 : updR ρ 56 q 56 = q := by simp [updR]
  obtain ⟨h1, h2, h3, h4, h5, h6, h7, h8, h9⟩ := hS
  refine ⟨⟨h1, h2, h3, h4, h5, h6, hq, h8, fun k hk => ?_⟩, fun t ht => ?_, ?_, fun j hj w hw => ?_⟩
  · unfold FI
    rw [zup_o (by omega)]
    exact h9 k hk
  · obtain ⟨a1, a2, a3⟩ := hT t ht
    have ho := tS_or 1 t
    have e1 : mN (updR ρ 56 q) t = mN ρ t := by
      unfold mN
      exact u _ (by omega)
    have hg : mN ρ t ≤ 3 := by
      rw [← a1]
      rcases ho with q | q
      · rw [q]; exact h1.2.2.1
      · rw [q]; exact h2.2.2.1
    rw [zup_o (by omega), e1, u _ (by omega)]
    refine ⟨a1, a2, fun k hk => ?_⟩
    have e2 : mD (updR ρ 56 q) t k = mD ρ t k := by
      unfold mD
      exact u _ (by omega)
    have e3 : mL (updR ρ 56 q) t k = mL ρ t k := by
      unfold mL
      exact u _ (by omega)
    rw [zup_o (by omega), zup_o (by omega), e2, e3]
    exact a3 k hk
  · rw [u 14 (by decide), u 55 (by decide), u5, u 57 (by decide), u 60 (by decide), u 61 (by decide)]
    exact ⟨hN.1, hN.2.1, rfl, hN.2.2.2⟩
  · rw [u _ (by decide)] at hj
    have e : mF (updR ρ 56 q) j w = mF ρ j w := by
      unfold mF
      have := hN.1
      exact u _ (by omega)
    rw [zup_o (by omega), e]
    exact hF j hj w hw

theorem zup_at (X : Zt) (i k : Nat) (q : Int) : zup X i k q i = updR (X i) k q := by
  funext j
  simp [zup, updR]
theorem GI_push {n : Int} {f g f' g' : Nat → Int} {a q : Int} (h : GI n f g) (hn : n < 3) (ha : 0 ≤ a ∧ a ≤ 9999) (hq : 1 ≤ q ∧ q ≤ 40) (hl : n = 0 ∨ f (n - 1).toNat < a) (hf : ∀ k : Nat, f' k = if k = n.toNat then a else f k) (hg : ∀ k : Nat, g' k = if k = n.toNat then q else g k) : GI (n + 1) f' g' := by
  obtain ⟨h1, h2, h3, h4⟩ := h
  refine ⟨by omega, by omega, fun k hk => ?_, fun k hk => ?_⟩
  · rw [hf, hg]
    by_cases e : k = n.toNat
    · rw [if_pos e, if_pos e]
      omega
    · rw [if_neg e, if_neg e]
      exact h3 k (by omega)
  · rw [hf, hf]
    by_cases e : k + 1 = n.toNat
    · rw [if_neg (by omega), if_pos e]
      rcases hl with q | q
      · omega
      · rw [show (n - 1).toNat = k by omega] at q
        exact q
    · rw [if_neg (by omega), if_neg e]
      exact h4 k (by omega)
theorem RB_gap {y : Zt} {ρ σ : Nat → Int} {t a q : Int} (hB : RB y 1 ρ) (ht : t = 0 ∨ t = 1) (ha : 0 ≤ a ∧ a ≤ 9999) (hq : 1 ≤ q ∧ q ≤ 40) (hn : mN ρ t < 3) (hl : mN ρ t = 0 ∨ mD ρ t (mN ρ t - 1).toNat < a)
    (hσ : ∀ p, σ p = if p = (0 + 7 * t).toNat then mN ρ t + 1 else if p = (0 + 7 * t + 2 + 2 * mN ρ t).toNat then q else if p = (0 + 7 * t + 1 + 2 * mN ρ t).toNat then a else ρ p) : RB (lvZ y (tid t) a q) 1 σ := by
  have hRR := hB
  obtain ⟨hS, hT, hN, hF⟩ := hB
  obtain ⟨a1, a2, a3⟩ := hT t ht
  have g0 := RB_TI hRR t
  have g := g0.2
  rw [a1] at g
  rw [tS_1] at a1 a2 a3 g g0
  have hn0 := g.1
  have hlast : mN ρ t = 0 ∨ y (tid t + 1) (mN ρ t - 1).toNat < a := by
    by_cases h0 : mN ρ t = 0
    · exact Or.inl h0
    · rcases hl with q9 | q9
      · exact Or.inl q9
      · refine Or.inr ?_
        rw [(a3 (mN ρ t - 1).toNat (by omega)).1]
        exact q9
  have hto := tid_or t
  have e3 : ∀ j, lvZ y (tid t) a q (tid t) j = if j = 3 then mN ρ t + 1 else y (tid t) j := fun j => by
    unfold lvZ
    rw [zup_r, zup_o (by omega), zup_o (by omega), a1]
  have eD : ∀ k, lvZ y (tid t) a q (tid t + 1) k = if k = (mN ρ t).toNat then a else y (tid t + 1) k := fun k => by
    unfold lvZ
    rw [zup_o (by omega), zup_o (by omega), zup_r, a1]
  have eL : ∀ k, lvZ y (tid t) a q (tid t + 2) k = if k = (mN ρ t).toNat then q else y (tid t + 2) k := fun k => by
    unfold lvZ
    rw [zup_o (by omega), zup_r, zup_o (by omega), a1]
  have eo : ∀ i, i ≠ tid t → i ≠ tid t + 1 → i ≠ tid t + 2 → lvZ y (tid t) a q i = y i := fun i h1 h2 h3 => by
    unfold lvZ
    rw [zup_o h1, zup_o h3, zup_o h2]
  generalize lvZ y (tid t) a q = Y at e3 eD eL eo ⊢
  have gN : GI (mN ρ t + 1) (Y (tid t + 1)) (Y (tid t + 2)) := GI_push g hn ha hq hlast eD eL
  have hTI : TI Y (tid t) := ⟨by rw [e3, if_neg (by decide)]; exact g0.1, by rw [e3 3, if_pos rfl]; exact gN⟩
  have e30 : Y (tid t) 0 = y (tid t) 0 := by rw [e3, if_neg (by decide)]
  have e34 : Y (tid t) 4 = y (tid t) 4 := by rw [e3, if_neg (by decide)]
  have e33 : Y (tid t) 3 = mN ρ t + 1 := by rw [e3, if_pos rfl]
  have hσ14 : ∀ p, 14 ≤ p → σ p = ρ p := fun p hp => by
    rw [hσ, if_neg (by omega), if_neg (by omega), if_neg (by omega)]
  have hmine : mN σ t = mN ρ t + 1 ∧ ∀ k : Nat, (k : Int) < mN ρ t + 1 → mD σ t k = Y (tid t + 1) k ∧ mL σ t k = Y (tid t + 2) k := by
    constructor
    · unfold mN
      rw [hσ, if_pos (by omega)]
      rfl
    · intro k hk
      have eq1 : mD σ t k = if k = (mN ρ t).toNat then a else mD ρ t k := by
        unfold mD
        rw [hσ, if_neg (by omega), if_neg (by omega)]
        by_cases e : k = (mN ρ t).toNat
        · rw [if_pos (by omega), if_pos e]
        · rw [if_neg (by omega), if_neg e]
      have eq2 : mL σ t k = if k = (mN ρ t).toNat then q else mL ρ t k := by
        unfold mL
        rw [hσ, if_neg (by omega)]
        by_cases e : k = (mN ρ t).toNat
        · rw [if_pos (by omega), if_pos e]
        · rw [if_neg (by omega), if_neg (by omega), if_neg e]
      rw [eq1, eq2, eD, eL]
      by_cases e : k = (mN ρ t).toNat
      · rw [if_pos e, if_pos e, if_pos e, if_pos e]
        exact ⟨rfl, rfl⟩
      · rw [if_neg e, if_neg e, if_neg e, if_neg e]
        have h9 := a3 k (by omega)
        exact ⟨h9.1.symm, h9.2.symm⟩
  have hother : ∀ t' : Int, (t' = 0 ∨ t' = 1) → t' ≠ t → mN σ t' = mN ρ t' ∧ ∀ k : Nat, (k : Int) < mN ρ t' → mD σ t' k = mD ρ t' k ∧ mL σ t' k = mL ρ t' k := fun t' ht' hne => by
    have hg := (RB_MG hRR t' ht').2.1
    constructor
    · unfold mN
      rw [hσ, if_neg (by omega), if_neg (by omega), if_neg (by omega)]
    · intro k hk
      unfold mD mL
      rw [hσ, if_neg (by omega), if_neg (by omega), if_neg (by omega), hσ, if_neg (by omega), if_neg (by omega), if_neg (by omega)]
      exact ⟨rfl, rfl⟩
  obtain ⟨h1, h2, h3, h4, h5, h6, h7, h8, h9⟩ := hS
  have e1 : Y 1 = y 1 := eo 1 (by omega) (by omega) (by omega)
  have eF : ∀ k, Y (1 + 8 + k) = y (1 + 8 + k) := fun k => eo _ (by omega) (by omega) (by omega)
  refine ⟨⟨?_, ?_, ?_, ?_, by rw [e1]; exact h5, by rw [e1]; exact h6, by rw [e1]; exact h7, by rw [e1]; exact h8, fun k hk => by unfold FI; rw [eF]; exact h9 k hk⟩, fun t' ht' => ?_, ?_, fun j hj w hw => ?_⟩
  · rcases ht with rfl | rfl
    · exact hTI
    · unfold TI
      rw [eo (1 + 1) (by decide) (by decide) (by decide), eo (1 + 1 + 1) (by decide) (by decide) (by decide), eo (1 + 1 + 2) (by decide) (by decide) (by decide)]
      exact h1
  · rcases ht with rfl | rfl
    · unfold TI
      rw [eo (1 + 4) (by decide) (by decide) (by decide), eo (1 + 4 + 1) (by decide) (by decide) (by decide), eo (1 + 4 + 2) (by decide) (by decide) (by decide)]
      exact h2
    · exact hTI
  · rcases ht with rfl | rfl
    · exact e30.trans h3
    · rw [eo (1 + 1) (by decide) (by decide) (by decide)]
      exact h3
  · rcases ht with rfl | rfl
    · rw [eo (1 + 4) (by decide) (by decide) (by decide)]
      exact h4
    · exact e30.trans h4
  · by_cases q9 : t' = t
    · subst q9
      rw [tS_1, hmine.1, e33, e34, hσ14 _ (by omega)]
      exact ⟨rfl, a2, fun k hk => ⟨(hmine.2 k hk).1.symm, (hmine.2 k hk).2.symm⟩⟩
    · have hd : tid t' ≠ tid t ∧ tid t' ≠ tid t + 1 ∧ tid t' ≠ tid t + 2 ∧ tid t' + 1 ≠ tid t ∧ tid t' + 1 ≠ tid t + 1 ∧ tid t' + 1 ≠ tid t + 2 ∧ tid t' + 2 ≠ tid t ∧ tid t' + 2 ≠ tid t + 1 ∧ tid t' + 2 ≠ tid t + 2 := by
        rcases ht with rfl | rfl <;> rcases ht' with rfl | rfl
        · exact absurd rfl q9
        · decide
        · decide
        · exact absurd rfl q9
      obtain ⟨b1, b2⟩ := hother t' ht' q9
      have b3 := hT t' ht'
      rw [tS_1] at b3 ⊢
      rw [eo (tid t') (by omega) (by omega) (by omega), eo (tid t' + 1) (by omega) (by omega) (by omega), eo (tid t' + 2) (by omega) (by omega) (by omega), b1, hσ14 _ (by omega)]
      exact ⟨b3.1, b3.2.1, fun k hk => by rw [(b2 k hk).1, (b2 k hk).2]; exact b3.2.2 k hk⟩
  · rw [e1, hσ14 _ (by decide), hσ14 _ (by decide), hσ14 _ (by decide), hσ14 _ (by decide), hσ14 _ (by decide), hσ14 _ (by decide)]
    exact hN
  · rw [hσ14 _ (by decide)] at hj
    have e : mF σ j w = mF ρ j w := by
      unfold mF
      exact hσ14 _ (by omega)
    rw [eF, e]
    exact hF j hj w hw
theorem RB_feast {y : Zt} {ρ σ : Nat → Int} {t m q : Int} (hB : RB y 1 ρ) (ht : t = 0 ∨ t = 1) (hm : 1 ≤ m ∧ m ≤ 12) (hq : 1 ≤ q ∧ q ≤ 31) (hn : ρ 14 < 10)
    (hσ : ∀ p, σ p = if p = 14 then ρ 14 + 1 else if p = (15 + 4 * ρ 14 + 3).toNat then -1 else if p = (15 + 4 * ρ 14 + 2).toNat then q else if p = (15 + 4 * ρ 14 + 1).toNat then m else if p = (15 + 4 * ρ 14).toNat then t else ρ p) : RB (pfZ y 1 t m q) 1 σ := by
  have hRR := hB
  have h10 := RB_n hB
  obtain ⟨hS, hT, hN, hF⟩ := hB
  have hn3 := hN.1
  have eX : ∀ j, pfZ y 1 t m q (9 + (ρ 14).toNat) j = if j = 3 then -1 else if j = 2 then q else if j = 1 then m else if j = 0 then t else y (9 + (ρ 14).toNat) j := fun j => by
    unfold pfZ
    rw [hn3, show 1 + 7 + 1 + (ρ 14).toNat = 9 + (ρ 14).toNat by omega, zup_o (by omega), zup_r, zup_r, zup_r, zup_r]
  have e1 : ∀ j, pfZ y 1 t m q 1 j = if j = 3 then ρ 14 + 1 else y 1 j := fun j => by
    unfold pfZ
    rw [zup_r, zup_o (by omega), zup_o (by omega), zup_o (by omega), zup_o (by omega), hn3]
  have eo : ∀ i, i ≠ 1 → i ≠ 9 + (ρ 14).toNat → pfZ y 1 t m q i = y i := fun i a b => by
    unfold pfZ
    rw [hn3, show 1 + 7 + 1 + (ρ 14).toNat = 9 + (ρ 14).toNat by omega, zup_o a, zup_o b, zup_o b, zup_o b, zup_o b]
  generalize pfZ y 1 t m q = Y at eX e1 eo ⊢
  have hσl : ∀ p, p < 14 ∨ 55 ≤ p → σ p = ρ p := fun p hp => by
    rw [hσ, if_neg (by omega), if_neg (by omega), if_neg (by omega), if_neg (by omega), if_neg (by omega)]
  have hσ14 : σ 14 = ρ 14 + 1 := by rw [hσ, if_pos rfl]
  obtain ⟨h1, h2, h3, h4, h5, h6, h7, h8, h9⟩ := hS
  have eT : ∀ i, 2 ≤ i → i < 9 → Y i = y i := fun i a b => eo i (by omega) (by omega)
  refine ⟨⟨?_, ?_, ?_, ?_, ?_, ?_, ?_, ?_, fun k hk => ?_⟩, fun t' ht' => ?_, ?_, fun j hj w hw => ?_⟩
  · unfold TI
    rw [eT (1 + 1) (by decide) (by decide), eT (1 + 1 + 1) (by decide) (by decide), eT (1 + 1 + 2) (by decide) (by decide)]
    exact h1
  · unfold TI
    rw [eT (1 + 4) (by decide) (by decide), eT (1 + 4 + 1) (by decide) (by decide), eT (1 + 4 + 2) (by decide) (by decide)]
    exact h2
  · rw [eT (1 + 1) (by decide) (by decide)]
    exact h3
  · rw [eT (1 + 4) (by decide) (by decide)]
    exact h4
  · rw [e1, if_pos rfl]
    omega
  · rw [e1, if_neg (by decide)]
    exact h6
  · rw [e1, if_neg (by decide)]
    exact h7
  · rw [e1, if_neg (by decide)]
    exact h8
  · by_cases e : k = (ρ 14).toNat
    · subst e
      have x3 : Y (9 + (ρ 14).toNat) 3 = -1 := by rw [eX, if_pos rfl]
      have x2 : Y (9 + (ρ 14).toNat) 2 = q := by rw [eX, if_neg (by decide), if_pos rfl]
      have x1 : Y (9 + (ρ 14).toNat) 1 = m := by rw [eX, if_neg (by decide), if_neg (by decide), if_pos rfl]
      have x0 : Y (9 + (ρ 14).toNat) 0 = t := by rw [eX, if_neg (by decide), if_neg (by decide), if_neg (by decide), if_pos rfl]
      unfold FI
      rw [show 1 + 8 + (ρ 14).toNat = 9 + (ρ 14).toNat by omega, x0, x1, x2, x3]
      exact ⟨ht, hm.1, hm.2, hq.1, hq.2, by decide, by decide⟩
    · unfold FI
      rw [eo _ (by omega) (by omega)]
      exact h9 k hk
  · have hto := tS_or 1 t'
    have e1' : mN σ t' = mN ρ t' := by
      unfold mN
      exact hσl _ (by omega)
    have hg := (RB_MG hRR t' ht').2.1
    rw [eT _ (by omega) (by omega), eT (tS 1 t' + 1) (by omega) (by omega), eT (tS 1 t' + 2) (by omega) (by omega), e1', hσl _ (by omega)]
    obtain ⟨a1, a2, a3⟩ := hT t' ht'
    refine ⟨a1, a2, fun k hk => ?_⟩
    have e2 : mD σ t' k = mD ρ t' k := by
      unfold mD
      exact hσl _ (by omega)
    have e3 : mL σ t' k = mL ρ t' k := by
      unfold mL
      exact hσl _ (by omega)
    rw [e2, e3]
    exact a3 k hk
  · rw [e1, if_pos rfl, e1, if_neg (by decide), e1, if_neg (by decide), e1, if_neg (by decide), e1, if_neg (by decide), e1, if_neg (by decide), hσ14, hσl _ (by omega), hσl _ (by omega), hσl _ (by omega), hσl _ (by omega), hσl _ (by omega)]
    exact ⟨rfl, hN.2⟩
  · rw [hσ14] at hj
    by_cases e : j = (ρ 14).toNat
    · subst e
      have hs : mF σ (((ρ 14).toNat : Nat) : Int) w = if w = 3 then -1 else if w = 2 then q else if w = 1 then m else t := by
        unfold mF
        rw [hσ, if_neg (by omega)]
        by_cases w3 : w = 3
        · rw [if_pos (by omega), if_pos w3]
        · rw [if_neg (by omega), if_neg w3]
          by_cases w2 : w = 2
          · rw [if_pos (by omega), if_pos w2]
          · rw [if_neg (by omega), if_neg w2]
            by_cases w1 : w = 1
            · rw [if_pos (by omega), if_pos w1]
            · rw [if_neg (by omega), if_neg w1, if_pos (by omega)]
      rw [show 1 + 8 + (ρ 14).toNat = 9 + (ρ 14).toNat by omega, eX, hs]
      rcases (show w = 0 ∨ w = 1 ∨ w = 2 ∨ w = 3 by omega) with rfl | rfl | rfl | rfl <;> simp
    · have e9 : mF σ j w = mF ρ j w := by
        unfold mF
        rw [hσ, if_neg (by omega), if_neg (by omega), if_neg (by omega), if_neg (by omega), if_neg (by omega)]
      rw [eo _ (by omega) (by omega), e9]
      exact hF j (by omega) w hw
theorem RB_key {z : Zt} {ρ : Nat → Int} (hR : RB z 1 ρ) (j : Nat) (d a : Int) : (((j : Int) < z 1 3 ∧ onS z 1 (9 + j) d) ∧ ((j : Int) < z 1 3 ∧ z (9 + j) 0 = a)) ↔ (((j : Int) < ρ 14 ∧ onM ρ j d) ∧ mF ρ j 0 = a) := by
  have h9 := RB_onj hR j d
  rw [show 1 + 8 + j = 9 + j by omega] at h9
  rw [h9, hR.2.2.1.1]
  by_cases q : (j : Int) < ρ 14
  · have e := hR.2.2.2 j q 0 (by decide)
    rw [show 1 + 8 + j = 9 + j by omega] at e
    have e2 : z (9 + j) 0 = mF ρ j 0 := e
    rw [e2]
    simp [q]
  · simp [q]
theorem cnt_eq {z : Zt} {ρ : Nat → Int} (hR : RB z 1 ρ) (d a : Int) : cntP (fun j => ((j : Int) < z 1 3 ∧ onS z 1 (9 + j) d) ∧ ((j : Int) < z 1 3 ∧ z (9 + j) 0 = a)) 10 = cntP (fun j => ((j : Int) < ρ 14 ∧ onM ρ j d) ∧ mF ρ j 0 = a) (ρ 14).toNat := by
  have h10 := RB_n hR
  have e : (10 : Nat) = (ρ 14).toNat + (10 - (ρ 14).toNat) := by omega
  refine (cntP_congr (fun j _ => RB_key hR j d a)).trans ((congrArg (cntP _) e).trans (cntP_cut (fun j hj h => ?_)))
  have := h.1.1
  omega
theorem RB_pass {z Y : Zt} {ρ : Nat → Int} {q : Int} (hB : RB z 1 ρ) (hq : 0 ≤ q) (hd : z 1 6 + q ≤ 9999)
    (e2 : ∀ j, Y 2 j = if j = 4 then z 2 4 + sumN (fun i => cntP (fun j => ((j : Int) < z 1 3 ∧ onS z 1 (9 + j) (z 1 6 + i)) ∧ ((j : Int) < z 1 3 ∧ z (9 + j) 0 = 0)) 10) q.toNat else z 2 j)
    (e5 : ∀ j, Y 5 j = if j = 4 then z 5 4 + sumN (fun i => cntP (fun j => ((j : Int) < z 1 3 ∧ onS z 1 (9 + j) (z 1 6 + i)) ∧ ((j : Int) < z 1 3 ∧ z (9 + j) 0 = 1)) 10) q.toNat else z 5 j)
    (e1 : ∀ j, Y 1 j = if j = 6 then z 1 6 + q else if j = 8 then z 1 8 + sumN (fun i => ind (∀ j : Nat, ¬ ((j : Int) < z 1 3 ∧ onS z 1 (9 + j) (z 1 6 + i))) * z 1 5) q.toNat else if j = 7 then z 1 7 + qwS z q.toNat else z 1 j)
    (eo : ∀ i, 1 ≤ i → i < 19 → i ≠ 1 → i ≠ 2 → i ≠ 5 → Y i = z i) : RB Y 1 (psR ρ q.toNat) := by
  have hRR := hB
  have hag := psR_ag ρ q.toNat
  have h10 := RB_n hB
  obtain ⟨hS, hT, hN, hF⟩ := hB
  have h6z := hN.2.2.2.1
  rw [h6z] at e2 e5 e1
  have eA : sumN (fun i => cntP (fun j => ((j : Int) < z 1 3 ∧ onS z 1 (9 + j) (ρ 57 + i)) ∧ ((j : Int) < z 1 3 ∧ z (9 + j) 0 = 0)) 10) q.toNat = sumN (fun i => cntP (fun j => ((j : Int) < ρ 14 ∧ onM ρ j (ρ 57 + i)) ∧ mF ρ j 0 = 0) (ρ 14).toNat) q.toNat := sumN_congr (fun i _ => cnt_eq hRR _ _)
  have eB : sumN (fun i => cntP (fun j => ((j : Int) < z 1 3 ∧ onS z 1 (9 + j) (ρ 57 + i)) ∧ ((j : Int) < z 1 3 ∧ z (9 + j) 0 = 1)) 10) q.toNat = sumN (fun i => cntP (fun j => ((j : Int) < ρ 14 ∧ onM ρ j (ρ 57 + i)) ∧ mF ρ j 0 = 1) (ρ 14).toNat) q.toNat := sumN_congr (fun i _ => cnt_eq hRR _ _)
  have eC : sumN (fun i => ind (∀ j : Nat, ¬ ((j : Int) < z 1 3 ∧ onS z 1 (9 + j) (ρ 57 + i))) * z 1 5) q.toNat = sumN (fun i => ind (∀ j : Nat, ¬ ((j : Int) < ρ 14 ∧ onM ρ j (ρ 57 + i))) * ρ 56) q.toNat := sumN_congr (fun i _ => by
    rw [hN.2.2.1]
    refine congrArg (· * ρ 56) (ind_c (forall_congr' fun j => not_congr ?_))
    have h9 := RB_onj hRR j (ρ 57 + i)
    rw [show 1 + 8 + j = 9 + j by omega] at h9
    exact h9)
  rw [eA] at e2
  rw [eB] at e5
  rw [eC, RB_qw hRR] at e1
  have p58 : psR ρ q.toNat 58 = ρ 58 + sumN (fun i => cntP (fun j => ((j : Int) < ρ 14 ∧ onM ρ j (ρ 57 + i)) ∧ mF ρ j 0 = 0) (ρ 14).toNat) q.toNat := by simp [psR]
  have p59 : psR ρ q.toNat 59 = ρ 59 + sumN (fun i => cntP (fun j => ((j : Int) < ρ 14 ∧ onM ρ j (ρ 57 + i)) ∧ mF ρ j 0 = 1) (ρ 14).toNat) q.toNat := by simp [psR]
  have p60 : psR ρ q.toNat 60 = ρ 60 + qwM ρ q.toNat := by simp [psR]
  have p61 : psR ρ q.toNat 61 = ρ 61 + sumN (fun i => ind (∀ j : Nat, ¬ ((j : Int) < ρ 14 ∧ onM ρ j (ρ 57 + i))) * ρ 56) q.toNat := by simp [psR]
  have p57 : psR ρ q.toNat 57 = ρ 57 + q := by
    rw [psR_57]
    omega
  have t0 := hT 0 (Or.inl rfl)
  have t1 := hT 1 (Or.inr rfl)
  generalize psR ρ q.toNat = σ at hag p57 p58 p59 p60 p61 ⊢
  generalize sumN (fun i => cntP (fun j => ((j : Int) < ρ 14 ∧ onM ρ j (ρ 57 + i)) ∧ mF ρ j 0 = 0) (ρ 14).toNat) q.toNat = A at e2 p58
  generalize sumN (fun i => cntP (fun j => ((j : Int) < ρ 14 ∧ onM ρ j (ρ 57 + i)) ∧ mF ρ j 0 = 1) (ρ 14).toNat) q.toNat = B at e5 p59
  generalize sumN (fun i => ind (∀ j : Nat, ¬ ((j : Int) < ρ 14 ∧ onM ρ j (ρ 57 + i))) * ρ 56) q.toNat = C at e1 p61
  clear eA eB eC
  obtain ⟨h1, h2, h3, h4, h5, h6, h7, h8, h9⟩ := hS
  have e20 : Y 2 0 = z 2 0 := by rw [e2, if_neg (by decide)]
  have e23 : Y 2 3 = z 2 3 := by rw [e2, if_neg (by decide)]
  have e24 : Y 2 4 = z 2 4 + A := by rw [e2, if_pos rfl]
  have e50 : Y 5 0 = z 5 0 := by rw [e5, if_neg (by decide)]
  have e53 : Y 5 3 = z 5 3 := by rw [e5, if_neg (by decide)]
  have e54 : Y 5 4 = z 5 4 + B := by rw [e5, if_pos rfl]
  have f3 : Y 3 = z 3 := eo 3 (by decide) (by decide) (by decide) (by decide) (by decide)
  have f4 : Y 4 = z 4 := eo 4 (by decide) (by decide) (by decide) (by decide) (by decide)
  have f6 : Y 6 = z 6 := eo 6 (by decide) (by decide) (by decide) (by decide) (by decide)
  have f7 : Y 7 = z 7 := eo 7 (by decide) (by decide) (by decide) (by decide) (by decide)
  have g3 : Y 1 3 = z 1 3 := by rw [e1, if_neg (by decide), if_neg (by decide), if_neg (by decide)]
  have g4 : Y 1 4 = z 1 4 := by rw [e1, if_neg (by decide), if_neg (by decide), if_neg (by decide)]
  have g5 : Y 1 5 = z 1 5 := by rw [e1, if_neg (by decide), if_neg (by decide), if_neg (by decide)]
  have g6 : Y 1 6 = ρ 57 + q := by rw [e1, if_pos rfl]
  have g7 : Y 1 7 = z 1 7 + qwM ρ q.toNat := by rw [e1, if_neg (by decide), if_neg (by decide), if_pos rfl]
  have g8 : Y 1 8 = z 1 8 + C := by rw [e1, if_neg (by decide), if_pos rfl]
  have eF : ∀ k, k < 10 → Y (1 + 8 + k) = z (1 + 8 + k) := fun k hk => eo _ (by omega) (by omega) (by omega) (by omega) (by omega)
  have hlow : ∀ p, p < 57 → σ p = ρ p := hag
  refine ⟨⟨?_, ?_, e20.trans h3, e50.trans h4, by rw [g3]; exact h5, by rw [g4]; exact h6, by rw [g5]; exact h7, by rw [g6]; omega, fun k hk => by unfold FI; rw [eF k hk]; exact h9 k hk⟩, fun t ht => ?_, ?_, fun j hj w hw => ?_⟩
  · show (Y 2 0 = 0 ∨ Y 2 0 = 1) ∧ GI (Y 2 3) (Y 3) (Y 4)
    rw [e20, e23, f3, f4]
    exact h1
  · show (Y 5 0 = 0 ∨ Y 5 0 = 1) ∧ GI (Y 5 3) (Y 6) (Y 7)
    rw [e50, e53, f6, f7]
    exact h2
  · have hM := agR_mN hag ht
    have hMD : ∀ k : Nat, (k : Int) < mN ρ t → mD σ t k = mD ρ t k ∧ mL σ t k = mL ρ t k := fun k hk => by
      have hg := (RB_MG hRR t ht).2.1
      exact agR_mD hag ht (by omega)
    rw [hM]
    rcases ht with rfl | rfl
    · show Y 2 3 = mN ρ 0 ∧ Y 2 4 = σ 58 ∧ ∀ k : Nat, (k : Int) < mN ρ 0 → Y 3 k = mD σ 0 k ∧ Y 4 k = mL σ 0 k
      rw [e23, e24, f3, f4, p58]
      refine ⟨t0.1, by have e9 : z 2 4 = ρ 58 := t0.2.1; rw [e9], fun k hk => ?_⟩
      rw [(hMD k hk).1, (hMD k hk).2]
      exact t0.2.2 k hk
    · show Y 5 3 = mN ρ 1 ∧ Y 5 4 = σ 59 ∧ ∀ k : Nat, (k : Int) < mN ρ 1 → Y 6 k = mD σ 1 k ∧ Y 7 k = mL σ 1 k
      rw [e53, e54, f6, f7, p59]
      refine ⟨t1.1, by have e9 : z 5 4 = ρ 59 := t1.2.1; rw [e9], fun k hk => ?_⟩
      rw [(hMD k hk).1, (hMD k hk).2]
      exact t1.2.2 k hk
  · rw [g3, g4, g5, g6, g7, g8, hlow 14 (by decide), hlow 55 (by decide), hlow 56 (by decide), p57, p60, p61, hN.2.2.2.2.1, hN.2.2.2.2.2]
    exact ⟨hN.1, hN.2.1, hN.2.2.1, rfl, rfl, rfl⟩
  · rw [hlow 14 (by decide)] at hj
    have e : mF σ j w = mF ρ j w := by
      unfold mF
      exact hlow _ (by omega)
    rw [eF j (by omega), e]
    exact hF j hj w hw
/-- the state and its row replaced, the recorded ones fewer, else the same -/
theorem Rel_u {z z4 : Zt} (hR : Rel z) (o : ∀ i, i ≠ 0 → ¬ (1 ≤ i ∧ i < 19) → i ≠ 24 → i ≠ 169 → i ≠ 170 → i ≠ 175 → i ≠ 176 → z4 i = z i) (hc : z4 0 2 = z4 169 2 ∧ 0 ≤ z4 0 2 ∧ z4 0 2 ≤ z 0 2) (h7 : z4 169 7 = z 169 7) (hRB : RB z4 1 (z4 170)) : Rel z4 := by
  obtain ⟨r1, r2, r3, ⟨r4, r5⟩, r6, r7, r8, r9, r10, r11⟩ := hR
  have e19 := o 19 (by decide) (by decide) (by decide) (by decide) (by decide) (by decide) (by decide)
  have e20 := o 20 (by decide) (by decide) (by decide) (by decide) (by decide) (by decide) (by decide)
  have e21 := o 21 (by decide) (by decide) (by decide) (by decide) (by decide) (by decide) (by decide)
  have e22 := o 22 (by decide) (by decide) (by decide) (by decide) (by decide) (by decide) (by decide)
  have e23 := o 23 (by decide) (by decide) (by decide) (by decide) (by decide) (by decide) (by decide)
  have e171 := o 171 (by decide) (by decide) (by decide) (by decide) (by decide) (by decide) (by decide)
  have e172 := o 172 (by decide) (by decide) (by decide) (by decide) (by decide) (by decide) (by decide)
  have e173 := o 173 (by decide) (by decide) (by decide) (by decide) (by decide) (by decide) (by decide)
  have e174 := o 174 (by decide) (by decide) (by decide) (by decide) (by decide) (by decide) (by decide)
  have hblk : ∀ q, kd q = 2 → q ≠ 1 → blkE z z4 q := fun q hq q1 j hj => by
    have := S_ne hq hj
    rcases S_base hq with q2 | ⟨i, q2, q3⟩
    · exact absurd q2 q1
    · exact o _ (by omega) (by omega) (by omega) (by omega) (by omega) (by omega) (by omega)
  have hRB1 := hRB.1
  refine ⟨hRB, ⟨by rw [e19]; exact r2.1, by rw [e19]; exact r2.2.1, hc.2.1, by have := r2.2.2.2; omega⟩, fun q hq => ?_, ⟨hc.1, fun i hi => ?_⟩, by rw [e20]; exact r6, by rw [e21, e173]; exact r7, fun i hi hf => ?_, by rw [e22, e23]; exact r9, by rw [e22, h7]; exact r10, by rw [e22, e23, e174]; exact r11⟩
  · by_cases q1 : q = 1
    · rw [q1]
      exact ⟨hRB1.2.2.1, hRB1.2.2.2.1⟩
    · have b := hblk q hq q1
      rw [b 1 (by decide), b 4 (by decide)]
      exact r3 q hq
  · rw [e19, e171]
    have h9 := r2.1 i (by have := r2.2.2.2; omega)
    exact RB_blk (hblk _ h9.2.2 (by omega)) (r5 i (by omega))
  · rw [e21] at hf
    rw [e172]
    exact RB_blk (hblk _ (kd_s2 hi) (by omega)) (r8 i hi hf)

