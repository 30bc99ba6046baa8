def tS (s : Nat) (t : Int) : Nat := if t = 0 then s + 1 else s + 4
def RB (z : Zt) (s : Nat) (ρ : Nat → Int) : Prop := SI z s ∧ (∀ t : Int, (t = 0 ∨ t = 1) → z (tS s t) 3 = mN ρ t ∧ z (tS s t) 4 = ρ (58 + t).toNat ∧ ∀ k : Nat, (k : Int) < mN ρ t → z (tS s t + 1) k = mD ρ t k ∧ z (tS s t + 2) k = mL ρ t k) ∧ (z s 3 = ρ 14 ∧ z s 4 = ρ 55 ∧ z s 5 = ρ 56 ∧ z s 6 = ρ 57 ∧ z s 7 = ρ 60 ∧ z s 8 = ρ 61) ∧ ∀ j : Nat, (j : Int) < ρ 14 → ∀ w : Nat, w < 4 → z (s + 8 + j) w = mF ρ j w
theorem tS_1 (t : Int) : tS 1 t = tid t := rfl
theorem tS_or (s : Nat) (t : Int) : tS s t = s + 1 ∨ tS s t = s + 4 := by
  unfold tS
  split
  · exact Or.inl rfl
  · exact Or.inr rfl
theorem RB_cp {z z1 : Zt} {a b : Nat} {ρ : Nat → Int} (h : ∀ j : Nat, j < 18 → z1 (a + j) = z (b + j)) (hR : RB z b ρ) : RB z1 a ρ := by
  obtain ⟨hS, hT, hN, hF⟩ := hR
  have e0 : z1 a = z b := h 0 (by decide)
  have ho : ∀ t : Int, ∃ o : Nat, o + 2 < 18 ∧ tS a t = a + o ∧ tS b t = b + o := fun t => by
    unfold tS
    by_cases q : t = 0
    · exact ⟨1, by decide, by rw [if_pos q], by rw [if_pos q]⟩
    · exact ⟨4, by decide, by rw [if_neg q], by rw [if_neg q]⟩
  refine ⟨?_, fun t ht => ?_, ?_, fun j hj w hw => ?_⟩
  · obtain ⟨h1, h2, h3, h4, h5, h6, h7, h8, h9⟩ := hS
    have e1 := h 1 (by decide)
    have e2 := h 2 (by decide)
    have e3 := h 3 (by decide)
    have e4 := h 4 (by decide)
    have e5 := h 5 (by decide)
    have e6 := h 6 (by decide)
    refine ⟨?_, ?_, by rw [e1]; exact h3, by rw [e4]; exact h4, by rw [e0]; exact h5, by rw [e0]; exact h6, by rw [e0]; exact h7, by rw [e0]; exact h8, fun k hk => ?_⟩
    · unfold TI at h1 ⊢
      rw [e1, show a + 1 + 1 = a + 2 by omega, show a + 1 + 2 = a + 3 by omega, e2, e3]
      exact h1
    · unfold TI at h2 ⊢
      rw [e4, show a + 4 + 1 = a + 5 by omega, show a + 4 + 2 = a + 6 by omega, e5, e6]
      exact h2
    · have h := h9 k hk
      have e8 : z1 (a + 8 + k) = z (b + 8 + k) := by
        rw [show a + 8 + k = a + (8 + k) by omega, show b + 8 + k = b + (8 + k) by omega]
        exact ‹∀ j : Nat, j < 18 → z1 (a + j) = z (b + j)› _ (by omega)
      unfold FI at h ⊢
      rw [e8]
      exact h
  · obtain ⟨o, o1, o2, o3⟩ := ho t
    have h9 := hT t ht
    rw [o3] at h9
    rw [o2, h o (by omega), show a + o + 1 = a + (o + 1) by omega, show a + o + 2 = a + (o + 2) by omega, h (o + 1) (by omega), h (o + 2) (by omega)]
    exact h9
  · rw [e0]
    exact hN
  · have h10 : ρ 14 ≤ 10 := by
      have := hS.2.2.2.2.1
      have := hN.1
      omega
    rw [show a + 8 + j = a + (8 + j) by omega, h (8 + j) (by omega), show b + (8 + j) = b + 8 + j by omega]
    exact hF j hj w hw
theorem RB_blk {z z1 : Zt} {s : Nat} {ρ : Nat → Int} (h : blkE z z1 s) (hR : RB z s ρ) : RB z1 s ρ := RB_cp h hR
theorem RB_row {z : Zt} {s : Nat} {ρ σ : Nat → Int} (h : ∀ p : Nat, p < 62 → σ p = ρ p) (hR : RB z s ρ) : RB z s σ := by
  obtain ⟨hS, hT, hN, hF⟩ := hR
  have h14 := h 14 (by decide)
  have h10 : ρ 14 ≤ 10 := by
    have := hS.2.2.2.2.1
    have := hN.1
    omega
  refine ⟨hS, fun t ht => ?_, ?_, fun j hj w hw => ?_⟩
  · obtain ⟨a1, a2, a3⟩ := hT t ht
    have en : mN σ t = mN ρ t := by
      unfold mN
      exact h _ (by omega)
    have e58 : σ (58 + t).toNat = ρ (58 + t).toNat := h _ (by omega)
    have hg : mN ρ t ≤ 3 := by
      rw [← a1]
      rcases tS_or s t with q | q
      · rw [q]; exact hS.1.2.2.1
      · rw [q]; exact hS.2.1.2.2.1
    rw [en, e58]
    refine ⟨a1, a2, fun k hk => ?_⟩
    have e1 : mD σ t k = mD ρ t k := by
      unfold mD
      exact h _ (by omega)
    have e2 : mL σ t k = mL ρ t k := by
      unfold mL
      exact h _ (by omega)
    rw [e1, e2]
    exact a3 k hk
  · rw [h14, h 55 (by decide), h 56 (by decide), h 57 (by decide), h 60 (by decide), h 61 (by decide)]
    exact hN
  · rw [h14] at hj
    have e : mF σ j w = mF ρ j w := by
      unfold mF
      exact h _ (by omega)
    rw [e]
    exact hF j hj w hw
theorem RB_n {z : Zt} {s : Nat} {ρ : Nat → Int} (hR : RB z s ρ) : 0 ≤ ρ 14 ∧ ρ 14 ≤ 10 := by
  have h1 := hR.1.2.2.2.2.1
  have h2 := hR.2.2.1.1
  omega
theorem RB_TI {z : Zt} {s : Nat} {ρ : Nat → Int} (hR : RB z s ρ) (t : Int) : TI z (tS s t) := by
  rcases tS_or s t with q | q
  · rw [q]; exact hR.1.1
  · rw [q]; exact hR.1.2.1
theorem RB_MG {z : Zt} {s : Nat} {ρ : Nat → Int} (hR : RB z s ρ) : MG ρ := fun t ht => by
  obtain ⟨a1, -, a3⟩ := hR.2.1 t ht
  obtain ⟨-, g1, g2, g3, g4⟩ := RB_TI hR t
  rw [a1] at g1 g2 g3 g4
  refine ⟨g1, g2, fun k hk => ?_, fun k hk => ?_⟩
  · have := g3 k hk
    rw [(a3 k hk).1, (a3 k hk).2] at this
    exact this
  · have := g4 k hk
    rw [(a3 k (by omega)).1, (a3 (k + 1) (by omega)).1] at this
    exact this
theorem RB_MF {z : Zt} {s : Nat} {ρ : Nat → Int} (hR : RB z s ρ) {f : Int} (hf : 0 ≤ f ∧ f < ρ 14) : MF ρ f := by
  have h10 := RB_n hR
  have h9 := hR.1.2.2.2.2.2.2.2.2 f.toNat (by omega)
  have e := hR.2.2.2 f.toNat (by omega)
  rw [show ((f.toNat : Nat) : Int) = f by omega] at e
  unfold FI at h9
  have e0 := e 0 (by decide)
  have e1 := e 1 (by decide)
  have e2 := e 2 (by decide)
  have e3 := e 3 (by decide)
  rw [e0, e1, e2, e3] at h9
  exact h9
theorem RB_MI {z : Zt} {s : Nat} {ρ : Nat → Int} (hR : RB z s ρ) : MI ρ := by
  obtain ⟨n1, n2, n3, n4, n5, n6⟩ := hR.2.2.1
  have h6 := hR.1.2.2.2.2.2.1
  have h7 := hR.1.2.2.2.2.2.2.1
  have h8 := hR.1.2.2.2.2.2.2.2.1
  refine ⟨RB_MG hR, RB_n hR, fun f f1 f2 => RB_MF hR ⟨f1, f2⟩, by omega, by omega, by omega⟩
theorem RB_cal {z : Zt} {s : Nat} {ρ : Nat → Int} (hR : RB z s ρ) {t : Int} (ht : t = 0 ∨ t = 1) (d : Int) : calT z (tS s t) d = calM ρ t d ∧ fdT z (tS s t) d = fdM ρ t d := by
  obtain ⟨a1, -, a3⟩ := hR.2.1 t ht
  have hg := (RB_TI hR t).2.1
  unfold calT fdT calM fdM
  rw [a1]
  exact ⟨calN_congr (fun k hk => a3 k (by omega)), fdN_congr (fun k hk => a3 k (by omega))⟩
theorem RB_A {z : Zt} {s : Nat} {ρ : Nat → Int} (hR : RB z s ρ) {t : Int} (ht : t = 0 ∨ t = 1) : z (tS s t) 0 = 1 - t := by
  rcases ht with rfl | rfl
  · exact hR.1.2.2.1
  · exact hR.1.2.2.2.1
theorem RB_f {z : Zt} {s : Nat} {ρ : Nat → Int} (hR : RB z s ρ) {f : Int} (hf : 0 ≤ f ∧ f < ρ 14) {w : Nat} (hw : w < 4) : z (s + 8 + f.toNat) w = mF ρ f w := by
  have e := hR.2.2.2 f.toNat (by omega) w hw
  rw [show ((f.toNat : Nat) : Int) = f by omega] at e
  exact e
theorem RB_tw {z : Zt} {s : Nat} {ρ : Nat → Int} (hR : RB z s ρ) {f : Int} (hf : 0 ≤ f ∧ f < ρ 14) : tw z s (s + 8 + f.toNat) = tS s (mF ρ f 0) := by
  unfold tw tS
  have e := RB_f hR hf (w := 0) (by decide)
  have e2 : z (s + 8 + f.toNat) 0 = mF ρ f 0 := e
  rw [e2]
theorem RB_dS {z : Zt} {s : Nat} {ρ : Nat → Int} (hR : RB z s ρ) {f : Int} (hf : 0 ≤ f ∧ f < ρ 14) (y : Int) : dS z s (s + 8 + f.toNat) y = dM ρ f y ∧ kS z s (s + 8 + f.toNat) y = kM ρ f y ∧ ∀ d, yS z s (s + 8 + f.toNat) d = yM ρ f d := by
  have hF := RB_MF hR hf
  have ht := hF.1
  obtain ⟨a1, -, a3⟩ := hR.2.1 _ ht
  have hg := (RB_TI hR (mF ρ f 0)).2.1
  rw [a1] at hg
  have e1 : z (s + 8 + f.toNat) 1 = mF ρ f 1 := RB_f hR hf (w := 1) (by decide)
  have e2 : z (s + 8 + f.toNat) 2 = mF ρ f 2 := RB_f hR hf (w := 2) (by decide)
  have e3 : z (s + 8 + f.toNat) 3 = mF ρ f 3 := RB_f hR hf (w := 3) (by decide)
  have eA := RB_A hR ht
  have e55 := hR.2.2.1.2.1
  unfold dS kS yS dM kM yM
  rw [RB_tw hR hf, e1, e2, e3, eA, a1, e55]
  exact ⟨dueG_congr a3 hg, kG_congr a3 hg, fun d => yG_congr a3 hg d⟩
theorem RB_on {z : Zt} {s : Nat} {ρ : Nat → Int} (hR : RB z s ρ) {f : Int} (hf : 0 ≤ f ∧ f < ρ 14) (d : Int) : onS z s (s + 8 + f.toNat) d ↔ onM ρ f d := by
  have h := RB_dS hR hf
  unfold onS onM onK
  rw [(h 0).2.2, (h _).2.1, (h _).2.1]
theorem RB_onj {z : Zt} {s : Nat} {ρ : Nat → Int} (hR : RB z s ρ) (j : Nat) (d : Int) : ((j : Int) < z s 3 ∧ onS z s (s + 8 + j) d) ↔ ((j : Int) < ρ 14 ∧ onM ρ j d) := by
  rw [hR.2.2.1.1]
  by_cases q : (j : Int) < ρ 14
  · have := RB_on hR (f := (j : Int)) ⟨by omega, q⟩ d
    rw [show ((j : Int)).toNat = j by omega] at this
    rw [this]
  · simp [q]
theorem RB_qu {z : Zt} {s : Nat} {ρ : Nat → Int} (hR : RB z s ρ) (d : Int) : quS z s d ↔ quM ρ d := by
  have key : ∀ (j : Nat) (a : Int), (((j : Int) < z s 3 ∧ onS z s (s + 8 + j) d) ∧ ((j : Int) < z s 3 ∧ z (s + 8 + j) 0 = a)) ↔ (((j : Int) < ρ 14 ∧ onM ρ j d) ∧ mF ρ j 0 = a) := fun j a => by
    rw [RB_onj hR j d, hR.2.2.1.1]
    by_cases q : (j : Int) < ρ 14
    · have e := hR.2.2.2 j q 0 (by decide)
      rw [e]
      simp [q]
    · simp [q]
  unfold quS quM
  constructor
  · rintro ⟨⟨j, a1⟩, k, b1⟩
    exact ⟨⟨j, (key j 0).mp a1⟩, k, (key k 1).mp b1⟩
  · rintro ⟨⟨j, a1⟩, k, b1⟩
    exact ⟨⟨j, (key j 0).mpr a1⟩, k, (key k 1).mpr b1⟩
theorem RB_qw {z : Zt} {ρ : Nat → Int} (hR : RB z 1 ρ) (n : Nat) : qwS z n = qwM ρ n := by
  unfold qwS qwM
  rw [hR.2.2.1.2.2.2.1]
  exact cntP_congr (fun i _ => RB_qu hR _)
theorem bwN_congr {P Q : Nat → Int} : ∀ n : Nat, (∀ k, k < n → P k = Q k) → bwN P n = bwN Q n
  | 0, _ => rfl
  | n + 1, h => by
    simp only [bwN]
    rw [bwN_congr n (fun k hk => h k (by omega)), h n (by omega)]
theorem RB_bar {z : Zt} {ρ : Nat → Int} (hR : RB z 1 ρ) {f b : Int} (hf : 0 ≤ f ∧ f < ρ 14) (hb : -1 ≤ b ∧ b ≤ 6) : RB (zup z (9 + f.toNat) 3 b) 1 (updR ρ (15 + 4 * f + 3).toNat b) := by
  have h10 := RB_n hR
  have hRR := hR
  obtain ⟨hS, hT, hN, hF⟩ := hR
  have o : ∀ i, i ≠ 9 + f.toNat → zup z (9 + f.toNat) 3 b i = z i := fun i hi => zup_o hi 3 b
  have u : ∀ p : Nat, p ≠ (15 + 4 * f + 3).toNat → updR ρ (15 + 4 * f + 3).toNat b p = ρ p := fun p hp => by simp [updR, hp]
  refine ⟨barZ_SI hS (by omega) hb, fun t ht => ?_, ?_, fun j hj w hw => ?_⟩
  · obtain ⟨a1, a2, a3⟩ := hT t ht
    have ho := tS_or 1 t
    have hg := (RB_TI hRR t).2.2.1
    have en : mN (updR ρ (15 + 4 * f + 3).toNat b) t = mN ρ t := by
      unfold mN
      exact u _ (by omega)
    rw [o _ (by omega), en, u _ (by omega)]
    refine ⟨a1, a2, fun k hk => ?_⟩
    have e1 : mD (updR ρ (15 + 4 * f + 3).toNat b) t k = mD ρ t k := by
      unfold mD
      exact u _ (by omega)
    have e2 : mL (updR ρ (15 + 4 * f + 3).toNat b) t k = mL ρ t k := by
      unfold mL
      exact u _ (by omega)
    rw [o _ (by omega), o _ (by omega), e1, e2]
    exact a3 k hk
  · rw [o _ (by omega), u _ (by omega), u _ (by omega), u _ (by omega), u _ (by omega), u _ (by omega), u _ (by omega)]
    exact hN
  · rw [u _ (by omega)] at hj
    have h9 := hF j hj w hw
    by_cases q : j = f.toNat ∧ w = 3
    · obtain ⟨q1, q2⟩ := q
      subst q1 q2
      have e : mF (updR ρ (15 + 4 * f + 3).toNat b) ((f.toNat : Nat) : Int) ((3 : Nat) : Int) = b := by
        unfold mF updR
        rw [if_pos (by omega)]
      rw [e, show 1 + 8 + f.toNat = 9 + f.toNat by omega]
      exact zup_s _ _ _ _
    · have e : mF (updR ρ (15 + 4 * f + 3).toNat b) j w = mF ρ j w := by
        unfold mF
        exact u _ (by omega)
      rw [e, ← h9]
      exact zup_n _ _ (by omega)

theorem RB_4 {y : Zt} {ρ : Nat → Int} {q : Int} (hB : RB y 1 ρ) (hq : 1 ≤ q ∧ q ≤ 9) : RB (zup y 1 4 q) 1 (updR ρ 55 q) := by
  obtain ⟨hS, hT, hN, hF⟩ := hB
  have u : ∀ p : Nat, p ≠ 55 → updR ρ 55 q p = ρ p := fun p hp => by simp [updR, hp]
  have u5 : updR ρ 55 q 55 = q := by simp [updR]
  obtain ⟨h1, h2, h3, h4, h5, h6, h7, h8, h9⟩ := hS
  refine ⟨⟨h1, h2, h3, h4, h5, hq, h7, h8, fun k hk => ?_⟩, fun t ht => ?_, ?_, fun j hj w hw => ?_⟩
  · unfold FI
    rw [zup_o (by omega)]
    exact h9 k hk
  · obtain ⟨a1, a2, a3⟩ := hT t ht
    have ho := tS_or 1 t
    have e1 : mN (updR ρ 55 q) t = mN ρ t := by
      unfold mN
      exact u _ (by omega)
    have hg : mN ρ t ≤ 3 := by
      rw [← a1]
      rcases ho with q | q
      · rw [q]; exact h1.2.2.1
      · rw [q]; exact h2.2.2.1
    rw [zup_o (by omega), e1, u _ (by omega)]
    refine ⟨a1, a2, fun k hk => ?_⟩
    have e2 : mD (updR ρ 55 q) t k = mD ρ t k := by
      unfold mD
      exact u _ (by omega)
    have e3 : mL (updR ρ 55 q) t k = mL ρ t k := by
      unfold mL
      exact u _ (by omega)
    rw [zup_o (by omega), zup_o (by omega), e2, e3]
    exact a3 k hk
  · rw [u 14 (by decide), u5, u 56 (by decide), u 57 (by decide), u 60 (by decide), u 61 (by decide)]
    exact ⟨hN.1, rfl, hN.2.2⟩
  · rw [u _ (by decide)] at hj
    have e : mF (updR ρ 55 q) j w = mF ρ j w := by
      unfold mF
      have := hN.1
      exact u _ (by omega)
    rw [zup_o (by omega), e]
    exact hF j hj w hw
theorem RB_5 {y : Zt} {ρ : Nat → Int} {q : Int} (hB : RB y 1 ρ) (hq : 0 ≤ q ∧ q ≤ 9) : RB (zup y 1 5 q) 1 (updR ρ 56 q) := by
  obtain ⟨hS, hT, hN, hF⟩ := hB
  have u : ∀ p : Nat, p ≠ 56 → updR ρ 56 q p = ρ p := fun p hp => by simp [updR, hp]
  have u5 : updR ρ 56 q 56 = q := by simp [updR]
  obtain ⟨h1, h2, h3, h4, h5, h6, h7, h8, h9⟩ := hS
  refine ⟨⟨h1, h2, h3, h4, h5, h6, hq, h8, fun k hk => ?_⟩, fun t ht => ?_, ?_, fun j hj w hw => ?_⟩
  · unfold FI
    rw [zup_o (by omega)]
    exact h9 k hk
  · obtain ⟨a1, a2, a3⟩ := hT t ht
    have ho := tS_or 1 t
    have e1 : mN (updR ρ 56 q) t = mN ρ t := by
      unfold mN
      exact u _ (by omega)
    have hg : mN ρ t ≤ 3 := by
      rw [← a1]
      rcases ho with q | q
      · rw [q]; exact h1.2.2.1
      · rw [q]; exact h2.2.2.1
    rw [zup_o (by omega), e1, u _ (by omega)]
    refine ⟨a1, a2, fun k hk => ?_⟩
    have e2 : mD (updR ρ 56 q) t k = mD ρ t k := by
      unfold mD
      exact u _ (by omega)
    have e3 : mL (updR ρ 56 q) t k = mL ρ t k := by
      unfold mL
      exact u _ (by omega)
    rw [zup_o (by omega), zup_o (by omega), e2, e3]
    exact a3 k hk
  · rw [u 14 (by decide), u 55 (by decide), u5, u 57 (by decide), u 60 (by decide), u 61 (by decide)]
    exact ⟨hN.1, hN.2.1, rfl, hN.2.2.2⟩
  · rw [u _ (by decide)] at hj
    have e : mF (updR ρ 56 q) j w = mF ρ j w := by
      unfold mF
      have := hN.1
      exact u _ (by omega)
    rw [zup_o (by omega), e]
    exact hF j hj w hw

theorem zup_at (X : Zt) (i k : Nat) (q : Int) : zup X i k q i = updR (X i) k q := by
  funext j
  simp [zup, updR]
theorem GI_push {n : Int} {f g f' g' : Nat → Int} {a q : Int} (h : GI n f g) (hn : n < 3) (ha : 0 ≤ a ∧ a ≤ 9999) (hq : 1 ≤ q ∧ q ≤ 40) (hl : n = 0 ∨ f (n - 1).toNat < a) (hf : ∀ k : Nat, f' k = if k = n.toNat then a else f k) (hg : ∀ k : Nat, g' k = if k = n.toNat then q else g k) : GI (n + 1) f' g' := by
  obtain ⟨h1, h2, h3, h4⟩ := h
  refine ⟨by omega, by omega, fun k hk => ?_, fun k hk => ?_⟩
  · rw [hf, hg]
    by_cases e : k = n.toNat
    · rw [if_pos e, if_pos e]
      omega
    · rw [if_neg e, if_neg e]
      exact h3 k (by omega)
  · rw [hf, hf]
    by_cases e : k + 1 = n.toNat
    · rw [if_neg (by omega), if_pos e]
      rcases hl with q | q
      · omega
      · rw [show (n - 1).toNat = k by omega] at q
        exact q
    · rw [if_neg (by omega), if_neg e]
      exact h4 k (by omega)
theorem RB_gap {y : Zt} {ρ σ : Nat → Int} {t a q : Int} (hB : RB y 1 ρ) (ht : t = 0 ∨ t = 1) (ha : 0 ≤ a ∧ a ≤ 9999) (hq : 1 ≤ q ∧ q ≤ 40) (hn : mN ρ t < 3) (hl : mN ρ t = 0 ∨ mD ρ t (mN ρ t - 1).toNat < a)
    (hσ : ∀ p, σ p = if p = (0 + 7 * t).toNat then mN ρ t + 1 else if p = (0 + 7 * t + 2 + 2 * mN ρ t).toNat then q else if p = (0 + 7 * t + 1 + 2 * mN ρ t).toNat then a else ρ p) : RB (lvZ y (tid t) a q) 1 σ := by
  have hRR := hB
  obtain ⟨hS, hT, hN, hF⟩ := hB
  obtain ⟨a1, a2, a3⟩ := hT t ht
  have g0 := RB_TI hRR t
  have g := g0.2
  rw [a1] at g
  rw [tS_1] at a1 a2 a3 g g0
  have hn0 := g.1
  have hlast : mN ρ t = 0 ∨ y (tid t + 1) (mN ρ t - 1).toNat < a := by
    by_cases h0 : mN ρ t = 0
    · exact Or.inl h0
    · rcases hl with q9 | q9
      · exact Or.inl q9
      · refine Or.inr ?_
        rw [(a3 (mN ρ t - 1).toNat (by omega)).1]
        exact q9
  have hto := tid_or t
  have e3 : ∀ j, lvZ y (tid t) a q (tid t) j = if j = 3 then mN ρ t + 1 else y (tid t) j := fun j => by
    unfold lvZ
    rw [zup_r, zup_o (by omega), zup_o (by omega), a1]
  have eD : ∀ k, lvZ y (tid t) a q (tid t + 1) k = if k = (mN ρ t).toNat then a else y (tid t + 1) k := fun k => by
    unfold lvZ
    rw [zup_o (by omega), zup_o (by omega), zup_r, a1]
  have eL : ∀ k, lvZ y (tid t) a q (tid t + 2) k = if k = (mN ρ t).toNat then q else y (tid t + 2) k := fun k => by
    unfold lvZ
    rw [zup_o (by omega), zup_r, zup_o (by omega), a1]
  have eo : ∀ i, i ≠ tid t → i ≠ tid t + 1 → i ≠ tid t + 2 → lvZ y (tid t) a q i = y i := fun i h1 h2 h3 => by
    unfold lvZ
    rw [zup_o h1, zup_o h3, zup_o h2]
  generalize lvZ y (tid t) a q = Y at e3 eD eL eo ⊢
  have gN : GI (mN ρ t + 1) (Y (tid t + 1)) (Y (tid t + 2)) := GI_push g hn ha hq hlast eD eL
  have hTI : TI Y (tid t) := ⟨by rw [e3, if_neg (by decide)]; exact g0.1, by rw [e3 3, if_pos rfl]; exact gN⟩
  have e30 : Y (tid t) 0 = y (tid t) 0 := by rw [e3, if_neg (by decide)]
  have e34 : Y (tid t) 4 = y (tid t) 4 := by rw [e3, if_neg (by decide)]
  have e33 : Y (tid t) 3 = mN ρ t + 1 := by rw [e3, if_pos rfl]
  have hσ14 : ∀ p, 14 ≤ p → σ p = ρ p := fun p hp => by
    rw [hσ, if_neg (by omega), if_neg (by omega), if_neg (by omega)]
  have hmine : mN σ t = mN ρ t + 1 ∧ ∀ k : Nat, (k : Int) < mN ρ t + 1 → mD σ t k = Y (tid t + 1) k ∧ mL σ t k = Y (tid t + 2) k := by
    constructor
    · unfold mN
      rw [hσ, if_pos (by omega)]
      rfl
    · intro k hk
      have eq1 : mD σ t k = if k = (mN ρ t).toNat then a else mD ρ t k := by
        unfold mD
        rw [hσ, if_neg (by omega), if_neg (by omega)]
        by_cases e : k = (mN ρ t).toNat
        · rw [if_pos (by omega), if_pos e]
        · rw [if_neg (by omega), if_neg e]
      have eq2 : mL σ t k = if k = (mN ρ t).toNat then q else mL ρ t k := by
        unfold mL
        rw [hσ, if_neg (by omega)]
        by_cases e : k = (mN ρ t).toNat
        · rw [if_pos (by omega), if_pos e]
        · rw [if_neg (by omega), if_neg (by omega), if_neg e]
      rw [eq1, eq2, eD, eL]
      by_cases e : k = (mN ρ t).toNat
      · rw [if_pos e, if_pos e, if_pos e, if_pos e]
        exact ⟨rfl, rfl⟩
      · rw [if_neg e, if_neg e, if_neg e, if_neg e]
        have h9 := a3 k (by omega)
        exact ⟨h9.1.symm, h9.2.symm⟩
  have hother : ∀ t' : Int, (t' = 0 ∨ t' = 1) → t' ≠ t → mN σ t' = mN ρ t' ∧ ∀ k : Nat, (k : Int) < mN ρ t' → mD σ t' k = mD ρ t' k ∧ mL σ t' k = mL ρ t' k := fun t' ht' hne => by
    have hg := (RB_MG hRR t' ht').2.1
    constructor
    · unfold mN
      rw [hσ, if_neg (by omega), if_neg (by omega), if_neg (by omega)]
    · intro k hk
      unfold mD mL
      rw [hσ, if_neg (by omega), if_neg (by omega), if_neg (by omega), hσ, if_neg (by omega), if_neg (by omega), if_neg (by omega)]
      exact ⟨rfl, rfl⟩
  obtain ⟨h1, h2, h3, h4, h5, h6, h7, h8, h9⟩ := hS
  have e1 : Y 1 = y 1 := eo 1 (by omega) (by omega) (by omega)
  have eF : ∀ k, Y (1 + 8 + k) = y (1 + 8 + k) := fun k => eo _ (by omega) (by omega) (by omega)
  refine ⟨⟨?_, ?_, ?_, ?_, by rw [e1]; exact h5, by rw [e1]; exact h6, by rw [e1]; exact h7, by rw [e1]; exact h8, fun k hk => by unfold FI; rw [eF]; exact h9 k hk⟩, fun t' ht' => ?_, ?_, fun j hj w hw => ?_⟩
  · rcases ht with rfl | rfl
    · exact hTI
    · unfold TI
      rw [eo (1 + 1) (by decide) (by decide) (by decide), eo (1 + 1 + 1) (by decide) (by decide) (by decide), eo (1 + 1 + 2) (by decide) (by decide) (by decide)]
      exact h1
  · rcases ht with rfl | rfl
    · unfold TI
      rw [eo (1 + 4) (by decide) (by decide) (by decide), eo (1 + 4 + 1) (by decide) (by decide) (by decide), eo (1 + 4 + 2) (by decide) (by decide) (by decide)]
      exact h2
    · exact hTI
  · rcases ht with rfl | rfl
    · exact e30.trans h3
    · rw [eo (1 + 1) (by decide) (by decide) (by decide)]
      exact h3
  · rcases ht with rfl | rfl
    · rw [eo (1 + 4) (by decide) (by decide) (by decide)]
      exact h4
    · exact e30.trans h4
  · by_cases q9 : t' = t
    · subst q9
      rw [tS_1, hmine.1, e33, e34, hσ14 _ (by omega)]
      exact ⟨rfl, a2, fun k hk => ⟨(hmine.2 k hk).1.symm, (hmine.2 k hk).2.symm⟩⟩
    · have hd : tid t' ≠ tid t ∧ tid t' ≠ tid t + 1 ∧ tid t' ≠ tid t + 2 ∧ tid t' + 1 ≠ tid t ∧ tid t' + 1 ≠ tid t + 1 ∧ tid t' + 1 ≠ tid t + 2 ∧ tid t' + 2 ≠ tid t ∧ tid t' + 2 ≠ tid t + 1 ∧ tid t' + 2 ≠ tid t + 2 := by
        rcases ht with rfl | rfl <;> rcases ht' with rfl | rfl
        · exact absurd rfl q9
        · decide
        · decide
        · exact absurd rfl q9
      obtain ⟨b1, b2⟩ := hother t' ht' q9
      have b3 := hT t' ht'
      rw [tS_1] at b3 ⊢
      rw [eo (tid t') (by omega) (by omega) (by omega), eo (tid t' + 1) (by omega) (by omega) (by omega), eo (tid t' + 2) (by omega) (by omega) (by omega), b1, hσ14 _ (by omega)]
      exact ⟨b3.1, b3.2.1, fun k hk => by rw [(b2 k hk).1, (b2 k hk).2]; exact b3.2.2 k hk⟩
  · rw [e1, hσ14 _ (by decide), hσ14 _ (by decide), hσ14 _ (by decide), hσ14 _ (by decide), hσ14 _ (by decide), hσ14 _ (by decide)]
    exact hN
  · rw [hσ14 _ (by decide)] at hj
    have e : mF σ j w = mF ρ j w := by
      unfold mF
      exact hσ14 _ (by omega)
    rw [eF, e]
    exact hF j hj w hw
theorem RB_feast {y : Zt} {ρ σ : Nat → Int} {t m q : Int} (hB : RB y 1 ρ) (ht : t = 0 ∨ t = 1) (hm : 1 ≤ m ∧ m ≤ 12) (hq : 1 ≤ q ∧ q ≤ 31) (hn : ρ 14 < 10)
    (hσ : ∀ p, σ p = if p = 14 then ρ 14 + 1 else if p = (15 + 4 * ρ 14 + 3).toNat then -1 else if p = (15 + 4 * ρ 14 + 2).toNat then q else if p = (15 + 4 * ρ 14 + 1).toNat then m else if p = (15 + 4 * ρ 14).toNat then t else ρ p) : RB (pfZ y 1 t m q) 1 σ := by
  have hRR := hB
  have h10 := RB_n hB
  obtain ⟨hS, hT, hN, hF⟩ := hB
  have hn3 := hN.1
  have eX : ∀ j, pfZ y 1 t m q (9 + (ρ 14).toNat) j = if j = 3 then -1 else if j = 2 then q else if j = 1 then m else if j = 0 then t else y (9 + (ρ 14).toNat) j := fun j => by
    unfold pfZ
    rw [hn3, show 1 + 7 + 1 + (ρ 14).toNat = 9 + (ρ 14).toNat by omega, zup_o (by omega), zup_r, zup_r, zup_r, zup_r]
  have e1 : ∀ j, pfZ y 1 t m q 1 j = if j = 3 then ρ 14 + 1 else y 1 j := fun j => by
    unfold pfZ
    rw [zup_r, zup_o (by omega), zup_o (by omega), zup_o (by omega), zup_o (by omega), hn3]
  have eo : ∀ i, i ≠ 1 → i ≠ 9 + (ρ 14).toNat → pfZ y 1 t m q i = y i := fun i a b => by
    unfold pfZ
    rw [hn3, show 1 + 7 + 1 + (ρ 14).toNat = 9 + (ρ 14).toNat by omega, zup_o a, zup_o b, zup_o b, zup_o b, zup_o b]
  generalize pfZ y 1 t m q = Y at eX e1 eo ⊢
  have hσl : ∀ p, p < 14 ∨ 55 ≤ p → σ p = ρ p := fun p hp => by
    rw [hσ, if_neg (by omega), if_neg (by omega), if_neg (by omega), if_neg (by omega), if_neg (by omega)]
  have hσ14 : σ 14 = ρ 14 + 1 := by rw [hσ, if_pos rfl]
  obtain ⟨h1, h2, h3, h4, h5, h6, h7, h8, h9⟩ := hS
  have eT : ∀ i, 2 ≤ i → i < 9 → Y i = y i := fun i a b => eo i (by omega) (by omega)
  refine ⟨⟨?_, ?_, ?_, ?_, ?_, ?_, ?_, ?_, fun k hk => ?_⟩, fun t' ht' => ?_, ?_, fun j hj w hw => ?_⟩
  · unfold TI
    rw [eT (1 + 1) (by decide) (by decide), eT (1 + 1 + 1) (by decide) (by decide), eT (1 + 1 + 2) (by decide) (by decide)]
    exact h1
  · unfold TI
    rw [eT (1 + 4) (by decide) (by decide), eT (1 + 4 + 1) (by decide) (by decide), eT (1 + 4 + 2) (by decide) (by decide)]
    exact h2
  · rw [eT (1 + 1) (by decide) (by decide)]
    exact h3
  · rw [eT (1 + 4) (by decide) (by decide)]
    exact h4
  · rw [e1, if_pos rfl]
    omega
  · rw [e1, if_neg (by decide)]
    exact h6
  · rw [e1, if_neg (by decide)]
    exact h7
  · rw [e1, if_neg (by decide)]
    exact h8
  · by_cases e : k = (ρ 14).toNat
    · subst e
      have x3 : Y (9 + (ρ 14).toNat) 3 = -1 := by rw [eX, if_pos rfl]
      have x2 : Y (9 + (ρ 14).toNat) 2 = q := by rw [eX, if_neg (by decide), if_pos rfl]
      have x1 : Y (9 + (ρ 14).toNat) 1 = m := by rw [eX, if_neg (by decide), if_neg (by decide), if_pos rfl]
      have x0 : Y (9 + (ρ 14).toNat) 0 = t := by rw [eX, if_neg (by decide), if_neg (by decide), if_neg (by decide), if_pos rfl]
      unfold FI
      rw [show 1 + 8 + (ρ 14).toNat = 9 + (ρ 14).toNat by omega, x0, x1, x2, x3]
      exact ⟨ht, hm.1, hm.2, hq.1, hq.2, by decide, by decide⟩
    · unfold FI
      rw [eo _ (by omega) (by omega)]
      exact h9 k hk
  · have hto := tS_or 1 t'
    have e1' : mN σ t' = mN ρ t' := by
      unfold mN
      exact hσl _ (by omega)
    have hg := (RB_MG hRR t' ht').2.1
    rw [eT _ (by omega) (by omega), eT (tS 1 t' + 1) (by omega) (by omega), eT (tS 1 t' + 2) (by omega) (by omega), e1', hσl _ (by omega)]
    obtain ⟨a1, a2, a3⟩ := hT t' ht'
    refine ⟨a1, a2, fun k hk => ?_⟩
    have e2 : mD σ t' k = mD ρ t' k := by
      unfold mD
      exact hσl _ (by omega)
    have e3 : mL σ t' k = mL ρ t' k := by
      unfold mL
      exact hσl _ (by omega)
    rw [e2, e3]
    exact a3 k hk
  · rw [e1, if_pos rfl, e1, if_neg (by decide), e1, if_neg (by decide), e1, if_neg (by decide), e1, if_neg (by decide), e1, if_neg (by decide), hσ14, hσl _ (by omega), hσl _ (by omega), hσl _ (by omega), hσl _ (by omega), hσl _ (by omega)]
    exact ⟨rfl, hN.2⟩
  · rw [hσ14] at hj
    by_cases e : j = (ρ 14).toNat
    · subst e
      have hs : mF σ (((ρ 14).toNat : Nat) : Int) w = if w = 3 then -1 else if w = 2 then q else if w = 1 then m else t := by
        unfold mF
        rw [hσ, if_neg (by omega)]
        by_cases w3 : w = 3
        · rw [if_pos (by omega), if_pos w3]
        · rw [if_neg (by omega), if_neg w3]
          by_cases w2 : w = 2
          · rw [if_pos (by omega), if_pos w2]
          · rw [if_neg (by omega), if_neg w2]
            by_cases w1 : w = 1
            · rw [if_pos (by omega), if_pos w1]
            · rw [if_neg (by omega), if_neg w1, if_pos (by omega)]
      rw [show 1 + 8 + (ρ 14).toNat = 9 + (ρ 14).toNat by omega, eX, hs]
      rcases (show w = 0 ∨ w = 1 ∨ w = 2 ∨ w = 3 by omega) with rfl | rfl | rfl | rfl <;> simp
    · have e9 : mF σ j w = mF ρ j w := by
        unfold mF
        rw [hσ, if_neg (by omega), if_neg (by omega), if_neg (by omega), if_neg (by omega), if_neg (by omega)]
      rw [eo _ (by omega) (by omega), e9]
      exact hF j (by omega) w hw
theorem RB_key {z : Zt} {ρ : Nat → Int} (hR : RB z 1 ρ) (j : Nat) (d a : Int) : (((j : Int) < z 1 3 ∧ onS z 1 (9 + j) d) ∧ ((j : Int) < z 1 3 ∧ z (9 + j) 0 = a)) ↔ (((j : Int) < ρ 14 ∧ onM ρ j d) ∧ mF ρ j 0 = a) := by
  have h9 := RB_onj hR j d
  rw [show 1 + 8 + j = 9 + j by omega] at h9
  rw [h9, hR.2.2.1.1]
  by_cases q : (j : Int) < ρ 14
  · have e := hR.2.2.2 j q 0 (by decide)
    rw [show 1 + 8 + j = 9 + j by omega] at e
    have e2 : z (9 + j) 0 = mF ρ j 0 := e
    rw [e2]
    simp [q]
  · simp [q]
theorem cnt_eq {z : Zt} {ρ : Nat → Int} (hR : RB z 1 ρ) (d a : Int) : cntP (fun j => ((j : Int) < z 1 3 ∧ onS z 1 (9 + j) d) ∧ ((j : Int) < z 1 3 ∧ z (9 + j) 0 = a)) 10 = cntP (fun j => ((j : Int) < ρ 14 ∧ onM ρ j d) ∧ mF ρ j 0 = a) (ρ 14).toNat := by
  have h10 := RB_n hR
  have e : (10 : Nat) = (ρ 14).toNat + (10 - (ρ 14).toNat) := by omega
  refine (cntP_congr (fun j _ => RB_key hR j d a)).trans ((congrArg (cntP _) e).trans (cntP_cut (fun j hj h => ?_)))
  have := h.1.1
  omega
theorem RB_pass {z Y : Zt} {ρ : Nat → Int} {q : Int} (hB : RB z 1 ρ) (hq : 0 ≤ q) (hd : z 1 6 + q ≤ 9999)
    (e2 : ∀ j, Y 2 j = if j = 4 then z 2 4 + sumN (fun i => cntP (fun j => ((j : Int) < z 1 3 ∧ onS z 1 (9 + j) (z 1 6 + i)) ∧ ((j : Int) < z 1 3 ∧ z (9 + j) 0 = 0)) 10) q.toNat else z 2 j)
    (e5 : ∀ j, Y 5 j = if j = 4 then z 5 4 + sumN (fun i => cntP (fun j => ((j : Int) < z 1 3 ∧ onS z 1 (9 + j) (z 1 6 + i)) ∧ ((j : Int) < z 1 3 ∧ z (9 + j) 0 = 1)) 10) q.toNat else z 5 j)
    (e1 : ∀ j, Y 1 j = if j = 6 then z 1 6 + q else if j = 8 then z 1 8 + sumN (fun i => ind (∀ j : Nat, ¬ ((j : Int) < z 1 3 ∧ onS z 1 (9 + j) (z 1 6 + i))) * z 1 5) q.toNat else if j = 7 then z 1 7 + qwS z q.toNat else z 1 j)
    (eo : ∀ i, 1 ≤ i → i < 19 → i ≠ 1 → i ≠ 2 → i ≠ 5 → Y i = z i) : RB Y 1 (psR ρ q.toNat) := by
  have hRR := hB
  have hag := psR_ag ρ q.toNat
  have h10 := RB_n hB
  obtain ⟨hS, hT, hN, hF⟩ := hB
  have h6z := hN.2.2.2.1
  rw [h6z] at e2 e5 e1
  have eA : sumN (fun i => cntP (fun j => ((j : Int) < z 1 3 ∧ onS z 1 (9 + j) (ρ 57 + i)) ∧ ((j : Int) < z 1 3 ∧ z (9 + j) 0 = 0)) 10) q.toNat = sumN (fun i => cntP (fun j => ((j : Int) < ρ 14 ∧ onM ρ j (ρ 57 + i)) ∧ mF ρ j 0 = 0) (ρ 14).toNat) q.toNat := sumN_congr (fun i _ => cnt_eq hRR _ _)
  have eB : sumN (fun i => cntP (fun j => ((j : Int) < z 1 3 ∧ onS z 1 (9 + j) (ρ 57 + i)) ∧ ((j : Int) < z 1 3 ∧ z (9 + j) 0 = 1)) 10) q.toNat = sumN (fun i => cntP (fun j => ((j : Int) < ρ 14 ∧ onM ρ j (ρ 57 + i)) ∧ mF ρ j 0 = 1) (ρ 14).toNat) q.toNat := sumN_congr (fun i _ => cnt_eq hRR _ _)
  have eC : sumN (fun i => ind (∀ j : Nat, ¬ ((j : Int) < z 1 3 ∧ onS z 1 (9 + j) (ρ 57 + i))) * z 1 5) q.toNat = sumN (fun i => ind (∀ j : Nat, ¬ ((j : Int) < ρ 14 ∧ onM ρ j (ρ 57 + i))) * ρ 56) q.toNat := sumN_congr (fun i _ => by
    rw [hN.2.2.1]
    refine congrArg (· * ρ 56) (ind_c (forall_congr' fun j => not_congr ?_))
    have h9 := RB_onj hRR j (ρ 57 + i)
    rw [show 1 + 8 + j = 9 + j by omega] at h9
    exact h9)
  rw [eA] at e2
  rw [eB] at e5
  rw [eC, RB_qw hRR] at e1
  have p58 : psR ρ q.toNat 58 = ρ 58 + sumN (fun i => cntP (fun j => ((j : Int) < ρ 14 ∧ onM ρ j (ρ 57 + i)) ∧ mF ρ j 0 = 0) (ρ 14).toNat) q.toNat := by simp [psR]
  have p59 : psR ρ q.toNat 59 = ρ 59 + sumN (fun i => cntP (fun j => ((j : Int) < ρ 14 ∧ onM ρ j (ρ 57 + i)) ∧ mF ρ j 0 = 1) (ρ 14).toNat) q.toNat := by simp [psR]
  have p60 : psR ρ q.toNat 60 = ρ 60 + qwM ρ q.toNat := by simp [psR]
  have p61 : psR ρ q.toNat 61 = ρ 61 + sumN (fun i => ind (∀ j : Nat, ¬ ((j : Int) < ρ 14 ∧ onM ρ j (ρ 57 + i))) * ρ 56) q.toNat := by simp [psR]
  have p57 : psR ρ q.toNat 57 = ρ 57 + q := by
    rw [psR_57]
    omega
  have t0 := hT 0 (Or.inl rfl)
  have t1 := hT 1 (Or.inr rfl)
  generalize psR ρ q.toNat = σ at hag p57 p58 p59 p60 p61 ⊢
  generalize sumN (fun i => cntP (fun j => ((j : Int) < ρ 14 ∧ onM ρ j (ρ 57 + i)) ∧ mF ρ j 0 = 0) (ρ 14).toNat) q.toNat = A at e2 p58
  generalize sumN (fun i => cntP (fun j => ((j : Int) < ρ 14 ∧ onM ρ j (ρ 57 + i)) ∧ mF ρ j 0 = 1) (ρ 14).toNat) q.toNat = B at e5 p59
  generalize sumN (fun i => ind (∀ j : Nat, ¬ ((j : Int) < ρ 14 ∧ onM ρ j (ρ 57 + i))) * ρ 56) q.toNat = C at e1 p61
  clear eA eB eC
  obtain ⟨h1, h2, h3, h4, h5, h6, h7, h8, h9⟩ := hS
  have e20 : Y 2 0 = z 2 0 := by rw [e2, if_neg (by decide)]
  have e23 : Y 2 3 = z 2 3 := by rw [e2, if_neg (by decide)]
  have e24 : Y 2 4 = z 2 4 + A := by rw [e2, if_pos rfl]
  have e50 : Y 5 0 = z 5 0 := by rw [e5, if_neg (by decide)]
  have e53 : Y 5 3 = z 5 3 := by rw [e5, if_neg (by decide)]
  have e54 : Y 5 4 = z 5 4 + B := by rw [e5, if_pos rfl]
  have f3 : Y 3 = z 3 := eo 3 (by decide) (by decide) (by decide) (by decide) (by decide)
  have f4 : Y 4 = z 4 := eo 4 (by decide) (by decide) (by decide) (by decide) (by decide)
  have f6 : Y 6 = z 6 := eo 6 (by decide) (by decide) (by decide) (by decide) (by decide)
  have f7 : Y 7 = z 7 := eo 7 (by decide) (by decide) (by decide) (by decide) (by decide)
  have g3 : Y 1 3 = z 1 3 := by rw [e1, if_neg (by decide), if_neg (by decide), if_neg (by decide)]
  have g4 : Y 1 4 = z 1 4 := by rw [e1, if_neg (by decide), if_neg (by decide), if_neg (by decide)]
  have g5 : Y 1 5 = z 1 5 := by rw [e1, if_neg (by decide), if_neg (by decide), if_neg (by decide)]
  have g6 : Y 1 6 = ρ 57 + q := by rw [e1, if_pos rfl]
  have g7 : Y 1 7 = z 1 7 + qwM ρ q.toNat := by rw [e1, if_neg (by decide), if_neg (by decide), if_pos rfl]
  have g8 : Y 1 8 = z 1 8 + C := by rw [e1, if_neg (by decide), if_pos rfl]
  have eF : ∀ k, k < 10 → Y (1 + 8 + k) = z (1 + 8 + k) := fun k hk => eo _ (by omega) (by omega) (by omega) (by omega) (by omega)
  have hlow : ∀ p, p < 57 → σ p = ρ p := hag
  refine ⟨⟨?_, ?_, e20.trans h3, e50.trans h4, by rw [g3]; exact h5, by rw [g4]; exact h6, by rw [g5]; exact h7, by rw [g6]; omega, fun k hk => by unfold FI; rw [eF k hk]; exact h9 k hk⟩, fun t ht => ?_, ?_, fun j hj w hw => ?_⟩
  · show (Y 2 0 = 0 ∨ Y 2 0 = 1) ∧ GI (Y 2 3) (Y 3) (Y 4)
    rw [e20, e23, f3, f4]
    exact h1
  · show (Y 5 0 = 0 ∨ Y 5 0 = 1) ∧ GI (Y 5 3) (Y 6) (Y 7)
    rw [e50, e53, f6, f7]
    exact h2
  · have hM := agR_mN hag ht
    have hMD : ∀ k : Nat, (k : Int) < mN ρ t → mD σ t k = mD ρ t k ∧ mL σ t k = mL ρ t k := fun k hk => by
      have hg := (RB_MG hRR t ht).2.1
      exact agR_mD hag ht (by omega)
    rw [hM]
    rcases ht with rfl | rfl
    · show Y 2 3 = mN ρ 0 ∧ Y 2 4 = σ 58 ∧ ∀ k : Nat, (k : Int) < mN ρ 0 → Y 3 k = mD σ 0 k ∧ Y 4 k = mL σ 0 k
      rw [e23, e24, f3, f4, p58]
      refine ⟨t0.1, by have e9 : z 2 4 = ρ 58 := t0.2.1; rw [e9], fun k hk => ?_⟩
      rw [(hMD k hk).1, (hMD k hk).2]
      exact t0.2.2 k hk
    · show Y 5 3 = mN ρ 1 ∧ Y 5 4 = σ 59 ∧ ∀ k : Nat, (k : Int) < mN ρ 1 → Y 6 k = mD σ 1 k ∧ Y 7 k = mL σ 1 k
      rw [e53, e54, f6, f7, p59]
      refine ⟨t1.1, by have e9 : z 5 4 = ρ 59 := t1.2.1; rw [e9], fun k hk => ?_⟩
      rw [(hMD k hk).1, (hMD k hk).2]
      exact t1.2.2 k hk
  · rw [g3, g4, g5, g6, g7, g8, hlow 14 (by decide), hlow 55 (by decide), hlow 56 (by decide), p57, p60, p61, hN.2.2.2.2.1, hN.2.2.2.2.2]
    exact ⟨hN.1, hN.2.1, hN.2.2.1, rfl, rfl, rfl⟩
  · rw [hlow 14 (by decide)] at hj
    have e : mF σ j w = mF ρ j w := by
      unfold mF
      exact hlow _ (by omega)
    rw [eF j (by omega), e]
    exact hF j hj w hw
