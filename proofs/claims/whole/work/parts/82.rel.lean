/-! the class's state against the reference's row -/
def tS (s : Nat) (t : Int) : Nat := if t = 0 then s + 1 else s + 4
def RB (z : Zt) (s : Nat) (ρ : Nat → Int) : Prop := SI z s ∧ (∀ t : Int, (t = 0 ∨ t = 1) → z (tS s t) 3 = mN ρ t ∧ z (tS s t) 4 = ρ (58 + t).toNat ∧ ∀ k : Nat, (k : Int) < mN ρ t → z (tS s t + 1) k = mD ρ t k ∧ z (tS s t + 2) k = mL ρ t k) ∧ (z s 3 = ρ 14 ∧ z s 4 = ρ 55 ∧ z s 5 = ρ 56 ∧ z s 6 = ρ 57 ∧ z s 7 = ρ 60 ∧ z s 8 = ρ 61) ∧ ∀ j : Nat, (j : Int) < ρ 14 → ∀ w : Nat, w < 4 → z (s + 8 + j) w = mF ρ j w
theorem tS_1 (t : Int) : tS 1 t = tid t := rfl
theorem tS_or (s : Nat) (t : Int) : tS s t = s + 1 ∨ tS s t = s + 4 := by
  unfold tS
  split
  · exact Or.inl rfl
  · exact Or.inr rfl
theorem RB_cp {z z1 : Zt} {a b : Nat} {ρ : Nat → Int} (h : ∀ j : Nat, j < 18 → z1 (a + j) = z (b + j)) (hR : RB z b ρ) : RB z1 a ρ := by
  obtain ⟨hS, hT, hN, hF⟩ := hR
  have e0 : z1 a = z b := h 0 (by decide)
  have ho : ∀ t : Int, ∃ o : Nat, o + 2 < 18 ∧ tS a t = a + o ∧ tS b t = b + o := fun t => by
    unfold tS
    by_cases q : t = 0
    · exact ⟨1, by decide, by rw [if_pos q], by rw [if_pos q]⟩
    · exact ⟨4, by decide, by rw [if_neg q], by rw [if_neg q]⟩
  refine ⟨?_, fun t ht => ?_, ?_, fun j hj w hw => ?_⟩
  · obtain ⟨h1, h2, h3, h4, h5, h6, h7, h8, h9⟩ := hS
    have e1 := h 1 (by decide)
    have e2 := h 2 (by decide)
    have e3 := h 3 (by decide)
    have e4 := h 4 (by decide)
    have e5 := h 5 (by decide)
    have e6 := h 6 (by decide)
    refine ⟨?_, ?_, by rw [e1]; exact h3, by rw [e4]; exact h4, by rw [e0]; exact h5, by rw [e0]; exact h6, by rw [e0]; exact h7, by rw [e0]; exact h8, fun k hk => ?_⟩
    · unfold TI at h1 ⊢
      rw [e1, show a + 1 + 1 = a + 2 by omega, show a + 1 + 2 = a + 3 by omega, e2, e3]
      exact h1
    · unfold TI at h2 ⊢
      rw [e4, show a + 4 + 1 = a + 5 by omega, show a + 4 + 2 = a + 6 by omega, e5, e6]
      exact h2
    · have h := h9 k hk
      have e8 : z1 (a + 8 + k) = z (b + 8 + k) := by
        rw [show a + 8 + k = a + (8 + k) by omega, show b + 8 + k = b + (8 + k) by omega]
        exact ‹∀ j : Nat, j < 18 → z1 (a + j) = z (b + j)› _ (by omega)
      unfold FI at h ⊢
      rw [e8]
      exact h
  · obtain ⟨o, o1, o2, o3⟩ := ho t
    have h9 := hT t ht
    rw [o3] at h9
    rw [o2, h o (by omega), show a + o + 1 = a + (o + 1) by omega, show a + o + 2 = a + (o + 2) by omega, h (o + 1) (by omega), h (o + 2) (by omega)]
    exact h9
  · rw [e0]
    exact hN
  · have h10 : ρ 14 ≤ 10 := by
      have := hS.2.2.2.2.1
      have := hN.1
      omega
    rw [show a + 8 + j = a + (8 + j) by omega, h (8 + j) (by omega), show b + (8 + j) = b + 8 + j by omega]
    exact hF j hj w hw
theorem RB_blk {z z1 : Zt} {s : Nat} {ρ : Nat → Int} (h : blkE z z1 s) (hR : RB z s ρ) : RB z1 s ρ := RB_cp h hR
theorem RB_row {z : Zt} {s : Nat} {ρ σ : Nat → Int} (h : ∀ p : Nat, p < 62 → σ p = ρ p) (hR : RB z s ρ) : RB z s σ := by
  obtain ⟨hS, hT, hN, hF⟩ := hR
  have h14 := h 14 (by decide)
  have h10 : ρ 14 ≤ 10 := by
    have := hS.2.2.2.2.1
    have := hN.1
    omega
  refine ⟨hS, fun t ht => ?_, ?_, fun j hj w hw => ?_⟩
  · obtain ⟨a1, a2, a3⟩ := hT t ht
    have en : mN σ t = mN ρ t := by
      unfold mN
      exact h _ (by omega)
    have e58 : σ (58 + t).toNat = ρ (58 + t).toNat := h _ (by omega)
    have hg : mN ρ t ≤ 3 := by
      rw [← a1]
      rcases tS_or s t with q | q
      · rw [q]; exact hS.1.2.2.1
      · rw [q]; exact hS.2.1.2.2.1
    rw [en, e58]
    refine ⟨a1, a2, fun k hk => ?_⟩
    have e1 : mD σ t k = mD ρ t k := by
      unfold mD
      exact h _ (by omega)
    have e2 : mL σ t k = mL ρ t k := by
      unfold mL
      exact h _ (by omega)
    rw [e1, e2]
    exact a3 k hk
  · rw [h14, h 55 (by decide), h 56 (by decide), h 57 (by decide), h 60 (by decide), h 61 (by decide)]
    exact hN
  · rw [h14] at hj
    have e : mF σ j w = mF ρ j w := by
      unfold mF
      exact h _ (by omega)
    rw [e]
    exact hF j hj w hw
theorem RB_n {z : Zt} {s : Nat} {ρ : Nat → Int} (hR : RB z s ρ) : 0 ≤ ρ 14 ∧ ρ 14 ≤ 10 := by
  have h1 := hR.1.2.2.2.2.1
  have h2 := hR.2.2.1.1
  omega
theorem RB_TI {z : Zt} {s : Nat} {ρ : Nat → Int} (hR : RB z s ρ) (t : Int) : TI z (tS s t) := by
  rcases tS_or s t with q | q
  · rw [q]; exact hR.1.1
  · rw [q]; exact hR.1.2.1
theorem RB_MG {z : Zt} {s : Nat} {ρ : Nat → Int} (hR : RB z s ρ) : MG ρ := fun t ht => by
  obtain ⟨a1, -, a3⟩ := hR.2.1 t ht
  obtain ⟨-, g1, g2, g3, g4⟩ := RB_TI hR t
  rw [a1] at g1 g2 g3 g4
  refine ⟨g1, g2, fun k hk => ?_, fun k hk => ?_⟩
  · have := g3 k hk
    rw [(a3 k hk).1, (a3 k hk).2] at this
    exact this
  · have := g4 k hk
    rw [(a3 k (by omega)).1, (a3 (k + 1) (by omega)).1] at this
    exact this
theorem RB_MF {z : Zt} {s : Nat} {ρ : Nat → Int} (hR : RB z s ρ) {f : Int} (hf : 0 ≤ f ∧ f < ρ 14) : MF ρ f := by
  have h10 := RB_n hR
  have h9 := hR.1.2.2.2.2.2.2.2.2 f.toNat (by omega)
  have e := hR.2.2.2 f.toNat (by omega)
  rw [show ((f.toNat : Nat) : Int) = f by omega] at e
  unfold FI at h9
  have e0 := e 0 (by decide)
  have e1 := e 1 (by decide)
  have e2 := e 2 (by decide)
  have e3 := e 3 (by decide)
  rw [e0, e1, e2, e3] at h9
  exact h9
theorem RB_MI {z : Zt} {s : Nat} {ρ : Nat → Int} (hR : RB z s ρ) : MI ρ := by
  obtain ⟨n1, n2, n3, n4, n5, n6⟩ := hR.2.2.1
  have h6 := hR.1.2.2.2.2.2.1
  have h7 := hR.1.2.2.2.2.2.2.1
  have h8 := hR.1.2.2.2.2.2.2.2.1
  refine ⟨RB_MG hR, RB_n hR, fun f f1 f2 => RB_MF hR ⟨f1, f2⟩, by omega, by omega, by omega⟩
/-! what is read of both: the same -/
theorem RB_cal {z : Zt} {s : Nat} {ρ : Nat → Int} (hR : RB z s ρ) {t : Int} (ht : t = 0 ∨ t = 1) (d : Int) : calT z (tS s t) d = calM ρ t d ∧ fdT z (tS s t) d = fdM ρ t d := by
  obtain ⟨a1, -, a3⟩ := hR.2.1 t ht
  have hg := (RB_TI hR t).2.1
  unfold calT fdT calM fdM
  rw [a1]
  exact ⟨calN_congr (fun k hk => a3 k (by omega)), fdN_congr (fun k hk => a3 k (by omega))⟩
theorem RB_A {z : Zt} {s : Nat} {ρ : Nat → Int} (hR : RB z s ρ) {t : Int} (ht : t = 0 ∨ t = 1) : z (tS s t) 0 = 1 - t := by
  rcases ht with rfl | rfl
  · exact hR.1.2.2.1
  · exact hR.1.2.2.2.1
theorem RB_f {z : Zt} {s : Nat} {ρ : Nat → Int} (hR : RB z s ρ) {f : Int} (hf : 0 ≤ f ∧ f < ρ 14) {w : Nat} (hw : w < 4) : z (s + 8 + f.toNat) w = mF ρ f w := by
  have e := hR.2.2.2 f.toNat (by omega) w hw
  rw [show ((f.toNat : Nat) : Int) = f by omega] at e
  exact e
theorem RB_tw {z : Zt} {s : Nat} {ρ : Nat → Int} (hR : RB z s ρ) {f : Int} (hf : 0 ≤ f ∧ f < ρ 14) : tw z s (s + 8 + f.toNat) = tS s (mF ρ f 0) := by
  unfold tw tS
  have e := RB_f hR hf (w := 0) (by decide)
  have e2 : z (s + 8 + f.toNat) 0 = mF ρ f 0 := e
  rw [e2]
theorem RB_dS {z : Zt} {s : Nat} {ρ : Nat → Int} (hR : RB z s ρ) {f : Int} (hf : 0 ≤ f ∧ f < ρ 14) (y : Int) : dS z s (s + 8 + f.toNat) y = dM ρ f y ∧ kS z s (s + 8 + f.toNat) y = kM ρ f y ∧ ∀ d, yS z s (s + 8 + f.toNat) d = yM ρ f d := by
  have hF := RB_MF hR hf
  have ht := hF.1
  obtain ⟨a1, -, a3⟩ := hR.2.1 _ ht
  have hg := (RB_TI hR (mF ρ f 0)).2.1
  rw [a1] at hg
  have e1 : z (s + 8 + f.toNat) 1 = mF ρ f 1 := RB_f hR hf (w := 1) (by decide)
  have e2 : z (s + 8 + f.toNat) 2 = mF ρ f 2 := RB_f hR hf (w := 2) (by decide)
  have e3 : z (s + 8 + f.toNat) 3 = mF ρ f 3 := RB_f hR hf (w := 3) (by decide)
  have eA := RB_A hR ht
  have e55 := hR.2.2.1.2.1
  unfold dS kS yS dM kM yM
  rw [RB_tw hR hf, e1, e2, e3, eA, a1, e55]
  exact ⟨dueG_congr a3 hg, kG_congr a3 hg, fun d => yG_congr a3 hg d⟩
theorem RB_on {z : Zt} {s : Nat} {ρ : Nat → Int} (hR : RB z s ρ) {f : Int} (hf : 0 ≤ f ∧ f < ρ 14) (d : Int) : onS z s (s + 8 + f.toNat) d ↔ onM ρ f d := by
  have h := RB_dS hR hf
  unfold onS onM onK
  rw [(h 0).2.2, (h _).2.1, (h _).2.1]
theorem RB_onj {z : Zt} {s : Nat} {ρ : Nat → Int} (hR : RB z s ρ) (j : Nat) (d : Int) : ((j : Int) < z s 3 ∧ onS z s (s + 8 + j) d) ↔ ((j : Int) < ρ 14 ∧ onM ρ j d) := by
  rw [hR.2.2.1.1]
  by_cases q : (j : Int) < ρ 14
  · have := RB_on hR (f := (j : Int)) ⟨by omega, q⟩ d
    rw [show ((j : Int)).toNat = j by omega] at this
    rw [this]
  · simp [q]
theorem RB_qu {z : Zt} {s : Nat} {ρ : Nat → Int} (hR : RB z s ρ) (d : Int) : quS z s d ↔ quM ρ d := by
  have key : ∀ (j : Nat) (a : Int), (((j : Int) < z s 3 ∧ onS z s (s + 8 + j) d) ∧ ((j : Int) < z s 3 ∧ z (s + 8 + j) 0 = a)) ↔ (((j : Int) < ρ 14 ∧ onM ρ j d) ∧ mF ρ j 0 = a) := fun j a => by
    rw [RB_onj hR j d, hR.2.2.1.1]
    by_cases q : (j : Int) < ρ 14
    · have e := hR.2.2.2 j q 0 (by decide)
      rw [e]
      simp [q]
    · simp [q]
  unfold quS quM
  constructor
  · rintro ⟨⟨j, a1⟩, k, b1⟩
    exact ⟨⟨j, (key j 0).mp a1⟩, k, (key k 1).mp b1⟩
  · rintro ⟨⟨j, a1⟩, k, b1⟩
    exact ⟨⟨j, (key j 0).mpr a1⟩, k, (key k 1).mpr b1⟩
theorem RB_qw {z : Zt} {ρ : Nat → Int} (hR : RB z 1 ρ) (n : Nat) : qwS z n = qwM ρ n := by
  unfold qwS qwM
  rw [hR.2.2.1.2.2.2.1]
  exact cntP_congr (fun i _ => RB_qu hR _)
/-! the whole of both worlds -/
def PJ (z : Zt) : Prop := (∀ i : Nat, i < 6 → 25 ≤ z 19 i ∧ z 19 i < 133 ∧ kd (z 19 i).toNat = 2) ∧ (∀ i j : Nat, i < 6 → j < 6 → z 19 i = z 19 j → i = j) ∧ 0 ≤ z 0 2 ∧ z 0 2 ≤ 6
theorem PJ_PI {z : Zt} (h : PJ z) : PI z := ⟨fun i hi => ⟨(h.1 i hi).1, (h.1 i hi).2.2⟩, h.2.1, h.2.2⟩
def Rel (z : Zt) : Prop := RB z 1 (z 170) ∧ PJ z ∧ AI z ∧ (z 0 2 = z 169 2 ∧ ∀ i : Nat, (i : Int) < z 0 2 → RB z (z 19 i).toNat (fun p => z 171 (62 * i + p))) ∧ (z 20 0 = 133 ∧ z 20 1 = 151) ∧ (∀ i : Nat, i < 2 → z 21 i = z 173 i ∧ (z 21 i = 0 ∨ z 21 i = 1)) ∧ (∀ i : Nat, i < 2 → z 21 i = 1 → RB z (133 + 18 * i) (fun p => z 172 (62 * i + p))) ∧ TX (z 23) (z 22 1) ∧ z 22 1 = z 169 7 ∧ ∀ j : Nat, (j : Int) < z 22 1 → z 23 j = z 174 j
/-- what no reading looks at -/
def Nz (z z1 : Zt) : Prop := (∀ a : Nat, a ≠ 24 → a ≠ 175 → a ≠ 176 → a ≠ 169 → z1 a = z a) ∧ ∀ j : Nat, j ≠ 5 → j ≠ 8 → z1 169 j = z 169 j
theorem Nz.rf (z : Zt) : Nz z z := ⟨fun _ _ _ _ _ => rfl, fun _ _ _ => rfl⟩
theorem Nz.tr {a b c : Zt} (h : Nz a b) (h2 : Nz b c) : Nz a c := ⟨fun i h3 h4 h5 h6 => (h2.1 i h3 h4 h5 h6).trans (h.1 i h3 h4 h5 h6), fun j h3 h4 => (h2.2 j h3 h4).trans (h.2 j h3 h4)⟩
theorem Nz.ag {z z1 : Zt} (h : ag24 z z1) : Nz z z1 := ⟨fun a h1 _ _ _ => h a h1, fun j _ _ => by rw [h 169 (by decide)]⟩
theorem Nz.o176 (z : Zt) (k : Nat) (x : Int) : Nz z (zup z 176 k x) := ⟨fun a _ _ h _ => zup_o h k x, fun j _ _ => by rw [zup_o (by decide)]⟩
theorem Nz.o5 (z : Zt) (x : Int) : Nz z (zup z 169 5 x) := ⟨fun a _ _ _ h => zup_o h 5 x, fun j h _ => by rw [zup_r, if_neg h]⟩
theorem Nz.jt {z w : Zt} {s : Int} (h : JT z w s) : Nz z w := ⟨fun a _ h2 _ h4 => h.1.1 a h4 h2, fun j _ h2 => h.1.2 j h2⟩
theorem Nz.blk {z z1 : Zt} (h : Nz z z1) {s : Nat} (hs : kd s = 2) : blkE z z1 s := fun j hj => by
  have := S_ne hs hj
  exact h.1 _ this.1 (by omega) (by omega) (by omega)
theorem kd_s2 {i : Nat} (h : i < 2) : kd (133 + 18 * i) = 2 := kd_st2 h
theorem Rel_Nz {z z1 : Zt} (h : Nz z z1) (hR : Rel z) : Rel z1 := by
  obtain ⟨r1, r2, r3, ⟨r4, r5⟩, r6, r7, r8, r9, r10, r11⟩ := hR
  have e : ∀ a : Nat, a ≠ 24 → a ≠ 175 → a ≠ 176 → a ≠ 169 → z1 a = z a := h.1
  have e0 := e 0 (by decide) (by decide) (by decide) (by decide)
  have e19 := e 19 (by decide) (by decide) (by decide) (by decide)
  have e20 := e 20 (by decide) (by decide) (by decide) (by decide)
  have e21 := e 21 (by decide) (by decide) (by decide) (by decide)
  have e22 := e 22 (by decide) (by decide) (by decide) (by decide)
  have e23 := e 23 (by decide) (by decide) (by decide) (by decide)
  have e170 := e 170 (by decide) (by decide) (by decide) (by decide)
  have e171 := e 171 (by decide) (by decide) (by decide) (by decide)
  have e172 := e 172 (by decide) (by decide) (by decide) (by decide)
  have e173 := e 173 (by decide) (by decide) (by decide) (by decide)
  have e174 := e 174 (by decide) (by decide) (by decide) (by decide)
  refine ⟨by rw [e170]; exact RB_blk (h.blk k_1) r1, ?_, fun q hq => ?_, ⟨by rw [e0, h.2 2 (by decide) (by decide)]; exact r4, fun i hi => ?_⟩, by rw [e20]; exact r6, by rw [e21, e173]; exact r7, fun i hi hf => ?_, by rw [e22, e23]; exact r9, by rw [e22, h.2 7 (by decide) (by decide)]; exact r10, by rw [e22, e23, e174]; exact r11⟩
  · unfold PJ
    rw [e0, e19]
    exact r2
  · have b := h.blk hq
    rw [b 1 (by decide), b 4 (by decide)]
    exact r3 q hq
  · rw [e0] at hi
    rw [e19, e171]
    exact RB_blk (h.blk (r2.1 i (by have := r2.2.2.2; omega)).2.2) (r5 i hi)
  · rw [e21] at hf
    rw [e172]
    exact RB_blk (h.blk (kd_s2 hi)) (r8 i hi hf)
/-- the class's own world may have changed; the reference's has not -/
def Mid (z z1 : Zt) : Prop := ∀ a : Nat, 169 ≤ a → a ≤ 175 → z1 a = z a
theorem Mid.nz {z z1 : Zt} (h : Mid z z1) : Mid z (zup z1 176 0 0) := fun a h1 h2 => (zup_o (by omega) 0 0).trans (h a h1 h2)
