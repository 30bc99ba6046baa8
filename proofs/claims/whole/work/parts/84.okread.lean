theorem fin0 {z z1 w : Zt} {x v : Int} (hR : Rel z) (hN : Nz z z1) (hw : w = zup z1 169 5 0) (h176 : z1 176 0 = jl x) (hx : x = v) : w 169 5 = 0 ∧ ((0 : Int) = 0 → w 176 0 = jl v) ∧ Rel w := by
  subst hw
  refine ⟨zup_s _ _ _ _, fun _ => ?_, Rel_Nz (hN.tr (Nz.o5 _ _)) hR⟩
  rw [zup_o (by decide), h176, hx]
theorem finE {z z1 w : Zt} {k v : Int} (hR : Rel z) (hN : Nz z z1) (hw : w = zup z1 169 5 0) (hk : k ≠ 0) : zup w 169 5 k 169 5 = k ∧ (k = 0 → zup w 169 5 k 176 0 = jl v) ∧ Rel (zup w 169 5 k) := by
  subst hw
  exact ⟨zup_s _ _ _ _, fun h => absurd h hk, Rel_Nz ((hN.tr (Nz.o5 _ _)).tr (Nz.o5 _ _)) hR⟩
theorem bwN_congr {P Q : Nat → Int} : ∀ n : Nat, (∀ k, k < n → P k = Q k) → bwN P n = bwN Q n
  | 0, _ => rfl
  | n + 1, h => by
    simp only [bwN]
    rw [bwN_congr n (fun k hk => h k (by omega)), h n (by omega)]
theorem RB_bar {z : Zt} {ρ : Nat → Int} (hR : RB z 1 ρ) {f b : Int} (hf : 0 ≤ f ∧ f < ρ 14) (hb : -1 ≤ b ∧ b ≤ 6) : RB (zup z (9 + f.toNat) 3 b) 1 (updR ρ (15 + 4 * f + 3).toNat b) := by
  have h10 := RB_n hR
  have hRR := hR
  obtain ⟨hS, hT, hN, hF⟩ := hR
  have o : ∀ i, i ≠ 9 + f.toNat → zup z (9 + f.toNat) 3 b i = z i := fun i hi => zup_o hi 3 b
  have u : ∀ p : Nat, p ≠ (15 + 4 * f + 3).toNat → updR ρ (15 + 4 * f + 3).toNat b p = ρ p := fun p hp => by simp [updR, hp]
  refine ⟨barZ_SI hS (by omega) hb, fun t ht => ?_, ?_, fun j hj w hw => ?_⟩
  · obtain ⟨a1, a2, a3⟩ := hT t ht
    have ho := tS_or 1 t
    have hg := (RB_TI hRR t).2.2.1
    have en : mN (updR ρ (15 + 4 * f + 3).toNat b) t = mN ρ t := by
      unfold mN
      exact u _ (by omega)
    rw [o _ (by omega), en, u _ (by omega)]
    refine ⟨a1, a2, fun k hk => ?_⟩
    have e1 : mD (updR ρ (15 + 4 * f + 3).toNat b) t k = mD ρ t k := by
      unfold mD
      exact u _ (by omega)
    have e2 : mL (updR ρ (15 + 4 * f + 3).toNat b) t k = mL ρ t k := by
      unfold mL
      exact u _ (by omega)
    rw [o _ (by omega), o _ (by omega), e1, e2]
    exact a3 k hk
  · rw [o _ (by omega), u _ (by omega), u _ (by omega), u _ (by omega), u _ (by omega), u _ (by omega), u _ (by omega)]
    exact hN
  · rw [u _ (by omega)] at hj
    have h9 := hF j hj w hw
    by_cases q : j = f.toNat ∧ w = 3
    · obtain ⟨q1, q2⟩ := q
      subst q1 q2
      have e : mF (updR ρ (15 + 4 * f + 3).toNat b) ((f.toNat : Nat) : Int) ((3 : Nat) : Int) = b := by
        unfold mF updR
        rw [if_pos (by omega)]
      rw [e, show 1 + 8 + f.toNat = 9 + f.toNat by omega]
      exact zup_s _ _ _ _
    · have e : mF (updR ρ (15 + 4 * f + 3).toNat b) j w = mF ρ j w := by
        unfold mF
        exact u _ (by omega)
      rw [e, ← h9]
      exact zup_n _ _ (by omega)

theorem and_true_iff {p q : Prop} (h : p ↔ q) : (p ∧ True) ↔ q := by rw [and_true]; exact h
theorem nz_gapCount {z z1 : Zt} {t : Int} {k : Int} (h1 : (fun v z1 => (v = 0 ∧ ∃ (x : Int) (z2 : Zt), (fun x z1 => z = z1 ∧ (0 ≤ t ∧ t ≤ 1) ∧ x = z (tid t) 3) x z2 ∧ zup z2 176 0 (jl x) = z1) ∨ (v = 1 ∧ (fun E z1 => z = z1 ∧ E = xIO ∧ ¬ (0 ≤ t ∧ t ≤ 1)) xIO z1)) k z1) : Nz z z1 := by
  rcases h1 with ⟨rfl, x, z3, ⟨h0, -⟩, rfl⟩ | ⟨rfl, rfl, -⟩
  · subst h0
    exact Nz.o176 _ _ _
  · exact Nz.rf _
set_option maxHeartbeats 2000000 in
theorem ok_gapCount {z z1 w z2 : Zt} {t : Int} {k v : Int} (hR : Rel z) (hw : w = zup z1 169 5 0) (h1 : (fun v z1 => (v = 0 ∧ ∃ (x : Int) (z2 : Zt), (fun x z1 => z = z1 ∧ (0 ≤ t ∧ t ≤ 1) ∧ x = z (tid t) 3) x z2 ∧ zup z2 176 0 (jl x) = z1) ∨ (v = 1 ∧ (fun E z1 => z = z1 ∧ E = xIO ∧ ¬ (0 ≤ t ∧ t ≤ 1)) xIO z1)) k z1) (h2 : (fun v z1 => (w = z1 ∧ (0 ≤ t ∧ t ≤ 1) ∧ v = mN (w 170) t) ∨ (zup w 169 5 1 = z1 ∧ ¬ (0 ≤ t ∧ t ≤ 1))) v z2) : z2 169 5 = k ∧ (k = 0 → z2 176 0 = jl v) ∧ Rel z2 := by
  have hN : Nz z z1 := nz_gapCount h1
  have e170 : w 170 = z 170 := by rw [hw, zup_o (by decide)]; exact hN.1 170 (by decide) (by decide) (by decide) (by decide)
  have hB := hR.1
  have h3 : z 1 3 = z 170 14 := hB.2.2.1.1
  have h6 : z 1 6 = z 170 57 := hB.2.2.1.2.2.2.1
  have h68 := hB.1.2.2.2.2.2.2.2.1
  have tA : (0 ≤ t ∧ t ≤ 1) → z (tid t) 0 = 1 - t := fun q9 => RB_A hB (by omega)
  have tC : ∀ {d : Int}, (0 ≤ t ∧ t ≤ 1) → calT z (tid t) d = calM (z 170) t d := fun q9 => (RB_cal hB (by omega) _).1
  have tD : ∀ {d : Int}, (0 ≤ t ∧ t ≤ 1) → fdT z (tid t) d = fdM (z 170) t d := fun q9 => (RB_cal hB (by omega) _).2
  have t3 : (0 ≤ t ∧ t ≤ 1) → z (tid t) 3 = mN (z 170) t := fun q9 => (hB.2.1 t (by omega)).1
  try rw [e170] at h2
  rcases h1 with ⟨rfl, x, z3, ⟨h0, c1, e1⟩, rfl⟩ | ⟨rfl, h0, hc⟩
  · rcases h2 with ⟨rfl, d1, e2⟩ | ⟨rfl, d⟩
    · exact fin0 hR hN hw (zup_s _ _ _ _) (by rw [e1, e2]; exact (hB.2.1 t (by omega)).1)
    · exfalso
      clear hN
      omega
  · have hc := hc.2
    rcases h2 with ⟨rfl, d1, e2⟩ | ⟨rfl, d⟩
    · exfalso
      clear hN
      omega
    · exact finE hR hN hw (by decide)
theorem nz_gapDay {z z1 : Zt} {t g : Int} {k : Int} (h1 : (fun v z1 => (v = 0 ∧ ∃ (x : Int) (z2 : Zt), (fun x z1 => z = z1 ∧ (0 ≤ t ∧ t ≤ 1) ∧ (0 ≤ g ∧ g < z (tid t) 3) ∧ x = z (tid t + 1) g.toNat) x z2 ∧ zup z2 176 0 (jl x) = z1) ∨ (v = 1 ∧ (fun E z1 => z = z1 ∧ E = xIO ∧ (¬ (0 ≤ t ∧ t ≤ 1) ∨ ¬ (0 ≤ g ∧ g < z (tid t) 3))) xIO z1)) k z1) : Nz z z1 := by
  rcases h1 with ⟨rfl, x, z3, ⟨h0, -⟩, rfl⟩ | ⟨rfl, rfl, -⟩
  · subst h0
    exact Nz.o176 _ _ _
  · exact Nz.rf _
set_option maxHeartbeats 2000000 in
theorem ok_gapDay {z z1 w z2 : Zt} {t g : Int} {k v : Int} (hR : Rel z) (hw : w = zup z1 169 5 0) (h1 : (fun v z1 => (v = 0 ∧ ∃ (x : Int) (z2 : Zt), (fun x z1 => z = z1 ∧ (0 ≤ t ∧ t ≤ 1) ∧ (0 ≤ g ∧ g < z (tid t) 3) ∧ x = z (tid t + 1) g.toNat) x z2 ∧ zup z2 176 0 (jl x) = z1) ∨ (v = 1 ∧ (fun E z1 => z = z1 ∧ E = xIO ∧ (¬ (0 ≤ t ∧ t ≤ 1) ∨ ¬ (0 ≤ g ∧ g < z (tid t) 3))) xIO z1)) k z1) (h2 : (fun v z1 => (w = z1 ∧ (0 ≤ t ∧ t ≤ 1) ∧ (0 ≤ g ∧ g < mN (w 170) t) ∧ v = mD (w 170) t g.toNat) ∨ (zup w 169 5 1 = z1 ∧ (¬ (0 ≤ t ∧ t ≤ 1) ∨ ¬ (0 ≤ g ∧ g < mN (w 170) t)))) v z2) : z2 169 5 = k ∧ (k = 0 → z2 176 0 = jl v) ∧ Rel z2 := by
  have hN : Nz z z1 := nz_gapDay h1
  have e170 : w 170 = z 170 := by rw [hw, zup_o (by decide)]; exact hN.1 170 (by decide) (by decide) (by decide) (by decide)
  have hB := hR.1
  have h3 : z 1 3 = z 170 14 := hB.2.2.1.1
  have h6 : z 1 6 = z 170 57 := hB.2.2.1.2.2.2.1
  have h68 := hB.1.2.2.2.2.2.2.2.1
  have tA : (0 ≤ t ∧ t ≤ 1) → z (tid t) 0 = 1 - t := fun q9 => RB_A hB (by omega)
  have tC : ∀ {d : Int}, (0 ≤ t ∧ t ≤ 1) → calT z (tid t) d = calM (z 170) t d := fun q9 => (RB_cal hB (by omega) _).1
  have tD : ∀ {d : Int}, (0 ≤ t ∧ t ≤ 1) → fdT z (tid t) d = fdM (z 170) t d := fun q9 => (RB_cal hB (by omega) _).2
  have t3 : (0 ≤ t ∧ t ≤ 1) → z (tid t) 3 = mN (z 170) t := fun q9 => (hB.2.1 t (by omega)).1
  try rw [e170] at h2
  rcases h1 with ⟨rfl, x, z3, ⟨h0, c1, c2, e1⟩, rfl⟩ | ⟨rfl, h0, hc⟩
  · rcases h2 with ⟨rfl, d1, d2, e2⟩ | ⟨rfl, d⟩
    · exact fin0 hR hN hw (zup_s _ _ _ _) (by rw [e1, e2]; exact ((hB.2.1 t (by omega)).2.2 g.toNat (by omega)).1)
    · exfalso
      clear hN
      omega
  · have hc := hc.2
    rcases h2 with ⟨rfl, d1, d2, e2⟩ | ⟨rfl, d⟩
    · exfalso
      clear hN
      omega
    · exact finE hR hN hw (by decide)
theorem nz_gapLength {z z1 : Zt} {t g : Int} {k : Int} (h1 : (fun v z1 => (v = 0 ∧ ∃ (x : Int) (z2 : Zt), (fun x z1 => z = z1 ∧ (0 ≤ t ∧ t ≤ 1) ∧ (0 ≤ g ∧ g < z (tid t) 3) ∧ x = z (tid t + 2) g.toNat) x z2 ∧ zup z2 176 0 (jl x) = z1) ∨ (v = 1 ∧ (fun E z1 => z = z1 ∧ E = xIO ∧ (¬ (0 ≤ t ∧ t ≤ 1) ∨ ¬ (0 ≤ g ∧ g < z (tid t) 3))) xIO z1)) k z1) : Nz z z1 := by
  rcases h1 with ⟨rfl, x, z3, ⟨h0, -⟩, rfl⟩ | ⟨rfl, rfl, -⟩
  · subst h0
    exact Nz.o176 _ _ _
  · exact Nz.rf _
set_option maxHeartbeats 2000000 in
theorem ok_gapLength {z z1 w z2 : Zt} {t g : Int} {k v : Int} (hR : Rel z) (hw : w = zup z1 169 5 0) (h1 : (fun v z1 => (v = 0 ∧ ∃ (x : Int) (z2 : Zt), (fun x z1 => z = z1 ∧ (0 ≤ t ∧ t ≤ 1) ∧ (0 ≤ g ∧ g < z (tid t) 3) ∧ x = z (tid t + 2) g.toNat) x z2 ∧ zup z2 176 0 (jl x) = z1) ∨ (v = 1 ∧ (fun E z1 => z = z1 ∧ E = xIO ∧ (¬ (0 ≤ t ∧ t ≤ 1) ∨ ¬ (0 ≤ g ∧ g < z (tid t) 3))) xIO z1)) k z1) (h2 : (fun v z1 => (w = z1 ∧ (0 ≤ t ∧ t ≤ 1) ∧ (0 ≤ g ∧ g < mN (w 170) t) ∧ v = mL (w 170) t g.toNat) ∨ (zup w 169 5 1 = z1 ∧ (¬ (0 ≤ t ∧ t ≤ 1) ∨ ¬ (0 ≤ g ∧ g < mN (w 170) t)))) v z2) : z2 169 5 = k ∧ (k = 0 → z2 176 0 = jl v) ∧ Rel z2 := by
  have hN : Nz z z1 := nz_gapLength h1
  have e170 : w 170 = z 170 := by rw [hw, zup_o (by decide)]; exact hN.1 170 (by decide) (by decide) (by decide) (by decide)
  have hB := hR.1
  have h3 : z 1 3 = z 170 14 := hB.2.2.1.1
  have h6 : z 1 6 = z 170 57 := hB.2.2.1.2.2.2.1
  have h68 := hB.1.2.2.2.2.2.2.2.1
  have tA : (0 ≤ t ∧ t ≤ 1) → z (tid t) 0 = 1 - t := fun q9 => RB_A hB (by omega)
  have tC : ∀ {d : Int}, (0 ≤ t ∧ t ≤ 1) → calT z (tid t) d = calM (z 170) t d := fun q9 => (RB_cal hB (by omega) _).1
  have tD : ∀ {d : Int}, (0 ≤ t ∧ t ≤ 1) → fdT z (tid t) d = fdM (z 170) t d := fun q9 => (RB_cal hB (by omega) _).2
  have t3 : (0 ≤ t ∧ t ≤ 1) → z (tid t) 3 = mN (z 170) t := fun q9 => (hB.2.1 t (by omega)).1
  try rw [e170] at h2
  rcases h1 with ⟨rfl, x, z3, ⟨h0, c1, c2, e1⟩, rfl⟩ | ⟨rfl, h0, hc⟩
  · rcases h2 with ⟨rfl, d1, d2, e2⟩ | ⟨rfl, d⟩
    · exact fin0 hR hN hw (zup_s _ _ _ _) (by rw [e1, e2]; exact ((hB.2.1 t (by omega)).2.2 g.toNat (by omega)).2)
    · exfalso
      clear hN
      omega
  · have hc := hc.2
    rcases h2 with ⟨rfl, d1, d2, e2⟩ | ⟨rfl, d⟩
    · exfalso
      clear hN
      omega
    · exact finE hR hN hw (by decide)
theorem nz_monthLength {z z1 : Zt} {t m : Int} {k : Int} (h1 : (fun v z1 => (v = 0 ∧ ∃ (x : Int) (z2 : Zt), (fun x z1 => z = z1 ∧ (0 ≤ t ∧ t ≤ 1) ∧ (1 ≤ m ∧ m ≤ 12) ∧ x = mlen (z (tid t) 0) m) x z2 ∧ zup z2 176 0 (jl x) = z1) ∨ (v = 1 ∧ (fun E z1 => z = z1 ∧ ((E = xIO ∧ ¬ (0 ≤ t ∧ t ≤ 1)) ∨ (E = xIA ∧ (0 ≤ t ∧ t ≤ 1) ∧ ¬ (1 ≤ m ∧ m ≤ 12)))) xIO z1) ∨ (v = 2 ∧ (fun E z1 => z = z1 ∧ ((E = xIO ∧ ¬ (0 ≤ t ∧ t ≤ 1)) ∨ (E = xIA ∧ (0 ≤ t ∧ t ≤ 1) ∧ ¬ (1 ≤ m ∧ m ≤ 12)))) xIA z1)) k z1) : Nz z z1 := by
  rcases h1 with ⟨rfl, x, z3, ⟨h0, -⟩, rfl⟩ | ⟨rfl, rfl, -⟩ | ⟨rfl, rfl, -⟩
  · subst h0
    exact Nz.o176 _ _ _
  · exact Nz.rf _
  · exact Nz.rf _
set_option maxHeartbeats 2000000 in
theorem ok_monthLength {z z1 w z2 : Zt} {t m : Int} {k v : Int} (hR : Rel z) (hw : w = zup z1 169 5 0) (h1 : (fun v z1 => (v = 0 ∧ ∃ (x : Int) (z2 : Zt), (fun x z1 => z = z1 ∧ (0 ≤ t ∧ t ≤ 1) ∧ (1 ≤ m ∧ m ≤ 12) ∧ x = mlen (z (tid t) 0) m) x z2 ∧ zup z2 176 0 (jl x) = z1) ∨ (v = 1 ∧ (fun E z1 => z = z1 ∧ ((E = xIO ∧ ¬ (0 ≤ t ∧ t ≤ 1)) ∨ (E = xIA ∧ (0 ≤ t ∧ t ≤ 1) ∧ ¬ (1 ≤ m ∧ m ≤ 12)))) xIO z1) ∨ (v = 2 ∧ (fun E z1 => z = z1 ∧ ((E = xIO ∧ ¬ (0 ≤ t ∧ t ≤ 1)) ∨ (E = xIA ∧ (0 ≤ t ∧ t ≤ 1) ∧ ¬ (1 ≤ m ∧ m ≤ 12)))) xIA z1)) k z1) (h2 : (fun v z1 => (w = z1 ∧ (0 ≤ t ∧ t ≤ 1) ∧ (1 ≤ m ∧ m ≤ 12) ∧ v = mlen (1 - t) m) ∨ (zup w 169 5 1 = z1 ∧ ¬ (0 ≤ t ∧ t ≤ 1)) ∨ (zup w 169 5 2 = z1 ∧ (0 ≤ t ∧ t ≤ 1) ∧ ¬ (1 ≤ m ∧ m ≤ 12))) v z2) : z2 169 5 = k ∧ (k = 0 → z2 176 0 = jl v) ∧ Rel z2 := by
  have hN : Nz z z1 := nz_monthLength h1
  have e170 : w 170 = z 170 := by rw [hw, zup_o (by decide)]; exact hN.1 170 (by decide) (by decide) (by decide) (by decide)
  have hB := hR.1
  have h3 : z 1 3 = z 170 14 := hB.2.2.1.1
  have h6 : z 1 6 = z 170 57 := hB.2.2.1.2.2.2.1
  have h68 := hB.1.2.2.2.2.2.2.2.1
  have tA : (0 ≤ t ∧ t ≤ 1) → z (tid t) 0 = 1 - t := fun q9 => RB_A hB (by omega)
  have tC : ∀ {d : Int}, (0 ≤ t ∧ t ≤ 1) → calT z (tid t) d = calM (z 170) t d := fun q9 => (RB_cal hB (by omega) _).1
  have tD : ∀ {d : Int}, (0 ≤ t ∧ t ≤ 1) → fdT z (tid t) d = fdM (z 170) t d := fun q9 => (RB_cal hB (by omega) _).2
  have t3 : (0 ≤ t ∧ t ≤ 1) → z (tid t) 3 = mN (z 170) t := fun q9 => (hB.2.1 t (by omega)).1
  try rw [e170] at h2
  rcases h1 with ⟨rfl, x, z3, ⟨h0, c1, c2, e1⟩, rfl⟩ | ⟨rfl, h0, hc⟩ | ⟨rfl, h0, hc⟩
  · rcases h2 with ⟨rfl, d1, d2, e2⟩ | ⟨rfl, d⟩ | ⟨rfl, d⟩
    · exact fin0 hR hN hw (zup_s _ _ _ _) (by rw [e1, e2, tA (by omega)])
    · exfalso
      clear hN
      omega
    · exfalso
      clear hN
      omega
  · rcases hc with ⟨q8, hc⟩ | ⟨q8, hc⟩
    · rcases h2 with ⟨rfl, d1, d2, e2⟩ | ⟨rfl, d⟩ | ⟨rfl, d⟩
      · exfalso
        clear hN
        omega
      · exact finE hR hN hw (by decide)
      · exfalso
        clear hN
        omega
    · exact absurd q8 (by decide +kernel)
  · rcases hc with ⟨q8, hc⟩ | ⟨q8, hc⟩
    · exact absurd q8 (by decide +kernel)
    · rcases h2 with ⟨rfl, d1, d2, e2⟩ | ⟨rfl, d⟩ | ⟨rfl, d⟩
      · exfalso
        clear hN
        omega
      · exfalso
        clear hN
        omega
      · exact finE hR hN hw (by decide)
theorem nz_dayOfMonth {z z1 : Zt} {t d : Int} {k : Int} (h1 : (fun v z1 => (v = 0 ∧ ∃ (x : Int) (z2 : Zt), (fun x z1 => z = z1 ∧ (0 ≤ t ∧ t ≤ 1) ∧ (0 ≤ d ∧ d ≤ 20000) ∧ ∃ mm : Int, isMon (z (tid t) 0) (calT z (tid t) d % yl (z (tid t) 0)) mm ∧ x = calT z (tid t) d % yl (z (tid t) 0) - mbef (z (tid t) 0) mm + 1) x z2 ∧ zup z2 176 0 (jl x) = z1) ∨ (v = 1 ∧ (fun E z1 => z = z1 ∧ ((E = xIO ∧ ¬ (0 ≤ t ∧ t ≤ 1)) ∨ (E = xIA ∧ (0 ≤ t ∧ t ≤ 1) ∧ ¬ (0 ≤ d ∧ d ≤ 20000)))) xIO z1) ∨ (v = 2 ∧ (fun E z1 => z = z1 ∧ ((E = xIO ∧ ¬ (0 ≤ t ∧ t ≤ 1)) ∨ (E = xIA ∧ (0 ≤ t ∧ t ≤ 1) ∧ ¬ (0 ≤ d ∧ d ≤ 20000)))) xIA z1)) k z1) : Nz z z1 := by
  rcases h1 with ⟨rfl, x, z3, ⟨h0, -⟩, rfl⟩ | ⟨rfl, rfl, -⟩ | ⟨rfl, rfl, -⟩
  · subst h0
    exact Nz.o176 _ _ _
  · exact Nz.rf _
  · exact Nz.rf _
set_option maxHeartbeats 2000000 in
theorem ok_dayOfMonth {z z1 w z2 : Zt} {t d : Int} {k v : Int} (hR : Rel z) (hw : w = zup z1 169 5 0) (h1 : (fun v z1 => (v = 0 ∧ ∃ (x : Int) (z2 : Zt), (fun x z1 => z = z1 ∧ (0 ≤ t ∧ t ≤ 1) ∧ (0 ≤ d ∧ d ≤ 20000) ∧ ∃ mm : Int, isMon (z (tid t) 0) (calT z (tid t) d % yl (z (tid t) 0)) mm ∧ x = calT z (tid t) d % yl (z (tid t) 0) - mbef (z (tid t) 0) mm + 1) x z2 ∧ zup z2 176 0 (jl x) = z1) ∨ (v = 1 ∧ (fun E z1 => z = z1 ∧ ((E = xIO ∧ ¬ (0 ≤ t ∧ t ≤ 1)) ∨ (E = xIA ∧ (0 ≤ t ∧ t ≤ 1) ∧ ¬ (0 ≤ d ∧ d ≤ 20000)))) xIO z1) ∨ (v = 2 ∧ (fun E z1 => z = z1 ∧ ((E = xIO ∧ ¬ (0 ≤ t ∧ t ≤ 1)) ∨ (E = xIA ∧ (0 ≤ t ∧ t ≤ 1) ∧ ¬ (0 ≤ d ∧ d ≤ 20000)))) xIA z1)) k z1) (h2 : (fun v z1 => (w = z1 ∧ (0 ≤ t ∧ t ≤ 1) ∧ (0 ≤ d ∧ d ≤ 20000) ∧ ∃ mm : Int, isMon (1 - t) (calM (w 170) t d % yl (1 - t)) mm ∧ v = calM (w 170) t d % yl (1 - t) - mbef (1 - t) mm + 1) ∨ (zup w 169 5 1 = z1 ∧ ¬ (0 ≤ t ∧ t ≤ 1)) ∨ (zup w 169 5 2 = z1 ∧ (0 ≤ t ∧ t ≤ 1) ∧ ¬ (0 ≤ d ∧ d ≤ 20000))) v z2) : z2 169 5 = k ∧ (k = 0 → z2 176 0 = jl v) ∧ Rel z2 := by
  have hN : Nz z z1 := nz_dayOfMonth h1
  have e170 : w 170 = z 170 := by rw [hw, zup_o (by decide)]; exact hN.1 170 (by decide) (by decide) (by decide) (by decide)
  have hB := hR.1
  have h3 : z 1 3 = z 170 14 := hB.2.2.1.1
  have h6 : z 1 6 = z 170 57 := hB.2.2.1.2.2.2.1
  have h68 := hB.1.2.2.2.2.2.2.2.1
  have tA : (0 ≤ t ∧ t ≤ 1) → z (tid t) 0 = 1 - t := fun q9 => RB_A hB (by omega)
  have tC : ∀ {d : Int}, (0 ≤ t ∧ t ≤ 1) → calT z (tid t) d = calM (z 170) t d := fun q9 => (RB_cal hB (by omega) _).1
  have tD : ∀ {d : Int}, (0 ≤ t ∧ t ≤ 1) → fdT z (tid t) d = fdM (z 170) t d := fun q9 => (RB_cal hB (by omega) _).2
  have t3 : (0 ≤ t ∧ t ≤ 1) → z (tid t) 3 = mN (z 170) t := fun q9 => (hB.2.1 t (by omega)).1
  try rw [e170] at h2
  rcases h1 with ⟨rfl, x, z3, ⟨h0, c1, c2, m1, f1, e1⟩, rfl⟩ | ⟨rfl, h0, hc⟩ | ⟨rfl, h0, hc⟩
  · rcases h2 with ⟨rfl, d1, d2, m2, f2, e2⟩ | ⟨rfl, d⟩ | ⟨rfl, d⟩
    · exact fin0 hR hN hw (zup_s _ _ _ _) (by rw [tA (by omega), tC (by omega)] at f1 e1; rw [e1, e2, isMon_one f1 f2])
    · exfalso
      clear hN
      omega
    · exfalso
      clear hN
      omega
  · rcases hc with ⟨q8, hc⟩ | ⟨q8, hc⟩
    · rcases h2 with ⟨rfl, d1, d2, m2, f2, e2⟩ | ⟨rfl, d⟩ | ⟨rfl, d⟩
      · exfalso
        clear hN
        omega
      · exact finE hR hN hw (by decide)
      · exfalso
        clear hN
        omega
    · exact absurd q8 (by decide +kernel)
  · rcases hc with ⟨q8, hc⟩ | ⟨q8, hc⟩
    · exact absurd q8 (by decide +kernel)
    · rcases h2 with ⟨rfl, d1, d2, m2, f2, e2⟩ | ⟨rfl, d⟩ | ⟨rfl, d⟩
      · exfalso
        clear hN
        omega
      · exfalso
        clear hN
        omega
      · exact finE hR hN hw (by decide)
theorem nz_monthOf {z z1 : Zt} {t d : Int} {k : Int} (h1 : (fun v z1 => (v = 0 ∧ ∃ (x : Int) (z2 : Zt), (fun x z1 => z = z1 ∧ (0 ≤ t ∧ t ≤ 1) ∧ (0 ≤ d ∧ d ≤ 20000) ∧ isMon (z (tid t) 0) (calT z (tid t) d % yl (z (tid t) 0)) x) x z2 ∧ zup z2 176 0 (jl x) = z1) ∨ (v = 1 ∧ (fun E z1 => z = z1 ∧ ((E = xIO ∧ ¬ (0 ≤ t ∧ t ≤ 1)) ∨ (E = xIA ∧ (0 ≤ t ∧ t ≤ 1) ∧ ¬ (0 ≤ d ∧ d ≤ 20000)))) xIO z1) ∨ (v = 2 ∧ (fun E z1 => z = z1 ∧ ((E = xIO ∧ ¬ (0 ≤ t ∧ t ≤ 1)) ∨ (E = xIA ∧ (0 ≤ t ∧ t ≤ 1) ∧ ¬ (0 ≤ d ∧ d ≤ 20000)))) xIA z1)) k z1) : Nz z z1 := by
  rcases h1 with ⟨rfl, x, z3, ⟨h0, -⟩, rfl⟩ | ⟨rfl, rfl, -⟩ | ⟨rfl, rfl, -⟩
  · subst h0
    exact Nz.o176 _ _ _
  · exact Nz.rf _
  · exact Nz.rf _
set_option maxHeartbeats 2000000 in
theorem ok_monthOf {z z1 w z2 : Zt} {t d : Int} {k v : Int} (hR : Rel z) (hw : w = zup z1 169 5 0) (h1 : (fun v z1 => (v = 0 ∧ ∃ (x : Int) (z2 : Zt), (fun x z1 => z = z1 ∧ (0 ≤ t ∧ t ≤ 1) ∧ (0 ≤ d ∧ d ≤ 20000) ∧ isMon (z (tid t) 0) (calT z (tid t) d % yl (z (tid t) 0)) x) x z2 ∧ zup z2 176 0 (jl x) = z1) ∨ (v = 1 ∧ (fun E z1 => z = z1 ∧ ((E = xIO ∧ ¬ (0 ≤ t ∧ t ≤ 1)) ∨ (E = xIA ∧ (0 ≤ t ∧ t ≤ 1) ∧ ¬ (0 ≤ d ∧ d ≤ 20000)))) xIO z1) ∨ (v = 2 ∧ (fun E z1 => z = z1 ∧ ((E = xIO ∧ ¬ (0 ≤ t ∧ t ≤ 1)) ∨ (E = xIA ∧ (0 ≤ t ∧ t ≤ 1) ∧ ¬ (0 ≤ d ∧ d ≤ 20000)))) xIA z1)) k z1) (h2 : (fun v z1 => (w = z1 ∧ (0 ≤ t ∧ t ≤ 1) ∧ (0 ≤ d ∧ d ≤ 20000) ∧ isMon (1 - t) (calM (w 170) t d % yl (1 - t)) v) ∨ (zup w 169 5 1 = z1 ∧ ¬ (0 ≤ t ∧ t ≤ 1)) ∨ (zup w 169 5 2 = z1 ∧ (0 ≤ t ∧ t ≤ 1) ∧ ¬ (0 ≤ d ∧ d ≤ 20000))) v z2) : z2 169 5 = k ∧ (k = 0 → z2 176 0 = jl v) ∧ Rel z2 := by
  have hN : Nz z z1 := nz_monthOf h1
  have e170 : w 170 = z 170 := by rw [hw, zup_o (by decide)]; exact hN.1 170 (by decide) (by decide) (by decide) (by decide)
  have hB := hR.1
  have h3 : z 1 3 = z 170 14 := hB.2.2.1.1
  have h6 : z 1 6 = z 170 57 := hB.2.2.1.2.2.2.1
  have h68 := hB.1.2.2.2.2.2.2.2.1
  have tA : (0 ≤ t ∧ t ≤ 1) → z (tid t) 0 = 1 - t := fun q9 => RB_A hB (by omega)
  have tC : ∀ {d : Int}, (0 ≤ t ∧ t ≤ 1) → calT z (tid t) d = calM (z 170) t d := fun q9 => (RB_cal hB (by omega) _).1
  have tD : ∀ {d : Int}, (0 ≤ t ∧ t ≤ 1) → fdT z (tid t) d = fdM (z 170) t d := fun q9 => (RB_cal hB (by omega) _).2
  have t3 : (0 ≤ t ∧ t ≤ 1) → z (tid t) 3 = mN (z 170) t := fun q9 => (hB.2.1 t (by omega)).1
  try rw [e170] at h2
  rcases h1 with ⟨rfl, x, z3, ⟨h0, c1, c2, f1⟩, rfl⟩ | ⟨rfl, h0, hc⟩ | ⟨rfl, h0, hc⟩
  · rcases h2 with ⟨rfl, d1, d2, f2⟩ | ⟨rfl, d⟩ | ⟨rfl, d⟩
    · exact fin0 hR hN hw (zup_s _ _ _ _) (by rw [tA (by omega), tC (by omega)] at f1; exact isMon_one f1 f2)
    · exfalso
      clear hN
      omega
    · exfalso
      clear hN
      omega
  · rcases hc with ⟨q8, hc⟩ | ⟨q8, hc⟩
    · rcases h2 with ⟨rfl, d1, d2, f2⟩ | ⟨rfl, d⟩ | ⟨rfl, d⟩
      · exfalso
        clear hN
        omega
      · exact finE hR hN hw (by decide)
      · exfalso
        clear hN
        omega
    · exact absurd q8 (by decide +kernel)
  · rcases hc with ⟨q8, hc⟩ | ⟨q8, hc⟩
    · exact absurd q8 (by decide +kernel)
    · rcases h2 with ⟨rfl, d1, d2, f2⟩ | ⟨rfl, d⟩ | ⟨rfl, d⟩
      · exfalso
        clear hN
        omega
      · exfalso
        clear hN
        omega
      · exact finE hR hN hw (by decide)
theorem nz_yearOf {z z1 : Zt} {t d : Int} {k : Int} (h1 : (fun v z1 => (v = 0 ∧ ∃ (x : Int) (z2 : Zt), (fun x z1 => z = z1 ∧ (0 ≤ t ∧ t ≤ 1) ∧ (0 ≤ d ∧ d ≤ 20000) ∧ x = 1 + calT z (tid t) d / yl (z (tid t) 0)) x z2 ∧ zup z2 176 0 (jl x) = z1) ∨ (v = 1 ∧ (fun E z1 => z = z1 ∧ ((E = xIO ∧ ¬ (0 ≤ t ∧ t ≤ 1)) ∨ (E = xIA ∧ (0 ≤ t ∧ t ≤ 1) ∧ ¬ (0 ≤ d ∧ d ≤ 20000)))) xIO z1) ∨ (v = 2 ∧ (fun E z1 => z = z1 ∧ ((E = xIO ∧ ¬ (0 ≤ t ∧ t ≤ 1)) ∨ (E = xIA ∧ (0 ≤ t ∧ t ≤ 1) ∧ ¬ (0 ≤ d ∧ d ≤ 20000)))) xIA z1)) k z1) : Nz z z1 := by
  rcases h1 with ⟨rfl, x, z3, ⟨h0, -⟩, rfl⟩ | ⟨rfl, rfl, -⟩ | ⟨rfl, rfl, -⟩
  · subst h0
    exact Nz.o176 _ _ _
  · exact Nz.rf _
  · exact Nz.rf _
set_option maxHeartbeats 2000000 in
theorem ok_yearOf {z z1 w z2 : Zt} {t d : Int} {k v : Int} (hR : Rel z) (hw : w = zup z1 169 5 0) (h1 : (fun v z1 => (v = 0 ∧ ∃ (x : Int) (z2 : Zt), (fun x z1 => z = z1 ∧ (0 ≤ t ∧ t ≤ 1) ∧ (0 ≤ d ∧ d ≤ 20000) ∧ x = 1 + calT z (tid t) d / yl (z (tid t) 0)) x z2 ∧ zup z2 176 0 (jl x) = z1) ∨ (v = 1 ∧ (fun E z1 => z = z1 ∧ ((E = xIO ∧ ¬ (0 ≤ t ∧ t ≤ 1)) ∨ (E = xIA ∧ (0 ≤ t ∧ t ≤ 1) ∧ ¬ (0 ≤ d ∧ d ≤ 20000)))) xIO z1) ∨ (v = 2 ∧ (fun E z1 => z = z1 ∧ ((E = xIO ∧ ¬ (0 ≤ t ∧ t ≤ 1)) ∨ (E = xIA ∧ (0 ≤ t ∧ t ≤ 1) ∧ ¬ (0 ≤ d ∧ d ≤ 20000)))) xIA z1)) k z1) (h2 : (fun v z1 => (w = z1 ∧ (0 ≤ t ∧ t ≤ 1) ∧ (0 ≤ d ∧ d ≤ 20000) ∧ v = 1 + calM (w 170) t d / yl (1 - t)) ∨ (zup w 169 5 1 = z1 ∧ ¬ (0 ≤ t ∧ t ≤ 1)) ∨ (zup w 169 5 2 = z1 ∧ (0 ≤ t ∧ t ≤ 1) ∧ ¬ (0 ≤ d ∧ d ≤ 20000))) v z2) : z2 169 5 = k ∧ (k = 0 → z2 176 0 = jl v) ∧ Rel z2 := by
  have hN : Nz z z1 := nz_yearOf h1
  have e170 : w 170 = z 170 := by rw [hw, zup_o (by decide)]; exact hN.1 170 (by decide) (by decide) (by decide) (by decide)
  have hB := hR.1
  have h3 : z 1 3 = z 170 14 := hB.2.2.1.1
  have h6 : z 1 6 = z 170 57 := hB.2.2.1.2.2.2.1
  have h68 := hB.1.2.2.2.2.2.2.2.1
  have tA : (0 ≤ t ∧ t ≤ 1) → z (tid t) 0 = 1 - t := fun q9 => RB_A hB (by omega)
  have tC : ∀ {d : Int}, (0 ≤ t ∧ t ≤ 1) → calT z (tid t) d = calM (z 170) t d := fun q9 => (RB_cal hB (by omega) _).1
  have tD : ∀ {d : Int}, (0 ≤ t ∧ t ≤ 1) → fdT z (tid t) d = fdM (z 170) t d := fun q9 => (RB_cal hB (by omega) _).2
  have t3 : (0 ≤ t ∧ t ≤ 1) → z (tid t) 3 = mN (z 170) t := fun q9 => (hB.2.1 t (by omega)).1
  try rw [e170] at h2
  rcases h1 with ⟨rfl, x, z3, ⟨h0, c1, c2, e1⟩, rfl⟩ | ⟨rfl, h0, hc⟩ | ⟨rfl, h0, hc⟩
  · rcases h2 with ⟨rfl, d1, d2, e2⟩ | ⟨rfl, d⟩ | ⟨rfl, d⟩
    · exact fin0 hR hN hw (zup_s _ _ _ _) (by rw [e1, e2, tA (by omega), tC (by omega)])
    · exfalso
      clear hN
      omega
    · exfalso
      clear hN
      omega
  · rcases hc with ⟨q8, hc⟩ | ⟨q8, hc⟩
    · rcases h2 with ⟨rfl, d1, d2, e2⟩ | ⟨rfl, d⟩ | ⟨rfl, d⟩
      · exfalso
        clear hN
        omega
      · exact finE hR hN hw (by decide)
      · exfalso
        clear hN
        omega
    · exact absurd q8 (by decide +kernel)
  · rcases hc with ⟨q8, hc⟩ | ⟨q8, hc⟩
    · exact absurd q8 (by decide +kernel)
    · rcases h2 with ⟨rfl, d1, d2, e2⟩ | ⟨rfl, d⟩ | ⟨rfl, d⟩
      · exfalso
        clear hN
        omega
      · exfalso
        clear hN
        omega
      · exact finE hR hN hw (by decide)
theorem nz_weekday {z z1 : Zt} {d : Int} {k : Int} (h1 : (fun v z1 => (v = 0 ∧ ∃ (x : Int) (z2 : Zt), (fun x z1 => z = z1 ∧ (0 ≤ d ∧ d ≤ 20000) ∧ x = d % 7) x z2 ∧ zup z2 176 0 (jl x) = z1) ∨ (v = 1 ∧ (fun E z1 => z = z1 ∧ E = xIA ∧ ¬ (0 ≤ d ∧ d ≤ 20000)) xIA z1)) k z1) : Nz z z1 := by
  rcases h1 with ⟨rfl, x, z3, ⟨h0, -⟩, rfl⟩ | ⟨rfl, rfl, -⟩
  · subst h0
    exact Nz.o176 _ _ _
  · exact Nz.rf _
set_option maxHeartbeats 2000000 in
theorem ok_weekday {z z1 w z2 : Zt} {d : Int} {k v : Int} (hR : Rel z) (hw : w = zup z1 169 5 0) (h1 : (fun v z1 => (v = 0 ∧ ∃ (x : Int) (z2 : Zt), (fun x z1 => z = z1 ∧ (0 ≤ d ∧ d ≤ 20000) ∧ x = d % 7) x z2 ∧ zup z2 176 0 (jl x) = z1) ∨ (v = 1 ∧ (fun E z1 => z = z1 ∧ E = xIA ∧ ¬ (0 ≤ d ∧ d ≤ 20000)) xIA z1)) k z1) (h2 : (fun v z1 => (w = z1 ∧ (0 ≤ d ∧ d ≤ 20000) ∧ v = d % 7) ∨ (zup w 169 5 1 = z1 ∧ ¬ (0 ≤ d ∧ d ≤ 20000))) v z2) : z2 169 5 = k ∧ (k = 0 → z2 176 0 = jl v) ∧ Rel z2 := by
  have hN : Nz z z1 := nz_weekday h1
  have e170 : w 170 = z 170 := by rw [hw, zup_o (by decide)]; exact hN.1 170 (by decide) (by decide) (by decide) (by decide)
  have hB := hR.1
  have h3 : z 1 3 = z 170 14 := hB.2.2.1.1
  have h6 : z 1 6 = z 170 57 := hB.2.2.1.2.2.2.1
  have h68 := hB.1.2.2.2.2.2.2.2.1
  try rw [e170] at h2
  rcases h1 with ⟨rfl, x, z3, ⟨h0, c1, e1⟩, rfl⟩ | ⟨rfl, h0, hc⟩
  · rcases h2 with ⟨rfl, d1, e2⟩ | ⟨rfl, d⟩
    · exact fin0 hR hN hw (zup_s _ _ _ _) (by rw [e1, e2])
    · exfalso
      clear hN
      omega
  · have hc := hc.2
    rcases h2 with ⟨rfl, d1, e2⟩ | ⟨rfl, d⟩
    · exfalso
      clear hN
      omega
    · exact finE hR hN hw (by decide)
theorem nz_dayOfDate {z z1 : Zt} {t y m q : Int} {k : Int} (h1 : (fun v z1 => (v = 0 ∧ ∃ (x : Int) (z2 : Zt), (fun x z1 => z = z1 ∧ (0 ≤ t ∧ t ≤ 1) ∧ ((1 ≤ y ∧ y ≤ 60) ∧ (1 ≤ m ∧ m ≤ 12) ∧ (1 ≤ q ∧ q ≤ 31)) ∧ x = (if 12 < m ∨ mlen (z (tid t) 0) m < q then -1 else if calT z (tid t) (fdT z (tid t) (dof (z (tid t) 0) y m q)) = dof (z (tid t) 0) y m q then fdT z (tid t) (dof (z (tid t) 0) y m q) else -1)) x z2 ∧ zup z2 176 0 (jl x) = z1) ∨ (v = 1 ∧ (fun E z1 => z = z1 ∧ ((E = xIO ∧ ¬ (0 ≤ t ∧ t ≤ 1)) ∨ (E = xIA ∧ (0 ≤ t ∧ t ≤ 1) ∧ ¬ ((1 ≤ y ∧ y ≤ 60) ∧ (1 ≤ m ∧ m ≤ 12) ∧ (1 ≤ q ∧ q ≤ 31))))) xIO z1) ∨ (v = 2 ∧ (fun E z1 => z = z1 ∧ ((E = xIO ∧ ¬ (0 ≤ t ∧ t ≤ 1)) ∨ (E = xIA ∧ (0 ≤ t ∧ t ≤ 1) ∧ ¬ ((1 ≤ y ∧ y ≤ 60) ∧ (1 ≤ m ∧ m ≤ 12) ∧ (1 ≤ q ∧ q ≤ 31))))) xIA z1)) k z1) : Nz z z1 := by
  rcases h1 with ⟨rfl, x, z3, ⟨h0, -⟩, rfl⟩ | ⟨rfl, rfl, -⟩ | ⟨rfl, rfl, -⟩
  · subst h0
    exact Nz.o176 _ _ _
  · exact Nz.rf _
  · exact Nz.rf _
set_option maxHeartbeats 2000000 in
theorem ok_dayOfDate {z z1 w z2 : Zt} {t y m q : Int} {k v : Int} (hR : Rel z) (hw : w = zup z1 169 5 0) (h1 : (fun v z1 => (v = 0 ∧ ∃ (x : Int) (z2 : Zt), (fun x z1 => z = z1 ∧ (0 ≤ t ∧ t ≤ 1) ∧ ((1 ≤ y ∧ y ≤ 60) ∧ (1 ≤ m ∧ m ≤ 12) ∧ (1 ≤ q ∧ q ≤ 31)) ∧ x = (if 12 < m ∨ mlen (z (tid t) 0) m < q then -1 else if calT z (tid t) (fdT z (tid t) (dof (z (tid t) 0) y m q)) = dof (z (tid t) 0) y m q then fdT z (tid t) (dof (z (tid t) 0) y m q) else -1)) x z2 ∧ zup z2 176 0 (jl x) = z1) ∨ (v = 1 ∧ (fun E z1 => z = z1 ∧ ((E = xIO ∧ ¬ (0 ≤ t ∧ t ≤ 1)) ∨ (E = xIA ∧ (0 ≤ t ∧ t ≤ 1) ∧ ¬ ((1 ≤ y ∧ y ≤ 60) ∧ (1 ≤ m ∧ m ≤ 12) ∧ (1 ≤ q ∧ q ≤ 31))))) xIO z1) ∨ (v = 2 ∧ (fun E z1 => z = z1 ∧ ((E = xIO ∧ ¬ (0 ≤ t ∧ t ≤ 1)) ∨ (E = xIA ∧ (0 ≤ t ∧ t ≤ 1) ∧ ¬ ((1 ≤ y ∧ y ≤ 60) ∧ (1 ≤ m ∧ m ≤ 12) ∧ (1 ≤ q ∧ q ≤ 31))))) xIA z1)) k z1) (h2 : (fun v z1 => (w = z1 ∧ (0 ≤ t ∧ t ≤ 1) ∧ ((1 ≤ y ∧ y ≤ 60) ∧ (1 ≤ m ∧ m ≤ 12) ∧ (1 ≤ q ∧ q ≤ 31)) ∧ v = (if 12 < m ∨ mlen (1 - t) m < q then -1 else if calM (w 170) t (fdM (w 170) t (dof (1 - t) y m q)) = dof (1 - t) y m q then fdM (w 170) t (dof (1 - t) y m q) else -1)) ∨ (zup w 169 5 1 = z1 ∧ ¬ (0 ≤ t ∧ t ≤ 1)) ∨ (zup w 169 5 2 = z1 ∧ (0 ≤ t ∧ t ≤ 1) ∧ ¬ ((1 ≤ y ∧ y ≤ 60) ∧ (1 ≤ m ∧ m ≤ 12) ∧ (1 ≤ q ∧ q ≤ 31)))) v z2) : z2 169 5 = k ∧ (k = 0 → z2 176 0 = jl v) ∧ Rel z2 := by
  have hN : Nz z z1 := nz_dayOfDate h1
  have e170 : w 170 = z 170 := by rw [hw, zup_o (by decide)]; exact hN.1 170 (by decide) (by decide) (by decide) (by decide)
  have hB := hR.1
  have h3 : z 1 3 = z 170 14 := hB.2.2.1.1
  have h6 : z 1 6 = z 170 57 := hB.2.2.1.2.2.2.1
  have h68 := hB.1.2.2.2.2.2.2.2.1
  have tA : (0 ≤ t ∧ t ≤ 1) → z (tid t) 0 = 1 - t := fun q9 => RB_A hB (by omega)
  have tC : ∀ {d : Int}, (0 ≤ t ∧ t ≤ 1) → calT z (tid t) d = calM (z 170) t d := fun q9 => (RB_cal hB (by omega) _).1
  have tD : ∀ {d : Int}, (0 ≤ t ∧ t ≤ 1) → fdT z (tid t) d = fdM (z 170) t d := fun q9 => (RB_cal hB (by omega) _).2
  have t3 : (0 ≤ t ∧ t ≤ 1) → z (tid t) 3 = mN (z 170) t := fun q9 => (hB.2.1 t (by omega)).1
  try rw [e170] at h2
  rcases h1 with ⟨rfl, x, z3, ⟨h0, c1, c2, e1⟩, rfl⟩ | ⟨rfl, h0, hc⟩ | ⟨rfl, h0, hc⟩
  · rcases h2 with ⟨rfl, d1, d2, e2⟩ | ⟨rfl, d⟩ | ⟨rfl, d⟩
    · exact fin0 hR hN hw (zup_s _ _ _ _) (by rw [e1, e2, tA (by omega), tC (by omega), tD (by omega)])
    · exfalso
      clear hN
      omega
    · exfalso
      clear hN
      omega
  · rcases hc with ⟨q8, hc⟩ | ⟨q8, hc⟩
    · rcases h2 with ⟨rfl, d1, d2, e2⟩ | ⟨rfl, d⟩ | ⟨rfl, d⟩
      · exfalso
        clear hN
        omega
      · exact finE hR hN hw (by decide)
      · exfalso
        clear hN
        omega
    · exact absurd q8 (by decide +kernel)
  · rcases hc with ⟨q8, hc⟩ | ⟨q8, hc⟩
    · exact absurd q8 (by decide +kernel)
    · rcases h2 with ⟨rfl, d1, d2, e2⟩ | ⟨rfl, d⟩ | ⟨rfl, d⟩
      · exfalso
        clear hN
        omega
      · exfalso
        clear hN
        omega
      · exact finE hR hN hw (by decide)
theorem nz_feastTown {z z1 : Zt} {f : Int} {k : Int} (h1 : (fun v z1 => (v = 0 ∧ ∃ (x : Int) (z2 : Zt), (fun x z1 => z = z1 ∧ (0 ≤ f ∧ f < z 1 3) ∧ x = z (9 + f.toNat) 0) x z2 ∧ zup z2 176 0 (jl x) = z1) ∨ (v = 1 ∧ (fun E z1 => z = z1 ∧ E = xIO ∧ ¬ (0 ≤ f ∧ f < z 1 3)) xIO z1)) k z1) : Nz z z1 := by
  rcases h1 with ⟨rfl, x, z3, ⟨h0, -⟩, rfl⟩ | ⟨rfl, rfl, -⟩
  · subst h0
    exact Nz.o176 _ _ _
  · exact Nz.rf _
set_option maxHeartbeats 2000000 in
theorem ok_feastTown {z z1 w z2 : Zt} {f : Int} {k v : Int} (hR : Rel z) (hw : w = zup z1 169 5 0) (h1 : (fun v z1 => (v = 0 ∧ ∃ (x : Int) (z2 : Zt), (fun x z1 => z = z1 ∧ (0 ≤ f ∧ f < z 1 3) ∧ x = z (9 + f.toNat) 0) x z2 ∧ zup z2 176 0 (jl x) = z1) ∨ (v = 1 ∧ (fun E z1 => z = z1 ∧ E = xIO ∧ ¬ (0 ≤ f ∧ f < z 1 3)) xIO z1)) k z1) (h2 : (fun v z1 => (w = z1 ∧ (0 ≤ f ∧ f < w 170 14) ∧ v = mF (w 170) f 0) ∨ (zup w 169 5 1 = z1 ∧ ¬ (0 ≤ f ∧ f < w 170 14))) v z2) : z2 169 5 = k ∧ (k = 0 → z2 176 0 = jl v) ∧ Rel z2 := by
  have hN : Nz z z1 := nz_feastTown h1
  have e170 : w 170 = z 170 := by rw [hw, zup_o (by decide)]; exact hN.1 170 (by decide) (by decide) (by decide) (by decide)
  have hB := hR.1
  have h3 : z 1 3 = z 170 14 := hB.2.2.1.1
  have h6 : z 1 6 = z 170 57 := hB.2.2.1.2.2.2.1
  have h68 := hB.1.2.2.2.2.2.2.2.1
  try rw [e170] at h2
  rcases h1 with ⟨rfl, x, z3, ⟨h0, c1, e1⟩, rfl⟩ | ⟨rfl, h0, hc⟩
  · rcases h2 with ⟨rfl, d1, e2⟩ | ⟨rfl, d⟩
    · exact fin0 hR hN hw (zup_s _ _ _ _) (by rw [e1, e2]; have h9 := RB_f hB (f := f) d1 (w := 0) (by decide); rw [show 1 + 8 + f.toNat = 9 + f.toNat by omega] at h9; exact h9)
    · exfalso
      clear hN
      omega
  · have hc := hc.2
    rcases h2 with ⟨rfl, d1, e2⟩ | ⟨rfl, d⟩
    · exfalso
      clear hN
      omega
    · exact finE hR hN hw (by decide)
theorem nz_barredWeekday {z z1 : Zt} {f : Int} {k : Int} (h1 : (fun v z1 => (v = 0 ∧ ∃ (x : Int) (z2 : Zt), (fun x z1 => z = z1 ∧ (0 ≤ f ∧ f < z 1 3) ∧ x = z (9 + f.toNat) 3) x z2 ∧ zup z2 176 0 (jl x) = z1) ∨ (v = 1 ∧ (fun E z1 => z = z1 ∧ E = xIO ∧ ¬ (0 ≤ f ∧ f < z 1 3)) xIO z1)) k z1) : Nz z z1 := by
  rcases h1 with ⟨rfl, x, z3, ⟨h0, -⟩, rfl⟩ | ⟨rfl, rfl, -⟩
  · subst h0
    exact Nz.o176 _ _ _
  · exact Nz.rf _
set_option maxHeartbeats 2000000 in
theorem ok_barredWeekday {z z1 w z2 : Zt} {f : Int} {k v : Int} (hR : Rel z) (hw : w = zup z1 169 5 0) (h1 : (fun v z1 => (v = 0 ∧ ∃ (x : Int) (z2 : Zt), (fun x z1 => z = z1 ∧ (0 ≤ f ∧ f < z 1 3) ∧ x = z (9 + f.toNat) 3) x z2 ∧ zup z2 176 0 (jl x) = z1) ∨ (v = 1 ∧ (fun E z1 => z = z1 ∧ E = xIO ∧ ¬ (0 ≤ f ∧ f < z 1 3)) xIO z1)) k z1) (h2 : (fun v z1 => (w = z1 ∧ (0 ≤ f ∧ f < w 170 14) ∧ v = mF (w 170) f 3) ∨ (zup w 169 5 1 = z1 ∧ ¬ (0 ≤ f ∧ f < w 170 14))) v z2) : z2 169 5 = k ∧ (k = 0 → z2 176 0 = jl v) ∧ Rel z2 := by
  have hN : Nz z z1 := nz_barredWeekday h1
  have e170 : w 170 = z 170 := by rw [hw, zup_o (by decide)]; exact hN.1 170 (by decide) (by decide) (by decide) (by decide)
  have hB := hR.1
  have h3 : z 1 3 = z 170 14 := hB.2.2.1.1
  have h6 : z 1 6 = z 170 57 := hB.2.2.1.2.2.2.1
  have h68 := hB.1.2.2.2.2.2.2.2.1
  try rw [e170] at h2
  rcases h1 with ⟨rfl, x, z3, ⟨h0, c1, e1⟩, rfl⟩ | ⟨rfl, h0, hc⟩
  · rcases h2 with ⟨rfl, d1, e2⟩ | ⟨rfl, d⟩
    · exact fin0 hR hN hw (zup_s _ _ _ _) (by rw [e1, e2]; have h9 := RB_f hB (f := f) d1 (w := 3) (by decide); rw [show 1 + 8 + f.toNat = 9 + f.toNat by omega] at h9; exact h9)
    · exfalso
      clear hN
      omega
  · have hc := hc.2
    rcases h2 with ⟨rfl, d1, e2⟩ | ⟨rfl, d⟩
    · exfalso
      clear hN
      omega
    · exact finE hR hN hw (by decide)
theorem nz_dayDue {z z1 : Zt} {f y : Int} {k : Int} (h1 : (fun v z1 => (v = 0 ∧ ∃ (x : Int) (z2 : Zt), (fun x z1 => z = z1 ∧ (0 ≤ f ∧ f < z 1 3) ∧ (1 ≤ y ∧ y ≤ 60) ∧ x = dS z 1 (9 + f.toNat) y) x z2 ∧ zup z2 176 0 (jl x) = z1) ∨ (v = 1 ∧ (fun E z1 => z = z1 ∧ ((E = xIO ∧ ¬ (0 ≤ f ∧ f < z 1 3)) ∨ (E = xIA ∧ (0 ≤ f ∧ f < z 1 3) ∧ ¬ (1 ≤ y ∧ y ≤ 60)))) xIO z1) ∨ (v = 2 ∧ (fun E z1 => z = z1 ∧ ((E = xIO ∧ ¬ (0 ≤ f ∧ f < z 1 3)) ∨ (E = xIA ∧ (0 ≤ f ∧ f < z 1 3) ∧ ¬ (1 ≤ y ∧ y ≤ 60)))) xIA z1)) k z1) : Nz z z1 := by
  rcases h1 with ⟨rfl, x, z3, ⟨h0, -⟩, rfl⟩ | ⟨rfl, rfl, -⟩ | ⟨rfl, rfl, -⟩
  · subst h0
    exact Nz.o176 _ _ _
  · exact Nz.rf _
  · exact Nz.rf _
set_option maxHeartbeats 2000000 in
theorem ok_dayDue {z z1 w z2 : Zt} {f y : Int} {k v : Int} (hR : Rel z) (hw : w = zup z1 169 5 0) (h1 : (fun v z1 => (v = 0 ∧ ∃ (x : Int) (z2 : Zt), (fun x z1 => z = z1 ∧ (0 ≤ f ∧ f < z 1 3) ∧ (1 ≤ y ∧ y ≤ 60) ∧ x = dS z 1 (9 + f.toNat) y) x z2 ∧ zup z2 176 0 (jl x) = z1) ∨ (v = 1 ∧ (fun E z1 => z = z1 ∧ ((E = xIO ∧ ¬ (0 ≤ f ∧ f < z 1 3)) ∨ (E = xIA ∧ (0 ≤ f ∧ f < z 1 3) ∧ ¬ (1 ≤ y ∧ y ≤ 60)))) xIO z1) ∨ (v = 2 ∧ (fun E z1 => z = z1 ∧ ((E = xIO ∧ ¬ (0 ≤ f ∧ f < z 1 3)) ∨ (E = xIA ∧ (0 ≤ f ∧ f < z 1 3) ∧ ¬ (1 ≤ y ∧ y ≤ 60)))) xIA z1)) k z1) (h2 : (fun v z1 => (w = z1 ∧ (0 ≤ f ∧ f < w 170 14) ∧ (1 ≤ y ∧ y ≤ 60) ∧ v = dM (w 170) f y) ∨ (zup w 169 5 1 = z1 ∧ ¬ (0 ≤ f ∧ f < w 170 14)) ∨ (zup w 169 5 2 = z1 ∧ (0 ≤ f ∧ f < w 170 14) ∧ ¬ (1 ≤ y ∧ y ≤ 60))) v z2) : z2 169 5 = k ∧ (k = 0 → z2 176 0 = jl v) ∧ Rel z2 := by
  have hN : Nz z z1 := nz_dayDue h1
  have e170 : w 170 = z 170 := by rw [hw, zup_o (by decide)]; exact hN.1 170 (by decide) (by decide) (by decide) (by decide)
  have hB := hR.1
  have h3 : z 1 3 = z 170 14 := hB.2.2.1.1
  have h6 : z 1 6 = z 170 57 := hB.2.2.1.2.2.2.1
  have h68 := hB.1.2.2.2.2.2.2.2.1
  try rw [e170] at h2
  rcases h1 with ⟨rfl, x, z3, ⟨h0, c1, c2, e1⟩, rfl⟩ | ⟨rfl, h0, hc⟩ | ⟨rfl, h0, hc⟩
  · rcases h2 with ⟨rfl, d1, d2, e2⟩ | ⟨rfl, d⟩ | ⟨rfl, d⟩
    · exact fin0 hR hN hw (zup_s _ _ _ _) (by rw [e1, e2]; have h9 := (RB_dS hB (f := f) d1 y).1; rw [show 1 + 8 + f.toNat = 9 + f.toNat by omega] at h9; exact h9)
    · exfalso
      clear hN
      omega
    · exfalso
      clear hN
      omega
  · rcases hc with ⟨q8, hc⟩ | ⟨q8, hc⟩
    · rcases h2 with ⟨rfl, d1, d2, e2⟩ | ⟨rfl, d⟩ | ⟨rfl, d⟩
      · exfalso
        clear hN
        omega
      · exact finE hR hN hw (by decide)
      · exfalso
        clear hN
        omega
    · exact absurd q8 (by decide +kernel)
  · rcases hc with ⟨q8, hc⟩ | ⟨q8, hc⟩
    · exact absurd q8 (by decide +kernel)
    · rcases h2 with ⟨rfl, d1, d2, e2⟩ | ⟨rfl, d⟩ | ⟨rfl, d⟩
      · exfalso
        clear hN
        omega
      · exfalso
        clear hN
        omega
      · exact finE hR hN hw (by decide)
theorem nz_dayKept {z z1 : Zt} {f y : Int} {k : Int} (h1 : (fun v z1 => (v = 0 ∧ ∃ (x : Int) (z2 : Zt), (fun x z1 => z = z1 ∧ (0 ≤ f ∧ f < z 1 3) ∧ (1 ≤ y ∧ y ≤ 60) ∧ x = kS z 1 (9 + f.toNat) y) x z2 ∧ zup z2 176 0 (jl x) = z1) ∨ (v = 1 ∧ (fun E z1 => z = z1 ∧ ((E = xIO ∧ ¬ (0 ≤ f ∧ f < z 1 3)) ∨ (E = xIA ∧ (0 ≤ f ∧ f < z 1 3) ∧ ¬ (1 ≤ y ∧ y ≤ 60)))) xIO z1) ∨ (v = 2 ∧ (fun E z1 => z = z1 ∧ ((E = xIO ∧ ¬ (0 ≤ f ∧ f < z 1 3)) ∨ (E = xIA ∧ (0 ≤ f ∧ f < z 1 3) ∧ ¬ (1 ≤ y ∧ y ≤ 60)))) xIA z1)) k z1) : Nz z z1 := by
  rcases h1 with ⟨rfl, x, z3, ⟨h0, -⟩, rfl⟩ | ⟨rfl, rfl, -⟩ | ⟨rfl, rfl, -⟩
  · subst h0
    exact Nz.o176 _ _ _
  · exact Nz.rf _
  · exact Nz.rf _
set_option maxHeartbeats 2000000 in
theorem ok_dayKept {z z1 w z2 : Zt} {f y : Int} {k v : Int} (hR : Rel z) (hw : w = zup z1 169 5 0) (h1 : (fun v z1 => (v = 0 ∧ ∃ (x : Int) (z2 : Zt), (fun x z1 => z = z1 ∧ (0 ≤ f ∧ f < z 1 3) ∧ (1 ≤ y ∧ y ≤ 60) ∧ x = kS z 1 (9 + f.toNat) y) x z2 ∧ zup z2 176 0 (jl x) = z1) ∨ (v = 1 ∧ (fun E z1 => z = z1 ∧ ((E = xIO ∧ ¬ (0 ≤ f ∧ f < z 1 3)) ∨ (E = xIA ∧ (0 ≤ f ∧ f < z 1 3) ∧ ¬ (1 ≤ y ∧ y ≤ 60)))) xIO z1) ∨ (v = 2 ∧ (fun E z1 => z = z1 ∧ ((E = xIO ∧ ¬ (0 ≤ f ∧ f < z 1 3)) ∨ (E = xIA ∧ (0 ≤ f ∧ f < z 1 3) ∧ ¬ (1 ≤ y ∧ y ≤ 60)))) xIA z1)) k z1) (h2 : (fun v z1 => (w = z1 ∧ (0 ≤ f ∧ f < w 170 14) ∧ (1 ≤ y ∧ y ≤ 60) ∧ v = kM (w 170) f y) ∨ (zup w 169 5 1 = z1 ∧ ¬ (0 ≤ f ∧ f < w 170 14)) ∨ (zup w 169 5 2 = z1 ∧ (0 ≤ f ∧ f < w 170 14) ∧ ¬ (1 ≤ y ∧ y ≤ 60))) v z2) : z2 169 5 = k ∧ (k = 0 → z2 176 0 = jl v) ∧ Rel z2 := by
  have hN : Nz z z1 := nz_dayKept h1
  have e170 : w 170 = z 170 := by rw [hw, zup_o (by decide)]; exact hN.1 170 (by decide) (by decide) (by decide) (by decide)
  have hB := hR.1
  have h3 : z 1 3 = z 170 14 := hB.2.2.1.1
  have h6 : z 1 6 = z 170 57 := hB.2.2.1.2.2.2.1
  have h68 := hB.1.2.2.2.2.2.2.2.1
  try rw [e170] at h2
  rcases h1 with ⟨rfl, x, z3, ⟨h0, c1, c2, e1⟩, rfl⟩ | ⟨rfl, h0, hc⟩ | ⟨rfl, h0, hc⟩
  · rcases h2 with ⟨rfl, d1, d2, e2⟩ | ⟨rfl, d⟩ | ⟨rfl, d⟩
    · exact fin0 hR hN hw (zup_s _ _ _ _) (by rw [e1, e2]; have h9 := (RB_dS hB (f := f) d1 y).2.1; rw [show 1 + 8 + f.toNat = 9 + f.toNat by omega] at h9; exact h9)
    · exfalso
      clear hN
      omega
    · exfalso
      clear hN
      omega
  · rcases hc with ⟨q8, hc⟩ | ⟨q8, hc⟩
    · rcases h2 with ⟨rfl, d1, d2, e2⟩ | ⟨rfl, d⟩ | ⟨rfl, d⟩
      · exfalso
        clear hN
        omega
      · exact finE hR hN hw (by decide)
      · exfalso
        clear hN
        omega
    · exact absurd q8 (by decide +kernel)
  · rcases hc with ⟨q8, hc⟩ | ⟨q8, hc⟩
    · exact absurd q8 (by decide +kernel)
    · rcases h2 with ⟨rfl, d1, d2, e2⟩ | ⟨rfl, d⟩ | ⟨rfl, d⟩
      · exfalso
        clear hN
        omega
      · exfalso
        clear hN
        omega
      · exact finE hR hN hw (by decide)
theorem nz_isKept {z z1 : Zt} {f d : Int} {k : Int} (h1 : (fun v z1 => (v = 0 ∧ ∃ (x : Int) (z2 : Zt), (fun x z1 => z = z1 ∧ (0 ≤ f ∧ f < z 1 3) ∧ (0 ≤ d ∧ d ≤ 20000) ∧ x = ind (onS z 1 (9 + f.toNat) d)) x z2 ∧ zup z2 176 0 (jl x) = z1) ∨ (v = 1 ∧ (fun E z1 => z = z1 ∧ ((E = xIO ∧ ¬ (0 ≤ f ∧ f < z 1 3)) ∨ (E = xIA ∧ (0 ≤ f ∧ f < z 1 3) ∧ ¬ (0 ≤ d ∧ d ≤ 20000)))) xIO z1) ∨ (v = 2 ∧ (fun E z1 => z = z1 ∧ ((E = xIO ∧ ¬ (0 ≤ f ∧ f < z 1 3)) ∨ (E = xIA ∧ (0 ≤ f ∧ f < z 1 3) ∧ ¬ (0 ≤ d ∧ d ≤ 20000)))) xIA z1)) k z1) : Nz z z1 := by
  rcases h1 with ⟨rfl, x, z3, ⟨h0, -⟩, rfl⟩ | ⟨rfl, rfl, -⟩ | ⟨rfl, rfl, -⟩
  · subst h0
    exact Nz.o176 _ _ _
  · exact Nz.rf _
  · exact Nz.rf _
set_option maxHeartbeats 2000000 in
theorem ok_isKept {z z1 w z2 : Zt} {f d : Int} {k v : Int} (hR : Rel z) (hw : w = zup z1 169 5 0) (h1 : (fun v z1 => (v = 0 ∧ ∃ (x : Int) (z2 : Zt), (fun x z1 => z = z1 ∧ (0 ≤ f ∧ f < z 1 3) ∧ (0 ≤ d ∧ d ≤ 20000) ∧ x = ind (onS z 1 (9 + f.toNat) d)) x z2 ∧ zup z2 176 0 (jl x) = z1) ∨ (v = 1 ∧ (fun E z1 => z = z1 ∧ ((E = xIO ∧ ¬ (0 ≤ f ∧ f < z 1 3)) ∨ (E = xIA ∧ (0 ≤ f ∧ f < z 1 3) ∧ ¬ (0 ≤ d ∧ d ≤ 20000)))) xIO z1) ∨ (v = 2 ∧ (fun E z1 => z = z1 ∧ ((E = xIO ∧ ¬ (0 ≤ f ∧ f < z 1 3)) ∨ (E = xIA ∧ (0 ≤ f ∧ f < z 1 3) ∧ ¬ (0 ≤ d ∧ d ≤ 20000)))) xIA z1)) k z1) (h2 : (fun v z1 => (w = z1 ∧ (0 ≤ f ∧ f < w 170 14) ∧ (0 ≤ d ∧ d ≤ 20000) ∧ v = ind (onM (w 170) f d)) ∨ (zup w 169 5 1 = z1 ∧ ¬ (0 ≤ f ∧ f < w 170 14)) ∨ (zup w 169 5 2 = z1 ∧ (0 ≤ f ∧ f < w 170 14) ∧ ¬ (0 ≤ d ∧ d ≤ 20000))) v z2) : z2 169 5 = k ∧ (k = 0 → z2 176 0 = jl v) ∧ Rel z2 := by
  have hN : Nz z z1 := nz_isKept h1
  have e170 : w 170 = z 170 := by rw [hw, zup_o (by decide)]; exact hN.1 170 (by decide) (by decide) (by decide) (by decide)
  have hB := hR.1
  have h3 : z 1 3 = z 170 14 := hB.2.2.1.1
  have h6 : z 1 6 = z 170 57 := hB.2.2.1.2.2.2.1
  have h68 := hB.1.2.2.2.2.2.2.2.1
  try rw [e170] at h2
  rcases h1 with ⟨rfl, x, z3, ⟨h0, c1, c2, e1⟩, rfl⟩ | ⟨rfl, h0, hc⟩ | ⟨rfl, h0, hc⟩
  · rcases h2 with ⟨rfl, d1, d2, e2⟩ | ⟨rfl, d⟩ | ⟨rfl, d⟩
    · exact fin0 hR hN hw (zup_s _ _ _ _) (by rw [e1, e2]; have h9 := RB_on hB (f := f) d1 d; rw [show 1 + 8 + f.toNat = 9 + f.toNat by omega] at h9; exact ind_c h9)
    · exfalso
      clear hN
      omega
    · exfalso
      clear hN
      omega
  · rcases hc with ⟨q8, hc⟩ | ⟨q8, hc⟩
    · rcases h2 with ⟨rfl, d1, d2, e2⟩ | ⟨rfl, d⟩ | ⟨rfl, d⟩
      · exfalso
        clear hN
        omega
      · exact finE hR hN hw (by decide)
      · exfalso
        clear hN
        omega
    · exact absurd q8 (by decide +kernel)
  · rcases hc with ⟨q8, hc⟩ | ⟨q8, hc⟩
    · exact absurd q8 (by decide +kernel)
    · rcases h2 with ⟨rfl, d1, d2, e2⟩ | ⟨rfl, d⟩ | ⟨rfl, d⟩
      · exfalso
        clear hN
        omega
      · exfalso
        clear hN
        omega
      · exact finE hR hN hw (by decide)
theorem nz_feastsOn {z z1 : Zt} {d : Int} {k : Int} (h1 : (fun v z1 => (v = 0 ∧ ∃ (x : Int) (z2 : Zt), (fun x z1 => ag24 z z1 ∧ (0 ≤ d ∧ d ≤ 20000) ∧ isSet (fun j => (j : Int) < z 1 3 ∧ onS z 1 (1 + 8 + j) d) x) x z2 ∧ zup z2 176 0 (jl x) = z1) ∨ (v = 1 ∧ (fun E z1 => z = z1 ∧ E = xIA ∧ ¬ (0 ≤ d ∧ d ≤ 20000)) xIA z1)) k z1) : Nz z z1 := by
  rcases h1 with ⟨rfl, x, z3, ⟨h0, -⟩, rfl⟩ | ⟨rfl, rfl, -⟩
  · exact (Nz.ag h0).tr (Nz.o176 _ _ _)
  · exact Nz.rf _
set_option maxHeartbeats 2000000 in
theorem ok_feastsOn {z z1 w z2 : Zt} {d : Int} {k v : Int} (hR : Rel z) (hw : w = zup z1 169 5 0) (h1 : (fun v z1 => (v = 0 ∧ ∃ (x : Int) (z2 : Zt), (fun x z1 => ag24 z z1 ∧ (0 ≤ d ∧ d ≤ 20000) ∧ isSet (fun j => (j : Int) < z 1 3 ∧ onS z 1 (1 + 8 + j) d) x) x z2 ∧ zup z2 176 0 (jl x) = z1) ∨ (v = 1 ∧ (fun E z1 => z = z1 ∧ E = xIA ∧ ¬ (0 ≤ d ∧ d ≤ 20000)) xIA z1)) k z1) (h2 : (fun v z1 => (w = z1 ∧ (0 ≤ d ∧ d ≤ 20000) ∧ isSet (fun j => (j : Int) < w 170 14 ∧ onM (w 170) j d) v) ∨ (zup w 169 5 1 = z1 ∧ ¬ (0 ≤ d ∧ d ≤ 20000))) v z2) : z2 169 5 = k ∧ (k = 0 → z2 176 0 = jl v) ∧ Rel z2 := by
  have hN : Nz z z1 := nz_feastsOn h1
  have e170 : w 170 = z 170 := by rw [hw, zup_o (by decide)]; exact hN.1 170 (by decide) (by decide) (by decide) (by decide)
  have hB := hR.1
  have h3 : z 1 3 = z 170 14 := hB.2.2.1.1
  have h6 : z 1 6 = z 170 57 := hB.2.2.1.2.2.2.1
  have h68 := hB.1.2.2.2.2.2.2.2.1
  try rw [e170] at h2
  rcases h1 with ⟨rfl, x, z3, ⟨h0, c1, s1⟩, rfl⟩ | ⟨rfl, h0, hc⟩
  · rcases h2 with ⟨rfl, d1, s2⟩ | ⟨rfl, d⟩
    · exact fin0 hR hN hw (zup_s _ _ _ _) (isSet_one (isSet_congr s1 (fun j => RB_onj hB j d)) s2)
    · exfalso
      clear hN
      omega
  · have hc := hc.2
    rcases h2 with ⟨rfl, d1, s2⟩ | ⟨rfl, d⟩
    · exfalso
      clear hN
      omega
    · exact finE hR hN hw (by decide)
theorem nz_isQuarrel {z z1 : Zt} {d : Int} {k : Int} (h1 : (fun v z1 => (v = 0 ∧ ∃ (x : Int) (z2 : Zt), (fun x z1 => ag24 z z1 ∧ (0 ≤ d ∧ d ≤ 20000) ∧ x = ind (quS z 1 d)) x z2 ∧ zup z2 176 0 (jl x) = z1) ∨ (v = 1 ∧ (fun E z1 => z = z1 ∧ E = xIA ∧ ¬ (0 ≤ d ∧ d ≤ 20000)) xIA z1)) k z1) : Nz z z1 := by
  rcases h1 with ⟨rfl, x, z3, ⟨h0, -⟩, rfl⟩ | ⟨rfl, rfl, -⟩
  · exact (Nz.ag h0).tr (Nz.o176 _ _ _)
  · exact Nz.rf _
set_option maxHeartbeats 2000000 in
theorem ok_isQuarrel {z z1 w z2 : Zt} {d : Int} {k v : Int} (hR : Rel z) (hw : w = zup z1 169 5 0) (h1 : (fun v z1 => (v = 0 ∧ ∃ (x : Int) (z2 : Zt), (fun x z1 => ag24 z z1 ∧ (0 ≤ d ∧ d ≤ 20000) ∧ x = ind (quS z 1 d)) x z2 ∧ zup z2 176 0 (jl x) = z1) ∨ (v = 1 ∧ (fun E z1 => z = z1 ∧ E = xIA ∧ ¬ (0 ≤ d ∧ d ≤ 20000)) xIA z1)) k z1) (h2 : (fun v z1 => (w = z1 ∧ (0 ≤ d ∧ d ≤ 20000) ∧ v = ind (quM (w 170) d)) ∨ (zup w 169 5 1 = z1 ∧ ¬ (0 ≤ d ∧ d ≤ 20000))) v z2) : z2 169 5 = k ∧ (k = 0 → z2 176 0 = jl v) ∧ Rel z2 := by
  have hN : Nz z z1 := nz_isQuarrel h1
  have e170 : w 170 = z 170 := by rw [hw, zup_o (by decide)]; exact hN.1 170 (by decide) (by decide) (by decide) (by decide)
  have hB := hR.1
  have h3 : z 1 3 = z 170 14 := hB.2.2.1.1
  have h6 : z 1 6 = z 170 57 := hB.2.2.1.2.2.2.1
  have h68 := hB.1.2.2.2.2.2.2.2.1
  try rw [e170] at h2
  rcases h1 with ⟨rfl, x, z3, ⟨h0, c1, e1⟩, rfl⟩ | ⟨rfl, h0, hc⟩
  · rcases h2 with ⟨rfl, d1, e2⟩ | ⟨rfl, d⟩
    · exact fin0 hR hN hw (zup_s _ _ _ _) (by rw [e1, e2]; exact ind_c (RB_qu hB d))
    · exfalso
      clear hN
      omega
  · have hc := hc.2
    rcases h2 with ⟨rfl, d1, e2⟩ | ⟨rfl, d⟩
    · exfalso
      clear hN
      omega
    · exact finE hR hN hw (by decide)
theorem nz_feastsKept {z z1 : Zt} {t : Int} {k : Int} (h1 : (fun v z1 => (v = 0 ∧ ∃ (x : Int) (z2 : Zt), (fun x z1 => z = z1 ∧ (0 ≤ t ∧ t ≤ 1) ∧ x = z (tid t) 4) x z2 ∧ zup z2 176 0 (jl x) = z1) ∨ (v = 1 ∧ (fun E z1 => z = z1 ∧ E = xIO ∧ ¬ (0 ≤ t ∧ t ≤ 1)) xIO z1)) k z1) : Nz z z1 := by
  rcases h1 with ⟨rfl, x, z3, ⟨h0, -⟩, rfl⟩ | ⟨rfl, rfl, -⟩
  · subst h0
    exact Nz.o176 _ _ _
  · exact Nz.rf _
set_option maxHeartbeats 2000000 in
theorem ok_feastsKept {z z1 w z2 : Zt} {t : Int} {k v : Int} (hR : Rel z) (hw : w = zup z1 169 5 0) (h1 : (fun v z1 => (v = 0 ∧ ∃ (x : Int) (z2 : Zt), (fun x z1 => z = z1 ∧ (0 ≤ t ∧ t ≤ 1) ∧ x = z (tid t) 4) x z2 ∧ zup z2 176 0 (jl x) = z1) ∨ (v = 1 ∧ (fun E z1 => z = z1 ∧ E = xIO ∧ ¬ (0 ≤ t ∧ t ≤ 1)) xIO z1)) k z1) (h2 : (fun v z1 => (w = z1 ∧ (0 ≤ t ∧ t ≤ 1) ∧ v = w 170 (58 + t).toNat) ∨ (zup w 169 5 1 = z1 ∧ ¬ (0 ≤ t ∧ t ≤ 1))) v z2) : z2 169 5 = k ∧ (k = 0 → z2 176 0 = jl v) ∧ Rel z2 := by
  have hN : Nz z z1 := nz_feastsKept h1
  have e170 : w 170 = z 170 := by rw [hw, zup_o (by decide)]; exact hN.1 170 (by decide) (by decide) (by decide) (by decide)
  have hB := hR.1
  have h3 : z 1 3 = z 170 14 := hB.2.2.1.1
  have h6 : z 1 6 = z 170 57 := hB.2.2.1.2.2.2.1
  have h68 := hB.1.2.2.2.2.2.2.2.1
  have tA : (0 ≤ t ∧ t ≤ 1) → z (tid t) 0 = 1 - t := fun q9 => RB_A hB (by omega)
  have tC : ∀ {d : Int}, (0 ≤ t ∧ t ≤ 1) → calT z (tid t) d = calM (z 170) t d := fun q9 => (RB_cal hB (by omega) _).1
  have tD : ∀ {d : Int}, (0 ≤ t ∧ t ≤ 1) → fdT z (tid t) d = fdM (z 170) t d := fun q9 => (RB_cal hB (by omega) _).2
  have t3 : (0 ≤ t ∧ t ≤ 1) → z (tid t) 3 = mN (z 170) t := fun q9 => (hB.2.1 t (by omega)).1
  try rw [e170] at h2
  rcases h1 with ⟨rfl, x, z3, ⟨h0, c1, e1⟩, rfl⟩ | ⟨rfl, h0, hc⟩
  · rcases h2 with ⟨rfl, d1, e2⟩ | ⟨rfl, d⟩
    · exact fin0 hR hN hw (zup_s _ _ _ _) (by rw [e1, e2]; exact (hB.2.1 t (by omega)).2.1)
    · exfalso
      clear hN
      omega
  · have hc := hc.2
    rcases h2 with ⟨rfl, d1, e2⟩ | ⟨rfl, d⟩
    · exfalso
      clear hN
      omega
    · exact finE hR hN hw (by decide)
theorem nz_nextDay {z z1 : Zt} {f : Int} {k : Int} (h1 : (fun v z1 => (v = 0 ∧ ∃ (x : Int) (z2 : Zt), (fun x z1 => z = z1 ∧ (0 ≤ f ∧ f < z 1 3) ∧ FKP (kS z 1 (9 + f.toNat)) (yS z 1 (9 + f.toNat)) (fun _ => True) (z 1 6) (z 1 6 + 799) x) x z2 ∧ zup z2 176 0 (jl x) = z1) ∨ (v = 1 ∧ (fun E z1 => z = z1 ∧ E = xIO ∧ ¬ (0 ≤ f ∧ f < z 1 3)) xIO z1)) k z1) : Nz z z1 := by
  rcases h1 with ⟨rfl, x, z3, ⟨h0, -⟩, rfl⟩ | ⟨rfl, rfl, -⟩
  · subst h0
    exact Nz.o176 _ _ _
  · exact Nz.rf _
set_option maxHeartbeats 2000000 in
theorem ok_nextDay {z z1 w z2 : Zt} {f : Int} {k v : Int} (hR : Rel z) (hw : w = zup z1 169 5 0) (h1 : (fun v z1 => (v = 0 ∧ ∃ (x : Int) (z2 : Zt), (fun x z1 => z = z1 ∧ (0 ≤ f ∧ f < z 1 3) ∧ FKP (kS z 1 (9 + f.toNat)) (yS z 1 (9 + f.toNat)) (fun _ => True) (z 1 6) (z 1 6 + 799) x) x z2 ∧ zup z2 176 0 (jl x) = z1) ∨ (v = 1 ∧ (fun E z1 => z = z1 ∧ E = xIO ∧ ¬ (0 ≤ f ∧ f < z 1 3)) xIO z1)) k z1) (h2 : (fun v z1 => (w = z1 ∧ (0 ≤ f ∧ f < w 170 14) ∧ FD (onM (w 170) f) (w 170 57) (w 170 57 + 799) v) ∨ (zup w 169 5 1 = z1 ∧ ¬ (0 ≤ f ∧ f < w 170 14))) v z2) : z2 169 5 = k ∧ (k = 0 → z2 176 0 = jl v) ∧ Rel z2 := by
  have hN : Nz z z1 := nz_nextDay h1
  have e170 : w 170 = z 170 := by rw [hw, zup_o (by decide)]; exact hN.1 170 (by decide) (by decide) (by decide) (by decide)
  have hB := hR.1
  have h3 : z 1 3 = z 170 14 := hB.2.2.1.1
  have h6 : z 1 6 = z 170 57 := hB.2.2.1.2.2.2.1
  have h68 := hB.1.2.2.2.2.2.2.2.1
  try rw [e170] at h2
  rcases h1 with ⟨rfl, x, z3, ⟨h0, c1, f1⟩, rfl⟩ | ⟨rfl, h0, hc⟩
  · rcases h2 with ⟨rfl, d1, f2⟩ | ⟨rfl, d⟩
    · exact fin0 hR hN hw (zup_s _ _ _ _) (by rw [h6] at f1; exact FD_one (by omega) (fun d _ _ => by have h9 := RB_on hB (f := f) d1 d; rw [show 1 + 8 + f.toNat = 9 + f.toNat by omega] at h9; exact (and_true_iff h9)) (FKP_FD f1) f2)
    · exfalso
      clear hN
      omega
  · have hc := hc.2
    rcases h2 with ⟨rfl, d1, f2⟩ | ⟨rfl, d⟩
    · exfalso
      clear hN
      omega
    · exact finE hR hN hw (by decide)
theorem nz_daysUntilMeeting {z z1 : Zt} {f g : Int} {k : Int} (h1 : (fun v z1 => (v = 0 ∧ ∃ (x : Int) (z2 : Zt), (fun x z1 => z = z1 ∧ (0 ≤ f ∧ f < z 1 3) ∧ (0 ≤ g ∧ g < z 1 3) ∧ f ≠ g ∧ ∃ d, FKP (kS z 1 (9 + f.toNat)) (yS z 1 (9 + f.toNat)) (onS z 1 (9 + g.toNat)) (z 1 6) (z 1 6 + 2000) d ∧ x = (if d = -1 then -1 else d - z 1 6)) x z2 ∧ zup z2 176 0 (jl x) = z1) ∨ (v = 1 ∧ (fun E z1 => z = z1 ∧ ((E = xIO ∧ (¬ (0 ≤ f ∧ f < z 1 3) ∨ ¬ (0 ≤ g ∧ g < z 1 3))) ∨ (E = xIA ∧ (0 ≤ f ∧ f < z 1 3) ∧ (0 ≤ g ∧ g < z 1 3) ∧ f = g))) xIO z1) ∨ (v = 2 ∧ (fun E z1 => z = z1 ∧ ((E = xIO ∧ (¬ (0 ≤ f ∧ f < z 1 3) ∨ ¬ (0 ≤ g ∧ g < z 1 3))) ∨ (E = xIA ∧ (0 ≤ f ∧ f < z 1 3) ∧ (0 ≤ g ∧ g < z 1 3) ∧ f = g))) xIA z1)) k z1) : Nz z z1 := by
  rcases h1 with ⟨rfl, x, z3, ⟨h0, -⟩, rfl⟩ | ⟨rfl, rfl, -⟩ | ⟨rfl, rfl, -⟩
  · subst h0
    exact Nz.o176 _ _ _
  · exact Nz.rf _
  · exact Nz.rf _
set_option maxHeartbeats 2000000 in
theorem ok_daysUntilMeeting {z z1 w z2 : Zt} {f g : Int} {k v : Int} (hR : Rel z) (hw : w = zup z1 169 5 0) (h1 : (fun v z1 => (v = 0 ∧ ∃ (x : Int) (z2 : Zt), (fun x z1 => z = z1 ∧ (0 ≤ f ∧ f < z 1 3) ∧ (0 ≤ g ∧ g < z 1 3) ∧ f ≠ g ∧ ∃ d, FKP (kS z 1 (9 + f.toNat)) (yS z 1 (9 + f.toNat)) (onS z 1 (9 + g.toNat)) (z 1 6) (z 1 6 + 2000) d ∧ x = (if d = -1 then -1 else d - z 1 6)) x z2 ∧ zup z2 176 0 (jl x) = z1) ∨ (v = 1 ∧ (fun E z1 => z = z1 ∧ ((E = xIO ∧ (¬ (0 ≤ f ∧ f < z 1 3) ∨ ¬ (0 ≤ g ∧ g < z 1 3))) ∨ (E = xIA ∧ (0 ≤ f ∧ f < z 1 3) ∧ (0 ≤ g ∧ g < z 1 3) ∧ f = g))) xIO z1) ∨ (v = 2 ∧ (fun E z1 => z = z1 ∧ ((E = xIO ∧ (¬ (0 ≤ f ∧ f < z 1 3) ∨ ¬ (0 ≤ g ∧ g < z 1 3))) ∨ (E = xIA ∧ (0 ≤ f ∧ f < z 1 3) ∧ (0 ≤ g ∧ g < z 1 3) ∧ f = g))) xIA z1)) k z1) (h2 : (fun v z1 => (w = z1 ∧ (0 ≤ f ∧ f < w 170 14) ∧ (0 ≤ g ∧ g < w 170 14) ∧ f ≠ g ∧ ∃ d, FD (fun d => onM (w 170) f d ∧ onM (w 170) g d) (w 170 57) (w 170 57 + 2000) d ∧ v = (if d = -1 then -1 else d - w 170 57)) ∨ (zup w 169 5 1 = z1 ∧ (¬ (0 ≤ f ∧ f < w 170 14) ∨ ¬ (0 ≤ g ∧ g < w 170 14))) ∨ (zup w 169 5 2 = z1 ∧ (0 ≤ f ∧ f < w 170 14) ∧ (0 ≤ g ∧ g < w 170 14) ∧ f = g)) v z2) : z2 169 5 = k ∧ (k = 0 → z2 176 0 = jl v) ∧ Rel z2 := by
  have hN : Nz z z1 := nz_daysUntilMeeting h1
  have e170 : w 170 = z 170 := by rw [hw, zup_o (by decide)]; exact hN.1 170 (by decide) (by decide) (by decide) (by decide)
  have hB := hR.1
  have h3 : z 1 3 = z 170 14 := hB.2.2.1.1
  have h6 : z 1 6 = z 170 57 := hB.2.2.1.2.2.2.1
  have h68 := hB.1.2.2.2.2.2.2.2.1
  try rw [e170] at h2
  rcases h1 with ⟨rfl, x, z3, ⟨h0, c1, c2, c3, q1, f1, e1⟩, rfl⟩ | ⟨rfl, h0, hc⟩ | ⟨rfl, h0, hc⟩
  · rcases h2 with ⟨rfl, d1, d2, d3, q2, f2, e2⟩ | ⟨rfl, d⟩ | ⟨rfl, d⟩
    · exact fin0 hR hN hw (zup_s _ _ _ _) (by rw [h6] at f1 e1; have h8 : q1 = q2 := FD_one (by omega) (fun d _ _ => by have h9 := RB_on hB (f := f) d1 d; have h7 := RB_on hB (f := g) d2 d; rw [show 1 + 8 + f.toNat = 9 + f.toNat by omega] at h9; rw [show 1 + 8 + g.toNat = 9 + g.toNat by omega] at h7; exact and_congr h9 h7) (FKP_FD f1) f2; rw [e1, e2, h8])
    · exfalso
      clear hN
      omega
    · exfalso
      clear hN
      omega
  · rcases hc with ⟨q8, hc⟩ | ⟨q8, hc⟩
    · rcases h2 with ⟨rfl, d1, d2, d3, q2, f2, e2⟩ | ⟨rfl, d⟩ | ⟨rfl, d⟩
      · exfalso
        clear hN
        omega
      · exact finE hR hN hw (by decide)
      · exfalso
        clear hN
        omega
    · exact absurd q8 (by decide +kernel)
  · rcases hc with ⟨q8, hc⟩ | ⟨q8, hc⟩
    · exact absurd q8 (by decide +kernel)
    · rcases h2 with ⟨rfl, d1, d2, d3, q2, f2, e2⟩ | ⟨rfl, d⟩ | ⟨rfl, d⟩
      · exfalso
        clear hN
        omega
      · exfalso
        clear hN
        omega
      · exact finE hR hN hw (by decide)
theorem nz_quarrelsWithin {z z1 : Zt} {q : Int} {k : Int} (h1 : (fun v z1 => (v = 0 ∧ ∃ (x : Int) (z2 : Zt), (fun x z1 => ag24 z z1 ∧ (1 ≤ q ∧ q ≤ 400) ∧ x = cntP (fun i => quS z 1 (z 1 6 + i)) q.toNat) x z2 ∧ zup z2 176 0 (jl x) = z1) ∨ (v = 1 ∧ (fun E z1 => z = z1 ∧ E = xIA ∧ ¬ (1 ≤ q ∧ q ≤ 400)) xIA z1)) k z1) : Nz z z1 := by
  rcases h1 with ⟨rfl, x, z3, ⟨h0, -⟩, rfl⟩ | ⟨rfl, rfl, -⟩
  · exact (Nz.ag h0).tr (Nz.o176 _ _ _)
  · exact Nz.rf _
set_option maxHeartbeats 2000000 in
theorem ok_quarrelsWithin {z z1 w z2 : Zt} {q : Int} {k v : Int} (hR : Rel z) (hw : w = zup z1 169 5 0) (h1 : (fun v z1 => (v = 0 ∧ ∃ (x : Int) (z2 : Zt), (fun x z1 => ag24 z z1 ∧ (1 ≤ q ∧ q ≤ 400) ∧ x = cntP (fun i => quS z 1 (z 1 6 + i)) q.toNat) x z2 ∧ zup z2 176 0 (jl x) = z1) ∨ (v = 1 ∧ (fun E z1 => z = z1 ∧ E = xIA ∧ ¬ (1 ≤ q ∧ q ≤ 400)) xIA z1)) k z1) (h2 : (fun v z1 => (w = z1 ∧ (1 ≤ q ∧ q ≤ 400) ∧ v = cntP (fun i => quM (w 170) (w 170 57 + i)) q.toNat) ∨ (zup w 169 5 1 = z1 ∧ ¬ (1 ≤ q ∧ q ≤ 400))) v z2) : z2 169 5 = k ∧ (k = 0 → z2 176 0 = jl v) ∧ Rel z2 := by
  have hN : Nz z z1 := nz_quarrelsWithin h1
  have e170 : w 170 = z 170 := by rw [hw, zup_o (by decide)]; exact hN.1 170 (by decide) (by decide) (by decide) (by decide)
  have hB := hR.1
  have h3 : z 1 3 = z 170 14 := hB.2.2.1.1
  have h6 : z 1 6 = z 170 57 := hB.2.2.1.2.2.2.1
  have h68 := hB.1.2.2.2.2.2.2.2.1
  try rw [e170] at h2
  rcases h1 with ⟨rfl, x, z3, ⟨h0, c1, e1⟩, rfl⟩ | ⟨rfl, h0, hc⟩
  · rcases h2 with ⟨rfl, d1, e2⟩ | ⟨rfl, d⟩
    · exact fin0 hR hN hw (zup_s _ _ _ _) (by rw [e1, e2]; exact RB_qw hB q.toNat)
    · exfalso
      clear hN
      omega
  · have hc := hc.2
    rcases h2 with ⟨rfl, d1, e2⟩ | ⟨rfl, d⟩
    · exfalso
      clear hN
      omega
    · exact finE hR hN hw (by decide)
theorem nz_bestBarredWeekday {z z1 : Zt} {f : Int} {k : Int} (h1 : (fun v z1 => (v = 0 ∧ ∃ (x : Int) (z2 : Zt), (fun x z1 => ag24 z z1 ∧ (0 ≤ f ∧ f < z 1 3) ∧ x = (bwN (fun k : Nat => qwS (zup z (9 + f.toNat) 3 (k : Int)) 400) 7).2) x z2 ∧ zup z2 176 0 (jl x) = z1) ∨ (v = 1 ∧ (fun E z1 => z = z1 ∧ E = xIO ∧ ¬ (0 ≤ f ∧ f < z 1 3)) xIO z1)) k z1) : Nz z z1 := by
  rcases h1 with ⟨rfl, x, z3, ⟨h0, -⟩, rfl⟩ | ⟨rfl, rfl, -⟩
  · exact (Nz.ag h0).tr (Nz.o176 _ _ _)
  · exact Nz.rf _
set_option maxHeartbeats 2000000 in
theorem ok_bestBarredWeekday {z z1 w z2 : Zt} {f : Int} {k v : Int} (hR : Rel z) (hw : w = zup z1 169 5 0) (h1 : (fun v z1 => (v = 0 ∧ ∃ (x : Int) (z2 : Zt), (fun x z1 => ag24 z z1 ∧ (0 ≤ f ∧ f < z 1 3) ∧ x = (bwN (fun k : Nat => qwS (zup z (9 + f.toNat) 3 (k : Int)) 400) 7).2) x z2 ∧ zup z2 176 0 (jl x) = z1) ∨ (v = 1 ∧ (fun E z1 => z = z1 ∧ E = xIO ∧ ¬ (0 ≤ f ∧ f < z 1 3)) xIO z1)) k z1) (h2 : (fun v z1 => (w = z1 ∧ (0 ≤ f ∧ f < w 170 14) ∧ v = (bwN (fun k : Nat => qwM (updR (w 170) (15 + 4 * f + 3).toNat (k : Int)) 400) 7).2) ∨ (zup w 169 5 1 = z1 ∧ ¬ (0 ≤ f ∧ f < w 170 14))) v z2) : z2 169 5 = k ∧ (k = 0 → z2 176 0 = jl v) ∧ Rel z2 := by
  have hN : Nz z z1 := nz_bestBarredWeekday h1
  have e170 : w 170 = z 170 := by rw [hw, zup_o (by decide)]; exact hN.1 170 (by decide) (by decide) (by decide) (by decide)
  have hB := hR.1
  have h3 : z 1 3 = z 170 14 := hB.2.2.1.1
  have h6 : z 1 6 = z 170 57 := hB.2.2.1.2.2.2.1
  have h68 := hB.1.2.2.2.2.2.2.2.1
  try rw [e170] at h2
  rcases h1 with ⟨rfl, x, z3, ⟨h0, c1, e1⟩, rfl⟩ | ⟨rfl, h0, hc⟩
  · rcases h2 with ⟨rfl, d1, e2⟩ | ⟨rfl, d⟩
    · exact fin0 hR hN hw (zup_s _ _ _ _) (by rw [e1, e2, bwN_congr 7 (fun k hk => RB_qw (RB_bar hB d1 (b := (k : Int)) (by omega)) 400)])
    · exfalso
      clear hN
      omega
  · have hc := hc.2
    rcases h2 with ⟨rfl, d1, e2⟩ | ⟨rfl, d⟩
    · exfalso
      clear hN
      omega
    · exact finE hR hN hw (by decide)
theorem nz_textCharacter {z z1 : Zt} {i : Int} {k : Int} (h1 : (fun v z1 => (v = 0 ∧ ∃ (x : Int) (z2 : Zt), (fun x z1 => z = z1 ∧ (0 ≤ i ∧ i < z 22 1) ∧ x = z 23 i.toNat) x z2 ∧ zup z2 176 0 (jl x) = z1) ∨ (v = 1 ∧ (fun E z1 => z = z1 ∧ E = xIO ∧ ¬ (0 ≤ i ∧ i < z 22 1)) xIO z1)) k z1) : Nz z z1 := by
  rcases h1 with ⟨rfl, x, z3, ⟨h0, -⟩, rfl⟩ | ⟨rfl, rfl, -⟩
  · subst h0
    exact Nz.o176 _ _ _
  · exact Nz.rf _
set_option maxHeartbeats 2000000 in
theorem ok_textCharacter {z z1 w z2 : Zt} {i : Int} {k v : Int} (hR : Rel z) (hw : w = zup z1 169 5 0) (h1 : (fun v z1 => (v = 0 ∧ ∃ (x : Int) (z2 : Zt), (fun x z1 => z = z1 ∧ (0 ≤ i ∧ i < z 22 1) ∧ x = z 23 i.toNat) x z2 ∧ zup z2 176 0 (jl x) = z1) ∨ (v = 1 ∧ (fun E z1 => z = z1 ∧ E = xIO ∧ ¬ (0 ≤ i ∧ i < z 22 1)) xIO z1)) k z1) (h2 : (fun v z1 => (w = z1 ∧ (0 ≤ i ∧ i < w 169 7) ∧ v = w 174 i.toNat) ∨ (zup w 169 5 1 = z1 ∧ ¬ (0 ≤ i ∧ i < w 169 7))) v z2) : z2 169 5 = k ∧ (k = 0 → z2 176 0 = jl v) ∧ Rel z2 := by
  have hN : Nz z z1 := nz_textCharacter h1
  have e170 : w 170 = z 170 := by rw [hw, zup_o (by decide)]; exact hN.1 170 (by decide) (by decide) (by decide) (by decide)
  have e174 : w 174 = z 174 := by rw [hw, zup_o (by decide)]; exact hN.1 174 (by decide) (by decide) (by decide) (by decide)
  have e7 : w 169 7 = z 169 7 := by rw [hw, zup_r, if_neg (by decide)]; exact hN.2 7 (by decide) (by decide)
  rw [e174, e7] at h2
  have hX2 := hR.2.2.2.2.2.2.2.2.1
  have hX3 : ∀ j : Nat, (j : Int) < z 22 1 → z 23 j = z 174 j := hR.2.2.2.2.2.2.2.2.2
  have hB := hR.1
  have h3 : z 1 3 = z 170 14 := hB.2.2.1.1
  have h6 : z 1 6 = z 170 57 := hB.2.2.1.2.2.2.1
  have h68 := hB.1.2.2.2.2.2.2.2.1
  try rw [e170] at h2
  rcases h1 with ⟨rfl, x, z3, ⟨h0, c1, e1⟩, rfl⟩ | ⟨rfl, h0, hc⟩
  · rcases h2 with ⟨rfl, d1, e2⟩ | ⟨rfl, d⟩
    · exact fin0 hR hN hw (zup_s _ _ _ _) (by rw [e1, e2]; exact hX3 i.toNat (by omega))
    · exfalso
      clear hN
      omega
  · have hc := hc.2
    rcases h2 with ⟨rfl, d1, e2⟩ | ⟨rfl, d⟩
    · exfalso
      clear hN
      omega
    · exact finE hR hN hw (by decide)
