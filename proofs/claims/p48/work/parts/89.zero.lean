theorem z0_19 (i : Nat) : z0 19 i = 25 + 18 * (i : Int) := by
  unfold z0
  rw [if_neg (by decide), if_neg (by decide), if_neg (by decide), if_pos (by decide)]
theorem z0_SI : SI z0 1 := by
  have hF : ∀ k, k < 10 → (z0 (1 + 8 + k) 0 = 0 ∨ z0 (1 + 8 + k) 0 = 1) ∧ 1 ≤ z0 (1 + 8 + k) 1 ∧ z0 (1 + 8 + k) 1 ≤ 12 ∧ 1 ≤ z0 (1 + 8 + k) 2 ∧ z0 (1 + 8 + k) 2 ≤ 31 ∧ -1 ≤ z0 (1 + 8 + k) 3 ∧ z0 (1 + 8 + k) 3 ≤ 6 := by decide +kernel
  have g : ∀ t : Nat, z0 t 3 = 0 → GI (z0 t 3) (z0 (t + 1)) (z0 (t + 2)) := fun t e => by
    rw [e]
    exact ⟨by decide, by decide, fun k hk => absurd hk (by omega), fun k hk => absurd hk (by omega)⟩
  exact ⟨⟨Or.inr (by decide +kernel), g _ (by decide +kernel)⟩, ⟨Or.inl (by decide +kernel), g _ (by decide +kernel)⟩, by decide +kernel, by decide +kernel, by decide +kernel, by decide +kernel, by decide +kernel, by decide +kernel, fun k hk => hF k hk⟩
/-- the first world behind the law's own first numbers -/
def zS : Zt := zup (zup z0 171 0 1) 171 1 2
theorem zS_ag : agL z0 zS := ((agL.rf z0).up (by decide)).up (by decide)
theorem zS_RB : RB zS 1 (rho zS) := by
  have e14 : rho zS 14 = 0 := by decide +kernel
  refine ⟨blk_SI (fun j hj => zS_ag _ (by omega)) z0_SI, fun t ht => ?_, by decide +kernel, fun j hj => absurd hj (by omega)⟩
  rcases ht with rfl | rfl
  · have e : mN (rho zS) 0 = 0 := by decide +kernel
    rw [e]
    exact ⟨by decide +kernel, by decide +kernel, fun k hk => absurd hk (by omega)⟩
  · have e : mN (rho zS) 1 = 0 := by decide +kernel
    rw [e]
    exact ⟨by decide +kernel, by decide +kernel, fun k hk => absurd hk (by omega)⟩
theorem Rel_zS : Rel zS := by
  have e02 : z0 0 2 = 0 := by decide +kernel
  have hA : ∀ j : Nat, j < 8 → z0 (25 + 18 * j + 1) 0 = 1 ∧ z0 (25 + 18 * j + 4) 0 = 0 := by decide +kernel
  have hK : ∀ i : Nat, i < 6 → kd (25 + 18 * (i : Int)).toNat = 2 := by decide +kernel
  have hP0 : PI z0 := ⟨fun i hi => by rw [z0_19]; exact ⟨by omega, hK i hi⟩, fun i j _ _ e => by rw [z0_19, z0_19] at e; omega, by rw [e02]; decide, by rw [e02]; decide⟩
  have hA0 : AI z0 := fun q hq => by
    rcases S_base hq with rfl | ⟨j, hj, rfl⟩
    · decide +kernel
    · exact hA j hj
  exact ⟨zS_RB, zS_ag.PI hP0, zS_ag.AI hA0, by unfold RBd; decide +kernel⟩
