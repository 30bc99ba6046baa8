/-! a feast's day, found by going through the days of its year -/
theorem dM_found {ρ : Nat → Int} {f y lo hi fr x : Int} (hM : MI ρ) (hf : 0 ≤ f ∧ f < ρ 14) (hy : 1 ≤ y) (hfr : fr = (y - 1) * yl (1 - mF ρ f 0)) (hlo : lo = 0 ∨ lo = fr - 130) (hhi : hi = fr + 400)
    (hx : (x = -1 ∧ ∀ u, lo ≤ u → u < hi → ¬ (yM ρ f u = y ∧ duM ρ f u)) ∨ (yM ρ f x = y ∧ duM ρ f x)) : x = dM ρ f y := by
  rcases hx with ⟨x1, x2⟩ | ⟨x1, x2⟩
  · rcases duM_y hM hf hy with e | ⟨e1, e2⟩
    · rw [x1, e]
    · exfalso
      have hF := hM.2.2.1 f hf.1 hf.2
      have hcb := calM_bd hM.1 hF.1 (dM ρ f y)
      have hyl := yl_bd (1 - mF ρ f 0)
      have e3 : 1 + calM ρ (mF ρ f 0) (dM ρ f y) / yl (1 - mF ρ f 0) = y := e2
      have h1 := Int.emod_add_ediv_mul (calM ρ (mF ρ f 0) (dM ρ f y)) (yl (1 - mF ρ f 0))
      have h2 := Int.emod_nonneg (calM ρ (mF ρ f 0) (dM ρ f y)) (show yl (1 - mF ρ f 0) ≠ 0 by omega)
      have h3 := Int.emod_lt_of_pos (calM ρ (mF ρ f 0) (dM ρ f y)) (show 0 < yl (1 - mF ρ f 0) by omega)
      rw [show calM ρ (mF ρ f 0) (dM ρ f y) / yl (1 - mF ρ f 0) = y - 1 by omega, ← hfr] at h1
      have h4 := e1.1
      exact x2 (dM ρ f y) (by omega) (by omega) ⟨e2, e1⟩
  · have h := x2.2
    rw [x1] at h
    exact h.symm
/-! the first day of a span, found backwards -/
def FDd (P : Int → Prop) (to lo x : Int) : Prop := (x = -1 ∧ ∀ d, lo < d → d ≤ to → ¬ P d) ∨ (lo < x ∧ x ≤ to ∧ P x ∧ ∀ d, lo < d → d < x → ¬ P d)
theorem FDd_0 (P : Int → Prop) (to : Int) : FDd P to to (-1) := Or.inl ⟨rfl, fun d h1 h2 => by omega⟩
theorem FDd_hit {P : Int → Prop} {to lo : Int} (h : lo ≤ to) (hp : P lo) : FDd P to (lo + -1) lo := Or.inr ⟨by omega, h, hp, fun d h1 h2 => by omega⟩
theorem FDd_miss {P : Int → Prop} {to lo x : Int} (h : FDd P to lo x) (hp : ¬ P lo) : FDd P to (lo + -1) x := by
  rcases h with ⟨a1, a2⟩ | ⟨a1, a2, a3, a4⟩
  · refine Or.inl ⟨a1, fun d h1 h2 => ?_⟩
    rcases Int.lt_or_eq_of_le (show lo ≤ d by omega) with q | q
    · exact a2 d q h2
    · rw [← q]
      exact hp
  · refine Or.inr ⟨by omega, a2, a3, fun d h1 h2 => ?_⟩
    rcases Int.lt_or_eq_of_le (show lo ≤ d by omega) with q | q
    · exact a4 d q h2
    · rw [← q]
      exact hp
theorem FDd_bd {P : Int → Prop} {to lo x : Int} (h : FDd P to lo x) (h1 : -1 ≤ lo) (h2 : lo ≤ to) : -1 ≤ x ∧ x ≤ to := by
  rcases h with ⟨a1, -⟩ | ⟨a1, a2, -⟩ <;> omega
theorem FDd_FD {P : Int → Prop} {to lo fr x : Int} (h : FDd P to lo x) (e : fr = lo + 1) : FD P fr to x := by
  rcases h with ⟨a1, a2⟩ | ⟨a1, a2, a3, a4⟩
  · exact Or.inl ⟨a1, fun d h1 h2 => a2 d (by omega) h2⟩
  · exact Or.inr ⟨by omega, a2, a3, fun d h1 h2 => a4 d (by omega) h2⟩
theorem FD_shift {P : Int → Prop} {fr n e : Int} (h0 : 0 ≤ fr) (h : FD P fr (fr + n) e) : FD (fun d => P (fr + d)) 0 n (if e = -1 then -1 else e - fr) := by
  rcases h with ⟨a1, a2⟩ | ⟨a1, a2, a3, a4⟩
  · rw [if_pos a1]
    exact Or.inl ⟨rfl, fun d h1 h2 => a2 _ (by omega) (by omega)⟩
  · rw [if_neg (by omega)]
    refine Or.inr ⟨by omega, by omega, ?_, fun d h1 h2 => a4 _ (by omega) (by omega)⟩
    show P (fr + (e - fr))
    rw [show fr + (e - fr) = e by omega]
    exact a3
theorem RB_on9 {z : Zt} {ρ : Nat → Int} (hB : RB z 1 ρ) {f : Int} (hf : 0 ≤ f ∧ f < ρ 14) (d : Int) : onS z 1 (9 + f.toNat) d ↔ onM ρ f d := by
  have h := RB_on hB hf d
  rw [show 1 + 8 + f.toNat = 9 + f.toNat by omega] at h
  exact h
theorem RB_dS9 {z : Zt} {ρ : Nat → Int} (hB : RB z 1 ρ) {f : Int} (hf : 0 ≤ f ∧ f < ρ 14) (y : Int) : dS z 1 (9 + f.toNat) y = dM ρ f y ∧ kS z 1 (9 + f.toNat) y = kM ρ f y := by
  have h := RB_dS hB hf y
  rw [show 1 + 8 + f.toNat = 9 + f.toNat by omega] at h
  exact ⟨h.1, h.2.1⟩
theorem next_eq {z : Zt} {ρ : Nat → Int} (hB : RB z 1 ρ) {f v x : Int} (hf : 0 ≤ f ∧ f < ρ 14) (h0 : 0 ≤ ρ 57) (hv : FKP (kS z 1 (9 + f.toNat)) (yS z 1 (9 + f.toNat)) (fun _ => True) (z 1 6) (z 1 6 + 799) v) (hx : FD (onM ρ f) (ρ 57) (ρ 57 + 799) x) : v = x := by
  rw [hB.2.2.1.2.2.2.1] at hv
  exact FD_one h0 (fun d _ _ => ⟨fun q => (RB_on9 hB hf d).mp q.1, fun q => ⟨(RB_on9 hB hf d).mpr q, trivial⟩⟩) (FKP_FD hv) hx
theorem meet_eq {z : Zt} {ρ : Nat → Int} (hB : RB z 1 ρ) {f g e x : Int} (hf : 0 ≤ f ∧ f < ρ 14) (hg : 0 ≤ g ∧ g < ρ 14) (h0 : 0 ≤ ρ 57) (hv : FKP (kS z 1 (9 + f.toNat)) (yS z 1 (9 + f.toNat)) (onS z 1 (9 + g.toNat)) (z 1 6) (z 1 6 + 2000) e) (hx : FD (fun d => onM ρ f (ρ 57 + d) ∧ onM ρ g (ρ 57 + d)) 0 2000 x) : (if e = -1 then -1 else e - z 1 6) = x := by
  rw [hB.2.2.1.2.2.2.1] at hv ⊢
  have h := FD_shift h0 (FKP_FD hv)
  exact FD_one (by decide) (fun d _ _ => ⟨fun q => ⟨(RB_on9 hB hf _).mp q.1, (RB_on9 hB hg _).mp q.2⟩, fun q => ⟨(RB_on9 hB hf _).mpr q.1, (RB_on9 hB hg _).mpr q.2⟩⟩) h hx
/-! the best weekday, sought from the last one back -/
def BD (Q : Int → Int) (lo x y : Int) : Prop := (lo = 6 ∧ x = -1 ∧ y = 0) ∨ (lo < x ∧ x ≤ 6 ∧ y = Q x ∧ (∀ w, lo < w → w ≤ 6 → Q x ≤ Q w) ∧ ∀ w, lo < w → w < x → Q x < Q w)
theorem BD_rg {Q : Int → Int} {lo x y : Int} (hQ : ∀ w, 0 ≤ Q w ∧ Q w ≤ 400) (h : BD Q lo x y) (hl : -1 ≤ lo) : (x < 0 ∨ lo < x) ∧ -1 ≤ x ∧ x ≤ 6 ∧ 0 ≤ y ∧ y ≤ 400 := by
  rcases h with ⟨a1, a2, a3⟩ | ⟨a1, a2, a3, -⟩
  · omega
  · have := hQ x
    omega
theorem BD_hit {Q : Int → Int} {lo x y : Int} (h : BD Q lo x y) (h0 : 0 ≤ lo ∧ lo ≤ 6) (hq : x < 0 ∨ Q lo ≤ y) : BD Q (lo + -1) lo (Q lo) := by
  refine Or.inr ⟨by omega, h0.2, rfl, fun w h1 h2 => ?_, fun w h1 h2 => by omega⟩
  by_cases e : w = lo
  · rw [e]
    omega
  · rcases h with ⟨a1, a2, a3⟩ | ⟨a1, a2, a3, a4, -⟩
    · omega
    · have := a4 w (by omega) h2
      omega
theorem BD_miss {Q : Int → Int} {lo x y : Int} (h : BD Q lo x y) (h1 : ¬ x < 0) (hq : y < Q lo) : BD Q (lo + -1) x y := by
  rcases h with ⟨a1, a2, a3⟩ | ⟨a1, a2, a3, a4, a5⟩
  · omega
  · refine Or.inr ⟨by omega, a2, a3, fun w w1 w2 => ?_, fun w w1 w2 => ?_⟩
    · by_cases e : w = lo
      · rw [e]
        omega
      · exact a4 w (by omega) w2
    · by_cases e : w = lo
      · rw [e]
        omega
      · exact a5 w (by omega) w2
theorem bwN_is {Q : Nat → Int} (hQ : ∀ k, 0 ≤ Q k ∧ Q k ≤ 400) : ∀ n : Nat, 0 < n → (0 ≤ (bwN Q n).2 ∧ (bwN Q n).2 < n) ∧ (bwN Q n).1 = Q (bwN Q n).2.toNat ∧ (∀ w, w < n → (bwN Q n).1 ≤ Q w) ∧ ∀ w : Nat, (w : Int) < (bwN Q n).2 → (bwN Q n).1 < Q w
  | 0, h => absurd h (by omega)
  | n + 1, _ => by
    by_cases q : Q n < (bwN Q n).1
    · obtain ⟨e1, e2⟩ := bwN_t q
      rw [e1, e2]
      refine ⟨by omega, by rw [Int.toNat_natCast], fun w hw => ?_, fun w hw => ?_⟩
      · by_cases e : w = n
        · rw [e]
          exact Int.le_refl _
        · have h9 := (bwN_is hQ n (by omega)).2.2.1 w (by omega)
          omega
      · have h9 := (bwN_is hQ n (by omega)).2.2.1 w (by omega)
        omega
    · rw [bwN_f q]
      have hn : 0 < n := by
        rcases Nat.eq_zero_or_pos n with e | e
        · exfalso
          subst e
          have := hQ 0
          apply q
          show Q 0 < 401
          omega
        · exact e
      obtain ⟨h1, h2, h3, h4⟩ := bwN_is hQ n hn
      refine ⟨by omega, h2, fun w hw => ?_, h4⟩
      by_cases e : w = n
      · rw [e]
        omega
      · exact h3 w (by omega)
theorem best_eq {Q : Int → Int} (hQ : ∀ w, 0 ≤ Q w ∧ Q w ≤ 400) {x y : Int} (h : BD Q (-1) x y) : (bwN (fun k : Nat => Q k) 7).2 = x := by
  obtain ⟨h1, h2, h3, h4⟩ := bwN_is (Q := fun k : Nat => Q k) (fun k => hQ k) 7 (by decide)
  generalize (bwN (fun k : Nat => Q k) 7).1 = m at *
  generalize (bwN (fun k : Nat => Q k) 7).2 = u at *
  rcases h with ⟨a1, a2, a3⟩ | ⟨a1, a2, a3, a4, a5⟩
  · omega
  · have e1 : ((u.toNat : Nat) : Int) = u := by omega
    have e2 : ((x.toNat : Nat) : Int) = x := by omega
    have h2' : m = Q u := by
      have h9 : m = Q ((u.toNat : Nat) : Int) := h2
      rw [e1] at h9
      exact h9
    rcases Int.lt_trichotomy u x with q | q | q
    · have h5 := a5 u (by omega) q
      have h6 : m ≤ Q ((x.toNat : Nat) : Int) := h3 x.toNat (by omega)
      rw [e2] at h6
      omega
    · exact q
    · have h5 := a4 u (by omega) (by omega)
      have h6 : m < Q ((x.toNat : Nat) : Int) := h4 x.toNat (by omega)
      rw [e2] at h6
      omega
/-! one number of the law's feasts put -/
theorem rho_upd {z : Zt} {f w : Int} (hf : 0 ≤ f ∧ f < 10) : rho (zup z 170 (4 * f + 3).toNat w) = updR (rho z) (15 + 4 * f + 3).toNat w := by
  funext p
  show rho (zup z 170 (4 * f + 3).toNat w) p = if p = (15 + 4 * f + 3).toNat then w else rho z p
  unfold rho
  rw [zup_o (show (169 : Nat) ≠ 170 by decide), zup_o (show (171 : Nat) ≠ 170 by decide)]
  by_cases q1 : p < 14
  · rw [if_pos q1, if_neg (by omega), if_pos q1]
  by_cases q2 : p = 14
  · rw [if_neg q1, if_pos q2, if_neg (by omega), if_neg q1, if_pos q2]
  by_cases q3 : p < 55
  · rw [if_neg q1, if_neg q2, if_pos q3, zup_r]
    by_cases q4 : p = (15 + 4 * f + 3).toNat
    · rw [if_pos (by omega), if_pos q4]
    · rw [if_neg (by omega), if_neg q4, if_neg q1, if_neg q2, if_pos q3]
  · have q4 : ¬ p = (15 + 4 * f + 3).toNat := by omega
    rw [if_neg q4, if_neg q1, if_neg q2, if_neg q3, if_neg q1, if_neg q2, if_neg q3]
theorem set_eq {z : Zt} {ρ : Nat → Int} (hB : RB z 1 ρ) {d v x : Int} (hv : isSet (fun j => (j : Int) < z 1 3 ∧ onS z 1 (1 + 8 + j) d) v) (hx : isSet (fun j => (j : Int) < ρ 14 ∧ onM ρ j d) x) : v = x := isSet_one (isSet_congr hv (fun j => RB_onj hB j d)) hx
theorem other_bd {d T : Int} (h0 : 0 ≤ d) (hT : T = 100 * (1 + d % 12) + 1 + d / 12 % 31) : 101 ≤ T ∧ T ≤ 1231 ∧ 1 ≤ T % 100 ∧ T % 100 ≤ 31 ∧ 1 ≤ T / 100 ∧ T / 100 ≤ 12 := by
  have h1 : 0 ≤ d % 12 ∧ d % 12 ≤ 11 := by omega
  have h2 : 0 ≤ d / 12 % 31 ∧ d / 12 % 31 ≤ 30 := by omega
  generalize d % 12 = a at h1 hT
  generalize d / 12 % 31 = b at h2 hT
  omega
