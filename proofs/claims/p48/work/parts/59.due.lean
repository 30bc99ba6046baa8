/-! the law's three rows as one row of 62 numbers: gaps, feasts, counts -/
def rho (z : Zt) : Nat → Int := fun p => if p < 14 then z 169 p else if p = 14 then z 171 7 else if p < 55 then z 170 (p - 15) else if p = 55 then z 171 0 else if p = 56 then z 171 1 else if p = 57 then z 171 2 else if p = 58 then z 171 3 else if p = 59 then z 171 4 else if p = 60 then z 171 5 else if p = 61 then z 171 6 else 0
theorem rho_c {z w : Zt} (h1 : w 169 = z 169) (h2 : w 170 = z 170) (h3 : w 171 = z 171) : rho w = rho z := by
  funext p
  unfold rho
  rw [h1, h2, h3]
theorem rho_g (z : Zt) {p : Nat} (h : p < 14) : rho z p = z 169 p := by
  unfold rho
  rw [if_pos h]
theorem rho_f (z : Zt) {p : Nat} (h : p < 40) : rho z (15 + p) = z 170 p := by
  unfold rho
  rw [if_neg (by omega), if_neg (by omega), if_pos (by omega), show 15 + p - 15 = p by omega]
theorem rho_14 (z : Zt) : z 171 (7 : Int).toNat = rho z 14 := by simp [rho]
theorem rho_55 (z : Zt) : z 171 (0 : Int).toNat = rho z 55 := by simp [rho]
theorem rho_56 (z : Zt) : z 171 (1 : Int).toNat = rho z 56 := by simp [rho]
theorem rho_57 (z : Zt) : z 171 (2 : Int).toNat = rho z 57 := by simp [rho]
theorem rho_58 (z : Zt) : z 171 (3 : Int).toNat = rho z 58 := by simp [rho]
theorem rho_59 (z : Zt) : z 171 (4 : Int).toNat = rho z 59 := by simp [rho]
theorem rho_60 (z : Zt) : z 171 (5 : Int).toNat = rho z 60 := by simp [rho]
theorem rho_61 (z : Zt) : z 171 (6 : Int).toNat = rho z 61 := by simp [rho]
theorem rh_N (z : Zt) {t : Int} (ht : t = 0 ∨ t = 1) : z 169 (7 * t).toNat = mN (rho z) t := by
  unfold mN
  rw [rho_g z (by omega)]
theorem rh_D (z : Zt) {t k : Int} (ht : t = 0 ∨ t = 1) (hk : 0 ≤ k ∧ k < 3) : z 169 (7 * t + 1 + 2 * k).toNat = mD (rho z) t k.toNat := by
  unfold mD
  rw [rho_g z (by omega)]
  exact congrArg (z 169) (by omega)
theorem rh_L (z : Zt) {t k : Int} (ht : t = 0 ∨ t = 1) (hk : 0 ≤ k ∧ k < 3) : z 169 (7 * t + 2 + 2 * k).toNat = mL (rho z) t k.toNat := by
  unfold mL
  rw [rho_g z (by omega)]
  exact congrArg (z 169) (by omega)
theorem rh_F0 (z : Zt) {k : Int} (hk : 0 ≤ k ∧ k < 10) : z 170 (4 * k).toNat = mF (rho z) k 0 := by
  unfold mF
  rw [show (15 + 4 * k + 0).toNat = 15 + (4 * k).toNat by omega, rho_f z (by omega)]
theorem rh_F (z : Zt) {k w : Int} (hk : 0 ≤ k ∧ k < 10) (hw : 0 ≤ w ∧ w ≤ 3) : z 170 (4 * k + w).toNat = mF (rho z) k w := by
  unfold mF
  rw [show (15 + 4 * k + w).toNat = 15 + (4 * k + w).toNat by omega, rho_f z (by omega)]
/-! the date of a day, as one number -/
def dtV (a c v : Int) : Prop := ∃ m, isMon a (c % yl a) m ∧ v = 10000 * (1 + c / yl a) + 100 * m + (c % yl a - mbef a m) + 1
theorem mbef_mono {a x y : Int} (h1 : 1 ≤ x) (h : x ≤ y) : mbef a x ≤ mbef a y := by
  unfold mbef
  split <;> omega
theorem mon_q {a e m : Int} (h : isMon a e m) : 1 ≤ e - mbef a m + 1 ∧ e - mbef a m + 1 ≤ mlen a m ∧ mlen a m ≤ 31 := by
  obtain ⟨h1, h2, h3, h4⟩ := h
  have s1 := mbef_s (a := a) h1
  have l1 := mlen_bd a m
  omega
/-- what a date's number says -/
theorem dtV_is {a c v : Int} (h : dtV a c v) (hc : 0 ≤ c ∧ c ≤ 1000200) : ∃ m q, isMon a (c % yl a) m ∧ q = c % yl a - mbef a m + 1 ∧ (1 ≤ m ∧ m ≤ 12) ∧ (1 ≤ q ∧ q ≤ 31) ∧ q ≤ mlen a m ∧ (1 ≤ v / 10000 ∧ v / 10000 ≤ 2978) ∧ v / 10000 = 1 + c / yl a ∧ v % 10000 = 100 * m + q ∧ v / 100 % 100 = m ∧ v % 100 = q ∧ 10101 ≤ v ∧ v ≤ 29784000 := by
  obtain ⟨m, hm, hv⟩ := h
  have hq := mon_q hm
  have hy1 : 0 ≤ c / yl a := Int.ediv_nonneg hc.1 (by have := yl_bd a; omega)
  have hy2 : c / yl a ≤ 2976 := by
    unfold yl
    split <;> omega
  have h1 := hm.1
  have h2 := hm.2.1
  have h5 : v = 10000 * (1 + c / yl a) + 100 * m + (c % yl a - mbef a m + 1) := by omega
  refine ⟨m, c % yl a - mbef a m + 1, hm, rfl, ⟨h1, h2⟩, ⟨hq.1, by omega⟩, hq.2.1, ?_⟩
  clear hv hm
  generalize c % yl a - mbef a m + 1 = q at hq h5 ⊢
  generalize c / yl a = Y at hy1 hy2 h5 ⊢
  omega
/-- the feast's date against a day's -/
theorem own_le {a e m m0 d0 : Int} (h : isMon a e m) (hm : 1 ≤ m0 ∧ m0 ≤ 12) (hd : 1 ≤ d0 ∧ d0 ≤ 31) : 100 * m0 + d0 ≤ 100 * m + (e - mbef a m + 1) ↔ mbef a m0 + nd a m0 d0 - 1 ≤ e := by
  have hq := mon_q h
  obtain ⟨h1, h2, h3, h4⟩ := h
  have hl := mlen_bd a m0
  have s0 := mbef_s (a := a) hm.1
  have hn := nd_bd (a := a) (m := m0) hd.1
  rcases Int.lt_trichotomy m m0 with q | q | q
  · have h5 := mbef_mono (a := a) (x := m + 1) (y := m0) (by omega) (by omega)
    constructor
    · intro h6
      omega
    · intro h6
      omega
  · subst q
    unfold nd
    split <;> omega
  · have h5 := mbef_mono (a := a) (x := m0 + 1) (y := m) (by omega) (by omega)
    constructor
    · intro h6
      omega
    · intro h6
      omega
/-- the day on which a feast is due: the first one of its year whose date isn't ahead of its own -/
theorem du_is {a n : Int} {f g : Nat → Int} {m dd d : Int} (h : GI n f g) (hm : 1 ≤ m ∧ m ≤ 12) (hd : 1 ≤ dd ∧ dd ≤ 31) (h0 : 0 ≤ d) : dueG a n f g m dd (yG a n f g d) = d ↔ (mbef a m + nd a m dd - 1 ≤ calN f g d n.toNat % yl a ∧ (d = 0 ∨ calN f g (d - 1) n.toNat / yl a < calN f g d n.toNat / yl a ∨ calN f g (d - 1) n.toNat % yl a < mbef a m + nd a m dd - 1)) := by
  have hyl := yl_bd a
  have hn0 := h.1
  have hnd := nd_bd (a := a) (m := m) hd.1
  have hmb := mbef_bd (a := a) hm.1
  have hY : yG a n f g d = 1 + calN f g d n.toNat / yl a := rfl
  have hD : dof a (yG a n f g d) m (nd a m dd) = (calN f g d n.toNat / yl a) * yl a + (mbef a m + nd a m dd - 1) := by
    unfold dof
    rw [hY, show 1 + calN f g d n.toNat / yl a - 1 = calN f g d n.toNat / yl a by omega]
    omega
  have hC := Int.emod_add_ediv_mul (calN f g d n.toNat) (yl a)
  have hB := Int.emod_add_ediv_mul (calN f g (d - 1) n.toNat) (yl a)
  have hC1 := Int.emod_lt_of_pos (calN f g d n.toNat) (show 0 < yl a by omega)
  have hB0 := Int.emod_nonneg (calN f g (d - 1) n.toNat) (show yl a ≠ 0 by omega)
  have hB1 := Int.emod_lt_of_pos (calN f g (d - 1) n.toNat) (show 0 < yl a by omega)
  have hmono := calN_mono h (x := d - 1) (y := d) (by omega) n.toNat (by omega)
  have hle : calN f g (d - 1) n.toNat / yl a ≤ calN f g d n.toNat / yl a := Int.ediv_le_ediv (by omega) (by omega)
  have hlt : calN f g (d - 1) n.toNat / yl a < calN f g d n.toNat / yl a → (calN f g (d - 1) n.toNat / yl a) * yl a + yl a ≤ (calN f g d n.toNat / yl a) * yl a := fun q => by
    have h9 : (calN f g (d - 1) n.toNat / yl a + 1) * yl a ≤ (calN f g d n.toNat / yl a) * yl a := Int.mul_le_mul_of_nonneg_right (by omega) (by omega)
    rw [Int.add_mul, Int.one_mul] at h9
    exact h9
  have heq : calN f g (d - 1) n.toNat / yl a = calN f g d n.toNat / yl a → (calN f g (d - 1) n.toNat / yl a) * yl a = (calN f g d n.toNat / yl a) * yl a := fun q => by rw [q]
  constructor
  · intro hq
    rcases due_is (a := a) (y := yG a n f g d) h hm hd (yG_pos h h0) with e | ⟨u, e1, e2, e3, e4, e5, -⟩
    · omega
    · have eu : u = d := by omega
      subst eu
      rw [hD] at e4 e5
      refine ⟨by omega, ?_⟩
      by_cases q0 : u = 0
      · exact Or.inl q0
      · have e6 := e5 (u - 1) (by omega)
        by_cases q1 : calN f g (u - 1) n.toNat / yl a < calN f g u n.toNat / yl a
        · exact Or.inr (Or.inl q1)
        · have := heq (by omega)
          exact Or.inr (Or.inr (by omega))
  · rintro ⟨g1, g2⟩
    have hf := fdN_is h (dof a (yG a n f g d) m (nd a m dd)) n.toNat (by omega)
    have hb := dofN_bd (a := a) (y := yG a n f g d) hm hd.1
    have hz : 0 ≤ (yG a n f g d - 1) * yl a := Int.mul_nonneg (by have := yG_pos (a := a) h h0; omega) (by omega)
    have hfb := fdN_bd h (d := dof a (yG a n f g d) m (nd a m dd)) (by omega) n.toNat (by omega)
    have eu : fdN f g (dof a (yG a n f g d) m (nd a m dd)) n.toNat = d := by
      generalize fdN f g (dof a (yG a n f g d) m (nd a m dd)) n.toNat = u at hf hfb ⊢
      rw [hD] at hf
      rcases Int.lt_trichotomy u d with q | q | q
      · have h9 := calN_mono h (x := u) (y := d - 1) (by omega) n.toNat (by omega)
        rcases g2 with q2 | q2 | q2
        · omega
        · have := hlt q2
          omega
        · rcases Int.lt_or_eq_of_le hle with q3 | q3
          · have := hlt q3
            omega
          · have := heq q3
            omega
      · exact q
      · have := hf.2 d q
        omega
    unfold dueG
    rw [eu, if_pos rfl]
/-- by the dates' numbers of the day and the one ahead of it -/
theorem du_dt {a n : Int} {f g : Nat → Int} {m dd d v w : Int} (h : GI n f g) (hm : 1 ≤ m ∧ m ≤ 12) (hd : 1 ≤ dd ∧ dd ≤ 31) (h0 : 0 ≤ d ∧ d ≤ 1000000) (hv : dtV a (calN f g d n.toNat) v) (hw : d ≠ 0 → dtV a (calN f g (d - 1) n.toNat) w) : dueG a n f g m dd (yG a n f g d) = d ↔ (100 * m + dd ≤ v % 10000 ∧ (d = 0 ∨ w / 10000 < v / 10000 ∨ w % 10000 < 100 * m + dd)) := by
  have hn0 := h.1
  have hn3 := h.2.1
  have b1 := calN_bd h d n.toNat (by omega)
  have b2 := calN_bd h (d - 1) n.toNat (by omega)
  obtain ⟨m1, q1, i1, i2, i3, i4, -, -, i5, i6, -⟩ := dtV_is hv (by omega)
  have o1 := own_le (m0 := m) (d0 := dd) i1 hm hd
  rw [du_is h hm hd h0.1, i5, i6, i2]
  by_cases q : d = 0
  · rw [o1]
    simp [q]
  · obtain ⟨m2, q2, j1, j2, j3, j4, -, -, j5, j6, -⟩ := dtV_is (hw q) (by omega)
    have o2 := own_le (m0 := m) (d0 := dd) j1 hm hd
    rw [j5, j6, j2, ← o1]
    constructor
    · rintro ⟨r1, r2⟩
      refine ⟨r1, ?_⟩
      rcases r2 with r2 | r2 | r2
      · exact Or.inl r2
      · exact Or.inr (Or.inl (by omega))
      · exact Or.inr (Or.inr (by omega))
    · rintro ⟨r1, r2⟩
      refine ⟨r1, ?_⟩
      rcases r2 with r2 | r2 | r2
      · exact Or.inl r2
      · exact Or.inr (Or.inl (by omega))
      · exact Or.inr (Or.inr (by omega))
/-! due and kept on a day, of the rows -/
def duM (ρ : Nat → Int) (f d : Int) : Prop := 0 ≤ d ∧ dM ρ f (yM ρ f d) = d
def laM (ρ : Nat → Int) : Int := if ρ 55 = 7 then 1 else ρ 55
theorem laM_bd {ρ : Nat → Int} (h : MI ρ) : 1 ≤ laM ρ ∧ laM ρ ≤ 9 := by
  have := h.2.2.2.1
  unfold laM
  split <;> omega
theorem duM_dt {ρ : Nat → Int} {f d v w : Int} (h : MI ρ) (hf : 0 ≤ f ∧ f < ρ 14) (h0 : 0 ≤ d ∧ d ≤ 1000000) (hv : dtV (1 - mF ρ f 0) (calM ρ (mF ρ f 0) d) v) (hw : d ≠ 0 → dtV (1 - mF ρ f 0) (calM ρ (mF ρ f 0) (d - 1)) w) : duM ρ f d ↔ (100 * mF ρ f 1 + mF ρ f 2 ≤ v % 10000 ∧ (d = 0 ∨ w / 10000 < v / 10000 ∨ w % 10000 < 100 * mF ρ f 1 + mF ρ f 2)) := by
  have hF := h.2.2.1 f hf.1 hf.2
  have h9 := du_dt (a := 1 - mF ρ f 0) (h.1 _ hF.1) ⟨hF.2.1, hF.2.2.1⟩ ⟨hF.2.2.2.1, hF.2.2.2.2.1⟩ h0 hv hw
  unfold duM
  rw [← h9]
  exact ⟨fun q => q.2, fun q => ⟨h0.1, q⟩⟩
/-- a due day's own year -/
theorem duM_y {ρ : Nat → Int} {f y : Int} (h : MI ρ) (hf : 0 ≤ f ∧ f < ρ 14) (hy : 1 ≤ y) : dM ρ f y = -1 ∨ (duM ρ f (dM ρ f y) ∧ yM ρ f (dM ρ f y) = y) := by
  have hF := h.2.2.1 f hf.1 hf.2
  rcases due_is (a := 1 - mF ρ f 0) (y := y) (h.1 _ hF.1) ⟨hF.2.1, hF.2.2.1⟩ ⟨hF.2.2.2.1, hF.2.2.2.2.1⟩ hy with e | ⟨u, e1, e2, e3, -⟩
  · exact Or.inl e
  · right
    have e0 : dM ρ f y = u := e1
    have e9 : yM ρ f u = y := e3
    unfold duM
    rw [e0, e9]
    exact ⟨⟨e2, e0⟩, rfl⟩
theorem keM {ρ : Nat → Int} (f y : Int) : kM ρ f y = if dM ρ f y = -1 then -1 else if dM ρ f y % 7 = mF ρ f 3 then dM ρ f y + laM ρ else dM ρ f y := by
  show keG (ρ 55) (mF ρ f 3) (dM ρ f y) = _
  unfold keG laM
  by_cases q : dM ρ f y = -1
  · rw [if_pos q, if_pos q]
    exact q
  · rw [if_neg q, if_neg q]
theorem kept_on {ρ : Nat → Int} {f d : Int} (h : MI ρ) (hf : 0 ≤ f ∧ f < ρ 14) (h0 : 0 ≤ d) : onM ρ f d ↔ ((duM ρ f d ∧ d % 7 ≠ mF ρ f 3) ∨ (0 ≤ d - laM ρ ∧ (d - laM ρ) % 7 = mF ρ f 3 ∧ duM ρ f (d - laM ρ))) := by
  have hF := h.2.2.1 f hf.1 hf.2
  have hg := h.1 _ hF.1
  have hla := laM_bd h
  have hyp : ∀ x, 0 ≤ x → 1 ≤ yM ρ f x := fun x hx => yG_pos hg hx
  unfold onM
  rw [on_ex (kM_ok h hF) h0]
  constructor
  · rintro ⟨y, y1, y2⟩
    rw [keM] at y2
    rcases duM_y h hf y1 with e | ⟨e1, e2⟩
    · rw [if_pos e] at y2
      omega
    · have e3 := e1.1
      rw [if_neg (by omega)] at y2
      by_cases q : dM ρ f y % 7 = mF ρ f 3
      · rw [if_pos q] at y2
        have e4 : d - laM ρ = dM ρ f y := by omega
        right
        rw [e4]
        exact ⟨e3, q, e1⟩
      · rw [if_neg q] at y2
        left
        rw [← y2]
        exact ⟨e1, q⟩
  · rintro (⟨⟨a1, a2⟩, a3⟩ | ⟨b1, b2, -, b3⟩)
    · refine ⟨yM ρ f d, hyp d h0, ?_⟩
      rw [keM, a2, if_neg (by omega), if_neg a3]
    · refine ⟨yM ρ f (d - laM ρ), hyp _ b1, ?_⟩
      rw [keM, b3, if_neg (by omega), if_pos b2]
      omega
theorem MI_cal {ρ : Nat → Int} (h : MG ρ) {t : Int} (ht : t = 0 ∨ t = 1) {d : Int} (hd : 0 ≤ d ∧ d ≤ 1000000) : 0 ≤ calM ρ t d ∧ calM ρ t d ≤ 1000200 := by
  have := calM_bd h ht d
  omega
theorem dtV_bd {a c v : Int} (h : dtV a c v) (hc : 0 ≤ c ∧ c ≤ 1000200) : 10101 ≤ v ∧ v ≤ 29784000 := by
  obtain ⟨m, q, -, -, -, -, -, -, -, -, -, -, h1, h2⟩ := dtV_is h hc
  exact ⟨h1, h2⟩
