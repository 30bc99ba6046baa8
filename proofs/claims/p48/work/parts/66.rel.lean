/-! class and law in one world: what agrees between two calls -/
def RBd (ρ : Nat → Int) : Prop := (0 ≤ ρ 58 ∧ ρ 58 ≤ 10 * ρ 57) ∧ (0 ≤ ρ 59 ∧ ρ 59 ≤ 10 * ρ 57) ∧ (0 ≤ ρ 60 ∧ ρ 60 ≤ ρ 57) ∧ (0 ≤ ρ 61 ∧ ρ 61 ≤ 9 * ρ 57)
def Rel (z : Zt) : Prop := RB z 1 (rho z) ∧ PI z ∧ AI z ∧ RBd (rho z)
/-- agreement but for the text and the row of the days -/
def agQ (z z1 : Zt) : Prop := ∀ a : Nat, a ≠ 22 → a ≠ 23 → a ≠ 24 → z1 a = z a
theorem agQ.rf (z : Zt) : agQ z z := fun _ _ _ _ => rfl
theorem agQ.tr {a b c : Zt} (h : agQ a b) (h2 : agQ b c) : agQ a c := fun i h3 h4 h5 => (h2 i h3 h4 h5).trans (h i h3 h4 h5)
theorem agQ.of24 {z z1 : Zt} (h : ag24 z z1) : agQ z z1 := fun a _ _ h3 => h a h3
theorem agQ.blk {z z1 : Zt} (h : agQ z z1) : blkE z z1 1 := fun j hj => h _ (by omega) (by omega) (by omega)
theorem agQ.rho {z z1 : Zt} (h : agQ z z1) : rho z1 = rho z := rho_c (h 169 (by decide) (by decide) (by decide)) (h 170 (by decide) (by decide) (by decide)) (h 171 (by decide) (by decide) (by decide))
theorem PI_o {z z1 : Zt} (h0 : z1 0 2 = z 0 2) (h19 : z1 19 = z 19) (h : PI z) : PI z1 := by
  unfold PI
  rw [h0, h19]
  exact h
theorem AI_o {z z1 : Zt} (h : ∀ q, kd q = 2 → z1 (q + 1) 0 = z (q + 1) 0 ∧ z1 (q + 4) 0 = z (q + 4) 0) (hA : AI z) : AI z1 := fun q hq => by
  rw [(h q hq).1, (h q hq).2]
  exact hA q hq
theorem Rel_Q {z z1 : Zt} (hR : Rel z) (h : agQ z z1) : Rel z1 := by
  obtain ⟨r1, r2, r3, r4⟩ := hR
  have e := h.rho
  refine ⟨by rw [e]; exact RB_blk h.blk r1, PI_o (by rw [h 0 (by decide) (by decide) (by decide)]) (h 19 (by decide) (by decide) (by decide)) r2, AI_o (fun q hq => ?_) r3, by rw [e]; exact r4⟩
  rcases S_base hq with rfl | ⟨j, -, rfl⟩
  · exact ⟨by rw [h (1 + 1) (by decide) (by decide) (by decide)], by rw [h (1 + 4) (by decide) (by decide) (by decide)]⟩
  · exact ⟨by rw [h (25 + 18 * j + 1) (by omega) (by omega) (by omega)], by rw [h (25 + 18 * j + 4) (by omega) (by omega) (by omega)]⟩
/-! the day of a date -/
theorem dtV_one {a c v w : Int} (h : dtV a c v) (h2 : dtV a c w) : v = w := by
  obtain ⟨m, hm, hv⟩ := h
  obtain ⟨k, hk, hw⟩ := h2
  have e := isMon_one hm hk
  subst e
  omega
theorem fd_cal {n : Int} {f g : Nat → Int} (h : GI n f g) {d : Int} (hd : 0 ≤ d) : fdN f g (calN f g d n.toNat) n.toNat = d := by
  have hn := h.1
  have hb := calN_bd h d n.toNat (by omega)
  have hf := fdN_is h (calN f g d n.toNat) n.toNat (by omega)
  generalize fdN f g (calN f g d n.toNat) n.toNat = u at hf ⊢
  rcases Int.lt_trichotomy u d with q | q | q
  · have h9 := calN_mono h (x := u) (y := d) (by omega) n.toNat (by omega)
    omega
  · exact q
  · have h9 := hf.2 d q
    omega
def dwM (ρ : Nat → Int) (t y m q : Int) : Int := if 12 < m ∨ mlen (1 - t) m < q then -1 else if calM ρ t (fdM ρ t (dof (1 - t) y m q)) = dof (1 - t) y m q then fdM ρ t (dof (1 - t) y m q) else -1
/-- of a day's own date -/
theorem dwM_own {ρ : Nat → Int} {t d m : Int} (h : MG ρ) (ht : t = 0 ∨ t = 1) (hd : 0 ≤ d) (hm : isMon (1 - t) (calM ρ t d % yl (1 - t)) m) : dwM ρ t (1 + calM ρ t d / yl (1 - t)) m (calM ρ t d % yl (1 - t) - mbef (1 - t) m + 1) = d := by
  have hq := mon_q hm
  have e : dof (1 - t) (1 + calM ρ t d / yl (1 - t)) m (calM ρ t d % yl (1 - t) - mbef (1 - t) m + 1) = calM ρ t d := by
    have h1 := Int.emod_add_ediv_mul (calM ρ t d) (yl (1 - t))
    unfold dof
    rw [show 1 + calM ρ t d / yl (1 - t) - 1 = calM ρ t d / yl (1 - t) by omega]
    omega
  have e2 : fdM ρ t (calM ρ t d) = d := fd_cal (h t ht) hd
  have hm2 := hm.2.1
  unfold dwM
  rw [if_neg (by omega), e, e2, if_pos rfl]
/-- of a date that was sought among the days around one of its year -/
theorem dwM_found {ρ : Nat → Int} {t d v T lo hi x : Int} (h : MG ρ) (ht : t = 0 ∨ t = 1) (hd : 0 ≤ d ∧ d ≤ 20000) (hv : dtV (1 - t) (calM ρ t d) v) (hT : 101 ≤ T ∧ T ≤ 1231 ∧ 1 ≤ T % 100 ∧ T % 100 ≤ 31) (hlo : 0 ≤ lo ∧ (lo = 0 ∨ lo = d - 400)) (hhi : d + 400 ≤ hi ∧ hi ≤ 100000)
    (hx : (x = -1 ∧ ∀ u, lo ≤ u → u < hi → ¬ dtV (1 - t) (calM ρ t u) (10000 * (v / 10000) + T)) ∨ (lo ≤ x ∧ x < hi ∧ dtV (1 - t) (calM ρ t x) (10000 * (v / 10000) + T))) : dwM ρ t (v / 10000) (T / 100) (T % 100) = x := by
  have hg := h t ht
  have hn := hg.1
  have hcd := calM_bd h ht d
  obtain ⟨m, q, i1, i2, i3, i4, i5, i6, i7, -⟩ := dtV_is hv (by omega)
  have hyl := yl_bd (1 - t)
  rcases hx with ⟨x1, x2⟩ | ⟨x1, x2, x3⟩
  · rw [x1]
    unfold dwM
    by_cases c1 : 12 < T / 100 ∨ mlen (1 - t) (T / 100) < T % 100
    · rw [if_pos c1]
    · rw [if_neg c1]
      by_cases c2 : calM ρ t (fdM ρ t (dof (1 - t) (v / 10000) (T / 100) (T % 100))) = dof (1 - t) (v / 10000) (T / 100) (T % 100)
      · exfalso
        have hs := mbef_s (a := 1 - t) (m := T / 100) (by omega)
        have hb := mbef_bd (a := 1 - t) (m := T / 100) (by omega)
        have h13 := mbef_mono (a := 1 - t) (x := T / 100 + 1) (y := 13) (by omega) (by omega)
        rw [mbef_13] at h13
        have hz : 0 ≤ (v / 10000 - 1) * yl (1 - t) := Int.mul_nonneg (by omega) (by omega)
        have hD : dof (1 - t) (v / 10000) (T / 100) (T % 100) = (mbef (1 - t) (T / 100) + T % 100 - 1) + (v / 10000 - 1) * yl (1 - t) := by
          unfold dof
          omega
        have hu := (Int.ediv_emod_unique (a := dof (1 - t) (v / 10000) (T / 100) (T % 100)) (b := yl (1 - t)) (r := mbef (1 - t) (T / 100) + T % 100 - 1) (q := v / 10000 - 1) (by omega)).mpr ⟨by rw [hD, Int.mul_comm], by omega, by omega⟩
        have hfb := fdM_bd h ht (d := dof (1 - t) (v / 10000) (T / 100) (T % 100)) (by omega)
        have hCd := Int.emod_add_ediv_mul (calM ρ t d) (yl (1 - t))
        have hC0 := Int.emod_nonneg (calM ρ t d) (show yl (1 - t) ≠ 0 by omega)
        have hC1 := Int.emod_lt_of_pos (calM ρ t d) (show 0 < yl (1 - t) by omega)
        have ey : (v / 10000 - 1) * yl (1 - t) = calM ρ t d / yl (1 - t) * yl (1 - t) := by rw [i7, show 1 + calM ρ t d / yl (1 - t) - 1 = calM ρ t d / yl (1 - t) by omega]
        have hmon : isMon (1 - t) (dof (1 - t) (v / 10000) (T / 100) (T % 100) % yl (1 - t)) (T / 100) := ⟨by omega, by omega, by rw [hu.2]; omega, by rw [hu.2, hs]; omega⟩
        have hdt : dtV (1 - t) (calM ρ t (fdM ρ t (dof (1 - t) (v / 10000) (T / 100) (T % 100)))) (10000 * (v / 10000) + T) := by
          rw [c2]
          exact ⟨T / 100, hmon, by rw [hu.1, hu.2]; omega⟩
        generalize fdM ρ t (dof (1 - t) (v / 10000) (T / 100) (T % 100)) = u at hdt hfb c2
        have k1 := calN_mono hg (x := u) (y := d)
        have k2 := calN_mono hg (x := d) (y := u)
        have h5 : lo ≤ u ∧ u < hi := by
          rcases Int.le_total u d with q9 | q9
          · have k3 : calM ρ t u + (d - u) ≤ calM ρ t d := k1 q9 (mN ρ t).toNat (by omega)
            omega
          · have k3 : calM ρ t d + (u - d) ≤ calM ρ t u := k2 q9 (mN ρ t).toNat (by omega)
            omega
        exact x2 u h5.1 h5.2 hdt
      · rw [if_neg c2]
  · have hcx := calM_bd h ht x
    obtain ⟨k, p, j1, j2, j3, j4, j5, j6, j7, j8, -⟩ := dtV_is x3 (by omega)
    have h9 := dwM_own h ht (show 0 ≤ x by omega) j1
    rw [← j7, ← j2] at h9
    rw [show T / 100 = k by omega, show T % 100 = p by omega]
    rw [show (10000 * (v / 10000) + T) / 10000 = v / 10000 by omega] at h9
    exact h9
/-! the text that is written, read back -/
theorem dt_congr {f g : Nat → Int} : ∀ {i : Nat}, (∀ j, j < i → f j = g j) → dt f i = dt g i
  | 0, _ => rfl
  | i + 1, h => by
    simp only [dt]
    rw [dt_congr (fun j hj => h j (by omega)), h i (by omega)]
theorem prt_congr {f g : Nat → Int} : ∀ {i : Nat}, (∀ j, j < i → f j = g j) → prt f i = prt g i
  | 0, _ => rfl
  | i + 1, h => by
    simp only [prt]
    rw [prt_congr (fun j hj => h j (by omega)), h i (by omega)]
theorem nuN_congr {f g : Nat → Int} {w : Int} : ∀ {i : Nat}, (∀ j, j < i → f j = g j) → nuN f w i = nuN g w i
  | 0, _ => rfl
  | i + 1, h => by
    simp only [nuN]
    rw [nuN_congr (fun j hj => h j (by omega)), prt_congr (f := f) (g := g) (fun j hj => h j (by omega)), h i (by omega)]
/-- the text so far: n characters, in part p, k digits of it, the parts' numbers N -/
def SW (f : Nat → Int) (n : Nat) (p k : Int) (N : Int → Int) : Prop := 1 ≤ n ∧ (∀ i, i < n → (33 ≤ f i ∧ f i ≤ 126) ∧ fitA f i) ∧ (dt f n).1 = p ∧ (dt f n).2 = k ∧ prt f n = p ∧ ∀ w, nuN f w n = N w
theorem fitA_congr {f g : Nat → Int} {i : Nat} (h : ∀ j, j < i + 1 → f j = g j) (hf : fitA f i) : fitA g i := by
  unfold fitA at hf ⊢
  rw [← dt_congr (f := f) (g := g) (i := i) (fun j hj => h j (by omega)), ← h i (by omega)]
  exact hf
theorem SW_congr {f g : Nat → Int} {n : Nat} {p k : Int} {N : Int → Int} (h : ∀ j, j < n → f j = g j) (hf : SW f n p k N) : SW g n p k N := by
  obtain ⟨h1, h2, h3, h4, h5, h6⟩ := hf
  refine ⟨h1, fun i hi => ⟨by rw [← h i hi]; exact (h2 i hi).1, fitA_congr (fun j hj => h j (by omega)) (h2 i hi).2⟩, ?_, ?_, ?_, fun w => ?_⟩
  · rw [← dt_congr h]; exact h3
  · rw [← dt_congr h]; exact h4
  · rw [← prt_congr h]; exact h5
  · rw [← nuN_congr h]; exact h6 w
theorem SW_let {f : Nat → Int} (h : f 0 = 65 ∨ f 0 = 66) : SW f 1 1 0 (fun _ => 0) := by
  refine ⟨Nat.le_refl _, fun i hi => ?_, ?_, ?_, ?_, fun w => ?_⟩
  · have e : i = 0 := by omega
    subst e
    refine ⟨by omega, ?_⟩
    unfold fitA fitC
    simp only [dt, if_pos]
    exact h
  · simp [dt]
  · simp [dt]
  · simp [prt]
  · simp [nuN]
theorem SW_dig {f : Nat → Int} {n : Nat} {p k x : Int} {N : Int → Int} (h : SW f n p k N) (hp : 1 ≤ p ∧ p ≤ 3) (hx : 0 ≤ x ∧ x ≤ 9) (h0 : k = 0 → 1 ≤ x) (hk : k < (if p = 3 then 3 else 2)) (hf : f n = 48 + x) : SW f (n + 1) p (k + 1) (fun w => if p = w then N w * 10 + x else N w) := by
  obtain ⟨h1, h2, h3, h4, h5, h6⟩ := h
  have hd := dt_dig (f := f) (i := n) (by omega)
  refine ⟨by omega, fun i hi => ?_, by rw [hd.1]; exact h3, by rw [hd.2, h4], ?_, fun w => ?_⟩
  · by_cases q : i < n
    · exact h2 i q
    · have e : i = n := by omega
      subst e
      refine ⟨by omega, ?_⟩
      unfold fitA fitC
      rw [h3, h4, if_neg (by omega), if_neg (by omega)]
      refine ⟨?_, by omega, hk⟩
      split <;> omega
  · simp only [prt]
    rw [if_neg (by omega), if_neg (by omega), h5]
  · simp only [nuN]
    rw [if_neg (by omega), if_neg (by omega), h5, h6]
    split
    · omega
    · rfl
theorem SW_dot {f : Nat → Int} {n : Nat} {p k : Int} {N : Int → Int} (h : SW f n p k N) (hp : 1 ≤ p ∧ p ≤ 2) (hk : 0 < k) (hf : f n = 46) : SW f (n + 1) (p + 1) 0 N := by
  obtain ⟨h1, h2, h3, h4, h5, h6⟩ := h
  have hd := dt_dot (f := f) (i := n) (Or.inr hf)
  refine ⟨by omega, fun i hi => ?_, by rw [hd.1, h3], hd.2, ?_, fun w => ?_⟩
  · by_cases q : i < n
    · exact h2 i q
    · have e : i = n := by omega
      subst e
      refine ⟨by omega, ?_⟩
      unfold fitA fitC
      rw [h3, h4, if_neg (by omega), if_pos hf]
      exact ⟨by omega, hk⟩
  · simp only [prt]
    rw [if_neg (by omega), if_pos hf, h5]
  · simp only [nuN]
    rw [if_neg (by omega), if_pos hf, h6]
/-- the same of a world's text -/
def SZ (z : Zt) (p k : Int) (N : Int → Int) : Prop := 0 ≤ z 22 1 ∧ SW (z 23) (z 22 1).toNat p k N
theorem putZ_at {z : Zt} {c : Int} (h : 0 ≤ z 22 1) : putZ z c 22 1 = z 22 1 + 1 ∧ putZ z c 23 (z 22 1).toNat = c ∧ ∀ j, j < (z 22 1).toNat → z 23 j = putZ z c 23 j := by
  refine ⟨putZ_len z c, ?_, fun j hj => ?_⟩
  · simp [putZ, zup]
  · have e : j ≠ (z 22 1).toNat := by omega
    simp [putZ, zup, e]
theorem SZ_dig {z : Zt} {p k x : Int} {N : Int → Int} (h : SZ z p k N) (hp : 1 ≤ p ∧ p ≤ 3) (hx : 0 ≤ x ∧ x ≤ 9) (h0 : k = 0 → 1 ≤ x) (hk : k < (if p = 3 then 3 else 2)) : SZ (putZ z (48 + x)) p (k + 1) (fun w => if p = w then N w * 10 + x else N w) := by
  obtain ⟨a1, a2, a3⟩ := putZ_at (c := 48 + x) h.1
  have h9 := h.1
  refine ⟨by omega, ?_⟩
  rw [a1, show (z 22 1 + 1).toNat = (z 22 1).toNat + 1 by omega]
  exact SW_dig (SW_congr a3 h.2) hp hx h0 hk a2
theorem SZ_dot {z : Zt} {p k : Int} {N : Int → Int} (h : SZ z p k N) (hp : 1 ≤ p ∧ p ≤ 2) (hk : 0 < k) : SZ (putZ z 46) (p + 1) 0 N := by
  obtain ⟨a1, a2, a3⟩ := putZ_at (c := 46) h.1
  have h9 := h.1
  refine ⟨by omega, ?_⟩
  rw [a1, show (z 22 1 + 1).toNat = (z 22 1).toNat + 1 by omega]
  exact SW_dot (SW_congr a3 h.2) hp hk a2
theorem SZ_num {z : Zt} {p n : Int} {N : Int → Int} (h : SZ z p 0 N) (hp : 1 ≤ p ∧ p ≤ 3) (hn : 1 ≤ n ∧ n ≤ 99) (h0 : N p = 0) : ∃ k, 1 ≤ k ∧ SZ (pnZ z n) p k (fun w => if p = w then n else N w) := by
  unfold pnZ
  by_cases q : 10 ≤ n
  · rw [if_pos q]
    have h1 := SZ_dig (x := n / 10) h hp (by omega) (fun _ => by omega) (by split <;> omega)
    have h2 := SZ_dig (x := n % 10) h1 hp (by omega) (fun _ => by omega) (by split <;> omega)
    refine ⟨0 + 1 + 1, by decide, ?_⟩
    have e : (fun w => if p = w then (if p = w then N w * 10 + n / 10 else N w) * 10 + n % 10 else (if p = w then N w * 10 + n / 10 else N w)) = (fun w => if p = w then n else N w) := by
      funext w
      by_cases q9 : p = w
      · subst q9
        rw [if_pos rfl, if_pos rfl, if_pos rfl, h0]
        omega
      · rw [if_neg q9, if_neg q9, if_neg q9]
    rw [← e]
    exact h2
  · rw [if_neg q]
    have h2 := SZ_dig (x := n % 10) h hp (by omega) (fun _ => by omega) (by split <;> omega)
    refine ⟨0 + 1, by decide, ?_⟩
    have e : (fun w => if p = w then N w * 10 + n % 10 else N w) = (fun w => if p = w then n else N w) := by
      funext w
      by_cases q9 : p = w
      · subst q9
        rw [if_pos rfl, if_pos rfl, h0]
        omega
      · rw [if_neg q9, if_neg q9]
    rw [← e]
    exact h2
theorem pnZ_at {z : Zt} {n : Int} (h : 0 ≤ z 22 1) : ∀ j, j < (z 22 1).toNat → z 23 j = pnZ z n 23 j := fun j hj => by
  unfold pnZ
  split
  · obtain ⟨a1, a2, a3⟩ := putZ_at (z := z) (c := 48 + n / 10) h
    obtain ⟨b1, b2, b3⟩ := putZ_at (z := putZ z (48 + n / 10)) (c := 48 + n % 10) (by omega)
    rw [a3 j hj, b3 j (by omega)]
  · exact (putZ_at (z := z) (c := 48 + n % 10) h).2.2 j hj
theorem wr_ok {z : Zt} {t a b c : Int} (ht : t = 0 ∨ t = 1) (ha : 1 ≤ a ∧ a ≤ 31) (hb : 1 ≤ b ∧ b ≤ 12) (hc : 1 ≤ c ∧ c ≤ 60) {w : Zt} (hw : wrZ z t a b c = w) : (∀ i, i ≠ 22 → i ≠ 23 → w i = z i) ∧ TX (w 23) (w 22 1) ∧ FE (w 23) (w 22 1) (-1) ∧ nuN (w 23) 1 (w 22 1).toNat = a ∧ nuN (w 23) 2 (w 22 1).toNat = b ∧ nuN (w 23) 3 (w 22 1).toNat = c ∧ w 23 0 = 65 + t ∧ (1 ≤ w 22 1 ∧ w 22 1 ≤ 9) := by
  subst hw
  have l0 : zup z 22 1 0 22 1 = 0 := zup_s _ _ _ _
  obtain ⟨p1, p2, p3⟩ := putZ_at (z := zup z 22 1 0) (c := 65 + t) (by omega)
  have e1 : putZ (zup z 22 1 0) (65 + t) 22 1 = 1 := by omega
  have e0 : putZ (zup z 22 1 0) (65 + t) 23 0 = 65 + t := by
    rw [l0] at p2
    exact p2
  have s1 : SZ (putZ (zup z 22 1 0) (65 + t)) 1 0 (fun _ => 0) := ⟨by omega, by rw [e1]; exact SW_let (by omega)⟩
  have o1 : ∀ i, i ≠ 22 → i ≠ 23 → putZ (zup z 22 1 0) (65 + t) i = z i := fun i h1 h2 => (putZ_o _ _ h1 h2).trans (zup_o h1 _ _)
  obtain ⟨k2, hk2, s2⟩ := SZ_num (n := a) s1 (by decide) (by omega) rfl
  have l2 := pnZ_len (putZ (zup z 22 1 0) (65 + t)) a
  have f2 := pnZ_at (n := a) s1.1 0 (by omega)
  have s3 := SZ_dot s2 (by decide) (by omega)
  have q3 := putZ_at (c := 46) s2.1
  have f3 := q3.2.2 0 (by omega)
  obtain ⟨k4, hk4, s4⟩ := SZ_num (n := b) s3 (by decide) (by omega) rfl
  have l4 := pnZ_len (putZ (pnZ (putZ (zup z 22 1 0) (65 + t)) a) 46) b
  have f4 := pnZ_at (n := b) s3.1 0 (by omega)
  have s5 := SZ_dot s4 (by decide) (by omega)
  have q5 := putZ_at (c := 46) s4.1
  have f5 := q5.2.2 0 (by omega)
  obtain ⟨k6, hk6, s6⟩ := SZ_num (n := c) s5 (by decide) (by omega) rfl
  have l6 := pnZ_len (putZ (pnZ (putZ (pnZ (putZ (zup z 22 1 0) (65 + t)) a) 46) b) 46) c
  have f6 := pnZ_at (n := c) s5.1 0 (by omega)
  have hlen : 1 ≤ wrZ z t a b c 22 1 ∧ wrZ z t a b c 22 1 ≤ 9 := by
    unfold wrZ
    omega
  have hs : SZ (wrZ z t a b c) 3 k6 _ := s6
  obtain ⟨h0, g1, g2, g3, g4, g5, g6⟩ := hs
  refine ⟨fun i h1 h2 => ?_, ⟨by omega, by omega, fun i hi => (g2 i (by omega)).1⟩, Or.inr ⟨fun j hj => (g2 j (by omega)).2, by rw [if_pos ⟨g3, by omega⟩]⟩, ?_, ?_, ?_, ?_, hlen⟩
  · unfold wrZ
    rw [pnZ_o _ _ h1 h2, putZ_o _ _ h1 h2, pnZ_o _ _ h1 h2, putZ_o _ _ h1 h2, pnZ_o _ _ h1 h2]
    exact o1 i h1 h2
  · rw [g6]
    rfl
  · rw [g6]
    rfl
  · rw [g6]
    rfl
  · show pnZ (putZ (pnZ (putZ (pnZ (putZ (zup z 22 1 0) (65 + t)) a) 46) b) 46) c 23 0 = 65 + t
    rw [← f6, ← f5, ← f4, ← f3, ← f2, e0]
