/-! the calendar of a town, as numbers: a town has n gaps, after the days f 0, f 1 .., of the lengths g 0, g 1 .. -/
theorem k_1 : kd 1 = 2 := by decide
theorem k_19 : kd 19 = 36 := by decide
theorem k_20 : kd 20 = 32 := by decide
theorem k_21 : kd 21 = 20 := by decide
theorem k_22 : kd 22 = 5 := by decide
theorem k_23 : kd 23 = 180 := by decide
theorem k_24 : kd 24 = 500 := by decide
theorem k_0 : kd 0 = 1 := by decide
theorem k_169 : kd 169 = 114 := by decide
theorem k_170 : kd 170 = 140 := by decide
theorem k_171 : kd 171 = 108 := by decide
def GI (n : Int) (f g : Nat → Int) : Prop := 0 ≤ n ∧ n ≤ 3 ∧ (∀ k : Nat, (k : Int) < n → 0 ≤ f k ∧ f k ≤ 9999 ∧ 1 ≤ g k ∧ g k ≤ 40) ∧ ∀ k : Nat, (k : Int) + 1 < n → f k < f (k + 1)
def TI (z : Zt) (t : Nat) : Prop := (z t 0 = 0 ∨ z t 0 = 1) ∧ GI (z t 3) (z (t + 1)) (z (t + 2))
/-- the date of day d, the first k gaps counted -/
def calN (f g : Nat → Int) (d : Int) : Nat → Int
  | 0 => d
  | k + 1 => calN f g d k + (if f k < d then g k else 0)
theorem calN_bd {n : Int} {f g : Nat → Int} (h : GI n f g) (d : Int) : ∀ k : Nat, (k : Int) ≤ n → d ≤ calN f g d k ∧ calN f g d k ≤ d + 40 * k
  | 0, _ => by simp [calN]
  | k + 1, hk => by
    have ih := calN_bd h d k (by omega)
    have hb := h.2.2.1 k (by omega)
    simp only [calN]
    split <;> omega
/-- the first day that isn't ahead of a date, the first k gaps looked at -/
def fdN (f g : Nat → Int) (d : Int) : Nat → Int
  | 0 => d
  | k + 1 => if f k < fdN f g d k then (if f k + 1 < fdN f g d k - g k then fdN f g d k - g k else f k + 1) else fdN f g d k
theorem fdN_bd {n : Int} {f g : Nat → Int} (h : GI n f g) {d : Int} (hd : 0 ≤ d) : ∀ k : Nat, (k : Int) ≤ n → 0 ≤ fdN f g d k ∧ fdN f g d k ≤ d
  | 0, _ => by simp [fdN]; exact hd
  | k + 1, hk => by
    have ih := fdN_bd h hd k (by omega)
    have hb := h.2.2.1 k (by omega)
    simp only [fdN]
    split
    · split <;> omega
    · exact ih
/-- where the look stops, it has found the day -/
theorem fdN_stop {n : Int} {f g : Nat → Int} (h : GI n f g) {d : Int} {k : Nat} (hs : fdN f g d k ≤ f k) : ∀ m : Nat, (k : Int) + m ≤ n → fdN f g d (k + m) = fdN f g d k ∧ ((k : Int) + m < n → fdN f g d k ≤ f (k + m))
  | 0, _ => ⟨rfl, fun _ => hs⟩
  | m + 1, hm => by
    have ih := fdN_stop h hs m (by omega)
    have h1 := ih.2 (by omega)
    have e : fdN f g d (k + (m + 1)) = fdN f g d k := by
      rw [show k + (m + 1) = (k + m) + 1 by omega]
      simp only [fdN]
      rw [ih.1, if_neg (by omega)]
    refine ⟨e, fun h2 => ?_⟩
    have hb := h.2.2.2 (k + m) (by omega)
    rw [show k + (m + 1) = (k + m) + 1 by omega]
    omega
def yl (a : Int) : Int := if a = 0 then 336 else 366
def mlen (a m : Int) : Int := if a = 0 then 28 else if m % 2 = 1 then 30 else 31
def mbef (a m : Int) : Int := if a = 0 then (m - 1) * 28 else (m - 1) * 30 + (m - 1) / 2
theorem yl_bd (a : Int) : 336 ≤ yl a ∧ yl a ≤ 366 := by
  unfold yl
  split <;> omega
theorem mlen_bd (a m : Int) : 28 ≤ mlen a m ∧ mlen a m ≤ 31 := by
  unfold mlen
  split
  · omega
  · split <;> omega
theorem mbef_bd {a m : Int} (h : 1 ≤ m) : (m - 1) * 28 ≤ mbef a m ∧ mbef a m ≤ (m - 1) * 31 := by
  unfold mbef
  split <;> omega
theorem mbef_1 (a : Int) : mbef a 1 = 0 := by
  unfold mbef
  split <;> omega
theorem mbef_s {a m : Int} (h : 1 ≤ m) : mbef a (m + 1) = mbef a m + mlen a m := by
  unfold mbef mlen
  split
  · omega
  · split <;> omega
theorem mbef_13 (a : Int) : mbef a 13 = yl a := by
  unfold mbef yl
  split <;> omega
def calT (z : Zt) (t : Nat) (d : Int) : Int := calN (z (t + 1)) (z (t + 2)) d (z t 3).toNat
def fdT (z : Zt) (t : Nat) (d : Int) : Int := fdN (z (t + 1)) (z (t + 2)) d (z t 3).toNat
theorem calT_bd {z : Zt} {t : Nat} (h : TI z t) (d : Int) : d ≤ calT z t d ∧ calT z t d ≤ d + 120 := by
  obtain ⟨-, h⟩ := h
  have h1 := calN_bd h d (z t 3).toNat (by have := h.1; omega)
  have h2 := h.2.1
  unfold calT
  omega
theorem fdT_bd {z : Zt} {t : Nat} (h : TI z t) {d : Int} (hd : 0 ≤ d) : 0 ≤ fdT z t d ∧ fdT z t d ≤ d := by
  obtain ⟨-, h⟩ := h
  exact fdN_bd h hd (z t 3).toNat (by have := h.1; omega)
/-- the month of a day of the year -/
def isMon (a y x : Int) : Prop := 1 ≤ x ∧ x ≤ 12 ∧ mbef a x ≤ y ∧ y < mbef a (x + 1)
theorem isMon_one {a y x x2 : Int} (h : isMon a y x) (h2 : isMon a y x2) : x = x2 := by
  obtain ⟨a1, a2, a3, a4⟩ := h
  obtain ⟨b1, b2, b3, b4⟩ := h2
  unfold mbef at a3 a4 b3 b4
  split at a3 <;> split at a4 <;> split at b3 <;> split at b4 <;> omega
/-- the date of a day of a year -/
def dof (a y m d : Int) : Int := (y - 1) * yl a + mbef a m + d - 1
theorem dof_bd {a y m d : Int} (hy : 1 ≤ y ∧ y ≤ 1000) (hm : 1 ≤ m ∧ m ≤ 12) (hd : 1 ≤ d ∧ d ≤ 99) : 0 ≤ dof a y m d ∧ dof a y m d ≤ 400000 := by
  have h1 := mbef_bd (a := a) hm.1
  unfold dof yl
  split <;> omega
