theorem mid_addGap {z z1 : Zt} {t a q : Int} {k : Int} (hR : Rel z) (h1 : (fun v z1 => (v = 0 ∧ ∃ (x : Int) (z2 : Zt), (fun x z1 => lvZ (recZ z) (tid t) a q = z1 ∧ (0 ≤ t ∧ t ≤ 1) ∧ ((0 ≤ a ∧ a ≤ 9999) ∧ (1 ≤ q ∧ q ≤ 40) ∧ (if z (tid t) 3 = 0 then -1 else z (tid t + 1) (z (tid t) 3 - 1).toNat) < a) ∧ z (tid t) 3 < 3 ∧ x = z (tid t) 3 + 1) x z2 ∧ zup z2 176 0 (jl x) = z1) ∨ (v = 1 ∧ (fun E z1 => z = z1 ∧ ((E = xIO ∧ ¬ (0 ≤ t ∧ t ≤ 1)) ∨ (E = xIA ∧ (0 ≤ t ∧ t ≤ 1) ∧ ¬ ((0 ≤ a ∧ a ≤ 9999) ∧ (1 ≤ q ∧ q ≤ 40) ∧ (if z (tid t) 3 = 0 then -1 else z (tid t + 1) (z (tid t) 3 - 1).toNat) < a)) ∨ (E = xIS ∧ (0 ≤ t ∧ t ≤ 1) ∧ ((0 ≤ a ∧ a ≤ 9999) ∧ (1 ≤ q ∧ q ≤ 40) ∧ (if z (tid t) 3 = 0 then -1 else z (tid t + 1) (z (tid t) 3 - 1).toNat) < a) ∧ 3 ≤ z (tid t) 3))) xIO z1) ∨ (v = 2 ∧ (fun E z1 => z = z1 ∧ ((E = xIO ∧ ¬ (0 ≤ t ∧ t ≤ 1)) ∨ (E = xIA ∧ (0 ≤ t ∧ t ≤ 1) ∧ ¬ ((0 ≤ a ∧ a ≤ 9999) ∧ (1 ≤ q ∧ q ≤ 40) ∧ (if z (tid t) 3 = 0 then -1 else z (tid t + 1) (z (tid t) 3 - 1).toNat) < a)) ∨ (E = xIS ∧ (0 ≤ t ∧ t ≤ 1) ∧ ((0 ≤ a ∧ a ≤ 9999) ∧ (1 ≤ q ∧ q ≤ 40) ∧ (if z (tid t) 3 = 0 then -1 else z (tid t + 1) (z (tid t) 3 - 1).toNat) < a) ∧ 3 ≤ z (tid t) 3))) xIA z1) ∨ (v = 3 ∧ (fun E z1 => z = z1 ∧ ((E = xIO ∧ ¬ (0 ≤ t ∧ t ≤ 1)) ∨ (E = xIA ∧ (0 ≤ t ∧ t ≤ 1) ∧ ¬ ((0 ≤ a ∧ a ≤ 9999) ∧ (1 ≤ q ∧ q ≤ 40) ∧ (if z (tid t) 3 = 0 then -1 else z (tid t + 1) (z (tid t) 3 - 1).toNat) < a)) ∨ (E = xIS ∧ (0 ≤ t ∧ t ≤ 1) ∧ ((0 ≤ a ∧ a ≤ 9999) ∧ (1 ≤ q ∧ q ≤ 40) ∧ (if z (tid t) 3 = 0 then -1 else z (tid t + 1) (z (tid t) 3 - 1).toNat) < a) ∧ 3 ≤ z (tid t) 3))) xIS z1)) k z1) : Mid z z1 := by
  have hP := PJ_PI hR.2.1
  rcases h1 with ⟨rfl, x, z3, ⟨y1, hq9⟩, y0⟩ | ⟨rfl, rfl, -⟩ | ⟨rfl, rfl, -⟩ | ⟨rfl, rfl, -⟩
  · intro a9 h1 h2
    rw [← y0, zup_o (by omega)]
    have := tid_or t
    subst y1
    unfold lvZ
    rw [zup_o (by omega), zup_o (by omega), zup_o (by omega)]
    exact recZ_big hP h1
  · exact fun _ _ _ => rfl
  · exact fun _ _ _ => rfl
  · exact fun _ _ _ => rfl
set_option maxHeartbeats 4000000 in
theorem ok_addGap {z z1 w z2 : Zt} {t a q : Int} {k v : Int} (hR : Rel z) (hw : w = zup z1 169 5 0) (h1 : (fun v z1 => (v = 0 ∧ ∃ (x : Int) (z2 : Zt), (fun x z1 => lvZ (recZ z) (tid t) a q = z1 ∧ (0 ≤ t ∧ t ≤ 1) ∧ ((0 ≤ a ∧ a ≤ 9999) ∧ (1 ≤ q ∧ q ≤ 40) ∧ (if z (tid t) 3 = 0 then -1 else z (tid t + 1) (z (tid t) 3 - 1).toNat) < a) ∧ z (tid t) 3 < 3 ∧ x = z (tid t) 3 + 1) x z2 ∧ zup z2 176 0 (jl x) = z1) ∨ (v = 1 ∧ (fun E z1 => z = z1 ∧ ((E = xIO ∧ ¬ (0 ≤ t ∧ t ≤ 1)) ∨ (E = xIA ∧ (0 ≤ t ∧ t ≤ 1) ∧ ¬ ((0 ≤ a ∧ a ≤ 9999) ∧ (1 ≤ q ∧ q ≤ 40) ∧ (if z (tid t) 3 = 0 then -1 else z (tid t + 1) (z (tid t) 3 - 1).toNat) < a)) ∨ (E = xIS ∧ (0 ≤ t ∧ t ≤ 1) ∧ ((0 ≤ a ∧ a ≤ 9999) ∧ (1 ≤ q ∧ q ≤ 40) ∧ (if z (tid t) 3 = 0 then -1 else z (tid t + 1) (z (tid t) 3 - 1).toNat) < a) ∧ 3 ≤ z (tid t) 3))) xIO z1) ∨ (v = 2 ∧ (fun E z1 => z = z1 ∧ ((E = xIO ∧ ¬ (0 ≤ t ∧ t ≤ 1)) ∨ (E = xIA ∧ (0 ≤ t ∧ t ≤ 1) ∧ ¬ ((0 ≤ a ∧ a ≤ 9999) ∧ (1 ≤ q ∧ q ≤ 40) ∧ (if z (tid t) 3 = 0 then -1 else z (tid t + 1) (z (tid t) 3 - 1).toNat) < a)) ∨ (E = xIS ∧ (0 ≤ t ∧ t ≤ 1) ∧ ((0 ≤ a ∧ a ≤ 9999) ∧ (1 ≤ q ∧ q ≤ 40) ∧ (if z (tid t) 3 = 0 then -1 else z (tid t + 1) (z (tid t) 3 - 1).toNat) < a) ∧ 3 ≤ z (tid t) 3))) xIA z1) ∨ (v = 3 ∧ (fun E z1 => z = z1 ∧ ((E = xIO ∧ ¬ (0 ≤ t ∧ t ≤ 1)) ∨ (E = xIA ∧ (0 ≤ t ∧ t ≤ 1) ∧ ¬ ((0 ≤ a ∧ a ≤ 9999) ∧ (1 ≤ q ∧ q ≤ 40) ∧ (if z (tid t) 3 = 0 then -1 else z (tid t + 1) (z (tid t) 3 - 1).toNat) < a)) ∨ (E = xIS ∧ (0 ≤ t ∧ t ≤ 1) ∧ ((0 ≤ a ∧ a ≤ 9999) ∧ (1 ≤ q ∧ q ≤ 40) ∧ (if z (tid t) 3 = 0 then -1 else z (tid t + 1) (z (tid t) 3 - 1).toNat) < a) ∧ 3 ≤ z (tid t) 3))) xIS z1)) k z1) (h2 : (fun v z1 => (zup (zup (zup (recM w) 170 (0 + 7 * t + 1 + 2 * mN (w 170) t).toNat a) 170 (0 + 7 * t + 2 + 2 * mN (w 170) t).toNat q) 170 (0 + 7 * t).toNat (mN (w 170) t + 1) = z1 ∧ (0 ≤ t ∧ t ≤ 1) ∧ ((0 ≤ a ∧ a ≤ 9999) ∧ (1 ≤ q ∧ q ≤ 40) ∧ (mN (w 170) t = 0 ∨ mD (w 170) t (mN (w 170) t - 1).toNat < a)) ∧ mN (w 170) t < 3 ∧ v = mN (w 170) t + 1) ∨ (zup w 169 5 1 = z1 ∧ ¬ (0 ≤ t ∧ t ≤ 1)) ∨ (zup w 169 5 2 = z1 ∧ (0 ≤ t ∧ t ≤ 1) ∧ ¬ ((0 ≤ a ∧ a ≤ 9999) ∧ (1 ≤ q ∧ q ≤ 40) ∧ (mN (w 170) t = 0 ∨ mD (w 170) t (mN (w 170) t - 1).toNat < a))) ∨ (zup w 169 5 3 = z1 ∧ (0 ≤ t ∧ t ≤ 1) ∧ ((0 ≤ a ∧ a ≤ 9999) ∧ (1 ≤ q ∧ q ≤ 40) ∧ (mN (w 170) t = 0 ∨ mD (w 170) t (mN (w 170) t - 1).toNat < a)) ∧ mN (w 170) t = 3)) v z2) : z2 169 5 = k ∧ (k = 0 → z2 176 0 = jl v) ∧ Rel z2 := by
  have hm : Mid z z1 := mid_addGap hR h1
  have hB := hR.1
  have hP := PJ_PI hR.2.1
  have h3 : z 1 3 = z 170 14 := hB.2.2.1.1
  have h6 : z 1 6 = z 170 57 := hB.2.2.1.2.2.2.1
  have h610 := RB_n hB
  obtain ⟨m0, m1, m2, m3, m4, m5, m6⟩ := mid_w hm hw
  have tA : (0 ≤ t ∧ t ≤ 1) → z (tid t) 3 = mN (z 170) t := fun q9 => (hB.2.1 t (by omega)).1
  have tI0 : z (tid t) 3 = 0 → (if z (tid t) 3 = 0 then (-1 : Int) else z (tid t + 1) (z (tid t) 3 - 1).toNat) = -1 := fun q9 => if_pos q9
  have tI1 : ¬ z (tid t) 3 = 0 → (if z (tid t) 3 = 0 then (-1 : Int) else z (tid t + 1) (z (tid t) 3 - 1).toNat) = z (tid t + 1) (z (tid t) 3 - 1).toNat := fun q9 => if_neg q9
  have tL : (0 ≤ t ∧ t ≤ 1) → 0 < mN (z 170) t → z (tid t + 1) (z (tid t) 3 - 1).toNat = mD (z 170) t (mN (z 170) t - 1).toNat := fun q9 q8 => by
    rw [tA q9]
    exact ((hB.2.1 t (by omega)).2.2 (mN (z 170) t - 1).toNat (by omega)).1
  have tR : (0 ≤ t ∧ t ≤ 1) → 0 ≤ mN (z 170) t ∧ mN (z 170) t ≤ 3 := fun q9 => by
    have h9 := RB_MG hB t (by omega)
    exact ⟨h9.1, h9.2.1⟩
  try rw [m0] at h2
  try rw [m3] at h2
  rcases h1 with ⟨rfl, x, z3, ⟨y1, c1, c2, c3, e1⟩, y0⟩ | ⟨rfl, h0, hc⟩ | ⟨rfl, h0, hc⟩ | ⟨rfl, h0, hc⟩
  · rcases h2 with ⟨s0, d1, d2, d3, e2⟩ | ⟨rfl, d⟩ | ⟨rfl, d⟩ | ⟨rfl, d⟩
    · subst y1
      have tz : ∀ j, j ≠ 3 → recZ z 2 j = lvZ (recZ z) (tid t) a q 2 j ∧ recZ z 5 j = lvZ (recZ z) (tid t) a q 5 j := fun j hj => by
        unfold lvZ
        rcases tid_or t with e | e <;> rw [e] <;> constructor <;> (first | (rw [zup_r, if_neg hj, zup_o (by decide), zup_o (by decide)]) | (rw [zup_o (by decide), zup_o (by decide), zup_o (by decide)]))
      have hRw := Rel_w (z2 := z2) hR (fun i hi h24 => by
        have := tid_or t
        unfold lvZ
        rw [zup_o (by omega), zup_o (by omega), zup_o (by omega)]) (⟨by rw [← (tz 0 (by decide)).1]; exact (recA hR).1, by rw [← (tz 0 (by decide)).2]; exact (recA hR).2⟩) (RB_gap (t := t) (a := a) (q := q) (RB_rec hR) (by omega) d2.1 d2.2.1 d3 d2.2.2 (fun _ => rfl)) y0.symm hw (fun i hi => by
        rw [← s0, zup_o hi, zup_o hi, zup_o hi]) (by rw [← s0, zup_at, zup_at, zup_at, recM_o (by decide) (by decide), m0]; rfl)
      have hx9 : x = v := by rw [e1, e2, tA d1]
      exact finW hw hRw.2.1 hRw.2.2 (by rw [← y0]; exact zup_s _ _ _ _) hx9 hRw.1
    · exfalso
      have hm9 := hm
      clear hm hm9 m0 m1 m2 m3 m4 m5 m6
      omega
    · exfalso
      have hm9 := hm
      clear hm hm9 m0 m1 m2 m3 m4 m5 m6
      omega
    · exfalso
      have hm9 := hm
      clear hm hm9 m0 m1 m2 m3 m4 m5 m6
      omega
  · rcases hc with ⟨q8, hc⟩ | ⟨q8, hc⟩ | ⟨q8, hc⟩
    · rcases h2 with ⟨s0, d1, d2, d3, e2⟩ | ⟨rfl, d⟩ | ⟨rfl, d⟩ | ⟨rfl, d⟩
      · exfalso
        have hm9 := hm
        clear hm hm9 m0 m1 m2 m3 m4 m5 m6
        omega
      · exact finE hR (h0 ▸ Nz.rf z) hw (by decide)
      · exfalso
        have hm9 := hm
        clear hm hm9 m0 m1 m2 m3 m4 m5 m6
        omega
      · exfalso
        have hm9 := hm
        clear hm hm9 m0 m1 m2 m3 m4 m5 m6
        omega
    · exact absurd q8 (by decide +kernel)
    · exact absurd q8 (by decide +kernel)
  · rcases hc with ⟨q8, hc⟩ | ⟨q8, hc⟩ | ⟨q8, hc⟩
    · exact absurd q8 (by decide +kernel)
    · rcases h2 with ⟨s0, d1, d2, d3, e2⟩ | ⟨rfl, d⟩ | ⟨rfl, d⟩ | ⟨rfl, d⟩
      · exfalso
        have hm9 := hm
        clear hm hm9 m0 m1 m2 m3 m4 m5 m6
        omega
      · exfalso
        have hm9 := hm
        clear hm hm9 m0 m1 m2 m3 m4 m5 m6
        omega
      · exact finE hR (h0 ▸ Nz.rf z) hw (by decide)
      · exfalso
        have hm9 := hm
        clear hm hm9 m0 m1 m2 m3 m4 m5 m6
        omega
    · exact absurd q8 (by decide +kernel)
  · rcases hc with ⟨q8, hc⟩ | ⟨q8, hc⟩ | ⟨q8, hc⟩
    · exact absurd q8 (by decide +kernel)
    · exact absurd q8 (by decide +kernel)
    · rcases h2 with ⟨s0, d1, d2, d3, e2⟩ | ⟨rfl, d⟩ | ⟨rfl, d⟩ | ⟨rfl, d⟩
      · exfalso
        have hm9 := hm
        clear hm hm9 m0 m1 m2 m3 m4 m5 m6
        omega
      · exfalso
        have hm9 := hm
        clear hm hm9 m0 m1 m2 m3 m4 m5 m6
        omega
      · exfalso
        have hm9 := hm
        clear hm hm9 m0 m1 m2 m3 m4 m5 m6
        omega
      · exact finE hR (h0 ▸ Nz.rf z) hw (by decide)
theorem mid_addFeast {z z1 : Zt} {t m q : Int} {k : Int} (hR : Rel z) (h1 : (fun v z1 => (v = 0 ∧ ∃ (x : Int) (z2 : Zt), (fun x z1 => pfZ (recZ z) 1 t m q = z1 ∧ (0 ≤ t ∧ t ≤ 1) ∧ ((1 ≤ m ∧ m ≤ 12) ∧ (1 ≤ q ∧ q ≤ 31)) ∧ z 1 3 < 10 ∧ x = z 1 3) x z2 ∧ zup z2 176 0 (jl x) = z1) ∨ (v = 1 ∧ (fun E z1 => z = z1 ∧ ((E = xIO ∧ ¬ (0 ≤ t ∧ t ≤ 1)) ∨ (E = xIA ∧ (0 ≤ t ∧ t ≤ 1) ∧ ¬ ((1 ≤ m ∧ m ≤ 12) ∧ (1 ≤ q ∧ q ≤ 31))) ∨ (E = xIS ∧ (0 ≤ t ∧ t ≤ 1) ∧ ((1 ≤ m ∧ m ≤ 12) ∧ (1 ≤ q ∧ q ≤ 31)) ∧ 10 ≤ z 1 3))) xIO z1) ∨ (v = 2 ∧ (fun E z1 => z = z1 ∧ ((E = xIO ∧ ¬ (0 ≤ t ∧ t ≤ 1)) ∨ (E = xIA ∧ (0 ≤ t ∧ t ≤ 1) ∧ ¬ ((1 ≤ m ∧ m ≤ 12) ∧ (1 ≤ q ∧ q ≤ 31))) ∨ (E = xIS ∧ (0 ≤ t ∧ t ≤ 1) ∧ ((1 ≤ m ∧ m ≤ 12) ∧ (1 ≤ q ∧ q ≤ 31)) ∧ 10 ≤ z 1 3))) xIA z1) ∨ (v = 3 ∧ (fun E z1 => z = z1 ∧ ((E = xIO ∧ ¬ (0 ≤ t ∧ t ≤ 1)) ∨ (E = xIA ∧ (0 ≤ t ∧ t ≤ 1) ∧ ¬ ((1 ≤ m ∧ m ≤ 12) ∧ (1 ≤ q ∧ q ≤ 31))) ∨ (E = xIS ∧ (0 ≤ t ∧ t ≤ 1) ∧ ((1 ≤ m ∧ m ≤ 12) ∧ (1 ≤ q ∧ q ≤ 31)) ∧ 10 ≤ z 1 3))) xIS z1)) k z1) : Mid z z1 := by
  have hP := PJ_PI hR.2.1
  rcases h1 with ⟨rfl, x, z3, ⟨y1, hq9⟩, y0⟩ | ⟨rfl, rfl, -⟩ | ⟨rfl, rfl, -⟩ | ⟨rfl, rfl, -⟩
  · intro a9 h1 h2
    rw [← y0, zup_o (by omega)]
    subst y1
    have h9 : recZ z 1 3 = z 170 14 := (RB_rec hR).2.2.1.1
    have h8 := RB_n hR.1
    unfold pfZ
    rw [zup_o (by omega), zup_o (by omega), zup_o (by omega), zup_o (by omega), zup_o (by omega)]
    exact recZ_big hP h1
  · exact fun _ _ _ => rfl
  · exact fun _ _ _ => rfl
  · exact fun _ _ _ => rfl
set_option maxHeartbeats 4000000 in
theorem ok_addFeast {z z1 w z2 : Zt} {t m q : Int} {k v : Int} (hR : Rel z) (hw : w = zup z1 169 5 0) (h1 : (fun v z1 => (v = 0 ∧ ∃ (x : Int) (z2 : Zt), (fun x z1 => pfZ (recZ z) 1 t m q = z1 ∧ (0 ≤ t ∧ t ≤ 1) ∧ ((1 ≤ m ∧ m ≤ 12) ∧ (1 ≤ q ∧ q ≤ 31)) ∧ z 1 3 < 10 ∧ x = z 1 3) x z2 ∧ zup z2 176 0 (jl x) = z1) ∨ (v = 1 ∧ (fun E z1 => z = z1 ∧ ((E = xIO ∧ ¬ (0 ≤ t ∧ t ≤ 1)) ∨ (E = xIA ∧ (0 ≤ t ∧ t ≤ 1) ∧ ¬ ((1 ≤ m ∧ m ≤ 12) ∧ (1 ≤ q ∧ q ≤ 31))) ∨ (E = xIS ∧ (0 ≤ t ∧ t ≤ 1) ∧ ((1 ≤ m ∧ m ≤ 12) ∧ (1 ≤ q ∧ q ≤ 31)) ∧ 10 ≤ z 1 3))) xIO z1) ∨ (v = 2 ∧ (fun E z1 => z = z1 ∧ ((E = xIO ∧ ¬ (0 ≤ t ∧ t ≤ 1)) ∨ (E = xIA ∧ (0 ≤ t ∧ t ≤ 1) ∧ ¬ ((1 ≤ m ∧ m ≤ 12) ∧ (1 ≤ q ∧ q ≤ 31))) ∨ (E = xIS ∧ (0 ≤ t ∧ t ≤ 1) ∧ ((1 ≤ m ∧ m ≤ 12) ∧ (1 ≤ q ∧ q ≤ 31)) ∧ 10 ≤ z 1 3))) xIA z1) ∨ (v = 3 ∧ (fun E z1 => z = z1 ∧ ((E = xIO ∧ ¬ (0 ≤ t ∧ t ≤ 1)) ∨ (E = xIA ∧ (0 ≤ t ∧ t ≤ 1) ∧ ¬ ((1 ≤ m ∧ m ≤ 12) ∧ (1 ≤ q ∧ q ≤ 31))) ∨ (E = xIS ∧ (0 ≤ t ∧ t ≤ 1) ∧ ((1 ≤ m ∧ m ≤ 12) ∧ (1 ≤ q ∧ q ≤ 31)) ∧ 10 ≤ z 1 3))) xIS z1)) k z1) (h2 : (fun v z1 => (zup (zup (zup (zup (zup (recM w) 170 (15 + 4 * w 170 14).toNat t) 170 (15 + 4 * w 170 14 + 1).toNat m) 170 (15 + 4 * w 170 14 + 2).toNat q) 170 (15 + 4 * w 170 14 + 3).toNat (-1)) 170 14 (w 170 14 + 1) = z1 ∧ (0 ≤ t ∧ t ≤ 1) ∧ ((1 ≤ m ∧ m ≤ 12) ∧ (1 ≤ q ∧ q ≤ 31)) ∧ w 170 14 < 10 ∧ v = w 170 14) ∨ (zup w 169 5 1 = z1 ∧ ¬ (0 ≤ t ∧ t ≤ 1)) ∨ (zup w 169 5 2 = z1 ∧ (0 ≤ t ∧ t ≤ 1) ∧ ¬ ((1 ≤ m ∧ m ≤ 12) ∧ (1 ≤ q ∧ q ≤ 31))) ∨ (zup w 169 5 3 = z1 ∧ (0 ≤ t ∧ t ≤ 1) ∧ ((1 ≤ m ∧ m ≤ 12) ∧ (1 ≤ q ∧ q ≤ 31)) ∧ w 170 14 = 10)) v z2) : z2 169 5 = k ∧ (k = 0 → z2 176 0 = jl v) ∧ Rel z2 := by
  have hm : Mid z z1 := mid_addFeast hR h1
  have hB := hR.1
  have hP := PJ_PI hR.2.1
  have h3 : z 1 3 = z 170 14 := hB.2.2.1.1
  have h6 : z 1 6 = z 170 57 := hB.2.2.1.2.2.2.1
  have h610 := RB_n hB
  obtain ⟨m0, m1, m2, m3, m4, m5, m6⟩ := mid_w hm hw
  try rw [m0] at h2
  try rw [m3] at h2
  rcases h1 with ⟨rfl, x, z3, ⟨y1, c1, c2, c3, e1⟩, y0⟩ | ⟨rfl, h0, hc⟩ | ⟨rfl, h0, hc⟩ | ⟨rfl, h0, hc⟩
  · rcases h2 with ⟨s0, d1, d2, d3, e2⟩ | ⟨rfl, d⟩ | ⟨rfl, d⟩ | ⟨rfl, d⟩
    · subst y1
      have tz : ∀ i, i ≠ 1 → i < 9 → recZ z i = pfZ (recZ z) 1 t m q i := fun i hi hj => by
        unfold pfZ
        rw [zup_o hi, zup_o (by omega), zup_o (by omega), zup_o (by omega), zup_o (by omega)]
      have hRw := Rel_w (z2 := z2) hR (fun i hi h24 => by
        have h99 := RB_n hB
        have h98 : recZ z 1 3 = z 170 14 := (RB_rec hR).2.2.1.1
        unfold pfZ
        rw [zup_o (by omega), zup_o (by omega), zup_o (by omega), zup_o (by omega), zup_o (by omega)]) (⟨by rw [← tz 2 (by decide) (by decide)]; exact (recA hR).1, by rw [← tz 5 (by decide) (by decide)]; exact (recA hR).2⟩) (RB_feast (t := t) (m := m) (q := q) (RB_rec hR) (by omega) d2.1 d2.2 d3 (fun _ => rfl)) y0.symm hw (fun i hi => by
        rw [← s0, zup_o hi, zup_o hi, zup_o hi, zup_o hi, zup_o hi]) (by rw [← s0, zup_at, zup_at, zup_at, zup_at, zup_at, recM_o (by decide) (by decide), m0]; rfl)
      have hx9 : x = v := by rw [e1, e2, h3]
      exact finW hw hRw.2.1 hRw.2.2 (by rw [← y0]; exact zup_s _ _ _ _) hx9 hRw.1
    · exfalso
      have hm9 := hm
      clear hm hm9 m0 m1 m2 m3 m4 m5 m6
      omega
    · exfalso
      have hm9 := hm
      clear hm hm9 m0 m1 m2 m3 m4 m5 m6
      omega
    · exfalso
      have hm9 := hm
      clear hm hm9 m0 m1 m2 m3 m4 m5 m6
      omega
  · rcases hc with ⟨q8, hc⟩ | ⟨q8, hc⟩ | ⟨q8, hc⟩
    · rcases h2 with ⟨s0, d1, d2, d3, e2⟩ | ⟨rfl, d⟩ | ⟨rfl, d⟩ | ⟨rfl, d⟩
      · exfalso
        have hm9 := hm
        clear hm hm9 m0 m1 m2 m3 m4 m5 m6
        omega
      · exact finE hR (h0 ▸ Nz.rf z) hw (by decide)
      · exfalso
        have hm9 := hm
        clear hm hm9 m0 m1 m2 m3 m4 m5 m6
        omega
      · exfalso
        have hm9 := hm
        clear hm hm9 m0 m1 m2 m3 m4 m5 m6
        omega
    · exact absurd q8 (by decide +kernel)
    · exact absurd q8 (by decide +kernel)
  · rcases hc with ⟨q8, hc⟩ | ⟨q8, hc⟩ | ⟨q8, hc⟩
    · exact absurd q8 (by decide +kernel)
    · rcases h2 with ⟨s0, d1, d2, d3, e2⟩ | ⟨rfl, d⟩ | ⟨rfl, d⟩ | ⟨rfl, d⟩
      · exfalso
        have hm9 := hm
        clear hm hm9 m0 m1 m2 m3 m4 m5 m6
        omega
      · exfalso
        have hm9 := hm
        clear hm hm9 m0 m1 m2 m3 m4 m5 m6
        omega
      · exact finE hR (h0 ▸ Nz.rf z) hw (by decide)
      · exfalso
        have hm9 := hm
        clear hm hm9 m0 m1 m2 m3 m4 m5 m6
        omega
    · exact absurd q8 (by decide +kernel)
  · rcases hc with ⟨q8, hc⟩ | ⟨q8, hc⟩ | ⟨q8, hc⟩
    · exact absurd q8 (by decide +kernel)
    · exact absurd q8 (by decide +kernel)
    · rcases h2 with ⟨s0, d1, d2, d3, e2⟩ | ⟨rfl, d⟩ | ⟨rfl, d⟩ | ⟨rfl, d⟩
      · exfalso
        have hm9 := hm
        clear hm hm9 m0 m1 m2 m3 m4 m5 m6
        omega
      · exfalso
        have hm9 := hm
        clear hm hm9 m0 m1 m2 m3 m4 m5 m6
        omega
      · exfalso
        have hm9 := hm
        clear hm hm9 m0 m1 m2 m3 m4 m5 m6
        omega
      · exact finE hR (h0 ▸ Nz.rf z) hw (by decide)
theorem mid_barWeekday {z z1 : Zt} {f q : Int} {k : Int} (hR : Rel z) (h1 : (fun v z1 => (v = 0 ∧ ∃ (x : Int) (z2 : Zt), (fun x z1 => zup (recZ z) (9 + f.toNat) 3 q = z1 ∧ (0 ≤ f ∧ f < z 1 3) ∧ (0 ≤ q ∧ q ≤ 6) ∧ x = z (9 + f.toNat) 3) x z2 ∧ zup z2 176 0 (jl x) = z1) ∨ (v = 1 ∧ (fun E z1 => z = z1 ∧ ((E = xIO ∧ ¬ (0 ≤ f ∧ f < z 1 3)) ∨ (E = xIA ∧ (0 ≤ f ∧ f < z 1 3) ∧ ¬ (0 ≤ q ∧ q ≤ 6)))) xIO z1) ∨ (v = 2 ∧ (fun E z1 => z = z1 ∧ ((E = xIO ∧ ¬ (0 ≤ f ∧ f < z 1 3)) ∨ (E = xIA ∧ (0 ≤ f ∧ f < z 1 3) ∧ ¬ (0 ≤ q ∧ q ≤ 6)))) xIA z1)) k z1) : Mid z z1 := by
  have hP := PJ_PI hR.2.1
  rcases h1 with ⟨rfl, x, z3, ⟨y1, hq9⟩, y0⟩ | ⟨rfl, rfl, -⟩ | ⟨rfl, rfl, -⟩
  · intro a9 h1 h2
    rw [← y0, zup_o (by omega)]
    subst y1
    have h8 := RB_n hR.1
    have h7 : z 1 3 = z 170 14 := hR.1.2.2.1.1
    obtain ⟨c1, -⟩ := hq9
    rw [zup_o (by omega)]
    exact recZ_big hP h1
  · exact fun _ _ _ => rfl
  · exact fun _ _ _ => rfl
set_option maxHeartbeats 4000000 in
theorem ok_barWeekday {z z1 w z2 : Zt} {f q : Int} {k v : Int} (hR : Rel z) (hw : w = zup z1 169 5 0) (h1 : (fun v z1 => (v = 0 ∧ ∃ (x : Int) (z2 : Zt), (fun x z1 => zup (recZ z) (9 + f.toNat) 3 q = z1 ∧ (0 ≤ f ∧ f < z 1 3) ∧ (0 ≤ q ∧ q ≤ 6) ∧ x = z (9 + f.toNat) 3) x z2 ∧ zup z2 176 0 (jl x) = z1) ∨ (v = 1 ∧ (fun E z1 => z = z1 ∧ ((E = xIO ∧ ¬ (0 ≤ f ∧ f < z 1 3)) ∨ (E = xIA ∧ (0 ≤ f ∧ f < z 1 3) ∧ ¬ (0 ≤ q ∧ q ≤ 6)))) xIO z1) ∨ (v = 2 ∧ (fun E z1 => z = z1 ∧ ((E = xIO ∧ ¬ (0 ≤ f ∧ f < z 1 3)) ∨ (E = xIA ∧ (0 ≤ f ∧ f < z 1 3) ∧ ¬ (0 ≤ q ∧ q ≤ 6)))) xIA z1)) k z1) (h2 : (fun v z1 => (zup (recM w) 170 (15 + 4 * f + 3).toNat q = z1 ∧ (0 ≤ f ∧ f < w 170 14) ∧ (0 ≤ q ∧ q ≤ 6) ∧ v = mF (w 170) f 3) ∨ (zup w 169 5 1 = z1 ∧ ¬ (0 ≤ f ∧ f < w 170 14)) ∨ (zup w 169 5 2 = z1 ∧ (0 ≤ f ∧ f < w 170 14) ∧ ¬ (0 ≤ q ∧ q ≤ 6))) v z2) : z2 169 5 = k ∧ (k = 0 → z2 176 0 = jl v) ∧ Rel z2 := by
  have hm : Mid z z1 := mid_barWeekday hR h1
  have hB := hR.1
  have hP := PJ_PI hR.2.1
  have h3 : z 1 3 = z 170 14 := hB.2.2.1.1
  have h6 : z 1 6 = z 170 57 := hB.2.2.1.2.2.2.1
  have h610 := RB_n hB
  obtain ⟨m0, m1, m2, m3, m4, m5, m6⟩ := mid_w hm hw
  have fR : (0 ≤ f ∧ f < z 170 14) → z (9 + f.toNat) 3 = mF (z 170) f 3 := fun q9 => by
    have h9 := RB_f hB (f := f) q9 (w := 3) (by decide)
    rw [show 1 + 8 + f.toNat = 9 + f.toNat by omega] at h9
    exact h9
  try rw [m0] at h2
  try rw [m3] at h2
  rcases h1 with ⟨rfl, x, z3, ⟨y1, c1, c2, e1⟩, y0⟩ | ⟨rfl, h0, hc⟩ | ⟨rfl, h0, hc⟩
  · rcases h2 with ⟨s0, d1, d2, e2⟩ | ⟨rfl, d⟩ | ⟨rfl, d⟩
    · subst y1
      have hRw := Rel_w (z2 := z2) hR (fun i hi h24 => by
        have h99 := RB_n hB
        exact zup_o (by omega) _ _) (⟨by rw [zup_o (by omega)]; exact (recA hR).1, by rw [zup_o (by omega)]; exact (recA hR).2⟩) (RB_bar (RB_rec hR) d1 (by omega)) y0.symm hw (fun i hi => by rw [← s0, zup_o hi]) (by rw [← s0, zup_at, recM_o (by decide) (by decide), m0])
      have hx9 : x = v := by rw [e1, e2, fR d1]
      exact finW hw hRw.2.1 hRw.2.2 (by rw [← y0]; exact zup_s _ _ _ _) hx9 hRw.1
    · exfalso
      have hm9 := hm
      clear hm hm9 m0 m1 m2 m3 m4 m5 m6
      omega
    · exfalso
      have hm9 := hm
      clear hm hm9 m0 m1 m2 m3 m4 m5 m6
      omega
  · rcases hc with ⟨q8, hc⟩ | ⟨q8, hc⟩
    · rcases h2 with ⟨s0, d1, d2, e2⟩ | ⟨rfl, d⟩ | ⟨rfl, d⟩
      · exfalso
        have hm9 := hm
        clear hm hm9 m0 m1 m2 m3 m4 m5 m6
        omega
      · exact finE hR (h0 ▸ Nz.rf z) hw (by decide)
      · exfalso
        have hm9 := hm
        clear hm hm9 m0 m1 m2 m3 m4 m5 m6
        omega
    · exact absurd q8 (by decide +kernel)
  · rcases hc with ⟨q8, hc⟩ | ⟨q8, hc⟩
    · exact absurd q8 (by decide +kernel)
    · rcases h2 with ⟨s0, d1, d2, e2⟩ | ⟨rfl, d⟩ | ⟨rfl, d⟩
      · exfalso
        have hm9 := hm
        clear hm hm9 m0 m1 m2 m3 m4 m5 m6
        omega
      · exfalso
        have hm9 := hm
        clear hm hm9 m0 m1 m2 m3 m4 m5 m6
        omega
      · exact finE hR (h0 ▸ Nz.rf z) hw (by decide)
theorem mid_allowAllWeekdays {z z1 : Zt} {f : Int} {k : Int} (hR : Rel z) (h1 : (fun v z1 => (v = 0 ∧ ∃ (x : Int) (z2 : Zt), (fun x z1 => zup (recZ z) (9 + f.toNat) 3 (-1) = z1 ∧ (0 ≤ f ∧ f < z 1 3) ∧ z (9 + f.toNat) 3 ≠ -1 ∧ x = z (9 + f.toNat) 3) x z2 ∧ zup z2 176 0 (jl x) = z1) ∨ (v = 1 ∧ (fun E z1 => z = z1 ∧ ((E = xIO ∧ ¬ (0 ≤ f ∧ f < z 1 3)) ∨ (E = xIS ∧ (0 ≤ f ∧ f < z 1 3) ∧ z (9 + f.toNat) 3 = -1))) xIO z1) ∨ (v = 2 ∧ (fun E z1 => z = z1 ∧ ((E = xIO ∧ ¬ (0 ≤ f ∧ f < z 1 3)) ∨ (E = xIS ∧ (0 ≤ f ∧ f < z 1 3) ∧ z (9 + f.toNat) 3 = -1))) xIS z1)) k z1) : Mid z z1 := by
  have hP := PJ_PI hR.2.1
  rcases h1 with ⟨rfl, x, z3, ⟨y1, hq9⟩, y0⟩ | ⟨rfl, rfl, -⟩ | ⟨rfl, rfl, -⟩
  · intro a9 h1 h2
    rw [← y0, zup_o (by omega)]
    subst y1
    have h8 := RB_n hR.1
    have h7 : z 1 3 = z 170 14 := hR.1.2.2.1.1
    obtain ⟨c1, -⟩ := hq9
    rw [zup_o (by omega)]
    exact recZ_big hP h1
  · exact fun _ _ _ => rfl
  · exact fun _ _ _ => rfl
set_option maxHeartbeats 4000000 in
theorem ok_allowAllWeekdays {z z1 w z2 : Zt} {f : Int} {k v : Int} (hR : Rel z) (hw : w = zup z1 169 5 0) (h1 : (fun v z1 => (v = 0 ∧ ∃ (x : Int) (z2 : Zt), (fun x z1 => zup (recZ z) (9 + f.toNat) 3 (-1) = z1 ∧ (0 ≤ f ∧ f < z 1 3) ∧ z (9 + f.toNat) 3 ≠ -1 ∧ x = z (9 + f.toNat) 3) x z2 ∧ zup z2 176 0 (jl x) = z1) ∨ (v = 1 ∧ (fun E z1 => z = z1 ∧ ((E = xIO ∧ ¬ (0 ≤ f ∧ f < z 1 3)) ∨ (E = xIS ∧ (0 ≤ f ∧ f < z 1 3) ∧ z (9 + f.toNat) 3 = -1))) xIO z1) ∨ (v = 2 ∧ (fun E z1 => z = z1 ∧ ((E = xIO ∧ ¬ (0 ≤ f ∧ f < z 1 3)) ∨ (E = xIS ∧ (0 ≤ f ∧ f < z 1 3) ∧ z (9 + f.toNat) 3 = -1))) xIS z1)) k z1) (h2 : (fun v z1 => (zup (recM w) 170 (15 + 4 * f + 3).toNat (-1) = z1 ∧ (0 ≤ f ∧ f < w 170 14) ∧ mF (w 170) f 3 ≠ -1 ∧ v = mF (w 170) f 3) ∨ (zup w 169 5 1 = z1 ∧ ¬ (0 ≤ f ∧ f < w 170 14)) ∨ (zup w 169 5 2 = z1 ∧ (0 ≤ f ∧ f < w 170 14) ∧ mF (w 170) f 3 = -1)) v z2) : z2 169 5 = k ∧ (k = 0 → z2 176 0 = jl v) ∧ Rel z2 := by
  have hm : Mid z z1 := mid_allowAllWeekdays hR h1
  have hB := hR.1
  have hP := PJ_PI hR.2.1
  have h3 : z 1 3 = z 170 14 := hB.2.2.1.1
  have h6 : z 1 6 = z 170 57 := hB.2.2.1.2.2.2.1
  have h610 := RB_n hB
  obtain ⟨m0, m1, m2, m3, m4, m5, m6⟩ := mid_w hm hw
  have fR : (0 ≤ f ∧ f < z 170 14) → z (9 + f.toNat) 3 = mF (z 170) f 3 := fun q9 => by
    have h9 := RB_f hB (f := f) q9 (w := 3) (by decide)
    rw [show 1 + 8 + f.toNat = 9 + f.toNat by omega] at h9
    exact h9
  try rw [m0] at h2
  try rw [m3] at h2
  rcases h1 with ⟨rfl, x, z3, ⟨y1, c1, c2, e1⟩, y0⟩ | ⟨rfl, h0, hc⟩ | ⟨rfl, h0, hc⟩
  · rcases h2 with ⟨s0, d1, d2, e2⟩ | ⟨rfl, d⟩ | ⟨rfl, d⟩
    · subst y1
      have hRw := Rel_w (z2 := z2) hR (fun i hi h24 => by
        have h99 := RB_n hB
        exact zup_o (by omega) _ _) (⟨by rw [zup_o (by omega)]; exact (recA hR).1, by rw [zup_o (by omega)]; exact (recA hR).2⟩) (RB_bar (RB_rec hR) d1 (by omega)) y0.symm hw (fun i hi => by rw [← s0, zup_o hi]) (by rw [← s0, zup_at, recM_o (by decide) (by decide), m0])
      have hx9 : x = v := by rw [e1, e2, fR d1]
      exact finW hw hRw.2.1 hRw.2.2 (by rw [← y0]; exact zup_s _ _ _ _) hx9 hRw.1
    · exfalso
      have hm9 := hm
      clear hm hm9 m0 m1 m2 m3 m4 m5 m6
      omega
    · exfalso
      have hm9 := hm
      clear hm hm9 m0 m1 m2 m3 m4 m5 m6
      omega
  · rcases hc with ⟨q8, hc⟩ | ⟨q8, hc⟩
    · rcases h2 with ⟨s0, d1, d2, e2⟩ | ⟨rfl, d⟩ | ⟨rfl, d⟩
      · exfalso
        have hm9 := hm
        clear hm hm9 m0 m1 m2 m3 m4 m5 m6
        omega
      · exact finE hR (h0 ▸ Nz.rf z) hw (by decide)
      · exfalso
        have hm9 := hm
        clear hm hm9 m0 m1 m2 m3 m4 m5 m6
        omega
    · exact absurd q8 (by decide +kernel)
  · rcases hc with ⟨q8, hc⟩ | ⟨q8, hc⟩
    · exact absurd q8 (by decide +kernel)
    · rcases h2 with ⟨s0, d1, d2, e2⟩ | ⟨rfl, d⟩ | ⟨rfl, d⟩
      · exfalso
        have hm9 := hm
        clear hm hm9 m0 m1 m2 m3 m4 m5 m6
        omega
      · exfalso
        have hm9 := hm
        clear hm hm9 m0 m1 m2 m3 m4 m5 m6
        omega
      · exact finE hR (h0 ▸ Nz.rf z) hw (by decide)
theorem mid_setShift {z z1 : Zt} {q : Int} {k : Int} (hR : Rel z) (h1 : (fun v z1 => (v = 0 ∧ ∃ (x : Int) (z2 : Zt), (fun x z1 => zup (recZ z) 1 4 q = z1 ∧ (1 ≤ q ∧ q ≤ 9) ∧ x = z 1 4) x z2 ∧ zup z2 176 0 (jl x) = z1) ∨ (v = 1 ∧ (fun E z1 => z = z1 ∧ E = xIA ∧ ¬ (1 ≤ q ∧ q ≤ 9)) xIA z1)) k z1) : Mid z z1 := by
  have hP := PJ_PI hR.2.1
  rcases h1 with ⟨rfl, x, z3, ⟨y1, hq9⟩, y0⟩ | ⟨rfl, rfl, -⟩
  · intro a9 h1 h2
    rw [← y0, zup_o (by omega)]
    subst y1
    rw [zup_o (by omega)]
    exact recZ_big hP h1
  · exact fun _ _ _ => rfl
set_option maxHeartbeats 4000000 in
theorem ok_setShift {z z1 w z2 : Zt} {q : Int} {k v : Int} (hR : Rel z) (hw : w = zup z1 169 5 0) (h1 : (fun v z1 => (v = 0 ∧ ∃ (x : Int) (z2 : Zt), (fun x z1 => zup (recZ z) 1 4 q = z1 ∧ (1 ≤ q ∧ q ≤ 9) ∧ x = z 1 4) x z2 ∧ zup z2 176 0 (jl x) = z1) ∨ (v = 1 ∧ (fun E z1 => z = z1 ∧ E = xIA ∧ ¬ (1 ≤ q ∧ q ≤ 9)) xIA z1)) k z1) (h2 : (fun v z1 => (zup (recM w) 170 55 q = z1 ∧ (1 ≤ q ∧ q ≤ 9) ∧ v = w 170 55) ∨ (zup w 169 5 1 = z1 ∧ ¬ (1 ≤ q ∧ q ≤ 9))) v z2) : z2 169 5 = k ∧ (k = 0 → z2 176 0 = jl v) ∧ Rel z2 := by
  have hm : Mid z z1 := mid_setShift hR h1
  have hB := hR.1
  have hP := PJ_PI hR.2.1
  have h3 : z 1 3 = z 170 14 := hB.2.2.1.1
  have h6 : z 1 6 = z 170 57 := hB.2.2.1.2.2.2.1
  have h610 := RB_n hB
  obtain ⟨m0, m1, m2, m3, m4, m5, m6⟩ := mid_w hm hw
  try rw [m0] at h2
  try rw [m3] at h2
  rcases h1 with ⟨rfl, x, z3, ⟨y1, c1, e1⟩, y0⟩ | ⟨rfl, h0, hc⟩
  · rcases h2 with ⟨s0, d1, e2⟩ | ⟨rfl, d⟩
    · subst y1
      have hRw := Rel_w (z2 := z2) hR (fun i hi h24 => zup_o (by omega) _ _) (⟨by rw [zup_o (by decide)]; exact (recA hR).1, by rw [zup_o (by decide)]; exact (recA hR).2⟩) (RB_4 (RB_rec hR) d1) y0.symm hw (fun i hi => by rw [← s0, zup_o hi]) (by rw [← s0, zup_at, recM_o (by decide) (by decide), m0])
      have hx9 : x = v := by rw [e1, e2]; exact hB.2.2.1.2.1
      exact finW hw hRw.2.1 hRw.2.2 (by rw [← y0]; exact zup_s _ _ _ _) hx9 hRw.1
    · exfalso
      have hm9 := hm
      clear hm hm9 m0 m1 m2 m3 m4 m5 m6
      omega
  · have hc := hc.2
    rcases h2 with ⟨s0, d1, e2⟩ | ⟨rfl, d⟩
    · exfalso
      have hm9 := hm
      clear hm hm9 m0 m1 m2 m3 m4 m5 m6
      omega
    · exact finE hR (h0 ▸ Nz.rf z) hw (by decide)
theorem mid_setCopiesPerDay {z z1 : Zt} {q : Int} {k : Int} (hR : Rel z) (h1 : (fun v z1 => (v = 0 ∧ ∃ (x : Int) (z2 : Zt), (fun x z1 => zup (recZ z) 1 5 q = z1 ∧ (0 ≤ q ∧ q ≤ 9) ∧ x = z 1 5) x z2 ∧ zup z2 176 0 (jl x) = z1) ∨ (v = 1 ∧ (fun E z1 => z = z1 ∧ E = xIA ∧ ¬ (0 ≤ q ∧ q ≤ 9)) xIA z1)) k z1) : Mid z z1 := by
  have hP := PJ_PI hR.2.1
  rcases h1 with ⟨rfl, x, z3, ⟨y1, hq9⟩, y0⟩ | ⟨rfl, rfl, -⟩
  · intro a9 h1 h2
    rw [← y0, zup_o (by omega)]
    subst y1
    rw [zup_o (by omega)]
    exact recZ_big hP h1
  · exact fun _ _ _ => rfl
set_option maxHeartbeats 4000000 in
theorem ok_setCopiesPerDay {z z1 w z2 : Zt} {q : Int} {k v : Int} (hR : Rel z) (hw : w = zup z1 169 5 0) (h1 : (fun v z1 => (v = 0 ∧ ∃ (x : Int) (z2 : Zt), (fun x z1 => zup (recZ z) 1 5 q = z1 ∧ (0 ≤ q ∧ q ≤ 9) ∧ x = z 1 5) x z2 ∧ zup z2 176 0 (jl x) = z1) ∨ (v = 1 ∧ (fun E z1 => z = z1 ∧ E = xIA ∧ ¬ (0 ≤ q ∧ q ≤ 9)) xIA z1)) k z1) (h2 : (fun v z1 => (zup (recM w) 170 56 q = z1 ∧ (0 ≤ q ∧ q ≤ 9) ∧ v = w 170 56) ∨ (zup w 169 5 1 = z1 ∧ ¬ (0 ≤ q ∧ q ≤ 9))) v z2) : z2 169 5 = k ∧ (k = 0 → z2 176 0 = jl v) ∧ Rel z2 := by
  have hm : Mid z z1 := mid_setCopiesPerDay hR h1
  have hB := hR.1
  have hP := PJ_PI hR.2.1
  have h3 : z 1 3 = z 170 14 := hB.2.2.1.1
  have h6 : z 1 6 = z 170 57 := hB.2.2.1.2.2.2.1
  have h610 := RB_n hB
  obtain ⟨m0, m1, m2, m3, m4, m5, m6⟩ := mid_w hm hw
  try rw [m0] at h2
  try rw [m3] at h2
  rcases h1 with ⟨rfl, x, z3, ⟨y1, c1, e1⟩, y0⟩ | ⟨rfl, h0, hc⟩
  · rcases h2 with ⟨s0, d1, e2⟩ | ⟨rfl, d⟩
    · subst y1
      have hRw := Rel_w (z2 := z2) hR (fun i hi h24 => zup_o (by omega) _ _) (⟨by rw [zup_o (by decide)]; exact (recA hR).1, by rw [zup_o (by decide)]; exact (recA hR).2⟩) (RB_5 (RB_rec hR) d1) y0.symm hw (fun i hi => by rw [← s0, zup_o hi]) (by rw [← s0, zup_at, recM_o (by decide) (by decide), m0])
      have hx9 : x = v := by rw [e1, e2]; exact hB.2.2.1.2.2.1
      exact finW hw hRw.2.1 hRw.2.2 (by rw [← y0]; exact zup_s _ _ _ _) hx9 hRw.1
    · exfalso
      have hm9 := hm
      clear hm hm9 m0 m1 m2 m3 m4 m5 m6
      omega
  · have hc := hc.2
    rcases h2 with ⟨s0, d1, e2⟩ | ⟨rfl, d⟩
    · exfalso
      have hm9 := hm
      clear hm hm9 m0 m1 m2 m3 m4 m5 m6
      omega
    · exact finE hR (h0 ▸ Nz.rf z) hw (by decide)
theorem mid_loadState {z z1 : Zt} {i : Int} {k : Int} (hR : Rel z) (h1 : (fun v z1 => (v = 0 ∧ ∃ (x : Int) (z2 : Zt), (fun x z1 => cpB (recZ z) 1 (z 20 i.toNat).toNat = z1 ∧ (0 ≤ i ∧ i < 2) ∧ z 21 i.toNat ≠ 0 ∧ x = cpB (recZ z) 1 (z 20 i.toNat).toNat 1 6) x z2 ∧ zup z2 176 0 (jl x) = z1) ∨ (v = 1 ∧ (fun E z1 => z = z1 ∧ ((E = xIO ∧ ¬ (0 ≤ i ∧ i < 2)) ∨ (E = xIS ∧ (0 ≤ i ∧ i < 2) ∧ z 21 i.toNat = 0))) xIO z1) ∨ (v = 2 ∧ (fun E z1 => z = z1 ∧ ((E = xIO ∧ ¬ (0 ≤ i ∧ i < 2)) ∨ (E = xIS ∧ (0 ≤ i ∧ i < 2) ∧ z 21 i.toNat = 0))) xIS z1)) k z1) : Mid z z1 := by
  have hP := PJ_PI hR.2.1
  rcases h1 with ⟨rfl, x, z3, ⟨y1, hq9⟩, y0⟩ | ⟨rfl, rfl, -⟩ | ⟨rfl, rfl, -⟩
  · intro a9 h1 h2
    rw [← y0, zup_o (by omega)]
    subst y1
    unfold cpB
    rw [if_neg (by omega)]
    exact recZ_big hP h1
  · exact fun _ _ _ => rfl
  · exact fun _ _ _ => rfl
set_option maxHeartbeats 4000000 in
theorem ok_loadState {z z1 w z2 : Zt} {i : Int} {k v : Int} (hR : Rel z) (hw : w = zup z1 169 5 0) (h1 : (fun v z1 => (v = 0 ∧ ∃ (x : Int) (z2 : Zt), (fun x z1 => cpB (recZ z) 1 (z 20 i.toNat).toNat = z1 ∧ (0 ≤ i ∧ i < 2) ∧ z 21 i.toNat ≠ 0 ∧ x = cpB (recZ z) 1 (z 20 i.toNat).toNat 1 6) x z2 ∧ zup z2 176 0 (jl x) = z1) ∨ (v = 1 ∧ (fun E z1 => z = z1 ∧ ((E = xIO ∧ ¬ (0 ≤ i ∧ i < 2)) ∨ (E = xIS ∧ (0 ≤ i ∧ i < 2) ∧ z 21 i.toNat = 0))) xIO z1) ∨ (v = 2 ∧ (fun E z1 => z = z1 ∧ ((E = xIO ∧ ¬ (0 ≤ i ∧ i < 2)) ∨ (E = xIS ∧ (0 ≤ i ∧ i < 2) ∧ z 21 i.toNat = 0))) xIS z1)) k z1) (h2 : (fun v z1 => (zset (recM w) 170 (fcp (w 170) (w 172) 0 (62 * i.toNat) 62) = z1 ∧ (0 ≤ i ∧ i < 2) ∧ w 173 i.toNat ≠ 0 ∧ v = w 172 (62 * i.toNat + 57)) ∨ (zup w 169 5 1 = z1 ∧ ¬ (0 ≤ i ∧ i < 2)) ∨ (zup w 169 5 2 = z1 ∧ (0 ≤ i ∧ i < 2) ∧ w 173 i.toNat = 0)) v z2) : z2 169 5 = k ∧ (k = 0 → z2 176 0 = jl v) ∧ Rel z2 := by
  have hm : Mid z z1 := mid_loadState hR h1
  have hB := hR.1
  have hP := PJ_PI hR.2.1
  have h3 : z 1 3 = z 170 14 := hB.2.2.1.1
  have h6 : z 1 6 = z 170 57 := hB.2.2.1.2.2.2.1
  have h610 := RB_n hB
  obtain ⟨m0, m1, m2, m3, m4, m5, m6⟩ := mid_w hm hw
  have hfl : (0 ≤ i ∧ i < 2) → z 21 i.toNat = z 173 i.toNat ∧ (z 21 i.toNat = 0 ∨ z 21 i.toNat = 1) := fun q9 => hR.2.2.2.2.2.1 i.toNat (by omega)
  try rw [m0] at h2
  try rw [m3] at h2
  rcases h1 with ⟨rfl, x, z3, ⟨y1, c1, c2, e1⟩, y0⟩ | ⟨rfl, h0, hc⟩ | ⟨rfl, h0, hc⟩
  · rcases h2 with ⟨s0, d1, d2, e2⟩ | ⟨rfl, d⟩ | ⟨rfl, d⟩
    · subst y1
      have hfl9 := hfl d1
      have h1721 : z 21 i.toNat = 1 := by
        rcases hfl9.2 with q9 | q9
        · exact absurd q9 c2
        · exact q9
      have hz20 : (z 20 i.toNat).toNat = 133 + 18 * i.toNat := by
        rcases (show i.toNat = 0 ∨ i.toNat = 1 by omega) with q9 | q9 <;> rw [q9]
        · rw [hR.2.2.2.2.1.1]
          rfl
        · rw [hR.2.2.2.2.1.2]
          rfl
      have hyRB : RB (cpB (recZ z) 1 (z 20 i.toNat).toNat) 1 (fcp (z 170) (z 172) 0 (62 * i.toNat) 62) := by
        have h97 := hR.2.2.2.2.2.2.1 i.toNat (by omega) h1721
        refine RB_row (ρ := fun p => z 172 (62 * i.toNat + p)) (fun p hp => ?_) (RB_cp (a := 1) (b := 133 + 18 * i.toNat) (z := recZ z) (fun j hj => ?_) (RB_blk (recZ_slot hR (by omega)) h97))
        · unfold fcp
          rw [if_pos (by omega)]
          exact congrArg (z 172) (by omega)
        · unfold cpB
          rw [if_pos (by omega), hz20]
          exact congrArg (recZ z) (by omega)
      have hRw := Rel_w (z2 := z2) hR (fun i9 hi h24 => by
        unfold cpB
        rw [if_neg (by omega)]) (⟨hyRB.1.2.2.1, hyRB.1.2.2.2.1⟩) (hyRB) y0.symm hw (fun i hi => by rw [← s0, zset_o hi]) (by rw [← s0, zset_at, m2])
      have hx9 : x = v := by rw [e1, e2, m2, hyRB.2.2.1.2.2.2.1]; unfold fcp; rw [if_pos (by omega)]; exact congrArg (z 172) (by omega)
      exact finW hw hRw.2.1 hRw.2.2 (by rw [← y0]; exact zup_s _ _ _ _) hx9 hRw.1
    · exfalso
      have hm9 := hm
      clear hm hm9 m0 m1 m2 m3 m4 m5 m6
      omega
    · exfalso
      have hm9 := hm
      clear hm hm9 m0 m1 m2 m3 m4 m5 m6
      omega
  · rcases hc with ⟨q8, hc⟩ | ⟨q8, hc⟩
    · rcases h2 with ⟨s0, d1, d2, e2⟩ | ⟨rfl, d⟩ | ⟨rfl, d⟩
      · exfalso
        have hm9 := hm
        clear hm hm9 m0 m1 m2 m3 m4 m5 m6
        omega
      · exact finE hR (h0 ▸ Nz.rf z) hw (by decide)
      · exfalso
        have hm9 := hm
        clear hm hm9 m0 m1 m2 m3 m4 m5 m6
        omega
    · exact absurd q8 (by decide +kernel)
  · rcases hc with ⟨q8, hc⟩ | ⟨q8, hc⟩
    · exact absurd q8 (by decide +kernel)
    · rcases h2 with ⟨s0, d1, d2, e2⟩ | ⟨rfl, d⟩ | ⟨rfl, d⟩
      · exfalso
        have hm9 := hm
        clear hm hm9 m0 m1 m2 m3 m4 m5 m6
        omega
      · exfalso
        have hm9 := hm
        clear hm hm9 m0 m1 m2 m3 m4 m5 m6
        omega
      · exact finE hR (h0 ▸ Nz.rf z) hw (by decide)
theorem mid_passDays {z z1 : Zt} {q : Int} {k : Int} (hR : Rel z) (h1 : (fun v z1 => (v = 0 ∧ ∃ (x : Int) (z2 : Zt), (fun x z1 => (∃ z3, ag24 (recZ z) z3 ∧ z1 = zup (psZ (zup z3 1 7 (z 1 7 + qwS z q.toNat)) 1 (sumN (fun i => cntP (fun j => ((j : Int) < z 1 3 ∧ onS z 1 (9 + j) (z 1 6 + i)) ∧ ((j : Int) < z 1 3 ∧ z (9 + j) 0 = 0)) 10) q.toNat) (sumN (fun i => cntP (fun j => ((j : Int) < z 1 3 ∧ onS z 1 (9 + j) (z 1 6 + i)) ∧ ((j : Int) < z 1 3 ∧ z (9 + j) 0 = 1)) 10) q.toNat) (sumN (fun i => ind (∀ j : Nat, ¬ ((j : Int) < z 1 3 ∧ onS z 1 (9 + j) (z 1 6 + i))) * z 1 5) q.toNat)) 1 6 (z 1 6 + q)) ∧ (1 ≤ q ∧ q ≤ 400) ∧ z 1 6 + q ≤ 9999 ∧ x = qwS z q.toNat) x z2 ∧ zup z2 176 0 (jl x) = z1) ∨ (v = 1 ∧ (fun E z1 => z = z1 ∧ ((E = xIA ∧ ¬ (1 ≤ q ∧ q ≤ 400)) ∨ (E = xIS ∧ (1 ≤ q ∧ q ≤ 400) ∧ 9999 < z 1 6 + q))) xIA z1) ∨ (v = 2 ∧ (fun E z1 => z = z1 ∧ ((E = xIA ∧ ¬ (1 ≤ q ∧ q ≤ 400)) ∨ (E = xIS ∧ (1 ≤ q ∧ q ≤ 400) ∧ 9999 < z 1 6 + q))) xIS z1)) k z1) : Mid z z1 := by
  have hP := PJ_PI hR.2.1
  rcases h1 with ⟨rfl, x, z3, ⟨y1, hq9⟩, y0⟩ | ⟨rfl, rfl, -⟩ | ⟨rfl, rfl, -⟩
  · intro a9 h1 h2
    rw [← y0, zup_o (by omega)]
    obtain ⟨z4, hag, y1⟩ := y1
    rw [y1, zup_o (by omega), psZ_o (by omega) (by omega) (by omega), zup_o (by omega), hag a9 (by omega)]
    exact recZ_big hP h1
  · exact fun _ _ _ => rfl
  · exact fun _ _ _ => rfl
set_option maxHeartbeats 4000000 in
theorem ok_passDays {z z1 w z2 : Zt} {q : Int} {k v : Int} (hR : Rel z) (hw : w = zup z1 169 5 0) (h1 : (fun v z1 => (v = 0 ∧ ∃ (x : Int) (z2 : Zt), (fun x z1 => (∃ z3, ag24 (recZ z) z3 ∧ z1 = zup (psZ (zup z3 1 7 (z 1 7 + qwS z q.toNat)) 1 (sumN (fun i => cntP (fun j => ((j : Int) < z 1 3 ∧ onS z 1 (9 + j) (z 1 6 + i)) ∧ ((j : Int) < z 1 3 ∧ z (9 + j) 0 = 0)) 10) q.toNat) (sumN (fun i => cntP (fun j => ((j : Int) < z 1 3 ∧ onS z 1 (9 + j) (z 1 6 + i)) ∧ ((j : Int) < z 1 3 ∧ z (9 + j) 0 = 1)) 10) q.toNat) (sumN (fun i => ind (∀ j : Nat, ¬ ((j : Int) < z 1 3 ∧ onS z 1 (9 + j) (z 1 6 + i))) * z 1 5) q.toNat)) 1 6 (z 1 6 + q)) ∧ (1 ≤ q ∧ q ≤ 400) ∧ z 1 6 + q ≤ 9999 ∧ x = qwS z q.toNat) x z2 ∧ zup z2 176 0 (jl x) = z1) ∨ (v = 1 ∧ (fun E z1 => z = z1 ∧ ((E = xIA ∧ ¬ (1 ≤ q ∧ q ≤ 400)) ∨ (E = xIS ∧ (1 ≤ q ∧ q ≤ 400) ∧ 9999 < z 1 6 + q))) xIA z1) ∨ (v = 2 ∧ (fun E z1 => z = z1 ∧ ((E = xIA ∧ ¬ (1 ≤ q ∧ q ≤ 400)) ∨ (E = xIS ∧ (1 ≤ q ∧ q ≤ 400) ∧ 9999 < z 1 6 + q))) xIS z1)) k z1) (h2 : (fun v z1 => (zset (recM w) 170 (psR (w 170) q.toNat) = z1 ∧ (1 ≤ q ∧ q ≤ 400) ∧ w 170 57 + q ≤ 9999 ∧ v = psR (w 170) q.toNat 60 - w 170 60) ∨ (zup w 169 5 1 = z1 ∧ ¬ (1 ≤ q ∧ q ≤ 400)) ∨ (zup w 169 5 2 = z1 ∧ (1 ≤ q ∧ q ≤ 400) ∧ 9999 < w 170 57 + q)) v z2) : z2 169 5 = k ∧ (k = 0 → z2 176 0 = jl v) ∧ Rel z2 := by
  have hm : Mid z z1 := mid_passDays hR h1
  have hB := hR.1
  have hP := PJ_PI hR.2.1
  have h3 : z 1 3 = z 170 14 := hB.2.2.1.1
  have h6 : z 1 6 = z 170 57 := hB.2.2.1.2.2.2.1
  have h610 := RB_n hB
  obtain ⟨m0, m1, m2, m3, m4, m5, m6⟩ := mid_w hm hw
  try rw [m0] at h2
  try rw [m3] at h2
  rcases h1 with ⟨rfl, x, z3, ⟨⟨z4, hag, y1⟩, c1, c2, e1⟩, y0⟩ | ⟨rfl, h0, hc⟩ | ⟨rfl, h0, hc⟩
  · rcases h2 with ⟨s0, d1, d2, e2⟩ | ⟨rfl, d⟩ | ⟨rfl, d⟩
    · skip
      have bz : ∀ j, j < 18 → recZ z (1 + j) = z (1 + j) := fun j hj => recZ_1 hP hj
      have hbz2 := bz 1 (by decide)
      have hbz5 := bz 4 (by decide)
      have hbz1 := bz 0 (by decide)
      have e92 : ∀ j, z3 2 j = if j = 4 then z 2 4 + sumN (fun i => cntP (fun j => ((j : Int) < z 1 3 ∧ onS z 1 (9 + j) (z 1 6 + i)) ∧ ((j : Int) < z 1 3 ∧ z (9 + j) 0 = 0)) 10) q.toNat else z 2 j := fun j => by
        rw [y1, zup_o (by decide)]
        unfold psZ
        rw [if_pos rfl]
        have h97 : zup z4 1 7 (z 1 7 + qwS z q.toNat) 2 = z 2 := (zup_o (by decide) _ _).trans ((hag 2 (by decide)).trans hbz2)
        rw [h97]
      have e95 : ∀ j, z3 5 j = if j = 4 then z 5 4 + sumN (fun i => cntP (fun j => ((j : Int) < z 1 3 ∧ onS z 1 (9 + j) (z 1 6 + i)) ∧ ((j : Int) < z 1 3 ∧ z (9 + j) 0 = 1)) 10) q.toNat else z 5 j := fun j => by
        rw [y1, zup_o (by decide)]
        unfold psZ
        rw [if_neg (by decide), if_pos rfl]
        have h97 : zup z4 1 7 (z 1 7 + qwS z q.toNat) 5 = z 5 := (zup_o (by decide) _ _).trans ((hag 5 (by decide)).trans hbz5)
        rw [h97]
      have e91 : ∀ j, z3 1 j = if j = 6 then z 1 6 + q else if j = 8 then z 1 8 + sumN (fun i => ind (∀ j : Nat, ¬ ((j : Int) < z 1 3 ∧ onS z 1 (9 + j) (z 1 6 + i))) * z 1 5) q.toNat else if j = 7 then z 1 7 + qwS z q.toNat else z 1 j := fun j => by
        have h41 : z4 1 = z 1 := (hag 1 (by decide)).trans hbz1
        rw [y1, zup_r]
        by_cases j6 : j = 6
        · rw [if_pos j6, if_pos j6]
        · rw [if_neg j6, if_neg j6]
          unfold psZ
          rw [if_neg (by decide), if_neg (by decide), if_pos rfl]
          by_cases j8 : j = 8
          · rw [if_pos j8, if_pos j8, zup_r, if_neg (by decide), h41]
          · rw [if_neg j8, if_neg j8, zup_r, h41]
      have eo9 : ∀ i, i ≠ 1 → i ≠ 2 → i ≠ 5 → z3 i = z4 i := fun i a b c => by
        rw [y1, zup_o a, psZ_o b c a, zup_o a]
      have hag' : ∀ i, i ≠ 24 → z4 i = recZ z i := hag
      have hRw := Rel_w (z2 := z2) hR (fun i9 hi h24 => by
        rw [eo9 i9 (by omega) (by omega) (by omega)]
        exact hag i9 h24) (⟨by rw [e92 0, if_neg (by decide)]; exact hB.1.2.2.1, by rw [e95 0, if_neg (by decide)]; exact hB.1.2.2.2.1⟩) (RB_pass hB (by omega) (by omega) e92 e95 e91 (fun i a b c d e => by rw [eo9 i c d e, hag i (by omega)]; have h97 := bz (i - 1) (by omega); rw [show 1 + (i - 1) = i by omega] at h97; exact h97)) y0.symm hw (fun i hi => by rw [← s0, zset_o hi]) (by rw [← s0, zset_at])
      have hx9 : x = v := by
        have p60 : psR (z 170) q.toNat 60 = z 170 60 + qwM (z 170) q.toNat := by simp [psR]
        rw [e1, e2, p60, RB_qw hB]
        omega
      exact finW hw hRw.2.1 hRw.2.2 (by rw [← y0]; exact zup_s _ _ _ _) hx9 hRw.1
    · exfalso
      have hm9 := hm
      clear hm hm9 m0 m1 m2 m3 m4 m5 m6
      omega
    · exfalso
      have hm9 := hm
      clear hm hm9 m0 m1 m2 m3 m4 m5 m6
      omega
  · rcases hc with ⟨q8, hc⟩ | ⟨q8, hc⟩
    · rcases h2 with ⟨s0, d1, d2, e2⟩ | ⟨rfl, d⟩ | ⟨rfl, d⟩
      · exfalso
        have hm9 := hm
        clear hm hm9 m0 m1 m2 m3 m4 m5 m6
        omega
      · exact finE hR (h0 ▸ Nz.rf z) hw (by decide)
      · exfalso
        have hm9 := hm
        clear hm hm9 m0 m1 m2 m3 m4 m5 m6
        omega
    · exact absurd q8 (by decide +kernel)
  · rcases hc with ⟨q8, hc⟩ | ⟨q8, hc⟩
    · exact absurd q8 (by decide +kernel)
    · rcases h2 with ⟨s0, d1, d2, e2⟩ | ⟨rfl, d⟩ | ⟨rfl, d⟩
      · exfalso
        have hm9 := hm
        clear hm hm9 m0 m1 m2 m3 m4 m5 m6
        omega
      · exfalso
        have hm9 := hm
        clear hm hm9 m0 m1 m2 m3 m4 m5 m6
        omega
      · exact finE hR (h0 ▸ Nz.rf z) hw (by decide)
