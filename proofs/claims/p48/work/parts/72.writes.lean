theorem recZ_big {z : Zt} (h : PI z) {a : Nat} (ha : 169 ≤ a) : recZ z a = z a := by
  have hq := recQ_is h
  have hb : recQ z + 18 ≤ 169 := by
    rcases S_base hq.1 with q | ⟨j, q1, q2⟩ <;> omega
  exact recZ_o (by omega) (by omega) (by omega)
theorem recZ_19 {z : Zt} (h : PI z) : recZ z 19 = rc0 z 19 := by
  have hq := recQ_is h
  unfold recZ
  rw [zup_o (by decide)]
  unfold cpB
  rw [if_neg (by omega)]
theorem recZ_2 (z : Zt) : recZ z 0 2 = rc0 z 0 2 + 1 := by
  unfold recZ
  rw [zup_s]
theorem recZ_PI {z : Zt} (h : PI z) : PI (recZ z) := by
  have h2 := rc0_2 h
  have h9 := rc0_19 h
  refine ⟨?_, ?_, by rw [recZ_2]; omega, by rw [recZ_2]; omega⟩
  · rw [recZ_19 h]
    exact h9.1
  · rw [recZ_19 h]
    exact h9.2
/-! the law's rows put: what they make of the one row -/
theorem rho_uf {z : Zt} {k : Nat} {w : Int} (hk : k < 40) : rho (zup z 170 k w) = updR (rho z) (15 + k) w := by
  funext p
  show rho (zup z 170 k w) p = if p = 15 + k then w else rho z p
  unfold rho
  rw [zup_o (show (169 : Nat) ≠ 170 by decide), zup_o (show (171 : Nat) ≠ 170 by decide)]
  by_cases q1 : p < 14
  · rw [if_pos q1, if_neg (by omega), if_pos q1]
  by_cases q2 : p = 14
  · rw [if_neg q1, if_pos q2, if_neg (by omega), if_neg q1, if_pos q2]
  by_cases q3 : p < 55
  · rw [if_neg q1, if_neg q2, if_pos q3, zup_r]
    by_cases q4 : p = 15 + k
    · rw [if_pos (by omega), if_pos q4]
    · rw [if_neg (by omega), if_neg q4, if_neg q1, if_neg q2, if_pos q3]
  · have q4 : ¬ p = 15 + k := by omega
    rw [if_neg q4, if_neg q1, if_neg q2, if_neg q3, if_neg q1, if_neg q2, if_neg q3]
theorem rho_ug {z : Zt} {k : Nat} {w : Int} (hk : k < 14) : rho (zup z 169 k w) = updR (rho z) k w := by
  funext p
  show rho (zup z 169 k w) p = if p = k then w else rho z p
  unfold rho
  rw [zup_o (show (170 : Nat) ≠ 169 by decide), zup_o (show (171 : Nat) ≠ 169 by decide), zup_r]
  by_cases q1 : p < 14
  · rw [if_pos q1, if_pos q1]
  · rw [if_neg q1, if_neg q1, if_neg (show ¬ p = k by omega)]
theorem rho_un {z : Zt} {k : Nat} {w : Int} (m : Nat) (h : (k = 7 ∧ m = 14) ∨ (k < 7 ∧ ((k = 0 ∧ m = 55) ∨ (k = 1 ∧ m = 56) ∨ (k = 2 ∧ m = 57) ∨ (k = 3 ∧ m = 58) ∨ (k = 4 ∧ m = 59) ∨ (k = 5 ∧ m = 60) ∨ (k = 6 ∧ m = 61)))) : rho (zup z 171 k w) = updR (rho z) m w := by
  funext p
  show rho (zup z 171 k w) p = if p = m then w else rho z p
  unfold rho
  rw [zup_o (show (170 : Nat) ≠ 171 by decide), zup_o (show (169 : Nat) ≠ 171 by decide)]
  simp only [zup_r]
  by_cases q1 : p < 14
  · rw [if_pos q1, if_pos q1, if_neg (by omega)]
  rw [if_neg q1, if_neg q1]
  by_cases q2 : p = 14
  · rw [if_pos q2, if_pos q2]
    by_cases e : p = m
    · rw [if_pos e, if_pos (by omega)]
    · rw [if_neg e, if_neg (by omega)]
  rw [if_neg q2, if_neg q2]
  by_cases q3 : p < 55
  · rw [if_pos q3, if_pos q3, if_neg (by omega)]
  rw [if_neg q3, if_neg q3]
  by_cases q4 : p = 55
  · rw [if_pos q4, if_pos q4]
    by_cases e : p = m
    · rw [if_pos e, if_pos (by omega)]
    · rw [if_neg e, if_neg (by omega)]
  rw [if_neg q4, if_neg q4]
  by_cases q5 : p = 56
  · rw [if_pos q5, if_pos q5]
    by_cases e : p = m
    · rw [if_pos e, if_pos (by omega)]
    · rw [if_neg e, if_neg (by omega)]
  rw [if_neg q5, if_neg q5]
  by_cases q6 : p = 57
  · rw [if_pos q6, if_pos q6]
    by_cases e : p = m
    · rw [if_pos e, if_pos (by omega)]
    · rw [if_neg e, if_neg (by omega)]
  rw [if_neg q6, if_neg q6]
  by_cases q7 : p = 58
  · rw [if_pos q7, if_pos q7]
    by_cases e : p = m
    · rw [if_pos e, if_pos (by omega)]
    · rw [if_neg e, if_neg (by omega)]
  rw [if_neg q7, if_neg q7]
  by_cases q8 : p = 59
  · rw [if_pos q8, if_pos q8]
    by_cases e : p = m
    · rw [if_pos e, if_pos (by omega)]
    · rw [if_neg e, if_neg (by omega)]
  rw [if_neg q8, if_neg q8]
  by_cases q9 : p = 60
  · rw [if_pos q9, if_pos q9]
    by_cases e : p = m
    · rw [if_pos e, if_pos (by omega)]
    · rw [if_neg e, if_neg (by omega)]
  rw [if_neg q9, if_neg q9]
  by_cases q10 : p = 61
  · rw [if_pos q10, if_pos q10]
    by_cases e : p = m
    · rw [if_pos e, if_pos (by omega)]
    · rw [if_neg e, if_neg (by omega)]
  rw [if_neg q10, if_neg q10, if_neg (by omega)]
/-! a world whose law's rows are put already, the class's not yet -/
def agL (z z1 : Zt) : Prop := ∀ a : Nat, a < 169 → z1 a = z a
theorem agL.rf (z : Zt) : agL z z := fun _ _ => rfl
theorem agL.up {z z1 : Zt} {i k : Nat} {x : Int} (h : agL z z1) (hi : 169 ≤ i) : agL z (zup z1 i k x) := fun a ha => (zup_o (by omega) k x).trans (h a ha)
theorem agL.RB {z z1 : Zt} {ρ : Nat → Int} (h : agL z z1) (hB : RB z 1 ρ) : RB z1 1 ρ := RB_blk (fun j hj => h _ (by omega)) hB
theorem agL.PI {z z1 : Zt} (h : agL z z1) (hP : PI z) : PI z1 := PI_o (by rw [h 0 (by decide)]) (h 19 (by decide)) hP
theorem agL.AI {z z1 : Zt} (h : agL z z1) (hA : AI z) : AI z1 := AI_o (fun q hq => by
  have h1 := S_ne (j := 1) hq (by decide)
  have h4 := S_ne (j := 4) hq (by decide)
  rw [h _ h1.2.2, h _ h4.2.2]
  exact ⟨rfl, rfl⟩) hA
theorem Rel_fin {x y : Zt} (hP : PI x) (hA : AI x) (h : ∀ a, (a = 0 ∨ 19 ≤ a) → a ≠ 24 → a < 169 → y a = x a) (hB : RB y 1 (rho y)) (hb : RBd (rho y)) : Rel y := by
  refine ⟨hB, PI_o (by rw [h 0 (by omega) (by decide) (by decide)]) (h 19 (by omega) (by decide) (by decide)) hP, fun q hq => ?_, hb⟩
  by_cases e : q = 1
  · subst e
    exact ⟨hB.1.2.2.1, hB.1.2.2.2.1⟩
  · have h1 := S_ne (j := 1) hq (by decide)
    have h4 := S_ne (j := 4) hq (by decide)
    have hq25 : 25 ≤ q := by rcases S_base hq with e2 | ⟨j, -, e2⟩ <;> omega
    rw [h _ (by omega) h1.1 h1.2.2, h _ (by omega) h4.1 h4.2.2]
    exact hA q hq
/-- what stands ahead of a writer of the class: w, its recording; ρ the row as it was -/
theorem Rel_put {w y : Zt} {ρ : Nat → Int} (hP : PI w) (hA : AI w) (h : ∀ a, (a < 1 ∨ 19 ≤ a) → y a = recZ w a) (hσ : RB y 1 (rho w)) (hb : RBd ρ) (h57 : ∀ p, 57 ≤ p → rho w p = ρ p) : Rel y ∧ rho y = rho w := by
  have er : rho y = rho w := rho_c (by rw [h 169 (by omega), recZ_big hP (by decide)]) (by rw [h 170 (by omega), recZ_big hP (by decide)]) (by rw [h 171 (by omega), recZ_big hP (by decide)])
  refine ⟨Rel_fin (recZ_PI hP) (recZ_AI hP hA) (fun a h1 _ _ => h a (by omega)) (by rw [er]; exact hσ) ?_, er⟩
  rw [er]
  unfold RBd
  rw [h57 57 (by decide), h57 58 (by decide), h57 59 (by decide), h57 60 (by decide), h57 61 (by decide)]
  exact hb
theorem RB_rz {w : Zt} {ρ : Nat → Int} (hP : PI w) (hB : RB w 1 ρ) : RB (recZ w) 1 ρ := RB_blk (recZ_blk hP) hB
/-! each writer -/
def lfZ (z : Zt) (t m q : Int) : Zt := zup (zup (zup (zup (zup z 170 (4 * rho z 14).toNat t) 170 (4 * rho z 14 + 1).toNat m) 170 (4 * rho z 14 + 2).toNat q) 170 (4 * rho z 14 + 3).toNat (-1)) 171 7 (rho z 14 + 1)
theorem lfZ_ag (z : Zt) (t m q : Int) : agL z (lfZ z t m q) := ((((agL.rf z).up (by decide)).up (by decide)).up (by decide)).up (by decide) |>.up (by decide)
theorem lfZ_rho {z : Zt} {t m q : Int} (h : 0 ≤ rho z 14 ∧ rho z 14 < 10) : rho (lfZ z t m q) = updR (updR (updR (updR (updR (rho z) (15 + 4 * rho z 14).toNat t) (15 + 4 * rho z 14 + 1).toNat m) (15 + 4 * rho z 14 + 2).toNat q) (15 + 4 * rho z 14 + 3).toNat (-1)) 14 (rho z 14 + 1) := by
  unfold lfZ
  rw [rho_un 14 (Or.inl ⟨rfl, rfl⟩), rho_uf (by omega), rho_uf (by omega), rho_uf (by omega), rho_uf (by omega)]
  rw [show 15 + (4 * rho z 14 + 3).toNat = (15 + 4 * rho z 14 + 3).toNat by omega, show 15 + (4 * rho z 14 + 2).toNat = (15 + 4 * rho z 14 + 2).toNat by omega, show 15 + (4 * rho z 14 + 1).toNat = (15 + 4 * rho z 14 + 1).toNat by omega, show 15 + (4 * rho z 14).toNat = (15 + 4 * rho z 14).toNat by omega]
theorem lfZ_1 {z : Zt} {t m q : Int} (h : 0 ≤ rho z 14 ∧ rho z 14 < 10) : lfZ z t m q 170 (4 * rho z 14 + 1).toNat = m := by
  unfold lfZ
  rw [zup_o (by decide), zup_r, if_neg (by omega), zup_r, if_neg (by omega), zup_s]
theorem lfZ_2 {z : Zt} {t m q : Int} (h : 0 ≤ rho z 14 ∧ rho z 14 < 10) : lfZ z t m q 170 (4 * rho z 14 + 2).toNat = q := by
  unfold lfZ
  rw [zup_o (by decide), zup_r, if_neg (by omega), zup_s]
theorem Rel_feast {z : Zt} {t m q : Int} (hR : Rel z) (ht : t = 0 ∨ t = 1) (hm : 1 ≤ m ∧ m ≤ 12) (hq : 1 ≤ q ∧ q ≤ 31) (hn : rho z 14 < 10) : (Rel (pfZ (recZ (lfZ z t m q)) 1 t m q) ∧ 1 ≤ rho (pfZ (recZ (lfZ z t m q)) 1 t m q) 14) ∧ pfZ (recZ (lfZ z t m q)) 1 t m q 171 7 = rho z 14 + 1 := by
  obtain ⟨hB, hP, hA, hb⟩ := hR
  have hag := lfZ_ag z t m q
  have h14 := RB_n hB
  have hP1 := hag.PI hP
  have hA1 := hag.AI hA
  have hB1 := RB_rz hP1 (hag.RB hB)
  have hσ := lfZ_rho (t := t) (m := m) (q := q) ⟨h14.1, hn⟩
  have hn3 : recZ (lfZ z t m q) 1 3 = rho z 14 := hB1.2.2.1.1
  have ho : ∀ a, (a < 1 ∨ 19 ≤ a) → pfZ (recZ (lfZ z t m q)) 1 t m q a = recZ (lfZ z t m q) a := fun a ha => by
    unfold pfZ
    rw [hn3, zup_o (by omega), zup_o (by omega), zup_o (by omega), zup_o (by omega), zup_o (by omega)]
  have hput := Rel_put (ρ := rho z) hP1 hA1 ho (RB_feast hB1 ht hm hq hn (fun p => by rw [hσ]; rfl)) hb (fun p hp => by
    rw [hσ]
    unfold updR
    rw [if_neg (by omega), if_neg (by omega), if_neg (by omega), if_neg (by omega), if_neg (by omega)])
  refine ⟨⟨hput.1, ?_⟩, ?_⟩
  · rw [hput.2, hσ]
    show 1 ≤ rho z 14 + 1
    omega
  · rw [ho 171 (by omega), recZ_big hP1 (by decide)]
    unfold lfZ
    rw [zup_s]
def lgZ (z : Zt) (t a q : Int) : Zt := zup (zup (zup z 169 (7 * t + 1 + 2 * mN (rho z) t).toNat a) 169 (7 * t + 2 + 2 * mN (rho z) t).toNat q) 169 (7 * t).toNat (mN (rho z) t + 1)
theorem lgZ_ag (z : Zt) (t a q : Int) : agL z (lgZ z t a q) := (((agL.rf z).up (by decide)).up (by decide)).up (by decide)
theorem lgZ_rho {z : Zt} {t a q : Int} (ht : t = 0 ∨ t = 1) (h : 0 ≤ mN (rho z) t ∧ mN (rho z) t < 3) : rho (lgZ z t a q) = updR (updR (updR (rho z) (0 + 7 * t + 1 + 2 * mN (rho z) t).toNat a) (0 + 7 * t + 2 + 2 * mN (rho z) t).toNat q) (0 + 7 * t).toNat (mN (rho z) t + 1) := by
  unfold lgZ
  rw [rho_ug (by omega), rho_ug (by omega), rho_ug (by omega), Int.zero_add]
theorem lgZ_q {z : Zt} {t a q : Int} (ht : t = 0 ∨ t = 1) (h : 0 ≤ mN (rho z) t ∧ mN (rho z) t < 3) : lgZ z t a q 169 (7 * t + 2 + 2 * mN (rho z) t).toNat = q := by
  unfold lgZ
  rw [zup_r, if_neg (by omega), zup_s]
theorem Rel_gap {z : Zt} {t a q : Int} (hR : Rel z) (ht : t = 0 ∨ t = 1) (ha : 0 ≤ a ∧ a ≤ 9999) (hq : 1 ≤ q ∧ q ≤ 40) (hn : mN (rho z) t < 3) (hl : mN (rho z) t = 0 ∨ mD (rho z) t (mN (rho z) t - 1).toNat < a) : Rel (lvZ (recZ (lgZ z t a q)) (tid t) a q) ∧ rho (lvZ (recZ (lgZ z t a q)) (tid t) a q) 14 = rho z 14 := by
  obtain ⟨hB, hP, hA, hb⟩ := hR
  have hag := lgZ_ag z t a q
  have hP1 := hag.PI hP
  have hA1 := hag.AI hA
  have hB1 := RB_rz hP1 (hag.RB hB)
  have hn0 := (RB_MG hB t ht).1
  have hσ := lgZ_rho (a := a) (q := q) ht ⟨hn0, hn⟩
  have hto := tid_or t
  have ho : ∀ i, (i < 1 ∨ 19 ≤ i) → lvZ (recZ (lgZ z t a q)) (tid t) a q i = recZ (lgZ z t a q) i := fun i hi => by
    unfold lvZ
    rw [zup_o (by omega), zup_o (by omega), zup_o (by omega)]
  have e9 : ∀ p, 14 ≤ p → rho (lgZ z t a q) p = rho z p := fun p hp => by
    rw [hσ]
    unfold updR
    rw [if_neg (by omega), if_neg (by omega), if_neg (by omega)]
  have hput := Rel_put (ρ := rho z) hP1 hA1 ho (RB_gap hB1 ht ha hq hn hl (fun p => by rw [hσ]; rfl)) hb (fun p hp => e9 p (by omega))
  exact ⟨hput.1, by rw [hput.2]; exact e9 14 (Nat.le_refl _)⟩
theorem Rel_bar {z : Zt} {f b : Int} (hR : Rel z) (hf : 0 ≤ f ∧ f < rho z 14) (hbb : -1 ≤ b ∧ b ≤ 6) : Rel (zup (zup (recZ z) (9 + f.toNat) 3 b) 170 (4 * f + 3).toNat b) ∧ rho (zup (zup (recZ z) (9 + f.toNat) 3 b) 170 (4 * f + 3).toNat b) 14 = rho z 14 := by
  obtain ⟨hB, hP, hA, hb⟩ := hR
  have h14 := RB_n hB
  have hB1 := RB_bar (RB_rz hP hB) hf hbb
  have er : rho (zup (zup (recZ z) (9 + f.toNat) 3 b) 170 (4 * f + 3).toNat b) = updR (rho z) (15 + 4 * f + 3).toNat b := by
    rw [rho_upd (by omega)]
    refine congrArg (fun ρ => updR ρ (15 + 4 * f + 3).toNat b) (rho_c ?_ ?_ ?_)
    · rw [zup_o (by omega), recZ_big hP (by decide)]
    · rw [zup_o (by omega), recZ_big hP (by decide)]
    · rw [zup_o (by omega), recZ_big hP (by decide)]
  refine ⟨Rel_fin (recZ_PI hP) (recZ_AI hP hA) (fun a h1 _ h3 => by rw [zup_o (by omega), zup_o (by omega)]) ?_ ?_, by rw [er]; unfold updR; rw [if_neg (by omega)]⟩
  · rw [er]
    exact ((agL.rf _).up (by decide)).RB hB1
  · rw [er]
    unfold RBd updR
    rw [if_neg (by omega), if_neg (by omega), if_neg (by omega), if_neg (by omega), if_neg (by omega)]
    exact hb
theorem Rel_shift {z : Zt} {q : Int} (hR : Rel z) (hq : 1 ≤ q ∧ q ≤ 9) : Rel (zup (recZ (zup z 171 0 q)) 1 4 q) ∧ rho (zup (recZ (zup z 171 0 q)) 1 4 q) 14 = rho z 14 := by
  obtain ⟨hB, hP, hA, hb⟩ := hR
  have hag : agL z (zup z 171 0 q) := (agL.rf z).up (by decide)
  have hσ : rho (zup z 171 0 q) = updR (rho z) 55 q := rho_un 55 (Or.inr ⟨by decide, Or.inl ⟨rfl, rfl⟩⟩)
  have hput := Rel_put (y := zup (recZ (zup z 171 0 q)) 1 4 q) (ρ := rho z) (hag.PI hP) (hag.AI hA) (fun a ha => zup_o (by omega) _ _) (by rw [hσ]; exact RB_4 (RB_rz (hag.PI hP) (hag.RB hB)) hq) hb (fun p hp => by
    rw [hσ]
    unfold updR
    rw [if_neg (by omega)])
  refine ⟨hput.1, ?_⟩
  rw [hput.2, hσ]
  unfold updR
  rw [if_neg (by decide)]
theorem Rel_same {z : Zt} (hR : Rel z) : Rel (zup (recZ z) 1 4 (rho z 55)) ∧ rho (zup (recZ z) 1 4 (rho z 55)) 14 = rho z 14 := by
  obtain ⟨hB, hP, hA, hb⟩ := hR
  have h := RB_MI hB
  have hσ : updR (rho z) 55 (rho z 55) = rho z := by
    funext p
    unfold updR
    by_cases e : p = 55
    · rw [if_pos e, e]
    · rw [if_neg e]
  have h9 := RB_4 (RB_rz hP hB) h.2.2.2.1
  rw [hσ] at h9
  have hput := Rel_put (y := zup (recZ z) 1 4 (rho z 55)) (ρ := rho z) hP hA (fun a ha => zup_o (by omega) _ _) h9 hb (fun p hp => rfl)
  exact ⟨hput.1, by rw [hput.2]⟩
theorem Rel_copies {z : Zt} {q : Int} (hR : Rel z) (hq : 0 ≤ q ∧ q ≤ 9) : Rel (zup (recZ (zup z 171 1 q)) 1 5 q) ∧ rho (zup (recZ (zup z 171 1 q)) 1 5 q) 14 = rho z 14 := by
  obtain ⟨hB, hP, hA, hb⟩ := hR
  have hag : agL z (zup z 171 1 q) := (agL.rf z).up (by decide)
  have hσ : rho (zup z 171 1 q) = updR (rho z) 56 q := rho_un 56 (Or.inr ⟨by decide, Or.inr (Or.inl ⟨rfl, rfl⟩)⟩)
  have hput := Rel_put (y := zup (recZ (zup z 171 1 q)) 1 5 q) (ρ := rho z) (hag.PI hP) (hag.AI hA) (fun a ha => zup_o (by omega) _ _) (by rw [hσ]; exact RB_5 (RB_rz (hag.PI hP) (hag.RB hB)) hq) hb (fun p hp => by
    rw [hσ]
    unfold updR
    rw [if_neg (by omega)])
  refine ⟨hput.1, ?_⟩
  rw [hput.2, hσ]
  unfold updR
  rw [if_neg (by decide)]
/-! days that pass, as the law counts them -/
noncomputable def pdZ (z : Zt) (k : Nat) : Zt := zset z 171 (fun p => if p = 2 then psR (rho z) k 57 else if p = 3 then psR (rho z) k 58 else if p = 4 then psR (rho z) k 59 else if p = 5 then psR (rho z) k 60 else if p = 6 then psR (rho z) k 61 else z 171 p)
theorem pdZ_ag (z : Zt) (k : Nat) : agL z (pdZ z k) := fun a ha => zset_o (by omega)
theorem pdZ_171 (z : Zt) (k p : Nat) : pdZ z k 171 p = if p = 2 then psR (rho z) k 57 else if p = 3 then psR (rho z) k 58 else if p = 4 then psR (rho z) k 59 else if p = 5 then psR (rho z) k 60 else if p = 6 then psR (rho z) k 61 else z 171 p := by
  unfold pdZ
  rw [zset_at]
theorem pdZ_rho (z : Zt) (k : Nat) : rho (pdZ z k) = psR (rho z) k := by
  have a1 : pdZ z k 169 = z 169 := zset_o (by decide)
  have a2 : pdZ z k 170 = z 170 := zset_o (by decide)
  have hag := psR_ag (rho z) k
  funext p
  by_cases q : p < 57
  · rw [hag p q]
    unfold rho
    rw [a1, a2, pdZ_171, pdZ_171, pdZ_171]
    by_cases q1 : p < 14
    · rw [if_pos q1, if_pos q1]
    by_cases q2 : p = 14
    · rw [if_neg q1, if_pos q2, if_neg q1, if_pos q2, if_neg (by decide), if_neg (by decide), if_neg (by decide), if_neg (by decide), if_neg (by decide)]
    by_cases q3 : p < 55
    · rw [if_neg q1, if_neg q2, if_pos q3, if_neg q1, if_neg q2, if_pos q3]
    by_cases q4 : p = 55
    · rw [if_neg q1, if_neg q2, if_neg q3, if_pos q4, if_neg q1, if_neg q2, if_neg q3, if_pos q4, if_neg (by decide), if_neg (by decide), if_neg (by decide), if_neg (by decide), if_neg (by decide)]
    · have q5 : p = 56 := by omega
      rw [if_neg q1, if_neg q2, if_neg q3, if_neg q4, if_pos q5, if_neg q1, if_neg q2, if_neg q3, if_neg q4, if_pos q5, if_neg (by decide), if_neg (by decide), if_neg (by decide), if_neg (by decide), if_neg (by decide)]
  · by_cases q5 : p = 57
    · subst q5
      exact (rho_57 _).symm.trans (pdZ_171 z k 2)
    by_cases q6 : p = 58
    · subst q6
      exact (rho_58 _).symm.trans (pdZ_171 z k 3)
    by_cases q7 : p = 59
    · subst q7
      exact (rho_59 _).symm.trans (pdZ_171 z k 4)
    by_cases q8 : p = 60
    · subst q8
      exact (rho_60 _).symm.trans (pdZ_171 z k 5)
    by_cases q9 : p = 61
    · subst q9
      exact (rho_61 _).symm.trans (pdZ_171 z k 6)
    · unfold psR
      rw [if_neg q6, if_neg q7, if_neg q8, if_neg q9, if_neg q5]
      unfold rho
      rw [if_neg (by omega), if_neg (by omega), if_neg (by omega), if_neg (by omega), if_neg (by omega), if_neg (by omega), if_neg (by omega), if_neg (by omega), if_neg (by omega), if_neg (by omega), if_neg (by omega), if_neg (by omega), if_neg (by omega), if_neg (by omega), if_neg (by omega), if_neg (by omega), if_neg (by omega), if_neg (by omega), if_neg (by omega), if_neg (by omega)]
theorem pdZ_0 (z : Zt) : pdZ z 0 = z := by
  have e : (fun p => if p = 2 then psR (rho z) 0 57 else if p = 3 then psR (rho z) 0 58 else if p = 4 then psR (rho z) 0 59 else if p = 5 then psR (rho z) 0 60 else if p = 6 then psR (rho z) 0 61 else z 171 p) = z 171 := by
    funext p
    rw [psR_0]
    by_cases q2 : p = 2
    · rw [if_pos q2, q2]
      exact (rho_57 z).symm
    by_cases q3 : p = 3
    · rw [if_neg q2, if_pos q3, q3]
      exact (rho_58 z).symm
    by_cases q4 : p = 4
    · rw [if_neg q2, if_neg q3, if_pos q4, q4]
      exact (rho_59 z).symm
    by_cases q5 : p = 5
    · rw [if_neg q2, if_neg q3, if_neg q4, if_pos q5, q5]
      exact (rho_60 z).symm
    by_cases q6 : p = 6
    · rw [if_neg q2, if_neg q3, if_neg q4, if_neg q5, if_pos q6, q6]
      exact (rho_61 z).symm
    · rw [if_neg q2, if_neg q3, if_neg q4, if_neg q5, if_neg q6]
  unfold pdZ
  rw [e]
  exact zset_same z 171
/-- feasts of a town on the day behind k days -/
noncomputable def cntA (z : Zt) (k : Nat) (t : Int) : Int := cntP (fun j : Nat => ((j : Int) < rho z 14 ∧ onM (rho z) j (rho z 57 + k)) ∧ mF (rho z) j 0 = t) (rho z 14).toNat
def d5Z (w : Zt) (a b c e g : Int) : Zt := zup (zup (zup (zup (zup w 171 3 a) 171 4 b) 171 5 c) 171 6 e) 171 2 g
theorem pdZ_s {z : Zt} {k : Nat} {v c e : Int} (hs : isSet (fun j : Nat => (j : Int) < rho z 14 ∧ onM (rho z) j (rho z 57 + k)) v) (hc : c = (if 0 < cntA z k 0 ∧ 0 < cntA z k 1 then 1 else 0)) (he : e = (if v = 0 then rho z 56 else 0)) : d5Z (pdZ z k) (psR (rho z) k 58 + cntA z k 0) (psR (rho z) k 59 + cntA z k 1) (psR (rho z) k 60 + c) (psR (rho z) k 61 + e) (psR (rho z) k 57 + 1) = pdZ z (k + 1) := by
  have h := psR_step hs (a := cntA z k 0) (b := cntA z k 1) rfl rfl
  rw [← hc, ← he] at h
  unfold d5Z pdZ
  rw [zup_zset, zup_zset, zup_zset, zup_zset, zup_zset, h]
  congr 1
  funext p
  unfold st5
  by_cases q2 : p = 2
  · subst q2; simp
  by_cases q3 : p = 3
  · subst q3; simp
  by_cases q4 : p = 4
  · subst q4; simp
  by_cases q5 : p = 5
  · subst q5; simp
  by_cases q6 : p = 6
  · subst q6; simp
  simp [q2, q3, q4, q5, q6]
/-- worlds in which the law's counts have been put, its feasts and gaps not -/
def SMe (z u : Zt) : Prop := u 169 = z 169 ∧ u 170 = z 170 ∧ u 171 7 = z 171 7 ∧ u 171 0 = z 171 0 ∧ u 171 1 = z 171 1
theorem SMe.ag {z u : Zt} (h : SMe z u) : agR (rho z) (rho u) := fun p hp => by
  obtain ⟨h1, h2, h3, h4, h5⟩ := h
  unfold rho
  rw [h1, h2, h3, h4, h5]
  by_cases q1 : p < 14
  · rw [if_pos q1, if_pos q1]
  by_cases q2 : p = 14
  · rw [if_neg q1, if_pos q2, if_neg q1, if_pos q2]
  by_cases q3 : p < 55
  · rw [if_neg q1, if_neg q2, if_pos q3, if_neg q1, if_neg q2, if_pos q3]
  by_cases q4 : p = 55
  · rw [if_neg q1, if_neg q2, if_neg q3, if_pos q4, if_neg q1, if_neg q2, if_neg q3, if_pos q4]
  · have q5 : p = 56 := by omega
    rw [if_neg q1, if_neg q2, if_neg q3, if_neg q4, if_pos q5, if_neg q1, if_neg q2, if_neg q3, if_neg q4, if_pos q5]
theorem SMe.pd (z : Zt) (k : Nat) : SMe z (pdZ z k) := by
  refine ⟨zset_o (by decide), zset_o (by decide), ?_, ?_, ?_⟩
  · rw [pdZ_171]; simp
  · rw [pdZ_171]; simp
  · rw [pdZ_171]; simp
theorem SMe.up {z u : Zt} {k : Nat} {x : Int} (h : SMe z u) (hk : k ≠ 7 ∧ k ≠ 0 ∧ k ≠ 1) : SMe z (zup u 171 k x) := by
  obtain ⟨h1, h2, h3, h4, h5⟩ := h
  refine ⟨(zup_o (by decide) _ _).trans h1, (zup_o (by decide) _ _).trans h2, ?_, ?_, ?_⟩
  · rw [zup_r, if_neg (by omega), h3]
  · rw [zup_r, if_neg (by omega), h4]
  · rw [zup_r, if_neg (by omega), h5]
theorem SMe.MI {z u : Zt} (h : SMe z u) (hM : MI (rho z)) (h57 : 0 ≤ u 171 2 ∧ u 171 2 ≤ 9999) : MI (rho u) := agR_MI h.ag hM (by rw [← rho_57]; exact h57)
theorem cnt10 {z u : Zt} {k : Nat} {t : Int} (h : SMe z u) (hM : MI (rho z)) : cntP (fun j : Nat => ((j : Int) < rho z 14 ∧ onM (rho z) j (rho z 57 + k)) ∧ mF (rho u) j 0 = t) 10 = cntA z k t := by
  have h14 := hM.2.1
  have e1 : cntP (fun j : Nat => ((j : Int) < rho z 14 ∧ onM (rho z) j (rho z 57 + k)) ∧ mF (rho u) j 0 = t) 10 = cntP (fun j : Nat => ((j : Int) < rho z 14 ∧ onM (rho z) j (rho z 57 + k)) ∧ mF (rho z) j 0 = t) 10 := cntP_congr (fun j hj => by rw [agR_mF h.ag (f := (j : Int)) (w := 0) (by omega) (by decide)])
  rw [e1]
  have e2 := cntP_cut (P := fun j : Nat => ((j : Int) < rho z 14 ∧ onM (rho z) j (rho z 57 + k)) ∧ mF (rho z) j 0 = t) (n := (rho z 14).toNat) (m := 10 - (rho z 14).toNat) (fun j hj q => by have := q.1.1; omega)
  rw [show (rho z 14).toNat + (10 - (rho z 14).toNat) = 10 by omega] at e2
  exact e2
theorem set_pd {z u : Zt} {k : Nat} {v : Int} (h : SMe z u) (hM : MI (rho z)) (hs : isSet (fun j : Nat => (j : Int) < rho u 14 ∧ onM (rho u) j (rho z 57 + k)) v) : isSet (fun j : Nat => (j : Int) < rho z 14 ∧ onM (rho z) j (rho z 57 + k)) v := by
  have e14 : rho u 14 = rho z 14 := h.ag 14 (by decide)
  refine isSet_congr hs (fun j => ?_)
  rw [e14]
  by_cases q : (j : Int) < rho z 14
  · have h10 := hM.2.1
    have h9 := agR_on h.ag hM.1 (f := (j : Int)) (by omega) (hM.2.2.1 _ (by omega) q) (rho z 57 + k)
    rw [h9]
  · simp [q]
theorem sumN_bd {f : Nat → Int} {B : Int} (h : ∀ i, 0 ≤ f i ∧ f i ≤ B) : ∀ n : Nat, 0 ≤ sumN f n ∧ sumN f n ≤ B * n
  | 0 => by simp [sumN]
  | n + 1 => by
    have h1 := sumN_bd h n
    have h2 := h n
    simp only [sumN]
    have e : B * ((n + 1 : Nat) : Int) = B * (n : Int) + B := by
      rw [Int.natCast_add, Int.mul_add]
      simp
    omega
theorem psR_bd {ρ : Nat → Int} (hM : MI ρ) (hb : RBd ρ) (k : Nat) : RBd (psR ρ k) := by
  have h14 := hM.2.1
  have h56 := hM.2.2.2.2.1
  have s1 := sumN_bd (f := fun i => cntP (fun j => ((j : Int) < ρ 14 ∧ onM ρ j (ρ 57 + i)) ∧ mF ρ j 0 = 0) (ρ 14).toNat) (B := 10) (fun i => by
    have := cntP_bd (fun j : Nat => ((j : Int) < ρ 14 ∧ onM ρ j (ρ 57 + i)) ∧ mF ρ j 0 = 0) (ρ 14).toNat
    omega) k
  have s2 := sumN_bd (f := fun i => cntP (fun j => ((j : Int) < ρ 14 ∧ onM ρ j (ρ 57 + i)) ∧ mF ρ j 0 = 1) (ρ 14).toNat) (B := 10) (fun i => by
    have := cntP_bd (fun j : Nat => ((j : Int) < ρ 14 ∧ onM ρ j (ρ 57 + i)) ∧ mF ρ j 0 = 1) (ρ 14).toNat
    omega) k
  have s3 := cntP_bd (fun i : Nat => quM ρ (ρ 57 + i)) k
  have s4 := sumN_bd (f := fun i => ind (∀ j : Nat, ¬ ((j : Int) < ρ 14 ∧ onM ρ j (ρ 57 + i))) * ρ 56) (B := 9) (fun i => by
    have h1 := ind_v (rfl : ind (∀ j : Nat, ¬ ((j : Int) < ρ 14 ∧ onM ρ j (ρ 57 + i))) = ind (∀ j : Nat, ¬ ((j : Int) < ρ 14 ∧ onM ρ j (ρ 57 + i))))
    rcases h1.1 with e | e
    · rw [e, Int.zero_mul]; omega
    · rw [e, Int.one_mul]; omega) k
  obtain ⟨b1, b2, b3, b4⟩ := hb
  have e57 : psR ρ k 57 = ρ 57 + k := psR_57 ρ k
  have e58 : psR ρ k 58 = ρ 58 + sumN (fun i => cntP (fun j => ((j : Int) < ρ 14 ∧ onM ρ j (ρ 57 + i)) ∧ mF ρ j 0 = 0) (ρ 14).toNat) k := by simp [psR]
  have e59 : psR ρ k 59 = ρ 59 + sumN (fun i => cntP (fun j => ((j : Int) < ρ 14 ∧ onM ρ j (ρ 57 + i)) ∧ mF ρ j 0 = 1) (ρ 14).toNat) k := by simp [psR]
  have e60 : psR ρ k 60 = ρ 60 + cntP (fun i : Nat => quM ρ (ρ 57 + i)) k := by simp [psR, qwM]
  have e61 : psR ρ k 61 = ρ 61 + sumN (fun i => ind (∀ j : Nat, ¬ ((j : Int) < ρ 14 ∧ onM ρ j (ρ 57 + i))) * ρ 56) k := by simp [psR]
  unfold RBd
  rw [e57, e58, e59, e60, e61]
  omega
/-- the class's passing days, behind the law's -/
theorem Rel_pass {z w y : Zt} {q : Int} (hR : Rel z) (hw : w = pdZ z q.toNat) (hq : 1 ≤ q ∧ q ≤ 400) (hd : rho z 57 + q ≤ 9999)
    (hy : ∃ z3, ag24 (recZ w) z3 ∧ y = zup (psZ (zup z3 1 7 (w 1 7 + qwS w q.toNat)) 1 (sumN (fun i => cntP (fun j => ((j : Int) < w 1 3 ∧ onS w 1 (9 + j) (w 1 6 + i)) ∧ ((j : Int) < w 1 3 ∧ w (9 + j) 0 = 0)) 10) q.toNat) (sumN (fun i => cntP (fun j => ((j : Int) < w 1 3 ∧ onS w 1 (9 + j) (w 1 6 + i)) ∧ ((j : Int) < w 1 3 ∧ w (9 + j) 0 = 1)) 10) q.toNat) (sumN (fun i => ind (∀ j : Nat, ¬ ((j : Int) < w 1 3 ∧ onS w 1 (9 + j) (w 1 6 + i))) * w 1 5) q.toNat)) 1 6 (w 1 6 + q)) : (Rel y ∧ rho y 14 = rho z 14) ∧ y 171 = w 171 := by
  obtain ⟨hB0, hP0, hA0, hb⟩ := hR
  have hag0 : agL z w := by rw [hw]; exact pdZ_ag z _
  have hB := hag0.RB hB0
  have hP := hag0.PI hP0
  have hA := hag0.AI hA0
  have hrw : rho w = psR (rho z) q.toNat := by rw [hw]; exact pdZ_rho z _
  obtain ⟨z4, hag, y1⟩ := hy
  have h6 : w 1 6 = rho z 57 := hB.2.2.1.2.2.2.1
  have bz : ∀ j, j < 18 → recZ w (1 + j) = w (1 + j) := fun j hj => recZ_1 hP hj
  have hbz2 := bz 1 (by decide)
  have hbz5 := bz 4 (by decide)
  have hbz1 := bz 0 (by decide)
  have e92 : ∀ j, y 2 j = if j = 4 then w 2 4 + sumN (fun i => cntP (fun j => ((j : Int) < w 1 3 ∧ onS w 1 (9 + j) (w 1 6 + i)) ∧ ((j : Int) < w 1 3 ∧ w (9 + j) 0 = 0)) 10) q.toNat else w 2 j := fun j => by
    rw [y1, zup_o (by decide)]
    unfold psZ
    rw [if_pos rfl]
    have h97 : zup z4 1 7 (w 1 7 + qwS w q.toNat) 2 = w 2 := (zup_o (by decide) _ _).trans ((hag 2 (by decide)).trans hbz2)
    rw [h97]
  have e95 : ∀ j, y 5 j = if j = 4 then w 5 4 + sumN (fun i => cntP (fun j => ((j : Int) < w 1 3 ∧ onS w 1 (9 + j) (w 1 6 + i)) ∧ ((j : Int) < w 1 3 ∧ w (9 + j) 0 = 1)) 10) q.toNat else w 5 j := fun j => by
    rw [y1, zup_o (by decide)]
    unfold psZ
    rw [if_neg (by decide), if_pos rfl]
    have h97 : zup z4 1 7 (w 1 7 + qwS w q.toNat) 5 = w 5 := (zup_o (by decide) _ _).trans ((hag 5 (by decide)).trans hbz5)
    rw [h97]
  have e91 : ∀ j, y 1 j = if j = 6 then w 1 6 + q else if j = 8 then w 1 8 + sumN (fun i => ind (∀ j : Nat, ¬ ((j : Int) < w 1 3 ∧ onS w 1 (9 + j) (w 1 6 + i))) * w 1 5) q.toNat else if j = 7 then w 1 7 + qwS w q.toNat else w 1 j := fun j => by
    have h41 : z4 1 = w 1 := (hag 1 (by decide)).trans hbz1
    rw [y1, zup_r]
    by_cases j6 : j = 6
    · rw [if_pos j6, if_pos j6]
    · rw [if_neg j6, if_neg j6]
      unfold psZ
      rw [if_neg (by decide), if_neg (by decide), if_pos rfl]
      by_cases j8 : j = 8
      · rw [if_pos j8, if_pos j8, zup_r, if_neg (by decide), h41]
      · rw [if_neg j8, if_neg j8, zup_r, h41]
  have eo9 : ∀ i, i ≠ 1 → i ≠ 2 → i ≠ 5 → y i = z4 i := fun i a b c => by
    rw [y1, zup_o a, psZ_o b c a, zup_o a]
  have ebig : ∀ i, 169 ≤ i → y i = w i := fun i hi => by
    rw [eo9 i (by omega) (by omega) (by omega), hag i (by omega), recZ_big hP hi]
  have er : rho y = rho w := rho_c (ebig 169 (by decide)) (ebig 170 (by decide)) (ebig 171 (by decide))
  have hRB : RB y 1 (psR (rho z) q.toNat) := RB_pass hB (by omega) (by omega) e92 e95 e91 (fun i a b c d e => by
    rw [eo9 i c d e, hag i (by omega)]
    have h97 := bz (i - 1) (by omega)
    rw [show 1 + (i - 1) = i by omega] at h97
    exact h97)
  refine ⟨⟨Rel_fin (recZ_PI hP) (recZ_AI hP hA) (fun a h1 h2 h3 => ?_) (by rw [er, hrw]; exact hRB) (by rw [er, hrw]; exact psR_bd (RB_MI hB0) hb _), by rw [er, hrw]; exact psR_ag _ _ 14 (by decide)⟩, ebig 171 (by decide)⟩
  rw [eo9 a (by omega) (by omega) (by omega), hag a h2]
theorem cntA_bd {z : Zt} (hM : MI (rho z)) (k : Nat) (t : Int) : 0 ≤ cntA z k t ∧ cntA z k t ≤ 10 := by
  have h14 := hM.2.1
  have h9 := cntP_bd (fun j : Nat => ((j : Int) < rho z 14 ∧ onM (rho z) j (rho z 57 + k)) ∧ mF (rho z) j 0 = t) (rho z 14).toNat
  unfold cntA
  omega
theorem rh_last (z : Zt) {t k : Int} (ht : t = 0 ∨ t = 1) (hk : 1 ≤ k ∧ k ≤ 3) : z 169 (7 * t + 2 * k - 1).toNat = mD (rho z) t (k - 1).toNat := by
  unfold mD
  rw [rho_g z (by omega)]
  exact congrArg (z 169) (by omega)
