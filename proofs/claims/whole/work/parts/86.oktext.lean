
def TE (a b : Zt) : Prop := a 22 1 = b 169 7 ∧ 0 ≤ a 22 1 ∧ ∀ j : Nat, (j : Int) < a 22 1 → a 23 j = b 174 j ∧ 33 ≤ a 23 j ∧ a 23 j ≤ 126
theorem TE_put {a b : Zt} {c : Int} (h : TE a b) (hc : 33 ≤ c ∧ c ≤ 126) : TE (putZ a c) (ptM b c) := by
  obtain ⟨h1, h2, h3⟩ := h
  have ea : ∀ j, putZ a c 23 j = if j = (a 22 1).toNat then c else a 23 j := fun j => by
    unfold putZ
    rw [zup_o (by decide), zup_r]
  have eb : ∀ j, ptM b c 174 j = if j = (a 22 1).toNat then c else b 174 j := fun j => by
    unfold ptM
    rw [zup_o (by decide), zup_r, h1]
  refine ⟨by rw [putZ_len, ptM_len, h1], by rw [putZ_len]; omega, fun j hj => ?_⟩
  rw [putZ_len] at hj
  rw [ea, eb]
  by_cases q : j = (a 22 1).toNat
  · rw [if_pos q, if_pos q]
    exact ⟨rfl, hc⟩
  · rw [if_neg q, if_neg q]
    exact h3 j (by omega)
theorem TE_pn {a b : Zt} {x : Int} (h : TE a b) (hx : 0 ≤ x ∧ x ≤ 99) : TE (pnZ a x) (pnM b x) := by
  unfold pnZ pnM
  by_cases q : 10 ≤ x
  · rw [if_pos q, if_pos q]
    exact TE_put (TE_put h (by omega)) (by omega)
  · rw [if_neg q, if_neg q]
    exact TE_put h (by omega)
theorem ptM_7 (z : Zt) (c : Int) {j : Nat} (h : j ≠ 7) : ptM z c 169 j = z 169 j := by
  unfold ptM
  rw [zup_r, if_neg h, zup_o (by decide)]
theorem pnM_7 (z : Zt) (x : Int) {j : Nat} (h : j ≠ 7) : pnM z x 169 j = z 169 j := by
  unfold pnM
  split
  · rw [ptM_7 _ _ h, ptM_7 _ _ h]
  · exact ptM_7 _ _ h
theorem wrZ_o (z : Zt) (t a b c : Int) {i : Nat} (h1 : i ≠ 22) (h2 : i ≠ 23) : wrZ z t a b c i = z i := by
  unfold wrZ
  rw [pnZ_o _ _ h1 h2, putZ_o _ _ h1 h2, pnZ_o _ _ h1 h2, putZ_o _ _ h1 h2, pnZ_o _ _ h1 h2, putZ_o _ _ h1 h2, zup_o h1]
theorem wrM_o (z : Zt) (t a b c : Int) {i : Nat} (h1 : i ≠ 174) (h2 : i ≠ 169) : wrM z t a b c i = z i := by
  unfold wrM
  rw [pnM_o _ _ h1 h2, ptM_o _ _ h1 h2, pnM_o _ _ h1 h2, ptM_o _ _ h1 h2, pnM_o _ _ h1 h2, ptM_o _ _ h1 h2, zup_o h2]
theorem wrM_7 (z : Zt) (t a b c : Int) {j : Nat} (h : j ≠ 7) : wrM z t a b c 169 j = z 169 j := by
  unfold wrM
  rw [pnM_7 _ _ h, ptM_7 _ _ h, pnM_7 _ _ h, ptM_7 _ _ h, pnM_7 _ _ h, ptM_7 _ _ h, zup_r, if_neg h]
theorem TE_0 (a b : Zt) : TE (zup a 22 1 0) (zup b 169 7 0) := by
  refine ⟨by rw [zup_s, zup_s], by rw [zup_s]; decide, fun j hj => ?_⟩
  rw [zup_s] at hj
  omega
theorem TE_wr {y v : Zt} {t a b c : Int} (ht : 0 ≤ t ∧ t ≤ 1) (ha : 0 ≤ a ∧ a ≤ 99) (hb : 0 ≤ b ∧ b ≤ 99) (hc : 0 ≤ c ∧ c ≤ 99) : TE (wrZ y t a b c) (wrM v t a b c) ∧ wrZ y t a b c 22 1 ≤ 9 := by
  refine ⟨TE_pn (TE_put (TE_pn (TE_put (TE_pn (TE_put (TE_0 y v) (by omega)) ha) (by decide)) hb) (by decide)) hc, ?_⟩
  unfold wrZ
  have h1 := putZ_len (zup y 22 1 0) (65 + t)
  rw [zup_s] at h1
  have h2 := pnZ_len (putZ (zup y 22 1 0) (65 + t)) a
  have h3 := putZ_len (pnZ (putZ (zup y 22 1 0) (65 + t)) a) 46
  have h4 := pnZ_len (putZ (pnZ (putZ (zup y 22 1 0) (65 + t)) a) 46) b
  have h5 := putZ_len (pnZ (putZ (pnZ (putZ (zup y 22 1 0) (65 + t)) a) 46) b) 46
  have h6 := pnZ_len (putZ (pnZ (putZ (pnZ (putZ (zup y 22 1 0) (65 + t)) a) 46) b) 46) c
  omega
/-- the texts replaced, else the same -/
theorem Rel_t {z z4 : Zt} (hR : Rel z) (o : ∀ i, i ≠ 22 → i ≠ 23 → i ≠ 24 → i ≠ 169 → i ≠ 174 → i ≠ 175 → i ≠ 176 → z4 i = z i) (h2 : z4 169 2 = z 169 2) (hT : TE z4 z4) (hl : z4 22 1 ≤ 80) : Rel z4 := by
  obtain ⟨r1, r2, r3, ⟨r4, r5⟩, r6, r7, r8, r9, r10, r11⟩ := hR
  obtain ⟨t1, t2, t3⟩ := hT
  have e0 := o 0 (by decide) (by decide) (by decide) (by decide) (by decide) (by decide) (by decide)
  have e19 := o 19 (by decide) (by decide) (by decide) (by decide) (by decide) (by decide) (by decide)
  have e20 := o 20 (by decide) (by decide) (by decide) (by decide) (by decide) (by decide) (by decide)
  have e21 := o 21 (by decide) (by decide) (by decide) (by decide) (by decide) (by decide) (by decide)
  have e170 := o 170 (by decide) (by decide) (by decide) (by decide) (by decide) (by decide) (by decide)
  have e171 := o 171 (by decide) (by decide) (by decide) (by decide) (by decide) (by decide) (by decide)
  have e172 := o 172 (by decide) (by decide) (by decide) (by decide) (by decide) (by decide) (by decide)
  have e173 := o 173 (by decide) (by decide) (by decide) (by decide) (by decide) (by decide) (by decide)
  have hblk : ∀ q, kd q = 2 → blkE z z4 q := fun q hq j hj => by
    have := S_ne hq hj
    rcases S_base hq with q2 | ⟨i, q2, q3⟩
    · exact o _ (by omega) (by omega) (by omega) (by omega) (by omega) (by omega) (by omega)
    · exact o _ (by omega) (by omega) (by omega) (by omega) (by omega) (by omega) (by omega)
  refine ⟨by rw [e170]; exact RB_blk (hblk 1 k_1) r1, ?_, fun q hq => ?_, ⟨by rw [e0, h2]; exact r4, fun i hi => ?_⟩, by rw [e20]; exact r6, by rw [e21, e173]; exact r7, fun i hi hf => ?_, ⟨t2, hl, fun i hi => (t3 i hi).2⟩, t1, fun j hj => (t3 j hj).1⟩
  · unfold PJ
    rw [e0, e19]
    exact r2
  · have b := hblk q hq
    rw [b 1 (by decide), b 4 (by decide)]
    exact r3 q hq
  · rw [e0] at hi
    rw [e19, e171]
    exact RB_blk (hblk _ (r2.1 i (by have := r2.2.2.2; omega)).2.2) (r5 i hi)
  · rw [e21] at hf
    rw [e172]
    exact RB_blk (hblk _ (kd_s2 hi)) (r8 i hi hf)
/-- the texts of the class's world and the reference's world stand in one -/
theorem Rel_t2 {z y z1 w z2 : Zt} {x : Int} (hR : Rel z) (h1 : z1 = zup y 176 0 x) (hw : w = zup z1 169 5 0) (hy : ∀ i, i ≠ 22 → i ≠ 23 → y i = z i) (h2 : ∀ i, i ≠ 169 → i ≠ 174 → z2 i = w i) (h7 : ∀ j, j ≠ 7 → z2 169 j = w 169 j) (hT : TE y z2) (hl : y 22 1 ≤ 80) : Rel z2 ∧ z2 169 5 = w 169 5 ∧ z2 176 0 = z1 176 0 := by
  have e1 : ∀ i, i ≠ 169 → i ≠ 174 → i ≠ 176 → z2 i = y i := fun i a b c => by
    rw [h2 i a b, hw, zup_o a, h1, zup_o c]
  have e22 := e1 22 (by decide) (by decide) (by decide)
  have e23 := e1 23 (by decide) (by decide) (by decide)
  refine ⟨Rel_t hR (fun i a b c d e f g => (e1 i d e g).trans (hy i a b)) ?_ ?_ (by rw [e22]; exact hl), h7 5 (by decide), ?_⟩
  · rw [h7 2 (by decide), hw, zup_r, if_neg (by decide), h1, zup_o (by decide)]
    exact congrFun (hy 169 (by decide) (by decide)) 2
  · unfold TE
    rw [e22, e23]
    exact hT
  · rw [h2 176 (by decide) (by decide), hw, zup_o (by decide)]
theorem nuN_congr {f g : Nat → Int} {w : Int} : ∀ {k : Nat}, (∀ j, j < k → f j = g j) → prt f k = prt g k ∧ nuN f w k = nuN g w k
  | 0, _ => ⟨rfl, rfl⟩
  | k + 1, h => by
    have ih := nuN_congr (w := w) (k := k) (fun j hj => h j (by omega))
    have e := h k (by omega)
    simp only [prt, nuN]
    rw [ih.1, ih.2, e]
    exact ⟨rfl, rfl⟩

theorem mid_undo {z z1 : Zt}  {k : Int} (hR : Rel z) (h1 : (fun v z1 => (v = 0 ∧ ∃ (x : Int) (z2 : Zt), (fun x z1 => cpB (zup z 0 2 (z 0 2 - 1)) 1 (z 19 (z 0 2 - 1).toNat).toNat = z1 ∧ 0 < z 0 2 ∧ x = z 0 2 - 1) x z2 ∧ zup z2 176 0 (jl x) = z1) ∨ (v = 1 ∧ (fun E z1 => z = z1 ∧ E = xIS ∧ z 0 2 ≤ 0) xIS z1)) k z1) : Mid z z1 := by
  have hP := PJ_PI hR.2.1
  rcases h1 with ⟨rfl, x, z3, ⟨y1, hq9⟩, y0⟩ | ⟨rfl, rfl, -⟩
  · intro a9 h1 h2
    rw [← y0, zup_o (by omega)]
    subst y1
    unfold cpB
    rw [if_neg (by omega), zup_o (by omega)]
  · exact fun _ _ _ => rfl
theorem mid_saveState {z z1 : Zt} {i : Int} {k : Int} (hR : Rel z) (h1 : (fun v z1 => (v = 0 ∧ ∃ (x : Int) (z2 : Zt), (fun x z1 => zup (cpB z (z 20 i.toNat).toNat 1) 21 i.toNat 1 = z1 ∧ (0 ≤ i ∧ i < 2) ∧ x = z 1 6) x z2 ∧ zup z2 176 0 (jl x) = z1) ∨ (v = 1 ∧ (fun E z1 => z = z1 ∧ E = xIO ∧ ¬ (0 ≤ i ∧ i < 2)) xIO z1)) k z1) : Mid z z1 := by
  have hP := PJ_PI hR.2.1
  rcases h1 with ⟨rfl, x, z3, ⟨y1, hq9⟩, y0⟩ | ⟨rfl, rfl, -⟩
  · intro a9 h1 h2
    rw [← y0, zup_o (by omega)]
    subst y1
    obtain ⟨c1, -⟩ := hq9
    have h20 := hR.2.2.2.2.1
    have h8 : z 20 i.toNat = 133 ∨ z 20 i.toNat = 151 := by
      rcases (show i.toNat = 0 ∨ i.toNat = 1 by omega) with q9 | q9 <;> rw [q9]
      · exact Or.inl h20.1
      · exact Or.inr h20.2
    rw [zup_o (by omega)]
    unfold cpB
    rw [if_neg (by omega)]
  · exact fun _ _ _ => rfl
theorem mid_appendText {z z1 : Zt} {u : Nat} {k : Int} (hR : Rel z) (h1 : (fun v z1 => (v = 0 ∧ ∃ (x : Int) (z2 : Zt), (fun x z1 => ∃ c : Nat, goodC u c ∧ z 22 1 + c ≤ 80 ∧ apG 23 22 1 z u c c = z1 ∧ x = z 22 1 + c) x z2 ∧ zup z2 176 0 (jl x) = z1) ∨ (v = 1 ∧ (fun E z1 => z = z1 ∧ ((E = xIA ∧ ∀ c, ¬ goodC u c) ∨ (E = xIS ∧ ∃ c : Nat, goodC u c ∧ 80 < z 22 1 + c))) xIA z1) ∨ (v = 2 ∧ (fun E z1 => z = z1 ∧ ((E = xIA ∧ ∀ c, ¬ goodC u c) ∨ (E = xIS ∧ ∃ c : Nat, goodC u c ∧ 80 < z 22 1 + c))) xIS z1)) k z1) : Mid z z1 := by
  have hP := PJ_PI hR.2.1
  rcases h1 with ⟨rfl, x, z3, hq9, y0⟩ | ⟨rfl, rfl, -⟩ | ⟨rfl, rfl, -⟩
  · intro a9 h1 h2
    rw [← y0, zup_o (by omega)]
    obtain ⟨c, hg, hc, y1, -⟩ := hq9
    subst y1
    unfold apG
    rw [zup_o (by omega), zset_o (by omega)]
  · exact fun _ _ _ => rfl
  · exact fun _ _ _ => rfl
theorem mid_writeDate {z z1 : Zt} {t d : Int} {k : Int} (hR : Rel z) (h1 : (fun v z1 => (v = 0 ∧ ∃ (x : Int) (z2 : Zt), (fun x z1 => (0 ≤ t ∧ t ≤ 1) ∧ (0 ≤ d ∧ d ≤ 20000) ∧ (∃ m1 m2 : Int, isMon (z (tid t) 0) (calT z (tid t) d % yl (z (tid t) 0)) m1 ∧ isMon (z (tid t) 0) (calT z (tid t) d % yl (z (tid t) 0)) m2 ∧ wrZ z t (calT z (tid t) d % yl (z (tid t) 0) - mbef (z (tid t) 0) m1 + 1) m2 (1 + calT z (tid t) d / yl (z (tid t) 0)) = z1) ∧ x = z1 22 1) x z2 ∧ zup z2 176 0 (jl x) = z1) ∨ (v = 1 ∧ (fun E z1 => z = z1 ∧ ((E = xIO ∧ ¬ (0 ≤ t ∧ t ≤ 1)) ∨ (E = xIA ∧ (0 ≤ t ∧ t ≤ 1) ∧ ¬ (0 ≤ d ∧ d ≤ 20000)))) xIO z1) ∨ (v = 2 ∧ (fun E z1 => z = z1 ∧ ((E = xIO ∧ ¬ (0 ≤ t ∧ t ≤ 1)) ∨ (E = xIA ∧ (0 ≤ t ∧ t ≤ 1) ∧ ¬ (0 ≤ d ∧ d ≤ 20000)))) xIA z1)) k z1) : Mid z z1 := by
  have hP := PJ_PI hR.2.1
  rcases h1 with ⟨rfl, x, z3, ⟨c1, c2, hq9, e9⟩, y0⟩ | ⟨rfl, rfl, -⟩ | ⟨rfl, rfl, -⟩
  · intro a9 h1 h2
    rw [← y0, zup_o (by omega)]
    obtain ⟨m, m1, h8, h7, y1⟩ := hq9
    subst y1
    exact wrZ_o z _ _ _ _ (by omega) (by omega)
  · exact fun _ _ _ => rfl
  · exact fun _ _ _ => rfl
theorem mid_dayOfText {z z1 : Zt} {tt : Int} {k : Int} (hR : Rel z) (h1 : (fun v z1 => (v = 0 ∧ ∃ (x : Int) (z2 : Zt), (fun x z1 => z = z1 ∧ FE (z 23) (z 22 1) (-1) ∧ x = (if 12 < nuN (z 23) 2 (z 22 1).toNat ∨ mlen (z (tid tt) 0) (nuN (z 23) 2 (z 22 1).toNat) < nuN (z 23) 1 (z 22 1).toNat then -1 else if calT z (tid tt) (fdT z (tid tt) (dof (z (tid tt) 0) (nuN (z 23) 3 (z 22 1).toNat) (nuN (z 23) 2 (z 22 1).toNat) (nuN (z 23) 1 (z 22 1).toNat))) = dof (z (tid tt) 0) (nuN (z 23) 3 (z 22 1).toNat) (nuN (z 23) 2 (z 22 1).toNat) (nuN (z 23) 1 (z 22 1).toNat) then fdT z (tid tt) (dof (z (tid tt) 0) (nuN (z 23) 3 (z 22 1).toNat) (nuN (z 23) 2 (z 22 1).toNat) (nuN (z 23) 1 (z 22 1).toNat)) else -1)) x z2 ∧ zup z2 176 0 (jl x) = z1) ∨ (v = 1 ∧ (fun E z1 => z = z1 ∧ E = xIS ∧ ∃ e : Int, e ≠ -1 ∧ FE (z 23) (z 22 1) e) xIS z1)) k z1) : Mid z z1 := by
  have hP := PJ_PI hR.2.1
  rcases h1 with ⟨rfl, x, z3, ⟨y1, hq9⟩, y0⟩ | ⟨rfl, rfl, -⟩
  · intro a9 h1 h2
    rw [← y0, zup_o (by omega)]
    subst y1
    rfl
  · exact fun _ _ _ => rfl
set_option maxHeartbeats 4000000 in
theorem ok_undo {z z1 w z2 : Zt}  {k v : Int} (hR : Rel z) (hw : w = zup z1 169 5 0) (h1 : (fun v z1 => (v = 0 ∧ ∃ (x : Int) (z2 : Zt), (fun x z1 => cpB (zup z 0 2 (z 0 2 - 1)) 1 (z 19 (z 0 2 - 1).toNat).toNat = z1 ∧ 0 < z 0 2 ∧ x = z 0 2 - 1) x z2 ∧ zup z2 176 0 (jl x) = z1) ∨ (v = 1 ∧ (fun E z1 => z = z1 ∧ E = xIS ∧ z 0 2 ≤ 0) xIS z1)) k z1) (h2 : (fun v z1 => (zset (zup w 169 2 (w 169 2 - 1)) 170 (fcp (w 170) (w 171) 0 (62 * (w 169 2 - 1).toNat) 62) = z1 ∧ 0 < w 169 2 ∧ v = w 169 2 - 1) ∨ (zup w 169 5 1 = z1 ∧ w 169 2 = 0)) v z2) : z2 169 5 = k ∧ (k = 0 → z2 176 0 = jl v) ∧ Rel z2 := by
  have hm : Mid z z1 := mid_undo hR h1
  have hB := hR.1
  have hP := PJ_PI hR.2.1
  obtain ⟨m0, m1, m2, m3, m4, m5, m6⟩ := mid_w hm hw
  have hn : z 0 2 = z 169 2 := hR.2.2.2.1.1
  have hn6 := hR.2.1.2.2
  rw [m0, m1, m5] at h2
  rcases h1 with ⟨rfl, x, z3, ⟨y1, c1, e1⟩, y0⟩ | ⟨rfl, h0, hc⟩
  · rcases h2 with ⟨s0, d1, e2⟩ | ⟨rfl, d⟩
    · subst y1 s0
      have hid := hR.2.1.1 (z 0 2 - 1).toNat (by omega)
      have hz1 : ∀ i, i ≠ 176 → ¬ (1 ≤ i ∧ i < 19) → i ≠ 0 → z1 i = z i := fun i a b c => by
        rw [← y0, zup_o a]
        unfold cpB
        rw [if_neg (by omega), zup_o c]
      refine finW hw ?_ ?_ (by rw [← y0]; exact zup_s _ _ _ _) (by rw [e1, e2, hn]) (Rel_u hR (fun i a b c d e f g => ?_) ?_ ?_ ?_)
      · rw [zset_o (by decide), zup_r, if_neg (by decide)]
      · rw [zset_o (by decide), zup_o (by decide), hw, zup_o (by decide)]
      · rw [zset_o e, zup_o d, hw, zup_o d]
        exact hz1 i g b a
      · have q1 : zset (zup w 169 2 (z 169 2 - 1)) 170 (fcp (z 170) (z 171) 0 (62 * (z 169 2 - 1).toNat) 62) 0 2 = z 0 2 - 1 := by
          rw [zset_o (by decide), zup_o (by decide), hw, zup_o (by decide), ← y0, zup_o (by decide)]
          unfold cpB
          rw [if_neg (by decide)]
          exact zup_s _ _ _ _
        have q2 : zset (zup w 169 2 (z 169 2 - 1)) 170 (fcp (z 170) (z 171) 0 (62 * (z 169 2 - 1).toNat) 62) 169 2 = z 169 2 - 1 := by
          rw [zset_o (by decide)]
          exact zup_s _ _ _ _
        rw [q1, q2]
        omega
      · rw [zset_o (by decide), zup_r, if_neg (by decide)]
        exact m6
      · have r5 := hR.2.2.2.1.2 (z 0 2 - 1).toNat (by omega)
        rw [zset_at]
        refine RB_row (ρ := fun p => z 171 (62 * (z 0 2 - 1).toNat + p)) (fun p hp => ?_) (RB_cp (a := 1) (b := (z 19 (z 0 2 - 1).toNat).toNat) (fun j hj => ?_) r5)
        · unfold fcp
          rw [if_pos (by omega), hn]
          exact congrArg (z 171) (by omega)
        · rw [zset_o (by omega), zup_o (by omega), hw, zup_o (by omega), ← y0, zup_o (by omega)]
          unfold cpB
          rw [if_pos (by omega), zup_o (by omega)]
          exact congrArg z (by omega)
    · exfalso
      clear hm m0 m1 m2 m3 m4 m5 m6
      omega
  · have hc := hc.2
    rcases h2 with ⟨s0, d1, e2⟩ | ⟨rfl, d⟩
    · exfalso
      clear hm m0 m1 m2 m3 m4 m5 m6
      omega
    · exact finE hR (h0 ▸ Nz.rf z) hw (by decide)

set_option maxHeartbeats 4000000 in
theorem ok_saveState {z z1 w z2 : Zt} {i : Int} {k v : Int} (hR : Rel z) (hw : w = zup z1 169 5 0) (h1 : (fun v z1 => (v = 0 ∧ ∃ (x : Int) (z2 : Zt), (fun x z1 => zup (cpB z (z 20 i.toNat).toNat 1) 21 i.toNat 1 = z1 ∧ (0 ≤ i ∧ i < 2) ∧ x = z 1 6) x z2 ∧ zup z2 176 0 (jl x) = z1) ∨ (v = 1 ∧ (fun E z1 => z = z1 ∧ E = xIO ∧ ¬ (0 ≤ i ∧ i < 2)) xIO z1)) k z1) (h2 : (fun v z1 => (zup (zset w 172 (fcp (w 172) (w 170) (62 * i.toNat) 0 62)) 173 i.toNat 1 = z1 ∧ (0 ≤ i ∧ i < 2) ∧ v = w 170 57) ∨ (zup w 169 5 1 = z1 ∧ ¬ (0 ≤ i ∧ i < 2))) v z2) : z2 169 5 = k ∧ (k = 0 → z2 176 0 = jl v) ∧ Rel z2 := by
  have hm : Mid z z1 := mid_saveState hR h1
  have hB := hR.1
  have hP := PJ_PI hR.2.1
  obtain ⟨m0, m1, m2, m3, m4, m5, m6⟩ := mid_w hm hw
  rw [m0, m2] at h2
  rcases h1 with ⟨rfl, x, z3, ⟨y1, c1, e1⟩, y0⟩ | ⟨rfl, h0, hc⟩
  · rcases h2 with ⟨s0, d1, e2⟩ | ⟨rfl, d⟩
    · have hz20 : (z 20 i.toNat).toNat = 133 + 18 * i.toNat := by
        rcases (show i.toNat = 0 ∨ i.toNat = 1 by omega) with q9 | q9 <;> rw [q9]
        · rw [hR.2.2.2.2.1.1]
          rfl
        · rw [hR.2.2.2.2.1.2]
          rfl
      have hi2 : i.toNat < 2 := by omega
      rw [hz20] at y1
      have e1o : ∀ a, a ≠ 21 → a ≠ 169 → a ≠ 172 → a ≠ 173 → a ≠ 176 → ¬ (133 + 18 * i.toNat ≤ a ∧ a < 133 + 18 * i.toNat + 18) → z2 a = z a := fun a h1 h2 h3 h4 h5 h6 => by
        rw [← s0, zup_o h4, zset_o h3, hw, zup_o h2, ← y0, zup_o h5, ← y1, zup_o h1]
        unfold cpB
        rw [if_neg h6]
      have e1b : ∀ j, j < 18 → z2 (133 + 18 * i.toNat + j) = z (1 + j) := fun j hj => by
        rw [← s0, zup_o (by omega), zset_o (by omega), hw, zup_o (by omega), ← y0, zup_o (by omega), ← y1, zup_o (by omega)]
        unfold cpB
        rw [if_pos (by omega)]
        exact congrArg z (by omega)
      have e21 : ∀ j, z2 21 j = if j = i.toNat then 1 else z 21 j := fun j => by
        have e9 : cpB z (133 + 18 * i.toNat) 1 21 = z 21 := by
          unfold cpB
          rw [if_neg (by omega)]
        rw [← s0, zup_o (by decide), zset_o (by decide), hw, zup_o (by decide), ← y0, zup_o (by decide), ← y1, zup_r, e9]
      have e173 : ∀ j, z2 173 j = if j = i.toNat then 1 else z 173 j := fun j => by
        rw [← s0, zup_r, zset_o (by decide), m3]
      have e172 : z2 172 = fcp (z 172) (z 170) (62 * i.toNat) 0 62 := by
        rw [← s0, zup_o (by decide), zset_at]
      have e169 : ∀ j, j ≠ 5 → z2 169 j = z 169 j := fun j hj => by
        rw [← s0, zup_o (by decide), zset_o (by decide), hw, zup_r, if_neg hj]
        exact congrFun (hm 169 (by decide) (by decide)) j
      have hblk : ∀ q, kd q = 2 → q ≠ 133 + 18 * i.toNat → blkE z z2 q := fun q hq q1 j hj => by
        have := S_ne hq hj
        have far := SS_far hq (kd_s2 hi2) q1
        rcases S_base hq with q2 | ⟨i9, q2, q3⟩
        · exact e1o _ (by omega) (by omega) (by omega) (by omega) (by omega) (by omega)
        · exact e1o _ (by omega) (by omega) (by omega) (by omega) (by omega) (by omega)
      have hself : RB z2 (133 + 18 * i.toNat) (z 170) := RB_cp e1b hB
      refine finW hw ?_ ?_ (by rw [← y0]; exact zup_s _ _ _ _) (by rw [e1, e2]; exact hB.2.2.1.2.2.2.1) ?_
      · rw [← s0, zup_o (by decide), zset_o (by decide)]
      · rw [← s0, zup_o (by decide), zset_o (by decide), hw, zup_o (by decide)]
      obtain ⟨r1, r2, r3, ⟨r4, r5⟩, r6, r7, r8, r9, r10, r11⟩ := hR
      have f0 := e1o 0 (by decide) (by decide) (by decide) (by decide) (by decide) (by omega)
      have f19 := e1o 19 (by decide) (by decide) (by decide) (by decide) (by decide) (by omega)
      have f20 := e1o 20 (by decide) (by decide) (by decide) (by decide) (by decide) (by omega)
      have f22 := e1o 22 (by decide) (by decide) (by decide) (by decide) (by decide) (by omega)
      have f23 := e1o 23 (by decide) (by decide) (by decide) (by decide) (by decide) (by omega)
      have f170 := e1o 170 (by decide) (by decide) (by decide) (by decide) (by decide) (by omega)
      have f171 := e1o 171 (by decide) (by decide) (by decide) (by decide) (by decide) (by omega)
      have f174 := e1o 174 (by decide) (by decide) (by decide) (by decide) (by decide) (by omega)
      refine ⟨by rw [f170]; exact RB_blk (hblk 1 k_1 (by omega)) r1, ?_, fun q hq => ?_, ⟨by rw [f0, e169 2 (by decide)]; exact r4, fun j hj => ?_⟩, by rw [f20]; exact r6, fun j hj => ?_, fun j hj hf => ?_, by rw [f22, f23]; exact r9, by rw [f22, e169 7 (by decide)]; exact r10, by rw [f22, f23, f174]; exact r11⟩
      · unfold PJ
        rw [f0, f19]
        exact r2
      · by_cases q1 : q = 133 + 18 * i.toNat
        · rw [q1]
          exact ⟨hself.1.2.2.1, hself.1.2.2.2.1⟩
        · have b := hblk q hq q1
          rw [b 1 (by decide), b 4 (by decide)]
          exact r3 q hq
      · rw [f0] at hj
        rw [f19, f171]
        have h9 := r2.1 j (by have := r2.2.2.2; omega)
        exact RB_blk (hblk _ h9.2.2 (by omega)) (r5 j hj)
      · rw [e21, e173]
        by_cases q1 : j = i.toNat
        · rw [if_pos q1, if_pos q1]
          exact ⟨rfl, Or.inr rfl⟩
        · rw [if_neg q1, if_neg q1]
          exact r7 j hj
      · rw [e172]
        by_cases q1 : j = i.toNat
        · subst q1
          refine RB_row (fun p hp => ?_) hself
          unfold fcp
          rw [if_pos (by omega)]
          exact congrArg (z 170) (by omega)
        · rw [e21, if_neg q1] at hf
          refine RB_row (fun p hp => ?_) (RB_blk (hblk _ (kd_s2 hj) (by omega)) (r8 j hj hf))
          unfold fcp
          rw [if_neg (by omega)]
    · exact absurd c1 d
  · have hc := hc.2
    rcases h2 with ⟨s0, d1, e2⟩ | ⟨rfl, d⟩
    · exact absurd d1 hc
    · exact finE hR (h0 ▸ Nz.rf z) hw (by decide)

set_option maxHeartbeats 4000000 in
theorem ok_appendText {z z1 w z2 : Zt} {u : Nat} {k v : Int} (hR : Rel z) (hw : w = zup z1 169 5 0) (h1 : (fun v z1 => (v = 0 ∧ ∃ (x : Int) (z2 : Zt), (fun x z1 => ∃ c : Nat, goodC u c ∧ z 22 1 + c ≤ 80 ∧ apG 23 22 1 z u c c = z1 ∧ x = z 22 1 + c) x z2 ∧ zup z2 176 0 (jl x) = z1) ∨ (v = 1 ∧ (fun E z1 => z = z1 ∧ ((E = xIA ∧ ∀ c, ¬ goodC u c) ∨ (E = xIS ∧ ∃ c : Nat, goodC u c ∧ 80 < z 22 1 + c))) xIA z1) ∨ (v = 2 ∧ (fun E z1 => z = z1 ∧ ((E = xIA ∧ ∀ c, ¬ goodC u c) ∨ (E = xIS ∧ ∃ c : Nat, goodC u c ∧ 80 < z 22 1 + c))) xIS z1)) k z1) (h2 : (fun v z1 => (∃ c : Nat, goodC u c ∧ w 169 7 + c ≤ 80 ∧ apG 174 169 7 w u c c = z1 ∧ v = w 169 7 + c) ∨ (zup w 169 5 1 = z1 ∧ ∀ c, ¬ goodC u c) ∨ (zup w 169 5 2 = z1 ∧ ∃ c : Nat, goodC u c ∧ 80 < w 169 7 + c)) v z2) : z2 169 5 = k ∧ (k = 0 → z2 176 0 = jl v) ∧ Rel z2 := by
  have hm : Mid z z1 := mid_appendText hR h1
  have hB := hR.1
  have hP := PJ_PI hR.2.1
  obtain ⟨m0, m1, m2, m3, m4, m5, m6⟩ := mid_w hm hw
  have hX := hR.2.2.2.2.2.2.2.1
  have h7 : z 22 1 = z 169 7 := hR.2.2.2.2.2.2.2.2.1
  have hag : ∀ j : Nat, (j : Int) < z 22 1 → z 23 j = z 174 j := hR.2.2.2.2.2.2.2.2.2
  rw [m6, ← h7] at h2
  rcases h1 with ⟨rfl, x, z3, ⟨c, hg, hc, y1, e1⟩, y0⟩ | ⟨rfl, h0, hc⟩ | ⟨rfl, h0, hc⟩
  · rcases h2 with ⟨c', hg', hc', s0, e2⟩ | ⟨rfl, d⟩ | ⟨rfl, c', hg', d⟩
    · have ec := goodC_one hg hg'
      subst ec
      have hz22 : (z 22 1 : Int) = w 169 7 := h7.trans m6.symm
      have l3 : z3 22 1 = z 22 1 + c := by rw [← y1]; exact apG_L _ _ _ _
      have l2 : z2 169 7 = z 22 1 + c := by rw [← s0, hz22]; exact apG_L _ _ _ _
      have a3 : ∀ j, z3 23 j = if (z 22 1).toNat ≤ j ∧ j < (z 22 1).toNat + c then bt8 u ((z 22 1).toNat + c - 1 - j) else z 23 j := fun j => by
        rw [← y1]
        unfold apG
        rw [zup_o (by decide), zset_at]
      have a2 : ∀ j, z2 174 j = if (z 22 1).toNat ≤ j ∧ j < (z 22 1).toNat + c then bt8 u ((z 22 1).toNat + c - 1 - j) else z 174 j := fun j => by
        rw [← s0]
        unfold apG
        rw [zup_o (by decide), zset_at, ← hz22, m4]
      have hT : TE z3 z2 := by
        refine ⟨l3.trans l2.symm, by rw [l3]; have := hX.1; omega, fun j hj => ?_⟩
        rw [l3] at hj
        rw [a3, a2]
        by_cases q : (z 22 1).toNat ≤ j ∧ j < (z 22 1).toNat + c
        · rw [if_pos q, if_pos q]
          exact ⟨rfl, hg.2.2.1 _ (by omega)⟩
        · rw [if_neg q, if_neg q]
          have := hX.1
          exact ⟨hag j (by omega), hX.2.2 j (by omega)⟩
      have hRt := Rel_t2 hR y0.symm hw (fun i a b => by rw [← y1]; unfold apG; rw [zup_o a, zset_o b]) (fun i a b => by rw [← s0]; unfold apG; rw [zup_o a, zset_o b]) (fun j hj => by rw [← s0]; unfold apG; rw [zup_r, if_neg hj, zset_o (by decide)]) hT (by rw [l3]; exact hc)
      exact finW hw hRt.2.1 hRt.2.2 (by rw [← y0]; exact zup_s _ _ _ _) (by rw [e1, e2]) hRt.1
    · exact absurd hg (d c)
    · exfalso
      have ec := goodC_one hg hg'
      subst ec
      omega
  · rcases hc with ⟨q8, hc⟩ | ⟨q8, hc⟩
    · rcases h2 with ⟨c', hg', hc', s0, e2⟩ | ⟨rfl, d⟩ | ⟨rfl, c', hg', d⟩
      · exact absurd hg' (hc c')
      · exact finE hR (h0 ▸ Nz.rf z) hw (by decide)
      · exact absurd hg' (hc c')
    · exact absurd q8 (by decide +kernel)
  · rcases hc with ⟨q8, hc⟩ | ⟨q8, c, hg, hc⟩
    · exact absurd q8 (by decide +kernel)
    · rcases h2 with ⟨c', hg', hc', s0, e2⟩ | ⟨rfl, d⟩ | ⟨rfl, c', hg', d⟩
      · exfalso
        have ec := goodC_one hg hg'
        subst ec
        omega
      · exact absurd hg (d c)
      · exact finE hR (h0 ▸ Nz.rf z) hw (by decide)

set_option maxHeartbeats 4000000 in
theorem ok_writeDate {z z1 w z2 : Zt} {t d : Int} {k v : Int} (hR : Rel z) (hw : w = zup z1 169 5 0) (h1 : (fun v z1 => (v = 0 ∧ ∃ (x : Int) (z2 : Zt), (fun x z1 => (0 ≤ t ∧ t ≤ 1) ∧ (0 ≤ d ∧ d ≤ 20000) ∧ (∃ m1 m2 : Int, isMon (z (tid t) 0) (calT z (tid t) d % yl (z (tid t) 0)) m1 ∧ isMon (z (tid t) 0) (calT z (tid t) d % yl (z (tid t) 0)) m2 ∧ wrZ z t (calT z (tid t) d % yl (z (tid t) 0) - mbef (z (tid t) 0) m1 + 1) m2 (1 + calT z (tid t) d / yl (z (tid t) 0)) = z1) ∧ x = z1 22 1) x z2 ∧ zup z2 176 0 (jl x) = z1) ∨ (v = 1 ∧ (fun E z1 => z = z1 ∧ ((E = xIO ∧ ¬ (0 ≤ t ∧ t ≤ 1)) ∨ (E = xIA ∧ (0 ≤ t ∧ t ≤ 1) ∧ ¬ (0 ≤ d ∧ d ≤ 20000)))) xIO z1) ∨ (v = 2 ∧ (fun E z1 => z = z1 ∧ ((E = xIO ∧ ¬ (0 ≤ t ∧ t ≤ 1)) ∨ (E = xIA ∧ (0 ≤ t ∧ t ≤ 1) ∧ ¬ (0 ≤ d ∧ d ≤ 20000)))) xIA z1)) k z1) (h2 : (fun v z1 => ((0 ≤ t ∧ t ≤ 1) ∧ (0 ≤ d ∧ d ≤ 20000) ∧ (∃ m1 m2 : Int, isMon (1 - t) (calM (w 170) t d % yl (1 - t)) m1 ∧ isMon (1 - t) (calM (w 170) t d % yl (1 - t)) m2 ∧ wrM w t (calM (w 170) t d % yl (1 - t) - mbef (1 - t) m1 + 1) m2 (1 + calM (w 170) t d / yl (1 - t)) = z1) ∧ v = z1 169 7) ∨ (zup w 169 5 1 = z1 ∧ ¬ (0 ≤ t ∧ t ≤ 1)) ∨ (zup w 169 5 2 = z1 ∧ (0 ≤ t ∧ t ≤ 1) ∧ ¬ (0 ≤ d ∧ d ≤ 20000))) v z2) : z2 169 5 = k ∧ (k = 0 → z2 176 0 = jl v) ∧ Rel z2 := by
  have hm : Mid z z1 := mid_writeDate hR h1
  have hB := hR.1
  have hP := PJ_PI hR.2.1
  obtain ⟨m0, m1, m2, m3, m4, m5, m6⟩ := mid_w hm hw
  have tA : (0 ≤ t ∧ t ≤ 1) → z (tid t) 0 = 1 - t := fun q9 => RB_A hB (by omega)
  have tC : (0 ≤ t ∧ t ≤ 1) → calT z (tid t) d = calM (z 170) t d := fun q9 => (RB_cal hB (by omega) _).1
  rw [m0] at h2
  rcases h1 with ⟨rfl, x, z3, ⟨c1, c2, ⟨q1, q2, u1, u2, y1⟩, e1⟩, y0⟩ | ⟨rfl, h0, hc⟩ | ⟨rfl, h0, hc⟩
  · rcases h2 with ⟨d1, d2, ⟨p1, p2, v1, v2, s0⟩, e2⟩ | ⟨rfl, d9⟩ | ⟨rfl, d8, d9⟩
    · rw [tA c1, tC c1] at u1 u2 y1
      have ep1 := isMon_one u1 v1
      have ep2 := isMon_one u2 v2
      subst ep1 ep2
      have hbd := calM_bd (RB_MG hB) (t := t) (by omega) d
      have hb1 := dmon_bd u1
      have hb2 : 1 ≤ q2 ∧ q2 ≤ 12 := ⟨u2.1, u2.2.1⟩
      have hb3 := yr_bd (a := 1 - t) (c := calM (z 170) t d) (by omega) (by omega)
      have hTE := TE_wr (y := z) (v := w) (t := t) (a := calM (z 170) t d % yl (1 - t) - mbef (1 - t) q1 + 1) (b := q2) (c := 1 + calM (z 170) t d / yl (1 - t)) c1 (by omega) (by omega) (by omega)
      rw [y1, s0] at hTE
      have hRt := Rel_t2 hR y0.symm hw (fun i a b => by rw [← y1]; exact wrZ_o _ _ _ _ _ a b) (fun i a b => by rw [← s0]; exact wrM_o _ _ _ _ _ b a) (fun j hj => by rw [← s0]; exact wrM_7 _ _ _ _ _ hj) hTE.1 (by omega)
      exact finW hw hRt.2.1 hRt.2.2 (by rw [← y0]; exact zup_s _ _ _ _) (by rw [e1, e2]; exact hTE.1.1) hRt.1
    · exact absurd c1 d9
    · exact absurd c2 d9
  · rcases hc with ⟨q8, hc⟩ | ⟨q8, hc, hc2⟩
    · rcases h2 with ⟨d1, d2, ⟨p1, p2, v1, v2, s0⟩, e2⟩ | ⟨rfl, d9⟩ | ⟨rfl, d8, d9⟩
      · exact absurd d1 hc
      · exact finE hR (h0 ▸ Nz.rf z) hw (by decide)
      · exact absurd d8 hc
    · exact absurd q8 (by decide +kernel)
  · rcases hc with ⟨q8, hc⟩ | ⟨q8, hc, hc2⟩
    · exact absurd q8 (by decide +kernel)
    · rcases h2 with ⟨d1, d2, ⟨p1, p2, v1, v2, s0⟩, e2⟩ | ⟨rfl, d9⟩ | ⟨rfl, d8, d9⟩
      · exact absurd d2 hc2
      · exact absurd hc d9
      · exact finE hR (h0 ▸ Nz.rf z) hw (by decide)

set_option maxHeartbeats 4000000 in
theorem ok_dayOfText {z z1 w z2 : Zt} {tt t2 : Int} {k v : Int} (hR : Rel z) (hw : w = zup z1 169 5 0) (htt : tt = (if 0 < z 22 1 ∧ z 23 0 = 65 then (0 : Int) else 1)) (ht2 : t2 = w 174 0 - 65) (h1 : (fun v z1 => (v = 0 ∧ ∃ (x : Int) (z2 : Zt), (fun x z1 => z = z1 ∧ FE (z 23) (z 22 1) (-1) ∧ x = (if 12 < nuN (z 23) 2 (z 22 1).toNat ∨ mlen (z (tid tt) 0) (nuN (z 23) 2 (z 22 1).toNat) < nuN (z 23) 1 (z 22 1).toNat then -1 else if calT z (tid tt) (fdT z (tid tt) (dof (z (tid tt) 0) (nuN (z 23) 3 (z 22 1).toNat) (nuN (z 23) 2 (z 22 1).toNat) (nuN (z 23) 1 (z 22 1).toNat))) = dof (z (tid tt) 0) (nuN (z 23) 3 (z 22 1).toNat) (nuN (z 23) 2 (z 22 1).toNat) (nuN (z 23) 1 (z 22 1).toNat) then fdT z (tid tt) (dof (z (tid tt) 0) (nuN (z 23) 3 (z 22 1).toNat) (nuN (z 23) 2 (z 22 1).toNat) (nuN (z 23) 1 (z 22 1).toNat)) else -1)) x z2 ∧ zup z2 176 0 (jl x) = z1) ∨ (v = 1 ∧ (fun E z1 => z = z1 ∧ E = xIS ∧ ∃ e : Int, e ≠ -1 ∧ FE (z 23) (z 22 1) e) xIS z1)) k z1) (h2 : (fun v z1 => (FE (w 174) (w 169 7) (-1) ∧ JT w z1 (w 169 7) ∧ (0 < w 169 7 ∧ 65 ≤ w 174 0 ∧ w 174 0 ≤ 66) ∧ v = (if 12 < nuN (w 174) 2 (w 169 7).toNat ∨ mlen (1 - t2) (nuN (w 174) 2 (w 169 7).toNat) < nuN (w 174) 1 (w 169 7).toNat then -1 else if calM (w 170) t2 (fdM (w 170) t2 (dof (1 - t2) (nuN (w 174) 3 (w 169 7).toNat) (nuN (w 174) 2 (w 169 7).toNat) (nuN (w 174) 1 (w 169 7).toNat))) = dof (1 - t2) (nuN (w 174) 3 (w 169 7).toNat) (nuN (w 174) 2 (w 169 7).toNat) (nuN (w 174) 1 (w 169 7).toNat) then fdM (w 170) t2 (dof (1 - t2) (nuN (w 174) 3 (w 169 7).toNat) (nuN (w 174) 2 (w 169 7).toNat) (nuN (w 174) 1 (w 169 7).toNat)) else -1)) ∨ (∃ e : Int, e ≠ -1 ∧ FE (w 174) (w 169 7) e ∧ ∃ z2, JT w z2 e ∧ zup z2 169 5 1 = z1)) v z2) : z2 169 5 = k ∧ (k = 0 → z2 176 0 = jl v) ∧ Rel z2 := by
  have hm : Mid z z1 := mid_dayOfText hR h1
  have hB := hR.1
  obtain ⟨m0, m1, m2, m3, m4, m5, m6⟩ := mid_w hm hw
  have hX := hR.2.2.2.2.2.2.2.1
  have h7 : z 22 1 = z 169 7 := hR.2.2.2.2.2.2.2.2.1
  have hag : ∀ j : Nat, (j : Int) < z 22 1 → z 23 j = z 174 j := hR.2.2.2.2.2.2.2.2.2
  rw [m6, m4, m0, ← h7] at h2
  rw [m4] at ht2
  have hX0 := hX.1
  rcases h1 with ⟨rfl, x, z3, ⟨y1, f1, e1⟩, y0⟩ | ⟨rfl, h0, hc⟩
  · rcases h2 with ⟨f2, j2, ⟨g1, g2⟩, e2⟩ | ⟨e, he, f2, z4, j2, s0⟩
    · subst y1
      have hNz : Nz z z1 := by
        rw [← y0]
        exact Nz.o176 _ _ _
      have hNw : Nz z w := by
        rw [hw]
        exact hNz.tr (Nz.o5 _ _)
      have et : t2 = tt ∧ (tt = 0 ∨ tt = 1) := by
        have h9 := hag 0 (by omega)
        by_cases q : z 23 0 = 65
        · rw [if_pos ⟨g1, q⟩] at htt
          omega
        · rw [if_neg (fun h => q h.2)] at htt
          omega
      obtain ⟨et, et2⟩ := et
      rw [et] at e2
      have hA : z (tid tt) 0 = 1 - tt := RB_A hB et2
      have hC : ∀ d, calT z (tid tt) d = calM (z 170) tt d ∧ fdT z (tid tt) d = fdM (z 170) tt d := fun d => RB_cal hB et2 d
      have hN : ∀ w9, nuN (z 23) w9 (z 22 1).toNat = nuN (z 174) w9 (z 22 1).toNat := fun w9 => (nuN_congr (fun j hj => hag j (by omega))).2
      have ex : x = v := by
        rw [e1, e2, hA, hN 1, hN 2, hN 3, (hC _).1, (hC _).2]
      have h169 : z2 169 5 = w 169 5 := j2.1.2 5 (by decide)
      have h176 : z2 176 0 = z1 176 0 := by
        rw [j2.1.1 176 (by decide) (by decide), hw, zup_o (by decide)]
      exact finW hw h169 h176 (by rw [← y0]; exact zup_s _ _ _ _) ex (Rel_Nz (hNw.tr (Nz.jt j2)) hR)
    · exfalso
      exact he (FE_one (FE_congr hag f1) f2).symm
  · obtain ⟨q8, e, he, f1⟩ := hc
    rcases h2 with ⟨f2, j2, ⟨g1, g2⟩, e2⟩ | ⟨e', he', f2, z4, j2, s0⟩
    · exfalso
      exact he (FE_one (FE_congr hag f1) f2)
    · subst h0 s0
      refine ⟨zup_s _ _ _ _, fun h => absurd h (by decide), Rel_Nz ?_ hR⟩
      have hNw : Nz z w := by
        rw [hw]
        exact Nz.o5 _ _
      exact (hNw.tr (Nz.jt j2)).tr (Nz.o5 _ _)

theorem ok_textError {z z1 w z2 : Zt} {x v : Int} (hR : Rel z) (hw : w = zup z1 169 5 0) (h1 : (fun x z1 => z = z1 ∧ FE (z 23) (z 22 1) x) x z1) (h2 : (fun v z1 => (JT w z1 (z1 169 8) ∧ FE (w 174) (w 169 7) v)) v z2) : x = v ∧ Rel z2 := by
  obtain ⟨y1, f1⟩ := h1
  obtain ⟨j2, f2⟩ := h2
  subst y1
  have h7 : z 22 1 = z 169 7 := hR.2.2.2.2.2.2.2.2.1
  have hag : ∀ j : Nat, (j : Int) < z 22 1 → z 23 j = z 174 j := hR.2.2.2.2.2.2.2.2.2
  have e4 : w 174 = z 174 := by rw [hw, zup_o (by decide)]
  have e7 : w 169 7 = z 169 7 := by rw [hw, zup_r, if_neg (by decide)]
  rw [e4, e7, ← h7] at f2
  have hNw : Nz z w := by
    rw [hw]
    exact Nz.o5 _ _
  exact ⟨FE_one (FE_congr hag f1) f2, Rel_Nz (hNw.tr (Nz.jt j2)) hR⟩

theorem ok_clearText {z z1 w z2 : Zt} {x v : Int} (hR : Rel z) (hw : w = zup z1 169 5 0) (h1 : (fun x z1 => zup z 22 1 0 = z1 ∧ x = z 22 1) x z1) (h2 : (fun v z1 => (zup w 169 7 0 = z1 ∧ v = w 169 7)) v z2) : x = v ∧ Rel z2 := by
  obtain ⟨y1, e1⟩ := h1
  obtain ⟨s0, e2⟩ := h2
  have h7 : z 22 1 = z 169 7 := hR.2.2.2.2.2.2.2.2.1
  refine ⟨?_, Rel_t hR (fun i a b c d e f g => ?_) ?_ ⟨?_, ?_, fun j hj => ?_⟩ ?_⟩
  · rw [e1, e2, hw, zup_r, if_neg (by decide), ← y1, zup_o (by decide)]
    exact h7
  · rw [← s0, zup_o d, hw, zup_o d, ← y1, zup_o a]
  · rw [← s0, zup_r, if_neg (by decide), hw, zup_r, if_neg (by decide), ← y1, zup_o (by decide)]
  · rw [← s0, zup_s, zup_o (by decide), hw, zup_o (by decide), ← y1, zup_s]
  · rw [← s0, zup_o (by decide), hw, zup_o (by decide), ← y1, zup_s]
    decide
  · rw [← s0, zup_o (by decide), hw, zup_o (by decide), ← y1, zup_s] at hj
    omega
  · rw [← s0, zup_o (by decide), hw, zup_o (by decide), ← y1, zup_s]
    decide

theorem ok_feastCount {z z1 w z2 : Zt} {x v : Int} (hR : Rel z) (hw : w = zup z1 169 5 0) (h1 : (fun x z1 => z = z1 ∧ x = z 1 3) x z1) (h2 : (fun v z1 => (w = z1 ∧ v = w 170 14)) v z2) : x = v ∧ Rel z2 := by
  obtain ⟨y1, e1⟩ := h1
  obtain ⟨s0, e2⟩ := h2
  subst y1 s0 hw
  refine ⟨?_, Rel_Nz (Nz.o5 _ _) hR⟩
  rw [e1, e2]
  rw [zup_o (by decide)]
  exact hR.1.2.2.1.1
theorem ok_shift {z z1 w z2 : Zt} {x v : Int} (hR : Rel z) (hw : w = zup z1 169 5 0) (h1 : (fun x z1 => z = z1 ∧ x = z 1 4) x z1) (h2 : (fun v z1 => (w = z1 ∧ v = w 170 55)) v z2) : x = v ∧ Rel z2 := by
  obtain ⟨y1, e1⟩ := h1
  obtain ⟨s0, e2⟩ := h2
  subst y1 s0 hw
  refine ⟨?_, Rel_Nz (Nz.o5 _ _) hR⟩
  rw [e1, e2]
  rw [zup_o (by decide)]
  exact hR.1.2.2.1.2.1
theorem ok_copiesPerDay {z z1 w z2 : Zt} {x v : Int} (hR : Rel z) (hw : w = zup z1 169 5 0) (h1 : (fun x z1 => z = z1 ∧ x = z 1 5) x z1) (h2 : (fun v z1 => (w = z1 ∧ v = w 170 56)) v z2) : x = v ∧ Rel z2 := by
  obtain ⟨y1, e1⟩ := h1
  obtain ⟨s0, e2⟩ := h2
  subst y1 s0 hw
  refine ⟨?_, Rel_Nz (Nz.o5 _ _) hR⟩
  rw [e1, e2]
  rw [zup_o (by decide)]
  exact hR.1.2.2.1.2.2.1
theorem ok_today {z z1 w z2 : Zt} {x v : Int} (hR : Rel z) (hw : w = zup z1 169 5 0) (h1 : (fun x z1 => z = z1 ∧ x = z 1 6) x z1) (h2 : (fun v z1 => (w = z1 ∧ v = w 170 57)) v z2) : x = v ∧ Rel z2 := by
  obtain ⟨y1, e1⟩ := h1
  obtain ⟨s0, e2⟩ := h2
  subst y1 s0 hw
  refine ⟨?_, Rel_Nz (Nz.o5 _ _) hR⟩
  rw [e1, e2]
  rw [zup_o (by decide)]
  exact hR.1.2.2.1.2.2.2.1
theorem ok_quarrelCount {z z1 w z2 : Zt} {x v : Int} (hR : Rel z) (hw : w = zup z1 169 5 0) (h1 : (fun x z1 => z = z1 ∧ x = z 1 7) x z1) (h2 : (fun v z1 => (w = z1 ∧ v = w 170 60)) v z2) : x = v ∧ Rel z2 := by
  obtain ⟨y1, e1⟩ := h1
  obtain ⟨s0, e2⟩ := h2
  subst y1 s0 hw
  refine ⟨?_, Rel_Nz (Nz.o5 _ _) hR⟩
  rw [e1, e2]
  rw [zup_o (by decide)]
  exact hR.1.2.2.1.2.2.2.2.1
theorem ok_copiesMade {z z1 w z2 : Zt} {x v : Int} (hR : Rel z) (hw : w = zup z1 169 5 0) (h1 : (fun x z1 => z = z1 ∧ x = z 1 8) x z1) (h2 : (fun v z1 => (w = z1 ∧ v = w 170 61)) v z2) : x = v ∧ Rel z2 := by
  obtain ⟨y1, e1⟩ := h1
  obtain ⟨s0, e2⟩ := h2
  subst y1 s0 hw
  refine ⟨?_, Rel_Nz (Nz.o5 _ _) hR⟩
  rw [e1, e2]
  rw [zup_o (by decide)]
  exact hR.1.2.2.1.2.2.2.2.2
theorem ok_undoCount {z z1 w z2 : Zt} {x v : Int} (hR : Rel z) (hw : w = zup z1 169 5 0) (h1 : (fun x z1 => z = z1 ∧ x = z 0 2) x z1) (h2 : (fun v z1 => (w = z1 ∧ v = w 169 2)) v z2) : x = v ∧ Rel z2 := by
  obtain ⟨y1, e1⟩ := h1
  obtain ⟨s0, e2⟩ := h2
  subst y1 s0 hw
  refine ⟨?_, Rel_Nz (Nz.o5 _ _) hR⟩
  rw [e1, e2]
  rw [zup_r, if_neg (by decide)]
  exact hR.2.2.2.1.1
theorem ok_textLength {z z1 w z2 : Zt} {x v : Int} (hR : Rel z) (hw : w = zup z1 169 5 0) (h1 : (fun x z1 => z = z1 ∧ x = z 22 1) x z1) (h2 : (fun v z1 => (w = z1 ∧ v = w 169 7)) v z2) : x = v ∧ Rel z2 := by
  obtain ⟨y1, e1⟩ := h1
  obtain ⟨s0, e2⟩ := h2
  subst y1 s0 hw
  refine ⟨?_, Rel_Nz (Nz.o5 _ _) hR⟩
  rw [e1, e2]
  rw [zup_r, if_neg (by decide)]
  exact hR.2.2.2.2.2.2.2.2.1
