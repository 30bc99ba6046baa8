/-! feasts: the day on which one is due, and kept; on which days of all years it is kept -/
theorem calN_mono {n : Int} {f g : Nat → Int} (h : GI n f g) {x y : Int} (hxy : x ≤ y) : ∀ k : Nat, (k : Int) ≤ n → calN f g x k + (y - x) ≤ calN f g y k
  | 0, _ => by simp only [calN]; omega
  | k + 1, hk => by
    have ih := calN_mono h hxy k (by omega)
    have hb := h.2.2.1 k (by omega)
    simp only [calN]
    split <;> split <;> omega
def gsum (g : Nat → Int) : Nat → Int
  | 0 => 0
  | k + 1 => gsum g k + g k
theorem GI_lt {n : Int} {f g : Nat → Int} (h : GI n f g) : ∀ (m j : Nat), (j : Int) + m + 1 < n → f j < f (j + m + 1)
  | 0, j, hm => h.2.2.2 j (by omega)
  | m + 1, j, hm => by
    have h1 := GI_lt h m j (by omega)
    have h2 := h.2.2.2 (j + m + 1) (by omega)
    rw [show j + (m + 1) + 1 = (j + m + 1) + 1 by omega]
    omega
theorem calN_all {n : Int} {f g : Nat → Int} (h : GI n f g) {x : Int} : ∀ k : Nat, (k : Int) ≤ n → (∀ j : Nat, j < k → f j < x) → calN f g x k = x + gsum g k
  | 0, _, _ => by simp [calN, gsum]
  | k + 1, hk, hx => by
    have ih := calN_all h k (by omega) (fun j hj => hx j (by omega))
    simp only [calN, gsum]
    rw [ih, if_pos (hx k (by omega))]
    omega
theorem calN_beyond {n : Int} {f g : Nat → Int} (h : GI n f g) {x : Int} {k : Nat} (hk : (k : Int) < n) (hx : f k < x) : calN f g x k = x + gsum g k := by
  refine calN_all h k (by omega) (fun j hj => ?_)
  have h1 := GI_lt h (k - j - 1) j (by omega)
  rw [show j + (k - j - 1) + 1 = k by omega] at h1
  omega
theorem fdN_is {n : Int} {f g : Nat → Int} (h : GI n f g) (d : Int) : ∀ k : Nat, (k : Int) ≤ n → d ≤ calN f g (fdN f g d k) k ∧ ∀ x, x < fdN f g d k → calN f g x k < d
  | 0, _ => by simp [calN, fdN]
  | k + 1, hk => by
    obtain ⟨i1, i2⟩ := fdN_is h d k (by omega)
    have hb := h.2.2.1 k (by omega)
    by_cases q : f k < fdN f g d k
    · have e1 := calN_beyond h (k := k) (by omega) q
      have e2 : fdN f g d (k + 1) = (if f k + 1 < fdN f g d k - g k then fdN f g d k - g k else f k + 1) := by
        simp only [fdN]
        rw [if_pos q]
      have q2 : f k < fdN f g d (k + 1) := by rw [e2]; split <;> omega
      have e3 := calN_beyond h (k := k) (by omega) q2
      have q4 : fdN f g d k - g k ≤ fdN f g d (k + 1) := by rw [e2]; split <;> omega
      refine ⟨?_, fun x hx => ?_⟩
      · simp only [calN]
        rw [if_pos q2]
        omega
      · simp only [calN]
        by_cases q3 : f k < x
        · rw [if_pos q3]
          have hx2 : x < fdN f g d k - g k := by
            rw [e2] at hx
            split at hx <;> omega
          have e4 := i2 (x + g k) (by omega)
          rw [calN_beyond h (k := k) (by omega) (show f k < x + g k by omega)] at e4
          rw [calN_beyond h (k := k) (by omega) q3]
          omega
        · rw [if_neg q3]
          have := i2 x (by omega)
          omega
    · have e2 : fdN f g d (k + 1) = fdN f g d k := by
        simp only [fdN]
        rw [if_neg q]
      rw [e2]
      refine ⟨?_, fun x hx => ?_⟩
      · simp only [calN]
        rw [if_neg q]
        omega
      · simp only [calN]
        rw [if_neg (by omega)]
        have := i2 x hx
        omega
def yG (a n : Int) (f g : Nat → Int) (d : Int) : Int := 1 + calN f g d n.toNat / yl a
def nd (a m dd : Int) : Int := if dd < mlen a m + 1 then dd else mlen a m + 1
def dueG (a n : Int) (f g : Nat → Int) (m dd y : Int) : Int := if yG a n f g (fdN f g (dof a y m (nd a m dd)) n.toNat) = y then fdN f g (dof a y m (nd a m dd)) n.toNat else -1
def keG (sh b u : Int) : Int := if u = -1 then u else if u % 7 = b then u + (if sh = 7 then 1 else sh) else u
def kG (a n : Int) (f g : Nat → Int) (sh m dd b y : Int) : Int := keG sh b (dueG a n f g m dd y)
/-- K: the day of a year; Y: the year of a day -/
def Kok (K Y : Int → Int) : Prop := (∀ x x', 0 ≤ x → x ≤ x' → Y x ≤ Y x') ∧ (∀ x, 0 ≤ x → 1 ≤ Y x) ∧ (∀ y, 1 ≤ y → K y = -1 ∨ 0 ≤ K y) ∧ (∀ y y', 1 ≤ y → y < y' → K y ≠ -1 → K y' ≠ -1 → K y < K y') ∧
  (∀ y d x, 1 ≤ y → 0 ≤ d → K y = d → 0 ≤ x → (x = 0 ∨ x + 9 ≤ d) → Y x ≤ y) ∧ ∀ y d, 1 ≤ y → 0 ≤ d → K y = d → y ≤ Y d ∧ Y d ≤ y + 1
theorem yG_mono {a n : Int} {f g : Nat → Int} (h : GI n f g) {x x' : Int} (hx : x ≤ x') : yG a n f g x ≤ yG a n f g x' := by
  have h1 := calN_mono h hx n.toNat (by have := h.1; omega)
  unfold yG
  have h2 : calN f g x n.toNat / yl a ≤ calN f g x' n.toNat / yl a := Int.ediv_le_ediv (by have := yl_bd a; omega) (by omega)
  omega
theorem yG_pos {a n : Int} {f g : Nat → Int} (h : GI n f g) {x : Int} (hx : 0 ≤ x) : 1 ≤ yG a n f g x := by
  have h1 := calN_bd h x n.toNat (by have := h.1; omega)
  have h2 : 0 ≤ calN f g x n.toNat / yl a := Int.ediv_nonneg (by omega) (by have := yl_bd a; omega)
  unfold yG
  omega
theorem yG_bd {a n : Int} {f g : Nat → Int} (h : GI n f g) {x : Int} (hx : 0 ≤ x ∧ x ≤ 100000) : 1 ≤ yG a n f g x ∧ yG a n f g x ≤ 300 := by
  refine ⟨yG_pos h hx.1, ?_⟩
  have h1 := calN_bd h x n.toNat (by have := h.1; omega)
  have h2 := h.2.1
  unfold yG yl
  split <;> omega
theorem nd_bd {a m dd : Int} (h : 1 ≤ dd) : 1 ≤ nd a m dd ∧ nd a m dd ≤ mlen a m + 1 := by
  have := mlen_bd a m
  unfold nd
  split <;> omega
theorem dofN_bd {a y m dd : Int} (hm : 1 ≤ m ∧ m ≤ 12) (hd : 1 ≤ dd) : (y - 1) * yl a ≤ dof a y m (nd a m dd) ∧ dof a y m (nd a m dd) ≤ y * yl a := by
  have h1 := nd_bd (a := a) (m := m) hd
  have h2 := mbef_bd (a := a) hm.1
  have h3 := mbef_s (a := a) hm.1
  have h4 : mbef a (m + 1) ≤ yl a := by
    rw [← mbef_13]
    unfold mbef
    split <;> omega
  unfold dof
  rw [show y * yl a = (y - 1) * yl a + yl a by rw [Int.sub_mul]; omega]
  omega
theorem dofN_step (a y m d : Int) (k : Int) : dof a (y + k) m d = dof a y m d + k * yl a := by
  unfold dof
  rw [show y + k - 1 = (y - 1) + k by omega, Int.add_mul]
  omega
theorem due_is {a n : Int} {f g : Nat → Int} {m dd y : Int} (h : GI n f g) (hm : 1 ≤ m ∧ m ≤ 12) (hd : 1 ≤ dd ∧ dd ≤ 31) (hy : 1 ≤ y) :
    dueG a n f g m dd y = -1 ∨ ∃ u, dueG a n f g m dd y = u ∧ 0 ≤ u ∧ yG a n f g u = y ∧ dof a y m (nd a m dd) ≤ calN f g u n.toNat ∧ (∀ x, x < u → calN f g x n.toNat < dof a y m (nd a m dd)) ∧ u ≤ dof a y m (nd a m dd) := by
  have h0 := h.1
  have h1 := fdN_is h (dof a y m (nd a m dd)) n.toNat (by omega)
  have hyl := yl_bd a
  have h2 := dofN_bd (a := a) (y := y) hm hd.1
  have h3 : 0 ≤ (y - 1) * yl a := Int.mul_nonneg (by omega) (by omega)
  have h4 := fdN_bd h (d := dof a y m (nd a m dd)) (by omega) n.toNat (by omega)
  unfold dueG
  split
  · rename_i q
    exact Or.inr ⟨_, rfl, h4.1, q, h1.1, h1.2, h4.2⟩
  · exact Or.inl rfl
theorem keG_bd {sh b u : Int} (hs : 1 ≤ sh ∧ sh ≤ 9) (hu : 0 ≤ u) : u ≤ keG sh b u ∧ keG sh b u ≤ u + 9 := by
  unfold keG
  rw [if_neg (by omega)]
  split
  · split <;> omega
  · omega
theorem kG_ok {a n : Int} {f g : Nat → Int} {sh m dd : Int} (b : Int) (h : GI n f g) (hs : 1 ≤ sh ∧ sh ≤ 9) (hm : 1 ≤ m ∧ m ≤ 12) (hd : 1 ≤ dd ∧ dd ≤ 31) : Kok (kG a n f g sh m dd b) (yG a n f g) := by
  have hyl := yl_bd a
  have hn := h.1
  have hn3 := h.2.1
  have hcal : ∀ x, x ≤ calN f g x n.toNat ∧ calN f g x n.toNat ≤ x + 120 := fun x => by
    have := calN_bd h x n.toNat (by omega)
    omega
  have key : ∀ y, 1 ≤ y → kG a n f g sh m dd b y = -1 ∨ ∃ u, u ≤ kG a n f g sh m dd b y ∧ kG a n f g sh m dd b y ≤ u + 9 ∧ 0 ≤ u ∧ yG a n f g u = y ∧ dof a y m (nd a m dd) ≤ calN f g u n.toNat ∧ (∀ x, x < u → calN f g x n.toNat < dof a y m (nd a m dd)) := by
    intro y hy
    rcases due_is (a := a) h hm hd hy with q | ⟨u, q1, q2, q3, q4, q5, -⟩
    · left
      unfold kG keG
      rw [q, if_pos rfl]
    · right
      have := keG_bd (b := b) hs q2
      unfold kG
      rw [q1]
      exact ⟨u, this.1, this.2, q2, q3, q4, q5⟩
  refine ⟨fun x x' _ hx => yG_mono h hx, fun x hx => yG_pos h hx, fun y hy => ?_, fun y y' hy hyy k1 k2 => ?_, fun y d x hy hd0 e hx hxd => ?_, fun y d hy hd0 e => ?_⟩
  · rcases key y hy with q | ⟨u, q1, q2, q3, -⟩
    · exact Or.inl q
    · exact Or.inr (by omega)
  · rcases key y hy with q | ⟨u, q1, q2, q3, q4, q5, q6⟩
    · exact absurd q k1
    · rcases key y' (by omega) with p | ⟨v, p1, p2, p3, p4, p5, p6⟩
      · exact absurd p k2
      · have e1 := dofN_step a y m (nd a m dd) (y' - y)
        rw [show y + (y' - y) = y' by omega] at e1
        have e2 : yl a ≤ (y' - y) * yl a := by
          have : 1 * yl a ≤ (y' - y) * yl a := Int.mul_le_mul_of_nonneg_right (by omega) (by omega)
          omega
        have e3 := q6 (u - 1) (by omega)
        have e4 := hcal (u - 1)
        have e5 := hcal v
        omega
  · rcases key y hy with q | ⟨u, q1, q2, q3, q4, q5, q6⟩
    · omega
    · rw [← q4]
      exact yG_mono h (by omega)
  · rcases key y hy with q | ⟨u, q1, q2, q3, q4, q5, q6⟩
    · omega
    · constructor
      · rw [← q4]
        exact yG_mono h (by omega)
      · have e1 := hcal d
        have e2 := hcal u
        have e3 : calN f g d n.toNat ≤ calN f g u n.toNat + yl a := by omega
        have e4 : calN f g d n.toNat / yl a ≤ (calN f g u n.toNat + yl a) / yl a := Int.ediv_le_ediv (by omega) e3
        rw [Int.add_ediv_of_dvd_right (Int.dvd_refl _), Int.ediv_self (by omega)] at e4
        unfold yG at q4 ⊢
        omega
def onK (K Y : Int → Int) (d : Int) : Prop := K (Y d) = d ∨ (1 < Y d ∧ K (Y d - 1) = d)
theorem on_ex {K Y : Int → Int} (h : Kok K Y) {d : Int} (hd : 0 ≤ d) : onK K Y d ↔ ∃ y, 1 ≤ y ∧ K y = d := by
  obtain ⟨h1, h2, h3, h4, h5, h6⟩ := h
  constructor
  · rintro (q | ⟨q1, q2⟩)
    · exact ⟨_, h2 d hd, q⟩
    · exact ⟨_, by omega, q2⟩
  · rintro ⟨y, hy, e⟩
    have := h6 y d hy hd e
    by_cases q : y = Y d
    · exact Or.inl (q ▸ e)
    · exact Or.inr ⟨by omega, by rw [show Y d - 1 = y by omega]; exact e⟩
/-- x is the first day of a span on which the feast is kept and P holds; -1 where there is none -/
def FKP (K Y : Int → Int) (P : Int → Prop) (fr to x : Int) : Prop := (x = -1 ∧ ∀ d, fr ≤ d → d ≤ to → ¬ (onK K Y d ∧ P d)) ∨ (fr ≤ x ∧ x ≤ to ∧ (onK K Y x ∧ P x) ∧ ∀ d, fr ≤ d → d < x → ¬ (onK K Y d ∧ P d))
def y0of (Y : Int → Int) (fr : Int) : Int := Y (if 0 < fr - 9 then fr - 9 else 0)
theorem fk_none {K Y : Int → Int} {P : Int → Prop} (h : Kok K Y) {fr to yy : Int} (hf : 0 ≤ fr) (hi : ∀ y', y0of Y fr ≤ y' → y' < yy → ¬ (fr ≤ K y' ∧ K y' ≤ to ∧ P (K y'))) (hy : Y to < yy) : FKP K Y P fr to (-1) := by
  refine Or.inl ⟨rfl, fun d d1 d2 ⟨q, hp⟩ => ?_⟩
  obtain ⟨y, k1, k2⟩ := (on_ex h (by omega)).mp q
  obtain ⟨h1, h2, h3, h4, h5, h6⟩ := h
  have a1 := h5 y d (if 0 < fr - 9 then fr - 9 else 0) k1 (by omega) k2 (by split <;> omega) (by split <;> omega)
  have a2 := h6 y d k1 (by omega) k2
  have a3 := h1 d to (by omega) d2
  exact hi y a1 (by omega) (by rw [k2]; exact ⟨d1, d2, hp⟩)
theorem fk_found {K Y : Int → Int} {P : Int → Prop} (h : Kok K Y) {fr to yy : Int} (hf : 0 ≤ fr) (hy1 : 1 ≤ yy) (hi : ∀ y', y0of Y fr ≤ y' → y' < yy → ¬ (fr ≤ K y' ∧ K y' ≤ to ∧ P (K y'))) (h1 : fr ≤ K yy) (h2 : K yy ≤ to) (hp : P (K yy)) : FKP K Y P fr to (K yy) := by
  refine Or.inr ⟨h1, h2, ⟨(on_ex h (by omega)).mpr ⟨yy, hy1, rfl⟩, hp⟩, fun d d1 d2 ⟨q, hpd⟩ => ?_⟩
  obtain ⟨y, k1, k2⟩ := (on_ex h (by omega)).mp q
  obtain ⟨g1, g2, g3, g4, g5, g6⟩ := h
  have a1 := g5 y d (if 0 < fr - 9 then fr - 9 else 0) k1 (by omega) k2 (by split <;> omega) (by split <;> omega)
  have a4 : y < yy := by
    by_cases q : y < yy
    · exact q
    · have q := Int.not_lt.mp q
      rcases Int.lt_or_eq_of_le q with q2 | q2
      · have := g4 yy y hy1 q2 (by omega) (by omega)
        omega
      · rw [q2] at d2
        omega
  exact hi y a1 a4 (by rw [k2]; exact ⟨d1, by omega, hpd⟩)
/-! a state of the system: its towns, its feasts -/
def FI (z : Zt) (f : Nat) : Prop := (z f 0 = 0 ∨ z f 0 = 1) ∧ 1 ≤ z f 1 ∧ z f 1 ≤ 12 ∧ 1 ≤ z f 2 ∧ z f 2 ≤ 31 ∧ -1 ≤ z f 3 ∧ z f 3 ≤ 6
def SI (z : Zt) (s : Nat) : Prop := TI z (s + 1) ∧ TI z (s + 4) ∧ z (s + 1) 0 = 1 ∧ z (s + 4) 0 = 0 ∧ (0 ≤ z s 3 ∧ z s 3 ≤ 10) ∧ (1 ≤ z s 4 ∧ z s 4 ≤ 9) ∧ (0 ≤ z s 5 ∧ z s 5 ≤ 9) ∧ (0 ≤ z s 6 ∧ z s 6 ≤ 9999) ∧ ∀ k : Nat, k < 10 → FI z (s + 8 + k)
def tw (z : Zt) (s f : Nat) : Nat := if z f 0 = 0 then s + 1 else s + 4
def yS (z : Zt) (s f : Nat) (d : Int) : Int := yG (z (tw z s f) 0) (z (tw z s f) 3) (z (tw z s f + 1)) (z (tw z s f + 2)) d
def dS (z : Zt) (s f : Nat) (y : Int) : Int := dueG (z (tw z s f) 0) (z (tw z s f) 3) (z (tw z s f + 1)) (z (tw z s f + 2)) (z f 1) (z f 2) y
def kS (z : Zt) (s f : Nat) (y : Int) : Int := kG (z (tw z s f) 0) (z (tw z s f) 3) (z (tw z s f + 1)) (z (tw z s f + 2)) (z s 4) (z f 1) (z f 2) (z f 3) y
def onS (z : Zt) (s f : Nat) (d : Int) : Prop := onK (kS z s f) (yS z s f) d
theorem SI_tw {z : Zt} {s f : Nat} (h : SI z s) : TI z (tw z s f) := by
  unfold tw
  split
  · exact h.1
  · exact h.2.1
theorem kS_ok {z : Zt} {s f : Nat} (h : SI z s) (hf : FI z f) : Kok (kS z s f) (yS z s f) := kG_ok _ (SI_tw h).2 h.2.2.2.2.2.1 ⟨hf.2.1, hf.2.2.1⟩ ⟨hf.2.2.2.1, hf.2.2.2.2.1⟩
theorem yS_bd {z : Zt} {s f : Nat} (h : SI z s) {x : Int} (hx : 0 ≤ x ∧ x ≤ 100000) : 1 ≤ yS z s f x ∧ yS z s f x ≤ 300 := yG_bd (SI_tw h).2 hx
theorem kS_bd {z : Zt} {s f : Nat} (h : SI z s) (hf : FI z f) {y : Int} (hy : 1 ≤ y ∧ y ≤ 1000) : -1 ≤ kS z s f y ∧ kS z s f y ≤ 400000 := by
  have h9 := (SI_tw (f := f) h).2
  rcases due_is (a := z (tw z s f) 0) h9 ⟨hf.2.1, hf.2.2.1⟩ ⟨hf.2.2.2.1, hf.2.2.2.2.1⟩ hy.1 with q | ⟨u, q1, q2, -, -, -, q3⟩
  · unfold kS kG keG
    rw [q, if_pos rfl]
    omega
  · have h1 := keG_bd (b := z f 3) h.2.2.2.2.2.1 q2
    have h2 := (dofN_bd (a := z (tw z s f) 0) (y := y) ⟨hf.2.1, hf.2.2.1⟩ hf.2.2.2.1).2
    have h3 : y * yl (z (tw z s f) 0) ≤ 366000 := by
      unfold yl
      split <;> omega
    unfold kS kG
    rw [q1]
    omega
