/-! a row of 62 numbers, read as gaps, feasts and counts -/
def mN (ρ : Nat → Int) (t : Int) : Int := ρ (7 * t).toNat
def mD (ρ : Nat → Int) (t : Int) (k : Nat) : Int := ρ (7 * t + 1 + 2 * k).toNat
def mL (ρ : Nat → Int) (t : Int) (k : Nat) : Int := ρ (7 * t + 2 + 2 * k).toNat
def mF (ρ : Nat → Int) (f w : Int) : Int := ρ (15 + 4 * f + w).toNat
def MF (ρ : Nat → Int) (f : Int) : Prop := (mF ρ f 0 = 0 ∨ mF ρ f 0 = 1) ∧ 1 ≤ mF ρ f 1 ∧ mF ρ f 1 ≤ 12 ∧ 1 ≤ mF ρ f 2 ∧ mF ρ f 2 ≤ 31 ∧ -1 ≤ mF ρ f 3 ∧ mF ρ f 3 ≤ 6
def MG (ρ : Nat → Int) : Prop := ∀ t : Int, (t = 0 ∨ t = 1) → GI (mN ρ t) (mD ρ t) (mL ρ t)
def MI (ρ : Nat → Int) : Prop := MG ρ ∧ (0 ≤ ρ 14 ∧ ρ 14 ≤ 10) ∧ (∀ f : Int, 0 ≤ f → f < ρ 14 → MF ρ f) ∧ (1 ≤ ρ 55 ∧ ρ 55 ≤ 9) ∧ (0 ≤ ρ 56 ∧ ρ 56 ≤ 9) ∧ (0 ≤ ρ 57 ∧ ρ 57 ≤ 9999)
def calM (ρ : Nat → Int) (t d : Int) : Int := calN (mD ρ t) (mL ρ t) d (mN ρ t).toNat
def fdM (ρ : Nat → Int) (t d : Int) : Int := fdN (mD ρ t) (mL ρ t) d (mN ρ t).toNat
def yM (ρ : Nat → Int) (f d : Int) : Int := yG (1 - mF ρ f 0) (mN ρ (mF ρ f 0)) (mD ρ (mF ρ f 0)) (mL ρ (mF ρ f 0)) d
def dM (ρ : Nat → Int) (f y : Int) : Int := dueG (1 - mF ρ f 0) (mN ρ (mF ρ f 0)) (mD ρ (mF ρ f 0)) (mL ρ (mF ρ f 0)) (mF ρ f 1) (mF ρ f 2) y
def kM (ρ : Nat → Int) (f y : Int) : Int := kG (1 - mF ρ f 0) (mN ρ (mF ρ f 0)) (mD ρ (mF ρ f 0)) (mL ρ (mF ρ f 0)) (ρ 55) (mF ρ f 1) (mF ρ f 2) (mF ρ f 3) y
def onM (ρ : Nat → Int) (f d : Int) : Prop := onK (kM ρ f) (yM ρ f) d
theorem calM_bd {ρ : Nat → Int} (h : MG ρ) {t : Int} (ht : t = 0 ∨ t = 1) (d : Int) : d ≤ calM ρ t d ∧ calM ρ t d ≤ d + 120 := by
  have h := h t ht
  have h1 := calN_bd h d (mN ρ t).toNat (by have := h.1; omega)
  have h2 := h.2.1
  unfold calM
  omega
theorem fdM_bd {ρ : Nat → Int} (h : MG ρ) {t : Int} (ht : t = 0 ∨ t = 1) {d : Int} (hd : 0 ≤ d) : 0 ≤ fdM ρ t d ∧ fdM ρ t d ≤ d := by
  have h := h t ht
  exact fdN_bd h hd (mN ρ t).toNat (by have := h.1; omega)
theorem kM_ok {ρ : Nat → Int} (h : MI ρ) {f : Int} (hf : MF ρ f) : Kok (kM ρ f) (yM ρ f) := kG_ok _ (h.1 _ hf.1) h.2.2.2.1 ⟨hf.2.1, hf.2.2.1⟩ ⟨hf.2.2.2.1, hf.2.2.2.2.1⟩
theorem due_lt {a n : Int} {f g : Nat → Int} {m dd y : Int} (h : GI n f g) (hm : 1 ≤ m ∧ m ≤ 12) (hd : 1 ≤ dd) :
    (calN f g (fdN f g (dof a y m (nd a m dd)) n.toNat) n.toNat < (y - 1) * yl a + yl a ↔ yG a n f g (fdN f g (dof a y m (nd a m dd)) n.toNat) = y) := by
  have h0 := h.1
  have h1 := (fdN_is h (dof a y m (nd a m dd)) n.toNat (by omega)).1
  have h2 := (dofN_bd (a := a) (y := y) hm hd).1
  have hyl := yl_bd a
  have key : ∀ c : Int, (y - 1) * yl a ≤ c → (c < (y - 1) * yl a + yl a ↔ 1 + c / yl a = y) := fun c hc => by
    by_cases q : a = 0
    · have e : yl a = 336 := by
        unfold yl
        rw [if_pos q]
      rw [e] at hc ⊢
      omega
    · have e : yl a = 366 := by
        unfold yl
        rw [if_neg q]
      rw [e] at hc ⊢
      omega
  exact key _ (by omega)
theorem dM_bd {ρ : Nat → Int} (h : MG ρ) {f : Int} (hf : MF ρ f) {y : Int} (hy : 1 ≤ y ∧ y ≤ 1000) : -1 ≤ dM ρ f y ∧ dM ρ f y ≤ 400000 := by
  rcases due_is (a := 1 - mF ρ f 0) (h _ hf.1) ⟨hf.2.1, hf.2.2.1⟩ ⟨hf.2.2.2.1, hf.2.2.2.2.1⟩ hy.1 with q | ⟨u, q1, q2, -, -, -, q3⟩
  · unfold dM
    rw [q]; omega
  · have h2 := (dofN_bd (a := 1 - mF ρ f 0) (y := y) ⟨hf.2.1, hf.2.2.1⟩ hf.2.2.2.1).2
    have h3 : y * yl (1 - mF ρ f 0) ≤ 366000 := by
      unfold yl
      split <;> omega
    unfold dM
    rw [q1]
    omega
theorem kM_bd {ρ : Nat → Int} (h : MG ρ) (hs : 1 ≤ ρ 55 ∧ ρ 55 ≤ 9) {f : Int} (hf : MF ρ f) {y : Int} (hy : 1 ≤ y ∧ y ≤ 1000) : -1 ≤ kM ρ f y ∧ kM ρ f y ≤ 400009 := by
  have h1 := dM_bd h hf hy
  have e : kM ρ f y = keG (ρ 55) (mF ρ f 3) (dM ρ f y) := rfl
  rw [e]
  by_cases q : dM ρ f y = -1
  · unfold keG
    rw [if_pos q]
    omega
  · have := keG_bd (b := mF ρ f 3) (u := dM ρ f y) hs (by omega)
    omega
theorem yM_bd {ρ : Nat → Int} (h : MG ρ) {f : Int} (hf : MF ρ f) {x : Int} (hx : 0 ≤ x ∧ x ≤ 100000) : 1 ≤ yM ρ f x ∧ yM ρ f x ≤ 300 := yG_bd (h _ hf.1) hx
def quM (ρ : Nat → Int) (d : Int) : Prop := (∃ j : Nat, ((j : Int) < ρ 14 ∧ onM ρ j d) ∧ mF ρ j 0 = 0) ∧ ∃ j : Nat, ((j : Int) < ρ 14 ∧ onM ρ j d) ∧ mF ρ j 0 = 1
/-- rows that agree on the days' part -/
def agR (ρ σ : Nat → Int) : Prop := ∀ p : Nat, p < 57 → σ p = ρ p
theorem agR_mN {ρ σ : Nat → Int} (h : agR ρ σ) {t : Int} (ht : t = 0 ∨ t = 1) : mN σ t = mN ρ t := by
  unfold mN
  rcases ht with rfl | rfl
  · exact h 0 (by decide)
  · exact h 7 (by decide)
theorem agR_mD {ρ σ : Nat → Int} (h : agR ρ σ) {t : Int} (ht : t = 0 ∨ t = 1) {k : Nat} (hk : k < 3) : mD σ t k = mD ρ t k ∧ mL σ t k = mL ρ t k := by
  unfold mD mL
  exact ⟨h _ (by omega), h _ (by omega)⟩
theorem agR_mF {ρ σ : Nat → Int} (h : agR ρ σ) {f w : Int} (hf : 0 ≤ f ∧ f < 10) (hw : 0 ≤ w ∧ w ≤ 3) : mF σ f w = mF ρ f w := by
  unfold mF
  exact h _ (by omega)
theorem agR_kM {ρ σ : Nat → Int} (h : agR ρ σ) (hM : MG ρ) {f : Int} (hf : 0 ≤ f ∧ f < 10) (hF : MF ρ f) : (∀ y, kM σ f y = kM ρ f y) ∧ ∀ d, yM σ f d = yM ρ f d := by
  have e0 := agR_mF h hf (w := 0) (by decide)
  have e1 := agR_mF h hf (w := 1) (by decide)
  have e2 := agR_mF h hf (w := 2) (by decide)
  have e3 := agR_mF h hf (w := 3) (by decide)
  have ht := hF.1
  have en := agR_mN h ht
  have hg := hM _ ht
  have eD : ∀ k : Nat, (k : Int) < mN ρ (mF ρ f 0) → mD σ (mF ρ f 0) k = mD ρ (mF ρ f 0) k ∧ mL σ (mF ρ f 0) k = mL ρ (mF ρ f 0) k := fun k hk => agR_mD h ht (by have := hg.2.1; omega)
  have e55 := h 55 (by decide)
  constructor
  · intro y
    unfold kM
    rw [e0, e1, e2, e3, en, e55, kG_congr eD hg.1]
  · intro d
    unfold yM
    rw [e0, en, yG_congr eD hg.1]
theorem agR_on {ρ σ : Nat → Int} (h : agR ρ σ) (hM : MG ρ) {f : Int} (hf : 0 ≤ f ∧ f < 10) (hF : MF ρ f) (d : Int) : onM σ f d ↔ onM ρ f d := by
  obtain ⟨h1, h2⟩ := agR_kM h hM hf hF
  unfold onM onK
  rw [h2, h1, h1]
theorem agR_MI {ρ σ : Nat → Int} (h : agR ρ σ) (hM : MI ρ) (h57 : 0 ≤ σ 57 ∧ σ 57 ≤ 9999) : MI σ := by
  obtain ⟨a1, a2, a3, a4, a5, a6⟩ := hM
  have e14 := h 14 (by decide)
  refine ⟨fun t ht => ?_, by rw [e14]; exact a2, fun f f1 f2 => ?_, by rw [h 55 (by decide)]; exact a4, by rw [h 56 (by decide)]; exact a5, h57⟩
  · have hg := a1 t ht
    obtain ⟨g1, g2, g3, g4⟩ := hg
    have en := agR_mN h ht
    unfold GI
    rw [en]
    refine ⟨g1, g2, fun k hk => ?_, fun k hk => ?_⟩
    · have := agR_mD h ht (k := k) (by omega)
      rw [this.1, this.2]
      exact g3 k hk
    · rw [(agR_mD h ht (k := k) (by omega)).1, (agR_mD h ht (k := k + 1) (by omega)).1]
      exact g4 k hk
  · rw [e14] at f2
    have h9 := a3 f f1 f2
    unfold MF at h9 ⊢
    rw [agR_mF h (f := f) (by omega) (by decide), agR_mF h (f := f) (by omega) (by decide), agR_mF h (f := f) (by omega) (by decide), agR_mF h (f := f) (by omega) (by decide)]
    exact h9

def updR (ρ : Nat → Int) (k : Nat) (x : Int) : Nat → Int := fun j => if j = k then x else ρ j
noncomputable def qwM (ρ : Nat → Int) (n : Nat) : Int := cntP (fun i => quM ρ (ρ 57 + i)) n
theorem barR_MI {ρ : Nat → Int} {f b : Int} (hM : MI ρ) (hf : 0 ≤ f ∧ f < ρ 14) (hb : -1 ≤ b ∧ b ≤ 6) : MI (updR ρ (15 + 4 * f + 3).toNat b) := by
  obtain ⟨a1, a2, a3, a4, a5, a6⟩ := hM
  have o : ∀ p : Nat, p ≠ (15 + 4 * f + 3).toNat → updR ρ (15 + 4 * f + 3).toNat b p = ρ p := fun p hp => by simp [updR, hp]
  refine ⟨fun t ht => ?_, by rw [o _ (by omega)]; exact a2, fun g g1 g2 => ?_, by rw [o _ (by omega)]; exact a4, by rw [o _ (by omega)]; exact a5, by rw [o _ (by omega)]; exact a6⟩
  · have hg := a1 t ht
    obtain ⟨g1, g2, g3, g4⟩ := hg
    have en : mN (updR ρ (15 + 4 * f + 3).toNat b) t = mN ρ t := by
      unfold mN
      exact o _ (by omega)
    have eD : ∀ k : Nat, k < 3 → mD (updR ρ (15 + 4 * f + 3).toNat b) t k = mD ρ t k ∧ mL (updR ρ (15 + 4 * f + 3).toNat b) t k = mL ρ t k := fun k hk => by
      unfold mD mL
      exact ⟨o _ (by omega), o _ (by omega)⟩
    unfold GI
    rw [en]
    refine ⟨g1, g2, fun k hk => ?_, fun k hk => ?_⟩
    · rw [(eD k (by omega)).1, (eD k (by omega)).2]
      exact g3 k hk
    · rw [(eD k (by omega)).1, (eD (k + 1) (by omega)).1]
      exact g4 k hk
  · rw [o _ (by omega)] at g2
    have h9 := a3 g g1 g2
    unfold MF at h9 ⊢
    have e0 : ∀ x : Int, 0 ≤ x → x ≤ 2 → mF (updR ρ (15 + 4 * f + 3).toNat b) g x = mF ρ g x := fun x x1 x2 => by
      unfold mF
      exact o _ (by omega)
    rw [e0 0 (by decide) (by decide), e0 1 (by decide) (by decide), e0 2 (by decide) (by decide)]
    by_cases q : g = f
    · have e3 : mF (updR ρ (15 + 4 * f + 3).toNat b) g 3 = b := by
        unfold mF
        rw [q]
        simp [updR]
      rw [e3]
      omega
    · have e3 : mF (updR ρ (15 + 4 * f + 3).toNat b) g 3 = mF ρ g 3 := by
        unfold mF
        exact o _ (by omega)
      rw [e3]
      exact h9
noncomputable def psR (ρ : Nat → Int) (k : Nat) : Nat → Int := fun p =>
  if p = 58 then ρ 58 + sumN (fun i => cntP (fun j => ((j : Int) < ρ 14 ∧ onM ρ j (ρ 57 + i)) ∧ mF ρ j 0 = 0) (ρ 14).toNat) k
  else if p = 59 then ρ 59 + sumN (fun i => cntP (fun j => ((j : Int) < ρ 14 ∧ onM ρ j (ρ 57 + i)) ∧ mF ρ j 0 = 1) (ρ 14).toNat) k
  else if p = 60 then ρ 60 + qwM ρ k
  else if p = 61 then ρ 61 + sumN (fun i => ind (∀ j : Nat, ¬ ((j : Int) < ρ 14 ∧ onM ρ j (ρ 57 + i))) * ρ 56) k
  else if p = 57 then ρ 57 + k else ρ p
theorem psR_0 (ρ : Nat → Int) : psR ρ 0 = ρ := by
  funext p
  unfold psR qwM
  simp only [sumN, cntP]
  by_cases q1 : p = 58
  · subst q1; simp
  by_cases q2 : p = 59
  · subst q2; simp
  by_cases q3 : p = 60
  · subst q3; simp
  by_cases q4 : p = 61
  · subst q4; simp
  by_cases q5 : p = 57
  · subst q5; simp
  simp [q1, q2, q3, q4, q5]
theorem psR_57 (ρ : Nat → Int) (k : Nat) : psR ρ k 57 = ρ 57 + k := by simp [psR]
theorem psR_56 (ρ : Nat → Int) (k : Nat) : psR ρ k 56 = ρ 56 := by simp [psR]
theorem psR_ag (ρ : Nat → Int) (k : Nat) : agR ρ (psR ρ k) := fun p hp => by
  unfold psR
  rw [if_neg (by omega), if_neg (by omega), if_neg (by omega), if_neg (by omega), if_neg (by omega)]
def st5 (σ : Nat → Int) (a b c e : Int) : Nat → Int := fun p => if p = 58 then σ 58 + a else if p = 59 then σ 59 + b else if p = 60 then σ 60 + c else if p = 61 then σ 61 + e else if p = 57 then σ 57 + 1 else σ p
theorem psR_step {ρ : Nat → Int} {k : Nat} {v a b : Int} (hs : isSet (fun j : Nat => (j : Int) < ρ 14 ∧ onM ρ j (ρ 57 + k)) v) (ha : a = cntP (fun j => ((j : Int) < ρ 14 ∧ onM ρ j (ρ 57 + k)) ∧ mF ρ j 0 = 0) (ρ 14).toNat) (hb : b = cntP (fun j => ((j : Int) < ρ 14 ∧ onM ρ j (ρ 57 + k)) ∧ mF ρ j 0 = 1) (ρ 14).toNat) : psR ρ (k + 1) = st5 (psR ρ k) a b (if 0 < a ∧ 0 < b then 1 else 0) (if v = 0 then ρ 56 else 0) := by
  have hA : 0 < a ↔ ∃ j : Nat, ((j : Int) < ρ 14 ∧ onM ρ j (ρ 57 + k)) ∧ mF ρ j 0 = 0 := by
    rw [ha]
    refine cntP_pos_iff.trans ⟨fun ⟨j, _, h⟩ => ⟨j, h⟩, fun ⟨j, h⟩ => ⟨j, ?_, h⟩⟩
    have := h.1.1
    omega
  have hB : 0 < b ↔ ∃ j : Nat, ((j : Int) < ρ 14 ∧ onM ρ j (ρ 57 + k)) ∧ mF ρ j 0 = 1 := by
    rw [hb]
    refine cntP_pos_iff.trans ⟨fun ⟨j, _, h⟩ => ⟨j, h⟩, fun ⟨j, h⟩ => ⟨j, ?_, h⟩⟩
    have := h.1.1
    omega
  have hq : ind (quM ρ (ρ 57 + k)) = (if 0 < a ∧ 0 < b then 1 else 0) := by
    by_cases q : 0 < a ∧ 0 < b
    · rw [if_pos q]
      exact ind_t ⟨hA.mp q.1, hB.mp q.2⟩
    · rw [if_neg q]
      exact ind_f (fun h => q ⟨hA.mpr h.1, hB.mpr h.2⟩)
  have hz : ind (∀ j : Nat, ¬ ((j : Int) < ρ 14 ∧ onM ρ j (ρ 57 + k))) * ρ 56 = (if v = 0 then ρ 56 else 0) := by
    by_cases q : v = 0
    · rw [if_pos q, ind_t ((isSet_zero hs).mp q), Int.one_mul]
    · rw [if_neg q, ind_f (fun h => q ((isSet_zero hs).mpr h)), Int.zero_mul]
  funext p
  rw [← hq, ← hz, ha, hb]
  unfold st5
  by_cases q1 : p = 58
  · subst q1
    simp only [psR, sumN]
    simp
    omega
  by_cases q2 : p = 59
  · subst q2
    simp only [psR, sumN]
    simp
    omega
  by_cases q3 : p = 60
  · subst q3
    simp only [psR, qwM, cntP]
    simp
    omega
  by_cases q4 : p = 61
  · subst q4
    simp only [psR, sumN]
    simp
    omega
  by_cases q5 : p = 57
  · subst q5
    simp only [psR]
    simp
    omega
  simp [psR, q1, q2, q3, q4, q5]

