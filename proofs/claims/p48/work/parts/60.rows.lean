/-! rows that the law's methods want -/
theorem or_0 {P : Nat → Prop} {v : Int} (h : isSet P v) : iN v ||| iN 0 = iN v := by
  obtain ⟨n, rfl, -, -⟩ := h
  rw [iN_nI, show iN 0 = nI 0 from iN_nI 0, fa_or, Nat.or_zero]
/-- a number's low 31 bits; of n by remainder -/
def lw (x : Int) : Int := (iN x &&& (2147483647 : Int32)).toInt
def lo (x n : Int) : Int := lw x % n
def shr (x k : Int) : Int := (iN x >>> (iN k &&& 31)).toInt
theorem lw_bd (x : Int) : 0 ≤ lw x ∧ lw x < 2147483648 := by
  unfold lw
  rw [pk_and (iN x) (m := (2147483647 : Int32)) 31 (by decide +kernel), ← iN_nI]
  have h := Nat.mod_lt (iN x).toBitVec.toNat (show 0 < 2 ^ 31 by decide)
  rw [iN_int (by omega)]
  omega
theorem lo_bd (x : Int) {n : Int} (hn : 0 < n) : 0 ≤ lo x n ∧ lo x n < n := by
  unfold lo
  exact ⟨Int.emod_nonneg _ (by omega), Int.emod_lt_of_pos _ hn⟩
section VS
variable {l : Launch} {D : va_G} {cA : Nat → ClassId} {r : Nat → Nat} {Rm : Room} {Γ : Cx} {cc : ByteArray} {own : String} {Ts : List Cond} {mL : Nat} {z : Zt} {kc ks : Nat} {lv : List (Nat × Value)} {pc : Nat} {st : List Value}

theorem v_ldc (G : Cok l D cA r Rm Γ cc own Ts mL) {v : Int32} {idx : Nat} (hc : Cond.constant own idx v ∈ Ts) (d : decode cc pc = .ok (.ldc idx, 2)) (kk : V Γ z kc ks lv (pc + 2) (.int v :: st)) : V Γ z kc ks lv pc st := by
  obtain ⟨p, l', e, R, s, m, args, below, meth, c, Q, A, D', cA', nL, r'⟩ := Γ
  obtain ⟨⟨rfl, rfl, rfl, rfl, rfl, rfl⟩, ⟨hx, hb, hml, hown, hts⟩, hK, hN, hr, hA⟩ := G
  intro H locs ls hP hS hL
  exact lv_ldc hx hb hown (hts _ hc) d (kk H locs ls hP hS hL)

theorem v_wz (G : Cok l D cA r Rm Γ cc own Ts mL) (z2 : Zt) (h : z = z2) (kk : V Γ z2 kc ks lv pc st) : V Γ z kc ks lv pc st := by
  obtain ⟨p, l', e, R, s, m, args, below, meth, c, Q, A, D', cA', nL, r'⟩ := Γ
  obtain ⟨⟨rfl, rfl, rfl, rfl, rfl, rfl⟩, ⟨hx, hb, hml, hown, hts⟩, hK, hN, hr, hA⟩ := G
  intro H locs ls hP hS hL
  rw [← h] at kk
  exact kk H locs ls hP hS hL

theorem v_tab (G : Cok l D cA r Rm Γ cc own Ts mL) {x : Int} {offs : Array Int} {dflt : Int} {len M : Nat} (hx9 : 0 ≤ x ∧ x ≤ 63) (hM : M ≤ 63) (d : decode cc pc = .ok (.tableswitch dflt 0 (M : Int) offs, len)) (T : Nat → Nat) (tD : Nat) (hT : ∀ k : Nat, k < M + 1 → (offs[k]?).map (fun o => (pc : Int) + o) = some ((T k : Nat) : Int)) (hD : (pc : Int) + dflt = (tD : Int)) (kk : ∀ k : Nat, k < M + 1 → x = (k : Int) → V Γ z kc ks lv (T k) st) (kd9 : (M : Int) < x → V Γ z kc ks lv tD st) : V Γ z kc ks lv pc (.int (iN x) :: st) := by
  obtain ⟨p, l', e, R, s, m, args, below, meth, c, Q, A, D', cA', nL, r'⟩ := Γ
  obtain ⟨⟨rfl, rfl, rfl, rfl, rfl, rfl⟩, ⟨hx, hb, hml, hown, hts⟩, hK, hN, hr, hA⟩ := G
  intro H locs ls hP hS hL
  have ex : (iN x).toInt = x := iN_int (by omega)
  by_cases q : x ≤ (M : Int)
  · have h0 := hT x.toNat (by omega)
    obtain ⟨o, h1, h2⟩ : ∃ o : Int, offs[x.toNat]? = some o ∧ (pc : Int) + o = (T x.toNat : Int) := by
      cases h : offs[x.toNat]? with
      | none =>
        rw [h] at h0
        exact absurd h0 (fun e => by cases e)
      | some o =>
        rw [h] at h0
        exact ⟨o, rfl, Option.some.inj h0⟩
    exact lv_tableIn (off := o) (tgt := T x.toNat) hx hb d (by rw [ex]; omega) (by rw [ex]; omega) (by rw [ex, show (x - 0).toNat = x.toNat by omega]; exact h1) h2 (kk x.toNat (by omega) (by omega) H locs ls hP hS hL)
  · exact lv_tableOut (tgt := tD) hx hb d (by rw [ex]; omega) hD (kd9 (by omega) H locs ls hP hS hL)

end VS
