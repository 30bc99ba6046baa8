/-! the law's own walk: the script, the calls, the end -/
def LwR (b L : Nat) (xs : Nat → Int32) (Γ : Cx) : Prop :=
  match Γ with
  | (_, _, _, R, s, _, args, below, meth, _, Q, A, _, _, _, r) => R = room_1 ∧ args = #[Value.ref b] ∧ Q = lw_Z below #[Value.ref b] s ∧ A = rng r ∧ meth.sig.returnType = ret ∧ meth.locks = false ∧ va_X b L xs s s.heap ∧ b < s.heap.size ∧ (∀ i, s.heap.size ≤ r i) ∧ Xw r s ∧ Nca s
def sv (xs : Nat → Int32) (i : Int) : Int := (xs i.toNat).toInt
theorem sv_rg (xs : Nat → Int32) (i : Int) : -2147483648 ≤ sv xs i ∧ sv xs i < 2147483648 := ⟨Int32.le_toInt _, Int32.toInt_lt _⟩
theorem sv_is (xs : Nat → Int32) (i : Int) : iN (sv xs i) = xs i.toNat := iN_of _
theorem and63 (x : Int) : ∃ k : Int, (0 ≤ k ∧ k ≤ 63) ∧ iN x &&& iN 63 = iN k := by
  refine ⟨((iN x).toBitVec.toNat % 2 ^ 6 : Nat), ?_, ?_⟩
  · have h := Nat.mod_lt (iN x).toBitVec.toNat (show 0 < 2 ^ 6 by decide)
    generalize (iN x).toBitVec.toNat % 2 ^ 6 = q at h
    omega
  · rw [pk_and (iN x) (m := iN 63) 6 rfl, iN_nI]
section VL
variable {l : Launch} {D : va_G} {cA : Nat → ClassId} {r : Nat → Nat} {Rm : Room} {Γ : Cx} {cc : ByteArray} {own : String} {Ts : List Cond} {mL : Nat} {z : Zt} {kc ks : Nat} {lv : List (Nat × Value)} {pc : Nat} {st : List Value} {b L : Nat} {xs : Nat → Int32}

theorem w_sld (G : Cok l D cA r Rm Γ cc own Ts mL) (hW : LwR b L xs Γ) (hL : L ≤ 2560) {i : Int} (hi : 0 ≤ i ∧ i < (L : Int)) (d : decode cc pc = .ok (.iaload, 1)) (kk : V Γ z kc ks lv (pc + 1) (.int (iN (sv xs i)) :: st)) : V Γ z kc ks lv pc (.int (iN i) :: .ref b :: st) := by
  obtain ⟨p, l', e, R, s, m, args, below, meth, c, Q, A, D', cA', nL, r'⟩ := Γ
  obtain ⟨⟨rfl, rfl, rfl, rfl, rfl, rfl⟩, ⟨hx, hb, hml, hown, hts⟩, hK, hN, hr, hA⟩ := G
  obtain ⟨rfl, rfl, rfl, rfl, hret, hlk, hX9, hbl, hge, hX, hNc⟩ := hW
  intro H locs ls hP hS hL9
  have hbA : ¬ rng r' b := fun h => by
    obtain ⟨j, -, e9⟩ := h
    have := hge j
    omega
  refine va_sld hx hb hX9 hbl hbA hS (iN_in hi (by omega)) d ?_
  rw [iN_cl (by omega), ← sv_is xs i]
  exact kk H locs ls hP hS hL9
theorem w_slen (G : Cok l D cA r Rm Γ cc own Ts mL) (hW : LwR b L xs Γ) (d : decode cc pc = .ok (.arraylength, 1)) (kk : V Γ z kc ks lv (pc + 1) (.int (iN (L : Int)) :: st)) : V Γ z kc ks lv pc (.ref b :: st) := by
  obtain ⟨p, l', e, R, s, m, args, below, meth, c, Q, A, D', cA', nL, r'⟩ := Γ
  obtain ⟨⟨rfl, rfl, rfl, rfl, rfl, rfl⟩, ⟨hx, hb, hml, hown, hts⟩, hK, hN, hr, hA⟩ := G
  obtain ⟨rfl, rfl, rfl, rfl, hret, hlk, hX9, hbl, hge, hX, hNc⟩ := hW
  intro H locs ls hP hS hL9
  have hbA : ¬ rng r' b := fun h => by
    obtain ⟨j, -, e9⟩ := h
    have := hge j
    omega
  have kk9 := kk H locs ls hP hS hL9
  rw [iN_nI] at kk9
  exact va_slen hx hb hX9 hbl hbA hS d kk9
theorem w_lret (G : Cok l D cA r Rm Γ cL_law own Ts mL) (hW : LwR b L xs Γ) (hkc : kc ≤ 627503 ∧ ks ≤ 7213595) (d : decode cL_law pc = .ok (.ireturn, 1)) : V Γ z kc ks lv pc [.int (iN 1)] := by
  obtain ⟨p, l', e, R, s, m, args, below, meth, c, Q, A, D', cA', nL, r'⟩ := Γ
  obtain ⟨⟨rfl, rfl, rfl, rfl, rfl, rfl⟩, ⟨hx, hb, hml, hown, hts⟩, hK, hN, hr, hA⟩ := G
  obtain ⟨rfl, rfl, rfl, rfl, hret, hlk, hX9, hbl, hge, hX, hNc⟩ := hW
  intro H locs ls hP hS hL9
  refine va_forget (fun q hq => ?_) ?_
  · obtain ⟨j, -, e9⟩ := hS.2.2 q hq
    have := hge j
    omega
  refine W.widen (k := 627503) (n := 7213595) hkc.1 hkc.2 ?_
  exact lw_ret hx hb hret hlk d
theorem w_icmp (G : Cok l D cA r Rm Γ cc own Ts mL) {x : Int} {off : Int} (tgt : Nat) (d : decode cc pc = .ok (.if_icmp .eq off, 3)) (ht : (pc : Int) + off = (tgt : Int)) (kk : V Γ z kc ks lv tgt st) : V Γ z kc ks lv pc (.int (iN x) :: .int (iN x) :: st) := by
  obtain ⟨p, l', e, R, s, m, args, below, meth, c, Q, A, D', cA', nL, r'⟩ := Γ
  obtain ⟨⟨rfl, rfl, rfl, rfl, rfl, rfl⟩, ⟨hx, hb, hml, hown, hts⟩, hK, hN, hr, hA⟩ := G
  intro H locs ls hP hS hL9
  exact lv_icmp_eq hx hb d ht (fun _ => kk H locs ls hP hS hL9) (fun q => absurd rfl q)
theorem w_lshl (G : Cok l D cA r Rm Γ cc own Ts mL) {x : Int64} {y : Int32} (d : decode cc pc = .ok (.lshl, 1)) (kk : V Γ z kc ks lv (pc + 1) (.long (x <<< (y.toInt64 &&& 63)) :: st)) : V Γ z kc ks lv pc (.int y :: .long x :: st) := by
  obtain ⟨p, l', e, R, s, m, args, below, meth, c, Q, A, D', cA', nL, r'⟩ := Γ
  obtain ⟨⟨rfl, rfl, rfl, rfl, rfl, rfl⟩, ⟨hx, hb, hml, hown, hts⟩, hK, hN, hr, hA⟩ := G
  intro H locs ls hP hS hL9
  exact lv_lshl hx hb d rfl (kk H locs ls hP hS hL9)
theorem w_land (G : Cok l D cA r Rm Γ cc own Ts mL) {x y : Int64} (d : decode cc pc = .ok (.land, 1)) (kk : V Γ z kc ks lv (pc + 1) (.long (x &&& y) :: st)) : V Γ z kc ks lv pc (.long y :: .long x :: st) := by
  obtain ⟨p, l', e, R, s, m, args, below, meth, c, Q, A, D', cA', nL, r'⟩ := Γ
  obtain ⟨⟨rfl, rfl, rfl, rfl, rfl, rfl⟩, ⟨hx, hb, hml, hown, hts⟩, hK, hN, hr, hA⟩ := G
  intro H locs ls hP hS hL9
  exact lv_land hx hb d (kk H locs ls hP hS hL9)
theorem w_lor (G : Cok l D cA r Rm Γ cc own Ts mL) {x y : Int64} (d : decode cc pc = .ok (.lor, 1)) (kk : V Γ z kc ks lv (pc + 1) (.long (x ||| y) :: st)) : V Γ z kc ks lv pc (.long y :: .long x :: st) := by
  obtain ⟨p, l', e, R, s, m, args, below, meth, c, Q, A, D', cA', nL, r'⟩ := Γ
  obtain ⟨⟨rfl, rfl, rfl, rfl, rfl, rfl⟩, ⟨hx, hb, hml, hown, hts⟩, hK, hN, hr, hA⟩ := G
  intro H locs ls hP hS hL9
  exact lv_lor hx hb d (kk H locs ls hP hS hL9)
theorem w_long {x : Int64} (kk : ∀ u : Nat, u < 2 ^ 64 → x = lN u → V Γ z kc ks lv pc (.long (lN u) :: st)) : V Γ z kc ks lv pc (.long x :: st) := by
  obtain ⟨u, hu, e⟩ := wb_of x
  rw [e]
  exact kk u hu e
theorem w_tab (G : Cok l D cA r Rm Γ cc own Ts mL) {x : Int} {offs : Array Int} {dflt : Int} {len : Nat} (hx9 : 0 ≤ x ∧ x ≤ 63) (d : decode cc pc = .ok (.tableswitch dflt 0 44 offs, len)) (T : Nat → Nat) (tD : Nat) (hT : ∀ k : Nat, k < 45 → (offs[k]?).map (fun o => (pc : Int) + o) = some ((T k : Nat) : Int)) (hD : (pc : Int) + dflt = (tD : Int)) (kk : ∀ k : Nat, k < 45 → V Γ z kc ks lv (T k) st) (kd9 : V Γ z kc ks lv tD st) : V Γ z kc ks lv pc (.int (iN x) :: st) := by
  obtain ⟨p, l', e, R, s, m, args, below, meth, c, Q, A, D', cA', nL, r'⟩ := Γ
  obtain ⟨⟨rfl, rfl, rfl, rfl, rfl, rfl⟩, ⟨hx, hb, hml, hown, hts⟩, hK, hN, hr, hA⟩ := G
  intro H locs ls hP hS hL9
  have ex : (iN x).toInt = x := iN_int (by omega)
  by_cases q : x ≤ 44
  · have h0 := hT x.toNat (by omega)
    obtain ⟨o, h1, h2⟩ : ∃ o : Int, offs[x.toNat]? = some o ∧ (pc : Int) + o = (T x.toNat : Int) := by
      cases h : offs[x.toNat]? with
      | none =>
        rw [h] at h0
        exact absurd h0 (fun e => by cases e)
      | some o =>
        rw [h] at h0
        exact ⟨o, rfl, Option.some.inj h0⟩
    exact lv_tableIn (off := o) (tgt := T x.toNat) hx hb d (by rw [ex]; omega) (by rw [ex]; omega) (by rw [ex, show (x - 0).toNat = x.toNat by omega]; exact h1) h2 (kk x.toNat (by omega) H locs ls hP hS hL9)
  · exact lv_tableOut (tgt := tD) hx hb d (by rw [ex]; omega) hD (kd9 H locs ls hP hS hL9)
theorem w_callS (G : Cok l D cA r Rm Γ cc own Ts mL) (hW : LwR b L xs Γ) {index maxL fr lo n kq : Nat} {y : MethodName} {ws ws' : List Cond} {bytes : ByteArray} {hh : List (Nat × Nat × Nat × Nat)} {As stk : List Value} {post : Int → Zt → Prop} (hM : Kw l D cA r y ws fr lo kq z As post) (hcw : GoodIn Ts (va_wsS own index y ws)) (hw : ws = Cond.codeWith y bytes maxL (some .int) hh :: ws')
    (hy : y.cls ≠ "java/lang/invoke/MethodHandle" ∧ y.cls ≠ "java/lang/invoke/VarHandle" ∧ (parseMethodDescriptor y.desc).map (fun d => d.parameters.length) = some n) (hn : As.length = n) (hRR : fr + 1 ≤ Rm.frames ∧ 8 + (maxL + 11) + lo ≤ Rm.locals) (d : decode cc pc = .ok (.invokestatic index, 3)) (hstk : stk = As.reverse ++ st) (hst : (st.map fun v => v.category).sum ≤ 8) (hkc : kc + kq ≤ Rm.cells ∧ ks + 6 * kq ≤ Rm.slots)
    (kk : ∀ (x : Int) (z1 : Zt), post x z1 → V Γ z1 (kc + kq) (ks + 6 * kq) lv (pc + 3) (.int (iN x) :: st)) : V Γ z kc ks lv pc stk := by
  subst hstk
  obtain ⟨p, l', e, R, s, m, args, below, meth, c, Q, A, D', cA', nL, r'⟩ := Γ
  obtain ⟨⟨rfl, rfl, rfl, rfl, rfl, rfl⟩, ⟨hx, hb, hml, hown, hts⟩, hK, hN, hr, hA⟩ := G
  obtain ⟨rfl, rfl, rfl, rfl, hret, hlk, hX9, hbl, hge, hX, hNc⟩ := hW
  intro H locs ls hP hS hL9
  refine va_calli (vx_runSW (As := As) (rest := st) ⟨hx, hb, hml, hown, hts⟩ hM (vx_cwSW n hts hcw hw rfl rfl hy hRR) ⟨Pw_blind, fun U hU hW => ⟨rfl, ⟨by rw [hU]; exact hP, va_K.moved hW.alike hK⟩, NwK.warm hW hN, Xw.warm hW hU hS hX, Nca.moved hW.alike hNc⟩⟩ rfl hn hL9.1 rfl (lv_room hst) d hkc) hS ?_ ?_ ?_
  · intro q _ h
    exact h
  · intro q h
    exact h
  · intro x u t1 H1 locs1 e1 hvm hw1 hB _ _ hS1
    obtain ⟨i, rfl, hp⟩ := hw1
    exact kk i u hp H1 locs1 ls (e1 ▸ hB.1) hS1 hL9
end VL
/-- what the reference's methods ask of its world -/
def WF (z1 : Zt) : Prop := MI (zup z1 169 5 0 170) ∧ (0 ≤ zup z1 169 5 0 169 2 ∧ zup z1 169 5 0 169 2 ≤ 6) ∧ TX (zup z1 169 5 0 174) (zup z1 169 5 0 169 7) ∧ ∀ i : Nat, i < 2 → 0 ≤ zup z1 169 5 0 173 i ∧ zup z1 169 5 0 173 i ≤ 1
theorem WF_of {z z1 : Zt} (hR : Rel z) (h170 : z1 170 = z 170) (h2 : z1 169 2 = z 169 2) (h174 : z1 174 = z 174) (h7 : z1 169 7 = z 169 7) (h173 : z1 173 = z 173) : WF z1 := by
  obtain ⟨r1, r2, r3, ⟨r4, r5⟩, r6, r7, r8, r9, r10, r11⟩ := hR
  unfold WF
  rw [zup_o (show (170 : Nat) ≠ 169 by decide), zup_o (show (174 : Nat) ≠ 169 by decide), zup_o (show (173 : Nat) ≠ 169 by decide), zup_r, zup_r, if_neg (by decide), if_neg (by decide), h170, h2, h174, h7, h173]
  refine ⟨RB_MI r1, by rw [← r4]; exact r2.2.2, ⟨by rw [← r10]; exact r9.1, by rw [← r10]; exact r9.2.1, fun i hi => ?_⟩, fun i hi => ?_⟩
  · rw [← r10] at hi
    rw [← r11 i hi]
    exact r9.2.2 i hi
  · obtain ⟨a1, a2⟩ := r7 i hi
    rw [← a1]
    omega
theorem WF_nz {z z1 : Zt} (hR : Rel z) (h : Nz z z1) : WF z1 := WF_of hR (h.1 170 (by decide) (by decide) (by decide) (by decide)) (h.2 2 (by decide) (by decide)) (h.1 174 (by decide) (by decide) (by decide) (by decide)) (h.2 7 (by decide) (by decide)) (h.1 173 (by decide) (by decide) (by decide) (by decide))
theorem WF_mid {z z1 : Zt} (hR : Rel z) (h : Mid z z1) : WF z1 := WF_of hR (h 170 (by decide) (by decide)) (congrFun (h 169 (by decide) (by decide)) 2) (h 174 (by decide) (by decide)) (congrFun (h 169 (by decide) (by decide)) 7) (h 173 (by decide) (by decide))
theorem Rel_LI {z : Zt} (hR : Rel z) : LI z := fun i hi => by
  have h := hR.2.2.2.2.1
  rcases (show i = 0 ∨ i = 1 by omega) with rfl | rfl
  · rw [h.1]
    exact ⟨by decide, by decide⟩
  · rw [h.2]
    exact ⟨by decide, by decide⟩
theorem Rel_B {z : Zt} (hR : Rel z) : ∀ i : Nat, i < 2 → 0 ≤ z 21 i ∧ z 21 i ≤ 1 := fun i hi => by
  have h := (hR.2.2.2.2.2.1 i hi).2
  omega

