/-! the law's own calls of the class: an exception is caught and becomes a number -/
def ctn (k : Nat) : String := if k = 13 then xIO else if k = 15 then xIA else xIS
def xThree : List String := [xIO, xIA, xIS]
def Nca (U : State) : Prop := ∀ a ∈ xThree, ∀ b ∈ xThree, a ≠ b → va_Nc a b U
theorem Nca.moved {u U : State} (hvm : u.vm.Alike U.vm) (h : Nca u) : Nca U := fun a ha b hb hab => (h a ha b hb hab).moved hvm
/-- the handler of an exception: the row x of the table, the ones ahead are of other classes -/
def Hx (hh : List (Nat × Nat × Nat × Nat)) (pc : Nat) (E : String) (tgt : Nat) (own : String) (Ts : List Cond) : Prop :=
  ∃ (pre : List (Nat × Nat × Nat × Nat)) (x : Nat × Nat × Nat × Nat) (suf : List (Nat × Nat × Nat × Nat)), hh = pre ++ x :: suf ∧ (∀ q ∈ pre, q.2.2.2 ≠ 0 ∧ Cond.classLink own q.2.2.2 (ctn q.2.2.2) ∈ Ts ∧ ctn q.2.2.2 ∈ xThree ∧ ctn q.2.2.2 ≠ E) ∧ (x.1 ≤ pc ∧ pc < x.2.1) ∧ x.2.2.1 = tgt ∧ x.2.2.2 ≠ 0 ∧ Cond.classLink own x.2.2.2 E ∈ Ts ∧ E ∈ xThree ∧ Cond.castable E E ∈ xB
def Pw (D : va_G) (cA : Nat → ClassId) (r : Nat → Nat) (z : Zt) (As : List Value) : Array Value → State → Prop := va_Pc As (fun U => Bz D cA r z U ∧ NwK U ∧ Xw r U ∧ Nca U)
theorem Pw_blind {D : va_G} {cA : Nat → ClassId} {r : Nat → Nat} {z : Zt} {As : List Value} : FrameBlind (Pw D cA r z As) := fun a U g mk q => ⟨q.1, ⟨q.2.1.1, va_K.moved (u := U) (U := U.calling g mk a) (Vm.Alike.refl U.vm) q.2.1.2⟩, NwK.same (u := U) (U := U.calling g mk a) rfl q.2.2.1, Xw.same (u := U) (U := U.calling g mk a) rfl rfl (Vm.Alike.refl U.vm) q.2.2.2.1, Nca.moved (u := U) (U := U.calling g mk a) (Vm.Alike.refl U.vm) q.2.2.2.2⟩
def Kw (l : Launch) (D : va_G) (cA : Nat → ClassId) (r : Nat → Nat) (y : MethodName) (ws : List Cond) (fr lo kx : Nat) (z : Zt) (As : List Value) (post : Int → Zt → Prop) : Prop := Met l y ws (rmx fr lo kx) (Pw D cA r z As) (Qi D cA r post) kx (6 * kx) (rng r)
def RtW (D : va_G) (cA : Nat → ClassId) (r : Nat → Nat) (kx : Nat) (post : Int → Zt → Prop) (hh : List (Nat × Nat × Nat × Nat)) (Γ : Cx) : Prop :=
  match Γ with
  | (_, _, _, _, s, _, args, below, meth, c, Q, A, _, _, _, _) => Q = MQ below (Qi D cA r post) args s kx (6 * kx) (rng r) ∧ A = rng r ∧ meth.sig.returnType = some .int ∧ meth.locks = false ∧ c.exceptionTable.toList = tableOf hh ∧ Xw r s ∧ Nca s
theorem Kw_of {l : Launch} {D : va_G} {cA : Nat → ClassId} {r : Nat → Nat} {cc : ByteArray} {own : String} {z : Zt} {y : MethodName} {ws ws' : List Cond} {fr lo kx maxL : Nat} {As : List Value} {post : Int → Zt → Prop} {hh : List (Nat × Nat × Nat × Nat)} (lv : List (Nat × Value)) (hr : Inj r) (hy : plainName y.cls = true) (hw : ws = Cond.codeWith y cc maxL (some .int) hh :: ws') (hown : y.cls = own) (hlv : (lg_sl As).length ≤ maxL) (hlq : lv_args 0 As = lv)
    (body : ∀ Γ : Cx, Cok l D cA r (rmx fr lo kx) Γ cc own ws maxL → RtW D cA r kx post hh Γ → V Γ z 0 0 lv 0 []) : Kw l D cA r y ws fr lo kx z As post := by
  refine va_MetW (cc := cc) (maxL := maxL) (ret := some .int) (hh := hh) hy hw ?_
  intro p e s m args below meth c s₁ B hml hv
  obtain ⟨rfl, ⟨hP, hK⟩, hN, hX, hNc⟩ := hv
  have hts := atoms_spec (ws := ws) B.pre
  have hown2 : s.vm.findClass own = some m.cls := hown ▸ findClass_of_methodNamed B.named
  have htab : c.exceptionTable.toList = tableOf hh := vx_table (x := y) B (hts _ (by rw [hw]; exact List.mem_cons_self))
  have h := body (p, l, e, rmx fr lo kx, s, m, As.toArray, below, meth, c, MQ below (Qi D cA r post) As.toArray s kx (6 * kx) (rng r), rng r, D, cA, maxL, r) ⟨⟨rfl, rfl, rfl, rfl, rfl, rfl⟩, ⟨B.exec, B.bytes, hml, hown2, hts⟩, hK, hN, hr, fun i hi => ⟨i, hi, rfl⟩⟩ ⟨rfl, rfl, B.returns, B.notSynchronized, htab, hX, hNc⟩
  have hl := lv_entry As (n := maxL) hlv
  rw [lg_entry_eq]
  rw [hlq] at hl
  exact h s.heap [] _ hP va_S.rf hl
def jl (x : Int) : Int := (iN x).toInt
section VW
variable {l : Launch} {D : va_G} {cA : Nat → ClassId} {r : Nat → Nat} {Rm : Room} {Γ : Cx} {cc : ByteArray} {own : String} {Ts : List Cond} {mL : Nat} {z : Zt} {kc ks : Nat} {lv : List (Nat × Value)} {pc : Nat} {st : List Value}

theorem w_iret (G : Cok l D cA r Rm Γ cc own Ts mL) {kx : Nat} {post : Int → Zt → Prop} {hh : List (Nat × Nat × Nat × Nat)} (hR : RtW D cA r kx post hh Γ) (hkc : kc ≤ kx ∧ ks ≤ 6 * kx) {x : Int} (d : decode cc pc = .ok (.ireturn, 1)) (hp : post x z) : V Γ z kc ks lv pc [.int (iN x)] := by
  obtain ⟨p, l', e, R, s, m, args, below, meth, c, Q, A, D', cA', nL, r'⟩ := Γ
  obtain ⟨⟨rfl, rfl, rfl, rfl, rfl, rfl⟩, ⟨hx, hb, hml, hown, hts⟩, hK, hN, hr, hA⟩ := G
  obtain ⟨rfl, rfl, hret, hlk, htab, hX, hNc⟩ := hR
  intro H locs ls hP hS hL
  refine W.widen (k := kx) (n := 6 * kx) hkc.1 hkc.2 ?_
  exact W.iret (v := iN x) hx hb hret (fun t ht hW => ⟨⟨iN x, z, rfl, ⟨x, rfl, hp⟩, by rw [ht]; exact hP, va_K.moved hW.alike hK⟩, hS.F ht⟩) hS.2.2 d hlk
theorem v_i2l (G : Cok l D cA r Rm Γ cc own Ts mL) {x : Int} (d : decode cc pc = .ok (.i2l, 1)) (kk : V Γ z kc ks lv (pc + 1) (.long (Int64.ofInt (jl x)) :: st)) : V Γ z kc ks lv pc (.int (iN x) :: st) := by
  obtain ⟨p, l', e, R, s, m, args, below, meth, c, Q, A, D', cA', nL, r'⟩ := Γ
  obtain ⟨⟨rfl, rfl, rfl, rfl, rfl, rfl⟩, ⟨hx, hb, hml, hown, hts⟩, hK, hN, hr, hA⟩ := G
  intro H locs ls hP hS hL
  exact lv_i2l hx hb d rfl (kk H locs ls hP hS hL)
theorem v_lastore (G : Cok l D cA r Rm Γ cc own Ts mL) {x : Int} (d : decode cc pc = .ok (.lastore, 1)) (kk : V Γ (zup z 176 0 x) kc ks lv (pc + 1) st) : V Γ z kc ks lv pc (.long (Int64.ofInt x) :: .int (iN 0) :: .ref (r 176) :: st) := by
  obtain ⟨p, l', e, R, s, m, args, below, meth, c, Q, A, D', cA', nL, r'⟩ := Γ
  obtain ⟨⟨rfl, rfl, rfl, rfl, rfl, rfl⟩, ⟨hx, hb, hml, hown, hts⟩, hK, hN, hr, hA⟩ := G
  intro H locs ls hP hS hL
  refine va_last hx hb hK hP (wl_D hr hA) hS 176 2 (f := fun j => Int64.ofInt (z 176 j)) (n := 1) ((wl_at (by decide)).trans (by rw [Ez]; rfl)) rfl (iN_in (i := 0) (n := 1) (by decide) (by decide)) d (fun H1 locs1 hP1 _ hS1 => kk H1 locs1 ls ?_ hS1 hL)
  rw [wz, ← Ez_up (K := 50) (i := 176) (k := 0) (x := x) rfl rfl, ← wl_set (by decide)]
  rw [iN_cl (i := 0) (by decide)] at hP1
  refine Eq.mp (congrArg (fun f => va_P _ vwCl ((wl NN _ _).set 176 (_, .inl (_, 1, .inr (.inl f)))) H1) ?_) hP1
  funext j
  by_cases hj : j = 0
  · subst hj
    rfl
  · show (if j = (0 : Int).toNat then Int64.ofInt x else Int64.ofInt (z 176 j)) = Int64.ofInt (if j = 0 then x else z 176 j)
    rw [if_neg hj, if_neg (show ¬ j = Int.toNat 0 from hj)]
theorem v_laload (G : Cok l D cA r Rm Γ cc own Ts mL) (d : decode cc pc = .ok (.laload, 1)) (kk : V Γ z kc ks lv (pc + 1) (.long (Int64.ofInt (z 176 0)) :: st)) : V Γ z kc ks lv pc (.int (iN 0) :: .ref (r 176) :: st) := by
  obtain ⟨p, l', e, R, s, m, args, below, meth, c, Q, A, D', cA', nL, r'⟩ := Γ
  obtain ⟨⟨rfl, rfl, rfl, rfl, rfl, rfl⟩, ⟨hx, hb, hml, hown, hts⟩, hK, hN, hr, hA⟩ := G
  intro H locs ls hP hS hL
  refine va_lald hx hb hK hP 176 2 (f := fun j => Int64.ofInt (z 176 j)) (n := 1) ((wl_at (by decide)).trans (by rw [Ez]; rfl)) rfl (iN_in (i := 0) (n := 1) (by decide) (by decide)) d ?_
  rw [iN_cl (i := 0) (by decide)]
  exact kk H locs ls hP hS hL

theorem w_callV (G : Cok l D cA r Rm Γ cc own Ts mL) {kx kq : Nat} {post0 : Int → Zt → Prop} {px1 : String → Zt → Prop} {hh : List (Nat × Nat × Nat × Nat)} (hR : RtW D cA r kx post0 hh Γ) {C : String} {T0 : u_T} {N0 ci K t index maxL fr lo n : Nat} {y : MethodName} {ws ws' : List Cond} {bytes : ByteArray} {ty : FieldType} {fs As stk : List Value} {post : Int → Zt → Prop} (hM : Xi l D cA r y ws fr lo kq z (.ref (r t) :: As) post px1) (hcw : GoodIn Ts (wsV own index C y ws)) (hw : ws = Cond.code y bytes maxL (some ty) :: ws')
    (hy : y.cls = C ∧ y.cls ≠ "java/lang/invoke/MethodHandle" ∧ y.cls ≠ "java/lang/invoke/VarHandle" ∧ (parseMethodDescriptor y.desc).map (fun d => d.parameters.length) = some n) (hn : As.length = n) (hRR : fr + 1 ≤ Rm.frames ∧ 8 + (maxL + 11) + lo ≤ Rm.locals) (ht : kd t = K) (hK0 : K ≠ 0) (hcl : cl K r cA t (z t) = .inr (ci, fs)) (hc : vwCl[ci]? = some (C, T0, N0)) (d : decode cc pc = .ok (.invokevirtual index, 3)) (hstk : stk = As.reverse ++ .ref (r t) :: st) (hst : (st.map fun v => v.category).sum ≤ 8) (hRm : Rm.cells = kx ∧ Rm.slots = 6 * kx) (hkc : kc + kq ≤ kx ∧ ks + 6 * kq ≤ 6 * kx)
    (kx9 : ∀ (E : String) (z1 : Zt), px1 E z1 → ∃ tgt : Nat, Hx hh pc E tgt own Ts ∧ ∀ q : Nat, V Γ z1 (kc + kq) (ks + 6 * kq) lv tgt [.ref q])
    (kk : ∀ (x : Int) (z1 : Zt), post x z1 → V Γ z1 (kc + kq) (ks + 6 * kq) lv (pc + 3) (.int (iN x) :: st)) : V Γ z kc ks lv pc stk := by
  subst hstk
  obtain ⟨p, l', e, R, s, m, args, below, meth, c, Q, A, D', cA', nL, r'⟩ := Γ
  obtain ⟨⟨rfl, rfl, rfl, rfl, rfl, rfl⟩, ⟨hx, hb, hml, hown, hts⟩, hK, hN, hr, hA⟩ := G
  obtain ⟨rfl, rfl, hret, hlk, htab, hX, hNc⟩ := hR
  intro H locs ls hP hS hL
  refine vx_calli (vx_runV (As := As) (rest := st) ⟨hx, hb, hml, hown, hts⟩ hM (cwV n hts hcw hw rfl rfl hy hRR) ⟨Px_blind, va_recv hK hP (ci := ci) (q0 := t) hc ((wl_at (kd_lt ht hK0)).trans (by rw [Ez, ht, hcl])), fun U hU hW => ⟨rfl, ⟨by rw [hU]; exact hP, va_K.moved hW.alike hK⟩, NwK.warm hW hN, Xw.warm hW hU hS hX⟩⟩ rfl hn hL.1 rfl (lv_room hst) d ⟨by rw [hRm.1]; exact hkc.1, by rw [hRm.2]; exact hkc.2⟩) hS ?_ ?_ ?_ ?_ ?_
  · intro q _ h
    obtain ⟨i, hi, rfl⟩ := h
    exact hA i hi
  · intro q h
    obtain ⟨i, hi, rfl⟩ := h
    exact hA i hi
  · intro q _ h
    obtain ⟨i, hi, rfl⟩ := h
    exact hA i hi
  · intro E ce q9 u t1 H1 locs1 e1 hvm _ hB _ _ hS1 hce hcv hcl9
    obtain ⟨tgt, ⟨pre, x, suf, h1, h2, h3, h4, h5, h6, h7, h8⟩, hgo⟩ := kx9 E u hB.1
    subst h4
    refine vx_catch hown (tableOf pre) ⟨x.1, x.2.1, x.2.2.1, x.2.2.2⟩ (tableOf suf) ?_ ?_ ?_ h5 (hts _ h6) (va_Nw.use (xB_on h8) (hX.2.2.2 _ h8)) hce hcv hcl9 (hgo q9 H1 locs1 ls ?_ hS1 hL)
    · rw [htab, h1]
      simp [tableOf]
    · intro z9 hz9
      obtain ⟨q, hq, rfl⟩ := List.mem_map.mp hz9
      obtain ⟨a1, a2, a3, a4⟩ := h2 q hq
      exact Or.inr ⟨a1, _, hts _ a2, hNc _ h7 _ a3 (Ne.symm a4)⟩
    · simp [covers, h3.1, h3.2]
    · rw [← e1]
      exact hB.2.1
  · intro x u t1 H1 locs1 e1 hvm hw1 hB _ _ hS1
    obtain ⟨i, rfl, hp⟩ := hw1
    exact kk i u hp H1 locs1 ls (e1 ▸ hB.1) hS1 hL

end VW
