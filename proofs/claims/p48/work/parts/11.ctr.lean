/-! contracts of methods that neither throw nor make anything -/
def rmz (fr lo : Nat) : Room := { frames := fr, cells := 0, slots := 0, locals := lo }
def Bz (D : va_G) (cA : Nat → ClassId) (r : Nat → Nat) (z : Zt) (t : State) : Prop := va_P D vwCl (wz r cA z) t.heap ∧ va_K D vwCl (tysOf cA) t
def Pz (D : va_G) (cA : Nat → ClassId) (r : Nat → Nat) (z : Zt) (As : List Value) : Array Value → State → Prop := va_Pc As (fun U => Bz D cA r z U ∧ NwK U)
def Qi (D : va_G) (cA : Nat → ClassId) (r : Nat → Nat) (post : Int → Zt → Prop) : Array Value → State → Outcome → State → Prop := va_Qi (S := Zt) (fun x z' => ∃ i : Int, x = iN i ∧ post i z') (fun z' t => Bz D cA r z' t) (rng r)
def Qv (D : va_G) (cA : Nat → ClassId) (r : Nat → Nat) (post : Zt → Prop) : Array Value → State → Outcome → State → Prop := va_Qv (S := Zt) post (fun z' t => Bz D cA r z' t) (rng r)
def Qr (D : va_G) (cA : Nat → ClassId) (r : Nat → Nat) (post : Nat → Zt → Prop) : Array Value → State → Outcome → State → Prop := va_Qr (S := Zt × Nat) (fun u => post u.2 u.1) (fun u a t => a = r u.2 ∧ Bz D cA r u.1 t) (rng r)
def Ki (l : Launch) (D : va_G) (cA : Nat → ClassId) (r : Nat → Nat) (y : MethodName) (ws : List Cond) (fr lo : Nat) (z : Zt) (As : List Value) (post : Int → Zt → Prop) : Prop := Met l y ws (rmz fr lo) (Pz D cA r z As) (Qi D cA r post) 0 0 (rng r)
def Kv (l : Launch) (D : va_G) (cA : Nat → ClassId) (r : Nat → Nat) (y : MethodName) (ws : List Cond) (fr lo : Nat) (z : Zt) (As : List Value) (post : Zt → Prop) : Prop := Met l y ws (rmz fr lo) (Pz D cA r z As) (Qv D cA r post) 0 0 (rng r)
def Kr (l : Launch) (D : va_G) (cA : Nat → ClassId) (r : Nat → Nat) (y : MethodName) (ws : List Cond) (fr lo : Nat) (z : Zt) (As : List Value) (post : Nat → Zt → Prop) : Prop := Met l y ws (rmz fr lo) (Pz D cA r z As) (Qr D cA r post) 0 0 (rng r)
/-- what a body owes at its end: Qc is one of Qi, Qv, Qr -/
def Rt (r : Nat → Nat) (Qc : Array Value → State → Outcome → State → Prop) (ret : Option FieldType) (Γ : Cx) : Prop :=
  match Γ with
  | (_, _, _, _, s, _, args, below, meth, _, Q, A, _, _, _, _) => Q = MQ below Qc args s 0 0 (rng r) ∧ A = rng r ∧ meth.sig.returnType = ret ∧ meth.locks = false
theorem Pz_blind {D : va_G} {cA : Nat → ClassId} {r : Nat → Nat} {z : Zt} {As : List Value} : FrameBlind (Pz D cA r z As) := fun a U g mk q => ⟨q.1, ⟨q.2.1.1, va_K.moved (u := U) (U := U.calling g mk a) (Vm.Alike.refl U.vm) q.2.1.2⟩, NwK.same (u := U) (U := U.calling g mk a) rfl q.2.2⟩
section VC
variable {l : Launch} {D : va_G} {cA : Nat → ClassId} {r : Nat → Nat} {Rm : Room} {Γ : Cx} {cc : ByteArray} {own : String} {Ts : List Cond} {mL : Nat} {z : Zt} {kc ks : Nat} {lv : List (Nat × Value)} {pc : Nat} {st : List Value}

theorem v_iret (G : Cok l D cA r Rm Γ cc own Ts mL) {post : Int → Zt → Prop} (hR : Rt r (Qi D cA r post) (some .int) Γ) {x : Int} (d : decode cc pc = .ok (.ireturn, 1)) (hp : post x z) : V Γ z 0 0 lv pc [.int (iN x)] := by
  obtain ⟨p, l', e, R, s, m, args, below, meth, c, Q, A, D', cA', nL, r'⟩ := Γ
  obtain ⟨⟨rfl, rfl, rfl, rfl, rfl, rfl⟩, ⟨hx, hb, hml, hown, hts⟩, hK, hN, hr, hA⟩ := G
  obtain ⟨rfl, rfl, hret, hlk⟩ := hR
  intro H locs ls hP hS hL
  exact W.iret (v := iN x) hx hb hret (fun t ht hW => ⟨⟨iN x, z, rfl, ⟨x, rfl, hp⟩, by rw [ht]; exact hP, va_K.moved hW.alike hK⟩, hS.F ht⟩) hS.2.2 d hlk
theorem nar01 {x : Int} (h : x = 0 ∨ x = 1) : narrow .boolean (.int (iN x)) = .int (iN x) := by
  rcases h with rfl | rfl <;> decide
theorem v_zret (G : Cok l D cA r Rm Γ cc own Ts mL) {post : Int → Zt → Prop} (hR : Rt r (Qi D cA r post) (some .boolean) Γ) {x : Int} (h01 : x = 0 ∨ x = 1) (d : decode cc pc = .ok (.ireturn, 1)) (hp : post x z) : V Γ z 0 0 lv pc [.int (iN x)] := by
  obtain ⟨p, l', e, R, s, m, args, below, meth, c, Q, A, D', cA', nL, r'⟩ := Γ
  obtain ⟨⟨rfl, rfl, rfl, rfl, rfl, rfl⟩, ⟨hx, hb, hml, hown, hts⟩, hK, hN, hr, hA⟩ := G
  obtain ⟨rfl, rfl, hret, hlk⟩ := hR
  intro H locs ls hP hS hL
  exact W.zret (v := iN x) hx hb hret (nar01 h01) (fun t ht hW => ⟨⟨iN x, z, rfl, ⟨x, rfl, hp⟩, by rw [ht]; exact hP, va_K.moved hW.alike hK⟩, hS.F ht⟩) hS.2.2 d hlk
theorem v_vret (G : Cok l D cA r Rm Γ cc own Ts mL) {post : Zt → Prop} (hR : Rt r (Qv D cA r post) none Γ) (d : decode cc pc = .ok (.return_, 1)) (hp : post z) : V Γ z 0 0 lv pc [] := by
  obtain ⟨p, l', e, R, s, m, args, below, meth, c, Q, A, D', cA', nL, r'⟩ := Γ
  obtain ⟨⟨rfl, rfl, rfl, rfl, rfl, rfl⟩, ⟨hx, hb, hml, hown, hts⟩, hK, hN, hr, hA⟩ := G
  obtain ⟨rfl, rfl, hret, hlk⟩ := hR
  intro H locs ls hP hS hL
  exact W.vret hx hb hret (fun t ht hW => ⟨⟨z, rfl, hp, by rw [ht]; exact hP, va_K.moved hW.alike hK⟩, hS.F ht⟩) hS.2.2 d hlk
theorem v_aret (G : Cok l D cA r Rm Γ cc own Ts mL) {post : Nat → Zt → Prop} {C : String} (hR : Rt r (Qr D cA r post) (some (.object C)) Γ) {t : Nat} (d : decode cc pc = .ok (.areturn, 1)) (hp : post t z) : V Γ z 0 0 lv pc [.ref (r t)] := by
  obtain ⟨p, l', e, R, s, m, args, below, meth, c, Q, A, D', cA', nL, r'⟩ := Γ
  obtain ⟨⟨rfl, rfl, rfl, rfl, rfl, rfl⟩, ⟨hx, hb, hml, hown, hts⟩, hK, hN, hr, hA⟩ := G
  obtain ⟨rfl, rfl, hret, hlk⟩ := hR
  intro H locs ls hP hS hL
  exact W.aret (v := .ref (r' t)) hx hb hret (Or.inl ⟨C, rfl⟩) (Or.inr ⟨_, rfl⟩) (fun u hu hW => ⟨⟨(z, t), r' t, rfl, hp, rfl, by rw [hu]; exact hP, va_K.moved hW.alike hK⟩, hS.F hu⟩) hS.2.2 d hlk

theorem Ki_of {y : MethodName} {ws ws' : List Cond} {fr lo maxL : Nat} {As : List Value} {post : Int → Zt → Prop} {ty : FieldType} (lv : List (Nat × Value)) (hr : Inj r) (hy : plainName y.cls = true) (hw : ws = Cond.code y cc maxL (some ty) :: ws') (hown : y.cls = own) (hlv : (lg_sl As).length ≤ maxL) (hlq : lv_args 0 As = lv)
    (body : ∀ Γ : Cx, Cok l D cA r (rmz fr lo) Γ cc own ws maxL → Rt r (Qi D cA r post) (some ty) Γ → V Γ z 0 0 lv 0 []) : Ki l D cA r y ws fr lo z As post := by
  refine Met.ofW (cc := cc) (maxL := maxL) (ret := (some ty)) hy hw ?_
  intro p e s m args below meth c s₁ B hml hv
  obtain ⟨rfl, ⟨hP, hK⟩, hN⟩ := hv
  have hts := atoms_spec (ws := ws) B.pre
  have hown2 : s.vm.findClass own = some m.cls := hown ▸ findClass_of_methodNamed B.named
  have h := body (p, l, e, rmz fr lo, s, m, As.toArray, below, meth, c, MQ below (Qi D cA r post) As.toArray s 0 0 (rng r), rng r, D, cA, maxL, r) ⟨⟨rfl, rfl, rfl, rfl, rfl, rfl⟩, ⟨B.exec, B.bytes, hml, hown2, hts⟩, hK, hN, hr, fun i hi => ⟨i, hi, rfl⟩⟩ ⟨rfl, rfl, B.returns, B.notSynchronized⟩
  have hl := lv_entry As (n := maxL) hlv
  rw [lg_entry_eq]
  rw [hlq] at hl
  exact h s.heap [] _ hP va_S.rf hl

theorem Kv_of {y : MethodName} {ws ws' : List Cond} {fr lo maxL : Nat} {As : List Value} {post : Zt → Prop} (lv : List (Nat × Value)) (hr : Inj r) (hy : plainName y.cls = true) (hw : ws = Cond.code y cc maxL none :: ws') (hown : y.cls = own) (hlv : (lg_sl As).length ≤ maxL) (hlq : lv_args 0 As = lv)
    (body : ∀ Γ : Cx, Cok l D cA r (rmz fr lo) Γ cc own ws maxL → Rt r (Qv D cA r post) none Γ → V Γ z 0 0 lv 0 []) : Kv l D cA r y ws fr lo z As post := by
  refine Met.ofW (cc := cc) (maxL := maxL) (ret := none) hy hw ?_
  intro p e s m args below meth c s₁ B hml hv
  obtain ⟨rfl, ⟨hP, hK⟩, hN⟩ := hv
  have hts := atoms_spec (ws := ws) B.pre
  have hown2 : s.vm.findClass own = some m.cls := hown ▸ findClass_of_methodNamed B.named
  have h := body (p, l, e, rmz fr lo, s, m, As.toArray, below, meth, c, MQ below (Qv D cA r post) As.toArray s 0 0 (rng r), rng r, D, cA, maxL, r) ⟨⟨rfl, rfl, rfl, rfl, rfl, rfl⟩, ⟨B.exec, B.bytes, hml, hown2, hts⟩, hK, hN, hr, fun i hi => ⟨i, hi, rfl⟩⟩ ⟨rfl, rfl, B.returns, B.notSynchronized⟩
  have hl := lv_entry As (n := maxL) hlv
  rw [lg_entry_eq]
  rw [hlq] at hl
  exact h s.heap [] _ hP va_S.rf hl

theorem Kr_of {y : MethodName} {ws ws' : List Cond} {fr lo maxL : Nat} {As : List Value} {post : Nat → Zt → Prop} {ty : FieldType} (lv : List (Nat × Value)) (hr : Inj r) (hy : plainName y.cls = true) (hw : ws = Cond.code y cc maxL (some ty) :: ws') (hown : y.cls = own) (hlv : (lg_sl As).length ≤ maxL) (hlq : lv_args 0 As = lv)
    (body : ∀ Γ : Cx, Cok l D cA r (rmz fr lo) Γ cc own ws maxL → Rt r (Qr D cA r post) (some ty) Γ → V Γ z 0 0 lv 0 []) : Kr l D cA r y ws fr lo z As post := by
  refine Met.ofW (cc := cc) (maxL := maxL) (ret := (some ty)) hy hw ?_
  intro p e s m args below meth c s₁ B hml hv
  obtain ⟨rfl, ⟨hP, hK⟩, hN⟩ := hv
  have hts := atoms_spec (ws := ws) B.pre
  have hown2 : s.vm.findClass own = some m.cls := hown ▸ findClass_of_methodNamed B.named
  have h := body (p, l, e, rmz fr lo, s, m, As.toArray, below, meth, c, MQ below (Qr D cA r post) As.toArray s 0 0 (rng r), rng r, D, cA, maxL, r) ⟨⟨rfl, rfl, rfl, rfl, rfl, rfl⟩, ⟨B.exec, B.bytes, hml, hown2, hts⟩, hK, hN, hr, fun i hi => ⟨i, hi, rfl⟩⟩ ⟨rfl, rfl, B.returns, B.notSynchronized⟩
  have hl := lv_entry As (n := maxL) hlv
  rw [lg_entry_eq]
  rw [hlq] at hl
  exact h s.heap [] _ hP va_S.rf hl

theorem v_callVi (G : Cok l D cA r Rm Γ cc own Ts mL) {C : String} {T0 : u_T} {N0 ci K t index maxL fr lo n : Nat} {y : MethodName} {ws ws' : List Cond} {bytes : ByteArray} {ty : FieldType} {fs As stk : List Value} {post : Int → Zt → Prop} (hM : Ki l D cA r y ws fr lo z (.ref (r t) :: As) post) (hcw : GoodIn Ts (wsV own index C y ws)) (hw : ws = Cond.code y bytes maxL (some ty) :: ws')
    (hy : y.cls = C ∧ y.cls ≠ "java/lang/invoke/MethodHandle" ∧ y.cls ≠ "java/lang/invoke/VarHandle" ∧ (parseMethodDescriptor y.desc).map (fun d => d.parameters.length) = some n) (hn : As.length = n) (hRR : fr + 1 ≤ Rm.frames ∧ 8 + (maxL + 11) + lo ≤ Rm.locals) (ht : kd t = K) (hK0 : K ≠ 0) (hcl : cl K r cA t (z t) = .inr (ci, fs)) (hc : vwCl[ci]? = some (C, T0, N0)) (d : decode cc pc = .ok (.invokevirtual index, 3)) (hstk : stk = As.reverse ++ .ref (r t) :: st) (hst : (st.map fun v => v.category).sum ≤ 8) (hkc : kc ≤ Rm.cells ∧ ks ≤ Rm.slots)
    (kk : ∀ (x : Int) (z1 : Zt), post x z1 → V Γ z1 kc ks lv (pc + 3) (.int (iN x) :: st)) : V Γ z kc ks lv pc stk := by
  subst hstk
  obtain ⟨p, l', e, R, s, m, args, below, meth, c, Q, A, D', cA', nL, r'⟩ := Γ
  obtain ⟨⟨rfl, rfl, rfl, rfl, rfl, rfl⟩, ⟨hx, hb, hml, hown, hts⟩, hK, hN, hr, hA⟩ := G
  intro H locs ls hP hS hL
  refine va_calli (va_runV (As := As) (rest := st) ⟨hx, hb, hml, hown, hts⟩ hM (cwV n hts hcw hw rfl rfl hy hRR) ⟨Pz_blind, va_recv hK hP (ci := ci) (q0 := t) hc ((wl_at (kd_lt ht hK0)).trans (by rw [Ez, ht, hcl])), fun U hU hW => ⟨rfl, ⟨by rw [hU]; exact hP, va_K.moved hW.alike hK⟩, NwK.warm hW hN⟩⟩ rfl hn hL.1 rfl (lv_room hst) d hkc) hS ?_ ?_ ?_
  · intro q _ h
    obtain ⟨i, hi, rfl⟩ := h
    exact hA i hi
  · intro q h
    obtain ⟨i, hi, rfl⟩ := h
    exact hA i hi
  · intro x u t1 H1 locs1 e1 hvm hw1 hB _ _ hS1
    obtain ⟨i, rfl, hp⟩ := hw1
    exact kk i u hp H1 locs1 ls (e1 ▸ hB.1) hS1 hL

theorem v_callSi (G : Cok l D cA r Rm Γ cc own Ts mL) {index maxL fr lo n : Nat} {y : MethodName} {ws ws' : List Cond} {bytes : ByteArray} {ty : FieldType} {As stk : List Value} {post : Int → Zt → Prop} (hM : Ki l D cA r y ws fr lo z As post) (hcw : GoodIn Ts (va_wsS own index y ws)) (hw : ws = Cond.code y bytes maxL (some ty) :: ws')
    (hy : y.cls ≠ "java/lang/invoke/MethodHandle" ∧ y.cls ≠ "java/lang/invoke/VarHandle" ∧ (parseMethodDescriptor y.desc).map (fun d => d.parameters.length) = some n) (hn : As.length = n) (hRR : fr + 1 ≤ Rm.frames ∧ 8 + (maxL + 11) + lo ≤ Rm.locals) (d : decode cc pc = .ok (.invokestatic index, 3)) (hstk : stk = As.reverse ++ st) (hst : (st.map fun v => v.category).sum ≤ 8) (hkc : kc ≤ Rm.cells ∧ ks ≤ Rm.slots)
    (kk : ∀ (x : Int) (z1 : Zt), post x z1 → V Γ z1 kc ks lv (pc + 3) (.int (iN x) :: st)) : V Γ z kc ks lv pc stk := by
  subst hstk
  obtain ⟨p, l', e, R, s, m, args, below, meth, c, Q, A, D', cA', nL, r'⟩ := Γ
  obtain ⟨⟨rfl, rfl, rfl, rfl, rfl, rfl⟩, ⟨hx, hb, hml, hown, hts⟩, hK, hN, hr, hA⟩ := G
  intro H locs ls hP hS hL
  refine va_calli (va_runS (As := As) (rest := st) ⟨hx, hb, hml, hown, hts⟩ hM (va_cwS n hts hcw hw rfl rfl hy hRR) ⟨Pz_blind, fun U hU hW => ⟨rfl, ⟨by rw [hU]; exact hP, va_K.moved hW.alike hK⟩, NwK.warm hW hN⟩⟩ rfl hn hL.1 rfl (lv_room hst) d hkc) hS ?_ ?_ ?_
  · intro q _ h
    obtain ⟨i, hi, rfl⟩ := h
    exact hA i hi
  · intro q h
    obtain ⟨i, hi, rfl⟩ := h
    exact hA i hi
  · intro x u t1 H1 locs1 e1 hvm hw1 hB _ _ hS1
    obtain ⟨i, rfl, hp⟩ := hw1
    exact kk i u hp H1 locs1 ls (e1 ▸ hB.1) hS1 hL

theorem v_callVv (G : Cok l D cA r Rm Γ cc own Ts mL) {C : String} {T0 : u_T} {N0 ci K t index maxL fr lo n : Nat} {y : MethodName} {ws ws' : List Cond} {bytes : ByteArray} {fs As stk : List Value} {post : Zt → Prop} (hM : Kv l D cA r y ws fr lo z (.ref (r t) :: As) post) (hcw : GoodIn Ts (wsV own index C y ws)) (hw : ws = Cond.code y bytes maxL none :: ws')
    (hy : y.cls = C ∧ y.cls ≠ "java/lang/invoke/MethodHandle" ∧ y.cls ≠ "java/lang/invoke/VarHandle" ∧ (parseMethodDescriptor y.desc).map (fun d => d.parameters.length) = some n) (hn : As.length = n) (hRR : fr + 1 ≤ Rm.frames ∧ 8 + (maxL + 11) + lo ≤ Rm.locals) (ht : kd t = K) (hK0 : K ≠ 0) (hcl : cl K r cA t (z t) = .inr (ci, fs)) (hc : vwCl[ci]? = some (C, T0, N0)) (d : decode cc pc = .ok (.invokevirtual index, 3)) (hstk : stk = As.reverse ++ .ref (r t) :: st) (hst : (st.map fun v => v.category).sum ≤ 8) (hkc : kc ≤ Rm.cells ∧ ks ≤ Rm.slots)
    (kk : ∀ (z1 : Zt), post z1 → V Γ z1 kc ks lv (pc + 3) st) : V Γ z kc ks lv pc stk := by
  subst hstk
  obtain ⟨p, l', e, R, s, m, args, below, meth, c, Q, A, D', cA', nL, r'⟩ := Γ
  obtain ⟨⟨rfl, rfl, rfl, rfl, rfl, rfl⟩, ⟨hx, hb, hml, hown, hts⟩, hK, hN, hr, hA⟩ := G
  intro H locs ls hP hS hL
  refine va_callv (va_runV (As := As) (rest := st) ⟨hx, hb, hml, hown, hts⟩ hM (cwV n hts hcw hw rfl rfl hy hRR) ⟨Pz_blind, va_recv hK hP (ci := ci) (q0 := t) hc ((wl_at (kd_lt ht hK0)).trans (by rw [Ez, ht, hcl])), fun U hU hW => ⟨rfl, ⟨by rw [hU]; exact hP, va_K.moved hW.alike hK⟩, NwK.warm hW hN⟩⟩ rfl hn hL.1 rfl (lv_room hst) d hkc) hS ?_ ?_ ?_
  · intro q _ h
    obtain ⟨i, hi, rfl⟩ := h
    exact hA i hi
  · intro q h
    obtain ⟨i, hi, rfl⟩ := h
    exact hA i hi
  · intro u t1 H1 locs1 e1 hvm hw1 hB _ _ hS1
    exact kk u hw1 H1 locs1 ls (e1 ▸ hB.1) hS1 hL

theorem v_callSv (G : Cok l D cA r Rm Γ cc own Ts mL) {index maxL fr lo n : Nat} {y : MethodName} {ws ws' : List Cond} {bytes : ByteArray} {As stk : List Value} {post : Zt → Prop} (hM : Kv l D cA r y ws fr lo z As post) (hcw : GoodIn Ts (va_wsS own index y ws)) (hw : ws = Cond.code y bytes maxL none :: ws')
    (hy : y.cls ≠ "java/lang/invoke/MethodHandle" ∧ y.cls ≠ "java/lang/invoke/VarHandle" ∧ (parseMethodDescriptor y.desc).map (fun d => d.parameters.length) = some n) (hn : As.length = n) (hRR : fr + 1 ≤ Rm.frames ∧ 8 + (maxL + 11) + lo ≤ Rm.locals) (d : decode cc pc = .ok (.invokestatic index, 3)) (hstk : stk = As.reverse ++ st) (hst : (st.map fun v => v.category).sum ≤ 8) (hkc : kc ≤ Rm.cells ∧ ks ≤ Rm.slots)
    (kk : ∀ (z1 : Zt), post z1 → V Γ z1 kc ks lv (pc + 3) st) : V Γ z kc ks lv pc stk := by
  subst hstk
  obtain ⟨p, l', e, R, s, m, args, below, meth, c, Q, A, D', cA', nL, r'⟩ := Γ
  obtain ⟨⟨rfl, rfl, rfl, rfl, rfl, rfl⟩, ⟨hx, hb, hml, hown, hts⟩, hK, hN, hr, hA⟩ := G
  intro H locs ls hP hS hL
  refine va_callv (va_runS (As := As) (rest := st) ⟨hx, hb, hml, hown, hts⟩ hM (va_cwS n hts hcw hw rfl rfl hy hRR) ⟨Pz_blind, fun U hU hW => ⟨rfl, ⟨by rw [hU]; exact hP, va_K.moved hW.alike hK⟩, NwK.warm hW hN⟩⟩ rfl hn hL.1 rfl (lv_room hst) d hkc) hS ?_ ?_ ?_
  · intro q _ h
    obtain ⟨i, hi, rfl⟩ := h
    exact hA i hi
  · intro q h
    obtain ⟨i, hi, rfl⟩ := h
    exact hA i hi
  · intro u t1 H1 locs1 e1 hvm hw1 hB _ _ hS1
    exact kk u hw1 H1 locs1 ls (e1 ▸ hB.1) hS1 hL

theorem v_callVr (G : Cok l D cA r Rm Γ cc own Ts mL) {C : String} {T0 : u_T} {N0 ci K t index maxL fr lo n : Nat} {y : MethodName} {ws ws' : List Cond} {bytes : ByteArray} {ty : FieldType} {fs As stk : List Value} {post : Nat → Zt → Prop} (hM : Kr l D cA r y ws fr lo z (.ref (r t) :: As) post) (hcw : GoodIn Ts (wsV own index C y ws)) (hw : ws = Cond.code y bytes maxL (some ty) :: ws')
    (hy : y.cls = C ∧ y.cls ≠ "java/lang/invoke/MethodHandle" ∧ y.cls ≠ "java/lang/invoke/VarHandle" ∧ (parseMethodDescriptor y.desc).map (fun d => d.parameters.length) = some n) (hn : As.length = n) (hRR : fr + 1 ≤ Rm.frames ∧ 8 + (maxL + 11) + lo ≤ Rm.locals) (ht : kd t = K) (hK0 : K ≠ 0) (hcl : cl K r cA t (z t) = .inr (ci, fs)) (hc : vwCl[ci]? = some (C, T0, N0)) (d : decode cc pc = .ok (.invokevirtual index, 3)) (hstk : stk = As.reverse ++ .ref (r t) :: st) (hst : (st.map fun v => v.category).sum ≤ 8) (hkc : kc ≤ Rm.cells ∧ ks ≤ Rm.slots)
    (kk : ∀ (t1 : Nat) (z1 : Zt), post t1 z1 → V Γ z1 kc ks lv (pc + 3) (.ref (r t1) :: st)) : V Γ z kc ks lv pc stk := by
  subst hstk
  obtain ⟨p, l', e, R, s, m, args, below, meth, c, Q, A, D', cA', nL, r'⟩ := Γ
  obtain ⟨⟨rfl, rfl, rfl, rfl, rfl, rfl⟩, ⟨hx, hb, hml, hown, hts⟩, hK, hN, hr, hA⟩ := G
  intro H locs ls hP hS hL
  refine va_callr (va_runV (As := As) (rest := st) ⟨hx, hb, hml, hown, hts⟩ hM (cwV n hts hcw hw rfl rfl hy hRR) ⟨Pz_blind, va_recv hK hP (ci := ci) (q0 := t) hc ((wl_at (kd_lt ht hK0)).trans (by rw [Ez, ht, hcl])), fun U hU hW => ⟨rfl, ⟨by rw [hU]; exact hP, va_K.moved hW.alike hK⟩, NwK.warm hW hN⟩⟩ rfl hn hL.1 rfl (lv_room hst) d hkc) hS ?_ ?_ ?_
  · intro q _ h
    obtain ⟨i, hi, rfl⟩ := h
    exact hA i hi
  · intro q h
    obtain ⟨i, hi, rfl⟩ := h
    exact hA i hi
  · intro u ra t1 H1 locs1 e1 hvm hw1 hB _ _ hS1
    obtain ⟨rfl, hB⟩ := hB
    exact kk u.2 u.1 hw1 H1 locs1 ls (e1 ▸ hB.1) hS1 hL

theorem v_callSr (G : Cok l D cA r Rm Γ cc own Ts mL) {index maxL fr lo n : Nat} {y : MethodName} {ws ws' : List Cond} {bytes : ByteArray} {ty : FieldType} {As stk : List Value} {post : Nat → Zt → Prop} (hM : Kr l D cA r y ws fr lo z As post) (hcw : GoodIn Ts (va_wsS own index y ws)) (hw : ws = Cond.code y bytes maxL (some ty) :: ws')
    (hy : y.cls ≠ "java/lang/invoke/MethodHandle" ∧ y.cls ≠ "java/lang/invoke/VarHandle" ∧ (parseMethodDescriptor y.desc).map (fun d => d.parameters.length) = some n) (hn : As.length = n) (hRR : fr + 1 ≤ Rm.frames ∧ 8 + (maxL + 11) + lo ≤ Rm.locals) (d : decode cc pc = .ok (.invokestatic index, 3)) (hstk : stk = As.reverse ++ st) (hst : (st.map fun v => v.category).sum ≤ 8) (hkc : kc ≤ Rm.cells ∧ ks ≤ Rm.slots)
    (kk : ∀ (t1 : Nat) (z1 : Zt), post t1 z1 → V Γ z1 kc ks lv (pc + 3) (.ref (r t1) :: st)) : V Γ z kc ks lv pc stk := by
  subst hstk
  obtain ⟨p, l', e, R, s, m, args, below, meth, c, Q, A, D', cA', nL, r'⟩ := Γ
  obtain ⟨⟨rfl, rfl, rfl, rfl, rfl, rfl⟩, ⟨hx, hb, hml, hown, hts⟩, hK, hN, hr, hA⟩ := G
  intro H locs ls hP hS hL
  refine va_callr (va_runS (As := As) (rest := st) ⟨hx, hb, hml, hown, hts⟩ hM (va_cwS n hts hcw hw rfl rfl hy hRR) ⟨Pz_blind, fun U hU hW => ⟨rfl, ⟨by rw [hU]; exact hP, va_K.moved hW.alike hK⟩, NwK.warm hW hN⟩⟩ rfl hn hL.1 rfl (lv_room hst) d hkc) hS ?_ ?_ ?_
  · intro q _ h
    obtain ⟨i, hi, rfl⟩ := h
    exact hA i hi
  · intro q h
    obtain ⟨i, hi, rfl⟩ := h
    exact hA i hi
  · intro u ra t1 H1 locs1 e1 hvm hw1 hB _ _ hS1
    obtain ⟨rfl, hB⟩ := hB
    exact kk u.2 u.1 hw1 H1 locs1 ls (e1 ▸ hB.1) hS1 hL

theorem v_mmax (G : Cok l D cA r Rm Γ cc own Ts mL) {index : Nat} {x y : Int} (h1 : Cond.methodLink own index Lib.Math.max.name ∈ Ts) (h2 : Cond.static Lib.Math.max.name ∈ Ts) (h3 : Cond.initialized "java/lang/Math" ∈ Ts) (h4 : Cond.code Lib.Math.max.name Lib.Math.max.code 2 (some .int) ∈ Ts) (hxx : -2147483648 ≤ x ∧ x < 2147483648) (hyy : -2147483648 ≤ y ∧ y < 2147483648) (hf : 1 ≤ Rm.frames) (hlo : (st.map fun v => v.category).sum + 13 ≤ Rm.locals) (hkc : kc ≤ Rm.cells ∧ ks ≤ Rm.slots) (d : decode cc pc = .ok (.invokestatic index, 3)) (kk : V Γ z kc ks lv (pc + 3) (.int (iN (if x < y then y else x)) :: st)) : V Γ z kc ks lv pc (.int (iN y) :: .int (iN x) :: st) := by
  obtain ⟨p, l', e, R, s, m, args, below, meth, c, Q, A, D', cA', nL, r'⟩ := Γ
  obtain ⟨⟨rfl, rfl, rfl, rfl, rfl, rfl⟩, ⟨hx, hb, hml, hown, hts⟩, hK, hN, hr, hA⟩ := G
  intro H locs ls hP hS hL
  refine va_mmax hx hb (hml.trans hL.1.symm) hown (hts _ h1) (hts _ h2) (hts _ h3) (hts _ h4) hf hlo hkc.1 hkc.2 d ?_
  have e : (if iN x < iN y then iN y else iN x) = iN (if x < y then y else x) := by
    by_cases q : x < y
    · rw [if_pos q, if_pos ((iN_lt hxx hyy).mpr q)]
    · rw [if_neg q, if_neg (fun q2 => q ((iN_lt hxx hyy).mp q2))]
  rw [e]
  exact kk H locs ls hP hS hL

end VC
/-! which kind lies where -/
theorem kd_all {P : Nat → Nat → Bool} (h : (List.range 172).all (fun i => P i (kd i)) = true) {i K : Nat} (hi : kd i = K) (hK : K ≠ 0) : P i K = true := by
  have h1 := List.all_eq_true.mp h i (List.mem_range.mpr (kd_lt hi hK))
  rw [hi] at h1
  exact h1
theorem kS_A {t : Nat} (h : kd t = 2) : kd (t + 1) = 3 := by
  have := kd_all (P := fun i k => k != 2 || kd (i + 1) == 3) (by decide +kernel) h (by decide)
  simpa using this
theorem kS_B {t : Nat} (h : kd t = 2) : kd (t + 4) = 3 := by
  have := kd_all (P := fun i k => k != 2 || kd (i + 4) == 3) (by decide +kernel) h (by decide)
  simpa using this
theorem kS_F {t : Nat} (h : kd t = 2) : kd (t + 7) = 40 := by
  have := kd_all (P := fun i k => k != 2 || kd (i + 7) == 40) (by decide +kernel) h (by decide)
  simpa using this
theorem kF_f {t k : Nat} (h : kd t = 40) (hk : k < 10) : kd (t + 1 + k) = 4 := by
  have := kd_all (P := fun i k => k != 40 || (List.range 10).all (fun j => kd (i + 1 + j) == 4)) (by decide +kernel) h (by decide)
  have h2 : (List.range 10).all (fun j => kd (t + 1 + j) == 4) = true := by simpa using this
  have h3 := List.all_eq_true.mp h2 k (List.mem_range.mpr hk)
  simpa using h3
theorem kS_f {t k : Nat} (h : kd t = 2) (hk : k < 10) : kd (t + 8 + k) = 4 := by
  have := kF_f (kS_F h) hk
  rw [show t + 8 + k = t + 7 + 1 + k by omega]
  exact this
theorem kT_D {t : Nat} (h : kd t = 3) : kd (t + 1) = 103 := by
  have := kd_all (P := fun i k => k != 3 || kd (i + 1) == 103) (by decide +kernel) h (by decide)
  simpa using this
theorem kT_L {t : Nat} (h : kd t = 3) : kd (t + 2) = 103 := by
  have := kd_all (P := fun i k => k != 3 || kd (i + 2) == 103) (by decide +kernel) h (by decide)
  simpa using this
theorem cl_1 (r : Nat → Nat) (cA : Nat → ClassId) (i : Nat) (f : Nat → Int) : cl 1 r cA i f = .inr (4, [.ref (r 1), .ref (r 19), .int (iN (f 2)), .ref (r 20), .ref (r 21), .ref (r 22), .ref (r 24)]) := rfl
theorem cl_2 (r : Nat → Nat) (cA : Nat → ClassId) (i : Nat) (f : Nat → Int) : cl 2 r cA i f = .inr (2, [.ref (r (i + 1)), .ref (r (i + 4)), .ref (r (i + 7)), .int (iN (f 3)), .int (iN (f 4)), .int (iN (f 5)), .int (iN (f 6)), .int (iN (f 7)), .int (iN (f 8))]) := rfl
theorem cl_3 (r : Nat → Nat) (cA : Nat → ClassId) (i : Nat) (f : Nat → Int) : cl 3 r cA i f = .inr (3, [.int (iN (f 0)), .ref (r (i + 1)), .ref (r (i + 2)), .int (iN (f 3)), .int (iN (f 4))]) := rfl
theorem cl_4 (r : Nat → Nat) (cA : Nat → ClassId) (i : Nat) (f : Nat → Int) : cl 4 r cA i f = .inr (1, [.int (iN (f 0)), .int (iN (f 1)), .int (iN (f 2)), .int (iN (f 3))]) := rfl
theorem cl_5 (r : Nat → Nat) (cA : Nat → ClassId) (i : Nat) (f : Nat → Int) : cl 5 r cA i f = .inr (0, [.ref (r 23), .int (iN (f 1))]) := rfl
theorem cl_103 (r : Nat → Nat) (cA : Nat → ClassId) (i : Nat) (f : Nat → Int) : cl 103 r cA i f = .inl (cA 0, 3, .inl (fun j => iN (f j))) := rfl
theorem cl_108 (r : Nat → Nat) (cA : Nat → ClassId) (i : Nat) (f : Nat → Int) : cl 108 r cA i f = .inl (cA 0, 8, .inl (fun j => iN (f j))) := rfl
theorem cl_114 (r : Nat → Nat) (cA : Nat → ClassId) (i : Nat) (f : Nat → Int) : cl 114 r cA i f = .inl (cA 0, 14, .inl (fun j => iN (f j))) := rfl
theorem cl_140 (r : Nat → Nat) (cA : Nat → ClassId) (i : Nat) (f : Nat → Int) : cl 140 r cA i f = .inl (cA 0, 40, .inl (fun j => iN (f j))) := rfl
theorem cl_180 (r : Nat → Nat) (cA : Nat → ClassId) (i : Nat) (f : Nat → Int) : cl 180 r cA i f = .inl (cA 0, 80, .inl (fun j => iN (f j))) := rfl
theorem cl_500 (r : Nat → Nat) (cA : Nat → ClassId) (i : Nat) (f : Nat → Int) : cl 500 r cA i f = .inl (cA 0, 400, .inl (fun j => iN (f j))) := rfl
theorem cl_32 (r : Nat → Nat) (cA : Nat → ClassId) (i : Nat) (f : Nat → Int) : cl 32 r cA i f = .inl (cA 4, 2, .inr (.inr (.inr (.inr (fun j => some (r (f j).toNat)))))) := rfl
theorem cl_36 (r : Nat → Nat) (cA : Nat → ClassId) (i : Nat) (f : Nat → Int) : cl 36 r cA i f = .inl (cA 4, 6, .inr (.inr (.inr (.inr (fun j => some (r (f j).toNat)))))) := rfl

