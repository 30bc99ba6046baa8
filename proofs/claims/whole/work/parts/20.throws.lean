/-! methods that throw: what a throw needs of the heap; contracts; rows -/
def xLit : List (Nat × String) := [(225, "there is no such index"), (221, "a number is out of range"), (58, "the gap is not later than the latest one"), (68, "the town has all its gaps"), (108, "the almanac has all its feasts"), (122, "no weekday is barred"), (157, "today would be too late"), (172, "a feast does not meet itself"), (182, "the number holds no proper characters"), (187, "the text would be too long"), (203, "the text is no date"), (213, "no state is recorded"), (219, "nothing was saved in the slot")]
def xIA : String := "java/lang/IllegalArgumentException"
def xIS : String := "java/lang/IllegalStateException"
def xIO : String := "java/lang/IndexOutOfBoundsException"
def xB : List Cond := [.castable "java/lang/IllegalArgumentException" "java/lang/IllegalArgumentException", .castable "java/lang/IllegalStateException" "java/lang/IllegalStateException", .castable "java/lang/IndexOutOfBoundsException" "java/lang/IndexOutOfBoundsException", .declares ⟨"java/lang/RuntimeException", "<init>", "(Ljava/lang/String;)V"⟩, .declares ⟨"java/lang/Exception", "<init>", "(Ljava/lang/String;)V"⟩, .declares ⟨"java/lang/Throwable", "<init>", "(Ljava/lang/String;)V"⟩]
theorem xB_is : ∀ w ∈ xB, (∃ (a b : String), w = .castable a b) ∨ ∃ x : MethodName, w = .declares x := by
  intro w hw
  unfold xB at hw
  rcases List.mem_cons.mp hw with rfl | hw
  · exact Or.inl ⟨_, _, rfl⟩
  rcases List.mem_cons.mp hw with rfl | hw
  · exact Or.inl ⟨_, _, rfl⟩
  rcases List.mem_cons.mp hw with rfl | hw
  · exact Or.inl ⟨_, _, rfl⟩
  rcases List.mem_cons.mp hw with rfl | hw
  · exact Or.inr ⟨_, rfl⟩
  rcases List.mem_cons.mp hw with rfl | hw
  · exact Or.inr ⟨_, rfl⟩
  rcases List.mem_cons.mp hw with rfl | hw
  · exact Or.inr ⟨_, rfl⟩
  cases hw
theorem xB_on {w : Cond} (hw : w ∈ xB) : w.onTables = true := by
  rcases xB_is w hw with ⟨a, b, rfl⟩ | ⟨x, rfl⟩ <;> rfl
def Xw (r : Nat → Nat) (U : State) : Prop := vx_Zq Bundle.tN "UNASSIGNED_STACK" Bundle.steD (rng r) U U.heap ∧ vx_Zq Bundle.tN "SUPPRESSED_SENTINEL" Bundle.listD (rng r) U U.heap ∧ (∀ q ∈ xLit, ∃ a, vk_R RX4 q.1 q.2 a U) ∧ ∀ w ∈ xB, va_Nw w U
theorem Xw.warm {r : Nat → Nat} {s U : State} {H : Heap} {locs : List Loc} (hW : s.WarmedH U.vm) (hU : U.heap = H) (hS : va_S (rng r) s.heap H locs) (h : Xw r s) : Xw r U := by
  obtain ⟨h1, h2, h3, h4⟩ := h
  refine ⟨?_, ?_, fun q hq => ?_, fun w hw => ?_⟩
  · rw [hU]
    exact (vx_Zq.moved hW.alike h1).kept hS.2.1
  · rw [hU]
    exact (vx_Zq.moved hW.alike h2).kept hS.2.1
  · obtain ⟨a, ha⟩ := h3 q hq
    exact ⟨a, ha.warm hW⟩
  · have h9 := h4 w hw
    rcases xB_is w hw with ⟨a, b, rfl⟩ | ⟨x, rfl⟩
    · exact va_Nw.warmC hW h9
    · exact va_Nw.warmD hW h9
theorem Xw.same {r : Nat → Nat} {u U : State} (hv : u.vm = U.vm) (hh : u.heap = U.heap) (hm : u.vm.Alike U.vm) (h : Xw r u) : Xw r U := by
  obtain ⟨h1, h2, h3, h4⟩ := h
  refine ⟨?_, ?_, fun q hq => ?_, fun w hw => ?_⟩
  · rw [← hh]
    exact vx_Zq.moved hm h1
  · rw [← hh]
    exact vx_Zq.moved hm h2
  · obtain ⟨a, ha⟩ := h3 q hq
    exact ⟨a, ha.same hv.symm⟩
  · exact va_Nw.same (xB_on hw) hv (h4 _ hw)
def rmx (fr lo kx : Nat) : Room := { frames := fr, cells := kx, slots := 6 * kx, locals := lo }
def Px (D : va_G) (cA : Nat → ClassId) (r : Nat → Nat) (z : Zt) (As : List Value) : Array Value → State → Prop := va_Pc As (fun U => Bz D cA r z U ∧ NwK U ∧ Xw r U)
def XX (D : va_G) (cA : Nat → ClassId) (r : Nat → Nat) (px : String → Zt → Prop) : String → State → State → Prop := vx_X (S := Zt) (fun _ => True) (fun E u t => px E u ∧ Bz D cA r u t) (rng r)
theorem Px_blind {D : va_G} {cA : Nat → ClassId} {r : Nat → Nat} {z : Zt} {As : List Value} : FrameBlind (Px D cA r z As) := fun a U g mk q => ⟨q.1, ⟨q.2.1.1, va_K.moved (u := U) (U := U.calling g mk a) (Vm.Alike.refl U.vm) q.2.1.2⟩, NwK.same (u := U) (U := U.calling g mk a) rfl q.2.2.1, Xw.same (u := U) (U := U.calling g mk a) rfl rfl (Vm.Alike.refl U.vm) q.2.2.2⟩
def XK (r : Nat → Nat) (Γ : Cx) : Prop :=
  match Γ with
  | (_, _, _, _, s, _, _, _, _, _, _, A, _, _, _, _) => ∀ (H : Heap) (locs : List Loc) (U : State), va_S A s.heap H locs → U.heap = H → s.WarmedH U.vm → Xw r U
def RtX (l : Launch) (D : va_G) (cA : Nat → ClassId) (r : Nat → Nat) (kx : Nat) (Qc : Array Value → State → Outcome → State → Prop) (px : String → Zt → Prop) (ret : Option FieldType) (Γ : Cx) : Prop :=
  match Γ with
  | (_, _, _, _, s, _, args, below, meth, c, Q, A, _, _, _, _) => Q = vx_MQ below Qc (XX D cA r px) args s kx (6 * kx) (rng r) ∧ A = rng r ∧ meth.sig.returnType = ret ∧ meth.locks = false ∧ (∀ x ∈ c.exceptionTable.toList, False) ∧ l.stackTraces = false ∧ Xw r s
section VX
variable {l : Launch} {D : va_G} {cA : Nat → ClassId} {r : Nat → Nat} {Rm : Room} {Γ : Cx} {cc : ByteArray} {own : String} {Ts : List Cond} {mL : Nat} {z : Zt} {kc ks : Nat} {lv : List (Nat × Value)} {pc : Nat} {st : List Value}
theorem XK_of {kx : Nat} {Qc : Array Value → State → Outcome → State → Prop} {px : String → Zt → Prop} {ret : Option FieldType} (hR : RtX l D cA r kx Qc px ret Γ) : XK r Γ := by
  obtain ⟨p, l', e, R, s, m, args, below, meth, c, Q, A, D', cA', nL, r'⟩ := Γ
  obtain ⟨rfl, rfl, hret, hlk, hno, hst, hX⟩ := hR
  intro H locs U hS hU hW
  exact Xw.warm hW hU hS hX

def Xi (l : Launch) (D : va_G) (cA : Nat → ClassId) (r : Nat → Nat) (y : MethodName) (ws : List Cond) (fr lo kx : Nat) (z : Zt) (As : List Value) (post : Int → Zt → Prop) (px : String → Zt → Prop) : Prop := vx_Met l y ws (rmx fr lo kx) (Px D cA r z As) (Qi D cA r post) (XX D cA r px) kx (6 * kx) (rng r)
theorem Xi_of {y : MethodName} {ws ws' : List Cond} {fr lo kx maxL : Nat} {As : List Value} {post : Int → Zt → Prop} {px : String → Zt → Prop} {ty : FieldType} (lv : List (Nat × Value)) (hr : Inj r) (hst : l.stackTraces = false) (hy : plainName y.cls = true) (hw : ws = Cond.code y cc maxL (some ty) :: ws') (hown : y.cls = own) (hlv : (lg_sl As).length ≤ maxL) (hlq : lv_args 0 As = lv)
    (body : ∀ Γ : Cx, Cok l D cA r (rmx fr lo kx) Γ cc own ws maxL → RtX l D cA r kx (Qi D cA r post) px (some ty) Γ → V Γ z 0 0 lv 0 []) : Xi l D cA r y ws fr lo kx z As post px := by
  refine vx_ofW (cc := cc) (maxL := maxL) (ret := (some ty)) hy hw ?_
  intro p e s m args below meth c s₁ B hml hno hv
  obtain ⟨rfl, ⟨hP, hK⟩, hN, hX⟩ := hv
  have hts := atoms_spec (ws := ws) B.pre
  have hown2 : s.vm.findClass own = some m.cls := hown ▸ findClass_of_methodNamed B.named
  have h := body (p, l, e, rmx fr lo kx, s, m, As.toArray, below, meth, c, vx_MQ below (Qi D cA r post) (XX D cA r px) As.toArray s kx (6 * kx) (rng r), rng r, D, cA, maxL, r) ⟨⟨rfl, rfl, rfl, rfl, rfl, rfl⟩, ⟨B.exec, B.bytes, hml, hown2, hts⟩, hK, hN, hr, fun i hi => ⟨i, hi, rfl⟩⟩ ⟨rfl, rfl, B.returns, B.notSynchronized, hno, hst, hX⟩
  have hl := lv_entry As (n := maxL) hlv
  rw [lg_entry_eq]
  rw [hlq] at hl
  exact h s.heap [] _ hP va_S.rf hl

def Xv (l : Launch) (D : va_G) (cA : Nat → ClassId) (r : Nat → Nat) (y : MethodName) (ws : List Cond) (fr lo kx : Nat) (z : Zt) (As : List Value) (post : Zt → Prop) (px : String → Zt → Prop) : Prop := vx_Met l y ws (rmx fr lo kx) (Px D cA r z As) (Qv D cA r post) (XX D cA r px) kx (6 * kx) (rng r)
theorem Xv_of {y : MethodName} {ws ws' : List Cond} {fr lo kx maxL : Nat} {As : List Value} {post : Zt → Prop} {px : String → Zt → Prop} (lv : List (Nat × Value)) (hr : Inj r) (hst : l.stackTraces = false) (hy : plainName y.cls = true) (hw : ws = Cond.code y cc maxL none :: ws') (hown : y.cls = own) (hlv : (lg_sl As).length ≤ maxL) (hlq : lv_args 0 As = lv)
    (body : ∀ Γ : Cx, Cok l D cA r (rmx fr lo kx) Γ cc own ws maxL → RtX l D cA r kx (Qv D cA r post) px none Γ → V Γ z 0 0 lv 0 []) : Xv l D cA r y ws fr lo kx z As post px := by
  refine vx_ofW (cc := cc) (maxL := maxL) (ret := none) hy hw ?_
  intro p e s m args below meth c s₁ B hml hno hv
  obtain ⟨rfl, ⟨hP, hK⟩, hN, hX⟩ := hv
  have hts := atoms_spec (ws := ws) B.pre
  have hown2 : s.vm.findClass own = some m.cls := hown ▸ findClass_of_methodNamed B.named
  have h := body (p, l, e, rmx fr lo kx, s, m, As.toArray, below, meth, c, vx_MQ below (Qv D cA r post) (XX D cA r px) As.toArray s kx (6 * kx) (rng r), rng r, D, cA, maxL, r) ⟨⟨rfl, rfl, rfl, rfl, rfl, rfl⟩, ⟨B.exec, B.bytes, hml, hown2, hts⟩, hK, hN, hr, fun i hi => ⟨i, hi, rfl⟩⟩ ⟨rfl, rfl, B.returns, B.notSynchronized, hno, hst, hX⟩
  have hl := lv_entry As (n := maxL) hlv
  rw [lg_entry_eq]
  rw [hlq] at hl
  exact h s.heap [] _ hP va_S.rf hl

def Xr (l : Launch) (D : va_G) (cA : Nat → ClassId) (r : Nat → Nat) (y : MethodName) (ws : List Cond) (fr lo kx : Nat) (z : Zt) (As : List Value) (post : Nat → Zt → Prop) (px : String → Zt → Prop) : Prop := vx_Met l y ws (rmx fr lo kx) (Px D cA r z As) (Qr D cA r post) (XX D cA r px) kx (6 * kx) (rng r)
theorem Xr_of {y : MethodName} {ws ws' : List Cond} {fr lo kx maxL : Nat} {As : List Value} {post : Nat → Zt → Prop} {px : String → Zt → Prop} {ty : FieldType} (lv : List (Nat × Value)) (hr : Inj r) (hst : l.stackTraces = false) (hy : plainName y.cls = true) (hw : ws = Cond.code y cc maxL (some ty) :: ws') (hown : y.cls = own) (hlv : (lg_sl As).length ≤ maxL) (hlq : lv_args 0 As = lv)
    (body : ∀ Γ : Cx, Cok l D cA r (rmx fr lo kx) Γ cc own ws maxL → RtX l D cA r kx (Qr D cA r post) px (some ty) Γ → V Γ z 0 0 lv 0 []) : Xr l D cA r y ws fr lo kx z As post px := by
  refine vx_ofW (cc := cc) (maxL := maxL) (ret := (some ty)) hy hw ?_
  intro p e s m args below meth c s₁ B hml hno hv
  obtain ⟨rfl, ⟨hP, hK⟩, hN, hX⟩ := hv
  have hts := atoms_spec (ws := ws) B.pre
  have hown2 : s.vm.findClass own = some m.cls := hown ▸ findClass_of_methodNamed B.named
  have h := body (p, l, e, rmx fr lo kx, s, m, As.toArray, below, meth, c, vx_MQ below (Qr D cA r post) (XX D cA r px) As.toArray s kx (6 * kx) (rng r), rng r, D, cA, maxL, r) ⟨⟨rfl, rfl, rfl, rfl, rfl, rfl⟩, ⟨B.exec, B.bytes, hml, hown2, hts⟩, hK, hN, hr, fun i hi => ⟨i, hi, rfl⟩⟩ ⟨rfl, rfl, B.returns, B.notSynchronized, hno, hst, hX⟩
  have hl := lv_entry As (n := maxL) hlv
  rw [lg_entry_eq]
  rw [hlq] at hl
  exact h s.heap [] _ hP va_S.rf hl

theorem x_iret (G : Cok l D cA r Rm Γ cc own Ts mL) {kx : Nat} {post : Int → Zt → Prop} {px : String → Zt → Prop} (hR : RtX l D cA r kx (Qi D cA r post) px (some .int) Γ) (hkc : kc ≤ kx ∧ ks ≤ 6 * kx) {x : Int} (d : decode cc pc = .ok (.ireturn, 1)) (hp : post x z) : V Γ z kc ks lv pc [.int (iN x)] := by
  obtain ⟨p, l', e, R, s, m, args, below, meth, c, Q, A, D', cA', nL, r'⟩ := Γ
  obtain ⟨⟨rfl, rfl, rfl, rfl, rfl, rfl⟩, ⟨hx, hb, hml, hown, hts⟩, hK, hN, hr, hA⟩ := G
  obtain ⟨rfl, rfl, hret, hlk, hno, hsT, hX⟩ := hR
  intro H locs ls hP hS hL
  refine vx_ret (W.widen (k := kx) (n := 6 * kx) hkc.1 hkc.2 ?_)
  exact W.iret (v := iN x) hx hb hret (fun t ht hW => ⟨⟨iN x, z, rfl, ⟨x, rfl, hp⟩, by rw [ht]; exact hP, va_K.moved hW.alike hK⟩, hS.F ht⟩) hS.2.2 d hlk
theorem x_zret (G : Cok l D cA r Rm Γ cc own Ts mL) {kx : Nat} {post : Int → Zt → Prop} {px : String → Zt → Prop} (hR : RtX l D cA r kx (Qi D cA r post) px (some .boolean) Γ) (hkc : kc ≤ kx ∧ ks ≤ 6 * kx) {x : Int} (h01 : x = 0 ∨ x = 1) (d : decode cc pc = .ok (.ireturn, 1)) (hp : post x z) : V Γ z kc ks lv pc [.int (iN x)] := by
  obtain ⟨p, l', e, R, s, m, args, below, meth, c, Q, A, D', cA', nL, r'⟩ := Γ
  obtain ⟨⟨rfl, rfl, rfl, rfl, rfl, rfl⟩, ⟨hx, hb, hml, hown, hts⟩, hK, hN, hr, hA⟩ := G
  obtain ⟨rfl, rfl, hret, hlk, hno, hsT, hX⟩ := hR
  intro H locs ls hP hS hL
  refine vx_ret (W.widen (k := kx) (n := 6 * kx) hkc.1 hkc.2 ?_)
  exact W.zret (v := iN x) hx hb hret (nar01 h01) (fun t ht hW => ⟨⟨iN x, z, rfl, ⟨x, rfl, hp⟩, by rw [ht]; exact hP, va_K.moved hW.alike hK⟩, hS.F ht⟩) hS.2.2 d hlk
theorem x_vret (G : Cok l D cA r Rm Γ cc own Ts mL) {kx : Nat} {post : Zt → Prop} {px : String → Zt → Prop} (hR : RtX l D cA r kx (Qv D cA r post) px none Γ) (hkc : kc ≤ kx ∧ ks ≤ 6 * kx) (d : decode cc pc = .ok (.return_, 1)) (hp : post z) : V Γ z kc ks lv pc [] := by
  obtain ⟨p, l', e, R, s, m, args, below, meth, c, Q, A, D', cA', nL, r'⟩ := Γ
  obtain ⟨⟨rfl, rfl, rfl, rfl, rfl, rfl⟩, ⟨hx, hb, hml, hown, hts⟩, hK, hN, hr, hA⟩ := G
  obtain ⟨rfl, rfl, hret, hlk, hno, hsT, hX⟩ := hR
  intro H locs ls hP hS hL
  refine vx_ret (W.widen (k := kx) (n := 6 * kx) hkc.1 hkc.2 ?_)
  exact W.vret hx hb hret (fun t ht hW => ⟨⟨z, rfl, hp, by rw [ht]; exact hP, va_K.moved hW.alike hK⟩, hS.F ht⟩) hS.2.2 d hlk
theorem x_aret (G : Cok l D cA r Rm Γ cc own Ts mL) {kx : Nat} {post : Nat → Zt → Prop} {px : String → Zt → Prop} {C : String} (hR : RtX l D cA r kx (Qr D cA r post) px (some (.object C)) Γ) (hkc : kc ≤ kx ∧ ks ≤ 6 * kx) {t : Nat} (d : decode cc pc = .ok (.areturn, 1)) (hp : post t z) : V Γ z kc ks lv pc [.ref (r t)] := by
  obtain ⟨p, l', e, R, s, m, args, below, meth, c, Q, A, D', cA', nL, r'⟩ := Γ
  obtain ⟨⟨rfl, rfl, rfl, rfl, rfl, rfl⟩, ⟨hx, hb, hml, hown, hts⟩, hK, hN, hr, hA⟩ := G
  obtain ⟨rfl, rfl, hret, hlk, hno, hsT, hX⟩ := hR
  intro H locs ls hP hS hL
  refine vx_ret (W.widen (k := kx) (n := 6 * kx) hkc.1 hkc.2 ?_)
  exact W.aret (v := .ref (r' t)) hx hb hret (Or.inl ⟨C, rfl⟩) (Or.inr ⟨_, rfl⟩) (fun u hu hW => ⟨⟨(z, t), r' t, rfl, hp, rfl, by rw [hu]; exact hP, va_K.moved hW.alike hK⟩, hS.F hu⟩) hS.2.2 d hlk
theorem x_throw {kx : Nat} {Qc : Array Value → State → Outcome → State → Prop} {px : String → Zt → Prop} {ret : Option FieldType} (G : Cok l D cA r Rm Γ cc RX4 Ts mL) (hR : RtX l D cA r kx Qc px ret Γ) {cls text : String} {names : List String} {ik is ic : Nat} (hcls : Bundle.fit cls = true) (hnames : ∀ n ∈ names, Bundle.fit n = true) (hk : Cond.classLink RX4 ik cls ∈ Ts) (hini : Cond.initialized cls ∈ Ts) (hlit : (is, text) ∈ xLit)
    (hat1 : ∀ w ∈ (vx_atS RX4 ic cls names).filter goodWord, w ∈ Ts) (hat2 : ∀ w ∈ (vx_atS RX4 ic cls names).filter (fun w => !goodWord w), w ∈ xB) (hgood : ∀ w ∈ Cond.classLink RX4 ik cls :: Cond.initialized cls :: vx_atS RX4 ic cls names, vx_ot w = true)
    (d0 : decode cc pc = .ok (.new ik, 3)) (d3 : decode cc (pc + 3) = .ok (.dup, 1)) (d4 : decode cc (pc + 4) = .ok (.ldc is, 2)) (d6 : decode cc (pc + 6) = .ok (.invokespecial ic, 3)) (d9 : decode cc (pc + 9) = .ok (.athrow, 1))
    (hfr : names.length + 3 < Rm.frames) (hlo : (st.map fun v => v.category).sum + (13 * (names.length + 1) + 43) ≤ Rm.locals) (hRm : Rm.cells = kx ∧ Rm.slots = 6 * kx) (hkc : kc + 1 ≤ kx ∧ ks + 6 ≤ 6 * kx) (hp : px cls z) : V Γ z kc ks lv pc st := by
  obtain ⟨p, l', e, R, s, m, args, below, meth, c, Q, A, D', cA', nL, r'⟩ := Γ
  obtain ⟨⟨rfl, rfl, rfl, rfl, rfl, rfl⟩, ⟨hx, hb, hml, hown, hts⟩, hK, hN, hr, hA⟩ := G
  obtain ⟨rfl, rfl, hret, hlk, hno, hsT, hX⟩ := hR
  intro H locs ls hP hS hL
  obtain ⟨hU, hNn, hlt, hbb⟩ := hX
  obtain ⟨sa, hsa⟩ := hlt _ hlit
  refine vx_throwS (A := rng r') (sa := sa) (text := text) hx hb hsT hown hcls hnames (hts _ hk) (hts _ hini) hsa (vx_hat (fun w hw => hts w (hat1 w hw)) hat2 (fun w hw => va_Nw.use (xB_on hw) (hbb w hw))) hgood hU hNn hS (hL.1.trans hml.symm) d0 d3 d4 d6 d9 (fun x hx9 => (hno x hx9).elim) hfr hlo (by rw [hRm.1]; exact hkc.1) (by rw [hRm.2]; exact hkc.2) hlk (fun t hvm hsz hk9 => ?_) hS.2.2 hkc.1 hkc.2
  refine ⟨z, trivial, ⟨hp, ?_, va_K.moved hvm hK⟩, ?_⟩
  · exact hP.kept (fun k q hq => hk9 _ (hP k q hq).lt)
  · exact ⟨Nat.le_trans hS.1 hsz, fun q h1 h2 => by rw [hk9 q (Nat.lt_of_lt_of_le h1 hS.1)]; exact hS.2.1 q h1 h2⟩

theorem vx_callr {p : Program} {l : Launch} {e : Env} {R : Room} {s : State} {m : MethodId} {args : Array Value} {below : List Frame} {meth : Method} {c : Code} {H : Heap} {locs : List Loc} {cells slots mc ms : Nat} {Q : State → Prop} {free : Addr → Prop} {A0 A1 : Nat → Prop} {H0 : Heap} {a : Array Value} {ls : Array Slot} {st0 rest : List Value} {pc : Nat}
    {S SX : Type} {post : S → Prop} {px : SX → Prop} {B : S → Nat → State → Prop} {BX : String → SX → State → Prop} {AX : Nat → Prop} (hr : vx_Run p l e R s m args below meth c H locs cells slots mc ms (F0 m pc ls st0) rest (va_Qr post B A1 a) (vx_X px BX AX) free) (hS : va_S A0 H0 H locs) (hA : ∀ q, q < H.size → A1 q → A0 q) (hf : ∀ q, free q → A0 q) (hAX : ∀ q, q < H.size → AX q → A0 q)
    (kx : ∀ (E : String) (ce : Cell) (q9 : Addr) (u : SX) (t : State) (H1 : Heap) (locs1 : List Loc), t.heap = H1 → s.vm.Alike t.vm → px u → BX E u t → H.size ≤ H1.size → (∀ q : Nat, q < H.size → ¬ AX q → H1[q]? = H[q]?) → va_S A0 H0 H1 locs1 → H1[q9]? = some ce → ce.vm = .none → s.vm.findClass E = some ce.cls → vx_W p l e R s m args below meth c H1 locs1 (cells + mc) (slots + ms) Q (F0 m pc ls rest) q9)
    (kk : ∀ (u : S) (ra : Nat) (t : State) (H1 : Heap) (locs1 : List Loc), t.heap = H1 → s.vm.Alike t.vm → post u → B u ra t → H.size ≤ H1.size → (∀ q : Nat, q < H.size → ¬ A1 q → H1[q]? = H[q]?) → va_S A0 H0 H1 locs1 → W p l e R s m args below meth c H1 locs1 (cells + mc) (slots + ms) Q (F0 m (pc + 3) ls (.ref ra :: rest))) : W p l e R s m args below meth c H locs cells slots Q (F0 m pc ls st0) := by
  intro T hT X
  rcases hr T hT X with ⟨v, st₀, t, T', L, h0, X', hL, e1, e2, ⟨⟨u, ra, hv, hp, hb⟩, hF⟩, st⟩ | ⟨q, st₀, t, T', L, E, ce, h0, X', hL, e1, e2, ⟨u, hp, hb, hF⟩, hce, hcv, hcl, st⟩
  · cases hv
    obtain ⟨k1, k2, k3⟩ := vx_keep h0 e1 hS hA hf hL hF
    obtain ⟨t2, a1, b1⟩ := kk u ra t T'.heap (locs ++ L) e1.symm (by rw [← e2]; exact X'.warmed.alike) hp hb k1 k2 k3 T' rfl X'
    exact ⟨t2, st t2 a1, b1⟩
  · obtain ⟨k1, k2, k3⟩ := vx_keep h0 e1 hS hAX hf hL hF
    obtain ⟨t2, a1, b1⟩ := kx E ce q u t T'.heap (locs ++ L) e1.symm (by rw [← e2]; exact X'.warmed.alike) hp hb k1 k2 k3 (by rw [e1]; exact hce) hcv hcl T' rfl X'
    exact ⟨t2, st.trans a1, b1⟩

theorem x_callVi (G : Cok l D cA r Rm Γ cc own Ts mL) {kx kq : Nat} {Qc : Array Value → State → Outcome → State → Prop} {px px1 : String → Zt → Prop} {ret0 : Option FieldType} (hR : RtX l D cA r kx Qc px ret0 Γ) {C : String} {T0 : u_T} {N0 ci K t index maxL fr lo n : Nat} {y : MethodName} {ws ws' : List Cond} {bytes : ByteArray} {ty : FieldType} {fs As stk : List Value} {post : Int → Zt → Prop} (hM : Xi l D cA r y ws fr lo kq z (.ref (r t) :: As) post px1) (hcw : GoodIn Ts (wsV own index C y ws)) (hw : ws = Cond.code y bytes maxL (some ty) :: ws')
    (hy : y.cls = C ∧ y.cls ≠ "java/lang/invoke/MethodHandle" ∧ y.cls ≠ "java/lang/invoke/VarHandle" ∧ (parseMethodDescriptor y.desc).map (fun d => d.parameters.length) = some n) (hn : As.length = n) (hRR : fr + 1 ≤ Rm.frames ∧ 8 + (maxL + 11) + lo ≤ Rm.locals) (ht : kd t = K) (hK0 : K ≠ 0) (hcl : cl K r cA t (z t) = .inr (ci, fs)) (hc : vwCl[ci]? = some (C, T0, N0)) (d : decode cc pc = .ok (.invokevirtual index, 3)) (hstk : stk = As.reverse ++ .ref (r t) :: st) (hst : (st.map fun v => v.category).sum ≤ 8) (hRm : Rm.cells = kx ∧ Rm.slots = 6 * kx) (hkc : kc + kq ≤ kx ∧ ks + 6 * kq ≤ 6 * kx) (hpx : ∀ (E : String) (z1 : Zt), px1 E z1 → px E z1)
    (kk : ∀ (x : Int) (z1 : Zt), post x z1 → V Γ z1 (kc + kq) (ks + 6 * kq) lv (pc + 3) (.int (iN x) :: st)) : V Γ z kc ks lv pc stk := by
  subst hstk
  obtain ⟨p, l', e, R, s, m, args, below, meth, c, Q, A, D', cA', nL, r'⟩ := Γ
  obtain ⟨⟨rfl, rfl, rfl, rfl, rfl, rfl⟩, ⟨hx, hb, hml, hown, hts⟩, hK, hN, hr, hA⟩ := G
  obtain ⟨rfl, rfl, hret, hlk, hno, hsT, hX⟩ := hR
  intro H locs ls hP hS hL
  refine vx_calli (vx_runV (As := As) (rest := st) ⟨hx, hb, hml, hown, hts⟩ hM (cwV n hts hcw hw rfl rfl hy hRR) ⟨Px_blind, va_recv hK hP (ci := ci) (q0 := t) hc ((wl_at (kd_lt ht hK0)).trans (by rw [Ez, ht, hcl])), fun U hU hW => ⟨rfl, ⟨by rw [hU]; exact hP, va_K.moved hW.alike hK⟩, NwK.warm hW hN, Xw.warm hW hU hS hX⟩⟩ rfl hn hL.1 rfl (lv_room hst) d ⟨by rw [hRm.1]; exact hkc.1, by rw [hRm.2]; exact hkc.2⟩) hS ?_ ?_ ?_ ?_ ?_
  · intro q _ h
    obtain ⟨i, hi, rfl⟩ := h
    exact hA i hi
  · intro q h
    obtain ⟨i, hi, rfl⟩ := h
    exact hA i hi
  · intro q _ h
    obtain ⟨i, hi, rfl⟩ := h
    exact hA i hi
  · intro E ce q9 u t1 H1 locs1 e1 hvm _ hB _ _ hS1 hce hcv hcl9
    refine vx_out (fun x hx9 => (hno x hx9).elim) hlk hce hcv hcl9 (fun t2 ht2 hvm2 => ⟨u, trivial, ⟨hpx E u hB.1, ?_, va_K.moved hvm2 hK⟩, hS1.F ht2⟩) hS1.2.2 hkc.1 hkc.2
    rw [ht2, ← e1]
    exact hB.2.1
  · intro x u t1 H1 locs1 e1 hvm hw1 hB _ _ hS1
    obtain ⟨i, rfl, hp⟩ := hw1
    exact kk i u hp H1 locs1 ls (e1 ▸ hB.1) hS1 hL

theorem x_callSi (G : Cok l D cA r Rm Γ cc own Ts mL) {kx kq : Nat} {Qc : Array Value → State → Outcome → State → Prop} {px px1 : String → Zt → Prop} {ret0 : Option FieldType} (hR : RtX l D cA r kx Qc px ret0 Γ) {index maxL fr lo n : Nat} {y : MethodName} {ws ws' : List Cond} {bytes : ByteArray} {ty : FieldType} {As stk : List Value} {post : Int → Zt → Prop} (hM : Xi l D cA r y ws fr lo kq z As post px1) (hcw : GoodIn Ts (va_wsS own index y ws)) (hw : ws = Cond.code y bytes maxL (some ty) :: ws')
    (hy : y.cls ≠ "java/lang/invoke/MethodHandle" ∧ y.cls ≠ "java/lang/invoke/VarHandle" ∧ (parseMethodDescriptor y.desc).map (fun d => d.parameters.length) = some n) (hn : As.length = n) (hRR : fr + 1 ≤ Rm.frames ∧ 8 + (maxL + 11) + lo ≤ Rm.locals) (d : decode cc pc = .ok (.invokestatic index, 3)) (hstk : stk = As.reverse ++ st) (hst : (st.map fun v => v.category).sum ≤ 8) (hRm : Rm.cells = kx ∧ Rm.slots = 6 * kx) (hkc : kc + kq ≤ kx ∧ ks + 6 * kq ≤ 6 * kx) (hpx : ∀ (E : String) (z1 : Zt), px1 E z1 → px E z1)
    (kk : ∀ (x : Int) (z1 : Zt), post x z1 → V Γ z1 (kc + kq) (ks + 6 * kq) lv (pc + 3) (.int (iN x) :: st)) : V Γ z kc ks lv pc stk := by
  subst hstk
  obtain ⟨p, l', e, R, s, m, args, below, meth, c, Q, A, D', cA', nL, r'⟩ := Γ
  obtain ⟨⟨rfl, rfl, rfl, rfl, rfl, rfl⟩, ⟨hx, hb, hml, hown, hts⟩, hK, hN, hr, hA⟩ := G
  obtain ⟨rfl, rfl, hret, hlk, hno, hsT, hX⟩ := hR
  intro H locs ls hP hS hL
  refine vx_calli (vx_runS (As := As) (rest := st) ⟨hx, hb, hml, hown, hts⟩ hM (va_cwS n hts hcw hw rfl rfl hy hRR) ⟨Px_blind, fun U hU hW => ⟨rfl, ⟨by rw [hU]; exact hP, va_K.moved hW.alike hK⟩, NwK.warm hW hN, Xw.warm hW hU hS hX⟩⟩ rfl hn hL.1 rfl (lv_room hst) d ⟨by rw [hRm.1]; exact hkc.1, by rw [hRm.2]; exact hkc.2⟩) hS ?_ ?_ ?_ ?_ ?_
  · intro q _ h
    obtain ⟨i, hi, rfl⟩ := h
    exact hA i hi
  · intro q h
    obtain ⟨i, hi, rfl⟩ := h
    exact hA i hi
  · intro q _ h
    obtain ⟨i, hi, rfl⟩ := h
    exact hA i hi
  · intro E ce q9 u t1 H1 locs1 e1 hvm _ hB _ _ hS1 hce hcv hcl9
    refine vx_out (fun x hx9 => (hno x hx9).elim) hlk hce hcv hcl9 (fun t2 ht2 hvm2 => ⟨u, trivial, ⟨hpx E u hB.1, ?_, va_K.moved hvm2 hK⟩, hS1.F ht2⟩) hS1.2.2 hkc.1 hkc.2
    rw [ht2, ← e1]
    exact hB.2.1
  · intro x u t1 H1 locs1 e1 hvm hw1 hB _ _ hS1
    obtain ⟨i, rfl, hp⟩ := hw1
    exact kk i u hp H1 locs1 ls (e1 ▸ hB.1) hS1 hL

theorem x_callVv (G : Cok l D cA r Rm Γ cc own Ts mL) {kx kq : Nat} {Qc : Array Value → State → Outcome → State → Prop} {px px1 : String → Zt → Prop} {ret0 : Option FieldType} (hR : RtX l D cA r kx Qc px ret0 Γ) {C : String} {T0 : u_T} {N0 ci K t index maxL fr lo n : Nat} {y : MethodName} {ws ws' : List Cond} {bytes : ByteArray} {fs As stk : List Value} {post : Zt → Prop} (hM : Xv l D cA r y ws fr lo kq z (.ref (r t) :: As) post px1) (hcw : GoodIn Ts (wsV own index C y ws)) (hw : ws = Cond.code y bytes maxL none :: ws')
    (hy : y.cls = C ∧ y.cls ≠ "java/lang/invoke/MethodHandle" ∧ y.cls ≠ "java/lang/invoke/VarHandle" ∧ (parseMethodDescriptor y.desc).map (fun d => d.parameters.length) = some n) (hn : As.length = n) (hRR : fr + 1 ≤ Rm.frames ∧ 8 + (maxL + 11) + lo ≤ Rm.locals) (ht : kd t = K) (hK0 : K ≠ 0) (hcl : cl K r cA t (z t) = .inr (ci, fs)) (hc : vwCl[ci]? = some (C, T0, N0)) (d : decode cc pc = .ok (.invokevirtual index, 3)) (hstk : stk = As.reverse ++ .ref (r t) :: st) (hst : (st.map fun v => v.category).sum ≤ 8) (hRm : Rm.cells = kx ∧ Rm.slots = 6 * kx) (hkc : kc + kq ≤ kx ∧ ks + 6 * kq ≤ 6 * kx) (hpx : ∀ (E : String) (z1 : Zt), px1 E z1 → px E z1)
    (kk : ∀ (z1 : Zt), post z1 → V Γ z1 (kc + kq) (ks + 6 * kq) lv (pc + 3) st) : V Γ z kc ks lv pc stk := by
  subst hstk
  obtain ⟨p, l', e, R, s, m, args, below, meth, c, Q, A, D', cA', nL, r'⟩ := Γ
  obtain ⟨⟨rfl, rfl, rfl, rfl, rfl, rfl⟩, ⟨hx, hb, hml, hown, hts⟩, hK, hN, hr, hA⟩ := G
  obtain ⟨rfl, rfl, hret, hlk, hno, hsT, hX⟩ := hR
  intro H locs ls hP hS hL
  refine vx_callv (vx_runV (As := As) (rest := st) ⟨hx, hb, hml, hown, hts⟩ hM (cwV n hts hcw hw rfl rfl hy hRR) ⟨Px_blind, va_recv hK hP (ci := ci) (q0 := t) hc ((wl_at (kd_lt ht hK0)).trans (by rw [Ez, ht, hcl])), fun U hU hW => ⟨rfl, ⟨by rw [hU]; exact hP, va_K.moved hW.alike hK⟩, NwK.warm hW hN, Xw.warm hW hU hS hX⟩⟩ rfl hn hL.1 rfl (lv_room hst) d ⟨by rw [hRm.1]; exact hkc.1, by rw [hRm.2]; exact hkc.2⟩) hS ?_ ?_ ?_ ?_ ?_
  · intro q _ h
    obtain ⟨i, hi, rfl⟩ := h
    exact hA i hi
  · intro q h
    obtain ⟨i, hi, rfl⟩ := h
    exact hA i hi
  · intro q _ h
    obtain ⟨i, hi, rfl⟩ := h
    exact hA i hi
  · intro E ce q9 u t1 H1 locs1 e1 hvm _ hB _ _ hS1 hce hcv hcl9
    refine vx_out (fun x hx9 => (hno x hx9).elim) hlk hce hcv hcl9 (fun t2 ht2 hvm2 => ⟨u, trivial, ⟨hpx E u hB.1, ?_, va_K.moved hvm2 hK⟩, hS1.F ht2⟩) hS1.2.2 hkc.1 hkc.2
    rw [ht2, ← e1]
    exact hB.2.1
  · intro u t1 H1 locs1 e1 hvm hw1 hB _ _ hS1
    exact kk u hw1 H1 locs1 ls (e1 ▸ hB.1) hS1 hL

theorem x_callSv (G : Cok l D cA r Rm Γ cc own Ts mL) {kx kq : Nat} {Qc : Array Value → State → Outcome → State → Prop} {px px1 : String → Zt → Prop} {ret0 : Option FieldType} (hR : RtX l D cA r kx Qc px ret0 Γ) {index maxL fr lo n : Nat} {y : MethodName} {ws ws' : List Cond} {bytes : ByteArray} {As stk : List Value} {post : Zt → Prop} (hM : Xv l D cA r y ws fr lo kq z As post px1) (hcw : GoodIn Ts (va_wsS own index y ws)) (hw : ws = Cond.code y bytes maxL none :: ws')
    (hy : y.cls ≠ "java/lang/invoke/MethodHandle" ∧ y.cls ≠ "java/lang/invoke/VarHandle" ∧ (parseMethodDescriptor y.desc).map (fun d => d.parameters.length) = some n) (hn : As.length = n) (hRR : fr + 1 ≤ Rm.frames ∧ 8 + (maxL + 11) + lo ≤ Rm.locals) (d : decode cc pc = .ok (.invokestatic index, 3)) (hstk : stk = As.reverse ++ st) (hst : (st.map fun v => v.category).sum ≤ 8) (hRm : Rm.cells = kx ∧ Rm.slots = 6 * kx) (hkc : kc + kq ≤ kx ∧ ks + 6 * kq ≤ 6 * kx) (hpx : ∀ (E : String) (z1 : Zt), px1 E z1 → px E z1)
    (kk : ∀ (z1 : Zt), post z1 → V Γ z1 (kc + kq) (ks + 6 * kq) lv (pc + 3) st) : V Γ z kc ks lv pc stk := by
  subst hstk
  obtain ⟨p, l', e, R, s, m, args, below, meth, c, Q, A, D', cA', nL, r'⟩ := Γ
  obtain ⟨⟨rfl, rfl, rfl, rfl, rfl, rfl⟩, ⟨hx, hb, hml, hown, hts⟩, hK, hN, hr, hA⟩ := G
  obtain ⟨rfl, rfl, hret, hlk, hno, hsT, hX⟩ := hR
  intro H locs ls hP hS hL
  refine vx_callv (vx_runS (As := As) (rest := st) ⟨hx, hb, hml, hown, hts⟩ hM (va_cwS n hts hcw hw rfl rfl hy hRR) ⟨Px_blind, fun U hU hW => ⟨rfl, ⟨by rw [hU]; exact hP, va_K.moved hW.alike hK⟩, NwK.warm hW hN, Xw.warm hW hU hS hX⟩⟩ rfl hn hL.1 rfl (lv_room hst) d ⟨by rw [hRm.1]; exact hkc.1, by rw [hRm.2]; exact hkc.2⟩) hS ?_ ?_ ?_ ?_ ?_
  · intro q _ h
    obtain ⟨i, hi, rfl⟩ := h
    exact hA i hi
  · intro q h
    obtain ⟨i, hi, rfl⟩ := h
    exact hA i hi
  · intro q _ h
    obtain ⟨i, hi, rfl⟩ := h
    exact hA i hi
  · intro E ce q9 u t1 H1 locs1 e1 hvm _ hB _ _ hS1 hce hcv hcl9
    refine vx_out (fun x hx9 => (hno x hx9).elim) hlk hce hcv hcl9 (fun t2 ht2 hvm2 => ⟨u, trivial, ⟨hpx E u hB.1, ?_, va_K.moved hvm2 hK⟩, hS1.F ht2⟩) hS1.2.2 hkc.1 hkc.2
    rw [ht2, ← e1]
    exact hB.2.1
  · intro u t1 H1 locs1 e1 hvm hw1 hB _ _ hS1
    exact kk u hw1 H1 locs1 ls (e1 ▸ hB.1) hS1 hL

theorem x_callVr (G : Cok l D cA r Rm Γ cc own Ts mL) {kx kq : Nat} {Qc : Array Value → State → Outcome → State → Prop} {px px1 : String → Zt → Prop} {ret0 : Option FieldType} (hR : RtX l D cA r kx Qc px ret0 Γ) {C : String} {T0 : u_T} {N0 ci K t index maxL fr lo n : Nat} {y : MethodName} {ws ws' : List Cond} {bytes : ByteArray} {ty : FieldType} {fs As stk : List Value} {post : Nat → Zt → Prop} (hM : Xr l D cA r y ws fr lo kq z (.ref (r t) :: As) post px1) (hcw : GoodIn Ts (wsV own index C y ws)) (hw : ws = Cond.code y bytes maxL (some ty) :: ws')
    (hy : y.cls = C ∧ y.cls ≠ "java/lang/invoke/MethodHandle" ∧ y.cls ≠ "java/lang/invoke/VarHandle" ∧ (parseMethodDescriptor y.desc).map (fun d => d.parameters.length) = some n) (hn : As.length = n) (hRR : fr + 1 ≤ Rm.frames ∧ 8 + (maxL + 11) + lo ≤ Rm.locals) (ht : kd t = K) (hK0 : K ≠ 0) (hcl : cl K r cA t (z t) = .inr (ci, fs)) (hc : vwCl[ci]? = some (C, T0, N0)) (d : decode cc pc = .ok (.invokevirtual index, 3)) (hstk : stk = As.reverse ++ .ref (r t) :: st) (hst : (st.map fun v => v.category).sum ≤ 8) (hRm : Rm.cells = kx ∧ Rm.slots = 6 * kx) (hkc : kc + kq ≤ kx ∧ ks + 6 * kq ≤ 6 * kx) (hpx : ∀ (E : String) (z1 : Zt), px1 E z1 → px E z1)
    (kk : ∀ (t1 : Nat) (z1 : Zt), post t1 z1 → V Γ z1 (kc + kq) (ks + 6 * kq) lv (pc + 3) (.ref (r t1) :: st)) : V Γ z kc ks lv pc stk := by
  subst hstk
  obtain ⟨p, l', e, R, s, m, args, below, meth, c, Q, A, D', cA', nL, r'⟩ := Γ
  obtain ⟨⟨rfl, rfl, rfl, rfl, rfl, rfl⟩, ⟨hx, hb, hml, hown, hts⟩, hK, hN, hr, hA⟩ := G
  obtain ⟨rfl, rfl, hret, hlk, hno, hsT, hX⟩ := hR
  intro H locs ls hP hS hL
  refine vx_callr (vx_runV (As := As) (rest := st) ⟨hx, hb, hml, hown, hts⟩ hM (cwV n hts hcw hw rfl rfl hy hRR) ⟨Px_blind, va_recv hK hP (ci := ci) (q0 := t) hc ((wl_at (kd_lt ht hK0)).trans (by rw [Ez, ht, hcl])), fun U hU hW => ⟨rfl, ⟨by rw [hU]; exact hP, va_K.moved hW.alike hK⟩, NwK.warm hW hN, Xw.warm hW hU hS hX⟩⟩ rfl hn hL.1 rfl (lv_room hst) d ⟨by rw [hRm.1]; exact hkc.1, by rw [hRm.2]; exact hkc.2⟩) hS ?_ ?_ ?_ ?_ ?_
  · intro q _ h
    obtain ⟨i, hi, rfl⟩ := h
    exact hA i hi
  · intro q h
    obtain ⟨i, hi, rfl⟩ := h
    exact hA i hi
  · intro q _ h
    obtain ⟨i, hi, rfl⟩ := h
    exact hA i hi
  · intro E ce q9 u t1 H1 locs1 e1 hvm _ hB _ _ hS1 hce hcv hcl9
    refine vx_out (fun x hx9 => (hno x hx9).elim) hlk hce hcv hcl9 (fun t2 ht2 hvm2 => ⟨u, trivial, ⟨hpx E u hB.1, ?_, va_K.moved hvm2 hK⟩, hS1.F ht2⟩) hS1.2.2 hkc.1 hkc.2
    rw [ht2, ← e1]
    exact hB.2.1
  · intro u ra t1 H1 locs1 e1 hvm hw1 hB _ _ hS1
    obtain ⟨rfl, hB⟩ := hB
    exact kk u.2 u.1 hw1 H1 locs1 ls (e1 ▸ hB.1) hS1 hL

theorem x_callSr (G : Cok l D cA r Rm Γ cc own Ts mL) {kx kq : Nat} {Qc : Array Value → State → Outcome → State → Prop} {px px1 : String → Zt → Prop} {ret0 : Option FieldType} (hR : RtX l D cA r kx Qc px ret0 Γ) {index maxL fr lo n : Nat} {y : MethodName} {ws ws' : List Cond} {bytes : ByteArray} {ty : FieldType} {As stk : List Value} {post : Nat → Zt → Prop} (hM : Xr l D cA r y ws fr lo kq z As post px1) (hcw : GoodIn Ts (va_wsS own index y ws)) (hw : ws = Cond.code y bytes maxL (some ty) :: ws')
    (hy : y.cls ≠ "java/lang/invoke/MethodHandle" ∧ y.cls ≠ "java/lang/invoke/VarHandle" ∧ (parseMethodDescriptor y.desc).map (fun d => d.parameters.length) = some n) (hn : As.length = n) (hRR : fr + 1 ≤ Rm.frames ∧ 8 + (maxL + 11) + lo ≤ Rm.locals) (d : decode cc pc = .ok (.invokestatic index, 3)) (hstk : stk = As.reverse ++ st) (hst : (st.map fun v => v.category).sum ≤ 8) (hRm : Rm.cells = kx ∧ Rm.slots = 6 * kx) (hkc : kc + kq ≤ kx ∧ ks + 6 * kq ≤ 6 * kx) (hpx : ∀ (E : String) (z1 : Zt), px1 E z1 → px E z1)
    (kk : ∀ (t1 : Nat) (z1 : Zt), post t1 z1 → V Γ z1 (kc + kq) (ks + 6 * kq) lv (pc + 3) (.ref (r t1) :: st)) : V Γ z kc ks lv pc stk := by
  subst hstk
  obtain ⟨p, l', e, R, s, m, args, below, meth, c, Q, A, D', cA', nL, r'⟩ := Γ
  obtain ⟨⟨rfl, rfl, rfl, rfl, rfl, rfl⟩, ⟨hx, hb, hml, hown, hts⟩, hK, hN, hr, hA⟩ := G
  obtain ⟨rfl, rfl, hret, hlk, hno, hsT, hX⟩ := hR
  intro H locs ls hP hS hL
  refine vx_callr (vx_runS (As := As) (rest := st) ⟨hx, hb, hml, hown, hts⟩ hM (va_cwS n hts hcw hw rfl rfl hy hRR) ⟨Px_blind, fun U hU hW => ⟨rfl, ⟨by rw [hU]; exact hP, va_K.moved hW.alike hK⟩, NwK.warm hW hN, Xw.warm hW hU hS hX⟩⟩ rfl hn hL.1 rfl (lv_room hst) d ⟨by rw [hRm.1]; exact hkc.1, by rw [hRm.2]; exact hkc.2⟩) hS ?_ ?_ ?_ ?_ ?_
  · intro q _ h
    obtain ⟨i, hi, rfl⟩ := h
    exact hA i hi
  · intro q h
    obtain ⟨i, hi, rfl⟩ := h
    exact hA i hi
  · intro q _ h
    obtain ⟨i, hi, rfl⟩ := h
    exact hA i hi
  · intro E ce q9 u t1 H1 locs1 e1 hvm _ hB _ _ hS1 hce hcv hcl9
    refine vx_out (fun x hx9 => (hno x hx9).elim) hlk hce hcv hcl9 (fun t2 ht2 hvm2 => ⟨u, trivial, ⟨hpx E u hB.1, ?_, va_K.moved hvm2 hK⟩, hS1.F ht2⟩) hS1.2.2 hkc.1 hkc.2
    rw [ht2, ← e1]
    exact hB.2.1
  · intro u ra t1 H1 locs1 e1 hvm hw1 hB _ _ hS1
    obtain ⟨rfl, hB⟩ := hB
    exact kk u.2 u.1 hw1 H1 locs1 ls (e1 ▸ hB.1) hS1 hL

end VX
theorem x_names : ∀ n ∈ (["java/lang/RuntimeException", "java/lang/Exception"] : List String), Bundle.fit n = true := by decide +kernel
theorem x_fit60 : Bundle.fit "java/lang/IllegalArgumentException" = true := by decide +kernel
theorem x_no60 : ∀ w ∈ (vx_atS RX4 60 "java/lang/IllegalArgumentException" ["java/lang/RuntimeException", "java/lang/Exception"]).filter (fun w => !goodWord w), w ∈ xB := by decide +kernel
theorem x_ok60 : ∀ w ∈ Cond.classLink RX4 56 "java/lang/IllegalArgumentException" :: Cond.initialized "java/lang/IllegalArgumentException" :: vx_atS RX4 60 "java/lang/IllegalArgumentException" ["java/lang/RuntimeException", "java/lang/Exception"], vx_ot w = true := by decide +kernel
theorem x_fit70 : Bundle.fit "java/lang/IllegalStateException" = true := by decide +kernel
theorem x_no70 : ∀ w ∈ (vx_atS RX4 70 "java/lang/IllegalStateException" ["java/lang/RuntimeException", "java/lang/Exception"]).filter (fun w => !goodWord w), w ∈ xB := by decide +kernel
theorem x_ok70 : ∀ w ∈ Cond.classLink RX4 66 "java/lang/IllegalStateException" :: Cond.initialized "java/lang/IllegalStateException" :: vx_atS RX4 70 "java/lang/IllegalStateException" ["java/lang/RuntimeException", "java/lang/Exception"], vx_ot w = true := by decide +kernel
theorem x_fit227 : Bundle.fit "java/lang/IndexOutOfBoundsException" = true := by decide +kernel
theorem x_no227 : ∀ w ∈ (vx_atS RX4 227 "java/lang/IndexOutOfBoundsException" ["java/lang/RuntimeException", "java/lang/Exception"]).filter (fun w => !goodWord w), w ∈ xB := by decide +kernel
theorem x_ok227 : ∀ w ∈ Cond.classLink RX4 223 "java/lang/IndexOutOfBoundsException" :: Cond.initialized "java/lang/IndexOutOfBoundsException" :: vx_atS RX4 227 "java/lang/IndexOutOfBoundsException" ["java/lang/RuntimeException", "java/lang/Exception"], vx_ot w = true := by decide +kernel
