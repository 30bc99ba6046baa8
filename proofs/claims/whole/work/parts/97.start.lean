theorem VG_V {Γ : Cx} {l : Launch} {D : va_G} {cA : Nat → ClassId} {r : Nat → Nat} {Rm : Room} {cc : ByteArray} {own : String} {Ts : List Cond} {mL : Nat} {z : Zt} {kc ks : Nat} {lv : List (Nat × Value)} {pc : Nat} {st : List Value} (G : Cok l D cA r Rm Γ cc own Ts mL) (h : V Γ z kc ks lv pc st) : VG Γ 177 (Ez r cA z) kc ks lv pc st := by
  obtain ⟨p, l', e, R, s, m, args, below, meth, c, Q, A, D', cA', nL, r'⟩ := Γ
  obtain ⟨⟨rfl, rfl, rfl, rfl, rfl, rfl⟩, -⟩ := G
  intro H locs ls hP hZ hS hL
  exact h H locs ls hP hS hL
theorem nwF_in : ∀ w ∈ nwF, w ∈ lw_tbl := by decide +kernel
theorem xB_in : ∀ w ∈ xB, w ∈ lw_tbl := by decide +kernel
theorem xLit_in : ∀ q ∈ xLit, Cond.stringRef RX4 q.1 q.2 ∈ lw_tbl := by decide +kernel
set_option maxHeartbeats 4000000 in
set_option maxRecDepth 100000 in
/-- the cells that the law makes, then its loop -/
theorem law_born {l : Launch} {D : va_G} {cA : Nat → ClassId} {r : Nat → Nat} {Γ : Cx} {b L : Nat} {xs : Nat → Int32} {E : Nat → va_E} (hsq : Sq r) (hst : l.stackTraces = false) (hG : CoG l D cA r room_1 Γ cL_law RL wsL_law 7) (hW : LwR b L xs Γ) (hL : L ≤ 2560) : VG Γ 0 E 0 0 [(0, .ref b)] 0 [] := by
  refine g_new (ci := 4) (fs := frs 4) hG inlX4 tyX4_ok (by decide +kernel) (by decide +kernel) (by decide +kernel) rfl frs_4 (Nat.le_of_ble_eq_true rfl) (Nat.le_of_ble_eq_true rfl) dL_law_0 ?_
  refine g_dup hG dL_law_3 rfl ?_
  refine g_callI (k := 0) hG (c_X4_init hsq (va_up_s _ _ _)) gL_law_X4_init rfl (by decide +kernel) (by decide +kernel) (by decide +kernel) rfl (by decide) rfl ⟨Nat.le_of_ble_eq_true rfl, Nat.le_of_ble_eq_true rfl⟩ dL_law_4 rfl (Nat.le_of_ble_eq_true rfl) ⟨Nat.le_of_ble_eq_true rfl, Nat.le_of_ble_eq_true rfl⟩ ?_
  refine g_astore_n hG [(0, _), (1, _)] dL_law_7 (by decide) rfl ?_
  refine g_new (ci := 5) (fs := frs 5) hG inlX5 tyX5_ok (by decide +kernel) (by decide +kernel) (by decide +kernel) rfl frs_5 (Nat.le_of_ble_eq_true rfl) (Nat.le_of_ble_eq_true rfl) dL_law_8 ?_
  refine g_dup hG dL_law_11 rfl ?_
  refine g_callI (k := 0) hG (c_X5_init hsq (va_up_s _ _ _)) gL_law_X5_init rfl (by decide +kernel) (by decide +kernel) (by decide +kernel) rfl (by decide) rfl ⟨Nat.le_of_ble_eq_true rfl, Nat.le_of_ble_eq_true rfl⟩ dL_law_12 rfl (Nat.le_of_ble_eq_true rfl) ⟨Nat.le_of_ble_eq_true rfl, Nat.le_of_ble_eq_true rfl⟩ ?_
  refine g_astore_n hG [(0, _), (1, _), (2, _)] dL_law_15 (by decide) rfl ?_
  refine g_iconst hG dL_law_16 ?_
  refine g_newaJ hG (by decide +kernel) (by decide) (Nat.le_of_ble_eq_true rfl) (Nat.le_of_ble_eq_true rfl) dL_law_17 ?_
  refine g_E hG (Ez r cA z0) ?_ ?_
  · intro i hi
    by_cases q1 : i = 176
    · subst q1
      rw [va_up_s]
      have ez : z0 176 = fun _ => 0 := by
        funext j
        unfold z0
        rw [if_neg (by decide), if_neg (by decide), if_neg (by decide), if_neg (by decide), if_neg (by decide), if_neg (by decide)]
      have e9 : Ez r cA z0 176 = .inl (cA 2, (1 : Int).toNat, .inr (.inl (fun _ => Int64.ofInt 0))) := by
        unfold Ez
        rw [ez, show kd 176 = 50 by decide]
        rfl
      rw [e9]
      exact eqE.rf _
    · rw [va_up_o q1]
      by_cases q2 : 169 ≤ i
      · rw [mixE_i (by omega)]
        exact eqE.rf _
      · rw [mixE_o (by omega), va_up_o (by omega), mixE_i (by omega)]
        exact eqE.rf _
  have hC := hG.1
  refine VG_V hC ?_
  refine v_astore_n hC [(0, _), (1, _), (2, _), (3, _)] dL_law_19 (by decide) rfl ?_
  refine v_iconst hC dL_law_20 ?_
  refine v_istore hC [(0, _), (1, _), (2, _), (3, _), (4, _)] dL_law_21 (by decide) rfl ?_
  exact law_loop hsq.inj hst hC hW hL _ z0 0 _ _ Rel_z0 (by omega) (Nat.le_refl _) (by decide) (by decide)
set_option maxHeartbeats 4000000 in
set_option maxRecDepth 100000 in
theorem whole_start {p : Program} {e : Env} {s : State} {m : MethodId} {below : List Frame} {meth : Method} {c : Code} (l : Launch) (hflags : l.flags = flags0) {b L : Nat} {xs : Nat → Int32} (hL : L ≤ 2560) (C0 : lw_At p s m meth c b L xs) : W p l e room_1 s m #[Value.ref b] below meth c s.heap [] 0 0 (lw_Z below #[Value.ref b] s) (entryFrame m ([Value.ref b] : List Value).toArray 7) := by
  obtain ⟨hx, hb, hr, hml, hown, hts, hX, hbl, hlocks, hgv⟩ := C0
  have hgs := flat_of_before _ hgv
  have hst : l.stackTraces = false := by
    unfold Launch.stackTraces
    rw [hflags]
    decide +kernel
  obtain ⟨c0, i0, K0⟩ := u_known (C := RX0) (T := TX0) (N := 2) (n := 2) hts inX0 (hts (.instantiable RX0 2) (by decide +kernel))
  obtain ⟨c1, i1, K1⟩ := u_known (C := RX1) (T := TX1) (N := 4) (n := 4) hts inX1 (hts (.instantiable RX1 4) (by decide +kernel))
  obtain ⟨c2, i2, K2⟩ := u_known (C := RX2) (T := TX2) (N := 9) (n := 9) hts inX2 (hts (.instantiable RX2 9) (by decide +kernel))
  obtain ⟨c3, i3, K3⟩ := u_known (C := RX3) (T := TX3) (N := 5) (n := 5) hts inX3 (hts (.instantiable RX3 5) (by decide +kernel))
  obtain ⟨c4, i4, K4⟩ := u_known (C := RX4) (T := TX4) (N := 7) (n := 7) hts inX4 (hts (.instantiable RX4 7) (by decide +kernel))
  obtain ⟨c5, i5, K5⟩ := u_known (C := RX5) (T := TX5) (N := 10) (n := 10) hts inX5 (hts (.instantiable RX5 10) (by decide +kernel))
  obtain ⟨dC, dI, hKc⟩ : ∃ (dC : Nat → ClassId) (dI : Nat → Nat → Nat), ∀ (k : Nat) (q : vw_C), vwCl[k]? = some q → u_Kn s q.1 q.2.1 q.2.2 (dC k) (dI k) := by
    refine ⟨fun k => if k = 0 then c0 else if k = 1 then c1 else if k = 2 then c2 else if k = 3 then c3 else if k = 4 then c4 else c5, fun k => if k = 0 then i0 else if k = 1 then i1 else if k = 2 then i2 else if k = 3 then i3 else if k = 4 then i4 else i5, ?_⟩
    intro k q hq
    match k, hq with
    | 0, hq => cases hq; exact K0
    | 1, hq => cases hq; exact K1
    | 2, hq => cases hq; exact K2
    | 3, hq => cases hq; exact K3
    | 4, hq => cases hq; exact K4
    | 5, hq => cases hq; exact K5
    | k + 6, hq => simp [vwCl] at hq
  obtain ⟨a0, k0, m0, f0, g0, h0⟩ := Cond.arrayClass_spec (hts (.arrayClass .int) (by decide +kernel))
  obtain ⟨a1, k1, m1, f1, g1, h1⟩ := Cond.arrayClass_spec (hts (.arrayClass .boolean) (by decide +kernel))
  obtain ⟨a2, k2, m2, f2, g2, h2⟩ := Cond.arrayClass_spec (hts (.arrayClass .long) (by decide +kernel))
  obtain ⟨m3, a3, k3, e3, -, g3, h3, f3⟩ := Cond.arrayOver_spec (hts (.arrayOver (.object RX1)) (by decide +kernel))
  obtain ⟨m4, a4, k4, e4, -, g4, h4, f4⟩ := Cond.arrayOver_spec (hts (.arrayOver (.object RX2)) (by decide +kernel))
  have hAO : ∀ (cA : ClassId) (kA : Class) (comp : ClassId) (ty : FieldType), s.vm.classes[cA]? = some kA → kA.kind = .array comp ty → ArrOfT s cA ty := fun cA kA comp ty h2 h3 => fun n z => ⟨fun k h => (by cases h), kA, h2, comp, h3⟩
  obtain ⟨cA, hKt⟩ : ∃ cA : Nat → ClassId, ∀ (k : Nat) (q : ClassId × FieldType), (tysOf cA)[k]? = some q → ArrOfT s q.1 q.2 ∧ va_RA s q.1 q.2 := by
    refine ⟨fun k => if k = 0 then a0 else if k = 1 then a1 else if k = 2 then a2 else if k = 3 then a3 else a4, ?_⟩
    intro k q hq
    match k, hq with
    | 0, hq => cases hq; exact ⟨hAO _ _ _ _ g0 h0, f0⟩
    | 1, hq => cases hq; exact ⟨hAO _ _ _ _ g1 h1, f1⟩
    | 2, hq => cases hq; exact ⟨hAO _ _ _ _ g2 h2, f2⟩
    | 3, hq => cases hq; exact ⟨hAO _ _ _ _ g3 h3, k3, m3, g3, h3, e3, f3⟩
    | 4, hq => cases hq; exact ⟨hAO _ _ _ _ g4 h4, k4, m4, g4, h4, e4, f4⟩
    | k + 5, hq => simp [tysOf] at hq
  obtain ⟨r, hrd⟩ : ∃ r : Nat → Nat, ∀ i, r i = s.heap.size + i := ⟨fun i => s.heap.size + i, fun _ => rfl⟩
  have hsq : Sq r := fun i => by rw [hrd, hrd]; omega
  have hfar : ∀ a : Nat, a < s.heap.size → ¬ rng r a := fun a ha h => by
    obtain ⟨j, -, e9⟩ := h
    rw [hrd] at e9
    omega
  have hNw : NwK s := fun w hw => by
    have hin := nwF_in w hw
    obtain ⟨a, i, b, n, d, k, rfl⟩ := nwF_is w hw
    exact va_Nw.of rfl (hts _ hin)
  have hGK : GK s := ⟨va_Nw.of rfl (hts _ (by decide +kernel)), va_Nw.of rfl (hts _ (by decide +kernel)), va_AO.of (hts (.arrayOver (.object RX1)) (by decide +kernel)), va_AO.of (hts (.arrayOver (.object RX2)) (by decide +kernel))⟩
  have hlit : ∀ q ∈ xLit, (Cond.exactly (.string RX4 q.1) "java/lang/String").before #[Value.ref b] s = true := by
    intro q hq
    unfold xLit at hq
    repeat (rcases List.mem_cons.mp hq with rfl | hq; exact hgs _ (by decide +kernel))
    cases hq
  have hXw : Xw r s := by
    refine ⟨vx_Zqof (hts (.laysStatic Bundle.tN "UNASSIGNED_STACK" Bundle.steD) (by decide +kernel)) (hts (.initialized Bundle.tN) (by decide +kernel)) (hgs (.isRef (.static Bundle.tN "UNASSIGNED_STACK" Bundle.steD)) (by decide +kernel)) hfar, vx_Zqof (hts (.laysStatic Bundle.tN "SUPPRESSED_SENTINEL" Bundle.listD) (by decide +kernel)) (hts (.initialized Bundle.tN) (by decide +kernel)) (hgs (.isRef (.static Bundle.tN "SUPPRESSED_SENTINEL" Bundle.listD)) (by decide +kernel)) hfar, fun q hq => ?_, fun w hw => ?_⟩
    · obtain ⟨a, c9, cA9, kA9, q1, -⟩ := Cond.exactly_spec (args := #[Value.ref b]) (first := s) (o := none) (s := s) (idx := []) (t := .string RX4 q.1) (cls := "java/lang/String") (hlit q hq)
      exact ⟨a, vk_R.of (hts _ (xLit_in q hq)) q1⟩
    · have hin := xB_in w hw
      rcases xB_is w hw with ⟨a, c9, rfl⟩ | ⟨x, rfl⟩
      · exact va_Nw.of rfl (hts _ hin)
      · exact va_Nw.of rfl (hts _ hin)
  have hNc : Nca s := by
    have n1 : va_Nc xIO xIA s := va_Nc.of (hgs _ (by decide +kernel))
    have n2 : va_Nc xIO xIS s := va_Nc.of (hgs _ (by decide +kernel))
    have n3 : va_Nc xIA xIO s := va_Nc.of (hgs _ (by decide +kernel))
    have n4 : va_Nc xIA xIS s := va_Nc.of (hgs _ (by decide +kernel))
    have n5 : va_Nc xIS xIO s := va_Nc.of (hgs _ (by decide +kernel))
    have n6 : va_Nc xIS xIA s := va_Nc.of (hgs _ (by decide +kernel))
    intro x hx9 y hy9 hxy
    have hx8 : x = xIO ∨ x = xIA ∨ x = xIS := by simpa [xThree] using hx9
    have hy8 : y = xIO ∨ y = xIA ∨ y = xIS := by simpa [xThree] using hy9
    rcases hx8 with rfl | rfl | rfl <;> rcases hy8 with rfl | rfl | rfl <;> first | exact absurd rfl hxy | assumption
  have hC : Cok l (dC, dI) cA r room_1 (p, l, e, room_1, s, m, #[Value.ref b], below, meth, c, lw_Z below #[Value.ref b] s, rng r, (dC, dI), cA, 7, r) cL_law RL wsL_law 7 := ⟨⟨rfl, rfl, rfl, rfl, rfl, rfl⟩, ⟨hx, hb, hml, hown, fun w hw => hts w (wsL_law_in w hw)⟩, ⟨hKc, hKt⟩, hNw, hsq.inj, fun i hi => ⟨i, hi, rfl⟩⟩
  have hW9 : LwR b L xs (p, l, e, room_1, s, m, #[Value.ref b], below, meth, c, lw_Z below #[Value.ref b] s, rng r, (dC, dI), cA, 7, r) := ⟨rfl, rfl, rfl, rfl, hr, hlocks, hX, hbl, fun i => by rw [hrd]; omega, hXw, hNc⟩
  have h := law_born (E := fun _ => .inr (0, [])) hsq hst ⟨hC, hGK, hsq⟩ hW9 hL
  have hl : lv_has _ 7 [(0, .ref b)] := lv_entry [.ref b] (n := 7) (Nat.le_of_ble_eq_true rfl)
  rw [lg_entry_eq]
  exact h s.heap [] _ (fun k q hk => by simp [wl] at hk) (by rw [hrd]; rfl) va_S.rf hl
