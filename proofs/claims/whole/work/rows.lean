section
-- ===== PART A: goes FIRST, ahead of the names: the tables' words, and 'selects' of the private methods out of them =====
/-- a private method of a class that the tables say can be made, by its rows of tables_1 -/
def lw_okq (q : MethodName × Nat) : Prop := (q.1.cls ≠ "java/lang/invoke/MethodHandle" ∧ q.1.cls ≠ "java/lang/invoke/VarHandle") ∧ Cond.instantiable q.1.cls q.2 ∈ tables_1 ∧ Cond.privateMethod q.1 ∈ tables_1 ∧ Cond.instanceMethod q.1 ∈ tables_1
theorem lw_p0 : lw_okq (⟨"TwoTownAlmanac", "requireTown", "(I)LTwoTownAlmanac$Town;"⟩, 7) := ⟨⟨by decide +kernel, by decide +kernel⟩, List.mem_of_getElem? (i := 16) (by decide +kernel), List.mem_of_getElem? (i := 217) (by decide +kernel), List.mem_of_getElem? (i := 218) (by decide +kernel)⟩
theorem lw_p1 : lw_okq (⟨"java/lang/Throwable", "fillInStackTrace", "(I)Ljava/lang/Throwable;"⟩, 6) := ⟨⟨by decide +kernel, by decide +kernel⟩, List.mem_of_getElem? (i := 262) (by decide +kernel), List.mem_of_getElem? (i := 260) (by decide +kernel), List.mem_of_getElem? (i := 261) (by decide +kernel)⟩
theorem lw_p2 : lw_okq (⟨"TwoTownAlmanac", "recordState", "()V"⟩, 7) := ⟨⟨by decide +kernel, by decide +kernel⟩, List.mem_of_getElem? (i := 16) (by decide +kernel), List.mem_of_getElem? (i := 336) (by decide +kernel), List.mem_of_getElem? (i := 337) (by decide +kernel)⟩
theorem lw_p3 : lw_okq (⟨"TwoTownAlmanac", "dropOldestRecorded", "()V"⟩, 7) := ⟨⟨by decide +kernel, by decide +kernel⟩, List.mem_of_getElem? (i := 16) (by decide +kernel), List.mem_of_getElem? (i := 340) (by decide +kernel), List.mem_of_getElem? (i := 341) (by decide +kernel)⟩
theorem lw_p4 : lw_okq (⟨"TwoTownAlmanac$Town", "dayInYearOn", "(I)I"⟩, 5) := ⟨⟨by decide +kernel, by decide +kernel⟩, List.mem_of_getElem? (i := 30) (by decide +kernel), List.mem_of_getElem? (i := 403) (by decide +kernel), List.mem_of_getElem? (i := 404) (by decide +kernel)⟩
theorem lw_p5 : lw_okq (⟨"TwoTownAlmanac$Town", "dateOn", "(I)I"⟩, 5) := ⟨⟨by decide +kernel, by decide +kernel⟩, List.mem_of_getElem? (i := 30) (by decide +kernel), List.mem_of_getElem? (i := 407) (by decide +kernel), List.mem_of_getElem? (i := 408) (by decide +kernel)⟩
theorem lw_p6 : lw_okq (⟨"TwoTownAlmanac$Town", "daysBeforeMonth", "(I)I"⟩, 5) := ⟨⟨by decide +kernel, by decide +kernel⟩, List.mem_of_getElem? (i := 30) (by decide +kernel), List.mem_of_getElem? (i := 415) (by decide +kernel), List.mem_of_getElem? (i := 416) (by decide +kernel)⟩
theorem lw_p7 : lw_okq (⟨"TwoTownAlmanac$Town", "dateOf", "(III)I"⟩, 5) := ⟨⟨by decide +kernel, by decide +kernel⟩, List.mem_of_getElem? (i := 30) (by decide +kernel), List.mem_of_getElem? (i := 457) (by decide +kernel), List.mem_of_getElem? (i := 458) (by decide +kernel)⟩
theorem lw_p8 : lw_okq (⟨"TwoTownAlmanac$Town", "daysInYear", "()I"⟩, 5) := ⟨⟨by decide +kernel, by decide +kernel⟩, List.mem_of_getElem? (i := 30) (by decide +kernel), List.mem_of_getElem? (i := 461) (by decide +kernel), List.mem_of_getElem? (i := 462) (by decide +kernel)⟩
theorem lw_p9 : lw_okq (⟨"TwoTownAlmanac$Town", "firstDayFrom", "(I)I"⟩, 5) := ⟨⟨by decide +kernel, by decide +kernel⟩, List.mem_of_getElem? (i := 30) (by decide +kernel), List.mem_of_getElem? (i := 465) (by decide +kernel), List.mem_of_getElem? (i := 466) (by decide +kernel)⟩
theorem lw_p10 : lw_okq (⟨"TwoTownAlmanac", "requireFeast", "(I)LTwoTownAlmanac$Feast;"⟩, 7) := ⟨⟨by decide +kernel, by decide +kernel⟩, List.mem_of_getElem? (i := 16) (by decide +kernel), List.mem_of_getElem? (i := 488) (by decide +kernel), List.mem_of_getElem? (i := 489) (by decide +kernel)⟩
theorem lw_p11 : lw_okq (⟨"TwoTownAlmanac$State", "firstYearFor", "(LTwoTownAlmanac$Feast;I)I"⟩, 9) := ⟨⟨by decide +kernel, by decide +kernel⟩, List.mem_of_getElem? (i := 24) (by decide +kernel), List.mem_of_getElem? (i := 551) (by decide +kernel), List.mem_of_getElem? (i := 552) (by decide +kernel)⟩
theorem lw_p12 : lw_okq (⟨"TwoTownAlmanac", "quarrelsFrom", "(II)I"⟩, 7) := ⟨⟨by decide +kernel, by decide +kernel⟩, List.mem_of_getElem? (i := 16) (by decide +kernel), List.mem_of_getElem? (i := 577) (by decide +kernel), List.mem_of_getElem? (i := 578) (by decide +kernel)⟩
theorem lw_p13 : lw_okq (⟨"TwoTownAlmanac$State", "feastsOf", "(I)I"⟩, 9) := ⟨⟨by decide +kernel, by decide +kernel⟩, List.mem_of_getElem? (i := 24) (by decide +kernel), List.mem_of_getElem? (i := 585) (by decide +kernel), List.mem_of_getElem? (i := 586) (by decide +kernel)⟩
theorem lw_p14 : lw_okq (⟨"TwoTownAlmanacModel", "fails", "(I)I"⟩, 10) := ⟨⟨by decide +kernel, by decide +kernel⟩, List.mem_of_getElem? (i := 740) (by decide +kernel), List.mem_of_getElem? (i := 785) (by decide +kernel), List.mem_of_getElem? (i := 786) (by decide +kernel)⟩
theorem lw_p15 : lw_okq (⟨"TwoTownAlmanacModel", "record", "()V"⟩, 10) := ⟨⟨by decide +kernel, by decide +kernel⟩, List.mem_of_getElem? (i := 740) (by decide +kernel), List.mem_of_getElem? (i := 804) (by decide +kernel), List.mem_of_getElem? (i := 805) (by decide +kernel)⟩
def lw_privs_1 : List (MethodName × Nat) := [(⟨"TwoTownAlmanac", "requireTown", "(I)LTwoTownAlmanac$Town;"⟩, 7), (⟨"java/lang/Throwable", "fillInStackTrace", "(I)Ljava/lang/Throwable;"⟩, 6), (⟨"TwoTownAlmanac", "recordState", "()V"⟩, 7), (⟨"TwoTownAlmanac", "dropOldestRecorded", "()V"⟩, 7), (⟨"TwoTownAlmanac$Town", "dayInYearOn", "(I)I"⟩, 5), (⟨"TwoTownAlmanac$Town", "dateOn", "(I)I"⟩, 5), (⟨"TwoTownAlmanac$Town", "daysBeforeMonth", "(I)I"⟩, 5), (⟨"TwoTownAlmanac$Town", "dateOf", "(III)I"⟩, 5), (⟨"TwoTownAlmanac$Town", "daysInYear", "()I"⟩, 5), (⟨"TwoTownAlmanac$Town", "firstDayFrom", "(I)I"⟩, 5), (⟨"TwoTownAlmanac", "requireFeast", "(I)LTwoTownAlmanac$Feast;"⟩, 7), (⟨"TwoTownAlmanac$State", "firstYearFor", "(LTwoTownAlmanac$Feast;I)I"⟩, 9), (⟨"TwoTownAlmanac", "quarrelsFrom", "(II)I"⟩, 7), (⟨"TwoTownAlmanac$State", "feastsOf", "(I)I"⟩, 9), (⟨"TwoTownAlmanacModel", "fails", "(I)I"⟩, 10), (⟨"TwoTownAlmanacModel", "record", "()V"⟩, 10)]
theorem lw_r1 : ∀ q ∈ lw_privs_1, lw_okq q := List.forall_mem_cons.mpr ⟨lw_p0, List.forall_mem_cons.mpr ⟨lw_p1, List.forall_mem_cons.mpr ⟨lw_p2, List.forall_mem_cons.mpr ⟨lw_p3, List.forall_mem_cons.mpr ⟨lw_p4, List.forall_mem_cons.mpr ⟨lw_p5, List.forall_mem_cons.mpr ⟨lw_p6, List.forall_mem_cons.mpr ⟨lw_p7, List.forall_mem_cons.mpr ⟨lw_p8, List.forall_mem_cons.mpr ⟨lw_p9, List.forall_mem_cons.mpr ⟨lw_p10, List.forall_mem_cons.mpr ⟨lw_p11, List.forall_mem_cons.mpr ⟨lw_p12, List.forall_mem_cons.mpr ⟨lw_p13, List.forall_mem_cons.mpr ⟨lw_p14, List.forall_mem_cons.mpr ⟨lw_p15, fun _ h => absurd h List.not_mem_nil⟩⟩⟩⟩⟩⟩⟩⟩⟩⟩⟩⟩⟩⟩⟩⟩
theorem lw_p16 : lw_okq (⟨"TwoTownAlmanacModel", "gaps", "(I)I"⟩, 10) := ⟨⟨by decide +kernel, by decide +kernel⟩, List.mem_of_getElem? (i := 740) (by decide +kernel), List.mem_of_getElem? (i := 815) (by decide +kernel), List.mem_of_getElem? (i := 816) (by decide +kernel)⟩
theorem lw_p17 : lw_okq (⟨"TwoTownAlmanacModel", "gap", "(III)I"⟩, 10) := ⟨⟨by decide +kernel, by decide +kernel⟩, List.mem_of_getElem? (i := 740) (by decide +kernel), List.mem_of_getElem? (i := 819) (by decide +kernel), List.mem_of_getElem? (i := 820) (by decide +kernel)⟩
theorem lw_p18 : lw_okq (⟨"TwoTownAlmanacModel", "dayAt", "(II)I"⟩, 10) := ⟨⟨by decide +kernel, by decide +kernel⟩, List.mem_of_getElem? (i := 740) (by decide +kernel), List.mem_of_getElem? (i := 846) (by decide +kernel), List.mem_of_getElem? (i := 847) (by decide +kernel)⟩
theorem lw_p19 : lw_okq (⟨"TwoTownAlmanacModel", "calendar", "(II)I"⟩, 10) := ⟨⟨by decide +kernel, by decide +kernel⟩, List.mem_of_getElem? (i := 740) (by decide +kernel), List.mem_of_getElem? (i := 850) (by decide +kernel), List.mem_of_getElem? (i := 851) (by decide +kernel)⟩
theorem lw_p20 : lw_okq (⟨"TwoTownAlmanacModel", "monthAt", "(II)I"⟩, 10) := ⟨⟨by decide +kernel, by decide +kernel⟩, List.mem_of_getElem? (i := 740) (by decide +kernel), List.mem_of_getElem? (i := 860) (by decide +kernel), List.mem_of_getElem? (i := 861) (by decide +kernel)⟩
theorem lw_p21 : lw_okq (⟨"TwoTownAlmanacModel", "yearAt", "(II)I"⟩, 10) := ⟨⟨by decide +kernel, by decide +kernel⟩, List.mem_of_getElem? (i := 740) (by decide +kernel), List.mem_of_getElem? (i := 872) (by decide +kernel), List.mem_of_getElem? (i := 873) (by decide +kernel)⟩
theorem lw_p22 : lw_okq (⟨"TwoTownAlmanacModel", "dayWith", "(IIII)I"⟩, 10) := ⟨⟨by decide +kernel, by decide +kernel⟩, List.mem_of_getElem? (i := 740) (by decide +kernel), List.mem_of_getElem? (i := 884) (by decide +kernel), List.mem_of_getElem? (i := 885) (by decide +kernel)⟩
theorem lw_p23 : lw_okq (⟨"TwoTownAlmanacModel", "firstDay", "(II)I"⟩, 10) := ⟨⟨by decide +kernel, by decide +kernel⟩, List.mem_of_getElem? (i := 740) (by decide +kernel), List.mem_of_getElem? (i := 888) (by decide +kernel), List.mem_of_getElem? (i := 889) (by decide +kernel)⟩
theorem lw_p24 : lw_okq (⟨"TwoTownAlmanacModel", "isFeast", "(I)Z"⟩, 10) := ⟨⟨by decide +kernel, by decide +kernel⟩, List.mem_of_getElem? (i := 740) (by decide +kernel), List.mem_of_getElem? (i := 900) (by decide +kernel), List.mem_of_getElem? (i := 901) (by decide +kernel)⟩
theorem lw_p25 : lw_okq (⟨"TwoTownAlmanacModel", "feast", "(II)I"⟩, 10) := ⟨⟨by decide +kernel, by decide +kernel⟩, List.mem_of_getElem? (i := 740) (by decide +kernel), List.mem_of_getElem? (i := 904) (by decide +kernel), List.mem_of_getElem? (i := 905) (by decide +kernel)⟩
theorem lw_p26 : lw_okq (⟨"TwoTownAlmanacModel", "due", "(II)I"⟩, 10) := ⟨⟨by decide +kernel, by decide +kernel⟩, List.mem_of_getElem? (i := 740) (by decide +kernel), List.mem_of_getElem? (i := 928) (by decide +kernel), List.mem_of_getElem? (i := 929) (by decide +kernel)⟩
theorem lw_p27 : lw_okq (⟨"TwoTownAlmanacModel", "kept", "(II)I"⟩, 10) := ⟨⟨by decide +kernel, by decide +kernel⟩, List.mem_of_getElem? (i := 740) (by decide +kernel), List.mem_of_getElem? (i := 936) (by decide +kernel), List.mem_of_getElem? (i := 937) (by decide +kernel)⟩
theorem lw_p28 : lw_okq (⟨"TwoTownAlmanacModel", "isOn", "(II)Z"⟩, 10) := ⟨⟨by decide +kernel, by decide +kernel⟩, List.mem_of_getElem? (i := 740) (by decide +kernel), List.mem_of_getElem? (i := 944) (by decide +kernel), List.mem_of_getElem? (i := 945) (by decide +kernel)⟩
theorem lw_p29 : lw_okq (⟨"TwoTownAlmanacModel", "setOn", "(I)I"⟩, 10) := ⟨⟨by decide +kernel, by decide +kernel⟩, List.mem_of_getElem? (i := 740) (by decide +kernel), List.mem_of_getElem? (i := 952) (by decide +kernel), List.mem_of_getElem? (i := 953) (by decide +kernel)⟩
theorem lw_p30 : lw_okq (⟨"TwoTownAlmanacModel", "quarrels", "(I)Z"⟩, 10) := ⟨⟨by decide +kernel, by decide +kernel⟩, List.mem_of_getElem? (i := 740) (by decide +kernel), List.mem_of_getElem? (i := 960) (by decide +kernel), List.mem_of_getElem? (i := 961) (by decide +kernel)⟩
theorem lw_p31 : lw_okq (⟨"TwoTownAlmanacModel", "ofTown", "(II)I"⟩, 10) := ⟨⟨by decide +kernel, by decide +kernel⟩, List.mem_of_getElem? (i := 740) (by decide +kernel), List.mem_of_getElem? (i := 964) (by decide +kernel), List.mem_of_getElem? (i := 965) (by decide +kernel)⟩
def lw_privs_2 : List (MethodName × Nat) := [(⟨"TwoTownAlmanacModel", "gaps", "(I)I"⟩, 10), (⟨"TwoTownAlmanacModel", "gap", "(III)I"⟩, 10), (⟨"TwoTownAlmanacModel", "dayAt", "(II)I"⟩, 10), (⟨"TwoTownAlmanacModel", "calendar", "(II)I"⟩, 10), (⟨"TwoTownAlmanacModel", "monthAt", "(II)I"⟩, 10), (⟨"TwoTownAlmanacModel", "yearAt", "(II)I"⟩, 10), (⟨"TwoTownAlmanacModel", "dayWith", "(IIII)I"⟩, 10), (⟨"TwoTownAlmanacModel", "firstDay", "(II)I"⟩, 10), (⟨"TwoTownAlmanacModel", "isFeast", "(I)Z"⟩, 10), (⟨"TwoTownAlmanacModel", "feast", "(II)I"⟩, 10), (⟨"TwoTownAlmanacModel", "due", "(II)I"⟩, 10), (⟨"TwoTownAlmanacModel", "kept", "(II)I"⟩, 10), (⟨"TwoTownAlmanacModel", "isOn", "(II)Z"⟩, 10), (⟨"TwoTownAlmanacModel", "setOn", "(I)I"⟩, 10), (⟨"TwoTownAlmanacModel", "quarrels", "(I)Z"⟩, 10), (⟨"TwoTownAlmanacModel", "ofTown", "(II)I"⟩, 10)]
theorem lw_r2 : ∀ q ∈ lw_privs_2, lw_okq q := List.forall_mem_cons.mpr ⟨lw_p16, List.forall_mem_cons.mpr ⟨lw_p17, List.forall_mem_cons.mpr ⟨lw_p18, List.forall_mem_cons.mpr ⟨lw_p19, List.forall_mem_cons.mpr ⟨lw_p20, List.forall_mem_cons.mpr ⟨lw_p21, List.forall_mem_cons.mpr ⟨lw_p22, List.forall_mem_cons.mpr ⟨lw_p23, List.forall_mem_cons.mpr ⟨lw_p24, List.forall_mem_cons.mpr ⟨lw_p25, List.forall_mem_cons.mpr ⟨lw_p26, List.forall_mem_cons.mpr ⟨lw_p27, List.forall_mem_cons.mpr ⟨lw_p28, List.forall_mem_cons.mpr ⟨lw_p29, List.forall_mem_cons.mpr ⟨lw_p30, List.forall_mem_cons.mpr ⟨lw_p31, fun _ h => absurd h List.not_mem_nil⟩⟩⟩⟩⟩⟩⟩⟩⟩⟩⟩⟩⟩⟩⟩⟩
theorem lw_p32 : lw_okq (⟨"TwoTownAlmanacModel", "quarrelsIn", "(I)I"⟩, 10) := ⟨⟨by decide +kernel, by decide +kernel⟩, List.mem_of_getElem? (i := 740) (by decide +kernel), List.mem_of_getElem? (i := 1016) (by decide +kernel), List.mem_of_getElem? (i := 1017) (by decide +kernel)⟩
theorem lw_p33 : lw_okq (⟨"TwoTownAlmanacModel", "isDate", "()Z"⟩, 10) := ⟨⟨by decide +kernel, by decide +kernel⟩, List.mem_of_getElem? (i := 740) (by decide +kernel), List.mem_of_getElem? (i := 1041) (by decide +kernel), List.mem_of_getElem? (i := 1042) (by decide +kernel)⟩
theorem lw_p34 : lw_okq (⟨"TwoTownAlmanacModel", "takes", "(II)Z"⟩, 10) := ⟨⟨by decide +kernel, by decide +kernel⟩, List.mem_of_getElem? (i := 740) (by decide +kernel), List.mem_of_getElem? (i := 1045) (by decide +kernel), List.mem_of_getElem? (i := 1046) (by decide +kernel)⟩
theorem lw_p35 : lw_okq (⟨"TwoTownAlmanacModel", "readsNumber", "(II)Z"⟩, 10) := ⟨⟨by decide +kernel, by decide +kernel⟩, List.mem_of_getElem? (i := 740) (by decide +kernel), List.mem_of_getElem? (i := 1049) (by decide +kernel), List.mem_of_getElem? (i := 1050) (by decide +kernel)⟩
theorem lw_p36 : lw_okq (⟨"TwoTownAlmanacModel", "write", "(I)V"⟩, 10) := ⟨⟨by decide +kernel, by decide +kernel⟩, List.mem_of_getElem? (i := 740) (by decide +kernel), List.mem_of_getElem? (i := 1065) (by decide +kernel), List.mem_of_getElem? (i := 1066) (by decide +kernel)⟩
theorem lw_p37 : lw_okq (⟨"TwoTownAlmanacModel", "writeNumber", "(I)V"⟩, 10) := ⟨⟨by decide +kernel, by decide +kernel⟩, List.mem_of_getElem? (i := 740) (by decide +kernel), List.mem_of_getElem? (i := 1069) (by decide +kernel), List.mem_of_getElem? (i := 1070) (by decide +kernel)⟩
def lw_privs_3 : List (MethodName × Nat) := [(⟨"TwoTownAlmanacModel", "quarrelsIn", "(I)I"⟩, 10), (⟨"TwoTownAlmanacModel", "isDate", "()Z"⟩, 10), (⟨"TwoTownAlmanacModel", "takes", "(II)Z"⟩, 10), (⟨"TwoTownAlmanacModel", "readsNumber", "(II)Z"⟩, 10), (⟨"TwoTownAlmanacModel", "write", "(I)V"⟩, 10), (⟨"TwoTownAlmanacModel", "writeNumber", "(I)V"⟩, 10)]
theorem lw_r3 : ∀ q ∈ lw_privs_3, lw_okq q := List.forall_mem_cons.mpr ⟨lw_p32, List.forall_mem_cons.mpr ⟨lw_p33, List.forall_mem_cons.mpr ⟨lw_p34, List.forall_mem_cons.mpr ⟨lw_p35, List.forall_mem_cons.mpr ⟨lw_p36, List.forall_mem_cons.mpr ⟨lw_p37, fun _ h => absurd h List.not_mem_nil⟩⟩⟩⟩⟩⟩
def lw_privs : List (MethodName × Nat) := lw_privs_1 ++ (lw_privs_2 ++ (lw_privs_3))
def lw_tbl : List Cond := k2_sels lw_privs ++ tables_1
theorem lw_privs_ok : ∀ q ∈ lw_privs, lw_okq q := by
  show ∀ q ∈ lw_privs_1 ++ (lw_privs_2 ++ (lw_privs_3)), lw_okq q
  exact List.forall_mem_append.mpr ⟨lw_r1, List.forall_mem_append.mpr ⟨lw_r2, lw_r3⟩⟩
end
section
/-! ===== BEGIN words of one list among another's, by their places ===== -/
theorem goodIn_r {big : List Cond} (ws : List Cond) (ps : List Nat) (hp : ws = ps.filterMap (fun i => big[i]?)) (h : ws.all goodWord = true) : GoodIn big ws := by
  intro w hw
  have h1 := List.all_eq_true.mp h w hw
  rw [hp] at hw
  obtain ⟨i, -, hi⟩ := List.mem_filterMap.mp hw
  have hm : w ∈ big := by first | exact List.mem_of_getElem? hi | exact List.getElem?_mem hi
  exact ⟨hm, good_of_word h1⟩
theorem goodIn_app {big a b : List Cond} (ha : GoodIn big a) (hb : GoodIn big b) : GoodIn big (a ++ b) := fun w h => (List.mem_append.mp h).elim (ha w) (hb w)
theorem goodIn_ca {big a b : List Cond} {c : Cond} (ha : GoodIn big (c :: a)) (hb : GoodIn big b) : GoodIn big (c :: (a ++ b)) := fun w h => (List.mem_cons.mp h).elim (fun e => ha w (List.mem_cons.mpr (Or.inl e))) (fun h => (List.mem_append.mp h).elim (fun h => ha w (List.mem_cons.mpr (Or.inr h))) (hb w))
theorem goodIn_sub {big ws : List Cond} (hm : ∀ w ∈ ws, w ∈ big) (h : ws.all goodWord = true) : GoodIn big ws := fun w hw => ⟨hm w hw, good_of_word (List.all_eq_true.mp h w hw)⟩
/-! ===== END ===== -/

/-! ===== BEGIN exceptions that leave a method, and their catching by the caller (launches without stack traces) ===== -/
section VXA
/-! The laws vx_back, vx_callV, vx_callS, vx_callSW, vx_throw0, vx_throwS follow proofs of the library, with one case more: JvmDerived/Free/Laws.lean (Back.of_free), Shelf42/LK1.lean (callV, callS), Shelf/KitTraced.lean (throwNew0V, throwNewS). -/
/-- where a method has thrown q: the class by its name, the cell, what was written, the world -/
def vx_T (XC : String → State → State → Prop) (st : State) (q : Addr) (t : State) (mc ms : Nat) (free : Addr → Prop) : Prop :=
  ∃ (E : String) (ce : Cell) (L : List Loc), XC E st t ∧ t.heap[q]? = some ce ∧ ce.vm = .none ∧ st.vm.findClass E = some ce.cls ∧ st.WarmedH t.vm ∧ st.sameButNew ({ t with vm := st.vm } : State) L mc ms ∧ ∀ z ∈ L, free z.base
def vx_Q (Qc : Array Value → State → Outcome → State → Prop) (XC : String → State → State → Prop) (mc ms : Nat) (free : Addr → Prop) : Array Value → State → Outcome → State → Prop := fun a st o t =>
  (Qc a st o t ∧ ∃ L, FrameEnd st o t L mc ms ∧ ∀ q ∈ L, free q.base) ∨ ∃ q, o = .threw q ∧ vx_T XC st q t mc ms free
/-- a callee that returns or throws -/
def vx_Met (l : Launch) (y : MethodName) (ws : List Cond) (rm : Room) (Pc : Array Value → State → Prop) (Qc : Array Value → State → Outcome → State → Prop) (XC : String → State → State → Prop) (mc ms : Nat) (free : Addr → Prop) : Prop :=
  MetFree l y (headSpec ws rm) Pc (fun _ _ _ _ _ => True) (vx_Q Qc XC mc ms free)
def vx_Post (XC : String → State → State → Prop) (mc ms : Nat) (free : Addr → Prop) : Pt → Array Value → Addr → Pt → Prop := fun A a q B =>
  ∃ (g : JFrame) (mk : MethodId) (t : State) (L : List Loc) (E : String) (ce : Cell), B.U.heap = t.heap ∧ B.U.vm = t.vm ∧ XC E (A.U.calling g mk a) t ∧ t.heap[q]? = some ce ∧ ce.vm = .none ∧ A.U.vm.findClass E = some ce.cls ∧ B.locs = A.locs ++ L ∧ (∀ z ∈ L, free z.base) ∧ B.cells = A.cells + mc ∧ B.slots = A.slots + ms
def vx_Back (l : Launch) (R : Room) (p : Program) (e : Env) (below : List Frame) (s : State) (sargs : Array Value) (y : MethodName) (len W9 : Nat)
    (Pre : Pt → Array Value → Prop) (Post : Pt → Array Value → Option Value → Pt → Prop) (PostX : Pt → Array Value → Addr → Pt → Prop) : Prop :=
  ∀ (m : MethodId) (meth : Method) (c : Code) (A : Pt) (g : JFrame) (ig : Instr) (mk : MethodId) (a : Array Value),
    Stand p l e R s m sargs below meth c A.U A.locs A.cells A.slots → g.method = m → g.locals.size = c.maxLocals → decode c.code g.pc = .ok (ig, len) →
    2 * g.monitorRoom + (g.stack.map fun v => v.category).sum ≤ W9 → A.U.methodNamed? y = some mk → Pre A a →
    (∃ (v : Option Value) (B : Pt), Stand p l e R s m sargs below meth c B.U B.locs B.cells B.slots ∧ Post A a v B ∧
      Steps p.tables e below (doInvoke e (A.U.setTop g) [] mk a).1 (B.U.setTop { g with pc := g.pc + len, stack := v.toList ++ g.stack })) ∨
    (∃ (q : Addr) (B : Pt), Stand p l e R s m sargs below meth c B.U B.locs B.cells B.slots ∧ PostX A a q B ∧
      Steps p.tables e below (doInvoke e (A.U.setTop g) [] mk a).1 ((B.U.setTop g).pushFrame (.throwing q)))
section Payer
variable {l : Launch} {R : Room} {p : Program} {e : Env} {below : List Frame} {s : State} {sargs : Array Value} {y : MethodName} {len W9 : Nat}
theorem vx_back {ws : List Cond} {rm : Room} {Pc : Array Value → State → Prop} {Qc : Array Value → State → Outcome → State → Prop} {XC : String → State → State → Prop} {mc ms : Nat} {free : Addr → Prop} {bytes : ByteArray} {maxL : Nat} {ret : Option FieldType}
    (hM : vx_Met l y ws rm Pc Qc XC mc ms free) (hblind : FrameBlind Pc) (hrc : rm.cells = mc) (hrs : rm.slots = ms)
    (hframes : rm.frames + 1 ≤ R.frames) (hlocals : W9 + (maxL + 11) + rm.locals ≤ R.locals)
    (hws : ∀ w ∈ ws, ∀ a' U, s.WarmedH U.vm → w.before a' U = true) (hcode : Cond.code y bytes maxL ret ∈ ws) (hinit : ∀ a' U, s.WarmedH U.vm → (Cond.initialized y.cls).before a' U = true) :
    vx_Back l R p e below s sargs y len W9 (PreOf R mc ms Pc) (PostOf Qc mc ms free) (vx_Post XC mc ms free) := by
  intro m meth c A g ig mk a X hg hsize hdg hW hn hp
  have h1 : (headSpec ws rm).pre.before a A.U = true := atoms_intro fun w hw => hws w hw _ _ X.warmed
  have h2 : (Cond.code y bytes maxL ret).before a A.U = true := hws _ hcode _ _ X.warmed
  have h3 : (Cond.initialized y.cls).before a A.U = true := hinit _ _ X.warmed
  have h4 : A.cells + (headSpec ws rm).room.cells ≤ R.cells := by rw [show (headSpec ws rm).room.cells = mc from hrc]; exact hp.1
  have h5 : A.slots + (headSpec ws rm).room.slots ≤ R.slots := by rw [show (headSpec ws rm).room.slots = ms from hrs]; exact hp.2.1
  have hPc : Pc a (A.U.calling g mk a) := hblind _ _ _ _ hp.2.2
  obtain ⟨U, Ls, c0, s0⟩ := A
  dsimp only [Pt.U, Pt.locs, Pt.cells, Pt.slots] at h1 h2 h3 h4 h5 X hn hPc ⊢
  obtain ⟨methY, cY, hmY, hcY, -, hlY, -, -, -, -⟩ := Cond.code_spec hn h2
  obtain ⟨kY, hkY, -⟩ := className_of_methodNamed hn
  have hinitY : kY.init = .initialized := Cond.initialized_spec (findClass_of_methodNamed hn) hkY h3
  have h : At U g.method c below := by rw [hg]; exact X.here
  have hlocals9 : W9 + (maxL + 11) + (headSpec ws rm).room.locals ≤ R.locals := hlocals
  have happ : (headSpec ws rm).appliesLoose y e.platform (U.calling g mk a) = true :=
    Spec.appliesLoose_calling (g := g) h hdg hn hkY hinitY
      (X.room_calling (g := g) (R' := (headSpec ws rm).room) hsize hmY hcY hframes (by rw [hlY]; omega) h4 h5) h1
  obtain ⟨mid, hmid⟩ := h.above
  have hfr : (U.setTop g).frames = (.java g :: mid) ++ below := by rw [State.frames_setTop' g h.top, hmid]; rfl
  obtain ⟨o, s₂, hsteps, -, hend, hq⟩ := Steps.callFree hM p X.admits X.cas X.clock (acts := []) hfr happ hPc trivial
  have hq' : vx_Q Qc XC mc ms free a (U.calling g mk a) o s₂ := hq
  rw [State.frames_setTop' g h.top] at hend
  obtain ⟨g₀, hg0⟩ := Option.isSome_iff_exists.mp h.top
  obtain ⟨r, hr⟩ := State.topJava?_eq_some.mp hg0
  have hr' : (({ U with heap := s₂.heap, slotsUsed := s₂.slotsUsed } : State).setVm s₂.vm).frames = .java g₀ :: r := hr
  rcases hq' with ⟨hqc, L, hfe, hL⟩ | ⟨q, rfl, E, ce, L, hx, hce, hcv, hcl, hW₂, hsm, hL⟩
  · obtain ⟨⟨v, rfl⟩, hW₂, e2, q2, q3, q4, q5, q6⟩ := id hfe
    have e3 : s₂ = ({ (U.calling g mk a).setFrames s₂.frames with heap := s₂.heap, slotsUsed := s₂.slotsUsed } : State).setVm s₂.vm := by
      have : s₂ = ({ s₂ with vm := (U.calling g mk a).vm } : State).setVm s₂.vm := rfl
      rw [e2] at this
      exact this
    obtain ⟨c₂, i₂, len₂, hc₂, hd₂, hf₂⟩ := hend
    have hW' : U.WarmedH s₂.vm := hW₂
    have hcc : c₂ = c := by
      have h1 : s₂.code? g.method = U.code? g.method := by
        rw [State.code?_eq, State.code?_eq, hW'.alike.method?]
      exact Option.some.inj (hc₂.symm.trans (h1.trans h.code))
    subst hcc
    have hlen : len₂ = len := by rw [hdg] at hd₂; cases hd₂; rfl
    subst hlen
    have hs₂ : s₂ = (({ U with heap := s₂.heap, slotsUsed := s₂.slotsUsed } : State).setVm s₂.vm).setTop { g with pc := g.pc + len₂, stack := v.toList ++ g.stack } := by
      refine e3.trans ?_
      rw [hf₂, State.calling_eq h.top, State.setFrames_setFrames, State.setTop_of_frames _ hr', hr]
      rfl
    have hsame : U.sameButNew ({ U with heap := s₂.heap, slotsUsed := s₂.slotsUsed } : State) L mc ms := by
      refine ⟨?_, q2, q3, q4, q5, q6⟩
      obtain ⟨t, ht, -⟩ := State.frames_cons hr
      show ({ U with heap := s₂.heap, slotsUsed := s₂.slotsUsed } : State) = { U.setFrames U.frames with heap := s₂.heap, slotsUsed := s₂.slotsUsed }
      rw [State.setFrames_self ht]
    subst hg
    refine Or.inl ⟨v, ⟨(({ U with heap := s₂.heap, slotsUsed := s₂.slotsUsed } : State).setVm s₂.vm), Ls ++ L, c0 + mc, s0 + ms⟩,
      ⟨X.admits, X.cas, X.clock, X.frames, X.room, X.hears, X.method, X.code, (X.here.setHeapUsed s₂.heap s₂.slotsUsed).setVm hW'.alike, X.tail, State.WarmedH.trans X.warmed hW', X.limits, X.bytes, X.same.trans (hsame.setVm s.vm)⟩,
      ⟨g, mk, s₂, L, rfl, rfl, hqc, rfl, hL, rfl, rfl⟩, ?_⟩
    show Steps p.tables e below _ ((({ U with heap := s₂.heap, slotsUsed := s₂.slotsUsed } : State).setVm s₂.vm).setTop { g with pc := g.pc + len₂, stack := v.toList ++ g.stack })
    rw [← hs₂]
    exact hsteps
  · obtain ⟨e2, q2, q3, q4, q5, q6⟩ := id hsm
    have e3 : s₂ = ({ (U.calling g mk a).setFrames s₂.frames with heap := s₂.heap, slotsUsed := s₂.slotsUsed } : State).setVm s₂.vm := by
      have : s₂ = ({ s₂ with vm := (U.calling g mk a).vm } : State).setVm s₂.vm := rfl
      rw [e2] at this
      exact this
    have hf₂ : s₂.frames = .throwing q :: .java g :: U.frames.tail := hend
    have hW' : U.WarmedH s₂.vm := hW₂
    have hs₂ : s₂ = ((({ U with heap := s₂.heap, slotsUsed := s₂.slotsUsed } : State).setVm s₂.vm).setTop g).pushFrame (.throwing q) := by
      refine e3.trans ?_
      rw [hf₂, State.calling_eq h.top, State.setFrames_setFrames, State.pushFrame, State.frames_setTop _ hr', State.setTop_of_frames _ hr', State.setFrames_setFrames, hr]
      rfl
    have hsame : U.sameButNew ({ U with heap := s₂.heap, slotsUsed := s₂.slotsUsed } : State) L mc ms := by
      refine ⟨?_, q2, q3, q4, q5, q6⟩
      obtain ⟨t, ht, -⟩ := State.frames_cons hr
      show ({ U with heap := s₂.heap, slotsUsed := s₂.slotsUsed } : State) = { U.setFrames U.frames with heap := s₂.heap, slotsUsed := s₂.slotsUsed }
      rw [State.setFrames_self ht]
    subst hg
    refine Or.inr ⟨q, ⟨(({ U with heap := s₂.heap, slotsUsed := s₂.slotsUsed } : State).setVm s₂.vm), Ls ++ L, c0 + mc, s0 + ms⟩,
      ⟨X.admits, X.cas, X.clock, X.frames, X.room, X.hears, X.method, X.code, (X.here.setHeapUsed s₂.heap s₂.slotsUsed).setVm hW'.alike, X.tail, State.WarmedH.trans X.warmed hW', X.limits, X.bytes, X.same.trans (hsame.setVm s.vm)⟩,
      ⟨g, mk, s₂, L, E, ce, rfl, rfl, hx, hce, hcv, hcl, rfl, hL, rfl, rfl⟩, ?_⟩
    show Steps p.tables e below _ (((({ U with heap := s₂.heap, slotsUsed := s₂.slotsUsed } : State).setVm s₂.vm).setTop g).pushFrame (.throwing q))
    rw [← hs₂]
    exact hsteps
end Payer
section Calls
variable {p : Program} {l : Launch} {e : Env} {R : Room} {s : State} {m : MethodId} {args : Array Value} {below : List Frame} {meth : Method} {c : Code} {T : State} {locs : List Loc} {cells slots : Nat}
theorem vx_callV (X : Stand p l e R s m args below meth c T locs cells slots) (hexec : p.tables.exec = Jvm.exec) {own C : String} {index : Nat} {y : MethodName} {bytes : ByteArray} {maxL : Nat} {ret : Option FieldType}
    (hown : s.vm.findClass own = some m.cls) (hlink : (Cond.methodLink own index y).before args s = true) (hinst : (Cond.instanceMethod y).before args s = true) (hsel : (Cond.selects C y y).before args s = true)
    (hcode : (Cond.code y bytes maxL ret).before args s = true) (hy : y.cls ≠ "java/lang/invoke/MethodHandle" ∧ y.cls ≠ "java/lang/invoke/VarHandle")
    {W9 : Nat} {Pre : Pt → Array Value → Prop} {Post : Pt → Array Value → Option Value → Pt → Prop} {PostX : Pt → Array Value → Addr → Pt → Prop} (hK : vx_Back l R p e below s args y 3 W9 Pre Post PostX)
    {b : Addr} {cellB : Cell} (hcell : T.heap[b]? = some cellB) (hobj : cellB.vm.isStatics = false) (hcls : s.vm.findClass C = some cellB.cls)
    {g : JFrame} (hg : g.method = m) (hsize : g.locals.size = c.maxLocals) {argsL rest : List Value} (hlen : ∀ sig, parseMethodDescriptor y.desc = some sig → argsL.length = sig.parameters.length)
    (hstack : g.stack = argsL.reverse ++ .ref b :: rest) (hW : 2 * g.monitorRoom + (rest.map fun v => v.category).sum ≤ W9) (hdg : decode c.code g.pc = .ok (.invokevirtual index, 3))
    (hpre : ∀ vm₁, s.WarmedH vm₁ → Pre ⟨T.setVm vm₁, locs, cells, slots⟩ (Value.ref b :: argsL).toArray) :
    (∃ (v : Option Value) (vm₁ : Vm) (B : Pt), s.WarmedH vm₁ ∧ Stand p l e R s m args below meth c B.U B.locs B.cells B.slots ∧ Post ⟨T.setVm vm₁, locs, cells, slots⟩ (Value.ref b :: argsL).toArray v B ∧
      ∀ target, Steps p.tables e below (B.U.setTop { g with pc := g.pc + 3, stack := v.toList ++ rest }) target → Steps p.tables e below (T.setTop g) target) ∨
    (∃ (q : Addr) (vm₁ : Vm) (B : Pt), s.WarmedH vm₁ ∧ Stand p l e R s m args below meth c B.U B.locs B.cells B.slots ∧ PostX ⟨T.setVm vm₁, locs, cells, slots⟩ (Value.ref b :: argsL).toArray q B ∧
      Steps p.tables e below (T.setTop g) ((B.U.setTop { g with stack := rest }).pushFrame (.throwing q))) := by
  obtain ⟨mk, methM, hnamed, hmethM, hstM, habM⟩ := Cond.instanceMethod_spec hinst
  obtain ⟨methM', cM, hmethM', -, -, -, -, -, -, hsigM⟩ := Cond.code_spec hnamed hcode
  cases hmethM.symm.trans hmethM'
  obtain ⟨c2, r2, m2, q1, q2, q3, q4, kP, hkP, hkPi⟩ := Cond.selects_spec hsel
  cases hcls.symm.trans q1
  cases (State.methodFound?_of_named hnamed hy).symm.trans q2
  cases hnamed.symm.trans q3
  have hselP : selectMethod e.platform s.vm cellB.cls mk = .method mk := by rw [Launch.admits_selectMethod X.admits]; exact q4
  obtain ⟨vm₁, X₁, hstep₁⟩ := X.invokevirtual hexec hown hlink hnamed hmethM hstM hkP hkPi hy (a := b) (cell := cellB) hcell
    (fun z h => by rw [h] at hobj; cases hobj) hselP hmethM habM hkP hkPi (g := g) hg (argsL := argsL) (rest := rest) (hlen _ hsigM) hstack hdg
  rcases hK m meth c ⟨T.setVm vm₁, locs, cells, slots⟩ { g with stack := rest } (.invokevirtual index) mk (Value.ref b :: argsL).toArray X₁ hg hsize hdg hW (X₁.named hnamed) (hpre vm₁ X₁.warmed) with ⟨v, B, X', hpost, hsteps⟩ | ⟨q, B, X', hpost, hsteps⟩
  · exact Or.inl ⟨v, vm₁, B, X₁.warmed, X', hpost, fun target h => hstep₁ _ fun acts => by rw [doInvoke_state]; exact hsteps.trans h⟩
  · exact Or.inr ⟨q, vm₁, B, X₁.warmed, X', hpost, hstep₁ _ fun acts => by rw [doInvoke_state]; exact hsteps⟩
theorem vx_callS (X : Stand p l e R s m args below meth c T locs cells slots) (hexec : p.tables.exec = Jvm.exec) {own : String} {index : Nat} {y : MethodName} {bytes : ByteArray} {maxL : Nat} {ret : Option FieldType}
    (hown : s.vm.findClass own = some m.cls) (hlink : (Cond.methodLink own index y).before args s = true) (hstat : (Cond.static y).before args s = true) (hinit : (Cond.initialized y.cls).before args s = true)
    (hcode : (Cond.code y bytes maxL ret).before args s = true) (hy : y.cls ≠ "java/lang/invoke/MethodHandle" ∧ y.cls ≠ "java/lang/invoke/VarHandle")
    {W9 : Nat} {Pre : Pt → Array Value → Prop} {Post : Pt → Array Value → Option Value → Pt → Prop} {PostX : Pt → Array Value → Addr → Pt → Prop} (hK : vx_Back l R p e below s args y 3 W9 Pre Post PostX)
    {g : JFrame} (hg : g.method = m) (hsize : g.locals.size = c.maxLocals) {argsL rest : List Value} (hlen : ∀ sig, parseMethodDescriptor y.desc = some sig → argsL.length = sig.parameters.length)
    (hstack : g.stack = argsL.reverse ++ rest) (hW : 2 * g.monitorRoom + (rest.map fun v => v.category).sum ≤ W9) (hdg : decode c.code g.pc = .ok (.invokestatic index, 3))
    (hpre : ∀ vm₁, s.WarmedH vm₁ → Pre ⟨T.setVm vm₁, locs, cells, slots⟩ argsL.toArray) :
    (∃ (v : Option Value) (vm₁ : Vm) (B : Pt), s.WarmedH vm₁ ∧ Stand p l e R s m args below meth c B.U B.locs B.cells B.slots ∧ Post ⟨T.setVm vm₁, locs, cells, slots⟩ argsL.toArray v B ∧
      ∀ target, Steps p.tables e below (B.U.setTop { g with pc := g.pc + 3, stack := v.toList ++ rest }) target → Steps p.tables e below (T.setTop g) target) ∨
    (∃ (q : Addr) (vm₁ : Vm) (B : Pt), s.WarmedH vm₁ ∧ Stand p l e R s m args below meth c B.U B.locs B.cells B.slots ∧ PostX ⟨T.setVm vm₁, locs, cells, slots⟩ argsL.toArray q B ∧
      Steps p.tables e below (T.setTop g) ((B.U.setTop { g with stack := rest }).pushFrame (.throwing q))) := by
  obtain ⟨mk, hnamed⟩ := Cond.code_named hcode
  obtain ⟨methM, cM, hmethM, -, -, -, -, -, -, hsigM⟩ := Cond.code_spec hnamed hcode
  have hstatic : methM.isStatic = true := Cond.static_spec hnamed hmethM hstat
  obtain ⟨kP, hkP, -⟩ := className_of_methodNamed hnamed
  have hinitP : kP.init = .initialized := Cond.initialized_spec (findClass_of_methodNamed hnamed) hkP hinit
  obtain ⟨vm₁, X₁, hstep₁⟩ := X.invokestatic hexec hown hlink hnamed hmethM hstatic hkP hinitP hy (g := g) hg (argsL := argsL) (rest := rest) (hlen _ hsigM) hstack hdg
  rcases hK m meth c ⟨T.setVm vm₁, locs, cells, slots⟩ { g with stack := rest } (.invokestatic index) mk argsL.toArray X₁ hg hsize hdg hW (X₁.named hnamed) (hpre vm₁ X₁.warmed) with ⟨v, B, X', hpost, hsteps⟩ | ⟨q, B, X', hpost, hsteps⟩
  · exact Or.inl ⟨v, vm₁, B, X₁.warmed, X', hpost, fun target h => hstep₁ _ fun acts => by rw [doInvoke_state]; exact hsteps.trans h⟩
  · exact Or.inr ⟨q, vm₁, B, X₁.warmed, X', hpost, hstep₁ _ fun acts => by rw [doInvoke_state]; exact hsteps⟩
end Calls
theorem vx_cls {s : State} {T : State} {vm₁ : Vm} {E : String} {k : ClassId} (hW : s.WarmedH vm₁) (h : (T.setVm vm₁).vm.findClass E = some k) : s.vm.findClass E = some k := by
  have h1 : vm₁.findClass E = some k := h
  rw [hW.alike.findClass] at h1
  exact h1
/-- the method's frame g, with q thrown over it -/
def vx_W (p : Program) (l : Launch) (e : Env) (R : Room) (s : State) (m : MethodId) (args : Array Value) (below : List Frame) (meth : Method) (c : Code) (H : Heap) (locs : List Loc) (cells slots : Nat) (Q : State → Prop) (g : JFrame) (q : Addr) : Prop :=
  ∀ T : State, T.heap = H → Stand p l e R s m args below meth c T locs cells slots → ∃ t, Steps p.tables e below ((T.setTop g).pushFrame (.throwing q)) t ∧ Q t
def vx_Run (p : Program) (l : Launch) (e : Env) (R : Room) (s : State) (m : MethodId) (args : Array Value) (below : List Frame) (meth : Method) (c : Code) (H : Heap) (locs : List Loc) (cells slots mc ms : Nat) (g : JFrame) (rest : List Value) (Qa : State → Outcome → State → Prop) (XC : String → State → State → Prop) (free : Addr → Prop) : Prop :=
  ∀ T : State, T.heap = H → Stand p l e R s m args below meth c T locs cells slots →
    (∃ (v : Option Value) (st₀ t T' : State) (L : List Loc), st₀.heap = H ∧ Stand p l e R s m args below meth c T' (locs ++ L) (cells + mc) (slots + ms) ∧ (∀ q ∈ L, free q.base) ∧ T'.heap = t.heap ∧ T'.vm = t.vm ∧ Qa st₀ (.returned v) t ∧
      Goes p e below T g T' { g with pc := g.pc + 3, stack := v.toList ++ rest }) ∨
    (∃ (q : Addr) (st₀ t T' : State) (L : List Loc) (E : String) (ce : Cell), st₀.heap = H ∧ Stand p l e R s m args below meth c T' (locs ++ L) (cells + mc) (slots + ms) ∧ (∀ z ∈ L, free z.base) ∧ T'.heap = t.heap ∧ T'.vm = t.vm ∧ XC E st₀ t ∧ t.heap[q]? = some ce ∧ ce.vm = .none ∧ s.vm.findClass E = some ce.cls ∧
      Steps p.tables e below (T.setTop g) ((T'.setTop { g with stack := rest }).pushFrame (.throwing q)))
def vx_X {S : Type} (px : S → Prop) (B : String → S → State → Prop) (A : Nat → Prop) : String → State → State → Prop := fun E st t => ∃ u : S, px u ∧ B E u t ∧ va_F A st t
section Runs
variable {p : Program} {l : Launch} {e : Env} {R : Room} {s : State} {m : MethodId} {args : Array Value} {below : List Frame} {meth : Method} {c : Code} {H : Heap} {locs : List Loc} {cells slots : Nat}
variable {y : MethodName} {bytes cc : ByteArray} {maxL nL mc ms n index : Nat} {ret : Option FieldType} {ws : List Cond} {rm : Room} {Pc : Array Value → State → Prop} {Qc : Array Value → State → Outcome → State → Prop} {XC : String → State → State → Prop} {free : Addr → Prop} {Ts : List Cond} {own C : String} {b : Addr} {As rest : List Value} {g : JFrame}
theorem vx_callBack (cb : CallB R s args own index y bytes maxL ret ws rm mc ms n) (hM : vx_Met l y ws rm Pc Qc XC mc ms free) (hbl : FrameBlind Pc) : vx_Back l R p e below s args y 3 8 (PreOf R mc ms Pc) (PostOf Qc mc ms free) (vx_Post XC mc ms free) := by
  obtain ⟨hrc, hrs, hfr, hlo, hws, hcw, -, hini, -⟩ := cb
  exact vx_back (bytes := bytes) (maxL := maxL) (ret := ret) hM hbl hrc hrs hfr hlo hws hcw (fun a' U hW => word_at hW (Or.inl (by first | rfl | simp [Cond.onTables, Cond.keeps, Cond.steady])) hini)
theorem vx_runV (S : CallFix p m c cc nL s args Ts own) (hM : vx_Met l y ws rm Pc Qc XC mc ms free) (cw : CallW R s args own C index y bytes maxL ret ws rm mc ms n) (hp : PreV s H C b Pc As)
    (hg : g.method = m) (hn : As.length = n) (hsize : g.locals.size = nL) (hstack : g.stack = As.reverse ++ .ref b :: rest) (hW : 2 * g.monitorRoom + (rest.map fun v => v.category).sum ≤ 8) (hdg : decode cc g.pc = .ok (.invokevirtual index, 3)) (hf : cells + mc ≤ R.cells ∧ slots + ms ≤ R.slots) :
    vx_Run p l e R s m args below meth c H locs cells slots mc ms g rest (Qc (Value.ref b :: As).toArray) XC free := by
  have hK : vx_Back l R p e below s args y 3 8 (PreOf R mc ms Pc) (PostOf Qc mc ms free) (vx_Post XC mc ms free) := vx_callBack cw.1 hM hp.1
  obtain ⟨⟨-, -, -, -, -, -, hcode, -, hy, hlen, hl⟩, hin, hse⟩ := cw
  obtain ⟨hx, hb, hml, ho, -⟩ := S
  obtain ⟨-, ⟨cellB, hcB, hoB, hclB⟩, hPc⟩ := hp
  intro T hT X
  rcases vx_callV X hx (C := C) (bytes := bytes) (maxL := maxL) (ret := ret) ho hl hin hse hcode hy hK (by rw [hT]; exact hcB) hoB hclB hg (hsize.trans hml.symm) (argsL := As) (rest := rest) (fun sig h => hn.trans (hlen sig h)) hstack hW (by rw [hb]; exact hdg)
    (fun vm₁ hW₁ => ⟨hf.1, hf.2, hPc (T.setVm vm₁) hT hW₁⟩) with ⟨v, vm₁, ⟨U', l2, c2, s2⟩, hW₁, X', ⟨g', mk, t, L, e1, e2, hq, h1, hL, h2, h3⟩, st⟩ | ⟨q, vm₁, ⟨U', l2, c2, s2⟩, hW₁, X', ⟨g', mk, t, L, E, ce, e1, e2, hq, hce, hcv, hcl, h1, hL, h2, h3⟩, st⟩
  · dsimp only [Pt.U, Pt.locs, Pt.cells, Pt.slots] at X' e1 e2 h1 h2 h3 st
    subst h1; subst h2; subst h3
    exact Or.inl ⟨v, (T.setVm vm₁).calling g' mk (Value.ref b :: As).toArray, t, U', L, hT, X', hL, e1, e2, hq, st⟩
  · dsimp only [Pt.U, Pt.locs, Pt.cells, Pt.slots] at X' e1 e2 h1 h2 h3 st hcl
    subst h1; subst h2; subst h3
    exact Or.inr ⟨q, (T.setVm vm₁).calling g' mk (Value.ref b :: As).toArray, t, U', L, E, ce, hT, X', hL, e1, e2, hq, hce, hcv, vx_cls hW₁ hcl, st⟩
theorem vx_runS (S : CallFix p m c cc nL s args Ts own) (hM : vx_Met l y ws rm Pc Qc XC mc ms free) (cw : CallB R s args own index y bytes maxL ret ws rm mc ms n ∧ (Cond.static y).before args s = true) (hp : PreS s H Pc As)
    (hg : g.method = m) (hn : As.length = n) (hsize : g.locals.size = nL) (hstack : g.stack = As.reverse ++ rest) (hW : 2 * g.monitorRoom + (rest.map fun v => v.category).sum ≤ 8) (hdg : decode cc g.pc = .ok (.invokestatic index, 3)) (hf : cells + mc ≤ R.cells ∧ slots + ms ≤ R.slots) :
    vx_Run p l e R s m args below meth c H locs cells slots mc ms g rest (Qc As.toArray) XC free := by
  have hK : vx_Back l R p e below s args y 3 8 (PreOf R mc ms Pc) (PostOf Qc mc ms free) (vx_Post XC mc ms free) := vx_callBack cw.1 hM hp.1
  obtain ⟨⟨-, -, -, -, -, -, hcode, hini, hy, hlen, hl⟩, hstt⟩ := cw
  obtain ⟨hx, hb, hml, ho, -⟩ := S
  intro T hT X
  rcases vx_callS X hx (bytes := bytes) (maxL := maxL) (ret := ret) ho hl hstt hini hcode hy hK hg (hsize.trans hml.symm) (argsL := As) (rest := rest) (fun sig h => hn.trans (hlen sig h)) hstack hW (by rw [hb]; exact hdg)
    (fun vm₁ hW₁ => ⟨hf.1, hf.2, hp.2 (T.setVm vm₁) hT hW₁⟩) with ⟨v, vm₁, ⟨U', l2, c2, s2⟩, hW₁, X', ⟨g', mk, t, L, e1, e2, hq, h1, hL, h2, h3⟩, st⟩ | ⟨q, vm₁, ⟨U', l2, c2, s2⟩, hW₁, X', ⟨g', mk, t, L, E, ce, e1, e2, hq, hce, hcv, hcl, h1, hL, h2, h3⟩, st⟩
  · dsimp only [Pt.U, Pt.locs, Pt.cells, Pt.slots] at X' e1 e2 h1 h2 h3 st
    subst h1; subst h2; subst h3
    exact Or.inl ⟨v, (T.setVm vm₁).calling g' mk As.toArray, t, U', L, hT, X', hL, e1, e2, hq, st⟩
  · dsimp only [Pt.U, Pt.locs, Pt.cells, Pt.slots] at X' e1 e2 h1 h2 h3 st hcl
    subst h1; subst h2; subst h3
    exact Or.inr ⟨q, (T.setVm vm₁).calling g' mk As.toArray, t, U', L, E, ce, hT, X', hL, e1, e2, hq, hce, hcv, vx_cls hW₁ hcl, st⟩
end Runs
section Rows
variable {p : Program} {l : Launch} {e : Env} {R : Room} {s : State} {m : MethodId} {args : Array Value} {below : List Frame} {meth : Method} {c : Code} {H : Heap} {locs : List Loc} {cells slots : Nat} {Q : State → Prop}
variable {mc ms : Nat} {free : Addr → Prop} {A0 A1 : Nat → Prop} {H0 : Heap} {a : Array Value} {pc : Nat} {ls : Array Slot} {st0 rest : List Value}
theorem vx_keep {st₀ t T' : State} {L : List Loc} (h0 : st₀.heap = H) (e1 : T'.heap = t.heap) (hS : va_S A0 H0 H locs) (hA : ∀ q, q < H.size → A1 q → A0 q) (hf : ∀ q, free q → A0 q) (hL : ∀ q ∈ L, free q.base) (hF : va_F A1 st₀ t) :
    H.size ≤ T'.heap.size ∧ (∀ q : Nat, q < H.size → ¬ A1 q → T'.heap[q]? = H[q]?) ∧ va_S A0 H0 T'.heap (locs ++ L) := by
  obtain ⟨hz, hk⟩ := hF
  rw [h0] at hz hk
  exact ⟨by rw [e1]; exact hz, fun q h1 h2 => by rw [e1]; exact hk q h1 h2,
    ⟨Nat.le_trans hS.1 (by rw [e1]; exact hz), fun q h1 h2 => by rw [e1, hk q (Nat.lt_of_lt_of_le h1 hS.1) (fun z => h2 (hA q (Nat.lt_of_lt_of_le h1 hS.1) z))]; exact hS.2.1 q h1 h2, fun q hq => by
      rcases List.mem_append.mp hq with h | h
      · exact hS.2.2 q h
      · exact hf _ (hL q h)⟩⟩
theorem vx_calli {S SX : Type} {post : Int32 → S → Prop} {px : SX → Prop} {B : S → State → Prop} {BX : String → SX → State → Prop} {AX : Nat → Prop} (hr : vx_Run p l e R s m args below meth c H locs cells slots mc ms (F0 m pc ls st0) rest (va_Qi post B A1 a) (vx_X px BX AX) free) (hS : va_S A0 H0 H locs) (hA : ∀ q, q < H.size → A1 q → A0 q) (hf : ∀ q, free q → A0 q) (hAX : ∀ q, q < H.size → AX q → A0 q)
    (kx : ∀ (E : String) (ce : Cell) (q9 : Addr) (u : SX) (t : State) (H1 : Heap) (locs1 : List Loc), t.heap = H1 → s.vm.Alike t.vm → px u → BX E u t → H.size ≤ H1.size → (∀ q : Nat, q < H.size → ¬ AX q → H1[q]? = H[q]?) → va_S A0 H0 H1 locs1 → H1[q9]? = some ce → ce.vm = .none → s.vm.findClass E = some ce.cls → vx_W p l e R s m args below meth c H1 locs1 (cells + mc) (slots + ms) Q (F0 m pc ls rest) q9)
    (kk : ∀ (r : Int32) (u : S) (t : State) (H1 : Heap) (locs1 : List Loc), t.heap = H1 → s.vm.Alike t.vm → post r u → B u t → H.size ≤ H1.size → (∀ q : Nat, q < H.size → ¬ A1 q → H1[q]? = H[q]?) → va_S A0 H0 H1 locs1 → W p l e R s m args below meth c H1 locs1 (cells + mc) (slots + ms) Q (F0 m (pc + 3) ls (.int r :: rest))) : W p l e R s m args below meth c H locs cells slots Q (F0 m pc ls st0) := by
  intro T hT X
  rcases hr T hT X with ⟨v, st₀, t, T', L, h0, X', hL, e1, e2, ⟨⟨r, u, hv, hp, hb⟩, hF⟩, st⟩ | ⟨q, st₀, t, T', L, E, ce, h0, X', hL, e1, e2, ⟨u, hp, hb, hF⟩, hce, hcv, hcl, st⟩
  · cases hv
    obtain ⟨k1, k2, k3⟩ := vx_keep h0 e1 hS hA hf hL hF
    obtain ⟨t2, a1, b1⟩ := kk r u t T'.heap (locs ++ L) e1.symm (by rw [← e2]; exact X'.warmed.alike) hp hb k1 k2 k3 T' rfl X'
    exact ⟨t2, st t2 a1, b1⟩
  · obtain ⟨k1, k2, k3⟩ := vx_keep h0 e1 hS hAX hf hL hF
    obtain ⟨t2, a1, b1⟩ := kx E ce q u t T'.heap (locs ++ L) e1.symm (by rw [← e2]; exact X'.warmed.alike) hp hb k1 k2 k3 (by rw [e1]; exact hce) hcv hcl T' rfl X'
    exact ⟨t2, st.trans a1, b1⟩
theorem vx_calll {S SX : Type} {post : Int64 → S → Prop} {px : SX → Prop} {B : S → State → Prop} {BX : String → SX → State → Prop} {AX : Nat → Prop} (hr : vx_Run p l e R s m args below meth c H locs cells slots mc ms (F0 m pc ls st0) rest (va_Ql post B A1 a) (vx_X px BX AX) free) (hS : va_S A0 H0 H locs) (hA : ∀ q, q < H.size → A1 q → A0 q) (hf : ∀ q, free q → A0 q) (hAX : ∀ q, q < H.size → AX q → A0 q)
    (kx : ∀ (E : String) (ce : Cell) (q9 : Addr) (u : SX) (t : State) (H1 : Heap) (locs1 : List Loc), t.heap = H1 → s.vm.Alike t.vm → px u → BX E u t → H.size ≤ H1.size → (∀ q : Nat, q < H.size → ¬ AX q → H1[q]? = H[q]?) → va_S A0 H0 H1 locs1 → H1[q9]? = some ce → ce.vm = .none → s.vm.findClass E = some ce.cls → vx_W p l e R s m args below meth c H1 locs1 (cells + mc) (slots + ms) Q (F0 m pc ls rest) q9)
    (kk : ∀ (r : Int64) (u : S) (t : State) (H1 : Heap) (locs1 : List Loc), t.heap = H1 → s.vm.Alike t.vm → post r u → B u t → H.size ≤ H1.size → (∀ q : Nat, q < H.size → ¬ A1 q → H1[q]? = H[q]?) → va_S A0 H0 H1 locs1 → W p l e R s m args below meth c H1 locs1 (cells + mc) (slots + ms) Q (F0 m (pc + 3) ls (.long r :: rest))) : W p l e R s m args below meth c H locs cells slots Q (F0 m pc ls st0) := by
  intro T hT X
  rcases hr T hT X with ⟨v, st₀, t, T', L, h0, X', hL, e1, e2, ⟨⟨r, u, hv, hp, hb⟩, hF⟩, st⟩ | ⟨q, st₀, t, T', L, E, ce, h0, X', hL, e1, e2, ⟨u, hp, hb, hF⟩, hce, hcv, hcl, st⟩
  · cases hv
    obtain ⟨k1, k2, k3⟩ := vx_keep h0 e1 hS hA hf hL hF
    obtain ⟨t2, a1, b1⟩ := kk r u t T'.heap (locs ++ L) e1.symm (by rw [← e2]; exact X'.warmed.alike) hp hb k1 k2 k3 T' rfl X'
    exact ⟨t2, st t2 a1, b1⟩
  · obtain ⟨k1, k2, k3⟩ := vx_keep h0 e1 hS hAX hf hL hF
    obtain ⟨t2, a1, b1⟩ := kx E ce q u t T'.heap (locs ++ L) e1.symm (by rw [← e2]; exact X'.warmed.alike) hp hb k1 k2 k3 (by rw [e1]; exact hce) hcv hcl T' rfl X'
    exact ⟨t2, st.trans a1, b1⟩
theorem vx_callf {S SX : Type} {post : UInt32 → S → Prop} {px : SX → Prop} {B : S → State → Prop} {BX : String → SX → State → Prop} {AX : Nat → Prop} (hr : vx_Run p l e R s m args below meth c H locs cells slots mc ms (F0 m pc ls st0) rest (va_Qf post B A1 a) (vx_X px BX AX) free) (hS : va_S A0 H0 H locs) (hA : ∀ q, q < H.size → A1 q → A0 q) (hf : ∀ q, free q → A0 q) (hAX : ∀ q, q < H.size → AX q → A0 q)
    (kx : ∀ (E : String) (ce : Cell) (q9 : Addr) (u : SX) (t : State) (H1 : Heap) (locs1 : List Loc), t.heap = H1 → s.vm.Alike t.vm → px u → BX E u t → H.size ≤ H1.size → (∀ q : Nat, q < H.size → ¬ AX q → H1[q]? = H[q]?) → va_S A0 H0 H1 locs1 → H1[q9]? = some ce → ce.vm = .none → s.vm.findClass E = some ce.cls → vx_W p l e R s m args below meth c H1 locs1 (cells + mc) (slots + ms) Q (F0 m pc ls rest) q9)
    (kk : ∀ (r : UInt32) (u : S) (t : State) (H1 : Heap) (locs1 : List Loc), t.heap = H1 → s.vm.Alike t.vm → post r u → B u t → H.size ≤ H1.size → (∀ q : Nat, q < H.size → ¬ A1 q → H1[q]? = H[q]?) → va_S A0 H0 H1 locs1 → W p l e R s m args below meth c H1 locs1 (cells + mc) (slots + ms) Q (F0 m (pc + 3) ls (.float r :: rest))) : W p l e R s m args below meth c H locs cells slots Q (F0 m pc ls st0) := by
  intro T hT X
  rcases hr T hT X with ⟨v, st₀, t, T', L, h0, X', hL, e1, e2, ⟨⟨r, u, hv, hp, hb⟩, hF⟩, st⟩ | ⟨q, st₀, t, T', L, E, ce, h0, X', hL, e1, e2, ⟨u, hp, hb, hF⟩, hce, hcv, hcl, st⟩
  · cases hv
    obtain ⟨k1, k2, k3⟩ := vx_keep h0 e1 hS hA hf hL hF
    obtain ⟨t2, a1, b1⟩ := kk r u t T'.heap (locs ++ L) e1.symm (by rw [← e2]; exact X'.warmed.alike) hp hb k1 k2 k3 T' rfl X'
    exact ⟨t2, st t2 a1, b1⟩
  · obtain ⟨k1, k2, k3⟩ := vx_keep h0 e1 hS hAX hf hL hF
    obtain ⟨t2, a1, b1⟩ := kx E ce q u t T'.heap (locs ++ L) e1.symm (by rw [← e2]; exact X'.warmed.alike) hp hb k1 k2 k3 (by rw [e1]; exact hce) hcv hcl T' rfl X'
    exact ⟨t2, st.trans a1, b1⟩
theorem vx_calld {S SX : Type} {post : UInt64 → S → Prop} {px : SX → Prop} {B : S → State → Prop} {BX : String → SX → State → Prop} {AX : Nat → Prop} (hr : vx_Run p l e R s m args below meth c H locs cells slots mc ms (F0 m pc ls st0) rest (va_Qd post B A1 a) (vx_X px BX AX) free) (hS : va_S A0 H0 H locs) (hA : ∀ q, q < H.size → A1 q → A0 q) (hf : ∀ q, free q → A0 q) (hAX : ∀ q, q < H.size → AX q → A0 q)
    (kx : ∀ (E : String) (ce : Cell) (q9 : Addr) (u : SX) (t : State) (H1 : Heap) (locs1 : List Loc), t.heap = H1 → s.vm.Alike t.vm → px u → BX E u t → H.size ≤ H1.size → (∀ q : Nat, q < H.size → ¬ AX q → H1[q]? = H[q]?) → va_S A0 H0 H1 locs1 → H1[q9]? = some ce → ce.vm = .none → s.vm.findClass E = some ce.cls → vx_W p l e R s m args below meth c H1 locs1 (cells + mc) (slots + ms) Q (F0 m pc ls rest) q9)
    (kk : ∀ (r : UInt64) (u : S) (t : State) (H1 : Heap) (locs1 : List Loc), t.heap = H1 → s.vm.Alike t.vm → post r u → B u t → H.size ≤ H1.size → (∀ q : Nat, q < H.size → ¬ A1 q → H1[q]? = H[q]?) → va_S A0 H0 H1 locs1 → W p l e R s m args below meth c H1 locs1 (cells + mc) (slots + ms) Q (F0 m (pc + 3) ls (.double r :: rest))) : W p l e R s m args below meth c H locs cells slots Q (F0 m pc ls st0) := by
  intro T hT X
  rcases hr T hT X with ⟨v, st₀, t, T', L, h0, X', hL, e1, e2, ⟨⟨r, u, hv, hp, hb⟩, hF⟩, st⟩ | ⟨q, st₀, t, T', L, E, ce, h0, X', hL, e1, e2, ⟨u, hp, hb, hF⟩, hce, hcv, hcl, st⟩
  · cases hv
    obtain ⟨k1, k2, k3⟩ := vx_keep h0 e1 hS hA hf hL hF
    obtain ⟨t2, a1, b1⟩ := kk r u t T'.heap (locs ++ L) e1.symm (by rw [← e2]; exact X'.warmed.alike) hp hb k1 k2 k3 T' rfl X'
    exact ⟨t2, st t2 a1, b1⟩
  · obtain ⟨k1, k2, k3⟩ := vx_keep h0 e1 hS hAX hf hL hF
    obtain ⟨t2, a1, b1⟩ := kx E ce q u t T'.heap (locs ++ L) e1.symm (by rw [← e2]; exact X'.warmed.alike) hp hb k1 k2 k3 (by rw [e1]; exact hce) hcv hcl T' rfl X'
    exact ⟨t2, st.trans a1, b1⟩
theorem vx_callv {S SX : Type} {post : S → Prop} {px : SX → Prop} {B : S → State → Prop} {BX : String → SX → State → Prop} {AX : Nat → Prop} (hr : vx_Run p l e R s m args below meth c H locs cells slots mc ms (F0 m pc ls st0) rest (va_Qv post B A1 a) (vx_X px BX AX) free) (hS : va_S A0 H0 H locs) (hA : ∀ q, q < H.size → A1 q → A0 q) (hf : ∀ q, free q → A0 q) (hAX : ∀ q, q < H.size → AX q → A0 q)
    (kx : ∀ (E : String) (ce : Cell) (q9 : Addr) (u : SX) (t : State) (H1 : Heap) (locs1 : List Loc), t.heap = H1 → s.vm.Alike t.vm → px u → BX E u t → H.size ≤ H1.size → (∀ q : Nat, q < H.size → ¬ AX q → H1[q]? = H[q]?) → va_S A0 H0 H1 locs1 → H1[q9]? = some ce → ce.vm = .none → s.vm.findClass E = some ce.cls → vx_W p l e R s m args below meth c H1 locs1 (cells + mc) (slots + ms) Q (F0 m pc ls rest) q9)
    (kk : ∀ (u : S) (t : State) (H1 : Heap) (locs1 : List Loc), t.heap = H1 → s.vm.Alike t.vm → post u → B u t → H.size ≤ H1.size → (∀ q : Nat, q < H.size → ¬ A1 q → H1[q]? = H[q]?) → va_S A0 H0 H1 locs1 → W p l e R s m args below meth c H1 locs1 (cells + mc) (slots + ms) Q (F0 m (pc + 3) ls (rest))) : W p l e R s m args below meth c H locs cells slots Q (F0 m pc ls st0) := by
  intro T hT X
  rcases hr T hT X with ⟨v, st₀, t, T', L, h0, X', hL, e1, e2, ⟨⟨u, hv, hp, hb⟩, hF⟩, st⟩ | ⟨q, st₀, t, T', L, E, ce, h0, X', hL, e1, e2, ⟨u, hp, hb, hF⟩, hce, hcv, hcl, st⟩
  · cases hv
    obtain ⟨k1, k2, k3⟩ := vx_keep h0 e1 hS hA hf hL hF
    obtain ⟨t2, a1, b1⟩ := kk u t T'.heap (locs ++ L) e1.symm (by rw [← e2]; exact X'.warmed.alike) hp hb k1 k2 k3 T' rfl X'
    exact ⟨t2, st t2 a1, b1⟩
  · obtain ⟨k1, k2, k3⟩ := vx_keep h0 e1 hS hAX hf hL hF
    obtain ⟨t2, a1, b1⟩ := kx E ce q u t T'.heap (locs ++ L) e1.symm (by rw [← e2]; exact X'.warmed.alike) hp hb k1 k2 k3 (by rw [e1]; exact hce) hcv hcl T' rfl X'
    exact ⟨t2, st.trans a1, b1⟩
/-- caught by the row x of this method's table; the rows ahead don't take it -/
theorem vx_catch {own name : String} {E : String} {ce : Cell} {q : Addr} (hown : s.vm.findClass own = some m.cls) (pre : List ExceptionTableEntry) (x : ExceptionTableEntry) (suf : List ExceptionTableEntry) (hsplit : c.exceptionTable.toList = pre ++ x :: suf)
    (hpass : ∀ z ∈ pre, covers z pc = false ∨ (z.catchType ≠ 0 ∧ ∃ nm : String, (Cond.classLink own z.catchType nm).before args s = true ∧ va_Nc E nm s)) (hx : covers x pc = true) (h0 : x.catchType ≠ 0)
    (hlink : (Cond.classLink own x.catchType name).before args s = true) (hcast : (Cond.castable E name).before args s = true) (hcell : H[q]? = some ce) (hv : ce.vm = .none) (hcl : s.vm.findClass E = some ce.cls)
    (kk : W p l e R s m args below meth c H locs cells slots Q (F0 m x.handlerPc ls [.ref q])) : vx_W p l e R s m args below meth c H locs cells slots Q (F0 m pc ls rest) q := by
  intro T hT X
  have hpl : e.platform.magicAccessors = ({} : Platform).magicAccessors := by rw [X.admits.platform]
  obtain ⟨c3, c4, hc3, hc4, hasg⟩ := Cond.castable_spec hcast
  cases Option.some.inj (hc3.symm.trans hcl)
  obtain ⟨c5, hc5, hcl5⟩ := Cond.classLink_spec hown hlink e.platform hpl
  cases Option.some.inj (hc4.symm.trans hc5)
  obtain ⟨vm', X', st⟩ := X.thenCaughtThrough q (g := F0 m pc ls rest) rfl (Steps.refl _) (by rw [hT]; exact hcell) (by rw [hv]; rfl) (by obtain ⟨k9, h9, -⟩ := Vm.findClass_spec hcl; exact ⟨k9, h9⟩) pre x suf hsplit
    (fun z hz => by
      rcases hpass z hz with h | ⟨hz0, nm, hl1, hn1⟩
      · exact Or.inl h
      · obtain ⟨c6, hc6, hcl6⟩ := Cond.classLink_spec hown hl1 e.platform hpl
        obtain ⟨a8, b8, h1, h2, h3⟩ := hn1
        cases Option.some.inj (h1.symm.trans hcl)
        cases Option.some.inj (h2.symm.trans hc6)
        exact Or.inr ⟨hz0, _, hcl6, h3⟩) hx (Or.inr ⟨h0, c4, hcl5, hasg⟩)
  obtain ⟨t, a1, b1⟩ := kk (T.setVm vm') hT X'
  exact ⟨t, st.trans a1, b1⟩
end Rows
section Ends
variable {p : Program} {l : Launch} {e : Env} {R : Room} {s : State} {m : MethodId} {args : Array Value} {below : List Frame} {meth : Method} {c : Code} {H : Heap} {locs : List Loc} {cells slots : Nat} {Q : State → Prop}
variable {mc ms : Nat} {free : Addr → Prop} {A0 A1 : Nat → Prop} {H0 : Heap} {a : Array Value} {ls : Array Slot} {st0 rest : List Value}
variable {Qc : Array Value → State → Outcome → State → Prop} {XC : String → State → State → Prop}
/-- what a body that may throw owes at its end -/
def vx_MQ (below : List Frame) (Qc : Array Value → State → Outcome → State → Prop) (XC : String → State → State → Prop) (a : Array Value) (s : State) (mc ms : Nat) (free : Addr → Prop) : State → Prop := fun t =>
  ∃ o, t.status = .running ∧ Ended t below o ∧ vx_Q Qc XC mc ms free a s o t
theorem vx_ret {g : JFrame} {mc ms : Nat} (k : W p l e R s m args below meth c H locs cells slots (MQ below Qc args s mc ms free) g) : W p l e R s m args below meth c H locs cells slots (vx_MQ below Qc XC args s mc ms free) g := by
  intro T hT X
  obtain ⟨t, a1, o, b1, b2, b3, b4⟩ := k T hT X
  exact ⟨t, a1, o, b1, b2, Or.inl ⟨b3, b4⟩⟩
/-- not caught here: it goes on to the caller -/
theorem vx_widen {g : JFrame} {q : Addr} {k n : Nat} (h1 : cells ≤ k) (h2 : slots ≤ n) (kk : vx_W p l e R s m args below meth c H locs k n Q g q) : vx_W p l e R s m args below meth c H locs cells slots Q g q := fun T hT X => kk T hT (stand_widen X h1 h2)
theorem vx_out {pc : Nat} {E : String} {ce : Cell} {q : Addr} {mc ms : Nat} (hout : ∀ x ∈ c.exceptionTable.toList, covers x pc = false) (hlocks : meth.locks = false) (hcell : H[q]? = some ce) (hv : ce.vm = .none) (hcl : s.vm.findClass E = some ce.cls)
    (hx : ∀ t : State, t.heap = H → s.vm.Alike t.vm → XC E s t) (hf : ∀ z ∈ locs, free z.base) (hc : cells ≤ mc) (hs : slots ≤ ms) :
    vx_W p l e R s m args below meth c H locs cells slots (vx_MQ below Qc XC args s mc ms free) (F0 m pc ls rest) q := by
  intro T hT X
  obtain ⟨st1, hrun, hend, hW, hsm⟩ := X.leaveThrown q (g := F0 m pc ls rest) rfl rfl rfl hout hlocks
  have hcell9 : (T.setFrames (.throwing q :: below)).heap[q]? = some ce := by
    show T.heap[q]? = some ce
    rw [hT]; exact hcell
  exact ⟨_, st1, .threw q, hrun, hend, Or.inr ⟨q, rfl, E, ce, locs, hx _ hT hW.alike, hcell9, hv, hcl, hW, hsm.mono hc hs, hf⟩⟩
theorem vx_frame {U : State} {k n : Nat} (h : s.sameButNew ({ U with vm := s.vm } : State) locs k n) : s.heap.size ≤ U.heap.size ∧ ∀ q : Nat, q < s.heap.size → (∀ z ∈ locs, z.base ≠ q) → U.heap[q]? = s.heap[q]? := by
  obtain ⟨-, h2, -, -, -, h6⟩ := h
  refine ⟨h2, fun q hq hz => ?_⟩
  obtain ⟨c9, e1, e2, e3, e4⟩ := h6 q _ (Array.getElem?_eq_getElem hq)
  have hs : c9.slots = (s.heap[q]).slots := Array.ext_getElem? fun i => e4 i fun hm => hz _ hm rfl
  have h9 : c9 = s.heap[q] := by
    rw [hs] at e2
    exact e2
  have e5 : U.heap[q]? = some c9 := e1
  rw [e5, h9, Array.getElem?_eq_getElem hq]
/-- the words of a throw but the four that speak of the heap -/
def vx_no (w : Cond) : Bool := decide (w ≠ .isRef (.static Bundle.tN "UNASSIGNED_STACK" Bundle.steD)) && decide (w ≠ .isRef (.static Bundle.tN "SUPPRESSED_SENTINEL" Bundle.listD)) && decide (w ≠ .laysStatic Bundle.tN "UNASSIGNED_STACK" Bundle.steD) && decide (w ≠ .laysStatic Bundle.tN "SUPPRESSED_SENTINEL" Bundle.listD)
def vx_at0 (own : String) (ic : Nat) (X : String) (names : List String) : List Cond := (Bundle.ownAtoms0 own ic X names).filter vx_no
def vx_atS (own : String) (ic : Nat) (X : String) (names : List String) : List Cond := (Bundle.ownAtoms own ic X names).filter vx_no
/-- a word that the tables alone decide, or a good one -/
def vx_ot (w : Cond) : Bool := w.onTables || goodWord w
theorem vx_ot_at {args a' : Array Value} {s U : State} {w : Cond} (hW : s.WarmedH U.vm) (hvm : s.vm = U.vm) (hg : vx_ot w = true) (h : w.before args s = true) : w.before a' U = true := by
  simp only [vx_ot, Bool.or_eq_true] at hg
  rcases hg with hg | hg
  · exact va_tabs hg hvm h
  · exact word_at hW (good_of_word hg) h
/-- a list's words: the good ones out of the method's own list, the others by premises of their own -/
theorem vx_hat {args : Array Value} {s : State} {L B : List Cond} (h1 : ∀ w ∈ L.filter goodWord, w.before args s = true) (h2 : ∀ w ∈ L.filter (fun w => !goodWord w), w ∈ B) (h3 : ∀ w ∈ B, w.before args s = true) : ∀ w ∈ L, w.before args s = true := by
  intro w hw
  by_cases g : goodWord w = true
  · exact h1 w (List.mem_filter.mpr ⟨hw, g⟩)
  · refine h3 w (h2 w (List.mem_filter.mpr ⟨hw, ?_⟩))
    show (!goodWord w) = true
    cases hgw : goodWord w
    · rfl
    · exact absurd hgw g
theorem vx_c {args : Array Value} {s : State} {w : Cond} {B : List Cond} (h : w.before args s = true) (t : ∀ w ∈ B, w.before args s = true) : ∀ w' ∈ w :: B, w'.before args s = true := fun w' h' => (List.mem_cons.mp h').elim (fun e => by rw [e]; exact h) (t w')
theorem vx_n {args : Array Value} {s : State} : ∀ w ∈ ([] : List Cond), w.before args s = true := fun _ h => nomatch h
theorem vx_own {args : Array Value} {s : State} {L : List Cond} (h1 : ∀ w ∈ L.filter vx_no, w.before args s = true)
    (hU : (Cond.isRef (.static Bundle.tN "UNASSIGNED_STACK" Bundle.steD)).before args s = true) (hN : (Cond.isRef (.static Bundle.tN "SUPPRESSED_SENTINEL" Bundle.listD)).before args s = true)
    (lU : (Cond.laysStatic Bundle.tN "UNASSIGNED_STACK" Bundle.steD).before args s = true) (lN : (Cond.laysStatic Bundle.tN "SUPPRESSED_SENTINEL" Bundle.listD).before args s = true) : ∀ w ∈ L, w.before args s = true := by
  intro w hw
  by_cases e1 : w = .isRef (.static Bundle.tN "UNASSIGNED_STACK" Bundle.steD)
  · rw [e1]; exact hU
  · by_cases e2 : w = .isRef (.static Bundle.tN "SUPPRESSED_SENTINEL" Bundle.listD)
    · rw [e2]; exact hN
    · by_cases e3 : w = .laysStatic Bundle.tN "UNASSIGNED_STACK" Bundle.steD
      · rw [e3]; exact lU
      · by_cases e4 : w = .laysStatic Bundle.tN "SUPPRESSED_SENTINEL" Bundle.listD
        · rw [e4]; exact lN
        · exact h1 w (List.mem_filter.mpr ⟨hw, by unfold vx_no; rw [decide_eq_true e1, decide_eq_true e2, decide_eq_true e3, decide_eq_true e4]; rfl⟩)
/-- where a static field lies, its class's statics cell in H -/
def vx_L (C n d : String) (A : Nat → Prop) (U : State) (H : Heap) : Prop := ∃ (c : ClassId) (k : Class) (i : Nat) (f : Field) (a : Nat) (cell : Cell), U.vm.findClass C = some c ∧ U.fieldFound? C n d = some (c, k, i, f) ∧ f.isStatic = true ∧ k.statics = some a ∧ H[a]? = some cell ∧ cell.vm.isStatics = true ∧ cell.cls = c ∧ f.slot < cell.slots.size ∧ k.staticTypes[f.slot]? = some f.type ∧ ¬ A a
theorem vx_L.moved {C n d : String} {A : Nat → Prop} {u U : State} {H : Heap} (hvm : u.vm.Alike U.vm) (h : vx_L C n d A u H) : vx_L C n d A U H := by
  obtain ⟨c, k, i, f, a, cell, h1, h2, h3, h4, h5, h6, h7, h8, h9, h10⟩ := h
  obtain ⟨k', hi', he⟩ := State.fieldFound?_setVm hvm h2
  exact ⟨c, k', i, f, a, cell, by rw [hvm.findClass]; exact h1, hi', h3, by rw [he]; exact h4, h5, h6, h7, h8, by rw [he]; exact h9, h10⟩
theorem vx_L.kept {C n d : String} {A : Nat → Prop} {U : State} {H H1 : Heap} (h : vx_L C n d A U H) (hq : ∀ a : Nat, a < H.size → ¬ A a → H1[a]? = H[a]?) : vx_L C n d A U H1 := by
  obtain ⟨c, k, i, f, a, cell, h1, h2, h3, h4, h5, h6, h7, h8, h9, h10⟩ := h
  exact ⟨c, k, i, f, a, cell, h1, h2, h3, h4, by rw [hq a (Array.getElem?_eq_some_iff.mp h5).1 h10]; exact h5, h6, h7, h8, h9, h10⟩
theorem vx_L.narrow {C n d : String} {A B : Nat → Prop} {U : State} {H : Heap} (h : vx_L C n d A U H) (hAB : ∀ q, B q → A q) : vx_L C n d B U H := by
  obtain ⟨c, k, i, f, a, cell, h1, h2, h3, h4, h5, h6, h7, h8, h9, h10⟩ := h
  exact ⟨c, k, i, f, a, cell, h1, h2, h3, h4, h5, h6, h7, h8, h9, fun z => h10 (hAB _ z)⟩
theorem vx_L.word {C n d : String} {A : Nat → Prop} {s : State} {args : Array Value} (h : vx_L C n d A s s.heap) : (Cond.laysStatic C n d).before args s = true := by
  obtain ⟨c, k, i, f, a, cell, h1, h2, h3, h4, h5, h6, h7, h8, h9, -⟩ := h
  show (Cond.laysStatic C n d).holds args s none s [] = true
  exact Cond.laysStatic_of h1 h2 h3 h4 h5 h6 h7 h8 h9
/-- .. and what it holds: null or some reference -/
def vx_Zq (C n d : String) (A : Nat → Prop) (U : State) (H : Heap) : Prop := va_Zq C n d A U H ∧ vx_L C n d A U H
theorem vx_Zq.moved {C n d : String} {A : Nat → Prop} {u U : State} {H : Heap} (hvm : u.vm.Alike U.vm) (h : vx_Zq C n d A u H) : vx_Zq C n d A U H := ⟨va_Zq.moved hvm h.1, vx_L.moved hvm h.2⟩
theorem vx_Zq.kept {C n d : String} {A : Nat → Prop} {U : State} {H H1 : Heap} (h : vx_Zq C n d A U H) (hq : ∀ a : Nat, a < H.size → ¬ A a → H1[a]? = H[a]?) : vx_Zq C n d A U H1 := ⟨va_Zq.kept h.1 hq, vx_L.kept h.2 hq⟩
theorem vx_Zq.narrow {C n d : String} {A B : Nat → Prop} {U : State} {H : Heap} (h : vx_Zq C n d A U H) (hAB : ∀ q, B q → A q) : vx_Zq C n d B U H := ⟨va_Zq.narrow h.1 hAB, vx_L.narrow h.2 hAB⟩
theorem vx_Zqof {args : Array Value} {s : State} {C n d : String} {A : Nat → Prop} (hl : (Cond.laysStatic C n d).before args s = true) (hini : (Cond.initialized C).before args s = true) (h : (Cond.isRef (.static C n d)).before args s = true) (hA : ∀ a : Nat, a < s.heap.size → ¬ A a) : vx_Zq C n d A s s.heap := by
  refine ⟨va_Zqof hl hini h hA, ?_⟩
  obtain ⟨c, k, i, f, a, cell, h1, h2, h3, h4, h5, h6, h7, h8, h9⟩ := Cond.laysStatic_spec hl
  exact ⟨c, k, i, f, a, cell, h1, h2, h3, h4, h5, h6, h7, h8, h9, hA a (Array.getElem?_eq_some_iff.mp h5).1⟩
theorem vx_isRef {C n d : String} {v : Value} {A : Nat → Prop} {s : State} {args : Array Value} (h : va_Z C n d v A s s.heap) (hv : v.isRef = true) : (Cond.isRef (.static C n d)).before args s = true := by
  obtain ⟨cf, kf, fi, f, a, cell, h1, h2, h3, h4, h5, h6, h7, -⟩ := h
  have he : (Term.static C n d).eval args s none [] s = some v := by
    simp [Term.eval, State.fieldNamed?, h1, h2, h4, h5, h6, h7]
  simp only [Cond.before, Cond.holds, Cond.value, he]
  cases v <;> simp_all [Value.isRef]
theorem vx_isRefq {C n d : String} {A : Nat → Prop} {s : State} {args : Array Value} (h : va_Zq C n d A s s.heap) : (Cond.isRef (.static C n d)).before args s = true := by
  rcases h with h | ⟨t, h⟩
  · exact vx_isRef h rfl
  · exact vx_isRef h rfl
/-- the same frame, seen from here: as if the method were called anew in this heap -/
theorem vx_rebase {T : State} (X : Stand p l e R s m args below meth c T locs cells slots) {R' : Room} (hf : R'.frames ≤ R.frames) (hl : R'.locals ≤ R.locals) (hc : cells + R'.cells ≤ R.cells) (hs : slots + R'.slots ≤ R.slots) :
    Stand p l e R' ((T.setVm s.vm).setFrames (.invoking m args :: below)) m args below meth c T [] 0 0 := by
  have htop : (T.setVm s.vm).topJava?.isSome := X.here.top
  have hF : ((T.setVm s.vm).setFrames (.invoking m args :: below)).frames = .invoking m args :: below := State.frames_setFrames _ (State.cur_lt_of_top htop)
  obtain ⟨g₀, hg0⟩ := Option.isSome_iff_exists.mp htop
  obtain ⟨r, hr⟩ := State.topJava?_eq_some.mp hg0
  have hl9 : e.platform.stackLimits (T.setVm s.vm).me = e.platform.stackLimits s.me := X.limits
  have hb9 : (T.setVm s.vm).me.stackBytes = s.me.stackBytes := X.bytes
  refine ⟨X.admits, X.cas, X.clock, hF, ?_, X.hears, X.method, X.code, X.here, X.tail, X.warmed, ?_, ?_, ?_⟩
  · have h := X.room
    have hU : ((T.setVm s.vm).setFrames (.invoking m args :: below)).localsInUse = s.localsInUse := by
      rw [State.localsInUse_invoking hF (meth := meth) (c := c) X.method X.code, State.localsInUse_invoking X.frames X.method X.code]
    simp only [State.hasRoom, Bool.and_eq_true, decide_eq_true_eq] at h ⊢
    obtain ⟨⟨⟨⟨h1, h2, h3, h4, h5, h6⟩, h7⟩, h8⟩, h9⟩ := h
    rw [X.frames, List.length_cons] at h2 h3
    have q1 := X.heapSize
    have q2 := X.used
    simp only [hF, hU, List.length_cons, State.stackLimits_setFrames, State.stackBytes_setFrames, hl9, hb9]
    refine ⟨⟨⟨⟨by omega, by omega, by omega, by omega, by omega, h6⟩, ?_⟩, ?_⟩, X.book⟩
    · show T.heap.size + R'.cells ≤ e.platform.maxCells
      omega
    · show T.slotsUsed + R'.slots ≤ e.platform.maxSlots
      omega
  · rw [State.stackLimits_setFrames]; rfl
  · rw [State.stackBytes_setFrames]; rfl
  · refine ⟨?_, Nat.le_refl _, Nat.le_refl _, ?_, ?_, fun a c9 h9 => ⟨c9, h9, rfl, rfl, fun _ _ => rfl⟩⟩
    · obtain ⟨t, ht, -⟩ := State.frames_cons hr
      show T.setVm s.vm = { ((T.setVm s.vm).setFrames (.invoking m args :: below)).setFrames (T.setVm s.vm).frames with heap := T.heap, slotsUsed := T.slotsUsed }
      rw [State.setFrames_setFrames, State.setFrames_self ht]
      rfl
    · show T.slotsUsed = T.slotsUsed + ((T.heap.toList.drop T.heap.size).map (·.slots.size)).sum
      rw [List.drop_eq_nil_of_le (Nat.le_of_eq Array.length_toList)]
      rfl
    · show ((T.heap.toList.drop T.heap.size).map (·.slots.size)).sum ≤ 0
      rw [List.drop_eq_nil_of_le (Nat.le_of_eq Array.length_toList)]
      exact Nat.le_refl _
/-- 'throw new E()': new; dup; invokespecial; athrow -/
theorem vx_throw0 {cc : ByteArray} {pc : Nat} (hexec : p.tables.exec = Jvm.exec) (hb : c.code = cc) (hl : l.stackTraces = false) {own cls : String} {names : List String} {ik ic mc ms : Nat} {A : Nat → Prop}
    (hown : s.vm.findClass own = some m.cls) (hcls : Bundle.fit cls = true) (hnames : ∀ n ∈ names, Bundle.fit n = true)
    (hk : (Cond.classLink own ik cls).before args s = true) (hini : (Cond.initialized cls).before args s = true) (hat : ∀ w ∈ vx_at0 own ic cls names, w.before args s = true)
    (hgood : ∀ w ∈ Cond.classLink own ik cls :: Cond.initialized cls :: vx_at0 own ic cls names, vx_ot w = true)
    (hU : vx_Zq Bundle.tN "UNASSIGNED_STACK" Bundle.steD A s s.heap) (hN : vx_Zq Bundle.tN "SUPPRESSED_SENTINEL" Bundle.listD A s s.heap) (hS : va_S A s.heap H locs) (hsize : ls.size = c.maxLocals)
    (d0 : decode cc pc = .ok (.new ik, 3)) (d3 : decode cc (pc + 3) = .ok (.dup, 1)) (d4 : decode cc (pc + 4) = .ok (.invokespecial ic, 3)) (d7 : decode cc (pc + 7) = .ok (.athrow, 1))
    (hout : ∀ x ∈ c.exceptionTable.toList, covers x (pc + 7) = false)
    (hRframes : names.length + 3 < R.frames) (hRlocals : (rest.map fun v => v.category).sum + (13 * (names.length + 1) + 42) ≤ R.locals) (hRcells : cells + 1 ≤ R.cells) (hRslots : slots + 6 ≤ R.slots) (hlocks : meth.locks = false)
    (hx : ∀ t : State, s.vm.Alike t.vm → H.size ≤ t.heap.size → (∀ q : Nat, q < H.size → t.heap[q]? = H[q]?) → XC cls s t)
    (hf : ∀ z ∈ locs, free z.base) (hc : cells + 1 ≤ mc) (hs : slots + 6 ≤ ms) :
    W p l e R s m args below meth c H locs cells slots (vx_MQ below Qc XC args s mc ms free) (F0 m pc ls rest) := by
  intro T hT X
  have htr : e.platform.stackTraces = false := (show e.platform.stackTraces = l.stackTraces by rw [X.admits.platform]).trans hl
  have Y := vx_rebase X (R' := { frames := R.frames, locals := R.locals, cells := 1, slots := 6 }) (Nat.le_refl _) (Nat.le_refl _) hRcells hRslots
  obtain ⟨s', hA⟩ : ∃ z, z = (T.setVm s.vm).setFrames (.invoking m args :: below) := ⟨_, rfl⟩
  rw [← hA] at Y
  have hvm : s'.vm = s.vm := by rw [hA]; rfl
  have hhp : s'.heap = H := by rw [hA]; exact hT
  have hW0 : s.WarmedH s'.vm := by rw [hvm]; exact State.WarmedH.refl s
  have hat' : ∀ w ∈ vx_at0 own ic cls names, w.before args s' = true := fun w hw => vx_ot_at hW0 hvm.symm (hgood w (List.mem_cons_of_mem _ (List.mem_cons_of_mem _ hw))) (hat w hw)
  have hk' : (Cond.classLink own ik cls).before args s' = true := vx_ot_at hW0 hvm.symm (hgood _ List.mem_cons_self) hk
  have hini' : (Cond.initialized cls).before args s' = true := vx_ot_at hW0 hvm.symm (hgood _ (List.mem_cons_of_mem _ List.mem_cons_self)) hini
  have hU' : vx_Zq Bundle.tN "UNASSIGNED_STACK" Bundle.steD A s' s'.heap := by rw [hhp]; exact vx_Zq.moved hW0.alike (hU.kept hS.2.1)
  have hN' : vx_Zq Bundle.tN "SUPPRESSED_SENTINEL" Bundle.listD A s' s'.heap := by rw [hhp]; exact vx_Zq.moved hW0.alike (hN.kept hS.2.1)
  have h : ∀ w ∈ Bundle.ownAtoms0 own ic cls names, w.before args s' = true := vx_own hat' (vx_isRefq hU'.1) (vx_isRefq hN'.1) hU'.2.word hN'.2.word
  have hown' : s'.vm.findClass own = some m.cls := by rw [hvm]; exact hown
  have hins : (Cond.instantiable cls 6).before args s' = true := h _ (by simp [Bundle.ownAtoms0])
  obtain ⟨vm₁, cX, kX, hfX, hkX, -, -, X₁, st1⟩ := Y.newCold hexec (own := own) (C := cls) (index := ik) (n := 6) hown' hk' hins hini'
    (g := F0 m pc ls rest) rfl (by rw [hb]; exact d0) (Nat.le_refl _) (Nat.le_refl _)
  generalize hT1 : (T.setVm vm₁).pushCell { cls := cX, slots := kX.instanceTypes.map defaultValue, vm := .none } = T1 at X₁ st1
  have hcat : (Value.ref T.heap.size).category = 1 := rfl
  have hcellA : T1.heap[T.heap.size]? = some (freshCell cX kX) := by rw [← hT1]; exact State.heap_pushCell_size _ _
  have d3' : decode c.code (pc + 3) = .ok (.dup, 1) := by rw [hb]; exact d3
  obtain ⟨U, hsteps, hrun, hend, hW, hsame, ce, hce, hO⟩ := X₁.ctorThrow0 hexec htr (own := own) (cls := cls) (names := names) (ic := ic) hown' hcls hnames h (fun x hx => nomatch hx) hfX hkX hcellA (by rw [hhp, hT]; exact Nat.le_refl _)
    (g := { method := m, pc := pc + 4, locals := ls, stack := .ref T.heap.size :: .ref T.heap.size :: rest, locked := none }) rfl hsize rfl rfl (rest := rest) rfl
    (by rw [hb]; exact d4) (by rw [hb]; exact d7) hout hRframes (by simp only [List.map_cons, List.sum_cons, hcat]; omega) hlocks
  obtain ⟨f1, f2⟩ := vx_frame hsame
  rw [hhp] at f1 f2
  have hWs : s.WarmedH U.vm := State.WarmedH.trans hW0 hW
  have hcl : s.vm.findClass cls = some ce.cls := by
    have h9 := hO.cls
    rw [hvm] at h9
    exact h9
  have hall : s.sameButNew ({ U with vm := s.vm } : State) locs mc ms := by
    subst hA
    obtain ⟨e1, e2⟩ := hsame
    rw [State.setFrames_setFrames] at e1
    have h2 : (T.setVm s.vm).sameButNew ({ U with vm := s.vm } : State) [] (0 + 1) (0 + 6) := ⟨e1, e2⟩
    have h3 := X.same.trans h2
    rw [List.append_nil] at h3
    exact h3.mono hc hs
  refine ⟨U, ?_, .threw T.heap.size, hrun, hend, Or.inr ⟨T.heap.size, rfl, cls, ce, locs, hx U hWs.alike f1 (fun q hq => f2 q hq (fun z hz => nomatch hz)), hce, hO.vm, hcl, hWs, hall, hf⟩⟩
  refine st1 _ ?_
  show Steps p.tables e below (T1.setTop { method := m, pc := pc + 3, locals := ls, stack := .ref T.heap.size :: rest, locked := none }) _
  jvm_step X₁.here [X₁.here.top, hexec, d3', Value.category]
  exact hsteps
/-- 'throw new E("text")': new; dup; ldc; invokespecial; athrow -/
theorem vx_throwS {cc : ByteArray} {pc : Nat} (hexec : p.tables.exec = Jvm.exec) (hb : c.code = cc) (hl : l.stackTraces = false) {own cls text : String} {names : List String} {ik is ic mc ms sa : Nat} {A : Nat → Prop}
    (hown : s.vm.findClass own = some m.cls) (hcls : Bundle.fit cls = true) (hnames : ∀ n ∈ names, Bundle.fit n = true)
    (hk : (Cond.classLink own ik cls).before args s = true) (hini : (Cond.initialized cls).before args s = true) (hstr : vk_R own is text sa s) (hat : ∀ w ∈ vx_atS own ic cls names, w.before args s = true)
    (hgood : ∀ w ∈ Cond.classLink own ik cls :: Cond.initialized cls :: vx_atS own ic cls names, vx_ot w = true)
    (hU : vx_Zq Bundle.tN "UNASSIGNED_STACK" Bundle.steD A s s.heap) (hN : vx_Zq Bundle.tN "SUPPRESSED_SENTINEL" Bundle.listD A s s.heap) (hS : va_S A s.heap H locs) (hsize : ls.size = c.maxLocals)
    (d0 : decode cc pc = .ok (.new ik, 3)) (d3 : decode cc (pc + 3) = .ok (.dup, 1)) (d4 : decode cc (pc + 4) = .ok (.ldc is, 2)) (d6 : decode cc (pc + 6) = .ok (.invokespecial ic, 3)) (d9 : decode cc (pc + 9) = .ok (.athrow, 1))
    (hout : ∀ x ∈ c.exceptionTable.toList, covers x (pc + 9) = false)
    (hRframes : names.length + 3 < R.frames) (hRlocals : (rest.map fun v => v.category).sum + (13 * (names.length + 1) + 43) ≤ R.locals) (hRcells : cells + 1 ≤ R.cells) (hRslots : slots + 6 ≤ R.slots) (hlocks : meth.locks = false)
    (hx : ∀ t : State, s.vm.Alike t.vm → H.size ≤ t.heap.size → (∀ q : Nat, q < H.size → t.heap[q]? = H[q]?) → XC cls s t)
    (hf : ∀ z ∈ locs, free z.base) (hc : cells + 1 ≤ mc) (hs : slots + 6 ≤ ms) :
    W p l e R s m args below meth c H locs cells slots (vx_MQ below Qc XC args s mc ms free) (F0 m pc ls rest) := by
  intro T hT X
  have htr : e.platform.stackTraces = false := (show e.platform.stackTraces = l.stackTraces by rw [X.admits.platform]).trans hl
  have Y := vx_rebase X (R' := { frames := R.frames, locals := R.locals, cells := 1, slots := 6 }) (Nat.le_refl _) (Nat.le_refl _) hRcells hRslots
  obtain ⟨s', hA⟩ : ∃ z, z = (T.setVm s.vm).setFrames (.invoking m args :: below) := ⟨_, rfl⟩
  rw [← hA] at Y
  have hvm : s'.vm = s.vm := by rw [hA]; rfl
  have hhp : s'.heap = H := by rw [hA]; exact hT
  have hW0 : s.WarmedH s'.vm := by rw [hvm]; exact State.WarmedH.refl s
  have hat' : ∀ w ∈ vx_atS own ic cls names, w.before args s' = true := fun w hw => vx_ot_at hW0 hvm.symm (hgood w (List.mem_cons_of_mem _ (List.mem_cons_of_mem _ hw))) (hat w hw)
  have hk' : (Cond.classLink own ik cls).before args s' = true := vx_ot_at hW0 hvm.symm (hgood _ List.mem_cons_self) hk
  have hini' : (Cond.initialized cls).before args s' = true := vx_ot_at hW0 hvm.symm (hgood _ (List.mem_cons_of_mem _ List.mem_cons_self)) hini
  have hU' : vx_Zq Bundle.tN "UNASSIGNED_STACK" Bundle.steD A s' s'.heap := by rw [hhp]; exact vx_Zq.moved hW0.alike (hU.kept hS.2.1)
  have hN' : vx_Zq Bundle.tN "SUPPRESSED_SENTINEL" Bundle.listD A s' s'.heap := by rw [hhp]; exact vx_Zq.moved hW0.alike (hN.kept hS.2.1)
  have h : ∀ w ∈ Bundle.ownAtoms own ic cls names, w.before args s' = true := vx_own hat' (vx_isRefq hU'.1) (vx_isRefq hN'.1) hU'.2.word hN'.2.word
  have hown' : s'.vm.findClass own = some m.cls := by rw [hvm]; exact hown
  have hins : (Cond.instantiable cls 6).before args s' = true := h _ (by simp [Bundle.ownAtoms])
  obtain ⟨vm₁, cX, kX, hfX, hkX, -, -, X₁, st1⟩ := Y.newCold hexec (own := own) (C := cls) (index := ik) (n := 6) hown' hk' hins hini'
    (g := F0 m pc ls rest) rfl (by rw [hb]; exact d0) (Nat.le_refl _) (Nat.le_refl _)
  generalize hT1 : (T.setVm vm₁).pushCell { cls := cX, slots := kX.instanceTypes.map defaultValue, vm := .none } = T1 at X₁ st1
  have hcat : (Value.ref T.heap.size).category = 1 := rfl
  have hcellA : T1.heap[T.heap.size]? = some (freshCell cX kX) := by rw [← hT1]; exact State.heap_pushCell_size _ _
  have d3' : decode c.code (pc + 3) = .ok (.dup, 1) := by rw [hb]; exact d3
  have d4' : decode c.code (pc + 4) = .ok (.ldc is, 2) := by rw [hb]; exact d4
  have hstr' : vk_R own is text sa s' := vk_R.warm hW0 hstr
  obtain ⟨U, hsteps, hrun, hend, hW, hsame, ce, hce, hO⟩ := X₁.ctorThrowS hexec htr (own := own) (cls := cls) (names := names) (ic := ic) hown' hcls hnames h (fun x hx => nomatch hx) hfX hkX hcellA (by rw [hhp, hT]; exact Nat.le_refl _) (msg := .ref sa) rfl
    (g := { method := m, pc := pc + 6, locals := ls, stack := .ref sa :: .ref T.heap.size :: .ref T.heap.size :: rest, locked := none }) rfl hsize rfl rfl (rest := rest) rfl
    (by rw [hb]; exact d6) (by rw [hb]; exact d9) hout hRframes (by simp only [List.map_cons, List.sum_cons, hcat]; omega) hlocks
  obtain ⟨f1, f2⟩ := vx_frame hsame
  rw [hhp] at f1 f2
  have hWs : s.WarmedH U.vm := State.WarmedH.trans hW0 hW
  have hcl : s.vm.findClass cls = some ce.cls := by
    have h9 := hO.cls
    rw [hvm] at h9
    exact h9
  have hall : s.sameButNew ({ U with vm := s.vm } : State) locs mc ms := by
    subst hA
    obtain ⟨e1, e2⟩ := hsame
    rw [State.setFrames_setFrames] at e1
    have h2 : (T.setVm s.vm).sameButNew ({ U with vm := s.vm } : State) [] (0 + 1) (0 + 6) := ⟨e1, e2⟩
    have h3 := X.same.trans h2
    rw [List.append_nil] at h3
    exact h3.mono hc hs
  refine ⟨U, ?_, .threw T.heap.size, hrun, hend, Or.inr ⟨T.heap.size, rfl, cls, ce, locs, hx U hWs.alike f1 (fun q hq => f2 q hq (fun z hz => nomatch hz)), hce, hO.vm, hcl, hWs, hall, hf⟩⟩
  refine st1 _ ?_
  show Steps p.tables e below (T1.setTop { method := m, pc := pc + 3, locals := ls, stack := .ref T.heap.size :: rest, locked := none }) _
  jvm_step X₁.here [X₁.here.top, hexec, d3', Value.category]
  exact X₁.ldcString hexec (own := own) (text := text) (index := is) (a := sa) hown' hstr'.1 hstr'.2
    (g := { method := m, pc := pc + 4, locals := ls, stack := .ref T.heap.size :: .ref T.heap.size :: rest, locked := none }) rfl d4' _ hsteps
/-- 'throw new E("text")', the text by a wide index -/
theorem vx_throwSW {cc : ByteArray} {pc : Nat} (hexec : p.tables.exec = Jvm.exec) (hb : c.code = cc) (hl : l.stackTraces = false) {own cls text : String} {names : List String} {ik is ic mc ms sa : Nat} {A : Nat → Prop}
    (hown : s.vm.findClass own = some m.cls) (hcls : Bundle.fit cls = true) (hnames : ∀ n ∈ names, Bundle.fit n = true)
    (hk : (Cond.classLink own ik cls).before args s = true) (hini : (Cond.initialized cls).before args s = true) (hstr : vk_R own is text sa s) (hat : ∀ w ∈ vx_atS own ic cls names, w.before args s = true)
    (hgood : ∀ w ∈ Cond.classLink own ik cls :: Cond.initialized cls :: vx_atS own ic cls names, vx_ot w = true)
    (hU : vx_Zq Bundle.tN "UNASSIGNED_STACK" Bundle.steD A s s.heap) (hN : vx_Zq Bundle.tN "SUPPRESSED_SENTINEL" Bundle.listD A s s.heap) (hS : va_S A s.heap H locs) (hsize : ls.size = c.maxLocals)
    (d0 : decode cc pc = .ok (.new ik, 3)) (d3 : decode cc (pc + 3) = .ok (.dup, 1)) (d4 : decode cc (pc + 4) = .ok (.ldc_w is, 3)) (d7 : decode cc (pc + 7) = .ok (.invokespecial ic, 3)) (d10 : decode cc (pc + 10) = .ok (.athrow, 1))
    (hout : ∀ x ∈ c.exceptionTable.toList, covers x (pc + 10) = false)
    (hRframes : names.length + 3 < R.frames) (hRlocals : (rest.map fun v => v.category).sum + (13 * (names.length + 1) + 43) ≤ R.locals) (hRcells : cells + 1 ≤ R.cells) (hRslots : slots + 6 ≤ R.slots) (hlocks : meth.locks = false)
    (hx : ∀ t : State, s.vm.Alike t.vm → H.size ≤ t.heap.size → (∀ q : Nat, q < H.size → t.heap[q]? = H[q]?) → XC cls s t)
    (hf : ∀ z ∈ locs, free z.base) (hc : cells + 1 ≤ mc) (hs : slots + 6 ≤ ms) :
    W p l e R s m args below meth c H locs cells slots (vx_MQ below Qc XC args s mc ms free) (F0 m pc ls rest) := by
  intro T hT X
  have htr : e.platform.stackTraces = false := (show e.platform.stackTraces = l.stackTraces by rw [X.admits.platform]).trans hl
  have Y := vx_rebase X (R' := { frames := R.frames, locals := R.locals, cells := 1, slots := 6 }) (Nat.le_refl _) (Nat.le_refl _) hRcells hRslots
  obtain ⟨s', hA⟩ : ∃ z, z = (T.setVm s.vm).setFrames (.invoking m args :: below) := ⟨_, rfl⟩
  rw [← hA] at Y
  have hvm : s'.vm = s.vm := by rw [hA]; rfl
  have hhp : s'.heap = H := by rw [hA]; exact hT
  have hW0 : s.WarmedH s'.vm := by rw [hvm]; exact State.WarmedH.refl s
  have hat' : ∀ w ∈ vx_atS own ic cls names, w.before args s' = true := fun w hw => vx_ot_at hW0 hvm.symm (hgood w (List.mem_cons_of_mem _ (List.mem_cons_of_mem _ hw))) (hat w hw)
  have hk' : (Cond.classLink own ik cls).before args s' = true := vx_ot_at hW0 hvm.symm (hgood _ List.mem_cons_self) hk
  have hini' : (Cond.initialized cls).before args s' = true := vx_ot_at hW0 hvm.symm (hgood _ (List.mem_cons_of_mem _ List.mem_cons_self)) hini
  have hU' : vx_Zq Bundle.tN "UNASSIGNED_STACK" Bundle.steD A s' s'.heap := by rw [hhp]; exact vx_Zq.moved hW0.alike (hU.kept hS.2.1)
  have hN' : vx_Zq Bundle.tN "SUPPRESSED_SENTINEL" Bundle.listD A s' s'.heap := by rw [hhp]; exact vx_Zq.moved hW0.alike (hN.kept hS.2.1)
  have h : ∀ w ∈ Bundle.ownAtoms own ic cls names, w.before args s' = true := vx_own hat' (vx_isRefq hU'.1) (vx_isRefq hN'.1) hU'.2.word hN'.2.word
  have hown' : s'.vm.findClass own = some m.cls := by rw [hvm]; exact hown
  have hins : (Cond.instantiable cls 6).before args s' = true := h _ (by simp [Bundle.ownAtoms])
  obtain ⟨vm₁, cX, kX, hfX, hkX, -, -, X₁, st1⟩ := Y.newCold hexec (own := own) (C := cls) (index := ik) (n := 6) hown' hk' hins hini'
    (g := F0 m pc ls rest) rfl (by rw [hb]; exact d0) (Nat.le_refl _) (Nat.le_refl _)
  generalize hT1 : (T.setVm vm₁).pushCell { cls := cX, slots := kX.instanceTypes.map defaultValue, vm := .none } = T1 at X₁ st1
  have hcat : (Value.ref T.heap.size).category = 1 := rfl
  have hcellA : T1.heap[T.heap.size]? = some (freshCell cX kX) := by rw [← hT1]; exact State.heap_pushCell_size _ _
  have d3' : decode c.code (pc + 3) = .ok (.dup, 1) := by rw [hb]; exact d3
  have d4' : decode c.code (pc + 4) = .ok (.ldc_w is, 3) := by rw [hb]; exact d4
  have hstr' : vk_R own is text sa s' := vk_R.warm hW0 hstr
  obtain ⟨U, hsteps, hrun, hend, hW, hsame, ce, hce, hO⟩ := X₁.ctorThrowS hexec htr (own := own) (cls := cls) (names := names) (ic := ic) hown' hcls hnames h (fun x hx => nomatch hx) hfX hkX hcellA (by rw [hhp, hT]; exact Nat.le_refl _) (msg := .ref sa) rfl
    (g := { method := m, pc := pc + 7, locals := ls, stack := .ref sa :: .ref T.heap.size :: .ref T.heap.size :: rest, locked := none }) rfl hsize rfl rfl (rest := rest) rfl
    (by rw [hb]; exact d7) (by rw [hb]; exact d10) hout hRframes (by simp only [List.map_cons, List.sum_cons, hcat]; omega) hlocks
  obtain ⟨f1, f2⟩ := vx_frame hsame
  rw [hhp] at f1 f2
  have hWs : s.WarmedH U.vm := State.WarmedH.trans hW0 hW
  have hcl : s.vm.findClass cls = some ce.cls := by
    have h9 := hO.cls
    rw [hvm] at h9
    exact h9
  have hall : s.sameButNew ({ U with vm := s.vm } : State) locs mc ms := by
    subst hA
    obtain ⟨e1, e2⟩ := hsame
    rw [State.setFrames_setFrames] at e1
    have h2 : (T.setVm s.vm).sameButNew ({ U with vm := s.vm } : State) [] (0 + 1) (0 + 6) := ⟨e1, e2⟩
    have h3 := X.same.trans h2
    rw [List.append_nil] at h3
    exact h3.mono hc hs
  refine ⟨U, ?_, .threw T.heap.size, hrun, hend, Or.inr ⟨T.heap.size, rfl, cls, ce, locs, hx U hWs.alike f1 (fun q hq => f2 q hq (fun z hz => nomatch hz)), hce, hO.vm, hcl, hWs, hall, hf⟩⟩
  refine st1 _ ?_
  show Steps p.tables e below (T1.setTop { method := m, pc := pc + 3, locals := ls, stack := .ref T.heap.size :: rest, locked := none }) _
  jvm_step X₁.here [X₁.here.top, hexec, d3', Value.category]
  exact X₁.ldcStringW hexec (own := own) (text := text) (index := is) (a := sa) hown' hstr'.1 hstr'.2
    (g := { method := m, pc := pc + 4, locals := ls, stack := .ref T.heap.size :: .ref T.heap.size :: rest, locked := none }) rfl d4' _ hsteps
end Ends
section Bodies
variable {l : Launch}
theorem vx_ofW {y : MethodName} {ws ws' : List Cond} {rm : Room} {Pc : Array Value → State → Prop} {Qc : Array Value → State → Outcome → State → Prop} {XC : String → State → State → Prop} {mc ms : Nat} {free : Addr → Prop} {cc : ByteArray} {maxL : Nat} {ret : Option FieldType}
    (hy : plainName y.cls = true) (hw : ws = Cond.code y cc maxL ret :: ws')
    (body : ∀ p e s m args below meth c s₁, BodyLoose p l y (headSpec ws rm) cc maxL ret e s m args below meth c s₁ → c.maxLocals = maxL → (∀ x ∈ c.exceptionTable.toList, False) → Pc args s →
      W p l e (headSpec ws rm).room s m args below meth c s.heap [] 0 0 (vx_MQ below Qc XC args s mc ms free) (entryFrame m args maxL)) : vx_Met l y ws rm Pc Qc XC mc ms free := by
  refine MetFree.of_bodyS (code := cc) (maxLocals := maxL) (ret := ret) hy ?_ ?_
  · intro args s m h hn
    obtain ⟨meth, c, h1, h2, h3, h4, h5, h6, -, -⟩ := Cond.code_spec hn (atoms_spec (ws := ws) h _ (by rw [hw]; exact List.mem_cons_self))
    exact ⟨meth, c, h1, h2, h3, h4, h5, h6⟩
  · intro p e s m args below meth c s₁ B hml hP _
    have hh0 : s₁.heap = s.heap := by rw [B.state]; rfl
    have ht : ∀ x ∈ c.exceptionTable.toList, False := by
      obtain ⟨meth9, c9, h1, h2, -, -, -, -, h7, -⟩ := Cond.code_spec B.named (atoms_spec (ws := ws) B.pre _ (by rw [hw]; exact List.mem_cons_self))
      cases Option.some.inj (h1.symm.trans B.method)
      cases Option.some.inj (h2.symm.trans (Stand.of_body B).code)
      intro x hx
      rw [Array.isEmpty_iff.mp h7] at hx
      cases hx
    obtain ⟨t, a1, o, b1, b2, b3⟩ := body p e s m args below meth c s₁ B hml ht hP s₁ hh0 (Stand.of_body B)
    exact ⟨t, o, a1, b1, b2, b3⟩
/-- the table of a body with handlers -/
theorem vx_table {p : Program} {x y : MethodName} {S : Spec} {cc bytes : ByteArray} {maxL maxL' : Nat} {ret ret' : Option FieldType} {e : Env} {s s₁ : State} {m : MethodId} {args : Array Value} {below : List Frame} {meth : Method} {c : Code} {hh : List (Nat × Nat × Nat × Nat)}
    (B : BodyLoose p l y S cc maxL ret e s m args below meth c s₁) (h : (Cond.codeWith y bytes maxL' ret' hh).before args s = true) : c.exceptionTable.toList = tableOf hh := by
  obtain ⟨m9, meth9, c9, hn9, h1, h2, -, -, h6, -⟩ := Cond.codeWith_spec h
  cases Option.some.inj (hn9.symm.trans B.named)
  cases Option.some.inj (h1.symm.trans B.method)
  cases Option.some.inj (h2.symm.trans (Stand.of_body B).code)
  rw [← h6, table_eq]
end Bodies
end VXA
/-! ===== END ===== -/
/-! ===== BEGIN a static call of a method with an exception table ===== -/
section VXS
variable {p : Program} {l : Launch} {e : Env} {R : Room} {s : State} {m : MethodId} {args : Array Value} {below : List Frame} {meth : Method} {c : Code} {T : State} {H : Heap} {locs : List Loc} {cells slots : Nat}
abbrev vx_CSW (R : Room) (s : State) (args : Array Value) (own : String) (index : Nat) (y : MethodName) (bytes : ByteArray) (maxL : Nat) (ret : Option FieldType) (hh : List (Nat × Nat × Nat × Nat)) (ws : List Cond) (rm : Room) (mc ms n : Nat) : Prop :=
  (rm.cells = mc ∧ rm.slots = ms ∧ rm.frames + 1 ≤ R.frames ∧ 8 + (maxL + 11) + rm.locals ≤ R.locals ∧ (∀ w ∈ ws, ∀ (a' : Array Value) (U : State), s.WarmedH U.vm → w.before a' U = true) ∧ Cond.codeWith y bytes maxL ret hh ∈ ws) ∧
  (Cond.codeWith y bytes maxL ret hh).before args s = true ∧ (Cond.initialized y.cls).before args s = true ∧ (y.cls ≠ "java/lang/invoke/MethodHandle" ∧ y.cls ≠ "java/lang/invoke/VarHandle") ∧
  (∀ sig, parseMethodDescriptor y.desc = some sig → n = sig.parameters.length) ∧ (Cond.methodLink own index y).before args s = true ∧ (Cond.static y).before args s = true
theorem vx_cwSW {own : String} {index maxL mc ms : Nat} {y : MethodName} {bytes : ByteArray} {ret : Option FieldType} {hh : List (Nat × Nat × Nat × Nat)} {Ts ws ws' : List Cond} {rm : Room} (n : Nat) (ht : ∀ w ∈ Ts, w.before args s = true) (hT : GoodIn Ts (va_wsS own index y ws)) (hw : ws = Cond.codeWith y bytes maxL ret hh :: ws') (hrc : rm.cells = mc) (hrs : rm.slots = ms)
    (hd : y.cls ≠ "java/lang/invoke/MethodHandle" ∧ y.cls ≠ "java/lang/invoke/VarHandle" ∧ (parseMethodDescriptor y.desc).map (fun d => d.parameters.length) = some n) (hR : rm.frames + 1 ≤ R.frames ∧ 8 + (maxL + 11) + rm.locals ≤ R.locals) :
    vx_CSW R s args own index y bytes maxL ret hh ws rm mc ms n := by
  have ok : ∀ w ∈ va_wsS own index y ws, w.before args s = true := fun w h => ht w (hT w h).1
  have hG : GoodIn Ts ws := fun w h => hT w (by unfold va_wsS; exact List.mem_append_right _ h)
  have hc : Cond.codeWith y bytes maxL ret hh ∈ ws := by rw [hw]; exact List.mem_cons_self
  refine ⟨⟨hrc, hrs, hR.1, hR.2, pay_in ht hG, hc⟩, ht _ (hG _ hc).1, ok _ (by simp [va_wsS]), ⟨hd.1, hd.2.1⟩, fun sig h => ?_, ok _ (by simp [va_wsS]), ok _ (by simp [va_wsS])⟩
  have h2 := hd.2.2
  rw [h] at h2
  exact (Option.some.inj h2).symm
theorem vx_callSW (X : Stand p l e R s m args below meth c T locs cells slots) (hexec : p.tables.exec = Jvm.exec) {own : String} {index : Nat} {y : MethodName} {bytes : ByteArray} {maxL : Nat} {ret : Option FieldType} {hh : List (Nat × Nat × Nat × Nat)}
    (hown : s.vm.findClass own = some m.cls) (hlink : (Cond.methodLink own index y).before args s = true) (hstat : (Cond.static y).before args s = true) (hinit : (Cond.initialized y.cls).before args s = true)
    (hcode : (Cond.codeWith y bytes maxL ret hh).before args s = true) (hy : y.cls ≠ "java/lang/invoke/MethodHandle" ∧ y.cls ≠ "java/lang/invoke/VarHandle")
    {W9 : Nat} {Pre : Pt → Array Value → Prop} {Post : Pt → Array Value → Option Value → Pt → Prop} (hK : Back l R p e below s args y 3 W9 Pre Post)
    {g : JFrame} (hg : g.method = m) (hsize : g.locals.size = c.maxLocals) {argsL rest : List Value} (hlen : ∀ sig, parseMethodDescriptor y.desc = some sig → argsL.length = sig.parameters.length)
    (hstack : g.stack = argsL.reverse ++ rest) (hW : 2 * g.monitorRoom + (rest.map fun v => v.category).sum ≤ W9) (hdg : decode c.code g.pc = .ok (.invokestatic index, 3))
    (hpre : ∀ vm₁, s.WarmedH vm₁ → Pre ⟨T.setVm vm₁, locs, cells, slots⟩ argsL.toArray) :
    ∃ (v : Option Value) (vm₁ : Vm) (B : Pt), s.WarmedH vm₁ ∧ Stand p l e R s m args below meth c B.U B.locs B.cells B.slots ∧ Post ⟨T.setVm vm₁, locs, cells, slots⟩ argsL.toArray v B ∧
      ∀ target, Steps p.tables e below (B.U.setTop { g with pc := g.pc + 3, stack := v.toList ++ rest }) target → Steps p.tables e below (T.setTop g) target := by
  obtain ⟨mk, methM, cM, hnamed, hmethM, -, -, -, -, -, -, hsigM⟩ := Cond.codeWith_spec hcode
  have hstatic : methM.isStatic = true := Cond.static_spec hnamed hmethM hstat
  obtain ⟨kP, hkP, -⟩ := className_of_methodNamed hnamed
  have hinitP : kP.init = .initialized := Cond.initialized_spec (findClass_of_methodNamed hnamed) hkP hinit
  obtain ⟨vm₁, X₁, hstep₁⟩ := X.invokestatic hexec hown hlink hnamed hmethM hstatic hkP hinitP hy (g := g) hg (argsL := argsL) (rest := rest) (hlen _ hsigM) hstack hdg
  obtain ⟨v, B, X', hpost, hsteps⟩ := hK m meth c ⟨T.setVm vm₁, locs, cells, slots⟩ { g with stack := rest } (.invokestatic index) mk argsL.toArray X₁ hg hsize hdg hW (X₁.named hnamed) (hpre vm₁ X₁.warmed)
  exact ⟨v, vm₁, B, X₁.warmed, X', hpost, fun target h => hstep₁ _ fun acts => by rw [doInvoke_state]; exact hsteps.trans h⟩
theorem vx_runSW {y : MethodName} {bytes cc : ByteArray} {maxL nL mc ms n index : Nat} {ret : Option FieldType} {hh : List (Nat × Nat × Nat × Nat)} {ws : List Cond} {rm : Room} {Pc : Array Value → State → Prop} {Qc : Array Value → State → Outcome → State → Prop} {free : Addr → Prop} {Ts : List Cond} {own : String} {As rest : List Value} {g : JFrame}
    (S : CallFix p m c cc nL s args Ts own) (hM : Met l y ws rm Pc Qc mc ms free) (cw : vx_CSW R s args own index y bytes maxL ret hh ws rm mc ms n) (hp : PreS s H Pc As)
    (hg : g.method = m) (hn : As.length = n) (hsize : g.locals.size = nL) (hstack : g.stack = As.reverse ++ rest) (hW : 2 * g.monitorRoom + (rest.map fun v => v.category).sum ≤ 8) (hdg : decode cc g.pc = .ok (.invokestatic index, 3)) (hf : cells + mc ≤ R.cells ∧ slots + ms ≤ R.slots) :
    va_Run p l e R s m args below meth c H locs cells slots mc ms g rest (Qc As.toArray) (free) := by
  obtain ⟨⟨hrc, hrs, hfr, hlo, hws, hcw⟩, hcode, hini, hy, hlen, hl, hstt⟩ := cw
  have hK : Back l R p e below s args y 3 8 (PreOf R mc ms Pc) (PostOf Qc mc ms free) := va_backW (hh := hh) (bytes := bytes) (maxL := maxL) (ret := ret) hM hp.1 hrc hrs hfr hlo hws hcw (fun a' U hW => word_at hW (Or.inl (by first | rfl | simp [Cond.onTables, Cond.keeps, Cond.steady])) hini)
  obtain ⟨hx, hb, hml, ho, -⟩ := S
  intro T hT X
  obtain ⟨v, vm₁, ⟨U', l2, c2, s2⟩, hW₁, X', ⟨g', mk, t, L, e1, e2, hq, h1, hL, h2, h3⟩, st⟩ := vx_callSW X hx (hh := hh) (bytes := bytes) (maxL := maxL) (ret := ret) ho hl hstt hini hcode hy hK hg (hsize.trans hml.symm) (argsL := As) (rest := rest) (fun sig h => hn.trans (hlen sig h)) hstack hW (by rw [hb]; exact hdg)
    (fun vm₁ hW₁ => ⟨hf.1, hf.2, hp.2 (T.setVm vm₁) hT hW₁⟩)
  dsimp only [Pt.U, Pt.locs, Pt.cells, Pt.slots] at X' e1 e2 h1 h2 h3 st
  subst h1; subst h2; subst h3
  exact ⟨v, (T.setVm vm₁).calling g' mk As.toArray, t, U', L, hT, X', hL, e1, e2, hq, st⟩
/-- not caught here, past rows that name other classes: it goes on to the caller -/
theorem vx_outP {p : Program} {l : Launch} {e : Env} {R : Room} {s : State} {m : MethodId} {args : Array Value} {below : List Frame} {meth : Method} {c : Code} {H : Heap} {locs : List Loc} {cells slots : Nat} {free : Addr → Prop} {ls : Array Slot} {rest : List Value} {Qc : Array Value → State → Outcome → State → Prop} {XC : String → State → State → Prop}
    {pc : Nat} {own E : String} {ce : Cell} {q : Addr} {mc ms : Nat} (hown : s.vm.findClass own = some m.cls) (hlocks : meth.locks = false)
    (hpass : ∀ z ∈ c.exceptionTable.toList, covers z pc = false ∨ (z.catchType ≠ 0 ∧ ∃ nm : String, (Cond.classLink own z.catchType nm).before args s = true ∧ va_Nc E nm s)) (hcell : H[q]? = some ce) (hv : ce.vm = .none) (hcl : s.vm.findClass E = some ce.cls)
    (hx : ∀ t : State, t.heap = H → s.vm.Alike t.vm → XC E s t) (hf : ∀ z ∈ locs, free z.base) (hc : cells ≤ mc) (hs : slots ≤ ms) :
    vx_W p l e R s m args below meth c H locs cells slots (vx_MQ below Qc XC args s mc ms free) (F0 m pc ls rest) q := by
  intro T hT X
  have hpl : e.platform.magicAccessors = ({} : Platform).magicAccessors := by rw [X.admits.platform]
  obtain ⟨vm', hW', X', st⟩ := X.outThrough hlocks q (g := F0 m pc ls rest) rfl rfl rfl (cell := ce) (by rw [hT]; exact hcell) (by rw [hv]; rfl)
    (by obtain ⟨k9, h9, -⟩ := Vm.findClass_spec hcl; exact ⟨k9, h9⟩) (fun z hz => by
      rcases hpass z hz with h | ⟨hz0, nm, hl1, hn1⟩
      · exact Or.inl h
      · obtain ⟨c6, hc6, hcl6⟩ := Cond.classLink_spec hown hl1 e.platform hpl
        obtain ⟨a8, b8, h1, h2, h3⟩ := hn1
        cases Option.some.inj (h1.symm.trans hcl)
        cases Option.some.inj (h2.symm.trans hc6)
        exact Or.inr ⟨hz0, _, hcl6, h3⟩)
  obtain ⟨g₀, hfr⟩ := X'.frames_eq
  have hcell9 : ((T.setVm vm').setFrames (.throwing q :: below)).heap[q]? = some ce := by
    show T.heap[q]? = some ce
    rw [hT]; exact hcell
  have hend : Ended ((T.setVm vm').setFrames (.throwing q :: below)) below (.threw q) := State.frames_setFrames _ (State.cur_lt_of_frames hfr)
  refine ⟨(T.setVm vm').setFrames (.throwing q :: below), ?_, .threw q, X'.here.running, hend, Or.inr ⟨q, rfl, E, ce, locs, hx _ hT (X'.ends _).1.alike, hcell9, hv, hcl, (X'.ends _).1, (X'.ends _).2.mono hc hs, hf⟩⟩
  rw [X.pushThrowing_eq]
  exact st
/-- a thing of a world lies in the heap -/
theorem vx_lt {D : va_G} {cl : List vw_C} {ws : va_W} {H1 : Heap} (h : va_P D cl ws H1) {k : Nat} {q : Nat × va_E} (hk : ws[k]? = some q) : q.1 < H1.size := (h k q hk).lt
end VXS
/-! ===== END ===== -/
/-! ===== BEGIN methods with a table of their own: called by a name, returning or throwing ===== -/
section VXH
/-! vx_backW, vx_callVX, vx_callSX, vx_callVW, vx_runVW, vx_runVX, vx_runSX, vx_ofWH follow the same proofs as their sisters above (Free/Laws.lean, Shelf42/LK1.lean); vx_outP calls Shelf42/NT130.lean (outThrough). -/
section
variable {l : Launch} {R : Room} {p : Program} {e : Env} {below : List Frame} {s : State} {sargs : Array Value} {y : MethodName} {len W9 : Nat}
theorem vx_backW {ws : List Cond} {rm : Room} {Pc : Array Value → State → Prop} {Qc : Array Value → State → Outcome → State → Prop} {XC : String → State → State → Prop} {mc ms : Nat} {free : Addr → Prop} {bytes : ByteArray} {maxL : Nat} {ret : Option FieldType} {hh : List (Nat × Nat × Nat × Nat)}
    (hM : vx_Met l y ws rm Pc Qc XC mc ms free) (hblind : FrameBlind Pc) (hrc : rm.cells = mc) (hrs : rm.slots = ms)
    (hframes : rm.frames + 1 ≤ R.frames) (hlocals : W9 + (maxL + 11) + rm.locals ≤ R.locals)
    (hws : ∀ w ∈ ws, ∀ a' U, s.WarmedH U.vm → w.before a' U = true) (hcode : Cond.codeWith y bytes maxL ret hh ∈ ws) (hinit : ∀ a' U, s.WarmedH U.vm → (Cond.initialized y.cls).before a' U = true) :
    vx_Back l R p e below s sargs y len W9 (PreOf R mc ms Pc) (PostOf Qc mc ms free) (vx_Post XC mc ms free) := by
  intro m meth c A g ig mk a X hg hsize hdg hW hn hp
  have h1 : (headSpec ws rm).pre.before a A.U = true := atoms_intro fun w hw => hws w hw _ _ X.warmed
  have h2 : (Cond.codeWith y bytes maxL ret hh).before a A.U = true := hws _ hcode _ _ X.warmed
  have h3 : (Cond.initialized y.cls).before a A.U = true := hinit _ _ X.warmed
  have h4 : A.cells + (headSpec ws rm).room.cells ≤ R.cells := by rw [show (headSpec ws rm).room.cells = mc from hrc]; exact hp.1
  have h5 : A.slots + (headSpec ws rm).room.slots ≤ R.slots := by rw [show (headSpec ws rm).room.slots = ms from hrs]; exact hp.2.1
  have hPc : Pc a (A.U.calling g mk a) := hblind _ _ _ _ hp.2.2
  obtain ⟨U, Ls, c0, s0⟩ := A
  dsimp only [Pt.U, Pt.locs, Pt.cells, Pt.slots] at h1 h2 h3 h4 h5 X hn hPc ⊢
  obtain ⟨m9, methY, cY, hn9, hmY, hcY, -, hlY, -⟩ := Cond.codeWith_spec h2
  cases Option.some.inj (hn9.symm.trans hn)
  obtain ⟨kY, hkY, -⟩ := className_of_methodNamed hn
  have hinitY : kY.init = .initialized := Cond.initialized_spec (findClass_of_methodNamed hn) hkY h3
  have h : At U g.method c below := by rw [hg]; exact X.here
  have hlocals9 : W9 + (maxL + 11) + (headSpec ws rm).room.locals ≤ R.locals := hlocals
  have happ : (headSpec ws rm).appliesLoose y e.platform (U.calling g mk a) = true :=
    Spec.appliesLoose_calling (g := g) h hdg hn hkY hinitY
      (X.room_calling (g := g) (R' := (headSpec ws rm).room) hsize hmY hcY hframes (by rw [hlY]; omega) h4 h5) h1
  obtain ⟨mid, hmid⟩ := h.above
  have hfr : (U.setTop g).frames = (.java g :: mid) ++ below := by rw [State.frames_setTop' g h.top, hmid]; rfl
  obtain ⟨o, s₂, hsteps, -, hend, hq⟩ := Steps.callFree hM p X.admits X.cas X.clock (acts := []) hfr happ hPc trivial
  have hq' : vx_Q Qc XC mc ms free a (U.calling g mk a) o s₂ := hq
  rw [State.frames_setTop' g h.top] at hend
  obtain ⟨g₀, hg0⟩ := Option.isSome_iff_exists.mp h.top
  obtain ⟨r, hr⟩ := State.topJava?_eq_some.mp hg0
  have hr' : (({ U with heap := s₂.heap, slotsUsed := s₂.slotsUsed } : State).setVm s₂.vm).frames = .java g₀ :: r := hr
  rcases hq' with ⟨hqc, L, hfe, hL⟩ | ⟨q, rfl, E, ce, L, hx, hce, hcv, hcl, hW₂, hsm, hL⟩
  · obtain ⟨⟨v, rfl⟩, hW₂, e2, q2, q3, q4, q5, q6⟩ := id hfe
    have e3 : s₂ = ({ (U.calling g mk a).setFrames s₂.frames with heap := s₂.heap, slotsUsed := s₂.slotsUsed } : State).setVm s₂.vm := by
      have : s₂ = ({ s₂ with vm := (U.calling g mk a).vm } : State).setVm s₂.vm := rfl
      rw [e2] at this
      exact this
    obtain ⟨c₂, i₂, len₂, hc₂, hd₂, hf₂⟩ := hend
    have hW' : U.WarmedH s₂.vm := hW₂
    have hcc : c₂ = c := by
      have h1 : s₂.code? g.method = U.code? g.method := by
        rw [State.code?_eq, State.code?_eq, hW'.alike.method?]
      exact Option.some.inj (hc₂.symm.trans (h1.trans h.code))
    subst hcc
    have hlen : len₂ = len := by rw [hdg] at hd₂; cases hd₂; rfl
    subst hlen
    have hs₂ : s₂ = (({ U with heap := s₂.heap, slotsUsed := s₂.slotsUsed } : State).setVm s₂.vm).setTop { g with pc := g.pc + len₂, stack := v.toList ++ g.stack } := by
      refine e3.trans ?_
      rw [hf₂, State.calling_eq h.top, State.setFrames_setFrames, State.setTop_of_frames _ hr', hr]
      rfl
    have hsame : U.sameButNew ({ U with heap := s₂.heap, slotsUsed := s₂.slotsUsed } : State) L mc ms := by
      refine ⟨?_, q2, q3, q4, q5, q6⟩
      obtain ⟨t, ht, -⟩ := State.frames_cons hr
      show ({ U with heap := s₂.heap, slotsUsed := s₂.slotsUsed } : State) = { U.setFrames U.frames with heap := s₂.heap, slotsUsed := s₂.slotsUsed }
      rw [State.setFrames_self ht]
    subst hg
    refine Or.inl ⟨v, ⟨(({ U with heap := s₂.heap, slotsUsed := s₂.slotsUsed } : State).setVm s₂.vm), Ls ++ L, c0 + mc, s0 + ms⟩,
      ⟨X.admits, X.cas, X.clock, X.frames, X.room, X.hears, X.method, X.code, (X.here.setHeapUsed s₂.heap s₂.slotsUsed).setVm hW'.alike, X.tail, State.WarmedH.trans X.warmed hW', X.limits, X.bytes, X.same.trans (hsame.setVm s.vm)⟩,
      ⟨g, mk, s₂, L, rfl, rfl, hqc, rfl, hL, rfl, rfl⟩, ?_⟩
    show Steps p.tables e below _ ((({ U with heap := s₂.heap, slotsUsed := s₂.slotsUsed } : State).setVm s₂.vm).setTop { g with pc := g.pc + len₂, stack := v.toList ++ g.stack })
    rw [← hs₂]
    exact hsteps
  · obtain ⟨e2, q2, q3, q4, q5, q6⟩ := id hsm
    have e3 : s₂ = ({ (U.calling g mk a).setFrames s₂.frames with heap := s₂.heap, slotsUsed := s₂.slotsUsed } : State).setVm s₂.vm := by
      have : s₂ = ({ s₂ with vm := (U.calling g mk a).vm } : State).setVm s₂.vm := rfl
      rw [e2] at this
      exact this
    have hf₂ : s₂.frames = .throwing q :: .java g :: U.frames.tail := hend
    have hW' : U.WarmedH s₂.vm := hW₂
    have hs₂ : s₂ = ((({ U with heap := s₂.heap, slotsUsed := s₂.slotsUsed } : State).setVm s₂.vm).setTop g).pushFrame (.throwing q) := by
      refine e3.trans ?_
      rw [hf₂, State.calling_eq h.top, State.setFrames_setFrames, State.pushFrame, State.frames_setTop _ hr', State.setTop_of_frames _ hr', State.setFrames_setFrames, hr]
      rfl
    have hsame : U.sameButNew ({ U with heap := s₂.heap, slotsUsed := s₂.slotsUsed } : State) L mc ms := by
      refine ⟨?_, q2, q3, q4, q5, q6⟩
      obtain ⟨t, ht, -⟩ := State.frames_cons hr
      show ({ U with heap := s₂.heap, slotsUsed := s₂.slotsUsed } : State) = { U.setFrames U.frames with heap := s₂.heap, slotsUsed := s₂.slotsUsed }
      rw [State.setFrames_self ht]
    subst hg
    refine Or.inr ⟨q, ⟨(({ U with heap := s₂.heap, slotsUsed := s₂.slotsUsed } : State).setVm s₂.vm), Ls ++ L, c0 + mc, s0 + ms⟩,
      ⟨X.admits, X.cas, X.clock, X.frames, X.room, X.hears, X.method, X.code, (X.here.setHeapUsed s₂.heap s₂.slotsUsed).setVm hW'.alike, X.tail, State.WarmedH.trans X.warmed hW', X.limits, X.bytes, X.same.trans (hsame.setVm s.vm)⟩,
      ⟨g, mk, s₂, L, E, ce, rfl, rfl, hx, hce, hcv, hcl, rfl, hL, rfl, rfl⟩, ?_⟩
    show Steps p.tables e below _ (((({ U with heap := s₂.heap, slotsUsed := s₂.slotsUsed } : State).setVm s₂.vm).setTop g).pushFrame (.throwing q))
    rw [← hs₂]
    exact hsteps
end
variable {p : Program} {l : Launch} {e : Env} {R : Room} {s : State} {m : MethodId} {args : Array Value} {below : List Frame} {meth : Method} {c : Code} {T : State} {H : Heap} {locs : List Loc} {cells slots : Nat}
theorem vx_callVX (X : Stand p l e R s m args below meth c T locs cells slots) (hexec : p.tables.exec = Jvm.exec) {own C : String} {index : Nat} {y : MethodName} {bytes : ByteArray} {maxL : Nat} {ret : Option FieldType} {hh : List (Nat × Nat × Nat × Nat)}
    (hown : s.vm.findClass own = some m.cls) (hlink : (Cond.methodLink own index y).before args s = true) (hinst : (Cond.instanceMethod y).before args s = true) (hsel : (Cond.selects C y y).before args s = true)
    (hcode : (Cond.codeWith y bytes maxL ret hh).before args s = true) (hy : y.cls ≠ "java/lang/invoke/MethodHandle" ∧ y.cls ≠ "java/lang/invoke/VarHandle")
    {W9 : Nat} {Pre : Pt → Array Value → Prop} {Post : Pt → Array Value → Option Value → Pt → Prop} {PostX : Pt → Array Value → Addr → Pt → Prop} (hK : vx_Back l R p e below s args y 3 W9 Pre Post PostX)
    {b : Addr} {cellB : Cell} (hcell : T.heap[b]? = some cellB) (hobj : cellB.vm.isStatics = false) (hcls : s.vm.findClass C = some cellB.cls)
    {g : JFrame} (hg : g.method = m) (hsize : g.locals.size = c.maxLocals) {argsL rest : List Value} (hlen : ∀ sig, parseMethodDescriptor y.desc = some sig → argsL.length = sig.parameters.length)
    (hstack : g.stack = argsL.reverse ++ .ref b :: rest) (hW : 2 * g.monitorRoom + (rest.map fun v => v.category).sum ≤ W9) (hdg : decode c.code g.pc = .ok (.invokevirtual index, 3))
    (hpre : ∀ vm₁, s.WarmedH vm₁ → Pre ⟨T.setVm vm₁, locs, cells, slots⟩ (Value.ref b :: argsL).toArray) :
    (∃ (v : Option Value) (vm₁ : Vm) (B : Pt), s.WarmedH vm₁ ∧ Stand p l e R s m args below meth c B.U B.locs B.cells B.slots ∧ Post ⟨T.setVm vm₁, locs, cells, slots⟩ (Value.ref b :: argsL).toArray v B ∧
      ∀ target, Steps p.tables e below (B.U.setTop { g with pc := g.pc + 3, stack := v.toList ++ rest }) target → Steps p.tables e below (T.setTop g) target) ∨
    (∃ (q : Addr) (vm₁ : Vm) (B : Pt), s.WarmedH vm₁ ∧ Stand p l e R s m args below meth c B.U B.locs B.cells B.slots ∧ PostX ⟨T.setVm vm₁, locs, cells, slots⟩ (Value.ref b :: argsL).toArray q B ∧
      Steps p.tables e below (T.setTop g) ((B.U.setTop { g with stack := rest }).pushFrame (.throwing q))) := by
  obtain ⟨mk, methM, hnamed, hmethM, hstM, habM⟩ := Cond.instanceMethod_spec hinst
  obtain ⟨m8, methM', cM, hn8, hmethM', -, -, -, -, -, -, hsigM⟩ := Cond.codeWith_spec hcode
  cases Option.some.inj (hn8.symm.trans hnamed)
  cases hmethM.symm.trans hmethM'
  obtain ⟨c2, r2, m2, q1, q2, q3, q4, kP, hkP, hkPi⟩ := Cond.selects_spec hsel
  cases hcls.symm.trans q1
  cases (State.methodFound?_of_named hnamed hy).symm.trans q2
  cases hnamed.symm.trans q3
  have hselP : selectMethod e.platform s.vm cellB.cls mk = .method mk := by rw [Launch.admits_selectMethod X.admits]; exact q4
  obtain ⟨vm₁, X₁, hstep₁⟩ := X.invokevirtual hexec hown hlink hnamed hmethM hstM hkP hkPi hy (a := b) (cell := cellB) hcell
    (fun z h => by rw [h] at hobj; cases hobj) hselP hmethM habM hkP hkPi (g := g) hg (argsL := argsL) (rest := rest) (hlen _ hsigM) hstack hdg
  rcases hK m meth c ⟨T.setVm vm₁, locs, cells, slots⟩ { g with stack := rest } (.invokevirtual index) mk (Value.ref b :: argsL).toArray X₁ hg hsize hdg hW (X₁.named hnamed) (hpre vm₁ X₁.warmed) with ⟨v, B, X', hpost, hsteps⟩ | ⟨q, B, X', hpost, hsteps⟩
  · exact Or.inl ⟨v, vm₁, B, X₁.warmed, X', hpost, fun target h => hstep₁ _ fun acts => by rw [doInvoke_state]; exact hsteps.trans h⟩
  · exact Or.inr ⟨q, vm₁, B, X₁.warmed, X', hpost, hstep₁ _ fun acts => by rw [doInvoke_state]; exact hsteps⟩
theorem vx_callSX (X : Stand p l e R s m args below meth c T locs cells slots) (hexec : p.tables.exec = Jvm.exec) {own : String} {index : Nat} {y : MethodName} {bytes : ByteArray} {maxL : Nat} {ret : Option FieldType} {hh : List (Nat × Nat × Nat × Nat)}
    (hown : s.vm.findClass own = some m.cls) (hlink : (Cond.methodLink own index y).before args s = true) (hstat : (Cond.static y).before args s = true) (hinit : (Cond.initialized y.cls).before args s = true)
    (hcode : (Cond.codeWith y bytes maxL ret hh).before args s = true) (hy : y.cls ≠ "java/lang/invoke/MethodHandle" ∧ y.cls ≠ "java/lang/invoke/VarHandle")
    {W9 : Nat} {Pre : Pt → Array Value → Prop} {Post : Pt → Array Value → Option Value → Pt → Prop} {PostX : Pt → Array Value → Addr → Pt → Prop} (hK : vx_Back l R p e below s args y 3 W9 Pre Post PostX)
    {g : JFrame} (hg : g.method = m) (hsize : g.locals.size = c.maxLocals) {argsL rest : List Value} (hlen : ∀ sig, parseMethodDescriptor y.desc = some sig → argsL.length = sig.parameters.length)
    (hstack : g.stack = argsL.reverse ++ rest) (hW : 2 * g.monitorRoom + (rest.map fun v => v.category).sum ≤ W9) (hdg : decode c.code g.pc = .ok (.invokestatic index, 3))
    (hpre : ∀ vm₁, s.WarmedH vm₁ → Pre ⟨T.setVm vm₁, locs, cells, slots⟩ argsL.toArray) :
    (∃ (v : Option Value) (vm₁ : Vm) (B : Pt), s.WarmedH vm₁ ∧ Stand p l e R s m args below meth c B.U B.locs B.cells B.slots ∧ Post ⟨T.setVm vm₁, locs, cells, slots⟩ argsL.toArray v B ∧
      ∀ target, Steps p.tables e below (B.U.setTop { g with pc := g.pc + 3, stack := v.toList ++ rest }) target → Steps p.tables e below (T.setTop g) target) ∨
    (∃ (q : Addr) (vm₁ : Vm) (B : Pt), s.WarmedH vm₁ ∧ Stand p l e R s m args below meth c B.U B.locs B.cells B.slots ∧ PostX ⟨T.setVm vm₁, locs, cells, slots⟩ argsL.toArray q B ∧
      Steps p.tables e below (T.setTop g) ((B.U.setTop { g with stack := rest }).pushFrame (.throwing q))) := by
  obtain ⟨mk, methM, cM, hnamed, hmethM, -, -, -, -, -, -, hsigM⟩ := Cond.codeWith_spec hcode
  have hstatic : methM.isStatic = true := Cond.static_spec hnamed hmethM hstat
  obtain ⟨kP, hkP, -⟩ := className_of_methodNamed hnamed
  have hinitP : kP.init = .initialized := Cond.initialized_spec (findClass_of_methodNamed hnamed) hkP hinit
  obtain ⟨vm₁, X₁, hstep₁⟩ := X.invokestatic hexec hown hlink hnamed hmethM hstatic hkP hinitP hy (g := g) hg (argsL := argsL) (rest := rest) (hlen _ hsigM) hstack hdg
  rcases hK m meth c ⟨T.setVm vm₁, locs, cells, slots⟩ { g with stack := rest } (.invokestatic index) mk argsL.toArray X₁ hg hsize hdg hW (X₁.named hnamed) (hpre vm₁ X₁.warmed) with ⟨v, B, X', hpost, hsteps⟩ | ⟨q, B, X', hpost, hsteps⟩
  · exact Or.inl ⟨v, vm₁, B, X₁.warmed, X', hpost, fun target h => hstep₁ _ fun acts => by rw [doInvoke_state]; exact hsteps.trans h⟩
  · exact Or.inr ⟨q, vm₁, B, X₁.warmed, X', hpost, hstep₁ _ fun acts => by rw [doInvoke_state]; exact hsteps⟩
theorem vx_callVW (X : Stand p l e R s m args below meth c T locs cells slots) (hexec : p.tables.exec = Jvm.exec) {own C : String} {index : Nat} {y : MethodName} {bytes : ByteArray} {maxL : Nat} {ret : Option FieldType} {hh : List (Nat × Nat × Nat × Nat)}
    (hown : s.vm.findClass own = some m.cls) (hlink : (Cond.methodLink own index y).before args s = true) (hinst : (Cond.instanceMethod y).before args s = true) (hsel : (Cond.selects C y y).before args s = true)
    (hcode : (Cond.codeWith y bytes maxL ret hh).before args s = true) (hy : y.cls ≠ "java/lang/invoke/MethodHandle" ∧ y.cls ≠ "java/lang/invoke/VarHandle")
    {W9 : Nat} {Pre : Pt → Array Value → Prop} {Post : Pt → Array Value → Option Value → Pt → Prop} (hK : Back l R p e below s args y 3 W9 Pre Post)
    {b : Addr} {cellB : Cell} (hcell : T.heap[b]? = some cellB) (hobj : cellB.vm.isStatics = false) (hcls : s.vm.findClass C = some cellB.cls)
    {g : JFrame} (hg : g.method = m) (hsize : g.locals.size = c.maxLocals) {argsL rest : List Value} (hlen : ∀ sig, parseMethodDescriptor y.desc = some sig → argsL.length = sig.parameters.length)
    (hstack : g.stack = argsL.reverse ++ .ref b :: rest) (hW : 2 * g.monitorRoom + (rest.map fun v => v.category).sum ≤ W9) (hdg : decode c.code g.pc = .ok (.invokevirtual index, 3))
    (hpre : ∀ vm₁, s.WarmedH vm₁ → Pre ⟨T.setVm vm₁, locs, cells, slots⟩ (Value.ref b :: argsL).toArray) :
    ∃ (v : Option Value) (vm₁ : Vm) (B : Pt), s.WarmedH vm₁ ∧ Stand p l e R s m args below meth c B.U B.locs B.cells B.slots ∧ Post ⟨T.setVm vm₁, locs, cells, slots⟩ (Value.ref b :: argsL).toArray v B ∧
      ∀ target, Steps p.tables e below (B.U.setTop { g with pc := g.pc + 3, stack := v.toList ++ rest }) target → Steps p.tables e below (T.setTop g) target := by
  obtain ⟨mk, methM, hnamed, hmethM, hstM, habM⟩ := Cond.instanceMethod_spec hinst
  obtain ⟨m8, methM', cM, hn8, hmethM', -, -, -, -, -, -, hsigM⟩ := Cond.codeWith_spec hcode
  cases Option.some.inj (hn8.symm.trans hnamed)
  cases hmethM.symm.trans hmethM'
  obtain ⟨c2, r2, m2, q1, q2, q3, q4, kP, hkP, hkPi⟩ := Cond.selects_spec hsel
  cases hcls.symm.trans q1
  cases (State.methodFound?_of_named hnamed hy).symm.trans q2
  cases hnamed.symm.trans q3
  have hselP : selectMethod e.platform s.vm cellB.cls mk = .method mk := by rw [Launch.admits_selectMethod X.admits]; exact q4
  obtain ⟨vm₁, X₁, hstep₁⟩ := X.invokevirtual hexec hown hlink hnamed hmethM hstM hkP hkPi hy (a := b) (cell := cellB) hcell
    (fun z h => by rw [h] at hobj; cases hobj) hselP hmethM habM hkP hkPi (g := g) hg (argsL := argsL) (rest := rest) (hlen _ hsigM) hstack hdg
  obtain ⟨v, B, X', hpost, hsteps⟩ := hK m meth c ⟨T.setVm vm₁, locs, cells, slots⟩ { g with stack := rest } (.invokevirtual index) mk (Value.ref b :: argsL).toArray X₁ hg hsize hdg hW (X₁.named hnamed) (hpre vm₁ X₁.warmed)
  exact ⟨v, vm₁, B, X₁.warmed, X', hpost, fun target h => hstep₁ _ fun acts => by rw [doInvoke_state]; exact hsteps.trans h⟩
abbrev vx_CVW (R : Room) (s : State) (args : Array Value) (own C : String) (index : Nat) (y : MethodName) (bytes : ByteArray) (maxL : Nat) (ret : Option FieldType) (hh : List (Nat × Nat × Nat × Nat)) (ws : List Cond) (rm : Room) (mc ms n : Nat) : Prop :=
  (rm.cells = mc ∧ rm.slots = ms ∧ rm.frames + 1 ≤ R.frames ∧ 8 + (maxL + 11) + rm.locals ≤ R.locals ∧ (∀ w ∈ ws, ∀ (a' : Array Value) (U : State), s.WarmedH U.vm → w.before a' U = true) ∧ Cond.codeWith y bytes maxL ret hh ∈ ws) ∧
  (Cond.codeWith y bytes maxL ret hh).before args s = true ∧ (Cond.initialized y.cls).before args s = true ∧ (y.cls ≠ "java/lang/invoke/MethodHandle" ∧ y.cls ≠ "java/lang/invoke/VarHandle") ∧
  (∀ sig, parseMethodDescriptor y.desc = some sig → n = sig.parameters.length) ∧ (Cond.methodLink own index y).before args s = true ∧ (Cond.instanceMethod y).before args s = true ∧ (Cond.selects C y y).before args s = true
theorem vx_cwVW {own C : String} {index maxL mc ms : Nat} {y : MethodName} {bytes : ByteArray} {ret : Option FieldType} {hh : List (Nat × Nat × Nat × Nat)} {Ts ws ws' : List Cond} {rm : Room} (n : Nat) (ht : ∀ w ∈ Ts, w.before args s = true) (hT : GoodIn Ts (wsV own index C y ws)) (hw : ws = Cond.codeWith y bytes maxL ret hh :: ws') (hrc : rm.cells = mc) (hrs : rm.slots = ms)
    (hd : y.cls = C ∧ y.cls ≠ "java/lang/invoke/MethodHandle" ∧ y.cls ≠ "java/lang/invoke/VarHandle" ∧ (parseMethodDescriptor y.desc).map (fun d => d.parameters.length) = some n) (hR : rm.frames + 1 ≤ R.frames ∧ 8 + (maxL + 11) + rm.locals ≤ R.locals) :
    vx_CVW R s args own C index y bytes maxL ret hh ws rm mc ms n := by
  obtain ⟨hC, hd⟩ := hd
  subst hC
  have ok : ∀ w ∈ wsV own index y.cls y ws, w.before args s = true := fun w h => ht w (hT w h).1
  have hG : GoodIn Ts ws := fun w h => hT w (by unfold wsV; exact List.mem_append_right _ h)
  have hc : Cond.codeWith y bytes maxL ret hh ∈ ws := by rw [hw]; exact List.mem_cons_self
  refine ⟨⟨hrc, hrs, hR.1, hR.2, pay_in ht hG, hc⟩, ht _ (hG _ hc).1, ok _ (by simp [wsV]), ⟨hd.1, hd.2.1⟩, fun sig h => ?_, ok _ (by simp [wsV]), ok _ (by simp [wsV]), ok _ (by simp [wsV])⟩
  have h2 := hd.2.2
  rw [h] at h2
  exact (Option.some.inj h2).symm
theorem vx_runVW {y : MethodName} {bytes cc : ByteArray} {maxL nL mc ms n index : Nat} {ret : Option FieldType} {hh : List (Nat × Nat × Nat × Nat)} {ws : List Cond} {rm : Room} {Pc : Array Value → State → Prop} {Qc : Array Value → State → Outcome → State → Prop} {free : Addr → Prop} {Ts : List Cond} {own C : String} {b : Addr} {As rest : List Value} {g : JFrame}
    (S : CallFix p m c cc nL s args Ts own) (hM : Met l y ws rm Pc Qc mc ms free) (cw : vx_CVW R s args own C index y bytes maxL ret hh ws rm mc ms n) (hp : PreV s H C b Pc As)
    (hg : g.method = m) (hn : As.length = n) (hsize : g.locals.size = nL) (hstack : g.stack = As.reverse ++ .ref b :: rest) (hW : 2 * g.monitorRoom + (rest.map fun v => v.category).sum ≤ 8) (hdg : decode cc g.pc = .ok (.invokevirtual index, 3)) (hf : cells + mc ≤ R.cells ∧ slots + ms ≤ R.slots) :
    va_Run p l e R s m args below meth c H locs cells slots mc ms g rest (Qc (Value.ref b :: As).toArray) free := by
  obtain ⟨⟨hrc, hrs, hfr, hlo, hws, hcw⟩, hcode, hini, hy, hlen, hl, hin, hse⟩ := cw
  have hK : Back l R p e below s args y 3 8 (PreOf R mc ms Pc) (PostOf Qc mc ms free) := va_backW (hh := hh) (bytes := bytes) (maxL := maxL) (ret := ret) hM hp.1 hrc hrs hfr hlo hws hcw (fun a' U hW => word_at hW (Or.inl (by first | rfl | simp [Cond.onTables, Cond.keeps, Cond.steady])) hini)
  obtain ⟨hx, hb, hml, ho, -⟩ := S
  obtain ⟨-, ⟨cellB, hcB, hoB, hclB⟩, hPc⟩ := hp
  intro T hT X
  obtain ⟨v, vm₁, ⟨U', l2, c2, s2⟩, hW₁, X', ⟨g', mk, t, L, e1, e2, hq, h1, hL, h2, h3⟩, st⟩ := vx_callVW X hx (C := C) (hh := hh) (bytes := bytes) (maxL := maxL) (ret := ret) ho hl hin hse hcode hy hK (by rw [hT]; exact hcB) hoB hclB hg (hsize.trans hml.symm) (argsL := As) (rest := rest) (fun sig h => hn.trans (hlen sig h)) hstack hW (by rw [hb]; exact hdg)
    (fun vm₁ hW₁ => ⟨hf.1, hf.2, hPc (T.setVm vm₁) hT hW₁⟩)
  dsimp only [Pt.U, Pt.locs, Pt.cells, Pt.slots] at X' e1 e2 h1 h2 h3 st
  subst h1; subst h2; subst h3
  exact ⟨v, (T.setVm vm₁).calling g' mk (Value.ref b :: As).toArray, t, U', L, hT, X', hL, e1, e2, hq, st⟩
section
variable {y : MethodName} {bytes cc : ByteArray} {maxL nL mc ms n index : Nat} {ret : Option FieldType} {ws : List Cond} {rm : Room} {Pc : Array Value → State → Prop} {Qc : Array Value → State → Outcome → State → Prop} {XC : String → State → State → Prop} {free : Addr → Prop} {Ts : List Cond} {own C : String} {b : Addr} {As rest : List Value} {g : JFrame}
theorem vx_runVX {hh : List (Nat × Nat × Nat × Nat)} (S : CallFix p m c cc nL s args Ts own) (hM : vx_Met l y ws rm Pc Qc XC mc ms free) (cw : vx_CVW R s args own C index y bytes maxL ret hh ws rm mc ms n) (hp : PreV s H C b Pc As)
    (hg : g.method = m) (hn : As.length = n) (hsize : g.locals.size = nL) (hstack : g.stack = As.reverse ++ .ref b :: rest) (hW : 2 * g.monitorRoom + (rest.map fun v => v.category).sum ≤ 8) (hdg : decode cc g.pc = .ok (.invokevirtual index, 3)) (hf : cells + mc ≤ R.cells ∧ slots + ms ≤ R.slots) :
    vx_Run p l e R s m args below meth c H locs cells slots mc ms g rest (Qc (Value.ref b :: As).toArray) XC free := by
  obtain ⟨⟨hrc, hrs, hfr, hlo, hws, hcw⟩, hcode, hini, hy, hlen, hl, hin, hse⟩ := cw
  have hK : vx_Back l R p e below s args y 3 8 (PreOf R mc ms Pc) (PostOf Qc mc ms free) (vx_Post XC mc ms free) := vx_backW (hh := hh) (bytes := bytes) (maxL := maxL) (ret := ret) hM hp.1 hrc hrs hfr hlo hws hcw (fun a' U hW => word_at hW (Or.inl (by first | rfl | simp [Cond.onTables, Cond.keeps, Cond.steady])) hini)
  obtain ⟨hx, hb, hml, ho, -⟩ := S
  obtain ⟨-, ⟨cellB, hcB, hoB, hclB⟩, hPc⟩ := hp
  intro T hT X
  rcases vx_callVX X hx (C := C) (hh := hh) (bytes := bytes) (maxL := maxL) (ret := ret) ho hl hin hse hcode hy hK (by rw [hT]; exact hcB) hoB hclB hg (hsize.trans hml.symm) (argsL := As) (rest := rest) (fun sig h => hn.trans (hlen sig h)) hstack hW (by rw [hb]; exact hdg)
    (fun vm₁ hW₁ => ⟨hf.1, hf.2, hPc (T.setVm vm₁) hT hW₁⟩) with ⟨v, vm₁, ⟨U', l2, c2, s2⟩, hW₁, X', ⟨g', mk, t, L, e1, e2, hq, h1, hL, h2, h3⟩, st⟩ | ⟨q, vm₁, ⟨U', l2, c2, s2⟩, hW₁, X', ⟨g', mk, t, L, E, ce, e1, e2, hq, hce, hcv, hcl, h1, hL, h2, h3⟩, st⟩
  · dsimp only [Pt.U, Pt.locs, Pt.cells, Pt.slots] at X' e1 e2 h1 h2 h3 st
    subst h1; subst h2; subst h3
    exact Or.inl ⟨v, (T.setVm vm₁).calling g' mk (Value.ref b :: As).toArray, t, U', L, hT, X', hL, e1, e2, hq, st⟩
  · dsimp only [Pt.U, Pt.locs, Pt.cells, Pt.slots] at X' e1 e2 h1 h2 h3 st hcl
    subst h1; subst h2; subst h3
    exact Or.inr ⟨q, (T.setVm vm₁).calling g' mk (Value.ref b :: As).toArray, t, U', L, E, ce, hT, X', hL, e1, e2, hq, hce, hcv, vx_cls hW₁ hcl, st⟩
theorem vx_runSX {hh : List (Nat × Nat × Nat × Nat)} (S : CallFix p m c cc nL s args Ts own) (hM : vx_Met l y ws rm Pc Qc XC mc ms free) (cw : vx_CSW R s args own index y bytes maxL ret hh ws rm mc ms n) (hp : PreS s H Pc As)
    (hg : g.method = m) (hn : As.length = n) (hsize : g.locals.size = nL) (hstack : g.stack = As.reverse ++ rest) (hW : 2 * g.monitorRoom + (rest.map fun v => v.category).sum ≤ 8) (hdg : decode cc g.pc = .ok (.invokestatic index, 3)) (hf : cells + mc ≤ R.cells ∧ slots + ms ≤ R.slots) :
    vx_Run p l e R s m args below meth c H locs cells slots mc ms g rest (Qc As.toArray) XC free := by
  obtain ⟨⟨hrc, hrs, hfr, hlo, hws, hcw⟩, hcode, hini, hy, hlen, hl, hstt⟩ := cw
  have hK : vx_Back l R p e below s args y 3 8 (PreOf R mc ms Pc) (PostOf Qc mc ms free) (vx_Post XC mc ms free) := vx_backW (hh := hh) (bytes := bytes) (maxL := maxL) (ret := ret) hM hp.1 hrc hrs hfr hlo hws hcw (fun a' U hW => word_at hW (Or.inl (by first | rfl | simp [Cond.onTables, Cond.keeps, Cond.steady])) hini)
  obtain ⟨hx, hb, hml, ho, -⟩ := S
  intro T hT X
  rcases vx_callSX X hx (hh := hh) (bytes := bytes) (maxL := maxL) (ret := ret) ho hl hstt hini hcode hy hK hg (hsize.trans hml.symm) (argsL := As) (rest := rest) (fun sig h => hn.trans (hlen sig h)) hstack hW (by rw [hb]; exact hdg)
    (fun vm₁ hW₁ => ⟨hf.1, hf.2, hp.2 (T.setVm vm₁) hT hW₁⟩) with ⟨v, vm₁, ⟨U', l2, c2, s2⟩, hW₁, X', ⟨g', mk, t, L, e1, e2, hq, h1, hL, h2, h3⟩, st⟩ | ⟨q, vm₁, ⟨U', l2, c2, s2⟩, hW₁, X', ⟨g', mk, t, L, E, ce, e1, e2, hq, hce, hcv, hcl, h1, hL, h2, h3⟩, st⟩
  · dsimp only [Pt.U, Pt.locs, Pt.cells, Pt.slots] at X' e1 e2 h1 h2 h3 st
    subst h1; subst h2; subst h3
    exact Or.inl ⟨v, (T.setVm vm₁).calling g' mk As.toArray, t, U', L, hT, X', hL, e1, e2, hq, st⟩
  · dsimp only [Pt.U, Pt.locs, Pt.cells, Pt.slots] at X' e1 e2 h1 h2 h3 st hcl
    subst h1; subst h2; subst h3
    exact Or.inr ⟨q, (T.setVm vm₁).calling g' mk As.toArray, t, U', L, E, ce, hT, X', hL, e1, e2, hq, hce, hcv, vx_cls hW₁ hcl, st⟩
end
end VXH
theorem vx_ofWH {l : Launch} {y : MethodName} {ws ws' : List Cond} {rm : Room} {Pc : Array Value → State → Prop} {Qc : Array Value → State → Outcome → State → Prop} {XC : String → State → State → Prop} {mc ms : Nat} {free : Addr → Prop} {cc : ByteArray} {maxL : Nat} {ret : Option FieldType} {hh : List (Nat × Nat × Nat × Nat)}
    (hy : plainName y.cls = true) (hw : ws = Cond.codeWith y cc maxL ret hh :: ws')
    (body : ∀ p e s m args below meth c s₁, BodyLoose p l y (headSpec ws rm) cc maxL ret e s m args below meth c s₁ → c.maxLocals = maxL → Pc args s →
      W p l e (headSpec ws rm).room s m args below meth c s.heap [] 0 0 (vx_MQ below Qc XC args s mc ms free) (entryFrame m args maxL)) : vx_Met l y ws rm Pc Qc XC mc ms free := by
  refine MetFree.of_bodyS (code := cc) (maxLocals := maxL) (ret := ret) hy ?_ ?_
  · intro args s m h hn
    obtain ⟨m9, meth, c, hn9, h1, h2, h3, h4, -, h5, h6, -⟩ := Cond.codeWith_spec (atoms_spec (ws := ws) h _ (by rw [hw]; exact List.mem_cons_self))
    cases hn.symm.trans hn9
    exact ⟨meth, c, h1, h2, h3, h4, h5, h6⟩
  · intro p e s m args below meth c s₁ B hml hP _
    have hh0 : s₁.heap = s.heap := by rw [B.state]; rfl
    obtain ⟨t, a1, o, b1, b2, b3⟩ := body p e s m args below meth c s₁ B hml hP s₁ hh0 (Stand.of_body B)
    exact ⟨t, o, a1, b1, b2, b3⟩
/-! ===== END ===== -/
end
section
/-! ===== BEGIN printed: names, fields, word lists, decode rows ===== -/
def RX0 : String := "TwoTownAlmanac$DateText"
def TX0 : u_T := fun k => match k with
  | 0 => ("TwoTownAlmanac$DateText", "codes", "[I", true)
  | _ => ("TwoTownAlmanac$DateText", "length", "I", false)
def tyX0 : Nat → FieldType := fun k => match k with
  | 0 => .array .int
  | _ => .int
abbrev wsX00 : List Cond := u_ws RX0 TX0 2
theorem nmX0 : ∀ a, a < 2 → ∀ b, b < 2 → a ≠ b → (TX0 a).2.1 ≠ (TX0 b).2.1 := by decide +kernel
theorem tyX0_ok : ∀ k, k < 2 → parseFieldDescriptor (TX0 k).2.2.1 = some (tyX0 k) := by decide +kernel
abbrev cX0_init : ByteArray := prog_2_method_1_code
def yX0_init : MethodName := ⟨RX0, "<init>", "()V"⟩
abbrev cX0_put : ByteArray := prog_2_method_2_code
def yX0_put : MethodName := ⟨RX0, "put", "(I)V"⟩
abbrev cX0_putNumber : ByteArray := prog_2_method_3_code
def yX0_putNumber : MethodName := ⟨RX0, "putNumber", "(I)V"⟩
abbrev cX0_firstError : ByteArray := prog_2_method_4_code
def yX0_firstError : MethodName := ⟨RX0, "firstError", "()I"⟩
abbrev cX0_fits : ByteArray := prog_2_method_5_code
def yX0_fits : MethodName := ⟨RX0, "fits", "(III)Z"⟩
abbrev cX0_town : ByteArray := prog_2_method_6_code
def yX0_town : MethodName := ⟨RX0, "town", "()I"⟩
abbrev cX0_number : ByteArray := prog_2_method_7_code
def yX0_number : MethodName := ⟨RX0, "number", "(I)I"⟩
def RX1 : String := "TwoTownAlmanac$Feast"
def TX1 : u_T := fun k => match k with
  | 0 => ("TwoTownAlmanac$Feast", "town", "I", false)
  | 1 => ("TwoTownAlmanac$Feast", "month", "I", false)
  | 2 => ("TwoTownAlmanac$Feast", "dayOfMonth", "I", false)
  | _ => ("TwoTownAlmanac$Feast", "barred", "I", false)
def tyX1 : Nat → FieldType := fun k => match k with
  | 0 => .int
  | 1 => .int
  | 2 => .int
  | _ => .int
abbrev wsX10 : List Cond := u_ws RX1 TX1 4
theorem nmX1 : ∀ a, a < 4 → ∀ b, b < 4 → a ≠ b → (TX1 a).2.1 ≠ (TX1 b).2.1 := by decide +kernel
theorem tyX1_ok : ∀ k, k < 4 → parseFieldDescriptor (TX1 k).2.2.1 = some (tyX1 k) := by decide +kernel
abbrev cX1_init : ByteArray := prog_3_method_1_code
def yX1_init : MethodName := ⟨RX1, "<init>", "()V"⟩
abbrev cX1_copyFrom : ByteArray := prog_3_method_2_code
def yX1_copyFrom : MethodName := ⟨RX1, "copyFrom", "(LTwoTownAlmanac$Feast;)V"⟩
def RX2 : String := "TwoTownAlmanac$State"
def TX2 : u_T := fun k => match k with
  | 0 => ("TwoTownAlmanac$State", "townA", "LTwoTownAlmanac$Town;", true)
  | 1 => ("TwoTownAlmanac$State", "townB", "LTwoTownAlmanac$Town;", true)
  | 2 => ("TwoTownAlmanac$State", "feasts", "[LTwoTownAlmanac$Feast;", true)
  | 3 => ("TwoTownAlmanac$State", "feastsAdded", "I", false)
  | 4 => ("TwoTownAlmanac$State", "shiftDays", "I", false)
  | 5 => ("TwoTownAlmanac$State", "copiesEachDay", "I", false)
  | 6 => ("TwoTownAlmanac$State", "dayNow", "I", false)
  | 7 => ("TwoTownAlmanac$State", "quarrels", "I", false)
  | _ => ("TwoTownAlmanac$State", "copies", "I", false)
def tyX2 : Nat → FieldType := fun k => match k with
  | 0 => .object "TwoTownAlmanac$Town"
  | 1 => .object "TwoTownAlmanac$Town"
  | 2 => .array (.object "TwoTownAlmanac$Feast")
  | 3 => .int
  | 4 => .int
  | 5 => .int
  | 6 => .int
  | 7 => .int
  | _ => .int
abbrev wsX20 : List Cond := u_ws RX2 TX2 9
theorem nmX2 : ∀ a, a < 9 → ∀ b, b < 9 → a ≠ b → (TX2 a).2.1 ≠ (TX2 b).2.1 := by decide +kernel
theorem tyX2_ok : ∀ k, k < 9 → parseFieldDescriptor (TX2 k).2.2.1 = some (tyX2 k) := by decide +kernel
abbrev cX2_init : ByteArray := prog_4_method_1_code
def yX2_init : MethodName := ⟨RX2, "<init>", "()V"⟩
abbrev cX2_copyFrom : ByteArray := prog_4_method_2_code
def yX2_copyFrom : MethodName := ⟨RX2, "copyFrom", "(LTwoTownAlmanac$State;)V"⟩
abbrev cX2_townWith : ByteArray := prog_4_method_3_code
def yX2_townWith : MethodName := ⟨RX2, "townWith", "(I)LTwoTownAlmanac$Town;"⟩
abbrev cX2_putFeast : ByteArray := prog_4_method_4_code
def yX2_putFeast : MethodName := ⟨RX2, "putFeast", "(III)I"⟩
abbrev cX2_keptIn : ByteArray := prog_4_method_5_code
def yX2_keptIn : MethodName := ⟨RX2, "keptIn", "(LTwoTownAlmanac$Feast;I)I"⟩
abbrev cX2_firstYearFor : ByteArray := prog_4_method_6_code
def yX2_firstYearFor : MethodName := ⟨RX2, "firstYearFor", "(LTwoTownAlmanac$Feast;I)I"⟩
abbrev cX2_firstKept : ByteArray := prog_4_method_7_code
def yX2_firstKept : MethodName := ⟨RX2, "firstKept", "(LTwoTownAlmanac$Feast;II)I"⟩
abbrev cX2_firstMeeting : ByteArray := prog_4_method_8_code
def yX2_firstMeeting : MethodName := ⟨RX2, "firstMeeting", "(LTwoTownAlmanac$Feast;LTwoTownAlmanac$Feast;II)I"⟩
abbrev cX2_markFeasts : ByteArray := prog_4_method_9_code
def yX2_markFeasts : MethodName := ⟨RX2, "markFeasts", "([III)V"⟩
abbrev cX2_feastsOf : ByteArray := prog_4_method_10_code
def yX2_feastsOf : MethodName := ⟨RX2, "feastsOf", "(I)I"⟩
abbrev cX2_countQuarrels : ByteArray := prog_4_method_11_code
def yX2_countQuarrels : MethodName := ⟨RX2, "countQuarrels", "([II)I"⟩
abbrev cX2_countPassed : ByteArray := prog_4_method_12_code
def yX2_countPassed : MethodName := ⟨RX2, "countPassed", "([II)V"⟩
def RX3 : String := "TwoTownAlmanac$Town"
def TX3 : u_T := fun k => match k with
  | 0 => ("TwoTownAlmanac$Town", "isA", "Z", true)
  | 1 => ("TwoTownAlmanac$Town", "gapDays", "[I", true)
  | 2 => ("TwoTownAlmanac$Town", "gapLengths", "[I", true)
  | 3 => ("TwoTownAlmanac$Town", "gaps", "I", false)
  | _ => ("TwoTownAlmanac$Town", "keptCount", "I", false)
def tyX3 : Nat → FieldType := fun k => match k with
  | 0 => .boolean
  | 1 => .array .int
  | 2 => .array .int
  | 3 => .int
  | _ => .int
abbrev wsX30 : List Cond := u_ws RX3 TX3 5
theorem nmX3 : ∀ a, a < 5 → ∀ b, b < 5 → a ≠ b → (TX3 a).2.1 ≠ (TX3 b).2.1 := by decide +kernel
theorem tyX3_ok : ∀ k, k < 5 → parseFieldDescriptor (TX3 k).2.2.1 = some (tyX3 k) := by decide +kernel
abbrev cX3_init : ByteArray := prog_5_method_1_code
def yX3_init : MethodName := ⟨RX3, "<init>", "(I)V"⟩
abbrev cX3_copyFrom : ByteArray := prog_5_method_2_code
def yX3_copyFrom : MethodName := ⟨RX3, "copyFrom", "(LTwoTownAlmanac$Town;)V"⟩
abbrev cX3_latestGapDay : ByteArray := prog_5_method_3_code
def yX3_latestGapDay : MethodName := ⟨RX3, "latestGapDay", "()I"⟩
abbrev cX3_leaveOut : ByteArray := prog_5_method_4_code
def yX3_leaveOut : MethodName := ⟨RX3, "leaveOut", "(II)I"⟩
abbrev cX3_daysInMonth : ByteArray := prog_5_method_5_code
def yX3_daysInMonth : MethodName := ⟨RX3, "daysInMonth", "(I)I"⟩
abbrev cX3_daysBeforeMonth : ByteArray := prog_5_method_6_code
def yX3_daysBeforeMonth : MethodName := ⟨RX3, "daysBeforeMonth", "(I)I"⟩
abbrev cX3_daysInYear : ByteArray := prog_5_method_7_code
def yX3_daysInYear : MethodName := ⟨RX3, "daysInYear", "()I"⟩
abbrev cX3_dateOf : ByteArray := prog_5_method_8_code
def yX3_dateOf : MethodName := ⟨RX3, "dateOf", "(III)I"⟩
abbrev cX3_dateOn : ByteArray := prog_5_method_9_code
def yX3_dateOn : MethodName := ⟨RX3, "dateOn", "(I)I"⟩
abbrev cX3_dayInYearOn : ByteArray := prog_5_method_10_code
def yX3_dayInYearOn : MethodName := ⟨RX3, "dayInYearOn", "(I)I"⟩
abbrev cX3_yearOn : ByteArray := prog_5_method_11_code
def yX3_yearOn : MethodName := ⟨RX3, "yearOn", "(I)I"⟩
abbrev cX3_monthOn : ByteArray := prog_5_method_12_code
def yX3_monthOn : MethodName := ⟨RX3, "monthOn", "(I)I"⟩
abbrev cX3_dayOfMonthOn : ByteArray := prog_5_method_13_code
def yX3_dayOfMonthOn : MethodName := ⟨RX3, "dayOfMonthOn", "(I)I"⟩
abbrev cX3_firstDayFrom : ByteArray := prog_5_method_14_code
def yX3_firstDayFrom : MethodName := ⟨RX3, "firstDayFrom", "(I)I"⟩
abbrev cX3_dayWithDate : ByteArray := prog_5_method_15_code
def yX3_dayWithDate : MethodName := ⟨RX3, "dayWithDate", "(III)I"⟩
abbrev cX3_dueIn : ByteArray := prog_5_method_16_code
def yX3_dueIn : MethodName := ⟨RX3, "dueIn", "(LTwoTownAlmanac$Feast;I)I"⟩
def RX4 : String := "TwoTownAlmanac"
def TX4 : u_T := fun k => match k with
  | 0 => ("TwoTownAlmanac", "state", "LTwoTownAlmanac$State;", true)
  | 1 => ("TwoTownAlmanac", "recorded", "[LTwoTownAlmanac$State;", true)
  | 2 => ("TwoTownAlmanac", "recordedCount", "I", false)
  | 3 => ("TwoTownAlmanac", "slots", "[LTwoTownAlmanac$State;", true)
  | 4 => ("TwoTownAlmanac", "slotIsFilled", "[Z", true)
  | 5 => ("TwoTownAlmanac", "text", "LTwoTownAlmanac$DateText;", true)
  | _ => ("TwoTownAlmanac", "feastSets", "[I", true)
def tyX4 : Nat → FieldType := fun k => match k with
  | 0 => .object "TwoTownAlmanac$State"
  | 1 => .array (.object "TwoTownAlmanac$State")
  | 2 => .int
  | 3 => .array (.object "TwoTownAlmanac$State")
  | 4 => .array .boolean
  | 5 => .object "TwoTownAlmanac$DateText"
  | _ => .array .int
abbrev wsX40 : List Cond := u_ws RX4 TX4 7
theorem nmX4 : ∀ a, a < 7 → ∀ b, b < 7 → a ≠ b → (TX4 a).2.1 ≠ (TX4 b).2.1 := by decide +kernel
theorem tyX4_ok : ∀ k, k < 7 → parseFieldDescriptor (TX4 k).2.2.1 = some (tyX4 k) := by decide +kernel
abbrev cX4_init : ByteArray := prog_1_method_1_code
def yX4_init : MethodName := ⟨RX4, "<init>", "()V"⟩
abbrev cX4_addGap : ByteArray := prog_1_method_2_code
def yX4_addGap : MethodName := ⟨RX4, "addGap", "(III)I"⟩
abbrev cX4_gapCount : ByteArray := prog_1_method_3_code
def yX4_gapCount : MethodName := ⟨RX4, "gapCount", "(I)I"⟩
abbrev cX4_gapDay : ByteArray := prog_1_method_4_code
def yX4_gapDay : MethodName := ⟨RX4, "gapDay", "(II)I"⟩
abbrev cX4_gapLength : ByteArray := prog_1_method_5_code
def yX4_gapLength : MethodName := ⟨RX4, "gapLength", "(II)I"⟩
abbrev cX4_monthLength : ByteArray := prog_1_method_6_code
def yX4_monthLength : MethodName := ⟨RX4, "monthLength", "(II)I"⟩
abbrev cX4_dayOfMonth : ByteArray := prog_1_method_7_code
def yX4_dayOfMonth : MethodName := ⟨RX4, "dayOfMonth", "(II)I"⟩
abbrev cX4_monthOf : ByteArray := prog_1_method_8_code
def yX4_monthOf : MethodName := ⟨RX4, "monthOf", "(II)I"⟩
abbrev cX4_yearOf : ByteArray := prog_1_method_9_code
def yX4_yearOf : MethodName := ⟨RX4, "yearOf", "(II)I"⟩
abbrev cX4_weekday : ByteArray := prog_1_method_10_code
def yX4_weekday : MethodName := ⟨RX4, "weekday", "(I)I"⟩
abbrev cX4_dayOfDate : ByteArray := prog_1_method_11_code
def yX4_dayOfDate : MethodName := ⟨RX4, "dayOfDate", "(IIII)I"⟩
abbrev cX4_addFeast : ByteArray := prog_1_method_12_code
def yX4_addFeast : MethodName := ⟨RX4, "addFeast", "(III)I"⟩
abbrev cX4_barWeekday : ByteArray := prog_1_method_13_code
def yX4_barWeekday : MethodName := ⟨RX4, "barWeekday", "(II)I"⟩
abbrev cX4_allowAllWeekdays : ByteArray := prog_1_method_14_code
def yX4_allowAllWeekdays : MethodName := ⟨RX4, "allowAllWeekdays", "(I)I"⟩
abbrev cX4_feastCount : ByteArray := prog_1_method_15_code
def yX4_feastCount : MethodName := ⟨RX4, "feastCount", "()I"⟩
abbrev cX4_feastTown : ByteArray := prog_1_method_16_code
def yX4_feastTown : MethodName := ⟨RX4, "feastTown", "(I)I"⟩
abbrev cX4_barredWeekday : ByteArray := prog_1_method_17_code
def yX4_barredWeekday : MethodName := ⟨RX4, "barredWeekday", "(I)I"⟩
abbrev cX4_dayDue : ByteArray := prog_1_method_18_code
def yX4_dayDue : MethodName := ⟨RX4, "dayDue", "(II)I"⟩
abbrev cX4_dayKept : ByteArray := prog_1_method_19_code
def yX4_dayKept : MethodName := ⟨RX4, "dayKept", "(II)I"⟩
abbrev cX4_isKept : ByteArray := prog_1_method_20_code
def yX4_isKept : MethodName := ⟨RX4, "isKept", "(II)Z"⟩
abbrev cX4_feastsOn : ByteArray := prog_1_method_21_code
def yX4_feastsOn : MethodName := ⟨RX4, "feastsOn", "(I)I"⟩
abbrev cX4_isQuarrel : ByteArray := prog_1_method_22_code
def yX4_isQuarrel : MethodName := ⟨RX4, "isQuarrel", "(I)Z"⟩
abbrev cX4_setShift : ByteArray := prog_1_method_23_code
def yX4_setShift : MethodName := ⟨RX4, "setShift", "(I)I"⟩
abbrev cX4_shift : ByteArray := prog_1_method_24_code
def yX4_shift : MethodName := ⟨RX4, "shift", "()I"⟩
abbrev cX4_setCopiesPerDay : ByteArray := prog_1_method_25_code
def yX4_setCopiesPerDay : MethodName := ⟨RX4, "setCopiesPerDay", "(I)I"⟩
abbrev cX4_copiesPerDay : ByteArray := prog_1_method_26_code
def yX4_copiesPerDay : MethodName := ⟨RX4, "copiesPerDay", "()I"⟩
abbrev cX4_passDays : ByteArray := prog_1_method_27_code
def yX4_passDays : MethodName := ⟨RX4, "passDays", "(I)I"⟩
abbrev cX4_today : ByteArray := prog_1_method_28_code
def yX4_today : MethodName := ⟨RX4, "today", "()I"⟩
abbrev cX4_feastsKept : ByteArray := prog_1_method_29_code
def yX4_feastsKept : MethodName := ⟨RX4, "feastsKept", "(I)I"⟩
abbrev cX4_quarrelCount : ByteArray := prog_1_method_30_code
def yX4_quarrelCount : MethodName := ⟨RX4, "quarrelCount", "()I"⟩
abbrev cX4_copiesMade : ByteArray := prog_1_method_31_code
def yX4_copiesMade : MethodName := ⟨RX4, "copiesMade", "()I"⟩
abbrev cX4_nextDay : ByteArray := prog_1_method_32_code
def yX4_nextDay : MethodName := ⟨RX4, "nextDay", "(I)I"⟩
abbrev cX4_daysUntilMeeting : ByteArray := prog_1_method_33_code
def yX4_daysUntilMeeting : MethodName := ⟨RX4, "daysUntilMeeting", "(II)I"⟩
abbrev cX4_quarrelsWithin : ByteArray := prog_1_method_34_code
def yX4_quarrelsWithin : MethodName := ⟨RX4, "quarrelsWithin", "(I)I"⟩
abbrev cX4_bestBarredWeekday : ByteArray := prog_1_method_35_code
def yX4_bestBarredWeekday : MethodName := ⟨RX4, "bestBarredWeekday", "(I)I"⟩
abbrev cX4_appendText : ByteArray := prog_1_method_36_code
def yX4_appendText : MethodName := ⟨RX4, "appendText", "(J)I"⟩
abbrev cX4_clearText : ByteArray := prog_1_method_37_code
def yX4_clearText : MethodName := ⟨RX4, "clearText", "()I"⟩
abbrev cX4_textLength : ByteArray := prog_1_method_38_code
def yX4_textLength : MethodName := ⟨RX4, "textLength", "()I"⟩
abbrev cX4_textError : ByteArray := prog_1_method_39_code
def yX4_textError : MethodName := ⟨RX4, "textError", "()I"⟩
abbrev cX4_textCharacter : ByteArray := prog_1_method_40_code
def yX4_textCharacter : MethodName := ⟨RX4, "textCharacter", "(I)I"⟩
abbrev cX4_dayOfText : ByteArray := prog_1_method_41_code
def yX4_dayOfText : MethodName := ⟨RX4, "dayOfText", "()I"⟩
abbrev cX4_writeDate : ByteArray := prog_1_method_42_code
def yX4_writeDate : MethodName := ⟨RX4, "writeDate", "(II)I"⟩
abbrev cX4_undo : ByteArray := prog_1_method_43_code
def yX4_undo : MethodName := ⟨RX4, "undo", "()I"⟩
abbrev cX4_undoCount : ByteArray := prog_1_method_44_code
def yX4_undoCount : MethodName := ⟨RX4, "undoCount", "()I"⟩
abbrev cX4_saveState : ByteArray := prog_1_method_45_code
def yX4_saveState : MethodName := ⟨RX4, "saveState", "(I)I"⟩
abbrev cX4_loadState : ByteArray := prog_1_method_46_code
def yX4_loadState : MethodName := ⟨RX4, "loadState", "(I)I"⟩
abbrev cX4_requireRange : ByteArray := prog_1_method_47_code
def yX4_requireRange : MethodName := ⟨RX4, "requireRange", "(III)V"⟩
abbrev cX4_requireIndex : ByteArray := prog_1_method_48_code
def yX4_requireIndex : MethodName := ⟨RX4, "requireIndex", "(II)V"⟩
abbrev cX4_requireTown : ByteArray := prog_1_method_49_code
def yX4_requireTown : MethodName := ⟨RX4, "requireTown", "(I)LTwoTownAlmanac$Town;"⟩
abbrev cX4_requireFeast : ByteArray := prog_1_method_50_code
def yX4_requireFeast : MethodName := ⟨RX4, "requireFeast", "(I)LTwoTownAlmanac$Feast;"⟩
abbrev cX4_recordState : ByteArray := prog_1_method_51_code
def yX4_recordState : MethodName := ⟨RX4, "recordState", "()V"⟩
abbrev cX4_dropOldestRecorded : ByteArray := prog_1_method_52_code
def yX4_dropOldestRecorded : MethodName := ⟨RX4, "dropOldestRecorded", "()V"⟩
abbrev cX4_quarrelsFrom : ByteArray := prog_1_method_53_code
def yX4_quarrelsFrom : MethodName := ⟨RX4, "quarrelsFrom", "(II)I"⟩
abbrev cX4_charactersIn : ByteArray := prog_1_method_54_code
def yX4_charactersIn : MethodName := ⟨RX4, "charactersIn", "(J)I"⟩
abbrev cX4_codeAt : ByteArray := prog_1_method_55_code
def yX4_codeAt : MethodName := ⟨RX4, "codeAt", "(JI)I"⟩
def RX5 : String := "TwoTownAlmanacModel"
def TX5 : u_T := fun k => match k with
  | 0 => ("TwoTownAlmanacModel", "row", "[I", true)
  | 1 => ("TwoTownAlmanacModel", "history", "[I", true)
  | 2 => ("TwoTownAlmanacModel", "states", "I", false)
  | 3 => ("TwoTownAlmanacModel", "slots", "[I", true)
  | 4 => ("TwoTownAlmanacModel", "isSaved", "[Z", true)
  | 5 => ("TwoTownAlmanacModel", "thrown", "I", false)
  | 6 => ("TwoTownAlmanacModel", "text", "[I", true)
  | 7 => ("TwoTownAlmanacModel", "length", "I", false)
  | 8 => ("TwoTownAlmanacModel", "spot", "I", false)
  | _ => ("TwoTownAlmanacModel", "numbers", "[I", true)
def tyX5 : Nat → FieldType := fun k => match k with
  | 0 => .array .int
  | 1 => .array .int
  | 2 => .int
  | 3 => .array .int
  | 4 => .array .boolean
  | 5 => .int
  | 6 => .array .int
  | 7 => .int
  | 8 => .int
  | _ => .array .int
abbrev wsX50 : List Cond := u_ws RX5 TX5 10
theorem nmX5 : ∀ a, a < 10 → ∀ b, b < 10 → a ≠ b → (TX5 a).2.1 ≠ (TX5 b).2.1 := by decide +kernel
theorem tyX5_ok : ∀ k, k < 10 → parseFieldDescriptor (TX5 k).2.2.1 = some (tyX5 k) := by decide +kernel
abbrev cX5_init : ByteArray := prog_7_method_1_code
def yX5_init : MethodName := ⟨RX5, "<init>", "()V"⟩
abbrev cX5_thrown : ByteArray := prog_7_method_2_code
def yX5_thrown : MethodName := ⟨RX5, "thrown", "()I"⟩
abbrev cX5_fails : ByteArray := prog_7_method_3_code
def yX5_fails : MethodName := ⟨RX5, "fails", "(I)I"⟩
abbrev cX5_in : ByteArray := prog_7_method_4_code
def yX5_in : MethodName := ⟨RX5, "in", "(III)Z"⟩
abbrev cX5_isTown : ByteArray := prog_7_method_5_code
def yX5_isTown : MethodName := ⟨RX5, "isTown", "(I)Z"⟩
abbrev cX5_isFeast : ByteArray := prog_7_method_6_code
def yX5_isFeast : MethodName := ⟨RX5, "isFeast", "(I)Z"⟩
abbrev cX5_gaps : ByteArray := prog_7_method_7_code
def yX5_gaps : MethodName := ⟨RX5, "gaps", "(I)I"⟩
abbrev cX5_gap : ByteArray := prog_7_method_8_code
def yX5_gap : MethodName := ⟨RX5, "gap", "(III)I"⟩
abbrev cX5_feast : ByteArray := prog_7_method_9_code
def yX5_feast : MethodName := ⟨RX5, "feast", "(II)I"⟩
abbrev cX5_record : ByteArray := prog_7_method_10_code
def yX5_record : MethodName := ⟨RX5, "record", "()V"⟩
abbrev cX5_undo : ByteArray := prog_7_method_11_code
def yX5_undo : MethodName := ⟨RX5, "undo", "()I"⟩
abbrev cX5_undoCount : ByteArray := prog_7_method_12_code
def yX5_undoCount : MethodName := ⟨RX5, "undoCount", "()I"⟩
abbrev cX5_saveState : ByteArray := prog_7_method_13_code
def yX5_saveState : MethodName := ⟨RX5, "saveState", "(I)I"⟩
abbrev cX5_loadState : ByteArray := prog_7_method_14_code
def yX5_loadState : MethodName := ⟨RX5, "loadState", "(I)I"⟩
abbrev cX5_addGap : ByteArray := prog_7_method_15_code
def yX5_addGap : MethodName := ⟨RX5, "addGap", "(III)I"⟩
abbrev cX5_gapCount : ByteArray := prog_7_method_16_code
def yX5_gapCount : MethodName := ⟨RX5, "gapCount", "(I)I"⟩
abbrev cX5_gapDay : ByteArray := prog_7_method_17_code
def yX5_gapDay : MethodName := ⟨RX5, "gapDay", "(II)I"⟩
abbrev cX5_gapLength : ByteArray := prog_7_method_18_code
def yX5_gapLength : MethodName := ⟨RX5, "gapLength", "(II)I"⟩
abbrev cX5_lengthOf : ByteArray := prog_7_method_19_code
def yX5_lengthOf : MethodName := ⟨RX5, "lengthOf", "(II)I"⟩
abbrev cX5_daysAhead : ByteArray := prog_7_method_20_code
def yX5_daysAhead : MethodName := ⟨RX5, "daysAhead", "(II)I"⟩
abbrev cX5_yearLength : ByteArray := prog_7_method_21_code
def yX5_yearLength : MethodName := ⟨RX5, "yearLength", "(I)I"⟩
abbrev cX5_monthLength : ByteArray := prog_7_method_22_code
def yX5_monthLength : MethodName := ⟨RX5, "monthLength", "(II)I"⟩
abbrev cX5_calendar : ByteArray := prog_7_method_23_code
def yX5_calendar : MethodName := ⟨RX5, "calendar", "(II)I"⟩
abbrev cX5_firstDay : ByteArray := prog_7_method_24_code
def yX5_firstDay : MethodName := ⟨RX5, "firstDay", "(II)I"⟩
abbrev cX5_yearAt : ByteArray := prog_7_method_25_code
def yX5_yearAt : MethodName := ⟨RX5, "yearAt", "(II)I"⟩
abbrev cX5_monthAt : ByteArray := prog_7_method_26_code
def yX5_monthAt : MethodName := ⟨RX5, "monthAt", "(II)I"⟩
abbrev cX5_dayAt : ByteArray := prog_7_method_27_code
def yX5_dayAt : MethodName := ⟨RX5, "dayAt", "(II)I"⟩
abbrev cX5_dayOfMonth : ByteArray := prog_7_method_28_code
def yX5_dayOfMonth : MethodName := ⟨RX5, "dayOfMonth", "(II)I"⟩
abbrev cX5_monthOf : ByteArray := prog_7_method_29_code
def yX5_monthOf : MethodName := ⟨RX5, "monthOf", "(II)I"⟩
abbrev cX5_yearOf : ByteArray := prog_7_method_30_code
def yX5_yearOf : MethodName := ⟨RX5, "yearOf", "(II)I"⟩
abbrev cX5_weekday : ByteArray := prog_7_method_31_code
def yX5_weekday : MethodName := ⟨RX5, "weekday", "(I)I"⟩
abbrev cX5_dayWith : ByteArray := prog_7_method_32_code
def yX5_dayWith : MethodName := ⟨RX5, "dayWith", "(IIII)I"⟩
abbrev cX5_dayOfDate : ByteArray := prog_7_method_33_code
def yX5_dayOfDate : MethodName := ⟨RX5, "dayOfDate", "(IIII)I"⟩
abbrev cX5_addFeast : ByteArray := prog_7_method_34_code
def yX5_addFeast : MethodName := ⟨RX5, "addFeast", "(III)I"⟩
abbrev cX5_barWeekday : ByteArray := prog_7_method_35_code
def yX5_barWeekday : MethodName := ⟨RX5, "barWeekday", "(II)I"⟩
abbrev cX5_allowAllWeekdays : ByteArray := prog_7_method_36_code
def yX5_allowAllWeekdays : MethodName := ⟨RX5, "allowAllWeekdays", "(I)I"⟩
abbrev cX5_feastCount : ByteArray := prog_7_method_37_code
def yX5_feastCount : MethodName := ⟨RX5, "feastCount", "()I"⟩
abbrev cX5_feastTown : ByteArray := prog_7_method_38_code
def yX5_feastTown : MethodName := ⟨RX5, "feastTown", "(I)I"⟩
abbrev cX5_barredWeekday : ByteArray := prog_7_method_39_code
def yX5_barredWeekday : MethodName := ⟨RX5, "barredWeekday", "(I)I"⟩
abbrev cX5_due : ByteArray := prog_7_method_40_code
def yX5_due : MethodName := ⟨RX5, "due", "(II)I"⟩
abbrev cX5_kept : ByteArray := prog_7_method_41_code
def yX5_kept : MethodName := ⟨RX5, "kept", "(II)I"⟩
abbrev cX5_dayDue : ByteArray := prog_7_method_42_code
def yX5_dayDue : MethodName := ⟨RX5, "dayDue", "(II)I"⟩
abbrev cX5_dayKept : ByteArray := prog_7_method_43_code
def yX5_dayKept : MethodName := ⟨RX5, "dayKept", "(II)I"⟩
abbrev cX5_isOn : ByteArray := prog_7_method_44_code
def yX5_isOn : MethodName := ⟨RX5, "isOn", "(II)Z"⟩
abbrev cX5_isKept : ByteArray := prog_7_method_45_code
def yX5_isKept : MethodName := ⟨RX5, "isKept", "(II)Z"⟩
abbrev cX5_setOn : ByteArray := prog_7_method_46_code
def yX5_setOn : MethodName := ⟨RX5, "setOn", "(I)I"⟩
abbrev cX5_ofTown : ByteArray := prog_7_method_47_code
def yX5_ofTown : MethodName := ⟨RX5, "ofTown", "(II)I"⟩
abbrev cX5_quarrels : ByteArray := prog_7_method_48_code
def yX5_quarrels : MethodName := ⟨RX5, "quarrels", "(I)Z"⟩
abbrev cX5_feastsOn : ByteArray := prog_7_method_49_code
def yX5_feastsOn : MethodName := ⟨RX5, "feastsOn", "(I)I"⟩
abbrev cX5_isQuarrel : ByteArray := prog_7_method_50_code
def yX5_isQuarrel : MethodName := ⟨RX5, "isQuarrel", "(I)Z"⟩
abbrev cX5_setShift : ByteArray := prog_7_method_51_code
def yX5_setShift : MethodName := ⟨RX5, "setShift", "(I)I"⟩
abbrev cX5_shift : ByteArray := prog_7_method_52_code
def yX5_shift : MethodName := ⟨RX5, "shift", "()I"⟩
abbrev cX5_setCopiesPerDay : ByteArray := prog_7_method_53_code
def yX5_setCopiesPerDay : MethodName := ⟨RX5, "setCopiesPerDay", "(I)I"⟩
abbrev cX5_copiesPerDay : ByteArray := prog_7_method_54_code
def yX5_copiesPerDay : MethodName := ⟨RX5, "copiesPerDay", "()I"⟩
abbrev cX5_passDays : ByteArray := prog_7_method_55_code
def yX5_passDays : MethodName := ⟨RX5, "passDays", "(I)I"⟩
abbrev cX5_today : ByteArray := prog_7_method_56_code
def yX5_today : MethodName := ⟨RX5, "today", "()I"⟩
abbrev cX5_feastsKept : ByteArray := prog_7_method_57_code
def yX5_feastsKept : MethodName := ⟨RX5, "feastsKept", "(I)I"⟩
abbrev cX5_quarrelCount : ByteArray := prog_7_method_58_code
def yX5_quarrelCount : MethodName := ⟨RX5, "quarrelCount", "()I"⟩
abbrev cX5_copiesMade : ByteArray := prog_7_method_59_code
def yX5_copiesMade : MethodName := ⟨RX5, "copiesMade", "()I"⟩
abbrev cX5_nextDay : ByteArray := prog_7_method_60_code
def yX5_nextDay : MethodName := ⟨RX5, "nextDay", "(I)I"⟩
abbrev cX5_daysUntilMeeting : ByteArray := prog_7_method_61_code
def yX5_daysUntilMeeting : MethodName := ⟨RX5, "daysUntilMeeting", "(II)I"⟩
abbrev cX5_quarrelsIn : ByteArray := prog_7_method_62_code
def yX5_quarrelsIn : MethodName := ⟨RX5, "quarrelsIn", "(I)I"⟩
abbrev cX5_quarrelsWithin : ByteArray := prog_7_method_63_code
def yX5_quarrelsWithin : MethodName := ⟨RX5, "quarrelsWithin", "(I)I"⟩
abbrev cX5_bestBarredWeekday : ByteArray := prog_7_method_64_code
def yX5_bestBarredWeekday : MethodName := ⟨RX5, "bestBarredWeekday", "(I)I"⟩
abbrev cX5_appendText : ByteArray := prog_7_method_65_code
def yX5_appendText : MethodName := ⟨RX5, "appendText", "(J)I"⟩
abbrev cX5_clearText : ByteArray := prog_7_method_66_code
def yX5_clearText : MethodName := ⟨RX5, "clearText", "()I"⟩
abbrev cX5_textLength : ByteArray := prog_7_method_67_code
def yX5_textLength : MethodName := ⟨RX5, "textLength", "()I"⟩
abbrev cX5_takes : ByteArray := prog_7_method_68_code
def yX5_takes : MethodName := ⟨RX5, "takes", "(II)Z"⟩
abbrev cX5_readsNumber : ByteArray := prog_7_method_69_code
def yX5_readsNumber : MethodName := ⟨RX5, "readsNumber", "(II)Z"⟩
abbrev cX5_isDate : ByteArray := prog_7_method_70_code
def yX5_isDate : MethodName := ⟨RX5, "isDate", "()Z"⟩
abbrev cX5_textError : ByteArray := prog_7_method_71_code
def yX5_textError : MethodName := ⟨RX5, "textError", "()I"⟩
abbrev cX5_textCharacter : ByteArray := prog_7_method_72_code
def yX5_textCharacter : MethodName := ⟨RX5, "textCharacter", "(I)I"⟩
abbrev cX5_dayOfText : ByteArray := prog_7_method_73_code
def yX5_dayOfText : MethodName := ⟨RX5, "dayOfText", "()I"⟩
abbrev cX5_write : ByteArray := prog_7_method_74_code
def yX5_write : MethodName := ⟨RX5, "write", "(I)V"⟩
abbrev cX5_writeNumber : ByteArray := prog_7_method_75_code
def yX5_writeNumber : MethodName := ⟨RX5, "writeNumber", "(I)V"⟩
abbrev cX5_writeDate : ByteArray := prog_7_method_76_code
def yX5_writeDate : MethodName := ⟨RX5, "writeDate", "(II)I"⟩
def RJ6 : String := "java/lang/Integer"
def TJ6 : u_T := fun k => match k with
  | _ => ("", "", "", false)
def tyJ6 : Nat → FieldType := fun k => match k with
  | _ => .int
abbrev wsJ60 : List Cond := u_ws RJ6 TJ6 0
theorem nmJ6 : ∀ a, a < 0 → ∀ b, b < 0 → a ≠ b → (TJ6 a).2.1 ≠ (TJ6 b).2.1 := by decide +kernel
theorem tyJ6_ok : ∀ k, k < 0 → parseFieldDescriptor (TJ6 k).2.2.1 = some (tyJ6 k) := by decide +kernel
abbrev cJ6_bitCount_0f7a4 : ByteArray := prog_12_method_49_code
def yJ6_bitCount_0f7a4 : MethodName := ⟨RJ6, "bitCount", "(I)I"⟩
def RJ9 : String := "java/lang/Math"
def TJ9 : u_T := fun k => match k with
  | _ => ("", "", "", false)
def tyJ9 : Nat → FieldType := fun k => match k with
  | _ => .int
abbrev wsJ90 : List Cond := u_ws RJ9 TJ9 0
theorem nmJ9 : ∀ a, a < 0 → ∀ b, b < 0 → a ≠ b → (TJ9 a).2.1 ≠ (TJ9 b).2.1 := by decide +kernel
theorem tyJ9_ok : ∀ k, k < 0 → parseFieldDescriptor (TJ9 k).2.2.1 = some (tyJ9 k) := by decide +kernel
abbrev cJ9_max_7cf53 : ByteArray := prog_13_method_65_code
def yJ9_max_7cf53 : MethodName := ⟨RJ9, "max", "(II)I"⟩
def RJ0 : String := "java/lang/String"
def TJ0 : u_T := fun k => match k with
  | _ => ("", "", "", false)
def tyJ0 : Nat → FieldType := fun k => match k with
  | _ => .int
abbrev wsJ00 : List Cond := u_ws RJ0 TJ0 0
theorem nmJ0 : ∀ a, a < 0 → ∀ b, b < 0 → a ≠ b → (TJ0 a).2.1 ≠ (TJ0 b).2.1 := by decide +kernel
theorem tyJ0_ok : ∀ k, k < 0 → parseFieldDescriptor (TJ0 k).2.2.1 = some (tyJ0 k) := by decide +kernel
def RL : String := "TwoTownAlmanacLaw"
abbrev cL_addGap : ByteArray := method_3_code
def yL_addGap : MethodName := ⟨RL, "addGap", "(LTwoTownAlmanac;III[J)I"⟩
abbrev cL_gapCount : ByteArray := method_4_code
def yL_gapCount : MethodName := ⟨RL, "gapCount", "(LTwoTownAlmanac;I[J)I"⟩
abbrev cL_gapDay : ByteArray := method_5_code
def yL_gapDay : MethodName := ⟨RL, "gapDay", "(LTwoTownAlmanac;II[J)I"⟩
abbrev cL_gapLength : ByteArray := method_6_code
def yL_gapLength : MethodName := ⟨RL, "gapLength", "(LTwoTownAlmanac;II[J)I"⟩
abbrev cL_monthLength : ByteArray := method_7_code
def yL_monthLength : MethodName := ⟨RL, "monthLength", "(LTwoTownAlmanac;II[J)I"⟩
abbrev cL_dayOfMonth : ByteArray := method_8_code
def yL_dayOfMonth : MethodName := ⟨RL, "dayOfMonth", "(LTwoTownAlmanac;II[J)I"⟩
abbrev cL_monthOf : ByteArray := method_9_code
def yL_monthOf : MethodName := ⟨RL, "monthOf", "(LTwoTownAlmanac;II[J)I"⟩
abbrev cL_yearOf : ByteArray := method_10_code
def yL_yearOf : MethodName := ⟨RL, "yearOf", "(LTwoTownAlmanac;II[J)I"⟩
abbrev cL_weekday : ByteArray := method_11_code
def yL_weekday : MethodName := ⟨RL, "weekday", "(LTwoTownAlmanac;I[J)I"⟩
abbrev cL_dayOfDate : ByteArray := method_12_code
def yL_dayOfDate : MethodName := ⟨RL, "dayOfDate", "(LTwoTownAlmanac;IIII[J)I"⟩
abbrev cL_addFeast : ByteArray := method_13_code
def yL_addFeast : MethodName := ⟨RL, "addFeast", "(LTwoTownAlmanac;III[J)I"⟩
abbrev cL_barWeekday : ByteArray := method_14_code
def yL_barWeekday : MethodName := ⟨RL, "barWeekday", "(LTwoTownAlmanac;II[J)I"⟩
abbrev cL_allowAllWeekdays : ByteArray := method_15_code
def yL_allowAllWeekdays : MethodName := ⟨RL, "allowAllWeekdays", "(LTwoTownAlmanac;I[J)I"⟩
abbrev cL_feastTown : ByteArray := method_16_code
def yL_feastTown : MethodName := ⟨RL, "feastTown", "(LTwoTownAlmanac;I[J)I"⟩
abbrev cL_barredWeekday : ByteArray := method_17_code
def yL_barredWeekday : MethodName := ⟨RL, "barredWeekday", "(LTwoTownAlmanac;I[J)I"⟩
abbrev cL_dayDue : ByteArray := method_18_code
def yL_dayDue : MethodName := ⟨RL, "dayDue", "(LTwoTownAlmanac;II[J)I"⟩
abbrev cL_dayKept : ByteArray := method_19_code
def yL_dayKept : MethodName := ⟨RL, "dayKept", "(LTwoTownAlmanac;II[J)I"⟩
abbrev cL_isKept : ByteArray := method_20_code
def yL_isKept : MethodName := ⟨RL, "isKept", "(LTwoTownAlmanac;II[J)I"⟩
abbrev cL_feastsOn : ByteArray := method_21_code
def yL_feastsOn : MethodName := ⟨RL, "feastsOn", "(LTwoTownAlmanac;I[J)I"⟩
abbrev cL_isQuarrel : ByteArray := method_22_code
def yL_isQuarrel : MethodName := ⟨RL, "isQuarrel", "(LTwoTownAlmanac;I[J)I"⟩
abbrev cL_setShift : ByteArray := method_23_code
def yL_setShift : MethodName := ⟨RL, "setShift", "(LTwoTownAlmanac;I[J)I"⟩
abbrev cL_setCopiesPerDay : ByteArray := method_24_code
def yL_setCopiesPerDay : MethodName := ⟨RL, "setCopiesPerDay", "(LTwoTownAlmanac;I[J)I"⟩
abbrev cL_passDays : ByteArray := method_25_code
def yL_passDays : MethodName := ⟨RL, "passDays", "(LTwoTownAlmanac;I[J)I"⟩
abbrev cL_feastsKept : ByteArray := method_26_code
def yL_feastsKept : MethodName := ⟨RL, "feastsKept", "(LTwoTownAlmanac;I[J)I"⟩
abbrev cL_nextDay : ByteArray := method_27_code
def yL_nextDay : MethodName := ⟨RL, "nextDay", "(LTwoTownAlmanac;I[J)I"⟩
abbrev cL_daysUntilMeeting : ByteArray := method_28_code
def yL_daysUntilMeeting : MethodName := ⟨RL, "daysUntilMeeting", "(LTwoTownAlmanac;II[J)I"⟩
abbrev cL_quarrelsWithin : ByteArray := method_29_code
def yL_quarrelsWithin : MethodName := ⟨RL, "quarrelsWithin", "(LTwoTownAlmanac;I[J)I"⟩
abbrev cL_bestBarredWeekday : ByteArray := method_30_code
def yL_bestBarredWeekday : MethodName := ⟨RL, "bestBarredWeekday", "(LTwoTownAlmanac;I[J)I"⟩
abbrev cL_appendText : ByteArray := method_31_code
def yL_appendText : MethodName := ⟨RL, "appendText", "(LTwoTownAlmanac;J[J)I"⟩
abbrev cL_textCharacter : ByteArray := method_32_code
def yL_textCharacter : MethodName := ⟨RL, "textCharacter", "(LTwoTownAlmanac;I[J)I"⟩
abbrev cL_dayOfText : ByteArray := method_33_code
def yL_dayOfText : MethodName := ⟨RL, "dayOfText", "(LTwoTownAlmanac;[J)I"⟩
abbrev cL_writeDate : ByteArray := method_34_code
def yL_writeDate : MethodName := ⟨RL, "writeDate", "(LTwoTownAlmanac;II[J)I"⟩
abbrev cL_undo : ByteArray := method_35_code
def yL_undo : MethodName := ⟨RL, "undo", "(LTwoTownAlmanac;[J)I"⟩
abbrev cL_saveState : ByteArray := method_36_code
def yL_saveState : MethodName := ⟨RL, "saveState", "(LTwoTownAlmanac;I[J)I"⟩
abbrev cL_loadState : ByteArray := method_37_code
def yL_loadState : MethodName := ⟨RL, "loadState", "(LTwoTownAlmanac;I[J)I"⟩
abbrev cL_law : ByteArray := code
def yL_law : MethodName := ⟨RL, "law", "([I)Z"⟩
abbrev vwCl : List vw_C := [(RX0, TX0, 2), (RX1, TX1, 4), (RX2, TX2, 9), (RX3, TX3, 5), (RX4, TX4, 7), (RX5, TX5, 10)]
end
section
/-! numbers: an Int as an Int32 -/
def iN (x : Int) : Int32 := Int32.ofInt x
theorem iN_add (a b : Int) : iN a + iN b = iN (a + b) := (Int32.ofInt_add a b).symm
theorem iN_sub (a b : Int) : iN a - iN b = iN (a - b) := (Int32.ofInt_sub a b).symm
theorem iN_mul (a b : Int) : iN a * iN b = iN (a * b) := (Int32.ofInt_mul a b).symm
theorem iN_int {a : Int} (h : -2147483648 ≤ a ∧ a < 2147483648) : (iN a).toInt = a := Int32.toInt_ofInt_of_le (by omega) (by omega)
theorem iN_of (x : Int32) : iN x.toInt = x := Int32.ofInt_toInt x
theorem iN_lt {a b : Int} (ha : -2147483648 ≤ a ∧ a < 2147483648) (hb : -2147483648 ≤ b ∧ b < 2147483648) : iN a < iN b ↔ a < b := by
  rw [Int32.lt_iff_toInt_lt, iN_int ha, iN_int hb]
theorem iN_le {a b : Int} (ha : -2147483648 ≤ a ∧ a < 2147483648) (hb : -2147483648 ≤ b ∧ b < 2147483648) : iN a ≤ iN b ↔ a ≤ b := by
  rw [Int32.le_iff_toInt_le, iN_int ha, iN_int hb]
theorem iN_eq {a b : Int} (ha : -2147483648 ≤ a ∧ a < 2147483648) (hb : -2147483648 ≤ b ∧ b < 2147483648) : iN a = iN b ↔ a = b := by
  rw [← Int32.toInt_inj, iN_int ha, iN_int hb]
theorem iN_nI (n : Nat) : iN (n : Int) = nI n := Int32.ofInt_eq_ofNat
theorem iN_div {a b : Int} (ha : 0 ≤ a ∧ a < 2147483648) (hb : 0 < b ∧ b < 2147483648) : iN a / iN b = iN (a / b) := by
  obtain ⟨n, rfl⟩ := Int.eq_ofNat_of_zero_le ha.1
  obtain ⟨d, rfl⟩ := Int.eq_ofNat_of_zero_le (show 0 ≤ b by omega)
  rw [iN_nI, iN_nI, pk_div (by omega) (by omega) (by omega), ← iN_nI]
  exact congrArg iN (Int.natCast_ediv n d)
theorem iN_mod {a b : Int} (ha : 0 ≤ a ∧ a < 2147483648) (hb : 0 < b ∧ b < 2147483648) : iN a - iN a / iN b * iN b = iN (a % b) := by
  rw [iN_div ha hb, iN_mul, iN_sub]
  exact congrArg iN (by rw [Int.emod_def, Int.mul_comm])
theorem iN_in {i : Int} {n : Nat} (h : 0 ≤ i ∧ i < (n : Int)) (hn : n < 2147483648) : vp_in (iN i) n := by
  rw [vp_in_iff, iN_int (by omega)]
  exact h
theorem iN_cl {i : Int} (h : 0 ≤ i ∧ i < 2147483648) : (iN i).toNatClampNeg = i.toNat := Int32.toNatClampNeg_ofInt_of_le (by omega) (by omega)
/-! the world: 177 cells, each of a kind; what they hold is Z: cell, place, number -/
abbrev Zt : Type := Nat → Nat → Int
def NN : Nat := 177
def kb (k : Nat) : Nat := if k = 0 then 2 else if k = 1 then 3 else if k = 4 then 3 else if k = 7 then 40 else if k < 7 then 103 else 4
def kd (i : Nat) : Nat := if i = 0 then 1 else if i < 19 then kb (i - 1) else if i < 25 then (if i = 19 then 36 else if i = 20 then 32 else if i = 21 then 20 else if i = 22 then 5 else if i = 23 then 180 else 500) else if i < 169 then kb ((i - 25) % 18) else if i < 177 then (if i = 169 then 6 else if i = 170 then 162 else if i = 171 then 472 else if i = 172 then 224 else if i = 173 then 20 else if i = 174 then 180 else if i = 175 then 104 else 50) else 0
theorem kd_big {i : Nat} (h : 177 ≤ i) : kd i = 0 := by
  unfold kd
  rw [if_neg (by omega), if_neg (by omega), if_neg (by omega), if_neg (by omega), if_neg (by omega)]
theorem kd_lt {i K : Nat} (h : kd i = K) (hK : K ≠ 0) : i < NN := by
  rcases Nat.lt_or_ge i 177 with q | q
  · exact q
  · exact absurd ((kd_big q).symm.trans h) (Ne.symm hK)
def cl (k : Nat) (r : Nat → Nat) (cA : Nat → ClassId) (i : Nat) (f : Nat → Int) : va_E :=
  if k = 1 then .inr (4, [.ref (r 1), .ref (r 19), .int (iN (f 2)), .ref (r 20), .ref (r 21), .ref (r 22), .ref (r 24)])
  else if k = 2 then .inr (2, [.ref (r (i + 1)), .ref (r (i + 4)), .ref (r (i + 7)), .int (iN (f 3)), .int (iN (f 4)), .int (iN (f 5)), .int (iN (f 6)), .int (iN (f 7)), .int (iN (f 8))])
  else if k = 3 then .inr (3, [.int (iN (f 0)), .ref (r (i + 1)), .ref (r (i + 2)), .int (iN (f 3)), .int (iN (f 4))])
  else if k = 4 then .inr (1, [.int (iN (f 0)), .int (iN (f 1)), .int (iN (f 2)), .int (iN (f 3))])
  else if k = 5 then .inr (0, [.ref (r 23), .int (iN (f 1))])
  else if k = 6 then .inr (5, [.ref (r 170), .ref (r 171), .int (iN (f 2)), .ref (r 172), .ref (r 173), .int (iN (f 5)), .ref (r 174), .int (iN (f 7)), .int (iN (f 8)), .ref (r 175)])
  else if k = 20 then .inl (cA 1, 2, .inl (fun j => iN (f j)))
  else if k = 32 then .inl (cA 4, 2, .inr (.inr (.inr (.inr (fun j => some (r (f j).toNat))))))
  else if k = 36 then .inl (cA 4, 6, .inr (.inr (.inr (.inr (fun j => some (r (f j).toNat))))))
  else if k = 40 then .inl (cA 3, 10, .inr (.inr (.inr (.inr (fun j => some (r (i + 1 + j)))))))
  else if k = 50 then .inl (cA 2, 1, .inr (.inl (fun j => Int64.ofInt (f j))))
  else .inl (cA 0, k - 100, .inl (fun j => iN (f j)))
def Ez (r : Nat → Nat) (cA : Nat → ClassId) (z : Zt) (i : Nat) : va_E := cl (kd i) r cA i (z i)
def wl (N : Nat) (r : Nat → Nat) (E : Nat → va_E) : va_W := (List.range N).map fun i => (r i, E i)
theorem wl_at {N : Nat} {r : Nat → Nat} {E : Nat → va_E} {i : Nat} (h : i < N) : (wl N r E)[i]? = some (r i, E i) := by
  simp [wl, h]
theorem wl_len {N : Nat} {r : Nat → Nat} {E : Nat → va_E} : (wl N r E).length = N := by simp [wl]
theorem wl_key {N : Nat} {r : Nat → Nat} {E : Nat → va_E} {k : Nat} {q : Nat × va_E} (h : (wl N r E)[k]? = some q) : k < N ∧ q = (r k, E k) := by
  have hl := (List.getElem?_eq_some_iff.mp h).1
  rw [wl_len] at hl
  rw [wl_at hl] at h
  exact ⟨hl, (Option.some.inj h).symm⟩
theorem wl_set {N : Nat} {r : Nat → Nat} {E : Nat → va_E} {i : Nat} {e : va_E} (h : i < N) : (wl N r E).set i (r i, e) = wl N r (va_up E i e) := by
  apply List.ext_getElem?
  intro j
  by_cases hj : j < N
  · by_cases q : i = j
    · subst q
      rw [List.getElem?_set_self (by rw [wl_len]; exact h), wl_at h]
      simp [va_up]
    · rw [List.getElem?_set_ne q, wl_at hj, wl_at hj]
      simp [va_up, Ne.symm q]
  · rw [List.getElem?_eq_none (by rw [List.length_set, wl_len]; omega), List.getElem?_eq_none (by rw [wl_len]; omega)]
def zup (z : Zt) (i k : Nat) (x : Int) : Zt := fun a => if a = i then (fun j => if j = k then x else z i j) else z a
theorem zup_s (z : Zt) (i k : Nat) (x : Int) : zup z i k x i k = x := by simp [zup]
theorem zup_n (z : Zt) {i k a j : Nat} (x : Int) (h : ¬ (a = i ∧ j = k)) : zup z i k x a j = z a j := by
  unfold zup
  by_cases q : a = i
  · subst q
    rw [if_pos rfl, if_neg (fun e => h ⟨rfl, e⟩)]
  · rw [if_neg q]
theorem Ez_up {r : Nat → Nat} {cA : Nat → ClassId} {z : Zt} {i k K : Nat} {x : Int} {e : va_E} (hk : kd i = K) (he : cl K r cA i (fun j => if j = k then x else z i j) = e) : va_up (Ez r cA z) i e = Ez r cA (zup z i k x) := by
  funext j
  by_cases hj : j = i
  · subst hj
    simp [va_up, Ez, zup, hk, he]
  · simp [va_up, Ez, zup, hj]
def Inj (r : Nat → Nat) : Prop := ∀ i j : Nat, i < NN → j < NN → r i = r j → i = j
def rng (r : Nat → Nat) : Nat → Prop := fun q => ∃ i, i < NN ∧ q = r i
theorem wl_D {r : Nat → Nat} {E : Nat → va_E} {A : Nat → Prop} (hr : Inj r) (hA : ∀ i, i < NN → A (r i)) : va_D A (wl NN r E) := by
  refine ⟨fun i j p q hi hj hpq => ?_, fun k q hk => ?_⟩
  · obtain ⟨h1, rfl⟩ := wl_key hi
    obtain ⟨h2, rfl⟩ := wl_key hj
    exact hr i j h1 h2 hpq
  · obtain ⟨h1, rfl⟩ := wl_key hk
    exact hA k h1
def tysOf (cA : Nat → ClassId) : List (ClassId × FieldType) := [(cA 0, .int), (cA 1, .boolean), (cA 2, .long), (cA 3, .object RX1), (cA 4, .object RX2)]
def wz (r : Nat → Nat) (cA : Nat → ClassId) (z : Zt) : va_W := wl NN r (Ez r cA z)
/-! the judgement -/
abbrev Cx : Type := Program × Launch × Env × Room × State × MethodId × Array Value × List Frame × Method × Code × (State → Prop) × (Nat → Prop) × va_G × (Nat → ClassId) × Nat × (Nat → Nat)
def V (Γ : Cx) (z : Zt) (kc ks : Nat) (lv : List (Nat × Value)) (pc : Nat) (st : List Value) : Prop :=
  match Γ with
  | (p, l, e, R, s, m, args, below, meth, c, Q, A, D, cA, nL, r) =>
    ∀ (H : Heap) (locs : List Loc) (ls : Array Slot), va_P D vwCl (wz r cA z) H → va_S A s.heap H locs → lv_has ls nL lv →
      W p l e R s m args below meth c H locs kc ks Q (F0 m pc ls st)
def Cok (l : Launch) (D : va_G) (cA : Nat → ClassId) (r : Nat → Nat) (Rm : Room) (Γ : Cx) (cc : ByteArray) (own : String) (Ts : List Cond) (mL : Nat) : Prop :=
  match Γ with
  | (p, l', _, R, s, m, args, _, _, c, _, A, D', cA', nL, r') =>
    (l' = l ∧ D' = D ∧ cA' = cA ∧ r' = r ∧ R = Rm ∧ nL = mL) ∧ (p.tables.exec = Jvm.exec ∧ c.code = cc ∧ c.maxLocals = nL ∧ s.vm.findClass own = some m.cls ∧ ∀ w ∈ Ts, w.before args s = true) ∧ va_K D' vwCl (tysOf cA') s ∧ Inj r' ∧ ∀ i, i < NN → A (r' i)
/-- locals in their order: a store keeps the place -/
def lput (l : List (Nat × Value)) (i : Nat) (v : Value) : List (Nat × Value) :=
  if l.any (fun q => q.1 == i) then (l.filter (fun q => !(q.1 + 1 == i && q.2.category == 2))).map (fun q => if q.1 == i then (i, v) else q)
  else (l.filter (fun q => !(q.1 + 1 == i && q.2.category == 2))) ++ [(i, v)]
theorem lput_has {ls : Array Slot} {nL i : Nat} {v : Value} {l : List (Nat × Value)} (h : lv_has ls nL ((i, v) :: l.filter (fun q => !(q.1 == i) && !(q.1 + 1 == i && q.2.category == 2)))) : lv_has ls nL (lput l i v) := by
  refine ⟨h.1, h.2.1, fun q hq => ?_⟩
  unfold lput at hq
  split at hq
  · obtain ⟨a, ha, rfl⟩ := List.mem_map.mp hq
    by_cases e : (a.1 == i) = true
    · rw [if_pos e]
      exact h.2.2 _ List.mem_cons_self
    · rw [if_neg e]
      refine h.2.2 _ (List.mem_cons_of_mem _ (List.mem_filter.mpr ⟨(List.mem_filter.mp ha).1, ?_⟩))
      have h2 := (List.mem_filter.mp ha).2
      rw [h2, Bool.and_true]
      simpa using e
  · rename_i hn
    rcases List.mem_append.mp hq with h1 | h1
    · refine h.2.2 _ (List.mem_cons_of_mem _ (List.mem_filter.mpr ⟨(List.mem_filter.mp h1).1, ?_⟩))
      have h2 := (List.mem_filter.mp h1).2
      rw [h2, Bool.and_true]
      have h3 : ¬ (q.1 == i) = true := fun e => hn (List.any_eq_true.mpr ⟨q, (List.mem_filter.mp h1).1, e⟩)
      simpa using h3
    · rw [List.mem_singleton.mp h1]
      exact h.2.2 _ List.mem_cons_self
section VR
variable {l : Launch} {D : va_G} {cA : Nat → ClassId} {r : Nat → Nat} {Rm : Room} {Γ : Cx} {cc : ByteArray} {own : String} {Ts : List Cond} {mL : Nat} {z : Zt} {kc ks : Nat} {lv : List (Nat × Value)} {pc : Nat} {st : List Value}

theorem v_iconst (G : Cok l D cA r Rm Γ cc own Ts mL) {n : Int} (d : decode cc pc = .ok (.iconst n, 1)) (kk : V Γ z kc ks lv (pc + 1) (.int (iN n) :: st)) : V Γ z kc ks lv pc st := by
  obtain ⟨p, l', e, R, s, m, args, below, meth, c, Q, A, D', cA', nL, r'⟩ := Γ
  obtain ⟨⟨rfl, rfl, rfl, rfl, rfl, rfl⟩, ⟨hx, hb, hml, hown, hts⟩, hK, hr, hA⟩ := G
  intro H locs ls hP hS hL
  exact lv_iconst hx hb d rfl (kk H locs ls hP hS hL)

theorem v_bipush (G : Cok l D cA r Rm Γ cc own Ts mL) {n : Int} (d : decode cc pc = .ok (.bipush n, 2)) (h : (Int8.ofInt n).toInt32 = Int32.ofInt n) (kk : V Γ z kc ks lv (pc + 2) (.int (iN n) :: st)) : V Γ z kc ks lv pc st := by
  obtain ⟨p, l', e, R, s, m, args, below, meth, c, Q, A, D', cA', nL, r'⟩ := Γ
  obtain ⟨⟨rfl, rfl, rfl, rfl, rfl, rfl⟩, ⟨hx, hb, hml, hown, hts⟩, hK, hr, hA⟩ := G
  intro H locs ls hP hS hL
  exact lv_bipush hx hb d h (kk H locs ls hP hS hL)

theorem v_sipush (G : Cok l D cA r Rm Γ cc own Ts mL) {n : Int} (d : decode cc pc = .ok (.sipush n, 3)) (h : (Int16.ofInt n).toInt32 = Int32.ofInt n) (kk : V Γ z kc ks lv (pc + 3) (.int (iN n) :: st)) : V Γ z kc ks lv pc st := by
  obtain ⟨p, l', e, R, s, m, args, below, meth, c, Q, A, D', cA', nL, r'⟩ := Γ
  obtain ⟨⟨rfl, rfl, rfl, rfl, rfl, rfl⟩, ⟨hx, hb, hml, hown, hts⟩, hK, hr, hA⟩ := G
  intro H locs ls hP hS hL
  exact lv_sipush hx hb d h (kk H locs ls hP hS hL)

theorem v_iload_n (G : Cok l D cA r Rm Γ cc own Ts mL) {q : Fin 4} {x : Int32} (d : decode cc pc = .ok (.iload_n q, 1)) (j : Nat) (hl : lv[j]? = some ((q : Nat), .int x)) (kk : V Γ z kc ks lv (pc + 1) (.int x :: st)) : V Γ z kc ks lv pc st := by
  obtain ⟨p, l', e, R, s, m, args, below, meth, c, Q, A, D', cA', nL, r'⟩ := Γ
  obtain ⟨⟨rfl, rfl, rfl, rfl, rfl, rfl⟩, ⟨hx, hb, hml, hown, hts⟩, hK, hr, hA⟩ := G
  intro H locs ls hP hS hL
  exact lv_iload_n hx hb d rfl (lv_at hL j hl) (kk H locs ls hP hS hL)

theorem v_iload (G : Cok l D cA r Rm Γ cc own Ts mL) {i : Nat} {x : Int32} (d : decode cc pc = .ok (.iload i, 2)) (j : Nat) (hl : lv[j]? = some (i, .int x)) (kk : V Γ z kc ks lv (pc + 2) (.int x :: st)) : V Γ z kc ks lv pc st := by
  obtain ⟨p, l', e, R, s, m, args, below, meth, c, Q, A, D', cA', nL, r'⟩ := Γ
  obtain ⟨⟨rfl, rfl, rfl, rfl, rfl, rfl⟩, ⟨hx, hb, hml, hown, hts⟩, hK, hr, hA⟩ := G
  intro H locs ls hP hS hL
  exact lv_iload hx hb d (lv_at hL j hl) (kk H locs ls hP hS hL)

theorem v_aload_n (G : Cok l D cA r Rm Γ cc own Ts mL) {q : Fin 4} {x : Nat} (d : decode cc pc = .ok (.aload_n q, 1)) (j : Nat) (hl : lv[j]? = some ((q : Nat), .ref x)) (kk : V Γ z kc ks lv (pc + 1) (.ref x :: st)) : V Γ z kc ks lv pc st := by
  obtain ⟨p, l', e, R, s, m, args, below, meth, c, Q, A, D', cA', nL, r'⟩ := Γ
  obtain ⟨⟨rfl, rfl, rfl, rfl, rfl, rfl⟩, ⟨hx, hb, hml, hown, hts⟩, hK, hr, hA⟩ := G
  intro H locs ls hP hS hL
  exact lv_aload_n hx hb d rfl (lv_at hL j hl) (kk H locs ls hP hS hL)

theorem v_aload (G : Cok l D cA r Rm Γ cc own Ts mL) {i : Nat} {x : Nat} (d : decode cc pc = .ok (.aload i, 2)) (j : Nat) (hl : lv[j]? = some (i, .ref x)) (kk : V Γ z kc ks lv (pc + 2) (.ref x :: st)) : V Γ z kc ks lv pc st := by
  obtain ⟨p, l', e, R, s, m, args, below, meth, c, Q, A, D', cA', nL, r'⟩ := Γ
  obtain ⟨⟨rfl, rfl, rfl, rfl, rfl, rfl⟩, ⟨hx, hb, hml, hown, hts⟩, hK, hr, hA⟩ := G
  intro H locs ls hP hS hL
  exact lv_aload hx hb d (lv_at hL j hl) (kk H locs ls hP hS hL)

theorem v_lload_n (G : Cok l D cA r Rm Γ cc own Ts mL) {q : Fin 4} {x : Int64} (d : decode cc pc = .ok (.lload_n q, 1)) (j : Nat) (hl : lv[j]? = some ((q : Nat), .long x)) (kk : V Γ z kc ks lv (pc + 1) (.long x :: st)) : V Γ z kc ks lv pc st := by
  obtain ⟨p, l', e, R, s, m, args, below, meth, c, Q, A, D', cA', nL, r'⟩ := Γ
  obtain ⟨⟨rfl, rfl, rfl, rfl, rfl, rfl⟩, ⟨hx, hb, hml, hown, hts⟩, hK, hr, hA⟩ := G
  intro H locs ls hP hS hL
  exact lv_lload_n hx hb d rfl (lv_at hL j hl) (kk H locs ls hP hS hL)

theorem v_lload (G : Cok l D cA r Rm Γ cc own Ts mL) {i : Nat} {x : Int64} (d : decode cc pc = .ok (.lload i, 2)) (j : Nat) (hl : lv[j]? = some (i, .long x)) (kk : V Γ z kc ks lv (pc + 2) (.long x :: st)) : V Γ z kc ks lv pc st := by
  obtain ⟨p, l', e, R, s, m, args, below, meth, c, Q, A, D', cA', nL, r'⟩ := Γ
  obtain ⟨⟨rfl, rfl, rfl, rfl, rfl, rfl⟩, ⟨hx, hb, hml, hown, hts⟩, hK, hr, hA⟩ := G
  intro H locs ls hP hS hL
  exact lv_lload hx hb d (lv_at hL j hl) (kk H locs ls hP hS hL)

theorem v_istore_n (G : Cok l D cA r Rm Γ cc own Ts mL) {q : Fin 4} {x : Int32} (lv' : List (Nat × Value)) (d : decode cc pc = .ok (.istore_n q, 1)) (hq : (q : Nat) < mL) (hl : lput lv q (.int x) = lv') (kk : V Γ z kc ks lv' (pc + 1) st) : V Γ z kc ks lv pc (.int x :: st) := by
  obtain ⟨p, l', e, R, s, m, args, below, meth, c, Q, A, D', cA', nL, r'⟩ := Γ
  obtain ⟨⟨rfl, rfl, rfl, rfl, rfl, rfl⟩, ⟨hx, hb, hml, hown, hts⟩, hK, hr, hA⟩ := G
  intro H locs ls hP hS hL
  exact lv_istore_n hx hb d rfl hL hq rfl (fun ls' h' => kk H locs ls' hP hS (hl ▸ lput_has h'))

theorem v_istore (G : Cok l D cA r Rm Γ cc own Ts mL) {i : Nat} {x : Int32} (lv' : List (Nat × Value)) (d : decode cc pc = .ok (.istore i, 2)) (hq : i < mL) (hl : lput lv i (.int x) = lv') (kk : V Γ z kc ks lv' (pc + 2) st) : V Γ z kc ks lv pc (.int x :: st) := by
  obtain ⟨p, l', e, R, s, m, args, below, meth, c, Q, A, D', cA', nL, r'⟩ := Γ
  obtain ⟨⟨rfl, rfl, rfl, rfl, rfl, rfl⟩, ⟨hx, hb, hml, hown, hts⟩, hK, hr, hA⟩ := G
  intro H locs ls hP hS hL
  exact lv_istore hx hb d hL hq rfl (fun ls' h' => kk H locs ls' hP hS (hl ▸ lput_has h'))

theorem v_astore_n (G : Cok l D cA r Rm Γ cc own Ts mL) {q : Fin 4} {x : Nat} (lv' : List (Nat × Value)) (d : decode cc pc = .ok (.astore_n q, 1)) (hq : (q : Nat) < mL) (hl : lput lv q (.ref x) = lv') (kk : V Γ z kc ks lv' (pc + 1) st) : V Γ z kc ks lv pc (.ref x :: st) := by
  obtain ⟨p, l', e, R, s, m, args, below, meth, c, Q, A, D', cA', nL, r'⟩ := Γ
  obtain ⟨⟨rfl, rfl, rfl, rfl, rfl, rfl⟩, ⟨hx, hb, hml, hown, hts⟩, hK, hr, hA⟩ := G
  intro H locs ls hP hS hL
  exact lv_astore_n hx hb d rfl hL hq rfl (fun ls' h' => kk H locs ls' hP hS (hl ▸ lput_has h'))

theorem v_astore (G : Cok l D cA r Rm Γ cc own Ts mL) {i : Nat} {x : Nat} (lv' : List (Nat × Value)) (d : decode cc pc = .ok (.astore i, 2)) (hq : i < mL) (hl : lput lv i (.ref x) = lv') (kk : V Γ z kc ks lv' (pc + 2) st) : V Γ z kc ks lv pc (.ref x :: st) := by
  obtain ⟨p, l', e, R, s, m, args, below, meth, c, Q, A, D', cA', nL, r'⟩ := Γ
  obtain ⟨⟨rfl, rfl, rfl, rfl, rfl, rfl⟩, ⟨hx, hb, hml, hown, hts⟩, hK, hr, hA⟩ := G
  intro H locs ls hP hS hL
  exact lv_astore hx hb d hL hq rfl (fun ls' h' => kk H locs ls' hP hS (hl ▸ lput_has h'))

theorem v_iinc (G : Cok l D cA r Rm Γ cc own Ts mL) {i : Nat} {n x : Int} (lv' : List (Nat × Value)) (d : decode cc pc = .ok (.iinc i n, 3)) (j : Nat) (hj : lv[j]? = some (i, .int (iN x))) (hq : i < mL) (hl : lput lv i (.int (iN (x + n))) = lv') (kk : V Γ z kc ks lv' (pc + 3) st) : V Γ z kc ks lv pc st := by
  obtain ⟨p, l', e, R, s, m, args, below, meth, c, Q, A, D', cA', nL, r'⟩ := Γ
  obtain ⟨⟨rfl, rfl, rfl, rfl, rfl, rfl⟩, ⟨hx, hb, hml, hown, hts⟩, hK, hr, hA⟩ := G
  intro H locs ls hP hS hL
  exact lv_iinc hx hb d hL hj (iN_add x n) hq rfl (fun ls' h' => kk H locs ls' hP hS (hl ▸ lput_has h'))

theorem v_iadd (G : Cok l D cA r Rm Γ cc own Ts mL) {x y : Int} (d : decode cc pc = .ok (.iadd, 1)) (kk : V Γ z kc ks lv (pc + 1) (.int (iN (x + y)) :: st)) : V Γ z kc ks lv pc (.int (iN y) :: .int (iN x) :: st) := by
  obtain ⟨p, l', e, R, s, m, args, below, meth, c, Q, A, D', cA', nL, r'⟩ := Γ
  obtain ⟨⟨rfl, rfl, rfl, rfl, rfl, rfl⟩, ⟨hx, hb, hml, hown, hts⟩, hK, hr, hA⟩ := G
  intro H locs ls hP hS hL
  refine lv_iadd hx hb d ?_
  rw [iN_add]
  exact kk H locs ls hP hS hL

theorem v_isub (G : Cok l D cA r Rm Γ cc own Ts mL) {x y : Int} (d : decode cc pc = .ok (.isub, 1)) (kk : V Γ z kc ks lv (pc + 1) (.int (iN (x - y)) :: st)) : V Γ z kc ks lv pc (.int (iN y) :: .int (iN x) :: st) := by
  obtain ⟨p, l', e, R, s, m, args, below, meth, c, Q, A, D', cA', nL, r'⟩ := Γ
  obtain ⟨⟨rfl, rfl, rfl, rfl, rfl, rfl⟩, ⟨hx, hb, hml, hown, hts⟩, hK, hr, hA⟩ := G
  intro H locs ls hP hS hL
  refine lv_isub hx hb d ?_
  rw [iN_sub]
  exact kk H locs ls hP hS hL

theorem v_imul (G : Cok l D cA r Rm Γ cc own Ts mL) {x y : Int} (d : decode cc pc = .ok (.imul, 1)) (kk : V Γ z kc ks lv (pc + 1) (.int (iN (x * y)) :: st)) : V Γ z kc ks lv pc (.int (iN y) :: .int (iN x) :: st) := by
  obtain ⟨p, l', e, R, s, m, args, below, meth, c, Q, A, D', cA', nL, r'⟩ := Γ
  obtain ⟨⟨rfl, rfl, rfl, rfl, rfl, rfl⟩, ⟨hx, hb, hml, hown, hts⟩, hK, hr, hA⟩ := G
  intro H locs ls hP hS hL
  refine lv_imul hx hb d ?_
  rw [iN_mul]
  exact kk H locs ls hP hS hL

theorem v_idiv (G : Cok l D cA r Rm Γ cc own Ts mL) {x y : Int} (h1 : 0 ≤ x ∧ x < 2147483648) (h2 : 0 < y ∧ y < 2147483648) (d : decode cc pc = .ok (.idiv, 1)) (kk : V Γ z kc ks lv (pc + 1) (.int (iN (x / y)) :: st)) : V Γ z kc ks lv pc (.int (iN y) :: .int (iN x) :: st) := by
  obtain ⟨p, l', e, R, s, m, args, below, meth, c, Q, A, D', cA', nL, r'⟩ := Γ
  obtain ⟨⟨rfl, rfl, rfl, rfl, rfl, rfl⟩, ⟨hx, hb, hml, hown, hts⟩, hK, hr, hA⟩ := G
  intro H locs ls hP hS hL
  refine lv_idiv hx hb d (fun q => by have h9 := congrArg Int32.toInt q; rw [iN_int (by omega), show (0 : Int32).toInt = 0 from rfl] at h9; omega) ?_
  rw [iN_div h1 h2]
  exact kk H locs ls hP hS hL

theorem v_irem (G : Cok l D cA r Rm Γ cc own Ts mL) {x y : Int} (h1 : 0 ≤ x ∧ x < 2147483648) (h2 : 0 < y ∧ y < 2147483648) (d : decode cc pc = .ok (.irem, 1)) (kk : V Γ z kc ks lv (pc + 1) (.int (iN (x % y)) :: st)) : V Γ z kc ks lv pc (.int (iN y) :: .int (iN x) :: st) := by
  obtain ⟨p, l', e, R, s, m, args, below, meth, c, Q, A, D', cA', nL, r'⟩ := Γ
  obtain ⟨⟨rfl, rfl, rfl, rfl, rfl, rfl⟩, ⟨hx, hb, hml, hown, hts⟩, hK, hr, hA⟩ := G
  intro H locs ls hP hS hL
  refine lv_irem hx hb d (fun q => by have h9 := congrArg Int32.toInt q; rw [iN_int (by omega), show (0 : Int32).toInt = 0 from rfl] at h9; omega) ?_
  rw [iN_mod h1 h2]
  exact kk H locs ls hP hS hL

theorem v_iand0 (G : Cok l D cA r Rm Γ cc own Ts mL) {x y : Int32} (d : decode cc pc = .ok (.iand, 1)) (kk : V Γ z kc ks lv (pc + 1) (.int (x &&& y) :: st)) : V Γ z kc ks lv pc (.int y :: .int x :: st) := by
  obtain ⟨p, l', e, R, s, m, args, below, meth, c, Q, A, D', cA', nL, r'⟩ := Γ
  obtain ⟨⟨rfl, rfl, rfl, rfl, rfl, rfl⟩, ⟨hx, hb, hml, hown, hts⟩, hK, hr, hA⟩ := G
  intro H locs ls hP hS hL
  exact lv_iand hx hb d (kk H locs ls hP hS hL)

theorem v_ior0 (G : Cok l D cA r Rm Γ cc own Ts mL) {x y : Int32} (d : decode cc pc = .ok (.ior, 1)) (kk : V Γ z kc ks lv (pc + 1) (.int (x ||| y) :: st)) : V Γ z kc ks lv pc (.int y :: .int x :: st) := by
  obtain ⟨p, l', e, R, s, m, args, below, meth, c, Q, A, D', cA', nL, r'⟩ := Γ
  obtain ⟨⟨rfl, rfl, rfl, rfl, rfl, rfl⟩, ⟨hx, hb, hml, hown, hts⟩, hK, hr, hA⟩ := G
  intro H locs ls hP hS hL
  exact lv_ior hx hb d (kk H locs ls hP hS hL)

theorem v_ishl0 (G : Cok l D cA r Rm Γ cc own Ts mL) {x y : Int32} (d : decode cc pc = .ok (.ishl, 1)) (kk : V Γ z kc ks lv (pc + 1) (.int (x <<< (y &&& 31)) :: st)) : V Γ z kc ks lv pc (.int y :: .int x :: st) := by
  obtain ⟨p, l', e, R, s, m, args, below, meth, c, Q, A, D', cA', nL, r'⟩ := Γ
  obtain ⟨⟨rfl, rfl, rfl, rfl, rfl, rfl⟩, ⟨hx, hb, hml, hown, hts⟩, hK, hr, hA⟩ := G
  intro H locs ls hP hS hL
  exact lv_ishl hx hb d (kk H locs ls hP hS hL)

theorem v_ishr0 (G : Cok l D cA r Rm Γ cc own Ts mL) {x y : Int32} (d : decode cc pc = .ok (.ishr, 1)) (kk : V Γ z kc ks lv (pc + 1) (.int (x >>> (y &&& 31)) :: st)) : V Γ z kc ks lv pc (.int y :: .int x :: st) := by
  obtain ⟨p, l', e, R, s, m, args, below, meth, c, Q, A, D', cA', nL, r'⟩ := Γ
  obtain ⟨⟨rfl, rfl, rfl, rfl, rfl, rfl⟩, ⟨hx, hb, hml, hown, hts⟩, hK, hr, hA⟩ := G
  intro H locs ls hP hS hL
  exact lv_ishr hx hb d (kk H locs ls hP hS hL)

theorem v_eqi (G : Cok l D cA r Rm Γ cc own Ts mL) {x y : Int32} (h : x = y) (kk : V Γ z kc ks lv pc (.int y :: st)) : V Γ z kc ks lv pc (.int x :: st) := by
  obtain ⟨p, l', e, R, s, m, args, below, meth, c, Q, A, D', cA', nL, r'⟩ := Γ
  obtain ⟨⟨rfl, rfl, rfl, rfl, rfl, rfl⟩, ⟨hx, hb, hml, hown, hts⟩, hK, hr, hA⟩ := G
  intro H locs ls hP hS hL
  rw [h]
  exact kk H locs ls hP hS hL

theorem v_dup (G : Cok l D cA r Rm Γ cc own Ts mL) {v : Value} (d : decode cc pc = .ok (.dup, 1)) (hv : v.category = 1) (kk : V Γ z kc ks lv (pc + 1) (v :: v :: st)) : V Γ z kc ks lv pc (v :: st) := by
  obtain ⟨p, l', e, R, s, m, args, below, meth, c, Q, A, D', cA', nL, r'⟩ := Γ
  obtain ⟨⟨rfl, rfl, rfl, rfl, rfl, rfl⟩, ⟨hx, hb, hml, hown, hts⟩, hK, hr, hA⟩ := G
  intro H locs ls hP hS hL
  exact lv_dup hx hb d hv (kk H locs ls hP hS hL)

theorem v_pop (G : Cok l D cA r Rm Γ cc own Ts mL) {v : Value} (d : decode cc pc = .ok (.pop, 1)) (hv : v.category = 1) (kk : V Γ z kc ks lv (pc + 1) st) : V Γ z kc ks lv pc (v :: st) := by
  obtain ⟨p, l', e, R, s, m, args, below, meth, c, Q, A, D', cA', nL, r'⟩ := Γ
  obtain ⟨⟨rfl, rfl, rfl, rfl, rfl, rfl⟩, ⟨hx, hb, hml, hown, hts⟩, hK, hr, hA⟩ := G
  intro H locs ls hP hS hL
  exact lv_pop hx hb d hv (kk H locs ls hP hS hL)

theorem v_dup2 (G : Cok l D cA r Rm Γ cc own Ts mL) {v w : Value} (d : decode cc pc = .ok (.dup2, 1)) (hv : v.category = 1) (hw : w.category = 1) (kk : V Γ z kc ks lv (pc + 1) (v :: w :: v :: w :: st)) : V Γ z kc ks lv pc (v :: w :: st) := by
  obtain ⟨p, l', e, R, s, m, args, below, meth, c, Q, A, D', cA', nL, r'⟩ := Γ
  obtain ⟨⟨rfl, rfl, rfl, rfl, rfl, rfl⟩, ⟨hx, hb, hml, hown, hts⟩, hK, hr, hA⟩ := G
  intro H locs ls hP hS hL
  exact lv_dup2_11 hx hb d hv hw (kk H locs ls hP hS hL)

theorem v_goto (G : Cok l D cA r Rm Γ cc own Ts mL) {off : Int} (tgt : Nat) (d : decode cc pc = .ok (.goto off, 3)) (ht : (pc : Int) + off = (tgt : Int)) (kk : V Γ z kc ks lv tgt st) : V Γ z kc ks lv pc st := by
  obtain ⟨p, l', e, R, s, m, args, below, meth, c, Q, A, D', cA', nL, r'⟩ := Γ
  obtain ⟨⟨rfl, rfl, rfl, rfl, rfl, rfl⟩, ⟨hx, hb, hml, hown, hts⟩, hK, hr, hA⟩ := G
  intro H locs ls hP hS hL
  exact lv_goto hx hb d ht (kk H locs ls hP hS hL)

theorem v_icmp_eq (G : Cok l D cA r Rm Γ cc own Ts mL) {x y : Int} {off : Int} (tgt : Nat) (hxx : -2147483648 ≤ x ∧ x < 2147483648) (hyy : -2147483648 ≤ y ∧ y < 2147483648) (d : decode cc pc = .ok (.if_icmp .eq off, 3)) (ht : (pc : Int) + off = (tgt : Int)) (kt : x = y → V Γ z kc ks lv tgt st) (kf : ¬ x = y → V Γ z kc ks lv (pc + 3) st) : V Γ z kc ks lv pc (.int (iN y) :: .int (iN x) :: st) := by
  obtain ⟨p, l', e, R, s, m, args, below, meth, c, Q, A, D', cA', nL, r'⟩ := Γ
  obtain ⟨⟨rfl, rfl, rfl, rfl, rfl, rfl⟩, ⟨hx, hb, hml, hown, hts⟩, hK, hr, hA⟩ := G
  intro H locs ls hP hS hL
  exact lv_icmp_eq hx hb d ht (fun q => kt ((iN_eq hxx hyy).mp q) H locs ls hP hS hL) (fun q => kf (fun q2 => q ((iN_eq hxx hyy).mpr q2)) H locs ls hP hS hL)

theorem v_if_eq (G : Cok l D cA r Rm Γ cc own Ts mL) {x : Int} {off : Int} (tgt : Nat) (hxx : -2147483648 ≤ x ∧ x < 2147483648) (d : decode cc pc = .ok (.ifCond .eq off, 3)) (ht : (pc : Int) + off = (tgt : Int)) (kt : x = 0 → V Γ z kc ks lv tgt st) (kf : ¬ x = 0 → V Γ z kc ks lv (pc + 3) st) : V Γ z kc ks lv pc (.int (iN x) :: st) := by
  obtain ⟨p, l', e, R, s, m, args, below, meth, c, Q, A, D', cA', nL, r'⟩ := Γ
  obtain ⟨⟨rfl, rfl, rfl, rfl, rfl, rfl⟩, ⟨hx, hb, hml, hown, hts⟩, hK, hr, hA⟩ := G
  intro H locs ls hP hS hL
  have b0 : -2147483648 ≤ (0 : Int) ∧ (0 : Int) < 2147483648 := by omega
  exact lv_if_eq hx hb d ht (fun q => kt ((iN_eq hxx b0).mp q) H locs ls hP hS hL) (fun q => kf (fun q2 => q ((iN_eq hxx b0).mpr q2)) H locs ls hP hS hL)

theorem v_icmp_ne (G : Cok l D cA r Rm Γ cc own Ts mL) {x y : Int} {off : Int} (tgt : Nat) (hxx : -2147483648 ≤ x ∧ x < 2147483648) (hyy : -2147483648 ≤ y ∧ y < 2147483648) (d : decode cc pc = .ok (.if_icmp .ne off, 3)) (ht : (pc : Int) + off = (tgt : Int)) (kt : ¬ x = y → V Γ z kc ks lv tgt st) (kf : x = y → V Γ z kc ks lv (pc + 3) st) : V Γ z kc ks lv pc (.int (iN y) :: .int (iN x) :: st) := by
  obtain ⟨p, l', e, R, s, m, args, below, meth, c, Q, A, D', cA', nL, r'⟩ := Γ
  obtain ⟨⟨rfl, rfl, rfl, rfl, rfl, rfl⟩, ⟨hx, hb, hml, hown, hts⟩, hK, hr, hA⟩ := G
  intro H locs ls hP hS hL
  exact lv_icmp_ne hx hb d ht (fun q => kt (fun q2 => q ((iN_eq hxx hyy).mpr q2)) H locs ls hP hS hL) (fun q => kf ((iN_eq hxx hyy).mp q) H locs ls hP hS hL)

theorem v_if_ne (G : Cok l D cA r Rm Γ cc own Ts mL) {x : Int} {off : Int} (tgt : Nat) (hxx : -2147483648 ≤ x ∧ x < 2147483648) (d : decode cc pc = .ok (.ifCond .ne off, 3)) (ht : (pc : Int) + off = (tgt : Int)) (kt : ¬ x = 0 → V Γ z kc ks lv tgt st) (kf : x = 0 → V Γ z kc ks lv (pc + 3) st) : V Γ z kc ks lv pc (.int (iN x) :: st) := by
  obtain ⟨p, l', e, R, s, m, args, below, meth, c, Q, A, D', cA', nL, r'⟩ := Γ
  obtain ⟨⟨rfl, rfl, rfl, rfl, rfl, rfl⟩, ⟨hx, hb, hml, hown, hts⟩, hK, hr, hA⟩ := G
  intro H locs ls hP hS hL
  have b0 : -2147483648 ≤ (0 : Int) ∧ (0 : Int) < 2147483648 := by omega
  exact lv_if_ne hx hb d ht (fun q => kt (fun q2 => q ((iN_eq hxx b0).mpr q2)) H locs ls hP hS hL) (fun q => kf ((iN_eq hxx b0).mp q) H locs ls hP hS hL)

theorem v_icmp_lt (G : Cok l D cA r Rm Γ cc own Ts mL) {x y : Int} {off : Int} (tgt : Nat) (hxx : -2147483648 ≤ x ∧ x < 2147483648) (hyy : -2147483648 ≤ y ∧ y < 2147483648) (d : decode cc pc = .ok (.if_icmp .lt off, 3)) (ht : (pc : Int) + off = (tgt : Int)) (kt : x < y → V Γ z kc ks lv tgt st) (kf : y ≤ x → V Γ z kc ks lv (pc + 3) st) : V Γ z kc ks lv pc (.int (iN y) :: .int (iN x) :: st) := by
  obtain ⟨p, l', e, R, s, m, args, below, meth, c, Q, A, D', cA', nL, r'⟩ := Γ
  obtain ⟨⟨rfl, rfl, rfl, rfl, rfl, rfl⟩, ⟨hx, hb, hml, hown, hts⟩, hK, hr, hA⟩ := G
  intro H locs ls hP hS hL
  exact lv_icmp_lt hx hb d ht (fun q => kt ((iN_lt hxx hyy).mp q) H locs ls hP hS hL) (fun q => kf (Int.not_lt.mp (fun q2 => q ((iN_lt hxx hyy).mpr q2))) H locs ls hP hS hL)

theorem v_if_lt (G : Cok l D cA r Rm Γ cc own Ts mL) {x : Int} {off : Int} (tgt : Nat) (hxx : -2147483648 ≤ x ∧ x < 2147483648) (d : decode cc pc = .ok (.ifCond .lt off, 3)) (ht : (pc : Int) + off = (tgt : Int)) (kt : x < 0 → V Γ z kc ks lv tgt st) (kf : 0 ≤ x → V Γ z kc ks lv (pc + 3) st) : V Γ z kc ks lv pc (.int (iN x) :: st) := by
  obtain ⟨p, l', e, R, s, m, args, below, meth, c, Q, A, D', cA', nL, r'⟩ := Γ
  obtain ⟨⟨rfl, rfl, rfl, rfl, rfl, rfl⟩, ⟨hx, hb, hml, hown, hts⟩, hK, hr, hA⟩ := G
  intro H locs ls hP hS hL
  have b0 : -2147483648 ≤ (0 : Int) ∧ (0 : Int) < 2147483648 := by omega
  exact lv_if_lt hx hb d ht (fun q => kt ((iN_lt hxx b0).mp q) H locs ls hP hS hL) (fun q => kf (Int.not_lt.mp (fun q2 => q ((iN_lt hxx b0).mpr q2))) H locs ls hP hS hL)

theorem v_icmp_ge (G : Cok l D cA r Rm Γ cc own Ts mL) {x y : Int} {off : Int} (tgt : Nat) (hxx : -2147483648 ≤ x ∧ x < 2147483648) (hyy : -2147483648 ≤ y ∧ y < 2147483648) (d : decode cc pc = .ok (.if_icmp .ge off, 3)) (ht : (pc : Int) + off = (tgt : Int)) (kt : y ≤ x → V Γ z kc ks lv tgt st) (kf : x < y → V Γ z kc ks lv (pc + 3) st) : V Γ z kc ks lv pc (.int (iN y) :: .int (iN x) :: st) := by
  obtain ⟨p, l', e, R, s, m, args, below, meth, c, Q, A, D', cA', nL, r'⟩ := Γ
  obtain ⟨⟨rfl, rfl, rfl, rfl, rfl, rfl⟩, ⟨hx, hb, hml, hown, hts⟩, hK, hr, hA⟩ := G
  intro H locs ls hP hS hL
  exact lv_icmp_ge hx hb d ht (fun q => kt ((iN_le hyy hxx).mp q) H locs ls hP hS hL) (fun q => kf (Int.not_le.mp (fun q2 => q ((iN_le hyy hxx).mpr q2))) H locs ls hP hS hL)

theorem v_if_ge (G : Cok l D cA r Rm Γ cc own Ts mL) {x : Int} {off : Int} (tgt : Nat) (hxx : -2147483648 ≤ x ∧ x < 2147483648) (d : decode cc pc = .ok (.ifCond .ge off, 3)) (ht : (pc : Int) + off = (tgt : Int)) (kt : 0 ≤ x → V Γ z kc ks lv tgt st) (kf : x < 0 → V Γ z kc ks lv (pc + 3) st) : V Γ z kc ks lv pc (.int (iN x) :: st) := by
  obtain ⟨p, l', e, R, s, m, args, below, meth, c, Q, A, D', cA', nL, r'⟩ := Γ
  obtain ⟨⟨rfl, rfl, rfl, rfl, rfl, rfl⟩, ⟨hx, hb, hml, hown, hts⟩, hK, hr, hA⟩ := G
  intro H locs ls hP hS hL
  have b0 : -2147483648 ≤ (0 : Int) ∧ (0 : Int) < 2147483648 := by omega
  exact lv_if_ge hx hb d ht (fun q => kt ((iN_le b0 hxx).mp q) H locs ls hP hS hL) (fun q => kf (Int.not_le.mp (fun q2 => q ((iN_le b0 hxx).mpr q2))) H locs ls hP hS hL)

theorem v_icmp_gt (G : Cok l D cA r Rm Γ cc own Ts mL) {x y : Int} {off : Int} (tgt : Nat) (hxx : -2147483648 ≤ x ∧ x < 2147483648) (hyy : -2147483648 ≤ y ∧ y < 2147483648) (d : decode cc pc = .ok (.if_icmp .gt off, 3)) (ht : (pc : Int) + off = (tgt : Int)) (kt : y < x → V Γ z kc ks lv tgt st) (kf : x ≤ y → V Γ z kc ks lv (pc + 3) st) : V Γ z kc ks lv pc (.int (iN y) :: .int (iN x) :: st) := by
  obtain ⟨p, l', e, R, s, m, args, below, meth, c, Q, A, D', cA', nL, r'⟩ := Γ
  obtain ⟨⟨rfl, rfl, rfl, rfl, rfl, rfl⟩, ⟨hx, hb, hml, hown, hts⟩, hK, hr, hA⟩ := G
  intro H locs ls hP hS hL
  exact lv_icmp_gt hx hb d ht (fun q => kt ((iN_lt hyy hxx).mp q) H locs ls hP hS hL) (fun q => kf (Int.not_lt.mp (fun q2 => q ((iN_lt hyy hxx).mpr q2))) H locs ls hP hS hL)

theorem v_if_gt (G : Cok l D cA r Rm Γ cc own Ts mL) {x : Int} {off : Int} (tgt : Nat) (hxx : -2147483648 ≤ x ∧ x < 2147483648) (d : decode cc pc = .ok (.ifCond .gt off, 3)) (ht : (pc : Int) + off = (tgt : Int)) (kt : 0 < x → V Γ z kc ks lv tgt st) (kf : x ≤ 0 → V Γ z kc ks lv (pc + 3) st) : V Γ z kc ks lv pc (.int (iN x) :: st) := by
  obtain ⟨p, l', e, R, s, m, args, below, meth, c, Q, A, D', cA', nL, r'⟩ := Γ
  obtain ⟨⟨rfl, rfl, rfl, rfl, rfl, rfl⟩, ⟨hx, hb, hml, hown, hts⟩, hK, hr, hA⟩ := G
  intro H locs ls hP hS hL
  have b0 : -2147483648 ≤ (0 : Int) ∧ (0 : Int) < 2147483648 := by omega
  exact lv_if_gt hx hb d ht (fun q => kt ((iN_lt b0 hxx).mp q) H locs ls hP hS hL) (fun q => kf (Int.not_lt.mp (fun q2 => q ((iN_lt b0 hxx).mpr q2))) H locs ls hP hS hL)

theorem v_icmp_le (G : Cok l D cA r Rm Γ cc own Ts mL) {x y : Int} {off : Int} (tgt : Nat) (hxx : -2147483648 ≤ x ∧ x < 2147483648) (hyy : -2147483648 ≤ y ∧ y < 2147483648) (d : decode cc pc = .ok (.if_icmp .le off, 3)) (ht : (pc : Int) + off = (tgt : Int)) (kt : x ≤ y → V Γ z kc ks lv tgt st) (kf : y < x → V Γ z kc ks lv (pc + 3) st) : V Γ z kc ks lv pc (.int (iN y) :: .int (iN x) :: st) := by
  obtain ⟨p, l', e, R, s, m, args, below, meth, c, Q, A, D', cA', nL, r'⟩ := Γ
  obtain ⟨⟨rfl, rfl, rfl, rfl, rfl, rfl⟩, ⟨hx, hb, hml, hown, hts⟩, hK, hr, hA⟩ := G
  intro H locs ls hP hS hL
  exact lv_icmp_le hx hb d ht (fun q => kt ((iN_le hxx hyy).mp q) H locs ls hP hS hL) (fun q => kf (Int.not_le.mp (fun q2 => q ((iN_le hxx hyy).mpr q2))) H locs ls hP hS hL)

theorem v_if_le (G : Cok l D cA r Rm Γ cc own Ts mL) {x : Int} {off : Int} (tgt : Nat) (hxx : -2147483648 ≤ x ∧ x < 2147483648) (d : decode cc pc = .ok (.ifCond .le off, 3)) (ht : (pc : Int) + off = (tgt : Int)) (kt : x ≤ 0 → V Γ z kc ks lv tgt st) (kf : 0 < x → V Γ z kc ks lv (pc + 3) st) : V Γ z kc ks lv pc (.int (iN x) :: st) := by
  obtain ⟨p, l', e, R, s, m, args, below, meth, c, Q, A, D', cA', nL, r'⟩ := Γ
  obtain ⟨⟨rfl, rfl, rfl, rfl, rfl, rfl⟩, ⟨hx, hb, hml, hown, hts⟩, hK, hr, hA⟩ := G
  intro H locs ls hP hS hL
  have b0 : -2147483648 ≤ (0 : Int) ∧ (0 : Int) < 2147483648 := by omega
  exact lv_if_le hx hb d ht (fun q => kt ((iN_le hxx b0).mp q) H locs ls hP hS hL) (fun q => kf (Int.not_le.mp (fun q2 => q ((iN_le hxx b0).mpr q2))) H locs ls hP hS hL)

theorem v_getf (G : Cok l D cA r Rm Γ cc own Ts mL) {C : String} {T : u_T} {N ci K t k idx : Nat} {fs : List Value} {v : Value} (hin : ∀ w ∈ u_ws C T N, w ∈ Ts) (hlk : Cond.fieldLink own idx (T k).1 (T k).2.1 (T k).2.2.1 ∈ Ts) (hc : vwCl[ci]? = some (C, T, N)) (hk : k < N) (ht : kd t = K) (hK0 : K ≠ 0) (hcl : cl K r cA t (z t) = .inr (ci, fs)) (hv : fs[k]? = some v) (d : decode cc pc = .ok (.getfield idx, 3)) (kk : V Γ z kc ks lv (pc + 3) (v :: st)) : V Γ z kc ks lv pc (.ref (r t) :: st) := by
  obtain ⟨p, l', e, R, s, m, args, below, meth, c, Q, A, D', cA', nL, r'⟩ := Γ
  obtain ⟨⟨rfl, rfl, rfl, rfl, rfl, rfl⟩, ⟨hx, hb, hml, hown, hts⟩, hK, hr, hA⟩ := G
  intro H locs ls hP hS hL
  exact va_get hx hb hts hin hown hK hP t ((wl_at (kd_lt ht hK0)).trans (by rw [Ez, ht, hcl])) hc k hk (hts _ hlk) (fun _ h => h) hv d (kk H locs ls hP hS hL)

theorem v_putf (G : Cok l D cA r Rm Γ cc own Ts mL) {C : String} {T : u_T} {N ci K t k idx : Nat} {x : Int} {fs : List Value} {ty0 : Nat → FieldType} (hin : ∀ w ∈ u_ws C T N, w ∈ Ts) (hty : ∀ k, k < N → parseFieldDescriptor (T k).2.2.1 = some (ty0 k)) (hnm : ∀ a, a < N → ∀ b, b < N → a ≠ b → (T a).2.1 ≠ (T b).2.1) (hlk : Cond.fieldLink own idx (T k).1 (T k).2.1 (T k).2.2.1 ∈ Ts) (hc : vwCl[ci]? = some (C, T, N)) (hk : k < N) (hfin : (T k).2.2.2 = false) (hdd : parseFieldDescriptor (T k).2.2.1 = some .int) (ht : kd t = K) (hK0 : K ≠ 0) (hcl : cl K r cA t (z t) = .inr (ci, fs)) (hlen : k < fs.length) (hcl2 : cl K r cA t (fun j => if j = k then x else z t j) = .inr (ci, fs.set k (.int (iN x)))) (d : decode cc pc = .ok (.putfield idx, 3)) (kk : V Γ (zup z t k x) kc ks lv (pc + 3) st) : V Γ z kc ks lv pc (.int (iN x) :: .ref (r t) :: st) := by
  obtain ⟨p, l', e, R, s, m, args, below, meth, c, Q, A, D', cA', nL, r'⟩ := Γ
  obtain ⟨⟨rfl, rfl, rfl, rfl, rfl, rfl⟩, ⟨hx, hb, hml, hown, hts⟩, hK, hr, hA⟩ := G
  intro H locs ls hP hS hL
  refine va_put (v := .int (iN x)) hx hb hts hin ty0 hty hnm hown hK hP (wl_D hr hA) hS t ((wl_at (kd_lt ht hK0)).trans (by rw [Ez, ht, hcl])) hc k hk (hts _ hlk) (fun _ h => h) hfin hdd rfl rfl hlen d (fun H1 locs1 hP1 _ hS1 => kk H1 locs1 ls ?_ hS1 hL)
  rw [wz, ← Ez_up ht hcl2, ← wl_set (kd_lt ht hK0)]
  exact hP1

theorem v_iald (G : Cok l D cA r Rm Γ cc own Ts mL) {K a n : Nat} {i : Int} (ht : kd a = K) (hK0 : K ≠ 0) (hcl : cl K r cA a (z a) = .inl (cA 0, n, .inl (fun j => iN (z a j)))) (hn : n < 2147483648) (hi : 0 ≤ i ∧ i < (n : Int)) (d : decode cc pc = .ok (.iaload, 1)) (kk : V Γ z kc ks lv (pc + 1) (.int (iN (z a i.toNat)) :: st)) : V Γ z kc ks lv pc (.int (iN i) :: .ref (r a) :: st) := by
  obtain ⟨p, l', e, R, s, m, args, below, meth, c, Q, A, D', cA', nL, r'⟩ := Γ
  obtain ⟨⟨rfl, rfl, rfl, rfl, rfl, rfl⟩, ⟨hx, hb, hml, hown, hts⟩, hK, hr, hA⟩ := G
  intro H locs ls hP hS hL
  refine va_iald hx hb hK hP a 0 (f := fun j => iN (z a j)) ((wl_at (kd_lt ht hK0)).trans (by rw [Ez, ht, hcl])) rfl (iN_in hi hn) d ?_
  rw [iN_cl ⟨hi.1, by omega⟩]
  exact kk H locs ls hP hS hL

theorem v_zald (G : Cok l D cA r Rm Γ cc own Ts mL) {a : Nat} {i : Int} (ht : kd a = 20) (hi : 0 ≤ i ∧ i < 2) (d : decode cc pc = .ok (.baload, 1)) (kk : V Γ z kc ks lv (pc + 1) (.int (iN (z a i.toNat)) :: st)) : V Γ z kc ks lv pc (.int (iN i) :: .ref (r a) :: st) := by
  obtain ⟨p, l', e, R, s, m, args, below, meth, c, Q, A, D', cA', nL, r'⟩ := Γ
  obtain ⟨⟨rfl, rfl, rfl, rfl, rfl, rfl⟩, ⟨hx, hb, hml, hown, hts⟩, hK, hr, hA⟩ := G
  intro H locs ls hP hS hL
  refine va_zald hx hb hK hP a 1 (f := fun j => iN (z a j)) (n := 2) ((wl_at (kd_lt ht (by decide))).trans (by rw [Ez, ht]; rfl)) rfl (iN_in (n := 2) hi (by decide)) d ?_
  rw [iN_cl ⟨hi.1, by omega⟩]
  exact kk H locs ls hP hS hL

theorem v_aaldF (G : Cok l D cA r Rm Γ cc own Ts mL) {a : Nat} {i : Int} (ht : kd a = 40) (hi : 0 ≤ i ∧ i < 10) (d : decode cc pc = .ok (.aaload, 1)) (kk : V Γ z kc ks lv (pc + 1) (.ref (r (a + 1 + i.toNat)) :: st)) : V Γ z kc ks lv pc (.int (iN i) :: .ref (r a) :: st) := by
  obtain ⟨p, l', e, R, s, m, args, below, meth, c, Q, A, D', cA', nL, r'⟩ := Γ
  obtain ⟨⟨rfl, rfl, rfl, rfl, rfl, rfl⟩, ⟨hx, hb, hml, hown, hts⟩, hK, hr, hA⟩ := G
  intro H locs ls hP hS hL
  refine va_aldq hx hb hK hP a 3 (f := fun j => some (r' (a + 1 + j))) (n := 10) (C := RX1) ((wl_at (kd_lt ht (by decide))).trans (by rw [Ez, ht]; rfl)) rfl (iN_in (n := 10) hi (by decide)) d ?_
  rw [iN_cl ⟨hi.1, by omega⟩]
  exact kk H locs ls hP hS hL

theorem v_aaldS (G : Cok l D cA r Rm Γ cc own Ts mL) {a K n : Nat} {i : Int} (ht : kd a = K) (hK0 : K ≠ 0) (hcl : cl K r cA a (z a) = .inl (cA 4, n, .inr (.inr (.inr (.inr (fun j => some (r (z a j).toNat))))))) (hn : n < 2147483648) (hi : 0 ≤ i ∧ i < (n : Int)) (d : decode cc pc = .ok (.aaload, 1)) (kk : V Γ z kc ks lv (pc + 1) (.ref (r (z a i.toNat).toNat) :: st)) : V Γ z kc ks lv pc (.int (iN i) :: .ref (r a) :: st) := by
  obtain ⟨p, l', e, R, s, m, args, below, meth, c, Q, A, D', cA', nL, r'⟩ := Γ
  obtain ⟨⟨rfl, rfl, rfl, rfl, rfl, rfl⟩, ⟨hx, hb, hml, hown, hts⟩, hK, hr, hA⟩ := G
  intro H locs ls hP hS hL
  refine va_aldq hx hb hK hP a 4 (f := fun j => some (r' (z a j).toNat)) (C := RX2) ((wl_at (kd_lt ht hK0)).trans (by rw [Ez, ht, hcl])) rfl (iN_in hi hn) d ?_
  rw [iN_cl ⟨hi.1, by omega⟩]
  exact kk H locs ls hP hS hL

theorem v_iast (G : Cok l D cA r Rm Γ cc own Ts mL) {K a n : Nat} {i x : Int} (ht : kd a = K) (hK0 : K ≠ 0) (hcl : ∀ f : Nat → Int, cl K r cA a f = .inl (cA 0, n, .inl (fun j => iN (f j)))) (hn : n < 2147483648) (hi : 0 ≤ i ∧ i < (n : Int)) (d : decode cc pc = .ok (.iastore, 1)) (kk : V Γ (zup z a i.toNat x) kc ks lv (pc + 1) st) : V Γ z kc ks lv pc (.int (iN x) :: .int (iN i) :: .ref (r a) :: st) := by
  obtain ⟨p, l', e, R, s, m, args, below, meth, c, Q, A, D', cA', nL, r'⟩ := Γ
  obtain ⟨⟨rfl, rfl, rfl, rfl, rfl, rfl⟩, ⟨hx, hb, hml, hown, hts⟩, hK, hr, hA⟩ := G
  intro H locs ls hP hS hL
  refine va_iast hx hb hK hP (wl_D hr hA) hS a 0 (f := fun j => iN (z a j)) ((wl_at (kd_lt ht hK0)).trans (by rw [Ez, ht, hcl])) rfl (iN_in hi hn) d (fun H1 locs1 hP1 _ hS1 => kk H1 locs1 ls ?_ hS1 hL)
  rw [wz, ← Ez_up ht (hcl _), ← wl_set (kd_lt ht hK0)]
  rw [iN_cl ⟨hi.1, by omega⟩] at hP1
  refine Eq.mp (congrArg (fun f => va_P _ vwCl ((wl NN _ _).set a (_, .inl (_, n, .inl f))) H1) ?_) hP1
  funext j
  by_cases hj : j = i.toNat
  · simp [upd, hj]
  · simp [upd, hj]

theorem v_zast (G : Cok l D cA r Rm Γ cc own Ts mL) {a : Nat} {i : Int} (ht : kd a = 20) (hi : 0 ≤ i ∧ i < 2) (d : decode cc pc = .ok (.bastore, 1)) (kk : V Γ (zup z a i.toNat 1) kc ks lv (pc + 1) st) : V Γ z kc ks lv pc (.int (iN 1) :: .int (iN i) :: .ref (r a) :: st) := by
  obtain ⟨p, l', e, R, s, m, args, below, meth, c, Q, A, D', cA', nL, r'⟩ := Γ
  obtain ⟨⟨rfl, rfl, rfl, rfl, rfl, rfl⟩, ⟨hx, hb, hml, hown, hts⟩, hK, hr, hA⟩ := G
  intro H locs ls hP hS hL
  refine va_zast hx hb hK hP (wl_D hr hA) hS a 1 (f := fun j => iN (z a j)) (n := 2) ((wl_at (kd_lt ht (by decide))).trans (by rw [Ez, ht]; rfl)) rfl (iN_in (n := 2) hi (by decide)) d (fun H1 locs1 hP1 _ hS1 => kk H1 locs1 ls ?_ hS1 hL)
  rw [wz, ← Ez_up ht rfl, ← wl_set (kd_lt ht (by decide))]
  rw [iN_cl ⟨hi.1, by omega⟩, show vp_nar .boolean (iN 1) = iN 1 from by decide] at hP1
  refine Eq.mp (congrArg (fun f => va_P _ vwCl ((wl NN _ _).set a (_, .inl (_, 2, .inl f))) H1) ?_) hP1
  funext j
  by_cases hj : j = i.toNat
  · simp [upd, hj]
  · simp [upd, hj]

theorem v_aastS (G : Cok l D cA r Rm Γ cc own Ts mL) {a b K n : Nat} {i : Int} (ht : kd a = K) (hK0 : K ≠ 0) (hcl : ∀ f : Nat → Int, cl K r cA a f = .inl (cA 4, n, .inr (.inr (.inr (.inr (fun j => some (r (f j).toNat))))))) (hn : n < 2147483648) (hb2 : kd b = 2) (hi : 0 ≤ i ∧ i < (n : Int)) (d : decode cc pc = .ok (.aastore, 1)) (kk : V Γ (zup z a i.toNat (b : Int)) kc ks lv (pc + 1) st) : V Γ z kc ks lv pc (.ref (r b) :: .int (iN i) :: .ref (r a) :: st) := by
  obtain ⟨p, l', e, R, s, m, args, below, meth, c, Q, A, D', cA', nL, r'⟩ := Γ
  obtain ⟨⟨rfl, rfl, rfl, rfl, rfl, rfl⟩, ⟨hx, hb, hml, hown, hts⟩, hK, hr, hA⟩ := G
  intro H locs ls hP hS hL
  refine va_astq hx hb hK hP (wl_D hr hA) hS a 4 b 2 (f := fun j => some (r' (z a j).toNat)) (r := (RX2, TX2, 9)) ((wl_at (kd_lt ht hK0)).trans (by rw [Ez, ht, hcl])) rfl ((wl_at (kd_lt hb2 (by decide))).trans (by rw [Ez, hb2]; rfl)) rfl (iN_in hi hn) d (fun H1 locs1 hP1 _ hS1 => kk H1 locs1 ls ?_ hS1 hL)
  rw [wz, ← Ez_up ht (hcl _), ← wl_set (kd_lt ht hK0)]
  rw [iN_cl ⟨hi.1, by omega⟩] at hP1
  refine Eq.mp (congrArg (fun f => va_P _ vwCl ((wl NN _ _).set a (_, .inl (_, n, .inr (.inr (.inr (.inr f)))))) H1) ?_) hP1
  funext j
  by_cases hj : j = i.toNat
  · simp [va_up, hj]
  · simp [va_up, hj]

theorem v_alen (G : Cok l D cA r Rm Γ cc own Ts mL) {K a n : Nat} {x : vp_A} (ht : kd a = K) (hK0 : K ≠ 0) (hcl : cl K r cA a (z a) = .inl (cA 0, x)) (hx2 : x.1 = n) (d : decode cc pc = .ok (.arraylength, 1)) (kk : V Γ z kc ks lv (pc + 1) (.int (iN (n : Int)) :: st)) : V Γ z kc ks lv pc (.ref (r a) :: st) := by
  obtain ⟨p, l', e, R, s, m, args, below, meth, c, Q, A, D', cA', nL, r'⟩ := Γ
  obtain ⟨⟨rfl, rfl, rfl, rfl, rfl, rfl⟩, ⟨hx, hb, hml, hown, hts⟩, hK, hr, hA⟩ := G
  intro H locs ls hP hS hL
  exact va_alen hx hb hK hP a 0 (x := x) ((wl_at (kd_lt ht hK0)).trans (by rw [Ez, ht, hcl])) rfl (by rw [hx2]; exact (iN_nI n).symm) d (kk H locs ls hP hS hL)

theorem v_sub (G : Cok l D cA r Rm Γ cc own Ts mL) (lv' : List (Nat × Value)) (js : List Nat) (hl : lv_pick lv js = lv') (kk : V Γ z kc ks lv' pc st) : V Γ z kc ks lv pc st := by
  obtain ⟨p, l', e, R, s, m, args, below, meth, c, Q, A, D', cA', nL, r'⟩ := Γ
  obtain ⟨⟨rfl, rfl, rfl, rfl, rfl, rfl⟩, ⟨hx, hb, hml, hown, hts⟩, hK, hr, hA⟩ := G
  intro H locs ls hP hS hL
  exact kk H locs ls hP hS (lv_sub hL js hl)

end VR
end
section
/-! contracts of methods that neither throw nor make anything -/
def rmz (fr lo : Nat) : Room := { frames := fr, cells := 0, slots := 0, locals := lo }
def Bz (D : va_G) (cA : Nat → ClassId) (r : Nat → Nat) (z : Zt) (t : State) : Prop := va_P D vwCl (wz r cA z) t.heap ∧ va_K D vwCl (tysOf cA) t
def Pz (D : va_G) (cA : Nat → ClassId) (r : Nat → Nat) (z : Zt) (As : List Value) : Array Value → State → Prop := va_Pc As (fun U => Bz D cA r z U)
def Qi (D : va_G) (cA : Nat → ClassId) (r : Nat → Nat) (post : Int → Zt → Prop) : Array Value → State → Outcome → State → Prop := va_Qi (S := Zt) (fun x z' => ∃ i : Int, x = iN i ∧ post i z') (fun z' t => Bz D cA r z' t) (rng r)
def Qv (D : va_G) (cA : Nat → ClassId) (r : Nat → Nat) (post : Zt → Prop) : Array Value → State → Outcome → State → Prop := va_Qv (S := Zt) post (fun z' t => Bz D cA r z' t) (rng r)
def Qr (D : va_G) (cA : Nat → ClassId) (r : Nat → Nat) (post : Nat → Zt → Prop) : Array Value → State → Outcome → State → Prop := va_Qr (S := Zt × Nat) (fun u => post u.2 u.1) (fun u a t => a = r u.2 ∧ Bz D cA r u.1 t) (rng r)
def Ki (l : Launch) (D : va_G) (cA : Nat → ClassId) (r : Nat → Nat) (y : MethodName) (ws : List Cond) (fr lo : Nat) (z : Zt) (As : List Value) (post : Int → Zt → Prop) : Prop := Met l y ws (rmz fr lo) (Pz D cA r z As) (Qi D cA r post) 0 0 (rng r)
def Kv (l : Launch) (D : va_G) (cA : Nat → ClassId) (r : Nat → Nat) (y : MethodName) (ws : List Cond) (fr lo : Nat) (z : Zt) (As : List Value) (post : Zt → Prop) : Prop := Met l y ws (rmz fr lo) (Pz D cA r z As) (Qv D cA r post) 0 0 (rng r)
def Kr (l : Launch) (D : va_G) (cA : Nat → ClassId) (r : Nat → Nat) (y : MethodName) (ws : List Cond) (fr lo : Nat) (z : Zt) (As : List Value) (post : Nat → Zt → Prop) : Prop := Met l y ws (rmz fr lo) (Pz D cA r z As) (Qr D cA r post) 0 0 (rng r)
/-- what a body owes at its end: Qc is one of Qi, Qv, Qr -/
def Rt (r : Nat → Nat) (Qc : Array Value → State → Outcome → State → Prop) (ret : Option FieldType) (Γ : Cx) : Prop :=
  match Γ with
  | (_, _, _, _, s, _, args, below, meth, _, Q, A, _, _, _, _) => Q = MQ below Qc args s 0 0 (rng r) ∧ A = rng r ∧ meth.sig.returnType = ret ∧ meth.locks = false
theorem Pz_blind {D : va_G} {cA : Nat → ClassId} {r : Nat → Nat} {z : Zt} {As : List Value} : FrameBlind (Pz D cA r z As) := fun a U g mk q => ⟨q.1, q.2.1, va_K.moved (u := U) (U := U.calling g mk a) (Vm.Alike.refl U.vm) q.2.2⟩
section VC
variable {l : Launch} {D : va_G} {cA : Nat → ClassId} {r : Nat → Nat} {Rm : Room} {Γ : Cx} {cc : ByteArray} {own : String} {Ts : List Cond} {mL : Nat} {z : Zt} {kc ks : Nat} {lv : List (Nat × Value)} {pc : Nat} {st : List Value}

theorem v_iret (G : Cok l D cA r Rm Γ cc own Ts mL) {post : Int → Zt → Prop} (hR : Rt r (Qi D cA r post) (some .int) Γ) {x : Int} (d : decode cc pc = .ok (.ireturn, 1)) (hp : post x z) : V Γ z 0 0 lv pc [.int (iN x)] := by
  obtain ⟨p, l', e, R, s, m, args, below, meth, c, Q, A, D', cA', nL, r'⟩ := Γ
  obtain ⟨⟨rfl, rfl, rfl, rfl, rfl, rfl⟩, ⟨hx, hb, hml, hown, hts⟩, hK, hr, hA⟩ := G
  obtain ⟨rfl, rfl, hret, hlk⟩ := hR
  intro H locs ls hP hS hL
  exact W.iret (v := iN x) hx hb hret (fun t ht hW => ⟨⟨iN x, z, rfl, ⟨x, rfl, hp⟩, by rw [ht]; exact hP, va_K.moved hW.alike hK⟩, hS.F ht⟩) hS.2.2 d hlk
theorem nar01 {x : Int} (h : x = 0 ∨ x = 1) : narrow .boolean (.int (iN x)) = .int (iN x) := by
  rcases h with rfl | rfl <;> decide
theorem v_zret (G : Cok l D cA r Rm Γ cc own Ts mL) {post : Int → Zt → Prop} (hR : Rt r (Qi D cA r post) (some .boolean) Γ) {x : Int} (h01 : x = 0 ∨ x = 1) (d : decode cc pc = .ok (.ireturn, 1)) (hp : post x z) : V Γ z 0 0 lv pc [.int (iN x)] := by
  obtain ⟨p, l', e, R, s, m, args, below, meth, c, Q, A, D', cA', nL, r'⟩ := Γ
  obtain ⟨⟨rfl, rfl, rfl, rfl, rfl, rfl⟩, ⟨hx, hb, hml, hown, hts⟩, hK, hr, hA⟩ := G
  obtain ⟨rfl, rfl, hret, hlk⟩ := hR
  intro H locs ls hP hS hL
  exact W.zret (v := iN x) hx hb hret (nar01 h01) (fun t ht hW => ⟨⟨iN x, z, rfl, ⟨x, rfl, hp⟩, by rw [ht]; exact hP, va_K.moved hW.alike hK⟩, hS.F ht⟩) hS.2.2 d hlk
theorem v_vret (G : Cok l D cA r Rm Γ cc own Ts mL) {post : Zt → Prop} (hR : Rt r (Qv D cA r post) none Γ) (d : decode cc pc = .ok (.return_, 1)) (hp : post z) : V Γ z 0 0 lv pc [] := by
  obtain ⟨p, l', e, R, s, m, args, below, meth, c, Q, A, D', cA', nL, r'⟩ := Γ
  obtain ⟨⟨rfl, rfl, rfl, rfl, rfl, rfl⟩, ⟨hx, hb, hml, hown, hts⟩, hK, hr, hA⟩ := G
  obtain ⟨rfl, rfl, hret, hlk⟩ := hR
  intro H locs ls hP hS hL
  exact W.vret hx hb hret (fun t ht hW => ⟨⟨z, rfl, hp, by rw [ht]; exact hP, va_K.moved hW.alike hK⟩, hS.F ht⟩) hS.2.2 d hlk
theorem v_aret (G : Cok l D cA r Rm Γ cc own Ts mL) {post : Nat → Zt → Prop} {C : String} (hR : Rt r (Qr D cA r post) (some (.object C)) Γ) {t : Nat} (d : decode cc pc = .ok (.areturn, 1)) (hp : post t z) : V Γ z 0 0 lv pc [.ref (r t)] := by
  obtain ⟨p, l', e, R, s, m, args, below, meth, c, Q, A, D', cA', nL, r'⟩ := Γ
  obtain ⟨⟨rfl, rfl, rfl, rfl, rfl, rfl⟩, ⟨hx, hb, hml, hown, hts⟩, hK, hr, hA⟩ := G
  obtain ⟨rfl, rfl, hret, hlk⟩ := hR
  intro H locs ls hP hS hL
  exact W.aret (v := .ref (r' t)) hx hb hret (Or.inl ⟨C, rfl⟩) (Or.inr ⟨_, rfl⟩) (fun u hu hW => ⟨⟨(z, t), r' t, rfl, hp, rfl, by rw [hu]; exact hP, va_K.moved hW.alike hK⟩, hS.F hu⟩) hS.2.2 d hlk

theorem Ki_of {y : MethodName} {ws ws' : List Cond} {fr lo maxL : Nat} {As : List Value} {post : Int → Zt → Prop} {ty : FieldType} (lv : List (Nat × Value)) (hr : Inj r) (hy : plainName y.cls = true) (hw : ws = Cond.code y cc maxL (some ty) :: ws') (hown : y.cls = own) (hlv : (lg_sl As).length ≤ maxL) (hlq : lv_args 0 As = lv)
    (body : ∀ Γ : Cx, Cok l D cA r (rmz fr lo) Γ cc own ws maxL → Rt r (Qi D cA r post) (some ty) Γ → V Γ z 0 0 lv 0 []) : Ki l D cA r y ws fr lo z As post := by
  refine Met.ofW (cc := cc) (maxL := maxL) (ret := (some ty)) hy hw ?_
  intro p e s m args below meth c s₁ B hml hv
  obtain ⟨rfl, hP, hK⟩ := hv
  have hts := atoms_spec (ws := ws) B.pre
  have hown2 : s.vm.findClass own = some m.cls := hown ▸ findClass_of_methodNamed B.named
  have h := body (p, l, e, rmz fr lo, s, m, As.toArray, below, meth, c, MQ below (Qi D cA r post) As.toArray s 0 0 (rng r), rng r, D, cA, maxL, r) ⟨⟨rfl, rfl, rfl, rfl, rfl, rfl⟩, ⟨B.exec, B.bytes, hml, hown2, hts⟩, hK, hr, fun i hi => ⟨i, hi, rfl⟩⟩ ⟨rfl, rfl, B.returns, B.notSynchronized⟩
  have hl := lv_entry As (n := maxL) hlv
  rw [lg_entry_eq]
  rw [hlq] at hl
  exact h s.heap [] _ hP va_S.rf hl

theorem Kv_of {y : MethodName} {ws ws' : List Cond} {fr lo maxL : Nat} {As : List Value} {post : Zt → Prop} (lv : List (Nat × Value)) (hr : Inj r) (hy : plainName y.cls = true) (hw : ws = Cond.code y cc maxL none :: ws') (hown : y.cls = own) (hlv : (lg_sl As).length ≤ maxL) (hlq : lv_args 0 As = lv)
    (body : ∀ Γ : Cx, Cok l D cA r (rmz fr lo) Γ cc own ws maxL → Rt r (Qv D cA r post) none Γ → V Γ z 0 0 lv 0 []) : Kv l D cA r y ws fr lo z As post := by
  refine Met.ofW (cc := cc) (maxL := maxL) (ret := none) hy hw ?_
  intro p e s m args below meth c s₁ B hml hv
  obtain ⟨rfl, hP, hK⟩ := hv
  have hts := atoms_spec (ws := ws) B.pre
  have hown2 : s.vm.findClass own = some m.cls := hown ▸ findClass_of_methodNamed B.named
  have h := body (p, l, e, rmz fr lo, s, m, As.toArray, below, meth, c, MQ below (Qv D cA r post) As.toArray s 0 0 (rng r), rng r, D, cA, maxL, r) ⟨⟨rfl, rfl, rfl, rfl, rfl, rfl⟩, ⟨B.exec, B.bytes, hml, hown2, hts⟩, hK, hr, fun i hi => ⟨i, hi, rfl⟩⟩ ⟨rfl, rfl, B.returns, B.notSynchronized⟩
  have hl := lv_entry As (n := maxL) hlv
  rw [lg_entry_eq]
  rw [hlq] at hl
  exact h s.heap [] _ hP va_S.rf hl

theorem Kr_of {y : MethodName} {ws ws' : List Cond} {fr lo maxL : Nat} {As : List Value} {post : Nat → Zt → Prop} {ty : FieldType} (lv : List (Nat × Value)) (hr : Inj r) (hy : plainName y.cls = true) (hw : ws = Cond.code y cc maxL (some ty) :: ws') (hown : y.cls = own) (hlv : (lg_sl As).length ≤ maxL) (hlq : lv_args 0 As = lv)
    (body : ∀ Γ : Cx, Cok l D cA r (rmz fr lo) Γ cc own ws maxL → Rt r (Qr D cA r post) (some ty) Γ → V Γ z 0 0 lv 0 []) : Kr l D cA r y ws fr lo z As post := by
  refine Met.ofW (cc := cc) (maxL := maxL) (ret := (some ty)) hy hw ?_
  intro p e s m args below meth c s₁ B hml hv
  obtain ⟨rfl, hP, hK⟩ := hv
  have hts := atoms_spec (ws := ws) B.pre
  have hown2 : s.vm.findClass own = some m.cls := hown ▸ findClass_of_methodNamed B.named
  have h := body (p, l, e, rmz fr lo, s, m, As.toArray, below, meth, c, MQ below (Qr D cA r post) As.toArray s 0 0 (rng r), rng r, D, cA, maxL, r) ⟨⟨rfl, rfl, rfl, rfl, rfl, rfl⟩, ⟨B.exec, B.bytes, hml, hown2, hts⟩, hK, hr, fun i hi => ⟨i, hi, rfl⟩⟩ ⟨rfl, rfl, B.returns, B.notSynchronized⟩
  have hl := lv_entry As (n := maxL) hlv
  rw [lg_entry_eq]
  rw [hlq] at hl
  exact h s.heap [] _ hP va_S.rf hl

theorem v_callVi (G : Cok l D cA r Rm Γ cc own Ts mL) {C : String} {T0 : u_T} {N0 ci K t index maxL fr lo n : Nat} {y : MethodName} {ws ws' : List Cond} {bytes : ByteArray} {ty : FieldType} {fs As stk : List Value} {post : Int → Zt → Prop} (hM : Ki l D cA r y ws fr lo z (.ref (r t) :: As) post) (hcw : GoodIn Ts (wsV own index C y ws)) (hw : ws = Cond.code y bytes maxL (some ty) :: ws')
    (hy : y.cls = C ∧ y.cls ≠ "java/lang/invoke/MethodHandle" ∧ y.cls ≠ "java/lang/invoke/VarHandle" ∧ (parseMethodDescriptor y.desc).map (fun d => d.parameters.length) = some n) (hn : As.length = n) (hRR : fr + 1 ≤ Rm.frames ∧ 8 + (maxL + 11) + lo ≤ Rm.locals) (ht : kd t = K) (hK0 : K ≠ 0) (hcl : cl K r cA t (z t) = .inr (ci, fs)) (hc : vwCl[ci]? = some (C, T0, N0)) (d : decode cc pc = .ok (.invokevirtual index, 3)) (hstk : stk = As.reverse ++ .ref (r t) :: st) (hst : (st.map fun v => v.category).sum ≤ 8) (hkc : kc ≤ Rm.cells ∧ ks ≤ Rm.slots)
    (kk : ∀ (x : Int) (z1 : Zt), post x z1 → V Γ z1 kc ks lv (pc + 3) (.int (iN x) :: st)) : V Γ z kc ks lv pc stk := by
  subst hstk
  obtain ⟨p, l', e, R, s, m, args, below, meth, c, Q, A, D', cA', nL, r'⟩ := Γ
  obtain ⟨⟨rfl, rfl, rfl, rfl, rfl, rfl⟩, ⟨hx, hb, hml, hown, hts⟩, hK, hr, hA⟩ := G
  intro H locs ls hP hS hL
  refine va_calli (va_runV (As := As) (rest := st) ⟨hx, hb, hml, hown, hts⟩ hM (cwV n hts hcw hw rfl rfl hy hRR) ⟨Pz_blind, va_recv hK hP (ci := ci) (q0 := t) hc ((wl_at (kd_lt ht hK0)).trans (by rw [Ez, ht, hcl])), fun U hU hW => ⟨rfl, by rw [hU]; exact hP, va_K.moved hW.alike hK⟩⟩ rfl hn hL.1 rfl (lv_room hst) d hkc) hS ?_ ?_ ?_
  · intro q _ h
    obtain ⟨i, hi, rfl⟩ := h
    exact hA i hi
  · intro q h
    obtain ⟨i, hi, rfl⟩ := h
    exact hA i hi
  · intro x u t1 H1 locs1 e1 hvm hw1 hB _ _ hS1
    obtain ⟨i, rfl, hp⟩ := hw1
    exact kk i u hp H1 locs1 ls (e1 ▸ hB.1) hS1 hL

theorem v_callSi (G : Cok l D cA r Rm Γ cc own Ts mL) {index maxL fr lo n : Nat} {y : MethodName} {ws ws' : List Cond} {bytes : ByteArray} {ty : FieldType} {As stk : List Value} {post : Int → Zt → Prop} (hM : Ki l D cA r y ws fr lo z As post) (hcw : GoodIn Ts (va_wsS own index y ws)) (hw : ws = Cond.code y bytes maxL (some ty) :: ws')
    (hy : y.cls ≠ "java/lang/invoke/MethodHandle" ∧ y.cls ≠ "java/lang/invoke/VarHandle" ∧ (parseMethodDescriptor y.desc).map (fun d => d.parameters.length) = some n) (hn : As.length = n) (hRR : fr + 1 ≤ Rm.frames ∧ 8 + (maxL + 11) + lo ≤ Rm.locals) (d : decode cc pc = .ok (.invokestatic index, 3)) (hstk : stk = As.reverse ++ st) (hst : (st.map fun v => v.category).sum ≤ 8) (hkc : kc ≤ Rm.cells ∧ ks ≤ Rm.slots)
    (kk : ∀ (x : Int) (z1 : Zt), post x z1 → V Γ z1 kc ks lv (pc + 3) (.int (iN x) :: st)) : V Γ z kc ks lv pc stk := by
  subst hstk
  obtain ⟨p, l', e, R, s, m, args, below, meth, c, Q, A, D', cA', nL, r'⟩ := Γ
  obtain ⟨⟨rfl, rfl, rfl, rfl, rfl, rfl⟩, ⟨hx, hb, hml, hown, hts⟩, hK, hr, hA⟩ := G
  intro H locs ls hP hS hL
  refine va_calli (va_runS (As := As) (rest := st) ⟨hx, hb, hml, hown, hts⟩ hM (va_cwS n hts hcw hw rfl rfl hy hRR) ⟨Pz_blind, fun U hU hW => ⟨rfl, by rw [hU]; exact hP, va_K.moved hW.alike hK⟩⟩ rfl hn hL.1 rfl (lv_room hst) d hkc) hS ?_ ?_ ?_
  · intro q _ h
    obtain ⟨i, hi, rfl⟩ := h
    exact hA i hi
  · intro q h
    obtain ⟨i, hi, rfl⟩ := h
    exact hA i hi
  · intro x u t1 H1 locs1 e1 hvm hw1 hB _ _ hS1
    obtain ⟨i, rfl, hp⟩ := hw1
    exact kk i u hp H1 locs1 ls (e1 ▸ hB.1) hS1 hL

theorem v_callVv (G : Cok l D cA r Rm Γ cc own Ts mL) {C : String} {T0 : u_T} {N0 ci K t index maxL fr lo n : Nat} {y : MethodName} {ws ws' : List Cond} {bytes : ByteArray} {fs As stk : List Value} {post : Zt → Prop} (hM : Kv l D cA r y ws fr lo z (.ref (r t) :: As) post) (hcw : GoodIn Ts (wsV own index C y ws)) (hw : ws = Cond.code y bytes maxL none :: ws')
    (hy : y.cls = C ∧ y.cls ≠ "java/lang/invoke/MethodHandle" ∧ y.cls ≠ "java/lang/invoke/VarHandle" ∧ (parseMethodDescriptor y.desc).map (fun d => d.parameters.length) = some n) (hn : As.length = n) (hRR : fr + 1 ≤ Rm.frames ∧ 8 + (maxL + 11) + lo ≤ Rm.locals) (ht : kd t = K) (hK0 : K ≠ 0) (hcl : cl K r cA t (z t) = .inr (ci, fs)) (hc : vwCl[ci]? = some (C, T0, N0)) (d : decode cc pc = .ok (.invokevirtual index, 3)) (hstk : stk = As.reverse ++ .ref (r t) :: st) (hst : (st.map fun v => v.category).sum ≤ 8) (hkc : kc ≤ Rm.cells ∧ ks ≤ Rm.slots)
    (kk : ∀ (z1 : Zt), post z1 → V Γ z1 kc ks lv (pc + 3) st) : V Γ z kc ks lv pc stk := by
  subst hstk
  obtain ⟨p, l', e, R, s, m, args, below, meth, c, Q, A, D', cA', nL, r'⟩ := Γ
  obtain ⟨⟨rfl, rfl, rfl, rfl, rfl, rfl⟩, ⟨hx, hb, hml, hown, hts⟩, hK, hr, hA⟩ := G
  intro H locs ls hP hS hL
  refine va_callv (va_runV (As := As) (rest := st) ⟨hx, hb, hml, hown, hts⟩ hM (cwV n hts hcw hw rfl rfl hy hRR) ⟨Pz_blind, va_recv hK hP (ci := ci) (q0 := t) hc ((wl_at (kd_lt ht hK0)).trans (by rw [Ez, ht, hcl])), fun U hU hW => ⟨rfl, by rw [hU]; exact hP, va_K.moved hW.alike hK⟩⟩ rfl hn hL.1 rfl (lv_room hst) d hkc) hS ?_ ?_ ?_
  · intro q _ h
    obtain ⟨i, hi, rfl⟩ := h
    exact hA i hi
  · intro q h
    obtain ⟨i, hi, rfl⟩ := h
    exact hA i hi
  · intro u t1 H1 locs1 e1 hvm hw1 hB _ _ hS1
    exact kk u hw1 H1 locs1 ls (e1 ▸ hB.1) hS1 hL

theorem v_callSv (G : Cok l D cA r Rm Γ cc own Ts mL) {index maxL fr lo n : Nat} {y : MethodName} {ws ws' : List Cond} {bytes : ByteArray} {As stk : List Value} {post : Zt → Prop} (hM : Kv l D cA r y ws fr lo z As post) (hcw : GoodIn Ts (va_wsS own index y ws)) (hw : ws = Cond.code y bytes maxL none :: ws')
    (hy : y.cls ≠ "java/lang/invoke/MethodHandle" ∧ y.cls ≠ "java/lang/invoke/VarHandle" ∧ (parseMethodDescriptor y.desc).map (fun d => d.parameters.length) = some n) (hn : As.length = n) (hRR : fr + 1 ≤ Rm.frames ∧ 8 + (maxL + 11) + lo ≤ Rm.locals) (d : decode cc pc = .ok (.invokestatic index, 3)) (hstk : stk = As.reverse ++ st) (hst : (st.map fun v => v.category).sum ≤ 8) (hkc : kc ≤ Rm.cells ∧ ks ≤ Rm.slots)
    (kk : ∀ (z1 : Zt), post z1 → V Γ z1 kc ks lv (pc + 3) st) : V Γ z kc ks lv pc stk := by
  subst hstk
  obtain ⟨p, l', e, R, s, m, args, below, meth, c, Q, A, D', cA', nL, r'⟩ := Γ
  obtain ⟨⟨rfl, rfl, rfl, rfl, rfl, rfl⟩, ⟨hx, hb, hml, hown, hts⟩, hK, hr, hA⟩ := G
  intro H locs ls hP hS hL
  refine va_callv (va_runS (As := As) (rest := st) ⟨hx, hb, hml, hown, hts⟩ hM (va_cwS n hts hcw hw rfl rfl hy hRR) ⟨Pz_blind, fun U hU hW => ⟨rfl, by rw [hU]; exact hP, va_K.moved hW.alike hK⟩⟩ rfl hn hL.1 rfl (lv_room hst) d hkc) hS ?_ ?_ ?_
  · intro q _ h
    obtain ⟨i, hi, rfl⟩ := h
    exact hA i hi
  · intro q h
    obtain ⟨i, hi, rfl⟩ := h
    exact hA i hi
  · intro u t1 H1 locs1 e1 hvm hw1 hB _ _ hS1
    exact kk u hw1 H1 locs1 ls (e1 ▸ hB.1) hS1 hL

theorem v_callVr (G : Cok l D cA r Rm Γ cc own Ts mL) {C : String} {T0 : u_T} {N0 ci K t index maxL fr lo n : Nat} {y : MethodName} {ws ws' : List Cond} {bytes : ByteArray} {ty : FieldType} {fs As stk : List Value} {post : Nat → Zt → Prop} (hM : Kr l D cA r y ws fr lo z (.ref (r t) :: As) post) (hcw : GoodIn Ts (wsV own index C y ws)) (hw : ws = Cond.code y bytes maxL (some ty) :: ws')
    (hy : y.cls = C ∧ y.cls ≠ "java/lang/invoke/MethodHandle" ∧ y.cls ≠ "java/lang/invoke/VarHandle" ∧ (parseMethodDescriptor y.desc).map (fun d => d.parameters.length) = some n) (hn : As.length = n) (hRR : fr + 1 ≤ Rm.frames ∧ 8 + (maxL + 11) + lo ≤ Rm.locals) (ht : kd t = K) (hK0 : K ≠ 0) (hcl : cl K r cA t (z t) = .inr (ci, fs)) (hc : vwCl[ci]? = some (C, T0, N0)) (d : decode cc pc = .ok (.invokevirtual index, 3)) (hstk : stk = As.reverse ++ .ref (r t) :: st) (hst : (st.map fun v => v.category).sum ≤ 8) (hkc : kc ≤ Rm.cells ∧ ks ≤ Rm.slots)
    (kk : ∀ (t1 : Nat) (z1 : Zt), post t1 z1 → V Γ z1 kc ks lv (pc + 3) (.ref (r t1) :: st)) : V Γ z kc ks lv pc stk := by
  subst hstk
  obtain ⟨p, l', e, R, s, m, args, below, meth, c, Q, A, D', cA', nL, r'⟩ := Γ
  obtain ⟨⟨rfl, rfl, rfl, rfl, rfl, rfl⟩, ⟨hx, hb, hml, hown, hts⟩, hK, hr, hA⟩ := G
  intro H locs ls hP hS hL
  refine va_callr (va_runV (As := As) (rest := st) ⟨hx, hb, hml, hown, hts⟩ hM (cwV n hts hcw hw rfl rfl hy hRR) ⟨Pz_blind, va_recv hK hP (ci := ci) (q0 := t) hc ((wl_at (kd_lt ht hK0)).trans (by rw [Ez, ht, hcl])), fun U hU hW => ⟨rfl, by rw [hU]; exact hP, va_K.moved hW.alike hK⟩⟩ rfl hn hL.1 rfl (lv_room hst) d hkc) hS ?_ ?_ ?_
  · intro q _ h
    obtain ⟨i, hi, rfl⟩ := h
    exact hA i hi
  · intro q h
    obtain ⟨i, hi, rfl⟩ := h
    exact hA i hi
  · intro u ra t1 H1 locs1 e1 hvm hw1 hB _ _ hS1
    obtain ⟨rfl, hB⟩ := hB
    exact kk u.2 u.1 hw1 H1 locs1 ls (e1 ▸ hB.1) hS1 hL

theorem v_callSr (G : Cok l D cA r Rm Γ cc own Ts mL) {index maxL fr lo n : Nat} {y : MethodName} {ws ws' : List Cond} {bytes : ByteArray} {ty : FieldType} {As stk : List Value} {post : Nat → Zt → Prop} (hM : Kr l D cA r y ws fr lo z As post) (hcw : GoodIn Ts (va_wsS own index y ws)) (hw : ws = Cond.code y bytes maxL (some ty) :: ws')
    (hy : y.cls ≠ "java/lang/invoke/MethodHandle" ∧ y.cls ≠ "java/lang/invoke/VarHandle" ∧ (parseMethodDescriptor y.desc).map (fun d => d.parameters.length) = some n) (hn : As.length = n) (hRR : fr + 1 ≤ Rm.frames ∧ 8 + (maxL + 11) + lo ≤ Rm.locals) (d : decode cc pc = .ok (.invokestatic index, 3)) (hstk : stk = As.reverse ++ st) (hst : (st.map fun v => v.category).sum ≤ 8) (hkc : kc ≤ Rm.cells ∧ ks ≤ Rm.slots)
    (kk : ∀ (t1 : Nat) (z1 : Zt), post t1 z1 → V Γ z1 kc ks lv (pc + 3) (.ref (r t1) :: st)) : V Γ z kc ks lv pc stk := by
  subst hstk
  obtain ⟨p, l', e, R, s, m, args, below, meth, c, Q, A, D', cA', nL, r'⟩ := Γ
  obtain ⟨⟨rfl, rfl, rfl, rfl, rfl, rfl⟩, ⟨hx, hb, hml, hown, hts⟩, hK, hr, hA⟩ := G
  intro H locs ls hP hS hL
  refine va_callr (va_runS (As := As) (rest := st) ⟨hx, hb, hml, hown, hts⟩ hM (va_cwS n hts hcw hw rfl rfl hy hRR) ⟨Pz_blind, fun U hU hW => ⟨rfl, by rw [hU]; exact hP, va_K.moved hW.alike hK⟩⟩ rfl hn hL.1 rfl (lv_room hst) d hkc) hS ?_ ?_ ?_
  · intro q _ h
    obtain ⟨i, hi, rfl⟩ := h
    exact hA i hi
  · intro q h
    obtain ⟨i, hi, rfl⟩ := h
    exact hA i hi
  · intro u ra t1 H1 locs1 e1 hvm hw1 hB _ _ hS1
    obtain ⟨rfl, hB⟩ := hB
    exact kk u.2 u.1 hw1 H1 locs1 ls (e1 ▸ hB.1) hS1 hL

theorem v_mmax (G : Cok l D cA r Rm Γ cc own Ts mL) {index : Nat} {x y : Int} (h1 : Cond.methodLink own index Lib.Math.max.name ∈ Ts) (h2 : Cond.static Lib.Math.max.name ∈ Ts) (h3 : Cond.initialized "java/lang/Math" ∈ Ts) (h4 : Cond.code Lib.Math.max.name Lib.Math.max.code 2 (some .int) ∈ Ts) (hxx : -2147483648 ≤ x ∧ x < 2147483648) (hyy : -2147483648 ≤ y ∧ y < 2147483648) (hf : 1 ≤ Rm.frames) (hlo : (st.map fun v => v.category).sum + 13 ≤ Rm.locals) (hkc : kc ≤ Rm.cells ∧ ks ≤ Rm.slots) (d : decode cc pc = .ok (.invokestatic index, 3)) (kk : V Γ z kc ks lv (pc + 3) (.int (iN (if x < y then y else x)) :: st)) : V Γ z kc ks lv pc (.int (iN y) :: .int (iN x) :: st) := by
  obtain ⟨p, l', e, R, s, m, args, below, meth, c, Q, A, D', cA', nL, r'⟩ := Γ
  obtain ⟨⟨rfl, rfl, rfl, rfl, rfl, rfl⟩, ⟨hx, hb, hml, hown, hts⟩, hK, hr, hA⟩ := G
  intro H locs ls hP hS hL
  refine va_mmax hx hb (hml.trans hL.1.symm) hown (hts _ h1) (hts _ h2) (hts _ h3) (hts _ h4) hf hlo hkc.1 hkc.2 d ?_
  have e : (if iN x < iN y then iN y else iN x) = iN (if x < y then y else x) := by
    by_cases q : x < y
    · rw [if_pos q, if_pos ((iN_lt hxx hyy).mpr q)]
    · rw [if_neg q, if_neg (fun q2 => q ((iN_lt hxx hyy).mp q2))]
  rw [e]
  exact kk H locs ls hP hS hL

end VC
/-! which kind lies where -/
theorem kd_all {P : Nat → Nat → Bool} (h : (List.range 177).all (fun i => P i (kd i)) = true) {i K : Nat} (hi : kd i = K) (hK : K ≠ 0) : P i K = true := by
  have h1 := List.all_eq_true.mp h i (List.mem_range.mpr (kd_lt hi hK))
  rw [hi] at h1
  exact h1
theorem kS_A {t : Nat} (h : kd t = 2) : kd (t + 1) = 3 := by
  have := kd_all (P := fun i k => k != 2 || kd (i + 1) == 3) (by decide +kernel) h (by decide)
  simpa using this
theorem kS_B {t : Nat} (h : kd t = 2) : kd (t + 4) = 3 := by
  have := kd_all (P := fun i k => k != 2 || kd (i + 4) == 3) (by decide +kernel) h (by decide)
  simpa using this
theorem kS_F {t : Nat} (h : kd t = 2) : kd (t + 7) = 40 := by
  have := kd_all (P := fun i k => k != 2 || kd (i + 7) == 40) (by decide +kernel) h (by decide)
  simpa using this
theorem kF_f {t k : Nat} (h : kd t = 40) (hk : k < 10) : kd (t + 1 + k) = 4 := by
  have := kd_all (P := fun i k => k != 40 || (List.range 10).all (fun j => kd (i + 1 + j) == 4)) (by decide +kernel) h (by decide)
  have h2 : (List.range 10).all (fun j => kd (t + 1 + j) == 4) = true := by simpa using this
  have h3 := List.all_eq_true.mp h2 k (List.mem_range.mpr hk)
  simpa using h3
theorem kS_f {t k : Nat} (h : kd t = 2) (hk : k < 10) : kd (t + 8 + k) = 4 := by
  have := kF_f (kS_F h) hk
  rw [show t + 8 + k = t + 7 + 1 + k by omega]
  exact this
theorem kT_D {t : Nat} (h : kd t = 3) : kd (t + 1) = 103 := by
  have := kd_all (P := fun i k => k != 3 || kd (i + 1) == 103) (by decide +kernel) h (by decide)
  simpa using this
theorem kT_L {t : Nat} (h : kd t = 3) : kd (t + 2) = 103 := by
  have := kd_all (P := fun i k => k != 3 || kd (i + 2) == 103) (by decide +kernel) h (by decide)
  simpa using this
theorem cl_1 (r : Nat → Nat) (cA : Nat → ClassId) (i : Nat) (f : Nat → Int) : cl 1 r cA i f = .inr (4, [.ref (r 1), .ref (r 19), .int (iN (f 2)), .ref (r 20), .ref (r 21), .ref (r 22), .ref (r 24)]) := rfl
theorem cl_2 (r : Nat → Nat) (cA : Nat → ClassId) (i : Nat) (f : Nat → Int) : cl 2 r cA i f = .inr (2, [.ref (r (i + 1)), .ref (r (i + 4)), .ref (r (i + 7)), .int (iN (f 3)), .int (iN (f 4)), .int (iN (f 5)), .int (iN (f 6)), .int (iN (f 7)), .int (iN (f 8))]) := rfl
theorem cl_3 (r : Nat → Nat) (cA : Nat → ClassId) (i : Nat) (f : Nat → Int) : cl 3 r cA i f = .inr (3, [.int (iN (f 0)), .ref (r (i + 1)), .ref (r (i + 2)), .int (iN (f 3)), .int (iN (f 4))]) := rfl
theorem cl_4 (r : Nat → Nat) (cA : Nat → ClassId) (i : Nat) (f : Nat → Int) : cl 4 r cA i f = .inr (1, [.int (iN (f 0)), .int (iN (f 1)), .int (iN (f 2)), .int (iN (f 3))]) := rfl
theorem cl_5 (r : Nat → Nat) (cA : Nat → ClassId) (i : Nat) (f : Nat → Int) : cl 5 r cA i f = .inr (0, [.ref (r 23), .int (iN (f 1))]) := rfl
theorem cl_6 (r : Nat → Nat) (cA : Nat → ClassId) (i : Nat) (f : Nat → Int) : cl 6 r cA i f = .inr (5, [.ref (r 170), .ref (r 171), .int (iN (f 2)), .ref (r 172), .ref (r 173), .int (iN (f 5)), .ref (r 174), .int (iN (f 7)), .int (iN (f 8)), .ref (r 175)]) := rfl
theorem cl_103 (r : Nat → Nat) (cA : Nat → ClassId) (i : Nat) (f : Nat → Int) : cl 103 r cA i f = .inl (cA 0, 3, .inl (fun j => iN (f j))) := rfl
theorem cl_104 (r : Nat → Nat) (cA : Nat → ClassId) (i : Nat) (f : Nat → Int) : cl 104 r cA i f = .inl (cA 0, 4, .inl (fun j => iN (f j))) := rfl
theorem cl_162 (r : Nat → Nat) (cA : Nat → ClassId) (i : Nat) (f : Nat → Int) : cl 162 r cA i f = .inl (cA 0, 62, .inl (fun j => iN (f j))) := rfl
theorem cl_180 (r : Nat → Nat) (cA : Nat → ClassId) (i : Nat) (f : Nat → Int) : cl 180 r cA i f = .inl (cA 0, 80, .inl (fun j => iN (f j))) := rfl
theorem cl_224 (r : Nat → Nat) (cA : Nat → ClassId) (i : Nat) (f : Nat → Int) : cl 224 r cA i f = .inl (cA 0, 124, .inl (fun j => iN (f j))) := rfl
theorem cl_472 (r : Nat → Nat) (cA : Nat → ClassId) (i : Nat) (f : Nat → Int) : cl 472 r cA i f = .inl (cA 0, 372, .inl (fun j => iN (f j))) := rfl
theorem cl_500 (r : Nat → Nat) (cA : Nat → ClassId) (i : Nat) (f : Nat → Int) : cl 500 r cA i f = .inl (cA 0, 400, .inl (fun j => iN (f j))) := rfl
theorem cl_32 (r : Nat → Nat) (cA : Nat → ClassId) (i : Nat) (f : Nat → Int) : cl 32 r cA i f = .inl (cA 4, 2, .inr (.inr (.inr (.inr (fun j => some (r (f j).toNat)))))) := rfl
theorem cl_36 (r : Nat → Nat) (cA : Nat → ClassId) (i : Nat) (f : Nat → Int) : cl 36 r cA i f = .inl (cA 4, 6, .inr (.inr (.inr (.inr (fun j => some (r (f j).toNat)))))) := rfl
end
