section
-- ===== PART A: goes FIRST, ahead of the names: the tables' words, and 'selects' of the private methods out of them =====
/-- a private method of a class that the tables say can be made, by its rows of tables_1 -/
def lw_okq (q : MethodName × Nat) : Prop := (q.1.cls ≠ "java/lang/invoke/MethodHandle" ∧ q.1.cls ≠ "java/lang/invoke/VarHandle") ∧ Cond.instantiable q.1.cls q.2 ∈ tables_1 ∧ Cond.privateMethod q.1 ∈ tables_1 ∧ Cond.instanceMethod q.1 ∈ tables_1
theorem lw_p0 : lw_okq (⟨"VersionDesk", "floor", "()I"⟩, 3) := ⟨⟨by decide +kernel, by decide +kernel⟩, List.mem_of_getElem? (i := 14) (by decide +kernel), List.mem_of_getElem? (i := 88) (by decide +kernel), List.mem_of_getElem? (i := 89) (by decide +kernel)⟩
theorem lw_p1 : lw_okq (⟨"VersionDesk$Versions", "move", "(II)V"⟩, 4) := ⟨⟨by decide +kernel, by decide +kernel⟩, List.mem_of_getElem? (i := 55) (by decide +kernel), List.mem_of_getElem? (i := 107) (by decide +kernel), List.mem_of_getElem? (i := 108) (by decide +kernel)⟩
theorem lw_p2 : lw_okq (⟨"VersionDesk", "howManyOpen", "()I"⟩, 3) := ⟨⟨by decide +kernel, by decide +kernel⟩, List.mem_of_getElem? (i := 14) (by decide +kernel), List.mem_of_getElem? (i := 115) (by decide +kernel), List.mem_of_getElem? (i := 116) (by decide +kernel)⟩
theorem lw_p3 : lw_okq (⟨"java/lang/Throwable", "fillInStackTrace", "(I)Ljava/lang/Throwable;"⟩, 6) := ⟨⟨by decide +kernel, by decide +kernel⟩, List.mem_of_getElem? (i := 170) (by decide +kernel), List.mem_of_getElem? (i := 168) (by decide +kernel), List.mem_of_getElem? (i := 169) (by decide +kernel)⟩
theorem lw_p4 : lw_okq (⟨"VersionDesk", "leastNotOpen", "()I"⟩, 3) := ⟨⟨by decide +kernel, by decide +kernel⟩, List.mem_of_getElem? (i := 14) (by decide +kernel), List.mem_of_getElem? (i := 195) (by decide +kernel), List.mem_of_getElem? (i := 196) (by decide +kernel)⟩
theorem lw_p5 : lw_okq (⟨"VersionDesk", "openOne", "(I)LVersionDesk$Transaction;"⟩, 3) := ⟨⟨by decide +kernel, by decide +kernel⟩, List.mem_of_getElem? (i := 14) (by decide +kernel), List.mem_of_getElem? (i := 226) (by decide +kernel), List.mem_of_getElem? (i := 227) (by decide +kernel)⟩
theorem lw_p6 : lw_okq (⟨"VersionDesk", "reading", "(LVersionDesk$Transaction;I)J"⟩, 3) := ⟨⟨by decide +kernel, by decide +kernel⟩, List.mem_of_getElem? (i := 14) (by decide +kernel), List.mem_of_getElem? (i := 256) (by decide +kernel), List.mem_of_getElem? (i := 257) (by decide +kernel)⟩
theorem lw_p7 : lw_okq (⟨"VersionDesk$Versions", "indexAt", "(II)I"⟩, 4) := ⟨⟨by decide +kernel, by decide +kernel⟩, List.mem_of_getElem? (i := 55) (by decide +kernel), List.mem_of_getElem? (i := 268) (by decide +kernel), List.mem_of_getElem? (i := 269) (by decide +kernel)⟩
theorem lw_p8 : lw_okq (⟨"VersionDesk$Transaction", "putIn", "(IIJ)V"⟩, 7) := ⟨⟨by decide +kernel, by decide +kernel⟩, List.mem_of_getElem? (i := 23) (by decide +kernel), List.mem_of_getElem? (i := 283) (by decide +kernel), List.mem_of_getElem? (i := 284) (by decide +kernel)⟩
theorem lw_p9 : lw_okq (⟨"VersionDesk", "spoiledCells", "(LVersionDesk$Transaction;)I"⟩, 3) := ⟨⟨by decide +kernel, by decide +kernel⟩, List.mem_of_getElem? (i := 14) (by decide +kernel), List.mem_of_getElem? (i := 324) (by decide +kernel), List.mem_of_getElem? (i := 325) (by decide +kernel)⟩
theorem lw_p10 : lw_okq (⟨"VersionDesk", "keepVersions", "(LVersionDesk$Transaction;I)V"⟩, 3) := ⟨⟨by decide +kernel, by decide +kernel⟩, List.mem_of_getElem? (i := 14) (by decide +kernel), List.mem_of_getElem? (i := 355) (by decide +kernel), List.mem_of_getElem? (i := 356) (by decide +kernel)⟩
theorem lw_p11 : lw_okq (⟨"VersionDeskModel", "fail", "(I)I"⟩, 14) := ⟨⟨by decide +kernel, by decide +kernel⟩, List.mem_of_getElem? (i := 410) (by decide +kernel), List.mem_of_getElem? (i := 468) (by decide +kernel), List.mem_of_getElem? (i := 469) (by decide +kernel)⟩
theorem lw_p12 : lw_okq (⟨"VersionDeskModel", "clear", "(II)V"⟩, 14) := ⟨⟨by decide +kernel, by decide +kernel⟩, List.mem_of_getElem? (i := 410) (by decide +kernel), List.mem_of_getElem? (i := 472) (by decide +kernel), List.mem_of_getElem? (i := 473) (by decide +kernel)⟩
theorem lw_p13 : lw_okq (⟨"VersionDeskModel", "now", "(I)J"⟩, 14) := ⟨⟨by decide +kernel, by decide +kernel⟩, List.mem_of_getElem? (i := 410) (by decide +kernel), List.mem_of_getElem? (i := 476) (by decide +kernel), List.mem_of_getElem? (i := 477) (by decide +kernel)⟩
theorem lw_p14 : lw_okq (⟨"VersionDeskModel", "none", "(II)Z"⟩, 14) := ⟨⟨by decide +kernel, by decide +kernel⟩, List.mem_of_getElem? (i := 410) (by decide +kernel), List.mem_of_getElem? (i := 484) (by decide +kernel), List.mem_of_getElem? (i := 485) (by decide +kernel)⟩
theorem lw_p15 : lw_okq (⟨"VersionDeskModel", "no", "(I)Z"⟩, 14) := ⟨⟨by decide +kernel, by decide +kernel⟩, List.mem_of_getElem? (i := 410) (by decide +kernel), List.mem_of_getElem? (i := 488) (by decide +kernel), List.mem_of_getElem? (i := 489) (by decide +kernel)⟩
def lw_privs_1 : List (MethodName × Nat) := [(⟨"VersionDesk", "floor", "()I"⟩, 3), (⟨"VersionDesk$Versions", "move", "(II)V"⟩, 4), (⟨"VersionDesk", "howManyOpen", "()I"⟩, 3), (⟨"java/lang/Throwable", "fillInStackTrace", "(I)Ljava/lang/Throwable;"⟩, 6), (⟨"VersionDesk", "leastNotOpen", "()I"⟩, 3), (⟨"VersionDesk", "openOne", "(I)LVersionDesk$Transaction;"⟩, 3), (⟨"VersionDesk", "reading", "(LVersionDesk$Transaction;I)J"⟩, 3), (⟨"VersionDesk$Versions", "indexAt", "(II)I"⟩, 4), (⟨"VersionDesk$Transaction", "putIn", "(IIJ)V"⟩, 7), (⟨"VersionDesk", "spoiledCells", "(LVersionDesk$Transaction;)I"⟩, 3), (⟨"VersionDesk", "keepVersions", "(LVersionDesk$Transaction;I)V"⟩, 3), (⟨"VersionDeskModel", "fail", "(I)I"⟩, 14), (⟨"VersionDeskModel", "clear", "(II)V"⟩, 14), (⟨"VersionDeskModel", "now", "(I)J"⟩, 14), (⟨"VersionDeskModel", "none", "(II)Z"⟩, 14), (⟨"VersionDeskModel", "no", "(I)Z"⟩, 14)]
theorem lw_r1 : ∀ q ∈ lw_privs_1, lw_okq q := List.forall_mem_cons.mpr ⟨lw_p0, List.forall_mem_cons.mpr ⟨lw_p1, List.forall_mem_cons.mpr ⟨lw_p2, List.forall_mem_cons.mpr ⟨lw_p3, List.forall_mem_cons.mpr ⟨lw_p4, List.forall_mem_cons.mpr ⟨lw_p5, List.forall_mem_cons.mpr ⟨lw_p6, List.forall_mem_cons.mpr ⟨lw_p7, List.forall_mem_cons.mpr ⟨lw_p8, List.forall_mem_cons.mpr ⟨lw_p9, List.forall_mem_cons.mpr ⟨lw_p10, List.forall_mem_cons.mpr ⟨lw_p11, List.forall_mem_cons.mpr ⟨lw_p12, List.forall_mem_cons.mpr ⟨lw_p13, List.forall_mem_cons.mpr ⟨lw_p14, List.forall_mem_cons.mpr ⟨lw_p15, fun _ h => absurd h List.not_mem_nil⟩⟩⟩⟩⟩⟩⟩⟩⟩⟩⟩⟩⟩⟩⟩⟩
theorem lw_p16 : lw_okq (⟨"VersionDeskModel", "layerOf", "(II)I"⟩, 14) := ⟨⟨by decide +kernel, by decide +kernel⟩, List.mem_of_getElem? (i := 410) (by decide +kernel), List.mem_of_getElem? (i := 492) (by decide +kernel), List.mem_of_getElem? (i := 493) (by decide +kernel)⟩
theorem lw_p17 : lw_okq (⟨"VersionDeskModel", "reading", "(II)J"⟩, 14) := ⟨⟨by decide +kernel, by decide +kernel⟩, List.mem_of_getElem? (i := 410) (by decide +kernel), List.mem_of_getElem? (i := 496) (by decide +kernel), List.mem_of_getElem? (i := 497) (by decide +kernel)⟩
theorem lw_p18 : lw_okq (⟨"VersionDeskModel", "spoils", "(I)I"⟩, 14) := ⟨⟨by decide +kernel, by decide +kernel⟩, List.mem_of_getElem? (i := 410) (by decide +kernel), List.mem_of_getElem? (i := 516) (by decide +kernel), List.mem_of_getElem? (i := 517) (by decide +kernel)⟩
theorem lw_p19 : lw_okq (⟨"VersionDeskModel", "isSpoiled", "(II)Z"⟩, 14) := ⟨⟨by decide +kernel, by decide +kernel⟩, List.mem_of_getElem? (i := 410) (by decide +kernel), List.mem_of_getElem? (i := 520) (by decide +kernel), List.mem_of_getElem? (i := 521) (by decide +kernel)⟩
theorem lw_p20 : lw_okq (⟨"VersionDeskModel", "written", "(I)I"⟩, 14) := ⟨⟨by decide +kernel, by decide +kernel⟩, List.mem_of_getElem? (i := 410) (by decide +kernel), List.mem_of_getElem? (i := 524) (by decide +kernel), List.mem_of_getElem? (i := 525) (by decide +kernel)⟩
theorem lw_p21 : lw_okq (⟨"VersionDeskModel", "all", "()I"⟩, 14) := ⟨⟨by decide +kernel, by decide +kernel⟩, List.mem_of_getElem? (i := 410) (by decide +kernel), List.mem_of_getElem? (i := 528) (by decide +kernel), List.mem_of_getElem? (i := 529) (by decide +kernel)⟩
theorem lw_p22 : lw_okq (⟨"VersionDeskModel", "floor", "()I"⟩, 14) := ⟨⟨by decide +kernel, by decide +kernel⟩, List.mem_of_getElem? (i := 410) (by decide +kernel), List.mem_of_getElem? (i := 552) (by decide +kernel), List.mem_of_getElem? (i := 553) (by decide +kernel)⟩
def lw_privs_2 : List (MethodName × Nat) := [(⟨"VersionDeskModel", "layerOf", "(II)I"⟩, 14), (⟨"VersionDeskModel", "reading", "(II)J"⟩, 14), (⟨"VersionDeskModel", "spoils", "(I)I"⟩, 14), (⟨"VersionDeskModel", "isSpoiled", "(II)Z"⟩, 14), (⟨"VersionDeskModel", "written", "(I)I"⟩, 14), (⟨"VersionDeskModel", "all", "()I"⟩, 14), (⟨"VersionDeskModel", "floor", "()I"⟩, 14)]
theorem lw_r2 : ∀ q ∈ lw_privs_2, lw_okq q := List.forall_mem_cons.mpr ⟨lw_p16, List.forall_mem_cons.mpr ⟨lw_p17, List.forall_mem_cons.mpr ⟨lw_p18, List.forall_mem_cons.mpr ⟨lw_p19, List.forall_mem_cons.mpr ⟨lw_p20, List.forall_mem_cons.mpr ⟨lw_p21, List.forall_mem_cons.mpr ⟨lw_p22, fun _ h => absurd h List.not_mem_nil⟩⟩⟩⟩⟩⟩⟩
def lw_privs : List (MethodName × Nat) := lw_privs_1 ++ (lw_privs_2)
def lw_tbl : List Cond := k2_sels lw_privs ++ tables_1
theorem lw_privs_ok : ∀ q ∈ lw_privs, lw_okq q := by
  show ∀ q ∈ lw_privs_1 ++ (lw_privs_2), lw_okq q
  exact List.forall_mem_append.mpr ⟨lw_r1, lw_r2⟩
-- ===== end of PART A; then your names; then what follows =====
end
section
def vx_L (C n d : String) (A : Nat → Prop) (U : State) (H : Heap) : Prop := ∃ (c : ClassId) (k : Class) (i : Nat) (f : Field) (a : Nat) (cell : Cell), U.vm.findClass C = some c ∧ U.fieldFound? C n d = some (c, k, i, f) ∧ f.isStatic = true ∧ k.statics = some a ∧ H[a]? = some cell ∧ cell.vm.isStatics = true ∧ cell.cls = c ∧ f.slot < cell.slots.size ∧ k.staticTypes[f.slot]? = some f.type ∧ ¬ A a
theorem vx_L.moved {C n d : String} {A : Nat → Prop} {u U : State} {H : Heap} (hvm : u.vm.Alike U.vm) (h : vx_L C n d A u H) : vx_L C n d A U H := by
  obtain ⟨c, k, i, f, a, cell, h1, h2, h3, h4, h5, h6, h7, h8, h9, h10⟩ := h
  obtain ⟨k', hi', he⟩ := State.fieldFound?_setVm hvm h2
  exact ⟨c, k', i, f, a, cell, by rw [hvm.findClass]; exact h1, hi', h3, by rw [he]; exact h4, h5, h6, h7, h8, by rw [he]; exact h9, h10⟩
theorem vx_L.kept {C n d : String} {A : Nat → Prop} {U : State} {H H1 : Heap} (h : vx_L C n d A U H) (hq : ∀ a : Nat, a < H.size → ¬ A a → H1[a]? = H[a]?) : vx_L C n d A U H1 := by
  obtain ⟨c, k, i, f, a, cell, h1, h2, h3, h4, h5, h6, h7, h8, h9, h10⟩ := h
  exact ⟨c, k, i, f, a, cell, h1, h2, h3, h4, by rw [hq a (Array.getElem?_eq_some_iff.mp h5).1 h10]; exact h5, h6, h7, h8, h9, h10⟩
theorem vx_L.narrow {C n d : String} {A B : Nat → Prop} {U : State} {H : Heap} (h : vx_L C n d A U H) (hAB : ∀ q, B q → A q) : vx_L C n d B U H := by
  obtain ⟨c, k, i, f, a, cell, h1, h2, h3, h4, h5, h6, h7, h8, h9, h10⟩ := h
  exact ⟨c, k, i, f, a, cell, h1, h2, h3, h4, h5, h6, h7, h8, h9, fun z => h10 (hAB _ z)⟩
theorem vx_L.word {C n d : String} {A : Nat → Prop} {s : State} {args : Array Value} (h : vx_L C n d A s s.heap) : (Cond.laysStatic C n d).before args s = true := by
  obtain ⟨c, k, i, f, a, cell, h1, h2, h3, h4, h5, h6, h7, h8, h9, -⟩ := h
  show (Cond.laysStatic C n d).holds args s none s [] = true
  exact Cond.laysStatic_of h1 h2 h3 h4 h5 h6 h7 h8 h9
/-- .. and what it holds: null or some reference -/
def vx_Zq (C n d : String) (A : Nat → Prop) (U : State) (H : Heap) : Prop := va_Zq C n d A U H ∧ vx_L C n d A U H
theorem vx_Zq.moved {C n d : String} {A : Nat → Prop} {u U : State} {H : Heap} (hvm : u.vm.Alike U.vm) (h : vx_Zq C n d A u H) : vx_Zq C n d A U H := ⟨va_Zq.moved hvm h.1, vx_L.moved hvm h.2⟩
theorem vx_Zq.kept {C n d : String} {A : Nat → Prop} {U : State} {H H1 : Heap} (h : vx_Zq C n d A U H) (hq : ∀ a : Nat, a < H.size → ¬ A a → H1[a]? = H[a]?) : vx_Zq C n d A U H1 := ⟨va_Zq.kept h.1 hq, vx_L.kept h.2 hq⟩
theorem vx_Zq.narrow {C n d : String} {A B : Nat → Prop} {U : State} {H : Heap} (h : vx_Zq C n d A U H) (hAB : ∀ q, B q → A q) : vx_Zq C n d B U H := ⟨va_Zq.narrow h.1 hAB, vx_L.narrow h.2 hAB⟩
theorem vx_Zqof {args : Array Value} {s : State} {C n d : String} {A : Nat → Prop} (hl : (Cond.laysStatic C n d).before args s = true) (hini : (Cond.initialized C).before args s = true) (h : (Cond.isRef (.static C n d)).before args s = true) (hA : ∀ a : Nat, a < s.heap.size → ¬ A a) : vx_Zq C n d A s s.heap := by
  refine ⟨va_Zqof hl hini h hA, ?_⟩
  obtain ⟨c, k, i, f, a, cell, h1, h2, h3, h4, h5, h6, h7, h8, h9⟩ := Cond.laysStatic_spec hl
  exact ⟨c, k, i, f, a, cell, h1, h2, h3, h4, h5, h6, h7, h8, h9, hA a (Array.getElem?_eq_some_iff.mp h5).1⟩
theorem vx_isRef {C n d : String} {v : Value} {A : Nat → Prop} {s : State} {args : Array Value} (h : va_Z C n d v A s s.heap) (hv : v.isRef = true) : (Cond.isRef (.static C n d)).before args s = true := by
  obtain ⟨cf, kf, fi, f, a, cell, h1, h2, h3, h4, h5, h6, h7, -⟩ := h
  have he : (Term.static C n d).eval args s none [] s = some v := by
    simp [Term.eval, State.fieldNamed?, h1, h2, h4, h5, h6, h7]
  simp only [Cond.before, Cond.holds, Cond.value, he]
  cases v <;> simp_all [Value.isRef]
theorem vx_isRefq {C n d : String} {A : Nat → Prop} {s : State} {args : Array Value} (h : va_Zq C n d A s s.heap) : (Cond.isRef (.static C n d)).before args s = true := by
  rcases h with h | ⟨t, h⟩
  · exact vx_isRef h rfl
  · exact vx_isRef h rfl
end
section
theorem kw_0 : (Cond.initialized "VersionDeskLaw") ∈ lw_tbl := List.mem_append_right _ (List.mem_of_getElem? (i := 0) (by decide +kernel))
theorem kw_1 : (Cond.initialized "VersionDesk") ∈ lw_tbl := List.mem_append_right _ (List.mem_of_getElem? (i := 1) (by decide +kernel))
theorem kw_2 : (Cond.initialized "VersionDesk$Transaction") ∈ lw_tbl := List.mem_append_right _ (List.mem_of_getElem? (i := 2) (by decide +kernel))
theorem kw_3 : (Cond.initialized "VersionDesk$Versions") ∈ lw_tbl := List.mem_append_right _ (List.mem_of_getElem? (i := 3) (by decide +kernel))
theorem kw_4 : (Cond.initialized "VersionDeskModel") ∈ lw_tbl := List.mem_append_right _ (List.mem_of_getElem? (i := 4) (by decide +kernel))
theorem kw_5 : (Cond.initialized "java/lang/Throwable") ∈ lw_tbl := List.mem_append_right _ (List.mem_of_getElem? (i := 5) (by decide +kernel))
theorem kw_6 : (Cond.initialized "java/lang/Exception") ∈ lw_tbl := List.mem_append_right _ (List.mem_of_getElem? (i := 6) (by decide +kernel))
theorem kw_7 : (Cond.initialized "java/lang/RuntimeException") ∈ lw_tbl := List.mem_append_right _ (List.mem_of_getElem? (i := 7) (by decide +kernel))
theorem kw_8 : (Cond.initialized "java/lang/IllegalArgumentException") ∈ lw_tbl := List.mem_append_right _ (List.mem_of_getElem? (i := 8) (by decide +kernel))
theorem kw_9 : (Cond.initialized "java/lang/IllegalStateException") ∈ lw_tbl := List.mem_append_right _ (List.mem_of_getElem? (i := 9) (by decide +kernel))
theorem kw_10 : (Cond.initialized "java/util/NoSuchElementException") ∈ lw_tbl := List.mem_append_right _ (List.mem_of_getElem? (i := 10) (by decide +kernel))
theorem kw_11 : (Cond.initialized "java/lang/Integer") ∈ lw_tbl := List.mem_append_right _ (List.mem_of_getElem? (i := 11) (by decide +kernel))
theorem kw_12 : (Cond.initialized "java/lang/Math") ∈ lw_tbl := List.mem_append_right _ (List.mem_of_getElem? (i := 12) (by decide +kernel))
theorem kw_13 : (Cond.classLink "VersionDeskLaw" 8 "VersionDesk") ∈ lw_tbl := List.mem_append_right _ (List.mem_of_getElem? (i := 13) (by decide +kernel))
theorem kw_14 : (Cond.instantiable "VersionDesk" 3) ∈ lw_tbl := List.mem_append_right _ (List.mem_of_getElem? (i := 14) (by decide +kernel))
theorem kw_15 : (Cond.methodLink "VersionDeskLaw" 55 ⟨"VersionDesk", "<init>", "()V"⟩) ∈ lw_tbl := List.mem_append_right _ (List.mem_of_getElem? (i := 15) (by decide +kernel))
theorem kw_16 : (Cond.instanceMethod ⟨"VersionDesk", "<init>", "()V"⟩) ∈ lw_tbl := List.mem_append_right _ (List.mem_of_getElem? (i := 16) (by decide +kernel))
theorem kw_17 : (Cond.code ⟨"VersionDesk", "<init>", "()V"⟩ prog_1_method_1_code 2 none) ∈ lw_tbl := List.mem_append_right _ (List.mem_of_getElem? (i := 17) (by decide +kernel))
theorem kw_18 : (Cond.methodLink "VersionDesk" 1 ⟨"java/lang/Object", "<init>", "()V"⟩) ∈ lw_tbl := List.mem_append_right _ (List.mem_of_getElem? (i := 18) (by decide +kernel))
theorem kw_19 : (Cond.instanceMethod ⟨"java/lang/Object", "<init>", "()V"⟩) ∈ lw_tbl := List.mem_append_right _ (List.mem_of_getElem? (i := 19) (by decide +kernel))
theorem kw_20 : (Cond.code ⟨"java/lang/Object", "<init>", "()V"⟩ object_method_1_code 1 none) ∈ lw_tbl := List.mem_append_right _ (List.mem_of_getElem? (i := 20) (by decide +kernel))
theorem kw_21 : (Cond.classLink "VersionDesk" 9 "VersionDesk$Transaction") ∈ lw_tbl := List.mem_append_right _ (List.mem_of_getElem? (i := 21) (by decide +kernel))
theorem kw_22 : (Cond.arrayOver (FieldType.object "VersionDesk$Transaction")) ∈ lw_tbl := List.mem_append_right _ (List.mem_of_getElem? (i := 22) (by decide +kernel))
theorem kw_23 : (Cond.instantiable "VersionDesk$Transaction" 7) ∈ lw_tbl := List.mem_append_right _ (List.mem_of_getElem? (i := 23) (by decide +kernel))
theorem kw_24 : (Cond.methodLink "VersionDesk" 15 ⟨"VersionDesk$Transaction", "<init>", "()V"⟩) ∈ lw_tbl := List.mem_append_right _ (List.mem_of_getElem? (i := 24) (by decide +kernel))
theorem kw_25 : (Cond.instanceMethod ⟨"VersionDesk$Transaction", "<init>", "()V"⟩) ∈ lw_tbl := List.mem_append_right _ (List.mem_of_getElem? (i := 25) (by decide +kernel))
theorem kw_26 : (Cond.code ⟨"VersionDesk$Transaction", "<init>", "()V"⟩ prog_2_method_1_code 1 none) ∈ lw_tbl := List.mem_append_right _ (List.mem_of_getElem? (i := 26) (by decide +kernel))
theorem kw_27 : (Cond.methodLink "VersionDesk$Transaction" 3 ⟨"java/lang/Object", "<init>", "()V"⟩) ∈ lw_tbl := List.mem_append_right _ (List.mem_of_getElem? (i := 27) (by decide +kernel))
theorem kw_28 : (Cond.classLink "VersionDesk$Transaction" 23 "[[J") ∈ lw_tbl := List.mem_append_right _ (List.mem_of_getElem? (i := 28) (by decide +kernel))
theorem kw_29 : (Cond.arrayOver (FieldType.array FieldType.long)) ∈ lw_tbl := List.mem_append_right _ (List.mem_of_getElem? (i := 29) (by decide +kernel))
theorem kw_30 : (Cond.fieldLink "VersionDesk$Transaction" 9 "VersionDesk$Transaction" "open" "Z") ∈ lw_tbl := List.mem_append_right _ (List.mem_of_getElem? (i := 30) (by decide +kernel))
theorem kw_31 : (Cond.fieldLink "VersionDesk$Transaction" 28 "VersionDesk$Transaction" "start" "I") ∈ lw_tbl := List.mem_append_right _ (List.mem_of_getElem? (i := 31) (by decide +kernel))
theorem kw_32 : (Cond.fieldLink "VersionDesk$Transaction" 31 "VersionDesk$Transaction" "kind" "I") ∈ lw_tbl := List.mem_append_right _ (List.mem_of_getElem? (i := 32) (by decide +kernel))
theorem kw_33 : (Cond.fieldLink "VersionDesk$Transaction" 15 "VersionDesk$Transaction" "layers" "I") ∈ lw_tbl := List.mem_append_right _ (List.mem_of_getElem? (i := 33) (by decide +kernel))
theorem kw_34 : (Cond.fieldLink "VersionDesk$Transaction" 34 "VersionDesk$Transaction" "seen" "I") ∈ lw_tbl := List.mem_append_right _ (List.mem_of_getElem? (i := 34) (by decide +kernel))
theorem kw_35 : (Cond.fieldLink "VersionDesk$Transaction" 19 "VersionDesk$Transaction" "wrote" "[I") ∈ lw_tbl := List.mem_append_right _ (List.mem_of_getElem? (i := 35) (by decide +kernel))
theorem kw_36 : (Cond.fieldLink "VersionDesk$Transaction" 25 "VersionDesk$Transaction" "values" "[[J") ∈ lw_tbl := List.mem_append_right _ (List.mem_of_getElem? (i := 36) (by decide +kernel))
theorem kw_37 : (Cond.lays "VersionDesk$Transaction" "VersionDesk$Transaction" "open" "Z") ∈ lw_tbl := List.mem_append_right _ (List.mem_of_getElem? (i := 37) (by decide +kernel))
theorem kw_38 : (Cond.soleField "VersionDesk$Transaction" "open") ∈ lw_tbl := List.mem_append_right _ (List.mem_of_getElem? (i := 38) (by decide +kernel))
theorem kw_39 : (Cond.lays "VersionDesk$Transaction" "VersionDesk$Transaction" "start" "I") ∈ lw_tbl := List.mem_append_right _ (List.mem_of_getElem? (i := 39) (by decide +kernel))
theorem kw_40 : (Cond.soleField "VersionDesk$Transaction" "start") ∈ lw_tbl := List.mem_append_right _ (List.mem_of_getElem? (i := 40) (by decide +kernel))
theorem kw_41 : (Cond.lays "VersionDesk$Transaction" "VersionDesk$Transaction" "kind" "I") ∈ lw_tbl := List.mem_append_right _ (List.mem_of_getElem? (i := 41) (by decide +kernel))
theorem kw_42 : (Cond.soleField "VersionDesk$Transaction" "kind") ∈ lw_tbl := List.mem_append_right _ (List.mem_of_getElem? (i := 42) (by decide +kernel))
theorem kw_43 : (Cond.lays "VersionDesk$Transaction" "VersionDesk$Transaction" "layers" "I") ∈ lw_tbl := List.mem_append_right _ (List.mem_of_getElem? (i := 43) (by decide +kernel))
theorem kw_44 : (Cond.soleField "VersionDesk$Transaction" "layers") ∈ lw_tbl := List.mem_append_right _ (List.mem_of_getElem? (i := 44) (by decide +kernel))
theorem kw_45 : (Cond.lays "VersionDesk$Transaction" "VersionDesk$Transaction" "seen" "I") ∈ lw_tbl := List.mem_append_right _ (List.mem_of_getElem? (i := 45) (by decide +kernel))
theorem kw_46 : (Cond.soleField "VersionDesk$Transaction" "seen") ∈ lw_tbl := List.mem_append_right _ (List.mem_of_getElem? (i := 46) (by decide +kernel))
theorem kw_47 : (Cond.laysFinal "VersionDesk$Transaction" "VersionDesk$Transaction" "wrote" "[I") ∈ lw_tbl := List.mem_append_right _ (List.mem_of_getElem? (i := 47) (by decide +kernel))
theorem kw_48 : (Cond.soleField "VersionDesk$Transaction" "wrote") ∈ lw_tbl := List.mem_append_right _ (List.mem_of_getElem? (i := 48) (by decide +kernel))
theorem kw_49 : (Cond.laysFinal "VersionDesk$Transaction" "VersionDesk$Transaction" "values" "[[J") ∈ lw_tbl := List.mem_append_right _ (List.mem_of_getElem? (i := 49) (by decide +kernel))
theorem kw_50 : (Cond.soleField "VersionDesk$Transaction" "values") ∈ lw_tbl := List.mem_append_right _ (List.mem_of_getElem? (i := 50) (by decide +kernel))
theorem kw_51 : (Cond.superclass "VersionDesk$Transaction" "java/lang/Object") ∈ lw_tbl := List.mem_append_right _ (List.mem_of_getElem? (i := 51) (by decide +kernel))
theorem kw_52 : (Cond.arrayClass FieldType.int) ∈ lw_tbl := List.mem_append_right _ (List.mem_of_getElem? (i := 52) (by decide +kernel))
theorem kw_53 : (Cond.arrayClass FieldType.long) ∈ lw_tbl := List.mem_append_right _ (List.mem_of_getElem? (i := 53) (by decide +kernel))
theorem kw_54 : (Cond.classLink "VersionDesk" 16 "VersionDesk$Versions") ∈ lw_tbl := List.mem_append_right _ (List.mem_of_getElem? (i := 54) (by decide +kernel))
theorem kw_55 : (Cond.instantiable "VersionDesk$Versions" 4) ∈ lw_tbl := List.mem_append_right _ (List.mem_of_getElem? (i := 55) (by decide +kernel))
theorem kw_56 : (Cond.methodLink "VersionDesk" 18 ⟨"VersionDesk$Versions", "<init>", "()V"⟩) ∈ lw_tbl := List.mem_append_right _ (List.mem_of_getElem? (i := 56) (by decide +kernel))
theorem kw_57 : (Cond.instanceMethod ⟨"VersionDesk$Versions", "<init>", "()V"⟩) ∈ lw_tbl := List.mem_append_right _ (List.mem_of_getElem? (i := 57) (by decide +kernel))
theorem kw_58 : (Cond.code ⟨"VersionDesk$Versions", "<init>", "()V"⟩ prog_3_method_1_code 2 none) ∈ lw_tbl := List.mem_append_right _ (List.mem_of_getElem? (i := 58) (by decide +kernel))
theorem kw_59 : (Cond.methodLink "VersionDesk$Versions" 3 ⟨"java/lang/Object", "<init>", "()V"⟩) ∈ lw_tbl := List.mem_append_right _ (List.mem_of_getElem? (i := 59) (by decide +kernel))
theorem kw_60 : (Cond.fieldLink "VersionDesk$Versions" 9 "VersionDesk$Versions" "cells" "[I") ∈ lw_tbl := List.mem_append_right _ (List.mem_of_getElem? (i := 60) (by decide +kernel))
theorem kw_61 : (Cond.fieldLink "VersionDesk$Versions" 15 "VersionDesk$Versions" "clocks" "[I") ∈ lw_tbl := List.mem_append_right _ (List.mem_of_getElem? (i := 61) (by decide +kernel))
theorem kw_62 : (Cond.fieldLink "VersionDesk$Versions" 18 "VersionDesk$Versions" "values" "[J") ∈ lw_tbl := List.mem_append_right _ (List.mem_of_getElem? (i := 62) (by decide +kernel))
theorem kw_63 : (Cond.fieldLink "VersionDesk$Versions" 22 "VersionDesk$Versions" "size" "I") ∈ lw_tbl := List.mem_append_right _ (List.mem_of_getElem? (i := 63) (by decide +kernel))
theorem kw_64 : (Cond.laysFinal "VersionDesk$Versions" "VersionDesk$Versions" "cells" "[I") ∈ lw_tbl := List.mem_append_right _ (List.mem_of_getElem? (i := 64) (by decide +kernel))
theorem kw_65 : (Cond.soleField "VersionDesk$Versions" "cells") ∈ lw_tbl := List.mem_append_right _ (List.mem_of_getElem? (i := 65) (by decide +kernel))
theorem kw_66 : (Cond.laysFinal "VersionDesk$Versions" "VersionDesk$Versions" "clocks" "[I") ∈ lw_tbl := List.mem_append_right _ (List.mem_of_getElem? (i := 66) (by decide +kernel))
theorem kw_67 : (Cond.soleField "VersionDesk$Versions" "clocks") ∈ lw_tbl := List.mem_append_right _ (List.mem_of_getElem? (i := 67) (by decide +kernel))
theorem kw_68 : (Cond.laysFinal "VersionDesk$Versions" "VersionDesk$Versions" "values" "[J") ∈ lw_tbl := List.mem_append_right _ (List.mem_of_getElem? (i := 68) (by decide +kernel))
theorem kw_69 : (Cond.soleField "VersionDesk$Versions" "values") ∈ lw_tbl := List.mem_append_right _ (List.mem_of_getElem? (i := 69) (by decide +kernel))
theorem kw_70 : (Cond.lays "VersionDesk$Versions" "VersionDesk$Versions" "size" "I") ∈ lw_tbl := List.mem_append_right _ (List.mem_of_getElem? (i := 70) (by decide +kernel))
theorem kw_71 : (Cond.soleField "VersionDesk$Versions" "size") ∈ lw_tbl := List.mem_append_right _ (List.mem_of_getElem? (i := 71) (by decide +kernel))
theorem kw_72 : (Cond.superclass "VersionDesk$Versions" "java/lang/Object") ∈ lw_tbl := List.mem_append_right _ (List.mem_of_getElem? (i := 72) (by decide +kernel))
theorem kw_73 : (Cond.fieldLink "VersionDesk" 11 "VersionDesk" "transactions" "[LVersionDesk$Transaction;") ∈ lw_tbl := List.mem_append_right _ (List.mem_of_getElem? (i := 73) (by decide +kernel))
theorem kw_74 : (Cond.fieldLink "VersionDesk" 19 "VersionDesk" "versions" "LVersionDesk$Versions;") ∈ lw_tbl := List.mem_append_right _ (List.mem_of_getElem? (i := 74) (by decide +kernel))
theorem kw_75 : (Cond.fieldLink "VersionDesk" 23 "VersionDesk" "clock" "I") ∈ lw_tbl := List.mem_append_right _ (List.mem_of_getElem? (i := 75) (by decide +kernel))
theorem kw_76 : (Cond.laysFinal "VersionDesk" "VersionDesk" "transactions" "[LVersionDesk$Transaction;") ∈ lw_tbl := List.mem_append_right _ (List.mem_of_getElem? (i := 76) (by decide +kernel))
theorem kw_77 : (Cond.soleField "VersionDesk" "transactions") ∈ lw_tbl := List.mem_append_right _ (List.mem_of_getElem? (i := 77) (by decide +kernel))
theorem kw_78 : (Cond.laysFinal "VersionDesk" "VersionDesk" "versions" "LVersionDesk$Versions;") ∈ lw_tbl := List.mem_append_right _ (List.mem_of_getElem? (i := 78) (by decide +kernel))
theorem kw_79 : (Cond.soleField "VersionDesk" "versions") ∈ lw_tbl := List.mem_append_right _ (List.mem_of_getElem? (i := 79) (by decide +kernel))
theorem kw_80 : (Cond.lays "VersionDesk" "VersionDesk" "clock" "I") ∈ lw_tbl := List.mem_append_right _ (List.mem_of_getElem? (i := 80) (by decide +kernel))
theorem kw_81 : (Cond.soleField "VersionDesk" "clock") ∈ lw_tbl := List.mem_append_right _ (List.mem_of_getElem? (i := 81) (by decide +kernel))
theorem kw_82 : (Cond.superclass "VersionDesk" "java/lang/Object") ∈ lw_tbl := List.mem_append_right _ (List.mem_of_getElem? (i := 82) (by decide +kernel))
theorem kw_83 : (Cond.methodLink "VersionDeskLaw" 101 ⟨"VersionDesk", "forget", "()I"⟩) ∈ lw_tbl := List.mem_append_right _ (List.mem_of_getElem? (i := 83) (by decide +kernel))
theorem kw_84 : (Cond.instanceMethod ⟨"VersionDesk", "forget", "()I"⟩) ∈ lw_tbl := List.mem_append_right _ (List.mem_of_getElem? (i := 84) (by decide +kernel))
theorem kw_85 : (Cond.selects "VersionDesk" ⟨"VersionDesk", "forget", "()I"⟩ ⟨"VersionDesk", "forget", "()I"⟩) ∈ lw_tbl := List.mem_append_right _ (List.mem_of_getElem? (i := 85) (by decide +kernel))
theorem kw_86 : (Cond.code ⟨"VersionDesk", "forget", "()I"⟩ prog_1_method_12_code 1 (some FieldType.int)) ∈ lw_tbl := List.mem_append_right _ (List.mem_of_getElem? (i := 86) (by decide +kernel))
theorem kw_87 : (Cond.methodLink "VersionDesk" 113 ⟨"VersionDesk", "floor", "()I"⟩) ∈ lw_tbl := List.mem_append_right _ (List.mem_of_getElem? (i := 87) (by decide +kernel))
theorem kw_88 : (Cond.privateMethod ⟨"VersionDesk", "floor", "()I"⟩) ∈ lw_tbl := List.mem_append_right _ (List.mem_of_getElem? (i := 88) (by decide +kernel))
theorem kw_89 : (Cond.instanceMethod ⟨"VersionDesk", "floor", "()I"⟩) ∈ lw_tbl := List.mem_append_right _ (List.mem_of_getElem? (i := 89) (by decide +kernel))
theorem kw_90 : (Cond.code ⟨"VersionDesk", "floor", "()I"⟩ prog_1_method_19_code 3 (some FieldType.int)) ∈ lw_tbl := List.mem_append_right _ (List.mem_of_getElem? (i := 90) (by decide +kernel))
theorem kw_91 : (Cond.methodLink "VersionDesk" 134 ⟨"VersionDesk$Transaction", "isOpen", "()Z"⟩) ∈ lw_tbl := List.mem_append_right _ (List.mem_of_getElem? (i := 91) (by decide +kernel))
theorem kw_92 : (Cond.instanceMethod ⟨"VersionDesk$Transaction", "isOpen", "()Z"⟩) ∈ lw_tbl := List.mem_append_right _ (List.mem_of_getElem? (i := 92) (by decide +kernel))
theorem kw_93 : (Cond.selects "VersionDesk$Transaction" ⟨"VersionDesk$Transaction", "isOpen", "()Z"⟩ ⟨"VersionDesk$Transaction", "isOpen", "()Z"⟩) ∈ lw_tbl := List.mem_append_right _ (List.mem_of_getElem? (i := 93) (by decide +kernel))
theorem kw_94 : (Cond.code ⟨"VersionDesk$Transaction", "isOpen", "()Z"⟩ prog_2_method_4_code 1 (some FieldType.boolean)) ∈ lw_tbl := List.mem_append_right _ (List.mem_of_getElem? (i := 94) (by decide +kernel))
theorem kw_95 : (Cond.methodLink "VersionDesk" 119 ⟨"VersionDesk$Transaction", "start", "()I"⟩) ∈ lw_tbl := List.mem_append_right _ (List.mem_of_getElem? (i := 95) (by decide +kernel))
theorem kw_96 : (Cond.instanceMethod ⟨"VersionDesk$Transaction", "start", "()I"⟩) ∈ lw_tbl := List.mem_append_right _ (List.mem_of_getElem? (i := 96) (by decide +kernel))
theorem kw_97 : (Cond.selects "VersionDesk$Transaction" ⟨"VersionDesk$Transaction", "start", "()I"⟩ ⟨"VersionDesk$Transaction", "start", "()I"⟩) ∈ lw_tbl := List.mem_append_right _ (List.mem_of_getElem? (i := 97) (by decide +kernel))
theorem kw_98 : (Cond.code ⟨"VersionDesk$Transaction", "start", "()I"⟩ prog_2_method_5_code 1 (some FieldType.int)) ∈ lw_tbl := List.mem_append_right _ (List.mem_of_getElem? (i := 98) (by decide +kernel))
theorem kw_99 : (Cond.methodLink "VersionDesk" 138 ⟨"java/lang/Math", "min", "(II)I"⟩) ∈ lw_tbl := List.mem_append_right _ (List.mem_of_getElem? (i := 99) (by decide +kernel))
theorem kw_100 : (Cond.static ⟨"java/lang/Math", "min", "(II)I"⟩) ∈ lw_tbl := List.mem_append_right _ (List.mem_of_getElem? (i := 100) (by decide +kernel))
theorem kw_101 : (Cond.code ⟨"java/lang/Math", "min", "(II)I"⟩ prog_10_method_69_code 2 (some FieldType.int)) ∈ lw_tbl := List.mem_append_right _ (List.mem_of_getElem? (i := 101) (by decide +kernel))
theorem kw_102 : (Cond.methodLink "VersionDesk" 116 ⟨"VersionDesk$Versions", "removeCovered", "(I)I"⟩) ∈ lw_tbl := List.mem_append_right _ (List.mem_of_getElem? (i := 102) (by decide +kernel))
theorem kw_103 : (Cond.instanceMethod ⟨"VersionDesk$Versions", "removeCovered", "(I)I"⟩) ∈ lw_tbl := List.mem_append_right _ (List.mem_of_getElem? (i := 103) (by decide +kernel))
theorem kw_104 : (Cond.selects "VersionDesk$Versions" ⟨"VersionDesk$Versions", "removeCovered", "(I)I"⟩ ⟨"VersionDesk$Versions", "removeCovered", "(I)I"⟩) ∈ lw_tbl := List.mem_append_right _ (List.mem_of_getElem? (i := 104) (by decide +kernel))
theorem kw_105 : (Cond.code ⟨"VersionDesk$Versions", "removeCovered", "(I)I"⟩ prog_3_method_8_code 6 (some FieldType.int)) ∈ lw_tbl := List.mem_append_right _ (List.mem_of_getElem? (i := 105) (by decide +kernel))
theorem kw_106 : (Cond.methodLink "VersionDesk$Versions" 30 ⟨"VersionDesk$Versions", "move", "(II)V"⟩) ∈ lw_tbl := List.mem_append_right _ (List.mem_of_getElem? (i := 106) (by decide +kernel))
theorem kw_107 : (Cond.privateMethod ⟨"VersionDesk$Versions", "move", "(II)V"⟩) ∈ lw_tbl := List.mem_append_right _ (List.mem_of_getElem? (i := 107) (by decide +kernel))
theorem kw_108 : (Cond.instanceMethod ⟨"VersionDesk$Versions", "move", "(II)V"⟩) ∈ lw_tbl := List.mem_append_right _ (List.mem_of_getElem? (i := 108) (by decide +kernel))
theorem kw_109 : (Cond.code ⟨"VersionDesk$Versions", "move", "(II)V"⟩ prog_3_method_10_code 3 none) ∈ lw_tbl := List.mem_append_right _ (List.mem_of_getElem? (i := 109) (by decide +kernel))
theorem kw_110 : (Cond.methodLink "VersionDeskLaw" 108 ⟨"VersionDesk", "count", "(I)I"⟩) ∈ lw_tbl := List.mem_append_right _ (List.mem_of_getElem? (i := 110) (by decide +kernel))
theorem kw_111 : (Cond.instanceMethod ⟨"VersionDesk", "count", "(I)I"⟩) ∈ lw_tbl := List.mem_append_right _ (List.mem_of_getElem? (i := 111) (by decide +kernel))
theorem kw_112 : (Cond.selects "VersionDesk" ⟨"VersionDesk", "count", "(I)I"⟩ ⟨"VersionDesk", "count", "(I)I"⟩) ∈ lw_tbl := List.mem_append_right _ (List.mem_of_getElem? (i := 112) (by decide +kernel))
theorem kw_113 : (Cond.code ⟨"VersionDesk", "count", "(I)I"⟩ prog_1_method_14_code 2 (some FieldType.int)) ∈ lw_tbl := List.mem_append_right _ (List.mem_of_getElem? (i := 113) (by decide +kernel))
theorem kw_114 : (Cond.methodLink "VersionDesk" 128 ⟨"VersionDesk", "howManyOpen", "()I"⟩) ∈ lw_tbl := List.mem_append_right _ (List.mem_of_getElem? (i := 114) (by decide +kernel))
theorem kw_115 : (Cond.privateMethod ⟨"VersionDesk", "howManyOpen", "()I"⟩) ∈ lw_tbl := List.mem_append_right _ (List.mem_of_getElem? (i := 115) (by decide +kernel))
theorem kw_116 : (Cond.instanceMethod ⟨"VersionDesk", "howManyOpen", "()I"⟩) ∈ lw_tbl := List.mem_append_right _ (List.mem_of_getElem? (i := 116) (by decide +kernel))
theorem kw_117 : (Cond.code ⟨"VersionDesk", "howManyOpen", "()I"⟩ prog_1_method_18_code 3 (some FieldType.int)) ∈ lw_tbl := List.mem_append_right _ (List.mem_of_getElem? (i := 117) (by decide +kernel))
theorem kw_118 : (Cond.methodLink "VersionDesk" 131 ⟨"VersionDesk$Versions", "size", "()I"⟩) ∈ lw_tbl := List.mem_append_right _ (List.mem_of_getElem? (i := 118) (by decide +kernel))
theorem kw_119 : (Cond.instanceMethod ⟨"VersionDesk$Versions", "size", "()I"⟩) ∈ lw_tbl := List.mem_append_right _ (List.mem_of_getElem? (i := 119) (by decide +kernel))
theorem kw_120 : (Cond.selects "VersionDesk$Versions" ⟨"VersionDesk$Versions", "size", "()I"⟩ ⟨"VersionDesk$Versions", "size", "()I"⟩) ∈ lw_tbl := List.mem_append_right _ (List.mem_of_getElem? (i := 120) (by decide +kernel))
theorem kw_121 : (Cond.code ⟨"VersionDesk$Versions", "size", "()I"⟩ prog_3_method_2_code 1 (some FieldType.int)) ∈ lw_tbl := List.mem_append_right _ (List.mem_of_getElem? (i := 121) (by decide +kernel))
theorem kw_122 : (Cond.methodLink "VersionDeskLaw" 59 ⟨"VersionDeskLaw", "begin", "(LVersionDesk;I[J)I"⟩) ∈ lw_tbl := List.mem_append_right _ (List.mem_of_getElem? (i := 122) (by decide +kernel))
theorem kw_123 : (Cond.static ⟨"VersionDeskLaw", "begin", "(LVersionDesk;I[J)I"⟩) ∈ lw_tbl := List.mem_append_right _ (List.mem_of_getElem? (i := 123) (by decide +kernel))
theorem kw_124 : (Cond.codeWith ⟨"VersionDeskLaw", "begin", "(LVersionDesk;I[J)I"⟩ method_3_code 4 (some FieldType.int) [(0, 9, 12, 13), (0, 9, 15, 15)]) ∈ lw_tbl := List.mem_append_right _ (List.mem_of_getElem? (i := 124) (by decide +kernel))
theorem kw_125 : (Cond.classLink "VersionDeskLaw" 13 "java/lang/IllegalArgumentException") ∈ lw_tbl := List.mem_append_right _ (List.mem_of_getElem? (i := 125) (by decide +kernel))
theorem kw_126 : (Cond.classLink "VersionDeskLaw" 15 "java/lang/IllegalStateException") ∈ lw_tbl := List.mem_append_right _ (List.mem_of_getElem? (i := 126) (by decide +kernel))
theorem kw_127 : (Cond.methodLink "VersionDeskLaw" 7 ⟨"VersionDesk", "begin", "(I)I"⟩) ∈ lw_tbl := List.mem_append_right _ (List.mem_of_getElem? (i := 127) (by decide +kernel))
theorem kw_128 : (Cond.instanceMethod ⟨"VersionDesk", "begin", "(I)I"⟩) ∈ lw_tbl := List.mem_append_right _ (List.mem_of_getElem? (i := 128) (by decide +kernel))
theorem kw_129 : (Cond.selects "VersionDesk" ⟨"VersionDesk", "begin", "(I)I"⟩ ⟨"VersionDesk", "begin", "(I)I"⟩) ∈ lw_tbl := List.mem_append_right _ (List.mem_of_getElem? (i := 129) (by decide +kernel))
theorem kw_130 : (Cond.code ⟨"VersionDesk", "begin", "(I)I"⟩ prog_1_method_2_code 3 (some FieldType.int)) ∈ lw_tbl := List.mem_append_right _ (List.mem_of_getElem? (i := 130) (by decide +kernel))
theorem kw_131 : (Cond.classLink "VersionDesk" 27 "java/lang/IllegalArgumentException") ∈ lw_tbl := List.mem_append_right _ (List.mem_of_getElem? (i := 131) (by decide +kernel))
theorem kw_132 : (Cond.instantiable "java/lang/IllegalArgumentException" 6) ∈ lw_tbl := List.mem_append_right _ (List.mem_of_getElem? (i := 132) (by decide +kernel))
theorem kw_133 : (Cond.castable "java/lang/IllegalArgumentException" "java/lang/IllegalArgumentException") ∈ lw_tbl := List.mem_append_right _ (List.mem_of_getElem? (i := 133) (by decide +kernel))
theorem kw_134 : (Cond.declares ⟨"java/lang/RuntimeException", "<init>", "()V"⟩) ∈ lw_tbl := List.mem_append_right _ (List.mem_of_getElem? (i := 134) (by decide +kernel))
theorem kw_135 : (Cond.declares ⟨"java/lang/RuntimeException", "<init>", "(Ljava/lang/String;)V"⟩) ∈ lw_tbl := List.mem_append_right _ (List.mem_of_getElem? (i := 135) (by decide +kernel))
theorem kw_136 : (Cond.declares ⟨"java/lang/Exception", "<init>", "()V"⟩) ∈ lw_tbl := List.mem_append_right _ (List.mem_of_getElem? (i := 136) (by decide +kernel))
theorem kw_137 : (Cond.declares ⟨"java/lang/Exception", "<init>", "(Ljava/lang/String;)V"⟩) ∈ lw_tbl := List.mem_append_right _ (List.mem_of_getElem? (i := 137) (by decide +kernel))
theorem kw_138 : (Cond.declares ⟨"java/lang/Throwable", "<init>", "()V"⟩) ∈ lw_tbl := List.mem_append_right _ (List.mem_of_getElem? (i := 138) (by decide +kernel))
theorem kw_139 : (Cond.declares ⟨"java/lang/Throwable", "<init>", "(Ljava/lang/String;)V"⟩) ∈ lw_tbl := List.mem_append_right _ (List.mem_of_getElem? (i := 139) (by decide +kernel))
theorem kw_140 : (Cond.selects "java/lang/IllegalArgumentException" ⟨"java/lang/Throwable", "fillInStackTrace", "(I)Ljava/lang/Throwable;"⟩ ⟨"java/lang/Throwable", "fillInStackTrace", "(I)Ljava/lang/Throwable;"⟩) ∈ lw_tbl := List.mem_append_right _ (List.mem_of_getElem? (i := 140) (by decide +kernel))
theorem kw_141 : (Cond.selects "java/lang/IllegalArgumentException" ⟨"java/lang/Throwable", "fillInStackTrace", "()Ljava/lang/Throwable;"⟩ ⟨"java/lang/Throwable", "fillInStackTrace", "()Ljava/lang/Throwable;"⟩) ∈ lw_tbl := List.mem_append_right _ (List.mem_of_getElem? (i := 141) (by decide +kernel))
theorem kw_142 : (Cond.lays "java/lang/IllegalArgumentException" "java/lang/Throwable" "cause" "Ljava/lang/Throwable;") ∈ lw_tbl := List.mem_append_right _ (List.mem_of_getElem? (i := 142) (by decide +kernel))
theorem kw_143 : (Cond.lays "java/lang/Throwable" "java/lang/Throwable" "cause" "Ljava/lang/Throwable;") ∈ lw_tbl := List.mem_append_right _ (List.mem_of_getElem? (i := 143) (by decide +kernel))
theorem kw_144 : (Cond.lays "java/lang/IllegalArgumentException" "java/lang/Throwable" "stackTrace" "[Ljava/lang/StackTraceElement;") ∈ lw_tbl := List.mem_append_right _ (List.mem_of_getElem? (i := 144) (by decide +kernel))
theorem kw_145 : (Cond.lays "java/lang/Throwable" "java/lang/Throwable" "stackTrace" "[Ljava/lang/StackTraceElement;") ∈ lw_tbl := List.mem_append_right _ (List.mem_of_getElem? (i := 145) (by decide +kernel))
theorem kw_146 : (Cond.lays "java/lang/IllegalArgumentException" "java/lang/Throwable" "suppressedExceptions" "Ljava/util/List;") ∈ lw_tbl := List.mem_append_right _ (List.mem_of_getElem? (i := 146) (by decide +kernel))
theorem kw_147 : (Cond.lays "java/lang/Throwable" "java/lang/Throwable" "suppressedExceptions" "Ljava/util/List;") ∈ lw_tbl := List.mem_append_right _ (List.mem_of_getElem? (i := 147) (by decide +kernel))
theorem kw_148 : (Cond.lays "java/lang/IllegalArgumentException" "java/lang/Throwable" "detailMessage" "Ljava/lang/String;") ∈ lw_tbl := List.mem_append_right _ (List.mem_of_getElem? (i := 148) (by decide +kernel))
theorem kw_149 : (Cond.lays "java/lang/Throwable" "java/lang/Throwable" "detailMessage" "Ljava/lang/String;") ∈ lw_tbl := List.mem_append_right _ (List.mem_of_getElem? (i := 149) (by decide +kernel))
theorem kw_150 : (Cond.lays "java/lang/IllegalArgumentException" "java/lang/Throwable" "backtrace" "Ljava/lang/Object;") ∈ lw_tbl := List.mem_append_right _ (List.mem_of_getElem? (i := 150) (by decide +kernel))
theorem kw_151 : (Cond.lays "java/lang/Throwable" "java/lang/Throwable" "backtrace" "Ljava/lang/Object;") ∈ lw_tbl := List.mem_append_right _ (List.mem_of_getElem? (i := 151) (by decide +kernel))
theorem kw_152 : (Cond.fieldLink "java/lang/Throwable" 198 "java/lang/Throwable" "backtrace" "Ljava/lang/Object;") ∈ lw_tbl := List.mem_append_right _ (List.mem_of_getElem? (i := 152) (by decide +kernel))
theorem kw_153 : (Cond.superclass "java/lang/Throwable" "java/lang/Object") ∈ lw_tbl := List.mem_append_right _ (List.mem_of_getElem? (i := 153) (by decide +kernel))
theorem kw_154 : (Cond.instanceMethod ⟨"java/lang/Throwable", "<init>", "()V"⟩) ∈ lw_tbl := List.mem_append_right _ (List.mem_of_getElem? (i := 154) (by decide +kernel))
theorem kw_155 : (Cond.code ⟨"java/lang/Throwable", "<init>", "()V"⟩ prog_12_method_1_code 1 none) ∈ lw_tbl := List.mem_append_right _ (List.mem_of_getElem? (i := 155) (by decide +kernel))
theorem kw_156 : (Cond.methodLink "java/lang/Throwable" 1 ⟨"java/lang/Object", "<init>", "()V"⟩) ∈ lw_tbl := List.mem_append_right _ (List.mem_of_getElem? (i := 156) (by decide +kernel))
theorem kw_157 : (Cond.fieldLink "java/lang/Throwable" 13 "java/lang/Throwable" "UNASSIGNED_STACK" "[Ljava/lang/StackTraceElement;") ∈ lw_tbl := List.mem_append_right _ (List.mem_of_getElem? (i := 157) (by decide +kernel))
theorem kw_158 : (Cond.laysStatic "java/lang/Throwable" "UNASSIGNED_STACK" "[Ljava/lang/StackTraceElement;") ∈ lw_tbl := List.mem_append_right _ (List.mem_of_getElem? (i := 158) (by decide +kernel))
theorem kw_159 : (Cond.fieldLink "java/lang/Throwable" 20 "java/lang/Throwable" "SUPPRESSED_SENTINEL" "Ljava/util/List;") ∈ lw_tbl := List.mem_append_right _ (List.mem_of_getElem? (i := 159) (by decide +kernel))
theorem kw_160 : (Cond.laysStatic "java/lang/Throwable" "SUPPRESSED_SENTINEL" "Ljava/util/List;") ∈ lw_tbl := List.mem_append_right _ (List.mem_of_getElem? (i := 160) (by decide +kernel))
theorem kw_161 : (Cond.methodLink "java/lang/Throwable" 27 ⟨"java/lang/Throwable", "fillInStackTrace", "()Ljava/lang/Throwable;"⟩) ∈ lw_tbl := List.mem_append_right _ (List.mem_of_getElem? (i := 161) (by decide +kernel))
theorem kw_162 : (Cond.instanceMethod ⟨"java/lang/Throwable", "fillInStackTrace", "()Ljava/lang/Throwable;"⟩) ∈ lw_tbl := List.mem_append_right _ (List.mem_of_getElem? (i := 162) (by decide +kernel))
theorem kw_163 : (Cond.sameMethod "java/lang/Throwable" "java/lang/Throwable" "fillInStackTrace" "()Ljava/lang/Throwable;") ∈ lw_tbl := List.mem_append_right _ (List.mem_of_getElem? (i := 163) (by decide +kernel))
theorem kw_164 : (Cond.selects "java/lang/IllegalStateException" ⟨"java/lang/Throwable", "fillInStackTrace", "()Ljava/lang/Throwable;"⟩ ⟨"java/lang/Throwable", "fillInStackTrace", "()Ljava/lang/Throwable;"⟩) ∈ lw_tbl := List.mem_append_right _ (List.mem_of_getElem? (i := 164) (by decide +kernel))
theorem kw_165 : (Cond.selects "java/util/NoSuchElementException" ⟨"java/lang/Throwable", "fillInStackTrace", "()Ljava/lang/Throwable;"⟩ ⟨"java/lang/Throwable", "fillInStackTrace", "()Ljava/lang/Throwable;"⟩) ∈ lw_tbl := List.mem_append_right _ (List.mem_of_getElem? (i := 165) (by decide +kernel))
theorem kw_166 : (Cond.codeSync ⟨"java/lang/Throwable", "fillInStackTrace", "()Ljava/lang/Throwable;"⟩ prog_12_method_18_code 1 (some (FieldType.object "java/lang/Throwable"))) ∈ lw_tbl := List.mem_append_right _ (List.mem_of_getElem? (i := 166) (by decide +kernel))
theorem kw_167 : (Cond.methodLink "java/lang/Throwable" 202 ⟨"java/lang/Throwable", "fillInStackTrace", "(I)Ljava/lang/Throwable;"⟩) ∈ lw_tbl := List.mem_append_right _ (List.mem_of_getElem? (i := 167) (by decide +kernel))
theorem kw_168 : (Cond.privateMethod ⟨"java/lang/Throwable", "fillInStackTrace", "(I)Ljava/lang/Throwable;"⟩) ∈ lw_tbl := List.mem_append_right _ (List.mem_of_getElem? (i := 168) (by decide +kernel))
theorem kw_169 : (Cond.instanceMethod ⟨"java/lang/Throwable", "fillInStackTrace", "(I)Ljava/lang/Throwable;"⟩) ∈ lw_tbl := List.mem_append_right _ (List.mem_of_getElem? (i := 169) (by decide +kernel))
theorem kw_170 : (Cond.instantiable "java/lang/Throwable" 6) ∈ lw_tbl := List.mem_append_right _ (List.mem_of_getElem? (i := 170) (by decide +kernel))
theorem kw_171 : (Cond.native ⟨"java/lang/Throwable", "fillInStackTrace", "(I)Ljava/lang/Throwable;"⟩) ∈ lw_tbl := List.mem_append_right _ (List.mem_of_getElem? (i := 171) (by decide +kernel))
theorem kw_172 : (Cond.methodLink "VersionDesk" 29 ⟨"java/lang/IllegalArgumentException", "<init>", "()V"⟩) ∈ lw_tbl := List.mem_append_right _ (List.mem_of_getElem? (i := 172) (by decide +kernel))
theorem kw_173 : (Cond.instanceMethod ⟨"java/lang/IllegalArgumentException", "<init>", "()V"⟩) ∈ lw_tbl := List.mem_append_right _ (List.mem_of_getElem? (i := 173) (by decide +kernel))
theorem kw_174 : (Cond.code ⟨"java/lang/IllegalArgumentException", "<init>", "()V"⟩ prog_7_method_1_code 1 none) ∈ lw_tbl := List.mem_append_right _ (List.mem_of_getElem? (i := 174) (by decide +kernel))
theorem kw_175 : (Cond.methodLink "java/lang/IllegalArgumentException" 1 ⟨"java/lang/RuntimeException", "<init>", "()V"⟩) ∈ lw_tbl := List.mem_append_right _ (List.mem_of_getElem? (i := 175) (by decide +kernel))
theorem kw_176 : (Cond.instanceMethod ⟨"java/lang/RuntimeException", "<init>", "()V"⟩) ∈ lw_tbl := List.mem_append_right _ (List.mem_of_getElem? (i := 176) (by decide +kernel))
theorem kw_177 : (Cond.code ⟨"java/lang/RuntimeException", "<init>", "()V"⟩ prog_11_method_1_code 1 none) ∈ lw_tbl := List.mem_append_right _ (List.mem_of_getElem? (i := 177) (by decide +kernel))
theorem kw_178 : (Cond.methodLink "java/lang/RuntimeException" 1 ⟨"java/lang/Exception", "<init>", "()V"⟩) ∈ lw_tbl := List.mem_append_right _ (List.mem_of_getElem? (i := 178) (by decide +kernel))
theorem kw_179 : (Cond.instanceMethod ⟨"java/lang/Exception", "<init>", "()V"⟩) ∈ lw_tbl := List.mem_append_right _ (List.mem_of_getElem? (i := 179) (by decide +kernel))
theorem kw_180 : (Cond.code ⟨"java/lang/Exception", "<init>", "()V"⟩ prog_6_method_1_code 1 none) ∈ lw_tbl := List.mem_append_right _ (List.mem_of_getElem? (i := 180) (by decide +kernel))
theorem kw_181 : (Cond.methodLink "java/lang/Exception" 1 ⟨"java/lang/Throwable", "<init>", "()V"⟩) ∈ lw_tbl := List.mem_append_right _ (List.mem_of_getElem? (i := 181) (by decide +kernel))
theorem kw_182 : (Cond.fieldLink "java/lang/Throwable" 198 "java/lang/Throwable" "backtrace" "Ljava/lang/Object;") ∈ lw_tbl := List.mem_append_right _ (List.mem_of_getElem? (i := 182) (by decide +kernel))
theorem kw_183 : (Cond.fieldLink "java/lang/Throwable" 7 "java/lang/Throwable" "cause" "Ljava/lang/Throwable;") ∈ lw_tbl := List.mem_append_right _ (List.mem_of_getElem? (i := 183) (by decide +kernel))
theorem kw_184 : (Cond.fieldLink "java/lang/Throwable" 17 "java/lang/Throwable" "stackTrace" "[Ljava/lang/StackTraceElement;") ∈ lw_tbl := List.mem_append_right _ (List.mem_of_getElem? (i := 184) (by decide +kernel))
theorem kw_185 : (Cond.fieldLink "java/lang/Throwable" 24 "java/lang/Throwable" "suppressedExceptions" "Ljava/util/List;") ∈ lw_tbl := List.mem_append_right _ (List.mem_of_getElem? (i := 185) (by decide +kernel))
theorem kw_186 : (Cond.soleField "java/lang/Throwable" "backtrace") ∈ lw_tbl := List.mem_append_right _ (List.mem_of_getElem? (i := 186) (by decide +kernel))
theorem kw_187 : (Cond.soleField "java/lang/Throwable" "detailMessage") ∈ lw_tbl := List.mem_append_right _ (List.mem_of_getElem? (i := 187) (by decide +kernel))
theorem kw_188 : (Cond.soleField "java/lang/Throwable" "cause") ∈ lw_tbl := List.mem_append_right _ (List.mem_of_getElem? (i := 188) (by decide +kernel))
theorem kw_189 : (Cond.soleField "java/lang/Throwable" "stackTrace") ∈ lw_tbl := List.mem_append_right _ (List.mem_of_getElem? (i := 189) (by decide +kernel))
theorem kw_190 : (Cond.lays "java/lang/IllegalArgumentException" "java/lang/Throwable" "depth" "I") ∈ lw_tbl := List.mem_append_right _ (List.mem_of_getElem? (i := 190) (by decide +kernel))
theorem kw_191 : (Cond.soleField "java/lang/Throwable" "depth") ∈ lw_tbl := List.mem_append_right _ (List.mem_of_getElem? (i := 191) (by decide +kernel))
theorem kw_192 : (Cond.soleField "java/lang/Throwable" "suppressedExceptions") ∈ lw_tbl := List.mem_append_right _ (List.mem_of_getElem? (i := 192) (by decide +kernel))
theorem kw_193 : (Cond.superclass "java/lang/IllegalArgumentException" "java/lang/RuntimeException") ∈ lw_tbl := List.mem_append_right _ (List.mem_of_getElem? (i := 193) (by decide +kernel))
theorem kw_194 : (Cond.methodLink "VersionDesk" 30 ⟨"VersionDesk", "leastNotOpen", "()I"⟩) ∈ lw_tbl := List.mem_append_right _ (List.mem_of_getElem? (i := 194) (by decide +kernel))
theorem kw_195 : (Cond.privateMethod ⟨"VersionDesk", "leastNotOpen", "()I"⟩) ∈ lw_tbl := List.mem_append_right _ (List.mem_of_getElem? (i := 195) (by decide +kernel))
theorem kw_196 : (Cond.instanceMethod ⟨"VersionDesk", "leastNotOpen", "()I"⟩) ∈ lw_tbl := List.mem_append_right _ (List.mem_of_getElem? (i := 196) (by decide +kernel))
theorem kw_197 : (Cond.code ⟨"VersionDesk", "leastNotOpen", "()I"⟩ prog_1_method_17_code 2 (some FieldType.int)) ∈ lw_tbl := List.mem_append_right _ (List.mem_of_getElem? (i := 197) (by decide +kernel))
theorem kw_198 : (Cond.classLink "VersionDesk" 34 "java/lang/IllegalStateException") ∈ lw_tbl := List.mem_append_right _ (List.mem_of_getElem? (i := 198) (by decide +kernel))
theorem kw_199 : (Cond.instantiable "java/lang/IllegalStateException" 6) ∈ lw_tbl := List.mem_append_right _ (List.mem_of_getElem? (i := 199) (by decide +kernel))
theorem kw_200 : (Cond.castable "java/lang/IllegalStateException" "java/lang/IllegalStateException") ∈ lw_tbl := List.mem_append_right _ (List.mem_of_getElem? (i := 200) (by decide +kernel))
theorem kw_201 : (Cond.selects "java/lang/IllegalStateException" ⟨"java/lang/Throwable", "fillInStackTrace", "(I)Ljava/lang/Throwable;"⟩ ⟨"java/lang/Throwable", "fillInStackTrace", "(I)Ljava/lang/Throwable;"⟩) ∈ lw_tbl := List.mem_append_right _ (List.mem_of_getElem? (i := 201) (by decide +kernel))
theorem kw_202 : (Cond.lays "java/lang/IllegalStateException" "java/lang/Throwable" "cause" "Ljava/lang/Throwable;") ∈ lw_tbl := List.mem_append_right _ (List.mem_of_getElem? (i := 202) (by decide +kernel))
theorem kw_203 : (Cond.lays "java/lang/IllegalStateException" "java/lang/Throwable" "stackTrace" "[Ljava/lang/StackTraceElement;") ∈ lw_tbl := List.mem_append_right _ (List.mem_of_getElem? (i := 203) (by decide +kernel))
theorem kw_204 : (Cond.lays "java/lang/IllegalStateException" "java/lang/Throwable" "suppressedExceptions" "Ljava/util/List;") ∈ lw_tbl := List.mem_append_right _ (List.mem_of_getElem? (i := 204) (by decide +kernel))
theorem kw_205 : (Cond.lays "java/lang/IllegalStateException" "java/lang/Throwable" "detailMessage" "Ljava/lang/String;") ∈ lw_tbl := List.mem_append_right _ (List.mem_of_getElem? (i := 205) (by decide +kernel))
theorem kw_206 : (Cond.lays "java/lang/IllegalStateException" "java/lang/Throwable" "backtrace" "Ljava/lang/Object;") ∈ lw_tbl := List.mem_append_right _ (List.mem_of_getElem? (i := 206) (by decide +kernel))
theorem kw_207 : (Cond.methodLink "VersionDesk" 36 ⟨"java/lang/IllegalStateException", "<init>", "()V"⟩) ∈ lw_tbl := List.mem_append_right _ (List.mem_of_getElem? (i := 207) (by decide +kernel))
theorem kw_208 : (Cond.instanceMethod ⟨"java/lang/IllegalStateException", "<init>", "()V"⟩) ∈ lw_tbl := List.mem_append_right _ (List.mem_of_getElem? (i := 208) (by decide +kernel))
theorem kw_209 : (Cond.code ⟨"java/lang/IllegalStateException", "<init>", "()V"⟩ prog_8_method_1_code 1 none) ∈ lw_tbl := List.mem_append_right _ (List.mem_of_getElem? (i := 209) (by decide +kernel))
theorem kw_210 : (Cond.methodLink "java/lang/IllegalStateException" 1 ⟨"java/lang/RuntimeException", "<init>", "()V"⟩) ∈ lw_tbl := List.mem_append_right _ (List.mem_of_getElem? (i := 210) (by decide +kernel))
theorem kw_211 : (Cond.lays "java/lang/IllegalStateException" "java/lang/Throwable" "depth" "I") ∈ lw_tbl := List.mem_append_right _ (List.mem_of_getElem? (i := 211) (by decide +kernel))
theorem kw_212 : (Cond.superclass "java/lang/IllegalStateException" "java/lang/RuntimeException") ∈ lw_tbl := List.mem_append_right _ (List.mem_of_getElem? (i := 212) (by decide +kernel))
theorem kw_213 : (Cond.methodLink "VersionDesk" 37 ⟨"VersionDesk$Transaction", "open", "(II)V"⟩) ∈ lw_tbl := List.mem_append_right _ (List.mem_of_getElem? (i := 213) (by decide +kernel))
theorem kw_214 : (Cond.instanceMethod ⟨"VersionDesk$Transaction", "open", "(II)V"⟩) ∈ lw_tbl := List.mem_append_right _ (List.mem_of_getElem? (i := 214) (by decide +kernel))
theorem kw_215 : (Cond.selects "VersionDesk$Transaction" ⟨"VersionDesk$Transaction", "open", "(II)V"⟩ ⟨"VersionDesk$Transaction", "open", "(II)V"⟩) ∈ lw_tbl := List.mem_append_right _ (List.mem_of_getElem? (i := 215) (by decide +kernel))
theorem kw_216 : (Cond.code ⟨"VersionDesk$Transaction", "open", "(II)V"⟩ prog_2_method_2_code 3 none) ∈ lw_tbl := List.mem_append_right _ (List.mem_of_getElem? (i := 216) (by decide +kernel))
theorem kw_217 : (Cond.methodLink "VersionDeskLaw" 69 ⟨"VersionDeskLaw", "read", "(LVersionDesk;II[J)I"⟩) ∈ lw_tbl := List.mem_append_right _ (List.mem_of_getElem? (i := 217) (by decide +kernel))
theorem kw_218 : (Cond.static ⟨"VersionDeskLaw", "read", "(LVersionDesk;II[J)I"⟩) ∈ lw_tbl := List.mem_append_right _ (List.mem_of_getElem? (i := 218) (by decide +kernel))
theorem kw_219 : (Cond.codeWith ⟨"VersionDeskLaw", "read", "(LVersionDesk;II[J)I"⟩ method_4_code 5 (some FieldType.int) [(0, 9, 12, 21)]) ∈ lw_tbl := List.mem_append_right _ (List.mem_of_getElem? (i := 219) (by decide +kernel))
theorem kw_220 : (Cond.classLink "VersionDeskLaw" 21 "java/util/NoSuchElementException") ∈ lw_tbl := List.mem_append_right _ (List.mem_of_getElem? (i := 220) (by decide +kernel))
theorem kw_221 : (Cond.methodLink "VersionDeskLaw" 17 ⟨"VersionDesk", "read", "(II)J"⟩) ∈ lw_tbl := List.mem_append_right _ (List.mem_of_getElem? (i := 221) (by decide +kernel))
theorem kw_222 : (Cond.instanceMethod ⟨"VersionDesk", "read", "(II)J"⟩) ∈ lw_tbl := List.mem_append_right _ (List.mem_of_getElem? (i := 222) (by decide +kernel))
theorem kw_223 : (Cond.selects "VersionDesk" ⟨"VersionDesk", "read", "(II)J"⟩ ⟨"VersionDesk", "read", "(II)J"⟩) ∈ lw_tbl := List.mem_append_right _ (List.mem_of_getElem? (i := 223) (by decide +kernel))
theorem kw_224 : (Cond.code ⟨"VersionDesk", "read", "(II)J"⟩ prog_1_method_3_code 4 (some FieldType.long)) ∈ lw_tbl := List.mem_append_right _ (List.mem_of_getElem? (i := 224) (by decide +kernel))
theorem kw_225 : (Cond.methodLink "VersionDesk" 41 ⟨"VersionDesk", "openOne", "(I)LVersionDesk$Transaction;"⟩) ∈ lw_tbl := List.mem_append_right _ (List.mem_of_getElem? (i := 225) (by decide +kernel))
theorem kw_226 : (Cond.privateMethod ⟨"VersionDesk", "openOne", "(I)LVersionDesk$Transaction;"⟩) ∈ lw_tbl := List.mem_append_right _ (List.mem_of_getElem? (i := 226) (by decide +kernel))
theorem kw_227 : (Cond.instanceMethod ⟨"VersionDesk", "openOne", "(I)LVersionDesk$Transaction;"⟩) ∈ lw_tbl := List.mem_append_right _ (List.mem_of_getElem? (i := 227) (by decide +kernel))
theorem kw_228 : (Cond.code ⟨"VersionDesk", "openOne", "(I)LVersionDesk$Transaction;"⟩ prog_1_method_15_code 2 (some (FieldType.object "VersionDesk$Transaction"))) ∈ lw_tbl := List.mem_append_right _ (List.mem_of_getElem? (i := 228) (by decide +kernel))
theorem kw_229 : (Cond.classLink "VersionDesk" 106 "java/util/NoSuchElementException") ∈ lw_tbl := List.mem_append_right _ (List.mem_of_getElem? (i := 229) (by decide +kernel))
theorem kw_230 : (Cond.instantiable "java/util/NoSuchElementException" 6) ∈ lw_tbl := List.mem_append_right _ (List.mem_of_getElem? (i := 230) (by decide +kernel))
theorem kw_231 : (Cond.castable "java/util/NoSuchElementException" "java/util/NoSuchElementException") ∈ lw_tbl := List.mem_append_right _ (List.mem_of_getElem? (i := 231) (by decide +kernel))
theorem kw_232 : (Cond.selects "java/util/NoSuchElementException" ⟨"java/lang/Throwable", "fillInStackTrace", "(I)Ljava/lang/Throwable;"⟩ ⟨"java/lang/Throwable", "fillInStackTrace", "(I)Ljava/lang/Throwable;"⟩) ∈ lw_tbl := List.mem_append_right _ (List.mem_of_getElem? (i := 232) (by decide +kernel))
theorem kw_233 : (Cond.lays "java/util/NoSuchElementException" "java/lang/Throwable" "cause" "Ljava/lang/Throwable;") ∈ lw_tbl := List.mem_append_right _ (List.mem_of_getElem? (i := 233) (by decide +kernel))
theorem kw_234 : (Cond.lays "java/util/NoSuchElementException" "java/lang/Throwable" "stackTrace" "[Ljava/lang/StackTraceElement;") ∈ lw_tbl := List.mem_append_right _ (List.mem_of_getElem? (i := 234) (by decide +kernel))
theorem kw_235 : (Cond.lays "java/util/NoSuchElementException" "java/lang/Throwable" "suppressedExceptions" "Ljava/util/List;") ∈ lw_tbl := List.mem_append_right _ (List.mem_of_getElem? (i := 235) (by decide +kernel))
theorem kw_236 : (Cond.lays "java/util/NoSuchElementException" "java/lang/Throwable" "detailMessage" "Ljava/lang/String;") ∈ lw_tbl := List.mem_append_right _ (List.mem_of_getElem? (i := 236) (by decide +kernel))
theorem kw_237 : (Cond.lays "java/util/NoSuchElementException" "java/lang/Throwable" "backtrace" "Ljava/lang/Object;") ∈ lw_tbl := List.mem_append_right _ (List.mem_of_getElem? (i := 237) (by decide +kernel))
theorem kw_238 : (Cond.methodLink "VersionDesk" 108 ⟨"java/util/NoSuchElementException", "<init>", "()V"⟩) ∈ lw_tbl := List.mem_append_right _ (List.mem_of_getElem? (i := 238) (by decide +kernel))
theorem kw_239 : (Cond.instanceMethod ⟨"java/util/NoSuchElementException", "<init>", "()V"⟩) ∈ lw_tbl := List.mem_append_right _ (List.mem_of_getElem? (i := 239) (by decide +kernel))
theorem kw_240 : (Cond.code ⟨"java/util/NoSuchElementException", "<init>", "()V"⟩ prog_13_method_1_code 1 none) ∈ lw_tbl := List.mem_append_right _ (List.mem_of_getElem? (i := 240) (by decide +kernel))
theorem kw_241 : (Cond.methodLink "java/util/NoSuchElementException" 1 ⟨"java/lang/RuntimeException", "<init>", "()V"⟩) ∈ lw_tbl := List.mem_append_right _ (List.mem_of_getElem? (i := 241) (by decide +kernel))
theorem kw_242 : (Cond.lays "java/util/NoSuchElementException" "java/lang/Throwable" "depth" "I") ∈ lw_tbl := List.mem_append_right _ (List.mem_of_getElem? (i := 242) (by decide +kernel))
theorem kw_243 : (Cond.superclass "java/util/NoSuchElementException" "java/lang/RuntimeException") ∈ lw_tbl := List.mem_append_right _ (List.mem_of_getElem? (i := 243) (by decide +kernel))
theorem kw_244 : (Cond.methodLink "VersionDesk" 45 ⟨"VersionDesk", "requireCell", "(I)V"⟩) ∈ lw_tbl := List.mem_append_right _ (List.mem_of_getElem? (i := 244) (by decide +kernel))
theorem kw_245 : (Cond.static ⟨"VersionDesk", "requireCell", "(I)V"⟩) ∈ lw_tbl := List.mem_append_right _ (List.mem_of_getElem? (i := 245) (by decide +kernel))
theorem kw_246 : (Cond.code ⟨"VersionDesk", "requireCell", "(I)V"⟩ prog_1_method_16_code 1 none) ∈ lw_tbl := List.mem_append_right _ (List.mem_of_getElem? (i := 246) (by decide +kernel))
theorem kw_247 : (Cond.methodLink "VersionDesk" 49 ⟨"VersionDesk$Transaction", "layerThatWrote", "(I)I"⟩) ∈ lw_tbl := List.mem_append_right _ (List.mem_of_getElem? (i := 247) (by decide +kernel))
theorem kw_248 : (Cond.instanceMethod ⟨"VersionDesk$Transaction", "layerThatWrote", "(I)I"⟩) ∈ lw_tbl := List.mem_append_right _ (List.mem_of_getElem? (i := 248) (by decide +kernel))
theorem kw_249 : (Cond.selects "VersionDesk$Transaction" ⟨"VersionDesk$Transaction", "layerThatWrote", "(I)I"⟩ ⟨"VersionDesk$Transaction", "layerThatWrote", "(I)I"⟩) ∈ lw_tbl := List.mem_append_right _ (List.mem_of_getElem? (i := 249) (by decide +kernel))
theorem kw_250 : (Cond.code ⟨"VersionDesk$Transaction", "layerThatWrote", "(I)I"⟩ prog_2_method_12_code 3 (some FieldType.int)) ∈ lw_tbl := List.mem_append_right _ (List.mem_of_getElem? (i := 250) (by decide +kernel))
theorem kw_251 : (Cond.methodLink "VersionDesk" 53 ⟨"VersionDesk$Transaction", "see", "(I)V"⟩) ∈ lw_tbl := List.mem_append_right _ (List.mem_of_getElem? (i := 251) (by decide +kernel))
theorem kw_252 : (Cond.instanceMethod ⟨"VersionDesk$Transaction", "see", "(I)V"⟩) ∈ lw_tbl := List.mem_append_right _ (List.mem_of_getElem? (i := 252) (by decide +kernel))
theorem kw_253 : (Cond.selects "VersionDesk$Transaction" ⟨"VersionDesk$Transaction", "see", "(I)V"⟩ ⟨"VersionDesk$Transaction", "see", "(I)V"⟩) ∈ lw_tbl := List.mem_append_right _ (List.mem_of_getElem? (i := 253) (by decide +kernel))
theorem kw_254 : (Cond.code ⟨"VersionDesk$Transaction", "see", "(I)V"⟩ prog_2_method_9_code 2 none) ∈ lw_tbl := List.mem_append_right _ (List.mem_of_getElem? (i := 254) (by decide +kernel))
theorem kw_255 : (Cond.methodLink "VersionDesk" 56 ⟨"VersionDesk", "reading", "(LVersionDesk$Transaction;I)J"⟩) ∈ lw_tbl := List.mem_append_right _ (List.mem_of_getElem? (i := 255) (by decide +kernel))
theorem kw_256 : (Cond.privateMethod ⟨"VersionDesk", "reading", "(LVersionDesk$Transaction;I)J"⟩) ∈ lw_tbl := List.mem_append_right _ (List.mem_of_getElem? (i := 256) (by decide +kernel))
theorem kw_257 : (Cond.instanceMethod ⟨"VersionDesk", "reading", "(LVersionDesk$Transaction;I)J"⟩) ∈ lw_tbl := List.mem_append_right _ (List.mem_of_getElem? (i := 257) (by decide +kernel))
theorem kw_258 : (Cond.code ⟨"VersionDesk", "reading", "(LVersionDesk$Transaction;I)J"⟩ prog_1_method_20_code 4 (some FieldType.long)) ∈ lw_tbl := List.mem_append_right _ (List.mem_of_getElem? (i := 258) (by decide +kernel))
theorem kw_259 : (Cond.methodLink "VersionDesk" 144 ⟨"VersionDesk$Transaction", "valueIn", "(II)J"⟩) ∈ lw_tbl := List.mem_append_right _ (List.mem_of_getElem? (i := 259) (by decide +kernel))
theorem kw_260 : (Cond.instanceMethod ⟨"VersionDesk$Transaction", "valueIn", "(II)J"⟩) ∈ lw_tbl := List.mem_append_right _ (List.mem_of_getElem? (i := 260) (by decide +kernel))
theorem kw_261 : (Cond.selects "VersionDesk$Transaction" ⟨"VersionDesk$Transaction", "valueIn", "(II)J"⟩ ⟨"VersionDesk$Transaction", "valueIn", "(II)J"⟩) ∈ lw_tbl := List.mem_append_right _ (List.mem_of_getElem? (i := 261) (by decide +kernel))
theorem kw_262 : (Cond.code ⟨"VersionDesk$Transaction", "valueIn", "(II)J"⟩ prog_2_method_13_code 3 (some FieldType.long)) ∈ lw_tbl := List.mem_append_right _ (List.mem_of_getElem? (i := 262) (by decide +kernel))
theorem kw_263 : (Cond.methodLink "VersionDesk" 109 ⟨"VersionDesk$Versions", "valueAt", "(II)J"⟩) ∈ lw_tbl := List.mem_append_right _ (List.mem_of_getElem? (i := 263) (by decide +kernel))
theorem kw_264 : (Cond.instanceMethod ⟨"VersionDesk$Versions", "valueAt", "(II)J"⟩) ∈ lw_tbl := List.mem_append_right _ (List.mem_of_getElem? (i := 264) (by decide +kernel))
theorem kw_265 : (Cond.selects "VersionDesk$Versions" ⟨"VersionDesk$Versions", "valueAt", "(II)J"⟩ ⟨"VersionDesk$Versions", "valueAt", "(II)J"⟩) ∈ lw_tbl := List.mem_append_right _ (List.mem_of_getElem? (i := 265) (by decide +kernel))
theorem kw_266 : (Cond.code ⟨"VersionDesk$Versions", "valueAt", "(II)J"⟩ prog_3_method_6_code 4 (some FieldType.long)) ∈ lw_tbl := List.mem_append_right _ (List.mem_of_getElem? (i := 266) (by decide +kernel))
theorem kw_267 : (Cond.methodLink "VersionDesk$Versions" 26 ⟨"VersionDesk$Versions", "indexAt", "(II)I"⟩) ∈ lw_tbl := List.mem_append_right _ (List.mem_of_getElem? (i := 267) (by decide +kernel))
theorem kw_268 : (Cond.privateMethod ⟨"VersionDesk$Versions", "indexAt", "(II)I"⟩) ∈ lw_tbl := List.mem_append_right _ (List.mem_of_getElem? (i := 268) (by decide +kernel))
theorem kw_269 : (Cond.instanceMethod ⟨"VersionDesk$Versions", "indexAt", "(II)I"⟩) ∈ lw_tbl := List.mem_append_right _ (List.mem_of_getElem? (i := 269) (by decide +kernel))
theorem kw_270 : (Cond.code ⟨"VersionDesk$Versions", "indexAt", "(II)I"⟩ prog_3_method_9_code 4 (some FieldType.int)) ∈ lw_tbl := List.mem_append_right _ (List.mem_of_getElem? (i := 270) (by decide +kernel))
theorem kw_271 : (Cond.methodLink "VersionDeskLaw" 75 ⟨"VersionDeskLaw", "write", "(LVersionDesk;IIJ[J)I"⟩) ∈ lw_tbl := List.mem_append_right _ (List.mem_of_getElem? (i := 271) (by decide +kernel))
theorem kw_272 : (Cond.static ⟨"VersionDeskLaw", "write", "(LVersionDesk;IIJ[J)I"⟩) ∈ lw_tbl := List.mem_append_right _ (List.mem_of_getElem? (i := 272) (by decide +kernel))
theorem kw_273 : (Cond.codeWith ⟨"VersionDeskLaw", "write", "(LVersionDesk;IIJ[J)I"⟩ method_5_code 7 (some FieldType.int) [(0, 11, 14, 21)]) ∈ lw_tbl := List.mem_append_right _ (List.mem_of_getElem? (i := 273) (by decide +kernel))
theorem kw_274 : (Cond.methodLink "VersionDeskLaw" 23 ⟨"VersionDesk", "write", "(IIJ)J"⟩) ∈ lw_tbl := List.mem_append_right _ (List.mem_of_getElem? (i := 274) (by decide +kernel))
theorem kw_275 : (Cond.instanceMethod ⟨"VersionDesk", "write", "(IIJ)J"⟩) ∈ lw_tbl := List.mem_append_right _ (List.mem_of_getElem? (i := 275) (by decide +kernel))
theorem kw_276 : (Cond.selects "VersionDesk" ⟨"VersionDesk", "write", "(IIJ)J"⟩ ⟨"VersionDesk", "write", "(IIJ)J"⟩) ∈ lw_tbl := List.mem_append_right _ (List.mem_of_getElem? (i := 276) (by decide +kernel))
theorem kw_277 : (Cond.code ⟨"VersionDesk", "write", "(IIJ)J"⟩ prog_1_method_4_code 8 (some FieldType.long)) ∈ lw_tbl := List.mem_append_right _ (List.mem_of_getElem? (i := 277) (by decide +kernel))
theorem kw_278 : (Cond.methodLink "VersionDesk" 60 ⟨"VersionDesk$Transaction", "put", "(IJ)V"⟩) ∈ lw_tbl := List.mem_append_right _ (List.mem_of_getElem? (i := 278) (by decide +kernel))
theorem kw_279 : (Cond.instanceMethod ⟨"VersionDesk$Transaction", "put", "(IJ)V"⟩) ∈ lw_tbl := List.mem_append_right _ (List.mem_of_getElem? (i := 279) (by decide +kernel))
theorem kw_280 : (Cond.selects "VersionDesk$Transaction" ⟨"VersionDesk$Transaction", "put", "(IJ)V"⟩ ⟨"VersionDesk$Transaction", "put", "(IJ)V"⟩) ∈ lw_tbl := List.mem_append_right _ (List.mem_of_getElem? (i := 280) (by decide +kernel))
theorem kw_281 : (Cond.code ⟨"VersionDesk$Transaction", "put", "(IJ)V"⟩ prog_2_method_14_code 4 none) ∈ lw_tbl := List.mem_append_right _ (List.mem_of_getElem? (i := 281) (by decide +kernel))
theorem kw_282 : (Cond.methodLink "VersionDesk$Transaction" 41 ⟨"VersionDesk$Transaction", "putIn", "(IIJ)V"⟩) ∈ lw_tbl := List.mem_append_right _ (List.mem_of_getElem? (i := 282) (by decide +kernel))
theorem kw_283 : (Cond.privateMethod ⟨"VersionDesk$Transaction", "putIn", "(IIJ)V"⟩) ∈ lw_tbl := List.mem_append_right _ (List.mem_of_getElem? (i := 283) (by decide +kernel))
theorem kw_284 : (Cond.instanceMethod ⟨"VersionDesk$Transaction", "putIn", "(IIJ)V"⟩) ∈ lw_tbl := List.mem_append_right _ (List.mem_of_getElem? (i := 284) (by decide +kernel))
theorem kw_285 : (Cond.code ⟨"VersionDesk$Transaction", "putIn", "(IIJ)V"⟩ prog_2_method_18_code 5 none) ∈ lw_tbl := List.mem_append_right _ (List.mem_of_getElem? (i := 285) (by decide +kernel))
theorem kw_286 : (Cond.methodLink "VersionDeskLaw" 79 ⟨"VersionDeskLaw", "push", "(LVersionDesk;I[J)I"⟩) ∈ lw_tbl := List.mem_append_right _ (List.mem_of_getElem? (i := 286) (by decide +kernel))
theorem kw_287 : (Cond.static ⟨"VersionDeskLaw", "push", "(LVersionDesk;I[J)I"⟩) ∈ lw_tbl := List.mem_append_right _ (List.mem_of_getElem? (i := 287) (by decide +kernel))
theorem kw_288 : (Cond.codeWith ⟨"VersionDeskLaw", "push", "(LVersionDesk;I[J)I"⟩ method_6_code 4 (some FieldType.int) [(0, 9, 12, 21), (0, 9, 15, 15)]) ∈ lw_tbl := List.mem_append_right _ (List.mem_of_getElem? (i := 288) (by decide +kernel))
theorem kw_289 : (Cond.methodLink "VersionDeskLaw" 27 ⟨"VersionDesk", "push", "(I)I"⟩) ∈ lw_tbl := List.mem_append_right _ (List.mem_of_getElem? (i := 289) (by decide +kernel))
theorem kw_290 : (Cond.instanceMethod ⟨"VersionDesk", "push", "(I)I"⟩) ∈ lw_tbl := List.mem_append_right _ (List.mem_of_getElem? (i := 290) (by decide +kernel))
theorem kw_291 : (Cond.selects "VersionDesk" ⟨"VersionDesk", "push", "(I)I"⟩ ⟨"VersionDesk", "push", "(I)I"⟩) ∈ lw_tbl := List.mem_append_right _ (List.mem_of_getElem? (i := 291) (by decide +kernel))
theorem kw_292 : (Cond.code ⟨"VersionDesk", "push", "(I)I"⟩ prog_1_method_5_code 3 (some FieldType.int)) ∈ lw_tbl := List.mem_append_right _ (List.mem_of_getElem? (i := 292) (by decide +kernel))
theorem kw_293 : (Cond.methodLink "VersionDesk" 64 ⟨"VersionDesk$Transaction", "layers", "()I"⟩) ∈ lw_tbl := List.mem_append_right _ (List.mem_of_getElem? (i := 293) (by decide +kernel))
theorem kw_294 : (Cond.instanceMethod ⟨"VersionDesk$Transaction", "layers", "()I"⟩) ∈ lw_tbl := List.mem_append_right _ (List.mem_of_getElem? (i := 294) (by decide +kernel))
theorem kw_295 : (Cond.selects "VersionDesk$Transaction" ⟨"VersionDesk$Transaction", "layers", "()I"⟩ ⟨"VersionDesk$Transaction", "layers", "()I"⟩) ∈ lw_tbl := List.mem_append_right _ (List.mem_of_getElem? (i := 295) (by decide +kernel))
theorem kw_296 : (Cond.code ⟨"VersionDesk$Transaction", "layers", "()I"⟩ prog_2_method_7_code 1 (some FieldType.int)) ∈ lw_tbl := List.mem_append_right _ (List.mem_of_getElem? (i := 296) (by decide +kernel))
theorem kw_297 : (Cond.methodLink "VersionDesk" 67 ⟨"VersionDesk$Transaction", "addLayer", "()V"⟩) ∈ lw_tbl := List.mem_append_right _ (List.mem_of_getElem? (i := 297) (by decide +kernel))
theorem kw_298 : (Cond.instanceMethod ⟨"VersionDesk$Transaction", "addLayer", "()V"⟩) ∈ lw_tbl := List.mem_append_right _ (List.mem_of_getElem? (i := 298) (by decide +kernel))
theorem kw_299 : (Cond.selects "VersionDesk$Transaction" ⟨"VersionDesk$Transaction", "addLayer", "()V"⟩ ⟨"VersionDesk$Transaction", "addLayer", "()V"⟩) ∈ lw_tbl := List.mem_append_right _ (List.mem_of_getElem? (i := 299) (by decide +kernel))
theorem kw_300 : (Cond.code ⟨"VersionDesk$Transaction", "addLayer", "()V"⟩ prog_2_method_15_code 1 none) ∈ lw_tbl := List.mem_append_right _ (List.mem_of_getElem? (i := 300) (by decide +kernel))
theorem kw_301 : (Cond.methodLink "VersionDeskLaw" 82 ⟨"VersionDeskLaw", "pop", "(LVersionDesk;IZ[J)I"⟩) ∈ lw_tbl := List.mem_append_right _ (List.mem_of_getElem? (i := 301) (by decide +kernel))
theorem kw_302 : (Cond.static ⟨"VersionDeskLaw", "pop", "(LVersionDesk;IZ[J)I"⟩) ∈ lw_tbl := List.mem_append_right _ (List.mem_of_getElem? (i := 302) (by decide +kernel))
theorem kw_303 : (Cond.codeWith ⟨"VersionDeskLaw", "pop", "(LVersionDesk;IZ[J)I"⟩ method_7_code 5 (some FieldType.int) [(0, 10, 13, 21), (0, 10, 17, 15)]) ∈ lw_tbl := List.mem_append_right _ (List.mem_of_getElem? (i := 303) (by decide +kernel))
theorem kw_304 : (Cond.methodLink "VersionDeskLaw" 30 ⟨"VersionDesk", "pop", "(IZ)I"⟩) ∈ lw_tbl := List.mem_append_right _ (List.mem_of_getElem? (i := 304) (by decide +kernel))
theorem kw_305 : (Cond.instanceMethod ⟨"VersionDesk", "pop", "(IZ)I"⟩) ∈ lw_tbl := List.mem_append_right _ (List.mem_of_getElem? (i := 305) (by decide +kernel))
theorem kw_306 : (Cond.selects "VersionDesk" ⟨"VersionDesk", "pop", "(IZ)I"⟩ ⟨"VersionDesk", "pop", "(IZ)I"⟩) ∈ lw_tbl := List.mem_append_right _ (List.mem_of_getElem? (i := 306) (by decide +kernel))
theorem kw_307 : (Cond.code ⟨"VersionDesk", "pop", "(IZ)I"⟩ prog_1_method_6_code 4 (some FieldType.int)) ∈ lw_tbl := List.mem_append_right _ (List.mem_of_getElem? (i := 307) (by decide +kernel))
theorem kw_308 : (Cond.methodLink "VersionDesk" 70 ⟨"VersionDesk$Transaction", "copyHighestLayerDown", "()V"⟩) ∈ lw_tbl := List.mem_append_right _ (List.mem_of_getElem? (i := 308) (by decide +kernel))
theorem kw_309 : (Cond.instanceMethod ⟨"VersionDesk$Transaction", "copyHighestLayerDown", "()V"⟩) ∈ lw_tbl := List.mem_append_right _ (List.mem_of_getElem? (i := 309) (by decide +kernel))
theorem kw_310 : (Cond.selects "VersionDesk$Transaction" ⟨"VersionDesk$Transaction", "copyHighestLayerDown", "()V"⟩ ⟨"VersionDesk$Transaction", "copyHighestLayerDown", "()V"⟩) ∈ lw_tbl := List.mem_append_right _ (List.mem_of_getElem? (i := 310) (by decide +kernel))
theorem kw_311 : (Cond.code ⟨"VersionDesk$Transaction", "copyHighestLayerDown", "()V"⟩ prog_2_method_17_code 3 none) ∈ lw_tbl := List.mem_append_right _ (List.mem_of_getElem? (i := 311) (by decide +kernel))
theorem kw_312 : (Cond.methodLink "VersionDesk" 73 ⟨"VersionDesk$Transaction", "removeLayer", "()V"⟩) ∈ lw_tbl := List.mem_append_right _ (List.mem_of_getElem? (i := 312) (by decide +kernel))
theorem kw_313 : (Cond.instanceMethod ⟨"VersionDesk$Transaction", "removeLayer", "()V"⟩) ∈ lw_tbl := List.mem_append_right _ (List.mem_of_getElem? (i := 313) (by decide +kernel))
theorem kw_314 : (Cond.selects "VersionDesk$Transaction" ⟨"VersionDesk$Transaction", "removeLayer", "()V"⟩ ⟨"VersionDesk$Transaction", "removeLayer", "()V"⟩) ∈ lw_tbl := List.mem_append_right _ (List.mem_of_getElem? (i := 314) (by decide +kernel))
theorem kw_315 : (Cond.code ⟨"VersionDesk$Transaction", "removeLayer", "()V"⟩ prog_2_method_16_code 1 none) ∈ lw_tbl := List.mem_append_right _ (List.mem_of_getElem? (i := 315) (by decide +kernel))
theorem kw_316 : (Cond.methodLink "VersionDeskLaw" 86 ⟨"VersionDeskLaw", "commit", "(LVersionDesk;I[J)I"⟩) ∈ lw_tbl := List.mem_append_right _ (List.mem_of_getElem? (i := 316) (by decide +kernel))
theorem kw_317 : (Cond.static ⟨"VersionDeskLaw", "commit", "(LVersionDesk;I[J)I"⟩) ∈ lw_tbl := List.mem_append_right _ (List.mem_of_getElem? (i := 317) (by decide +kernel))
theorem kw_318 : (Cond.codeWith ⟨"VersionDeskLaw", "commit", "(LVersionDesk;I[J)I"⟩ method_8_code 4 (some FieldType.int) [(0, 9, 12, 21), (0, 9, 15, 15)]) ∈ lw_tbl := List.mem_append_right _ (List.mem_of_getElem? (i := 318) (by decide +kernel))
theorem kw_319 : (Cond.methodLink "VersionDeskLaw" 34 ⟨"VersionDesk", "commit", "(I)I"⟩) ∈ lw_tbl := List.mem_append_right _ (List.mem_of_getElem? (i := 319) (by decide +kernel))
theorem kw_320 : (Cond.instanceMethod ⟨"VersionDesk", "commit", "(I)I"⟩) ∈ lw_tbl := List.mem_append_right _ (List.mem_of_getElem? (i := 320) (by decide +kernel))
theorem kw_321 : (Cond.selects "VersionDesk" ⟨"VersionDesk", "commit", "(I)I"⟩ ⟨"VersionDesk", "commit", "(I)I"⟩) ∈ lw_tbl := List.mem_append_right _ (List.mem_of_getElem? (i := 321) (by decide +kernel))
theorem kw_322 : (Cond.code ⟨"VersionDesk", "commit", "(I)I"⟩ prog_1_method_7_code 4 (some FieldType.int)) ∈ lw_tbl := List.mem_append_right _ (List.mem_of_getElem? (i := 322) (by decide +kernel))
theorem kw_323 : (Cond.methodLink "VersionDesk" 76 ⟨"VersionDesk", "spoiledCells", "(LVersionDesk$Transaction;)I"⟩) ∈ lw_tbl := List.mem_append_right _ (List.mem_of_getElem? (i := 323) (by decide +kernel))
theorem kw_324 : (Cond.privateMethod ⟨"VersionDesk", "spoiledCells", "(LVersionDesk$Transaction;)I"⟩) ∈ lw_tbl := List.mem_append_right _ (List.mem_of_getElem? (i := 324) (by decide +kernel))
theorem kw_325 : (Cond.instanceMethod ⟨"VersionDesk", "spoiledCells", "(LVersionDesk$Transaction;)I"⟩) ∈ lw_tbl := List.mem_append_right _ (List.mem_of_getElem? (i := 325) (by decide +kernel))
theorem kw_326 : (Cond.code ⟨"VersionDesk", "spoiledCells", "(LVersionDesk$Transaction;)I"⟩ prog_1_method_21_code 2 (some FieldType.int)) ∈ lw_tbl := List.mem_append_right _ (List.mem_of_getElem? (i := 326) (by decide +kernel))
theorem kw_327 : (Cond.methodLink "VersionDesk" 99 ⟨"VersionDesk$Transaction", "heeded", "()I"⟩) ∈ lw_tbl := List.mem_append_right _ (List.mem_of_getElem? (i := 327) (by decide +kernel))
theorem kw_328 : (Cond.instanceMethod ⟨"VersionDesk$Transaction", "heeded", "()I"⟩) ∈ lw_tbl := List.mem_append_right _ (List.mem_of_getElem? (i := 328) (by decide +kernel))
theorem kw_329 : (Cond.selects "VersionDesk$Transaction" ⟨"VersionDesk$Transaction", "heeded", "()I"⟩ ⟨"VersionDesk$Transaction", "heeded", "()I"⟩) ∈ lw_tbl := List.mem_append_right _ (List.mem_of_getElem? (i := 329) (by decide +kernel))
theorem kw_330 : (Cond.code ⟨"VersionDesk$Transaction", "heeded", "()I"⟩ prog_2_method_11_code 1 (some FieldType.int)) ∈ lw_tbl := List.mem_append_right _ (List.mem_of_getElem? (i := 330) (by decide +kernel))
theorem kw_331 : (Cond.methodLink "VersionDesk$Transaction" 37 ⟨"VersionDesk$Transaction", "written", "()I"⟩) ∈ lw_tbl := List.mem_append_right _ (List.mem_of_getElem? (i := 331) (by decide +kernel))
theorem kw_332 : (Cond.instanceMethod ⟨"VersionDesk$Transaction", "written", "()I"⟩) ∈ lw_tbl := List.mem_append_right _ (List.mem_of_getElem? (i := 332) (by decide +kernel))
theorem kw_333 : (Cond.selects "VersionDesk$Transaction" ⟨"VersionDesk$Transaction", "written", "()I"⟩ ⟨"VersionDesk$Transaction", "written", "()I"⟩) ∈ lw_tbl := List.mem_append_right _ (List.mem_of_getElem? (i := 333) (by decide +kernel))
theorem kw_334 : (Cond.code ⟨"VersionDesk$Transaction", "written", "()I"⟩ prog_2_method_10_code 3 (some FieldType.int)) ∈ lw_tbl := List.mem_append_right _ (List.mem_of_getElem? (i := 334) (by decide +kernel))
theorem kw_335 : (Cond.methodLink "VersionDesk" 147 ⟨"VersionDesk$Versions", "cellsWrittenAfter", "(I)I"⟩) ∈ lw_tbl := List.mem_append_right _ (List.mem_of_getElem? (i := 335) (by decide +kernel))
theorem kw_336 : (Cond.instanceMethod ⟨"VersionDesk$Versions", "cellsWrittenAfter", "(I)I"⟩) ∈ lw_tbl := List.mem_append_right _ (List.mem_of_getElem? (i := 336) (by decide +kernel))
theorem kw_337 : (Cond.selects "VersionDesk$Versions" ⟨"VersionDesk$Versions", "cellsWrittenAfter", "(I)I"⟩ ⟨"VersionDesk$Versions", "cellsWrittenAfter", "(I)I"⟩) ∈ lw_tbl := List.mem_append_right _ (List.mem_of_getElem? (i := 337) (by decide +kernel))
theorem kw_338 : (Cond.code ⟨"VersionDesk$Versions", "cellsWrittenAfter", "(I)I"⟩ prog_3_method_7_code 4 (some FieldType.int)) ∈ lw_tbl := List.mem_append_right _ (List.mem_of_getElem? (i := 338) (by decide +kernel))
theorem kw_339 : (Cond.methodLink "VersionDesk" 80 ⟨"VersionDesk$Transaction", "close", "()V"⟩) ∈ lw_tbl := List.mem_append_right _ (List.mem_of_getElem? (i := 339) (by decide +kernel))
theorem kw_340 : (Cond.instanceMethod ⟨"VersionDesk$Transaction", "close", "()V"⟩) ∈ lw_tbl := List.mem_append_right _ (List.mem_of_getElem? (i := 340) (by decide +kernel))
theorem kw_341 : (Cond.selects "VersionDesk$Transaction" ⟨"VersionDesk$Transaction", "close", "()V"⟩ ⟨"VersionDesk$Transaction", "close", "()V"⟩) ∈ lw_tbl := List.mem_append_right _ (List.mem_of_getElem? (i := 341) (by decide +kernel))
theorem kw_342 : (Cond.code ⟨"VersionDesk$Transaction", "close", "()V"⟩ prog_2_method_3_code 1 none) ∈ lw_tbl := List.mem_append_right _ (List.mem_of_getElem? (i := 342) (by decide +kernel))
theorem kw_343 : (Cond.methodLink "VersionDesk" 83 ⟨"VersionDesk$Transaction", "written", "()I"⟩) ∈ lw_tbl := List.mem_append_right _ (List.mem_of_getElem? (i := 343) (by decide +kernel))
theorem kw_344 : (Cond.methodLink "VersionDesk" 86 ⟨"java/lang/Integer", "bitCount", "(I)I"⟩) ∈ lw_tbl := List.mem_append_right _ (List.mem_of_getElem? (i := 344) (by decide +kernel))
theorem kw_345 : (Cond.static ⟨"java/lang/Integer", "bitCount", "(I)I"⟩) ∈ lw_tbl := List.mem_append_right _ (List.mem_of_getElem? (i := 345) (by decide +kernel))
theorem kw_346 : (Cond.code ⟨"java/lang/Integer", "bitCount", "(I)I"⟩ prog_9_method_49_code 1 (some FieldType.int)) ∈ lw_tbl := List.mem_append_right _ (List.mem_of_getElem? (i := 346) (by decide +kernel))
theorem kw_347 : (Cond.constant "java/lang/Integer" 265 (1431655765)) ∈ lw_tbl := List.mem_append_right _ (List.mem_of_getElem? (i := 347) (by decide +kernel))
theorem kw_348 : (Cond.constant "java/lang/Integer" 266 (858993459)) ∈ lw_tbl := List.mem_append_right _ (List.mem_of_getElem? (i := 348) (by decide +kernel))
theorem kw_349 : (Cond.constant "java/lang/Integer" 267 (252645135)) ∈ lw_tbl := List.mem_append_right _ (List.mem_of_getElem? (i := 349) (by decide +kernel))
theorem kw_350 : (Cond.methodLink "VersionDesk" 91 ⟨"VersionDesk$Versions", "haveRoomFor", "(I)Z"⟩) ∈ lw_tbl := List.mem_append_right _ (List.mem_of_getElem? (i := 350) (by decide +kernel))
theorem kw_351 : (Cond.instanceMethod ⟨"VersionDesk$Versions", "haveRoomFor", "(I)Z"⟩) ∈ lw_tbl := List.mem_append_right _ (List.mem_of_getElem? (i := 351) (by decide +kernel))
theorem kw_352 : (Cond.selects "VersionDesk$Versions" ⟨"VersionDesk$Versions", "haveRoomFor", "(I)Z"⟩ ⟨"VersionDesk$Versions", "haveRoomFor", "(I)Z"⟩) ∈ lw_tbl := List.mem_append_right _ (List.mem_of_getElem? (i := 352) (by decide +kernel))
theorem kw_353 : (Cond.code ⟨"VersionDesk$Versions", "haveRoomFor", "(I)Z"⟩ prog_3_method_3_code 2 (some FieldType.boolean)) ∈ lw_tbl := List.mem_append_right _ (List.mem_of_getElem? (i := 353) (by decide +kernel))
theorem kw_354 : (Cond.methodLink "VersionDesk" 95 ⟨"VersionDesk", "keepVersions", "(LVersionDesk$Transaction;I)V"⟩) ∈ lw_tbl := List.mem_append_right _ (List.mem_of_getElem? (i := 354) (by decide +kernel))
theorem kw_355 : (Cond.privateMethod ⟨"VersionDesk", "keepVersions", "(LVersionDesk$Transaction;I)V"⟩) ∈ lw_tbl := List.mem_append_right _ (List.mem_of_getElem? (i := 355) (by decide +kernel))
theorem kw_356 : (Cond.instanceMethod ⟨"VersionDesk", "keepVersions", "(LVersionDesk$Transaction;I)V"⟩) ∈ lw_tbl := List.mem_append_right _ (List.mem_of_getElem? (i := 356) (by decide +kernel))
theorem kw_357 : (Cond.code ⟨"VersionDesk", "keepVersions", "(LVersionDesk$Transaction;I)V"⟩ prog_1_method_22_code 4 none) ∈ lw_tbl := List.mem_append_right _ (List.mem_of_getElem? (i := 357) (by decide +kernel))
theorem kw_358 : (Cond.methodLink "VersionDesk" 150 ⟨"VersionDesk$Versions", "append", "(IIJ)V"⟩) ∈ lw_tbl := List.mem_append_right _ (List.mem_of_getElem? (i := 358) (by decide +kernel))
theorem kw_359 : (Cond.instanceMethod ⟨"VersionDesk$Versions", "append", "(IIJ)V"⟩) ∈ lw_tbl := List.mem_append_right _ (List.mem_of_getElem? (i := 359) (by decide +kernel))
theorem kw_360 : (Cond.selects "VersionDesk$Versions" ⟨"VersionDesk$Versions", "append", "(IIJ)V"⟩ ⟨"VersionDesk$Versions", "append", "(IIJ)V"⟩) ∈ lw_tbl := List.mem_append_right _ (List.mem_of_getElem? (i := 360) (by decide +kernel))
theorem kw_361 : (Cond.code ⟨"VersionDesk$Versions", "append", "(IIJ)V"⟩ prog_3_method_4_code 5 none) ∈ lw_tbl := List.mem_append_right _ (List.mem_of_getElem? (i := 361) (by decide +kernel))
theorem kw_362 : (Cond.methodLink "VersionDeskLaw" 89 ⟨"VersionDeskLaw", "drop", "(LVersionDesk;I[J)I"⟩) ∈ lw_tbl := List.mem_append_right _ (List.mem_of_getElem? (i := 362) (by decide +kernel))
theorem kw_363 : (Cond.static ⟨"VersionDeskLaw", "drop", "(LVersionDesk;I[J)I"⟩) ∈ lw_tbl := List.mem_append_right _ (List.mem_of_getElem? (i := 363) (by decide +kernel))
theorem kw_364 : (Cond.codeWith ⟨"VersionDeskLaw", "drop", "(LVersionDesk;I[J)I"⟩ method_9_code 4 (some FieldType.int) [(0, 9, 12, 21)]) ∈ lw_tbl := List.mem_append_right _ (List.mem_of_getElem? (i := 364) (by decide +kernel))
theorem kw_365 : (Cond.methodLink "VersionDeskLaw" 37 ⟨"VersionDesk", "drop", "(I)I"⟩) ∈ lw_tbl := List.mem_append_right _ (List.mem_of_getElem? (i := 365) (by decide +kernel))
theorem kw_366 : (Cond.instanceMethod ⟨"VersionDesk", "drop", "(I)I"⟩) ∈ lw_tbl := List.mem_append_right _ (List.mem_of_getElem? (i := 366) (by decide +kernel))
theorem kw_367 : (Cond.selects "VersionDesk" ⟨"VersionDesk", "drop", "(I)I"⟩ ⟨"VersionDesk", "drop", "(I)I"⟩) ∈ lw_tbl := List.mem_append_right _ (List.mem_of_getElem? (i := 367) (by decide +kernel))
theorem kw_368 : (Cond.code ⟨"VersionDesk", "drop", "(I)I"⟩ prog_1_method_8_code 3 (some FieldType.int)) ∈ lw_tbl := List.mem_append_right _ (List.mem_of_getElem? (i := 368) (by decide +kernel))
theorem kw_369 : (Cond.methodLink "VersionDeskLaw" 92 ⟨"VersionDeskLaw", "spoiled", "(LVersionDesk;I[J)I"⟩) ∈ lw_tbl := List.mem_append_right _ (List.mem_of_getElem? (i := 369) (by decide +kernel))
theorem kw_370 : (Cond.static ⟨"VersionDeskLaw", "spoiled", "(LVersionDesk;I[J)I"⟩) ∈ lw_tbl := List.mem_append_right _ (List.mem_of_getElem? (i := 370) (by decide +kernel))
theorem kw_371 : (Cond.codeWith ⟨"VersionDeskLaw", "spoiled", "(LVersionDesk;I[J)I"⟩ method_10_code 4 (some FieldType.int) [(0, 16, 19, 21)]) ∈ lw_tbl := List.mem_append_right _ (List.mem_of_getElem? (i := 371) (by decide +kernel))
theorem kw_372 : (Cond.methodLink "VersionDeskLaw" 40 ⟨"VersionDesk", "spoiled", "(I)Z"⟩) ∈ lw_tbl := List.mem_append_right _ (List.mem_of_getElem? (i := 372) (by decide +kernel))
theorem kw_373 : (Cond.instanceMethod ⟨"VersionDesk", "spoiled", "(I)Z"⟩) ∈ lw_tbl := List.mem_append_right _ (List.mem_of_getElem? (i := 373) (by decide +kernel))
theorem kw_374 : (Cond.selects "VersionDesk" ⟨"VersionDesk", "spoiled", "(I)Z"⟩ ⟨"VersionDesk", "spoiled", "(I)Z"⟩) ∈ lw_tbl := List.mem_append_right _ (List.mem_of_getElem? (i := 374) (by decide +kernel))
theorem kw_375 : (Cond.code ⟨"VersionDesk", "spoiled", "(I)Z"⟩ prog_1_method_9_code 2 (some FieldType.boolean)) ∈ lw_tbl := List.mem_append_right _ (List.mem_of_getElem? (i := 375) (by decide +kernel))
theorem kw_376 : (Cond.methodLink "VersionDeskLaw" 95 ⟨"VersionDeskLaw", "meets", "(LVersionDesk;II[J)I"⟩) ∈ lw_tbl := List.mem_append_right _ (List.mem_of_getElem? (i := 376) (by decide +kernel))
theorem kw_377 : (Cond.static ⟨"VersionDeskLaw", "meets", "(LVersionDesk;II[J)I"⟩) ∈ lw_tbl := List.mem_append_right _ (List.mem_of_getElem? (i := 377) (by decide +kernel))
theorem kw_378 : (Cond.codeWith ⟨"VersionDeskLaw", "meets", "(LVersionDesk;II[J)I"⟩ method_11_code 5 (some FieldType.int) [(0, 17, 20, 21)]) ∈ lw_tbl := List.mem_append_right _ (List.mem_of_getElem? (i := 378) (by decide +kernel))
theorem kw_379 : (Cond.methodLink "VersionDeskLaw" 44 ⟨"VersionDesk", "meets", "(II)Z"⟩) ∈ lw_tbl := List.mem_append_right _ (List.mem_of_getElem? (i := 379) (by decide +kernel))
theorem kw_380 : (Cond.instanceMethod ⟨"VersionDesk", "meets", "(II)Z"⟩) ∈ lw_tbl := List.mem_append_right _ (List.mem_of_getElem? (i := 380) (by decide +kernel))
theorem kw_381 : (Cond.selects "VersionDesk" ⟨"VersionDesk", "meets", "(II)Z"⟩ ⟨"VersionDesk", "meets", "(II)Z"⟩) ∈ lw_tbl := List.mem_append_right _ (List.mem_of_getElem? (i := 381) (by decide +kernel))
theorem kw_382 : (Cond.code ⟨"VersionDesk", "meets", "(II)Z"⟩ prog_1_method_10_code 6 (some FieldType.boolean)) ∈ lw_tbl := List.mem_append_right _ (List.mem_of_getElem? (i := 382) (by decide +kernel))
theorem kw_383 : (Cond.methodLink "VersionDeskLaw" 98 ⟨"VersionDeskLaw", "past", "(LVersionDesk;II[J)I"⟩) ∈ lw_tbl := List.mem_append_right _ (List.mem_of_getElem? (i := 383) (by decide +kernel))
theorem kw_384 : (Cond.static ⟨"VersionDeskLaw", "past", "(LVersionDesk;II[J)I"⟩) ∈ lw_tbl := List.mem_append_right _ (List.mem_of_getElem? (i := 384) (by decide +kernel))
theorem kw_385 : (Cond.codeWith ⟨"VersionDeskLaw", "past", "(LVersionDesk;II[J)I"⟩ method_12_code 5 (some FieldType.int) [(0, 9, 12, 21)]) ∈ lw_tbl := List.mem_append_right _ (List.mem_of_getElem? (i := 385) (by decide +kernel))
theorem kw_386 : (Cond.methodLink "VersionDeskLaw" 48 ⟨"VersionDesk", "past", "(II)J"⟩) ∈ lw_tbl := List.mem_append_right _ (List.mem_of_getElem? (i := 386) (by decide +kernel))
theorem kw_387 : (Cond.instanceMethod ⟨"VersionDesk", "past", "(II)J"⟩) ∈ lw_tbl := List.mem_append_right _ (List.mem_of_getElem? (i := 387) (by decide +kernel))
theorem kw_388 : (Cond.selects "VersionDesk" ⟨"VersionDesk", "past", "(II)J"⟩ ⟨"VersionDesk", "past", "(II)J"⟩) ∈ lw_tbl := List.mem_append_right _ (List.mem_of_getElem? (i := 388) (by decide +kernel))
theorem kw_389 : (Cond.code ⟨"VersionDesk", "past", "(II)J"⟩ prog_1_method_11_code 3 (some FieldType.long)) ∈ lw_tbl := List.mem_append_right _ (List.mem_of_getElem? (i := 389) (by decide +kernel))
theorem kw_390 : (Cond.methodLink "VersionDesk" 102 ⟨"VersionDesk$Versions", "know", "(II)Z"⟩) ∈ lw_tbl := List.mem_append_right _ (List.mem_of_getElem? (i := 390) (by decide +kernel))
theorem kw_391 : (Cond.instanceMethod ⟨"VersionDesk$Versions", "know", "(II)Z"⟩) ∈ lw_tbl := List.mem_append_right _ (List.mem_of_getElem? (i := 391) (by decide +kernel))
theorem kw_392 : (Cond.selects "VersionDesk$Versions" ⟨"VersionDesk$Versions", "know", "(II)Z"⟩ ⟨"VersionDesk$Versions", "know", "(II)Z"⟩) ∈ lw_tbl := List.mem_append_right _ (List.mem_of_getElem? (i := 392) (by decide +kernel))
theorem kw_393 : (Cond.code ⟨"VersionDesk$Versions", "know", "(II)Z"⟩ prog_3_method_5_code 3 (some FieldType.boolean)) ∈ lw_tbl := List.mem_append_right _ (List.mem_of_getElem? (i := 393) (by decide +kernel))
theorem kw_394 : (Cond.methodLink "VersionDeskLaw" 105 ⟨"VersionDeskLaw", "about", "(LVersionDesk;II[J)I"⟩) ∈ lw_tbl := List.mem_append_right _ (List.mem_of_getElem? (i := 394) (by decide +kernel))
theorem kw_395 : (Cond.static ⟨"VersionDeskLaw", "about", "(LVersionDesk;II[J)I"⟩) ∈ lw_tbl := List.mem_append_right _ (List.mem_of_getElem? (i := 395) (by decide +kernel))
theorem kw_396 : (Cond.codeWith ⟨"VersionDeskLaw", "about", "(LVersionDesk;II[J)I"⟩ method_13_code 5 (some FieldType.int) [(0, 10, 13, 21), (0, 10, 17, 13)]) ∈ lw_tbl := List.mem_append_right _ (List.mem_of_getElem? (i := 396) (by decide +kernel))
theorem kw_397 : (Cond.methodLink "VersionDeskLaw" 51 ⟨"VersionDesk", "about", "(II)I"⟩) ∈ lw_tbl := List.mem_append_right _ (List.mem_of_getElem? (i := 397) (by decide +kernel))
theorem kw_398 : (Cond.instanceMethod ⟨"VersionDesk", "about", "(II)I"⟩) ∈ lw_tbl := List.mem_append_right _ (List.mem_of_getElem? (i := 398) (by decide +kernel))
theorem kw_399 : (Cond.selects "VersionDesk" ⟨"VersionDesk", "about", "(II)I"⟩ ⟨"VersionDesk", "about", "(II)I"⟩) ∈ lw_tbl := List.mem_append_right _ (List.mem_of_getElem? (i := 399) (by decide +kernel))
theorem kw_400 : (Cond.code ⟨"VersionDesk", "about", "(II)I"⟩ prog_1_method_13_code 4 (some FieldType.int)) ∈ lw_tbl := List.mem_append_right _ (List.mem_of_getElem? (i := 400) (by decide +kernel))
theorem kw_401 : (Cond.methodLink "VersionDesk" 122 ⟨"VersionDesk$Transaction", "kind", "()I"⟩) ∈ lw_tbl := List.mem_append_right _ (List.mem_of_getElem? (i := 401) (by decide +kernel))
theorem kw_402 : (Cond.instanceMethod ⟨"VersionDesk$Transaction", "kind", "()I"⟩) ∈ lw_tbl := List.mem_append_right _ (List.mem_of_getElem? (i := 402) (by decide +kernel))
theorem kw_403 : (Cond.selects "VersionDesk$Transaction" ⟨"VersionDesk$Transaction", "kind", "()I"⟩ ⟨"VersionDesk$Transaction", "kind", "()I"⟩) ∈ lw_tbl := List.mem_append_right _ (List.mem_of_getElem? (i := 403) (by decide +kernel))
theorem kw_404 : (Cond.code ⟨"VersionDesk$Transaction", "kind", "()I"⟩ prog_2_method_6_code 1 (some FieldType.int)) ∈ lw_tbl := List.mem_append_right _ (List.mem_of_getElem? (i := 404) (by decide +kernel))
theorem kw_405 : (Cond.methodLink "VersionDesk" 125 ⟨"VersionDesk$Transaction", "seen", "()I"⟩) ∈ lw_tbl := List.mem_append_right _ (List.mem_of_getElem? (i := 405) (by decide +kernel))
theorem kw_406 : (Cond.instanceMethod ⟨"VersionDesk$Transaction", "seen", "()I"⟩) ∈ lw_tbl := List.mem_append_right _ (List.mem_of_getElem? (i := 406) (by decide +kernel))
theorem kw_407 : (Cond.selects "VersionDesk$Transaction" ⟨"VersionDesk$Transaction", "seen", "()I"⟩ ⟨"VersionDesk$Transaction", "seen", "()I"⟩) ∈ lw_tbl := List.mem_append_right _ (List.mem_of_getElem? (i := 407) (by decide +kernel))
theorem kw_408 : (Cond.code ⟨"VersionDesk$Transaction", "seen", "()I"⟩ prog_2_method_8_code 1 (some FieldType.int)) ∈ lw_tbl := List.mem_append_right _ (List.mem_of_getElem? (i := 408) (by decide +kernel))
theorem kw_409 : (Cond.classLink "VersionDeskLaw" 56 "VersionDeskModel") ∈ lw_tbl := List.mem_append_right _ (List.mem_of_getElem? (i := 409) (by decide +kernel))
theorem kw_410 : (Cond.instantiable "VersionDeskModel" 14) ∈ lw_tbl := List.mem_append_right _ (List.mem_of_getElem? (i := 410) (by decide +kernel))
theorem kw_411 : (Cond.methodLink "VersionDeskLaw" 58 ⟨"VersionDeskModel", "<init>", "()V"⟩) ∈ lw_tbl := List.mem_append_right _ (List.mem_of_getElem? (i := 411) (by decide +kernel))
theorem kw_412 : (Cond.instanceMethod ⟨"VersionDeskModel", "<init>", "()V"⟩) ∈ lw_tbl := List.mem_append_right _ (List.mem_of_getElem? (i := 412) (by decide +kernel))
theorem kw_413 : (Cond.code ⟨"VersionDeskModel", "<init>", "()V"⟩ prog_5_method_1_code 2 none) ∈ lw_tbl := List.mem_append_right _ (List.mem_of_getElem? (i := 413) (by decide +kernel))
theorem kw_414 : (Cond.methodLink "VersionDeskModel" 1 ⟨"java/lang/Object", "<init>", "()V"⟩) ∈ lw_tbl := List.mem_append_right _ (List.mem_of_getElem? (i := 414) (by decide +kernel))
theorem kw_415 : (Cond.fieldLink "VersionDeskModel" 48 "VersionDeskModel" "thrown" "I") ∈ lw_tbl := List.mem_append_right _ (List.mem_of_getElem? (i := 415) (by decide +kernel))
theorem kw_416 : (Cond.fieldLink "VersionDeskModel" 64 "VersionDeskModel" "clock" "I") ∈ lw_tbl := List.mem_append_right _ (List.mem_of_getElem? (i := 416) (by decide +kernel))
theorem kw_417 : (Cond.fieldLink "VersionDeskModel" 9 "VersionDeskModel" "open" "[Z") ∈ lw_tbl := List.mem_append_right _ (List.mem_of_getElem? (i := 417) (by decide +kernel))
theorem kw_418 : (Cond.fieldLink "VersionDeskModel" 13 "VersionDeskModel" "saw" "[Z") ∈ lw_tbl := List.mem_append_right _ (List.mem_of_getElem? (i := 418) (by decide +kernel))
theorem kw_419 : (Cond.fieldLink "VersionDeskModel" 16 "VersionDeskModel" "wrote" "[Z") ∈ lw_tbl := List.mem_append_right _ (List.mem_of_getElem? (i := 419) (by decide +kernel))
theorem kw_420 : (Cond.fieldLink "VersionDeskModel" 19 "VersionDeskModel" "start" "[I") ∈ lw_tbl := List.mem_append_right _ (List.mem_of_getElem? (i := 420) (by decide +kernel))
theorem kw_421 : (Cond.fieldLink "VersionDeskModel" 23 "VersionDeskModel" "kind" "[I") ∈ lw_tbl := List.mem_append_right _ (List.mem_of_getElem? (i := 421) (by decide +kernel))
theorem kw_422 : (Cond.fieldLink "VersionDeskModel" 26 "VersionDeskModel" "layers" "[I") ∈ lw_tbl := List.mem_append_right _ (List.mem_of_getElem? (i := 422) (by decide +kernel))
theorem kw_423 : (Cond.fieldLink "VersionDeskModel" 29 "VersionDeskModel" "began" "[J") ∈ lw_tbl := List.mem_append_right _ (List.mem_of_getElem? (i := 423) (by decide +kernel))
theorem kw_424 : (Cond.fieldLink "VersionDeskModel" 33 "VersionDeskModel" "value" "[J") ∈ lw_tbl := List.mem_append_right _ (List.mem_of_getElem? (i := 424) (by decide +kernel))
theorem kw_425 : (Cond.fieldLink "VersionDeskModel" 36 "VersionDeskModel" "versions" "[I") ∈ lw_tbl := List.mem_append_right _ (List.mem_of_getElem? (i := 425) (by decide +kernel))
theorem kw_426 : (Cond.fieldLink "VersionDeskModel" 39 "VersionDeskModel" "at" "[I") ∈ lw_tbl := List.mem_append_right _ (List.mem_of_getElem? (i := 426) (by decide +kernel))
theorem kw_427 : (Cond.fieldLink "VersionDeskModel" 42 "VersionDeskModel" "last" "[I") ∈ lw_tbl := List.mem_append_right _ (List.mem_of_getElem? (i := 427) (by decide +kernel))
theorem kw_428 : (Cond.fieldLink "VersionDeskModel" 45 "VersionDeskModel" "was" "[J") ∈ lw_tbl := List.mem_append_right _ (List.mem_of_getElem? (i := 428) (by decide +kernel))
theorem kw_429 : (Cond.lays "VersionDeskModel" "VersionDeskModel" "thrown" "I") ∈ lw_tbl := List.mem_append_right _ (List.mem_of_getElem? (i := 429) (by decide +kernel))
theorem kw_430 : (Cond.soleField "VersionDeskModel" "thrown") ∈ lw_tbl := List.mem_append_right _ (List.mem_of_getElem? (i := 430) (by decide +kernel))
theorem kw_431 : (Cond.lays "VersionDeskModel" "VersionDeskModel" "clock" "I") ∈ lw_tbl := List.mem_append_right _ (List.mem_of_getElem? (i := 431) (by decide +kernel))
theorem kw_432 : (Cond.soleField "VersionDeskModel" "clock") ∈ lw_tbl := List.mem_append_right _ (List.mem_of_getElem? (i := 432) (by decide +kernel))
theorem kw_433 : (Cond.laysFinal "VersionDeskModel" "VersionDeskModel" "open" "[Z") ∈ lw_tbl := List.mem_append_right _ (List.mem_of_getElem? (i := 433) (by decide +kernel))
theorem kw_434 : (Cond.soleField "VersionDeskModel" "open") ∈ lw_tbl := List.mem_append_right _ (List.mem_of_getElem? (i := 434) (by decide +kernel))
theorem kw_435 : (Cond.laysFinal "VersionDeskModel" "VersionDeskModel" "saw" "[Z") ∈ lw_tbl := List.mem_append_right _ (List.mem_of_getElem? (i := 435) (by decide +kernel))
theorem kw_436 : (Cond.soleField "VersionDeskModel" "saw") ∈ lw_tbl := List.mem_append_right _ (List.mem_of_getElem? (i := 436) (by decide +kernel))
theorem kw_437 : (Cond.laysFinal "VersionDeskModel" "VersionDeskModel" "wrote" "[Z") ∈ lw_tbl := List.mem_append_right _ (List.mem_of_getElem? (i := 437) (by decide +kernel))
theorem kw_438 : (Cond.soleField "VersionDeskModel" "wrote") ∈ lw_tbl := List.mem_append_right _ (List.mem_of_getElem? (i := 438) (by decide +kernel))
theorem kw_439 : (Cond.laysFinal "VersionDeskModel" "VersionDeskModel" "start" "[I") ∈ lw_tbl := List.mem_append_right _ (List.mem_of_getElem? (i := 439) (by decide +kernel))
theorem kw_440 : (Cond.soleField "VersionDeskModel" "start") ∈ lw_tbl := List.mem_append_right _ (List.mem_of_getElem? (i := 440) (by decide +kernel))
theorem kw_441 : (Cond.laysFinal "VersionDeskModel" "VersionDeskModel" "kind" "[I") ∈ lw_tbl := List.mem_append_right _ (List.mem_of_getElem? (i := 441) (by decide +kernel))
theorem kw_442 : (Cond.soleField "VersionDeskModel" "kind") ∈ lw_tbl := List.mem_append_right _ (List.mem_of_getElem? (i := 442) (by decide +kernel))
theorem kw_443 : (Cond.laysFinal "VersionDeskModel" "VersionDeskModel" "layers" "[I") ∈ lw_tbl := List.mem_append_right _ (List.mem_of_getElem? (i := 443) (by decide +kernel))
theorem kw_444 : (Cond.soleField "VersionDeskModel" "layers") ∈ lw_tbl := List.mem_append_right _ (List.mem_of_getElem? (i := 444) (by decide +kernel))
theorem kw_445 : (Cond.laysFinal "VersionDeskModel" "VersionDeskModel" "began" "[J") ∈ lw_tbl := List.mem_append_right _ (List.mem_of_getElem? (i := 445) (by decide +kernel))
theorem kw_446 : (Cond.soleField "VersionDeskModel" "began") ∈ lw_tbl := List.mem_append_right _ (List.mem_of_getElem? (i := 446) (by decide +kernel))
theorem kw_447 : (Cond.laysFinal "VersionDeskModel" "VersionDeskModel" "value" "[J") ∈ lw_tbl := List.mem_append_right _ (List.mem_of_getElem? (i := 447) (by decide +kernel))
theorem kw_448 : (Cond.soleField "VersionDeskModel" "value") ∈ lw_tbl := List.mem_append_right _ (List.mem_of_getElem? (i := 448) (by decide +kernel))
theorem kw_449 : (Cond.laysFinal "VersionDeskModel" "VersionDeskModel" "versions" "[I") ∈ lw_tbl := List.mem_append_right _ (List.mem_of_getElem? (i := 449) (by decide +kernel))
theorem kw_450 : (Cond.soleField "VersionDeskModel" "versions") ∈ lw_tbl := List.mem_append_right _ (List.mem_of_getElem? (i := 450) (by decide +kernel))
theorem kw_451 : (Cond.laysFinal "VersionDeskModel" "VersionDeskModel" "at" "[I") ∈ lw_tbl := List.mem_append_right _ (List.mem_of_getElem? (i := 451) (by decide +kernel))
theorem kw_452 : (Cond.soleField "VersionDeskModel" "at") ∈ lw_tbl := List.mem_append_right _ (List.mem_of_getElem? (i := 452) (by decide +kernel))
theorem kw_453 : (Cond.laysFinal "VersionDeskModel" "VersionDeskModel" "last" "[I") ∈ lw_tbl := List.mem_append_right _ (List.mem_of_getElem? (i := 453) (by decide +kernel))
theorem kw_454 : (Cond.soleField "VersionDeskModel" "last") ∈ lw_tbl := List.mem_append_right _ (List.mem_of_getElem? (i := 454) (by decide +kernel))
theorem kw_455 : (Cond.laysFinal "VersionDeskModel" "VersionDeskModel" "was" "[J") ∈ lw_tbl := List.mem_append_right _ (List.mem_of_getElem? (i := 455) (by decide +kernel))
theorem kw_456 : (Cond.soleField "VersionDeskModel" "was") ∈ lw_tbl := List.mem_append_right _ (List.mem_of_getElem? (i := 456) (by decide +kernel))
theorem kw_457 : (Cond.superclass "VersionDeskModel" "java/lang/Object") ∈ lw_tbl := List.mem_append_right _ (List.mem_of_getElem? (i := 457) (by decide +kernel))
theorem kw_458 : (Cond.arrayClass FieldType.boolean) ∈ lw_tbl := List.mem_append_right _ (List.mem_of_getElem? (i := 458) (by decide +kernel))
theorem kw_459 : (Cond.methodLink "VersionDeskLaw" 65 ⟨"VersionDeskModel", "thrown", "()I"⟩) ∈ lw_tbl := List.mem_append_right _ (List.mem_of_getElem? (i := 459) (by decide +kernel))
theorem kw_460 : (Cond.instanceMethod ⟨"VersionDeskModel", "thrown", "()I"⟩) ∈ lw_tbl := List.mem_append_right _ (List.mem_of_getElem? (i := 460) (by decide +kernel))
theorem kw_461 : (Cond.selects "VersionDeskModel" ⟨"VersionDeskModel", "thrown", "()I"⟩ ⟨"VersionDeskModel", "thrown", "()I"⟩) ∈ lw_tbl := List.mem_append_right _ (List.mem_of_getElem? (i := 461) (by decide +kernel))
theorem kw_462 : (Cond.code ⟨"VersionDeskModel", "thrown", "()I"⟩ prog_5_method_2_code 1 (some FieldType.int)) ∈ lw_tbl := List.mem_append_right _ (List.mem_of_getElem? (i := 462) (by decide +kernel))
theorem kw_463 : (Cond.methodLink "VersionDeskLaw" 64 ⟨"VersionDeskModel", "begin", "(I)I"⟩) ∈ lw_tbl := List.mem_append_right _ (List.mem_of_getElem? (i := 463) (by decide +kernel))
theorem kw_464 : (Cond.instanceMethod ⟨"VersionDeskModel", "begin", "(I)I"⟩) ∈ lw_tbl := List.mem_append_right _ (List.mem_of_getElem? (i := 464) (by decide +kernel))
theorem kw_465 : (Cond.selects "VersionDeskModel" ⟨"VersionDeskModel", "begin", "(I)I"⟩ ⟨"VersionDeskModel", "begin", "(I)I"⟩) ∈ lw_tbl := List.mem_append_right _ (List.mem_of_getElem? (i := 465) (by decide +kernel))
theorem kw_466 : (Cond.code ⟨"VersionDeskModel", "begin", "(I)I"⟩ prog_5_method_15_code 4 (some FieldType.int)) ∈ lw_tbl := List.mem_append_right _ (List.mem_of_getElem? (i := 466) (by decide +kernel))
theorem kw_467 : (Cond.methodLink "VersionDeskModel" 72 ⟨"VersionDeskModel", "fail", "(I)I"⟩) ∈ lw_tbl := List.mem_append_right _ (List.mem_of_getElem? (i := 467) (by decide +kernel))
theorem kw_468 : (Cond.privateMethod ⟨"VersionDeskModel", "fail", "(I)I"⟩) ∈ lw_tbl := List.mem_append_right _ (List.mem_of_getElem? (i := 468) (by decide +kernel))
theorem kw_469 : (Cond.instanceMethod ⟨"VersionDeskModel", "fail", "(I)I"⟩) ∈ lw_tbl := List.mem_append_right _ (List.mem_of_getElem? (i := 469) (by decide +kernel))
theorem kw_470 : (Cond.code ⟨"VersionDeskModel", "fail", "(I)I"⟩ prog_5_method_3_code 2 (some FieldType.int)) ∈ lw_tbl := List.mem_append_right _ (List.mem_of_getElem? (i := 470) (by decide +kernel))
theorem kw_471 : (Cond.methodLink "VersionDeskModel" 76 ⟨"VersionDeskModel", "clear", "(II)V"⟩) ∈ lw_tbl := List.mem_append_right _ (List.mem_of_getElem? (i := 471) (by decide +kernel))
theorem kw_472 : (Cond.privateMethod ⟨"VersionDeskModel", "clear", "(II)V"⟩) ∈ lw_tbl := List.mem_append_right _ (List.mem_of_getElem? (i := 472) (by decide +kernel))
theorem kw_473 : (Cond.instanceMethod ⟨"VersionDeskModel", "clear", "(II)V"⟩) ∈ lw_tbl := List.mem_append_right _ (List.mem_of_getElem? (i := 473) (by decide +kernel))
theorem kw_474 : (Cond.code ⟨"VersionDeskModel", "clear", "(II)V"⟩ prog_5_method_14_code 4 none) ∈ lw_tbl := List.mem_append_right _ (List.mem_of_getElem? (i := 474) (by decide +kernel))
theorem kw_475 : (Cond.methodLink "VersionDeskModel" 80 ⟨"VersionDeskModel", "now", "(I)J"⟩) ∈ lw_tbl := List.mem_append_right _ (List.mem_of_getElem? (i := 475) (by decide +kernel))
theorem kw_476 : (Cond.privateMethod ⟨"VersionDeskModel", "now", "(I)J"⟩) ∈ lw_tbl := List.mem_append_right _ (List.mem_of_getElem? (i := 476) (by decide +kernel))
theorem kw_477 : (Cond.instanceMethod ⟨"VersionDeskModel", "now", "(I)J"⟩) ∈ lw_tbl := List.mem_append_right _ (List.mem_of_getElem? (i := 477) (by decide +kernel))
theorem kw_478 : (Cond.code ⟨"VersionDeskModel", "now", "(I)J"⟩ prog_5_method_6_code 2 (some FieldType.long)) ∈ lw_tbl := List.mem_append_right _ (List.mem_of_getElem? (i := 478) (by decide +kernel))
theorem kw_479 : (Cond.methodLink "VersionDeskLaw" 72 ⟨"VersionDeskModel", "read", "(II)J"⟩) ∈ lw_tbl := List.mem_append_right _ (List.mem_of_getElem? (i := 479) (by decide +kernel))
theorem kw_480 : (Cond.instanceMethod ⟨"VersionDeskModel", "read", "(II)J"⟩) ∈ lw_tbl := List.mem_append_right _ (List.mem_of_getElem? (i := 480) (by decide +kernel))
theorem kw_481 : (Cond.selects "VersionDeskModel" ⟨"VersionDeskModel", "read", "(II)J"⟩ ⟨"VersionDeskModel", "read", "(II)J"⟩) ∈ lw_tbl := List.mem_append_right _ (List.mem_of_getElem? (i := 481) (by decide +kernel))
theorem kw_482 : (Cond.code ⟨"VersionDeskModel", "read", "(II)J"⟩ prog_5_method_16_code 3 (some FieldType.long)) ∈ lw_tbl := List.mem_append_right _ (List.mem_of_getElem? (i := 482) (by decide +kernel))
theorem kw_483 : (Cond.methodLink "VersionDeskModel" 84 ⟨"VersionDeskModel", "none", "(II)Z"⟩) ∈ lw_tbl := List.mem_append_right _ (List.mem_of_getElem? (i := 483) (by decide +kernel))
theorem kw_484 : (Cond.privateMethod ⟨"VersionDeskModel", "none", "(II)Z"⟩) ∈ lw_tbl := List.mem_append_right _ (List.mem_of_getElem? (i := 484) (by decide +kernel))
theorem kw_485 : (Cond.instanceMethod ⟨"VersionDeskModel", "none", "(II)Z"⟩) ∈ lw_tbl := List.mem_append_right _ (List.mem_of_getElem? (i := 485) (by decide +kernel))
theorem kw_486 : (Cond.code ⟨"VersionDeskModel", "none", "(II)Z"⟩ prog_5_method_5_code 3 (some FieldType.boolean)) ∈ lw_tbl := List.mem_append_right _ (List.mem_of_getElem? (i := 486) (by decide +kernel))
theorem kw_487 : (Cond.methodLink "VersionDeskModel" 52 ⟨"VersionDeskModel", "no", "(I)Z"⟩) ∈ lw_tbl := List.mem_append_right _ (List.mem_of_getElem? (i := 487) (by decide +kernel))
theorem kw_488 : (Cond.privateMethod ⟨"VersionDeskModel", "no", "(I)Z"⟩) ∈ lw_tbl := List.mem_append_right _ (List.mem_of_getElem? (i := 488) (by decide +kernel))
theorem kw_489 : (Cond.instanceMethod ⟨"VersionDeskModel", "no", "(I)Z"⟩) ∈ lw_tbl := List.mem_append_right _ (List.mem_of_getElem? (i := 489) (by decide +kernel))
theorem kw_490 : (Cond.code ⟨"VersionDeskModel", "no", "(I)Z"⟩ prog_5_method_4_code 2 (some FieldType.boolean)) ∈ lw_tbl := List.mem_append_right _ (List.mem_of_getElem? (i := 490) (by decide +kernel))
theorem kw_491 : (Cond.methodLink "VersionDeskModel" 56 ⟨"VersionDeskModel", "layerOf", "(II)I"⟩) ∈ lw_tbl := List.mem_append_right _ (List.mem_of_getElem? (i := 491) (by decide +kernel))
theorem kw_492 : (Cond.privateMethod ⟨"VersionDeskModel", "layerOf", "(II)I"⟩) ∈ lw_tbl := List.mem_append_right _ (List.mem_of_getElem? (i := 492) (by decide +kernel))
theorem kw_493 : (Cond.instanceMethod ⟨"VersionDeskModel", "layerOf", "(II)I"⟩) ∈ lw_tbl := List.mem_append_right _ (List.mem_of_getElem? (i := 493) (by decide +kernel))
theorem kw_494 : (Cond.code ⟨"VersionDeskModel", "layerOf", "(II)I"⟩ prog_5_method_7_code 4 (some FieldType.int)) ∈ lw_tbl := List.mem_append_right _ (List.mem_of_getElem? (i := 494) (by decide +kernel))
theorem kw_495 : (Cond.methodLink "VersionDeskModel" 87 ⟨"VersionDeskModel", "reading", "(II)J"⟩) ∈ lw_tbl := List.mem_append_right _ (List.mem_of_getElem? (i := 495) (by decide +kernel))
theorem kw_496 : (Cond.privateMethod ⟨"VersionDeskModel", "reading", "(II)J"⟩) ∈ lw_tbl := List.mem_append_right _ (List.mem_of_getElem? (i := 496) (by decide +kernel))
theorem kw_497 : (Cond.instanceMethod ⟨"VersionDeskModel", "reading", "(II)J"⟩) ∈ lw_tbl := List.mem_append_right _ (List.mem_of_getElem? (i := 497) (by decide +kernel))
theorem kw_498 : (Cond.code ⟨"VersionDeskModel", "reading", "(II)J"⟩ prog_5_method_8_code 4 (some FieldType.long)) ∈ lw_tbl := List.mem_append_right _ (List.mem_of_getElem? (i := 498) (by decide +kernel))
theorem kw_499 : (Cond.methodLink "VersionDeskLaw" 78 ⟨"VersionDeskModel", "write", "(IIJ)J"⟩) ∈ lw_tbl := List.mem_append_right _ (List.mem_of_getElem? (i := 499) (by decide +kernel))
theorem kw_500 : (Cond.instanceMethod ⟨"VersionDeskModel", "write", "(IIJ)J"⟩) ∈ lw_tbl := List.mem_append_right _ (List.mem_of_getElem? (i := 500) (by decide +kernel))
theorem kw_501 : (Cond.selects "VersionDeskModel" ⟨"VersionDeskModel", "write", "(IIJ)J"⟩ ⟨"VersionDeskModel", "write", "(IIJ)J"⟩) ∈ lw_tbl := List.mem_append_right _ (List.mem_of_getElem? (i := 501) (by decide +kernel))
theorem kw_502 : (Cond.code ⟨"VersionDeskModel", "write", "(IIJ)J"⟩ prog_5_method_17_code 8 (some FieldType.long)) ∈ lw_tbl := List.mem_append_right _ (List.mem_of_getElem? (i := 502) (by decide +kernel))
theorem kw_503 : (Cond.methodLink "VersionDeskLaw" 81 ⟨"VersionDeskModel", "push", "(I)I"⟩) ∈ lw_tbl := List.mem_append_right _ (List.mem_of_getElem? (i := 503) (by decide +kernel))
theorem kw_504 : (Cond.instanceMethod ⟨"VersionDeskModel", "push", "(I)I"⟩) ∈ lw_tbl := List.mem_append_right _ (List.mem_of_getElem? (i := 504) (by decide +kernel))
theorem kw_505 : (Cond.selects "VersionDeskModel" ⟨"VersionDeskModel", "push", "(I)I"⟩ ⟨"VersionDeskModel", "push", "(I)I"⟩) ∈ lw_tbl := List.mem_append_right _ (List.mem_of_getElem? (i := 505) (by decide +kernel))
theorem kw_506 : (Cond.code ⟨"VersionDeskModel", "push", "(I)I"⟩ prog_5_method_18_code 2 (some FieldType.int)) ∈ lw_tbl := List.mem_append_right _ (List.mem_of_getElem? (i := 506) (by decide +kernel))
theorem kw_507 : (Cond.methodLink "VersionDeskLaw" 85 ⟨"VersionDeskModel", "pop", "(IZ)I"⟩) ∈ lw_tbl := List.mem_append_right _ (List.mem_of_getElem? (i := 507) (by decide +kernel))
theorem kw_508 : (Cond.instanceMethod ⟨"VersionDeskModel", "pop", "(IZ)I"⟩) ∈ lw_tbl := List.mem_append_right _ (List.mem_of_getElem? (i := 508) (by decide +kernel))
theorem kw_509 : (Cond.selects "VersionDeskModel" ⟨"VersionDeskModel", "pop", "(IZ)I"⟩ ⟨"VersionDeskModel", "pop", "(IZ)I"⟩) ∈ lw_tbl := List.mem_append_right _ (List.mem_of_getElem? (i := 509) (by decide +kernel))
theorem kw_510 : (Cond.code ⟨"VersionDeskModel", "pop", "(IZ)I"⟩ prog_5_method_19_code 5 (some FieldType.int)) ∈ lw_tbl := List.mem_append_right _ (List.mem_of_getElem? (i := 510) (by decide +kernel))
theorem kw_511 : (Cond.methodLink "VersionDeskLaw" 88 ⟨"VersionDeskModel", "commit", "(I)I"⟩) ∈ lw_tbl := List.mem_append_right _ (List.mem_of_getElem? (i := 511) (by decide +kernel))
theorem kw_512 : (Cond.instanceMethod ⟨"VersionDeskModel", "commit", "(I)I"⟩) ∈ lw_tbl := List.mem_append_right _ (List.mem_of_getElem? (i := 512) (by decide +kernel))
theorem kw_513 : (Cond.selects "VersionDeskModel" ⟨"VersionDeskModel", "commit", "(I)I"⟩ ⟨"VersionDeskModel", "commit", "(I)I"⟩) ∈ lw_tbl := List.mem_append_right _ (List.mem_of_getElem? (i := 513) (by decide +kernel))
theorem kw_514 : (Cond.code ⟨"VersionDeskModel", "commit", "(I)I"⟩ prog_5_method_20_code 4 (some FieldType.int)) ∈ lw_tbl := List.mem_append_right _ (List.mem_of_getElem? (i := 514) (by decide +kernel))
theorem kw_515 : (Cond.methodLink "VersionDeskModel" 91 ⟨"VersionDeskModel", "spoils", "(I)I"⟩) ∈ lw_tbl := List.mem_append_right _ (List.mem_of_getElem? (i := 515) (by decide +kernel))
theorem kw_516 : (Cond.privateMethod ⟨"VersionDeskModel", "spoils", "(I)I"⟩) ∈ lw_tbl := List.mem_append_right _ (List.mem_of_getElem? (i := 516) (by decide +kernel))
theorem kw_517 : (Cond.instanceMethod ⟨"VersionDeskModel", "spoils", "(I)I"⟩) ∈ lw_tbl := List.mem_append_right _ (List.mem_of_getElem? (i := 517) (by decide +kernel))
theorem kw_518 : (Cond.code ⟨"VersionDeskModel", "spoils", "(I)I"⟩ prog_5_method_11_code 4 (some FieldType.int)) ∈ lw_tbl := List.mem_append_right _ (List.mem_of_getElem? (i := 518) (by decide +kernel))
theorem kw_519 : (Cond.methodLink "VersionDeskModel" 60 ⟨"VersionDeskModel", "isSpoiled", "(II)Z"⟩) ∈ lw_tbl := List.mem_append_right _ (List.mem_of_getElem? (i := 519) (by decide +kernel))
theorem kw_520 : (Cond.privateMethod ⟨"VersionDeskModel", "isSpoiled", "(II)Z"⟩) ∈ lw_tbl := List.mem_append_right _ (List.mem_of_getElem? (i := 520) (by decide +kernel))
theorem kw_521 : (Cond.instanceMethod ⟨"VersionDeskModel", "isSpoiled", "(II)Z"⟩) ∈ lw_tbl := List.mem_append_right _ (List.mem_of_getElem? (i := 521) (by decide +kernel))
theorem kw_522 : (Cond.code ⟨"VersionDeskModel", "isSpoiled", "(II)Z"⟩ prog_5_method_9_code 3 (some FieldType.boolean)) ∈ lw_tbl := List.mem_append_right _ (List.mem_of_getElem? (i := 522) (by decide +kernel))
theorem kw_523 : (Cond.methodLink "VersionDeskModel" 94 ⟨"VersionDeskModel", "written", "(I)I"⟩) ∈ lw_tbl := List.mem_append_right _ (List.mem_of_getElem? (i := 523) (by decide +kernel))
theorem kw_524 : (Cond.privateMethod ⟨"VersionDeskModel", "written", "(I)I"⟩) ∈ lw_tbl := List.mem_append_right _ (List.mem_of_getElem? (i := 524) (by decide +kernel))
theorem kw_525 : (Cond.instanceMethod ⟨"VersionDeskModel", "written", "(I)I"⟩) ∈ lw_tbl := List.mem_append_right _ (List.mem_of_getElem? (i := 525) (by decide +kernel))
theorem kw_526 : (Cond.code ⟨"VersionDeskModel", "written", "(I)I"⟩ prog_5_method_10_code 4 (some FieldType.int)) ∈ lw_tbl := List.mem_append_right _ (List.mem_of_getElem? (i := 526) (by decide +kernel))
theorem kw_527 : (Cond.methodLink "VersionDeskModel" 97 ⟨"VersionDeskModel", "all", "()I"⟩) ∈ lw_tbl := List.mem_append_right _ (List.mem_of_getElem? (i := 527) (by decide +kernel))
theorem kw_528 : (Cond.privateMethod ⟨"VersionDeskModel", "all", "()I"⟩) ∈ lw_tbl := List.mem_append_right _ (List.mem_of_getElem? (i := 528) (by decide +kernel))
theorem kw_529 : (Cond.instanceMethod ⟨"VersionDeskModel", "all", "()I"⟩) ∈ lw_tbl := List.mem_append_right _ (List.mem_of_getElem? (i := 529) (by decide +kernel))
theorem kw_530 : (Cond.code ⟨"VersionDeskModel", "all", "()I"⟩ prog_5_method_12_code 3 (some FieldType.int)) ∈ lw_tbl := List.mem_append_right _ (List.mem_of_getElem? (i := 530) (by decide +kernel))
theorem kw_531 : (Cond.methodLink "VersionDeskLaw" 91 ⟨"VersionDeskModel", "drop", "(I)I"⟩) ∈ lw_tbl := List.mem_append_right _ (List.mem_of_getElem? (i := 531) (by decide +kernel))
theorem kw_532 : (Cond.instanceMethod ⟨"VersionDeskModel", "drop", "(I)I"⟩) ∈ lw_tbl := List.mem_append_right _ (List.mem_of_getElem? (i := 532) (by decide +kernel))
theorem kw_533 : (Cond.selects "VersionDeskModel" ⟨"VersionDeskModel", "drop", "(I)I"⟩ ⟨"VersionDeskModel", "drop", "(I)I"⟩) ∈ lw_tbl := List.mem_append_right _ (List.mem_of_getElem? (i := 533) (by decide +kernel))
theorem kw_534 : (Cond.code ⟨"VersionDeskModel", "drop", "(I)I"⟩ prog_5_method_21_code 2 (some FieldType.int)) ∈ lw_tbl := List.mem_append_right _ (List.mem_of_getElem? (i := 534) (by decide +kernel))
theorem kw_535 : (Cond.methodLink "VersionDeskLaw" 94 ⟨"VersionDeskModel", "spoiled", "(I)Z"⟩) ∈ lw_tbl := List.mem_append_right _ (List.mem_of_getElem? (i := 535) (by decide +kernel))
theorem kw_536 : (Cond.instanceMethod ⟨"VersionDeskModel", "spoiled", "(I)Z"⟩) ∈ lw_tbl := List.mem_append_right _ (List.mem_of_getElem? (i := 536) (by decide +kernel))
theorem kw_537 : (Cond.selects "VersionDeskModel" ⟨"VersionDeskModel", "spoiled", "(I)Z"⟩ ⟨"VersionDeskModel", "spoiled", "(I)Z"⟩) ∈ lw_tbl := List.mem_append_right _ (List.mem_of_getElem? (i := 537) (by decide +kernel))
theorem kw_538 : (Cond.code ⟨"VersionDeskModel", "spoiled", "(I)Z"⟩ prog_5_method_22_code 2 (some FieldType.boolean)) ∈ lw_tbl := List.mem_append_right _ (List.mem_of_getElem? (i := 538) (by decide +kernel))
theorem kw_539 : (Cond.methodLink "VersionDeskLaw" 97 ⟨"VersionDeskModel", "meets", "(II)Z"⟩) ∈ lw_tbl := List.mem_append_right _ (List.mem_of_getElem? (i := 539) (by decide +kernel))
theorem kw_540 : (Cond.instanceMethod ⟨"VersionDeskModel", "meets", "(II)Z"⟩) ∈ lw_tbl := List.mem_append_right _ (List.mem_of_getElem? (i := 540) (by decide +kernel))
theorem kw_541 : (Cond.selects "VersionDeskModel" ⟨"VersionDeskModel", "meets", "(II)Z"⟩ ⟨"VersionDeskModel", "meets", "(II)Z"⟩) ∈ lw_tbl := List.mem_append_right _ (List.mem_of_getElem? (i := 541) (by decide +kernel))
theorem kw_542 : (Cond.code ⟨"VersionDeskModel", "meets", "(II)Z"⟩ prog_5_method_23_code 4 (some FieldType.boolean)) ∈ lw_tbl := List.mem_append_right _ (List.mem_of_getElem? (i := 542) (by decide +kernel))
theorem kw_543 : (Cond.methodLink "VersionDeskLaw" 100 ⟨"VersionDeskModel", "past", "(II)J"⟩) ∈ lw_tbl := List.mem_append_right _ (List.mem_of_getElem? (i := 543) (by decide +kernel))
theorem kw_544 : (Cond.instanceMethod ⟨"VersionDeskModel", "past", "(II)J"⟩) ∈ lw_tbl := List.mem_append_right _ (List.mem_of_getElem? (i := 544) (by decide +kernel))
theorem kw_545 : (Cond.selects "VersionDeskModel" ⟨"VersionDeskModel", "past", "(II)J"⟩ ⟨"VersionDeskModel", "past", "(II)J"⟩) ∈ lw_tbl := List.mem_append_right _ (List.mem_of_getElem? (i := 545) (by decide +kernel))
theorem kw_546 : (Cond.code ⟨"VersionDeskModel", "past", "(II)J"⟩ prog_5_method_24_code 4 (some FieldType.long)) ∈ lw_tbl := List.mem_append_right _ (List.mem_of_getElem? (i := 546) (by decide +kernel))
theorem kw_547 : (Cond.methodLink "VersionDeskLaw" 104 ⟨"VersionDeskModel", "forget", "()I"⟩) ∈ lw_tbl := List.mem_append_right _ (List.mem_of_getElem? (i := 547) (by decide +kernel))
theorem kw_548 : (Cond.instanceMethod ⟨"VersionDeskModel", "forget", "()I"⟩) ∈ lw_tbl := List.mem_append_right _ (List.mem_of_getElem? (i := 548) (by decide +kernel))
theorem kw_549 : (Cond.selects "VersionDeskModel" ⟨"VersionDeskModel", "forget", "()I"⟩ ⟨"VersionDeskModel", "forget", "()I"⟩) ∈ lw_tbl := List.mem_append_right _ (List.mem_of_getElem? (i := 549) (by decide +kernel))
theorem kw_550 : (Cond.code ⟨"VersionDeskModel", "forget", "()I"⟩ prog_5_method_25_code 5 (some FieldType.int)) ∈ lw_tbl := List.mem_append_right _ (List.mem_of_getElem? (i := 550) (by decide +kernel))
theorem kw_551 : (Cond.methodLink "VersionDeskModel" 101 ⟨"VersionDeskModel", "floor", "()I"⟩) ∈ lw_tbl := List.mem_append_right _ (List.mem_of_getElem? (i := 551) (by decide +kernel))
theorem kw_552 : (Cond.privateMethod ⟨"VersionDeskModel", "floor", "()I"⟩) ∈ lw_tbl := List.mem_append_right _ (List.mem_of_getElem? (i := 552) (by decide +kernel))
theorem kw_553 : (Cond.instanceMethod ⟨"VersionDeskModel", "floor", "()I"⟩) ∈ lw_tbl := List.mem_append_right _ (List.mem_of_getElem? (i := 553) (by decide +kernel))
theorem kw_554 : (Cond.code ⟨"VersionDeskModel", "floor", "()I"⟩ prog_5_method_13_code 3 (some FieldType.int)) ∈ lw_tbl := List.mem_append_right _ (List.mem_of_getElem? (i := 554) (by decide +kernel))
theorem kw_555 : (Cond.methodLink "VersionDeskModel" 67 ⟨"java/lang/Math", "min", "(II)I"⟩) ∈ lw_tbl := List.mem_append_right _ (List.mem_of_getElem? (i := 555) (by decide +kernel))
theorem kw_556 : (Cond.methodLink "VersionDeskLaw" 107 ⟨"VersionDeskModel", "about", "(II)I"⟩) ∈ lw_tbl := List.mem_append_right _ (List.mem_of_getElem? (i := 556) (by decide +kernel))
theorem kw_557 : (Cond.instanceMethod ⟨"VersionDeskModel", "about", "(II)I"⟩) ∈ lw_tbl := List.mem_append_right _ (List.mem_of_getElem? (i := 557) (by decide +kernel))
theorem kw_558 : (Cond.selects "VersionDeskModel" ⟨"VersionDeskModel", "about", "(II)I"⟩ ⟨"VersionDeskModel", "about", "(II)I"⟩) ∈ lw_tbl := List.mem_append_right _ (List.mem_of_getElem? (i := 558) (by decide +kernel))
theorem kw_559 : (Cond.code ⟨"VersionDeskModel", "about", "(II)I"⟩ prog_5_method_26_code 5 (some FieldType.int)) ∈ lw_tbl := List.mem_append_right _ (List.mem_of_getElem? (i := 559) (by decide +kernel))
theorem kw_560 : (Cond.methodLink "VersionDeskLaw" 111 ⟨"VersionDeskModel", "count", "(I)I"⟩) ∈ lw_tbl := List.mem_append_right _ (List.mem_of_getElem? (i := 560) (by decide +kernel))
theorem kw_561 : (Cond.instanceMethod ⟨"VersionDeskModel", "count", "(I)I"⟩) ∈ lw_tbl := List.mem_append_right _ (List.mem_of_getElem? (i := 561) (by decide +kernel))
theorem kw_562 : (Cond.selects "VersionDeskModel" ⟨"VersionDeskModel", "count", "(I)I"⟩ ⟨"VersionDeskModel", "count", "(I)I"⟩) ∈ lw_tbl := List.mem_append_right _ (List.mem_of_getElem? (i := 562) (by decide +kernel))
theorem kw_563 : (Cond.code ⟨"VersionDeskModel", "count", "(I)I"⟩ prog_5_method_27_code 4 (some FieldType.int)) ∈ lw_tbl := List.mem_append_right _ (List.mem_of_getElem? (i := 563) (by decide +kernel))
theorem kw_564 : (Cond.constantLong "VersionDeskLaw" 73 (4294967295)) ∈ lw_tbl := List.mem_append_right _ (List.mem_of_getElem? (i := 564) (by decide +kernel))
theorem kw_565 : (Cond.sameMethod "java/lang/Throwable" "java/lang/Throwable" "fillInStackTrace" "(I)Ljava/lang/Throwable;") ∈ lw_tbl := List.mem_append_right _ (List.mem_of_getElem? (i := 565) (by decide +kernel))
theorem ks_0 : (Cond.selects "VersionDesk" ⟨"VersionDesk", "floor", "()I"⟩ ⟨"VersionDesk", "floor", "()I"⟩) ∈ lw_tbl := List.mem_append_left _ (List.mem_of_getElem? (i := 0) (by decide +kernel))
theorem ks_1 : (Cond.selects "VersionDesk$Versions" ⟨"VersionDesk$Versions", "move", "(II)V"⟩ ⟨"VersionDesk$Versions", "move", "(II)V"⟩) ∈ lw_tbl := List.mem_append_left _ (List.mem_of_getElem? (i := 1) (by decide +kernel))
theorem ks_2 : (Cond.selects "VersionDesk" ⟨"VersionDesk", "howManyOpen", "()I"⟩ ⟨"VersionDesk", "howManyOpen", "()I"⟩) ∈ lw_tbl := List.mem_append_left _ (List.mem_of_getElem? (i := 2) (by decide +kernel))
theorem ks_3 : (Cond.selects "java/lang/Throwable" ⟨"java/lang/Throwable", "fillInStackTrace", "(I)Ljava/lang/Throwable;"⟩ ⟨"java/lang/Throwable", "fillInStackTrace", "(I)Ljava/lang/Throwable;"⟩) ∈ lw_tbl := List.mem_append_left _ (List.mem_of_getElem? (i := 3) (by decide +kernel))
theorem ks_4 : (Cond.selects "VersionDesk" ⟨"VersionDesk", "leastNotOpen", "()I"⟩ ⟨"VersionDesk", "leastNotOpen", "()I"⟩) ∈ lw_tbl := List.mem_append_left _ (List.mem_of_getElem? (i := 4) (by decide +kernel))
theorem ks_5 : (Cond.selects "VersionDesk" ⟨"VersionDesk", "openOne", "(I)LVersionDesk$Transaction;"⟩ ⟨"VersionDesk", "openOne", "(I)LVersionDesk$Transaction;"⟩) ∈ lw_tbl := List.mem_append_left _ (List.mem_of_getElem? (i := 5) (by decide +kernel))
theorem ks_6 : (Cond.selects "VersionDesk" ⟨"VersionDesk", "reading", "(LVersionDesk$Transaction;I)J"⟩ ⟨"VersionDesk", "reading", "(LVersionDesk$Transaction;I)J"⟩) ∈ lw_tbl := List.mem_append_left _ (List.mem_of_getElem? (i := 6) (by decide +kernel))
theorem ks_7 : (Cond.selects "VersionDesk$Versions" ⟨"VersionDesk$Versions", "indexAt", "(II)I"⟩ ⟨"VersionDesk$Versions", "indexAt", "(II)I"⟩) ∈ lw_tbl := List.mem_append_left _ (List.mem_of_getElem? (i := 7) (by decide +kernel))
theorem ks_8 : (Cond.selects "VersionDesk$Transaction" ⟨"VersionDesk$Transaction", "putIn", "(IIJ)V"⟩ ⟨"VersionDesk$Transaction", "putIn", "(IIJ)V"⟩) ∈ lw_tbl := List.mem_append_left _ (List.mem_of_getElem? (i := 8) (by decide +kernel))
theorem ks_9 : (Cond.selects "VersionDesk" ⟨"VersionDesk", "spoiledCells", "(LVersionDesk$Transaction;)I"⟩ ⟨"VersionDesk", "spoiledCells", "(LVersionDesk$Transaction;)I"⟩) ∈ lw_tbl := List.mem_append_left _ (List.mem_of_getElem? (i := 9) (by decide +kernel))
theorem ks_10 : (Cond.selects "VersionDesk" ⟨"VersionDesk", "keepVersions", "(LVersionDesk$Transaction;I)V"⟩ ⟨"VersionDesk", "keepVersions", "(LVersionDesk$Transaction;I)V"⟩) ∈ lw_tbl := List.mem_append_left _ (List.mem_of_getElem? (i := 10) (by decide +kernel))
theorem ks_11 : (Cond.selects "VersionDeskModel" ⟨"VersionDeskModel", "fail", "(I)I"⟩ ⟨"VersionDeskModel", "fail", "(I)I"⟩) ∈ lw_tbl := List.mem_append_left _ (List.mem_of_getElem? (i := 11) (by decide +kernel))
theorem ks_12 : (Cond.selects "VersionDeskModel" ⟨"VersionDeskModel", "clear", "(II)V"⟩ ⟨"VersionDeskModel", "clear", "(II)V"⟩) ∈ lw_tbl := List.mem_append_left _ (List.mem_of_getElem? (i := 12) (by decide +kernel))
theorem ks_13 : (Cond.selects "VersionDeskModel" ⟨"VersionDeskModel", "now", "(I)J"⟩ ⟨"VersionDeskModel", "now", "(I)J"⟩) ∈ lw_tbl := List.mem_append_left _ (List.mem_of_getElem? (i := 13) (by decide +kernel))
theorem ks_14 : (Cond.selects "VersionDeskModel" ⟨"VersionDeskModel", "none", "(II)Z"⟩ ⟨"VersionDeskModel", "none", "(II)Z"⟩) ∈ lw_tbl := List.mem_append_left _ (List.mem_of_getElem? (i := 14) (by decide +kernel))
theorem ks_15 : (Cond.selects "VersionDeskModel" ⟨"VersionDeskModel", "no", "(I)Z"⟩ ⟨"VersionDeskModel", "no", "(I)Z"⟩) ∈ lw_tbl := List.mem_append_left _ (List.mem_of_getElem? (i := 15) (by decide +kernel))
theorem ks_16 : (Cond.selects "VersionDeskModel" ⟨"VersionDeskModel", "layerOf", "(II)I"⟩ ⟨"VersionDeskModel", "layerOf", "(II)I"⟩) ∈ lw_tbl := List.mem_append_left _ (List.mem_of_getElem? (i := 16) (by decide +kernel))
theorem ks_17 : (Cond.selects "VersionDeskModel" ⟨"VersionDeskModel", "reading", "(II)J"⟩ ⟨"VersionDeskModel", "reading", "(II)J"⟩) ∈ lw_tbl := List.mem_append_left _ (List.mem_of_getElem? (i := 17) (by decide +kernel))
theorem ks_18 : (Cond.selects "VersionDeskModel" ⟨"VersionDeskModel", "spoils", "(I)I"⟩ ⟨"VersionDeskModel", "spoils", "(I)I"⟩) ∈ lw_tbl := List.mem_append_left _ (List.mem_of_getElem? (i := 18) (by decide +kernel))
theorem ks_19 : (Cond.selects "VersionDeskModel" ⟨"VersionDeskModel", "isSpoiled", "(II)Z"⟩ ⟨"VersionDeskModel", "isSpoiled", "(II)Z"⟩) ∈ lw_tbl := List.mem_append_left _ (List.mem_of_getElem? (i := 19) (by decide +kernel))
theorem ks_20 : (Cond.selects "VersionDeskModel" ⟨"VersionDeskModel", "written", "(I)I"⟩ ⟨"VersionDeskModel", "written", "(I)I"⟩) ∈ lw_tbl := List.mem_append_left _ (List.mem_of_getElem? (i := 20) (by decide +kernel))
theorem ks_21 : (Cond.selects "VersionDeskModel" ⟨"VersionDeskModel", "all", "()I"⟩ ⟨"VersionDeskModel", "all", "()I"⟩) ∈ lw_tbl := List.mem_append_left _ (List.mem_of_getElem? (i := 21) (by decide +kernel))
theorem ks_22 : (Cond.selects "VersionDeskModel" ⟨"VersionDeskModel", "floor", "()I"⟩ ⟨"VersionDeskModel", "floor", "()I"⟩) ∈ lw_tbl := List.mem_append_left _ (List.mem_of_getElem? (i := 22) (by decide +kernel))
end
section
-- names: classes and their fields, methods
def T_D : u_T := fun k => match k with
  | 0 => ("VersionDesk", "transactions", "[LVersionDesk$Transaction;", true)
  | 1 => ("VersionDesk", "versions", "LVersionDesk$Versions;", true)
  | _ => ("VersionDesk", "clock", "I", false)
def ty_D : Nat → FieldType := fun k => match k with
  | 0 => (.array (.object "VersionDesk$Transaction"))
  | 1 => (.object "VersionDesk$Versions")
  | _ => .int
theorem n_D : ∀ a, a < 3 → ∀ b, b < 3 → a ≠ b → (T_D a).2.1 ≠ (T_D b).2.1 := by decide +kernel
theorem ty_D_ok : ∀ k, k < 3 → parseFieldDescriptor (T_D k).2.2.1 = some (ty_D k) := by decide +kernel
def T_T : u_T := fun k => match k with
  | 0 => ("VersionDesk$Transaction", "open", "Z", false)
  | 1 => ("VersionDesk$Transaction", "start", "I", false)
  | 2 => ("VersionDesk$Transaction", "kind", "I", false)
  | 3 => ("VersionDesk$Transaction", "layers", "I", false)
  | 4 => ("VersionDesk$Transaction", "seen", "I", false)
  | 5 => ("VersionDesk$Transaction", "wrote", "[I", true)
  | _ => ("VersionDesk$Transaction", "values", "[[J", true)
def ty_T : Nat → FieldType := fun k => match k with
  | 0 => .boolean
  | 1 => .int
  | 2 => .int
  | 3 => .int
  | 4 => .int
  | 5 => (.array .int)
  | _ => (.array (.array .long))
theorem n_T : ∀ a, a < 7 → ∀ b, b < 7 → a ≠ b → (T_T a).2.1 ≠ (T_T b).2.1 := by decide +kernel
theorem ty_T_ok : ∀ k, k < 7 → parseFieldDescriptor (T_T k).2.2.1 = some (ty_T k) := by decide +kernel
def T_V : u_T := fun k => match k with
  | 0 => ("VersionDesk$Versions", "cells", "[I", true)
  | 1 => ("VersionDesk$Versions", "clocks", "[I", true)
  | 2 => ("VersionDesk$Versions", "values", "[J", true)
  | _ => ("VersionDesk$Versions", "size", "I", false)
def ty_V : Nat → FieldType := fun k => match k with
  | 0 => (.array .int)
  | 1 => (.array .int)
  | 2 => (.array .long)
  | _ => .int
theorem n_V : ∀ a, a < 4 → ∀ b, b < 4 → a ≠ b → (T_V a).2.1 ≠ (T_V b).2.1 := by decide +kernel
theorem ty_V_ok : ∀ k, k < 4 → parseFieldDescriptor (T_V k).2.2.1 = some (ty_V k) := by decide +kernel
def T_M : u_T := fun k => match k with
  | 0 => ("VersionDeskModel", "thrown", "I", false)
  | 1 => ("VersionDeskModel", "clock", "I", false)
  | 2 => ("VersionDeskModel", "open", "[Z", true)
  | 3 => ("VersionDeskModel", "saw", "[Z", true)
  | 4 => ("VersionDeskModel", "wrote", "[Z", true)
  | 5 => ("VersionDeskModel", "start", "[I", true)
  | 6 => ("VersionDeskModel", "kind", "[I", true)
  | 7 => ("VersionDeskModel", "layers", "[I", true)
  | 8 => ("VersionDeskModel", "began", "[J", true)
  | 9 => ("VersionDeskModel", "value", "[J", true)
  | 10 => ("VersionDeskModel", "versions", "[I", true)
  | 11 => ("VersionDeskModel", "at", "[I", true)
  | 12 => ("VersionDeskModel", "last", "[I", true)
  | _ => ("VersionDeskModel", "was", "[J", true)
def ty_M : Nat → FieldType := fun k => match k with
  | 0 => .int
  | 1 => .int
  | 2 => (.array .boolean)
  | 3 => (.array .boolean)
  | 4 => (.array .boolean)
  | 5 => (.array .int)
  | 6 => (.array .int)
  | 7 => (.array .int)
  | 8 => (.array .long)
  | 9 => (.array .long)
  | 10 => (.array .int)
  | 11 => (.array .int)
  | 12 => (.array .int)
  | _ => (.array .long)
theorem n_M : ∀ a, a < 14 → ∀ b, b < 14 → a ≠ b → (T_M a).2.1 ≠ (T_M b).2.1 := by decide +kernel
theorem ty_M_ok : ∀ k, k < 14 → parseFieldDescriptor (T_M k).2.2.1 = some (ty_M k) := by decide +kernel
abbrev classes : List vw_C := [("VersionDesk", T_D, 3), ("VersionDesk$Transaction", T_T, 7), ("VersionDesk$Versions", T_V, 4), ("VersionDeskModel", T_M, 14)]
def mD_init : MethodName × ByteArray × Nat × Option FieldType × List (Nat × Nat × Nat × Nat) := (⟨"VersionDesk", "<init>", "()V"⟩, prog_1_method_1_code, 2, none, [])
def mD_begin : MethodName × ByteArray × Nat × Option FieldType × List (Nat × Nat × Nat × Nat) := (⟨"VersionDesk", "begin", "(I)I"⟩, prog_1_method_2_code, 3, (some FieldType.int), [])
def mD_read : MethodName × ByteArray × Nat × Option FieldType × List (Nat × Nat × Nat × Nat) := (⟨"VersionDesk", "read", "(II)J"⟩, prog_1_method_3_code, 4, (some FieldType.long), [])
def mD_write : MethodName × ByteArray × Nat × Option FieldType × List (Nat × Nat × Nat × Nat) := (⟨"VersionDesk", "write", "(IIJ)J"⟩, prog_1_method_4_code, 8, (some FieldType.long), [])
def mD_push : MethodName × ByteArray × Nat × Option FieldType × List (Nat × Nat × Nat × Nat) := (⟨"VersionDesk", "push", "(I)I"⟩, prog_1_method_5_code, 3, (some FieldType.int), [])
def mD_pop : MethodName × ByteArray × Nat × Option FieldType × List (Nat × Nat × Nat × Nat) := (⟨"VersionDesk", "pop", "(IZ)I"⟩, prog_1_method_6_code, 4, (some FieldType.int), [])
def mD_commit : MethodName × ByteArray × Nat × Option FieldType × List (Nat × Nat × Nat × Nat) := (⟨"VersionDesk", "commit", "(I)I"⟩, prog_1_method_7_code, 4, (some FieldType.int), [])
def mD_drop : MethodName × ByteArray × Nat × Option FieldType × List (Nat × Nat × Nat × Nat) := (⟨"VersionDesk", "drop", "(I)I"⟩, prog_1_method_8_code, 3, (some FieldType.int), [])
def mD_spoiled : MethodName × ByteArray × Nat × Option FieldType × List (Nat × Nat × Nat × Nat) := (⟨"VersionDesk", "spoiled", "(I)Z"⟩, prog_1_method_9_code, 2, (some FieldType.boolean), [])
def mD_meets : MethodName × ByteArray × Nat × Option FieldType × List (Nat × Nat × Nat × Nat) := (⟨"VersionDesk", "meets", "(II)Z"⟩, prog_1_method_10_code, 6, (some FieldType.boolean), [])
def mD_past : MethodName × ByteArray × Nat × Option FieldType × List (Nat × Nat × Nat × Nat) := (⟨"VersionDesk", "past", "(II)J"⟩, prog_1_method_11_code, 3, (some FieldType.long), [])
def mD_forget : MethodName × ByteArray × Nat × Option FieldType × List (Nat × Nat × Nat × Nat) := (⟨"VersionDesk", "forget", "()I"⟩, prog_1_method_12_code, 1, (some FieldType.int), [])
def mD_about : MethodName × ByteArray × Nat × Option FieldType × List (Nat × Nat × Nat × Nat) := (⟨"VersionDesk", "about", "(II)I"⟩, prog_1_method_13_code, 4, (some FieldType.int), [])
def mD_count : MethodName × ByteArray × Nat × Option FieldType × List (Nat × Nat × Nat × Nat) := (⟨"VersionDesk", "count", "(I)I"⟩, prog_1_method_14_code, 2, (some FieldType.int), [])
def mD_openOne : MethodName × ByteArray × Nat × Option FieldType × List (Nat × Nat × Nat × Nat) := (⟨"VersionDesk", "openOne", "(I)LVersionDesk$Transaction;"⟩, prog_1_method_15_code, 2, (some (FieldType.object "VersionDesk$Transaction")), [])
def mD_requireCell : MethodName × ByteArray × Nat × Option FieldType × List (Nat × Nat × Nat × Nat) := (⟨"VersionDesk", "requireCell", "(I)V"⟩, prog_1_method_16_code, 1, none, [])
def mD_leastNotOpen : MethodName × ByteArray × Nat × Option FieldType × List (Nat × Nat × Nat × Nat) := (⟨"VersionDesk", "leastNotOpen", "()I"⟩, prog_1_method_17_code, 2, (some FieldType.int), [])
def mD_howManyOpen : MethodName × ByteArray × Nat × Option FieldType × List (Nat × Nat × Nat × Nat) := (⟨"VersionDesk", "howManyOpen", "()I"⟩, prog_1_method_18_code, 3, (some FieldType.int), [])
def mD_floor : MethodName × ByteArray × Nat × Option FieldType × List (Nat × Nat × Nat × Nat) := (⟨"VersionDesk", "floor", "()I"⟩, prog_1_method_19_code, 3, (some FieldType.int), [])
def mD_reading : MethodName × ByteArray × Nat × Option FieldType × List (Nat × Nat × Nat × Nat) := (⟨"VersionDesk", "reading", "(LVersionDesk$Transaction;I)J"⟩, prog_1_method_20_code, 4, (some FieldType.long), [])
def mD_spoiledCells : MethodName × ByteArray × Nat × Option FieldType × List (Nat × Nat × Nat × Nat) := (⟨"VersionDesk", "spoiledCells", "(LVersionDesk$Transaction;)I"⟩, prog_1_method_21_code, 2, (some FieldType.int), [])
def mD_keepVersions : MethodName × ByteArray × Nat × Option FieldType × List (Nat × Nat × Nat × Nat) := (⟨"VersionDesk", "keepVersions", "(LVersionDesk$Transaction;I)V"⟩, prog_1_method_22_code, 4, none, [])
def mM_init : MethodName × ByteArray × Nat × Option FieldType × List (Nat × Nat × Nat × Nat) := (⟨"VersionDeskModel", "<init>", "()V"⟩, prog_5_method_1_code, 2, none, [])
def mM_thrown : MethodName × ByteArray × Nat × Option FieldType × List (Nat × Nat × Nat × Nat) := (⟨"VersionDeskModel", "thrown", "()I"⟩, prog_5_method_2_code, 1, (some FieldType.int), [])
def mM_fail : MethodName × ByteArray × Nat × Option FieldType × List (Nat × Nat × Nat × Nat) := (⟨"VersionDeskModel", "fail", "(I)I"⟩, prog_5_method_3_code, 2, (some FieldType.int), [])
def mM_no : MethodName × ByteArray × Nat × Option FieldType × List (Nat × Nat × Nat × Nat) := (⟨"VersionDeskModel", "no", "(I)Z"⟩, prog_5_method_4_code, 2, (some FieldType.boolean), [])
def mM_none : MethodName × ByteArray × Nat × Option FieldType × List (Nat × Nat × Nat × Nat) := (⟨"VersionDeskModel", "none", "(II)Z"⟩, prog_5_method_5_code, 3, (some FieldType.boolean), [])
def mM_now : MethodName × ByteArray × Nat × Option FieldType × List (Nat × Nat × Nat × Nat) := (⟨"VersionDeskModel", "now", "(I)J"⟩, prog_5_method_6_code, 2, (some FieldType.long), [])
def mM_layerOf : MethodName × ByteArray × Nat × Option FieldType × List (Nat × Nat × Nat × Nat) := (⟨"VersionDeskModel", "layerOf", "(II)I"⟩, prog_5_method_7_code, 4, (some FieldType.int), [])
def mM_reading : MethodName × ByteArray × Nat × Option FieldType × List (Nat × Nat × Nat × Nat) := (⟨"VersionDeskModel", "reading", "(II)J"⟩, prog_5_method_8_code, 4, (some FieldType.long), [])
def mM_isSpoiled : MethodName × ByteArray × Nat × Option FieldType × List (Nat × Nat × Nat × Nat) := (⟨"VersionDeskModel", "isSpoiled", "(II)Z"⟩, prog_5_method_9_code, 3, (some FieldType.boolean), [])
def mM_written : MethodName × ByteArray × Nat × Option FieldType × List (Nat × Nat × Nat × Nat) := (⟨"VersionDeskModel", "written", "(I)I"⟩, prog_5_method_10_code, 4, (some FieldType.int), [])
def mM_spoils : MethodName × ByteArray × Nat × Option FieldType × List (Nat × Nat × Nat × Nat) := (⟨"VersionDeskModel", "spoils", "(I)I"⟩, prog_5_method_11_code, 4, (some FieldType.int), [])
def mM_all : MethodName × ByteArray × Nat × Option FieldType × List (Nat × Nat × Nat × Nat) := (⟨"VersionDeskModel", "all", "()I"⟩, prog_5_method_12_code, 3, (some FieldType.int), [])
def mM_floor : MethodName × ByteArray × Nat × Option FieldType × List (Nat × Nat × Nat × Nat) := (⟨"VersionDeskModel", "floor", "()I"⟩, prog_5_method_13_code, 3, (some FieldType.int), [])
def mM_clear : MethodName × ByteArray × Nat × Option FieldType × List (Nat × Nat × Nat × Nat) := (⟨"VersionDeskModel", "clear", "(II)V"⟩, prog_5_method_14_code, 4, none, [])
def mM_begin : MethodName × ByteArray × Nat × Option FieldType × List (Nat × Nat × Nat × Nat) := (⟨"VersionDeskModel", "begin", "(I)I"⟩, prog_5_method_15_code, 4, (some FieldType.int), [])
def mM_read : MethodName × ByteArray × Nat × Option FieldType × List (Nat × Nat × Nat × Nat) := (⟨"VersionDeskModel", "read", "(II)J"⟩, prog_5_method_16_code, 3, (some FieldType.long), [])
def mM_write : MethodName × ByteArray × Nat × Option FieldType × List (Nat × Nat × Nat × Nat) := (⟨"VersionDeskModel", "write", "(IIJ)J"⟩, prog_5_method_17_code, 8, (some FieldType.long), [])
def mM_push : MethodName × ByteArray × Nat × Option FieldType × List (Nat × Nat × Nat × Nat) := (⟨"VersionDeskModel", "push", "(I)I"⟩, prog_5_method_18_code, 2, (some FieldType.int), [])
def mM_pop : MethodName × ByteArray × Nat × Option FieldType × List (Nat × Nat × Nat × Nat) := (⟨"VersionDeskModel", "pop", "(IZ)I"⟩, prog_5_method_19_code, 5, (some FieldType.int), [])
def mM_commit : MethodName × ByteArray × Nat × Option FieldType × List (Nat × Nat × Nat × Nat) := (⟨"VersionDeskModel", "commit", "(I)I"⟩, prog_5_method_20_code, 4, (some FieldType.int), [])
def mM_drop : MethodName × ByteArray × Nat × Option FieldType × List (Nat × Nat × Nat × Nat) := (⟨"VersionDeskModel", "drop", "(I)I"⟩, prog_5_method_21_code, 2, (some FieldType.int), [])
def mM_spoiled : MethodName × ByteArray × Nat × Option FieldType × List (Nat × Nat × Nat × Nat) := (⟨"VersionDeskModel", "spoiled", "(I)Z"⟩, prog_5_method_22_code, 2, (some FieldType.boolean), [])
def mM_meets : MethodName × ByteArray × Nat × Option FieldType × List (Nat × Nat × Nat × Nat) := (⟨"VersionDeskModel", "meets", "(II)Z"⟩, prog_5_method_23_code, 4, (some FieldType.boolean), [])
def mM_past : MethodName × ByteArray × Nat × Option FieldType × List (Nat × Nat × Nat × Nat) := (⟨"VersionDeskModel", "past", "(II)J"⟩, prog_5_method_24_code, 4, (some FieldType.long), [])
def mM_forget : MethodName × ByteArray × Nat × Option FieldType × List (Nat × Nat × Nat × Nat) := (⟨"VersionDeskModel", "forget", "()I"⟩, prog_5_method_25_code, 5, (some FieldType.int), [])
def mM_about : MethodName × ByteArray × Nat × Option FieldType × List (Nat × Nat × Nat × Nat) := (⟨"VersionDeskModel", "about", "(II)I"⟩, prog_5_method_26_code, 5, (some FieldType.int), [])
def mM_count : MethodName × ByteArray × Nat × Option FieldType × List (Nat × Nat × Nat × Nat) := (⟨"VersionDeskModel", "count", "(I)I"⟩, prog_5_method_27_code, 4, (some FieldType.int), [])
def mT_init : MethodName × ByteArray × Nat × Option FieldType × List (Nat × Nat × Nat × Nat) := (⟨"VersionDesk$Transaction", "<init>", "()V"⟩, prog_2_method_1_code, 1, none, [])
def mT_open : MethodName × ByteArray × Nat × Option FieldType × List (Nat × Nat × Nat × Nat) := (⟨"VersionDesk$Transaction", "open", "(II)V"⟩, prog_2_method_2_code, 3, none, [])
def mT_close : MethodName × ByteArray × Nat × Option FieldType × List (Nat × Nat × Nat × Nat) := (⟨"VersionDesk$Transaction", "close", "()V"⟩, prog_2_method_3_code, 1, none, [])
def mT_isOpen : MethodName × ByteArray × Nat × Option FieldType × List (Nat × Nat × Nat × Nat) := (⟨"VersionDesk$Transaction", "isOpen", "()Z"⟩, prog_2_method_4_code, 1, (some FieldType.boolean), [])
def mT_start : MethodName × ByteArray × Nat × Option FieldType × List (Nat × Nat × Nat × Nat) := (⟨"VersionDesk$Transaction", "start", "()I"⟩, prog_2_method_5_code, 1, (some FieldType.int), [])
def mT_kind : MethodName × ByteArray × Nat × Option FieldType × List (Nat × Nat × Nat × Nat) := (⟨"VersionDesk$Transaction", "kind", "()I"⟩, prog_2_method_6_code, 1, (some FieldType.int), [])
def mT_layers : MethodName × ByteArray × Nat × Option FieldType × List (Nat × Nat × Nat × Nat) := (⟨"VersionDesk$Transaction", "layers", "()I"⟩, prog_2_method_7_code, 1, (some FieldType.int), [])
def mT_seen : MethodName × ByteArray × Nat × Option FieldType × List (Nat × Nat × Nat × Nat) := (⟨"VersionDesk$Transaction", "seen", "()I"⟩, prog_2_method_8_code, 1, (some FieldType.int), [])
def mT_see : MethodName × ByteArray × Nat × Option FieldType × List (Nat × Nat × Nat × Nat) := (⟨"VersionDesk$Transaction", "see", "(I)V"⟩, prog_2_method_9_code, 2, none, [])
def mT_written : MethodName × ByteArray × Nat × Option FieldType × List (Nat × Nat × Nat × Nat) := (⟨"VersionDesk$Transaction", "written", "()I"⟩, prog_2_method_10_code, 3, (some FieldType.int), [])
def mT_heeded : MethodName × ByteArray × Nat × Option FieldType × List (Nat × Nat × Nat × Nat) := (⟨"VersionDesk$Transaction", "heeded", "()I"⟩, prog_2_method_11_code, 1, (some FieldType.int), [])
def mT_layerThatWrote : MethodName × ByteArray × Nat × Option FieldType × List (Nat × Nat × Nat × Nat) := (⟨"VersionDesk$Transaction", "layerThatWrote", "(I)I"⟩, prog_2_method_12_code, 3, (some FieldType.int), [])
def mT_valueIn : MethodName × ByteArray × Nat × Option FieldType × List (Nat × Nat × Nat × Nat) := (⟨"VersionDesk$Transaction", "valueIn", "(II)J"⟩, prog_2_method_13_code, 3, (some FieldType.long), [])
def mT_put : MethodName × ByteArray × Nat × Option FieldType × List (Nat × Nat × Nat × Nat) := (⟨"VersionDesk$Transaction", "put", "(IJ)V"⟩, prog_2_method_14_code, 4, none, [])
def mT_addLayer : MethodName × ByteArray × Nat × Option FieldType × List (Nat × Nat × Nat × Nat) := (⟨"VersionDesk$Transaction", "addLayer", "()V"⟩, prog_2_method_15_code, 1, none, [])
def mT_removeLayer : MethodName × ByteArray × Nat × Option FieldType × List (Nat × Nat × Nat × Nat) := (⟨"VersionDesk$Transaction", "removeLayer", "()V"⟩, prog_2_method_16_code, 1, none, [])
def mT_copyHighestLayerDown : MethodName × ByteArray × Nat × Option FieldType × List (Nat × Nat × Nat × Nat) := (⟨"VersionDesk$Transaction", "copyHighestLayerDown", "()V"⟩, prog_2_method_17_code, 3, none, [])
def mT_putIn : MethodName × ByteArray × Nat × Option FieldType × List (Nat × Nat × Nat × Nat) := (⟨"VersionDesk$Transaction", "putIn", "(IIJ)V"⟩, prog_2_method_18_code, 5, none, [])
def mV_init : MethodName × ByteArray × Nat × Option FieldType × List (Nat × Nat × Nat × Nat) := (⟨"VersionDesk$Versions", "<init>", "()V"⟩, prog_3_method_1_code, 2, none, [])
def mV_size : MethodName × ByteArray × Nat × Option FieldType × List (Nat × Nat × Nat × Nat) := (⟨"VersionDesk$Versions", "size", "()I"⟩, prog_3_method_2_code, 1, (some FieldType.int), [])
def mV_haveRoomFor : MethodName × ByteArray × Nat × Option FieldType × List (Nat × Nat × Nat × Nat) := (⟨"VersionDesk$Versions", "haveRoomFor", "(I)Z"⟩, prog_3_method_3_code, 2, (some FieldType.boolean), [])
def mV_append : MethodName × ByteArray × Nat × Option FieldType × List (Nat × Nat × Nat × Nat) := (⟨"VersionDesk$Versions", "append", "(IIJ)V"⟩, prog_3_method_4_code, 5, none, [])
def mV_know : MethodName × ByteArray × Nat × Option FieldType × List (Nat × Nat × Nat × Nat) := (⟨"VersionDesk$Versions", "know", "(II)Z"⟩, prog_3_method_5_code, 3, (some FieldType.boolean), [])
def mV_valueAt : MethodName × ByteArray × Nat × Option FieldType × List (Nat × Nat × Nat × Nat) := (⟨"VersionDesk$Versions", "valueAt", "(II)J"⟩, prog_3_method_6_code, 4, (some FieldType.long), [])
def mV_cellsWrittenAfter : MethodName × ByteArray × Nat × Option FieldType × List (Nat × Nat × Nat × Nat) := (⟨"VersionDesk$Versions", "cellsWrittenAfter", "(I)I"⟩, prog_3_method_7_code, 4, (some FieldType.int), [])
def mV_removeCovered : MethodName × ByteArray × Nat × Option FieldType × List (Nat × Nat × Nat × Nat) := (⟨"VersionDesk$Versions", "removeCovered", "(I)I"⟩, prog_3_method_8_code, 6, (some FieldType.int), [])
def mV_indexAt : MethodName × ByteArray × Nat × Option FieldType × List (Nat × Nat × Nat × Nat) := (⟨"VersionDesk$Versions", "indexAt", "(II)I"⟩, prog_3_method_9_code, 4, (some FieldType.int), [])
def mV_move : MethodName × ByteArray × Nat × Option FieldType × List (Nat × Nat × Nat × Nat) := (⟨"VersionDesk$Versions", "move", "(II)V"⟩, prog_3_method_10_code, 3, none, [])
def mL_begin : MethodName × ByteArray × Nat × Option FieldType × List (Nat × Nat × Nat × Nat) := (⟨"VersionDeskLaw", "begin", "(LVersionDesk;I[J)I"⟩, method_3_code, 4, (some FieldType.int), [(0, 9, 12, 13), (0, 9, 15, 15)])
def mL_read : MethodName × ByteArray × Nat × Option FieldType × List (Nat × Nat × Nat × Nat) := (⟨"VersionDeskLaw", "read", "(LVersionDesk;II[J)I"⟩, method_4_code, 5, (some FieldType.int), [(0, 9, 12, 21)])
def mL_write : MethodName × ByteArray × Nat × Option FieldType × List (Nat × Nat × Nat × Nat) := (⟨"VersionDeskLaw", "write", "(LVersionDesk;IIJ[J)I"⟩, method_5_code, 7, (some FieldType.int), [(0, 11, 14, 21)])
def mL_push : MethodName × ByteArray × Nat × Option FieldType × List (Nat × Nat × Nat × Nat) := (⟨"VersionDeskLaw", "push", "(LVersionDesk;I[J)I"⟩, method_6_code, 4, (some FieldType.int), [(0, 9, 12, 21), (0, 9, 15, 15)])
def mL_pop : MethodName × ByteArray × Nat × Option FieldType × List (Nat × Nat × Nat × Nat) := (⟨"VersionDeskLaw", "pop", "(LVersionDesk;IZ[J)I"⟩, method_7_code, 5, (some FieldType.int), [(0, 10, 13, 21), (0, 10, 17, 15)])
def mL_commit : MethodName × ByteArray × Nat × Option FieldType × List (Nat × Nat × Nat × Nat) := (⟨"VersionDeskLaw", "commit", "(LVersionDesk;I[J)I"⟩, method_8_code, 4, (some FieldType.int), [(0, 9, 12, 21), (0, 9, 15, 15)])
def mL_drop : MethodName × ByteArray × Nat × Option FieldType × List (Nat × Nat × Nat × Nat) := (⟨"VersionDeskLaw", "drop", "(LVersionDesk;I[J)I"⟩, method_9_code, 4, (some FieldType.int), [(0, 9, 12, 21)])
def mL_spoiled : MethodName × ByteArray × Nat × Option FieldType × List (Nat × Nat × Nat × Nat) := (⟨"VersionDeskLaw", "spoiled", "(LVersionDesk;I[J)I"⟩, method_10_code, 4, (some FieldType.int), [(0, 16, 19, 21)])
def mL_meets : MethodName × ByteArray × Nat × Option FieldType × List (Nat × Nat × Nat × Nat) := (⟨"VersionDeskLaw", "meets", "(LVersionDesk;II[J)I"⟩, method_11_code, 5, (some FieldType.int), [(0, 17, 20, 21)])
def mL_past : MethodName × ByteArray × Nat × Option FieldType × List (Nat × Nat × Nat × Nat) := (⟨"VersionDeskLaw", "past", "(LVersionDesk;II[J)I"⟩, method_12_code, 5, (some FieldType.int), [(0, 9, 12, 21)])
def mL_about : MethodName × ByteArray × Nat × Option FieldType × List (Nat × Nat × Nat × Nat) := (⟨"VersionDeskLaw", "about", "(LVersionDesk;II[J)I"⟩, method_13_code, 5, (some FieldType.int), [(0, 10, 13, 21), (0, 10, 17, 13)])
def mJ_bitCount : MethodName × ByteArray × Nat × Option FieldType × List (Nat × Nat × Nat × Nat) := (⟨"java/lang/Integer", "bitCount", "(I)I"⟩, prog_9_method_49_code, 1, (some FieldType.int), [])
def mJ_min : MethodName × ByteArray × Nat × Option FieldType × List (Nat × Nat × Nat × Nat) := (⟨"java/lang/Math", "min", "(II)I"⟩, prog_10_method_69_code, 2, (some FieldType.int), [])
def mL_law : MethodName × ByteArray × Nat × Option FieldType × List (Nat × Nat × Nat × Nat) := (⟨"VersionDeskLaw", "law", "([I)Z"⟩, code, 8, (some FieldType.boolean), [])
end
section
theorem dD_init_0 : decode mD_init.2.1 0 = .ok (.aload_n 0, 1) := by decide +kernel
theorem dD_init_1 : decode mD_init.2.1 1 = .ok (.invokespecial 1, 3) := by decide +kernel
theorem dD_init_4 : decode mD_init.2.1 4 = .ok (.aload_n 0, 1) := by decide +kernel
theorem dD_init_5 : decode mD_init.2.1 5 = .ok (.bipush 16, 2) := by decide +kernel
theorem dD_init_7 : decode mD_init.2.1 7 = .ok (.anewarray 9, 3) := by decide +kernel
theorem dD_init_10 : decode mD_init.2.1 10 = .ok (.putfield 11, 3) := by decide +kernel
theorem dD_init_13 : decode mD_init.2.1 13 = .ok (.iconst 0, 1) := by decide +kernel
theorem dD_init_14 : decode mD_init.2.1 14 = .ok (.istore_n 1, 1) := by decide +kernel
theorem dD_init_15 : decode mD_init.2.1 15 = .ok (.iload_n 1, 1) := by decide +kernel
theorem dD_init_16 : decode mD_init.2.1 16 = .ok (.bipush 16, 2) := by decide +kernel
theorem dD_init_18 : decode mD_init.2.1 18 = .ok (.if_icmp .ge 22, 3) := by decide +kernel
theorem dD_init_21 : decode mD_init.2.1 21 = .ok (.aload_n 0, 1) := by decide +kernel
theorem dD_init_22 : decode mD_init.2.1 22 = .ok (.getfield 11, 3) := by decide +kernel
theorem dD_init_25 : decode mD_init.2.1 25 = .ok (.iload_n 1, 1) := by decide +kernel
theorem dD_init_26 : decode mD_init.2.1 26 = .ok (.new 9, 3) := by decide +kernel
theorem dD_init_29 : decode mD_init.2.1 29 = .ok (.dup, 1) := by decide +kernel
theorem dD_init_30 : decode mD_init.2.1 30 = .ok (.invokespecial 15, 3) := by decide +kernel
theorem dD_init_33 : decode mD_init.2.1 33 = .ok (.aastore, 1) := by decide +kernel
theorem dD_init_34 : decode mD_init.2.1 34 = .ok (.iinc 1 1, 3) := by decide +kernel
theorem dD_init_37 : decode mD_init.2.1 37 = .ok (.goto (-22), 3) := by decide +kernel
theorem dD_init_40 : decode mD_init.2.1 40 = .ok (.aload_n 0, 1) := by decide +kernel
theorem dD_init_41 : decode mD_init.2.1 41 = .ok (.new 16, 3) := by decide +kernel
theorem dD_init_44 : decode mD_init.2.1 44 = .ok (.dup, 1) := by decide +kernel
theorem dD_init_45 : decode mD_init.2.1 45 = .ok (.invokespecial 18, 3) := by decide +kernel
theorem dD_init_48 : decode mD_init.2.1 48 = .ok (.putfield 19, 3) := by decide +kernel
theorem dD_init_51 : decode mD_init.2.1 51 = .ok (.aload_n 0, 1) := by decide +kernel
theorem dD_init_52 : decode mD_init.2.1 52 = .ok (.iconst 0, 1) := by decide +kernel
theorem dD_init_53 : decode mD_init.2.1 53 = .ok (.putfield 23, 3) := by decide +kernel
theorem dD_init_56 : decode mD_init.2.1 56 = .ok (.return_, 1) := by decide +kernel
theorem dD_begin_0 : decode mD_begin.2.1 0 = .ok (.iload_n 1, 1) := by decide +kernel
theorem dD_begin_1 : decode mD_begin.2.1 1 = .ok (.ifCond .eq 16, 3) := by decide +kernel
theorem dD_begin_4 : decode mD_begin.2.1 4 = .ok (.iload_n 1, 1) := by decide +kernel
theorem dD_begin_5 : decode mD_begin.2.1 5 = .ok (.iconst 1, 1) := by decide +kernel
theorem dD_begin_6 : decode mD_begin.2.1 6 = .ok (.if_icmp .eq 11, 3) := by decide +kernel
theorem dD_begin_9 : decode mD_begin.2.1 9 = .ok (.new 27, 3) := by decide +kernel
theorem dD_begin_12 : decode mD_begin.2.1 12 = .ok (.dup, 1) := by decide +kernel
theorem dD_begin_13 : decode mD_begin.2.1 13 = .ok (.invokespecial 29, 3) := by decide +kernel
theorem dD_begin_16 : decode mD_begin.2.1 16 = .ok (.athrow, 1) := by decide +kernel
theorem dD_begin_17 : decode mD_begin.2.1 17 = .ok (.aload_n 0, 1) := by decide +kernel
theorem dD_begin_18 : decode mD_begin.2.1 18 = .ok (.invokevirtual 30, 3) := by decide +kernel
theorem dD_begin_21 : decode mD_begin.2.1 21 = .ok (.istore_n 2, 1) := by decide +kernel
theorem dD_begin_22 : decode mD_begin.2.1 22 = .ok (.iload_n 2, 1) := by decide +kernel
theorem dD_begin_23 : decode mD_begin.2.1 23 = .ok (.bipush 16, 2) := by decide +kernel
theorem dD_begin_25 : decode mD_begin.2.1 25 = .ok (.if_icmp .lt 11, 3) := by decide +kernel
theorem dD_begin_28 : decode mD_begin.2.1 28 = .ok (.new 34, 3) := by decide +kernel
theorem dD_begin_31 : decode mD_begin.2.1 31 = .ok (.dup, 1) := by decide +kernel
theorem dD_begin_32 : decode mD_begin.2.1 32 = .ok (.invokespecial 36, 3) := by decide +kernel
theorem dD_begin_35 : decode mD_begin.2.1 35 = .ok (.athrow, 1) := by decide +kernel
theorem dD_begin_36 : decode mD_begin.2.1 36 = .ok (.aload_n 0, 1) := by decide +kernel
theorem dD_begin_37 : decode mD_begin.2.1 37 = .ok (.getfield 11, 3) := by decide +kernel
theorem dD_begin_40 : decode mD_begin.2.1 40 = .ok (.iload_n 2, 1) := by decide +kernel
theorem dD_begin_41 : decode mD_begin.2.1 41 = .ok (.aaload, 1) := by decide +kernel
theorem dD_begin_42 : decode mD_begin.2.1 42 = .ok (.aload_n 0, 1) := by decide +kernel
theorem dD_begin_43 : decode mD_begin.2.1 43 = .ok (.getfield 23, 3) := by decide +kernel
theorem dD_begin_46 : decode mD_begin.2.1 46 = .ok (.iload_n 1, 1) := by decide +kernel
theorem dD_begin_47 : decode mD_begin.2.1 47 = .ok (.invokevirtual 37, 3) := by decide +kernel
theorem dD_begin_50 : decode mD_begin.2.1 50 = .ok (.iload_n 2, 1) := by decide +kernel
theorem dD_begin_51 : decode mD_begin.2.1 51 = .ok (.ireturn, 1) := by decide +kernel
theorem dD_read_0 : decode mD_read.2.1 0 = .ok (.aload_n 0, 1) := by decide +kernel
theorem dD_read_1 : decode mD_read.2.1 1 = .ok (.iload_n 1, 1) := by decide +kernel
theorem dD_read_2 : decode mD_read.2.1 2 = .ok (.invokevirtual 41, 3) := by decide +kernel
theorem dD_read_5 : decode mD_read.2.1 5 = .ok (.astore_n 3, 1) := by decide +kernel
theorem dD_read_6 : decode mD_read.2.1 6 = .ok (.iload_n 2, 1) := by decide +kernel
theorem dD_read_7 : decode mD_read.2.1 7 = .ok (.invokestatic 45, 3) := by decide +kernel
theorem dD_read_10 : decode mD_read.2.1 10 = .ok (.aload_n 3, 1) := by decide +kernel
theorem dD_read_11 : decode mD_read.2.1 11 = .ok (.iload_n 2, 1) := by decide +kernel
theorem dD_read_12 : decode mD_read.2.1 12 = .ok (.invokevirtual 49, 3) := by decide +kernel
theorem dD_read_15 : decode mD_read.2.1 15 = .ok (.ifCond .ge 8, 3) := by decide +kernel
theorem dD_read_18 : decode mD_read.2.1 18 = .ok (.aload_n 3, 1) := by decide +kernel
theorem dD_read_19 : decode mD_read.2.1 19 = .ok (.iload_n 2, 1) := by decide +kernel
theorem dD_read_20 : decode mD_read.2.1 20 = .ok (.invokevirtual 53, 3) := by decide +kernel
theorem dD_read_23 : decode mD_read.2.1 23 = .ok (.aload_n 0, 1) := by decide +kernel
theorem dD_read_24 : decode mD_read.2.1 24 = .ok (.aload_n 3, 1) := by decide +kernel
theorem dD_read_25 : decode mD_read.2.1 25 = .ok (.iload_n 2, 1) := by decide +kernel
theorem dD_read_26 : decode mD_read.2.1 26 = .ok (.invokevirtual 56, 3) := by decide +kernel
theorem dD_read_29 : decode mD_read.2.1 29 = .ok (.lreturn, 1) := by decide +kernel
theorem dD_write_0 : decode mD_write.2.1 0 = .ok (.aload_n 0, 1) := by decide +kernel
theorem dD_write_1 : decode mD_write.2.1 1 = .ok (.iload_n 1, 1) := by decide +kernel
theorem dD_write_2 : decode mD_write.2.1 2 = .ok (.invokevirtual 41, 3) := by decide +kernel
theorem dD_write_5 : decode mD_write.2.1 5 = .ok (.astore 5, 2) := by decide +kernel
theorem dD_write_7 : decode mD_write.2.1 7 = .ok (.iload_n 2, 1) := by decide +kernel
theorem dD_write_8 : decode mD_write.2.1 8 = .ok (.invokestatic 45, 3) := by decide +kernel
theorem dD_write_11 : decode mD_write.2.1 11 = .ok (.aload_n 0, 1) := by decide +kernel
theorem dD_write_12 : decode mD_write.2.1 12 = .ok (.aload 5, 2) := by decide +kernel
theorem dD_write_14 : decode mD_write.2.1 14 = .ok (.iload_n 2, 1) := by decide +kernel
theorem dD_write_15 : decode mD_write.2.1 15 = .ok (.invokevirtual 56, 3) := by decide +kernel
theorem dD_write_18 : decode mD_write.2.1 18 = .ok (.lstore 6, 2) := by decide +kernel
theorem dD_write_20 : decode mD_write.2.1 20 = .ok (.aload 5, 2) := by decide +kernel
theorem dD_write_22 : decode mD_write.2.1 22 = .ok (.iload_n 2, 1) := by decide +kernel
theorem dD_write_23 : decode mD_write.2.1 23 = .ok (.lload_n 3, 1) := by decide +kernel
theorem dD_write_24 : decode mD_write.2.1 24 = .ok (.invokevirtual 60, 3) := by decide +kernel
theorem dD_write_27 : decode mD_write.2.1 27 = .ok (.lload 6, 2) := by decide +kernel
theorem dD_write_29 : decode mD_write.2.1 29 = .ok (.lreturn, 1) := by decide +kernel
theorem dD_push_0 : decode mD_push.2.1 0 = .ok (.aload_n 0, 1) := by decide +kernel
theorem dD_push_1 : decode mD_push.2.1 1 = .ok (.iload_n 1, 1) := by decide +kernel
theorem dD_push_2 : decode mD_push.2.1 2 = .ok (.invokevirtual 41, 3) := by decide +kernel
theorem dD_push_5 : decode mD_push.2.1 5 = .ok (.astore_n 2, 1) := by decide +kernel
theorem dD_push_6 : decode mD_push.2.1 6 = .ok (.aload_n 2, 1) := by decide +kernel
theorem dD_push_7 : decode mD_push.2.1 7 = .ok (.invokevirtual 64, 3) := by decide +kernel
theorem dD_push_10 : decode mD_push.2.1 10 = .ok (.bipush 8, 2) := by decide +kernel
theorem dD_push_12 : decode mD_push.2.1 12 = .ok (.if_icmp .lt 11, 3) := by decide +kernel
theorem dD_push_15 : decode mD_push.2.1 15 = .ok (.new 34, 3) := by decide +kernel
theorem dD_push_18 : decode mD_push.2.1 18 = .ok (.dup, 1) := by decide +kernel
theorem dD_push_19 : decode mD_push.2.1 19 = .ok (.invokespecial 36, 3) := by decide +kernel
theorem dD_push_22 : decode mD_push.2.1 22 = .ok (.athrow, 1) := by decide +kernel
theorem dD_push_23 : decode mD_push.2.1 23 = .ok (.aload_n 2, 1) := by decide +kernel
theorem dD_push_24 : decode mD_push.2.1 24 = .ok (.invokevirtual 67, 3) := by decide +kernel
theorem dD_push_27 : decode mD_push.2.1 27 = .ok (.aload_n 2, 1) := by decide +kernel
theorem dD_push_28 : decode mD_push.2.1 28 = .ok (.invokevirtual 64, 3) := by decide +kernel
theorem dD_push_31 : decode mD_push.2.1 31 = .ok (.ireturn, 1) := by decide +kernel
theorem dD_pop_0 : decode mD_pop.2.1 0 = .ok (.aload_n 0, 1) := by decide +kernel
theorem dD_pop_1 : decode mD_pop.2.1 1 = .ok (.iload_n 1, 1) := by decide +kernel
theorem dD_pop_2 : decode mD_pop.2.1 2 = .ok (.invokevirtual 41, 3) := by decide +kernel
theorem dD_pop_5 : decode mD_pop.2.1 5 = .ok (.astore_n 3, 1) := by decide +kernel
theorem dD_pop_6 : decode mD_pop.2.1 6 = .ok (.aload_n 3, 1) := by decide +kernel
theorem dD_pop_7 : decode mD_pop.2.1 7 = .ok (.invokevirtual 64, 3) := by decide +kernel
theorem dD_pop_10 : decode mD_pop.2.1 10 = .ok (.iconst 1, 1) := by decide +kernel
theorem dD_pop_11 : decode mD_pop.2.1 11 = .ok (.if_icmp .gt 11, 3) := by decide +kernel
theorem dD_pop_14 : decode mD_pop.2.1 14 = .ok (.new 34, 3) := by decide +kernel
theorem dD_pop_17 : decode mD_pop.2.1 17 = .ok (.dup, 1) := by decide +kernel
theorem dD_pop_18 : decode mD_pop.2.1 18 = .ok (.invokespecial 36, 3) := by decide +kernel
theorem dD_pop_21 : decode mD_pop.2.1 21 = .ok (.athrow, 1) := by decide +kernel
theorem dD_pop_22 : decode mD_pop.2.1 22 = .ok (.iload_n 2, 1) := by decide +kernel
theorem dD_pop_23 : decode mD_pop.2.1 23 = .ok (.ifCond .eq 7, 3) := by decide +kernel
theorem dD_pop_26 : decode mD_pop.2.1 26 = .ok (.aload_n 3, 1) := by decide +kernel
theorem dD_pop_27 : decode mD_pop.2.1 27 = .ok (.invokevirtual 70, 3) := by decide +kernel
theorem dD_pop_30 : decode mD_pop.2.1 30 = .ok (.aload_n 3, 1) := by decide +kernel
theorem dD_pop_31 : decode mD_pop.2.1 31 = .ok (.invokevirtual 73, 3) := by decide +kernel
theorem dD_pop_34 : decode mD_pop.2.1 34 = .ok (.aload_n 3, 1) := by decide +kernel
theorem dD_pop_35 : decode mD_pop.2.1 35 = .ok (.invokevirtual 64, 3) := by decide +kernel
theorem dD_pop_38 : decode mD_pop.2.1 38 = .ok (.ireturn, 1) := by decide +kernel
theorem dD_commit_0 : decode mD_commit.2.1 0 = .ok (.aload_n 0, 1) := by decide +kernel
theorem dD_commit_1 : decode mD_commit.2.1 1 = .ok (.iload_n 1, 1) := by decide +kernel
theorem dD_commit_2 : decode mD_commit.2.1 2 = .ok (.invokevirtual 41, 3) := by decide +kernel
theorem dD_commit_5 : decode mD_commit.2.1 5 = .ok (.astore_n 2, 1) := by decide +kernel
theorem dD_commit_6 : decode mD_commit.2.1 6 = .ok (.aload_n 0, 1) := by decide +kernel
theorem dD_commit_7 : decode mD_commit.2.1 7 = .ok (.aload_n 2, 1) := by decide +kernel
theorem dD_commit_8 : decode mD_commit.2.1 8 = .ok (.invokevirtual 76, 3) := by decide +kernel
theorem dD_commit_11 : decode mD_commit.2.1 11 = .ok (.ifCond .eq 9, 3) := by decide +kernel
theorem dD_commit_14 : decode mD_commit.2.1 14 = .ok (.aload_n 2, 1) := by decide +kernel
theorem dD_commit_15 : decode mD_commit.2.1 15 = .ok (.invokevirtual 80, 3) := by decide +kernel
theorem dD_commit_18 : decode mD_commit.2.1 18 = .ok (.iconst (-1), 1) := by decide +kernel
theorem dD_commit_19 : decode mD_commit.2.1 19 = .ok (.ireturn, 1) := by decide +kernel
theorem dD_commit_20 : decode mD_commit.2.1 20 = .ok (.aload_n 2, 1) := by decide +kernel
theorem dD_commit_21 : decode mD_commit.2.1 21 = .ok (.invokevirtual 83, 3) := by decide +kernel
theorem dD_commit_24 : decode mD_commit.2.1 24 = .ok (.istore_n 3, 1) := by decide +kernel
theorem dD_commit_25 : decode mD_commit.2.1 25 = .ok (.aload_n 0, 1) := by decide +kernel
theorem dD_commit_26 : decode mD_commit.2.1 26 = .ok (.getfield 19, 3) := by decide +kernel
theorem dD_commit_29 : decode mD_commit.2.1 29 = .ok (.iload_n 3, 1) := by decide +kernel
theorem dD_commit_30 : decode mD_commit.2.1 30 = .ok (.invokestatic 86, 3) := by decide +kernel
theorem dD_commit_33 : decode mD_commit.2.1 33 = .ok (.invokevirtual 91, 3) := by decide +kernel
theorem dD_commit_36 : decode mD_commit.2.1 36 = .ok (.ifCond .ne 11, 3) := by decide +kernel
theorem dD_commit_39 : decode mD_commit.2.1 39 = .ok (.new 34, 3) := by decide +kernel
theorem dD_commit_42 : decode mD_commit.2.1 42 = .ok (.dup, 1) := by decide +kernel
theorem dD_commit_43 : decode mD_commit.2.1 43 = .ok (.invokespecial 36, 3) := by decide +kernel
theorem dD_commit_46 : decode mD_commit.2.1 46 = .ok (.athrow, 1) := by decide +kernel
theorem dD_commit_47 : decode mD_commit.2.1 47 = .ok (.iload_n 3, 1) := by decide +kernel
theorem dD_commit_48 : decode mD_commit.2.1 48 = .ok (.ifCond .eq 19, 3) := by decide +kernel
theorem dD_commit_51 : decode mD_commit.2.1 51 = .ok (.aload_n 0, 1) := by decide +kernel
theorem dD_commit_52 : decode mD_commit.2.1 52 = .ok (.dup, 1) := by decide +kernel
theorem dD_commit_53 : decode mD_commit.2.1 53 = .ok (.getfield 23, 3) := by decide +kernel
theorem dD_commit_56 : decode mD_commit.2.1 56 = .ok (.iconst 1, 1) := by decide +kernel
theorem dD_commit_57 : decode mD_commit.2.1 57 = .ok (.iadd, 1) := by decide +kernel
theorem dD_commit_58 : decode mD_commit.2.1 58 = .ok (.putfield 23, 3) := by decide +kernel
theorem dD_commit_61 : decode mD_commit.2.1 61 = .ok (.aload_n 0, 1) := by decide +kernel
theorem dD_commit_62 : decode mD_commit.2.1 62 = .ok (.aload_n 2, 1) := by decide +kernel
theorem dD_commit_63 : decode mD_commit.2.1 63 = .ok (.iload_n 3, 1) := by decide +kernel
theorem dD_commit_64 : decode mD_commit.2.1 64 = .ok (.invokevirtual 95, 3) := by decide +kernel
theorem dD_commit_67 : decode mD_commit.2.1 67 = .ok (.aload_n 2, 1) := by decide +kernel
theorem dD_commit_68 : decode mD_commit.2.1 68 = .ok (.invokevirtual 80, 3) := by decide +kernel
theorem dD_commit_71 : decode mD_commit.2.1 71 = .ok (.aload_n 0, 1) := by decide +kernel
theorem dD_commit_72 : decode mD_commit.2.1 72 = .ok (.getfield 23, 3) := by decide +kernel
theorem dD_commit_75 : decode mD_commit.2.1 75 = .ok (.ireturn, 1) := by decide +kernel
theorem dD_drop_0 : decode mD_drop.2.1 0 = .ok (.aload_n 0, 1) := by decide +kernel
theorem dD_drop_1 : decode mD_drop.2.1 1 = .ok (.iload_n 1, 1) := by decide +kernel
theorem dD_drop_2 : decode mD_drop.2.1 2 = .ok (.invokevirtual 41, 3) := by decide +kernel
theorem dD_drop_5 : decode mD_drop.2.1 5 = .ok (.astore_n 2, 1) := by decide +kernel
theorem dD_drop_6 : decode mD_drop.2.1 6 = .ok (.aload_n 2, 1) := by decide +kernel
theorem dD_drop_7 : decode mD_drop.2.1 7 = .ok (.invokevirtual 80, 3) := by decide +kernel
theorem dD_drop_10 : decode mD_drop.2.1 10 = .ok (.aload_n 2, 1) := by decide +kernel
theorem dD_drop_11 : decode mD_drop.2.1 11 = .ok (.invokevirtual 83, 3) := by decide +kernel
theorem dD_drop_14 : decode mD_drop.2.1 14 = .ok (.invokestatic 86, 3) := by decide +kernel
theorem dD_drop_17 : decode mD_drop.2.1 17 = .ok (.ireturn, 1) := by decide +kernel
theorem dD_spoiled_0 : decode mD_spoiled.2.1 0 = .ok (.aload_n 0, 1) := by decide +kernel
theorem dD_spoiled_1 : decode mD_spoiled.2.1 1 = .ok (.aload_n 0, 1) := by decide +kernel
theorem dD_spoiled_2 : decode mD_spoiled.2.1 2 = .ok (.iload_n 1, 1) := by decide +kernel
theorem dD_spoiled_3 : decode mD_spoiled.2.1 3 = .ok (.invokevirtual 41, 3) := by decide +kernel
theorem dD_spoiled_6 : decode mD_spoiled.2.1 6 = .ok (.invokevirtual 76, 3) := by decide +kernel
theorem dD_spoiled_9 : decode mD_spoiled.2.1 9 = .ok (.ifCond .eq 7, 3) := by decide +kernel
theorem dD_spoiled_12 : decode mD_spoiled.2.1 12 = .ok (.iconst 1, 1) := by decide +kernel
theorem dD_spoiled_13 : decode mD_spoiled.2.1 13 = .ok (.goto 4, 3) := by decide +kernel
theorem dD_spoiled_16 : decode mD_spoiled.2.1 16 = .ok (.iconst 0, 1) := by decide +kernel
theorem dD_spoiled_17 : decode mD_spoiled.2.1 17 = .ok (.ireturn, 1) := by decide +kernel
theorem dD_meets_0 : decode mD_meets.2.1 0 = .ok (.aload_n 0, 1) := by decide +kernel
theorem dD_meets_1 : decode mD_meets.2.1 1 = .ok (.iload_n 1, 1) := by decide +kernel
theorem dD_meets_2 : decode mD_meets.2.1 2 = .ok (.invokevirtual 41, 3) := by decide +kernel
theorem dD_meets_5 : decode mD_meets.2.1 5 = .ok (.astore_n 3, 1) := by decide +kernel
theorem dD_meets_6 : decode mD_meets.2.1 6 = .ok (.aload_n 0, 1) := by decide +kernel
theorem dD_meets_7 : decode mD_meets.2.1 7 = .ok (.iload_n 2, 1) := by decide +kernel
theorem dD_meets_8 : decode mD_meets.2.1 8 = .ok (.invokevirtual 41, 3) := by decide +kernel
theorem dD_meets_11 : decode mD_meets.2.1 11 = .ok (.astore 4, 2) := by decide +kernel
theorem dD_meets_13 : decode mD_meets.2.1 13 = .ok (.iload_n 1, 1) := by decide +kernel
theorem dD_meets_14 : decode mD_meets.2.1 14 = .ok (.iload_n 2, 1) := by decide +kernel
theorem dD_meets_15 : decode mD_meets.2.1 15 = .ok (.if_icmp .ne 5, 3) := by decide +kernel
theorem dD_meets_18 : decode mD_meets.2.1 18 = .ok (.iconst 0, 1) := by decide +kernel
theorem dD_meets_19 : decode mD_meets.2.1 19 = .ok (.ireturn, 1) := by decide +kernel
theorem dD_meets_20 : decode mD_meets.2.1 20 = .ok (.aload_n 3, 1) := by decide +kernel
theorem dD_meets_21 : decode mD_meets.2.1 21 = .ok (.invokevirtual 83, 3) := by decide +kernel
theorem dD_meets_24 : decode mD_meets.2.1 24 = .ok (.aload 4, 2) := by decide +kernel
theorem dD_meets_26 : decode mD_meets.2.1 26 = .ok (.invokevirtual 99, 3) := by decide +kernel
theorem dD_meets_29 : decode mD_meets.2.1 29 = .ok (.iand, 1) := by decide +kernel
theorem dD_meets_30 : decode mD_meets.2.1 30 = .ok (.istore 5, 2) := by decide +kernel
theorem dD_meets_32 : decode mD_meets.2.1 32 = .ok (.iload 5, 2) := by decide +kernel
theorem dD_meets_34 : decode mD_meets.2.1 34 = .ok (.aload_n 0, 1) := by decide +kernel
theorem dD_meets_35 : decode mD_meets.2.1 35 = .ok (.aload 4, 2) := by decide +kernel
theorem dD_meets_37 : decode mD_meets.2.1 37 = .ok (.invokevirtual 76, 3) := by decide +kernel
theorem dD_meets_40 : decode mD_meets.2.1 40 = .ok (.iconst (-1), 1) := by decide +kernel
theorem dD_meets_41 : decode mD_meets.2.1 41 = .ok (.ixor, 1) := by decide +kernel
theorem dD_meets_42 : decode mD_meets.2.1 42 = .ok (.iand, 1) := by decide +kernel
theorem dD_meets_43 : decode mD_meets.2.1 43 = .ok (.ifCond .eq 7, 3) := by decide +kernel
theorem dD_meets_46 : decode mD_meets.2.1 46 = .ok (.iconst 1, 1) := by decide +kernel
theorem dD_meets_47 : decode mD_meets.2.1 47 = .ok (.goto 4, 3) := by decide +kernel
theorem dD_meets_50 : decode mD_meets.2.1 50 = .ok (.iconst 0, 1) := by decide +kernel
theorem dD_meets_51 : decode mD_meets.2.1 51 = .ok (.ireturn, 1) := by decide +kernel
theorem dD_past_0 : decode mD_past.2.1 0 = .ok (.iload_n 1, 1) := by decide +kernel
theorem dD_past_1 : decode mD_past.2.1 1 = .ok (.invokestatic 45, 3) := by decide +kernel
theorem dD_past_4 : decode mD_past.2.1 4 = .ok (.iload_n 2, 1) := by decide +kernel
theorem dD_past_5 : decode mD_past.2.1 5 = .ok (.ifCond .lt 23, 3) := by decide +kernel
theorem dD_past_8 : decode mD_past.2.1 8 = .ok (.iload_n 2, 1) := by decide +kernel
theorem dD_past_9 : decode mD_past.2.1 9 = .ok (.aload_n 0, 1) := by decide +kernel
theorem dD_past_10 : decode mD_past.2.1 10 = .ok (.getfield 23, 3) := by decide +kernel
theorem dD_past_13 : decode mD_past.2.1 13 = .ok (.if_icmp .gt 15, 3) := by decide +kernel
theorem dD_past_16 : decode mD_past.2.1 16 = .ok (.aload_n 0, 1) := by decide +kernel
theorem dD_past_17 : decode mD_past.2.1 17 = .ok (.getfield 19, 3) := by decide +kernel
theorem dD_past_20 : decode mD_past.2.1 20 = .ok (.iload_n 1, 1) := by decide +kernel
theorem dD_past_21 : decode mD_past.2.1 21 = .ok (.iload_n 2, 1) := by decide +kernel
theorem dD_past_22 : decode mD_past.2.1 22 = .ok (.invokevirtual 102, 3) := by decide +kernel
theorem dD_past_25 : decode mD_past.2.1 25 = .ok (.ifCond .ne 11, 3) := by decide +kernel
theorem dD_past_28 : decode mD_past.2.1 28 = .ok (.new 106, 3) := by decide +kernel
theorem dD_past_31 : decode mD_past.2.1 31 = .ok (.dup, 1) := by decide +kernel
theorem dD_past_32 : decode mD_past.2.1 32 = .ok (.invokespecial 108, 3) := by decide +kernel
theorem dD_past_35 : decode mD_past.2.1 35 = .ok (.athrow, 1) := by decide +kernel
theorem dD_past_36 : decode mD_past.2.1 36 = .ok (.aload_n 0, 1) := by decide +kernel
theorem dD_past_37 : decode mD_past.2.1 37 = .ok (.getfield 19, 3) := by decide +kernel
theorem dD_past_40 : decode mD_past.2.1 40 = .ok (.iload_n 1, 1) := by decide +kernel
theorem dD_past_41 : decode mD_past.2.1 41 = .ok (.iload_n 2, 1) := by decide +kernel
theorem dD_past_42 : decode mD_past.2.1 42 = .ok (.invokevirtual 109, 3) := by decide +kernel
theorem dD_past_45 : decode mD_past.2.1 45 = .ok (.lreturn, 1) := by decide +kernel
theorem dD_forget_0 : decode mD_forget.2.1 0 = .ok (.aload_n 0, 1) := by decide +kernel
theorem dD_forget_1 : decode mD_forget.2.1 1 = .ok (.getfield 19, 3) := by decide +kernel
theorem dD_forget_4 : decode mD_forget.2.1 4 = .ok (.aload_n 0, 1) := by decide +kernel
theorem dD_forget_5 : decode mD_forget.2.1 5 = .ok (.invokevirtual 113, 3) := by decide +kernel
theorem dD_forget_8 : decode mD_forget.2.1 8 = .ok (.invokevirtual 116, 3) := by decide +kernel
theorem dD_forget_11 : decode mD_forget.2.1 11 = .ok (.ireturn, 1) := by decide +kernel
theorem dD_about_0 : decode mD_about.2.1 0 = .ok (.aload_n 0, 1) := by decide +kernel
theorem dD_about_1 : decode mD_about.2.1 1 = .ok (.iload_n 1, 1) := by decide +kernel
theorem dD_about_2 : decode mD_about.2.1 2 = .ok (.invokevirtual 41, 3) := by decide +kernel
theorem dD_about_5 : decode mD_about.2.1 5 = .ok (.astore_n 3, 1) := by decide +kernel
theorem dD_about_6 : decode mD_about.2.1 6 = .ok (.iload_n 2, 1) := by decide +kernel
theorem dD_about_7 : decode mD_about.2.1 7 = .ok (.tableswitch 77 0 5 #[37, 42, 47, 52, 60, 68], 37) := by decide +kernel
theorem dD_about_44 : decode mD_about.2.1 44 = .ok (.aload_n 3, 1) := by decide +kernel
theorem dD_about_45 : decode mD_about.2.1 45 = .ok (.invokevirtual 119, 3) := by decide +kernel
theorem dD_about_48 : decode mD_about.2.1 48 = .ok (.ireturn, 1) := by decide +kernel
theorem dD_about_49 : decode mD_about.2.1 49 = .ok (.aload_n 3, 1) := by decide +kernel
theorem dD_about_50 : decode mD_about.2.1 50 = .ok (.invokevirtual 122, 3) := by decide +kernel
theorem dD_about_53 : decode mD_about.2.1 53 = .ok (.ireturn, 1) := by decide +kernel
theorem dD_about_54 : decode mD_about.2.1 54 = .ok (.aload_n 3, 1) := by decide +kernel
theorem dD_about_55 : decode mD_about.2.1 55 = .ok (.invokevirtual 64, 3) := by decide +kernel
theorem dD_about_58 : decode mD_about.2.1 58 = .ok (.ireturn, 1) := by decide +kernel
theorem dD_about_59 : decode mD_about.2.1 59 = .ok (.aload_n 3, 1) := by decide +kernel
theorem dD_about_60 : decode mD_about.2.1 60 = .ok (.invokevirtual 83, 3) := by decide +kernel
theorem dD_about_63 : decode mD_about.2.1 63 = .ok (.invokestatic 86, 3) := by decide +kernel
theorem dD_about_66 : decode mD_about.2.1 66 = .ok (.ireturn, 1) := by decide +kernel
theorem dD_about_67 : decode mD_about.2.1 67 = .ok (.aload_n 3, 1) := by decide +kernel
theorem dD_about_68 : decode mD_about.2.1 68 = .ok (.invokevirtual 125, 3) := by decide +kernel
theorem dD_about_71 : decode mD_about.2.1 71 = .ok (.invokestatic 86, 3) := by decide +kernel
theorem dD_about_74 : decode mD_about.2.1 74 = .ok (.ireturn, 1) := by decide +kernel
theorem dD_about_75 : decode mD_about.2.1 75 = .ok (.aload_n 0, 1) := by decide +kernel
theorem dD_about_76 : decode mD_about.2.1 76 = .ok (.aload_n 3, 1) := by decide +kernel
theorem dD_about_77 : decode mD_about.2.1 77 = .ok (.invokevirtual 76, 3) := by decide +kernel
theorem dD_about_80 : decode mD_about.2.1 80 = .ok (.invokestatic 86, 3) := by decide +kernel
theorem dD_about_83 : decode mD_about.2.1 83 = .ok (.ireturn, 1) := by decide +kernel
theorem dD_about_84 : decode mD_about.2.1 84 = .ok (.new 27, 3) := by decide +kernel
theorem dD_about_87 : decode mD_about.2.1 87 = .ok (.dup, 1) := by decide +kernel
theorem dD_about_88 : decode mD_about.2.1 88 = .ok (.invokespecial 29, 3) := by decide +kernel
theorem dD_about_91 : decode mD_about.2.1 91 = .ok (.athrow, 1) := by decide +kernel
theorem dD_count_0 : decode mD_count.2.1 0 = .ok (.iload_n 1, 1) := by decide +kernel
theorem dD_count_1 : decode mD_count.2.1 1 = .ok (.tableswitch 54 0 3 #[31, 36, 41, 49], 31) := by decide +kernel
theorem dD_count_32 : decode mD_count.2.1 32 = .ok (.aload_n 0, 1) := by decide +kernel
theorem dD_count_33 : decode mD_count.2.1 33 = .ok (.getfield 23, 3) := by decide +kernel
theorem dD_count_36 : decode mD_count.2.1 36 = .ok (.ireturn, 1) := by decide +kernel
theorem dD_count_37 : decode mD_count.2.1 37 = .ok (.aload_n 0, 1) := by decide +kernel
theorem dD_count_38 : decode mD_count.2.1 38 = .ok (.invokevirtual 128, 3) := by decide +kernel
theorem dD_count_41 : decode mD_count.2.1 41 = .ok (.ireturn, 1) := by decide +kernel
theorem dD_count_42 : decode mD_count.2.1 42 = .ok (.aload_n 0, 1) := by decide +kernel
theorem dD_count_43 : decode mD_count.2.1 43 = .ok (.getfield 19, 3) := by decide +kernel
theorem dD_count_46 : decode mD_count.2.1 46 = .ok (.invokevirtual 131, 3) := by decide +kernel
theorem dD_count_49 : decode mD_count.2.1 49 = .ok (.ireturn, 1) := by decide +kernel
theorem dD_count_50 : decode mD_count.2.1 50 = .ok (.aload_n 0, 1) := by decide +kernel
theorem dD_count_51 : decode mD_count.2.1 51 = .ok (.invokevirtual 113, 3) := by decide +kernel
theorem dD_count_54 : decode mD_count.2.1 54 = .ok (.ireturn, 1) := by decide +kernel
theorem dD_count_55 : decode mD_count.2.1 55 = .ok (.iconst (-1), 1) := by decide +kernel
theorem dD_count_56 : decode mD_count.2.1 56 = .ok (.ireturn, 1) := by decide +kernel
theorem dD_openOne_0 : decode mD_openOne.2.1 0 = .ok (.iload_n 1, 1) := by decide +kernel
theorem dD_openOne_1 : decode mD_openOne.2.1 1 = .ok (.ifCond .lt 21, 3) := by decide +kernel
theorem dD_openOne_4 : decode mD_openOne.2.1 4 = .ok (.iload_n 1, 1) := by decide +kernel
theorem dD_openOne_5 : decode mD_openOne.2.1 5 = .ok (.bipush 16, 2) := by decide +kernel
theorem dD_openOne_7 : decode mD_openOne.2.1 7 = .ok (.if_icmp .ge 15, 3) := by decide +kernel
theorem dD_openOne_10 : decode mD_openOne.2.1 10 = .ok (.aload_n 0, 1) := by decide +kernel
theorem dD_openOne_11 : decode mD_openOne.2.1 11 = .ok (.getfield 11, 3) := by decide +kernel
theorem dD_openOne_14 : decode mD_openOne.2.1 14 = .ok (.iload_n 1, 1) := by decide +kernel
theorem dD_openOne_15 : decode mD_openOne.2.1 15 = .ok (.aaload, 1) := by decide +kernel
theorem dD_openOne_16 : decode mD_openOne.2.1 16 = .ok (.invokevirtual 134, 3) := by decide +kernel
theorem dD_openOne_19 : decode mD_openOne.2.1 19 = .ok (.ifCond .ne 11, 3) := by decide +kernel
theorem dD_openOne_22 : decode mD_openOne.2.1 22 = .ok (.new 106, 3) := by decide +kernel
theorem dD_openOne_25 : decode mD_openOne.2.1 25 = .ok (.dup, 1) := by decide +kernel
theorem dD_openOne_26 : decode mD_openOne.2.1 26 = .ok (.invokespecial 108, 3) := by decide +kernel
theorem dD_openOne_29 : decode mD_openOne.2.1 29 = .ok (.athrow, 1) := by decide +kernel
theorem dD_openOne_30 : decode mD_openOne.2.1 30 = .ok (.aload_n 0, 1) := by decide +kernel
theorem dD_openOne_31 : decode mD_openOne.2.1 31 = .ok (.getfield 11, 3) := by decide +kernel
theorem dD_openOne_34 : decode mD_openOne.2.1 34 = .ok (.iload_n 1, 1) := by decide +kernel
theorem dD_openOne_35 : decode mD_openOne.2.1 35 = .ok (.aaload, 1) := by decide +kernel
theorem dD_openOne_36 : decode mD_openOne.2.1 36 = .ok (.areturn, 1) := by decide +kernel
theorem dD_requireCell_0 : decode mD_requireCell.2.1 0 = .ok (.iload_n 0, 1) := by decide +kernel
theorem dD_requireCell_1 : decode mD_requireCell.2.1 1 = .ok (.ifCond .lt 9, 3) := by decide +kernel
theorem dD_requireCell_4 : decode mD_requireCell.2.1 4 = .ok (.iload_n 0, 1) := by decide +kernel
theorem dD_requireCell_5 : decode mD_requireCell.2.1 5 = .ok (.bipush 16, 2) := by decide +kernel
theorem dD_requireCell_7 : decode mD_requireCell.2.1 7 = .ok (.if_icmp .lt 11, 3) := by decide +kernel
theorem dD_requireCell_10 : decode mD_requireCell.2.1 10 = .ok (.new 106, 3) := by decide +kernel
theorem dD_requireCell_13 : decode mD_requireCell.2.1 13 = .ok (.dup, 1) := by decide +kernel
theorem dD_requireCell_14 : decode mD_requireCell.2.1 14 = .ok (.invokespecial 108, 3) := by decide +kernel
theorem dD_requireCell_17 : decode mD_requireCell.2.1 17 = .ok (.athrow, 1) := by decide +kernel
theorem dD_requireCell_18 : decode mD_requireCell.2.1 18 = .ok (.return_, 1) := by decide +kernel
theorem dD_leastNotOpen_0 : decode mD_leastNotOpen.2.1 0 = .ok (.iconst 0, 1) := by decide +kernel
theorem dD_leastNotOpen_1 : decode mD_leastNotOpen.2.1 1 = .ok (.istore_n 1, 1) := by decide +kernel
theorem dD_leastNotOpen_2 : decode mD_leastNotOpen.2.1 2 = .ok (.iload_n 1, 1) := by decide +kernel
theorem dD_leastNotOpen_3 : decode mD_leastNotOpen.2.1 3 = .ok (.bipush 16, 2) := by decide +kernel
theorem dD_leastNotOpen_5 : decode mD_leastNotOpen.2.1 5 = .ok (.if_icmp .ge 21, 3) := by decide +kernel
theorem dD_leastNotOpen_8 : decode mD_leastNotOpen.2.1 8 = .ok (.aload_n 0, 1) := by decide +kernel
theorem dD_leastNotOpen_9 : decode mD_leastNotOpen.2.1 9 = .ok (.getfield 11, 3) := by decide +kernel
theorem dD_leastNotOpen_12 : decode mD_leastNotOpen.2.1 12 = .ok (.iload_n 1, 1) := by decide +kernel
theorem dD_leastNotOpen_13 : decode mD_leastNotOpen.2.1 13 = .ok (.aaload, 1) := by decide +kernel
theorem dD_leastNotOpen_14 : decode mD_leastNotOpen.2.1 14 = .ok (.invokevirtual 134, 3) := by decide +kernel
theorem dD_leastNotOpen_17 : decode mD_leastNotOpen.2.1 17 = .ok (.ifCond .eq 9, 3) := by decide +kernel
theorem dD_leastNotOpen_20 : decode mD_leastNotOpen.2.1 20 = .ok (.iinc 1 1, 3) := by decide +kernel
theorem dD_leastNotOpen_23 : decode mD_leastNotOpen.2.1 23 = .ok (.goto (-21), 3) := by decide +kernel
theorem dD_leastNotOpen_26 : decode mD_leastNotOpen.2.1 26 = .ok (.iload_n 1, 1) := by decide +kernel
theorem dD_leastNotOpen_27 : decode mD_leastNotOpen.2.1 27 = .ok (.ireturn, 1) := by decide +kernel
theorem dD_howManyOpen_0 : decode mD_howManyOpen.2.1 0 = .ok (.iconst 0, 1) := by decide +kernel
theorem dD_howManyOpen_1 : decode mD_howManyOpen.2.1 1 = .ok (.istore_n 1, 1) := by decide +kernel
theorem dD_howManyOpen_2 : decode mD_howManyOpen.2.1 2 = .ok (.iconst 0, 1) := by decide +kernel
theorem dD_howManyOpen_3 : decode mD_howManyOpen.2.1 3 = .ok (.istore_n 2, 1) := by decide +kernel
theorem dD_howManyOpen_4 : decode mD_howManyOpen.2.1 4 = .ok (.iload_n 2, 1) := by decide +kernel
theorem dD_howManyOpen_5 : decode mD_howManyOpen.2.1 5 = .ok (.bipush 16, 2) := by decide +kernel
theorem dD_howManyOpen_7 : decode mD_howManyOpen.2.1 7 = .ok (.if_icmp .ge 24, 3) := by decide +kernel
theorem dD_howManyOpen_10 : decode mD_howManyOpen.2.1 10 = .ok (.aload_n 0, 1) := by decide +kernel
theorem dD_howManyOpen_11 : decode mD_howManyOpen.2.1 11 = .ok (.getfield 11, 3) := by decide +kernel
theorem dD_howManyOpen_14 : decode mD_howManyOpen.2.1 14 = .ok (.iload_n 2, 1) := by decide +kernel
theorem dD_howManyOpen_15 : decode mD_howManyOpen.2.1 15 = .ok (.aaload, 1) := by decide +kernel
theorem dD_howManyOpen_16 : decode mD_howManyOpen.2.1 16 = .ok (.invokevirtual 134, 3) := by decide +kernel
theorem dD_howManyOpen_19 : decode mD_howManyOpen.2.1 19 = .ok (.ifCond .eq 6, 3) := by decide +kernel
theorem dD_howManyOpen_22 : decode mD_howManyOpen.2.1 22 = .ok (.iinc 1 1, 3) := by decide +kernel
theorem dD_howManyOpen_25 : decode mD_howManyOpen.2.1 25 = .ok (.iinc 2 1, 3) := by decide +kernel
theorem dD_howManyOpen_28 : decode mD_howManyOpen.2.1 28 = .ok (.goto (-24), 3) := by decide +kernel
theorem dD_howManyOpen_31 : decode mD_howManyOpen.2.1 31 = .ok (.iload_n 1, 1) := by decide +kernel
theorem dD_howManyOpen_32 : decode mD_howManyOpen.2.1 32 = .ok (.ireturn, 1) := by decide +kernel
theorem dD_floor_0 : decode mD_floor.2.1 0 = .ok (.aload_n 0, 1) := by decide +kernel
theorem dD_floor_1 : decode mD_floor.2.1 1 = .ok (.getfield 23, 3) := by decide +kernel
theorem dD_floor_4 : decode mD_floor.2.1 4 = .ok (.istore_n 1, 1) := by decide +kernel
theorem dD_floor_5 : decode mD_floor.2.1 5 = .ok (.iconst 0, 1) := by decide +kernel
theorem dD_floor_6 : decode mD_floor.2.1 6 = .ok (.istore_n 2, 1) := by decide +kernel
theorem dD_floor_7 : decode mD_floor.2.1 7 = .ok (.iload_n 2, 1) := by decide +kernel
theorem dD_floor_8 : decode mD_floor.2.1 8 = .ok (.bipush 16, 2) := by decide +kernel
theorem dD_floor_10 : decode mD_floor.2.1 10 = .ok (.if_icmp .ge 35, 3) := by decide +kernel
theorem dD_floor_13 : decode mD_floor.2.1 13 = .ok (.aload_n 0, 1) := by decide +kernel
theorem dD_floor_14 : decode mD_floor.2.1 14 = .ok (.getfield 11, 3) := by decide +kernel
theorem dD_floor_17 : decode mD_floor.2.1 17 = .ok (.iload_n 2, 1) := by decide +kernel
theorem dD_floor_18 : decode mD_floor.2.1 18 = .ok (.aaload, 1) := by decide +kernel
theorem dD_floor_19 : decode mD_floor.2.1 19 = .ok (.invokevirtual 134, 3) := by decide +kernel
theorem dD_floor_22 : decode mD_floor.2.1 22 = .ok (.ifCond .eq 17, 3) := by decide +kernel
theorem dD_floor_25 : decode mD_floor.2.1 25 = .ok (.iload_n 1, 1) := by decide +kernel
theorem dD_floor_26 : decode mD_floor.2.1 26 = .ok (.aload_n 0, 1) := by decide +kernel
theorem dD_floor_27 : decode mD_floor.2.1 27 = .ok (.getfield 11, 3) := by decide +kernel
theorem dD_floor_30 : decode mD_floor.2.1 30 = .ok (.iload_n 2, 1) := by decide +kernel
theorem dD_floor_31 : decode mD_floor.2.1 31 = .ok (.aaload, 1) := by decide +kernel
theorem dD_floor_32 : decode mD_floor.2.1 32 = .ok (.invokevirtual 119, 3) := by decide +kernel
theorem dD_floor_35 : decode mD_floor.2.1 35 = .ok (.invokestatic 138, 3) := by decide +kernel
theorem dD_floor_38 : decode mD_floor.2.1 38 = .ok (.istore_n 1, 1) := by decide +kernel
theorem dD_floor_39 : decode mD_floor.2.1 39 = .ok (.iinc 2 1, 3) := by decide +kernel
theorem dD_floor_42 : decode mD_floor.2.1 42 = .ok (.goto (-35), 3) := by decide +kernel
theorem dD_floor_45 : decode mD_floor.2.1 45 = .ok (.iload_n 1, 1) := by decide +kernel
theorem dD_floor_46 : decode mD_floor.2.1 46 = .ok (.ireturn, 1) := by decide +kernel
theorem dD_reading_0 : decode mD_reading.2.1 0 = .ok (.aload_n 1, 1) := by decide +kernel
theorem dD_reading_1 : decode mD_reading.2.1 1 = .ok (.iload_n 2, 1) := by decide +kernel
theorem dD_reading_2 : decode mD_reading.2.1 2 = .ok (.invokevirtual 49, 3) := by decide +kernel
theorem dD_reading_5 : decode mD_reading.2.1 5 = .ok (.istore_n 3, 1) := by decide +kernel
theorem dD_reading_6 : decode mD_reading.2.1 6 = .ok (.iload_n 3, 1) := by decide +kernel
theorem dD_reading_7 : decode mD_reading.2.1 7 = .ok (.ifCond .lt 10, 3) := by decide +kernel
theorem dD_reading_10 : decode mD_reading.2.1 10 = .ok (.aload_n 1, 1) := by decide +kernel
theorem dD_reading_11 : decode mD_reading.2.1 11 = .ok (.iload_n 3, 1) := by decide +kernel
end
section
theorem dD_reading_12 : decode mD_reading.2.1 12 = .ok (.iload_n 2, 1) := by decide +kernel
theorem dD_reading_13 : decode mD_reading.2.1 13 = .ok (.invokevirtual 144, 3) := by decide +kernel
theorem dD_reading_16 : decode mD_reading.2.1 16 = .ok (.lreturn, 1) := by decide +kernel
theorem dD_reading_17 : decode mD_reading.2.1 17 = .ok (.aload_n 0, 1) := by decide +kernel
theorem dD_reading_18 : decode mD_reading.2.1 18 = .ok (.getfield 19, 3) := by decide +kernel
theorem dD_reading_21 : decode mD_reading.2.1 21 = .ok (.iload_n 2, 1) := by decide +kernel
theorem dD_reading_22 : decode mD_reading.2.1 22 = .ok (.aload_n 1, 1) := by decide +kernel
theorem dD_reading_23 : decode mD_reading.2.1 23 = .ok (.invokevirtual 119, 3) := by decide +kernel
theorem dD_reading_26 : decode mD_reading.2.1 26 = .ok (.invokevirtual 109, 3) := by decide +kernel
theorem dD_reading_29 : decode mD_reading.2.1 29 = .ok (.lreturn, 1) := by decide +kernel
theorem dD_spoiledCells_0 : decode mD_spoiledCells.2.1 0 = .ok (.aload_n 1, 1) := by decide +kernel
theorem dD_spoiledCells_1 : decode mD_spoiledCells.2.1 1 = .ok (.invokevirtual 99, 3) := by decide +kernel
theorem dD_spoiledCells_4 : decode mD_spoiledCells.2.1 4 = .ok (.aload_n 0, 1) := by decide +kernel
theorem dD_spoiledCells_5 : decode mD_spoiledCells.2.1 5 = .ok (.getfield 19, 3) := by decide +kernel
theorem dD_spoiledCells_8 : decode mD_spoiledCells.2.1 8 = .ok (.aload_n 1, 1) := by decide +kernel
theorem dD_spoiledCells_9 : decode mD_spoiledCells.2.1 9 = .ok (.invokevirtual 119, 3) := by decide +kernel
theorem dD_spoiledCells_12 : decode mD_spoiledCells.2.1 12 = .ok (.invokevirtual 147, 3) := by decide +kernel
theorem dD_spoiledCells_15 : decode mD_spoiledCells.2.1 15 = .ok (.iand, 1) := by decide +kernel
theorem dD_spoiledCells_16 : decode mD_spoiledCells.2.1 16 = .ok (.ireturn, 1) := by decide +kernel
theorem dD_keepVersions_0 : decode mD_keepVersions.2.1 0 = .ok (.iconst 0, 1) := by decide +kernel
theorem dD_keepVersions_1 : decode mD_keepVersions.2.1 1 = .ok (.istore_n 3, 1) := by decide +kernel
theorem dD_keepVersions_2 : decode mD_keepVersions.2.1 2 = .ok (.iload_n 3, 1) := by decide +kernel
theorem dD_keepVersions_3 : decode mD_keepVersions.2.1 3 = .ok (.bipush 16, 2) := by decide +kernel
theorem dD_keepVersions_5 : decode mD_keepVersions.2.1 5 = .ok (.if_icmp .ge 35, 3) := by decide +kernel
theorem dD_keepVersions_8 : decode mD_keepVersions.2.1 8 = .ok (.iload_n 2, 1) := by decide +kernel
theorem dD_keepVersions_9 : decode mD_keepVersions.2.1 9 = .ok (.iconst 1, 1) := by decide +kernel
theorem dD_keepVersions_10 : decode mD_keepVersions.2.1 10 = .ok (.iload_n 3, 1) := by decide +kernel
theorem dD_keepVersions_11 : decode mD_keepVersions.2.1 11 = .ok (.ishl, 1) := by decide +kernel
theorem dD_keepVersions_12 : decode mD_keepVersions.2.1 12 = .ok (.iand, 1) := by decide +kernel
theorem dD_keepVersions_13 : decode mD_keepVersions.2.1 13 = .ok (.ifCond .eq 21, 3) := by decide +kernel
theorem dD_keepVersions_16 : decode mD_keepVersions.2.1 16 = .ok (.aload_n 0, 1) := by decide +kernel
theorem dD_keepVersions_17 : decode mD_keepVersions.2.1 17 = .ok (.getfield 19, 3) := by decide +kernel
theorem dD_keepVersions_20 : decode mD_keepVersions.2.1 20 = .ok (.iload_n 3, 1) := by decide +kernel
theorem dD_keepVersions_21 : decode mD_keepVersions.2.1 21 = .ok (.aload_n 0, 1) := by decide +kernel
theorem dD_keepVersions_22 : decode mD_keepVersions.2.1 22 = .ok (.getfield 23, 3) := by decide +kernel
theorem dD_keepVersions_25 : decode mD_keepVersions.2.1 25 = .ok (.aload_n 0, 1) := by decide +kernel
theorem dD_keepVersions_26 : decode mD_keepVersions.2.1 26 = .ok (.aload_n 1, 1) := by decide +kernel
theorem dD_keepVersions_27 : decode mD_keepVersions.2.1 27 = .ok (.iload_n 3, 1) := by decide +kernel
theorem dD_keepVersions_28 : decode mD_keepVersions.2.1 28 = .ok (.invokevirtual 56, 3) := by decide +kernel
theorem dD_keepVersions_31 : decode mD_keepVersions.2.1 31 = .ok (.invokevirtual 150, 3) := by decide +kernel
theorem dD_keepVersions_34 : decode mD_keepVersions.2.1 34 = .ok (.iinc 3 1, 3) := by decide +kernel
theorem dD_keepVersions_37 : decode mD_keepVersions.2.1 37 = .ok (.goto (-35), 3) := by decide +kernel
theorem dD_keepVersions_40 : decode mD_keepVersions.2.1 40 = .ok (.return_, 1) := by decide +kernel
end
section
theorem dT_init_0 : decode mT_init.2.1 0 = .ok (.aload_n 0, 1) := by decide +kernel
theorem dT_init_1 : decode mT_init.2.1 1 = .ok (.invokespecial 3, 3) := by decide +kernel
theorem dT_init_4 : decode mT_init.2.1 4 = .ok (.aload_n 0, 1) := by decide +kernel
theorem dT_init_5 : decode mT_init.2.1 5 = .ok (.iconst 0, 1) := by decide +kernel
theorem dT_init_6 : decode mT_init.2.1 6 = .ok (.putfield 9, 3) := by decide +kernel
theorem dT_init_9 : decode mT_init.2.1 9 = .ok (.aload_n 0, 1) := by decide +kernel
theorem dT_init_10 : decode mT_init.2.1 10 = .ok (.iconst 1, 1) := by decide +kernel
theorem dT_init_11 : decode mT_init.2.1 11 = .ok (.putfield 15, 3) := by decide +kernel
theorem dT_init_14 : decode mT_init.2.1 14 = .ok (.aload_n 0, 1) := by decide +kernel
theorem dT_init_15 : decode mT_init.2.1 15 = .ok (.bipush 8, 2) := by decide +kernel
theorem dT_init_17 : decode mT_init.2.1 17 = .ok (.newarray .int, 2) := by decide +kernel
theorem dT_init_19 : decode mT_init.2.1 19 = .ok (.putfield 19, 3) := by decide +kernel
theorem dT_init_22 : decode mT_init.2.1 22 = .ok (.aload_n 0, 1) := by decide +kernel
theorem dT_init_23 : decode mT_init.2.1 23 = .ok (.bipush 8, 2) := by decide +kernel
theorem dT_init_25 : decode mT_init.2.1 25 = .ok (.bipush 16, 2) := by decide +kernel
theorem dT_init_27 : decode mT_init.2.1 27 = .ok (.multianewarray 23 2, 4) := by decide +kernel
theorem dT_init_31 : decode mT_init.2.1 31 = .ok (.putfield 25, 3) := by decide +kernel
theorem dT_init_34 : decode mT_init.2.1 34 = .ok (.return_, 1) := by decide +kernel
theorem dT_open_0 : decode mT_open.2.1 0 = .ok (.aload_n 0, 1) := by decide +kernel
theorem dT_open_1 : decode mT_open.2.1 1 = .ok (.iconst 1, 1) := by decide +kernel
theorem dT_open_2 : decode mT_open.2.1 2 = .ok (.putfield 9, 3) := by decide +kernel
theorem dT_open_5 : decode mT_open.2.1 5 = .ok (.aload_n 0, 1) := by decide +kernel
theorem dT_open_6 : decode mT_open.2.1 6 = .ok (.iload_n 1, 1) := by decide +kernel
theorem dT_open_7 : decode mT_open.2.1 7 = .ok (.putfield 28, 3) := by decide +kernel
theorem dT_open_10 : decode mT_open.2.1 10 = .ok (.aload_n 0, 1) := by decide +kernel
theorem dT_open_11 : decode mT_open.2.1 11 = .ok (.iload_n 2, 1) := by decide +kernel
theorem dT_open_12 : decode mT_open.2.1 12 = .ok (.putfield 31, 3) := by decide +kernel
theorem dT_open_15 : decode mT_open.2.1 15 = .ok (.aload_n 0, 1) := by decide +kernel
theorem dT_open_16 : decode mT_open.2.1 16 = .ok (.iconst 1, 1) := by decide +kernel
theorem dT_open_17 : decode mT_open.2.1 17 = .ok (.putfield 15, 3) := by decide +kernel
theorem dT_open_20 : decode mT_open.2.1 20 = .ok (.aload_n 0, 1) := by decide +kernel
theorem dT_open_21 : decode mT_open.2.1 21 = .ok (.iconst 0, 1) := by decide +kernel
theorem dT_open_22 : decode mT_open.2.1 22 = .ok (.putfield 34, 3) := by decide +kernel
theorem dT_open_25 : decode mT_open.2.1 25 = .ok (.aload_n 0, 1) := by decide +kernel
theorem dT_open_26 : decode mT_open.2.1 26 = .ok (.getfield 19, 3) := by decide +kernel
theorem dT_open_29 : decode mT_open.2.1 29 = .ok (.iconst 0, 1) := by decide +kernel
theorem dT_open_30 : decode mT_open.2.1 30 = .ok (.iconst 0, 1) := by decide +kernel
theorem dT_open_31 : decode mT_open.2.1 31 = .ok (.iastore, 1) := by decide +kernel
theorem dT_open_32 : decode mT_open.2.1 32 = .ok (.return_, 1) := by decide +kernel
theorem dT_close_0 : decode mT_close.2.1 0 = .ok (.aload_n 0, 1) := by decide +kernel
theorem dT_close_1 : decode mT_close.2.1 1 = .ok (.iconst 0, 1) := by decide +kernel
theorem dT_close_2 : decode mT_close.2.1 2 = .ok (.putfield 9, 3) := by decide +kernel
theorem dT_close_5 : decode mT_close.2.1 5 = .ok (.return_, 1) := by decide +kernel
theorem dT_isOpen_0 : decode mT_isOpen.2.1 0 = .ok (.aload_n 0, 1) := by decide +kernel
theorem dT_isOpen_1 : decode mT_isOpen.2.1 1 = .ok (.getfield 9, 3) := by decide +kernel
theorem dT_isOpen_4 : decode mT_isOpen.2.1 4 = .ok (.ireturn, 1) := by decide +kernel
theorem dT_start_0 : decode mT_start.2.1 0 = .ok (.aload_n 0, 1) := by decide +kernel
theorem dT_start_1 : decode mT_start.2.1 1 = .ok (.getfield 28, 3) := by decide +kernel
theorem dT_start_4 : decode mT_start.2.1 4 = .ok (.ireturn, 1) := by decide +kernel
theorem dT_kind_0 : decode mT_kind.2.1 0 = .ok (.aload_n 0, 1) := by decide +kernel
theorem dT_kind_1 : decode mT_kind.2.1 1 = .ok (.getfield 31, 3) := by decide +kernel
theorem dT_kind_4 : decode mT_kind.2.1 4 = .ok (.ireturn, 1) := by decide +kernel
theorem dT_layers_0 : decode mT_layers.2.1 0 = .ok (.aload_n 0, 1) := by decide +kernel
theorem dT_layers_1 : decode mT_layers.2.1 1 = .ok (.getfield 15, 3) := by decide +kernel
theorem dT_layers_4 : decode mT_layers.2.1 4 = .ok (.ireturn, 1) := by decide +kernel
theorem dT_seen_0 : decode mT_seen.2.1 0 = .ok (.aload_n 0, 1) := by decide +kernel
theorem dT_seen_1 : decode mT_seen.2.1 1 = .ok (.getfield 34, 3) := by decide +kernel
theorem dT_seen_4 : decode mT_seen.2.1 4 = .ok (.ireturn, 1) := by decide +kernel
theorem dT_see_0 : decode mT_see.2.1 0 = .ok (.aload_n 0, 1) := by decide +kernel
theorem dT_see_1 : decode mT_see.2.1 1 = .ok (.dup, 1) := by decide +kernel
theorem dT_see_2 : decode mT_see.2.1 2 = .ok (.getfield 34, 3) := by decide +kernel
theorem dT_see_5 : decode mT_see.2.1 5 = .ok (.iconst 1, 1) := by decide +kernel
theorem dT_see_6 : decode mT_see.2.1 6 = .ok (.iload_n 1, 1) := by decide +kernel
theorem dT_see_7 : decode mT_see.2.1 7 = .ok (.ishl, 1) := by decide +kernel
theorem dT_see_8 : decode mT_see.2.1 8 = .ok (.ior, 1) := by decide +kernel
theorem dT_see_9 : decode mT_see.2.1 9 = .ok (.putfield 34, 3) := by decide +kernel
theorem dT_see_12 : decode mT_see.2.1 12 = .ok (.return_, 1) := by decide +kernel
theorem dT_written_0 : decode mT_written.2.1 0 = .ok (.iconst 0, 1) := by decide +kernel
theorem dT_written_1 : decode mT_written.2.1 1 = .ok (.istore_n 1, 1) := by decide +kernel
theorem dT_written_2 : decode mT_written.2.1 2 = .ok (.iconst 0, 1) := by decide +kernel
theorem dT_written_3 : decode mT_written.2.1 3 = .ok (.istore_n 2, 1) := by decide +kernel
theorem dT_written_4 : decode mT_written.2.1 4 = .ok (.iload_n 2, 1) := by decide +kernel
theorem dT_written_5 : decode mT_written.2.1 5 = .ok (.aload_n 0, 1) := by decide +kernel
theorem dT_written_6 : decode mT_written.2.1 6 = .ok (.getfield 15, 3) := by decide +kernel
theorem dT_written_9 : decode mT_written.2.1 9 = .ok (.if_icmp .ge 18, 3) := by decide +kernel
theorem dT_written_12 : decode mT_written.2.1 12 = .ok (.iload_n 1, 1) := by decide +kernel
theorem dT_written_13 : decode mT_written.2.1 13 = .ok (.aload_n 0, 1) := by decide +kernel
theorem dT_written_14 : decode mT_written.2.1 14 = .ok (.getfield 19, 3) := by decide +kernel
theorem dT_written_17 : decode mT_written.2.1 17 = .ok (.iload_n 2, 1) := by decide +kernel
theorem dT_written_18 : decode mT_written.2.1 18 = .ok (.iaload, 1) := by decide +kernel
theorem dT_written_19 : decode mT_written.2.1 19 = .ok (.ior, 1) := by decide +kernel
theorem dT_written_20 : decode mT_written.2.1 20 = .ok (.istore_n 1, 1) := by decide +kernel
theorem dT_written_21 : decode mT_written.2.1 21 = .ok (.iinc 2 1, 3) := by decide +kernel
theorem dT_written_24 : decode mT_written.2.1 24 = .ok (.goto (-20), 3) := by decide +kernel
theorem dT_written_27 : decode mT_written.2.1 27 = .ok (.iload_n 1, 1) := by decide +kernel
theorem dT_written_28 : decode mT_written.2.1 28 = .ok (.ireturn, 1) := by decide +kernel
theorem dT_heeded_0 : decode mT_heeded.2.1 0 = .ok (.aload_n 0, 1) := by decide +kernel
theorem dT_heeded_1 : decode mT_heeded.2.1 1 = .ok (.getfield 31, 3) := by decide +kernel
theorem dT_heeded_4 : decode mT_heeded.2.1 4 = .ok (.iconst 1, 1) := by decide +kernel
theorem dT_heeded_5 : decode mT_heeded.2.1 5 = .ok (.if_icmp .ne 15, 3) := by decide +kernel
theorem dT_heeded_8 : decode mT_heeded.2.1 8 = .ok (.aload_n 0, 1) := by decide +kernel
theorem dT_heeded_9 : decode mT_heeded.2.1 9 = .ok (.invokevirtual 37, 3) := by decide +kernel
theorem dT_heeded_12 : decode mT_heeded.2.1 12 = .ok (.aload_n 0, 1) := by decide +kernel
theorem dT_heeded_13 : decode mT_heeded.2.1 13 = .ok (.getfield 34, 3) := by decide +kernel
theorem dT_heeded_16 : decode mT_heeded.2.1 16 = .ok (.ior, 1) := by decide +kernel
theorem dT_heeded_17 : decode mT_heeded.2.1 17 = .ok (.goto 7, 3) := by decide +kernel
theorem dT_heeded_20 : decode mT_heeded.2.1 20 = .ok (.aload_n 0, 1) := by decide +kernel
theorem dT_heeded_21 : decode mT_heeded.2.1 21 = .ok (.invokevirtual 37, 3) := by decide +kernel
theorem dT_heeded_24 : decode mT_heeded.2.1 24 = .ok (.ireturn, 1) := by decide +kernel
theorem dT_layerThatWrote_0 : decode mT_layerThatWrote.2.1 0 = .ok (.aload_n 0, 1) := by decide +kernel
theorem dT_layerThatWrote_1 : decode mT_layerThatWrote.2.1 1 = .ok (.getfield 15, 3) := by decide +kernel
theorem dT_layerThatWrote_4 : decode mT_layerThatWrote.2.1 4 = .ok (.iconst 1, 1) := by decide +kernel
theorem dT_layerThatWrote_5 : decode mT_layerThatWrote.2.1 5 = .ok (.isub, 1) := by decide +kernel
theorem dT_layerThatWrote_6 : decode mT_layerThatWrote.2.1 6 = .ok (.istore_n 2, 1) := by decide +kernel
theorem dT_layerThatWrote_7 : decode mT_layerThatWrote.2.1 7 = .ok (.iload_n 2, 1) := by decide +kernel
theorem dT_layerThatWrote_8 : decode mT_layerThatWrote.2.1 8 = .ok (.ifCond .lt 22, 3) := by decide +kernel
theorem dT_layerThatWrote_11 : decode mT_layerThatWrote.2.1 11 = .ok (.aload_n 0, 1) := by decide +kernel
theorem dT_layerThatWrote_12 : decode mT_layerThatWrote.2.1 12 = .ok (.getfield 19, 3) := by decide +kernel
theorem dT_layerThatWrote_15 : decode mT_layerThatWrote.2.1 15 = .ok (.iload_n 2, 1) := by decide +kernel
theorem dT_layerThatWrote_16 : decode mT_layerThatWrote.2.1 16 = .ok (.iaload, 1) := by decide +kernel
theorem dT_layerThatWrote_17 : decode mT_layerThatWrote.2.1 17 = .ok (.iconst 1, 1) := by decide +kernel
theorem dT_layerThatWrote_18 : decode mT_layerThatWrote.2.1 18 = .ok (.iload_n 1, 1) := by decide +kernel
theorem dT_layerThatWrote_19 : decode mT_layerThatWrote.2.1 19 = .ok (.ishl, 1) := by decide +kernel
theorem dT_layerThatWrote_20 : decode mT_layerThatWrote.2.1 20 = .ok (.iand, 1) := by decide +kernel
theorem dT_layerThatWrote_21 : decode mT_layerThatWrote.2.1 21 = .ok (.ifCond .ne 9, 3) := by decide +kernel
theorem dT_layerThatWrote_24 : decode mT_layerThatWrote.2.1 24 = .ok (.iinc 2 (-1), 3) := by decide +kernel
theorem dT_layerThatWrote_27 : decode mT_layerThatWrote.2.1 27 = .ok (.goto (-20), 3) := by decide +kernel
theorem dT_layerThatWrote_30 : decode mT_layerThatWrote.2.1 30 = .ok (.iload_n 2, 1) := by decide +kernel
theorem dT_layerThatWrote_31 : decode mT_layerThatWrote.2.1 31 = .ok (.ireturn, 1) := by decide +kernel
theorem dT_valueIn_0 : decode mT_valueIn.2.1 0 = .ok (.aload_n 0, 1) := by decide +kernel
theorem dT_valueIn_1 : decode mT_valueIn.2.1 1 = .ok (.getfield 25, 3) := by decide +kernel
theorem dT_valueIn_4 : decode mT_valueIn.2.1 4 = .ok (.iload_n 1, 1) := by decide +kernel
theorem dT_valueIn_5 : decode mT_valueIn.2.1 5 = .ok (.aaload, 1) := by decide +kernel
theorem dT_valueIn_6 : decode mT_valueIn.2.1 6 = .ok (.iload_n 2, 1) := by decide +kernel
theorem dT_valueIn_7 : decode mT_valueIn.2.1 7 = .ok (.laload, 1) := by decide +kernel
theorem dT_valueIn_8 : decode mT_valueIn.2.1 8 = .ok (.lreturn, 1) := by decide +kernel
theorem dT_put_0 : decode mT_put.2.1 0 = .ok (.aload_n 0, 1) := by decide +kernel
theorem dT_put_1 : decode mT_put.2.1 1 = .ok (.aload_n 0, 1) := by decide +kernel
theorem dT_put_2 : decode mT_put.2.1 2 = .ok (.getfield 15, 3) := by decide +kernel
theorem dT_put_5 : decode mT_put.2.1 5 = .ok (.iconst 1, 1) := by decide +kernel
theorem dT_put_6 : decode mT_put.2.1 6 = .ok (.isub, 1) := by decide +kernel
theorem dT_put_7 : decode mT_put.2.1 7 = .ok (.iload_n 1, 1) := by decide +kernel
theorem dT_put_8 : decode mT_put.2.1 8 = .ok (.lload_n 2, 1) := by decide +kernel
theorem dT_put_9 : decode mT_put.2.1 9 = .ok (.invokevirtual 41, 3) := by decide +kernel
theorem dT_put_12 : decode mT_put.2.1 12 = .ok (.return_, 1) := by decide +kernel
theorem dT_addLayer_0 : decode mT_addLayer.2.1 0 = .ok (.aload_n 0, 1) := by decide +kernel
theorem dT_addLayer_1 : decode mT_addLayer.2.1 1 = .ok (.getfield 15, 3) := by decide +kernel
theorem dT_addLayer_4 : decode mT_addLayer.2.1 4 = .ok (.bipush 8, 2) := by decide +kernel
theorem dT_addLayer_6 : decode mT_addLayer.2.1 6 = .ok (.if_icmp .ge 23, 3) := by decide +kernel
theorem dT_addLayer_9 : decode mT_addLayer.2.1 9 = .ok (.aload_n 0, 1) := by decide +kernel
theorem dT_addLayer_10 : decode mT_addLayer.2.1 10 = .ok (.getfield 19, 3) := by decide +kernel
theorem dT_addLayer_13 : decode mT_addLayer.2.1 13 = .ok (.aload_n 0, 1) := by decide +kernel
theorem dT_addLayer_14 : decode mT_addLayer.2.1 14 = .ok (.getfield 15, 3) := by decide +kernel
theorem dT_addLayer_17 : decode mT_addLayer.2.1 17 = .ok (.iconst 0, 1) := by decide +kernel
theorem dT_addLayer_18 : decode mT_addLayer.2.1 18 = .ok (.iastore, 1) := by decide +kernel
theorem dT_addLayer_19 : decode mT_addLayer.2.1 19 = .ok (.aload_n 0, 1) := by decide +kernel
theorem dT_addLayer_20 : decode mT_addLayer.2.1 20 = .ok (.dup, 1) := by decide +kernel
theorem dT_addLayer_21 : decode mT_addLayer.2.1 21 = .ok (.getfield 15, 3) := by decide +kernel
theorem dT_addLayer_24 : decode mT_addLayer.2.1 24 = .ok (.iconst 1, 1) := by decide +kernel
theorem dT_addLayer_25 : decode mT_addLayer.2.1 25 = .ok (.iadd, 1) := by decide +kernel
theorem dT_addLayer_26 : decode mT_addLayer.2.1 26 = .ok (.putfield 15, 3) := by decide +kernel
theorem dT_addLayer_29 : decode mT_addLayer.2.1 29 = .ok (.return_, 1) := by decide +kernel
theorem dT_removeLayer_0 : decode mT_removeLayer.2.1 0 = .ok (.aload_n 0, 1) := by decide +kernel
theorem dT_removeLayer_1 : decode mT_removeLayer.2.1 1 = .ok (.getfield 15, 3) := by decide +kernel
theorem dT_removeLayer_4 : decode mT_removeLayer.2.1 4 = .ok (.iconst 1, 1) := by decide +kernel
theorem dT_removeLayer_5 : decode mT_removeLayer.2.1 5 = .ok (.if_icmp .le 13, 3) := by decide +kernel
theorem dT_removeLayer_8 : decode mT_removeLayer.2.1 8 = .ok (.aload_n 0, 1) := by decide +kernel
theorem dT_removeLayer_9 : decode mT_removeLayer.2.1 9 = .ok (.dup, 1) := by decide +kernel
theorem dT_removeLayer_10 : decode mT_removeLayer.2.1 10 = .ok (.getfield 15, 3) := by decide +kernel
theorem dT_removeLayer_13 : decode mT_removeLayer.2.1 13 = .ok (.iconst 1, 1) := by decide +kernel
theorem dT_removeLayer_14 : decode mT_removeLayer.2.1 14 = .ok (.isub, 1) := by decide +kernel
theorem dT_removeLayer_15 : decode mT_removeLayer.2.1 15 = .ok (.putfield 15, 3) := by decide +kernel
theorem dT_removeLayer_18 : decode mT_removeLayer.2.1 18 = .ok (.return_, 1) := by decide +kernel
theorem dT_copyHighestLayerDown_0 : decode mT_copyHighestLayerDown.2.1 0 = .ok (.aload_n 0, 1) := by decide +kernel
theorem dT_copyHighestLayerDown_1 : decode mT_copyHighestLayerDown.2.1 1 = .ok (.getfield 15, 3) := by decide +kernel
theorem dT_copyHighestLayerDown_4 : decode mT_copyHighestLayerDown.2.1 4 = .ok (.iconst 1, 1) := by decide +kernel
theorem dT_copyHighestLayerDown_5 : decode mT_copyHighestLayerDown.2.1 5 = .ok (.isub, 1) := by decide +kernel
theorem dT_copyHighestLayerDown_6 : decode mT_copyHighestLayerDown.2.1 6 = .ok (.istore_n 1, 1) := by decide +kernel
theorem dT_copyHighestLayerDown_7 : decode mT_copyHighestLayerDown.2.1 7 = .ok (.iconst 0, 1) := by decide +kernel
theorem dT_copyHighestLayerDown_8 : decode mT_copyHighestLayerDown.2.1 8 = .ok (.istore_n 2, 1) := by decide +kernel
theorem dT_copyHighestLayerDown_9 : decode mT_copyHighestLayerDown.2.1 9 = .ok (.iload_n 1, 1) := by decide +kernel
theorem dT_copyHighestLayerDown_10 : decode mT_copyHighestLayerDown.2.1 10 = .ok (.ifCond .le 44, 3) := by decide +kernel
theorem dT_copyHighestLayerDown_13 : decode mT_copyHighestLayerDown.2.1 13 = .ok (.iload_n 2, 1) := by decide +kernel
theorem dT_copyHighestLayerDown_14 : decode mT_copyHighestLayerDown.2.1 14 = .ok (.bipush 16, 2) := by decide +kernel
theorem dT_copyHighestLayerDown_16 : decode mT_copyHighestLayerDown.2.1 16 = .ok (.if_icmp .ge 38, 3) := by decide +kernel
theorem dT_copyHighestLayerDown_19 : decode mT_copyHighestLayerDown.2.1 19 = .ok (.aload_n 0, 1) := by decide +kernel
theorem dT_copyHighestLayerDown_20 : decode mT_copyHighestLayerDown.2.1 20 = .ok (.getfield 19, 3) := by decide +kernel
theorem dT_copyHighestLayerDown_23 : decode mT_copyHighestLayerDown.2.1 23 = .ok (.iload_n 1, 1) := by decide +kernel
theorem dT_copyHighestLayerDown_24 : decode mT_copyHighestLayerDown.2.1 24 = .ok (.iaload, 1) := by decide +kernel
theorem dT_copyHighestLayerDown_25 : decode mT_copyHighestLayerDown.2.1 25 = .ok (.iconst 1, 1) := by decide +kernel
theorem dT_copyHighestLayerDown_26 : decode mT_copyHighestLayerDown.2.1 26 = .ok (.iload_n 2, 1) := by decide +kernel
theorem dT_copyHighestLayerDown_27 : decode mT_copyHighestLayerDown.2.1 27 = .ok (.ishl, 1) := by decide +kernel
theorem dT_copyHighestLayerDown_28 : decode mT_copyHighestLayerDown.2.1 28 = .ok (.iand, 1) := by decide +kernel
theorem dT_copyHighestLayerDown_29 : decode mT_copyHighestLayerDown.2.1 29 = .ok (.ifCond .eq 19, 3) := by decide +kernel
theorem dT_copyHighestLayerDown_32 : decode mT_copyHighestLayerDown.2.1 32 = .ok (.aload_n 0, 1) := by decide +kernel
theorem dT_copyHighestLayerDown_33 : decode mT_copyHighestLayerDown.2.1 33 = .ok (.iload_n 1, 1) := by decide +kernel
theorem dT_copyHighestLayerDown_34 : decode mT_copyHighestLayerDown.2.1 34 = .ok (.iconst 1, 1) := by decide +kernel
theorem dT_copyHighestLayerDown_35 : decode mT_copyHighestLayerDown.2.1 35 = .ok (.isub, 1) := by decide +kernel
theorem dT_copyHighestLayerDown_36 : decode mT_copyHighestLayerDown.2.1 36 = .ok (.iload_n 2, 1) := by decide +kernel
theorem dT_copyHighestLayerDown_37 : decode mT_copyHighestLayerDown.2.1 37 = .ok (.aload_n 0, 1) := by decide +kernel
theorem dT_copyHighestLayerDown_38 : decode mT_copyHighestLayerDown.2.1 38 = .ok (.getfield 25, 3) := by decide +kernel
theorem dT_copyHighestLayerDown_41 : decode mT_copyHighestLayerDown.2.1 41 = .ok (.iload_n 1, 1) := by decide +kernel
theorem dT_copyHighestLayerDown_42 : decode mT_copyHighestLayerDown.2.1 42 = .ok (.aaload, 1) := by decide +kernel
theorem dT_copyHighestLayerDown_43 : decode mT_copyHighestLayerDown.2.1 43 = .ok (.iload_n 2, 1) := by decide +kernel
theorem dT_copyHighestLayerDown_44 : decode mT_copyHighestLayerDown.2.1 44 = .ok (.laload, 1) := by decide +kernel
theorem dT_copyHighestLayerDown_45 : decode mT_copyHighestLayerDown.2.1 45 = .ok (.invokevirtual 41, 3) := by decide +kernel
theorem dT_copyHighestLayerDown_48 : decode mT_copyHighestLayerDown.2.1 48 = .ok (.iinc 2 1, 3) := by decide +kernel
theorem dT_copyHighestLayerDown_51 : decode mT_copyHighestLayerDown.2.1 51 = .ok (.goto (-42), 3) := by decide +kernel
theorem dT_copyHighestLayerDown_54 : decode mT_copyHighestLayerDown.2.1 54 = .ok (.return_, 1) := by decide +kernel
theorem dT_putIn_0 : decode mT_putIn.2.1 0 = .ok (.aload_n 0, 1) := by decide +kernel
theorem dT_putIn_1 : decode mT_putIn.2.1 1 = .ok (.getfield 19, 3) := by decide +kernel
theorem dT_putIn_4 : decode mT_putIn.2.1 4 = .ok (.iload_n 1, 1) := by decide +kernel
theorem dT_putIn_5 : decode mT_putIn.2.1 5 = .ok (.dup2, 1) := by decide +kernel
theorem dT_putIn_6 : decode mT_putIn.2.1 6 = .ok (.iaload, 1) := by decide +kernel
theorem dT_putIn_7 : decode mT_putIn.2.1 7 = .ok (.iconst 1, 1) := by decide +kernel
theorem dT_putIn_8 : decode mT_putIn.2.1 8 = .ok (.iload_n 2, 1) := by decide +kernel
theorem dT_putIn_9 : decode mT_putIn.2.1 9 = .ok (.ishl, 1) := by decide +kernel
theorem dT_putIn_10 : decode mT_putIn.2.1 10 = .ok (.ior, 1) := by decide +kernel
theorem dT_putIn_11 : decode mT_putIn.2.1 11 = .ok (.iastore, 1) := by decide +kernel
theorem dT_putIn_12 : decode mT_putIn.2.1 12 = .ok (.aload_n 0, 1) := by decide +kernel
theorem dT_putIn_13 : decode mT_putIn.2.1 13 = .ok (.getfield 25, 3) := by decide +kernel
theorem dT_putIn_16 : decode mT_putIn.2.1 16 = .ok (.iload_n 1, 1) := by decide +kernel
theorem dT_putIn_17 : decode mT_putIn.2.1 17 = .ok (.aaload, 1) := by decide +kernel
theorem dT_putIn_18 : decode mT_putIn.2.1 18 = .ok (.iload_n 2, 1) := by decide +kernel
theorem dT_putIn_19 : decode mT_putIn.2.1 19 = .ok (.lload_n 3, 1) := by decide +kernel
theorem dT_putIn_20 : decode mT_putIn.2.1 20 = .ok (.lastore, 1) := by decide +kernel
theorem dT_putIn_21 : decode mT_putIn.2.1 21 = .ok (.return_, 1) := by decide +kernel
end
section
theorem dV_init_0 : decode mV_init.2.1 0 = .ok (.aload_n 0, 1) := by decide +kernel
theorem dV_init_1 : decode mV_init.2.1 1 = .ok (.invokespecial 3, 3) := by decide +kernel
theorem dV_init_4 : decode mV_init.2.1 4 = .ok (.aload_n 0, 1) := by decide +kernel
theorem dV_init_5 : decode mV_init.2.1 5 = .ok (.sipush 500, 3) := by decide +kernel
theorem dV_init_8 : decode mV_init.2.1 8 = .ok (.newarray .int, 2) := by decide +kernel
theorem dV_init_10 : decode mV_init.2.1 10 = .ok (.putfield 9, 3) := by decide +kernel
theorem dV_init_13 : decode mV_init.2.1 13 = .ok (.aload_n 0, 1) := by decide +kernel
theorem dV_init_14 : decode mV_init.2.1 14 = .ok (.sipush 500, 3) := by decide +kernel
theorem dV_init_17 : decode mV_init.2.1 17 = .ok (.newarray .int, 2) := by decide +kernel
theorem dV_init_19 : decode mV_init.2.1 19 = .ok (.putfield 15, 3) := by decide +kernel
theorem dV_init_22 : decode mV_init.2.1 22 = .ok (.aload_n 0, 1) := by decide +kernel
theorem dV_init_23 : decode mV_init.2.1 23 = .ok (.sipush 500, 3) := by decide +kernel
theorem dV_init_26 : decode mV_init.2.1 26 = .ok (.newarray .long, 2) := by decide +kernel
theorem dV_init_28 : decode mV_init.2.1 28 = .ok (.putfield 18, 3) := by decide +kernel
theorem dV_init_31 : decode mV_init.2.1 31 = .ok (.iconst 0, 1) := by decide +kernel
theorem dV_init_32 : decode mV_init.2.1 32 = .ok (.istore_n 1, 1) := by decide +kernel
theorem dV_init_33 : decode mV_init.2.1 33 = .ok (.iload_n 1, 1) := by decide +kernel
theorem dV_init_34 : decode mV_init.2.1 34 = .ok (.bipush 16, 2) := by decide +kernel
theorem dV_init_36 : decode mV_init.2.1 36 = .ok (.if_icmp .ge 16, 3) := by decide +kernel
theorem dV_init_39 : decode mV_init.2.1 39 = .ok (.aload_n 0, 1) := by decide +kernel
theorem dV_init_40 : decode mV_init.2.1 40 = .ok (.getfield 9, 3) := by decide +kernel
theorem dV_init_43 : decode mV_init.2.1 43 = .ok (.iload_n 1, 1) := by decide +kernel
theorem dV_init_44 : decode mV_init.2.1 44 = .ok (.iload_n 1, 1) := by decide +kernel
theorem dV_init_45 : decode mV_init.2.1 45 = .ok (.iastore, 1) := by decide +kernel
theorem dV_init_46 : decode mV_init.2.1 46 = .ok (.iinc 1 1, 3) := by decide +kernel
theorem dV_init_49 : decode mV_init.2.1 49 = .ok (.goto (-16), 3) := by decide +kernel
theorem dV_init_52 : decode mV_init.2.1 52 = .ok (.aload_n 0, 1) := by decide +kernel
theorem dV_init_53 : decode mV_init.2.1 53 = .ok (.bipush 16, 2) := by decide +kernel
theorem dV_init_55 : decode mV_init.2.1 55 = .ok (.putfield 22, 3) := by decide +kernel
theorem dV_init_58 : decode mV_init.2.1 58 = .ok (.return_, 1) := by decide +kernel
theorem dV_size_0 : decode mV_size.2.1 0 = .ok (.aload_n 0, 1) := by decide +kernel
theorem dV_size_1 : decode mV_size.2.1 1 = .ok (.getfield 22, 3) := by decide +kernel
theorem dV_size_4 : decode mV_size.2.1 4 = .ok (.ireturn, 1) := by decide +kernel
theorem dV_haveRoomFor_0 : decode mV_haveRoomFor.2.1 0 = .ok (.aload_n 0, 1) := by decide +kernel
theorem dV_haveRoomFor_1 : decode mV_haveRoomFor.2.1 1 = .ok (.getfield 22, 3) := by decide +kernel
theorem dV_haveRoomFor_4 : decode mV_haveRoomFor.2.1 4 = .ok (.iload_n 1, 1) := by decide +kernel
theorem dV_haveRoomFor_5 : decode mV_haveRoomFor.2.1 5 = .ok (.iadd, 1) := by decide +kernel
theorem dV_haveRoomFor_6 : decode mV_haveRoomFor.2.1 6 = .ok (.sipush 500, 3) := by decide +kernel
theorem dV_haveRoomFor_9 : decode mV_haveRoomFor.2.1 9 = .ok (.if_icmp .gt 7, 3) := by decide +kernel
theorem dV_haveRoomFor_12 : decode mV_haveRoomFor.2.1 12 = .ok (.iconst 1, 1) := by decide +kernel
theorem dV_haveRoomFor_13 : decode mV_haveRoomFor.2.1 13 = .ok (.goto 4, 3) := by decide +kernel
theorem dV_haveRoomFor_16 : decode mV_haveRoomFor.2.1 16 = .ok (.iconst 0, 1) := by decide +kernel
theorem dV_haveRoomFor_17 : decode mV_haveRoomFor.2.1 17 = .ok (.ireturn, 1) := by decide +kernel
theorem dV_append_0 : decode mV_append.2.1 0 = .ok (.aload_n 0, 1) := by decide +kernel
theorem dV_append_1 : decode mV_append.2.1 1 = .ok (.getfield 22, 3) := by decide +kernel
theorem dV_append_4 : decode mV_append.2.1 4 = .ok (.sipush 500, 3) := by decide +kernel
theorem dV_append_7 : decode mV_append.2.1 7 = .ok (.if_icmp .ge 43, 3) := by decide +kernel
theorem dV_append_10 : decode mV_append.2.1 10 = .ok (.aload_n 0, 1) := by decide +kernel
theorem dV_append_11 : decode mV_append.2.1 11 = .ok (.getfield 9, 3) := by decide +kernel
theorem dV_append_14 : decode mV_append.2.1 14 = .ok (.aload_n 0, 1) := by decide +kernel
theorem dV_append_15 : decode mV_append.2.1 15 = .ok (.getfield 22, 3) := by decide +kernel
theorem dV_append_18 : decode mV_append.2.1 18 = .ok (.iload_n 1, 1) := by decide +kernel
theorem dV_append_19 : decode mV_append.2.1 19 = .ok (.iastore, 1) := by decide +kernel
theorem dV_append_20 : decode mV_append.2.1 20 = .ok (.aload_n 0, 1) := by decide +kernel
theorem dV_append_21 : decode mV_append.2.1 21 = .ok (.getfield 15, 3) := by decide +kernel
theorem dV_append_24 : decode mV_append.2.1 24 = .ok (.aload_n 0, 1) := by decide +kernel
theorem dV_append_25 : decode mV_append.2.1 25 = .ok (.getfield 22, 3) := by decide +kernel
theorem dV_append_28 : decode mV_append.2.1 28 = .ok (.iload_n 2, 1) := by decide +kernel
theorem dV_append_29 : decode mV_append.2.1 29 = .ok (.iastore, 1) := by decide +kernel
theorem dV_append_30 : decode mV_append.2.1 30 = .ok (.aload_n 0, 1) := by decide +kernel
theorem dV_append_31 : decode mV_append.2.1 31 = .ok (.getfield 18, 3) := by decide +kernel
theorem dV_append_34 : decode mV_append.2.1 34 = .ok (.aload_n 0, 1) := by decide +kernel
theorem dV_append_35 : decode mV_append.2.1 35 = .ok (.getfield 22, 3) := by decide +kernel
theorem dV_append_38 : decode mV_append.2.1 38 = .ok (.lload_n 3, 1) := by decide +kernel
theorem dV_append_39 : decode mV_append.2.1 39 = .ok (.lastore, 1) := by decide +kernel
theorem dV_append_40 : decode mV_append.2.1 40 = .ok (.aload_n 0, 1) := by decide +kernel
theorem dV_append_41 : decode mV_append.2.1 41 = .ok (.dup, 1) := by decide +kernel
theorem dV_append_42 : decode mV_append.2.1 42 = .ok (.getfield 22, 3) := by decide +kernel
theorem dV_append_45 : decode mV_append.2.1 45 = .ok (.iconst 1, 1) := by decide +kernel
theorem dV_append_46 : decode mV_append.2.1 46 = .ok (.iadd, 1) := by decide +kernel
theorem dV_append_47 : decode mV_append.2.1 47 = .ok (.putfield 22, 3) := by decide +kernel
theorem dV_append_50 : decode mV_append.2.1 50 = .ok (.return_, 1) := by decide +kernel
theorem dV_know_0 : decode mV_know.2.1 0 = .ok (.aload_n 0, 1) := by decide +kernel
theorem dV_know_1 : decode mV_know.2.1 1 = .ok (.iload_n 1, 1) := by decide +kernel
theorem dV_know_2 : decode mV_know.2.1 2 = .ok (.iload_n 2, 1) := by decide +kernel
theorem dV_know_3 : decode mV_know.2.1 3 = .ok (.invokevirtual 26, 3) := by decide +kernel
theorem dV_know_6 : decode mV_know.2.1 6 = .ok (.ifCond .lt 7, 3) := by decide +kernel
theorem dV_know_9 : decode mV_know.2.1 9 = .ok (.iconst 1, 1) := by decide +kernel
theorem dV_know_10 : decode mV_know.2.1 10 = .ok (.goto 4, 3) := by decide +kernel
theorem dV_know_13 : decode mV_know.2.1 13 = .ok (.iconst 0, 1) := by decide +kernel
theorem dV_know_14 : decode mV_know.2.1 14 = .ok (.ireturn, 1) := by decide +kernel
theorem dV_valueAt_0 : decode mV_valueAt.2.1 0 = .ok (.aload_n 0, 1) := by decide +kernel
theorem dV_valueAt_1 : decode mV_valueAt.2.1 1 = .ok (.iload_n 1, 1) := by decide +kernel
theorem dV_valueAt_2 : decode mV_valueAt.2.1 2 = .ok (.iload_n 2, 1) := by decide +kernel
theorem dV_valueAt_3 : decode mV_valueAt.2.1 3 = .ok (.invokevirtual 26, 3) := by decide +kernel
theorem dV_valueAt_6 : decode mV_valueAt.2.1 6 = .ok (.istore_n 3, 1) := by decide +kernel
theorem dV_valueAt_7 : decode mV_valueAt.2.1 7 = .ok (.iload_n 3, 1) := by decide +kernel
theorem dV_valueAt_8 : decode mV_valueAt.2.1 8 = .ok (.ifCond .lt 12, 3) := by decide +kernel
theorem dV_valueAt_11 : decode mV_valueAt.2.1 11 = .ok (.aload_n 0, 1) := by decide +kernel
theorem dV_valueAt_12 : decode mV_valueAt.2.1 12 = .ok (.getfield 18, 3) := by decide +kernel
theorem dV_valueAt_15 : decode mV_valueAt.2.1 15 = .ok (.iload_n 3, 1) := by decide +kernel
theorem dV_valueAt_16 : decode mV_valueAt.2.1 16 = .ok (.laload, 1) := by decide +kernel
theorem dV_valueAt_17 : decode mV_valueAt.2.1 17 = .ok (.goto 4, 3) := by decide +kernel
theorem dV_valueAt_20 : decode mV_valueAt.2.1 20 = .ok (.lconst 0, 1) := by decide +kernel
theorem dV_valueAt_21 : decode mV_valueAt.2.1 21 = .ok (.lreturn, 1) := by decide +kernel
theorem dV_cellsWrittenAfter_0 : decode mV_cellsWrittenAfter.2.1 0 = .ok (.iconst 0, 1) := by decide +kernel
theorem dV_cellsWrittenAfter_1 : decode mV_cellsWrittenAfter.2.1 1 = .ok (.istore_n 2, 1) := by decide +kernel
theorem dV_cellsWrittenAfter_2 : decode mV_cellsWrittenAfter.2.1 2 = .ok (.aload_n 0, 1) := by decide +kernel
theorem dV_cellsWrittenAfter_3 : decode mV_cellsWrittenAfter.2.1 3 = .ok (.getfield 22, 3) := by decide +kernel
theorem dV_cellsWrittenAfter_6 : decode mV_cellsWrittenAfter.2.1 6 = .ok (.iconst 1, 1) := by decide +kernel
theorem dV_cellsWrittenAfter_7 : decode mV_cellsWrittenAfter.2.1 7 = .ok (.isub, 1) := by decide +kernel
theorem dV_cellsWrittenAfter_8 : decode mV_cellsWrittenAfter.2.1 8 = .ok (.istore_n 3, 1) := by decide +kernel
theorem dV_cellsWrittenAfter_9 : decode mV_cellsWrittenAfter.2.1 9 = .ok (.iload_n 3, 1) := by decide +kernel
theorem dV_cellsWrittenAfter_10 : decode mV_cellsWrittenAfter.2.1 10 = .ok (.ifCond .lt 30, 3) := by decide +kernel
theorem dV_cellsWrittenAfter_13 : decode mV_cellsWrittenAfter.2.1 13 = .ok (.aload_n 0, 1) := by decide +kernel
theorem dV_cellsWrittenAfter_14 : decode mV_cellsWrittenAfter.2.1 14 = .ok (.getfield 15, 3) := by decide +kernel
theorem dV_cellsWrittenAfter_17 : decode mV_cellsWrittenAfter.2.1 17 = .ok (.iload_n 3, 1) := by decide +kernel
theorem dV_cellsWrittenAfter_18 : decode mV_cellsWrittenAfter.2.1 18 = .ok (.iaload, 1) := by decide +kernel
theorem dV_cellsWrittenAfter_19 : decode mV_cellsWrittenAfter.2.1 19 = .ok (.iload_n 1, 1) := by decide +kernel
theorem dV_cellsWrittenAfter_20 : decode mV_cellsWrittenAfter.2.1 20 = .ok (.if_icmp .le 20, 3) := by decide +kernel
theorem dV_cellsWrittenAfter_23 : decode mV_cellsWrittenAfter.2.1 23 = .ok (.iload_n 2, 1) := by decide +kernel
theorem dV_cellsWrittenAfter_24 : decode mV_cellsWrittenAfter.2.1 24 = .ok (.iconst 1, 1) := by decide +kernel
theorem dV_cellsWrittenAfter_25 : decode mV_cellsWrittenAfter.2.1 25 = .ok (.aload_n 0, 1) := by decide +kernel
theorem dV_cellsWrittenAfter_26 : decode mV_cellsWrittenAfter.2.1 26 = .ok (.getfield 9, 3) := by decide +kernel
theorem dV_cellsWrittenAfter_29 : decode mV_cellsWrittenAfter.2.1 29 = .ok (.iload_n 3, 1) := by decide +kernel
theorem dV_cellsWrittenAfter_30 : decode mV_cellsWrittenAfter.2.1 30 = .ok (.iaload, 1) := by decide +kernel
theorem dV_cellsWrittenAfter_31 : decode mV_cellsWrittenAfter.2.1 31 = .ok (.ishl, 1) := by decide +kernel
theorem dV_cellsWrittenAfter_32 : decode mV_cellsWrittenAfter.2.1 32 = .ok (.ior, 1) := by decide +kernel
theorem dV_cellsWrittenAfter_33 : decode mV_cellsWrittenAfter.2.1 33 = .ok (.istore_n 2, 1) := by decide +kernel
theorem dV_cellsWrittenAfter_34 : decode mV_cellsWrittenAfter.2.1 34 = .ok (.iinc 3 (-1), 3) := by decide +kernel
theorem dV_cellsWrittenAfter_37 : decode mV_cellsWrittenAfter.2.1 37 = .ok (.goto (-28), 3) := by decide +kernel
theorem dV_cellsWrittenAfter_40 : decode mV_cellsWrittenAfter.2.1 40 = .ok (.iload_n 2, 1) := by decide +kernel
theorem dV_cellsWrittenAfter_41 : decode mV_cellsWrittenAfter.2.1 41 = .ok (.ireturn, 1) := by decide +kernel
theorem dV_removeCovered_0 : decode mV_removeCovered.2.1 0 = .ok (.iconst 0, 1) := by decide +kernel
theorem dV_removeCovered_1 : decode mV_removeCovered.2.1 1 = .ok (.istore_n 2, 1) := by decide +kernel
theorem dV_removeCovered_2 : decode mV_removeCovered.2.1 2 = .ok (.aload_n 0, 1) := by decide +kernel
theorem dV_removeCovered_3 : decode mV_removeCovered.2.1 3 = .ok (.getfield 22, 3) := by decide +kernel
theorem dV_removeCovered_6 : decode mV_removeCovered.2.1 6 = .ok (.istore_n 3, 1) := by decide +kernel
theorem dV_removeCovered_7 : decode mV_removeCovered.2.1 7 = .ok (.aload_n 0, 1) := by decide +kernel
theorem dV_removeCovered_8 : decode mV_removeCovered.2.1 8 = .ok (.getfield 22, 3) := by decide +kernel
theorem dV_removeCovered_11 : decode mV_removeCovered.2.1 11 = .ok (.iconst 1, 1) := by decide +kernel
theorem dV_removeCovered_12 : decode mV_removeCovered.2.1 12 = .ok (.isub, 1) := by decide +kernel
theorem dV_removeCovered_13 : decode mV_removeCovered.2.1 13 = .ok (.istore 4, 2) := by decide +kernel
theorem dV_removeCovered_15 : decode mV_removeCovered.2.1 15 = .ok (.iload 4, 2) := by decide +kernel
theorem dV_removeCovered_17 : decode mV_removeCovered.2.1 17 = .ok (.ifCond .lt 52, 3) := by decide +kernel
theorem dV_removeCovered_20 : decode mV_removeCovered.2.1 20 = .ok (.iconst 1, 1) := by decide +kernel
theorem dV_removeCovered_21 : decode mV_removeCovered.2.1 21 = .ok (.aload_n 0, 1) := by decide +kernel
theorem dV_removeCovered_22 : decode mV_removeCovered.2.1 22 = .ok (.getfield 9, 3) := by decide +kernel
theorem dV_removeCovered_25 : decode mV_removeCovered.2.1 25 = .ok (.iload 4, 2) := by decide +kernel
theorem dV_removeCovered_27 : decode mV_removeCovered.2.1 27 = .ok (.iaload, 1) := by decide +kernel
theorem dV_removeCovered_28 : decode mV_removeCovered.2.1 28 = .ok (.ishl, 1) := by decide +kernel
theorem dV_removeCovered_29 : decode mV_removeCovered.2.1 29 = .ok (.istore 5, 2) := by decide +kernel
theorem dV_removeCovered_31 : decode mV_removeCovered.2.1 31 = .ok (.iload_n 2, 1) := by decide +kernel
theorem dV_removeCovered_32 : decode mV_removeCovered.2.1 32 = .ok (.iload 5, 2) := by decide +kernel
theorem dV_removeCovered_34 : decode mV_removeCovered.2.1 34 = .ok (.iand, 1) := by decide +kernel
theorem dV_removeCovered_35 : decode mV_removeCovered.2.1 35 = .ok (.ifCond .ne 28, 3) := by decide +kernel
theorem dV_removeCovered_38 : decode mV_removeCovered.2.1 38 = .ok (.iinc 3 (-1), 3) := by decide +kernel
theorem dV_removeCovered_41 : decode mV_removeCovered.2.1 41 = .ok (.aload_n 0, 1) := by decide +kernel
theorem dV_removeCovered_42 : decode mV_removeCovered.2.1 42 = .ok (.iload 4, 2) := by decide +kernel
theorem dV_removeCovered_44 : decode mV_removeCovered.2.1 44 = .ok (.iload_n 3, 1) := by decide +kernel
theorem dV_removeCovered_45 : decode mV_removeCovered.2.1 45 = .ok (.invokevirtual 30, 3) := by decide +kernel
theorem dV_removeCovered_48 : decode mV_removeCovered.2.1 48 = .ok (.aload_n 0, 1) := by decide +kernel
theorem dV_removeCovered_49 : decode mV_removeCovered.2.1 49 = .ok (.getfield 15, 3) := by decide +kernel
theorem dV_removeCovered_52 : decode mV_removeCovered.2.1 52 = .ok (.iload_n 3, 1) := by decide +kernel
theorem dV_removeCovered_53 : decode mV_removeCovered.2.1 53 = .ok (.iaload, 1) := by decide +kernel
theorem dV_removeCovered_54 : decode mV_removeCovered.2.1 54 = .ok (.iload_n 1, 1) := by decide +kernel
theorem dV_removeCovered_55 : decode mV_removeCovered.2.1 55 = .ok (.if_icmp .gt 8, 3) := by decide +kernel
theorem dV_removeCovered_58 : decode mV_removeCovered.2.1 58 = .ok (.iload_n 2, 1) := by decide +kernel
theorem dV_removeCovered_59 : decode mV_removeCovered.2.1 59 = .ok (.iload 5, 2) := by decide +kernel
theorem dV_removeCovered_61 : decode mV_removeCovered.2.1 61 = .ok (.ior, 1) := by decide +kernel
theorem dV_removeCovered_62 : decode mV_removeCovered.2.1 62 = .ok (.istore_n 2, 1) := by decide +kernel
theorem dV_removeCovered_63 : decode mV_removeCovered.2.1 63 = .ok (.iinc 4 (-1), 3) := by decide +kernel
theorem dV_removeCovered_66 : decode mV_removeCovered.2.1 66 = .ok (.goto (-51), 3) := by decide +kernel
theorem dV_removeCovered_69 : decode mV_removeCovered.2.1 69 = .ok (.iload_n 3, 1) := by decide +kernel
theorem dV_removeCovered_70 : decode mV_removeCovered.2.1 70 = .ok (.istore 4, 2) := by decide +kernel
theorem dV_removeCovered_72 : decode mV_removeCovered.2.1 72 = .ok (.iload 4, 2) := by decide +kernel
theorem dV_removeCovered_74 : decode mV_removeCovered.2.1 74 = .ok (.aload_n 0, 1) := by decide +kernel
theorem dV_removeCovered_75 : decode mV_removeCovered.2.1 75 = .ok (.getfield 22, 3) := by decide +kernel
theorem dV_removeCovered_78 : decode mV_removeCovered.2.1 78 = .ok (.if_icmp .ge 19, 3) := by decide +kernel
theorem dV_removeCovered_81 : decode mV_removeCovered.2.1 81 = .ok (.aload_n 0, 1) := by decide +kernel
theorem dV_removeCovered_82 : decode mV_removeCovered.2.1 82 = .ok (.iload 4, 2) := by decide +kernel
theorem dV_removeCovered_84 : decode mV_removeCovered.2.1 84 = .ok (.iload 4, 2) := by decide +kernel
theorem dV_removeCovered_86 : decode mV_removeCovered.2.1 86 = .ok (.iload_n 3, 1) := by decide +kernel
theorem dV_removeCovered_87 : decode mV_removeCovered.2.1 87 = .ok (.isub, 1) := by decide +kernel
theorem dV_removeCovered_88 : decode mV_removeCovered.2.1 88 = .ok (.invokevirtual 30, 3) := by decide +kernel
theorem dV_removeCovered_91 : decode mV_removeCovered.2.1 91 = .ok (.iinc 4 1, 3) := by decide +kernel
theorem dV_removeCovered_94 : decode mV_removeCovered.2.1 94 = .ok (.goto (-22), 3) := by decide +kernel
theorem dV_removeCovered_97 : decode mV_removeCovered.2.1 97 = .ok (.aload_n 0, 1) := by decide +kernel
theorem dV_removeCovered_98 : decode mV_removeCovered.2.1 98 = .ok (.dup, 1) := by decide +kernel
theorem dV_removeCovered_99 : decode mV_removeCovered.2.1 99 = .ok (.getfield 22, 3) := by decide +kernel
theorem dV_removeCovered_102 : decode mV_removeCovered.2.1 102 = .ok (.iload_n 3, 1) := by decide +kernel
theorem dV_removeCovered_103 : decode mV_removeCovered.2.1 103 = .ok (.isub, 1) := by decide +kernel
theorem dV_removeCovered_104 : decode mV_removeCovered.2.1 104 = .ok (.putfield 22, 3) := by decide +kernel
theorem dV_removeCovered_107 : decode mV_removeCovered.2.1 107 = .ok (.iload_n 3, 1) := by decide +kernel
theorem dV_removeCovered_108 : decode mV_removeCovered.2.1 108 = .ok (.ireturn, 1) := by decide +kernel
theorem dV_indexAt_0 : decode mV_indexAt.2.1 0 = .ok (.aload_n 0, 1) := by decide +kernel
theorem dV_indexAt_1 : decode mV_indexAt.2.1 1 = .ok (.getfield 22, 3) := by decide +kernel
theorem dV_indexAt_4 : decode mV_indexAt.2.1 4 = .ok (.iconst 1, 1) := by decide +kernel
theorem dV_indexAt_5 : decode mV_indexAt.2.1 5 = .ok (.isub, 1) := by decide +kernel
theorem dV_indexAt_6 : decode mV_indexAt.2.1 6 = .ok (.istore_n 3, 1) := by decide +kernel
theorem dV_indexAt_7 : decode mV_indexAt.2.1 7 = .ok (.iload_n 3, 1) := by decide +kernel
theorem dV_indexAt_8 : decode mV_indexAt.2.1 8 = .ok (.ifCond .lt 29, 3) := by decide +kernel
theorem dV_indexAt_11 : decode mV_indexAt.2.1 11 = .ok (.aload_n 0, 1) := by decide +kernel
theorem dV_indexAt_12 : decode mV_indexAt.2.1 12 = .ok (.getfield 9, 3) := by decide +kernel
theorem dV_indexAt_15 : decode mV_indexAt.2.1 15 = .ok (.iload_n 3, 1) := by decide +kernel
theorem dV_indexAt_16 : decode mV_indexAt.2.1 16 = .ok (.iaload, 1) := by decide +kernel
theorem dV_indexAt_17 : decode mV_indexAt.2.1 17 = .ok (.iload_n 1, 1) := by decide +kernel
theorem dV_indexAt_18 : decode mV_indexAt.2.1 18 = .ok (.if_icmp .ne 13, 3) := by decide +kernel
theorem dV_indexAt_21 : decode mV_indexAt.2.1 21 = .ok (.aload_n 0, 1) := by decide +kernel
theorem dV_indexAt_22 : decode mV_indexAt.2.1 22 = .ok (.getfield 15, 3) := by decide +kernel
theorem dV_indexAt_25 : decode mV_indexAt.2.1 25 = .ok (.iload_n 3, 1) := by decide +kernel
theorem dV_indexAt_26 : decode mV_indexAt.2.1 26 = .ok (.iaload, 1) := by decide +kernel
theorem dV_indexAt_27 : decode mV_indexAt.2.1 27 = .ok (.iload_n 2, 1) := by decide +kernel
theorem dV_indexAt_28 : decode mV_indexAt.2.1 28 = .ok (.if_icmp .le 9, 3) := by decide +kernel
theorem dV_indexAt_31 : decode mV_indexAt.2.1 31 = .ok (.iinc 3 (-1), 3) := by decide +kernel
theorem dV_indexAt_34 : decode mV_indexAt.2.1 34 = .ok (.goto (-27), 3) := by decide +kernel
theorem dV_indexAt_37 : decode mV_indexAt.2.1 37 = .ok (.iload_n 3, 1) := by decide +kernel
theorem dV_indexAt_38 : decode mV_indexAt.2.1 38 = .ok (.ireturn, 1) := by decide +kernel
theorem dV_move_0 : decode mV_move.2.1 0 = .ok (.aload_n 0, 1) := by decide +kernel
theorem dV_move_1 : decode mV_move.2.1 1 = .ok (.getfield 9, 3) := by decide +kernel
theorem dV_move_4 : decode mV_move.2.1 4 = .ok (.iload_n 2, 1) := by decide +kernel
theorem dV_move_5 : decode mV_move.2.1 5 = .ok (.aload_n 0, 1) := by decide +kernel
theorem dV_move_6 : decode mV_move.2.1 6 = .ok (.getfield 9, 3) := by decide +kernel
theorem dV_move_9 : decode mV_move.2.1 9 = .ok (.iload_n 1, 1) := by decide +kernel
theorem dV_move_10 : decode mV_move.2.1 10 = .ok (.iaload, 1) := by decide +kernel
theorem dV_move_11 : decode mV_move.2.1 11 = .ok (.iastore, 1) := by decide +kernel
theorem dV_move_12 : decode mV_move.2.1 12 = .ok (.aload_n 0, 1) := by decide +kernel
theorem dV_move_13 : decode mV_move.2.1 13 = .ok (.getfield 15, 3) := by decide +kernel
theorem dV_move_16 : decode mV_move.2.1 16 = .ok (.iload_n 2, 1) := by decide +kernel
theorem dV_move_17 : decode mV_move.2.1 17 = .ok (.aload_n 0, 1) := by decide +kernel
theorem dV_move_18 : decode mV_move.2.1 18 = .ok (.getfield 15, 3) := by decide +kernel
theorem dV_move_21 : decode mV_move.2.1 21 = .ok (.iload_n 1, 1) := by decide +kernel
theorem dV_move_22 : decode mV_move.2.1 22 = .ok (.iaload, 1) := by decide +kernel
theorem dV_move_23 : decode mV_move.2.1 23 = .ok (.iastore, 1) := by decide +kernel
theorem dV_move_24 : decode mV_move.2.1 24 = .ok (.aload_n 0, 1) := by decide +kernel
theorem dV_move_25 : decode mV_move.2.1 25 = .ok (.getfield 18, 3) := by decide +kernel
theorem dV_move_28 : decode mV_move.2.1 28 = .ok (.iload_n 2, 1) := by decide +kernel
theorem dV_move_29 : decode mV_move.2.1 29 = .ok (.aload_n 0, 1) := by decide +kernel
theorem dV_move_30 : decode mV_move.2.1 30 = .ok (.getfield 18, 3) := by decide +kernel
theorem dV_move_33 : decode mV_move.2.1 33 = .ok (.iload_n 1, 1) := by decide +kernel
theorem dV_move_34 : decode mV_move.2.1 34 = .ok (.laload, 1) := by decide +kernel
theorem dV_move_35 : decode mV_move.2.1 35 = .ok (.lastore, 1) := by decide +kernel
theorem dV_move_36 : decode mV_move.2.1 36 = .ok (.return_, 1) := by decide +kernel
end
section
theorem dJ_bitCount_0 : decode mJ_bitCount.2.1 0 = .ok (.iload_n 0, 1) := by decide +kernel
theorem dJ_bitCount_1 : decode mJ_bitCount.2.1 1 = .ok (.iload_n 0, 1) := by decide +kernel
theorem dJ_bitCount_2 : decode mJ_bitCount.2.1 2 = .ok (.iconst 1, 1) := by decide +kernel
theorem dJ_bitCount_3 : decode mJ_bitCount.2.1 3 = .ok (.iushr, 1) := by decide +kernel
theorem dJ_bitCount_4 : decode mJ_bitCount.2.1 4 = .ok (.ldc_w 265, 3) := by decide +kernel
theorem dJ_bitCount_7 : decode mJ_bitCount.2.1 7 = .ok (.iand, 1) := by decide +kernel
theorem dJ_bitCount_8 : decode mJ_bitCount.2.1 8 = .ok (.isub, 1) := by decide +kernel
theorem dJ_bitCount_9 : decode mJ_bitCount.2.1 9 = .ok (.istore_n 0, 1) := by decide +kernel
theorem dJ_bitCount_10 : decode mJ_bitCount.2.1 10 = .ok (.iload_n 0, 1) := by decide +kernel
theorem dJ_bitCount_11 : decode mJ_bitCount.2.1 11 = .ok (.ldc_w 266, 3) := by decide +kernel
theorem dJ_bitCount_14 : decode mJ_bitCount.2.1 14 = .ok (.iand, 1) := by decide +kernel
theorem dJ_bitCount_15 : decode mJ_bitCount.2.1 15 = .ok (.iload_n 0, 1) := by decide +kernel
theorem dJ_bitCount_16 : decode mJ_bitCount.2.1 16 = .ok (.iconst 2, 1) := by decide +kernel
theorem dJ_bitCount_17 : decode mJ_bitCount.2.1 17 = .ok (.iushr, 1) := by decide +kernel
theorem dJ_bitCount_18 : decode mJ_bitCount.2.1 18 = .ok (.ldc_w 266, 3) := by decide +kernel
theorem dJ_bitCount_21 : decode mJ_bitCount.2.1 21 = .ok (.iand, 1) := by decide +kernel
theorem dJ_bitCount_22 : decode mJ_bitCount.2.1 22 = .ok (.iadd, 1) := by decide +kernel
theorem dJ_bitCount_23 : decode mJ_bitCount.2.1 23 = .ok (.istore_n 0, 1) := by decide +kernel
theorem dJ_bitCount_24 : decode mJ_bitCount.2.1 24 = .ok (.iload_n 0, 1) := by decide +kernel
theorem dJ_bitCount_25 : decode mJ_bitCount.2.1 25 = .ok (.iload_n 0, 1) := by decide +kernel
theorem dJ_bitCount_26 : decode mJ_bitCount.2.1 26 = .ok (.iconst 4, 1) := by decide +kernel
theorem dJ_bitCount_27 : decode mJ_bitCount.2.1 27 = .ok (.iushr, 1) := by decide +kernel
theorem dJ_bitCount_28 : decode mJ_bitCount.2.1 28 = .ok (.iadd, 1) := by decide +kernel
theorem dJ_bitCount_29 : decode mJ_bitCount.2.1 29 = .ok (.ldc_w 267, 3) := by decide +kernel
theorem dJ_bitCount_32 : decode mJ_bitCount.2.1 32 = .ok (.iand, 1) := by decide +kernel
theorem dJ_bitCount_33 : decode mJ_bitCount.2.1 33 = .ok (.istore_n 0, 1) := by decide +kernel
theorem dJ_bitCount_34 : decode mJ_bitCount.2.1 34 = .ok (.iload_n 0, 1) := by decide +kernel
theorem dJ_bitCount_35 : decode mJ_bitCount.2.1 35 = .ok (.iload_n 0, 1) := by decide +kernel
theorem dJ_bitCount_36 : decode mJ_bitCount.2.1 36 = .ok (.bipush 8, 2) := by decide +kernel
theorem dJ_bitCount_38 : decode mJ_bitCount.2.1 38 = .ok (.iushr, 1) := by decide +kernel
theorem dJ_bitCount_39 : decode mJ_bitCount.2.1 39 = .ok (.iadd, 1) := by decide +kernel
theorem dJ_bitCount_40 : decode mJ_bitCount.2.1 40 = .ok (.istore_n 0, 1) := by decide +kernel
theorem dJ_bitCount_41 : decode mJ_bitCount.2.1 41 = .ok (.iload_n 0, 1) := by decide +kernel
theorem dJ_bitCount_42 : decode mJ_bitCount.2.1 42 = .ok (.iload_n 0, 1) := by decide +kernel
theorem dJ_bitCount_43 : decode mJ_bitCount.2.1 43 = .ok (.bipush 16, 2) := by decide +kernel
theorem dJ_bitCount_45 : decode mJ_bitCount.2.1 45 = .ok (.iushr, 1) := by decide +kernel
theorem dJ_bitCount_46 : decode mJ_bitCount.2.1 46 = .ok (.iadd, 1) := by decide +kernel
theorem dJ_bitCount_47 : decode mJ_bitCount.2.1 47 = .ok (.istore_n 0, 1) := by decide +kernel
theorem dJ_bitCount_48 : decode mJ_bitCount.2.1 48 = .ok (.iload_n 0, 1) := by decide +kernel
theorem dJ_bitCount_49 : decode mJ_bitCount.2.1 49 = .ok (.bipush 63, 2) := by decide +kernel
theorem dJ_bitCount_51 : decode mJ_bitCount.2.1 51 = .ok (.iand, 1) := by decide +kernel
theorem dJ_bitCount_52 : decode mJ_bitCount.2.1 52 = .ok (.ireturn, 1) := by decide +kernel
theorem dJ_min_0 : decode mJ_min.2.1 0 = .ok (.iload_n 0, 1) := by decide +kernel
theorem dJ_min_1 : decode mJ_min.2.1 1 = .ok (.iload_n 1, 1) := by decide +kernel
theorem dJ_min_2 : decode mJ_min.2.1 2 = .ok (.if_icmp .gt 7, 3) := by decide +kernel
theorem dJ_min_5 : decode mJ_min.2.1 5 = .ok (.iload_n 0, 1) := by decide +kernel
theorem dJ_min_6 : decode mJ_min.2.1 6 = .ok (.goto 4, 3) := by decide +kernel
theorem dJ_min_9 : decode mJ_min.2.1 9 = .ok (.iload_n 1, 1) := by decide +kernel
theorem dJ_min_10 : decode mJ_min.2.1 10 = .ok (.ireturn, 1) := by decide +kernel
end
section
theorem dM_init_0 : decode mM_init.2.1 0 = .ok (.aload_n 0, 1) := by decide +kernel
theorem dM_init_1 : decode mM_init.2.1 1 = .ok (.invokespecial 1, 3) := by decide +kernel
theorem dM_init_4 : decode mM_init.2.1 4 = .ok (.aload_n 0, 1) := by decide +kernel
theorem dM_init_5 : decode mM_init.2.1 5 = .ok (.bipush 16, 2) := by decide +kernel
theorem dM_init_7 : decode mM_init.2.1 7 = .ok (.newarray .boolean, 2) := by decide +kernel
theorem dM_init_9 : decode mM_init.2.1 9 = .ok (.putfield 9, 3) := by decide +kernel
theorem dM_init_12 : decode mM_init.2.1 12 = .ok (.aload_n 0, 1) := by decide +kernel
theorem dM_init_13 : decode mM_init.2.1 13 = .ok (.sipush 256, 3) := by decide +kernel
theorem dM_init_16 : decode mM_init.2.1 16 = .ok (.newarray .boolean, 2) := by decide +kernel
theorem dM_init_18 : decode mM_init.2.1 18 = .ok (.putfield 13, 3) := by decide +kernel
theorem dM_init_21 : decode mM_init.2.1 21 = .ok (.aload_n 0, 1) := by decide +kernel
theorem dM_init_22 : decode mM_init.2.1 22 = .ok (.sipush 2048, 3) := by decide +kernel
theorem dM_init_25 : decode mM_init.2.1 25 = .ok (.newarray .boolean, 2) := by decide +kernel
theorem dM_init_27 : decode mM_init.2.1 27 = .ok (.putfield 16, 3) := by decide +kernel
theorem dM_init_30 : decode mM_init.2.1 30 = .ok (.aload_n 0, 1) := by decide +kernel
theorem dM_init_31 : decode mM_init.2.1 31 = .ok (.bipush 16, 2) := by decide +kernel
theorem dM_init_33 : decode mM_init.2.1 33 = .ok (.newarray .int, 2) := by decide +kernel
theorem dM_init_35 : decode mM_init.2.1 35 = .ok (.putfield 19, 3) := by decide +kernel
theorem dM_init_38 : decode mM_init.2.1 38 = .ok (.aload_n 0, 1) := by decide +kernel
theorem dM_init_39 : decode mM_init.2.1 39 = .ok (.bipush 16, 2) := by decide +kernel
theorem dM_init_41 : decode mM_init.2.1 41 = .ok (.newarray .int, 2) := by decide +kernel
theorem dM_init_43 : decode mM_init.2.1 43 = .ok (.putfield 23, 3) := by decide +kernel
theorem dM_init_46 : decode mM_init.2.1 46 = .ok (.aload_n 0, 1) := by decide +kernel
theorem dM_init_47 : decode mM_init.2.1 47 = .ok (.bipush 16, 2) := by decide +kernel
theorem dM_init_49 : decode mM_init.2.1 49 = .ok (.newarray .int, 2) := by decide +kernel
theorem dM_init_51 : decode mM_init.2.1 51 = .ok (.putfield 26, 3) := by decide +kernel
theorem dM_init_54 : decode mM_init.2.1 54 = .ok (.aload_n 0, 1) := by decide +kernel
theorem dM_init_55 : decode mM_init.2.1 55 = .ok (.sipush 256, 3) := by decide +kernel
theorem dM_init_58 : decode mM_init.2.1 58 = .ok (.newarray .long, 2) := by decide +kernel
theorem dM_init_60 : decode mM_init.2.1 60 = .ok (.putfield 29, 3) := by decide +kernel
theorem dM_init_63 : decode mM_init.2.1 63 = .ok (.aload_n 0, 1) := by decide +kernel
theorem dM_init_64 : decode mM_init.2.1 64 = .ok (.sipush 2048, 3) := by decide +kernel
theorem dM_init_67 : decode mM_init.2.1 67 = .ok (.newarray .long, 2) := by decide +kernel
theorem dM_init_69 : decode mM_init.2.1 69 = .ok (.putfield 33, 3) := by decide +kernel
theorem dM_init_72 : decode mM_init.2.1 72 = .ok (.aload_n 0, 1) := by decide +kernel
theorem dM_init_73 : decode mM_init.2.1 73 = .ok (.bipush 16, 2) := by decide +kernel
theorem dM_init_75 : decode mM_init.2.1 75 = .ok (.newarray .int, 2) := by decide +kernel
theorem dM_init_77 : decode mM_init.2.1 77 = .ok (.putfield 36, 3) := by decide +kernel
theorem dM_init_80 : decode mM_init.2.1 80 = .ok (.aload_n 0, 1) := by decide +kernel
theorem dM_init_81 : decode mM_init.2.1 81 = .ok (.sipush 8320, 3) := by decide +kernel
theorem dM_init_84 : decode mM_init.2.1 84 = .ok (.newarray .int, 2) := by decide +kernel
theorem dM_init_86 : decode mM_init.2.1 86 = .ok (.putfield 39, 3) := by decide +kernel
theorem dM_init_89 : decode mM_init.2.1 89 = .ok (.aload_n 0, 1) := by decide +kernel
theorem dM_init_90 : decode mM_init.2.1 90 = .ok (.bipush 16, 2) := by decide +kernel
theorem dM_init_92 : decode mM_init.2.1 92 = .ok (.newarray .int, 2) := by decide +kernel
theorem dM_init_94 : decode mM_init.2.1 94 = .ok (.putfield 42, 3) := by decide +kernel
theorem dM_init_97 : decode mM_init.2.1 97 = .ok (.aload_n 0, 1) := by decide +kernel
theorem dM_init_98 : decode mM_init.2.1 98 = .ok (.sipush 8320, 3) := by decide +kernel
theorem dM_init_101 : decode mM_init.2.1 101 = .ok (.newarray .long, 2) := by decide +kernel
theorem dM_init_103 : decode mM_init.2.1 103 = .ok (.putfield 45, 3) := by decide +kernel
theorem dM_init_106 : decode mM_init.2.1 106 = .ok (.iconst 0, 1) := by decide +kernel
theorem dM_init_107 : decode mM_init.2.1 107 = .ok (.istore_n 1, 1) := by decide +kernel
theorem dM_init_108 : decode mM_init.2.1 108 = .ok (.iload_n 1, 1) := by decide +kernel
theorem dM_init_109 : decode mM_init.2.1 109 = .ok (.bipush 16, 2) := by decide +kernel
theorem dM_init_111 : decode mM_init.2.1 111 = .ok (.if_icmp .ge 16, 3) := by decide +kernel
theorem dM_init_114 : decode mM_init.2.1 114 = .ok (.aload_n 0, 1) := by decide +kernel
theorem dM_init_115 : decode mM_init.2.1 115 = .ok (.getfield 36, 3) := by decide +kernel
theorem dM_init_118 : decode mM_init.2.1 118 = .ok (.iload_n 1, 1) := by decide +kernel
theorem dM_init_119 : decode mM_init.2.1 119 = .ok (.iconst 1, 1) := by decide +kernel
theorem dM_init_120 : decode mM_init.2.1 120 = .ok (.iastore, 1) := by decide +kernel
theorem dM_init_121 : decode mM_init.2.1 121 = .ok (.iinc 1 1, 3) := by decide +kernel
theorem dM_init_124 : decode mM_init.2.1 124 = .ok (.goto (-16), 3) := by decide +kernel
theorem dM_init_127 : decode mM_init.2.1 127 = .ok (.return_, 1) := by decide +kernel
theorem dM_thrown_0 : decode mM_thrown.2.1 0 = .ok (.aload_n 0, 1) := by decide +kernel
theorem dM_thrown_1 : decode mM_thrown.2.1 1 = .ok (.getfield 48, 3) := by decide +kernel
theorem dM_thrown_4 : decode mM_thrown.2.1 4 = .ok (.ireturn, 1) := by decide +kernel
theorem dM_fail_0 : decode mM_fail.2.1 0 = .ok (.aload_n 0, 1) := by decide +kernel
theorem dM_fail_1 : decode mM_fail.2.1 1 = .ok (.iload_n 1, 1) := by decide +kernel
theorem dM_fail_2 : decode mM_fail.2.1 2 = .ok (.putfield 48, 3) := by decide +kernel
theorem dM_fail_5 : decode mM_fail.2.1 5 = .ok (.iconst 0, 1) := by decide +kernel
theorem dM_fail_6 : decode mM_fail.2.1 6 = .ok (.ireturn, 1) := by decide +kernel
theorem dM_no_0 : decode mM_no.2.1 0 = .ok (.aload_n 0, 1) := by decide +kernel
theorem dM_no_1 : decode mM_no.2.1 1 = .ok (.iload_n 1, 1) := by decide +kernel
theorem dM_no_2 : decode mM_no.2.1 2 = .ok (.ifCond .lt 18, 3) := by decide +kernel
theorem dM_no_5 : decode mM_no.2.1 5 = .ok (.iload_n 1, 1) := by decide +kernel
theorem dM_no_6 : decode mM_no.2.1 6 = .ok (.bipush 16, 2) := by decide +kernel
theorem dM_no_8 : decode mM_no.2.1 8 = .ok (.if_icmp .ge 12, 3) := by decide +kernel
theorem dM_no_11 : decode mM_no.2.1 11 = .ok (.aload_n 0, 1) := by decide +kernel
theorem dM_no_12 : decode mM_no.2.1 12 = .ok (.getfield 9, 3) := by decide +kernel
theorem dM_no_15 : decode mM_no.2.1 15 = .ok (.iload_n 1, 1) := by decide +kernel
theorem dM_no_16 : decode mM_no.2.1 16 = .ok (.baload, 1) := by decide +kernel
theorem dM_no_17 : decode mM_no.2.1 17 = .ok (.ifCond .ne 7, 3) := by decide +kernel
theorem dM_no_20 : decode mM_no.2.1 20 = .ok (.iconst 1, 1) := by decide +kernel
theorem dM_no_21 : decode mM_no.2.1 21 = .ok (.goto 4, 3) := by decide +kernel
theorem dM_no_24 : decode mM_no.2.1 24 = .ok (.iconst 0, 1) := by decide +kernel
theorem dM_no_25 : decode mM_no.2.1 25 = .ok (.putfield 48, 3) := by decide +kernel
theorem dM_no_28 : decode mM_no.2.1 28 = .ok (.aload_n 0, 1) := by decide +kernel
theorem dM_no_29 : decode mM_no.2.1 29 = .ok (.getfield 48, 3) := by decide +kernel
theorem dM_no_32 : decode mM_no.2.1 32 = .ok (.ifCond .le 7, 3) := by decide +kernel
theorem dM_no_35 : decode mM_no.2.1 35 = .ok (.iconst 1, 1) := by decide +kernel
theorem dM_no_36 : decode mM_no.2.1 36 = .ok (.goto 4, 3) := by decide +kernel
theorem dM_no_39 : decode mM_no.2.1 39 = .ok (.iconst 0, 1) := by decide +kernel
theorem dM_no_40 : decode mM_no.2.1 40 = .ok (.ireturn, 1) := by decide +kernel
theorem dM_none_0 : decode mM_none.2.1 0 = .ok (.aload_n 0, 1) := by decide +kernel
theorem dM_none_1 : decode mM_none.2.1 1 = .ok (.iload_n 1, 1) := by decide +kernel
theorem dM_none_2 : decode mM_none.2.1 2 = .ok (.invokevirtual 52, 3) := by decide +kernel
theorem dM_none_5 : decode mM_none.2.1 5 = .ok (.ifCond .ne 18, 3) := by decide +kernel
theorem dM_none_8 : decode mM_none.2.1 8 = .ok (.iload_n 2, 1) := by decide +kernel
theorem dM_none_9 : decode mM_none.2.1 9 = .ok (.ifCond .lt 9, 3) := by decide +kernel
theorem dM_none_12 : decode mM_none.2.1 12 = .ok (.iload_n 2, 1) := by decide +kernel
theorem dM_none_13 : decode mM_none.2.1 13 = .ok (.bipush 16, 2) := by decide +kernel
theorem dM_none_15 : decode mM_none.2.1 15 = .ok (.if_icmp .lt 8, 3) := by decide +kernel
theorem dM_none_18 : decode mM_none.2.1 18 = .ok (.aload_n 0, 1) := by decide +kernel
theorem dM_none_19 : decode mM_none.2.1 19 = .ok (.iconst 1, 1) := by decide +kernel
theorem dM_none_20 : decode mM_none.2.1 20 = .ok (.putfield 48, 3) := by decide +kernel
theorem dM_none_23 : decode mM_none.2.1 23 = .ok (.aload_n 0, 1) := by decide +kernel
theorem dM_none_24 : decode mM_none.2.1 24 = .ok (.getfield 48, 3) := by decide +kernel
theorem dM_none_27 : decode mM_none.2.1 27 = .ok (.ifCond .le 7, 3) := by decide +kernel
theorem dM_none_30 : decode mM_none.2.1 30 = .ok (.iconst 1, 1) := by decide +kernel
theorem dM_none_31 : decode mM_none.2.1 31 = .ok (.goto 4, 3) := by decide +kernel
theorem dM_none_34 : decode mM_none.2.1 34 = .ok (.iconst 0, 1) := by decide +kernel
theorem dM_none_35 : decode mM_none.2.1 35 = .ok (.ireturn, 1) := by decide +kernel
theorem dM_now_0 : decode mM_now.2.1 0 = .ok (.aload_n 0, 1) := by decide +kernel
theorem dM_now_1 : decode mM_now.2.1 1 = .ok (.getfield 45, 3) := by decide +kernel
theorem dM_now_4 : decode mM_now.2.1 4 = .ok (.sipush 520, 3) := by decide +kernel
theorem dM_now_7 : decode mM_now.2.1 7 = .ok (.iload_n 1, 1) := by decide +kernel
theorem dM_now_8 : decode mM_now.2.1 8 = .ok (.imul, 1) := by decide +kernel
theorem dM_now_9 : decode mM_now.2.1 9 = .ok (.aload_n 0, 1) := by decide +kernel
theorem dM_now_10 : decode mM_now.2.1 10 = .ok (.getfield 36, 3) := by decide +kernel
theorem dM_now_13 : decode mM_now.2.1 13 = .ok (.iload_n 1, 1) := by decide +kernel
theorem dM_now_14 : decode mM_now.2.1 14 = .ok (.iaload, 1) := by decide +kernel
theorem dM_now_15 : decode mM_now.2.1 15 = .ok (.iadd, 1) := by decide +kernel
theorem dM_now_16 : decode mM_now.2.1 16 = .ok (.iconst 1, 1) := by decide +kernel
theorem dM_now_17 : decode mM_now.2.1 17 = .ok (.isub, 1) := by decide +kernel
theorem dM_now_18 : decode mM_now.2.1 18 = .ok (.laload, 1) := by decide +kernel
theorem dM_now_19 : decode mM_now.2.1 19 = .ok (.lreturn, 1) := by decide +kernel
theorem dM_layerOf_0 : decode mM_layerOf.2.1 0 = .ok (.aload_n 0, 1) := by decide +kernel
theorem dM_layerOf_1 : decode mM_layerOf.2.1 1 = .ok (.getfield 26, 3) := by decide +kernel
theorem dM_layerOf_4 : decode mM_layerOf.2.1 4 = .ok (.iload_n 1, 1) := by decide +kernel
theorem dM_layerOf_5 : decode mM_layerOf.2.1 5 = .ok (.iaload, 1) := by decide +kernel
theorem dM_layerOf_6 : decode mM_layerOf.2.1 6 = .ok (.iconst 1, 1) := by decide +kernel
theorem dM_layerOf_7 : decode mM_layerOf.2.1 7 = .ok (.isub, 1) := by decide +kernel
theorem dM_layerOf_8 : decode mM_layerOf.2.1 8 = .ok (.istore_n 3, 1) := by decide +kernel
theorem dM_layerOf_9 : decode mM_layerOf.2.1 9 = .ok (.iload_n 3, 1) := by decide +kernel
theorem dM_layerOf_10 : decode mM_layerOf.2.1 10 = .ok (.ifCond .lt 30, 3) := by decide +kernel
theorem dM_layerOf_13 : decode mM_layerOf.2.1 13 = .ok (.aload_n 0, 1) := by decide +kernel
theorem dM_layerOf_14 : decode mM_layerOf.2.1 14 = .ok (.getfield 16, 3) := by decide +kernel
theorem dM_layerOf_17 : decode mM_layerOf.2.1 17 = .ok (.bipush 8, 2) := by decide +kernel
theorem dM_layerOf_19 : decode mM_layerOf.2.1 19 = .ok (.iload_n 1, 1) := by decide +kernel
theorem dM_layerOf_20 : decode mM_layerOf.2.1 20 = .ok (.imul, 1) := by decide +kernel
theorem dM_layerOf_21 : decode mM_layerOf.2.1 21 = .ok (.iload_n 3, 1) := by decide +kernel
theorem dM_layerOf_22 : decode mM_layerOf.2.1 22 = .ok (.iadd, 1) := by decide +kernel
theorem dM_layerOf_23 : decode mM_layerOf.2.1 23 = .ok (.bipush 16, 2) := by decide +kernel
theorem dM_layerOf_25 : decode mM_layerOf.2.1 25 = .ok (.imul, 1) := by decide +kernel
theorem dM_layerOf_26 : decode mM_layerOf.2.1 26 = .ok (.iload_n 2, 1) := by decide +kernel
theorem dM_layerOf_27 : decode mM_layerOf.2.1 27 = .ok (.iadd, 1) := by decide +kernel
theorem dM_layerOf_28 : decode mM_layerOf.2.1 28 = .ok (.baload, 1) := by decide +kernel
theorem dM_layerOf_29 : decode mM_layerOf.2.1 29 = .ok (.ifCond .eq 5, 3) := by decide +kernel
theorem dM_layerOf_32 : decode mM_layerOf.2.1 32 = .ok (.iload_n 3, 1) := by decide +kernel
theorem dM_layerOf_33 : decode mM_layerOf.2.1 33 = .ok (.ireturn, 1) := by decide +kernel
theorem dM_layerOf_34 : decode mM_layerOf.2.1 34 = .ok (.iinc 3 (-1), 3) := by decide +kernel
theorem dM_layerOf_37 : decode mM_layerOf.2.1 37 = .ok (.goto (-28), 3) := by decide +kernel
theorem dM_layerOf_40 : decode mM_layerOf.2.1 40 = .ok (.iconst (-1), 1) := by decide +kernel
theorem dM_layerOf_41 : decode mM_layerOf.2.1 41 = .ok (.ireturn, 1) := by decide +kernel
theorem dM_reading_0 : decode mM_reading.2.1 0 = .ok (.aload_n 0, 1) := by decide +kernel
theorem dM_reading_1 : decode mM_reading.2.1 1 = .ok (.iload_n 1, 1) := by decide +kernel
theorem dM_reading_2 : decode mM_reading.2.1 2 = .ok (.iload_n 2, 1) := by decide +kernel
theorem dM_reading_3 : decode mM_reading.2.1 3 = .ok (.invokevirtual 56, 3) := by decide +kernel
theorem dM_reading_6 : decode mM_reading.2.1 6 = .ok (.istore_n 3, 1) := by decide +kernel
theorem dM_reading_7 : decode mM_reading.2.1 7 = .ok (.iload_n 3, 1) := by decide +kernel
theorem dM_reading_8 : decode mM_reading.2.1 8 = .ok (.iconst (-1), 1) := by decide +kernel
theorem dM_reading_9 : decode mM_reading.2.1 9 = .ok (.if_icmp .ne 17, 3) := by decide +kernel
theorem dM_reading_12 : decode mM_reading.2.1 12 = .ok (.aload_n 0, 1) := by decide +kernel
theorem dM_reading_13 : decode mM_reading.2.1 13 = .ok (.getfield 29, 3) := by decide +kernel
theorem dM_reading_16 : decode mM_reading.2.1 16 = .ok (.bipush 16, 2) := by decide +kernel
theorem dM_reading_18 : decode mM_reading.2.1 18 = .ok (.iload_n 1, 1) := by decide +kernel
theorem dM_reading_19 : decode mM_reading.2.1 19 = .ok (.imul, 1) := by decide +kernel
theorem dM_reading_20 : decode mM_reading.2.1 20 = .ok (.iload_n 2, 1) := by decide +kernel
theorem dM_reading_21 : decode mM_reading.2.1 21 = .ok (.iadd, 1) := by decide +kernel
theorem dM_reading_22 : decode mM_reading.2.1 22 = .ok (.laload, 1) := by decide +kernel
theorem dM_reading_23 : decode mM_reading.2.1 23 = .ok (.goto 19, 3) := by decide +kernel
theorem dM_reading_26 : decode mM_reading.2.1 26 = .ok (.aload_n 0, 1) := by decide +kernel
theorem dM_reading_27 : decode mM_reading.2.1 27 = .ok (.getfield 33, 3) := by decide +kernel
theorem dM_reading_30 : decode mM_reading.2.1 30 = .ok (.bipush 8, 2) := by decide +kernel
theorem dM_reading_32 : decode mM_reading.2.1 32 = .ok (.iload_n 1, 1) := by decide +kernel
theorem dM_reading_33 : decode mM_reading.2.1 33 = .ok (.imul, 1) := by decide +kernel
theorem dM_reading_34 : decode mM_reading.2.1 34 = .ok (.iload_n 3, 1) := by decide +kernel
theorem dM_reading_35 : decode mM_reading.2.1 35 = .ok (.iadd, 1) := by decide +kernel
theorem dM_reading_36 : decode mM_reading.2.1 36 = .ok (.bipush 16, 2) := by decide +kernel
theorem dM_reading_38 : decode mM_reading.2.1 38 = .ok (.imul, 1) := by decide +kernel
theorem dM_reading_39 : decode mM_reading.2.1 39 = .ok (.iload_n 2, 1) := by decide +kernel
theorem dM_reading_40 : decode mM_reading.2.1 40 = .ok (.iadd, 1) := by decide +kernel
theorem dM_reading_41 : decode mM_reading.2.1 41 = .ok (.laload, 1) := by decide +kernel
theorem dM_reading_42 : decode mM_reading.2.1 42 = .ok (.lreturn, 1) := by decide +kernel
theorem dM_isSpoiled_0 : decode mM_isSpoiled.2.1 0 = .ok (.aload_n 0, 1) := by decide +kernel
theorem dM_isSpoiled_1 : decode mM_isSpoiled.2.1 1 = .ok (.getfield 42, 3) := by decide +kernel
theorem dM_isSpoiled_4 : decode mM_isSpoiled.2.1 4 = .ok (.iload_n 2, 1) := by decide +kernel
theorem dM_isSpoiled_5 : decode mM_isSpoiled.2.1 5 = .ok (.iaload, 1) := by decide +kernel
theorem dM_isSpoiled_6 : decode mM_isSpoiled.2.1 6 = .ok (.aload_n 0, 1) := by decide +kernel
theorem dM_isSpoiled_7 : decode mM_isSpoiled.2.1 7 = .ok (.getfield 19, 3) := by decide +kernel
theorem dM_isSpoiled_10 : decode mM_isSpoiled.2.1 10 = .ok (.iload_n 1, 1) := by decide +kernel
theorem dM_isSpoiled_11 : decode mM_isSpoiled.2.1 11 = .ok (.iaload, 1) := by decide +kernel
theorem dM_isSpoiled_12 : decode mM_isSpoiled.2.1 12 = .ok (.if_icmp .le 41, 3) := by decide +kernel
theorem dM_isSpoiled_15 : decode mM_isSpoiled.2.1 15 = .ok (.aload_n 0, 1) := by decide +kernel
theorem dM_isSpoiled_16 : decode mM_isSpoiled.2.1 16 = .ok (.iload_n 1, 1) := by decide +kernel
theorem dM_isSpoiled_17 : decode mM_isSpoiled.2.1 17 = .ok (.iload_n 2, 1) := by decide +kernel
theorem dM_isSpoiled_18 : decode mM_isSpoiled.2.1 18 = .ok (.invokevirtual 56, 3) := by decide +kernel
theorem dM_isSpoiled_21 : decode mM_isSpoiled.2.1 21 = .ok (.iconst (-1), 1) := by decide +kernel
theorem dM_isSpoiled_22 : decode mM_isSpoiled.2.1 22 = .ok (.if_icmp .ne 27, 3) := by decide +kernel
theorem dM_isSpoiled_25 : decode mM_isSpoiled.2.1 25 = .ok (.aload_n 0, 1) := by decide +kernel
theorem dM_isSpoiled_26 : decode mM_isSpoiled.2.1 26 = .ok (.getfield 23, 3) := by decide +kernel
theorem dM_isSpoiled_29 : decode mM_isSpoiled.2.1 29 = .ok (.iload_n 1, 1) := by decide +kernel
theorem dM_isSpoiled_30 : decode mM_isSpoiled.2.1 30 = .ok (.iaload, 1) := by decide +kernel
theorem dM_isSpoiled_31 : decode mM_isSpoiled.2.1 31 = .ok (.iconst 1, 1) := by decide +kernel
theorem dM_isSpoiled_32 : decode mM_isSpoiled.2.1 32 = .ok (.if_icmp .ne 21, 3) := by decide +kernel
theorem dM_isSpoiled_35 : decode mM_isSpoiled.2.1 35 = .ok (.aload_n 0, 1) := by decide +kernel
theorem dM_isSpoiled_36 : decode mM_isSpoiled.2.1 36 = .ok (.getfield 13, 3) := by decide +kernel
theorem dM_isSpoiled_39 : decode mM_isSpoiled.2.1 39 = .ok (.bipush 16, 2) := by decide +kernel
theorem dM_isSpoiled_41 : decode mM_isSpoiled.2.1 41 = .ok (.iload_n 1, 1) := by decide +kernel
theorem dM_isSpoiled_42 : decode mM_isSpoiled.2.1 42 = .ok (.imul, 1) := by decide +kernel
theorem dM_isSpoiled_43 : decode mM_isSpoiled.2.1 43 = .ok (.iload_n 2, 1) := by decide +kernel
theorem dM_isSpoiled_44 : decode mM_isSpoiled.2.1 44 = .ok (.iadd, 1) := by decide +kernel
theorem dM_isSpoiled_45 : decode mM_isSpoiled.2.1 45 = .ok (.baload, 1) := by decide +kernel
theorem dM_isSpoiled_46 : decode mM_isSpoiled.2.1 46 = .ok (.ifCond .eq 7, 3) := by decide +kernel
theorem dM_isSpoiled_49 : decode mM_isSpoiled.2.1 49 = .ok (.iconst 1, 1) := by decide +kernel
theorem dM_isSpoiled_50 : decode mM_isSpoiled.2.1 50 = .ok (.goto 4, 3) := by decide +kernel
theorem dM_isSpoiled_53 : decode mM_isSpoiled.2.1 53 = .ok (.iconst 0, 1) := by decide +kernel
theorem dM_isSpoiled_54 : decode mM_isSpoiled.2.1 54 = .ok (.ireturn, 1) := by decide +kernel
theorem dM_written_0 : decode mM_written.2.1 0 = .ok (.iconst 0, 1) := by decide +kernel
theorem dM_written_1 : decode mM_written.2.1 1 = .ok (.istore_n 2, 1) := by decide +kernel
theorem dM_written_2 : decode mM_written.2.1 2 = .ok (.iconst 0, 1) := by decide +kernel
theorem dM_written_3 : decode mM_written.2.1 3 = .ok (.istore_n 3, 1) := by decide +kernel
theorem dM_written_4 : decode mM_written.2.1 4 = .ok (.iload_n 3, 1) := by decide +kernel
theorem dM_written_5 : decode mM_written.2.1 5 = .ok (.bipush 16, 2) := by decide +kernel
theorem dM_written_7 : decode mM_written.2.1 7 = .ok (.if_icmp .ge 22, 3) := by decide +kernel
theorem dM_written_10 : decode mM_written.2.1 10 = .ok (.aload_n 0, 1) := by decide +kernel
theorem dM_written_11 : decode mM_written.2.1 11 = .ok (.iload_n 1, 1) := by decide +kernel
theorem dM_written_12 : decode mM_written.2.1 12 = .ok (.iload_n 3, 1) := by decide +kernel
theorem dM_written_13 : decode mM_written.2.1 13 = .ok (.invokevirtual 56, 3) := by decide +kernel
theorem dM_written_16 : decode mM_written.2.1 16 = .ok (.iconst (-1), 1) := by decide +kernel
theorem dM_written_17 : decode mM_written.2.1 17 = .ok (.if_icmp .eq 6, 3) := by decide +kernel
theorem dM_written_20 : decode mM_written.2.1 20 = .ok (.iinc 2 1, 3) := by decide +kernel
theorem dM_written_23 : decode mM_written.2.1 23 = .ok (.iinc 3 1, 3) := by decide +kernel
theorem dM_written_26 : decode mM_written.2.1 26 = .ok (.goto (-22), 3) := by decide +kernel
theorem dM_written_29 : decode mM_written.2.1 29 = .ok (.iload_n 2, 1) := by decide +kernel
theorem dM_written_30 : decode mM_written.2.1 30 = .ok (.ireturn, 1) := by decide +kernel
theorem dM_spoils_0 : decode mM_spoils.2.1 0 = .ok (.iconst 0, 1) := by decide +kernel
theorem dM_spoils_1 : decode mM_spoils.2.1 1 = .ok (.istore_n 2, 1) := by decide +kernel
theorem dM_spoils_2 : decode mM_spoils.2.1 2 = .ok (.iconst 0, 1) := by decide +kernel
theorem dM_spoils_3 : decode mM_spoils.2.1 3 = .ok (.istore_n 3, 1) := by decide +kernel
theorem dM_spoils_4 : decode mM_spoils.2.1 4 = .ok (.iload_n 3, 1) := by decide +kernel
theorem dM_spoils_5 : decode mM_spoils.2.1 5 = .ok (.bipush 16, 2) := by decide +kernel
theorem dM_spoils_7 : decode mM_spoils.2.1 7 = .ok (.if_icmp .ge 21, 3) := by decide +kernel
theorem dM_spoils_10 : decode mM_spoils.2.1 10 = .ok (.aload_n 0, 1) := by decide +kernel
theorem dM_spoils_11 : decode mM_spoils.2.1 11 = .ok (.iload_n 1, 1) := by decide +kernel
theorem dM_spoils_12 : decode mM_spoils.2.1 12 = .ok (.iload_n 3, 1) := by decide +kernel
theorem dM_spoils_13 : decode mM_spoils.2.1 13 = .ok (.invokevirtual 60, 3) := by decide +kernel
theorem dM_spoils_16 : decode mM_spoils.2.1 16 = .ok (.ifCond .eq 6, 3) := by decide +kernel
theorem dM_spoils_19 : decode mM_spoils.2.1 19 = .ok (.iinc 2 1, 3) := by decide +kernel
theorem dM_spoils_22 : decode mM_spoils.2.1 22 = .ok (.iinc 3 1, 3) := by decide +kernel
theorem dM_spoils_25 : decode mM_spoils.2.1 25 = .ok (.goto (-21), 3) := by decide +kernel
theorem dM_spoils_28 : decode mM_spoils.2.1 28 = .ok (.iload_n 2, 1) := by decide +kernel
theorem dM_spoils_29 : decode mM_spoils.2.1 29 = .ok (.ireturn, 1) := by decide +kernel
theorem dM_all_0 : decode mM_all.2.1 0 = .ok (.iconst 0, 1) := by decide +kernel
theorem dM_all_1 : decode mM_all.2.1 1 = .ok (.istore_n 1, 1) := by decide +kernel
theorem dM_all_2 : decode mM_all.2.1 2 = .ok (.iconst 0, 1) := by decide +kernel
theorem dM_all_3 : decode mM_all.2.1 3 = .ok (.istore_n 2, 1) := by decide +kernel
theorem dM_all_4 : decode mM_all.2.1 4 = .ok (.iload_n 2, 1) := by decide +kernel
theorem dM_all_5 : decode mM_all.2.1 5 = .ok (.bipush 16, 2) := by decide +kernel
theorem dM_all_7 : decode mM_all.2.1 7 = .ok (.if_icmp .ge 18, 3) := by decide +kernel
theorem dM_all_10 : decode mM_all.2.1 10 = .ok (.iload_n 1, 1) := by decide +kernel
theorem dM_all_11 : decode mM_all.2.1 11 = .ok (.aload_n 0, 1) := by decide +kernel
theorem dM_all_12 : decode mM_all.2.1 12 = .ok (.getfield 36, 3) := by decide +kernel
theorem dM_all_15 : decode mM_all.2.1 15 = .ok (.iload_n 2, 1) := by decide +kernel
theorem dM_all_16 : decode mM_all.2.1 16 = .ok (.iaload, 1) := by decide +kernel
theorem dM_all_17 : decode mM_all.2.1 17 = .ok (.iadd, 1) := by decide +kernel
theorem dM_all_18 : decode mM_all.2.1 18 = .ok (.istore_n 1, 1) := by decide +kernel
theorem dM_all_19 : decode mM_all.2.1 19 = .ok (.iinc 2 1, 3) := by decide +kernel
theorem dM_all_22 : decode mM_all.2.1 22 = .ok (.goto (-18), 3) := by decide +kernel
theorem dM_all_25 : decode mM_all.2.1 25 = .ok (.iload_n 1, 1) := by decide +kernel
theorem dM_all_26 : decode mM_all.2.1 26 = .ok (.ireturn, 1) := by decide +kernel
theorem dM_floor_0 : decode mM_floor.2.1 0 = .ok (.aload_n 0, 1) := by decide +kernel
theorem dM_floor_1 : decode mM_floor.2.1 1 = .ok (.getfield 64, 3) := by decide +kernel
theorem dM_floor_4 : decode mM_floor.2.1 4 = .ok (.istore_n 1, 1) := by decide +kernel
theorem dM_floor_5 : decode mM_floor.2.1 5 = .ok (.iconst 0, 1) := by decide +kernel
theorem dM_floor_6 : decode mM_floor.2.1 6 = .ok (.istore_n 2, 1) := by decide +kernel
theorem dM_floor_7 : decode mM_floor.2.1 7 = .ok (.iload_n 2, 1) := by decide +kernel
theorem dM_floor_8 : decode mM_floor.2.1 8 = .ok (.bipush 16, 2) := by decide +kernel
theorem dM_floor_10 : decode mM_floor.2.1 10 = .ok (.if_icmp .ge 29, 3) := by decide +kernel
theorem dM_floor_13 : decode mM_floor.2.1 13 = .ok (.aload_n 0, 1) := by decide +kernel
theorem dM_floor_14 : decode mM_floor.2.1 14 = .ok (.getfield 9, 3) := by decide +kernel
theorem dM_floor_17 : decode mM_floor.2.1 17 = .ok (.iload_n 2, 1) := by decide +kernel
theorem dM_floor_18 : decode mM_floor.2.1 18 = .ok (.baload, 1) := by decide +kernel
theorem dM_floor_19 : decode mM_floor.2.1 19 = .ok (.ifCond .eq 14, 3) := by decide +kernel
theorem dM_floor_22 : decode mM_floor.2.1 22 = .ok (.iload_n 1, 1) := by decide +kernel
theorem dM_floor_23 : decode mM_floor.2.1 23 = .ok (.aload_n 0, 1) := by decide +kernel
theorem dM_floor_24 : decode mM_floor.2.1 24 = .ok (.getfield 19, 3) := by decide +kernel
theorem dM_floor_27 : decode mM_floor.2.1 27 = .ok (.iload_n 2, 1) := by decide +kernel
theorem dM_floor_28 : decode mM_floor.2.1 28 = .ok (.iaload, 1) := by decide +kernel
theorem dM_floor_29 : decode mM_floor.2.1 29 = .ok (.invokestatic 67, 3) := by decide +kernel
theorem dM_floor_32 : decode mM_floor.2.1 32 = .ok (.istore_n 1, 1) := by decide +kernel
theorem dM_floor_33 : decode mM_floor.2.1 33 = .ok (.iinc 2 1, 3) := by decide +kernel
theorem dM_floor_36 : decode mM_floor.2.1 36 = .ok (.goto (-29), 3) := by decide +kernel
theorem dM_floor_39 : decode mM_floor.2.1 39 = .ok (.iload_n 1, 1) := by decide +kernel
theorem dM_floor_40 : decode mM_floor.2.1 40 = .ok (.ireturn, 1) := by decide +kernel
theorem dM_clear_0 : decode mM_clear.2.1 0 = .ok (.iconst 0, 1) := by decide +kernel
theorem dM_clear_1 : decode mM_clear.2.1 1 = .ok (.istore_n 3, 1) := by decide +kernel
theorem dM_clear_2 : decode mM_clear.2.1 2 = .ok (.iload_n 3, 1) := by decide +kernel
theorem dM_clear_3 : decode mM_clear.2.1 3 = .ok (.bipush 16, 2) := by decide +kernel
theorem dM_clear_5 : decode mM_clear.2.1 5 = .ok (.if_icmp .ge 26, 3) := by decide +kernel
theorem dM_clear_8 : decode mM_clear.2.1 8 = .ok (.aload_n 0, 1) := by decide +kernel
theorem dM_clear_9 : decode mM_clear.2.1 9 = .ok (.getfield 16, 3) := by decide +kernel
theorem dM_clear_12 : decode mM_clear.2.1 12 = .ok (.bipush 8, 2) := by decide +kernel
theorem dM_clear_14 : decode mM_clear.2.1 14 = .ok (.iload_n 1, 1) := by decide +kernel
theorem dM_clear_15 : decode mM_clear.2.1 15 = .ok (.imul, 1) := by decide +kernel
theorem dM_clear_16 : decode mM_clear.2.1 16 = .ok (.iload_n 2, 1) := by decide +kernel
theorem dM_clear_17 : decode mM_clear.2.1 17 = .ok (.iadd, 1) := by decide +kernel
theorem dM_clear_18 : decode mM_clear.2.1 18 = .ok (.bipush 16, 2) := by decide +kernel
theorem dM_clear_20 : decode mM_clear.2.1 20 = .ok (.imul, 1) := by decide +kernel
theorem dM_clear_21 : decode mM_clear.2.1 21 = .ok (.iload_n 3, 1) := by decide +kernel
theorem dM_clear_22 : decode mM_clear.2.1 22 = .ok (.iadd, 1) := by decide +kernel
theorem dM_clear_23 : decode mM_clear.2.1 23 = .ok (.iconst 0, 1) := by decide +kernel
theorem dM_clear_24 : decode mM_clear.2.1 24 = .ok (.bastore, 1) := by decide +kernel
theorem dM_clear_25 : decode mM_clear.2.1 25 = .ok (.iinc 3 1, 3) := by decide +kernel
theorem dM_clear_28 : decode mM_clear.2.1 28 = .ok (.goto (-26), 3) := by decide +kernel
theorem dM_clear_31 : decode mM_clear.2.1 31 = .ok (.return_, 1) := by decide +kernel
theorem dM_begin_0 : decode mM_begin.2.1 0 = .ok (.aload_n 0, 1) := by decide +kernel
theorem dM_begin_1 : decode mM_begin.2.1 1 = .ok (.iconst 0, 1) := by decide +kernel
theorem dM_begin_2 : decode mM_begin.2.1 2 = .ok (.putfield 48, 3) := by decide +kernel
theorem dM_begin_5 : decode mM_begin.2.1 5 = .ok (.iload_n 1, 1) := by decide +kernel
theorem dM_begin_6 : decode mM_begin.2.1 6 = .ok (.ifCond .lt 8, 3) := by decide +kernel
theorem dM_begin_9 : decode mM_begin.2.1 9 = .ok (.iload_n 1, 1) := by decide +kernel
theorem dM_begin_10 : decode mM_begin.2.1 10 = .ok (.iconst 1, 1) := by decide +kernel
theorem dM_begin_11 : decode mM_begin.2.1 11 = .ok (.if_icmp .le 9, 3) := by decide +kernel
theorem dM_begin_14 : decode mM_begin.2.1 14 = .ok (.aload_n 0, 1) := by decide +kernel
theorem dM_begin_15 : decode mM_begin.2.1 15 = .ok (.iconst 1, 1) := by decide +kernel
theorem dM_begin_16 : decode mM_begin.2.1 16 = .ok (.invokevirtual 72, 3) := by decide +kernel
theorem dM_begin_19 : decode mM_begin.2.1 19 = .ok (.ireturn, 1) := by decide +kernel
theorem dM_begin_20 : decode mM_begin.2.1 20 = .ok (.iconst 0, 1) := by decide +kernel
theorem dM_begin_21 : decode mM_begin.2.1 21 = .ok (.istore_n 2, 1) := by decide +kernel
theorem dM_begin_22 : decode mM_begin.2.1 22 = .ok (.iload_n 2, 1) := by decide +kernel
theorem dM_begin_23 : decode mM_begin.2.1 23 = .ok (.bipush 16, 2) := by decide +kernel
theorem dM_begin_25 : decode mM_begin.2.1 25 = .ok (.if_icmp .ge 18, 3) := by decide +kernel
theorem dM_begin_28 : decode mM_begin.2.1 28 = .ok (.aload_n 0, 1) := by decide +kernel
theorem dM_begin_29 : decode mM_begin.2.1 29 = .ok (.getfield 9, 3) := by decide +kernel
theorem dM_begin_32 : decode mM_begin.2.1 32 = .ok (.iload_n 2, 1) := by decide +kernel
theorem dM_begin_33 : decode mM_begin.2.1 33 = .ok (.baload, 1) := by decide +kernel
theorem dM_begin_34 : decode mM_begin.2.1 34 = .ok (.ifCond .eq 9, 3) := by decide +kernel
theorem dM_begin_37 : decode mM_begin.2.1 37 = .ok (.iinc 2 1, 3) := by decide +kernel
theorem dM_begin_40 : decode mM_begin.2.1 40 = .ok (.goto (-18), 3) := by decide +kernel
theorem dM_begin_43 : decode mM_begin.2.1 43 = .ok (.iload_n 2, 1) := by decide +kernel
theorem dM_begin_44 : decode mM_begin.2.1 44 = .ok (.bipush 16, 2) := by decide +kernel
theorem dM_begin_46 : decode mM_begin.2.1 46 = .ok (.if_icmp .ne 9, 3) := by decide +kernel
theorem dM_begin_49 : decode mM_begin.2.1 49 = .ok (.aload_n 0, 1) := by decide +kernel
theorem dM_begin_50 : decode mM_begin.2.1 50 = .ok (.iconst 2, 1) := by decide +kernel
theorem dM_begin_51 : decode mM_begin.2.1 51 = .ok (.invokevirtual 72, 3) := by decide +kernel
theorem dM_begin_54 : decode mM_begin.2.1 54 = .ok (.ireturn, 1) := by decide +kernel
theorem dM_begin_55 : decode mM_begin.2.1 55 = .ok (.aload_n 0, 1) := by decide +kernel
theorem dM_begin_56 : decode mM_begin.2.1 56 = .ok (.getfield 9, 3) := by decide +kernel
theorem dM_begin_59 : decode mM_begin.2.1 59 = .ok (.iload_n 2, 1) := by decide +kernel
theorem dM_begin_60 : decode mM_begin.2.1 60 = .ok (.iconst 1, 1) := by decide +kernel
theorem dM_begin_61 : decode mM_begin.2.1 61 = .ok (.bastore, 1) := by decide +kernel
theorem dM_begin_62 : decode mM_begin.2.1 62 = .ok (.aload_n 0, 1) := by decide +kernel
theorem dM_begin_63 : decode mM_begin.2.1 63 = .ok (.getfield 19, 3) := by decide +kernel
theorem dM_begin_66 : decode mM_begin.2.1 66 = .ok (.iload_n 2, 1) := by decide +kernel
theorem dM_begin_67 : decode mM_begin.2.1 67 = .ok (.aload_n 0, 1) := by decide +kernel
theorem dM_begin_68 : decode mM_begin.2.1 68 = .ok (.getfield 64, 3) := by decide +kernel
theorem dM_begin_71 : decode mM_begin.2.1 71 = .ok (.iastore, 1) := by decide +kernel
theorem dM_begin_72 : decode mM_begin.2.1 72 = .ok (.aload_n 0, 1) := by decide +kernel
theorem dM_begin_73 : decode mM_begin.2.1 73 = .ok (.getfield 23, 3) := by decide +kernel
theorem dM_begin_76 : decode mM_begin.2.1 76 = .ok (.iload_n 2, 1) := by decide +kernel
theorem dM_begin_77 : decode mM_begin.2.1 77 = .ok (.iload_n 1, 1) := by decide +kernel
theorem dM_begin_78 : decode mM_begin.2.1 78 = .ok (.iastore, 1) := by decide +kernel
theorem dM_begin_79 : decode mM_begin.2.1 79 = .ok (.aload_n 0, 1) := by decide +kernel
theorem dM_begin_80 : decode mM_begin.2.1 80 = .ok (.getfield 26, 3) := by decide +kernel
theorem dM_begin_83 : decode mM_begin.2.1 83 = .ok (.iload_n 2, 1) := by decide +kernel
theorem dM_begin_84 : decode mM_begin.2.1 84 = .ok (.iconst 1, 1) := by decide +kernel
theorem dM_begin_85 : decode mM_begin.2.1 85 = .ok (.iastore, 1) := by decide +kernel
theorem dM_begin_86 : decode mM_begin.2.1 86 = .ok (.aload_n 0, 1) := by decide +kernel
theorem dM_begin_87 : decode mM_begin.2.1 87 = .ok (.iload_n 2, 1) := by decide +kernel
theorem dM_begin_88 : decode mM_begin.2.1 88 = .ok (.iconst 0, 1) := by decide +kernel
theorem dM_begin_89 : decode mM_begin.2.1 89 = .ok (.invokevirtual 76, 3) := by decide +kernel
theorem dM_begin_92 : decode mM_begin.2.1 92 = .ok (.iconst 0, 1) := by decide +kernel
theorem dM_begin_93 : decode mM_begin.2.1 93 = .ok (.istore_n 3, 1) := by decide +kernel
theorem dM_begin_94 : decode mM_begin.2.1 94 = .ok (.iload_n 3, 1) := by decide +kernel
theorem dM_begin_95 : decode mM_begin.2.1 95 = .ok (.bipush 16, 2) := by decide +kernel
theorem dM_begin_97 : decode mM_begin.2.1 97 = .ok (.if_icmp .ge 37, 3) := by decide +kernel
theorem dM_begin_100 : decode mM_begin.2.1 100 = .ok (.aload_n 0, 1) := by decide +kernel
theorem dM_begin_101 : decode mM_begin.2.1 101 = .ok (.getfield 13, 3) := by decide +kernel
theorem dM_begin_104 : decode mM_begin.2.1 104 = .ok (.bipush 16, 2) := by decide +kernel
theorem dM_begin_106 : decode mM_begin.2.1 106 = .ok (.iload_n 2, 1) := by decide +kernel
theorem dM_begin_107 : decode mM_begin.2.1 107 = .ok (.imul, 1) := by decide +kernel
theorem dM_begin_108 : decode mM_begin.2.1 108 = .ok (.iload_n 3, 1) := by decide +kernel
theorem dM_begin_109 : decode mM_begin.2.1 109 = .ok (.iadd, 1) := by decide +kernel
theorem dM_begin_110 : decode mM_begin.2.1 110 = .ok (.iconst 0, 1) := by decide +kernel
theorem dM_begin_111 : decode mM_begin.2.1 111 = .ok (.bastore, 1) := by decide +kernel
theorem dM_begin_112 : decode mM_begin.2.1 112 = .ok (.aload_n 0, 1) := by decide +kernel
theorem dM_begin_113 : decode mM_begin.2.1 113 = .ok (.getfield 29, 3) := by decide +kernel
theorem dM_begin_116 : decode mM_begin.2.1 116 = .ok (.bipush 16, 2) := by decide +kernel
theorem dM_begin_118 : decode mM_begin.2.1 118 = .ok (.iload_n 2, 1) := by decide +kernel
theorem dM_begin_119 : decode mM_begin.2.1 119 = .ok (.imul, 1) := by decide +kernel
theorem dM_begin_120 : decode mM_begin.2.1 120 = .ok (.iload_n 3, 1) := by decide +kernel
theorem dM_begin_121 : decode mM_begin.2.1 121 = .ok (.iadd, 1) := by decide +kernel
theorem dM_begin_122 : decode mM_begin.2.1 122 = .ok (.aload_n 0, 1) := by decide +kernel
theorem dM_begin_123 : decode mM_begin.2.1 123 = .ok (.iload_n 3, 1) := by decide +kernel
theorem dM_begin_124 : decode mM_begin.2.1 124 = .ok (.invokevirtual 80, 3) := by decide +kernel
theorem dM_begin_127 : decode mM_begin.2.1 127 = .ok (.lastore, 1) := by decide +kernel
theorem dM_begin_128 : decode mM_begin.2.1 128 = .ok (.iinc 3 1, 3) := by decide +kernel
theorem dM_begin_131 : decode mM_begin.2.1 131 = .ok (.goto (-37), 3) := by decide +kernel
theorem dM_begin_134 : decode mM_begin.2.1 134 = .ok (.iload_n 2, 1) := by decide +kernel
end
section
theorem dM_begin_135 : decode mM_begin.2.1 135 = .ok (.ireturn, 1) := by decide +kernel
theorem dM_read_0 : decode mM_read.2.1 0 = .ok (.aload_n 0, 1) := by decide +kernel
theorem dM_read_1 : decode mM_read.2.1 1 = .ok (.iload_n 1, 1) := by decide +kernel
theorem dM_read_2 : decode mM_read.2.1 2 = .ok (.iload_n 2, 1) := by decide +kernel
theorem dM_read_3 : decode mM_read.2.1 3 = .ok (.invokevirtual 84, 3) := by decide +kernel
theorem dM_read_6 : decode mM_read.2.1 6 = .ok (.ifCond .eq 5, 3) := by decide +kernel
theorem dM_read_9 : decode mM_read.2.1 9 = .ok (.lconst 0, 1) := by decide +kernel
theorem dM_read_10 : decode mM_read.2.1 10 = .ok (.lreturn, 1) := by decide +kernel
theorem dM_read_11 : decode mM_read.2.1 11 = .ok (.aload_n 0, 1) := by decide +kernel
theorem dM_read_12 : decode mM_read.2.1 12 = .ok (.iload_n 1, 1) := by decide +kernel
theorem dM_read_13 : decode mM_read.2.1 13 = .ok (.iload_n 2, 1) := by decide +kernel
theorem dM_read_14 : decode mM_read.2.1 14 = .ok (.invokevirtual 56, 3) := by decide +kernel
theorem dM_read_17 : decode mM_read.2.1 17 = .ok (.iconst (-1), 1) := by decide +kernel
theorem dM_read_18 : decode mM_read.2.1 18 = .ok (.if_icmp .ne 15, 3) := by decide +kernel
theorem dM_read_21 : decode mM_read.2.1 21 = .ok (.aload_n 0, 1) := by decide +kernel
theorem dM_read_22 : decode mM_read.2.1 22 = .ok (.getfield 13, 3) := by decide +kernel
theorem dM_read_25 : decode mM_read.2.1 25 = .ok (.bipush 16, 2) := by decide +kernel
theorem dM_read_27 : decode mM_read.2.1 27 = .ok (.iload_n 1, 1) := by decide +kernel
theorem dM_read_28 : decode mM_read.2.1 28 = .ok (.imul, 1) := by decide +kernel
theorem dM_read_29 : decode mM_read.2.1 29 = .ok (.iload_n 2, 1) := by decide +kernel
theorem dM_read_30 : decode mM_read.2.1 30 = .ok (.iadd, 1) := by decide +kernel
theorem dM_read_31 : decode mM_read.2.1 31 = .ok (.iconst 1, 1) := by decide +kernel
theorem dM_read_32 : decode mM_read.2.1 32 = .ok (.bastore, 1) := by decide +kernel
theorem dM_read_33 : decode mM_read.2.1 33 = .ok (.aload_n 0, 1) := by decide +kernel
theorem dM_read_34 : decode mM_read.2.1 34 = .ok (.iload_n 1, 1) := by decide +kernel
theorem dM_read_35 : decode mM_read.2.1 35 = .ok (.iload_n 2, 1) := by decide +kernel
theorem dM_read_36 : decode mM_read.2.1 36 = .ok (.invokevirtual 87, 3) := by decide +kernel
theorem dM_read_39 : decode mM_read.2.1 39 = .ok (.lreturn, 1) := by decide +kernel
theorem dM_write_0 : decode mM_write.2.1 0 = .ok (.aload_n 0, 1) := by decide +kernel
theorem dM_write_1 : decode mM_write.2.1 1 = .ok (.iload_n 1, 1) := by decide +kernel
theorem dM_write_2 : decode mM_write.2.1 2 = .ok (.iload_n 2, 1) := by decide +kernel
theorem dM_write_3 : decode mM_write.2.1 3 = .ok (.invokevirtual 84, 3) := by decide +kernel
theorem dM_write_6 : decode mM_write.2.1 6 = .ok (.ifCond .eq 5, 3) := by decide +kernel
theorem dM_write_9 : decode mM_write.2.1 9 = .ok (.lconst 0, 1) := by decide +kernel
theorem dM_write_10 : decode mM_write.2.1 10 = .ok (.lreturn, 1) := by decide +kernel
theorem dM_write_11 : decode mM_write.2.1 11 = .ok (.aload_n 0, 1) := by decide +kernel
theorem dM_write_12 : decode mM_write.2.1 12 = .ok (.iload_n 1, 1) := by decide +kernel
theorem dM_write_13 : decode mM_write.2.1 13 = .ok (.iload_n 2, 1) := by decide +kernel
theorem dM_write_14 : decode mM_write.2.1 14 = .ok (.invokevirtual 87, 3) := by decide +kernel
theorem dM_write_17 : decode mM_write.2.1 17 = .ok (.lstore 5, 2) := by decide +kernel
theorem dM_write_19 : decode mM_write.2.1 19 = .ok (.bipush 8, 2) := by decide +kernel
theorem dM_write_21 : decode mM_write.2.1 21 = .ok (.iload_n 1, 1) := by decide +kernel
theorem dM_write_22 : decode mM_write.2.1 22 = .ok (.imul, 1) := by decide +kernel
theorem dM_write_23 : decode mM_write.2.1 23 = .ok (.aload_n 0, 1) := by decide +kernel
theorem dM_write_24 : decode mM_write.2.1 24 = .ok (.getfield 26, 3) := by decide +kernel
theorem dM_write_27 : decode mM_write.2.1 27 = .ok (.iload_n 1, 1) := by decide +kernel
theorem dM_write_28 : decode mM_write.2.1 28 = .ok (.iaload, 1) := by decide +kernel
theorem dM_write_29 : decode mM_write.2.1 29 = .ok (.iadd, 1) := by decide +kernel
theorem dM_write_30 : decode mM_write.2.1 30 = .ok (.iconst 1, 1) := by decide +kernel
theorem dM_write_31 : decode mM_write.2.1 31 = .ok (.isub, 1) := by decide +kernel
theorem dM_write_32 : decode mM_write.2.1 32 = .ok (.bipush 16, 2) := by decide +kernel
theorem dM_write_34 : decode mM_write.2.1 34 = .ok (.imul, 1) := by decide +kernel
theorem dM_write_35 : decode mM_write.2.1 35 = .ok (.iload_n 2, 1) := by decide +kernel
theorem dM_write_36 : decode mM_write.2.1 36 = .ok (.iadd, 1) := by decide +kernel
theorem dM_write_37 : decode mM_write.2.1 37 = .ok (.istore 7, 2) := by decide +kernel
theorem dM_write_39 : decode mM_write.2.1 39 = .ok (.aload_n 0, 1) := by decide +kernel
theorem dM_write_40 : decode mM_write.2.1 40 = .ok (.getfield 16, 3) := by decide +kernel
theorem dM_write_43 : decode mM_write.2.1 43 = .ok (.iload 7, 2) := by decide +kernel
theorem dM_write_45 : decode mM_write.2.1 45 = .ok (.iconst 1, 1) := by decide +kernel
theorem dM_write_46 : decode mM_write.2.1 46 = .ok (.bastore, 1) := by decide +kernel
theorem dM_write_47 : decode mM_write.2.1 47 = .ok (.aload_n 0, 1) := by decide +kernel
theorem dM_write_48 : decode mM_write.2.1 48 = .ok (.getfield 33, 3) := by decide +kernel
theorem dM_write_51 : decode mM_write.2.1 51 = .ok (.iload 7, 2) := by decide +kernel
theorem dM_write_53 : decode mM_write.2.1 53 = .ok (.lload_n 3, 1) := by decide +kernel
theorem dM_write_54 : decode mM_write.2.1 54 = .ok (.lastore, 1) := by decide +kernel
theorem dM_write_55 : decode mM_write.2.1 55 = .ok (.lload 5, 2) := by decide +kernel
theorem dM_write_57 : decode mM_write.2.1 57 = .ok (.lreturn, 1) := by decide +kernel
theorem dM_push_0 : decode mM_push.2.1 0 = .ok (.aload_n 0, 1) := by decide +kernel
theorem dM_push_1 : decode mM_push.2.1 1 = .ok (.iload_n 1, 1) := by decide +kernel
theorem dM_push_2 : decode mM_push.2.1 2 = .ok (.invokevirtual 52, 3) := by decide +kernel
theorem dM_push_5 : decode mM_push.2.1 5 = .ok (.ifCond .eq 5, 3) := by decide +kernel
theorem dM_push_8 : decode mM_push.2.1 8 = .ok (.iconst 0, 1) := by decide +kernel
theorem dM_push_9 : decode mM_push.2.1 9 = .ok (.ireturn, 1) := by decide +kernel
theorem dM_push_10 : decode mM_push.2.1 10 = .ok (.aload_n 0, 1) := by decide +kernel
theorem dM_push_11 : decode mM_push.2.1 11 = .ok (.getfield 26, 3) := by decide +kernel
theorem dM_push_14 : decode mM_push.2.1 14 = .ok (.iload_n 1, 1) := by decide +kernel
theorem dM_push_15 : decode mM_push.2.1 15 = .ok (.iaload, 1) := by decide +kernel
theorem dM_push_16 : decode mM_push.2.1 16 = .ok (.bipush 8, 2) := by decide +kernel
theorem dM_push_18 : decode mM_push.2.1 18 = .ok (.if_icmp .ne 9, 3) := by decide +kernel
theorem dM_push_21 : decode mM_push.2.1 21 = .ok (.aload_n 0, 1) := by decide +kernel
theorem dM_push_22 : decode mM_push.2.1 22 = .ok (.iconst 2, 1) := by decide +kernel
theorem dM_push_23 : decode mM_push.2.1 23 = .ok (.invokevirtual 72, 3) := by decide +kernel
theorem dM_push_26 : decode mM_push.2.1 26 = .ok (.ireturn, 1) := by decide +kernel
theorem dM_push_27 : decode mM_push.2.1 27 = .ok (.aload_n 0, 1) := by decide +kernel
theorem dM_push_28 : decode mM_push.2.1 28 = .ok (.iload_n 1, 1) := by decide +kernel
theorem dM_push_29 : decode mM_push.2.1 29 = .ok (.aload_n 0, 1) := by decide +kernel
theorem dM_push_30 : decode mM_push.2.1 30 = .ok (.getfield 26, 3) := by decide +kernel
theorem dM_push_33 : decode mM_push.2.1 33 = .ok (.iload_n 1, 1) := by decide +kernel
theorem dM_push_34 : decode mM_push.2.1 34 = .ok (.iaload, 1) := by decide +kernel
theorem dM_push_35 : decode mM_push.2.1 35 = .ok (.invokevirtual 76, 3) := by decide +kernel
theorem dM_push_38 : decode mM_push.2.1 38 = .ok (.aload_n 0, 1) := by decide +kernel
theorem dM_push_39 : decode mM_push.2.1 39 = .ok (.getfield 26, 3) := by decide +kernel
theorem dM_push_42 : decode mM_push.2.1 42 = .ok (.iload_n 1, 1) := by decide +kernel
theorem dM_push_43 : decode mM_push.2.1 43 = .ok (.dup2, 1) := by decide +kernel
theorem dM_push_44 : decode mM_push.2.1 44 = .ok (.iaload, 1) := by decide +kernel
theorem dM_push_45 : decode mM_push.2.1 45 = .ok (.iconst 1, 1) := by decide +kernel
theorem dM_push_46 : decode mM_push.2.1 46 = .ok (.iadd, 1) := by decide +kernel
theorem dM_push_47 : decode mM_push.2.1 47 = .ok (.iastore, 1) := by decide +kernel
theorem dM_push_48 : decode mM_push.2.1 48 = .ok (.aload_n 0, 1) := by decide +kernel
theorem dM_push_49 : decode mM_push.2.1 49 = .ok (.getfield 26, 3) := by decide +kernel
theorem dM_push_52 : decode mM_push.2.1 52 = .ok (.iload_n 1, 1) := by decide +kernel
theorem dM_push_53 : decode mM_push.2.1 53 = .ok (.iaload, 1) := by decide +kernel
theorem dM_push_54 : decode mM_push.2.1 54 = .ok (.ireturn, 1) := by decide +kernel
theorem dM_pop_0 : decode mM_pop.2.1 0 = .ok (.aload_n 0, 1) := by decide +kernel
theorem dM_pop_1 : decode mM_pop.2.1 1 = .ok (.iload_n 1, 1) := by decide +kernel
theorem dM_pop_2 : decode mM_pop.2.1 2 = .ok (.invokevirtual 52, 3) := by decide +kernel
theorem dM_pop_5 : decode mM_pop.2.1 5 = .ok (.ifCond .eq 5, 3) := by decide +kernel
theorem dM_pop_8 : decode mM_pop.2.1 8 = .ok (.iconst 0, 1) := by decide +kernel
theorem dM_pop_9 : decode mM_pop.2.1 9 = .ok (.ireturn, 1) := by decide +kernel
theorem dM_pop_10 : decode mM_pop.2.1 10 = .ok (.aload_n 0, 1) := by decide +kernel
theorem dM_pop_11 : decode mM_pop.2.1 11 = .ok (.getfield 26, 3) := by decide +kernel
theorem dM_pop_14 : decode mM_pop.2.1 14 = .ok (.iload_n 1, 1) := by decide +kernel
theorem dM_pop_15 : decode mM_pop.2.1 15 = .ok (.iaload, 1) := by decide +kernel
theorem dM_pop_16 : decode mM_pop.2.1 16 = .ok (.iconst 1, 1) := by decide +kernel
theorem dM_pop_17 : decode mM_pop.2.1 17 = .ok (.if_icmp .ne 9, 3) := by decide +kernel
theorem dM_pop_20 : decode mM_pop.2.1 20 = .ok (.aload_n 0, 1) := by decide +kernel
theorem dM_pop_21 : decode mM_pop.2.1 21 = .ok (.iconst 2, 1) := by decide +kernel
theorem dM_pop_22 : decode mM_pop.2.1 22 = .ok (.invokevirtual 72, 3) := by decide +kernel
theorem dM_pop_25 : decode mM_pop.2.1 25 = .ok (.ireturn, 1) := by decide +kernel
theorem dM_pop_26 : decode mM_pop.2.1 26 = .ok (.aload_n 0, 1) := by decide +kernel
theorem dM_pop_27 : decode mM_pop.2.1 27 = .ok (.getfield 26, 3) := by decide +kernel
theorem dM_pop_30 : decode mM_pop.2.1 30 = .ok (.iload_n 1, 1) := by decide +kernel
theorem dM_pop_31 : decode mM_pop.2.1 31 = .ok (.dup2, 1) := by decide +kernel
theorem dM_pop_32 : decode mM_pop.2.1 32 = .ok (.iaload, 1) := by decide +kernel
theorem dM_pop_33 : decode mM_pop.2.1 33 = .ok (.iconst 1, 1) := by decide +kernel
theorem dM_pop_34 : decode mM_pop.2.1 34 = .ok (.isub, 1) := by decide +kernel
theorem dM_pop_35 : decode mM_pop.2.1 35 = .ok (.iastore, 1) := by decide +kernel
theorem dM_pop_36 : decode mM_pop.2.1 36 = .ok (.iconst 0, 1) := by decide +kernel
theorem dM_pop_37 : decode mM_pop.2.1 37 = .ok (.istore_n 3, 1) := by decide +kernel
theorem dM_pop_38 : decode mM_pop.2.1 38 = .ok (.iload_n 3, 1) := by decide +kernel
theorem dM_pop_39 : decode mM_pop.2.1 39 = .ok (.bipush 16, 2) := by decide +kernel
theorem dM_pop_41 : decode mM_pop.2.1 41 = .ok (.if_icmp .ge 72, 3) := by decide +kernel
theorem dM_pop_44 : decode mM_pop.2.1 44 = .ok (.iload_n 2, 1) := by decide +kernel
theorem dM_pop_45 : decode mM_pop.2.1 45 = .ok (.ifCond .eq 68, 3) := by decide +kernel
theorem dM_pop_48 : decode mM_pop.2.1 48 = .ok (.bipush 8, 2) := by decide +kernel
theorem dM_pop_50 : decode mM_pop.2.1 50 = .ok (.iload_n 1, 1) := by decide +kernel
theorem dM_pop_51 : decode mM_pop.2.1 51 = .ok (.imul, 1) := by decide +kernel
theorem dM_pop_52 : decode mM_pop.2.1 52 = .ok (.aload_n 0, 1) := by decide +kernel
theorem dM_pop_53 : decode mM_pop.2.1 53 = .ok (.getfield 26, 3) := by decide +kernel
theorem dM_pop_56 : decode mM_pop.2.1 56 = .ok (.iload_n 1, 1) := by decide +kernel
theorem dM_pop_57 : decode mM_pop.2.1 57 = .ok (.iaload, 1) := by decide +kernel
theorem dM_pop_58 : decode mM_pop.2.1 58 = .ok (.iadd, 1) := by decide +kernel
theorem dM_pop_59 : decode mM_pop.2.1 59 = .ok (.bipush 16, 2) := by decide +kernel
theorem dM_pop_61 : decode mM_pop.2.1 61 = .ok (.imul, 1) := by decide +kernel
theorem dM_pop_62 : decode mM_pop.2.1 62 = .ok (.iload_n 3, 1) := by decide +kernel
theorem dM_pop_63 : decode mM_pop.2.1 63 = .ok (.iadd, 1) := by decide +kernel
theorem dM_pop_64 : decode mM_pop.2.1 64 = .ok (.istore 4, 2) := by decide +kernel
theorem dM_pop_66 : decode mM_pop.2.1 66 = .ok (.aload_n 0, 1) := by decide +kernel
theorem dM_pop_67 : decode mM_pop.2.1 67 = .ok (.getfield 16, 3) := by decide +kernel
theorem dM_pop_70 : decode mM_pop.2.1 70 = .ok (.iload 4, 2) := by decide +kernel
theorem dM_pop_72 : decode mM_pop.2.1 72 = .ok (.baload, 1) := by decide +kernel
theorem dM_pop_73 : decode mM_pop.2.1 73 = .ok (.ifCond .ne 6, 3) := by decide +kernel
theorem dM_pop_76 : decode mM_pop.2.1 76 = .ok (.goto 31, 3) := by decide +kernel
theorem dM_pop_79 : decode mM_pop.2.1 79 = .ok (.aload_n 0, 1) := by decide +kernel
theorem dM_pop_80 : decode mM_pop.2.1 80 = .ok (.getfield 16, 3) := by decide +kernel
theorem dM_pop_83 : decode mM_pop.2.1 83 = .ok (.iload 4, 2) := by decide +kernel
theorem dM_pop_85 : decode mM_pop.2.1 85 = .ok (.bipush 16, 2) := by decide +kernel
theorem dM_pop_87 : decode mM_pop.2.1 87 = .ok (.isub, 1) := by decide +kernel
theorem dM_pop_88 : decode mM_pop.2.1 88 = .ok (.iconst 1, 1) := by decide +kernel
theorem dM_pop_89 : decode mM_pop.2.1 89 = .ok (.bastore, 1) := by decide +kernel
theorem dM_pop_90 : decode mM_pop.2.1 90 = .ok (.aload_n 0, 1) := by decide +kernel
theorem dM_pop_91 : decode mM_pop.2.1 91 = .ok (.getfield 33, 3) := by decide +kernel
theorem dM_pop_94 : decode mM_pop.2.1 94 = .ok (.iload 4, 2) := by decide +kernel
theorem dM_pop_96 : decode mM_pop.2.1 96 = .ok (.bipush 16, 2) := by decide +kernel
theorem dM_pop_98 : decode mM_pop.2.1 98 = .ok (.isub, 1) := by decide +kernel
theorem dM_pop_99 : decode mM_pop.2.1 99 = .ok (.aload_n 0, 1) := by decide +kernel
theorem dM_pop_100 : decode mM_pop.2.1 100 = .ok (.getfield 33, 3) := by decide +kernel
theorem dM_pop_103 : decode mM_pop.2.1 103 = .ok (.iload 4, 2) := by decide +kernel
theorem dM_pop_105 : decode mM_pop.2.1 105 = .ok (.laload, 1) := by decide +kernel
theorem dM_pop_106 : decode mM_pop.2.1 106 = .ok (.lastore, 1) := by decide +kernel
theorem dM_pop_107 : decode mM_pop.2.1 107 = .ok (.iinc 3 1, 3) := by decide +kernel
theorem dM_pop_110 : decode mM_pop.2.1 110 = .ok (.goto (-72), 3) := by decide +kernel
theorem dM_pop_113 : decode mM_pop.2.1 113 = .ok (.aload_n 0, 1) := by decide +kernel
theorem dM_pop_114 : decode mM_pop.2.1 114 = .ok (.getfield 26, 3) := by decide +kernel
theorem dM_pop_117 : decode mM_pop.2.1 117 = .ok (.iload_n 1, 1) := by decide +kernel
theorem dM_pop_118 : decode mM_pop.2.1 118 = .ok (.iaload, 1) := by decide +kernel
theorem dM_pop_119 : decode mM_pop.2.1 119 = .ok (.ireturn, 1) := by decide +kernel
theorem dM_commit_0 : decode mM_commit.2.1 0 = .ok (.aload_n 0, 1) := by decide +kernel
theorem dM_commit_1 : decode mM_commit.2.1 1 = .ok (.iload_n 1, 1) := by decide +kernel
theorem dM_commit_2 : decode mM_commit.2.1 2 = .ok (.invokevirtual 52, 3) := by decide +kernel
theorem dM_commit_5 : decode mM_commit.2.1 5 = .ok (.ifCond .eq 5, 3) := by decide +kernel
theorem dM_commit_8 : decode mM_commit.2.1 8 = .ok (.iconst 0, 1) := by decide +kernel
theorem dM_commit_9 : decode mM_commit.2.1 9 = .ok (.ireturn, 1) := by decide +kernel
theorem dM_commit_10 : decode mM_commit.2.1 10 = .ok (.aload_n 0, 1) := by decide +kernel
theorem dM_commit_11 : decode mM_commit.2.1 11 = .ok (.iload_n 1, 1) := by decide +kernel
theorem dM_commit_12 : decode mM_commit.2.1 12 = .ok (.invokevirtual 91, 3) := by decide +kernel
theorem dM_commit_15 : decode mM_commit.2.1 15 = .ok (.ifCond .le 12, 3) := by decide +kernel
theorem dM_commit_18 : decode mM_commit.2.1 18 = .ok (.aload_n 0, 1) := by decide +kernel
theorem dM_commit_19 : decode mM_commit.2.1 19 = .ok (.getfield 9, 3) := by decide +kernel
theorem dM_commit_22 : decode mM_commit.2.1 22 = .ok (.iload_n 1, 1) := by decide +kernel
theorem dM_commit_23 : decode mM_commit.2.1 23 = .ok (.iconst 0, 1) := by decide +kernel
theorem dM_commit_24 : decode mM_commit.2.1 24 = .ok (.bastore, 1) := by decide +kernel
theorem dM_commit_25 : decode mM_commit.2.1 25 = .ok (.iconst (-1), 1) := by decide +kernel
theorem dM_commit_26 : decode mM_commit.2.1 26 = .ok (.ireturn, 1) := by decide +kernel
theorem dM_commit_27 : decode mM_commit.2.1 27 = .ok (.aload_n 0, 1) := by decide +kernel
theorem dM_commit_28 : decode mM_commit.2.1 28 = .ok (.iload_n 1, 1) := by decide +kernel
theorem dM_commit_29 : decode mM_commit.2.1 29 = .ok (.invokevirtual 94, 3) := by decide +kernel
theorem dM_commit_32 : decode mM_commit.2.1 32 = .ok (.istore_n 2, 1) := by decide +kernel
theorem dM_commit_33 : decode mM_commit.2.1 33 = .ok (.aload_n 0, 1) := by decide +kernel
theorem dM_commit_34 : decode mM_commit.2.1 34 = .ok (.invokevirtual 97, 3) := by decide +kernel
theorem dM_commit_37 : decode mM_commit.2.1 37 = .ok (.iload_n 2, 1) := by decide +kernel
theorem dM_commit_38 : decode mM_commit.2.1 38 = .ok (.iadd, 1) := by decide +kernel
theorem dM_commit_39 : decode mM_commit.2.1 39 = .ok (.sipush 500, 3) := by decide +kernel
theorem dM_commit_42 : decode mM_commit.2.1 42 = .ok (.if_icmp .le 9, 3) := by decide +kernel
theorem dM_commit_45 : decode mM_commit.2.1 45 = .ok (.aload_n 0, 1) := by decide +kernel
theorem dM_commit_46 : decode mM_commit.2.1 46 = .ok (.iconst 2, 1) := by decide +kernel
theorem dM_commit_47 : decode mM_commit.2.1 47 = .ok (.invokevirtual 72, 3) := by decide +kernel
theorem dM_commit_50 : decode mM_commit.2.1 50 = .ok (.ireturn, 1) := by decide +kernel
theorem dM_commit_51 : decode mM_commit.2.1 51 = .ok (.aload_n 0, 1) := by decide +kernel
theorem dM_commit_52 : decode mM_commit.2.1 52 = .ok (.getfield 9, 3) := by decide +kernel
theorem dM_commit_55 : decode mM_commit.2.1 55 = .ok (.iload_n 1, 1) := by decide +kernel
theorem dM_commit_56 : decode mM_commit.2.1 56 = .ok (.iconst 0, 1) := by decide +kernel
theorem dM_commit_57 : decode mM_commit.2.1 57 = .ok (.bastore, 1) := by decide +kernel
theorem dM_commit_58 : decode mM_commit.2.1 58 = .ok (.iload_n 2, 1) := by decide +kernel
theorem dM_commit_59 : decode mM_commit.2.1 59 = .ok (.ifCond .ne 8, 3) := by decide +kernel
theorem dM_commit_62 : decode mM_commit.2.1 62 = .ok (.aload_n 0, 1) := by decide +kernel
theorem dM_commit_63 : decode mM_commit.2.1 63 = .ok (.getfield 64, 3) := by decide +kernel
theorem dM_commit_66 : decode mM_commit.2.1 66 = .ok (.ireturn, 1) := by decide +kernel
theorem dM_commit_67 : decode mM_commit.2.1 67 = .ok (.aload_n 0, 1) := by decide +kernel
theorem dM_commit_68 : decode mM_commit.2.1 68 = .ok (.dup, 1) := by decide +kernel
theorem dM_commit_69 : decode mM_commit.2.1 69 = .ok (.getfield 64, 3) := by decide +kernel
theorem dM_commit_72 : decode mM_commit.2.1 72 = .ok (.iconst 1, 1) := by decide +kernel
theorem dM_commit_73 : decode mM_commit.2.1 73 = .ok (.iadd, 1) := by decide +kernel
theorem dM_commit_74 : decode mM_commit.2.1 74 = .ok (.putfield 64, 3) := by decide +kernel
theorem dM_commit_77 : decode mM_commit.2.1 77 = .ok (.iconst 0, 1) := by decide +kernel
theorem dM_commit_78 : decode mM_commit.2.1 78 = .ok (.istore_n 3, 1) := by decide +kernel
theorem dM_commit_79 : decode mM_commit.2.1 79 = .ok (.iload_n 3, 1) := by decide +kernel
theorem dM_commit_80 : decode mM_commit.2.1 80 = .ok (.bipush 16, 2) := by decide +kernel
theorem dM_commit_82 : decode mM_commit.2.1 82 = .ok (.if_icmp .ge 86, 3) := by decide +kernel
theorem dM_commit_85 : decode mM_commit.2.1 85 = .ok (.aload_n 0, 1) := by decide +kernel
theorem dM_commit_86 : decode mM_commit.2.1 86 = .ok (.iload_n 1, 1) := by decide +kernel
theorem dM_commit_87 : decode mM_commit.2.1 87 = .ok (.iload_n 3, 1) := by decide +kernel
theorem dM_commit_88 : decode mM_commit.2.1 88 = .ok (.invokevirtual 56, 3) := by decide +kernel
theorem dM_commit_91 : decode mM_commit.2.1 91 = .ok (.iconst (-1), 1) := by decide +kernel
theorem dM_commit_92 : decode mM_commit.2.1 92 = .ok (.if_icmp .ne 6, 3) := by decide +kernel
theorem dM_commit_95 : decode mM_commit.2.1 95 = .ok (.goto 67, 3) := by decide +kernel
theorem dM_commit_98 : decode mM_commit.2.1 98 = .ok (.aload_n 0, 1) := by decide +kernel
theorem dM_commit_99 : decode mM_commit.2.1 99 = .ok (.getfield 39, 3) := by decide +kernel
theorem dM_commit_102 : decode mM_commit.2.1 102 = .ok (.sipush 520, 3) := by decide +kernel
theorem dM_commit_105 : decode mM_commit.2.1 105 = .ok (.iload_n 3, 1) := by decide +kernel
theorem dM_commit_106 : decode mM_commit.2.1 106 = .ok (.imul, 1) := by decide +kernel
theorem dM_commit_107 : decode mM_commit.2.1 107 = .ok (.aload_n 0, 1) := by decide +kernel
theorem dM_commit_108 : decode mM_commit.2.1 108 = .ok (.getfield 36, 3) := by decide +kernel
theorem dM_commit_111 : decode mM_commit.2.1 111 = .ok (.iload_n 3, 1) := by decide +kernel
theorem dM_commit_112 : decode mM_commit.2.1 112 = .ok (.iaload, 1) := by decide +kernel
theorem dM_commit_113 : decode mM_commit.2.1 113 = .ok (.iadd, 1) := by decide +kernel
theorem dM_commit_114 : decode mM_commit.2.1 114 = .ok (.aload_n 0, 1) := by decide +kernel
theorem dM_commit_115 : decode mM_commit.2.1 115 = .ok (.getfield 64, 3) := by decide +kernel
theorem dM_commit_118 : decode mM_commit.2.1 118 = .ok (.iastore, 1) := by decide +kernel
theorem dM_commit_119 : decode mM_commit.2.1 119 = .ok (.aload_n 0, 1) := by decide +kernel
theorem dM_commit_120 : decode mM_commit.2.1 120 = .ok (.getfield 45, 3) := by decide +kernel
theorem dM_commit_123 : decode mM_commit.2.1 123 = .ok (.sipush 520, 3) := by decide +kernel
theorem dM_commit_126 : decode mM_commit.2.1 126 = .ok (.iload_n 3, 1) := by decide +kernel
theorem dM_commit_127 : decode mM_commit.2.1 127 = .ok (.imul, 1) := by decide +kernel
theorem dM_commit_128 : decode mM_commit.2.1 128 = .ok (.aload_n 0, 1) := by decide +kernel
theorem dM_commit_129 : decode mM_commit.2.1 129 = .ok (.getfield 36, 3) := by decide +kernel
theorem dM_commit_132 : decode mM_commit.2.1 132 = .ok (.iload_n 3, 1) := by decide +kernel
theorem dM_commit_133 : decode mM_commit.2.1 133 = .ok (.iaload, 1) := by decide +kernel
theorem dM_commit_134 : decode mM_commit.2.1 134 = .ok (.iadd, 1) := by decide +kernel
theorem dM_commit_135 : decode mM_commit.2.1 135 = .ok (.aload_n 0, 1) := by decide +kernel
theorem dM_commit_136 : decode mM_commit.2.1 136 = .ok (.iload_n 1, 1) := by decide +kernel
theorem dM_commit_137 : decode mM_commit.2.1 137 = .ok (.iload_n 3, 1) := by decide +kernel
theorem dM_commit_138 : decode mM_commit.2.1 138 = .ok (.invokevirtual 87, 3) := by decide +kernel
theorem dM_commit_141 : decode mM_commit.2.1 141 = .ok (.lastore, 1) := by decide +kernel
theorem dM_commit_142 : decode mM_commit.2.1 142 = .ok (.aload_n 0, 1) := by decide +kernel
theorem dM_commit_143 : decode mM_commit.2.1 143 = .ok (.getfield 36, 3) := by decide +kernel
theorem dM_commit_146 : decode mM_commit.2.1 146 = .ok (.iload_n 3, 1) := by decide +kernel
theorem dM_commit_147 : decode mM_commit.2.1 147 = .ok (.dup2, 1) := by decide +kernel
theorem dM_commit_148 : decode mM_commit.2.1 148 = .ok (.iaload, 1) := by decide +kernel
theorem dM_commit_149 : decode mM_commit.2.1 149 = .ok (.iconst 1, 1) := by decide +kernel
theorem dM_commit_150 : decode mM_commit.2.1 150 = .ok (.iadd, 1) := by decide +kernel
theorem dM_commit_151 : decode mM_commit.2.1 151 = .ok (.iastore, 1) := by decide +kernel
theorem dM_commit_152 : decode mM_commit.2.1 152 = .ok (.aload_n 0, 1) := by decide +kernel
theorem dM_commit_153 : decode mM_commit.2.1 153 = .ok (.getfield 42, 3) := by decide +kernel
theorem dM_commit_156 : decode mM_commit.2.1 156 = .ok (.iload_n 3, 1) := by decide +kernel
theorem dM_commit_157 : decode mM_commit.2.1 157 = .ok (.aload_n 0, 1) := by decide +kernel
theorem dM_commit_158 : decode mM_commit.2.1 158 = .ok (.getfield 64, 3) := by decide +kernel
theorem dM_commit_161 : decode mM_commit.2.1 161 = .ok (.iastore, 1) := by decide +kernel
theorem dM_commit_162 : decode mM_commit.2.1 162 = .ok (.iinc 3 1, 3) := by decide +kernel
theorem dM_commit_165 : decode mM_commit.2.1 165 = .ok (.goto (-86), 3) := by decide +kernel
theorem dM_commit_168 : decode mM_commit.2.1 168 = .ok (.aload_n 0, 1) := by decide +kernel
theorem dM_commit_169 : decode mM_commit.2.1 169 = .ok (.getfield 64, 3) := by decide +kernel
theorem dM_commit_172 : decode mM_commit.2.1 172 = .ok (.ireturn, 1) := by decide +kernel
theorem dM_drop_0 : decode mM_drop.2.1 0 = .ok (.aload_n 0, 1) := by decide +kernel
theorem dM_drop_1 : decode mM_drop.2.1 1 = .ok (.iload_n 1, 1) := by decide +kernel
theorem dM_drop_2 : decode mM_drop.2.1 2 = .ok (.invokevirtual 52, 3) := by decide +kernel
theorem dM_drop_5 : decode mM_drop.2.1 5 = .ok (.ifCond .eq 5, 3) := by decide +kernel
theorem dM_drop_8 : decode mM_drop.2.1 8 = .ok (.iconst 0, 1) := by decide +kernel
theorem dM_drop_9 : decode mM_drop.2.1 9 = .ok (.ireturn, 1) := by decide +kernel
theorem dM_drop_10 : decode mM_drop.2.1 10 = .ok (.aload_n 0, 1) := by decide +kernel
theorem dM_drop_11 : decode mM_drop.2.1 11 = .ok (.getfield 9, 3) := by decide +kernel
theorem dM_drop_14 : decode mM_drop.2.1 14 = .ok (.iload_n 1, 1) := by decide +kernel
theorem dM_drop_15 : decode mM_drop.2.1 15 = .ok (.iconst 0, 1) := by decide +kernel
theorem dM_drop_16 : decode mM_drop.2.1 16 = .ok (.bastore, 1) := by decide +kernel
theorem dM_drop_17 : decode mM_drop.2.1 17 = .ok (.aload_n 0, 1) := by decide +kernel
theorem dM_drop_18 : decode mM_drop.2.1 18 = .ok (.iload_n 1, 1) := by decide +kernel
theorem dM_drop_19 : decode mM_drop.2.1 19 = .ok (.invokevirtual 94, 3) := by decide +kernel
theorem dM_drop_22 : decode mM_drop.2.1 22 = .ok (.ireturn, 1) := by decide +kernel
theorem dM_spoiled_0 : decode mM_spoiled.2.1 0 = .ok (.aload_n 0, 1) := by decide +kernel
theorem dM_spoiled_1 : decode mM_spoiled.2.1 1 = .ok (.iload_n 1, 1) := by decide +kernel
theorem dM_spoiled_2 : decode mM_spoiled.2.1 2 = .ok (.invokevirtual 52, 3) := by decide +kernel
theorem dM_spoiled_5 : decode mM_spoiled.2.1 5 = .ok (.ifCond .ne 15, 3) := by decide +kernel
theorem dM_spoiled_8 : decode mM_spoiled.2.1 8 = .ok (.aload_n 0, 1) := by decide +kernel
theorem dM_spoiled_9 : decode mM_spoiled.2.1 9 = .ok (.iload_n 1, 1) := by decide +kernel
theorem dM_spoiled_10 : decode mM_spoiled.2.1 10 = .ok (.invokevirtual 91, 3) := by decide +kernel
theorem dM_spoiled_13 : decode mM_spoiled.2.1 13 = .ok (.ifCond .le 7, 3) := by decide +kernel
theorem dM_spoiled_16 : decode mM_spoiled.2.1 16 = .ok (.iconst 1, 1) := by decide +kernel
theorem dM_spoiled_17 : decode mM_spoiled.2.1 17 = .ok (.goto 4, 3) := by decide +kernel
theorem dM_spoiled_20 : decode mM_spoiled.2.1 20 = .ok (.iconst 0, 1) := by decide +kernel
theorem dM_spoiled_21 : decode mM_spoiled.2.1 21 = .ok (.ireturn, 1) := by decide +kernel
theorem dM_meets_0 : decode mM_meets.2.1 0 = .ok (.aload_n 0, 1) := by decide +kernel
theorem dM_meets_1 : decode mM_meets.2.1 1 = .ok (.iload_n 1, 1) := by decide +kernel
theorem dM_meets_2 : decode mM_meets.2.1 2 = .ok (.invokevirtual 52, 3) := by decide +kernel
theorem dM_meets_5 : decode mM_meets.2.1 5 = .ok (.ifCond .ne 16, 3) := by decide +kernel
theorem dM_meets_8 : decode mM_meets.2.1 8 = .ok (.aload_n 0, 1) := by decide +kernel
theorem dM_meets_9 : decode mM_meets.2.1 9 = .ok (.iload_n 2, 1) := by decide +kernel
theorem dM_meets_10 : decode mM_meets.2.1 10 = .ok (.invokevirtual 52, 3) := by decide +kernel
theorem dM_meets_13 : decode mM_meets.2.1 13 = .ok (.ifCond .ne 8, 3) := by decide +kernel
theorem dM_meets_16 : decode mM_meets.2.1 16 = .ok (.iload_n 1, 1) := by decide +kernel
theorem dM_meets_17 : decode mM_meets.2.1 17 = .ok (.iload_n 2, 1) := by decide +kernel
theorem dM_meets_18 : decode mM_meets.2.1 18 = .ok (.if_icmp .ne 5, 3) := by decide +kernel
theorem dM_meets_21 : decode mM_meets.2.1 21 = .ok (.iconst 0, 1) := by decide +kernel
theorem dM_meets_22 : decode mM_meets.2.1 22 = .ok (.ireturn, 1) := by decide +kernel
theorem dM_meets_23 : decode mM_meets.2.1 23 = .ok (.iconst 0, 1) := by decide +kernel
theorem dM_meets_24 : decode mM_meets.2.1 24 = .ok (.istore_n 3, 1) := by decide +kernel
theorem dM_meets_25 : decode mM_meets.2.1 25 = .ok (.iload_n 3, 1) := by decide +kernel
theorem dM_meets_26 : decode mM_meets.2.1 26 = .ok (.bipush 16, 2) := by decide +kernel
theorem dM_meets_28 : decode mM_meets.2.1 28 = .ok (.if_icmp .ge 64, 3) := by decide +kernel
theorem dM_meets_31 : decode mM_meets.2.1 31 = .ok (.aload_n 0, 1) := by decide +kernel
theorem dM_meets_32 : decode mM_meets.2.1 32 = .ok (.iload_n 1, 1) := by decide +kernel
theorem dM_meets_33 : decode mM_meets.2.1 33 = .ok (.iload_n 3, 1) := by decide +kernel
theorem dM_meets_34 : decode mM_meets.2.1 34 = .ok (.invokevirtual 56, 3) := by decide +kernel
theorem dM_meets_37 : decode mM_meets.2.1 37 = .ok (.iconst (-1), 1) := by decide +kernel
theorem dM_meets_38 : decode mM_meets.2.1 38 = .ok (.if_icmp .eq 48, 3) := by decide +kernel
theorem dM_meets_41 : decode mM_meets.2.1 41 = .ok (.aload_n 0, 1) := by decide +kernel
theorem dM_meets_42 : decode mM_meets.2.1 42 = .ok (.iload_n 2, 1) := by decide +kernel
theorem dM_meets_43 : decode mM_meets.2.1 43 = .ok (.iload_n 3, 1) := by decide +kernel
theorem dM_meets_44 : decode mM_meets.2.1 44 = .ok (.invokevirtual 60, 3) := by decide +kernel
theorem dM_meets_47 : decode mM_meets.2.1 47 = .ok (.ifCond .ne 39, 3) := by decide +kernel
theorem dM_meets_50 : decode mM_meets.2.1 50 = .ok (.aload_n 0, 1) := by decide +kernel
theorem dM_meets_51 : decode mM_meets.2.1 51 = .ok (.iload_n 2, 1) := by decide +kernel
theorem dM_meets_52 : decode mM_meets.2.1 52 = .ok (.iload_n 3, 1) := by decide +kernel
theorem dM_meets_53 : decode mM_meets.2.1 53 = .ok (.invokevirtual 56, 3) := by decide +kernel
theorem dM_meets_56 : decode mM_meets.2.1 56 = .ok (.iconst (-1), 1) := by decide +kernel
theorem dM_meets_57 : decode mM_meets.2.1 57 = .ok (.if_icmp .ne 27, 3) := by decide +kernel
theorem dM_meets_60 : decode mM_meets.2.1 60 = .ok (.aload_n 0, 1) := by decide +kernel
theorem dM_meets_61 : decode mM_meets.2.1 61 = .ok (.getfield 23, 3) := by decide +kernel
theorem dM_meets_64 : decode mM_meets.2.1 64 = .ok (.iload_n 2, 1) := by decide +kernel
theorem dM_meets_65 : decode mM_meets.2.1 65 = .ok (.iaload, 1) := by decide +kernel
theorem dM_meets_66 : decode mM_meets.2.1 66 = .ok (.iconst 1, 1) := by decide +kernel
theorem dM_meets_67 : decode mM_meets.2.1 67 = .ok (.if_icmp .ne 19, 3) := by decide +kernel
theorem dM_meets_70 : decode mM_meets.2.1 70 = .ok (.aload_n 0, 1) := by decide +kernel
theorem dM_meets_71 : decode mM_meets.2.1 71 = .ok (.getfield 13, 3) := by decide +kernel
theorem dM_meets_74 : decode mM_meets.2.1 74 = .ok (.bipush 16, 2) := by decide +kernel
theorem dM_meets_76 : decode mM_meets.2.1 76 = .ok (.iload_n 2, 1) := by decide +kernel
theorem dM_meets_77 : decode mM_meets.2.1 77 = .ok (.imul, 1) := by decide +kernel
theorem dM_meets_78 : decode mM_meets.2.1 78 = .ok (.iload_n 3, 1) := by decide +kernel
theorem dM_meets_79 : decode mM_meets.2.1 79 = .ok (.iadd, 1) := by decide +kernel
theorem dM_meets_80 : decode mM_meets.2.1 80 = .ok (.baload, 1) := by decide +kernel
theorem dM_meets_81 : decode mM_meets.2.1 81 = .ok (.ifCond .eq 5, 3) := by decide +kernel
theorem dM_meets_84 : decode mM_meets.2.1 84 = .ok (.iconst 1, 1) := by decide +kernel
theorem dM_meets_85 : decode mM_meets.2.1 85 = .ok (.ireturn, 1) := by decide +kernel
theorem dM_meets_86 : decode mM_meets.2.1 86 = .ok (.iinc 3 1, 3) := by decide +kernel
theorem dM_meets_89 : decode mM_meets.2.1 89 = .ok (.goto (-64), 3) := by decide +kernel
theorem dM_meets_92 : decode mM_meets.2.1 92 = .ok (.iconst 0, 1) := by decide +kernel
theorem dM_meets_93 : decode mM_meets.2.1 93 = .ok (.ireturn, 1) := by decide +kernel
theorem dM_past_0 : decode mM_past.2.1 0 = .ok (.aload_n 0, 1) := by decide +kernel
theorem dM_past_1 : decode mM_past.2.1 1 = .ok (.iload_n 1, 1) := by decide +kernel
theorem dM_past_2 : decode mM_past.2.1 2 = .ok (.ifCond .lt 35, 3) := by decide +kernel
theorem dM_past_5 : decode mM_past.2.1 5 = .ok (.iload_n 1, 1) := by decide +kernel
theorem dM_past_6 : decode mM_past.2.1 6 = .ok (.bipush 16, 2) := by decide +kernel
theorem dM_past_8 : decode mM_past.2.1 8 = .ok (.if_icmp .ge 29, 3) := by decide +kernel
theorem dM_past_11 : decode mM_past.2.1 11 = .ok (.iload_n 2, 1) := by decide +kernel
theorem dM_past_12 : decode mM_past.2.1 12 = .ok (.ifCond .lt 25, 3) := by decide +kernel
theorem dM_past_15 : decode mM_past.2.1 15 = .ok (.iload_n 2, 1) := by decide +kernel
theorem dM_past_16 : decode mM_past.2.1 16 = .ok (.aload_n 0, 1) := by decide +kernel
theorem dM_past_17 : decode mM_past.2.1 17 = .ok (.getfield 64, 3) := by decide +kernel
theorem dM_past_20 : decode mM_past.2.1 20 = .ok (.if_icmp .gt 17, 3) := by decide +kernel
theorem dM_past_23 : decode mM_past.2.1 23 = .ok (.aload_n 0, 1) := by decide +kernel
theorem dM_past_24 : decode mM_past.2.1 24 = .ok (.getfield 39, 3) := by decide +kernel
theorem dM_past_27 : decode mM_past.2.1 27 = .ok (.sipush 520, 3) := by decide +kernel
theorem dM_past_30 : decode mM_past.2.1 30 = .ok (.iload_n 1, 1) := by decide +kernel
theorem dM_past_31 : decode mM_past.2.1 31 = .ok (.imul, 1) := by decide +kernel
theorem dM_past_32 : decode mM_past.2.1 32 = .ok (.iaload, 1) := by decide +kernel
theorem dM_past_33 : decode mM_past.2.1 33 = .ok (.iload_n 2, 1) := by decide +kernel
theorem dM_past_34 : decode mM_past.2.1 34 = .ok (.if_icmp .le 7, 3) := by decide +kernel
theorem dM_past_37 : decode mM_past.2.1 37 = .ok (.iconst 1, 1) := by decide +kernel
theorem dM_past_38 : decode mM_past.2.1 38 = .ok (.goto 4, 3) := by decide +kernel
theorem dM_past_41 : decode mM_past.2.1 41 = .ok (.iconst 0, 1) := by decide +kernel
theorem dM_past_42 : decode mM_past.2.1 42 = .ok (.putfield 48, 3) := by decide +kernel
theorem dM_past_45 : decode mM_past.2.1 45 = .ok (.aload_n 0, 1) := by decide +kernel
theorem dM_past_46 : decode mM_past.2.1 46 = .ok (.getfield 48, 3) := by decide +kernel
theorem dM_past_49 : decode mM_past.2.1 49 = .ok (.ifCond .le 5, 3) := by decide +kernel
theorem dM_past_52 : decode mM_past.2.1 52 = .ok (.lconst 0, 1) := by decide +kernel
theorem dM_past_53 : decode mM_past.2.1 53 = .ok (.lreturn, 1) := by decide +kernel
theorem dM_past_54 : decode mM_past.2.1 54 = .ok (.iconst 0, 1) := by decide +kernel
theorem dM_past_55 : decode mM_past.2.1 55 = .ok (.istore_n 3, 1) := by decide +kernel
theorem dM_past_56 : decode mM_past.2.1 56 = .ok (.iload_n 3, 1) := by decide +kernel
theorem dM_past_57 : decode mM_past.2.1 57 = .ok (.iconst 1, 1) := by decide +kernel
theorem dM_past_58 : decode mM_past.2.1 58 = .ok (.iadd, 1) := by decide +kernel
end
section
theorem dM_past_59 : decode mM_past.2.1 59 = .ok (.aload_n 0, 1) := by decide +kernel
theorem dM_past_60 : decode mM_past.2.1 60 = .ok (.getfield 36, 3) := by decide +kernel
theorem dM_past_63 : decode mM_past.2.1 63 = .ok (.iload_n 1, 1) := by decide +kernel
theorem dM_past_64 : decode mM_past.2.1 64 = .ok (.iaload, 1) := by decide +kernel
theorem dM_past_65 : decode mM_past.2.1 65 = .ok (.if_icmp .ge 27, 3) := by decide +kernel
theorem dM_past_68 : decode mM_past.2.1 68 = .ok (.aload_n 0, 1) := by decide +kernel
theorem dM_past_69 : decode mM_past.2.1 69 = .ok (.getfield 39, 3) := by decide +kernel
theorem dM_past_72 : decode mM_past.2.1 72 = .ok (.sipush 520, 3) := by decide +kernel
theorem dM_past_75 : decode mM_past.2.1 75 = .ok (.iload_n 1, 1) := by decide +kernel
theorem dM_past_76 : decode mM_past.2.1 76 = .ok (.imul, 1) := by decide +kernel
theorem dM_past_77 : decode mM_past.2.1 77 = .ok (.iload_n 3, 1) := by decide +kernel
theorem dM_past_78 : decode mM_past.2.1 78 = .ok (.iadd, 1) := by decide +kernel
theorem dM_past_79 : decode mM_past.2.1 79 = .ok (.iconst 1, 1) := by decide +kernel
theorem dM_past_80 : decode mM_past.2.1 80 = .ok (.iadd, 1) := by decide +kernel
theorem dM_past_81 : decode mM_past.2.1 81 = .ok (.iaload, 1) := by decide +kernel
theorem dM_past_82 : decode mM_past.2.1 82 = .ok (.iload_n 2, 1) := by decide +kernel
theorem dM_past_83 : decode mM_past.2.1 83 = .ok (.if_icmp .gt 9, 3) := by decide +kernel
theorem dM_past_86 : decode mM_past.2.1 86 = .ok (.iinc 3 1, 3) := by decide +kernel
theorem dM_past_89 : decode mM_past.2.1 89 = .ok (.goto (-33), 3) := by decide +kernel
theorem dM_past_92 : decode mM_past.2.1 92 = .ok (.aload_n 0, 1) := by decide +kernel
theorem dM_past_93 : decode mM_past.2.1 93 = .ok (.getfield 45, 3) := by decide +kernel
theorem dM_past_96 : decode mM_past.2.1 96 = .ok (.sipush 520, 3) := by decide +kernel
theorem dM_past_99 : decode mM_past.2.1 99 = .ok (.iload_n 1, 1) := by decide +kernel
theorem dM_past_100 : decode mM_past.2.1 100 = .ok (.imul, 1) := by decide +kernel
theorem dM_past_101 : decode mM_past.2.1 101 = .ok (.iload_n 3, 1) := by decide +kernel
theorem dM_past_102 : decode mM_past.2.1 102 = .ok (.iadd, 1) := by decide +kernel
theorem dM_past_103 : decode mM_past.2.1 103 = .ok (.laload, 1) := by decide +kernel
theorem dM_past_104 : decode mM_past.2.1 104 = .ok (.lreturn, 1) := by decide +kernel
theorem dM_forget_0 : decode mM_forget.2.1 0 = .ok (.aload_n 0, 1) := by decide +kernel
theorem dM_forget_1 : decode mM_forget.2.1 1 = .ok (.iconst 0, 1) := by decide +kernel
theorem dM_forget_2 : decode mM_forget.2.1 2 = .ok (.putfield 48, 3) := by decide +kernel
theorem dM_forget_5 : decode mM_forget.2.1 5 = .ok (.iconst 0, 1) := by decide +kernel
theorem dM_forget_6 : decode mM_forget.2.1 6 = .ok (.istore_n 1, 1) := by decide +kernel
theorem dM_forget_7 : decode mM_forget.2.1 7 = .ok (.aload_n 0, 1) := by decide +kernel
theorem dM_forget_8 : decode mM_forget.2.1 8 = .ok (.invokevirtual 101, 3) := by decide +kernel
theorem dM_forget_11 : decode mM_forget.2.1 11 = .ok (.istore_n 2, 1) := by decide +kernel
theorem dM_forget_12 : decode mM_forget.2.1 12 = .ok (.iconst 0, 1) := by decide +kernel
theorem dM_forget_13 : decode mM_forget.2.1 13 = .ok (.istore_n 3, 1) := by decide +kernel
theorem dM_forget_14 : decode mM_forget.2.1 14 = .ok (.iload_n 3, 1) := by decide +kernel
theorem dM_forget_15 : decode mM_forget.2.1 15 = .ok (.bipush 16, 2) := by decide +kernel
theorem dM_forget_17 : decode mM_forget.2.1 17 = .ok (.if_icmp .ge 127, 3) := by decide +kernel
theorem dM_forget_20 : decode mM_forget.2.1 20 = .ok (.aload_n 0, 1) := by decide +kernel
theorem dM_forget_21 : decode mM_forget.2.1 21 = .ok (.getfield 36, 3) := by decide +kernel
theorem dM_forget_24 : decode mM_forget.2.1 24 = .ok (.iload_n 3, 1) := by decide +kernel
theorem dM_forget_25 : decode mM_forget.2.1 25 = .ok (.iaload, 1) := by decide +kernel
theorem dM_forget_26 : decode mM_forget.2.1 26 = .ok (.iconst 1, 1) := by decide +kernel
theorem dM_forget_27 : decode mM_forget.2.1 27 = .ok (.if_icmp .le 111, 3) := by decide +kernel
theorem dM_forget_30 : decode mM_forget.2.1 30 = .ok (.aload_n 0, 1) := by decide +kernel
theorem dM_forget_31 : decode mM_forget.2.1 31 = .ok (.getfield 39, 3) := by decide +kernel
theorem dM_forget_34 : decode mM_forget.2.1 34 = .ok (.sipush 520, 3) := by decide +kernel
theorem dM_forget_37 : decode mM_forget.2.1 37 = .ok (.iload_n 3, 1) := by decide +kernel
theorem dM_forget_38 : decode mM_forget.2.1 38 = .ok (.imul, 1) := by decide +kernel
theorem dM_forget_39 : decode mM_forget.2.1 39 = .ok (.iconst 1, 1) := by decide +kernel
theorem dM_forget_40 : decode mM_forget.2.1 40 = .ok (.iadd, 1) := by decide +kernel
theorem dM_forget_41 : decode mM_forget.2.1 41 = .ok (.iaload, 1) := by decide +kernel
theorem dM_forget_42 : decode mM_forget.2.1 42 = .ok (.iload_n 2, 1) := by decide +kernel
theorem dM_forget_43 : decode mM_forget.2.1 43 = .ok (.if_icmp .gt 95, 3) := by decide +kernel
theorem dM_forget_46 : decode mM_forget.2.1 46 = .ok (.aload_n 0, 1) := by decide +kernel
theorem dM_forget_47 : decode mM_forget.2.1 47 = .ok (.getfield 36, 3) := by decide +kernel
theorem dM_forget_50 : decode mM_forget.2.1 50 = .ok (.iload_n 3, 1) := by decide +kernel
theorem dM_forget_51 : decode mM_forget.2.1 51 = .ok (.dup2, 1) := by decide +kernel
theorem dM_forget_52 : decode mM_forget.2.1 52 = .ok (.iaload, 1) := by decide +kernel
theorem dM_forget_53 : decode mM_forget.2.1 53 = .ok (.iconst 1, 1) := by decide +kernel
theorem dM_forget_54 : decode mM_forget.2.1 54 = .ok (.isub, 1) := by decide +kernel
theorem dM_forget_55 : decode mM_forget.2.1 55 = .ok (.iastore, 1) := by decide +kernel
theorem dM_forget_56 : decode mM_forget.2.1 56 = .ok (.iinc 1 1, 3) := by decide +kernel
theorem dM_forget_59 : decode mM_forget.2.1 59 = .ok (.iconst 0, 1) := by decide +kernel
theorem dM_forget_60 : decode mM_forget.2.1 60 = .ok (.istore 4, 2) := by decide +kernel
theorem dM_forget_62 : decode mM_forget.2.1 62 = .ok (.iload 4, 2) := by decide +kernel
theorem dM_forget_64 : decode mM_forget.2.1 64 = .ok (.aload_n 0, 1) := by decide +kernel
theorem dM_forget_65 : decode mM_forget.2.1 65 = .ok (.getfield 36, 3) := by decide +kernel
theorem dM_forget_68 : decode mM_forget.2.1 68 = .ok (.iload_n 3, 1) := by decide +kernel
theorem dM_forget_69 : decode mM_forget.2.1 69 = .ok (.iaload, 1) := by decide +kernel
theorem dM_forget_70 : decode mM_forget.2.1 70 = .ok (.if_icmp .ge 65, 3) := by decide +kernel
theorem dM_forget_73 : decode mM_forget.2.1 73 = .ok (.aload_n 0, 1) := by decide +kernel
theorem dM_forget_74 : decode mM_forget.2.1 74 = .ok (.getfield 39, 3) := by decide +kernel
theorem dM_forget_77 : decode mM_forget.2.1 77 = .ok (.sipush 520, 3) := by decide +kernel
theorem dM_forget_80 : decode mM_forget.2.1 80 = .ok (.iload_n 3, 1) := by decide +kernel
theorem dM_forget_81 : decode mM_forget.2.1 81 = .ok (.imul, 1) := by decide +kernel
theorem dM_forget_82 : decode mM_forget.2.1 82 = .ok (.iload 4, 2) := by decide +kernel
theorem dM_forget_84 : decode mM_forget.2.1 84 = .ok (.iadd, 1) := by decide +kernel
theorem dM_forget_85 : decode mM_forget.2.1 85 = .ok (.aload_n 0, 1) := by decide +kernel
theorem dM_forget_86 : decode mM_forget.2.1 86 = .ok (.getfield 39, 3) := by decide +kernel
theorem dM_forget_89 : decode mM_forget.2.1 89 = .ok (.sipush 520, 3) := by decide +kernel
theorem dM_forget_92 : decode mM_forget.2.1 92 = .ok (.iload_n 3, 1) := by decide +kernel
theorem dM_forget_93 : decode mM_forget.2.1 93 = .ok (.imul, 1) := by decide +kernel
theorem dM_forget_94 : decode mM_forget.2.1 94 = .ok (.iload 4, 2) := by decide +kernel
theorem dM_forget_96 : decode mM_forget.2.1 96 = .ok (.iadd, 1) := by decide +kernel
theorem dM_forget_97 : decode mM_forget.2.1 97 = .ok (.iconst 1, 1) := by decide +kernel
theorem dM_forget_98 : decode mM_forget.2.1 98 = .ok (.iadd, 1) := by decide +kernel
theorem dM_forget_99 : decode mM_forget.2.1 99 = .ok (.iaload, 1) := by decide +kernel
theorem dM_forget_100 : decode mM_forget.2.1 100 = .ok (.iastore, 1) := by decide +kernel
theorem dM_forget_101 : decode mM_forget.2.1 101 = .ok (.aload_n 0, 1) := by decide +kernel
theorem dM_forget_102 : decode mM_forget.2.1 102 = .ok (.getfield 45, 3) := by decide +kernel
theorem dM_forget_105 : decode mM_forget.2.1 105 = .ok (.sipush 520, 3) := by decide +kernel
theorem dM_forget_108 : decode mM_forget.2.1 108 = .ok (.iload_n 3, 1) := by decide +kernel
theorem dM_forget_109 : decode mM_forget.2.1 109 = .ok (.imul, 1) := by decide +kernel
theorem dM_forget_110 : decode mM_forget.2.1 110 = .ok (.iload 4, 2) := by decide +kernel
theorem dM_forget_112 : decode mM_forget.2.1 112 = .ok (.iadd, 1) := by decide +kernel
theorem dM_forget_113 : decode mM_forget.2.1 113 = .ok (.aload_n 0, 1) := by decide +kernel
theorem dM_forget_114 : decode mM_forget.2.1 114 = .ok (.getfield 45, 3) := by decide +kernel
theorem dM_forget_117 : decode mM_forget.2.1 117 = .ok (.sipush 520, 3) := by decide +kernel
theorem dM_forget_120 : decode mM_forget.2.1 120 = .ok (.iload_n 3, 1) := by decide +kernel
theorem dM_forget_121 : decode mM_forget.2.1 121 = .ok (.imul, 1) := by decide +kernel
theorem dM_forget_122 : decode mM_forget.2.1 122 = .ok (.iload 4, 2) := by decide +kernel
theorem dM_forget_124 : decode mM_forget.2.1 124 = .ok (.iadd, 1) := by decide +kernel
theorem dM_forget_125 : decode mM_forget.2.1 125 = .ok (.iconst 1, 1) := by decide +kernel
theorem dM_forget_126 : decode mM_forget.2.1 126 = .ok (.iadd, 1) := by decide +kernel
theorem dM_forget_127 : decode mM_forget.2.1 127 = .ok (.laload, 1) := by decide +kernel
theorem dM_forget_128 : decode mM_forget.2.1 128 = .ok (.lastore, 1) := by decide +kernel
theorem dM_forget_129 : decode mM_forget.2.1 129 = .ok (.iinc 4 1, 3) := by decide +kernel
theorem dM_forget_132 : decode mM_forget.2.1 132 = .ok (.goto (-70), 3) := by decide +kernel
theorem dM_forget_135 : decode mM_forget.2.1 135 = .ok (.goto (-115), 3) := by decide +kernel
theorem dM_forget_138 : decode mM_forget.2.1 138 = .ok (.iinc 3 1, 3) := by decide +kernel
theorem dM_forget_141 : decode mM_forget.2.1 141 = .ok (.goto (-127), 3) := by decide +kernel
theorem dM_forget_144 : decode mM_forget.2.1 144 = .ok (.iload_n 1, 1) := by decide +kernel
theorem dM_forget_145 : decode mM_forget.2.1 145 = .ok (.ireturn, 1) := by decide +kernel
theorem dM_about_0 : decode mM_about.2.1 0 = .ok (.aload_n 0, 1) := by decide +kernel
theorem dM_about_1 : decode mM_about.2.1 1 = .ok (.iload_n 1, 1) := by decide +kernel
theorem dM_about_2 : decode mM_about.2.1 2 = .ok (.invokevirtual 52, 3) := by decide +kernel
theorem dM_about_5 : decode mM_about.2.1 5 = .ok (.ifCond .eq 5, 3) := by decide +kernel
theorem dM_about_8 : decode mM_about.2.1 8 = .ok (.iconst 0, 1) := by decide +kernel
theorem dM_about_9 : decode mM_about.2.1 9 = .ok (.ireturn, 1) := by decide +kernel
theorem dM_about_10 : decode mM_about.2.1 10 = .ok (.iload_n 2, 1) := by decide +kernel
theorem dM_about_11 : decode mM_about.2.1 11 = .ok (.tableswitch 108 0 5 #[37, 44, 51, 58, 64, 102], 37) := by decide +kernel
theorem dM_about_48 : decode mM_about.2.1 48 = .ok (.aload_n 0, 1) := by decide +kernel
theorem dM_about_49 : decode mM_about.2.1 49 = .ok (.getfield 19, 3) := by decide +kernel
theorem dM_about_52 : decode mM_about.2.1 52 = .ok (.iload_n 1, 1) := by decide +kernel
theorem dM_about_53 : decode mM_about.2.1 53 = .ok (.iaload, 1) := by decide +kernel
theorem dM_about_54 : decode mM_about.2.1 54 = .ok (.ireturn, 1) := by decide +kernel
theorem dM_about_55 : decode mM_about.2.1 55 = .ok (.aload_n 0, 1) := by decide +kernel
theorem dM_about_56 : decode mM_about.2.1 56 = .ok (.getfield 23, 3) := by decide +kernel
theorem dM_about_59 : decode mM_about.2.1 59 = .ok (.iload_n 1, 1) := by decide +kernel
theorem dM_about_60 : decode mM_about.2.1 60 = .ok (.iaload, 1) := by decide +kernel
theorem dM_about_61 : decode mM_about.2.1 61 = .ok (.ireturn, 1) := by decide +kernel
theorem dM_about_62 : decode mM_about.2.1 62 = .ok (.aload_n 0, 1) := by decide +kernel
theorem dM_about_63 : decode mM_about.2.1 63 = .ok (.getfield 26, 3) := by decide +kernel
theorem dM_about_66 : decode mM_about.2.1 66 = .ok (.iload_n 1, 1) := by decide +kernel
theorem dM_about_67 : decode mM_about.2.1 67 = .ok (.iaload, 1) := by decide +kernel
theorem dM_about_68 : decode mM_about.2.1 68 = .ok (.ireturn, 1) := by decide +kernel
theorem dM_about_69 : decode mM_about.2.1 69 = .ok (.aload_n 0, 1) := by decide +kernel
theorem dM_about_70 : decode mM_about.2.1 70 = .ok (.iload_n 1, 1) := by decide +kernel
theorem dM_about_71 : decode mM_about.2.1 71 = .ok (.invokevirtual 94, 3) := by decide +kernel
theorem dM_about_74 : decode mM_about.2.1 74 = .ok (.ireturn, 1) := by decide +kernel
theorem dM_about_75 : decode mM_about.2.1 75 = .ok (.iconst 0, 1) := by decide +kernel
theorem dM_about_76 : decode mM_about.2.1 76 = .ok (.istore_n 3, 1) := by decide +kernel
theorem dM_about_77 : decode mM_about.2.1 77 = .ok (.iconst 0, 1) := by decide +kernel
theorem dM_about_78 : decode mM_about.2.1 78 = .ok (.istore 4, 2) := by decide +kernel
theorem dM_about_80 : decode mM_about.2.1 80 = .ok (.iload 4, 2) := by decide +kernel
theorem dM_about_82 : decode mM_about.2.1 82 = .ok (.bipush 16, 2) := by decide +kernel
theorem dM_about_84 : decode mM_about.2.1 84 = .ok (.if_icmp .ge 27, 3) := by decide +kernel
theorem dM_about_87 : decode mM_about.2.1 87 = .ok (.aload_n 0, 1) := by decide +kernel
theorem dM_about_88 : decode mM_about.2.1 88 = .ok (.getfield 13, 3) := by decide +kernel
theorem dM_about_91 : decode mM_about.2.1 91 = .ok (.bipush 16, 2) := by decide +kernel
theorem dM_about_93 : decode mM_about.2.1 93 = .ok (.iload_n 1, 1) := by decide +kernel
theorem dM_about_94 : decode mM_about.2.1 94 = .ok (.imul, 1) := by decide +kernel
theorem dM_about_95 : decode mM_about.2.1 95 = .ok (.iload 4, 2) := by decide +kernel
theorem dM_about_97 : decode mM_about.2.1 97 = .ok (.iadd, 1) := by decide +kernel
theorem dM_about_98 : decode mM_about.2.1 98 = .ok (.baload, 1) := by decide +kernel
theorem dM_about_99 : decode mM_about.2.1 99 = .ok (.ifCond .eq 6, 3) := by decide +kernel
theorem dM_about_102 : decode mM_about.2.1 102 = .ok (.iinc 3 1, 3) := by decide +kernel
theorem dM_about_105 : decode mM_about.2.1 105 = .ok (.iinc 4 1, 3) := by decide +kernel
theorem dM_about_108 : decode mM_about.2.1 108 = .ok (.goto (-28), 3) := by decide +kernel
theorem dM_about_111 : decode mM_about.2.1 111 = .ok (.iload_n 3, 1) := by decide +kernel
theorem dM_about_112 : decode mM_about.2.1 112 = .ok (.ireturn, 1) := by decide +kernel
theorem dM_about_113 : decode mM_about.2.1 113 = .ok (.aload_n 0, 1) := by decide +kernel
theorem dM_about_114 : decode mM_about.2.1 114 = .ok (.iload_n 1, 1) := by decide +kernel
theorem dM_about_115 : decode mM_about.2.1 115 = .ok (.invokevirtual 91, 3) := by decide +kernel
theorem dM_about_118 : decode mM_about.2.1 118 = .ok (.ireturn, 1) := by decide +kernel
theorem dM_about_119 : decode mM_about.2.1 119 = .ok (.aload_n 0, 1) := by decide +kernel
theorem dM_about_120 : decode mM_about.2.1 120 = .ok (.iconst 2, 1) := by decide +kernel
theorem dM_about_121 : decode mM_about.2.1 121 = .ok (.invokevirtual 72, 3) := by decide +kernel
theorem dM_about_124 : decode mM_about.2.1 124 = .ok (.ireturn, 1) := by decide +kernel
theorem dM_count_0 : decode mM_count.2.1 0 = .ok (.aload_n 0, 1) := by decide +kernel
theorem dM_count_1 : decode mM_count.2.1 1 = .ok (.iconst 0, 1) := by decide +kernel
theorem dM_count_2 : decode mM_count.2.1 2 = .ok (.putfield 48, 3) := by decide +kernel
theorem dM_count_5 : decode mM_count.2.1 5 = .ok (.iconst 0, 1) := by decide +kernel
theorem dM_count_6 : decode mM_count.2.1 6 = .ok (.istore_n 2, 1) := by decide +kernel
theorem dM_count_7 : decode mM_count.2.1 7 = .ok (.iload_n 1, 1) := by decide +kernel
theorem dM_count_8 : decode mM_count.2.1 8 = .ok (.tableswitch 75 0 3 #[32, 37, 65, 70], 32) := by decide +kernel
theorem dM_count_40 : decode mM_count.2.1 40 = .ok (.aload_n 0, 1) := by decide +kernel
theorem dM_count_41 : decode mM_count.2.1 41 = .ok (.getfield 64, 3) := by decide +kernel
theorem dM_count_44 : decode mM_count.2.1 44 = .ok (.ireturn, 1) := by decide +kernel
theorem dM_count_45 : decode mM_count.2.1 45 = .ok (.iconst 0, 1) := by decide +kernel
theorem dM_count_46 : decode mM_count.2.1 46 = .ok (.istore_n 3, 1) := by decide +kernel
theorem dM_count_47 : decode mM_count.2.1 47 = .ok (.iload_n 3, 1) := by decide +kernel
theorem dM_count_48 : decode mM_count.2.1 48 = .ok (.bipush 16, 2) := by decide +kernel
theorem dM_count_50 : decode mM_count.2.1 50 = .ok (.if_icmp .ge 21, 3) := by decide +kernel
theorem dM_count_53 : decode mM_count.2.1 53 = .ok (.aload_n 0, 1) := by decide +kernel
theorem dM_count_54 : decode mM_count.2.1 54 = .ok (.getfield 9, 3) := by decide +kernel
theorem dM_count_57 : decode mM_count.2.1 57 = .ok (.iload_n 3, 1) := by decide +kernel
theorem dM_count_58 : decode mM_count.2.1 58 = .ok (.baload, 1) := by decide +kernel
theorem dM_count_59 : decode mM_count.2.1 59 = .ok (.ifCond .eq 6, 3) := by decide +kernel
theorem dM_count_62 : decode mM_count.2.1 62 = .ok (.iinc 2 1, 3) := by decide +kernel
theorem dM_count_65 : decode mM_count.2.1 65 = .ok (.iinc 3 1, 3) := by decide +kernel
theorem dM_count_68 : decode mM_count.2.1 68 = .ok (.goto (-21), 3) := by decide +kernel
theorem dM_count_71 : decode mM_count.2.1 71 = .ok (.iload_n 2, 1) := by decide +kernel
theorem dM_count_72 : decode mM_count.2.1 72 = .ok (.ireturn, 1) := by decide +kernel
theorem dM_count_73 : decode mM_count.2.1 73 = .ok (.aload_n 0, 1) := by decide +kernel
theorem dM_count_74 : decode mM_count.2.1 74 = .ok (.invokevirtual 97, 3) := by decide +kernel
theorem dM_count_77 : decode mM_count.2.1 77 = .ok (.ireturn, 1) := by decide +kernel
theorem dM_count_78 : decode mM_count.2.1 78 = .ok (.aload_n 0, 1) := by decide +kernel
theorem dM_count_79 : decode mM_count.2.1 79 = .ok (.invokevirtual 101, 3) := by decide +kernel
theorem dM_count_82 : decode mM_count.2.1 82 = .ok (.ireturn, 1) := by decide +kernel
theorem dM_count_83 : decode mM_count.2.1 83 = .ok (.iconst (-1), 1) := by decide +kernel
theorem dM_count_84 : decode mM_count.2.1 84 = .ok (.ireturn, 1) := by decide +kernel
end
section
theorem dL_begin_0 : decode mL_begin.2.1 0 = .ok (.aload_n 2, 1) := by decide +kernel
theorem dL_begin_1 : decode mL_begin.2.1 1 = .ok (.iconst 0, 1) := by decide +kernel
theorem dL_begin_2 : decode mL_begin.2.1 2 = .ok (.aload_n 0, 1) := by decide +kernel
theorem dL_begin_3 : decode mL_begin.2.1 3 = .ok (.iload_n 1, 1) := by decide +kernel
theorem dL_begin_4 : decode mL_begin.2.1 4 = .ok (.invokevirtual 7, 3) := by decide +kernel
theorem dL_begin_7 : decode mL_begin.2.1 7 = .ok (.i2l, 1) := by decide +kernel
theorem dL_begin_8 : decode mL_begin.2.1 8 = .ok (.lastore, 1) := by decide +kernel
theorem dL_begin_9 : decode mL_begin.2.1 9 = .ok (.goto 9, 3) := by decide +kernel
theorem dL_begin_12 : decode mL_begin.2.1 12 = .ok (.astore_n 3, 1) := by decide +kernel
theorem dL_begin_13 : decode mL_begin.2.1 13 = .ok (.iconst 1, 1) := by decide +kernel
theorem dL_begin_14 : decode mL_begin.2.1 14 = .ok (.ireturn, 1) := by decide +kernel
theorem dL_begin_15 : decode mL_begin.2.1 15 = .ok (.astore_n 3, 1) := by decide +kernel
theorem dL_begin_16 : decode mL_begin.2.1 16 = .ok (.iconst 2, 1) := by decide +kernel
theorem dL_begin_17 : decode mL_begin.2.1 17 = .ok (.ireturn, 1) := by decide +kernel
theorem dL_begin_18 : decode mL_begin.2.1 18 = .ok (.iconst 0, 1) := by decide +kernel
theorem dL_begin_19 : decode mL_begin.2.1 19 = .ok (.ireturn, 1) := by decide +kernel
theorem dL_read_0 : decode mL_read.2.1 0 = .ok (.aload_n 3, 1) := by decide +kernel
theorem dL_read_1 : decode mL_read.2.1 1 = .ok (.iconst 0, 1) := by decide +kernel
theorem dL_read_2 : decode mL_read.2.1 2 = .ok (.aload_n 0, 1) := by decide +kernel
theorem dL_read_3 : decode mL_read.2.1 3 = .ok (.iload_n 1, 1) := by decide +kernel
theorem dL_read_4 : decode mL_read.2.1 4 = .ok (.iload_n 2, 1) := by decide +kernel
theorem dL_read_5 : decode mL_read.2.1 5 = .ok (.invokevirtual 17, 3) := by decide +kernel
theorem dL_read_8 : decode mL_read.2.1 8 = .ok (.lastore, 1) := by decide +kernel
theorem dL_read_9 : decode mL_read.2.1 9 = .ok (.goto 7, 3) := by decide +kernel
theorem dL_read_12 : decode mL_read.2.1 12 = .ok (.astore 4, 2) := by decide +kernel
theorem dL_read_14 : decode mL_read.2.1 14 = .ok (.iconst 1, 1) := by decide +kernel
theorem dL_read_15 : decode mL_read.2.1 15 = .ok (.ireturn, 1) := by decide +kernel
theorem dL_read_16 : decode mL_read.2.1 16 = .ok (.iconst 0, 1) := by decide +kernel
theorem dL_read_17 : decode mL_read.2.1 17 = .ok (.ireturn, 1) := by decide +kernel
theorem dL_write_0 : decode mL_write.2.1 0 = .ok (.aload 5, 2) := by decide +kernel
theorem dL_write_2 : decode mL_write.2.1 2 = .ok (.iconst 0, 1) := by decide +kernel
theorem dL_write_3 : decode mL_write.2.1 3 = .ok (.aload_n 0, 1) := by decide +kernel
theorem dL_write_4 : decode mL_write.2.1 4 = .ok (.iload_n 1, 1) := by decide +kernel
theorem dL_write_5 : decode mL_write.2.1 5 = .ok (.iload_n 2, 1) := by decide +kernel
theorem dL_write_6 : decode mL_write.2.1 6 = .ok (.lload_n 3, 1) := by decide +kernel
theorem dL_write_7 : decode mL_write.2.1 7 = .ok (.invokevirtual 23, 3) := by decide +kernel
theorem dL_write_10 : decode mL_write.2.1 10 = .ok (.lastore, 1) := by decide +kernel
theorem dL_write_11 : decode mL_write.2.1 11 = .ok (.goto 7, 3) := by decide +kernel
theorem dL_write_14 : decode mL_write.2.1 14 = .ok (.astore 6, 2) := by decide +kernel
theorem dL_write_16 : decode mL_write.2.1 16 = .ok (.iconst 1, 1) := by decide +kernel
theorem dL_write_17 : decode mL_write.2.1 17 = .ok (.ireturn, 1) := by decide +kernel
theorem dL_write_18 : decode mL_write.2.1 18 = .ok (.iconst 0, 1) := by decide +kernel
theorem dL_write_19 : decode mL_write.2.1 19 = .ok (.ireturn, 1) := by decide +kernel
theorem dL_push_0 : decode mL_push.2.1 0 = .ok (.aload_n 2, 1) := by decide +kernel
theorem dL_push_1 : decode mL_push.2.1 1 = .ok (.iconst 0, 1) := by decide +kernel
theorem dL_push_2 : decode mL_push.2.1 2 = .ok (.aload_n 0, 1) := by decide +kernel
theorem dL_push_3 : decode mL_push.2.1 3 = .ok (.iload_n 1, 1) := by decide +kernel
theorem dL_push_4 : decode mL_push.2.1 4 = .ok (.invokevirtual 27, 3) := by decide +kernel
theorem dL_push_7 : decode mL_push.2.1 7 = .ok (.i2l, 1) := by decide +kernel
theorem dL_push_8 : decode mL_push.2.1 8 = .ok (.lastore, 1) := by decide +kernel
theorem dL_push_9 : decode mL_push.2.1 9 = .ok (.goto 9, 3) := by decide +kernel
theorem dL_push_12 : decode mL_push.2.1 12 = .ok (.astore_n 3, 1) := by decide +kernel
theorem dL_push_13 : decode mL_push.2.1 13 = .ok (.iconst 1, 1) := by decide +kernel
theorem dL_push_14 : decode mL_push.2.1 14 = .ok (.ireturn, 1) := by decide +kernel
theorem dL_push_15 : decode mL_push.2.1 15 = .ok (.astore_n 3, 1) := by decide +kernel
theorem dL_push_16 : decode mL_push.2.1 16 = .ok (.iconst 2, 1) := by decide +kernel
theorem dL_push_17 : decode mL_push.2.1 17 = .ok (.ireturn, 1) := by decide +kernel
theorem dL_push_18 : decode mL_push.2.1 18 = .ok (.iconst 0, 1) := by decide +kernel
theorem dL_push_19 : decode mL_push.2.1 19 = .ok (.ireturn, 1) := by decide +kernel
theorem dL_pop_0 : decode mL_pop.2.1 0 = .ok (.aload_n 3, 1) := by decide +kernel
theorem dL_pop_1 : decode mL_pop.2.1 1 = .ok (.iconst 0, 1) := by decide +kernel
theorem dL_pop_2 : decode mL_pop.2.1 2 = .ok (.aload_n 0, 1) := by decide +kernel
theorem dL_pop_3 : decode mL_pop.2.1 3 = .ok (.iload_n 1, 1) := by decide +kernel
theorem dL_pop_4 : decode mL_pop.2.1 4 = .ok (.iload_n 2, 1) := by decide +kernel
theorem dL_pop_5 : decode mL_pop.2.1 5 = .ok (.invokevirtual 30, 3) := by decide +kernel
theorem dL_pop_8 : decode mL_pop.2.1 8 = .ok (.i2l, 1) := by decide +kernel
theorem dL_pop_9 : decode mL_pop.2.1 9 = .ok (.lastore, 1) := by decide +kernel
theorem dL_pop_10 : decode mL_pop.2.1 10 = .ok (.goto 11, 3) := by decide +kernel
theorem dL_pop_13 : decode mL_pop.2.1 13 = .ok (.astore 4, 2) := by decide +kernel
theorem dL_pop_15 : decode mL_pop.2.1 15 = .ok (.iconst 1, 1) := by decide +kernel
theorem dL_pop_16 : decode mL_pop.2.1 16 = .ok (.ireturn, 1) := by decide +kernel
theorem dL_pop_17 : decode mL_pop.2.1 17 = .ok (.astore 4, 2) := by decide +kernel
theorem dL_pop_19 : decode mL_pop.2.1 19 = .ok (.iconst 2, 1) := by decide +kernel
theorem dL_pop_20 : decode mL_pop.2.1 20 = .ok (.ireturn, 1) := by decide +kernel
theorem dL_pop_21 : decode mL_pop.2.1 21 = .ok (.iconst 0, 1) := by decide +kernel
theorem dL_pop_22 : decode mL_pop.2.1 22 = .ok (.ireturn, 1) := by decide +kernel
theorem dL_commit_0 : decode mL_commit.2.1 0 = .ok (.aload_n 2, 1) := by decide +kernel
theorem dL_commit_1 : decode mL_commit.2.1 1 = .ok (.iconst 0, 1) := by decide +kernel
theorem dL_commit_2 : decode mL_commit.2.1 2 = .ok (.aload_n 0, 1) := by decide +kernel
theorem dL_commit_3 : decode mL_commit.2.1 3 = .ok (.iload_n 1, 1) := by decide +kernel
theorem dL_commit_4 : decode mL_commit.2.1 4 = .ok (.invokevirtual 34, 3) := by decide +kernel
theorem dL_commit_7 : decode mL_commit.2.1 7 = .ok (.i2l, 1) := by decide +kernel
theorem dL_commit_8 : decode mL_commit.2.1 8 = .ok (.lastore, 1) := by decide +kernel
theorem dL_commit_9 : decode mL_commit.2.1 9 = .ok (.goto 9, 3) := by decide +kernel
theorem dL_commit_12 : decode mL_commit.2.1 12 = .ok (.astore_n 3, 1) := by decide +kernel
theorem dL_commit_13 : decode mL_commit.2.1 13 = .ok (.iconst 1, 1) := by decide +kernel
theorem dL_commit_14 : decode mL_commit.2.1 14 = .ok (.ireturn, 1) := by decide +kernel
theorem dL_commit_15 : decode mL_commit.2.1 15 = .ok (.astore_n 3, 1) := by decide +kernel
theorem dL_commit_16 : decode mL_commit.2.1 16 = .ok (.iconst 2, 1) := by decide +kernel
theorem dL_commit_17 : decode mL_commit.2.1 17 = .ok (.ireturn, 1) := by decide +kernel
theorem dL_commit_18 : decode mL_commit.2.1 18 = .ok (.iconst 0, 1) := by decide +kernel
theorem dL_commit_19 : decode mL_commit.2.1 19 = .ok (.ireturn, 1) := by decide +kernel
theorem dL_drop_0 : decode mL_drop.2.1 0 = .ok (.aload_n 2, 1) := by decide +kernel
theorem dL_drop_1 : decode mL_drop.2.1 1 = .ok (.iconst 0, 1) := by decide +kernel
theorem dL_drop_2 : decode mL_drop.2.1 2 = .ok (.aload_n 0, 1) := by decide +kernel
theorem dL_drop_3 : decode mL_drop.2.1 3 = .ok (.iload_n 1, 1) := by decide +kernel
theorem dL_drop_4 : decode mL_drop.2.1 4 = .ok (.invokevirtual 37, 3) := by decide +kernel
theorem dL_drop_7 : decode mL_drop.2.1 7 = .ok (.i2l, 1) := by decide +kernel
theorem dL_drop_8 : decode mL_drop.2.1 8 = .ok (.lastore, 1) := by decide +kernel
theorem dL_drop_9 : decode mL_drop.2.1 9 = .ok (.goto 6, 3) := by decide +kernel
theorem dL_drop_12 : decode mL_drop.2.1 12 = .ok (.astore_n 3, 1) := by decide +kernel
theorem dL_drop_13 : decode mL_drop.2.1 13 = .ok (.iconst 1, 1) := by decide +kernel
theorem dL_drop_14 : decode mL_drop.2.1 14 = .ok (.ireturn, 1) := by decide +kernel
theorem dL_drop_15 : decode mL_drop.2.1 15 = .ok (.iconst 0, 1) := by decide +kernel
theorem dL_drop_16 : decode mL_drop.2.1 16 = .ok (.ireturn, 1) := by decide +kernel
theorem dL_spoiled_0 : decode mL_spoiled.2.1 0 = .ok (.aload_n 2, 1) := by decide +kernel
theorem dL_spoiled_1 : decode mL_spoiled.2.1 1 = .ok (.iconst 0, 1) := by decide +kernel
theorem dL_spoiled_2 : decode mL_spoiled.2.1 2 = .ok (.aload_n 0, 1) := by decide +kernel
theorem dL_spoiled_3 : decode mL_spoiled.2.1 3 = .ok (.iload_n 1, 1) := by decide +kernel
theorem dL_spoiled_4 : decode mL_spoiled.2.1 4 = .ok (.invokevirtual 40, 3) := by decide +kernel
theorem dL_spoiled_7 : decode mL_spoiled.2.1 7 = .ok (.ifCond .eq 7, 3) := by decide +kernel
theorem dL_spoiled_10 : decode mL_spoiled.2.1 10 = .ok (.lconst 1, 1) := by decide +kernel
theorem dL_spoiled_11 : decode mL_spoiled.2.1 11 = .ok (.goto 4, 3) := by decide +kernel
theorem dL_spoiled_14 : decode mL_spoiled.2.1 14 = .ok (.lconst 0, 1) := by decide +kernel
theorem dL_spoiled_15 : decode mL_spoiled.2.1 15 = .ok (.lastore, 1) := by decide +kernel
theorem dL_spoiled_16 : decode mL_spoiled.2.1 16 = .ok (.goto 6, 3) := by decide +kernel
theorem dL_spoiled_19 : decode mL_spoiled.2.1 19 = .ok (.astore_n 3, 1) := by decide +kernel
theorem dL_spoiled_20 : decode mL_spoiled.2.1 20 = .ok (.iconst 1, 1) := by decide +kernel
theorem dL_spoiled_21 : decode mL_spoiled.2.1 21 = .ok (.ireturn, 1) := by decide +kernel
theorem dL_spoiled_22 : decode mL_spoiled.2.1 22 = .ok (.iconst 0, 1) := by decide +kernel
theorem dL_spoiled_23 : decode mL_spoiled.2.1 23 = .ok (.ireturn, 1) := by decide +kernel
theorem dL_meets_0 : decode mL_meets.2.1 0 = .ok (.aload_n 3, 1) := by decide +kernel
theorem dL_meets_1 : decode mL_meets.2.1 1 = .ok (.iconst 0, 1) := by decide +kernel
theorem dL_meets_2 : decode mL_meets.2.1 2 = .ok (.aload_n 0, 1) := by decide +kernel
theorem dL_meets_3 : decode mL_meets.2.1 3 = .ok (.iload_n 1, 1) := by decide +kernel
theorem dL_meets_4 : decode mL_meets.2.1 4 = .ok (.iload_n 2, 1) := by decide +kernel
theorem dL_meets_5 : decode mL_meets.2.1 5 = .ok (.invokevirtual 44, 3) := by decide +kernel
theorem dL_meets_8 : decode mL_meets.2.1 8 = .ok (.ifCond .eq 7, 3) := by decide +kernel
theorem dL_meets_11 : decode mL_meets.2.1 11 = .ok (.lconst 1, 1) := by decide +kernel
theorem dL_meets_12 : decode mL_meets.2.1 12 = .ok (.goto 4, 3) := by decide +kernel
theorem dL_meets_15 : decode mL_meets.2.1 15 = .ok (.lconst 0, 1) := by decide +kernel
theorem dL_meets_16 : decode mL_meets.2.1 16 = .ok (.lastore, 1) := by decide +kernel
theorem dL_meets_17 : decode mL_meets.2.1 17 = .ok (.goto 7, 3) := by decide +kernel
theorem dL_meets_20 : decode mL_meets.2.1 20 = .ok (.astore 4, 2) := by decide +kernel
theorem dL_meets_22 : decode mL_meets.2.1 22 = .ok (.iconst 1, 1) := by decide +kernel
theorem dL_meets_23 : decode mL_meets.2.1 23 = .ok (.ireturn, 1) := by decide +kernel
theorem dL_meets_24 : decode mL_meets.2.1 24 = .ok (.iconst 0, 1) := by decide +kernel
theorem dL_meets_25 : decode mL_meets.2.1 25 = .ok (.ireturn, 1) := by decide +kernel
theorem dL_past_0 : decode mL_past.2.1 0 = .ok (.aload_n 3, 1) := by decide +kernel
theorem dL_past_1 : decode mL_past.2.1 1 = .ok (.iconst 0, 1) := by decide +kernel
theorem dL_past_2 : decode mL_past.2.1 2 = .ok (.aload_n 0, 1) := by decide +kernel
theorem dL_past_3 : decode mL_past.2.1 3 = .ok (.iload_n 1, 1) := by decide +kernel
theorem dL_past_4 : decode mL_past.2.1 4 = .ok (.iload_n 2, 1) := by decide +kernel
theorem dL_past_5 : decode mL_past.2.1 5 = .ok (.invokevirtual 48, 3) := by decide +kernel
theorem dL_past_8 : decode mL_past.2.1 8 = .ok (.lastore, 1) := by decide +kernel
theorem dL_past_9 : decode mL_past.2.1 9 = .ok (.goto 7, 3) := by decide +kernel
theorem dL_past_12 : decode mL_past.2.1 12 = .ok (.astore 4, 2) := by decide +kernel
theorem dL_past_14 : decode mL_past.2.1 14 = .ok (.iconst 1, 1) := by decide +kernel
theorem dL_past_15 : decode mL_past.2.1 15 = .ok (.ireturn, 1) := by decide +kernel
theorem dL_past_16 : decode mL_past.2.1 16 = .ok (.iconst 0, 1) := by decide +kernel
theorem dL_past_17 : decode mL_past.2.1 17 = .ok (.ireturn, 1) := by decide +kernel
theorem dL_about_0 : decode mL_about.2.1 0 = .ok (.aload_n 3, 1) := by decide +kernel
theorem dL_about_1 : decode mL_about.2.1 1 = .ok (.iconst 0, 1) := by decide +kernel
theorem dL_about_2 : decode mL_about.2.1 2 = .ok (.aload_n 0, 1) := by decide +kernel
theorem dL_about_3 : decode mL_about.2.1 3 = .ok (.iload_n 1, 1) := by decide +kernel
theorem dL_about_4 : decode mL_about.2.1 4 = .ok (.iload_n 2, 1) := by decide +kernel
theorem dL_about_5 : decode mL_about.2.1 5 = .ok (.invokevirtual 51, 3) := by decide +kernel
theorem dL_about_8 : decode mL_about.2.1 8 = .ok (.i2l, 1) := by decide +kernel
theorem dL_about_9 : decode mL_about.2.1 9 = .ok (.lastore, 1) := by decide +kernel
theorem dL_about_10 : decode mL_about.2.1 10 = .ok (.goto 11, 3) := by decide +kernel
theorem dL_about_13 : decode mL_about.2.1 13 = .ok (.astore 4, 2) := by decide +kernel
theorem dL_about_15 : decode mL_about.2.1 15 = .ok (.iconst 1, 1) := by decide +kernel
theorem dL_about_16 : decode mL_about.2.1 16 = .ok (.ireturn, 1) := by decide +kernel
theorem dL_about_17 : decode mL_about.2.1 17 = .ok (.astore 4, 2) := by decide +kernel
theorem dL_about_19 : decode mL_about.2.1 19 = .ok (.iconst 2, 1) := by decide +kernel
theorem dL_about_20 : decode mL_about.2.1 20 = .ok (.ireturn, 1) := by decide +kernel
theorem dL_about_21 : decode mL_about.2.1 21 = .ok (.iconst 0, 1) := by decide +kernel
theorem dL_about_22 : decode mL_about.2.1 22 = .ok (.ireturn, 1) := by decide +kernel
theorem dL_law_0 : decode mL_law.2.1 0 = .ok (.new 8, 3) := by decide +kernel
theorem dL_law_3 : decode mL_law.2.1 3 = .ok (.dup, 1) := by decide +kernel
theorem dL_law_4 : decode mL_law.2.1 4 = .ok (.invokespecial 55, 3) := by decide +kernel
theorem dL_law_7 : decode mL_law.2.1 7 = .ok (.astore_n 1, 1) := by decide +kernel
theorem dL_law_8 : decode mL_law.2.1 8 = .ok (.new 56, 3) := by decide +kernel
theorem dL_law_11 : decode mL_law.2.1 11 = .ok (.dup, 1) := by decide +kernel
theorem dL_law_12 : decode mL_law.2.1 12 = .ok (.invokespecial 58, 3) := by decide +kernel
theorem dL_law_15 : decode mL_law.2.1 15 = .ok (.astore_n 2, 1) := by decide +kernel
theorem dL_law_16 : decode mL_law.2.1 16 = .ok (.iconst 1, 1) := by decide +kernel
theorem dL_law_17 : decode mL_law.2.1 17 = .ok (.newarray .long, 2) := by decide +kernel
theorem dL_law_19 : decode mL_law.2.1 19 = .ok (.astore_n 3, 1) := by decide +kernel
theorem dL_law_20 : decode mL_law.2.1 20 = .ok (.iconst 0, 1) := by decide +kernel
theorem dL_law_21 : decode mL_law.2.1 21 = .ok (.istore 4, 2) := by decide +kernel
theorem dL_law_23 : decode mL_law.2.1 23 = .ok (.iload 4, 2) := by decide +kernel
theorem dL_law_25 : decode mL_law.2.1 25 = .ok (.aload_n 0, 1) := by decide +kernel
theorem dL_law_26 : decode mL_law.2.1 26 = .ok (.arraylength, 1) := by decide +kernel
theorem dL_law_27 : decode mL_law.2.1 27 = .ok (.iconst 5, 1) := by decide +kernel
theorem dL_law_28 : decode mL_law.2.1 28 = .ok (.isub, 1) := by decide +kernel
theorem dL_law_29 : decode mL_law.2.1 29 = .ok (.if_icmp .gt 878, 3) := by decide +kernel
theorem dL_law_32 : decode mL_law.2.1 32 = .ok (.aload_n 0, 1) := by decide +kernel
theorem dL_law_33 : decode mL_law.2.1 33 = .ok (.iload 4, 2) := by decide +kernel
theorem dL_law_35 : decode mL_law.2.1 35 = .ok (.iaload, 1) := by decide +kernel
theorem dL_law_36 : decode mL_law.2.1 36 = .ok (.bipush 15, 2) := by decide +kernel
theorem dL_law_38 : decode mL_law.2.1 38 = .ok (.iand, 1) := by decide +kernel
theorem dL_law_39 : decode mL_law.2.1 39 = .ok (.tableswitch 862 0 12 #[65, 121, 188, 299, 355, 439, 495, 551, 614, 689, 756, 769, 837], 65) := by decide +kernel
theorem dL_law_104 : decode mL_law.2.1 104 = .ok (.aload_n 1, 1) := by decide +kernel
theorem dL_law_105 : decode mL_law.2.1 105 = .ok (.aload_n 0, 1) := by decide +kernel
theorem dL_law_106 : decode mL_law.2.1 106 = .ok (.iload 4, 2) := by decide +kernel
theorem dL_law_108 : decode mL_law.2.1 108 = .ok (.iconst 1, 1) := by decide +kernel
theorem dL_law_109 : decode mL_law.2.1 109 = .ok (.iadd, 1) := by decide +kernel
theorem dL_law_110 : decode mL_law.2.1 110 = .ok (.iaload, 1) := by decide +kernel
theorem dL_law_111 : decode mL_law.2.1 111 = .ok (.aload_n 3, 1) := by decide +kernel
theorem dL_law_112 : decode mL_law.2.1 112 = .ok (.invokestatic 59, 3) := by decide +kernel
theorem dL_law_115 : decode mL_law.2.1 115 = .ok (.istore 5, 2) := by decide +kernel
theorem dL_law_117 : decode mL_law.2.1 117 = .ok (.aload_n 2, 1) := by decide +kernel
theorem dL_law_118 : decode mL_law.2.1 118 = .ok (.aload_n 0, 1) := by decide +kernel
theorem dL_law_119 : decode mL_law.2.1 119 = .ok (.iload 4, 2) := by decide +kernel
theorem dL_law_121 : decode mL_law.2.1 121 = .ok (.iconst 1, 1) := by decide +kernel
theorem dL_law_122 : decode mL_law.2.1 122 = .ok (.iadd, 1) := by decide +kernel
theorem dL_law_123 : decode mL_law.2.1 123 = .ok (.iaload, 1) := by decide +kernel
theorem dL_law_124 : decode mL_law.2.1 124 = .ok (.invokevirtual 64, 3) := by decide +kernel
theorem dL_law_127 : decode mL_law.2.1 127 = .ok (.istore 6, 2) := by decide +kernel
theorem dL_law_129 : decode mL_law.2.1 129 = .ok (.aload_n 2, 1) := by decide +kernel
theorem dL_law_130 : decode mL_law.2.1 130 = .ok (.invokevirtual 65, 3) := by decide +kernel
theorem dL_law_133 : decode mL_law.2.1 133 = .ok (.iload 5, 2) := by decide +kernel
theorem dL_law_135 : decode mL_law.2.1 135 = .ok (.if_icmp .eq 5, 3) := by decide +kernel
theorem dL_law_138 : decode mL_law.2.1 138 = .ok (.iconst 0, 1) := by decide +kernel
theorem dL_law_139 : decode mL_law.2.1 139 = .ok (.ireturn, 1) := by decide +kernel
theorem dL_law_140 : decode mL_law.2.1 140 = .ok (.iload 5, 2) := by decide +kernel
theorem dL_law_142 : decode mL_law.2.1 142 = .ok (.ifCond .ne 15, 3) := by decide +kernel
theorem dL_law_145 : decode mL_law.2.1 145 = .ok (.aload_n 3, 1) := by decide +kernel
theorem dL_law_146 : decode mL_law.2.1 146 = .ok (.iconst 0, 1) := by decide +kernel
theorem dL_law_147 : decode mL_law.2.1 147 = .ok (.laload, 1) := by decide +kernel
theorem dL_law_148 : decode mL_law.2.1 148 = .ok (.iload 6, 2) := by decide +kernel
theorem dL_law_150 : decode mL_law.2.1 150 = .ok (.i2l, 1) := by decide +kernel
theorem dL_law_151 : decode mL_law.2.1 151 = .ok (.lcmp, 1) := by decide +kernel
theorem dL_law_152 : decode mL_law.2.1 152 = .ok (.ifCond .eq 5, 3) := by decide +kernel
theorem dL_law_155 : decode mL_law.2.1 155 = .ok (.iconst 0, 1) := by decide +kernel
theorem dL_law_156 : decode mL_law.2.1 156 = .ok (.ireturn, 1) := by decide +kernel
theorem dL_law_157 : decode mL_law.2.1 157 = .ok (.goto 744, 3) := by decide +kernel
theorem dL_law_160 : decode mL_law.2.1 160 = .ok (.aload_n 1, 1) := by decide +kernel
theorem dL_law_161 : decode mL_law.2.1 161 = .ok (.aload_n 0, 1) := by decide +kernel
theorem dL_law_162 : decode mL_law.2.1 162 = .ok (.iload 4, 2) := by decide +kernel
theorem dL_law_164 : decode mL_law.2.1 164 = .ok (.iconst 1, 1) := by decide +kernel
theorem dL_law_165 : decode mL_law.2.1 165 = .ok (.iadd, 1) := by decide +kernel
theorem dL_law_166 : decode mL_law.2.1 166 = .ok (.iaload, 1) := by decide +kernel
theorem dL_law_167 : decode mL_law.2.1 167 = .ok (.aload_n 0, 1) := by decide +kernel
theorem dL_law_168 : decode mL_law.2.1 168 = .ok (.iload 4, 2) := by decide +kernel
theorem dL_law_170 : decode mL_law.2.1 170 = .ok (.iconst 2, 1) := by decide +kernel
theorem dL_law_171 : decode mL_law.2.1 171 = .ok (.iadd, 1) := by decide +kernel
theorem dL_law_172 : decode mL_law.2.1 172 = .ok (.iaload, 1) := by decide +kernel
theorem dL_law_173 : decode mL_law.2.1 173 = .ok (.aload_n 3, 1) := by decide +kernel
theorem dL_law_174 : decode mL_law.2.1 174 = .ok (.invokestatic 69, 3) := by decide +kernel
theorem dL_law_177 : decode mL_law.2.1 177 = .ok (.istore 5, 2) := by decide +kernel
theorem dL_law_179 : decode mL_law.2.1 179 = .ok (.aload_n 2, 1) := by decide +kernel
theorem dL_law_180 : decode mL_law.2.1 180 = .ok (.aload_n 0, 1) := by decide +kernel
theorem dL_law_181 : decode mL_law.2.1 181 = .ok (.iload 4, 2) := by decide +kernel
theorem dL_law_183 : decode mL_law.2.1 183 = .ok (.iconst 1, 1) := by decide +kernel
theorem dL_law_184 : decode mL_law.2.1 184 = .ok (.iadd, 1) := by decide +kernel
theorem dL_law_185 : decode mL_law.2.1 185 = .ok (.iaload, 1) := by decide +kernel
theorem dL_law_186 : decode mL_law.2.1 186 = .ok (.aload_n 0, 1) := by decide +kernel
theorem dL_law_187 : decode mL_law.2.1 187 = .ok (.iload 4, 2) := by decide +kernel
theorem dL_law_189 : decode mL_law.2.1 189 = .ok (.iconst 2, 1) := by decide +kernel
theorem dL_law_190 : decode mL_law.2.1 190 = .ok (.iadd, 1) := by decide +kernel
theorem dL_law_191 : decode mL_law.2.1 191 = .ok (.iaload, 1) := by decide +kernel
theorem dL_law_192 : decode mL_law.2.1 192 = .ok (.invokevirtual 72, 3) := by decide +kernel
theorem dL_law_195 : decode mL_law.2.1 195 = .ok (.lstore 6, 2) := by decide +kernel
theorem dL_law_197 : decode mL_law.2.1 197 = .ok (.aload_n 2, 1) := by decide +kernel
theorem dL_law_198 : decode mL_law.2.1 198 = .ok (.invokevirtual 65, 3) := by decide +kernel
theorem dL_law_201 : decode mL_law.2.1 201 = .ok (.iload 5, 2) := by decide +kernel
theorem dL_law_203 : decode mL_law.2.1 203 = .ok (.if_icmp .eq 5, 3) := by decide +kernel
theorem dL_law_206 : decode mL_law.2.1 206 = .ok (.iconst 0, 1) := by decide +kernel
theorem dL_law_207 : decode mL_law.2.1 207 = .ok (.ireturn, 1) := by decide +kernel
theorem dL_law_208 : decode mL_law.2.1 208 = .ok (.iload 5, 2) := by decide +kernel
theorem dL_law_210 : decode mL_law.2.1 210 = .ok (.ifCond .ne 14, 3) := by decide +kernel
theorem dL_law_213 : decode mL_law.2.1 213 = .ok (.aload_n 3, 1) := by decide +kernel
theorem dL_law_214 : decode mL_law.2.1 214 = .ok (.iconst 0, 1) := by decide +kernel
theorem dL_law_215 : decode mL_law.2.1 215 = .ok (.laload, 1) := by decide +kernel
theorem dL_law_216 : decode mL_law.2.1 216 = .ok (.lload 6, 2) := by decide +kernel
theorem dL_law_218 : decode mL_law.2.1 218 = .ok (.lcmp, 1) := by decide +kernel
theorem dL_law_219 : decode mL_law.2.1 219 = .ok (.ifCond .eq 5, 3) := by decide +kernel
theorem dL_law_222 : decode mL_law.2.1 222 = .ok (.iconst 0, 1) := by decide +kernel
theorem dL_law_223 : decode mL_law.2.1 223 = .ok (.ireturn, 1) := by decide +kernel
theorem dL_law_224 : decode mL_law.2.1 224 = .ok (.goto 677, 3) := by decide +kernel
theorem dL_law_227 : decode mL_law.2.1 227 = .ok (.aload_n 1, 1) := by decide +kernel
theorem dL_law_228 : decode mL_law.2.1 228 = .ok (.aload_n 0, 1) := by decide +kernel
theorem dL_law_229 : decode mL_law.2.1 229 = .ok (.iload 4, 2) := by decide +kernel
theorem dL_law_231 : decode mL_law.2.1 231 = .ok (.iconst 1, 1) := by decide +kernel
theorem dL_law_232 : decode mL_law.2.1 232 = .ok (.iadd, 1) := by decide +kernel
theorem dL_law_233 : decode mL_law.2.1 233 = .ok (.iaload, 1) := by decide +kernel
theorem dL_law_234 : decode mL_law.2.1 234 = .ok (.aload_n 0, 1) := by decide +kernel
theorem dL_law_235 : decode mL_law.2.1 235 = .ok (.iload 4, 2) := by decide +kernel
theorem dL_law_237 : decode mL_law.2.1 237 = .ok (.iconst 2, 1) := by decide +kernel
theorem dL_law_238 : decode mL_law.2.1 238 = .ok (.iadd, 1) := by decide +kernel
theorem dL_law_239 : decode mL_law.2.1 239 = .ok (.iaload, 1) := by decide +kernel
theorem dL_law_240 : decode mL_law.2.1 240 = .ok (.aload_n 0, 1) := by decide +kernel
theorem dL_law_241 : decode mL_law.2.1 241 = .ok (.iload 4, 2) := by decide +kernel
theorem dL_law_243 : decode mL_law.2.1 243 = .ok (.iconst 3, 1) := by decide +kernel
theorem dL_law_244 : decode mL_law.2.1 244 = .ok (.iadd, 1) := by decide +kernel
theorem dL_law_245 : decode mL_law.2.1 245 = .ok (.iaload, 1) := by decide +kernel
theorem dL_law_246 : decode mL_law.2.1 246 = .ok (.i2l, 1) := by decide +kernel
theorem dL_law_247 : decode mL_law.2.1 247 = .ok (.bipush 32, 2) := by decide +kernel
theorem dL_law_249 : decode mL_law.2.1 249 = .ok (.lshl, 1) := by decide +kernel
theorem dL_law_250 : decode mL_law.2.1 250 = .ok (.aload_n 0, 1) := by decide +kernel
theorem dL_law_251 : decode mL_law.2.1 251 = .ok (.iload 4, 2) := by decide +kernel
theorem dL_law_253 : decode mL_law.2.1 253 = .ok (.iconst 4, 1) := by decide +kernel
theorem dL_law_254 : decode mL_law.2.1 254 = .ok (.iadd, 1) := by decide +kernel
theorem dL_law_255 : decode mL_law.2.1 255 = .ok (.iaload, 1) := by decide +kernel
theorem dL_law_256 : decode mL_law.2.1 256 = .ok (.i2l, 1) := by decide +kernel
theorem dL_law_257 : decode mL_law.2.1 257 = .ok (.ldc2_w 73, 3) := by decide +kernel
theorem dL_law_260 : decode mL_law.2.1 260 = .ok (.land, 1) := by decide +kernel
theorem dL_law_261 : decode mL_law.2.1 261 = .ok (.lor, 1) := by decide +kernel
theorem dL_law_262 : decode mL_law.2.1 262 = .ok (.aload_n 3, 1) := by decide +kernel
theorem dL_law_263 : decode mL_law.2.1 263 = .ok (.invokestatic 75, 3) := by decide +kernel
theorem dL_law_266 : decode mL_law.2.1 266 = .ok (.istore 5, 2) := by decide +kernel
theorem dL_law_268 : decode mL_law.2.1 268 = .ok (.aload_n 2, 1) := by decide +kernel
theorem dL_law_269 : decode mL_law.2.1 269 = .ok (.aload_n 0, 1) := by decide +kernel
theorem dL_law_270 : decode mL_law.2.1 270 = .ok (.iload 4, 2) := by decide +kernel
theorem dL_law_272 : decode mL_law.2.1 272 = .ok (.iconst 1, 1) := by decide +kernel
theorem dL_law_273 : decode mL_law.2.1 273 = .ok (.iadd, 1) := by decide +kernel
theorem dL_law_274 : decode mL_law.2.1 274 = .ok (.iaload, 1) := by decide +kernel
theorem dL_law_275 : decode mL_law.2.1 275 = .ok (.aload_n 0, 1) := by decide +kernel
theorem dL_law_276 : decode mL_law.2.1 276 = .ok (.iload 4, 2) := by decide +kernel
theorem dL_law_278 : decode mL_law.2.1 278 = .ok (.iconst 2, 1) := by decide +kernel
theorem dL_law_279 : decode mL_law.2.1 279 = .ok (.iadd, 1) := by decide +kernel
theorem dL_law_280 : decode mL_law.2.1 280 = .ok (.iaload, 1) := by decide +kernel
theorem dL_law_281 : decode mL_law.2.1 281 = .ok (.aload_n 0, 1) := by decide +kernel
theorem dL_law_282 : decode mL_law.2.1 282 = .ok (.iload 4, 2) := by decide +kernel
theorem dL_law_284 : decode mL_law.2.1 284 = .ok (.iconst 3, 1) := by decide +kernel
theorem dL_law_285 : decode mL_law.2.1 285 = .ok (.iadd, 1) := by decide +kernel
theorem dL_law_286 : decode mL_law.2.1 286 = .ok (.iaload, 1) := by decide +kernel
theorem dL_law_287 : decode mL_law.2.1 287 = .ok (.i2l, 1) := by decide +kernel
theorem dL_law_288 : decode mL_law.2.1 288 = .ok (.bipush 32, 2) := by decide +kernel
theorem dL_law_290 : decode mL_law.2.1 290 = .ok (.lshl, 1) := by decide +kernel
theorem dL_law_291 : decode mL_law.2.1 291 = .ok (.aload_n 0, 1) := by decide +kernel
theorem dL_law_292 : decode mL_law.2.1 292 = .ok (.iload 4, 2) := by decide +kernel
theorem dL_law_294 : decode mL_law.2.1 294 = .ok (.iconst 4, 1) := by decide +kernel
theorem dL_law_295 : decode mL_law.2.1 295 = .ok (.iadd, 1) := by decide +kernel
theorem dL_law_296 : decode mL_law.2.1 296 = .ok (.iaload, 1) := by decide +kernel
theorem dL_law_297 : decode mL_law.2.1 297 = .ok (.i2l, 1) := by decide +kernel
theorem dL_law_298 : decode mL_law.2.1 298 = .ok (.ldc2_w 73, 3) := by decide +kernel
theorem dL_law_301 : decode mL_law.2.1 301 = .ok (.land, 1) := by decide +kernel
theorem dL_law_302 : decode mL_law.2.1 302 = .ok (.lor, 1) := by decide +kernel
theorem dL_law_303 : decode mL_law.2.1 303 = .ok (.invokevirtual 78, 3) := by decide +kernel
theorem dL_law_306 : decode mL_law.2.1 306 = .ok (.lstore 6, 2) := by decide +kernel
theorem dL_law_308 : decode mL_law.2.1 308 = .ok (.aload_n 2, 1) := by decide +kernel
theorem dL_law_309 : decode mL_law.2.1 309 = .ok (.invokevirtual 65, 3) := by decide +kernel
theorem dL_law_312 : decode mL_law.2.1 312 = .ok (.iload 5, 2) := by decide +kernel
theorem dL_law_314 : decode mL_law.2.1 314 = .ok (.if_icmp .eq 5, 3) := by decide +kernel
theorem dL_law_317 : decode mL_law.2.1 317 = .ok (.iconst 0, 1) := by decide +kernel
theorem dL_law_318 : decode mL_law.2.1 318 = .ok (.ireturn, 1) := by decide +kernel
theorem dL_law_319 : decode mL_law.2.1 319 = .ok (.iload 5, 2) := by decide +kernel
theorem dL_law_321 : decode mL_law.2.1 321 = .ok (.ifCond .ne 14, 3) := by decide +kernel
theorem dL_law_324 : decode mL_law.2.1 324 = .ok (.aload_n 3, 1) := by decide +kernel
theorem dL_law_325 : decode mL_law.2.1 325 = .ok (.iconst 0, 1) := by decide +kernel
theorem dL_law_326 : decode mL_law.2.1 326 = .ok (.laload, 1) := by decide +kernel
theorem dL_law_327 : decode mL_law.2.1 327 = .ok (.lload 6, 2) := by decide +kernel
theorem dL_law_329 : decode mL_law.2.1 329 = .ok (.lcmp, 1) := by decide +kernel
theorem dL_law_330 : decode mL_law.2.1 330 = .ok (.ifCond .eq 5, 3) := by decide +kernel
theorem dL_law_333 : decode mL_law.2.1 333 = .ok (.iconst 0, 1) := by decide +kernel
theorem dL_law_334 : decode mL_law.2.1 334 = .ok (.ireturn, 1) := by decide +kernel
theorem dL_law_335 : decode mL_law.2.1 335 = .ok (.goto 566, 3) := by decide +kernel
theorem dL_law_338 : decode mL_law.2.1 338 = .ok (.aload_n 1, 1) := by decide +kernel
theorem dL_law_339 : decode mL_law.2.1 339 = .ok (.aload_n 0, 1) := by decide +kernel
theorem dL_law_340 : decode mL_law.2.1 340 = .ok (.iload 4, 2) := by decide +kernel
theorem dL_law_342 : decode mL_law.2.1 342 = .ok (.iconst 1, 1) := by decide +kernel
theorem dL_law_343 : decode mL_law.2.1 343 = .ok (.iadd, 1) := by decide +kernel
theorem dL_law_344 : decode mL_law.2.1 344 = .ok (.iaload, 1) := by decide +kernel
theorem dL_law_345 : decode mL_law.2.1 345 = .ok (.aload_n 3, 1) := by decide +kernel
theorem dL_law_346 : decode mL_law.2.1 346 = .ok (.invokestatic 79, 3) := by decide +kernel
theorem dL_law_349 : decode mL_law.2.1 349 = .ok (.istore 5, 2) := by decide +kernel
theorem dL_law_351 : decode mL_law.2.1 351 = .ok (.aload_n 2, 1) := by decide +kernel
theorem dL_law_352 : decode mL_law.2.1 352 = .ok (.aload_n 0, 1) := by decide +kernel
theorem dL_law_353 : decode mL_law.2.1 353 = .ok (.iload 4, 2) := by decide +kernel
theorem dL_law_355 : decode mL_law.2.1 355 = .ok (.iconst 1, 1) := by decide +kernel
theorem dL_law_356 : decode mL_law.2.1 356 = .ok (.iadd, 1) := by decide +kernel
theorem dL_law_357 : decode mL_law.2.1 357 = .ok (.iaload, 1) := by decide +kernel
theorem dL_law_358 : decode mL_law.2.1 358 = .ok (.invokevirtual 81, 3) := by decide +kernel
theorem dL_law_361 : decode mL_law.2.1 361 = .ok (.istore 6, 2) := by decide +kernel
theorem dL_law_363 : decode mL_law.2.1 363 = .ok (.aload_n 2, 1) := by decide +kernel
theorem dL_law_364 : decode mL_law.2.1 364 = .ok (.invokevirtual 65, 3) := by decide +kernel
theorem dL_law_367 : decode mL_law.2.1 367 = .ok (.iload 5, 2) := by decide +kernel
theorem dL_law_369 : decode mL_law.2.1 369 = .ok (.if_icmp .eq 5, 3) := by decide +kernel
theorem dL_law_372 : decode mL_law.2.1 372 = .ok (.iconst 0, 1) := by decide +kernel
theorem dL_law_373 : decode mL_law.2.1 373 = .ok (.ireturn, 1) := by decide +kernel
theorem dL_law_374 : decode mL_law.2.1 374 = .ok (.iload 5, 2) := by decide +kernel
theorem dL_law_376 : decode mL_law.2.1 376 = .ok (.ifCond .ne 15, 3) := by decide +kernel
theorem dL_law_379 : decode mL_law.2.1 379 = .ok (.aload_n 3, 1) := by decide +kernel
theorem dL_law_380 : decode mL_law.2.1 380 = .ok (.iconst 0, 1) := by decide +kernel
theorem dL_law_381 : decode mL_law.2.1 381 = .ok (.laload, 1) := by decide +kernel
theorem dL_law_382 : decode mL_law.2.1 382 = .ok (.iload 6, 2) := by decide +kernel
theorem dL_law_384 : decode mL_law.2.1 384 = .ok (.i2l, 1) := by decide +kernel
theorem dL_law_385 : decode mL_law.2.1 385 = .ok (.lcmp, 1) := by decide +kernel
theorem dL_law_386 : decode mL_law.2.1 386 = .ok (.ifCond .eq 5, 3) := by decide +kernel
theorem dL_law_389 : decode mL_law.2.1 389 = .ok (.iconst 0, 1) := by decide +kernel
theorem dL_law_390 : decode mL_law.2.1 390 = .ok (.ireturn, 1) := by decide +kernel
theorem dL_law_391 : decode mL_law.2.1 391 = .ok (.goto 510, 3) := by decide +kernel
theorem dL_law_394 : decode mL_law.2.1 394 = .ok (.aload_n 1, 1) := by decide +kernel
theorem dL_law_395 : decode mL_law.2.1 395 = .ok (.aload_n 0, 1) := by decide +kernel
theorem dL_law_396 : decode mL_law.2.1 396 = .ok (.iload 4, 2) := by decide +kernel
theorem dL_law_398 : decode mL_law.2.1 398 = .ok (.iconst 1, 1) := by decide +kernel
theorem dL_law_399 : decode mL_law.2.1 399 = .ok (.iadd, 1) := by decide +kernel
theorem dL_law_400 : decode mL_law.2.1 400 = .ok (.iaload, 1) := by decide +kernel
theorem dL_law_401 : decode mL_law.2.1 401 = .ok (.aload_n 0, 1) := by decide +kernel
theorem dL_law_402 : decode mL_law.2.1 402 = .ok (.iload 4, 2) := by decide +kernel
theorem dL_law_404 : decode mL_law.2.1 404 = .ok (.iconst 2, 1) := by decide +kernel
theorem dL_law_405 : decode mL_law.2.1 405 = .ok (.iadd, 1) := by decide +kernel
theorem dL_law_406 : decode mL_law.2.1 406 = .ok (.iaload, 1) := by decide +kernel
theorem dL_law_407 : decode mL_law.2.1 407 = .ok (.ifCond .eq 7, 3) := by decide +kernel
theorem dL_law_410 : decode mL_law.2.1 410 = .ok (.iconst 1, 1) := by decide +kernel
theorem dL_law_411 : decode mL_law.2.1 411 = .ok (.goto 4, 3) := by decide +kernel
theorem dL_law_414 : decode mL_law.2.1 414 = .ok (.iconst 0, 1) := by decide +kernel
end
section
theorem dL_law_415 : decode mL_law.2.1 415 = .ok (.aload_n 3, 1) := by decide +kernel
theorem dL_law_416 : decode mL_law.2.1 416 = .ok (.invokestatic 82, 3) := by decide +kernel
theorem dL_law_419 : decode mL_law.2.1 419 = .ok (.istore 5, 2) := by decide +kernel
theorem dL_law_421 : decode mL_law.2.1 421 = .ok (.aload_n 2, 1) := by decide +kernel
theorem dL_law_422 : decode mL_law.2.1 422 = .ok (.aload_n 0, 1) := by decide +kernel
theorem dL_law_423 : decode mL_law.2.1 423 = .ok (.iload 4, 2) := by decide +kernel
theorem dL_law_425 : decode mL_law.2.1 425 = .ok (.iconst 1, 1) := by decide +kernel
theorem dL_law_426 : decode mL_law.2.1 426 = .ok (.iadd, 1) := by decide +kernel
theorem dL_law_427 : decode mL_law.2.1 427 = .ok (.iaload, 1) := by decide +kernel
theorem dL_law_428 : decode mL_law.2.1 428 = .ok (.aload_n 0, 1) := by decide +kernel
theorem dL_law_429 : decode mL_law.2.1 429 = .ok (.iload 4, 2) := by decide +kernel
theorem dL_law_431 : decode mL_law.2.1 431 = .ok (.iconst 2, 1) := by decide +kernel
theorem dL_law_432 : decode mL_law.2.1 432 = .ok (.iadd, 1) := by decide +kernel
theorem dL_law_433 : decode mL_law.2.1 433 = .ok (.iaload, 1) := by decide +kernel
theorem dL_law_434 : decode mL_law.2.1 434 = .ok (.ifCond .eq 7, 3) := by decide +kernel
theorem dL_law_437 : decode mL_law.2.1 437 = .ok (.iconst 1, 1) := by decide +kernel
theorem dL_law_438 : decode mL_law.2.1 438 = .ok (.goto 4, 3) := by decide +kernel
theorem dL_law_441 : decode mL_law.2.1 441 = .ok (.iconst 0, 1) := by decide +kernel
theorem dL_law_442 : decode mL_law.2.1 442 = .ok (.invokevirtual 85, 3) := by decide +kernel
theorem dL_law_445 : decode mL_law.2.1 445 = .ok (.istore 6, 2) := by decide +kernel
theorem dL_law_447 : decode mL_law.2.1 447 = .ok (.aload_n 2, 1) := by decide +kernel
theorem dL_law_448 : decode mL_law.2.1 448 = .ok (.invokevirtual 65, 3) := by decide +kernel
theorem dL_law_451 : decode mL_law.2.1 451 = .ok (.iload 5, 2) := by decide +kernel
theorem dL_law_453 : decode mL_law.2.1 453 = .ok (.if_icmp .eq 5, 3) := by decide +kernel
theorem dL_law_456 : decode mL_law.2.1 456 = .ok (.iconst 0, 1) := by decide +kernel
theorem dL_law_457 : decode mL_law.2.1 457 = .ok (.ireturn, 1) := by decide +kernel
theorem dL_law_458 : decode mL_law.2.1 458 = .ok (.iload 5, 2) := by decide +kernel
theorem dL_law_460 : decode mL_law.2.1 460 = .ok (.ifCond .ne 15, 3) := by decide +kernel
theorem dL_law_463 : decode mL_law.2.1 463 = .ok (.aload_n 3, 1) := by decide +kernel
theorem dL_law_464 : decode mL_law.2.1 464 = .ok (.iconst 0, 1) := by decide +kernel
theorem dL_law_465 : decode mL_law.2.1 465 = .ok (.laload, 1) := by decide +kernel
theorem dL_law_466 : decode mL_law.2.1 466 = .ok (.iload 6, 2) := by decide +kernel
theorem dL_law_468 : decode mL_law.2.1 468 = .ok (.i2l, 1) := by decide +kernel
theorem dL_law_469 : decode mL_law.2.1 469 = .ok (.lcmp, 1) := by decide +kernel
theorem dL_law_470 : decode mL_law.2.1 470 = .ok (.ifCond .eq 5, 3) := by decide +kernel
theorem dL_law_473 : decode mL_law.2.1 473 = .ok (.iconst 0, 1) := by decide +kernel
theorem dL_law_474 : decode mL_law.2.1 474 = .ok (.ireturn, 1) := by decide +kernel
theorem dL_law_475 : decode mL_law.2.1 475 = .ok (.goto 426, 3) := by decide +kernel
theorem dL_law_478 : decode mL_law.2.1 478 = .ok (.aload_n 1, 1) := by decide +kernel
theorem dL_law_479 : decode mL_law.2.1 479 = .ok (.aload_n 0, 1) := by decide +kernel
theorem dL_law_480 : decode mL_law.2.1 480 = .ok (.iload 4, 2) := by decide +kernel
theorem dL_law_482 : decode mL_law.2.1 482 = .ok (.iconst 1, 1) := by decide +kernel
theorem dL_law_483 : decode mL_law.2.1 483 = .ok (.iadd, 1) := by decide +kernel
theorem dL_law_484 : decode mL_law.2.1 484 = .ok (.iaload, 1) := by decide +kernel
theorem dL_law_485 : decode mL_law.2.1 485 = .ok (.aload_n 3, 1) := by decide +kernel
theorem dL_law_486 : decode mL_law.2.1 486 = .ok (.invokestatic 86, 3) := by decide +kernel
theorem dL_law_489 : decode mL_law.2.1 489 = .ok (.istore 5, 2) := by decide +kernel
theorem dL_law_491 : decode mL_law.2.1 491 = .ok (.aload_n 2, 1) := by decide +kernel
theorem dL_law_492 : decode mL_law.2.1 492 = .ok (.aload_n 0, 1) := by decide +kernel
theorem dL_law_493 : decode mL_law.2.1 493 = .ok (.iload 4, 2) := by decide +kernel
theorem dL_law_495 : decode mL_law.2.1 495 = .ok (.iconst 1, 1) := by decide +kernel
theorem dL_law_496 : decode mL_law.2.1 496 = .ok (.iadd, 1) := by decide +kernel
theorem dL_law_497 : decode mL_law.2.1 497 = .ok (.iaload, 1) := by decide +kernel
theorem dL_law_498 : decode mL_law.2.1 498 = .ok (.invokevirtual 88, 3) := by decide +kernel
theorem dL_law_501 : decode mL_law.2.1 501 = .ok (.istore 6, 2) := by decide +kernel
theorem dL_law_503 : decode mL_law.2.1 503 = .ok (.aload_n 2, 1) := by decide +kernel
theorem dL_law_504 : decode mL_law.2.1 504 = .ok (.invokevirtual 65, 3) := by decide +kernel
theorem dL_law_507 : decode mL_law.2.1 507 = .ok (.iload 5, 2) := by decide +kernel
theorem dL_law_509 : decode mL_law.2.1 509 = .ok (.if_icmp .eq 5, 3) := by decide +kernel
theorem dL_law_512 : decode mL_law.2.1 512 = .ok (.iconst 0, 1) := by decide +kernel
theorem dL_law_513 : decode mL_law.2.1 513 = .ok (.ireturn, 1) := by decide +kernel
theorem dL_law_514 : decode mL_law.2.1 514 = .ok (.iload 5, 2) := by decide +kernel
theorem dL_law_516 : decode mL_law.2.1 516 = .ok (.ifCond .ne 15, 3) := by decide +kernel
theorem dL_law_519 : decode mL_law.2.1 519 = .ok (.aload_n 3, 1) := by decide +kernel
theorem dL_law_520 : decode mL_law.2.1 520 = .ok (.iconst 0, 1) := by decide +kernel
theorem dL_law_521 : decode mL_law.2.1 521 = .ok (.laload, 1) := by decide +kernel
theorem dL_law_522 : decode mL_law.2.1 522 = .ok (.iload 6, 2) := by decide +kernel
theorem dL_law_524 : decode mL_law.2.1 524 = .ok (.i2l, 1) := by decide +kernel
theorem dL_law_525 : decode mL_law.2.1 525 = .ok (.lcmp, 1) := by decide +kernel
theorem dL_law_526 : decode mL_law.2.1 526 = .ok (.ifCond .eq 5, 3) := by decide +kernel
theorem dL_law_529 : decode mL_law.2.1 529 = .ok (.iconst 0, 1) := by decide +kernel
theorem dL_law_530 : decode mL_law.2.1 530 = .ok (.ireturn, 1) := by decide +kernel
theorem dL_law_531 : decode mL_law.2.1 531 = .ok (.goto 370, 3) := by decide +kernel
theorem dL_law_534 : decode mL_law.2.1 534 = .ok (.aload_n 1, 1) := by decide +kernel
theorem dL_law_535 : decode mL_law.2.1 535 = .ok (.aload_n 0, 1) := by decide +kernel
theorem dL_law_536 : decode mL_law.2.1 536 = .ok (.iload 4, 2) := by decide +kernel
theorem dL_law_538 : decode mL_law.2.1 538 = .ok (.iconst 1, 1) := by decide +kernel
theorem dL_law_539 : decode mL_law.2.1 539 = .ok (.iadd, 1) := by decide +kernel
theorem dL_law_540 : decode mL_law.2.1 540 = .ok (.iaload, 1) := by decide +kernel
theorem dL_law_541 : decode mL_law.2.1 541 = .ok (.aload_n 3, 1) := by decide +kernel
theorem dL_law_542 : decode mL_law.2.1 542 = .ok (.invokestatic 89, 3) := by decide +kernel
theorem dL_law_545 : decode mL_law.2.1 545 = .ok (.istore 5, 2) := by decide +kernel
theorem dL_law_547 : decode mL_law.2.1 547 = .ok (.aload_n 2, 1) := by decide +kernel
theorem dL_law_548 : decode mL_law.2.1 548 = .ok (.aload_n 0, 1) := by decide +kernel
theorem dL_law_549 : decode mL_law.2.1 549 = .ok (.iload 4, 2) := by decide +kernel
theorem dL_law_551 : decode mL_law.2.1 551 = .ok (.iconst 1, 1) := by decide +kernel
theorem dL_law_552 : decode mL_law.2.1 552 = .ok (.iadd, 1) := by decide +kernel
theorem dL_law_553 : decode mL_law.2.1 553 = .ok (.iaload, 1) := by decide +kernel
theorem dL_law_554 : decode mL_law.2.1 554 = .ok (.invokevirtual 91, 3) := by decide +kernel
theorem dL_law_557 : decode mL_law.2.1 557 = .ok (.istore 6, 2) := by decide +kernel
theorem dL_law_559 : decode mL_law.2.1 559 = .ok (.aload_n 2, 1) := by decide +kernel
theorem dL_law_560 : decode mL_law.2.1 560 = .ok (.invokevirtual 65, 3) := by decide +kernel
theorem dL_law_563 : decode mL_law.2.1 563 = .ok (.iload 5, 2) := by decide +kernel
theorem dL_law_565 : decode mL_law.2.1 565 = .ok (.if_icmp .eq 5, 3) := by decide +kernel
theorem dL_law_568 : decode mL_law.2.1 568 = .ok (.iconst 0, 1) := by decide +kernel
theorem dL_law_569 : decode mL_law.2.1 569 = .ok (.ireturn, 1) := by decide +kernel
theorem dL_law_570 : decode mL_law.2.1 570 = .ok (.iload 5, 2) := by decide +kernel
theorem dL_law_572 : decode mL_law.2.1 572 = .ok (.ifCond .ne 15, 3) := by decide +kernel
theorem dL_law_575 : decode mL_law.2.1 575 = .ok (.aload_n 3, 1) := by decide +kernel
theorem dL_law_576 : decode mL_law.2.1 576 = .ok (.iconst 0, 1) := by decide +kernel
theorem dL_law_577 : decode mL_law.2.1 577 = .ok (.laload, 1) := by decide +kernel
theorem dL_law_578 : decode mL_law.2.1 578 = .ok (.iload 6, 2) := by decide +kernel
theorem dL_law_580 : decode mL_law.2.1 580 = .ok (.i2l, 1) := by decide +kernel
theorem dL_law_581 : decode mL_law.2.1 581 = .ok (.lcmp, 1) := by decide +kernel
theorem dL_law_582 : decode mL_law.2.1 582 = .ok (.ifCond .eq 5, 3) := by decide +kernel
theorem dL_law_585 : decode mL_law.2.1 585 = .ok (.iconst 0, 1) := by decide +kernel
theorem dL_law_586 : decode mL_law.2.1 586 = .ok (.ireturn, 1) := by decide +kernel
theorem dL_law_587 : decode mL_law.2.1 587 = .ok (.goto 314, 3) := by decide +kernel
theorem dL_law_590 : decode mL_law.2.1 590 = .ok (.aload_n 1, 1) := by decide +kernel
theorem dL_law_591 : decode mL_law.2.1 591 = .ok (.aload_n 0, 1) := by decide +kernel
theorem dL_law_592 : decode mL_law.2.1 592 = .ok (.iload 4, 2) := by decide +kernel
theorem dL_law_594 : decode mL_law.2.1 594 = .ok (.iconst 1, 1) := by decide +kernel
theorem dL_law_595 : decode mL_law.2.1 595 = .ok (.iadd, 1) := by decide +kernel
theorem dL_law_596 : decode mL_law.2.1 596 = .ok (.iaload, 1) := by decide +kernel
theorem dL_law_597 : decode mL_law.2.1 597 = .ok (.aload_n 3, 1) := by decide +kernel
theorem dL_law_598 : decode mL_law.2.1 598 = .ok (.invokestatic 92, 3) := by decide +kernel
theorem dL_law_601 : decode mL_law.2.1 601 = .ok (.istore 5, 2) := by decide +kernel
theorem dL_law_603 : decode mL_law.2.1 603 = .ok (.aload_n 2, 1) := by decide +kernel
theorem dL_law_604 : decode mL_law.2.1 604 = .ok (.aload_n 0, 1) := by decide +kernel
theorem dL_law_605 : decode mL_law.2.1 605 = .ok (.iload 4, 2) := by decide +kernel
theorem dL_law_607 : decode mL_law.2.1 607 = .ok (.iconst 1, 1) := by decide +kernel
theorem dL_law_608 : decode mL_law.2.1 608 = .ok (.iadd, 1) := by decide +kernel
theorem dL_law_609 : decode mL_law.2.1 609 = .ok (.iaload, 1) := by decide +kernel
theorem dL_law_610 : decode mL_law.2.1 610 = .ok (.invokevirtual 94, 3) := by decide +kernel
theorem dL_law_613 : decode mL_law.2.1 613 = .ok (.istore 6, 2) := by decide +kernel
theorem dL_law_615 : decode mL_law.2.1 615 = .ok (.aload_n 2, 1) := by decide +kernel
theorem dL_law_616 : decode mL_law.2.1 616 = .ok (.invokevirtual 65, 3) := by decide +kernel
theorem dL_law_619 : decode mL_law.2.1 619 = .ok (.iload 5, 2) := by decide +kernel
theorem dL_law_621 : decode mL_law.2.1 621 = .ok (.if_icmp .eq 5, 3) := by decide +kernel
theorem dL_law_624 : decode mL_law.2.1 624 = .ok (.iconst 0, 1) := by decide +kernel
theorem dL_law_625 : decode mL_law.2.1 625 = .ok (.ireturn, 1) := by decide +kernel
theorem dL_law_626 : decode mL_law.2.1 626 = .ok (.iload 5, 2) := by decide +kernel
theorem dL_law_628 : decode mL_law.2.1 628 = .ok (.ifCond .ne 22, 3) := by decide +kernel
theorem dL_law_631 : decode mL_law.2.1 631 = .ok (.aload_n 3, 1) := by decide +kernel
theorem dL_law_632 : decode mL_law.2.1 632 = .ok (.iconst 0, 1) := by decide +kernel
theorem dL_law_633 : decode mL_law.2.1 633 = .ok (.laload, 1) := by decide +kernel
theorem dL_law_634 : decode mL_law.2.1 634 = .ok (.iload 6, 2) := by decide +kernel
theorem dL_law_636 : decode mL_law.2.1 636 = .ok (.ifCond .eq 7, 3) := by decide +kernel
theorem dL_law_639 : decode mL_law.2.1 639 = .ok (.lconst 1, 1) := by decide +kernel
theorem dL_law_640 : decode mL_law.2.1 640 = .ok (.goto 4, 3) := by decide +kernel
theorem dL_law_643 : decode mL_law.2.1 643 = .ok (.lconst 0, 1) := by decide +kernel
theorem dL_law_644 : decode mL_law.2.1 644 = .ok (.lcmp, 1) := by decide +kernel
theorem dL_law_645 : decode mL_law.2.1 645 = .ok (.ifCond .eq 5, 3) := by decide +kernel
theorem dL_law_648 : decode mL_law.2.1 648 = .ok (.iconst 0, 1) := by decide +kernel
theorem dL_law_649 : decode mL_law.2.1 649 = .ok (.ireturn, 1) := by decide +kernel
theorem dL_law_650 : decode mL_law.2.1 650 = .ok (.goto 251, 3) := by decide +kernel
theorem dL_law_653 : decode mL_law.2.1 653 = .ok (.aload_n 1, 1) := by decide +kernel
theorem dL_law_654 : decode mL_law.2.1 654 = .ok (.aload_n 0, 1) := by decide +kernel
theorem dL_law_655 : decode mL_law.2.1 655 = .ok (.iload 4, 2) := by decide +kernel
theorem dL_law_657 : decode mL_law.2.1 657 = .ok (.iconst 1, 1) := by decide +kernel
theorem dL_law_658 : decode mL_law.2.1 658 = .ok (.iadd, 1) := by decide +kernel
theorem dL_law_659 : decode mL_law.2.1 659 = .ok (.iaload, 1) := by decide +kernel
theorem dL_law_660 : decode mL_law.2.1 660 = .ok (.aload_n 0, 1) := by decide +kernel
theorem dL_law_661 : decode mL_law.2.1 661 = .ok (.iload 4, 2) := by decide +kernel
theorem dL_law_663 : decode mL_law.2.1 663 = .ok (.iconst 2, 1) := by decide +kernel
theorem dL_law_664 : decode mL_law.2.1 664 = .ok (.iadd, 1) := by decide +kernel
theorem dL_law_665 : decode mL_law.2.1 665 = .ok (.iaload, 1) := by decide +kernel
theorem dL_law_666 : decode mL_law.2.1 666 = .ok (.aload_n 3, 1) := by decide +kernel
theorem dL_law_667 : decode mL_law.2.1 667 = .ok (.invokestatic 95, 3) := by decide +kernel
theorem dL_law_670 : decode mL_law.2.1 670 = .ok (.istore 5, 2) := by decide +kernel
theorem dL_law_672 : decode mL_law.2.1 672 = .ok (.aload_n 2, 1) := by decide +kernel
theorem dL_law_673 : decode mL_law.2.1 673 = .ok (.aload_n 0, 1) := by decide +kernel
theorem dL_law_674 : decode mL_law.2.1 674 = .ok (.iload 4, 2) := by decide +kernel
theorem dL_law_676 : decode mL_law.2.1 676 = .ok (.iconst 1, 1) := by decide +kernel
theorem dL_law_677 : decode mL_law.2.1 677 = .ok (.iadd, 1) := by decide +kernel
theorem dL_law_678 : decode mL_law.2.1 678 = .ok (.iaload, 1) := by decide +kernel
theorem dL_law_679 : decode mL_law.2.1 679 = .ok (.aload_n 0, 1) := by decide +kernel
theorem dL_law_680 : decode mL_law.2.1 680 = .ok (.iload 4, 2) := by decide +kernel
theorem dL_law_682 : decode mL_law.2.1 682 = .ok (.iconst 2, 1) := by decide +kernel
theorem dL_law_683 : decode mL_law.2.1 683 = .ok (.iadd, 1) := by decide +kernel
theorem dL_law_684 : decode mL_law.2.1 684 = .ok (.iaload, 1) := by decide +kernel
theorem dL_law_685 : decode mL_law.2.1 685 = .ok (.invokevirtual 97, 3) := by decide +kernel
theorem dL_law_688 : decode mL_law.2.1 688 = .ok (.istore 6, 2) := by decide +kernel
theorem dL_law_690 : decode mL_law.2.1 690 = .ok (.aload_n 2, 1) := by decide +kernel
theorem dL_law_691 : decode mL_law.2.1 691 = .ok (.invokevirtual 65, 3) := by decide +kernel
theorem dL_law_694 : decode mL_law.2.1 694 = .ok (.iload 5, 2) := by decide +kernel
theorem dL_law_696 : decode mL_law.2.1 696 = .ok (.if_icmp .eq 5, 3) := by decide +kernel
theorem dL_law_699 : decode mL_law.2.1 699 = .ok (.iconst 0, 1) := by decide +kernel
theorem dL_law_700 : decode mL_law.2.1 700 = .ok (.ireturn, 1) := by decide +kernel
theorem dL_law_701 : decode mL_law.2.1 701 = .ok (.iload 5, 2) := by decide +kernel
theorem dL_law_703 : decode mL_law.2.1 703 = .ok (.ifCond .ne 22, 3) := by decide +kernel
theorem dL_law_706 : decode mL_law.2.1 706 = .ok (.aload_n 3, 1) := by decide +kernel
theorem dL_law_707 : decode mL_law.2.1 707 = .ok (.iconst 0, 1) := by decide +kernel
theorem dL_law_708 : decode mL_law.2.1 708 = .ok (.laload, 1) := by decide +kernel
theorem dL_law_709 : decode mL_law.2.1 709 = .ok (.iload 6, 2) := by decide +kernel
theorem dL_law_711 : decode mL_law.2.1 711 = .ok (.ifCond .eq 7, 3) := by decide +kernel
theorem dL_law_714 : decode mL_law.2.1 714 = .ok (.lconst 1, 1) := by decide +kernel
theorem dL_law_715 : decode mL_law.2.1 715 = .ok (.goto 4, 3) := by decide +kernel
theorem dL_law_718 : decode mL_law.2.1 718 = .ok (.lconst 0, 1) := by decide +kernel
theorem dL_law_719 : decode mL_law.2.1 719 = .ok (.lcmp, 1) := by decide +kernel
theorem dL_law_720 : decode mL_law.2.1 720 = .ok (.ifCond .eq 5, 3) := by decide +kernel
theorem dL_law_723 : decode mL_law.2.1 723 = .ok (.iconst 0, 1) := by decide +kernel
theorem dL_law_724 : decode mL_law.2.1 724 = .ok (.ireturn, 1) := by decide +kernel
theorem dL_law_725 : decode mL_law.2.1 725 = .ok (.goto 176, 3) := by decide +kernel
theorem dL_law_728 : decode mL_law.2.1 728 = .ok (.aload_n 1, 1) := by decide +kernel
theorem dL_law_729 : decode mL_law.2.1 729 = .ok (.aload_n 0, 1) := by decide +kernel
theorem dL_law_730 : decode mL_law.2.1 730 = .ok (.iload 4, 2) := by decide +kernel
theorem dL_law_732 : decode mL_law.2.1 732 = .ok (.iconst 1, 1) := by decide +kernel
theorem dL_law_733 : decode mL_law.2.1 733 = .ok (.iadd, 1) := by decide +kernel
theorem dL_law_734 : decode mL_law.2.1 734 = .ok (.iaload, 1) := by decide +kernel
theorem dL_law_735 : decode mL_law.2.1 735 = .ok (.aload_n 0, 1) := by decide +kernel
theorem dL_law_736 : decode mL_law.2.1 736 = .ok (.iload 4, 2) := by decide +kernel
theorem dL_law_738 : decode mL_law.2.1 738 = .ok (.iconst 2, 1) := by decide +kernel
theorem dL_law_739 : decode mL_law.2.1 739 = .ok (.iadd, 1) := by decide +kernel
theorem dL_law_740 : decode mL_law.2.1 740 = .ok (.iaload, 1) := by decide +kernel
theorem dL_law_741 : decode mL_law.2.1 741 = .ok (.aload_n 3, 1) := by decide +kernel
theorem dL_law_742 : decode mL_law.2.1 742 = .ok (.invokestatic 98, 3) := by decide +kernel
theorem dL_law_745 : decode mL_law.2.1 745 = .ok (.istore 5, 2) := by decide +kernel
theorem dL_law_747 : decode mL_law.2.1 747 = .ok (.aload_n 2, 1) := by decide +kernel
theorem dL_law_748 : decode mL_law.2.1 748 = .ok (.aload_n 0, 1) := by decide +kernel
theorem dL_law_749 : decode mL_law.2.1 749 = .ok (.iload 4, 2) := by decide +kernel
theorem dL_law_751 : decode mL_law.2.1 751 = .ok (.iconst 1, 1) := by decide +kernel
theorem dL_law_752 : decode mL_law.2.1 752 = .ok (.iadd, 1) := by decide +kernel
theorem dL_law_753 : decode mL_law.2.1 753 = .ok (.iaload, 1) := by decide +kernel
theorem dL_law_754 : decode mL_law.2.1 754 = .ok (.aload_n 0, 1) := by decide +kernel
theorem dL_law_755 : decode mL_law.2.1 755 = .ok (.iload 4, 2) := by decide +kernel
theorem dL_law_757 : decode mL_law.2.1 757 = .ok (.iconst 2, 1) := by decide +kernel
theorem dL_law_758 : decode mL_law.2.1 758 = .ok (.iadd, 1) := by decide +kernel
theorem dL_law_759 : decode mL_law.2.1 759 = .ok (.iaload, 1) := by decide +kernel
theorem dL_law_760 : decode mL_law.2.1 760 = .ok (.invokevirtual 100, 3) := by decide +kernel
theorem dL_law_763 : decode mL_law.2.1 763 = .ok (.lstore 6, 2) := by decide +kernel
theorem dL_law_765 : decode mL_law.2.1 765 = .ok (.aload_n 2, 1) := by decide +kernel
theorem dL_law_766 : decode mL_law.2.1 766 = .ok (.invokevirtual 65, 3) := by decide +kernel
theorem dL_law_769 : decode mL_law.2.1 769 = .ok (.iload 5, 2) := by decide +kernel
theorem dL_law_771 : decode mL_law.2.1 771 = .ok (.if_icmp .eq 5, 3) := by decide +kernel
theorem dL_law_774 : decode mL_law.2.1 774 = .ok (.iconst 0, 1) := by decide +kernel
theorem dL_law_775 : decode mL_law.2.1 775 = .ok (.ireturn, 1) := by decide +kernel
theorem dL_law_776 : decode mL_law.2.1 776 = .ok (.iload 5, 2) := by decide +kernel
theorem dL_law_778 : decode mL_law.2.1 778 = .ok (.ifCond .ne 14, 3) := by decide +kernel
theorem dL_law_781 : decode mL_law.2.1 781 = .ok (.aload_n 3, 1) := by decide +kernel
theorem dL_law_782 : decode mL_law.2.1 782 = .ok (.iconst 0, 1) := by decide +kernel
theorem dL_law_783 : decode mL_law.2.1 783 = .ok (.laload, 1) := by decide +kernel
theorem dL_law_784 : decode mL_law.2.1 784 = .ok (.lload 6, 2) := by decide +kernel
theorem dL_law_786 : decode mL_law.2.1 786 = .ok (.lcmp, 1) := by decide +kernel
theorem dL_law_787 : decode mL_law.2.1 787 = .ok (.ifCond .eq 5, 3) := by decide +kernel
theorem dL_law_790 : decode mL_law.2.1 790 = .ok (.iconst 0, 1) := by decide +kernel
theorem dL_law_791 : decode mL_law.2.1 791 = .ok (.ireturn, 1) := by decide +kernel
theorem dL_law_792 : decode mL_law.2.1 792 = .ok (.goto 109, 3) := by decide +kernel
theorem dL_law_795 : decode mL_law.2.1 795 = .ok (.aload_n 1, 1) := by decide +kernel
theorem dL_law_796 : decode mL_law.2.1 796 = .ok (.invokevirtual 101, 3) := by decide +kernel
theorem dL_law_799 : decode mL_law.2.1 799 = .ok (.aload_n 2, 1) := by decide +kernel
theorem dL_law_800 : decode mL_law.2.1 800 = .ok (.invokevirtual 104, 3) := by decide +kernel
theorem dL_law_803 : decode mL_law.2.1 803 = .ok (.if_icmp .eq 98, 3) := by decide +kernel
theorem dL_law_806 : decode mL_law.2.1 806 = .ok (.iconst 0, 1) := by decide +kernel
theorem dL_law_807 : decode mL_law.2.1 807 = .ok (.ireturn, 1) := by decide +kernel
theorem dL_law_808 : decode mL_law.2.1 808 = .ok (.aload_n 1, 1) := by decide +kernel
theorem dL_law_809 : decode mL_law.2.1 809 = .ok (.aload_n 0, 1) := by decide +kernel
theorem dL_law_810 : decode mL_law.2.1 810 = .ok (.iload 4, 2) := by decide +kernel
theorem dL_law_812 : decode mL_law.2.1 812 = .ok (.iconst 1, 1) := by decide +kernel
theorem dL_law_813 : decode mL_law.2.1 813 = .ok (.iadd, 1) := by decide +kernel
theorem dL_law_814 : decode mL_law.2.1 814 = .ok (.iaload, 1) := by decide +kernel
theorem dL_law_815 : decode mL_law.2.1 815 = .ok (.aload_n 0, 1) := by decide +kernel
theorem dL_law_816 : decode mL_law.2.1 816 = .ok (.iload 4, 2) := by decide +kernel
theorem dL_law_818 : decode mL_law.2.1 818 = .ok (.iconst 2, 1) := by decide +kernel
theorem dL_law_819 : decode mL_law.2.1 819 = .ok (.iadd, 1) := by decide +kernel
theorem dL_law_820 : decode mL_law.2.1 820 = .ok (.iaload, 1) := by decide +kernel
theorem dL_law_821 : decode mL_law.2.1 821 = .ok (.aload_n 3, 1) := by decide +kernel
theorem dL_law_822 : decode mL_law.2.1 822 = .ok (.invokestatic 105, 3) := by decide +kernel
theorem dL_law_825 : decode mL_law.2.1 825 = .ok (.istore 5, 2) := by decide +kernel
theorem dL_law_827 : decode mL_law.2.1 827 = .ok (.aload_n 2, 1) := by decide +kernel
theorem dL_law_828 : decode mL_law.2.1 828 = .ok (.aload_n 0, 1) := by decide +kernel
theorem dL_law_829 : decode mL_law.2.1 829 = .ok (.iload 4, 2) := by decide +kernel
theorem dL_law_831 : decode mL_law.2.1 831 = .ok (.iconst 1, 1) := by decide +kernel
theorem dL_law_832 : decode mL_law.2.1 832 = .ok (.iadd, 1) := by decide +kernel
theorem dL_law_833 : decode mL_law.2.1 833 = .ok (.iaload, 1) := by decide +kernel
theorem dL_law_834 : decode mL_law.2.1 834 = .ok (.aload_n 0, 1) := by decide +kernel
theorem dL_law_835 : decode mL_law.2.1 835 = .ok (.iload 4, 2) := by decide +kernel
theorem dL_law_837 : decode mL_law.2.1 837 = .ok (.iconst 2, 1) := by decide +kernel
theorem dL_law_838 : decode mL_law.2.1 838 = .ok (.iadd, 1) := by decide +kernel
theorem dL_law_839 : decode mL_law.2.1 839 = .ok (.iaload, 1) := by decide +kernel
theorem dL_law_840 : decode mL_law.2.1 840 = .ok (.invokevirtual 107, 3) := by decide +kernel
theorem dL_law_843 : decode mL_law.2.1 843 = .ok (.istore 6, 2) := by decide +kernel
theorem dL_law_845 : decode mL_law.2.1 845 = .ok (.aload_n 2, 1) := by decide +kernel
theorem dL_law_846 : decode mL_law.2.1 846 = .ok (.invokevirtual 65, 3) := by decide +kernel
theorem dL_law_849 : decode mL_law.2.1 849 = .ok (.iload 5, 2) := by decide +kernel
theorem dL_law_851 : decode mL_law.2.1 851 = .ok (.if_icmp .eq 5, 3) := by decide +kernel
theorem dL_law_854 : decode mL_law.2.1 854 = .ok (.iconst 0, 1) := by decide +kernel
theorem dL_law_855 : decode mL_law.2.1 855 = .ok (.ireturn, 1) := by decide +kernel
theorem dL_law_856 : decode mL_law.2.1 856 = .ok (.iload 5, 2) := by decide +kernel
theorem dL_law_858 : decode mL_law.2.1 858 = .ok (.ifCond .ne 15, 3) := by decide +kernel
theorem dL_law_861 : decode mL_law.2.1 861 = .ok (.aload_n 3, 1) := by decide +kernel
theorem dL_law_862 : decode mL_law.2.1 862 = .ok (.iconst 0, 1) := by decide +kernel
theorem dL_law_863 : decode mL_law.2.1 863 = .ok (.laload, 1) := by decide +kernel
theorem dL_law_864 : decode mL_law.2.1 864 = .ok (.iload 6, 2) := by decide +kernel
theorem dL_law_866 : decode mL_law.2.1 866 = .ok (.i2l, 1) := by decide +kernel
theorem dL_law_867 : decode mL_law.2.1 867 = .ok (.lcmp, 1) := by decide +kernel
theorem dL_law_868 : decode mL_law.2.1 868 = .ok (.ifCond .eq 5, 3) := by decide +kernel
theorem dL_law_871 : decode mL_law.2.1 871 = .ok (.iconst 0, 1) := by decide +kernel
theorem dL_law_872 : decode mL_law.2.1 872 = .ok (.ireturn, 1) := by decide +kernel
theorem dL_law_873 : decode mL_law.2.1 873 = .ok (.goto 28, 3) := by decide +kernel
theorem dL_law_876 : decode mL_law.2.1 876 = .ok (.aload_n 1, 1) := by decide +kernel
theorem dL_law_877 : decode mL_law.2.1 877 = .ok (.aload_n 0, 1) := by decide +kernel
theorem dL_law_878 : decode mL_law.2.1 878 = .ok (.iload 4, 2) := by decide +kernel
theorem dL_law_880 : decode mL_law.2.1 880 = .ok (.iconst 1, 1) := by decide +kernel
theorem dL_law_881 : decode mL_law.2.1 881 = .ok (.iadd, 1) := by decide +kernel
theorem dL_law_882 : decode mL_law.2.1 882 = .ok (.iaload, 1) := by decide +kernel
theorem dL_law_883 : decode mL_law.2.1 883 = .ok (.invokevirtual 108, 3) := by decide +kernel
theorem dL_law_886 : decode mL_law.2.1 886 = .ok (.aload_n 2, 1) := by decide +kernel
theorem dL_law_887 : decode mL_law.2.1 887 = .ok (.aload_n 0, 1) := by decide +kernel
theorem dL_law_888 : decode mL_law.2.1 888 = .ok (.iload 4, 2) := by decide +kernel
theorem dL_law_890 : decode mL_law.2.1 890 = .ok (.iconst 1, 1) := by decide +kernel
theorem dL_law_891 : decode mL_law.2.1 891 = .ok (.iadd, 1) := by decide +kernel
theorem dL_law_892 : decode mL_law.2.1 892 = .ok (.iaload, 1) := by decide +kernel
theorem dL_law_893 : decode mL_law.2.1 893 = .ok (.invokevirtual 111, 3) := by decide +kernel
theorem dL_law_896 : decode mL_law.2.1 896 = .ok (.if_icmp .eq 5, 3) := by decide +kernel
theorem dL_law_899 : decode mL_law.2.1 899 = .ok (.iconst 0, 1) := by decide +kernel
theorem dL_law_900 : decode mL_law.2.1 900 = .ok (.ireturn, 1) := by decide +kernel
theorem dL_law_901 : decode mL_law.2.1 901 = .ok (.iinc 4 5, 3) := by decide +kernel
theorem dL_law_904 : decode mL_law.2.1 904 = .ok (.goto (-881), 3) := by decide +kernel
theorem dL_law_907 : decode mL_law.2.1 907 = .ok (.iconst 1, 1) := by decide +kernel
theorem dL_law_908 : decode mL_law.2.1 908 = .ok (.ireturn, 1) := by decide +kernel
end
section
/-! The x-layer: one judgement xG for a method's frame over an ABSTRACT heap (a function from addresses to arrays and objects), by kit rows; calls are walked inside (Stand.into, Stand.outOf), so a callee is used by its own xG. -/
abbrev xA : Type := (Nat → Int32) ⊕ (Nat → Int64) ⊕ (Nat → Option Nat)
abbrev xC : Type := (FieldType × Nat × xA) ⊕ (Nat × List Value)
abbrev xH : Type := (Nat → Option xC) × Nat × Nat
abbrev xL : Type := List (Nat × Value)
abbrev xO : Type := Option Value ⊕ (String × Nat)
/-- how a frame ends: was anything written or made, what it answered, the heap -/
abbrev xR : Type := Bool × xO × xH
/-- a method: its name, its bytes, its locals, its return type, its handlers -/
abbrev xM : Type := MethodName × ByteArray × Nat × Option FieldType × List (Nat × Nat × Nat × Nat)
/-- what is fixed: the launch, the classes' numbers and slots, the first address that is ours, the heap below it -/
abbrev xE : Type := Launch × va_G × Nat × Heap
def xval (f : xA) (j : Nat) : Value := match f with
  | .inl g => .int (g j)
  | .inr (.inl g) => .long (g j)
  | .inr (.inr g) => va_rf (g j)
def xset (h : xH) (a : Nat) (c : xC) : xH := (fun q => if q = a then some c else h.1 q, h.2.1, h.2.2)
def xadd (h : xH) (c : xC) (n : Nat) : xH := (fun q => if q = h.2.1 then some c else h.1 q, h.2.1 + 1, h.2.2 + n)
theorem xset_eq (h : xH) (a : Nat) (c : xC) : (xset h a c).1 a = some c := by simp [xset]
theorem xset_ne (h : xH) {a q : Nat} (c : xC) (hq : q ≠ a) : (xset h a c).1 q = h.1 q := by simp [xset, hq]
theorem xset_sz (h : xH) (a : Nat) (c : xC) : (xset h a c).2.1 = h.2.1 := rfl
theorem xset_us (h : xH) (a : Nat) (c : xC) : (xset h a c).2.2 = h.2.2 := rfl
theorem xadd_eq (h : xH) (c : xC) (n : Nat) : (xadd h c n).1 h.2.1 = some c := by simp [xadd]
theorem xadd_ne (h : xH) {q : Nat} (c : xC) (n : Nat) (hq : q ≠ h.2.1) : (xadd h c n).1 q = h.1 q := by simp [xadd, hq]
theorem xadd_sz (h : xH) (c : xC) (n : Nat) : (xadd h c n).2.1 = h.2.1 + 1 := rfl
theorem xadd_us (h : xH) (c : xC) (n : Nat) : (xadd h c n).2.2 = h.2.2 + n := rfl
def xRA (U : State) (cA : ClassId) (ty : FieldType) : Prop := match ty with
  | .object C => ∃ (kA : Class) (comp : ClassId), U.vm.classes[cA]? = some kA ∧ kA.kind = .array comp (.object C) ∧ U.vm.findClass C = some comp
  | _ => True
theorem xRA.moved {u U : State} (hvm : u.vm.Alike U.vm) {cA : ClassId} {ty : FieldType} (h : xRA u cA ty) : xRA U cA ty := by
  cases ty with
  | object C =>
    obtain ⟨kA, comp, h1, h2, h3⟩ := h
    obtain ⟨k', hk', he⟩ := hvm.2.2 _ _ h1
    exact ⟨k', comp, hk', by rw [he]; exact h2, by rw [hvm.findClass]; exact h3⟩
  | _ => trivial
def xAt (D : va_G) (U : State) (H : Heap) (a : Nat) (c : xC) : Prop := match c with
  | .inl x => ∃ cell : Cell, H[a]? = some cell ∧ U.isArrayOf cell x.1 ∧ cell.vm ≠ .unknown ∧ cell.slots.size = x.2.1 ∧ (∀ j, j < x.2.1 → cell.slots[j]? = some (xval x.2.2 j)) ∧ xRA U cell.cls x.1
  | .inr o => ∃ r : vw_C, classes[o.1]? = some r ∧ t_OB a (D.1 o.1) r.2.2 (D.2 o.1) H (vp_V o.2)
theorem xAt.kept {D : va_G} {U : State} {H H1 : Heap} {a : Nat} {c : xC} (h : xAt D U H a c) (hq : H1[a]? = H[a]?) : xAt D U H1 a c := by
  cases c with
  | inl x =>
    obtain ⟨cell, h1, h2⟩ := h
    exact ⟨cell, by rw [hq]; exact h1, h2⟩
  | inr o =>
    obtain ⟨r, h1, h2⟩ := h
    exact ⟨r, h1, h2.kept hq⟩
theorem xAt.moved {D : va_G} {u U : State} {H : Heap} {a : Nat} {c : xC} (hvm : u.vm.Alike U.vm) (h : xAt D u H a c) : xAt D U H a c := by
  cases c with
  | inl x =>
    obtain ⟨cell, h1, h2, h3, h4, h5, h6⟩ := h
    exact ⟨cell, h1, State.isArrayOf_alike hvm h2, h3, h4, h5, h6.moved hvm⟩
  | inr o => exact h
theorem xAt.lt {D : va_G} {U : State} {H : Heap} {a : Nat} {c : xC} (h : xAt D U H a c) : a < H.size := by
  cases c with
  | inl x =>
    obtain ⟨cell, h1, -⟩ := h
    exact (Array.getElem?_eq_some_iff.mp h1).1
  | inr o =>
    obtain ⟨r, -, cell, h2, -⟩ := h
    exact (Array.getElem?_eq_some_iff.mp h2).1
def xI (E : xE) (U : State) (h : xH) (H : Heap) : Prop :=
  H.size = h.2.1 ∧ E.2.2.1 ≤ H.size ∧ (∀ q : Nat, q < E.2.2.1 → H[q]? = E.2.2.2[q]?) ∧ (∀ (a : Nat) (c : xC), h.1 a = some c → xAt E.2.1 U H a c) ∧ ∀ (q : Nat) (cell : Cell), E.2.2.1 ≤ q → H[q]? = some cell → cell.vm.isStatics = false
theorem xI.moved {E : xE} {u U : State} {h : xH} {H : Heap} (hvm : u.vm.Alike U.vm) (k : xI E u h H) : xI E U h H :=
  ⟨k.1, k.2.1, k.2.2.1, fun a c hc => (k.2.2.2.1 a c hc).moved hvm, k.2.2.2.2⟩
/-- one cell of ours written -/
theorem xI.put {E : xE} {U : State} {h : xH} {H H1 : Heap} {a : Nat} {c : xC} (k : xI E U h H) (ha : E.2.2.1 ≤ a) (hc : xAt E.2.1 U H1 a c) (hs : ∀ cell, H1[a]? = some cell → cell.vm.isStatics = false) (hz : H1.size = H.size) (ho : ∀ q, q ≠ a → H1[q]? = H[q]?) : xI E U (xset h a c) H1 := by
  obtain ⟨k1, k2, k3, k4, k5⟩ := k
  refine ⟨by rw [hz]; exact k1, by rw [hz]; exact k2, fun q hq => by rw [ho q (by omega)]; exact k3 q hq, fun q x hx => ?_, fun q cell hq hcell => ?_⟩
  · by_cases hqa : q = a
    · subst hqa
      rw [xset_eq] at hx
      cases hx
      exact hc
    · rw [xset_ne _ _ hqa] at hx
      exact (k4 q x hx).kept (ho q hqa)
  · by_cases hqa : q = a
    · subst hqa
      exact hs cell hcell
    · exact k5 q cell hq (by rw [← ho q hqa]; exact hcell)
/-- one cell made -/
theorem xI.new {E : xE} {U : State} {h : xH} {H H1 : Heap} {c : xC} {n : Nat} (k : xI E U h H) (hc : xAt E.2.1 U H1 h.2.1 c) (hs : ∀ cell, H1[h.2.1]? = some cell → cell.vm.isStatics = false) (hz : H1.size = h.2.1 + 1) (ho : ∀ q, q < h.2.1 → H1[q]? = H[q]?) : xI E U (xadd h c n) H1 := by
  obtain ⟨k1, k2, k3, k4, k5⟩ := k
  refine ⟨hz, by omega, fun q hq => by rw [ho q (by omega)]; exact k3 q hq, fun q x hx => ?_, fun q cell hq hcell => ?_⟩
  · by_cases hqa : q = h.2.1
    · subst hqa
      rw [xadd_eq] at hx
      cases hx
      exact hc
    · rw [xadd_ne _ _ _ hqa] at hx
      have hl := (k4 q x hx).lt
      exact (k4 q x hx).kept (ho q (by omega))
  · by_cases hqa : q = h.2.1
    · subst hqa
      exact hs cell hcell
    · have hl : q < H1.size := (Array.getElem?_eq_some_iff.mp hcell).1
      exact k5 q cell hq (by rw [← ho q (by omega)]; exact hcell)
/-- one cell made of which the picture says nothing -/
theorem xI.bare {E : xE} {U : State} {h : xH} {H H1 : Heap} {n : Nat} (k : xI E U h H) (hs : ∀ cell, H1[h.2.1]? = some cell → cell.vm.isStatics = false) (hz : H1.size = h.2.1 + 1) (ho : ∀ q, q < h.2.1 → H1[q]? = H[q]?) : xI E U (h.1, h.2.1 + 1, h.2.2 + n) H1 := by
  obtain ⟨k1, k2, k3, k4, k5⟩ := k
  refine ⟨hz, by omega, fun q hq => by rw [ho q (by omega)]; exact k3 q hq, fun q x hx => ?_, fun q cell hq hcell => ?_⟩
  · have hl := (k4 q x hx).lt
    exact (k4 q x hx).kept (ho q (by omega))
  · by_cases hqa : q = h.2.1
    · subst hqa
      exact hs cell hcell
    · have hl : q < H1.size := (Array.getElem?_eq_some_iff.mp hcell).1
      exact k5 q cell hq (by rw [← ho q (by omega)]; exact hcell)
def xOut (t : State) (o : Outcome) (r : xO) : Prop := match r with
  | .inl v => o = .returned v
  | .inr x => o = .threw x.2 ∧ ∃ cell : Cell, t.heap[x.2]? = some cell ∧ t.vm.findClass x.1 = some cell.cls ∧ cell.vm.isStatics = false
def xMQ (E : xE) (below : List Frame) (s : State) (r : xR) (k n : Nat) : State → Prop := fun t =>
  t.status = .running ∧ ∃ o, Ended t below o ∧ xOut t o r.2.1 ∧ s.WarmedH t.vm ∧ xI E t r.2.2 t.heap ∧ ∃ L, s.sameButNew ({ t with vm := s.vm } : State) L k n ∧ (∀ q ∈ L, E.2.2.1 ≤ q.base) ∧ (r.1 = false → L = [] ∧ t.heap = s.heap)
/-- what the throwing of exceptions needs of the start: the heap below ours as it was, nothing of ours holds statics, Throwable's two statics -/
def xZ (E : xE) (s : State) : Prop := (∀ q : Nat, q < E.2.2.1 → s.heap[q]? = E.2.2.2[q]?) ∧ (∀ (q : Nat) (cell : Cell), E.2.2.1 ≤ q → s.heap[q]? = some cell → cell.vm.isStatics = false) ∧
  vx_Zq "java/lang/Throwable" "UNASSIGNED_STACK" "[Ljava/lang/StackTraceElement;" (fun q => E.2.2.1 ≤ q) s E.2.2.2 ∧ vx_Zq "java/lang/Throwable" "SUPPRESSED_SENTINEL" "Ljava/util/List;" (fun q => E.2.2.1 ≤ q) s E.2.2.2 ∧
  va_Nc "java/lang/IllegalStateException" "java/lang/IllegalArgumentException" s ∧ va_Nc "java/lang/IllegalStateException" "java/util/NoSuchElementException" s ∧ va_Nc "java/lang/IllegalArgumentException" "java/util/NoSuchElementException" s
theorem xZ_moved {E : xE} {s U : State} (hvm : s.vm.Alike U.vm) (hh : ∀ q : Nat, q < E.2.2.1 → U.heap[q]? = E.2.2.2[q]?) (hh2 : ∀ (q : Nat) (cell : Cell), E.2.2.1 ≤ q → U.heap[q]? = some cell → cell.vm.isStatics = false) (h : xZ E s) : xZ E U := by
  obtain ⟨-, -, h1, h2, h3, h4, h5⟩ := h
  exact ⟨hh, hh2, h1.moved hvm, h2.moved hvm, h3.moved hvm, h4.moved hvm, h5.moved hvm⟩
theorem xZ_here {E : xE} {C n d : String} {s : State} (hz : vx_Zq C n d (fun q => E.2.2.1 ≤ q) s E.2.2.2) (hh : ∀ q : Nat, q < E.2.2.1 → s.heap[q]? = E.2.2.2[q]?) : vx_Zq C n d (fun q => E.2.2.1 ≤ q) s s.heap :=
  hz.kept (fun a _ ha => hh a (Nat.not_le.mp ha))
/-- the words that stay true as the tables grow warmer -/
def xper (w : Cond) : Bool := goodWord w || match w with
  | .castable .. => true
  | .declares _ => true
  | .arrayOver (.object _) => true
  | .arrayOver (.array _) => true
  | .not (.castable ..) => true
  | _ => false
theorem xAOA_moved {t : FieldType} {args a' : Array Value} {u U : State} (hvm : u.vm.Alike U.vm) (h : (Cond.arrayOver (.array t)).before args u = true) : (Cond.arrayOver (.array t)).before a' U = true := by
  obtain ⟨comp, c, k, h1, h2, h3, h4, h5⟩ := arrayOverA_spec h
  obtain ⟨k', hk', he⟩ := hvm.2.2 _ _ h3
  have hi : (U.vm.classes.findIdx? fun (x : Class) => match x.kind with | .array component _ => component == comp | _ => false) = some c := by
    rw [hvm.findIdx?_eq _ (fun _ => rfl)]
    exact h2
  have hkind : k'.kind = .array comp (.array t) := by rw [he]; exact h4
  have f1 : U.vm.findClass (FieldType.array t).toString = some comp := by rw [hvm.findClass]; exact h1
  have f2 : U.vm.findClass ("[" ++ (FieldType.array t).toString) = some c := by rw [hvm.findClass]; exact h5
  unfold Cond.before Cond.holds
  simp only [Cond.value]
  rw [f1, Option.bind_some]
  refine (congrArg (fun o : Option Nat => (o.bind (fun c => (U.vm.classes[c]?).map fun (k : Class) => match k.kind with | .array _ ty => decide (ty = FieldType.array t) && decide (U.vm.findClass ("[" ++ (FieldType.array t).toString) = some c) | _ => false) == some true)) hi).trans ?_
  simp [hk', hkind, f2]
theorem xper_keep {args a' : Array Value} {s U : State} (hW : s.WarmedH U.vm) {w : Cond} (hp : xper w = true) (h : w.before args s = true) : w.before a' U = true := by
  unfold xper at hp
  rw [Bool.or_eq_true] at hp
  rcases hp with hp | hp
  · exact word_at hW (good_of_word hp) h
  · split at hp
    · rw [← Cond.castable_setVm hW.alike] at h
      exact h
    · rw [← Cond.declares_setVm hW.alike] at h
      exact h
    · exact va_AO.moved hW.alike h
    · exact xAOA_moved hW.alike h
    · exact Cond.castAtom_setVm hW.alike _ rfl h
    · cases hp
def xX (E : xE) (M : xM) (p : Program) (e : Env) (s : State) (mid : MethodId) (args : Array Value) (meth : Method) (c : Code) : Prop :=
  (p.tables.exec = Jvm.exec ∧ c.code = M.2.1 ∧ c.maxLocals = M.2.2.1 ∧ meth.sig.returnType = M.2.2.2.1 ∧ meth.locks = false) ∧
  (s.vm.findClass M.1.cls = some mid.cls ∧ meth.name = M.1.name ∧ c.exceptionTable.toList.map (fun h => (h.startPc, h.endPc, h.handlerPc, h.catchType)) = M.2.2.2.2) ∧
  (∀ w ∈ lw_tbl, xper w = true → w.before args s = true) ∧ va_K E.2.1 classes [] s ∧ e.platform.stackTraces = false ∧ xZ E s
/-- the judgement: from this frame over the abstract heap h the method comes to its end r -/
def xG (E : xE) (d : Nat) (M : xM) (pc : Nat) (lv : xL) (st : List Value) (w : Bool) (h : xH) (r : xR) : Prop :=
  (h.2.1 ≤ r.2.2.2.1 ∧ h.2.2 ≤ r.2.2.2.2) ∧
  ∀ (p : Program) (e : Env) (R : Room) (s : State) (mid : MethodId) (args : Array Value) (below : List Frame) (meth : Method) (c : Code) (H : Heap) (locs : List Loc) (cells slots : Nat) (ls : Array Slot),
    xX E M p e s mid args meth c → xI E s h H → lv_has ls M.2.2.1 lv → (∀ q ∈ locs, E.2.2.1 ≤ q.base) → (w = false → locs = [] ∧ H = s.heap) → (d + 5 ≤ R.frames ∧ 40 * d + 120 ≤ R.locals) →
    cells + (r.2.2.2.1 - h.2.1) ≤ R.cells → slots + (r.2.2.2.2 - h.2.2) ≤ R.slots →
    W p E.1 e R s mid args below meth c H locs cells slots (xMQ E below s r (cells + (r.2.2.2.1 - h.2.1)) (slots + (r.2.2.2.2 - h.2.2))) (F0 mid pc ls st)
/-- a step that leaves the heap -/
theorem xG.go {E : xE} {d : Nat} {M : xM} {pc pc' : Nat} {lv lv' : xL} {st st' : List Value} {w : Bool} {h : xH} {r : xR} (k : xG E d M pc' lv' st' w h r)
    (step : ∀ {p : Program} {e : Env} {R : Room} {s : State} {mid : MethodId} {args : Array Value} {below : List Frame} {meth : Method} {c : Code} {H : Heap} {locs : List Loc} {cells slots : Nat} {ls : Array Slot} {Q : State → Prop},
      xX E M p e s mid args meth c → lv_has ls M.2.2.1 lv → (∀ ls' : Array Slot, lv_has ls' M.2.2.1 lv' → W p E.1 e R s mid args below meth c H locs cells slots Q (F0 mid pc' ls' st')) → W p E.1 e R s mid args below meth c H locs cells slots Q (F0 mid pc ls st)) :
    xG E d M pc lv st w h r :=
  ⟨k.1, fun p e R s mid args below meth c H locs cells slots ls hX hI hl hlo hw hR hc hs => step hX hl (fun ls' hl' => k.2 p e R s mid args below meth c H locs cells slots ls' hX hI hl' hlo hw hR hc hs)⟩
/-- a branch -/
theorem xG.br {E : xE} {d : Nat} {M : xM} {pc p1 p2 : Nat} {lv : xL} {st st' : List Value} {w : Bool} {h : xH} {r : xR} {P : Prop} (k1 : P → xG E d M p1 lv st' w h r) (k2 : ¬ P → xG E d M p2 lv st' w h r)
    (step : ∀ {p : Program} {e : Env} {R : Room} {s : State} {mid : MethodId} {args : Array Value} {below : List Frame} {meth : Method} {c : Code} {H : Heap} {locs : List Loc} {cells slots : Nat} {ls : Array Slot} {Q : State → Prop},
      xX E M p e s mid args meth c → (P → W p E.1 e R s mid args below meth c H locs cells slots Q (F0 mid p1 ls st')) → (¬ P → W p E.1 e R s mid args below meth c H locs cells slots Q (F0 mid p2 ls st')) → W p E.1 e R s mid args below meth c H locs cells slots Q (F0 mid pc ls st)) :
    xG E d M pc lv st w h r := by
  refine ⟨by by_cases hP : P; exact (k1 hP).1; exact (k2 hP).1, fun p e R s mid args below meth c H locs cells slots ls hX hI hl hlo hw hR hc hs => step hX (fun hP => ?_) (fun hP => ?_)⟩
  · exact (k1 hP).2 p e R s mid args below meth c H locs cells slots ls hX hI hl hlo hw hR hc hs
  · exact (k2 hP).2 p e R s mid args below meth c H locs cells slots ls hX hI hl hlo hw hR hc hs
theorem xW_mono {p : Program} {l : Launch} {e : Env} {R : Room} {s : State} {m : MethodId} {args : Array Value} {below : List Frame} {meth : Method} {c : Code} {H : Heap} {locs : List Loc} {cells slots : Nat} {Q Q' : State → Prop} {g : JFrame}
    (hQ : ∀ t, Q t → Q' t) (k : W p l e R s m args below meth c H locs cells slots Q g) : W p l e R s m args below meth c H locs cells slots Q' g := by
  intro T hT X
  obtain ⟨t, a, b⟩ := k T hT X
  exact ⟨t, a, hQ t b⟩
def xQc (E : xE) (s : State) (w : Bool) (v : Option Value) (h : xH) : Array Value → State → Outcome → State → Prop := fun _ _ o t => o = .returned v ∧ xI E t h t.heap ∧ (w = false → t.heap = s.heap)
theorem xMQ_of {E : xE} {below : List Frame} {args : Array Value} {s : State} {w : Bool} {v : Option Value} {h : xH} {k n : Nat} (t : State) (q : MQ below (xQc E s w v h) args s k n (fun a => E.2.2.1 ≤ a ∧ w = true) t) : xMQ E below s (w, .inl v, h) k n t := by
  obtain ⟨o, h1, h2, ⟨h3, h4, h8⟩, L, ⟨-, h5, h6⟩, h7⟩ := q
  refine ⟨h1, o, h2, h3, h5, h4, L, h6, fun x hx => (h7 x hx).1, fun hw => ⟨?_, h8 hw⟩⟩
  cases L with
  | nil => rfl
  | cons x t =>
    have := (h7 x List.mem_cons_self).2
    rw [show w = false from hw] at this
    cases this
theorem xend {E : xE} {d : Nat} {M : xM} {pc : Nat} {lv : xL} {st : List Value} {w : Bool} {h : xH} {v : Option Value}
    (step : ∀ {p : Program} {e : Env} {R : Room} {s : State} {mid : MethodId} {args : Array Value} {below : List Frame} {meth : Method} {c : Code} {H : Heap} {locs : List Loc} {cells slots : Nat} {ls : Array Slot},
      xX E M p e s mid args meth c → (∀ t : State, t.heap = H → s.WarmedH t.vm → xQc E s w v h args s (.returned v) t) → (∀ q ∈ locs, E.2.2.1 ≤ q.base ∧ w = true) → W p E.1 e R s mid args below meth c H locs cells slots (MQ below (xQc E s w v h) args s cells slots (fun a => E.2.2.1 ≤ a ∧ w = true)) (F0 mid pc ls st)) :
    xG E d M pc lv st w h (w, .inl v, h) := by
  refine ⟨⟨Nat.le_refl _, Nat.le_refl _⟩, fun p e R s mid args below meth c H locs cells slots ls hX hI hl hlo hw hR hc hs => ?_⟩
  simp only [Nat.sub_self, Nat.add_zero]
  refine xW_mono (fun t q => xMQ_of t q) (step hX (fun t ht hW => ⟨rfl, by rw [ht]; exact hI.moved hW.alike, fun hf => by rw [ht]; exact (hw hf).2⟩) (fun q hq => ⟨hlo q hq, ?_⟩))
  cases w with
  | true => rfl
  | false =>
    rw [(hw rfl).1] at hq
    cases hq
theorem x_iret {E : xE} {d : Nat} {M : xM} {pc : Nat} {lv : xL} {w : Bool} {h : xH} {v : Int32} (hr : M.2.2.2.1 = some .int) (hd : decode M.2.1 pc = .ok (.ireturn, 1)) : xG E d M pc lv [.int v] w h (w, .inl (some (.int v)), h) :=
  xend fun hX hq hlo => W.iret hX.1.1 hX.1.2.1 (hX.1.2.2.2.1.trans hr) hq hlo hd (hlocks := hX.1.2.2.2.2)
theorem x_zret {E : xE} {d : Nat} {M : xM} {pc : Nat} {lv : xL} {w : Bool} {h : xH} {v : Int32} (hn : narrow .boolean (.int v) = .int v) (hr : M.2.2.2.1 = some .boolean) (hd : decode M.2.1 pc = .ok (.ireturn, 1)) : xG E d M pc lv [.int v] w h (w, .inl (some (.int v)), h) :=
  xend fun hX hq hlo => W.zret hX.1.1 hX.1.2.1 (hX.1.2.2.2.1.trans hr) hn hq hlo hd (hlocks := hX.1.2.2.2.2)
theorem x_lret {E : xE} {d : Nat} {M : xM} {pc : Nat} {lv : xL} {w : Bool} {h : xH} {v : Int64} (hr : M.2.2.2.1 = some .long) (hd : decode M.2.1 pc = .ok (.lreturn, 1)) : xG E d M pc lv [.long v] w h (w, .inl (some (.long v)), h) :=
  xend fun hX hq hlo => W.lret hX.1.1 hX.1.2.1 (hX.1.2.2.2.1.trans hr) hq hlo hd (hlocks := hX.1.2.2.2.2)
theorem x_vret {E : xE} {d : Nat} {M : xM} {pc : Nat} {lv : xL} {w : Bool} {h : xH}  (hr : M.2.2.2.1 = none) (hd : decode M.2.1 pc = .ok (.return_, 1)) : xG E d M pc lv [] w h (w, .inl (none), h) :=
  xend fun hX hq hlo => W.vret hX.1.1 hX.1.2.1 (hX.1.2.2.2.1.trans hr) hq hlo hd (hlocks := hX.1.2.2.2.2)
theorem x_aret {E : xE} {d : Nat} {M : xM} {pc : Nat} {lv : xL} {w : Bool} {h : xH} {a : Nat} {n : String} (hr : M.2.2.2.1 = some (.object n)) (hd : decode M.2.1 pc = .ok (.areturn, 1)) : xG E d M pc lv [.ref a] w h (w, .inl (some (.ref a)), h) :=
  xend fun hX hq hlo => W.aret hX.1.1 hX.1.2.1 (hX.1.2.2.2.1.trans hr) (Or.inl ⟨n, rfl⟩) (Or.inr ⟨a, rfl⟩) hq hlo hd (hlocks := hX.1.2.2.2.2)
end
section
def xlk : xL → Nat → Option Value
  | [], _ => none
  | q :: t, i => if q.1 == i then some q.2 else xlk t i
def xst (lv : xL) (i : Nat) (v : Value) : xL := (i, v) :: lv.filter (fun q => !(q.1 == i) && !(q.1 + 1 == i && q.2.category == 2))
def xst2 (lv : xL) (i : Nat) (v : Value) : xL := (i, v) :: lv.filter (fun q => !(q.1 == i) && (!(q.1 == i + 1) && !(q.1 + 1 == i && q.2.category == 2)))
theorem xlk_mem {lv : xL} {i : Nat} {v : Value} (h : xlk lv i = some v) : (i, v) ∈ lv := by
  induction lv with
  | nil => cases h
  | cons q t ih =>
    obtain ⟨j, w⟩ := q
    unfold xlk at h
    by_cases hj : j = i
    · subst hj
      simp at h
      subst h
      exact List.mem_cons_self
    · rw [if_neg (by simpa using hj)] at h
      exact List.mem_cons_of_mem _ (ih h)
theorem xlk_at {ls : Array Slot} {nL : Nat} {lv : xL} {i : Nat} {v : Value} (hl : lv_has ls nL lv) (h : xlk lv i = some v) : ls[i]? = some (.val v) := hl.2.2 (i, v) (xlk_mem h)
theorem xlk_ix {lv : xL} {i : Nat} {v : Value} (h : xlk lv i = some v) : ∃ q : Nat, lv[q]? = some (i, v) := List.getElem?_of_mem (xlk_mem h)
theorem x_iconst {E : xE} {d : Nat} {M : xM} {pc : Nat} {lv : xL} {st : List Value} {w : Bool} {h : xH} {r : xR} {n : Int} {v : Int32} (hd : decode M.2.1 pc = .ok (.iconst n, 1)) (hv : Int32.ofInt n = v) (k : xG E d M (pc + 1) lv (.int v :: st) w h r) : xG E d M pc lv (st) w h r :=
  k.go fun hX hl k' => lv_iconst (v := v) hX.1.1 hX.1.2.1 hd hv (k' _ hl)
theorem x_bipush {E : xE} {d : Nat} {M : xM} {pc : Nat} {lv : xL} {st : List Value} {w : Bool} {h : xH} {r : xR} {n : Int} {v : Int32} (hd : decode M.2.1 pc = .ok (.bipush n, 2)) (hv : (Int8.ofInt n).toInt32 = v) (k : xG E d M (pc + 2) lv (.int v :: st) w h r) : xG E d M pc lv (st) w h r :=
  k.go fun hX hl k' => lv_bipush (v := v) hX.1.1 hX.1.2.1 hd hv (k' _ hl)
theorem x_sipush {E : xE} {d : Nat} {M : xM} {pc : Nat} {lv : xL} {st : List Value} {w : Bool} {h : xH} {r : xR} {n : Int} {v : Int32} (hd : decode M.2.1 pc = .ok (.sipush n, 3)) (hv : (Int16.ofInt n).toInt32 = v) (k : xG E d M (pc + 3) lv (.int v :: st) w h r) : xG E d M pc lv (st) w h r :=
  k.go fun hX hl k' => lv_sipush (v := v) hX.1.1 hX.1.2.1 hd hv (k' _ hl)
theorem x_lconst {E : xE} {d : Nat} {M : xM} {pc : Nat} {lv : xL} {st : List Value} {w : Bool} {h : xH} {r : xR} {n : Fin 2} {v : Int64} (hd : decode M.2.1 pc = .ok (.lconst n, 1)) (hv : Int64.ofNat (n : Nat) = v) (k : xG E d M (pc + 1) lv (.long v :: st) w h r) : xG E d M pc lv (st) w h r :=
  k.go fun hX hl k' => lv_lconst (v := v) hX.1.1 hX.1.2.1 hd hv (k' _ hl)
theorem x_iload_n {E : xE} {d : Nat} {M : xM} {pc : Nat} {lv : xL} {st : List Value} {w : Bool} {h : xH} {r : xR} {i : Fin 4} {x : Int32}  (hd : decode M.2.1 pc = .ok (.iload_n i, 1)) (hq : xlk lv ((i : Fin 4) : Nat) = some (.int x)) (k : xG E d M (pc + 1) lv (.int x :: st) w h r) : xG E d M pc lv (st) w h r :=
  k.go fun hX hl k' => lv_iload_n hX.1.1 hX.1.2.1 hd rfl (xlk_at hl hq) (k' _ hl)
theorem x_iload {E : xE} {d : Nat} {M : xM} {pc : Nat} {lv : xL} {st : List Value} {w : Bool} {h : xH} {r : xR} {i : Nat} {x : Int32}  (hd : decode M.2.1 pc = .ok (.iload i, 2)) (hq : xlk lv i = some (.int x)) (k : xG E d M (pc + 2) lv (.int x :: st) w h r) : xG E d M pc lv (st) w h r :=
  k.go fun hX hl k' => lv_iload hX.1.1 hX.1.2.1 hd (xlk_at hl hq) (k' _ hl)
theorem x_lload_n {E : xE} {d : Nat} {M : xM} {pc : Nat} {lv : xL} {st : List Value} {w : Bool} {h : xH} {r : xR} {i : Fin 4} {x : Int64}  (hd : decode M.2.1 pc = .ok (.lload_n i, 1)) (hq : xlk lv ((i : Fin 4) : Nat) = some (.long x)) (k : xG E d M (pc + 1) lv (.long x :: st) w h r) : xG E d M pc lv (st) w h r :=
  k.go fun hX hl k' => lv_lload_n hX.1.1 hX.1.2.1 hd rfl (xlk_at hl hq) (k' _ hl)
theorem x_lload {E : xE} {d : Nat} {M : xM} {pc : Nat} {lv : xL} {st : List Value} {w : Bool} {h : xH} {r : xR} {i : Nat} {x : Int64}  (hd : decode M.2.1 pc = .ok (.lload i, 2)) (hq : xlk lv i = some (.long x)) (k : xG E d M (pc + 2) lv (.long x :: st) w h r) : xG E d M pc lv (st) w h r :=
  k.go fun hX hl k' => lv_lload hX.1.1 hX.1.2.1 hd (xlk_at hl hq) (k' _ hl)
theorem x_aload_n {E : xE} {d : Nat} {M : xM} {pc : Nat} {lv : xL} {st : List Value} {w : Bool} {h : xH} {r : xR} {i : Fin 4} {x : Nat}  (hd : decode M.2.1 pc = .ok (.aload_n i, 1)) (hq : xlk lv ((i : Fin 4) : Nat) = some (.ref x)) (k : xG E d M (pc + 1) lv (.ref x :: st) w h r) : xG E d M pc lv (st) w h r :=
  k.go fun hX hl k' => lv_aload_n hX.1.1 hX.1.2.1 hd rfl (xlk_at hl hq) (k' _ hl)
theorem x_aload {E : xE} {d : Nat} {M : xM} {pc : Nat} {lv : xL} {st : List Value} {w : Bool} {h : xH} {r : xR} {i : Nat} {x : Nat}  (hd : decode M.2.1 pc = .ok (.aload i, 2)) (hq : xlk lv i = some (.ref x)) (k : xG E d M (pc + 2) lv (.ref x :: st) w h r) : xG E d M pc lv (st) w h r :=
  k.go fun hX hl k' => lv_aload hX.1.1 hX.1.2.1 hd (xlk_at hl hq) (k' _ hl)
theorem x_iadd {E : xE} {d : Nat} {M : xM} {pc : Nat} {lv : xL} {st : List Value} {w : Bool} {h : xH} {r : xR} {x y : Int32} (hd : decode M.2.1 pc = .ok (.iadd, 1)) (k : xG E d M (pc + 1) lv (.int (x + y) :: st) w h r) : xG E d M pc lv (.int y :: .int x :: st) w h r :=
  k.go fun hX hl k' => lv_iadd hX.1.1 hX.1.2.1 hd (k' _ hl)
theorem x_isub {E : xE} {d : Nat} {M : xM} {pc : Nat} {lv : xL} {st : List Value} {w : Bool} {h : xH} {r : xR} {x y : Int32} (hd : decode M.2.1 pc = .ok (.isub, 1)) (k : xG E d M (pc + 1) lv (.int (x - y) :: st) w h r) : xG E d M pc lv (.int y :: .int x :: st) w h r :=
  k.go fun hX hl k' => lv_isub hX.1.1 hX.1.2.1 hd (k' _ hl)
theorem x_imul {E : xE} {d : Nat} {M : xM} {pc : Nat} {lv : xL} {st : List Value} {w : Bool} {h : xH} {r : xR} {x y : Int32} (hd : decode M.2.1 pc = .ok (.imul, 1)) (k : xG E d M (pc + 1) lv (.int (x * y) :: st) w h r) : xG E d M pc lv (.int y :: .int x :: st) w h r :=
  k.go fun hX hl k' => lv_imul hX.1.1 hX.1.2.1 hd (k' _ hl)
theorem x_iand {E : xE} {d : Nat} {M : xM} {pc : Nat} {lv : xL} {st : List Value} {w : Bool} {h : xH} {r : xR} {x y : Int32} (hd : decode M.2.1 pc = .ok (.iand, 1)) (k : xG E d M (pc + 1) lv (.int (x &&& y) :: st) w h r) : xG E d M pc lv (.int y :: .int x :: st) w h r :=
  k.go fun hX hl k' => lv_iand hX.1.1 hX.1.2.1 hd (k' _ hl)
theorem x_ior {E : xE} {d : Nat} {M : xM} {pc : Nat} {lv : xL} {st : List Value} {w : Bool} {h : xH} {r : xR} {x y : Int32} (hd : decode M.2.1 pc = .ok (.ior, 1)) (k : xG E d M (pc + 1) lv (.int (x ||| y) :: st) w h r) : xG E d M pc lv (.int y :: .int x :: st) w h r :=
  k.go fun hX hl k' => lv_ior hX.1.1 hX.1.2.1 hd (k' _ hl)
theorem x_ixor {E : xE} {d : Nat} {M : xM} {pc : Nat} {lv : xL} {st : List Value} {w : Bool} {h : xH} {r : xR} {x y : Int32} (hd : decode M.2.1 pc = .ok (.ixor, 1)) (k : xG E d M (pc + 1) lv (.int (x ^^^ y) :: st) w h r) : xG E d M pc lv (.int y :: .int x :: st) w h r :=
  k.go fun hX hl k' => lv_ixor hX.1.1 hX.1.2.1 hd (k' _ hl)
theorem x_land {E : xE} {d : Nat} {M : xM} {pc : Nat} {lv : xL} {st : List Value} {w : Bool} {h : xH} {r : xR} {x y : Int64} (hd : decode M.2.1 pc = .ok (.land, 1)) (k : xG E d M (pc + 1) lv (.long (x &&& y) :: st) w h r) : xG E d M pc lv (.long y :: .long x :: st) w h r :=
  k.go fun hX hl k' => lv_land hX.1.1 hX.1.2.1 hd (k' _ hl)
theorem x_lor {E : xE} {d : Nat} {M : xM} {pc : Nat} {lv : xL} {st : List Value} {w : Bool} {h : xH} {r : xR} {x y : Int64} (hd : decode M.2.1 pc = .ok (.lor, 1)) (k : xG E d M (pc + 1) lv (.long (x ||| y) :: st) w h r) : xG E d M pc lv (.long y :: .long x :: st) w h r :=
  k.go fun hX hl k' => lv_lor hX.1.1 hX.1.2.1 hd (k' _ hl)
theorem x_ishl {E : xE} {d : Nat} {M : xM} {pc : Nat} {lv : xL} {st : List Value} {w : Bool} {h : xH} {r : xR} {x y : Int32} (hd : decode M.2.1 pc = .ok (.ishl, 1)) (k : xG E d M (pc + 1) lv (.int (x <<< (y &&& 31)) :: st) w h r) : xG E d M pc lv (.int y :: .int x :: st) w h r :=
  k.go fun hX hl k' => lv_ishl hX.1.1 hX.1.2.1 hd (k' _ hl)
theorem x_ishr {E : xE} {d : Nat} {M : xM} {pc : Nat} {lv : xL} {st : List Value} {w : Bool} {h : xH} {r : xR} {x y : Int32} (hd : decode M.2.1 pc = .ok (.ishr, 1)) (k : xG E d M (pc + 1) lv (.int (x >>> (y &&& 31)) :: st) w h r) : xG E d M pc lv (.int y :: .int x :: st) w h r :=
  k.go fun hX hl k' => lv_ishr hX.1.1 hX.1.2.1 hd (k' _ hl)
theorem x_iushr {E : xE} {d : Nat} {M : xM} {pc : Nat} {lv : xL} {st : List Value} {w : Bool} {h : xH} {r : xR} {x y : Int32} (hd : decode M.2.1 pc = .ok (.iushr, 1)) (k : xG E d M (pc + 1) lv (.int ((x.toUInt32 >>> (y.toUInt32 &&& Int32.toUInt32 31)).toInt32) :: st) w h r) : xG E d M pc lv (.int y :: .int x :: st) w h r :=
  k.go fun hX hl k' => lv_iushr hX.1.1 hX.1.2.1 hd rfl (k' _ hl)
theorem x_lshl {E : xE} {d : Nat} {M : xM} {pc : Nat} {lv : xL} {st : List Value} {w : Bool} {h : xH} {r : xR} {x : Int64} {y : Int32} (hd : decode M.2.1 pc = .ok (.lshl, 1)) (k : xG E d M (pc + 1) lv (.long (x <<< (y.toInt64 &&& 63)) :: st) w h r) : xG E d M pc lv (.int y :: .long x :: st) w h r :=
  k.go fun hX hl k' => lv_lshl hX.1.1 hX.1.2.1 hd rfl (k' _ hl)
theorem x_i2l {E : xE} {d : Nat} {M : xM} {pc : Nat} {lv : xL} {st : List Value} {w : Bool} {h : xH} {r : xR} {x : Int32} (hd : decode M.2.1 pc = .ok (.i2l, 1)) (k : xG E d M (pc + 1) lv (.long x.toInt64 :: st) w h r) : xG E d M pc lv (.int x :: st) w h r :=
  k.go fun hX hl k' => lv_i2l hX.1.1 hX.1.2.1 hd rfl (k' _ hl)
theorem x_lcmp {E : xE} {d : Nat} {M : xM} {pc : Nat} {lv : xL} {st : List Value} {w : Bool} {h : xH} {r : xR} {x y : Int64} (hd : decode M.2.1 pc = .ok (.lcmp, 1)) (k : xG E d M (pc + 1) lv (.int (lg_cmp x y) :: st) w h r) : xG E d M pc lv (.long y :: .long x :: st) w h r :=
  k.go fun hX hl k' => W.lcmp hX.1.1 hX.1.2.1 hd (k' _ hl)
theorem x_dup {E : xE} {d : Nat} {M : xM} {pc : Nat} {lv : xL} {st : List Value} {w : Bool} {h : xH} {r : xR} {a : Value} (hd : decode M.2.1 pc = .ok (.dup, 1)) (hc : a.category = 1) (k : xG E d M (pc + 1) lv (a :: a :: st) w h r) : xG E d M pc lv (a :: st) w h r :=
  k.go fun hX hl k' => lv_dup hX.1.1 hX.1.2.1 hd hc (k' _ hl)
theorem x_pop {E : xE} {d : Nat} {M : xM} {pc : Nat} {lv : xL} {st : List Value} {w : Bool} {h : xH} {r : xR} {a : Value} (hd : decode M.2.1 pc = .ok (.pop, 1)) (hc : a.category = 1) (k : xG E d M (pc + 1) lv (st) w h r) : xG E d M pc lv (a :: st) w h r :=
  k.go fun hX hl k' => lv_pop hX.1.1 hX.1.2.1 hd hc (k' _ hl)
theorem x_dup2 {E : xE} {d : Nat} {M : xM} {pc : Nat} {lv : xL} {st : List Value} {w : Bool} {h : xH} {r : xR} {a b : Value} (hd : decode M.2.1 pc = .ok (.dup2, 1)) (hc : a.category = 1) (hc2 : b.category = 1) (k : xG E d M (pc + 1) lv (a :: b :: a :: b :: st) w h r) : xG E d M pc lv (a :: b :: st) w h r :=
  k.go fun hX hl k' => lv_dup2_11 hX.1.1 hX.1.2.1 hd hc hc2 (k' _ hl)
theorem x_istore_n {E : xE} {d : Nat} {M : xM} {pc : Nat} {lv : xL} {st : List Value} {w : Bool} {h : xH} {r : xR} {i : Fin 4} {x : Int32} (hd : decode M.2.1 pc = .ok (.istore_n i, 1)) (hn : ((i : Fin 4) : Nat) < M.2.2.1) (k : xG E d M (pc + 1) (xst lv ((i : Fin 4) : Nat) (.int x)) st w h r) : xG E d M pc lv (.int x :: st) w h r :=
  k.go fun hX hl0 k' => lv_istore_n hX.1.1 hX.1.2.1 hd rfl hl0 hn rfl (fun ls' h' => k' ls' h')
theorem x_istore {E : xE} {d : Nat} {M : xM} {pc : Nat} {lv : xL} {st : List Value} {w : Bool} {h : xH} {r : xR} {i : Nat} {x : Int32} (hd : decode M.2.1 pc = .ok (.istore i, 2)) (hn : i < M.2.2.1) (k : xG E d M (pc + 2) (xst lv i (.int x)) st w h r) : xG E d M pc lv (.int x :: st) w h r :=
  k.go fun hX hl0 k' => lv_istore hX.1.1 hX.1.2.1 hd hl0 hn rfl (fun ls' h' => k' ls' h')
theorem x_lstore_n {E : xE} {d : Nat} {M : xM} {pc : Nat} {lv : xL} {st : List Value} {w : Bool} {h : xH} {r : xR} {i : Fin 4} {x : Int64} (hd : decode M.2.1 pc = .ok (.lstore_n i, 1)) (hn : ((i : Fin 4) : Nat) + 1 < M.2.2.1) (k : xG E d M (pc + 1) (xst2 lv ((i : Fin 4) : Nat) (.long x)) st w h r) : xG E d M pc lv (.long x :: st) w h r :=
  k.go fun hX hl0 k' => lv_lstore_n hX.1.1 hX.1.2.1 hd rfl hl0 hn rfl (fun ls' h' => k' ls' h')
theorem x_lstore {E : xE} {d : Nat} {M : xM} {pc : Nat} {lv : xL} {st : List Value} {w : Bool} {h : xH} {r : xR} {i : Nat} {x : Int64} (hd : decode M.2.1 pc = .ok (.lstore i, 2)) (hn : i + 1 < M.2.2.1) (k : xG E d M (pc + 2) (xst2 lv i (.long x)) st w h r) : xG E d M pc lv (.long x :: st) w h r :=
  k.go fun hX hl0 k' => lv_lstore hX.1.1 hX.1.2.1 hd hl0 hn rfl (fun ls' h' => k' ls' h')
theorem x_astore_n {E : xE} {d : Nat} {M : xM} {pc : Nat} {lv : xL} {st : List Value} {w : Bool} {h : xH} {r : xR} {i : Fin 4} {x : Nat} (hd : decode M.2.1 pc = .ok (.astore_n i, 1)) (hn : ((i : Fin 4) : Nat) < M.2.2.1) (k : xG E d M (pc + 1) (xst lv ((i : Fin 4) : Nat) (.ref x)) st w h r) : xG E d M pc lv (.ref x :: st) w h r :=
  k.go fun hX hl0 k' => lv_astore_n hX.1.1 hX.1.2.1 hd rfl hl0 hn rfl (fun ls' h' => k' ls' h')
theorem x_astore {E : xE} {d : Nat} {M : xM} {pc : Nat} {lv : xL} {st : List Value} {w : Bool} {h : xH} {r : xR} {i : Nat} {x : Nat} (hd : decode M.2.1 pc = .ok (.astore i, 2)) (hn : i < M.2.2.1) (k : xG E d M (pc + 2) (xst lv i (.ref x)) st w h r) : xG E d M pc lv (.ref x :: st) w h r :=
  k.go fun hX hl0 k' => lv_astore hX.1.1 hX.1.2.1 hd hl0 hn rfl (fun ls' h' => k' ls' h')
theorem x_iinc {E : xE} {d : Nat} {M : xM} {pc : Nat} {lv : xL} {st : List Value} {w : Bool} {h : xH} {r : xR} {i : Nat} {n : Int} {x v : Int32} (hd : decode M.2.1 pc = .ok (.iinc i n, 3)) (hq : xlk lv i = some (.int x)) (hv : x + Int32.ofInt n = v) (hn : i < M.2.2.1) (k : xG E d M (pc + 3) (xst lv i (.int v)) st w h r) : xG E d M pc lv st w h r := by
  obtain ⟨q, hq'⟩ := xlk_ix hq
  exact k.go fun hX hl0 k' => lv_iinc (k := q) hX.1.1 hX.1.2.1 hd hl0 hq' hv hn rfl (fun ls' h' => k' ls' h')
theorem x_if_eq {E : xE} {d : Nat} {M : xM} {pc : Nat} {lv : xL} {st : List Value} {w : Bool} {h : xH} {r : xR} {x : Int32} {off : Int} (tgt : Nat) (hd : decode M.2.1 pc = .ok (.ifCond .eq off, 3)) (ht : (pc : Int) + off = (tgt : Int)) (k1 : x = 0 → xG E d M tgt lv st w h r) (k2 : ¬ (x = 0) → xG E d M (pc + 3) lv st w h r) : xG E d M pc lv (.int x :: st) w h r :=
  xG.br k1 k2 fun hX a b => lv_if_eq hX.1.1 hX.1.2.1 hd ht a b
theorem x_icmp_eq {E : xE} {d : Nat} {M : xM} {pc : Nat} {lv : xL} {st : List Value} {w : Bool} {h : xH} {r : xR} {x y : Int32} {off : Int} (tgt : Nat) (hd : decode M.2.1 pc = .ok (.if_icmp .eq off, 3)) (ht : (pc : Int) + off = (tgt : Int)) (k1 : x = y → xG E d M tgt lv st w h r) (k2 : ¬ (x = y) → xG E d M (pc + 3) lv st w h r) : xG E d M pc lv (.int y :: .int x :: st) w h r :=
  xG.br k1 k2 fun hX a b => lv_icmp_eq hX.1.1 hX.1.2.1 hd ht a b
theorem x_if_ne {E : xE} {d : Nat} {M : xM} {pc : Nat} {lv : xL} {st : List Value} {w : Bool} {h : xH} {r : xR} {x : Int32} {off : Int} (tgt : Nat) (hd : decode M.2.1 pc = .ok (.ifCond .ne off, 3)) (ht : (pc : Int) + off = (tgt : Int)) (k1 : ¬ x = 0 → xG E d M tgt lv st w h r) (k2 : x = 0 → xG E d M (pc + 3) lv st w h r) : xG E d M pc lv (.int x :: st) w h r :=
  xG.br k1 (fun q => k2 (Classical.not_not.mp q)) fun hX a b => lv_if_ne hX.1.1 hX.1.2.1 hd ht a (fun q => b (fun z => z q))
theorem x_icmp_ne {E : xE} {d : Nat} {M : xM} {pc : Nat} {lv : xL} {st : List Value} {w : Bool} {h : xH} {r : xR} {x y : Int32} {off : Int} (tgt : Nat) (hd : decode M.2.1 pc = .ok (.if_icmp .ne off, 3)) (ht : (pc : Int) + off = (tgt : Int)) (k1 : ¬ x = y → xG E d M tgt lv st w h r) (k2 : x = y → xG E d M (pc + 3) lv st w h r) : xG E d M pc lv (.int y :: .int x :: st) w h r :=
  xG.br k1 (fun q => k2 (Classical.not_not.mp q)) fun hX a b => lv_icmp_ne hX.1.1 hX.1.2.1 hd ht a (fun q => b (fun z => z q))
theorem x_if_lt {E : xE} {d : Nat} {M : xM} {pc : Nat} {lv : xL} {st : List Value} {w : Bool} {h : xH} {r : xR} {x : Int32} {off : Int} (tgt : Nat) (hd : decode M.2.1 pc = .ok (.ifCond .lt off, 3)) (ht : (pc : Int) + off = (tgt : Int)) (k1 : x < 0 → xG E d M tgt lv st w h r) (k2 : ¬ (x < 0) → xG E d M (pc + 3) lv st w h r) : xG E d M pc lv (.int x :: st) w h r :=
  xG.br k1 k2 fun hX a b => lv_if_lt hX.1.1 hX.1.2.1 hd ht a b
theorem x_icmp_lt {E : xE} {d : Nat} {M : xM} {pc : Nat} {lv : xL} {st : List Value} {w : Bool} {h : xH} {r : xR} {x y : Int32} {off : Int} (tgt : Nat) (hd : decode M.2.1 pc = .ok (.if_icmp .lt off, 3)) (ht : (pc : Int) + off = (tgt : Int)) (k1 : x < y → xG E d M tgt lv st w h r) (k2 : ¬ (x < y) → xG E d M (pc + 3) lv st w h r) : xG E d M pc lv (.int y :: .int x :: st) w h r :=
  xG.br k1 k2 fun hX a b => lv_icmp_lt hX.1.1 hX.1.2.1 hd ht a b
theorem x_if_ge {E : xE} {d : Nat} {M : xM} {pc : Nat} {lv : xL} {st : List Value} {w : Bool} {h : xH} {r : xR} {x : Int32} {off : Int} (tgt : Nat) (hd : decode M.2.1 pc = .ok (.ifCond .ge off, 3)) (ht : (pc : Int) + off = (tgt : Int)) (k1 : 0 ≤ x → xG E d M tgt lv st w h r) (k2 : ¬ (0 ≤ x) → xG E d M (pc + 3) lv st w h r) : xG E d M pc lv (.int x :: st) w h r :=
  xG.br k1 k2 fun hX a b => lv_if_ge hX.1.1 hX.1.2.1 hd ht a b
theorem x_icmp_ge {E : xE} {d : Nat} {M : xM} {pc : Nat} {lv : xL} {st : List Value} {w : Bool} {h : xH} {r : xR} {x y : Int32} {off : Int} (tgt : Nat) (hd : decode M.2.1 pc = .ok (.if_icmp .ge off, 3)) (ht : (pc : Int) + off = (tgt : Int)) (k1 : y ≤ x → xG E d M tgt lv st w h r) (k2 : ¬ (y ≤ x) → xG E d M (pc + 3) lv st w h r) : xG E d M pc lv (.int y :: .int x :: st) w h r :=
  xG.br k1 k2 fun hX a b => lv_icmp_ge hX.1.1 hX.1.2.1 hd ht a b
theorem x_if_gt {E : xE} {d : Nat} {M : xM} {pc : Nat} {lv : xL} {st : List Value} {w : Bool} {h : xH} {r : xR} {x : Int32} {off : Int} (tgt : Nat) (hd : decode M.2.1 pc = .ok (.ifCond .gt off, 3)) (ht : (pc : Int) + off = (tgt : Int)) (k1 : 0 < x → xG E d M tgt lv st w h r) (k2 : ¬ (0 < x) → xG E d M (pc + 3) lv st w h r) : xG E d M pc lv (.int x :: st) w h r :=
  xG.br k1 k2 fun hX a b => lv_if_gt hX.1.1 hX.1.2.1 hd ht a b
theorem x_icmp_gt {E : xE} {d : Nat} {M : xM} {pc : Nat} {lv : xL} {st : List Value} {w : Bool} {h : xH} {r : xR} {x y : Int32} {off : Int} (tgt : Nat) (hd : decode M.2.1 pc = .ok (.if_icmp .gt off, 3)) (ht : (pc : Int) + off = (tgt : Int)) (k1 : y < x → xG E d M tgt lv st w h r) (k2 : ¬ (y < x) → xG E d M (pc + 3) lv st w h r) : xG E d M pc lv (.int y :: .int x :: st) w h r :=
  xG.br k1 k2 fun hX a b => lv_icmp_gt hX.1.1 hX.1.2.1 hd ht a b
theorem x_if_le {E : xE} {d : Nat} {M : xM} {pc : Nat} {lv : xL} {st : List Value} {w : Bool} {h : xH} {r : xR} {x : Int32} {off : Int} (tgt : Nat) (hd : decode M.2.1 pc = .ok (.ifCond .le off, 3)) (ht : (pc : Int) + off = (tgt : Int)) (k1 : x ≤ 0 → xG E d M tgt lv st w h r) (k2 : ¬ (x ≤ 0) → xG E d M (pc + 3) lv st w h r) : xG E d M pc lv (.int x :: st) w h r :=
  xG.br k1 k2 fun hX a b => lv_if_le hX.1.1 hX.1.2.1 hd ht a b
theorem x_icmp_le {E : xE} {d : Nat} {M : xM} {pc : Nat} {lv : xL} {st : List Value} {w : Bool} {h : xH} {r : xR} {x y : Int32} {off : Int} (tgt : Nat) (hd : decode M.2.1 pc = .ok (.if_icmp .le off, 3)) (ht : (pc : Int) + off = (tgt : Int)) (k1 : x ≤ y → xG E d M tgt lv st w h r) (k2 : ¬ (x ≤ y) → xG E d M (pc + 3) lv st w h r) : xG E d M pc lv (.int y :: .int x :: st) w h r :=
  xG.br k1 k2 fun hX a b => lv_icmp_le hX.1.1 hX.1.2.1 hd ht a b
theorem x_goto {E : xE} {d : Nat} {M : xM} {pc : Nat} {lv : xL} {st : List Value} {w : Bool} {h : xH} {r : xR} {off : Int} (tgt : Nat) (hd : decode M.2.1 pc = .ok (.goto off, 3)) (ht : (pc : Int) + off = (tgt : Int)) (k : xG E d M tgt lv st w h r) : xG E d M pc lv st w h r :=
  k.go fun hX hl k' => lv_goto hX.1.1 hX.1.2.1 hd ht (k' _ hl)
theorem x_tableIn {E : xE} {d : Nat} {M : xM} {pc : Nat} {lv : xL} {st : List Value} {w : Bool} {h : xH} {r : xR} {dflt lo hi : Int} {offs : Array Int} {len : Nat} {x : Int32} {off : Int} (tgt : Nat) (hd : decode M.2.1 pc = .ok (.tableswitch dflt lo hi offs, len)) (h1 : ¬ x.toInt < lo) (h2 : ¬ hi < x.toInt) (ho : offs[(x.toInt - lo).toNat]? = some off) (ht : (pc : Int) + off = (tgt : Int)) (k : xG E d M tgt lv st w h r) : xG E d M pc lv (.int x :: st) w h r :=
  k.go fun hX hl k' => lv_tableIn hX.1.1 hX.1.2.1 hd h1 h2 ho ht (k' _ hl)
theorem x_tableOut {E : xE} {d : Nat} {M : xM} {pc : Nat} {lv : xL} {st : List Value} {w : Bool} {h : xH} {r : xR} {dflt lo hi : Int} {offs : Array Int} {len : Nat} {x : Int32} (tgt : Nat) (hd : decode M.2.1 pc = .ok (.tableswitch dflt lo hi offs, len)) (h1 : x.toInt < lo ∨ hi < x.toInt) (ht : (pc : Int) + dflt = (tgt : Int)) (k : xG E d M tgt lv st w h r) : xG E d M pc lv (.int x :: st) w h r :=
  k.go fun hX hl k' => lv_tableOut hX.1.1 hX.1.2.1 hd h1 ht (k' _ hl)
end
section
theorem xwords {E : xE} {M : xM} {p : Program} {e : Env} {s : State} {mid : MethodId} {args : Array Value} {meth : Method} {c : Code} (hX : xX E M p e s mid args meth c) {w : Cond} (hw : w ∈ lw_tbl) (hp : xper w = true) : w.before args s = true := hX.2.2.1 w hw hp
/-- the words of a field as a class's code names it: number of the pool, class, place, type, final -/
def xF (own : String) (idx ci k : Nat) (ty : FieldType) (fin : Bool) : Prop := ∃ (C : String) (T : u_T) (N : Nat) (t0 : Nat → FieldType), classes[ci]? = some (C, T, N) ∧ (∀ w ∈ u_ws C T N, w ∈ lw_tbl ∧ xper w = true) ∧ (∀ k, k < N → parseFieldDescriptor (T k).2.2.1 = some (t0 k)) ∧ (∀ a, a < N → ∀ b, b < N → a ≠ b → (T a).2.1 ≠ (T b).2.1) ∧ k < N ∧ t0 k = ty ∧ (T k).2.2.2 = fin ∧ (T k).1 = own ∧ Cond.fieldLink own idx (T k).1 (T k).2.1 (T k).2.2.1 ∈ lw_tbl ∧ xper (Cond.fieldLink own idx (T k).1 (T k).2.1 (T k).2.2.1) = true
theorem x_get {E : xE} {d : Nat} {M : xM} {pc : Nat} {lv : xL} {st : List Value} {w : Bool} {h : xH} {r : xR} {idx ci k : Nat} {ty : FieldType} {fin : Bool} {a : Nat} {fs : List Value} {v : Value} (hF : xF M.1.cls idx ci k ty fin) (hd : decode M.2.1 pc = .ok (.getfield idx, 3)) (ha : h.1 a = some (.inr (ci, fs))) (hv : fs[k]? = some v) (kk : xG E d M (pc + 3) lv (v :: st) w h r) : xG E d M pc lv (.ref a :: st) w h r := by
  refine ⟨kk.1, fun p e R s mid args below meth c H locs cells slots ls hX hI hl hlo hw hR hc hs => ?_⟩
  obtain ⟨C, T, N, t0, hcl, hwd, hty, hnm, hk, -, -, -, hlk, hlp⟩ := hF
  have hts : ∀ w ∈ u_ws C T N, w.before args s = true := fun w hh => xwords hX (hwd w hh).1 (hwd w hh).2
  have hP : va_P E.2.1 classes [(a, .inr (ci, fs))] H := fun i q hq => by
    cases i with
    | zero => cases hq; exact hI.2.2.2.1 a _ ha
    | succ i => simp at hq
  exact va_get (D := E.2.1) (ci := ci) (v := v) (C := C) (T := T) (N := N) hX.1.1 hX.1.2.1 hts (fun _ hh => hh) hX.2.1.1 hX.2.2.2.1 hP 0 rfl hcl k hk (xwords hX hlk hlp) (fun _ h9 => h9) hv hd (kk.2 p e R s mid args below meth c H locs cells slots ls hX hI hl hlo hw hR hc hs)
theorem x_put {E : xE} {d : Nat} {M : xM} {pc : Nat} {lv : xL} {st : List Value} {w : Bool} {h : xH} {r : xR} {idx ci k : Nat} {ty : FieldType} {a : Nat} {fs : List Value} {v : Value} (hF : xF M.1.cls idx ci k ty false) (hd : decode M.2.1 pc = .ok (.putfield idx, 3)) (ha : h.1 a = some (.inr (ci, fs))) (hb : E.2.2.1 ≤ a) (hn : narrow ty v = v) (hfit : fits ty v = true) (hlen : k < fs.length) (kk : xG E d M (pc + 3) lv st true (xset h a (.inr (ci, fs.set k v))) r) : xG E d M pc lv (v :: .ref a :: st) w h r := by
  refine ⟨kk.1, fun p e R s mid args below meth c H locs cells slots ls hX hI hl hlo hw hR hc hs => ?_⟩
  obtain ⟨C, T, N, t0, hcl, hwd, hty, hnm, hk, htk, hfin, -, hlk, hlp⟩ := hF
  have hts : ∀ w ∈ u_ws C T N, w.before args s = true := fun w hh => xwords hX (hwd w hh).1 (hwd w hh).2
  have hK := hX.2.2.2.1
  have hap := va_apart (own := C) hts (fun _ hh => hh) t0 hty hnm hK hcl
  obtain ⟨r0, h1, cell, q1, q2, q3, q4⟩ := hI.2.2.2.1 a _ ha
  have hr : r0 = (C, T, N) := Option.some.inj (h1.symm.trans hcl)
  subst hr
  obtain ⟨hS, hfc, kC, hkC, hkind⟩ := hK.1 ci _ hcl
  obtain ⟨cf, kf, fi, f, hi, hsl⟩ := hS k hk
  have hlay := hts _ (u_in_lay hk)
  unfold u_lay at hlay
  rw [if_neg (by rw [hfin]; decide)] at hlay
  have hst := (u_facts hfc hkC (u_lays hts (fun _ hh => hh) hk) hi).1
  have h6 := u_store hfc hkC hkind hlay hi (by rw [hty k hk, htk]) hn hfit
  refine W.putK hX.1.1 hX.1.2.1 (f := f) ⟨hX.2.1.1, xwords hX hlk hlp, ⟨_, _, _, hi⟩, hst⟩ (by rw [q2]; exact h6) q1 q3 (by rw [hsl]; exact k2_hasslot (q4 k hk)) rfl rfl hd fun H' e1 e2 e3 => ?_
  rw [hsl] at e1 ⊢
  refine kk.2 p e R s mid args below meth c H' _ cells slots ls hX (hI.put hb ⟨_, hcl, t_OB.to (V := updV (vp_V fs) k v) ⟨_, e1, q2, q3, t_set q4 hap hk v⟩ (fun j _ => vp_updV_set hlen v j)⟩ (fun cell' hc' => ?_) e2 e3) hl ?_ (fun hq => by cases hq) hR hc hs
  · rw [e1] at hc'
    cases hc'
    show cell.vm.isStatics = false
    rw [q3]; rfl
  · intro q hq
    rcases List.mem_append.mp hq with hq | hq
    · exact hlo q hq
    · rw [List.mem_singleton.mp hq]; exact hb
theorem x_putF {E : xE} {d : Nat} {M : xM} {pc : Nat} {lv : xL} {st : List Value} {w : Bool} {h : xH} {r : xR} {idx ci k : Nat} {ty : FieldType} {a : Nat} {fs : List Value} {v : Value} (hF : xF M.1.cls idx ci k ty true) (hin2 : M.1.name = "<init>") (hd : decode M.2.1 pc = .ok (.putfield idx, 3)) (ha : h.1 a = some (.inr (ci, fs))) (hb : E.2.2.1 ≤ a) (hn : narrow ty v = v) (hfit : fits ty v = true) (hlen : k < fs.length) (kk : xG E d M (pc + 3) lv st true (xset h a (.inr (ci, fs.set k v))) r) : xG E d M pc lv (v :: .ref a :: st) w h r := by
  refine ⟨kk.1, fun p e R s mid args below meth c H locs cells slots ls hX hI hl hlo hw hR hc hs => ?_⟩
  obtain ⟨C, T, N, t0, hcl, hwd, hty, hnm, hk, htk, hfin, hdecl, hlk, hlp⟩ := hF
  have hts : ∀ w ∈ u_ws C T N, w.before args s = true := fun w hh => xwords hX (hwd w hh).1 (hwd w hh).2
  have hK := hX.2.2.2.1
  have hown := hX.2.1.1
  have hap := va_apart (own := C) hts (fun _ hh => hh) t0 hty hnm hK hcl
  obtain ⟨r0, h1, cell, q1, q2, q3, q4⟩ := hI.2.2.2.1 a _ ha
  have hr : r0 = (C, T, N) := Option.some.inj (h1.symm.trans hcl)
  subst hr
  obtain ⟨hS, hfc, kC, hkC, hkind⟩ := hK.1 ci _ hcl
  obtain ⟨cf, kf, fi, f, hi, hsl⟩ := hS k hk
  have hlay := hts _ (u_in_lay hk)
  unfold u_lay at hlay
  rw [if_pos hfin] at hlay
  have hst := (u_facts hfc hkC (u_lays hts (fun _ hh => hh) hk) hi).1
  have hcf : mid.cls = cf := by
    obtain ⟨_, _, c', _, _, _, -, -, hf', -, -, -, hown2, -⟩ := Cond.laysFinal_spec hlay
    have e1 : c' = cf := by have := hi.symm.trans hf'; simp at this; exact this.1.symm
    rw [hdecl] at hown2
    rw [← e1]; exact Option.some.inj (hown.symm.trans hown2)
  have h6 := u_fits hfc hkC hkind (Or.inr hlay) hi (by rw [hty k hk, htk]) hn hfit
  refine W.putFinK hX.1.1 hX.1.2.1 hown (xwords hX hlk hlp) hi hst hcf (hX.2.1.2.1.trans hin2) (by rw [q2]; exact h6) q1 q3 (by rw [hsl]; exact k2_hasslot (q4 k hk)) rfl rfl hd fun H' e1 e2 e3 => ?_
  rw [hsl] at e1 ⊢
  refine kk.2 p e R s mid args below meth c H' _ cells slots ls hX (hI.put hb ⟨_, hcl, t_OB.to (V := updV (vp_V fs) k v) ⟨_, e1, q2, q3, t_set q4 hap hk v⟩ (fun j _ => vp_updV_set hlen v j)⟩ (fun cell' hc' => ?_) e2 e3) hl ?_ (fun hq => by cases hq) hR hc hs
  · rw [e1] at hc'
    cases hc'
    show cell.vm.isStatics = false
    rw [q3]; rfl
  · intro q hq
    rcases List.mem_append.mp hq with hq | hq
    · exact hlo q hq
    · rw [List.mem_singleton.mp hq]; exact hb
theorem xnin {i : Int32} {j n : Nat} (hi : i = nI j) (hj : j < n) (hn : n < 2 ^ 31) : ¬ (i < 0 ∨ n ≤ i.toNatClampNeg) ∧ i.toNatClampNeg = j := by
  subst hi
  exact ⟨nI_in hj hn, nI_clamp (by omega)⟩
end
section
theorem x_iald {E : xE} {d : Nat} {M : xM} {pc : Nat} {lv : xL} {st : List Value} {w : Bool} {h : xH} {r : xR} {a n : Nat} {i : Int32} {f : Nat → Int32} (j : Nat) (hd : decode M.2.1 pc = .ok (.iaload, 1)) (ha : h.1 a = some (.inl (.int, n, .inl f))) (hi : i = nI j) (hj : j < n) (hn : n < 2 ^ 31) (kk : xG E d M (pc + 1) lv (.int (f j) :: st) w h r) : xG E d M pc lv (.int i :: .ref a :: st) w h r := by
  refine ⟨kk.1, fun p e R s mid args below meth c H locs cells slots ls hX hI hl hlo hw hR hc hs => ?_⟩
  obtain ⟨cell, h1, h2, h3, h4, h5, -⟩ := hI.2.2.2.1 a _ ha
  obtain ⟨g1, g2⟩ := xnin hi hj hn
  exact W.iald hX.1.1 hX.1.2.1 h1 h2 h3 (by rw [h4]; exact g1) (by rw [g2]; exact h5 j hj) rfl rfl hd (kk.2 p e R s mid args below meth c H locs cells slots ls hX hI hl hlo hw hR hc hs)
theorem x_lald {E : xE} {d : Nat} {M : xM} {pc : Nat} {lv : xL} {st : List Value} {w : Bool} {h : xH} {r : xR} {a n : Nat} {i : Int32} {f : Nat → Int64} (j : Nat) (hd : decode M.2.1 pc = .ok (.laload, 1)) (ha : h.1 a = some (.inl (.long, n, .inr (.inl f)))) (hi : i = nI j) (hj : j < n) (hn : n < 2 ^ 31) (kk : xG E d M (pc + 1) lv (.long (f j) :: st) w h r) : xG E d M pc lv (.int i :: .ref a :: st) w h r := by
  refine ⟨kk.1, fun p e R s mid args below meth c H locs cells slots ls hX hI hl hlo hw hR hc hs => ?_⟩
  obtain ⟨cell, h1, h2, h3, h4, h5, -⟩ := hI.2.2.2.1 a _ ha
  obtain ⟨g1, g2⟩ := xnin hi hj hn
  exact W.lald hX.1.1 hX.1.2.1 h1 h2 h3 (by rw [h4]; exact g1) (by rw [g2]; exact h5 j hj) rfl rfl hd (kk.2 p e R s mid args below meth c H locs cells slots ls hX hI hl hlo hw hR hc hs)
theorem x_zald {E : xE} {d : Nat} {M : xM} {pc : Nat} {lv : xL} {st : List Value} {w : Bool} {h : xH} {r : xR} {a n : Nat} {i : Int32} {f : Nat → Int32} (j : Nat) (hd : decode M.2.1 pc = .ok (.baload, 1)) (ha : h.1 a = some (.inl (.boolean, n, .inl f))) (hi : i = nI j) (hj : j < n) (hn : n < 2 ^ 31) (kk : xG E d M (pc + 1) lv (.int (f j) :: st) w h r) : xG E d M pc lv (.int i :: .ref a :: st) w h r := by
  refine ⟨kk.1, fun p e R s mid args below meth c H locs cells slots ls hX hI hl hlo hw hR hc hs => ?_⟩
  obtain ⟨cell, h1, h2, h3, h4, h5, -⟩ := hI.2.2.2.1 a _ ha
  obtain ⟨g1, g2⟩ := xnin hi hj hn
  exact W.zald hX.1.1 hX.1.2.1 h1 h2 h3 (by rw [h4]; exact g1) (by rw [g2]; exact h5 j hj) rfl rfl hd (kk.2 p e R s mid args below meth c H locs cells slots ls hX hI hl hlo hw hR hc hs)
theorem x_aald {E : xE} {d : Nat} {M : xM} {pc : Nat} {lv : xL} {st : List Value} {w : Bool} {h : xH} {r : xR} {a n : Nat} {i : Int32} {f : Nat → Option Nat} {ty : FieldType} (j b : Nat) (hd : decode M.2.1 pc = .ok (.aaload, 1)) (ha : h.1 a = some (.inl (ty, n, .inr (.inr f)))) (hty : ty.isReference = true) (hf : f j = some b) (hi : i = nI j) (hj : j < n) (hn : n < 2 ^ 31) (kk : xG E d M (pc + 1) lv (.ref b :: st) w h r) : xG E d M pc lv (.int i :: .ref a :: st) w h r := by
  refine ⟨kk.1, fun p e R s mid args below meth c H locs cells slots ls hX hI hl hlo hw hR hc hs => ?_⟩
  obtain ⟨cell, h1, h2, h3, h4, h5, -⟩ := hI.2.2.2.1 a _ ha
  obtain ⟨g1, g2⟩ := xnin hi hj hn
  exact W.aald hX.1.1 hX.1.2.1 h1 h2 hty h3 (by rw [h4]; exact g1) (v := .ref b) (by rw [g2]; have h9 := h5 j hj; rw [h9]; simp [xval, hf, va_rf]) rfl rfl hd (kk.2 p e R s mid args below meth c H locs cells slots ls hX hI hl hlo hw hR hc hs)
theorem xstored {D : va_G} {U : State} {H1 : Heap} {a n j : Nat} {ty : FieldType} {f g : xA} {cell : Cell} {v : Value} (h2 : U.isArrayOf cell ty) (h3 : cell.vm ≠ .unknown) (h4 : cell.slots.size = n) (h5 : ∀ i, i < n → cell.slots[i]? = some (xval f i)) (h6 : xRA U cell.cls ty) (hj : j < n) (e1 : H1[a]? = some (cell.setSlot j v)) (hv : xval g j = v) (ho : ∀ i, i ≠ j → xval g i = xval f i) : xAt D U H1 a (.inl (ty, n, g)) := by
  refine ⟨_, e1, h2, h3, ?_, fun i hi => ?_, h6⟩
  · simp [Cell.setSlot, h4]
  · by_cases hij : i = j
    · subst hij
      simp [Cell.setSlot, h4, hi, hv]
    · simp only [Cell.setSlot, Array.getElem?_setIfInBounds, if_neg (Ne.symm hij)]
      rw [h5 i hi, ho i hij]
theorem x_iast {E : xE} {d : Nat} {M : xM} {pc : Nat} {lv : xL} {st : List Value} {w : Bool} {h : xH} {r : xR} {a n : Nat} {i : Int32} {f : Nat → Int32} {x : Int32} (j : Nat) (hd : decode M.2.1 pc = .ok (.iastore, 1)) (ha : h.1 a = some (.inl (.int, n, .inl (f)))) (hb : E.2.2.1 ≤ a) (hi : i = nI j) (hj : j < n) (hn : n < 2 ^ 31) (kk : xG E d M (pc + 1) lv st true (xset h a (.inl (.int, n, .inl (va_up f j x)))) r) : xG E d M pc lv (.int x :: .int i :: .ref a :: st) w h r := by
  refine ⟨kk.1, fun p e R s mid args below meth c H locs cells slots ls hX hI hl hlo hw hR hc hs => ?_⟩
  obtain ⟨cell, h1, h2, h3, h4, h5, h6⟩ := hI.2.2.2.1 a _ ha
  obtain ⟨g1, g2⟩ := xnin hi hj hn
  refine W.iast hX.1.1 hX.1.2.1 h1 h2 h3 (by rw [h4]; exact g1) rfl rfl hd (fun H' e1 e2 e3 => ?_)
  rw [g2] at e1 ⊢
  refine kk.2 p e R s mid args below meth c H' _ cells slots ls hX (hI.put hb (xstored h2 h3 h4 h5 h6 hj e1 (by simp [xval, va_up]) (fun i hij => by simp [xval, va_up, hij])) (fun cell' hc' => ?_) e2 e3) hl ?_ (fun hq => by cases hq) hR hc hs
  · rw [e1] at hc'
    cases hc'
    exact hI.2.2.2.2 a cell hb h1
  · intro q hq
    rcases List.mem_append.mp hq with hq | hq
    · exact hlo q hq
    · rw [List.mem_singleton.mp hq]; exact hb
theorem x_last {E : xE} {d : Nat} {M : xM} {pc : Nat} {lv : xL} {st : List Value} {w : Bool} {h : xH} {r : xR} {a n : Nat} {i : Int32} {f : Nat → Int64} {x : Int64} (j : Nat) (hd : decode M.2.1 pc = .ok (.lastore, 1)) (ha : h.1 a = some (.inl (.long, n, .inr (.inl (f))))) (hb : E.2.2.1 ≤ a) (hi : i = nI j) (hj : j < n) (hn : n < 2 ^ 31) (kk : xG E d M (pc + 1) lv st true (xset h a (.inl (.long, n, .inr (.inl (va_up f j x))))) r) : xG E d M pc lv (.long x :: .int i :: .ref a :: st) w h r := by
  refine ⟨kk.1, fun p e R s mid args below meth c H locs cells slots ls hX hI hl hlo hw hR hc hs => ?_⟩
  obtain ⟨cell, h1, h2, h3, h4, h5, h6⟩ := hI.2.2.2.1 a _ ha
  obtain ⟨g1, g2⟩ := xnin hi hj hn
  refine W.last hX.1.1 hX.1.2.1 h1 h2 h3 (by rw [h4]; exact g1) rfl rfl hd (fun H' e1 e2 e3 => ?_)
  rw [g2] at e1 ⊢
  refine kk.2 p e R s mid args below meth c H' _ cells slots ls hX (hI.put hb (xstored h2 h3 h4 h5 h6 hj e1 (by simp [xval, va_up]) (fun i hij => by simp [xval, va_up, hij])) (fun cell' hc' => ?_) e2 e3) hl ?_ (fun hq => by cases hq) hR hc hs
  · rw [e1] at hc'
    cases hc'
    exact hI.2.2.2.2 a cell hb h1
  · intro q hq
    rcases List.mem_append.mp hq with hq | hq
    · exact hlo q hq
    · rw [List.mem_singleton.mp hq]; exact hb
theorem x_zast {E : xE} {d : Nat} {M : xM} {pc : Nat} {lv : xL} {st : List Value} {w : Bool} {h : xH} {r : xR} {a n : Nat} {i : Int32} {f : Nat → Int32} {x : Int32} (j : Nat) (hd : decode M.2.1 pc = .ok (.bastore, 1)) (ha : h.1 a = some (.inl (.boolean, n, .inl (f)))) (hb : E.2.2.1 ≤ a) (hi : i = nI j) (hj : j < n) (hn : n < 2 ^ 31) (hx : narrow .boolean (.int x) = .int x) (kk : xG E d M (pc + 1) lv st true (xset h a (.inl (.boolean, n, .inl (va_up f j x)))) r) : xG E d M pc lv (.int x :: .int i :: .ref a :: st) w h r := by
  refine ⟨kk.1, fun p e R s mid args below meth c H locs cells slots ls hX hI hl hlo hw hR hc hs => ?_⟩
  obtain ⟨cell, h1, h2, h3, h4, h5, h6⟩ := hI.2.2.2.1 a _ ha
  obtain ⟨g1, g2⟩ := xnin hi hj hn
  refine W.zast hX.1.1 hX.1.2.1 h1 h2 h3 (by rw [h4]; exact g1) rfl rfl hd (fun H' e1 e2 e3 => ?_)
  rw [g2] at e1 ⊢
  rw [hx] at e1
  refine kk.2 p e R s mid args below meth c H' _ cells slots ls hX (hI.put hb (xstored h2 h3 h4 h5 h6 hj e1 (by simp [xval, va_up]) (fun i hij => by simp [xval, va_up, hij])) (fun cell' hc' => ?_) e2 e3) hl ?_ (fun hq => by cases hq) hR hc hs
  · rw [e1] at hc'
    cases hc'
    exact hI.2.2.2.2 a cell hb h1
  · intro q hq
    rcases List.mem_append.mp hq with hq | hq
    · exact hlo q hq
    · rw [List.mem_singleton.mp hq]; exact hb
theorem x_alen {E : xE} {d : Nat} {M : xM} {pc : Nat} {lv : xL} {st : List Value} {w : Bool} {h : xH} {r : xR} {a n : Nat} {ty : FieldType} {f : xA} (hd : decode M.2.1 pc = .ok (.arraylength, 1)) (ha : h.1 a = some (.inl (ty, n, f))) (kk : xG E d M (pc + 1) lv (.int (nI n) :: st) w h r) : xG E d M pc lv (.ref a :: st) w h r := by
  refine ⟨kk.1, fun p e R s mid args below meth c H locs cells slots ls hX hI hl hlo hw hR hc hs => ?_⟩
  obtain ⟨cell, h1, h2, h3, h4, h5, h6⟩ := hI.2.2.2.1 a _ ha
  exact W.alen (n := nI n) hX.1.1 hX.1.2.1 h1 h2 (by rw [h4]; rfl) rfl rfl hd (kk.2 p e R s mid args below meth c H locs cells slots ls hX hI hl hlo hw hR hc hs)
theorem x_newi {E : xE} {d : Nat} {M : xM} {pc : Nat} {lv : xL} {st : List Value} {w : Bool} {h : xH} {r : xR} {i : Int32} (n : Nat) (hd : decode M.2.1 pc = .ok (.newarray .int, 2)) (hcw : Cond.arrayClass .int ∈ lw_tbl) (hi : i = nI n) (hn : n ≤ 60000000) (kk : xG E d M (pc + 2) lv (.ref h.2.1 :: st) true (xadd h (.inl (.int, n, .inl (fun _ => 0))) n) r) : xG E d M pc lv (.int i :: st) w h r := by
  have hk1 := kk.1
  simp only [xadd_sz, xadd_us] at hk1
  refine ⟨⟨by omega, by omega⟩, fun p e R s mid args below meth c H locs cells slots ls hX hI hl hlo hw hR hc hs => ?_⟩
  subst hi
  refine W.newaK (atype := .int) (N := n) (h := h.2.1) hX.1.1 hX.1.2.1 (xwords hX hcw rfl) rfl hd rfl (nI_pos (by omega)) (nI_clamp (by omega)) (by simp [newarray.typeOf, componentBytes]; omega) (by omega) (by omega) hI.1 (fun H' cA e1 e2 e3 e4 => ?_)
  have kk2 := kk.2 p e R s mid args below meth c H' locs (cells + 1) (slots + n) ls hX (hI.new ⟨_, e1, e4 _ _, (by simp [arrV]), arrV_size _ _ _, (fun j hj => by simp [arrV, hj, xval, defaultValue, newarray.typeOf]), trivial⟩ (fun cell' hc' => by rw [e1] at hc'; cases hc'; rfl) e2 e3) hl hlo (fun hq => by cases hq) hR (by simp only [xadd_sz]; omega) (by simp only [xadd_us]; omega)
  simp only [xadd_sz, xadd_us] at kk2
  rw [show cells + (r.2.2.2.1 - h.2.1) = cells + 1 + (r.2.2.2.1 - (h.2.1 + 1)) by omega, show slots + (r.2.2.2.2 - h.2.2) = slots + n + (r.2.2.2.2 - (h.2.2 + n)) by omega]
  exact kk2
theorem x_newl {E : xE} {d : Nat} {M : xM} {pc : Nat} {lv : xL} {st : List Value} {w : Bool} {h : xH} {r : xR} {i : Int32} (n : Nat) (hd : decode M.2.1 pc = .ok (.newarray .long, 2)) (hcw : Cond.arrayClass .long ∈ lw_tbl) (hi : i = nI n) (hn : n ≤ 60000000) (kk : xG E d M (pc + 2) lv (.ref h.2.1 :: st) true (xadd h (.inl (.long, n, .inr (.inl (fun _ => 0)))) n) r) : xG E d M pc lv (.int i :: st) w h r := by
  have hk1 := kk.1
  simp only [xadd_sz, xadd_us] at hk1
  refine ⟨⟨by omega, by omega⟩, fun p e R s mid args below meth c H locs cells slots ls hX hI hl hlo hw hR hc hs => ?_⟩
  subst hi
  refine W.newaK (atype := .long) (N := n) (h := h.2.1) hX.1.1 hX.1.2.1 (xwords hX hcw rfl) rfl hd rfl (nI_pos (by omega)) (nI_clamp (by omega)) (by simp [newarray.typeOf, componentBytes]; omega) (by omega) (by omega) hI.1 (fun H' cA e1 e2 e3 e4 => ?_)
  have kk2 := kk.2 p e R s mid args below meth c H' locs (cells + 1) (slots + n) ls hX (hI.new ⟨_, e1, e4 _ _, (by simp [arrV]), arrV_size _ _ _, (fun j hj => by simp [arrV, hj, xval, defaultValue, newarray.typeOf]), trivial⟩ (fun cell' hc' => by rw [e1] at hc'; cases hc'; rfl) e2 e3) hl hlo (fun hq => by cases hq) hR (by simp only [xadd_sz]; omega) (by simp only [xadd_us]; omega)
  simp only [xadd_sz, xadd_us] at kk2
  rw [show cells + (r.2.2.2.1 - h.2.1) = cells + 1 + (r.2.2.2.1 - (h.2.1 + 1)) by omega, show slots + (r.2.2.2.2 - h.2.2) = slots + n + (r.2.2.2.2 - (h.2.2 + n)) by omega]
  exact kk2
theorem x_newz {E : xE} {d : Nat} {M : xM} {pc : Nat} {lv : xL} {st : List Value} {w : Bool} {h : xH} {r : xR} {i : Int32} (n : Nat) (hd : decode M.2.1 pc = .ok (.newarray .boolean, 2)) (hcw : Cond.arrayClass .boolean ∈ lw_tbl) (hi : i = nI n) (hn : n ≤ 60000000) (kk : xG E d M (pc + 2) lv (.ref h.2.1 :: st) true (xadd h (.inl (.boolean, n, .inl (fun _ => 0))) n) r) : xG E d M pc lv (.int i :: st) w h r := by
  have hk1 := kk.1
  simp only [xadd_sz, xadd_us] at hk1
  refine ⟨⟨by omega, by omega⟩, fun p e R s mid args below meth c H locs cells slots ls hX hI hl hlo hw hR hc hs => ?_⟩
  subst hi
  refine W.newaK (atype := .boolean) (N := n) (h := h.2.1) hX.1.1 hX.1.2.1 (xwords hX hcw rfl) rfl hd rfl (nI_pos (by omega)) (nI_clamp (by omega)) (by simp [newarray.typeOf, componentBytes]; omega) (by omega) (by omega) hI.1 (fun H' cA e1 e2 e3 e4 => ?_)
  have kk2 := kk.2 p e R s mid args below meth c H' locs (cells + 1) (slots + n) ls hX (hI.new ⟨_, e1, e4 _ _, (by simp [arrV]), arrV_size _ _ _, (fun j hj => by simp [arrV, hj, xval, defaultValue, newarray.typeOf]), trivial⟩ (fun cell' hc' => by rw [e1] at hc'; cases hc'; rfl) e2 e3) hl hlo (fun hq => by cases hq) hR (by simp only [xadd_sz]; omega) (by simp only [xadd_us]; omega)
  simp only [xadd_sz, xadd_us] at kk2
  rw [show cells + (r.2.2.2.1 - h.2.1) = cells + 1 + (r.2.2.2.1 - (h.2.1 + 1)) by omega, show slots + (r.2.2.2.2 - h.2.2) = slots + n + (r.2.2.2.2 - (h.2.2 + n)) by omega]
  exact kk2
end
section
/-- the words of a method that may be called: its code, its class made ready -/
def xHas (N : xM) : Prop := plainFor N.1 = true ∧ ((N.2.2.2.2 = [] ∧ Cond.code N.1 N.2.1 N.2.2.1 N.2.2.2.1 ∈ lw_tbl) ∨ Cond.codeWith N.1 N.2.1 N.2.2.1 N.2.2.2.1 N.2.2.2.2 ∈ lw_tbl) ∧ N.2.2.1 ≤ 20 ∧ (N.1.cls ≠ "java/lang/invoke/MethodHandle" ∧ N.1.cls ≠ "java/lang/invoke/VarHandle")
/-- the method found at a state -/
def xFd (N : xM) (s : State) (mk : MethodId) (methk : Method) (ck : Code) : Prop :=
  s.methodNamed? N.1 = some mk ∧ s.vm.method? mk = some methk ∧ methk.code = some ck ∧ ck.code = N.2.1 ∧ ck.maxLocals = N.2.2.1 ∧ methk.sig.returnType = N.2.2.2.1 ∧ methk.locks = false ∧ ck.exceptionTable.toList.map (fun h => (h.startPc, h.endPc, h.handlerPc, h.catchType)) = N.2.2.2.2 ∧ parseMethodDescriptor N.1.desc = some methk.sig
theorem xHas.at {E : xE} {M N : xM} {p : Program} {e : Env} {s : State} {mid : MethodId} {args : Array Value} {meth : Method} {c : Code} (hN : xHas N) (hX : xX E M p e s mid args meth c) : ∃ mk methk ck, xFd N s mk methk ck := by
  obtain ⟨-, h, -⟩ := hN
  rcases h with ⟨h0, h⟩ | h
  · have hc := xwords hX h rfl
    obtain ⟨mk, hn⟩ := Cond.code_named hc
    obtain ⟨methk, ck, h1, h2, h3, h4, h5, h6, h7, h8⟩ := Cond.code_spec hn hc
    refine ⟨mk, methk, ck, hn, h1, h2, h3, h4, h5, h6, ?_, h8⟩
    have hz : ck.exceptionTable.size = 0 := by simpa [Array.isEmpty] using h7
    have : ck.exceptionTable.toList = [] := List.eq_nil_of_length_eq_zero (by simpa using hz)
    rw [this, h0]; rfl
  · have hc := xwords hX h rfl
    obtain ⟨mk, methk, ck, hn, h1, h2, h3, h4, h5, h6, h7, h8⟩ := Cond.codeWith_spec hc
    exact ⟨mk, methk, ck, hn, h1, h2, h3, h4, h6, h7, h5, h8⟩
/-- the invoking instruction's own step -/
def xInv (p : Program) (l : Launch) (e : Env) (R : Room) (s : State) (m : MethodId) (args : Array Value) (below : List Frame) (meth : Method) (c : Code) (H : Heap) (locs : List Loc) (cells slots : Nat) (g : JFrame) (rest : List Value) (mk : MethodId) (as : Array Value) : Prop :=
  ∀ T : State, T.heap = H → Stand p l e R s m args below meth c T locs cells slots → ∃ vm₁, Stand p l e R s m args below meth c (T.setVm vm₁) locs cells slots ∧
    ∀ target, (∀ acts, Steps p.tables e below (doInvoke e ((T.setVm vm₁).setTop { g with stack := rest }) acts mk as).1 target) → Steps p.tables e below (T.setTop g) target
theorem xX.callee {E : xE} {M N : xM} {p : Program} {e : Env} {s U : State} {mid mk : MethodId} {args as : Array Value} {meth methk : Method} {c ck : Code} (hX : xX E M p e s mid args meth c) (hF : xFd N s mk methk ck) (hW : s.WarmedH U.vm) (hh : ∀ q : Nat, q < E.2.2.1 → U.heap[q]? = E.2.2.2[q]?) (hh2 : ∀ (q : Nat) (cell : Cell), E.2.2.1 ≤ q → U.heap[q]? = some cell → cell.vm.isStatics = false) : xX E N p e U mk as methk ck := by
  obtain ⟨f1, f2, f3, f4, f5, f6, f7, f8, f9⟩ := hF
  refine ⟨⟨hX.1.1, f4, f5, f6, f7⟩, ⟨?_, (name_of_methodNamed f1 f2).1, f8⟩, fun w hw hp => xper_keep hW hp (hX.2.2.1 w hw hp), va_K.moved hW.alike hX.2.2.2.1, hX.2.2.2.2.1, xZ_moved hW.alike hh hh2 hX.2.2.2.2.2⟩
  rw [hW.alike.findClass]
  exact findClass_of_methodNamed f1
theorem xweak {tb : Tables} {e : Env} {f : Frame} {below : List Frame} {s t : State} (h : Steps tb e (f :: below) s t) : Steps tb e below s t := by
  obtain ⟨n, hn, hw⟩ := h
  exact ⟨n, hn, fun k hk => Within.weaken (mid := [f]) (hw k hk)⟩
set_option maxHeartbeats 1000000 in
/-- inside the callee and back: what it comes to -/
theorem xcall {E : xE} {d : Nat} {M N : xM} {pc len : Nat} {ls : Array Slot} {st rest as : List Value} {h : xH} {r1 : xR} {p : Program} {e : Env} {R : Room} {s : State} {mid : MethodId} {args : Array Value} {below : List Frame} {meth : Method} {c : Code} {H : Heap} {locs : List Loc} {cells slots : Nat} {ig : Instr} {mk : MethodId} {methk : Method} {ck : Code}
    (hX : xX E M p e s mid args meth c) (hI : xI E s h H) (hls : ls.size = M.2.2.1) (hR : d + 1 + 5 ≤ R.frames ∧ 40 * (d + 1) + 120 ≤ R.locals) (hc : cells + (r1.2.2.2.1 - h.2.1) ≤ R.cells) (hs : slots + (r1.2.2.2.2 - h.2.2) ≤ R.slots)
    (hN : xHas N) (hF : xFd N s mk methk ck) (hinv : xInv p E.1 e R s mid args below meth c H locs cells slots (F0 mid pc ls st) rest mk as.toArray) (hdg : decode M.2.1 pc = .ok (ig, len)) (hlen : (lg_sl as).length ≤ N.2.2.1) (hrest : (rest.map fun v => v.category).sum ≤ 8)
    (hG : xG E d N 0 (lv_args 0 as) [] false h r1) (T : State) (hT : T.heap = H) (X : Stand p E.1 e R s mid args below meth c T locs cells slots) :
    ∃ (T' : State) (L : List Loc), Stand p E.1 e R s mid args below meth c T' (locs ++ L) (cells + (r1.2.2.2.1 - h.2.1)) (slots + (r1.2.2.2.2 - h.2.2)) ∧ (∀ q ∈ L, E.2.2.1 ≤ q.base) ∧ (r1.1 = false → L = [] ∧ T'.heap = H) ∧ xI E s r1.2.2 T'.heap ∧
      match r1.2.1 with
      | .inl v => ∀ target, Steps p.tables e below (T'.setTop (F0 mid (pc + len) ls (v.toList ++ rest))) target → Steps p.tables e below (T.setTop (F0 mid pc ls st)) target
      | .inr x => (∃ cell : Cell, T'.heap[x.2]? = some cell ∧ T'.vm.findClass x.1 = some cell.cls ∧ cell.vm.isStatics = false) ∧ ∀ target, Steps p.tables e below ((T'.setTop (F0 mid pc ls rest)).pushFrame (.throwing x.2)) target → Steps p.tables e below (T.setTop (F0 mid pc ls st)) target := by
  obtain ⟨vm₁, X₁, hst⟩ := hinv T hT X
  have hW₁ : s.WarmedH vm₁ := X₁.warmed
  have hdg' : decode c.code (F0 mid pc ls rest).pc = .ok (ig, len) := by rw [hX.1.2.1]; exact hdg
  have hmk : (T.setVm vm₁).vm.method? mk = some methk := by
    show vm₁.method? mk = some methk
    rw [hW₁.alike.method?]; exact hF.2.1
  have hnk : (T.setVm vm₁).methodNamed? N.1 = some mk := X₁.named hF.1
  have hpk : (T.setVm vm₁).plainMethod mk := State.plainMethod.of_named hN.1 hnk hmk
  have hsize : (F0 mid pc ls rest).locals.size = c.maxLocals := by rw [hX.1.2.2.1]; exact hls
  have hmr : 2 * (F0 mid pc ls rest).monitorRoom + (rest.map fun v => v.category).sum ≤ 8 := lv_room hrest
  have hckl : ck.maxLocals ≤ 20 := by rw [hF.2.2.2.2.1]; exact hN.2.2.1
  obtain ⟨Y, hY⟩ := X₁.into (g := F0 mid pc ls rest) rfl hsize hdg' (mk := mk) (methk := methk) (ck := ck) as.toArray (R' := { frames := d + 5, cells := r1.2.2.2.1 - h.2.1, slots := r1.2.2.2.2 - h.2.2, locals := 40 * d + 120 }) hmk hF.2.2.1 hF.2.2.2.2.2.2.1 hpk (by show d + 5 + 1 ≤ R.frames; omega) (by show 2 * (F0 mid pc ls rest).monitorRoom + (rest.map fun v => v.category).sum + (ck.maxLocals + 11) + (40 * d + 120) ≤ R.locals; omega) hc hs
  have hX2 : xX E N p e ((T.setVm vm₁).calling (F0 mid pc ls rest) mk as.toArray) mk as.toArray methk ck := hX.callee hF (show s.WarmedH vm₁ from hW₁) (fun q hq => by show T.heap[q]? = _; rw [hT]; exact hI.2.2.1 q hq) (fun q cell hq hcell => hI.2.2.2.2 q cell hq (by rw [← hT]; exact hcell))
  have hI2 : xI E ((T.setVm vm₁).calling (F0 mid pc ls rest) mk as.toArray) h H := hI.moved (show s.vm.Alike vm₁ from hW₁.alike)
  have hlv := lv_entry as (n := N.2.2.1) hlen
  have hwalk := hG.2 p e { frames := d + 5, cells := r1.2.2.2.1 - h.2.1, slots := r1.2.2.2.2 - h.2.2, locals := 40 * d + 120 } _ mk as.toArray (.java (F0 mid pc ls rest) :: below) methk ck H [] 0 0 _ hX2 hI2 hlv (fun q hq => by cases hq) (fun _ => ⟨rfl, hT.symm⟩) ⟨Nat.le_refl _, Nat.le_refl _⟩ (by simp) (by simp)
  rw [← lg_entry_eq, ← hF.2.2.2.2.1] at hwalk
  obtain ⟨t, hsteps, hrun, o, hend, hout, hWt, hIt, L, hsame, hLb, hpure⟩ := hwalk _ (show (((T.setVm vm₁).setTop (F0 mid pc ls rest)).pushFrame (Frame.java (entryFrame mk as.toArray ck.maxLocals))).heap = H from hT) Y
  simp only [Nat.zero_add] at hsame
  obtain ⟨w1, o1, h1⟩ := r1
  cases o1 with
  | inl v =>
    have ho : o = .returned v := hout
    subst ho
    obtain ⟨T', X', hWT, -, ht⟩ := X₁.outOf (g := F0 mid pc ls rest) rfl hdg' hend hWt hsame
    have hheap : t.heap = T'.heap := by rw [ht]; rfl
    have hvm : t.vm = T'.vm := by rw [ht]; rfl
    refine ⟨T', L, X', hLb, fun hf => ⟨(hpure hf).1, by rw [← hheap, (hpure hf).2]; exact hT⟩, ?_, fun target htg => hst target fun acts => ?_⟩
    · rw [← hheap]
      exact hIt.moved (by rw [hvm]; exact X'.warmed.alike.symm)
    · rw [hY acts]
      exact (xweak hsteps).trans (by rw [ht]; exact htg)
  | inr x =>
    obtain ⟨ho, cell, k1, k2, k3⟩ := hout
    subst ho
    obtain ⟨T', X', hWT, -, ht⟩ := X₁.outOfThrown (g := F0 mid pc ls rest) rfl hend hWt hsame
    have hheap : t.heap = T'.heap := by rw [ht]; rfl
    have hvm : t.vm = T'.vm := by rw [ht]; rfl
    refine ⟨T', L, X', hLb, fun hf => ⟨(hpure hf).1, by rw [← hheap, (hpure hf).2]; exact hT⟩, ?_, ⟨cell, by rw [← hheap]; exact k1, by rw [← hvm]; exact k2, k3⟩, fun target htg => hst target fun acts => ?_⟩
    · rw [← hheap]
      exact hIt.moved (by rw [hvm]; exact X'.warmed.alike.symm)
    · rw [hY acts]
      exact (xweak hsteps).trans (by rw [ht]; exact htg)
/-- a call that returns -/
theorem xG.ret {E : xE} {d : Nat} {M N : xM} {pc : Nat} {lv : xL} {st rest as : List Value} {w w1 : Bool} {h h1 : xH} {v : Option Value} {r : xR} {ig : Instr} (hN : xHas N) (hdg : decode M.2.1 pc = .ok (ig, 3)) (hlen : (lg_sl as).length ≤ N.2.2.1) (hrest : (rest.map fun v => v.category).sum ≤ 8)
    (hinv : ∀ {p : Program} {e : Env} {R : Room} {s : State} {mid : MethodId} {args : Array Value} {below : List Frame} {meth : Method} {c : Code} {H : Heap} {locs : List Loc} {cells slots : Nat} {ls : Array Slot} {mk : MethodId} {methk : Method} {ck : Code}, xX E M p e s mid args meth c → xI E s h H → xFd N s mk methk ck → xInv p E.1 e R s mid args below meth c H locs cells slots (F0 mid pc ls st) rest mk as.toArray)
    (hG : xG E d N 0 (lv_args 0 as) [] false h (w1, .inl v, h1)) (k : xG E (d + 1) M (pc + 3) lv (v.toList ++ rest) (w || w1) h1 r) : xG E (d + 1) M pc lv st w h r := by
  have m1 := hG.1
  have m2 := k.1
  dsimp only at m1
  refine ⟨⟨by omega, by omega⟩, fun p e R s mid args below meth c H locs cells slots ls hX hI hl hlo hw hR hc hs => ?_⟩
  obtain ⟨mk, methk, ck, hF⟩ := hN.at hX
  intro T hT X
  obtain ⟨T', L, X', hL, hpu, hI', hst⟩ := xcall hX hI hl.1 hR (by dsimp only; omega) (by dsimp only; omega) hN hF (hinv hX hI hF) hdg hlen hrest hG T hT X
  dsimp only at X' hst
  have kk := k.2 p e R s mid args below meth c T'.heap (locs ++ L) (cells + (h1.2.1 - h.2.1)) (slots + (h1.2.2 - h.2.2)) ls hX hI' hl (fun q hq => (List.mem_append.mp hq).elim (hlo q) (hL q)) (fun hf => by
    rw [Bool.or_eq_false_iff] at hf
    obtain ⟨e1, e2⟩ := hw hf.1
    obtain ⟨e3, e4⟩ := hpu hf.2
    exact ⟨by rw [e1, e3]; rfl, e4.trans e2⟩) hR (by omega) (by omega)
  obtain ⟨t, a1, b1⟩ := kk T' rfl X'
  refine ⟨t, hst t a1, ?_⟩
  rw [show cells + (r.2.2.2.1 - h.2.1) = cells + (h1.2.1 - h.2.1) + (r.2.2.2.1 - h1.2.1) by omega, show slots + (r.2.2.2.2 - h.2.2) = slots + (h1.2.2 - h.2.2) + (r.2.2.2.2 - h1.2.2) by omega]
  exact b1
/-- a call that throws, in a method without handlers -/
theorem xG.thr {E : xE} {d : Nat} {M N : xM} {pc : Nat} {lv : xL} {st rest as : List Value} {w w1 : Bool} {h h1 : xH} {x : String × Nat} {ig : Instr} (hM : M.2.2.2.2 = []) (hN : xHas N) (hdg : decode M.2.1 pc = .ok (ig, 3)) (hlen : (lg_sl as).length ≤ N.2.2.1) (hrest : (rest.map fun v => v.category).sum ≤ 8)
    (hinv : ∀ {p : Program} {e : Env} {R : Room} {s : State} {mid : MethodId} {args : Array Value} {below : List Frame} {meth : Method} {c : Code} {H : Heap} {locs : List Loc} {cells slots : Nat} {ls : Array Slot} {mk : MethodId} {methk : Method} {ck : Code}, xX E M p e s mid args meth c → xI E s h H → xFd N s mk methk ck → xInv p E.1 e R s mid args below meth c H locs cells slots (F0 mid pc ls st) rest mk as.toArray)
    (hG : xG E d N 0 (lv_args 0 as) [] false h (w1, .inr x, h1)) : xG E (d + 1) M pc lv st w h (true, .inr x, h1) := by
  refine ⟨hG.1, fun p e R s mid args below meth c H locs cells slots ls hX hI hl hlo hw hR hc hs => ?_⟩
  obtain ⟨mk, methk, ck, hF⟩ := hN.at hX
  intro T hT X
  obtain ⟨T', L, X', hL, hpu, hI', ⟨cell, k1, k2, k3⟩, hst⟩ := xcall (r1 := (w1, .inr x, h1)) hX hI hl.1 hR hc hs hN hF (hinv hX hI hF) hdg hlen hrest hG T hT X
  have hnone : c.exceptionTable.toList = [] := by
    have := hX.2.1.2.2
    rw [hM] at this
    simpa using this
  obtain ⟨w1, w2, w3, w4, w5⟩ := X'.leaveThrown x.2 (g := F0 mid pc ls rest) rfl rfl rfl (by rw [hnone]; intro y hy; cases hy) (hlocks := hX.1.2.2.2.2)
  refine ⟨_, hst _ w1, w2, _, w3, ⟨rfl, cell, k1, k2, k3⟩, w4, ?_, _, w5, fun q hq => (List.mem_append.mp hq).elim (hlo q) (hL q), fun hf => by cases hf⟩
  exact hI'.moved (show s.vm.Alike (T'.setFrames _).vm from w4.alike)
theorem xinv_V {E : xE} {M N : xM} {pc idx ci : Nat} {rest as : List Value} {b : Nat} {fs : List Value} {h : xH} {p : Program} {e : Env} {R : Room} {s : State} {mid : MethodId} {args : Array Value} {below : List Frame} {meth : Method} {c : Code} {H : Heap} {locs : List Loc} {cells slots : Nat} {ls : Array Slot} {mk : MethodId} {methk : Method} {ck : Code}
    (hdg : decode M.2.1 pc = .ok (.invokevirtual idx, 3)) (hlk : Cond.methodLink M.1.cls idx N.1 ∈ lw_tbl) (hin : Cond.instanceMethod N.1 ∈ lw_tbl) (hse : Cond.selects N.1.cls N.1 N.1 ∈ lw_tbl) (hN : xHas N) (hb : h.1 b = some (.inr (ci, fs))) (hci : (classes[ci]?).map (fun q => q.1) = some N.1.cls) (hn : (parseMethodDescriptor N.1.desc).map (fun q => q.parameters.length) = some as.length)
    (hX : xX E M p e s mid args meth c) (hI : xI E s h H) (hF : xFd N s mk methk ck) : xInv p E.1 e R s mid args below meth c H locs cells slots (F0 mid pc ls (as.reverse ++ .ref b :: rest)) rest mk (.ref b :: as).toArray := by
  intro T hT X
  obtain ⟨r0, h1, cell, q1, q2, q3, q4⟩ := hI.2.2.2.1 b _ hb
  have hcl : r0.1 = N.1.cls := by
    rw [h1] at hci
    exact Option.some.inj hci
  have hfc : s.vm.findClass N.1.cls = some cell.cls := by
    rw [q2, ← hcl]
    exact (hX.2.2.2.1.1 ci _ h1).2.1
  obtain ⟨f1, f2, f3, f4, f5, f6, f7, f8, f9⟩ := hF
  obtain ⟨mk', methM, hnamed, hmethM, hstM, habM⟩ := Cond.instanceMethod_spec (xwords hX hin rfl)
  cases f1.symm.trans hnamed
  cases f2.symm.trans hmethM
  obtain ⟨c2, r2, m2, g1, g2, g3, g4, kP, hkP, hkPi⟩ := Cond.selects_spec (xwords hX hse rfl)
  cases hfc.symm.trans g1
  cases (State.methodFound?_of_named f1 hN.2.2.2).symm.trans g2
  cases f1.symm.trans g3
  have hselP : selectMethod e.platform s.vm cell.cls mk = .method mk := by rw [Launch.admits_selectMethod X.admits]; exact g4
  obtain ⟨vm₁, X₁, hstep₁⟩ := X.invokevirtual hX.1.1 hX.2.1.1 (xwords hX hlk rfl) f1 f2 hstM hkP hkPi hN.2.2.2 (a := b) (cell := cell) (by rw [hT]; exact q1)
    (fun z hz => by rw [q3] at hz; cases hz) hselP f2 habM hkP hkPi (g := F0 mid pc ls (as.reverse ++ .ref b :: rest)) rfl (argsL := as) (rest := rest) (by rw [f9] at hn; exact (Option.some.inj hn).symm) rfl (by rw [hX.1.2.1]; exact hdg)
  exact ⟨vm₁, X₁, hstep₁⟩
theorem xinv_S {E : xE} {M N : xM} {pc idx : Nat} {rest as : List Value} {p : Program} {e : Env} {R : Room} {s : State} {mid : MethodId} {args : Array Value} {below : List Frame} {meth : Method} {c : Code} {H : Heap} {locs : List Loc} {cells slots : Nat} {ls : Array Slot} {mk : MethodId} {methk : Method} {ck : Code}
    (hdg : decode M.2.1 pc = .ok (.invokestatic idx, 3)) (hlk : Cond.methodLink M.1.cls idx N.1 ∈ lw_tbl) (hst : Cond.static N.1 ∈ lw_tbl) (hini : Cond.initialized N.1.cls ∈ lw_tbl) (hN : xHas N) (hn : (parseMethodDescriptor N.1.desc).map (fun q => q.parameters.length) = some as.length)
    (hX : xX E M p e s mid args meth c) (hF : xFd N s mk methk ck) : xInv p E.1 e R s mid args below meth c H locs cells slots (F0 mid pc ls (as.reverse ++ rest)) rest mk as.toArray := by
  intro T hT X
  obtain ⟨f1, f2, f3, f4, f5, f6, f7, f8, f9⟩ := hF
  have hstatic : methk.isStatic = true := Cond.static_spec f1 f2 (xwords hX hst rfl)
  obtain ⟨kP, hkP, -⟩ := className_of_methodNamed f1
  have hinitP : kP.init = .initialized := Cond.initialized_spec (findClass_of_methodNamed f1) hkP (xwords hX hini rfl)
  obtain ⟨vm₁, X₁, hstep₁⟩ := X.invokestatic hX.1.1 hX.2.1.1 (xwords hX hlk rfl) f1 f2 hstatic hkP hinitP hN.2.2.2 (g := F0 mid pc ls (as.reverse ++ rest)) rfl (argsL := as) (rest := rest) (by rw [f9] at hn; exact (Option.some.inj hn).symm) rfl (by rw [hX.1.2.1]; exact hdg)
  exact ⟨vm₁, X₁, hstep₁⟩
theorem xinv_I {E : xE} {M N : xM} {pc idx : Nat} {rest as : List Value} {b : Nat} {p : Program} {e : Env} {R : Room} {s : State} {mid : MethodId} {args : Array Value} {below : List Frame} {meth : Method} {c : Code} {H : Heap} {locs : List Loc} {cells slots : Nat} {ls : Array Slot} {mk : MethodId} {methk : Method} {ck : Code}
    (hdg : decode M.2.1 pc = .ok (.invokespecial idx, 3)) (hlk : Cond.methodLink M.1.cls idx N.1 ∈ lw_tbl) (hin : Cond.instanceMethod N.1 ∈ lw_tbl) (hname : N.1.name = "<init>") (hcw : Cond.code N.1 N.2.1 N.2.2.1 none ∈ lw_tbl) (hN : xHas N) (hn : (parseMethodDescriptor N.1.desc).map (fun q => q.parameters.length) = some as.length)
    (hX : xX E M p e s mid args meth c) (hF : xFd N s mk methk ck) : xInv p E.1 e R s mid args below meth c H locs cells slots (F0 mid pc ls (as.reverse ++ .ref b :: rest)) rest mk (.ref b :: as).toArray := by
  intro T hT X
  have hpl : e.platform.magicAccessors = ({} : Platform).magicAccessors := by rw [X.admits.platform]
  obtain ⟨tm, methM, cM, kP, vm₁, hnamed, hmethM, hcodeM, -, hlocalsM, -, hkP, -, hW₁, hstep₁⟩ := Steps.initColdArgs (e := e) X.here hX.1.1 X.warmed hpl hX.2.1.1 hname hN.2.2.2 (xwords hX hlk rfl) (xwords hX hin rfl) (xwords hX hcw rfl) (f := F0 mid pc ls (as.reverse ++ .ref b :: rest)) rfl (a := b) (argsL := as) (rest := rest) (fun sig hsig => by rw [hsig] at hn; exact (Option.some.inj hn).symm) rfl (by rw [hX.1.2.1]; exact hdg)
  cases hF.1.symm.trans hnamed
  exact ⟨vm₁, X.noted hW₁, hstep₁⟩
end
section
/-- the words of 'new': pool number, class's number, slots, the fields of a new object -/
def xN (own : String) (idx ci n : Nat) (fs : List Value) : Prop := ∃ (C : String) (T : u_T) (N : Nat) (t0 : Nat → FieldType), classes[ci]? = some (C, T, N) ∧ (∀ w ∈ u_ws C T N, w ∈ lw_tbl ∧ xper w = true) ∧ (∀ k, k < N → parseFieldDescriptor (T k).2.2.1 = some (t0 k)) ∧ Cond.classLink own idx C ∈ lw_tbl ∧ Cond.instantiable C n ∈ lw_tbl ∧ Cond.initialized C ∈ lw_tbl ∧ ∀ k, k < N → defaultValue (t0 k) = vp_V fs k
theorem x_new {E : xE} {d : Nat} {M : xM} {pc : Nat} {lv : xL} {st : List Value} {w : Bool} {h : xH} {r : xR} {idx ci n : Nat} {fs : List Value} (hN : xN M.1.cls idx ci n fs) (hd : decode M.2.1 pc = .ok (.new idx, 3)) (kk : xG E d M (pc + 3) lv (.ref h.2.1 :: st) true (xadd h (.inr (ci, fs)) n) r) : xG E d M pc lv st w h r := by
  have hk1 := kk.1
  simp only [xadd_sz, xadd_us] at hk1
  refine ⟨⟨by omega, by omega⟩, fun p e R s mid args below meth c H locs cells slots ls hX hI hl hlo hw hR hc hs => ?_⟩
  obtain ⟨C, T, N, t0, hcl, hwd, hty, hlk, hins, hini, hdf⟩ := hN
  have hts : ∀ w ∈ u_ws C T N, w.before args s = true := fun w hh => xwords hX (hwd w hh).1 (hwd w hh).2
  have hK := hX.2.2.2.1.1 ci _ hcl
  obtain ⟨hS, hfc, kC0, hkC0, hkind⟩ := hK
  refine W.newcK (h := h.2.1) hX.1.1 hX.1.2.1 hX.2.1.1 (xwords hX hlk rfl) (xwords hX hins rfl) (xwords hX hini rfl) rfl hd (by omega) (by omega) hfc hI.1 (fun H' kC hkC e1 e2 e3 => ?_)
  have hob : t_OB h.2.1 (E.2.1.1 ci) N (E.2.1.2 ci) H' (fun k => defaultValue (t0 k)) := u_born t0 hts (fun _ hh => hh) (hX.2.2.2.1.1 ci _ hcl) hkC e1 hty
  have kk2 := kk.2 p e R s mid args below meth c H' locs (cells + 1) (slots + n) ls hX (hI.new ⟨_, hcl, t_OB.to hob hdf⟩ (fun cell' hc' => by rw [e1] at hc'; cases hc'; rfl) e2 e3) hl hlo (fun hq => by cases hq) hR (by simp only [xadd_sz]; omega) (by simp only [xadd_us]; omega)
  simp only [xadd_sz, xadd_us] at kk2
  rw [show cells + (r.2.2.2.1 - h.2.1) = cells + 1 + (r.2.2.2.1 - (h.2.1 + 1)) by omega, show slots + (r.2.2.2.2 - h.2.2) = slots + n + (r.2.2.2.2 - (h.2.2 + n)) by omega]
  exact kk2
theorem x_objInit {E : xE} {d : Nat} {M : xM} {pc : Nat} {lv : xL} {st : List Value} {w : Bool} {h : xH} {r : xR} {idx a : Nat} (hd : decode M.2.1 pc = .ok (.invokespecial idx, 3)) (hlk : Cond.methodLink M.1.cls idx objectInit ∈ lw_tbl) (hin : Cond.instanceMethod objectInit ∈ lw_tbl) (hcw : Cond.code objectInit ⟨#[0xb1]⟩ 1 none ∈ lw_tbl) (hst : (st.map fun v => v.category).sum ≤ 8) (k : xG E d M (pc + 3) lv st w h r) : xG E d M pc lv (.ref a :: st) w h r := by
  refine ⟨k.1, fun p e R s mid args below meth c H locs cells slots ls hX hI hl hlo hw hR hc hs => ?_⟩
  have hmr : 2 * (F0 mid pc ls st).monitorRoom + (st.map fun v => v.category).sum ≤ 8 := lv_room hst
  exact W.objInit hX.1.1 hX.1.2.1 hX.2.1.1 (xwords hX hlk rfl) (xwords hX hin rfl) (xwords hX hcw rfl) rfl (by rw [hX.1.2.2.1]; exact hl.1) rfl hd (by omega) (by show 2 * (F0 mid pc ls st).monitorRoom + (st.map fun v => v.category).sum + 12 ≤ R.locals; omega) (k.2 p e R s mid args below meth c H locs cells slots ls hX hI hl hlo hw hR hc hs)
theorem x_ldc2 {E : xE} {d : Nat} {M : xM} {pc : Nat} {lv : xL} {st : List Value} {w : Bool} {h : xH} {r : xR} {idx : Nat} {v : Int64} (hd : decode M.2.1 pc = .ok (.ldc2_w idx, 3)) (hlk : Cond.constantLong M.1.cls idx v ∈ lw_tbl) (k : xG E d M (pc + 3) lv (.long v :: st) w h r) : xG E d M pc lv st w h r :=
  k.go fun hX hl k' => lv_ldc2 hX.1.1 hX.1.2.1 hX.2.1.1 (xwords hX hlk rfl) hd (k' _ hl)
theorem x_ldc {E : xE} {d : Nat} {M : xM} {pc : Nat} {lv : xL} {st : List Value} {w : Bool} {h : xH} {r : xR} {idx : Nat} {v : Int32} (hd : decode M.2.1 pc = .ok (.ldc idx, 2)) (hlk : Cond.constant M.1.cls idx v ∈ lw_tbl) (k : xG E d M (pc + 2) lv (.int v :: st) w h r) : xG E d M pc lv st w h r :=
  k.go fun hX hl k' => lv_ldc hX.1.1 hX.1.2.1 hX.2.1.1 (xwords hX hlk rfl) hd (k' _ hl)
theorem x_ldcw {E : xE} {d : Nat} {M : xM} {pc : Nat} {lv : xL} {st : List Value} {w : Bool} {h : xH} {r : xR} {idx : Nat} {v : Int32} (hd : decode M.2.1 pc = .ok (.ldc_w idx, 3)) (hlk : Cond.constant M.1.cls idx v ∈ lw_tbl) (k : xG E d M (pc + 3) lv (.int v :: st) w h r) : xG E d M pc lv st w h r :=
  k.go fun hX hl k' => lv_ldcw hX.1.1 hX.1.2.1 hX.2.1.1 (xwords hX hlk rfl) hd (k' _ hl)
theorem x_anew {E : xE} {d : Nat} {M : xM} {pc : Nat} {lv : xL} {st : List Value} {w : Bool} {h : xH} {r : xR} {i : Int32} {idx : Nat} {C : String} (n : Nat) (hd : decode M.2.1 pc = .ok (.anewarray idx, 3)) (hlk : Cond.classLink M.1.cls idx C ∈ lw_tbl) (hov : Cond.arrayOver (.object C) ∈ lw_tbl) (hpo : xper (Cond.arrayOver (.object C)) = true) (hi : i = nI n) (hn : n ≤ 60000000) (kk : xG E d M (pc + 3) lv (.ref h.2.1 :: st) true (xadd h (.inl (.object C, n, .inr (.inr (fun _ => none)))) n) r) : xG E d M pc lv (.int i :: st) w h r := by
  have hk1 := kk.1
  simp only [xadd_sz, xadd_us] at hk1
  refine ⟨⟨by omega, by omega⟩, fun p e R s mid args below meth c H locs cells slots ls hX hI hl hlo hw hR hc hs => ?_⟩
  subst hi
  have hcl : (nI n).toNatClampNeg = n := nI_clamp (by omega)
  refine W.anew hX.1.1 hX.1.2.1 hX.2.1.1 (xwords hX hlk rfl) (xwords hX hov hpo) rfl hd rfl (nI_pos (by omega)) (by rw [hcl]; omega) (by omega) (by rw [hcl]; omega) (fun cA kA comp g1 g2 g3 g4 => ?_)
  rw [hcl]
  generalize hH1 : H.push ({ cls := cA, slots := Array.replicate n .null, vm := .none } : Cell) = H1
  have z1 : H1.size = h.2.1 + 1 := by rw [← hH1, Array.size_push, hI.1]
  have e1 : H1[h.2.1]? = some ({ cls := cA, slots := Array.replicate n .null, vm := .none } : Cell) := by rw [← hH1, ← hI.1, Array.getElem?_push_size]
  have o1 : ∀ q : Nat, q < h.2.1 → H1[q]? = H[q]? := fun q hq => by rw [← hH1, Array.getElem?_push, if_neg (by rw [hI.1]; exact Nat.ne_of_lt hq)]
  have kk2 := kk.2 p e R s mid args below meth c H1 locs (cells + 1) (slots + n) ls hX (hI.new ⟨_, e1, ⟨(fun k hk => by cases hk), kA, g2, comp, g3⟩, (fun hk => by cases hk), (by simp), (fun j hj => by simp [hj, xval, va_rf]), ⟨kA, comp, g2, g3, g4⟩⟩ (fun cell' hc' => by rw [e1] at hc'; cases hc'; rfl) z1 o1) hl hlo (fun hq => by cases hq) hR (by simp only [xadd_sz]; omega) (by simp only [xadd_us]; omega)
  simp only [xadd_sz, xadd_us] at kk2
  rw [show cells + (r.2.2.2.1 - h.2.1) = cells + 1 + (r.2.2.2.1 - (h.2.1 + 1)) by omega, show slots + (r.2.2.2.2 - h.2.2) = slots + n + (r.2.2.2.2 - (h.2.2 + n)) by omega]
  rw [hI.1]
  exact kk2
theorem x_aast {E : xE} {d : Nat} {M : xM} {pc : Nat} {lv : xL} {st : List Value} {w : Bool} {h : xH} {r : xR} {a n v ci : Nat} {i : Int32} {C : String} {f : Nat → Option Nat} {fs : List Value} (j : Nat) (hd : decode M.2.1 pc = .ok (.aastore, 1)) (ha : h.1 a = some (.inl (.object C, n, .inr (.inr f)))) (hv : h.1 v = some (.inr (ci, fs))) (hci : (classes[ci]?).map (fun q => q.1) = some C) (hb : E.2.2.1 ≤ a) (hi : i = nI j) (hj : j < n) (hn : n < 2 ^ 31) (kk : xG E d M (pc + 1) lv st true (xset h a (.inl (.object C, n, .inr (.inr (va_up f j (some v)))))) r) : xG E d M pc lv (.ref v :: .int i :: .ref a :: st) w h r := by
  refine ⟨kk.1, fun p e R s mid args below meth c H locs cells slots ls hX hI hl hlo hw hR hc hs => ?_⟩
  obtain ⟨cell, h1, h2, h3, h4, h5, h6⟩ := hI.2.2.2.1 a _ ha
  obtain ⟨r0, w1, cellV, q1, q2, q3, -⟩ := hI.2.2.2.1 v _ hv
  have hcl : r0.1 = C := by
    rw [w1] at hci
    exact Option.some.inj hci
  have hcls := (hX.2.2.2.1.1 ci _ w1).2
  obtain ⟨kA, comp, k1, k2, k3⟩ := h6
  have hcomp : comp = E.2.1.1 ci := by
    rw [← hcl] at k3
    exact Option.some.inj (k3.symm.trans hcls.1)
  subst hcomp
  obtain ⟨kC, hkC, -⟩ := hcls.2
  obtain ⟨g1, g2⟩ := xnin hi hj hn
  refine W.aast hX.1.1 hX.1.2.1 h1 h2.1 h3 k1 k2 rfl hkC ⟨fun q => g1 (Or.inl q), by rw [g2, h4]; exact hj⟩ q1 (fun q hq => by rw [q3] at hq; cases hq) (by rw [q2]; exact hkC) (by rw [q2]; exact va_assign hcls) rfl rfl hd (fun H' e1 e2 e3 => ?_)
  rw [g2] at e1 ⊢
  refine kk.2 p e R s mid args below meth c H' _ cells slots ls hX (hI.put hb (xstored h2 h3 h4 h5 ⟨kA, _, k1, k2, k3⟩ hj e1 (by simp [xval, va_up, va_rf]) (fun i hij => by simp [xval, va_up, hij])) (fun cell' hc' => ?_) e2 e3) hl ?_ (fun hq => by cases hq) hR hc hs
  · rw [e1] at hc'
    cases hc'
    exact hI.2.2.2.2 a cell hb h1
  · intro q hq
    rcases List.mem_append.mp hq with hq | hq
    · exact hlo q hq
    · rw [List.mem_singleton.mp hq]; exact hb
end
section
/-- the words of a call: invokevirtual, invokestatic, invokespecial of a constructor -/
def xCV (own : String) (idx : Nat) (N : xM) (ci n : Nat) : Prop := xHas N ∧ Cond.methodLink own idx N.1 ∈ lw_tbl ∧ Cond.instanceMethod N.1 ∈ lw_tbl ∧ Cond.selects N.1.cls N.1 N.1 ∈ lw_tbl ∧ (classes[ci]?).map (fun q => q.1) = some N.1.cls ∧ (parseMethodDescriptor N.1.desc).map (fun q => q.parameters.length) = some n
def xCS (own : String) (idx : Nat) (N : xM) (n : Nat) : Prop := xHas N ∧ Cond.methodLink own idx N.1 ∈ lw_tbl ∧ Cond.static N.1 ∈ lw_tbl ∧ Cond.initialized N.1.cls ∈ lw_tbl ∧ (parseMethodDescriptor N.1.desc).map (fun q => q.parameters.length) = some n
def xCI (own : String) (idx : Nat) (N : xM) (n : Nat) : Prop := xHas N ∧ Cond.methodLink own idx N.1 ∈ lw_tbl ∧ Cond.instanceMethod N.1 ∈ lw_tbl ∧ N.1.name = "<init>" ∧ Cond.code N.1 N.2.1 N.2.2.1 none ∈ lw_tbl ∧ (parseMethodDescriptor N.1.desc).map (fun q => q.parameters.length) = some n
theorem x_callV0 {E : xE} {d : Nat} {M N : xM} {pc idx : Nat} {lv : xL} {rest : List Value} {w w1 : Bool} {h h1 : xH} {b : Nat} {ci : Nat} {fs : List Value} {v : Option Value} {r : xR} (hC : xCV M.1.cls idx N ci 0) (hd : decode M.2.1 pc = .ok (.invokevirtual idx, 3)) (hb : h.1 b = some (.inr (ci, fs))) (hlen : (lg_sl [.ref b]).length ≤ N.2.2.1) (hrest : (rest.map fun v => v.category).sum ≤ 8) (hG : xG E d N 0 (lv_args 0 [.ref b]) [] false h (w1, .inl v, h1)) (k : xG E (d + 1) M (pc + 3) lv (v.toList ++ rest) (w || w1) h1 r) : xG E (d + 1) M pc lv (.ref b :: rest) w h r :=
  xG.ret (as := [.ref b]) (rest := rest) hC.1 hd hlen hrest (fun hX hI hF => xinv_V (as := []) hd hC.2.1 hC.2.2.1 hC.2.2.2.1 hC.1 hb hC.2.2.2.2.1 hC.2.2.2.2.2 hX hI hF) hG k
theorem x_thrV0 {E : xE} {d : Nat} {M N : xM} {pc idx : Nat} {lv : xL} {rest : List Value} {w w1 : Bool} {h h1 : xH} {b : Nat} {ci : Nat} {fs : List Value} {x : String × Nat} (hM : M.2.2.2.2 = []) (hC : xCV M.1.cls idx N ci 0) (hd : decode M.2.1 pc = .ok (.invokevirtual idx, 3)) (hb : h.1 b = some (.inr (ci, fs))) (hlen : (lg_sl [.ref b]).length ≤ N.2.2.1) (hrest : (rest.map fun v => v.category).sum ≤ 8) (hG : xG E d N 0 (lv_args 0 [.ref b]) [] false h (w1, .inr x, h1)) : xG E (d + 1) M pc lv (.ref b :: rest) w h (true, .inr x, h1) :=
  xG.thr (as := [.ref b]) (rest := rest) hM hC.1 hd hlen hrest (fun hX hI hF => xinv_V (as := []) hd hC.2.1 hC.2.2.1 hC.2.2.2.1 hC.1 hb hC.2.2.2.2.1 hC.2.2.2.2.2 hX hI hF) hG
theorem x_callV1 {E : xE} {d : Nat} {M N : xM} {pc idx : Nat} {lv : xL} {rest : List Value} {w w1 : Bool} {h h1 : xH} {b : Nat} {a1 : Value} {ci : Nat} {fs : List Value} {v : Option Value} {r : xR} (hC : xCV M.1.cls idx N ci 1) (hd : decode M.2.1 pc = .ok (.invokevirtual idx, 3)) (hb : h.1 b = some (.inr (ci, fs))) (hlen : (lg_sl [.ref b, a1]).length ≤ N.2.2.1) (hrest : (rest.map fun v => v.category).sum ≤ 8) (hG : xG E d N 0 (lv_args 0 [.ref b, a1]) [] false h (w1, .inl v, h1)) (k : xG E (d + 1) M (pc + 3) lv (v.toList ++ rest) (w || w1) h1 r) : xG E (d + 1) M pc lv (a1 :: .ref b :: rest) w h r :=
  xG.ret (as := [.ref b, a1]) (rest := rest) hC.1 hd hlen hrest (fun hX hI hF => xinv_V (as := [a1]) hd hC.2.1 hC.2.2.1 hC.2.2.2.1 hC.1 hb hC.2.2.2.2.1 hC.2.2.2.2.2 hX hI hF) hG k
theorem x_thrV1 {E : xE} {d : Nat} {M N : xM} {pc idx : Nat} {lv : xL} {rest : List Value} {w w1 : Bool} {h h1 : xH} {b : Nat} {a1 : Value} {ci : Nat} {fs : List Value} {x : String × Nat} (hM : M.2.2.2.2 = []) (hC : xCV M.1.cls idx N ci 1) (hd : decode M.2.1 pc = .ok (.invokevirtual idx, 3)) (hb : h.1 b = some (.inr (ci, fs))) (hlen : (lg_sl [.ref b, a1]).length ≤ N.2.2.1) (hrest : (rest.map fun v => v.category).sum ≤ 8) (hG : xG E d N 0 (lv_args 0 [.ref b, a1]) [] false h (w1, .inr x, h1)) : xG E (d + 1) M pc lv (a1 :: .ref b :: rest) w h (true, .inr x, h1) :=
  xG.thr (as := [.ref b, a1]) (rest := rest) hM hC.1 hd hlen hrest (fun hX hI hF => xinv_V (as := [a1]) hd hC.2.1 hC.2.2.1 hC.2.2.2.1 hC.1 hb hC.2.2.2.2.1 hC.2.2.2.2.2 hX hI hF) hG
theorem x_callV2 {E : xE} {d : Nat} {M N : xM} {pc idx : Nat} {lv : xL} {rest : List Value} {w w1 : Bool} {h h1 : xH} {b : Nat} {a1 a2 : Value} {ci : Nat} {fs : List Value} {v : Option Value} {r : xR} (hC : xCV M.1.cls idx N ci 2) (hd : decode M.2.1 pc = .ok (.invokevirtual idx, 3)) (hb : h.1 b = some (.inr (ci, fs))) (hlen : (lg_sl [.ref b, a1, a2]).length ≤ N.2.2.1) (hrest : (rest.map fun v => v.category).sum ≤ 8) (hG : xG E d N 0 (lv_args 0 [.ref b, a1, a2]) [] false h (w1, .inl v, h1)) (k : xG E (d + 1) M (pc + 3) lv (v.toList ++ rest) (w || w1) h1 r) : xG E (d + 1) M pc lv (a2 :: a1 :: .ref b :: rest) w h r :=
  xG.ret (as := [.ref b, a1, a2]) (rest := rest) hC.1 hd hlen hrest (fun hX hI hF => xinv_V (as := [a1, a2]) hd hC.2.1 hC.2.2.1 hC.2.2.2.1 hC.1 hb hC.2.2.2.2.1 hC.2.2.2.2.2 hX hI hF) hG k
theorem x_thrV2 {E : xE} {d : Nat} {M N : xM} {pc idx : Nat} {lv : xL} {rest : List Value} {w w1 : Bool} {h h1 : xH} {b : Nat} {a1 a2 : Value} {ci : Nat} {fs : List Value} {x : String × Nat} (hM : M.2.2.2.2 = []) (hC : xCV M.1.cls idx N ci 2) (hd : decode M.2.1 pc = .ok (.invokevirtual idx, 3)) (hb : h.1 b = some (.inr (ci, fs))) (hlen : (lg_sl [.ref b, a1, a2]).length ≤ N.2.2.1) (hrest : (rest.map fun v => v.category).sum ≤ 8) (hG : xG E d N 0 (lv_args 0 [.ref b, a1, a2]) [] false h (w1, .inr x, h1)) : xG E (d + 1) M pc lv (a2 :: a1 :: .ref b :: rest) w h (true, .inr x, h1) :=
  xG.thr (as := [.ref b, a1, a2]) (rest := rest) hM hC.1 hd hlen hrest (fun hX hI hF => xinv_V (as := [a1, a2]) hd hC.2.1 hC.2.2.1 hC.2.2.2.1 hC.1 hb hC.2.2.2.2.1 hC.2.2.2.2.2 hX hI hF) hG
theorem x_callV3 {E : xE} {d : Nat} {M N : xM} {pc idx : Nat} {lv : xL} {rest : List Value} {w w1 : Bool} {h h1 : xH} {b : Nat} {a1 a2 a3 : Value} {ci : Nat} {fs : List Value} {v : Option Value} {r : xR} (hC : xCV M.1.cls idx N ci 3) (hd : decode M.2.1 pc = .ok (.invokevirtual idx, 3)) (hb : h.1 b = some (.inr (ci, fs))) (hlen : (lg_sl [.ref b, a1, a2, a3]).length ≤ N.2.2.1) (hrest : (rest.map fun v => v.category).sum ≤ 8) (hG : xG E d N 0 (lv_args 0 [.ref b, a1, a2, a3]) [] false h (w1, .inl v, h1)) (k : xG E (d + 1) M (pc + 3) lv (v.toList ++ rest) (w || w1) h1 r) : xG E (d + 1) M pc lv (a3 :: a2 :: a1 :: .ref b :: rest) w h r :=
  xG.ret (as := [.ref b, a1, a2, a3]) (rest := rest) hC.1 hd hlen hrest (fun hX hI hF => xinv_V (as := [a1, a2, a3]) hd hC.2.1 hC.2.2.1 hC.2.2.2.1 hC.1 hb hC.2.2.2.2.1 hC.2.2.2.2.2 hX hI hF) hG k
theorem x_thrV3 {E : xE} {d : Nat} {M N : xM} {pc idx : Nat} {lv : xL} {rest : List Value} {w w1 : Bool} {h h1 : xH} {b : Nat} {a1 a2 a3 : Value} {ci : Nat} {fs : List Value} {x : String × Nat} (hM : M.2.2.2.2 = []) (hC : xCV M.1.cls idx N ci 3) (hd : decode M.2.1 pc = .ok (.invokevirtual idx, 3)) (hb : h.1 b = some (.inr (ci, fs))) (hlen : (lg_sl [.ref b, a1, a2, a3]).length ≤ N.2.2.1) (hrest : (rest.map fun v => v.category).sum ≤ 8) (hG : xG E d N 0 (lv_args 0 [.ref b, a1, a2, a3]) [] false h (w1, .inr x, h1)) : xG E (d + 1) M pc lv (a3 :: a2 :: a1 :: .ref b :: rest) w h (true, .inr x, h1) :=
  xG.thr (as := [.ref b, a1, a2, a3]) (rest := rest) hM hC.1 hd hlen hrest (fun hX hI hF => xinv_V (as := [a1, a2, a3]) hd hC.2.1 hC.2.2.1 hC.2.2.2.1 hC.1 hb hC.2.2.2.2.1 hC.2.2.2.2.2 hX hI hF) hG
theorem x_callS1 {E : xE} {d : Nat} {M N : xM} {pc idx : Nat} {lv : xL} {rest : List Value} {w w1 : Bool} {h h1 : xH} {a1 : Value} {v : Option Value} {r : xR} (hC : xCS M.1.cls idx N 1) (hd : decode M.2.1 pc = .ok (.invokestatic idx, 3)) (hlen : (lg_sl [a1]).length ≤ N.2.2.1) (hrest : (rest.map fun v => v.category).sum ≤ 8) (hG : xG E d N 0 (lv_args 0 [a1]) [] false h (w1, .inl v, h1)) (k : xG E (d + 1) M (pc + 3) lv (v.toList ++ rest) (w || w1) h1 r) : xG E (d + 1) M pc lv (a1 :: rest) w h r :=
  xG.ret (as := [a1]) (rest := rest) hC.1 hd hlen hrest (fun hX _ hF => xinv_S (as := [a1]) hd hC.2.1 hC.2.2.1 hC.2.2.2.1 hC.1 hC.2.2.2.2 hX hF) hG k
theorem x_thrS1 {E : xE} {d : Nat} {M N : xM} {pc idx : Nat} {lv : xL} {rest : List Value} {w w1 : Bool} {h h1 : xH} {a1 : Value} {x : String × Nat} (hM : M.2.2.2.2 = []) (hC : xCS M.1.cls idx N 1) (hd : decode M.2.1 pc = .ok (.invokestatic idx, 3)) (hlen : (lg_sl [a1]).length ≤ N.2.2.1) (hrest : (rest.map fun v => v.category).sum ≤ 8) (hG : xG E d N 0 (lv_args 0 [a1]) [] false h (w1, .inr x, h1)) : xG E (d + 1) M pc lv (a1 :: rest) w h (true, .inr x, h1) :=
  xG.thr (as := [a1]) (rest := rest) hM hC.1 hd hlen hrest (fun hX _ hF => xinv_S (as := [a1]) hd hC.2.1 hC.2.2.1 hC.2.2.2.1 hC.1 hC.2.2.2.2 hX hF) hG
theorem x_callS2 {E : xE} {d : Nat} {M N : xM} {pc idx : Nat} {lv : xL} {rest : List Value} {w w1 : Bool} {h h1 : xH} {a1 a2 : Value} {v : Option Value} {r : xR} (hC : xCS M.1.cls idx N 2) (hd : decode M.2.1 pc = .ok (.invokestatic idx, 3)) (hlen : (lg_sl [a1, a2]).length ≤ N.2.2.1) (hrest : (rest.map fun v => v.category).sum ≤ 8) (hG : xG E d N 0 (lv_args 0 [a1, a2]) [] false h (w1, .inl v, h1)) (k : xG E (d + 1) M (pc + 3) lv (v.toList ++ rest) (w || w1) h1 r) : xG E (d + 1) M pc lv (a2 :: a1 :: rest) w h r :=
  xG.ret (as := [a1, a2]) (rest := rest) hC.1 hd hlen hrest (fun hX _ hF => xinv_S (as := [a1, a2]) hd hC.2.1 hC.2.2.1 hC.2.2.2.1 hC.1 hC.2.2.2.2 hX hF) hG k
theorem x_thrS2 {E : xE} {d : Nat} {M N : xM} {pc idx : Nat} {lv : xL} {rest : List Value} {w w1 : Bool} {h h1 : xH} {a1 a2 : Value} {x : String × Nat} (hM : M.2.2.2.2 = []) (hC : xCS M.1.cls idx N 2) (hd : decode M.2.1 pc = .ok (.invokestatic idx, 3)) (hlen : (lg_sl [a1, a2]).length ≤ N.2.2.1) (hrest : (rest.map fun v => v.category).sum ≤ 8) (hG : xG E d N 0 (lv_args 0 [a1, a2]) [] false h (w1, .inr x, h1)) : xG E (d + 1) M pc lv (a2 :: a1 :: rest) w h (true, .inr x, h1) :=
  xG.thr (as := [a1, a2]) (rest := rest) hM hC.1 hd hlen hrest (fun hX _ hF => xinv_S (as := [a1, a2]) hd hC.2.1 hC.2.2.1 hC.2.2.2.1 hC.1 hC.2.2.2.2 hX hF) hG
theorem x_callS3 {E : xE} {d : Nat} {M N : xM} {pc idx : Nat} {lv : xL} {rest : List Value} {w w1 : Bool} {h h1 : xH} {a1 a2 a3 : Value} {v : Option Value} {r : xR} (hC : xCS M.1.cls idx N 3) (hd : decode M.2.1 pc = .ok (.invokestatic idx, 3)) (hlen : (lg_sl [a1, a2, a3]).length ≤ N.2.2.1) (hrest : (rest.map fun v => v.category).sum ≤ 8) (hG : xG E d N 0 (lv_args 0 [a1, a2, a3]) [] false h (w1, .inl v, h1)) (k : xG E (d + 1) M (pc + 3) lv (v.toList ++ rest) (w || w1) h1 r) : xG E (d + 1) M pc lv (a3 :: a2 :: a1 :: rest) w h r :=
  xG.ret (as := [a1, a2, a3]) (rest := rest) hC.1 hd hlen hrest (fun hX _ hF => xinv_S (as := [a1, a2, a3]) hd hC.2.1 hC.2.2.1 hC.2.2.2.1 hC.1 hC.2.2.2.2 hX hF) hG k
theorem x_thrS3 {E : xE} {d : Nat} {M N : xM} {pc idx : Nat} {lv : xL} {rest : List Value} {w w1 : Bool} {h h1 : xH} {a1 a2 a3 : Value} {x : String × Nat} (hM : M.2.2.2.2 = []) (hC : xCS M.1.cls idx N 3) (hd : decode M.2.1 pc = .ok (.invokestatic idx, 3)) (hlen : (lg_sl [a1, a2, a3]).length ≤ N.2.2.1) (hrest : (rest.map fun v => v.category).sum ≤ 8) (hG : xG E d N 0 (lv_args 0 [a1, a2, a3]) [] false h (w1, .inr x, h1)) : xG E (d + 1) M pc lv (a3 :: a2 :: a1 :: rest) w h (true, .inr x, h1) :=
  xG.thr (as := [a1, a2, a3]) (rest := rest) hM hC.1 hd hlen hrest (fun hX _ hF => xinv_S (as := [a1, a2, a3]) hd hC.2.1 hC.2.2.1 hC.2.2.2.1 hC.1 hC.2.2.2.2 hX hF) hG
theorem x_callS4 {E : xE} {d : Nat} {M N : xM} {pc idx : Nat} {lv : xL} {rest : List Value} {w w1 : Bool} {h h1 : xH} {a1 a2 a3 a4 : Value} {v : Option Value} {r : xR} (hC : xCS M.1.cls idx N 4) (hd : decode M.2.1 pc = .ok (.invokestatic idx, 3)) (hlen : (lg_sl [a1, a2, a3, a4]).length ≤ N.2.2.1) (hrest : (rest.map fun v => v.category).sum ≤ 8) (hG : xG E d N 0 (lv_args 0 [a1, a2, a3, a4]) [] false h (w1, .inl v, h1)) (k : xG E (d + 1) M (pc + 3) lv (v.toList ++ rest) (w || w1) h1 r) : xG E (d + 1) M pc lv (a4 :: a3 :: a2 :: a1 :: rest) w h r :=
  xG.ret (as := [a1, a2, a3, a4]) (rest := rest) hC.1 hd hlen hrest (fun hX _ hF => xinv_S (as := [a1, a2, a3, a4]) hd hC.2.1 hC.2.2.1 hC.2.2.2.1 hC.1 hC.2.2.2.2 hX hF) hG k
theorem x_thrS4 {E : xE} {d : Nat} {M N : xM} {pc idx : Nat} {lv : xL} {rest : List Value} {w w1 : Bool} {h h1 : xH} {a1 a2 a3 a4 : Value} {x : String × Nat} (hM : M.2.2.2.2 = []) (hC : xCS M.1.cls idx N 4) (hd : decode M.2.1 pc = .ok (.invokestatic idx, 3)) (hlen : (lg_sl [a1, a2, a3, a4]).length ≤ N.2.2.1) (hrest : (rest.map fun v => v.category).sum ≤ 8) (hG : xG E d N 0 (lv_args 0 [a1, a2, a3, a4]) [] false h (w1, .inr x, h1)) : xG E (d + 1) M pc lv (a4 :: a3 :: a2 :: a1 :: rest) w h (true, .inr x, h1) :=
  xG.thr (as := [a1, a2, a3, a4]) (rest := rest) hM hC.1 hd hlen hrest (fun hX _ hF => xinv_S (as := [a1, a2, a3, a4]) hd hC.2.1 hC.2.2.1 hC.2.2.2.1 hC.1 hC.2.2.2.2 hX hF) hG
theorem x_callS5 {E : xE} {d : Nat} {M N : xM} {pc idx : Nat} {lv : xL} {rest : List Value} {w w1 : Bool} {h h1 : xH} {a1 a2 a3 a4 a5 : Value} {v : Option Value} {r : xR} (hC : xCS M.1.cls idx N 5) (hd : decode M.2.1 pc = .ok (.invokestatic idx, 3)) (hlen : (lg_sl [a1, a2, a3, a4, a5]).length ≤ N.2.2.1) (hrest : (rest.map fun v => v.category).sum ≤ 8) (hG : xG E d N 0 (lv_args 0 [a1, a2, a3, a4, a5]) [] false h (w1, .inl v, h1)) (k : xG E (d + 1) M (pc + 3) lv (v.toList ++ rest) (w || w1) h1 r) : xG E (d + 1) M pc lv (a5 :: a4 :: a3 :: a2 :: a1 :: rest) w h r :=
  xG.ret (as := [a1, a2, a3, a4, a5]) (rest := rest) hC.1 hd hlen hrest (fun hX _ hF => xinv_S (as := [a1, a2, a3, a4, a5]) hd hC.2.1 hC.2.2.1 hC.2.2.2.1 hC.1 hC.2.2.2.2 hX hF) hG k
theorem x_thrS5 {E : xE} {d : Nat} {M N : xM} {pc idx : Nat} {lv : xL} {rest : List Value} {w w1 : Bool} {h h1 : xH} {a1 a2 a3 a4 a5 : Value} {x : String × Nat} (hM : M.2.2.2.2 = []) (hC : xCS M.1.cls idx N 5) (hd : decode M.2.1 pc = .ok (.invokestatic idx, 3)) (hlen : (lg_sl [a1, a2, a3, a4, a5]).length ≤ N.2.2.1) (hrest : (rest.map fun v => v.category).sum ≤ 8) (hG : xG E d N 0 (lv_args 0 [a1, a2, a3, a4, a5]) [] false h (w1, .inr x, h1)) : xG E (d + 1) M pc lv (a5 :: a4 :: a3 :: a2 :: a1 :: rest) w h (true, .inr x, h1) :=
  xG.thr (as := [a1, a2, a3, a4, a5]) (rest := rest) hM hC.1 hd hlen hrest (fun hX _ hF => xinv_S (as := [a1, a2, a3, a4, a5]) hd hC.2.1 hC.2.2.1 hC.2.2.2.1 hC.1 hC.2.2.2.2 hX hF) hG
theorem x_callI0 {E : xE} {d : Nat} {M N : xM} {pc idx : Nat} {lv : xL} {rest : List Value} {w w1 : Bool} {h h1 : xH} {b : Nat} {v : Option Value} {r : xR} (hC : xCI M.1.cls idx N 0) (hd : decode M.2.1 pc = .ok (.invokespecial idx, 3)) (hlen : (lg_sl [.ref b]).length ≤ N.2.2.1) (hrest : (rest.map fun v => v.category).sum ≤ 8) (hG : xG E d N 0 (lv_args 0 [.ref b]) [] false h (w1, .inl v, h1)) (k : xG E (d + 1) M (pc + 3) lv (v.toList ++ rest) (w || w1) h1 r) : xG E (d + 1) M pc lv (.ref b :: rest) w h r :=
  xG.ret (as := [.ref b]) (rest := rest) hC.1 hd hlen hrest (fun hX _ hF => xinv_I (as := []) hd hC.2.1 hC.2.2.1 hC.2.2.2.1 hC.2.2.2.2.1 hC.1 hC.2.2.2.2.2 hX hF) hG k
end
section
theorem xsame_old {s t : State} {k n : Nat} (h : s.sameButNew t [] k n) {q : Nat} (hq : q < s.heap.size) : t.heap[q]? = s.heap[q]? := by
  obtain ⟨-, -, -, -, -, h6⟩ := h
  have hc : s.heap[q]? = some s.heap[q] := Array.getElem?_eq_getElem hq
  obtain ⟨c', e1, e2, e3, e4⟩ := h6 q _ hc
  have hsl : c'.slots = s.heap[q].slots := Array.ext_getElem? (fun i => e4 i (by simp))
  rw [e1, hc, e2, hsl]
theorem xfresh {p : Program} {l : Launch} {e : Env} {R : Room} {s : State} {m : MethodId} {args : Array Value} {below : List Frame} {meth : Method} {c : Code} {T : State} {cells slots : Nat} (X : Stand p l e R s m args below meth c T [] cells slots) (hT : T.heap = s.heap) : Stand p l e R s m args below meth c T [] 0 0 := by
  refine { X with same := ?_ }
  obtain ⟨h1, h2, h3, h4, h5, h6⟩ := X.same
  have hz : (T.setVm s.vm).heap = s.heap := hT
  refine ⟨h1, h2, by rw [hz]; exact Nat.le_refl _, h4, ?_, h6⟩
  rw [hz, List.drop_eq_nil_of_le (by simp)]
  exact Nat.zero_le _
set_option maxHeartbeats 1000000 in
/-- new X(); athrow, in a frame that has written nothing and that has no handler -/
theorem x_throw {E : xE} {d : Nat} {M : xM} {pc : Nat} {lv : xL} {st : List Value} {h : xH} {idx ic : Nat} {X : String} {names : List String} (hM : M.2.2.2.2 = []) (hlk : Cond.classLink M.1.cls idx X ∈ lw_tbl) (hins : Cond.instantiable X 6 ∈ lw_tbl) (hini : Cond.initialized X ∈ lw_tbl)
    (hat : ∀ a ∈ Bundle.ownAtoms0 M.1.cls ic X names, (a ∈ lw_tbl ∧ xper a = true) ∨ a = Cond.isRef (.static "java/lang/Throwable" "UNASSIGNED_STACK" "[Ljava/lang/StackTraceElement;") ∨ a = Cond.isRef (.static "java/lang/Throwable" "SUPPRESSED_SENTINEL" "Ljava/util/List;") ∨ a = Cond.laysStatic "java/lang/Throwable" "UNASSIGNED_STACK" "[Ljava/lang/StackTraceElement;" ∨ a = Cond.laysStatic "java/lang/Throwable" "SUPPRESSED_SENTINEL" "Ljava/util/List;")
    (hfit : Bundle.fit X = true) (hnames : ∀ n ∈ names, Bundle.fit n = true) (hlen : names.length ≤ 2) (hd0 : decode M.2.1 pc = .ok (.new idx, 3)) (hd3 : decode M.2.1 (pc + 3) = .ok (.dup, 1)) (hd4 : decode M.2.1 (pc + 4) = .ok (.invokespecial ic, 3)) (hd7 : decode M.2.1 (pc + 7) = .ok (.athrow, 1)) (hst : (st.map fun v => v.category).sum ≤ 8) :
    xG E (d + 1) M pc lv st false h (true, .inr (X, h.2.1), (h.1, h.2.1 + 1, h.2.2 + 6)) := by
  refine ⟨⟨Nat.le_add_right _ _, Nat.le_add_right _ _⟩, fun p e R s mid args below meth c H locs cells slots ls hX hI hl hlo hw hR hc hs => ?_⟩
  dsimp only at hc hs
  obtain ⟨rfl, rfl⟩ := hw rfl
  have hlocks := hX.1.2.2.2.2
  intro T hT X0
  have hat' : ∀ a ∈ Bundle.ownAtoms0 M.1.cls ic X names, a.before args s = true := by
    intro a ha
    rcases hat a ha with ⟨k1, k2⟩ | rfl | rfl | rfl | rfl
    · exact xwords hX k1 k2
    · obtain ⟨z1, z2, hu, -⟩ := hX.2.2.2.2.2
      exact vx_isRefq (xZ_here hu z1).1
    · obtain ⟨z1, z2, -, hu, -⟩ := hX.2.2.2.2.2
      exact vx_isRefq (xZ_here hu z1).1
    · obtain ⟨z1, z2, hu, -⟩ := hX.2.2.2.2.2
      exact (xZ_here hu z1).2.word
    · obtain ⟨z1, z2, -, hu, -⟩ := hX.2.2.2.2.2
      exact (xZ_here hu z1).2.word
  have hout : ∀ x ∈ c.exceptionTable.toList, covers x (pc + 7) = false := by
    have hnone : c.exceptionTable.toList = [] := by
      have := hX.2.1.2.2
      rw [hM] at this
      simpa using this
    rw [hnone]
    intro y hy
    cases hy
  have key : W p E.1 e R s mid args below meth c s.heap [] 0 0 (fun U => U.status = .running ∧ Ended U below (.threw s.heap.size) ∧ s.WarmedH U.vm ∧ s.sameButNew ({ U with vm := s.vm } : State) [] 1 6 ∧ ∃ ce, U.heap[s.heap.size]? = some ce ∧ s.vm.findClass X = some ce.cls ∧ ce.vm = .none) (F0 mid pc ls st) := by
    refine W.newc hX.1.1 hX.1.2.1 hX.2.1.1 (xwords hX hlk rfl) (xwords hX hins rfl) (xwords hX hini rfl) rfl hd0 (by omega) (by omega) (fun cC kC g1 g2 g3 g4 => ?_)
    refine lv_dup hX.1.1 hX.1.2.1 hd3 rfl ?_
    intro T1 hT1 X1
    have hmr : 2 * (F0 mid (pc + 4) ls (.ref s.heap.size :: .ref s.heap.size :: st)).monitorRoom + (st.map fun v => v.category).sum ≤ 8 := lv_room hst
    have hloc : 2 * (F0 mid (pc + 4) ls (.ref s.heap.size :: .ref s.heap.size :: st)).monitorRoom + ((Value.ref s.heap.size :: st).map fun v => v.category).sum + (13 * (names.length + 1) + 41) ≤ R.locals := by
      show 2 * (F0 mid (pc + 4) ls (.ref s.heap.size :: .ref s.heap.size :: st)).monitorRoom + (1 + (st.map fun v => v.category).sum) + (13 * (names.length + 1) + 41) ≤ R.locals
      omega
    obtain ⟨U, u1, u2, u3, u4, u5, ce, u6, u7⟩ := X1.ctorThrow0 hX.1.1 hX.2.2.2.2.1 hX.2.1.1 hfit hnames hat' (fun x hx => by cases hx) (a := s.heap.size) g1 g2 (by rw [hT1]; simp) (Nat.le_refl _) (g := F0 mid (pc + 4) ls (.ref s.heap.size :: .ref s.heap.size :: st)) rfl (by rw [hX.1.2.2.1]; exact hl.1) rfl rfl (rest := st) rfl (by rw [hX.1.2.1]; exact hd4) (by rw [hX.1.2.1]; exact hd7) hout (by omega) hloc (hlocks := hlocks)
    exact ⟨U, u1, u2, u3, u4, u5, ce, u6, u7.cls, u7.vm⟩
  obtain ⟨U, u1, u2, u3, u4, u5, ce, u6, u7, u8⟩ := key T hT (xfresh X0 hT)
  have hz : U.heap.size = s.heap.size + 1 := by
    have a1 := (Array.getElem?_eq_some_iff.mp u6).1
    have a2 := u5.2.2.1
    exact Nat.le_antisymm a2 a1
  have hsz := hI.1
  refine ⟨U, u1, u2, _, u3, ⟨by rw [← hsz], ce, by rw [← hsz]; exact u6, by rw [u4.alike.findClass]; exact u7, by rw [u8]; rfl⟩, u4, ?_, [], ?_, (fun q hq => by cases hq), fun hf => by cases hf⟩
  · exact (hI.moved u4.alike).bare (fun cell hcell => by rw [← hsz, u6] at hcell; cases hcell; rw [u8]; rfl) (by rw [hz, hsz]) (fun q hq => xsame_old u5 (by rw [hsz]; exact hq))
  · exact u5.mono (by dsimp only; omega) (by dsimp only; omega)
end
section
/-- a call that throws, caught by one of the method's own handlers behind such as it passes -/
theorem xG.cat {E : xE} {d : Nat} {M N : xM} {pc : Nat} {lv : xL} {st rest as : List Value} {w w1 : Bool} {h h1 : xH} {x : String × Nat} {r : xR} {ig : Instr} (pre : List (Nat × Nat × Nat × Nat)) (y : Nat × Nat × Nat × Nat) (suf : List (Nat × Nat × Nat × Nat)) (hM : M.2.2.2.2 = pre ++ y :: suf)
    (hpass : ∀ z ∈ pre, z.2.2.2 ≠ 0 ∧ ∃ nm : String, Cond.classLink M.1.cls z.2.2.2 nm ∈ lw_tbl ∧ ∀ s : State, xZ E s → va_Nc x.1 nm s) (hy : y.1 ≤ pc ∧ pc < y.2.1) (hy0 : y.2.2.2 ≠ 0) (hlk : Cond.classLink M.1.cls y.2.2.2 x.1 ∈ lw_tbl) (hcs : Cond.castable x.1 x.1 ∈ lw_tbl)
    (hN : xHas N) (hdg : decode M.2.1 pc = .ok (ig, 3)) (hlen : (lg_sl as).length ≤ N.2.2.1) (hrest : (rest.map fun v => v.category).sum ≤ 8)
    (hinv : ∀ {p : Program} {e : Env} {R : Room} {s : State} {mid : MethodId} {args : Array Value} {below : List Frame} {meth : Method} {c : Code} {H : Heap} {locs : List Loc} {cells slots : Nat} {ls : Array Slot} {mk : MethodId} {methk : Method} {ck : Code}, xX E M p e s mid args meth c → xI E s h H → xFd N s mk methk ck → xInv p E.1 e R s mid args below meth c H locs cells slots (F0 mid pc ls st) rest mk as.toArray)
    (hG : xG E d N 0 (lv_args 0 as) [] false h (w1, .inr x, h1)) (k : xG E (d + 1) M y.2.2.1 lv [.ref x.2] true h1 r) : xG E (d + 1) M pc lv st w h r := by
  have m1 := hG.1
  have m2 := k.1
  dsimp only at m1
  refine ⟨⟨by omega, by omega⟩, fun p e R s mid args below meth c H locs cells slots ls hX hI hl hlo hw hR hc hs => ?_⟩
  obtain ⟨mk, methk, ck, hF⟩ := hN.at hX
  intro T hT X
  obtain ⟨T', L, X', hL, hpu, hI', ⟨cell, k1, k2, k3⟩, hst⟩ := xcall (r1 := (w1, .inr x, h1)) hX hI hl.1 hR (by dsimp only; omega) (by dsimp only; omega) hN hF (hinv hX hI hF) hdg hlen hrest hG T hT X
  dsimp only at X' hst
  have hpl : e.platform.magicAccessors = ({} : Platform).magicAccessors := by rw [X.admits.platform]
  have hcl : s.vm.findClass x.1 = some cell.cls := by rw [← X'.warmed.alike.findClass]; exact k2
  have htab := hX.2.1.2.2
  rw [hM] at htab
  obtain ⟨P, rest', hP1, hP2, hP3⟩ := List.map_eq_append_iff.mp htab
  obtain ⟨Y, S, hP4, hY, hS⟩ := List.map_eq_cons_iff.mp hP3
  subst hP4
  obtain ⟨c3, c4, hc3, hc4, hasg⟩ := Cond.castable_spec (xwords hX hcs rfl)
  cases Option.some.inj (hc3.symm.trans hcl)
  cases Option.some.inj (hc4.symm.trans hcl)
  have hYe : Y.startPc = y.1 ∧ Y.endPc = y.2.1 ∧ Y.handlerPc = y.2.2.1 ∧ Y.catchType = y.2.2.2 := by rw [← hY]; exact ⟨rfl, rfl, rfl, rfl⟩
  obtain ⟨c5, hc5, hcl5⟩ := Cond.classLink_spec hX.2.1.1 (xwords hX hlk rfl) e.platform hpl
  cases Option.some.inj (hc5.symm.trans hcl)
  have hk0 : ∃ k, s.vm.classes[cell.cls]? = some k := by
    obtain ⟨k9, h9, -⟩ := Vm.findClass_spec hcl
    exact ⟨k9, h9⟩
  obtain ⟨vm', X2, st2⟩ := X'.thenCaughtThrough x.2 (g := F0 mid pc ls rest) rfl (Steps.refl _) k1 k3 hk0 P Y S hP1
    (fun z hz => by
      obtain ⟨hz0, nm, hn1, hn2⟩ := hpass (z.startPc, z.endPc, z.handlerPc, z.catchType) (by rw [← hP2]; exact List.mem_map_of_mem hz)
      obtain ⟨c6, hc6, hcl6⟩ := Cond.classLink_spec hX.2.1.1 (xwords hX hn1 rfl) e.platform hpl
      obtain ⟨a8, b8, e1, e2, e3⟩ := hn2 s hX.2.2.2.2.2
      cases Option.some.inj (e1.symm.trans hcl)
      cases Option.some.inj (e2.symm.trans hc6)
      exact Or.inr ⟨hz0, _, hcl6, e3⟩)
    (by show (decide (Y.startPc ≤ pc) && decide (pc < Y.endPc)) = true; rw [hYe.1, hYe.2.1]; simp [hy]) (Or.inr ⟨by rw [hYe.2.2.2]; exact hy0, cell.cls, by rw [hYe.2.2.2]; exact hcl5, hasg⟩)
  rw [hYe.2.2.1] at st2
  obtain ⟨t, a1, b1⟩ := k.2 p e R s mid args below meth c T'.heap (locs ++ L) (cells + (h1.2.1 - h.2.1)) (slots + (h1.2.2 - h.2.2)) ls hX hI' hl (fun q hq => (List.mem_append.mp hq).elim (hlo q) (hL q)) (fun hf => by cases hf) hR (by omega) (by omega) (T'.setVm vm') rfl X2
  refine ⟨t, hst t (st2.trans a1), ?_⟩
  rw [show cells + (r.2.2.2.1 - h.2.1) = cells + (h1.2.1 - h.2.1) + (r.2.2.2.1 - h1.2.1) by omega, show slots + (r.2.2.2.2 - h.2.2) = slots + (h1.2.2 - h.2.2) + (r.2.2.2.2 - h1.2.2) by omega]
  exact b1
end
section
/-- new long[N][K] -/
def xmulti (h : xH) (N K : Nat) : xH := (fun q => if q = h.2.1 then some (.inl (.array .long, N, .inr (.inr (fun i => if i < N then some (h.2.1 + 1 + i) else none)))) else if h.2.1 < q ∧ q < h.2.1 + 1 + N then some (.inl (.long, K, .inr (.inl (fun _ => 0)))) else h.1 q, h.2.1 + 1 + N, h.2.2 + N + N * K)
theorem xouter (c : ClassId) (N h0 : Nat) : ∀ i j : Nat, j < N → (Jvm.Free.Multi.outerC c N h0 i).slots[j]? = some (va_rf (if j < i then some (h0 + 1 + j) else none))
  | 0, j, hj => by simp [Jvm.Free.Multi.outerC, hj, va_rf]
  | i + 1, j, hj => by
    have hz := (Jvm.Free.Multi.outerC_facts c N h0 i).2.2
    show ((Jvm.Free.Multi.outerC c N h0 i).setSlot i (.ref (h0 + 1 + i))).slots[j]? = _
    simp only [Cell.setSlot, Array.getElem?_setIfInBounds]
    by_cases e : i = j
    · subst e
      rw [if_pos rfl, if_pos (by rw [hz]; exact hj), if_pos (Nat.lt_succ_self _)]
      rfl
    · rw [if_neg e, xouter c N h0 i j hj]
      by_cases h : j < i
      · rw [if_pos h, if_pos (Nat.lt_succ_of_lt h)]
      · rw [if_neg h, if_neg (by omega)]
set_option maxHeartbeats 1000000 in
theorem x_mnew {E : xE} {d : Nat} {M : xM} {pc : Nat} {lv : xL} {st : List Value} {w : Bool} {h : xH} {r : xR} {idx : Nat} {n k : Int32} (N K : Nat) (hd : decode M.2.1 pc = .ok (.multianewarray idx 2, 4)) (hlk : Cond.classLink M.1.cls idx "[[J" ∈ lw_tbl) (hov : Cond.arrayOver (.array .long) ∈ lw_tbl) (har : Cond.arrayClass .long ∈ lw_tbl) (hn : n = nI N) (hk : k = nI K) (hN : N ≤ 1000) (hK : K ≤ 1000)
    (kk : xG E d M (pc + 4) lv (.ref h.2.1 :: st) true (xmulti h N K) r) : xG E d M pc lv (.int k :: .int n :: st) w h r := by
  have hk1 := kk.1
  simp only [xmulti] at hk1
  refine ⟨⟨by omega, by omega⟩, fun p e R s mid args below meth c H locs cells slots ls hX hI hl hlo hw hR hc hs => ?_⟩
  have cN : n.toNatClampNeg = N := by rw [hn]; exact nI_clamp (by omega)
  have cK : k.toNatClampNeg = K := by rw [hk]; exact nI_clamp (by omega)
  intro T hT X
  obtain ⟨vm₁, cA, comp, hW, fA, fC, hO, hIn, X', step⟩ := X.multianewarray2F (ty := .long) hX.1.1 hX.2.1.1 (xwords hX hlk rfl) (xwords hX hov rfl) (xwords hX har rfl) (g := F0 mid pc ls (.int k :: .int n :: st)) rfl (by rw [hX.1.2.1]; exact hd) rfl (by rw [hn]; exact nI_pos (by omega)) (by rw [hk]; exact nI_pos (by omega)) (by rw [cN]; omega) (by rw [cK]; simp [componentBytes]; omega) (by rw [cK]; omega) rfl rfl (by rw [cN]; omega) (by rw [cN, cK]; omega)
  rw [cN, cK] at X' step
  generalize hF : Jvm.Free.Multi.fill (T.setVm vm₁) cA comp N K (defaultValue .long) N = F at X' step
  have hTh : (T.setVm vm₁).heap = H := hT
  obtain ⟨f1, f2, -, -⟩ := Jvm.Free.Multi.fill_facts (T.setVm vm₁) cA comp N K (defaultValue .long) N
  rw [hF, hTh, hI.1] at f1 f2
  have hold : ∀ x : Nat, x < h.2.1 → F.heap[x]? = H[x]? := fun x hx => by
    have := Jvm.Free.Multi.fill_old (T.setVm vm₁) cA comp N K (defaultValue .long) (a := x) (by rw [hTh, hI.1]; exact hx) N
    rw [hF, hTh] at this
    exact this
  have hrow : ∀ j : Nat, j < N → F.heap[h.2.1 + 1 + j]? = some (Jvm.Free.Multi.innerC comp K (defaultValue .long)) := fun j hj => by
    have := Jvm.Free.Multi.fill_inner (T.setVm vm₁) cA comp N K (defaultValue .long) N j hj
    rw [hF, hTh, hI.1] at this
    exact this
  obtain ⟨i1, i2, i3, i4, i5⟩ := hI
  have hI2 : xI E s (xmulti h N K) F.heap := by
    refine ⟨f1, by rw [f1]; omega, fun q hq => by rw [hold q (by omega)]; exact i3 q hq, fun q x hx => ?_, fun q cell hq hcell => ?_⟩
    · simp only [xmulti] at hx
      split at hx
      · rename_i e0
        subst e0
        cases hx
        exact ⟨_, f2, (hO N h.2.1 N).1, (hO N h.2.1 N).2, (Jvm.Free.Multi.outerC_facts cA N h.2.1 N).2.2, fun j hj => xouter cA N h.2.1 N j hj, trivial⟩
      · split at hx
        · rename_i e1
          cases hx
          have hq : q = h.2.1 + 1 + (q - h.2.1 - 1) := by omega
          rw [hq]
          exact ⟨_, hrow _ (by omega), (hIn K (defaultValue .long)).1, (hIn K (defaultValue .long)).2, by simp [Jvm.Free.Multi.innerC], fun j hj => by simp [Jvm.Free.Multi.innerC, hj, xval, defaultValue], trivial⟩
        · have hlt := (i4 q x hx).lt
          exact (i4 q x hx).kept (hold q (by omega))
    · have hlt : q < F.heap.size := (Array.getElem?_eq_some_iff.mp hcell).1
      rw [f1] at hlt
      by_cases e0 : q < h.2.1
      · exact i5 q cell hq (by rw [← hold q e0]; exact hcell)
      · by_cases e1 : q = h.2.1
        · subst e1
          rw [f2] at hcell
          cases hcell
          rw [(Jvm.Free.Multi.outerC_facts cA N h.2.1 N).2.1]
          rfl
        · have hq2 : q = h.2.1 + 1 + (q - h.2.1 - 1) := by omega
          rw [hq2, hrow _ (by omega)] at hcell
          cases hcell
          rfl
  have hsz : T.heap.size = h.2.1 := by rw [hT]; exact i1
  have kk2 := kk.2 p e R s mid args below meth c F.heap locs (cells + 1 + N) (slots + N + N * K) ls hX hI2 hl hlo (fun hq => by cases hq) hR (by simp only [xmulti]; omega) (by simp only [xmulti]; omega)
  obtain ⟨t, a1, b1⟩ := kk2 F rfl X'
  refine ⟨t, step t (by rw [hsz]; exact a1), ?_⟩
  simp only [xmulti] at b1
  rw [show cells + (r.2.2.2.1 - h.2.1) = cells + 1 + N + (r.2.2.2.1 - (h.2.1 + 1 + N)) by omega, show slots + (r.2.2.2.2 - h.2.2) = slots + N + N * K + (r.2.2.2.2 - (h.2.2 + N + N * K)) by omega]
  exact b1
end
section
theorem uw_D : ∀ w ∈ u_ws "VersionDesk" T_D 3, w ∈ lw_tbl ∧ xper w = true := by
  have h : u_ws "VersionDesk" T_D 3 = [Cond.laysFinal "VersionDesk" "VersionDesk" "transactions" "[LVersionDesk$Transaction;", Cond.laysFinal "VersionDesk" "VersionDesk" "versions" "LVersionDesk$Versions;", Cond.lays "VersionDesk" "VersionDesk" "clock" "I"] := by rfl
  rw [h]
  exact List.forall_mem_cons.mpr ⟨⟨kw_76, rfl⟩, List.forall_mem_cons.mpr ⟨⟨kw_78, rfl⟩, List.forall_mem_cons.mpr ⟨⟨kw_80, rfl⟩, fun _ h => absurd h List.not_mem_nil⟩⟩⟩
theorem uw_T : ∀ w ∈ u_ws "VersionDesk$Transaction" T_T 7, w ∈ lw_tbl ∧ xper w = true := by
  have h : u_ws "VersionDesk$Transaction" T_T 7 = [Cond.lays "VersionDesk$Transaction" "VersionDesk$Transaction" "open" "Z", Cond.lays "VersionDesk$Transaction" "VersionDesk$Transaction" "start" "I", Cond.lays "VersionDesk$Transaction" "VersionDesk$Transaction" "kind" "I", Cond.lays "VersionDesk$Transaction" "VersionDesk$Transaction" "layers" "I", Cond.lays "VersionDesk$Transaction" "VersionDesk$Transaction" "seen" "I", Cond.laysFinal "VersionDesk$Transaction" "VersionDesk$Transaction" "wrote" "[I", Cond.laysFinal "VersionDesk$Transaction" "VersionDesk$Transaction" "values" "[[J"] := by rfl
  rw [h]
  exact List.forall_mem_cons.mpr ⟨⟨kw_37, rfl⟩, List.forall_mem_cons.mpr ⟨⟨kw_39, rfl⟩, List.forall_mem_cons.mpr ⟨⟨kw_41, rfl⟩, List.forall_mem_cons.mpr ⟨⟨kw_43, rfl⟩, List.forall_mem_cons.mpr ⟨⟨kw_45, rfl⟩, List.forall_mem_cons.mpr ⟨⟨kw_47, rfl⟩, List.forall_mem_cons.mpr ⟨⟨kw_49, rfl⟩, fun _ h => absurd h List.not_mem_nil⟩⟩⟩⟩⟩⟩⟩
theorem uw_V : ∀ w ∈ u_ws "VersionDesk$Versions" T_V 4, w ∈ lw_tbl ∧ xper w = true := by
  have h : u_ws "VersionDesk$Versions" T_V 4 = [Cond.laysFinal "VersionDesk$Versions" "VersionDesk$Versions" "cells" "[I", Cond.laysFinal "VersionDesk$Versions" "VersionDesk$Versions" "clocks" "[I", Cond.laysFinal "VersionDesk$Versions" "VersionDesk$Versions" "values" "[J", Cond.lays "VersionDesk$Versions" "VersionDesk$Versions" "size" "I"] := by rfl
  rw [h]
  exact List.forall_mem_cons.mpr ⟨⟨kw_64, rfl⟩, List.forall_mem_cons.mpr ⟨⟨kw_66, rfl⟩, List.forall_mem_cons.mpr ⟨⟨kw_68, rfl⟩, List.forall_mem_cons.mpr ⟨⟨kw_70, rfl⟩, fun _ h => absurd h List.not_mem_nil⟩⟩⟩⟩
theorem uw_M : ∀ w ∈ u_ws "VersionDeskModel" T_M 14, w ∈ lw_tbl ∧ xper w = true := by
  have h : u_ws "VersionDeskModel" T_M 14 = [Cond.lays "VersionDeskModel" "VersionDeskModel" "thrown" "I", Cond.lays "VersionDeskModel" "VersionDeskModel" "clock" "I", Cond.laysFinal "VersionDeskModel" "VersionDeskModel" "open" "[Z", Cond.laysFinal "VersionDeskModel" "VersionDeskModel" "saw" "[Z", Cond.laysFinal "VersionDeskModel" "VersionDeskModel" "wrote" "[Z", Cond.laysFinal "VersionDeskModel" "VersionDeskModel" "start" "[I", Cond.laysFinal "VersionDeskModel" "VersionDeskModel" "kind" "[I", Cond.laysFinal "VersionDeskModel" "VersionDeskModel" "layers" "[I", Cond.laysFinal "VersionDeskModel" "VersionDeskModel" "began" "[J", Cond.laysFinal "VersionDeskModel" "VersionDeskModel" "value" "[J", Cond.laysFinal "VersionDeskModel" "VersionDeskModel" "versions" "[I", Cond.laysFinal "VersionDeskModel" "VersionDeskModel" "at" "[I", Cond.laysFinal "VersionDeskModel" "VersionDeskModel" "last" "[I", Cond.laysFinal "VersionDeskModel" "VersionDeskModel" "was" "[J"] := by rfl
  rw [h]
  exact List.forall_mem_cons.mpr ⟨⟨kw_429, rfl⟩, List.forall_mem_cons.mpr ⟨⟨kw_431, rfl⟩, List.forall_mem_cons.mpr ⟨⟨kw_433, rfl⟩, List.forall_mem_cons.mpr ⟨⟨kw_435, rfl⟩, List.forall_mem_cons.mpr ⟨⟨kw_437, rfl⟩, List.forall_mem_cons.mpr ⟨⟨kw_439, rfl⟩, List.forall_mem_cons.mpr ⟨⟨kw_441, rfl⟩, List.forall_mem_cons.mpr ⟨⟨kw_443, rfl⟩, List.forall_mem_cons.mpr ⟨⟨kw_445, rfl⟩, List.forall_mem_cons.mpr ⟨⟨kw_447, rfl⟩, List.forall_mem_cons.mpr ⟨⟨kw_449, rfl⟩, List.forall_mem_cons.mpr ⟨⟨kw_451, rfl⟩, List.forall_mem_cons.mpr ⟨⟨kw_453, rfl⟩, List.forall_mem_cons.mpr ⟨⟨kw_455, rfl⟩, fun _ h => absurd h List.not_mem_nil⟩⟩⟩⟩⟩⟩⟩⟩⟩⟩⟩⟩⟩⟩
theorem fD_transactions : xF "VersionDesk" 11 0 0 (ty_D 0) true := ⟨"VersionDesk", T_D, 3, ty_D, rfl, uw_D, ty_D_ok, n_D, by decide, rfl, rfl, rfl, kw_73, rfl⟩
theorem newD_T : xN "VersionDesk" 9 1 7 [.int 0, .int 0, .int 0, .int 0, .int 0, .null, .null] := ⟨"VersionDesk$Transaction", T_T, 7, ty_T, rfl, uw_T, ty_T_ok, kw_21, kw_23, kw_2, by
  intro k hk
  rcases (show k = 0 ∨ k = 1 ∨ k = 2 ∨ k = 3 ∨ k = 4 ∨ k = 5 ∨ k = 6 by omega) with rfl | rfl | rfl | rfl | rfl | rfl | rfl <;> rfl⟩
theorem hT_init : xHas mT_init := ⟨by decide +kernel, Or.inl ⟨rfl, kw_26⟩, by decide, by decide, by decide⟩
theorem cD_T_init : xCI "VersionDesk" 15 mT_init 0 := ⟨hT_init, kw_24, kw_25, rfl, kw_26, by decide +kernel⟩
theorem newD_V : xN "VersionDesk" 16 2 4 [.null, .null, .null, .int 0] := ⟨"VersionDesk$Versions", T_V, 4, ty_V, rfl, uw_V, ty_V_ok, kw_54, kw_55, kw_3, by
  intro k hk
  rcases (show k = 0 ∨ k = 1 ∨ k = 2 ∨ k = 3 by omega) with rfl | rfl | rfl | rfl <;> rfl⟩
theorem hV_init : xHas mV_init := ⟨by decide +kernel, Or.inl ⟨rfl, kw_58⟩, by decide, by decide, by decide⟩
theorem cD_V_init : xCI "VersionDesk" 18 mV_init 0 := ⟨hV_init, kw_56, kw_57, rfl, kw_58, by decide +kernel⟩
theorem fD_versions : xF "VersionDesk" 19 0 1 (ty_D 1) true := ⟨"VersionDesk", T_D, 3, ty_D, rfl, uw_D, ty_D_ok, n_D, by decide, rfl, rfl, rfl, kw_74, rfl⟩
theorem fD_clock : xF "VersionDesk" 23 0 2 (ty_D 2) false := ⟨"VersionDesk", T_D, 3, ty_D, rfl, uw_D, ty_D_ok, n_D, by decide, rfl, rfl, rfl, kw_75, rfl⟩
theorem hD_leastNotOpen : xHas mD_leastNotOpen := ⟨by decide +kernel, Or.inl ⟨rfl, kw_197⟩, by decide, by decide, by decide⟩
theorem cD_D_leastNotOpen : xCV "VersionDesk" 30 mD_leastNotOpen 0 0 := ⟨hD_leastNotOpen, kw_194, kw_196, ks_4, rfl, by decide +kernel⟩
theorem hT_open : xHas mT_open := ⟨by decide +kernel, Or.inl ⟨rfl, kw_216⟩, by decide, by decide, by decide⟩
theorem cD_T_open : xCV "VersionDesk" 37 mT_open 1 2 := ⟨hT_open, kw_213, kw_214, kw_215, rfl, by decide +kernel⟩
theorem hD_openOne : xHas mD_openOne := ⟨by decide +kernel, Or.inl ⟨rfl, kw_228⟩, by decide, by decide, by decide⟩
theorem cD_D_openOne : xCV "VersionDesk" 41 mD_openOne 0 1 := ⟨hD_openOne, kw_225, kw_227, ks_5, rfl, by decide +kernel⟩
theorem hD_requireCell : xHas mD_requireCell := ⟨by decide +kernel, Or.inl ⟨rfl, kw_246⟩, by decide, by decide, by decide⟩
theorem cD_D_requireCell : xCS "VersionDesk" 45 mD_requireCell 1 := ⟨hD_requireCell, kw_244, kw_245, kw_1, by decide +kernel⟩
theorem hT_layerThatWrote : xHas mT_layerThatWrote := ⟨by decide +kernel, Or.inl ⟨rfl, kw_250⟩, by decide, by decide, by decide⟩
theorem cD_T_layerThatWrote : xCV "VersionDesk" 49 mT_layerThatWrote 1 1 := ⟨hT_layerThatWrote, kw_247, kw_248, kw_249, rfl, by decide +kernel⟩
theorem hT_see : xHas mT_see := ⟨by decide +kernel, Or.inl ⟨rfl, kw_254⟩, by decide, by decide, by decide⟩
theorem cD_T_see : xCV "VersionDesk" 53 mT_see 1 1 := ⟨hT_see, kw_251, kw_252, kw_253, rfl, by decide +kernel⟩
theorem hD_reading : xHas mD_reading := ⟨by decide +kernel, Or.inl ⟨rfl, kw_258⟩, by decide, by decide, by decide⟩
theorem cD_D_reading : xCV "VersionDesk" 56 mD_reading 0 2 := ⟨hD_reading, kw_255, kw_257, ks_6, rfl, by decide +kernel⟩
theorem hT_put : xHas mT_put := ⟨by decide +kernel, Or.inl ⟨rfl, kw_281⟩, by decide, by decide, by decide⟩
theorem cD_T_put : xCV "VersionDesk" 60 mT_put 1 2 := ⟨hT_put, kw_278, kw_279, kw_280, rfl, by decide +kernel⟩
theorem hT_layers : xHas mT_layers := ⟨by decide +kernel, Or.inl ⟨rfl, kw_296⟩, by decide, by decide, by decide⟩
theorem cD_T_layers : xCV "VersionDesk" 64 mT_layers 1 0 := ⟨hT_layers, kw_293, kw_294, kw_295, rfl, by decide +kernel⟩
theorem hT_addLayer : xHas mT_addLayer := ⟨by decide +kernel, Or.inl ⟨rfl, kw_300⟩, by decide, by decide, by decide⟩
theorem cD_T_addLayer : xCV "VersionDesk" 67 mT_addLayer 1 0 := ⟨hT_addLayer, kw_297, kw_298, kw_299, rfl, by decide +kernel⟩
theorem hT_copyHighestLayerDown : xHas mT_copyHighestLayerDown := ⟨by decide +kernel, Or.inl ⟨rfl, kw_311⟩, by decide, by decide, by decide⟩
theorem cD_T_copyHighestLayerDown : xCV "VersionDesk" 70 mT_copyHighestLayerDown 1 0 := ⟨hT_copyHighestLayerDown, kw_308, kw_309, kw_310, rfl, by decide +kernel⟩
theorem hT_removeLayer : xHas mT_removeLayer := ⟨by decide +kernel, Or.inl ⟨rfl, kw_315⟩, by decide, by decide, by decide⟩
theorem cD_T_removeLayer : xCV "VersionDesk" 73 mT_removeLayer 1 0 := ⟨hT_removeLayer, kw_312, kw_313, kw_314, rfl, by decide +kernel⟩
theorem hD_spoiledCells : xHas mD_spoiledCells := ⟨by decide +kernel, Or.inl ⟨rfl, kw_326⟩, by decide, by decide, by decide⟩
theorem cD_D_spoiledCells : xCV "VersionDesk" 76 mD_spoiledCells 0 1 := ⟨hD_spoiledCells, kw_323, kw_325, ks_9, rfl, by decide +kernel⟩
theorem hT_close : xHas mT_close := ⟨by decide +kernel, Or.inl ⟨rfl, kw_342⟩, by decide, by decide, by decide⟩
theorem cD_T_close : xCV "VersionDesk" 80 mT_close 1 0 := ⟨hT_close, kw_339, kw_340, kw_341, rfl, by decide +kernel⟩
theorem hT_written : xHas mT_written := ⟨by decide +kernel, Or.inl ⟨rfl, kw_334⟩, by decide, by decide, by decide⟩
theorem cD_T_written : xCV "VersionDesk" 83 mT_written 1 0 := ⟨hT_written, kw_343, kw_332, kw_333, rfl, by decide +kernel⟩
theorem hJ_bitCount : xHas mJ_bitCount := ⟨by decide +kernel, Or.inl ⟨rfl, kw_346⟩, by decide, by decide, by decide⟩
theorem cD_J_bitCount : xCS "VersionDesk" 86 mJ_bitCount 1 := ⟨hJ_bitCount, kw_344, kw_345, kw_11, by decide +kernel⟩
theorem hV_haveRoomFor : xHas mV_haveRoomFor := ⟨by decide +kernel, Or.inl ⟨rfl, kw_353⟩, by decide, by decide, by decide⟩
theorem cD_V_haveRoomFor : xCV "VersionDesk" 91 mV_haveRoomFor 2 1 := ⟨hV_haveRoomFor, kw_350, kw_351, kw_352, rfl, by decide +kernel⟩
theorem hD_keepVersions : xHas mD_keepVersions := ⟨by decide +kernel, Or.inl ⟨rfl, kw_357⟩, by decide, by decide, by decide⟩
theorem cD_D_keepVersions : xCV "VersionDesk" 95 mD_keepVersions 0 2 := ⟨hD_keepVersions, kw_354, kw_356, ks_10, rfl, by decide +kernel⟩
theorem hT_heeded : xHas mT_heeded := ⟨by decide +kernel, Or.inl ⟨rfl, kw_330⟩, by decide, by decide, by decide⟩
theorem cD_T_heeded : xCV "VersionDesk" 99 mT_heeded 1 0 := ⟨hT_heeded, kw_327, kw_328, kw_329, rfl, by decide +kernel⟩
theorem hV_know : xHas mV_know := ⟨by decide +kernel, Or.inl ⟨rfl, kw_393⟩, by decide, by decide, by decide⟩
theorem cD_V_know : xCV "VersionDesk" 102 mV_know 2 2 := ⟨hV_know, kw_390, kw_391, kw_392, rfl, by decide +kernel⟩
theorem hV_valueAt : xHas mV_valueAt := ⟨by decide +kernel, Or.inl ⟨rfl, kw_266⟩, by decide, by decide, by decide⟩
theorem cD_V_valueAt : xCV "VersionDesk" 109 mV_valueAt 2 2 := ⟨hV_valueAt, kw_263, kw_264, kw_265, rfl, by decide +kernel⟩
theorem hD_floor : xHas mD_floor := ⟨by decide +kernel, Or.inl ⟨rfl, kw_90⟩, by decide, by decide, by decide⟩
theorem cD_D_floor : xCV "VersionDesk" 113 mD_floor 0 0 := ⟨hD_floor, kw_87, kw_89, ks_0, rfl, by decide +kernel⟩
theorem hV_removeCovered : xHas mV_removeCovered := ⟨by decide +kernel, Or.inl ⟨rfl, kw_105⟩, by decide, by decide, by decide⟩
theorem cD_V_removeCovered : xCV "VersionDesk" 116 mV_removeCovered 2 1 := ⟨hV_removeCovered, kw_102, kw_103, kw_104, rfl, by decide +kernel⟩
theorem hT_start : xHas mT_start := ⟨by decide +kernel, Or.inl ⟨rfl, kw_98⟩, by decide, by decide, by decide⟩
theorem cD_T_start : xCV "VersionDesk" 119 mT_start 1 0 := ⟨hT_start, kw_95, kw_96, kw_97, rfl, by decide +kernel⟩
theorem hT_kind : xHas mT_kind := ⟨by decide +kernel, Or.inl ⟨rfl, kw_404⟩, by decide, by decide, by decide⟩
theorem cD_T_kind : xCV "VersionDesk" 122 mT_kind 1 0 := ⟨hT_kind, kw_401, kw_402, kw_403, rfl, by decide +kernel⟩
theorem hT_seen : xHas mT_seen := ⟨by decide +kernel, Or.inl ⟨rfl, kw_408⟩, by decide, by decide, by decide⟩
theorem cD_T_seen : xCV "VersionDesk" 125 mT_seen 1 0 := ⟨hT_seen, kw_405, kw_406, kw_407, rfl, by decide +kernel⟩
theorem hD_howManyOpen : xHas mD_howManyOpen := ⟨by decide +kernel, Or.inl ⟨rfl, kw_117⟩, by decide, by decide, by decide⟩
theorem cD_D_howManyOpen : xCV "VersionDesk" 128 mD_howManyOpen 0 0 := ⟨hD_howManyOpen, kw_114, kw_116, ks_2, rfl, by decide +kernel⟩
theorem hV_size : xHas mV_size := ⟨by decide +kernel, Or.inl ⟨rfl, kw_121⟩, by decide, by decide, by decide⟩
theorem cD_V_size : xCV "VersionDesk" 131 mV_size 2 0 := ⟨hV_size, kw_118, kw_119, kw_120, rfl, by decide +kernel⟩
theorem hT_isOpen : xHas mT_isOpen := ⟨by decide +kernel, Or.inl ⟨rfl, kw_94⟩, by decide, by decide, by decide⟩
theorem cD_T_isOpen : xCV "VersionDesk" 134 mT_isOpen 1 0 := ⟨hT_isOpen, kw_91, kw_92, kw_93, rfl, by decide +kernel⟩
theorem hJ_min : xHas mJ_min := ⟨by decide +kernel, Or.inl ⟨rfl, kw_101⟩, by decide, by decide, by decide⟩
theorem cD_J_min : xCS "VersionDesk" 138 mJ_min 2 := ⟨hJ_min, kw_99, kw_100, kw_12, by decide +kernel⟩
theorem hT_valueIn : xHas mT_valueIn := ⟨by decide +kernel, Or.inl ⟨rfl, kw_262⟩, by decide, by decide, by decide⟩
theorem cD_T_valueIn : xCV "VersionDesk" 144 mT_valueIn 1 2 := ⟨hT_valueIn, kw_259, kw_260, kw_261, rfl, by decide +kernel⟩
theorem hV_cellsWrittenAfter : xHas mV_cellsWrittenAfter := ⟨by decide +kernel, Or.inl ⟨rfl, kw_338⟩, by decide, by decide, by decide⟩
theorem cD_V_cellsWrittenAfter : xCV "VersionDesk" 147 mV_cellsWrittenAfter 2 1 := ⟨hV_cellsWrittenAfter, kw_335, kw_336, kw_337, rfl, by decide +kernel⟩
theorem hV_append : xHas mV_append := ⟨by decide +kernel, Or.inl ⟨rfl, kw_361⟩, by decide, by decide, by decide⟩
theorem cD_V_append : xCV "VersionDesk" 150 mV_append 2 3 := ⟨hV_append, kw_358, kw_359, kw_360, rfl, by decide +kernel⟩
theorem fM_open : xF "VersionDeskModel" 9 3 2 (ty_M 2) true := ⟨"VersionDeskModel", T_M, 14, ty_M, rfl, uw_M, ty_M_ok, n_M, by decide, rfl, rfl, rfl, kw_417, rfl⟩
theorem fM_saw : xF "VersionDeskModel" 13 3 3 (ty_M 3) true := ⟨"VersionDeskModel", T_M, 14, ty_M, rfl, uw_M, ty_M_ok, n_M, by decide, rfl, rfl, rfl, kw_418, rfl⟩
theorem fM_wrote : xF "VersionDeskModel" 16 3 4 (ty_M 4) true := ⟨"VersionDeskModel", T_M, 14, ty_M, rfl, uw_M, ty_M_ok, n_M, by decide, rfl, rfl, rfl, kw_419, rfl⟩
theorem fM_start : xF "VersionDeskModel" 19 3 5 (ty_M 5) true := ⟨"VersionDeskModel", T_M, 14, ty_M, rfl, uw_M, ty_M_ok, n_M, by decide, rfl, rfl, rfl, kw_420, rfl⟩
theorem fM_kind : xF "VersionDeskModel" 23 3 6 (ty_M 6) true := ⟨"VersionDeskModel", T_M, 14, ty_M, rfl, uw_M, ty_M_ok, n_M, by decide, rfl, rfl, rfl, kw_421, rfl⟩
theorem fM_layers : xF "VersionDeskModel" 26 3 7 (ty_M 7) true := ⟨"VersionDeskModel", T_M, 14, ty_M, rfl, uw_M, ty_M_ok, n_M, by decide, rfl, rfl, rfl, kw_422, rfl⟩
theorem fM_began : xF "VersionDeskModel" 29 3 8 (ty_M 8) true := ⟨"VersionDeskModel", T_M, 14, ty_M, rfl, uw_M, ty_M_ok, n_M, by decide, rfl, rfl, rfl, kw_423, rfl⟩
theorem fM_value : xF "VersionDeskModel" 33 3 9 (ty_M 9) true := ⟨"VersionDeskModel", T_M, 14, ty_M, rfl, uw_M, ty_M_ok, n_M, by decide, rfl, rfl, rfl, kw_424, rfl⟩
theorem fM_versions : xF "VersionDeskModel" 36 3 10 (ty_M 10) true := ⟨"VersionDeskModel", T_M, 14, ty_M, rfl, uw_M, ty_M_ok, n_M, by decide, rfl, rfl, rfl, kw_425, rfl⟩
theorem fM_at : xF "VersionDeskModel" 39 3 11 (ty_M 11) true := ⟨"VersionDeskModel", T_M, 14, ty_M, rfl, uw_M, ty_M_ok, n_M, by decide, rfl, rfl, rfl, kw_426, rfl⟩
theorem fM_last : xF "VersionDeskModel" 42 3 12 (ty_M 12) true := ⟨"VersionDeskModel", T_M, 14, ty_M, rfl, uw_M, ty_M_ok, n_M, by decide, rfl, rfl, rfl, kw_427, rfl⟩
theorem fM_was : xF "VersionDeskModel" 45 3 13 (ty_M 13) true := ⟨"VersionDeskModel", T_M, 14, ty_M, rfl, uw_M, ty_M_ok, n_M, by decide, rfl, rfl, rfl, kw_428, rfl⟩
theorem fM_thrown : xF "VersionDeskModel" 48 3 0 (ty_M 0) false := ⟨"VersionDeskModel", T_M, 14, ty_M, rfl, uw_M, ty_M_ok, n_M, by decide, rfl, rfl, rfl, kw_415, rfl⟩
theorem hM_no : xHas mM_no := ⟨by decide +kernel, Or.inl ⟨rfl, kw_490⟩, by decide, by decide, by decide⟩
theorem cM_M_no : xCV "VersionDeskModel" 52 mM_no 3 1 := ⟨hM_no, kw_487, kw_489, ks_15, rfl, by decide +kernel⟩
theorem hM_layerOf : xHas mM_layerOf := ⟨by decide +kernel, Or.inl ⟨rfl, kw_494⟩, by decide, by decide, by decide⟩
theorem cM_M_layerOf : xCV "VersionDeskModel" 56 mM_layerOf 3 2 := ⟨hM_layerOf, kw_491, kw_493, ks_16, rfl, by decide +kernel⟩
theorem hM_isSpoiled : xHas mM_isSpoiled := ⟨by decide +kernel, Or.inl ⟨rfl, kw_522⟩, by decide, by decide, by decide⟩
theorem cM_M_isSpoiled : xCV "VersionDeskModel" 60 mM_isSpoiled 3 2 := ⟨hM_isSpoiled, kw_519, kw_521, ks_19, rfl, by decide +kernel⟩
theorem fM_clock : xF "VersionDeskModel" 64 3 1 (ty_M 1) false := ⟨"VersionDeskModel", T_M, 14, ty_M, rfl, uw_M, ty_M_ok, n_M, by decide, rfl, rfl, rfl, kw_416, rfl⟩
theorem cM_J_min : xCS "VersionDeskModel" 67 mJ_min 2 := ⟨hJ_min, kw_555, kw_100, kw_12, by decide +kernel⟩
theorem hM_fail : xHas mM_fail := ⟨by decide +kernel, Or.inl ⟨rfl, kw_470⟩, by decide, by decide, by decide⟩
theorem cM_M_fail : xCV "VersionDeskModel" 72 mM_fail 3 1 := ⟨hM_fail, kw_467, kw_469, ks_11, rfl, by decide +kernel⟩
theorem hM_clear : xHas mM_clear := ⟨by decide +kernel, Or.inl ⟨rfl, kw_474⟩, by decide, by decide, by decide⟩
theorem cM_M_clear : xCV "VersionDeskModel" 76 mM_clear 3 2 := ⟨hM_clear, kw_471, kw_473, ks_12, rfl, by decide +kernel⟩
theorem hM_now : xHas mM_now := ⟨by decide +kernel, Or.inl ⟨rfl, kw_478⟩, by decide, by decide, by decide⟩
theorem cM_M_now : xCV "VersionDeskModel" 80 mM_now 3 1 := ⟨hM_now, kw_475, kw_477, ks_13, rfl, by decide +kernel⟩
theorem hM_none : xHas mM_none := ⟨by decide +kernel, Or.inl ⟨rfl, kw_486⟩, by decide, by decide, by decide⟩
theorem cM_M_none : xCV "VersionDeskModel" 84 mM_none 3 2 := ⟨hM_none, kw_483, kw_485, ks_14, rfl, by decide +kernel⟩
theorem hM_reading : xHas mM_reading := ⟨by decide +kernel, Or.inl ⟨rfl, kw_498⟩, by decide, by decide, by decide⟩
theorem cM_M_reading : xCV "VersionDeskModel" 87 mM_reading 3 2 := ⟨hM_reading, kw_495, kw_497, ks_17, rfl, by decide +kernel⟩
theorem hM_spoils : xHas mM_spoils := ⟨by decide +kernel, Or.inl ⟨rfl, kw_518⟩, by decide, by decide, by decide⟩
theorem cM_M_spoils : xCV "VersionDeskModel" 91 mM_spoils 3 1 := ⟨hM_spoils, kw_515, kw_517, ks_18, rfl, by decide +kernel⟩
theorem hM_written : xHas mM_written := ⟨by decide +kernel, Or.inl ⟨rfl, kw_526⟩, by decide, by decide, by decide⟩
theorem cM_M_written : xCV "VersionDeskModel" 94 mM_written 3 1 := ⟨hM_written, kw_523, kw_525, ks_20, rfl, by decide +kernel⟩
theorem hM_all : xHas mM_all := ⟨by decide +kernel, Or.inl ⟨rfl, kw_530⟩, by decide, by decide, by decide⟩
theorem cM_M_all : xCV "VersionDeskModel" 97 mM_all 3 0 := ⟨hM_all, kw_527, kw_529, ks_21, rfl, by decide +kernel⟩
theorem hM_floor : xHas mM_floor := ⟨by decide +kernel, Or.inl ⟨rfl, kw_554⟩, by decide, by decide, by decide⟩
theorem cM_M_floor : xCV "VersionDeskModel" 101 mM_floor 3 0 := ⟨hM_floor, kw_551, kw_553, ks_22, rfl, by decide +kernel⟩
theorem fT_open : xF "VersionDesk$Transaction" 9 1 0 (ty_T 0) false := ⟨"VersionDesk$Transaction", T_T, 7, ty_T, rfl, uw_T, ty_T_ok, n_T, by decide, rfl, rfl, rfl, kw_30, rfl⟩
theorem fT_layers : xF "VersionDesk$Transaction" 15 1 3 (ty_T 3) false := ⟨"VersionDesk$Transaction", T_T, 7, ty_T, rfl, uw_T, ty_T_ok, n_T, by decide, rfl, rfl, rfl, kw_33, rfl⟩
theorem fT_wrote : xF "VersionDesk$Transaction" 19 1 5 (ty_T 5) true := ⟨"VersionDesk$Transaction", T_T, 7, ty_T, rfl, uw_T, ty_T_ok, n_T, by decide, rfl, rfl, rfl, kw_35, rfl⟩
theorem fT_values : xF "VersionDesk$Transaction" 25 1 6 (ty_T 6) true := ⟨"VersionDesk$Transaction", T_T, 7, ty_T, rfl, uw_T, ty_T_ok, n_T, by decide, rfl, rfl, rfl, kw_36, rfl⟩
theorem fT_start : xF "VersionDesk$Transaction" 28 1 1 (ty_T 1) false := ⟨"VersionDesk$Transaction", T_T, 7, ty_T, rfl, uw_T, ty_T_ok, n_T, by decide, rfl, rfl, rfl, kw_31, rfl⟩
theorem fT_kind : xF "VersionDesk$Transaction" 31 1 2 (ty_T 2) false := ⟨"VersionDesk$Transaction", T_T, 7, ty_T, rfl, uw_T, ty_T_ok, n_T, by decide, rfl, rfl, rfl, kw_32, rfl⟩
theorem fT_seen : xF "VersionDesk$Transaction" 34 1 4 (ty_T 4) false := ⟨"VersionDesk$Transaction", T_T, 7, ty_T, rfl, uw_T, ty_T_ok, n_T, by decide, rfl, rfl, rfl, kw_34, rfl⟩
theorem cT_T_written : xCV "VersionDesk$Transaction" 37 mT_written 1 0 := ⟨hT_written, kw_331, kw_332, kw_333, rfl, by decide +kernel⟩
theorem hT_putIn : xHas mT_putIn := ⟨by decide +kernel, Or.inl ⟨rfl, kw_285⟩, by decide, by decide, by decide⟩
theorem cT_T_putIn : xCV "VersionDesk$Transaction" 41 mT_putIn 1 3 := ⟨hT_putIn, kw_282, kw_284, ks_8, rfl, by decide +kernel⟩
theorem fV_cells : xF "VersionDesk$Versions" 9 2 0 (ty_V 0) true := ⟨"VersionDesk$Versions", T_V, 4, ty_V, rfl, uw_V, ty_V_ok, n_V, by decide, rfl, rfl, rfl, kw_60, rfl⟩
theorem fV_clocks : xF "VersionDesk$Versions" 15 2 1 (ty_V 1) true := ⟨"VersionDesk$Versions", T_V, 4, ty_V, rfl, uw_V, ty_V_ok, n_V, by decide, rfl, rfl, rfl, kw_61, rfl⟩
theorem fV_values : xF "VersionDesk$Versions" 18 2 2 (ty_V 2) true := ⟨"VersionDesk$Versions", T_V, 4, ty_V, rfl, uw_V, ty_V_ok, n_V, by decide, rfl, rfl, rfl, kw_62, rfl⟩
theorem fV_size : xF "VersionDesk$Versions" 22 2 3 (ty_V 3) false := ⟨"VersionDesk$Versions", T_V, 4, ty_V, rfl, uw_V, ty_V_ok, n_V, by decide, rfl, rfl, rfl, kw_63, rfl⟩
theorem hV_indexAt : xHas mV_indexAt := ⟨by decide +kernel, Or.inl ⟨rfl, kw_270⟩, by decide, by decide, by decide⟩
theorem cV_V_indexAt : xCV "VersionDesk$Versions" 26 mV_indexAt 2 2 := ⟨hV_indexAt, kw_267, kw_269, ks_7, rfl, by decide +kernel⟩
theorem hV_move : xHas mV_move := ⟨by decide +kernel, Or.inl ⟨rfl, kw_109⟩, by decide, by decide, by decide⟩
theorem cV_V_move : xCV "VersionDesk$Versions" 30 mV_move 2 2 := ⟨hV_move, kw_106, kw_108, ks_1, rfl, by decide +kernel⟩
theorem hD_begin : xHas mD_begin := ⟨by decide +kernel, Or.inl ⟨rfl, kw_130⟩, by decide, by decide, by decide⟩
theorem cL_D_begin : xCV "VersionDeskLaw" 7 mD_begin 0 1 := ⟨hD_begin, kw_127, kw_128, kw_129, rfl, by decide +kernel⟩
theorem hD_read : xHas mD_read := ⟨by decide +kernel, Or.inl ⟨rfl, kw_224⟩, by decide, by decide, by decide⟩
theorem cL_D_read : xCV "VersionDeskLaw" 17 mD_read 0 2 := ⟨hD_read, kw_221, kw_222, kw_223, rfl, by decide +kernel⟩
theorem hD_write : xHas mD_write := ⟨by decide +kernel, Or.inl ⟨rfl, kw_277⟩, by decide, by decide, by decide⟩
theorem cL_D_write : xCV "VersionDeskLaw" 23 mD_write 0 3 := ⟨hD_write, kw_274, kw_275, kw_276, rfl, by decide +kernel⟩
theorem hD_push : xHas mD_push := ⟨by decide +kernel, Or.inl ⟨rfl, kw_292⟩, by decide, by decide, by decide⟩
theorem cL_D_push : xCV "VersionDeskLaw" 27 mD_push 0 1 := ⟨hD_push, kw_289, kw_290, kw_291, rfl, by decide +kernel⟩
theorem hD_pop : xHas mD_pop := ⟨by decide +kernel, Or.inl ⟨rfl, kw_307⟩, by decide, by decide, by decide⟩
theorem cL_D_pop : xCV "VersionDeskLaw" 30 mD_pop 0 2 := ⟨hD_pop, kw_304, kw_305, kw_306, rfl, by decide +kernel⟩
theorem hD_commit : xHas mD_commit := ⟨by decide +kernel, Or.inl ⟨rfl, kw_322⟩, by decide, by decide, by decide⟩
theorem cL_D_commit : xCV "VersionDeskLaw" 34 mD_commit 0 1 := ⟨hD_commit, kw_319, kw_320, kw_321, rfl, by decide +kernel⟩
theorem hD_drop : xHas mD_drop := ⟨by decide +kernel, Or.inl ⟨rfl, kw_368⟩, by decide, by decide, by decide⟩
theorem cL_D_drop : xCV "VersionDeskLaw" 37 mD_drop 0 1 := ⟨hD_drop, kw_365, kw_366, kw_367, rfl, by decide +kernel⟩
theorem hD_spoiled : xHas mD_spoiled := ⟨by decide +kernel, Or.inl ⟨rfl, kw_375⟩, by decide, by decide, by decide⟩
theorem cL_D_spoiled : xCV "VersionDeskLaw" 40 mD_spoiled 0 1 := ⟨hD_spoiled, kw_372, kw_373, kw_374, rfl, by decide +kernel⟩
theorem hD_meets : xHas mD_meets := ⟨by decide +kernel, Or.inl ⟨rfl, kw_382⟩, by decide, by decide, by decide⟩
theorem cL_D_meets : xCV "VersionDeskLaw" 44 mD_meets 0 2 := ⟨hD_meets, kw_379, kw_380, kw_381, rfl, by decide +kernel⟩
theorem hD_past : xHas mD_past := ⟨by decide +kernel, Or.inl ⟨rfl, kw_389⟩, by decide, by decide, by decide⟩
theorem cL_D_past : xCV "VersionDeskLaw" 48 mD_past 0 2 := ⟨hD_past, kw_386, kw_387, kw_388, rfl, by decide +kernel⟩
theorem hD_about : xHas mD_about := ⟨by decide +kernel, Or.inl ⟨rfl, kw_400⟩, by decide, by decide, by decide⟩
theorem cL_D_about : xCV "VersionDeskLaw" 51 mD_about 0 2 := ⟨hD_about, kw_397, kw_398, kw_399, rfl, by decide +kernel⟩
theorem newL_D : xN "VersionDeskLaw" 8 0 3 [.null, .null, .int 0] := ⟨"VersionDesk", T_D, 3, ty_D, rfl, uw_D, ty_D_ok, kw_13, kw_14, kw_1, by
  intro k hk
  rcases (show k = 0 ∨ k = 1 ∨ k = 2 by omega) with rfl | rfl | rfl <;> rfl⟩
theorem hD_init : xHas mD_init := ⟨by decide +kernel, Or.inl ⟨rfl, kw_17⟩, by decide, by decide, by decide⟩
theorem cL_D_init : xCI "VersionDeskLaw" 55 mD_init 0 := ⟨hD_init, kw_15, kw_16, rfl, kw_17, by decide +kernel⟩
theorem newL_M : xN "VersionDeskLaw" 56 3 14 [.int 0, .int 0, .null, .null, .null, .null, .null, .null, .null, .null, .null, .null, .null, .null] := ⟨"VersionDeskModel", T_M, 14, ty_M, rfl, uw_M, ty_M_ok, kw_409, kw_410, kw_4, by
  intro k hk
  rcases (show k = 0 ∨ k = 1 ∨ k = 2 ∨ k = 3 ∨ k = 4 ∨ k = 5 ∨ k = 6 ∨ k = 7 ∨ k = 8 ∨ k = 9 ∨ k = 10 ∨ k = 11 ∨ k = 12 ∨ k = 13 by omega) with rfl | rfl | rfl | rfl | rfl | rfl | rfl | rfl | rfl | rfl | rfl | rfl | rfl | rfl <;> rfl⟩
theorem hM_init : xHas mM_init := ⟨by decide +kernel, Or.inl ⟨rfl, kw_413⟩, by decide, by decide, by decide⟩
theorem cL_M_init : xCI "VersionDeskLaw" 58 mM_init 0 := ⟨hM_init, kw_411, kw_412, rfl, kw_413, by decide +kernel⟩
theorem hL_begin : xHas mL_begin := ⟨by decide +kernel, Or.inr kw_124, by decide, by decide, by decide⟩
theorem cL_L_begin : xCS "VersionDeskLaw" 59 mL_begin 3 := ⟨hL_begin, kw_122, kw_123, kw_0, by decide +kernel⟩
theorem hM_begin : xHas mM_begin := ⟨by decide +kernel, Or.inl ⟨rfl, kw_466⟩, by decide, by decide, by decide⟩
theorem cL_M_begin : xCV "VersionDeskLaw" 64 mM_begin 3 1 := ⟨hM_begin, kw_463, kw_464, kw_465, rfl, by decide +kernel⟩
theorem hM_thrown : xHas mM_thrown := ⟨by decide +kernel, Or.inl ⟨rfl, kw_462⟩, by decide, by decide, by decide⟩
theorem cL_M_thrown : xCV "VersionDeskLaw" 65 mM_thrown 3 0 := ⟨hM_thrown, kw_459, kw_460, kw_461, rfl, by decide +kernel⟩
theorem hL_read : xHas mL_read := ⟨by decide +kernel, Or.inr kw_219, by decide, by decide, by decide⟩
theorem cL_L_read : xCS "VersionDeskLaw" 69 mL_read 4 := ⟨hL_read, kw_217, kw_218, kw_0, by decide +kernel⟩
theorem hM_read : xHas mM_read := ⟨by decide +kernel, Or.inl ⟨rfl, kw_482⟩, by decide, by decide, by decide⟩
theorem cL_M_read : xCV "VersionDeskLaw" 72 mM_read 3 2 := ⟨hM_read, kw_479, kw_480, kw_481, rfl, by decide +kernel⟩
theorem hL_write : xHas mL_write := ⟨by decide +kernel, Or.inr kw_273, by decide, by decide, by decide⟩
theorem cL_L_write : xCS "VersionDeskLaw" 75 mL_write 5 := ⟨hL_write, kw_271, kw_272, kw_0, by decide +kernel⟩
theorem hM_write : xHas mM_write := ⟨by decide +kernel, Or.inl ⟨rfl, kw_502⟩, by decide, by decide, by decide⟩
theorem cL_M_write : xCV "VersionDeskLaw" 78 mM_write 3 3 := ⟨hM_write, kw_499, kw_500, kw_501, rfl, by decide +kernel⟩
theorem hL_push : xHas mL_push := ⟨by decide +kernel, Or.inr kw_288, by decide, by decide, by decide⟩
theorem cL_L_push : xCS "VersionDeskLaw" 79 mL_push 3 := ⟨hL_push, kw_286, kw_287, kw_0, by decide +kernel⟩
theorem hM_push : xHas mM_push := ⟨by decide +kernel, Or.inl ⟨rfl, kw_506⟩, by decide, by decide, by decide⟩
theorem cL_M_push : xCV "VersionDeskLaw" 81 mM_push 3 1 := ⟨hM_push, kw_503, kw_504, kw_505, rfl, by decide +kernel⟩
theorem hL_pop : xHas mL_pop := ⟨by decide +kernel, Or.inr kw_303, by decide, by decide, by decide⟩
theorem cL_L_pop : xCS "VersionDeskLaw" 82 mL_pop 4 := ⟨hL_pop, kw_301, kw_302, kw_0, by decide +kernel⟩
theorem hM_pop : xHas mM_pop := ⟨by decide +kernel, Or.inl ⟨rfl, kw_510⟩, by decide, by decide, by decide⟩
theorem cL_M_pop : xCV "VersionDeskLaw" 85 mM_pop 3 2 := ⟨hM_pop, kw_507, kw_508, kw_509, rfl, by decide +kernel⟩
theorem hL_commit : xHas mL_commit := ⟨by decide +kernel, Or.inr kw_318, by decide, by decide, by decide⟩
theorem cL_L_commit : xCS "VersionDeskLaw" 86 mL_commit 3 := ⟨hL_commit, kw_316, kw_317, kw_0, by decide +kernel⟩
theorem hM_commit : xHas mM_commit := ⟨by decide +kernel, Or.inl ⟨rfl, kw_514⟩, by decide, by decide, by decide⟩
theorem cL_M_commit : xCV "VersionDeskLaw" 88 mM_commit 3 1 := ⟨hM_commit, kw_511, kw_512, kw_513, rfl, by decide +kernel⟩
theorem hL_drop : xHas mL_drop := ⟨by decide +kernel, Or.inr kw_364, by decide, by decide, by decide⟩
theorem cL_L_drop : xCS "VersionDeskLaw" 89 mL_drop 3 := ⟨hL_drop, kw_362, kw_363, kw_0, by decide +kernel⟩
theorem hM_drop : xHas mM_drop := ⟨by decide +kernel, Or.inl ⟨rfl, kw_534⟩, by decide, by decide, by decide⟩
theorem cL_M_drop : xCV "VersionDeskLaw" 91 mM_drop 3 1 := ⟨hM_drop, kw_531, kw_532, kw_533, rfl, by decide +kernel⟩
theorem hL_spoiled : xHas mL_spoiled := ⟨by decide +kernel, Or.inr kw_371, by decide, by decide, by decide⟩
theorem cL_L_spoiled : xCS "VersionDeskLaw" 92 mL_spoiled 3 := ⟨hL_spoiled, kw_369, kw_370, kw_0, by decide +kernel⟩
theorem hM_spoiled : xHas mM_spoiled := ⟨by decide +kernel, Or.inl ⟨rfl, kw_538⟩, by decide, by decide, by decide⟩
theorem cL_M_spoiled : xCV "VersionDeskLaw" 94 mM_spoiled 3 1 := ⟨hM_spoiled, kw_535, kw_536, kw_537, rfl, by decide +kernel⟩
theorem hL_meets : xHas mL_meets := ⟨by decide +kernel, Or.inr kw_378, by decide, by decide, by decide⟩
theorem cL_L_meets : xCS "VersionDeskLaw" 95 mL_meets 4 := ⟨hL_meets, kw_376, kw_377, kw_0, by decide +kernel⟩
theorem hM_meets : xHas mM_meets := ⟨by decide +kernel, Or.inl ⟨rfl, kw_542⟩, by decide, by decide, by decide⟩
theorem cL_M_meets : xCV "VersionDeskLaw" 97 mM_meets 3 2 := ⟨hM_meets, kw_539, kw_540, kw_541, rfl, by decide +kernel⟩
theorem hL_past : xHas mL_past := ⟨by decide +kernel, Or.inr kw_385, by decide, by decide, by decide⟩
theorem cL_L_past : xCS "VersionDeskLaw" 98 mL_past 4 := ⟨hL_past, kw_383, kw_384, kw_0, by decide +kernel⟩
theorem hM_past : xHas mM_past := ⟨by decide +kernel, Or.inl ⟨rfl, kw_546⟩, by decide, by decide, by decide⟩
theorem cL_M_past : xCV "VersionDeskLaw" 100 mM_past 3 2 := ⟨hM_past, kw_543, kw_544, kw_545, rfl, by decide +kernel⟩
theorem hD_forget : xHas mD_forget := ⟨by decide +kernel, Or.inl ⟨rfl, kw_86⟩, by decide, by decide, by decide⟩
theorem cL_D_forget : xCV "VersionDeskLaw" 101 mD_forget 0 0 := ⟨hD_forget, kw_83, kw_84, kw_85, rfl, by decide +kernel⟩
theorem hM_forget : xHas mM_forget := ⟨by decide +kernel, Or.inl ⟨rfl, kw_550⟩, by decide, by decide, by decide⟩
theorem cL_M_forget : xCV "VersionDeskLaw" 104 mM_forget 3 0 := ⟨hM_forget, kw_547, kw_548, kw_549, rfl, by decide +kernel⟩
theorem hL_about : xHas mL_about := ⟨by decide +kernel, Or.inr kw_396, by decide, by decide, by decide⟩
theorem cL_L_about : xCS "VersionDeskLaw" 105 mL_about 4 := ⟨hL_about, kw_394, kw_395, kw_0, by decide +kernel⟩
theorem hM_about : xHas mM_about := ⟨by decide +kernel, Or.inl ⟨rfl, kw_559⟩, by decide, by decide, by decide⟩
theorem cL_M_about : xCV "VersionDeskLaw" 107 mM_about 3 2 := ⟨hM_about, kw_556, kw_557, kw_558, rfl, by decide +kernel⟩
theorem hD_count : xHas mD_count := ⟨by decide +kernel, Or.inl ⟨rfl, kw_113⟩, by decide, by decide, by decide⟩
theorem cL_D_count : xCV "VersionDeskLaw" 108 mD_count 0 1 := ⟨hD_count, kw_110, kw_111, kw_112, rfl, by decide +kernel⟩
theorem hM_count : xHas mM_count := ⟨by decide +kernel, Or.inl ⟨rfl, kw_563⟩, by decide, by decide, by decide⟩
theorem cL_M_count : xCV "VersionDeskLaw" 111 mM_count 3 1 := ⟨hM_count, kw_560, kw_561, kw_562, rfl, by decide +kernel⟩
-- words by name
end
section
def xthr (h : xH) : xH := (h.1, h.2.1 + 1, h.2.2 + 6)
theorem at_IAE : ∀ a ∈ Bundle.ownAtoms0 "VersionDesk" 29 "java/lang/IllegalArgumentException" ["java/lang/RuntimeException", "java/lang/Exception"], (a ∈ lw_tbl ∧ xper a = true) ∨ a = Cond.isRef (.static "java/lang/Throwable" "UNASSIGNED_STACK" "[Ljava/lang/StackTraceElement;") ∨ a = Cond.isRef (.static "java/lang/Throwable" "SUPPRESSED_SENTINEL" "Ljava/util/List;") ∨ a = Cond.laysStatic "java/lang/Throwable" "UNASSIGNED_STACK" "[Ljava/lang/StackTraceElement;" ∨ a = Cond.laysStatic "java/lang/Throwable" "SUPPRESSED_SENTINEL" "Ljava/util/List;" := by decide +kernel
theorem x_thrIAE {E : xE} {d : Nat} {M : xM} {pc : Nat} {lv : xL} {st : List Value} {h : xH} (hc : M.1.cls = "VersionDesk") (hM : M.2.2.2.2 = []) (hd0 : decode M.2.1 pc = .ok (.new 27, 3)) (hd3 : decode M.2.1 (pc + 3) = .ok (.dup, 1)) (hd4 : decode M.2.1 (pc + 4) = .ok (.invokespecial 29, 3)) (hd7 : decode M.2.1 (pc + 7) = .ok (.athrow, 1)) (hst : (st.map fun v => v.category).sum ≤ 8) : xG E (d + 1) M pc lv st false h (true, .inr ("java/lang/IllegalArgumentException", h.2.1), xthr h) :=
  x_throw (X := "java/lang/IllegalArgumentException") (names := ["java/lang/RuntimeException", "java/lang/Exception"]) hM (by rw [hc]; exact kw_131) kw_132 kw_8 (by rw [hc]; exact at_IAE) (by decide +kernel) (by decide +kernel) (Nat.le_refl _) hd0 hd3 hd4 hd7 hst
theorem at_ISE : ∀ a ∈ Bundle.ownAtoms0 "VersionDesk" 36 "java/lang/IllegalStateException" ["java/lang/RuntimeException", "java/lang/Exception"], (a ∈ lw_tbl ∧ xper a = true) ∨ a = Cond.isRef (.static "java/lang/Throwable" "UNASSIGNED_STACK" "[Ljava/lang/StackTraceElement;") ∨ a = Cond.isRef (.static "java/lang/Throwable" "SUPPRESSED_SENTINEL" "Ljava/util/List;") ∨ a = Cond.laysStatic "java/lang/Throwable" "UNASSIGNED_STACK" "[Ljava/lang/StackTraceElement;" ∨ a = Cond.laysStatic "java/lang/Throwable" "SUPPRESSED_SENTINEL" "Ljava/util/List;" := by decide +kernel
theorem x_thrISE {E : xE} {d : Nat} {M : xM} {pc : Nat} {lv : xL} {st : List Value} {h : xH} (hc : M.1.cls = "VersionDesk") (hM : M.2.2.2.2 = []) (hd0 : decode M.2.1 pc = .ok (.new 34, 3)) (hd3 : decode M.2.1 (pc + 3) = .ok (.dup, 1)) (hd4 : decode M.2.1 (pc + 4) = .ok (.invokespecial 36, 3)) (hd7 : decode M.2.1 (pc + 7) = .ok (.athrow, 1)) (hst : (st.map fun v => v.category).sum ≤ 8) : xG E (d + 1) M pc lv st false h (true, .inr ("java/lang/IllegalStateException", h.2.1), xthr h) :=
  x_throw (X := "java/lang/IllegalStateException") (names := ["java/lang/RuntimeException", "java/lang/Exception"]) hM (by rw [hc]; exact kw_198) kw_199 kw_9 (by rw [hc]; exact at_ISE) (by decide +kernel) (by decide +kernel) (Nat.le_refl _) hd0 hd3 hd4 hd7 hst
theorem at_NSE : ∀ a ∈ Bundle.ownAtoms0 "VersionDesk" 108 "java/util/NoSuchElementException" ["java/lang/RuntimeException", "java/lang/Exception"], (a ∈ lw_tbl ∧ xper a = true) ∨ a = Cond.isRef (.static "java/lang/Throwable" "UNASSIGNED_STACK" "[Ljava/lang/StackTraceElement;") ∨ a = Cond.isRef (.static "java/lang/Throwable" "SUPPRESSED_SENTINEL" "Ljava/util/List;") ∨ a = Cond.laysStatic "java/lang/Throwable" "UNASSIGNED_STACK" "[Ljava/lang/StackTraceElement;" ∨ a = Cond.laysStatic "java/lang/Throwable" "SUPPRESSED_SENTINEL" "Ljava/util/List;" := by decide +kernel
theorem x_thrNSE {E : xE} {d : Nat} {M : xM} {pc : Nat} {lv : xL} {st : List Value} {h : xH} (hc : M.1.cls = "VersionDesk") (hM : M.2.2.2.2 = []) (hd0 : decode M.2.1 pc = .ok (.new 106, 3)) (hd3 : decode M.2.1 (pc + 3) = .ok (.dup, 1)) (hd4 : decode M.2.1 (pc + 4) = .ok (.invokespecial 108, 3)) (hd7 : decode M.2.1 (pc + 7) = .ok (.athrow, 1)) (hst : (st.map fun v => v.category).sum ≤ 8) : xG E (d + 1) M pc lv st false h (true, .inr ("java/util/NoSuchElementException", h.2.1), xthr h) :=
  x_throw (X := "java/util/NoSuchElementException") (names := ["java/lang/RuntimeException", "java/lang/Exception"]) hM (by rw [hc]; exact kw_229) kw_230 kw_10 (by rw [hc]; exact at_NSE) (by decide +kernel) (by decide +kernel) (Nat.le_refl _) hd0 hd3 hd4 hd7 hst
end
section
/-- fewer locals, in another order -/
theorem x_loc {E : xE} {d : Nat} {M : xM} {pc : Nat} {lv : xL} {st : List Value} {w : Bool} {h : xH} {r : xR} (lv' : xL) (hs : ∀ q ∈ lv', xlk lv q.1 = some q.2) (k : xG E d M pc lv' st w h r) : xG E d M pc lv st w h r :=
  k.go fun hX hl k' => k' _ ⟨hl.1, hl.2.1, fun q hq => xlk_at hl (hs q hq)⟩
/-- from here on as if something had been written -/
theorem x_true {E : xE} {d : Nat} {M : xM} {pc : Nat} {lv : xL} {st : List Value} {w : Bool} {h : xH} {r : xR} (k : xG E d M pc lv st true h r) : xG E d M pc lv st w h r :=
  ⟨k.1, fun p e R s mid args below meth c H locs cells slots ls hX hI hl hlo hw hR hc hs => k.2 p e R s mid args below meth c H locs cells slots ls hX hI hl hlo (fun hq => by cases hq) hR hc hs⟩
theorem xa2 {p : Nat × Value → Prop} {a b : Nat × Value} (ha : p a) (hb : p b) : ∀ q ∈ [a, b], p q := List.forall_mem_cons.mpr ⟨ha, List.forall_mem_cons.mpr ⟨hb, fun _ h => absurd h List.not_mem_nil⟩⟩
theorem xac {p : Nat × Value → Prop} {a : Nat × Value} {l : List (Nat × Value)} (ha : p a) (hl : ∀ q ∈ l, p q) : ∀ q ∈ a :: l, p q := List.forall_mem_cons.mpr ⟨ha, hl⟩
theorem xan {p : Nat × Value → Prop} : ∀ q ∈ ([] : List (Nat × Value)), p q := fun _ h => absurd h List.not_mem_nil
end
section
/-! Transaction: each method over any heap that holds its cells -/
def xb (o : Bool) : Int32 := if o then 1 else 0
theorem xb_n (o : Bool) : narrow .boolean (.int (xb o)) = .int (xb o) := by cases o <;> rfl
def xbit (c : Nat) : Int32 := (1 : Int32) <<< (nI c &&& 31)
/-- a number less one: -1 for nought -/
def xpi : Nat → Int32
  | 0 => -1
  | i + 1 => nI i
theorem xpi_of (i : Nat) : nI i - nI 1 = xpi i := by
  cases i with
  | zero => decide
  | succ i => rw [show nI (i + 1) = nI i + 1 from nI_succ i, show nI 1 = (1 : Int32) from rfl]; exact Int32.add_sub_cancel _ _
theorem xpi_dec (i : Nat) : xpi (i + 1) + Int32.ofInt (-1) = xpi i := by
  have e : Int32.ofInt (-1) = -nI 1 := by decide
  rw [← xpi_of i, e, ← Int32.sub_eq_add_neg]
  rfl
theorem xpi_neg (i : Nat) (h : i < 2 ^ 31) : xpi i < 0 ↔ i = 0 := by
  cases i with
  | zero => simp [xpi]
  | succ i => simp only [xpi]; exact ⟨fun q => absurd q (nI_pos (by omega)), fun q => by cases q⟩
theorem x_top {E : xE} {d : Nat} {M : xM} {pc : Nat} {lv : xL} {st : List Value} {w : Bool} {h : xH} {r : xR} {v v' : Value} (e : v = v') (k : xG E d M pc lv (v' :: st) w h r) : xG E d M pc lv (v :: st) w h r := by subst e; exact k
abbrev vT (a : Nat) (o : Bool) (s k l : Nat) (sn : Int32) : xC := .inr (1, [.int (xb o), .int (nI s), .int (nI k), .int (nI l), .int sn, .ref (a + 1), .ref (a + 2)])
abbrev vI (n : Nat) (f : Nat → Int32) : xC := .inl (.int, n, .inl f)
abbrev vL (n : Nat) (f : Nat → Int64) : xC := .inl (.long, n, .inr (.inl f))
abbrev vR (a : Nat) : xC := .inl (.array .long, 8, .inr (.inr (fun i => if i < 8 then some (a + 2 + 1 + i) else none)))
def orW (f : Nat → Int32) : Nat → Int32
  | 0 => 0
  | n + 1 => orW f n ||| f n
def hiW (f : Nat → Int32) (c : Nat) : Nat → Nat
  | 0 => 0
  | n + 1 => if f n &&& xbit c = 0 then hiW f c n else n + 1
section
variable {E : xE} {d a : Nat} {o : Bool} {s k l : Nat} {sn : Int32} {h : xH}
theorem t_isOpen (ha : h.1 a = some (vT a o s k l sn)) : xG E d mT_isOpen 0 [(0, .ref a)] [] false h (false, .inl (some (.int (xb o))), h) := by
  refine x_aload_n dT_isOpen_0 rfl ?_
  refine x_get fT_open dT_isOpen_1 (by assumption) rfl ?_
  exact x_zret (xb_n o) rfl dT_isOpen_4
theorem t_start (ha : h.1 a = some (vT a o s k l sn)) : xG E d mT_start 0 [(0, .ref a)] [] false h (false, .inl (some (.int (nI s))), h) := by
  refine x_aload_n dT_start_0 rfl ?_
  refine x_get fT_start dT_start_1 (by assumption) rfl ?_
  exact x_iret rfl dT_start_4
theorem t_kind (ha : h.1 a = some (vT a o s k l sn)) : xG E d mT_kind 0 [(0, .ref a)] [] false h (false, .inl (some (.int (nI k))), h) := by
  refine x_aload_n dT_kind_0 rfl ?_
  refine x_get fT_kind dT_kind_1 (by assumption) rfl ?_
  exact x_iret rfl dT_kind_4
theorem t_layers (ha : h.1 a = some (vT a o s k l sn)) : xG E d mT_layers 0 [(0, .ref a)] [] false h (false, .inl (some (.int (nI l))), h) := by
  refine x_aload_n dT_layers_0 rfl ?_
  refine x_get fT_layers dT_layers_1 (by assumption) rfl ?_
  exact x_iret rfl dT_layers_4
theorem t_seen (ha : h.1 a = some (vT a o s k l sn)) : xG E d mT_seen 0 [(0, .ref a)] [] false h (false, .inl (some (.int sn)), h) := by
  refine x_aload_n dT_seen_0 rfl ?_
  refine x_get fT_seen dT_seen_1 (by assumption) rfl ?_
  exact x_iret rfl dT_seen_4
theorem t_close (hb : E.2.2.1 ≤ a) (ha : h.1 a = some (vT a o s k l sn)) : xG E d mT_close 0 [(0, .ref a)] [] false h (true, .inl none, xset h a (vT a false s k l sn)) := by
  refine x_aload_n dT_close_0 rfl ?_
  refine x_iconst (v := (nI 0)) dT_close_1 (by decide) ?_
  refine x_put fT_open dT_close_2 (by assumption) hb rfl rfl (Nat.le_of_ble_eq_true rfl) ?_
  exact x_vret rfl dT_close_5
theorem t_open {s' k' : Nat} {f : Nat → Int32} (hb : E.2.2.1 ≤ a) (ha : h.1 a = some (vT a o s k l sn)) (hw : h.1 (a + 1) = some (vI 8 f)) : xG E d mT_open 0 [(0, .ref a), (1, .int (nI s')), (2, .int (nI k'))] [] false h (true, .inl none, xset (xset h a (vT a true s' k' 1 0)) (a + 1) (vI 8 (va_up f 0 0))) := by
  have e1 : ∀ c1 c2 : xC, xset (xset h a c1) a c2 = xset h a c2 := fun c1 c2 => by simp [xset]; funext q; by_cases hq : q = a <;> simp [hq]
  refine x_aload_n dT_open_0 rfl ?_
  refine x_iconst (v := 1) dT_open_1 (by decide) ?_
  refine x_put fT_open dT_open_2 (by assumption) hb rfl rfl (Nat.le_of_ble_eq_true rfl) ?_
  refine x_aload_n dT_open_5 rfl ?_
  refine x_iload_n dT_open_6 rfl ?_
  refine x_put fT_start dT_open_7 (xset_eq _ _ _) hb rfl rfl (Nat.le_of_ble_eq_true rfl) ?_
  rw [e1]
  refine x_aload_n dT_open_10 rfl ?_
  refine x_iload_n dT_open_11 rfl ?_
  refine x_put fT_kind dT_open_12 (xset_eq _ _ _) hb rfl rfl (Nat.le_of_ble_eq_true rfl) ?_
  rw [e1]
  refine x_aload_n dT_open_15 rfl ?_
  refine x_iconst (v := (nI 1)) dT_open_16 (by decide) ?_
  refine x_put fT_layers dT_open_17 (xset_eq _ _ _) hb rfl rfl (Nat.le_of_ble_eq_true rfl) ?_
  rw [e1]
  refine x_aload_n dT_open_20 rfl ?_
  refine x_iconst (v := 0) dT_open_21 (by decide) ?_
  refine x_put fT_seen dT_open_22 (xset_eq _ _ _) hb rfl rfl (Nat.le_of_ble_eq_true rfl) ?_
  rw [e1]
  refine x_aload_n dT_open_25 rfl ?_
  refine x_get fT_wrote dT_open_26 (xset_eq _ _ _) rfl ?_
  refine x_iconst (v := (nI 0)) dT_open_29 (by decide) ?_
  refine x_iconst (v := 0) dT_open_30 (by decide) ?_
  refine x_iast 0 dT_open_31 ((xset_ne _ _ (by omega)).trans hw) (by omega) rfl (by decide) (by decide) ?_
  exact x_vret rfl dT_open_32
theorem t_see {c : Nat} (hb : E.2.2.1 ≤ a) (ha : h.1 a = some (vT a o s k l sn)) : xG E d mT_see 0 [(0, .ref a), (1, .int (nI c))] [] false h (true, .inl none, xset h a (vT a o s k l (sn ||| xbit c))) := by
  refine x_aload_n dT_see_0 rfl ?_
  refine x_dup dT_see_1 rfl ?_
  refine x_get fT_seen dT_see_2 (by assumption) rfl ?_
  refine x_iconst (v := 1) dT_see_5 (by decide) ?_
  refine x_iload_n dT_see_6 rfl ?_
  refine x_ishl dT_see_7 ?_
  refine x_ior dT_see_8 ?_
  refine x_put fT_seen dT_see_9 (by assumption) hb rfl rfl (Nat.le_of_ble_eq_true rfl) ?_
  exact x_vret rfl dT_see_12
theorem t_written_loop {f : Nat → Int32} (hl : l ≤ 8) (ha : h.1 a = some (vT a o s k l sn)) (hw : h.1 (a + 1) = some (vI 8 f)) : ∀ m i : Nat, i + m = l → xG E d mT_written 4 [(2, .int (nI i)), (1, .int (orW f i)), (0, .ref a)] [] false h (false, .inl (some (.int (orW f l))), h) := by
  intro m
  induction m with
  | zero =>
    intro i hi
    obtain rfl : i = l := by omega
    refine x_iload_n dT_written_4 rfl ?_
    refine x_aload_n dT_written_5 rfl ?_
    refine x_get fT_layers dT_written_6 (by assumption) rfl ?_
    refine x_icmp_ge 27 dT_written_9 (by decide) (fun _ => ?_) (fun hc => absurd (nI_le (Nat.le_refl _) (by omega)) hc)
    refine x_iload_n dT_written_27 rfl ?_
    exact x_iret rfl dT_written_28
  | succ m ih =>
    intro i hi
    refine x_iload_n dT_written_4 rfl ?_
    refine x_aload_n dT_written_5 rfl ?_
    refine x_get fT_layers dT_written_6 (by assumption) rfl ?_
    refine x_icmp_ge 27 dT_written_9 (by decide) (fun hc => absurd hc (nI_ge (by omega) (by omega))) (fun _ => ?_)
    refine x_iload_n dT_written_12 rfl ?_
    refine x_aload_n dT_written_13 rfl ?_
    refine x_get fT_wrote dT_written_14 (by assumption) rfl ?_
    refine x_iload_n dT_written_17 rfl ?_
    refine x_iald i dT_written_18 (by assumption) rfl (by omega) (by decide) ?_
    refine x_ior dT_written_19 ?_
    refine x_istore_n dT_written_20 (Nat.le_of_ble_eq_true rfl) ?_
    refine x_iinc (v := nI (i + 1)) dT_written_21 rfl (by rw [nI_succ]; rfl) (Nat.le_of_ble_eq_true rfl) ?_
    refine x_goto 4 dT_written_24 (by decide) ?_
    exact ih (i + 1) (by omega)
theorem t_written {f : Nat → Int32} (hl : l ≤ 8) (ha : h.1 a = some (vT a o s k l sn)) (hw : h.1 (a + 1) = some (vI 8 f)) : xG E d mT_written 0 [(0, .ref a)] [] false h (false, .inl (some (.int (orW f l))), h) := by
  refine x_iconst (v := (nI 0)) dT_written_0 (by decide) ?_
  refine x_istore_n dT_written_1 (Nat.le_of_ble_eq_true rfl) ?_
  refine x_iconst (v := (nI 0)) dT_written_2 (by decide) ?_
  refine x_istore_n dT_written_3 (Nat.le_of_ble_eq_true rfl) ?_
  exact t_written_loop hl ha hw l 0 (by omega)
theorem t_heeded {f : Nat → Int32} (hl : l ≤ 8) (hk : k < 2) (ha : h.1 a = some (vT a o s k l sn)) (hw : h.1 (a + 1) = some (vI 8 f)) : xG E (d + 1) mT_heeded 0 [(0, .ref a)] [] false h (false, .inl (some (.int (if k = 1 then orW f l ||| sn else orW f l))), h) := by
  refine x_aload_n dT_heeded_0 rfl ?_
  refine x_get fT_kind dT_heeded_1 (by assumption) rfl ?_
  refine x_iconst (v := (nI 1)) dT_heeded_4 (by decide) ?_
  refine x_icmp_ne 20 dT_heeded_5 (by decide) (fun hc => ?_) (fun hc => ?_)
  · rw [if_neg (fun q => hc (by rw [q]))]
    refine x_aload_n dT_heeded_20 rfl ?_
    refine x_callV0 cT_T_written dT_heeded_21 (by assumption) (Nat.le_of_ble_eq_true rfl) (Nat.le_of_ble_eq_true rfl) (t_written hl ha hw) ?_
    exact x_iret rfl dT_heeded_24
  · rw [if_pos ((nI_eq (by omega) (by decide)).mp hc)]
    refine x_aload_n dT_heeded_8 rfl ?_
    refine x_callV0 cT_T_written dT_heeded_9 (by assumption) (Nat.le_of_ble_eq_true rfl) (Nat.le_of_ble_eq_true rfl) (t_written hl ha hw) ?_
    refine x_aload_n dT_heeded_12 rfl ?_
    refine x_get fT_seen dT_heeded_13 (by assumption) rfl ?_
    refine x_ior dT_heeded_16 ?_
    refine x_goto 24 dT_heeded_17 (by decide) ?_
    exact x_iret rfl dT_heeded_24
theorem t_ltw_loop {f : Nat → Int32} {c : Nat} (hl : l ≤ 8) (ha : h.1 a = some (vT a o s k l sn)) (hw : h.1 (a + 1) = some (vI 8 f)) : ∀ i : Nat, i ≤ l → xG E d mT_layerThatWrote 7 [(2, .int (xpi i)), (0, .ref a), (1, .int (nI c))] [] false h (false, .inl (some (.int (xpi (hiW f c i)))), h) := by
  intro i
  induction i with
  | zero =>
    intro hi
    refine x_iload_n dT_layerThatWrote_7 rfl ?_
    refine x_if_lt 30 dT_layerThatWrote_8 (by decide) (fun _ => ?_) (fun hc => absurd ((xpi_neg 0 (by decide)).mpr rfl) hc)
    refine x_iload_n dT_layerThatWrote_30 rfl ?_
    exact x_iret rfl dT_layerThatWrote_31
  | succ i ih =>
    intro hi
    refine x_iload_n dT_layerThatWrote_7 rfl ?_
    refine x_if_lt 30 dT_layerThatWrote_8 (by decide) (fun hc => absurd ((xpi_neg _ (by omega)).mp hc) (by omega)) (fun _ => ?_)
    refine x_aload_n dT_layerThatWrote_11 rfl ?_
    refine x_get fT_wrote dT_layerThatWrote_12 (by assumption) rfl ?_
    refine x_iload_n dT_layerThatWrote_15 rfl ?_
    refine x_iald i dT_layerThatWrote_16 (by assumption) rfl (by omega) (by decide) ?_
    refine x_iconst (v := 1) dT_layerThatWrote_17 (by decide) ?_
    refine x_iload_n dT_layerThatWrote_18 rfl ?_
    refine x_ishl dT_layerThatWrote_19 ?_
    refine x_iand dT_layerThatWrote_20 ?_
    refine x_if_ne 30 dT_layerThatWrote_21 (by decide) (fun hc => ?_) (fun hc => ?_)
    · rw [show hiW f c (i + 1) = i + 1 from if_neg hc]
      refine x_iload_n dT_layerThatWrote_30 rfl ?_
      exact x_iret rfl dT_layerThatWrote_31
    · rw [show hiW f c (i + 1) = hiW f c i from if_pos hc]
      refine x_iinc (v := xpi i) dT_layerThatWrote_24 rfl (xpi_dec i) (Nat.le_of_ble_eq_true rfl) ?_
      refine x_goto 7 dT_layerThatWrote_27 (by decide) ?_
      exact ih (by omega)
theorem t_ltw {f : Nat → Int32} {c : Nat} (hl : l ≤ 8) (ha : h.1 a = some (vT a o s k l sn)) (hw : h.1 (a + 1) = some (vI 8 f)) : xG E d mT_layerThatWrote 0 [(0, .ref a), (1, .int (nI c))] [] false h (false, .inl (some (.int (xpi (hiW f c l)))), h) := by
  refine x_aload_n dT_layerThatWrote_0 rfl ?_
  refine x_get fT_layers dT_layerThatWrote_1 (by assumption) rfl ?_
  refine x_iconst (v := (nI 1)) dT_layerThatWrote_4 (by decide) ?_
  refine x_isub dT_layerThatWrote_5 ?_
  refine x_top (by rw [xpi_of]) ?_
  refine x_istore_n dT_layerThatWrote_6 (Nat.le_of_ble_eq_true rfl) ?_
  exact t_ltw_loop hl ha hw l (Nat.le_refl _)
theorem t_valueIn {i c : Nat} {g : Nat → Int64} (hi : i < 8) (hc : c < 16) (ha : h.1 a = some (vT a o s k l sn)) (hv : h.1 (a + 2) = some (vR a)) (hr : h.1 (a + 2 + 1 + i) = some (vL 16 g)) : xG E d mT_valueIn 0 [(0, .ref a), (1, .int (nI i)), (2, .int (nI c))] [] false h (false, .inl (some (.long (g c))), h) := by
  refine x_aload_n dT_valueIn_0 rfl ?_
  refine x_get fT_values dT_valueIn_1 (by assumption) rfl ?_
  refine x_iload_n dT_valueIn_4 rfl ?_
  refine x_aald i (a + 2 + 1 + i) dT_valueIn_5 (by assumption) rfl (if_pos hi) rfl (by omega) (by decide) ?_
  refine x_iload_n dT_valueIn_6 rfl ?_
  refine x_lald c dT_valueIn_7 (by assumption) rfl (by omega) (by decide) ?_
  exact x_lret rfl dT_valueIn_8
theorem t_putIn {i c : Nat} {v : Int64} {f : Nat → Int32} {g : Nat → Int64} (hb : E.2.2.1 ≤ a) (hi : i < 8) (hc : c < 16) (ha : h.1 a = some (vT a o s k l sn)) (hw : h.1 (a + 1) = some (vI 8 f)) (hv : h.1 (a + 2) = some (vR a)) (hr : h.1 (a + 2 + 1 + i) = some (vL 16 g)) : xG E d mT_putIn 0 [(0, .ref a), (1, .int (nI i)), (2, .int (nI c)), (3, .long v)] [] false h (true, .inl none, xset (xset h (a + 1) (vI 8 (va_up f i (f i ||| xbit c)))) (a + 2 + 1 + i) (vL 16 (va_up g c v))) := by
  refine x_aload_n dT_putIn_0 rfl ?_
  refine x_get fT_wrote dT_putIn_1 (by assumption) rfl ?_
  refine x_iload_n dT_putIn_4 rfl ?_
  refine x_dup2 dT_putIn_5 rfl rfl ?_
  refine x_iald i dT_putIn_6 (by assumption) rfl (by omega) (by decide) ?_
  refine x_iconst (v := 1) dT_putIn_7 (by decide) ?_
  refine x_iload_n dT_putIn_8 rfl ?_
  refine x_ishl dT_putIn_9 ?_
  refine x_ior dT_putIn_10 ?_
  refine x_iast i dT_putIn_11 hw (by omega) rfl hi (by decide) ?_
  refine x_aload_n dT_putIn_12 rfl ?_
  refine x_get fT_values dT_putIn_13 ((xset_ne _ _ (by omega)).trans ha) rfl ?_
  refine x_iload_n dT_putIn_16 rfl ?_
  refine x_aald i (a + 2 + 1 + i) dT_putIn_17 ((xset_ne _ _ (by omega)).trans hv) rfl (if_pos hi) rfl hi (by decide) ?_
  refine x_iload_n dT_putIn_18 rfl ?_
  refine x_lload_n dT_putIn_19 rfl ?_
  refine x_last c dT_putIn_20 ((xset_ne _ _ (by omega)).trans hr) (by omega) rfl hc (by decide) ?_
  exact x_vret rfl dT_putIn_21
theorem t_put {c : Nat} {v : Int64} {f : Nat → Int32} {g : Nat → Int64} (hb : E.2.2.1 ≤ a) (hl0 : 0 < l) (hl : l ≤ 8) (hc : c < 16) (ha : h.1 a = some (vT a o s k l sn)) (hw : h.1 (a + 1) = some (vI 8 f)) (hv : h.1 (a + 2) = some (vR a)) (hr : h.1 (a + 2 + 1 + (l - 1)) = some (vL 16 g)) : xG E (d + 1) mT_put 0 [(0, .ref a), (1, .int (nI c)), (2, .long v)] [] false h (true, .inl none, xset (xset h (a + 1) (vI 8 (va_up f (l - 1) (f (l - 1) ||| xbit c)))) (a + 2 + 1 + (l - 1)) (vL 16 (va_up g c v))) := by
  refine x_aload_n dT_put_0 rfl ?_
  refine x_aload_n dT_put_1 rfl ?_
  refine x_get fT_layers dT_put_2 (by assumption) rfl ?_
  refine x_iconst (v := (nI 1)) dT_put_5 (by decide) ?_
  refine x_isub dT_put_6 ?_
  refine x_top (v' := .int (nI (l - 1))) (by rw [pk_sub hl0]) ?_
  refine x_iload_n dT_put_7 rfl ?_
  refine x_lload_n dT_put_8 rfl ?_
  refine x_callV3 cT_T_putIn dT_put_9 (by assumption) (Nat.le_of_ble_eq_true rfl) (Nat.le_of_ble_eq_true rfl) (t_putIn hb (by omega) hc ha hw hv hr) ?_
  exact x_vret rfl dT_put_12
theorem t_addLayer {f : Nat → Int32} (hb : E.2.2.1 ≤ a) (hl : l < 8) (ha : h.1 a = some (vT a o s k l sn)) (hw : h.1 (a + 1) = some (vI 8 f)) : xG E d mT_addLayer 0 [(0, .ref a)] [] false h (true, .inl none, xset (xset h (a + 1) (vI 8 (va_up f l 0))) a (vT a o s k (l + 1) sn)) := by
  refine x_aload_n dT_addLayer_0 rfl ?_
  refine x_get fT_layers dT_addLayer_1 (by assumption) rfl ?_
  refine x_bipush (v := (nI 8)) dT_addLayer_4 (by decide) ?_
  refine x_icmp_ge 29 dT_addLayer_6 (by decide) (fun hc => absurd hc (nI_ge (by omega) (by decide))) (fun _ => ?_)
  refine x_aload_n dT_addLayer_9 rfl ?_
  refine x_get fT_wrote dT_addLayer_10 (by assumption) rfl ?_
  refine x_aload_n dT_addLayer_13 rfl ?_
  refine x_get fT_layers dT_addLayer_14 (by assumption) rfl ?_
  refine x_iconst (v := 0) dT_addLayer_17 (by decide) ?_
  refine x_iast l dT_addLayer_18 hw (by omega) rfl hl (by decide) ?_
  refine x_aload_n dT_addLayer_19 rfl ?_
  refine x_dup dT_addLayer_20 rfl ?_
  refine x_get fT_layers dT_addLayer_21 ((xset_ne _ _ (by omega)).trans ha) rfl ?_
  refine x_iconst (v := (nI 1)) dT_addLayer_24 (by decide) ?_
  refine x_iadd dT_addLayer_25 ?_
  refine x_top (v' := .int (nI (l + 1))) (by rw [nI_add]) ?_
  refine x_put fT_layers dT_addLayer_26 ((xset_ne _ _ (by omega)).trans ha) hb rfl rfl (Nat.le_of_ble_eq_true rfl) ?_
  exact x_vret rfl dT_addLayer_29
theorem t_removeLayer (hb : E.2.2.1 ≤ a) (hl : 1 < l) (hl8 : l ≤ 8) (ha : h.1 a = some (vT a o s k l sn)) : xG E d mT_removeLayer 0 [(0, .ref a)] [] false h (true, .inl none, xset h a (vT a o s k (l - 1) sn)) := by
  refine x_aload_n dT_removeLayer_0 rfl ?_
  refine x_get fT_layers dT_removeLayer_1 (by assumption) rfl ?_
  refine x_iconst (v := (nI 1)) dT_removeLayer_4 (by decide) ?_
  refine x_icmp_le 18 dT_removeLayer_5 (by decide) (fun hc => absurd hc (nI_ge hl (by omega))) (fun _ => ?_)
  refine x_aload_n dT_removeLayer_8 rfl ?_
  refine x_dup dT_removeLayer_9 rfl ?_
  refine x_get fT_layers dT_removeLayer_10 (by assumption) rfl ?_
  refine x_iconst (v := (nI 1)) dT_removeLayer_13 (by decide) ?_
  refine x_isub dT_removeLayer_14 ?_
  refine x_top (v' := .int (nI (l - 1))) (by rw [pk_sub (by omega)]) ?_
  refine x_put fT_layers dT_removeLayer_15 ha hb rfl rfl (Nat.le_of_ble_eq_true rfl) ?_
  exact x_vret rfl dT_removeLayer_18
end
end
section
/-! Versions: each method over any heap that holds its cells -/
theorem xset_self {h : xH} {a : Nat} {c : xC} (ha : h.1 a = some c) : xset h a c = h := by
  obtain ⟨m, z, u⟩ := h
  simp only [xset]
  congr 1
  funext q
  by_cases hq : q = a
  · subst hq; simp [show m q = some c from ha]
  · simp [hq]
theorem xset_twice (h : xH) (a : Nat) (c1 c2 : xC) : xset (xset h a c1) a c2 = xset h a c2 := by
  simp only [xset]
  congr 1
  funext q
  by_cases hq : q = a <;> simp [hq]
theorem xset_comm (h : xH) {a b : Nat} (hab : a ≠ b) (c1 c2 : xC) : xset (xset h a c1) b c2 = xset (xset h b c2) a c1 := by
  simp only [xset]
  congr 1
  funext q
  by_cases hq : q = a
  · subst hq; simp [hab]
  · by_cases hq2 : q = b <;> simp [hq, hq2, Ne.symm hab]
theorem up_nI (f : Nat → Nat) (j x : Nat) : va_up (fun i => nI (f i)) j (nI x) = fun i => nI (va_up f j x i) := by
  funext i
  by_cases hi : i = j <;> simp [va_up, hi]
abbrev vV (a n : Nat) : xC := .inr (2, [.ref (a + 1), .ref (a + 2), .ref (a + 3), .int (nI n)])
abbrev vN (n : Nat) (f : Nat → Nat) : xC := .inl (.int, n, .inl (fun i => nI (f i)))
abbrev vW : Type := (Nat → Nat) × (Nat → Nat) × (Nat → Int64)
/-- the three rows -/
def vput (h : xH) (a : Nat) (A : vW) : xH := xset (xset (xset h (a + 1) (vN 500 A.1)) (a + 2) (vN 500 A.2.1)) (a + 3) (vL 500 A.2.2)
theorem vput_1 (h : xH) (a : Nat) (A : vW) : (vput h a A).1 (a + 1) = some (vN 500 A.1) := by
  unfold vput; rw [xset_ne _ _ (by omega), xset_ne _ _ (by omega), xset_eq]
theorem vput_2 (h : xH) (a : Nat) (A : vW) : (vput h a A).1 (a + 2) = some (vN 500 A.2.1) := by
  unfold vput; rw [xset_ne _ _ (by omega), xset_eq]
theorem vput_3 (h : xH) (a : Nat) (A : vW) : (vput h a A).1 (a + 3) = some (vL 500 A.2.2) := by
  unfold vput; rw [xset_eq]
theorem vput_ne (h : xH) {a q : Nat} (A : vW) (h1 : q ≠ a + 1) (h2 : q ≠ a + 2) (h3 : q ≠ a + 3) : (vput h a A).1 q = h.1 q := by
  unfold vput; rw [xset_ne _ _ h3, xset_ne _ _ h2, xset_ne _ _ h1]
theorem vput_self {h : xH} {a : Nat} {A : vW} (h1 : h.1 (a + 1) = some (vN 500 A.1)) (h2 : h.1 (a + 2) = some (vN 500 A.2.1)) (h3 : h.1 (a + 3) = some (vL 500 A.2.2)) : vput h a A = h := by
  unfold vput; rw [xset_self h1, xset_self h2, xset_self h3]
theorem vput_twice (h : xH) (a : Nat) (A B : vW) : vput (vput h a A) a B = vput h a B := by
  unfold vput
  rw [xset_comm _ (show a + 3 ≠ a + 1 by omega), xset_comm _ (show a + 2 ≠ a + 1 by omega), xset_twice, xset_comm _ (show a + 3 ≠ a + 2 by omega), xset_twice, xset_twice]
def mv (A : vW) (i j : Nat) : vW := (va_up A.1 j (A.1 i), va_up A.2.1 j (A.2.1 i), va_up A.2.2 j (A.2.2 i))
/-- the newest version of the cell not above the clock: its place and one, nought for none -/
def vix (A : vW) (c k : Nat) : Nat → Nat
  | 0 => 0
  | n + 1 => if A.1 n = c ∧ A.2.1 n ≤ k then n + 1 else vix A c k n
def vwa (A : vW) (k : Nat) : Nat → Int32 → Int32
  | 0, z => z
  | n + 1, z => if A.2.1 n ≤ k then z else vwa A k n (z ||| xbit (A.1 n))
theorem vix_le (A : vW) (c k : Nat) : ∀ n, vix A c k n ≤ n
  | 0 => Nat.le_refl _
  | n + 1 => by
    unfold vix
    split
    · exact Nat.le_refl _
    · exact Nat.le_succ_of_le (vix_le A c k n)
section
variable {E : xE} {d a n : Nat} {h : xH} {A : vW}
theorem v_size (ha : h.1 a = some (vV a n)) : xG E d mV_size 0 [(0, .ref a)] [] false h (false, .inl (some (.int (nI n))), h) := by
  refine x_aload_n dV_size_0 rfl ?_
  refine x_get fV_size dV_size_1 (by assumption) rfl ?_
  exact x_iret rfl dV_size_4
theorem v_room {m : Nat} (hn : n ≤ 500) (hm : m ≤ 16) (ha : h.1 a = some (vV a n)) : xG E d mV_haveRoomFor 0 [(0, .ref a), (1, .int (nI m))] [] false h (false, .inl (some (.int (xb (decide (n + m ≤ 500))))), h) := by
  refine x_aload_n dV_haveRoomFor_0 rfl ?_
  refine x_get fV_size dV_haveRoomFor_1 (by assumption) rfl ?_
  refine x_iload_n dV_haveRoomFor_4 rfl ?_
  refine x_iadd dV_haveRoomFor_5 ?_
  refine x_top (v' := .int (nI (n + m))) (by rw [nI_add]) ?_
  refine x_sipush (v := (nI 500)) dV_haveRoomFor_6 (by decide) ?_
  refine x_icmp_gt 16 dV_haveRoomFor_9 (by decide) (fun hc => ?_) (fun hc => ?_)
  · rw [show decide (n + m ≤ 500) = false from decide_eq_false (fun q => absurd hc (nI_nlt q (by decide)))]
    refine x_iconst (v := (xb false)) dV_haveRoomFor_16 (by decide) ?_
    exact x_zret (xb_n _) rfl dV_haveRoomFor_17
  · rw [show decide (n + m ≤ 500) = true from decide_eq_true (Nat.not_lt.mp (fun q => hc (nI_lt q (by omega))))]
    refine x_iconst (v := (xb true)) dV_haveRoomFor_12 (by decide) ?_
    refine x_goto 17 dV_haveRoomFor_13 (by decide) ?_
    exact x_zret (xb_n _) rfl dV_haveRoomFor_17
theorem v_append {c k : Nat} {x : Int64} (hb : E.2.2.1 ≤ a) (hn : n < 500) (ha : h.1 a = some (vV a n)) (h1 : h.1 (a + 1) = some (vN 500 A.1)) (h2 : h.1 (a + 2) = some (vN 500 A.2.1)) (h3 : h.1 (a + 3) = some (vL 500 A.2.2)) : xG E d mV_append 0 [(0, .ref a), (1, .int (nI c)), (2, .int (nI k)), (3, .long x)] [] false h (true, .inl none, xset (vput h a (va_up A.1 n c, va_up A.2.1 n k, va_up A.2.2 n x)) a (vV a (n + 1))) := by
  refine x_aload_n dV_append_0 rfl ?_
  refine x_get fV_size dV_append_1 (by assumption) rfl ?_
  refine x_sipush (v := (nI 500)) dV_append_4 (by decide) ?_
  refine x_icmp_ge 50 dV_append_7 (by decide) (fun hc => absurd hc (nI_ge hn (by decide))) (fun _ => ?_)
  refine x_aload_n dV_append_10 rfl ?_
  refine x_get fV_cells dV_append_11 (by assumption) rfl ?_
  refine x_aload_n dV_append_14 rfl ?_
  refine x_get fV_size dV_append_15 (by assumption) rfl ?_
  refine x_iload_n dV_append_18 rfl ?_
  refine x_iast n dV_append_19 h1 (by omega) rfl hn (by decide) ?_
  rw [up_nI]
  refine x_aload_n dV_append_20 rfl ?_
  refine x_get fV_clocks dV_append_21 ((xset_ne _ _ (by omega)).trans ha) rfl ?_
  refine x_aload_n dV_append_24 rfl ?_
  refine x_get fV_size dV_append_25 ((xset_ne _ _ (by omega)).trans ha) rfl ?_
  refine x_iload_n dV_append_28 rfl ?_
  refine x_iast n dV_append_29 ((xset_ne _ _ (by omega)).trans h2) (by omega) rfl hn (by decide) ?_
  rw [up_nI]
  refine x_aload_n dV_append_30 rfl ?_
  refine x_get fV_values dV_append_31 ((xset_ne _ _ (by omega)).trans ((xset_ne _ _ (by omega)).trans ha)) rfl ?_
  refine x_aload_n dV_append_34 rfl ?_
  refine x_get fV_size dV_append_35 ((xset_ne _ _ (by omega)).trans ((xset_ne _ _ (by omega)).trans ha)) rfl ?_
  refine x_lload_n dV_append_38 rfl ?_
  refine x_last n dV_append_39 ((xset_ne _ _ (by omega)).trans ((xset_ne _ _ (by omega)).trans h3)) (by omega) rfl hn (by decide) ?_
  refine x_aload_n dV_append_40 rfl ?_
  refine x_dup dV_append_41 rfl ?_
  refine x_get fV_size dV_append_42 ((vput_ne h (va_up A.1 n c, va_up A.2.1 n k, va_up A.2.2 n x) (by omega) (by omega) (by omega)).trans ha) rfl ?_
  refine x_iconst (v := (nI 1)) dV_append_45 (by decide) ?_
  refine x_iadd dV_append_46 ?_
  refine x_top (v' := .int (nI (n + 1))) (by rw [nI_add]) ?_
  refine x_put fV_size dV_append_47 ((vput_ne h (va_up A.1 n c, va_up A.2.1 n k, va_up A.2.2 n x) (by omega) (by omega) (by omega)).trans ha) hb rfl rfl (Nat.le_of_ble_eq_true rfl) ?_
  exact x_vret rfl dV_append_50
theorem v_ix_loop {c k : Nat} (hn : n ≤ 500) (hc : c < 2 ^ 31) (hk : k < 2 ^ 31) (hA : ∀ i, i < n → A.1 i < 2 ^ 31 ∧ A.2.1 i < 2 ^ 31) (ha : h.1 a = some (vV a n)) (h1 : h.1 (a + 1) = some (vN 500 A.1)) (h2 : h.1 (a + 2) = some (vN 500 A.2.1)) : ∀ i : Nat, i ≤ n → xG E d mV_indexAt 7 [(3, .int (xpi i)), (0, .ref a), (1, .int (nI c)), (2, .int (nI k))] [] false h (false, .inl (some (.int (xpi (vix A c k i)))), h) := by
  intro i
  induction i with
  | zero =>
    intro hi
    refine x_iload_n dV_indexAt_7 rfl ?_
    refine x_if_lt 37 dV_indexAt_8 (by decide) (fun _ => ?_) (fun hc => absurd ((xpi_neg 0 (by decide)).mpr rfl) hc)
    refine x_iload_n dV_indexAt_37 rfl ?_
    exact x_iret rfl dV_indexAt_38
  | succ i ih =>
    intro hi
    have hAi := hA i (by omega)
    refine x_iload_n dV_indexAt_7 rfl ?_
    refine x_if_lt 37 dV_indexAt_8 (by decide) (fun hc => absurd ((xpi_neg _ (by omega)).mp hc) (by omega)) (fun _ => ?_)
    refine x_aload_n dV_indexAt_11 rfl ?_
    refine x_get fV_cells dV_indexAt_12 (by assumption) rfl ?_
    refine x_iload_n dV_indexAt_15 rfl ?_
    refine x_iald i dV_indexAt_16 (by assumption) rfl (by omega) (by decide) ?_
    refine x_iload_n dV_indexAt_17 rfl ?_
    refine x_icmp_ne 31 dV_indexAt_18 (by decide) (fun hq => ?_) (fun hq => ?_)
    · rw [show vix A c k (i + 1) = vix A c k i from if_neg (fun q => hq (by rw [q.1]))]
      refine x_iinc (v := xpi i) dV_indexAt_31 rfl (xpi_dec i) (Nat.le_of_ble_eq_true rfl) ?_
      refine x_goto 7 dV_indexAt_34 (by decide) ?_
      exact ih (by omega)
    · have e1 : A.1 i = c := (nI_eq hAi.1 hc).mp hq
      refine x_aload_n dV_indexAt_21 rfl ?_
      refine x_get fV_clocks dV_indexAt_22 (by assumption) rfl ?_
      refine x_iload_n dV_indexAt_25 rfl ?_
      refine x_iald i dV_indexAt_26 (by assumption) rfl (by omega) (by decide) ?_
      refine x_iload_n dV_indexAt_27 rfl ?_
      refine x_icmp_le 37 dV_indexAt_28 (by decide) (fun hz => ?_) (fun hz => ?_)
      · rw [show vix A c k (i + 1) = i + 1 from if_pos ⟨e1, (nI_leI hAi.2 hk).mp hz⟩]
        refine x_iload_n dV_indexAt_37 rfl ?_
        exact x_iret rfl dV_indexAt_38
      · rw [show vix A c k (i + 1) = vix A c k i from if_neg (fun q => hz (nI_le q.2 hk))]
        refine x_iinc (v := xpi i) dV_indexAt_31 rfl (xpi_dec i) (Nat.le_of_ble_eq_true rfl) ?_
        refine x_goto 7 dV_indexAt_34 (by decide) ?_
        exact ih (by omega)
theorem v_ix {c k : Nat} (hn : n ≤ 500) (hc : c < 2 ^ 31) (hk : k < 2 ^ 31) (hA : ∀ i, i < n → A.1 i < 2 ^ 31 ∧ A.2.1 i < 2 ^ 31) (ha : h.1 a = some (vV a n)) (h1 : h.1 (a + 1) = some (vN 500 A.1)) (h2 : h.1 (a + 2) = some (vN 500 A.2.1)) : xG E d mV_indexAt 0 [(0, .ref a), (1, .int (nI c)), (2, .int (nI k))] [] false h (false, .inl (some (.int (xpi (vix A c k n)))), h) := by
  refine x_aload_n dV_indexAt_0 rfl ?_
  refine x_get fV_size dV_indexAt_1 (by assumption) rfl ?_
  refine x_iconst (v := (nI 1)) dV_indexAt_4 (by decide) ?_
  refine x_isub dV_indexAt_5 ?_
  refine x_top (by rw [xpi_of]) ?_
  refine x_istore_n dV_indexAt_6 (Nat.le_of_ble_eq_true rfl) ?_
  exact v_ix_loop hn hc hk hA ha h1 h2 n (Nat.le_refl _)
theorem v_know {c k : Nat} (hn : n ≤ 500) (hc : c < 2 ^ 31) (hk : k < 2 ^ 31) (hA : ∀ i, i < n → A.1 i < 2 ^ 31 ∧ A.2.1 i < 2 ^ 31) (ha : h.1 a = some (vV a n)) (h1 : h.1 (a + 1) = some (vN 500 A.1)) (h2 : h.1 (a + 2) = some (vN 500 A.2.1)) : xG E (d + 1) mV_know 0 [(0, .ref a), (1, .int (nI c)), (2, .int (nI k))] [] false h (false, .inl (some (.int (xb (decide (vix A c k n ≠ 0))))), h) := by
  have hle := vix_le A c k n
  refine x_aload_n dV_know_0 rfl ?_
  refine x_iload_n dV_know_1 rfl ?_
  refine x_iload_n dV_know_2 rfl ?_
  refine x_callV2 cV_V_indexAt dV_know_3 (by assumption) (Nat.le_of_ble_eq_true rfl) (Nat.le_of_ble_eq_true rfl) (v_ix hn hc hk hA ha h1 h2) ?_
  refine x_if_lt 13 dV_know_6 (by decide) (fun hz => ?_) (fun hz => ?_)
  · rw [show decide (vix A c k n ≠ 0) = false from decide_eq_false (fun q => q ((xpi_neg _ (by omega)).mp hz))]
    refine x_iconst (v := (xb false)) dV_know_13 (by decide) ?_
    exact x_zret (xb_n _) rfl dV_know_14
  · rw [show decide (vix A c k n ≠ 0) = true from decide_eq_true (fun q => hz ((xpi_neg _ (by omega)).mpr q))]
    refine x_iconst (v := (xb true)) dV_know_9 (by decide) ?_
    refine x_goto 14 dV_know_10 (by decide) ?_
    exact x_zret (xb_n _) rfl dV_know_14
theorem v_valueAt {c k : Nat} (hn : n ≤ 500) (hc : c < 2 ^ 31) (hk : k < 2 ^ 31) (hA : ∀ i, i < n → A.1 i < 2 ^ 31 ∧ A.2.1 i < 2 ^ 31) (ha : h.1 a = some (vV a n)) (h1 : h.1 (a + 1) = some (vN 500 A.1)) (h2 : h.1 (a + 2) = some (vN 500 A.2.1)) (h3 : h.1 (a + 3) = some (vL 500 A.2.2)) : xG E (d + 1) mV_valueAt 0 [(0, .ref a), (1, .int (nI c)), (2, .int (nI k))] [] false h (false, .inl (some (.long (if vix A c k n = 0 then 0 else A.2.2 (vix A c k n - 1)))), h) := by
  have hle := vix_le A c k n
  refine x_aload_n dV_valueAt_0 rfl ?_
  refine x_iload_n dV_valueAt_1 rfl ?_
  refine x_iload_n dV_valueAt_2 rfl ?_
  refine x_callV2 cV_V_indexAt dV_valueAt_3 (by assumption) (Nat.le_of_ble_eq_true rfl) (Nat.le_of_ble_eq_true rfl) (v_ix hn hc hk hA ha h1 h2) ?_
  refine x_istore_n dV_valueAt_6 (Nat.le_of_ble_eq_true rfl) ?_
  refine x_iload_n dV_valueAt_7 rfl ?_
  refine x_if_lt 20 dV_valueAt_8 (by decide) (fun hz => ?_) (fun hz => ?_)
  · rw [if_pos ((xpi_neg _ (by omega)).mp hz)]
    refine x_lconst (v := 0) dV_valueAt_20 (by decide) ?_
    exact x_lret rfl dV_valueAt_21
  · have hne : vix A c k n ≠ 0 := fun q => hz ((xpi_neg _ (by omega)).mpr q)
    rw [if_neg hne]
    refine x_aload_n dV_valueAt_11 rfl ?_
    refine x_get fV_values dV_valueAt_12 (by assumption) rfl ?_
    refine x_iload_n dV_valueAt_15 rfl ?_
    refine x_lald (vix A c k n - 1) dV_valueAt_16 h3 (by cases hx : vix A c k n with | zero => exact absurd hx hne | succ m => rfl) (by omega) (by decide) ?_
    refine x_goto 21 dV_valueAt_17 (by decide) ?_
    exact x_lret rfl dV_valueAt_21
theorem v_wa_loop {k : Nat} (hn : n ≤ 500) (hk : k < 2 ^ 31) (hA : ∀ i, i < n → A.1 i < 2 ^ 31 ∧ A.2.1 i < 2 ^ 31) (ha : h.1 a = some (vV a n)) (h1 : h.1 (a + 1) = some (vN 500 A.1)) (h2 : h.1 (a + 2) = some (vN 500 A.2.1)) : ∀ (i : Nat) (z : Int32), i ≤ n → xG E d mV_cellsWrittenAfter 9 [(3, .int (xpi i)), (2, .int z), (0, .ref a), (1, .int (nI k))] [] false h (false, .inl (some (.int (vwa A k i z))), h) := by
  intro i
  induction i with
  | zero =>
    intro z hi
    refine x_iload_n dV_cellsWrittenAfter_9 rfl ?_
    refine x_if_lt 40 dV_cellsWrittenAfter_10 (by decide) (fun _ => ?_) (fun hc => absurd ((xpi_neg 0 (by decide)).mpr rfl) hc)
    refine x_iload_n dV_cellsWrittenAfter_40 rfl ?_
    exact x_iret rfl dV_cellsWrittenAfter_41
  | succ i ih =>
    intro z hi
    have hAi := hA i (by omega)
    refine x_iload_n dV_cellsWrittenAfter_9 rfl ?_
    refine x_if_lt 40 dV_cellsWrittenAfter_10 (by decide) (fun hc => absurd ((xpi_neg _ (by omega)).mp hc) (by omega)) (fun _ => ?_)
    refine x_aload_n dV_cellsWrittenAfter_13 rfl ?_
    refine x_get fV_clocks dV_cellsWrittenAfter_14 (by assumption) rfl ?_
    refine x_iload_n dV_cellsWrittenAfter_17 rfl ?_
    refine x_iald i dV_cellsWrittenAfter_18 (by assumption) rfl (by omega) (by decide) ?_
    refine x_iload_n dV_cellsWrittenAfter_19 rfl ?_
    refine x_icmp_le 40 dV_cellsWrittenAfter_20 (by decide) (fun hz => ?_) (fun hz => ?_)
    · rw [show vwa A k (i + 1) z = z from if_pos ((nI_leI hAi.2 hk).mp hz)]
      refine x_iload_n dV_cellsWrittenAfter_40 rfl ?_
      exact x_iret rfl dV_cellsWrittenAfter_41
    · rw [show vwa A k (i + 1) z = vwa A k i (z ||| xbit (A.1 i)) from if_neg (fun q => hz (nI_le q hk))]
      refine x_iload_n dV_cellsWrittenAfter_23 rfl ?_
      refine x_iconst (v := 1) dV_cellsWrittenAfter_24 (by decide) ?_
      refine x_aload_n dV_cellsWrittenAfter_25 rfl ?_
      refine x_get fV_cells dV_cellsWrittenAfter_26 (by assumption) rfl ?_
      refine x_iload_n dV_cellsWrittenAfter_29 rfl ?_
      refine x_iald i dV_cellsWrittenAfter_30 (by assumption) rfl (by omega) (by decide) ?_
      refine x_ishl dV_cellsWrittenAfter_31 ?_
      refine x_ior dV_cellsWrittenAfter_32 ?_
      refine x_istore_n dV_cellsWrittenAfter_33 (Nat.le_of_ble_eq_true rfl) ?_
      refine x_iinc (v := xpi i) dV_cellsWrittenAfter_34 rfl (xpi_dec i) (Nat.le_of_ble_eq_true rfl) ?_
      refine x_goto 9 dV_cellsWrittenAfter_37 (by decide) ?_
      exact ih _ (by omega)
theorem v_wa {k : Nat} (hn : n ≤ 500) (hk : k < 2 ^ 31) (hA : ∀ i, i < n → A.1 i < 2 ^ 31 ∧ A.2.1 i < 2 ^ 31) (ha : h.1 a = some (vV a n)) (h1 : h.1 (a + 1) = some (vN 500 A.1)) (h2 : h.1 (a + 2) = some (vN 500 A.2.1)) : xG E d mV_cellsWrittenAfter 0 [(0, .ref a), (1, .int (nI k))] [] false h (false, .inl (some (.int (vwa A k n 0))), h) := by
  refine x_iconst (v := 0) dV_cellsWrittenAfter_0 (by decide) ?_
  refine x_istore_n dV_cellsWrittenAfter_1 (Nat.le_of_ble_eq_true rfl) ?_
  refine x_aload_n dV_cellsWrittenAfter_2 rfl ?_
  refine x_get fV_size dV_cellsWrittenAfter_3 (by assumption) rfl ?_
  refine x_iconst (v := (nI 1)) dV_cellsWrittenAfter_6 (by decide) ?_
  refine x_isub dV_cellsWrittenAfter_7 ?_
  refine x_top (by rw [xpi_of]) ?_
  refine x_istore_n dV_cellsWrittenAfter_8 (Nat.le_of_ble_eq_true rfl) ?_
  exact v_wa_loop hn hk hA ha h1 h2 n 0 (Nat.le_refl _)
theorem v_move {i j : Nat} (hb : E.2.2.1 ≤ a) (hi : i < 500) (hj : j < 500) (ha : h.1 a = some (vV a n)) (h1 : h.1 (a + 1) = some (vN 500 A.1)) (h2 : h.1 (a + 2) = some (vN 500 A.2.1)) (h3 : h.1 (a + 3) = some (vL 500 A.2.2)) : xG E d mV_move 0 [(0, .ref a), (1, .int (nI i)), (2, .int (nI j))] [] false h (true, .inl none, vput h a (mv A i j)) := by
  refine x_aload_n dV_move_0 rfl ?_
  refine x_get fV_cells dV_move_1 (by assumption) rfl ?_
  refine x_iload_n dV_move_4 rfl ?_
  refine x_aload_n dV_move_5 rfl ?_
  refine x_get fV_cells dV_move_6 (by assumption) rfl ?_
  refine x_iload_n dV_move_9 rfl ?_
  refine x_iald i dV_move_10 (by assumption) rfl (by omega) (by decide) ?_
  refine x_iast j dV_move_11 h1 (by omega) rfl hj (by decide) ?_
  rw [up_nI]
  refine x_aload_n dV_move_12 rfl ?_
  refine x_get fV_clocks dV_move_13 ((xset_ne _ _ (by omega)).trans ha) rfl ?_
  refine x_iload_n dV_move_16 rfl ?_
  refine x_aload_n dV_move_17 rfl ?_
  refine x_get fV_clocks dV_move_18 ((xset_ne _ _ (by omega)).trans ha) rfl ?_
  refine x_iload_n dV_move_21 rfl ?_
  refine x_iald i dV_move_22 ((xset_ne _ _ (by omega)).trans h2) rfl hi (by decide) ?_
  refine x_iast j dV_move_23 ((xset_ne _ _ (by omega)).trans h2) (by omega) rfl hj (by decide) ?_
  rw [up_nI]
  refine x_aload_n dV_move_24 rfl ?_
  refine x_get fV_values dV_move_25 ((xset_ne _ _ (by omega)).trans ((xset_ne _ _ (by omega)).trans ha)) rfl ?_
  refine x_iload_n dV_move_28 rfl ?_
  refine x_aload_n dV_move_29 rfl ?_
  refine x_get fV_values dV_move_30 ((xset_ne _ _ (by omega)).trans ((xset_ne _ _ (by omega)).trans ha)) rfl ?_
  refine x_iload_n dV_move_33 rfl ?_
  refine x_lald i dV_move_34 ((xset_ne _ _ (by omega)).trans ((xset_ne _ _ (by omega)).trans h3)) rfl hi (by decide) ?_
  refine x_last j dV_move_35 ((xset_ne _ _ (by omega)).trans ((xset_ne _ _ (by omega)).trans h3)) (by omega) rfl hj (by decide) ?_
  exact x_vret rfl dV_move_36
end
end
section
/-! Versions.removeCovered, Transaction.copyHighestLayerDown -/
theorem up_twice {α : Type} (f : Nat → α) (i : Nat) (x y : α) : va_up (va_up f i x) i y = va_up f i y := by
  funext q
  by_cases hq : q = i <;> simp [va_up, hq]
theorem up_eq {α : Type} (f : Nat → α) (i : Nat) (x : α) : va_up f i x i = x := by simp [va_up]
theorem up_ne {α : Type} (f : Nat → α) {i q : Nat} (x : α) (hq : q ≠ i) : va_up f i x q = f q := by simp [va_up, hq]
theorem up_self {α : Type} (f : Nat → α) (i : Nat) : va_up f i (f i) = f := by
  funext q
  by_cases hq : q = i <;> simp [va_up, hq]
/-- the pass from the newest to the oldest: how many places are left below, the rows -/
def rcA (fl : Nat) : Nat → Int32 → Nat → vW → Nat × vW
  | 0, _, j, A => (j, A)
  | i + 1, cv, j, A => if cv &&& xbit (A.1 i) = 0 then rcA fl i (if A.2.1 i ≤ fl then cv ||| xbit (A.1 i) else cv) (j - 1) (mv A i (j - 1)) else rcA fl i cv j A
/-- the pass back to the beginning -/
def rdA (j : Nat) : Nat → Nat → vW → vW
  | 0, _, A => A
  | m + 1, i, A => rdA j m (i + 1) (mv A i (i - j))
def vok (n : Nat) (A : vW) : Prop := ∀ i, i < n → A.1 i < 2 ^ 31 ∧ A.2.1 i < 2 ^ 31
theorem vok_mv {n : Nat} {A : vW} (h : vok n A) {i j : Nat} (hi : i < n) : vok n (mv A i j) := by
  intro q hq
  simp only [mv]
  by_cases e : q = j
  · subst e; rw [up_eq, up_eq]; exact h i hi
  · rw [up_ne _ _ e, up_ne _ _ e]; exact h q hq
theorem rcA_le (fl : Nat) : ∀ (i : Nat) (cv : Int32) (j : Nat) (A : vW), (rcA fl i cv j A).1 ≤ j
  | 0, _, j, _ => Nat.le_refl _
  | i + 1, cv, j, A => by
    unfold rcA
    split
    · exact Nat.le_trans (rcA_le fl i _ _ _) (Nat.sub_le _ _)
    · exact rcA_le fl i _ _ _
section
variable {E : xE} {d a n fl : Nat} {h : xH}
theorem v_rc1 (hb : E.2.2.1 ≤ a) (hn : n ≤ 500) (hf : fl < 2 ^ 31) (ha : h.1 a = some (vV a n)) {r : xR} : ∀ (i : Nat) (cv : Int32) (j : Nat) (A : vW), i ≤ j → j ≤ n → vok n A →
    (∀ cv', xG E (d + 1) mV_removeCovered 69 [(3, .int (nI (rcA fl i cv j A).1)), (2, .int cv'), (0, .ref a), (1, .int (nI fl))] [] true (vput h a (rcA fl i cv j A).2) r) →
    xG E (d + 1) mV_removeCovered 15 [(4, .int (xpi i)), (3, .int (nI j)), (2, .int cv), (0, .ref a), (1, .int (nI fl))] [] true (vput h a A) r := by
  intro i
  induction i with
  | zero =>
    intro cv j A hij hj hA hk
    refine x_iload dV_removeCovered_15 rfl ?_
    refine x_if_lt 69 dV_removeCovered_17 (by decide) (fun _ => ?_) (fun hc => absurd ((xpi_neg 0 (by decide)).mpr rfl) hc)
    exact x_loc _ (xac rfl (xac rfl (xac rfl (xac rfl xan)))) (hk cv)
  | succ i ih =>
    intro cv j A hij hj hA hk
    have hAi := hA i (by omega)
    have hav : (vput h a A).1 a = some (vV a n) := (vput_ne h A (by omega) (by omega) (by omega)).trans ha
    refine x_iload dV_removeCovered_15 rfl ?_
    refine x_if_lt 69 dV_removeCovered_17 (by decide) (fun hc => absurd ((xpi_neg _ (by omega)).mp hc) (by omega)) (fun _ => ?_)
    refine x_iconst (v := 1) dV_removeCovered_20 (by decide) ?_
    refine x_aload_n dV_removeCovered_21 rfl ?_
    refine x_get fV_cells dV_removeCovered_22 (by assumption) rfl ?_
    refine x_iload dV_removeCovered_25 rfl ?_
    refine x_iald i dV_removeCovered_27 (vput_1 h a A) rfl (by omega) (by decide) ?_
    refine x_ishl dV_removeCovered_28 ?_
    refine x_istore dV_removeCovered_29 (Nat.le_of_ble_eq_true rfl) ?_
    refine x_iload_n dV_removeCovered_31 rfl ?_
    refine x_iload dV_removeCovered_32 rfl ?_
    refine x_iand dV_removeCovered_34 ?_
    refine x_if_ne 63 dV_removeCovered_35 (by decide) (fun hc => ?_) (fun hc => ?_)
    · refine x_iinc (v := xpi i) dV_removeCovered_63 rfl (xpi_dec i) (Nat.le_of_ble_eq_true rfl) ?_
      refine x_goto 15 dV_removeCovered_66 (by decide) ?_
      refine x_loc [(4, .int (xpi i)), (3, .int (nI j)), (2, .int cv), (0, .ref a), (1, .int (nI fl))] (xac rfl (xac rfl (xac rfl (xac rfl (xac rfl xan))))) ?_
      refine ih cv j A (by omega) hj hA ?_
      have e : rcA fl (i + 1) cv j A = rcA fl i cv j A := if_neg hc
      rw [e] at hk
      exact hk
    · have e : rcA fl (i + 1) cv j A = rcA fl i (if A.2.1 i ≤ fl then cv ||| xbit (A.1 i) else cv) (j - 1) (mv A i (j - 1)) := if_pos hc
      rw [e] at hk
      refine x_iinc (v := nI (j - 1)) dV_removeCovered_38 rfl (by rw [← pk_sub (show 1 ≤ j by omega), Int32.sub_eq_add_neg]; rfl) (Nat.le_of_ble_eq_true rfl) ?_
      refine x_aload_n dV_removeCovered_41 rfl ?_
      refine x_iload dV_removeCovered_42 rfl ?_
      refine x_iload_n dV_removeCovered_44 rfl ?_
      refine x_callV2 cV_V_move dV_removeCovered_45 (by assumption) (Nat.le_of_ble_eq_true rfl) (Nat.le_of_ble_eq_true rfl) (v_move (i := i) (j := j - 1) (A := A) hb (by omega) (by omega) hav (vput_1 h a A) (vput_2 h a A) (vput_3 h a A)) ?_
      rw [vput_twice]
      have hav2 : (vput h a (mv A i (j - 1))).1 a = some (vV a n) := (vput_ne h _ (by omega) (by omega) (by omega)).trans ha
      refine x_aload_n dV_removeCovered_48 rfl ?_
      refine x_get fV_clocks dV_removeCovered_49 (by assumption) rfl ?_
      refine x_iload_n dV_removeCovered_52 rfl ?_
      refine x_iald (j - 1) dV_removeCovered_53 (vput_2 h a (mv A i (j - 1))) rfl (by omega) (by decide) ?_
      refine x_iload_n dV_removeCovered_54 rfl ?_
      have ek : (mv A i (j - 1)).2.1 (j - 1) = A.2.1 i := by simp only [mv]; rw [up_eq]
      rw [ek]
      refine x_icmp_gt 63 dV_removeCovered_55 (by decide) (fun hz => ?_) (fun hz => ?_)
      · rw [if_neg (fun q => absurd hz (nI_nlt q hf))] at hk
        refine x_iinc (v := xpi i) dV_removeCovered_63 rfl (xpi_dec i) (Nat.le_of_ble_eq_true rfl) ?_
        refine x_goto 15 dV_removeCovered_66 (by decide) ?_
        refine x_loc [(4, .int (xpi i)), (3, .int (nI (j - 1))), (2, .int cv), (0, .ref a), (1, .int (nI fl))] (xac rfl (xac rfl (xac rfl (xac rfl (xac rfl xan))))) ?_
        exact ih _ (j - 1) _ (by omega) (by omega) (vok_mv hA (by omega)) hk
      · rw [if_pos (Nat.not_lt.mp (fun q => hz (nI_lt q hAi.2)))] at hk
        refine x_iload_n dV_removeCovered_58 rfl ?_
        refine x_iload dV_removeCovered_59 rfl ?_
        refine x_ior dV_removeCovered_61 ?_
        refine x_istore_n dV_removeCovered_62 (Nat.le_of_ble_eq_true rfl) ?_
        refine x_iinc (v := xpi i) dV_removeCovered_63 rfl (xpi_dec i) (Nat.le_of_ble_eq_true rfl) ?_
        refine x_goto 15 dV_removeCovered_66 (by decide) ?_
        refine x_loc [(4, .int (xpi i)), (3, .int (nI (j - 1))), (2, .int (cv ||| xbit (A.1 i))), (0, .ref a), (1, .int (nI fl))] (xac rfl (xac rfl (xac rfl (xac rfl (xac rfl xan))))) ?_
        exact ih _ (j - 1) _ (by omega) (by omega) (vok_mv hA (by omega)) hk
theorem v_rc2 (hb : E.2.2.1 ≤ a) (hn : n ≤ 500) (ha : h.1 a = some (vV a n)) {cv : Int32} {j : Nat} {r : xR} : ∀ (m i : Nat) (A : vW), i + m = n → j ≤ i →
    xG E (d + 1) mV_removeCovered 97 [(3, .int (nI j)), (2, .int cv), (0, .ref a), (1, .int (nI fl))] [] true (vput h a (rdA j m i A)) r →
    xG E (d + 1) mV_removeCovered 72 [(4, .int (nI i)), (3, .int (nI j)), (2, .int cv), (0, .ref a), (1, .int (nI fl))] [] true (vput h a A) r := by
  intro m
  induction m with
  | zero =>
    intro i A hi hj hk
    have hav : (vput h a A).1 a = some (vV a n) := (vput_ne h A (by omega) (by omega) (by omega)).trans ha
    refine x_iload dV_removeCovered_72 rfl ?_
    refine x_aload_n dV_removeCovered_74 rfl ?_
    refine x_get fV_size dV_removeCovered_75 (by assumption) rfl ?_
    refine x_icmp_ge 97 dV_removeCovered_78 (by decide) (fun _ => ?_) (fun hc => absurd (nI_le (by omega) (by omega)) hc)
    exact x_loc _ (xac rfl (xac rfl (xac rfl (xac rfl xan)))) hk
  | succ m ih =>
    intro i A hi hj hk
    have hav : (vput h a A).1 a = some (vV a n) := (vput_ne h A (by omega) (by omega) (by omega)).trans ha
    refine x_iload dV_removeCovered_72 rfl ?_
    refine x_aload_n dV_removeCovered_74 rfl ?_
    refine x_get fV_size dV_removeCovered_75 (by assumption) rfl ?_
    refine x_icmp_ge 97 dV_removeCovered_78 (by decide) (fun hc => absurd hc (nI_ge (by omega) (by omega))) (fun _ => ?_)
    refine x_aload_n dV_removeCovered_81 rfl ?_
    refine x_iload dV_removeCovered_82 rfl ?_
    refine x_iload dV_removeCovered_84 rfl ?_
    refine x_iload_n dV_removeCovered_86 rfl ?_
    refine x_isub dV_removeCovered_87 ?_
    refine x_top (v' := .int (nI (i - j))) (by rw [pk_sub hj]) ?_
    refine x_callV2 cV_V_move dV_removeCovered_88 (by assumption) (Nat.le_of_ble_eq_true rfl) (Nat.le_of_ble_eq_true rfl) (v_move (i := i) (j := i - j) (A := A) hb (by omega) (by omega) hav (vput_1 h a A) (vput_2 h a A) (vput_3 h a A)) ?_
    rw [vput_twice]
    refine x_iinc (v := nI (i + 1)) dV_removeCovered_91 rfl (by rw [nI_succ]; rfl) (Nat.le_of_ble_eq_true rfl) ?_
    refine x_goto 72 dV_removeCovered_94 (by decide) ?_
    exact ih (i + 1) _ (by omega) (by omega) hk
theorem v_removeCovered {A : vW} (hb : E.2.2.1 ≤ a) (hn : n ≤ 500) (hf : fl < 2 ^ 31) (hA : vok n A) (ha : h.1 a = some (vV a n)) (h1 : h.1 (a + 1) = some (vN 500 A.1)) (h2 : h.1 (a + 2) = some (vN 500 A.2.1)) (h3 : h.1 (a + 3) = some (vL 500 A.2.2)) : xG E (d + 1) mV_removeCovered 0 [(0, .ref a), (1, .int (nI fl))] [] false h (true, .inl (some (.int (nI (rcA fl n 0 n A).1))), xset (vput h a (rdA (rcA fl n 0 n A).1 (n - (rcA fl n 0 n A).1) (rcA fl n 0 n A).1 (rcA fl n 0 n A).2)) a (vV a (n - (rcA fl n 0 n A).1))) := by
  have hle := rcA_le fl n 0 n A
  refine x_true ?_
  refine x_iconst (v := 0) dV_removeCovered_0 (by decide) ?_
  refine x_istore_n dV_removeCovered_1 (Nat.le_of_ble_eq_true rfl) ?_
  refine x_aload_n dV_removeCovered_2 rfl ?_
  refine x_get fV_size dV_removeCovered_3 (by assumption) rfl ?_
  refine x_istore_n dV_removeCovered_6 (Nat.le_of_ble_eq_true rfl) ?_
  refine x_aload_n dV_removeCovered_7 rfl ?_
  refine x_get fV_size dV_removeCovered_8 (by assumption) rfl ?_
  refine x_iconst (v := (nI 1)) dV_removeCovered_11 (by decide) ?_
  refine x_isub dV_removeCovered_12 ?_
  refine x_top (by rw [xpi_of]) ?_
  refine x_istore dV_removeCovered_13 (Nat.le_of_ble_eq_true rfl) ?_
  conv => lhs; rw [← vput_self h1 h2 h3]
  refine v_rc1 hb hn hf ha n 0 n A (Nat.le_refl _) (Nat.le_refl _) hA (fun cv' => ?_)
  generalize hq : rcA fl n 0 n A = q at hle ⊢
  obtain ⟨j, B⟩ := q
  dsimp only at hle ⊢
  refine x_iload_n dV_removeCovered_69 rfl ?_
  refine x_istore dV_removeCovered_70 (Nat.le_of_ble_eq_true rfl) ?_
  refine v_rc2 hb hn ha (n - j) j B (by omega) (Nat.le_refl _) ?_
  have hav : (vput h a (rdA j (n - j) j B)).1 a = some (vV a n) := (vput_ne h _ (by omega) (by omega) (by omega)).trans ha
  refine x_aload_n dV_removeCovered_97 rfl ?_
  refine x_dup dV_removeCovered_98 rfl ?_
  refine x_get fV_size dV_removeCovered_99 (by assumption) rfl ?_
  refine x_iload_n dV_removeCovered_102 rfl ?_
  refine x_isub dV_removeCovered_103 ?_
  refine x_top (v' := .int (nI (n - j))) (by rw [pk_sub hle]) ?_
  refine x_put fV_size dV_removeCovered_104 (by assumption) hb rfl rfl (Nat.le_of_ble_eq_true rfl) ?_
  refine x_iload_n dV_removeCovered_107 rfl ?_
  exact x_iret rfl dV_removeCovered_108
end
end
section
/-! Transaction.copyHighestLayerDown, the constructors, the two JDK methods -/
def cdW (top low : Int32) : Nat → Int32
  | 0 => low
  | n + 1 => if top &&& xbit n = 0 then cdW top low n else cdW top low n ||| xbit n
def cdR (top : Int32) (hi lo : Nat → Int64) : Nat → Nat → Int64
  | 0 => lo
  | n + 1 => if top &&& xbit n = 0 then cdR top hi lo n else va_up (cdR top hi lo n) n (hi n)
section
variable {E : xE} {d a : Nat} {o : Bool} {s k l : Nat} {sn : Int32} {h : xH}
/-- wrote and one row of values of a transaction -/
def tput (h : xH) (a i : Nat) (f : Nat → Int32) (g : Nat → Int64) : xH := xset (xset h (a + 1) (vI 8 f)) (a + 2 + 1 + i) (vL 16 g)
theorem tput_1 (h : xH) (a i : Nat) (f : Nat → Int32) (g : Nat → Int64) : (tput h a i f g).1 (a + 1) = some (vI 8 f) := by
  unfold tput; rw [xset_ne _ _ (by omega), xset_eq]
theorem tput_2 (h : xH) (a i : Nat) (f : Nat → Int32) (g : Nat → Int64) : (tput h a i f g).1 (a + 2 + 1 + i) = some (vL 16 g) := by
  unfold tput; rw [xset_eq]
theorem tput_ne (h : xH) {a i q : Nat} (f : Nat → Int32) (g : Nat → Int64) (h1 : q ≠ a + 1) (h2 : q ≠ a + 2 + 1 + i) : (tput h a i f g).1 q = h.1 q := by
  unfold tput; rw [xset_ne _ _ h2, xset_ne _ _ h1]
theorem tput_self {h : xH} {a i : Nat} {f : Nat → Int32} {g : Nat → Int64} (h1 : h.1 (a + 1) = some (vI 8 f)) (h2 : h.1 (a + 2 + 1 + i) = some (vL 16 g)) : tput h a i f g = h := by
  unfold tput; rw [xset_self h1, xset_self h2]
theorem tput_twice (h : xH) (a i : Nat) (f f' : Nat → Int32) (g g' : Nat → Int64) : tput (tput h a i f g) a i f' g' = tput h a i f' g' := by
  unfold tput
  rw [xset_comm _ (show a + 2 + 1 + i ≠ a + 1 by omega), xset_twice, xset_twice]
theorem t_chd_loop {f : Nat → Int32} {hi lo : Nat → Int64} (hb : E.2.2.1 ≤ a) (hl : l + 2 ≤ 8) (ha : h.1 a = some (vT a o s k (l + 2) sn)) (hv : h.1 (a + 2) = some (vR a)) (hh : h.1 (a + 2 + 1 + (l + 1)) = some (vL 16 hi)) : ∀ m n : Nat, n + m = 16 →
    xG E (d + 1) mT_copyHighestLayerDown 9 [(2, .int (nI n)), (1, .int (nI (l + 1))), (0, .ref a)] [] true (tput h a l (va_up f l (cdW (f (l + 1)) (f l) n)) (cdR (f (l + 1)) hi lo n)) (true, .inl none, tput h a l (va_up f l (cdW (f (l + 1)) (f l) 16)) (cdR (f (l + 1)) hi lo 16)) := by
  intro m
  induction m with
  | zero =>
    intro n hn
    obtain rfl : n = 16 := by omega
    refine x_iload_n dT_copyHighestLayerDown_9 rfl ?_
    refine x_if_le 54 dT_copyHighestLayerDown_10 (by decide) (fun hc => absurd hc (nI_nle (by omega) (by omega))) (fun _ => ?_)
    refine x_iload_n dT_copyHighestLayerDown_13 rfl ?_
    refine x_bipush (v := (nI 16)) dT_copyHighestLayerDown_14 (by decide) ?_
    refine x_icmp_ge 54 dT_copyHighestLayerDown_16 (by decide) (fun _ => ?_) (fun hc => absurd (nI_le (by omega) (by omega)) hc)
    exact x_vret rfl dT_copyHighestLayerDown_54
  | succ m ih =>
    intro n hn
    generalize hF : va_up f l (cdW (f (l + 1)) (f l) n) = F
    generalize hG : cdR (f (l + 1)) hi lo n = G
    have hT : (tput h a l F G).1 a = some (vT a o s k (l + 2) sn) := (tput_ne h F G (by omega) (by omega)).trans ha
    have hV : (tput h a l F G).1 (a + 2) = some (vR a) := (tput_ne h F G (by omega) (by omega)).trans hv
    have hH : (tput h a l F G).1 (a + 2 + 1 + (l + 1)) = some (vL 16 hi) := (tput_ne h F G (by omega) (by omega)).trans hh
    have eF : F (l + 1) = f (l + 1) := by rw [← hF, up_ne _ _ (by omega)]
    have eFl : F l = cdW (f (l + 1)) (f l) n := by rw [← hF, up_eq]
    refine x_iload_n dT_copyHighestLayerDown_9 rfl ?_
    refine x_if_le 54 dT_copyHighestLayerDown_10 (by decide) (fun hc => absurd hc (nI_nle (by omega) (by omega))) (fun _ => ?_)
    refine x_iload_n dT_copyHighestLayerDown_13 rfl ?_
    refine x_bipush (v := (nI 16)) dT_copyHighestLayerDown_14 (by decide) ?_
    refine x_icmp_ge 54 dT_copyHighestLayerDown_16 (by decide) (fun hc => absurd hc (nI_ge (by omega) (by omega))) (fun _ => ?_)
    refine x_aload_n dT_copyHighestLayerDown_19 rfl ?_
    refine x_get fT_wrote dT_copyHighestLayerDown_20 (by assumption) rfl ?_
    refine x_iload_n dT_copyHighestLayerDown_23 rfl ?_
    refine x_iald (l + 1) dT_copyHighestLayerDown_24 (tput_1 h a l F G) rfl (by omega) (by decide) ?_
    refine x_iconst (v := 1) dT_copyHighestLayerDown_25 (by decide) ?_
    refine x_iload_n dT_copyHighestLayerDown_26 rfl ?_
    refine x_ishl dT_copyHighestLayerDown_27 ?_
    refine x_iand dT_copyHighestLayerDown_28 ?_
    rw [eF]
    refine x_if_eq 48 dT_copyHighestLayerDown_29 (by decide) (fun hc => ?_) (fun hc => ?_)
    · refine x_iinc (v := nI (n + 1)) dT_copyHighestLayerDown_48 rfl (by rw [nI_succ]; rfl) (Nat.le_of_ble_eq_true rfl) ?_
      refine x_goto 9 dT_copyHighestLayerDown_51 (by decide) ?_
      have := ih (n + 1) (by omega)
      rw [show cdW (f (l + 1)) (f l) (n + 1) = cdW (f (l + 1)) (f l) n from if_pos hc, show cdR (f (l + 1)) hi lo (n + 1) = cdR (f (l + 1)) hi lo n from if_pos hc, hF, hG] at this
      exact this
    · refine x_aload_n dT_copyHighestLayerDown_32 rfl ?_
      refine x_iload_n dT_copyHighestLayerDown_33 rfl ?_
      refine x_iconst (v := (nI 1)) dT_copyHighestLayerDown_34 (by decide) ?_
      refine x_isub dT_copyHighestLayerDown_35 ?_
      refine x_top (v' := .int (nI l)) (by rw [pk_sub (show 1 ≤ l + 1 by omega)]; rfl) ?_
      refine x_iload_n dT_copyHighestLayerDown_36 rfl ?_
      refine x_aload_n dT_copyHighestLayerDown_37 rfl ?_
      refine x_get fT_values dT_copyHighestLayerDown_38 (by assumption) rfl ?_
      refine x_iload_n dT_copyHighestLayerDown_41 rfl ?_
      refine x_aald (l + 1) (a + 2 + 1 + (l + 1)) dT_copyHighestLayerDown_42 (by assumption) rfl (if_pos (show l + 1 < 8 by omega)) rfl (by omega) (by decide) ?_
      refine x_iload_n dT_copyHighestLayerDown_43 rfl ?_
      refine x_lald n dT_copyHighestLayerDown_44 (by assumption) rfl (by omega) (by decide) ?_
      refine x_callV3 cT_T_putIn dT_copyHighestLayerDown_45 (by assumption) (Nat.le_of_ble_eq_true rfl) (Nat.le_of_ble_eq_true rfl) (t_putIn (i := l) (c := n) hb (by omega) (by omega) hT (tput_1 h a l F G) hV (tput_2 h a l F G)) ?_
      have e2 : xset (xset (tput h a l F G) (a + 1) (vI 8 (va_up F l (F l ||| xbit n)))) (a + 2 + 1 + l) (vL 16 (va_up G n (hi n))) = tput h a l (va_up f l (cdW (f (l + 1)) (f l) (n + 1))) (cdR (f (l + 1)) hi lo (n + 1)) := by
        rw [show cdW (f (l + 1)) (f l) (n + 1) = cdW (f (l + 1)) (f l) n ||| xbit n from if_neg hc, show cdR (f (l + 1)) hi lo (n + 1) = va_up (cdR (f (l + 1)) hi lo n) n (hi n) from if_neg hc, hG, eFl, ← hF, up_twice]
        exact tput_twice h a l _ _ _ _
      rw [e2]
      refine x_iinc (v := nI (n + 1)) dT_copyHighestLayerDown_48 rfl (by rw [nI_succ]; rfl) (Nat.le_of_ble_eq_true rfl) ?_
      refine x_goto 9 dT_copyHighestLayerDown_51 (by decide) ?_
      exact ih (n + 1) (by omega)
theorem t_chd {f : Nat → Int32} {hi lo : Nat → Int64} (hb : E.2.2.1 ≤ a) (hl : l + 2 ≤ 8) (ha : h.1 a = some (vT a o s k (l + 2) sn)) (hw : h.1 (a + 1) = some (vI 8 f)) (hv : h.1 (a + 2) = some (vR a)) (hh : h.1 (a + 2 + 1 + (l + 1)) = some (vL 16 hi)) (hlo : h.1 (a + 2 + 1 + l) = some (vL 16 lo)) :
    xG E (d + 1) mT_copyHighestLayerDown 0 [(0, .ref a)] [] false h (true, .inl none, tput h a l (va_up f l (cdW (f (l + 1)) (f l) 16)) (cdR (f (l + 1)) hi lo 16)) := by
  refine x_true ?_
  refine x_aload_n dT_copyHighestLayerDown_0 rfl ?_
  refine x_get fT_layers dT_copyHighestLayerDown_1 (by assumption) rfl ?_
  refine x_iconst (v := (nI 1)) dT_copyHighestLayerDown_4 (by decide) ?_
  refine x_isub dT_copyHighestLayerDown_5 ?_
  refine x_top (v' := .int (nI (l + 1))) (by rw [pk_sub (show 1 ≤ l + 2 by omega)]; rfl) ?_
  refine x_istore_n dT_copyHighestLayerDown_6 (Nat.le_of_ble_eq_true rfl) ?_
  refine x_iconst (v := (nI 0)) dT_copyHighestLayerDown_7 (by decide) ?_
  refine x_istore_n dT_copyHighestLayerDown_8 (Nat.le_of_ble_eq_true rfl) ?_
  have := t_chd_loop (E := E) (d := d) (f := f) (lo := lo) hb hl ha hv hh 16 0 (by omega)
  rw [show cdW (f (l + 1)) (f l) 0 = f l from rfl, show cdR (f (l + 1)) hi lo 0 = lo from rfl, up_self, tput_self hw hlo] at this
  exact this
theorem t_init (hb : E.2.2.1 ≤ a) (hz : a < h.2.1) (ha : h.1 a = some (.inr (1, [.int 0, .int 0, .int 0, .int 0, .int 0, .null, .null]))) (hz1 : h.2.1 = a + 1) :
    xG E d mT_init 0 [(0, .ref a)] [] false h (true, .inl none, xset (xmulti (xadd h (vI 8 (fun _ => 0)) 8) 8 16) a (vT a false 0 0 1 0)) := by
  obtain ⟨hm, z, u⟩ := h
  dsimp only at hz1 hz ha
  subst hz1
  refine x_aload_n dT_init_0 rfl ?_
  refine x_objInit dT_init_1 kw_27 kw_19 kw_20 (Nat.le_of_ble_eq_true rfl) ?_
  refine x_aload_n dT_init_4 rfl ?_
  refine x_iconst (v := 0) dT_init_5 (by decide) ?_
  refine x_put fT_open dT_init_6 ha hb rfl rfl (Nat.le_of_ble_eq_true rfl) ?_
  refine x_aload_n dT_init_9 rfl ?_
  refine x_iconst (v := (nI 1)) dT_init_10 (by decide) ?_
  refine x_put fT_layers dT_init_11 (xset_eq _ _ _) hb rfl rfl (Nat.le_of_ble_eq_true rfl) ?_
  rw [xset_twice]
  refine x_aload_n dT_init_14 rfl ?_
  refine x_bipush (v := (nI 8)) dT_init_15 (by decide) ?_
  refine x_newi 8 dT_init_17 kw_52 rfl (by decide) ?_
  refine x_putF fT_wrote rfl dT_init_19 ((xadd_ne _ _ _ (by simp [xset])).trans (xset_eq _ _ _)) hb rfl rfl (Nat.le_of_ble_eq_true rfl) ?_
  refine x_aload_n dT_init_22 rfl ?_
  refine x_bipush (v := (nI 8)) dT_init_23 (by decide) ?_
  refine x_bipush (v := (nI 16)) dT_init_25 (by decide) ?_
  refine x_mnew 8 16 dT_init_27 kw_28 kw_29 kw_53 rfl rfl (by decide) (by decide) ?_
  refine x_putF fT_values rfl dT_init_31 (fs := [.int 0, .int 0, .int 0, .int (nI 1), .int 0, .ref (a + 1), .null]) ?_ hb rfl rfl (Nat.le_of_ble_eq_true rfl) ?_
  · simp [xmulti, xset, xadd]
    rw [if_neg (by omega), if_neg (by omega)]
  have e : xset (xmulti (xset (xadd (xset (hm, a + 1, u) a (.inr (1, [.int 0, .int 0, .int 0, .int (nI 1), .int 0, .null, .null]))) (vI 8 (fun _ => 0)) 8) a (.inr (1, [.int 0, .int 0, .int 0, .int (nI 1), .int 0, .ref (a + 1), .null]))) 8 16) a (vT a false 0 0 1 0) = xset (xmulti (xadd (hm, a + 1, u) (vI 8 (fun _ => 0)) 8) 8 16) a (vT a false 0 0 1 0) := by
    simp only [xset, xmulti, xadd]
    congr 1
    funext q
    by_cases h1 : q = a
    · simp [h1]
    · simp [h1]
  exact e ▸ x_vret rfl dT_init_34
end
end
section
/-! Versions(), Integer.bitCount, Math.min -/
theorem x_heq {E : xE} {d : Nat} {M : xM} {pc : Nat} {lv : xL} {st : List Value} {w : Bool} {h : xH} {r : xR} {h' : xH} (e : h = h') (k : xG E d M pc lv st w h' r) : xG E d M pc lv st w h r := by subst e; exact k
def bcU (x : Int32) (n : Nat) : Int32 := (x.toUInt32 >>> ((nI n).toUInt32 &&& Int32.toUInt32 31)).toInt32
def bc1 (x : Int32) : Int32 := x - (bcU x 1 &&& 1431655765)
def bc2 (x : Int32) : Int32 := (x &&& 858993459) + (bcU x 2 &&& 858993459)
def bc3 (x : Int32) : Int32 := (x + bcU x 4) &&& 252645135
def bc4 (x : Int32) : Int32 := x + bcU x 8
def bc5 (x : Int32) : Int32 := x + bcU x 16
def bcF (x : Int32) : Int32 := bc5 (bc4 (bc3 (bc2 (bc1 x)))) &&& 63
/-- the rows of a new Versions: the heap before, its own cell at a -/
def vnew (h : xH) : xH := xadd (xadd (xadd h (vN 500 (fun _ => 0)) 500) (vN 500 (fun _ => 0)) 500) (vL 500 (fun _ => 0)) 500
section
variable {E : xE} {d : Nat} {h : xH}
theorem j_min {x y : Nat} (hx : x < 2 ^ 31) (hy : y < 2 ^ 31) : xG E d mJ_min 0 [(0, .int (nI x)), (1, .int (nI y))] [] false h (false, .inl (some (.int (nI (min x y)))), h) := by
  refine x_iload_n dJ_min_0 rfl ?_
  refine x_iload_n dJ_min_1 rfl ?_
  refine x_icmp_gt 9 dJ_min_2 (by decide) (fun hc => ?_) (fun hc => ?_)
  · rw [Nat.min_eq_right (Nat.le_of_lt ((nI_ltI hy hx).mp hc))]
    refine x_iload_n dJ_min_9 rfl ?_
    exact x_iret rfl dJ_min_10
  · rw [Nat.min_eq_left (Nat.not_lt.mp (fun q => hc (nI_lt q hx)))]
    refine x_iload_n dJ_min_5 rfl ?_
    refine x_goto 10 dJ_min_6 (by decide) ?_
    exact x_iret rfl dJ_min_10
theorem j_bitCount {x : Int32} : xG E d mJ_bitCount 0 [(0, .int x)] [] false h (false, .inl (some (.int (bcF x))), h) := by
  refine x_iload_n dJ_bitCount_0 rfl ?_
  refine x_iload_n dJ_bitCount_1 rfl ?_
  refine x_iconst (v := (nI 1)) dJ_bitCount_2 (by decide) ?_
  refine x_iushr dJ_bitCount_3 ?_
  refine x_ldcw dJ_bitCount_4 kw_347 ?_
  refine x_iand dJ_bitCount_7 ?_
  refine x_isub dJ_bitCount_8 ?_
  refine x_top (v' := .int (bc1 x)) rfl ?_
  refine x_istore_n dJ_bitCount_9 (Nat.le_of_ble_eq_true rfl) ?_
  refine x_iload_n dJ_bitCount_10 rfl ?_
  refine x_ldcw dJ_bitCount_11 kw_348 ?_
  refine x_iand dJ_bitCount_14 ?_
  refine x_iload_n dJ_bitCount_15 rfl ?_
  refine x_iconst (v := (nI 2)) dJ_bitCount_16 (by decide) ?_
  refine x_iushr dJ_bitCount_17 ?_
  refine x_ldcw dJ_bitCount_18 kw_348 ?_
  refine x_iand dJ_bitCount_21 ?_
  refine x_iadd dJ_bitCount_22 ?_
  refine x_top (v' := .int (bc2 (bc1 x))) rfl ?_
  refine x_istore_n dJ_bitCount_23 (Nat.le_of_ble_eq_true rfl) ?_
  refine x_iload_n dJ_bitCount_24 rfl ?_
  refine x_iload_n dJ_bitCount_25 rfl ?_
  refine x_iconst (v := (nI 4)) dJ_bitCount_26 (by decide) ?_
  refine x_iushr dJ_bitCount_27 ?_
  refine x_iadd dJ_bitCount_28 ?_
  refine x_ldcw dJ_bitCount_29 kw_349 ?_
  refine x_iand dJ_bitCount_32 ?_
  refine x_top (v' := .int (bc3 (bc2 (bc1 x)))) rfl ?_
  refine x_istore_n dJ_bitCount_33 (Nat.le_of_ble_eq_true rfl) ?_
  refine x_iload_n dJ_bitCount_34 rfl ?_
  refine x_iload_n dJ_bitCount_35 rfl ?_
  refine x_bipush (v := (nI 8)) dJ_bitCount_36 (by decide) ?_
  refine x_iushr dJ_bitCount_38 ?_
  refine x_iadd dJ_bitCount_39 ?_
  refine x_top (v' := .int (bc4 (bc3 (bc2 (bc1 x))))) rfl ?_
  refine x_istore_n dJ_bitCount_40 (Nat.le_of_ble_eq_true rfl) ?_
  refine x_iload_n dJ_bitCount_41 rfl ?_
  refine x_iload_n dJ_bitCount_42 rfl ?_
  refine x_bipush (v := (nI 16)) dJ_bitCount_43 (by decide) ?_
  refine x_iushr dJ_bitCount_45 ?_
  refine x_iadd dJ_bitCount_46 ?_
  refine x_top (v' := .int (bc5 (bc4 (bc3 (bc2 (bc1 x)))))) rfl ?_
  refine x_istore_n dJ_bitCount_47 (Nat.le_of_ble_eq_true rfl) ?_
  refine x_iload_n dJ_bitCount_48 rfl ?_
  refine x_bipush (v := 63) dJ_bitCount_49 (by decide) ?_
  refine x_iand dJ_bitCount_51 ?_
  exact x_iret rfl dJ_bitCount_52
theorem v_init_loop {a : Nat} (hb : E.2.2.1 ≤ a) (ha : h.1 a = some (vV a 0)) : ∀ m i : Nat, i + m = 16 → xG E d mV_init 33 [(1, .int (nI i)), (0, .ref a)] [] true (vput h a (fun q => if q < i then q else 0, fun _ => 0, fun _ => 0)) (true, .inl none, xset (vput h a (fun q => if q < 16 then q else 0, fun _ => 0, fun _ => 0)) a (vV a 16)) := by
  intro m
  induction m with
  | zero =>
    intro i hi
    obtain rfl : i = 16 := by omega
    have hav : (vput h a (fun q => if q < 16 then q else 0, fun _ => 0, fun _ => 0)).1 a = some (vV a 0) := (vput_ne h _ (by omega) (by omega) (by omega)).trans ha
    refine x_iload_n dV_init_33 rfl ?_
    refine x_bipush (v := (nI 16)) dV_init_34 (by decide) ?_
    refine x_icmp_ge 52 dV_init_36 (by decide) (fun _ => ?_) (fun hc => absurd (nI_le (by omega) (by omega)) hc)
    refine x_aload_n dV_init_52 rfl ?_
    refine x_bipush (v := (nI 16)) dV_init_53 (by decide) ?_
    refine x_put fV_size dV_init_55 (by assumption) hb rfl rfl (Nat.le_of_ble_eq_true rfl) ?_
    exact x_vret rfl dV_init_58
  | succ m ih =>
    intro i hi
    have hav : (vput h a (fun q => if q < i then q else 0, fun _ => 0, fun _ => 0)).1 a = some (vV a 0) := (vput_ne h _ (by omega) (by omega) (by omega)).trans ha
    refine x_iload_n dV_init_33 rfl ?_
    refine x_bipush (v := (nI 16)) dV_init_34 (by decide) ?_
    refine x_icmp_ge 52 dV_init_36 (by decide) (fun hc => absurd hc (nI_ge (by omega) (by omega))) (fun _ => ?_)
    refine x_aload_n dV_init_39 rfl ?_
    refine x_get fV_cells dV_init_40 (by assumption) rfl ?_
    refine x_iload_n dV_init_43 rfl ?_
    refine x_iload_n dV_init_44 rfl ?_
    refine x_iast i dV_init_45 (vput_1 h a _) (by omega) rfl (by omega) (by decide) ?_
    rw [up_nI]
    have e : va_up (fun q => if q < i then q else 0) i i = fun q => if q < i + 1 then q else 0 := by
      funext q
      by_cases hq : q = i
      · simp [va_up, hq]
      · by_cases h2 : q < i
        · simp [va_up, hq, h2, Nat.lt_succ_of_lt h2]
        · simp [va_up, hq, h2, show ¬ q < i + 1 by omega]
    refine x_heq (h' := vput h a (fun q => if q < i + 1 then q else 0, fun _ => 0, fun _ => 0)) ?_ ?_
    · dsimp only
      rw [e]
      unfold vput
      rw [xset_comm _ (show a + 3 ≠ a + 1 by omega), xset_comm _ (show a + 2 ≠ a + 1 by omega), xset_twice]
    refine x_iinc (v := nI (i + 1)) dV_init_46 rfl (by rw [nI_succ]; rfl) (Nat.le_of_ble_eq_true rfl) ?_
    refine x_goto 33 dV_init_49 (by decide) ?_
    exact ih (i + 1) (by omega)
theorem v_init {a : Nat} (hb : E.2.2.1 ≤ a) (ha : h.1 a = some (.inr (2, [.null, .null, .null, .int 0]))) (hz1 : h.2.1 = a + 1) :
    xG E d mV_init 0 [(0, .ref a)] [] false h (true, .inl none, xset (vput (xset (vnew h) a (vV a 0)) a (fun q => if q < 16 then q else 0, fun _ => 0, fun _ => 0)) a (vV a 16)) := by
  obtain ⟨hm, z, u⟩ := h
  dsimp only at hz1 ha
  subst hz1
  refine x_aload_n dV_init_0 rfl ?_
  refine x_objInit dV_init_1 kw_59 kw_19 kw_20 (Nat.le_of_ble_eq_true rfl) ?_
  refine x_aload_n dV_init_4 rfl ?_
  refine x_sipush (v := (nI 500)) dV_init_5 (by decide) ?_
  refine x_newi 500 dV_init_8 kw_52 rfl (by decide) ?_
  refine x_putF fV_cells rfl dV_init_10 ((xadd_ne _ _ _ (by simp)).trans ha) hb rfl rfl (Nat.le_of_ble_eq_true rfl) ?_
  refine x_aload_n dV_init_13 rfl ?_
  refine x_sipush (v := (nI 500)) dV_init_14 (by decide) ?_
  refine x_newi 500 dV_init_17 kw_52 rfl (by decide) ?_
  refine x_putF fV_clocks rfl dV_init_19 ((xadd_ne _ _ _ (by simp [xset, xadd]; omega)).trans (xset_eq _ _ _)) hb rfl rfl (Nat.le_of_ble_eq_true rfl) ?_
  refine x_aload_n dV_init_22 rfl ?_
  refine x_sipush (v := (nI 500)) dV_init_23 (by decide) ?_
  refine x_newl 500 dV_init_26 kw_53 rfl (by decide) ?_
  refine x_putF fV_values rfl dV_init_28 ((xadd_ne _ _ _ (by simp [xset, xadd]; omega)).trans (xset_eq _ _ _)) hb rfl rfl (Nat.le_of_ble_eq_true rfl) ?_
  refine x_heq (h' := xset (vnew (hm, a + 1, u)) a (vV a 0)) ?_ ?_
  · simp only [xset, xadd, vnew]
    congr 1
    funext q
    by_cases h1 : q = a
    · simp [h1]; rfl
    · by_cases h2 : q = a + 1
      · simp [h2]; rfl
      · by_cases h3 : q = a + 2
        · simp [h3]; rfl
        · simp [h1, h2, h3]
  refine x_iconst (v := (nI 0)) dV_init_31 (by decide) ?_
  refine x_istore_n dV_init_32 (Nat.le_of_ble_eq_true rfl) ?_
  have := v_init_loop (E := E) (d := d) (h := xset (vnew (hm, a + 1, u)) a (vV a 0)) hb (xset_eq _ _ _) 16 0 (by omega)
  rw [vput_self] at this
  · exact this
  · rw [xset_ne _ _ (by omega)]; simp [vnew, xadd]
  · rw [xset_ne _ _ (by omega)]; simp [vnew, xadd]
  · rw [xset_ne _ _ (by omega)]; simp [vnew, xadd]
end
end
section
/-! rows on bits, shifts and unsigned numbers, to paste: each family out of a closed proof of our own, whole with what it rests on; each by itself clean at Lean in its own claim (generation 39, form 5). Take a family whole -/
/-! ===== Int32 by its bits: bt x i ===== -/
def bt (x : Int32) (i : Nat) : Bool := x.toBitVec.getLsbD i
theorem b_ext {x y : Int32} (h : ∀ i, i < 32 → bt x i = bt y i) : x = y := Int32.toBitVec_inj.mp (BitVec.eq_of_getLsbD_eq (fun i hi => h i hi))
theorem b_or (x y : Int32) (i : Nat) : bt (x ||| y) i = (bt x i || bt y i) := by unfold bt; rw [Int32.toBitVec_or, BitVec.getLsbD_or]
theorem b_and (x y : Int32) (i : Nat) : bt (x &&& y) i = (bt x i && bt y i) := by unfold bt; rw [Int32.toBitVec_and, BitVec.getLsbD_and]
theorem b_xor (x y : Int32) (i : Nat) : bt (x ^^^ y) i = (bt x i ^^ bt y i) := by unfold bt; rw [Int32.toBitVec_xor, BitVec.getLsbD_xor]
theorem b_big {x : Int32} {i : Nat} (h : 32 ≤ i) : bt x i = false := BitVec.getLsbD_of_ge _ _ h
theorem b_255 (i : Nat) : bt 255 i = decide (i < 8) := by
  rcases Nat.lt_or_ge i 32 with h | h
  · exact (by decide +kernel : ∀ i, i < 32 → bt 255 i = decide (i < 8)) i h
  · rw [b_big h, decide_eq_false (by omega)]
theorem b_65535 (i : Nat) : bt 65535 i = decide (i < 16) := by
  rcases Nat.lt_or_ge i 32 with h | h
  · exact (by decide +kernel : ∀ i, i < 32 → bt 65535 i = decide (i < 16)) i h
  · rw [b_big h, decide_eq_false (by omega)]
theorem b_m1 : ∀ i, i < 32 → bt (-1) i = true := by decide +kernel
theorem b_0 (i : Nat) : bt 0 i = false := BitVec.getLsbD_zero
theorem s_l : ∀ n, n < 32 → ((nI n &&& 31).toBitVec.smod 32).toNat = n := by decide +kernel
theorem s_u : ∀ n, n < 32 → (((nI n).toUInt32 &&& Int32.toUInt32 31).toBitVec % 32).toNat = n := by decide +kernel
theorem b_shl (n : Nat) (hn : n < 32) (x : Int32) {i : Nat} (hi : i < 32) : bt (x <<< (nI n &&& 31)) i = (decide (n ≤ i) && bt x (i - n)) := by
  unfold bt
  rw [Int32.toBitVec_shiftLeft]
  show (x.toBitVec <<< ((nI n &&& 31).toBitVec.smod 32).toNat).getLsbD i = _
  rw [s_l n hn, BitVec.getLsbD_shiftLeft]
  rcases Nat.lt_or_ge i n with h | h
  · simp [h, Nat.not_le.mpr h]
  · simp [hi, h, Nat.not_lt.mpr h]
theorem b_ushr (n : Nat) (hn : n < 32) (x : Int32) (i : Nat) : bt ((x.toUInt32 >>> ((nI n).toUInt32 &&& Int32.toUInt32 31)).toInt32) i = bt x (n + i) := by
  show (x.toUInt32 >>> ((nI n).toUInt32 &&& Int32.toUInt32 31)).toBitVec.getLsbD i = x.toUInt32.toBitVec.getLsbD (n + i)
  rw [UInt32.toBitVec_shiftRight]
  show (x.toUInt32.toBitVec >>> (((nI n).toUInt32 &&& Int32.toUInt32 31).toBitVec % 32).toNat).getLsbD i = _
  rw [s_u n hn, BitVec.getLsbD_ushiftRight]
theorem b_sshr (n : Nat) (hn : n < 32) (x : Int32) {i : Nat} (hi : i < 32) : bt (x >>> (nI n &&& 31)) i = if n + i < 32 then bt x (n + i) else bt x 31 := by
  unfold bt
  rw [Int32.toBitVec_shiftRight]
  show (x.toBitVec.sshiftRight ((nI n &&& 31).toBitVec.smod 32).toNat).getLsbD i = _
  rw [s_l n hn, BitVec.getLsbD_sshiftRight, BitVec.msb_eq_getLsbD_last]
  simp [hi]
theorem b_shl8 (x : Int32) {i : Nat} (hi : i < 32) : bt (x <<< ((8 : Int32) &&& 31)) i = (decide (8 ≤ i) && bt x (i - 8)) := b_shl 8 (by omega) x hi
theorem b_shl16 (x : Int32) {i : Nat} (hi : i < 32) : bt (x <<< ((16 : Int32) &&& 31)) i = (decide (16 ≤ i) && bt x (i - 16)) := b_shl 16 (by omega) x hi
theorem b_shl24 (x : Int32) {i : Nat} (hi : i < 32) : bt (x <<< ((24 : Int32) &&& 31)) i = (decide (24 ≤ i) && bt x (i - 24)) := b_shl 24 (by omega) x hi
theorem b_sshr8 (x : Int32) {i : Nat} (hi : i < 32) : bt (x >>> ((8 : Int32) &&& 31)) i = if 8 + i < 32 then bt x (8 + i) else bt x 31 := b_sshr 8 (by omega) x hi
/-! ===== nI under and, xor, >>>, one bit, 65535 ===== -/
theorem nx_and (a b : Nat) : nI a &&& nI b = nI (a &&& b) := by
  apply Int32.toBitVec_inj.1
  show BitVec.ofNat 32 a &&& BitVec.ofNat 32 b = BitVec.ofNat 32 (a &&& b)
  apply BitVec.eq_of_getLsbD_eq
  intro i hi
  simp [hi]
theorem nx_xor (a b : Nat) : nI a ^^^ nI b = nI (a ^^^ b) := by
  apply Int32.toBitVec_inj.1
  show BitVec.ofNat 32 a ^^^ BitVec.ofNat 32 b = BitVec.ofNat 32 (a ^^^ b)
  apply BitVec.eq_of_getLsbD_eq
  intro i hi
  simp [hi]
theorem nx_cnt : ∀ j : Fin 32, (UInt32.ofNat j.val &&& Int32.toUInt32 31).toNat % 32 = j.val := by decide +kernel
theorem nx_ush {k j : Nat} (hk : k < 65536) (hj : j < 32) : ((nI k).toUInt32 >>> ((nI j).toUInt32 &&& Int32.toUInt32 31)).toInt32 = nI (k >>> j) := by
  have hs : k >>> j ≤ k := by
    rw [Nat.shiftRight_eq_div_pow]
    exact Nat.div_le_self _ _
  have e2 : UInt32.ofNat k >>> (UInt32.ofNat j &&& Int32.toUInt32 31) = UInt32.ofNat (k >>> j) := by
    apply UInt32.toNat_inj.1
    have h1 : (UInt32.ofNat k).toNat = k := Nat.mod_eq_of_lt (by omega)
    have h2 : (UInt32.ofNat (k >>> j)).toNat = k >>> j := Nat.mod_eq_of_lt (by omega)
    rw [UInt32.toNat_shiftRight, nx_cnt ⟨j, hj⟩, h1, h2]
  show (UInt32.ofNat k >>> (UInt32.ofNat j &&& Int32.toUInt32 31)).toInt32 = _
  rw [e2]
  rfl
theorem nx_bit {k j : Nat} (hk : k < 65536) (hj : j < 16) : (((nI k).toUInt32 >>> ((nI j).toUInt32 &&& Int32.toUInt32 31)).toInt32 &&& 1) = 0 ↔ k.testBit j = false := by
  rw [nx_ush hk (by omega)]
  show nI (k >>> j) &&& nI 1 = 0 ↔ _
  rw [nx_and, Nat.and_one_is_mod, ← nI_0, nI_eq (by omega) (by omega), Nat.testBit_eq_decide_div_mod_eq, Nat.shiftRight_eq_div_pow, decide_eq_false_iff_not]
  generalize k / 2 ^ j = z
  omega
theorem nx_mod (k : Nat) : nI k &&& 65535 = nI (k % 65536) := by
  show nI k &&& nI 65535 = _
  rw [nx_and, show (65535 : Nat) = 2 ^ 16 - 1 from rfl, Nat.and_two_pow_sub_one_eq_mod]
theorem nx_m16 {k : Nat} (h : k < 65536) : nI k &&& 65535 = nI k := by rw [nx_mod, Nat.mod_eq_of_lt h]
theorem nx_mask (x : Int32) : ∃ k, k < 65536 ∧ x &&& 65535 = nI k := by
  have e : x = nI x.toBitVec.toNat := by
    apply Int32.toBitVec_inj.1
    show x.toBitVec = BitVec.ofNat 32 x.toBitVec.toNat
    simp
  refine ⟨x.toBitVec.toNat % 65536, Nat.mod_lt _ (by omega), ?_⟩
  rw [← nx_mod, ← e]
end
section
/-! sets of sixteen cells as numbers; Integer.bitCount counts them -/
theorem xbit_pow : ∀ c, c < 16 → xbit c = nI (2 ^ c) := by decide +kernel
theorem nx_or (a b : Nat) : nI a ||| nI b = nI (a ||| b) := by
  apply Int32.toBitVec_inj.1
  show BitVec.ofNat 32 a ||| BitVec.ofNat 32 b = BitVec.ofNat 32 (a ||| b)
  apply BitVec.eq_of_getLsbD_eq
  intro i hi
  simp [hi]
def m16 (x : Int32) : Prop := ∃ k, k < 65536 ∧ x = nI k
theorem m16_0 : m16 0 := ⟨0, by decide, rfl⟩
theorem m16_or {x y : Int32} (hx : m16 x) (hy : m16 y) : m16 (x ||| y) := by
  obtain ⟨a, ha, rfl⟩ := hx
  obtain ⟨b, hb, rfl⟩ := hy
  exact ⟨a ||| b, Nat.or_lt_two_pow (n := 16) ha hb, nx_or a b⟩
theorem m16_and {x y : Int32} (hx : m16 x) (hy : m16 y) : m16 (x &&& y) := by
  obtain ⟨a, ha, rfl⟩ := hx
  obtain ⟨b, hb, rfl⟩ := hy
  exact ⟨a &&& b, Nat.lt_of_le_of_lt Nat.and_le_left ha, nx_and a b⟩
theorem m16_bit {c : Nat} (hc : c < 16) : m16 (xbit c) := ⟨2 ^ c, Nat.pow_lt_pow_right (by decide) hc, xbit_pow c hc⟩
/-- how many of the first n cells are in x -/
def pcn (x : Int32) : Nat → Nat
  | 0 => 0
  | c + 1 => if x &&& xbit c = 0 then pcn x c else pcn x c + 1
def ptb (k : Nat) : Nat → Nat
  | 0 => 0
  | c + 1 => ptb k c + (k.testBit c).toNat
theorem ptb_half (k : Nat) : ∀ m, ptb k (m + 1) = ptb (k / 2) m + k % 2
  | 0 => by
    simp only [ptb, Nat.testBit_zero]
    have : k % 2 = 0 ∨ k % 2 = 1 := by omega
    rcases this with h | h <;> simp [h]
  | m + 1 => by
    show ptb k (m + 1) + (k.testBit (m + 1)).toNat = ptb (k / 2) m + ((k / 2).testBit m).toNat + k % 2
    rw [ptb_half k m, Nat.testBit_succ]
    omega
def n1 (k : Nat) : Nat := k - ((k >>> 1) &&& 1431655765)
def n2 (a : Nat) : Nat := (a &&& 858993459) + ((a >>> 2) &&& 858993459)
def n3 (b : Nat) : Nat := (b + (b >>> 4)) &&& 252645135
def n4 (c : Nat) : Nat := c + (c >>> 8)
def n5 (e : Nat) : Nat := e + (e >>> 16)
def nF (k : Nat) : Nat := n5 (n4 (n3 (n2 (n1 k)))) &&& 63
def nok (k : Nat) : Bool := Nat.ble ((k >>> 1) &&& 1431655765) k && Nat.blt (n1 k) 65536 && Nat.blt (n2 (n1 k)) 65536 && Nat.blt (n3 (n2 (n1 k))) 65536 && Nat.blt (n4 (n3 (n2 (n1 k)))) 65536 && Nat.beq (nF k) (nF (k / 2) + k % 2)
set_option maxRecDepth 100000 in
theorem nok_all : ∀ a, a < 256 → ∀ b, b < 256 → nok (256 * a + b) = true := by decide +kernel
theorem nok_at {k : Nat} (h : k < 65536) : nok k = true := by
  have := nok_all (k / 256) (by omega) (k % 256) (by omega)
  rwa [show 256 * (k / 256) + k % 256 = k by omega] at this
end
section
theorem nF_ptb : ∀ m k, m ≤ 16 → k < 2 ^ m → nF k = ptb k m
  | 0, k, _, hk => by
    obtain rfl : k = 0 := by omega
    decide
  | m + 1, k, hm, hk => by
    have hk16 : k < 65536 := Nat.lt_of_lt_of_le hk (Nat.pow_le_pow_right (by decide) hm)
    have h := nok_at hk16
    simp only [nok, Bool.and_eq_true] at h
    have e : nF k = nF (k / 2) + k % 2 := Nat.eq_of_beq_eq_true h.2
    rw [e, ptb_half, nF_ptb m (k / 2) (by omega) (by rw [Nat.pow_succ] at hk; omega)]
theorem bcF_nI {k : Nat} (hk : k < 65536) : bcF (nI k) = nI (nF k) := by
  have h := nok_at hk
  simp only [nok, Bool.and_eq_true, Nat.ble_eq, Nat.blt_eq] at h
  obtain ⟨⟨⟨⟨⟨h1, h2⟩, h3⟩, h4⟩, h5⟩, -⟩ := h
  have e1 : bc1 (nI k) = nI (n1 k) := by
    unfold bc1 bcU n1
    rw [nx_ush hk (by decide), show (1431655765 : Int32) = nI 1431655765 from rfl, nx_and, pk_sub h1]
  have e2 : bc2 (nI (n1 k)) = nI (n2 (n1 k)) := by
    unfold bc2 bcU n2
    rw [nx_ush h2 (by decide), show (858993459 : Int32) = nI 858993459 from rfl, nx_and, nx_and, nI_add]
  have e3 : bc3 (nI (n2 (n1 k))) = nI (n3 (n2 (n1 k))) := by
    unfold bc3 bcU n3
    rw [nx_ush h3 (by decide), nI_add, show (252645135 : Int32) = nI 252645135 from rfl, nx_and]
  have e4 : bc4 (nI (n3 (n2 (n1 k)))) = nI (n4 (n3 (n2 (n1 k)))) := by
    unfold bc4 bcU n4
    rw [nx_ush h4 (by decide), nI_add]
  have e5 : bc5 (nI (n4 (n3 (n2 (n1 k))))) = nI (n5 (n4 (n3 (n2 (n1 k))))) := by
    unfold bc5 bcU n5
    rw [nx_ush h5 (by decide), nI_add]
  unfold bcF nF
  rw [e1, e2, e3, e4, e5, show (63 : Int32) = nI 63 from rfl, nx_and]
theorem and_pow0 (k c : Nat) : k &&& 2 ^ c = 0 ↔ k.testBit c = false := by
  constructor
  · intro h
    have := congrArg (fun z => Nat.testBit z c) h
    simpa [Nat.testBit_and, Nat.testBit_two_pow] using this
  · intro h
    apply Nat.eq_of_testBit_eq
    intro i
    rw [Nat.testBit_and, Nat.testBit_two_pow, Nat.zero_testBit]
    by_cases e : c = i
    · subst e; simp [h]
    · simp [e]
theorem xbit_and {k c : Nat} (hk : k < 65536) (hc : c < 16) : nI k &&& xbit c = 0 ↔ k.testBit c = false := by
  rw [xbit_pow c hc, nx_and, ← and_pow0, ← nI_0]
  exact nI_eq (Nat.lt_of_le_of_lt Nat.and_le_left (by omega)) (by decide)
theorem pcn_ptb {k : Nat} (hk : k < 65536) : ∀ m, m ≤ 16 → pcn (nI k) m = ptb k m
  | 0, _ => rfl
  | m + 1, hm => by
    unfold pcn ptb
    rw [pcn_ptb hk m (by omega)]
    cases hb : k.testBit m
    · rw [if_pos ((xbit_and hk (by omega)).mpr hb)]; rfl
    · rw [if_neg (fun q => by have := (xbit_and hk (by omega)).mp q; rw [hb] at this; cases this)]; rfl
theorem bc_pcn {x : Int32} (hx : m16 x) : bcF x = nI (pcn x 16) := by
  obtain ⟨k, hk, rfl⟩ := hx
  rw [bcF_nI hk, nF_ptb 16 k (Nat.le_refl _) hk, pcn_ptb hk 16 (Nat.le_refl _)]
theorem pcn_le (x : Int32) : ∀ n, pcn x n ≤ n
  | 0 => Nat.le_refl _
  | n + 1 => by
    have := pcn_le x n
    unfold pcn
    split <;> omega
end
section
/-! VersionDesk: its cells (from the address b on), its state, its private methods -/
abbrev vQ : Type := Bool × Nat × Nat × Nat × Int32
/-- clock; transactions (open, start, kind, layers, seen); what each layer wrote; its values; how many versions; their rows -/
abbrev vS : Type := Nat × (Nat → vQ) × (Nat → Nat → Int32) × (Nat → Nat → Nat → Int64) × Nat × vW
abbrev sK (σ : vS) : Nat := σ.1
abbrev sT (σ : vS) : Nat → vQ := σ.2.1
abbrev sW (σ : vS) : Nat → Nat → Int32 := σ.2.2.1
abbrev sR (σ : vS) : Nat → Nat → Nat → Int64 := σ.2.2.2.1
abbrev sN (σ : vS) : Nat := σ.2.2.2.2.1
abbrev sA (σ : vS) : vW := σ.2.2.2.2.2
abbrev tC (b t : Nat) (q : vQ) : xC := vT (b + 2 + 11 * t) q.1 q.2.1 q.2.2.1 q.2.2.2.1 q.2.2.2.2
abbrev dC (b k : Nat) : xC := .inr (0, [.ref (b + 1), .ref (b + 178), .int (nI k)])
abbrev dT (b : Nat) : xC := .inl (.object "VersionDesk$Transaction", 16, .inr (.inr (fun i => if i < 16 then some (b + 2 + 11 * i) else none)))
/-- the heap holds the object at b in the state σ -/
def VP (b : Nat) (σ : vS) (h : xH) : Prop :=
  h.1 b = some (dC b (sK σ)) ∧ h.1 (b + 1) = some (dT b) ∧ (∀ t, t < 16 → h.1 (b + 2 + 11 * t) = some (tC b t (sT σ t))) ∧ (∀ t, t < 16 → h.1 (b + 2 + 11 * t + 1) = some (vI 8 (sW σ t))) ∧ (∀ t, t < 16 → h.1 (b + 2 + 11 * t + 2) = some (vR (b + 2 + 11 * t))) ∧
  (∀ t l, t < 16 → l < 8 → h.1 (b + 2 + 11 * t + 2 + 1 + l) = some (vL 16 (sR σ t l))) ∧ h.1 (b + 178) = some (vV (b + 178) (sN σ)) ∧ h.1 (b + 178 + 1) = some (vN 500 (sA σ).1) ∧ h.1 (b + 178 + 2) = some (vN 500 (sA σ).2.1) ∧ h.1 (b + 178 + 3) = some (vL 500 (sA σ).2.2)
/-- what the numbers of a state keep to -/
def VI (σ : vS) : Prop := sK σ ≤ 100000 ∧ (∀ t, t < 16 → (sT σ t).2.1 ≤ sK σ ∧ (sT σ t).2.2.1 < 2 ∧ 1 ≤ (sT σ t).2.2.2.1 ∧ (sT σ t).2.2.2.1 ≤ 8) ∧ sN σ ≤ 500 ∧ (∀ i, i < sN σ → (sA σ).1 i < 16 ∧ (sA σ).2.1 i ≤ sK σ) ∧ (∀ t, t < 16 → m16 (sT σ t).2.2.2.2) ∧ ∀ t l, t < 16 → l < 8 → m16 (sW σ t l)
theorem VI.ok {σ : vS} (h : VI σ) : ∀ i, i < sN σ → (sA σ).1 i < 2 ^ 31 ∧ (sA σ).2.1 i < 2 ^ 31 := fun i hi => by
  have := h.2.2.2.1 i hi
  have := h.1
  omega
def vset (h : xH) (a n : Nat) (A : vW) : xH := xset (vput h a A) a (vV a n)
theorem VP.setT {b : Nat} {σ : vS} {h : xH} (H : VP b σ h) {t : Nat} (ht : t < 16) (q : vQ) : VP b (sK σ, va_up (sT σ) t q, sW σ, sR σ, sN σ, sA σ) (xset h (b + 2 + 11 * t) (tC b t q)) := by
  obtain ⟨h1, h2, h3, h4, h5, h6, h7, h8, h9, h10⟩ := H
  refine ⟨?_, ?_, fun u hu => ?_, fun u hu => ?_, fun u hu => ?_, fun u l hu hl => ?_, ?_, ?_, ?_, ?_⟩
  · rw [xset_ne _ _ (by omega)]; exact h1
  · rw [xset_ne _ _ (by omega)]; exact h2
  · by_cases e : u = t
    · subst e; rw [xset_eq]; show _ = some (tC b u (va_up (sT σ) u q u)); rw [up_eq]
    · rw [xset_ne _ _ (by omega), h3 u hu]; show _ = some (tC b u (va_up (sT σ) t q u)); rw [up_ne _ _ e]
  · rw [xset_ne _ _ (by omega)]; exact h4 u hu
  · rw [xset_ne _ _ (by omega)]; exact h5 u hu
  · rw [xset_ne _ _ (by omega)]; exact h6 u l hu hl
  · rw [xset_ne _ _ (by omega)]; exact h7
  · rw [xset_ne _ _ (by omega)]; exact h8
  · rw [xset_ne _ _ (by omega)]; exact h9
  · rw [xset_ne _ _ (by omega)]; exact h10
theorem VP.setW {b : Nat} {σ : vS} {h : xH} (H : VP b σ h) {t : Nat} (ht : t < 16) (f : Nat → Int32) : VP b (sK σ, sT σ, va_up (sW σ) t f, sR σ, sN σ, sA σ) (xset h (b + 2 + 11 * t + 1) (vI 8 f)) := by
  obtain ⟨h1, h2, h3, h4, h5, h6, h7, h8, h9, h10⟩ := H
  refine ⟨?_, ?_, fun u hu => ?_, fun u hu => ?_, fun u hu => ?_, fun u l hu hl => ?_, ?_, ?_, ?_, ?_⟩
  · rw [xset_ne _ _ (by omega)]; exact h1
  · rw [xset_ne _ _ (by omega)]; exact h2
  · rw [xset_ne _ _ (by omega)]; exact h3 u hu
  · by_cases e : u = t
    · subst e; rw [xset_eq]; show _ = some (vI 8 (va_up (sW σ) u f u)); rw [up_eq]
    · rw [xset_ne _ _ (by omega), h4 u hu]; show _ = some (vI 8 (va_up (sW σ) t f u)); rw [up_ne _ _ e]
  · rw [xset_ne _ _ (by omega)]; exact h5 u hu
  · rw [xset_ne _ _ (by omega)]; exact h6 u l hu hl
  · rw [xset_ne _ _ (by omega)]; exact h7
  · rw [xset_ne _ _ (by omega)]; exact h8
  · rw [xset_ne _ _ (by omega)]; exact h9
  · rw [xset_ne _ _ (by omega)]; exact h10
theorem VP.setR {b : Nat} {σ : vS} {h : xH} (H : VP b σ h) {t k : Nat} (ht : t < 16) (hk : k < 8) (g : Nat → Int64) : VP b (sK σ, sT σ, sW σ, va_up (sR σ) t (va_up (sR σ t) k g), sN σ, sA σ) (xset h (b + 2 + 11 * t + 2 + 1 + k) (vL 16 g)) := by
  obtain ⟨h1, h2, h3, h4, h5, h6, h7, h8, h9, h10⟩ := H
  refine ⟨?_, ?_, fun u hu => ?_, fun u hu => ?_, fun u hu => ?_, fun u l hu hl => ?_, ?_, ?_, ?_, ?_⟩
  · rw [xset_ne _ _ (by omega)]; exact h1
  · rw [xset_ne _ _ (by omega)]; exact h2
  · rw [xset_ne _ _ (by omega)]; exact h3 u hu
  · rw [xset_ne _ _ (by omega)]; exact h4 u hu
  · rw [xset_ne _ _ (by omega)]; exact h5 u hu
  · by_cases e : u = t
    · subst e
      by_cases e2 : l = k
      · subst e2; rw [xset_eq]; show _ = some (vL 16 (va_up (sR σ) u (va_up (sR σ u) l g) u l)); rw [up_eq, up_eq]
      · rw [xset_ne _ _ (by omega), h6 u l hu hl]; show _ = some (vL 16 (va_up (sR σ) u (va_up (sR σ u) k g) u l)); rw [up_eq, up_ne _ _ e2]
    · rw [xset_ne _ _ (by omega), h6 u l hu hl]; show _ = some (vL 16 (va_up (sR σ) t (va_up (sR σ t) k g) u l)); rw [up_ne _ _ e]
  · rw [xset_ne _ _ (by omega)]; exact h7
  · rw [xset_ne _ _ (by omega)]; exact h8
  · rw [xset_ne _ _ (by omega)]; exact h9
  · rw [xset_ne _ _ (by omega)]; exact h10
theorem VP.setK {b : Nat} {σ : vS} {h : xH} (H : VP b σ h) (k : Nat) : VP b (k, sT σ, sW σ, sR σ, sN σ, sA σ) (xset h b (dC b k)) := by
  obtain ⟨h1, h2, h3, h4, h5, h6, h7, h8, h9, h10⟩ := H
  refine ⟨?_, ?_, fun u hu => ?_, fun u hu => ?_, fun u hu => ?_, fun u l hu hl => ?_, ?_, ?_, ?_, ?_⟩
  · rw [xset_eq]
  · rw [xset_ne _ _ (by omega)]; exact h2
  · rw [xset_ne _ _ (by omega)]; exact h3 u hu
  · rw [xset_ne _ _ (by omega)]; exact h4 u hu
  · rw [xset_ne _ _ (by omega)]; exact h5 u hu
  · rw [xset_ne _ _ (by omega)]; exact h6 u l hu hl
  · rw [xset_ne _ _ (by omega)]; exact h7
  · rw [xset_ne _ _ (by omega)]; exact h8
  · rw [xset_ne _ _ (by omega)]; exact h9
  · rw [xset_ne _ _ (by omega)]; exact h10
theorem vset_ne (h : xH) {a n q : Nat} (A : vW) (h0 : q ≠ a) (h1 : q ≠ a + 1) (h2 : q ≠ a + 2) (h3 : q ≠ a + 3) : (vset h a n A).1 q = h.1 q := by
  unfold vset; rw [xset_ne _ _ h0, vput_ne _ _ h1 h2 h3]
theorem VP.setV {b : Nat} {σ : vS} {h : xH} (H : VP b σ h) (n : Nat) (A : vW) : VP b (sK σ, sT σ, sW σ, sR σ, n, A) (vset h (b + 178) n A) := by
  obtain ⟨h1, h2, h3, h4, h5, h6, h7, h8, h9, h10⟩ := H
  refine ⟨?_, ?_, fun u hu => ?_, fun u hu => ?_, fun u hu => ?_, fun u l hu hl => ?_, ?_, ?_, ?_, ?_⟩
  · rw [vset_ne _ _ (by omega) (by omega) (by omega) (by omega)]; exact h1
  · rw [vset_ne _ _ (by omega) (by omega) (by omega) (by omega)]; exact h2
  · rw [vset_ne _ _ (by omega) (by omega) (by omega) (by omega)]; exact h3 u hu
  · rw [vset_ne _ _ (by omega) (by omega) (by omega) (by omega)]; exact h4 u hu
  · rw [vset_ne _ _ (by omega) (by omega) (by omega) (by omega)]; exact h5 u hu
  · rw [vset_ne _ _ (by omega) (by omega) (by omega) (by omega)]; exact h6 u l hu hl
  · unfold vset; rw [xset_eq]
  · unfold vset; rw [xset_ne _ _ (by omega)]; exact vput_1 h _ A
  · unfold vset; rw [xset_ne _ _ (by omega)]; exact vput_2 h _ A
  · unfold vset; rw [xset_ne _ _ (by omega)]; exact vput_3 h _ A
theorem VP.thr {b : Nat} {σ : vS} {h : xH} (H : VP b σ h) : VP b σ (xthr h) := H
def lnoF (T : Nat → vQ) : Nat → Nat → Nat
  | 0, t => t
  | m + 1, t => if (T t).1 = true then lnoF T m (t + 1) else t
def hmo (T : Nat → vQ) : Nat → Nat
  | 0 => 0
  | t + 1 => if (T t).1 = true then hmo T t + 1 else hmo T t
def flo (k : Nat) (T : Nat → vQ) : Nat → Nat
  | 0 => k
  | t + 1 => if (T t).1 = true then min (flo k T t) (T t).2.1 else flo k T t
theorem flo_le (k : Nat) (T : Nat → vQ) : ∀ t, flo k T t ≤ k
  | 0 => Nat.le_refl _
  | t + 1 => by
    unfold flo
    split
    · exact Nat.le_trans (Nat.min_le_left _ _) (flo_le k T t)
    · exact flo_le k T t
/-- the READING of the cell c in t -/
def rdV (σ : vS) (t c : Nat) : Int64 := if hiW (sW σ t) c (sT σ t).2.2.2.1 = 0 then (if vix (sA σ) c (sT σ t).2.1 (sN σ) = 0 then 0 else (sA σ).2.2 (vix (sA σ) c (sT σ t).2.1 (sN σ) - 1)) else sR σ t (hiW (sW σ t) c (sT σ t).2.2.2.1 - 1) c
def wrV (σ : vS) (t : Nat) : Int32 := orW (sW σ t) (sT σ t).2.2.2.1
def heV (σ : vS) (t : Nat) : Int32 := if (sT σ t).2.2.1 = 1 then wrV σ t ||| (sT σ t).2.2.2.2 else wrV σ t
def spV (σ : vS) (t : Nat) : Int32 := heV σ t &&& vwa (sA σ) (sT σ t).2.1 (sN σ) 0
theorem hiW_le (f : Nat → Int32) (c : Nat) : ∀ n, hiW f c n ≤ n
  | 0 => Nat.le_refl _
  | n + 1 => by
    unfold hiW
    split
    · exact Nat.le_succ_of_le (hiW_le f c n)
    · exact Nat.le_refl _
section
variable {E : xE} {d b : Nat} {σ : vS} {h : xH}
theorem d_openOne {j : Nat} (H : VP b σ h) (hj : j < 16) (ho : (sT σ j).1 = true) : xG E (d + 1) mD_openOne 0 [(0, .ref b), (1, .int (nI j))] [] false h (false, .inl (some (.ref (b + 2 + 11 * j))), h) := by
  have ht := H.2.2.1 j hj
  refine x_iload_n dD_openOne_0 rfl ?_
  refine x_if_lt 22 dD_openOne_1 (by decide) (fun hc => absurd hc (nI_pos (by omega))) (fun _ => ?_)
  refine x_iload_n dD_openOne_4 rfl ?_
  refine x_bipush (v := (nI 16)) dD_openOne_5 (by decide) ?_
  refine x_icmp_ge 22 dD_openOne_7 (by decide) (fun hc => absurd hc (nI_ge hj (by decide))) (fun _ => ?_)
  refine x_aload_n dD_openOne_10 rfl ?_
  refine x_get fD_transactions dD_openOne_11 H.1 rfl ?_
  refine x_iload_n dD_openOne_14 rfl ?_
  refine x_aald j (b + 2 + 11 * j) dD_openOne_15 H.2.1 rfl (if_pos hj) rfl hj (by decide) ?_
  refine x_callV0 cD_T_isOpen dD_openOne_16 (by assumption) (Nat.le_of_ble_eq_true rfl) (Nat.le_of_ble_eq_true rfl) (t_isOpen ht) ?_
  refine x_if_ne 30 dD_openOne_19 (by decide) (fun _ => ?_) (fun hc => absurd hc (by rw [ho]; decide))
  refine x_aload_n dD_openOne_30 rfl ?_
  refine x_get fD_transactions dD_openOne_31 H.1 rfl ?_
  refine x_iload_n dD_openOne_34 rfl ?_
  refine x_aald j (b + 2 + 11 * j) dD_openOne_35 H.2.1 rfl (if_pos hj) rfl hj (by decide) ?_
  exact x_aret rfl dD_openOne_36
theorem d_openOne_bad {t : Int32} (H : VP b σ h) (hbad : ∀ j, j < 16 → t = nI j → (sT σ j).1 = false) : xG E (d + 1) mD_openOne 0 [(0, .ref b), (1, .int t)] [] false h (true, .inr ("java/util/NoSuchElementException", h.2.1), xthr h) := by
  refine x_iload_n dD_openOne_0 rfl ?_
  refine x_if_lt 22 dD_openOne_1 (by decide) (fun _ => x_thrNSE rfl rfl dD_openOne_22 dD_openOne_25 dD_openOne_26 dD_openOne_29 (Nat.le_of_ble_eq_true rfl)) (fun h0 => ?_)
  refine x_iload_n dD_openOne_4 rfl ?_
  refine x_bipush (v := (nI 16)) dD_openOne_5 (by decide) ?_
  refine x_icmp_ge 22 dD_openOne_7 (by decide) (fun _ => x_thrNSE rfl rfl dD_openOne_22 dD_openOne_25 dD_openOne_26 dD_openOne_29 (Nat.le_of_ble_eq_true rfl)) (fun h1 => ?_)
  rcases pk_ix t (n := 16) (by decide) with h2 | h2 | ⟨j, hj, rfl⟩
  · exact absurd h2 h0
  · exact absurd h2 h1
  have ht := H.2.2.1 j hj
  refine x_aload_n dD_openOne_10 rfl ?_
  refine x_get fD_transactions dD_openOne_11 H.1 rfl ?_
  refine x_iload_n dD_openOne_14 rfl ?_
  refine x_aald j (b + 2 + 11 * j) dD_openOne_15 H.2.1 rfl (if_pos hj) rfl hj (by decide) ?_
  refine x_callV0 cD_T_isOpen dD_openOne_16 (by assumption) (Nat.le_of_ble_eq_true rfl) (Nat.le_of_ble_eq_true rfl) (t_isOpen ht) ?_
  refine x_if_ne 30 dD_openOne_19 (by decide) (fun hc => absurd (by rw [hbad j hj rfl]; rfl) hc) (fun _ => ?_)
  exact x_thrNSE rfl rfl dD_openOne_22 dD_openOne_25 dD_openOne_26 dD_openOne_29 (Nat.le_of_ble_eq_true rfl)
theorem d_requireCell {c : Nat} (hc : c < 16) : xG E d mD_requireCell 0 [(0, .int (nI c))] [] false h (false, .inl none, h) := by
  refine x_iload_n dD_requireCell_0 rfl ?_
  refine x_if_lt 10 dD_requireCell_1 (by decide) (fun hq => absurd hq (nI_pos (by omega))) (fun _ => ?_)
  refine x_iload_n dD_requireCell_4 rfl ?_
  refine x_bipush (v := (nI 16)) dD_requireCell_5 (by decide) ?_
  refine x_icmp_lt 18 dD_requireCell_7 (by decide) (fun _ => ?_) (fun hq => absurd (nI_lt hc (by decide)) hq)
  exact x_vret rfl dD_requireCell_18
theorem d_requireCell_bad {c : Int32} (hc : c < 0 ∨ nI 16 ≤ c) : xG E (d + 1) mD_requireCell 0 [(0, .int c)] [] false h (true, .inr ("java/util/NoSuchElementException", h.2.1), xthr h) := by
  refine x_iload_n dD_requireCell_0 rfl ?_
  refine x_if_lt 10 dD_requireCell_1 (by decide) (fun _ => x_thrNSE rfl rfl dD_requireCell_10 dD_requireCell_13 dD_requireCell_14 dD_requireCell_17 (Nat.le_of_ble_eq_true rfl)) (fun h0 => ?_)
  refine x_iload_n dD_requireCell_4 rfl ?_
  refine x_bipush (v := (nI 16)) dD_requireCell_5 (by decide) ?_
  refine x_icmp_lt 18 dD_requireCell_7 (by decide) (fun hq => absurd (hc.resolve_left h0) (Int32.not_le.mpr hq)) (fun _ => ?_)
  exact x_thrNSE rfl rfl dD_requireCell_10 dD_requireCell_13 dD_requireCell_14 dD_requireCell_17 (Nat.le_of_ble_eq_true rfl)
theorem d_lno_loop (H : VP b σ h) : ∀ m t : Nat, t + m = 16 → xG E (d + 1) mD_leastNotOpen 2 [(1, .int (nI t)), (0, .ref b)] [] false h (false, .inl (some (.int (nI (lnoF (sT σ) m t)))), h) := by
  intro m
  induction m with
  | zero =>
    intro t ht
    obtain rfl : t = 16 := by omega
    refine x_iload_n dD_leastNotOpen_2 rfl ?_
    refine x_bipush (v := (nI 16)) dD_leastNotOpen_3 (by decide) ?_
    refine x_icmp_ge 26 dD_leastNotOpen_5 (by decide) (fun _ => ?_) (fun hc => absurd (nI_le (by omega) (by omega)) hc)
    refine x_iload_n dD_leastNotOpen_26 rfl ?_
    exact x_iret rfl dD_leastNotOpen_27
  | succ m ih =>
    intro t ht
    have hT := H.2.2.1 t (by omega)
    refine x_iload_n dD_leastNotOpen_2 rfl ?_
    refine x_bipush (v := (nI 16)) dD_leastNotOpen_3 (by decide) ?_
    refine x_icmp_ge 26 dD_leastNotOpen_5 (by decide) (fun hc => absurd hc (nI_ge (by omega) (by omega))) (fun _ => ?_)
    refine x_aload_n dD_leastNotOpen_8 rfl ?_
    refine x_get fD_transactions dD_leastNotOpen_9 H.1 rfl ?_
    refine x_iload_n dD_leastNotOpen_12 rfl ?_
    refine x_aald t (b + 2 + 11 * t) dD_leastNotOpen_13 H.2.1 rfl (if_pos (show t < 16 by omega)) rfl (by omega) (by decide) ?_
    refine x_callV0 cD_T_isOpen dD_leastNotOpen_14 (by assumption) (Nat.le_of_ble_eq_true rfl) (Nat.le_of_ble_eq_true rfl) (t_isOpen hT) ?_
    cases ho : (sT σ t).1 with
    | true =>
      rw [show lnoF (sT σ) (m + 1) t = lnoF (sT σ) m (t + 1) from if_pos ho]
      refine x_if_eq 26 dD_leastNotOpen_17 (by decide) (fun hc => absurd hc (by decide)) (fun _ => ?_)
      refine x_iinc (v := nI (t + 1)) dD_leastNotOpen_20 rfl (by rw [nI_succ]; rfl) (Nat.le_of_ble_eq_true rfl) ?_
      refine x_goto 2 dD_leastNotOpen_23 (by decide) ?_
      exact ih (t + 1) (by omega)
    | false =>
      rw [show lnoF (sT σ) (m + 1) t = t from if_neg (by rw [ho]; decide)]
      refine x_if_eq 26 dD_leastNotOpen_17 (by decide) (fun _ => ?_) (fun hc => absurd rfl hc)
      refine x_iload_n dD_leastNotOpen_26 rfl ?_
      exact x_iret rfl dD_leastNotOpen_27
theorem d_lno (H : VP b σ h) : xG E (d + 1) mD_leastNotOpen 0 [(0, .ref b)] [] false h (false, .inl (some (.int (nI (lnoF (sT σ) 16 0)))), h) := by
  refine x_iconst (v := (nI 0)) dD_leastNotOpen_0 (by decide) ?_
  refine x_istore_n dD_leastNotOpen_1 (Nat.le_of_ble_eq_true rfl) ?_
  exact d_lno_loop H 16 0 rfl
theorem d_hmo_loop (H : VP b σ h) : ∀ m t : Nat, t + m = 16 → xG E (d + 1) mD_howManyOpen 4 [(2, .int (nI t)), (1, .int (nI (hmo (sT σ) t))), (0, .ref b)] [] false h (false, .inl (some (.int (nI (hmo (sT σ) 16)))), h) := by
  intro m
  induction m with
  | zero =>
    intro t ht
    obtain rfl : t = 16 := by omega
    refine x_iload_n dD_howManyOpen_4 rfl ?_
    refine x_bipush (v := (nI 16)) dD_howManyOpen_5 (by decide) ?_
    refine x_icmp_ge 31 dD_howManyOpen_7 (by decide) (fun _ => ?_) (fun hc => absurd (nI_le (by omega) (by omega)) hc)
    refine x_iload_n dD_howManyOpen_31 rfl ?_
    exact x_iret rfl dD_howManyOpen_32
  | succ m ih =>
    intro t ht
    have hT := H.2.2.1 t (by omega)
    refine x_iload_n dD_howManyOpen_4 rfl ?_
    refine x_bipush (v := (nI 16)) dD_howManyOpen_5 (by decide) ?_
    refine x_icmp_ge 31 dD_howManyOpen_7 (by decide) (fun hc => absurd hc (nI_ge (by omega) (by omega))) (fun _ => ?_)
    refine x_aload_n dD_howManyOpen_10 rfl ?_
    refine x_get fD_transactions dD_howManyOpen_11 H.1 rfl ?_
    refine x_iload_n dD_howManyOpen_14 rfl ?_
    refine x_aald t (b + 2 + 11 * t) dD_howManyOpen_15 H.2.1 rfl (if_pos (show t < 16 by omega)) rfl (by omega) (by decide) ?_
    refine x_callV0 cD_T_isOpen dD_howManyOpen_16 (by assumption) (Nat.le_of_ble_eq_true rfl) (Nat.le_of_ble_eq_true rfl) (t_isOpen hT) ?_
    cases ho : (sT σ t).1 with
    | true =>
      refine x_if_eq 25 dD_howManyOpen_19 (by decide) (fun hc => absurd hc (by decide)) (fun _ => ?_)
      refine x_iinc (v := nI (hmo (sT σ) (t + 1))) dD_howManyOpen_22 rfl (by rw [show hmo (sT σ) (t + 1) = hmo (sT σ) t + 1 from if_pos ho, nI_succ]; rfl) (Nat.le_of_ble_eq_true rfl) ?_
      refine x_iinc (v := nI (t + 1)) dD_howManyOpen_25 rfl (by rw [nI_succ]; rfl) (Nat.le_of_ble_eq_true rfl) ?_
      refine x_goto 4 dD_howManyOpen_28 (by decide) ?_
      exact ih (t + 1) (by omega)
    | false =>
      refine x_if_eq 25 dD_howManyOpen_19 (by decide) (fun _ => ?_) (fun hc => absurd rfl hc)
      refine x_iinc (v := nI (t + 1)) dD_howManyOpen_25 rfl (by rw [nI_succ]; rfl) (Nat.le_of_ble_eq_true rfl) ?_
      refine x_goto 4 dD_howManyOpen_28 (by decide) ?_
      rw [show hmo (sT σ) t = hmo (sT σ) (t + 1) from (if_neg (by rw [ho]; decide)).symm]
      exact ih (t + 1) (by omega)
theorem d_hmo (H : VP b σ h) : xG E (d + 1) mD_howManyOpen 0 [(0, .ref b)] [] false h (false, .inl (some (.int (nI (hmo (sT σ) 16)))), h) := by
  refine x_iconst (v := (nI 0)) dD_howManyOpen_0 (by decide) ?_
  refine x_istore_n dD_howManyOpen_1 (Nat.le_of_ble_eq_true rfl) ?_
  refine x_iconst (v := (nI 0)) dD_howManyOpen_2 (by decide) ?_
  refine x_istore_n dD_howManyOpen_3 (Nat.le_of_ble_eq_true rfl) ?_
  exact d_hmo_loop H 16 0 rfl
theorem d_flo_loop (H : VP b σ h) (hI : VI σ) : ∀ m t : Nat, t + m = 16 → xG E (d + 1) mD_floor 7 [(2, .int (nI t)), (1, .int (nI (flo (sK σ) (sT σ) t))), (0, .ref b)] [] false h (false, .inl (some (.int (nI (flo (sK σ) (sT σ) 16)))), h) := by
  intro m
  induction m with
  | zero =>
    intro t ht
    obtain rfl : t = 16 := by omega
    refine x_iload_n dD_floor_7 rfl ?_
    refine x_bipush (v := (nI 16)) dD_floor_8 (by decide) ?_
    refine x_icmp_ge 45 dD_floor_10 (by decide) (fun _ => ?_) (fun hc => absurd (nI_le (by omega) (by omega)) hc)
    refine x_iload_n dD_floor_45 rfl ?_
    exact x_iret rfl dD_floor_46
  | succ m ih =>
    intro t ht
    have hT := H.2.2.1 t (by omega)
    have hs := (hI.2.1 t (by omega)).1
    have hk := hI.1
    have hfl := flo_le (sK σ) (sT σ) t
    refine x_iload_n dD_floor_7 rfl ?_
    refine x_bipush (v := (nI 16)) dD_floor_8 (by decide) ?_
    refine x_icmp_ge 45 dD_floor_10 (by decide) (fun hc => absurd hc (nI_ge (by omega) (by omega))) (fun _ => ?_)
    refine x_aload_n dD_floor_13 rfl ?_
    refine x_get fD_transactions dD_floor_14 H.1 rfl ?_
    refine x_iload_n dD_floor_17 rfl ?_
    refine x_aald t (b + 2 + 11 * t) dD_floor_18 H.2.1 rfl (if_pos (show t < 16 by omega)) rfl (by omega) (by decide) ?_
    refine x_callV0 cD_T_isOpen dD_floor_19 (by assumption) (Nat.le_of_ble_eq_true rfl) (Nat.le_of_ble_eq_true rfl) (t_isOpen hT) ?_
    cases ho : (sT σ t).1 with
    | true =>
      refine x_if_eq 39 dD_floor_22 (by decide) (fun hc => absurd hc (by decide)) (fun _ => ?_)
      refine x_iload_n dD_floor_25 rfl ?_
      refine x_aload_n dD_floor_26 rfl ?_
      refine x_get fD_transactions dD_floor_27 H.1 rfl ?_
      refine x_iload_n dD_floor_30 rfl ?_
      refine x_aald t (b + 2 + 11 * t) dD_floor_31 H.2.1 rfl (if_pos (show t < 16 by omega)) rfl (by omega) (by decide) ?_
      refine x_callV0 cD_T_start dD_floor_32 (by assumption) (Nat.le_of_ble_eq_true rfl) (Nat.le_of_ble_eq_true rfl) (t_start hT) ?_
      refine x_callS2 cD_J_min dD_floor_35 (Nat.le_of_ble_eq_true rfl) (Nat.le_of_ble_eq_true rfl) (j_min (by omega) (by omega)) ?_
      refine x_istore_n dD_floor_38 (Nat.le_of_ble_eq_true rfl) ?_
      refine x_iinc (v := nI (t + 1)) dD_floor_39 rfl (by rw [nI_succ]; rfl) (Nat.le_of_ble_eq_true rfl) ?_
      refine x_goto 7 dD_floor_42 (by decide) ?_
      rw [show min (flo (sK σ) (sT σ) t) (sT σ t).2.1 = flo (sK σ) (sT σ) (t + 1) from (if_pos ho).symm]
      exact ih (t + 1) (by omega)
    | false =>
      refine x_if_eq 39 dD_floor_22 (by decide) (fun _ => ?_) (fun hc => absurd rfl hc)
      refine x_iinc (v := nI (t + 1)) dD_floor_39 rfl (by rw [nI_succ]; rfl) (Nat.le_of_ble_eq_true rfl) ?_
      refine x_goto 7 dD_floor_42 (by decide) ?_
      rw [show flo (sK σ) (sT σ) t = flo (sK σ) (sT σ) (t + 1) from (if_neg (by rw [ho]; decide)).symm]
      exact ih (t + 1) (by omega)
theorem d_floor (H : VP b σ h) (hI : VI σ) : xG E (d + 1) mD_floor 0 [(0, .ref b)] [] false h (false, .inl (some (.int (nI (flo (sK σ) (sT σ) 16)))), h) := by
  refine x_aload_n dD_floor_0 rfl ?_
  refine x_get fD_clock dD_floor_1 H.1 rfl ?_
  refine x_istore_n dD_floor_4 (Nat.le_of_ble_eq_true rfl) ?_
  refine x_iconst (v := (nI 0)) dD_floor_5 (by decide) ?_
  refine x_istore_n dD_floor_6 (Nat.le_of_ble_eq_true rfl) ?_
  exact d_flo_loop H hI 16 0 rfl
theorem d_reading {t c : Nat} (H : VP b σ h) (hI : VI σ) (ht : t < 16) (hc : c < 16) : xG E (d + 2) mD_reading 0 [(0, .ref b), (1, .ref (b + 2 + 11 * t)), (2, .int (nI c))] [] false h (false, .inl (some (.long (rdV σ t c))), h) := by
  have hT := H.2.2.1 t ht
  have hW := H.2.2.2.1 t ht
  obtain ⟨i1, i2, i3, i4⟩ := hI.2.1 t ht
  have hk := hI.1
  have hle := hiW_le (sW σ t) c (sT σ t).2.2.2.1
  refine x_aload_n dD_reading_0 rfl ?_
  refine x_iload_n dD_reading_1 rfl ?_
  refine x_callV1 cD_T_layerThatWrote dD_reading_2 (by assumption) (Nat.le_of_ble_eq_true rfl) (Nat.le_of_ble_eq_true rfl) (t_ltw i4 hT hW) ?_
  refine x_istore_n dD_reading_5 (Nat.le_of_ble_eq_true rfl) ?_
  refine x_iload_n dD_reading_6 rfl ?_
  refine x_if_lt 17 dD_reading_7 (by decide) (fun hz => ?_) (fun hz => ?_)
  · have e0 : hiW (sW σ t) c (sT σ t).2.2.2.1 = 0 := (xpi_neg _ (by omega)).mp hz
    unfold rdV
    rw [if_pos e0]
    refine x_aload_n dD_reading_17 rfl ?_
    refine x_get fD_versions dD_reading_18 H.1 rfl ?_
    refine x_iload_n dD_reading_21 rfl ?_
    refine x_aload_n dD_reading_22 rfl ?_
    refine x_callV0 cD_T_start dD_reading_23 (by assumption) (Nat.le_of_ble_eq_true rfl) (Nat.le_of_ble_eq_true rfl) (t_start hT) ?_
    refine x_callV2 cD_V_valueAt dD_reading_26 H.2.2.2.2.2.2.1 (Nat.le_of_ble_eq_true rfl) (Nat.le_of_ble_eq_true rfl) (v_valueAt hI.2.2.1 (by omega) (by omega) hI.ok H.2.2.2.2.2.2.1 H.2.2.2.2.2.2.2.1 H.2.2.2.2.2.2.2.2.1 H.2.2.2.2.2.2.2.2.2) ?_
    exact x_lret rfl dD_reading_29
  · have e0 : hiW (sW σ t) c (sT σ t).2.2.2.1 ≠ 0 := fun q => hz ((xpi_neg _ (by omega)).mpr q)
    unfold rdV
    rw [if_neg e0]
    obtain ⟨i, hi⟩ : ∃ i, hiW (sW σ t) c (sT σ t).2.2.2.1 = i + 1 := ⟨_, (Nat.succ_pred_eq_of_pos (Nat.pos_of_ne_zero e0)).symm⟩
    rw [hi]
    refine x_aload_n dD_reading_10 rfl ?_
    refine x_iload_n dD_reading_11 rfl ?_
    refine x_iload_n dD_reading_12 rfl ?_
    refine x_callV2 cD_T_valueIn dD_reading_13 (by assumption) (Nat.le_of_ble_eq_true rfl) (Nat.le_of_ble_eq_true rfl) (t_valueIn (i := i) (by omega) hc hT (H.2.2.2.2.1 t ht) (H.2.2.2.2.2.1 t i ht (by omega))) ?_
    exact x_lret rfl dD_reading_16
theorem d_spoiledCells {t : Nat} (H : VP b σ h) (hI : VI σ) (ht : t < 16) : xG E (d + 2) mD_spoiledCells 0 [(0, .ref b), (1, .ref (b + 2 + 11 * t))] [] false h (false, .inl (some (.int (spV σ t))), h) := by
  have hT := H.2.2.1 t ht
  have hW := H.2.2.2.1 t ht
  obtain ⟨i1, i2, i3, i4⟩ := hI.2.1 t ht
  have hk := hI.1
  refine x_aload_n dD_spoiledCells_0 rfl ?_
  refine x_callV0 cD_T_heeded dD_spoiledCells_1 (by assumption) (Nat.le_of_ble_eq_true rfl) (Nat.le_of_ble_eq_true rfl) (t_heeded i4 i2 hT hW) ?_
  refine x_aload_n dD_spoiledCells_4 rfl ?_
  refine x_get fD_versions dD_spoiledCells_5 H.1 rfl ?_
  refine x_aload_n dD_spoiledCells_8 rfl ?_
  refine x_callV0 cD_T_start dD_spoiledCells_9 (by assumption) (Nat.le_of_ble_eq_true rfl) (Nat.le_of_ble_eq_true rfl) (t_start hT) ?_
  refine x_callV1 cD_V_cellsWrittenAfter dD_spoiledCells_12 H.2.2.2.2.2.2.1 (Nat.le_of_ble_eq_true rfl) (Nat.le_of_ble_eq_true rfl) (v_wa hI.2.2.1 (by omega) hI.ok H.2.2.2.2.2.2.1 H.2.2.2.2.2.2.2.1 H.2.2.2.2.2.2.2.2.1) ?_
  refine x_iand dD_spoiledCells_15 ?_
  exact x_iret rfl dD_spoiledCells_16
end
end
section
/-! VersionDesk: its public methods -/
/-- nothing outside the object's cells has changed, nothing was made -/
def VF (b : Nat) (h h' : xH) : Prop := (∀ q, q < b ∨ b + 182 ≤ q → h'.1 q = h.1 q) ∧ h'.2.1 = h.2.1 ∧ h'.2.2 = h.2.2
theorem VF.rf (b : Nat) (h : xH) : VF b h h := ⟨fun _ _ => rfl, rfl, rfl⟩
theorem VF.set {b : Nat} {h h' : xH} (H : VF b h h') {a : Nat} (c : xC) (h1 : b ≤ a) (h2 : a < b + 182) : VF b h (xset h' a c) :=
  ⟨fun q hq => by rw [xset_ne _ _ (by omega)]; exact H.1 q hq, H.2.1, H.2.2⟩
theorem VF.setV {b : Nat} {h h' : xH} (H : VF b h h') (n : Nat) (A : vW) : VF b h (vset h' (b + 178) n A) := by
  unfold vset vput
  exact (((H.set _ (by omega) (by omega)).set _ (by omega) (by omega)).set _ (by omega) (by omega)).set _ (by omega) (by omega)
theorem wrV_m16 {σ : vS} (hI : VI σ) {t : Nat} (ht : t < 16) : m16 (wrV σ t) := by
  have hl := (hI.2.1 t ht).2.2.2
  unfold wrV
  generalize (sT σ t).2.2.2.1 = l at hl
  induction l with
  | zero => exact m16_0
  | succ l ih => exact m16_or (ih (by omega)) (hI.2.2.2.2.2 t l ht (by omega))
theorem heV_m16 {σ : vS} (hI : VI σ) {t : Nat} (ht : t < 16) : m16 (heV σ t) := by
  unfold heV
  split
  · exact m16_or (wrV_m16 hI ht) (hI.2.2.2.2.1 t ht)
  · exact wrV_m16 hI ht
theorem vwa_m16 {A : vW} {k : Nat} : ∀ (n : Nat) (z : Int32), (∀ i, i < n → A.1 i < 16) → m16 z → m16 (vwa A k n z)
  | 0, z, _, hz => hz
  | n + 1, z, hA, hz => by
    unfold vwa
    split
    · exact hz
    · exact vwa_m16 n _ (fun i hi => hA i (by omega)) (m16_or hz (m16_bit (hA n (by omega))))
theorem spV_m16 {σ : vS} (hI : VI σ) {t : Nat} (ht : t < 16) : m16 (spV σ t) :=
  m16_and (heV_m16 hI ht) (vwa_m16 _ _ (fun i hi => (hI.2.2.2.1 i hi).1) m16_0)
def stBegin (σ : vS) (t k : Nat) : vS := (sK σ, va_up (sT σ) t (true, sK σ, k, 1, 0), va_up (sW σ) t (va_up (sW σ t) 0 0), sR σ, sN σ, sA σ)
def stSee (σ : vS) (t c : Nat) : vS := (sK σ, va_up (sT σ) t ((sT σ t).1, (sT σ t).2.1, (sT σ t).2.2.1, (sT σ t).2.2.2.1, (sT σ t).2.2.2.2 ||| xbit c), sW σ, sR σ, sN σ, sA σ)
def stPut (σ : vS) (t l c : Nat) (v : Int64) : vS := (sK σ, sT σ, va_up (sW σ) t (va_up (sW σ t) l (sW σ t l ||| xbit c)), va_up (sR σ) t (va_up (sR σ t) l (va_up (sR σ t l) c v)), sN σ, sA σ)
def stLay (σ : vS) (t l : Nat) : vS := (sK σ, va_up (sT σ) t ((sT σ t).1, (sT σ t).2.1, (sT σ t).2.2.1, l, (sT σ t).2.2.2.2), sW σ, sR σ, sN σ, sA σ)
def stClr (σ : vS) (t l : Nat) : vS := (sK σ, sT σ, va_up (sW σ) t (va_up (sW σ t) l 0), sR σ, sN σ, sA σ)
def stDown (σ : vS) (t l : Nat) : vS := (sK σ, sT σ, va_up (sW σ) t (va_up (sW σ t) l (cdW (sW σ t (l + 1)) (sW σ t l) 16)), va_up (sR σ) t (va_up (sR σ t) l (cdR (sW σ t (l + 1)) (sR σ t (l + 1)) (sR σ t l) 16)), sN σ, sA σ)
def stShut (σ : vS) (t : Nat) : vS := (sK σ, va_up (sT σ) t (false, (sT σ t).2), sW σ, sR σ, sN σ, sA σ)
def stVer (σ : vS) (n : Nat) (A : vW) : vS := (sK σ, sT σ, sW σ, sR σ, n, A)
def stClk (σ : vS) (k : Nat) : vS := (k, sT σ, sW σ, sR σ, sN σ, sA σ)
section
variable {E : xE} {d b : Nat} {σ : vS} {h : xH}
theorem d_begin_bad {kd : Int32} (h0 : kd ≠ nI 0) (h1 : kd ≠ nI 1) : xG E (d + 4) mD_begin 0 [(0, .ref b), (1, .int kd)] [] false h (true, .inr ("java/lang/IllegalArgumentException", h.2.1), xthr h) := by
  refine x_iload_n dD_begin_0 rfl ?_
  refine x_if_eq 17 dD_begin_1 (by decide) (fun hc => absurd hc h0) (fun _ => ?_)
  refine x_iload_n dD_begin_4 rfl ?_
  refine x_iconst (v := (nI 1)) dD_begin_5 (by decide) ?_
  refine x_icmp_eq 17 dD_begin_6 (by decide) (fun hc => absurd hc h1) (fun _ => ?_)
  exact x_thrIAE rfl rfl dD_begin_9 dD_begin_12 dD_begin_13 dD_begin_16 (Nat.le_of_ble_eq_true rfl)
theorem d_begin_full {k : Nat} (H : VP b σ h) (hk : k < 2) (hf : lnoF (sT σ) 16 0 = 16) : xG E (d + 4) mD_begin 0 [(0, .ref b), (1, .int (nI k))] [] false h (true, .inr ("java/lang/IllegalStateException", h.2.1), xthr h) := by
  have go : xG E (d + 4) mD_begin 17 [(0, .ref b), (1, .int (nI k))] [] false h (true, .inr ("java/lang/IllegalStateException", h.2.1), xthr h) := by
    refine x_aload_n dD_begin_17 rfl ?_
    refine x_callV0 cD_D_leastNotOpen dD_begin_18 H.1 (Nat.le_of_ble_eq_true rfl) (Nat.le_of_ble_eq_true rfl) (d_lno (d := d + 2) H) ?_
    rw [hf]
    refine x_istore_n dD_begin_21 (Nat.le_of_ble_eq_true rfl) ?_
    refine x_iload_n dD_begin_22 rfl ?_
    refine x_bipush (v := (nI 16)) dD_begin_23 (by decide) ?_
    refine x_icmp_lt 36 dD_begin_25 (by decide) (fun hc => absurd hc (nI_nlt (Nat.le_refl _) (by decide))) (fun _ => ?_)
    exact x_thrISE rfl rfl dD_begin_28 dD_begin_31 dD_begin_32 dD_begin_35 (Nat.le_of_ble_eq_true rfl)
  refine x_iload_n dD_begin_0 rfl ?_
  refine x_if_eq 17 dD_begin_1 (by decide) (fun _ => go) (fun h0 => ?_)
  refine x_iload_n dD_begin_4 rfl ?_
  refine x_iconst (v := (nI 1)) dD_begin_5 (by decide) ?_
  refine x_icmp_eq 17 dD_begin_6 (by decide) (fun _ => go) (fun h1 => ?_)
  exfalso
  rcases (show k = 0 ∨ k = 1 by omega) with rfl | rfl
  · exact h0 rfl
  · exact h1 rfl
theorem d_begin_ok {k t : Nat} (hb : E.2.2.1 ≤ b) (H : VP b σ h) (hk : k < 2) (hf : lnoF (sT σ) 16 0 = t) (ht : t < 16) : ∃ h', xG E (d + 4) mD_begin 0 [(0, .ref b), (1, .int (nI k))] [] false h (true, .inl (some (.int (nI t))), h') ∧ VP b (stBegin σ t k) h' ∧ VF b h h' := by
  refine ⟨_, ?_, (H.setT ht (true, sK σ, k, 1, 0)).setW ht (va_up (sW σ t) 0 0), ((VF.rf b h).set _ (by omega) (by omega)).set _ (by omega) (by omega)⟩
  have go : xG E (d + 4) mD_begin 17 [(0, .ref b), (1, .int (nI k))] [] false h (true, .inl (some (.int (nI t))), xset (xset h (b + 2 + 11 * t) (tC b t (true, sK σ, k, 1, 0))) (b + 2 + 11 * t + 1) (vI 8 (va_up (sW σ t) 0 0))) := by
    refine x_aload_n dD_begin_17 rfl ?_
    refine x_callV0 cD_D_leastNotOpen dD_begin_18 H.1 (Nat.le_of_ble_eq_true rfl) (Nat.le_of_ble_eq_true rfl) (d_lno (d := d + 2) H) ?_
    rw [hf]
    refine x_istore_n dD_begin_21 (Nat.le_of_ble_eq_true rfl) ?_
    refine x_iload_n dD_begin_22 rfl ?_
    refine x_bipush (v := (nI 16)) dD_begin_23 (by decide) ?_
    refine x_icmp_lt 36 dD_begin_25 (by decide) (fun _ => ?_) (fun hc => absurd (nI_lt ht (by decide)) hc)
    refine x_aload_n dD_begin_36 rfl ?_
    refine x_get fD_transactions dD_begin_37 H.1 rfl ?_
    refine x_iload_n dD_begin_40 rfl ?_
    refine x_aald t (b + 2 + 11 * t) dD_begin_41 H.2.1 rfl (if_pos ht) rfl ht (by decide) ?_
    refine x_aload_n dD_begin_42 rfl ?_
    refine x_get fD_clock dD_begin_43 H.1 rfl ?_
    refine x_iload_n dD_begin_46 rfl ?_
    refine x_callV2 cD_T_open dD_begin_47 (H.2.2.1 t ht) (Nat.le_of_ble_eq_true rfl) (Nat.le_of_ble_eq_true rfl) (t_open (by omega) (H.2.2.1 t ht) (H.2.2.2.1 t ht)) ?_
    refine x_iload_n dD_begin_50 rfl ?_
    exact x_iret rfl dD_begin_51
  refine x_iload_n dD_begin_0 rfl ?_
  refine x_if_eq 17 dD_begin_1 (by decide) (fun _ => go) (fun h0 => ?_)
  refine x_iload_n dD_begin_4 rfl ?_
  refine x_iconst (v := (nI 1)) dD_begin_5 (by decide) ?_
  refine x_icmp_eq 17 dD_begin_6 (by decide) (fun _ => go) (fun h1 => ?_)
  exfalso
  rcases (show k = 0 ∨ k = 1 by omega) with rfl | rfl
  · exact h0 rfl
  · exact h1 rfl
/-- no open transaction has this number -/
def bad (σ : vS) (t : Int32) : Prop := ∀ j, j < 16 → t = nI j → (sT σ j).1 = false
def badc (c : Int32) : Prop := c < 0 ∨ nI 16 ≤ c
theorem d_read_bad {t c : Int32} (H : VP b σ h) (hbad : bad σ t) : xG E (d + 4) mD_read 0 [(0, .ref b), (1, .int t), (2, .int c)] [] false h (true, .inr ("java/util/NoSuchElementException", h.2.1), xthr h) := by
  refine x_aload_n dD_read_0 rfl ?_
  refine x_iload_n dD_read_1 rfl ?_
  exact x_thrV1 rfl cD_D_openOne dD_read_2 H.1 (Nat.le_of_ble_eq_true rfl) (Nat.le_of_ble_eq_true rfl) (d_openOne_bad (d := d + 2) H hbad)
theorem d_read_badc {t : Nat} {c : Int32} (H : VP b σ h) (ht : t < 16) (ho : (sT σ t).1 = true) (hc : badc c) : xG E (d + 4) mD_read 0 [(0, .ref b), (1, .int (nI t)), (2, .int c)] [] false h (true, .inr ("java/util/NoSuchElementException", h.2.1), xthr h) := by
  refine x_aload_n dD_read_0 rfl ?_
  refine x_iload_n dD_read_1 rfl ?_
  refine x_callV1 cD_D_openOne dD_read_2 H.1 (Nat.le_of_ble_eq_true rfl) (Nat.le_of_ble_eq_true rfl) (d_openOne (d := d + 2) H ht ho) ?_
  refine x_astore_n dD_read_5 (Nat.le_of_ble_eq_true rfl) ?_
  refine x_iload_n dD_read_6 rfl ?_
  exact x_thrS1 rfl cD_D_requireCell dD_read_7 (Nat.le_of_ble_eq_true rfl) (Nat.le_of_ble_eq_true rfl) (d_requireCell_bad (d := d + 2) hc)
theorem d_read_saw {t c : Nat} (H : VP b σ h) (hI : VI σ) (ht : t < 16) (ho : (sT σ t).1 = true) (hc : c < 16) (hw : hiW (sW σ t) c (sT σ t).2.2.2.1 ≠ 0) : xG E (d + 4) mD_read 0 [(0, .ref b), (1, .int (nI t)), (2, .int (nI c))] [] false h (false, .inl (some (.long (rdV σ t c))), h) := by
  have hle := hiW_le (sW σ t) c (sT σ t).2.2.2.1
  have hl := (hI.2.1 t ht).2.2.2
  refine x_aload_n dD_read_0 rfl ?_
  refine x_iload_n dD_read_1 rfl ?_
  refine x_callV1 cD_D_openOne dD_read_2 H.1 (Nat.le_of_ble_eq_true rfl) (Nat.le_of_ble_eq_true rfl) (d_openOne (d := d + 2) H ht ho) ?_
  refine x_astore_n dD_read_5 (Nat.le_of_ble_eq_true rfl) ?_
  refine x_iload_n dD_read_6 rfl ?_
  refine x_callS1 cD_D_requireCell dD_read_7 (Nat.le_of_ble_eq_true rfl) (Nat.le_of_ble_eq_true rfl) (d_requireCell hc) ?_
  refine x_aload_n dD_read_10 rfl ?_
  refine x_iload_n dD_read_11 rfl ?_
  refine x_callV1 cD_T_layerThatWrote dD_read_12 (H.2.2.1 t ht) (Nat.le_of_ble_eq_true rfl) (Nat.le_of_ble_eq_true rfl) (t_ltw hl (H.2.2.1 t ht) (H.2.2.2.1 t ht)) ?_
  refine x_if_ge 23 dD_read_15 (by decide) (fun _ => ?_) (fun hq => absurd ((xpi_neg _ (by omega)).mp (Int32.not_le.mp hq)) hw)
  refine x_aload_n dD_read_23 rfl ?_
  refine x_aload_n dD_read_24 rfl ?_
  refine x_iload_n dD_read_25 rfl ?_
  refine x_callV2 cD_D_reading dD_read_26 H.1 (Nat.le_of_ble_eq_true rfl) (Nat.le_of_ble_eq_true rfl) (d_reading (d := d + 1) H hI ht hc) ?_
  exact x_lret rfl dD_read_29
theorem d_read_see {t c : Nat} (hb : E.2.2.1 ≤ b) (H : VP b σ h) (hI : VI σ) (ht : t < 16) (ho : (sT σ t).1 = true) (hc : c < 16) (hw : hiW (sW σ t) c (sT σ t).2.2.2.1 = 0) : ∃ h', xG E (d + 4) mD_read 0 [(0, .ref b), (1, .int (nI t)), (2, .int (nI c))] [] false h (true, .inl (some (.long (rdV σ t c))), h') ∧ VP b (stSee σ t c) h' ∧ VF b h h' := by
  have hl := (hI.2.1 t ht).2.2.2
  have H' := H.setT ht ((sT σ t).1, (sT σ t).2.1, (sT σ t).2.2.1, (sT σ t).2.2.2.1, (sT σ t).2.2.2.2 ||| xbit c)
  have hI' : VI (stSee σ t c) := by
    refine ⟨hI.1, fun u hu => ?_, hI.2.2.1, hI.2.2.2.1, fun u hu => ?_, hI.2.2.2.2.2⟩
    · by_cases e : u = t
      · subst e; simp only [stSee, sT, sK, up_eq]; exact hI.2.1 u hu
      · simp only [stSee, sT, sK, up_ne _ _ e]; exact hI.2.1 u hu
    · by_cases e : u = t
      · subst e; simp only [stSee, sT, sK, up_eq]; exact m16_or (hI.2.2.2.2.1 u hu) (m16_bit hc)
      · simp only [stSee, sT, sK, up_ne _ _ e]; exact hI.2.2.2.2.1 u hu
  have er : rdV (stSee σ t c) t c = rdV σ t c := by simp only [rdV, stSee, sT, sK, sW, sR, sN, sA, up_eq]
  refine ⟨_, ?_, H', (VF.rf b h).set _ (by omega) (by omega)⟩
  rw [← er]
  refine x_aload_n dD_read_0 rfl ?_
  refine x_iload_n dD_read_1 rfl ?_
  refine x_callV1 cD_D_openOne dD_read_2 H.1 (Nat.le_of_ble_eq_true rfl) (Nat.le_of_ble_eq_true rfl) (d_openOne (d := d + 2) H ht ho) ?_
  refine x_astore_n dD_read_5 (Nat.le_of_ble_eq_true rfl) ?_
  refine x_iload_n dD_read_6 rfl ?_
  refine x_callS1 cD_D_requireCell dD_read_7 (Nat.le_of_ble_eq_true rfl) (Nat.le_of_ble_eq_true rfl) (d_requireCell hc) ?_
  refine x_aload_n dD_read_10 rfl ?_
  refine x_iload_n dD_read_11 rfl ?_
  refine x_callV1 cD_T_layerThatWrote dD_read_12 (H.2.2.1 t ht) (Nat.le_of_ble_eq_true rfl) (Nat.le_of_ble_eq_true rfl) (t_ltw hl (H.2.2.1 t ht) (H.2.2.2.1 t ht)) ?_
  refine x_if_ge 23 dD_read_15 (by decide) (fun hq => absurd ((xpi_neg _ (by omega)).mpr hw) (Int32.not_lt.mpr hq)) (fun _ => ?_)
  refine x_aload_n dD_read_18 rfl ?_
  refine x_iload_n dD_read_19 rfl ?_
  refine x_callV1 cD_T_see dD_read_20 (H.2.2.1 t ht) (Nat.le_of_ble_eq_true rfl) (Nat.le_of_ble_eq_true rfl) (t_see (by omega) (H.2.2.1 t ht)) ?_
  refine x_aload_n dD_read_23 rfl ?_
  refine x_aload_n dD_read_24 rfl ?_
  refine x_iload_n dD_read_25 rfl ?_
  refine x_callV2 cD_D_reading dD_read_26 H'.1 (Nat.le_of_ble_eq_true rfl) (Nat.le_of_ble_eq_true rfl) (d_reading (d := d + 1) (σ := stSee σ t c) H' hI' ht hc) ?_
  exact x_lret rfl dD_read_29
theorem d_write_bad {t c : Int32} {v : Int64} (H : VP b σ h) (hbad : bad σ t) : xG E (d + 4) mD_write 0 [(0, .ref b), (1, .int t), (2, .int c), (3, .long v)] [] false h (true, .inr ("java/util/NoSuchElementException", h.2.1), xthr h) := by
  refine x_aload_n dD_write_0 rfl ?_
  refine x_iload_n dD_write_1 rfl ?_
  exact x_thrV1 rfl cD_D_openOne dD_write_2 H.1 (Nat.le_of_ble_eq_true rfl) (Nat.le_of_ble_eq_true rfl) (d_openOne_bad (d := d + 2) H hbad)
theorem d_write_badc {t : Nat} {c : Int32} {v : Int64} (H : VP b σ h) (ht : t < 16) (ho : (sT σ t).1 = true) (hc : badc c) : xG E (d + 4) mD_write 0 [(0, .ref b), (1, .int (nI t)), (2, .int c), (3, .long v)] [] false h (true, .inr ("java/util/NoSuchElementException", h.2.1), xthr h) := by
  refine x_aload_n dD_write_0 rfl ?_
  refine x_iload_n dD_write_1 rfl ?_
  refine x_callV1 cD_D_openOne dD_write_2 H.1 (Nat.le_of_ble_eq_true rfl) (Nat.le_of_ble_eq_true rfl) (d_openOne (d := d + 2) H ht ho) ?_
  refine x_astore dD_write_5 (Nat.le_of_ble_eq_true rfl) ?_
  refine x_iload_n dD_write_7 rfl ?_
  exact x_thrS1 rfl cD_D_requireCell dD_write_8 (Nat.le_of_ble_eq_true rfl) (Nat.le_of_ble_eq_true rfl) (d_requireCell_bad (d := d + 2) hc)
theorem d_write_ok {t c : Nat} {v : Int64} (hb : E.2.2.1 ≤ b) (H : VP b σ h) (hI : VI σ) (ht : t < 16) (ho : (sT σ t).1 = true) (hc : c < 16) : ∃ h', xG E (d + 4) mD_write 0 [(0, .ref b), (1, .int (nI t)), (2, .int (nI c)), (3, .long v)] [] false h (true, .inl (some (.long (rdV σ t c))), h') ∧ VP b (stPut σ t ((sT σ t).2.2.2.1 - 1) c v) h' ∧ VF b h h' := by
  obtain ⟨i1, i2, i3, i4⟩ := hI.2.1 t ht
  refine ⟨_, ?_, (H.setW ht (va_up (sW σ t) ((sT σ t).2.2.2.1 - 1) (sW σ t ((sT σ t).2.2.2.1 - 1) ||| xbit c))).setR (k := (sT σ t).2.2.2.1 - 1) ht (by omega) (va_up (sR σ t ((sT σ t).2.2.2.1 - 1)) c v), ((VF.rf b h).set _ (by omega) (by omega)).set _ (by omega) (by omega)⟩
  refine x_aload_n dD_write_0 rfl ?_
  refine x_iload_n dD_write_1 rfl ?_
  refine x_callV1 cD_D_openOne dD_write_2 H.1 (Nat.le_of_ble_eq_true rfl) (Nat.le_of_ble_eq_true rfl) (d_openOne (d := d + 2) H ht ho) ?_
  refine x_astore dD_write_5 (Nat.le_of_ble_eq_true rfl) ?_
  refine x_iload_n dD_write_7 rfl ?_
  refine x_callS1 cD_D_requireCell dD_write_8 (Nat.le_of_ble_eq_true rfl) (Nat.le_of_ble_eq_true rfl) (d_requireCell hc) ?_
  refine x_aload_n dD_write_11 rfl ?_
  refine x_aload dD_write_12 rfl ?_
  refine x_iload_n dD_write_14 rfl ?_
  refine x_callV2 cD_D_reading dD_write_15 H.1 (Nat.le_of_ble_eq_true rfl) (Nat.le_of_ble_eq_true rfl) (d_reading (d := d + 1) H hI ht hc) ?_
  refine x_lstore dD_write_18 (Nat.le_of_ble_eq_true rfl) ?_
  refine x_aload dD_write_20 rfl ?_
  refine x_iload_n dD_write_22 rfl ?_
  refine x_lload_n dD_write_23 rfl ?_
  refine x_callV2 cD_T_put dD_write_24 (H.2.2.1 t ht) (Nat.le_of_ble_eq_true rfl) (Nat.le_of_ble_eq_true rfl) (t_put (d := d + 2) (by omega) i3 i4 hc (H.2.2.1 t ht) (H.2.2.2.1 t ht) (H.2.2.2.2.1 t ht) (H.2.2.2.2.2.1 t _ ht (by omega))) ?_
  refine x_lload dD_write_27 rfl ?_
  exact x_lret rfl dD_write_29
theorem d_push_bad {t : Int32} (H : VP b σ h) (hbad : bad σ t) : xG E (d + 4) mD_push 0 [(0, .ref b), (1, .int t)] [] false h (true, .inr ("java/util/NoSuchElementException", h.2.1), xthr h) := by
  refine x_aload_n dD_push_0 rfl ?_
  refine x_iload_n dD_push_1 rfl ?_
  exact x_thrV1 rfl cD_D_openOne dD_push_2 H.1 (Nat.le_of_ble_eq_true rfl) (Nat.le_of_ble_eq_true rfl) (d_openOne_bad (d := d + 2) H hbad)
theorem d_push_full {t : Nat} (H : VP b σ h) (ht : t < 16) (ho : (sT σ t).1 = true) (hl : (sT σ t).2.2.2.1 = 8) : xG E (d + 4) mD_push 0 [(0, .ref b), (1, .int (nI t))] [] false h (true, .inr ("java/lang/IllegalStateException", h.2.1), xthr h) := by
  refine x_aload_n dD_push_0 rfl ?_
  refine x_iload_n dD_push_1 rfl ?_
  refine x_callV1 cD_D_openOne dD_push_2 H.1 (Nat.le_of_ble_eq_true rfl) (Nat.le_of_ble_eq_true rfl) (d_openOne (d := d + 2) H ht ho) ?_
  refine x_astore_n dD_push_5 (Nat.le_of_ble_eq_true rfl) ?_
  refine x_aload_n dD_push_6 rfl ?_
  refine x_callV0 cD_T_layers dD_push_7 (H.2.2.1 t ht) (Nat.le_of_ble_eq_true rfl) (Nat.le_of_ble_eq_true rfl) (t_layers (H.2.2.1 t ht)) ?_
  refine x_bipush (v := (nI 8)) dD_push_10 (by decide) ?_
  rw [hl]
  refine x_icmp_lt 23 dD_push_12 (by decide) (fun hq => absurd hq (nI_nlt (Nat.le_refl _) (by decide))) (fun _ => ?_)
  exact x_thrISE rfl rfl dD_push_15 dD_push_18 dD_push_19 dD_push_22 (Nat.le_of_ble_eq_true rfl)
theorem d_push_ok {t : Nat} (hb : E.2.2.1 ≤ b) (H : VP b σ h) (ht : t < 16) (ho : (sT σ t).1 = true) (hl : (sT σ t).2.2.2.1 < 8) : ∃ h', xG E (d + 4) mD_push 0 [(0, .ref b), (1, .int (nI t))] [] false h (true, .inl (some (.int (nI ((sT σ t).2.2.2.1 + 1)))), h') ∧ VP b (stLay (stClr σ t (sT σ t).2.2.2.1) t ((sT σ t).2.2.2.1 + 1)) h' ∧ VF b h h' := by
  have H' := (H.setW ht (va_up (sW σ t) (sT σ t).2.2.2.1 0)).setT ht ((sT σ t).1, (sT σ t).2.1, (sT σ t).2.2.1, (sT σ t).2.2.2.1 + 1, (sT σ t).2.2.2.2)
  refine ⟨_, ?_, H', ((VF.rf b h).set _ (by omega) (by omega)).set _ (by omega) (by omega)⟩
  have hT' := H'.2.2.1 t ht
  have e1 : sT (sK (sK σ, sT σ, va_up (sW σ) t (va_up (sW σ t) (sT σ t).2.2.2.1 0), sR σ, sN σ, sA σ), va_up (sT σ) t ((sT σ t).1, (sT σ t).2.1, (sT σ t).2.2.1, (sT σ t).2.2.2.1 + 1, (sT σ t).2.2.2.2), va_up (sW σ) t (va_up (sW σ t) (sT σ t).2.2.2.1 0), sR σ, sN σ, sA σ) t = ((sT σ t).1, (sT σ t).2.1, (sT σ t).2.2.1, (sT σ t).2.2.2.1 + 1, (sT σ t).2.2.2.2) := up_eq _ _ _
  rw [show _ = _ from e1] at hT'
  refine x_aload_n dD_push_0 rfl ?_
  refine x_iload_n dD_push_1 rfl ?_
  refine x_callV1 cD_D_openOne dD_push_2 H.1 (Nat.le_of_ble_eq_true rfl) (Nat.le_of_ble_eq_true rfl) (d_openOne (d := d + 2) H ht ho) ?_
  refine x_astore_n dD_push_5 (Nat.le_of_ble_eq_true rfl) ?_
  refine x_aload_n dD_push_6 rfl ?_
  refine x_callV0 cD_T_layers dD_push_7 (H.2.2.1 t ht) (Nat.le_of_ble_eq_true rfl) (Nat.le_of_ble_eq_true rfl) (t_layers (H.2.2.1 t ht)) ?_
  refine x_bipush (v := (nI 8)) dD_push_10 (by decide) ?_
  refine x_icmp_lt 23 dD_push_12 (by decide) (fun _ => ?_) (fun hq => absurd (nI_lt hl (by decide)) hq)
  refine x_aload_n dD_push_23 rfl ?_
  refine x_callV0 cD_T_addLayer dD_push_24 (H.2.2.1 t ht) (Nat.le_of_ble_eq_true rfl) (Nat.le_of_ble_eq_true rfl) (t_addLayer (by omega) hl (H.2.2.1 t ht) (H.2.2.2.1 t ht)) ?_
  refine x_aload_n dD_push_27 rfl ?_
  refine x_callV0 cD_T_layers dD_push_28 hT' (Nat.le_of_ble_eq_true rfl) (Nat.le_of_ble_eq_true rfl) (t_layers hT') ?_
  exact x_iret rfl dD_push_31
end
end
section
/-! VersionDesk: pop, commit, drop, spoiled, meets, past, forget, about, count -/
theorem xbit_bt {x : Int32} {c : Nat} (hc : c < 16) : x &&& xbit c = 0 ↔ bt x c = false := by
  have hb : ∀ i, i < 32 → bt (xbit c) i = decide (i = c) := by
    intro i hi
    unfold xbit
    rw [b_shl c (by omega) 1 hi]
    by_cases e : i = c
    · subst e; simp; decide
    · by_cases h : c ≤ i
      · have : 0 < i - c := by omega
        have h1 : bt 1 (i - c) = false := by
          unfold bt
          show (1#32).getLsbD (i - c) = false
          rw [BitVec.getLsbD_one]
          simp
          omega
        simp [h, h1, e]
      · simp [h, e]
  constructor
  · intro h
    have := congrArg (fun z => bt z c) h
    simp only [b_and, b_0, hb c (by omega)] at this
    simpa using this
  · intro h
    apply b_ext
    intro i hi
    rw [b_and, hb i hi, b_0]
    by_cases e : i = c
    · subst e; simp [h]
    · simp [e]
theorem orW_hiW (f : Nat → Int32) {c : Nat} (hc : c < 16) : ∀ l, orW f l &&& xbit c = 0 ↔ hiW f c l = 0
  | 0 => by
    rw [xbit_bt hc]
    exact ⟨fun _ => rfl, fun _ => b_0 c⟩
  | l + 1 => by
    have ih := orW_hiW f hc l
    rw [xbit_bt hc] at ih ⊢
    show bt (orW f l ||| f l) c = false ↔ (if f l &&& xbit c = 0 then hiW f c l else l + 1) = 0
    rw [b_or]
    by_cases e : f l &&& xbit c = 0
    · rw [if_pos e, (xbit_bt hc).mp e, Bool.or_false]; exact ih
    · rw [if_neg e]
      have : bt (f l) c = true := by
        cases hb : bt (f l) c
        · exact absurd ((xbit_bt hc).mpr hb) e
        · rfl
      simp [this]
def kv (k : Nat) (wr : Int32) (val : Nat → Int64) (n : Nat) (A : vW) : Nat → Nat × vW
  | 0 => (n, A)
  | c + 1 => if wr &&& xbit c = 0 then kv k wr val n A c else ((kv k wr val n A c).1 + 1, (va_up (kv k wr val n A c).2.1 (kv k wr val n A c).1 c, va_up (kv k wr val n A c).2.2.1 (kv k wr val n A c).1 k, va_up (kv k wr val n A c).2.2.2 (kv k wr val n A c).1 (val c)))
theorem kv_n (k : Nat) (wr : Int32) (val : Nat → Int64) (n : Nat) (A : vW) : ∀ c, (kv k wr val n A c).1 = n + pcn wr c
  | 0 => rfl
  | c + 1 => by
    have ih := kv_n k wr val n A c
    unfold kv pcn
    split
    · exact ih
    · show (kv k wr val n A c).1 + 1 = _
      omega
theorem pcn_mono (x : Int32) {a b : Nat} (h : a ≤ b) : pcn x a ≤ pcn x b := by
  induction b with
  | zero => obtain rfl : a = 0 := by omega
            exact Nat.le_refl _
  | succ b ih =>
    by_cases e : a = b + 1
    · rw [e]; exact Nat.le_refl _
    · have := ih (by omega)
      unfold pcn
      rw [show pcn x a = pcn x a from rfl] at this
      have e2 : ∀ y, pcn x a = y → y ≤ (if x &&& xbit b = 0 then pcn x b else pcn x b + 1) := fun y hy => by
        split <;> omega
      exact e2 _ (by cases a <;> rfl)
/-- what a commit of t keeps of the cell c, where t wrote it -/
def valV (σ : vS) (t c : Nat) : Int64 := sR σ t (hiW (sW σ t) c (sT σ t).2.2.2.1 - 1) c
theorem VI_kv {σ : vS} (hI : VI σ) {wr : Int32} {val : Nat → Int64} (hr : sN σ + pcn wr 16 ≤ 500) : ∀ c, c ≤ 16 → VI (stVer σ (kv (sK σ) wr val (sN σ) (sA σ) c).1 (kv (sK σ) wr val (sN σ) (sA σ) c).2)
  | 0, _ => hI
  | c + 1, hc => by
    have ih := VI_kv hI hr c (by omega) (wr := wr) (val := val)
    have hn := kv_n (sK σ) wr val (sN σ) (sA σ) c
    by_cases e : wr &&& xbit c = 0
    · rw [show kv (sK σ) wr val (sN σ) (sA σ) (c + 1) = kv (sK σ) wr val (sN σ) (sA σ) c from if_pos e]; exact ih
    · have hp : pcn wr (c + 1) = pcn wr c + 1 := if_neg e
      have hm := pcn_mono wr hc
      rw [show kv (sK σ) wr val (sN σ) (sA σ) (c + 1) = ((kv (sK σ) wr val (sN σ) (sA σ) c).1 + 1, (va_up (kv (sK σ) wr val (sN σ) (sA σ) c).2.1 (kv (sK σ) wr val (sN σ) (sA σ) c).1 c, va_up (kv (sK σ) wr val (sN σ) (sA σ) c).2.2.1 (kv (sK σ) wr val (sN σ) (sA σ) c).1 (sK σ), va_up (kv (sK σ) wr val (sN σ) (sA σ) c).2.2.2 (kv (sK σ) wr val (sN σ) (sA σ) c).1 (val c))) from if_neg e]
      generalize kv (sK σ) wr val (sN σ) (sA σ) c = p at ih hn ⊢
      refine ⟨hI.1, hI.2.1, (show p.1 + 1 ≤ 500 by omega), fun i hi => ?_, hI.2.2.2.2.1, hI.2.2.2.2.2⟩
      have hi' : i < p.1 + 1 := hi
      have h4 : ∀ i, i < p.1 → p.2.1 i < 16 ∧ p.2.2.1 i ≤ sK σ := ih.2.2.2.1
      show va_up p.2.1 p.1 c i < 16 ∧ va_up p.2.2.1 p.1 (sK σ) i ≤ sK σ
      by_cases e2 : i = p.1
      · subst e2
        rw [up_eq, up_eq]
        exact ⟨by omega, Nat.le_refl _⟩
      · rw [up_ne _ _ e2, up_ne _ _ e2]
        exact h4 i (by omega)
theorem vset_twice (h : xH) (a n n' : Nat) (A A' : vW) : vset (vset h a n A) a n' A' = vset h a n' A' := by
  unfold vset
  have : vput (xset (vput h a A) a (vV a n)) a A' = xset (vput h a A') a (vV a n) := by
    rw [← vput_twice h a A A']
    unfold vput
    rw [xset_comm _ (show a ≠ a + 1 by omega), xset_comm _ (show a ≠ a + 2 by omega), xset_comm _ (show a ≠ a + 3 by omega)]
  rw [this, xset_twice]
theorem vset_self {h : xH} {a n : Nat} {A : vW} (h0 : h.1 a = some (vV a n)) (h1 : h.1 (a + 1) = some (vN 500 A.1)) (h2 : h.1 (a + 2) = some (vN 500 A.2.1)) (h3 : h.1 (a + 3) = some (vL 500 A.2.2)) : vset h a n A = h := by
  unfold vset
  rw [vput_self h1 h2 h3, xset_self h0]
section
variable {E : xE} {d b : Nat} {σ : vS} {h : xH}
theorem d_kv_loop {t : Nat} (hb : E.2.2.1 ≤ b) (H : VP b σ h) (hI : VI σ) (ht : t < 16) (hr : sN σ + pcn (wrV σ t) 16 ≤ 500) : ∀ m c : Nat, c + m = 16 →
    xG E (d + 3) mD_keepVersions 2 [(3, .int (nI c)), (0, .ref b), (1, .ref (b + 2 + 11 * t)), (2, .int (wrV σ t))] [] true (vset h (b + 178) (kv (sK σ) (wrV σ t) (valV σ t) (sN σ) (sA σ) c).1 (kv (sK σ) (wrV σ t) (valV σ t) (sN σ) (sA σ) c).2)
      (true, .inl none, vset h (b + 178) (kv (sK σ) (wrV σ t) (valV σ t) (sN σ) (sA σ) 16).1 (kv (sK σ) (wrV σ t) (valV σ t) (sN σ) (sA σ) 16).2) := by
  intro m
  induction m with
  | zero =>
    intro c hc
    obtain rfl : c = 16 := by omega
    refine x_iload_n dD_keepVersions_2 rfl ?_
    refine x_bipush (v := (nI 16)) dD_keepVersions_3 (by decide) ?_
    refine x_icmp_ge 40 dD_keepVersions_5 (by decide) (fun _ => ?_) (fun hq => absurd (nI_le (by omega) (by omega)) hq)
    exact x_vret rfl dD_keepVersions_40
  | succ m ih =>
    intro c hc
    have hIc := VI_kv hI hr c (by omega) (val := valV σ t)
    have hn := kv_n (sK σ) (wrV σ t) (valV σ t) (sN σ) (sA σ) c
    have ih' := ih (c + 1) (by omega)
    have Hc := H.setV (kv (sK σ) (wrV σ t) (valV σ t) (sN σ) (sA σ) c).1 (kv (sK σ) (wrV σ t) (valV σ t) (sN σ) (sA σ) c).2
    have hmo := pcn_mono (wrV σ t) (show c + 1 ≤ 16 by omega)
    refine x_iload_n dD_keepVersions_2 rfl ?_
    refine x_bipush (v := (nI 16)) dD_keepVersions_3 (by decide) ?_
    refine x_icmp_ge 40 dD_keepVersions_5 (by decide) (fun hq => absurd hq (nI_ge (by omega) (by omega))) (fun _ => ?_)
    refine x_iload_n dD_keepVersions_8 rfl ?_
    refine x_iconst (v := 1) dD_keepVersions_9 (by decide) ?_
    refine x_iload_n dD_keepVersions_10 rfl ?_
    refine x_ishl dD_keepVersions_11 ?_
    refine x_iand dD_keepVersions_12 ?_
    refine x_if_eq 34 dD_keepVersions_13 (by decide) (fun hz => ?_) (fun hz => ?_)
    · rw [show kv (sK σ) (wrV σ t) (valV σ t) (sN σ) (sA σ) (c + 1) = kv (sK σ) (wrV σ t) (valV σ t) (sN σ) (sA σ) c from if_pos hz] at ih'
      refine x_iinc (v := nI (c + 1)) dD_keepVersions_34 rfl (by rw [nI_succ]; rfl) (Nat.le_of_ble_eq_true rfl) ?_
      refine x_goto 2 dD_keepVersions_37 (by decide) ?_
      exact ih'
    · have hz' : ¬ (wrV σ t &&& xbit c = 0) := hz
      have hp : pcn (wrV σ t) (c + 1) = pcn (wrV σ t) c + 1 := if_neg hz'
      rw [show kv (sK σ) (wrV σ t) (valV σ t) (sN σ) (sA σ) (c + 1) = _ from if_neg hz'] at ih'
      generalize kv (sK σ) (wrV σ t) (valV σ t) (sN σ) (sA σ) c = p at hIc hn ih' Hc ⊢
      obtain ⟨n', A'⟩ := p
      dsimp only at hIc hn ih' Hc ⊢
      have hw : hiW (sW σ t) c (sT σ t).2.2.2.1 ≠ 0 := fun q => hz' ((orW_hiW (sW σ t) (by omega) _).mpr q)
      have er : rdV (stVer σ n' A') t c = valV σ t c := if_neg hw
      refine x_aload_n dD_keepVersions_16 rfl ?_
      refine x_get fD_versions dD_keepVersions_17 Hc.1 rfl ?_
      refine x_iload_n dD_keepVersions_20 rfl ?_
      refine x_aload_n dD_keepVersions_21 rfl ?_
      refine x_get fD_clock dD_keepVersions_22 Hc.1 rfl ?_
      refine x_aload_n dD_keepVersions_25 rfl ?_
      refine x_aload_n dD_keepVersions_26 rfl ?_
      refine x_iload_n dD_keepVersions_27 rfl ?_
      refine x_callV2 cD_D_reading dD_keepVersions_28 Hc.1 (Nat.le_of_ble_eq_true rfl) (Nat.le_of_ble_eq_true rfl) (d_reading (σ := stVer σ n' A') Hc hIc ht (by omega)) ?_
      rw [er]
      refine x_callV3 cD_V_append dD_keepVersions_31 Hc.2.2.2.2.2.2.1 (Nat.le_of_ble_eq_true rfl) (Nat.le_of_ble_eq_true rfl) (v_append (A := A') (n := n') (by omega) (by omega) Hc.2.2.2.2.2.2.1 Hc.2.2.2.2.2.2.2.1 Hc.2.2.2.2.2.2.2.2.1 Hc.2.2.2.2.2.2.2.2.2) ?_
      refine x_heq (h' := vset h (b + 178) (n' + 1) (va_up A'.1 n' c, va_up A'.2.1 n' (sK σ), va_up A'.2.2 n' (valV σ t c))) (vset_twice h _ _ _ _ _) ?_
      refine x_iinc (v := nI (c + 1)) dD_keepVersions_34 rfl (by rw [nI_succ]; rfl) (Nat.le_of_ble_eq_true rfl) ?_
      refine x_goto 2 dD_keepVersions_37 (by decide) ?_
      exact ih'
theorem d_kv {t : Nat} (hb : E.2.2.1 ≤ b) (H : VP b σ h) (hI : VI σ) (ht : t < 16) (hr : sN σ + pcn (wrV σ t) 16 ≤ 500) : xG E (d + 3) mD_keepVersions 0 [(0, .ref b), (1, .ref (b + 2 + 11 * t)), (2, .int (wrV σ t))] [] false h (true, .inl none, vset h (b + 178) (kv (sK σ) (wrV σ t) (valV σ t) (sN σ) (sA σ) 16).1 (kv (sK σ) (wrV σ t) (valV σ t) (sN σ) (sA σ) 16).2) := by
  refine x_true ?_
  refine x_iconst (v := (nI 0)) dD_keepVersions_0 (by decide) ?_
  refine x_istore_n dD_keepVersions_1 (Nat.le_of_ble_eq_true rfl) ?_
  have := d_kv_loop (E := E) (d := d) hb H hI ht hr 16 0 rfl
  rw [show kv (sK σ) (wrV σ t) (valV σ t) (sN σ) (sA σ) 0 = (sN σ, sA σ) from rfl, vset_self H.2.2.2.2.2.2.1 H.2.2.2.2.2.2.2.1 H.2.2.2.2.2.2.2.2.1 H.2.2.2.2.2.2.2.2.2] at this
  exact this
end
end
section
def stKept (σ : vS) (t : Nat) : vS := stVer (stClk σ (sK σ + 1)) (kv (sK σ + 1) (wrV σ t) (valV σ t) (sN σ) (sA σ) 16).1 (kv (sK σ + 1) (wrV σ t) (valV σ t) (sN σ) (sA σ) 16).2
section
variable {E : xE} {d b : Nat} {σ : vS} {h : xH}
theorem d_pop_bad {t kp : Int32} (H : VP b σ h) (hbad : bad σ t) : xG E (d + 4) mD_pop 0 [(0, .ref b), (1, .int t), (2, .int kp)] [] false h (true, .inr ("java/util/NoSuchElementException", h.2.1), xthr h) := by
  refine x_aload_n dD_pop_0 rfl ?_
  refine x_iload_n dD_pop_1 rfl ?_
  exact x_thrV1 rfl cD_D_openOne dD_pop_2 H.1 (Nat.le_of_ble_eq_true rfl) (Nat.le_of_ble_eq_true rfl) (d_openOne_bad (d := d + 2) H hbad)
theorem d_pop_one {t : Nat} {kp : Int32} (H : VP b σ h) (ht : t < 16) (ho : (sT σ t).1 = true) (hl : (sT σ t).2.2.2.1 = 1) : xG E (d + 4) mD_pop 0 [(0, .ref b), (1, .int (nI t)), (2, .int kp)] [] false h (true, .inr ("java/lang/IllegalStateException", h.2.1), xthr h) := by
  refine x_aload_n dD_pop_0 rfl ?_
  refine x_iload_n dD_pop_1 rfl ?_
  refine x_callV1 cD_D_openOne dD_pop_2 H.1 (Nat.le_of_ble_eq_true rfl) (Nat.le_of_ble_eq_true rfl) (d_openOne (d := d + 2) H ht ho) ?_
  refine x_astore_n dD_pop_5 (Nat.le_of_ble_eq_true rfl) ?_
  refine x_aload_n dD_pop_6 rfl ?_
  refine x_callV0 cD_T_layers dD_pop_7 (H.2.2.1 t ht) (Nat.le_of_ble_eq_true rfl) (Nat.le_of_ble_eq_true rfl) (t_layers (H.2.2.1 t ht)) ?_
  refine x_iconst (v := (nI 1)) dD_pop_10 (by decide) ?_
  rw [hl]
  refine x_icmp_gt 22 dD_pop_11 (by decide) (fun hq => absurd hq (nI_nlt (Nat.le_refl _) (by decide))) (fun _ => ?_)
  exact x_thrISE rfl rfl dD_pop_14 dD_pop_17 dD_pop_18 dD_pop_21 (Nat.le_of_ble_eq_true rfl)
theorem d_pop_give {t m : Nat} (hb : E.2.2.1 ≤ b) (H : VP b σ h) (ht : t < 16) (ho : (sT σ t).1 = true) (hl : (sT σ t).2.2.2.1 = m + 2) (hm : m + 2 ≤ 8) : ∃ h', xG E (d + 4) mD_pop 0 [(0, .ref b), (1, .int (nI t)), (2, .int (nI 0))] [] false h (true, .inl (some (.int (nI (m + 1)))), h') ∧ VP b (stLay σ t (m + 1)) h' ∧ VF b h h' := by
  have hT : h.1 (b + 2 + 11 * t) = some (vT (b + 2 + 11 * t) (sT σ t).1 (sT σ t).2.1 (sT σ t).2.2.1 (m + 2) (sT σ t).2.2.2.2) := by rw [← hl]; exact H.2.2.1 t ht
  refine ⟨_, ?_, H.setT ht ((sT σ t).1, (sT σ t).2.1, (sT σ t).2.2.1, m + 1, (sT σ t).2.2.2.2), (VF.rf b h).set _ (by omega) (by omega)⟩
  refine x_aload_n dD_pop_0 rfl ?_
  refine x_iload_n dD_pop_1 rfl ?_
  refine x_callV1 cD_D_openOne dD_pop_2 H.1 (Nat.le_of_ble_eq_true rfl) (Nat.le_of_ble_eq_true rfl) (d_openOne (d := d + 2) H ht ho) ?_
  refine x_astore_n dD_pop_5 (Nat.le_of_ble_eq_true rfl) ?_
  refine x_aload_n dD_pop_6 rfl ?_
  refine x_callV0 cD_T_layers dD_pop_7 hT (Nat.le_of_ble_eq_true rfl) (Nat.le_of_ble_eq_true rfl) (t_layers hT) ?_
  refine x_iconst (v := (nI 1)) dD_pop_10 (by decide) ?_
  refine x_icmp_gt 22 dD_pop_11 (by decide) (fun _ => ?_) (fun hq => absurd (nI_lt (by omega) (by omega)) hq)
  refine x_iload_n dD_pop_22 rfl ?_
  refine x_if_eq 30 dD_pop_23 (by decide) (fun _ => ?_) (fun hq => absurd rfl hq)
  refine x_aload_n dD_pop_30 rfl ?_
  refine x_callV0 cD_T_removeLayer dD_pop_31 hT (Nat.le_of_ble_eq_true rfl) (Nat.le_of_ble_eq_true rfl) (t_removeLayer (by omega) (by omega) hm hT) ?_
  refine x_aload_n dD_pop_34 rfl ?_
  refine x_callV0 cD_T_layers dD_pop_35 (xset_eq _ _ _) (Nat.le_of_ble_eq_true rfl) (Nat.le_of_ble_eq_true rfl) (t_layers (xset_eq _ _ _)) ?_
  exact x_iret rfl dD_pop_38
theorem d_pop_keep {t m : Nat} {kp : Int32} (hk : kp ≠ 0) (hb : E.2.2.1 ≤ b) (H : VP b σ h) (ht : t < 16) (ho : (sT σ t).1 = true) (hl : (sT σ t).2.2.2.1 = m + 2) (hm : m + 2 ≤ 8) : ∃ h', xG E (d + 4) mD_pop 0 [(0, .ref b), (1, .int (nI t)), (2, .int kp)] [] false h (true, .inl (some (.int (nI (m + 1)))), h') ∧ VP b (stLay (stDown σ t m) t (m + 1)) h' ∧ VF b h h' := by
  have hT : h.1 (b + 2 + 11 * t) = some (vT (b + 2 + 11 * t) (sT σ t).1 (sT σ t).2.1 (sT σ t).2.2.1 (m + 2) (sT σ t).2.2.2.2) := by rw [← hl]; exact H.2.2.1 t ht
  have hT2 : (tput h (b + 2 + 11 * t) m (va_up (sW σ t) m (cdW (sW σ t (m + 1)) (sW σ t m) 16)) (cdR (sW σ t (m + 1)) (sR σ t (m + 1)) (sR σ t m) 16)).1 (b + 2 + 11 * t) = some (vT (b + 2 + 11 * t) (sT σ t).1 (sT σ t).2.1 (sT σ t).2.2.1 (m + 2) (sT σ t).2.2.2.2) := (tput_ne h _ _ (by omega) (by omega)).trans hT
  refine ⟨_, ?_, ((H.setW ht (va_up (sW σ t) m (cdW (sW σ t (m + 1)) (sW σ t m) 16))).setR (k := m) ht (by omega) (cdR (sW σ t (m + 1)) (sR σ t (m + 1)) (sR σ t m) 16)).setT ht ((sT σ t).1, (sT σ t).2.1, (sT σ t).2.2.1, m + 1, (sT σ t).2.2.2.2), (((VF.rf b h).set _ (by omega) (by omega)).set _ (by omega) (by omega)).set _ (by omega) (by omega)⟩
  refine x_aload_n dD_pop_0 rfl ?_
  refine x_iload_n dD_pop_1 rfl ?_
  refine x_callV1 cD_D_openOne dD_pop_2 H.1 (Nat.le_of_ble_eq_true rfl) (Nat.le_of_ble_eq_true rfl) (d_openOne (d := d + 2) H ht ho) ?_
  refine x_astore_n dD_pop_5 (Nat.le_of_ble_eq_true rfl) ?_
  refine x_aload_n dD_pop_6 rfl ?_
  refine x_callV0 cD_T_layers dD_pop_7 hT (Nat.le_of_ble_eq_true rfl) (Nat.le_of_ble_eq_true rfl) (t_layers hT) ?_
  refine x_iconst (v := (nI 1)) dD_pop_10 (by decide) ?_
  refine x_icmp_gt 22 dD_pop_11 (by decide) (fun _ => ?_) (fun hq => absurd (nI_lt (by omega) (by omega)) hq)
  refine x_iload_n dD_pop_22 rfl ?_
  refine x_if_eq 30 dD_pop_23 (by decide) (fun hq => absurd hq hk) (fun _ => ?_)
  refine x_aload_n dD_pop_26 rfl ?_
  refine x_callV0 cD_T_copyHighestLayerDown dD_pop_27 hT (Nat.le_of_ble_eq_true rfl) (Nat.le_of_ble_eq_true rfl) (t_chd (d := d + 2) (by omega) hm hT (H.2.2.2.1 t ht) (H.2.2.2.2.1 t ht) (H.2.2.2.2.2.1 t (m + 1) ht (by omega)) (H.2.2.2.2.2.1 t m ht (by omega))) ?_
  refine x_aload_n dD_pop_30 rfl ?_
  refine x_callV0 cD_T_removeLayer dD_pop_31 hT2 (Nat.le_of_ble_eq_true rfl) (Nat.le_of_ble_eq_true rfl) (t_removeLayer (by omega) (by omega) hm hT2) ?_
  refine x_aload_n dD_pop_34 rfl ?_
  refine x_callV0 cD_T_layers dD_pop_35 (xset_eq _ _ _) (Nat.le_of_ble_eq_true rfl) (Nat.le_of_ble_eq_true rfl) (t_layers (xset_eq _ _ _)) ?_
  exact x_iret rfl dD_pop_38
theorem d_commit_bad {t : Int32} (H : VP b σ h) (hbad : bad σ t) : xG E (d + 4) mD_commit 0 [(0, .ref b), (1, .int t)] [] false h (true, .inr ("java/util/NoSuchElementException", h.2.1), xthr h) := by
  refine x_aload_n dD_commit_0 rfl ?_
  refine x_iload_n dD_commit_1 rfl ?_
  exact x_thrV1 rfl cD_D_openOne dD_commit_2 H.1 (Nat.le_of_ble_eq_true rfl) (Nat.le_of_ble_eq_true rfl) (d_openOne_bad (d := d + 2) H hbad)
theorem d_commit_sp {t : Nat} (hb : E.2.2.1 ≤ b) (H : VP b σ h) (hI : VI σ) (ht : t < 16) (ho : (sT σ t).1 = true) (hs : spV σ t ≠ 0) : ∃ h', xG E (d + 4) mD_commit 0 [(0, .ref b), (1, .int (nI t))] [] false h (true, .inl (some (.int (-1))), h') ∧ VP b (stShut σ t) h' ∧ VF b h h' := by
  refine ⟨_, ?_, H.setT ht (false, (sT σ t).2), (VF.rf b h).set _ (by omega) (by omega)⟩
  refine x_aload_n dD_commit_0 rfl ?_
  refine x_iload_n dD_commit_1 rfl ?_
  refine x_callV1 cD_D_openOne dD_commit_2 H.1 (Nat.le_of_ble_eq_true rfl) (Nat.le_of_ble_eq_true rfl) (d_openOne (d := d + 2) H ht ho) ?_
  refine x_astore_n dD_commit_5 (Nat.le_of_ble_eq_true rfl) ?_
  refine x_aload_n dD_commit_6 rfl ?_
  refine x_aload_n dD_commit_7 rfl ?_
  refine x_callV1 cD_D_spoiledCells dD_commit_8 H.1 (Nat.le_of_ble_eq_true rfl) (Nat.le_of_ble_eq_true rfl) (d_spoiledCells (d := d + 1) H hI ht) ?_
  refine x_if_eq 20 dD_commit_11 (by decide) (fun hq => absurd hq hs) (fun _ => ?_)
  refine x_aload_n dD_commit_14 rfl ?_
  refine x_callV0 cD_T_close dD_commit_15 (H.2.2.1 t ht) (Nat.le_of_ble_eq_true rfl) (Nat.le_of_ble_eq_true rfl) (t_close (by omega) (H.2.2.1 t ht)) ?_
  refine x_iconst (v := (-1)) dD_commit_18 (by decide) ?_
  exact x_iret rfl dD_commit_19
theorem d_commit_full {t : Nat} (H : VP b σ h) (hI : VI σ) (ht : t < 16) (ho : (sT σ t).1 = true) (hs : spV σ t = 0) (hf : ¬ (sN σ + pcn (wrV σ t) 16 ≤ 500)) : xG E (d + 4) mD_commit 0 [(0, .ref b), (1, .int (nI t))] [] false h (true, .inr ("java/lang/IllegalStateException", h.2.1), xthr h) := by
  obtain ⟨i1, i2, i3, i4⟩ := hI.2.1 t ht
  have hpl := pcn_le (wrV σ t) 16
  refine x_aload_n dD_commit_0 rfl ?_
  refine x_iload_n dD_commit_1 rfl ?_
  refine x_callV1 cD_D_openOne dD_commit_2 H.1 (Nat.le_of_ble_eq_true rfl) (Nat.le_of_ble_eq_true rfl) (d_openOne (d := d + 2) H ht ho) ?_
  refine x_astore_n dD_commit_5 (Nat.le_of_ble_eq_true rfl) ?_
  refine x_aload_n dD_commit_6 rfl ?_
  refine x_aload_n dD_commit_7 rfl ?_
  refine x_callV1 cD_D_spoiledCells dD_commit_8 H.1 (Nat.le_of_ble_eq_true rfl) (Nat.le_of_ble_eq_true rfl) (d_spoiledCells (d := d + 1) H hI ht) ?_
  refine x_if_eq 20 dD_commit_11 (by decide) (fun _ => ?_) (fun hq => absurd hs hq)
  refine x_aload_n dD_commit_20 rfl ?_
  refine x_callV0 cD_T_written dD_commit_21 (H.2.2.1 t ht) (Nat.le_of_ble_eq_true rfl) (Nat.le_of_ble_eq_true rfl) (t_written i4 (H.2.2.1 t ht) (H.2.2.2.1 t ht)) ?_
  refine x_istore_n dD_commit_24 (Nat.le_of_ble_eq_true rfl) ?_
  refine x_aload_n dD_commit_25 rfl ?_
  refine x_get fD_versions dD_commit_26 H.1 rfl ?_
  refine x_iload_n dD_commit_29 rfl ?_
  refine x_callS1 cD_J_bitCount dD_commit_30 (Nat.le_of_ble_eq_true rfl) (Nat.le_of_ble_eq_true rfl) j_bitCount ?_
  refine x_top (v' := .int (nI (pcn (wrV σ t) 16))) (congrArg Value.int (bc_pcn (wrV_m16 hI ht))) ?_
  refine x_callV1 cD_V_haveRoomFor dD_commit_33 H.2.2.2.2.2.2.1 (Nat.le_of_ble_eq_true rfl) (Nat.le_of_ble_eq_true rfl) (v_room hI.2.2.1 hpl H.2.2.2.2.2.2.1) ?_
  rw [show decide (sN σ + pcn (wrV σ t) 16 ≤ 500) = false from decide_eq_false hf]
  refine x_if_ne 47 dD_commit_36 (by decide) (fun hq => absurd rfl hq) (fun _ => ?_)
  exact x_thrISE rfl rfl dD_commit_39 dD_commit_42 dD_commit_43 dD_commit_46 (Nat.le_of_ble_eq_true rfl)
theorem d_commit_idle {t : Nat} (hb : E.2.2.1 ≤ b) (H : VP b σ h) (hI : VI σ) (ht : t < 16) (ho : (sT σ t).1 = true) (hs : spV σ t = 0) (hf : sN σ + pcn (wrV σ t) 16 ≤ 500) (hw : wrV σ t = 0) : ∃ h', xG E (d + 4) mD_commit 0 [(0, .ref b), (1, .int (nI t))] [] false h (true, .inl (some (.int (nI (sK σ)))), h') ∧ VP b (stShut σ t) h' ∧ VF b h h' := by
  obtain ⟨i1, i2, i3, i4⟩ := hI.2.1 t ht
  have hpl := pcn_le (wrV σ t) 16
  have H' := H.setT ht (false, (sT σ t).2)
  refine ⟨_, ?_, H', (VF.rf b h).set _ (by omega) (by omega)⟩
  refine x_aload_n dD_commit_0 rfl ?_
  refine x_iload_n dD_commit_1 rfl ?_
  refine x_callV1 cD_D_openOne dD_commit_2 H.1 (Nat.le_of_ble_eq_true rfl) (Nat.le_of_ble_eq_true rfl) (d_openOne (d := d + 2) H ht ho) ?_
  refine x_astore_n dD_commit_5 (Nat.le_of_ble_eq_true rfl) ?_
  refine x_aload_n dD_commit_6 rfl ?_
  refine x_aload_n dD_commit_7 rfl ?_
  refine x_callV1 cD_D_spoiledCells dD_commit_8 H.1 (Nat.le_of_ble_eq_true rfl) (Nat.le_of_ble_eq_true rfl) (d_spoiledCells (d := d + 1) H hI ht) ?_
  refine x_if_eq 20 dD_commit_11 (by decide) (fun _ => ?_) (fun hq => absurd hs hq)
  refine x_aload_n dD_commit_20 rfl ?_
  refine x_callV0 cD_T_written dD_commit_21 (H.2.2.1 t ht) (Nat.le_of_ble_eq_true rfl) (Nat.le_of_ble_eq_true rfl) (t_written i4 (H.2.2.1 t ht) (H.2.2.2.1 t ht)) ?_
  refine x_istore_n dD_commit_24 (Nat.le_of_ble_eq_true rfl) ?_
  refine x_aload_n dD_commit_25 rfl ?_
  refine x_get fD_versions dD_commit_26 H.1 rfl ?_
  refine x_iload_n dD_commit_29 rfl ?_
  refine x_callS1 cD_J_bitCount dD_commit_30 (Nat.le_of_ble_eq_true rfl) (Nat.le_of_ble_eq_true rfl) j_bitCount ?_
  refine x_top (v' := .int (nI (pcn (wrV σ t) 16))) (congrArg Value.int (bc_pcn (wrV_m16 hI ht))) ?_
  refine x_callV1 cD_V_haveRoomFor dD_commit_33 H.2.2.2.2.2.2.1 (Nat.le_of_ble_eq_true rfl) (Nat.le_of_ble_eq_true rfl) (v_room hI.2.2.1 hpl H.2.2.2.2.2.2.1) ?_
  rw [show decide (sN σ + pcn (wrV σ t) 16 ≤ 500) = true from decide_eq_true hf]
  refine x_if_ne 47 dD_commit_36 (by decide) (fun _ => ?_) (fun hq => absurd hq (by decide))
  refine x_iload_n dD_commit_47 rfl ?_
  refine x_if_eq 67 dD_commit_48 (by decide) (fun _ => ?_) (fun hq => absurd hw hq)
  refine x_aload_n dD_commit_67 rfl ?_
  refine x_callV0 cD_T_close dD_commit_68 (H.2.2.1 t ht) (Nat.le_of_ble_eq_true rfl) (Nat.le_of_ble_eq_true rfl) (t_close (by omega) (H.2.2.1 t ht)) ?_
  refine x_aload_n dD_commit_71 rfl ?_
  refine x_get fD_clock dD_commit_72 H'.1 rfl ?_
  exact x_iret rfl dD_commit_75
theorem d_commit_ok {t : Nat} (hb : E.2.2.1 ≤ b) (H : VP b σ h) (hI : VI σ) (hk : sK σ < 100000) (ht : t < 16) (ho : (sT σ t).1 = true) (hs : spV σ t = 0) (hf : sN σ + pcn (wrV σ t) 16 ≤ 500) (hw : wrV σ t ≠ 0) : ∃ h', xG E (d + 4) mD_commit 0 [(0, .ref b), (1, .int (nI t))] [] false h (true, .inl (some (.int (nI (sK σ + 1)))), h') ∧ VP b (stShut (stKept σ t) t) h' ∧ VF b h h' := by
  obtain ⟨i1, i2, i3, i4⟩ := hI.2.1 t ht
  have hpl := pcn_le (wrV σ t) 16
  have H1 := H.setK (sK σ + 1)
  have hI1 : VI (stClk σ (sK σ + 1)) := ⟨(show sK σ + 1 ≤ 100000 by omega), fun u hu => ⟨Nat.le_succ_of_le (hI.2.1 u hu).1, (hI.2.1 u hu).2⟩, hI.2.2.1, fun i hi => ⟨(hI.2.2.2.1 i hi).1, Nat.le_succ_of_le (hI.2.2.2.1 i hi).2⟩, hI.2.2.2.2.1, hI.2.2.2.2.2⟩
  have H2 := H1.setV (kv (sK σ + 1) (wrV σ t) (valV σ t) (sN σ) (sA σ) 16).1 (kv (sK σ + 1) (wrV σ t) (valV σ t) (sN σ) (sA σ) 16).2
  have H3 := H2.setT ht (false, (sT σ t).2)
  refine ⟨_, ?_, H3, (((VF.rf b h).set _ (by omega) (by omega)).setV _ _).set _ (by omega) (by omega)⟩
  refine x_aload_n dD_commit_0 rfl ?_
  refine x_iload_n dD_commit_1 rfl ?_
  refine x_callV1 cD_D_openOne dD_commit_2 H.1 (Nat.le_of_ble_eq_true rfl) (Nat.le_of_ble_eq_true rfl) (d_openOne (d := d + 2) H ht ho) ?_
  refine x_astore_n dD_commit_5 (Nat.le_of_ble_eq_true rfl) ?_
  refine x_aload_n dD_commit_6 rfl ?_
  refine x_aload_n dD_commit_7 rfl ?_
  refine x_callV1 cD_D_spoiledCells dD_commit_8 H.1 (Nat.le_of_ble_eq_true rfl) (Nat.le_of_ble_eq_true rfl) (d_spoiledCells (d := d + 1) H hI ht) ?_
  refine x_if_eq 20 dD_commit_11 (by decide) (fun _ => ?_) (fun hq => absurd hs hq)
  refine x_aload_n dD_commit_20 rfl ?_
  refine x_callV0 cD_T_written dD_commit_21 (H.2.2.1 t ht) (Nat.le_of_ble_eq_true rfl) (Nat.le_of_ble_eq_true rfl) (t_written i4 (H.2.2.1 t ht) (H.2.2.2.1 t ht)) ?_
  refine x_istore_n dD_commit_24 (Nat.le_of_ble_eq_true rfl) ?_
  refine x_aload_n dD_commit_25 rfl ?_
  refine x_get fD_versions dD_commit_26 H.1 rfl ?_
  refine x_iload_n dD_commit_29 rfl ?_
  refine x_callS1 cD_J_bitCount dD_commit_30 (Nat.le_of_ble_eq_true rfl) (Nat.le_of_ble_eq_true rfl) j_bitCount ?_
  refine x_top (v' := .int (nI (pcn (wrV σ t) 16))) (congrArg Value.int (bc_pcn (wrV_m16 hI ht))) ?_
  refine x_callV1 cD_V_haveRoomFor dD_commit_33 H.2.2.2.2.2.2.1 (Nat.le_of_ble_eq_true rfl) (Nat.le_of_ble_eq_true rfl) (v_room hI.2.2.1 hpl H.2.2.2.2.2.2.1) ?_
  rw [show decide (sN σ + pcn (wrV σ t) 16 ≤ 500) = true from decide_eq_true hf]
  refine x_if_ne 47 dD_commit_36 (by decide) (fun _ => ?_) (fun hq => absurd hq (by decide))
  refine x_iload_n dD_commit_47 rfl ?_
  refine x_if_eq 67 dD_commit_48 (by decide) (fun hq => absurd hq hw) (fun _ => ?_)
  refine x_aload_n dD_commit_51 rfl ?_
  refine x_dup dD_commit_52 rfl ?_
  refine x_get fD_clock dD_commit_53 H.1 rfl ?_
  refine x_iconst (v := (nI 1)) dD_commit_56 (by decide) ?_
  refine x_iadd dD_commit_57 ?_
  refine x_top (v' := .int (nI (sK σ + 1))) (by rw [nI_add]) ?_
  refine x_put fD_clock dD_commit_58 H.1 hb rfl rfl (Nat.le_of_ble_eq_true rfl) ?_
  refine x_aload_n dD_commit_61 rfl ?_
  refine x_aload_n dD_commit_62 rfl ?_
  refine x_iload_n dD_commit_63 rfl ?_
  refine x_callV2 cD_D_keepVersions dD_commit_64 H1.1 (Nat.le_of_ble_eq_true rfl) (Nat.le_of_ble_eq_true rfl) (d_kv (σ := stClk σ (sK σ + 1)) hb H1 hI1 ht hf) ?_
  refine x_aload_n dD_commit_67 rfl ?_
  refine x_callV0 cD_T_close dD_commit_68 (H2.2.2.1 t ht) (Nat.le_of_ble_eq_true rfl) (Nat.le_of_ble_eq_true rfl) (t_close (by omega) (H2.2.2.1 t ht)) ?_
  refine x_aload_n dD_commit_71 rfl ?_
  refine x_get fD_clock dD_commit_72 H3.1 rfl ?_
  exact x_iret rfl dD_commit_75
theorem d_drop_bad {t : Int32} (H : VP b σ h) (hbad : bad σ t) : xG E (d + 4) mD_drop 0 [(0, .ref b), (1, .int t)] [] false h (true, .inr ("java/util/NoSuchElementException", h.2.1), xthr h) := by
  refine x_aload_n dD_drop_0 rfl ?_
  refine x_iload_n dD_drop_1 rfl ?_
  exact x_thrV1 rfl cD_D_openOne dD_drop_2 H.1 (Nat.le_of_ble_eq_true rfl) (Nat.le_of_ble_eq_true rfl) (d_openOne_bad (d := d + 2) H hbad)
theorem d_drop_ok {t : Nat} (hb : E.2.2.1 ≤ b) (H : VP b σ h) (hI : VI σ) (ht : t < 16) (ho : (sT σ t).1 = true) : ∃ h', xG E (d + 4) mD_drop 0 [(0, .ref b), (1, .int (nI t))] [] false h (true, .inl (some (.int (nI (pcn (wrV σ t) 16)))), h') ∧ VP b (stShut σ t) h' ∧ VF b h h' := by
  obtain ⟨i1, i2, i3, i4⟩ := hI.2.1 t ht
  refine ⟨_, ?_, H.setT ht (false, (sT σ t).2), (VF.rf b h).set _ (by omega) (by omega)⟩
  refine x_aload_n dD_drop_0 rfl ?_
  refine x_iload_n dD_drop_1 rfl ?_
  refine x_callV1 cD_D_openOne dD_drop_2 H.1 (Nat.le_of_ble_eq_true rfl) (Nat.le_of_ble_eq_true rfl) (d_openOne (d := d + 2) H ht ho) ?_
  refine x_astore_n dD_drop_5 (Nat.le_of_ble_eq_true rfl) ?_
  refine x_aload_n dD_drop_6 rfl ?_
  refine x_callV0 cD_T_close dD_drop_7 (H.2.2.1 t ht) (Nat.le_of_ble_eq_true rfl) (Nat.le_of_ble_eq_true rfl) (t_close (by omega) (H.2.2.1 t ht)) ?_
  refine x_aload_n dD_drop_10 rfl ?_
  refine x_callV0 cD_T_written dD_drop_11 (xset_eq _ _ _) (Nat.le_of_ble_eq_true rfl) (Nat.le_of_ble_eq_true rfl) (t_written i4 (xset_eq _ _ _) ((xset_ne _ _ (by omega)).trans (H.2.2.2.1 t ht))) ?_
  refine x_callS1 cD_J_bitCount dD_drop_14 (Nat.le_of_ble_eq_true rfl) (Nat.le_of_ble_eq_true rfl) j_bitCount ?_
  refine x_top (v' := .int (nI (pcn (wrV σ t) 16))) (congrArg Value.int (bc_pcn (wrV_m16 hI ht))) ?_
  exact x_iret rfl dD_drop_17
theorem d_spoiled_bad {t : Int32} (H : VP b σ h) (hbad : bad σ t) : xG E (d + 4) mD_spoiled 0 [(0, .ref b), (1, .int t)] [] false h (true, .inr ("java/util/NoSuchElementException", h.2.1), xthr h) := by
  refine x_aload_n dD_spoiled_0 rfl ?_
  refine x_aload_n dD_spoiled_1 rfl ?_
  refine x_iload_n dD_spoiled_2 rfl ?_
  exact x_thrV1 rfl cD_D_openOne dD_spoiled_3 H.1 (Nat.le_of_ble_eq_true rfl) (Nat.le_of_ble_eq_true rfl) (d_openOne_bad (d := d + 2) H hbad)
theorem d_spoiled_ok {t : Nat} (H : VP b σ h) (hI : VI σ) (ht : t < 16) (ho : (sT σ t).1 = true) : xG E (d + 4) mD_spoiled 0 [(0, .ref b), (1, .int (nI t))] [] false h (false, .inl (some (.int (xb (decide (spV σ t ≠ 0))))), h) := by
  refine x_aload_n dD_spoiled_0 rfl ?_
  refine x_aload_n dD_spoiled_1 rfl ?_
  refine x_iload_n dD_spoiled_2 rfl ?_
  refine x_callV1 cD_D_openOne dD_spoiled_3 H.1 (Nat.le_of_ble_eq_true rfl) (Nat.le_of_ble_eq_true rfl) (d_openOne (d := d + 2) H ht ho) ?_
  refine x_callV1 cD_D_spoiledCells dD_spoiled_6 H.1 (Nat.le_of_ble_eq_true rfl) (Nat.le_of_ble_eq_true rfl) (d_spoiledCells (d := d + 1) H hI ht) ?_
  refine x_if_eq 16 dD_spoiled_9 (by decide) (fun hq => ?_) (fun hq => ?_)
  · rw [show decide (spV σ t ≠ 0) = false from decide_eq_false (fun z => z hq)]
    refine x_iconst (v := (xb false)) dD_spoiled_16 (by decide) ?_
    exact x_zret (xb_n _) rfl dD_spoiled_17
  · rw [show decide (spV σ t ≠ 0) = true from decide_eq_true hq]
    refine x_iconst (v := (xb true)) dD_spoiled_12 (by decide) ?_
    refine x_goto 17 dD_spoiled_13 (by decide) ?_
    exact x_zret (xb_n _) rfl dD_spoiled_17
theorem d_meets_bad1 {s t : Int32} (H : VP b σ h) (hbad : bad σ s) : xG E (d + 4) mD_meets 0 [(0, .ref b), (1, .int s), (2, .int t)] [] false h (true, .inr ("java/util/NoSuchElementException", h.2.1), xthr h) := by
  refine x_aload_n dD_meets_0 rfl ?_
  refine x_iload_n dD_meets_1 rfl ?_
  exact x_thrV1 rfl cD_D_openOne dD_meets_2 H.1 (Nat.le_of_ble_eq_true rfl) (Nat.le_of_ble_eq_true rfl) (d_openOne_bad (d := d + 2) H hbad)
theorem d_meets_bad2 {s : Nat} {t : Int32} (H : VP b σ h) (hs : s < 16) (ho : (sT σ s).1 = true) (hbad : bad σ t) : xG E (d + 4) mD_meets 0 [(0, .ref b), (1, .int (nI s)), (2, .int t)] [] false h (true, .inr ("java/util/NoSuchElementException", h.2.1), xthr h) := by
  refine x_aload_n dD_meets_0 rfl ?_
  refine x_iload_n dD_meets_1 rfl ?_
  refine x_callV1 cD_D_openOne dD_meets_2 H.1 (Nat.le_of_ble_eq_true rfl) (Nat.le_of_ble_eq_true rfl) (d_openOne (d := d + 2) H hs ho) ?_
  refine x_astore_n dD_meets_5 (Nat.le_of_ble_eq_true rfl) ?_
  refine x_aload_n dD_meets_6 rfl ?_
  refine x_iload_n dD_meets_7 rfl ?_
  exact x_thrV1 rfl cD_D_openOne dD_meets_8 H.1 (Nat.le_of_ble_eq_true rfl) (Nat.le_of_ble_eq_true rfl) (d_openOne_bad (d := d + 2) H hbad)
theorem d_meets_same {s : Nat} (H : VP b σ h) (hs : s < 16) (ho : (sT σ s).1 = true) : xG E (d + 4) mD_meets 0 [(0, .ref b), (1, .int (nI s)), (2, .int (nI s))] [] false h (false, .inl (some (.int (xb false))), h) := by
  refine x_aload_n dD_meets_0 rfl ?_
  refine x_iload_n dD_meets_1 rfl ?_
  refine x_callV1 cD_D_openOne dD_meets_2 H.1 (Nat.le_of_ble_eq_true rfl) (Nat.le_of_ble_eq_true rfl) (d_openOne (d := d + 2) H hs ho) ?_
  refine x_astore_n dD_meets_5 (Nat.le_of_ble_eq_true rfl) ?_
  refine x_aload_n dD_meets_6 rfl ?_
  refine x_iload_n dD_meets_7 rfl ?_
  refine x_callV1 cD_D_openOne dD_meets_8 H.1 (Nat.le_of_ble_eq_true rfl) (Nat.le_of_ble_eq_true rfl) (d_openOne (d := d + 2) H hs ho) ?_
  refine x_astore dD_meets_11 (Nat.le_of_ble_eq_true rfl) ?_
  refine x_iload_n dD_meets_13 rfl ?_
  refine x_iload_n dD_meets_14 rfl ?_
  refine x_icmp_ne 20 dD_meets_15 (by decide) (fun hq => absurd rfl hq) (fun _ => ?_)
  refine x_iconst (v := (xb false)) dD_meets_18 (by decide) ?_
  exact x_zret (xb_n _) rfl dD_meets_19
def meV (σ : vS) (s t : Nat) : Int32 := (wrV σ s &&& heV σ t) &&& (spV σ t ^^^ (-1))
theorem d_meets_ok {s t : Nat} (H : VP b σ h) (hI : VI σ) (hs : s < 16) (ho : (sT σ s).1 = true) (ht : t < 16) (ho2 : (sT σ t).1 = true) (hne : s ≠ t) : xG E (d + 4) mD_meets 0 [(0, .ref b), (1, .int (nI s)), (2, .int (nI t))] [] false h (false, .inl (some (.int (xb (decide (meV σ s t ≠ 0))))), h) := by
  obtain ⟨i1, i2, i3, i4⟩ := hI.2.1 s hs
  obtain ⟨j1, j2, j3, j4⟩ := hI.2.1 t ht
  refine x_aload_n dD_meets_0 rfl ?_
  refine x_iload_n dD_meets_1 rfl ?_
  refine x_callV1 cD_D_openOne dD_meets_2 H.1 (Nat.le_of_ble_eq_true rfl) (Nat.le_of_ble_eq_true rfl) (d_openOne (d := d + 2) H hs ho) ?_
  refine x_astore_n dD_meets_5 (Nat.le_of_ble_eq_true rfl) ?_
  refine x_aload_n dD_meets_6 rfl ?_
  refine x_iload_n dD_meets_7 rfl ?_
  refine x_callV1 cD_D_openOne dD_meets_8 H.1 (Nat.le_of_ble_eq_true rfl) (Nat.le_of_ble_eq_true rfl) (d_openOne (d := d + 2) H ht ho2) ?_
  refine x_astore dD_meets_11 (Nat.le_of_ble_eq_true rfl) ?_
  refine x_iload_n dD_meets_13 rfl ?_
  refine x_iload_n dD_meets_14 rfl ?_
  refine x_icmp_ne 20 dD_meets_15 (by decide) (fun _ => ?_) (fun hq => absurd ((nI_eq (by omega) (by omega)).mp hq) hne)
  refine x_aload_n dD_meets_20 rfl ?_
  refine x_callV0 cD_T_written dD_meets_21 (H.2.2.1 s hs) (Nat.le_of_ble_eq_true rfl) (Nat.le_of_ble_eq_true rfl) (t_written i4 (H.2.2.1 s hs) (H.2.2.2.1 s hs)) ?_
  refine x_aload dD_meets_24 rfl ?_
  refine x_callV0 cD_T_heeded dD_meets_26 (H.2.2.1 t ht) (Nat.le_of_ble_eq_true rfl) (Nat.le_of_ble_eq_true rfl) (t_heeded (d := d + 2) j4 j2 (H.2.2.1 t ht) (H.2.2.2.1 t ht)) ?_
  refine x_iand dD_meets_29 ?_
  refine x_istore dD_meets_30 (Nat.le_of_ble_eq_true rfl) ?_
  refine x_iload dD_meets_32 rfl ?_
  refine x_aload_n dD_meets_34 rfl ?_
  refine x_aload dD_meets_35 rfl ?_
  refine x_callV1 cD_D_spoiledCells dD_meets_37 H.1 (Nat.le_of_ble_eq_true rfl) (Nat.le_of_ble_eq_true rfl) (d_spoiledCells (d := d + 1) H hI ht) ?_
  refine x_iconst (v := (-1)) dD_meets_40 (by decide) ?_
  refine x_ixor dD_meets_41 ?_
  refine x_iand dD_meets_42 ?_
  refine x_top (v' := .int (meV σ s t)) rfl ?_
  refine x_if_eq 50 dD_meets_43 (by decide) (fun hq => ?_) (fun hq => ?_)
  · rw [show decide (meV σ s t ≠ 0) = false from decide_eq_false (fun z => z hq)]
    refine x_iconst (v := (xb false)) dD_meets_50 (by decide) ?_
    exact x_zret (xb_n _) rfl dD_meets_51
  · rw [show decide (meV σ s t ≠ 0) = true from decide_eq_true hq]
    refine x_iconst (v := (xb true)) dD_meets_46 (by decide) ?_
    refine x_goto 51 dD_meets_47 (by decide) ?_
    exact x_zret (xb_n _) rfl dD_meets_51
theorem d_past_badc {c k : Int32} (hc : badc c) : xG E (d + 4) mD_past 0 [(0, .ref b), (1, .int c), (2, .int k)] [] false h (true, .inr ("java/util/NoSuchElementException", h.2.1), xthr h) := by
  refine x_iload_n dD_past_0 rfl ?_
  exact x_thrS1 rfl cD_D_requireCell dD_past_1 (Nat.le_of_ble_eq_true rfl) (Nat.le_of_ble_eq_true rfl) (d_requireCell_bad (d := d + 2) hc)
theorem d_past_badk {c : Nat} {k : Int32} (H : VP b σ h) (hc : c < 16) (hk : k < 0 ∨ nI (sK σ) < k) : xG E (d + 4) mD_past 0 [(0, .ref b), (1, .int (nI c)), (2, .int k)] [] false h (true, .inr ("java/util/NoSuchElementException", h.2.1), xthr h) := by
  refine x_iload_n dD_past_0 rfl ?_
  refine x_callS1 cD_D_requireCell dD_past_1 (Nat.le_of_ble_eq_true rfl) (Nat.le_of_ble_eq_true rfl) (d_requireCell hc) ?_
  refine x_iload_n dD_past_4 rfl ?_
  refine x_if_lt 28 dD_past_5 (by decide) (fun _ => x_thrNSE rfl rfl dD_past_28 dD_past_31 dD_past_32 dD_past_35 (Nat.le_of_ble_eq_true rfl)) (fun h0 => ?_)
  refine x_iload_n dD_past_8 rfl ?_
  refine x_aload_n dD_past_9 rfl ?_
  refine x_get fD_clock dD_past_10 H.1 rfl ?_
  refine x_icmp_gt 28 dD_past_13 (by decide) (fun _ => x_thrNSE rfl rfl dD_past_28 dD_past_31 dD_past_32 dD_past_35 (Nat.le_of_ble_eq_true rfl)) (fun h1 => absurd (hk.resolve_left h0) h1)
theorem d_past_none {c k : Nat} (H : VP b σ h) (hI : VI σ) (hc : c < 16) (hk : k ≤ sK σ) (hv : vix (sA σ) c k (sN σ) = 0) : xG E (d + 4) mD_past 0 [(0, .ref b), (1, .int (nI c)), (2, .int (nI k))] [] false h (true, .inr ("java/util/NoSuchElementException", h.2.1), xthr h) := by
  have hk2 := hI.1
  refine x_iload_n dD_past_0 rfl ?_
  refine x_callS1 cD_D_requireCell dD_past_1 (Nat.le_of_ble_eq_true rfl) (Nat.le_of_ble_eq_true rfl) (d_requireCell hc) ?_
  refine x_iload_n dD_past_4 rfl ?_
  refine x_if_lt 28 dD_past_5 (by decide) (fun hq => absurd hq (nI_pos (by omega))) (fun _ => ?_)
  refine x_iload_n dD_past_8 rfl ?_
  refine x_aload_n dD_past_9 rfl ?_
  refine x_get fD_clock dD_past_10 H.1 rfl ?_
  refine x_icmp_gt 28 dD_past_13 (by decide) (fun hq => absurd hq (nI_nlt hk (by omega))) (fun _ => ?_)
  refine x_aload_n dD_past_16 rfl ?_
  refine x_get fD_versions dD_past_17 H.1 rfl ?_
  refine x_iload_n dD_past_20 rfl ?_
  refine x_iload_n dD_past_21 rfl ?_
  refine x_callV2 cD_V_know dD_past_22 H.2.2.2.2.2.2.1 (Nat.le_of_ble_eq_true rfl) (Nat.le_of_ble_eq_true rfl) (v_know (d := d + 2) hI.2.2.1 (by omega) (by omega) hI.ok H.2.2.2.2.2.2.1 H.2.2.2.2.2.2.2.1 H.2.2.2.2.2.2.2.2.1) ?_
  rw [show decide (vix (sA σ) c k (sN σ) ≠ 0) = false from decide_eq_false (fun z => z hv)]
  refine x_if_ne 36 dD_past_25 (by decide) (fun hq => absurd rfl hq) (fun _ => ?_)
  exact x_thrNSE rfl rfl dD_past_28 dD_past_31 dD_past_32 dD_past_35 (Nat.le_of_ble_eq_true rfl)
theorem d_past_ok {c k : Nat} (H : VP b σ h) (hI : VI σ) (hc : c < 16) (hk : k ≤ sK σ) (hv : vix (sA σ) c k (sN σ) ≠ 0) : xG E (d + 4) mD_past 0 [(0, .ref b), (1, .int (nI c)), (2, .int (nI k))] [] false h (false, .inl (some (.long ((sA σ).2.2 (vix (sA σ) c k (sN σ) - 1)))), h) := by
  have hk2 := hI.1
  refine x_iload_n dD_past_0 rfl ?_
  refine x_callS1 cD_D_requireCell dD_past_1 (Nat.le_of_ble_eq_true rfl) (Nat.le_of_ble_eq_true rfl) (d_requireCell hc) ?_
  refine x_iload_n dD_past_4 rfl ?_
  refine x_if_lt 28 dD_past_5 (by decide) (fun hq => absurd hq (nI_pos (by omega))) (fun _ => ?_)
  refine x_iload_n dD_past_8 rfl ?_
  refine x_aload_n dD_past_9 rfl ?_
  refine x_get fD_clock dD_past_10 H.1 rfl ?_
  refine x_icmp_gt 28 dD_past_13 (by decide) (fun hq => absurd hq (nI_nlt hk (by omega))) (fun _ => ?_)
  refine x_aload_n dD_past_16 rfl ?_
  refine x_get fD_versions dD_past_17 H.1 rfl ?_
  refine x_iload_n dD_past_20 rfl ?_
  refine x_iload_n dD_past_21 rfl ?_
  refine x_callV2 cD_V_know dD_past_22 H.2.2.2.2.2.2.1 (Nat.le_of_ble_eq_true rfl) (Nat.le_of_ble_eq_true rfl) (v_know (d := d + 2) hI.2.2.1 (by omega) (by omega) hI.ok H.2.2.2.2.2.2.1 H.2.2.2.2.2.2.2.1 H.2.2.2.2.2.2.2.2.1) ?_
  rw [show decide (vix (sA σ) c k (sN σ) ≠ 0) = true from decide_eq_true hv]
  refine x_if_ne 36 dD_past_25 (by decide) (fun _ => ?_) (fun hq => absurd hq (by decide))
  have e : (sA σ).2.2 (vix (sA σ) c k (sN σ) - 1) = if vix (sA σ) c k (sN σ) = 0 then 0 else (sA σ).2.2 (vix (sA σ) c k (sN σ) - 1) := (if_neg hv).symm
  rw [e]
  refine x_aload_n dD_past_36 rfl ?_
  refine x_get fD_versions dD_past_37 H.1 rfl ?_
  refine x_iload_n dD_past_40 rfl ?_
  refine x_iload_n dD_past_41 rfl ?_
  refine x_callV2 cD_V_valueAt dD_past_42 H.2.2.2.2.2.2.1 (Nat.le_of_ble_eq_true rfl) (Nat.le_of_ble_eq_true rfl) (v_valueAt (d := d + 2) hI.2.2.1 (by omega) (by omega) hI.ok H.2.2.2.2.2.2.1 H.2.2.2.2.2.2.2.1 H.2.2.2.2.2.2.2.2.1 H.2.2.2.2.2.2.2.2.2) ?_
  exact x_lret rfl dD_past_45
def stForget (σ : vS) : vS := stVer σ (sN σ - (rcA (flo (sK σ) (sT σ) 16) (sN σ) 0 (sN σ) (sA σ)).1) (rdA (rcA (flo (sK σ) (sT σ) 16) (sN σ) 0 (sN σ) (sA σ)).1 (sN σ - (rcA (flo (sK σ) (sT σ) 16) (sN σ) 0 (sN σ) (sA σ)).1) (rcA (flo (sK σ) (sT σ) 16) (sN σ) 0 (sN σ) (sA σ)).1 (rcA (flo (sK σ) (sT σ) 16) (sN σ) 0 (sN σ) (sA σ)).2)
theorem d_forget (hb : E.2.2.1 ≤ b) (H : VP b σ h) (hI : VI σ) : ∃ h', xG E (d + 4) mD_forget 0 [(0, .ref b)] [] false h (true, .inl (some (.int (nI (rcA (flo (sK σ) (sT σ) 16) (sN σ) 0 (sN σ) (sA σ)).1))), h') ∧ VP b (stForget σ) h' ∧ VF b h h' := by
  have hfl := flo_le (sK σ) (sT σ) 16
  have hk := hI.1
  refine ⟨_, ?_, H.setV _ _, (VF.rf b h).setV _ _⟩
  refine x_aload_n dD_forget_0 rfl ?_
  refine x_get fD_versions dD_forget_1 H.1 rfl ?_
  refine x_aload_n dD_forget_4 rfl ?_
  refine x_callV0 cD_D_floor dD_forget_5 H.1 (Nat.le_of_ble_eq_true rfl) (Nat.le_of_ble_eq_true rfl) (d_floor (d := d + 2) H hI) ?_
  refine x_callV1 cD_V_removeCovered dD_forget_8 H.2.2.2.2.2.2.1 (Nat.le_of_ble_eq_true rfl) (Nat.le_of_ble_eq_true rfl) (v_removeCovered (d := d + 2) (by omega) hI.2.2.1 (by omega) hI.ok H.2.2.2.2.2.2.1 H.2.2.2.2.2.2.2.1 H.2.2.2.2.2.2.2.2.1 H.2.2.2.2.2.2.2.2.2) ?_
  exact x_iret rfl dD_forget_11
theorem d_about_bad {t w : Int32} (H : VP b σ h) (hbad : bad σ t) : xG E (d + 4) mD_about 0 [(0, .ref b), (1, .int t), (2, .int w)] [] false h (true, .inr ("java/util/NoSuchElementException", h.2.1), xthr h) := by
  refine x_aload_n dD_about_0 rfl ?_
  refine x_iload_n dD_about_1 rfl ?_
  exact x_thrV1 rfl cD_D_openOne dD_about_2 H.1 (Nat.le_of_ble_eq_true rfl) (Nat.le_of_ble_eq_true rfl) (d_openOne_bad (d := d + 2) H hbad)
theorem d_about_badw {t : Nat} {w : Int32} (H : VP b σ h) (ht : t < 16) (ho : (sT σ t).1 = true) (hw : w.toInt < 0 ∨ 5 < w.toInt) : xG E (d + 4) mD_about 0 [(0, .ref b), (1, .int (nI t)), (2, .int w)] [] false h (true, .inr ("java/lang/IllegalArgumentException", h.2.1), xthr h) := by
  refine x_aload_n dD_about_0 rfl ?_
  refine x_iload_n dD_about_1 rfl ?_
  refine x_callV1 cD_D_openOne dD_about_2 H.1 (Nat.le_of_ble_eq_true rfl) (Nat.le_of_ble_eq_true rfl) (d_openOne (d := d + 2) H ht ho) ?_
  refine x_astore_n dD_about_5 (Nat.le_of_ble_eq_true rfl) ?_
  refine x_iload_n dD_about_6 rfl ?_
  refine x_tableOut 84 dD_about_7 hw (by decide) ?_
  exact x_thrIAE rfl rfl dD_about_84 dD_about_87 dD_about_88 dD_about_91 (Nat.le_of_ble_eq_true rfl)
/-- what about(t, w) answers -/
def abV (σ : vS) (t : Nat) : Nat → Nat
  | 0 => (sT σ t).2.1
  | 1 => (sT σ t).2.2.1
  | 2 => (sT σ t).2.2.2.1
  | 3 => pcn (wrV σ t) 16
  | 4 => pcn (sT σ t).2.2.2.2 16
  | _ => pcn (spV σ t) 16
theorem d_about_ok {t w : Nat} (H : VP b σ h) (hI : VI σ) (ht : t < 16) (ho : (sT σ t).1 = true) (hw : w ≤ 5) : xG E (d + 4) mD_about 0 [(0, .ref b), (1, .int (nI t)), (2, .int (nI w))] [] false h (false, .inl (some (.int (nI (abV σ t w)))), h) := by
  obtain ⟨i1, i2, i3, i4⟩ := hI.2.1 t ht
  refine x_aload_n dD_about_0 rfl ?_
  refine x_iload_n dD_about_1 rfl ?_
  refine x_callV1 cD_D_openOne dD_about_2 H.1 (Nat.le_of_ble_eq_true rfl) (Nat.le_of_ble_eq_true rfl) (d_openOne (d := d + 2) H ht ho) ?_
  refine x_astore_n dD_about_5 (Nat.le_of_ble_eq_true rfl) ?_
  refine x_iload_n dD_about_6 rfl ?_
  rcases (show w = 0 ∨ w = 1 ∨ w = 2 ∨ w = 3 ∨ w = 4 ∨ w = 5 by omega) with rfl | rfl | rfl | rfl | rfl | rfl
  · refine x_tableIn 44 dD_about_7 (by decide) (by decide) rfl (by decide) ?_
    refine x_aload_n dD_about_44 rfl ?_
    refine x_callV0 cD_T_start dD_about_45 (H.2.2.1 t ht) (Nat.le_of_ble_eq_true rfl) (Nat.le_of_ble_eq_true rfl) (t_start (H.2.2.1 t ht)) ?_
    exact x_iret rfl dD_about_48
  · refine x_tableIn 49 dD_about_7 (by decide) (by decide) rfl (by decide) ?_
    refine x_aload_n dD_about_49 rfl ?_
    refine x_callV0 cD_T_kind dD_about_50 (H.2.2.1 t ht) (Nat.le_of_ble_eq_true rfl) (Nat.le_of_ble_eq_true rfl) (t_kind (H.2.2.1 t ht)) ?_
    exact x_iret rfl dD_about_53
  · refine x_tableIn 54 dD_about_7 (by decide) (by decide) rfl (by decide) ?_
    refine x_aload_n dD_about_54 rfl ?_
    refine x_callV0 cD_T_layers dD_about_55 (H.2.2.1 t ht) (Nat.le_of_ble_eq_true rfl) (Nat.le_of_ble_eq_true rfl) (t_layers (H.2.2.1 t ht)) ?_
    exact x_iret rfl dD_about_58
  · refine x_tableIn 59 dD_about_7 (by decide) (by decide) rfl (by decide) ?_
    refine x_aload_n dD_about_59 rfl ?_
    refine x_callV0 cD_T_written dD_about_60 (H.2.2.1 t ht) (Nat.le_of_ble_eq_true rfl) (Nat.le_of_ble_eq_true rfl) (t_written i4 (H.2.2.1 t ht) (H.2.2.2.1 t ht)) ?_
    refine x_callS1 cD_J_bitCount dD_about_63 (Nat.le_of_ble_eq_true rfl) (Nat.le_of_ble_eq_true rfl) j_bitCount ?_
    refine x_top (v' := .int (nI (pcn (wrV σ t) 16))) (congrArg Value.int (bc_pcn (wrV_m16 hI ht))) ?_
    exact x_iret rfl dD_about_66
  · refine x_tableIn 67 dD_about_7 (by decide) (by decide) rfl (by decide) ?_
    refine x_aload_n dD_about_67 rfl ?_
    refine x_callV0 cD_T_seen dD_about_68 (H.2.2.1 t ht) (Nat.le_of_ble_eq_true rfl) (Nat.le_of_ble_eq_true rfl) (t_seen (H.2.2.1 t ht)) ?_
    refine x_callS1 cD_J_bitCount dD_about_71 (Nat.le_of_ble_eq_true rfl) (Nat.le_of_ble_eq_true rfl) j_bitCount ?_
    refine x_top (v' := .int (nI (pcn (sT σ t).2.2.2.2 16))) (congrArg Value.int (bc_pcn (hI.2.2.2.2.1 t ht))) ?_
    exact x_iret rfl dD_about_74
  · refine x_tableIn 75 dD_about_7 (by decide) (by decide) rfl (by decide) ?_
    refine x_aload_n dD_about_75 rfl ?_
    refine x_aload_n dD_about_76 rfl ?_
    refine x_callV1 cD_D_spoiledCells dD_about_77 H.1 (Nat.le_of_ble_eq_true rfl) (Nat.le_of_ble_eq_true rfl) (d_spoiledCells (d := d + 1) H hI ht) ?_
    refine x_callS1 cD_J_bitCount dD_about_80 (Nat.le_of_ble_eq_true rfl) (Nat.le_of_ble_eq_true rfl) j_bitCount ?_
    refine x_top (v' := .int (nI (pcn (spV σ t) 16))) (congrArg Value.int (bc_pcn (spV_m16 hI ht))) ?_
    exact x_iret rfl dD_about_83
theorem d_count_bad {w : Int32} (hw : w.toInt < 0 ∨ 3 < w.toInt) : xG E (d + 4) mD_count 0 [(0, .ref b), (1, .int w)] [] false h (false, .inl (some (.int (-1))), h) := by
  refine x_iload_n dD_count_0 rfl ?_
  refine x_tableOut 55 dD_count_1 hw (by decide) ?_
  refine x_iconst (v := (-1)) dD_count_55 (by decide) ?_
  exact x_iret rfl dD_count_56
def coV (σ : vS) : Nat → Nat
  | 0 => sK σ
  | 1 => hmo (sT σ) 16
  | 2 => sN σ
  | _ => flo (sK σ) (sT σ) 16
theorem d_count_ok {w : Nat} (H : VP b σ h) (hI : VI σ) (hw : w ≤ 3) : xG E (d + 4) mD_count 0 [(0, .ref b), (1, .int (nI w))] [] false h (false, .inl (some (.int (nI (coV σ w)))), h) := by
  refine x_iload_n dD_count_0 rfl ?_
  rcases (show w = 0 ∨ w = 1 ∨ w = 2 ∨ w = 3 by omega) with rfl | rfl | rfl | rfl
  · refine x_tableIn 32 dD_count_1 (by decide) (by decide) rfl (by decide) ?_
    refine x_aload_n dD_count_32 rfl ?_
    refine x_get fD_clock dD_count_33 H.1 rfl ?_
    exact x_iret rfl dD_count_36
  · refine x_tableIn 37 dD_count_1 (by decide) (by decide) rfl (by decide) ?_
    refine x_aload_n dD_count_37 rfl ?_
    refine x_callV0 cD_D_howManyOpen dD_count_38 H.1 (Nat.le_of_ble_eq_true rfl) (Nat.le_of_ble_eq_true rfl) (d_hmo (d := d + 2) H) ?_
    exact x_iret rfl dD_count_41
  · refine x_tableIn 42 dD_count_1 (by decide) (by decide) rfl (by decide) ?_
    refine x_aload_n dD_count_42 rfl ?_
    refine x_get fD_versions dD_count_43 H.1 rfl ?_
    refine x_callV0 cD_V_size dD_count_46 H.2.2.2.2.2.2.1 (Nat.le_of_ble_eq_true rfl) (Nat.le_of_ble_eq_true rfl) (v_size H.2.2.2.2.2.2.1) ?_
    exact x_iret rfl dD_count_49
  · refine x_tableIn 50 dD_count_1 (by decide) (by decide) rfl (by decide) ?_
    refine x_aload_n dD_count_50 rfl ?_
    refine x_callV0 cD_D_floor dD_count_51 H.1 (Nat.le_of_ble_eq_true rfl) (Nat.le_of_ble_eq_true rfl) (d_floor (d := d + 2) H hI) ?_
    exact x_iret rfl dD_count_54
end
end
section
/-! VersionDesk() -/
theorem xmulti_old (h : xH) {N K q : Nat} (hq : q < h.2.1) : (xmulti h N K).1 q = h.1 q := by
  simp only [xmulti]; rw [if_neg (by omega), if_neg (by omega)]
theorem xmulti_outer (h : xH) (N K : Nat) : (xmulti h N K).1 h.2.1 = some (.inl (.array .long, N, .inr (.inr (fun i => if i < N then some (h.2.1 + 1 + i) else none)))) := by
  simp only [xmulti]; rw [if_pos trivial]
theorem xmulti_row (h : xH) {N K j : Nat} (hj : j < N) : (xmulti h N K).1 (h.2.1 + 1 + j) = some (.inl (.long, K, .inr (.inl (fun _ => 0)))) := by
  simp only [xmulti]; rw [if_neg (by omega), if_pos (by omega)]
def st0 : vS := (0, fun _ => (false, 0, 0, 1, 0), fun _ _ => 0, fun _ _ _ => 0, 16, (fun q => if q < 16 then q else 0, fun _ => 0, fun _ => 0))
/-- while the transactions are made: i of them stand -/
def CP (b i : Nat) (h0 h : xH) : Prop :=
  h.2.1 = b + 2 + 11 * i ∧ h.2.2 = h0.2.2 + 16 + 151 * i ∧ (∀ q, q < b → h.1 q = h0.1 q) ∧ h.1 b = some (.inr (0, [.ref (b + 1), .null, .int 0])) ∧
  h.1 (b + 1) = some (.inl (.object "VersionDesk$Transaction", 16, .inr (.inr (fun j => if j < i then some (b + 2 + 11 * j) else none)))) ∧
  ∀ t, t < i → h.1 (b + 2 + 11 * t) = some (tC b t (false, 0, 0, 1, 0)) ∧ h.1 (b + 2 + 11 * t + 1) = some (vI 8 (fun _ => 0)) ∧ h.1 (b + 2 + 11 * t + 2) = some (vR (b + 2 + 11 * t)) ∧ ∀ l, l < 8 → h.1 (b + 2 + 11 * t + 2 + 1 + l) = some (vL 16 (fun _ => 0))
theorem CP.step {b i : Nat} {h0 h : xH} (C : CP b i h0 h) : CP b (i + 1) h0 (xset (xset (xmulti (xadd (xadd h (.inr (1, [.int 0, .int 0, .int 0, .int 0, .int 0, .null, .null])) 7) (vI 8 (fun _ => 0)) 8) 8 16) (b + 2 + 11 * i) (vT (b + 2 + 11 * i) false 0 0 1 0)) (b + 1) (.inl (.object "VersionDesk$Transaction", 16, .inr (.inr (va_up (fun j => if j < i then some (b + 2 + 11 * j) else none) i (some (b + 2 + 11 * i))))))) := by
  obtain ⟨c1, c2, c3, c4, c5, c6⟩ := C
  have z1 : (xadd h (.inr (1, [.int 0, .int 0, .int 0, .int 0, .int 0, .null, .null])) 7).2.1 = b + 2 + 11 * i + 1 := by rw [xadd_sz, c1]
  have z2 : (xadd (xadd h (.inr (1, [.int 0, .int 0, .int 0, .int 0, .int 0, .null, .null])) 7) (vI 8 (fun _ => 0)) 8).2.1 = b + 2 + 11 * i + 2 := by rw [xadd_sz, z1]
  have old : ∀ q, q < b + 2 + 11 * i → (xmulti (xadd (xadd h (.inr (1, [.int 0, .int 0, .int 0, .int 0, .int 0, .null, .null])) 7) (vI 8 (fun _ => 0)) 8) 8 16).1 q = h.1 q := by
    intro q hq
    rw [xmulti_old _ (by omega), xadd_ne _ _ _ (by omega), xadd_ne _ _ _ (by omega)]
  refine ⟨?_, ?_, fun q hq => ?_, ?_, ?_, fun t ht => ?_⟩
  · show (xmulti _ 8 16).2.1 = _
    show (xadd _ _ 8).2.1 + 1 + 8 = _
    rw [z2]; omega
  · show (xmulti _ 8 16).2.2 = _
    show (xadd _ _ 8).2.2 + 8 + 8 * 16 = _
    rw [xadd_us, xadd_us, c2]; omega
  · rw [xset_ne _ _ (by omega), xset_ne _ _ (by omega), old q (by omega)]; exact c3 q hq
  · rw [xset_ne _ _ (by omega), xset_ne _ _ (by omega), old b (by omega)]; exact c4
  · rw [xset_eq]
    refine congrArg (fun f => some (Sum.inl (FieldType.object "VersionDesk$Transaction", 16, Sum.inr (Sum.inr f)))) (funext fun j => ?_)
    by_cases e : j = i
    · subst e; rw [up_eq, if_pos (by omega)]
    · rw [up_ne _ _ e]
      by_cases e2 : j < i
      · rw [if_pos e2, if_pos (by omega)]
      · rw [if_neg e2, if_neg (by omega)]
  · by_cases e : t = i
    · subst e
      refine ⟨?_, ?_, ?_, fun l hl => ?_⟩
      · rw [xset_ne _ _ (by omega), xset_eq]
      · rw [xset_ne _ _ (by omega), xset_ne _ _ (by omega), xmulti_old _ (by omega)]
        have := xadd_eq (xadd h (.inr (1, [.int 0, .int 0, .int 0, .int 0, .int 0, .null, .null])) 7) (vI 8 (fun _ => 0)) 8
        rw [z1] at this
        exact this
      · rw [xset_ne _ _ (by omega), xset_ne _ _ (by omega)]
        have := xmulti_outer (xadd (xadd h (.inr (1, [.int 0, .int 0, .int 0, .int 0, .int 0, .null, .null])) 7) (vI 8 (fun _ => 0)) 8) 8 16
        rw [z2] at this
        exact this
      · rw [xset_ne _ _ (by omega), xset_ne _ _ (by omega)]
        have := xmulti_row (xadd (xadd h (.inr (1, [.int 0, .int 0, .int 0, .int 0, .int 0, .null, .null])) 7) (vI 8 (fun _ => 0)) 8) (N := 8) (K := 16) hl
        rw [z2] at this
        exact this
    · obtain ⟨d1, d2, d3, d4⟩ := c6 t (by omega)
      refine ⟨?_, ?_, ?_, fun l hl => ?_⟩
      · rw [xset_ne _ _ (by omega), xset_ne _ _ (by omega), old _ (by omega)]; exact d1
      · rw [xset_ne _ _ (by omega), xset_ne _ _ (by omega), old _ (by omega)]; exact d2
      · rw [xset_ne _ _ (by omega), xset_ne _ _ (by omega), old _ (by omega)]; exact d3
      · rw [xset_ne _ _ (by omega), xset_ne _ _ (by omega), old _ (by omega)]; exact d4 l hl
section
variable {E : xE} {d b : Nat} {h0 : xH}
theorem d_init_end {h : xH} (hb : E.2.2.1 ≤ b) (C : CP b 16 h0 h) : ∃ h', xG E (d + 1) mD_init 40 [(0, .ref b)] [] true h (true, .inl none, h') ∧ VP b st0 h' ∧ (∀ q, q < b → h'.1 q = h0.1 q) ∧ h'.2.1 = b + 182 ∧ h'.2.2 = h0.2.2 + 3936 := by
  obtain ⟨c1, c2, c3, c4, c5, c6⟩ := C
  have old : ∀ q, q < b + 178 → q ≠ b → (xset (xset (xset (vput (xset (vnew (xadd h (.inr (2, [.null, .null, .null, .int 0])) 4)) (b + 178) (vV (b + 178) 0)) (b + 178) (fun q => if q < 16 then q else 0, fun _ => 0, fun _ => 0)) (b + 178) (vV (b + 178) 16)) b (.inr (0, [.ref (b + 1), .ref (b + 178), .int 0]))) b (dC b 0)).1 q = h.1 q := by
    intro q hq hne
    rw [xset_ne _ _ hne, xset_ne _ _ hne, xset_ne _ _ (by omega), vput_ne _ _ (by omega) (by omega) (by omega), xset_ne _ _ (by omega)]
    unfold vnew
    rw [xadd_ne _ _ _ (by simp [xadd]; omega), xadd_ne _ _ _ (by simp [xadd]; omega), xadd_ne _ _ _ (by simp [xadd]; omega), xadd_ne _ _ _ (by omega)]
  refine ⟨xset (xset (xset (vput (xset (vnew (xadd h (.inr (2, [.null, .null, .null, .int 0])) 4)) (b + 178) (vV (b + 178) 0)) (b + 178) (fun q => if q < 16 then q else 0, fun _ => 0, fun _ => 0)) (b + 178) (vV (b + 178) 16)) b (.inr (0, [.ref (b + 1), .ref (b + 178), .int 0]))) b (dC b 0), ?_, ⟨?_, ?_, fun t ht => ?_, fun t ht => ?_, fun t ht => ?_, fun t l ht hl => ?_, ?_, ?_, ?_, ?_⟩, fun q hq => ?_, ?_, ?_⟩
  · refine x_aload_n dD_init_40 rfl ?_
    refine x_new newD_V dD_init_41 ?_
    rw [c1]
    refine x_dup dD_init_44 rfl ?_
    refine x_callI0 cD_V_init dD_init_45 (Nat.le_of_ble_eq_true rfl) (Nat.le_of_ble_eq_true rfl) (v_init (a := b + 178) (by omega) (by have := xadd_eq h (.inr (2, [.null, .null, .null, .int 0])) 4; rw [c1] at this; exact this) (by rw [xadd_sz, c1])) ?_
    refine x_putF fD_versions rfl dD_init_48 (fs := [.ref (b + 1), .null, .int 0]) ?_ hb rfl rfl (Nat.le_of_ble_eq_true rfl) ?_
    · rw [xset_ne _ _ (by omega), vput_ne _ _ (by omega) (by omega) (by omega), xset_ne _ _ (by omega)]
      unfold vnew
      rw [xadd_ne _ _ _ (by simp [xadd]; omega), xadd_ne _ _ _ (by simp [xadd]; omega), xadd_ne _ _ _ (by simp [xadd]; omega), xadd_ne _ _ _ (by omega)]
      exact c4
    refine x_aload_n dD_init_51 rfl ?_
    refine x_iconst (v := (nI 0)) dD_init_52 (by decide) ?_
    refine x_put fD_clock dD_init_53 (xset_eq _ _ _) hb rfl rfl (Nat.le_of_ble_eq_true rfl) ?_
    exact x_vret rfl dD_init_56
  · rw [xset_eq]; rfl
  · rw [old _ (by omega) (by omega)]; exact c5
  · rw [old _ (by omega) (by omega)]; exact (c6 t ht).1
  · rw [old _ (by omega) (by omega)]; exact (c6 t ht).2.1
  · rw [old _ (by omega) (by omega)]; exact (c6 t ht).2.2.1
  · rw [old _ (by omega) (by omega)]; exact (c6 t ht).2.2.2 l hl
  · rw [xset_ne _ _ (by omega), xset_ne _ _ (by omega), xset_eq]; rfl
  · rw [xset_ne _ _ (by omega), xset_ne _ _ (by omega), xset_ne _ _ (by omega), vput_1]; rfl
  · rw [xset_ne _ _ (by omega), xset_ne _ _ (by omega), xset_ne _ _ (by omega), vput_2]; rfl
  · rw [xset_ne _ _ (by omega), xset_ne _ _ (by omega), xset_ne _ _ (by omega), vput_3]; rfl
  · rw [old _ (by omega) (by omega)]; exact c3 q hq
  · show (vnew (xadd h (.inr (2, [.null, .null, .null, .int 0])) 4)).2.1 = b + 182
    simp only [vnew, xadd_sz]; omega
  · show (vnew (xadd h (.inr (2, [.null, .null, .null, .int 0])) 4)).2.2 = h0.2.2 + 3936
    simp only [vnew, xadd_us]; omega
theorem d_init_loop (hb : E.2.2.1 ≤ b) : ∀ (m i : Nat) (h : xH), i + m = 16 → CP b i h0 h → ∃ h', xG E (d + 1) mD_init 15 [(1, .int (nI i)), (0, .ref b)] [] true h (true, .inl none, h') ∧ VP b st0 h' ∧ (∀ q, q < b → h'.1 q = h0.1 q) ∧ h'.2.1 = b + 182 ∧ h'.2.2 = h0.2.2 + 3936 := by
  intro m
  induction m with
  | zero =>
    intro i h hi C
    obtain rfl : i = 16 := by omega
    obtain ⟨h', k, hk⟩ := d_init_end (E := E) (d := d) hb C
    refine ⟨h', ?_, hk⟩
    refine x_iload_n dD_init_15 rfl ?_
    refine x_bipush (v := (nI 16)) dD_init_16 (by decide) ?_
    refine x_icmp_ge 40 dD_init_18 (by decide) (fun _ => ?_) (fun hq => absurd (nI_le (by omega) (by omega)) hq)
    exact x_loc _ (xac rfl xan) k
  | succ m ih =>
    intro i h hi C
    obtain ⟨h', k, hk⟩ := ih (i + 1) _ (by omega) C.step
    refine ⟨h', ?_, hk⟩
    obtain ⟨c1, c2, c3, c4, c5, c6⟩ := C
    have z1 : (xadd h (.inr (1, [.int 0, .int 0, .int 0, .int 0, .int 0, .null, .null])) 7).2.1 = b + 2 + 11 * i + 1 := by rw [xadd_sz, c1]
    refine x_iload_n dD_init_15 rfl ?_
    refine x_bipush (v := (nI 16)) dD_init_16 (by decide) ?_
    refine x_icmp_ge 40 dD_init_18 (by decide) (fun hq => absurd hq (nI_ge (by omega) (by omega))) (fun _ => ?_)
    refine x_aload_n dD_init_21 rfl ?_
    refine x_get fD_transactions dD_init_22 (by assumption) rfl ?_
    refine x_iload_n dD_init_25 rfl ?_
    refine x_new newD_T dD_init_26 ?_
    rw [c1]
    refine x_dup dD_init_29 rfl ?_
    refine x_callI0 cD_T_init dD_init_30 (Nat.le_of_ble_eq_true rfl) (Nat.le_of_ble_eq_true rfl) (t_init (a := b + 2 + 11 * i) (by omega) (by rw [z1]; omega) (by have := xadd_eq h (.inr (1, [.int 0, .int 0, .int 0, .int 0, .int 0, .null, .null])) 7; rw [c1] at this; exact this) z1) ?_
    refine x_aast i dD_init_33 (n := 16) (ci := 1) (C := "VersionDesk$Transaction") (f := fun j => if j < i then some (b + 2 + 11 * j) else none) ?_ (xset_eq _ _ _) rfl (by omega) rfl (by omega) (by decide) ?_
    · rw [xset_ne _ _ (by omega), xmulti_old _ (by rw [xadd_sz, z1]; omega), xadd_ne _ _ _ (by omega), xadd_ne _ _ _ (by omega)]
      exact c5
    refine x_iinc (v := nI (i + 1)) dD_init_34 rfl (by rw [nI_succ]; rfl) (Nat.le_of_ble_eq_true rfl) ?_
    refine x_goto 15 dD_init_37 (by decide) ?_
    exact k
theorem d_init (hb : E.2.2.1 ≤ b) (hz : h0.2.1 = b + 1) (ha : h0.1 b = some (.inr (0, [.null, .null, .int 0]))) : ∃ h', xG E (d + 1) mD_init 0 [(0, .ref b)] [] false h0 (true, .inl none, h') ∧ VP b st0 h' ∧ (∀ q, q < b → h'.1 q = h0.1 q) ∧ h'.2.1 = b + 182 ∧ h'.2.2 = h0.2.2 + 3936 := by
  have C : CP b 0 h0 (xset (xadd h0 (.inl (.object "VersionDesk$Transaction", 16, .inr (.inr (fun _ => none)))) 16) b (.inr (0, [.ref (b + 1), .null, .int 0]))) := by
    refine ⟨?_, ?_, fun q hq => ?_, ?_, ?_, fun t ht => absurd ht (Nat.not_lt_zero _)⟩
    · rw [xset_sz, xadd_sz, hz]
    · rw [xset_us, xadd_us]
    · rw [xset_ne _ _ (by omega), xadd_ne _ _ _ (by omega)]
    · rw [xset_eq]
    · rw [xset_ne _ _ (by omega)]
      have := xadd_eq h0 (.inl (.object "VersionDesk$Transaction", 16, .inr (.inr (fun _ => none)))) 16
      rw [hz] at this
      rw [this]
      refine congrArg (fun f => some (Sum.inl (FieldType.object "VersionDesk$Transaction", 16, Sum.inr (Sum.inr f)))) (funext fun j => ?_)
      exact (if_neg (Nat.not_lt_zero j)).symm
  obtain ⟨h', k, hk⟩ := d_init_loop (E := E) (d := d) hb 16 0 _ rfl C
  refine ⟨h', ?_, hk⟩
  refine x_aload_n dD_init_0 rfl ?_
  refine x_objInit dD_init_1 kw_18 kw_19 kw_20 (Nat.le_of_ble_eq_true rfl) ?_
  refine x_aload_n dD_init_4 rfl ?_
  refine x_bipush (v := (nI 16)) dD_init_5 (by decide) ?_
  refine x_anew 16 dD_init_7 kw_21 kw_22 rfl rfl (by decide) ?_
  rw [hz]
  refine x_putF fD_transactions rfl dD_init_10 (fs := [.null, .null, .int 0]) ((xadd_ne _ _ _ (by omega)).trans ha) hb rfl rfl (Nat.le_of_ble_eq_true rfl) ?_
  refine x_iconst (v := (nI 0)) dD_init_13 (by decide) ?_
  refine x_istore_n dD_init_14 (Nat.le_of_ble_eq_true rfl) ?_
  exact k
end
end
section
/-! VersionDeskModel: its cells (from the address m on), its state -/
abbrev vZ (n : Nat) (f : Nat → Bool) : xC := .inl (.boolean, n, .inl (fun i => xb (f i)))
theorem xb_ne {o : Bool} (h : o = true) : xb o ≠ 0 := by rw [h]; decide
theorem xb_eq {o : Bool} (h : o = false) : xb o = 0 := by rw [h]; rfl
theorem up_xb (f : Nat → Bool) (j : Nat) (x : Bool) : va_up (fun i => xb (f i)) j (xb x) = fun i => xb (va_up f j x i) := by
  funext i
  by_cases hi : i = j <;> simp [va_up, hi]
/-- thrown; clock; the boolean, int, long arrays by their places -/
abbrev qS : Type := Nat × Nat × (Nat → Nat → Bool) × (Nat → Nat → Nat) × (Nat → Nat → Int64)
abbrev qX (μ : qS) : Nat := μ.1
abbrev qK (μ : qS) : Nat := μ.2.1
abbrev qZ (μ : qS) : Nat → Nat → Bool := μ.2.2.1
abbrev qI (μ : qS) : Nat → Nat → Nat := μ.2.2.2.1
abbrev qL (μ : qS) : Nat → Nat → Int64 := μ.2.2.2.2
abbrev qC (m x k : Nat) : xC := .inr (3, [.int (nI x), .int (nI k), .ref (m + 1), .ref (m + 2), .ref (m + 3), .ref (m + 4), .ref (m + 5), .ref (m + 6), .ref (m + 7), .ref (m + 8), .ref (m + 9), .ref (m + 10), .ref (m + 11), .ref (m + 12)])
/-- the heap holds the object at m in the state μ, and is as h0 elsewhere -/
def QP (m : Nat) (h0 : xH) (μ : qS) (h : xH) : Prop :=
  h.1 m = some (qC m (qX μ) (qK μ)) ∧
  (h.1 (m + 1) = some (vZ 16 (qZ μ 1)) ∧ h.1 (m + 2) = some (vZ 256 (qZ μ 2)) ∧ h.1 (m + 3) = some (vZ 2048 (qZ μ 3)) ∧
   h.1 (m + 4) = some (vN 16 (qI μ 4)) ∧ h.1 (m + 5) = some (vN 16 (qI μ 5)) ∧ h.1 (m + 6) = some (vN 16 (qI μ 6)) ∧
   h.1 (m + 7) = some (vL 256 (qL μ 7)) ∧ h.1 (m + 8) = some (vL 2048 (qL μ 8)) ∧
   h.1 (m + 9) = some (vN 16 (qI μ 9)) ∧ h.1 (m + 10) = some (vN 8320 (qI μ 10)) ∧ h.1 (m + 11) = some (vN 16 (qI μ 11)) ∧ h.1 (m + 12) = some (vL 8320 (qL μ 12))) ∧
  (∀ q, q < m ∨ m + 13 ≤ q → h.1 q = h0.1 q) ∧ h.2.1 = h0.2.1 ∧ h.2.2 = h0.2.2
def sX (μ : qS) (x : Nat) : qS := (x, μ.2)
def sC (μ : qS) (k : Nat) : qS := (μ.1, k, μ.2.2)
def sZ (μ : qS) (k j : Nat) (v : Bool) : qS := (μ.1, μ.2.1, va_up (qZ μ) k (va_up (qZ μ k) j v), qI μ, qL μ)
def sI (μ : qS) (k j : Nat) (v : Nat) : qS := (μ.1, μ.2.1, qZ μ, va_up (qI μ) k (va_up (qI μ k) j v), qL μ)
def sL (μ : qS) (k j : Nat) (v : Int64) : qS := (μ.1, μ.2.1, qZ μ, qI μ, va_up (qL μ) k (va_up (qL μ k) j v))
section
variable {m : Nat} {h0 h : xH} {μ : qS}
theorem QP.rf (H : QP m h0 μ h) : QP m h μ h := ⟨H.1, H.2.1, fun _ _ => rfl, rfl, rfl⟩
theorem QP.a1 (H : QP m h0 μ h) : h.1 (m + 1) = some (vZ 16 (qZ μ 1)) := H.2.1.1
theorem QP.a2 (H : QP m h0 μ h) : h.1 (m + 2) = some (vZ 256 (qZ μ 2)) := H.2.1.2.1
theorem QP.a3 (H : QP m h0 μ h) : h.1 (m + 3) = some (vZ 2048 (qZ μ 3)) := H.2.1.2.2.1
theorem QP.a4 (H : QP m h0 μ h) : h.1 (m + 4) = some (vN 16 (qI μ 4)) := H.2.1.2.2.2.1
theorem QP.a5 (H : QP m h0 μ h) : h.1 (m + 5) = some (vN 16 (qI μ 5)) := H.2.1.2.2.2.2.1
theorem QP.a6 (H : QP m h0 μ h) : h.1 (m + 6) = some (vN 16 (qI μ 6)) := H.2.1.2.2.2.2.2.1
theorem QP.a7 (H : QP m h0 μ h) : h.1 (m + 7) = some (vL 256 (qL μ 7)) := H.2.1.2.2.2.2.2.2.1
theorem QP.a8 (H : QP m h0 μ h) : h.1 (m + 8) = some (vL 2048 (qL μ 8)) := H.2.1.2.2.2.2.2.2.2.1
theorem QP.a9 (H : QP m h0 μ h) : h.1 (m + 9) = some (vN 16 (qI μ 9)) := H.2.1.2.2.2.2.2.2.2.2.1
theorem QP.a10 (H : QP m h0 μ h) : h.1 (m + 10) = some (vN 8320 (qI μ 10)) := H.2.1.2.2.2.2.2.2.2.2.2.1
theorem QP.a11 (H : QP m h0 μ h) : h.1 (m + 11) = some (vN 16 (qI μ 11)) := H.2.1.2.2.2.2.2.2.2.2.2.2.1
theorem QP.a12 (H : QP m h0 μ h) : h.1 (m + 12) = some (vL 8320 (qL μ 12)) := H.2.1.2.2.2.2.2.2.2.2.2.2.2
theorem QP.x (H : QP m h0 μ h) (x : Nat) : QP m h0 (sX μ x) (xset h m (qC m x (qK μ))) := by
  refine ⟨xset_eq _ _ _, ⟨?_, ?_, ?_, ?_, ?_, ?_, ?_, ?_, ?_, ?_, ?_, ?_⟩, fun q hq => ?_, H.2.2.2.1, H.2.2.2.2⟩
  · rw [xset_ne _ _ (by omega)]; exact H.a1
  · rw [xset_ne _ _ (by omega)]; exact H.a2
  · rw [xset_ne _ _ (by omega)]; exact H.a3
  · rw [xset_ne _ _ (by omega)]; exact H.a4
  · rw [xset_ne _ _ (by omega)]; exact H.a5
  · rw [xset_ne _ _ (by omega)]; exact H.a6
  · rw [xset_ne _ _ (by omega)]; exact H.a7
  · rw [xset_ne _ _ (by omega)]; exact H.a8
  · rw [xset_ne _ _ (by omega)]; exact H.a9
  · rw [xset_ne _ _ (by omega)]; exact H.a10
  · rw [xset_ne _ _ (by omega)]; exact H.a11
  · rw [xset_ne _ _ (by omega)]; exact H.a12
  · rw [xset_ne _ _ (by omega)]; exact H.2.2.1 q hq
theorem QP.c (H : QP m h0 μ h) (x : Nat) : QP m h0 (sC μ x) (xset h m (qC m (qX μ) x)) := by
  refine ⟨xset_eq _ _ _, ⟨?_, ?_, ?_, ?_, ?_, ?_, ?_, ?_, ?_, ?_, ?_, ?_⟩, fun q hq => ?_, H.2.2.2.1, H.2.2.2.2⟩
  · rw [xset_ne _ _ (by omega)]; exact H.a1
  · rw [xset_ne _ _ (by omega)]; exact H.a2
  · rw [xset_ne _ _ (by omega)]; exact H.a3
  · rw [xset_ne _ _ (by omega)]; exact H.a4
  · rw [xset_ne _ _ (by omega)]; exact H.a5
  · rw [xset_ne _ _ (by omega)]; exact H.a6
  · rw [xset_ne _ _ (by omega)]; exact H.a7
  · rw [xset_ne _ _ (by omega)]; exact H.a8
  · rw [xset_ne _ _ (by omega)]; exact H.a9
  · rw [xset_ne _ _ (by omega)]; exact H.a10
  · rw [xset_ne _ _ (by omega)]; exact H.a11
  · rw [xset_ne _ _ (by omega)]; exact H.a12
  · rw [xset_ne _ _ (by omega)]; exact H.2.2.1 q hq
theorem QP.s1 (H : QP m h0 μ h) (j : Nat) (v : Bool) : QP m h0 (sZ μ 1 j v) (xset h (m + 1) (.inl (.boolean, 16, .inl (va_up (fun i => xb (qZ μ 1 i)) j (xb v))))) := by
  rw [up_xb]
  refine ⟨?_, ⟨?_, ?_, ?_, ?_, ?_, ?_, ?_, ?_, ?_, ?_, ?_, ?_⟩, fun q hq => ?_, H.2.2.2.1, H.2.2.2.2⟩
  · rw [xset_ne _ _ (by omega)]; exact H.1
  · rw [xset_eq]; show _ = some (vZ 16 (va_up (qZ μ) 1 (va_up (qZ μ 1) j v) 1)); rw [up_eq]
  · rw [xset_ne _ _ (by omega), H.a2]; show _ = some (vZ 256 (va_up (qZ μ) 1 (va_up (qZ μ 1) j v) 2)); rw [up_ne _ _ (by decide)]
  · rw [xset_ne _ _ (by omega), H.a3]; show _ = some (vZ 2048 (va_up (qZ μ) 1 (va_up (qZ μ 1) j v) 3)); rw [up_ne _ _ (by decide)]
  · rw [xset_ne _ _ (by omega)]; exact H.a4
  · rw [xset_ne _ _ (by omega)]; exact H.a5
  · rw [xset_ne _ _ (by omega)]; exact H.a6
  · rw [xset_ne _ _ (by omega)]; exact H.a7
  · rw [xset_ne _ _ (by omega)]; exact H.a8
  · rw [xset_ne _ _ (by omega)]; exact H.a9
  · rw [xset_ne _ _ (by omega)]; exact H.a10
  · rw [xset_ne _ _ (by omega)]; exact H.a11
  · rw [xset_ne _ _ (by omega)]; exact H.a12
  · rw [xset_ne _ _ (by omega)]; exact H.2.2.1 q hq
theorem QP.s2 (H : QP m h0 μ h) (j : Nat) (v : Bool) : QP m h0 (sZ μ 2 j v) (xset h (m + 2) (.inl (.boolean, 256, .inl (va_up (fun i => xb (qZ μ 2 i)) j (xb v))))) := by
  rw [up_xb]
  refine ⟨?_, ⟨?_, ?_, ?_, ?_, ?_, ?_, ?_, ?_, ?_, ?_, ?_, ?_⟩, fun q hq => ?_, H.2.2.2.1, H.2.2.2.2⟩
  · rw [xset_ne _ _ (by omega)]; exact H.1
  · rw [xset_ne _ _ (by omega), H.a1]; show _ = some (vZ 16 (va_up (qZ μ) 2 (va_up (qZ μ 2) j v) 1)); rw [up_ne _ _ (by decide)]
  · rw [xset_eq]; show _ = some (vZ 256 (va_up (qZ μ) 2 (va_up (qZ μ 2) j v) 2)); rw [up_eq]
  · rw [xset_ne _ _ (by omega), H.a3]; show _ = some (vZ 2048 (va_up (qZ μ) 2 (va_up (qZ μ 2) j v) 3)); rw [up_ne _ _ (by decide)]
  · rw [xset_ne _ _ (by omega)]; exact H.a4
  · rw [xset_ne _ _ (by omega)]; exact H.a5
  · rw [xset_ne _ _ (by omega)]; exact H.a6
  · rw [xset_ne _ _ (by omega)]; exact H.a7
  · rw [xset_ne _ _ (by omega)]; exact H.a8
  · rw [xset_ne _ _ (by omega)]; exact H.a9
  · rw [xset_ne _ _ (by omega)]; exact H.a10
  · rw [xset_ne _ _ (by omega)]; exact H.a11
  · rw [xset_ne _ _ (by omega)]; exact H.a12
  · rw [xset_ne _ _ (by omega)]; exact H.2.2.1 q hq
theorem QP.s3 (H : QP m h0 μ h) (j : Nat) (v : Bool) : QP m h0 (sZ μ 3 j v) (xset h (m + 3) (.inl (.boolean, 2048, .inl (va_up (fun i => xb (qZ μ 3 i)) j (xb v))))) := by
  rw [up_xb]
  refine ⟨?_, ⟨?_, ?_, ?_, ?_, ?_, ?_, ?_, ?_, ?_, ?_, ?_, ?_⟩, fun q hq => ?_, H.2.2.2.1, H.2.2.2.2⟩
  · rw [xset_ne _ _ (by omega)]; exact H.1
  · rw [xset_ne _ _ (by omega), H.a1]; show _ = some (vZ 16 (va_up (qZ μ) 3 (va_up (qZ μ 3) j v) 1)); rw [up_ne _ _ (by decide)]
  · rw [xset_ne _ _ (by omega), H.a2]; show _ = some (vZ 256 (va_up (qZ μ) 3 (va_up (qZ μ 3) j v) 2)); rw [up_ne _ _ (by decide)]
  · rw [xset_eq]; show _ = some (vZ 2048 (va_up (qZ μ) 3 (va_up (qZ μ 3) j v) 3)); rw [up_eq]
  · rw [xset_ne _ _ (by omega)]; exact H.a4
  · rw [xset_ne _ _ (by omega)]; exact H.a5
  · rw [xset_ne _ _ (by omega)]; exact H.a6
  · rw [xset_ne _ _ (by omega)]; exact H.a7
  · rw [xset_ne _ _ (by omega)]; exact H.a8
  · rw [xset_ne _ _ (by omega)]; exact H.a9
  · rw [xset_ne _ _ (by omega)]; exact H.a10
  · rw [xset_ne _ _ (by omega)]; exact H.a11
  · rw [xset_ne _ _ (by omega)]; exact H.a12
  · rw [xset_ne _ _ (by omega)]; exact H.2.2.1 q hq
theorem QP.s4 (H : QP m h0 μ h) (j : Nat) (v : Nat) : QP m h0 (sI μ 4 j v) (xset h (m + 4) (.inl (.int, 16, .inl (va_up (fun i => nI (qI μ 4 i)) j (nI v))))) := by
  rw [up_nI]
  refine ⟨?_, ⟨?_, ?_, ?_, ?_, ?_, ?_, ?_, ?_, ?_, ?_, ?_, ?_⟩, fun q hq => ?_, H.2.2.2.1, H.2.2.2.2⟩
  · rw [xset_ne _ _ (by omega)]; exact H.1
  · rw [xset_ne _ _ (by omega)]; exact H.a1
  · rw [xset_ne _ _ (by omega)]; exact H.a2
  · rw [xset_ne _ _ (by omega)]; exact H.a3
  · rw [xset_eq]; show _ = some (vN 16 (va_up (qI μ) 4 (va_up (qI μ 4) j v) 4)); rw [up_eq]
  · rw [xset_ne _ _ (by omega), H.a5]; show _ = some (vN 16 (va_up (qI μ) 4 (va_up (qI μ 4) j v) 5)); rw [up_ne _ _ (by decide)]
  · rw [xset_ne _ _ (by omega), H.a6]; show _ = some (vN 16 (va_up (qI μ) 4 (va_up (qI μ 4) j v) 6)); rw [up_ne _ _ (by decide)]
  · rw [xset_ne _ _ (by omega)]; exact H.a7
  · rw [xset_ne _ _ (by omega)]; exact H.a8
  · rw [xset_ne _ _ (by omega), H.a9]; show _ = some (vN 16 (va_up (qI μ) 4 (va_up (qI μ 4) j v) 9)); rw [up_ne _ _ (by decide)]
  · rw [xset_ne _ _ (by omega), H.a10]; show _ = some (vN 8320 (va_up (qI μ) 4 (va_up (qI μ 4) j v) 10)); rw [up_ne _ _ (by decide)]
  · rw [xset_ne _ _ (by omega), H.a11]; show _ = some (vN 16 (va_up (qI μ) 4 (va_up (qI μ 4) j v) 11)); rw [up_ne _ _ (by decide)]
  · rw [xset_ne _ _ (by omega)]; exact H.a12
  · rw [xset_ne _ _ (by omega)]; exact H.2.2.1 q hq
theorem QP.s5 (H : QP m h0 μ h) (j : Nat) (v : Nat) : QP m h0 (sI μ 5 j v) (xset h (m + 5) (.inl (.int, 16, .inl (va_up (fun i => nI (qI μ 5 i)) j (nI v))))) := by
  rw [up_nI]
  refine ⟨?_, ⟨?_, ?_, ?_, ?_, ?_, ?_, ?_, ?_, ?_, ?_, ?_, ?_⟩, fun q hq => ?_, H.2.2.2.1, H.2.2.2.2⟩
  · rw [xset_ne _ _ (by omega)]; exact H.1
  · rw [xset_ne _ _ (by omega)]; exact H.a1
  · rw [xset_ne _ _ (by omega)]; exact H.a2
  · rw [xset_ne _ _ (by omega)]; exact H.a3
  · rw [xset_ne _ _ (by omega), H.a4]; show _ = some (vN 16 (va_up (qI μ) 5 (va_up (qI μ 5) j v) 4)); rw [up_ne _ _ (by decide)]
  · rw [xset_eq]; show _ = some (vN 16 (va_up (qI μ) 5 (va_up (qI μ 5) j v) 5)); rw [up_eq]
  · rw [xset_ne _ _ (by omega), H.a6]; show _ = some (vN 16 (va_up (qI μ) 5 (va_up (qI μ 5) j v) 6)); rw [up_ne _ _ (by decide)]
  · rw [xset_ne _ _ (by omega)]; exact H.a7
  · rw [xset_ne _ _ (by omega)]; exact H.a8
  · rw [xset_ne _ _ (by omega), H.a9]; show _ = some (vN 16 (va_up (qI μ) 5 (va_up (qI μ 5) j v) 9)); rw [up_ne _ _ (by decide)]
  · rw [xset_ne _ _ (by omega), H.a10]; show _ = some (vN 8320 (va_up (qI μ) 5 (va_up (qI μ 5) j v) 10)); rw [up_ne _ _ (by decide)]
  · rw [xset_ne _ _ (by omega), H.a11]; show _ = some (vN 16 (va_up (qI μ) 5 (va_up (qI μ 5) j v) 11)); rw [up_ne _ _ (by decide)]
  · rw [xset_ne _ _ (by omega)]; exact H.a12
  · rw [xset_ne _ _ (by omega)]; exact H.2.2.1 q hq
theorem QP.s6 (H : QP m h0 μ h) (j : Nat) (v : Nat) : QP m h0 (sI μ 6 j v) (xset h (m + 6) (.inl (.int, 16, .inl (va_up (fun i => nI (qI μ 6 i)) j (nI v))))) := by
  rw [up_nI]
  refine ⟨?_, ⟨?_, ?_, ?_, ?_, ?_, ?_, ?_, ?_, ?_, ?_, ?_, ?_⟩, fun q hq => ?_, H.2.2.2.1, H.2.2.2.2⟩
  · rw [xset_ne _ _ (by omega)]; exact H.1
  · rw [xset_ne _ _ (by omega)]; exact H.a1
  · rw [xset_ne _ _ (by omega)]; exact H.a2
  · rw [xset_ne _ _ (by omega)]; exact H.a3
  · rw [xset_ne _ _ (by omega), H.a4]; show _ = some (vN 16 (va_up (qI μ) 6 (va_up (qI μ 6) j v) 4)); rw [up_ne _ _ (by decide)]
  · rw [xset_ne _ _ (by omega), H.a5]; show _ = some (vN 16 (va_up (qI μ) 6 (va_up (qI μ 6) j v) 5)); rw [up_ne _ _ (by decide)]
  · rw [xset_eq]; show _ = some (vN 16 (va_up (qI μ) 6 (va_up (qI μ 6) j v) 6)); rw [up_eq]
  · rw [xset_ne _ _ (by omega)]; exact H.a7
  · rw [xset_ne _ _ (by omega)]; exact H.a8
  · rw [xset_ne _ _ (by omega), H.a9]; show _ = some (vN 16 (va_up (qI μ) 6 (va_up (qI μ 6) j v) 9)); rw [up_ne _ _ (by decide)]
  · rw [xset_ne _ _ (by omega), H.a10]; show _ = some (vN 8320 (va_up (qI μ) 6 (va_up (qI μ 6) j v) 10)); rw [up_ne _ _ (by decide)]
  · rw [xset_ne _ _ (by omega), H.a11]; show _ = some (vN 16 (va_up (qI μ) 6 (va_up (qI μ 6) j v) 11)); rw [up_ne _ _ (by decide)]
  · rw [xset_ne _ _ (by omega)]; exact H.a12
  · rw [xset_ne _ _ (by omega)]; exact H.2.2.1 q hq
theorem QP.s7 (H : QP m h0 μ h) (j : Nat) (v : Int64) : QP m h0 (sL μ 7 j v) (xset h (m + 7) (.inl (.long, 256, .inr (.inl (va_up (qL μ 7) j v))))) := by
  refine ⟨?_, ⟨?_, ?_, ?_, ?_, ?_, ?_, ?_, ?_, ?_, ?_, ?_, ?_⟩, fun q hq => ?_, H.2.2.2.1, H.2.2.2.2⟩
  · rw [xset_ne _ _ (by omega)]; exact H.1
  · rw [xset_ne _ _ (by omega)]; exact H.a1
  · rw [xset_ne _ _ (by omega)]; exact H.a2
  · rw [xset_ne _ _ (by omega)]; exact H.a3
  · rw [xset_ne _ _ (by omega)]; exact H.a4
  · rw [xset_ne _ _ (by omega)]; exact H.a5
  · rw [xset_ne _ _ (by omega)]; exact H.a6
  · rw [xset_eq]; show _ = some (vL 256 (va_up (qL μ) 7 (va_up (qL μ 7) j v) 7)); rw [up_eq]
  · rw [xset_ne _ _ (by omega), H.a8]; show _ = some (vL 2048 (va_up (qL μ) 7 (va_up (qL μ 7) j v) 8)); rw [up_ne _ _ (by decide)]
  · rw [xset_ne _ _ (by omega)]; exact H.a9
  · rw [xset_ne _ _ (by omega)]; exact H.a10
  · rw [xset_ne _ _ (by omega)]; exact H.a11
  · rw [xset_ne _ _ (by omega), H.a12]; show _ = some (vL 8320 (va_up (qL μ) 7 (va_up (qL μ 7) j v) 12)); rw [up_ne _ _ (by decide)]
  · rw [xset_ne _ _ (by omega)]; exact H.2.2.1 q hq
theorem QP.s8 (H : QP m h0 μ h) (j : Nat) (v : Int64) : QP m h0 (sL μ 8 j v) (xset h (m + 8) (.inl (.long, 2048, .inr (.inl (va_up (qL μ 8) j v))))) := by
  refine ⟨?_, ⟨?_, ?_, ?_, ?_, ?_, ?_, ?_, ?_, ?_, ?_, ?_, ?_⟩, fun q hq => ?_, H.2.2.2.1, H.2.2.2.2⟩
  · rw [xset_ne _ _ (by omega)]; exact H.1
  · rw [xset_ne _ _ (by omega)]; exact H.a1
  · rw [xset_ne _ _ (by omega)]; exact H.a2
  · rw [xset_ne _ _ (by omega)]; exact H.a3
  · rw [xset_ne _ _ (by omega)]; exact H.a4
  · rw [xset_ne _ _ (by omega)]; exact H.a5
  · rw [xset_ne _ _ (by omega)]; exact H.a6
  · rw [xset_ne _ _ (by omega), H.a7]; show _ = some (vL 256 (va_up (qL μ) 8 (va_up (qL μ 8) j v) 7)); rw [up_ne _ _ (by decide)]
  · rw [xset_eq]; show _ = some (vL 2048 (va_up (qL μ) 8 (va_up (qL μ 8) j v) 8)); rw [up_eq]
  · rw [xset_ne _ _ (by omega)]; exact H.a9
  · rw [xset_ne _ _ (by omega)]; exact H.a10
  · rw [xset_ne _ _ (by omega)]; exact H.a11
  · rw [xset_ne _ _ (by omega), H.a12]; show _ = some (vL 8320 (va_up (qL μ) 8 (va_up (qL μ 8) j v) 12)); rw [up_ne _ _ (by decide)]
  · rw [xset_ne _ _ (by omega)]; exact H.2.2.1 q hq
theorem QP.s9 (H : QP m h0 μ h) (j : Nat) (v : Nat) : QP m h0 (sI μ 9 j v) (xset h (m + 9) (.inl (.int, 16, .inl (va_up (fun i => nI (qI μ 9 i)) j (nI v))))) := by
  rw [up_nI]
  refine ⟨?_, ⟨?_, ?_, ?_, ?_, ?_, ?_, ?_, ?_, ?_, ?_, ?_, ?_⟩, fun q hq => ?_, H.2.2.2.1, H.2.2.2.2⟩
  · rw [xset_ne _ _ (by omega)]; exact H.1
  · rw [xset_ne _ _ (by omega)]; exact H.a1
  · rw [xset_ne _ _ (by omega)]; exact H.a2
  · rw [xset_ne _ _ (by omega)]; exact H.a3
  · rw [xset_ne _ _ (by omega), H.a4]; show _ = some (vN 16 (va_up (qI μ) 9 (va_up (qI μ 9) j v) 4)); rw [up_ne _ _ (by decide)]
  · rw [xset_ne _ _ (by omega), H.a5]; show _ = some (vN 16 (va_up (qI μ) 9 (va_up (qI μ 9) j v) 5)); rw [up_ne _ _ (by decide)]
  · rw [xset_ne _ _ (by omega), H.a6]; show _ = some (vN 16 (va_up (qI μ) 9 (va_up (qI μ 9) j v) 6)); rw [up_ne _ _ (by decide)]
  · rw [xset_ne _ _ (by omega)]; exact H.a7
  · rw [xset_ne _ _ (by omega)]; exact H.a8
  · rw [xset_eq]; show _ = some (vN 16 (va_up (qI μ) 9 (va_up (qI μ 9) j v) 9)); rw [up_eq]
  · rw [xset_ne _ _ (by omega), H.a10]; show _ = some (vN 8320 (va_up (qI μ) 9 (va_up (qI μ 9) j v) 10)); rw [up_ne _ _ (by decide)]
  · rw [xset_ne _ _ (by omega), H.a11]; show _ = some (vN 16 (va_up (qI μ) 9 (va_up (qI μ 9) j v) 11)); rw [up_ne _ _ (by decide)]
  · rw [xset_ne _ _ (by omega)]; exact H.a12
  · rw [xset_ne _ _ (by omega)]; exact H.2.2.1 q hq
theorem QP.s10 (H : QP m h0 μ h) (j : Nat) (v : Nat) : QP m h0 (sI μ 10 j v) (xset h (m + 10) (.inl (.int, 8320, .inl (va_up (fun i => nI (qI μ 10 i)) j (nI v))))) := by
  rw [up_nI]
  refine ⟨?_, ⟨?_, ?_, ?_, ?_, ?_, ?_, ?_, ?_, ?_, ?_, ?_, ?_⟩, fun q hq => ?_, H.2.2.2.1, H.2.2.2.2⟩
  · rw [xset_ne _ _ (by omega)]; exact H.1
  · rw [xset_ne _ _ (by omega)]; exact H.a1
  · rw [xset_ne _ _ (by omega)]; exact H.a2
  · rw [xset_ne _ _ (by omega)]; exact H.a3
  · rw [xset_ne _ _ (by omega), H.a4]; show _ = some (vN 16 (va_up (qI μ) 10 (va_up (qI μ 10) j v) 4)); rw [up_ne _ _ (by decide)]
  · rw [xset_ne _ _ (by omega), H.a5]; show _ = some (vN 16 (va_up (qI μ) 10 (va_up (qI μ 10) j v) 5)); rw [up_ne _ _ (by decide)]
  · rw [xset_ne _ _ (by omega), H.a6]; show _ = some (vN 16 (va_up (qI μ) 10 (va_up (qI μ 10) j v) 6)); rw [up_ne _ _ (by decide)]
  · rw [xset_ne _ _ (by omega)]; exact H.a7
  · rw [xset_ne _ _ (by omega)]; exact H.a8
  · rw [xset_ne _ _ (by omega), H.a9]; show _ = some (vN 16 (va_up (qI μ) 10 (va_up (qI μ 10) j v) 9)); rw [up_ne _ _ (by decide)]
  · rw [xset_eq]; show _ = some (vN 8320 (va_up (qI μ) 10 (va_up (qI μ 10) j v) 10)); rw [up_eq]
  · rw [xset_ne _ _ (by omega), H.a11]; show _ = some (vN 16 (va_up (qI μ) 10 (va_up (qI μ 10) j v) 11)); rw [up_ne _ _ (by decide)]
  · rw [xset_ne _ _ (by omega)]; exact H.a12
  · rw [xset_ne _ _ (by omega)]; exact H.2.2.1 q hq
theorem QP.s11 (H : QP m h0 μ h) (j : Nat) (v : Nat) : QP m h0 (sI μ 11 j v) (xset h (m + 11) (.inl (.int, 16, .inl (va_up (fun i => nI (qI μ 11 i)) j (nI v))))) := by
  rw [up_nI]
  refine ⟨?_, ⟨?_, ?_, ?_, ?_, ?_, ?_, ?_, ?_, ?_, ?_, ?_, ?_⟩, fun q hq => ?_, H.2.2.2.1, H.2.2.2.2⟩
  · rw [xset_ne _ _ (by omega)]; exact H.1
  · rw [xset_ne _ _ (by omega)]; exact H.a1
  · rw [xset_ne _ _ (by omega)]; exact H.a2
  · rw [xset_ne _ _ (by omega)]; exact H.a3
  · rw [xset_ne _ _ (by omega), H.a4]; show _ = some (vN 16 (va_up (qI μ) 11 (va_up (qI μ 11) j v) 4)); rw [up_ne _ _ (by decide)]
  · rw [xset_ne _ _ (by omega), H.a5]; show _ = some (vN 16 (va_up (qI μ) 11 (va_up (qI μ 11) j v) 5)); rw [up_ne _ _ (by decide)]
  · rw [xset_ne _ _ (by omega), H.a6]; show _ = some (vN 16 (va_up (qI μ) 11 (va_up (qI μ 11) j v) 6)); rw [up_ne _ _ (by decide)]
  · rw [xset_ne _ _ (by omega)]; exact H.a7
  · rw [xset_ne _ _ (by omega)]; exact H.a8
  · rw [xset_ne _ _ (by omega), H.a9]; show _ = some (vN 16 (va_up (qI μ) 11 (va_up (qI μ 11) j v) 9)); rw [up_ne _ _ (by decide)]
  · rw [xset_ne _ _ (by omega), H.a10]; show _ = some (vN 8320 (va_up (qI μ) 11 (va_up (qI μ 11) j v) 10)); rw [up_ne _ _ (by decide)]
  · rw [xset_eq]; show _ = some (vN 16 (va_up (qI μ) 11 (va_up (qI μ 11) j v) 11)); rw [up_eq]
  · rw [xset_ne _ _ (by omega)]; exact H.a12
  · rw [xset_ne _ _ (by omega)]; exact H.2.2.1 q hq
theorem QP.s12 (H : QP m h0 μ h) (j : Nat) (v : Int64) : QP m h0 (sL μ 12 j v) (xset h (m + 12) (.inl (.long, 8320, .inr (.inl (va_up (qL μ 12) j v))))) := by
  refine ⟨?_, ⟨?_, ?_, ?_, ?_, ?_, ?_, ?_, ?_, ?_, ?_, ?_, ?_⟩, fun q hq => ?_, H.2.2.2.1, H.2.2.2.2⟩
  · rw [xset_ne _ _ (by omega)]; exact H.1
  · rw [xset_ne _ _ (by omega)]; exact H.a1
  · rw [xset_ne _ _ (by omega)]; exact H.a2
  · rw [xset_ne _ _ (by omega)]; exact H.a3
  · rw [xset_ne _ _ (by omega)]; exact H.a4
  · rw [xset_ne _ _ (by omega)]; exact H.a5
  · rw [xset_ne _ _ (by omega)]; exact H.a6
  · rw [xset_ne _ _ (by omega), H.a7]; show _ = some (vL 256 (va_up (qL μ) 12 (va_up (qL μ 12) j v) 7)); rw [up_ne _ _ (by decide)]
  · rw [xset_ne _ _ (by omega), H.a8]; show _ = some (vL 2048 (va_up (qL μ) 12 (va_up (qL μ 12) j v) 8)); rw [up_ne _ _ (by decide)]
  · rw [xset_ne _ _ (by omega)]; exact H.a9
  · rw [xset_ne _ _ (by omega)]; exact H.a10
  · rw [xset_ne _ _ (by omega)]; exact H.a11
  · rw [xset_eq]; show _ = some (vL 8320 (va_up (qL μ) 12 (va_up (qL μ 12) j v) 12)); rw [up_eq]
  · rw [xset_ne _ _ (by omega)]; exact H.2.2.1 q hq
end
end
section
/-! VersionDeskModel: its private methods -/
def qbad (μ : qS) (t : Int32) : Prop := ∀ j, j < 16 → t = nI j → qZ μ 1 j = false
/-- the highest layer that wrote the cell, and one; nought for none -/
def mhi (W : Nat → Bool) (t c : Nat) : Nat → Nat
  | 0 => 0
  | l + 1 => if W ((8 * t + l) * 16 + c) = true then l + 1 else mhi W t c l
theorem mhi_le (W : Nat → Bool) (t c : Nat) : ∀ n, mhi W t c n ≤ n
  | 0 => Nat.le_refl _
  | n + 1 => by
    unfold mhi
    split
    · exact Nat.le_refl _
    · exact Nat.le_succ_of_le (mhi_le W t c n)
def mlo (μ : qS) (t c : Nat) : Nat := mhi (qZ μ 3) t c (qI μ 6 t)
def mrd (μ : qS) (t c : Nat) : Int64 := if mlo μ t c = 0 then qL μ 7 (16 * t + c) else qL μ 8 ((8 * t + (mlo μ t c - 1)) * 16 + c)
def msp (μ : qS) (t c : Nat) : Bool := decide (qI μ 4 t < qI μ 11 c) && (decide (mlo μ t c ≠ 0) || (decide (qI μ 5 t = 1) && qZ μ 2 (16 * t + c)))
def cnt (p : Nat → Bool) : Nat → Nat
  | 0 => 0
  | c + 1 => if p c = true then cnt p c + 1 else cnt p c
theorem cnt_le (p : Nat → Bool) : ∀ n, cnt p n ≤ n
  | 0 => Nat.le_refl _
  | n + 1 => by
    have := cnt_le p n
    unfold cnt
    split <;> omega
def sumN (f : Nat → Nat) : Nat → Nat
  | 0 => 0
  | c + 1 => sumN f c + f c
def mflo (μ : qS) : Nat → Nat
  | 0 => qK μ
  | t + 1 => if qZ μ 1 t = true then min (mflo μ t) (qI μ 4 t) else mflo μ t
theorem mflo_le (μ : qS) : ∀ t, mflo μ t ≤ qK μ
  | 0 => Nat.le_refl _
  | t + 1 => by
    unfold mflo
    split
    · exact Nat.le_trans (Nat.min_le_left _ _) (mflo_le μ t)
    · exact mflo_le μ t
def mclr (a : Nat) : Nat → Nat → qS → qS
  | 0, _, μ => μ
  | n + 1, c, μ => mclr a n (c + 1) (sZ μ 3 (a + c) false)
theorem xpi_m1 {i : Nat} (h : i < 2 ^ 31) : xpi i = -1 ↔ i = 0 := by
  cases i with
  | zero => simp [xpi]
  | succ i =>
    simp only [xpi]
    constructor
    · intro q
      have := nI_pos (n := i) (by omega)
      rw [q] at this
      exact absurd (by decide) this
    · intro q; cases q
section
variable {E : xE} {d m : Nat} {μ : qS} {h0 h : xH}
theorem m_thrown (H : QP m h0 μ h) : xG E d mM_thrown 0 [(0, .ref m)] [] false h (false, .inl (some (.int (nI (qX μ)))), h) := by
  refine x_aload_n dM_thrown_0 rfl ?_
  refine x_get fM_thrown dM_thrown_1 H.1 rfl ?_
  exact x_iret rfl dM_thrown_4
theorem m_fail {x : Nat} (hb : E.2.2.1 ≤ m) (H : QP m h0 μ h) : ∃ h', xG E d mM_fail 0 [(0, .ref m), (1, .int (nI x))] [] false h (true, .inl (some (.int (nI 0))), h') ∧ QP m h0 (sX μ x) h' := by
  refine ⟨_, ?_, H.x x⟩
  refine x_aload_n dM_fail_0 rfl ?_
  refine x_iload_n dM_fail_1 rfl ?_
  refine x_put fM_thrown dM_fail_2 H.1 (by omega) rfl rfl (Nat.le_of_ble_eq_true rfl) ?_
  refine x_iconst (v := (nI 0)) dM_fail_5 (by decide) ?_
  exact x_iret rfl dM_fail_6
theorem m_no_end {x : Nat} (hx : x < 2) (H : QP m h0 μ h) (hq : qX μ = x) {w : Bool} {t : Int32} : xG E d mM_no 28 [(0, .ref m), (1, .int t)] [] w h (w, .inl (some (.int (xb (decide (x = 1))))), h) := by
  refine x_aload_n dM_no_28 rfl ?_
  refine x_get fM_thrown dM_no_29 H.1 rfl ?_
  rw [hq]
  rcases (show x = 0 ∨ x = 1 by omega) with rfl | rfl
  · refine x_if_le 39 dM_no_32 (by decide) (fun _ => ?_) (fun hc => absurd (by decide) hc)
    refine x_iconst (v := (xb false)) dM_no_39 (by decide) ?_
    exact x_zret (xb_n _) rfl dM_no_40
  · refine x_if_le 39 dM_no_32 (by decide) (fun hc => absurd hc (by decide)) (fun _ => ?_)
    refine x_iconst (v := (xb true)) dM_no_35 (by decide) ?_
    refine x_goto 40 dM_no_36 (by decide) ?_
    exact x_zret (xb_n _) rfl dM_no_40
theorem m_no {t : Nat} (hb : E.2.2.1 ≤ m) (H : QP m h0 μ h) (ht : t < 16) (ho : qZ μ 1 t = true) : ∃ h', xG E d mM_no 0 [(0, .ref m), (1, .int (nI t))] [] false h (true, .inl (some (.int (xb false))), h') ∧ QP m h0 (sX μ 0) h' := by
  refine ⟨_, ?_, H.x 0⟩
  refine x_aload_n dM_no_0 rfl ?_
  refine x_iload_n dM_no_1 rfl ?_
  refine x_if_lt 20 dM_no_2 (by decide) (fun hc => absurd hc (nI_pos (by omega))) (fun _ => ?_)
  refine x_iload_n dM_no_5 rfl ?_
  refine x_bipush (v := (nI 16)) dM_no_6 (by decide) ?_
  refine x_icmp_ge 20 dM_no_8 (by decide) (fun hc => absurd hc (nI_ge ht (by decide))) (fun _ => ?_)
  refine x_aload_n dM_no_11 rfl ?_
  refine x_get fM_open dM_no_12 H.1 rfl ?_
  refine x_iload_n dM_no_15 rfl ?_
  refine x_zald t dM_no_16 H.a1 (by simp only [pk_mul, nI_add]) (by omega) (by decide) ?_
  refine x_if_ne 24 dM_no_17 (by decide) (fun _ => ?_) (fun hc => absurd hc (xb_ne ho))
  refine x_iconst (v := (nI 0)) dM_no_24 (by decide) ?_
  refine x_put fM_thrown dM_no_25 H.1 (by omega) rfl rfl (Nat.le_of_ble_eq_true rfl) ?_
  exact m_no_end (x := 0) (by decide) (H.x 0) rfl
theorem m_no_bad {t : Int32} (hb : E.2.2.1 ≤ m) (H : QP m h0 μ h) (hbad : qbad μ t) : ∃ h', xG E d mM_no 0 [(0, .ref m), (1, .int t)] [] false h (true, .inl (some (.int (xb true))), h') ∧ QP m h0 (sX μ 1) h' := by
  refine ⟨_, ?_, H.x 1⟩
  have go : ∀ w, xG E d mM_no 20 [(0, .ref m), (1, .int t)] [.ref m] w h (true, .inl (some (.int (xb true))), xset h m (qC m 1 (qK μ))) := by
    intro w
    refine x_iconst (v := (nI 1)) dM_no_20 (by decide) ?_
    refine x_goto 25 dM_no_21 (by decide) ?_
    refine x_put fM_thrown dM_no_25 H.1 (by omega) rfl rfl (Nat.le_of_ble_eq_true rfl) ?_
    exact m_no_end (x := 1) (by decide) (H.x 1) rfl
  refine x_aload_n dM_no_0 rfl ?_
  refine x_iload_n dM_no_1 rfl ?_
  refine x_if_lt 20 dM_no_2 (by decide) (fun hc => go _) (fun hn => ?_)
  refine x_iload_n dM_no_5 rfl ?_
  refine x_bipush (v := (nI 16)) dM_no_6 (by decide) ?_
  refine x_icmp_ge 20 dM_no_8 (by decide) (fun hc => go _) (fun hg => ?_)
  rcases pk_ix t (n := 16) (by decide) with h2 | h2 | ⟨j, hj, rfl⟩
  · exact absurd h2 hn
  · exact absurd h2 hg
  refine x_aload_n dM_no_11 rfl ?_
  refine x_get fM_open dM_no_12 H.1 rfl ?_
  refine x_iload_n dM_no_15 rfl ?_
  refine x_zald j dM_no_16 H.a1 (by simp only [pk_mul, nI_add]) (by omega) (by decide) ?_
  refine x_if_ne 24 dM_no_17 (by decide) (fun hc => absurd (xb_eq (hbad j hj rfl)) hc) (fun _ => go _)
theorem m_none_end {x : Nat} (hx : x < 2) (H : QP m h0 μ h) (hq : qX μ = x) {w : Bool} {t c : Int32} : xG E d mM_none 23 [(0, .ref m), (1, .int t), (2, .int c)] [] w h (w, .inl (some (.int (xb (decide (x = 1))))), h) := by
  refine x_aload_n dM_none_23 rfl ?_
  refine x_get fM_thrown dM_none_24 H.1 rfl ?_
  rw [hq]
  rcases (show x = 0 ∨ x = 1 by omega) with rfl | rfl
  · refine x_if_le 34 dM_none_27 (by decide) (fun _ => ?_) (fun hc => absurd (by decide) hc)
    refine x_iconst (v := (xb false)) dM_none_34 (by decide) ?_
    exact x_zret (xb_n _) rfl dM_none_35
  · refine x_if_le 34 dM_none_27 (by decide) (fun hc => absurd hc (by decide)) (fun _ => ?_)
    refine x_iconst (v := (xb true)) dM_none_30 (by decide) ?_
    refine x_goto 35 dM_none_31 (by decide) ?_
    exact x_zret (xb_n _) rfl dM_none_35
theorem m_none {t c : Nat} (hb : E.2.2.1 ≤ m) (H : QP m h0 μ h) (ht : t < 16) (ho : qZ μ 1 t = true) (hc : c < 16) : ∃ h', xG E (d + 1) mM_none 0 [(0, .ref m), (1, .int (nI t)), (2, .int (nI c))] [] false h (true, .inl (some (.int (xb false))), h') ∧ QP m h0 (sX μ 0) h' := by
  obtain ⟨h1, k1, H1⟩ := m_no (d := d) hb H ht ho
  refine ⟨h1, ?_, H1⟩
  refine x_aload_n dM_none_0 rfl ?_
  refine x_iload_n dM_none_1 rfl ?_
  refine x_callV1 cM_M_no dM_none_2 H.1 (Nat.le_of_ble_eq_true rfl) (Nat.le_of_ble_eq_true rfl) k1 ?_
  refine x_if_ne 23 dM_none_5 (by decide) (fun hq => absurd rfl hq) (fun _ => ?_)
  refine x_iload_n dM_none_8 rfl ?_
  refine x_if_lt 18 dM_none_9 (by decide) (fun hq => absurd hq (nI_pos (by omega))) (fun _ => ?_)
  refine x_iload_n dM_none_12 rfl ?_
  refine x_bipush (v := (nI 16)) dM_none_13 (by decide) ?_
  refine x_icmp_lt 23 dM_none_15 (by decide) (fun _ => ?_) (fun hq => absurd (nI_lt hc (by decide)) hq)
  exact m_none_end (x := 0) (by decide) H1 rfl
theorem m_none_bad {t c : Int32} (hb : E.2.2.1 ≤ m) (H : QP m h0 μ h) (hbad : qbad μ t) : ∃ h', xG E (d + 1) mM_none 0 [(0, .ref m), (1, .int t), (2, .int c)] [] false h (true, .inl (some (.int (xb true))), h') ∧ QP m h0 (sX μ 1) h' := by
  obtain ⟨h1, k1, H1⟩ := m_no_bad (d := d) hb H hbad
  refine ⟨h1, ?_, H1⟩
  refine x_aload_n dM_none_0 rfl ?_
  refine x_iload_n dM_none_1 rfl ?_
  refine x_callV1 cM_M_no dM_none_2 H.1 (Nat.le_of_ble_eq_true rfl) (Nat.le_of_ble_eq_true rfl) k1 ?_
  refine x_if_ne 23 dM_none_5 (by decide) (fun _ => ?_) (fun hq => absurd hq (by decide))
  exact m_none_end (x := 1) (by decide) H1 rfl
theorem m_none_badc {t : Nat} {c : Int32} (hb : E.2.2.1 ≤ m) (H : QP m h0 μ h) (ht : t < 16) (ho : qZ μ 1 t = true) (hc : badc c) : ∃ h', xG E (d + 1) mM_none 0 [(0, .ref m), (1, .int (nI t)), (2, .int c)] [] false h (true, .inl (some (.int (xb true))), h') ∧ QP m h0 (sX (sX μ 0) 1) h' := by
  obtain ⟨h1, k1, H1⟩ := m_no (d := d) hb H ht ho
  refine ⟨_, ?_, H1.x 1⟩
  have go : ∀ w, xG E (d + 1) mM_none 18 [(0, .ref m), (1, .int (nI t)), (2, .int c)] [] w h1 (true, .inl (some (.int (xb true))), xset h1 m (qC m 1 (qK (sX μ 0)))) := by
    intro w
    refine x_aload_n dM_none_18 rfl ?_
    refine x_iconst (v := (nI 1)) dM_none_19 (by decide) ?_
    refine x_put fM_thrown dM_none_20 H1.1 (by omega) rfl rfl (Nat.le_of_ble_eq_true rfl) ?_
    exact m_none_end (x := 1) (by decide) (H1.x 1) rfl
  refine x_aload_n dM_none_0 rfl ?_
  refine x_iload_n dM_none_1 rfl ?_
  refine x_callV1 cM_M_no dM_none_2 H.1 (Nat.le_of_ble_eq_true rfl) (Nat.le_of_ble_eq_true rfl) k1 ?_
  refine x_if_ne 23 dM_none_5 (by decide) (fun hq => absurd rfl hq) (fun _ => ?_)
  refine x_iload_n dM_none_8 rfl ?_
  refine x_if_lt 18 dM_none_9 (by decide) (fun hq => go _) (fun hn => ?_)
  refine x_iload_n dM_none_12 rfl ?_
  refine x_bipush (v := (nI 16)) dM_none_13 (by decide) ?_
  refine x_icmp_lt 23 dM_none_15 (by decide) (fun hq => absurd (hc.resolve_left hn) (Int32.not_le.mpr hq)) (fun _ => go _)
theorem m_now {c : Nat} (H : QP m h0 μ h) (hc : c < 16) (hv : 1 ≤ qI μ 9 c) (hv2 : qI μ 9 c ≤ 520) : xG E d mM_now 0 [(0, .ref m), (1, .int (nI c))] [] false h (false, .inl (some (.long (qL μ 12 (520 * c + qI μ 9 c - 1)))), h) := by
  refine x_aload_n dM_now_0 rfl ?_
  refine x_get fM_was dM_now_1 H.1 rfl ?_
  refine x_sipush (v := (nI 520)) dM_now_4 (by decide) ?_
  refine x_iload_n dM_now_7 rfl ?_
  refine x_imul dM_now_8 ?_
  refine x_aload_n dM_now_9 rfl ?_
  refine x_get fM_versions dM_now_10 H.1 rfl ?_
  refine x_iload_n dM_now_13 rfl ?_
  refine x_iald c dM_now_14 H.a9 (by simp only [pk_mul, nI_add]) (by omega) (by decide) ?_
  refine x_iadd dM_now_15 ?_
  refine x_iconst (v := (nI 1)) dM_now_16 (by decide) ?_
  refine x_isub dM_now_17 ?_
  refine x_lald (520 * c + qI μ 9 c - 1) dM_now_18 H.a12 (by simp only [pk_mul, nI_add]; exact pk_sub (by omega)) (by omega) (by decide) ?_
  exact x_lret rfl dM_now_19
theorem m_layerOf_loop {t c : Nat} (H : QP m h0 μ h) (ht : t < 16) (hc : c < 16) : ∀ i : Nat, i ≤ 8 → xG E d mM_layerOf 9 [(3, .int (xpi i)), (0, .ref m), (1, .int (nI t)), (2, .int (nI c))] [] false h (false, .inl (some (.int (xpi (mhi (qZ μ 3) t c i)))), h) := by
  intro i
  induction i with
  | zero =>
    intro hi
    refine x_iload_n dM_layerOf_9 rfl ?_
    refine x_if_lt 40 dM_layerOf_10 (by decide) (fun _ => ?_) (fun hc => absurd ((xpi_neg 0 (by decide)).mpr rfl) hc)
    refine x_iconst (v := (-1)) dM_layerOf_40 (by decide) ?_
    exact x_iret rfl dM_layerOf_41
  | succ i ih =>
    intro hi
    refine x_iload_n dM_layerOf_9 rfl ?_
    refine x_if_lt 40 dM_layerOf_10 (by decide) (fun hc => absurd ((xpi_neg _ (by omega)).mp hc) (by omega)) (fun _ => ?_)
    refine x_aload_n dM_layerOf_13 rfl ?_
    refine x_get fM_wrote dM_layerOf_14 H.1 rfl ?_
    refine x_bipush (v := (nI 8)) dM_layerOf_17 (by decide) ?_
    refine x_iload_n dM_layerOf_19 rfl ?_
    refine x_imul dM_layerOf_20 ?_
    refine x_iload_n dM_layerOf_21 rfl ?_
    refine x_iadd dM_layerOf_22 ?_
    refine x_bipush (v := (nI 16)) dM_layerOf_23 (by decide) ?_
    refine x_imul dM_layerOf_25 ?_
    refine x_iload_n dM_layerOf_26 rfl ?_
    refine x_iadd dM_layerOf_27 ?_
    refine x_zald ((8 * t + i) * 16 + c) dM_layerOf_28 H.a3 (by simp only [xpi, pk_mul, nI_add]) (by omega) (by decide) ?_
    refine x_if_eq 34 dM_layerOf_29 (by decide) (fun hz => ?_) (fun hz => ?_)
    · have hz' : qZ μ 3 ((8 * t + i) * 16 + c) = false := by
        cases hx : qZ μ 3 ((8 * t + i) * 16 + c)
        · rfl
        · exact absurd hz (xb_ne hx)
      rw [show mhi (qZ μ 3) t c (i + 1) = mhi (qZ μ 3) t c i from if_neg (by rw [hz']; decide)]
      refine x_iinc (v := xpi i) dM_layerOf_34 rfl (xpi_dec i) (Nat.le_of_ble_eq_true rfl) ?_
      refine x_goto 9 dM_layerOf_37 (by decide) ?_
      exact ih (by omega)
    · have hz' : qZ μ 3 ((8 * t + i) * 16 + c) = true := by
        cases hx : qZ μ 3 ((8 * t + i) * 16 + c)
        · exact absurd (xb_eq hx) hz
        · rfl
      rw [show mhi (qZ μ 3) t c (i + 1) = i + 1 from if_pos hz']
      refine x_iload_n dM_layerOf_32 rfl ?_
      exact x_iret rfl dM_layerOf_33
theorem m_layerOf {t c : Nat} (H : QP m h0 μ h) (ht : t < 16) (hc : c < 16) (hl : qI μ 6 t ≤ 8) : xG E d mM_layerOf 0 [(0, .ref m), (1, .int (nI t)), (2, .int (nI c))] [] false h (false, .inl (some (.int (xpi (mlo μ t c)))), h) := by
  refine x_aload_n dM_layerOf_0 rfl ?_
  refine x_get fM_layers dM_layerOf_1 H.1 rfl ?_
  refine x_iload_n dM_layerOf_4 rfl ?_
  refine x_iald t dM_layerOf_5 H.a6 (by simp only [pk_mul, nI_add]) (by omega) (by decide) ?_
  refine x_iconst (v := (nI 1)) dM_layerOf_6 (by decide) ?_
  refine x_isub dM_layerOf_7 ?_
  refine x_top (by rw [xpi_of]) ?_
  refine x_istore_n dM_layerOf_8 (Nat.le_of_ble_eq_true rfl) ?_
  exact m_layerOf_loop H ht hc _ hl
theorem mlo_le (μ : qS) (t c : Nat) : mlo μ t c ≤ qI μ 6 t := mhi_le _ _ _ _
theorem m_reading {t c : Nat} (H : QP m h0 μ h) (ht : t < 16) (hc : c < 16) (hl : qI μ 6 t ≤ 8) : xG E (d + 1) mM_reading 0 [(0, .ref m), (1, .int (nI t)), (2, .int (nI c))] [] false h (false, .inl (some (.long (mrd μ t c))), h) := by
  have hle := mlo_le μ t c
  refine x_aload_n dM_reading_0 rfl ?_
  refine x_iload_n dM_reading_1 rfl ?_
  refine x_iload_n dM_reading_2 rfl ?_
  refine x_callV2 cM_M_layerOf dM_reading_3 H.1 (Nat.le_of_ble_eq_true rfl) (Nat.le_of_ble_eq_true rfl) (m_layerOf H ht hc hl) ?_
  refine x_istore_n dM_reading_6 (Nat.le_of_ble_eq_true rfl) ?_
  refine x_iload_n dM_reading_7 rfl ?_
  refine x_iconst (v := (-1)) dM_reading_8 (by decide) ?_
  refine x_icmp_ne 26 dM_reading_9 (by decide) (fun hz => ?_) (fun hz => ?_)
  · have hz' : mlo μ t c ≠ 0 := fun q => hz ((xpi_m1 (by omega)).mpr q)
    rw [show mrd μ t c = _ from if_neg hz']
    refine x_aload_n dM_reading_26 rfl ?_
    refine x_get fM_value dM_reading_27 H.1 rfl ?_
    refine x_bipush (v := (nI 8)) dM_reading_30 (by decide) ?_
    refine x_iload_n dM_reading_32 rfl ?_
    refine x_imul dM_reading_33 ?_
    refine x_iload_n dM_reading_34 rfl ?_
    refine x_iadd dM_reading_35 ?_
    refine x_bipush (v := (nI 16)) dM_reading_36 (by decide) ?_
    refine x_imul dM_reading_38 ?_
    refine x_iload_n dM_reading_39 rfl ?_
    refine x_iadd dM_reading_40 ?_
    refine x_lald ((8 * t + (mlo μ t c - 1)) * 16 + c) dM_reading_41 H.a8 ?_ (by omega) (by decide) ?_
    · cases hx : mlo μ t c with
      | zero => exact absurd hx hz'
      | succ n => simp only [xpi, pk_mul, nI_add, Nat.add_sub_cancel]
    exact x_lret rfl dM_reading_42
  · rw [show mrd μ t c = _ from if_pos ((xpi_m1 (by omega)).mp hz)]
    refine x_aload_n dM_reading_12 rfl ?_
    refine x_get fM_began dM_reading_13 H.1 rfl ?_
    refine x_bipush (v := (nI 16)) dM_reading_16 (by decide) ?_
    refine x_iload_n dM_reading_18 rfl ?_
    refine x_imul dM_reading_19 ?_
    refine x_iload_n dM_reading_20 rfl ?_
    refine x_iadd dM_reading_21 ?_
    refine x_lald (16 * t + c) dM_reading_22 H.a7 (by simp only [pk_mul, nI_add]) (by omega) (by decide) ?_
    refine x_goto 42 dM_reading_23 (by decide) ?_
    exact x_lret rfl dM_reading_42
theorem m_isSpoiled {t c : Nat} (H : QP m h0 μ h) (ht : t < 16) (hc : c < 16) (hl : qI μ 6 t ≤ 8) (hs : qI μ 4 t < 2 ^ 31) (hk : qI μ 5 t < 2 ^ 31) (hla : qI μ 11 c < 2 ^ 31) : xG E (d + 1) mM_isSpoiled 0 [(0, .ref m), (1, .int (nI t)), (2, .int (nI c))] [] false h (false, .inl (some (.int (xb (msp μ t c)))), h) := by
  have hle := mlo_le μ t c
  refine x_aload_n dM_isSpoiled_0 rfl ?_
  refine x_get fM_last dM_isSpoiled_1 H.1 rfl ?_
  refine x_iload_n dM_isSpoiled_4 rfl ?_
  refine x_iald c dM_isSpoiled_5 H.a11 (by simp only [pk_mul, nI_add]) (by omega) (by decide) ?_
  refine x_aload_n dM_isSpoiled_6 rfl ?_
  refine x_get fM_start dM_isSpoiled_7 H.1 rfl ?_
  refine x_iload_n dM_isSpoiled_10 rfl ?_
  refine x_iald t dM_isSpoiled_11 H.a4 (by simp only [pk_mul, nI_add]) (by omega) (by decide) ?_
  refine x_icmp_le 53 dM_isSpoiled_12 (by decide) (fun hz => ?_) (fun hz => ?_)
  · rw [show msp μ t c = false by unfold msp; rw [decide_eq_false (Nat.not_lt.mpr ((nI_leI hla hs).mp hz))]; rfl]
    refine x_iconst (v := (xb false)) dM_isSpoiled_53 (by decide) ?_
    exact x_zret (xb_n _) rfl dM_isSpoiled_54
  · have e1 : decide (qI μ 4 t < qI μ 11 c) = true := decide_eq_true (Nat.lt_of_not_le (fun q => hz (nI_le q hs)))
    refine x_aload_n dM_isSpoiled_15 rfl ?_
    refine x_iload_n dM_isSpoiled_16 rfl ?_
    refine x_iload_n dM_isSpoiled_17 rfl ?_
    refine x_callV2 cM_M_layerOf dM_isSpoiled_18 H.1 (Nat.le_of_ble_eq_true rfl) (Nat.le_of_ble_eq_true rfl) (m_layerOf H ht hc hl) ?_
    refine x_iconst (v := (-1)) dM_isSpoiled_21 (by decide) ?_
    refine x_icmp_ne 49 dM_isSpoiled_22 (by decide) (fun hy => ?_) (fun hy => ?_)
    · rw [show msp μ t c = true by unfold msp; rw [e1, decide_eq_true (show mlo μ t c ≠ 0 from fun q => hy ((xpi_m1 (by omega)).mpr q))]; rfl]
      refine x_iconst (v := (xb true)) dM_isSpoiled_49 (by decide) ?_
      refine x_goto 54 dM_isSpoiled_50 (by decide) ?_
      exact x_zret (xb_n _) rfl dM_isSpoiled_54
    · have e2 : mlo μ t c = 0 := (xpi_m1 (by omega)).mp hy
      refine x_aload_n dM_isSpoiled_25 rfl ?_
      refine x_get fM_kind dM_isSpoiled_26 H.1 rfl ?_
      refine x_iload_n dM_isSpoiled_29 rfl ?_
      refine x_iald t dM_isSpoiled_30 H.a5 (by simp only [pk_mul, nI_add]) (by omega) (by decide) ?_
      refine x_iconst (v := (nI 1)) dM_isSpoiled_31 (by decide) ?_
      refine x_icmp_ne 53 dM_isSpoiled_32 (by decide) (fun hx => ?_) (fun hx => ?_)
      · rw [show msp μ t c = false by unfold msp; rw [e1, e2, decide_eq_false (show ¬ qI μ 5 t = 1 from fun q => hx (by show nI (qI μ 5 t) = nI 1; rw [q]))]; rfl]
        refine x_iconst (v := (xb false)) dM_isSpoiled_53 (by decide) ?_
        exact x_zret (xb_n _) rfl dM_isSpoiled_54
      · have e3 : qI μ 5 t = 1 := (nI_eq hk (by decide)).mp hx
        rw [show msp μ t c = qZ μ 2 (16 * t + c) by unfold msp; rw [e1, e2, decide_eq_true e3]; rfl]
        refine x_aload_n dM_isSpoiled_35 rfl ?_
        refine x_get fM_saw dM_isSpoiled_36 H.1 rfl ?_
        refine x_bipush (v := (nI 16)) dM_isSpoiled_39 (by decide) ?_
        refine x_iload_n dM_isSpoiled_41 rfl ?_
        refine x_imul dM_isSpoiled_42 ?_
        refine x_iload_n dM_isSpoiled_43 rfl ?_
        refine x_iadd dM_isSpoiled_44 ?_
        refine x_zald (16 * t + c) dM_isSpoiled_45 H.a2 (by simp only [pk_mul, nI_add]) (by omega) (by decide) ?_
        refine x_if_eq 53 dM_isSpoiled_46 (by decide) (fun hw => ?_) (fun hw => ?_)
        · cases hx : qZ μ 2 (16 * t + c)
          · refine x_iconst (v := (xb false)) dM_isSpoiled_53 (by decide) ?_
            exact x_zret (xb_n _) rfl dM_isSpoiled_54
          · exact absurd hw (xb_ne hx)
        · cases hx : qZ μ 2 (16 * t + c)
          · exact absurd (xb_eq hx) hw
          · refine x_iconst (v := (xb true)) dM_isSpoiled_49 (by decide) ?_
            refine x_goto 54 dM_isSpoiled_50 (by decide) ?_
            exact x_zret (xb_n _) rfl dM_isSpoiled_54
def mwr (μ : qS) (t : Nat) : Nat := cnt (fun c => decide (mlo μ t c ≠ 0)) 16
def msc (μ : qS) (t : Nat) : Nat := cnt (msp μ t) 16
theorem m_written_loop {t : Nat} (H : QP m h0 μ h) (ht : t < 16) (hl : qI μ 6 t ≤ 8) : ∀ n c : Nat, c + n = 16 → xG E (d + 1) mM_written 4 [(3, .int (nI c)), (2, .int (nI (cnt (fun c => decide (mlo μ t c ≠ 0)) c))), (0, .ref m), (1, .int (nI t))] [] false h (false, .inl (some (.int (nI (mwr μ t)))), h) := by
  intro n
  induction n with
  | zero =>
    intro c hc
    obtain rfl : c = 16 := by omega
    refine x_iload_n dM_written_4 rfl ?_
    refine x_bipush (v := (nI 16)) dM_written_5 (by decide) ?_
    refine x_icmp_ge 29 dM_written_7 (by decide) (fun _ => ?_) (fun hq => absurd (nI_le (by omega) (by omega)) hq)
    refine x_iload_n dM_written_29 rfl ?_
    exact x_iret rfl dM_written_30
  | succ n ih =>
    intro c hc
    have hle := mlo_le μ t c
    have ih' := ih (c + 1) (by omega)
    refine x_iload_n dM_written_4 rfl ?_
    refine x_bipush (v := (nI 16)) dM_written_5 (by decide) ?_
    refine x_icmp_ge 29 dM_written_7 (by decide) (fun hq => absurd hq (nI_ge (by omega) (by omega))) (fun _ => ?_)
    refine x_aload_n dM_written_10 rfl ?_
    refine x_iload_n dM_written_11 rfl ?_
    refine x_iload_n dM_written_12 rfl ?_
    refine x_callV2 cM_M_layerOf dM_written_13 H.1 (Nat.le_of_ble_eq_true rfl) (Nat.le_of_ble_eq_true rfl) (m_layerOf H ht (by omega) hl) ?_
    refine x_iconst (v := (-1)) dM_written_16 (by decide) ?_
    refine x_icmp_eq 23 dM_written_17 (by decide) (fun hy => ?_) (fun hy => ?_)
    · rw [show cnt (fun c => decide (mlo μ t c ≠ 0)) (c + 1) = cnt (fun c => decide (mlo μ t c ≠ 0)) c from if_neg (by simp [(xpi_m1 (show mlo μ t c < 2 ^ 31 by omega)).mp hy])] at ih'
      refine x_iinc (v := nI (c + 1)) dM_written_23 rfl (by rw [nI_succ]; rfl) (Nat.le_of_ble_eq_true rfl) ?_
      refine x_goto 4 dM_written_26 (by decide) ?_
      exact ih'
    · rw [show cnt (fun c => decide (mlo μ t c ≠ 0)) (c + 1) = cnt (fun c => decide (mlo μ t c ≠ 0)) c + 1 from if_pos (by simp; exact fun q => hy ((xpi_m1 (show mlo μ t c < 2 ^ 31 by omega)).mpr q))] at ih'
      refine x_iinc (v := nI (cnt (fun c => decide (mlo μ t c ≠ 0)) c + 1)) dM_written_20 rfl (by rw [nI_succ]; rfl) (Nat.le_of_ble_eq_true rfl) ?_
      refine x_iinc (v := nI (c + 1)) dM_written_23 rfl (by rw [nI_succ]; rfl) (Nat.le_of_ble_eq_true rfl) ?_
      refine x_goto 4 dM_written_26 (by decide) ?_
      exact x_loc _ (xac rfl (xac rfl (xac rfl (xac rfl xan)))) ih'
theorem m_written {t : Nat} (H : QP m h0 μ h) (ht : t < 16) (hl : qI μ 6 t ≤ 8) : xG E (d + 1) mM_written 0 [(0, .ref m), (1, .int (nI t))] [] false h (false, .inl (some (.int (nI (mwr μ t)))), h) := by
  refine x_iconst (v := (nI 0)) dM_written_0 (by decide) ?_
  refine x_istore_n dM_written_1 (Nat.le_of_ble_eq_true rfl) ?_
  refine x_iconst (v := (nI 0)) dM_written_2 (by decide) ?_
  refine x_istore_n dM_written_3 (Nat.le_of_ble_eq_true rfl) ?_
  exact m_written_loop H ht hl 16 0 rfl
theorem m_spoils_loop {t : Nat} (H : QP m h0 μ h) (ht : t < 16) (hl : qI μ 6 t ≤ 8) (hs : qI μ 4 t < 2 ^ 31) (hk : qI μ 5 t < 2 ^ 31) (hla : ∀ c, c < 16 → qI μ 11 c < 2 ^ 31) : ∀ n c : Nat, c + n = 16 → xG E (d + 2) mM_spoils 4 [(3, .int (nI c)), (2, .int (nI (cnt (msp μ t) c))), (0, .ref m), (1, .int (nI t))] [] false h (false, .inl (some (.int (nI (msc μ t)))), h) := by
  intro n
  induction n with
  | zero =>
    intro c hc
    obtain rfl : c = 16 := by omega
    refine x_iload_n dM_spoils_4 rfl ?_
    refine x_bipush (v := (nI 16)) dM_spoils_5 (by decide) ?_
    refine x_icmp_ge 28 dM_spoils_7 (by decide) (fun _ => ?_) (fun hq => absurd (nI_le (by omega) (by omega)) hq)
    refine x_iload_n dM_spoils_28 rfl ?_
    exact x_iret rfl dM_spoils_29
  | succ n ih =>
    intro c hc
    have ih' := ih (c + 1) (by omega)
    refine x_iload_n dM_spoils_4 rfl ?_
    refine x_bipush (v := (nI 16)) dM_spoils_5 (by decide) ?_
    refine x_icmp_ge 28 dM_spoils_7 (by decide) (fun hq => absurd hq (nI_ge (by omega) (by omega))) (fun _ => ?_)
    refine x_aload_n dM_spoils_10 rfl ?_
    refine x_iload_n dM_spoils_11 rfl ?_
    refine x_iload_n dM_spoils_12 rfl ?_
    refine x_callV2 cM_M_isSpoiled dM_spoils_13 H.1 (Nat.le_of_ble_eq_true rfl) (Nat.le_of_ble_eq_true rfl) (m_isSpoiled H ht (by omega) hl hs hk (hla c (by omega))) ?_
    cases hx : msp μ t c with
    | false =>
      refine x_if_eq 22 dM_spoils_16 (by decide) (fun hy => ?_) (fun hy => absurd rfl hy)
      rw [show cnt (msp μ t) (c + 1) = cnt (msp μ t) c from if_neg (by rw [hx]; decide)] at ih'
      refine x_iinc (v := nI (c + 1)) dM_spoils_22 rfl (by rw [nI_succ]; rfl) (Nat.le_of_ble_eq_true rfl) ?_
      refine x_goto 4 dM_spoils_25 (by decide) ?_
      exact ih'
    | true =>
      refine x_if_eq 22 dM_spoils_16 (by decide) (fun hy => absurd hy (by decide)) (fun _ => ?_)
      rw [show cnt (msp μ t) (c + 1) = cnt (msp μ t) c + 1 from if_pos hx] at ih'
      refine x_iinc (v := nI (cnt (msp μ t) c + 1)) dM_spoils_19 rfl (by rw [nI_succ]; rfl) (Nat.le_of_ble_eq_true rfl) ?_
      refine x_iinc (v := nI (c + 1)) dM_spoils_22 rfl (by rw [nI_succ]; rfl) (Nat.le_of_ble_eq_true rfl) ?_
      refine x_goto 4 dM_spoils_25 (by decide) ?_
      exact x_loc _ (xac rfl (xac rfl (xac rfl (xac rfl xan)))) ih'
theorem m_spoils {t : Nat} (H : QP m h0 μ h) (ht : t < 16) (hl : qI μ 6 t ≤ 8) (hs : qI μ 4 t < 2 ^ 31) (hk : qI μ 5 t < 2 ^ 31) (hla : ∀ c, c < 16 → qI μ 11 c < 2 ^ 31) : xG E (d + 2) mM_spoils 0 [(0, .ref m), (1, .int (nI t))] [] false h (false, .inl (some (.int (nI (msc μ t)))), h) := by
  refine x_iconst (v := (nI 0)) dM_spoils_0 (by decide) ?_
  refine x_istore_n dM_spoils_1 (Nat.le_of_ble_eq_true rfl) ?_
  refine x_iconst (v := (nI 0)) dM_spoils_2 (by decide) ?_
  refine x_istore_n dM_spoils_3 (Nat.le_of_ble_eq_true rfl) ?_
  exact m_spoils_loop H ht hl hs hk hla 16 0 rfl
theorem m_all_loop (H : QP m h0 μ h) : ∀ n c : Nat, c + n = 16 → xG E d mM_all 4 [(2, .int (nI c)), (1, .int (nI (sumN (qI μ 9) c))), (0, .ref m)] [] false h (false, .inl (some (.int (nI (sumN (qI μ 9) 16)))), h) := by
  intro n
  induction n with
  | zero =>
    intro c hc
    obtain rfl : c = 16 := by omega
    refine x_iload_n dM_all_4 rfl ?_
    refine x_bipush (v := (nI 16)) dM_all_5 (by decide) ?_
    refine x_icmp_ge 25 dM_all_7 (by decide) (fun _ => ?_) (fun hq => absurd (nI_le (by omega) (by omega)) hq)
    refine x_iload_n dM_all_25 rfl ?_
    exact x_iret rfl dM_all_26
  | succ n ih =>
    intro c hc
    have ih' := ih (c + 1) (by omega)
    refine x_iload_n dM_all_4 rfl ?_
    refine x_bipush (v := (nI 16)) dM_all_5 (by decide) ?_
    refine x_icmp_ge 25 dM_all_7 (by decide) (fun hq => absurd hq (nI_ge (by omega) (by omega))) (fun _ => ?_)
    refine x_iload_n dM_all_10 rfl ?_
    refine x_aload_n dM_all_11 rfl ?_
    refine x_get fM_versions dM_all_12 H.1 rfl ?_
    refine x_iload_n dM_all_15 rfl ?_
    refine x_iald c dM_all_16 H.a9 (by simp only [pk_mul, nI_add]) (by omega) (by decide) ?_
    refine x_iadd dM_all_17 ?_
    refine x_top (v' := .int (nI (sumN (qI μ 9) (c + 1)))) (by rw [nI_add]; rfl) ?_
    refine x_istore_n dM_all_18 (Nat.le_of_ble_eq_true rfl) ?_
    refine x_iinc (v := nI (c + 1)) dM_all_19 rfl (by rw [nI_succ]; rfl) (Nat.le_of_ble_eq_true rfl) ?_
    refine x_goto 4 dM_all_22 (by decide) ?_
    exact x_loc _ (xac rfl (xac rfl (xac rfl xan))) ih'
theorem m_all (H : QP m h0 μ h) : xG E d mM_all 0 [(0, .ref m)] [] false h (false, .inl (some (.int (nI (sumN (qI μ 9) 16)))), h) := by
  refine x_iconst (v := (nI 0)) dM_all_0 (by decide) ?_
  refine x_istore_n dM_all_1 (Nat.le_of_ble_eq_true rfl) ?_
  refine x_iconst (v := (nI 0)) dM_all_2 (by decide) ?_
  refine x_istore_n dM_all_3 (Nat.le_of_ble_eq_true rfl) ?_
  exact m_all_loop H 16 0 rfl
theorem m_floor_loop (H : QP m h0 μ h) (hk : qK μ < 2 ^ 31) (hs : ∀ t, t < 16 → qZ μ 1 t = true → qI μ 4 t < 2 ^ 31) : ∀ n t : Nat, t + n = 16 → xG E (d + 1) mM_floor 7 [(2, .int (nI t)), (1, .int (nI (mflo μ t))), (0, .ref m)] [] false h (false, .inl (some (.int (nI (mflo μ 16)))), h) := by
  intro n
  induction n with
  | zero =>
    intro t ht
    obtain rfl : t = 16 := by omega
    refine x_iload_n dM_floor_7 rfl ?_
    refine x_bipush (v := (nI 16)) dM_floor_8 (by decide) ?_
    refine x_icmp_ge 39 dM_floor_10 (by decide) (fun _ => ?_) (fun hq => absurd (nI_le (by omega) (by omega)) hq)
    refine x_iload_n dM_floor_39 rfl ?_
    exact x_iret rfl dM_floor_40
  | succ n ih =>
    intro t ht
    have ih' := ih (t + 1) (by omega)
    have hfl := mflo_le μ t
    refine x_iload_n dM_floor_7 rfl ?_
    refine x_bipush (v := (nI 16)) dM_floor_8 (by decide) ?_
    refine x_icmp_ge 39 dM_floor_10 (by decide) (fun hq => absurd hq (nI_ge (by omega) (by omega))) (fun _ => ?_)
    refine x_aload_n dM_floor_13 rfl ?_
    refine x_get fM_open dM_floor_14 H.1 rfl ?_
    refine x_iload_n dM_floor_17 rfl ?_
    refine x_zald t dM_floor_18 H.a1 (by simp only [pk_mul, nI_add]) (by omega) (by decide) ?_
    cases ho : qZ μ 1 t with
    | true =>
      have hst := hs t (by omega) ho
      refine x_if_eq 33 dM_floor_19 (by decide) (fun hc => absurd hc (xb_ne rfl)) (fun _ => ?_)
      refine x_iload_n dM_floor_22 rfl ?_
      refine x_aload_n dM_floor_23 rfl ?_
      refine x_get fM_start dM_floor_24 H.1 rfl ?_
      refine x_iload_n dM_floor_27 rfl ?_
      refine x_iald t dM_floor_28 H.a4 (by simp only [pk_mul, nI_add]) (by omega) (by decide) ?_
      refine x_callS2 cM_J_min dM_floor_29 (Nat.le_of_ble_eq_true rfl) (Nat.le_of_ble_eq_true rfl) (j_min (d := d) (by omega) (by omega)) ?_
      rw [show min (mflo μ t) (qI μ 4 t) = mflo μ (t + 1) from (if_pos ho).symm]
      refine x_istore_n dM_floor_32 (Nat.le_of_ble_eq_true rfl) ?_
      refine x_iinc (v := nI (t + 1)) dM_floor_33 rfl (by rw [nI_succ]; rfl) (Nat.le_of_ble_eq_true rfl) ?_
      refine x_goto 7 dM_floor_36 (by decide) ?_
      exact x_loc _ (xac rfl (xac rfl (xac rfl xan))) ih'
    | false =>
      rw [show mflo μ (t + 1) = mflo μ t from if_neg (by rw [ho]; decide)] at ih'
      refine x_if_eq 33 dM_floor_19 (by decide) (fun _ => ?_) (fun hc => absurd (xb_eq rfl) hc)
      refine x_iinc (v := nI (t + 1)) dM_floor_33 rfl (by rw [nI_succ]; rfl) (Nat.le_of_ble_eq_true rfl) ?_
      refine x_goto 7 dM_floor_36 (by decide) ?_
      exact ih'
theorem m_floor (H : QP m h0 μ h) (hk : qK μ < 2 ^ 31) (hs : ∀ t, t < 16 → qZ μ 1 t = true → qI μ 4 t < 2 ^ 31) : xG E (d + 1) mM_floor 0 [(0, .ref m)] [] false h (false, .inl (some (.int (nI (mflo μ 16)))), h) := by
  refine x_aload_n dM_floor_0 rfl ?_
  refine x_get fM_clock dM_floor_1 H.1 rfl ?_
  refine x_istore_n dM_floor_4 (Nat.le_of_ble_eq_true rfl) ?_
  refine x_iconst (v := (nI 0)) dM_floor_5 (by decide) ?_
  refine x_istore_n dM_floor_6 (Nat.le_of_ble_eq_true rfl) ?_
  exact m_floor_loop H hk hs 16 0 rfl
theorem m_clear_loop {t l : Nat} (hb : E.2.2.1 ≤ m) (ht : t < 16) (hl : l < 8) : ∀ (n c : Nat) (μ : qS) (h : xH), c + n = 16 → QP m h0 μ h → ∃ h', xG E d mM_clear 2 [(3, .int (nI c)), (0, .ref m), (1, .int (nI t)), (2, .int (nI l))] [] true h (true, .inl none, h') ∧ QP m h0 (mclr ((8 * t + l) * 16) n c μ) h' := by
  intro n
  induction n with
  | zero =>
    intro c μ h hc H
    obtain rfl : c = 16 := by omega
    refine ⟨_, ?_, H⟩
    refine x_iload_n dM_clear_2 rfl ?_
    refine x_bipush (v := (nI 16)) dM_clear_3 (by decide) ?_
    refine x_icmp_ge 31 dM_clear_5 (by decide) (fun _ => ?_) (fun hq => absurd (nI_le (by omega) (by omega)) hq)
    exact x_vret rfl dM_clear_31
  | succ n ih =>
    intro c μ h hc H
    obtain ⟨h', k, H'⟩ := ih (c + 1) _ _ (by omega) (H.s3 ((8 * t + l) * 16 + c) false)
    refine ⟨h', ?_, H'⟩
    refine x_iload_n dM_clear_2 rfl ?_
    refine x_bipush (v := (nI 16)) dM_clear_3 (by decide) ?_
    refine x_icmp_ge 31 dM_clear_5 (by decide) (fun hq => absurd hq (nI_ge (by omega) (by omega))) (fun _ => ?_)
    refine x_aload_n dM_clear_8 rfl ?_
    refine x_get fM_wrote dM_clear_9 H.1 rfl ?_
    refine x_bipush (v := (nI 8)) dM_clear_12 (by decide) ?_
    refine x_iload_n dM_clear_14 rfl ?_
    refine x_imul dM_clear_15 ?_
    refine x_iload_n dM_clear_16 rfl ?_
    refine x_iadd dM_clear_17 ?_
    refine x_bipush (v := (nI 16)) dM_clear_18 (by decide) ?_
    refine x_imul dM_clear_20 ?_
    refine x_iload_n dM_clear_21 rfl ?_
    refine x_iadd dM_clear_22 ?_
    refine x_iconst (v := (xb false)) dM_clear_23 (by decide) ?_
    refine x_zast ((8 * t + l) * 16 + c) dM_clear_24 H.a3 (by omega) (by simp only [pk_mul, nI_add]) (by omega) (by decide) rfl ?_
    refine x_iinc (v := nI (c + 1)) dM_clear_25 rfl (by rw [nI_succ]; rfl) (Nat.le_of_ble_eq_true rfl) ?_
    refine x_goto 2 dM_clear_28 (by decide) ?_
    exact k
theorem m_clear {t l : Nat} (hb : E.2.2.1 ≤ m) (ht : t < 16) (hl : l < 8) (H : QP m h0 μ h) : ∃ h', xG E d mM_clear 0 [(0, .ref m), (1, .int (nI t)), (2, .int (nI l))] [] false h (true, .inl none, h') ∧ QP m h0 (mclr ((8 * t + l) * 16) 16 0 μ) h' := by
  obtain ⟨h', k, H'⟩ := m_clear_loop (E := E) (d := d) hb ht hl 16 0 μ h rfl H
  refine ⟨h', ?_, H'⟩
  refine x_true ?_
  refine x_iconst (v := (nI 0)) dM_clear_0 (by decide) ?_
  refine x_istore_n dM_clear_1 (Nat.le_of_ble_eq_true rfl) ?_
  exact k
end
end
section
/-! VersionDeskModel: its public methods -/
theorem sZ_ne {μ : qS} {k k' j : Nat} {v : Bool} (h : k' ≠ k) : qZ (sZ μ k j v) k' = qZ μ k' := up_ne _ _ h
theorem sI_ne {μ : qS} {k k' j v : Nat} (h : k' ≠ k) : qI (sI μ k j v) k' = qI μ k' := up_ne _ _ h
theorem sL_ne {μ : qS} {k k' j : Nat} {v : Int64} (h : k' ≠ k) : qL (sL μ k j v) k' = qL μ k' := up_ne _ _ h
theorem sZ_at {μ : qS} {k j : Nat} {v : Bool} : qZ (sZ μ k j v) k = va_up (qZ μ k) j v := up_eq _ _ _
theorem sI_at {μ : qS} {k j v : Nat} : qI (sI μ k j v) k = va_up (qI μ k) j v := up_eq _ _ _
theorem sL_at {μ : qS} {k j : Nat} {v : Int64} : qL (sL μ k j v) k = va_up (qL μ k) j v := up_eq _ _ _
theorem qK_sX (μ : qS) (x : Nat) : qK (sX μ x) = qK μ := rfl
theorem qZ_sX (μ : qS) (x : Nat) : qZ (sX μ x) = qZ μ := rfl
theorem qI_sX (μ : qS) (x : Nat) : qI (sX μ x) = qI μ := rfl
theorem qL_sX (μ : qS) (x : Nat) : qL (sX μ x) = qL μ := rfl
theorem qX_sC (μ : qS) (x : Nat) : qX (sC μ x) = qX μ := rfl
theorem qZ_sC (μ : qS) (x : Nat) : qZ (sC μ x) = qZ μ := rfl
theorem qI_sC (μ : qS) (x : Nat) : qI (sC μ x) = qI μ := rfl
theorem qL_sC (μ : qS) (x : Nat) : qL (sC μ x) = qL μ := rfl
theorem qX_sZ (μ : qS) (k j : Nat) (v : Bool) : qX (sZ μ k j v) = qX μ := rfl
theorem qK_sZ (μ : qS) (k j : Nat) (v : Bool) : qK (sZ μ k j v) = qK μ := rfl
theorem qI_sZ (μ : qS) (k j : Nat) (v : Bool) : qI (sZ μ k j v) = qI μ := rfl
theorem qL_sZ (μ : qS) (k j : Nat) (v : Bool) : qL (sZ μ k j v) = qL μ := rfl
theorem qX_sI (μ : qS) (k j v : Nat) : qX (sI μ k j v) = qX μ := rfl
theorem qK_sI (μ : qS) (k j v : Nat) : qK (sI μ k j v) = qK μ := rfl
theorem qZ_sI (μ : qS) (k j v : Nat) : qZ (sI μ k j v) = qZ μ := rfl
theorem qL_sI (μ : qS) (k j v : Nat) : qL (sI μ k j v) = qL μ := rfl
theorem qX_sL (μ : qS) (k j : Nat) (v : Int64) : qX (sL μ k j v) = qX μ := rfl
theorem qK_sL (μ : qS) (k j : Nat) (v : Int64) : qK (sL μ k j v) = qK μ := rfl
theorem qZ_sL (μ : qS) (k j : Nat) (v : Int64) : qZ (sL μ k j v) = qZ μ := rfl
theorem qI_sL (μ : qS) (k j : Nat) (v : Int64) : qI (sL μ k j v) = qI μ := rfl
theorem qX_sX (μ : qS) (x : Nat) : qX (sX μ x) = x := rfl
theorem qK_sC (μ : qS) (x : Nat) : qK (sC μ x) = x := rfl
theorem mclr_I (a : Nat) : ∀ n c μ, qI (mclr a n c μ) = qI μ
  | 0, _, _ => rfl
  | n + 1, c, μ => mclr_I a n (c + 1) (sZ μ 3 (a + c) false)
theorem mclr_L (a : Nat) : ∀ n c μ, qL (mclr a n c μ) = qL μ
  | 0, _, _ => rfl
  | n + 1, c, μ => mclr_L a n (c + 1) (sZ μ 3 (a + c) false)
def mlno (f : Nat → Bool) : Nat → Nat → Nat
  | 0, t => t
  | m + 1, t => if f t = true then mlno f m (t + 1) else t
def mnow (μ : qS) (c : Nat) : Int64 := qL μ 12 (520 * c + qI μ 9 c - 1)
def mbeg (t : Nat) : Nat → Nat → qS → qS
  | 0, _, μ => μ
  | n + 1, c, μ => mbeg t n (c + 1) (sL (sZ μ 2 (16 * t + c) false) 7 (16 * t + c) (mnow μ c))
def qBegin (μ : qS) (t k : Nat) : qS := mbeg t 16 0 (mclr ((8 * t + 0) * 16) 16 0 (sI (sI (sI (sZ (sX μ 0) 1 t true) 4 t (qK μ)) 5 t k) 6 t 1))
theorem qZf {μ : qS} {k j : Nat} (h : ¬ qZ μ k j = true) : qZ μ k j = false := by cases hx : qZ μ k j <;> simp_all
section
variable {E : xE} {d m : Nat} {μ : qS} {h0 h : xH}
theorem m_begin_bad {kd : Int32} (hb : E.2.2.1 ≤ m) (H : QP m h0 μ h) (hk : kd < 0 ∨ nI 1 < kd) : ∃ h', xG E (d + 1) mM_begin 0 [(0, .ref m), (1, .int kd)] [] false h (true, .inl (some (.int (nI 0))), h') ∧ QP m h0 (sX (sX μ 0) 1) h' := by
  have H1 := H.x 0
  obtain ⟨h2, k2, H2⟩ := m_fail (d := d) (x := 1) hb H1
  refine ⟨h2, ?_, H2⟩
  refine x_aload_n dM_begin_0 rfl ?_
  refine x_iconst (v := (nI 0)) dM_begin_1 (by decide) ?_
  refine x_put fM_thrown dM_begin_2 H.1 (by omega) rfl rfl (Nat.le_of_ble_eq_true rfl) ?_
  refine x_iload_n dM_begin_5 rfl ?_
  refine x_if_lt 14 dM_begin_6 (by decide) (fun _ => ?_) (fun hn => ?_)
  · refine x_aload_n dM_begin_14 rfl ?_
    refine x_iconst (v := (nI 1)) dM_begin_15 (by decide) ?_
    refine x_callV1 cM_M_fail dM_begin_16 H1.1 (Nat.le_of_ble_eq_true rfl) (Nat.le_of_ble_eq_true rfl) k2 ?_
    exact x_iret rfl dM_begin_19
  · refine x_iload_n dM_begin_9 rfl ?_
    refine x_iconst (v := (nI 1)) dM_begin_10 (by decide) ?_
    refine x_icmp_le 20 dM_begin_11 (by decide) (fun hq => absurd (hk.resolve_left hn) (Int32.not_lt.mpr hq)) (fun _ => ?_)
    refine x_aload_n dM_begin_14 rfl ?_
    refine x_iconst (v := (nI 1)) dM_begin_15 (by decide) ?_
    refine x_callV1 cM_M_fail dM_begin_16 H1.1 (Nat.le_of_ble_eq_true rfl) (Nat.le_of_ble_eq_true rfl) k2 ?_
    exact x_iret rfl dM_begin_19
theorem m_begin_loop0 {k : Nat} (H : QP m h0 μ h) {r : xR} : ∀ n t : Nat, t + n = 16 → (xG E (d + 1) mM_begin 43 [(2, .int (nI (mlno (qZ μ 1) n t))), (0, .ref m), (1, .int (nI k))] [] true h r) → xG E (d + 1) mM_begin 22 [(2, .int (nI t)), (0, .ref m), (1, .int (nI k))] [] true h r := by
  intro n
  induction n with
  | zero =>
    intro t ht K
    obtain rfl : t = 16 := by omega
    refine x_iload_n dM_begin_22 rfl ?_
    refine x_bipush (v := (nI 16)) dM_begin_23 (by decide) ?_
    refine x_icmp_ge 43 dM_begin_25 (by decide) (fun _ => ?_) (fun hq => absurd (nI_le (by omega) (by omega)) hq)
    exact K
  | succ n ih =>
    intro t ht K
    refine x_iload_n dM_begin_22 rfl ?_
    refine x_bipush (v := (nI 16)) dM_begin_23 (by decide) ?_
    refine x_icmp_ge 43 dM_begin_25 (by decide) (fun hq => absurd hq (nI_ge (by omega) (by omega))) (fun _ => ?_)
    refine x_aload_n dM_begin_28 rfl ?_
    refine x_get fM_open dM_begin_29 H.1 rfl ?_
    refine x_iload_n dM_begin_32 rfl ?_
    refine x_zald t dM_begin_33 H.a1 (by simp only [pk_mul, nI_add]) (by omega) (by decide) ?_
    refine x_if_eq 43 dM_begin_34 (by decide) (fun hq => ?_) (fun hq => ?_)
    · rw [show mlno (qZ μ 1) (n + 1) t = t from if_neg (fun ho => xb_ne ho hq)] at K
      exact K
    · have ho : qZ μ 1 t = true := by
        cases hx : qZ μ 1 t
        · exact absurd (xb_eq hx) hq
        · rfl
      rw [show mlno (qZ μ 1) (n + 1) t = mlno (qZ μ 1) n (t + 1) from if_pos ho] at K
      refine x_iinc (v := nI (t + 1)) dM_begin_37 rfl (by rw [nI_succ]; rfl) (Nat.le_of_ble_eq_true rfl) ?_
      refine x_goto 22 dM_begin_40 (by decide) ?_
      exact ih (t + 1) (by omega) K
theorem m_begin_full {k : Nat} (hk : k < 2) (hb : E.2.2.1 ≤ m) (H : QP m h0 μ h) (hf : mlno (qZ μ 1) 16 0 = 16) : ∃ h', xG E (d + 1) mM_begin 0 [(0, .ref m), (1, .int (nI k))] [] false h (true, .inl (some (.int (nI 0))), h') ∧ QP m h0 (sX (sX μ 0) 2) h' := by
  have H1 := H.x 0
  obtain ⟨h2, k2, H2⟩ := m_fail (d := d) (x := 2) hb H1
  refine ⟨h2, ?_, H2⟩
  refine x_aload_n dM_begin_0 rfl ?_
  refine x_iconst (v := (nI 0)) dM_begin_1 (by decide) ?_
  refine x_put fM_thrown dM_begin_2 H.1 (by omega) rfl rfl (Nat.le_of_ble_eq_true rfl) ?_
  refine x_iload_n dM_begin_5 rfl ?_
  refine x_if_lt 14 dM_begin_6 (by decide) (fun hq => absurd hq (nI_pos (by omega))) (fun hn => ?_)
  refine x_iload_n dM_begin_9 rfl ?_
  refine x_iconst (v := (nI 1)) dM_begin_10 (by decide) ?_
  refine x_icmp_le 20 dM_begin_11 (by decide) (fun _ => ?_) (fun hq => absurd (nI_le (by omega) (by decide)) hq)
  refine x_iconst (v := (nI 0)) dM_begin_20 (by decide) ?_
  refine x_istore_n dM_begin_21 (Nat.le_of_ble_eq_true rfl) ?_
  refine m_begin_loop0 H1 16 0 rfl ?_
  rw [show mlno (qZ (sX μ 0) 1) 16 0 = 16 from hf]
  refine x_iload_n dM_begin_43 rfl ?_
  refine x_bipush (v := (nI 16)) dM_begin_44 (by decide) ?_
  refine x_icmp_ne 55 dM_begin_46 (by decide) (fun hq => absurd rfl hq) (fun _ => ?_)
  refine x_aload_n dM_begin_49 rfl ?_
  refine x_iconst (v := (nI 2)) dM_begin_50 (by decide) ?_
  refine x_callV1 cM_M_fail dM_begin_51 H1.1 (Nat.le_of_ble_eq_true rfl) (Nat.le_of_ble_eq_true rfl) k2 ?_
  exact x_iret rfl dM_begin_54
theorem m_begin_loop {t k : Nat} (hb : E.2.2.1 ≤ m) (ht : t < 16) : ∀ (n c : Nat) (μ : qS) (h : xH), c + n = 16 → (∀ c, c < 16 → 1 ≤ qI μ 9 c ∧ qI μ 9 c ≤ 520) → QP m h0 μ h → ∃ h', xG E (d + 1) mM_begin 94 [(3, .int (nI c)), (2, .int (nI t)), (0, .ref m), (1, .int (nI k))] [] true h (true, .inl (some (.int (nI t))), h') ∧ QP m h0 (mbeg t n c μ) h' := by
  intro n
  induction n with
  | zero =>
    intro c μ h hc hv H
    obtain rfl : c = 16 := by omega
    refine ⟨_, ?_, H⟩
    refine x_iload_n dM_begin_94 rfl ?_
    refine x_bipush (v := (nI 16)) dM_begin_95 (by decide) ?_
    refine x_icmp_ge 134 dM_begin_97 (by decide) (fun _ => ?_) (fun hq => absurd (nI_le (by omega) (by omega)) hq)
    refine x_iload_n dM_begin_134 rfl ?_
    exact x_iret rfl dM_begin_135
  | succ n ih =>
    intro c μ h hc hv H
    have H1 := H.s2 (16 * t + c) false
    have hvc := hv c (by omega)
    obtain ⟨h', k, H'⟩ := ih (c + 1) (sL (sZ μ 2 (16 * t + c) false) 7 (16 * t + c) (mnow μ c)) _ (by omega) hv (H1.s7 (16 * t + c) (mnow μ c))
    refine ⟨h', ?_, H'⟩
    refine x_iload_n dM_begin_94 rfl ?_
    refine x_bipush (v := (nI 16)) dM_begin_95 (by decide) ?_
    refine x_icmp_ge 134 dM_begin_97 (by decide) (fun hq => absurd hq (nI_ge (by omega) (by omega))) (fun _ => ?_)
    refine x_aload_n dM_begin_100 rfl ?_
    refine x_get fM_saw dM_begin_101 H.1 rfl ?_
    refine x_bipush (v := (nI 16)) dM_begin_104 (by decide) ?_
    refine x_iload_n dM_begin_106 rfl ?_
    refine x_imul dM_begin_107 ?_
    refine x_iload_n dM_begin_108 rfl ?_
    refine x_iadd dM_begin_109 ?_
    refine x_iconst (v := (xb false)) dM_begin_110 (by decide) ?_
    refine x_zast (16 * t + c) dM_begin_111 H.a2 (by omega) (by simp only [pk_mul, nI_add]) (by omega) (by decide) rfl ?_
    refine x_aload_n dM_begin_112 rfl ?_
    refine x_get fM_began dM_begin_113 H1.1 rfl ?_
    refine x_bipush (v := (nI 16)) dM_begin_116 (by decide) ?_
    refine x_iload_n dM_begin_118 rfl ?_
    refine x_imul dM_begin_119 ?_
    refine x_iload_n dM_begin_120 rfl ?_
    refine x_iadd dM_begin_121 ?_
    refine x_aload_n dM_begin_122 rfl ?_
    refine x_iload_n dM_begin_123 rfl ?_
    refine x_callV1 cM_M_now dM_begin_124 H1.1 (Nat.le_of_ble_eq_true rfl) (Nat.le_of_ble_eq_true rfl) (m_now (d := d) H1 (by omega) hvc.1 hvc.2) ?_
    refine x_last (16 * t + c) dM_begin_127 H1.a7 (by omega) (by simp only [pk_mul, nI_add]) (by omega) (by decide) ?_
    refine x_iinc (v := nI (c + 1)) dM_begin_128 rfl (by rw [nI_succ]; rfl) (Nat.le_of_ble_eq_true rfl) ?_
    refine x_goto 94 dM_begin_131 (by decide) ?_
    exact k
theorem m_begin_ok {k t : Nat} (hk : k < 2) (hb : E.2.2.1 ≤ m) (H : QP m h0 μ h) (hf : mlno (qZ μ 1) 16 0 = t) (ht : t < 16) (hv : ∀ c, c < 16 → 1 ≤ qI μ 9 c ∧ qI μ 9 c ≤ 520) : ∃ h', xG E (d + 1) mM_begin 0 [(0, .ref m), (1, .int (nI k))] [] false h (true, .inl (some (.int (nI t))), h') ∧ QP m h0 (qBegin μ t k) h' := by
  have H1 := H.x 0
  have H2 := H1.s1 t true
  have H3 := H2.s4 t (qK μ)
  have H4 := H3.s5 t k
  have H5 := H4.s6 t 1
  obtain ⟨h6, k6, H6⟩ := m_clear (E := E) (d := d) (t := t) (l := 0) hb ht (by decide) H5
  have e9 : ∀ c, qI (mclr ((8 * t + 0) * 16) 16 0 (sI (sI (sI (sZ (sX μ 0) 1 t true) 4 t (qK μ)) 5 t k) 6 t 1)) 9 c = qI μ 9 c := fun c => by
    rw [mclr_I, sI_ne (by decide), sI_ne (by decide), sI_ne (by decide)]; rfl
  obtain ⟨h7, k7, H7⟩ := m_begin_loop (E := E) (d := d) (k := k) hb ht 16 0 _ _ rfl (fun c hc => by rw [e9]; exact hv c hc) H6
  refine ⟨h7, ?_, H7⟩
  refine x_aload_n dM_begin_0 rfl ?_
  refine x_iconst (v := (nI 0)) dM_begin_1 (by decide) ?_
  refine x_put fM_thrown dM_begin_2 H.1 (by omega) rfl rfl (Nat.le_of_ble_eq_true rfl) ?_
  refine x_iload_n dM_begin_5 rfl ?_
  refine x_if_lt 14 dM_begin_6 (by decide) (fun hq => absurd hq (nI_pos (by omega))) (fun hn => ?_)
  refine x_iload_n dM_begin_9 rfl ?_
  refine x_iconst (v := (nI 1)) dM_begin_10 (by decide) ?_
  refine x_icmp_le 20 dM_begin_11 (by decide) (fun _ => ?_) (fun hq => absurd (nI_le (by omega) (by decide)) hq)
  refine x_iconst (v := (nI 0)) dM_begin_20 (by decide) ?_
  refine x_istore_n dM_begin_21 (Nat.le_of_ble_eq_true rfl) ?_
  refine m_begin_loop0 H1 16 0 rfl ?_
  rw [show mlno (qZ (sX μ 0) 1) 16 0 = t from hf]
  refine x_iload_n dM_begin_43 rfl ?_
  refine x_bipush (v := (nI 16)) dM_begin_44 (by decide) ?_
  refine x_icmp_ne 55 dM_begin_46 (by decide) (fun _ => ?_) (fun hq => absurd ((nI_eq (by omega) (by decide)).mp hq) (by omega))
  refine x_aload_n dM_begin_55 rfl ?_
  refine x_get fM_open dM_begin_56 H1.1 rfl ?_
  refine x_iload_n dM_begin_59 rfl ?_
  refine x_iconst (v := (xb true)) dM_begin_60 (by decide) ?_
  refine x_zast t dM_begin_61 H1.a1 (by omega) (by simp only [pk_mul, nI_add]) (by omega) (by decide) rfl ?_
  refine x_aload_n dM_begin_62 rfl ?_
  refine x_get fM_start dM_begin_63 H2.1 rfl ?_
  refine x_iload_n dM_begin_66 rfl ?_
  refine x_aload_n dM_begin_67 rfl ?_
  refine x_get fM_clock dM_begin_68 H2.1 rfl ?_
  refine x_iast t dM_begin_71 H2.a4 (by omega) (by simp only [pk_mul, nI_add]) (by omega) (by decide) ?_
  refine x_aload_n dM_begin_72 rfl ?_
  refine x_get fM_kind dM_begin_73 H3.1 rfl ?_
  refine x_iload_n dM_begin_76 rfl ?_
  refine x_iload_n dM_begin_77 rfl ?_
  refine x_iast t dM_begin_78 H3.a5 (by omega) (by simp only [pk_mul, nI_add]) (by omega) (by decide) ?_
  refine x_aload_n dM_begin_79 rfl ?_
  refine x_get fM_layers dM_begin_80 H4.1 rfl ?_
  refine x_iload_n dM_begin_83 rfl ?_
  refine x_iconst (v := (nI 1)) dM_begin_84 (by decide) ?_
  refine x_iast t dM_begin_85 H4.a6 (by omega) (by simp only [pk_mul, nI_add]) (by omega) (by decide) ?_
  refine x_aload_n dM_begin_86 rfl ?_
  refine x_iload_n dM_begin_87 rfl ?_
  refine x_iconst (v := (nI 0)) dM_begin_88 (by decide) ?_
  refine x_callV2 cM_M_clear dM_begin_89 H5.1 (Nat.le_of_ble_eq_true rfl) (Nat.le_of_ble_eq_true rfl) k6 ?_
  refine x_iconst (v := (nI 0)) dM_begin_92 (by decide) ?_
  refine x_istore_n dM_begin_93 (Nat.le_of_ble_eq_true rfl) ?_
  exact k7
theorem mlo_s2 {t c j : Nat} {v : Bool} : mlo (sZ μ 2 j v) t c = mlo μ t c := by unfold mlo; rw [sZ_ne (by decide)]; rfl
theorem mrd_s2 {t c j : Nat} {v : Bool} : mrd (sZ μ 2 j v) t c = mrd μ t c := by unfold mrd; rw [mlo_s2]; rfl
theorem m_read_bad {t c : Int32} (hb : E.2.2.1 ≤ m) (H : QP m h0 μ h) (hbad : qbad μ t) : ∃ h', xG E (d + 2) mM_read 0 [(0, .ref m), (1, .int t), (2, .int c)] [] false h (true, .inl (some (.long 0)), h') ∧ QP m h0 (sX μ 1) h' := by
  obtain ⟨h1, k1, H1⟩ := m_none_bad (d := d) (c := c) hb H hbad
  refine ⟨h1, ?_, H1⟩
  refine x_aload_n dM_read_0 rfl ?_
  refine x_iload_n dM_read_1 rfl ?_
  refine x_iload_n dM_read_2 rfl ?_
  refine x_callV2 cM_M_none dM_read_3 H.1 (Nat.le_of_ble_eq_true rfl) (Nat.le_of_ble_eq_true rfl) k1 ?_
  refine x_if_eq 11 dM_read_6 (by decide) (fun hq => absurd hq (by decide)) (fun _ => ?_)
  refine x_lconst (v := 0) dM_read_9 (by decide) ?_
  exact x_lret rfl dM_read_10
theorem m_read_badc {t : Nat} {c : Int32} (hb : E.2.2.1 ≤ m) (H : QP m h0 μ h) (ht : t < 16) (ho : qZ μ 1 t = true) (hc : badc c) : ∃ h', xG E (d + 2) mM_read 0 [(0, .ref m), (1, .int (nI t)), (2, .int c)] [] false h (true, .inl (some (.long 0)), h') ∧ QP m h0 (sX (sX μ 0) 1) h' := by
  obtain ⟨h1, k1, H1⟩ := m_none_badc (d := d) (c := c) hb H ht ho hc
  refine ⟨h1, ?_, H1⟩
  refine x_aload_n dM_read_0 rfl ?_
  refine x_iload_n dM_read_1 rfl ?_
  refine x_iload_n dM_read_2 rfl ?_
  refine x_callV2 cM_M_none dM_read_3 H.1 (Nat.le_of_ble_eq_true rfl) (Nat.le_of_ble_eq_true rfl) k1 ?_
  refine x_if_eq 11 dM_read_6 (by decide) (fun hq => absurd hq (by decide)) (fun _ => ?_)
  refine x_lconst (v := 0) dM_read_9 (by decide) ?_
  exact x_lret rfl dM_read_10
theorem m_read_saw {t c : Nat} (hb : E.2.2.1 ≤ m) (H : QP m h0 μ h) (ht : t < 16) (ho : qZ μ 1 t = true) (hc : c < 16) (hl : qI μ 6 t ≤ 8) (hw : mlo μ t c ≠ 0) : ∃ h', xG E (d + 2) mM_read 0 [(0, .ref m), (1, .int (nI t)), (2, .int (nI c))] [] false h (true, .inl (some (.long (mrd μ t c))), h') ∧ QP m h0 (sX μ 0) h' := by
  have hle := mlo_le μ t c
  obtain ⟨h1, k1, H1⟩ := m_none (d := d) hb H ht ho hc
  refine ⟨h1, ?_, H1⟩
  refine x_aload_n dM_read_0 rfl ?_
  refine x_iload_n dM_read_1 rfl ?_
  refine x_iload_n dM_read_2 rfl ?_
  refine x_callV2 cM_M_none dM_read_3 H.1 (Nat.le_of_ble_eq_true rfl) (Nat.le_of_ble_eq_true rfl) k1 ?_
  refine x_if_eq 11 dM_read_6 (by decide) (fun _ => ?_) (fun hq => absurd rfl hq)
  refine x_aload_n dM_read_11 rfl ?_
  refine x_iload_n dM_read_12 rfl ?_
  refine x_iload_n dM_read_13 rfl ?_
  refine x_callV2 cM_M_layerOf dM_read_14 H1.1 (Nat.le_of_ble_eq_true rfl) (Nat.le_of_ble_eq_true rfl) (m_layerOf (d := d + 1) H1 ht hc hl) ?_
  refine x_iconst (v := (-1)) dM_read_17 (by decide) ?_
  refine x_icmp_ne 33 dM_read_18 (by decide) (fun _ => ?_) (fun hq => absurd ((xpi_m1 (show mlo μ t c < 2 ^ 31 by omega)).mp hq) hw)
  refine x_aload_n dM_read_33 rfl ?_
  refine x_iload_n dM_read_34 rfl ?_
  refine x_iload_n dM_read_35 rfl ?_
  refine x_callV2 cM_M_reading dM_read_36 H1.1 (Nat.le_of_ble_eq_true rfl) (Nat.le_of_ble_eq_true rfl) (m_reading (d := d) H1 ht hc hl) ?_
  exact x_lret rfl dM_read_39
theorem m_read_see {t c : Nat} (hb : E.2.2.1 ≤ m) (H : QP m h0 μ h) (ht : t < 16) (ho : qZ μ 1 t = true) (hc : c < 16) (hl : qI μ 6 t ≤ 8) (hw : mlo μ t c = 0) : ∃ h', xG E (d + 2) mM_read 0 [(0, .ref m), (1, .int (nI t)), (2, .int (nI c))] [] false h (true, .inl (some (.long (mrd μ t c))), h') ∧ QP m h0 (sZ (sX μ 0) 2 (16 * t + c) true) h' := by
  have hle := mlo_le μ t c
  obtain ⟨h1, k1, H1⟩ := m_none (d := d) hb H ht ho hc
  have H2 := H1.s2 (16 * t + c) true
  refine ⟨_, ?_, H2⟩
  rw [← show mrd (sZ (sX μ 0) 2 (16 * t + c) true) t c = mrd μ t c from mrd_s2 (μ := sX μ 0)]
  refine x_aload_n dM_read_0 rfl ?_
  refine x_iload_n dM_read_1 rfl ?_
  refine x_iload_n dM_read_2 rfl ?_
  refine x_callV2 cM_M_none dM_read_3 H.1 (Nat.le_of_ble_eq_true rfl) (Nat.le_of_ble_eq_true rfl) k1 ?_
  refine x_if_eq 11 dM_read_6 (by decide) (fun _ => ?_) (fun hq => absurd rfl hq)
  refine x_aload_n dM_read_11 rfl ?_
  refine x_iload_n dM_read_12 rfl ?_
  refine x_iload_n dM_read_13 rfl ?_
  refine x_callV2 cM_M_layerOf dM_read_14 H1.1 (Nat.le_of_ble_eq_true rfl) (Nat.le_of_ble_eq_true rfl) (m_layerOf (d := d + 1) H1 ht hc hl) ?_
  refine x_iconst (v := (-1)) dM_read_17 (by decide) ?_
  refine x_icmp_ne 33 dM_read_18 (by decide) (fun hq => absurd ((xpi_m1 (show mlo μ t c < 2 ^ 31 by omega)).mpr hw) hq) (fun _ => ?_)
  refine x_aload_n dM_read_21 rfl ?_
  refine x_get fM_saw dM_read_22 H1.1 rfl ?_
  refine x_bipush (v := (nI 16)) dM_read_25 (by decide) ?_
  refine x_iload_n dM_read_27 rfl ?_
  refine x_imul dM_read_28 ?_
  refine x_iload_n dM_read_29 rfl ?_
  refine x_iadd dM_read_30 ?_
  refine x_iconst (v := (xb true)) dM_read_31 (by decide) ?_
  refine x_zast (16 * t + c) dM_read_32 H1.a2 (by omega) (by simp only [pk_mul, nI_add]) (by omega) (by decide) rfl ?_
  refine x_aload_n dM_read_33 rfl ?_
  refine x_iload_n dM_read_34 rfl ?_
  refine x_iload_n dM_read_35 rfl ?_
  refine x_callV2 cM_M_reading dM_read_36 H2.1 (Nat.le_of_ble_eq_true rfl) (Nat.le_of_ble_eq_true rfl) (m_reading (d := d) H2 ht hc hl) ?_
  exact x_lret rfl dM_read_39
theorem m_write_bad {t c : Int32} {v : Int64} (hb : E.2.2.1 ≤ m) (H : QP m h0 μ h) (hbad : qbad μ t) : ∃ h', xG E (d + 2) mM_write 0 [(0, .ref m), (1, .int t), (2, .int c), (3, .long v)] [] false h (true, .inl (some (.long 0)), h') ∧ QP m h0 (sX μ 1) h' := by
  obtain ⟨h1, k1, H1⟩ := m_none_bad (d := d) (c := c) hb H hbad
  refine ⟨h1, ?_, H1⟩
  refine x_aload_n dM_write_0 rfl ?_
  refine x_iload_n dM_write_1 rfl ?_
  refine x_iload_n dM_write_2 rfl ?_
  refine x_callV2 cM_M_none dM_write_3 H.1 (Nat.le_of_ble_eq_true rfl) (Nat.le_of_ble_eq_true rfl) k1 ?_
  refine x_if_eq 11 dM_write_6 (by decide) (fun hq => absurd hq (by decide)) (fun _ => ?_)
  refine x_lconst (v := 0) dM_write_9 (by decide) ?_
  exact x_lret rfl dM_write_10
theorem m_write_badc {t : Nat} {c : Int32} {v : Int64} (hb : E.2.2.1 ≤ m) (H : QP m h0 μ h) (ht : t < 16) (ho : qZ μ 1 t = true) (hc : badc c) : ∃ h', xG E (d + 2) mM_write 0 [(0, .ref m), (1, .int (nI t)), (2, .int c), (3, .long v)] [] false h (true, .inl (some (.long 0)), h') ∧ QP m h0 (sX (sX μ 0) 1) h' := by
  obtain ⟨h1, k1, H1⟩ := m_none_badc (d := d) (c := c) hb H ht ho hc
  refine ⟨h1, ?_, H1⟩
  refine x_aload_n dM_write_0 rfl ?_
  refine x_iload_n dM_write_1 rfl ?_
  refine x_iload_n dM_write_2 rfl ?_
  refine x_callV2 cM_M_none dM_write_3 H.1 (Nat.le_of_ble_eq_true rfl) (Nat.le_of_ble_eq_true rfl) k1 ?_
  refine x_if_eq 11 dM_write_6 (by decide) (fun hq => absurd hq (by decide)) (fun _ => ?_)
  refine x_lconst (v := 0) dM_write_9 (by decide) ?_
  exact x_lret rfl dM_write_10
def qWrite (μ : qS) (t c : Nat) (v : Int64) : qS := sL (sZ (sX μ 0) 3 ((8 * t + qI μ 6 t - 1) * 16 + c) true) 8 ((8 * t + qI μ 6 t - 1) * 16 + c) v
theorem m_write_ok {t c : Nat} {v : Int64} (hb : E.2.2.1 ≤ m) (H : QP m h0 μ h) (ht : t < 16) (ho : qZ μ 1 t = true) (hc : c < 16) (hl : qI μ 6 t ≤ 8) (hl1 : 1 ≤ qI μ 6 t) : ∃ h', xG E (d + 2) mM_write 0 [(0, .ref m), (1, .int (nI t)), (2, .int (nI c)), (3, .long v)] [] false h (true, .inl (some (.long (mrd μ t c))), h') ∧ QP m h0 (qWrite μ t c v) h' := by
  obtain ⟨h1, k1, H1⟩ := m_none (d := d) hb H ht ho hc
  have H2 := H1.s3 ((8 * t + qI μ 6 t - 1) * 16 + c) true
  refine ⟨_, ?_, H2.s8 ((8 * t + qI μ 6 t - 1) * 16 + c) v⟩
  refine x_aload_n dM_write_0 rfl ?_
  refine x_iload_n dM_write_1 rfl ?_
  refine x_iload_n dM_write_2 rfl ?_
  refine x_callV2 cM_M_none dM_write_3 H.1 (Nat.le_of_ble_eq_true rfl) (Nat.le_of_ble_eq_true rfl) k1 ?_
  refine x_if_eq 11 dM_write_6 (by decide) (fun _ => ?_) (fun hq => absurd rfl hq)
  refine x_aload_n dM_write_11 rfl ?_
  refine x_iload_n dM_write_12 rfl ?_
  refine x_iload_n dM_write_13 rfl ?_
  refine x_callV2 cM_M_reading dM_write_14 H1.1 (Nat.le_of_ble_eq_true rfl) (Nat.le_of_ble_eq_true rfl) (m_reading (d := d) H1 ht hc hl) ?_
  refine x_lstore dM_write_17 (Nat.le_of_ble_eq_true rfl) ?_
  refine x_bipush (v := (nI 8)) dM_write_19 (by decide) ?_
  refine x_iload_n dM_write_21 rfl ?_
  refine x_imul dM_write_22 ?_
  refine x_aload_n dM_write_23 rfl ?_
  refine x_get fM_layers dM_write_24 H1.1 rfl ?_
  refine x_iload_n dM_write_27 rfl ?_
  refine x_iald t dM_write_28 H1.a6 (by simp only [pk_mul, nI_add]) (by omega) (by decide) ?_
  refine x_iadd dM_write_29 ?_
  refine x_iconst (v := (nI 1)) dM_write_30 (by decide) ?_
  refine x_isub dM_write_31 ?_
  refine x_bipush (v := (nI 16)) dM_write_32 (by decide) ?_
  refine x_imul dM_write_34 ?_
  refine x_iload_n dM_write_35 rfl ?_
  refine x_iadd dM_write_36 ?_
  refine x_top (v' := .int (nI ((8 * t + qI μ 6 t - 1) * 16 + c))) ?_ ?_
  · show Value.int ((nI 8 * nI t + nI (qI μ 6 t) - nI 1) * nI 16 + nI c) = _
    rw [pk_mul, nI_add, pk_sub (show 1 ≤ 8 * t + qI μ 6 t by omega), pk_mul, nI_add]
  refine x_istore dM_write_37 (Nat.le_of_ble_eq_true rfl) ?_
  refine x_aload_n dM_write_39 rfl ?_
  refine x_get fM_wrote dM_write_40 H1.1 rfl ?_
  refine x_iload dM_write_43 rfl ?_
  refine x_iconst (v := (xb true)) dM_write_45 (by decide) ?_
  refine x_zast ((8 * t + qI μ 6 t - 1) * 16 + c) dM_write_46 H1.a3 (by omega) (by simp only [pk_mul, nI_add]) (by omega) (by decide) rfl ?_
  refine x_aload_n dM_write_47 rfl ?_
  refine x_get fM_value dM_write_48 H2.1 rfl ?_
  refine x_iload dM_write_51 rfl ?_
  refine x_lload_n dM_write_53 rfl ?_
  refine x_last ((8 * t + qI μ 6 t - 1) * 16 + c) dM_write_54 H2.a8 (by omega) (by simp only [pk_mul, nI_add]) (by omega) (by decide) ?_
  refine x_lload dM_write_55 rfl ?_
  exact x_lret rfl dM_write_57
theorem m_push_bad {t : Int32} (hb : E.2.2.1 ≤ m) (H : QP m h0 μ h) (hbad : qbad μ t) : ∃ h', xG E (d + 2) mM_push 0 [(0, .ref m), (1, .int t)] [] false h (true, .inl (some (.int (nI 0))), h') ∧ QP m h0 (sX μ 1) h' := by
  obtain ⟨h1, k1, H1⟩ := m_no_bad (d := d + 1) hb H hbad
  refine ⟨h1, ?_, H1⟩
  refine x_aload_n dM_push_0 rfl ?_
  refine x_iload_n dM_push_1 rfl ?_
  refine x_callV1 cM_M_no dM_push_2 H.1 (Nat.le_of_ble_eq_true rfl) (Nat.le_of_ble_eq_true rfl) k1 ?_
  refine x_if_eq 10 dM_push_5 (by decide) (fun hq => absurd hq (by decide)) (fun _ => ?_)
  refine x_iconst (v := (nI 0)) dM_push_8 (by decide) ?_
  exact x_iret rfl dM_push_9
theorem m_push_full {t : Nat} (hb : E.2.2.1 ≤ m) (H : QP m h0 μ h) (ht : t < 16) (ho : qZ μ 1 t = true) (hl : qI μ 6 t = 8) : ∃ h', xG E (d + 2) mM_push 0 [(0, .ref m), (1, .int (nI t))] [] false h (true, .inl (some (.int (nI 0))), h') ∧ QP m h0 (sX (sX μ 0) 2) h' := by
  obtain ⟨h1, k1, H1⟩ := m_no (d := d + 1) hb H ht ho
  obtain ⟨h2, k2, H2⟩ := m_fail (d := d + 1) (x := 2) hb H1
  refine ⟨h2, ?_, H2⟩
  refine x_aload_n dM_push_0 rfl ?_
  refine x_iload_n dM_push_1 rfl ?_
  refine x_callV1 cM_M_no dM_push_2 H.1 (Nat.le_of_ble_eq_true rfl) (Nat.le_of_ble_eq_true rfl) k1 ?_
  refine x_if_eq 10 dM_push_5 (by decide) (fun _ => ?_) (fun hq => absurd rfl hq)
  refine x_aload_n dM_push_10 rfl ?_
  refine x_get fM_layers dM_push_11 H1.1 rfl ?_
  refine x_iload_n dM_push_14 rfl ?_
  refine x_iald t dM_push_15 H1.a6 (by simp only [pk_mul, nI_add]) (by omega) (by decide) ?_
  refine x_bipush (v := (nI 8)) dM_push_16 (by decide) ?_
  refine x_icmp_ne 27 dM_push_18 (by decide) (fun hq => absurd (by show nI (qI μ 6 t) = nI 8; rw [hl]) hq) (fun _ => ?_)
  refine x_aload_n dM_push_21 rfl ?_
  refine x_iconst (v := (nI 2)) dM_push_22 (by decide) ?_
  refine x_callV1 cM_M_fail dM_push_23 H1.1 (Nat.le_of_ble_eq_true rfl) (Nat.le_of_ble_eq_true rfl) k2 ?_
  exact x_iret rfl dM_push_26
def qPush (μ : qS) (t : Nat) : qS := sI (mclr ((8 * t + qI μ 6 t) * 16) 16 0 (sX μ 0)) 6 t (qI μ 6 t + 1)
theorem m_push_ok {t : Nat} (hb : E.2.2.1 ≤ m) (H : QP m h0 μ h) (ht : t < 16) (ho : qZ μ 1 t = true) (hl : qI μ 6 t < 8) : ∃ h', xG E (d + 2) mM_push 0 [(0, .ref m), (1, .int (nI t))] [] false h (true, .inl (some (.int (nI (qI μ 6 t + 1)))), h') ∧ QP m h0 (qPush μ t) h' := by
  obtain ⟨h1, k1, H1⟩ := m_no (d := d + 1) hb H ht ho
  obtain ⟨h2, k2, H2⟩ := m_clear (E := E) (d := d + 1) (t := t) (l := qI μ 6 t) hb ht hl H1
  have e6 : qI (mclr ((8 * t + qI μ 6 t) * 16) 16 0 (sX μ 0)) 6 t = qI μ 6 t := by rw [mclr_I]; rfl
  have H3 := H2.s6 t (qI μ 6 t + 1)
  refine ⟨_, ?_, H3⟩
  refine x_aload_n dM_push_0 rfl ?_
  refine x_iload_n dM_push_1 rfl ?_
  refine x_callV1 cM_M_no dM_push_2 H.1 (Nat.le_of_ble_eq_true rfl) (Nat.le_of_ble_eq_true rfl) k1 ?_
  refine x_if_eq 10 dM_push_5 (by decide) (fun _ => ?_) (fun hq => absurd rfl hq)
  refine x_aload_n dM_push_10 rfl ?_
  refine x_get fM_layers dM_push_11 H1.1 rfl ?_
  refine x_iload_n dM_push_14 rfl ?_
  refine x_iald t dM_push_15 H1.a6 (by simp only [pk_mul, nI_add]) (by omega) (by decide) ?_
  refine x_bipush (v := (nI 8)) dM_push_16 (by decide) ?_
  refine x_icmp_ne 27 dM_push_18 (by decide) (fun _ => ?_) (fun hq => absurd ((nI_eq (show qI μ 6 t < 2 ^ 31 by omega) (by decide)).mp hq) (by omega))
  refine x_aload_n dM_push_27 rfl ?_
  refine x_iload_n dM_push_28 rfl ?_
  refine x_aload_n dM_push_29 rfl ?_
  refine x_get fM_layers dM_push_30 H1.1 rfl ?_
  refine x_iload_n dM_push_33 rfl ?_
  refine x_iald t dM_push_34 H1.a6 (by simp only [pk_mul, nI_add]) (by omega) (by decide) ?_
  refine x_callV2 cM_M_clear dM_push_35 H1.1 (Nat.le_of_ble_eq_true rfl) (Nat.le_of_ble_eq_true rfl) k2 ?_
  refine x_aload_n dM_push_38 rfl ?_
  refine x_get fM_layers dM_push_39 H2.1 rfl ?_
  refine x_iload_n dM_push_42 rfl ?_
  refine x_dup2 dM_push_43 rfl rfl ?_
  refine x_iald t dM_push_44 H2.a6 (by simp only [pk_mul, nI_add]) (by omega) (by decide) ?_
  refine x_iconst (v := (nI 1)) dM_push_45 (by decide) ?_
  refine x_iadd dM_push_46 ?_
  refine x_top (v' := .int (nI (qI μ 6 t + 1))) (by show Value.int (nI (qI (mclr ((8 * t + qI μ 6 t) * 16) 16 0 (sX μ 0)) 6 t) + nI 1) = _; rw [e6, nI_add]) ?_
  refine x_iast t dM_push_47 H2.a6 (by omega) (by simp only [pk_mul, nI_add]) (by omega) (by decide) ?_
  refine x_aload_n dM_push_48 rfl ?_
  refine x_get fM_layers dM_push_49 H3.1 rfl ?_
  refine x_iload_n dM_push_52 rfl ?_
  refine x_iald t dM_push_53 H3.a6 (by simp only [pk_mul, nI_add]) (by omega) (by decide) ?_
  refine x_top (v' := .int (nI (qI μ 6 t + 1))) (by show Value.int (nI (qI (sI _ 6 t (qI μ 6 t + 1)) 6 t)) = _; rw [sI_at, up_eq]) ?_
  exact x_iret rfl dM_push_54
theorem m_drop_bad {t : Int32} (hb : E.2.2.1 ≤ m) (H : QP m h0 μ h) (hbad : qbad μ t) : ∃ h', xG E (d + 2) mM_drop 0 [(0, .ref m), (1, .int t)] [] false h (true, .inl (some (.int (nI 0))), h') ∧ QP m h0 (sX μ 1) h' := by
  obtain ⟨h1, k1, H1⟩ := m_no_bad (d := d + 1) hb H hbad
  refine ⟨h1, ?_, H1⟩
  refine x_aload_n dM_drop_0 rfl ?_
  refine x_iload_n dM_drop_1 rfl ?_
  refine x_callV1 cM_M_no dM_drop_2 H.1 (Nat.le_of_ble_eq_true rfl) (Nat.le_of_ble_eq_true rfl) k1 ?_
  refine x_if_eq 10 dM_drop_5 (by decide) (fun hq => absurd hq (by decide)) (fun _ => ?_)
  refine x_iconst (v := (nI 0)) dM_drop_8 (by decide) ?_
  exact x_iret rfl dM_drop_9
theorem mlo_s1 {t c j : Nat} {v : Bool} : mlo (sZ μ 1 j v) t c = mlo μ t c := by unfold mlo; rw [sZ_ne (by decide)]; rfl
theorem mwr_s1 {t j : Nat} {v : Bool} : mwr (sZ μ 1 j v) t = mwr μ t := by
  unfold mwr
  simp only [mlo_s1]
theorem m_drop_ok {t : Nat} (hb : E.2.2.1 ≤ m) (H : QP m h0 μ h) (ht : t < 16) (ho : qZ μ 1 t = true) (hl : qI μ 6 t ≤ 8) : ∃ h', xG E (d + 2) mM_drop 0 [(0, .ref m), (1, .int (nI t))] [] false h (true, .inl (some (.int (nI (mwr μ t)))), h') ∧ QP m h0 (sZ (sX μ 0) 1 t false) h' := by
  obtain ⟨h1, k1, H1⟩ := m_no (d := d + 1) hb H ht ho
  have H2 := H1.s1 t false
  refine ⟨_, ?_, H2⟩
  rw [← show mwr (sZ (sX μ 0) 1 t false) t = mwr μ t from mwr_s1 (μ := sX μ 0)]
  refine x_aload_n dM_drop_0 rfl ?_
  refine x_iload_n dM_drop_1 rfl ?_
  refine x_callV1 cM_M_no dM_drop_2 H.1 (Nat.le_of_ble_eq_true rfl) (Nat.le_of_ble_eq_true rfl) k1 ?_
  refine x_if_eq 10 dM_drop_5 (by decide) (fun _ => ?_) (fun hq => absurd rfl hq)
  refine x_aload_n dM_drop_10 rfl ?_
  refine x_get fM_open dM_drop_11 H1.1 rfl ?_
  refine x_iload_n dM_drop_14 rfl ?_
  refine x_iconst (v := (xb false)) dM_drop_15 (by decide) ?_
  refine x_zast t dM_drop_16 H1.a1 (by omega) (by simp only [pk_mul, nI_add]) (by omega) (by decide) rfl ?_
  refine x_aload_n dM_drop_17 rfl ?_
  refine x_iload_n dM_drop_18 rfl ?_
  refine x_callV1 cM_M_written dM_drop_19 H2.1 (Nat.le_of_ble_eq_true rfl) (Nat.le_of_ble_eq_true rfl) (m_written (d := d) H2 ht hl) ?_
  exact x_iret rfl dM_drop_22
theorem m_spoiled_bad {t : Int32} (hb : E.2.2.1 ≤ m) (H : QP m h0 μ h) (hbad : qbad μ t) : ∃ h', xG E (d + 3) mM_spoiled 0 [(0, .ref m), (1, .int t)] [] false h (true, .inl (some (.int (xb false))), h') ∧ QP m h0 (sX μ 1) h' := by
  obtain ⟨h1, k1, H1⟩ := m_no_bad (d := d + 2) hb H hbad
  refine ⟨h1, ?_, H1⟩
  refine x_aload_n dM_spoiled_0 rfl ?_
  refine x_iload_n dM_spoiled_1 rfl ?_
  refine x_callV1 cM_M_no dM_spoiled_2 H.1 (Nat.le_of_ble_eq_true rfl) (Nat.le_of_ble_eq_true rfl) k1 ?_
  refine x_if_ne 20 dM_spoiled_5 (by decide) (fun _ => ?_) (fun hq => absurd hq (by decide))
  refine x_iconst (v := (xb false)) dM_spoiled_20 (by decide) ?_
  exact x_zret (xb_n _) rfl dM_spoiled_21
theorem m_spoiled_ok {t : Nat} (hb : E.2.2.1 ≤ m) (H : QP m h0 μ h) (ht : t < 16) (ho : qZ μ 1 t = true) (hl : qI μ 6 t ≤ 8) (hs : qI μ 4 t < 2 ^ 31) (hk : qI μ 5 t < 2 ^ 31) (hla : ∀ c, c < 16 → qI μ 11 c < 2 ^ 31) : ∃ h', xG E (d + 3) mM_spoiled 0 [(0, .ref m), (1, .int (nI t))] [] false h (true, .inl (some (.int (xb (decide (msc μ t ≠ 0))))), h') ∧ QP m h0 (sX μ 0) h' := by
  have hle : msc μ t ≤ 16 := cnt_le _ _
  obtain ⟨h1, k1, H1⟩ := m_no (d := d + 2) hb H ht ho
  refine ⟨h1, ?_, H1⟩
  refine x_aload_n dM_spoiled_0 rfl ?_
  refine x_iload_n dM_spoiled_1 rfl ?_
  refine x_callV1 cM_M_no dM_spoiled_2 H.1 (Nat.le_of_ble_eq_true rfl) (Nat.le_of_ble_eq_true rfl) k1 ?_
  refine x_if_ne 20 dM_spoiled_5 (by decide) (fun hq => absurd rfl hq) (fun _ => ?_)
  refine x_aload_n dM_spoiled_8 rfl ?_
  refine x_iload_n dM_spoiled_9 rfl ?_
  refine x_callV1 cM_M_spoils dM_spoiled_10 H1.1 (Nat.le_of_ble_eq_true rfl) (Nat.le_of_ble_eq_true rfl) (m_spoils (d := d) H1 ht hl hs hk hla) ?_
  refine x_if_le 20 dM_spoiled_13 (by decide) (fun hq => ?_) (fun hq => ?_)
  · rw [decide_eq_false (show ¬ msc μ t ≠ 0 from fun z => z (Nat.le_zero.mp ((nI_leI (b := 0) (show msc μ t < 2 ^ 31 by omega) (by decide)).mp hq)))]
    refine x_iconst (v := (xb false)) dM_spoiled_20 (by decide) ?_
    exact x_zret (xb_n _) rfl dM_spoiled_21
  · rw [decide_eq_true (show msc μ t ≠ 0 from fun z => hq (nI_le (b := 0) (Nat.le_of_eq z) (by decide)))]
    refine x_iconst (v := (xb true)) dM_spoiled_16 (by decide) ?_
    refine x_goto 21 dM_spoiled_17 (by decide) ?_
    exact x_zret (xb_n _) rfl dM_spoiled_21
def mme (μ : qS) (a b c : Nat) : Bool := decide (mlo μ a c ≠ 0) && (!msp μ b c && (decide (mlo μ b c ≠ 0) || (decide (qI μ 5 b = 1) && qZ μ 2 (16 * b + c))))
def anyF (p : Nat → Bool) : Nat → Nat → Bool
  | 0, _ => false
  | n + 1, c => p c || anyF p n (c + 1)
theorem m_meets_bad1 {a b : Int32} (hb : E.2.2.1 ≤ m) (H : QP m h0 μ h) (hbad : qbad μ a) : ∃ h', xG E (d + 3) mM_meets 0 [(0, .ref m), (1, .int a), (2, .int b)] [] false h (true, .inl (some (.int (xb false))), h') ∧ QP m h0 (sX μ 1) h' := by
  obtain ⟨h1, k1, H1⟩ := m_no_bad (d := d + 2) hb H hbad
  refine ⟨h1, ?_, H1⟩
  refine x_aload_n dM_meets_0 rfl ?_
  refine x_iload_n dM_meets_1 rfl ?_
  refine x_callV1 cM_M_no dM_meets_2 H.1 (Nat.le_of_ble_eq_true rfl) (Nat.le_of_ble_eq_true rfl) k1 ?_
  refine x_if_ne 21 dM_meets_5 (by decide) (fun _ => ?_) (fun hq => absurd hq (by decide))
  refine x_iconst (v := (xb false)) dM_meets_21 (by decide) ?_
  exact x_zret (xb_n _) rfl dM_meets_22
theorem m_meets_bad2 {a : Nat} {b : Int32} (hb : E.2.2.1 ≤ m) (H : QP m h0 μ h) (ha : a < 16) (ho : qZ μ 1 a = true) (hbad : qbad μ b) : ∃ h', xG E (d + 3) mM_meets 0 [(0, .ref m), (1, .int (nI a)), (2, .int b)] [] false h (true, .inl (some (.int (xb false))), h') ∧ QP m h0 (sX (sX μ 0) 1) h' := by
  obtain ⟨h1, k1, H1⟩ := m_no (d := d + 2) hb H ha ho
  obtain ⟨h2, k2, H2⟩ := m_no_bad (d := d + 2) (t := b) hb H1 hbad
  refine ⟨h2, ?_, H2⟩
  refine x_aload_n dM_meets_0 rfl ?_
  refine x_iload_n dM_meets_1 rfl ?_
  refine x_callV1 cM_M_no dM_meets_2 H.1 (Nat.le_of_ble_eq_true rfl) (Nat.le_of_ble_eq_true rfl) k1 ?_
  refine x_if_ne 21 dM_meets_5 (by decide) (fun hq => absurd rfl hq) (fun _ => ?_)
  refine x_aload_n dM_meets_8 rfl ?_
  refine x_iload_n dM_meets_9 rfl ?_
  refine x_callV1 cM_M_no dM_meets_10 H1.1 (Nat.le_of_ble_eq_true rfl) (Nat.le_of_ble_eq_true rfl) k2 ?_
  refine x_if_ne 21 dM_meets_13 (by decide) (fun _ => ?_) (fun hq => absurd hq (by decide))
  refine x_iconst (v := (xb false)) dM_meets_21 (by decide) ?_
  exact x_zret (xb_n _) rfl dM_meets_22
theorem m_meets_same {a : Nat} (hb : E.2.2.1 ≤ m) (H : QP m h0 μ h) (ha : a < 16) (ho : qZ μ 1 a = true) : ∃ h', xG E (d + 3) mM_meets 0 [(0, .ref m), (1, .int (nI a)), (2, .int (nI a))] [] false h (true, .inl (some (.int (xb false))), h') ∧ QP m h0 (sX (sX μ 0) 0) h' := by
  obtain ⟨h1, k1, H1⟩ := m_no (d := d + 2) hb H ha ho
  obtain ⟨h2, k2, H2⟩ := m_no (d := d + 2) (t := a) hb H1 ha ho
  refine ⟨h2, ?_, H2⟩
  refine x_aload_n dM_meets_0 rfl ?_
  refine x_iload_n dM_meets_1 rfl ?_
  refine x_callV1 cM_M_no dM_meets_2 H.1 (Nat.le_of_ble_eq_true rfl) (Nat.le_of_ble_eq_true rfl) k1 ?_
  refine x_if_ne 21 dM_meets_5 (by decide) (fun hq => absurd rfl hq) (fun _ => ?_)
  refine x_aload_n dM_meets_8 rfl ?_
  refine x_iload_n dM_meets_9 rfl ?_
  refine x_callV1 cM_M_no dM_meets_10 H1.1 (Nat.le_of_ble_eq_true rfl) (Nat.le_of_ble_eq_true rfl) k2 ?_
  refine x_if_ne 21 dM_meets_13 (by decide) (fun hq => absurd rfl hq) (fun _ => ?_)
  refine x_iload_n dM_meets_16 rfl ?_
  refine x_iload_n dM_meets_17 rfl ?_
  refine x_icmp_ne 23 dM_meets_18 (by decide) (fun hq => absurd rfl hq) (fun _ => ?_)
  refine x_iconst (v := (xb false)) dM_meets_21 (by decide) ?_
  exact x_zret (xb_n _) rfl dM_meets_22
theorem m_meets_loop {a b : Nat} (H : QP m h0 μ h) (ha : a < 16) (hb2 : b < 16) (hla2 : qI μ 6 a ≤ 8) (hl : qI μ 6 b ≤ 8) (hs : qI μ 4 b < 2 ^ 31) (hk : qI μ 5 b < 2 ^ 31) (hla : ∀ c, c < 16 → qI μ 11 c < 2 ^ 31) : ∀ n c : Nat, c + n = 16 → xG E (d + 3) mM_meets 25 [(3, .int (nI c)), (0, .ref m), (1, .int (nI a)), (2, .int (nI b))] [] true h (true, .inl (some (.int (xb (anyF (mme μ a b) n c)))), h) := by
  intro n
  induction n with
  | zero =>
    intro c hc
    obtain rfl : c = 16 := by omega
    refine x_iload_n dM_meets_25 rfl ?_
    refine x_bipush (v := (nI 16)) dM_meets_26 (by decide) ?_
    refine x_icmp_ge 92 dM_meets_28 (by decide) (fun _ => ?_) (fun hq => absurd (nI_le (by omega) (by omega)) hq)
    refine x_iconst (v := (xb false)) dM_meets_92 (by decide) ?_
    exact x_zret (xb_n _) rfl dM_meets_93
  | succ n ih =>
    intro c hc
    have ih' := ih (c + 1) (by omega)
    have hle := mlo_le μ a c
    have hle2 := mlo_le μ b c
    have next : mme μ a b c = false → xG E (d + 3) mM_meets 86 [(3, .int (nI c)), (0, .ref m), (1, .int (nI a)), (2, .int (nI b))] [] true h (true, .inl (some (.int (xb (anyF (mme μ a b) (n + 1) c)))), h) := by
      intro hm
      rw [show anyF (mme μ a b) (n + 1) c = anyF (mme μ a b) n (c + 1) by show (mme μ a b c || _) = _; rw [hm]; rfl]
      refine x_iinc (v := nI (c + 1)) dM_meets_86 rfl (by rw [nI_succ]; rfl) (Nat.le_of_ble_eq_true rfl) ?_
      refine x_goto 25 dM_meets_89 (by decide) ?_
      exact ih'
    refine x_iload_n dM_meets_25 rfl ?_
    refine x_bipush (v := (nI 16)) dM_meets_26 (by decide) ?_
    refine x_icmp_ge 92 dM_meets_28 (by decide) (fun hq => absurd hq (nI_ge (by omega) (by omega))) (fun _ => ?_)
    refine x_aload_n dM_meets_31 rfl ?_
    refine x_iload_n dM_meets_32 rfl ?_
    refine x_iload_n dM_meets_33 rfl ?_
    refine x_callV2 cM_M_layerOf dM_meets_34 H.1 (Nat.le_of_ble_eq_true rfl) (Nat.le_of_ble_eq_true rfl) (m_layerOf (d := d + 2) H ha (by omega) hla2) ?_
    refine x_iconst (v := (-1)) dM_meets_37 (by decide) ?_
    refine x_icmp_eq 86 dM_meets_38 (by decide) (fun hq => ?_) (fun hq => ?_)
    · exact next (by unfold mme; rw [(xpi_m1 (show mlo μ a c < 2 ^ 31 by omega)).mp hq]; rfl)
    have e1 : decide (mlo μ a c ≠ 0) = true := decide_eq_true (fun q => hq ((xpi_m1 (by omega)).mpr q))
    refine x_aload_n dM_meets_41 rfl ?_
    refine x_iload_n dM_meets_42 rfl ?_
    refine x_iload_n dM_meets_43 rfl ?_
    refine x_callV2 cM_M_isSpoiled dM_meets_44 H.1 (Nat.le_of_ble_eq_true rfl) (Nat.le_of_ble_eq_true rfl) (m_isSpoiled (d := d + 1) H hb2 (by omega) hl hs hk (hla c (by omega))) ?_
    cases e2 : msp μ b c with
    | true =>
      refine x_if_ne 86 dM_meets_47 (by decide) (fun hq => ?_) (fun hq => absurd hq (by decide))
      exact next (by unfold mme; rw [e1, e2]; rfl)
    | false =>
      refine x_if_ne 86 dM_meets_47 (by decide) (fun hq => absurd rfl hq) (fun hq => ?_)
      refine x_aload_n dM_meets_50 rfl ?_
      refine x_iload_n dM_meets_51 rfl ?_
      refine x_iload_n dM_meets_52 rfl ?_
      refine x_callV2 cM_M_layerOf dM_meets_53 H.1 (Nat.le_of_ble_eq_true rfl) (Nat.le_of_ble_eq_true rfl) (m_layerOf (d := d + 2) H hb2 (by omega) hl) ?_
      refine x_iconst (v := (-1)) dM_meets_56 (by decide) ?_
      have yes : mme μ a b c = true → xG E (d + 3) mM_meets 84 [(3, .int (nI c)), (0, .ref m), (1, .int (nI a)), (2, .int (nI b))] [] true h (true, .inl (some (.int (xb (anyF (mme μ a b) (n + 1) c)))), h) := by
        intro hm
        rw [show anyF (mme μ a b) (n + 1) c = true by show (mme μ a b c || _) = _; rw [hm]; rfl]
        refine x_iconst (v := (xb true)) dM_meets_84 (by decide) ?_
        exact x_zret (xb_n _) rfl dM_meets_85
      refine x_icmp_ne 84 dM_meets_57 (by decide) (fun hq => ?_) (fun hq => ?_)
      · exact yes (by unfold mme; rw [e1, e2, decide_eq_true (show mlo μ b c ≠ 0 from fun q => hq ((xpi_m1 (by omega)).mpr q))]; rfl)
      have e3 : mlo μ b c = 0 := (xpi_m1 (by omega)).mp hq
      refine x_aload_n dM_meets_60 rfl ?_
      refine x_get fM_kind dM_meets_61 H.1 rfl ?_
      refine x_iload_n dM_meets_64 rfl ?_
      refine x_iald b dM_meets_65 H.a5 (by simp only [pk_mul, nI_add]) (by omega) (by decide) ?_
      refine x_iconst (v := (nI 1)) dM_meets_66 (by decide) ?_
      refine x_icmp_ne 86 dM_meets_67 (by decide) (fun hq => ?_) (fun hq => ?_)
      · exact next (by unfold mme; rw [e1, e2, e3, decide_eq_false (show ¬ qI μ 5 b = 1 from fun q => hq (by show nI (qI μ 5 b) = nI 1; rw [q]))]; rfl)
      have e4 : qI μ 5 b = 1 := (nI_eq hk (by decide)).mp hq
      refine x_aload_n dM_meets_70 rfl ?_
      refine x_get fM_saw dM_meets_71 H.1 rfl ?_
      refine x_bipush (v := (nI 16)) dM_meets_74 (by decide) ?_
      refine x_iload_n dM_meets_76 rfl ?_
      refine x_imul dM_meets_77 ?_
      refine x_iload_n dM_meets_78 rfl ?_
      refine x_iadd dM_meets_79 ?_
      refine x_zald (16 * b + c) dM_meets_80 H.a2 (by simp only [pk_mul, nI_add]) (by omega) (by decide) ?_
      refine x_if_eq 86 dM_meets_81 (by decide) (fun hq => ?_) (fun hq => ?_)
      · exact next (by unfold mme; rw [e1, e2, e3, decide_eq_true e4, qZf (fun z => xb_ne z hq)]; rfl)
      · exact yes (by
          unfold mme
          rw [e1, e2, e3, decide_eq_true e4]
          cases hx : qZ μ 2 (16 * b + c)
          · exact absurd (xb_eq hx) hq
          · rfl)
theorem m_meets_ok {a b : Nat} (hb : E.2.2.1 ≤ m) (H : QP m h0 μ h) (ha : a < 16) (ho : qZ μ 1 a = true) (hb2 : b < 16) (ho2 : qZ μ 1 b = true) (hne : a ≠ b) (hla2 : qI μ 6 a ≤ 8) (hl : qI μ 6 b ≤ 8) (hs : qI μ 4 b < 2 ^ 31) (hk : qI μ 5 b < 2 ^ 31) (hla : ∀ c, c < 16 → qI μ 11 c < 2 ^ 31) : ∃ h', xG E (d + 3) mM_meets 0 [(0, .ref m), (1, .int (nI a)), (2, .int (nI b))] [] false h (true, .inl (some (.int (xb (anyF (mme μ a b) 16 0)))), h') ∧ QP m h0 (sX (sX μ 0) 0) h' := by
  obtain ⟨h1, k1, H1⟩ := m_no (d := d + 2) hb H ha ho
  obtain ⟨h2, k2, H2⟩ := m_no (d := d + 2) (t := b) hb H1 hb2 ho2
  refine ⟨h2, ?_, H2⟩
  refine x_aload_n dM_meets_0 rfl ?_
  refine x_iload_n dM_meets_1 rfl ?_
  refine x_callV1 cM_M_no dM_meets_2 H.1 (Nat.le_of_ble_eq_true rfl) (Nat.le_of_ble_eq_true rfl) k1 ?_
  refine x_if_ne 21 dM_meets_5 (by decide) (fun hq => absurd rfl hq) (fun _ => ?_)
  refine x_aload_n dM_meets_8 rfl ?_
  refine x_iload_n dM_meets_9 rfl ?_
  refine x_callV1 cM_M_no dM_meets_10 H1.1 (Nat.le_of_ble_eq_true rfl) (Nat.le_of_ble_eq_true rfl) k2 ?_
  refine x_if_ne 21 dM_meets_13 (by decide) (fun hq => absurd rfl hq) (fun _ => ?_)
  refine x_iload_n dM_meets_16 rfl ?_
  refine x_iload_n dM_meets_17 rfl ?_
  refine x_icmp_ne 23 dM_meets_18 (by decide) (fun _ => ?_) (fun hq => absurd ((nI_eq (by omega) (by omega)).mp hq) hne)
  refine x_iconst (v := (nI 0)) dM_meets_23 (by decide) ?_
  refine x_istore_n dM_meets_24 (Nat.le_of_ble_eq_true rfl) ?_
  exact m_meets_loop (d := d) H2 ha hb2 hla2 hl hs hk hla 16 0 rfl
end
end
section
/-! VersionDeskModel: pop, commit, past, forget, about, count, the constructor -/
def mdown (a : Nat) : Nat → Nat → qS → qS
  | 0, _, μ => μ
  | n + 1, c, μ => mdown a n (c + 1) (if qZ μ 3 (a + c) = true then sL (sZ μ 3 (a + c - 16) true) 8 (a + c - 16) (qL μ 8 (a + c)) else μ)
def qPop (μ : qS) (t l : Nat) : qS := sI (sX μ 0) 6 t l
section
variable {E : xE} {d m : Nat} {μ : qS} {h0 h : xH}
theorem m_pop_bad {t kp : Int32} (hb : E.2.2.1 ≤ m) (H : QP m h0 μ h) (hbad : qbad μ t) : ∃ h', xG E (d + 2) mM_pop 0 [(0, .ref m), (1, .int t), (2, .int kp)] [] false h (true, .inl (some (.int (nI 0))), h') ∧ QP m h0 (sX μ 1) h' := by
  obtain ⟨h1, k1, H1⟩ := m_no_bad (d := d + 1) hb H hbad
  refine ⟨h1, ?_, H1⟩
  refine x_aload_n dM_pop_0 rfl ?_
  refine x_iload_n dM_pop_1 rfl ?_
  refine x_callV1 cM_M_no dM_pop_2 H.1 (Nat.le_of_ble_eq_true rfl) (Nat.le_of_ble_eq_true rfl) k1 ?_
  refine x_if_eq 10 dM_pop_5 (by decide) (fun hq => absurd hq (by decide)) (fun _ => ?_)
  refine x_iconst (v := (nI 0)) dM_pop_8 (by decide) ?_
  exact x_iret rfl dM_pop_9
theorem m_pop_one {t : Nat} {kp : Int32} (hb : E.2.2.1 ≤ m) (H : QP m h0 μ h) (ht : t < 16) (ho : qZ μ 1 t = true) (hl : qI μ 6 t = 1) : ∃ h', xG E (d + 2) mM_pop 0 [(0, .ref m), (1, .int (nI t)), (2, .int kp)] [] false h (true, .inl (some (.int (nI 0))), h') ∧ QP m h0 (sX (sX μ 0) 2) h' := by
  obtain ⟨h1, k1, H1⟩ := m_no (d := d + 1) hb H ht ho
  obtain ⟨h2, k2, H2⟩ := m_fail (d := d + 1) (x := 2) hb H1
  refine ⟨h2, ?_, H2⟩
  refine x_aload_n dM_pop_0 rfl ?_
  refine x_iload_n dM_pop_1 rfl ?_
  refine x_callV1 cM_M_no dM_pop_2 H.1 (Nat.le_of_ble_eq_true rfl) (Nat.le_of_ble_eq_true rfl) k1 ?_
  refine x_if_eq 10 dM_pop_5 (by decide) (fun _ => ?_) (fun hq => absurd rfl hq)
  refine x_aload_n dM_pop_10 rfl ?_
  refine x_get fM_layers dM_pop_11 H1.1 rfl ?_
  refine x_iload_n dM_pop_14 rfl ?_
  refine x_iald t dM_pop_15 H1.a6 (by simp only [pk_mul, nI_add]) (by omega) (by decide) ?_
  refine x_iconst (v := (nI 1)) dM_pop_16 (by decide) ?_
  refine x_icmp_ne 26 dM_pop_17 (by decide) (fun hq => absurd (by show nI (qI μ 6 t) = nI 1; rw [hl]) hq) (fun _ => ?_)
  refine x_aload_n dM_pop_20 rfl ?_
  refine x_iconst (v := (nI 2)) dM_pop_21 (by decide) ?_
  refine x_callV1 cM_M_fail dM_pop_22 H1.1 (Nat.le_of_ble_eq_true rfl) (Nat.le_of_ble_eq_true rfl) k2 ?_
  exact x_iret rfl dM_pop_25
theorem m_pop_end {t l : Nat} {kp : Int32} {w : Bool} {lv : xL} (H : QP m h0 μ h) (hm : xlk lv 0 = some (.ref m)) (htl : xlk lv 1 = some (.int (nI t))) (ht : t < 16) (hl : qI μ 6 t = l) : xG E d mM_pop 113 lv [] w h (w, .inl (some (.int (nI l))), h) := by
  refine x_aload_n dM_pop_113 hm ?_
  refine x_get fM_layers dM_pop_114 H.1 rfl ?_
  refine x_iload_n dM_pop_117 htl ?_
  refine x_iald t dM_pop_118 H.a6 (by simp only [pk_mul, nI_add]) (by omega) (by decide) ?_
  refine x_top (v' := .int (nI l)) (by show Value.int (nI (qI μ 6 t)) = _; rw [hl]) ?_
  exact x_iret rfl dM_pop_119
theorem m_pop_loop {t l : Nat} {kp : Int32} (hk : kp ≠ 0) (hb : E.2.2.1 ≤ m) (ht : t < 16) (hl1 : 1 ≤ l) (hl8 : l < 8) : ∀ (n c : Nat) (μ : qS) (h : xH) (lv : xL), c + n = 16 → qI μ 6 t = l → QP m h0 μ h → xlk lv 0 = some (.ref m) → xlk lv 1 = some (.int (nI t)) → xlk lv 2 = some (.int kp) → xlk lv 3 = some (.int (nI c)) → ∃ h', xG E d mM_pop 38 lv [] true h (true, .inl (some (.int (nI l))), h') ∧ QP m h0 (mdown ((8 * t + l) * 16) n c μ) h' := by
  intro n
  induction n with
  | zero =>
    intro c μ h lv hc hl H l0 l1 l2 l3
    obtain rfl : c = 16 := by omega
    refine ⟨_, ?_, H⟩
    refine x_iload_n dM_pop_38 l3 ?_
    refine x_bipush (v := (nI 16)) dM_pop_39 (by decide) ?_
    refine x_icmp_ge 113 dM_pop_41 (by decide) (fun _ => ?_) (fun hq => absurd (nI_le (by omega) (by omega)) hq)
    exact m_pop_end (kp := kp) H l0 l1 ht hl
  | succ n ih =>
    intro c μ h lv hc hl H l0 l1 l2 l3
    refine (show (∃ h', xG E d mM_pop 38 [(0, .ref m), (1, .int (nI t)), (2, .int kp), (3, .int (nI c))] [] true h (true, .inl (some (.int (nI l))), h') ∧ QP m h0 (mdown ((8 * t + l) * 16) (n + 1) c μ) h') → _ from fun ⟨h', k, H'⟩ => ⟨h', x_loc _ (xac l0 (xac l1 (xac l2 (xac l3 xan)))) k, H'⟩) ?_
    by_cases hz : qZ μ 3 ((8 * t + l) * 16 + c) = true
    · have H1 := H.s3 ((8 * t + l) * 16 + c - 16) true
      have H2 := H1.s8 ((8 * t + l) * 16 + c - 16) (qL μ 8 ((8 * t + l) * 16 + c))
      obtain ⟨h', k, H'⟩ := ih (c + 1) (sL (sZ μ 3 ((8 * t + l) * 16 + c - 16) true) 8 ((8 * t + l) * 16 + c - 16) (qL μ 8 ((8 * t + l) * 16 + c))) _ [(0, .ref m), (1, .int (nI t)), (2, .int kp), (3, .int (nI (c + 1)))] (by omega) hl H2 rfl rfl rfl rfl
      refine ⟨h', ?_, ?_⟩
      · refine x_iload_n dM_pop_38 rfl ?_
        refine x_bipush (v := (nI 16)) dM_pop_39 (by decide) ?_
        refine x_icmp_ge 113 dM_pop_41 (by decide) (fun hq => absurd hq (nI_ge (by omega) (by omega))) (fun _ => ?_)
        refine x_iload_n dM_pop_44 rfl ?_
        refine x_if_eq 113 dM_pop_45 (by decide) (fun hq => absurd hq hk) (fun _ => ?_)
        refine x_bipush (v := (nI 8)) dM_pop_48 (by decide) ?_
        refine x_iload_n dM_pop_50 rfl ?_
        refine x_imul dM_pop_51 ?_
        refine x_aload_n dM_pop_52 rfl ?_
        refine x_get fM_layers dM_pop_53 H.1 rfl ?_
        refine x_iload_n dM_pop_56 rfl ?_
        refine x_iald t dM_pop_57 H.a6 (by simp only [pk_mul, nI_add]) (by omega) (by decide) ?_
        refine x_iadd dM_pop_58 ?_
        refine x_bipush (v := (nI 16)) dM_pop_59 (by decide) ?_
        refine x_imul dM_pop_61 ?_
        refine x_iload_n dM_pop_62 rfl ?_
        refine x_iadd dM_pop_63 ?_
        refine x_top (v' := .int (nI ((8 * t + l) * 16 + c))) (by show Value.int ((nI 8 * nI t + nI (qI μ 6 t)) * nI 16 + nI c) = _; rw [hl]; simp only [pk_mul, nI_add]) ?_
        refine x_istore dM_pop_64 (Nat.le_of_ble_eq_true rfl) ?_
        refine x_aload_n dM_pop_66 rfl ?_
        refine x_get fM_wrote dM_pop_67 H.1 rfl ?_
        refine x_iload dM_pop_70 rfl ?_
        refine x_zald ((8 * t + l) * 16 + c) dM_pop_72 H.a3 (by simp only [pk_mul, nI_add]) (by omega) (by decide) ?_
        refine x_if_ne 79 dM_pop_73 (by decide) (fun _ => ?_) (fun hq => absurd hq (xb_ne hz))
        refine x_aload_n dM_pop_79 rfl ?_
        refine x_get fM_wrote dM_pop_80 H.1 rfl ?_
        refine x_iload dM_pop_83 rfl ?_
        refine x_bipush (v := (nI 16)) dM_pop_85 (by decide) ?_
        refine x_isub dM_pop_87 ?_
        refine x_iconst (v := (xb true)) dM_pop_88 (by decide) ?_
        refine x_zast ((8 * t + l) * 16 + c - 16) dM_pop_89 H.a3 (by omega) (pk_sub (by omega)) (by omega) (by decide) rfl ?_
        refine x_aload_n dM_pop_90 rfl ?_
        refine x_get fM_value dM_pop_91 H1.1 rfl ?_
        refine x_iload dM_pop_94 rfl ?_
        refine x_bipush (v := (nI 16)) dM_pop_96 (by decide) ?_
        refine x_isub dM_pop_98 ?_
        refine x_aload_n dM_pop_99 rfl ?_
        refine x_get fM_value dM_pop_100 H1.1 rfl ?_
        refine x_iload dM_pop_103 rfl ?_
        refine x_lald ((8 * t + l) * 16 + c) dM_pop_105 H1.a8 (by simp only [pk_mul, nI_add]) (by omega) (by decide) ?_
        refine x_last ((8 * t + l) * 16 + c - 16) dM_pop_106 H1.a8 (by omega) (pk_sub (by omega)) (by omega) (by decide) ?_
        refine x_iinc (v := nI (c + 1)) dM_pop_107 rfl (by rw [nI_succ]; rfl) (Nat.le_of_ble_eq_true rfl) ?_
        refine x_goto 38 dM_pop_110 (by decide) ?_
        exact x_loc _ (xac rfl (xac rfl (xac rfl (xac rfl xan)))) k
      · rw [show mdown ((8 * t + l) * 16) (n + 1) c μ = _ from congrArg (mdown ((8 * t + l) * 16) n (c + 1)) (if_pos hz)]
        exact H'
    · obtain ⟨h', k, H'⟩ := ih (c + 1) μ _ [(0, .ref m), (1, .int (nI t)), (2, .int kp), (3, .int (nI (c + 1)))] (by omega) hl H rfl rfl rfl rfl
      refine ⟨h', ?_, ?_⟩
      · refine x_iload_n dM_pop_38 rfl ?_
        refine x_bipush (v := (nI 16)) dM_pop_39 (by decide) ?_
        refine x_icmp_ge 113 dM_pop_41 (by decide) (fun hq => absurd hq (nI_ge (by omega) (by omega))) (fun _ => ?_)
        refine x_iload_n dM_pop_44 rfl ?_
        refine x_if_eq 113 dM_pop_45 (by decide) (fun hq => absurd hq hk) (fun _ => ?_)
        refine x_bipush (v := (nI 8)) dM_pop_48 (by decide) ?_
        refine x_iload_n dM_pop_50 rfl ?_
        refine x_imul dM_pop_51 ?_
        refine x_aload_n dM_pop_52 rfl ?_
        refine x_get fM_layers dM_pop_53 H.1 rfl ?_
        refine x_iload_n dM_pop_56 rfl ?_
        refine x_iald t dM_pop_57 H.a6 (by simp only [pk_mul, nI_add]) (by omega) (by decide) ?_
        refine x_iadd dM_pop_58 ?_
        refine x_bipush (v := (nI 16)) dM_pop_59 (by decide) ?_
        refine x_imul dM_pop_61 ?_
        refine x_iload_n dM_pop_62 rfl ?_
        refine x_iadd dM_pop_63 ?_
        refine x_top (v' := .int (nI ((8 * t + l) * 16 + c))) (by show Value.int ((nI 8 * nI t + nI (qI μ 6 t)) * nI 16 + nI c) = _; rw [hl]; simp only [pk_mul, nI_add]) ?_
        refine x_istore dM_pop_64 (Nat.le_of_ble_eq_true rfl) ?_
        refine x_aload_n dM_pop_66 rfl ?_
        refine x_get fM_wrote dM_pop_67 H.1 rfl ?_
        refine x_iload dM_pop_70 rfl ?_
        refine x_zald ((8 * t + l) * 16 + c) dM_pop_72 H.a3 (by simp only [pk_mul, nI_add]) (by omega) (by decide) ?_
        refine x_if_ne 79 dM_pop_73 (by decide) (fun hq => absurd (xb_eq (qZf hz)) hq) (fun _ => ?_)
        refine x_goto 107 dM_pop_76 (by decide) ?_
        refine x_iinc (v := nI (c + 1)) dM_pop_107 rfl (by rw [nI_succ]; rfl) (Nat.le_of_ble_eq_true rfl) ?_
        refine x_goto 38 dM_pop_110 (by decide) ?_
        exact x_loc _ (xac rfl (xac rfl (xac rfl (xac rfl xan)))) k
      · rw [show mdown ((8 * t + l) * 16) (n + 1) c μ = _ from congrArg (mdown ((8 * t + l) * 16) n (c + 1)) (if_neg hz)]
        exact H'
theorem m_pop_give {t l : Nat} (hb : E.2.2.1 ≤ m) (H : QP m h0 μ h) (ht : t < 16) (ho : qZ μ 1 t = true) (hl : qI μ 6 t = l + 1) (hl1 : 1 ≤ l) (hl8 : l < 8) : ∃ h', xG E (d + 2) mM_pop 0 [(0, .ref m), (1, .int (nI t)), (2, .int (nI 0))] [] false h (true, .inl (some (.int (nI l))), h') ∧ QP m h0 (qPop μ t l) h' := by
  obtain ⟨h1, k1, H1⟩ := m_no (d := d + 1) hb H ht ho
  have H2 := H1.s6 t l
  refine ⟨_, ?_, H2⟩
  refine x_aload_n dM_pop_0 rfl ?_
  refine x_iload_n dM_pop_1 rfl ?_
  refine x_callV1 cM_M_no dM_pop_2 H.1 (Nat.le_of_ble_eq_true rfl) (Nat.le_of_ble_eq_true rfl) k1 ?_
  refine x_if_eq 10 dM_pop_5 (by decide) (fun _ => ?_) (fun hq => absurd rfl hq)
  refine x_aload_n dM_pop_10 rfl ?_
  refine x_get fM_layers dM_pop_11 H1.1 rfl ?_
  refine x_iload_n dM_pop_14 rfl ?_
  refine x_iald t dM_pop_15 H1.a6 (by simp only [pk_mul, nI_add]) (by omega) (by decide) ?_
  refine x_iconst (v := (nI 1)) dM_pop_16 (by decide) ?_
  refine x_icmp_ne 26 dM_pop_17 (by decide) (fun _ => ?_) (fun hq => absurd ((nI_eq (show qI μ 6 t < 2 ^ 31 by omega) (by decide)).mp hq) (by omega))
  refine x_aload_n dM_pop_26 rfl ?_
  refine x_get fM_layers dM_pop_27 H1.1 rfl ?_
  refine x_iload_n dM_pop_30 rfl ?_
  refine x_dup2 dM_pop_31 rfl rfl ?_
  refine x_iald t dM_pop_32 H1.a6 (by simp only [pk_mul, nI_add]) (by omega) (by decide) ?_
  refine x_iconst (v := (nI 1)) dM_pop_33 (by decide) ?_
  refine x_isub dM_pop_34 ?_
  refine x_top (v' := .int (nI l)) (by show Value.int (nI (qI μ 6 t) - nI 1) = _; rw [hl, pk_sub (by omega)]; rfl) ?_
  refine x_iast t dM_pop_35 H1.a6 (by omega) (by simp only [pk_mul, nI_add]) (by omega) (by decide) ?_
  refine x_iconst (v := (nI 0)) dM_pop_36 (by decide) ?_
  refine x_istore_n dM_pop_37 (Nat.le_of_ble_eq_true rfl) ?_
  refine x_iload_n dM_pop_38 rfl ?_
  refine x_bipush (v := (nI 16)) dM_pop_39 (by decide) ?_
  refine x_icmp_ge 113 dM_pop_41 (by decide) (fun hq => absurd hq (nI_ge (a := 0) (by omega) (by omega))) (fun _ => ?_)
  refine x_iload_n dM_pop_44 rfl ?_
  refine x_if_eq 113 dM_pop_45 (by decide) (fun _ => ?_) (fun hq => absurd rfl hq)
  exact m_pop_end (kp := 0) H2 rfl rfl ht (by rw [sI_at, up_eq])
theorem m_pop_keep {t l : Nat} {kp : Int32} (hk : kp ≠ 0) (hb : E.2.2.1 ≤ m) (H : QP m h0 μ h) (ht : t < 16) (ho : qZ μ 1 t = true) (hl : qI μ 6 t = l + 1) (hl1 : 1 ≤ l) (hl8 : l < 8) : ∃ h', xG E (d + 2) mM_pop 0 [(0, .ref m), (1, .int (nI t)), (2, .int kp)] [] false h (true, .inl (some (.int (nI l))), h') ∧ QP m h0 (mdown ((8 * t + l) * 16) 16 0 (qPop μ t l)) h' := by
  obtain ⟨h1, k1, H1⟩ := m_no (d := d + 1) hb H ht ho
  have H2 := H1.s6 t l
  obtain ⟨h3, k3, H3⟩ := m_pop_loop (E := E) (d := d + 2) hk hb ht hl1 hl8 16 0 (qPop μ t l) _ [(3, .int (nI 0)), (0, .ref m), (1, .int (nI t)), (2, .int kp)] rfl (by unfold qPop; rw [sI_at, up_eq]) H2 rfl rfl rfl rfl
  refine ⟨h3, ?_, H3⟩
  refine x_aload_n dM_pop_0 rfl ?_
  refine x_iload_n dM_pop_1 rfl ?_
  refine x_callV1 cM_M_no dM_pop_2 H.1 (Nat.le_of_ble_eq_true rfl) (Nat.le_of_ble_eq_true rfl) k1 ?_
  refine x_if_eq 10 dM_pop_5 (by decide) (fun _ => ?_) (fun hq => absurd rfl hq)
  refine x_aload_n dM_pop_10 rfl ?_
  refine x_get fM_layers dM_pop_11 H1.1 rfl ?_
  refine x_iload_n dM_pop_14 rfl ?_
  refine x_iald t dM_pop_15 H1.a6 (by simp only [pk_mul, nI_add]) (by omega) (by decide) ?_
  refine x_iconst (v := (nI 1)) dM_pop_16 (by decide) ?_
  refine x_icmp_ne 26 dM_pop_17 (by decide) (fun _ => ?_) (fun hq => absurd ((nI_eq (show qI μ 6 t < 2 ^ 31 by omega) (by decide)).mp hq) (by omega))
  refine x_aload_n dM_pop_26 rfl ?_
  refine x_get fM_layers dM_pop_27 H1.1 rfl ?_
  refine x_iload_n dM_pop_30 rfl ?_
  refine x_dup2 dM_pop_31 rfl rfl ?_
  refine x_iald t dM_pop_32 H1.a6 (by simp only [pk_mul, nI_add]) (by omega) (by decide) ?_
  refine x_iconst (v := (nI 1)) dM_pop_33 (by decide) ?_
  refine x_isub dM_pop_34 ?_
  refine x_top (v' := .int (nI l)) (by show Value.int (nI (qI μ 6 t) - nI 1) = _; rw [hl, pk_sub (by omega)]; rfl) ?_
  refine x_iast t dM_pop_35 H1.a6 (by omega) (by simp only [pk_mul, nI_add]) (by omega) (by decide) ?_
  refine x_iconst (v := (nI 0)) dM_pop_36 (by decide) ?_
  refine x_istore_n dM_pop_37 (Nat.le_of_ble_eq_true rfl) ?_
  exact k3
def mcom1 (t c : Nat) (μ : qS) : qS := sI (sI (sL (sI μ 10 (520 * c + qI μ 9 c) (qK μ)) 12 (520 * c + qI μ 9 c) (mrd μ t c)) 9 c (qI μ 9 c + 1)) 11 c (qK μ)
def mcom (t : Nat) : Nat → Nat → qS → qS
  | 0, _, μ => μ
  | n + 1, c, μ => mcom t n (c + 1) (if mlo μ t c = 0 then μ else mcom1 t c μ)
theorem m_commit_bad {t : Int32} (hb : E.2.2.1 ≤ m) (H : QP m h0 μ h) (hbad : qbad μ t) : ∃ h', xG E (d + 3) mM_commit 0 [(0, .ref m), (1, .int t)] [] false h (true, .inl (some (.int (nI 0))), h') ∧ QP m h0 (sX μ 1) h' := by
  obtain ⟨h1, k1, H1⟩ := m_no_bad (d := d + 2) hb H hbad
  refine ⟨h1, ?_, H1⟩
  refine x_aload_n dM_commit_0 rfl ?_
  refine x_iload_n dM_commit_1 rfl ?_
  refine x_callV1 cM_M_no dM_commit_2 H.1 (Nat.le_of_ble_eq_true rfl) (Nat.le_of_ble_eq_true rfl) k1 ?_
  refine x_if_eq 10 dM_commit_5 (by decide) (fun hq => absurd hq (by decide)) (fun _ => ?_)
  refine x_iconst (v := (nI 0)) dM_commit_8 (by decide) ?_
  exact x_iret rfl dM_commit_9
theorem m_commit_sp {t : Nat} (hb : E.2.2.1 ≤ m) (H : QP m h0 μ h) (ht : t < 16) (ho : qZ μ 1 t = true) (hl : qI μ 6 t ≤ 8) (hs : qI μ 4 t < 2 ^ 31) (hk : qI μ 5 t < 2 ^ 31) (hla : ∀ c, c < 16 → qI μ 11 c < 2 ^ 31) (hsp : msc μ t ≠ 0) : ∃ h', xG E (d + 3) mM_commit 0 [(0, .ref m), (1, .int (nI t))] [] false h (true, .inl (some (.int (-1))), h') ∧ QP m h0 (sZ (sX μ 0) 1 t false) h' := by
  have hle : msc μ t ≤ 16 := cnt_le _ _
  obtain ⟨h1, k1, H1⟩ := m_no (d := d + 2) hb H ht ho
  refine ⟨_, ?_, H1.s1 t false⟩
  refine x_aload_n dM_commit_0 rfl ?_
  refine x_iload_n dM_commit_1 rfl ?_
  refine x_callV1 cM_M_no dM_commit_2 H.1 (Nat.le_of_ble_eq_true rfl) (Nat.le_of_ble_eq_true rfl) k1 ?_
  refine x_if_eq 10 dM_commit_5 (by decide) (fun _ => ?_) (fun hq => absurd rfl hq)
  refine x_aload_n dM_commit_10 rfl ?_
  refine x_iload_n dM_commit_11 rfl ?_
  refine x_callV1 cM_M_spoils dM_commit_12 H1.1 (Nat.le_of_ble_eq_true rfl) (Nat.le_of_ble_eq_true rfl) (m_spoils (d := d) H1 ht hl hs hk hla) ?_
  refine x_if_le 27 dM_commit_15 (by decide) (fun hq => absurd (Nat.le_zero.mp ((nI_leI (b := 0) (show msc μ t < 2 ^ 31 by omega) (by decide)).mp hq)) hsp) (fun _ => ?_)
  refine x_aload_n dM_commit_18 rfl ?_
  refine x_get fM_open dM_commit_19 H1.1 rfl ?_
  refine x_iload_n dM_commit_22 rfl ?_
  refine x_iconst (v := (xb false)) dM_commit_23 (by decide) ?_
  refine x_zast t dM_commit_24 H1.a1 (by omega) (by simp only [pk_mul, nI_add]) (by omega) (by decide) rfl ?_
  refine x_iconst (v := (-1)) dM_commit_25 (by decide) ?_
  exact x_iret rfl dM_commit_26
theorem m_commit_full {t : Nat} (hb : E.2.2.1 ≤ m) (H : QP m h0 μ h) (ht : t < 16) (ho : qZ μ 1 t = true) (hl : qI μ 6 t ≤ 8) (hs : qI μ 4 t < 2 ^ 31) (hk : qI μ 5 t < 2 ^ 31) (hla : ∀ c, c < 16 → qI μ 11 c < 2 ^ 31) (hsp : msc μ t = 0) (hal : sumN (qI μ 9) 16 ≤ 60000) (hf : ¬ (sumN (qI μ 9) 16 + mwr μ t ≤ 500)) : ∃ h', xG E (d + 3) mM_commit 0 [(0, .ref m), (1, .int (nI t))] [] false h (true, .inl (some (.int (nI 0))), h') ∧ QP m h0 (sX (sX μ 0) 2) h' := by
  have hle : mwr μ t ≤ 16 := cnt_le _ _
  obtain ⟨h1, k1, H1⟩ := m_no (d := d + 2) hb H ht ho
  obtain ⟨h2, k2, H2⟩ := m_fail (d := d + 2) (x := 2) hb H1
  refine ⟨h2, ?_, H2⟩
  refine x_aload_n dM_commit_0 rfl ?_
  refine x_iload_n dM_commit_1 rfl ?_
  refine x_callV1 cM_M_no dM_commit_2 H.1 (Nat.le_of_ble_eq_true rfl) (Nat.le_of_ble_eq_true rfl) k1 ?_
  refine x_if_eq 10 dM_commit_5 (by decide) (fun _ => ?_) (fun hq => absurd rfl hq)
  refine x_aload_n dM_commit_10 rfl ?_
  refine x_iload_n dM_commit_11 rfl ?_
  refine x_callV1 cM_M_spoils dM_commit_12 H1.1 (Nat.le_of_ble_eq_true rfl) (Nat.le_of_ble_eq_true rfl) (m_spoils (d := d) H1 ht hl hs hk hla) ?_
  refine x_if_le 27 dM_commit_15 (by decide) (fun _ => ?_) (fun hq => absurd (nI_le (b := 0) (Nat.le_of_eq hsp) (by decide)) hq)
  refine x_aload_n dM_commit_27 rfl ?_
  refine x_iload_n dM_commit_28 rfl ?_
  refine x_callV1 cM_M_written dM_commit_29 H1.1 (Nat.le_of_ble_eq_true rfl) (Nat.le_of_ble_eq_true rfl) (m_written (d := d + 1) H1 ht hl) ?_
  refine x_istore_n dM_commit_32 (Nat.le_of_ble_eq_true rfl) ?_
  refine x_aload_n dM_commit_33 rfl ?_
  refine x_callV0 cM_M_all dM_commit_34 H1.1 (Nat.le_of_ble_eq_true rfl) (Nat.le_of_ble_eq_true rfl) (m_all (d := d + 2) H1) ?_
  refine x_iload_n dM_commit_37 rfl ?_
  refine x_iadd dM_commit_38 ?_
  refine x_top (v' := .int (nI (sumN (qI μ 9) 16 + mwr μ t))) (by rw [nI_add]; rfl) ?_
  refine x_sipush (v := (nI 500)) dM_commit_39 (by decide) ?_
  refine x_icmp_le 51 dM_commit_42 (by decide) (fun hq => absurd ((nI_leI (by omega) (by decide)).mp hq) hf) (fun _ => ?_)
  refine x_aload_n dM_commit_45 rfl ?_
  refine x_iconst (v := (nI 2)) dM_commit_46 (by decide) ?_
  refine x_callV1 cM_M_fail dM_commit_47 H1.1 (Nat.le_of_ble_eq_true rfl) (Nat.le_of_ble_eq_true rfl) k2 ?_
  exact x_iret rfl dM_commit_50
theorem m_commit_idle {t : Nat} (hb : E.2.2.1 ≤ m) (H : QP m h0 μ h) (ht : t < 16) (ho : qZ μ 1 t = true) (hl : qI μ 6 t ≤ 8) (hs : qI μ 4 t < 2 ^ 31) (hk : qI μ 5 t < 2 ^ 31) (hla : ∀ c, c < 16 → qI μ 11 c < 2 ^ 31) (hsp : msc μ t = 0) (hf : sumN (qI μ 9) 16 + mwr μ t ≤ 500) (hw : mwr μ t = 0) : ∃ h', xG E (d + 3) mM_commit 0 [(0, .ref m), (1, .int (nI t))] [] false h (true, .inl (some (.int (nI (qK μ)))), h') ∧ QP m h0 (sZ (sX μ 0) 1 t false) h' := by
  obtain ⟨h1, k1, H1⟩ := m_no (d := d + 2) hb H ht ho
  have H2 := H1.s1 t false
  refine ⟨_, ?_, H2⟩
  refine x_aload_n dM_commit_0 rfl ?_
  refine x_iload_n dM_commit_1 rfl ?_
  refine x_callV1 cM_M_no dM_commit_2 H.1 (Nat.le_of_ble_eq_true rfl) (Nat.le_of_ble_eq_true rfl) k1 ?_
  refine x_if_eq 10 dM_commit_5 (by decide) (fun _ => ?_) (fun hq => absurd rfl hq)
  refine x_aload_n dM_commit_10 rfl ?_
  refine x_iload_n dM_commit_11 rfl ?_
  refine x_callV1 cM_M_spoils dM_commit_12 H1.1 (Nat.le_of_ble_eq_true rfl) (Nat.le_of_ble_eq_true rfl) (m_spoils (d := d) H1 ht hl hs hk hla) ?_
  refine x_if_le 27 dM_commit_15 (by decide) (fun _ => ?_) (fun hq => absurd (nI_le (b := 0) (Nat.le_of_eq hsp) (by decide)) hq)
  refine x_aload_n dM_commit_27 rfl ?_
  refine x_iload_n dM_commit_28 rfl ?_
  refine x_callV1 cM_M_written dM_commit_29 H1.1 (Nat.le_of_ble_eq_true rfl) (Nat.le_of_ble_eq_true rfl) (m_written (d := d + 1) H1 ht hl) ?_
  refine x_istore_n dM_commit_32 (Nat.le_of_ble_eq_true rfl) ?_
  refine x_aload_n dM_commit_33 rfl ?_
  refine x_callV0 cM_M_all dM_commit_34 H1.1 (Nat.le_of_ble_eq_true rfl) (Nat.le_of_ble_eq_true rfl) (m_all (d := d + 2) H1) ?_
  refine x_iload_n dM_commit_37 rfl ?_
  refine x_iadd dM_commit_38 ?_
  refine x_top (v' := .int (nI (sumN (qI μ 9) 16 + mwr μ t))) (by rw [nI_add]; rfl) ?_
  refine x_sipush (v := (nI 500)) dM_commit_39 (by decide) ?_
  refine x_icmp_le 51 dM_commit_42 (by decide) (fun _ => ?_) (fun hq => absurd (nI_le hf (by decide)) hq)
  refine x_aload_n dM_commit_51 rfl ?_
  refine x_get fM_open dM_commit_52 H1.1 rfl ?_
  refine x_iload_n dM_commit_55 rfl ?_
  refine x_iconst (v := (xb false)) dM_commit_56 (by decide) ?_
  refine x_zast t dM_commit_57 H1.a1 (by omega) (by simp only [pk_mul, nI_add]) (by omega) (by decide) rfl ?_
  refine x_iload_n dM_commit_58 rfl ?_
  refine x_if_ne 67 dM_commit_59 (by decide) (fun hq => absurd (by show nI (mwr μ t) = 0; rw [hw]; rfl) hq) (fun _ => ?_)
  refine x_aload_n dM_commit_62 rfl ?_
  refine x_get fM_clock dM_commit_63 H2.1 rfl ?_
  exact x_iret rfl dM_commit_66
theorem m_commit_loop {t : Nat} {n0 : Int32} (hb : E.2.2.1 ≤ m) (ht : t < 16) : ∀ (n c : Nat) (μ : qS) (h : xH), c + n = 16 → qI μ 6 t ≤ 8 → (∀ c', c ≤ c' → c' < 16 → qI μ 9 c' < 520) → QP m h0 μ h → ∃ h', xG E (d + 3) mM_commit 79 [(3, .int (nI c)), (2, .int n0), (0, .ref m), (1, .int (nI t))] [] true h (true, .inl (some (.int (nI (qK μ)))), h') ∧ QP m h0 (mcom t n c μ) h' := by
  intro n
  induction n with
  | zero =>
    intro c μ h hc hl hv H
    obtain rfl : c = 16 := by omega
    refine ⟨_, ?_, H⟩
    refine x_iload_n dM_commit_79 rfl ?_
    refine x_bipush (v := (nI 16)) dM_commit_80 (by decide) ?_
    refine x_icmp_ge 168 dM_commit_82 (by decide) (fun _ => ?_) (fun hq => absurd (nI_le (by omega) (by omega)) hq)
    refine x_aload_n dM_commit_168 rfl ?_
    refine x_get fM_clock dM_commit_169 H.1 rfl ?_
    exact x_iret rfl dM_commit_172
  | succ n ih =>
    intro c μ h hc hl hv H
    have hle := mlo_le μ t c
    by_cases hz : mlo μ t c = 0
    · obtain ⟨h', k, H'⟩ := ih (c + 1) μ h (by omega) hl (fun c' h1 h2 => hv c' (by omega) h2) H
      refine ⟨h', ?_, ?_⟩
      · refine x_iload_n dM_commit_79 rfl ?_
        refine x_bipush (v := (nI 16)) dM_commit_80 (by decide) ?_
        refine x_icmp_ge 168 dM_commit_82 (by decide) (fun hq => absurd hq (nI_ge (by omega) (by omega))) (fun _ => ?_)
        refine x_aload_n dM_commit_85 rfl ?_
        refine x_iload_n dM_commit_86 rfl ?_
        refine x_iload_n dM_commit_87 rfl ?_
        refine x_callV2 cM_M_layerOf dM_commit_88 H.1 (Nat.le_of_ble_eq_true rfl) (Nat.le_of_ble_eq_true rfl) (m_layerOf (d := d + 2) H ht (by omega) hl) ?_
        refine x_iconst (v := (-1)) dM_commit_91 (by decide) ?_
        refine x_icmp_ne 98 dM_commit_92 (by decide) (fun hq => absurd ((xpi_m1 (by omega)).mpr hz) hq) (fun _ => ?_)
        refine x_goto 162 dM_commit_95 (by decide) ?_
        refine x_iinc (v := nI (c + 1)) dM_commit_162 rfl (by rw [nI_succ]; rfl) (Nat.le_of_ble_eq_true rfl) ?_
        refine x_goto 79 dM_commit_165 (by decide) ?_
        exact k
      · rw [show mcom t (n + 1) c μ = _ from congrArg (mcom t n (c + 1)) (if_pos hz)]
        exact H'
    · have hvc := hv c (Nat.le_refl _) (by omega)
      have H1 := H.s10 (520 * c + qI μ 9 c) (qK μ)
      have em : mrd (sI μ 10 (520 * c + qI μ 9 c) (qK μ)) t c = mrd μ t c := by unfold mrd mlo; rw [sI_ne (by decide)]; rfl
      have H2 := H1.s12 (520 * c + qI μ 9 c) (mrd μ t c)
      have H3 := H2.s9 c (qI μ 9 c + 1)
      have H4 := H3.s11 c (qK μ)
      have e6 : qI (mcom1 t c μ) 6 = qI μ 6 := by
        unfold mcom1
        rw [sI_ne (by decide), sI_ne (by decide), qI_sL, sI_ne (by decide)]
      have e9 : qI (mcom1 t c μ) 9 = va_up (qI μ 9) c (qI μ 9 c + 1) := by
        unfold mcom1
        rw [sI_ne (by decide), sI_at, qI_sL, sI_ne (by decide)]
      obtain ⟨h', k, H'⟩ := ih (c + 1) (mcom1 t c μ) _ (by omega) (by rw [e6]; exact hl) (fun c' g1 g2 => by rw [e9, up_ne _ _ (by omega)]; exact hv c' (by omega) g2) H4
      refine ⟨h', ?_, ?_⟩
      · refine x_iload_n dM_commit_79 rfl ?_
        refine x_bipush (v := (nI 16)) dM_commit_80 (by decide) ?_
        refine x_icmp_ge 168 dM_commit_82 (by decide) (fun hq => absurd hq (nI_ge (by omega) (by omega))) (fun _ => ?_)
        refine x_aload_n dM_commit_85 rfl ?_
        refine x_iload_n dM_commit_86 rfl ?_
        refine x_iload_n dM_commit_87 rfl ?_
        refine x_callV2 cM_M_layerOf dM_commit_88 H.1 (Nat.le_of_ble_eq_true rfl) (Nat.le_of_ble_eq_true rfl) (m_layerOf (d := d + 2) H ht (by omega) hl) ?_
        refine x_iconst (v := (-1)) dM_commit_91 (by decide) ?_
        refine x_icmp_ne 98 dM_commit_92 (by decide) (fun _ => ?_) (fun hq => absurd ((xpi_m1 (by omega)).mp hq) hz)
        refine x_aload_n dM_commit_98 rfl ?_
        refine x_get fM_at dM_commit_99 H.1 rfl ?_
        refine x_sipush (v := (nI 520)) dM_commit_102 (by decide) ?_
        refine x_iload_n dM_commit_105 rfl ?_
        refine x_imul dM_commit_106 ?_
        refine x_aload_n dM_commit_107 rfl ?_
        refine x_get fM_versions dM_commit_108 H.1 rfl ?_
        refine x_iload_n dM_commit_111 rfl ?_
        refine x_iald c dM_commit_112 H.a9 (by simp only [pk_mul, nI_add]) (by omega) (by decide) ?_
        refine x_iadd dM_commit_113 ?_
        refine x_aload_n dM_commit_114 rfl ?_
        refine x_get fM_clock dM_commit_115 H.1 rfl ?_
        refine x_iast (520 * c + qI μ 9 c) dM_commit_118 H.a10 (by omega) (by simp only [pk_mul, nI_add]) (by omega) (by decide) ?_
        refine x_aload_n dM_commit_119 rfl ?_
        refine x_get fM_was dM_commit_120 H1.1 rfl ?_
        refine x_sipush (v := (nI 520)) dM_commit_123 (by decide) ?_
        refine x_iload_n dM_commit_126 rfl ?_
        refine x_imul dM_commit_127 ?_
        refine x_aload_n dM_commit_128 rfl ?_
        refine x_get fM_versions dM_commit_129 H1.1 rfl ?_
        refine x_iload_n dM_commit_132 rfl ?_
        refine x_iald c dM_commit_133 H1.a9 (by simp only [pk_mul, nI_add]) (by omega) (by decide) ?_
        refine x_iadd dM_commit_134 ?_
        refine x_aload_n dM_commit_135 rfl ?_
        refine x_iload_n dM_commit_136 rfl ?_
        refine x_iload_n dM_commit_137 rfl ?_
        refine x_callV2 cM_M_reading dM_commit_138 H1.1 (Nat.le_of_ble_eq_true rfl) (Nat.le_of_ble_eq_true rfl) (m_reading (d := d + 1) H1 ht (by omega) hl) ?_
        rw [em]
        refine x_last (520 * c + qI μ 9 c) dM_commit_141 H1.a12 (by omega) (by simp only [pk_mul, nI_add]; rfl) (by omega) (by decide) ?_
        refine x_aload_n dM_commit_142 rfl ?_
        refine x_get fM_versions dM_commit_143 H2.1 rfl ?_
        refine x_iload_n dM_commit_146 rfl ?_
        refine x_dup2 dM_commit_147 rfl rfl ?_
        refine x_iald c dM_commit_148 H2.a9 (by simp only [pk_mul, nI_add]) (by omega) (by decide) ?_
        refine x_iconst (v := (nI 1)) dM_commit_149 (by decide) ?_
        refine x_iadd dM_commit_150 ?_
        refine x_top (v' := .int (nI (qI μ 9 c + 1))) (by rw [← nI_add]; rfl) ?_
        refine x_iast c dM_commit_151 H2.a9 (by omega) (by simp only [pk_mul, nI_add]) (by omega) (by decide) ?_
        refine x_aload_n dM_commit_152 rfl ?_
        refine x_get fM_last dM_commit_153 H3.1 rfl ?_
        refine x_iload_n dM_commit_156 rfl ?_
        refine x_aload_n dM_commit_157 rfl ?_
        refine x_get fM_clock dM_commit_158 H3.1 rfl ?_
        refine x_iast c dM_commit_161 H3.a11 (by omega) (by simp only [pk_mul, nI_add]) (by omega) (by decide) ?_
        refine x_iinc (v := nI (c + 1)) dM_commit_162 rfl (by rw [nI_succ]; rfl) (Nat.le_of_ble_eq_true rfl) ?_
        refine x_goto 79 dM_commit_165 (by decide) ?_
        exact k
      · rw [show mcom t (n + 1) c μ = _ from congrArg (mcom t n (c + 1)) (if_neg hz)]
        exact H'
def qCommit (μ : qS) (t : Nat) : qS := mcom t 16 0 (sC (sZ (sX μ 0) 1 t false) (qK μ + 1))
theorem m_commit_ok {t : Nat} (hb : E.2.2.1 ≤ m) (H : QP m h0 μ h) (ht : t < 16) (ho : qZ μ 1 t = true) (hl : qI μ 6 t ≤ 8) (hs : qI μ 4 t < 2 ^ 31) (hk : qI μ 5 t < 2 ^ 31) (hla : ∀ c, c < 16 → qI μ 11 c < 2 ^ 31) (hsp : msc μ t = 0) (hf : sumN (qI μ 9) 16 + mwr μ t ≤ 500) (hw : mwr μ t ≠ 0) (hv : ∀ c, c < 16 → qI μ 9 c < 520) : ∃ h', xG E (d + 3) mM_commit 0 [(0, .ref m), (1, .int (nI t))] [] false h (true, .inl (some (.int (nI (qK μ + 1)))), h') ∧ QP m h0 (qCommit μ t) h' := by
  have hle : mwr μ t ≤ 16 := cnt_le _ _
  obtain ⟨h1, k1, H1⟩ := m_no (d := d + 2) hb H ht ho
  have H2 := H1.s1 t false
  have H3 := H2.c (qK μ + 1)
  obtain ⟨h4, k4, H4⟩ := m_commit_loop (E := E) (d := d) (n0 := nI (mwr μ t)) hb ht 16 0 (sC (sZ (sX μ 0) 1 t false) (qK μ + 1)) _ rfl hl (fun c' _ g => hv c' g) H3
  refine ⟨h4, ?_, H4⟩
  refine x_aload_n dM_commit_0 rfl ?_
  refine x_iload_n dM_commit_1 rfl ?_
  refine x_callV1 cM_M_no dM_commit_2 H.1 (Nat.le_of_ble_eq_true rfl) (Nat.le_of_ble_eq_true rfl) k1 ?_
  refine x_if_eq 10 dM_commit_5 (by decide) (fun _ => ?_) (fun hq => absurd rfl hq)
  refine x_aload_n dM_commit_10 rfl ?_
  refine x_iload_n dM_commit_11 rfl ?_
  refine x_callV1 cM_M_spoils dM_commit_12 H1.1 (Nat.le_of_ble_eq_true rfl) (Nat.le_of_ble_eq_true rfl) (m_spoils (d := d) H1 ht hl hs hk hla) ?_
  refine x_if_le 27 dM_commit_15 (by decide) (fun _ => ?_) (fun hq => absurd (nI_le (b := 0) (Nat.le_of_eq hsp) (by decide)) hq)
  refine x_aload_n dM_commit_27 rfl ?_
  refine x_iload_n dM_commit_28 rfl ?_
  refine x_callV1 cM_M_written dM_commit_29 H1.1 (Nat.le_of_ble_eq_true rfl) (Nat.le_of_ble_eq_true rfl) (m_written (d := d + 1) H1 ht hl) ?_
  refine x_istore_n dM_commit_32 (Nat.le_of_ble_eq_true rfl) ?_
  refine x_aload_n dM_commit_33 rfl ?_
  refine x_callV0 cM_M_all dM_commit_34 H1.1 (Nat.le_of_ble_eq_true rfl) (Nat.le_of_ble_eq_true rfl) (m_all (d := d + 2) H1) ?_
  refine x_iload_n dM_commit_37 rfl ?_
  refine x_iadd dM_commit_38 ?_
  refine x_top (v' := .int (nI (sumN (qI μ 9) 16 + mwr μ t))) (by rw [nI_add]; rfl) ?_
  refine x_sipush (v := (nI 500)) dM_commit_39 (by decide) ?_
  refine x_icmp_le 51 dM_commit_42 (by decide) (fun _ => ?_) (fun hq => absurd (nI_le hf (by decide)) hq)
  refine x_aload_n dM_commit_51 rfl ?_
  refine x_get fM_open dM_commit_52 H1.1 rfl ?_
  refine x_iload_n dM_commit_55 rfl ?_
  refine x_iconst (v := (xb false)) dM_commit_56 (by decide) ?_
  refine x_zast t dM_commit_57 H1.a1 (by omega) (by simp only [pk_mul, nI_add]) (by omega) (by decide) rfl ?_
  refine x_iload_n dM_commit_58 rfl ?_
  refine x_if_ne 67 dM_commit_59 (by decide) (fun _ => ?_) (fun hq => absurd ((nI_eq (b := 0) (show mwr μ t < 2 ^ 31 by omega) (by decide)).mp hq) hw)
  refine x_aload_n dM_commit_67 rfl ?_
  refine x_dup dM_commit_68 rfl ?_
  refine x_get fM_clock dM_commit_69 H2.1 rfl ?_
  refine x_iconst (v := (nI 1)) dM_commit_72 (by decide) ?_
  refine x_iadd dM_commit_73 ?_
  refine x_top (v' := .int (nI (qK μ + 1))) (by rw [← nI_add]; rfl) ?_
  refine x_put fM_clock dM_commit_74 H2.1 (by omega) rfl rfl (Nat.le_of_ble_eq_true rfl) ?_
  refine x_iconst (v := (nI 0)) dM_commit_77 (by decide) ?_
  refine x_istore_n dM_commit_78 (Nat.le_of_ble_eq_true rfl) ?_
  exact k4
def mpv (f : Nat → Nat) (k : Nat) : Nat → Nat → Nat
  | 0, v => v
  | n + 1, v => if f (v + 1) ≤ k then mpv f k n (v + 1) else v
theorem m_past_bad {c k : Int32} (hb : E.2.2.1 ≤ m) (H : QP m h0 μ h) (hbad : badc c ∨ ∃ j, j < 16 ∧ c = nI j ∧ (k < 0 ∨ nI (qK μ) < k ∨ k < nI (qI μ 10 (520 * j)))) : ∃ h', xG E d mM_past 0 [(0, .ref m), (1, .int c), (2, .int k)] [] false h (true, .inl (some (.long 0)), h') ∧ QP m h0 (sX μ 1) h' := by
  have H1 := H.x 1
  refine ⟨_, ?_, H1⟩
  have go : ∀ w, xG E d mM_past 37 [(0, .ref m), (1, .int c), (2, .int k)] [.ref m] w h (true, .inl (some (.long 0)), xset h m (qC m 1 (qK μ))) := by
    intro w
    refine x_iconst (v := (nI 1)) dM_past_37 (by decide) ?_
    refine x_goto 42 dM_past_38 (by decide) ?_
    refine x_put fM_thrown dM_past_42 H.1 (by omega) rfl rfl (Nat.le_of_ble_eq_true rfl) ?_
    refine x_aload_n dM_past_45 rfl ?_
    refine x_get fM_thrown dM_past_46 H1.1 rfl ?_
    refine x_if_le 54 dM_past_49 (by decide) (fun hq => absurd hq (show ¬ nI 1 ≤ 0 by decide)) (fun _ => ?_)
    refine x_lconst (v := 0) dM_past_52 (by decide) ?_
    exact x_lret rfl dM_past_53
  refine x_aload_n dM_past_0 rfl ?_
  refine x_iload_n dM_past_1 rfl ?_
  refine x_if_lt 37 dM_past_2 (by decide) (fun _ => go _) (fun hn => ?_)
  refine x_iload_n dM_past_5 rfl ?_
  refine x_bipush (v := (nI 16)) dM_past_6 (by decide) ?_
  refine x_icmp_ge 37 dM_past_8 (by decide) (fun _ => go _) (fun hn2 => ?_)
  rcases hbad with hbad | ⟨j, hj, rfl, hbad⟩
  · exact absurd (hbad.resolve_left hn) hn2
  refine x_iload_n dM_past_11 rfl ?_
  refine x_if_lt 37 dM_past_12 (by decide) (fun _ => go _) (fun hn3 => ?_)
  refine x_iload_n dM_past_15 rfl ?_
  refine x_aload_n dM_past_16 rfl ?_
  refine x_get fM_clock dM_past_17 H.1 rfl ?_
  refine x_icmp_gt 37 dM_past_20 (by decide) (fun _ => go _) (fun hn4 => ?_)
  have h5 := (hbad.resolve_left hn3).resolve_left hn4
  refine x_aload_n dM_past_23 rfl ?_
  refine x_get fM_at dM_past_24 H.1 rfl ?_
  refine x_sipush (v := (nI 520)) dM_past_27 (by decide) ?_
  refine x_iload_n dM_past_30 rfl ?_
  refine x_imul dM_past_31 ?_
  refine x_iald (520 * j) dM_past_32 H.a10 (by simp only [pk_mul, nI_add]) (by omega) (by decide) ?_
  refine x_iload_n dM_past_33 rfl ?_
  refine x_icmp_le 41 dM_past_34 (by decide) (fun hq => absurd h5 (Int32.not_lt.mpr hq)) (fun _ => go _)
theorem m_past_loop {c k : Nat} (H : QP m h0 μ h) (hc : c < 16) (hk : k < 2 ^ 31) (hv : qI μ 9 c ≤ 500) (hat : ∀ v, v < qI μ 9 c → qI μ 10 (520 * c + v) < 2 ^ 31) : ∀ n v : Nat, v + n + 1 = qI μ 9 c → xG E d mM_past 56 [(3, .int (nI v)), (0, .ref m), (1, .int (nI c)), (2, .int (nI k))] [] true h (true, .inl (some (.long (qL μ 12 (520 * c + mpv (fun v => qI μ 10 (520 * c + v)) k n v)))), h) := by
  intro n
  induction n with
  | zero =>
    intro v hn
    refine x_iload_n dM_past_56 rfl ?_
    refine x_iconst (v := (nI 1)) dM_past_57 (by decide) ?_
    refine x_iadd dM_past_58 ?_
    refine x_aload_n dM_past_59 rfl ?_
    refine x_get fM_versions dM_past_60 H.1 rfl ?_
    refine x_iload_n dM_past_63 rfl ?_
    refine x_iald c dM_past_64 H.a9 (by simp only [pk_mul, nI_add]) (by omega) (by decide) ?_
    refine x_icmp_ge 92 dM_past_65 (by decide) (fun _ => ?_) (fun hq => absurd (by show nI (qI μ 9 c) ≤ nI v + nI 1; rw [nI_add]; exact nI_le (by omega) (by omega)) hq)
    refine x_aload_n dM_past_92 rfl ?_
    refine x_get fM_was dM_past_93 H.1 rfl ?_
    refine x_sipush (v := (nI 520)) dM_past_96 (by decide) ?_
    refine x_iload_n dM_past_99 rfl ?_
    refine x_imul dM_past_100 ?_
    refine x_iload_n dM_past_101 rfl ?_
    refine x_iadd dM_past_102 ?_
    refine x_lald (520 * c + v) dM_past_103 H.a12 (by simp only [pk_mul, nI_add]) (by omega) (by decide) ?_
    exact x_lret rfl dM_past_104
  | succ n ih =>
    intro v hn
    have hat1 := hat (v + 1) (by omega)
    refine x_iload_n dM_past_56 rfl ?_
    refine x_iconst (v := (nI 1)) dM_past_57 (by decide) ?_
    refine x_iadd dM_past_58 ?_
    refine x_aload_n dM_past_59 rfl ?_
    refine x_get fM_versions dM_past_60 H.1 rfl ?_
    refine x_iload_n dM_past_63 rfl ?_
    refine x_iald c dM_past_64 H.a9 (by simp only [pk_mul, nI_add]) (by omega) (by decide) ?_
    refine x_icmp_ge 92 dM_past_65 (by decide) (fun hq => absurd (show nI (qI μ 9 c) ≤ nI v + nI 1 from hq) (by rw [nI_add]; exact nI_ge (by omega) (by omega))) (fun _ => ?_)
    refine x_aload_n dM_past_68 rfl ?_
    refine x_get fM_at dM_past_69 H.1 rfl ?_
    refine x_sipush (v := (nI 520)) dM_past_72 (by decide) ?_
    refine x_iload_n dM_past_75 rfl ?_
    refine x_imul dM_past_76 ?_
    refine x_iload_n dM_past_77 rfl ?_
    refine x_iadd dM_past_78 ?_
    refine x_iconst (v := (nI 1)) dM_past_79 (by decide) ?_
    refine x_iadd dM_past_80 ?_
    refine x_iald (520 * c + (v + 1)) dM_past_81 H.a10 (by simp only [pk_mul, nI_add]; rfl) (by omega) (by decide) ?_
    refine x_iload_n dM_past_82 rfl ?_
    refine x_icmp_gt 92 dM_past_83 (by decide) (fun hq => ?_) (fun hq => ?_)
    · rw [show mpv (fun v => qI μ 10 (520 * c + v)) k (n + 1) v = v from if_neg (fun z => absurd hq (nI_nlt z hk))]
      refine x_aload_n dM_past_92 rfl ?_
      refine x_get fM_was dM_past_93 H.1 rfl ?_
      refine x_sipush (v := (nI 520)) dM_past_96 (by decide) ?_
      refine x_iload_n dM_past_99 rfl ?_
      refine x_imul dM_past_100 ?_
      refine x_iload_n dM_past_101 rfl ?_
      refine x_iadd dM_past_102 ?_
      refine x_lald (520 * c + v) dM_past_103 H.a12 (by simp only [pk_mul, nI_add]) (by omega) (by decide) ?_
      exact x_lret rfl dM_past_104
    · rw [show mpv (fun v => qI μ 10 (520 * c + v)) k (n + 1) v = mpv (fun v => qI μ 10 (520 * c + v)) k n (v + 1) from if_pos (Nat.not_lt.mp (fun z => hq (nI_lt z (by omega))))]
      refine x_iinc (v := nI (v + 1)) dM_past_86 rfl (by rw [nI_succ]; rfl) (Nat.le_of_ble_eq_true rfl) ?_
      refine x_goto 56 dM_past_89 (by decide) ?_
      exact ih (v + 1) (by omega)
theorem m_past_ok {c k : Nat} (hb : E.2.2.1 ≤ m) (H : QP m h0 μ h) (hc : c < 16) (hk : k ≤ qK μ) (hkk : qK μ < 2 ^ 31) (hv1 : 1 ≤ qI μ 9 c) (hv : qI μ 9 c ≤ 500) (hat : ∀ v, v < qI μ 9 c → qI μ 10 (520 * c + v) < 2 ^ 31) (hok : qI μ 10 (520 * c) ≤ k) : ∃ h', xG E d mM_past 0 [(0, .ref m), (1, .int (nI c)), (2, .int (nI k))] [] false h (true, .inl (some (.long (qL μ 12 (520 * c + mpv (fun v => qI μ 10 (520 * c + v)) k (qI μ 9 c - 1) 0)))), h') ∧ QP m h0 (sX μ 0) h' := by
  have H1 := H.x 0
  refine ⟨_, ?_, H1⟩
  refine x_aload_n dM_past_0 rfl ?_
  refine x_iload_n dM_past_1 rfl ?_
  refine x_if_lt 37 dM_past_2 (by decide) (fun hq => absurd hq (nI_pos (by omega))) (fun _ => ?_)
  refine x_iload_n dM_past_5 rfl ?_
  refine x_bipush (v := (nI 16)) dM_past_6 (by decide) ?_
  refine x_icmp_ge 37 dM_past_8 (by decide) (fun hq => absurd hq (nI_ge hc (by decide))) (fun _ => ?_)
  refine x_iload_n dM_past_11 rfl ?_
  refine x_if_lt 37 dM_past_12 (by decide) (fun hq => absurd hq (nI_pos (by omega))) (fun _ => ?_)
  refine x_iload_n dM_past_15 rfl ?_
  refine x_aload_n dM_past_16 rfl ?_
  refine x_get fM_clock dM_past_17 H.1 rfl ?_
  refine x_icmp_gt 37 dM_past_20 (by decide) (fun hq => absurd hq (nI_nlt hk (by omega))) (fun _ => ?_)
  refine x_aload_n dM_past_23 rfl ?_
  refine x_get fM_at dM_past_24 H.1 rfl ?_
  refine x_sipush (v := (nI 520)) dM_past_27 (by decide) ?_
  refine x_iload_n dM_past_30 rfl ?_
  refine x_imul dM_past_31 ?_
  refine x_iald (520 * c) dM_past_32 H.a10 (by simp only [pk_mul, nI_add]) (by omega) (by decide) ?_
  refine x_iload_n dM_past_33 rfl ?_
  refine x_icmp_le 41 dM_past_34 (by decide) (fun _ => ?_) (fun hq => absurd (nI_le hok (by omega)) hq)
  refine x_iconst (v := (nI 0)) dM_past_41 (by decide) ?_
  refine x_put fM_thrown dM_past_42 H.1 (by omega) rfl rfl (Nat.le_of_ble_eq_true rfl) ?_
  refine x_aload_n dM_past_45 rfl ?_
  refine x_get fM_thrown dM_past_46 H1.1 rfl ?_
  refine x_if_le 54 dM_past_49 (by decide) (fun _ => ?_) (fun hq => absurd (show nI 0 ≤ 0 by decide) hq)
  refine x_iconst (v := (nI 0)) dM_past_54 (by decide) ?_
  refine x_istore_n dM_past_55 (Nat.le_of_ble_eq_true rfl) ?_
  exact m_past_loop (d := d) H1 hc (by omega) hv hat _ 0 (by show 0 + (qI μ 9 c - 1) + 1 = qI μ 9 c; omega)
theorem m_about_bad {t x : Int32} (hb : E.2.2.1 ≤ m) (H : QP m h0 μ h) (hbad : qbad μ t) : ∃ h', xG E (d + 3) mM_about 0 [(0, .ref m), (1, .int t), (2, .int x)] [] false h (true, .inl (some (.int (nI 0))), h') ∧ QP m h0 (sX μ 1) h' := by
  obtain ⟨h1, k1, H1⟩ := m_no_bad (d := d + 2) hb H hbad
  refine ⟨h1, ?_, H1⟩
  refine x_aload_n dM_about_0 rfl ?_
  refine x_iload_n dM_about_1 rfl ?_
  refine x_callV1 cM_M_no dM_about_2 H.1 (Nat.le_of_ble_eq_true rfl) (Nat.le_of_ble_eq_true rfl) k1 ?_
  refine x_if_eq 10 dM_about_5 (by decide) (fun hq => absurd hq (by decide)) (fun _ => ?_)
  refine x_iconst (v := (nI 0)) dM_about_8 (by decide) ?_
  exact x_iret rfl dM_about_9
theorem m_about_badw {t : Nat} {x : Int32} (hb : E.2.2.1 ≤ m) (H : QP m h0 μ h) (ht : t < 16) (ho : qZ μ 1 t = true) (hw : x.toInt < 0 ∨ 5 < x.toInt) : ∃ h', xG E (d + 3) mM_about 0 [(0, .ref m), (1, .int (nI t)), (2, .int x)] [] false h (true, .inl (some (.int (nI 0))), h') ∧ QP m h0 (sX (sX μ 0) 2) h' := by
  obtain ⟨h1, k1, H1⟩ := m_no (d := d + 2) hb H ht ho
  obtain ⟨h2, k2, H2⟩ := m_fail (d := d + 2) (x := 2) hb H1
  refine ⟨h2, ?_, H2⟩
  refine x_aload_n dM_about_0 rfl ?_
  refine x_iload_n dM_about_1 rfl ?_
  refine x_callV1 cM_M_no dM_about_2 H.1 (Nat.le_of_ble_eq_true rfl) (Nat.le_of_ble_eq_true rfl) k1 ?_
  refine x_if_eq 10 dM_about_5 (by decide) (fun _ => ?_) (fun hq => absurd rfl hq)
  refine x_iload_n dM_about_10 rfl ?_
  refine x_tableOut 119 dM_about_11 hw (by decide) ?_
  refine x_aload_n dM_about_119 rfl ?_
  refine x_iconst (v := (nI 2)) dM_about_120 (by decide) ?_
  refine x_callV1 cM_M_fail dM_about_121 H1.1 (Nat.le_of_ble_eq_true rfl) (Nat.le_of_ble_eq_true rfl) k2 ?_
  exact x_iret rfl dM_about_124
def mab (μ : qS) (t : Nat) : Nat → Nat
  | 0 => qI μ 4 t
  | 1 => qI μ 5 t
  | 2 => qI μ 6 t
  | 3 => mwr μ t
  | 4 => cnt (fun c => qZ μ 2 (16 * t + c)) 16
  | _ => msc μ t
theorem m_about_loop {t : Nat} {x : Int32} (H : QP m h0 μ h) (ht : t < 16) : ∀ n c : Nat, c + n = 16 → xG E d mM_about 80 [(4, .int (nI c)), (3, .int (nI (cnt (fun c => qZ μ 2 (16 * t + c)) c))), (0, .ref m), (1, .int (nI t)), (2, .int x)] [] true h (true, .inl (some (.int (nI (cnt (fun c => qZ μ 2 (16 * t + c)) 16)))), h) := by
  intro n
  induction n with
  | zero =>
    intro c hc
    obtain rfl : c = 16 := by omega
    refine x_iload dM_about_80 rfl ?_
    refine x_bipush (v := (nI 16)) dM_about_82 (by decide) ?_
    refine x_icmp_ge 111 dM_about_84 (by decide) (fun _ => ?_) (fun hq => absurd (nI_le (by omega) (by omega)) hq)
    refine x_iload_n dM_about_111 rfl ?_
    exact x_iret rfl dM_about_112
  | succ n ih =>
    intro c hc
    have ih' := ih (c + 1) (by omega)
    refine x_iload dM_about_80 rfl ?_
    refine x_bipush (v := (nI 16)) dM_about_82 (by decide) ?_
    refine x_icmp_ge 111 dM_about_84 (by decide) (fun hq => absurd hq (nI_ge (by omega) (by omega))) (fun _ => ?_)
    refine x_aload_n dM_about_87 rfl ?_
    refine x_get fM_saw dM_about_88 H.1 rfl ?_
    refine x_bipush (v := (nI 16)) dM_about_91 (by decide) ?_
    refine x_iload_n dM_about_93 rfl ?_
    refine x_imul dM_about_94 ?_
    refine x_iload dM_about_95 rfl ?_
    refine x_iadd dM_about_97 ?_
    refine x_zald (16 * t + c) dM_about_98 H.a2 (by simp only [pk_mul, nI_add]) (by omega) (by decide) ?_
    refine x_if_eq 105 dM_about_99 (by decide) (fun hq => ?_) (fun hq => ?_)
    · rw [show cnt (fun c => qZ μ 2 (16 * t + c)) (c + 1) = cnt (fun c => qZ μ 2 (16 * t + c)) c from if_neg (fun z => xb_ne z hq)] at ih'
      refine x_iinc (v := nI (c + 1)) dM_about_105 rfl (by rw [nI_succ]; rfl) (Nat.le_of_ble_eq_true rfl) ?_
      refine x_goto 80 dM_about_108 (by decide) ?_
      exact ih'
    · rw [show cnt (fun c => qZ μ 2 (16 * t + c)) (c + 1) = cnt (fun c => qZ μ 2 (16 * t + c)) c + 1 from if_pos (by
        show qZ μ 2 (16 * t + c) = true
        cases hx : qZ μ 2 (16 * t + c)
        · exact absurd (xb_eq hx) hq
        · rfl)] at ih'
      refine x_iinc (v := nI (cnt (fun c => qZ μ 2 (16 * t + c)) c + 1)) dM_about_102 rfl (by rw [nI_succ]; rfl) (Nat.le_of_ble_eq_true rfl) ?_
      refine x_iinc (v := nI (c + 1)) dM_about_105 rfl (by rw [nI_succ]; rfl) (Nat.le_of_ble_eq_true rfl) ?_
      refine x_goto 80 dM_about_108 (by decide) ?_
      exact x_loc _ (xac rfl (xac rfl (xac rfl (xac rfl (xac rfl xan))))) ih'
theorem m_about_ok {t x : Nat} (hb : E.2.2.1 ≤ m) (H : QP m h0 μ h) (ht : t < 16) (ho : qZ μ 1 t = true) (hl : qI μ 6 t ≤ 8) (hs : qI μ 4 t < 2 ^ 31) (hk : qI μ 5 t < 2 ^ 31) (hla : ∀ c, c < 16 → qI μ 11 c < 2 ^ 31) (hx : x ≤ 5) : ∃ h', xG E (d + 3) mM_about 0 [(0, .ref m), (1, .int (nI t)), (2, .int (nI x))] [] false h (true, .inl (some (.int (nI (mab μ t x)))), h') ∧ QP m h0 (sX μ 0) h' := by
  obtain ⟨h1, k1, H1⟩ := m_no (d := d + 2) hb H ht ho
  refine ⟨h1, ?_, H1⟩
  refine x_aload_n dM_about_0 rfl ?_
  refine x_iload_n dM_about_1 rfl ?_
  refine x_callV1 cM_M_no dM_about_2 H.1 (Nat.le_of_ble_eq_true rfl) (Nat.le_of_ble_eq_true rfl) k1 ?_
  refine x_if_eq 10 dM_about_5 (by decide) (fun _ => ?_) (fun hq => absurd rfl hq)
  refine x_iload_n dM_about_10 rfl ?_
  rcases (show x = 0 ∨ x = 1 ∨ x = 2 ∨ x = 3 ∨ x = 4 ∨ x = 5 by omega) with rfl | rfl | rfl | rfl | rfl | rfl
  · refine x_tableIn 48 dM_about_11 (by decide) (by decide) rfl (by decide) ?_
    refine x_aload_n dM_about_48 rfl ?_
    refine x_get fM_start dM_about_49 H1.1 rfl ?_
    refine x_iload_n dM_about_52 rfl ?_
    refine x_iald t dM_about_53 H1.a4 (by simp only [pk_mul, nI_add]) (by omega) (by decide) ?_
    exact x_iret rfl dM_about_54
  · refine x_tableIn 55 dM_about_11 (by decide) (by decide) rfl (by decide) ?_
    refine x_aload_n dM_about_55 rfl ?_
    refine x_get fM_kind dM_about_56 H1.1 rfl ?_
    refine x_iload_n dM_about_59 rfl ?_
    refine x_iald t dM_about_60 H1.a5 (by simp only [pk_mul, nI_add]) (by omega) (by decide) ?_
    exact x_iret rfl dM_about_61
  · refine x_tableIn 62 dM_about_11 (by decide) (by decide) rfl (by decide) ?_
    refine x_aload_n dM_about_62 rfl ?_
    refine x_get fM_layers dM_about_63 H1.1 rfl ?_
    refine x_iload_n dM_about_66 rfl ?_
    refine x_iald t dM_about_67 H1.a6 (by simp only [pk_mul, nI_add]) (by omega) (by decide) ?_
    exact x_iret rfl dM_about_68
  · refine x_tableIn 69 dM_about_11 (by decide) (by decide) rfl (by decide) ?_
    refine x_aload_n dM_about_69 rfl ?_
    refine x_iload_n dM_about_70 rfl ?_
    refine x_callV1 cM_M_written dM_about_71 H1.1 (Nat.le_of_ble_eq_true rfl) (Nat.le_of_ble_eq_true rfl) (m_written (d := d + 1) H1 ht hl) ?_
    exact x_iret rfl dM_about_74
  · refine x_tableIn 75 dM_about_11 (by decide) (by decide) rfl (by decide) ?_
    refine x_iconst (v := (nI 0)) dM_about_75 (by decide) ?_
    refine x_istore_n dM_about_76 (Nat.le_of_ble_eq_true rfl) ?_
    refine x_iconst (v := (nI 0)) dM_about_77 (by decide) ?_
    refine x_istore dM_about_78 (Nat.le_of_ble_eq_true rfl) ?_
    exact m_about_loop H1 ht 16 0 rfl
  · refine x_tableIn 113 dM_about_11 (by decide) (by decide) rfl (by decide) ?_
    refine x_aload_n dM_about_113 rfl ?_
    refine x_iload_n dM_about_114 rfl ?_
    refine x_callV1 cM_M_spoils dM_about_115 H1.1 (Nat.le_of_ble_eq_true rfl) (Nat.le_of_ble_eq_true rfl) (m_spoils (d := d) H1 ht hl hs hk hla) ?_
    exact x_iret rfl dM_about_118
theorem m_count_bad {x : Int32} (hb : E.2.2.1 ≤ m) (H : QP m h0 μ h) (hw : x.toInt < 0 ∨ 3 < x.toInt) : ∃ h', xG E (d + 2) mM_count 0 [(0, .ref m), (1, .int x)] [] false h (true, .inl (some (.int (-1))), h') ∧ QP m h0 (sX μ 0) h' := by
  refine ⟨_, ?_, H.x 0⟩
  refine x_aload_n dM_count_0 rfl ?_
  refine x_iconst (v := (nI 0)) dM_count_1 (by decide) ?_
  refine x_put fM_thrown dM_count_2 H.1 (by omega) rfl rfl (Nat.le_of_ble_eq_true rfl) ?_
  refine x_iconst (v := (nI 0)) dM_count_5 (by decide) ?_
  refine x_istore_n dM_count_6 (Nat.le_of_ble_eq_true rfl) ?_
  refine x_iload_n dM_count_7 rfl ?_
  refine x_tableOut 83 dM_count_8 hw (by decide) ?_
  refine x_iconst (v := (-1)) dM_count_83 (by decide) ?_
  exact x_iret rfl dM_count_84
theorem m_count_loop {x : Int32} (H : QP m h0 μ h) : ∀ n t : Nat, t + n = 16 → xG E d mM_count 47 [(3, .int (nI t)), (2, .int (nI (cnt (qZ μ 1) t))), (0, .ref m), (1, .int x)] [] true h (true, .inl (some (.int (nI (cnt (qZ μ 1) 16)))), h) := by
  intro n
  induction n with
  | zero =>
    intro c hc
    obtain rfl : c = 16 := by omega
    refine x_iload_n dM_count_47 rfl ?_
    refine x_bipush (v := (nI 16)) dM_count_48 (by decide) ?_
    refine x_icmp_ge 71 dM_count_50 (by decide) (fun _ => ?_) (fun hq => absurd (nI_le (by omega) (by omega)) hq)
    refine x_iload_n dM_count_71 rfl ?_
    exact x_iret rfl dM_count_72
  | succ n ih =>
    intro c hc
    have ih' := ih (c + 1) (by omega)
    refine x_iload_n dM_count_47 rfl ?_
    refine x_bipush (v := (nI 16)) dM_count_48 (by decide) ?_
    refine x_icmp_ge 71 dM_count_50 (by decide) (fun hq => absurd hq (nI_ge (by omega) (by omega))) (fun _ => ?_)
    refine x_aload_n dM_count_53 rfl ?_
    refine x_get fM_open dM_count_54 H.1 rfl ?_
    refine x_iload_n dM_count_57 rfl ?_
    refine x_zald c dM_count_58 H.a1 (by simp only [pk_mul, nI_add]) (by omega) (by decide) ?_
    refine x_if_eq 65 dM_count_59 (by decide) (fun hq => ?_) (fun hq => ?_)
    · rw [show cnt (qZ μ 1) (c + 1) = cnt (qZ μ 1) c from if_neg (fun z => xb_ne z hq)] at ih'
      refine x_iinc (v := nI (c + 1)) dM_count_65 rfl (by rw [nI_succ]; rfl) (Nat.le_of_ble_eq_true rfl) ?_
      refine x_goto 47 dM_count_68 (by decide) ?_
      exact ih'
    · rw [show cnt (qZ μ 1) (c + 1) = cnt (qZ μ 1) c + 1 from if_pos (by
        cases hx : qZ μ 1 c
        · exact absurd (xb_eq hx) hq
        · rfl)] at ih'
      refine x_iinc (v := nI (cnt (qZ μ 1) c + 1)) dM_count_62 rfl (by rw [nI_succ]; rfl) (Nat.le_of_ble_eq_true rfl) ?_
      refine x_iinc (v := nI (c + 1)) dM_count_65 rfl (by rw [nI_succ]; rfl) (Nat.le_of_ble_eq_true rfl) ?_
      refine x_goto 47 dM_count_68 (by decide) ?_
      exact x_loc _ (xac rfl (xac rfl (xac rfl (xac rfl xan)))) ih'
def mco (μ : qS) : Nat → Nat
  | 0 => qK μ
  | 1 => cnt (qZ μ 1) 16
  | 2 => sumN (qI μ 9) 16
  | _ => mflo μ 16
theorem mflo_X (x : Nat) : ∀ t, mflo (sX μ x) t = mflo μ t
  | 0 => rfl
  | t + 1 => by
    show (if qZ μ 1 t = true then min (mflo (sX μ x) t) (qI μ 4 t) else mflo (sX μ x) t) = _
    rw [mflo_X x t]
    rfl
theorem m_count_ok {x : Nat} (hb : E.2.2.1 ≤ m) (H : QP m h0 μ h) (hk : qK μ < 2 ^ 31) (hs : ∀ t, t < 16 → qZ μ 1 t = true → qI μ 4 t < 2 ^ 31) (hx : x ≤ 3) : ∃ h', xG E (d + 2) mM_count 0 [(0, .ref m), (1, .int (nI x))] [] false h (true, .inl (some (.int (nI (mco μ x)))), h') ∧ QP m h0 (sX μ 0) h' := by
  have H1 := H.x 0
  refine ⟨_, ?_, H1⟩
  refine x_aload_n dM_count_0 rfl ?_
  refine x_iconst (v := (nI 0)) dM_count_1 (by decide) ?_
  refine x_put fM_thrown dM_count_2 H.1 (by omega) rfl rfl (Nat.le_of_ble_eq_true rfl) ?_
  refine x_iconst (v := (nI 0)) dM_count_5 (by decide) ?_
  refine x_istore_n dM_count_6 (Nat.le_of_ble_eq_true rfl) ?_
  refine x_iload_n dM_count_7 rfl ?_
  rcases (show x = 0 ∨ x = 1 ∨ x = 2 ∨ x = 3 by omega) with rfl | rfl | rfl | rfl
  · refine x_tableIn 40 dM_count_8 (by decide) (by decide) rfl (by decide) ?_
    refine x_aload_n dM_count_40 rfl ?_
    refine x_get fM_clock dM_count_41 H1.1 rfl ?_
    exact x_iret rfl dM_count_44
  · refine x_tableIn 45 dM_count_8 (by decide) (by decide) rfl (by decide) ?_
    refine x_iconst (v := (nI 0)) dM_count_45 (by decide) ?_
    refine x_istore_n dM_count_46 (Nat.le_of_ble_eq_true rfl) ?_
    exact m_count_loop H1 16 0 rfl
  · refine x_tableIn 73 dM_count_8 (by decide) (by decide) rfl (by decide) ?_
    refine x_aload_n dM_count_73 rfl ?_
    refine x_callV0 cM_M_all dM_count_74 H1.1 (Nat.le_of_ble_eq_true rfl) (Nat.le_of_ble_eq_true rfl) (m_all (d := d + 1) H1) ?_
    exact x_iret rfl dM_count_77
  · refine x_tableIn 78 dM_count_8 (by decide) (by decide) rfl (by decide) ?_
    rw [show mco μ 3 = mflo (sX μ 0) 16 from (mflo_X 0 16).symm]
    refine x_aload_n dM_count_78 rfl ?_
    refine x_callV0 cM_M_floor dM_count_79 H1.1 (Nat.le_of_ble_eq_true rfl) (Nat.le_of_ble_eq_true rfl) (m_floor (d := d) H1 hk hs) ?_
    exact x_iret rfl dM_count_82
end
end
section
/-! VersionDeskModel: forget, the constructor -/
def mshift (c : Nat) : Nat → Nat → qS → qS
  | 0, _, μ => μ
  | n + 1, v, μ => mshift c n (v + 1) (sL (sI μ 10 (520 * c + v) (qI μ 10 (520 * c + v + 1))) 12 (520 * c + v) (qL μ 12 (520 * c + v + 1)))
def mwh (fl c : Nat) : Nat → Nat → qS → qS × Nat
  | 0, g, μ => (μ, g)
  | n + 1, g, μ => if qI μ 10 (520 * c + 1) ≤ fl then mwh fl c n (g + 1) (mshift c (n + 1) 0 (sI μ 9 c (n + 1))) else (μ, g)
def mfor (fl : Nat) : Nat → Nat → qS × Nat → qS × Nat
  | 0, _, p => p
  | n + 1, c, p => mfor fl n (c + 1) (mwh fl c (qI p.1 9 c - 1) p.2 p.1)
theorem mshift_I (c : Nat) {k : Nat} (hk : k ≠ 10) : ∀ n v μ, qI (mshift c n v μ) k = qI μ k
  | 0, _, _ => rfl
  | n + 1, v, μ => by
    show qI (mshift c n (v + 1) _) k = _
    rw [mshift_I c hk n, qI_sL, sI_ne hk]
theorem mshift_P (P : Nat → Prop) (c : Nat) : ∀ n v μ, (∀ j, P (qI μ 10 j)) → ∀ j, P (qI (mshift c n v μ) 10 j)
  | 0, _, _, h => h
  | n + 1, v, μ, h => by
    refine mshift_P P c n (v + 1) _ (fun j => ?_)
    rw [qI_sL, sI_at]
    by_cases e : j = 520 * c + v
    · rw [e, up_eq]; exact h _
    · rw [up_ne _ _ e]; exact h j
theorem mwh_I (fl c : Nat) {c' : Nat} (hc : c' ≠ c) : ∀ n g μ, qI (mwh fl c n g μ).1 9 c' = qI μ 9 c'
  | 0, _, _ => rfl
  | n + 1, g, μ => by
    unfold mwh
    split
    · rw [mwh_I fl c hc n, mshift_I c (by decide), sI_at, up_ne _ _ hc]
    · rfl
theorem mwh_P (P : Nat → Prop) (fl c : Nat) : ∀ n g μ, (∀ j, P (qI μ 10 j)) → ∀ j, P (qI (mwh fl c n g μ).1 10 j)
  | 0, _, _, h => h
  | n + 1, g, μ, h => by
    unfold mwh
    split
    · exact mwh_P P fl c n _ _ (mshift_P P c _ _ _ (fun j => by rw [sI_ne (by decide)]; exact h j))
    · exact h
section
variable {E : xE} {d m : Nat} {h0 : xH}
theorem m_fgt_shift {c : Nat} {g fl : Int32} {o : xO} {μf : qS} (hb : E.2.2.1 ≤ m) (hc : c < 16) : ∀ (n v : Nat) (μ : qS) (h : xH), v + n = qI μ 9 c → qI μ 9 c ≤ 500 → QP m h0 μ h →
    (∀ h', QP m h0 (mshift c n v μ) h' → ∃ h'', xG E (d + 2) mM_forget 20 [(3, .int (nI c)), (1, .int g), (2, .int fl), (0, .ref m)] [] true h' (true, o, h'') ∧ QP m h0 μf h'') →
    ∃ h'', xG E (d + 2) mM_forget 62 [(4, .int (nI v)), (3, .int (nI c)), (1, .int g), (2, .int fl), (0, .ref m)] [] true h (true, o, h'') ∧ QP m h0 μf h'' := by
  intro n
  induction n with
  | zero =>
    intro v μ h hv h5 H K
    obtain ⟨h'', k, H''⟩ := K h H
    refine ⟨h'', ?_, H''⟩
    refine x_iload dM_forget_62 rfl ?_
    refine x_aload_n dM_forget_64 rfl ?_
    refine x_get fM_versions dM_forget_65 H.1 rfl ?_
    refine x_iload_n dM_forget_68 rfl ?_
    refine x_iald c dM_forget_69 H.a9 (by simp only [pk_mul, nI_add]) (by omega) (by decide) ?_
    refine x_icmp_ge 135 dM_forget_70 (by decide) (fun _ => ?_) (fun hq => absurd (nI_le (show qI μ 9 c ≤ v by omega) (by omega)) hq)
    refine x_goto 20 dM_forget_135 (by decide) ?_
    exact x_loc _ (xac rfl (xac rfl (xac rfl (xac rfl xan)))) k
  | succ n ih =>
    intro v μ h hv h5 H K
    have H1 := H.s10 (520 * c + v) (qI μ 10 (520 * c + v + 1))
    have H2 := H1.s12 (520 * c + v) (qL μ 12 (520 * c + v + 1))
    have e9 : qI (sL (sI μ 10 (520 * c + v) (qI μ 10 (520 * c + v + 1))) 12 (520 * c + v) (qL μ 12 (520 * c + v + 1))) 9 c = qI μ 9 c := by rw [qI_sL, sI_ne (by decide)]
    obtain ⟨h'', k, H''⟩ := ih (v + 1) (sL (sI μ 10 (520 * c + v) (qI μ 10 (520 * c + v + 1))) 12 (520 * c + v) (qL μ 12 (520 * c + v + 1))) _ (by rw [e9]; omega) (by rw [e9]; omega) H2 K
    refine ⟨h'', ?_, H''⟩
    refine x_iload dM_forget_62 rfl ?_
    refine x_aload_n dM_forget_64 rfl ?_
    refine x_get fM_versions dM_forget_65 H.1 rfl ?_
    refine x_iload_n dM_forget_68 rfl ?_
    refine x_iald c dM_forget_69 H.a9 (by simp only [pk_mul, nI_add]) (by omega) (by decide) ?_
    refine x_icmp_ge 135 dM_forget_70 (by decide) (fun hq => absurd hq (nI_ge (show v < qI μ 9 c by omega) (by omega))) (fun _ => ?_)
    refine x_aload_n dM_forget_73 rfl ?_
    refine x_get fM_at dM_forget_74 H.1 rfl ?_
    refine x_sipush (v := (nI 520)) dM_forget_77 (by decide) ?_
    refine x_iload_n dM_forget_80 rfl ?_
    refine x_imul dM_forget_81 ?_
    refine x_iload dM_forget_82 rfl ?_
    refine x_iadd dM_forget_84 ?_
    refine x_aload_n dM_forget_85 rfl ?_
    refine x_get fM_at dM_forget_86 H.1 rfl ?_
    refine x_sipush (v := (nI 520)) dM_forget_89 (by decide) ?_
    refine x_iload_n dM_forget_92 rfl ?_
    refine x_imul dM_forget_93 ?_
    refine x_iload dM_forget_94 rfl ?_
    refine x_iadd dM_forget_96 ?_
    refine x_iconst (v := (nI 1)) dM_forget_97 (by decide) ?_
    refine x_iadd dM_forget_98 ?_
    refine x_iald (520 * c + v + 1) dM_forget_99 H.a10 (by simp only [pk_mul, nI_add]) (by omega) (by decide) ?_
    refine x_iast (520 * c + v) dM_forget_100 H.a10 (by omega) (by simp only [pk_mul, nI_add]) (by omega) (by decide) ?_
    refine x_aload_n dM_forget_101 rfl ?_
    refine x_get fM_was dM_forget_102 H1.1 rfl ?_
    refine x_sipush (v := (nI 520)) dM_forget_105 (by decide) ?_
    refine x_iload_n dM_forget_108 rfl ?_
    refine x_imul dM_forget_109 ?_
    refine x_iload dM_forget_110 rfl ?_
    refine x_iadd dM_forget_112 ?_
    refine x_aload_n dM_forget_113 rfl ?_
    refine x_get fM_was dM_forget_114 H1.1 rfl ?_
    refine x_sipush (v := (nI 520)) dM_forget_117 (by decide) ?_
    refine x_iload_n dM_forget_120 rfl ?_
    refine x_imul dM_forget_121 ?_
    refine x_iload dM_forget_122 rfl ?_
    refine x_iadd dM_forget_124 ?_
    refine x_iconst (v := (nI 1)) dM_forget_125 (by decide) ?_
    refine x_iadd dM_forget_126 ?_
    refine x_lald (520 * c + v + 1) dM_forget_127 H1.a12 (by simp only [pk_mul, nI_add]) (by omega) (by decide) ?_
    refine x_last (520 * c + v) dM_forget_128 H1.a12 (by omega) (by simp only [pk_mul, nI_add]) (by omega) (by decide) ?_
    refine x_iinc (v := nI (v + 1)) dM_forget_129 rfl (by rw [nI_succ]; rfl) (Nat.le_of_ble_eq_true rfl) ?_
    refine x_goto 62 dM_forget_132 (by decide) ?_
    exact k
theorem m_fgt_while {c fl : Nat} {o : xO} {μf : qS} (hb : E.2.2.1 ≤ m) (hc : c < 16) (hfl : fl < 2 ^ 31) : ∀ (n g : Nat) (μ : qS) (h : xH), qI μ 9 c = n + 1 → qI μ 9 c ≤ 500 → (∀ j, qI μ 10 j < 2 ^ 31) → QP m h0 μ h →
    (∀ h', QP m h0 (mwh fl c n g μ).1 h' → ∃ h'', xG E (d + 2) mM_forget 138 [(3, .int (nI c)), (1, .int (nI (mwh fl c n g μ).2)), (2, .int (nI fl)), (0, .ref m)] [] true h' (true, o, h'') ∧ QP m h0 μf h'') →
    ∃ h'', xG E (d + 2) mM_forget 20 [(3, .int (nI c)), (1, .int (nI g)), (2, .int (nI fl)), (0, .ref m)] [] true h (true, o, h'') ∧ QP m h0 μf h'' := by
  intro n
  induction n with
  | zero =>
    intro g μ h hv h5 hat H K
    obtain ⟨h'', k, H''⟩ := K h H
    refine ⟨h'', ?_, H''⟩
    refine x_aload_n dM_forget_20 rfl ?_
    refine x_get fM_versions dM_forget_21 H.1 rfl ?_
    refine x_iload_n dM_forget_24 rfl ?_
    refine x_iald c dM_forget_25 H.a9 (by simp only [pk_mul, nI_add]) (by omega) (by decide) ?_
    refine x_iconst (v := (nI 1)) dM_forget_26 (by decide) ?_
    refine x_icmp_le 138 dM_forget_27 (by decide) (fun _ => ?_) (fun hq => absurd (nI_le (show qI μ 9 c ≤ 1 by omega) (by omega)) hq)
    exact k
  | succ n ih =>
    intro g μ h hv h5 hat H K
    by_cases hz : qI μ 10 (520 * c + 1) ≤ fl
    · rw [show mwh fl c (n + 1) g μ = mwh fl c n (g + 1) (mshift c (n + 1) 0 (sI μ 9 c (n + 1))) from if_pos hz] at K
      have H1 := H.s9 c (n + 1)
      have e9 : qI (sI μ 9 c (n + 1)) 9 c = n + 1 := by rw [sI_at, up_eq]
      have e10 : ∀ j, qI (sI μ 9 c (n + 1)) 10 j < 2 ^ 31 := fun j => by rw [sI_ne (by decide)]; exact hat j
      obtain ⟨h'', k, H''⟩ := m_fgt_shift (E := E) (d := d) (g := nI (g + 1)) (fl := nI fl) (o := o) (μf := μf) hb hc (n + 1) 0 (sI μ 9 c (n + 1)) _ (by rw [e9]; omega) (by rw [e9]; omega) H1 (fun h' H' => ih (g + 1) _ h' (by rw [mshift_I c (by decide), e9]) (by rw [mshift_I c (by decide), e9]; omega) (mshift_P (fun x => x < 2 ^ 31) c _ _ _ e10) H' K)
      refine ⟨h'', ?_, H''⟩
      refine x_aload_n dM_forget_20 rfl ?_
      refine x_get fM_versions dM_forget_21 H.1 rfl ?_
      refine x_iload_n dM_forget_24 rfl ?_
      refine x_iald c dM_forget_25 H.a9 (by simp only [pk_mul, nI_add]) (by omega) (by decide) ?_
      refine x_iconst (v := (nI 1)) dM_forget_26 (by decide) ?_
      refine x_icmp_le 138 dM_forget_27 (by decide) (fun hq => absurd hq (nI_ge (show 1 < qI μ 9 c by omega) (by omega))) (fun _ => ?_)
      refine x_aload_n dM_forget_30 rfl ?_
      refine x_get fM_at dM_forget_31 H.1 rfl ?_
      refine x_sipush (v := (nI 520)) dM_forget_34 (by decide) ?_
      refine x_iload_n dM_forget_37 rfl ?_
      refine x_imul dM_forget_38 ?_
      refine x_iconst (v := (nI 1)) dM_forget_39 (by decide) ?_
      refine x_iadd dM_forget_40 ?_
      refine x_iald (520 * c + 1) dM_forget_41 H.a10 (by simp only [pk_mul, nI_add]) (by omega) (by decide) ?_
      refine x_iload_n dM_forget_42 rfl ?_
      refine x_icmp_gt 138 dM_forget_43 (by decide) (fun hq => absurd hq (nI_nlt hz hfl)) (fun _ => ?_)
      refine x_aload_n dM_forget_46 rfl ?_
      refine x_get fM_versions dM_forget_47 H.1 rfl ?_
      refine x_iload_n dM_forget_50 rfl ?_
      refine x_dup2 dM_forget_51 rfl rfl ?_
      refine x_iald c dM_forget_52 H.a9 (by simp only [pk_mul, nI_add]) (by omega) (by decide) ?_
      refine x_iconst (v := (nI 1)) dM_forget_53 (by decide) ?_
      refine x_isub dM_forget_54 ?_
      refine x_top (v' := .int (nI (n + 1))) (by show Value.int (nI (qI μ 9 c) - nI 1) = _; rw [pk_sub (by omega), show qI μ 9 c - 1 = n + 1 by omega]) ?_
      refine x_iast c dM_forget_55 H.a9 (by omega) (by simp only [pk_mul, nI_add]) (by omega) (by decide) ?_
      refine x_iinc (v := nI (g + 1)) dM_forget_56 rfl (by rw [nI_succ]; rfl) (Nat.le_of_ble_eq_true rfl) ?_
      refine x_iconst (v := (nI 0)) dM_forget_59 (by decide) ?_
      refine x_istore dM_forget_60 (Nat.le_of_ble_eq_true rfl) ?_
      exact x_loc _ (xac rfl (xac rfl (xac rfl (xac rfl (xac rfl xan))))) k
    · rw [show mwh fl c (n + 1) g μ = (μ, g) from if_neg hz] at K
      obtain ⟨h'', k, H''⟩ := K h H
      refine ⟨h'', ?_, H''⟩
      refine x_aload_n dM_forget_20 rfl ?_
      refine x_get fM_versions dM_forget_21 H.1 rfl ?_
      refine x_iload_n dM_forget_24 rfl ?_
      refine x_iald c dM_forget_25 H.a9 (by simp only [pk_mul, nI_add]) (by omega) (by decide) ?_
      refine x_iconst (v := (nI 1)) dM_forget_26 (by decide) ?_
      refine x_icmp_le 138 dM_forget_27 (by decide) (fun hq => absurd hq (nI_ge (show 1 < qI μ 9 c by omega) (by omega))) (fun _ => ?_)
      refine x_aload_n dM_forget_30 rfl ?_
      refine x_get fM_at dM_forget_31 H.1 rfl ?_
      refine x_sipush (v := (nI 520)) dM_forget_34 (by decide) ?_
      refine x_iload_n dM_forget_37 rfl ?_
      refine x_imul dM_forget_38 ?_
      refine x_iconst (v := (nI 1)) dM_forget_39 (by decide) ?_
      refine x_iadd dM_forget_40 ?_
      refine x_iald (520 * c + 1) dM_forget_41 H.a10 (by simp only [pk_mul, nI_add]) (by omega) (by decide) ?_
      refine x_iload_n dM_forget_42 rfl ?_
      refine x_icmp_gt 138 dM_forget_43 (by decide) (fun _ => ?_) (fun hq => absurd (nI_lt (Nat.lt_of_not_le hz) (hat _)) hq)
      exact k
theorem m_fgt_for {fl : Nat} (hb : E.2.2.1 ≤ m) (hfl : fl < 2 ^ 31) : ∀ (n c g : Nat) (μ : qS) (h : xH), c + n = 16 → (∀ c', c ≤ c' → c' < 16 → 1 ≤ qI μ 9 c' ∧ qI μ 9 c' ≤ 500) → (∀ j, qI μ 10 j < 2 ^ 31) → QP m h0 μ h →
    ∃ h'', xG E (d + 2) mM_forget 14 [(3, .int (nI c)), (1, .int (nI g)), (2, .int (nI fl)), (0, .ref m)] [] true h (true, .inl (some (.int (nI (mfor fl n c (μ, g)).2))), h'') ∧ QP m h0 (mfor fl n c (μ, g)).1 h'' := by
  intro n
  induction n with
  | zero =>
    intro c g μ h hc hv hat H
    obtain rfl : c = 16 := by omega
    refine ⟨_, ?_, H⟩
    refine x_iload_n dM_forget_14 rfl ?_
    refine x_bipush (v := (nI 16)) dM_forget_15 (by decide) ?_
    refine x_icmp_ge 144 dM_forget_17 (by decide) (fun _ => ?_) (fun hq => absurd (nI_le (by omega) (by omega)) hq)
    refine x_iload_n dM_forget_144 rfl ?_
    exact x_iret rfl dM_forget_145
  | succ n ih =>
    intro c g μ h hc hv hat H
    have hvc := hv c (Nat.le_refl _) (by omega)
    have e : mfor fl (n + 1) c (μ, g) = mfor fl n (c + 1) ((mwh fl c (qI μ 9 c - 1) g μ).1, (mwh fl c (qI μ 9 c - 1) g μ).2) := rfl
    rw [e]
    obtain ⟨h'', k, H''⟩ := m_fgt_while (E := E) (d := d) (o := .inl (some (.int (nI (mfor fl n (c + 1) ((mwh fl c (qI μ 9 c - 1) g μ).1, (mwh fl c (qI μ 9 c - 1) g μ).2)).2)))) (μf := (mfor fl n (c + 1) ((mwh fl c (qI μ 9 c - 1) g μ).1, (mwh fl c (qI μ 9 c - 1) g μ).2)).1) hb (show c < 16 by omega) hfl (qI μ 9 c - 1) g μ h (by omega) hvc.2 hat H (fun h' H' => by
      obtain ⟨h2, k2, H2⟩ := ih (c + 1) (mwh fl c (qI μ 9 c - 1) g μ).2 (mwh fl c (qI μ 9 c - 1) g μ).1 h' (by omega) (fun c' g1 g2 => by rw [mwh_I fl c (by omega)]; exact hv c' (by omega) g2) (mwh_P (fun x => x < 2 ^ 31) fl c _ _ _ hat) H'
      refine ⟨h2, ?_, H2⟩
      refine x_iinc (v := nI (c + 1)) dM_forget_138 rfl (by rw [nI_succ]; rfl) (Nat.le_of_ble_eq_true rfl) ?_
      refine x_goto 14 dM_forget_141 (by decide) ?_
      exact x_loc _ (xac rfl (xac rfl (xac rfl (xac rfl xan)))) k2)
    refine ⟨h'', ?_, H''⟩
    refine x_iload_n dM_forget_14 rfl ?_
    refine x_bipush (v := (nI 16)) dM_forget_15 (by decide) ?_
    refine x_icmp_ge 144 dM_forget_17 (by decide) (fun hq => absurd hq (nI_ge (by omega) (by omega))) (fun _ => ?_)
    exact k
def qForget (μ : qS) : qS × Nat := mfor (mflo μ 16) 16 0 (sX μ 0, 0)
theorem m_forget {μ : qS} {h : xH} (hb : E.2.2.1 ≤ m) (H : QP m h0 μ h) (hk : qK μ < 2 ^ 31) (hs : ∀ t, t < 16 → qZ μ 1 t = true → qI μ 4 t < 2 ^ 31) (hv : ∀ c, c < 16 → 1 ≤ qI μ 9 c ∧ qI μ 9 c ≤ 500) (hat : ∀ j, qI μ 10 j < 2 ^ 31) : ∃ h', xG E (d + 2) mM_forget 0 [(0, .ref m)] [] false h (true, .inl (some (.int (nI (qForget μ).2))), h') ∧ QP m h0 (qForget μ).1 h' := by
  have H1 := H.x 0
  have hfl := mflo_le μ 16
  obtain ⟨h2, k2, H2⟩ := m_fgt_for (E := E) (d := d) (fl := mflo μ 16) hb (by omega) 16 0 0 (sX μ 0) _ rfl (fun c' _ g => hv c' g) hat H1
  refine ⟨h2, ?_, H2⟩
  refine x_aload_n dM_forget_0 rfl ?_
  refine x_iconst (v := (nI 0)) dM_forget_1 (by decide) ?_
  refine x_put fM_thrown dM_forget_2 H.1 (by omega) rfl rfl (Nat.le_of_ble_eq_true rfl) ?_
  refine x_iconst (v := (nI 0)) dM_forget_5 (by decide) ?_
  refine x_istore_n dM_forget_6 (Nat.le_of_ble_eq_true rfl) ?_
  refine x_aload_n dM_forget_7 rfl ?_
  refine x_callV0 cM_M_floor dM_forget_8 H1.1 (Nat.le_of_ble_eq_true rfl) (Nat.le_of_ble_eq_true rfl) (m_floor (d := d) H1 hk hs) ?_
  rw [mflo_X]
  refine x_istore_n dM_forget_11 (Nat.le_of_ble_eq_true rfl) ?_
  refine x_iconst (v := (nI 0)) dM_forget_12 (by decide) ?_
  refine x_istore_n dM_forget_13 (Nat.le_of_ble_eq_true rfl) ?_
  exact x_loc _ (xac rfl (xac rfl (xac rfl (xac rfl xan)))) k2
def mini : Nat → Nat → qS → qS
  | 0, _, μ => μ
  | n + 1, c, μ => mini n (c + 1) (sI μ 9 c 1)
def qNull : qS := (0, 0, fun _ _ => false, fun _ _ => 0, fun _ _ => 0)
def qInit : qS := mini 16 0 qNull
theorem m_init_loop (hb : E.2.2.1 ≤ m) : ∀ (n c : Nat) (μ : qS) (h : xH), c + n = 16 → QP m h0 μ h → ∃ h', xG E d mM_init 108 [(1, .int (nI c)), (0, .ref m)] [] true h (true, .inl none, h') ∧ QP m h0 (mini n c μ) h' := by
  intro n
  induction n with
  | zero =>
    intro c μ h hc H
    obtain rfl : c = 16 := by omega
    refine ⟨_, ?_, H⟩
    refine x_iload_n dM_init_108 rfl ?_
    refine x_bipush (v := (nI 16)) dM_init_109 (by decide) ?_
    refine x_icmp_ge 127 dM_init_111 (by decide) (fun _ => ?_) (fun hq => absurd (nI_le (by omega) (by omega)) hq)
    exact x_vret rfl dM_init_127
  | succ n ih =>
    intro c μ h hc H
    obtain ⟨h', k, H'⟩ := ih (c + 1) _ _ (by omega) (H.s9 c 1)
    refine ⟨h', ?_, H'⟩
    refine x_iload_n dM_init_108 rfl ?_
    refine x_bipush (v := (nI 16)) dM_init_109 (by decide) ?_
    refine x_icmp_ge 127 dM_init_111 (by decide) (fun hq => absurd hq (nI_ge (by omega) (by omega))) (fun _ => ?_)
    refine x_aload_n dM_init_114 rfl ?_
    refine x_get fM_versions dM_init_115 H.1 rfl ?_
    refine x_iload_n dM_init_118 rfl ?_
    refine x_iconst (v := (nI 1)) dM_init_119 (by decide) ?_
    refine x_iast c dM_init_120 H.a9 (by omega) (by simp only [pk_mul, nI_add]) (by omega) (by decide) ?_
    refine x_iinc (v := nI (c + 1)) dM_init_121 rfl (by rw [nI_succ]; rfl) (Nat.le_of_ble_eq_true rfl) ?_
    refine x_goto 108 dM_init_124 (by decide) ?_
    exact k
def IP0 (m : Nat) (g h : xH) : Prop := h.2.1 = m + 1 ∧ h.2.2 = g.2.2 + 0 ∧ (∀ q, q < m → h.1 q = g.1 q) ∧ h.1 m = some (.inr (3, [.int (nI 0), .int (nI 0), .null, .null, .null, .null, .null, .null, .null, .null, .null, .null, .null, .null]))
def IP1 (m : Nat) (g h : xH) : Prop := h.2.1 = m + 2 ∧ h.2.2 = g.2.2 + 16 ∧ (∀ q, q < m → h.1 q = g.1 q) ∧ h.1 m = some (.inr (3, [.int (nI 0), .int (nI 0), .ref (m + 1), .null, .null, .null, .null, .null, .null, .null, .null, .null, .null, .null])) ∧ h.1 (m + 1) = some (.inl (.boolean, 16, .inl (fun _ => 0)))
def IP2 (m : Nat) (g h : xH) : Prop := h.2.1 = m + 3 ∧ h.2.2 = g.2.2 + 272 ∧ (∀ q, q < m → h.1 q = g.1 q) ∧ h.1 m = some (.inr (3, [.int (nI 0), .int (nI 0), .ref (m + 1), .ref (m + 2), .null, .null, .null, .null, .null, .null, .null, .null, .null, .null])) ∧ h.1 (m + 1) = some (.inl (.boolean, 16, .inl (fun _ => 0))) ∧ h.1 (m + 2) = some (.inl (.boolean, 256, .inl (fun _ => 0)))
def IP3 (m : Nat) (g h : xH) : Prop := h.2.1 = m + 4 ∧ h.2.2 = g.2.2 + 2320 ∧ (∀ q, q < m → h.1 q = g.1 q) ∧ h.1 m = some (.inr (3, [.int (nI 0), .int (nI 0), .ref (m + 1), .ref (m + 2), .ref (m + 3), .null, .null, .null, .null, .null, .null, .null, .null, .null])) ∧ h.1 (m + 1) = some (.inl (.boolean, 16, .inl (fun _ => 0))) ∧ h.1 (m + 2) = some (.inl (.boolean, 256, .inl (fun _ => 0))) ∧ h.1 (m + 3) = some (.inl (.boolean, 2048, .inl (fun _ => 0)))
def IP4 (m : Nat) (g h : xH) : Prop := h.2.1 = m + 5 ∧ h.2.2 = g.2.2 + 2336 ∧ (∀ q, q < m → h.1 q = g.1 q) ∧ h.1 m = some (.inr (3, [.int (nI 0), .int (nI 0), .ref (m + 1), .ref (m + 2), .ref (m + 3), .ref (m + 4), .null, .null, .null, .null, .null, .null, .null, .null])) ∧ h.1 (m + 1) = some (.inl (.boolean, 16, .inl (fun _ => 0))) ∧ h.1 (m + 2) = some (.inl (.boolean, 256, .inl (fun _ => 0))) ∧ h.1 (m + 3) = some (.inl (.boolean, 2048, .inl (fun _ => 0))) ∧ h.1 (m + 4) = some (.inl (.int, 16, .inl (fun _ => 0)))
def IP5 (m : Nat) (g h : xH) : Prop := h.2.1 = m + 6 ∧ h.2.2 = g.2.2 + 2352 ∧ (∀ q, q < m → h.1 q = g.1 q) ∧ h.1 m = some (.inr (3, [.int (nI 0), .int (nI 0), .ref (m + 1), .ref (m + 2), .ref (m + 3), .ref (m + 4), .ref (m + 5), .null, .null, .null, .null, .null, .null, .null])) ∧ h.1 (m + 1) = some (.inl (.boolean, 16, .inl (fun _ => 0))) ∧ h.1 (m + 2) = some (.inl (.boolean, 256, .inl (fun _ => 0))) ∧ h.1 (m + 3) = some (.inl (.boolean, 2048, .inl (fun _ => 0))) ∧ h.1 (m + 4) = some (.inl (.int, 16, .inl (fun _ => 0))) ∧ h.1 (m + 5) = some (.inl (.int, 16, .inl (fun _ => 0)))
def IP6 (m : Nat) (g h : xH) : Prop := h.2.1 = m + 7 ∧ h.2.2 = g.2.2 + 2368 ∧ (∀ q, q < m → h.1 q = g.1 q) ∧ h.1 m = some (.inr (3, [.int (nI 0), .int (nI 0), .ref (m + 1), .ref (m + 2), .ref (m + 3), .ref (m + 4), .ref (m + 5), .ref (m + 6), .null, .null, .null, .null, .null, .null])) ∧ h.1 (m + 1) = some (.inl (.boolean, 16, .inl (fun _ => 0))) ∧ h.1 (m + 2) = some (.inl (.boolean, 256, .inl (fun _ => 0))) ∧ h.1 (m + 3) = some (.inl (.boolean, 2048, .inl (fun _ => 0))) ∧ h.1 (m + 4) = some (.inl (.int, 16, .inl (fun _ => 0))) ∧ h.1 (m + 5) = some (.inl (.int, 16, .inl (fun _ => 0))) ∧ h.1 (m + 6) = some (.inl (.int, 16, .inl (fun _ => 0)))
def IP7 (m : Nat) (g h : xH) : Prop := h.2.1 = m + 8 ∧ h.2.2 = g.2.2 + 2624 ∧ (∀ q, q < m → h.1 q = g.1 q) ∧ h.1 m = some (.inr (3, [.int (nI 0), .int (nI 0), .ref (m + 1), .ref (m + 2), .ref (m + 3), .ref (m + 4), .ref (m + 5), .ref (m + 6), .ref (m + 7), .null, .null, .null, .null, .null])) ∧ h.1 (m + 1) = some (.inl (.boolean, 16, .inl (fun _ => 0))) ∧ h.1 (m + 2) = some (.inl (.boolean, 256, .inl (fun _ => 0))) ∧ h.1 (m + 3) = some (.inl (.boolean, 2048, .inl (fun _ => 0))) ∧ h.1 (m + 4) = some (.inl (.int, 16, .inl (fun _ => 0))) ∧ h.1 (m + 5) = some (.inl (.int, 16, .inl (fun _ => 0))) ∧ h.1 (m + 6) = some (.inl (.int, 16, .inl (fun _ => 0))) ∧ h.1 (m + 7) = some (.inl (.long, 256, .inr (.inl (fun _ => 0))))
def IP8 (m : Nat) (g h : xH) : Prop := h.2.1 = m + 9 ∧ h.2.2 = g.2.2 + 4672 ∧ (∀ q, q < m → h.1 q = g.1 q) ∧ h.1 m = some (.inr (3, [.int (nI 0), .int (nI 0), .ref (m + 1), .ref (m + 2), .ref (m + 3), .ref (m + 4), .ref (m + 5), .ref (m + 6), .ref (m + 7), .ref (m + 8), .null, .null, .null, .null])) ∧ h.1 (m + 1) = some (.inl (.boolean, 16, .inl (fun _ => 0))) ∧ h.1 (m + 2) = some (.inl (.boolean, 256, .inl (fun _ => 0))) ∧ h.1 (m + 3) = some (.inl (.boolean, 2048, .inl (fun _ => 0))) ∧ h.1 (m + 4) = some (.inl (.int, 16, .inl (fun _ => 0))) ∧ h.1 (m + 5) = some (.inl (.int, 16, .inl (fun _ => 0))) ∧ h.1 (m + 6) = some (.inl (.int, 16, .inl (fun _ => 0))) ∧ h.1 (m + 7) = some (.inl (.long, 256, .inr (.inl (fun _ => 0)))) ∧ h.1 (m + 8) = some (.inl (.long, 2048, .inr (.inl (fun _ => 0))))
def IP9 (m : Nat) (g h : xH) : Prop := h.2.1 = m + 10 ∧ h.2.2 = g.2.2 + 4688 ∧ (∀ q, q < m → h.1 q = g.1 q) ∧ h.1 m = some (.inr (3, [.int (nI 0), .int (nI 0), .ref (m + 1), .ref (m + 2), .ref (m + 3), .ref (m + 4), .ref (m + 5), .ref (m + 6), .ref (m + 7), .ref (m + 8), .ref (m + 9), .null, .null, .null])) ∧ h.1 (m + 1) = some (.inl (.boolean, 16, .inl (fun _ => 0))) ∧ h.1 (m + 2) = some (.inl (.boolean, 256, .inl (fun _ => 0))) ∧ h.1 (m + 3) = some (.inl (.boolean, 2048, .inl (fun _ => 0))) ∧ h.1 (m + 4) = some (.inl (.int, 16, .inl (fun _ => 0))) ∧ h.1 (m + 5) = some (.inl (.int, 16, .inl (fun _ => 0))) ∧ h.1 (m + 6) = some (.inl (.int, 16, .inl (fun _ => 0))) ∧ h.1 (m + 7) = some (.inl (.long, 256, .inr (.inl (fun _ => 0)))) ∧ h.1 (m + 8) = some (.inl (.long, 2048, .inr (.inl (fun _ => 0)))) ∧ h.1 (m + 9) = some (.inl (.int, 16, .inl (fun _ => 0)))
def IP10 (m : Nat) (g h : xH) : Prop := h.2.1 = m + 11 ∧ h.2.2 = g.2.2 + 13008 ∧ (∀ q, q < m → h.1 q = g.1 q) ∧ h.1 m = some (.inr (3, [.int (nI 0), .int (nI 0), .ref (m + 1), .ref (m + 2), .ref (m + 3), .ref (m + 4), .ref (m + 5), .ref (m + 6), .ref (m + 7), .ref (m + 8), .ref (m + 9), .ref (m + 10), .null, .null])) ∧ h.1 (m + 1) = some (.inl (.boolean, 16, .inl (fun _ => 0))) ∧ h.1 (m + 2) = some (.inl (.boolean, 256, .inl (fun _ => 0))) ∧ h.1 (m + 3) = some (.inl (.boolean, 2048, .inl (fun _ => 0))) ∧ h.1 (m + 4) = some (.inl (.int, 16, .inl (fun _ => 0))) ∧ h.1 (m + 5) = some (.inl (.int, 16, .inl (fun _ => 0))) ∧ h.1 (m + 6) = some (.inl (.int, 16, .inl (fun _ => 0))) ∧ h.1 (m + 7) = some (.inl (.long, 256, .inr (.inl (fun _ => 0)))) ∧ h.1 (m + 8) = some (.inl (.long, 2048, .inr (.inl (fun _ => 0)))) ∧ h.1 (m + 9) = some (.inl (.int, 16, .inl (fun _ => 0))) ∧ h.1 (m + 10) = some (.inl (.int, 8320, .inl (fun _ => 0)))
def IP11 (m : Nat) (g h : xH) : Prop := h.2.1 = m + 12 ∧ h.2.2 = g.2.2 + 13024 ∧ (∀ q, q < m → h.1 q = g.1 q) ∧ h.1 m = some (.inr (3, [.int (nI 0), .int (nI 0), .ref (m + 1), .ref (m + 2), .ref (m + 3), .ref (m + 4), .ref (m + 5), .ref (m + 6), .ref (m + 7), .ref (m + 8), .ref (m + 9), .ref (m + 10), .ref (m + 11), .null])) ∧ h.1 (m + 1) = some (.inl (.boolean, 16, .inl (fun _ => 0))) ∧ h.1 (m + 2) = some (.inl (.boolean, 256, .inl (fun _ => 0))) ∧ h.1 (m + 3) = some (.inl (.boolean, 2048, .inl (fun _ => 0))) ∧ h.1 (m + 4) = some (.inl (.int, 16, .inl (fun _ => 0))) ∧ h.1 (m + 5) = some (.inl (.int, 16, .inl (fun _ => 0))) ∧ h.1 (m + 6) = some (.inl (.int, 16, .inl (fun _ => 0))) ∧ h.1 (m + 7) = some (.inl (.long, 256, .inr (.inl (fun _ => 0)))) ∧ h.1 (m + 8) = some (.inl (.long, 2048, .inr (.inl (fun _ => 0)))) ∧ h.1 (m + 9) = some (.inl (.int, 16, .inl (fun _ => 0))) ∧ h.1 (m + 10) = some (.inl (.int, 8320, .inl (fun _ => 0))) ∧ h.1 (m + 11) = some (.inl (.int, 16, .inl (fun _ => 0)))
def IP12 (m : Nat) (g h : xH) : Prop := h.2.1 = m + 13 ∧ h.2.2 = g.2.2 + 21344 ∧ (∀ q, q < m → h.1 q = g.1 q) ∧ h.1 m = some (.inr (3, [.int (nI 0), .int (nI 0), .ref (m + 1), .ref (m + 2), .ref (m + 3), .ref (m + 4), .ref (m + 5), .ref (m + 6), .ref (m + 7), .ref (m + 8), .ref (m + 9), .ref (m + 10), .ref (m + 11), .ref (m + 12)])) ∧ h.1 (m + 1) = some (.inl (.boolean, 16, .inl (fun _ => 0))) ∧ h.1 (m + 2) = some (.inl (.boolean, 256, .inl (fun _ => 0))) ∧ h.1 (m + 3) = some (.inl (.boolean, 2048, .inl (fun _ => 0))) ∧ h.1 (m + 4) = some (.inl (.int, 16, .inl (fun _ => 0))) ∧ h.1 (m + 5) = some (.inl (.int, 16, .inl (fun _ => 0))) ∧ h.1 (m + 6) = some (.inl (.int, 16, .inl (fun _ => 0))) ∧ h.1 (m + 7) = some (.inl (.long, 256, .inr (.inl (fun _ => 0)))) ∧ h.1 (m + 8) = some (.inl (.long, 2048, .inr (.inl (fun _ => 0)))) ∧ h.1 (m + 9) = some (.inl (.int, 16, .inl (fun _ => 0))) ∧ h.1 (m + 10) = some (.inl (.int, 8320, .inl (fun _ => 0))) ∧ h.1 (m + 11) = some (.inl (.int, 16, .inl (fun _ => 0))) ∧ h.1 (m + 12) = some (.inl (.long, 8320, .inr (.inl (fun _ => 0))))
theorem m_init_12 {g h : xH} (hb : E.2.2.1 ≤ m) (I : IP12 m g h) : ∃ h', xG E d mM_init 106 [(0, .ref m)] [] true h (true, .inl none, h') ∧ QP m h' qInit h' ∧ (∀ q, q < m → h'.1 q = g.1 q) ∧ h'.2.1 = m + 13 ∧ h'.2.2 = g.2.2 + 21344 := by
  obtain ⟨z, u, fr, o0, o1, o2, o3, o4, o5, o6, o7, o8, o9, o10, o11, o12⟩ := I
  have H : QP m h qNull h := ⟨o0, ⟨o1, o2, o3, o4, o5, o6, o7, o8, o9, o10, o11, o12⟩, fun _ _ => rfl, rfl, rfl⟩
  obtain ⟨h', k, H'⟩ := m_init_loop (E := E) (d := d) hb 16 0 qNull h rfl H
  refine ⟨h', ?_, ⟨H'.1, H'.2.1, fun _ _ => rfl, rfl, rfl⟩, fun q hq => (H'.2.2.1 q (Or.inl hq)).trans (fr q hq), H'.2.2.2.1.trans z, H'.2.2.2.2.trans u⟩
  refine x_iconst (v := (nI 0)) dM_init_106 (by decide) ?_
  refine x_istore_n dM_init_107 (Nat.le_of_ble_eq_true rfl) ?_
  exact k
theorem m_init_11 {g h : xH} (hb : E.2.2.1 ≤ m) (I : IP11 m g h) : ∃ h', xG E d mM_init 97 [(0, .ref m)] [] true h (true, .inl none, h') ∧ QP m h' qInit h' ∧ (∀ q, q < m → h'.1 q = g.1 q) ∧ h'.2.1 = m + 13 ∧ h'.2.2 = g.2.2 + 21344 := by
  obtain ⟨z, u, fr, o0, o1, o2, o3, o4, o5, o6, o7, o8, o9, o10, o11⟩ := I
  have e0 : (xadd h (.inl (.long, 8320, .inr (.inl (fun _ => 0)))) 8320).1 m = some (.inr (3, [.int (nI 0), .int (nI 0), .ref (m + 1), .ref (m + 2), .ref (m + 3), .ref (m + 4), .ref (m + 5), .ref (m + 6), .ref (m + 7), .ref (m + 8), .ref (m + 9), .ref (m + 10), .ref (m + 11), .null])) := (xadd_ne _ _ _ (by omega)).trans o0
  have I1 : IP12 m g (xset (xadd h (.inl (.long, 8320, .inr (.inl (fun _ => 0)))) 8320) m (.inr (3, [.int (nI 0), .int (nI 0), .ref (m + 1), .ref (m + 2), .ref (m + 3), .ref (m + 4), .ref (m + 5), .ref (m + 6), .ref (m + 7), .ref (m + 8), .ref (m + 9), .ref (m + 10), .ref (m + 11), .ref (m + 12)]))) := by
    refine ⟨by rw [xset_sz, xadd_sz]; omega, by rw [xset_us, xadd_us]; omega, fun q hq => ?_, xset_eq _ _ _, ?_, ?_, ?_, ?_, ?_, ?_, ?_, ?_, ?_, ?_, ?_, ?_⟩
    · rw [xset_ne _ _ (by omega), xadd_ne _ _ _ (by omega)]; exact fr q hq
    · rw [xset_ne _ _ (by omega), xadd_ne _ _ _ (by omega)]; exact o1
    · rw [xset_ne _ _ (by omega), xadd_ne _ _ _ (by omega)]; exact o2
    · rw [xset_ne _ _ (by omega), xadd_ne _ _ _ (by omega)]; exact o3
    · rw [xset_ne _ _ (by omega), xadd_ne _ _ _ (by omega)]; exact o4
    · rw [xset_ne _ _ (by omega), xadd_ne _ _ _ (by omega)]; exact o5
    · rw [xset_ne _ _ (by omega), xadd_ne _ _ _ (by omega)]; exact o6
    · rw [xset_ne _ _ (by omega), xadd_ne _ _ _ (by omega)]; exact o7
    · rw [xset_ne _ _ (by omega), xadd_ne _ _ _ (by omega)]; exact o8
    · rw [xset_ne _ _ (by omega), xadd_ne _ _ _ (by omega)]; exact o9
    · rw [xset_ne _ _ (by omega), xadd_ne _ _ _ (by omega)]; exact o10
    · rw [xset_ne _ _ (by omega), xadd_ne _ _ _ (by omega)]; exact o11
    · rw [xset_ne _ _ (by omega)]; have := xadd_eq h (.inl (.long, 8320, .inr (.inl (fun _ => 0)))) 8320; rw [z] at this; exact this
  obtain ⟨h', k, R⟩ := m_init_12 (E := E) (d := d) hb I1
  refine ⟨h', ?_, R⟩
  refine x_aload_n dM_init_97 rfl ?_
  refine x_sipush (v := (nI 8320)) dM_init_98 (by decide) ?_
  refine x_newl 8320 dM_init_101 kw_53 rfl (by decide) ?_
  rw [z]
  refine x_putF fM_was rfl dM_init_103 (fs := [.int (nI 0), .int (nI 0), .ref (m + 1), .ref (m + 2), .ref (m + 3), .ref (m + 4), .ref (m + 5), .ref (m + 6), .ref (m + 7), .ref (m + 8), .ref (m + 9), .ref (m + 10), .ref (m + 11), .null]) e0 hb rfl rfl (Nat.le_of_ble_eq_true rfl) ?_
  exact k
theorem m_init_10 {g h : xH} (hb : E.2.2.1 ≤ m) (I : IP10 m g h) : ∃ h', xG E d mM_init 89 [(0, .ref m)] [] true h (true, .inl none, h') ∧ QP m h' qInit h' ∧ (∀ q, q < m → h'.1 q = g.1 q) ∧ h'.2.1 = m + 13 ∧ h'.2.2 = g.2.2 + 21344 := by
  obtain ⟨z, u, fr, o0, o1, o2, o3, o4, o5, o6, o7, o8, o9, o10⟩ := I
  have e0 : (xadd h (.inl (.int, 16, .inl (fun _ => 0))) 16).1 m = some (.inr (3, [.int (nI 0), .int (nI 0), .ref (m + 1), .ref (m + 2), .ref (m + 3), .ref (m + 4), .ref (m + 5), .ref (m + 6), .ref (m + 7), .ref (m + 8), .ref (m + 9), .ref (m + 10), .null, .null])) := (xadd_ne _ _ _ (by omega)).trans o0
  have I1 : IP11 m g (xset (xadd h (.inl (.int, 16, .inl (fun _ => 0))) 16) m (.inr (3, [.int (nI 0), .int (nI 0), .ref (m + 1), .ref (m + 2), .ref (m + 3), .ref (m + 4), .ref (m + 5), .ref (m + 6), .ref (m + 7), .ref (m + 8), .ref (m + 9), .ref (m + 10), .ref (m + 11), .null]))) := by
    refine ⟨by rw [xset_sz, xadd_sz]; omega, by rw [xset_us, xadd_us]; omega, fun q hq => ?_, xset_eq _ _ _, ?_, ?_, ?_, ?_, ?_, ?_, ?_, ?_, ?_, ?_, ?_⟩
    · rw [xset_ne _ _ (by omega), xadd_ne _ _ _ (by omega)]; exact fr q hq
    · rw [xset_ne _ _ (by omega), xadd_ne _ _ _ (by omega)]; exact o1
    · rw [xset_ne _ _ (by omega), xadd_ne _ _ _ (by omega)]; exact o2
    · rw [xset_ne _ _ (by omega), xadd_ne _ _ _ (by omega)]; exact o3
    · rw [xset_ne _ _ (by omega), xadd_ne _ _ _ (by omega)]; exact o4
    · rw [xset_ne _ _ (by omega), xadd_ne _ _ _ (by omega)]; exact o5
    · rw [xset_ne _ _ (by omega), xadd_ne _ _ _ (by omega)]; exact o6
    · rw [xset_ne _ _ (by omega), xadd_ne _ _ _ (by omega)]; exact o7
    · rw [xset_ne _ _ (by omega), xadd_ne _ _ _ (by omega)]; exact o8
    · rw [xset_ne _ _ (by omega), xadd_ne _ _ _ (by omega)]; exact o9
    · rw [xset_ne _ _ (by omega), xadd_ne _ _ _ (by omega)]; exact o10
    · rw [xset_ne _ _ (by omega)]; have := xadd_eq h (.inl (.int, 16, .inl (fun _ => 0))) 16; rw [z] at this; exact this
  obtain ⟨h', k, R⟩ := m_init_11 (E := E) (d := d) hb I1
  refine ⟨h', ?_, R⟩
  refine x_aload_n dM_init_89 rfl ?_
  refine x_bipush (v := (nI 16)) dM_init_90 (by decide) ?_
  refine x_newi 16 dM_init_92 kw_52 rfl (by decide) ?_
  rw [z]
  refine x_putF fM_last rfl dM_init_94 (fs := [.int (nI 0), .int (nI 0), .ref (m + 1), .ref (m + 2), .ref (m + 3), .ref (m + 4), .ref (m + 5), .ref (m + 6), .ref (m + 7), .ref (m + 8), .ref (m + 9), .ref (m + 10), .null, .null]) e0 hb rfl rfl (Nat.le_of_ble_eq_true rfl) ?_
  exact k
theorem m_init_9 {g h : xH} (hb : E.2.2.1 ≤ m) (I : IP9 m g h) : ∃ h', xG E d mM_init 80 [(0, .ref m)] [] true h (true, .inl none, h') ∧ QP m h' qInit h' ∧ (∀ q, q < m → h'.1 q = g.1 q) ∧ h'.2.1 = m + 13 ∧ h'.2.2 = g.2.2 + 21344 := by
  obtain ⟨z, u, fr, o0, o1, o2, o3, o4, o5, o6, o7, o8, o9⟩ := I
  have e0 : (xadd h (.inl (.int, 8320, .inl (fun _ => 0))) 8320).1 m = some (.inr (3, [.int (nI 0), .int (nI 0), .ref (m + 1), .ref (m + 2), .ref (m + 3), .ref (m + 4), .ref (m + 5), .ref (m + 6), .ref (m + 7), .ref (m + 8), .ref (m + 9), .null, .null, .null])) := (xadd_ne _ _ _ (by omega)).trans o0
  have I1 : IP10 m g (xset (xadd h (.inl (.int, 8320, .inl (fun _ => 0))) 8320) m (.inr (3, [.int (nI 0), .int (nI 0), .ref (m + 1), .ref (m + 2), .ref (m + 3), .ref (m + 4), .ref (m + 5), .ref (m + 6), .ref (m + 7), .ref (m + 8), .ref (m + 9), .ref (m + 10), .null, .null]))) := by
    refine ⟨by rw [xset_sz, xadd_sz]; omega, by rw [xset_us, xadd_us]; omega, fun q hq => ?_, xset_eq _ _ _, ?_, ?_, ?_, ?_, ?_, ?_, ?_, ?_, ?_, ?_⟩
    · rw [xset_ne _ _ (by omega), xadd_ne _ _ _ (by omega)]; exact fr q hq
    · rw [xset_ne _ _ (by omega), xadd_ne _ _ _ (by omega)]; exact o1
    · rw [xset_ne _ _ (by omega), xadd_ne _ _ _ (by omega)]; exact o2
    · rw [xset_ne _ _ (by omega), xadd_ne _ _ _ (by omega)]; exact o3
    · rw [xset_ne _ _ (by omega), xadd_ne _ _ _ (by omega)]; exact o4
    · rw [xset_ne _ _ (by omega), xadd_ne _ _ _ (by omega)]; exact o5
    · rw [xset_ne _ _ (by omega), xadd_ne _ _ _ (by omega)]; exact o6
    · rw [xset_ne _ _ (by omega), xadd_ne _ _ _ (by omega)]; exact o7
    · rw [xset_ne _ _ (by omega), xadd_ne _ _ _ (by omega)]; exact o8
    · rw [xset_ne _ _ (by omega), xadd_ne _ _ _ (by omega)]; exact o9
    · rw [xset_ne _ _ (by omega)]; have := xadd_eq h (.inl (.int, 8320, .inl (fun _ => 0))) 8320; rw [z] at this; exact this
  obtain ⟨h', k, R⟩ := m_init_10 (E := E) (d := d) hb I1
  refine ⟨h', ?_, R⟩
  refine x_aload_n dM_init_80 rfl ?_
  refine x_sipush (v := (nI 8320)) dM_init_81 (by decide) ?_
  refine x_newi 8320 dM_init_84 kw_52 rfl (by decide) ?_
  rw [z]
  refine x_putF fM_at rfl dM_init_86 (fs := [.int (nI 0), .int (nI 0), .ref (m + 1), .ref (m + 2), .ref (m + 3), .ref (m + 4), .ref (m + 5), .ref (m + 6), .ref (m + 7), .ref (m + 8), .ref (m + 9), .null, .null, .null]) e0 hb rfl rfl (Nat.le_of_ble_eq_true rfl) ?_
  exact k
theorem m_init_8 {g h : xH} (hb : E.2.2.1 ≤ m) (I : IP8 m g h) : ∃ h', xG E d mM_init 72 [(0, .ref m)] [] true h (true, .inl none, h') ∧ QP m h' qInit h' ∧ (∀ q, q < m → h'.1 q = g.1 q) ∧ h'.2.1 = m + 13 ∧ h'.2.2 = g.2.2 + 21344 := by
  obtain ⟨z, u, fr, o0, o1, o2, o3, o4, o5, o6, o7, o8⟩ := I
  have e0 : (xadd h (.inl (.int, 16, .inl (fun _ => 0))) 16).1 m = some (.inr (3, [.int (nI 0), .int (nI 0), .ref (m + 1), .ref (m + 2), .ref (m + 3), .ref (m + 4), .ref (m + 5), .ref (m + 6), .ref (m + 7), .ref (m + 8), .null, .null, .null, .null])) := (xadd_ne _ _ _ (by omega)).trans o0
  have I1 : IP9 m g (xset (xadd h (.inl (.int, 16, .inl (fun _ => 0))) 16) m (.inr (3, [.int (nI 0), .int (nI 0), .ref (m + 1), .ref (m + 2), .ref (m + 3), .ref (m + 4), .ref (m + 5), .ref (m + 6), .ref (m + 7), .ref (m + 8), .ref (m + 9), .null, .null, .null]))) := by
    refine ⟨by rw [xset_sz, xadd_sz]; omega, by rw [xset_us, xadd_us]; omega, fun q hq => ?_, xset_eq _ _ _, ?_, ?_, ?_, ?_, ?_, ?_, ?_, ?_, ?_⟩
    · rw [xset_ne _ _ (by omega), xadd_ne _ _ _ (by omega)]; exact fr q hq
    · rw [xset_ne _ _ (by omega), xadd_ne _ _ _ (by omega)]; exact o1
    · rw [xset_ne _ _ (by omega), xadd_ne _ _ _ (by omega)]; exact o2
    · rw [xset_ne _ _ (by omega), xadd_ne _ _ _ (by omega)]; exact o3
    · rw [xset_ne _ _ (by omega), xadd_ne _ _ _ (by omega)]; exact o4
    · rw [xset_ne _ _ (by omega), xadd_ne _ _ _ (by omega)]; exact o5
    · rw [xset_ne _ _ (by omega), xadd_ne _ _ _ (by omega)]; exact o6
    · rw [xset_ne _ _ (by omega), xadd_ne _ _ _ (by omega)]; exact o7
    · rw [xset_ne _ _ (by omega), xadd_ne _ _ _ (by omega)]; exact o8
    · rw [xset_ne _ _ (by omega)]; have := xadd_eq h (.inl (.int, 16, .inl (fun _ => 0))) 16; rw [z] at this; exact this
  obtain ⟨h', k, R⟩ := m_init_9 (E := E) (d := d) hb I1
  refine ⟨h', ?_, R⟩
  refine x_aload_n dM_init_72 rfl ?_
  refine x_bipush (v := (nI 16)) dM_init_73 (by decide) ?_
  refine x_newi 16 dM_init_75 kw_52 rfl (by decide) ?_
  rw [z]
  refine x_putF fM_versions rfl dM_init_77 (fs := [.int (nI 0), .int (nI 0), .ref (m + 1), .ref (m + 2), .ref (m + 3), .ref (m + 4), .ref (m + 5), .ref (m + 6), .ref (m + 7), .ref (m + 8), .null, .null, .null, .null]) e0 hb rfl rfl (Nat.le_of_ble_eq_true rfl) ?_
  exact k
theorem m_init_7 {g h : xH} (hb : E.2.2.1 ≤ m) (I : IP7 m g h) : ∃ h', xG E d mM_init 63 [(0, .ref m)] [] true h (true, .inl none, h') ∧ QP m h' qInit h' ∧ (∀ q, q < m → h'.1 q = g.1 q) ∧ h'.2.1 = m + 13 ∧ h'.2.2 = g.2.2 + 21344 := by
  obtain ⟨z, u, fr, o0, o1, o2, o3, o4, o5, o6, o7⟩ := I
  have e0 : (xadd h (.inl (.long, 2048, .inr (.inl (fun _ => 0)))) 2048).1 m = some (.inr (3, [.int (nI 0), .int (nI 0), .ref (m + 1), .ref (m + 2), .ref (m + 3), .ref (m + 4), .ref (m + 5), .ref (m + 6), .ref (m + 7), .null, .null, .null, .null, .null])) := (xadd_ne _ _ _ (by omega)).trans o0
  have I1 : IP8 m g (xset (xadd h (.inl (.long, 2048, .inr (.inl (fun _ => 0)))) 2048) m (.inr (3, [.int (nI 0), .int (nI 0), .ref (m + 1), .ref (m + 2), .ref (m + 3), .ref (m + 4), .ref (m + 5), .ref (m + 6), .ref (m + 7), .ref (m + 8), .null, .null, .null, .null]))) := by
    refine ⟨by rw [xset_sz, xadd_sz]; omega, by rw [xset_us, xadd_us]; omega, fun q hq => ?_, xset_eq _ _ _, ?_, ?_, ?_, ?_, ?_, ?_, ?_, ?_⟩
    · rw [xset_ne _ _ (by omega), xadd_ne _ _ _ (by omega)]; exact fr q hq
    · rw [xset_ne _ _ (by omega), xadd_ne _ _ _ (by omega)]; exact o1
    · rw [xset_ne _ _ (by omega), xadd_ne _ _ _ (by omega)]; exact o2
    · rw [xset_ne _ _ (by omega), xadd_ne _ _ _ (by omega)]; exact o3
    · rw [xset_ne _ _ (by omega), xadd_ne _ _ _ (by omega)]; exact o4
    · rw [xset_ne _ _ (by omega), xadd_ne _ _ _ (by omega)]; exact o5
    · rw [xset_ne _ _ (by omega), xadd_ne _ _ _ (by omega)]; exact o6
    · rw [xset_ne _ _ (by omega), xadd_ne _ _ _ (by omega)]; exact o7
    · rw [xset_ne _ _ (by omega)]; have := xadd_eq h (.inl (.long, 2048, .inr (.inl (fun _ => 0)))) 2048; rw [z] at this; exact this
  obtain ⟨h', k, R⟩ := m_init_8 (E := E) (d := d) hb I1
  refine ⟨h', ?_, R⟩
  refine x_aload_n dM_init_63 rfl ?_
  refine x_sipush (v := (nI 2048)) dM_init_64 (by decide) ?_
  refine x_newl 2048 dM_init_67 kw_53 rfl (by decide) ?_
  rw [z]
  refine x_putF fM_value rfl dM_init_69 (fs := [.int (nI 0), .int (nI 0), .ref (m + 1), .ref (m + 2), .ref (m + 3), .ref (m + 4), .ref (m + 5), .ref (m + 6), .ref (m + 7), .null, .null, .null, .null, .null]) e0 hb rfl rfl (Nat.le_of_ble_eq_true rfl) ?_
  exact k
theorem m_init_6 {g h : xH} (hb : E.2.2.1 ≤ m) (I : IP6 m g h) : ∃ h', xG E d mM_init 54 [(0, .ref m)] [] true h (true, .inl none, h') ∧ QP m h' qInit h' ∧ (∀ q, q < m → h'.1 q = g.1 q) ∧ h'.2.1 = m + 13 ∧ h'.2.2 = g.2.2 + 21344 := by
  obtain ⟨z, u, fr, o0, o1, o2, o3, o4, o5, o6⟩ := I
  have e0 : (xadd h (.inl (.long, 256, .inr (.inl (fun _ => 0)))) 256).1 m = some (.inr (3, [.int (nI 0), .int (nI 0), .ref (m + 1), .ref (m + 2), .ref (m + 3), .ref (m + 4), .ref (m + 5), .ref (m + 6), .null, .null, .null, .null, .null, .null])) := (xadd_ne _ _ _ (by omega)).trans o0
  have I1 : IP7 m g (xset (xadd h (.inl (.long, 256, .inr (.inl (fun _ => 0)))) 256) m (.inr (3, [.int (nI 0), .int (nI 0), .ref (m + 1), .ref (m + 2), .ref (m + 3), .ref (m + 4), .ref (m + 5), .ref (m + 6), .ref (m + 7), .null, .null, .null, .null, .null]))) := by
    refine ⟨by rw [xset_sz, xadd_sz]; omega, by rw [xset_us, xadd_us]; omega, fun q hq => ?_, xset_eq _ _ _, ?_, ?_, ?_, ?_, ?_, ?_, ?_⟩
    · rw [xset_ne _ _ (by omega), xadd_ne _ _ _ (by omega)]; exact fr q hq
    · rw [xset_ne _ _ (by omega), xadd_ne _ _ _ (by omega)]; exact o1
    · rw [xset_ne _ _ (by omega), xadd_ne _ _ _ (by omega)]; exact o2
    · rw [xset_ne _ _ (by omega), xadd_ne _ _ _ (by omega)]; exact o3
    · rw [xset_ne _ _ (by omega), xadd_ne _ _ _ (by omega)]; exact o4
    · rw [xset_ne _ _ (by omega), xadd_ne _ _ _ (by omega)]; exact o5
    · rw [xset_ne _ _ (by omega), xadd_ne _ _ _ (by omega)]; exact o6
    · rw [xset_ne _ _ (by omega)]; have := xadd_eq h (.inl (.long, 256, .inr (.inl (fun _ => 0)))) 256; rw [z] at this; exact this
  obtain ⟨h', k, R⟩ := m_init_7 (E := E) (d := d) hb I1
  refine ⟨h', ?_, R⟩
  refine x_aload_n dM_init_54 rfl ?_
  refine x_sipush (v := (nI 256)) dM_init_55 (by decide) ?_
  refine x_newl 256 dM_init_58 kw_53 rfl (by decide) ?_
  rw [z]
  refine x_putF fM_began rfl dM_init_60 (fs := [.int (nI 0), .int (nI 0), .ref (m + 1), .ref (m + 2), .ref (m + 3), .ref (m + 4), .ref (m + 5), .ref (m + 6), .null, .null, .null, .null, .null, .null]) e0 hb rfl rfl (Nat.le_of_ble_eq_true rfl) ?_
  exact k
theorem m_init_5 {g h : xH} (hb : E.2.2.1 ≤ m) (I : IP5 m g h) : ∃ h', xG E d mM_init 46 [(0, .ref m)] [] true h (true, .inl none, h') ∧ QP m h' qInit h' ∧ (∀ q, q < m → h'.1 q = g.1 q) ∧ h'.2.1 = m + 13 ∧ h'.2.2 = g.2.2 + 21344 := by
  obtain ⟨z, u, fr, o0, o1, o2, o3, o4, o5⟩ := I
  have e0 : (xadd h (.inl (.int, 16, .inl (fun _ => 0))) 16).1 m = some (.inr (3, [.int (nI 0), .int (nI 0), .ref (m + 1), .ref (m + 2), .ref (m + 3), .ref (m + 4), .ref (m + 5), .null, .null, .null, .null, .null, .null, .null])) := (xadd_ne _ _ _ (by omega)).trans o0
  have I1 : IP6 m g (xset (xadd h (.inl (.int, 16, .inl (fun _ => 0))) 16) m (.inr (3, [.int (nI 0), .int (nI 0), .ref (m + 1), .ref (m + 2), .ref (m + 3), .ref (m + 4), .ref (m + 5), .ref (m + 6), .null, .null, .null, .null, .null, .null]))) := by
    refine ⟨by rw [xset_sz, xadd_sz]; omega, by rw [xset_us, xadd_us]; omega, fun q hq => ?_, xset_eq _ _ _, ?_, ?_, ?_, ?_, ?_, ?_⟩
    · rw [xset_ne _ _ (by omega), xadd_ne _ _ _ (by omega)]; exact fr q hq
    · rw [xset_ne _ _ (by omega), xadd_ne _ _ _ (by omega)]; exact o1
    · rw [xset_ne _ _ (by omega), xadd_ne _ _ _ (by omega)]; exact o2
    · rw [xset_ne _ _ (by omega), xadd_ne _ _ _ (by omega)]; exact o3
    · rw [xset_ne _ _ (by omega), xadd_ne _ _ _ (by omega)]; exact o4
    · rw [xset_ne _ _ (by omega), xadd_ne _ _ _ (by omega)]; exact o5
    · rw [xset_ne _ _ (by omega)]; have := xadd_eq h (.inl (.int, 16, .inl (fun _ => 0))) 16; rw [z] at this; exact this
  obtain ⟨h', k, R⟩ := m_init_6 (E := E) (d := d) hb I1
  refine ⟨h', ?_, R⟩
  refine x_aload_n dM_init_46 rfl ?_
  refine x_bipush (v := (nI 16)) dM_init_47 (by decide) ?_
  refine x_newi 16 dM_init_49 kw_52 rfl (by decide) ?_
  rw [z]
  refine x_putF fM_layers rfl dM_init_51 (fs := [.int (nI 0), .int (nI 0), .ref (m + 1), .ref (m + 2), .ref (m + 3), .ref (m + 4), .ref (m + 5), .null, .null, .null, .null, .null, .null, .null]) e0 hb rfl rfl (Nat.le_of_ble_eq_true rfl) ?_
  exact k
theorem m_init_4 {g h : xH} (hb : E.2.2.1 ≤ m) (I : IP4 m g h) : ∃ h', xG E d mM_init 38 [(0, .ref m)] [] true h (true, .inl none, h') ∧ QP m h' qInit h' ∧ (∀ q, q < m → h'.1 q = g.1 q) ∧ h'.2.1 = m + 13 ∧ h'.2.2 = g.2.2 + 21344 := by
  obtain ⟨z, u, fr, o0, o1, o2, o3, o4⟩ := I
  have e0 : (xadd h (.inl (.int, 16, .inl (fun _ => 0))) 16).1 m = some (.inr (3, [.int (nI 0), .int (nI 0), .ref (m + 1), .ref (m + 2), .ref (m + 3), .ref (m + 4), .null, .null, .null, .null, .null, .null, .null, .null])) := (xadd_ne _ _ _ (by omega)).trans o0
  have I1 : IP5 m g (xset (xadd h (.inl (.int, 16, .inl (fun _ => 0))) 16) m (.inr (3, [.int (nI 0), .int (nI 0), .ref (m + 1), .ref (m + 2), .ref (m + 3), .ref (m + 4), .ref (m + 5), .null, .null, .null, .null, .null, .null, .null]))) := by
    refine ⟨by rw [xset_sz, xadd_sz]; omega, by rw [xset_us, xadd_us]; omega, fun q hq => ?_, xset_eq _ _ _, ?_, ?_, ?_, ?_, ?_⟩
    · rw [xset_ne _ _ (by omega), xadd_ne _ _ _ (by omega)]; exact fr q hq
    · rw [xset_ne _ _ (by omega), xadd_ne _ _ _ (by omega)]; exact o1
    · rw [xset_ne _ _ (by omega), xadd_ne _ _ _ (by omega)]; exact o2
    · rw [xset_ne _ _ (by omega), xadd_ne _ _ _ (by omega)]; exact o3
    · rw [xset_ne _ _ (by omega), xadd_ne _ _ _ (by omega)]; exact o4
    · rw [xset_ne _ _ (by omega)]; have := xadd_eq h (.inl (.int, 16, .inl (fun _ => 0))) 16; rw [z] at this; exact this
  obtain ⟨h', k, R⟩ := m_init_5 (E := E) (d := d) hb I1
  refine ⟨h', ?_, R⟩
  refine x_aload_n dM_init_38 rfl ?_
  refine x_bipush (v := (nI 16)) dM_init_39 (by decide) ?_
  refine x_newi 16 dM_init_41 kw_52 rfl (by decide) ?_
  rw [z]
  refine x_putF fM_kind rfl dM_init_43 (fs := [.int (nI 0), .int (nI 0), .ref (m + 1), .ref (m + 2), .ref (m + 3), .ref (m + 4), .null, .null, .null, .null, .null, .null, .null, .null]) e0 hb rfl rfl (Nat.le_of_ble_eq_true rfl) ?_
  exact k
theorem m_init_3 {g h : xH} (hb : E.2.2.1 ≤ m) (I : IP3 m g h) : ∃ h', xG E d mM_init 30 [(0, .ref m)] [] true h (true, .inl none, h') ∧ QP m h' qInit h' ∧ (∀ q, q < m → h'.1 q = g.1 q) ∧ h'.2.1 = m + 13 ∧ h'.2.2 = g.2.2 + 21344 := by
  obtain ⟨z, u, fr, o0, o1, o2, o3⟩ := I
  have e0 : (xadd h (.inl (.int, 16, .inl (fun _ => 0))) 16).1 m = some (.inr (3, [.int (nI 0), .int (nI 0), .ref (m + 1), .ref (m + 2), .ref (m + 3), .null, .null, .null, .null, .null, .null, .null, .null, .null])) := (xadd_ne _ _ _ (by omega)).trans o0
  have I1 : IP4 m g (xset (xadd h (.inl (.int, 16, .inl (fun _ => 0))) 16) m (.inr (3, [.int (nI 0), .int (nI 0), .ref (m + 1), .ref (m + 2), .ref (m + 3), .ref (m + 4), .null, .null, .null, .null, .null, .null, .null, .null]))) := by
    refine ⟨by rw [xset_sz, xadd_sz]; omega, by rw [xset_us, xadd_us]; omega, fun q hq => ?_, xset_eq _ _ _, ?_, ?_, ?_, ?_⟩
    · rw [xset_ne _ _ (by omega), xadd_ne _ _ _ (by omega)]; exact fr q hq
    · rw [xset_ne _ _ (by omega), xadd_ne _ _ _ (by omega)]; exact o1
    · rw [xset_ne _ _ (by omega), xadd_ne _ _ _ (by omega)]; exact o2
    · rw [xset_ne _ _ (by omega), xadd_ne _ _ _ (by omega)]; exact o3
    · rw [xset_ne _ _ (by omega)]; have := xadd_eq h (.inl (.int, 16, .inl (fun _ => 0))) 16; rw [z] at this; exact this
  obtain ⟨h', k, R⟩ := m_init_4 (E := E) (d := d) hb I1
  refine ⟨h', ?_, R⟩
  refine x_aload_n dM_init_30 rfl ?_
  refine x_bipush (v := (nI 16)) dM_init_31 (by decide) ?_
  refine x_newi 16 dM_init_33 kw_52 rfl (by decide) ?_
  rw [z]
  refine x_putF fM_start rfl dM_init_35 (fs := [.int (nI 0), .int (nI 0), .ref (m + 1), .ref (m + 2), .ref (m + 3), .null, .null, .null, .null, .null, .null, .null, .null, .null]) e0 hb rfl rfl (Nat.le_of_ble_eq_true rfl) ?_
  exact k
theorem m_init_2 {g h : xH} (hb : E.2.2.1 ≤ m) (I : IP2 m g h) : ∃ h', xG E d mM_init 21 [(0, .ref m)] [] true h (true, .inl none, h') ∧ QP m h' qInit h' ∧ (∀ q, q < m → h'.1 q = g.1 q) ∧ h'.2.1 = m + 13 ∧ h'.2.2 = g.2.2 + 21344 := by
  obtain ⟨z, u, fr, o0, o1, o2⟩ := I
  have e0 : (xadd h (.inl (.boolean, 2048, .inl (fun _ => 0))) 2048).1 m = some (.inr (3, [.int (nI 0), .int (nI 0), .ref (m + 1), .ref (m + 2), .null, .null, .null, .null, .null, .null, .null, .null, .null, .null])) := (xadd_ne _ _ _ (by omega)).trans o0
  have I1 : IP3 m g (xset (xadd h (.inl (.boolean, 2048, .inl (fun _ => 0))) 2048) m (.inr (3, [.int (nI 0), .int (nI 0), .ref (m + 1), .ref (m + 2), .ref (m + 3), .null, .null, .null, .null, .null, .null, .null, .null, .null]))) := by
    refine ⟨by rw [xset_sz, xadd_sz]; omega, by rw [xset_us, xadd_us]; omega, fun q hq => ?_, xset_eq _ _ _, ?_, ?_, ?_⟩
    · rw [xset_ne _ _ (by omega), xadd_ne _ _ _ (by omega)]; exact fr q hq
    · rw [xset_ne _ _ (by omega), xadd_ne _ _ _ (by omega)]; exact o1
    · rw [xset_ne _ _ (by omega), xadd_ne _ _ _ (by omega)]; exact o2
    · rw [xset_ne _ _ (by omega)]; have := xadd_eq h (.inl (.boolean, 2048, .inl (fun _ => 0))) 2048; rw [z] at this; exact this
  obtain ⟨h', k, R⟩ := m_init_3 (E := E) (d := d) hb I1
  refine ⟨h', ?_, R⟩
  refine x_aload_n dM_init_21 rfl ?_
  refine x_sipush (v := (nI 2048)) dM_init_22 (by decide) ?_
  refine x_newz 2048 dM_init_25 kw_458 rfl (by decide) ?_
  rw [z]
  refine x_putF fM_wrote rfl dM_init_27 (fs := [.int (nI 0), .int (nI 0), .ref (m + 1), .ref (m + 2), .null, .null, .null, .null, .null, .null, .null, .null, .null, .null]) e0 hb rfl rfl (Nat.le_of_ble_eq_true rfl) ?_
  exact k
theorem m_init_1 {g h : xH} (hb : E.2.2.1 ≤ m) (I : IP1 m g h) : ∃ h', xG E d mM_init 12 [(0, .ref m)] [] true h (true, .inl none, h') ∧ QP m h' qInit h' ∧ (∀ q, q < m → h'.1 q = g.1 q) ∧ h'.2.1 = m + 13 ∧ h'.2.2 = g.2.2 + 21344 := by
  obtain ⟨z, u, fr, o0, o1⟩ := I
  have e0 : (xadd h (.inl (.boolean, 256, .inl (fun _ => 0))) 256).1 m = some (.inr (3, [.int (nI 0), .int (nI 0), .ref (m + 1), .null, .null, .null, .null, .null, .null, .null, .null, .null, .null, .null])) := (xadd_ne _ _ _ (by omega)).trans o0
  have I1 : IP2 m g (xset (xadd h (.inl (.boolean, 256, .inl (fun _ => 0))) 256) m (.inr (3, [.int (nI 0), .int (nI 0), .ref (m + 1), .ref (m + 2), .null, .null, .null, .null, .null, .null, .null, .null, .null, .null]))) := by
    refine ⟨by rw [xset_sz, xadd_sz]; omega, by rw [xset_us, xadd_us]; omega, fun q hq => ?_, xset_eq _ _ _, ?_, ?_⟩
    · rw [xset_ne _ _ (by omega), xadd_ne _ _ _ (by omega)]; exact fr q hq
    · rw [xset_ne _ _ (by omega), xadd_ne _ _ _ (by omega)]; exact o1
    · rw [xset_ne _ _ (by omega)]; have := xadd_eq h (.inl (.boolean, 256, .inl (fun _ => 0))) 256; rw [z] at this; exact this
  obtain ⟨h', k, R⟩ := m_init_2 (E := E) (d := d) hb I1
  refine ⟨h', ?_, R⟩
  refine x_aload_n dM_init_12 rfl ?_
  refine x_sipush (v := (nI 256)) dM_init_13 (by decide) ?_
  refine x_newz 256 dM_init_16 kw_458 rfl (by decide) ?_
  rw [z]
  refine x_putF fM_saw rfl dM_init_18 (fs := [.int (nI 0), .int (nI 0), .ref (m + 1), .null, .null, .null, .null, .null, .null, .null, .null, .null, .null, .null]) e0 hb rfl rfl (Nat.le_of_ble_eq_true rfl) ?_
  exact k
theorem m_init_0 {g h : xH} (hb : E.2.2.1 ≤ m) (I : IP0 m g h) : ∃ h', xG E d mM_init 4 [(0, .ref m)] [] true h (true, .inl none, h') ∧ QP m h' qInit h' ∧ (∀ q, q < m → h'.1 q = g.1 q) ∧ h'.2.1 = m + 13 ∧ h'.2.2 = g.2.2 + 21344 := by
  obtain ⟨z, u, fr, o0⟩ := I
  have e0 : (xadd h (.inl (.boolean, 16, .inl (fun _ => 0))) 16).1 m = some (.inr (3, [.int (nI 0), .int (nI 0), .null, .null, .null, .null, .null, .null, .null, .null, .null, .null, .null, .null])) := (xadd_ne _ _ _ (by omega)).trans o0
  have I1 : IP1 m g (xset (xadd h (.inl (.boolean, 16, .inl (fun _ => 0))) 16) m (.inr (3, [.int (nI 0), .int (nI 0), .ref (m + 1), .null, .null, .null, .null, .null, .null, .null, .null, .null, .null, .null]))) := by
    refine ⟨by rw [xset_sz, xadd_sz]; omega, by rw [xset_us, xadd_us]; omega, fun q hq => ?_, xset_eq _ _ _, ?_⟩
    · rw [xset_ne _ _ (by omega), xadd_ne _ _ _ (by omega)]; exact fr q hq
    · rw [xset_ne _ _ (by omega)]; have := xadd_eq h (.inl (.boolean, 16, .inl (fun _ => 0))) 16; rw [z] at this; exact this
  obtain ⟨h', k, R⟩ := m_init_1 (E := E) (d := d) hb I1
  refine ⟨h', ?_, R⟩
  refine x_aload_n dM_init_4 rfl ?_
  refine x_bipush (v := (nI 16)) dM_init_5 (by decide) ?_
  refine x_newz 16 dM_init_7 kw_458 rfl (by decide) ?_
  rw [z]
  refine x_putF fM_open rfl dM_init_9 (fs := [.int (nI 0), .int (nI 0), .null, .null, .null, .null, .null, .null, .null, .null, .null, .null, .null, .null]) e0 hb rfl rfl (Nat.le_of_ble_eq_true rfl) ?_
  exact k
theorem m_init {h : xH} (hb : E.2.2.1 ≤ m) (hz : h.2.1 = m + 1) (ha : h.1 m = some (.inr (3, [.int (nI 0), .int (nI 0), .null, .null, .null, .null, .null, .null, .null, .null, .null, .null, .null, .null]))) : ∃ h', xG E d mM_init 0 [(0, .ref m)] [] false h (true, .inl none, h') ∧ QP m h' qInit h' ∧ (∀ q, q < m → h'.1 q = h.1 q) ∧ h'.2.1 = m + 13 ∧ h'.2.2 = h.2.2 + 21344 := by
  obtain ⟨h', k, R⟩ := m_init_0 (E := E) (d := d) (g := h) hb (show IP0 m h h from ⟨hz, rfl, fun _ _ => rfl, ha⟩)
  refine ⟨h', ?_, R⟩
  refine x_true ?_
  refine x_aload_n dM_init_0 rfl ?_
  refine x_objInit dM_init_1 kw_414 kw_19 kw_20 (Nat.le_of_ble_eq_true rfl) ?_
  exact k
end
end
section
/-! The versions as lists: all of them in one row; each cell's own -/
abbrev rT : Type := Nat × Nat × Int64
def rw_ (A : vW) (i : Nat) : rT := (A.1 i, A.2.1 i, A.2.2 i)
def rowL (A : vW) (n : Nat) : List rT := (List.range n).map (rw_ A)
def seg (A : vW) (j n : Nat) : List rT := (List.range (n - j)).map (fun q => rw_ A (j + q))
def celL (L : List rT) (c : Nat) : List (Nat × Int64) := (L.filter (fun r => r.1 == c)).map (fun r => r.2)
def vl (L : List (Nat × Int64)) (k : Nat) : Option Int64 := ((L.filter (fun r => decide (r.1 ≤ k))).getLast?).map (fun r => r.2)
def mrow (f : Nat → Nat) (g : Nat → Int64) (b n : Nat) : List (Nat × Int64) := (List.range n).map (fun i => (f (b + i), g (b + i)))
theorem rowL_succ (A : vW) (n : Nat) : rowL A (n + 1) = rowL A n ++ [rw_ A n] := by simp [rowL, List.range_succ]
theorem mrow_succ (f : Nat → Nat) (g : Nat → Int64) (b n : Nat) : mrow f g b (n + 1) = mrow f g b n ++ [(f (b + n), g (b + n))] := by simp [mrow, List.range_succ]
theorem rowL_len (A : vW) (n : Nat) : (rowL A n).length = n := by simp [rowL]
theorem mrow_len (f : Nat → Nat) (g : Nat → Int64) (b n : Nat) : (mrow f g b n).length = n := by simp [mrow]
theorem rowL_congr {A B : vW} {n : Nat} (h : ∀ i, i < n → rw_ A i = rw_ B i) : rowL A n = rowL B n := List.map_congr_left (fun i hi => h i (List.mem_range.mp hi))
theorem mrow_congr {f f' : Nat → Nat} {g g' : Nat → Int64} {b n : Nat} (h : ∀ i, i < n → f (b + i) = f' (b + i) ∧ g (b + i) = g' (b + i)) : mrow f g b n = mrow f' g' b n := List.map_congr_left (fun i hi => by rw [(h i (List.mem_range.mp hi)).1, (h i (List.mem_range.mp hi)).2])
theorem rowL_mem {A : vW} {n : Nat} {r : rT} : r ∈ rowL A n ↔ ∃ i, i < n ∧ rw_ A i = r := by simp [rowL]
theorem celL_app (L M : List rT) (c : Nat) : celL (L ++ M) c = celL L c ++ celL M c := by simp [celL]
theorem celL_one (r : rT) (c : Nat) : celL [r] c = if r.1 = c then [r.2] else [] := by
  by_cases h : r.1 = c <;> simp [celL, h]
theorem celL_cons (r : rT) (L : List rT) (c : Nat) : celL (r :: L) c = if r.1 = c then r.2 :: celL L c else celL L c := by
  by_cases h : r.1 = c <;> simp [celL, h]
theorem celL_mem {L : List rT} {c : Nat} {x : Nat × Int64} : x ∈ celL L c ↔ (c, x) ∈ L := by
  simp only [celL, List.mem_map, List.mem_filter]
  constructor
  · rintro ⟨⟨a, y⟩, ⟨h1, h2⟩, rfl⟩
    have : a = c := by simpa using h2
    subst this
    exact h1
  · intro h
    exact ⟨(c, x), ⟨h, by simp⟩, rfl⟩
theorem vl_nil (k : Nat) : vl [] k = none := rfl
theorem vl_app1 (L : List (Nat × Int64)) (x : Nat × Int64) (k : Nat) : vl (L ++ [x]) k = if x.1 ≤ k then some x.2 else vl L k := by
  by_cases h : x.1 ≤ k <;> simp [vl, List.filter_append, h]
theorem vl_all {L : List (Nat × Int64)} {k : Nat} (h : ∀ x ∈ L, x.1 ≤ k) : vl L k = (L.getLast?).map (fun r => r.2) := by
  unfold vl
  rw [List.filter_eq_self.mpr (fun x hx => decide_eq_true (h x hx))]
theorem vl_none {L : List (Nat × Int64)} {k : Nat} (h : ∀ x ∈ L, k < x.1) : vl L k = none := by
  unfold vl
  rw [List.filter_eq_nil_iff.mpr (fun x hx => by have := h x hx; simp; omega)]
  rfl
theorem vl_cons {x : Nat × Int64} {L : List (Nat × Int64)} {k : Nat} (h : ∃ y ∈ L, y.1 ≤ k) : vl (x :: L) k = vl L k := by
  have hne : L.filter (fun r => decide (r.1 ≤ k)) ≠ [] := by
    obtain ⟨y, hy, hk⟩ := h
    intro e
    have := List.filter_eq_nil_iff.mp e y hy
    exact this (decide_eq_true hk)
  unfold vl
  by_cases hx : x.1 ≤ k
  · rw [List.filter_cons_of_pos (by simpa using hx)]
    cases hf : L.filter (fun r => decide (r.1 ≤ k)) with
    | nil => exact absurd hf hne
    | cons a l => rw [List.getLast?_cons_cons]
  · rw [List.filter_cons_of_neg (by simpa using hx)]
theorem vix_vl (A : vW) (c k : Nat) : ∀ n, vl (celL (rowL A n) c) k = if vix A c k n = 0 then none else some (A.2.2 (vix A c k n - 1))
  | 0 => rfl
  | n + 1 => by
    rw [rowL_succ, celL_app, celL_one]
    have ih := vix_vl A c k n
    by_cases h : A.1 n = c
    · rw [if_pos (show (rw_ A n).1 = c from h), vl_app1]
      by_cases h2 : A.2.1 n ≤ k
      · rw [if_pos (show (rw_ A n).2.1 ≤ k from h2), show vix A c k (n + 1) = n + 1 from if_pos ⟨h, h2⟩]
        rfl
      · rw [if_neg (show ¬ (rw_ A n).2.1 ≤ k from h2), show vix A c k (n + 1) = vix A c k n from if_neg (fun q => h2 q.2)]
        exact ih
    · rw [if_neg (show ¬ (rw_ A n).1 = c from h), List.append_nil, show vix A c k (n + 1) = vix A c k n from if_neg (fun q => h q.1)]
      exact ih
/-! counting -/
theorem cnt_congr {p q : Nat → Bool} : ∀ n, (∀ c, c < n → p c = q c) → cnt p n = cnt q n
  | 0, _ => rfl
  | n + 1, h => by
    unfold cnt
    rw [cnt_congr n (fun c hc => h c (by omega)), h n (by omega)]
theorem cnt_zero {p : Nat → Bool} : ∀ n, cnt p n = 0 ↔ ∀ c, c < n → p c = false
  | 0 => ⟨fun _ c hc => absurd hc (Nat.not_lt_zero c), fun _ => rfl⟩
  | n + 1 => by
    have ih := cnt_zero (p := p) n
    unfold cnt
    constructor
    · intro h c hc
      by_cases hp : p n = true
      · rw [if_pos hp] at h; omega
      · rw [if_neg hp] at h
        by_cases e : c = n
        · rw [e]; exact Bool.eq_false_iff.mpr hp
        · exact ih.mp h c (by omega)
    · intro h
      rw [if_neg (by rw [h n (by omega)]; decide)]
      exact ih.mpr (fun c hc => h c (by omega))
theorem bt_pcn (x : Int32) : ∀ n, n ≤ 16 → pcn x n = cnt (fun c => bt x c) n
  | 0, _ => rfl
  | n + 1, h => by
    have ih := bt_pcn x n (by omega)
    unfold pcn cnt
    rw [ih]
    by_cases e : x &&& xbit n = 0
    · rw [if_pos e, if_neg (by rw [(xbit_bt (by omega)).mp e]; decide)]
    · rw [if_neg e, if_pos (by
        cases hb : bt x n
        · exact absurd ((xbit_bt (by omega)).mpr hb) e
        · rfl)]
theorem m16_zero {x : Int32} (hx : m16 x) (h : ∀ c, c < 16 → bt x c = false) : x = 0 := by
  obtain ⟨k, hk, rfl⟩ := hx
  have : k = 0 := by
    apply Nat.eq_of_testBit_eq
    intro i
    rw [Nat.zero_testBit]
    by_cases hi : i < 16
    · exact (xbit_and hk hi).mp ((xbit_bt hi).mpr (h i hi))
    · exact Nat.testBit_lt_two_pow (Nat.lt_of_lt_of_le (show k < 2 ^ 16 from hk) (Nat.pow_le_pow_right (n := 2) (by decide) (show 16 ≤ i by omega)))
  rw [this]; rfl
theorem sumN_congr {f g : Nat → Nat} : ∀ n, (∀ c, c < n → f c = g c) → sumN f n = sumN g n
  | 0, _ => rfl
  | n + 1, h => by
    unfold sumN
    rw [sumN_congr n (fun c hc => h c (by omega)), h n (by omega)]
theorem sumN_up (f : Nat → Nat) {c : Nat} (v : Nat) : ∀ n, c < n → sumN (va_up f c v) n + f c = sumN f n + v
  | 0, h => absurd h (Nat.not_lt_zero _)
  | n + 1, h => by
    unfold sumN
    by_cases e : c = n
    · subst e
      have h1 := sumN_congr (f := va_up f c v) (g := f) c (fun q hq => up_ne f v (show q ≠ c by omega))
      rw [up_eq, h1]
      omega
    · rw [up_ne f v (fun q => e q.symm)]
      have := sumN_up f (c := c) v n (by omega)
      omega
theorem sumN_add (f g : Nat → Nat) : ∀ n, sumN (fun c => f c + g c) n = sumN f n + sumN g n
  | 0 => rfl
  | n + 1 => by
    unfold sumN
    rw [sumN_add f g n]
    omega
theorem sumN_one {a : Nat} : ∀ n, sumN (fun c => if a = c then 1 else 0) n = if a < n then 1 else 0
  | 0 => rfl
  | n + 1 => by
    unfold sumN
    rw [sumN_one n]
    by_cases h1 : a < n
    · rw [if_pos h1, if_neg (by omega), if_pos (by omega)]
    · rw [if_neg h1]
      by_cases h2 : a = n
      · rw [if_pos h2, if_pos (by omega)]
      · rw [if_neg h2, if_neg (by omega)]
theorem sum_celL : ∀ L : List rT, (∀ r ∈ L, r.1 < 16) → sumN (fun c => (celL L c).length) 16 = L.length
  | [], _ => by rfl
  | r :: L, h => by
    have ih := sum_celL L (fun x hx => h x (List.mem_cons_of_mem _ hx))
    have e : ∀ c, (celL (r :: L) c).length = (if r.1 = c then 1 else 0) + (celL L c).length := by
      intro c
      rw [celL_cons]
      split
      · rw [List.length_cons]; omega
      · omega
    rw [sumN_congr 16 (fun c _ => e c), sumN_add, sumN_one, if_pos (h r List.mem_cons_self), ih, List.length_cons]
    omega
/-! sorted rows -/
def srt (L : List rT) : Prop := L.Pairwise (fun a b => a.2.1 ≤ b.2.1)
def srtC (L : List (Nat × Int64)) : Prop := L.Pairwise (fun a b => a.1 ≤ b.1)
theorem srt_celL {L : List rT} (h : srt L) (c : Nat) : srtC (celL L c) := by
  unfold srtC celL
  rw [List.pairwise_map]
  exact List.Pairwise.filter _ h
theorem mrow_mono {f : Nat → Nat} {g : Nat → Int64} {b : Nat} : ∀ {n : Nat}, srtC (mrow f g b n) → ∀ i j, i ≤ j → j < n → f (b + i) ≤ f (b + j)
  | 0, _, _, _, _, h => absurd h (Nat.not_lt_zero _)
  | n + 1, h, i, j, hij, hj => by
    rw [mrow_succ] at h
    have h2 := List.pairwise_append.mp h
    by_cases e : j = n
    · subst e
      by_cases e2 : i = j
      · rw [e2]; exact Nat.le_refl _
      · exact h2.2.2 (f (b + i), g (b + i)) (List.mem_map.mpr ⟨i, List.mem_range.mpr (by omega), rfl⟩) _ (List.mem_cons_self)
    · exact mrow_mono h2.1 i j hij (by omega)
theorem mrow_vl {f : Nat → Nat} {g : Nat → Int64} {b k j : Nat} : ∀ n, srtC (mrow f g b n) → j < n → f (b + j) ≤ k → (j + 1 < n → k < f (b + (j + 1))) → vl (mrow f g b n) k = some (g (b + j))
  | 0, _, h, _, _ => absurd h (Nat.not_lt_zero _)
  | n + 1, h, hj, h1, h2 => by
    have hm := mrow_mono h
    rw [mrow_succ, vl_app1]
    by_cases e : j = n
    · subst e
      rw [if_pos h1]
    · have h3 := h2 (by omega)
      have h4 := hm (j + 1) n (by omega) (by omega)
      rw [if_neg (show ¬ f (b + n) ≤ k by omega)]
      rw [mrow_succ] at h
      exact mrow_vl n (List.pairwise_append.mp h).1 (by omega) h1 (fun q => h2 (by omega))
theorem mrow_vl0 {f : Nat → Nat} {g : Nat → Int64} {b k n : Nat} (hs : srtC (mrow f g b n)) (h : k < f b) : vl (mrow f g b n) k = none := by
  refine vl_none (fun x hx => ?_)
  obtain ⟨i, hi, rfl⟩ := List.mem_map.mp hx
  have := mrow_mono hs 0 i (Nat.zero_le _) (List.mem_range.mp hi)
  rw [Nat.add_zero] at this
  exact Nat.lt_of_lt_of_le h this
theorem mpv_at {f : Nat → Nat} {k : Nat} : ∀ n v, f v ≤ k → v ≤ mpv f k n v ∧ mpv f k n v ≤ v + n ∧ f (mpv f k n v) ≤ k ∧ (mpv f k n v < v + n → k < f (mpv f k n v + 1))
  | 0, v, h => ⟨Nat.le_refl _, Nat.le_refl _, h, fun q => absurd q (Nat.lt_irrefl _)⟩
  | n + 1, v, h => by
    unfold mpv
    by_cases e : f (v + 1) ≤ k
    · rw [if_pos e]
      obtain ⟨h1, h2, h3, h4⟩ := mpv_at n (v + 1) e
      exact ⟨by omega, by omega, h3, fun q => h4 (by omega)⟩
    · rw [if_neg e]
      exact ⟨Nat.le_refl _, by omega, h, fun _ => by omega⟩
theorem mrow_last {f : Nat → Nat} {g : Nat → Int64} {b n : Nat} (hn : 1 ≤ n) : (mrow f g b n).getLast? = some (f (b + n - 1), g (b + n - 1)) := by
  obtain ⟨m, rfl⟩ : ∃ m, n = m + 1 := ⟨n - 1, by omega⟩
  rw [mrow_succ, List.getLast?_append]
  rfl
/-- the cells written after the clock -/
theorem xbit_at {c i : Nat} (hc : c < 16) (hi : i < 16) : bt (xbit c) i = decide (i = c) := by
  by_cases e : i = c
  · subst e
    rw [decide_eq_true rfl]
    cases hb : bt (xbit i) i
    · have := (xbit_bt (x := xbit i) hc).mpr hb
      have h2 : xbit i &&& xbit i = xbit i := by apply b_ext; intro q _; rw [b_and, Bool.and_self]
      rw [h2] at this
      exact absurd this ((by decide +kernel : ∀ c, c < 16 → xbit c ≠ 0) i hc)
    · rfl
  · rw [decide_eq_false e]
    exact (by decide +kernel : ∀ c, c < 16 → ∀ i, i < 16 → i ≠ c → bt (xbit c) i = false) c hc i hi e
theorem vwa_bt {A : vW} {k c : Nat} (hc : c < 16) : ∀ n z, (∀ i, i < n → A.1 i < 16) → srt (rowL A n) → bt (vwa A k n z) c = (bt z c || (celL (rowL A n) c).any (fun r => decide (k < r.1)))
  | 0, z, _, _ => by simp [vwa, rowL, celL]
  | n + 1, z, hA, hs => by
    rw [rowL_succ] at hs
    have h2 := List.pairwise_append.mp hs
    rw [rowL_succ, celL_app, celL_one, List.any_append]
    unfold vwa
    by_cases e : A.2.1 n ≤ k
    · rw [if_pos e]
      have h3 : (celL (rowL A n) c).any (fun r => decide (k < r.1)) = false := by
        rw [List.any_eq_false]
        intro x hx
        have := h2.2.2 (c, x) (celL_mem.mp hx) _ List.mem_cons_self
        have h4 : x.1 ≤ A.2.1 n := this
        simp
        omega
      rw [h3]
      split
      · have : decide (k < A.2.1 n) = false := decide_eq_false (by omega)
        simp [rw_, this]
      · simp
    · rw [if_neg e, vwa_bt hc n _ (fun i hi => hA i (by omega)) h2.1, b_or, xbit_at (hA n (by omega)) hc]
      have : decide (k < A.2.1 n) = true := decide_eq_true (by omega)
      by_cases e2 : A.1 n = c
      · rw [if_pos (show (rw_ A n).1 = c from e2), decide_eq_true e2.symm]
        simp [rw_, this]
      · rw [if_neg (show ¬ (rw_ A n).1 = c from e2), decide_eq_false (fun q => e2 q.symm)]
        simp
theorem any_last {L : List (Nat × Int64)} (hs : srtC L) {k a : Nat} (hl : (L.getLast?).map (fun r => r.1) = some a) : L.any (fun r => decide (k < r.1)) = decide (k < a) := by
  obtain ⟨z, hz⟩ : ∃ z, L.getLast? = some z := by
    cases h : L.getLast? with
    | none => rw [h] at hl; cases hl
    | some z => exact ⟨z, rfl⟩
  rw [hz] at hl
  have ha : z.1 = a := Option.some.inj hl
  obtain ⟨pre, rfl⟩ := List.getLast?_eq_some_iff.mp hz
  have h2 := List.pairwise_append.mp hs
  rw [List.any_append]
  by_cases e : k < a
  · simp [ha, e]
  · have : pre.any (fun r => decide (k < r.1)) = false := by
      rw [List.any_eq_false]
      intro x hx
      have := h2.2.2 x hx z List.mem_cons_self
      simp
      omega
    rw [this]
    simp [ha]
end
section
/-! What forgetting does to the rows, on both sides -/
def keepR (fl : Nat) (x : rT) (S : List rT) : List rT := if S.any (fun y => y.1 == x.1 && decide (y.2.1 ≤ fl)) = true then S else x :: S
def GL (fl : Nat) (L S : List rT) : List rT := L.foldr (keepR fl) S
theorem seg_cons {A : vW} {j n : Nat} (h : j < n) : seg A j n = rw_ A j :: seg A (j + 1) n := by
  unfold seg
  rw [show n - j = (n - (j + 1)) + 1 by omega, List.range_succ_eq_map, List.map_cons, List.map_map]
  refine congrArg (List.cons (rw_ A j)) (List.map_congr_left (fun q _ => ?_))
  show rw_ A (j + (q + 1)) = rw_ A (j + 1 + q)
  rw [show j + (q + 1) = j + 1 + q by omega]
theorem seg_congr {A B : vW} {j n : Nat} (h : ∀ q, j ≤ q → q < n → rw_ A q = rw_ B q) : seg A j n = seg B j n :=
  List.map_congr_left (fun q hq => h (j + q) (by omega) (by have := List.mem_range.mp hq; omega))
theorem seg_nil (A : vW) (n : Nat) : seg A n n = [] := by unfold seg; rw [Nat.sub_self]; rfl
theorem seg_len (A : vW) (j n : Nat) : (seg A j n).length = n - j := by simp [seg]
theorem mv_at (A : vW) (i j : Nat) : rw_ (mv A i j) j = rw_ A i := by simp only [rw_, mv, up_eq]
theorem mv_ne (A : vW) (i : Nat) {j q : Nat} (h : q ≠ j) : rw_ (mv A i j) q = rw_ A q := by simp only [rw_, mv, up_ne _ _ h]
theorem rcA_spec {fl n : Nat} : ∀ (i : Nat) (cv : Int32) (j : Nat) (A : vW), i ≤ j → j ≤ n → (∀ q, q < i → A.1 q < 16) → (∀ c, c < 16 → bt cv c = (seg A j n).any (fun y => y.1 == c && decide (y.2.1 ≤ fl))) →
    (rcA fl i cv j A).1 ≤ j ∧ seg (rcA fl i cv j A).2 (rcA fl i cv j A).1 n = GL fl (rowL A i) (seg A j n)
  | 0, _, _, _, _, _, _, _ => ⟨Nat.le_refl _, rfl⟩
  | i + 1, cv, j, A, hij, hjn, hA, hcv => by
    have hAi := hA i (by omega)
    have hx : (seg A j n).any (fun y => y.1 == (rw_ A i).1 && decide (y.2.1 ≤ fl)) = bt cv (A.1 i) := (hcv _ hAi).symm
    have hg : GL fl (rowL A (i + 1)) (seg A j n) = GL fl (rowL A i) (keepR fl (rw_ A i) (seg A j n)) := by
      unfold GL
      rw [rowL_succ, List.foldr_append]
      rfl
    by_cases h : cv &&& xbit (A.1 i) = 0
    · have hb : bt cv (A.1 i) = false := (xbit_bt hAi).mp h
      have hk : keepR fl (rw_ A i) (seg A j n) = rw_ A i :: seg A j n := by
        unfold keepR
        rw [hx, hb]
        rfl
      have hseg : seg (mv A i (j - 1)) (j - 1) n = rw_ A i :: seg A j n := by
        rw [seg_cons (by omega), mv_at, show j - 1 + 1 = j by omega]
        refine congrArg (List.cons _) (seg_congr (fun q hq _ => mv_ne A i (by omega)))
      have hrow : rowL (mv A i (j - 1)) i = rowL A i := rowL_congr (fun q hq => mv_ne A i (by omega))
      rw [show rcA fl (i + 1) cv j A = rcA fl i (if A.2.1 i ≤ fl then cv ||| xbit (A.1 i) else cv) (j - 1) (mv A i (j - 1)) from if_pos h]
      have ih := rcA_spec (fl := fl) (n := n) i (if A.2.1 i ≤ fl then cv ||| xbit (A.1 i) else cv) (j - 1) (mv A i (j - 1)) (by omega) (by omega)
        (fun q hq => by
          have := congrArg (fun r : rT => r.1) (mv_ne A i (j := j - 1) (q := q) (by omega))
          have h2 : (mv A i (j - 1)).1 q = A.1 q := this
          rw [h2]; exact hA q (by omega))
        (fun c hc => by
          rw [hseg, List.any_cons, ← hcv c hc]
          by_cases e : A.2.1 i ≤ fl
          · rw [if_pos e, b_or, xbit_at hAi hc]
            by_cases e2 : c = A.1 i
            · subst e2
              simp [rw_, e]
            · have e3 : ¬ A.1 i = c := fun q => e2 q.symm
              simp [rw_, e2, e3]
          · rw [if_neg e]
            simp [rw_, e])
      rw [hseg, hrow] at ih
      rw [hg, hk]
      exact ⟨by omega, ih.2⟩
    · have hb : bt cv (A.1 i) = true := by
        cases hq : bt cv (A.1 i)
        · exact absurd ((xbit_bt hAi).mpr hq) h
        · rfl
      have hk : keepR fl (rw_ A i) (seg A j n) = seg A j n := by
        unfold keepR
        rw [hx, hb]
        rfl
      rw [show rcA fl (i + 1) cv j A = rcA fl i cv j A from if_neg h, hg, hk]
      exact rcA_spec i cv j A (by omega) hjn (fun q hq => hA q (by omega)) hcv
theorem rdA_spec {j : Nat} : ∀ (m i : Nat) (A : vW), j ≤ i → ∀ q, rw_ (rdA j m i A) q = if i - j ≤ q ∧ q < i - j + m then rw_ A (q + j) else rw_ A q
  | 0, i, A, _, q => by rw [if_neg (by omega)]; rfl
  | m + 1, i, A, hij, q => by
    show rw_ (rdA j m (i + 1) (mv A i (i - j))) q = _
    rw [rdA_spec m (i + 1) (mv A i (i - j)) (by omega) q]
    by_cases h1 : i + 1 - j ≤ q ∧ q < i + 1 - j + m
    · rw [if_pos h1, if_pos (by omega), mv_ne A i (by omega)]
    · rw [if_neg h1]
      by_cases h2 : q = i - j
      · rw [if_pos (by omega), h2, mv_at, show i - j + j = i by omega]
      · rw [if_neg (by omega), mv_ne A i h2]
theorem rdA_row {j n : Nat} (hj : j ≤ n) (A : vW) : rowL (rdA j (n - j) j A) (n - j) = seg A j n :=
  List.map_congr_left (fun q hq => by
    have := List.mem_range.mp hq
    rw [rdA_spec _ _ _ (Nat.le_refl _), if_pos (by omega), Nat.add_comm])
/-- the rows after forget, and how many went -/
theorem stF_rows {σ : vS} (hA : ∀ i, i < sN σ → (sA σ).1 i < 16) : rowL (sA (stForget σ)) (sN (stForget σ)) = GL (flo (sK σ) (sT σ) 16) (rowL (sA σ) (sN σ)) [] ∧ (rcA (flo (sK σ) (sT σ) 16) (sN σ) 0 (sN σ) (sA σ)).1 ≤ sN σ := by
  have h := rcA_spec (fl := flo (sK σ) (sT σ) 16) (n := sN σ) (sN σ) 0 (sN σ) (sA σ) (Nat.le_refl _) (Nat.le_refl _) hA (fun c _ => by rw [seg_nil, b_0]; rfl)
  rw [seg_nil] at h
  exact ⟨(rdA_row h.1 _).trans h.2, h.1⟩
def keepC (fl : Nat) (x : Nat × Int64) (S : List (Nat × Int64)) : List (Nat × Int64) := if S.any (fun y => decide (y.1 ≤ fl)) = true then S else x :: S
def GC (fl : Nat) (L : List (Nat × Int64)) : List (Nat × Int64) := L.foldr (keepC fl) []
theorem any_celL (L : List rT) (c : Nat) (p : Nat × Int64 → Bool) : (celL L c).any p = L.any (fun y => y.1 == c && p y.2) := by
  unfold celL
  rw [List.any_map, List.any_filter]
  rfl
theorem celL_GL (fl c : Nat) : ∀ L : List rT, celL (GL fl L []) c = GC fl (celL L c)
  | [] => rfl
  | x :: L => by
    have ih := celL_GL fl c L
    show celL (keepR fl x (GL fl L [])) c = _
    rw [celL_cons]
    by_cases e : x.1 = c
    · rw [if_pos e]
      show _ = keepC fl x.2 (GC fl (celL L c))
      rw [← ih]
      unfold keepR keepC
      rw [any_celL, ← e]
      split
      · rfl
      · rw [celL_cons, if_pos rfl]
    · rw [if_neg e, ← ih]
      unfold keepR
      split
      · rfl
      · rw [celL_cons, if_neg e]
theorem GL_sub (fl : Nat) : ∀ L : List rT, List.Sublist (GL fl L []) L
  | [] => List.Sublist.slnil
  | x :: L => by
    have ih := GL_sub fl L
    show List.Sublist (keepR fl x (GL fl L [])) (x :: L)
    unfold keepR
    split
    · exact ih.cons x
    · exact ih.cons_cons x
def dropF (fl : Nat) : List (Nat × Int64) → List (Nat × Int64)
  | [] => []
  | [x] => [x]
  | x :: y :: r => if y.1 ≤ fl then dropF fl (y :: r) else x :: y :: r
theorem dropF_head (fl : Nat) : ∀ (y : Nat × Int64) (r : List (Nat × Int64)), y.1 ≤ fl → ∃ z s, dropF fl (y :: r) = z :: s ∧ z.1 ≤ fl
  | y, [], h => ⟨y, [], rfl, h⟩
  | y, w :: r, h => by
    unfold dropF
    by_cases e : w.1 ≤ fl
    · rw [if_pos e]; exact dropF_head fl w r e
    · rw [if_neg e]; exact ⟨y, w :: r, rfl, h⟩
theorem dropF_stop (fl : Nat) (y : Nat × Int64) (r : List (Nat × Int64)) (hs : srtC (y :: r)) (h : ¬ y.1 ≤ fl) : dropF fl (y :: r) = y :: r := by
  cases r with
  | nil => rfl
  | cons w r =>
    have := (List.pairwise_cons.mp hs).1 w List.mem_cons_self
    unfold dropF
    rw [if_neg (by omega)]
theorem dropF_GC (fl : Nat) : ∀ L : List (Nat × Int64), srtC L → GC fl L = dropF fl L
  | [], _ => rfl
  | [x], _ => rfl
  | x :: y :: r, hs => by
    have hs2 : srtC (y :: r) := (List.pairwise_cons.mp hs).2
    have ih := dropF_GC fl (y :: r) hs2
    show keepC fl x (GC fl (y :: r)) = _
    rw [ih]
    unfold keepC
    rw [show dropF fl (x :: y :: r) = if y.1 ≤ fl then dropF fl (y :: r) else x :: y :: r from rfl]
    by_cases e : y.1 ≤ fl
    · obtain ⟨z, s, hz, hz2⟩ := dropF_head fl y r e
      rw [if_pos e, hz, List.any_cons, decide_eq_true hz2, Bool.true_or, if_pos rfl]
    · rw [if_neg e, dropF_stop fl y r hs2 e]
      have : (y :: r).any (fun w => decide (w.1 ≤ fl)) = false := by
        rw [List.any_eq_false]
        intro w hw
        rcases List.mem_cons.mp hw with rfl | hw
        · simpa using e
        · have := (List.pairwise_cons.mp hs2).1 w hw
          simp
          omega
      rw [this, if_neg (by decide)]
theorem dropF_last (fl : Nat) : ∀ L : List (Nat × Int64), (dropF fl L).getLast? = L.getLast?
  | [] => rfl
  | [x] => rfl
  | x :: y :: r => by
    rw [show dropF fl (x :: y :: r) = if y.1 ≤ fl then dropF fl (y :: r) else x :: y :: r from rfl]
    split
    · rw [dropF_last fl (y :: r), List.getLast?_cons_cons]
    · rfl
theorem dropF_vl {fl s : Nat} (h : fl ≤ s) : ∀ L : List (Nat × Int64), vl (dropF fl L) s = vl L s
  | [] => rfl
  | [x] => rfl
  | x :: y :: r => by
    rw [show dropF fl (x :: y :: r) = if y.1 ≤ fl then dropF fl (y :: r) else x :: y :: r from rfl]
    split
    · rename_i e
      rw [dropF_vl h (y :: r), vl_cons ⟨y, List.mem_cons_self, Nat.le_trans e h⟩]
    · rfl
/-! the reference's loops, by what they leave -/
def row (μ : qS) (c : Nat) : List (Nat × Int64) := mrow (qI μ 10) (qL μ 12) (520 * c) (qI μ 9 c)
theorem mshift_Z (c : Nat) : ∀ n v μ, qZ (mshift c n v μ) = qZ μ
  | 0, _, _ => rfl
  | n + 1, v, μ => mshift_Z c n (v + 1) _
theorem mshift_K (c : Nat) : ∀ n v μ, qK (mshift c n v μ) = qK μ
  | 0, _, _ => rfl
  | n + 1, v, μ => mshift_K c n (v + 1) _
theorem mshift_X (c : Nat) : ∀ n v μ, qX (mshift c n v μ) = qX μ
  | 0, _, _ => rfl
  | n + 1, v, μ => mshift_X c n (v + 1) _
theorem mshift_L (c : Nat) {k : Nat} (hk : k ≠ 12) : ∀ n v μ, qL (mshift c n v μ) k = qL μ k
  | 0, _, _ => rfl
  | n + 1, v, μ => by
    show qL (mshift c n (v + 1) _) k = _
    rw [mshift_L c hk n, sL_ne hk]; rfl
theorem mshift_10 (c : Nat) : ∀ n v μ j, qI (mshift c n v μ) 10 j = if 520 * c + v ≤ j ∧ j < 520 * c + v + n then qI μ 10 (j + 1) else qI μ 10 j
  | 0, v, μ, j => by rw [if_neg (by omega)]; rfl
  | n + 1, v, μ, j => by
    show qI (mshift c n (v + 1) _) 10 j = _
    rw [mshift_10 c n, qI_sL, sI_at]
    by_cases h1 : 520 * c + (v + 1) ≤ j ∧ j < 520 * c + (v + 1) + n
    · rw [if_pos h1, up_ne _ _ (by omega), if_pos (by omega)]
    · rw [if_neg h1]
      by_cases h2 : j = 520 * c + v
      · rw [h2, up_eq, if_pos (by omega)]
      · rw [up_ne _ _ h2, if_neg (by omega)]
theorem mshift_12 (c : Nat) : ∀ n v μ j, qL (mshift c n v μ) 12 j = if 520 * c + v ≤ j ∧ j < 520 * c + v + n then qL μ 12 (j + 1) else qL μ 12 j
  | 0, v, μ, j => by rw [if_neg (by omega)]; rfl
  | n + 1, v, μ, j => by
    show qL (mshift c n (v + 1) _) 12 j = _
    rw [mshift_12 c n, sL_at, qL_sI]
    by_cases h1 : 520 * c + (v + 1) ≤ j ∧ j < 520 * c + (v + 1) + n
    · rw [if_pos h1, up_ne _ _ (by omega), if_pos (by omega)]
    · rw [if_neg h1]
      by_cases h2 : j = 520 * c + v
      · rw [h2, up_eq, if_pos (by omega)]
      · rw [up_ne _ _ h2, if_neg (by omega)]
theorem mrow_cons (f : Nat → Nat) (g : Nat → Int64) (b n : Nat) : mrow f g b (n + 1) = (f b, g b) :: mrow f g (b + 1) n := by
  unfold mrow
  rw [List.range_succ_eq_map, List.map_cons, List.map_map]
  refine congrArg (List.cons (f b, g b)) (List.map_congr_left (fun q _ => ?_))
  show (f (b + (q + 1)), g (b + (q + 1))) = _
  rw [show b + (q + 1) = b + 1 + q by omega]
/-- nothing but the versions has changed -/
def SF (μ μ' : qS) : Prop := qX μ' = qX μ ∧ qK μ' = qK μ ∧ qZ μ' = qZ μ ∧ (∀ k, k ≠ 9 → k ≠ 10 → qI μ' k = qI μ k) ∧ (∀ k, k ≠ 12 → qL μ' k = qL μ k)
theorem SF.rf (μ : qS) : SF μ μ := ⟨rfl, rfl, rfl, fun _ _ _ => rfl, fun _ _ => rfl⟩
theorem SF.tr {a b c : qS} (h : SF a b) (k : SF b c) : SF a c := ⟨k.1.trans h.1, k.2.1.trans h.2.1, k.2.2.1.trans h.2.2.1, fun q h1 h2 => (k.2.2.2.1 q h1 h2).trans (h.2.2.2.1 q h1 h2), fun q h1 => (k.2.2.2.2 q h1).trans (h.2.2.2.2 q h1)⟩
theorem mwh_spec {fl c : Nat} : ∀ (n g : Nat) (μ : qS), qI μ 9 c = n + 1 → n + 1 ≤ 500 →
    row (mwh fl c n g μ).1 c = dropF fl (row μ c) ∧ (mwh fl c n g μ).2 + qI (mwh fl c n g μ).1 9 c = g + qI μ 9 c ∧ 1 ≤ qI (mwh fl c n g μ).1 9 c ∧ qI (mwh fl c n g μ).1 9 c ≤ 500 ∧
    (∀ j, j < 520 * c ∨ 520 * c + 520 ≤ j → qI (mwh fl c n g μ).1 10 j = qI μ 10 j ∧ qL (mwh fl c n g μ).1 12 j = qL μ 12 j) ∧ SF μ (mwh fl c n g μ).1
  | 0, g, μ, hv, h5 => by
    refine ⟨?_, rfl, by show 1 ≤ qI μ 9 c; omega, by show qI μ 9 c ≤ 500; omega, fun _ _ => ⟨rfl, rfl⟩, SF.rf μ⟩
    show row μ c = dropF fl (row μ c)
    unfold row
    rw [hv]
    rfl
  | n + 1, g, μ, hv, h5 => by
    have hr : row μ c = (qI μ 10 (520 * c), qL μ 12 (520 * c)) :: (qI μ 10 (520 * c + 1), qL μ 12 (520 * c + 1)) :: mrow (qI μ 10) (qL μ 12) (520 * c + 1 + 1) n := by
      unfold row
      rw [hv, mrow_cons, mrow_cons]
    by_cases hz : qI μ 10 (520 * c + 1) ≤ fl
    · rw [show mwh fl c (n + 1) g μ = mwh fl c n (g + 1) (mshift c (n + 1) 0 (sI μ 9 c (n + 1))) from if_pos hz]
      have e9 : qI (mshift c (n + 1) 0 (sI μ 9 c (n + 1))) 9 c = n + 1 := by rw [mshift_I c (by decide), sI_at, up_eq]
      have hrow : row (mshift c (n + 1) 0 (sI μ 9 c (n + 1))) c = mrow (qI μ 10) (qL μ 12) (520 * c + 1) (n + 1) := by
        unfold row
        rw [e9]
        refine List.map_congr_left (fun i hi => ?_)
        have hi' := List.mem_range.mp hi
        rw [mshift_10, mshift_12, if_pos (by omega), if_pos (by omega), sI_ne (by decide), qL_sI, show 520 * c + i + 1 = 520 * c + 1 + i by omega]
      obtain ⟨i1, i2, i3, i4, i5, i6⟩ := mwh_spec (fl := fl) (c := c) n (g + 1) _ e9 (by omega)
      refine ⟨?_, by omega, i3, i4, fun j hj => ?_, ?_⟩
      · rw [i1, hrow, hr, mrow_cons]
        show _ = (if qI μ 10 (520 * c + 1) ≤ fl then _ else _)
        rw [if_pos hz]
      · obtain ⟨a1, a2⟩ := i5 j hj
        rw [a1, a2, mshift_10, mshift_12, if_neg (by omega), if_neg (by omega), sI_ne (by decide), qL_sI]
        exact ⟨rfl, rfl⟩
      · refine SF.tr (b := mshift c (n + 1) 0 (sI μ 9 c (n + 1))) ⟨mshift_X c _ _ (sI μ 9 c (n + 1)), mshift_K c _ _ (sI μ 9 c (n + 1)), mshift_Z c _ _ (sI μ 9 c (n + 1)), fun k h1 h2 => ?_, fun k h1 => ?_⟩ i6
        · rw [mshift_I c h2, sI_ne h1]
        · rw [mshift_L c h1]; rfl
    · rw [show mwh fl c (n + 1) g μ = (μ, g) from if_neg hz]
      refine ⟨?_, rfl, by show 1 ≤ qI μ 9 c; omega, by show qI μ 9 c ≤ 500; omega, fun _ _ => ⟨rfl, rfl⟩, SF.rf μ⟩
      rw [hr]
      show _ = (if qI μ 10 (520 * c + 1) ≤ fl then _ else _)
      rw [if_neg hz]
theorem row_same {μ μ' : qS} {c : Nat} (h9 : qI μ' 9 c = qI μ 9 c) (hv : qI μ 9 c ≤ 520) (h : ∀ j, 520 * c ≤ j → j < 520 * c + 520 → qI μ' 10 j = qI μ 10 j ∧ qL μ' 12 j = qL μ 12 j) : row μ' c = row μ c := by
  unfold row
  rw [h9]
  exact mrow_congr (fun i hi => h (520 * c + i) (by omega) (by omega))
theorem mfor_spec {fl : Nat} : ∀ (n c : Nat) (p : qS × Nat), c + n = 16 → (∀ c', c' < 16 → 1 ≤ qI p.1 9 c' ∧ qI p.1 9 c' ≤ 500) →
    (∀ c', c' < 16 → row (mfor fl n c p).1 c' = if c ≤ c' then dropF fl (row p.1 c') else row p.1 c') ∧ (mfor fl n c p).2 + sumN (qI (mfor fl n c p).1 9) 16 = p.2 + sumN (qI p.1 9) 16 ∧ SF p.1 (mfor fl n c p).1
  | 0, c, p, hc, hv => ⟨fun c' h => by rw [if_neg (by omega)]; rfl, rfl, SF.rf _⟩
  | n + 1, c, p, hc, hv => by
    have hvc := hv c (by omega)
    obtain ⟨w1, w2, w3, w4, w5, w6⟩ := mwh_spec (fl := fl) (c := c) (qI p.1 9 c - 1) p.2 p.1 (by omega) (by omega)
    have w9 : ∀ c', c' ≠ c → qI (mwh fl c (qI p.1 9 c - 1) p.2 p.1).1 9 c' = qI p.1 9 c' := fun c' h => mwh_I fl c h _ _ _
    have hup : qI (mwh fl c (qI p.1 9 c - 1) p.2 p.1).1 9 = va_up (qI p.1 9) c (qI (mwh fl c (qI p.1 9 c - 1) p.2 p.1).1 9 c) := by
      funext q
      by_cases e : q = c
      · rw [e, up_eq]
      · rw [up_ne _ _ e, w9 q e]
    have hsum := sumN_up (qI p.1 9) (c := c) (qI (mwh fl c (qI p.1 9 c - 1) p.2 p.1).1 9 c) 16 (by omega)
    rw [← hup] at hsum
    show (∀ c', c' < 16 → row (mfor fl n (c + 1) (mwh fl c (qI p.1 9 c - 1) p.2 p.1)).1 c' = _) ∧ (mfor fl n (c + 1) (mwh fl c (qI p.1 9 c - 1) p.2 p.1)).2 + sumN (qI (mfor fl n (c + 1) (mwh fl c (qI p.1 9 c - 1) p.2 p.1)).1 9) 16 = _ ∧ SF p.1 (mfor fl n (c + 1) (mwh fl c (qI p.1 9 c - 1) p.2 p.1)).1
    have hv2 : ∀ c', c' < 16 → 1 ≤ qI (mwh fl c (qI p.1 9 c - 1) p.2 p.1).1 9 c' ∧ qI (mwh fl c (qI p.1 9 c - 1) p.2 p.1).1 9 c' ≤ 500 := by
      intro c' h
      by_cases e : c' = c
      · rw [e]; exact ⟨w3, w4⟩
      · rw [w9 c' e]; exact hv c' h
    obtain ⟨i1, i2, i3⟩ := mfor_spec (fl := fl) n (c + 1) (mwh fl c (qI p.1 9 c - 1) p.2 p.1) (by omega) hv2
    have hrow : ∀ c', c' < 16 → c' ≠ c → row (mwh fl c (qI p.1 9 c - 1) p.2 p.1).1 c' = row p.1 c' := fun c' h e =>
      row_same (w9 c' e) (by have := hv c' h; omega) (fun j h1 h2 => w5 j (by omega))
    refine ⟨fun c' h => ?_, by omega, w6.tr i3⟩
    rw [i1 c' h]
    by_cases e : c' = c
    · rw [if_neg (by omega), if_pos (by omega), e]; exact w1
    · by_cases e2 : c ≤ c'
      · rw [if_pos (by omega), if_pos e2, hrow c' h e]
      · rw [if_neg (by omega), if_neg e2, hrow c' h e]
/-! clear, begin, pop: the cells after them -/
theorem mclr_3 (a : Nat) : ∀ n c μ j, qZ (mclr a n c μ) 3 j = if a + c ≤ j ∧ j < a + c + n then false else qZ μ 3 j
  | 0, c, μ, j => by rw [if_neg (by omega)]; rfl
  | n + 1, c, μ, j => by
    show qZ (mclr a n (c + 1) _) 3 j = _
    rw [mclr_3 a n, sZ_at]
    by_cases h1 : a + (c + 1) ≤ j ∧ j < a + (c + 1) + n
    · rw [if_pos h1, if_pos (by omega)]
    · rw [if_neg h1]
      by_cases h2 : j = a + c
      · rw [h2, up_eq, if_pos (by omega)]
      · rw [up_ne _ _ h2, if_neg (by omega)]
theorem mclr_Z (a : Nat) {k : Nat} (hk : k ≠ 3) : ∀ n c μ, qZ (mclr a n c μ) k = qZ μ k
  | 0, _, _ => rfl
  | n + 1, c, μ => by
    show qZ (mclr a n (c + 1) _) k = _
    rw [mclr_Z a hk n, sZ_ne hk]
theorem mclr_K (a : Nat) : ∀ n c μ, qK (mclr a n c μ) = qK μ
  | 0, _, _ => rfl
  | n + 1, c, μ => mclr_K a n (c + 1) _
theorem mclr_X (a : Nat) : ∀ n c μ, qX (mclr a n c μ) = qX μ
  | 0, _, _ => rfl
  | n + 1, c, μ => mclr_X a n (c + 1) _
theorem mbeg_I (t : Nat) : ∀ n c μ, qI (mbeg t n c μ) = qI μ
  | 0, _, _ => rfl
  | n + 1, c, μ => mbeg_I t n (c + 1) _
theorem mbeg_K (t : Nat) : ∀ n c μ, qK (mbeg t n c μ) = qK μ
  | 0, _, _ => rfl
  | n + 1, c, μ => mbeg_K t n (c + 1) _
theorem mbeg_X (t : Nat) : ∀ n c μ, qX (mbeg t n c μ) = qX μ
  | 0, _, _ => rfl
  | n + 1, c, μ => mbeg_X t n (c + 1) _
theorem mbeg_Z (t : Nat) {k : Nat} (hk : k ≠ 2) : ∀ n c μ, qZ (mbeg t n c μ) k = qZ μ k
  | 0, _, _ => rfl
  | n + 1, c, μ => by
    show qZ (mbeg t n (c + 1) _) k = _
    rw [mbeg_Z t hk n, qZ_sL, sZ_ne hk]
theorem mbeg_L (t : Nat) {k : Nat} (hk : k ≠ 7) : ∀ n c μ, qL (mbeg t n c μ) k = qL μ k
  | 0, _, _ => rfl
  | n + 1, c, μ => by
    show qL (mbeg t n (c + 1) _) k = _
    rw [mbeg_L t hk n, sL_ne hk, qL_sZ]
theorem mbeg_2 (t : Nat) : ∀ n c μ j, qZ (mbeg t n c μ) 2 j = if 16 * t + c ≤ j ∧ j < 16 * t + c + n then false else qZ μ 2 j
  | 0, c, μ, j => by rw [if_neg (by omega)]; rfl
  | n + 1, c, μ, j => by
    show qZ (mbeg t n (c + 1) _) 2 j = _
    rw [mbeg_2 t n, qZ_sL, sZ_at]
    by_cases h1 : 16 * t + (c + 1) ≤ j ∧ j < 16 * t + (c + 1) + n
    · rw [if_pos h1, if_pos (by omega)]
    · rw [if_neg h1]
      by_cases h2 : j = 16 * t + c
      · rw [h2, up_eq, if_pos (by omega)]
      · rw [up_ne _ _ h2, if_neg (by omega)]
theorem mbeg_7 (t : Nat) : ∀ n c μ j, qL (mbeg t n c μ) 7 j = if 16 * t + c ≤ j ∧ j < 16 * t + c + n then mnow μ (j - 16 * t) else qL μ 7 j
  | 0, c, μ, j => by rw [if_neg (by omega)]; rfl
  | n + 1, c, μ, j => by
    show qL (mbeg t n (c + 1) _) 7 j = _
    have e : ∀ x, mnow (sL (sZ μ 2 (16 * t + c) false) 7 (16 * t + c) (mnow μ c)) x = mnow μ x := fun x => by
      unfold mnow; rw [sL_ne (by decide), qI_sL]; rfl
    rw [mbeg_7 t n, e, sL_at]
    by_cases h1 : 16 * t + (c + 1) ≤ j ∧ j < 16 * t + (c + 1) + n
    · rw [if_pos h1, if_pos (by omega)]
    · rw [if_neg h1]
      by_cases h2 : j = 16 * t + c
      · rw [h2, up_eq, if_pos (by omega), show 16 * t + c - 16 * t = c by omega]
      · rw [up_ne _ _ h2, if_neg (by omega)]; rfl
theorem mdown_I (a : Nat) : ∀ n c μ, qI (mdown a n c μ) = qI μ
  | 0, _, _ => rfl
  | n + 1, c, μ => by
    show qI (mdown a n (c + 1) _) = _
    rw [mdown_I a n]
    split <;> rfl
theorem mdown_K (a : Nat) : ∀ n c μ, qK (mdown a n c μ) = qK μ
  | 0, _, _ => rfl
  | n + 1, c, μ => by
    show qK (mdown a n (c + 1) _) = _
    rw [mdown_K a n]
    split <;> rfl
theorem mdown_X (a : Nat) : ∀ n c μ, qX (mdown a n c μ) = qX μ
  | 0, _, _ => rfl
  | n + 1, c, μ => by
    show qX (mdown a n (c + 1) _) = _
    rw [mdown_X a n]
    split <;> rfl
theorem mdown_Z (a : Nat) {k : Nat} (hk : k ≠ 3) : ∀ n c μ, qZ (mdown a n c μ) k = qZ μ k
  | 0, _, _ => rfl
  | n + 1, c, μ => by
    show qZ (mdown a n (c + 1) _) k = _
    rw [mdown_Z a hk n]
    split
    · rw [qZ_sL, sZ_ne hk]
    · rfl
theorem mdown_L (a : Nat) {k : Nat} (hk : k ≠ 8) : ∀ n c μ, qL (mdown a n c μ) k = qL μ k
  | 0, _, _ => rfl
  | n + 1, c, μ => by
    show qL (mdown a n (c + 1) _) k = _
    rw [mdown_L a hk n]
    split
    · rw [sL_ne hk, qL_sZ]
    · rfl
theorem mdown_miss {a : Nat} (ha : 16 ≤ a) : ∀ n c μ j, c + n ≤ 16 → ¬ (a - 16 + c ≤ j ∧ j < a - 16 + c + n ∧ qZ μ 3 (j + 16) = true) → qZ (mdown a n c μ) 3 j = qZ μ 3 j ∧ qL (mdown a n c μ) 8 j = qL μ 8 j
  | 0, c, μ, j, _, _ => ⟨rfl, rfl⟩
  | n + 1, c, μ, j, hn, hm => by
    show qZ (mdown a n (c + 1) _) 3 j = _ ∧ qL (mdown a n (c + 1) _) 8 j = _
    by_cases hz : qZ μ 3 (a + c) = true
    · have hj : j ≠ a + c - 16 := by
        intro e
        apply hm
        rw [e, show a + c - 16 + 16 = a + c by omega]
        exact ⟨by omega, by omega, hz⟩
      rw [if_pos hz]
      have ih := mdown_miss ha n (c + 1) (sL (sZ μ 3 (a + c - 16) true) 8 (a + c - 16) (qL μ 8 (a + c))) j (by omega) (fun q => by
        have q3 := q.2.2
        rw [qZ_sL, sZ_at, up_ne _ _ (show j + 16 ≠ a + c - 16 by omega)] at q3
        exact hm ⟨by omega, by omega, q3⟩)
      rw [ih.1, ih.2, qZ_sL, sZ_at, sL_at, up_ne _ _ hj, up_ne _ _ hj]
      exact ⟨rfl, rfl⟩
    · rw [if_neg hz]
      exact mdown_miss ha n (c + 1) μ j (by omega) (fun q => hm ⟨by omega, by omega, q.2.2⟩)
theorem mdown_hit {a : Nat} (ha : 16 ≤ a) : ∀ n c μ j, c + n ≤ 16 → a - 16 + c ≤ j → j < a - 16 + c + n → qZ μ 3 (j + 16) = true → qZ (mdown a n c μ) 3 j = true ∧ qL (mdown a n c μ) 8 j = qL μ 8 (j + 16)
  | 0, c, μ, j, _, h1, h2, _ => absurd h2 (by omega)
  | n + 1, c, μ, j, hn, h1, h2, h3 => by
    show qZ (mdown a n (c + 1) _) 3 j = _ ∧ qL (mdown a n (c + 1) _) 8 j = _
    by_cases hj : j = a + c - 16
    · have e : j + 16 = a + c := by omega
      rw [e] at h3
      rw [if_pos h3]
      have ih := mdown_miss ha n (c + 1) (sL (sZ μ 3 (a + c - 16) true) 8 (a + c - 16) (qL μ 8 (a + c))) j (by omega) (fun q => by omega)
      rw [ih.1, ih.2, qZ_sL, sZ_at, sL_at, hj, up_eq, up_eq, show a + c - 16 + 16 = a + c by omega]
      exact ⟨rfl, rfl⟩
    · by_cases hz : qZ μ 3 (a + c) = true
      · rw [if_pos hz]
        have ih := mdown_hit ha n (c + 1) (sL (sZ μ 3 (a + c - 16) true) 8 (a + c - 16) (qL μ 8 (a + c))) j (by omega) (by omega) (by omega) (by rw [qZ_sL, sZ_at, up_ne _ _ (show j + 16 ≠ a + c - 16 by omega)]; exact h3)
        rw [ih.1, ih.2, sL_at, up_ne _ _ (show j + 16 ≠ a + c - 16 by omega)]
        exact ⟨rfl, rfl⟩
      · rw [if_neg hz]
        exact mdown_hit ha n (c + 1) μ j (by omega) (by omega) (by omega) h3
end
section
/-! How the two states hang together -/
def TR (σ : vS) (μ : qS) (t : Nat) : Prop :=
  qI μ 4 t = (sT σ t).2.1 ∧ qI μ 5 t = (sT σ t).2.2.1 ∧ qI μ 6 t = (sT σ t).2.2.2.1 ∧
  (∀ c, c < 16 → qZ μ 2 (16 * t + c) = bt (sT σ t).2.2.2.2 c) ∧
  (∀ l c, l < (sT σ t).2.2.2.1 → c < 16 → qZ μ 3 ((8 * t + l) * 16 + c) = bt (sW σ t l) c ∧ (bt (sW σ t l) c = true → qL μ 8 ((8 * t + l) * 16 + c) = sR σ t l c)) ∧
  (∀ c, c < 16 → vl (celL (rowL (sA σ) (sN σ)) c) (sT σ t).2.1 = some (qL μ 7 (16 * t + c)))
def CR (σ : vS) (μ : qS) : Prop := srt (rowL (sA σ) (sN σ)) ∧ ∀ c, c < 16 → row μ c = celL (rowL (sA σ) (sN σ)) c ∧ ((row μ c).getLast?).map (fun r => r.1) = some (qI μ 11 c)
def Rel (σ : vS) (μ : qS) : Prop := qK μ = sK σ ∧ (∀ t, t < 16 → qZ μ 1 t = (sT σ t).1) ∧ (∀ t, t < 16 → (sT σ t).1 = true → TR σ μ t) ∧ CR σ μ ∧ (∀ j, qI μ 10 j ≤ 100000)
def INV (σ : vS) (μ : qS) : Prop := VI σ ∧ Rel σ μ
theorem m16_hi {x : Int32} (hx : m16 x) {i : Nat} (hi : 16 ≤ i) : bt x i = false := by
  obtain ⟨k, hk, rfl⟩ := hx
  have := congrArg (fun z => bt z i) (nx_m16 hk)
  simp only [b_and, b_65535] at this
  rw [decide_eq_false (by omega), Bool.and_false] at this
  exact this.symm
theorem b_zero {x : Int32} (h : ∀ i, i < 32 → bt x i = false) : x = 0 := b_ext (fun i hi => by rw [h i hi, b_0])
theorem bt_ne {x : Int32} {c : Nat} (hc : c < 16) : ¬ (x &&& xbit c = 0) ↔ bt x c = true := by
  rw [xbit_bt hc]
  cases bt x c <;> simp
theorem mhi_hiW {W : Nat → Bool} {f : Nat → Int32} {t c : Nat} (hc : c < 16) : ∀ n, (∀ l, l < n → W ((8 * t + l) * 16 + c) = bt (f l) c) → mhi W t c n = hiW f c n
  | 0, _ => rfl
  | n + 1, h => by
    have ih := mhi_hiW (W := W) (f := f) (t := t) hc n (fun l hl => h l (by omega))
    have hn := h n (by omega)
    unfold mhi hiW
    by_cases e : f n &&& xbit c = 0
    · rw [if_pos e, if_neg (by rw [hn, (xbit_bt hc).mp e]; decide), ih]
    · rw [if_neg e, if_pos (by rw [hn]; exact (bt_ne hc).mp e)]
theorem hiW_bit {f : Nat → Int32} {c : Nat} (hc : c < 16) : ∀ n, hiW f c n ≠ 0 → bt (f (hiW f c n - 1)) c = true ∧ hiW f c n - 1 < n
  | 0, h => absurd rfl h
  | n + 1, h => by
    unfold hiW at h ⊢
    by_cases e : f n &&& xbit c = 0
    · rw [if_pos e] at h ⊢
      have := hiW_bit hc n h
      exact ⟨this.1, by omega⟩
    · rw [if_neg e]
      exact ⟨(bt_ne hc).mp e, by omega⟩
section
variable {σ : vS} {μ : qS}
theorem INV.rows (I : INV σ μ) : ∀ r ∈ rowL (sA σ) (sN σ), r.1 < 16 ∧ r.2.1 ≤ sK σ := by
  intro r hr
  obtain ⟨i, hi, rfl⟩ := rowL_mem.mp hr
  exact I.1.2.2.2.1 i hi
theorem INV.cells (I : INV σ μ) {c : Nat} : ∀ x ∈ celL (rowL (sA σ) (sN σ)) c, x.1 ≤ sK σ := fun x hx => (I.rows _ (celL_mem.mp hx)).2
theorem INV.ver (I : INV σ μ) {c : Nat} (hc : c < 16) : qI μ 9 c = (celL (rowL (sA σ) (sN σ)) c).length := by
  rw [← (I.2.2.2.2.1.2 c hc).1]
  unfold row
  rw [mrow_len]
theorem INV.ver1 (I : INV σ μ) {c : Nat} (hc : c < 16) : 1 ≤ qI μ 9 c := by
  have h := (I.2.2.2.2.1.2 c hc).2
  unfold row at h
  cases hn : qI μ 9 c with
  | zero => rw [hn] at h; cases h
  | succ n => omega
theorem INV.ver5 (I : INV σ μ) {c : Nat} (hc : c < 16) : qI μ 9 c ≤ 500 := by
  rw [I.ver hc]
  have h1 : (celL (rowL (sA σ) (sN σ)) c).length ≤ (rowL (sA σ) (sN σ)).length := by
    unfold celL
    rw [List.length_map]
    exact List.length_filter_le _ _
  rw [rowL_len] at h1
  have := I.1.2.2.1
  omega
theorem INV.sum (I : INV σ μ) : sumN (qI μ 9) 16 = sN σ := by
  rw [sumN_congr 16 (fun c hc => I.ver hc), sum_celL _ (fun r hr => (I.rows r hr).1), rowL_len]
theorem INV.clk (I : INV σ μ) : sK σ ≤ 100000 := I.1.1
theorem INV.K (I : INV σ μ) : qK μ = sK σ := I.2.1
theorem INV.last (I : INV σ μ) {c : Nat} (hc : c < 16) : qI μ 11 c ≤ sK σ := by
  obtain ⟨h1, h2⟩ := I.2.2.2.2.1.2 c hc
  cases hz : (row μ c).getLast? with
  | none => rw [hz] at h2; cases h2
  | some z =>
    rw [hz] at h2
    have e : z.1 = qI μ 11 c := Option.some.inj h2
    rw [← e]
    have := List.mem_of_getLast? hz
    rw [h1] at this
    exact I.cells z this
theorem INV.badE (I : INV σ μ) {t : Int32} (h : bad σ t) : qbad μ t := fun j hj e => by rw [I.2.2.1 j hj]; exact h j hj e
theorem INV.opn (I : INV σ μ) {t : Nat} (ht : t < 16) (ho : (sT σ t).1 = true) : qZ μ 1 t = true := by rw [I.2.2.1 t ht]; exact ho
theorem INV.T (I : INV σ μ) {t : Nat} (ht : t < 16) (ho : (sT σ t).1 = true) : TR σ μ t := I.2.2.2.1 t ht ho
theorem INV.lay (I : INV σ μ) {t : Nat} (ht : t < 16) (ho : (sT σ t).1 = true) : 1 ≤ qI μ 6 t ∧ qI μ 6 t ≤ 8 := by
  rw [(I.T ht ho).2.2.1]
  exact (I.1.2.1 t ht).2.2
theorem INV.st (I : INV σ μ) {t : Nat} (ht : t < 16) (ho : (sT σ t).1 = true) : qI μ 4 t < 2 ^ 31 := by
  rw [(I.T ht ho).1]
  have := (I.1.2.1 t ht).1
  have := I.clk
  omega
theorem INV.kd (I : INV σ μ) {t : Nat} (ht : t < 16) (ho : (sT σ t).1 = true) : qI μ 5 t < 2 ^ 31 := by
  rw [(I.T ht ho).2.1]
  have := (I.1.2.1 t ht).2.1
  omega
theorem INV.la (I : INV σ μ) : ∀ c, c < 16 → qI μ 11 c < 2 ^ 31 := fun c hc => by
  have := I.last hc
  have := I.clk
  omega
theorem INV.at (I : INV σ μ) : ∀ j, qI μ 10 j < 2 ^ 31 := fun j => by
  have := I.2.2.2.2.2 j
  omega
theorem INV.sts (I : INV σ μ) : ∀ t, t < 16 → qZ μ 1 t = true → qI μ 4 t < 2 ^ 31 := fun t ht h => I.st ht (by rw [← I.2.2.1 t ht]; exact h)
theorem INV.lo (I : INV σ μ) {t c : Nat} (ht : t < 16) (ho : (sT σ t).1 = true) (hc : c < 16) : mlo μ t c = hiW (sW σ t) c (sT σ t).2.2.2.1 := by
  unfold mlo
  rw [(I.T ht ho).2.2.1]
  exact mhi_hiW hc _ (fun l hl => ((I.T ht ho).2.2.2.2.1 l c hl hc).1)
theorem INV.began (I : INV σ μ) {t c : Nat} (ht : t < 16) (ho : (sT σ t).1 = true) (hc : c < 16) : vix (sA σ) c (sT σ t).2.1 (sN σ) ≠ 0 ∧ (sA σ).2.2 (vix (sA σ) c (sT σ t).2.1 (sN σ) - 1) = qL μ 7 (16 * t + c) := by
  have h := (I.T ht ho).2.2.2.2.2 c hc
  rw [vix_vl] at h
  by_cases e : vix (sA σ) c (sT σ t).2.1 (sN σ) = 0
  · rw [if_pos e] at h; cases h
  · rw [if_neg e] at h
    exact ⟨e, Option.some.inj h⟩
theorem INV.rd (I : INV σ μ) {t c : Nat} (ht : t < 16) (ho : (sT σ t).1 = true) (hc : c < 16) : mrd μ t c = rdV σ t c := by
  unfold mrd rdV
  rw [I.lo ht ho hc]
  by_cases e : hiW (sW σ t) c (sT σ t).2.2.2.1 = 0
  · obtain ⟨h1, h2⟩ := I.began ht ho hc
    rw [if_pos e, if_pos e, if_neg h1, h2]
  · obtain ⟨h1, h2⟩ := hiW_bit hc _ e
    rw [if_neg e, if_neg e]
    exact ((I.T ht ho).2.2.2.2.1 _ c h2 hc).2 h1
theorem INV.wr (I : INV σ μ) {t c : Nat} (ht : t < 16) (ho : (sT σ t).1 = true) (hc : c < 16) : decide (mlo μ t c ≠ 0) = bt (wrV σ t) c := by
  rw [I.lo ht ho hc]
  unfold wrV
  have h := orW_hiW (sW σ t) hc (sT σ t).2.2.2.1
  rw [xbit_bt hc] at h
  cases hb : bt (orW (sW σ t) (sT σ t).2.2.2.1) c
  · exact decide_eq_false (fun q => q (h.mp hb))
  · refine decide_eq_true (fun q => ?_)
    rw [h.mpr q] at hb
    cases hb
theorem INV.he (I : INV σ μ) {t c : Nat} (ht : t < 16) (ho : (sT σ t).1 = true) (hc : c < 16) : (decide (mlo μ t c ≠ 0) || (decide (qI μ 5 t = 1) && qZ μ 2 (16 * t + c))) = bt (heV σ t) c := by
  rw [I.wr ht ho hc, (I.T ht ho).2.1, (I.T ht ho).2.2.2.1 c hc]
  unfold heV
  by_cases e : (sT σ t).2.2.1 = 1
  · rw [if_pos e, b_or, decide_eq_true e, Bool.true_and]
  · rw [if_neg e, decide_eq_false e, Bool.false_and, Bool.or_false]
theorem INV.wa (I : INV σ μ) {k c : Nat} (hc : c < 16) : bt (vwa (sA σ) k (sN σ) 0) c = decide (k < qI μ 11 c) := by
  obtain ⟨h1, h2⟩ := I.2.2.2.2.1.2 c hc
  rw [vwa_bt hc _ _ (fun i hi => (I.1.2.2.2.1 i hi).1) I.2.2.2.2.1.1, b_0, Bool.false_or]
  refine any_last (srt_celL I.2.2.2.2.1.1 c) ?_
  rw [← h1]
  exact h2
theorem INV.sp (I : INV σ μ) {t c : Nat} (ht : t < 16) (ho : (sT σ t).1 = true) (hc : c < 16) : msp μ t c = bt (spV σ t) c := by
  unfold msp spV
  rw [I.he ht ho hc, b_and, I.wa hc, (I.T ht ho).1, Bool.and_comm]
theorem INV.wrn (I : INV σ μ) {t : Nat} (ht : t < 16) (ho : (sT σ t).1 = true) : mwr μ t = pcn (wrV σ t) 16 := by
  unfold mwr
  rw [bt_pcn _ _ (Nat.le_refl _)]
  exact cnt_congr 16 (fun c hc => I.wr ht ho hc)
theorem INV.spn (I : INV σ μ) {t : Nat} (ht : t < 16) (ho : (sT σ t).1 = true) : msc μ t = pcn (spV σ t) 16 := by
  unfold msc
  rw [bt_pcn _ _ (Nat.le_refl _)]
  exact cnt_congr 16 (fun c hc => I.sp ht ho hc)
theorem pcn_0 {x : Int32} (hx : m16 x) : pcn x 16 = 0 ↔ x = 0 := by
  rw [bt_pcn _ _ (Nat.le_refl _), cnt_zero]
  exact ⟨fun h => m16_zero hx h, fun h c _ => by rw [h, b_0]⟩
theorem INV.sp0 (I : INV σ μ) {t : Nat} (ht : t < 16) (ho : (sT σ t).1 = true) : msc μ t = 0 ↔ spV σ t = 0 := by
  rw [I.spn ht ho, pcn_0 (spV_m16 I.1 ht)]
theorem INV.wr0 (I : INV σ μ) {t : Nat} (ht : t < 16) (ho : (sT σ t).1 = true) : mwr μ t = 0 ↔ wrV σ t = 0 := by
  rw [I.wrn ht ho, pcn_0 (wrV_m16 I.1 ht)]
theorem INV.sen (I : INV σ μ) {t : Nat} (ht : t < 16) (ho : (sT σ t).1 = true) : cnt (fun c => qZ μ 2 (16 * t + c)) 16 = pcn (sT σ t).2.2.2.2 16 := by
  rw [bt_pcn _ _ (Nat.le_refl _)]
  exact cnt_congr 16 (fun c hc => (I.T ht ho).2.2.2.1 c hc)
theorem INV.ab (I : INV σ μ) {t x : Nat} (ht : t < 16) (ho : (sT σ t).1 = true) (hx : x ≤ 5) : mab μ t x = abV σ t x := by
  rcases (show x = 0 ∨ x = 1 ∨ x = 2 ∨ x = 3 ∨ x = 4 ∨ x = 5 by omega) with rfl | rfl | rfl | rfl | rfl | rfl
  · exact (I.T ht ho).1
  · exact (I.T ht ho).2.1
  · exact (I.T ht ho).2.2.1
  · exact I.wrn ht ho
  · exact I.sen ht ho
  · exact I.spn ht ho
theorem anyF_true {p : Nat → Bool} : ∀ n c, anyF p n c = true ↔ ∃ q, c ≤ q ∧ q < c + n ∧ p q = true
  | 0, c => ⟨fun h => Bool.noConfusion h, fun ⟨q, h1, h2, _⟩ => absurd h2 (by omega)⟩
  | n + 1, c => by
    unfold anyF
    rw [Bool.or_eq_true, anyF_true n (c + 1)]
    constructor
    · rintro (h | ⟨q, h1, h2, h3⟩)
      · exact ⟨c, Nat.le_refl _, by omega, h⟩
      · exact ⟨q, by omega, by omega, h3⟩
    · rintro ⟨q, h1, h2, h3⟩
      by_cases e : q = c
      · left; rw [← e]; exact h3
      · right; exact ⟨q, by omega, by omega, h3⟩
theorem INV.me (I : INV σ μ) {s t : Nat} (hs : s < 16) (hso : (sT σ s).1 = true) (ht : t < 16) (ho : (sT σ t).1 = true) : anyF (mme μ s t) 16 0 = decide (meV σ s t ≠ 0) := by
  have key : ∀ c, c < 16 → mme μ s t c = bt (meV σ s t) c := by
    intro c hc
    unfold mme meV
    rw [I.wr hs hso hc, I.he ht ho hc, I.sp ht ho hc, b_and, b_and, b_xor, b_m1 c (by omega)]
    cases bt (wrV σ s) c <;> cases bt (spV σ t) c <;> cases bt (heV σ t) c <;> rfl
  by_cases e : meV σ s t = 0
  · rw [decide_eq_false (fun q => q e)]
    cases h : anyF (mme μ s t) 16 0
    · rfl
    · obtain ⟨q, _, h2, h3⟩ := (anyF_true 16 0).mp h
      rw [key q (by omega), e, b_0] at h3
      cases h3
  · rw [decide_eq_true e]
    refine (anyF_true 16 0).mpr ?_
    cases Classical.em (∃ q, q < 16 ∧ mme μ s t q = true) with
    | inl h =>
      obtain ⟨q, h1, h2⟩ := h
      exact ⟨q, Nat.zero_le _, by omega, h2⟩
    | inr h =>
      exfalso
      apply e
      apply b_zero
      intro i _
      by_cases hi : i < 16
      · rw [← key i hi]
        cases hm : mme μ s t i
        · rfl
        · exact absurd ⟨i, hi, hm⟩ h
      · unfold meV
        rw [b_and, b_and, m16_hi (wrV_m16 I.1 hs) (by omega)]
        rfl
theorem INV.floE (I : INV σ μ) : ∀ t, t ≤ 16 → mflo μ t = flo (sK σ) (sT σ) t
  | 0, _ => I.2.1
  | t + 1, h => by
    have ih := I.floE t (by omega)
    show (if qZ μ 1 t = true then min (mflo μ t) (qI μ 4 t) else mflo μ t) = (if (sT σ t).1 = true then min (flo (sK σ) (sT σ) t) (sT σ t).2.1 else flo (sK σ) (sT σ) t)
    rw [ih, I.2.2.1 t (by omega)]
    by_cases e : (sT σ t).1 = true
    · rw [if_pos e, if_pos e, (I.T (by omega) e).1]
    · rw [if_neg e, if_neg e]
theorem INV.hmoE (I : INV σ μ) : ∀ t, t ≤ 16 → cnt (qZ μ 1) t = hmo (sT σ) t
  | 0, _ => rfl
  | t + 1, h => by
    have ih := I.hmoE t (by omega)
    show (if qZ μ 1 t = true then cnt (qZ μ 1) t + 1 else cnt (qZ μ 1) t) = _
    rw [ih, I.2.2.1 t (by omega)]
    rfl
theorem INV.lno (I : INV σ μ) : ∀ n t, t + n = 16 → mlno (qZ μ 1) n t = lnoF (sT σ) n t
  | 0, _, _ => rfl
  | n + 1, t, h => by
    have ih := I.lno n (t + 1) (by omega)
    show (if qZ μ 1 t = true then mlno (qZ μ 1) n (t + 1) else t) = _
    rw [ih, I.2.2.1 t (by omega)]
    rfl
theorem INV.co (I : INV σ μ) {x : Nat} (hx : x ≤ 3) : mco μ x = coV σ x := by
  rcases (show x = 0 ∨ x = 1 ∨ x = 2 ∨ x = 3 by omega) with rfl | rfl | rfl | rfl
  · exact I.2.1
  · exact I.hmoE 16 (Nat.le_refl _)
  · exact I.sum
  · exact I.floE 16 (Nat.le_refl _)
theorem INV.pastE (I : INV σ μ) {c k : Nat} (hc : c < 16) : (k < qI μ 10 (520 * c) → vix (sA σ) c k (sN σ) = 0) ∧ (qI μ 10 (520 * c) ≤ k → vix (sA σ) c k (sN σ) ≠ 0 ∧ (sA σ).2.2 (vix (sA σ) c k (sN σ) - 1) = qL μ 12 (520 * c + mpv (fun v => qI μ 10 (520 * c + v)) k (qI μ 9 c - 1) 0)) := by
  obtain ⟨h1, h2⟩ := I.2.2.2.2.1.2 c hc
  have hs := srt_celL I.2.2.2.2.1.1 c
  have hv := vix_vl (sA σ) c k (sN σ)
  have hv1 := I.ver1 hc
  rw [← h1] at hs hv
  constructor
  · intro h
    unfold row at hv hs
    rw [mrow_vl0 hs h] at hv
    by_cases e : vix (sA σ) c k (sN σ) = 0
    · exact e
    · rw [if_neg e] at hv; cases hv
  · intro h
    obtain ⟨p1, p2, p3, p4⟩ := mpv_at (f := fun v => qI μ 10 (520 * c + v)) (k := k) (qI μ 9 c - 1) 0 h
    unfold row at hv hs
    rw [mrow_vl (j := mpv (fun v => qI μ 10 (520 * c + v)) k (qI μ 9 c - 1) 0) _ hs (by omega) p3 (fun q => p4 (by omega))] at hv
    by_cases e : vix (sA σ) c k (sN σ) = 0
    · rw [if_pos e] at hv; cases hv
    · rw [if_neg e] at hv
      exact ⟨e, (Option.some.inj hv).symm⟩
end
end
section
/-! Each operation keeps the two states together -/
section
variable {σ σ' : vS} {μ μ' : qS} {t : Nat}
theorem INV.x (I : INV σ μ) (x : Nat) : INV σ (sX μ x) := I
theorem VI_upd (I : VI σ) (hK : sK σ' = sK σ) (hN : sN σ' = sN σ) (hA : sA σ' = sA σ) (ho : ∀ u, u < 16 → u ≠ t → sT σ' u = sT σ u ∧ sW σ' u = sW σ u) (h1 : (sT σ' t).2.1 ≤ sK σ) (h2 : (sT σ' t).2.2.1 < 2) (h3 : 1 ≤ (sT σ' t).2.2.2.1 ∧ (sT σ' t).2.2.2.1 ≤ 8) (h4 : m16 (sT σ' t).2.2.2.2) (h5 : ∀ l, l < 8 → m16 (sW σ' t l)) : VI σ' := by
  refine ⟨by rw [hK]; exact I.1, fun u hu => ?_, by rw [hN]; exact I.2.2.1, by rw [hN, hA, hK]; exact I.2.2.2.1, fun u hu => ?_, fun u l hu hl => ?_⟩
  · by_cases e : u = t
    · subst e; rw [hK]; exact ⟨h1, h2, h3⟩
    · rw [(ho u hu e).1, hK]; exact I.2.1 u hu
  · by_cases e : u = t
    · subst e; exact h4
    · rw [(ho u hu e).1]; exact I.2.2.2.2.1 u hu
  · by_cases e : u = t
    · subst e; exact h5 l hl
    · rw [(ho u hu e).2]; exact I.2.2.2.2.2 u l hu hl
/-- nothing of the transaction u has changed -/
def TS (σ σ' : vS) (μ μ' : qS) (u : Nat) : Prop := sT σ' u = sT σ u ∧ sW σ' u = sW σ u ∧ sR σ' u = sR σ u ∧ qZ μ' 1 u = qZ μ 1 u ∧ qI μ' 4 u = qI μ 4 u ∧ qI μ' 5 u = qI μ 5 u ∧ qI μ' 6 u = qI μ 6 u ∧
  (∀ c, c < 16 → qZ μ' 2 (16 * u + c) = qZ μ 2 (16 * u + c) ∧ qL μ' 7 (16 * u + c) = qL μ 7 (16 * u + c)) ∧ (∀ l c, l < 8 → c < 16 → qZ μ' 3 ((8 * u + l) * 16 + c) = qZ μ 3 ((8 * u + l) * 16 + c) ∧ qL μ' 8 ((8 * u + l) * 16 + c) = qL μ 8 ((8 * u + l) * 16 + c))
theorem TS.TR {u : Nat} (h : TS σ σ' μ μ' u) (hl : (sT σ u).2.2.2.1 ≤ 8) (hv : ∀ c, c < 16 → vl (celL (rowL (sA σ') (sN σ')) c) (sT σ u).2.1 = vl (celL (rowL (sA σ) (sN σ)) c) (sT σ u).2.1) (T : TR σ μ u) : TR σ' μ' u := by
  obtain ⟨s1, s2, s3, s4, s5, s6, s7, s8, s9⟩ := h
  obtain ⟨t1, t2, t3, t4, t5, t6⟩ := T
  refine ⟨by rw [s1, s5]; exact t1, by rw [s1, s6]; exact t2, by rw [s1, s7]; exact t3, fun c hc => ?_, fun l c h1 hc => ?_, fun c hc => ?_⟩
  · rw [(s8 c hc).1, s1]; exact t4 c hc
  · rw [s1] at h1
    rw [(s9 l c (by omega) hc).1, (s9 l c (by omega) hc).2, s2, s3]
    exact t5 l c h1 hc
  · rw [s1, (s8 c hc).2, hv c hc]; exact t6 c hc
theorem INV_upd (I : INV σ μ) (V : VI σ') (hK : sK σ' = sK σ) (hN : sN σ' = sN σ) (hA : sA σ' = sA σ) (hK2 : qK μ' = qK μ) (ho : ∀ u, u < 16 → u ≠ t → TS σ σ' μ μ' u) (h1 : t < 16 → qZ μ' 1 t = (sT σ' t).1) (h2 : t < 16 → (sT σ' t).1 = true → TR σ' μ' t) (v9 : qI μ' 9 = qI μ 9) (v10 : qI μ' 10 = qI μ 10) (v11 : qI μ' 11 = qI μ 11) (v12 : qL μ' 12 = qL μ 12) : INV σ' μ' := by
  refine ⟨V, by rw [hK2, hK]; exact I.2.1, fun u hu => ?_, fun u hu hop => ?_, ⟨by rw [hA, hN]; exact I.2.2.2.2.1.1, fun c hc => ?_⟩, by rw [v10]; exact I.2.2.2.2.2⟩
  · by_cases e : u = t
    · subst e; exact h1 hu
    · rw [(ho u hu e).2.2.2.1, (ho u hu e).1]; exact I.2.2.1 u hu
  · by_cases e : u = t
    · subst e; exact h2 hu hop
    · rw [(ho u hu e).1] at hop
      exact (ho u hu e).TR (I.1.2.1 u hu).2.2.2 (fun c _ => by rw [hA, hN]) (I.T hu hop)
  · have : row μ' c = row μ c := by unfold row; rw [v9, v10, v12]
    rw [this, hA, hN, v11]
    exact I.2.2.2.2.1.2 c hc
theorem up2 {α : Type} (f : Nat → α) {i q : Nat} (x : α) : va_up f i x q = if q = i then x else f q := rfl
theorem INV.shut (I : INV σ μ) (ht : t < 16) : INV (stShut σ t) (sZ (sX μ 0) 1 t false) := by
  obtain ⟨v1, v2, v3⟩ := I.1.2.1 t ht
  refine INV_upd (t := t) I (VI_upd (t := t) I.1 rfl rfl rfl (fun u _ e => ⟨up_ne _ _ e, rfl⟩) ?_ ?_ ?_ ?_ (fun l hl => I.1.2.2.2.2.2 t l ht hl)) rfl rfl rfl rfl (fun u hu e => ?_) (fun _ => ?_) (fun _ h => ?_) rfl rfl rfl rfl
  · simp only [stShut, sT, up_eq]; exact v1
  · simp only [stShut, sT, up_eq]; exact v2
  · simp only [stShut, sT, up_eq]; exact v3
  · simp only [stShut, sT, up_eq]; exact I.1.2.2.2.2.1 t ht
  · refine ⟨up_ne _ _ e, rfl, rfl, ?_, rfl, rfl, rfl, fun c _ => ⟨?_, rfl⟩, fun l c _ _ => ⟨?_, rfl⟩⟩
    · rw [sZ_at, up_ne _ _ e]; rfl
    · rw [sZ_ne (by decide)]; rfl
    · rw [sZ_ne (by decide)]; rfl
  · rw [sZ_at, up_eq]; simp only [stShut, sT, up_eq]
  · exfalso; simp only [stShut, sT, up_eq] at h; cases h
theorem INV.see (I : INV σ μ) (ht : t < 16) (ho : (sT σ t).1 = true) {c : Nat} (hc : c < 16) : INV (stSee σ t c) (sZ (sX μ 0) 2 (16 * t + c) true) := by
  obtain ⟨v1, v2, v3⟩ := I.1.2.1 t ht
  obtain ⟨t1, t2, t3, t4, t5, t6⟩ := I.T ht ho
  have eT : sT (stSee σ t c) t = ((sT σ t).1, (sT σ t).2.1, (sT σ t).2.2.1, (sT σ t).2.2.2.1, (sT σ t).2.2.2.2 ||| xbit c) := up_eq _ _ _
  refine INV_upd (t := t) I (VI_upd (t := t) I.1 rfl rfl rfl (fun u _ e => ⟨up_ne _ _ e, rfl⟩) ?_ ?_ ?_ ?_ (fun l hl => I.1.2.2.2.2.2 t l ht hl)) rfl rfl rfl rfl (fun u hu e => ?_) (fun _ => ?_) (fun _ _ => ?_) rfl rfl rfl rfl
  · rw [eT]; exact v1
  · rw [eT]; exact v2
  · rw [eT]; exact v3
  · rw [eT]; exact m16_or (I.1.2.2.2.2.1 t ht) (m16_bit hc)
  · refine ⟨up_ne _ _ e, rfl, rfl, ?_, rfl, rfl, rfl, fun c' hc' => ⟨?_, rfl⟩, fun l c' _ _ => ⟨?_, rfl⟩⟩
    · rw [sZ_ne (by decide)]; rfl
    · rw [sZ_at, up_ne _ _ (by omega)]; rfl
    · rw [sZ_ne (by decide)]; rfl
  · rw [sZ_ne (by decide), eT]; exact I.2.2.1 t ht
  · refine ⟨by rw [eT]; exact t1, by rw [eT]; exact t2, by rw [eT]; exact t3, fun c' hc' => ?_, fun l c' hl hc' => ?_, by rw [eT]; exact t6⟩
    · rw [sZ_at, eT]
      show _ = bt ((sT σ t).2.2.2.2 ||| xbit c) c'
      rw [b_or, xbit_at hc hc']
      by_cases e : c' = c
      · rw [e, up_eq, decide_eq_true rfl, Bool.or_true]
      · rw [up_ne _ _ (by omega), decide_eq_false e, Bool.or_false]
        exact t4 c' hc'
    · rw [eT] at hl
      rw [sZ_ne (by decide)]
      exact t5 l c' hl hc'
theorem INV.put (I : INV σ μ) (ht : t < 16) (ho : (sT σ t).1 = true) {c : Nat} (hc : c < 16) (v : Int64) : INV (stPut σ t ((sT σ t).2.2.2.1 - 1) c v) (qWrite μ t c v) := by
  obtain ⟨v1, v2, v3, v4⟩ := I.1.2.1 t ht
  obtain ⟨t1, t2, t3, t4, t5, t6⟩ := I.T ht ho
  have eT : sT (stPut σ t ((sT σ t).2.2.2.1 - 1) c v) t = sT σ t := rfl
  have eW : sW (stPut σ t ((sT σ t).2.2.2.1 - 1) c v) t = va_up (sW σ t) ((sT σ t).2.2.2.1 - 1) (sW σ t ((sT σ t).2.2.2.1 - 1) ||| xbit c) := up_eq _ _ _
  have eR : sR (stPut σ t ((sT σ t).2.2.2.1 - 1) c v) t = va_up (sR σ t) ((sT σ t).2.2.2.1 - 1) (va_up (sR σ t ((sT σ t).2.2.2.1 - 1)) c v) := up_eq _ _ _
  have ei : (8 * t + qI μ 6 t - 1) * 16 + c = (8 * t + ((sT σ t).2.2.2.1 - 1)) * 16 + c := by rw [t3, show 8 * t + (sT σ t).2.2.2.1 - 1 = 8 * t + ((sT σ t).2.2.2.1 - 1) by omega]
  have e3 : qZ (qWrite μ t c v) 3 = va_up (qZ μ 3) ((8 * t + ((sT σ t).2.2.2.1 - 1)) * 16 + c) true := by
    unfold qWrite; rw [ei, qZ_sL, sZ_at]; rfl
  have e8 : qL (qWrite μ t c v) 8 = va_up (qL μ 8) ((8 * t + ((sT σ t).2.2.2.1 - 1)) * 16 + c) v := by
    unfold qWrite; rw [ei, sL_at]; rfl
  have en : ∀ k, k ≠ 3 → qZ (qWrite μ t c v) k = qZ μ k := fun k hk => by unfold qWrite; rw [qZ_sL, sZ_ne hk]; rfl
  have el : ∀ k, k ≠ 8 → qL (qWrite μ t c v) k = qL μ k := fun k hk => by unfold qWrite; rw [sL_ne hk]; rfl
  refine INV_upd (t := t) I (VI_upd (t := t) I.1 rfl rfl rfl (fun u _ e => ⟨rfl, up_ne _ _ e⟩) v1 v2 ⟨v3, v4⟩ (I.1.2.2.2.2.1 t ht) (fun l hl => ?_)) rfl rfl rfl rfl (fun u hu e => ?_) (fun _ => ?_) (fun _ _ => ?_) rfl rfl rfl (el 12 (by decide))
  · rw [eW]
    by_cases e : l = (sT σ t).2.2.2.1 - 1
    · rw [e, up_eq]; exact m16_or (I.1.2.2.2.2.2 t _ ht (by omega)) (m16_bit hc)
    · rw [up_ne _ _ e]; exact I.1.2.2.2.2.2 t l ht hl
  · refine ⟨rfl, up_ne _ _ e, up_ne _ _ e, by rw [en 1 (by decide)], rfl, rfl, rfl, fun c' hc' => ⟨by rw [en 2 (by decide)], by rw [el 7 (by decide)]⟩, fun l c' hl hc' => ?_⟩
    rw [e3, e8, up_ne _ _ (by omega), up_ne _ _ (by omega)]
    exact ⟨rfl, rfl⟩
  · rw [en 1 (by decide)]; exact I.2.2.1 t ht
  · refine ⟨t1, t2, t3, fun c' hc' => by rw [en 2 (by decide)]; exact t4 c' hc', fun l c' hl hc' => ?_, fun c' hc' => by rw [el 7 (by decide)]; exact t6 c' hc'⟩
    rw [eW, eR, e3, e8]
    have h5 := t5 l c' hl hc'
    by_cases e : l = (sT σ t).2.2.2.1 - 1
    · subst e
      rw [up_eq, up_eq, b_or, xbit_at hc hc']
      by_cases e2 : c' = c
      · subst e2
        rw [up_eq, up_eq, up_eq, decide_eq_true rfl, Bool.or_true]
        exact ⟨rfl, fun _ => rfl⟩
      · rw [up_ne _ _ (by omega), up_ne _ _ (by omega), up_ne _ _ e2, decide_eq_false e2, Bool.or_false]
        exact h5
    · have hl' : l < (sT σ t).2.2.2.1 := hl
      rw [up_ne _ _ e, up_ne _ _ e, up_ne _ _ (by omega), up_ne _ _ (by omega)]
      exact h5
theorem INV.push (I : INV σ μ) (ht : t < 16) (ho : (sT σ t).1 = true) (hl8 : (sT σ t).2.2.2.1 < 8) : INV (stLay (stClr σ t (sT σ t).2.2.2.1) t ((sT σ t).2.2.2.1 + 1)) (qPush μ t) := by
  obtain ⟨v1, v2, v3, v4⟩ := I.1.2.1 t ht
  obtain ⟨t1, t2, t3, t4, t5, t6⟩ := I.T ht ho
  have eT : sT (stLay (stClr σ t (sT σ t).2.2.2.1) t ((sT σ t).2.2.2.1 + 1)) t = ((sT σ t).1, (sT σ t).2.1, (sT σ t).2.2.1, (sT σ t).2.2.2.1 + 1, (sT σ t).2.2.2.2) := up_eq _ _ _
  have eW : sW (stLay (stClr σ t (sT σ t).2.2.2.1) t ((sT σ t).2.2.2.1 + 1)) t = va_up (sW σ t) (sT σ t).2.2.2.1 0 := up_eq _ _ _
  have eZ : ∀ k, k ≠ 3 → qZ (qPush μ t) k = qZ μ k := fun k hk => by unfold qPush; rw [qZ_sI, mclr_Z _ hk]; rfl
  have e3 : ∀ j, qZ (qPush μ t) 3 j = if (8 * t + (sT σ t).2.2.2.1) * 16 + 0 ≤ j ∧ j < (8 * t + (sT σ t).2.2.2.1) * 16 + 0 + 16 then false else qZ μ 3 j := fun j => by
    unfold qPush; rw [qZ_sI, mclr_3, t3]; rfl
  have eL : qL (qPush μ t) = qL μ := by unfold qPush; rw [qL_sI, mclr_L]; rfl
  have eI : ∀ k, k ≠ 6 → qI (qPush μ t) k = qI μ k := fun k hk => by unfold qPush; rw [sI_ne hk, mclr_I]; rfl
  have e6 : qI (qPush μ t) 6 = va_up (qI μ 6) t ((sT σ t).2.2.2.1 + 1) := by unfold qPush; rw [sI_at, mclr_I, t3]; rfl
  have eK : qK (qPush μ t) = qK μ := by unfold qPush; rw [qK_sI, mclr_K]; rfl
  refine INV_upd (t := t) I (VI_upd (t := t) I.1 rfl rfl rfl (fun u _ e => ⟨up_ne _ _ e, up_ne _ _ e⟩) ?_ ?_ ?_ ?_ (fun l hl => ?_)) rfl rfl rfl eK (fun u hu e => ?_) (fun _ => ?_) (fun _ _ => ?_) (eI 9 (by decide)) (eI 10 (by decide)) (eI 11 (by decide)) (by rw [eL])
  · rw [eT]; exact v1
  · rw [eT]; exact v2
  · rw [eT]; exact ⟨Nat.succ_le_succ (Nat.zero_le _), hl8⟩
  · rw [eT]; exact I.1.2.2.2.2.1 t ht
  · rw [eW]
    by_cases e : l = (sT σ t).2.2.2.1
    · rw [e, up_eq]; exact m16_0
    · rw [up_ne _ _ e]; exact I.1.2.2.2.2.2 t l ht hl
  · refine ⟨up_ne _ _ e, up_ne _ _ e, rfl, by rw [eZ 1 (by decide)], by rw [eI 4 (by decide)], by rw [eI 5 (by decide)], by rw [e6, up_ne _ _ e], fun c' hc' => ⟨by rw [eZ 2 (by decide)], by rw [eL]⟩, fun l c' hl hc' => ⟨?_, by rw [eL]⟩⟩
    rw [e3, if_neg (by omega)]
  · rw [eZ 1 (by decide), eT]; exact I.2.2.1 t ht
  · refine ⟨by rw [eI 4 (by decide), eT]; exact t1, by rw [eI 5 (by decide), eT]; exact t2, by rw [e6, up_eq, eT], fun c' hc' => by rw [eZ 2 (by decide), eT]; exact t4 c' hc', fun l c' hl hc' => ?_, fun c' hc' => by rw [eL, eT]; exact t6 c' hc'⟩
    rw [eT] at hl
    have hl' : l < (sT σ t).2.2.2.1 + 1 := hl
    rw [eW, e3, eL]
    by_cases e : l = (sT σ t).2.2.2.1
    · rw [if_pos (by rw [e]; omega), e, up_eq, b_0]
      exact ⟨rfl, fun q => by cases q⟩
    · rw [if_neg (by omega), up_ne _ _ e]
      exact t5 l c' (by omega) hc'
theorem INV.pop (I : INV σ μ) (ht : t < 16) (ho : (sT σ t).1 = true) {l : Nat} (hl : (sT σ t).2.2.2.1 = l + 1) (hl1 : 1 ≤ l) : INV (stLay σ t l) (qPop μ t l) := by
  obtain ⟨v1, v2, v3, v4⟩ := I.1.2.1 t ht
  obtain ⟨t1, t2, t3, t4, t5, t6⟩ := I.T ht ho
  have eT : sT (stLay σ t l) t = ((sT σ t).1, (sT σ t).2.1, (sT σ t).2.2.1, l, (sT σ t).2.2.2.2) := up_eq _ _ _
  have eI : ∀ k, k ≠ 6 → qI (qPop μ t l) k = qI μ k := fun k hk => by unfold qPop; rw [sI_ne hk]; rfl
  have e6 : qI (qPop μ t l) 6 = va_up (qI μ 6) t l := by unfold qPop; rw [sI_at]; rfl
  refine INV_upd (t := t) I (VI_upd (t := t) I.1 rfl rfl rfl (fun u _ e => ⟨up_ne _ _ e, rfl⟩) ?_ ?_ ?_ ?_ (fun l hl => I.1.2.2.2.2.2 t l ht hl)) rfl rfl rfl rfl (fun u hu e => ?_) (fun _ => ?_) (fun _ _ => ?_) (eI 9 (by decide)) (eI 10 (by decide)) (eI 11 (by decide)) rfl
  · rw [eT]; exact v1
  · rw [eT]; exact v2
  · rw [eT]; exact ⟨hl1, by show l ≤ 8; omega⟩
  · rw [eT]; exact I.1.2.2.2.2.1 t ht
  · exact ⟨up_ne _ _ e, rfl, rfl, rfl, by rw [eI 4 (by decide)], by rw [eI 5 (by decide)], by rw [e6, up_ne _ _ e], fun c' hc' => ⟨rfl, rfl⟩, fun l c' hl hc' => ⟨rfl, rfl⟩⟩
  · rw [eT]; exact I.2.2.1 t ht
  · refine ⟨by rw [eI 4 (by decide), eT]; exact t1, by rw [eI 5 (by decide), eT]; exact t2, by rw [e6, up_eq, eT], fun c' hc' => by rw [eT]; exact t4 c' hc', fun l' c' hl' hc' => ?_, fun c' hc' => by rw [eT]; exact t6 c' hc'⟩
    rw [eT] at hl'
    have hl2 : l' < l := hl'
    exact t5 l' c' (by omega) hc'
theorem cdW_bt {top low : Int32} {c : Nat} (hc : c < 16) : ∀ n, n ≤ 16 → bt (cdW top low n) c = if c < n then (bt low c || bt top c) else bt low c
  | 0, _ => by rw [if_neg (by omega)]; rfl
  | n + 1, h => by
    have ih := cdW_bt (top := top) (low := low) hc n (by omega)
    unfold cdW
    by_cases e : top &&& xbit n = 0
    · rw [if_pos e, ih]
      have hb := (xbit_bt (show n < 16 by omega)).mp e
      by_cases e2 : c < n
      · rw [if_pos e2, if_pos (by omega)]
      · rw [if_neg e2]
        by_cases e3 : c = n
        · rw [if_pos (by omega), e3, hb, Bool.or_false]
        · rw [if_neg (by omega)]
    · rw [if_neg e, b_or, ih, xbit_at (by omega) hc]
      have hb := (bt_ne (show n < 16 by omega)).mp e
      by_cases e2 : c < n
      · rw [if_pos e2, if_pos (by omega), decide_eq_false (by omega), Bool.or_false]
      · rw [if_neg e2]
        by_cases e3 : c = n
        · rw [if_pos (by omega), e3, hb, decide_eq_true rfl]
        · rw [if_neg (by omega), decide_eq_false e3, Bool.or_false]
theorem cdR_at {top : Int32} {hi lo : Nat → Int64} {c : Nat} (hc : c < 16) : ∀ n, n ≤ 16 → cdR top hi lo n c = if c < n ∧ bt top c = true then hi c else lo c
  | 0, _ => by rw [if_neg (by omega)]; rfl
  | n + 1, h => by
    have ih := cdR_at (top := top) (hi := hi) (lo := lo) hc n (by omega)
    unfold cdR
    by_cases e : top &&& xbit n = 0
    · rw [if_pos e, ih]
      have hb := (xbit_bt (show n < 16 by omega)).mp e
      by_cases e2 : c < n ∧ bt top c = true
      · rw [if_pos e2, if_pos ⟨by omega, e2.2⟩]
      · rw [if_neg e2, if_neg (fun q => by
          by_cases e3 : c = n
          · rw [e3, hb] at q; cases q.2
          · exact e2 ⟨by omega, q.2⟩)]
    · rw [if_neg e]
      have hb := (bt_ne (show n < 16 by omega)).mp e
      by_cases e3 : c = n
      · rw [e3, up_eq, if_pos ⟨by omega, hb⟩]
      · rw [up_ne _ _ e3, ih]
        by_cases e2 : c < n ∧ bt top c = true
        · rw [if_pos e2, if_pos ⟨by omega, e2.2⟩]
        · rw [if_neg e2, if_neg (fun q => e2 ⟨by omega, q.2⟩)]
theorem cdW_m16 {top low : Int32} (h : m16 low) : ∀ n, n ≤ 16 → m16 (cdW top low n)
  | 0, _ => h
  | n + 1, hn => by
    unfold cdW
    split
    · exact cdW_m16 h n (by omega)
    · exact m16_or (cdW_m16 h n (by omega)) (m16_bit (by omega))
theorem INV.popk (I : INV σ μ) (ht : t < 16) (ho : (sT σ t).1 = true) {m : Nat} (hl : (sT σ t).2.2.2.1 = m + 2) : INV (stLay (stDown σ t m) t (m + 1)) (mdown ((8 * t + (m + 1)) * 16) 16 0 (qPop μ t (m + 1))) := by
  obtain ⟨v1, v2, v3, v4⟩ := I.1.2.1 t ht
  obtain ⟨t1, t2, t3, t4, t5, t6⟩ := I.T ht ho
  have ha : 16 ≤ (8 * t + (m + 1)) * 16 := by omega
  have eT : sT (stLay (stDown σ t m) t (m + 1)) t = ((sT σ t).1, (sT σ t).2.1, (sT σ t).2.2.1, m + 1, (sT σ t).2.2.2.2) := up_eq _ _ _
  have eW : sW (stLay (stDown σ t m) t (m + 1)) t = va_up (sW σ t) m (cdW (sW σ t (m + 1)) (sW σ t m) 16) := up_eq _ _ _
  have eR : sR (stLay (stDown σ t m) t (m + 1)) t = va_up (sR σ t) m (cdR (sW σ t (m + 1)) (sR σ t (m + 1)) (sR σ t m) 16) := up_eq _ _ _
  have eI : ∀ k, k ≠ 6 → qI (mdown ((8 * t + (m + 1)) * 16) 16 0 (qPop μ t (m + 1))) k = qI μ k := fun k hk => by rw [mdown_I]; unfold qPop; rw [sI_ne hk]; rfl
  have e6 : qI (mdown ((8 * t + (m + 1)) * 16) 16 0 (qPop μ t (m + 1))) 6 = va_up (qI μ 6) t (m + 1) := by rw [mdown_I]; unfold qPop; rw [sI_at]; rfl
  have eZ : ∀ k, k ≠ 3 → qZ (mdown ((8 * t + (m + 1)) * 16) 16 0 (qPop μ t (m + 1))) k = qZ μ k := fun k hk => by rw [mdown_Z _ hk]; rfl
  have eL : ∀ k, k ≠ 8 → qL (mdown ((8 * t + (m + 1)) * 16) 16 0 (qPop μ t (m + 1))) k = qL μ k := fun k hk => by rw [mdown_L _ hk]; rfl
  have miss : ∀ j, ¬ ((8 * t + m) * 16 ≤ j ∧ j < (8 * t + m) * 16 + 16 ∧ qZ μ 3 (j + 16) = true) → qZ (mdown ((8 * t + (m + 1)) * 16) 16 0 (qPop μ t (m + 1))) 3 j = qZ μ 3 j ∧ qL (mdown ((8 * t + (m + 1)) * 16) 16 0 (qPop μ t (m + 1))) 8 j = qL μ 8 j := fun j h =>
    mdown_miss ha 16 0 (qPop μ t (m + 1)) j (by omega) (fun q => h ⟨by omega, by omega, q.2.2⟩)
  have hit : ∀ j, (8 * t + m) * 16 ≤ j → j < (8 * t + m) * 16 + 16 → qZ μ 3 (j + 16) = true → qZ (mdown ((8 * t + (m + 1)) * 16) 16 0 (qPop μ t (m + 1))) 3 j = true ∧ qL (mdown ((8 * t + (m + 1)) * 16) 16 0 (qPop μ t (m + 1))) 8 j = qL μ 8 (j + 16) := fun j h1 h2 h3 =>
    mdown_hit ha 16 0 (qPop μ t (m + 1)) j (by omega) (by omega) (by omega) h3
  refine INV_upd (t := t) I (VI_upd (t := t) I.1 rfl rfl rfl (fun u _ e => ⟨up_ne _ _ e, up_ne _ _ e⟩) ?_ ?_ ?_ ?_ (fun l hl => ?_)) rfl rfl rfl (by rw [mdown_K]; rfl) (fun u hu e => ?_) (fun _ => ?_) (fun _ _ => ?_) (eI 9 (by decide)) (eI 10 (by decide)) (eI 11 (by decide)) (eL 12 (by decide))
  · rw [eT]; exact v1
  · rw [eT]; exact v2
  · rw [eT]; exact ⟨by show 1 ≤ m + 1; omega, by show m + 1 ≤ 8; omega⟩
  · rw [eT]; exact I.1.2.2.2.2.1 t ht
  · rw [eW]
    by_cases e : l = m
    · rw [e, up_eq]; exact cdW_m16 (I.1.2.2.2.2.2 t m ht (by omega)) 16 (Nat.le_refl _)
    · rw [up_ne _ _ e]; exact I.1.2.2.2.2.2 t l ht hl
  · refine ⟨up_ne _ _ e, up_ne _ _ e, up_ne _ _ e, by rw [eZ 1 (by decide)], by rw [eI 4 (by decide)], by rw [eI 5 (by decide)], by rw [e6, up_ne _ _ e], fun c' hc' => ⟨by rw [eZ 2 (by decide)], by rw [eL 7 (by decide)]⟩, fun l c' hl hc' => ?_⟩
    exact miss _ (by omega)
  · rw [eT, eZ 1 (by decide)]; exact I.2.2.1 t ht
  · refine ⟨by rw [eI 4 (by decide), eT]; exact t1, by rw [eI 5 (by decide), eT]; exact t2, by rw [e6, up_eq, eT], fun c' hc' => by rw [eT, eZ 2 (by decide)]; exact t4 c' hc', fun l' c' hl' hc' => ?_, fun c' hc' => by rw [eT, eL 7 (by decide)]; exact t6 c' hc'⟩
    rw [eT] at hl'
    have hl2 : l' < m + 1 := hl'
    have h5 := t5 l' c' (by omega) hc'
    rw [eW, eR]
    by_cases e : l' = m
    · subst e
      have hu := t5 (l' + 1) c' (by omega) hc'
      have ej : (8 * t + l') * 16 + c' + 16 = (8 * t + (l' + 1)) * 16 + c' := by omega
      rw [up_eq, up_eq, cdW_bt hc' 16 (Nat.le_refl _), cdR_at hc' 16 (Nat.le_refl _), if_pos hc']
      cases hb : bt (sW σ t (l' + 1)) c' with
      | true =>
        have h := hit ((8 * t + l') * 16 + c') (by omega) (by omega) (by rw [ej, hu.1]; exact hb)
        rw [h.1, h.2, ej, Bool.or_true, if_pos ⟨hc', rfl⟩]
        exact ⟨rfl, fun _ => hu.2 hb⟩
      | false =>
        have h := miss ((8 * t + l') * 16 + c') (fun q => by rw [ej, hu.1, hb] at q; cases q.2.2)
        rw [h.1, h.2, Bool.or_false, if_neg (fun q => by cases q.2)]
        exact h5
    · have h := miss ((8 * t + l') * 16 + c') (by omega)
      rw [h.1, h.2, up_ne _ _ e, up_ne _ _ e]
      exact h5
end
end
section
/-! begin, commit, forget, the beginning -/
section
variable {σ : vS} {μ : qS} {t : Nat}
theorem INV.begin (I : INV σ μ) (ht : t < 16) {k : Nat} (hk : k < 2) : INV (stBegin σ t k) (qBegin μ t k) := by
  have eT : sT (stBegin σ t k) t = (true, sK σ, k, 1, 0) := up_eq _ _ _
  have eW : sW (stBegin σ t k) t = va_up (sW σ t) 0 0 := up_eq _ _ _
  have eI : ∀ j, j ≠ 4 → j ≠ 5 → j ≠ 6 → qI (qBegin μ t k) j = qI μ j := fun j h4 h5 h6 => by unfold qBegin; rw [mbeg_I, mclr_I, sI_ne h6, sI_ne h5, sI_ne h4]; rfl
  have e4 : qI (qBegin μ t k) 4 = va_up (qI μ 4) t (sK σ) := by unfold qBegin; rw [mbeg_I, mclr_I, sI_ne (by decide), sI_ne (by decide), sI_at, I.K]; rfl
  have e5 : qI (qBegin μ t k) 5 = va_up (qI μ 5) t k := by unfold qBegin; rw [mbeg_I, mclr_I, sI_ne (by decide), sI_at, sI_ne (by decide)]; rfl
  have e6 : qI (qBegin μ t k) 6 = va_up (qI μ 6) t 1 := by unfold qBegin; rw [mbeg_I, mclr_I, sI_at, sI_ne (by decide), sI_ne (by decide)]; rfl
  have eL : ∀ j, j ≠ 7 → qL (qBegin μ t k) j = qL μ j := fun j h => by unfold qBegin; rw [mbeg_L _ h, mclr_L]; rfl
  have e1 : qZ (qBegin μ t k) 1 = va_up (qZ μ 1) t true := by unfold qBegin; rw [mbeg_Z _ (by decide), mclr_Z _ (by decide), qZ_sI, qZ_sI, qZ_sI, sZ_at]; rfl
  have e2 : ∀ j, qZ (qBegin μ t k) 2 j = if 16 * t + 0 ≤ j ∧ j < 16 * t + 0 + 16 then false else qZ μ 2 j := fun j => by
    unfold qBegin; rw [mbeg_2, mclr_Z _ (by decide), qZ_sI, qZ_sI, qZ_sI, sZ_ne (by decide)]; rfl
  have e3 : ∀ j, qZ (qBegin μ t k) 3 j = if (8 * t + 0) * 16 + 0 ≤ j ∧ j < (8 * t + 0) * 16 + 0 + 16 then false else qZ μ 3 j := fun j => by
    unfold qBegin; rw [mbeg_Z _ (by decide), mclr_3, qZ_sI, qZ_sI, qZ_sI, sZ_ne (by decide)]; rfl
  have en : ∀ c, mnow (mclr ((8 * t + 0) * 16) 16 0 (sI (sI (sI (sZ (sX μ 0) 1 t true) 4 t (qK μ)) 5 t k) 6 t 1)) c = mnow μ c := fun c => by
    unfold mnow; rw [mclr_I, mclr_L, sI_ne (by decide), sI_ne (by decide), sI_ne (by decide)]; rfl
  have e7 : ∀ j, qL (qBegin μ t k) 7 j = if 16 * t + 0 ≤ j ∧ j < 16 * t + 0 + 16 then mnow μ (j - 16 * t) else qL μ 7 j := fun j => by
    unfold qBegin; rw [mbeg_7, en, mclr_L]; rfl
  have eK : qK (qBegin μ t k) = qK μ := by unfold qBegin; rw [mbeg_K, mclr_K]; rfl
  refine INV_upd (t := t) I (VI_upd (t := t) I.1 rfl rfl rfl (fun u _ e => ⟨up_ne _ _ e, up_ne _ _ e⟩) ?_ ?_ ?_ ?_ (fun l hl => ?_)) rfl rfl rfl eK (fun u hu e => ?_) (fun _ => ?_) (fun _ _ => ?_) (eI 9 (by decide) (by decide) (by decide)) (eI 10 (by decide) (by decide) (by decide)) (eI 11 (by decide) (by decide) (by decide)) (eL 12 (by decide))
  · rw [eT]; exact Nat.le_refl _
  · rw [eT]; exact hk
  · rw [eT]; exact ⟨Nat.le_refl _, show 1 ≤ 8 by decide⟩
  · rw [eT]; exact m16_0
  · rw [eW]
    by_cases e : l = 0
    · rw [e, up_eq]; exact m16_0
    · rw [up_ne _ _ e]; exact I.1.2.2.2.2.2 t l ht hl
  · refine ⟨up_ne _ _ e, up_ne _ _ e, rfl, by rw [e1, up_ne _ _ e], by rw [e4, up_ne _ _ e], by rw [e5, up_ne _ _ e], by rw [e6, up_ne _ _ e], fun c' hc' => ⟨?_, ?_⟩, fun l c' hl hc' => ⟨?_, by rw [eL 8 (by decide)]⟩⟩
    · rw [e2, if_neg (by omega)]
    · rw [e7, if_neg (by omega)]
    · rw [e3, if_neg (by omega)]
  · rw [e1, up_eq, eT]
  · refine ⟨by rw [e4, up_eq, eT], by rw [e5, up_eq, eT], by rw [e6, up_eq, eT], fun c hc => ?_, fun l c hl hc => ?_, fun c hc => ?_⟩
    · rw [e2, if_pos (by omega), eT]; exact (b_0 c).symm
    · rw [eT] at hl
      have hl0 : l = 0 := by have : l < 1 := hl; omega
      subst hl0
      rw [e3, if_pos (by omega), eW, up_eq, b_0]
      exact ⟨rfl, fun q => by cases q⟩
    · rw [eT, e7, if_pos (by omega), show 16 * t + c - 16 * t = c by omega]
      show vl (celL (rowL (sA σ) (sN σ)) c) (sK σ) = some (mnow μ c)
      rw [vl_all I.cells, ← (I.2.2.2.2.1.2 c hc).1]
      unfold row mnow
      rw [mrow_last (I.ver1 hc)]
      rfl
/-! commit -/
def mcomU (t : Nat) (μ : qS) : Nat → qS
  | 0 => μ
  | c + 1 => if mlo (mcomU t μ c) t c = 0 then mcomU t μ c else mcom1 t c (mcomU t μ c)
theorem mcom_U (t : Nat) (μ : qS) : ∀ n c, mcom t n c (mcomU t μ c) = mcomU t μ (c + n)
  | 0, c => rfl
  | n + 1, c => by
    have := mcom_U t μ n (c + 1)
    rw [show c + (n + 1) = c + 1 + n by omega, ← this]
    rfl
theorem INV.commit (I : INV σ μ) (hk : sK σ < 100000) (ht : t < 16) (ho : (sT σ t).1 = true) (hf : sN σ + pcn (wrV σ t) 16 ≤ 500) : INV (stShut (stKept σ t) t) (qCommit μ t) := by
  obtain ⟨v1, v2, v3, v4⟩ := I.1.2.1 t ht
  have V1 : VI (stClk σ (sK σ + 1)) := ⟨(show sK σ + 1 ≤ 100000 by omega), fun u hu => ⟨Nat.le_succ_of_le (I.1.2.1 u hu).1, (I.1.2.1 u hu).2⟩, I.1.2.2.1, fun i hi => ⟨(I.1.2.2.2.1 i hi).1, Nat.le_succ_of_le (I.1.2.2.2.1 i hi).2⟩, I.1.2.2.2.2.1, I.1.2.2.2.2.2⟩
  have key : ∀ c, c ≤ 16 → (qK (mcomU t (sC (sZ (sX μ 0) 1 t false) (qK μ + 1)) c) = sK σ + 1 ∧ qZ (mcomU t (sC (sZ (sX μ 0) 1 t false) (qK μ + 1)) c) = qZ (sZ (sX μ 0) 1 t false) ∧ (∀ j, j ≠ 9 → j ≠ 10 → j ≠ 11 → qI (mcomU t (sC (sZ (sX μ 0) 1 t false) (qK μ + 1)) c) j = qI μ j) ∧ (∀ j, j ≠ 12 → qL (mcomU t (sC (sZ (sX μ 0) 1 t false) (qK μ + 1)) c) j = qL μ j)) ∧
      (srt (rowL (kv (sK σ + 1) (wrV σ t) (valV σ t) (sN σ) (sA σ) c).2 (kv (sK σ + 1) (wrV σ t) (valV σ t) (sN σ) (sA σ) c).1) ∧ (∀ r ∈ rowL (kv (sK σ + 1) (wrV σ t) (valV σ t) (sN σ) (sA σ) c).2 (kv (sK σ + 1) (wrV σ t) (valV σ t) (sN σ) (sA σ) c).1, r.2.1 ≤ sK σ + 1)) ∧
      (∀ c', c' < 16 → row (mcomU t (sC (sZ (sX μ 0) 1 t false) (qK μ + 1)) c) c' = celL (rowL (kv (sK σ + 1) (wrV σ t) (valV σ t) (sN σ) (sA σ) c).2 (kv (sK σ + 1) (wrV σ t) (valV σ t) (sN σ) (sA σ) c).1) c' ∧ ((row (mcomU t (sC (sZ (sX μ 0) 1 t false) (qK μ + 1)) c) c').getLast?).map (fun r => r.1) = some (qI (mcomU t (sC (sZ (sX μ 0) 1 t false) (qK μ + 1)) c) 11 c') ∧ (∀ s, s ≤ sK σ → vl (celL (rowL (kv (sK σ + 1) (wrV σ t) (valV σ t) (sN σ) (sA σ) c).2 (kv (sK σ + 1) (wrV σ t) (valV σ t) (sN σ) (sA σ) c).1) c') s = vl (celL (rowL (sA σ) (sN σ)) c') s)) ∧
      (∀ j, qI (mcomU t (sC (sZ (sX μ 0) 1 t false) (qK μ + 1)) c) 10 j ≤ 100000) := by
    intro c
    induction c with
    | zero =>
      intro _
      refine ⟨⟨by show qK μ + 1 = _; rw [I.K], rfl, fun _ _ _ _ => rfl, fun _ _ => rfl⟩, ⟨I.2.2.2.2.1.1, fun r hr => Nat.le_succ_of_le (I.rows r hr).2⟩, fun c' hc' => ⟨(I.2.2.2.2.1.2 c' hc').1, (I.2.2.2.2.1.2 c' hc').2, fun _ _ => rfl⟩, I.2.2.2.2.2⟩
    | succ c ih =>
      intro hc
      obtain ⟨⟨i1, i2, i3, i4⟩, ⟨j1, j2⟩, k1, l1⟩ := ih (by omega)
      have hn := kv_n (sK σ + 1) (wrV σ t) (valV σ t) (sN σ) (sA σ) c
      have hmo := pcn_mono (wrV σ t) (show c ≤ 16 by omega)
      have elo : mlo (mcomU t (sC (sZ (sX μ 0) 1 t false) (qK μ + 1)) c) t c = mlo μ t c := by
        unfold mlo
        rw [i2, i3 6 (by decide) (by decide) (by decide), sZ_ne (by decide)]
        rfl
      have erd : mrd (mcomU t (sC (sZ (sX μ 0) 1 t false) (qK μ + 1)) c) t c = mrd μ t c := by
        unfold mrd
        rw [elo, i4 7 (by decide), i4 8 (by decide)]
      have hwz : wrV σ t &&& xbit c = 0 ↔ mlo μ t c = 0 := by
        rw [I.lo ht ho (by omega)]
        exact orW_hiW (sW σ t) (by omega) _
      by_cases hz : mlo μ t c = 0
      · rw [show mcomU t (sC (sZ (sX μ 0) 1 t false) (qK μ + 1)) (c + 1) = mcomU t (sC (sZ (sX μ 0) 1 t false) (qK μ + 1)) c from if_pos (elo.trans hz), show kv (sK σ + 1) (wrV σ t) (valV σ t) (sN σ) (sA σ) (c + 1) = kv (sK σ + 1) (wrV σ t) (valV σ t) (sN σ) (sA σ) c from if_pos (hwz.mpr hz)]
        exact ⟨⟨i1, i2, i3, i4⟩, ⟨j1, j2⟩, k1, l1⟩
      · rw [show mcomU t (sC (sZ (sX μ 0) 1 t false) (qK μ + 1)) (c + 1) = mcom1 t c (mcomU t (sC (sZ (sX μ 0) 1 t false) (qK μ + 1)) c) from if_neg (fun q => hz (elo.symm.trans q)), show kv (sK σ + 1) (wrV σ t) (valV σ t) (sN σ) (sA σ) (c + 1) = _ from if_neg (fun q => hz (hwz.mp q))]
        have eval : mrd μ t c = valV σ t c := by
          rw [I.rd ht ho (by omega)]
          exact if_neg (fun q => hz ((I.lo ht ho (by omega)).trans q))
        rw [eval] at erd
        generalize mcomU t (sC (sZ (sX μ 0) 1 t false) (qK μ + 1)) c = ν at i1 i2 i3 i4 k1 l1 elo erd ⊢
        generalize kv (sK σ + 1) (wrV σ t) (valV σ t) (sN σ) (sA σ) c = p at j1 j2 k1 hn ⊢
        obtain ⟨n', A'⟩ := p
        dsimp only at j1 j2 k1 hn ⊢
        have hlen : ∀ c', c' < 16 → qI ν 9 c' ≤ 500 := by
          intro c' hc'
          have h1 := congrArg List.length (k1 c' hc').1
          unfold row at h1
          rw [mrow_len] at h1
          rw [h1]
          have h2 : (celL (rowL A' n') c').length ≤ (rowL A' n').length := by
            unfold celL
            rw [List.length_map]
            exact List.length_filter_le _ _
          rw [rowL_len] at h2
          omega
        have hrows : rowL (va_up A'.1 n' c, va_up A'.2.1 n' (sK σ + 1), va_up A'.2.2 n' (valV σ t c)) (n' + 1) = rowL A' n' ++ [(c, sK σ + 1, valV σ t c)] := by
          rw [rowL_succ]
          have e1 : rowL (va_up A'.1 n' c, va_up A'.2.1 n' (sK σ + 1), va_up A'.2.2 n' (valV σ t c)) n' = rowL A' n' := rowL_congr (fun i hi => by
            unfold rw_
            dsimp only
            rw [up_ne _ _ (show i ≠ n' by omega), up_ne _ _ (show i ≠ n' by omega), up_ne _ _ (show i ≠ n' by omega)])
          have e2 : rw_ (va_up A'.1 n' c, va_up A'.2.1 n' (sK σ + 1), va_up A'.2.2 n' (valV σ t c)) n' = (c, sK σ + 1, valV σ t c) := by
            unfold rw_
            dsimp only
            rw [up_eq, up_eq, up_eq]
          rw [e1, e2]
        have m9 : qI (mcom1 t c ν) 9 = va_up (qI ν 9) c (qI ν 9 c + 1) := by
          unfold mcom1
          rw [sI_ne (by decide), sI_at, qI_sL, sI_ne (by decide)]
        have m10 : qI (mcom1 t c ν) 10 = va_up (qI ν 10) (520 * c + qI ν 9 c) (sK σ + 1) := by
          unfold mcom1
          rw [sI_ne (by decide), sI_ne (by decide), qI_sL, sI_at, i1]
        have m11 : qI (mcom1 t c ν) 11 = va_up (qI ν 11) c (sK σ + 1) := by
          unfold mcom1
          rw [sI_at, sI_ne (by decide), qI_sL, sI_ne (by decide), i1]
        have m12 : qL (mcom1 t c ν) 12 = va_up (qL ν 12) (520 * c + qI ν 9 c) (valV σ t c) := by
          unfold mcom1
          rw [qL_sI, qL_sI, sL_at, qL_sI, erd]
        have hrowc : row (mcom1 t c ν) c = row ν c ++ [(sK σ + 1, valV σ t c)] := by
          unfold row
          rw [m9, up_eq, mrow_succ, m10, m12, up_eq, up_eq]
          refine congrArg (· ++ [(sK σ + 1, valV σ t c)]) (mrow_congr (fun i hi => ?_))
          rw [up_ne _ _ (by omega), up_ne _ _ (by omega)]
          exact ⟨rfl, rfl⟩
        have hrown : ∀ c', c' < 16 → c' ≠ c → row (mcom1 t c ν) c' = row ν c' := by
          intro c' hc' e
          have h1 := hlen c' hc'
          have h2 := hlen c (by omega)
          refine row_same (by rw [m9, up_ne _ _ e]) (by omega) (fun j g1 g2 => ?_)
          rw [m10, m12, up_ne _ _ (by omega), up_ne _ _ (by omega)]
          exact ⟨rfl, rfl⟩
        rw [hrows]
        refine ⟨⟨by show qK ν = _; exact i1, by show qZ ν = _; exact i2, fun j h9 h10 h11 => ?_, fun j h12 => ?_⟩, ⟨?_, ?_⟩, fun c' hc' => ?_, fun j => ?_⟩
        · unfold mcom1
          rw [sI_ne h11, sI_ne h9, qI_sL, sI_ne h10]
          exact i3 j h9 h10 h11
        · unfold mcom1
          rw [qL_sI, qL_sI, sL_ne h12, qL_sI]
          exact i4 j h12
        · exact List.pairwise_append.mpr ⟨j1, List.pairwise_singleton _ _, fun a ha b hb => by rw [List.mem_singleton.mp hb]; exact j2 a ha⟩
        · intro r hr
          rcases List.mem_append.mp hr with h | h
          · exact j2 r h
          · rw [List.mem_singleton.mp h]; exact Nat.le_refl _
        · obtain ⟨k2, k3, k4⟩ := k1 c' hc'
          rw [celL_app, celL_one]
          by_cases e : c' = c
          · subst e
            rw [if_pos rfl, hrowc, m11, up_eq, List.getLast?_append, k2]
            refine ⟨rfl, rfl, fun s hs => ?_⟩
            rw [vl_app1, if_neg (show ¬ sK σ + 1 ≤ s by omega)]
            exact k4 s hs
          · rw [if_neg (show ¬ c = c' from fun q => e q.symm), List.append_nil, hrown c' hc' e, m11, up_ne _ _ e]
            exact ⟨k2, k3, k4⟩
        · rw [m10]
          by_cases e : j = 520 * c + qI ν 9 c
          · rw [e, up_eq]; omega
          · rw [up_ne _ _ e]; exact l1 j
  have eC : qCommit μ t = mcomU t (sC (sZ (sX μ 0) 1 t false) (qK μ + 1)) 16 := mcom_U t (sC (sZ (sX μ 0) 1 t false) (qK μ + 1)) 16 0
  obtain ⟨⟨i1, i2, i3, i4⟩, ⟨j1, j2⟩, k1, l1⟩ := key 16 (Nat.le_refl _)
  rw [← eC] at i1 i2 i3 i4 k1 l1
  have V2 : VI (stKept σ t) := VI_kv (σ := stClk σ (sK σ + 1)) (val := valV σ t) V1 hf 16 (Nat.le_refl _)
  have V3 : VI (stShut (stKept σ t) t) := VI_upd (t := t) V2 rfl rfl rfl (fun u _ e => ⟨up_ne _ _ e, rfl⟩) (by simp only [stShut, sT, up_eq]; exact (V2.2.1 t ht).1) (by simp only [stShut, sT, up_eq]; exact v2) (by simp only [stShut, sT, up_eq]; exact ⟨v3, v4⟩) (by simp only [stShut, sT, up_eq]; exact I.1.2.2.2.2.1 t ht) (fun l hl => I.1.2.2.2.2.2 t l ht hl)
  refine ⟨V3, i1, fun u hu => ?_, fun u hu hop => ?_, ⟨j1, fun c hc => ⟨(k1 c hc).1, (k1 c hc).2.1⟩⟩, l1⟩
  · rw [i2, sZ_at]
    by_cases e : u = t
    · rw [e, up_eq]; simp only [stShut, sT, up_eq]
    · rw [up_ne _ _ e]
      show qZ μ 1 u = (va_up (sT σ) t (false, (sT σ t).2) u).1
      rw [up_ne _ _ e]
      exact I.2.2.1 u hu
  · by_cases e : u = t
    · exfalso
      rw [e] at hop
      simp only [stShut, sT, up_eq] at hop
      cases hop
    · have eu : sT (stShut (stKept σ t) t) u = sT σ u := up_ne _ _ e
      rw [eu] at hop
      have hs : TS σ (stShut (stKept σ t) t) μ (qCommit μ t) u := by
        refine ⟨eu, rfl, rfl, ?_, by rw [i3 4 (by decide) (by decide) (by decide)], by rw [i3 5 (by decide) (by decide) (by decide)], by rw [i3 6 (by decide) (by decide) (by decide)], fun c' _ => ⟨?_, by rw [i4 7 (by decide)]⟩, fun l c' _ _ => ⟨?_, by rw [i4 8 (by decide)]⟩⟩
        · rw [i2, sZ_at, up_ne _ _ e]; rfl
        · rw [i2, sZ_ne (by decide)]; rfl
        · rw [i2, sZ_ne (by decide)]; rfl
      exact hs.TR (I.1.2.1 u hu).2.2.2 (fun c hc => (k1 c hc).2.2 _ (I.1.2.1 u hu).1) (I.T hu hop)
/-! forget -/
theorem flo_open (k : Nat) (T : Nat → vQ) {u : Nat} (h : (T u).1 = true) : ∀ n, u < n → flo k T n ≤ (T u).2.1
  | 0, hn => absurd hn (Nat.not_lt_zero _)
  | n + 1, hn => by
    unfold flo
    by_cases e : u = n
    · subst e
      rw [if_pos h]
      exact Nat.min_le_right _ _
    · have ih := flo_open k T h n (by omega)
      split
      · exact Nat.le_trans (Nat.min_le_left _ _) ih
      · exact ih
theorem mfor_P (P : Nat → Prop) (fl : Nat) : ∀ n c p, (∀ j, P (qI p.1 10 j)) → ∀ j, P (qI (mfor fl n c p).1 10 j)
  | 0, _, _, h => h
  | n + 1, c, p, h => mfor_P P fl n (c + 1) _ (mwh_P P fl c _ _ _ h)
theorem INV.forget (I : INV σ μ) : INV (stForget σ) (qForget μ).1 ∧ (qForget μ).2 = (rcA (flo (sK σ) (sT σ) 16) (sN σ) 0 (sN σ) (sA σ)).1 := by
  obtain ⟨r1, r2⟩ := stF_rows (σ := σ) (fun i hi => (I.1.2.2.2.1 i hi).1)
  have hsub := GL_sub (flo (sK σ) (sT σ) 16) (rowL (sA σ) (sN σ))
  obtain ⟨f1, f2, f3⟩ := mfor_spec (fl := mflo μ 16) 16 0 (sX μ 0, 0) rfl (fun c' hc' => ⟨I.ver1 hc', I.ver5 hc'⟩)
  rw [I.floE 16 (Nat.le_refl _)] at f1 f2 f3
  have hV : VI (stForget σ) := by
    refine ⟨I.1.1, I.1.2.1, Nat.le_trans (Nat.sub_le _ _) I.1.2.2.1, fun i hi => ?_, I.1.2.2.2.2.1, I.1.2.2.2.2.2⟩
    have hm : rw_ (sA (stForget σ)) i ∈ rowL (sA (stForget σ)) (sN (stForget σ)) := rowL_mem.mpr ⟨i, hi, rfl⟩
    rw [r1] at hm
    exact I.rows _ (hsub.subset hm)
  have hcel : ∀ c, c < 16 → row (mfor (flo (sK σ) (sT σ) 16) 16 0 (sX μ 0, 0)).1 c = dropF (flo (sK σ) (sT σ) 16) (celL (rowL (sA σ) (sN σ)) c) ∧ celL (rowL (sA (stForget σ)) (sN (stForget σ))) c = dropF (flo (sK σ) (sT σ) 16) (celL (rowL (sA σ) (sN σ)) c) := by
    intro c hc
    constructor
    · rw [f1 c hc, if_pos (Nat.zero_le _)]
      show dropF _ (row μ c) = _
      rw [(I.2.2.2.2.1.2 c hc).1]
    · rw [r1, celL_GL, dropF_GC _ _ (srt_celL I.2.2.2.2.1.1 c)]
  have hQ : (qForget μ) = mfor (flo (sK σ) (sT σ) 16) 16 0 (sX μ 0, 0) := by
    unfold qForget
    rw [I.floE 16 (Nat.le_refl _)]
  rw [hQ]
  have hI : INV (stForget σ) (mfor (flo (sK σ) (sT σ) 16) 16 0 (sX μ 0, 0)).1 := by
    refine ⟨hV, by rw [f3.2.1]; exact I.2.1, fun u hu => by rw [f3.2.2.1]; exact I.2.2.1 u hu, fun u hu hop => ?_, ⟨?_, fun c hc => ⟨?_, ?_⟩⟩, ?_⟩
    · have hs : TS σ (stForget σ) μ (mfor (flo (sK σ) (sT σ) 16) 16 0 (sX μ 0, 0)).1 u := by
        refine ⟨rfl, rfl, rfl, by rw [f3.2.2.1]; rfl, by rw [f3.2.2.2.1 4 (by decide) (by decide)]; rfl, by rw [f3.2.2.2.1 5 (by decide) (by decide)]; rfl, by rw [f3.2.2.2.1 6 (by decide) (by decide)]; rfl, fun c' _ => ⟨by rw [f3.2.2.1]; rfl, by rw [f3.2.2.2.2 7 (by decide)]; rfl⟩, fun l c' _ _ => ⟨by rw [f3.2.2.1]; rfl, by rw [f3.2.2.2.2 8 (by decide)]; rfl⟩⟩
      refine hs.TR (I.1.2.1 u hu).2.2.2 (fun c hc => ?_) (I.T hu hop)
      rw [(hcel c hc).2]
      exact dropF_vl (flo_open _ _ hop 16 hu) _
    · rw [r1]
      exact List.Pairwise.sublist hsub I.2.2.2.2.1.1
    · rw [(hcel c hc).1, (hcel c hc).2]
    · rw [(hcel c hc).1, dropF_last, f3.2.2.2.1 11 (by decide) (by decide), ← (I.2.2.2.2.1.2 c hc).1]
      exact (I.2.2.2.2.1.2 c hc).2
    · exact mfor_P (fun x => x ≤ 100000) _ _ _ _ I.2.2.2.2.2
  refine ⟨hI, ?_⟩
  have h1 := hI.sum
  have h2 := I.sum
  have h3 : sumN (qI (sX μ 0) 9) 16 = sN σ := h2
  have h4 : sN (stForget σ) = sN σ - (rcA (flo (sK σ) (sT σ) 16) (sN σ) 0 (sN σ) (sA σ)).1 := rfl
  rw [h1] at f2
  show (mfor (flo (sK σ) (sT σ) 16) 16 0 (sX μ 0, 0)).2 = _
  have f4 : (mfor (flo (sK σ) (sT σ) 16) 16 0 (sX μ 0, 0)).2 + sN (stForget σ) = 0 + sumN (qI (sX μ 0) 9) 16 := f2
  omega
/-! the beginning -/
theorem mini_9 : ∀ n c μ j, qI (mini n c μ) 9 j = if c ≤ j ∧ j < c + n then 1 else qI μ 9 j
  | 0, c, μ, j => by rw [if_neg (by omega)]; rfl
  | n + 1, c, μ, j => by
    show qI (mini n (c + 1) _) 9 j = _
    rw [mini_9 n, sI_at]
    by_cases h1 : c + 1 ≤ j ∧ j < c + 1 + n
    · rw [if_pos h1, if_pos (by omega)]
    · rw [if_neg h1]
      by_cases h2 : j = c
      · rw [h2, up_eq, if_pos (by omega)]
      · rw [up_ne _ _ h2, if_neg (by omega)]
theorem mini_I {k : Nat} (hk : k ≠ 9) : ∀ n c μ, qI (mini n c μ) k = qI μ k
  | 0, _, _ => rfl
  | n + 1, c, μ => by
    show qI (mini n (c + 1) _) k = _
    rw [mini_I hk n, sI_ne hk]
theorem mini_Z : ∀ n c μ, qZ (mini n c μ) = qZ μ
  | 0, _, _ => rfl
  | n + 1, c, μ => mini_Z n (c + 1) _
theorem mini_L : ∀ n c μ, qL (mini n c μ) = qL μ
  | 0, _, _ => rfl
  | n + 1, c, μ => mini_L n (c + 1) _
theorem mini_K : ∀ n c μ, qK (mini n c μ) = qK μ
  | 0, _, _ => rfl
  | n + 1, c, μ => mini_K n (c + 1) _
theorem INV_0 : INV st0 qInit := by
  have hrow : ∀ i, i < 16 → rw_ (sA st0) i = (i, 0, 0) := fun i hi => by
    show (if i < 16 then i else 0, 0, 0) = _
    rw [if_pos hi]
  have hL : rowL (sA st0) (sN st0) = (List.range 16).map (fun i => (i, 0, 0)) := List.map_congr_left (fun i hi => hrow i (List.mem_range.mp hi))
  have hc : ∀ c, c < 16 → celL (rowL (sA st0) (sN st0)) c = [(0, 0)] := by
    rw [hL]
    decide +kernel
  have hr : ∀ c, c < 16 → row qInit c = [(0, 0)] := by
    intro c h
    unfold row qInit
    rw [mini_9, if_pos (by omega), mini_I (by decide), mini_L]
    rfl
  refine ⟨⟨by decide, fun t ht => ⟨Nat.le_refl _, show 0 < 2 by decide, show 1 ≤ 1 by decide, show 1 ≤ 8 by decide⟩, by decide, fun i hi => ?_, fun t ht => m16_0, fun t l ht hl => m16_0⟩, ?_, fun t ht => ?_, fun t ht ho => ?_, ⟨?_, fun c h => ⟨?_, ?_⟩⟩, fun j => ?_⟩
  · have hi' : i < 16 := hi
    show (if i < 16 then i else 0) < 16 ∧ 0 ≤ 0
    rw [if_pos hi']
    exact ⟨hi', Nat.le_refl _⟩
  · unfold qInit; rw [mini_K]; rfl
  · unfold qInit; rw [mini_Z]; rfl
  · cases ho
  · rw [hL]
    show List.Pairwise _ _
    rw [List.pairwise_map]
    exact List.Pairwise.imp (fun _ => Nat.le_refl _) (List.pairwise_lt_range)
  · rw [hr c h, hc c h]
  · rw [hr c h]
    unfold qInit
    rw [mini_I (by decide)]
    rfl
  · unfold qInit
    rw [mini_I (by decide)]
    exact Nat.zero_le _
end
end
