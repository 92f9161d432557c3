theorem xsame_old {s t : State} {k n : Nat} (h : s.sameButNew t [] k n) {q : Nat} (hq : q < s.heap.size) : t.heap[q]? = s.heap[q]? := by
  obtain ⟨-, -, -, -, -, h6⟩ := h
  have hc : s.heap[q]? = some s.heap[q] := Array.getElem?_eq_getElem hq
  obtain ⟨c', e1, e2, e3, e4⟩ := h6 q _ hc
  have hsl : c'.slots = s.heap[q].slots := Array.ext_getElem? (fun i => e4 i (by simp))
  rw [e1, hc, e2, hsl]
theorem xfresh {p : Program} {l : Launch} {e : Env} {R : Room} {s : State} {m : MethodId} {args : Array Value} {below : List Frame} {meth : Method} {c : Code} {T : State} {cells slots : Nat} (X : Stand p l e R s m args below meth c T [] cells slots) (hT : T.heap = s.heap) : Stand p l e R s m args below meth c T [] 0 0 := by
  refine { X with same := ?_ }
  obtain ⟨h1, h2, h3, h4, h5, h6⟩ := X.same
  have hz : (T.setVm s.vm).heap = s.heap := hT
  refine ⟨h1, h2, by rw [hz]; exact Nat.le_refl _, h4, ?_, h6⟩
  rw [hz, List.drop_eq_nil_of_le (by simp)]
  exact Nat.zero_le _
set_option maxHeartbeats 1000000 in
/-- new X(); athrow, in a frame that has written nothing and that has no handler -/
theorem x_throw {E : xE} {d : Nat} {M : xM} {pc : Nat} {lv : xL} {st : List Value} {h : xH} {idx ic : Nat} {X : String} {names : List String} (hM : M.2.2.2.2 = []) (hlk : Cond.classLink M.1.cls idx X ∈ lw_tbl) (hins : Cond.instantiable X 6 ∈ lw_tbl) (hini : Cond.initialized X ∈ lw_tbl)
    (hat : ∀ a ∈ Bundle.ownAtoms0 M.1.cls ic X names, (a ∈ lw_tbl ∧ xper a = true) ∨ a = Cond.isRef (.static "java/lang/Throwable" "UNASSIGNED_STACK" "[Ljava/lang/StackTraceElement;") ∨ a = Cond.isRef (.static "java/lang/Throwable" "SUPPRESSED_SENTINEL" "Ljava/util/List;") ∨ a = Cond.laysStatic "java/lang/Throwable" "UNASSIGNED_STACK" "[Ljava/lang/StackTraceElement;" ∨ a = Cond.laysStatic "java/lang/Throwable" "SUPPRESSED_SENTINEL" "Ljava/util/List;")
    (hfit : Bundle.fit X = true) (hnames : ∀ n ∈ names, Bundle.fit n = true) (hlen : names.length ≤ 2) (hd0 : decode M.2.1 pc = .ok (.new idx, 3)) (hd3 : decode M.2.1 (pc + 3) = .ok (.dup, 1)) (hd4 : decode M.2.1 (pc + 4) = .ok (.invokespecial ic, 3)) (hd7 : decode M.2.1 (pc + 7) = .ok (.athrow, 1)) (hst : (st.map fun v => v.category).sum ≤ 8) :
    xG E (d + 1) M pc lv st false h (true, .inr (X, h.2.1), (h.1, h.2.1 + 1, h.2.2 + 6)) := by
  refine ⟨⟨Nat.le_add_right _ _, Nat.le_add_right _ _⟩, fun p e R s mid args below meth c H locs cells slots ls hX hI hl hlo hw hR hc hs => ?_⟩
  dsimp only at hc hs
  obtain ⟨rfl, rfl⟩ := hw rfl
  have hlocks := hX.1.2.2.2.2
  intro T hT X0
  have hat' : ∀ a ∈ Bundle.ownAtoms0 M.1.cls ic X names, a.before args s = true := by
    intro a ha
    rcases hat a ha with ⟨k1, k2⟩ | rfl | rfl | rfl | rfl
    · exact xwords hX k1 k2
    · obtain ⟨z1, z2, hu, -⟩ := hX.2.2.2.2.2
      exact vx_isRefq (xZ_here hu z1).1
    · obtain ⟨z1, z2, -, hu, -⟩ := hX.2.2.2.2.2
      exact vx_isRefq (xZ_here hu z1).1
    · obtain ⟨z1, z2, hu, -⟩ := hX.2.2.2.2.2
      exact (xZ_here hu z1).2.word
    · obtain ⟨z1, z2, -, hu, -⟩ := hX.2.2.2.2.2
      exact (xZ_here hu z1).2.word
  have hout : ∀ x ∈ c.exceptionTable.toList, covers x (pc + 7) = false := by
    have hnone : c.exceptionTable.toList = [] := by
      have := hX.2.1.2.2
      rw [hM] at this
      simpa using this
    rw [hnone]
    intro y hy
    cases hy
  have key : W p E.1 e R s mid args below meth c s.heap [] 0 0 (fun U => U.status = .running ∧ Ended U below (.threw s.heap.size) ∧ s.WarmedH U.vm ∧ s.sameButNew ({ U with vm := s.vm } : State) [] 1 6 ∧ ∃ ce, U.heap[s.heap.size]? = some ce ∧ s.vm.findClass X = some ce.cls ∧ ce.vm = .none) (F0 mid pc ls st) := by
    refine W.newc hX.1.1 hX.1.2.1 hX.2.1.1 (xwords hX hlk rfl) (xwords hX hins rfl) (xwords hX hini rfl) rfl hd0 (by omega) (by omega) (fun cC kC g1 g2 g3 g4 => ?_)
    refine lv_dup hX.1.1 hX.1.2.1 hd3 rfl ?_
    intro T1 hT1 X1
    have hmr : 2 * (F0 mid (pc + 4) ls (.ref s.heap.size :: .ref s.heap.size :: st)).monitorRoom + (st.map fun v => v.category).sum ≤ 8 := lv_room hst
    have hloc : 2 * (F0 mid (pc + 4) ls (.ref s.heap.size :: .ref s.heap.size :: st)).monitorRoom + ((Value.ref s.heap.size :: st).map fun v => v.category).sum + (13 * (names.length + 1) + 41) ≤ R.locals := by
      show 2 * (F0 mid (pc + 4) ls (.ref s.heap.size :: .ref s.heap.size :: st)).monitorRoom + (1 + (st.map fun v => v.category).sum) + (13 * (names.length + 1) + 41) ≤ R.locals
      omega
    obtain ⟨U, u1, u2, u3, u4, u5, ce, u6, u7⟩ := X1.ctorThrow0 hX.1.1 hX.2.2.2.2.1 hX.2.1.1 hfit hnames hat' (fun x hx => by cases hx) (a := s.heap.size) g1 g2 (by rw [hT1]; simp) (Nat.le_refl _) (g := F0 mid (pc + 4) ls (.ref s.heap.size :: .ref s.heap.size :: st)) rfl (by rw [hX.1.2.2.1]; exact hl.1) rfl rfl (rest := st) rfl (by rw [hX.1.2.1]; exact hd4) (by rw [hX.1.2.1]; exact hd7) hout (by omega) hloc (hlocks := hlocks)
    exact ⟨U, u1, u2, u3, u4, u5, ce, u6, u7.cls, u7.vm⟩
  obtain ⟨U, u1, u2, u3, u4, u5, ce, u6, u7, u8⟩ := key T hT (xfresh X0 hT)
  have hz : U.heap.size = s.heap.size + 1 := by
    have a1 := (Array.getElem?_eq_some_iff.mp u6).1
    have a2 := u5.2.2.1
    exact Nat.le_antisymm a2 a1
  have hsz := hI.1
  refine ⟨U, u1, u2, _, u3, ⟨by rw [← hsz], ce, by rw [← hsz]; exact u6, by rw [u4.alike.findClass]; exact u7, by rw [u8]; rfl⟩, u4, ?_, [], ?_, (fun q hq => by cases hq), fun hf => by cases hf⟩
  · exact (hI.moved u4.alike).bare (fun cell hcell => by rw [← hsz, u6] at hcell; cases hcell; rw [u8]; rfl) (by rw [hz, hsz]) (fun q hq => xsame_old u5 (by rw [hsz]; exact hq))
  · exact u5.mono (by dsimp only; omega) (by dsimp only; omega)
