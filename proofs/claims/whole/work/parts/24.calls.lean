/-- the words of a method that may be called: its code, its class made ready -/
def xHas (N : xM) : Prop := plainFor N.1 = true ∧ ((N.2.2.2.2 = [] ∧ Cond.code N.1 N.2.1 N.2.2.1 N.2.2.2.1 ∈ lw_tbl) ∨ Cond.codeWith N.1 N.2.1 N.2.2.1 N.2.2.2.1 N.2.2.2.2 ∈ lw_tbl) ∧ N.2.2.1 ≤ 20 ∧ (N.1.cls ≠ "java/lang/invoke/MethodHandle" ∧ N.1.cls ≠ "java/lang/invoke/VarHandle")
/-- the method found at a state -/
def xFd (N : xM) (s : State) (mk : MethodId) (methk : Method) (ck : Code) : Prop :=
  s.methodNamed? N.1 = some mk ∧ s.vm.method? mk = some methk ∧ methk.code = some ck ∧ ck.code = N.2.1 ∧ ck.maxLocals = N.2.2.1 ∧ methk.sig.returnType = N.2.2.2.1 ∧ methk.locks = false ∧ ck.exceptionTable.toList.map (fun h => (h.startPc, h.endPc, h.handlerPc, h.catchType)) = N.2.2.2.2 ∧ parseMethodDescriptor N.1.desc = some methk.sig
theorem xHas.at {E : xE} {M N : xM} {p : Program} {e : Env} {s : State} {mid : MethodId} {args : Array Value} {meth : Method} {c : Code} (hN : xHas N) (hX : xX E M p e s mid args meth c) : ∃ mk methk ck, xFd N s mk methk ck := by
  obtain ⟨-, h, -⟩ := hN
  rcases h with ⟨h0, h⟩ | h
  · have hc := xwords hX h rfl
    obtain ⟨mk, hn⟩ := Cond.code_named hc
    obtain ⟨methk, ck, h1, h2, h3, h4, h5, h6, h7, h8⟩ := Cond.code_spec hn hc
    refine ⟨mk, methk, ck, hn, h1, h2, h3, h4, h5, h6, ?_, h8⟩
    have hz : ck.exceptionTable.size = 0 := by simpa [Array.isEmpty] using h7
    have : ck.exceptionTable.toList = [] := List.eq_nil_of_length_eq_zero (by simpa using hz)
    rw [this, h0]; rfl
  · have hc := xwords hX h rfl
    obtain ⟨mk, methk, ck, hn, h1, h2, h3, h4, h5, h6, h7, h8⟩ := Cond.codeWith_spec hc
    exact ⟨mk, methk, ck, hn, h1, h2, h3, h4, h6, h7, h5, h8⟩
/-- the invoking instruction's own step -/
def xInv (p : Program) (l : Launch) (e : Env) (R : Room) (s : State) (m : MethodId) (args : Array Value) (below : List Frame) (meth : Method) (c : Code) (H : Heap) (locs : List Loc) (cells slots : Nat) (g : JFrame) (rest : List Value) (mk : MethodId) (as : Array Value) : Prop :=
  ∀ T : State, T.heap = H → Stand p l e R s m args below meth c T locs cells slots → ∃ vm₁, Stand p l e R s m args below meth c (T.setVm vm₁) locs cells slots ∧
    ∀ target, (∀ acts, Steps p.tables e below (doInvoke e ((T.setVm vm₁).setTop { g with stack := rest }) acts mk as).1 target) → Steps p.tables e below (T.setTop g) target
theorem xX.callee {E : xE} {M N : xM} {p : Program} {e : Env} {s U : State} {mid mk : MethodId} {args as : Array Value} {meth methk : Method} {c ck : Code} (hX : xX E M p e s mid args meth c) (hF : xFd N s mk methk ck) (hW : s.WarmedH U.vm) (hh : ∀ q : Nat, q < E.2.2.1 → U.heap[q]? = E.2.2.2[q]?) (hh2 : ∀ (q : Nat) (cell : Cell), E.2.2.1 ≤ q → U.heap[q]? = some cell → cell.vm.isStatics = false) : xX E N p e U mk as methk ck := by
  obtain ⟨f1, f2, f3, f4, f5, f6, f7, f8, f9⟩ := hF
  refine ⟨⟨hX.1.1, f4, f5, f6, f7⟩, ⟨?_, (name_of_methodNamed f1 f2).1, f8⟩, fun w hw hp => xper_keep hW hp (hX.2.2.1 w hw hp), va_K.moved hW.alike hX.2.2.2.1, hX.2.2.2.2.1, xZ_moved hW.alike hh hh2 hX.2.2.2.2.2⟩
  rw [hW.alike.findClass]
  exact findClass_of_methodNamed f1
theorem xweak {tb : Tables} {e : Env} {f : Frame} {below : List Frame} {s t : State} (h : Steps tb e (f :: below) s t) : Steps tb e below s t := by
  obtain ⟨n, hn, hw⟩ := h
  exact ⟨n, hn, fun k hk => Within.weaken (mid := [f]) (hw k hk)⟩
set_option maxHeartbeats 1000000 in
/-- inside the callee and back: what it comes to -/
theorem xcall {E : xE} {d : Nat} {M N : xM} {pc len : Nat} {ls : Array Slot} {st rest as : List Value} {h : xH} {r1 : xR} {p : Program} {e : Env} {R : Room} {s : State} {mid : MethodId} {args : Array Value} {below : List Frame} {meth : Method} {c : Code} {H : Heap} {locs : List Loc} {cells slots : Nat} {ig : Instr} {mk : MethodId} {methk : Method} {ck : Code}
    (hX : xX E M p e s mid args meth c) (hI : xI E s h H) (hls : ls.size = M.2.2.1) (hR : d + 1 + 5 ≤ R.frames ∧ 40 * (d + 1) + 120 ≤ R.locals) (hc : cells + (r1.2.2.2.1 - h.2.1) ≤ R.cells) (hs : slots + (r1.2.2.2.2 - h.2.2) ≤ R.slots)
    (hN : xHas N) (hF : xFd N s mk methk ck) (hinv : xInv p E.1 e R s mid args below meth c H locs cells slots (F0 mid pc ls st) rest mk as.toArray) (hdg : decode M.2.1 pc = .ok (ig, len)) (hlen : (lg_sl as).length ≤ N.2.2.1) (hrest : (rest.map fun v => v.category).sum ≤ 8)
    (hG : xG E d N 0 (lv_args 0 as) [] false h r1) (T : State) (hT : T.heap = H) (X : Stand p E.1 e R s mid args below meth c T locs cells slots) :
    ∃ (T' : State) (L : List Loc), Stand p E.1 e R s mid args below meth c T' (locs ++ L) (cells + (r1.2.2.2.1 - h.2.1)) (slots + (r1.2.2.2.2 - h.2.2)) ∧ (∀ q ∈ L, E.2.2.1 ≤ q.base) ∧ (r1.1 = false → L = [] ∧ T'.heap = H) ∧ xI E s r1.2.2 T'.heap ∧
      match r1.2.1 with
      | .inl v => ∀ target, Steps p.tables e below (T'.setTop (F0 mid (pc + len) ls (v.toList ++ rest))) target → Steps p.tables e below (T.setTop (F0 mid pc ls st)) target
      | .inr x => (∃ cell : Cell, T'.heap[x.2]? = some cell ∧ T'.vm.findClass x.1 = some cell.cls ∧ cell.vm.isStatics = false) ∧ ∀ target, Steps p.tables e below ((T'.setTop (F0 mid pc ls rest)).pushFrame (.throwing x.2)) target → Steps p.tables e below (T.setTop (F0 mid pc ls st)) target := by
  obtain ⟨vm₁, X₁, hst⟩ := hinv T hT X
  have hW₁ : s.WarmedH vm₁ := X₁.warmed
  have hdg' : decode c.code (F0 mid pc ls rest).pc = .ok (ig, len) := by rw [hX.1.2.1]; exact hdg
  have hmk : (T.setVm vm₁).vm.method? mk = some methk := by
    show vm₁.method? mk = some methk
    rw [hW₁.alike.method?]; exact hF.2.1
  have hnk : (T.setVm vm₁).methodNamed? N.1 = some mk := X₁.named hF.1
  have hpk : (T.setVm vm₁).plainMethod mk := State.plainMethod.of_named hN.1 hnk hmk
  have hsize : (F0 mid pc ls rest).locals.size = c.maxLocals := by rw [hX.1.2.2.1]; exact hls
  have hmr : 2 * (F0 mid pc ls rest).monitorRoom + (rest.map fun v => v.category).sum ≤ 8 := lv_room hrest
  have hckl : ck.maxLocals ≤ 20 := by rw [hF.2.2.2.2.1]; exact hN.2.2.1
  obtain ⟨Y, hY⟩ := X₁.into (g := F0 mid pc ls rest) rfl hsize hdg' (mk := mk) (methk := methk) (ck := ck) as.toArray (R' := { frames := d + 5, cells := r1.2.2.2.1 - h.2.1, slots := r1.2.2.2.2 - h.2.2, locals := 40 * d + 120 }) hmk hF.2.2.1 hF.2.2.2.2.2.2.1 hpk (by show d + 5 + 1 ≤ R.frames; omega) (by show 2 * (F0 mid pc ls rest).monitorRoom + (rest.map fun v => v.category).sum + (ck.maxLocals + 11) + (40 * d + 120) ≤ R.locals; omega) hc hs
  have hX2 : xX E N p e ((T.setVm vm₁).calling (F0 mid pc ls rest) mk as.toArray) mk as.toArray methk ck := hX.callee hF (show s.WarmedH vm₁ from hW₁) (fun q hq => by show T.heap[q]? = _; rw [hT]; exact hI.2.2.1 q hq) (fun q cell hq hcell => hI.2.2.2.2 q cell hq (by rw [← hT]; exact hcell))
  have hI2 : xI E ((T.setVm vm₁).calling (F0 mid pc ls rest) mk as.toArray) h H := hI.moved (show s.vm.Alike vm₁ from hW₁.alike)
  have hlv := lv_entry as (n := N.2.2.1) hlen
  have hwalk := hG.2 p e { frames := d + 5, cells := r1.2.2.2.1 - h.2.1, slots := r1.2.2.2.2 - h.2.2, locals := 40 * d + 120 } _ mk as.toArray (.java (F0 mid pc ls rest) :: below) methk ck H [] 0 0 _ hX2 hI2 hlv (fun q hq => by cases hq) (fun _ => ⟨rfl, hT.symm⟩) ⟨Nat.le_refl _, Nat.le_refl _⟩ (by simp) (by simp)
  rw [← lg_entry_eq, ← hF.2.2.2.2.1] at hwalk
  obtain ⟨t, hsteps, hrun, o, hend, hout, hWt, hIt, L, hsame, hLb, hpure⟩ := hwalk _ (show (((T.setVm vm₁).setTop (F0 mid pc ls rest)).pushFrame (Frame.java (entryFrame mk as.toArray ck.maxLocals))).heap = H from hT) Y
  simp only [Nat.zero_add] at hsame
  obtain ⟨w1, o1, h1⟩ := r1
  cases o1 with
  | inl v =>
    have ho : o = .returned v := hout
    subst ho
    obtain ⟨T', X', hWT, -, ht⟩ := X₁.outOf (g := F0 mid pc ls rest) rfl hdg' hend hWt hsame
    have hheap : t.heap = T'.heap := by rw [ht]; rfl
    have hvm : t.vm = T'.vm := by rw [ht]; rfl
    refine ⟨T', L, X', hLb, fun hf => ⟨(hpure hf).1, by rw [← hheap, (hpure hf).2]; exact hT⟩, ?_, fun target htg => hst target fun acts => ?_⟩
    · rw [← hheap]
      exact hIt.moved (by rw [hvm]; exact X'.warmed.alike.symm)
    · rw [hY acts]
      exact (xweak hsteps).trans (by rw [ht]; exact htg)
  | inr x =>
    obtain ⟨ho, cell, k1, k2, k3⟩ := hout
    subst ho
    obtain ⟨T', X', hWT, -, ht⟩ := X₁.outOfThrown (g := F0 mid pc ls rest) rfl hend hWt hsame
    have hheap : t.heap = T'.heap := by rw [ht]; rfl
    have hvm : t.vm = T'.vm := by rw [ht]; rfl
    refine ⟨T', L, X', hLb, fun hf => ⟨(hpure hf).1, by rw [← hheap, (hpure hf).2]; exact hT⟩, ?_, ⟨cell, by rw [← hheap]; exact k1, by rw [← hvm]; exact k2, k3⟩, fun target htg => hst target fun acts => ?_⟩
    · rw [← hheap]
      exact hIt.moved (by rw [hvm]; exact X'.warmed.alike.symm)
    · rw [hY acts]
      exact (xweak hsteps).trans (by rw [ht]; exact htg)
/-- a call that returns -/
theorem xG.ret {E : xE} {d : Nat} {M N : xM} {pc : Nat} {lv : xL} {st rest as : List Value} {w w1 : Bool} {h h1 : xH} {v : Option Value} {r : xR} {ig : Instr} (hN : xHas N) (hdg : decode M.2.1 pc = .ok (ig, 3)) (hlen : (lg_sl as).length ≤ N.2.2.1) (hrest : (rest.map fun v => v.category).sum ≤ 8)
    (hinv : ∀ {p : Program} {e : Env} {R : Room} {s : State} {mid : MethodId} {args : Array Value} {below : List Frame} {meth : Method} {c : Code} {H : Heap} {locs : List Loc} {cells slots : Nat} {ls : Array Slot} {mk : MethodId} {methk : Method} {ck : Code}, xX E M p e s mid args meth c → xI E s h H → xFd N s mk methk ck → xInv p E.1 e R s mid args below meth c H locs cells slots (F0 mid pc ls st) rest mk as.toArray)
    (hG : xG E d N 0 (lv_args 0 as) [] false h (w1, .inl v, h1)) (k : xG E (d + 1) M (pc + 3) lv (v.toList ++ rest) (w || w1) h1 r) : xG E (d + 1) M pc lv st w h r := by
  have m1 := hG.1
  have m2 := k.1
  dsimp only at m1
  refine ⟨⟨by omega, by omega⟩, fun p e R s mid args below meth c H locs cells slots ls hX hI hl hlo hw hR hc hs => ?_⟩
  obtain ⟨mk, methk, ck, hF⟩ := hN.at hX
  intro T hT X
  obtain ⟨T', L, X', hL, hpu, hI', hst⟩ := xcall hX hI hl.1 hR (by dsimp only; omega) (by dsimp only; omega) hN hF (hinv hX hI hF) hdg hlen hrest hG T hT X
  dsimp only at X' hst
  have kk := k.2 p e R s mid args below meth c T'.heap (locs ++ L) (cells + (h1.2.1 - h.2.1)) (slots + (h1.2.2 - h.2.2)) ls hX hI' hl (fun q hq => (List.mem_append.mp hq).elim (hlo q) (hL q)) (fun hf => by
    rw [Bool.or_eq_false_iff] at hf
    obtain ⟨e1, e2⟩ := hw hf.1
    obtain ⟨e3, e4⟩ := hpu hf.2
    exact ⟨by rw [e1, e3]; rfl, e4.trans e2⟩) hR (by omega) (by omega)
  obtain ⟨t, a1, b1⟩ := kk T' rfl X'
  refine ⟨t, hst t a1, ?_⟩
  rw [show cells + (r.2.2.2.1 - h.2.1) = cells + (h1.2.1 - h.2.1) + (r.2.2.2.1 - h1.2.1) by omega, show slots + (r.2.2.2.2 - h.2.2) = slots + (h1.2.2 - h.2.2) + (r.2.2.2.2 - h1.2.2) by omega]
  exact b1
/-- a call that throws, in a method without handlers -/
theorem xG.thr {E : xE} {d : Nat} {M N : xM} {pc : Nat} {lv : xL} {st rest as : List Value} {w w1 : Bool} {h h1 : xH} {x : String × Nat} {ig : Instr} (hM : M.2.2.2.2 = []) (hN : xHas N) (hdg : decode M.2.1 pc = .ok (ig, 3)) (hlen : (lg_sl as).length ≤ N.2.2.1) (hrest : (rest.map fun v => v.category).sum ≤ 8)
    (hinv : ∀ {p : Program} {e : Env} {R : Room} {s : State} {mid : MethodId} {args : Array Value} {below : List Frame} {meth : Method} {c : Code} {H : Heap} {locs : List Loc} {cells slots : Nat} {ls : Array Slot} {mk : MethodId} {methk : Method} {ck : Code}, xX E M p e s mid args meth c → xI E s h H → xFd N s mk methk ck → xInv p E.1 e R s mid args below meth c H locs cells slots (F0 mid pc ls st) rest mk as.toArray)
    (hG : xG E d N 0 (lv_args 0 as) [] false h (w1, .inr x, h1)) : xG E (d + 1) M pc lv st w h (true, .inr x, h1) := by
  refine ⟨hG.1, fun p e R s mid args below meth c H locs cells slots ls hX hI hl hlo hw hR hc hs => ?_⟩
  obtain ⟨mk, methk, ck, hF⟩ := hN.at hX
  intro T hT X
  obtain ⟨T', L, X', hL, hpu, hI', ⟨cell, k1, k2, k3⟩, hst⟩ := xcall (r1 := (w1, .inr x, h1)) hX hI hl.1 hR hc hs hN hF (hinv hX hI hF) hdg hlen hrest hG T hT X
  have hnone : c.exceptionTable.toList = [] := by
    have := hX.2.1.2.2
    rw [hM] at this
    simpa using this
  obtain ⟨w1, w2, w3, w4, w5⟩ := X'.leaveThrown x.2 (g := F0 mid pc ls rest) rfl rfl rfl (by rw [hnone]; intro y hy; cases hy) (hlocks := hX.1.2.2.2.2)
  refine ⟨_, hst _ w1, w2, _, w3, ⟨rfl, cell, k1, k2, k3⟩, w4, ?_, _, w5, fun q hq => (List.mem_append.mp hq).elim (hlo q) (hL q), fun hf => by cases hf⟩
  exact hI'.moved (show s.vm.Alike (T'.setFrames _).vm from w4.alike)
theorem xinv_V {E : xE} {M N : xM} {pc idx ci : Nat} {rest as : List Value} {b : Nat} {fs : List Value} {h : xH} {p : Program} {e : Env} {R : Room} {s : State} {mid : MethodId} {args : Array Value} {below : List Frame} {meth : Method} {c : Code} {H : Heap} {locs : List Loc} {cells slots : Nat} {ls : Array Slot} {mk : MethodId} {methk : Method} {ck : Code}
    (hdg : decode M.2.1 pc = .ok (.invokevirtual idx, 3)) (hlk : Cond.methodLink M.1.cls idx N.1 ∈ lw_tbl) (hin : Cond.instanceMethod N.1 ∈ lw_tbl) (hse : Cond.selects N.1.cls N.1 N.1 ∈ lw_tbl) (hN : xHas N) (hb : h.1 b = some (.inr (ci, fs))) (hci : (classes[ci]?).map (fun q => q.1) = some N.1.cls) (hn : (parseMethodDescriptor N.1.desc).map (fun q => q.parameters.length) = some as.length)
    (hX : xX E M p e s mid args meth c) (hI : xI E s h H) (hF : xFd N s mk methk ck) : xInv p E.1 e R s mid args below meth c H locs cells slots (F0 mid pc ls (as.reverse ++ .ref b :: rest)) rest mk (.ref b :: as).toArray := by
  intro T hT X
  obtain ⟨r0, h1, cell, q1, q2, q3, q4⟩ := hI.2.2.2.1 b _ hb
  have hcl : r0.1 = N.1.cls := by
    rw [h1] at hci
    exact Option.some.inj hci
  have hfc : s.vm.findClass N.1.cls = some cell.cls := by
    rw [q2, ← hcl]
    exact (hX.2.2.2.1.1 ci _ h1).2.1
  obtain ⟨f1, f2, f3, f4, f5, f6, f7, f8, f9⟩ := hF
  obtain ⟨mk', methM, hnamed, hmethM, hstM, habM⟩ := Cond.instanceMethod_spec (xwords hX hin rfl)
  cases f1.symm.trans hnamed
  cases f2.symm.trans hmethM
  obtain ⟨c2, r2, m2, g1, g2, g3, g4, kP, hkP, hkPi⟩ := Cond.selects_spec (xwords hX hse rfl)
  cases hfc.symm.trans g1
  cases (State.methodFound?_of_named f1 hN.2.2.2).symm.trans g2
  cases f1.symm.trans g3
  have hselP : selectMethod e.platform s.vm cell.cls mk = .method mk := by rw [Launch.admits_selectMethod X.admits]; exact g4
  obtain ⟨vm₁, X₁, hstep₁⟩ := X.invokevirtual hX.1.1 hX.2.1.1 (xwords hX hlk rfl) f1 f2 hstM hkP hkPi hN.2.2.2 (a := b) (cell := cell) (by rw [hT]; exact q1)
    (fun z hz => by rw [q3] at hz; cases hz) hselP f2 habM hkP hkPi (g := F0 mid pc ls (as.reverse ++ .ref b :: rest)) rfl (argsL := as) (rest := rest) (by rw [f9] at hn; exact (Option.some.inj hn).symm) rfl (by rw [hX.1.2.1]; exact hdg)
  exact ⟨vm₁, X₁, hstep₁⟩
theorem xinv_S {E : xE} {M N : xM} {pc idx : Nat} {rest as : List Value} {p : Program} {e : Env} {R : Room} {s : State} {mid : MethodId} {args : Array Value} {below : List Frame} {meth : Method} {c : Code} {H : Heap} {locs : List Loc} {cells slots : Nat} {ls : Array Slot} {mk : MethodId} {methk : Method} {ck : Code}
    (hdg : decode M.2.1 pc = .ok (.invokestatic idx, 3)) (hlk : Cond.methodLink M.1.cls idx N.1 ∈ lw_tbl) (hst : Cond.static N.1 ∈ lw_tbl) (hini : Cond.initialized N.1.cls ∈ lw_tbl) (hN : xHas N) (hn : (parseMethodDescriptor N.1.desc).map (fun q => q.parameters.length) = some as.length)
    (hX : xX E M p e s mid args meth c) (hF : xFd N s mk methk ck) : xInv p E.1 e R s mid args below meth c H locs cells slots (F0 mid pc ls (as.reverse ++ rest)) rest mk as.toArray := by
  intro T hT X
  obtain ⟨f1, f2, f3, f4, f5, f6, f7, f8, f9⟩ := hF
  have hstatic : methk.isStatic = true := Cond.static_spec f1 f2 (xwords hX hst rfl)
  obtain ⟨kP, hkP, -⟩ := className_of_methodNamed f1
  have hinitP : kP.init = .initialized := Cond.initialized_spec (findClass_of_methodNamed f1) hkP (xwords hX hini rfl)
  obtain ⟨vm₁, X₁, hstep₁⟩ := X.invokestatic hX.1.1 hX.2.1.1 (xwords hX hlk rfl) f1 f2 hstatic hkP hinitP hN.2.2.2 (g := F0 mid pc ls (as.reverse ++ rest)) rfl (argsL := as) (rest := rest) (by rw [f9] at hn; exact (Option.some.inj hn).symm) rfl (by rw [hX.1.2.1]; exact hdg)
  exact ⟨vm₁, X₁, hstep₁⟩
theorem xinv_I {E : xE} {M N : xM} {pc idx : Nat} {rest as : List Value} {b : Nat} {p : Program} {e : Env} {R : Room} {s : State} {mid : MethodId} {args : Array Value} {below : List Frame} {meth : Method} {c : Code} {H : Heap} {locs : List Loc} {cells slots : Nat} {ls : Array Slot} {mk : MethodId} {methk : Method} {ck : Code}
    (hdg : decode M.2.1 pc = .ok (.invokespecial idx, 3)) (hlk : Cond.methodLink M.1.cls idx N.1 ∈ lw_tbl) (hin : Cond.instanceMethod N.1 ∈ lw_tbl) (hname : N.1.name = "<init>") (hcw : Cond.code N.1 N.2.1 N.2.2.1 none ∈ lw_tbl) (hN : xHas N) (hn : (parseMethodDescriptor N.1.desc).map (fun q => q.parameters.length) = some as.length)
    (hX : xX E M p e s mid args meth c) (hF : xFd N s mk methk ck) : xInv p E.1 e R s mid args below meth c H locs cells slots (F0 mid pc ls (as.reverse ++ .ref b :: rest)) rest mk (.ref b :: as).toArray := by
  intro T hT X
  have hpl : e.platform.magicAccessors = ({} : Platform).magicAccessors := by rw [X.admits.platform]
  obtain ⟨tm, methM, cM, kP, vm₁, hnamed, hmethM, hcodeM, -, hlocalsM, -, hkP, -, hW₁, hstep₁⟩ := Steps.initColdArgs (e := e) X.here hX.1.1 X.warmed hpl hX.2.1.1 hname hN.2.2.2 (xwords hX hlk rfl) (xwords hX hin rfl) (xwords hX hcw rfl) (f := F0 mid pc ls (as.reverse ++ .ref b :: rest)) rfl (a := b) (argsL := as) (rest := rest) (fun sig hsig => by rw [hsig] at hn; exact (Option.some.inj hn).symm) rfl (by rw [hX.1.2.1]; exact hdg)
  cases hF.1.symm.trans hnamed
  exact ⟨vm₁, X.noted hW₁, hstep₁⟩
