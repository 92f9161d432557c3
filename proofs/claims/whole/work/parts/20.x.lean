/-! The x-layer: one judgement xG for a method's frame over an ABSTRACT heap (a function from addresses to arrays and objects), by kit rows; calls are walked inside (Stand.into, Stand.outOf), so a callee is used by its own xG. -/
abbrev xA : Type := (Nat → Int32) ⊕ (Nat → Int64) ⊕ (Nat → Option Nat)
abbrev xC : Type := (FieldType × Nat × xA) ⊕ (Nat × List Value)
abbrev xH : Type := (Nat → Option xC) × Nat × Nat
abbrev xL : Type := List (Nat × Value)
abbrev xO : Type := Option Value ⊕ (String × Nat)
/-- how a frame ends: was anything written or made, what it answered, the heap -/
abbrev xR : Type := Bool × xO × xH
/-- a method: its name, its bytes, its locals, its return type, its handlers -/
abbrev xM : Type := MethodName × ByteArray × Nat × Option FieldType × List (Nat × Nat × Nat × Nat)
/-- what is fixed: the launch, the classes' numbers and slots, the first address that is ours, the heap below it -/
abbrev xE : Type := Launch × va_G × Nat × Heap
def xval (f : xA) (j : Nat) : Value := match f with
  | .inl g => .int (g j)
  | .inr (.inl g) => .long (g j)
  | .inr (.inr g) => va_rf (g j)
def xset (h : xH) (a : Nat) (c : xC) : xH := (fun q => if q = a then some c else h.1 q, h.2.1, h.2.2)
def xadd (h : xH) (c : xC) (n : Nat) : xH := (fun q => if q = h.2.1 then some c else h.1 q, h.2.1 + 1, h.2.2 + n)
theorem xset_eq (h : xH) (a : Nat) (c : xC) : (xset h a c).1 a = some c := by simp [xset]
theorem xset_ne (h : xH) {a q : Nat} (c : xC) (hq : q ≠ a) : (xset h a c).1 q = h.1 q := by simp [xset, hq]
theorem xset_sz (h : xH) (a : Nat) (c : xC) : (xset h a c).2.1 = h.2.1 := rfl
theorem xset_us (h : xH) (a : Nat) (c : xC) : (xset h a c).2.2 = h.2.2 := rfl
theorem xadd_eq (h : xH) (c : xC) (n : Nat) : (xadd h c n).1 h.2.1 = some c := by simp [xadd]
theorem xadd_ne (h : xH) {q : Nat} (c : xC) (n : Nat) (hq : q ≠ h.2.1) : (xadd h c n).1 q = h.1 q := by simp [xadd, hq]
theorem xadd_sz (h : xH) (c : xC) (n : Nat) : (xadd h c n).2.1 = h.2.1 + 1 := rfl
theorem xadd_us (h : xH) (c : xC) (n : Nat) : (xadd h c n).2.2 = h.2.2 + n := rfl
def xRA (U : State) (cA : ClassId) (ty : FieldType) : Prop := match ty with
  | .object C => ∃ (kA : Class) (comp : ClassId), U.vm.classes[cA]? = some kA ∧ kA.kind = .array comp (.object C) ∧ U.vm.findClass C = some comp
  | _ => True
theorem xRA.moved {u U : State} (hvm : u.vm.Alike U.vm) {cA : ClassId} {ty : FieldType} (h : xRA u cA ty) : xRA U cA ty := by
  cases ty with
  | object C =>
    obtain ⟨kA, comp, h1, h2, h3⟩ := h
    obtain ⟨k', hk', he⟩ := hvm.2.2 _ _ h1
    exact ⟨k', comp, hk', by rw [he]; exact h2, by rw [hvm.findClass]; exact h3⟩
  | _ => trivial
def xAt (D : va_G) (U : State) (H : Heap) (a : Nat) (c : xC) : Prop := match c with
  | .inl x => ∃ cell : Cell, H[a]? = some cell ∧ U.isArrayOf cell x.1 ∧ cell.vm ≠ .unknown ∧ cell.slots.size = x.2.1 ∧ (∀ j, j < x.2.1 → cell.slots[j]? = some (xval x.2.2 j)) ∧ xRA U cell.cls x.1
  | .inr o => ∃ r : vw_C, classes[o.1]? = some r ∧ t_OB a (D.1 o.1) r.2.2 (D.2 o.1) H (vp_V o.2)
theorem xAt.kept {D : va_G} {U : State} {H H1 : Heap} {a : Nat} {c : xC} (h : xAt D U H a c) (hq : H1[a]? = H[a]?) : xAt D U H1 a c := by
  cases c with
  | inl x =>
    obtain ⟨cell, h1, h2⟩ := h
    exact ⟨cell, by rw [hq]; exact h1, h2⟩
  | inr o =>
    obtain ⟨r, h1, h2⟩ := h
    exact ⟨r, h1, h2.kept hq⟩
theorem xAt.moved {D : va_G} {u U : State} {H : Heap} {a : Nat} {c : xC} (hvm : u.vm.Alike U.vm) (h : xAt D u H a c) : xAt D U H a c := by
  cases c with
  | inl x =>
    obtain ⟨cell, h1, h2, h3, h4, h5, h6⟩ := h
    exact ⟨cell, h1, State.isArrayOf_alike hvm h2, h3, h4, h5, h6.moved hvm⟩
  | inr o => exact h
theorem xAt.lt {D : va_G} {U : State} {H : Heap} {a : Nat} {c : xC} (h : xAt D U H a c) : a < H.size := by
  cases c with
  | inl x =>
    obtain ⟨cell, h1, -⟩ := h
    exact (Array.getElem?_eq_some_iff.mp h1).1
  | inr o =>
    obtain ⟨r, -, cell, h2, -⟩ := h
    exact (Array.getElem?_eq_some_iff.mp h2).1
def xI (E : xE) (U : State) (h : xH) (H : Heap) : Prop :=
  H.size = h.2.1 ∧ E.2.2.1 ≤ H.size ∧ (∀ q : Nat, q < E.2.2.1 → H[q]? = E.2.2.2[q]?) ∧ (∀ (a : Nat) (c : xC), h.1 a = some c → xAt E.2.1 U H a c) ∧ ∀ (q : Nat) (cell : Cell), E.2.2.1 ≤ q → H[q]? = some cell → cell.vm.isStatics = false
theorem xI.moved {E : xE} {u U : State} {h : xH} {H : Heap} (hvm : u.vm.Alike U.vm) (k : xI E u h H) : xI E U h H :=
  ⟨k.1, k.2.1, k.2.2.1, fun a c hc => (k.2.2.2.1 a c hc).moved hvm, k.2.2.2.2⟩
/-- one cell of ours written -/
theorem xI.put {E : xE} {U : State} {h : xH} {H H1 : Heap} {a : Nat} {c : xC} (k : xI E U h H) (ha : E.2.2.1 ≤ a) (hc : xAt E.2.1 U H1 a c) (hs : ∀ cell, H1[a]? = some cell → cell.vm.isStatics = false) (hz : H1.size = H.size) (ho : ∀ q, q ≠ a → H1[q]? = H[q]?) : xI E U (xset h a c) H1 := by
  obtain ⟨k1, k2, k3, k4, k5⟩ := k
  refine ⟨by rw [hz]; exact k1, by rw [hz]; exact k2, fun q hq => by rw [ho q (by omega)]; exact k3 q hq, fun q x hx => ?_, fun q cell hq hcell => ?_⟩
  · by_cases hqa : q = a
    · subst hqa
      rw [xset_eq] at hx
      cases hx
      exact hc
    · rw [xset_ne _ _ hqa] at hx
      exact (k4 q x hx).kept (ho q hqa)
  · by_cases hqa : q = a
    · subst hqa
      exact hs cell hcell
    · exact k5 q cell hq (by rw [← ho q hqa]; exact hcell)
/-- one cell made -/
theorem xI.new {E : xE} {U : State} {h : xH} {H H1 : Heap} {c : xC} {n : Nat} (k : xI E U h H) (hc : xAt E.2.1 U H1 h.2.1 c) (hs : ∀ cell, H1[h.2.1]? = some cell → cell.vm.isStatics = false) (hz : H1.size = h.2.1 + 1) (ho : ∀ q, q < h.2.1 → H1[q]? = H[q]?) : xI E U (xadd h c n) H1 := by
  obtain ⟨k1, k2, k3, k4, k5⟩ := k
  refine ⟨hz, by omega, fun q hq => by rw [ho q (by omega)]; exact k3 q hq, fun q x hx => ?_, fun q cell hq hcell => ?_⟩
  · by_cases hqa : q = h.2.1
    · subst hqa
      rw [xadd_eq] at hx
      cases hx
      exact hc
    · rw [xadd_ne _ _ _ hqa] at hx
      have hl := (k4 q x hx).lt
      exact (k4 q x hx).kept (ho q (by omega))
  · by_cases hqa : q = h.2.1
    · subst hqa
      exact hs cell hcell
    · have hl : q < H1.size := (Array.getElem?_eq_some_iff.mp hcell).1
      exact k5 q cell hq (by rw [← ho q (by omega)]; exact hcell)
/-- one cell made of which the picture says nothing -/
theorem xI.bare {E : xE} {U : State} {h : xH} {H H1 : Heap} {n : Nat} (k : xI E U h H) (hs : ∀ cell, H1[h.2.1]? = some cell → cell.vm.isStatics = false) (hz : H1.size = h.2.1 + 1) (ho : ∀ q, q < h.2.1 → H1[q]? = H[q]?) : xI E U (h.1, h.2.1 + 1, h.2.2 + n) H1 := by
  obtain ⟨k1, k2, k3, k4, k5⟩ := k
  refine ⟨hz, by omega, fun q hq => by rw [ho q (by omega)]; exact k3 q hq, fun q x hx => ?_, fun q cell hq hcell => ?_⟩
  · have hl := (k4 q x hx).lt
    exact (k4 q x hx).kept (ho q (by omega))
  · by_cases hqa : q = h.2.1
    · subst hqa
      exact hs cell hcell
    · have hl : q < H1.size := (Array.getElem?_eq_some_iff.mp hcell).1
      exact k5 q cell hq (by rw [← ho q (by omega)]; exact hcell)
def xOut (t : State) (o : Outcome) (r : xO) : Prop := match r with
  | .inl v => o = .returned v
  | .inr x => o = .threw x.2 ∧ ∃ cell : Cell, t.heap[x.2]? = some cell ∧ t.vm.findClass x.1 = some cell.cls ∧ cell.vm.isStatics = false
def xMQ (E : xE) (below : List Frame) (s : State) (r : xR) (k n : Nat) : State → Prop := fun t =>
  t.status = .running ∧ ∃ o, Ended t below o ∧ xOut t o r.2.1 ∧ s.WarmedH t.vm ∧ xI E t r.2.2 t.heap ∧ ∃ L, s.sameButNew ({ t with vm := s.vm } : State) L k n ∧ (∀ q ∈ L, E.2.2.1 ≤ q.base) ∧ (r.1 = false → L = [] ∧ t.heap = s.heap)
/-- what the throwing of exceptions needs of the start: the heap below ours as it was, nothing of ours holds statics, Throwable's two statics -/
def xZ (E : xE) (s : State) : Prop := (∀ q : Nat, q < E.2.2.1 → s.heap[q]? = E.2.2.2[q]?) ∧ (∀ (q : Nat) (cell : Cell), E.2.2.1 ≤ q → s.heap[q]? = some cell → cell.vm.isStatics = false) ∧
  vx_Zq "java/lang/Throwable" "UNASSIGNED_STACK" "[Ljava/lang/StackTraceElement;" (fun q => E.2.2.1 ≤ q) s E.2.2.2 ∧ vx_Zq "java/lang/Throwable" "SUPPRESSED_SENTINEL" "Ljava/util/List;" (fun q => E.2.2.1 ≤ q) s E.2.2.2 ∧
  va_Nc "java/lang/IllegalStateException" "java/lang/IllegalArgumentException" s ∧ va_Nc "java/lang/IllegalStateException" "java/util/NoSuchElementException" s ∧ va_Nc "java/lang/IllegalArgumentException" "java/util/NoSuchElementException" s
theorem xZ_moved {E : xE} {s U : State} (hvm : s.vm.Alike U.vm) (hh : ∀ q : Nat, q < E.2.2.1 → U.heap[q]? = E.2.2.2[q]?) (hh2 : ∀ (q : Nat) (cell : Cell), E.2.2.1 ≤ q → U.heap[q]? = some cell → cell.vm.isStatics = false) (h : xZ E s) : xZ E U := by
  obtain ⟨-, -, h1, h2, h3, h4, h5⟩ := h
  exact ⟨hh, hh2, h1.moved hvm, h2.moved hvm, h3.moved hvm, h4.moved hvm, h5.moved hvm⟩
theorem xZ_here {E : xE} {C n d : String} {s : State} (hz : vx_Zq C n d (fun q => E.2.2.1 ≤ q) s E.2.2.2) (hh : ∀ q : Nat, q < E.2.2.1 → s.heap[q]? = E.2.2.2[q]?) : vx_Zq C n d (fun q => E.2.2.1 ≤ q) s s.heap :=
  hz.kept (fun a _ ha => hh a (Nat.not_le.mp ha))
/-- the words that stay true as the tables grow warmer -/
def xper (w : Cond) : Bool := goodWord w || match w with
  | .castable .. => true
  | .declares _ => true
  | .arrayOver (.object _) => true
  | .arrayOver (.array _) => true
  | .not (.castable ..) => true
  | _ => false
theorem xAOA_moved {t : FieldType} {args a' : Array Value} {u U : State} (hvm : u.vm.Alike U.vm) (h : (Cond.arrayOver (.array t)).before args u = true) : (Cond.arrayOver (.array t)).before a' U = true := by
  obtain ⟨comp, c, k, h1, h2, h3, h4, h5⟩ := arrayOverA_spec h
  obtain ⟨k', hk', he⟩ := hvm.2.2 _ _ h3
  have hi : (U.vm.classes.findIdx? fun (x : Class) => match x.kind with | .array component _ => component == comp | _ => false) = some c := by
    rw [hvm.findIdx?_eq _ (fun _ => rfl)]
    exact h2
  have hkind : k'.kind = .array comp (.array t) := by rw [he]; exact h4
  have f1 : U.vm.findClass (FieldType.array t).toString = some comp := by rw [hvm.findClass]; exact h1
  have f2 : U.vm.findClass ("[" ++ (FieldType.array t).toString) = some c := by rw [hvm.findClass]; exact h5
  unfold Cond.before Cond.holds
  simp only [Cond.value]
  rw [f1, Option.bind_some]
  refine (congrArg (fun o : Option Nat => (o.bind (fun c => (U.vm.classes[c]?).map fun (k : Class) => match k.kind with | .array _ ty => decide (ty = FieldType.array t) && decide (U.vm.findClass ("[" ++ (FieldType.array t).toString) = some c) | _ => false) == some true)) hi).trans ?_
  simp [hk', hkind, f2]
theorem xper_keep {args a' : Array Value} {s U : State} (hW : s.WarmedH U.vm) {w : Cond} (hp : xper w = true) (h : w.before args s = true) : w.before a' U = true := by
  unfold xper at hp
  rw [Bool.or_eq_true] at hp
  rcases hp with hp | hp
  · exact word_at hW (good_of_word hp) h
  · split at hp
    · rw [← Cond.castable_setVm hW.alike] at h
      exact h
    · rw [← Cond.declares_setVm hW.alike] at h
      exact h
    · exact va_AO.moved hW.alike h
    · exact xAOA_moved hW.alike h
    · exact Cond.castAtom_setVm hW.alike _ rfl h
    · cases hp
def xX (E : xE) (M : xM) (p : Program) (e : Env) (s : State) (mid : MethodId) (args : Array Value) (meth : Method) (c : Code) : Prop :=
  (p.tables.exec = Jvm.exec ∧ c.code = M.2.1 ∧ c.maxLocals = M.2.2.1 ∧ meth.sig.returnType = M.2.2.2.1 ∧ meth.locks = false) ∧
  (s.vm.findClass M.1.cls = some mid.cls ∧ meth.name = M.1.name ∧ c.exceptionTable.toList.map (fun h => (h.startPc, h.endPc, h.handlerPc, h.catchType)) = M.2.2.2.2) ∧
  (∀ w ∈ lw_tbl, xper w = true → w.before args s = true) ∧ va_K E.2.1 classes [] s ∧ e.platform.stackTraces = false ∧ xZ E s
/-- the judgement: from this frame over the abstract heap h the method comes to its end r -/
def xG (E : xE) (d : Nat) (M : xM) (pc : Nat) (lv : xL) (st : List Value) (w : Bool) (h : xH) (r : xR) : Prop :=
  (h.2.1 ≤ r.2.2.2.1 ∧ h.2.2 ≤ r.2.2.2.2) ∧
  ∀ (p : Program) (e : Env) (R : Room) (s : State) (mid : MethodId) (args : Array Value) (below : List Frame) (meth : Method) (c : Code) (H : Heap) (locs : List Loc) (cells slots : Nat) (ls : Array Slot),
    xX E M p e s mid args meth c → xI E s h H → lv_has ls M.2.2.1 lv → (∀ q ∈ locs, E.2.2.1 ≤ q.base) → (w = false → locs = [] ∧ H = s.heap) → (d + 5 ≤ R.frames ∧ 40 * d + 120 ≤ R.locals) →
    cells + (r.2.2.2.1 - h.2.1) ≤ R.cells → slots + (r.2.2.2.2 - h.2.2) ≤ R.slots →
    W p E.1 e R s mid args below meth c H locs cells slots (xMQ E below s r (cells + (r.2.2.2.1 - h.2.1)) (slots + (r.2.2.2.2 - h.2.2))) (F0 mid pc ls st)
/-- a step that leaves the heap -/
theorem xG.go {E : xE} {d : Nat} {M : xM} {pc pc' : Nat} {lv lv' : xL} {st st' : List Value} {w : Bool} {h : xH} {r : xR} (k : xG E d M pc' lv' st' w h r)
    (step : ∀ {p : Program} {e : Env} {R : Room} {s : State} {mid : MethodId} {args : Array Value} {below : List Frame} {meth : Method} {c : Code} {H : Heap} {locs : List Loc} {cells slots : Nat} {ls : Array Slot} {Q : State → Prop},
      xX E M p e s mid args meth c → lv_has ls M.2.2.1 lv → (∀ ls' : Array Slot, lv_has ls' M.2.2.1 lv' → W p E.1 e R s mid args below meth c H locs cells slots Q (F0 mid pc' ls' st')) → W p E.1 e R s mid args below meth c H locs cells slots Q (F0 mid pc ls st)) :
    xG E d M pc lv st w h r :=
  ⟨k.1, fun p e R s mid args below meth c H locs cells slots ls hX hI hl hlo hw hR hc hs => step hX hl (fun ls' hl' => k.2 p e R s mid args below meth c H locs cells slots ls' hX hI hl' hlo hw hR hc hs)⟩
/-- a branch -/
theorem xG.br {E : xE} {d : Nat} {M : xM} {pc p1 p2 : Nat} {lv : xL} {st st' : List Value} {w : Bool} {h : xH} {r : xR} {P : Prop} (k1 : P → xG E d M p1 lv st' w h r) (k2 : ¬ P → xG E d M p2 lv st' w h r)
    (step : ∀ {p : Program} {e : Env} {R : Room} {s : State} {mid : MethodId} {args : Array Value} {below : List Frame} {meth : Method} {c : Code} {H : Heap} {locs : List Loc} {cells slots : Nat} {ls : Array Slot} {Q : State → Prop},
      xX E M p e s mid args meth c → (P → W p E.1 e R s mid args below meth c H locs cells slots Q (F0 mid p1 ls st')) → (¬ P → W p E.1 e R s mid args below meth c H locs cells slots Q (F0 mid p2 ls st')) → W p E.1 e R s mid args below meth c H locs cells slots Q (F0 mid pc ls st)) :
    xG E d M pc lv st w h r := by
  refine ⟨by by_cases hP : P; exact (k1 hP).1; exact (k2 hP).1, fun p e R s mid args below meth c H locs cells slots ls hX hI hl hlo hw hR hc hs => step hX (fun hP => ?_) (fun hP => ?_)⟩
  · exact (k1 hP).2 p e R s mid args below meth c H locs cells slots ls hX hI hl hlo hw hR hc hs
  · exact (k2 hP).2 p e R s mid args below meth c H locs cells slots ls hX hI hl hlo hw hR hc hs
theorem xW_mono {p : Program} {l : Launch} {e : Env} {R : Room} {s : State} {m : MethodId} {args : Array Value} {below : List Frame} {meth : Method} {c : Code} {H : Heap} {locs : List Loc} {cells slots : Nat} {Q Q' : State → Prop} {g : JFrame}
    (hQ : ∀ t, Q t → Q' t) (k : W p l e R s m args below meth c H locs cells slots Q g) : W p l e R s m args below meth c H locs cells slots Q' g := by
  intro T hT X
  obtain ⟨t, a, b⟩ := k T hT X
  exact ⟨t, a, hQ t b⟩
def xQc (E : xE) (s : State) (w : Bool) (v : Option Value) (h : xH) : Array Value → State → Outcome → State → Prop := fun _ _ o t => o = .returned v ∧ xI E t h t.heap ∧ (w = false → t.heap = s.heap)
theorem xMQ_of {E : xE} {below : List Frame} {args : Array Value} {s : State} {w : Bool} {v : Option Value} {h : xH} {k n : Nat} (t : State) (q : MQ below (xQc E s w v h) args s k n (fun a => E.2.2.1 ≤ a ∧ w = true) t) : xMQ E below s (w, .inl v, h) k n t := by
  obtain ⟨o, h1, h2, ⟨h3, h4, h8⟩, L, ⟨-, h5, h6⟩, h7⟩ := q
  refine ⟨h1, o, h2, h3, h5, h4, L, h6, fun x hx => (h7 x hx).1, fun hw => ⟨?_, h8 hw⟩⟩
  cases L with
  | nil => rfl
  | cons x t =>
    have := (h7 x List.mem_cons_self).2
    rw [show w = false from hw] at this
    cases this
theorem xend {E : xE} {d : Nat} {M : xM} {pc : Nat} {lv : xL} {st : List Value} {w : Bool} {h : xH} {v : Option Value}
    (step : ∀ {p : Program} {e : Env} {R : Room} {s : State} {mid : MethodId} {args : Array Value} {below : List Frame} {meth : Method} {c : Code} {H : Heap} {locs : List Loc} {cells slots : Nat} {ls : Array Slot},
      xX E M p e s mid args meth c → (∀ t : State, t.heap = H → s.WarmedH t.vm → xQc E s w v h args s (.returned v) t) → (∀ q ∈ locs, E.2.2.1 ≤ q.base ∧ w = true) → W p E.1 e R s mid args below meth c H locs cells slots (MQ below (xQc E s w v h) args s cells slots (fun a => E.2.2.1 ≤ a ∧ w = true)) (F0 mid pc ls st)) :
    xG E d M pc lv st w h (w, .inl v, h) := by
  refine ⟨⟨Nat.le_refl _, Nat.le_refl _⟩, fun p e R s mid args below meth c H locs cells slots ls hX hI hl hlo hw hR hc hs => ?_⟩
  simp only [Nat.sub_self, Nat.add_zero]
  refine xW_mono (fun t q => xMQ_of t q) (step hX (fun t ht hW => ⟨rfl, by rw [ht]; exact hI.moved hW.alike, fun hf => by rw [ht]; exact (hw hf).2⟩) (fun q hq => ⟨hlo q hq, ?_⟩))
  cases w with
  | true => rfl
  | false =>
    rw [(hw rfl).1] at hq
    cases hq
theorem x_iret {E : xE} {d : Nat} {M : xM} {pc : Nat} {lv : xL} {w : Bool} {h : xH} {v : Int32} (hr : M.2.2.2.1 = some .int) (hd : decode M.2.1 pc = .ok (.ireturn, 1)) : xG E d M pc lv [.int v] w h (w, .inl (some (.int v)), h) :=
  xend fun hX hq hlo => W.iret hX.1.1 hX.1.2.1 (hX.1.2.2.2.1.trans hr) hq hlo hd (hlocks := hX.1.2.2.2.2)
theorem x_zret {E : xE} {d : Nat} {M : xM} {pc : Nat} {lv : xL} {w : Bool} {h : xH} {v : Int32} (hn : narrow .boolean (.int v) = .int v) (hr : M.2.2.2.1 = some .boolean) (hd : decode M.2.1 pc = .ok (.ireturn, 1)) : xG E d M pc lv [.int v] w h (w, .inl (some (.int v)), h) :=
  xend fun hX hq hlo => W.zret hX.1.1 hX.1.2.1 (hX.1.2.2.2.1.trans hr) hn hq hlo hd (hlocks := hX.1.2.2.2.2)
theorem x_lret {E : xE} {d : Nat} {M : xM} {pc : Nat} {lv : xL} {w : Bool} {h : xH} {v : Int64} (hr : M.2.2.2.1 = some .long) (hd : decode M.2.1 pc = .ok (.lreturn, 1)) : xG E d M pc lv [.long v] w h (w, .inl (some (.long v)), h) :=
  xend fun hX hq hlo => W.lret hX.1.1 hX.1.2.1 (hX.1.2.2.2.1.trans hr) hq hlo hd (hlocks := hX.1.2.2.2.2)
theorem x_vret {E : xE} {d : Nat} {M : xM} {pc : Nat} {lv : xL} {w : Bool} {h : xH}  (hr : M.2.2.2.1 = none) (hd : decode M.2.1 pc = .ok (.return_, 1)) : xG E d M pc lv [] w h (w, .inl (none), h) :=
  xend fun hX hq hlo => W.vret hX.1.1 hX.1.2.1 (hX.1.2.2.2.1.trans hr) hq hlo hd (hlocks := hX.1.2.2.2.2)
theorem x_aret {E : xE} {d : Nat} {M : xM} {pc : Nat} {lv : xL} {w : Bool} {h : xH} {a : Nat} {n : String} (hr : M.2.2.2.1 = some (.object n)) (hd : decode M.2.1 pc = .ok (.areturn, 1)) : xG E d M pc lv [.ref a] w h (w, .inl (some (.ref a)), h) :=
  xend fun hX hq hlo => W.aret hX.1.1 hX.1.2.1 (hX.1.2.2.2.1.trans hr) (Or.inl ⟨n, rfl⟩) (Or.inr ⟨a, rfl⟩) hq hlo hd (hlocks := hX.1.2.2.2.2)
