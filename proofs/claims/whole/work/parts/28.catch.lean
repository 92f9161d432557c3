/-- a call that throws, caught by one of the method's own handlers behind such as it passes -/
theorem xG.cat {E : xE} {d : Nat} {M N : xM} {pc : Nat} {lv : xL} {st rest as : List Value} {w w1 : Bool} {h h1 : xH} {x : String × Nat} {r : xR} {ig : Instr} (pre : List (Nat × Nat × Nat × Nat)) (y : Nat × Nat × Nat × Nat) (suf : List (Nat × Nat × Nat × Nat)) (hM : M.2.2.2.2 = pre ++ y :: suf)
    (hpass : ∀ z ∈ pre, z.2.2.2 ≠ 0 ∧ ∃ nm : String, Cond.classLink M.1.cls z.2.2.2 nm ∈ lw_tbl ∧ ∀ s : State, xZ E s → va_Nc x.1 nm s) (hy : y.1 ≤ pc ∧ pc < y.2.1) (hy0 : y.2.2.2 ≠ 0) (hlk : Cond.classLink M.1.cls y.2.2.2 x.1 ∈ lw_tbl) (hcs : Cond.castable x.1 x.1 ∈ lw_tbl)
    (hN : xHas N) (hdg : decode M.2.1 pc = .ok (ig, 3)) (hlen : (lg_sl as).length ≤ N.2.2.1) (hrest : (rest.map fun v => v.category).sum ≤ 8)
    (hinv : ∀ {p : Program} {e : Env} {R : Room} {s : State} {mid : MethodId} {args : Array Value} {below : List Frame} {meth : Method} {c : Code} {H : Heap} {locs : List Loc} {cells slots : Nat} {ls : Array Slot} {mk : MethodId} {methk : Method} {ck : Code}, xX E M p e s mid args meth c → xI E s h H → xFd N s mk methk ck → xInv p E.1 e R s mid args below meth c H locs cells slots (F0 mid pc ls st) rest mk as.toArray)
    (hG : xG E d N 0 (lv_args 0 as) [] false h (w1, .inr x, h1)) (k : xG E (d + 1) M y.2.2.1 lv [.ref x.2] true h1 r) : xG E (d + 1) M pc lv st w h r := by
  have m1 := hG.1
  have m2 := k.1
  dsimp only at m1
  refine ⟨⟨by omega, by omega⟩, fun p e R s mid args below meth c H locs cells slots ls hX hI hl hlo hw hR hc hs => ?_⟩
  obtain ⟨mk, methk, ck, hF⟩ := hN.at hX
  intro T hT X
  obtain ⟨T', L, X', hL, hpu, hI', ⟨cell, k1, k2, k3⟩, hst⟩ := xcall (r1 := (w1, .inr x, h1)) hX hI hl.1 hR (by dsimp only; omega) (by dsimp only; omega) hN hF (hinv hX hI hF) hdg hlen hrest hG T hT X
  dsimp only at X' hst
  have hpl : e.platform.magicAccessors = ({} : Platform).magicAccessors := by rw [X.admits.platform]
  have hcl : s.vm.findClass x.1 = some cell.cls := by rw [← X'.warmed.alike.findClass]; exact k2
  have htab := hX.2.1.2.2
  rw [hM] at htab
  obtain ⟨P, rest', hP1, hP2, hP3⟩ := List.map_eq_append_iff.mp htab
  obtain ⟨Y, S, hP4, hY, hS⟩ := List.map_eq_cons_iff.mp hP3
  subst hP4
  obtain ⟨c3, c4, hc3, hc4, hasg⟩ := Cond.castable_spec (xwords hX hcs rfl)
  cases Option.some.inj (hc3.symm.trans hcl)
  cases Option.some.inj (hc4.symm.trans hcl)
  have hYe : Y.startPc = y.1 ∧ Y.endPc = y.2.1 ∧ Y.handlerPc = y.2.2.1 ∧ Y.catchType = y.2.2.2 := by rw [← hY]; exact ⟨rfl, rfl, rfl, rfl⟩
  obtain ⟨c5, hc5, hcl5⟩ := Cond.classLink_spec hX.2.1.1 (xwords hX hlk rfl) e.platform hpl
  cases Option.some.inj (hc5.symm.trans hcl)
  have hk0 : ∃ k, s.vm.classes[cell.cls]? = some k := by
    obtain ⟨k9, h9, -⟩ := Vm.findClass_spec hcl
    exact ⟨k9, h9⟩
  obtain ⟨vm', X2, st2⟩ := X'.thenCaughtThrough x.2 (g := F0 mid pc ls rest) rfl (Steps.refl _) k1 k3 hk0 P Y S hP1
    (fun z hz => by
      obtain ⟨hz0, nm, hn1, hn2⟩ := hpass (z.startPc, z.endPc, z.handlerPc, z.catchType) (by rw [← hP2]; exact List.mem_map_of_mem hz)
      obtain ⟨c6, hc6, hcl6⟩ := Cond.classLink_spec hX.2.1.1 (xwords hX hn1 rfl) e.platform hpl
      obtain ⟨a8, b8, e1, e2, e3⟩ := hn2 s hX.2.2.2.2.2
      cases Option.some.inj (e1.symm.trans hcl)
      cases Option.some.inj (e2.symm.trans hc6)
      exact Or.inr ⟨hz0, _, hcl6, e3⟩)
    (by show (decide (Y.startPc ≤ pc) && decide (pc < Y.endPc)) = true; rw [hYe.1, hYe.2.1]; simp [hy]) (Or.inr ⟨by rw [hYe.2.2.2]; exact hy0, cell.cls, by rw [hYe.2.2.2]; exact hcl5, hasg⟩)
  rw [hYe.2.2.1] at st2
  obtain ⟨t, a1, b1⟩ := k.2 p e R s mid args below meth c T'.heap (locs ++ L) (cells + (h1.2.1 - h.2.1)) (slots + (h1.2.2 - h.2.2)) ls hX hI' hl (fun q hq => (List.mem_append.mp hq).elim (hlo q) (hL q)) (fun hf => by cases hf) hR (by omega) (by omega) (T'.setVm vm') rfl X2
  refine ⟨t, hst t (st2.trans a1), ?_⟩
  rw [show cells + (r.2.2.2.1 - h.2.1) = cells + (h1.2.1 - h.2.1) + (r.2.2.2.1 - h1.2.1) by omega, show slots + (r.2.2.2.2 - h.2.2) = slots + (h1.2.2 - h.2.2) + (r.2.2.2.2 - h1.2.2) by omega]
  exact b1
