/-- the words of 'new': pool number, class's number, slots, the fields of a new object -/
def xN (own : String) (idx ci n : Nat) (fs : List Value) : Prop := ∃ (C : String) (T : u_T) (N : Nat) (t0 : Nat → FieldType), classes[ci]? = some (C, T, N) ∧ (∀ w ∈ u_ws C T N, w ∈ lw_tbl ∧ xper w = true) ∧ (∀ k, k < N → parseFieldDescriptor (T k).2.2.1 = some (t0 k)) ∧ Cond.classLink own idx C ∈ lw_tbl ∧ Cond.instantiable C n ∈ lw_tbl ∧ Cond.initialized C ∈ lw_tbl ∧ ∀ k, k < N → defaultValue (t0 k) = vp_V fs k
theorem x_new {E : xE} {d : Nat} {M : xM} {pc : Nat} {lv : xL} {st : List Value} {w : Bool} {h : xH} {r : xR} {idx ci n : Nat} {fs : List Value} (hN : xN M.1.cls idx ci n fs) (hd : decode M.2.1 pc = .ok (.new idx, 3)) (kk : xG E d M (pc + 3) lv (.ref h.2.1 :: st) true (xadd h (.inr (ci, fs)) n) r) : xG E d M pc lv st w h r := by
  have hk1 := kk.1
  simp only [xadd_sz, xadd_us] at hk1
  refine ⟨⟨by omega, by omega⟩, fun p e R s mid args below meth c H locs cells slots ls hX hI hl hlo hw hR hc hs => ?_⟩
  obtain ⟨C, T, N, t0, hcl, hwd, hty, hlk, hins, hini, hdf⟩ := hN
  have hts : ∀ w ∈ u_ws C T N, w.before args s = true := fun w hh => xwords hX (hwd w hh).1 (hwd w hh).2
  have hK := hX.2.2.2.1.1 ci _ hcl
  obtain ⟨hS, hfc, kC0, hkC0, hkind⟩ := hK
  refine W.newcK (h := h.2.1) hX.1.1 hX.1.2.1 hX.2.1.1 (xwords hX hlk rfl) (xwords hX hins rfl) (xwords hX hini rfl) rfl hd (by omega) (by omega) hfc hI.1 (fun H' kC hkC e1 e2 e3 => ?_)
  have hob : t_OB h.2.1 (E.2.1.1 ci) N (E.2.1.2 ci) H' (fun k => defaultValue (t0 k)) := u_born t0 hts (fun _ hh => hh) (hX.2.2.2.1.1 ci _ hcl) hkC e1 hty
  have kk2 := kk.2 p e R s mid args below meth c H' locs (cells + 1) (slots + n) ls hX (hI.new ⟨_, hcl, t_OB.to hob hdf⟩ (fun cell' hc' => by rw [e1] at hc'; cases hc'; rfl) e2 e3) hl hlo (fun hq => by cases hq) hR (by simp only [xadd_sz]; omega) (by simp only [xadd_us]; omega)
  simp only [xadd_sz, xadd_us] at kk2
  rw [show cells + (r.2.2.2.1 - h.2.1) = cells + 1 + (r.2.2.2.1 - (h.2.1 + 1)) by omega, show slots + (r.2.2.2.2 - h.2.2) = slots + n + (r.2.2.2.2 - (h.2.2 + n)) by omega]
  exact kk2
theorem x_objInit {E : xE} {d : Nat} {M : xM} {pc : Nat} {lv : xL} {st : List Value} {w : Bool} {h : xH} {r : xR} {idx a : Nat} (hd : decode M.2.1 pc = .ok (.invokespecial idx, 3)) (hlk : Cond.methodLink M.1.cls idx objectInit ∈ lw_tbl) (hin : Cond.instanceMethod objectInit ∈ lw_tbl) (hcw : Cond.code objectInit ⟨#[0xb1]⟩ 1 none ∈ lw_tbl) (hst : (st.map fun v => v.category).sum ≤ 8) (k : xG E d M (pc + 3) lv st w h r) : xG E d M pc lv (.ref a :: st) w h r := by
  refine ⟨k.1, fun p e R s mid args below meth c H locs cells slots ls hX hI hl hlo hw hR hc hs => ?_⟩
  have hmr : 2 * (F0 mid pc ls st).monitorRoom + (st.map fun v => v.category).sum ≤ 8 := lv_room hst
  exact W.objInit hX.1.1 hX.1.2.1 hX.2.1.1 (xwords hX hlk rfl) (xwords hX hin rfl) (xwords hX hcw rfl) rfl (by rw [hX.1.2.2.1]; exact hl.1) rfl hd (by omega) (by show 2 * (F0 mid pc ls st).monitorRoom + (st.map fun v => v.category).sum + 12 ≤ R.locals; omega) (k.2 p e R s mid args below meth c H locs cells slots ls hX hI hl hlo hw hR hc hs)
theorem x_ldc2 {E : xE} {d : Nat} {M : xM} {pc : Nat} {lv : xL} {st : List Value} {w : Bool} {h : xH} {r : xR} {idx : Nat} {v : Int64} (hd : decode M.2.1 pc = .ok (.ldc2_w idx, 3)) (hlk : Cond.constantLong M.1.cls idx v ∈ lw_tbl) (k : xG E d M (pc + 3) lv (.long v :: st) w h r) : xG E d M pc lv st w h r :=
  k.go fun hX hl k' => lv_ldc2 hX.1.1 hX.1.2.1 hX.2.1.1 (xwords hX hlk rfl) hd (k' _ hl)
theorem x_ldc {E : xE} {d : Nat} {M : xM} {pc : Nat} {lv : xL} {st : List Value} {w : Bool} {h : xH} {r : xR} {idx : Nat} {v : Int32} (hd : decode M.2.1 pc = .ok (.ldc idx, 2)) (hlk : Cond.constant M.1.cls idx v ∈ lw_tbl) (k : xG E d M (pc + 2) lv (.int v :: st) w h r) : xG E d M pc lv st w h r :=
  k.go fun hX hl k' => lv_ldc hX.1.1 hX.1.2.1 hX.2.1.1 (xwords hX hlk rfl) hd (k' _ hl)
theorem x_ldcw {E : xE} {d : Nat} {M : xM} {pc : Nat} {lv : xL} {st : List Value} {w : Bool} {h : xH} {r : xR} {idx : Nat} {v : Int32} (hd : decode M.2.1 pc = .ok (.ldc_w idx, 3)) (hlk : Cond.constant M.1.cls idx v ∈ lw_tbl) (k : xG E d M (pc + 3) lv (.int v :: st) w h r) : xG E d M pc lv st w h r :=
  k.go fun hX hl k' => lv_ldcw hX.1.1 hX.1.2.1 hX.2.1.1 (xwords hX hlk rfl) hd (k' _ hl)
theorem x_anew {E : xE} {d : Nat} {M : xM} {pc : Nat} {lv : xL} {st : List Value} {w : Bool} {h : xH} {r : xR} {i : Int32} {idx : Nat} {C : String} (n : Nat) (hd : decode M.2.1 pc = .ok (.anewarray idx, 3)) (hlk : Cond.classLink M.1.cls idx C ∈ lw_tbl) (hov : Cond.arrayOver (.object C) ∈ lw_tbl) (hpo : xper (Cond.arrayOver (.object C)) = true) (hi : i = nI n) (hn : n ≤ 60000000) (kk : xG E d M (pc + 3) lv (.ref h.2.1 :: st) true (xadd h (.inl (.object C, n, .inr (.inr (fun _ => none)))) n) r) : xG E d M pc lv (.int i :: st) w h r := by
  have hk1 := kk.1
  simp only [xadd_sz, xadd_us] at hk1
  refine ⟨⟨by omega, by omega⟩, fun p e R s mid args below meth c H locs cells slots ls hX hI hl hlo hw hR hc hs => ?_⟩
  subst hi
  have hcl : (nI n).toNatClampNeg = n := nI_clamp (by omega)
  refine W.anew hX.1.1 hX.1.2.1 hX.2.1.1 (xwords hX hlk rfl) (xwords hX hov hpo) rfl hd rfl (nI_pos (by omega)) (by rw [hcl]; omega) (by omega) (by rw [hcl]; omega) (fun cA kA comp g1 g2 g3 g4 => ?_)
  rw [hcl]
  generalize hH1 : H.push ({ cls := cA, slots := Array.replicate n .null, vm := .none } : Cell) = H1
  have z1 : H1.size = h.2.1 + 1 := by rw [← hH1, Array.size_push, hI.1]
  have e1 : H1[h.2.1]? = some ({ cls := cA, slots := Array.replicate n .null, vm := .none } : Cell) := by rw [← hH1, ← hI.1, Array.getElem?_push_size]
  have o1 : ∀ q : Nat, q < h.2.1 → H1[q]? = H[q]? := fun q hq => by rw [← hH1, Array.getElem?_push, if_neg (by rw [hI.1]; exact Nat.ne_of_lt hq)]
  have kk2 := kk.2 p e R s mid args below meth c H1 locs (cells + 1) (slots + n) ls hX (hI.new ⟨_, e1, ⟨(fun k hk => by cases hk), kA, g2, comp, g3⟩, (fun hk => by cases hk), (by simp), (fun j hj => by simp [hj, xval, va_rf]), ⟨kA, comp, g2, g3, g4⟩⟩ (fun cell' hc' => by rw [e1] at hc'; cases hc'; rfl) z1 o1) hl hlo (fun hq => by cases hq) hR (by simp only [xadd_sz]; omega) (by simp only [xadd_us]; omega)
  simp only [xadd_sz, xadd_us] at kk2
  rw [show cells + (r.2.2.2.1 - h.2.1) = cells + 1 + (r.2.2.2.1 - (h.2.1 + 1)) by omega, show slots + (r.2.2.2.2 - h.2.2) = slots + n + (r.2.2.2.2 - (h.2.2 + n)) by omega]
  rw [hI.1]
  exact kk2
theorem x_aast {E : xE} {d : Nat} {M : xM} {pc : Nat} {lv : xL} {st : List Value} {w : Bool} {h : xH} {r : xR} {a n v ci : Nat} {i : Int32} {C : String} {f : Nat → Option Nat} {fs : List Value} (j : Nat) (hd : decode M.2.1 pc = .ok (.aastore, 1)) (ha : h.1 a = some (.inl (.object C, n, .inr (.inr f)))) (hv : h.1 v = some (.inr (ci, fs))) (hci : (classes[ci]?).map (fun q => q.1) = some C) (hb : E.2.2.1 ≤ a) (hi : i = nI j) (hj : j < n) (hn : n < 2 ^ 31) (kk : xG E d M (pc + 1) lv st true (xset h a (.inl (.object C, n, .inr (.inr (va_up f j (some v)))))) r) : xG E d M pc lv (.ref v :: .int i :: .ref a :: st) w h r := by
  refine ⟨kk.1, fun p e R s mid args below meth c H locs cells slots ls hX hI hl hlo hw hR hc hs => ?_⟩
  obtain ⟨cell, h1, h2, h3, h4, h5, h6⟩ := hI.2.2.2.1 a _ ha
  obtain ⟨r0, w1, cellV, q1, q2, q3, -⟩ := hI.2.2.2.1 v _ hv
  have hcl : r0.1 = C := by
    rw [w1] at hci
    exact Option.some.inj hci
  have hcls := (hX.2.2.2.1.1 ci _ w1).2
  obtain ⟨kA, comp, k1, k2, k3⟩ := h6
  have hcomp : comp = E.2.1.1 ci := by
    rw [← hcl] at k3
    exact Option.some.inj (k3.symm.trans hcls.1)
  subst hcomp
  obtain ⟨kC, hkC, -⟩ := hcls.2
  obtain ⟨g1, g2⟩ := xnin hi hj hn
  refine W.aast hX.1.1 hX.1.2.1 h1 h2.1 h3 k1 k2 rfl hkC ⟨fun q => g1 (Or.inl q), by rw [g2, h4]; exact hj⟩ q1 (fun q hq => by rw [q3] at hq; cases hq) (by rw [q2]; exact hkC) (by rw [q2]; exact va_assign hcls) rfl rfl hd (fun H' e1 e2 e3 => ?_)
  rw [g2] at e1 ⊢
  refine kk.2 p e R s mid args below meth c H' _ cells slots ls hX (hI.put hb (xstored h2 h3 h4 h5 ⟨kA, _, k1, k2, k3⟩ hj e1 (by simp [xval, va_up, va_rf]) (fun i hij => by simp [xval, va_up, hij])) (fun cell' hc' => ?_) e2 e3) hl ?_ (fun hq => by cases hq) hR hc hs
  · rw [e1] at hc'
    cases hc'
    exact hI.2.2.2.2 a cell hb h1
  · intro q hq
    rcases List.mem_append.mp hq with hq | hq
    · exact hlo q hq
    · rw [List.mem_singleton.mp hq]; exact hb
