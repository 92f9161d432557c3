theorem xwords {E : xE} {M : xM} {p : Program} {e : Env} {s : State} {mid : MethodId} {args : Array Value} {meth : Method} {c : Code} (hX : xX E M p e s mid args meth c) {w : Cond} (hw : w ∈ lw_tbl) (hp : xper w = true) : w.before args s = true := hX.2.2.1 w hw hp
/-- the words of a field as a class's code names it: number of the pool, class, place, type, final -/
def xF (own : String) (idx ci k : Nat) (ty : FieldType) (fin : Bool) : Prop := ∃ (C : String) (T : u_T) (N : Nat) (t0 : Nat → FieldType), classes[ci]? = some (C, T, N) ∧ (∀ w ∈ u_ws C T N, w ∈ lw_tbl ∧ xper w = true) ∧ (∀ k, k < N → parseFieldDescriptor (T k).2.2.1 = some (t0 k)) ∧ (∀ a, a < N → ∀ b, b < N → a ≠ b → (T a).2.1 ≠ (T b).2.1) ∧ k < N ∧ t0 k = ty ∧ (T k).2.2.2 = fin ∧ (T k).1 = own ∧ Cond.fieldLink own idx (T k).1 (T k).2.1 (T k).2.2.1 ∈ lw_tbl ∧ xper (Cond.fieldLink own idx (T k).1 (T k).2.1 (T k).2.2.1) = true
theorem x_get {E : xE} {d : Nat} {M : xM} {pc : Nat} {lv : xL} {st : List Value} {w : Bool} {h : xH} {r : xR} {idx ci k : Nat} {ty : FieldType} {fin : Bool} {a : Nat} {fs : List Value} {v : Value} (hF : xF M.1.cls idx ci k ty fin) (hd : decode M.2.1 pc = .ok (.getfield idx, 3)) (ha : h.1 a = some (.inr (ci, fs))) (hv : fs[k]? = some v) (kk : xG E d M (pc + 3) lv (v :: st) w h r) : xG E d M pc lv (.ref a :: st) w h r := by
  refine ⟨kk.1, fun p e R s mid args below meth c H locs cells slots ls hX hI hl hlo hw hR hc hs => ?_⟩
  obtain ⟨C, T, N, t0, hcl, hwd, hty, hnm, hk, -, -, -, hlk, hlp⟩ := hF
  have hts : ∀ w ∈ u_ws C T N, w.before args s = true := fun w hh => xwords hX (hwd w hh).1 (hwd w hh).2
  have hP : va_P E.2.1 classes [(a, .inr (ci, fs))] H := fun i q hq => by
    cases i with
    | zero => cases hq; exact hI.2.2.2.1 a _ ha
    | succ i => simp at hq
  exact va_get (D := E.2.1) (ci := ci) (v := v) (C := C) (T := T) (N := N) hX.1.1 hX.1.2.1 hts (fun _ hh => hh) hX.2.1.1 hX.2.2.2.1 hP 0 rfl hcl k hk (xwords hX hlk hlp) (fun _ h9 => h9) hv hd (kk.2 p e R s mid args below meth c H locs cells slots ls hX hI hl hlo hw hR hc hs)
theorem x_put {E : xE} {d : Nat} {M : xM} {pc : Nat} {lv : xL} {st : List Value} {w : Bool} {h : xH} {r : xR} {idx ci k : Nat} {ty : FieldType} {a : Nat} {fs : List Value} {v : Value} (hF : xF M.1.cls idx ci k ty false) (hd : decode M.2.1 pc = .ok (.putfield idx, 3)) (ha : h.1 a = some (.inr (ci, fs))) (hb : E.2.2.1 ≤ a) (hn : narrow ty v = v) (hfit : fits ty v = true) (hlen : k < fs.length) (kk : xG E d M (pc + 3) lv st true (xset h a (.inr (ci, fs.set k v))) r) : xG E d M pc lv (v :: .ref a :: st) w h r := by
  refine ⟨kk.1, fun p e R s mid args below meth c H locs cells slots ls hX hI hl hlo hw hR hc hs => ?_⟩
  obtain ⟨C, T, N, t0, hcl, hwd, hty, hnm, hk, htk, hfin, -, hlk, hlp⟩ := hF
  have hts : ∀ w ∈ u_ws C T N, w.before args s = true := fun w hh => xwords hX (hwd w hh).1 (hwd w hh).2
  have hK := hX.2.2.2.1
  have hap := va_apart (own := C) hts (fun _ hh => hh) t0 hty hnm hK hcl
  obtain ⟨r0, h1, cell, q1, q2, q3, q4⟩ := hI.2.2.2.1 a _ ha
  have hr : r0 = (C, T, N) := Option.some.inj (h1.symm.trans hcl)
  subst hr
  obtain ⟨hS, hfc, kC, hkC, hkind⟩ := hK.1 ci _ hcl
  obtain ⟨cf, kf, fi, f, hi, hsl⟩ := hS k hk
  have hlay := hts _ (u_in_lay hk)
  unfold u_lay at hlay
  rw [if_neg (by rw [hfin]; decide)] at hlay
  have hst := (u_facts hfc hkC (u_lays hts (fun _ hh => hh) hk) hi).1
  have h6 := u_store hfc hkC hkind hlay hi (by rw [hty k hk, htk]) hn hfit
  refine W.putK hX.1.1 hX.1.2.1 (f := f) ⟨hX.2.1.1, xwords hX hlk hlp, ⟨_, _, _, hi⟩, hst⟩ (by rw [q2]; exact h6) q1 q3 (by rw [hsl]; exact k2_hasslot (q4 k hk)) rfl rfl hd fun H' e1 e2 e3 => ?_
  rw [hsl] at e1 ⊢
  refine kk.2 p e R s mid args below meth c H' _ cells slots ls hX (hI.put hb ⟨_, hcl, t_OB.to (V := updV (vp_V fs) k v) ⟨_, e1, q2, q3, t_set q4 hap hk v⟩ (fun j _ => vp_updV_set hlen v j)⟩ (fun cell' hc' => ?_) e2 e3) hl ?_ (fun hq => by cases hq) hR hc hs
  · rw [e1] at hc'
    cases hc'
    show cell.vm.isStatics = false
    rw [q3]; rfl
  · intro q hq
    rcases List.mem_append.mp hq with hq | hq
    · exact hlo q hq
    · rw [List.mem_singleton.mp hq]; exact hb
theorem x_putF {E : xE} {d : Nat} {M : xM} {pc : Nat} {lv : xL} {st : List Value} {w : Bool} {h : xH} {r : xR} {idx ci k : Nat} {ty : FieldType} {a : Nat} {fs : List Value} {v : Value} (hF : xF M.1.cls idx ci k ty true) (hin2 : M.1.name = "<init>") (hd : decode M.2.1 pc = .ok (.putfield idx, 3)) (ha : h.1 a = some (.inr (ci, fs))) (hb : E.2.2.1 ≤ a) (hn : narrow ty v = v) (hfit : fits ty v = true) (hlen : k < fs.length) (kk : xG E d M (pc + 3) lv st true (xset h a (.inr (ci, fs.set k v))) r) : xG E d M pc lv (v :: .ref a :: st) w h r := by
  refine ⟨kk.1, fun p e R s mid args below meth c H locs cells slots ls hX hI hl hlo hw hR hc hs => ?_⟩
  obtain ⟨C, T, N, t0, hcl, hwd, hty, hnm, hk, htk, hfin, hdecl, hlk, hlp⟩ := hF
  have hts : ∀ w ∈ u_ws C T N, w.before args s = true := fun w hh => xwords hX (hwd w hh).1 (hwd w hh).2
  have hK := hX.2.2.2.1
  have hown := hX.2.1.1
  have hap := va_apart (own := C) hts (fun _ hh => hh) t0 hty hnm hK hcl
  obtain ⟨r0, h1, cell, q1, q2, q3, q4⟩ := hI.2.2.2.1 a _ ha
  have hr : r0 = (C, T, N) := Option.some.inj (h1.symm.trans hcl)
  subst hr
  obtain ⟨hS, hfc, kC, hkC, hkind⟩ := hK.1 ci _ hcl
  obtain ⟨cf, kf, fi, f, hi, hsl⟩ := hS k hk
  have hlay := hts _ (u_in_lay hk)
  unfold u_lay at hlay
  rw [if_pos hfin] at hlay
  have hst := (u_facts hfc hkC (u_lays hts (fun _ hh => hh) hk) hi).1
  have hcf : mid.cls = cf := by
    obtain ⟨_, _, c', _, _, _, -, -, hf', -, -, -, hown2, -⟩ := Cond.laysFinal_spec hlay
    have e1 : c' = cf := by have := hi.symm.trans hf'; simp at this; exact this.1.symm
    rw [hdecl] at hown2
    rw [← e1]; exact Option.some.inj (hown.symm.trans hown2)
  have h6 := u_fits hfc hkC hkind (Or.inr hlay) hi (by rw [hty k hk, htk]) hn hfit
  refine W.putFinK hX.1.1 hX.1.2.1 hown (xwords hX hlk hlp) hi hst hcf (hX.2.1.2.1.trans hin2) (by rw [q2]; exact h6) q1 q3 (by rw [hsl]; exact k2_hasslot (q4 k hk)) rfl rfl hd fun H' e1 e2 e3 => ?_
  rw [hsl] at e1 ⊢
  refine kk.2 p e R s mid args below meth c H' _ cells slots ls hX (hI.put hb ⟨_, hcl, t_OB.to (V := updV (vp_V fs) k v) ⟨_, e1, q2, q3, t_set q4 hap hk v⟩ (fun j _ => vp_updV_set hlen v j)⟩ (fun cell' hc' => ?_) e2 e3) hl ?_ (fun hq => by cases hq) hR hc hs
  · rw [e1] at hc'
    cases hc'
    show cell.vm.isStatics = false
    rw [q3]; rfl
  · intro q hq
    rcases List.mem_append.mp hq with hq | hq
    · exact hlo q hq
    · rw [List.mem_singleton.mp hq]; exact hb
theorem xnin {i : Int32} {j n : Nat} (hi : i = nI j) (hj : j < n) (hn : n < 2 ^ 31) : ¬ (i < 0 ∨ n ≤ i.toNatClampNeg) ∧ i.toNatClampNeg = j := by
  subst hi
  exact ⟨nI_in hj hn, nI_clamp (by omega)⟩
