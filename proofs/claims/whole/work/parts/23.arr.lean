theorem x_iald {E : xE} {d : Nat} {M : xM} {pc : Nat} {lv : xL} {st : List Value} {w : Bool} {h : xH} {r : xR} {a n : Nat} {i : Int32} {f : Nat → Int32} (j : Nat) (hd : decode M.2.1 pc = .ok (.iaload, 1)) (ha : h.1 a = some (.inl (.int, n, .inl f))) (hi : i = nI j) (hj : j < n) (hn : n < 2 ^ 31) (kk : xG E d M (pc + 1) lv (.int (f j) :: st) w h r) : xG E d M pc lv (.int i :: .ref a :: st) w h r := by
  refine ⟨kk.1, fun p e R s mid args below meth c H locs cells slots ls hX hI hl hlo hw hR hc hs => ?_⟩
  obtain ⟨cell, h1, h2, h3, h4, h5, -⟩ := hI.2.2.2.1 a _ ha
  obtain ⟨g1, g2⟩ := xnin hi hj hn
  exact W.iald hX.1.1 hX.1.2.1 h1 h2 h3 (by rw [h4]; exact g1) (by rw [g2]; exact h5 j hj) rfl rfl hd (kk.2 p e R s mid args below meth c H locs cells slots ls hX hI hl hlo hw hR hc hs)
theorem x_lald {E : xE} {d : Nat} {M : xM} {pc : Nat} {lv : xL} {st : List Value} {w : Bool} {h : xH} {r : xR} {a n : Nat} {i : Int32} {f : Nat → Int64} (j : Nat) (hd : decode M.2.1 pc = .ok (.laload, 1)) (ha : h.1 a = some (.inl (.long, n, .inr (.inl f)))) (hi : i = nI j) (hj : j < n) (hn : n < 2 ^ 31) (kk : xG E d M (pc + 1) lv (.long (f j) :: st) w h r) : xG E d M pc lv (.int i :: .ref a :: st) w h r := by
  refine ⟨kk.1, fun p e R s mid args below meth c H locs cells slots ls hX hI hl hlo hw hR hc hs => ?_⟩
  obtain ⟨cell, h1, h2, h3, h4, h5, -⟩ := hI.2.2.2.1 a _ ha
  obtain ⟨g1, g2⟩ := xnin hi hj hn
  exact W.lald hX.1.1 hX.1.2.1 h1 h2 h3 (by rw [h4]; exact g1) (by rw [g2]; exact h5 j hj) rfl rfl hd (kk.2 p e R s mid args below meth c H locs cells slots ls hX hI hl hlo hw hR hc hs)
theorem x_zald {E : xE} {d : Nat} {M : xM} {pc : Nat} {lv : xL} {st : List Value} {w : Bool} {h : xH} {r : xR} {a n : Nat} {i : Int32} {f : Nat → Int32} (j : Nat) (hd : decode M.2.1 pc = .ok (.baload, 1)) (ha : h.1 a = some (.inl (.boolean, n, .inl f))) (hi : i = nI j) (hj : j < n) (hn : n < 2 ^ 31) (kk : xG E d M (pc + 1) lv (.int (f j) :: st) w h r) : xG E d M pc lv (.int i :: .ref a :: st) w h r := by
  refine ⟨kk.1, fun p e R s mid args below meth c H locs cells slots ls hX hI hl hlo hw hR hc hs => ?_⟩
  obtain ⟨cell, h1, h2, h3, h4, h5, -⟩ := hI.2.2.2.1 a _ ha
  obtain ⟨g1, g2⟩ := xnin hi hj hn
  exact W.zald hX.1.1 hX.1.2.1 h1 h2 h3 (by rw [h4]; exact g1) (by rw [g2]; exact h5 j hj) rfl rfl hd (kk.2 p e R s mid args below meth c H locs cells slots ls hX hI hl hlo hw hR hc hs)
theorem x_aald {E : xE} {d : Nat} {M : xM} {pc : Nat} {lv : xL} {st : List Value} {w : Bool} {h : xH} {r : xR} {a n : Nat} {i : Int32} {f : Nat → Option Nat} {ty : FieldType} (j b : Nat) (hd : decode M.2.1 pc = .ok (.aaload, 1)) (ha : h.1 a = some (.inl (ty, n, .inr (.inr f)))) (hty : ty.isReference = true) (hf : f j = some b) (hi : i = nI j) (hj : j < n) (hn : n < 2 ^ 31) (kk : xG E d M (pc + 1) lv (.ref b :: st) w h r) : xG E d M pc lv (.int i :: .ref a :: st) w h r := by
  refine ⟨kk.1, fun p e R s mid args below meth c H locs cells slots ls hX hI hl hlo hw hR hc hs => ?_⟩
  obtain ⟨cell, h1, h2, h3, h4, h5, -⟩ := hI.2.2.2.1 a _ ha
  obtain ⟨g1, g2⟩ := xnin hi hj hn
  exact W.aald hX.1.1 hX.1.2.1 h1 h2 hty h3 (by rw [h4]; exact g1) (v := .ref b) (by rw [g2]; have h9 := h5 j hj; rw [h9]; simp [xval, hf, va_rf]) rfl rfl hd (kk.2 p e R s mid args below meth c H locs cells slots ls hX hI hl hlo hw hR hc hs)
theorem xstored {D : va_G} {U : State} {H1 : Heap} {a n j : Nat} {ty : FieldType} {f g : xA} {cell : Cell} {v : Value} (h2 : U.isArrayOf cell ty) (h3 : cell.vm ≠ .unknown) (h4 : cell.slots.size = n) (h5 : ∀ i, i < n → cell.slots[i]? = some (xval f i)) (h6 : xRA U cell.cls ty) (hj : j < n) (e1 : H1[a]? = some (cell.setSlot j v)) (hv : xval g j = v) (ho : ∀ i, i ≠ j → xval g i = xval f i) : xAt D U H1 a (.inl (ty, n, g)) := by
  refine ⟨_, e1, h2, h3, ?_, fun i hi => ?_, h6⟩
  · simp [Cell.setSlot, h4]
  · by_cases hij : i = j
    · subst hij
      simp [Cell.setSlot, h4, hi, hv]
    · simp only [Cell.setSlot, Array.getElem?_setIfInBounds, if_neg (Ne.symm hij)]
      rw [h5 i hi, ho i hij]
theorem x_iast {E : xE} {d : Nat} {M : xM} {pc : Nat} {lv : xL} {st : List Value} {w : Bool} {h : xH} {r : xR} {a n : Nat} {i : Int32} {f : Nat → Int32} {x : Int32} (j : Nat) (hd : decode M.2.1 pc = .ok (.iastore, 1)) (ha : h.1 a = some (.inl (.int, n, .inl (f)))) (hb : E.2.2.1 ≤ a) (hi : i = nI j) (hj : j < n) (hn : n < 2 ^ 31) (kk : xG E d M (pc + 1) lv st true (xset h a (.inl (.int, n, .inl (va_up f j x)))) r) : xG E d M pc lv (.int x :: .int i :: .ref a :: st) w h r := by
  refine ⟨kk.1, fun p e R s mid args below meth c H locs cells slots ls hX hI hl hlo hw hR hc hs => ?_⟩
  obtain ⟨cell, h1, h2, h3, h4, h5, h6⟩ := hI.2.2.2.1 a _ ha
  obtain ⟨g1, g2⟩ := xnin hi hj hn
  refine W.iast hX.1.1 hX.1.2.1 h1 h2 h3 (by rw [h4]; exact g1) rfl rfl hd (fun H' e1 e2 e3 => ?_)
  rw [g2] at e1 ⊢
  refine kk.2 p e R s mid args below meth c H' _ cells slots ls hX (hI.put hb (xstored h2 h3 h4 h5 h6 hj e1 (by simp [xval, va_up]) (fun i hij => by simp [xval, va_up, hij])) (fun cell' hc' => ?_) e2 e3) hl ?_ (fun hq => by cases hq) hR hc hs
  · rw [e1] at hc'
    cases hc'
    exact hI.2.2.2.2 a cell hb h1
  · intro q hq
    rcases List.mem_append.mp hq with hq | hq
    · exact hlo q hq
    · rw [List.mem_singleton.mp hq]; exact hb
theorem x_last {E : xE} {d : Nat} {M : xM} {pc : Nat} {lv : xL} {st : List Value} {w : Bool} {h : xH} {r : xR} {a n : Nat} {i : Int32} {f : Nat → Int64} {x : Int64} (j : Nat) (hd : decode M.2.1 pc = .ok (.lastore, 1)) (ha : h.1 a = some (.inl (.long, n, .inr (.inl (f))))) (hb : E.2.2.1 ≤ a) (hi : i = nI j) (hj : j < n) (hn : n < 2 ^ 31) (kk : xG E d M (pc + 1) lv st true (xset h a (.inl (.long, n, .inr (.inl (va_up f j x))))) r) : xG E d M pc lv (.long x :: .int i :: .ref a :: st) w h r := by
  refine ⟨kk.1, fun p e R s mid args below meth c H locs cells slots ls hX hI hl hlo hw hR hc hs => ?_⟩
  obtain ⟨cell, h1, h2, h3, h4, h5, h6⟩ := hI.2.2.2.1 a _ ha
  obtain ⟨g1, g2⟩ := xnin hi hj hn
  refine W.last hX.1.1 hX.1.2.1 h1 h2 h3 (by rw [h4]; exact g1) rfl rfl hd (fun H' e1 e2 e3 => ?_)
  rw [g2] at e1 ⊢
  refine kk.2 p e R s mid args below meth c H' _ cells slots ls hX (hI.put hb (xstored h2 h3 h4 h5 h6 hj e1 (by simp [xval, va_up]) (fun i hij => by simp [xval, va_up, hij])) (fun cell' hc' => ?_) e2 e3) hl ?_ (fun hq => by cases hq) hR hc hs
  · rw [e1] at hc'
    cases hc'
    exact hI.2.2.2.2 a cell hb h1
  · intro q hq
    rcases List.mem_append.mp hq with hq | hq
    · exact hlo q hq
    · rw [List.mem_singleton.mp hq]; exact hb
theorem x_zast {E : xE} {d : Nat} {M : xM} {pc : Nat} {lv : xL} {st : List Value} {w : Bool} {h : xH} {r : xR} {a n : Nat} {i : Int32} {f : Nat → Int32} {x : Int32} (j : Nat) (hd : decode M.2.1 pc = .ok (.bastore, 1)) (ha : h.1 a = some (.inl (.boolean, n, .inl (f)))) (hb : E.2.2.1 ≤ a) (hi : i = nI j) (hj : j < n) (hn : n < 2 ^ 31) (hx : narrow .boolean (.int x) = .int x) (kk : xG E d M (pc + 1) lv st true (xset h a (.inl (.boolean, n, .inl (va_up f j x)))) r) : xG E d M pc lv (.int x :: .int i :: .ref a :: st) w h r := by
  refine ⟨kk.1, fun p e R s mid args below meth c H locs cells slots ls hX hI hl hlo hw hR hc hs => ?_⟩
  obtain ⟨cell, h1, h2, h3, h4, h5, h6⟩ := hI.2.2.2.1 a _ ha
  obtain ⟨g1, g2⟩ := xnin hi hj hn
  refine W.zast hX.1.1 hX.1.2.1 h1 h2 h3 (by rw [h4]; exact g1) rfl rfl hd (fun H' e1 e2 e3 => ?_)
  rw [g2] at e1 ⊢
  rw [hx] at e1
  refine kk.2 p e R s mid args below meth c H' _ cells slots ls hX (hI.put hb (xstored h2 h3 h4 h5 h6 hj e1 (by simp [xval, va_up]) (fun i hij => by simp [xval, va_up, hij])) (fun cell' hc' => ?_) e2 e3) hl ?_ (fun hq => by cases hq) hR hc hs
  · rw [e1] at hc'
    cases hc'
    exact hI.2.2.2.2 a cell hb h1
  · intro q hq
    rcases List.mem_append.mp hq with hq | hq
    · exact hlo q hq
    · rw [List.mem_singleton.mp hq]; exact hb
theorem x_alen {E : xE} {d : Nat} {M : xM} {pc : Nat} {lv : xL} {st : List Value} {w : Bool} {h : xH} {r : xR} {a n : Nat} {ty : FieldType} {f : xA} (hd : decode M.2.1 pc = .ok (.arraylength, 1)) (ha : h.1 a = some (.inl (ty, n, f))) (kk : xG E d M (pc + 1) lv (.int (nI n) :: st) w h r) : xG E d M pc lv (.ref a :: st) w h r := by
  refine ⟨kk.1, fun p e R s mid args below meth c H locs cells slots ls hX hI hl hlo hw hR hc hs => ?_⟩
  obtain ⟨cell, h1, h2, h3, h4, h5, h6⟩ := hI.2.2.2.1 a _ ha
  exact W.alen (n := nI n) hX.1.1 hX.1.2.1 h1 h2 (by rw [h4]; rfl) rfl rfl hd (kk.2 p e R s mid args below meth c H locs cells slots ls hX hI hl hlo hw hR hc hs)
theorem x_newi {E : xE} {d : Nat} {M : xM} {pc : Nat} {lv : xL} {st : List Value} {w : Bool} {h : xH} {r : xR} {i : Int32} (n : Nat) (hd : decode M.2.1 pc = .ok (.newarray .int, 2)) (hcw : Cond.arrayClass .int ∈ lw_tbl) (hi : i = nI n) (hn : n ≤ 60000000) (kk : xG E d M (pc + 2) lv (.ref h.2.1 :: st) true (xadd h (.inl (.int, n, .inl (fun _ => 0))) n) r) : xG E d M pc lv (.int i :: st) w h r := by
  have hk1 := kk.1
  simp only [xadd_sz, xadd_us] at hk1
  refine ⟨⟨by omega, by omega⟩, fun p e R s mid args below meth c H locs cells slots ls hX hI hl hlo hw hR hc hs => ?_⟩
  subst hi
  refine W.newaK (atype := .int) (N := n) (h := h.2.1) hX.1.1 hX.1.2.1 (xwords hX hcw rfl) rfl hd rfl (nI_pos (by omega)) (nI_clamp (by omega)) (by simp [newarray.typeOf, componentBytes]; omega) (by omega) (by omega) hI.1 (fun H' cA e1 e2 e3 e4 => ?_)
  have kk2 := kk.2 p e R s mid args below meth c H' locs (cells + 1) (slots + n) ls hX (hI.new ⟨_, e1, e4 _ _, (by simp [arrV]), arrV_size _ _ _, (fun j hj => by simp [arrV, hj, xval, defaultValue, newarray.typeOf]), trivial⟩ (fun cell' hc' => by rw [e1] at hc'; cases hc'; rfl) e2 e3) hl hlo (fun hq => by cases hq) hR (by simp only [xadd_sz]; omega) (by simp only [xadd_us]; omega)
  simp only [xadd_sz, xadd_us] at kk2
  rw [show cells + (r.2.2.2.1 - h.2.1) = cells + 1 + (r.2.2.2.1 - (h.2.1 + 1)) by omega, show slots + (r.2.2.2.2 - h.2.2) = slots + n + (r.2.2.2.2 - (h.2.2 + n)) by omega]
  exact kk2
theorem x_newl {E : xE} {d : Nat} {M : xM} {pc : Nat} {lv : xL} {st : List Value} {w : Bool} {h : xH} {r : xR} {i : Int32} (n : Nat) (hd : decode M.2.1 pc = .ok (.newarray .long, 2)) (hcw : Cond.arrayClass .long ∈ lw_tbl) (hi : i = nI n) (hn : n ≤ 60000000) (kk : xG E d M (pc + 2) lv (.ref h.2.1 :: st) true (xadd h (.inl (.long, n, .inr (.inl (fun _ => 0)))) n) r) : xG E d M pc lv (.int i :: st) w h r := by
  have hk1 := kk.1
  simp only [xadd_sz, xadd_us] at hk1
  refine ⟨⟨by omega, by omega⟩, fun p e R s mid args below meth c H locs cells slots ls hX hI hl hlo hw hR hc hs => ?_⟩
  subst hi
  refine W.newaK (atype := .long) (N := n) (h := h.2.1) hX.1.1 hX.1.2.1 (xwords hX hcw rfl) rfl hd rfl (nI_pos (by omega)) (nI_clamp (by omega)) (by simp [newarray.typeOf, componentBytes]; omega) (by omega) (by omega) hI.1 (fun H' cA e1 e2 e3 e4 => ?_)
  have kk2 := kk.2 p e R s mid args below meth c H' locs (cells + 1) (slots + n) ls hX (hI.new ⟨_, e1, e4 _ _, (by simp [arrV]), arrV_size _ _ _, (fun j hj => by simp [arrV, hj, xval, defaultValue, newarray.typeOf]), trivial⟩ (fun cell' hc' => by rw [e1] at hc'; cases hc'; rfl) e2 e3) hl hlo (fun hq => by cases hq) hR (by simp only [xadd_sz]; omega) (by simp only [xadd_us]; omega)
  simp only [xadd_sz, xadd_us] at kk2
  rw [show cells + (r.2.2.2.1 - h.2.1) = cells + 1 + (r.2.2.2.1 - (h.2.1 + 1)) by omega, show slots + (r.2.2.2.2 - h.2.2) = slots + n + (r.2.2.2.2 - (h.2.2 + n)) by omega]
  exact kk2
theorem x_newz {E : xE} {d : Nat} {M : xM} {pc : Nat} {lv : xL} {st : List Value} {w : Bool} {h : xH} {r : xR} {i : Int32} (n : Nat) (hd : decode M.2.1 pc = .ok (.newarray .boolean, 2)) (hcw : Cond.arrayClass .boolean ∈ lw_tbl) (hi : i = nI n) (hn : n ≤ 60000000) (kk : xG E d M (pc + 2) lv (.ref h.2.1 :: st) true (xadd h (.inl (.boolean, n, .inl (fun _ => 0))) n) r) : xG E d M pc lv (.int i :: st) w h r := by
  have hk1 := kk.1
  simp only [xadd_sz, xadd_us] at hk1
  refine ⟨⟨by omega, by omega⟩, fun p e R s mid args below meth c H locs cells slots ls hX hI hl hlo hw hR hc hs => ?_⟩
  subst hi
  refine W.newaK (atype := .boolean) (N := n) (h := h.2.1) hX.1.1 hX.1.2.1 (xwords hX hcw rfl) rfl hd rfl (nI_pos (by omega)) (nI_clamp (by omega)) (by simp [newarray.typeOf, componentBytes]; omega) (by omega) (by omega) hI.1 (fun H' cA e1 e2 e3 e4 => ?_)
  have kk2 := kk.2 p e R s mid args below meth c H' locs (cells + 1) (slots + n) ls hX (hI.new ⟨_, e1, e4 _ _, (by simp [arrV]), arrV_size _ _ _, (fun j hj => by simp [arrV, hj, xval, defaultValue, newarray.typeOf]), trivial⟩ (fun cell' hc' => by rw [e1] at hc'; cases hc'; rfl) e2 e3) hl hlo (fun hq => by cases hq) hR (by simp only [xadd_sz]; omega) (by simp only [xadd_us]; omega)
  simp only [xadd_sz, xadd_us] at kk2
  rw [show cells + (r.2.2.2.1 - h.2.1) = cells + 1 + (r.2.2.2.1 - (h.2.1 + 1)) by omega, show slots + (r.2.2.2.2 - h.2.2) = slots + n + (r.2.2.2.2 - (h.2.2 + n)) by omega]
  exact kk2
