/-- fewer locals, in another order -/
theorem x_loc {E : xE} {d : Nat} {M : xM} {pc : Nat} {lv : xL} {st : List Value} {w : Bool} {h : xH} {r : xR} (lv' : xL) (hs : ∀ q ∈ lv', xlk lv q.1 = some q.2) (k : xG E d M pc lv' st w h r) : xG E d M pc lv st w h r :=
  k.go fun hX hl k' => k' _ ⟨hl.1, hl.2.1, fun q hq => xlk_at hl (hs q hq)⟩
/-- from here on as if something had been written -/
theorem x_true {E : xE} {d : Nat} {M : xM} {pc : Nat} {lv : xL} {st : List Value} {w : Bool} {h : xH} {r : xR} (k : xG E d M pc lv st true h r) : xG E d M pc lv st w h r :=
  ⟨k.1, fun p e R s mid args below meth c H locs cells slots ls hX hI hl hlo hw hR hc hs => k.2 p e R s mid args below meth c H locs cells slots ls hX hI hl hlo (fun hq => by cases hq) hR hc hs⟩
theorem xa2 {p : Nat × Value → Prop} {a b : Nat × Value} (ha : p a) (hb : p b) : ∀ q ∈ [a, b], p q := List.forall_mem_cons.mpr ⟨ha, List.forall_mem_cons.mpr ⟨hb, fun _ h => absurd h List.not_mem_nil⟩⟩
theorem xac {p : Nat × Value → Prop} {a : Nat × Value} {l : List (Nat × Value)} (ha : p a) (hl : ∀ q ∈ l, p q) : ∀ q ∈ a :: l, p q := List.forall_mem_cons.mpr ⟨ha, hl⟩
theorem xan {p : Nat × Value → Prop} : ∀ q ∈ ([] : List (Nat × Value)), p q := fun _ h => absurd h List.not_mem_nil
