/-! VersionDeskModel: its cells (from the address m on), its state -/
abbrev vZ (n : Nat) (f : Nat → Bool) : xC := .inl (.boolean, n, .inl (fun i => xb (f i)))
theorem xb_ne {o : Bool} (h : o = true) : xb o ≠ 0 := by rw [h]; decide
theorem xb_eq {o : Bool} (h : o = false) : xb o = 0 := by rw [h]; rfl
theorem up_xb (f : Nat → Bool) (j : Nat) (x : Bool) : va_up (fun i => xb (f i)) j (xb x) = fun i => xb (va_up f j x i) := by
  funext i
  by_cases hi : i = j <;> simp [va_up, hi]
/-- thrown; clock; the boolean, int, long arrays by their places -/
abbrev qS : Type := Nat × Nat × (Nat → Nat → Bool) × (Nat → Nat → Nat) × (Nat → Nat → Int64)
abbrev qX (μ : qS) : Nat := μ.1
abbrev qK (μ : qS) : Nat := μ.2.1
abbrev qZ (μ : qS) : Nat → Nat → Bool := μ.2.2.1
abbrev qI (μ : qS) : Nat → Nat → Nat := μ.2.2.2.1
abbrev qL (μ : qS) : Nat → Nat → Int64 := μ.2.2.2.2
abbrev qC (m x k : Nat) : xC := .inr (3, [.int (nI x), .int (nI k), .ref (m + 1), .ref (m + 2), .ref (m + 3), .ref (m + 4), .ref (m + 5), .ref (m + 6), .ref (m + 7), .ref (m + 8), .ref (m + 9), .ref (m + 10), .ref (m + 11), .ref (m + 12)])
/-- the heap holds the object at m in the state μ, and is as h0 elsewhere -/
def QP (m : Nat) (h0 : xH) (μ : qS) (h : xH) : Prop :=
  h.1 m = some (qC m (qX μ) (qK μ)) ∧
  (h.1 (m + 1) = some (vZ 16 (qZ μ 1)) ∧ h.1 (m + 2) = some (vZ 256 (qZ μ 2)) ∧ h.1 (m + 3) = some (vZ 2048 (qZ μ 3)) ∧
   h.1 (m + 4) = some (vN 16 (qI μ 4)) ∧ h.1 (m + 5) = some (vN 16 (qI μ 5)) ∧ h.1 (m + 6) = some (vN 16 (qI μ 6)) ∧
   h.1 (m + 7) = some (vL 256 (qL μ 7)) ∧ h.1 (m + 8) = some (vL 2048 (qL μ 8)) ∧
   h.1 (m + 9) = some (vN 16 (qI μ 9)) ∧ h.1 (m + 10) = some (vN 8320 (qI μ 10)) ∧ h.1 (m + 11) = some (vN 16 (qI μ 11)) ∧ h.1 (m + 12) = some (vL 8320 (qL μ 12))) ∧
  (∀ q, q < m ∨ m + 13 ≤ q → h.1 q = h0.1 q) ∧ h.2.1 = h0.2.1 ∧ h.2.2 = h0.2.2
def sX (μ : qS) (x : Nat) : qS := (x, μ.2)
def sC (μ : qS) (k : Nat) : qS := (μ.1, k, μ.2.2)
def sZ (μ : qS) (k j : Nat) (v : Bool) : qS := (μ.1, μ.2.1, va_up (qZ μ) k (va_up (qZ μ k) j v), qI μ, qL μ)
def sI (μ : qS) (k j : Nat) (v : Nat) : qS := (μ.1, μ.2.1, qZ μ, va_up (qI μ) k (va_up (qI μ k) j v), qL μ)
def sL (μ : qS) (k j : Nat) (v : Int64) : qS := (μ.1, μ.2.1, qZ μ, qI μ, va_up (qL μ) k (va_up (qL μ k) j v))
section
variable {m : Nat} {h0 h : xH} {μ : qS}
theorem QP.rf (H : QP m h0 μ h) : QP m h μ h := ⟨H.1, H.2.1, fun _ _ => rfl, rfl, rfl⟩
theorem QP.a1 (H : QP m h0 μ h) : h.1 (m + 1) = some (vZ 16 (qZ μ 1)) := H.2.1.1
theorem QP.a2 (H : QP m h0 μ h) : h.1 (m + 2) = some (vZ 256 (qZ μ 2)) := H.2.1.2.1
theorem QP.a3 (H : QP m h0 μ h) : h.1 (m + 3) = some (vZ 2048 (qZ μ 3)) := H.2.1.2.2.1
theorem QP.a4 (H : QP m h0 μ h) : h.1 (m + 4) = some (vN 16 (qI μ 4)) := H.2.1.2.2.2.1
theorem QP.a5 (H : QP m h0 μ h) : h.1 (m + 5) = some (vN 16 (qI μ 5)) := H.2.1.2.2.2.2.1
theorem QP.a6 (H : QP m h0 μ h) : h.1 (m + 6) = some (vN 16 (qI μ 6)) := H.2.1.2.2.2.2.2.1
theorem QP.a7 (H : QP m h0 μ h) : h.1 (m + 7) = some (vL 256 (qL μ 7)) := H.2.1.2.2.2.2.2.2.1
theorem QP.a8 (H : QP m h0 μ h) : h.1 (m + 8) = some (vL 2048 (qL μ 8)) := H.2.1.2.2.2.2.2.2.2.1
theorem QP.a9 (H : QP m h0 μ h) : h.1 (m + 9) = some (vN 16 (qI μ 9)) := H.2.1.2.2.2.2.2.2.2.2.1
theorem QP.a10 (H : QP m h0 μ h) : h.1 (m + 10) = some (vN 8320 (qI μ 10)) := H.2.1.2.2.2.2.2.2.2.2.2.1
theorem QP.a11 (H : QP m h0 μ h) : h.1 (m + 11) = some (vN 16 (qI μ 11)) := H.2.1.2.2.2.2.2.2.2.2.2.2.1
theorem QP.a12 (H : QP m h0 μ h) : h.1 (m + 12) = some (vL 8320 (qL μ 12)) := H.2.1.2.2.2.2.2.2.2.2.2.2.2
theorem QP.x (H : QP m h0 μ h) (x : Nat) : QP m h0 (sX μ x) (xset h m (qC m x (qK μ))) := by
  refine ⟨xset_eq _ _ _, ⟨?_, ?_, ?_, ?_, ?_, ?_, ?_, ?_, ?_, ?_, ?_, ?_⟩, fun q hq => ?_, H.2.2.2.1, H.2.2.2.2⟩
  · rw [xset_ne _ _ (by omega)]; exact H.a1
  · rw [xset_ne _ _ (by omega)]; exact H.a2
  · rw [xset_ne _ _ (by omega)]; exact H.a3
  · rw [xset_ne _ _ (by omega)]; exact H.a4
  · rw [xset_ne _ _ (by omega)]; exact H.a5
  · rw [xset_ne _ _ (by omega)]; exact H.a6
  · rw [xset_ne _ _ (by omega)]; exact H.a7
  · rw [xset_ne _ _ (by omega)]; exact H.a8
  · rw [xset_ne _ _ (by omega)]; exact H.a9
  · rw [xset_ne _ _ (by omega)]; exact H.a10
  · rw [xset_ne _ _ (by omega)]; exact H.a11
  · rw [xset_ne _ _ (by omega)]; exact H.a12
  · rw [xset_ne _ _ (by omega)]; exact H.2.2.1 q hq
theorem QP.c (H : QP m h0 μ h) (x : Nat) : QP m h0 (sC μ x) (xset h m (qC m (qX μ) x)) := by
  refine ⟨xset_eq _ _ _, ⟨?_, ?_, ?_, ?_, ?_, ?_, ?_, ?_, ?_, ?_, ?_, ?_⟩, fun q hq => ?_, H.2.2.2.1, H.2.2.2.2⟩
  · rw [xset_ne _ _ (by omega)]; exact H.a1
  · rw [xset_ne _ _ (by omega)]; exact H.a2
  · rw [xset_ne _ _ (by omega)]; exact H.a3
  · rw [xset_ne _ _ (by omega)]; exact H.a4
  · rw [xset_ne _ _ (by omega)]; exact H.a5
  · rw [xset_ne _ _ (by omega)]; exact H.a6
  · rw [xset_ne _ _ (by omega)]; exact H.a7
  · rw [xset_ne _ _ (by omega)]; exact H.a8
  · rw [xset_ne _ _ (by omega)]; exact H.a9
  · rw [xset_ne _ _ (by omega)]; exact H.a10
  · rw [xset_ne _ _ (by omega)]; exact H.a11
  · rw [xset_ne _ _ (by omega)]; exact H.a12
  · rw [xset_ne _ _ (by omega)]; exact H.2.2.1 q hq
theorem QP.s1 (H : QP m h0 μ h) (j : Nat) (v : Bool) : QP m h0 (sZ μ 1 j v) (xset h (m + 1) (.inl (.boolean, 16, .inl (va_up (fun i => xb (qZ μ 1 i)) j (xb v))))) := by
  rw [up_xb]
  refine ⟨?_, ⟨?_, ?_, ?_, ?_, ?_, ?_, ?_, ?_, ?_, ?_, ?_, ?_⟩, fun q hq => ?_, H.2.2.2.1, H.2.2.2.2⟩
  · rw [xset_ne _ _ (by omega)]; exact H.1
  · rw [xset_eq]; show _ = some (vZ 16 (va_up (qZ μ) 1 (va_up (qZ μ 1) j v) 1)); rw [up_eq]
  · rw [xset_ne _ _ (by omega), H.a2]; show _ = some (vZ 256 (va_up (qZ μ) 1 (va_up (qZ μ 1) j v) 2)); rw [up_ne _ _ (by decide)]
  · rw [xset_ne _ _ (by omega), H.a3]; show _ = some (vZ 2048 (va_up (qZ μ) 1 (va_up (qZ μ 1) j v) 3)); rw [up_ne _ _ (by decide)]
  · rw [xset_ne _ _ (by omega)]; exact H.a4
  · rw [xset_ne _ _ (by omega)]; exact H.a5
  · rw [xset_ne _ _ (by omega)]; exact H.a6
  · rw [xset_ne _ _ (by omega)]; exact H.a7
  · rw [xset_ne _ _ (by omega)]; exact H.a8
  · rw [xset_ne _ _ (by omega)]; exact H.a9
  · rw [xset_ne _ _ (by omega)]; exact H.a10
  · rw [xset_ne _ _ (by omega)]; exact H.a11
  · rw [xset_ne _ _ (by omega)]; exact H.a12
  · rw [xset_ne _ _ (by omega)]; exact H.2.2.1 q hq
theorem QP.s2 (H : QP m h0 μ h) (j : Nat) (v : Bool) : QP m h0 (sZ μ 2 j v) (xset h (m + 2) (.inl (.boolean, 256, .inl (va_up (fun i => xb (qZ μ 2 i)) j (xb v))))) := by
  rw [up_xb]
  refine ⟨?_, ⟨?_, ?_, ?_, ?_, ?_, ?_, ?_, ?_, ?_, ?_, ?_, ?_⟩, fun q hq => ?_, H.2.2.2.1, H.2.2.2.2⟩
  · rw [xset_ne _ _ (by omega)]; exact H.1
  · rw [xset_ne _ _ (by omega), H.a1]; show _ = some (vZ 16 (va_up (qZ μ) 2 (va_up (qZ μ 2) j v) 1)); rw [up_ne _ _ (by decide)]
  · rw [xset_eq]; show _ = some (vZ 256 (va_up (qZ μ) 2 (va_up (qZ μ 2) j v) 2)); rw [up_eq]
  · rw [xset_ne _ _ (by omega), H.a3]; show _ = some (vZ 2048 (va_up (qZ μ) 2 (va_up (qZ μ 2) j v) 3)); rw [up_ne _ _ (by decide)]
  · rw [xset_ne _ _ (by omega)]; exact H.a4
  · rw [xset_ne _ _ (by omega)]; exact H.a5
  · rw [xset_ne _ _ (by omega)]; exact H.a6
  · rw [xset_ne _ _ (by omega)]; exact H.a7
  · rw [xset_ne _ _ (by omega)]; exact H.a8
  · rw [xset_ne _ _ (by omega)]; exact H.a9
  · rw [xset_ne _ _ (by omega)]; exact H.a10
  · rw [xset_ne _ _ (by omega)]; exact H.a11
  · rw [xset_ne _ _ (by omega)]; exact H.a12
  · rw [xset_ne _ _ (by omega)]; exact H.2.2.1 q hq
theorem QP.s3 (H : QP m h0 μ h) (j : Nat) (v : Bool) : QP m h0 (sZ μ 3 j v) (xset h (m + 3) (.inl (.boolean, 2048, .inl (va_up (fun i => xb (qZ μ 3 i)) j (xb v))))) := by
  rw [up_xb]
  refine ⟨?_, ⟨?_, ?_, ?_, ?_, ?_, ?_, ?_, ?_, ?_, ?_, ?_, ?_⟩, fun q hq => ?_, H.2.2.2.1, H.2.2.2.2⟩
  · rw [xset_ne _ _ (by omega)]; exact H.1
  · rw [xset_ne _ _ (by omega), H.a1]; show _ = some (vZ 16 (va_up (qZ μ) 3 (va_up (qZ μ 3) j v) 1)); rw [up_ne _ _ (by decide)]
  · rw [xset_ne _ _ (by omega), H.a2]; show _ = some (vZ 256 (va_up (qZ μ) 3 (va_up (qZ μ 3) j v) 2)); rw [up_ne _ _ (by decide)]
  · rw [xset_eq]; show _ = some (vZ 2048 (va_up (qZ μ) 3 (va_up (qZ μ 3) j v) 3)); rw [up_eq]
  · rw [xset_ne _ _ (by omega)]; exact H.a4
  · rw [xset_ne _ _ (by omega)]; exact H.a5
  · rw [xset_ne _ _ (by omega)]; exact H.a6
  · rw [xset_ne _ _ (by omega)]; exact H.a7
  · rw [xset_ne _ _ (by omega)]; exact H.a8
  · rw [xset_ne _ _ (by omega)]; exact H.a9
  · rw [xset_ne _ _ (by omega)]; exact H.a10
  · rw [xset_ne _ _ (by omega)]; exact H.a11
  · rw [xset_ne _ _ (by omega)]; exact H.a12
  · rw [xset_ne _ _ (by omega)]; exact H.2.2.1 q hq
theorem QP.s4 (H : QP m h0 μ h) (j : Nat) (v : Nat) : QP m h0 (sI μ 4 j v) (xset h (m + 4) (.inl (.int, 16, .inl (va_up (fun i => nI (qI μ 4 i)) j (nI v))))) := by
  rw [up_nI]
  refine ⟨?_, ⟨?_, ?_, ?_, ?_, ?_, ?_, ?_, ?_, ?_, ?_, ?_, ?_⟩, fun q hq => ?_, H.2.2.2.1, H.2.2.2.2⟩
  · rw [xset_ne _ _ (by omega)]; exact H.1
  · rw [xset_ne _ _ (by omega)]; exact H.a1
  · rw [xset_ne _ _ (by omega)]; exact H.a2
  · rw [xset_ne _ _ (by omega)]; exact H.a3
  · rw [xset_eq]; show _ = some (vN 16 (va_up (qI μ) 4 (va_up (qI μ 4) j v) 4)); rw [up_eq]
  · rw [xset_ne _ _ (by omega), H.a5]; show _ = some (vN 16 (va_up (qI μ) 4 (va_up (qI μ 4) j v) 5)); rw [up_ne _ _ (by decide)]
  · rw [xset_ne _ _ (by omega), H.a6]; show _ = some (vN 16 (va_up (qI μ) 4 (va_up (qI μ 4) j v) 6)); rw [up_ne _ _ (by decide)]
  · rw [xset_ne _ _ (by omega)]; exact H.a7
  · rw [xset_ne _ _ (by omega)]; exact H.a8
  · rw [xset_ne _ _ (by omega), H.a9]; show _ = some (vN 16 (va_up (qI μ) 4 (va_up (qI μ 4) j v) 9)); rw [up_ne _ _ (by decide)]
  · rw [xset_ne _ _ (by omega), H.a10]; show _ = some (vN 8320 (va_up (qI μ) 4 (va_up (qI μ 4) j v) 10)); rw [up_ne _ _ (by decide)]
  · rw [xset_ne _ _ (by omega), H.a11]; show _ = some (vN 16 (va_up (qI μ) 4 (va_up (qI μ 4) j v) 11)); rw [up_ne _ _ (by decide)]
  · rw [xset_ne _ _ (by omega)]; exact H.a12
  · rw [xset_ne _ _ (by omega)]; exact H.2.2.1 q hq
theorem QP.s5 (H : QP m h0 μ h) (j : Nat) (v : Nat) : QP m h0 (sI μ 5 j v) (xset h (m + 5) (.inl (.int, 16, .inl (va_up (fun i => nI (qI μ 5 i)) j (nI v))))) := by
  rw [up_nI]
  refine ⟨?_, ⟨?_, ?_, ?_, ?_, ?_, ?_, ?_, ?_, ?_, ?_, ?_, ?_⟩, fun q hq => ?_, H.2.2.2.1, H.2.2.2.2⟩
  · rw [xset_ne _ _ (by omega)]; exact H.1
  · rw [xset_ne _ _ (by omega)]; exact H.a1
  · rw [xset_ne _ _ (by omega)]; exact H.a2
  · rw [xset_ne _ _ (by omega)]; exact H.a3
  · rw [xset_ne _ _ (by omega), H.a4]; show _ = some (vN 16 (va_up (qI μ) 5 (va_up (qI μ 5) j v) 4)); rw [up_ne _ _ (by decide)]
  · rw [xset_eq]; show _ = some (vN 16 (va_up (qI μ) 5 (va_up (qI μ 5) j v) 5)); rw [up_eq]
  · rw [xset_ne _ _ (by omega), H.a6]; show _ = some (vN 16 (va_up (qI μ) 5 (va_up (qI μ 5) j v) 6)); rw [up_ne _ _ (by decide)]
  · rw [xset_ne _ _ (by omega)]; exact H.a7
  · rw [xset_ne _ _ (by omega)]; exact H.a8
  · rw [xset_ne _ _ (by omega), H.a9]; show _ = some (vN 16 (va_up (qI μ) 5 (va_up (qI μ 5) j v) 9)); rw [up_ne _ _ (by decide)]
  · rw [xset_ne _ _ (by omega), H.a10]; show _ = some (vN 8320 (va_up (qI μ) 5 (va_up (qI μ 5) j v) 10)); rw [up_ne _ _ (by decide)]
  · rw [xset_ne _ _ (by omega), H.a11]; show _ = some (vN 16 (va_up (qI μ) 5 (va_up (qI μ 5) j v) 11)); rw [up_ne _ _ (by decide)]
  · rw [xset_ne _ _ (by omega)]; exact H.a12
  · rw [xset_ne _ _ (by omega)]; exact H.2.2.1 q hq
theorem QP.s6 (H : QP m h0 μ h) (j : Nat) (v : Nat) : QP m h0 (sI μ 6 j v) (xset h (m + 6) (.inl (.int, 16, .inl (va_up (fun i => nI (qI μ 6 i)) j (nI v))))) := by
  rw [up_nI]
  refine ⟨?_, ⟨?_, ?_, ?_, ?_, ?_, ?_, ?_, ?_, ?_, ?_, ?_, ?_⟩, fun q hq => ?_, H.2.2.2.1, H.2.2.2.2⟩
  · rw [xset_ne _ _ (by omega)]; exact H.1
  · rw [xset_ne _ _ (by omega)]; exact H.a1
  · rw [xset_ne _ _ (by omega)]; exact H.a2
  · rw [xset_ne _ _ (by omega)]; exact H.a3
  · rw [xset_ne _ _ (by omega), H.a4]; show _ = some (vN 16 (va_up (qI μ) 6 (va_up (qI μ 6) j v) 4)); rw [up_ne _ _ (by decide)]
  · rw [xset_ne _ _ (by omega), H.a5]; show _ = some (vN 16 (va_up (qI μ) 6 (va_up (qI μ 6) j v) 5)); rw [up_ne _ _ (by decide)]
  · rw [xset_eq]; show _ = some (vN 16 (va_up (qI μ) 6 (va_up (qI μ 6) j v) 6)); rw [up_eq]
  · rw [xset_ne _ _ (by omega)]; exact H.a7
  · rw [xset_ne _ _ (by omega)]; exact H.a8
  · rw [xset_ne _ _ (by omega), H.a9]; show _ = some (vN 16 (va_up (qI μ) 6 (va_up (qI μ 6) j v) 9)); rw [up_ne _ _ (by decide)]
  · rw [xset_ne _ _ (by omega), H.a10]; show _ = some (vN 8320 (va_up (qI μ) 6 (va_up (qI μ 6) j v) 10)); rw [up_ne _ _ (by decide)]
  · rw [xset_ne _ _ (by omega), H.a11]; show _ = some (vN 16 (va_up (qI μ) 6 (va_up (qI μ 6) j v) 11)); rw [up_ne _ _ (by decide)]
  · rw [xset_ne _ _ (by omega)]; exact H.a12
  · rw [xset_ne _ _ (by omega)]; exact H.2.2.1 q hq
theorem QP.s7 (H : QP m h0 μ h) (j : Nat) (v : Int64) : QP m h0 (sL μ 7 j v) (xset h (m + 7) (.inl (.long, 256, .inr (.inl (va_up (qL μ 7) j v))))) := by
  refine ⟨?_, ⟨?_, ?_, ?_, ?_, ?_, ?_, ?_, ?_, ?_, ?_, ?_, ?_⟩, fun q hq => ?_, H.2.2.2.1, H.2.2.2.2⟩
  · rw [xset_ne _ _ (by omega)]; exact H.1
  · rw [xset_ne _ _ (by omega)]; exact H.a1
  · rw [xset_ne _ _ (by omega)]; exact H.a2
  · rw [xset_ne _ _ (by omega)]; exact H.a3
  · rw [xset_ne _ _ (by omega)]; exact H.a4
  · rw [xset_ne _ _ (by omega)]; exact H.a5
  · rw [xset_ne _ _ (by omega)]; exact H.a6
  · rw [xset_eq]; show _ = some (vL 256 (va_up (qL μ) 7 (va_up (qL μ 7) j v) 7)); rw [up_eq]
  · rw [xset_ne _ _ (by omega), H.a8]; show _ = some (vL 2048 (va_up (qL μ) 7 (va_up (qL μ 7) j v) 8)); rw [up_ne _ _ (by decide)]
  · rw [xset_ne _ _ (by omega)]; exact H.a9
  · rw [xset_ne _ _ (by omega)]; exact H.a10
  · rw [xset_ne _ _ (by omega)]; exact H.a11
  · rw [xset_ne _ _ (by omega), H.a12]; show _ = some (vL 8320 (va_up (qL μ) 7 (va_up (qL μ 7) j v) 12)); rw [up_ne _ _ (by decide)]
  · rw [xset_ne _ _ (by omega)]; exact H.2.2.1 q hq
theorem QP.s8 (H : QP m h0 μ h) (j : Nat) (v : Int64) : QP m h0 (sL μ 8 j v) (xset h (m + 8) (.inl (.long, 2048, .inr (.inl (va_up (qL μ 8) j v))))) := by
  refine ⟨?_, ⟨?_, ?_, ?_, ?_, ?_, ?_, ?_, ?_, ?_, ?_, ?_, ?_⟩, fun q hq => ?_, H.2.2.2.1, H.2.2.2.2⟩
  · rw [xset_ne _ _ (by omega)]; exact H.1
  · rw [xset_ne _ _ (by omega)]; exact H.a1
  · rw [xset_ne _ _ (by omega)]; exact H.a2
  · rw [xset_ne _ _ (by omega)]; exact H.a3
  · rw [xset_ne _ _ (by omega)]; exact H.a4
  · rw [xset_ne _ _ (by omega)]; exact H.a5
  · rw [xset_ne _ _ (by omega)]; exact H.a6
  · rw [xset_ne _ _ (by omega), H.a7]; show _ = some (vL 256 (va_up (qL μ) 8 (va_up (qL μ 8) j v) 7)); rw [up_ne _ _ (by decide)]
  · rw [xset_eq]; show _ = some (vL 2048 (va_up (qL μ) 8 (va_up (qL μ 8) j v) 8)); rw [up_eq]
  · rw [xset_ne _ _ (by omega)]; exact H.a9
  · rw [xset_ne _ _ (by omega)]; exact H.a10
  · rw [xset_ne _ _ (by omega)]; exact H.a11
  · rw [xset_ne _ _ (by omega), H.a12]; show _ = some (vL 8320 (va_up (qL μ) 8 (va_up (qL μ 8) j v) 12)); rw [up_ne _ _ (by decide)]
  · rw [xset_ne _ _ (by omega)]; exact H.2.2.1 q hq
theorem QP.s9 (H : QP m h0 μ h) (j : Nat) (v : Nat) : QP m h0 (sI μ 9 j v) (xset h (m + 9) (.inl (.int, 16, .inl (va_up (fun i => nI (qI μ 9 i)) j (nI v))))) := by
  rw [up_nI]
  refine ⟨?_, ⟨?_, ?_, ?_, ?_, ?_, ?_, ?_, ?_, ?_, ?_, ?_, ?_⟩, fun q hq => ?_, H.2.2.2.1, H.2.2.2.2⟩
  · rw [xset_ne _ _ (by omega)]; exact H.1
  · rw [xset_ne _ _ (by omega)]; exact H.a1
  · rw [xset_ne _ _ (by omega)]; exact H.a2
  · rw [xset_ne _ _ (by omega)]; exact H.a3
  · rw [xset_ne _ _ (by omega), H.a4]; show _ = some (vN 16 (va_up (qI μ) 9 (va_up (qI μ 9) j v) 4)); rw [up_ne _ _ (by decide)]
  · rw [xset_ne _ _ (by omega), H.a5]; show _ = some (vN 16 (va_up (qI μ) 9 (va_up (qI μ 9) j v) 5)); rw [up_ne _ _ (by decide)]
  · rw [xset_ne _ _ (by omega), H.a6]; show _ = some (vN 16 (va_up (qI μ) 9 (va_up (qI μ 9) j v) 6)); rw [up_ne _ _ (by decide)]
  · rw [xset_ne _ _ (by omega)]; exact H.a7
  · rw [xset_ne _ _ (by omega)]; exact H.a8
  · rw [xset_eq]; show _ = some (vN 16 (va_up (qI μ) 9 (va_up (qI μ 9) j v) 9)); rw [up_eq]
  · rw [xset_ne _ _ (by omega), H.a10]; show _ = some (vN 8320 (va_up (qI μ) 9 (va_up (qI μ 9) j v) 10)); rw [up_ne _ _ (by decide)]
  · rw [xset_ne _ _ (by omega), H.a11]; show _ = some (vN 16 (va_up (qI μ) 9 (va_up (qI μ 9) j v) 11)); rw [up_ne _ _ (by decide)]
  · rw [xset_ne _ _ (by omega)]; exact H.a12
  · rw [xset_ne _ _ (by omega)]; exact H.2.2.1 q hq
theorem QP.s10 (H : QP m h0 μ h) (j : Nat) (v : Nat) : QP m h0 (sI μ 10 j v) (xset h (m + 10) (.inl (.int, 8320, .inl (va_up (fun i => nI (qI μ 10 i)) j (nI v))))) := by
  rw [up_nI]
  refine ⟨?_, ⟨?_, ?_, ?_, ?_, ?_, ?_, ?_, ?_, ?_, ?_, ?_, ?_⟩, fun q hq => ?_, H.2.2.2.1, H.2.2.2.2⟩
  · rw [xset_ne _ _ (by omega)]; exact H.1
  · rw [xset_ne _ _ (by omega)]; exact H.a1
  · rw [xset_ne _ _ (by omega)]; exact H.a2
  · rw [xset_ne _ _ (by omega)]; exact H.a3
  · rw [xset_ne _ _ (by omega), H.a4]; show _ = some (vN 16 (va_up (qI μ) 10 (va_up (qI μ 10) j v) 4)); rw [up_ne _ _ (by decide)]
  · rw [xset_ne _ _ (by omega), H.a5]; show _ = some (vN 16 (va_up (qI μ) 10 (va_up (qI μ 10) j v) 5)); rw [up_ne _ _ (by decide)]
  · rw [xset_ne _ _ (by omega), H.a6]; show _ = some (vN 16 (va_up (qI μ) 10 (va_up (qI μ 10) j v) 6)); rw [up_ne _ _ (by decide)]
  · rw [xset_ne _ _ (by omega)]; exact H.a7
  · rw [xset_ne _ _ (by omega)]; exact H.a8
  · rw [xset_ne _ _ (by omega), H.a9]; show _ = some (vN 16 (va_up (qI μ) 10 (va_up (qI μ 10) j v) 9)); rw [up_ne _ _ (by decide)]
  · rw [xset_eq]; show _ = some (vN 8320 (va_up (qI μ) 10 (va_up (qI μ 10) j v) 10)); rw [up_eq]
  · rw [xset_ne _ _ (by omega), H.a11]; show _ = some (vN 16 (va_up (qI μ) 10 (va_up (qI μ 10) j v) 11)); rw [up_ne _ _ (by decide)]
  · rw [xset_ne _ _ (by omega)]; exact H.a12
  · rw [xset_ne _ _ (by omega)]; exact H.2.2.1 q hq
theorem QP.s11 (H : QP m h0 μ h) (j : Nat) (v : Nat) : QP m h0 (sI μ 11 j v) (xset h (m + 11) (.inl (.int, 16, .inl (va_up (fun i => nI (qI μ 11 i)) j (nI v))))) := by
  rw [up_nI]
  refine ⟨?_, ⟨?_, ?_, ?_, ?_, ?_, ?_, ?_, ?_, ?_, ?_, ?_, ?_⟩, fun q hq => ?_, H.2.2.2.1, H.2.2.2.2⟩
  · rw [xset_ne _ _ (by omega)]; exact H.1
  · rw [xset_ne _ _ (by omega)]; exact H.a1
  · rw [xset_ne _ _ (by omega)]; exact H.a2
  · rw [xset_ne _ _ (by omega)]; exact H.a3
  · rw [xset_ne _ _ (by omega), H.a4]; show _ = some (vN 16 (va_up (qI μ) 11 (va_up (qI μ 11) j v) 4)); rw [up_ne _ _ (by decide)]
  · rw [xset_ne _ _ (by omega), H.a5]; show _ = some (vN 16 (va_up (qI μ) 11 (va_up (qI μ 11) j v) 5)); rw [up_ne _ _ (by decide)]
  · rw [xset_ne _ _ (by omega), H.a6]; show _ = some (vN 16 (va_up (qI μ) 11 (va_up (qI μ 11) j v) 6)); rw [up_ne _ _ (by decide)]
  · rw [xset_ne _ _ (by omega)]; exact H.a7
  · rw [xset_ne _ _ (by omega)]; exact H.a8
  · rw [xset_ne _ _ (by omega), H.a9]; show _ = some (vN 16 (va_up (qI μ) 11 (va_up (qI μ 11) j v) 9)); rw [up_ne _ _ (by decide)]
  · rw [xset_ne _ _ (by omega), H.a10]; show _ = some (vN 8320 (va_up (qI μ) 11 (va_up (qI μ 11) j v) 10)); rw [up_ne _ _ (by decide)]
  · rw [xset_eq]; show _ = some (vN 16 (va_up (qI μ) 11 (va_up (qI μ 11) j v) 11)); rw [up_eq]
  · rw [xset_ne _ _ (by omega)]; exact H.a12
  · rw [xset_ne _ _ (by omega)]; exact H.2.2.1 q hq
theorem QP.s12 (H : QP m h0 μ h) (j : Nat) (v : Int64) : QP m h0 (sL μ 12 j v) (xset h (m + 12) (.inl (.long, 8320, .inr (.inl (va_up (qL μ 12) j v))))) := by
  refine ⟨?_, ⟨?_, ?_, ?_, ?_, ?_, ?_, ?_, ?_, ?_, ?_, ?_, ?_⟩, fun q hq => ?_, H.2.2.2.1, H.2.2.2.2⟩
  · rw [xset_ne _ _ (by omega)]; exact H.1
  · rw [xset_ne _ _ (by omega)]; exact H.a1
  · rw [xset_ne _ _ (by omega)]; exact H.a2
  · rw [xset_ne _ _ (by omega)]; exact H.a3
  · rw [xset_ne _ _ (by omega)]; exact H.a4
  · rw [xset_ne _ _ (by omega)]; exact H.a5
  · rw [xset_ne _ _ (by omega)]; exact H.a6
  · rw [xset_ne _ _ (by omega), H.a7]; show _ = some (vL 256 (va_up (qL μ) 12 (va_up (qL μ 12) j v) 7)); rw [up_ne _ _ (by decide)]
  · rw [xset_ne _ _ (by omega), H.a8]; show _ = some (vL 2048 (va_up (qL μ) 12 (va_up (qL μ 12) j v) 8)); rw [up_ne _ _ (by decide)]
  · rw [xset_ne _ _ (by omega)]; exact H.a9
  · rw [xset_ne _ _ (by omega)]; exact H.a10
  · rw [xset_ne _ _ (by omega)]; exact H.a11
  · rw [xset_eq]; show _ = some (vL 8320 (va_up (qL μ) 12 (va_up (qL μ 12) j v) 12)); rw [up_eq]
  · rw [xset_ne _ _ (by omega)]; exact H.2.2.1 q hq
end
