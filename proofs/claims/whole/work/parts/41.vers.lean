/-! Versions: each method over any heap that holds its cells -/
theorem xset_self {h : xH} {a : Nat} {c : xC} (ha : h.1 a = some c) : xset h a c = h := by
  obtain ⟨m, z, u⟩ := h
  simp only [xset]
  congr 1
  funext q
  by_cases hq : q = a
  · subst hq; simp [show m q = some c from ha]
  · simp [hq]
theorem xset_twice (h : xH) (a : Nat) (c1 c2 : xC) : xset (xset h a c1) a c2 = xset h a c2 := by
  simp only [xset]
  congr 1
  funext q
  by_cases hq : q = a <;> simp [hq]
theorem xset_comm (h : xH) {a b : Nat} (hab : a ≠ b) (c1 c2 : xC) : xset (xset h a c1) b c2 = xset (xset h b c2) a c1 := by
  simp only [xset]
  congr 1
  funext q
  by_cases hq : q = a
  · subst hq; simp [hab]
  · by_cases hq2 : q = b <;> simp [hq, hq2, Ne.symm hab]
theorem up_nI (f : Nat → Nat) (j x : Nat) : va_up (fun i => nI (f i)) j (nI x) = fun i => nI (va_up f j x i) := by
  funext i
  by_cases hi : i = j <;> simp [va_up, hi]
abbrev vV (a n : Nat) : xC := .inr (2, [.ref (a + 1), .ref (a + 2), .ref (a + 3), .int (nI n)])
abbrev vN (n : Nat) (f : Nat → Nat) : xC := .inl (.int, n, .inl (fun i => nI (f i)))
abbrev vW : Type := (Nat → Nat) × (Nat → Nat) × (Nat → Int64)
/-- the three rows -/
def vput (h : xH) (a : Nat) (A : vW) : xH := xset (xset (xset h (a + 1) (vN 500 A.1)) (a + 2) (vN 500 A.2.1)) (a + 3) (vL 500 A.2.2)
theorem vput_1 (h : xH) (a : Nat) (A : vW) : (vput h a A).1 (a + 1) = some (vN 500 A.1) := by
  unfold vput; rw [xset_ne _ _ (by omega), xset_ne _ _ (by omega), xset_eq]
theorem vput_2 (h : xH) (a : Nat) (A : vW) : (vput h a A).1 (a + 2) = some (vN 500 A.2.1) := by
  unfold vput; rw [xset_ne _ _ (by omega), xset_eq]
theorem vput_3 (h : xH) (a : Nat) (A : vW) : (vput h a A).1 (a + 3) = some (vL 500 A.2.2) := by
  unfold vput; rw [xset_eq]
theorem vput_ne (h : xH) {a q : Nat} (A : vW) (h1 : q ≠ a + 1) (h2 : q ≠ a + 2) (h3 : q ≠ a + 3) : (vput h a A).1 q = h.1 q := by
  unfold vput; rw [xset_ne _ _ h3, xset_ne _ _ h2, xset_ne _ _ h1]
theorem vput_self {h : xH} {a : Nat} {A : vW} (h1 : h.1 (a + 1) = some (vN 500 A.1)) (h2 : h.1 (a + 2) = some (vN 500 A.2.1)) (h3 : h.1 (a + 3) = some (vL 500 A.2.2)) : vput h a A = h := by
  unfold vput; rw [xset_self h1, xset_self h2, xset_self h3]
theorem vput_twice (h : xH) (a : Nat) (A B : vW) : vput (vput h a A) a B = vput h a B := by
  unfold vput
  rw [xset_comm _ (show a + 3 ≠ a + 1 by omega), xset_comm _ (show a + 2 ≠ a + 1 by omega), xset_twice, xset_comm _ (show a + 3 ≠ a + 2 by omega), xset_twice, xset_twice]
def mv (A : vW) (i j : Nat) : vW := (va_up A.1 j (A.1 i), va_up A.2.1 j (A.2.1 i), va_up A.2.2 j (A.2.2 i))
/-- the newest version of the cell not above the clock: its place and one, nought for none -/
def vix (A : vW) (c k : Nat) : Nat → Nat
  | 0 => 0
  | n + 1 => if A.1 n = c ∧ A.2.1 n ≤ k then n + 1 else vix A c k n
def vwa (A : vW) (k : Nat) : Nat → Int32 → Int32
  | 0, z => z
  | n + 1, z => if A.2.1 n ≤ k then z else vwa A k n (z ||| xbit (A.1 n))
theorem vix_le (A : vW) (c k : Nat) : ∀ n, vix A c k n ≤ n
  | 0 => Nat.le_refl _
  | n + 1 => by
    unfold vix
    split
    · exact Nat.le_refl _
    · exact Nat.le_succ_of_le (vix_le A c k n)
section
variable {E : xE} {d a n : Nat} {h : xH} {A : vW}
theorem v_size (ha : h.1 a = some (vV a n)) : xG E d mV_size 0 [(0, .ref a)] [] false h (false, .inl (some (.int (nI n))), h) := by
  refine x_aload_n dV_size_0 rfl ?_
  refine x_get fV_size dV_size_1 (by assumption) rfl ?_
  exact x_iret rfl dV_size_4
theorem v_room {m : Nat} (hn : n ≤ 500) (hm : m ≤ 16) (ha : h.1 a = some (vV a n)) : xG E d mV_haveRoomFor 0 [(0, .ref a), (1, .int (nI m))] [] false h (false, .inl (some (.int (xb (decide (n + m ≤ 500))))), h) := by
  refine x_aload_n dV_haveRoomFor_0 rfl ?_
  refine x_get fV_size dV_haveRoomFor_1 (by assumption) rfl ?_
  refine x_iload_n dV_haveRoomFor_4 rfl ?_
  refine x_iadd dV_haveRoomFor_5 ?_
  refine x_top (v' := .int (nI (n + m))) (by rw [nI_add]) ?_
  refine x_sipush (v := (nI 500)) dV_haveRoomFor_6 (by decide) ?_
  refine x_icmp_gt 16 dV_haveRoomFor_9 (by decide) (fun hc => ?_) (fun hc => ?_)
  · rw [show decide (n + m ≤ 500) = false from decide_eq_false (fun q => absurd hc (nI_nlt q (by decide)))]
    refine x_iconst (v := (xb false)) dV_haveRoomFor_16 (by decide) ?_
    exact x_zret (xb_n _) rfl dV_haveRoomFor_17
  · rw [show decide (n + m ≤ 500) = true from decide_eq_true (Nat.not_lt.mp (fun q => hc (nI_lt q (by omega))))]
    refine x_iconst (v := (xb true)) dV_haveRoomFor_12 (by decide) ?_
    refine x_goto 17 dV_haveRoomFor_13 (by decide) ?_
    exact x_zret (xb_n _) rfl dV_haveRoomFor_17
theorem v_append {c k : Nat} {x : Int64} (hb : E.2.2.1 ≤ a) (hn : n < 500) (ha : h.1 a = some (vV a n)) (h1 : h.1 (a + 1) = some (vN 500 A.1)) (h2 : h.1 (a + 2) = some (vN 500 A.2.1)) (h3 : h.1 (a + 3) = some (vL 500 A.2.2)) : xG E d mV_append 0 [(0, .ref a), (1, .int (nI c)), (2, .int (nI k)), (3, .long x)] [] false h (true, .inl none, xset (vput h a (va_up A.1 n c, va_up A.2.1 n k, va_up A.2.2 n x)) a (vV a (n + 1))) := by
  refine x_aload_n dV_append_0 rfl ?_
  refine x_get fV_size dV_append_1 (by assumption) rfl ?_
  refine x_sipush (v := (nI 500)) dV_append_4 (by decide) ?_
  refine x_icmp_ge 50 dV_append_7 (by decide) (fun hc => absurd hc (nI_ge hn (by decide))) (fun _ => ?_)
  refine x_aload_n dV_append_10 rfl ?_
  refine x_get fV_cells dV_append_11 (by assumption) rfl ?_
  refine x_aload_n dV_append_14 rfl ?_
  refine x_get fV_size dV_append_15 (by assumption) rfl ?_
  refine x_iload_n dV_append_18 rfl ?_
  refine x_iast n dV_append_19 h1 (by omega) rfl hn (by decide) ?_
  rw [up_nI]
  refine x_aload_n dV_append_20 rfl ?_
  refine x_get fV_clocks dV_append_21 ((xset_ne _ _ (by omega)).trans ha) rfl ?_
  refine x_aload_n dV_append_24 rfl ?_
  refine x_get fV_size dV_append_25 ((xset_ne _ _ (by omega)).trans ha) rfl ?_
  refine x_iload_n dV_append_28 rfl ?_
  refine x_iast n dV_append_29 ((xset_ne _ _ (by omega)).trans h2) (by omega) rfl hn (by decide) ?_
  rw [up_nI]
  refine x_aload_n dV_append_30 rfl ?_
  refine x_get fV_values dV_append_31 ((xset_ne _ _ (by omega)).trans ((xset_ne _ _ (by omega)).trans ha)) rfl ?_
  refine x_aload_n dV_append_34 rfl ?_
  refine x_get fV_size dV_append_35 ((xset_ne _ _ (by omega)).trans ((xset_ne _ _ (by omega)).trans ha)) rfl ?_
  refine x_lload_n dV_append_38 rfl ?_
  refine x_last n dV_append_39 ((xset_ne _ _ (by omega)).trans ((xset_ne _ _ (by omega)).trans h3)) (by omega) rfl hn (by decide) ?_
  refine x_aload_n dV_append_40 rfl ?_
  refine x_dup dV_append_41 rfl ?_
  refine x_get fV_size dV_append_42 ((vput_ne h (va_up A.1 n c, va_up A.2.1 n k, va_up A.2.2 n x) (by omega) (by omega) (by omega)).trans ha) rfl ?_
  refine x_iconst (v := (nI 1)) dV_append_45 (by decide) ?_
  refine x_iadd dV_append_46 ?_
  refine x_top (v' := .int (nI (n + 1))) (by rw [nI_add]) ?_
  refine x_put fV_size dV_append_47 ((vput_ne h (va_up A.1 n c, va_up A.2.1 n k, va_up A.2.2 n x) (by omega) (by omega) (by omega)).trans ha) hb rfl rfl (Nat.le_of_ble_eq_true rfl) ?_
  exact x_vret rfl dV_append_50
theorem v_ix_loop {c k : Nat} (hn : n ≤ 500) (hc : c < 2 ^ 31) (hk : k < 2 ^ 31) (hA : ∀ i, i < n → A.1 i < 2 ^ 31 ∧ A.2.1 i < 2 ^ 31) (ha : h.1 a = some (vV a n)) (h1 : h.1 (a + 1) = some (vN 500 A.1)) (h2 : h.1 (a + 2) = some (vN 500 A.2.1)) : ∀ i : Nat, i ≤ n → xG E d mV_indexAt 7 [(3, .int (xpi i)), (0, .ref a), (1, .int (nI c)), (2, .int (nI k))] [] false h (false, .inl (some (.int (xpi (vix A c k i)))), h) := by
  intro i
  induction i with
  | zero =>
    intro hi
    refine x_iload_n dV_indexAt_7 rfl ?_
    refine x_if_lt 37 dV_indexAt_8 (by decide) (fun _ => ?_) (fun hc => absurd ((xpi_neg 0 (by decide)).mpr rfl) hc)
    refine x_iload_n dV_indexAt_37 rfl ?_
    exact x_iret rfl dV_indexAt_38
  | succ i ih =>
    intro hi
    have hAi := hA i (by omega)
    refine x_iload_n dV_indexAt_7 rfl ?_
    refine x_if_lt 37 dV_indexAt_8 (by decide) (fun hc => absurd ((xpi_neg _ (by omega)).mp hc) (by omega)) (fun _ => ?_)
    refine x_aload_n dV_indexAt_11 rfl ?_
    refine x_get fV_cells dV_indexAt_12 (by assumption) rfl ?_
    refine x_iload_n dV_indexAt_15 rfl ?_
    refine x_iald i dV_indexAt_16 (by assumption) rfl (by omega) (by decide) ?_
    refine x_iload_n dV_indexAt_17 rfl ?_
    refine x_icmp_ne 31 dV_indexAt_18 (by decide) (fun hq => ?_) (fun hq => ?_)
    · rw [show vix A c k (i + 1) = vix A c k i from if_neg (fun q => hq (by rw [q.1]))]
      refine x_iinc (v := xpi i) dV_indexAt_31 rfl (xpi_dec i) (Nat.le_of_ble_eq_true rfl) ?_
      refine x_goto 7 dV_indexAt_34 (by decide) ?_
      exact ih (by omega)
    · have e1 : A.1 i = c := (nI_eq hAi.1 hc).mp hq
      refine x_aload_n dV_indexAt_21 rfl ?_
      refine x_get fV_clocks dV_indexAt_22 (by assumption) rfl ?_
      refine x_iload_n dV_indexAt_25 rfl ?_
      refine x_iald i dV_indexAt_26 (by assumption) rfl (by omega) (by decide) ?_
      refine x_iload_n dV_indexAt_27 rfl ?_
      refine x_icmp_le 37 dV_indexAt_28 (by decide) (fun hz => ?_) (fun hz => ?_)
      · rw [show vix A c k (i + 1) = i + 1 from if_pos ⟨e1, (nI_leI hAi.2 hk).mp hz⟩]
        refine x_iload_n dV_indexAt_37 rfl ?_
        exact x_iret rfl dV_indexAt_38
      · rw [show vix A c k (i + 1) = vix A c k i from if_neg (fun q => hz (nI_le q.2 hk))]
        refine x_iinc (v := xpi i) dV_indexAt_31 rfl (xpi_dec i) (Nat.le_of_ble_eq_true rfl) ?_
        refine x_goto 7 dV_indexAt_34 (by decide) ?_
        exact ih (by omega)
theorem v_ix {c k : Nat} (hn : n ≤ 500) (hc : c < 2 ^ 31) (hk : k < 2 ^ 31) (hA : ∀ i, i < n → A.1 i < 2 ^ 31 ∧ A.2.1 i < 2 ^ 31) (ha : h.1 a = some (vV a n)) (h1 : h.1 (a + 1) = some (vN 500 A.1)) (h2 : h.1 (a + 2) = some (vN 500 A.2.1)) : xG E d mV_indexAt 0 [(0, .ref a), (1, .int (nI c)), (2, .int (nI k))] [] false h (false, .inl (some (.int (xpi (vix A c k n)))), h) := by
  refine x_aload_n dV_indexAt_0 rfl ?_
  refine x_get fV_size dV_indexAt_1 (by assumption) rfl ?_
  refine x_iconst (v := (nI 1)) dV_indexAt_4 (by decide) ?_
  refine x_isub dV_indexAt_5 ?_
  refine x_top (by rw [xpi_of]) ?_
  refine x_istore_n dV_indexAt_6 (Nat.le_of_ble_eq_true rfl) ?_
  exact v_ix_loop hn hc hk hA ha h1 h2 n (Nat.le_refl _)
theorem v_know {c k : Nat} (hn : n ≤ 500) (hc : c < 2 ^ 31) (hk : k < 2 ^ 31) (hA : ∀ i, i < n → A.1 i < 2 ^ 31 ∧ A.2.1 i < 2 ^ 31) (ha : h.1 a = some (vV a n)) (h1 : h.1 (a + 1) = some (vN 500 A.1)) (h2 : h.1 (a + 2) = some (vN 500 A.2.1)) : xG E (d + 1) mV_know 0 [(0, .ref a), (1, .int (nI c)), (2, .int (nI k))] [] false h (false, .inl (some (.int (xb (decide (vix A c k n ≠ 0))))), h) := by
  have hle := vix_le A c k n
  refine x_aload_n dV_know_0 rfl ?_
  refine x_iload_n dV_know_1 rfl ?_
  refine x_iload_n dV_know_2 rfl ?_
  refine x_callV2 cV_V_indexAt dV_know_3 (by assumption) (Nat.le_of_ble_eq_true rfl) (Nat.le_of_ble_eq_true rfl) (v_ix hn hc hk hA ha h1 h2) ?_
  refine x_if_lt 13 dV_know_6 (by decide) (fun hz => ?_) (fun hz => ?_)
  · rw [show decide (vix A c k n ≠ 0) = false from decide_eq_false (fun q => q ((xpi_neg _ (by omega)).mp hz))]
    refine x_iconst (v := (xb false)) dV_know_13 (by decide) ?_
    exact x_zret (xb_n _) rfl dV_know_14
  · rw [show decide (vix A c k n ≠ 0) = true from decide_eq_true (fun q => hz ((xpi_neg _ (by omega)).mpr q))]
    refine x_iconst (v := (xb true)) dV_know_9 (by decide) ?_
    refine x_goto 14 dV_know_10 (by decide) ?_
    exact x_zret (xb_n _) rfl dV_know_14
theorem v_valueAt {c k : Nat} (hn : n ≤ 500) (hc : c < 2 ^ 31) (hk : k < 2 ^ 31) (hA : ∀ i, i < n → A.1 i < 2 ^ 31 ∧ A.2.1 i < 2 ^ 31) (ha : h.1 a = some (vV a n)) (h1 : h.1 (a + 1) = some (vN 500 A.1)) (h2 : h.1 (a + 2) = some (vN 500 A.2.1)) (h3 : h.1 (a + 3) = some (vL 500 A.2.2)) : xG E (d + 1) mV_valueAt 0 [(0, .ref a), (1, .int (nI c)), (2, .int (nI k))] [] false h (false, .inl (some (.long (if vix A c k n = 0 then 0 else A.2.2 (vix A c k n - 1)))), h) := by
  have hle := vix_le A c k n
  refine x_aload_n dV_valueAt_0 rfl ?_
  refine x_iload_n dV_valueAt_1 rfl ?_
  refine x_iload_n dV_valueAt_2 rfl ?_
  refine x_callV2 cV_V_indexAt dV_valueAt_3 (by assumption) (Nat.le_of_ble_eq_true rfl) (Nat.le_of_ble_eq_true rfl) (v_ix hn hc hk hA ha h1 h2) ?_
  refine x_istore_n dV_valueAt_6 (Nat.le_of_ble_eq_true rfl) ?_
  refine x_iload_n dV_valueAt_7 rfl ?_
  refine x_if_lt 20 dV_valueAt_8 (by decide) (fun hz => ?_) (fun hz => ?_)
  · rw [if_pos ((xpi_neg _ (by omega)).mp hz)]
    refine x_lconst (v := 0) dV_valueAt_20 (by decide) ?_
    exact x_lret rfl dV_valueAt_21
  · have hne : vix A c k n ≠ 0 := fun q => hz ((xpi_neg _ (by omega)).mpr q)
    rw [if_neg hne]
    refine x_aload_n dV_valueAt_11 rfl ?_
    refine x_get fV_values dV_valueAt_12 (by assumption) rfl ?_
    refine x_iload_n dV_valueAt_15 rfl ?_
    refine x_lald (vix A c k n - 1) dV_valueAt_16 h3 (by cases hx : vix A c k n with | zero => exact absurd hx hne | succ m => rfl) (by omega) (by decide) ?_
    refine x_goto 21 dV_valueAt_17 (by decide) ?_
    exact x_lret rfl dV_valueAt_21
theorem v_wa_loop {k : Nat} (hn : n ≤ 500) (hk : k < 2 ^ 31) (hA : ∀ i, i < n → A.1 i < 2 ^ 31 ∧ A.2.1 i < 2 ^ 31) (ha : h.1 a = some (vV a n)) (h1 : h.1 (a + 1) = some (vN 500 A.1)) (h2 : h.1 (a + 2) = some (vN 500 A.2.1)) : ∀ (i : Nat) (z : Int32), i ≤ n → xG E d mV_cellsWrittenAfter 9 [(3, .int (xpi i)), (2, .int z), (0, .ref a), (1, .int (nI k))] [] false h (false, .inl (some (.int (vwa A k i z))), h) := by
  intro i
  induction i with
  | zero =>
    intro z hi
    refine x_iload_n dV_cellsWrittenAfter_9 rfl ?_
    refine x_if_lt 40 dV_cellsWrittenAfter_10 (by decide) (fun _ => ?_) (fun hc => absurd ((xpi_neg 0 (by decide)).mpr rfl) hc)
    refine x_iload_n dV_cellsWrittenAfter_40 rfl ?_
    exact x_iret rfl dV_cellsWrittenAfter_41
  | succ i ih =>
    intro z hi
    have hAi := hA i (by omega)
    refine x_iload_n dV_cellsWrittenAfter_9 rfl ?_
    refine x_if_lt 40 dV_cellsWrittenAfter_10 (by decide) (fun hc => absurd ((xpi_neg _ (by omega)).mp hc) (by omega)) (fun _ => ?_)
    refine x_aload_n dV_cellsWrittenAfter_13 rfl ?_
    refine x_get fV_clocks dV_cellsWrittenAfter_14 (by assumption) rfl ?_
    refine x_iload_n dV_cellsWrittenAfter_17 rfl ?_
    refine x_iald i dV_cellsWrittenAfter_18 (by assumption) rfl (by omega) (by decide) ?_
    refine x_iload_n dV_cellsWrittenAfter_19 rfl ?_
    refine x_icmp_le 40 dV_cellsWrittenAfter_20 (by decide) (fun hz => ?_) (fun hz => ?_)
    · rw [show vwa A k (i + 1) z = z from if_pos ((nI_leI hAi.2 hk).mp hz)]
      refine x_iload_n dV_cellsWrittenAfter_40 rfl ?_
      exact x_iret rfl dV_cellsWrittenAfter_41
    · rw [show vwa A k (i + 1) z = vwa A k i (z ||| xbit (A.1 i)) from if_neg (fun q => hz (nI_le q hk))]
      refine x_iload_n dV_cellsWrittenAfter_23 rfl ?_
      refine x_iconst (v := 1) dV_cellsWrittenAfter_24 (by decide) ?_
      refine x_aload_n dV_cellsWrittenAfter_25 rfl ?_
      refine x_get fV_cells dV_cellsWrittenAfter_26 (by assumption) rfl ?_
      refine x_iload_n dV_cellsWrittenAfter_29 rfl ?_
      refine x_iald i dV_cellsWrittenAfter_30 (by assumption) rfl (by omega) (by decide) ?_
      refine x_ishl dV_cellsWrittenAfter_31 ?_
      refine x_ior dV_cellsWrittenAfter_32 ?_
      refine x_istore_n dV_cellsWrittenAfter_33 (Nat.le_of_ble_eq_true rfl) ?_
      refine x_iinc (v := xpi i) dV_cellsWrittenAfter_34 rfl (xpi_dec i) (Nat.le_of_ble_eq_true rfl) ?_
      refine x_goto 9 dV_cellsWrittenAfter_37 (by decide) ?_
      exact ih _ (by omega)
theorem v_wa {k : Nat} (hn : n ≤ 500) (hk : k < 2 ^ 31) (hA : ∀ i, i < n → A.1 i < 2 ^ 31 ∧ A.2.1 i < 2 ^ 31) (ha : h.1 a = some (vV a n)) (h1 : h.1 (a + 1) = some (vN 500 A.1)) (h2 : h.1 (a + 2) = some (vN 500 A.2.1)) : xG E d mV_cellsWrittenAfter 0 [(0, .ref a), (1, .int (nI k))] [] false h (false, .inl (some (.int (vwa A k n 0))), h) := by
  refine x_iconst (v := 0) dV_cellsWrittenAfter_0 (by decide) ?_
  refine x_istore_n dV_cellsWrittenAfter_1 (Nat.le_of_ble_eq_true rfl) ?_
  refine x_aload_n dV_cellsWrittenAfter_2 rfl ?_
  refine x_get fV_size dV_cellsWrittenAfter_3 (by assumption) rfl ?_
  refine x_iconst (v := (nI 1)) dV_cellsWrittenAfter_6 (by decide) ?_
  refine x_isub dV_cellsWrittenAfter_7 ?_
  refine x_top (by rw [xpi_of]) ?_
  refine x_istore_n dV_cellsWrittenAfter_8 (Nat.le_of_ble_eq_true rfl) ?_
  exact v_wa_loop hn hk hA ha h1 h2 n 0 (Nat.le_refl _)
theorem v_move {i j : Nat} (hb : E.2.2.1 ≤ a) (hi : i < 500) (hj : j < 500) (ha : h.1 a = some (vV a n)) (h1 : h.1 (a + 1) = some (vN 500 A.1)) (h2 : h.1 (a + 2) = some (vN 500 A.2.1)) (h3 : h.1 (a + 3) = some (vL 500 A.2.2)) : xG E d mV_move 0 [(0, .ref a), (1, .int (nI i)), (2, .int (nI j))] [] false h (true, .inl none, vput h a (mv A i j)) := by
  refine x_aload_n dV_move_0 rfl ?_
  refine x_get fV_cells dV_move_1 (by assumption) rfl ?_
  refine x_iload_n dV_move_4 rfl ?_
  refine x_aload_n dV_move_5 rfl ?_
  refine x_get fV_cells dV_move_6 (by assumption) rfl ?_
  refine x_iload_n dV_move_9 rfl ?_
  refine x_iald i dV_move_10 (by assumption) rfl (by omega) (by decide) ?_
  refine x_iast j dV_move_11 h1 (by omega) rfl hj (by decide) ?_
  rw [up_nI]
  refine x_aload_n dV_move_12 rfl ?_
  refine x_get fV_clocks dV_move_13 ((xset_ne _ _ (by omega)).trans ha) rfl ?_
  refine x_iload_n dV_move_16 rfl ?_
  refine x_aload_n dV_move_17 rfl ?_
  refine x_get fV_clocks dV_move_18 ((xset_ne _ _ (by omega)).trans ha) rfl ?_
  refine x_iload_n dV_move_21 rfl ?_
  refine x_iald i dV_move_22 ((xset_ne _ _ (by omega)).trans h2) rfl hi (by decide) ?_
  refine x_iast j dV_move_23 ((xset_ne _ _ (by omega)).trans h2) (by omega) rfl hj (by decide) ?_
  rw [up_nI]
  refine x_aload_n dV_move_24 rfl ?_
  refine x_get fV_values dV_move_25 ((xset_ne _ _ (by omega)).trans ((xset_ne _ _ (by omega)).trans ha)) rfl ?_
  refine x_iload_n dV_move_28 rfl ?_
  refine x_aload_n dV_move_29 rfl ?_
  refine x_get fV_values dV_move_30 ((xset_ne _ _ (by omega)).trans ((xset_ne _ _ (by omega)).trans ha)) rfl ?_
  refine x_iload_n dV_move_33 rfl ?_
  refine x_lald i dV_move_34 ((xset_ne _ _ (by omega)).trans ((xset_ne _ _ (by omega)).trans h3)) rfl hi (by decide) ?_
  refine x_last j dV_move_35 ((xset_ne _ _ (by omega)).trans ((xset_ne _ _ (by omega)).trans h3)) (by omega) rfl hj (by decide) ?_
  exact x_vret rfl dV_move_36
end
