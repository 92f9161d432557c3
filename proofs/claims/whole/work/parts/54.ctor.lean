/-! VersionDesk() -/
theorem xmulti_old (h : xH) {N K q : Nat} (hq : q < h.2.1) : (xmulti h N K).1 q = h.1 q := by
  simp only [xmulti]; rw [if_neg (by omega), if_neg (by omega)]
theorem xmulti_outer (h : xH) (N K : Nat) : (xmulti h N K).1 h.2.1 = some (.inl (.array .long, N, .inr (.inr (fun i => if i < N then some (h.2.1 + 1 + i) else none)))) := by
  simp only [xmulti]; rw [if_pos trivial]
theorem xmulti_row (h : xH) {N K j : Nat} (hj : j < N) : (xmulti h N K).1 (h.2.1 + 1 + j) = some (.inl (.long, K, .inr (.inl (fun _ => 0)))) := by
  simp only [xmulti]; rw [if_neg (by omega), if_pos (by omega)]
def st0 : vS := (0, fun _ => (false, 0, 0, 1, 0), fun _ _ => 0, fun _ _ _ => 0, 16, (fun q => if q < 16 then q else 0, fun _ => 0, fun _ => 0))
/-- while the transactions are made: i of them stand -/
def CP (b i : Nat) (h0 h : xH) : Prop :=
  h.2.1 = b + 2 + 11 * i ∧ h.2.2 = h0.2.2 + 16 + 151 * i ∧ (∀ q, q < b → h.1 q = h0.1 q) ∧ h.1 b = some (.inr (0, [.ref (b + 1), .null, .int 0])) ∧
  h.1 (b + 1) = some (.inl (.object "VersionDesk$Transaction", 16, .inr (.inr (fun j => if j < i then some (b + 2 + 11 * j) else none)))) ∧
  ∀ t, t < i → h.1 (b + 2 + 11 * t) = some (tC b t (false, 0, 0, 1, 0)) ∧ h.1 (b + 2 + 11 * t + 1) = some (vI 8 (fun _ => 0)) ∧ h.1 (b + 2 + 11 * t + 2) = some (vR (b + 2 + 11 * t)) ∧ ∀ l, l < 8 → h.1 (b + 2 + 11 * t + 2 + 1 + l) = some (vL 16 (fun _ => 0))
theorem CP.step {b i : Nat} {h0 h : xH} (C : CP b i h0 h) : CP b (i + 1) h0 (xset (xset (xmulti (xadd (xadd h (.inr (1, [.int 0, .int 0, .int 0, .int 0, .int 0, .null, .null])) 7) (vI 8 (fun _ => 0)) 8) 8 16) (b + 2 + 11 * i) (vT (b + 2 + 11 * i) false 0 0 1 0)) (b + 1) (.inl (.object "VersionDesk$Transaction", 16, .inr (.inr (va_up (fun j => if j < i then some (b + 2 + 11 * j) else none) i (some (b + 2 + 11 * i))))))) := by
  obtain ⟨c1, c2, c3, c4, c5, c6⟩ := C
  have z1 : (xadd h (.inr (1, [.int 0, .int 0, .int 0, .int 0, .int 0, .null, .null])) 7).2.1 = b + 2 + 11 * i + 1 := by rw [xadd_sz, c1]
  have z2 : (xadd (xadd h (.inr (1, [.int 0, .int 0, .int 0, .int 0, .int 0, .null, .null])) 7) (vI 8 (fun _ => 0)) 8).2.1 = b + 2 + 11 * i + 2 := by rw [xadd_sz, z1]
  have old : ∀ q, q < b + 2 + 11 * i → (xmulti (xadd (xadd h (.inr (1, [.int 0, .int 0, .int 0, .int 0, .int 0, .null, .null])) 7) (vI 8 (fun _ => 0)) 8) 8 16).1 q = h.1 q := by
    intro q hq
    rw [xmulti_old _ (by omega), xadd_ne _ _ _ (by omega), xadd_ne _ _ _ (by omega)]
  refine ⟨?_, ?_, fun q hq => ?_, ?_, ?_, fun t ht => ?_⟩
  · show (xmulti _ 8 16).2.1 = _
    show (xadd _ _ 8).2.1 + 1 + 8 = _
    rw [z2]; omega
  · show (xmulti _ 8 16).2.2 = _
    show (xadd _ _ 8).2.2 + 8 + 8 * 16 = _
    rw [xadd_us, xadd_us, c2]; omega
  · rw [xset_ne _ _ (by omega), xset_ne _ _ (by omega), old q (by omega)]; exact c3 q hq
  · rw [xset_ne _ _ (by omega), xset_ne _ _ (by omega), old b (by omega)]; exact c4
  · rw [xset_eq]
    refine congrArg (fun f => some (Sum.inl (FieldType.object "VersionDesk$Transaction", 16, Sum.inr (Sum.inr f)))) (funext fun j => ?_)
    by_cases e : j = i
    · subst e; rw [up_eq, if_pos (by omega)]
    · rw [up_ne _ _ e]
      by_cases e2 : j < i
      · rw [if_pos e2, if_pos (by omega)]
      · rw [if_neg e2, if_neg (by omega)]
  · by_cases e : t = i
    · subst e
      refine ⟨?_, ?_, ?_, fun l hl => ?_⟩
      · rw [xset_ne _ _ (by omega), xset_eq]
      · rw [xset_ne _ _ (by omega), xset_ne _ _ (by omega), xmulti_old _ (by omega)]
        have := xadd_eq (xadd h (.inr (1, [.int 0, .int 0, .int 0, .int 0, .int 0, .null, .null])) 7) (vI 8 (fun _ => 0)) 8
        rw [z1] at this
        exact this
      · rw [xset_ne _ _ (by omega), xset_ne _ _ (by omega)]
        have := xmulti_outer (xadd (xadd h (.inr (1, [.int 0, .int 0, .int 0, .int 0, .int 0, .null, .null])) 7) (vI 8 (fun _ => 0)) 8) 8 16
        rw [z2] at this
        exact this
      · rw [xset_ne _ _ (by omega), xset_ne _ _ (by omega)]
        have := xmulti_row (xadd (xadd h (.inr (1, [.int 0, .int 0, .int 0, .int 0, .int 0, .null, .null])) 7) (vI 8 (fun _ => 0)) 8) (N := 8) (K := 16) hl
        rw [z2] at this
        exact this
    · obtain ⟨d1, d2, d3, d4⟩ := c6 t (by omega)
      refine ⟨?_, ?_, ?_, fun l hl => ?_⟩
      · rw [xset_ne _ _ (by omega), xset_ne _ _ (by omega), old _ (by omega)]; exact d1
      · rw [xset_ne _ _ (by omega), xset_ne _ _ (by omega), old _ (by omega)]; exact d2
      · rw [xset_ne _ _ (by omega), xset_ne _ _ (by omega), old _ (by omega)]; exact d3
      · rw [xset_ne _ _ (by omega), xset_ne _ _ (by omega), old _ (by omega)]; exact d4 l hl
section
variable {E : xE} {d b : Nat} {h0 : xH}
theorem d_init_end {h : xH} (hb : E.2.2.1 ≤ b) (C : CP b 16 h0 h) : ∃ h', xG E (d + 1) mD_init 40 [(0, .ref b)] [] true h (true, .inl none, h') ∧ VP b st0 h' ∧ (∀ q, q < b → h'.1 q = h0.1 q) ∧ h'.2.1 = b + 182 ∧ h'.2.2 = h0.2.2 + 3936 := by
  obtain ⟨c1, c2, c3, c4, c5, c6⟩ := C
  have old : ∀ q, q < b + 178 → q ≠ b → (xset (xset (xset (vput (xset (vnew (xadd h (.inr (2, [.null, .null, .null, .int 0])) 4)) (b + 178) (vV (b + 178) 0)) (b + 178) (fun q => if q < 16 then q else 0, fun _ => 0, fun _ => 0)) (b + 178) (vV (b + 178) 16)) b (.inr (0, [.ref (b + 1), .ref (b + 178), .int 0]))) b (dC b 0)).1 q = h.1 q := by
    intro q hq hne
    rw [xset_ne _ _ hne, xset_ne _ _ hne, xset_ne _ _ (by omega), vput_ne _ _ (by omega) (by omega) (by omega), xset_ne _ _ (by omega)]
    unfold vnew
    rw [xadd_ne _ _ _ (by simp [xadd]; omega), xadd_ne _ _ _ (by simp [xadd]; omega), xadd_ne _ _ _ (by simp [xadd]; omega), xadd_ne _ _ _ (by omega)]
  refine ⟨xset (xset (xset (vput (xset (vnew (xadd h (.inr (2, [.null, .null, .null, .int 0])) 4)) (b + 178) (vV (b + 178) 0)) (b + 178) (fun q => if q < 16 then q else 0, fun _ => 0, fun _ => 0)) (b + 178) (vV (b + 178) 16)) b (.inr (0, [.ref (b + 1), .ref (b + 178), .int 0]))) b (dC b 0), ?_, ⟨?_, ?_, fun t ht => ?_, fun t ht => ?_, fun t ht => ?_, fun t l ht hl => ?_, ?_, ?_, ?_, ?_⟩, fun q hq => ?_, ?_, ?_⟩
  · refine x_aload_n dD_init_40 rfl ?_
    refine x_new newD_V dD_init_41 ?_
    rw [c1]
    refine x_dup dD_init_44 rfl ?_
    refine x_callI0 cD_V_init dD_init_45 (Nat.le_of_ble_eq_true rfl) (Nat.le_of_ble_eq_true rfl) (v_init (a := b + 178) (by omega) (by have := xadd_eq h (.inr (2, [.null, .null, .null, .int 0])) 4; rw [c1] at this; exact this) (by rw [xadd_sz, c1])) ?_
    refine x_putF fD_versions rfl dD_init_48 (fs := [.ref (b + 1), .null, .int 0]) ?_ hb rfl rfl (Nat.le_of_ble_eq_true rfl) ?_
    · rw [xset_ne _ _ (by omega), vput_ne _ _ (by omega) (by omega) (by omega), xset_ne _ _ (by omega)]
      unfold vnew
      rw [xadd_ne _ _ _ (by simp [xadd]; omega), xadd_ne _ _ _ (by simp [xadd]; omega), xadd_ne _ _ _ (by simp [xadd]; omega), xadd_ne _ _ _ (by omega)]
      exact c4
    refine x_aload_n dD_init_51 rfl ?_
    refine x_iconst (v := (nI 0)) dD_init_52 (by decide) ?_
    refine x_put fD_clock dD_init_53 (xset_eq _ _ _) hb rfl rfl (Nat.le_of_ble_eq_true rfl) ?_
    exact x_vret rfl dD_init_56
  · rw [xset_eq]; rfl
  · rw [old _ (by omega) (by omega)]; exact c5
  · rw [old _ (by omega) (by omega)]; exact (c6 t ht).1
  · rw [old _ (by omega) (by omega)]; exact (c6 t ht).2.1
  · rw [old _ (by omega) (by omega)]; exact (c6 t ht).2.2.1
  · rw [old _ (by omega) (by omega)]; exact (c6 t ht).2.2.2 l hl
  · rw [xset_ne _ _ (by omega), xset_ne _ _ (by omega), xset_eq]; rfl
  · rw [xset_ne _ _ (by omega), xset_ne _ _ (by omega), xset_ne _ _ (by omega), vput_1]; rfl
  · rw [xset_ne _ _ (by omega), xset_ne _ _ (by omega), xset_ne _ _ (by omega), vput_2]; rfl
  · rw [xset_ne _ _ (by omega), xset_ne _ _ (by omega), xset_ne _ _ (by omega), vput_3]; rfl
  · rw [old _ (by omega) (by omega)]; exact c3 q hq
  · show (vnew (xadd h (.inr (2, [.null, .null, .null, .int 0])) 4)).2.1 = b + 182
    simp only [vnew, xadd_sz]; omega
  · show (vnew (xadd h (.inr (2, [.null, .null, .null, .int 0])) 4)).2.2 = h0.2.2 + 3936
    simp only [vnew, xadd_us]; omega
theorem d_init_loop (hb : E.2.2.1 ≤ b) : ∀ (m i : Nat) (h : xH), i + m = 16 → CP b i h0 h → ∃ h', xG E (d + 1) mD_init 15 [(1, .int (nI i)), (0, .ref b)] [] true h (true, .inl none, h') ∧ VP b st0 h' ∧ (∀ q, q < b → h'.1 q = h0.1 q) ∧ h'.2.1 = b + 182 ∧ h'.2.2 = h0.2.2 + 3936 := by
  intro m
  induction m with
  | zero =>
    intro i h hi C
    obtain rfl : i = 16 := by omega
    obtain ⟨h', k, hk⟩ := d_init_end (E := E) (d := d) hb C
    refine ⟨h', ?_, hk⟩
    refine x_iload_n dD_init_15 rfl ?_
    refine x_bipush (v := (nI 16)) dD_init_16 (by decide) ?_
    refine x_icmp_ge 40 dD_init_18 (by decide) (fun _ => ?_) (fun hq => absurd (nI_le (by omega) (by omega)) hq)
    exact x_loc _ (xac rfl xan) k
  | succ m ih =>
    intro i h hi C
    obtain ⟨h', k, hk⟩ := ih (i + 1) _ (by omega) C.step
    refine ⟨h', ?_, hk⟩
    obtain ⟨c1, c2, c3, c4, c5, c6⟩ := C
    have z1 : (xadd h (.inr (1, [.int 0, .int 0, .int 0, .int 0, .int 0, .null, .null])) 7).2.1 = b + 2 + 11 * i + 1 := by rw [xadd_sz, c1]
    refine x_iload_n dD_init_15 rfl ?_
    refine x_bipush (v := (nI 16)) dD_init_16 (by decide) ?_
    refine x_icmp_ge 40 dD_init_18 (by decide) (fun hq => absurd hq (nI_ge (by omega) (by omega))) (fun _ => ?_)
    refine x_aload_n dD_init_21 rfl ?_
    refine x_get fD_transactions dD_init_22 (by assumption) rfl ?_
    refine x_iload_n dD_init_25 rfl ?_
    refine x_new newD_T dD_init_26 ?_
    rw [c1]
    refine x_dup dD_init_29 rfl ?_
    refine x_callI0 cD_T_init dD_init_30 (Nat.le_of_ble_eq_true rfl) (Nat.le_of_ble_eq_true rfl) (t_init (a := b + 2 + 11 * i) (by omega) (by rw [z1]; omega) (by have := xadd_eq h (.inr (1, [.int 0, .int 0, .int 0, .int 0, .int 0, .null, .null])) 7; rw [c1] at this; exact this) z1) ?_
    refine x_aast i dD_init_33 (n := 16) (ci := 1) (C := "VersionDesk$Transaction") (f := fun j => if j < i then some (b + 2 + 11 * j) else none) ?_ (xset_eq _ _ _) rfl (by omega) rfl (by omega) (by decide) ?_
    · rw [xset_ne _ _ (by omega), xmulti_old _ (by rw [xadd_sz, z1]; omega), xadd_ne _ _ _ (by omega), xadd_ne _ _ _ (by omega)]
      exact c5
    refine x_iinc (v := nI (i + 1)) dD_init_34 rfl (by rw [nI_succ]; rfl) (Nat.le_of_ble_eq_true rfl) ?_
    refine x_goto 15 dD_init_37 (by decide) ?_
    exact k
theorem d_init (hb : E.2.2.1 ≤ b) (hz : h0.2.1 = b + 1) (ha : h0.1 b = some (.inr (0, [.null, .null, .int 0]))) : ∃ h', xG E (d + 1) mD_init 0 [(0, .ref b)] [] false h0 (true, .inl none, h') ∧ VP b st0 h' ∧ (∀ q, q < b → h'.1 q = h0.1 q) ∧ h'.2.1 = b + 182 ∧ h'.2.2 = h0.2.2 + 3936 := by
  have C : CP b 0 h0 (xset (xadd h0 (.inl (.object "VersionDesk$Transaction", 16, .inr (.inr (fun _ => none)))) 16) b (.inr (0, [.ref (b + 1), .null, .int 0]))) := by
    refine ⟨?_, ?_, fun q hq => ?_, ?_, ?_, fun t ht => absurd ht (Nat.not_lt_zero _)⟩
    · rw [xset_sz, xadd_sz, hz]
    · rw [xset_us, xadd_us]
    · rw [xset_ne _ _ (by omega), xadd_ne _ _ _ (by omega)]
    · rw [xset_eq]
    · rw [xset_ne _ _ (by omega)]
      have := xadd_eq h0 (.inl (.object "VersionDesk$Transaction", 16, .inr (.inr (fun _ => none)))) 16
      rw [hz] at this
      rw [this]
      refine congrArg (fun f => some (Sum.inl (FieldType.object "VersionDesk$Transaction", 16, Sum.inr (Sum.inr f)))) (funext fun j => ?_)
      exact (if_neg (Nat.not_lt_zero j)).symm
  obtain ⟨h', k, hk⟩ := d_init_loop (E := E) (d := d) hb 16 0 _ rfl C
  refine ⟨h', ?_, hk⟩
  refine x_aload_n dD_init_0 rfl ?_
  refine x_objInit dD_init_1 kw_18 kw_19 kw_20 (Nat.le_of_ble_eq_true rfl) ?_
  refine x_aload_n dD_init_4 rfl ?_
  refine x_bipush (v := (nI 16)) dD_init_5 (by decide) ?_
  refine x_anew 16 dD_init_7 kw_21 kw_22 rfl rfl (by decide) ?_
  rw [hz]
  refine x_putF fD_transactions rfl dD_init_10 (fs := [.null, .null, .int 0]) ((xadd_ne _ _ _ (by omega)).trans ha) hb rfl rfl (Nat.le_of_ble_eq_true rfl) ?_
  refine x_iconst (v := (nI 0)) dD_init_13 (by decide) ?_
  refine x_istore_n dD_init_14 (Nat.le_of_ble_eq_true rfl) ?_
  exact k
end
