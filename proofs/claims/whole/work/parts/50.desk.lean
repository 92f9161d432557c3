/-! VersionDesk: its cells (from the address b on), its state, its private methods -/
abbrev vQ : Type := Bool × Nat × Nat × Nat × Int32
/-- clock; transactions (open, start, kind, layers, seen); what each layer wrote; its values; how many versions; their rows -/
abbrev vS : Type := Nat × (Nat → vQ) × (Nat → Nat → Int32) × (Nat → Nat → Nat → Int64) × Nat × vW
abbrev sK (σ : vS) : Nat := σ.1
abbrev sT (σ : vS) : Nat → vQ := σ.2.1
abbrev sW (σ : vS) : Nat → Nat → Int32 := σ.2.2.1
abbrev sR (σ : vS) : Nat → Nat → Nat → Int64 := σ.2.2.2.1
abbrev sN (σ : vS) : Nat := σ.2.2.2.2.1
abbrev sA (σ : vS) : vW := σ.2.2.2.2.2
abbrev tC (b t : Nat) (q : vQ) : xC := vT (b + 2 + 11 * t) q.1 q.2.1 q.2.2.1 q.2.2.2.1 q.2.2.2.2
abbrev dC (b k : Nat) : xC := .inr (0, [.ref (b + 1), .ref (b + 178), .int (nI k)])
abbrev dT (b : Nat) : xC := .inl (.object "VersionDesk$Transaction", 16, .inr (.inr (fun i => if i < 16 then some (b + 2 + 11 * i) else none)))
/-- the heap holds the object at b in the state σ -/
def VP (b : Nat) (σ : vS) (h : xH) : Prop :=
  h.1 b = some (dC b (sK σ)) ∧ h.1 (b + 1) = some (dT b) ∧ (∀ t, t < 16 → h.1 (b + 2 + 11 * t) = some (tC b t (sT σ t))) ∧ (∀ t, t < 16 → h.1 (b + 2 + 11 * t + 1) = some (vI 8 (sW σ t))) ∧ (∀ t, t < 16 → h.1 (b + 2 + 11 * t + 2) = some (vR (b + 2 + 11 * t))) ∧
  (∀ t l, t < 16 → l < 8 → h.1 (b + 2 + 11 * t + 2 + 1 + l) = some (vL 16 (sR σ t l))) ∧ h.1 (b + 178) = some (vV (b + 178) (sN σ)) ∧ h.1 (b + 178 + 1) = some (vN 500 (sA σ).1) ∧ h.1 (b + 178 + 2) = some (vN 500 (sA σ).2.1) ∧ h.1 (b + 178 + 3) = some (vL 500 (sA σ).2.2)
/-- what the numbers of a state keep to -/
def VI (σ : vS) : Prop := sK σ ≤ 100000 ∧ (∀ t, t < 16 → (sT σ t).2.1 ≤ sK σ ∧ (sT σ t).2.2.1 < 2 ∧ 1 ≤ (sT σ t).2.2.2.1 ∧ (sT σ t).2.2.2.1 ≤ 8) ∧ sN σ ≤ 500 ∧ (∀ i, i < sN σ → (sA σ).1 i < 16 ∧ (sA σ).2.1 i ≤ sK σ) ∧ (∀ t, t < 16 → m16 (sT σ t).2.2.2.2) ∧ ∀ t l, t < 16 → l < 8 → m16 (sW σ t l)
theorem VI.ok {σ : vS} (h : VI σ) : ∀ i, i < sN σ → (sA σ).1 i < 2 ^ 31 ∧ (sA σ).2.1 i < 2 ^ 31 := fun i hi => by
  have := h.2.2.2.1 i hi
  have := h.1
  omega
def vset (h : xH) (a n : Nat) (A : vW) : xH := xset (vput h a A) a (vV a n)
theorem VP.setT {b : Nat} {σ : vS} {h : xH} (H : VP b σ h) {t : Nat} (ht : t < 16) (q : vQ) : VP b (sK σ, va_up (sT σ) t q, sW σ, sR σ, sN σ, sA σ) (xset h (b + 2 + 11 * t) (tC b t q)) := by
  obtain ⟨h1, h2, h3, h4, h5, h6, h7, h8, h9, h10⟩ := H
  refine ⟨?_, ?_, fun u hu => ?_, fun u hu => ?_, fun u hu => ?_, fun u l hu hl => ?_, ?_, ?_, ?_, ?_⟩
  · rw [xset_ne _ _ (by omega)]; exact h1
  · rw [xset_ne _ _ (by omega)]; exact h2
  · by_cases e : u = t
    · subst e; rw [xset_eq]; show _ = some (tC b u (va_up (sT σ) u q u)); rw [up_eq]
    · rw [xset_ne _ _ (by omega), h3 u hu]; show _ = some (tC b u (va_up (sT σ) t q u)); rw [up_ne _ _ e]
  · rw [xset_ne _ _ (by omega)]; exact h4 u hu
  · rw [xset_ne _ _ (by omega)]; exact h5 u hu
  · rw [xset_ne _ _ (by omega)]; exact h6 u l hu hl
  · rw [xset_ne _ _ (by omega)]; exact h7
  · rw [xset_ne _ _ (by omega)]; exact h8
  · rw [xset_ne _ _ (by omega)]; exact h9
  · rw [xset_ne _ _ (by omega)]; exact h10
theorem VP.setW {b : Nat} {σ : vS} {h : xH} (H : VP b σ h) {t : Nat} (ht : t < 16) (f : Nat → Int32) : VP b (sK σ, sT σ, va_up (sW σ) t f, sR σ, sN σ, sA σ) (xset h (b + 2 + 11 * t + 1) (vI 8 f)) := by
  obtain ⟨h1, h2, h3, h4, h5, h6, h7, h8, h9, h10⟩ := H
  refine ⟨?_, ?_, fun u hu => ?_, fun u hu => ?_, fun u hu => ?_, fun u l hu hl => ?_, ?_, ?_, ?_, ?_⟩
  · rw [xset_ne _ _ (by omega)]; exact h1
  · rw [xset_ne _ _ (by omega)]; exact h2
  · rw [xset_ne _ _ (by omega)]; exact h3 u hu
  · by_cases e : u = t
    · subst e; rw [xset_eq]; show _ = some (vI 8 (va_up (sW σ) u f u)); rw [up_eq]
    · rw [xset_ne _ _ (by omega), h4 u hu]; show _ = some (vI 8 (va_up (sW σ) t f u)); rw [up_ne _ _ e]
  · rw [xset_ne _ _ (by omega)]; exact h5 u hu
  · rw [xset_ne _ _ (by omega)]; exact h6 u l hu hl
  · rw [xset_ne _ _ (by omega)]; exact h7
  · rw [xset_ne _ _ (by omega)]; exact h8
  · rw [xset_ne _ _ (by omega)]; exact h9
  · rw [xset_ne _ _ (by omega)]; exact h10
theorem VP.setR {b : Nat} {σ : vS} {h : xH} (H : VP b σ h) {t k : Nat} (ht : t < 16) (hk : k < 8) (g : Nat → Int64) : VP b (sK σ, sT σ, sW σ, va_up (sR σ) t (va_up (sR σ t) k g), sN σ, sA σ) (xset h (b + 2 + 11 * t + 2 + 1 + k) (vL 16 g)) := by
  obtain ⟨h1, h2, h3, h4, h5, h6, h7, h8, h9, h10⟩ := H
  refine ⟨?_, ?_, fun u hu => ?_, fun u hu => ?_, fun u hu => ?_, fun u l hu hl => ?_, ?_, ?_, ?_, ?_⟩
  · rw [xset_ne _ _ (by omega)]; exact h1
  · rw [xset_ne _ _ (by omega)]; exact h2
  · rw [xset_ne _ _ (by omega)]; exact h3 u hu
  · rw [xset_ne _ _ (by omega)]; exact h4 u hu
  · rw [xset_ne _ _ (by omega)]; exact h5 u hu
  · by_cases e : u = t
    · subst e
      by_cases e2 : l = k
      · subst e2; rw [xset_eq]; show _ = some (vL 16 (va_up (sR σ) u (va_up (sR σ u) l g) u l)); rw [up_eq, up_eq]
      · rw [xset_ne _ _ (by omega), h6 u l hu hl]; show _ = some (vL 16 (va_up (sR σ) u (va_up (sR σ u) k g) u l)); rw [up_eq, up_ne _ _ e2]
    · rw [xset_ne _ _ (by omega), h6 u l hu hl]; show _ = some (vL 16 (va_up (sR σ) t (va_up (sR σ t) k g) u l)); rw [up_ne _ _ e]
  · rw [xset_ne _ _ (by omega)]; exact h7
  · rw [xset_ne _ _ (by omega)]; exact h8
  · rw [xset_ne _ _ (by omega)]; exact h9
  · rw [xset_ne _ _ (by omega)]; exact h10
theorem VP.setK {b : Nat} {σ : vS} {h : xH} (H : VP b σ h) (k : Nat) : VP b (k, sT σ, sW σ, sR σ, sN σ, sA σ) (xset h b (dC b k)) := by
  obtain ⟨h1, h2, h3, h4, h5, h6, h7, h8, h9, h10⟩ := H
  refine ⟨?_, ?_, fun u hu => ?_, fun u hu => ?_, fun u hu => ?_, fun u l hu hl => ?_, ?_, ?_, ?_, ?_⟩
  · rw [xset_eq]
  · rw [xset_ne _ _ (by omega)]; exact h2
  · rw [xset_ne _ _ (by omega)]; exact h3 u hu
  · rw [xset_ne _ _ (by omega)]; exact h4 u hu
  · rw [xset_ne _ _ (by omega)]; exact h5 u hu
  · rw [xset_ne _ _ (by omega)]; exact h6 u l hu hl
  · rw [xset_ne _ _ (by omega)]; exact h7
  · rw [xset_ne _ _ (by omega)]; exact h8
  · rw [xset_ne _ _ (by omega)]; exact h9
  · rw [xset_ne _ _ (by omega)]; exact h10
theorem vset_ne (h : xH) {a n q : Nat} (A : vW) (h0 : q ≠ a) (h1 : q ≠ a + 1) (h2 : q ≠ a + 2) (h3 : q ≠ a + 3) : (vset h a n A).1 q = h.1 q := by
  unfold vset; rw [xset_ne _ _ h0, vput_ne _ _ h1 h2 h3]
theorem VP.setV {b : Nat} {σ : vS} {h : xH} (H : VP b σ h) (n : Nat) (A : vW) : VP b (sK σ, sT σ, sW σ, sR σ, n, A) (vset h (b + 178) n A) := by
  obtain ⟨h1, h2, h3, h4, h5, h6, h7, h8, h9, h10⟩ := H
  refine ⟨?_, ?_, fun u hu => ?_, fun u hu => ?_, fun u hu => ?_, fun u l hu hl => ?_, ?_, ?_, ?_, ?_⟩
  · rw [vset_ne _ _ (by omega) (by omega) (by omega) (by omega)]; exact h1
  · rw [vset_ne _ _ (by omega) (by omega) (by omega) (by omega)]; exact h2
  · rw [vset_ne _ _ (by omega) (by omega) (by omega) (by omega)]; exact h3 u hu
  · rw [vset_ne _ _ (by omega) (by omega) (by omega) (by omega)]; exact h4 u hu
  · rw [vset_ne _ _ (by omega) (by omega) (by omega) (by omega)]; exact h5 u hu
  · rw [vset_ne _ _ (by omega) (by omega) (by omega) (by omega)]; exact h6 u l hu hl
  · unfold vset; rw [xset_eq]
  · unfold vset; rw [xset_ne _ _ (by omega)]; exact vput_1 h _ A
  · unfold vset; rw [xset_ne _ _ (by omega)]; exact vput_2 h _ A
  · unfold vset; rw [xset_ne _ _ (by omega)]; exact vput_3 h _ A
theorem VP.thr {b : Nat} {σ : vS} {h : xH} (H : VP b σ h) : VP b σ (xthr h) := H
def lnoF (T : Nat → vQ) : Nat → Nat → Nat
  | 0, t => t
  | m + 1, t => if (T t).1 = true then lnoF T m (t + 1) else t
def hmo (T : Nat → vQ) : Nat → Nat
  | 0 => 0
  | t + 1 => if (T t).1 = true then hmo T t + 1 else hmo T t
def flo (k : Nat) (T : Nat → vQ) : Nat → Nat
  | 0 => k
  | t + 1 => if (T t).1 = true then min (flo k T t) (T t).2.1 else flo k T t
theorem flo_le (k : Nat) (T : Nat → vQ) : ∀ t, flo k T t ≤ k
  | 0 => Nat.le_refl _
  | t + 1 => by
    unfold flo
    split
    · exact Nat.le_trans (Nat.min_le_left _ _) (flo_le k T t)
    · exact flo_le k T t
/-- the READING of the cell c in t -/
def rdV (σ : vS) (t c : Nat) : Int64 := if hiW (sW σ t) c (sT σ t).2.2.2.1 = 0 then (if vix (sA σ) c (sT σ t).2.1 (sN σ) = 0 then 0 else (sA σ).2.2 (vix (sA σ) c (sT σ t).2.1 (sN σ) - 1)) else sR σ t (hiW (sW σ t) c (sT σ t).2.2.2.1 - 1) c
def wrV (σ : vS) (t : Nat) : Int32 := orW (sW σ t) (sT σ t).2.2.2.1
def heV (σ : vS) (t : Nat) : Int32 := if (sT σ t).2.2.1 = 1 then wrV σ t ||| (sT σ t).2.2.2.2 else wrV σ t
def spV (σ : vS) (t : Nat) : Int32 := heV σ t &&& vwa (sA σ) (sT σ t).2.1 (sN σ) 0
theorem hiW_le (f : Nat → Int32) (c : Nat) : ∀ n, hiW f c n ≤ n
  | 0 => Nat.le_refl _
  | n + 1 => by
    unfold hiW
    split
    · exact Nat.le_succ_of_le (hiW_le f c n)
    · exact Nat.le_refl _
section
variable {E : xE} {d b : Nat} {σ : vS} {h : xH}
theorem d_openOne {j : Nat} (H : VP b σ h) (hj : j < 16) (ho : (sT σ j).1 = true) : xG E (d + 1) mD_openOne 0 [(0, .ref b), (1, .int (nI j))] [] false h (false, .inl (some (.ref (b + 2 + 11 * j))), h) := by
  have ht := H.2.2.1 j hj
  refine x_iload_n dD_openOne_0 rfl ?_
  refine x_if_lt 22 dD_openOne_1 (by decide) (fun hc => absurd hc (nI_pos (by omega))) (fun _ => ?_)
  refine x_iload_n dD_openOne_4 rfl ?_
  refine x_bipush (v := (nI 16)) dD_openOne_5 (by decide) ?_
  refine x_icmp_ge 22 dD_openOne_7 (by decide) (fun hc => absurd hc (nI_ge hj (by decide))) (fun _ => ?_)
  refine x_aload_n dD_openOne_10 rfl ?_
  refine x_get fD_transactions dD_openOne_11 H.1 rfl ?_
  refine x_iload_n dD_openOne_14 rfl ?_
  refine x_aald j (b + 2 + 11 * j) dD_openOne_15 H.2.1 rfl (if_pos hj) rfl hj (by decide) ?_
  refine x_callV0 cD_T_isOpen dD_openOne_16 (by assumption) (Nat.le_of_ble_eq_true rfl) (Nat.le_of_ble_eq_true rfl) (t_isOpen ht) ?_
  refine x_if_ne 30 dD_openOne_19 (by decide) (fun _ => ?_) (fun hc => absurd hc (by rw [ho]; decide))
  refine x_aload_n dD_openOne_30 rfl ?_
  refine x_get fD_transactions dD_openOne_31 H.1 rfl ?_
  refine x_iload_n dD_openOne_34 rfl ?_
  refine x_aald j (b + 2 + 11 * j) dD_openOne_35 H.2.1 rfl (if_pos hj) rfl hj (by decide) ?_
  exact x_aret rfl dD_openOne_36
theorem d_openOne_bad {t : Int32} (H : VP b σ h) (hbad : ∀ j, j < 16 → t = nI j → (sT σ j).1 = false) : xG E (d + 1) mD_openOne 0 [(0, .ref b), (1, .int t)] [] false h (true, .inr ("java/util/NoSuchElementException", h.2.1), xthr h) := by
  refine x_iload_n dD_openOne_0 rfl ?_
  refine x_if_lt 22 dD_openOne_1 (by decide) (fun _ => x_thrNSE rfl rfl dD_openOne_22 dD_openOne_25 dD_openOne_26 dD_openOne_29 (Nat.le_of_ble_eq_true rfl)) (fun h0 => ?_)
  refine x_iload_n dD_openOne_4 rfl ?_
  refine x_bipush (v := (nI 16)) dD_openOne_5 (by decide) ?_
  refine x_icmp_ge 22 dD_openOne_7 (by decide) (fun _ => x_thrNSE rfl rfl dD_openOne_22 dD_openOne_25 dD_openOne_26 dD_openOne_29 (Nat.le_of_ble_eq_true rfl)) (fun h1 => ?_)
  rcases pk_ix t (n := 16) (by decide) with h2 | h2 | ⟨j, hj, rfl⟩
  · exact absurd h2 h0
  · exact absurd h2 h1
  have ht := H.2.2.1 j hj
  refine x_aload_n dD_openOne_10 rfl ?_
  refine x_get fD_transactions dD_openOne_11 H.1 rfl ?_
  refine x_iload_n dD_openOne_14 rfl ?_
  refine x_aald j (b + 2 + 11 * j) dD_openOne_15 H.2.1 rfl (if_pos hj) rfl hj (by decide) ?_
  refine x_callV0 cD_T_isOpen dD_openOne_16 (by assumption) (Nat.le_of_ble_eq_true rfl) (Nat.le_of_ble_eq_true rfl) (t_isOpen ht) ?_
  refine x_if_ne 30 dD_openOne_19 (by decide) (fun hc => absurd (by rw [hbad j hj rfl]; rfl) hc) (fun _ => ?_)
  exact x_thrNSE rfl rfl dD_openOne_22 dD_openOne_25 dD_openOne_26 dD_openOne_29 (Nat.le_of_ble_eq_true rfl)
theorem d_requireCell {c : Nat} (hc : c < 16) : xG E d mD_requireCell 0 [(0, .int (nI c))] [] false h (false, .inl none, h) := by
  refine x_iload_n dD_requireCell_0 rfl ?_
  refine x_if_lt 10 dD_requireCell_1 (by decide) (fun hq => absurd hq (nI_pos (by omega))) (fun _ => ?_)
  refine x_iload_n dD_requireCell_4 rfl ?_
  refine x_bipush (v := (nI 16)) dD_requireCell_5 (by decide) ?_
  refine x_icmp_lt 18 dD_requireCell_7 (by decide) (fun _ => ?_) (fun hq => absurd (nI_lt hc (by decide)) hq)
  exact x_vret rfl dD_requireCell_18
theorem d_requireCell_bad {c : Int32} (hc : c < 0 ∨ nI 16 ≤ c) : xG E (d + 1) mD_requireCell 0 [(0, .int c)] [] false h (true, .inr ("java/util/NoSuchElementException", h.2.1), xthr h) := by
  refine x_iload_n dD_requireCell_0 rfl ?_
  refine x_if_lt 10 dD_requireCell_1 (by decide) (fun _ => x_thrNSE rfl rfl dD_requireCell_10 dD_requireCell_13 dD_requireCell_14 dD_requireCell_17 (Nat.le_of_ble_eq_true rfl)) (fun h0 => ?_)
  refine x_iload_n dD_requireCell_4 rfl ?_
  refine x_bipush (v := (nI 16)) dD_requireCell_5 (by decide) ?_
  refine x_icmp_lt 18 dD_requireCell_7 (by decide) (fun hq => absurd (hc.resolve_left h0) (Int32.not_le.mpr hq)) (fun _ => ?_)
  exact x_thrNSE rfl rfl dD_requireCell_10 dD_requireCell_13 dD_requireCell_14 dD_requireCell_17 (Nat.le_of_ble_eq_true rfl)
theorem d_lno_loop (H : VP b σ h) : ∀ m t : Nat, t + m = 16 → xG E (d + 1) mD_leastNotOpen 2 [(1, .int (nI t)), (0, .ref b)] [] false h (false, .inl (some (.int (nI (lnoF (sT σ) m t)))), h) := by
  intro m
  induction m with
  | zero =>
    intro t ht
    obtain rfl : t = 16 := by omega
    refine x_iload_n dD_leastNotOpen_2 rfl ?_
    refine x_bipush (v := (nI 16)) dD_leastNotOpen_3 (by decide) ?_
    refine x_icmp_ge 26 dD_leastNotOpen_5 (by decide) (fun _ => ?_) (fun hc => absurd (nI_le (by omega) (by omega)) hc)
    refine x_iload_n dD_leastNotOpen_26 rfl ?_
    exact x_iret rfl dD_leastNotOpen_27
  | succ m ih =>
    intro t ht
    have hT := H.2.2.1 t (by omega)
    refine x_iload_n dD_leastNotOpen_2 rfl ?_
    refine x_bipush (v := (nI 16)) dD_leastNotOpen_3 (by decide) ?_
    refine x_icmp_ge 26 dD_leastNotOpen_5 (by decide) (fun hc => absurd hc (nI_ge (by omega) (by omega))) (fun _ => ?_)
    refine x_aload_n dD_leastNotOpen_8 rfl ?_
    refine x_get fD_transactions dD_leastNotOpen_9 H.1 rfl ?_
    refine x_iload_n dD_leastNotOpen_12 rfl ?_
    refine x_aald t (b + 2 + 11 * t) dD_leastNotOpen_13 H.2.1 rfl (if_pos (show t < 16 by omega)) rfl (by omega) (by decide) ?_
    refine x_callV0 cD_T_isOpen dD_leastNotOpen_14 (by assumption) (Nat.le_of_ble_eq_true rfl) (Nat.le_of_ble_eq_true rfl) (t_isOpen hT) ?_
    cases ho : (sT σ t).1 with
    | true =>
      rw [show lnoF (sT σ) (m + 1) t = lnoF (sT σ) m (t + 1) from if_pos ho]
      refine x_if_eq 26 dD_leastNotOpen_17 (by decide) (fun hc => absurd hc (by decide)) (fun _ => ?_)
      refine x_iinc (v := nI (t + 1)) dD_leastNotOpen_20 rfl (by rw [nI_succ]; rfl) (Nat.le_of_ble_eq_true rfl) ?_
      refine x_goto 2 dD_leastNotOpen_23 (by decide) ?_
      exact ih (t + 1) (by omega)
    | false =>
      rw [show lnoF (sT σ) (m + 1) t = t from if_neg (by rw [ho]; decide)]
      refine x_if_eq 26 dD_leastNotOpen_17 (by decide) (fun _ => ?_) (fun hc => absurd rfl hc)
      refine x_iload_n dD_leastNotOpen_26 rfl ?_
      exact x_iret rfl dD_leastNotOpen_27
theorem d_lno (H : VP b σ h) : xG E (d + 1) mD_leastNotOpen 0 [(0, .ref b)] [] false h (false, .inl (some (.int (nI (lnoF (sT σ) 16 0)))), h) := by
  refine x_iconst (v := (nI 0)) dD_leastNotOpen_0 (by decide) ?_
  refine x_istore_n dD_leastNotOpen_1 (Nat.le_of_ble_eq_true rfl) ?_
  exact d_lno_loop H 16 0 rfl
theorem d_hmo_loop (H : VP b σ h) : ∀ m t : Nat, t + m = 16 → xG E (d + 1) mD_howManyOpen 4 [(2, .int (nI t)), (1, .int (nI (hmo (sT σ) t))), (0, .ref b)] [] false h (false, .inl (some (.int (nI (hmo (sT σ) 16)))), h) := by
  intro m
  induction m with
  | zero =>
    intro t ht
    obtain rfl : t = 16 := by omega
    refine x_iload_n dD_howManyOpen_4 rfl ?_
    refine x_bipush (v := (nI 16)) dD_howManyOpen_5 (by decide) ?_
    refine x_icmp_ge 31 dD_howManyOpen_7 (by decide) (fun _ => ?_) (fun hc => absurd (nI_le (by omega) (by omega)) hc)
    refine x_iload_n dD_howManyOpen_31 rfl ?_
    exact x_iret rfl dD_howManyOpen_32
  | succ m ih =>
    intro t ht
    have hT := H.2.2.1 t (by omega)
    refine x_iload_n dD_howManyOpen_4 rfl ?_
    refine x_bipush (v := (nI 16)) dD_howManyOpen_5 (by decide) ?_
    refine x_icmp_ge 31 dD_howManyOpen_7 (by decide) (fun hc => absurd hc (nI_ge (by omega) (by omega))) (fun _ => ?_)
    refine x_aload_n dD_howManyOpen_10 rfl ?_
    refine x_get fD_transactions dD_howManyOpen_11 H.1 rfl ?_
    refine x_iload_n dD_howManyOpen_14 rfl ?_
    refine x_aald t (b + 2 + 11 * t) dD_howManyOpen_15 H.2.1 rfl (if_pos (show t < 16 by omega)) rfl (by omega) (by decide) ?_
    refine x_callV0 cD_T_isOpen dD_howManyOpen_16 (by assumption) (Nat.le_of_ble_eq_true rfl) (Nat.le_of_ble_eq_true rfl) (t_isOpen hT) ?_
    cases ho : (sT σ t).1 with
    | true =>
      refine x_if_eq 25 dD_howManyOpen_19 (by decide) (fun hc => absurd hc (by decide)) (fun _ => ?_)
      refine x_iinc (v := nI (hmo (sT σ) (t + 1))) dD_howManyOpen_22 rfl (by rw [show hmo (sT σ) (t + 1) = hmo (sT σ) t + 1 from if_pos ho, nI_succ]; rfl) (Nat.le_of_ble_eq_true rfl) ?_
      refine x_iinc (v := nI (t + 1)) dD_howManyOpen_25 rfl (by rw [nI_succ]; rfl) (Nat.le_of_ble_eq_true rfl) ?_
      refine x_goto 4 dD_howManyOpen_28 (by decide) ?_
      exact ih (t + 1) (by omega)
    | false =>
      refine x_if_eq 25 dD_howManyOpen_19 (by decide) (fun _ => ?_) (fun hc => absurd rfl hc)
      refine x_iinc (v := nI (t + 1)) dD_howManyOpen_25 rfl (by rw [nI_succ]; rfl) (Nat.le_of_ble_eq_true rfl) ?_
      refine x_goto 4 dD_howManyOpen_28 (by decide) ?_
      rw [show hmo (sT σ) t = hmo (sT σ) (t + 1) from (if_neg (by rw [ho]; decide)).symm]
      exact ih (t + 1) (by omega)
theorem d_hmo (H : VP b σ h) : xG E (d + 1) mD_howManyOpen 0 [(0, .ref b)] [] false h (false, .inl (some (.int (nI (hmo (sT σ) 16)))), h) := by
  refine x_iconst (v := (nI 0)) dD_howManyOpen_0 (by decide) ?_
  refine x_istore_n dD_howManyOpen_1 (Nat.le_of_ble_eq_true rfl) ?_
  refine x_iconst (v := (nI 0)) dD_howManyOpen_2 (by decide) ?_
  refine x_istore_n dD_howManyOpen_3 (Nat.le_of_ble_eq_true rfl) ?_
  exact d_hmo_loop H 16 0 rfl
theorem d_flo_loop (H : VP b σ h) (hI : VI σ) : ∀ m t : Nat, t + m = 16 → xG E (d + 1) mD_floor 7 [(2, .int (nI t)), (1, .int (nI (flo (sK σ) (sT σ) t))), (0, .ref b)] [] false h (false, .inl (some (.int (nI (flo (sK σ) (sT σ) 16)))), h) := by
  intro m
  induction m with
  | zero =>
    intro t ht
    obtain rfl : t = 16 := by omega
    refine x_iload_n dD_floor_7 rfl ?_
    refine x_bipush (v := (nI 16)) dD_floor_8 (by decide) ?_
    refine x_icmp_ge 45 dD_floor_10 (by decide) (fun _ => ?_) (fun hc => absurd (nI_le (by omega) (by omega)) hc)
    refine x_iload_n dD_floor_45 rfl ?_
    exact x_iret rfl dD_floor_46
  | succ m ih =>
    intro t ht
    have hT := H.2.2.1 t (by omega)
    have hs := (hI.2.1 t (by omega)).1
    have hk := hI.1
    have hfl := flo_le (sK σ) (sT σ) t
    refine x_iload_n dD_floor_7 rfl ?_
    refine x_bipush (v := (nI 16)) dD_floor_8 (by decide) ?_
    refine x_icmp_ge 45 dD_floor_10 (by decide) (fun hc => absurd hc (nI_ge (by omega) (by omega))) (fun _ => ?_)
    refine x_aload_n dD_floor_13 rfl ?_
    refine x_get fD_transactions dD_floor_14 H.1 rfl ?_
    refine x_iload_n dD_floor_17 rfl ?_
    refine x_aald t (b + 2 + 11 * t) dD_floor_18 H.2.1 rfl (if_pos (show t < 16 by omega)) rfl (by omega) (by decide) ?_
    refine x_callV0 cD_T_isOpen dD_floor_19 (by assumption) (Nat.le_of_ble_eq_true rfl) (Nat.le_of_ble_eq_true rfl) (t_isOpen hT) ?_
    cases ho : (sT σ t).1 with
    | true =>
      refine x_if_eq 39 dD_floor_22 (by decide) (fun hc => absurd hc (by decide)) (fun _ => ?_)
      refine x_iload_n dD_floor_25 rfl ?_
      refine x_aload_n dD_floor_26 rfl ?_
      refine x_get fD_transactions dD_floor_27 H.1 rfl ?_
      refine x_iload_n dD_floor_30 rfl ?_
      refine x_aald t (b + 2 + 11 * t) dD_floor_31 H.2.1 rfl (if_pos (show t < 16 by omega)) rfl (by omega) (by decide) ?_
      refine x_callV0 cD_T_start dD_floor_32 (by assumption) (Nat.le_of_ble_eq_true rfl) (Nat.le_of_ble_eq_true rfl) (t_start hT) ?_
      refine x_callS2 cD_J_min dD_floor_35 (Nat.le_of_ble_eq_true rfl) (Nat.le_of_ble_eq_true rfl) (j_min (by omega) (by omega)) ?_
      refine x_istore_n dD_floor_38 (Nat.le_of_ble_eq_true rfl) ?_
      refine x_iinc (v := nI (t + 1)) dD_floor_39 rfl (by rw [nI_succ]; rfl) (Nat.le_of_ble_eq_true rfl) ?_
      refine x_goto 7 dD_floor_42 (by decide) ?_
      rw [show min (flo (sK σ) (sT σ) t) (sT σ t).2.1 = flo (sK σ) (sT σ) (t + 1) from (if_pos ho).symm]
      exact ih (t + 1) (by omega)
    | false =>
      refine x_if_eq 39 dD_floor_22 (by decide) (fun _ => ?_) (fun hc => absurd rfl hc)
      refine x_iinc (v := nI (t + 1)) dD_floor_39 rfl (by rw [nI_succ]; rfl) (Nat.le_of_ble_eq_true rfl) ?_
      refine x_goto 7 dD_floor_42 (by decide) ?_
      rw [show flo (sK σ) (sT σ) t = flo (sK σ) (sT σ) (t + 1) from (if_neg (by rw [ho]; decide)).symm]
      exact ih (t + 1) (by omega)
theorem d_floor (H : VP b σ h) (hI : VI σ) : xG E (d + 1) mD_floor 0 [(0, .ref b)] [] false h (false, .inl (some (.int (nI (flo (sK σ) (sT σ) 16)))), h) := by
  refine x_aload_n dD_floor_0 rfl ?_
  refine x_get fD_clock dD_floor_1 H.1 rfl ?_
  refine x_istore_n dD_floor_4 (Nat.le_of_ble_eq_true rfl) ?_
  refine x_iconst (v := (nI 0)) dD_floor_5 (by decide) ?_
  refine x_istore_n dD_floor_6 (Nat.le_of_ble_eq_true rfl) ?_
  exact d_flo_loop H hI 16 0 rfl
theorem d_reading {t c : Nat} (H : VP b σ h) (hI : VI σ) (ht : t < 16) (hc : c < 16) : xG E (d + 2) mD_reading 0 [(0, .ref b), (1, .ref (b + 2 + 11 * t)), (2, .int (nI c))] [] false h (false, .inl (some (.long (rdV σ t c))), h) := by
  have hT := H.2.2.1 t ht
  have hW := H.2.2.2.1 t ht
  obtain ⟨i1, i2, i3, i4⟩ := hI.2.1 t ht
  have hk := hI.1
  have hle := hiW_le (sW σ t) c (sT σ t).2.2.2.1
  refine x_aload_n dD_reading_0 rfl ?_
  refine x_iload_n dD_reading_1 rfl ?_
  refine x_callV1 cD_T_layerThatWrote dD_reading_2 (by assumption) (Nat.le_of_ble_eq_true rfl) (Nat.le_of_ble_eq_true rfl) (t_ltw i4 hT hW) ?_
  refine x_istore_n dD_reading_5 (Nat.le_of_ble_eq_true rfl) ?_
  refine x_iload_n dD_reading_6 rfl ?_
  refine x_if_lt 17 dD_reading_7 (by decide) (fun hz => ?_) (fun hz => ?_)
  · have e0 : hiW (sW σ t) c (sT σ t).2.2.2.1 = 0 := (xpi_neg _ (by omega)).mp hz
    unfold rdV
    rw [if_pos e0]
    refine x_aload_n dD_reading_17 rfl ?_
    refine x_get fD_versions dD_reading_18 H.1 rfl ?_
    refine x_iload_n dD_reading_21 rfl ?_
    refine x_aload_n dD_reading_22 rfl ?_
    refine x_callV0 cD_T_start dD_reading_23 (by assumption) (Nat.le_of_ble_eq_true rfl) (Nat.le_of_ble_eq_true rfl) (t_start hT) ?_
    refine x_callV2 cD_V_valueAt dD_reading_26 H.2.2.2.2.2.2.1 (Nat.le_of_ble_eq_true rfl) (Nat.le_of_ble_eq_true rfl) (v_valueAt hI.2.2.1 (by omega) (by omega) hI.ok H.2.2.2.2.2.2.1 H.2.2.2.2.2.2.2.1 H.2.2.2.2.2.2.2.2.1 H.2.2.2.2.2.2.2.2.2) ?_
    exact x_lret rfl dD_reading_29
  · have e0 : hiW (sW σ t) c (sT σ t).2.2.2.1 ≠ 0 := fun q => hz ((xpi_neg _ (by omega)).mpr q)
    unfold rdV
    rw [if_neg e0]
    obtain ⟨i, hi⟩ : ∃ i, hiW (sW σ t) c (sT σ t).2.2.2.1 = i + 1 := ⟨_, (Nat.succ_pred_eq_of_pos (Nat.pos_of_ne_zero e0)).symm⟩
    rw [hi]
    refine x_aload_n dD_reading_10 rfl ?_
    refine x_iload_n dD_reading_11 rfl ?_
    refine x_iload_n dD_reading_12 rfl ?_
    refine x_callV2 cD_T_valueIn dD_reading_13 (by assumption) (Nat.le_of_ble_eq_true rfl) (Nat.le_of_ble_eq_true rfl) (t_valueIn (i := i) (by omega) hc hT (H.2.2.2.2.1 t ht) (H.2.2.2.2.2.1 t i ht (by omega))) ?_
    exact x_lret rfl dD_reading_16
theorem d_spoiledCells {t : Nat} (H : VP b σ h) (hI : VI σ) (ht : t < 16) : xG E (d + 2) mD_spoiledCells 0 [(0, .ref b), (1, .ref (b + 2 + 11 * t))] [] false h (false, .inl (some (.int (spV σ t))), h) := by
  have hT := H.2.2.1 t ht
  have hW := H.2.2.2.1 t ht
  obtain ⟨i1, i2, i3, i4⟩ := hI.2.1 t ht
  have hk := hI.1
  refine x_aload_n dD_spoiledCells_0 rfl ?_
  refine x_callV0 cD_T_heeded dD_spoiledCells_1 (by assumption) (Nat.le_of_ble_eq_true rfl) (Nat.le_of_ble_eq_true rfl) (t_heeded i4 i2 hT hW) ?_
  refine x_aload_n dD_spoiledCells_4 rfl ?_
  refine x_get fD_versions dD_spoiledCells_5 H.1 rfl ?_
  refine x_aload_n dD_spoiledCells_8 rfl ?_
  refine x_callV0 cD_T_start dD_spoiledCells_9 (by assumption) (Nat.le_of_ble_eq_true rfl) (Nat.le_of_ble_eq_true rfl) (t_start hT) ?_
  refine x_callV1 cD_V_cellsWrittenAfter dD_spoiledCells_12 H.2.2.2.2.2.2.1 (Nat.le_of_ble_eq_true rfl) (Nat.le_of_ble_eq_true rfl) (v_wa hI.2.2.1 (by omega) hI.ok H.2.2.2.2.2.2.1 H.2.2.2.2.2.2.2.1 H.2.2.2.2.2.2.2.2.1) ?_
  refine x_iand dD_spoiledCells_15 ?_
  exact x_iret rfl dD_spoiledCells_16
end
