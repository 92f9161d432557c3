/-! Versions.removeCovered, Transaction.copyHighestLayerDown -/
theorem up_twice {α : Type} (f : Nat → α) (i : Nat) (x y : α) : va_up (va_up f i x) i y = va_up f i y := by
  funext q
  by_cases hq : q = i <;> simp [va_up, hq]
theorem up_eq {α : Type} (f : Nat → α) (i : Nat) (x : α) : va_up f i x i = x := by simp [va_up]
theorem up_ne {α : Type} (f : Nat → α) {i q : Nat} (x : α) (hq : q ≠ i) : va_up f i x q = f q := by simp [va_up, hq]
theorem up_self {α : Type} (f : Nat → α) (i : Nat) : va_up f i (f i) = f := by
  funext q
  by_cases hq : q = i <;> simp [va_up, hq]
/-- the pass from the newest to the oldest: how many places are left below, the rows -/
def rcA (fl : Nat) : Nat → Int32 → Nat → vW → Nat × vW
  | 0, _, j, A => (j, A)
  | i + 1, cv, j, A => if cv &&& xbit (A.1 i) = 0 then rcA fl i (if A.2.1 i ≤ fl then cv ||| xbit (A.1 i) else cv) (j - 1) (mv A i (j - 1)) else rcA fl i cv j A
/-- the pass back to the beginning -/
def rdA (j : Nat) : Nat → Nat → vW → vW
  | 0, _, A => A
  | m + 1, i, A => rdA j m (i + 1) (mv A i (i - j))
def vok (n : Nat) (A : vW) : Prop := ∀ i, i < n → A.1 i < 2 ^ 31 ∧ A.2.1 i < 2 ^ 31
theorem vok_mv {n : Nat} {A : vW} (h : vok n A) {i j : Nat} (hi : i < n) : vok n (mv A i j) := by
  intro q hq
  simp only [mv]
  by_cases e : q = j
  · subst e; rw [up_eq, up_eq]; exact h i hi
  · rw [up_ne _ _ e, up_ne _ _ e]; exact h q hq
theorem rcA_le (fl : Nat) : ∀ (i : Nat) (cv : Int32) (j : Nat) (A : vW), (rcA fl i cv j A).1 ≤ j
  | 0, _, j, _ => Nat.le_refl _
  | i + 1, cv, j, A => by
    unfold rcA
    split
    · exact Nat.le_trans (rcA_le fl i _ _ _) (Nat.sub_le _ _)
    · exact rcA_le fl i _ _ _
section
variable {E : xE} {d a n fl : Nat} {h : xH}
theorem v_rc1 (hb : E.2.2.1 ≤ a) (hn : n ≤ 500) (hf : fl < 2 ^ 31) (ha : h.1 a = some (vV a n)) {r : xR} : ∀ (i : Nat) (cv : Int32) (j : Nat) (A : vW), i ≤ j → j ≤ n → vok n A →
    (∀ cv', xG E (d + 1) mV_removeCovered 69 [(3, .int (nI (rcA fl i cv j A).1)), (2, .int cv'), (0, .ref a), (1, .int (nI fl))] [] true (vput h a (rcA fl i cv j A).2) r) →
    xG E (d + 1) mV_removeCovered 15 [(4, .int (xpi i)), (3, .int (nI j)), (2, .int cv), (0, .ref a), (1, .int (nI fl))] [] true (vput h a A) r := by
  intro i
  induction i with
  | zero =>
    intro cv j A hij hj hA hk
    refine x_iload dV_removeCovered_15 rfl ?_
    refine x_if_lt 69 dV_removeCovered_17 (by decide) (fun _ => ?_) (fun hc => absurd ((xpi_neg 0 (by decide)).mpr rfl) hc)
    exact x_loc _ (xac rfl (xac rfl (xac rfl (xac rfl xan)))) (hk cv)
  | succ i ih =>
    intro cv j A hij hj hA hk
    have hAi := hA i (by omega)
    have hav : (vput h a A).1 a = some (vV a n) := (vput_ne h A (by omega) (by omega) (by omega)).trans ha
    refine x_iload dV_removeCovered_15 rfl ?_
    refine x_if_lt 69 dV_removeCovered_17 (by decide) (fun hc => absurd ((xpi_neg _ (by omega)).mp hc) (by omega)) (fun _ => ?_)
    refine x_iconst (v := 1) dV_removeCovered_20 (by decide) ?_
    refine x_aload_n dV_removeCovered_21 rfl ?_
    refine x_get fV_cells dV_removeCovered_22 (by assumption) rfl ?_
    refine x_iload dV_removeCovered_25 rfl ?_
    refine x_iald i dV_removeCovered_27 (vput_1 h a A) rfl (by omega) (by decide) ?_
    refine x_ishl dV_removeCovered_28 ?_
    refine x_istore dV_removeCovered_29 (Nat.le_of_ble_eq_true rfl) ?_
    refine x_iload_n dV_removeCovered_31 rfl ?_
    refine x_iload dV_removeCovered_32 rfl ?_
    refine x_iand dV_removeCovered_34 ?_
    refine x_if_ne 63 dV_removeCovered_35 (by decide) (fun hc => ?_) (fun hc => ?_)
    · refine x_iinc (v := xpi i) dV_removeCovered_63 rfl (xpi_dec i) (Nat.le_of_ble_eq_true rfl) ?_
      refine x_goto 15 dV_removeCovered_66 (by decide) ?_
      refine x_loc [(4, .int (xpi i)), (3, .int (nI j)), (2, .int cv), (0, .ref a), (1, .int (nI fl))] (xac rfl (xac rfl (xac rfl (xac rfl (xac rfl xan))))) ?_
      refine ih cv j A (by omega) hj hA ?_
      have e : rcA fl (i + 1) cv j A = rcA fl i cv j A := if_neg hc
      rw [e] at hk
      exact hk
    · have e : rcA fl (i + 1) cv j A = rcA fl i (if A.2.1 i ≤ fl then cv ||| xbit (A.1 i) else cv) (j - 1) (mv A i (j - 1)) := if_pos hc
      rw [e] at hk
      refine x_iinc (v := nI (j - 1)) dV_removeCovered_38 rfl (by rw [← pk_sub (show 1 ≤ j by omega), Int32.sub_eq_add_neg]; rfl) (Nat.le_of_ble_eq_true rfl) ?_
      refine x_aload_n dV_removeCovered_41 rfl ?_
      refine x_iload dV_removeCovered_42 rfl ?_
      refine x_iload_n dV_removeCovered_44 rfl ?_
      refine x_callV2 cV_V_move dV_removeCovered_45 (by assumption) (Nat.le_of_ble_eq_true rfl) (Nat.le_of_ble_eq_true rfl) (v_move (i := i) (j := j - 1) (A := A) hb (by omega) (by omega) hav (vput_1 h a A) (vput_2 h a A) (vput_3 h a A)) ?_
      rw [vput_twice]
      have hav2 : (vput h a (mv A i (j - 1))).1 a = some (vV a n) := (vput_ne h _ (by omega) (by omega) (by omega)).trans ha
      refine x_aload_n dV_removeCovered_48 rfl ?_
      refine x_get fV_clocks dV_removeCovered_49 (by assumption) rfl ?_
      refine x_iload_n dV_removeCovered_52 rfl ?_
      refine x_iald (j - 1) dV_removeCovered_53 (vput_2 h a (mv A i (j - 1))) rfl (by omega) (by decide) ?_
      refine x_iload_n dV_removeCovered_54 rfl ?_
      have ek : (mv A i (j - 1)).2.1 (j - 1) = A.2.1 i := by simp only [mv]; rw [up_eq]
      rw [ek]
      refine x_icmp_gt 63 dV_removeCovered_55 (by decide) (fun hz => ?_) (fun hz => ?_)
      · rw [if_neg (fun q => absurd hz (nI_nlt q hf))] at hk
        refine x_iinc (v := xpi i) dV_removeCovered_63 rfl (xpi_dec i) (Nat.le_of_ble_eq_true rfl) ?_
        refine x_goto 15 dV_removeCovered_66 (by decide) ?_
        refine x_loc [(4, .int (xpi i)), (3, .int (nI (j - 1))), (2, .int cv), (0, .ref a), (1, .int (nI fl))] (xac rfl (xac rfl (xac rfl (xac rfl (xac rfl xan))))) ?_
        exact ih _ (j - 1) _ (by omega) (by omega) (vok_mv hA (by omega)) hk
      · rw [if_pos (Nat.not_lt.mp (fun q => hz (nI_lt q hAi.2)))] at hk
        refine x_iload_n dV_removeCovered_58 rfl ?_
        refine x_iload dV_removeCovered_59 rfl ?_
        refine x_ior dV_removeCovered_61 ?_
        refine x_istore_n dV_removeCovered_62 (Nat.le_of_ble_eq_true rfl) ?_
        refine x_iinc (v := xpi i) dV_removeCovered_63 rfl (xpi_dec i) (Nat.le_of_ble_eq_true rfl) ?_
        refine x_goto 15 dV_removeCovered_66 (by decide) ?_
        refine x_loc [(4, .int (xpi i)), (3, .int (nI (j - 1))), (2, .int (cv ||| xbit (A.1 i))), (0, .ref a), (1, .int (nI fl))] (xac rfl (xac rfl (xac rfl (xac rfl (xac rfl xan))))) ?_
        exact ih _ (j - 1) _ (by omega) (by omega) (vok_mv hA (by omega)) hk
theorem v_rc2 (hb : E.2.2.1 ≤ a) (hn : n ≤ 500) (ha : h.1 a = some (vV a n)) {cv : Int32} {j : Nat} {r : xR} : ∀ (m i : Nat) (A : vW), i + m = n → j ≤ i →
    xG E (d + 1) mV_removeCovered 97 [(3, .int (nI j)), (2, .int cv), (0, .ref a), (1, .int (nI fl))] [] true (vput h a (rdA j m i A)) r →
    xG E (d + 1) mV_removeCovered 72 [(4, .int (nI i)), (3, .int (nI j)), (2, .int cv), (0, .ref a), (1, .int (nI fl))] [] true (vput h a A) r := by
  intro m
  induction m with
  | zero =>
    intro i A hi hj hk
    have hav : (vput h a A).1 a = some (vV a n) := (vput_ne h A (by omega) (by omega) (by omega)).trans ha
    refine x_iload dV_removeCovered_72 rfl ?_
    refine x_aload_n dV_removeCovered_74 rfl ?_
    refine x_get fV_size dV_removeCovered_75 (by assumption) rfl ?_
    refine x_icmp_ge 97 dV_removeCovered_78 (by decide) (fun _ => ?_) (fun hc => absurd (nI_le (by omega) (by omega)) hc)
    exact x_loc _ (xac rfl (xac rfl (xac rfl (xac rfl xan)))) hk
  | succ m ih =>
    intro i A hi hj hk
    have hav : (vput h a A).1 a = some (vV a n) := (vput_ne h A (by omega) (by omega) (by omega)).trans ha
    refine x_iload dV_removeCovered_72 rfl ?_
    refine x_aload_n dV_removeCovered_74 rfl ?_
    refine x_get fV_size dV_removeCovered_75 (by assumption) rfl ?_
    refine x_icmp_ge 97 dV_removeCovered_78 (by decide) (fun hc => absurd hc (nI_ge (by omega) (by omega))) (fun _ => ?_)
    refine x_aload_n dV_removeCovered_81 rfl ?_
    refine x_iload dV_removeCovered_82 rfl ?_
    refine x_iload dV_removeCovered_84 rfl ?_
    refine x_iload_n dV_removeCovered_86 rfl ?_
    refine x_isub dV_removeCovered_87 ?_
    refine x_top (v' := .int (nI (i - j))) (by rw [pk_sub hj]) ?_
    refine x_callV2 cV_V_move dV_removeCovered_88 (by assumption) (Nat.le_of_ble_eq_true rfl) (Nat.le_of_ble_eq_true rfl) (v_move (i := i) (j := i - j) (A := A) hb (by omega) (by omega) hav (vput_1 h a A) (vput_2 h a A) (vput_3 h a A)) ?_
    rw [vput_twice]
    refine x_iinc (v := nI (i + 1)) dV_removeCovered_91 rfl (by rw [nI_succ]; rfl) (Nat.le_of_ble_eq_true rfl) ?_
    refine x_goto 72 dV_removeCovered_94 (by decide) ?_
    exact ih (i + 1) _ (by omega) (by omega) hk
theorem v_removeCovered {A : vW} (hb : E.2.2.1 ≤ a) (hn : n ≤ 500) (hf : fl < 2 ^ 31) (hA : vok n A) (ha : h.1 a = some (vV a n)) (h1 : h.1 (a + 1) = some (vN 500 A.1)) (h2 : h.1 (a + 2) = some (vN 500 A.2.1)) (h3 : h.1 (a + 3) = some (vL 500 A.2.2)) : xG E (d + 1) mV_removeCovered 0 [(0, .ref a), (1, .int (nI fl))] [] false h (true, .inl (some (.int (nI (rcA fl n 0 n A).1))), xset (vput h a (rdA (rcA fl n 0 n A).1 (n - (rcA fl n 0 n A).1) (rcA fl n 0 n A).1 (rcA fl n 0 n A).2)) a (vV a (n - (rcA fl n 0 n A).1))) := by
  have hle := rcA_le fl n 0 n A
  refine x_true ?_
  refine x_iconst (v := 0) dV_removeCovered_0 (by decide) ?_
  refine x_istore_n dV_removeCovered_1 (Nat.le_of_ble_eq_true rfl) ?_
  refine x_aload_n dV_removeCovered_2 rfl ?_
  refine x_get fV_size dV_removeCovered_3 (by assumption) rfl ?_
  refine x_istore_n dV_removeCovered_6 (Nat.le_of_ble_eq_true rfl) ?_
  refine x_aload_n dV_removeCovered_7 rfl ?_
  refine x_get fV_size dV_removeCovered_8 (by assumption) rfl ?_
  refine x_iconst (v := (nI 1)) dV_removeCovered_11 (by decide) ?_
  refine x_isub dV_removeCovered_12 ?_
  refine x_top (by rw [xpi_of]) ?_
  refine x_istore dV_removeCovered_13 (Nat.le_of_ble_eq_true rfl) ?_
  conv => lhs; rw [← vput_self h1 h2 h3]
  refine v_rc1 hb hn hf ha n 0 n A (Nat.le_refl _) (Nat.le_refl _) hA (fun cv' => ?_)
  generalize hq : rcA fl n 0 n A = q at hle ⊢
  obtain ⟨j, B⟩ := q
  dsimp only at hle ⊢
  refine x_iload_n dV_removeCovered_69 rfl ?_
  refine x_istore dV_removeCovered_70 (Nat.le_of_ble_eq_true rfl) ?_
  refine v_rc2 hb hn ha (n - j) j B (by omega) (Nat.le_refl _) ?_
  have hav : (vput h a (rdA j (n - j) j B)).1 a = some (vV a n) := (vput_ne h _ (by omega) (by omega) (by omega)).trans ha
  refine x_aload_n dV_removeCovered_97 rfl ?_
  refine x_dup dV_removeCovered_98 rfl ?_
  refine x_get fV_size dV_removeCovered_99 (by assumption) rfl ?_
  refine x_iload_n dV_removeCovered_102 rfl ?_
  refine x_isub dV_removeCovered_103 ?_
  refine x_top (v' := .int (nI (n - j))) (by rw [pk_sub hle]) ?_
  refine x_put fV_size dV_removeCovered_104 (by assumption) hb rfl rfl (Nat.le_of_ble_eq_true rfl) ?_
  refine x_iload_n dV_removeCovered_107 rfl ?_
  exact x_iret rfl dV_removeCovered_108
end
