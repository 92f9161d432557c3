/-! VersionDeskModel: forget, the constructor -/
def mshift (c : Nat) : Nat → Nat → qS → qS
  | 0, _, μ => μ
  | n + 1, v, μ => mshift c n (v + 1) (sL (sI μ 10 (520 * c + v) (qI μ 10 (520 * c + v + 1))) 12 (520 * c + v) (qL μ 12 (520 * c + v + 1)))
def mwh (fl c : Nat) : Nat → Nat → qS → qS × Nat
  | 0, g, μ => (μ, g)
  | n + 1, g, μ => if qI μ 10 (520 * c + 1) ≤ fl then mwh fl c n (g + 1) (mshift c (n + 1) 0 (sI μ 9 c (n + 1))) else (μ, g)
def mfor (fl : Nat) : Nat → Nat → qS × Nat → qS × Nat
  | 0, _, p => p
  | n + 1, c, p => mfor fl n (c + 1) (mwh fl c (qI p.1 9 c - 1) p.2 p.1)
theorem mshift_I (c : Nat) {k : Nat} (hk : k ≠ 10) : ∀ n v μ, qI (mshift c n v μ) k = qI μ k
  | 0, _, _ => rfl
  | n + 1, v, μ => by
    show qI (mshift c n (v + 1) _) k = _
    rw [mshift_I c hk n, qI_sL, sI_ne hk]
theorem mshift_P (P : Nat → Prop) (c : Nat) : ∀ n v μ, (∀ j, P (qI μ 10 j)) → ∀ j, P (qI (mshift c n v μ) 10 j)
  | 0, _, _, h => h
  | n + 1, v, μ, h => by
    refine mshift_P P c n (v + 1) _ (fun j => ?_)
    rw [qI_sL, sI_at]
    by_cases e : j = 520 * c + v
    · rw [e, up_eq]; exact h _
    · rw [up_ne _ _ e]; exact h j
theorem mwh_I (fl c : Nat) {c' : Nat} (hc : c' ≠ c) : ∀ n g μ, qI (mwh fl c n g μ).1 9 c' = qI μ 9 c'
  | 0, _, _ => rfl
  | n + 1, g, μ => by
    unfold mwh
    split
    · rw [mwh_I fl c hc n, mshift_I c (by decide), sI_at, up_ne _ _ hc]
    · rfl
theorem mwh_P (P : Nat → Prop) (fl c : Nat) : ∀ n g μ, (∀ j, P (qI μ 10 j)) → ∀ j, P (qI (mwh fl c n g μ).1 10 j)
  | 0, _, _, h => h
  | n + 1, g, μ, h => by
    unfold mwh
    split
    · exact mwh_P P fl c n _ _ (mshift_P P c _ _ _ (fun j => by rw [sI_ne (by decide)]; exact h j))
    · exact h
section
variable {E : xE} {d m : Nat} {h0 : xH}
theorem m_fgt_shift {c : Nat} {g fl : Int32} {o : xO} {μf : qS} (hb : E.2.2.1 ≤ m) (hc : c < 16) : ∀ (n v : Nat) (μ : qS) (h : xH), v + n = qI μ 9 c → qI μ 9 c ≤ 500 → QP m h0 μ h →
    (∀ h', QP m h0 (mshift c n v μ) h' → ∃ h'', xG E (d + 2) mM_forget 20 [(3, .int (nI c)), (1, .int g), (2, .int fl), (0, .ref m)] [] true h' (true, o, h'') ∧ QP m h0 μf h'') →
    ∃ h'', xG E (d + 2) mM_forget 62 [(4, .int (nI v)), (3, .int (nI c)), (1, .int g), (2, .int fl), (0, .ref m)] [] true h (true, o, h'') ∧ QP m h0 μf h'' := by
  intro n
  induction n with
  | zero =>
    intro v μ h hv h5 H K
    obtain ⟨h'', k, H''⟩ := K h H
    refine ⟨h'', ?_, H''⟩
    refine x_iload dM_forget_62 rfl ?_
    refine x_aload_n dM_forget_64 rfl ?_
    refine x_get fM_versions dM_forget_65 H.1 rfl ?_
    refine x_iload_n dM_forget_68 rfl ?_
    refine x_iald c dM_forget_69 H.a9 (by simp only [pk_mul, nI_add]) (by omega) (by decide) ?_
    refine x_icmp_ge 135 dM_forget_70 (by decide) (fun _ => ?_) (fun hq => absurd (nI_le (show qI μ 9 c ≤ v by omega) (by omega)) hq)
    refine x_goto 20 dM_forget_135 (by decide) ?_
    exact x_loc _ (xac rfl (xac rfl (xac rfl (xac rfl xan)))) k
  | succ n ih =>
    intro v μ h hv h5 H K
    have H1 := H.s10 (520 * c + v) (qI μ 10 (520 * c + v + 1))
    have H2 := H1.s12 (520 * c + v) (qL μ 12 (520 * c + v + 1))
    have e9 : qI (sL (sI μ 10 (520 * c + v) (qI μ 10 (520 * c + v + 1))) 12 (520 * c + v) (qL μ 12 (520 * c + v + 1))) 9 c = qI μ 9 c := by rw [qI_sL, sI_ne (by decide)]
    obtain ⟨h'', k, H''⟩ := ih (v + 1) (sL (sI μ 10 (520 * c + v) (qI μ 10 (520 * c + v + 1))) 12 (520 * c + v) (qL μ 12 (520 * c + v + 1))) _ (by rw [e9]; omega) (by rw [e9]; omega) H2 K
    refine ⟨h'', ?_, H''⟩
    refine x_iload dM_forget_62 rfl ?_
    refine x_aload_n dM_forget_64 rfl ?_
    refine x_get fM_versions dM_forget_65 H.1 rfl ?_
    refine x_iload_n dM_forget_68 rfl ?_
    refine x_iald c dM_forget_69 H.a9 (by simp only [pk_mul, nI_add]) (by omega) (by decide) ?_
    refine x_icmp_ge 135 dM_forget_70 (by decide) (fun hq => absurd hq (nI_ge (show v < qI μ 9 c by omega) (by omega))) (fun _ => ?_)
    refine x_aload_n dM_forget_73 rfl ?_
    refine x_get fM_at dM_forget_74 H.1 rfl ?_
    refine x_sipush (v := (nI 520)) dM_forget_77 (by decide) ?_
    refine x_iload_n dM_forget_80 rfl ?_
    refine x_imul dM_forget_81 ?_
    refine x_iload dM_forget_82 rfl ?_
    refine x_iadd dM_forget_84 ?_
    refine x_aload_n dM_forget_85 rfl ?_
    refine x_get fM_at dM_forget_86 H.1 rfl ?_
    refine x_sipush (v := (nI 520)) dM_forget_89 (by decide) ?_
    refine x_iload_n dM_forget_92 rfl ?_
    refine x_imul dM_forget_93 ?_
    refine x_iload dM_forget_94 rfl ?_
    refine x_iadd dM_forget_96 ?_
    refine x_iconst (v := (nI 1)) dM_forget_97 (by decide) ?_
    refine x_iadd dM_forget_98 ?_
    refine x_iald (520 * c + v + 1) dM_forget_99 H.a10 (by simp only [pk_mul, nI_add]) (by omega) (by decide) ?_
    refine x_iast (520 * c + v) dM_forget_100 H.a10 (by omega) (by simp only [pk_mul, nI_add]) (by omega) (by decide) ?_
    refine x_aload_n dM_forget_101 rfl ?_
    refine x_get fM_was dM_forget_102 H1.1 rfl ?_
    refine x_sipush (v := (nI 520)) dM_forget_105 (by decide) ?_
    refine x_iload_n dM_forget_108 rfl ?_
    refine x_imul dM_forget_109 ?_
    refine x_iload dM_forget_110 rfl ?_
    refine x_iadd dM_forget_112 ?_
    refine x_aload_n dM_forget_113 rfl ?_
    refine x_get fM_was dM_forget_114 H1.1 rfl ?_
    refine x_sipush (v := (nI 520)) dM_forget_117 (by decide) ?_
    refine x_iload_n dM_forget_120 rfl ?_
    refine x_imul dM_forget_121 ?_
    refine x_iload dM_forget_122 rfl ?_
    refine x_iadd dM_forget_124 ?_
    refine x_iconst (v := (nI 1)) dM_forget_125 (by decide) ?_
    refine x_iadd dM_forget_126 ?_
    refine x_lald (520 * c + v + 1) dM_forget_127 H1.a12 (by simp only [pk_mul, nI_add]) (by omega) (by decide) ?_
    refine x_last (520 * c + v) dM_forget_128 H1.a12 (by omega) (by simp only [pk_mul, nI_add]) (by omega) (by decide) ?_
    refine x_iinc (v := nI (v + 1)) dM_forget_129 rfl (by rw [nI_succ]; rfl) (Nat.le_of_ble_eq_true rfl) ?_
    refine x_goto 62 dM_forget_132 (by decide) ?_
    exact k
theorem m_fgt_while {c fl : Nat} {o : xO} {μf : qS} (hb : E.2.2.1 ≤ m) (hc : c < 16) (hfl : fl < 2 ^ 31) : ∀ (n g : Nat) (μ : qS) (h : xH), qI μ 9 c = n + 1 → qI μ 9 c ≤ 500 → (∀ j, qI μ 10 j < 2 ^ 31) → QP m h0 μ h →
    (∀ h', QP m h0 (mwh fl c n g μ).1 h' → ∃ h'', xG E (d + 2) mM_forget 138 [(3, .int (nI c)), (1, .int (nI (mwh fl c n g μ).2)), (2, .int (nI fl)), (0, .ref m)] [] true h' (true, o, h'') ∧ QP m h0 μf h'') →
    ∃ h'', xG E (d + 2) mM_forget 20 [(3, .int (nI c)), (1, .int (nI g)), (2, .int (nI fl)), (0, .ref m)] [] true h (true, o, h'') ∧ QP m h0 μf h'' := by
  intro n
  induction n with
  | zero =>
    intro g μ h hv h5 hat H K
    obtain ⟨h'', k, H''⟩ := K h H
    refine ⟨h'', ?_, H''⟩
    refine x_aload_n dM_forget_20 rfl ?_
    refine x_get fM_versions dM_forget_21 H.1 rfl ?_
    refine x_iload_n dM_forget_24 rfl ?_
    refine x_iald c dM_forget_25 H.a9 (by simp only [pk_mul, nI_add]) (by omega) (by decide) ?_
    refine x_iconst (v := (nI 1)) dM_forget_26 (by decide) ?_
    refine x_icmp_le 138 dM_forget_27 (by decide) (fun _ => ?_) (fun hq => absurd (nI_le (show qI μ 9 c ≤ 1 by omega) (by omega)) hq)
    exact k
  | succ n ih =>
    intro g μ h hv h5 hat H K
    by_cases hz : qI μ 10 (520 * c + 1) ≤ fl
    · rw [show mwh fl c (n + 1) g μ = mwh fl c n (g + 1) (mshift c (n + 1) 0 (sI μ 9 c (n + 1))) from if_pos hz] at K
      have H1 := H.s9 c (n + 1)
      have e9 : qI (sI μ 9 c (n + 1)) 9 c = n + 1 := by rw [sI_at, up_eq]
      have e10 : ∀ j, qI (sI μ 9 c (n + 1)) 10 j < 2 ^ 31 := fun j => by rw [sI_ne (by decide)]; exact hat j
      obtain ⟨h'', k, H''⟩ := m_fgt_shift (E := E) (d := d) (g := nI (g + 1)) (fl := nI fl) (o := o) (μf := μf) hb hc (n + 1) 0 (sI μ 9 c (n + 1)) _ (by rw [e9]; omega) (by rw [e9]; omega) H1 (fun h' H' => ih (g + 1) _ h' (by rw [mshift_I c (by decide), e9]) (by rw [mshift_I c (by decide), e9]; omega) (mshift_P (fun x => x < 2 ^ 31) c _ _ _ e10) H' K)
      refine ⟨h'', ?_, H''⟩
      refine x_aload_n dM_forget_20 rfl ?_
      refine x_get fM_versions dM_forget_21 H.1 rfl ?_
      refine x_iload_n dM_forget_24 rfl ?_
      refine x_iald c dM_forget_25 H.a9 (by simp only [pk_mul, nI_add]) (by omega) (by decide) ?_
      refine x_iconst (v := (nI 1)) dM_forget_26 (by decide) ?_
      refine x_icmp_le 138 dM_forget_27 (by decide) (fun hq => absurd hq (nI_ge (show 1 < qI μ 9 c by omega) (by omega))) (fun _ => ?_)
      refine x_aload_n dM_forget_30 rfl ?_
      refine x_get fM_at dM_forget_31 H.1 rfl ?_
      refine x_sipush (v := (nI 520)) dM_forget_34 (by decide) ?_
      refine x_iload_n dM_forget_37 rfl ?_
      refine x_imul dM_forget_38 ?_
      refine x_iconst (v := (nI 1)) dM_forget_39 (by decide) ?_
      refine x_iadd dM_forget_40 ?_
      refine x_iald (520 * c + 1) dM_forget_41 H.a10 (by simp only [pk_mul, nI_add]) (by omega) (by decide) ?_
      refine x_iload_n dM_forget_42 rfl ?_
      refine x_icmp_gt 138 dM_forget_43 (by decide) (fun hq => absurd hq (nI_nlt hz hfl)) (fun _ => ?_)
      refine x_aload_n dM_forget_46 rfl ?_
      refine x_get fM_versions dM_forget_47 H.1 rfl ?_
      refine x_iload_n dM_forget_50 rfl ?_
      refine x_dup2 dM_forget_51 rfl rfl ?_
      refine x_iald c dM_forget_52 H.a9 (by simp only [pk_mul, nI_add]) (by omega) (by decide) ?_
      refine x_iconst (v := (nI 1)) dM_forget_53 (by decide) ?_
      refine x_isub dM_forget_54 ?_
      refine x_top (v' := .int (nI (n + 1))) (by show Value.int (nI (qI μ 9 c) - nI 1) = _; rw [pk_sub (by omega), show qI μ 9 c - 1 = n + 1 by omega]) ?_
      refine x_iast c dM_forget_55 H.a9 (by omega) (by simp only [pk_mul, nI_add]) (by omega) (by decide) ?_
      refine x_iinc (v := nI (g + 1)) dM_forget_56 rfl (by rw [nI_succ]; rfl) (Nat.le_of_ble_eq_true rfl) ?_
      refine x_iconst (v := (nI 0)) dM_forget_59 (by decide) ?_
      refine x_istore dM_forget_60 (Nat.le_of_ble_eq_true rfl) ?_
      exact x_loc _ (xac rfl (xac rfl (xac rfl (xac rfl (xac rfl xan))))) k
    · rw [show mwh fl c (n + 1) g μ = (μ, g) from if_neg hz] at K
      obtain ⟨h'', k, H''⟩ := K h H
      refine ⟨h'', ?_, H''⟩
      refine x_aload_n dM_forget_20 rfl ?_
      refine x_get fM_versions dM_forget_21 H.1 rfl ?_
      refine x_iload_n dM_forget_24 rfl ?_
      refine x_iald c dM_forget_25 H.a9 (by simp only [pk_mul, nI_add]) (by omega) (by decide) ?_
      refine x_iconst (v := (nI 1)) dM_forget_26 (by decide) ?_
      refine x_icmp_le 138 dM_forget_27 (by decide) (fun hq => absurd hq (nI_ge (show 1 < qI μ 9 c by omega) (by omega))) (fun _ => ?_)
      refine x_aload_n dM_forget_30 rfl ?_
      refine x_get fM_at dM_forget_31 H.1 rfl ?_
      refine x_sipush (v := (nI 520)) dM_forget_34 (by decide) ?_
      refine x_iload_n dM_forget_37 rfl ?_
      refine x_imul dM_forget_38 ?_
      refine x_iconst (v := (nI 1)) dM_forget_39 (by decide) ?_
      refine x_iadd dM_forget_40 ?_
      refine x_iald (520 * c + 1) dM_forget_41 H.a10 (by simp only [pk_mul, nI_add]) (by omega) (by decide) ?_
      refine x_iload_n dM_forget_42 rfl ?_
      refine x_icmp_gt 138 dM_forget_43 (by decide) (fun _ => ?_) (fun hq => absurd (nI_lt (Nat.lt_of_not_le hz) (hat _)) hq)
      exact k
theorem m_fgt_for {fl : Nat} (hb : E.2.2.1 ≤ m) (hfl : fl < 2 ^ 31) : ∀ (n c g : Nat) (μ : qS) (h : xH), c + n = 16 → (∀ c', c ≤ c' → c' < 16 → 1 ≤ qI μ 9 c' ∧ qI μ 9 c' ≤ 500) → (∀ j, qI μ 10 j < 2 ^ 31) → QP m h0 μ h →
    ∃ h'', xG E (d + 2) mM_forget 14 [(3, .int (nI c)), (1, .int (nI g)), (2, .int (nI fl)), (0, .ref m)] [] true h (true, .inl (some (.int (nI (mfor fl n c (μ, g)).2))), h'') ∧ QP m h0 (mfor fl n c (μ, g)).1 h'' := by
  intro n
  induction n with
  | zero =>
    intro c g μ h hc hv hat H
    obtain rfl : c = 16 := by omega
    refine ⟨_, ?_, H⟩
    refine x_iload_n dM_forget_14 rfl ?_
    refine x_bipush (v := (nI 16)) dM_forget_15 (by decide) ?_
    refine x_icmp_ge 144 dM_forget_17 (by decide) (fun _ => ?_) (fun hq => absurd (nI_le (by omega) (by omega)) hq)
    refine x_iload_n dM_forget_144 rfl ?_
    exact x_iret rfl dM_forget_145
  | succ n ih =>
    intro c g μ h hc hv hat H
    have hvc := hv c (Nat.le_refl _) (by omega)
    have e : mfor fl (n + 1) c (μ, g) = mfor fl n (c + 1) ((mwh fl c (qI μ 9 c - 1) g μ).1, (mwh fl c (qI μ 9 c - 1) g μ).2) := rfl
    rw [e]
    obtain ⟨h'', k, H''⟩ := m_fgt_while (E := E) (d := d) (o := .inl (some (.int (nI (mfor fl n (c + 1) ((mwh fl c (qI μ 9 c - 1) g μ).1, (mwh fl c (qI μ 9 c - 1) g μ).2)).2)))) (μf := (mfor fl n (c + 1) ((mwh fl c (qI μ 9 c - 1) g μ).1, (mwh fl c (qI μ 9 c - 1) g μ).2)).1) hb (show c < 16 by omega) hfl (qI μ 9 c - 1) g μ h (by omega) hvc.2 hat H (fun h' H' => by
      obtain ⟨h2, k2, H2⟩ := ih (c + 1) (mwh fl c (qI μ 9 c - 1) g μ).2 (mwh fl c (qI μ 9 c - 1) g μ).1 h' (by omega) (fun c' g1 g2 => by rw [mwh_I fl c (by omega)]; exact hv c' (by omega) g2) (mwh_P (fun x => x < 2 ^ 31) fl c _ _ _ hat) H'
      refine ⟨h2, ?_, H2⟩
      refine x_iinc (v := nI (c + 1)) dM_forget_138 rfl (by rw [nI_succ]; rfl) (Nat.le_of_ble_eq_true rfl) ?_
      refine x_goto 14 dM_forget_141 (by decide) ?_
      exact x_loc _ (xac rfl (xac rfl (xac rfl (xac rfl xan)))) k2)
    refine ⟨h'', ?_, H''⟩
    refine x_iload_n dM_forget_14 rfl ?_
    refine x_bipush (v := (nI 16)) dM_forget_15 (by decide) ?_
    refine x_icmp_ge 144 dM_forget_17 (by decide) (fun hq => absurd hq (nI_ge (by omega) (by omega))) (fun _ => ?_)
    exact k
def qForget (μ : qS) : qS × Nat := mfor (mflo μ 16) 16 0 (sX μ 0, 0)
theorem m_forget {μ : qS} {h : xH} (hb : E.2.2.1 ≤ m) (H : QP m h0 μ h) (hk : qK μ < 2 ^ 31) (hs : ∀ t, t < 16 → qZ μ 1 t = true → qI μ 4 t < 2 ^ 31) (hv : ∀ c, c < 16 → 1 ≤ qI μ 9 c ∧ qI μ 9 c ≤ 500) (hat : ∀ j, qI μ 10 j < 2 ^ 31) : ∃ h', xG E (d + 2) mM_forget 0 [(0, .ref m)] [] false h (true, .inl (some (.int (nI (qForget μ).2))), h') ∧ QP m h0 (qForget μ).1 h' := by
  have H1 := H.x 0
  have hfl := mflo_le μ 16
  obtain ⟨h2, k2, H2⟩ := m_fgt_for (E := E) (d := d) (fl := mflo μ 16) hb (by omega) 16 0 0 (sX μ 0) _ rfl (fun c' _ g => hv c' g) hat H1
  refine ⟨h2, ?_, H2⟩
  refine x_aload_n dM_forget_0 rfl ?_
  refine x_iconst (v := (nI 0)) dM_forget_1 (by decide) ?_
  refine x_put fM_thrown dM_forget_2 H.1 (by omega) rfl rfl (Nat.le_of_ble_eq_true rfl) ?_
  refine x_iconst (v := (nI 0)) dM_forget_5 (by decide) ?_
  refine x_istore_n dM_forget_6 (Nat.le_of_ble_eq_true rfl) ?_
  refine x_aload_n dM_forget_7 rfl ?_
  refine x_callV0 cM_M_floor dM_forget_8 H1.1 (Nat.le_of_ble_eq_true rfl) (Nat.le_of_ble_eq_true rfl) (m_floor (d := d) H1 hk hs) ?_
  rw [mflo_X]
  refine x_istore_n dM_forget_11 (Nat.le_of_ble_eq_true rfl) ?_
  refine x_iconst (v := (nI 0)) dM_forget_12 (by decide) ?_
  refine x_istore_n dM_forget_13 (Nat.le_of_ble_eq_true rfl) ?_
  exact x_loc _ (xac rfl (xac rfl (xac rfl (xac rfl xan)))) k2
def mini : Nat → Nat → qS → qS
  | 0, _, μ => μ
  | n + 1, c, μ => mini n (c + 1) (sI μ 9 c 1)
def qNull : qS := (0, 0, fun _ _ => false, fun _ _ => 0, fun _ _ => 0)
def qInit : qS := mini 16 0 qNull
theorem m_init_loop (hb : E.2.2.1 ≤ m) : ∀ (n c : Nat) (μ : qS) (h : xH), c + n = 16 → QP m h0 μ h → ∃ h', xG E d mM_init 108 [(1, .int (nI c)), (0, .ref m)] [] true h (true, .inl none, h') ∧ QP m h0 (mini n c μ) h' := by
  intro n
  induction n with
  | zero =>
    intro c μ h hc H
    obtain rfl : c = 16 := by omega
    refine ⟨_, ?_, H⟩
    refine x_iload_n dM_init_108 rfl ?_
    refine x_bipush (v := (nI 16)) dM_init_109 (by decide) ?_
    refine x_icmp_ge 127 dM_init_111 (by decide) (fun _ => ?_) (fun hq => absurd (nI_le (by omega) (by omega)) hq)
    exact x_vret rfl dM_init_127
  | succ n ih =>
    intro c μ h hc H
    obtain ⟨h', k, H'⟩ := ih (c + 1) _ _ (by omega) (H.s9 c 1)
    refine ⟨h', ?_, H'⟩
    refine x_iload_n dM_init_108 rfl ?_
    refine x_bipush (v := (nI 16)) dM_init_109 (by decide) ?_
    refine x_icmp_ge 127 dM_init_111 (by decide) (fun hq => absurd hq (nI_ge (by omega) (by omega))) (fun _ => ?_)
    refine x_aload_n dM_init_114 rfl ?_
    refine x_get fM_versions dM_init_115 H.1 rfl ?_
    refine x_iload_n dM_init_118 rfl ?_
    refine x_iconst (v := (nI 1)) dM_init_119 (by decide) ?_
    refine x_iast c dM_init_120 H.a9 (by omega) (by simp only [pk_mul, nI_add]) (by omega) (by decide) ?_
    refine x_iinc (v := nI (c + 1)) dM_init_121 rfl (by rw [nI_succ]; rfl) (Nat.le_of_ble_eq_true rfl) ?_
    refine x_goto 108 dM_init_124 (by decide) ?_
    exact k
def IP0 (m : Nat) (g h : xH) : Prop := h.2.1 = m + 1 ∧ h.2.2 = g.2.2 + 0 ∧ (∀ q, q < m → h.1 q = g.1 q) ∧ h.1 m = some (.inr (3, [.int (nI 0), .int (nI 0), .null, .null, .null, .null, .null, .null, .null, .null, .null, .null, .null, .null]))
def IP1 (m : Nat) (g h : xH) : Prop := h.2.1 = m + 2 ∧ h.2.2 = g.2.2 + 16 ∧ (∀ q, q < m → h.1 q = g.1 q) ∧ h.1 m = some (.inr (3, [.int (nI 0), .int (nI 0), .ref (m + 1), .null, .null, .null, .null, .null, .null, .null, .null, .null, .null, .null])) ∧ h.1 (m + 1) = some (.inl (.boolean, 16, .inl (fun _ => 0)))
def IP2 (m : Nat) (g h : xH) : Prop := h.2.1 = m + 3 ∧ h.2.2 = g.2.2 + 272 ∧ (∀ q, q < m → h.1 q = g.1 q) ∧ h.1 m = some (.inr (3, [.int (nI 0), .int (nI 0), .ref (m + 1), .ref (m + 2), .null, .null, .null, .null, .null, .null, .null, .null, .null, .null])) ∧ h.1 (m + 1) = some (.inl (.boolean, 16, .inl (fun _ => 0))) ∧ h.1 (m + 2) = some (.inl (.boolean, 256, .inl (fun _ => 0)))
def IP3 (m : Nat) (g h : xH) : Prop := h.2.1 = m + 4 ∧ h.2.2 = g.2.2 + 2320 ∧ (∀ q, q < m → h.1 q = g.1 q) ∧ h.1 m = some (.inr (3, [.int (nI 0), .int (nI 0), .ref (m + 1), .ref (m + 2), .ref (m + 3), .null, .null, .null, .null, .null, .null, .null, .null, .null])) ∧ h.1 (m + 1) = some (.inl (.boolean, 16, .inl (fun _ => 0))) ∧ h.1 (m + 2) = some (.inl (.boolean, 256, .inl (fun _ => 0))) ∧ h.1 (m + 3) = some (.inl (.boolean, 2048, .inl (fun _ => 0)))
def IP4 (m : Nat) (g h : xH) : Prop := h.2.1 = m + 5 ∧ h.2.2 = g.2.2 + 2336 ∧ (∀ q, q < m → h.1 q = g.1 q) ∧ h.1 m = some (.inr (3, [.int (nI 0), .int (nI 0), .ref (m + 1), .ref (m + 2), .ref (m + 3), .ref (m + 4), .null, .null, .null, .null, .null, .null, .null, .null])) ∧ h.1 (m + 1) = some (.inl (.boolean, 16, .inl (fun _ => 0))) ∧ h.1 (m + 2) = some (.inl (.boolean, 256, .inl (fun _ => 0))) ∧ h.1 (m + 3) = some (.inl (.boolean, 2048, .inl (fun _ => 0))) ∧ h.1 (m + 4) = some (.inl (.int, 16, .inl (fun _ => 0)))
def IP5 (m : Nat) (g h : xH) : Prop := h.2.1 = m + 6 ∧ h.2.2 = g.2.2 + 2352 ∧ (∀ q, q < m → h.1 q = g.1 q) ∧ h.1 m = some (.inr (3, [.int (nI 0), .int (nI 0), .ref (m + 1), .ref (m + 2), .ref (m + 3), .ref (m + 4), .ref (m + 5), .null, .null, .null, .null, .null, .null, .null])) ∧ h.1 (m + 1) = some (.inl (.boolean, 16, .inl (fun _ => 0))) ∧ h.1 (m + 2) = some (.inl (.boolean, 256, .inl (fun _ => 0))) ∧ h.1 (m + 3) = some (.inl (.boolean, 2048, .inl (fun _ => 0))) ∧ h.1 (m + 4) = some (.inl (.int, 16, .inl (fun _ => 0))) ∧ h.1 (m + 5) = some (.inl (.int, 16, .inl (fun _ => 0)))
def IP6 (m : Nat) (g h : xH) : Prop := h.2.1 = m + 7 ∧ h.2.2 = g.2.2 + 2368 ∧ (∀ q, q < m → h.1 q = g.1 q) ∧ h.1 m = some (.inr (3, [.int (nI 0), .int (nI 0), .ref (m + 1), .ref (m + 2), .ref (m + 3), .ref (m + 4), .ref (m + 5), .ref (m + 6), .null, .null, .null, .null, .null, .null])) ∧ h.1 (m + 1) = some (.inl (.boolean, 16, .inl (fun _ => 0))) ∧ h.1 (m + 2) = some (.inl (.boolean, 256, .inl (fun _ => 0))) ∧ h.1 (m + 3) = some (.inl (.boolean, 2048, .inl (fun _ => 0))) ∧ h.1 (m + 4) = some (.inl (.int, 16, .inl (fun _ => 0))) ∧ h.1 (m + 5) = some (.inl (.int, 16, .inl (fun _ => 0))) ∧ h.1 (m + 6) = some (.inl (.int, 16, .inl (fun _ => 0)))
def IP7 (m : Nat) (g h : xH) : Prop := h.2.1 = m + 8 ∧ h.2.2 = g.2.2 + 2624 ∧ (∀ q, q < m → h.1 q = g.1 q) ∧ h.1 m = some (.inr (3, [.int (nI 0), .int (nI 0), .ref (m + 1), .ref (m + 2), .ref (m + 3), .ref (m + 4), .ref (m + 5), .ref (m + 6), .ref (m + 7), .null, .null, .null, .null, .null])) ∧ h.1 (m + 1) = some (.inl (.boolean, 16, .inl (fun _ => 0))) ∧ h.1 (m + 2) = some (.inl (.boolean, 256, .inl (fun _ => 0))) ∧ h.1 (m + 3) = some (.inl (.boolean, 2048, .inl (fun _ => 0))) ∧ h.1 (m + 4) = some (.inl (.int, 16, .inl (fun _ => 0))) ∧ h.1 (m + 5) = some (.inl (.int, 16, .inl (fun _ => 0))) ∧ h.1 (m + 6) = some (.inl (.int, 16, .inl (fun _ => 0))) ∧ h.1 (m + 7) = some (.inl (.long, 256, .inr (.inl (fun _ => 0))))
def IP8 (m : Nat) (g h : xH) : Prop := h.2.1 = m + 9 ∧ h.2.2 = g.2.2 + 4672 ∧ (∀ q, q < m → h.1 q = g.1 q) ∧ h.1 m = some (.inr (3, [.int (nI 0), .int (nI 0), .ref (m + 1), .ref (m + 2), .ref (m + 3), .ref (m + 4), .ref (m + 5), .ref (m + 6), .ref (m + 7), .ref (m + 8), .null, .null, .null, .null])) ∧ h.1 (m + 1) = some (.inl (.boolean, 16, .inl (fun _ => 0))) ∧ h.1 (m + 2) = some (.inl (.boolean, 256, .inl (fun _ => 0))) ∧ h.1 (m + 3) = some (.inl (.boolean, 2048, .inl (fun _ => 0))) ∧ h.1 (m + 4) = some (.inl (.int, 16, .inl (fun _ => 0))) ∧ h.1 (m + 5) = some (.inl (.int, 16, .inl (fun _ => 0))) ∧ h.1 (m + 6) = some (.inl (.int, 16, .inl (fun _ => 0))) ∧ h.1 (m + 7) = some (.inl (.long, 256, .inr (.inl (fun _ => 0)))) ∧ h.1 (m + 8) = some (.inl (.long, 2048, .inr (.inl (fun _ => 0))))
def IP9 (m : Nat) (g h : xH) : Prop := h.2.1 = m + 10 ∧ h.2.2 = g.2.2 + 4688 ∧ (∀ q, q < m → h.1 q = g.1 q) ∧ h.1 m = some (.inr (3, [.int (nI 0), .int (nI 0), .ref (m + 1), .ref (m + 2), .ref (m + 3), .ref (m + 4), .ref (m + 5), .ref (m + 6), .ref (m + 7), .ref (m + 8), .ref (m + 9), .null, .null, .null])) ∧ h.1 (m + 1) = some (.inl (.boolean, 16, .inl (fun _ => 0))) ∧ h.1 (m + 2) = some (.inl (.boolean, 256, .inl (fun _ => 0))) ∧ h.1 (m + 3) = some (.inl (.boolean, 2048, .inl (fun _ => 0))) ∧ h.1 (m + 4) = some (.inl (.int, 16, .inl (fun _ => 0))) ∧ h.1 (m + 5) = some (.inl (.int, 16, .inl (fun _ => 0))) ∧ h.1 (m + 6) = some (.inl (.int, 16, .inl (fun _ => 0))) ∧ h.1 (m + 7) = some (.inl (.long, 256, .inr (.inl (fun _ => 0)))) ∧ h.1 (m + 8) = some (.inl (.long, 2048, .inr (.inl (fun _ => 0)))) ∧ h.1 (m + 9) = some (.inl (.int, 16, .inl (fun _ => 0)))
def IP10 (m : Nat) (g h : xH) : Prop := h.2.1 = m + 11 ∧ h.2.2 = g.2.2 + 13008 ∧ (∀ q, q < m → h.1 q = g.1 q) ∧ h.1 m = some (.inr (3, [.int (nI 0), .int (nI 0), .ref (m + 1), .ref (m + 2), .ref (m + 3), .ref (m + 4), .ref (m + 5), .ref (m + 6), .ref (m + 7), .ref (m + 8), .ref (m + 9), .ref (m + 10), .null, .null])) ∧ h.1 (m + 1) = some (.inl (.boolean, 16, .inl (fun _ => 0))) ∧ h.1 (m + 2) = some (.inl (.boolean, 256, .inl (fun _ => 0))) ∧ h.1 (m + 3) = some (.inl (.boolean, 2048, .inl (fun _ => 0))) ∧ h.1 (m + 4) = some (.inl (.int, 16, .inl (fun _ => 0))) ∧ h.1 (m + 5) = some (.inl (.int, 16, .inl (fun _ => 0))) ∧ h.1 (m + 6) = some (.inl (.int, 16, .inl (fun _ => 0))) ∧ h.1 (m + 7) = some (.inl (.long, 256, .inr (.inl (fun _ => 0)))) ∧ h.1 (m + 8) = some (.inl (.long, 2048, .inr (.inl (fun _ => 0)))) ∧ h.1 (m + 9) = some (.inl (.int, 16, .inl (fun _ => 0))) ∧ h.1 (m + 10) = some (.inl (.int, 8320, .inl (fun _ => 0)))
def IP11 (m : Nat) (g h : xH) : Prop := h.2.1 = m + 12 ∧ h.2.2 = g.2.2 + 13024 ∧ (∀ q, q < m → h.1 q = g.1 q) ∧ h.1 m = some (.inr (3, [.int (nI 0), .int (nI 0), .ref (m + 1), .ref (m + 2), .ref (m + 3), .ref (m + 4), .ref (m + 5), .ref (m + 6), .ref (m + 7), .ref (m + 8), .ref (m + 9), .ref (m + 10), .ref (m + 11), .null])) ∧ h.1 (m + 1) = some (.inl (.boolean, 16, .inl (fun _ => 0))) ∧ h.1 (m + 2) = some (.inl (.boolean, 256, .inl (fun _ => 0))) ∧ h.1 (m + 3) = some (.inl (.boolean, 2048, .inl (fun _ => 0))) ∧ h.1 (m + 4) = some (.inl (.int, 16, .inl (fun _ => 0))) ∧ h.1 (m + 5) = some (.inl (.int, 16, .inl (fun _ => 0))) ∧ h.1 (m + 6) = some (.inl (.int, 16, .inl (fun _ => 0))) ∧ h.1 (m + 7) = some (.inl (.long, 256, .inr (.inl (fun _ => 0)))) ∧ h.1 (m + 8) = some (.inl (.long, 2048, .inr (.inl (fun _ => 0)))) ∧ h.1 (m + 9) = some (.inl (.int, 16, .inl (fun _ => 0))) ∧ h.1 (m + 10) = some (.inl (.int, 8320, .inl (fun _ => 0))) ∧ h.1 (m + 11) = some (.inl (.int, 16, .inl (fun _ => 0)))
def IP12 (m : Nat) (g h : xH) : Prop := h.2.1 = m + 13 ∧ h.2.2 = g.2.2 + 21344 ∧ (∀ q, q < m → h.1 q = g.1 q) ∧ h.1 m = some (.inr (3, [.int (nI 0), .int (nI 0), .ref (m + 1), .ref (m + 2), .ref (m + 3), .ref (m + 4), .ref (m + 5), .ref (m + 6), .ref (m + 7), .ref (m + 8), .ref (m + 9), .ref (m + 10), .ref (m + 11), .ref (m + 12)])) ∧ h.1 (m + 1) = some (.inl (.boolean, 16, .inl (fun _ => 0))) ∧ h.1 (m + 2) = some (.inl (.boolean, 256, .inl (fun _ => 0))) ∧ h.1 (m + 3) = some (.inl (.boolean, 2048, .inl (fun _ => 0))) ∧ h.1 (m + 4) = some (.inl (.int, 16, .inl (fun _ => 0))) ∧ h.1 (m + 5) = some (.inl (.int, 16, .inl (fun _ => 0))) ∧ h.1 (m + 6) = some (.inl (.int, 16, .inl (fun _ => 0))) ∧ h.1 (m + 7) = some (.inl (.long, 256, .inr (.inl (fun _ => 0)))) ∧ h.1 (m + 8) = some (.inl (.long, 2048, .inr (.inl (fun _ => 0)))) ∧ h.1 (m + 9) = some (.inl (.int, 16, .inl (fun _ => 0))) ∧ h.1 (m + 10) = some (.inl (.int, 8320, .inl (fun _ => 0))) ∧ h.1 (m + 11) = some (.inl (.int, 16, .inl (fun _ => 0))) ∧ h.1 (m + 12) = some (.inl (.long, 8320, .inr (.inl (fun _ => 0))))
theorem m_init_12 {g h : xH} (hb : E.2.2.1 ≤ m) (I : IP12 m g h) : ∃ h', xG E d mM_init 106 [(0, .ref m)] [] true h (true, .inl none, h') ∧ QP m h' qInit h' ∧ (∀ q, q < m → h'.1 q = g.1 q) ∧ h'.2.1 = m + 13 ∧ h'.2.2 = g.2.2 + 21344 := by
  obtain ⟨z, u, fr, o0, o1, o2, o3, o4, o5, o6, o7, o8, o9, o10, o11, o12⟩ := I
  have H : QP m h qNull h := ⟨o0, ⟨o1, o2, o3, o4, o5, o6, o7, o8, o9, o10, o11, o12⟩, fun _ _ => rfl, rfl, rfl⟩
  obtain ⟨h', k, H'⟩ := m_init_loop (E := E) (d := d) hb 16 0 qNull h rfl H
  refine ⟨h', ?_, ⟨H'.1, H'.2.1, fun _ _ => rfl, rfl, rfl⟩, fun q hq => (H'.2.2.1 q (Or.inl hq)).trans (fr q hq), H'.2.2.2.1.trans z, H'.2.2.2.2.trans u⟩
  refine x_iconst (v := (nI 0)) dM_init_106 (by decide) ?_
  refine x_istore_n dM_init_107 (Nat.le_of_ble_eq_true rfl) ?_
  exact k
theorem m_init_11 {g h : xH} (hb : E.2.2.1 ≤ m) (I : IP11 m g h) : ∃ h', xG E d mM_init 97 [(0, .ref m)] [] true h (true, .inl none, h') ∧ QP m h' qInit h' ∧ (∀ q, q < m → h'.1 q = g.1 q) ∧ h'.2.1 = m + 13 ∧ h'.2.2 = g.2.2 + 21344 := by
  obtain ⟨z, u, fr, o0, o1, o2, o3, o4, o5, o6, o7, o8, o9, o10, o11⟩ := I
  have e0 : (xadd h (.inl (.long, 8320, .inr (.inl (fun _ => 0)))) 8320).1 m = some (.inr (3, [.int (nI 0), .int (nI 0), .ref (m + 1), .ref (m + 2), .ref (m + 3), .ref (m + 4), .ref (m + 5), .ref (m + 6), .ref (m + 7), .ref (m + 8), .ref (m + 9), .ref (m + 10), .ref (m + 11), .null])) := (xadd_ne _ _ _ (by omega)).trans o0
  have I1 : IP12 m g (xset (xadd h (.inl (.long, 8320, .inr (.inl (fun _ => 0)))) 8320) m (.inr (3, [.int (nI 0), .int (nI 0), .ref (m + 1), .ref (m + 2), .ref (m + 3), .ref (m + 4), .ref (m + 5), .ref (m + 6), .ref (m + 7), .ref (m + 8), .ref (m + 9), .ref (m + 10), .ref (m + 11), .ref (m + 12)]))) := by
    refine ⟨by rw [xset_sz, xadd_sz]; omega, by rw [xset_us, xadd_us]; omega, fun q hq => ?_, xset_eq _ _ _, ?_, ?_, ?_, ?_, ?_, ?_, ?_, ?_, ?_, ?_, ?_, ?_⟩
    · rw [xset_ne _ _ (by omega), xadd_ne _ _ _ (by omega)]; exact fr q hq
    · rw [xset_ne _ _ (by omega), xadd_ne _ _ _ (by omega)]; exact o1
    · rw [xset_ne _ _ (by omega), xadd_ne _ _ _ (by omega)]; exact o2
    · rw [xset_ne _ _ (by omega), xadd_ne _ _ _ (by omega)]; exact o3
    · rw [xset_ne _ _ (by omega), xadd_ne _ _ _ (by omega)]; exact o4
    · rw [xset_ne _ _ (by omega), xadd_ne _ _ _ (by omega)]; exact o5
    · rw [xset_ne _ _ (by omega), xadd_ne _ _ _ (by omega)]; exact o6
    · rw [xset_ne _ _ (by omega), xadd_ne _ _ _ (by omega)]; exact o7
    · rw [xset_ne _ _ (by omega), xadd_ne _ _ _ (by omega)]; exact o8
    · rw [xset_ne _ _ (by omega), xadd_ne _ _ _ (by omega)]; exact o9
    · rw [xset_ne _ _ (by omega), xadd_ne _ _ _ (by omega)]; exact o10
    · rw [xset_ne _ _ (by omega), xadd_ne _ _ _ (by omega)]; exact o11
    · rw [xset_ne _ _ (by omega)]; have := xadd_eq h (.inl (.long, 8320, .inr (.inl (fun _ => 0)))) 8320; rw [z] at this; exact this
  obtain ⟨h', k, R⟩ := m_init_12 (E := E) (d := d) hb I1
  refine ⟨h', ?_, R⟩
  refine x_aload_n dM_init_97 rfl ?_
  refine x_sipush (v := (nI 8320)) dM_init_98 (by decide) ?_
  refine x_newl 8320 dM_init_101 kw_53 rfl (by decide) ?_
  rw [z]
  refine x_putF fM_was rfl dM_init_103 (fs := [.int (nI 0), .int (nI 0), .ref (m + 1), .ref (m + 2), .ref (m + 3), .ref (m + 4), .ref (m + 5), .ref (m + 6), .ref (m + 7), .ref (m + 8), .ref (m + 9), .ref (m + 10), .ref (m + 11), .null]) e0 hb rfl rfl (Nat.le_of_ble_eq_true rfl) ?_
  exact k
theorem m_init_10 {g h : xH} (hb : E.2.2.1 ≤ m) (I : IP10 m g h) : ∃ h', xG E d mM_init 89 [(0, .ref m)] [] true h (true, .inl none, h') ∧ QP m h' qInit h' ∧ (∀ q, q < m → h'.1 q = g.1 q) ∧ h'.2.1 = m + 13 ∧ h'.2.2 = g.2.2 + 21344 := by
  obtain ⟨z, u, fr, o0, o1, o2, o3, o4, o5, o6, o7, o8, o9, o10⟩ := I
  have e0 : (xadd h (.inl (.int, 16, .inl (fun _ => 0))) 16).1 m = some (.inr (3, [.int (nI 0), .int (nI 0), .ref (m + 1), .ref (m + 2), .ref (m + 3), .ref (m + 4), .ref (m + 5), .ref (m + 6), .ref (m + 7), .ref (m + 8), .ref (m + 9), .ref (m + 10), .null, .null])) := (xadd_ne _ _ _ (by omega)).trans o0
  have I1 : IP11 m g (xset (xadd h (.inl (.int, 16, .inl (fun _ => 0))) 16) m (.inr (3, [.int (nI 0), .int (nI 0), .ref (m + 1), .ref (m + 2), .ref (m + 3), .ref (m + 4), .ref (m + 5), .ref (m + 6), .ref (m + 7), .ref (m + 8), .ref (m + 9), .ref (m + 10), .ref (m + 11), .null]))) := by
    refine ⟨by rw [xset_sz, xadd_sz]; omega, by rw [xset_us, xadd_us]; omega, fun q hq => ?_, xset_eq _ _ _, ?_, ?_, ?_, ?_, ?_, ?_, ?_, ?_, ?_, ?_, ?_⟩
    · rw [xset_ne _ _ (by omega), xadd_ne _ _ _ (by omega)]; exact fr q hq
    · rw [xset_ne _ _ (by omega), xadd_ne _ _ _ (by omega)]; exact o1
    · rw [xset_ne _ _ (by omega), xadd_ne _ _ _ (by omega)]; exact o2
    · rw [xset_ne _ _ (by omega), xadd_ne _ _ _ (by omega)]; exact o3
    · rw [xset_ne _ _ (by omega), xadd_ne _ _ _ (by omega)]; exact o4
    · rw [xset_ne _ _ (by omega), xadd_ne _ _ _ (by omega)]; exact o5
    · rw [xset_ne _ _ (by omega), xadd_ne _ _ _ (by omega)]; exact o6
    · rw [xset_ne _ _ (by omega), xadd_ne _ _ _ (by omega)]; exact o7
    · rw [xset_ne _ _ (by omega), xadd_ne _ _ _ (by omega)]; exact o8
    · rw [xset_ne _ _ (by omega), xadd_ne _ _ _ (by omega)]; exact o9
    · rw [xset_ne _ _ (by omega), xadd_ne _ _ _ (by omega)]; exact o10
    · rw [xset_ne _ _ (by omega)]; have := xadd_eq h (.inl (.int, 16, .inl (fun _ => 0))) 16; rw [z] at this; exact this
  obtain ⟨h', k, R⟩ := m_init_11 (E := E) (d := d) hb I1
  refine ⟨h', ?_, R⟩
  refine x_aload_n dM_init_89 rfl ?_
  refine x_bipush (v := (nI 16)) dM_init_90 (by decide) ?_
  refine x_newi 16 dM_init_92 kw_52 rfl (by decide) ?_
  rw [z]
  refine x_putF fM_last rfl dM_init_94 (fs := [.int (nI 0), .int (nI 0), .ref (m + 1), .ref (m + 2), .ref (m + 3), .ref (m + 4), .ref (m + 5), .ref (m + 6), .ref (m + 7), .ref (m + 8), .ref (m + 9), .ref (m + 10), .null, .null]) e0 hb rfl rfl (Nat.le_of_ble_eq_true rfl) ?_
  exact k
theorem m_init_9 {g h : xH} (hb : E.2.2.1 ≤ m) (I : IP9 m g h) : ∃ h', xG E d mM_init 80 [(0, .ref m)] [] true h (true, .inl none, h') ∧ QP m h' qInit h' ∧ (∀ q, q < m → h'.1 q = g.1 q) ∧ h'.2.1 = m + 13 ∧ h'.2.2 = g.2.2 + 21344 := by
  obtain ⟨z, u, fr, o0, o1, o2, o3, o4, o5, o6, o7, o8, o9⟩ := I
  have e0 : (xadd h (.inl (.int, 8320, .inl (fun _ => 0))) 8320).1 m = some (.inr (3, [.int (nI 0), .int (nI 0), .ref (m + 1), .ref (m + 2), .ref (m + 3), .ref (m + 4), .ref (m + 5), .ref (m + 6), .ref (m + 7), .ref (m + 8), .ref (m + 9), .null, .null, .null])) := (xadd_ne _ _ _ (by omega)).trans o0
  have I1 : IP10 m g (xset (xadd h (.inl (.int, 8320, .inl (fun _ => 0))) 8320) m (.inr (3, [.int (nI 0), .int (nI 0), .ref (m + 1), .ref (m + 2), .ref (m + 3), .ref (m + 4), .ref (m + 5), .ref (m + 6), .ref (m + 7), .ref (m + 8), .ref (m + 9), .ref (m + 10), .null, .null]))) := by
    refine ⟨by rw [xset_sz, xadd_sz]; omega, by rw [xset_us, xadd_us]; omega, fun q hq => ?_, xset_eq _ _ _, ?_, ?_, ?_, ?_, ?_, ?_, ?_, ?_, ?_, ?_⟩
    · rw [xset_ne _ _ (by omega), xadd_ne _ _ _ (by omega)]; exact fr q hq
    · rw [xset_ne _ _ (by omega), xadd_ne _ _ _ (by omega)]; exact o1
    · rw [xset_ne _ _ (by omega), xadd_ne _ _ _ (by omega)]; exact o2
    · rw [xset_ne _ _ (by omega), xadd_ne _ _ _ (by omega)]; exact o3
    · rw [xset_ne _ _ (by omega), xadd_ne _ _ _ (by omega)]; exact o4
    · rw [xset_ne _ _ (by omega), xadd_ne _ _ _ (by omega)]; exact o5
    · rw [xset_ne _ _ (by omega), xadd_ne _ _ _ (by omega)]; exact o6
    · rw [xset_ne _ _ (by omega), xadd_ne _ _ _ (by omega)]; exact o7
    · rw [xset_ne _ _ (by omega), xadd_ne _ _ _ (by omega)]; exact o8
    · rw [xset_ne _ _ (by omega), xadd_ne _ _ _ (by omega)]; exact o9
    · rw [xset_ne _ _ (by omega)]; have := xadd_eq h (.inl (.int, 8320, .inl (fun _ => 0))) 8320; rw [z] at this; exact this
  obtain ⟨h', k, R⟩ := m_init_10 (E := E) (d := d) hb I1
  refine ⟨h', ?_, R⟩
  refine x_aload_n dM_init_80 rfl ?_
  refine x_sipush (v := (nI 8320)) dM_init_81 (by decide) ?_
  refine x_newi 8320 dM_init_84 kw_52 rfl (by decide) ?_
  rw [z]
  refine x_putF fM_at rfl dM_init_86 (fs := [.int (nI 0), .int (nI 0), .ref (m + 1), .ref (m + 2), .ref (m + 3), .ref (m + 4), .ref (m + 5), .ref (m + 6), .ref (m + 7), .ref (m + 8), .ref (m + 9), .null, .null, .null]) e0 hb rfl rfl (Nat.le_of_ble_eq_true rfl) ?_
  exact k
theorem m_init_8 {g h : xH} (hb : E.2.2.1 ≤ m) (I : IP8 m g h) : ∃ h', xG E d mM_init 72 [(0, .ref m)] [] true h (true, .inl none, h') ∧ QP m h' qInit h' ∧ (∀ q, q < m → h'.1 q = g.1 q) ∧ h'.2.1 = m + 13 ∧ h'.2.2 = g.2.2 + 21344 := by
  obtain ⟨z, u, fr, o0, o1, o2, o3, o4, o5, o6, o7, o8⟩ := I
  have e0 : (xadd h (.inl (.int, 16, .inl (fun _ => 0))) 16).1 m = some (.inr (3, [.int (nI 0), .int (nI 0), .ref (m + 1), .ref (m + 2), .ref (m + 3), .ref (m + 4), .ref (m + 5), .ref (m + 6), .ref (m + 7), .ref (m + 8), .null, .null, .null, .null])) := (xadd_ne _ _ _ (by omega)).trans o0
  have I1 : IP9 m g (xset (xadd h (.inl (.int, 16, .inl (fun _ => 0))) 16) m (.inr (3, [.int (nI 0), .int (nI 0), .ref (m + 1), .ref (m + 2), .ref (m + 3), .ref (m + 4), .ref (m + 5), .ref (m + 6), .ref (m + 7), .ref (m + 8), .ref (m + 9), .null, .null, .null]))) := by
    refine ⟨by rw [xset_sz, xadd_sz]; omega, by rw [xset_us, xadd_us]; omega, fun q hq => ?_, xset_eq _ _ _, ?_, ?_, ?_, ?_, ?_, ?_, ?_, ?_, ?_⟩
    · rw [xset_ne _ _ (by omega), xadd_ne _ _ _ (by omega)]; exact fr q hq
    · rw [xset_ne _ _ (by omega), xadd_ne _ _ _ (by omega)]; exact o1
    · rw [xset_ne _ _ (by omega), xadd_ne _ _ _ (by omega)]; exact o2
    · rw [xset_ne _ _ (by omega), xadd_ne _ _ _ (by omega)]; exact o3
    · rw [xset_ne _ _ (by omega), xadd_ne _ _ _ (by omega)]; exact o4
    · rw [xset_ne _ _ (by omega), xadd_ne _ _ _ (by omega)]; exact o5
    · rw [xset_ne _ _ (by omega), xadd_ne _ _ _ (by omega)]; exact o6
    · rw [xset_ne _ _ (by omega), xadd_ne _ _ _ (by omega)]; exact o7
    · rw [xset_ne _ _ (by omega), xadd_ne _ _ _ (by omega)]; exact o8
    · rw [xset_ne _ _ (by omega)]; have := xadd_eq h (.inl (.int, 16, .inl (fun _ => 0))) 16; rw [z] at this; exact this
  obtain ⟨h', k, R⟩ := m_init_9 (E := E) (d := d) hb I1
  refine ⟨h', ?_, R⟩
  refine x_aload_n dM_init_72 rfl ?_
  refine x_bipush (v := (nI 16)) dM_init_73 (by decide) ?_
  refine x_newi 16 dM_init_75 kw_52 rfl (by decide) ?_
  rw [z]
  refine x_putF fM_versions rfl dM_init_77 (fs := [.int (nI 0), .int (nI 0), .ref (m + 1), .ref (m + 2), .ref (m + 3), .ref (m + 4), .ref (m + 5), .ref (m + 6), .ref (m + 7), .ref (m + 8), .null, .null, .null, .null]) e0 hb rfl rfl (Nat.le_of_ble_eq_true rfl) ?_
  exact k
theorem m_init_7 {g h : xH} (hb : E.2.2.1 ≤ m) (I : IP7 m g h) : ∃ h', xG E d mM_init 63 [(0, .ref m)] [] true h (true, .inl none, h') ∧ QP m h' qInit h' ∧ (∀ q, q < m → h'.1 q = g.1 q) ∧ h'.2.1 = m + 13 ∧ h'.2.2 = g.2.2 + 21344 := by
  obtain ⟨z, u, fr, o0, o1, o2, o3, o4, o5, o6, o7⟩ := I
  have e0 : (xadd h (.inl (.long, 2048, .inr (.inl (fun _ => 0)))) 2048).1 m = some (.inr (3, [.int (nI 0), .int (nI 0), .ref (m + 1), .ref (m + 2), .ref (m + 3), .ref (m + 4), .ref (m + 5), .ref (m + 6), .ref (m + 7), .null, .null, .null, .null, .null])) := (xadd_ne _ _ _ (by omega)).trans o0
  have I1 : IP8 m g (xset (xadd h (.inl (.long, 2048, .inr (.inl (fun _ => 0)))) 2048) m (.inr (3, [.int (nI 0), .int (nI 0), .ref (m + 1), .ref (m + 2), .ref (m + 3), .ref (m + 4), .ref (m + 5), .ref (m + 6), .ref (m + 7), .ref (m + 8), .null, .null, .null, .null]))) := by
    refine ⟨by rw [xset_sz, xadd_sz]; omega, by rw [xset_us, xadd_us]; omega, fun q hq => ?_, xset_eq _ _ _, ?_, ?_, ?_, ?_, ?_, ?_, ?_, ?_⟩
    · rw [xset_ne _ _ (by omega), xadd_ne _ _ _ (by omega)]; exact fr q hq
    · rw [xset_ne _ _ (by omega), xadd_ne _ _ _ (by omega)]; exact o1
    · rw [xset_ne _ _ (by omega), xadd_ne _ _ _ (by omega)]; exact o2
    · rw [xset_ne _ _ (by omega), xadd_ne _ _ _ (by omega)]; exact o3
    · rw [xset_ne _ _ (by omega), xadd_ne _ _ _ (by omega)]; exact o4
    · rw [xset_ne _ _ (by omega), xadd_ne _ _ _ (by omega)]; exact o5
    · rw [xset_ne _ _ (by omega), xadd_ne _ _ _ (by omega)]; exact o6
    · rw [xset_ne _ _ (by omega), xadd_ne _ _ _ (by omega)]; exact o7
    · rw [xset_ne _ _ (by omega)]; have := xadd_eq h (.inl (.long, 2048, .inr (.inl (fun _ => 0)))) 2048; rw [z] at this; exact this
  obtain ⟨h', k, R⟩ := m_init_8 (E := E) (d := d) hb I1
  refine ⟨h', ?_, R⟩
  refine x_aload_n dM_init_63 rfl ?_
  refine x_sipush (v := (nI 2048)) dM_init_64 (by decide) ?_
  refine x_newl 2048 dM_init_67 kw_53 rfl (by decide) ?_
  rw [z]
  refine x_putF fM_value rfl dM_init_69 (fs := [.int (nI 0), .int (nI 0), .ref (m + 1), .ref (m + 2), .ref (m + 3), .ref (m + 4), .ref (m + 5), .ref (m + 6), .ref (m + 7), .null, .null, .null, .null, .null]) e0 hb rfl rfl (Nat.le_of_ble_eq_true rfl) ?_
  exact k
theorem m_init_6 {g h : xH} (hb : E.2.2.1 ≤ m) (I : IP6 m g h) : ∃ h', xG E d mM_init 54 [(0, .ref m)] [] true h (true, .inl none, h') ∧ QP m h' qInit h' ∧ (∀ q, q < m → h'.1 q = g.1 q) ∧ h'.2.1 = m + 13 ∧ h'.2.2 = g.2.2 + 21344 := by
  obtain ⟨z, u, fr, o0, o1, o2, o3, o4, o5, o6⟩ := I
  have e0 : (xadd h (.inl (.long, 256, .inr (.inl (fun _ => 0)))) 256).1 m = some (.inr (3, [.int (nI 0), .int (nI 0), .ref (m + 1), .ref (m + 2), .ref (m + 3), .ref (m + 4), .ref (m + 5), .ref (m + 6), .null, .null, .null, .null, .null, .null])) := (xadd_ne _ _ _ (by omega)).trans o0
  have I1 : IP7 m g (xset (xadd h (.inl (.long, 256, .inr (.inl (fun _ => 0)))) 256) m (.inr (3, [.int (nI 0), .int (nI 0), .ref (m + 1), .ref (m + 2), .ref (m + 3), .ref (m + 4), .ref (m + 5), .ref (m + 6), .ref (m + 7), .null, .null, .null, .null, .null]))) := by
    refine ⟨by rw [xset_sz, xadd_sz]; omega, by rw [xset_us, xadd_us]; omega, fun q hq => ?_, xset_eq _ _ _, ?_, ?_, ?_, ?_, ?_, ?_, ?_⟩
    · rw [xset_ne _ _ (by omega), xadd_ne _ _ _ (by omega)]; exact fr q hq
    · rw [xset_ne _ _ (by omega), xadd_ne _ _ _ (by omega)]; exact o1
    · rw [xset_ne _ _ (by omega), xadd_ne _ _ _ (by omega)]; exact o2
    · rw [xset_ne _ _ (by omega), xadd_ne _ _ _ (by omega)]; exact o3
    · rw [xset_ne _ _ (by omega), xadd_ne _ _ _ (by omega)]; exact o4
    · rw [xset_ne _ _ (by omega), xadd_ne _ _ _ (by omega)]; exact o5
    · rw [xset_ne _ _ (by omega), xadd_ne _ _ _ (by omega)]; exact o6
    · rw [xset_ne _ _ (by omega)]; have := xadd_eq h (.inl (.long, 256, .inr (.inl (fun _ => 0)))) 256; rw [z] at this; exact this
  obtain ⟨h', k, R⟩ := m_init_7 (E := E) (d := d) hb I1
  refine ⟨h', ?_, R⟩
  refine x_aload_n dM_init_54 rfl ?_
  refine x_sipush (v := (nI 256)) dM_init_55 (by decide) ?_
  refine x_newl 256 dM_init_58 kw_53 rfl (by decide) ?_
  rw [z]
  refine x_putF fM_began rfl dM_init_60 (fs := [.int (nI 0), .int (nI 0), .ref (m + 1), .ref (m + 2), .ref (m + 3), .ref (m + 4), .ref (m + 5), .ref (m + 6), .null, .null, .null, .null, .null, .null]) e0 hb rfl rfl (Nat.le_of_ble_eq_true rfl) ?_
  exact k
theorem m_init_5 {g h : xH} (hb : E.2.2.1 ≤ m) (I : IP5 m g h) : ∃ h', xG E d mM_init 46 [(0, .ref m)] [] true h (true, .inl none, h') ∧ QP m h' qInit h' ∧ (∀ q, q < m → h'.1 q = g.1 q) ∧ h'.2.1 = m + 13 ∧ h'.2.2 = g.2.2 + 21344 := by
  obtain ⟨z, u, fr, o0, o1, o2, o3, o4, o5⟩ := I
  have e0 : (xadd h (.inl (.int, 16, .inl (fun _ => 0))) 16).1 m = some (.inr (3, [.int (nI 0), .int (nI 0), .ref (m + 1), .ref (m + 2), .ref (m + 3), .ref (m + 4), .ref (m + 5), .null, .null, .null, .null, .null, .null, .null])) := (xadd_ne _ _ _ (by omega)).trans o0
  have I1 : IP6 m g (xset (xadd h (.inl (.int, 16, .inl (fun _ => 0))) 16) m (.inr (3, [.int (nI 0), .int (nI 0), .ref (m + 1), .ref (m + 2), .ref (m + 3), .ref (m + 4), .ref (m + 5), .ref (m + 6), .null, .null, .null, .null, .null, .null]))) := by
    refine ⟨by rw [xset_sz, xadd_sz]; omega, by rw [xset_us, xadd_us]; omega, fun q hq => ?_, xset_eq _ _ _, ?_, ?_, ?_, ?_, ?_, ?_⟩
    · rw [xset_ne _ _ (by omega), xadd_ne _ _ _ (by omega)]; exact fr q hq
    · rw [xset_ne _ _ (by omega), xadd_ne _ _ _ (by omega)]; exact o1
    · rw [xset_ne _ _ (by omega), xadd_ne _ _ _ (by omega)]; exact o2
    · rw [xset_ne _ _ (by omega), xadd_ne _ _ _ (by omega)]; exact o3
    · rw [xset_ne _ _ (by omega), xadd_ne _ _ _ (by omega)]; exact o4
    · rw [xset_ne _ _ (by omega), xadd_ne _ _ _ (by omega)]; exact o5
    · rw [xset_ne _ _ (by omega)]; have := xadd_eq h (.inl (.int, 16, .inl (fun _ => 0))) 16; rw [z] at this; exact this
  obtain ⟨h', k, R⟩ := m_init_6 (E := E) (d := d) hb I1
  refine ⟨h', ?_, R⟩
  refine x_aload_n dM_init_46 rfl ?_
  refine x_bipush (v := (nI 16)) dM_init_47 (by decide) ?_
  refine x_newi 16 dM_init_49 kw_52 rfl (by decide) ?_
  rw [z]
  refine x_putF fM_layers rfl dM_init_51 (fs := [.int (nI 0), .int (nI 0), .ref (m + 1), .ref (m + 2), .ref (m + 3), .ref (m + 4), .ref (m + 5), .null, .null, .null, .null, .null, .null, .null]) e0 hb rfl rfl (Nat.le_of_ble_eq_true rfl) ?_
  exact k
theorem m_init_4 {g h : xH} (hb : E.2.2.1 ≤ m) (I : IP4 m g h) : ∃ h', xG E d mM_init 38 [(0, .ref m)] [] true h (true, .inl none, h') ∧ QP m h' qInit h' ∧ (∀ q, q < m → h'.1 q = g.1 q) ∧ h'.2.1 = m + 13 ∧ h'.2.2 = g.2.2 + 21344 := by
  obtain ⟨z, u, fr, o0, o1, o2, o3, o4⟩ := I
  have e0 : (xadd h (.inl (.int, 16, .inl (fun _ => 0))) 16).1 m = some (.inr (3, [.int (nI 0), .int (nI 0), .ref (m + 1), .ref (m + 2), .ref (m + 3), .ref (m + 4), .null, .null, .null, .null, .null, .null, .null, .null])) := (xadd_ne _ _ _ (by omega)).trans o0
  have I1 : IP5 m g (xset (xadd h (.inl (.int, 16, .inl (fun _ => 0))) 16) m (.inr (3, [.int (nI 0), .int (nI 0), .ref (m + 1), .ref (m + 2), .ref (m + 3), .ref (m + 4), .ref (m + 5), .null, .null, .null, .null, .null, .null, .null]))) := by
    refine ⟨by rw [xset_sz, xadd_sz]; omega, by rw [xset_us, xadd_us]; omega, fun q hq => ?_, xset_eq _ _ _, ?_, ?_, ?_, ?_, ?_⟩
    · rw [xset_ne _ _ (by omega), xadd_ne _ _ _ (by omega)]; exact fr q hq
    · rw [xset_ne _ _ (by omega), xadd_ne _ _ _ (by omega)]; exact o1
    · rw [xset_ne _ _ (by omega), xadd_ne _ _ _ (by omega)]; exact o2
    · rw [xset_ne _ _ (by omega), xadd_ne _ _ _ (by omega)]; exact o3
    · rw [xset_ne _ _ (by omega), xadd_ne _ _ _ (by omega)]; exact o4
    · rw [xset_ne _ _ (by omega)]; have := xadd_eq h (.inl (.int, 16, .inl (fun _ => 0))) 16; rw [z] at this; exact this
  obtain ⟨h', k, R⟩ := m_init_5 (E := E) (d := d) hb I1
  refine ⟨h', ?_, R⟩
  refine x_aload_n dM_init_38 rfl ?_
  refine x_bipush (v := (nI 16)) dM_init_39 (by decide) ?_
  refine x_newi 16 dM_init_41 kw_52 rfl (by decide) ?_
  rw [z]
  refine x_putF fM_kind rfl dM_init_43 (fs := [.int (nI 0), .int (nI 0), .ref (m + 1), .ref (m + 2), .ref (m + 3), .ref (m + 4), .null, .null, .null, .null, .null, .null, .null, .null]) e0 hb rfl rfl (Nat.le_of_ble_eq_true rfl) ?_
  exact k
theorem m_init_3 {g h : xH} (hb : E.2.2.1 ≤ m) (I : IP3 m g h) : ∃ h', xG E d mM_init 30 [(0, .ref m)] [] true h (true, .inl none, h') ∧ QP m h' qInit h' ∧ (∀ q, q < m → h'.1 q = g.1 q) ∧ h'.2.1 = m + 13 ∧ h'.2.2 = g.2.2 + 21344 := by
  obtain ⟨z, u, fr, o0, o1, o2, o3⟩ := I
  have e0 : (xadd h (.inl (.int, 16, .inl (fun _ => 0))) 16).1 m = some (.inr (3, [.int (nI 0), .int (nI 0), .ref (m + 1), .ref (m + 2), .ref (m + 3), .null, .null, .null, .null, .null, .null, .null, .null, .null])) := (xadd_ne _ _ _ (by omega)).trans o0
  have I1 : IP4 m g (xset (xadd h (.inl (.int, 16, .inl (fun _ => 0))) 16) m (.inr (3, [.int (nI 0), .int (nI 0), .ref (m + 1), .ref (m + 2), .ref (m + 3), .ref (m + 4), .null, .null, .null, .null, .null, .null, .null, .null]))) := by
    refine ⟨by rw [xset_sz, xadd_sz]; omega, by rw [xset_us, xadd_us]; omega, fun q hq => ?_, xset_eq _ _ _, ?_, ?_, ?_, ?_⟩
    · rw [xset_ne _ _ (by omega), xadd_ne _ _ _ (by omega)]; exact fr q hq
    · rw [xset_ne _ _ (by omega), xadd_ne _ _ _ (by omega)]; exact o1
    · rw [xset_ne _ _ (by omega), xadd_ne _ _ _ (by omega)]; exact o2
    · rw [xset_ne _ _ (by omega), xadd_ne _ _ _ (by omega)]; exact o3
    · rw [xset_ne _ _ (by omega)]; have := xadd_eq h (.inl (.int, 16, .inl (fun _ => 0))) 16; rw [z] at this; exact this
  obtain ⟨h', k, R⟩ := m_init_4 (E := E) (d := d) hb I1
  refine ⟨h', ?_, R⟩
  refine x_aload_n dM_init_30 rfl ?_
  refine x_bipush (v := (nI 16)) dM_init_31 (by decide) ?_
  refine x_newi 16 dM_init_33 kw_52 rfl (by decide) ?_
  rw [z]
  refine x_putF fM_start rfl dM_init_35 (fs := [.int (nI 0), .int (nI 0), .ref (m + 1), .ref (m + 2), .ref (m + 3), .null, .null, .null, .null, .null, .null, .null, .null, .null]) e0 hb rfl rfl (Nat.le_of_ble_eq_true rfl) ?_
  exact k
theorem m_init_2 {g h : xH} (hb : E.2.2.1 ≤ m) (I : IP2 m g h) : ∃ h', xG E d mM_init 21 [(0, .ref m)] [] true h (true, .inl none, h') ∧ QP m h' qInit h' ∧ (∀ q, q < m → h'.1 q = g.1 q) ∧ h'.2.1 = m + 13 ∧ h'.2.2 = g.2.2 + 21344 := by
  obtain ⟨z, u, fr, o0, o1, o2⟩ := I
  have e0 : (xadd h (.inl (.boolean, 2048, .inl (fun _ => 0))) 2048).1 m = some (.inr (3, [.int (nI 0), .int (nI 0), .ref (m + 1), .ref (m + 2), .null, .null, .null, .null, .null, .null, .null, .null, .null, .null])) := (xadd_ne _ _ _ (by omega)).trans o0
  have I1 : IP3 m g (xset (xadd h (.inl (.boolean, 2048, .inl (fun _ => 0))) 2048) m (.inr (3, [.int (nI 0), .int (nI 0), .ref (m + 1), .ref (m + 2), .ref (m + 3), .null, .null, .null, .null, .null, .null, .null, .null, .null]))) := by
    refine ⟨by rw [xset_sz, xadd_sz]; omega, by rw [xset_us, xadd_us]; omega, fun q hq => ?_, xset_eq _ _ _, ?_, ?_, ?_⟩
    · rw [xset_ne _ _ (by omega), xadd_ne _ _ _ (by omega)]; exact fr q hq
    · rw [xset_ne _ _ (by omega), xadd_ne _ _ _ (by omega)]; exact o1
    · rw [xset_ne _ _ (by omega), xadd_ne _ _ _ (by omega)]; exact o2
    · rw [xset_ne _ _ (by omega)]; have := xadd_eq h (.inl (.boolean, 2048, .inl (fun _ => 0))) 2048; rw [z] at this; exact this
  obtain ⟨h', k, R⟩ := m_init_3 (E := E) (d := d) hb I1
  refine ⟨h', ?_, R⟩
  refine x_aload_n dM_init_21 rfl ?_
  refine x_sipush (v := (nI 2048)) dM_init_22 (by decide) ?_
  refine x_newz 2048 dM_init_25 kw_458 rfl (by decide) ?_
  rw [z]
  refine x_putF fM_wrote rfl dM_init_27 (fs := [.int (nI 0), .int (nI 0), .ref (m + 1), .ref (m + 2), .null, .null, .null, .null, .null, .null, .null, .null, .null, .null]) e0 hb rfl rfl (Nat.le_of_ble_eq_true rfl) ?_
  exact k
theorem m_init_1 {g h : xH} (hb : E.2.2.1 ≤ m) (I : IP1 m g h) : ∃ h', xG E d mM_init 12 [(0, .ref m)] [] true h (true, .inl none, h') ∧ QP m h' qInit h' ∧ (∀ q, q < m → h'.1 q = g.1 q) ∧ h'.2.1 = m + 13 ∧ h'.2.2 = g.2.2 + 21344 := by
  obtain ⟨z, u, fr, o0, o1⟩ := I
  have e0 : (xadd h (.inl (.boolean, 256, .inl (fun _ => 0))) 256).1 m = some (.inr (3, [.int (nI 0), .int (nI 0), .ref (m + 1), .null, .null, .null, .null, .null, .null, .null, .null, .null, .null, .null])) := (xadd_ne _ _ _ (by omega)).trans o0
  have I1 : IP2 m g (xset (xadd h (.inl (.boolean, 256, .inl (fun _ => 0))) 256) m (.inr (3, [.int (nI 0), .int (nI 0), .ref (m + 1), .ref (m + 2), .null, .null, .null, .null, .null, .null, .null, .null, .null, .null]))) := by
    refine ⟨by rw [xset_sz, xadd_sz]; omega, by rw [xset_us, xadd_us]; omega, fun q hq => ?_, xset_eq _ _ _, ?_, ?_⟩
    · rw [xset_ne _ _ (by omega), xadd_ne _ _ _ (by omega)]; exact fr q hq
    · rw [xset_ne _ _ (by omega), xadd_ne _ _ _ (by omega)]; exact o1
    · rw [xset_ne _ _ (by omega)]; have := xadd_eq h (.inl (.boolean, 256, .inl (fun _ => 0))) 256; rw [z] at this; exact this
  obtain ⟨h', k, R⟩ := m_init_2 (E := E) (d := d) hb I1
  refine ⟨h', ?_, R⟩
  refine x_aload_n dM_init_12 rfl ?_
  refine x_sipush (v := (nI 256)) dM_init_13 (by decide) ?_
  refine x_newz 256 dM_init_16 kw_458 rfl (by decide) ?_
  rw [z]
  refine x_putF fM_saw rfl dM_init_18 (fs := [.int (nI 0), .int (nI 0), .ref (m + 1), .null, .null, .null, .null, .null, .null, .null, .null, .null, .null, .null]) e0 hb rfl rfl (Nat.le_of_ble_eq_true rfl) ?_
  exact k
theorem m_init_0 {g h : xH} (hb : E.2.2.1 ≤ m) (I : IP0 m g h) : ∃ h', xG E d mM_init 4 [(0, .ref m)] [] true h (true, .inl none, h') ∧ QP m h' qInit h' ∧ (∀ q, q < m → h'.1 q = g.1 q) ∧ h'.2.1 = m + 13 ∧ h'.2.2 = g.2.2 + 21344 := by
  obtain ⟨z, u, fr, o0⟩ := I
  have e0 : (xadd h (.inl (.boolean, 16, .inl (fun _ => 0))) 16).1 m = some (.inr (3, [.int (nI 0), .int (nI 0), .null, .null, .null, .null, .null, .null, .null, .null, .null, .null, .null, .null])) := (xadd_ne _ _ _ (by omega)).trans o0
  have I1 : IP1 m g (xset (xadd h (.inl (.boolean, 16, .inl (fun _ => 0))) 16) m (.inr (3, [.int (nI 0), .int (nI 0), .ref (m + 1), .null, .null, .null, .null, .null, .null, .null, .null, .null, .null, .null]))) := by
    refine ⟨by rw [xset_sz, xadd_sz]; omega, by rw [xset_us, xadd_us]; omega, fun q hq => ?_, xset_eq _ _ _, ?_⟩
    · rw [xset_ne _ _ (by omega), xadd_ne _ _ _ (by omega)]; exact fr q hq
    · rw [xset_ne _ _ (by omega)]; have := xadd_eq h (.inl (.boolean, 16, .inl (fun _ => 0))) 16; rw [z] at this; exact this
  obtain ⟨h', k, R⟩ := m_init_1 (E := E) (d := d) hb I1
  refine ⟨h', ?_, R⟩
  refine x_aload_n dM_init_4 rfl ?_
  refine x_bipush (v := (nI 16)) dM_init_5 (by decide) ?_
  refine x_newz 16 dM_init_7 kw_458 rfl (by decide) ?_
  rw [z]
  refine x_putF fM_open rfl dM_init_9 (fs := [.int (nI 0), .int (nI 0), .null, .null, .null, .null, .null, .null, .null, .null, .null, .null, .null, .null]) e0 hb rfl rfl (Nat.le_of_ble_eq_true rfl) ?_
  exact k
theorem m_init {h : xH} (hb : E.2.2.1 ≤ m) (hz : h.2.1 = m + 1) (ha : h.1 m = some (.inr (3, [.int (nI 0), .int (nI 0), .null, .null, .null, .null, .null, .null, .null, .null, .null, .null, .null, .null]))) : ∃ h', xG E d mM_init 0 [(0, .ref m)] [] false h (true, .inl none, h') ∧ QP m h' qInit h' ∧ (∀ q, q < m → h'.1 q = h.1 q) ∧ h'.2.1 = m + 13 ∧ h'.2.2 = h.2.2 + 21344 := by
  obtain ⟨h', k, R⟩ := m_init_0 (E := E) (d := d) (g := h) hb (show IP0 m h h from ⟨hz, rfl, fun _ _ => rfl, ha⟩)
  refine ⟨h', ?_, R⟩
  refine x_true ?_
  refine x_aload_n dM_init_0 rfl ?_
  refine x_objInit dM_init_1 kw_414 kw_19 kw_20 (Nat.le_of_ble_eq_true rfl) ?_
  exact k
end
