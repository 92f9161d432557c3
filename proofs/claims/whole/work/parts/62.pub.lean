/-! VersionDeskModel: its public methods -/
theorem sZ_ne {μ : qS} {k k' j : Nat} {v : Bool} (h : k' ≠ k) : qZ (sZ μ k j v) k' = qZ μ k' := up_ne _ _ h
theorem sI_ne {μ : qS} {k k' j v : Nat} (h : k' ≠ k) : qI (sI μ k j v) k' = qI μ k' := up_ne _ _ h
theorem sL_ne {μ : qS} {k k' j : Nat} {v : Int64} (h : k' ≠ k) : qL (sL μ k j v) k' = qL μ k' := up_ne _ _ h
theorem sZ_at {μ : qS} {k j : Nat} {v : Bool} : qZ (sZ μ k j v) k = va_up (qZ μ k) j v := up_eq _ _ _
theorem sI_at {μ : qS} {k j v : Nat} : qI (sI μ k j v) k = va_up (qI μ k) j v := up_eq _ _ _
theorem sL_at {μ : qS} {k j : Nat} {v : Int64} : qL (sL μ k j v) k = va_up (qL μ k) j v := up_eq _ _ _
theorem qK_sX (μ : qS) (x : Nat) : qK (sX μ x) = qK μ := rfl
theorem qZ_sX (μ : qS) (x : Nat) : qZ (sX μ x) = qZ μ := rfl
theorem qI_sX (μ : qS) (x : Nat) : qI (sX μ x) = qI μ := rfl
theorem qL_sX (μ : qS) (x : Nat) : qL (sX μ x) = qL μ := rfl
theorem qX_sC (μ : qS) (x : Nat) : qX (sC μ x) = qX μ := rfl
theorem qZ_sC (μ : qS) (x : Nat) : qZ (sC μ x) = qZ μ := rfl
theorem qI_sC (μ : qS) (x : Nat) : qI (sC μ x) = qI μ := rfl
theorem qL_sC (μ : qS) (x : Nat) : qL (sC μ x) = qL μ := rfl
theorem qX_sZ (μ : qS) (k j : Nat) (v : Bool) : qX (sZ μ k j v) = qX μ := rfl
theorem qK_sZ (μ : qS) (k j : Nat) (v : Bool) : qK (sZ μ k j v) = qK μ := rfl
theorem qI_sZ (μ : qS) (k j : Nat) (v : Bool) : qI (sZ μ k j v) = qI μ := rfl
theorem qL_sZ (μ : qS) (k j : Nat) (v : Bool) : qL (sZ μ k j v) = qL μ := rfl
theorem qX_sI (μ : qS) (k j v : Nat) : qX (sI μ k j v) = qX μ := rfl
theorem qK_sI (μ : qS) (k j v : Nat) : qK (sI μ k j v) = qK μ := rfl
theorem qZ_sI (μ : qS) (k j v : Nat) : qZ (sI μ k j v) = qZ μ := rfl
theorem qL_sI (μ : qS) (k j v : Nat) : qL (sI μ k j v) = qL μ := rfl
theorem qX_sL (μ : qS) (k j : Nat) (v : Int64) : qX (sL μ k j v) = qX μ := rfl
theorem qK_sL (μ : qS) (k j : Nat) (v : Int64) : qK (sL μ k j v) = qK μ := rfl
theorem qZ_sL (μ : qS) (k j : Nat) (v : Int64) : qZ (sL μ k j v) = qZ μ := rfl
theorem qI_sL (μ : qS) (k j : Nat) (v : Int64) : qI (sL μ k j v) = qI μ := rfl
theorem qX_sX (μ : qS) (x : Nat) : qX (sX μ x) = x := rfl
theorem qK_sC (μ : qS) (x : Nat) : qK (sC μ x) = x := rfl
theorem mclr_I (a : Nat) : ∀ n c μ, qI (mclr a n c μ) = qI μ
  | 0, _, _ => rfl
  | n + 1, c, μ => mclr_I a n (c + 1) (sZ μ 3 (a + c) false)
theorem mclr_L (a : Nat) : ∀ n c μ, qL (mclr a n c μ) = qL μ
  | 0, _, _ => rfl
  | n + 1, c, μ => mclr_L a n (c + 1) (sZ μ 3 (a + c) false)
def mlno (f : Nat → Bool) : Nat → Nat → Nat
  | 0, t => t
  | m + 1, t => if f t = true then mlno f m (t + 1) else t
def mnow (μ : qS) (c : Nat) : Int64 := qL μ 12 (520 * c + qI μ 9 c - 1)
def mbeg (t : Nat) : Nat → Nat → qS → qS
  | 0, _, μ => μ
  | n + 1, c, μ => mbeg t n (c + 1) (sL (sZ μ 2 (16 * t + c) false) 7 (16 * t + c) (mnow μ c))
def qBegin (μ : qS) (t k : Nat) : qS := mbeg t 16 0 (mclr ((8 * t + 0) * 16) 16 0 (sI (sI (sI (sZ (sX μ 0) 1 t true) 4 t (qK μ)) 5 t k) 6 t 1))
theorem qZf {μ : qS} {k j : Nat} (h : ¬ qZ μ k j = true) : qZ μ k j = false := by cases hx : qZ μ k j <;> simp_all
section
variable {E : xE} {d m : Nat} {μ : qS} {h0 h : xH}
theorem m_begin_bad {kd : Int32} (hb : E.2.2.1 ≤ m) (H : QP m h0 μ h) (hk : kd < 0 ∨ nI 1 < kd) : ∃ h', xG E (d + 1) mM_begin 0 [(0, .ref m), (1, .int kd)] [] false h (true, .inl (some (.int (nI 0))), h') ∧ QP m h0 (sX (sX μ 0) 1) h' := by
  have H1 := H.x 0
  obtain ⟨h2, k2, H2⟩ := m_fail (d := d) (x := 1) hb H1
  refine ⟨h2, ?_, H2⟩
  refine x_aload_n dM_begin_0 rfl ?_
  refine x_iconst (v := (nI 0)) dM_begin_1 (by decide) ?_
  refine x_put fM_thrown dM_begin_2 H.1 (by omega) rfl rfl (Nat.le_of_ble_eq_true rfl) ?_
  refine x_iload_n dM_begin_5 rfl ?_
  refine x_if_lt 14 dM_begin_6 (by decide) (fun _ => ?_) (fun hn => ?_)
  · refine x_aload_n dM_begin_14 rfl ?_
    refine x_iconst (v := (nI 1)) dM_begin_15 (by decide) ?_
    refine x_callV1 cM_M_fail dM_begin_16 H1.1 (Nat.le_of_ble_eq_true rfl) (Nat.le_of_ble_eq_true rfl) k2 ?_
    exact x_iret rfl dM_begin_19
  · refine x_iload_n dM_begin_9 rfl ?_
    refine x_iconst (v := (nI 1)) dM_begin_10 (by decide) ?_
    refine x_icmp_le 20 dM_begin_11 (by decide) (fun hq => absurd (hk.resolve_left hn) (Int32.not_lt.mpr hq)) (fun _ => ?_)
    refine x_aload_n dM_begin_14 rfl ?_
    refine x_iconst (v := (nI 1)) dM_begin_15 (by decide) ?_
    refine x_callV1 cM_M_fail dM_begin_16 H1.1 (Nat.le_of_ble_eq_true rfl) (Nat.le_of_ble_eq_true rfl) k2 ?_
    exact x_iret rfl dM_begin_19
theorem m_begin_loop0 {k : Nat} (H : QP m h0 μ h) {r : xR} : ∀ n t : Nat, t + n = 16 → (xG E (d + 1) mM_begin 43 [(2, .int (nI (mlno (qZ μ 1) n t))), (0, .ref m), (1, .int (nI k))] [] true h r) → xG E (d + 1) mM_begin 22 [(2, .int (nI t)), (0, .ref m), (1, .int (nI k))] [] true h r := by
  intro n
  induction n with
  | zero =>
    intro t ht K
    obtain rfl : t = 16 := by omega
    refine x_iload_n dM_begin_22 rfl ?_
    refine x_bipush (v := (nI 16)) dM_begin_23 (by decide) ?_
    refine x_icmp_ge 43 dM_begin_25 (by decide) (fun _ => ?_) (fun hq => absurd (nI_le (by omega) (by omega)) hq)
    exact K
  | succ n ih =>
    intro t ht K
    refine x_iload_n dM_begin_22 rfl ?_
    refine x_bipush (v := (nI 16)) dM_begin_23 (by decide) ?_
    refine x_icmp_ge 43 dM_begin_25 (by decide) (fun hq => absurd hq (nI_ge (by omega) (by omega))) (fun _ => ?_)
    refine x_aload_n dM_begin_28 rfl ?_
    refine x_get fM_open dM_begin_29 H.1 rfl ?_
    refine x_iload_n dM_begin_32 rfl ?_
    refine x_zald t dM_begin_33 H.a1 (by simp only [pk_mul, nI_add]) (by omega) (by decide) ?_
    refine x_if_eq 43 dM_begin_34 (by decide) (fun hq => ?_) (fun hq => ?_)
    · rw [show mlno (qZ μ 1) (n + 1) t = t from if_neg (fun ho => xb_ne ho hq)] at K
      exact K
    · have ho : qZ μ 1 t = true := by
        cases hx : qZ μ 1 t
        · exact absurd (xb_eq hx) hq
        · rfl
      rw [show mlno (qZ μ 1) (n + 1) t = mlno (qZ μ 1) n (t + 1) from if_pos ho] at K
      refine x_iinc (v := nI (t + 1)) dM_begin_37 rfl (by rw [nI_succ]; rfl) (Nat.le_of_ble_eq_true rfl) ?_
      refine x_goto 22 dM_begin_40 (by decide) ?_
      exact ih (t + 1) (by omega) K
theorem m_begin_full {k : Nat} (hk : k < 2) (hb : E.2.2.1 ≤ m) (H : QP m h0 μ h) (hf : mlno (qZ μ 1) 16 0 = 16) : ∃ h', xG E (d + 1) mM_begin 0 [(0, .ref m), (1, .int (nI k))] [] false h (true, .inl (some (.int (nI 0))), h') ∧ QP m h0 (sX (sX μ 0) 2) h' := by
  have H1 := H.x 0
  obtain ⟨h2, k2, H2⟩ := m_fail (d := d) (x := 2) hb H1
  refine ⟨h2, ?_, H2⟩
  refine x_aload_n dM_begin_0 rfl ?_
  refine x_iconst (v := (nI 0)) dM_begin_1 (by decide) ?_
  refine x_put fM_thrown dM_begin_2 H.1 (by omega) rfl rfl (Nat.le_of_ble_eq_true rfl) ?_
  refine x_iload_n dM_begin_5 rfl ?_
  refine x_if_lt 14 dM_begin_6 (by decide) (fun hq => absurd hq (nI_pos (by omega))) (fun hn => ?_)
  refine x_iload_n dM_begin_9 rfl ?_
  refine x_iconst (v := (nI 1)) dM_begin_10 (by decide) ?_
  refine x_icmp_le 20 dM_begin_11 (by decide) (fun _ => ?_) (fun hq => absurd (nI_le (by omega) (by decide)) hq)
  refine x_iconst (v := (nI 0)) dM_begin_20 (by decide) ?_
  refine x_istore_n dM_begin_21 (Nat.le_of_ble_eq_true rfl) ?_
  refine m_begin_loop0 H1 16 0 rfl ?_
  rw [show mlno (qZ (sX μ 0) 1) 16 0 = 16 from hf]
  refine x_iload_n dM_begin_43 rfl ?_
  refine x_bipush (v := (nI 16)) dM_begin_44 (by decide) ?_
  refine x_icmp_ne 55 dM_begin_46 (by decide) (fun hq => absurd rfl hq) (fun _ => ?_)
  refine x_aload_n dM_begin_49 rfl ?_
  refine x_iconst (v := (nI 2)) dM_begin_50 (by decide) ?_
  refine x_callV1 cM_M_fail dM_begin_51 H1.1 (Nat.le_of_ble_eq_true rfl) (Nat.le_of_ble_eq_true rfl) k2 ?_
  exact x_iret rfl dM_begin_54
theorem m_begin_loop {t k : Nat} (hb : E.2.2.1 ≤ m) (ht : t < 16) : ∀ (n c : Nat) (μ : qS) (h : xH), c + n = 16 → (∀ c, c < 16 → 1 ≤ qI μ 9 c ∧ qI μ 9 c ≤ 520) → QP m h0 μ h → ∃ h', xG E (d + 1) mM_begin 94 [(3, .int (nI c)), (2, .int (nI t)), (0, .ref m), (1, .int (nI k))] [] true h (true, .inl (some (.int (nI t))), h') ∧ QP m h0 (mbeg t n c μ) h' := by
  intro n
  induction n with
  | zero =>
    intro c μ h hc hv H
    obtain rfl : c = 16 := by omega
    refine ⟨_, ?_, H⟩
    refine x_iload_n dM_begin_94 rfl ?_
    refine x_bipush (v := (nI 16)) dM_begin_95 (by decide) ?_
    refine x_icmp_ge 134 dM_begin_97 (by decide) (fun _ => ?_) (fun hq => absurd (nI_le (by omega) (by omega)) hq)
    refine x_iload_n dM_begin_134 rfl ?_
    exact x_iret rfl dM_begin_135
  | succ n ih =>
    intro c μ h hc hv H
    have H1 := H.s2 (16 * t + c) false
    have hvc := hv c (by omega)
    obtain ⟨h', k, H'⟩ := ih (c + 1) (sL (sZ μ 2 (16 * t + c) false) 7 (16 * t + c) (mnow μ c)) _ (by omega) hv (H1.s7 (16 * t + c) (mnow μ c))
    refine ⟨h', ?_, H'⟩
    refine x_iload_n dM_begin_94 rfl ?_
    refine x_bipush (v := (nI 16)) dM_begin_95 (by decide) ?_
    refine x_icmp_ge 134 dM_begin_97 (by decide) (fun hq => absurd hq (nI_ge (by omega) (by omega))) (fun _ => ?_)
    refine x_aload_n dM_begin_100 rfl ?_
    refine x_get fM_saw dM_begin_101 H.1 rfl ?_
    refine x_bipush (v := (nI 16)) dM_begin_104 (by decide) ?_
    refine x_iload_n dM_begin_106 rfl ?_
    refine x_imul dM_begin_107 ?_
    refine x_iload_n dM_begin_108 rfl ?_
    refine x_iadd dM_begin_109 ?_
    refine x_iconst (v := (xb false)) dM_begin_110 (by decide) ?_
    refine x_zast (16 * t + c) dM_begin_111 H.a2 (by omega) (by simp only [pk_mul, nI_add]) (by omega) (by decide) rfl ?_
    refine x_aload_n dM_begin_112 rfl ?_
    refine x_get fM_began dM_begin_113 H1.1 rfl ?_
    refine x_bipush (v := (nI 16)) dM_begin_116 (by decide) ?_
    refine x_iload_n dM_begin_118 rfl ?_
    refine x_imul dM_begin_119 ?_
    refine x_iload_n dM_begin_120 rfl ?_
    refine x_iadd dM_begin_121 ?_
    refine x_aload_n dM_begin_122 rfl ?_
    refine x_iload_n dM_begin_123 rfl ?_
    refine x_callV1 cM_M_now dM_begin_124 H1.1 (Nat.le_of_ble_eq_true rfl) (Nat.le_of_ble_eq_true rfl) (m_now (d := d) H1 (by omega) hvc.1 hvc.2) ?_
    refine x_last (16 * t + c) dM_begin_127 H1.a7 (by omega) (by simp only [pk_mul, nI_add]) (by omega) (by decide) ?_
    refine x_iinc (v := nI (c + 1)) dM_begin_128 rfl (by rw [nI_succ]; rfl) (Nat.le_of_ble_eq_true rfl) ?_
    refine x_goto 94 dM_begin_131 (by decide) ?_
    exact k
theorem m_begin_ok {k t : Nat} (hk : k < 2) (hb : E.2.2.1 ≤ m) (H : QP m h0 μ h) (hf : mlno (qZ μ 1) 16 0 = t) (ht : t < 16) (hv : ∀ c, c < 16 → 1 ≤ qI μ 9 c ∧ qI μ 9 c ≤ 520) : ∃ h', xG E (d + 1) mM_begin 0 [(0, .ref m), (1, .int (nI k))] [] false h (true, .inl (some (.int (nI t))), h') ∧ QP m h0 (qBegin μ t k) h' := by
  have H1 := H.x 0
  have H2 := H1.s1 t true
  have H3 := H2.s4 t (qK μ)
  have H4 := H3.s5 t k
  have H5 := H4.s6 t 1
  obtain ⟨h6, k6, H6⟩ := m_clear (E := E) (d := d) (t := t) (l := 0) hb ht (by decide) H5
  have e9 : ∀ c, qI (mclr ((8 * t + 0) * 16) 16 0 (sI (sI (sI (sZ (sX μ 0) 1 t true) 4 t (qK μ)) 5 t k) 6 t 1)) 9 c = qI μ 9 c := fun c => by
    rw [mclr_I, sI_ne (by decide), sI_ne (by decide), sI_ne (by decide)]; rfl
  obtain ⟨h7, k7, H7⟩ := m_begin_loop (E := E) (d := d) (k := k) hb ht 16 0 _ _ rfl (fun c hc => by rw [e9]; exact hv c hc) H6
  refine ⟨h7, ?_, H7⟩
  refine x_aload_n dM_begin_0 rfl ?_
  refine x_iconst (v := (nI 0)) dM_begin_1 (by decide) ?_
  refine x_put fM_thrown dM_begin_2 H.1 (by omega) rfl rfl (Nat.le_of_ble_eq_true rfl) ?_
  refine x_iload_n dM_begin_5 rfl ?_
  refine x_if_lt 14 dM_begin_6 (by decide) (fun hq => absurd hq (nI_pos (by omega))) (fun hn => ?_)
  refine x_iload_n dM_begin_9 rfl ?_
  refine x_iconst (v := (nI 1)) dM_begin_10 (by decide) ?_
  refine x_icmp_le 20 dM_begin_11 (by decide) (fun _ => ?_) (fun hq => absurd (nI_le (by omega) (by decide)) hq)
  refine x_iconst (v := (nI 0)) dM_begin_20 (by decide) ?_
  refine x_istore_n dM_begin_21 (Nat.le_of_ble_eq_true rfl) ?_
  refine m_begin_loop0 H1 16 0 rfl ?_
  rw [show mlno (qZ (sX μ 0) 1) 16 0 = t from hf]
  refine x_iload_n dM_begin_43 rfl ?_
  refine x_bipush (v := (nI 16)) dM_begin_44 (by decide) ?_
  refine x_icmp_ne 55 dM_begin_46 (by decide) (fun _ => ?_) (fun hq => absurd ((nI_eq (by omega) (by decide)).mp hq) (by omega))
  refine x_aload_n dM_begin_55 rfl ?_
  refine x_get fM_open dM_begin_56 H1.1 rfl ?_
  refine x_iload_n dM_begin_59 rfl ?_
  refine x_iconst (v := (xb true)) dM_begin_60 (by decide) ?_
  refine x_zast t dM_begin_61 H1.a1 (by omega) (by simp only [pk_mul, nI_add]) (by omega) (by decide) rfl ?_
  refine x_aload_n dM_begin_62 rfl ?_
  refine x_get fM_start dM_begin_63 H2.1 rfl ?_
  refine x_iload_n dM_begin_66 rfl ?_
  refine x_aload_n dM_begin_67 rfl ?_
  refine x_get fM_clock dM_begin_68 H2.1 rfl ?_
  refine x_iast t dM_begin_71 H2.a4 (by omega) (by simp only [pk_mul, nI_add]) (by omega) (by decide) ?_
  refine x_aload_n dM_begin_72 rfl ?_
  refine x_get fM_kind dM_begin_73 H3.1 rfl ?_
  refine x_iload_n dM_begin_76 rfl ?_
  refine x_iload_n dM_begin_77 rfl ?_
  refine x_iast t dM_begin_78 H3.a5 (by omega) (by simp only [pk_mul, nI_add]) (by omega) (by decide) ?_
  refine x_aload_n dM_begin_79 rfl ?_
  refine x_get fM_layers dM_begin_80 H4.1 rfl ?_
  refine x_iload_n dM_begin_83 rfl ?_
  refine x_iconst (v := (nI 1)) dM_begin_84 (by decide) ?_
  refine x_iast t dM_begin_85 H4.a6 (by omega) (by simp only [pk_mul, nI_add]) (by omega) (by decide) ?_
  refine x_aload_n dM_begin_86 rfl ?_
  refine x_iload_n dM_begin_87 rfl ?_
  refine x_iconst (v := (nI 0)) dM_begin_88 (by decide) ?_
  refine x_callV2 cM_M_clear dM_begin_89 H5.1 (Nat.le_of_ble_eq_true rfl) (Nat.le_of_ble_eq_true rfl) k6 ?_
  refine x_iconst (v := (nI 0)) dM_begin_92 (by decide) ?_
  refine x_istore_n dM_begin_93 (Nat.le_of_ble_eq_true rfl) ?_
  exact k7
theorem mlo_s2 {t c j : Nat} {v : Bool} : mlo (sZ μ 2 j v) t c = mlo μ t c := by unfold mlo; rw [sZ_ne (by decide)]; rfl
theorem mrd_s2 {t c j : Nat} {v : Bool} : mrd (sZ μ 2 j v) t c = mrd μ t c := by unfold mrd; rw [mlo_s2]; rfl
theorem m_read_bad {t c : Int32} (hb : E.2.2.1 ≤ m) (H : QP m h0 μ h) (hbad : qbad μ t) : ∃ h', xG E (d + 2) mM_read 0 [(0, .ref m), (1, .int t), (2, .int c)] [] false h (true, .inl (some (.long 0)), h') ∧ QP m h0 (sX μ 1) h' := by
  obtain ⟨h1, k1, H1⟩ := m_none_bad (d := d) (c := c) hb H hbad
  refine ⟨h1, ?_, H1⟩
  refine x_aload_n dM_read_0 rfl ?_
  refine x_iload_n dM_read_1 rfl ?_
  refine x_iload_n dM_read_2 rfl ?_
  refine x_callV2 cM_M_none dM_read_3 H.1 (Nat.le_of_ble_eq_true rfl) (Nat.le_of_ble_eq_true rfl) k1 ?_
  refine x_if_eq 11 dM_read_6 (by decide) (fun hq => absurd hq (by decide)) (fun _ => ?_)
  refine x_lconst (v := 0) dM_read_9 (by decide) ?_
  exact x_lret rfl dM_read_10
theorem m_read_badc {t : Nat} {c : Int32} (hb : E.2.2.1 ≤ m) (H : QP m h0 μ h) (ht : t < 16) (ho : qZ μ 1 t = true) (hc : badc c) : ∃ h', xG E (d + 2) mM_read 0 [(0, .ref m), (1, .int (nI t)), (2, .int c)] [] false h (true, .inl (some (.long 0)), h') ∧ QP m h0 (sX (sX μ 0) 1) h' := by
  obtain ⟨h1, k1, H1⟩ := m_none_badc (d := d) (c := c) hb H ht ho hc
  refine ⟨h1, ?_, H1⟩
  refine x_aload_n dM_read_0 rfl ?_
  refine x_iload_n dM_read_1 rfl ?_
  refine x_iload_n dM_read_2 rfl ?_
  refine x_callV2 cM_M_none dM_read_3 H.1 (Nat.le_of_ble_eq_true rfl) (Nat.le_of_ble_eq_true rfl) k1 ?_
  refine x_if_eq 11 dM_read_6 (by decide) (fun hq => absurd hq (by decide)) (fun _ => ?_)
  refine x_lconst (v := 0) dM_read_9 (by decide) ?_
  exact x_lret rfl dM_read_10
theorem m_read_saw {t c : Nat} (hb : E.2.2.1 ≤ m) (H : QP m h0 μ h) (ht : t < 16) (ho : qZ μ 1 t = true) (hc : c < 16) (hl : qI μ 6 t ≤ 8) (hw : mlo μ t c ≠ 0) : ∃ h', xG E (d + 2) mM_read 0 [(0, .ref m), (1, .int (nI t)), (2, .int (nI c))] [] false h (true, .inl (some (.long (mrd μ t c))), h') ∧ QP m h0 (sX μ 0) h' := by
  have hle := mlo_le μ t c
  obtain ⟨h1, k1, H1⟩ := m_none (d := d) hb H ht ho hc
  refine ⟨h1, ?_, H1⟩
  refine x_aload_n dM_read_0 rfl ?_
  refine x_iload_n dM_read_1 rfl ?_
  refine x_iload_n dM_read_2 rfl ?_
  refine x_callV2 cM_M_none dM_read_3 H.1 (Nat.le_of_ble_eq_true rfl) (Nat.le_of_ble_eq_true rfl) k1 ?_
  refine x_if_eq 11 dM_read_6 (by decide) (fun _ => ?_) (fun hq => absurd rfl hq)
  refine x_aload_n dM_read_11 rfl ?_
  refine x_iload_n dM_read_12 rfl ?_
  refine x_iload_n dM_read_13 rfl ?_
  refine x_callV2 cM_M_layerOf dM_read_14 H1.1 (Nat.le_of_ble_eq_true rfl) (Nat.le_of_ble_eq_true rfl) (m_layerOf (d := d + 1) H1 ht hc hl) ?_
  refine x_iconst (v := (-1)) dM_read_17 (by decide) ?_
  refine x_icmp_ne 33 dM_read_18 (by decide) (fun _ => ?_) (fun hq => absurd ((xpi_m1 (show mlo μ t c < 2 ^ 31 by omega)).mp hq) hw)
  refine x_aload_n dM_read_33 rfl ?_
  refine x_iload_n dM_read_34 rfl ?_
  refine x_iload_n dM_read_35 rfl ?_
  refine x_callV2 cM_M_reading dM_read_36 H1.1 (Nat.le_of_ble_eq_true rfl) (Nat.le_of_ble_eq_true rfl) (m_reading (d := d) H1 ht hc hl) ?_
  exact x_lret rfl dM_read_39
theorem m_read_see {t c : Nat} (hb : E.2.2.1 ≤ m) (H : QP m h0 μ h) (ht : t < 16) (ho : qZ μ 1 t = true) (hc : c < 16) (hl : qI μ 6 t ≤ 8) (hw : mlo μ t c = 0) : ∃ h', xG E (d + 2) mM_read 0 [(0, .ref m), (1, .int (nI t)), (2, .int (nI c))] [] false h (true, .inl (some (.long (mrd μ t c))), h') ∧ QP m h0 (sZ (sX μ 0) 2 (16 * t + c) true) h' := by
  have hle := mlo_le μ t c
  obtain ⟨h1, k1, H1⟩ := m_none (d := d) hb H ht ho hc
  have H2 := H1.s2 (16 * t + c) true
  refine ⟨_, ?_, H2⟩
  rw [← show mrd (sZ (sX μ 0) 2 (16 * t + c) true) t c = mrd μ t c from mrd_s2 (μ := sX μ 0)]
  refine x_aload_n dM_read_0 rfl ?_
  refine x_iload_n dM_read_1 rfl ?_
  refine x_iload_n dM_read_2 rfl ?_
  refine x_callV2 cM_M_none dM_read_3 H.1 (Nat.le_of_ble_eq_true rfl) (Nat.le_of_ble_eq_true rfl) k1 ?_
  refine x_if_eq 11 dM_read_6 (by decide) (fun _ => ?_) (fun hq => absurd rfl hq)
  refine x_aload_n dM_read_11 rfl ?_
  refine x_iload_n dM_read_12 rfl ?_
  refine x_iload_n dM_read_13 rfl ?_
  refine x_callV2 cM_M_layerOf dM_read_14 H1.1 (Nat.le_of_ble_eq_true rfl) (Nat.le_of_ble_eq_true rfl) (m_layerOf (d := d + 1) H1 ht hc hl) ?_
  refine x_iconst (v := (-1)) dM_read_17 (by decide) ?_
  refine x_icmp_ne 33 dM_read_18 (by decide) (fun hq => absurd ((xpi_m1 (show mlo μ t c < 2 ^ 31 by omega)).mpr hw) hq) (fun _ => ?_)
  refine x_aload_n dM_read_21 rfl ?_
  refine x_get fM_saw dM_read_22 H1.1 rfl ?_
  refine x_bipush (v := (nI 16)) dM_read_25 (by decide) ?_
  refine x_iload_n dM_read_27 rfl ?_
  refine x_imul dM_read_28 ?_
  refine x_iload_n dM_read_29 rfl ?_
  refine x_iadd dM_read_30 ?_
  refine x_iconst (v := (xb true)) dM_read_31 (by decide) ?_
  refine x_zast (16 * t + c) dM_read_32 H1.a2 (by omega) (by simp only [pk_mul, nI_add]) (by omega) (by decide) rfl ?_
  refine x_aload_n dM_read_33 rfl ?_
  refine x_iload_n dM_read_34 rfl ?_
  refine x_iload_n dM_read_35 rfl ?_
  refine x_callV2 cM_M_reading dM_read_36 H2.1 (Nat.le_of_ble_eq_true rfl) (Nat.le_of_ble_eq_true rfl) (m_reading (d := d) H2 ht hc hl) ?_
  exact x_lret rfl dM_read_39
theorem m_write_bad {t c : Int32} {v : Int64} (hb : E.2.2.1 ≤ m) (H : QP m h0 μ h) (hbad : qbad μ t) : ∃ h', xG E (d + 2) mM_write 0 [(0, .ref m), (1, .int t), (2, .int c), (3, .long v)] [] false h (true, .inl (some (.long 0)), h') ∧ QP m h0 (sX μ 1) h' := by
  obtain ⟨h1, k1, H1⟩ := m_none_bad (d := d) (c := c) hb H hbad
  refine ⟨h1, ?_, H1⟩
  refine x_aload_n dM_write_0 rfl ?_
  refine x_iload_n dM_write_1 rfl ?_
  refine x_iload_n dM_write_2 rfl ?_
  refine x_callV2 cM_M_none dM_write_3 H.1 (Nat.le_of_ble_eq_true rfl) (Nat.le_of_ble_eq_true rfl) k1 ?_
  refine x_if_eq 11 dM_write_6 (by decide) (fun hq => absurd hq (by decide)) (fun _ => ?_)
  refine x_lconst (v := 0) dM_write_9 (by decide) ?_
  exact x_lret rfl dM_write_10
theorem m_write_badc {t : Nat} {c : Int32} {v : Int64} (hb : E.2.2.1 ≤ m) (H : QP m h0 μ h) (ht : t < 16) (ho : qZ μ 1 t = true) (hc : badc c) : ∃ h', xG E (d + 2) mM_write 0 [(0, .ref m), (1, .int (nI t)), (2, .int c), (3, .long v)] [] false h (true, .inl (some (.long 0)), h') ∧ QP m h0 (sX (sX μ 0) 1) h' := by
  obtain ⟨h1, k1, H1⟩ := m_none_badc (d := d) (c := c) hb H ht ho hc
  refine ⟨h1, ?_, H1⟩
  refine x_aload_n dM_write_0 rfl ?_
  refine x_iload_n dM_write_1 rfl ?_
  refine x_iload_n dM_write_2 rfl ?_
  refine x_callV2 cM_M_none dM_write_3 H.1 (Nat.le_of_ble_eq_true rfl) (Nat.le_of_ble_eq_true rfl) k1 ?_
  refine x_if_eq 11 dM_write_6 (by decide) (fun hq => absurd hq (by decide)) (fun _ => ?_)
  refine x_lconst (v := 0) dM_write_9 (by decide) ?_
  exact x_lret rfl dM_write_10
def qWrite (μ : qS) (t c : Nat) (v : Int64) : qS := sL (sZ (sX μ 0) 3 ((8 * t + qI μ 6 t - 1) * 16 + c) true) 8 ((8 * t + qI μ 6 t - 1) * 16 + c) v
theorem m_write_ok {t c : Nat} {v : Int64} (hb : E.2.2.1 ≤ m) (H : QP m h0 μ h) (ht : t < 16) (ho : qZ μ 1 t = true) (hc : c < 16) (hl : qI μ 6 t ≤ 8) (hl1 : 1 ≤ qI μ 6 t) : ∃ h', xG E (d + 2) mM_write 0 [(0, .ref m), (1, .int (nI t)), (2, .int (nI c)), (3, .long v)] [] false h (true, .inl (some (.long (mrd μ t c))), h') ∧ QP m h0 (qWrite μ t c v) h' := by
  obtain ⟨h1, k1, H1⟩ := m_none (d := d) hb H ht ho hc
  have H2 := H1.s3 ((8 * t + qI μ 6 t - 1) * 16 + c) true
  refine ⟨_, ?_, H2.s8 ((8 * t + qI μ 6 t - 1) * 16 + c) v⟩
  refine x_aload_n dM_write_0 rfl ?_
  refine x_iload_n dM_write_1 rfl ?_
  refine x_iload_n dM_write_2 rfl ?_
  refine x_callV2 cM_M_none dM_write_3 H.1 (Nat.le_of_ble_eq_true rfl) (Nat.le_of_ble_eq_true rfl) k1 ?_
  refine x_if_eq 11 dM_write_6 (by decide) (fun _ => ?_) (fun hq => absurd rfl hq)
  refine x_aload_n dM_write_11 rfl ?_
  refine x_iload_n dM_write_12 rfl ?_
  refine x_iload_n dM_write_13 rfl ?_
  refine x_callV2 cM_M_reading dM_write_14 H1.1 (Nat.le_of_ble_eq_true rfl) (Nat.le_of_ble_eq_true rfl) (m_reading (d := d) H1 ht hc hl) ?_
  refine x_lstore dM_write_17 (Nat.le_of_ble_eq_true rfl) ?_
  refine x_bipush (v := (nI 8)) dM_write_19 (by decide) ?_
  refine x_iload_n dM_write_21 rfl ?_
  refine x_imul dM_write_22 ?_
  refine x_aload_n dM_write_23 rfl ?_
  refine x_get fM_layers dM_write_24 H1.1 rfl ?_
  refine x_iload_n dM_write_27 rfl ?_
  refine x_iald t dM_write_28 H1.a6 (by simp only [pk_mul, nI_add]) (by omega) (by decide) ?_
  refine x_iadd dM_write_29 ?_
  refine x_iconst (v := (nI 1)) dM_write_30 (by decide) ?_
  refine x_isub dM_write_31 ?_
  refine x_bipush (v := (nI 16)) dM_write_32 (by decide) ?_
  refine x_imul dM_write_34 ?_
  refine x_iload_n dM_write_35 rfl ?_
  refine x_iadd dM_write_36 ?_
  refine x_top (v' := .int (nI ((8 * t + qI μ 6 t - 1) * 16 + c))) ?_ ?_
  · show Value.int ((nI 8 * nI t + nI (qI μ 6 t) - nI 1) * nI 16 + nI c) = _
    rw [pk_mul, nI_add, pk_sub (show 1 ≤ 8 * t + qI μ 6 t by omega), pk_mul, nI_add]
  refine x_istore dM_write_37 (Nat.le_of_ble_eq_true rfl) ?_
  refine x_aload_n dM_write_39 rfl ?_
  refine x_get fM_wrote dM_write_40 H1.1 rfl ?_
  refine x_iload dM_write_43 rfl ?_
  refine x_iconst (v := (xb true)) dM_write_45 (by decide) ?_
  refine x_zast ((8 * t + qI μ 6 t - 1) * 16 + c) dM_write_46 H1.a3 (by omega) (by simp only [pk_mul, nI_add]) (by omega) (by decide) rfl ?_
  refine x_aload_n dM_write_47 rfl ?_
  refine x_get fM_value dM_write_48 H2.1 rfl ?_
  refine x_iload dM_write_51 rfl ?_
  refine x_lload_n dM_write_53 rfl ?_
  refine x_last ((8 * t + qI μ 6 t - 1) * 16 + c) dM_write_54 H2.a8 (by omega) (by simp only [pk_mul, nI_add]) (by omega) (by decide) ?_
  refine x_lload dM_write_55 rfl ?_
  exact x_lret rfl dM_write_57
theorem m_push_bad {t : Int32} (hb : E.2.2.1 ≤ m) (H : QP m h0 μ h) (hbad : qbad μ t) : ∃ h', xG E (d + 2) mM_push 0 [(0, .ref m), (1, .int t)] [] false h (true, .inl (some (.int (nI 0))), h') ∧ QP m h0 (sX μ 1) h' := by
  obtain ⟨h1, k1, H1⟩ := m_no_bad (d := d + 1) hb H hbad
  refine ⟨h1, ?_, H1⟩
  refine x_aload_n dM_push_0 rfl ?_
  refine x_iload_n dM_push_1 rfl ?_
  refine x_callV1 cM_M_no dM_push_2 H.1 (Nat.le_of_ble_eq_true rfl) (Nat.le_of_ble_eq_true rfl) k1 ?_
  refine x_if_eq 10 dM_push_5 (by decide) (fun hq => absurd hq (by decide)) (fun _ => ?_)
  refine x_iconst (v := (nI 0)) dM_push_8 (by decide) ?_
  exact x_iret rfl dM_push_9
theorem m_push_full {t : Nat} (hb : E.2.2.1 ≤ m) (H : QP m h0 μ h) (ht : t < 16) (ho : qZ μ 1 t = true) (hl : qI μ 6 t = 8) : ∃ h', xG E (d + 2) mM_push 0 [(0, .ref m), (1, .int (nI t))] [] false h (true, .inl (some (.int (nI 0))), h') ∧ QP m h0 (sX (sX μ 0) 2) h' := by
  obtain ⟨h1, k1, H1⟩ := m_no (d := d + 1) hb H ht ho
  obtain ⟨h2, k2, H2⟩ := m_fail (d := d + 1) (x := 2) hb H1
  refine ⟨h2, ?_, H2⟩
  refine x_aload_n dM_push_0 rfl ?_
  refine x_iload_n dM_push_1 rfl ?_
  refine x_callV1 cM_M_no dM_push_2 H.1 (Nat.le_of_ble_eq_true rfl) (Nat.le_of_ble_eq_true rfl) k1 ?_
  refine x_if_eq 10 dM_push_5 (by decide) (fun _ => ?_) (fun hq => absurd rfl hq)
  refine x_aload_n dM_push_10 rfl ?_
  refine x_get fM_layers dM_push_11 H1.1 rfl ?_
  refine x_iload_n dM_push_14 rfl ?_
  refine x_iald t dM_push_15 H1.a6 (by simp only [pk_mul, nI_add]) (by omega) (by decide) ?_
  refine x_bipush (v := (nI 8)) dM_push_16 (by decide) ?_
  refine x_icmp_ne 27 dM_push_18 (by decide) (fun hq => absurd (by show nI (qI μ 6 t) = nI 8; rw [hl]) hq) (fun _ => ?_)
  refine x_aload_n dM_push_21 rfl ?_
  refine x_iconst (v := (nI 2)) dM_push_22 (by decide) ?_
  refine x_callV1 cM_M_fail dM_push_23 H1.1 (Nat.le_of_ble_eq_true rfl) (Nat.le_of_ble_eq_true rfl) k2 ?_
  exact x_iret rfl dM_push_26
def qPush (μ : qS) (t : Nat) : qS := sI (mclr ((8 * t + qI μ 6 t) * 16) 16 0 (sX μ 0)) 6 t (qI μ 6 t + 1)
theorem m_push_ok {t : Nat} (hb : E.2.2.1 ≤ m) (H : QP m h0 μ h) (ht : t < 16) (ho : qZ μ 1 t = true) (hl : qI μ 6 t < 8) : ∃ h', xG E (d + 2) mM_push 0 [(0, .ref m), (1, .int (nI t))] [] false h (true, .inl (some (.int (nI (qI μ 6 t + 1)))), h') ∧ QP m h0 (qPush μ t) h' := by
  obtain ⟨h1, k1, H1⟩ := m_no (d := d + 1) hb H ht ho
  obtain ⟨h2, k2, H2⟩ := m_clear (E := E) (d := d + 1) (t := t) (l := qI μ 6 t) hb ht hl H1
  have e6 : qI (mclr ((8 * t + qI μ 6 t) * 16) 16 0 (sX μ 0)) 6 t = qI μ 6 t := by rw [mclr_I]; rfl
  have H3 := H2.s6 t (qI μ 6 t + 1)
  refine ⟨_, ?_, H3⟩
  refine x_aload_n dM_push_0 rfl ?_
  refine x_iload_n dM_push_1 rfl ?_
  refine x_callV1 cM_M_no dM_push_2 H.1 (Nat.le_of_ble_eq_true rfl) (Nat.le_of_ble_eq_true rfl) k1 ?_
  refine x_if_eq 10 dM_push_5 (by decide) (fun _ => ?_) (fun hq => absurd rfl hq)
  refine x_aload_n dM_push_10 rfl ?_
  refine x_get fM_layers dM_push_11 H1.1 rfl ?_
  refine x_iload_n dM_push_14 rfl ?_
  refine x_iald t dM_push_15 H1.a6 (by simp only [pk_mul, nI_add]) (by omega) (by decide) ?_
  refine x_bipush (v := (nI 8)) dM_push_16 (by decide) ?_
  refine x_icmp_ne 27 dM_push_18 (by decide) (fun _ => ?_) (fun hq => absurd ((nI_eq (show qI μ 6 t < 2 ^ 31 by omega) (by decide)).mp hq) (by omega))
  refine x_aload_n dM_push_27 rfl ?_
  refine x_iload_n dM_push_28 rfl ?_
  refine x_aload_n dM_push_29 rfl ?_
  refine x_get fM_layers dM_push_30 H1.1 rfl ?_
  refine x_iload_n dM_push_33 rfl ?_
  refine x_iald t dM_push_34 H1.a6 (by simp only [pk_mul, nI_add]) (by omega) (by decide) ?_
  refine x_callV2 cM_M_clear dM_push_35 H1.1 (Nat.le_of_ble_eq_true rfl) (Nat.le_of_ble_eq_true rfl) k2 ?_
  refine x_aload_n dM_push_38 rfl ?_
  refine x_get fM_layers dM_push_39 H2.1 rfl ?_
  refine x_iload_n dM_push_42 rfl ?_
  refine x_dup2 dM_push_43 rfl rfl ?_
  refine x_iald t dM_push_44 H2.a6 (by simp only [pk_mul, nI_add]) (by omega) (by decide) ?_
  refine x_iconst (v := (nI 1)) dM_push_45 (by decide) ?_
  refine x_iadd dM_push_46 ?_
  refine x_top (v' := .int (nI (qI μ 6 t + 1))) (by show Value.int (nI (qI (mclr ((8 * t + qI μ 6 t) * 16) 16 0 (sX μ 0)) 6 t) + nI 1) = _; rw [e6, nI_add]) ?_
  refine x_iast t dM_push_47 H2.a6 (by omega) (by simp only [pk_mul, nI_add]) (by omega) (by decide) ?_
  refine x_aload_n dM_push_48 rfl ?_
  refine x_get fM_layers dM_push_49 H3.1 rfl ?_
  refine x_iload_n dM_push_52 rfl ?_
  refine x_iald t dM_push_53 H3.a6 (by simp only [pk_mul, nI_add]) (by omega) (by decide) ?_
  refine x_top (v' := .int (nI (qI μ 6 t + 1))) (by show Value.int (nI (qI (sI _ 6 t (qI μ 6 t + 1)) 6 t)) = _; rw [sI_at, up_eq]) ?_
  exact x_iret rfl dM_push_54
theorem m_drop_bad {t : Int32} (hb : E.2.2.1 ≤ m) (H : QP m h0 μ h) (hbad : qbad μ t) : ∃ h', xG E (d + 2) mM_drop 0 [(0, .ref m), (1, .int t)] [] false h (true, .inl (some (.int (nI 0))), h') ∧ QP m h0 (sX μ 1) h' := by
  obtain ⟨h1, k1, H1⟩ := m_no_bad (d := d + 1) hb H hbad
  refine ⟨h1, ?_, H1⟩
  refine x_aload_n dM_drop_0 rfl ?_
  refine x_iload_n dM_drop_1 rfl ?_
  refine x_callV1 cM_M_no dM_drop_2 H.1 (Nat.le_of_ble_eq_true rfl) (Nat.le_of_ble_eq_true rfl) k1 ?_
  refine x_if_eq 10 dM_drop_5 (by decide) (fun hq => absurd hq (by decide)) (fun _ => ?_)
  refine x_iconst (v := (nI 0)) dM_drop_8 (by decide) ?_
  exact x_iret rfl dM_drop_9
theorem mlo_s1 {t c j : Nat} {v : Bool} : mlo (sZ μ 1 j v) t c = mlo μ t c := by unfold mlo; rw [sZ_ne (by decide)]; rfl
theorem mwr_s1 {t j : Nat} {v : Bool} : mwr (sZ μ 1 j v) t = mwr μ t := by
  unfold mwr
  simp only [mlo_s1]
theorem m_drop_ok {t : Nat} (hb : E.2.2.1 ≤ m) (H : QP m h0 μ h) (ht : t < 16) (ho : qZ μ 1 t = true) (hl : qI μ 6 t ≤ 8) : ∃ h', xG E (d + 2) mM_drop 0 [(0, .ref m), (1, .int (nI t))] [] false h (true, .inl (some (.int (nI (mwr μ t)))), h') ∧ QP m h0 (sZ (sX μ 0) 1 t false) h' := by
  obtain ⟨h1, k1, H1⟩ := m_no (d := d + 1) hb H ht ho
  have H2 := H1.s1 t false
  refine ⟨_, ?_, H2⟩
  rw [← show mwr (sZ (sX μ 0) 1 t false) t = mwr μ t from mwr_s1 (μ := sX μ 0)]
  refine x_aload_n dM_drop_0 rfl ?_
  refine x_iload_n dM_drop_1 rfl ?_
  refine x_callV1 cM_M_no dM_drop_2 H.1 (Nat.le_of_ble_eq_true rfl) (Nat.le_of_ble_eq_true rfl) k1 ?_
  refine x_if_eq 10 dM_drop_5 (by decide) (fun _ => ?_) (fun hq => absurd rfl hq)
  refine x_aload_n dM_drop_10 rfl ?_
  refine x_get fM_open dM_drop_11 H1.1 rfl ?_
  refine x_iload_n dM_drop_14 rfl ?_
  refine x_iconst (v := (xb false)) dM_drop_15 (by decide) ?_
  refine x_zast t dM_drop_16 H1.a1 (by omega) (by simp only [pk_mul, nI_add]) (by omega) (by decide) rfl ?_
  refine x_aload_n dM_drop_17 rfl ?_
  refine x_iload_n dM_drop_18 rfl ?_
  refine x_callV1 cM_M_written dM_drop_19 H2.1 (Nat.le_of_ble_eq_true rfl) (Nat.le_of_ble_eq_true rfl) (m_written (d := d) H2 ht hl) ?_
  exact x_iret rfl dM_drop_22
theorem m_spoiled_bad {t : Int32} (hb : E.2.2.1 ≤ m) (H : QP m h0 μ h) (hbad : qbad μ t) : ∃ h', xG E (d + 3) mM_spoiled 0 [(0, .ref m), (1, .int t)] [] false h (true, .inl (some (.int (xb false))), h') ∧ QP m h0 (sX μ 1) h' := by
  obtain ⟨h1, k1, H1⟩ := m_no_bad (d := d + 2) hb H hbad
  refine ⟨h1, ?_, H1⟩
  refine x_aload_n dM_spoiled_0 rfl ?_
  refine x_iload_n dM_spoiled_1 rfl ?_
  refine x_callV1 cM_M_no dM_spoiled_2 H.1 (Nat.le_of_ble_eq_true rfl) (Nat.le_of_ble_eq_true rfl) k1 ?_
  refine x_if_ne 20 dM_spoiled_5 (by decide) (fun _ => ?_) (fun hq => absurd hq (by decide))
  refine x_iconst (v := (xb false)) dM_spoiled_20 (by decide) ?_
  exact x_zret (xb_n _) rfl dM_spoiled_21
theorem m_spoiled_ok {t : Nat} (hb : E.2.2.1 ≤ m) (H : QP m h0 μ h) (ht : t < 16) (ho : qZ μ 1 t = true) (hl : qI μ 6 t ≤ 8) (hs : qI μ 4 t < 2 ^ 31) (hk : qI μ 5 t < 2 ^ 31) (hla : ∀ c, c < 16 → qI μ 11 c < 2 ^ 31) : ∃ h', xG E (d + 3) mM_spoiled 0 [(0, .ref m), (1, .int (nI t))] [] false h (true, .inl (some (.int (xb (decide (msc μ t ≠ 0))))), h') ∧ QP m h0 (sX μ 0) h' := by
  have hle : msc μ t ≤ 16 := cnt_le _ _
  obtain ⟨h1, k1, H1⟩ := m_no (d := d + 2) hb H ht ho
  refine ⟨h1, ?_, H1⟩
  refine x_aload_n dM_spoiled_0 rfl ?_
  refine x_iload_n dM_spoiled_1 rfl ?_
  refine x_callV1 cM_M_no dM_spoiled_2 H.1 (Nat.le_of_ble_eq_true rfl) (Nat.le_of_ble_eq_true rfl) k1 ?_
  refine x_if_ne 20 dM_spoiled_5 (by decide) (fun hq => absurd rfl hq) (fun _ => ?_)
  refine x_aload_n dM_spoiled_8 rfl ?_
  refine x_iload_n dM_spoiled_9 rfl ?_
  refine x_callV1 cM_M_spoils dM_spoiled_10 H1.1 (Nat.le_of_ble_eq_true rfl) (Nat.le_of_ble_eq_true rfl) (m_spoils (d := d) H1 ht hl hs hk hla) ?_
  refine x_if_le 20 dM_spoiled_13 (by decide) (fun hq => ?_) (fun hq => ?_)
  · rw [decide_eq_false (show ¬ msc μ t ≠ 0 from fun z => z (Nat.le_zero.mp ((nI_leI (b := 0) (show msc μ t < 2 ^ 31 by omega) (by decide)).mp hq)))]
    refine x_iconst (v := (xb false)) dM_spoiled_20 (by decide) ?_
    exact x_zret (xb_n _) rfl dM_spoiled_21
  · rw [decide_eq_true (show msc μ t ≠ 0 from fun z => hq (nI_le (b := 0) (Nat.le_of_eq z) (by decide)))]
    refine x_iconst (v := (xb true)) dM_spoiled_16 (by decide) ?_
    refine x_goto 21 dM_spoiled_17 (by decide) ?_
    exact x_zret (xb_n _) rfl dM_spoiled_21
def mme (μ : qS) (a b c : Nat) : Bool := decide (mlo μ a c ≠ 0) && (!msp μ b c && (decide (mlo μ b c ≠ 0) || (decide (qI μ 5 b = 1) && qZ μ 2 (16 * b + c))))
def anyF (p : Nat → Bool) : Nat → Nat → Bool
  | 0, _ => false
  | n + 1, c => p c || anyF p n (c + 1)
theorem m_meets_bad1 {a b : Int32} (hb : E.2.2.1 ≤ m) (H : QP m h0 μ h) (hbad : qbad μ a) : ∃ h', xG E (d + 3) mM_meets 0 [(0, .ref m), (1, .int a), (2, .int b)] [] false h (true, .inl (some (.int (xb false))), h') ∧ QP m h0 (sX μ 1) h' := by
  obtain ⟨h1, k1, H1⟩ := m_no_bad (d := d + 2) hb H hbad
  refine ⟨h1, ?_, H1⟩
  refine x_aload_n dM_meets_0 rfl ?_
  refine x_iload_n dM_meets_1 rfl ?_
  refine x_callV1 cM_M_no dM_meets_2 H.1 (Nat.le_of_ble_eq_true rfl) (Nat.le_of_ble_eq_true rfl) k1 ?_
  refine x_if_ne 21 dM_meets_5 (by decide) (fun _ => ?_) (fun hq => absurd hq (by decide))
  refine x_iconst (v := (xb false)) dM_meets_21 (by decide) ?_
  exact x_zret (xb_n _) rfl dM_meets_22
theorem m_meets_bad2 {a : Nat} {b : Int32} (hb : E.2.2.1 ≤ m) (H : QP m h0 μ h) (ha : a < 16) (ho : qZ μ 1 a = true) (hbad : qbad μ b) : ∃ h', xG E (d + 3) mM_meets 0 [(0, .ref m), (1, .int (nI a)), (2, .int b)] [] false h (true, .inl (some (.int (xb false))), h') ∧ QP m h0 (sX (sX μ 0) 1) h' := by
  obtain ⟨h1, k1, H1⟩ := m_no (d := d + 2) hb H ha ho
  obtain ⟨h2, k2, H2⟩ := m_no_bad (d := d + 2) (t := b) hb H1 hbad
  refine ⟨h2, ?_, H2⟩
  refine x_aload_n dM_meets_0 rfl ?_
  refine x_iload_n dM_meets_1 rfl ?_
  refine x_callV1 cM_M_no dM_meets_2 H.1 (Nat.le_of_ble_eq_true rfl) (Nat.le_of_ble_eq_true rfl) k1 ?_
  refine x_if_ne 21 dM_meets_5 (by decide) (fun hq => absurd rfl hq) (fun _ => ?_)
  refine x_aload_n dM_meets_8 rfl ?_
  refine x_iload_n dM_meets_9 rfl ?_
  refine x_callV1 cM_M_no dM_meets_10 H1.1 (Nat.le_of_ble_eq_true rfl) (Nat.le_of_ble_eq_true rfl) k2 ?_
  refine x_if_ne 21 dM_meets_13 (by decide) (fun _ => ?_) (fun hq => absurd hq (by decide))
  refine x_iconst (v := (xb false)) dM_meets_21 (by decide) ?_
  exact x_zret (xb_n _) rfl dM_meets_22
theorem m_meets_same {a : Nat} (hb : E.2.2.1 ≤ m) (H : QP m h0 μ h) (ha : a < 16) (ho : qZ μ 1 a = true) : ∃ h', xG E (d + 3) mM_meets 0 [(0, .ref m), (1, .int (nI a)), (2, .int (nI a))] [] false h (true, .inl (some (.int (xb false))), h') ∧ QP m h0 (sX (sX μ 0) 0) h' := by
  obtain ⟨h1, k1, H1⟩ := m_no (d := d + 2) hb H ha ho
  obtain ⟨h2, k2, H2⟩ := m_no (d := d + 2) (t := a) hb H1 ha ho
  refine ⟨h2, ?_, H2⟩
  refine x_aload_n dM_meets_0 rfl ?_
  refine x_iload_n dM_meets_1 rfl ?_
  refine x_callV1 cM_M_no dM_meets_2 H.1 (Nat.le_of_ble_eq_true rfl) (Nat.le_of_ble_eq_true rfl) k1 ?_
  refine x_if_ne 21 dM_meets_5 (by decide) (fun hq => absurd rfl hq) (fun _ => ?_)
  refine x_aload_n dM_meets_8 rfl ?_
  refine x_iload_n dM_meets_9 rfl ?_
  refine x_callV1 cM_M_no dM_meets_10 H1.1 (Nat.le_of_ble_eq_true rfl) (Nat.le_of_ble_eq_true rfl) k2 ?_
  refine x_if_ne 21 dM_meets_13 (by decide) (fun hq => absurd rfl hq) (fun _ => ?_)
  refine x_iload_n dM_meets_16 rfl ?_
  refine x_iload_n dM_meets_17 rfl ?_
  refine x_icmp_ne 23 dM_meets_18 (by decide) (fun hq => absurd rfl hq) (fun _ => ?_)
  refine x_iconst (v := (xb false)) dM_meets_21 (by decide) ?_
  exact x_zret (xb_n _) rfl dM_meets_22
theorem m_meets_loop {a b : Nat} (H : QP m h0 μ h) (ha : a < 16) (hb2 : b < 16) (hla2 : qI μ 6 a ≤ 8) (hl : qI μ 6 b ≤ 8) (hs : qI μ 4 b < 2 ^ 31) (hk : qI μ 5 b < 2 ^ 31) (hla : ∀ c, c < 16 → qI μ 11 c < 2 ^ 31) : ∀ n c : Nat, c + n = 16 → xG E (d + 3) mM_meets 25 [(3, .int (nI c)), (0, .ref m), (1, .int (nI a)), (2, .int (nI b))] [] true h (true, .inl (some (.int (xb (anyF (mme μ a b) n c)))), h) := by
  intro n
  induction n with
  | zero =>
    intro c hc
    obtain rfl : c = 16 := by omega
    refine x_iload_n dM_meets_25 rfl ?_
    refine x_bipush (v := (nI 16)) dM_meets_26 (by decide) ?_
    refine x_icmp_ge 92 dM_meets_28 (by decide) (fun _ => ?_) (fun hq => absurd (nI_le (by omega) (by omega)) hq)
    refine x_iconst (v := (xb false)) dM_meets_92 (by decide) ?_
    exact x_zret (xb_n _) rfl dM_meets_93
  | succ n ih =>
    intro c hc
    have ih' := ih (c + 1) (by omega)
    have hle := mlo_le μ a c
    have hle2 := mlo_le μ b c
    have next : mme μ a b c = false → xG E (d + 3) mM_meets 86 [(3, .int (nI c)), (0, .ref m), (1, .int (nI a)), (2, .int (nI b))] [] true h (true, .inl (some (.int (xb (anyF (mme μ a b) (n + 1) c)))), h) := by
      intro hm
      rw [show anyF (mme μ a b) (n + 1) c = anyF (mme μ a b) n (c + 1) by show (mme μ a b c || _) = _; rw [hm]; rfl]
      refine x_iinc (v := nI (c + 1)) dM_meets_86 rfl (by rw [nI_succ]; rfl) (Nat.le_of_ble_eq_true rfl) ?_
      refine x_goto 25 dM_meets_89 (by decide) ?_
      exact ih'
    refine x_iload_n dM_meets_25 rfl ?_
    refine x_bipush (v := (nI 16)) dM_meets_26 (by decide) ?_
    refine x_icmp_ge 92 dM_meets_28 (by decide) (fun hq => absurd hq (nI_ge (by omega) (by omega))) (fun _ => ?_)
    refine x_aload_n dM_meets_31 rfl ?_
    refine x_iload_n dM_meets_32 rfl ?_
    refine x_iload_n dM_meets_33 rfl ?_
    refine x_callV2 cM_M_layerOf dM_meets_34 H.1 (Nat.le_of_ble_eq_true rfl) (Nat.le_of_ble_eq_true rfl) (m_layerOf (d := d + 2) H ha (by omega) hla2) ?_
    refine x_iconst (v := (-1)) dM_meets_37 (by decide) ?_
    refine x_icmp_eq 86 dM_meets_38 (by decide) (fun hq => ?_) (fun hq => ?_)
    · exact next (by unfold mme; rw [(xpi_m1 (show mlo μ a c < 2 ^ 31 by omega)).mp hq]; rfl)
    have e1 : decide (mlo μ a c ≠ 0) = true := decide_eq_true (fun q => hq ((xpi_m1 (by omega)).mpr q))
    refine x_aload_n dM_meets_41 rfl ?_
    refine x_iload_n dM_meets_42 rfl ?_
    refine x_iload_n dM_meets_43 rfl ?_
    refine x_callV2 cM_M_isSpoiled dM_meets_44 H.1 (Nat.le_of_ble_eq_true rfl) (Nat.le_of_ble_eq_true rfl) (m_isSpoiled (d := d + 1) H hb2 (by omega) hl hs hk (hla c (by omega))) ?_
    cases e2 : msp μ b c with
    | true =>
      refine x_if_ne 86 dM_meets_47 (by decide) (fun hq => ?_) (fun hq => absurd hq (by decide))
      exact next (by unfold mme; rw [e1, e2]; rfl)
    | false =>
      refine x_if_ne 86 dM_meets_47 (by decide) (fun hq => absurd rfl hq) (fun hq => ?_)
      refine x_aload_n dM_meets_50 rfl ?_
      refine x_iload_n dM_meets_51 rfl ?_
      refine x_iload_n dM_meets_52 rfl ?_
      refine x_callV2 cM_M_layerOf dM_meets_53 H.1 (Nat.le_of_ble_eq_true rfl) (Nat.le_of_ble_eq_true rfl) (m_layerOf (d := d + 2) H hb2 (by omega) hl) ?_
      refine x_iconst (v := (-1)) dM_meets_56 (by decide) ?_
      have yes : mme μ a b c = true → xG E (d + 3) mM_meets 84 [(3, .int (nI c)), (0, .ref m), (1, .int (nI a)), (2, .int (nI b))] [] true h (true, .inl (some (.int (xb (anyF (mme μ a b) (n + 1) c)))), h) := by
        intro hm
        rw [show anyF (mme μ a b) (n + 1) c = true by show (mme μ a b c || _) = _; rw [hm]; rfl]
        refine x_iconst (v := (xb true)) dM_meets_84 (by decide) ?_
        exact x_zret (xb_n _) rfl dM_meets_85
      refine x_icmp_ne 84 dM_meets_57 (by decide) (fun hq => ?_) (fun hq => ?_)
      · exact yes (by unfold mme; rw [e1, e2, decide_eq_true (show mlo μ b c ≠ 0 from fun q => hq ((xpi_m1 (by omega)).mpr q))]; rfl)
      have e3 : mlo μ b c = 0 := (xpi_m1 (by omega)).mp hq
      refine x_aload_n dM_meets_60 rfl ?_
      refine x_get fM_kind dM_meets_61 H.1 rfl ?_
      refine x_iload_n dM_meets_64 rfl ?_
      refine x_iald b dM_meets_65 H.a5 (by simp only [pk_mul, nI_add]) (by omega) (by decide) ?_
      refine x_iconst (v := (nI 1)) dM_meets_66 (by decide) ?_
      refine x_icmp_ne 86 dM_meets_67 (by decide) (fun hq => ?_) (fun hq => ?_)
      · exact next (by unfold mme; rw [e1, e2, e3, decide_eq_false (show ¬ qI μ 5 b = 1 from fun q => hq (by show nI (qI μ 5 b) = nI 1; rw [q]))]; rfl)
      have e4 : qI μ 5 b = 1 := (nI_eq hk (by decide)).mp hq
      refine x_aload_n dM_meets_70 rfl ?_
      refine x_get fM_saw dM_meets_71 H.1 rfl ?_
      refine x_bipush (v := (nI 16)) dM_meets_74 (by decide) ?_
      refine x_iload_n dM_meets_76 rfl ?_
      refine x_imul dM_meets_77 ?_
      refine x_iload_n dM_meets_78 rfl ?_
      refine x_iadd dM_meets_79 ?_
      refine x_zald (16 * b + c) dM_meets_80 H.a2 (by simp only [pk_mul, nI_add]) (by omega) (by decide) ?_
      refine x_if_eq 86 dM_meets_81 (by decide) (fun hq => ?_) (fun hq => ?_)
      · exact next (by unfold mme; rw [e1, e2, e3, decide_eq_true e4, qZf (fun z => xb_ne z hq)]; rfl)
      · exact yes (by
          unfold mme
          rw [e1, e2, e3, decide_eq_true e4]
          cases hx : qZ μ 2 (16 * b + c)
          · exact absurd (xb_eq hx) hq
          · rfl)
theorem m_meets_ok {a b : Nat} (hb : E.2.2.1 ≤ m) (H : QP m h0 μ h) (ha : a < 16) (ho : qZ μ 1 a = true) (hb2 : b < 16) (ho2 : qZ μ 1 b = true) (hne : a ≠ b) (hla2 : qI μ 6 a ≤ 8) (hl : qI μ 6 b ≤ 8) (hs : qI μ 4 b < 2 ^ 31) (hk : qI μ 5 b < 2 ^ 31) (hla : ∀ c, c < 16 → qI μ 11 c < 2 ^ 31) : ∃ h', xG E (d + 3) mM_meets 0 [(0, .ref m), (1, .int (nI a)), (2, .int (nI b))] [] false h (true, .inl (some (.int (xb (anyF (mme μ a b) 16 0)))), h') ∧ QP m h0 (sX (sX μ 0) 0) h' := by
  obtain ⟨h1, k1, H1⟩ := m_no (d := d + 2) hb H ha ho
  obtain ⟨h2, k2, H2⟩ := m_no (d := d + 2) (t := b) hb H1 hb2 ho2
  refine ⟨h2, ?_, H2⟩
  refine x_aload_n dM_meets_0 rfl ?_
  refine x_iload_n dM_meets_1 rfl ?_
  refine x_callV1 cM_M_no dM_meets_2 H.1 (Nat.le_of_ble_eq_true rfl) (Nat.le_of_ble_eq_true rfl) k1 ?_
  refine x_if_ne 21 dM_meets_5 (by decide) (fun hq => absurd rfl hq) (fun _ => ?_)
  refine x_aload_n dM_meets_8 rfl ?_
  refine x_iload_n dM_meets_9 rfl ?_
  refine x_callV1 cM_M_no dM_meets_10 H1.1 (Nat.le_of_ble_eq_true rfl) (Nat.le_of_ble_eq_true rfl) k2 ?_
  refine x_if_ne 21 dM_meets_13 (by decide) (fun hq => absurd rfl hq) (fun _ => ?_)
  refine x_iload_n dM_meets_16 rfl ?_
  refine x_iload_n dM_meets_17 rfl ?_
  refine x_icmp_ne 23 dM_meets_18 (by decide) (fun _ => ?_) (fun hq => absurd ((nI_eq (by omega) (by omega)).mp hq) hne)
  refine x_iconst (v := (nI 0)) dM_meets_23 (by decide) ?_
  refine x_istore_n dM_meets_24 (Nat.le_of_ble_eq_true rfl) ?_
  exact m_meets_loop (d := d) H2 ha hb2 hla2 hl hs hk hla 16 0 rfl
end
