/-! VersionDeskModel: pop, commit, past, forget, about, count, the constructor -/
def mdown (a : Nat) : Nat → Nat → qS → qS
  | 0, _, μ => μ
  | n + 1, c, μ => mdown a n (c + 1) (if qZ μ 3 (a + c) = true then sL (sZ μ 3 (a + c - 16) true) 8 (a + c - 16) (qL μ 8 (a + c)) else μ)
def qPop (μ : qS) (t l : Nat) : qS := sI (sX μ 0) 6 t l
section
variable {E : xE} {d m : Nat} {μ : qS} {h0 h : xH}
theorem m_pop_bad {t kp : Int32} (hb : E.2.2.1 ≤ m) (H : QP m h0 μ h) (hbad : qbad μ t) : ∃ h', xG E (d + 2) mM_pop 0 [(0, .ref m), (1, .int t), (2, .int kp)] [] false h (true, .inl (some (.int (nI 0))), h') ∧ QP m h0 (sX μ 1) h' := by
  obtain ⟨h1, k1, H1⟩ := m_no_bad (d := d + 1) hb H hbad
  refine ⟨h1, ?_, H1⟩
  refine x_aload_n dM_pop_0 rfl ?_
  refine x_iload_n dM_pop_1 rfl ?_
  refine x_callV1 cM_M_no dM_pop_2 H.1 (Nat.le_of_ble_eq_true rfl) (Nat.le_of_ble_eq_true rfl) k1 ?_
  refine x_if_eq 10 dM_pop_5 (by decide) (fun hq => absurd hq (by decide)) (fun _ => ?_)
  refine x_iconst (v := (nI 0)) dM_pop_8 (by decide) ?_
  exact x_iret rfl dM_pop_9
theorem m_pop_one {t : Nat} {kp : Int32} (hb : E.2.2.1 ≤ m) (H : QP m h0 μ h) (ht : t < 16) (ho : qZ μ 1 t = true) (hl : qI μ 6 t = 1) : ∃ h', xG E (d + 2) mM_pop 0 [(0, .ref m), (1, .int (nI t)), (2, .int kp)] [] false h (true, .inl (some (.int (nI 0))), h') ∧ QP m h0 (sX (sX μ 0) 2) h' := by
  obtain ⟨h1, k1, H1⟩ := m_no (d := d + 1) hb H ht ho
  obtain ⟨h2, k2, H2⟩ := m_fail (d := d + 1) (x := 2) hb H1
  refine ⟨h2, ?_, H2⟩
  refine x_aload_n dM_pop_0 rfl ?_
  refine x_iload_n dM_pop_1 rfl ?_
  refine x_callV1 cM_M_no dM_pop_2 H.1 (Nat.le_of_ble_eq_true rfl) (Nat.le_of_ble_eq_true rfl) k1 ?_
  refine x_if_eq 10 dM_pop_5 (by decide) (fun _ => ?_) (fun hq => absurd rfl hq)
  refine x_aload_n dM_pop_10 rfl ?_
  refine x_get fM_layers dM_pop_11 H1.1 rfl ?_
  refine x_iload_n dM_pop_14 rfl ?_
  refine x_iald t dM_pop_15 H1.a6 (by simp only [pk_mul, nI_add]) (by omega) (by decide) ?_
  refine x_iconst (v := (nI 1)) dM_pop_16 (by decide) ?_
  refine x_icmp_ne 26 dM_pop_17 (by decide) (fun hq => absurd (by show nI (qI μ 6 t) = nI 1; rw [hl]) hq) (fun _ => ?_)
  refine x_aload_n dM_pop_20 rfl ?_
  refine x_iconst (v := (nI 2)) dM_pop_21 (by decide) ?_
  refine x_callV1 cM_M_fail dM_pop_22 H1.1 (Nat.le_of_ble_eq_true rfl) (Nat.le_of_ble_eq_true rfl) k2 ?_
  exact x_iret rfl dM_pop_25
theorem m_pop_end {t l : Nat} {kp : Int32} {w : Bool} {lv : xL} (H : QP m h0 μ h) (hm : xlk lv 0 = some (.ref m)) (htl : xlk lv 1 = some (.int (nI t))) (ht : t < 16) (hl : qI μ 6 t = l) : xG E d mM_pop 113 lv [] w h (w, .inl (some (.int (nI l))), h) := by
  refine x_aload_n dM_pop_113 hm ?_
  refine x_get fM_layers dM_pop_114 H.1 rfl ?_
  refine x_iload_n dM_pop_117 htl ?_
  refine x_iald t dM_pop_118 H.a6 (by simp only [pk_mul, nI_add]) (by omega) (by decide) ?_
  refine x_top (v' := .int (nI l)) (by show Value.int (nI (qI μ 6 t)) = _; rw [hl]) ?_
  exact x_iret rfl dM_pop_119
theorem m_pop_loop {t l : Nat} {kp : Int32} (hk : kp ≠ 0) (hb : E.2.2.1 ≤ m) (ht : t < 16) (hl1 : 1 ≤ l) (hl8 : l < 8) : ∀ (n c : Nat) (μ : qS) (h : xH) (lv : xL), c + n = 16 → qI μ 6 t = l → QP m h0 μ h → xlk lv 0 = some (.ref m) → xlk lv 1 = some (.int (nI t)) → xlk lv 2 = some (.int kp) → xlk lv 3 = some (.int (nI c)) → ∃ h', xG E d mM_pop 38 lv [] true h (true, .inl (some (.int (nI l))), h') ∧ QP m h0 (mdown ((8 * t + l) * 16) n c μ) h' := by
  intro n
  induction n with
  | zero =>
    intro c μ h lv hc hl H l0 l1 l2 l3
    obtain rfl : c = 16 := by omega
    refine ⟨_, ?_, H⟩
    refine x_iload_n dM_pop_38 l3 ?_
    refine x_bipush (v := (nI 16)) dM_pop_39 (by decide) ?_
    refine x_icmp_ge 113 dM_pop_41 (by decide) (fun _ => ?_) (fun hq => absurd (nI_le (by omega) (by omega)) hq)
    exact m_pop_end (kp := kp) H l0 l1 ht hl
  | succ n ih =>
    intro c μ h lv hc hl H l0 l1 l2 l3
    refine (show (∃ h', xG E d mM_pop 38 [(0, .ref m), (1, .int (nI t)), (2, .int kp), (3, .int (nI c))] [] true h (true, .inl (some (.int (nI l))), h') ∧ QP m h0 (mdown ((8 * t + l) * 16) (n + 1) c μ) h') → _ from fun ⟨h', k, H'⟩ => ⟨h', x_loc _ (xac l0 (xac l1 (xac l2 (xac l3 xan)))) k, H'⟩) ?_
    by_cases hz : qZ μ 3 ((8 * t + l) * 16 + c) = true
    · have H1 := H.s3 ((8 * t + l) * 16 + c - 16) true
      have H2 := H1.s8 ((8 * t + l) * 16 + c - 16) (qL μ 8 ((8 * t + l) * 16 + c))
      obtain ⟨h', k, H'⟩ := ih (c + 1) (sL (sZ μ 3 ((8 * t + l) * 16 + c - 16) true) 8 ((8 * t + l) * 16 + c - 16) (qL μ 8 ((8 * t + l) * 16 + c))) _ [(0, .ref m), (1, .int (nI t)), (2, .int kp), (3, .int (nI (c + 1)))] (by omega) hl H2 rfl rfl rfl rfl
      refine ⟨h', ?_, ?_⟩
      · refine x_iload_n dM_pop_38 rfl ?_
        refine x_bipush (v := (nI 16)) dM_pop_39 (by decide) ?_
        refine x_icmp_ge 113 dM_pop_41 (by decide) (fun hq => absurd hq (nI_ge (by omega) (by omega))) (fun _ => ?_)
        refine x_iload_n dM_pop_44 rfl ?_
        refine x_if_eq 113 dM_pop_45 (by decide) (fun hq => absurd hq hk) (fun _ => ?_)
        refine x_bipush (v := (nI 8)) dM_pop_48 (by decide) ?_
        refine x_iload_n dM_pop_50 rfl ?_
        refine x_imul dM_pop_51 ?_
        refine x_aload_n dM_pop_52 rfl ?_
        refine x_get fM_layers dM_pop_53 H.1 rfl ?_
        refine x_iload_n dM_pop_56 rfl ?_
        refine x_iald t dM_pop_57 H.a6 (by simp only [pk_mul, nI_add]) (by omega) (by decide) ?_
        refine x_iadd dM_pop_58 ?_
        refine x_bipush (v := (nI 16)) dM_pop_59 (by decide) ?_
        refine x_imul dM_pop_61 ?_
        refine x_iload_n dM_pop_62 rfl ?_
        refine x_iadd dM_pop_63 ?_
        refine x_top (v' := .int (nI ((8 * t + l) * 16 + c))) (by show Value.int ((nI 8 * nI t + nI (qI μ 6 t)) * nI 16 + nI c) = _; rw [hl]; simp only [pk_mul, nI_add]) ?_
        refine x_istore dM_pop_64 (Nat.le_of_ble_eq_true rfl) ?_
        refine x_aload_n dM_pop_66 rfl ?_
        refine x_get fM_wrote dM_pop_67 H.1 rfl ?_
        refine x_iload dM_pop_70 rfl ?_
        refine x_zald ((8 * t + l) * 16 + c) dM_pop_72 H.a3 (by simp only [pk_mul, nI_add]) (by omega) (by decide) ?_
        refine x_if_ne 79 dM_pop_73 (by decide) (fun _ => ?_) (fun hq => absurd hq (xb_ne hz))
        refine x_aload_n dM_pop_79 rfl ?_
        refine x_get fM_wrote dM_pop_80 H.1 rfl ?_
        refine x_iload dM_pop_83 rfl ?_
        refine x_bipush (v := (nI 16)) dM_pop_85 (by decide) ?_
        refine x_isub dM_pop_87 ?_
        refine x_iconst (v := (xb true)) dM_pop_88 (by decide) ?_
        refine x_zast ((8 * t + l) * 16 + c - 16) dM_pop_89 H.a3 (by omega) (pk_sub (by omega)) (by omega) (by decide) rfl ?_
        refine x_aload_n dM_pop_90 rfl ?_
        refine x_get fM_value dM_pop_91 H1.1 rfl ?_
        refine x_iload dM_pop_94 rfl ?_
        refine x_bipush (v := (nI 16)) dM_pop_96 (by decide) ?_
        refine x_isub dM_pop_98 ?_
        refine x_aload_n dM_pop_99 rfl ?_
        refine x_get fM_value dM_pop_100 H1.1 rfl ?_
        refine x_iload dM_pop_103 rfl ?_
        refine x_lald ((8 * t + l) * 16 + c) dM_pop_105 H1.a8 (by simp only [pk_mul, nI_add]) (by omega) (by decide) ?_
        refine x_last ((8 * t + l) * 16 + c - 16) dM_pop_106 H1.a8 (by omega) (pk_sub (by omega)) (by omega) (by decide) ?_
        refine x_iinc (v := nI (c + 1)) dM_pop_107 rfl (by rw [nI_succ]; rfl) (Nat.le_of_ble_eq_true rfl) ?_
        refine x_goto 38 dM_pop_110 (by decide) ?_
        exact x_loc _ (xac rfl (xac rfl (xac rfl (xac rfl xan)))) k
      · rw [show mdown ((8 * t + l) * 16) (n + 1) c μ = _ from congrArg (mdown ((8 * t + l) * 16) n (c + 1)) (if_pos hz)]
        exact H'
    · obtain ⟨h', k, H'⟩ := ih (c + 1) μ _ [(0, .ref m), (1, .int (nI t)), (2, .int kp), (3, .int (nI (c + 1)))] (by omega) hl H rfl rfl rfl rfl
      refine ⟨h', ?_, ?_⟩
      · refine x_iload_n dM_pop_38 rfl ?_
        refine x_bipush (v := (nI 16)) dM_pop_39 (by decide) ?_
        refine x_icmp_ge 113 dM_pop_41 (by decide) (fun hq => absurd hq (nI_ge (by omega) (by omega))) (fun _ => ?_)
        refine x_iload_n dM_pop_44 rfl ?_
        refine x_if_eq 113 dM_pop_45 (by decide) (fun hq => absurd hq hk) (fun _ => ?_)
        refine x_bipush (v := (nI 8)) dM_pop_48 (by decide) ?_
        refine x_iload_n dM_pop_50 rfl ?_
        refine x_imul dM_pop_51 ?_
        refine x_aload_n dM_pop_52 rfl ?_
        refine x_get fM_layers dM_pop_53 H.1 rfl ?_
        refine x_iload_n dM_pop_56 rfl ?_
        refine x_iald t dM_pop_57 H.a6 (by simp only [pk_mul, nI_add]) (by omega) (by decide) ?_
        refine x_iadd dM_pop_58 ?_
        refine x_bipush (v := (nI 16)) dM_pop_59 (by decide) ?_
        refine x_imul dM_pop_61 ?_
        refine x_iload_n dM_pop_62 rfl ?_
        refine x_iadd dM_pop_63 ?_
        refine x_top (v' := .int (nI ((8 * t + l) * 16 + c))) (by show Value.int ((nI 8 * nI t + nI (qI μ 6 t)) * nI 16 + nI c) = _; rw [hl]; simp only [pk_mul, nI_add]) ?_
        refine x_istore dM_pop_64 (Nat.le_of_ble_eq_true rfl) ?_
        refine x_aload_n dM_pop_66 rfl ?_
        refine x_get fM_wrote dM_pop_67 H.1 rfl ?_
        refine x_iload dM_pop_70 rfl ?_
        refine x_zald ((8 * t + l) * 16 + c) dM_pop_72 H.a3 (by simp only [pk_mul, nI_add]) (by omega) (by decide) ?_
        refine x_if_ne 79 dM_pop_73 (by decide) (fun hq => absurd (xb_eq (qZf hz)) hq) (fun _ => ?_)
        refine x_goto 107 dM_pop_76 (by decide) ?_
        refine x_iinc (v := nI (c + 1)) dM_pop_107 rfl (by rw [nI_succ]; rfl) (Nat.le_of_ble_eq_true rfl) ?_
        refine x_goto 38 dM_pop_110 (by decide) ?_
        exact x_loc _ (xac rfl (xac rfl (xac rfl (xac rfl xan)))) k
      · rw [show mdown ((8 * t + l) * 16) (n + 1) c μ = _ from congrArg (mdown ((8 * t + l) * 16) n (c + 1)) (if_neg hz)]
        exact H'
theorem m_pop_give {t l : Nat} (hb : E.2.2.1 ≤ m) (H : QP m h0 μ h) (ht : t < 16) (ho : qZ μ 1 t = true) (hl : qI μ 6 t = l + 1) (hl1 : 1 ≤ l) (hl8 : l < 8) : ∃ h', xG E (d + 2) mM_pop 0 [(0, .ref m), (1, .int (nI t)), (2, .int (nI 0))] [] false h (true, .inl (some (.int (nI l))), h') ∧ QP m h0 (qPop μ t l) h' := by
  obtain ⟨h1, k1, H1⟩ := m_no (d := d + 1) hb H ht ho
  have H2 := H1.s6 t l
  refine ⟨_, ?_, H2⟩
  refine x_aload_n dM_pop_0 rfl ?_
  refine x_iload_n dM_pop_1 rfl ?_
  refine x_callV1 cM_M_no dM_pop_2 H.1 (Nat.le_of_ble_eq_true rfl) (Nat.le_of_ble_eq_true rfl) k1 ?_
  refine x_if_eq 10 dM_pop_5 (by decide) (fun _ => ?_) (fun hq => absurd rfl hq)
  refine x_aload_n dM_pop_10 rfl ?_
  refine x_get fM_layers dM_pop_11 H1.1 rfl ?_
  refine x_iload_n dM_pop_14 rfl ?_
  refine x_iald t dM_pop_15 H1.a6 (by simp only [pk_mul, nI_add]) (by omega) (by decide) ?_
  refine x_iconst (v := (nI 1)) dM_pop_16 (by decide) ?_
  refine x_icmp_ne 26 dM_pop_17 (by decide) (fun _ => ?_) (fun hq => absurd ((nI_eq (show qI μ 6 t < 2 ^ 31 by omega) (by decide)).mp hq) (by omega))
  refine x_aload_n dM_pop_26 rfl ?_
  refine x_get fM_layers dM_pop_27 H1.1 rfl ?_
  refine x_iload_n dM_pop_30 rfl ?_
  refine x_dup2 dM_pop_31 rfl rfl ?_
  refine x_iald t dM_pop_32 H1.a6 (by simp only [pk_mul, nI_add]) (by omega) (by decide) ?_
  refine x_iconst (v := (nI 1)) dM_pop_33 (by decide) ?_
  refine x_isub dM_pop_34 ?_
  refine x_top (v' := .int (nI l)) (by show Value.int (nI (qI μ 6 t) - nI 1) = _; rw [hl, pk_sub (by omega)]; rfl) ?_
  refine x_iast t dM_pop_35 H1.a6 (by omega) (by simp only [pk_mul, nI_add]) (by omega) (by decide) ?_
  refine x_iconst (v := (nI 0)) dM_pop_36 (by decide) ?_
  refine x_istore_n dM_pop_37 (Nat.le_of_ble_eq_true rfl) ?_
  refine x_iload_n dM_pop_38 rfl ?_
  refine x_bipush (v := (nI 16)) dM_pop_39 (by decide) ?_
  refine x_icmp_ge 113 dM_pop_41 (by decide) (fun hq => absurd hq (nI_ge (a := 0) (by omega) (by omega))) (fun _ => ?_)
  refine x_iload_n dM_pop_44 rfl ?_
  refine x_if_eq 113 dM_pop_45 (by decide) (fun _ => ?_) (fun hq => absurd rfl hq)
  exact m_pop_end (kp := 0) H2 rfl rfl ht (by rw [sI_at, up_eq])
theorem m_pop_keep {t l : Nat} {kp : Int32} (hk : kp ≠ 0) (hb : E.2.2.1 ≤ m) (H : QP m h0 μ h) (ht : t < 16) (ho : qZ μ 1 t = true) (hl : qI μ 6 t = l + 1) (hl1 : 1 ≤ l) (hl8 : l < 8) : ∃ h', xG E (d + 2) mM_pop 0 [(0, .ref m), (1, .int (nI t)), (2, .int kp)] [] false h (true, .inl (some (.int (nI l))), h') ∧ QP m h0 (mdown ((8 * t + l) * 16) 16 0 (qPop μ t l)) h' := by
  obtain ⟨h1, k1, H1⟩ := m_no (d := d + 1) hb H ht ho
  have H2 := H1.s6 t l
  obtain ⟨h3, k3, H3⟩ := m_pop_loop (E := E) (d := d + 2) hk hb ht hl1 hl8 16 0 (qPop μ t l) _ [(3, .int (nI 0)), (0, .ref m), (1, .int (nI t)), (2, .int kp)] rfl (by unfold qPop; rw [sI_at, up_eq]) H2 rfl rfl rfl rfl
  refine ⟨h3, ?_, H3⟩
  refine x_aload_n dM_pop_0 rfl ?_
  refine x_iload_n dM_pop_1 rfl ?_
  refine x_callV1 cM_M_no dM_pop_2 H.1 (Nat.le_of_ble_eq_true rfl) (Nat.le_of_ble_eq_true rfl) k1 ?_
  refine x_if_eq 10 dM_pop_5 (by decide) (fun _ => ?_) (fun hq => absurd rfl hq)
  refine x_aload_n dM_pop_10 rfl ?_
  refine x_get fM_layers dM_pop_11 H1.1 rfl ?_
  refine x_iload_n dM_pop_14 rfl ?_
  refine x_iald t dM_pop_15 H1.a6 (by simp only [pk_mul, nI_add]) (by omega) (by decide) ?_
  refine x_iconst (v := (nI 1)) dM_pop_16 (by decide) ?_
  refine x_icmp_ne 26 dM_pop_17 (by decide) (fun _ => ?_) (fun hq => absurd ((nI_eq (show qI μ 6 t < 2 ^ 31 by omega) (by decide)).mp hq) (by omega))
  refine x_aload_n dM_pop_26 rfl ?_
  refine x_get fM_layers dM_pop_27 H1.1 rfl ?_
  refine x_iload_n dM_pop_30 rfl ?_
  refine x_dup2 dM_pop_31 rfl rfl ?_
  refine x_iald t dM_pop_32 H1.a6 (by simp only [pk_mul, nI_add]) (by omega) (by decide) ?_
  refine x_iconst (v := (nI 1)) dM_pop_33 (by decide) ?_
  refine x_isub dM_pop_34 ?_
  refine x_top (v' := .int (nI l)) (by show Value.int (nI (qI μ 6 t) - nI 1) = _; rw [hl, pk_sub (by omega)]; rfl) ?_
  refine x_iast t dM_pop_35 H1.a6 (by omega) (by simp only [pk_mul, nI_add]) (by omega) (by decide) ?_
  refine x_iconst (v := (nI 0)) dM_pop_36 (by decide) ?_
  refine x_istore_n dM_pop_37 (Nat.le_of_ble_eq_true rfl) ?_
  exact k3
def mcom1 (t c : Nat) (μ : qS) : qS := sI (sI (sL (sI μ 10 (520 * c + qI μ 9 c) (qK μ)) 12 (520 * c + qI μ 9 c) (mrd μ t c)) 9 c (qI μ 9 c + 1)) 11 c (qK μ)
def mcom (t : Nat) : Nat → Nat → qS → qS
  | 0, _, μ => μ
  | n + 1, c, μ => mcom t n (c + 1) (if mlo μ t c = 0 then μ else mcom1 t c μ)
theorem m_commit_bad {t : Int32} (hb : E.2.2.1 ≤ m) (H : QP m h0 μ h) (hbad : qbad μ t) : ∃ h', xG E (d + 3) mM_commit 0 [(0, .ref m), (1, .int t)] [] false h (true, .inl (some (.int (nI 0))), h') ∧ QP m h0 (sX μ 1) h' := by
  obtain ⟨h1, k1, H1⟩ := m_no_bad (d := d + 2) hb H hbad
  refine ⟨h1, ?_, H1⟩
  refine x_aload_n dM_commit_0 rfl ?_
  refine x_iload_n dM_commit_1 rfl ?_
  refine x_callV1 cM_M_no dM_commit_2 H.1 (Nat.le_of_ble_eq_true rfl) (Nat.le_of_ble_eq_true rfl) k1 ?_
  refine x_if_eq 10 dM_commit_5 (by decide) (fun hq => absurd hq (by decide)) (fun _ => ?_)
  refine x_iconst (v := (nI 0)) dM_commit_8 (by decide) ?_
  exact x_iret rfl dM_commit_9
theorem m_commit_sp {t : Nat} (hb : E.2.2.1 ≤ m) (H : QP m h0 μ h) (ht : t < 16) (ho : qZ μ 1 t = true) (hl : qI μ 6 t ≤ 8) (hs : qI μ 4 t < 2 ^ 31) (hk : qI μ 5 t < 2 ^ 31) (hla : ∀ c, c < 16 → qI μ 11 c < 2 ^ 31) (hsp : msc μ t ≠ 0) : ∃ h', xG E (d + 3) mM_commit 0 [(0, .ref m), (1, .int (nI t))] [] false h (true, .inl (some (.int (-1))), h') ∧ QP m h0 (sZ (sX μ 0) 1 t false) h' := by
  have hle : msc μ t ≤ 16 := cnt_le _ _
  obtain ⟨h1, k1, H1⟩ := m_no (d := d + 2) hb H ht ho
  refine ⟨_, ?_, H1.s1 t false⟩
  refine x_aload_n dM_commit_0 rfl ?_
  refine x_iload_n dM_commit_1 rfl ?_
  refine x_callV1 cM_M_no dM_commit_2 H.1 (Nat.le_of_ble_eq_true rfl) (Nat.le_of_ble_eq_true rfl) k1 ?_
  refine x_if_eq 10 dM_commit_5 (by decide) (fun _ => ?_) (fun hq => absurd rfl hq)
  refine x_aload_n dM_commit_10 rfl ?_
  refine x_iload_n dM_commit_11 rfl ?_
  refine x_callV1 cM_M_spoils dM_commit_12 H1.1 (Nat.le_of_ble_eq_true rfl) (Nat.le_of_ble_eq_true rfl) (m_spoils (d := d) H1 ht hl hs hk hla) ?_
  refine x_if_le 27 dM_commit_15 (by decide) (fun hq => absurd (Nat.le_zero.mp ((nI_leI (b := 0) (show msc μ t < 2 ^ 31 by omega) (by decide)).mp hq)) hsp) (fun _ => ?_)
  refine x_aload_n dM_commit_18 rfl ?_
  refine x_get fM_open dM_commit_19 H1.1 rfl ?_
  refine x_iload_n dM_commit_22 rfl ?_
  refine x_iconst (v := (xb false)) dM_commit_23 (by decide) ?_
  refine x_zast t dM_commit_24 H1.a1 (by omega) (by simp only [pk_mul, nI_add]) (by omega) (by decide) rfl ?_
  refine x_iconst (v := (-1)) dM_commit_25 (by decide) ?_
  exact x_iret rfl dM_commit_26
theorem m_commit_full {t : Nat} (hb : E.2.2.1 ≤ m) (H : QP m h0 μ h) (ht : t < 16) (ho : qZ μ 1 t = true) (hl : qI μ 6 t ≤ 8) (hs : qI μ 4 t < 2 ^ 31) (hk : qI μ 5 t < 2 ^ 31) (hla : ∀ c, c < 16 → qI μ 11 c < 2 ^ 31) (hsp : msc μ t = 0) (hal : sumN (qI μ 9) 16 ≤ 60000) (hf : ¬ (sumN (qI μ 9) 16 + mwr μ t ≤ 500)) : ∃ h', xG E (d + 3) mM_commit 0 [(0, .ref m), (1, .int (nI t))] [] false h (true, .inl (some (.int (nI 0))), h') ∧ QP m h0 (sX (sX μ 0) 2) h' := by
  have hle : mwr μ t ≤ 16 := cnt_le _ _
  obtain ⟨h1, k1, H1⟩ := m_no (d := d + 2) hb H ht ho
  obtain ⟨h2, k2, H2⟩ := m_fail (d := d + 2) (x := 2) hb H1
  refine ⟨h2, ?_, H2⟩
  refine x_aload_n dM_commit_0 rfl ?_
  refine x_iload_n dM_commit_1 rfl ?_
  refine x_callV1 cM_M_no dM_commit_2 H.1 (Nat.le_of_ble_eq_true rfl) (Nat.le_of_ble_eq_true rfl) k1 ?_
  refine x_if_eq 10 dM_commit_5 (by decide) (fun _ => ?_) (fun hq => absurd rfl hq)
  refine x_aload_n dM_commit_10 rfl ?_
  refine x_iload_n dM_commit_11 rfl ?_
  refine x_callV1 cM_M_spoils dM_commit_12 H1.1 (Nat.le_of_ble_eq_true rfl) (Nat.le_of_ble_eq_true rfl) (m_spoils (d := d) H1 ht hl hs hk hla) ?_
  refine x_if_le 27 dM_commit_15 (by decide) (fun _ => ?_) (fun hq => absurd (nI_le (b := 0) (Nat.le_of_eq hsp) (by decide)) hq)
  refine x_aload_n dM_commit_27 rfl ?_
  refine x_iload_n dM_commit_28 rfl ?_
  refine x_callV1 cM_M_written dM_commit_29 H1.1 (Nat.le_of_ble_eq_true rfl) (Nat.le_of_ble_eq_true rfl) (m_written (d := d + 1) H1 ht hl) ?_
  refine x_istore_n dM_commit_32 (Nat.le_of_ble_eq_true rfl) ?_
  refine x_aload_n dM_commit_33 rfl ?_
  refine x_callV0 cM_M_all dM_commit_34 H1.1 (Nat.le_of_ble_eq_true rfl) (Nat.le_of_ble_eq_true rfl) (m_all (d := d + 2) H1) ?_
  refine x_iload_n dM_commit_37 rfl ?_
  refine x_iadd dM_commit_38 ?_
  refine x_top (v' := .int (nI (sumN (qI μ 9) 16 + mwr μ t))) (by rw [nI_add]; rfl) ?_
  refine x_sipush (v := (nI 500)) dM_commit_39 (by decide) ?_
  refine x_icmp_le 51 dM_commit_42 (by decide) (fun hq => absurd ((nI_leI (by omega) (by decide)).mp hq) hf) (fun _ => ?_)
  refine x_aload_n dM_commit_45 rfl ?_
  refine x_iconst (v := (nI 2)) dM_commit_46 (by decide) ?_
  refine x_callV1 cM_M_fail dM_commit_47 H1.1 (Nat.le_of_ble_eq_true rfl) (Nat.le_of_ble_eq_true rfl) k2 ?_
  exact x_iret rfl dM_commit_50
theorem m_commit_idle {t : Nat} (hb : E.2.2.1 ≤ m) (H : QP m h0 μ h) (ht : t < 16) (ho : qZ μ 1 t = true) (hl : qI μ 6 t ≤ 8) (hs : qI μ 4 t < 2 ^ 31) (hk : qI μ 5 t < 2 ^ 31) (hla : ∀ c, c < 16 → qI μ 11 c < 2 ^ 31) (hsp : msc μ t = 0) (hf : sumN (qI μ 9) 16 + mwr μ t ≤ 500) (hw : mwr μ t = 0) : ∃ h', xG E (d + 3) mM_commit 0 [(0, .ref m), (1, .int (nI t))] [] false h (true, .inl (some (.int (nI (qK μ)))), h') ∧ QP m h0 (sZ (sX μ 0) 1 t false) h' := by
  obtain ⟨h1, k1, H1⟩ := m_no (d := d + 2) hb H ht ho
  have H2 := H1.s1 t false
  refine ⟨_, ?_, H2⟩
  refine x_aload_n dM_commit_0 rfl ?_
  refine x_iload_n dM_commit_1 rfl ?_
  refine x_callV1 cM_M_no dM_commit_2 H.1 (Nat.le_of_ble_eq_true rfl) (Nat.le_of_ble_eq_true rfl) k1 ?_
  refine x_if_eq 10 dM_commit_5 (by decide) (fun _ => ?_) (fun hq => absurd rfl hq)
  refine x_aload_n dM_commit_10 rfl ?_
  refine x_iload_n dM_commit_11 rfl ?_
  refine x_callV1 cM_M_spoils dM_commit_12 H1.1 (Nat.le_of_ble_eq_true rfl) (Nat.le_of_ble_eq_true rfl) (m_spoils (d := d) H1 ht hl hs hk hla) ?_
  refine x_if_le 27 dM_commit_15 (by decide) (fun _ => ?_) (fun hq => absurd (nI_le (b := 0) (Nat.le_of_eq hsp) (by decide)) hq)
  refine x_aload_n dM_commit_27 rfl ?_
  refine x_iload_n dM_commit_28 rfl ?_
  refine x_callV1 cM_M_written dM_commit_29 H1.1 (Nat.le_of_ble_eq_true rfl) (Nat.le_of_ble_eq_true rfl) (m_written (d := d + 1) H1 ht hl) ?_
  refine x_istore_n dM_commit_32 (Nat.le_of_ble_eq_true rfl) ?_
  refine x_aload_n dM_commit_33 rfl ?_
  refine x_callV0 cM_M_all dM_commit_34 H1.1 (Nat.le_of_ble_eq_true rfl) (Nat.le_of_ble_eq_true rfl) (m_all (d := d + 2) H1) ?_
  refine x_iload_n dM_commit_37 rfl ?_
  refine x_iadd dM_commit_38 ?_
  refine x_top (v' := .int (nI (sumN (qI μ 9) 16 + mwr μ t))) (by rw [nI_add]; rfl) ?_
  refine x_sipush (v := (nI 500)) dM_commit_39 (by decide) ?_
  refine x_icmp_le 51 dM_commit_42 (by decide) (fun _ => ?_) (fun hq => absurd (nI_le hf (by decide)) hq)
  refine x_aload_n dM_commit_51 rfl ?_
  refine x_get fM_open dM_commit_52 H1.1 rfl ?_
  refine x_iload_n dM_commit_55 rfl ?_
  refine x_iconst (v := (xb false)) dM_commit_56 (by decide) ?_
  refine x_zast t dM_commit_57 H1.a1 (by omega) (by simp only [pk_mul, nI_add]) (by omega) (by decide) rfl ?_
  refine x_iload_n dM_commit_58 rfl ?_
  refine x_if_ne 67 dM_commit_59 (by decide) (fun hq => absurd (by show nI (mwr μ t) = 0; rw [hw]; rfl) hq) (fun _ => ?_)
  refine x_aload_n dM_commit_62 rfl ?_
  refine x_get fM_clock dM_commit_63 H2.1 rfl ?_
  exact x_iret rfl dM_commit_66
theorem m_commit_loop {t : Nat} {n0 : Int32} (hb : E.2.2.1 ≤ m) (ht : t < 16) : ∀ (n c : Nat) (μ : qS) (h : xH), c + n = 16 → qI μ 6 t ≤ 8 → (∀ c', c ≤ c' → c' < 16 → qI μ 9 c' < 520) → QP m h0 μ h → ∃ h', xG E (d + 3) mM_commit 79 [(3, .int (nI c)), (2, .int n0), (0, .ref m), (1, .int (nI t))] [] true h (true, .inl (some (.int (nI (qK μ)))), h') ∧ QP m h0 (mcom t n c μ) h' := by
  intro n
  induction n with
  | zero =>
    intro c μ h hc hl hv H
    obtain rfl : c = 16 := by omega
    refine ⟨_, ?_, H⟩
    refine x_iload_n dM_commit_79 rfl ?_
    refine x_bipush (v := (nI 16)) dM_commit_80 (by decide) ?_
    refine x_icmp_ge 168 dM_commit_82 (by decide) (fun _ => ?_) (fun hq => absurd (nI_le (by omega) (by omega)) hq)
    refine x_aload_n dM_commit_168 rfl ?_
    refine x_get fM_clock dM_commit_169 H.1 rfl ?_
    exact x_iret rfl dM_commit_172
  | succ n ih =>
    intro c μ h hc hl hv H
    have hle := mlo_le μ t c
    by_cases hz : mlo μ t c = 0
    · obtain ⟨h', k, H'⟩ := ih (c + 1) μ h (by omega) hl (fun c' h1 h2 => hv c' (by omega) h2) H
      refine ⟨h', ?_, ?_⟩
      · refine x_iload_n dM_commit_79 rfl ?_
        refine x_bipush (v := (nI 16)) dM_commit_80 (by decide) ?_
        refine x_icmp_ge 168 dM_commit_82 (by decide) (fun hq => absurd hq (nI_ge (by omega) (by omega))) (fun _ => ?_)
        refine x_aload_n dM_commit_85 rfl ?_
        refine x_iload_n dM_commit_86 rfl ?_
        refine x_iload_n dM_commit_87 rfl ?_
        refine x_callV2 cM_M_layerOf dM_commit_88 H.1 (Nat.le_of_ble_eq_true rfl) (Nat.le_of_ble_eq_true rfl) (m_layerOf (d := d + 2) H ht (by omega) hl) ?_
        refine x_iconst (v := (-1)) dM_commit_91 (by decide) ?_
        refine x_icmp_ne 98 dM_commit_92 (by decide) (fun hq => absurd ((xpi_m1 (by omega)).mpr hz) hq) (fun _ => ?_)
        refine x_goto 162 dM_commit_95 (by decide) ?_
        refine x_iinc (v := nI (c + 1)) dM_commit_162 rfl (by rw [nI_succ]; rfl) (Nat.le_of_ble_eq_true rfl) ?_
        refine x_goto 79 dM_commit_165 (by decide) ?_
        exact k
      · rw [show mcom t (n + 1) c μ = _ from congrArg (mcom t n (c + 1)) (if_pos hz)]
        exact H'
    · have hvc := hv c (Nat.le_refl _) (by omega)
      have H1 := H.s10 (520 * c + qI μ 9 c) (qK μ)
      have em : mrd (sI μ 10 (520 * c + qI μ 9 c) (qK μ)) t c = mrd μ t c := by unfold mrd mlo; rw [sI_ne (by decide)]; rfl
      have H2 := H1.s12 (520 * c + qI μ 9 c) (mrd μ t c)
      have H3 := H2.s9 c (qI μ 9 c + 1)
      have H4 := H3.s11 c (qK μ)
      have e6 : qI (mcom1 t c μ) 6 = qI μ 6 := by
        unfold mcom1
        rw [sI_ne (by decide), sI_ne (by decide), qI_sL, sI_ne (by decide)]
      have e9 : qI (mcom1 t c μ) 9 = va_up (qI μ 9) c (qI μ 9 c + 1) := by
        unfold mcom1
        rw [sI_ne (by decide), sI_at, qI_sL, sI_ne (by decide)]
      obtain ⟨h', k, H'⟩ := ih (c + 1) (mcom1 t c μ) _ (by omega) (by rw [e6]; exact hl) (fun c' g1 g2 => by rw [e9, up_ne _ _ (by omega)]; exact hv c' (by omega) g2) H4
      refine ⟨h', ?_, ?_⟩
      · refine x_iload_n dM_commit_79 rfl ?_
        refine x_bipush (v := (nI 16)) dM_commit_80 (by decide) ?_
        refine x_icmp_ge 168 dM_commit_82 (by decide) (fun hq => absurd hq (nI_ge (by omega) (by omega))) (fun _ => ?_)
        refine x_aload_n dM_commit_85 rfl ?_
        refine x_iload_n dM_commit_86 rfl ?_
        refine x_iload_n dM_commit_87 rfl ?_
        refine x_callV2 cM_M_layerOf dM_commit_88 H.1 (Nat.le_of_ble_eq_true rfl) (Nat.le_of_ble_eq_true rfl) (m_layerOf (d := d + 2) H ht (by omega) hl) ?_
        refine x_iconst (v := (-1)) dM_commit_91 (by decide) ?_
        refine x_icmp_ne 98 dM_commit_92 (by decide) (fun _ => ?_) (fun hq => absurd ((xpi_m1 (by omega)).mp hq) hz)
        refine x_aload_n dM_commit_98 rfl ?_
        refine x_get fM_at dM_commit_99 H.1 rfl ?_
        refine x_sipush (v := (nI 520)) dM_commit_102 (by decide) ?_
        refine x_iload_n dM_commit_105 rfl ?_
        refine x_imul dM_commit_106 ?_
        refine x_aload_n dM_commit_107 rfl ?_
        refine x_get fM_versions dM_commit_108 H.1 rfl ?_
        refine x_iload_n dM_commit_111 rfl ?_
        refine x_iald c dM_commit_112 H.a9 (by simp only [pk_mul, nI_add]) (by omega) (by decide) ?_
        refine x_iadd dM_commit_113 ?_
        refine x_aload_n dM_commit_114 rfl ?_
        refine x_get fM_clock dM_commit_115 H.1 rfl ?_
        refine x_iast (520 * c + qI μ 9 c) dM_commit_118 H.a10 (by omega) (by simp only [pk_mul, nI_add]) (by omega) (by decide) ?_
        refine x_aload_n dM_commit_119 rfl ?_
        refine x_get fM_was dM_commit_120 H1.1 rfl ?_
        refine x_sipush (v := (nI 520)) dM_commit_123 (by decide) ?_
        refine x_iload_n dM_commit_126 rfl ?_
        refine x_imul dM_commit_127 ?_
        refine x_aload_n dM_commit_128 rfl ?_
        refine x_get fM_versions dM_commit_129 H1.1 rfl ?_
        refine x_iload_n dM_commit_132 rfl ?_
        refine x_iald c dM_commit_133 H1.a9 (by simp only [pk_mul, nI_add]) (by omega) (by decide) ?_
        refine x_iadd dM_commit_134 ?_
        refine x_aload_n dM_commit_135 rfl ?_
        refine x_iload_n dM_commit_136 rfl ?_
        refine x_iload_n dM_commit_137 rfl ?_
        refine x_callV2 cM_M_reading dM_commit_138 H1.1 (Nat.le_of_ble_eq_true rfl) (Nat.le_of_ble_eq_true rfl) (m_reading (d := d + 1) H1 ht (by omega) hl) ?_
        rw [em]
        refine x_last (520 * c + qI μ 9 c) dM_commit_141 H1.a12 (by omega) (by simp only [pk_mul, nI_add]; rfl) (by omega) (by decide) ?_
        refine x_aload_n dM_commit_142 rfl ?_
        refine x_get fM_versions dM_commit_143 H2.1 rfl ?_
        refine x_iload_n dM_commit_146 rfl ?_
        refine x_dup2 dM_commit_147 rfl rfl ?_
        refine x_iald c dM_commit_148 H2.a9 (by simp only [pk_mul, nI_add]) (by omega) (by decide) ?_
        refine x_iconst (v := (nI 1)) dM_commit_149 (by decide) ?_
        refine x_iadd dM_commit_150 ?_
        refine x_top (v' := .int (nI (qI μ 9 c + 1))) (by rw [← nI_add]; rfl) ?_
        refine x_iast c dM_commit_151 H2.a9 (by omega) (by simp only [pk_mul, nI_add]) (by omega) (by decide) ?_
        refine x_aload_n dM_commit_152 rfl ?_
        refine x_get fM_last dM_commit_153 H3.1 rfl ?_
        refine x_iload_n dM_commit_156 rfl ?_
        refine x_aload_n dM_commit_157 rfl ?_
        refine x_get fM_clock dM_commit_158 H3.1 rfl ?_
        refine x_iast c dM_commit_161 H3.a11 (by omega) (by simp only [pk_mul, nI_add]) (by omega) (by decide) ?_
        refine x_iinc (v := nI (c + 1)) dM_commit_162 rfl (by rw [nI_succ]; rfl) (Nat.le_of_ble_eq_true rfl) ?_
        refine x_goto 79 dM_commit_165 (by decide) ?_
        exact k
      · rw [show mcom t (n + 1) c μ = _ from congrArg (mcom t n (c + 1)) (if_neg hz)]
        exact H'
def qCommit (μ : qS) (t : Nat) : qS := mcom t 16 0 (sC (sZ (sX μ 0) 1 t false) (qK μ + 1))
theorem m_commit_ok {t : Nat} (hb : E.2.2.1 ≤ m) (H : QP m h0 μ h) (ht : t < 16) (ho : qZ μ 1 t = true) (hl : qI μ 6 t ≤ 8) (hs : qI μ 4 t < 2 ^ 31) (hk : qI μ 5 t < 2 ^ 31) (hla : ∀ c, c < 16 → qI μ 11 c < 2 ^ 31) (hsp : msc μ t = 0) (hf : sumN (qI μ 9) 16 + mwr μ t ≤ 500) (hw : mwr μ t ≠ 0) (hv : ∀ c, c < 16 → qI μ 9 c < 520) : ∃ h', xG E (d + 3) mM_commit 0 [(0, .ref m), (1, .int (nI t))] [] false h (true, .inl (some (.int (nI (qK μ + 1)))), h') ∧ QP m h0 (qCommit μ t) h' := by
  have hle : mwr μ t ≤ 16 := cnt_le _ _
  obtain ⟨h1, k1, H1⟩ := m_no (d := d + 2) hb H ht ho
  have H2 := H1.s1 t false
  have H3 := H2.c (qK μ + 1)
  obtain ⟨h4, k4, H4⟩ := m_commit_loop (E := E) (d := d) (n0 := nI (mwr μ t)) hb ht 16 0 (sC (sZ (sX μ 0) 1 t false) (qK μ + 1)) _ rfl hl (fun c' _ g => hv c' g) H3
  refine ⟨h4, ?_, H4⟩
  refine x_aload_n dM_commit_0 rfl ?_
  refine x_iload_n dM_commit_1 rfl ?_
  refine x_callV1 cM_M_no dM_commit_2 H.1 (Nat.le_of_ble_eq_true rfl) (Nat.le_of_ble_eq_true rfl) k1 ?_
  refine x_if_eq 10 dM_commit_5 (by decide) (fun _ => ?_) (fun hq => absurd rfl hq)
  refine x_aload_n dM_commit_10 rfl ?_
  refine x_iload_n dM_commit_11 rfl ?_
  refine x_callV1 cM_M_spoils dM_commit_12 H1.1 (Nat.le_of_ble_eq_true rfl) (Nat.le_of_ble_eq_true rfl) (m_spoils (d := d) H1 ht hl hs hk hla) ?_
  refine x_if_le 27 dM_commit_15 (by decide) (fun _ => ?_) (fun hq => absurd (nI_le (b := 0) (Nat.le_of_eq hsp) (by decide)) hq)
  refine x_aload_n dM_commit_27 rfl ?_
  refine x_iload_n dM_commit_28 rfl ?_
  refine x_callV1 cM_M_written dM_commit_29 H1.1 (Nat.le_of_ble_eq_true rfl) (Nat.le_of_ble_eq_true rfl) (m_written (d := d + 1) H1 ht hl) ?_
  refine x_istore_n dM_commit_32 (Nat.le_of_ble_eq_true rfl) ?_
  refine x_aload_n dM_commit_33 rfl ?_
  refine x_callV0 cM_M_all dM_commit_34 H1.1 (Nat.le_of_ble_eq_true rfl) (Nat.le_of_ble_eq_true rfl) (m_all (d := d + 2) H1) ?_
  refine x_iload_n dM_commit_37 rfl ?_
  refine x_iadd dM_commit_38 ?_
  refine x_top (v' := .int (nI (sumN (qI μ 9) 16 + mwr μ t))) (by rw [nI_add]; rfl) ?_
  refine x_sipush (v := (nI 500)) dM_commit_39 (by decide) ?_
  refine x_icmp_le 51 dM_commit_42 (by decide) (fun _ => ?_) (fun hq => absurd (nI_le hf (by decide)) hq)
  refine x_aload_n dM_commit_51 rfl ?_
  refine x_get fM_open dM_commit_52 H1.1 rfl ?_
  refine x_iload_n dM_commit_55 rfl ?_
  refine x_iconst (v := (xb false)) dM_commit_56 (by decide) ?_
  refine x_zast t dM_commit_57 H1.a1 (by omega) (by simp only [pk_mul, nI_add]) (by omega) (by decide) rfl ?_
  refine x_iload_n dM_commit_58 rfl ?_
  refine x_if_ne 67 dM_commit_59 (by decide) (fun _ => ?_) (fun hq => absurd ((nI_eq (b := 0) (show mwr μ t < 2 ^ 31 by omega) (by decide)).mp hq) hw)
  refine x_aload_n dM_commit_67 rfl ?_
  refine x_dup dM_commit_68 rfl ?_
  refine x_get fM_clock dM_commit_69 H2.1 rfl ?_
  refine x_iconst (v := (nI 1)) dM_commit_72 (by decide) ?_
  refine x_iadd dM_commit_73 ?_
  refine x_top (v' := .int (nI (qK μ + 1))) (by rw [← nI_add]; rfl) ?_
  refine x_put fM_clock dM_commit_74 H2.1 (by omega) rfl rfl (Nat.le_of_ble_eq_true rfl) ?_
  refine x_iconst (v := (nI 0)) dM_commit_77 (by decide) ?_
  refine x_istore_n dM_commit_78 (Nat.le_of_ble_eq_true rfl) ?_
  exact k4
def mpv (f : Nat → Nat) (k : Nat) : Nat → Nat → Nat
  | 0, v => v
  | n + 1, v => if f (v + 1) ≤ k then mpv f k n (v + 1) else v
theorem m_past_bad {c k : Int32} (hb : E.2.2.1 ≤ m) (H : QP m h0 μ h) (hbad : badc c ∨ ∃ j, j < 16 ∧ c = nI j ∧ (k < 0 ∨ nI (qK μ) < k ∨ k < nI (qI μ 10 (520 * j)))) : ∃ h', xG E d mM_past 0 [(0, .ref m), (1, .int c), (2, .int k)] [] false h (true, .inl (some (.long 0)), h') ∧ QP m h0 (sX μ 1) h' := by
  have H1 := H.x 1
  refine ⟨_, ?_, H1⟩
  have go : ∀ w, xG E d mM_past 37 [(0, .ref m), (1, .int c), (2, .int k)] [.ref m] w h (true, .inl (some (.long 0)), xset h m (qC m 1 (qK μ))) := by
    intro w
    refine x_iconst (v := (nI 1)) dM_past_37 (by decide) ?_
    refine x_goto 42 dM_past_38 (by decide) ?_
    refine x_put fM_thrown dM_past_42 H.1 (by omega) rfl rfl (Nat.le_of_ble_eq_true rfl) ?_
    refine x_aload_n dM_past_45 rfl ?_
    refine x_get fM_thrown dM_past_46 H1.1 rfl ?_
    refine x_if_le 54 dM_past_49 (by decide) (fun hq => absurd hq (show ¬ nI 1 ≤ 0 by decide)) (fun _ => ?_)
    refine x_lconst (v := 0) dM_past_52 (by decide) ?_
    exact x_lret rfl dM_past_53
  refine x_aload_n dM_past_0 rfl ?_
  refine x_iload_n dM_past_1 rfl ?_
  refine x_if_lt 37 dM_past_2 (by decide) (fun _ => go _) (fun hn => ?_)
  refine x_iload_n dM_past_5 rfl ?_
  refine x_bipush (v := (nI 16)) dM_past_6 (by decide) ?_
  refine x_icmp_ge 37 dM_past_8 (by decide) (fun _ => go _) (fun hn2 => ?_)
  rcases hbad with hbad | ⟨j, hj, rfl, hbad⟩
  · exact absurd (hbad.resolve_left hn) hn2
  refine x_iload_n dM_past_11 rfl ?_
  refine x_if_lt 37 dM_past_12 (by decide) (fun _ => go _) (fun hn3 => ?_)
  refine x_iload_n dM_past_15 rfl ?_
  refine x_aload_n dM_past_16 rfl ?_
  refine x_get fM_clock dM_past_17 H.1 rfl ?_
  refine x_icmp_gt 37 dM_past_20 (by decide) (fun _ => go _) (fun hn4 => ?_)
  have h5 := (hbad.resolve_left hn3).resolve_left hn4
  refine x_aload_n dM_past_23 rfl ?_
  refine x_get fM_at dM_past_24 H.1 rfl ?_
  refine x_sipush (v := (nI 520)) dM_past_27 (by decide) ?_
  refine x_iload_n dM_past_30 rfl ?_
  refine x_imul dM_past_31 ?_
  refine x_iald (520 * j) dM_past_32 H.a10 (by simp only [pk_mul, nI_add]) (by omega) (by decide) ?_
  refine x_iload_n dM_past_33 rfl ?_
  refine x_icmp_le 41 dM_past_34 (by decide) (fun hq => absurd h5 (Int32.not_lt.mpr hq)) (fun _ => go _)
theorem m_past_loop {c k : Nat} (H : QP m h0 μ h) (hc : c < 16) (hk : k < 2 ^ 31) (hv : qI μ 9 c ≤ 500) (hat : ∀ v, v < qI μ 9 c → qI μ 10 (520 * c + v) < 2 ^ 31) : ∀ n v : Nat, v + n + 1 = qI μ 9 c → xG E d mM_past 56 [(3, .int (nI v)), (0, .ref m), (1, .int (nI c)), (2, .int (nI k))] [] true h (true, .inl (some (.long (qL μ 12 (520 * c + mpv (fun v => qI μ 10 (520 * c + v)) k n v)))), h) := by
  intro n
  induction n with
  | zero =>
    intro v hn
    refine x_iload_n dM_past_56 rfl ?_
    refine x_iconst (v := (nI 1)) dM_past_57 (by decide) ?_
    refine x_iadd dM_past_58 ?_
    refine x_aload_n dM_past_59 rfl ?_
    refine x_get fM_versions dM_past_60 H.1 rfl ?_
    refine x_iload_n dM_past_63 rfl ?_
    refine x_iald c dM_past_64 H.a9 (by simp only [pk_mul, nI_add]) (by omega) (by decide) ?_
    refine x_icmp_ge 92 dM_past_65 (by decide) (fun _ => ?_) (fun hq => absurd (by show nI (qI μ 9 c) ≤ nI v + nI 1; rw [nI_add]; exact nI_le (by omega) (by omega)) hq)
    refine x_aload_n dM_past_92 rfl ?_
    refine x_get fM_was dM_past_93 H.1 rfl ?_
    refine x_sipush (v := (nI 520)) dM_past_96 (by decide) ?_
    refine x_iload_n dM_past_99 rfl ?_
    refine x_imul dM_past_100 ?_
    refine x_iload_n dM_past_101 rfl ?_
    refine x_iadd dM_past_102 ?_
    refine x_lald (520 * c + v) dM_past_103 H.a12 (by simp only [pk_mul, nI_add]) (by omega) (by decide) ?_
    exact x_lret rfl dM_past_104
  | succ n ih =>
    intro v hn
    have hat1 := hat (v + 1) (by omega)
    refine x_iload_n dM_past_56 rfl ?_
    refine x_iconst (v := (nI 1)) dM_past_57 (by decide) ?_
    refine x_iadd dM_past_58 ?_
    refine x_aload_n dM_past_59 rfl ?_
    refine x_get fM_versions dM_past_60 H.1 rfl ?_
    refine x_iload_n dM_past_63 rfl ?_
    refine x_iald c dM_past_64 H.a9 (by simp only [pk_mul, nI_add]) (by omega) (by decide) ?_
    refine x_icmp_ge 92 dM_past_65 (by decide) (fun hq => absurd (show nI (qI μ 9 c) ≤ nI v + nI 1 from hq) (by rw [nI_add]; exact nI_ge (by omega) (by omega))) (fun _ => ?_)
    refine x_aload_n dM_past_68 rfl ?_
    refine x_get fM_at dM_past_69 H.1 rfl ?_
    refine x_sipush (v := (nI 520)) dM_past_72 (by decide) ?_
    refine x_iload_n dM_past_75 rfl ?_
    refine x_imul dM_past_76 ?_
    refine x_iload_n dM_past_77 rfl ?_
    refine x_iadd dM_past_78 ?_
    refine x_iconst (v := (nI 1)) dM_past_79 (by decide) ?_
    refine x_iadd dM_past_80 ?_
    refine x_iald (520 * c + (v + 1)) dM_past_81 H.a10 (by simp only [pk_mul, nI_add]; rfl) (by omega) (by decide) ?_
    refine x_iload_n dM_past_82 rfl ?_
    refine x_icmp_gt 92 dM_past_83 (by decide) (fun hq => ?_) (fun hq => ?_)
    · rw [show mpv (fun v => qI μ 10 (520 * c + v)) k (n + 1) v = v from if_neg (fun z => absurd hq (nI_nlt z hk))]
      refine x_aload_n dM_past_92 rfl ?_
      refine x_get fM_was dM_past_93 H.1 rfl ?_
      refine x_sipush (v := (nI 520)) dM_past_96 (by decide) ?_
      refine x_iload_n dM_past_99 rfl ?_
      refine x_imul dM_past_100 ?_
      refine x_iload_n dM_past_101 rfl ?_
      refine x_iadd dM_past_102 ?_
      refine x_lald (520 * c + v) dM_past_103 H.a12 (by simp only [pk_mul, nI_add]) (by omega) (by decide) ?_
      exact x_lret rfl dM_past_104
    · rw [show mpv (fun v => qI μ 10 (520 * c + v)) k (n + 1) v = mpv (fun v => qI μ 10 (520 * c + v)) k n (v + 1) from if_pos (Nat.not_lt.mp (fun z => hq (nI_lt z (by omega))))]
      refine x_iinc (v := nI (v + 1)) dM_past_86 rfl (by rw [nI_succ]; rfl) (Nat.le_of_ble_eq_true rfl) ?_
      refine x_goto 56 dM_past_89 (by decide) ?_
      exact ih (v + 1) (by omega)
theorem m_past_ok {c k : Nat} (hb : E.2.2.1 ≤ m) (H : QP m h0 μ h) (hc : c < 16) (hk : k ≤ qK μ) (hkk : qK μ < 2 ^ 31) (hv1 : 1 ≤ qI μ 9 c) (hv : qI μ 9 c ≤ 500) (hat : ∀ v, v < qI μ 9 c → qI μ 10 (520 * c + v) < 2 ^ 31) (hok : qI μ 10 (520 * c) ≤ k) : ∃ h', xG E d mM_past 0 [(0, .ref m), (1, .int (nI c)), (2, .int (nI k))] [] false h (true, .inl (some (.long (qL μ 12 (520 * c + mpv (fun v => qI μ 10 (520 * c + v)) k (qI μ 9 c - 1) 0)))), h') ∧ QP m h0 (sX μ 0) h' := by
  have H1 := H.x 0
  refine ⟨_, ?_, H1⟩
  refine x_aload_n dM_past_0 rfl ?_
  refine x_iload_n dM_past_1 rfl ?_
  refine x_if_lt 37 dM_past_2 (by decide) (fun hq => absurd hq (nI_pos (by omega))) (fun _ => ?_)
  refine x_iload_n dM_past_5 rfl ?_
  refine x_bipush (v := (nI 16)) dM_past_6 (by decide) ?_
  refine x_icmp_ge 37 dM_past_8 (by decide) (fun hq => absurd hq (nI_ge hc (by decide))) (fun _ => ?_)
  refine x_iload_n dM_past_11 rfl ?_
  refine x_if_lt 37 dM_past_12 (by decide) (fun hq => absurd hq (nI_pos (by omega))) (fun _ => ?_)
  refine x_iload_n dM_past_15 rfl ?_
  refine x_aload_n dM_past_16 rfl ?_
  refine x_get fM_clock dM_past_17 H.1 rfl ?_
  refine x_icmp_gt 37 dM_past_20 (by decide) (fun hq => absurd hq (nI_nlt hk (by omega))) (fun _ => ?_)
  refine x_aload_n dM_past_23 rfl ?_
  refine x_get fM_at dM_past_24 H.1 rfl ?_
  refine x_sipush (v := (nI 520)) dM_past_27 (by decide) ?_
  refine x_iload_n dM_past_30 rfl ?_
  refine x_imul dM_past_31 ?_
  refine x_iald (520 * c) dM_past_32 H.a10 (by simp only [pk_mul, nI_add]) (by omega) (by decide) ?_
  refine x_iload_n dM_past_33 rfl ?_
  refine x_icmp_le 41 dM_past_34 (by decide) (fun _ => ?_) (fun hq => absurd (nI_le hok (by omega)) hq)
  refine x_iconst (v := (nI 0)) dM_past_41 (by decide) ?_
  refine x_put fM_thrown dM_past_42 H.1 (by omega) rfl rfl (Nat.le_of_ble_eq_true rfl) ?_
  refine x_aload_n dM_past_45 rfl ?_
  refine x_get fM_thrown dM_past_46 H1.1 rfl ?_
  refine x_if_le 54 dM_past_49 (by decide) (fun _ => ?_) (fun hq => absurd (show nI 0 ≤ 0 by decide) hq)
  refine x_iconst (v := (nI 0)) dM_past_54 (by decide) ?_
  refine x_istore_n dM_past_55 (Nat.le_of_ble_eq_true rfl) ?_
  exact m_past_loop (d := d) H1 hc (by omega) hv hat _ 0 (by show 0 + (qI μ 9 c - 1) + 1 = qI μ 9 c; omega)
theorem m_about_bad {t x : Int32} (hb : E.2.2.1 ≤ m) (H : QP m h0 μ h) (hbad : qbad μ t) : ∃ h', xG E (d + 3) mM_about 0 [(0, .ref m), (1, .int t), (2, .int x)] [] false h (true, .inl (some (.int (nI 0))), h') ∧ QP m h0 (sX μ 1) h' := by
  obtain ⟨h1, k1, H1⟩ := m_no_bad (d := d + 2) hb H hbad
  refine ⟨h1, ?_, H1⟩
  refine x_aload_n dM_about_0 rfl ?_
  refine x_iload_n dM_about_1 rfl ?_
  refine x_callV1 cM_M_no dM_about_2 H.1 (Nat.le_of_ble_eq_true rfl) (Nat.le_of_ble_eq_true rfl) k1 ?_
  refine x_if_eq 10 dM_about_5 (by decide) (fun hq => absurd hq (by decide)) (fun _ => ?_)
  refine x_iconst (v := (nI 0)) dM_about_8 (by decide) ?_
  exact x_iret rfl dM_about_9
theorem m_about_badw {t : Nat} {x : Int32} (hb : E.2.2.1 ≤ m) (H : QP m h0 μ h) (ht : t < 16) (ho : qZ μ 1 t = true) (hw : x.toInt < 0 ∨ 5 < x.toInt) : ∃ h', xG E (d + 3) mM_about 0 [(0, .ref m), (1, .int (nI t)), (2, .int x)] [] false h (true, .inl (some (.int (nI 0))), h') ∧ QP m h0 (sX (sX μ 0) 2) h' := by
  obtain ⟨h1, k1, H1⟩ := m_no (d := d + 2) hb H ht ho
  obtain ⟨h2, k2, H2⟩ := m_fail (d := d + 2) (x := 2) hb H1
  refine ⟨h2, ?_, H2⟩
  refine x_aload_n dM_about_0 rfl ?_
  refine x_iload_n dM_about_1 rfl ?_
  refine x_callV1 cM_M_no dM_about_2 H.1 (Nat.le_of_ble_eq_true rfl) (Nat.le_of_ble_eq_true rfl) k1 ?_
  refine x_if_eq 10 dM_about_5 (by decide) (fun _ => ?_) (fun hq => absurd rfl hq)
  refine x_iload_n dM_about_10 rfl ?_
  refine x_tableOut 119 dM_about_11 hw (by decide) ?_
  refine x_aload_n dM_about_119 rfl ?_
  refine x_iconst (v := (nI 2)) dM_about_120 (by decide) ?_
  refine x_callV1 cM_M_fail dM_about_121 H1.1 (Nat.le_of_ble_eq_true rfl) (Nat.le_of_ble_eq_true rfl) k2 ?_
  exact x_iret rfl dM_about_124
def mab (μ : qS) (t : Nat) : Nat → Nat
  | 0 => qI μ 4 t
  | 1 => qI μ 5 t
  | 2 => qI μ 6 t
  | 3 => mwr μ t
  | 4 => cnt (fun c => qZ μ 2 (16 * t + c)) 16
  | _ => msc μ t
theorem m_about_loop {t : Nat} {x : Int32} (H : QP m h0 μ h) (ht : t < 16) : ∀ n c : Nat, c + n = 16 → xG E d mM_about 80 [(4, .int (nI c)), (3, .int (nI (cnt (fun c => qZ μ 2 (16 * t + c)) c))), (0, .ref m), (1, .int (nI t)), (2, .int x)] [] true h (true, .inl (some (.int (nI (cnt (fun c => qZ μ 2 (16 * t + c)) 16)))), h) := by
  intro n
  induction n with
  | zero =>
    intro c hc
    obtain rfl : c = 16 := by omega
    refine x_iload dM_about_80 rfl ?_
    refine x_bipush (v := (nI 16)) dM_about_82 (by decide) ?_
    refine x_icmp_ge 111 dM_about_84 (by decide) (fun _ => ?_) (fun hq => absurd (nI_le (by omega) (by omega)) hq)
    refine x_iload_n dM_about_111 rfl ?_
    exact x_iret rfl dM_about_112
  | succ n ih =>
    intro c hc
    have ih' := ih (c + 1) (by omega)
    refine x_iload dM_about_80 rfl ?_
    refine x_bipush (v := (nI 16)) dM_about_82 (by decide) ?_
    refine x_icmp_ge 111 dM_about_84 (by decide) (fun hq => absurd hq (nI_ge (by omega) (by omega))) (fun _ => ?_)
    refine x_aload_n dM_about_87 rfl ?_
    refine x_get fM_saw dM_about_88 H.1 rfl ?_
    refine x_bipush (v := (nI 16)) dM_about_91 (by decide) ?_
    refine x_iload_n dM_about_93 rfl ?_
    refine x_imul dM_about_94 ?_
    refine x_iload dM_about_95 rfl ?_
    refine x_iadd dM_about_97 ?_
    refine x_zald (16 * t + c) dM_about_98 H.a2 (by simp only [pk_mul, nI_add]) (by omega) (by decide) ?_
    refine x_if_eq 105 dM_about_99 (by decide) (fun hq => ?_) (fun hq => ?_)
    · rw [show cnt (fun c => qZ μ 2 (16 * t + c)) (c + 1) = cnt (fun c => qZ μ 2 (16 * t + c)) c from if_neg (fun z => xb_ne z hq)] at ih'
      refine x_iinc (v := nI (c + 1)) dM_about_105 rfl (by rw [nI_succ]; rfl) (Nat.le_of_ble_eq_true rfl) ?_
      refine x_goto 80 dM_about_108 (by decide) ?_
      exact ih'
    · rw [show cnt (fun c => qZ μ 2 (16 * t + c)) (c + 1) = cnt (fun c => qZ μ 2 (16 * t + c)) c + 1 from if_pos (by
        show qZ μ 2 (16 * t + c) = true
        cases hx : qZ μ 2 (16 * t + c)
        · exact absurd (xb_eq hx) hq
        · rfl)] at ih'
      refine x_iinc (v := nI (cnt (fun c => qZ μ 2 (16 * t + c)) c + 1)) dM_about_102 rfl (by rw [nI_succ]; rfl) (Nat.le_of_ble_eq_true rfl) ?_
      refine x_iinc (v := nI (c + 1)) dM_about_105 rfl (by rw [nI_succ]; rfl) (Nat.le_of_ble_eq_true rfl) ?_
      refine x_goto 80 dM_about_108 (by decide) ?_
      exact x_loc _ (xac rfl (xac rfl (xac rfl (xac rfl (xac rfl xan))))) ih'
theorem m_about_ok {t x : Nat} (hb : E.2.2.1 ≤ m) (H : QP m h0 μ h) (ht : t < 16) (ho : qZ μ 1 t = true) (hl : qI μ 6 t ≤ 8) (hs : qI μ 4 t < 2 ^ 31) (hk : qI μ 5 t < 2 ^ 31) (hla : ∀ c, c < 16 → qI μ 11 c < 2 ^ 31) (hx : x ≤ 5) : ∃ h', xG E (d + 3) mM_about 0 [(0, .ref m), (1, .int (nI t)), (2, .int (nI x))] [] false h (true, .inl (some (.int (nI (mab μ t x)))), h') ∧ QP m h0 (sX μ 0) h' := by
  obtain ⟨h1, k1, H1⟩ := m_no (d := d + 2) hb H ht ho
  refine ⟨h1, ?_, H1⟩
  refine x_aload_n dM_about_0 rfl ?_
  refine x_iload_n dM_about_1 rfl ?_
  refine x_callV1 cM_M_no dM_about_2 H.1 (Nat.le_of_ble_eq_true rfl) (Nat.le_of_ble_eq_true rfl) k1 ?_
  refine x_if_eq 10 dM_about_5 (by decide) (fun _ => ?_) (fun hq => absurd rfl hq)
  refine x_iload_n dM_about_10 rfl ?_
  rcases (show x = 0 ∨ x = 1 ∨ x = 2 ∨ x = 3 ∨ x = 4 ∨ x = 5 by omega) with rfl | rfl | rfl | rfl | rfl | rfl
  · refine x_tableIn 48 dM_about_11 (by decide) (by decide) rfl (by decide) ?_
    refine x_aload_n dM_about_48 rfl ?_
    refine x_get fM_start dM_about_49 H1.1 rfl ?_
    refine x_iload_n dM_about_52 rfl ?_
    refine x_iald t dM_about_53 H1.a4 (by simp only [pk_mul, nI_add]) (by omega) (by decide) ?_
    exact x_iret rfl dM_about_54
  · refine x_tableIn 55 dM_about_11 (by decide) (by decide) rfl (by decide) ?_
    refine x_aload_n dM_about_55 rfl ?_
    refine x_get fM_kind dM_about_56 H1.1 rfl ?_
    refine x_iload_n dM_about_59 rfl ?_
    refine x_iald t dM_about_60 H1.a5 (by simp only [pk_mul, nI_add]) (by omega) (by decide) ?_
    exact x_iret rfl dM_about_61
  · refine x_tableIn 62 dM_about_11 (by decide) (by decide) rfl (by decide) ?_
    refine x_aload_n dM_about_62 rfl ?_
    refine x_get fM_layers dM_about_63 H1.1 rfl ?_
    refine x_iload_n dM_about_66 rfl ?_
    refine x_iald t dM_about_67 H1.a6 (by simp only [pk_mul, nI_add]) (by omega) (by decide) ?_
    exact x_iret rfl dM_about_68
  · refine x_tableIn 69 dM_about_11 (by decide) (by decide) rfl (by decide) ?_
    refine x_aload_n dM_about_69 rfl ?_
    refine x_iload_n dM_about_70 rfl ?_
    refine x_callV1 cM_M_written dM_about_71 H1.1 (Nat.le_of_ble_eq_true rfl) (Nat.le_of_ble_eq_true rfl) (m_written (d := d + 1) H1 ht hl) ?_
    exact x_iret rfl dM_about_74
  · refine x_tableIn 75 dM_about_11 (by decide) (by decide) rfl (by decide) ?_
    refine x_iconst (v := (nI 0)) dM_about_75 (by decide) ?_
    refine x_istore_n dM_about_76 (Nat.le_of_ble_eq_true rfl) ?_
    refine x_iconst (v := (nI 0)) dM_about_77 (by decide) ?_
    refine x_istore dM_about_78 (Nat.le_of_ble_eq_true rfl) ?_
    exact m_about_loop H1 ht 16 0 rfl
  · refine x_tableIn 113 dM_about_11 (by decide) (by decide) rfl (by decide) ?_
    refine x_aload_n dM_about_113 rfl ?_
    refine x_iload_n dM_about_114 rfl ?_
    refine x_callV1 cM_M_spoils dM_about_115 H1.1 (Nat.le_of_ble_eq_true rfl) (Nat.le_of_ble_eq_true rfl) (m_spoils (d := d) H1 ht hl hs hk hla) ?_
    exact x_iret rfl dM_about_118
theorem m_count_bad {x : Int32} (hb : E.2.2.1 ≤ m) (H : QP m h0 μ h) (hw : x.toInt < 0 ∨ 3 < x.toInt) : ∃ h', xG E (d + 2) mM_count 0 [(0, .ref m), (1, .int x)] [] false h (true, .inl (some (.int (-1))), h') ∧ QP m h0 (sX μ 0) h' := by
  refine ⟨_, ?_, H.x 0⟩
  refine x_aload_n dM_count_0 rfl ?_
  refine x_iconst (v := (nI 0)) dM_count_1 (by decide) ?_
  refine x_put fM_thrown dM_count_2 H.1 (by omega) rfl rfl (Nat.le_of_ble_eq_true rfl) ?_
  refine x_iconst (v := (nI 0)) dM_count_5 (by decide) ?_
  refine x_istore_n dM_count_6 (Nat.le_of_ble_eq_true rfl) ?_
  refine x_iload_n dM_count_7 rfl ?_
  refine x_tableOut 83 dM_count_8 hw (by decide) ?_
  refine x_iconst (v := (-1)) dM_count_83 (by decide) ?_
  exact x_iret rfl dM_count_84
theorem m_count_loop {x : Int32} (H : QP m h0 μ h) : ∀ n t : Nat, t + n = 16 → xG E d mM_count 47 [(3, .int (nI t)), (2, .int (nI (cnt (qZ μ 1) t))), (0, .ref m), (1, .int x)] [] true h (true, .inl (some (.int (nI (cnt (qZ μ 1) 16)))), h) := by
  intro n
  induction n with
  | zero =>
    intro c hc
    obtain rfl : c = 16 := by omega
    refine x_iload_n dM_count_47 rfl ?_
    refine x_bipush (v := (nI 16)) dM_count_48 (by decide) ?_
    refine x_icmp_ge 71 dM_count_50 (by decide) (fun _ => ?_) (fun hq => absurd (nI_le (by omega) (by omega)) hq)
    refine x_iload_n dM_count_71 rfl ?_
    exact x_iret rfl dM_count_72
  | succ n ih =>
    intro c hc
    have ih' := ih (c + 1) (by omega)
    refine x_iload_n dM_count_47 rfl ?_
    refine x_bipush (v := (nI 16)) dM_count_48 (by decide) ?_
    refine x_icmp_ge 71 dM_count_50 (by decide) (fun hq => absurd hq (nI_ge (by omega) (by omega))) (fun _ => ?_)
    refine x_aload_n dM_count_53 rfl ?_
    refine x_get fM_open dM_count_54 H.1 rfl ?_
    refine x_iload_n dM_count_57 rfl ?_
    refine x_zald c dM_count_58 H.a1 (by simp only [pk_mul, nI_add]) (by omega) (by decide) ?_
    refine x_if_eq 65 dM_count_59 (by decide) (fun hq => ?_) (fun hq => ?_)
    · rw [show cnt (qZ μ 1) (c + 1) = cnt (qZ μ 1) c from if_neg (fun z => xb_ne z hq)] at ih'
      refine x_iinc (v := nI (c + 1)) dM_count_65 rfl (by rw [nI_succ]; rfl) (Nat.le_of_ble_eq_true rfl) ?_
      refine x_goto 47 dM_count_68 (by decide) ?_
      exact ih'
    · rw [show cnt (qZ μ 1) (c + 1) = cnt (qZ μ 1) c + 1 from if_pos (by
        cases hx : qZ μ 1 c
        · exact absurd (xb_eq hx) hq
        · rfl)] at ih'
      refine x_iinc (v := nI (cnt (qZ μ 1) c + 1)) dM_count_62 rfl (by rw [nI_succ]; rfl) (Nat.le_of_ble_eq_true rfl) ?_
      refine x_iinc (v := nI (c + 1)) dM_count_65 rfl (by rw [nI_succ]; rfl) (Nat.le_of_ble_eq_true rfl) ?_
      refine x_goto 47 dM_count_68 (by decide) ?_
      exact x_loc _ (xac rfl (xac rfl (xac rfl (xac rfl xan)))) ih'
def mco (μ : qS) : Nat → Nat
  | 0 => qK μ
  | 1 => cnt (qZ μ 1) 16
  | 2 => sumN (qI μ 9) 16
  | _ => mflo μ 16
theorem mflo_X (x : Nat) : ∀ t, mflo (sX μ x) t = mflo μ t
  | 0 => rfl
  | t + 1 => by
    show (if qZ μ 1 t = true then min (mflo (sX μ x) t) (qI μ 4 t) else mflo (sX μ x) t) = _
    rw [mflo_X x t]
    rfl
theorem m_count_ok {x : Nat} (hb : E.2.2.1 ≤ m) (H : QP m h0 μ h) (hk : qK μ < 2 ^ 31) (hs : ∀ t, t < 16 → qZ μ 1 t = true → qI μ 4 t < 2 ^ 31) (hx : x ≤ 3) : ∃ h', xG E (d + 2) mM_count 0 [(0, .ref m), (1, .int (nI x))] [] false h (true, .inl (some (.int (nI (mco μ x)))), h') ∧ QP m h0 (sX μ 0) h' := by
  have H1 := H.x 0
  refine ⟨_, ?_, H1⟩
  refine x_aload_n dM_count_0 rfl ?_
  refine x_iconst (v := (nI 0)) dM_count_1 (by decide) ?_
  refine x_put fM_thrown dM_count_2 H.1 (by omega) rfl rfl (Nat.le_of_ble_eq_true rfl) ?_
  refine x_iconst (v := (nI 0)) dM_count_5 (by decide) ?_
  refine x_istore_n dM_count_6 (Nat.le_of_ble_eq_true rfl) ?_
  refine x_iload_n dM_count_7 rfl ?_
  rcases (show x = 0 ∨ x = 1 ∨ x = 2 ∨ x = 3 by omega) with rfl | rfl | rfl | rfl
  · refine x_tableIn 40 dM_count_8 (by decide) (by decide) rfl (by decide) ?_
    refine x_aload_n dM_count_40 rfl ?_
    refine x_get fM_clock dM_count_41 H1.1 rfl ?_
    exact x_iret rfl dM_count_44
  · refine x_tableIn 45 dM_count_8 (by decide) (by decide) rfl (by decide) ?_
    refine x_iconst (v := (nI 0)) dM_count_45 (by decide) ?_
    refine x_istore_n dM_count_46 (Nat.le_of_ble_eq_true rfl) ?_
    exact m_count_loop H1 16 0 rfl
  · refine x_tableIn 73 dM_count_8 (by decide) (by decide) rfl (by decide) ?_
    refine x_aload_n dM_count_73 rfl ?_
    refine x_callV0 cM_M_all dM_count_74 H1.1 (Nat.le_of_ble_eq_true rfl) (Nat.le_of_ble_eq_true rfl) (m_all (d := d + 1) H1) ?_
    exact x_iret rfl dM_count_77
  · refine x_tableIn 78 dM_count_8 (by decide) (by decide) rfl (by decide) ?_
    rw [show mco μ 3 = mflo (sX μ 0) 16 from (mflo_X 0 16).symm]
    refine x_aload_n dM_count_78 rfl ?_
    refine x_callV0 cM_M_floor dM_count_79 H1.1 (Nat.le_of_ble_eq_true rfl) (Nat.le_of_ble_eq_true rfl) (m_floor (d := d) H1 hk hs) ?_
    exact x_iret rfl dM_count_82
end
