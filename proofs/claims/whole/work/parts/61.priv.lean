/-! VersionDeskModel: its private methods -/
def qbad (μ : qS) (t : Int32) : Prop := ∀ j, j < 16 → t = nI j → qZ μ 1 j = false
/-- the highest layer that wrote the cell, and one; nought for none -/
def mhi (W : Nat → Bool) (t c : Nat) : Nat → Nat
  | 0 => 0
  | l + 1 => if W ((8 * t + l) * 16 + c) = true then l + 1 else mhi W t c l
theorem mhi_le (W : Nat → Bool) (t c : Nat) : ∀ n, mhi W t c n ≤ n
  | 0 => Nat.le_refl _
  | n + 1 => by
    unfold mhi
    split
    · exact Nat.le_refl _
    · exact Nat.le_succ_of_le (mhi_le W t c n)
def mlo (μ : qS) (t c : Nat) : Nat := mhi (qZ μ 3) t c (qI μ 6 t)
def mrd (μ : qS) (t c : Nat) : Int64 := if mlo μ t c = 0 then qL μ 7 (16 * t + c) else qL μ 8 ((8 * t + (mlo μ t c - 1)) * 16 + c)
def msp (μ : qS) (t c : Nat) : Bool := decide (qI μ 4 t < qI μ 11 c) && (decide (mlo μ t c ≠ 0) || (decide (qI μ 5 t = 1) && qZ μ 2 (16 * t + c)))
def cnt (p : Nat → Bool) : Nat → Nat
  | 0 => 0
  | c + 1 => if p c = true then cnt p c + 1 else cnt p c
theorem cnt_le (p : Nat → Bool) : ∀ n, cnt p n ≤ n
  | 0 => Nat.le_refl _
  | n + 1 => by
    have := cnt_le p n
    unfold cnt
    split <;> omega
def sumN (f : Nat → Nat) : Nat → Nat
  | 0 => 0
  | c + 1 => sumN f c + f c
def mflo (μ : qS) : Nat → Nat
  | 0 => qK μ
  | t + 1 => if qZ μ 1 t = true then min (mflo μ t) (qI μ 4 t) else mflo μ t
theorem mflo_le (μ : qS) : ∀ t, mflo μ t ≤ qK μ
  | 0 => Nat.le_refl _
  | t + 1 => by
    unfold mflo
    split
    · exact Nat.le_trans (Nat.min_le_left _ _) (mflo_le μ t)
    · exact mflo_le μ t
def mclr (a : Nat) : Nat → Nat → qS → qS
  | 0, _, μ => μ
  | n + 1, c, μ => mclr a n (c + 1) (sZ μ 3 (a + c) false)
theorem xpi_m1 {i : Nat} (h : i < 2 ^ 31) : xpi i = -1 ↔ i = 0 := by
  cases i with
  | zero => simp [xpi]
  | succ i =>
    simp only [xpi]
    constructor
    · intro q
      have := nI_pos (n := i) (by omega)
      rw [q] at this
      exact absurd (by decide) this
    · intro q; cases q
section
variable {E : xE} {d m : Nat} {μ : qS} {h0 h : xH}
theorem m_thrown (H : QP m h0 μ h) : xG E d mM_thrown 0 [(0, .ref m)] [] false h (false, .inl (some (.int (nI (qX μ)))), h) := by
  refine x_aload_n dM_thrown_0 rfl ?_
  refine x_get fM_thrown dM_thrown_1 H.1 rfl ?_
  exact x_iret rfl dM_thrown_4
theorem m_fail {x : Nat} (hb : E.2.2.1 ≤ m) (H : QP m h0 μ h) : ∃ h', xG E d mM_fail 0 [(0, .ref m), (1, .int (nI x))] [] false h (true, .inl (some (.int (nI 0))), h') ∧ QP m h0 (sX μ x) h' := by
  refine ⟨_, ?_, H.x x⟩
  refine x_aload_n dM_fail_0 rfl ?_
  refine x_iload_n dM_fail_1 rfl ?_
  refine x_put fM_thrown dM_fail_2 H.1 (by omega) rfl rfl (Nat.le_of_ble_eq_true rfl) ?_
  refine x_iconst (v := (nI 0)) dM_fail_5 (by decide) ?_
  exact x_iret rfl dM_fail_6
theorem m_no_end {x : Nat} (hx : x < 2) (H : QP m h0 μ h) (hq : qX μ = x) {w : Bool} {t : Int32} : xG E d mM_no 28 [(0, .ref m), (1, .int t)] [] w h (w, .inl (some (.int (xb (decide (x = 1))))), h) := by
  refine x_aload_n dM_no_28 rfl ?_
  refine x_get fM_thrown dM_no_29 H.1 rfl ?_
  rw [hq]
  rcases (show x = 0 ∨ x = 1 by omega) with rfl | rfl
  · refine x_if_le 39 dM_no_32 (by decide) (fun _ => ?_) (fun hc => absurd (by decide) hc)
    refine x_iconst (v := (xb false)) dM_no_39 (by decide) ?_
    exact x_zret (xb_n _) rfl dM_no_40
  · refine x_if_le 39 dM_no_32 (by decide) (fun hc => absurd hc (by decide)) (fun _ => ?_)
    refine x_iconst (v := (xb true)) dM_no_35 (by decide) ?_
    refine x_goto 40 dM_no_36 (by decide) ?_
    exact x_zret (xb_n _) rfl dM_no_40
theorem m_no {t : Nat} (hb : E.2.2.1 ≤ m) (H : QP m h0 μ h) (ht : t < 16) (ho : qZ μ 1 t = true) : ∃ h', xG E d mM_no 0 [(0, .ref m), (1, .int (nI t))] [] false h (true, .inl (some (.int (xb false))), h') ∧ QP m h0 (sX μ 0) h' := by
  refine ⟨_, ?_, H.x 0⟩
  refine x_aload_n dM_no_0 rfl ?_
  refine x_iload_n dM_no_1 rfl ?_
  refine x_if_lt 20 dM_no_2 (by decide) (fun hc => absurd hc (nI_pos (by omega))) (fun _ => ?_)
  refine x_iload_n dM_no_5 rfl ?_
  refine x_bipush (v := (nI 16)) dM_no_6 (by decide) ?_
  refine x_icmp_ge 20 dM_no_8 (by decide) (fun hc => absurd hc (nI_ge ht (by decide))) (fun _ => ?_)
  refine x_aload_n dM_no_11 rfl ?_
  refine x_get fM_open dM_no_12 H.1 rfl ?_
  refine x_iload_n dM_no_15 rfl ?_
  refine x_zald t dM_no_16 H.a1 (by simp only [pk_mul, nI_add]) (by omega) (by decide) ?_
  refine x_if_ne 24 dM_no_17 (by decide) (fun _ => ?_) (fun hc => absurd hc (xb_ne ho))
  refine x_iconst (v := (nI 0)) dM_no_24 (by decide) ?_
  refine x_put fM_thrown dM_no_25 H.1 (by omega) rfl rfl (Nat.le_of_ble_eq_true rfl) ?_
  exact m_no_end (x := 0) (by decide) (H.x 0) rfl
theorem m_no_bad {t : Int32} (hb : E.2.2.1 ≤ m) (H : QP m h0 μ h) (hbad : qbad μ t) : ∃ h', xG E d mM_no 0 [(0, .ref m), (1, .int t)] [] false h (true, .inl (some (.int (xb true))), h') ∧ QP m h0 (sX μ 1) h' := by
  refine ⟨_, ?_, H.x 1⟩
  have go : ∀ w, xG E d mM_no 20 [(0, .ref m), (1, .int t)] [.ref m] w h (true, .inl (some (.int (xb true))), xset h m (qC m 1 (qK μ))) := by
    intro w
    refine x_iconst (v := (nI 1)) dM_no_20 (by decide) ?_
    refine x_goto 25 dM_no_21 (by decide) ?_
    refine x_put fM_thrown dM_no_25 H.1 (by omega) rfl rfl (Nat.le_of_ble_eq_true rfl) ?_
    exact m_no_end (x := 1) (by decide) (H.x 1) rfl
  refine x_aload_n dM_no_0 rfl ?_
  refine x_iload_n dM_no_1 rfl ?_
  refine x_if_lt 20 dM_no_2 (by decide) (fun hc => go _) (fun hn => ?_)
  refine x_iload_n dM_no_5 rfl ?_
  refine x_bipush (v := (nI 16)) dM_no_6 (by decide) ?_
  refine x_icmp_ge 20 dM_no_8 (by decide) (fun hc => go _) (fun hg => ?_)
  rcases pk_ix t (n := 16) (by decide) with h2 | h2 | ⟨j, hj, rfl⟩
  · exact absurd h2 hn
  · exact absurd h2 hg
  refine x_aload_n dM_no_11 rfl ?_
  refine x_get fM_open dM_no_12 H.1 rfl ?_
  refine x_iload_n dM_no_15 rfl ?_
  refine x_zald j dM_no_16 H.a1 (by simp only [pk_mul, nI_add]) (by omega) (by decide) ?_
  refine x_if_ne 24 dM_no_17 (by decide) (fun hc => absurd (xb_eq (hbad j hj rfl)) hc) (fun _ => go _)
theorem m_none_end {x : Nat} (hx : x < 2) (H : QP m h0 μ h) (hq : qX μ = x) {w : Bool} {t c : Int32} : xG E d mM_none 23 [(0, .ref m), (1, .int t), (2, .int c)] [] w h (w, .inl (some (.int (xb (decide (x = 1))))), h) := by
  refine x_aload_n dM_none_23 rfl ?_
  refine x_get fM_thrown dM_none_24 H.1 rfl ?_
  rw [hq]
  rcases (show x = 0 ∨ x = 1 by omega) with rfl | rfl
  · refine x_if_le 34 dM_none_27 (by decide) (fun _ => ?_) (fun hc => absurd (by decide) hc)
    refine x_iconst (v := (xb false)) dM_none_34 (by decide) ?_
    exact x_zret (xb_n _) rfl dM_none_35
  · refine x_if_le 34 dM_none_27 (by decide) (fun hc => absurd hc (by decide)) (fun _ => ?_)
    refine x_iconst (v := (xb true)) dM_none_30 (by decide) ?_
    refine x_goto 35 dM_none_31 (by decide) ?_
    exact x_zret (xb_n _) rfl dM_none_35
theorem m_none {t c : Nat} (hb : E.2.2.1 ≤ m) (H : QP m h0 μ h) (ht : t < 16) (ho : qZ μ 1 t = true) (hc : c < 16) : ∃ h', xG E (d + 1) mM_none 0 [(0, .ref m), (1, .int (nI t)), (2, .int (nI c))] [] false h (true, .inl (some (.int (xb false))), h') ∧ QP m h0 (sX μ 0) h' := by
  obtain ⟨h1, k1, H1⟩ := m_no (d := d) hb H ht ho
  refine ⟨h1, ?_, H1⟩
  refine x_aload_n dM_none_0 rfl ?_
  refine x_iload_n dM_none_1 rfl ?_
  refine x_callV1 cM_M_no dM_none_2 H.1 (Nat.le_of_ble_eq_true rfl) (Nat.le_of_ble_eq_true rfl) k1 ?_
  refine x_if_ne 23 dM_none_5 (by decide) (fun hq => absurd rfl hq) (fun _ => ?_)
  refine x_iload_n dM_none_8 rfl ?_
  refine x_if_lt 18 dM_none_9 (by decide) (fun hq => absurd hq (nI_pos (by omega))) (fun _ => ?_)
  refine x_iload_n dM_none_12 rfl ?_
  refine x_bipush (v := (nI 16)) dM_none_13 (by decide) ?_
  refine x_icmp_lt 23 dM_none_15 (by decide) (fun _ => ?_) (fun hq => absurd (nI_lt hc (by decide)) hq)
  exact m_none_end (x := 0) (by decide) H1 rfl
theorem m_none_bad {t c : Int32} (hb : E.2.2.1 ≤ m) (H : QP m h0 μ h) (hbad : qbad μ t) : ∃ h', xG E (d + 1) mM_none 0 [(0, .ref m), (1, .int t), (2, .int c)] [] false h (true, .inl (some (.int (xb true))), h') ∧ QP m h0 (sX μ 1) h' := by
  obtain ⟨h1, k1, H1⟩ := m_no_bad (d := d) hb H hbad
  refine ⟨h1, ?_, H1⟩
  refine x_aload_n dM_none_0 rfl ?_
  refine x_iload_n dM_none_1 rfl ?_
  refine x_callV1 cM_M_no dM_none_2 H.1 (Nat.le_of_ble_eq_true rfl) (Nat.le_of_ble_eq_true rfl) k1 ?_
  refine x_if_ne 23 dM_none_5 (by decide) (fun _ => ?_) (fun hq => absurd hq (by decide))
  exact m_none_end (x := 1) (by decide) H1 rfl
theorem m_none_badc {t : Nat} {c : Int32} (hb : E.2.2.1 ≤ m) (H : QP m h0 μ h) (ht : t < 16) (ho : qZ μ 1 t = true) (hc : badc c) : ∃ h', xG E (d + 1) mM_none 0 [(0, .ref m), (1, .int (nI t)), (2, .int c)] [] false h (true, .inl (some (.int (xb true))), h') ∧ QP m h0 (sX (sX μ 0) 1) h' := by
  obtain ⟨h1, k1, H1⟩ := m_no (d := d) hb H ht ho
  refine ⟨_, ?_, H1.x 1⟩
  have go : ∀ w, xG E (d + 1) mM_none 18 [(0, .ref m), (1, .int (nI t)), (2, .int c)] [] w h1 (true, .inl (some (.int (xb true))), xset h1 m (qC m 1 (qK (sX μ 0)))) := by
    intro w
    refine x_aload_n dM_none_18 rfl ?_
    refine x_iconst (v := (nI 1)) dM_none_19 (by decide) ?_
    refine x_put fM_thrown dM_none_20 H1.1 (by omega) rfl rfl (Nat.le_of_ble_eq_true rfl) ?_
    exact m_none_end (x := 1) (by decide) (H1.x 1) rfl
  refine x_aload_n dM_none_0 rfl ?_
  refine x_iload_n dM_none_1 rfl ?_
  refine x_callV1 cM_M_no dM_none_2 H.1 (Nat.le_of_ble_eq_true rfl) (Nat.le_of_ble_eq_true rfl) k1 ?_
  refine x_if_ne 23 dM_none_5 (by decide) (fun hq => absurd rfl hq) (fun _ => ?_)
  refine x_iload_n dM_none_8 rfl ?_
  refine x_if_lt 18 dM_none_9 (by decide) (fun hq => go _) (fun hn => ?_)
  refine x_iload_n dM_none_12 rfl ?_
  refine x_bipush (v := (nI 16)) dM_none_13 (by decide) ?_
  refine x_icmp_lt 23 dM_none_15 (by decide) (fun hq => absurd (hc.resolve_left hn) (Int32.not_le.mpr hq)) (fun _ => go _)
theorem m_now {c : Nat} (H : QP m h0 μ h) (hc : c < 16) (hv : 1 ≤ qI μ 9 c) (hv2 : qI μ 9 c ≤ 520) : xG E d mM_now 0 [(0, .ref m), (1, .int (nI c))] [] false h (false, .inl (some (.long (qL μ 12 (520 * c + qI μ 9 c - 1)))), h) := by
  refine x_aload_n dM_now_0 rfl ?_
  refine x_get fM_was dM_now_1 H.1 rfl ?_
  refine x_sipush (v := (nI 520)) dM_now_4 (by decide) ?_
  refine x_iload_n dM_now_7 rfl ?_
  refine x_imul dM_now_8 ?_
  refine x_aload_n dM_now_9 rfl ?_
  refine x_get fM_versions dM_now_10 H.1 rfl ?_
  refine x_iload_n dM_now_13 rfl ?_
  refine x_iald c dM_now_14 H.a9 (by simp only [pk_mul, nI_add]) (by omega) (by decide) ?_
  refine x_iadd dM_now_15 ?_
  refine x_iconst (v := (nI 1)) dM_now_16 (by decide) ?_
  refine x_isub dM_now_17 ?_
  refine x_lald (520 * c + qI μ 9 c - 1) dM_now_18 H.a12 (by simp only [pk_mul, nI_add]; exact pk_sub (by omega)) (by omega) (by decide) ?_
  exact x_lret rfl dM_now_19
theorem m_layerOf_loop {t c : Nat} (H : QP m h0 μ h) (ht : t < 16) (hc : c < 16) : ∀ i : Nat, i ≤ 8 → xG E d mM_layerOf 9 [(3, .int (xpi i)), (0, .ref m), (1, .int (nI t)), (2, .int (nI c))] [] false h (false, .inl (some (.int (xpi (mhi (qZ μ 3) t c i)))), h) := by
  intro i
  induction i with
  | zero =>
    intro hi
    refine x_iload_n dM_layerOf_9 rfl ?_
    refine x_if_lt 40 dM_layerOf_10 (by decide) (fun _ => ?_) (fun hc => absurd ((xpi_neg 0 (by decide)).mpr rfl) hc)
    refine x_iconst (v := (-1)) dM_layerOf_40 (by decide) ?_
    exact x_iret rfl dM_layerOf_41
  | succ i ih =>
    intro hi
    refine x_iload_n dM_layerOf_9 rfl ?_
    refine x_if_lt 40 dM_layerOf_10 (by decide) (fun hc => absurd ((xpi_neg _ (by omega)).mp hc) (by omega)) (fun _ => ?_)
    refine x_aload_n dM_layerOf_13 rfl ?_
    refine x_get fM_wrote dM_layerOf_14 H.1 rfl ?_
    refine x_bipush (v := (nI 8)) dM_layerOf_17 (by decide) ?_
    refine x_iload_n dM_layerOf_19 rfl ?_
    refine x_imul dM_layerOf_20 ?_
    refine x_iload_n dM_layerOf_21 rfl ?_
    refine x_iadd dM_layerOf_22 ?_
    refine x_bipush (v := (nI 16)) dM_layerOf_23 (by decide) ?_
    refine x_imul dM_layerOf_25 ?_
    refine x_iload_n dM_layerOf_26 rfl ?_
    refine x_iadd dM_layerOf_27 ?_
    refine x_zald ((8 * t + i) * 16 + c) dM_layerOf_28 H.a3 (by simp only [xpi, pk_mul, nI_add]) (by omega) (by decide) ?_
    refine x_if_eq 34 dM_layerOf_29 (by decide) (fun hz => ?_) (fun hz => ?_)
    · have hz' : qZ μ 3 ((8 * t + i) * 16 + c) = false := by
        cases hx : qZ μ 3 ((8 * t + i) * 16 + c)
        · rfl
        · exact absurd hz (xb_ne hx)
      rw [show mhi (qZ μ 3) t c (i + 1) = mhi (qZ μ 3) t c i from if_neg (by rw [hz']; decide)]
      refine x_iinc (v := xpi i) dM_layerOf_34 rfl (xpi_dec i) (Nat.le_of_ble_eq_true rfl) ?_
      refine x_goto 9 dM_layerOf_37 (by decide) ?_
      exact ih (by omega)
    · have hz' : qZ μ 3 ((8 * t + i) * 16 + c) = true := by
        cases hx : qZ μ 3 ((8 * t + i) * 16 + c)
        · exact absurd (xb_eq hx) hz
        · rfl
      rw [show mhi (qZ μ 3) t c (i + 1) = i + 1 from if_pos hz']
      refine x_iload_n dM_layerOf_32 rfl ?_
      exact x_iret rfl dM_layerOf_33
theorem m_layerOf {t c : Nat} (H : QP m h0 μ h) (ht : t < 16) (hc : c < 16) (hl : qI μ 6 t ≤ 8) : xG E d mM_layerOf 0 [(0, .ref m), (1, .int (nI t)), (2, .int (nI c))] [] false h (false, .inl (some (.int (xpi (mlo μ t c)))), h) := by
  refine x_aload_n dM_layerOf_0 rfl ?_
  refine x_get fM_layers dM_layerOf_1 H.1 rfl ?_
  refine x_iload_n dM_layerOf_4 rfl ?_
  refine x_iald t dM_layerOf_5 H.a6 (by simp only [pk_mul, nI_add]) (by omega) (by decide) ?_
  refine x_iconst (v := (nI 1)) dM_layerOf_6 (by decide) ?_
  refine x_isub dM_layerOf_7 ?_
  refine x_top (by rw [xpi_of]) ?_
  refine x_istore_n dM_layerOf_8 (Nat.le_of_ble_eq_true rfl) ?_
  exact m_layerOf_loop H ht hc _ hl
theorem mlo_le (μ : qS) (t c : Nat) : mlo μ t c ≤ qI μ 6 t := mhi_le _ _ _ _
theorem m_reading {t c : Nat} (H : QP m h0 μ h) (ht : t < 16) (hc : c < 16) (hl : qI μ 6 t ≤ 8) : xG E (d + 1) mM_reading 0 [(0, .ref m), (1, .int (nI t)), (2, .int (nI c))] [] false h (false, .inl (some (.long (mrd μ t c))), h) := by
  have hle := mlo_le μ t c
  refine x_aload_n dM_reading_0 rfl ?_
  refine x_iload_n dM_reading_1 rfl ?_
  refine x_iload_n dM_reading_2 rfl ?_
  refine x_callV2 cM_M_layerOf dM_reading_3 H.1 (Nat.le_of_ble_eq_true rfl) (Nat.le_of_ble_eq_true rfl) (m_layerOf H ht hc hl) ?_
  refine x_istore_n dM_reading_6 (Nat.le_of_ble_eq_true rfl) ?_
  refine x_iload_n dM_reading_7 rfl ?_
  refine x_iconst (v := (-1)) dM_reading_8 (by decide) ?_
  refine x_icmp_ne 26 dM_reading_9 (by decide) (fun hz => ?_) (fun hz => ?_)
  · have hz' : mlo μ t c ≠ 0 := fun q => hz ((xpi_m1 (by omega)).mpr q)
    rw [show mrd μ t c = _ from if_neg hz']
    refine x_aload_n dM_reading_26 rfl ?_
    refine x_get fM_value dM_reading_27 H.1 rfl ?_
    refine x_bipush (v := (nI 8)) dM_reading_30 (by decide) ?_
    refine x_iload_n dM_reading_32 rfl ?_
    refine x_imul dM_reading_33 ?_
    refine x_iload_n dM_reading_34 rfl ?_
    refine x_iadd dM_reading_35 ?_
    refine x_bipush (v := (nI 16)) dM_reading_36 (by decide) ?_
    refine x_imul dM_reading_38 ?_
    refine x_iload_n dM_reading_39 rfl ?_
    refine x_iadd dM_reading_40 ?_
    refine x_lald ((8 * t + (mlo μ t c - 1)) * 16 + c) dM_reading_41 H.a8 ?_ (by omega) (by decide) ?_
    · cases hx : mlo μ t c with
      | zero => exact absurd hx hz'
      | succ n => simp only [xpi, pk_mul, nI_add, Nat.add_sub_cancel]
    exact x_lret rfl dM_reading_42
  · rw [show mrd μ t c = _ from if_pos ((xpi_m1 (by omega)).mp hz)]
    refine x_aload_n dM_reading_12 rfl ?_
    refine x_get fM_began dM_reading_13 H.1 rfl ?_
    refine x_bipush (v := (nI 16)) dM_reading_16 (by decide) ?_
    refine x_iload_n dM_reading_18 rfl ?_
    refine x_imul dM_reading_19 ?_
    refine x_iload_n dM_reading_20 rfl ?_
    refine x_iadd dM_reading_21 ?_
    refine x_lald (16 * t + c) dM_reading_22 H.a7 (by simp only [pk_mul, nI_add]) (by omega) (by decide) ?_
    refine x_goto 42 dM_reading_23 (by decide) ?_
    exact x_lret rfl dM_reading_42
theorem m_isSpoiled {t c : Nat} (H : QP m h0 μ h) (ht : t < 16) (hc : c < 16) (hl : qI μ 6 t ≤ 8) (hs : qI μ 4 t < 2 ^ 31) (hk : qI μ 5 t < 2 ^ 31) (hla : qI μ 11 c < 2 ^ 31) : xG E (d + 1) mM_isSpoiled 0 [(0, .ref m), (1, .int (nI t)), (2, .int (nI c))] [] false h (false, .inl (some (.int (xb (msp μ t c)))), h) := by
  have hle := mlo_le μ t c
  refine x_aload_n dM_isSpoiled_0 rfl ?_
  refine x_get fM_last dM_isSpoiled_1 H.1 rfl ?_
  refine x_iload_n dM_isSpoiled_4 rfl ?_
  refine x_iald c dM_isSpoiled_5 H.a11 (by simp only [pk_mul, nI_add]) (by omega) (by decide) ?_
  refine x_aload_n dM_isSpoiled_6 rfl ?_
  refine x_get fM_start dM_isSpoiled_7 H.1 rfl ?_
  refine x_iload_n dM_isSpoiled_10 rfl ?_
  refine x_iald t dM_isSpoiled_11 H.a4 (by simp only [pk_mul, nI_add]) (by omega) (by decide) ?_
  refine x_icmp_le 53 dM_isSpoiled_12 (by decide) (fun hz => ?_) (fun hz => ?_)
  · rw [show msp μ t c = false by unfold msp; rw [decide_eq_false (Nat.not_lt.mpr ((nI_leI hla hs).mp hz))]; rfl]
    refine x_iconst (v := (xb false)) dM_isSpoiled_53 (by decide) ?_
    exact x_zret (xb_n _) rfl dM_isSpoiled_54
  · have e1 : decide (qI μ 4 t < qI μ 11 c) = true := decide_eq_true (Nat.lt_of_not_le (fun q => hz (nI_le q hs)))
    refine x_aload_n dM_isSpoiled_15 rfl ?_
    refine x_iload_n dM_isSpoiled_16 rfl ?_
    refine x_iload_n dM_isSpoiled_17 rfl ?_
    refine x_callV2 cM_M_layerOf dM_isSpoiled_18 H.1 (Nat.le_of_ble_eq_true rfl) (Nat.le_of_ble_eq_true rfl) (m_layerOf H ht hc hl) ?_
    refine x_iconst (v := (-1)) dM_isSpoiled_21 (by decide) ?_
    refine x_icmp_ne 49 dM_isSpoiled_22 (by decide) (fun hy => ?_) (fun hy => ?_)
    · rw [show msp μ t c = true by unfold msp; rw [e1, decide_eq_true (show mlo μ t c ≠ 0 from fun q => hy ((xpi_m1 (by omega)).mpr q))]; rfl]
      refine x_iconst (v := (xb true)) dM_isSpoiled_49 (by decide) ?_
      refine x_goto 54 dM_isSpoiled_50 (by decide) ?_
      exact x_zret (xb_n _) rfl dM_isSpoiled_54
    · have e2 : mlo μ t c = 0 := (xpi_m1 (by omega)).mp hy
      refine x_aload_n dM_isSpoiled_25 rfl ?_
      refine x_get fM_kind dM_isSpoiled_26 H.1 rfl ?_
      refine x_iload_n dM_isSpoiled_29 rfl ?_
      refine x_iald t dM_isSpoiled_30 H.a5 (by simp only [pk_mul, nI_add]) (by omega) (by decide) ?_
      refine x_iconst (v := (nI 1)) dM_isSpoiled_31 (by decide) ?_
      refine x_icmp_ne 53 dM_isSpoiled_32 (by decide) (fun hx => ?_) (fun hx => ?_)
      · rw [show msp μ t c = false by unfold msp; rw [e1, e2, decide_eq_false (show ¬ qI μ 5 t = 1 from fun q => hx (by show nI (qI μ 5 t) = nI 1; rw [q]))]; rfl]
        refine x_iconst (v := (xb false)) dM_isSpoiled_53 (by decide) ?_
        exact x_zret (xb_n _) rfl dM_isSpoiled_54
      · have e3 : qI μ 5 t = 1 := (nI_eq hk (by decide)).mp hx
        rw [show msp μ t c = qZ μ 2 (16 * t + c) by unfold msp; rw [e1, e2, decide_eq_true e3]; rfl]
        refine x_aload_n dM_isSpoiled_35 rfl ?_
        refine x_get fM_saw dM_isSpoiled_36 H.1 rfl ?_
        refine x_bipush (v := (nI 16)) dM_isSpoiled_39 (by decide) ?_
        refine x_iload_n dM_isSpoiled_41 rfl ?_
        refine x_imul dM_isSpoiled_42 ?_
        refine x_iload_n dM_isSpoiled_43 rfl ?_
        refine x_iadd dM_isSpoiled_44 ?_
        refine x_zald (16 * t + c) dM_isSpoiled_45 H.a2 (by simp only [pk_mul, nI_add]) (by omega) (by decide) ?_
        refine x_if_eq 53 dM_isSpoiled_46 (by decide) (fun hw => ?_) (fun hw => ?_)
        · cases hx : qZ μ 2 (16 * t + c)
          · refine x_iconst (v := (xb false)) dM_isSpoiled_53 (by decide) ?_
            exact x_zret (xb_n _) rfl dM_isSpoiled_54
          · exact absurd hw (xb_ne hx)
        · cases hx : qZ μ 2 (16 * t + c)
          · exact absurd (xb_eq hx) hw
          · refine x_iconst (v := (xb true)) dM_isSpoiled_49 (by decide) ?_
            refine x_goto 54 dM_isSpoiled_50 (by decide) ?_
            exact x_zret (xb_n _) rfl dM_isSpoiled_54
def mwr (μ : qS) (t : Nat) : Nat := cnt (fun c => decide (mlo μ t c ≠ 0)) 16
def msc (μ : qS) (t : Nat) : Nat := cnt (msp μ t) 16
theorem m_written_loop {t : Nat} (H : QP m h0 μ h) (ht : t < 16) (hl : qI μ 6 t ≤ 8) : ∀ n c : Nat, c + n = 16 → xG E (d + 1) mM_written 4 [(3, .int (nI c)), (2, .int (nI (cnt (fun c => decide (mlo μ t c ≠ 0)) c))), (0, .ref m), (1, .int (nI t))] [] false h (false, .inl (some (.int (nI (mwr μ t)))), h) := by
  intro n
  induction n with
  | zero =>
    intro c hc
    obtain rfl : c = 16 := by omega
    refine x_iload_n dM_written_4 rfl ?_
    refine x_bipush (v := (nI 16)) dM_written_5 (by decide) ?_
    refine x_icmp_ge 29 dM_written_7 (by decide) (fun _ => ?_) (fun hq => absurd (nI_le (by omega) (by omega)) hq)
    refine x_iload_n dM_written_29 rfl ?_
    exact x_iret rfl dM_written_30
  | succ n ih =>
    intro c hc
    have hle := mlo_le μ t c
    have ih' := ih (c + 1) (by omega)
    refine x_iload_n dM_written_4 rfl ?_
    refine x_bipush (v := (nI 16)) dM_written_5 (by decide) ?_
    refine x_icmp_ge 29 dM_written_7 (by decide) (fun hq => absurd hq (nI_ge (by omega) (by omega))) (fun _ => ?_)
    refine x_aload_n dM_written_10 rfl ?_
    refine x_iload_n dM_written_11 rfl ?_
    refine x_iload_n dM_written_12 rfl ?_
    refine x_callV2 cM_M_layerOf dM_written_13 H.1 (Nat.le_of_ble_eq_true rfl) (Nat.le_of_ble_eq_true rfl) (m_layerOf H ht (by omega) hl) ?_
    refine x_iconst (v := (-1)) dM_written_16 (by decide) ?_
    refine x_icmp_eq 23 dM_written_17 (by decide) (fun hy => ?_) (fun hy => ?_)
    · rw [show cnt (fun c => decide (mlo μ t c ≠ 0)) (c + 1) = cnt (fun c => decide (mlo μ t c ≠ 0)) c from if_neg (by simp [(xpi_m1 (show mlo μ t c < 2 ^ 31 by omega)).mp hy])] at ih'
      refine x_iinc (v := nI (c + 1)) dM_written_23 rfl (by rw [nI_succ]; rfl) (Nat.le_of_ble_eq_true rfl) ?_
      refine x_goto 4 dM_written_26 (by decide) ?_
      exact ih'
    · rw [show cnt (fun c => decide (mlo μ t c ≠ 0)) (c + 1) = cnt (fun c => decide (mlo μ t c ≠ 0)) c + 1 from if_pos (by simp; exact fun q => hy ((xpi_m1 (show mlo μ t c < 2 ^ 31 by omega)).mpr q))] at ih'
      refine x_iinc (v := nI (cnt (fun c => decide (mlo μ t c ≠ 0)) c + 1)) dM_written_20 rfl (by rw [nI_succ]; rfl) (Nat.le_of_ble_eq_true rfl) ?_
      refine x_iinc (v := nI (c + 1)) dM_written_23 rfl (by rw [nI_succ]; rfl) (Nat.le_of_ble_eq_true rfl) ?_
      refine x_goto 4 dM_written_26 (by decide) ?_
      exact x_loc _ (xac rfl (xac rfl (xac rfl (xac rfl xan)))) ih'
theorem m_written {t : Nat} (H : QP m h0 μ h) (ht : t < 16) (hl : qI μ 6 t ≤ 8) : xG E (d + 1) mM_written 0 [(0, .ref m), (1, .int (nI t))] [] false h (false, .inl (some (.int (nI (mwr μ t)))), h) := by
  refine x_iconst (v := (nI 0)) dM_written_0 (by decide) ?_
  refine x_istore_n dM_written_1 (Nat.le_of_ble_eq_true rfl) ?_
  refine x_iconst (v := (nI 0)) dM_written_2 (by decide) ?_
  refine x_istore_n dM_written_3 (Nat.le_of_ble_eq_true rfl) ?_
  exact m_written_loop H ht hl 16 0 rfl
theorem m_spoils_loop {t : Nat} (H : QP m h0 μ h) (ht : t < 16) (hl : qI μ 6 t ≤ 8) (hs : qI μ 4 t < 2 ^ 31) (hk : qI μ 5 t < 2 ^ 31) (hla : ∀ c, c < 16 → qI μ 11 c < 2 ^ 31) : ∀ n c : Nat, c + n = 16 → xG E (d + 2) mM_spoils 4 [(3, .int (nI c)), (2, .int (nI (cnt (msp μ t) c))), (0, .ref m), (1, .int (nI t))] [] false h (false, .inl (some (.int (nI (msc μ t)))), h) := by
  intro n
  induction n with
  | zero =>
    intro c hc
    obtain rfl : c = 16 := by omega
    refine x_iload_n dM_spoils_4 rfl ?_
    refine x_bipush (v := (nI 16)) dM_spoils_5 (by decide) ?_
    refine x_icmp_ge 28 dM_spoils_7 (by decide) (fun _ => ?_) (fun hq => absurd (nI_le (by omega) (by omega)) hq)
    refine x_iload_n dM_spoils_28 rfl ?_
    exact x_iret rfl dM_spoils_29
  | succ n ih =>
    intro c hc
    have ih' := ih (c + 1) (by omega)
    refine x_iload_n dM_spoils_4 rfl ?_
    refine x_bipush (v := (nI 16)) dM_spoils_5 (by decide) ?_
    refine x_icmp_ge 28 dM_spoils_7 (by decide) (fun hq => absurd hq (nI_ge (by omega) (by omega))) (fun _ => ?_)
    refine x_aload_n dM_spoils_10 rfl ?_
    refine x_iload_n dM_spoils_11 rfl ?_
    refine x_iload_n dM_spoils_12 rfl ?_
    refine x_callV2 cM_M_isSpoiled dM_spoils_13 H.1 (Nat.le_of_ble_eq_true rfl) (Nat.le_of_ble_eq_true rfl) (m_isSpoiled H ht (by omega) hl hs hk (hla c (by omega))) ?_
    cases hx : msp μ t c with
    | false =>
      refine x_if_eq 22 dM_spoils_16 (by decide) (fun hy => ?_) (fun hy => absurd rfl hy)
      rw [show cnt (msp μ t) (c + 1) = cnt (msp μ t) c from if_neg (by rw [hx]; decide)] at ih'
      refine x_iinc (v := nI (c + 1)) dM_spoils_22 rfl (by rw [nI_succ]; rfl) (Nat.le_of_ble_eq_true rfl) ?_
      refine x_goto 4 dM_spoils_25 (by decide) ?_
      exact ih'
    | true =>
      refine x_if_eq 22 dM_spoils_16 (by decide) (fun hy => absurd hy (by decide)) (fun _ => ?_)
      rw [show cnt (msp μ t) (c + 1) = cnt (msp μ t) c + 1 from if_pos hx] at ih'
      refine x_iinc (v := nI (cnt (msp μ t) c + 1)) dM_spoils_19 rfl (by rw [nI_succ]; rfl) (Nat.le_of_ble_eq_true rfl) ?_
      refine x_iinc (v := nI (c + 1)) dM_spoils_22 rfl (by rw [nI_succ]; rfl) (Nat.le_of_ble_eq_true rfl) ?_
      refine x_goto 4 dM_spoils_25 (by decide) ?_
      exact x_loc _ (xac rfl (xac rfl (xac rfl (xac rfl xan)))) ih'
theorem m_spoils {t : Nat} (H : QP m h0 μ h) (ht : t < 16) (hl : qI μ 6 t ≤ 8) (hs : qI μ 4 t < 2 ^ 31) (hk : qI μ 5 t < 2 ^ 31) (hla : ∀ c, c < 16 → qI μ 11 c < 2 ^ 31) : xG E (d + 2) mM_spoils 0 [(0, .ref m), (1, .int (nI t))] [] false h (false, .inl (some (.int (nI (msc μ t)))), h) := by
  refine x_iconst (v := (nI 0)) dM_spoils_0 (by decide) ?_
  refine x_istore_n dM_spoils_1 (Nat.le_of_ble_eq_true rfl) ?_
  refine x_iconst (v := (nI 0)) dM_spoils_2 (by decide) ?_
  refine x_istore_n dM_spoils_3 (Nat.le_of_ble_eq_true rfl) ?_
  exact m_spoils_loop H ht hl hs hk hla 16 0 rfl
theorem m_all_loop (H : QP m h0 μ h) : ∀ n c : Nat, c + n = 16 → xG E d mM_all 4 [(2, .int (nI c)), (1, .int (nI (sumN (qI μ 9) c))), (0, .ref m)] [] false h (false, .inl (some (.int (nI (sumN (qI μ 9) 16)))), h) := by
  intro n
  induction n with
  | zero =>
    intro c hc
    obtain rfl : c = 16 := by omega
    refine x_iload_n dM_all_4 rfl ?_
    refine x_bipush (v := (nI 16)) dM_all_5 (by decide) ?_
    refine x_icmp_ge 25 dM_all_7 (by decide) (fun _ => ?_) (fun hq => absurd (nI_le (by omega) (by omega)) hq)
    refine x_iload_n dM_all_25 rfl ?_
    exact x_iret rfl dM_all_26
  | succ n ih =>
    intro c hc
    have ih' := ih (c + 1) (by omega)
    refine x_iload_n dM_all_4 rfl ?_
    refine x_bipush (v := (nI 16)) dM_all_5 (by decide) ?_
    refine x_icmp_ge 25 dM_all_7 (by decide) (fun hq => absurd hq (nI_ge (by omega) (by omega))) (fun _ => ?_)
    refine x_iload_n dM_all_10 rfl ?_
    refine x_aload_n dM_all_11 rfl ?_
    refine x_get fM_versions dM_all_12 H.1 rfl ?_
    refine x_iload_n dM_all_15 rfl ?_
    refine x_iald c dM_all_16 H.a9 (by simp only [pk_mul, nI_add]) (by omega) (by decide) ?_
    refine x_iadd dM_all_17 ?_
    refine x_top (v' := .int (nI (sumN (qI μ 9) (c + 1)))) (by rw [nI_add]; rfl) ?_
    refine x_istore_n dM_all_18 (Nat.le_of_ble_eq_true rfl) ?_
    refine x_iinc (v := nI (c + 1)) dM_all_19 rfl (by rw [nI_succ]; rfl) (Nat.le_of_ble_eq_true rfl) ?_
    refine x_goto 4 dM_all_22 (by decide) ?_
    exact x_loc _ (xac rfl (xac rfl (xac rfl xan))) ih'
theorem m_all (H : QP m h0 μ h) : xG E d mM_all 0 [(0, .ref m)] [] false h (false, .inl (some (.int (nI (sumN (qI μ 9) 16)))), h) := by
  refine x_iconst (v := (nI 0)) dM_all_0 (by decide) ?_
  refine x_istore_n dM_all_1 (Nat.le_of_ble_eq_true rfl) ?_
  refine x_iconst (v := (nI 0)) dM_all_2 (by decide) ?_
  refine x_istore_n dM_all_3 (Nat.le_of_ble_eq_true rfl) ?_
  exact m_all_loop H 16 0 rfl
theorem m_floor_loop (H : QP m h0 μ h) (hk : qK μ < 2 ^ 31) (hs : ∀ t, t < 16 → qZ μ 1 t = true → qI μ 4 t < 2 ^ 31) : ∀ n t : Nat, t + n = 16 → xG E (d + 1) mM_floor 7 [(2, .int (nI t)), (1, .int (nI (mflo μ t))), (0, .ref m)] [] false h (false, .inl (some (.int (nI (mflo μ 16)))), h) := by
  intro n
  induction n with
  | zero =>
    intro t ht
    obtain rfl : t = 16 := by omega
    refine x_iload_n dM_floor_7 rfl ?_
    refine x_bipush (v := (nI 16)) dM_floor_8 (by decide) ?_
    refine x_icmp_ge 39 dM_floor_10 (by decide) (fun _ => ?_) (fun hq => absurd (nI_le (by omega) (by omega)) hq)
    refine x_iload_n dM_floor_39 rfl ?_
    exact x_iret rfl dM_floor_40
  | succ n ih =>
    intro t ht
    have ih' := ih (t + 1) (by omega)
    have hfl := mflo_le μ t
    refine x_iload_n dM_floor_7 rfl ?_
    refine x_bipush (v := (nI 16)) dM_floor_8 (by decide) ?_
    refine x_icmp_ge 39 dM_floor_10 (by decide) (fun hq => absurd hq (nI_ge (by omega) (by omega))) (fun _ => ?_)
    refine x_aload_n dM_floor_13 rfl ?_
    refine x_get fM_open dM_floor_14 H.1 rfl ?_
    refine x_iload_n dM_floor_17 rfl ?_
    refine x_zald t dM_floor_18 H.a1 (by simp only [pk_mul, nI_add]) (by omega) (by decide) ?_
    cases ho : qZ μ 1 t with
    | true =>
      have hst := hs t (by omega) ho
      refine x_if_eq 33 dM_floor_19 (by decide) (fun hc => absurd hc (xb_ne rfl)) (fun _ => ?_)
      refine x_iload_n dM_floor_22 rfl ?_
      refine x_aload_n dM_floor_23 rfl ?_
      refine x_get fM_start dM_floor_24 H.1 rfl ?_
      refine x_iload_n dM_floor_27 rfl ?_
      refine x_iald t dM_floor_28 H.a4 (by simp only [pk_mul, nI_add]) (by omega) (by decide) ?_
      refine x_callS2 cM_J_min dM_floor_29 (Nat.le_of_ble_eq_true rfl) (Nat.le_of_ble_eq_true rfl) (j_min (d := d) (by omega) (by omega)) ?_
      rw [show min (mflo μ t) (qI μ 4 t) = mflo μ (t + 1) from (if_pos ho).symm]
      refine x_istore_n dM_floor_32 (Nat.le_of_ble_eq_true rfl) ?_
      refine x_iinc (v := nI (t + 1)) dM_floor_33 rfl (by rw [nI_succ]; rfl) (Nat.le_of_ble_eq_true rfl) ?_
      refine x_goto 7 dM_floor_36 (by decide) ?_
      exact x_loc _ (xac rfl (xac rfl (xac rfl xan))) ih'
    | false =>
      rw [show mflo μ (t + 1) = mflo μ t from if_neg (by rw [ho]; decide)] at ih'
      refine x_if_eq 33 dM_floor_19 (by decide) (fun _ => ?_) (fun hc => absurd (xb_eq rfl) hc)
      refine x_iinc (v := nI (t + 1)) dM_floor_33 rfl (by rw [nI_succ]; rfl) (Nat.le_of_ble_eq_true rfl) ?_
      refine x_goto 7 dM_floor_36 (by decide) ?_
      exact ih'
theorem m_floor (H : QP m h0 μ h) (hk : qK μ < 2 ^ 31) (hs : ∀ t, t < 16 → qZ μ 1 t = true → qI μ 4 t < 2 ^ 31) : xG E (d + 1) mM_floor 0 [(0, .ref m)] [] false h (false, .inl (some (.int (nI (mflo μ 16)))), h) := by
  refine x_aload_n dM_floor_0 rfl ?_
  refine x_get fM_clock dM_floor_1 H.1 rfl ?_
  refine x_istore_n dM_floor_4 (Nat.le_of_ble_eq_true rfl) ?_
  refine x_iconst (v := (nI 0)) dM_floor_5 (by decide) ?_
  refine x_istore_n dM_floor_6 (Nat.le_of_ble_eq_true rfl) ?_
  exact m_floor_loop H hk hs 16 0 rfl
theorem m_clear_loop {t l : Nat} (hb : E.2.2.1 ≤ m) (ht : t < 16) (hl : l < 8) : ∀ (n c : Nat) (μ : qS) (h : xH), c + n = 16 → QP m h0 μ h → ∃ h', xG E d mM_clear 2 [(3, .int (nI c)), (0, .ref m), (1, .int (nI t)), (2, .int (nI l))] [] true h (true, .inl none, h') ∧ QP m h0 (mclr ((8 * t + l) * 16) n c μ) h' := by
  intro n
  induction n with
  | zero =>
    intro c μ h hc H
    obtain rfl : c = 16 := by omega
    refine ⟨_, ?_, H⟩
    refine x_iload_n dM_clear_2 rfl ?_
    refine x_bipush (v := (nI 16)) dM_clear_3 (by decide) ?_
    refine x_icmp_ge 31 dM_clear_5 (by decide) (fun _ => ?_) (fun hq => absurd (nI_le (by omega) (by omega)) hq)
    exact x_vret rfl dM_clear_31
  | succ n ih =>
    intro c μ h hc H
    obtain ⟨h', k, H'⟩ := ih (c + 1) _ _ (by omega) (H.s3 ((8 * t + l) * 16 + c) false)
    refine ⟨h', ?_, H'⟩
    refine x_iload_n dM_clear_2 rfl ?_
    refine x_bipush (v := (nI 16)) dM_clear_3 (by decide) ?_
    refine x_icmp_ge 31 dM_clear_5 (by decide) (fun hq => absurd hq (nI_ge (by omega) (by omega))) (fun _ => ?_)
    refine x_aload_n dM_clear_8 rfl ?_
    refine x_get fM_wrote dM_clear_9 H.1 rfl ?_
    refine x_bipush (v := (nI 8)) dM_clear_12 (by decide) ?_
    refine x_iload_n dM_clear_14 rfl ?_
    refine x_imul dM_clear_15 ?_
    refine x_iload_n dM_clear_16 rfl ?_
    refine x_iadd dM_clear_17 ?_
    refine x_bipush (v := (nI 16)) dM_clear_18 (by decide) ?_
    refine x_imul dM_clear_20 ?_
    refine x_iload_n dM_clear_21 rfl ?_
    refine x_iadd dM_clear_22 ?_
    refine x_iconst (v := (xb false)) dM_clear_23 (by decide) ?_
    refine x_zast ((8 * t + l) * 16 + c) dM_clear_24 H.a3 (by omega) (by simp only [pk_mul, nI_add]) (by omega) (by decide) rfl ?_
    refine x_iinc (v := nI (c + 1)) dM_clear_25 rfl (by rw [nI_succ]; rfl) (Nat.le_of_ble_eq_true rfl) ?_
    refine x_goto 2 dM_clear_28 (by decide) ?_
    exact k
theorem m_clear {t l : Nat} (hb : E.2.2.1 ≤ m) (ht : t < 16) (hl : l < 8) (H : QP m h0 μ h) : ∃ h', xG E d mM_clear 0 [(0, .ref m), (1, .int (nI t)), (2, .int (nI l))] [] false h (true, .inl none, h') ∧ QP m h0 (mclr ((8 * t + l) * 16) 16 0 μ) h' := by
  obtain ⟨h', k, H'⟩ := m_clear_loop (E := E) (d := d) hb ht hl 16 0 μ h rfl H
  refine ⟨h', ?_, H'⟩
  refine x_true ?_
  refine x_iconst (v := (nI 0)) dM_clear_0 (by decide) ?_
  refine x_istore_n dM_clear_1 (Nat.le_of_ble_eq_true rfl) ?_
  exact k
end
