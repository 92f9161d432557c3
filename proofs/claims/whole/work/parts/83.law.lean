/-! The law's loop; the law -/
theorem x_and15 (x : Int32) : ∃ k, k < 16 ∧ x &&& nI 15 = nI k := by
  obtain ⟨k, hk, e⟩ := nx_mask x
  refine ⟨k &&& 15, Nat.lt_succ_of_le Nat.and_le_right, ?_⟩
  rw [← nx_and, ← e]
  apply b_ext
  intro i hi
  rw [b_and, b_and, b_and, b_65535]
  by_cases h : i < 16
  · rw [decide_eq_true h, Bool.and_true]
  · have h15 : bt (nI 15) i = false := m16_hi ⟨15, by decide, rfl⟩ (by omega)
    rw [h15, Bool.and_false, Bool.and_false]
section
variable {E : xE} {d b sc len : Nat} {S : Nat → Int32}
theorem law_loop (hb : E.2.2.1 ≤ b) (hlen : len ≤ 2560) : ∀ (n i : Nat) (σ : vS) (μ : qS) (f : Nat → Int64) (h : xH), 5 * i + 5 * n ≤ len → len < 5 * i + 5 * n + 5 → LJ b sc len S σ μ f h → sK σ ≤ i →
    ∃ h', xG E (d + 6) mL_law 23 [(4, .int (nI (5 * i))), (0, .ref sc), (1, .ref b), (2, .ref (b + 182)), (3, .ref (b + 195))] [] true h (true, .inl (some (.int (xb true))), h') ∧ (h'.2.1 ≤ h.2.1 + n ∧ h'.2.2 ≤ h.2.2 + 6 * n) := by
  intro n
  induction n with
  | zero =>
    intro i σ μ f h h1 h2 L hk
    refine ⟨h, ?_, Nat.le_refl _, Nat.le_refl _⟩
    refine x_iload dL_law_23 rfl ?_
    refine x_aload_n dL_law_25 rfl ?_
    refine x_alen dL_law_26 L.2.2.2.1 ?_
    refine x_iconst (v := (nI 5)) dL_law_27 (by decide) ?_
    refine x_isub dL_law_28 ?_
    refine x_icmp_gt 907 dL_law_29 (by decide) (fun _ => ?_) (fun q => absurd ?_ q)
    · refine x_iconst (v := (xb true)) dL_law_907 (by decide) ?_
      exact x_zret (xb_n _) rfl dL_law_908
    · show nI len - nI 5 < nI (5 * i)
      rw [Int32.lt_iff_toInt_lt, pk_sub_toInt (by omega) (by decide)]
      have : (nI (5 * i)).toInt = ((5 * i : Nat) : Int) := by
        have := pk_sub_toInt (a := 5 * i) (b := 0) (by omega) (by decide)
        rw [pk_sub (Nat.zero_le _)] at this
        simpa using this
      rw [this]
      omega
  | succ n ih =>
    intro i σ μ f h h1 h2 L hk
    have K : ∀ o, o = (Sum.inl (some (.int (xb true))) : xO) → KK E d b sc len i S σ h o (fun h' => h'.2.1 ≤ h.2.1 + (n + 1) ∧ h'.2.2 ≤ h.2.2 + 6 * (n + 1)) := by
      rintro o rfl σ' μ' f' h' L' hK z1 z2
      obtain ⟨h'', k, b1, b2⟩ := ih (i + 1) σ' μ' f' h' (by omega) (by omega) L' (by omega)
      refine ⟨h'', ?_, by omega, by omega⟩
      refine x_iinc (v := nI (5 * (i + 1))) dL_law_901 rfl (by rw [show Int32.ofInt 5 = nI 5 by decide, nI_add]; rfl) (Nat.le_of_ble_eq_true rfl) ?_
      refine x_goto 23 dL_law_904 (by decide) ?_
      exact k
    have K := K _ rfl
    obtain ⟨k, hk16, ek⟩ := x_and15 (S (5 * i))
    have hclk : sK σ < 100000 := by omega
    have disp : ∃ h', xG E (d + 6) mL_law 39 [(4, .int (nI (5 * i))), (0, .ref sc), (1, .ref b), (2, .ref (b + 182)), (3, .ref (b + 195))] [.int (nI k)] true h (true, .inl (some (.int (xb true))), h') ∧ (h'.2.1 ≤ h.2.1 + (n + 1) ∧ h'.2.2 ≤ h.2.2 + 6 * (n + 1)) := by
      rcases (show k = 0 ∨ k = 1 ∨ k = 2 ∨ k = 3 ∨ k = 4 ∨ k = 5 ∨ k = 6 ∨ k = 7 ∨ k = 8 ∨ k = 9 ∨ k = 10 ∨ k = 11 ∨ k = 12 ∨ k = 13 ∨ k = 14 ∨ k = 15 by omega) with rfl | rfl | rfl | rfl | rfl | rfl | rfl | rfl | rfl | rfl | rfl | rfl | rfl | rfl | rfl | rfl
      · obtain ⟨h', kk, hP⟩ := g_begin hb L (by omega) hlen K
        exact ⟨h', x_tableIn 104 dL_law_39 (by decide) (by decide) rfl (by decide) kk, hP⟩
      · obtain ⟨h', kk, hP⟩ := g_read hb L (by omega) hlen K
        exact ⟨h', x_tableIn 160 dL_law_39 (by decide) (by decide) rfl (by decide) kk, hP⟩
      · obtain ⟨h', kk, hP⟩ := g_write hb L (by omega) hlen K
        exact ⟨h', x_tableIn 227 dL_law_39 (by decide) (by decide) rfl (by decide) kk, hP⟩
      · obtain ⟨h', kk, hP⟩ := g_push hb L (by omega) hlen K
        exact ⟨h', x_tableIn 338 dL_law_39 (by decide) (by decide) rfl (by decide) kk, hP⟩
      · by_cases hkp : S (5 * i + 2) = 0
        · obtain ⟨h', kk, hP⟩ := g_pop0 hb L (by omega) hlen hkp K
          exact ⟨h', x_tableIn 394 dL_law_39 (by decide) (by decide) rfl (by decide) kk, hP⟩
        · obtain ⟨h', kk, hP⟩ := g_pop1 hb L (by omega) hlen hkp K
          exact ⟨h', x_tableIn 394 dL_law_39 (by decide) (by decide) rfl (by decide) kk, hP⟩
      · obtain ⟨h', kk, hP⟩ := g_commit hb L (by omega) hlen hclk K
        exact ⟨h', x_tableIn 478 dL_law_39 (by decide) (by decide) rfl (by decide) kk, hP⟩
      · obtain ⟨h', kk, hP⟩ := g_drop hb L (by omega) hlen K
        exact ⟨h', x_tableIn 534 dL_law_39 (by decide) (by decide) rfl (by decide) kk, hP⟩
      · obtain ⟨h', kk, hP⟩ := g_spoiled hb L (by omega) hlen K
        exact ⟨h', x_tableIn 590 dL_law_39 (by decide) (by decide) rfl (by decide) kk, hP⟩
      · obtain ⟨h', kk, hP⟩ := g_meets hb L (by omega) hlen K
        exact ⟨h', x_tableIn 653 dL_law_39 (by decide) (by decide) rfl (by decide) kk, hP⟩
      · obtain ⟨h', kk, hP⟩ := g_past hb L (by omega) hlen K
        exact ⟨h', x_tableIn 728 dL_law_39 (by decide) (by decide) rfl (by decide) kk, hP⟩
      · obtain ⟨h', kk, hP⟩ := g_forget hb L (by omega) hlen K
        exact ⟨h', x_tableIn 795 dL_law_39 (by decide) (by decide) rfl (by decide) kk, hP⟩
      · obtain ⟨h', kk, hP⟩ := g_about hb L (by omega) hlen K
        exact ⟨h', x_tableIn 808 dL_law_39 (by decide) (by decide) rfl (by decide) kk, hP⟩
      · obtain ⟨h', kk, hP⟩ := g_count hb L (by omega) hlen K
        exact ⟨h', x_tableIn 876 dL_law_39 (by decide) (by decide) rfl (by decide) kk, hP⟩
      all_goals
        obtain ⟨h', kk, hP⟩ := K σ μ f h L (Nat.le_succ _) (Nat.le_succ _) (by omega)
        exact ⟨h', x_tableOut 901 dL_law_39 (by decide) (by decide) kk, hP⟩
    obtain ⟨h', kk, hP⟩ := disp
    refine ⟨h', ?_, hP⟩
    refine x_iload dL_law_23 rfl ?_
    refine x_aload_n dL_law_25 rfl ?_
    refine x_alen dL_law_26 L.2.2.2.1 ?_
    refine x_iconst (v := (nI 5)) dL_law_27 (by decide) ?_
    refine x_isub dL_law_28 ?_
    refine x_icmp_gt 907 dL_law_29 (by decide) (fun q => absurd q ?_) (fun _ => ?_)
    · rw [pk_sub (by omega)]
      exact nI_nlt (by omega) (by omega)
    refine x_aload_n dL_law_32 rfl ?_
    refine x_iload dL_law_33 rfl ?_
    refine x_iald (5 * i) dL_law_35 L.2.2.2.1 rfl (by omega) (by omega) ?_
    refine x_bipush (v := (nI 15)) dL_law_36 (by decide) ?_
    refine x_iand dL_law_38 ?_
    refine x_top (v' := .int (nI k)) (congrArg Value.int ek) ?_
    exact kk
theorem law_all {h : xH} (hb : E.2.2.1 ≤ b) (hz : h.2.1 = b) (hsc : sc < b) (hs : h.1 sc = some (vI len S)) (hlen : len ≤ 2560) : ∃ h', xG E (d + 6) mL_law 0 [(0, .ref sc)] [] false h (true, .inl (some (.int (xb true))), h') ∧ h'.2.1 ≤ h.2.1 + 708 ∧ h'.2.2 ≤ h.2.2 + 30000 := by
  have z0 : (xadd h (.inr (0, [.null, .null, .int 0])) 3).2.1 = b + 1 := by rw [xadd_sz, hz]
  obtain ⟨h1, k1, V1, f1, s1, u1⟩ := d_init (E := E) (d := d + 4) (b := b) (h0 := xadd h (.inr (0, [.null, .null, .int 0])) 3) hb z0 (by have := xadd_eq h (.inr (0, [.null, .null, .int 0])) 3; rw [hz] at this; exact this)
  have z1 : (xadd h1 (.inr (3, [.int 0, .int 0, .null, .null, .null, .null, .null, .null, .null, .null, .null, .null, .null, .null])) 14).2.1 = b + 182 + 1 := by rw [xadd_sz, s1]
  obtain ⟨h2, k2, Q2, f2, s2, u2⟩ := m_init (E := E) (d := d + 5) (m := b + 182) (h := xadd h1 (.inr (3, [.int 0, .int 0, .null, .null, .null, .null, .null, .null, .null, .null, .null, .null, .null, .null])) 14) (by omega) z1 (by have := xadd_eq h1 (.inr (3, [.int 0, .int 0, .null, .null, .null, .null, .null, .null, .null, .null, .null, .null, .null, .null])) 14; rw [s1] at this; exact this)
  have hold : ∀ q, q < b + 195 → (xadd h2 (vL 1 (fun _ => 0)) 1).1 q = h2.1 q := fun q hq => xadd_ne _ _ _ (by omega)
  have hV2 : ∀ q, q < b + 182 → h2.1 q = h1.1 q := fun q hq => (f2 q hq).trans (xadd_ne _ _ _ (by omega))
  have L : LJ b sc len S st0 qInit (fun _ => 0) (xadd h2 (vL 1 (fun _ => 0)) 1) := by
    refine ⟨V1.like (fun q g1 g2 => (hold q (by omega)).trans (hV2 q g2)), Q2.like (fun q g1 g2 => hold q (by omega)), ?_, ?_, hsc, INV_0⟩
    · have := xadd_eq h2 (vL 1 (fun _ => 0)) 1
      rw [s2] at this
      exact this
    · rw [hold sc (by omega), hV2 sc (by omega), f1 sc hsc, xadd_ne _ _ _ (by omega)]
      exact hs
  obtain ⟨h', k, b1, b2⟩ := law_loop (E := E) (d := d) hb hlen (len / 5) 0 st0 qInit (fun _ => 0) _ (by omega) (by omega) L (Nat.zero_le _)
  refine ⟨h', ?_, ?_, ?_⟩
  · refine x_new newL_D dL_law_0 ?_
    rw [hz]
    refine x_dup dL_law_3 rfl ?_
    refine x_callI0 cL_D_init dL_law_4 (Nat.le_of_ble_eq_true rfl) (Nat.le_of_ble_eq_true rfl) k1 ?_
    refine x_astore_n dL_law_7 (Nat.le_of_ble_eq_true rfl) ?_
    refine x_new newL_M dL_law_8 ?_
    rw [s1]
    refine x_dup dL_law_11 rfl ?_
    refine x_callI0 cL_M_init dL_law_12 (Nat.le_of_ble_eq_true rfl) (Nat.le_of_ble_eq_true rfl) k2 ?_
    refine x_astore_n dL_law_15 (Nat.le_of_ble_eq_true rfl) ?_
    refine x_iconst (v := (nI 1)) dL_law_16 (by decide) ?_
    refine x_newl 1 dL_law_17 kw_53 rfl (by decide) ?_
    rw [s2]
    refine x_astore_n dL_law_19 (Nat.le_of_ble_eq_true rfl) ?_
    refine x_iconst (v := (nI 0)) dL_law_20 (by decide) ?_
    refine x_istore dL_law_21 (Nat.le_of_ble_eq_true rfl) ?_
    exact x_loc _ (xac rfl (xac rfl (xac rfl (xac rfl (xac rfl xan))))) k
  · rw [xadd_sz] at b1; omega
  · rw [xadd_us, u2, xadd_us, u1, xadd_us] at b2; omega
end
