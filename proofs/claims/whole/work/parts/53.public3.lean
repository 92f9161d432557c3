def stKept (σ : vS) (t : Nat) : vS := stVer (stClk σ (sK σ + 1)) (kv (sK σ + 1) (wrV σ t) (valV σ t) (sN σ) (sA σ) 16).1 (kv (sK σ + 1) (wrV σ t) (valV σ t) (sN σ) (sA σ) 16).2
section
variable {E : xE} {d b : Nat} {σ : vS} {h : xH}
theorem d_pop_bad {t kp : Int32} (H : VP b σ h) (hbad : bad σ t) : xG E (d + 4) mD_pop 0 [(0, .ref b), (1, .int t), (2, .int kp)] [] false h (true, .inr ("java/util/NoSuchElementException", h.2.1), xthr h) := by
  refine x_aload_n dD_pop_0 rfl ?_
  refine x_iload_n dD_pop_1 rfl ?_
  exact x_thrV1 rfl cD_D_openOne dD_pop_2 H.1 (Nat.le_of_ble_eq_true rfl) (Nat.le_of_ble_eq_true rfl) (d_openOne_bad (d := d + 2) H hbad)
theorem d_pop_one {t : Nat} {kp : Int32} (H : VP b σ h) (ht : t < 16) (ho : (sT σ t).1 = true) (hl : (sT σ t).2.2.2.1 = 1) : xG E (d + 4) mD_pop 0 [(0, .ref b), (1, .int (nI t)), (2, .int kp)] [] false h (true, .inr ("java/lang/IllegalStateException", h.2.1), xthr h) := by
  refine x_aload_n dD_pop_0 rfl ?_
  refine x_iload_n dD_pop_1 rfl ?_
  refine x_callV1 cD_D_openOne dD_pop_2 H.1 (Nat.le_of_ble_eq_true rfl) (Nat.le_of_ble_eq_true rfl) (d_openOne (d := d + 2) H ht ho) ?_
  refine x_astore_n dD_pop_5 (Nat.le_of_ble_eq_true rfl) ?_
  refine x_aload_n dD_pop_6 rfl ?_
  refine x_callV0 cD_T_layers dD_pop_7 (H.2.2.1 t ht) (Nat.le_of_ble_eq_true rfl) (Nat.le_of_ble_eq_true rfl) (t_layers (H.2.2.1 t ht)) ?_
  refine x_iconst (v := (nI 1)) dD_pop_10 (by decide) ?_
  rw [hl]
  refine x_icmp_gt 22 dD_pop_11 (by decide) (fun hq => absurd hq (nI_nlt (Nat.le_refl _) (by decide))) (fun _ => ?_)
  exact x_thrISE rfl rfl dD_pop_14 dD_pop_17 dD_pop_18 dD_pop_21 (Nat.le_of_ble_eq_true rfl)
theorem d_pop_give {t m : Nat} (hb : E.2.2.1 ≤ b) (H : VP b σ h) (ht : t < 16) (ho : (sT σ t).1 = true) (hl : (sT σ t).2.2.2.1 = m + 2) (hm : m + 2 ≤ 8) : ∃ h', xG E (d + 4) mD_pop 0 [(0, .ref b), (1, .int (nI t)), (2, .int (nI 0))] [] false h (true, .inl (some (.int (nI (m + 1)))), h') ∧ VP b (stLay σ t (m + 1)) h' ∧ VF b h h' := by
  have hT : h.1 (b + 2 + 11 * t) = some (vT (b + 2 + 11 * t) (sT σ t).1 (sT σ t).2.1 (sT σ t).2.2.1 (m + 2) (sT σ t).2.2.2.2) := by rw [← hl]; exact H.2.2.1 t ht
  refine ⟨_, ?_, H.setT ht ((sT σ t).1, (sT σ t).2.1, (sT σ t).2.2.1, m + 1, (sT σ t).2.2.2.2), (VF.rf b h).set _ (by omega) (by omega)⟩
  refine x_aload_n dD_pop_0 rfl ?_
  refine x_iload_n dD_pop_1 rfl ?_
  refine x_callV1 cD_D_openOne dD_pop_2 H.1 (Nat.le_of_ble_eq_true rfl) (Nat.le_of_ble_eq_true rfl) (d_openOne (d := d + 2) H ht ho) ?_
  refine x_astore_n dD_pop_5 (Nat.le_of_ble_eq_true rfl) ?_
  refine x_aload_n dD_pop_6 rfl ?_
  refine x_callV0 cD_T_layers dD_pop_7 hT (Nat.le_of_ble_eq_true rfl) (Nat.le_of_ble_eq_true rfl) (t_layers hT) ?_
  refine x_iconst (v := (nI 1)) dD_pop_10 (by decide) ?_
  refine x_icmp_gt 22 dD_pop_11 (by decide) (fun _ => ?_) (fun hq => absurd (nI_lt (by omega) (by omega)) hq)
  refine x_iload_n dD_pop_22 rfl ?_
  refine x_if_eq 30 dD_pop_23 (by decide) (fun _ => ?_) (fun hq => absurd rfl hq)
  refine x_aload_n dD_pop_30 rfl ?_
  refine x_callV0 cD_T_removeLayer dD_pop_31 hT (Nat.le_of_ble_eq_true rfl) (Nat.le_of_ble_eq_true rfl) (t_removeLayer (by omega) (by omega) hm hT) ?_
  refine x_aload_n dD_pop_34 rfl ?_
  refine x_callV0 cD_T_layers dD_pop_35 (xset_eq _ _ _) (Nat.le_of_ble_eq_true rfl) (Nat.le_of_ble_eq_true rfl) (t_layers (xset_eq _ _ _)) ?_
  exact x_iret rfl dD_pop_38
theorem d_pop_keep {t m : Nat} {kp : Int32} (hk : kp ≠ 0) (hb : E.2.2.1 ≤ b) (H : VP b σ h) (ht : t < 16) (ho : (sT σ t).1 = true) (hl : (sT σ t).2.2.2.1 = m + 2) (hm : m + 2 ≤ 8) : ∃ h', xG E (d + 4) mD_pop 0 [(0, .ref b), (1, .int (nI t)), (2, .int kp)] [] false h (true, .inl (some (.int (nI (m + 1)))), h') ∧ VP b (stLay (stDown σ t m) t (m + 1)) h' ∧ VF b h h' := by
  have hT : h.1 (b + 2 + 11 * t) = some (vT (b + 2 + 11 * t) (sT σ t).1 (sT σ t).2.1 (sT σ t).2.2.1 (m + 2) (sT σ t).2.2.2.2) := by rw [← hl]; exact H.2.2.1 t ht
  have hT2 : (tput h (b + 2 + 11 * t) m (va_up (sW σ t) m (cdW (sW σ t (m + 1)) (sW σ t m) 16)) (cdR (sW σ t (m + 1)) (sR σ t (m + 1)) (sR σ t m) 16)).1 (b + 2 + 11 * t) = some (vT (b + 2 + 11 * t) (sT σ t).1 (sT σ t).2.1 (sT σ t).2.2.1 (m + 2) (sT σ t).2.2.2.2) := (tput_ne h _ _ (by omega) (by omega)).trans hT
  refine ⟨_, ?_, ((H.setW ht (va_up (sW σ t) m (cdW (sW σ t (m + 1)) (sW σ t m) 16))).setR (k := m) ht (by omega) (cdR (sW σ t (m + 1)) (sR σ t (m + 1)) (sR σ t m) 16)).setT ht ((sT σ t).1, (sT σ t).2.1, (sT σ t).2.2.1, m + 1, (sT σ t).2.2.2.2), (((VF.rf b h).set _ (by omega) (by omega)).set _ (by omega) (by omega)).set _ (by omega) (by omega)⟩
  refine x_aload_n dD_pop_0 rfl ?_
  refine x_iload_n dD_pop_1 rfl ?_
  refine x_callV1 cD_D_openOne dD_pop_2 H.1 (Nat.le_of_ble_eq_true rfl) (Nat.le_of_ble_eq_true rfl) (d_openOne (d := d + 2) H ht ho) ?_
  refine x_astore_n dD_pop_5 (Nat.le_of_ble_eq_true rfl) ?_
  refine x_aload_n dD_pop_6 rfl ?_
  refine x_callV0 cD_T_layers dD_pop_7 hT (Nat.le_of_ble_eq_true rfl) (Nat.le_of_ble_eq_true rfl) (t_layers hT) ?_
  refine x_iconst (v := (nI 1)) dD_pop_10 (by decide) ?_
  refine x_icmp_gt 22 dD_pop_11 (by decide) (fun _ => ?_) (fun hq => absurd (nI_lt (by omega) (by omega)) hq)
  refine x_iload_n dD_pop_22 rfl ?_
  refine x_if_eq 30 dD_pop_23 (by decide) (fun hq => absurd hq hk) (fun _ => ?_)
  refine x_aload_n dD_pop_26 rfl ?_
  refine x_callV0 cD_T_copyHighestLayerDown dD_pop_27 hT (Nat.le_of_ble_eq_true rfl) (Nat.le_of_ble_eq_true rfl) (t_chd (d := d + 2) (by omega) hm hT (H.2.2.2.1 t ht) (H.2.2.2.2.1 t ht) (H.2.2.2.2.2.1 t (m + 1) ht (by omega)) (H.2.2.2.2.2.1 t m ht (by omega))) ?_
  refine x_aload_n dD_pop_30 rfl ?_
  refine x_callV0 cD_T_removeLayer dD_pop_31 hT2 (Nat.le_of_ble_eq_true rfl) (Nat.le_of_ble_eq_true rfl) (t_removeLayer (by omega) (by omega) hm hT2) ?_
  refine x_aload_n dD_pop_34 rfl ?_
  refine x_callV0 cD_T_layers dD_pop_35 (xset_eq _ _ _) (Nat.le_of_ble_eq_true rfl) (Nat.le_of_ble_eq_true rfl) (t_layers (xset_eq _ _ _)) ?_
  exact x_iret rfl dD_pop_38
theorem d_commit_bad {t : Int32} (H : VP b σ h) (hbad : bad σ t) : xG E (d + 4) mD_commit 0 [(0, .ref b), (1, .int t)] [] false h (true, .inr ("java/util/NoSuchElementException", h.2.1), xthr h) := by
  refine x_aload_n dD_commit_0 rfl ?_
  refine x_iload_n dD_commit_1 rfl ?_
  exact x_thrV1 rfl cD_D_openOne dD_commit_2 H.1 (Nat.le_of_ble_eq_true rfl) (Nat.le_of_ble_eq_true rfl) (d_openOne_bad (d := d + 2) H hbad)
theorem d_commit_sp {t : Nat} (hb : E.2.2.1 ≤ b) (H : VP b σ h) (hI : VI σ) (ht : t < 16) (ho : (sT σ t).1 = true) (hs : spV σ t ≠ 0) : ∃ h', xG E (d + 4) mD_commit 0 [(0, .ref b), (1, .int (nI t))] [] false h (true, .inl (some (.int (-1))), h') ∧ VP b (stShut σ t) h' ∧ VF b h h' := by
  refine ⟨_, ?_, H.setT ht (false, (sT σ t).2), (VF.rf b h).set _ (by omega) (by omega)⟩
  refine x_aload_n dD_commit_0 rfl ?_
  refine x_iload_n dD_commit_1 rfl ?_
  refine x_callV1 cD_D_openOne dD_commit_2 H.1 (Nat.le_of_ble_eq_true rfl) (Nat.le_of_ble_eq_true rfl) (d_openOne (d := d + 2) H ht ho) ?_
  refine x_astore_n dD_commit_5 (Nat.le_of_ble_eq_true rfl) ?_
  refine x_aload_n dD_commit_6 rfl ?_
  refine x_aload_n dD_commit_7 rfl ?_
  refine x_callV1 cD_D_spoiledCells dD_commit_8 H.1 (Nat.le_of_ble_eq_true rfl) (Nat.le_of_ble_eq_true rfl) (d_spoiledCells (d := d + 1) H hI ht) ?_
  refine x_if_eq 20 dD_commit_11 (by decide) (fun hq => absurd hq hs) (fun _ => ?_)
  refine x_aload_n dD_commit_14 rfl ?_
  refine x_callV0 cD_T_close dD_commit_15 (H.2.2.1 t ht) (Nat.le_of_ble_eq_true rfl) (Nat.le_of_ble_eq_true rfl) (t_close (by omega) (H.2.2.1 t ht)) ?_
  refine x_iconst (v := (-1)) dD_commit_18 (by decide) ?_
  exact x_iret rfl dD_commit_19
theorem d_commit_full {t : Nat} (H : VP b σ h) (hI : VI σ) (ht : t < 16) (ho : (sT σ t).1 = true) (hs : spV σ t = 0) (hf : ¬ (sN σ + pcn (wrV σ t) 16 ≤ 500)) : xG E (d + 4) mD_commit 0 [(0, .ref b), (1, .int (nI t))] [] false h (true, .inr ("java/lang/IllegalStateException", h.2.1), xthr h) := by
  obtain ⟨i1, i2, i3, i4⟩ := hI.2.1 t ht
  have hpl := pcn_le (wrV σ t) 16
  refine x_aload_n dD_commit_0 rfl ?_
  refine x_iload_n dD_commit_1 rfl ?_
  refine x_callV1 cD_D_openOne dD_commit_2 H.1 (Nat.le_of_ble_eq_true rfl) (Nat.le_of_ble_eq_true rfl) (d_openOne (d := d + 2) H ht ho) ?_
  refine x_astore_n dD_commit_5 (Nat.le_of_ble_eq_true rfl) ?_
  refine x_aload_n dD_commit_6 rfl ?_
  refine x_aload_n dD_commit_7 rfl ?_
  refine x_callV1 cD_D_spoiledCells dD_commit_8 H.1 (Nat.le_of_ble_eq_true rfl) (Nat.le_of_ble_eq_true rfl) (d_spoiledCells (d := d + 1) H hI ht) ?_
  refine x_if_eq 20 dD_commit_11 (by decide) (fun _ => ?_) (fun hq => absurd hs hq)
  refine x_aload_n dD_commit_20 rfl ?_
  refine x_callV0 cD_T_written dD_commit_21 (H.2.2.1 t ht) (Nat.le_of_ble_eq_true rfl) (Nat.le_of_ble_eq_true rfl) (t_written i4 (H.2.2.1 t ht) (H.2.2.2.1 t ht)) ?_
  refine x_istore_n dD_commit_24 (Nat.le_of_ble_eq_true rfl) ?_
  refine x_aload_n dD_commit_25 rfl ?_
  refine x_get fD_versions dD_commit_26 H.1 rfl ?_
  refine x_iload_n dD_commit_29 rfl ?_
  refine x_callS1 cD_J_bitCount dD_commit_30 (Nat.le_of_ble_eq_true rfl) (Nat.le_of_ble_eq_true rfl) j_bitCount ?_
  refine x_top (v' := .int (nI (pcn (wrV σ t) 16))) (congrArg Value.int (bc_pcn (wrV_m16 hI ht))) ?_
  refine x_callV1 cD_V_haveRoomFor dD_commit_33 H.2.2.2.2.2.2.1 (Nat.le_of_ble_eq_true rfl) (Nat.le_of_ble_eq_true rfl) (v_room hI.2.2.1 hpl H.2.2.2.2.2.2.1) ?_
  rw [show decide (sN σ + pcn (wrV σ t) 16 ≤ 500) = false from decide_eq_false hf]
  refine x_if_ne 47 dD_commit_36 (by decide) (fun hq => absurd rfl hq) (fun _ => ?_)
  exact x_thrISE rfl rfl dD_commit_39 dD_commit_42 dD_commit_43 dD_commit_46 (Nat.le_of_ble_eq_true rfl)
theorem d_commit_idle {t : Nat} (hb : E.2.2.1 ≤ b) (H : VP b σ h) (hI : VI σ) (ht : t < 16) (ho : (sT σ t).1 = true) (hs : spV σ t = 0) (hf : sN σ + pcn (wrV σ t) 16 ≤ 500) (hw : wrV σ t = 0) : ∃ h', xG E (d + 4) mD_commit 0 [(0, .ref b), (1, .int (nI t))] [] false h (true, .inl (some (.int (nI (sK σ)))), h') ∧ VP b (stShut σ t) h' ∧ VF b h h' := by
  obtain ⟨i1, i2, i3, i4⟩ := hI.2.1 t ht
  have hpl := pcn_le (wrV σ t) 16
  have H' := H.setT ht (false, (sT σ t).2)
  refine ⟨_, ?_, H', (VF.rf b h).set _ (by omega) (by omega)⟩
  refine x_aload_n dD_commit_0 rfl ?_
  refine x_iload_n dD_commit_1 rfl ?_
  refine x_callV1 cD_D_openOne dD_commit_2 H.1 (Nat.le_of_ble_eq_true rfl) (Nat.le_of_ble_eq_true rfl) (d_openOne (d := d + 2) H ht ho) ?_
  refine x_astore_n dD_commit_5 (Nat.le_of_ble_eq_true rfl) ?_
  refine x_aload_n dD_commit_6 rfl ?_
  refine x_aload_n dD_commit_7 rfl ?_
  refine x_callV1 cD_D_spoiledCells dD_commit_8 H.1 (Nat.le_of_ble_eq_true rfl) (Nat.le_of_ble_eq_true rfl) (d_spoiledCells (d := d + 1) H hI ht) ?_
  refine x_if_eq 20 dD_commit_11 (by decide) (fun _ => ?_) (fun hq => absurd hs hq)
  refine x_aload_n dD_commit_20 rfl ?_
  refine x_callV0 cD_T_written dD_commit_21 (H.2.2.1 t ht) (Nat.le_of_ble_eq_true rfl) (Nat.le_of_ble_eq_true rfl) (t_written i4 (H.2.2.1 t ht) (H.2.2.2.1 t ht)) ?_
  refine x_istore_n dD_commit_24 (Nat.le_of_ble_eq_true rfl) ?_
  refine x_aload_n dD_commit_25 rfl ?_
  refine x_get fD_versions dD_commit_26 H.1 rfl ?_
  refine x_iload_n dD_commit_29 rfl ?_
  refine x_callS1 cD_J_bitCount dD_commit_30 (Nat.le_of_ble_eq_true rfl) (Nat.le_of_ble_eq_true rfl) j_bitCount ?_
  refine x_top (v' := .int (nI (pcn (wrV σ t) 16))) (congrArg Value.int (bc_pcn (wrV_m16 hI ht))) ?_
  refine x_callV1 cD_V_haveRoomFor dD_commit_33 H.2.2.2.2.2.2.1 (Nat.le_of_ble_eq_true rfl) (Nat.le_of_ble_eq_true rfl) (v_room hI.2.2.1 hpl H.2.2.2.2.2.2.1) ?_
  rw [show decide (sN σ + pcn (wrV σ t) 16 ≤ 500) = true from decide_eq_true hf]
  refine x_if_ne 47 dD_commit_36 (by decide) (fun _ => ?_) (fun hq => absurd hq (by decide))
  refine x_iload_n dD_commit_47 rfl ?_
  refine x_if_eq 67 dD_commit_48 (by decide) (fun _ => ?_) (fun hq => absurd hw hq)
  refine x_aload_n dD_commit_67 rfl ?_
  refine x_callV0 cD_T_close dD_commit_68 (H.2.2.1 t ht) (Nat.le_of_ble_eq_true rfl) (Nat.le_of_ble_eq_true rfl) (t_close (by omega) (H.2.2.1 t ht)) ?_
  refine x_aload_n dD_commit_71 rfl ?_
  refine x_get fD_clock dD_commit_72 H'.1 rfl ?_
  exact x_iret rfl dD_commit_75
theorem d_commit_ok {t : Nat} (hb : E.2.2.1 ≤ b) (H : VP b σ h) (hI : VI σ) (hk : sK σ < 100000) (ht : t < 16) (ho : (sT σ t).1 = true) (hs : spV σ t = 0) (hf : sN σ + pcn (wrV σ t) 16 ≤ 500) (hw : wrV σ t ≠ 0) : ∃ h', xG E (d + 4) mD_commit 0 [(0, .ref b), (1, .int (nI t))] [] false h (true, .inl (some (.int (nI (sK σ + 1)))), h') ∧ VP b (stShut (stKept σ t) t) h' ∧ VF b h h' := by
  obtain ⟨i1, i2, i3, i4⟩ := hI.2.1 t ht
  have hpl := pcn_le (wrV σ t) 16
  have H1 := H.setK (sK σ + 1)
  have hI1 : VI (stClk σ (sK σ + 1)) := ⟨(show sK σ + 1 ≤ 100000 by omega), fun u hu => ⟨Nat.le_succ_of_le (hI.2.1 u hu).1, (hI.2.1 u hu).2⟩, hI.2.2.1, fun i hi => ⟨(hI.2.2.2.1 i hi).1, Nat.le_succ_of_le (hI.2.2.2.1 i hi).2⟩, hI.2.2.2.2.1, hI.2.2.2.2.2⟩
  have H2 := H1.setV (kv (sK σ + 1) (wrV σ t) (valV σ t) (sN σ) (sA σ) 16).1 (kv (sK σ + 1) (wrV σ t) (valV σ t) (sN σ) (sA σ) 16).2
  have H3 := H2.setT ht (false, (sT σ t).2)
  refine ⟨_, ?_, H3, (((VF.rf b h).set _ (by omega) (by omega)).setV _ _).set _ (by omega) (by omega)⟩
  refine x_aload_n dD_commit_0 rfl ?_
  refine x_iload_n dD_commit_1 rfl ?_
  refine x_callV1 cD_D_openOne dD_commit_2 H.1 (Nat.le_of_ble_eq_true rfl) (Nat.le_of_ble_eq_true rfl) (d_openOne (d := d + 2) H ht ho) ?_
  refine x_astore_n dD_commit_5 (Nat.le_of_ble_eq_true rfl) ?_
  refine x_aload_n dD_commit_6 rfl ?_
  refine x_aload_n dD_commit_7 rfl ?_
  refine x_callV1 cD_D_spoiledCells dD_commit_8 H.1 (Nat.le_of_ble_eq_true rfl) (Nat.le_of_ble_eq_true rfl) (d_spoiledCells (d := d + 1) H hI ht) ?_
  refine x_if_eq 20 dD_commit_11 (by decide) (fun _ => ?_) (fun hq => absurd hs hq)
  refine x_aload_n dD_commit_20 rfl ?_
  refine x_callV0 cD_T_written dD_commit_21 (H.2.2.1 t ht) (Nat.le_of_ble_eq_true rfl) (Nat.le_of_ble_eq_true rfl) (t_written i4 (H.2.2.1 t ht) (H.2.2.2.1 t ht)) ?_
  refine x_istore_n dD_commit_24 (Nat.le_of_ble_eq_true rfl) ?_
  refine x_aload_n dD_commit_25 rfl ?_
  refine x_get fD_versions dD_commit_26 H.1 rfl ?_
  refine x_iload_n dD_commit_29 rfl ?_
  refine x_callS1 cD_J_bitCount dD_commit_30 (Nat.le_of_ble_eq_true rfl) (Nat.le_of_ble_eq_true rfl) j_bitCount ?_
  refine x_top (v' := .int (nI (pcn (wrV σ t) 16))) (congrArg Value.int (bc_pcn (wrV_m16 hI ht))) ?_
  refine x_callV1 cD_V_haveRoomFor dD_commit_33 H.2.2.2.2.2.2.1 (Nat.le_of_ble_eq_true rfl) (Nat.le_of_ble_eq_true rfl) (v_room hI.2.2.1 hpl H.2.2.2.2.2.2.1) ?_
  rw [show decide (sN σ + pcn (wrV σ t) 16 ≤ 500) = true from decide_eq_true hf]
  refine x_if_ne 47 dD_commit_36 (by decide) (fun _ => ?_) (fun hq => absurd hq (by decide))
  refine x_iload_n dD_commit_47 rfl ?_
  refine x_if_eq 67 dD_commit_48 (by decide) (fun hq => absurd hq hw) (fun _ => ?_)
  refine x_aload_n dD_commit_51 rfl ?_
  refine x_dup dD_commit_52 rfl ?_
  refine x_get fD_clock dD_commit_53 H.1 rfl ?_
  refine x_iconst (v := (nI 1)) dD_commit_56 (by decide) ?_
  refine x_iadd dD_commit_57 ?_
  refine x_top (v' := .int (nI (sK σ + 1))) (by rw [nI_add]) ?_
  refine x_put fD_clock dD_commit_58 H.1 hb rfl rfl (Nat.le_of_ble_eq_true rfl) ?_
  refine x_aload_n dD_commit_61 rfl ?_
  refine x_aload_n dD_commit_62 rfl ?_
  refine x_iload_n dD_commit_63 rfl ?_
  refine x_callV2 cD_D_keepVersions dD_commit_64 H1.1 (Nat.le_of_ble_eq_true rfl) (Nat.le_of_ble_eq_true rfl) (d_kv (σ := stClk σ (sK σ + 1)) hb H1 hI1 ht hf) ?_
  refine x_aload_n dD_commit_67 rfl ?_
  refine x_callV0 cD_T_close dD_commit_68 (H2.2.2.1 t ht) (Nat.le_of_ble_eq_true rfl) (Nat.le_of_ble_eq_true rfl) (t_close (by omega) (H2.2.2.1 t ht)) ?_
  refine x_aload_n dD_commit_71 rfl ?_
  refine x_get fD_clock dD_commit_72 H3.1 rfl ?_
  exact x_iret rfl dD_commit_75
theorem d_drop_bad {t : Int32} (H : VP b σ h) (hbad : bad σ t) : xG E (d + 4) mD_drop 0 [(0, .ref b), (1, .int t)] [] false h (true, .inr ("java/util/NoSuchElementException", h.2.1), xthr h) := by
  refine x_aload_n dD_drop_0 rfl ?_
  refine x_iload_n dD_drop_1 rfl ?_
  exact x_thrV1 rfl cD_D_openOne dD_drop_2 H.1 (Nat.le_of_ble_eq_true rfl) (Nat.le_of_ble_eq_true rfl) (d_openOne_bad (d := d + 2) H hbad)
theorem d_drop_ok {t : Nat} (hb : E.2.2.1 ≤ b) (H : VP b σ h) (hI : VI σ) (ht : t < 16) (ho : (sT σ t).1 = true) : ∃ h', xG E (d + 4) mD_drop 0 [(0, .ref b), (1, .int (nI t))] [] false h (true, .inl (some (.int (nI (pcn (wrV σ t) 16)))), h') ∧ VP b (stShut σ t) h' ∧ VF b h h' := by
  obtain ⟨i1, i2, i3, i4⟩ := hI.2.1 t ht
  refine ⟨_, ?_, H.setT ht (false, (sT σ t).2), (VF.rf b h).set _ (by omega) (by omega)⟩
  refine x_aload_n dD_drop_0 rfl ?_
  refine x_iload_n dD_drop_1 rfl ?_
  refine x_callV1 cD_D_openOne dD_drop_2 H.1 (Nat.le_of_ble_eq_true rfl) (Nat.le_of_ble_eq_true rfl) (d_openOne (d := d + 2) H ht ho) ?_
  refine x_astore_n dD_drop_5 (Nat.le_of_ble_eq_true rfl) ?_
  refine x_aload_n dD_drop_6 rfl ?_
  refine x_callV0 cD_T_close dD_drop_7 (H.2.2.1 t ht) (Nat.le_of_ble_eq_true rfl) (Nat.le_of_ble_eq_true rfl) (t_close (by omega) (H.2.2.1 t ht)) ?_
  refine x_aload_n dD_drop_10 rfl ?_
  refine x_callV0 cD_T_written dD_drop_11 (xset_eq _ _ _) (Nat.le_of_ble_eq_true rfl) (Nat.le_of_ble_eq_true rfl) (t_written i4 (xset_eq _ _ _) ((xset_ne _ _ (by omega)).trans (H.2.2.2.1 t ht))) ?_
  refine x_callS1 cD_J_bitCount dD_drop_14 (Nat.le_of_ble_eq_true rfl) (Nat.le_of_ble_eq_true rfl) j_bitCount ?_
  refine x_top (v' := .int (nI (pcn (wrV σ t) 16))) (congrArg Value.int (bc_pcn (wrV_m16 hI ht))) ?_
  exact x_iret rfl dD_drop_17
theorem d_spoiled_bad {t : Int32} (H : VP b σ h) (hbad : bad σ t) : xG E (d + 4) mD_spoiled 0 [(0, .ref b), (1, .int t)] [] false h (true, .inr ("java/util/NoSuchElementException", h.2.1), xthr h) := by
  refine x_aload_n dD_spoiled_0 rfl ?_
  refine x_aload_n dD_spoiled_1 rfl ?_
  refine x_iload_n dD_spoiled_2 rfl ?_
  exact x_thrV1 rfl cD_D_openOne dD_spoiled_3 H.1 (Nat.le_of_ble_eq_true rfl) (Nat.le_of_ble_eq_true rfl) (d_openOne_bad (d := d + 2) H hbad)
theorem d_spoiled_ok {t : Nat} (H : VP b σ h) (hI : VI σ) (ht : t < 16) (ho : (sT σ t).1 = true) : xG E (d + 4) mD_spoiled 0 [(0, .ref b), (1, .int (nI t))] [] false h (false, .inl (some (.int (xb (decide (spV σ t ≠ 0))))), h) := by
  refine x_aload_n dD_spoiled_0 rfl ?_
  refine x_aload_n dD_spoiled_1 rfl ?_
  refine x_iload_n dD_spoiled_2 rfl ?_
  refine x_callV1 cD_D_openOne dD_spoiled_3 H.1 (Nat.le_of_ble_eq_true rfl) (Nat.le_of_ble_eq_true rfl) (d_openOne (d := d + 2) H ht ho) ?_
  refine x_callV1 cD_D_spoiledCells dD_spoiled_6 H.1 (Nat.le_of_ble_eq_true rfl) (Nat.le_of_ble_eq_true rfl) (d_spoiledCells (d := d + 1) H hI ht) ?_
  refine x_if_eq 16 dD_spoiled_9 (by decide) (fun hq => ?_) (fun hq => ?_)
  · rw [show decide (spV σ t ≠ 0) = false from decide_eq_false (fun z => z hq)]
    refine x_iconst (v := (xb false)) dD_spoiled_16 (by decide) ?_
    exact x_zret (xb_n _) rfl dD_spoiled_17
  · rw [show decide (spV σ t ≠ 0) = true from decide_eq_true hq]
    refine x_iconst (v := (xb true)) dD_spoiled_12 (by decide) ?_
    refine x_goto 17 dD_spoiled_13 (by decide) ?_
    exact x_zret (xb_n _) rfl dD_spoiled_17
theorem d_meets_bad1 {s t : Int32} (H : VP b σ h) (hbad : bad σ s) : xG E (d + 4) mD_meets 0 [(0, .ref b), (1, .int s), (2, .int t)] [] false h (true, .inr ("java/util/NoSuchElementException", h.2.1), xthr h) := by
  refine x_aload_n dD_meets_0 rfl ?_
  refine x_iload_n dD_meets_1 rfl ?_
  exact x_thrV1 rfl cD_D_openOne dD_meets_2 H.1 (Nat.le_of_ble_eq_true rfl) (Nat.le_of_ble_eq_true rfl) (d_openOne_bad (d := d + 2) H hbad)
theorem d_meets_bad2 {s : Nat} {t : Int32} (H : VP b σ h) (hs : s < 16) (ho : (sT σ s).1 = true) (hbad : bad σ t) : xG E (d + 4) mD_meets 0 [(0, .ref b), (1, .int (nI s)), (2, .int t)] [] false h (true, .inr ("java/util/NoSuchElementException", h.2.1), xthr h) := by
  refine x_aload_n dD_meets_0 rfl ?_
  refine x_iload_n dD_meets_1 rfl ?_
  refine x_callV1 cD_D_openOne dD_meets_2 H.1 (Nat.le_of_ble_eq_true rfl) (Nat.le_of_ble_eq_true rfl) (d_openOne (d := d + 2) H hs ho) ?_
  refine x_astore_n dD_meets_5 (Nat.le_of_ble_eq_true rfl) ?_
  refine x_aload_n dD_meets_6 rfl ?_
  refine x_iload_n dD_meets_7 rfl ?_
  exact x_thrV1 rfl cD_D_openOne dD_meets_8 H.1 (Nat.le_of_ble_eq_true rfl) (Nat.le_of_ble_eq_true rfl) (d_openOne_bad (d := d + 2) H hbad)
theorem d_meets_same {s : Nat} (H : VP b σ h) (hs : s < 16) (ho : (sT σ s).1 = true) : xG E (d + 4) mD_meets 0 [(0, .ref b), (1, .int (nI s)), (2, .int (nI s))] [] false h (false, .inl (some (.int (xb false))), h) := by
  refine x_aload_n dD_meets_0 rfl ?_
  refine x_iload_n dD_meets_1 rfl ?_
  refine x_callV1 cD_D_openOne dD_meets_2 H.1 (Nat.le_of_ble_eq_true rfl) (Nat.le_of_ble_eq_true rfl) (d_openOne (d := d + 2) H hs ho) ?_
  refine x_astore_n dD_meets_5 (Nat.le_of_ble_eq_true rfl) ?_
  refine x_aload_n dD_meets_6 rfl ?_
  refine x_iload_n dD_meets_7 rfl ?_
  refine x_callV1 cD_D_openOne dD_meets_8 H.1 (Nat.le_of_ble_eq_true rfl) (Nat.le_of_ble_eq_true rfl) (d_openOne (d := d + 2) H hs ho) ?_
  refine x_astore dD_meets_11 (Nat.le_of_ble_eq_true rfl) ?_
  refine x_iload_n dD_meets_13 rfl ?_
  refine x_iload_n dD_meets_14 rfl ?_
  refine x_icmp_ne 20 dD_meets_15 (by decide) (fun hq => absurd rfl hq) (fun _ => ?_)
  refine x_iconst (v := (xb false)) dD_meets_18 (by decide) ?_
  exact x_zret (xb_n _) rfl dD_meets_19
def meV (σ : vS) (s t : Nat) : Int32 := (wrV σ s &&& heV σ t) &&& (spV σ t ^^^ (-1))
theorem d_meets_ok {s t : Nat} (H : VP b σ h) (hI : VI σ) (hs : s < 16) (ho : (sT σ s).1 = true) (ht : t < 16) (ho2 : (sT σ t).1 = true) (hne : s ≠ t) : xG E (d + 4) mD_meets 0 [(0, .ref b), (1, .int (nI s)), (2, .int (nI t))] [] false h (false, .inl (some (.int (xb (decide (meV σ s t ≠ 0))))), h) := by
  obtain ⟨i1, i2, i3, i4⟩ := hI.2.1 s hs
  obtain ⟨j1, j2, j3, j4⟩ := hI.2.1 t ht
  refine x_aload_n dD_meets_0 rfl ?_
  refine x_iload_n dD_meets_1 rfl ?_
  refine x_callV1 cD_D_openOne dD_meets_2 H.1 (Nat.le_of_ble_eq_true rfl) (Nat.le_of_ble_eq_true rfl) (d_openOne (d := d + 2) H hs ho) ?_
  refine x_astore_n dD_meets_5 (Nat.le_of_ble_eq_true rfl) ?_
  refine x_aload_n dD_meets_6 rfl ?_
  refine x_iload_n dD_meets_7 rfl ?_
  refine x_callV1 cD_D_openOne dD_meets_8 H.1 (Nat.le_of_ble_eq_true rfl) (Nat.le_of_ble_eq_true rfl) (d_openOne (d := d + 2) H ht ho2) ?_
  refine x_astore dD_meets_11 (Nat.le_of_ble_eq_true rfl) ?_
  refine x_iload_n dD_meets_13 rfl ?_
  refine x_iload_n dD_meets_14 rfl ?_
  refine x_icmp_ne 20 dD_meets_15 (by decide) (fun _ => ?_) (fun hq => absurd ((nI_eq (by omega) (by omega)).mp hq) hne)
  refine x_aload_n dD_meets_20 rfl ?_
  refine x_callV0 cD_T_written dD_meets_21 (H.2.2.1 s hs) (Nat.le_of_ble_eq_true rfl) (Nat.le_of_ble_eq_true rfl) (t_written i4 (H.2.2.1 s hs) (H.2.2.2.1 s hs)) ?_
  refine x_aload dD_meets_24 rfl ?_
  refine x_callV0 cD_T_heeded dD_meets_26 (H.2.2.1 t ht) (Nat.le_of_ble_eq_true rfl) (Nat.le_of_ble_eq_true rfl) (t_heeded (d := d + 2) j4 j2 (H.2.2.1 t ht) (H.2.2.2.1 t ht)) ?_
  refine x_iand dD_meets_29 ?_
  refine x_istore dD_meets_30 (Nat.le_of_ble_eq_true rfl) ?_
  refine x_iload dD_meets_32 rfl ?_
  refine x_aload_n dD_meets_34 rfl ?_
  refine x_aload dD_meets_35 rfl ?_
  refine x_callV1 cD_D_spoiledCells dD_meets_37 H.1 (Nat.le_of_ble_eq_true rfl) (Nat.le_of_ble_eq_true rfl) (d_spoiledCells (d := d + 1) H hI ht) ?_
  refine x_iconst (v := (-1)) dD_meets_40 (by decide) ?_
  refine x_ixor dD_meets_41 ?_
  refine x_iand dD_meets_42 ?_
  refine x_top (v' := .int (meV σ s t)) rfl ?_
  refine x_if_eq 50 dD_meets_43 (by decide) (fun hq => ?_) (fun hq => ?_)
  · rw [show decide (meV σ s t ≠ 0) = false from decide_eq_false (fun z => z hq)]
    refine x_iconst (v := (xb false)) dD_meets_50 (by decide) ?_
    exact x_zret (xb_n _) rfl dD_meets_51
  · rw [show decide (meV σ s t ≠ 0) = true from decide_eq_true hq]
    refine x_iconst (v := (xb true)) dD_meets_46 (by decide) ?_
    refine x_goto 51 dD_meets_47 (by decide) ?_
    exact x_zret (xb_n _) rfl dD_meets_51
theorem d_past_badc {c k : Int32} (hc : badc c) : xG E (d + 4) mD_past 0 [(0, .ref b), (1, .int c), (2, .int k)] [] false h (true, .inr ("java/util/NoSuchElementException", h.2.1), xthr h) := by
  refine x_iload_n dD_past_0 rfl ?_
  exact x_thrS1 rfl cD_D_requireCell dD_past_1 (Nat.le_of_ble_eq_true rfl) (Nat.le_of_ble_eq_true rfl) (d_requireCell_bad (d := d + 2) hc)
theorem d_past_badk {c : Nat} {k : Int32} (H : VP b σ h) (hc : c < 16) (hk : k < 0 ∨ nI (sK σ) < k) : xG E (d + 4) mD_past 0 [(0, .ref b), (1, .int (nI c)), (2, .int k)] [] false h (true, .inr ("java/util/NoSuchElementException", h.2.1), xthr h) := by
  refine x_iload_n dD_past_0 rfl ?_
  refine x_callS1 cD_D_requireCell dD_past_1 (Nat.le_of_ble_eq_true rfl) (Nat.le_of_ble_eq_true rfl) (d_requireCell hc) ?_
  refine x_iload_n dD_past_4 rfl ?_
  refine x_if_lt 28 dD_past_5 (by decide) (fun _ => x_thrNSE rfl rfl dD_past_28 dD_past_31 dD_past_32 dD_past_35 (Nat.le_of_ble_eq_true rfl)) (fun h0 => ?_)
  refine x_iload_n dD_past_8 rfl ?_
  refine x_aload_n dD_past_9 rfl ?_
  refine x_get fD_clock dD_past_10 H.1 rfl ?_
  refine x_icmp_gt 28 dD_past_13 (by decide) (fun _ => x_thrNSE rfl rfl dD_past_28 dD_past_31 dD_past_32 dD_past_35 (Nat.le_of_ble_eq_true rfl)) (fun h1 => absurd (hk.resolve_left h0) h1)
theorem d_past_none {c k : Nat} (H : VP b σ h) (hI : VI σ) (hc : c < 16) (hk : k ≤ sK σ) (hv : vix (sA σ) c k (sN σ) = 0) : xG E (d + 4) mD_past 0 [(0, .ref b), (1, .int (nI c)), (2, .int (nI k))] [] false h (true, .inr ("java/util/NoSuchElementException", h.2.1), xthr h) := by
  have hk2 := hI.1
  refine x_iload_n dD_past_0 rfl ?_
  refine x_callS1 cD_D_requireCell dD_past_1 (Nat.le_of_ble_eq_true rfl) (Nat.le_of_ble_eq_true rfl) (d_requireCell hc) ?_
  refine x_iload_n dD_past_4 rfl ?_
  refine x_if_lt 28 dD_past_5 (by decide) (fun hq => absurd hq (nI_pos (by omega))) (fun _ => ?_)
  refine x_iload_n dD_past_8 rfl ?_
  refine x_aload_n dD_past_9 rfl ?_
  refine x_get fD_clock dD_past_10 H.1 rfl ?_
  refine x_icmp_gt 28 dD_past_13 (by decide) (fun hq => absurd hq (nI_nlt hk (by omega))) (fun _ => ?_)
  refine x_aload_n dD_past_16 rfl ?_
  refine x_get fD_versions dD_past_17 H.1 rfl ?_
  refine x_iload_n dD_past_20 rfl ?_
  refine x_iload_n dD_past_21 rfl ?_
  refine x_callV2 cD_V_know dD_past_22 H.2.2.2.2.2.2.1 (Nat.le_of_ble_eq_true rfl) (Nat.le_of_ble_eq_true rfl) (v_know (d := d + 2) hI.2.2.1 (by omega) (by omega) hI.ok H.2.2.2.2.2.2.1 H.2.2.2.2.2.2.2.1 H.2.2.2.2.2.2.2.2.1) ?_
  rw [show decide (vix (sA σ) c k (sN σ) ≠ 0) = false from decide_eq_false (fun z => z hv)]
  refine x_if_ne 36 dD_past_25 (by decide) (fun hq => absurd rfl hq) (fun _ => ?_)
  exact x_thrNSE rfl rfl dD_past_28 dD_past_31 dD_past_32 dD_past_35 (Nat.le_of_ble_eq_true rfl)
theorem d_past_ok {c k : Nat} (H : VP b σ h) (hI : VI σ) (hc : c < 16) (hk : k ≤ sK σ) (hv : vix (sA σ) c k (sN σ) ≠ 0) : xG E (d + 4) mD_past 0 [(0, .ref b), (1, .int (nI c)), (2, .int (nI k))] [] false h (false, .inl (some (.long ((sA σ).2.2 (vix (sA σ) c k (sN σ) - 1)))), h) := by
  have hk2 := hI.1
  refine x_iload_n dD_past_0 rfl ?_
  refine x_callS1 cD_D_requireCell dD_past_1 (Nat.le_of_ble_eq_true rfl) (Nat.le_of_ble_eq_true rfl) (d_requireCell hc) ?_
  refine x_iload_n dD_past_4 rfl ?_
  refine x_if_lt 28 dD_past_5 (by decide) (fun hq => absurd hq (nI_pos (by omega))) (fun _ => ?_)
  refine x_iload_n dD_past_8 rfl ?_
  refine x_aload_n dD_past_9 rfl ?_
  refine x_get fD_clock dD_past_10 H.1 rfl ?_
  refine x_icmp_gt 28 dD_past_13 (by decide) (fun hq => absurd hq (nI_nlt hk (by omega))) (fun _ => ?_)
  refine x_aload_n dD_past_16 rfl ?_
  refine x_get fD_versions dD_past_17 H.1 rfl ?_
  refine x_iload_n dD_past_20 rfl ?_
  refine x_iload_n dD_past_21 rfl ?_
  refine x_callV2 cD_V_know dD_past_22 H.2.2.2.2.2.2.1 (Nat.le_of_ble_eq_true rfl) (Nat.le_of_ble_eq_true rfl) (v_know (d := d + 2) hI.2.2.1 (by omega) (by omega) hI.ok H.2.2.2.2.2.2.1 H.2.2.2.2.2.2.2.1 H.2.2.2.2.2.2.2.2.1) ?_
  rw [show decide (vix (sA σ) c k (sN σ) ≠ 0) = true from decide_eq_true hv]
  refine x_if_ne 36 dD_past_25 (by decide) (fun _ => ?_) (fun hq => absurd hq (by decide))
  have e : (sA σ).2.2 (vix (sA σ) c k (sN σ) - 1) = if vix (sA σ) c k (sN σ) = 0 then 0 else (sA σ).2.2 (vix (sA σ) c k (sN σ) - 1) := (if_neg hv).symm
  rw [e]
  refine x_aload_n dD_past_36 rfl ?_
  refine x_get fD_versions dD_past_37 H.1 rfl ?_
  refine x_iload_n dD_past_40 rfl ?_
  refine x_iload_n dD_past_41 rfl ?_
  refine x_callV2 cD_V_valueAt dD_past_42 H.2.2.2.2.2.2.1 (Nat.le_of_ble_eq_true rfl) (Nat.le_of_ble_eq_true rfl) (v_valueAt (d := d + 2) hI.2.2.1 (by omega) (by omega) hI.ok H.2.2.2.2.2.2.1 H.2.2.2.2.2.2.2.1 H.2.2.2.2.2.2.2.2.1 H.2.2.2.2.2.2.2.2.2) ?_
  exact x_lret rfl dD_past_45
def stForget (σ : vS) : vS := stVer σ (sN σ - (rcA (flo (sK σ) (sT σ) 16) (sN σ) 0 (sN σ) (sA σ)).1) (rdA (rcA (flo (sK σ) (sT σ) 16) (sN σ) 0 (sN σ) (sA σ)).1 (sN σ - (rcA (flo (sK σ) (sT σ) 16) (sN σ) 0 (sN σ) (sA σ)).1) (rcA (flo (sK σ) (sT σ) 16) (sN σ) 0 (sN σ) (sA σ)).1 (rcA (flo (sK σ) (sT σ) 16) (sN σ) 0 (sN σ) (sA σ)).2)
theorem d_forget (hb : E.2.2.1 ≤ b) (H : VP b σ h) (hI : VI σ) : ∃ h', xG E (d + 4) mD_forget 0 [(0, .ref b)] [] false h (true, .inl (some (.int (nI (rcA (flo (sK σ) (sT σ) 16) (sN σ) 0 (sN σ) (sA σ)).1))), h') ∧ VP b (stForget σ) h' ∧ VF b h h' := by
  have hfl := flo_le (sK σ) (sT σ) 16
  have hk := hI.1
  refine ⟨_, ?_, H.setV _ _, (VF.rf b h).setV _ _⟩
  refine x_aload_n dD_forget_0 rfl ?_
  refine x_get fD_versions dD_forget_1 H.1 rfl ?_
  refine x_aload_n dD_forget_4 rfl ?_
  refine x_callV0 cD_D_floor dD_forget_5 H.1 (Nat.le_of_ble_eq_true rfl) (Nat.le_of_ble_eq_true rfl) (d_floor (d := d + 2) H hI) ?_
  refine x_callV1 cD_V_removeCovered dD_forget_8 H.2.2.2.2.2.2.1 (Nat.le_of_ble_eq_true rfl) (Nat.le_of_ble_eq_true rfl) (v_removeCovered (d := d + 2) (by omega) hI.2.2.1 (by omega) hI.ok H.2.2.2.2.2.2.1 H.2.2.2.2.2.2.2.1 H.2.2.2.2.2.2.2.2.1 H.2.2.2.2.2.2.2.2.2) ?_
  exact x_iret rfl dD_forget_11
theorem d_about_bad {t w : Int32} (H : VP b σ h) (hbad : bad σ t) : xG E (d + 4) mD_about 0 [(0, .ref b), (1, .int t), (2, .int w)] [] false h (true, .inr ("java/util/NoSuchElementException", h.2.1), xthr h) := by
  refine x_aload_n dD_about_0 rfl ?_
  refine x_iload_n dD_about_1 rfl ?_
  exact x_thrV1 rfl cD_D_openOne dD_about_2 H.1 (Nat.le_of_ble_eq_true rfl) (Nat.le_of_ble_eq_true rfl) (d_openOne_bad (d := d + 2) H hbad)
theorem d_about_badw {t : Nat} {w : Int32} (H : VP b σ h) (ht : t < 16) (ho : (sT σ t).1 = true) (hw : w.toInt < 0 ∨ 5 < w.toInt) : xG E (d + 4) mD_about 0 [(0, .ref b), (1, .int (nI t)), (2, .int w)] [] false h (true, .inr ("java/lang/IllegalArgumentException", h.2.1), xthr h) := by
  refine x_aload_n dD_about_0 rfl ?_
  refine x_iload_n dD_about_1 rfl ?_
  refine x_callV1 cD_D_openOne dD_about_2 H.1 (Nat.le_of_ble_eq_true rfl) (Nat.le_of_ble_eq_true rfl) (d_openOne (d := d + 2) H ht ho) ?_
  refine x_astore_n dD_about_5 (Nat.le_of_ble_eq_true rfl) ?_
  refine x_iload_n dD_about_6 rfl ?_
  refine x_tableOut 84 dD_about_7 hw (by decide) ?_
  exact x_thrIAE rfl rfl dD_about_84 dD_about_87 dD_about_88 dD_about_91 (Nat.le_of_ble_eq_true rfl)
/-- what about(t, w) answers -/
def abV (σ : vS) (t : Nat) : Nat → Nat
  | 0 => (sT σ t).2.1
  | 1 => (sT σ t).2.2.1
  | 2 => (sT σ t).2.2.2.1
  | 3 => pcn (wrV σ t) 16
  | 4 => pcn (sT σ t).2.2.2.2 16
  | _ => pcn (spV σ t) 16
theorem d_about_ok {t w : Nat} (H : VP b σ h) (hI : VI σ) (ht : t < 16) (ho : (sT σ t).1 = true) (hw : w ≤ 5) : xG E (d + 4) mD_about 0 [(0, .ref b), (1, .int (nI t)), (2, .int (nI w))] [] false h (false, .inl (some (.int (nI (abV σ t w)))), h) := by
  obtain ⟨i1, i2, i3, i4⟩ := hI.2.1 t ht
  refine x_aload_n dD_about_0 rfl ?_
  refine x_iload_n dD_about_1 rfl ?_
  refine x_callV1 cD_D_openOne dD_about_2 H.1 (Nat.le_of_ble_eq_true rfl) (Nat.le_of_ble_eq_true rfl) (d_openOne (d := d + 2) H ht ho) ?_
  refine x_astore_n dD_about_5 (Nat.le_of_ble_eq_true rfl) ?_
  refine x_iload_n dD_about_6 rfl ?_
  rcases (show w = 0 ∨ w = 1 ∨ w = 2 ∨ w = 3 ∨ w = 4 ∨ w = 5 by omega) with rfl | rfl | rfl | rfl | rfl | rfl
  · refine x_tableIn 44 dD_about_7 (by decide) (by decide) rfl (by decide) ?_
    refine x_aload_n dD_about_44 rfl ?_
    refine x_callV0 cD_T_start dD_about_45 (H.2.2.1 t ht) (Nat.le_of_ble_eq_true rfl) (Nat.le_of_ble_eq_true rfl) (t_start (H.2.2.1 t ht)) ?_
    exact x_iret rfl dD_about_48
  · refine x_tableIn 49 dD_about_7 (by decide) (by decide) rfl (by decide) ?_
    refine x_aload_n dD_about_49 rfl ?_
    refine x_callV0 cD_T_kind dD_about_50 (H.2.2.1 t ht) (Nat.le_of_ble_eq_true rfl) (Nat.le_of_ble_eq_true rfl) (t_kind (H.2.2.1 t ht)) ?_
    exact x_iret rfl dD_about_53
  · refine x_tableIn 54 dD_about_7 (by decide) (by decide) rfl (by decide) ?_
    refine x_aload_n dD_about_54 rfl ?_
    refine x_callV0 cD_T_layers dD_about_55 (H.2.2.1 t ht) (Nat.le_of_ble_eq_true rfl) (Nat.le_of_ble_eq_true rfl) (t_layers (H.2.2.1 t ht)) ?_
    exact x_iret rfl dD_about_58
  · refine x_tableIn 59 dD_about_7 (by decide) (by decide) rfl (by decide) ?_
    refine x_aload_n dD_about_59 rfl ?_
    refine x_callV0 cD_T_written dD_about_60 (H.2.2.1 t ht) (Nat.le_of_ble_eq_true rfl) (Nat.le_of_ble_eq_true rfl) (t_written i4 (H.2.2.1 t ht) (H.2.2.2.1 t ht)) ?_
    refine x_callS1 cD_J_bitCount dD_about_63 (Nat.le_of_ble_eq_true rfl) (Nat.le_of_ble_eq_true rfl) j_bitCount ?_
    refine x_top (v' := .int (nI (pcn (wrV σ t) 16))) (congrArg Value.int (bc_pcn (wrV_m16 hI ht))) ?_
    exact x_iret rfl dD_about_66
  · refine x_tableIn 67 dD_about_7 (by decide) (by decide) rfl (by decide) ?_
    refine x_aload_n dD_about_67 rfl ?_
    refine x_callV0 cD_T_seen dD_about_68 (H.2.2.1 t ht) (Nat.le_of_ble_eq_true rfl) (Nat.le_of_ble_eq_true rfl) (t_seen (H.2.2.1 t ht)) ?_
    refine x_callS1 cD_J_bitCount dD_about_71 (Nat.le_of_ble_eq_true rfl) (Nat.le_of_ble_eq_true rfl) j_bitCount ?_
    refine x_top (v' := .int (nI (pcn (sT σ t).2.2.2.2 16))) (congrArg Value.int (bc_pcn (hI.2.2.2.2.1 t ht))) ?_
    exact x_iret rfl dD_about_74
  · refine x_tableIn 75 dD_about_7 (by decide) (by decide) rfl (by decide) ?_
    refine x_aload_n dD_about_75 rfl ?_
    refine x_aload_n dD_about_76 rfl ?_
    refine x_callV1 cD_D_spoiledCells dD_about_77 H.1 (Nat.le_of_ble_eq_true rfl) (Nat.le_of_ble_eq_true rfl) (d_spoiledCells (d := d + 1) H hI ht) ?_
    refine x_callS1 cD_J_bitCount dD_about_80 (Nat.le_of_ble_eq_true rfl) (Nat.le_of_ble_eq_true rfl) j_bitCount ?_
    refine x_top (v' := .int (nI (pcn (spV σ t) 16))) (congrArg Value.int (bc_pcn (spV_m16 hI ht))) ?_
    exact x_iret rfl dD_about_83
theorem d_count_bad {w : Int32} (hw : w.toInt < 0 ∨ 3 < w.toInt) : xG E (d + 4) mD_count 0 [(0, .ref b), (1, .int w)] [] false h (false, .inl (some (.int (-1))), h) := by
  refine x_iload_n dD_count_0 rfl ?_
  refine x_tableOut 55 dD_count_1 hw (by decide) ?_
  refine x_iconst (v := (-1)) dD_count_55 (by decide) ?_
  exact x_iret rfl dD_count_56
def coV (σ : vS) : Nat → Nat
  | 0 => sK σ
  | 1 => hmo (sT σ) 16
  | 2 => sN σ
  | _ => flo (sK σ) (sT σ) 16
theorem d_count_ok {w : Nat} (H : VP b σ h) (hI : VI σ) (hw : w ≤ 3) : xG E (d + 4) mD_count 0 [(0, .ref b), (1, .int (nI w))] [] false h (false, .inl (some (.int (nI (coV σ w)))), h) := by
  refine x_iload_n dD_count_0 rfl ?_
  rcases (show w = 0 ∨ w = 1 ∨ w = 2 ∨ w = 3 by omega) with rfl | rfl | rfl | rfl
  · refine x_tableIn 32 dD_count_1 (by decide) (by decide) rfl (by decide) ?_
    refine x_aload_n dD_count_32 rfl ?_
    refine x_get fD_clock dD_count_33 H.1 rfl ?_
    exact x_iret rfl dD_count_36
  · refine x_tableIn 37 dD_count_1 (by decide) (by decide) rfl (by decide) ?_
    refine x_aload_n dD_count_37 rfl ?_
    refine x_callV0 cD_D_howManyOpen dD_count_38 H.1 (Nat.le_of_ble_eq_true rfl) (Nat.le_of_ble_eq_true rfl) (d_hmo (d := d + 2) H) ?_
    exact x_iret rfl dD_count_41
  · refine x_tableIn 42 dD_count_1 (by decide) (by decide) rfl (by decide) ?_
    refine x_aload_n dD_count_42 rfl ?_
    refine x_get fD_versions dD_count_43 H.1 rfl ?_
    refine x_callV0 cD_V_size dD_count_46 H.2.2.2.2.2.2.1 (Nat.le_of_ble_eq_true rfl) (Nat.le_of_ble_eq_true rfl) (v_size H.2.2.2.2.2.2.1) ?_
    exact x_iret rfl dD_count_49
  · refine x_tableIn 50 dD_count_1 (by decide) (by decide) rfl (by decide) ?_
    refine x_aload_n dD_count_50 rfl ?_
    refine x_callV0 cD_D_floor dD_count_51 H.1 (Nat.le_of_ble_eq_true rfl) (Nat.le_of_ble_eq_true rfl) (d_floor (d := d + 2) H hI) ?_
    exact x_iret rfl dD_count_54
end
