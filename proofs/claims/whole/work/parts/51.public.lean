/-! VersionDesk: its public methods -/
/-- nothing outside the object's cells has changed, nothing was made -/
def VF (b : Nat) (h h' : xH) : Prop := (∀ q, q < b ∨ b + 182 ≤ q → h'.1 q = h.1 q) ∧ h'.2.1 = h.2.1 ∧ h'.2.2 = h.2.2
theorem VF.rf (b : Nat) (h : xH) : VF b h h := ⟨fun _ _ => rfl, rfl, rfl⟩
theorem VF.set {b : Nat} {h h' : xH} (H : VF b h h') {a : Nat} (c : xC) (h1 : b ≤ a) (h2 : a < b + 182) : VF b h (xset h' a c) :=
  ⟨fun q hq => by rw [xset_ne _ _ (by omega)]; exact H.1 q hq, H.2.1, H.2.2⟩
theorem VF.setV {b : Nat} {h h' : xH} (H : VF b h h') (n : Nat) (A : vW) : VF b h (vset h' (b + 178) n A) := by
  unfold vset vput
  exact (((H.set _ (by omega) (by omega)).set _ (by omega) (by omega)).set _ (by omega) (by omega)).set _ (by omega) (by omega)
theorem wrV_m16 {σ : vS} (hI : VI σ) {t : Nat} (ht : t < 16) : m16 (wrV σ t) := by
  have hl := (hI.2.1 t ht).2.2.2
  unfold wrV
  generalize (sT σ t).2.2.2.1 = l at hl
  induction l with
  | zero => exact m16_0
  | succ l ih => exact m16_or (ih (by omega)) (hI.2.2.2.2.2 t l ht (by omega))
theorem heV_m16 {σ : vS} (hI : VI σ) {t : Nat} (ht : t < 16) : m16 (heV σ t) := by
  unfold heV
  split
  · exact m16_or (wrV_m16 hI ht) (hI.2.2.2.2.1 t ht)
  · exact wrV_m16 hI ht
theorem vwa_m16 {A : vW} {k : Nat} : ∀ (n : Nat) (z : Int32), (∀ i, i < n → A.1 i < 16) → m16 z → m16 (vwa A k n z)
  | 0, z, _, hz => hz
  | n + 1, z, hA, hz => by
    unfold vwa
    split
    · exact hz
    · exact vwa_m16 n _ (fun i hi => hA i (by omega)) (m16_or hz (m16_bit (hA n (by omega))))
theorem spV_m16 {σ : vS} (hI : VI σ) {t : Nat} (ht : t < 16) : m16 (spV σ t) :=
  m16_and (heV_m16 hI ht) (vwa_m16 _ _ (fun i hi => (hI.2.2.2.1 i hi).1) m16_0)
def stBegin (σ : vS) (t k : Nat) : vS := (sK σ, va_up (sT σ) t (true, sK σ, k, 1, 0), va_up (sW σ) t (va_up (sW σ t) 0 0), sR σ, sN σ, sA σ)
def stSee (σ : vS) (t c : Nat) : vS := (sK σ, va_up (sT σ) t ((sT σ t).1, (sT σ t).2.1, (sT σ t).2.2.1, (sT σ t).2.2.2.1, (sT σ t).2.2.2.2 ||| xbit c), sW σ, sR σ, sN σ, sA σ)
def stPut (σ : vS) (t l c : Nat) (v : Int64) : vS := (sK σ, sT σ, va_up (sW σ) t (va_up (sW σ t) l (sW σ t l ||| xbit c)), va_up (sR σ) t (va_up (sR σ t) l (va_up (sR σ t l) c v)), sN σ, sA σ)
def stLay (σ : vS) (t l : Nat) : vS := (sK σ, va_up (sT σ) t ((sT σ t).1, (sT σ t).2.1, (sT σ t).2.2.1, l, (sT σ t).2.2.2.2), sW σ, sR σ, sN σ, sA σ)
def stClr (σ : vS) (t l : Nat) : vS := (sK σ, sT σ, va_up (sW σ) t (va_up (sW σ t) l 0), sR σ, sN σ, sA σ)
def stDown (σ : vS) (t l : Nat) : vS := (sK σ, sT σ, va_up (sW σ) t (va_up (sW σ t) l (cdW (sW σ t (l + 1)) (sW σ t l) 16)), va_up (sR σ) t (va_up (sR σ t) l (cdR (sW σ t (l + 1)) (sR σ t (l + 1)) (sR σ t l) 16)), sN σ, sA σ)
def stShut (σ : vS) (t : Nat) : vS := (sK σ, va_up (sT σ) t (false, (sT σ t).2), sW σ, sR σ, sN σ, sA σ)
def stVer (σ : vS) (n : Nat) (A : vW) : vS := (sK σ, sT σ, sW σ, sR σ, n, A)
def stClk (σ : vS) (k : Nat) : vS := (k, sT σ, sW σ, sR σ, sN σ, sA σ)
section
variable {E : xE} {d b : Nat} {σ : vS} {h : xH}
theorem d_begin_bad {kd : Int32} (h0 : kd ≠ nI 0) (h1 : kd ≠ nI 1) : xG E (d + 4) mD_begin 0 [(0, .ref b), (1, .int kd)] [] false h (true, .inr ("java/lang/IllegalArgumentException", h.2.1), xthr h) := by
  refine x_iload_n dD_begin_0 rfl ?_
  refine x_if_eq 17 dD_begin_1 (by decide) (fun hc => absurd hc h0) (fun _ => ?_)
  refine x_iload_n dD_begin_4 rfl ?_
  refine x_iconst (v := (nI 1)) dD_begin_5 (by decide) ?_
  refine x_icmp_eq 17 dD_begin_6 (by decide) (fun hc => absurd hc h1) (fun _ => ?_)
  exact x_thrIAE rfl rfl dD_begin_9 dD_begin_12 dD_begin_13 dD_begin_16 (Nat.le_of_ble_eq_true rfl)
theorem d_begin_full {k : Nat} (H : VP b σ h) (hk : k < 2) (hf : lnoF (sT σ) 16 0 = 16) : xG E (d + 4) mD_begin 0 [(0, .ref b), (1, .int (nI k))] [] false h (true, .inr ("java/lang/IllegalStateException", h.2.1), xthr h) := by
  have go : xG E (d + 4) mD_begin 17 [(0, .ref b), (1, .int (nI k))] [] false h (true, .inr ("java/lang/IllegalStateException", h.2.1), xthr h) := by
    refine x_aload_n dD_begin_17 rfl ?_
    refine x_callV0 cD_D_leastNotOpen dD_begin_18 H.1 (Nat.le_of_ble_eq_true rfl) (Nat.le_of_ble_eq_true rfl) (d_lno (d := d + 2) H) ?_
    rw [hf]
    refine x_istore_n dD_begin_21 (Nat.le_of_ble_eq_true rfl) ?_
    refine x_iload_n dD_begin_22 rfl ?_
    refine x_bipush (v := (nI 16)) dD_begin_23 (by decide) ?_
    refine x_icmp_lt 36 dD_begin_25 (by decide) (fun hc => absurd hc (nI_nlt (Nat.le_refl _) (by decide))) (fun _ => ?_)
    exact x_thrISE rfl rfl dD_begin_28 dD_begin_31 dD_begin_32 dD_begin_35 (Nat.le_of_ble_eq_true rfl)
  refine x_iload_n dD_begin_0 rfl ?_
  refine x_if_eq 17 dD_begin_1 (by decide) (fun _ => go) (fun h0 => ?_)
  refine x_iload_n dD_begin_4 rfl ?_
  refine x_iconst (v := (nI 1)) dD_begin_5 (by decide) ?_
  refine x_icmp_eq 17 dD_begin_6 (by decide) (fun _ => go) (fun h1 => ?_)
  exfalso
  rcases (show k = 0 ∨ k = 1 by omega) with rfl | rfl
  · exact h0 rfl
  · exact h1 rfl
theorem d_begin_ok {k t : Nat} (hb : E.2.2.1 ≤ b) (H : VP b σ h) (hk : k < 2) (hf : lnoF (sT σ) 16 0 = t) (ht : t < 16) : ∃ h', xG E (d + 4) mD_begin 0 [(0, .ref b), (1, .int (nI k))] [] false h (true, .inl (some (.int (nI t))), h') ∧ VP b (stBegin σ t k) h' ∧ VF b h h' := by
  refine ⟨_, ?_, (H.setT ht (true, sK σ, k, 1, 0)).setW ht (va_up (sW σ t) 0 0), ((VF.rf b h).set _ (by omega) (by omega)).set _ (by omega) (by omega)⟩
  have go : xG E (d + 4) mD_begin 17 [(0, .ref b), (1, .int (nI k))] [] false h (true, .inl (some (.int (nI t))), xset (xset h (b + 2 + 11 * t) (tC b t (true, sK σ, k, 1, 0))) (b + 2 + 11 * t + 1) (vI 8 (va_up (sW σ t) 0 0))) := by
    refine x_aload_n dD_begin_17 rfl ?_
    refine x_callV0 cD_D_leastNotOpen dD_begin_18 H.1 (Nat.le_of_ble_eq_true rfl) (Nat.le_of_ble_eq_true rfl) (d_lno (d := d + 2) H) ?_
    rw [hf]
    refine x_istore_n dD_begin_21 (Nat.le_of_ble_eq_true rfl) ?_
    refine x_iload_n dD_begin_22 rfl ?_
    refine x_bipush (v := (nI 16)) dD_begin_23 (by decide) ?_
    refine x_icmp_lt 36 dD_begin_25 (by decide) (fun _ => ?_) (fun hc => absurd (nI_lt ht (by decide)) hc)
    refine x_aload_n dD_begin_36 rfl ?_
    refine x_get fD_transactions dD_begin_37 H.1 rfl ?_
    refine x_iload_n dD_begin_40 rfl ?_
    refine x_aald t (b + 2 + 11 * t) dD_begin_41 H.2.1 rfl (if_pos ht) rfl ht (by decide) ?_
    refine x_aload_n dD_begin_42 rfl ?_
    refine x_get fD_clock dD_begin_43 H.1 rfl ?_
    refine x_iload_n dD_begin_46 rfl ?_
    refine x_callV2 cD_T_open dD_begin_47 (H.2.2.1 t ht) (Nat.le_of_ble_eq_true rfl) (Nat.le_of_ble_eq_true rfl) (t_open (by omega) (H.2.2.1 t ht) (H.2.2.2.1 t ht)) ?_
    refine x_iload_n dD_begin_50 rfl ?_
    exact x_iret rfl dD_begin_51
  refine x_iload_n dD_begin_0 rfl ?_
  refine x_if_eq 17 dD_begin_1 (by decide) (fun _ => go) (fun h0 => ?_)
  refine x_iload_n dD_begin_4 rfl ?_
  refine x_iconst (v := (nI 1)) dD_begin_5 (by decide) ?_
  refine x_icmp_eq 17 dD_begin_6 (by decide) (fun _ => go) (fun h1 => ?_)
  exfalso
  rcases (show k = 0 ∨ k = 1 by omega) with rfl | rfl
  · exact h0 rfl
  · exact h1 rfl
/-- no open transaction has this number -/
def bad (σ : vS) (t : Int32) : Prop := ∀ j, j < 16 → t = nI j → (sT σ j).1 = false
def badc (c : Int32) : Prop := c < 0 ∨ nI 16 ≤ c
theorem d_read_bad {t c : Int32} (H : VP b σ h) (hbad : bad σ t) : xG E (d + 4) mD_read 0 [(0, .ref b), (1, .int t), (2, .int c)] [] false h (true, .inr ("java/util/NoSuchElementException", h.2.1), xthr h) := by
  refine x_aload_n dD_read_0 rfl ?_
  refine x_iload_n dD_read_1 rfl ?_
  exact x_thrV1 rfl cD_D_openOne dD_read_2 H.1 (Nat.le_of_ble_eq_true rfl) (Nat.le_of_ble_eq_true rfl) (d_openOne_bad (d := d + 2) H hbad)
theorem d_read_badc {t : Nat} {c : Int32} (H : VP b σ h) (ht : t < 16) (ho : (sT σ t).1 = true) (hc : badc c) : xG E (d + 4) mD_read 0 [(0, .ref b), (1, .int (nI t)), (2, .int c)] [] false h (true, .inr ("java/util/NoSuchElementException", h.2.1), xthr h) := by
  refine x_aload_n dD_read_0 rfl ?_
  refine x_iload_n dD_read_1 rfl ?_
  refine x_callV1 cD_D_openOne dD_read_2 H.1 (Nat.le_of_ble_eq_true rfl) (Nat.le_of_ble_eq_true rfl) (d_openOne (d := d + 2) H ht ho) ?_
  refine x_astore_n dD_read_5 (Nat.le_of_ble_eq_true rfl) ?_
  refine x_iload_n dD_read_6 rfl ?_
  exact x_thrS1 rfl cD_D_requireCell dD_read_7 (Nat.le_of_ble_eq_true rfl) (Nat.le_of_ble_eq_true rfl) (d_requireCell_bad (d := d + 2) hc)
theorem d_read_saw {t c : Nat} (H : VP b σ h) (hI : VI σ) (ht : t < 16) (ho : (sT σ t).1 = true) (hc : c < 16) (hw : hiW (sW σ t) c (sT σ t).2.2.2.1 ≠ 0) : xG E (d + 4) mD_read 0 [(0, .ref b), (1, .int (nI t)), (2, .int (nI c))] [] false h (false, .inl (some (.long (rdV σ t c))), h) := by
  have hle := hiW_le (sW σ t) c (sT σ t).2.2.2.1
  have hl := (hI.2.1 t ht).2.2.2
  refine x_aload_n dD_read_0 rfl ?_
  refine x_iload_n dD_read_1 rfl ?_
  refine x_callV1 cD_D_openOne dD_read_2 H.1 (Nat.le_of_ble_eq_true rfl) (Nat.le_of_ble_eq_true rfl) (d_openOne (d := d + 2) H ht ho) ?_
  refine x_astore_n dD_read_5 (Nat.le_of_ble_eq_true rfl) ?_
  refine x_iload_n dD_read_6 rfl ?_
  refine x_callS1 cD_D_requireCell dD_read_7 (Nat.le_of_ble_eq_true rfl) (Nat.le_of_ble_eq_true rfl) (d_requireCell hc) ?_
  refine x_aload_n dD_read_10 rfl ?_
  refine x_iload_n dD_read_11 rfl ?_
  refine x_callV1 cD_T_layerThatWrote dD_read_12 (H.2.2.1 t ht) (Nat.le_of_ble_eq_true rfl) (Nat.le_of_ble_eq_true rfl) (t_ltw hl (H.2.2.1 t ht) (H.2.2.2.1 t ht)) ?_
  refine x_if_ge 23 dD_read_15 (by decide) (fun _ => ?_) (fun hq => absurd ((xpi_neg _ (by omega)).mp (Int32.not_le.mp hq)) hw)
  refine x_aload_n dD_read_23 rfl ?_
  refine x_aload_n dD_read_24 rfl ?_
  refine x_iload_n dD_read_25 rfl ?_
  refine x_callV2 cD_D_reading dD_read_26 H.1 (Nat.le_of_ble_eq_true rfl) (Nat.le_of_ble_eq_true rfl) (d_reading (d := d + 1) H hI ht hc) ?_
  exact x_lret rfl dD_read_29
theorem d_read_see {t c : Nat} (hb : E.2.2.1 ≤ b) (H : VP b σ h) (hI : VI σ) (ht : t < 16) (ho : (sT σ t).1 = true) (hc : c < 16) (hw : hiW (sW σ t) c (sT σ t).2.2.2.1 = 0) : ∃ h', xG E (d + 4) mD_read 0 [(0, .ref b), (1, .int (nI t)), (2, .int (nI c))] [] false h (true, .inl (some (.long (rdV σ t c))), h') ∧ VP b (stSee σ t c) h' ∧ VF b h h' := by
  have hl := (hI.2.1 t ht).2.2.2
  have H' := H.setT ht ((sT σ t).1, (sT σ t).2.1, (sT σ t).2.2.1, (sT σ t).2.2.2.1, (sT σ t).2.2.2.2 ||| xbit c)
  have hI' : VI (stSee σ t c) := by
    refine ⟨hI.1, fun u hu => ?_, hI.2.2.1, hI.2.2.2.1, fun u hu => ?_, hI.2.2.2.2.2⟩
    · by_cases e : u = t
      · subst e; simp only [stSee, sT, sK, up_eq]; exact hI.2.1 u hu
      · simp only [stSee, sT, sK, up_ne _ _ e]; exact hI.2.1 u hu
    · by_cases e : u = t
      · subst e; simp only [stSee, sT, sK, up_eq]; exact m16_or (hI.2.2.2.2.1 u hu) (m16_bit hc)
      · simp only [stSee, sT, sK, up_ne _ _ e]; exact hI.2.2.2.2.1 u hu
  have er : rdV (stSee σ t c) t c = rdV σ t c := by simp only [rdV, stSee, sT, sK, sW, sR, sN, sA, up_eq]
  refine ⟨_, ?_, H', (VF.rf b h).set _ (by omega) (by omega)⟩
  rw [← er]
  refine x_aload_n dD_read_0 rfl ?_
  refine x_iload_n dD_read_1 rfl ?_
  refine x_callV1 cD_D_openOne dD_read_2 H.1 (Nat.le_of_ble_eq_true rfl) (Nat.le_of_ble_eq_true rfl) (d_openOne (d := d + 2) H ht ho) ?_
  refine x_astore_n dD_read_5 (Nat.le_of_ble_eq_true rfl) ?_
  refine x_iload_n dD_read_6 rfl ?_
  refine x_callS1 cD_D_requireCell dD_read_7 (Nat.le_of_ble_eq_true rfl) (Nat.le_of_ble_eq_true rfl) (d_requireCell hc) ?_
  refine x_aload_n dD_read_10 rfl ?_
  refine x_iload_n dD_read_11 rfl ?_
  refine x_callV1 cD_T_layerThatWrote dD_read_12 (H.2.2.1 t ht) (Nat.le_of_ble_eq_true rfl) (Nat.le_of_ble_eq_true rfl) (t_ltw hl (H.2.2.1 t ht) (H.2.2.2.1 t ht)) ?_
  refine x_if_ge 23 dD_read_15 (by decide) (fun hq => absurd ((xpi_neg _ (by omega)).mpr hw) (Int32.not_lt.mpr hq)) (fun _ => ?_)
  refine x_aload_n dD_read_18 rfl ?_
  refine x_iload_n dD_read_19 rfl ?_
  refine x_callV1 cD_T_see dD_read_20 (H.2.2.1 t ht) (Nat.le_of_ble_eq_true rfl) (Nat.le_of_ble_eq_true rfl) (t_see (by omega) (H.2.2.1 t ht)) ?_
  refine x_aload_n dD_read_23 rfl ?_
  refine x_aload_n dD_read_24 rfl ?_
  refine x_iload_n dD_read_25 rfl ?_
  refine x_callV2 cD_D_reading dD_read_26 H'.1 (Nat.le_of_ble_eq_true rfl) (Nat.le_of_ble_eq_true rfl) (d_reading (d := d + 1) (σ := stSee σ t c) H' hI' ht hc) ?_
  exact x_lret rfl dD_read_29
theorem d_write_bad {t c : Int32} {v : Int64} (H : VP b σ h) (hbad : bad σ t) : xG E (d + 4) mD_write 0 [(0, .ref b), (1, .int t), (2, .int c), (3, .long v)] [] false h (true, .inr ("java/util/NoSuchElementException", h.2.1), xthr h) := by
  refine x_aload_n dD_write_0 rfl ?_
  refine x_iload_n dD_write_1 rfl ?_
  exact x_thrV1 rfl cD_D_openOne dD_write_2 H.1 (Nat.le_of_ble_eq_true rfl) (Nat.le_of_ble_eq_true rfl) (d_openOne_bad (d := d + 2) H hbad)
theorem d_write_badc {t : Nat} {c : Int32} {v : Int64} (H : VP b σ h) (ht : t < 16) (ho : (sT σ t).1 = true) (hc : badc c) : xG E (d + 4) mD_write 0 [(0, .ref b), (1, .int (nI t)), (2, .int c), (3, .long v)] [] false h (true, .inr ("java/util/NoSuchElementException", h.2.1), xthr h) := by
  refine x_aload_n dD_write_0 rfl ?_
  refine x_iload_n dD_write_1 rfl ?_
  refine x_callV1 cD_D_openOne dD_write_2 H.1 (Nat.le_of_ble_eq_true rfl) (Nat.le_of_ble_eq_true rfl) (d_openOne (d := d + 2) H ht ho) ?_
  refine x_astore dD_write_5 (Nat.le_of_ble_eq_true rfl) ?_
  refine x_iload_n dD_write_7 rfl ?_
  exact x_thrS1 rfl cD_D_requireCell dD_write_8 (Nat.le_of_ble_eq_true rfl) (Nat.le_of_ble_eq_true rfl) (d_requireCell_bad (d := d + 2) hc)
theorem d_write_ok {t c : Nat} {v : Int64} (hb : E.2.2.1 ≤ b) (H : VP b σ h) (hI : VI σ) (ht : t < 16) (ho : (sT σ t).1 = true) (hc : c < 16) : ∃ h', xG E (d + 4) mD_write 0 [(0, .ref b), (1, .int (nI t)), (2, .int (nI c)), (3, .long v)] [] false h (true, .inl (some (.long (rdV σ t c))), h') ∧ VP b (stPut σ t ((sT σ t).2.2.2.1 - 1) c v) h' ∧ VF b h h' := by
  obtain ⟨i1, i2, i3, i4⟩ := hI.2.1 t ht
  refine ⟨_, ?_, (H.setW ht (va_up (sW σ t) ((sT σ t).2.2.2.1 - 1) (sW σ t ((sT σ t).2.2.2.1 - 1) ||| xbit c))).setR (k := (sT σ t).2.2.2.1 - 1) ht (by omega) (va_up (sR σ t ((sT σ t).2.2.2.1 - 1)) c v), ((VF.rf b h).set _ (by omega) (by omega)).set _ (by omega) (by omega)⟩
  refine x_aload_n dD_write_0 rfl ?_
  refine x_iload_n dD_write_1 rfl ?_
  refine x_callV1 cD_D_openOne dD_write_2 H.1 (Nat.le_of_ble_eq_true rfl) (Nat.le_of_ble_eq_true rfl) (d_openOne (d := d + 2) H ht ho) ?_
  refine x_astore dD_write_5 (Nat.le_of_ble_eq_true rfl) ?_
  refine x_iload_n dD_write_7 rfl ?_
  refine x_callS1 cD_D_requireCell dD_write_8 (Nat.le_of_ble_eq_true rfl) (Nat.le_of_ble_eq_true rfl) (d_requireCell hc) ?_
  refine x_aload_n dD_write_11 rfl ?_
  refine x_aload dD_write_12 rfl ?_
  refine x_iload_n dD_write_14 rfl ?_
  refine x_callV2 cD_D_reading dD_write_15 H.1 (Nat.le_of_ble_eq_true rfl) (Nat.le_of_ble_eq_true rfl) (d_reading (d := d + 1) H hI ht hc) ?_
  refine x_lstore dD_write_18 (Nat.le_of_ble_eq_true rfl) ?_
  refine x_aload dD_write_20 rfl ?_
  refine x_iload_n dD_write_22 rfl ?_
  refine x_lload_n dD_write_23 rfl ?_
  refine x_callV2 cD_T_put dD_write_24 (H.2.2.1 t ht) (Nat.le_of_ble_eq_true rfl) (Nat.le_of_ble_eq_true rfl) (t_put (d := d + 2) (by omega) i3 i4 hc (H.2.2.1 t ht) (H.2.2.2.1 t ht) (H.2.2.2.2.1 t ht) (H.2.2.2.2.2.1 t _ ht (by omega))) ?_
  refine x_lload dD_write_27 rfl ?_
  exact x_lret rfl dD_write_29
theorem d_push_bad {t : Int32} (H : VP b σ h) (hbad : bad σ t) : xG E (d + 4) mD_push 0 [(0, .ref b), (1, .int t)] [] false h (true, .inr ("java/util/NoSuchElementException", h.2.1), xthr h) := by
  refine x_aload_n dD_push_0 rfl ?_
  refine x_iload_n dD_push_1 rfl ?_
  exact x_thrV1 rfl cD_D_openOne dD_push_2 H.1 (Nat.le_of_ble_eq_true rfl) (Nat.le_of_ble_eq_true rfl) (d_openOne_bad (d := d + 2) H hbad)
theorem d_push_full {t : Nat} (H : VP b σ h) (ht : t < 16) (ho : (sT σ t).1 = true) (hl : (sT σ t).2.2.2.1 = 8) : xG E (d + 4) mD_push 0 [(0, .ref b), (1, .int (nI t))] [] false h (true, .inr ("java/lang/IllegalStateException", h.2.1), xthr h) := by
  refine x_aload_n dD_push_0 rfl ?_
  refine x_iload_n dD_push_1 rfl ?_
  refine x_callV1 cD_D_openOne dD_push_2 H.1 (Nat.le_of_ble_eq_true rfl) (Nat.le_of_ble_eq_true rfl) (d_openOne (d := d + 2) H ht ho) ?_
  refine x_astore_n dD_push_5 (Nat.le_of_ble_eq_true rfl) ?_
  refine x_aload_n dD_push_6 rfl ?_
  refine x_callV0 cD_T_layers dD_push_7 (H.2.2.1 t ht) (Nat.le_of_ble_eq_true rfl) (Nat.le_of_ble_eq_true rfl) (t_layers (H.2.2.1 t ht)) ?_
  refine x_bipush (v := (nI 8)) dD_push_10 (by decide) ?_
  rw [hl]
  refine x_icmp_lt 23 dD_push_12 (by decide) (fun hq => absurd hq (nI_nlt (Nat.le_refl _) (by decide))) (fun _ => ?_)
  exact x_thrISE rfl rfl dD_push_15 dD_push_18 dD_push_19 dD_push_22 (Nat.le_of_ble_eq_true rfl)
theorem d_push_ok {t : Nat} (hb : E.2.2.1 ≤ b) (H : VP b σ h) (ht : t < 16) (ho : (sT σ t).1 = true) (hl : (sT σ t).2.2.2.1 < 8) : ∃ h', xG E (d + 4) mD_push 0 [(0, .ref b), (1, .int (nI t))] [] false h (true, .inl (some (.int (nI ((sT σ t).2.2.2.1 + 1)))), h') ∧ VP b (stLay (stClr σ t (sT σ t).2.2.2.1) t ((sT σ t).2.2.2.1 + 1)) h' ∧ VF b h h' := by
  have H' := (H.setW ht (va_up (sW σ t) (sT σ t).2.2.2.1 0)).setT ht ((sT σ t).1, (sT σ t).2.1, (sT σ t).2.2.1, (sT σ t).2.2.2.1 + 1, (sT σ t).2.2.2.2)
  refine ⟨_, ?_, H', ((VF.rf b h).set _ (by omega) (by omega)).set _ (by omega) (by omega)⟩
  have hT' := H'.2.2.1 t ht
  have e1 : sT (sK (sK σ, sT σ, va_up (sW σ) t (va_up (sW σ t) (sT σ t).2.2.2.1 0), sR σ, sN σ, sA σ), va_up (sT σ) t ((sT σ t).1, (sT σ t).2.1, (sT σ t).2.2.1, (sT σ t).2.2.2.1 + 1, (sT σ t).2.2.2.2), va_up (sW σ) t (va_up (sW σ t) (sT σ t).2.2.2.1 0), sR σ, sN σ, sA σ) t = ((sT σ t).1, (sT σ t).2.1, (sT σ t).2.2.1, (sT σ t).2.2.2.1 + 1, (sT σ t).2.2.2.2) := up_eq _ _ _
  rw [show _ = _ from e1] at hT'
  refine x_aload_n dD_push_0 rfl ?_
  refine x_iload_n dD_push_1 rfl ?_
  refine x_callV1 cD_D_openOne dD_push_2 H.1 (Nat.le_of_ble_eq_true rfl) (Nat.le_of_ble_eq_true rfl) (d_openOne (d := d + 2) H ht ho) ?_
  refine x_astore_n dD_push_5 (Nat.le_of_ble_eq_true rfl) ?_
  refine x_aload_n dD_push_6 rfl ?_
  refine x_callV0 cD_T_layers dD_push_7 (H.2.2.1 t ht) (Nat.le_of_ble_eq_true rfl) (Nat.le_of_ble_eq_true rfl) (t_layers (H.2.2.1 t ht)) ?_
  refine x_bipush (v := (nI 8)) dD_push_10 (by decide) ?_
  refine x_icmp_lt 23 dD_push_12 (by decide) (fun _ => ?_) (fun hq => absurd (nI_lt hl (by decide)) hq)
  refine x_aload_n dD_push_23 rfl ?_
  refine x_callV0 cD_T_addLayer dD_push_24 (H.2.2.1 t ht) (Nat.le_of_ble_eq_true rfl) (Nat.le_of_ble_eq_true rfl) (t_addLayer (by omega) hl (H.2.2.1 t ht) (H.2.2.2.1 t ht)) ?_
  refine x_aload_n dD_push_27 rfl ?_
  refine x_callV0 cD_T_layers dD_push_28 hT' (Nat.le_of_ble_eq_true rfl) (Nat.le_of_ble_eq_true rfl) (t_layers hT') ?_
  exact x_iret rfl dD_push_31
end
