/-! Each operation keeps the two states together -/
section
variable {σ σ' : vS} {μ μ' : qS} {t : Nat}
theorem INV.x (I : INV σ μ) (x : Nat) : INV σ (sX μ x) := I
theorem VI_upd (I : VI σ) (hK : sK σ' = sK σ) (hN : sN σ' = sN σ) (hA : sA σ' = sA σ) (ho : ∀ u, u < 16 → u ≠ t → sT σ' u = sT σ u ∧ sW σ' u = sW σ u) (h1 : (sT σ' t).2.1 ≤ sK σ) (h2 : (sT σ' t).2.2.1 < 2) (h3 : 1 ≤ (sT σ' t).2.2.2.1 ∧ (sT σ' t).2.2.2.1 ≤ 8) (h4 : m16 (sT σ' t).2.2.2.2) (h5 : ∀ l, l < 8 → m16 (sW σ' t l)) : VI σ' := by
  refine ⟨by rw [hK]; exact I.1, fun u hu => ?_, by rw [hN]; exact I.2.2.1, by rw [hN, hA, hK]; exact I.2.2.2.1, fun u hu => ?_, fun u l hu hl => ?_⟩
  · by_cases e : u = t
    · subst e; rw [hK]; exact ⟨h1, h2, h3⟩
    · rw [(ho u hu e).1, hK]; exact I.2.1 u hu
  · by_cases e : u = t
    · subst e; exact h4
    · rw [(ho u hu e).1]; exact I.2.2.2.2.1 u hu
  · by_cases e : u = t
    · subst e; exact h5 l hl
    · rw [(ho u hu e).2]; exact I.2.2.2.2.2 u l hu hl
/-- nothing of the transaction u has changed -/
def TS (σ σ' : vS) (μ μ' : qS) (u : Nat) : Prop := sT σ' u = sT σ u ∧ sW σ' u = sW σ u ∧ sR σ' u = sR σ u ∧ qZ μ' 1 u = qZ μ 1 u ∧ qI μ' 4 u = qI μ 4 u ∧ qI μ' 5 u = qI μ 5 u ∧ qI μ' 6 u = qI μ 6 u ∧
  (∀ c, c < 16 → qZ μ' 2 (16 * u + c) = qZ μ 2 (16 * u + c) ∧ qL μ' 7 (16 * u + c) = qL μ 7 (16 * u + c)) ∧ (∀ l c, l < 8 → c < 16 → qZ μ' 3 ((8 * u + l) * 16 + c) = qZ μ 3 ((8 * u + l) * 16 + c) ∧ qL μ' 8 ((8 * u + l) * 16 + c) = qL μ 8 ((8 * u + l) * 16 + c))
theorem TS.TR {u : Nat} (h : TS σ σ' μ μ' u) (hl : (sT σ u).2.2.2.1 ≤ 8) (hv : ∀ c, c < 16 → vl (celL (rowL (sA σ') (sN σ')) c) (sT σ u).2.1 = vl (celL (rowL (sA σ) (sN σ)) c) (sT σ u).2.1) (T : TR σ μ u) : TR σ' μ' u := by
  obtain ⟨s1, s2, s3, s4, s5, s6, s7, s8, s9⟩ := h
  obtain ⟨t1, t2, t3, t4, t5, t6⟩ := T
  refine ⟨by rw [s1, s5]; exact t1, by rw [s1, s6]; exact t2, by rw [s1, s7]; exact t3, fun c hc => ?_, fun l c h1 hc => ?_, fun c hc => ?_⟩
  · rw [(s8 c hc).1, s1]; exact t4 c hc
  · rw [s1] at h1
    rw [(s9 l c (by omega) hc).1, (s9 l c (by omega) hc).2, s2, s3]
    exact t5 l c h1 hc
  · rw [s1, (s8 c hc).2, hv c hc]; exact t6 c hc
theorem INV_upd (I : INV σ μ) (V : VI σ') (hK : sK σ' = sK σ) (hN : sN σ' = sN σ) (hA : sA σ' = sA σ) (hK2 : qK μ' = qK μ) (ho : ∀ u, u < 16 → u ≠ t → TS σ σ' μ μ' u) (h1 : t < 16 → qZ μ' 1 t = (sT σ' t).1) (h2 : t < 16 → (sT σ' t).1 = true → TR σ' μ' t) (v9 : qI μ' 9 = qI μ 9) (v10 : qI μ' 10 = qI μ 10) (v11 : qI μ' 11 = qI μ 11) (v12 : qL μ' 12 = qL μ 12) : INV σ' μ' := by
  refine ⟨V, by rw [hK2, hK]; exact I.2.1, fun u hu => ?_, fun u hu hop => ?_, ⟨by rw [hA, hN]; exact I.2.2.2.2.1.1, fun c hc => ?_⟩, by rw [v10]; exact I.2.2.2.2.2⟩
  · by_cases e : u = t
    · subst e; exact h1 hu
    · rw [(ho u hu e).2.2.2.1, (ho u hu e).1]; exact I.2.2.1 u hu
  · by_cases e : u = t
    · subst e; exact h2 hu hop
    · rw [(ho u hu e).1] at hop
      exact (ho u hu e).TR (I.1.2.1 u hu).2.2.2 (fun c _ => by rw [hA, hN]) (I.T hu hop)
  · have : row μ' c = row μ c := by unfold row; rw [v9, v10, v12]
    rw [this, hA, hN, v11]
    exact I.2.2.2.2.1.2 c hc
theorem up2 {α : Type} (f : Nat → α) {i q : Nat} (x : α) : va_up f i x q = if q = i then x else f q := rfl
theorem INV.shut (I : INV σ μ) (ht : t < 16) : INV (stShut σ t) (sZ (sX μ 0) 1 t false) := by
  obtain ⟨v1, v2, v3⟩ := I.1.2.1 t ht
  refine INV_upd (t := t) I (VI_upd (t := t) I.1 rfl rfl rfl (fun u _ e => ⟨up_ne _ _ e, rfl⟩) ?_ ?_ ?_ ?_ (fun l hl => I.1.2.2.2.2.2 t l ht hl)) rfl rfl rfl rfl (fun u hu e => ?_) (fun _ => ?_) (fun _ h => ?_) rfl rfl rfl rfl
  · simp only [stShut, sT, up_eq]; exact v1
  · simp only [stShut, sT, up_eq]; exact v2
  · simp only [stShut, sT, up_eq]; exact v3
  · simp only [stShut, sT, up_eq]; exact I.1.2.2.2.2.1 t ht
  · refine ⟨up_ne _ _ e, rfl, rfl, ?_, rfl, rfl, rfl, fun c _ => ⟨?_, rfl⟩, fun l c _ _ => ⟨?_, rfl⟩⟩
    · rw [sZ_at, up_ne _ _ e]; rfl
    · rw [sZ_ne (by decide)]; rfl
    · rw [sZ_ne (by decide)]; rfl
  · rw [sZ_at, up_eq]; simp only [stShut, sT, up_eq]
  · exfalso; simp only [stShut, sT, up_eq] at h; cases h
theorem INV.see (I : INV σ μ) (ht : t < 16) (ho : (sT σ t).1 = true) {c : Nat} (hc : c < 16) : INV (stSee σ t c) (sZ (sX μ 0) 2 (16 * t + c) true) := by
  obtain ⟨v1, v2, v3⟩ := I.1.2.1 t ht
  obtain ⟨t1, t2, t3, t4, t5, t6⟩ := I.T ht ho
  have eT : sT (stSee σ t c) t = ((sT σ t).1, (sT σ t).2.1, (sT σ t).2.2.1, (sT σ t).2.2.2.1, (sT σ t).2.2.2.2 ||| xbit c) := up_eq _ _ _
  refine INV_upd (t := t) I (VI_upd (t := t) I.1 rfl rfl rfl (fun u _ e => ⟨up_ne _ _ e, rfl⟩) ?_ ?_ ?_ ?_ (fun l hl => I.1.2.2.2.2.2 t l ht hl)) rfl rfl rfl rfl (fun u hu e => ?_) (fun _ => ?_) (fun _ _ => ?_) rfl rfl rfl rfl
  · rw [eT]; exact v1
  · rw [eT]; exact v2
  · rw [eT]; exact v3
  · rw [eT]; exact m16_or (I.1.2.2.2.2.1 t ht) (m16_bit hc)
  · refine ⟨up_ne _ _ e, rfl, rfl, ?_, rfl, rfl, rfl, fun c' hc' => ⟨?_, rfl⟩, fun l c' _ _ => ⟨?_, rfl⟩⟩
    · rw [sZ_ne (by decide)]; rfl
    · rw [sZ_at, up_ne _ _ (by omega)]; rfl
    · rw [sZ_ne (by decide)]; rfl
  · rw [sZ_ne (by decide), eT]; exact I.2.2.1 t ht
  · refine ⟨by rw [eT]; exact t1, by rw [eT]; exact t2, by rw [eT]; exact t3, fun c' hc' => ?_, fun l c' hl hc' => ?_, by rw [eT]; exact t6⟩
    · rw [sZ_at, eT]
      show _ = bt ((sT σ t).2.2.2.2 ||| xbit c) c'
      rw [b_or, xbit_at hc hc']
      by_cases e : c' = c
      · rw [e, up_eq, decide_eq_true rfl, Bool.or_true]
      · rw [up_ne _ _ (by omega), decide_eq_false e, Bool.or_false]
        exact t4 c' hc'
    · rw [eT] at hl
      rw [sZ_ne (by decide)]
      exact t5 l c' hl hc'
theorem INV.put (I : INV σ μ) (ht : t < 16) (ho : (sT σ t).1 = true) {c : Nat} (hc : c < 16) (v : Int64) : INV (stPut σ t ((sT σ t).2.2.2.1 - 1) c v) (qWrite μ t c v) := by
  obtain ⟨v1, v2, v3, v4⟩ := I.1.2.1 t ht
  obtain ⟨t1, t2, t3, t4, t5, t6⟩ := I.T ht ho
  have eT : sT (stPut σ t ((sT σ t).2.2.2.1 - 1) c v) t = sT σ t := rfl
  have eW : sW (stPut σ t ((sT σ t).2.2.2.1 - 1) c v) t = va_up (sW σ t) ((sT σ t).2.2.2.1 - 1) (sW σ t ((sT σ t).2.2.2.1 - 1) ||| xbit c) := up_eq _ _ _
  have eR : sR (stPut σ t ((sT σ t).2.2.2.1 - 1) c v) t = va_up (sR σ t) ((sT σ t).2.2.2.1 - 1) (va_up (sR σ t ((sT σ t).2.2.2.1 - 1)) c v) := up_eq _ _ _
  have ei : (8 * t + qI μ 6 t - 1) * 16 + c = (8 * t + ((sT σ t).2.2.2.1 - 1)) * 16 + c := by rw [t3, show 8 * t + (sT σ t).2.2.2.1 - 1 = 8 * t + ((sT σ t).2.2.2.1 - 1) by omega]
  have e3 : qZ (qWrite μ t c v) 3 = va_up (qZ μ 3) ((8 * t + ((sT σ t).2.2.2.1 - 1)) * 16 + c) true := by
    unfold qWrite; rw [ei, qZ_sL, sZ_at]; rfl
  have e8 : qL (qWrite μ t c v) 8 = va_up (qL μ 8) ((8 * t + ((sT σ t).2.2.2.1 - 1)) * 16 + c) v := by
    unfold qWrite; rw [ei, sL_at]; rfl
  have en : ∀ k, k ≠ 3 → qZ (qWrite μ t c v) k = qZ μ k := fun k hk => by unfold qWrite; rw [qZ_sL, sZ_ne hk]; rfl
  have el : ∀ k, k ≠ 8 → qL (qWrite μ t c v) k = qL μ k := fun k hk => by unfold qWrite; rw [sL_ne hk]; rfl
  refine INV_upd (t := t) I (VI_upd (t := t) I.1 rfl rfl rfl (fun u _ e => ⟨rfl, up_ne _ _ e⟩) v1 v2 ⟨v3, v4⟩ (I.1.2.2.2.2.1 t ht) (fun l hl => ?_)) rfl rfl rfl rfl (fun u hu e => ?_) (fun _ => ?_) (fun _ _ => ?_) rfl rfl rfl (el 12 (by decide))
  · rw [eW]
    by_cases e : l = (sT σ t).2.2.2.1 - 1
    · rw [e, up_eq]; exact m16_or (I.1.2.2.2.2.2 t _ ht (by omega)) (m16_bit hc)
    · rw [up_ne _ _ e]; exact I.1.2.2.2.2.2 t l ht hl
  · refine ⟨rfl, up_ne _ _ e, up_ne _ _ e, by rw [en 1 (by decide)], rfl, rfl, rfl, fun c' hc' => ⟨by rw [en 2 (by decide)], by rw [el 7 (by decide)]⟩, fun l c' hl hc' => ?_⟩
    rw [e3, e8, up_ne _ _ (by omega), up_ne _ _ (by omega)]
    exact ⟨rfl, rfl⟩
  · rw [en 1 (by decide)]; exact I.2.2.1 t ht
  · refine ⟨t1, t2, t3, fun c' hc' => by rw [en 2 (by decide)]; exact t4 c' hc', fun l c' hl hc' => ?_, fun c' hc' => by rw [el 7 (by decide)]; exact t6 c' hc'⟩
    rw [eW, eR, e3, e8]
    have h5 := t5 l c' hl hc'
    by_cases e : l = (sT σ t).2.2.2.1 - 1
    · subst e
      rw [up_eq, up_eq, b_or, xbit_at hc hc']
      by_cases e2 : c' = c
      · subst e2
        rw [up_eq, up_eq, up_eq, decide_eq_true rfl, Bool.or_true]
        exact ⟨rfl, fun _ => rfl⟩
      · rw [up_ne _ _ (by omega), up_ne _ _ (by omega), up_ne _ _ e2, decide_eq_false e2, Bool.or_false]
        exact h5
    · have hl' : l < (sT σ t).2.2.2.1 := hl
      rw [up_ne _ _ e, up_ne _ _ e, up_ne _ _ (by omega), up_ne _ _ (by omega)]
      exact h5
theorem INV.push (I : INV σ μ) (ht : t < 16) (ho : (sT σ t).1 = true) (hl8 : (sT σ t).2.2.2.1 < 8) : INV (stLay (stClr σ t (sT σ t).2.2.2.1) t ((sT σ t).2.2.2.1 + 1)) (qPush μ t) := by
  obtain ⟨v1, v2, v3, v4⟩ := I.1.2.1 t ht
  obtain ⟨t1, t2, t3, t4, t5, t6⟩ := I.T ht ho
  have eT : sT (stLay (stClr σ t (sT σ t).2.2.2.1) t ((sT σ t).2.2.2.1 + 1)) t = ((sT σ t).1, (sT σ t).2.1, (sT σ t).2.2.1, (sT σ t).2.2.2.1 + 1, (sT σ t).2.2.2.2) := up_eq _ _ _
  have eW : sW (stLay (stClr σ t (sT σ t).2.2.2.1) t ((sT σ t).2.2.2.1 + 1)) t = va_up (sW σ t) (sT σ t).2.2.2.1 0 := up_eq _ _ _
  have eZ : ∀ k, k ≠ 3 → qZ (qPush μ t) k = qZ μ k := fun k hk => by unfold qPush; rw [qZ_sI, mclr_Z _ hk]; rfl
  have e3 : ∀ j, qZ (qPush μ t) 3 j = if (8 * t + (sT σ t).2.2.2.1) * 16 + 0 ≤ j ∧ j < (8 * t + (sT σ t).2.2.2.1) * 16 + 0 + 16 then false else qZ μ 3 j := fun j => by
    unfold qPush; rw [qZ_sI, mclr_3, t3]; rfl
  have eL : qL (qPush μ t) = qL μ := by unfold qPush; rw [qL_sI, mclr_L]; rfl
  have eI : ∀ k, k ≠ 6 → qI (qPush μ t) k = qI μ k := fun k hk => by unfold qPush; rw [sI_ne hk, mclr_I]; rfl
  have e6 : qI (qPush μ t) 6 = va_up (qI μ 6) t ((sT σ t).2.2.2.1 + 1) := by unfold qPush; rw [sI_at, mclr_I, t3]; rfl
  have eK : qK (qPush μ t) = qK μ := by unfold qPush; rw [qK_sI, mclr_K]; rfl
  refine INV_upd (t := t) I (VI_upd (t := t) I.1 rfl rfl rfl (fun u _ e => ⟨up_ne _ _ e, up_ne _ _ e⟩) ?_ ?_ ?_ ?_ (fun l hl => ?_)) rfl rfl rfl eK (fun u hu e => ?_) (fun _ => ?_) (fun _ _ => ?_) (eI 9 (by decide)) (eI 10 (by decide)) (eI 11 (by decide)) (by rw [eL])
  · rw [eT]; exact v1
  · rw [eT]; exact v2
  · rw [eT]; exact ⟨Nat.succ_le_succ (Nat.zero_le _), hl8⟩
  · rw [eT]; exact I.1.2.2.2.2.1 t ht
  · rw [eW]
    by_cases e : l = (sT σ t).2.2.2.1
    · rw [e, up_eq]; exact m16_0
    · rw [up_ne _ _ e]; exact I.1.2.2.2.2.2 t l ht hl
  · refine ⟨up_ne _ _ e, up_ne _ _ e, rfl, by rw [eZ 1 (by decide)], by rw [eI 4 (by decide)], by rw [eI 5 (by decide)], by rw [e6, up_ne _ _ e], fun c' hc' => ⟨by rw [eZ 2 (by decide)], by rw [eL]⟩, fun l c' hl hc' => ⟨?_, by rw [eL]⟩⟩
    rw [e3, if_neg (by omega)]
  · rw [eZ 1 (by decide), eT]; exact I.2.2.1 t ht
  · refine ⟨by rw [eI 4 (by decide), eT]; exact t1, by rw [eI 5 (by decide), eT]; exact t2, by rw [e6, up_eq, eT], fun c' hc' => by rw [eZ 2 (by decide), eT]; exact t4 c' hc', fun l c' hl hc' => ?_, fun c' hc' => by rw [eL, eT]; exact t6 c' hc'⟩
    rw [eT] at hl
    have hl' : l < (sT σ t).2.2.2.1 + 1 := hl
    rw [eW, e3, eL]
    by_cases e : l = (sT σ t).2.2.2.1
    · rw [if_pos (by rw [e]; omega), e, up_eq, b_0]
      exact ⟨rfl, fun q => by cases q⟩
    · rw [if_neg (by omega), up_ne _ _ e]
      exact t5 l c' (by omega) hc'
theorem INV.pop (I : INV σ μ) (ht : t < 16) (ho : (sT σ t).1 = true) {l : Nat} (hl : (sT σ t).2.2.2.1 = l + 1) (hl1 : 1 ≤ l) : INV (stLay σ t l) (qPop μ t l) := by
  obtain ⟨v1, v2, v3, v4⟩ := I.1.2.1 t ht
  obtain ⟨t1, t2, t3, t4, t5, t6⟩ := I.T ht ho
  have eT : sT (stLay σ t l) t = ((sT σ t).1, (sT σ t).2.1, (sT σ t).2.2.1, l, (sT σ t).2.2.2.2) := up_eq _ _ _
  have eI : ∀ k, k ≠ 6 → qI (qPop μ t l) k = qI μ k := fun k hk => by unfold qPop; rw [sI_ne hk]; rfl
  have e6 : qI (qPop μ t l) 6 = va_up (qI μ 6) t l := by unfold qPop; rw [sI_at]; rfl
  refine INV_upd (t := t) I (VI_upd (t := t) I.1 rfl rfl rfl (fun u _ e => ⟨up_ne _ _ e, rfl⟩) ?_ ?_ ?_ ?_ (fun l hl => I.1.2.2.2.2.2 t l ht hl)) rfl rfl rfl rfl (fun u hu e => ?_) (fun _ => ?_) (fun _ _ => ?_) (eI 9 (by decide)) (eI 10 (by decide)) (eI 11 (by decide)) rfl
  · rw [eT]; exact v1
  · rw [eT]; exact v2
  · rw [eT]; exact ⟨hl1, by show l ≤ 8; omega⟩
  · rw [eT]; exact I.1.2.2.2.2.1 t ht
  · exact ⟨up_ne _ _ e, rfl, rfl, rfl, by rw [eI 4 (by decide)], by rw [eI 5 (by decide)], by rw [e6, up_ne _ _ e], fun c' hc' => ⟨rfl, rfl⟩, fun l c' hl hc' => ⟨rfl, rfl⟩⟩
  · rw [eT]; exact I.2.2.1 t ht
  · refine ⟨by rw [eI 4 (by decide), eT]; exact t1, by rw [eI 5 (by decide), eT]; exact t2, by rw [e6, up_eq, eT], fun c' hc' => by rw [eT]; exact t4 c' hc', fun l' c' hl' hc' => ?_, fun c' hc' => by rw [eT]; exact t6 c' hc'⟩
    rw [eT] at hl'
    have hl2 : l' < l := hl'
    exact t5 l' c' (by omega) hc'
theorem cdW_bt {top low : Int32} {c : Nat} (hc : c < 16) : ∀ n, n ≤ 16 → bt (cdW top low n) c = if c < n then (bt low c || bt top c) else bt low c
  | 0, _ => by rw [if_neg (by omega)]; rfl
  | n + 1, h => by
    have ih := cdW_bt (top := top) (low := low) hc n (by omega)
    unfold cdW
    by_cases e : top &&& xbit n = 0
    · rw [if_pos e, ih]
      have hb := (xbit_bt (show n < 16 by omega)).mp e
      by_cases e2 : c < n
      · rw [if_pos e2, if_pos (by omega)]
      · rw [if_neg e2]
        by_cases e3 : c = n
        · rw [if_pos (by omega), e3, hb, Bool.or_false]
        · rw [if_neg (by omega)]
    · rw [if_neg e, b_or, ih, xbit_at (by omega) hc]
      have hb := (bt_ne (show n < 16 by omega)).mp e
      by_cases e2 : c < n
      · rw [if_pos e2, if_pos (by omega), decide_eq_false (by omega), Bool.or_false]
      · rw [if_neg e2]
        by_cases e3 : c = n
        · rw [if_pos (by omega), e3, hb, decide_eq_true rfl]
        · rw [if_neg (by omega), decide_eq_false e3, Bool.or_false]
theorem cdR_at {top : Int32} {hi lo : Nat → Int64} {c : Nat} (hc : c < 16) : ∀ n, n ≤ 16 → cdR top hi lo n c = if c < n ∧ bt top c = true then hi c else lo c
  | 0, _ => by rw [if_neg (by omega)]; rfl
  | n + 1, h => by
    have ih := cdR_at (top := top) (hi := hi) (lo := lo) hc n (by omega)
    unfold cdR
    by_cases e : top &&& xbit n = 0
    · rw [if_pos e, ih]
      have hb := (xbit_bt (show n < 16 by omega)).mp e
      by_cases e2 : c < n ∧ bt top c = true
      · rw [if_pos e2, if_pos ⟨by omega, e2.2⟩]
      · rw [if_neg e2, if_neg (fun q => by
          by_cases e3 : c = n
          · rw [e3, hb] at q; cases q.2
          · exact e2 ⟨by omega, q.2⟩)]
    · rw [if_neg e]
      have hb := (bt_ne (show n < 16 by omega)).mp e
      by_cases e3 : c = n
      · rw [e3, up_eq, if_pos ⟨by omega, hb⟩]
      · rw [up_ne _ _ e3, ih]
        by_cases e2 : c < n ∧ bt top c = true
        · rw [if_pos e2, if_pos ⟨by omega, e2.2⟩]
        · rw [if_neg e2, if_neg (fun q => e2 ⟨by omega, q.2⟩)]
theorem cdW_m16 {top low : Int32} (h : m16 low) : ∀ n, n ≤ 16 → m16 (cdW top low n)
  | 0, _ => h
  | n + 1, hn => by
    unfold cdW
    split
    · exact cdW_m16 h n (by omega)
    · exact m16_or (cdW_m16 h n (by omega)) (m16_bit (by omega))
theorem INV.popk (I : INV σ μ) (ht : t < 16) (ho : (sT σ t).1 = true) {m : Nat} (hl : (sT σ t).2.2.2.1 = m + 2) : INV (stLay (stDown σ t m) t (m + 1)) (mdown ((8 * t + (m + 1)) * 16) 16 0 (qPop μ t (m + 1))) := by
  obtain ⟨v1, v2, v3, v4⟩ := I.1.2.1 t ht
  obtain ⟨t1, t2, t3, t4, t5, t6⟩ := I.T ht ho
  have ha : 16 ≤ (8 * t + (m + 1)) * 16 := by omega
  have eT : sT (stLay (stDown σ t m) t (m + 1)) t = ((sT σ t).1, (sT σ t).2.1, (sT σ t).2.2.1, m + 1, (sT σ t).2.2.2.2) := up_eq _ _ _
  have eW : sW (stLay (stDown σ t m) t (m + 1)) t = va_up (sW σ t) m (cdW (sW σ t (m + 1)) (sW σ t m) 16) := up_eq _ _ _
  have eR : sR (stLay (stDown σ t m) t (m + 1)) t = va_up (sR σ t) m (cdR (sW σ t (m + 1)) (sR σ t (m + 1)) (sR σ t m) 16) := up_eq _ _ _
  have eI : ∀ k, k ≠ 6 → qI (mdown ((8 * t + (m + 1)) * 16) 16 0 (qPop μ t (m + 1))) k = qI μ k := fun k hk => by rw [mdown_I]; unfold qPop; rw [sI_ne hk]; rfl
  have e6 : qI (mdown ((8 * t + (m + 1)) * 16) 16 0 (qPop μ t (m + 1))) 6 = va_up (qI μ 6) t (m + 1) := by rw [mdown_I]; unfold qPop; rw [sI_at]; rfl
  have eZ : ∀ k, k ≠ 3 → qZ (mdown ((8 * t + (m + 1)) * 16) 16 0 (qPop μ t (m + 1))) k = qZ μ k := fun k hk => by rw [mdown_Z _ hk]; rfl
  have eL : ∀ k, k ≠ 8 → qL (mdown ((8 * t + (m + 1)) * 16) 16 0 (qPop μ t (m + 1))) k = qL μ k := fun k hk => by rw [mdown_L _ hk]; rfl
  have miss : ∀ j, ¬ ((8 * t + m) * 16 ≤ j ∧ j < (8 * t + m) * 16 + 16 ∧ qZ μ 3 (j + 16) = true) → qZ (mdown ((8 * t + (m + 1)) * 16) 16 0 (qPop μ t (m + 1))) 3 j = qZ μ 3 j ∧ qL (mdown ((8 * t + (m + 1)) * 16) 16 0 (qPop μ t (m + 1))) 8 j = qL μ 8 j := fun j h =>
    mdown_miss ha 16 0 (qPop μ t (m + 1)) j (by omega) (fun q => h ⟨by omega, by omega, q.2.2⟩)
  have hit : ∀ j, (8 * t + m) * 16 ≤ j → j < (8 * t + m) * 16 + 16 → qZ μ 3 (j + 16) = true → qZ (mdown ((8 * t + (m + 1)) * 16) 16 0 (qPop μ t (m + 1))) 3 j = true ∧ qL (mdown ((8 * t + (m + 1)) * 16) 16 0 (qPop μ t (m + 1))) 8 j = qL μ 8 (j + 16) := fun j h1 h2 h3 =>
    mdown_hit ha 16 0 (qPop μ t (m + 1)) j (by omega) (by omega) (by omega) h3
  refine INV_upd (t := t) I (VI_upd (t := t) I.1 rfl rfl rfl (fun u _ e => ⟨up_ne _ _ e, up_ne _ _ e⟩) ?_ ?_ ?_ ?_ (fun l hl => ?_)) rfl rfl rfl (by rw [mdown_K]; rfl) (fun u hu e => ?_) (fun _ => ?_) (fun _ _ => ?_) (eI 9 (by decide)) (eI 10 (by decide)) (eI 11 (by decide)) (eL 12 (by decide))
  · rw [eT]; exact v1
  · rw [eT]; exact v2
  · rw [eT]; exact ⟨by show 1 ≤ m + 1; omega, by show m + 1 ≤ 8; omega⟩
  · rw [eT]; exact I.1.2.2.2.2.1 t ht
  · rw [eW]
    by_cases e : l = m
    · rw [e, up_eq]; exact cdW_m16 (I.1.2.2.2.2.2 t m ht (by omega)) 16 (Nat.le_refl _)
    · rw [up_ne _ _ e]; exact I.1.2.2.2.2.2 t l ht hl
  · refine ⟨up_ne _ _ e, up_ne _ _ e, up_ne _ _ e, by rw [eZ 1 (by decide)], by rw [eI 4 (by decide)], by rw [eI 5 (by decide)], by rw [e6, up_ne _ _ e], fun c' hc' => ⟨by rw [eZ 2 (by decide)], by rw [eL 7 (by decide)]⟩, fun l c' hl hc' => ?_⟩
    exact miss _ (by omega)
  · rw [eT, eZ 1 (by decide)]; exact I.2.2.1 t ht
  · refine ⟨by rw [eI 4 (by decide), eT]; exact t1, by rw [eI 5 (by decide), eT]; exact t2, by rw [e6, up_eq, eT], fun c' hc' => by rw [eT, eZ 2 (by decide)]; exact t4 c' hc', fun l' c' hl' hc' => ?_, fun c' hc' => by rw [eT, eL 7 (by decide)]; exact t6 c' hc'⟩
    rw [eT] at hl'
    have hl2 : l' < m + 1 := hl'
    have h5 := t5 l' c' (by omega) hc'
    rw [eW, eR]
    by_cases e : l' = m
    · subst e
      have hu := t5 (l' + 1) c' (by omega) hc'
      have ej : (8 * t + l') * 16 + c' + 16 = (8 * t + (l' + 1)) * 16 + c' := by omega
      rw [up_eq, up_eq, cdW_bt hc' 16 (Nat.le_refl _), cdR_at hc' 16 (Nat.le_refl _), if_pos hc']
      cases hb : bt (sW σ t (l' + 1)) c' with
      | true =>
        have h := hit ((8 * t + l') * 16 + c') (by omega) (by omega) (by rw [ej, hu.1]; exact hb)
        rw [h.1, h.2, ej, Bool.or_true, if_pos ⟨hc', rfl⟩]
        exact ⟨rfl, fun _ => hu.2 hb⟩
      | false =>
        have h := miss ((8 * t + l') * 16 + c') (fun q => by rw [ej, hu.1, hb] at q; cases q.2.2)
        rw [h.1, h.2, Bool.or_false, if_neg (fun q => by cases q.2)]
        exact h5
    · have h := miss ((8 * t + l') * 16 + c') (by omega)
      rw [h.1, h.2, up_ne _ _ e, up_ne _ _ e]
      exact h5
end
