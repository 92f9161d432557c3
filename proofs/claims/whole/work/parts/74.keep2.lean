/-! begin, commit, forget, the beginning -/
section
variable {σ : vS} {μ : qS} {t : Nat}
theorem INV.begin (I : INV σ μ) (ht : t < 16) {k : Nat} (hk : k < 2) : INV (stBegin σ t k) (qBegin μ t k) := by
  have eT : sT (stBegin σ t k) t = (true, sK σ, k, 1, 0) := up_eq _ _ _
  have eW : sW (stBegin σ t k) t = va_up (sW σ t) 0 0 := up_eq _ _ _
  have eI : ∀ j, j ≠ 4 → j ≠ 5 → j ≠ 6 → qI (qBegin μ t k) j = qI μ j := fun j h4 h5 h6 => by unfold qBegin; rw [mbeg_I, mclr_I, sI_ne h6, sI_ne h5, sI_ne h4]; rfl
  have e4 : qI (qBegin μ t k) 4 = va_up (qI μ 4) t (sK σ) := by unfold qBegin; rw [mbeg_I, mclr_I, sI_ne (by decide), sI_ne (by decide), sI_at, I.K]; rfl
  have e5 : qI (qBegin μ t k) 5 = va_up (qI μ 5) t k := by unfold qBegin; rw [mbeg_I, mclr_I, sI_ne (by decide), sI_at, sI_ne (by decide)]; rfl
  have e6 : qI (qBegin μ t k) 6 = va_up (qI μ 6) t 1 := by unfold qBegin; rw [mbeg_I, mclr_I, sI_at, sI_ne (by decide), sI_ne (by decide)]; rfl
  have eL : ∀ j, j ≠ 7 → qL (qBegin μ t k) j = qL μ j := fun j h => by unfold qBegin; rw [mbeg_L _ h, mclr_L]; rfl
  have e1 : qZ (qBegin μ t k) 1 = va_up (qZ μ 1) t true := by unfold qBegin; rw [mbeg_Z _ (by decide), mclr_Z _ (by decide), qZ_sI, qZ_sI, qZ_sI, sZ_at]; rfl
  have e2 : ∀ j, qZ (qBegin μ t k) 2 j = if 16 * t + 0 ≤ j ∧ j < 16 * t + 0 + 16 then false else qZ μ 2 j := fun j => by
    unfold qBegin; rw [mbeg_2, mclr_Z _ (by decide), qZ_sI, qZ_sI, qZ_sI, sZ_ne (by decide)]; rfl
  have e3 : ∀ j, qZ (qBegin μ t k) 3 j = if (8 * t + 0) * 16 + 0 ≤ j ∧ j < (8 * t + 0) * 16 + 0 + 16 then false else qZ μ 3 j := fun j => by
    unfold qBegin; rw [mbeg_Z _ (by decide), mclr_3, qZ_sI, qZ_sI, qZ_sI, sZ_ne (by decide)]; rfl
  have en : ∀ c, mnow (mclr ((8 * t + 0) * 16) 16 0 (sI (sI (sI (sZ (sX μ 0) 1 t true) 4 t (qK μ)) 5 t k) 6 t 1)) c = mnow μ c := fun c => by
    unfold mnow; rw [mclr_I, mclr_L, sI_ne (by decide), sI_ne (by decide), sI_ne (by decide)]; rfl
  have e7 : ∀ j, qL (qBegin μ t k) 7 j = if 16 * t + 0 ≤ j ∧ j < 16 * t + 0 + 16 then mnow μ (j - 16 * t) else qL μ 7 j := fun j => by
    unfold qBegin; rw [mbeg_7, en, mclr_L]; rfl
  have eK : qK (qBegin μ t k) = qK μ := by unfold qBegin; rw [mbeg_K, mclr_K]; rfl
  refine INV_upd (t := t) I (VI_upd (t := t) I.1 rfl rfl rfl (fun u _ e => ⟨up_ne _ _ e, up_ne _ _ e⟩) ?_ ?_ ?_ ?_ (fun l hl => ?_)) rfl rfl rfl eK (fun u hu e => ?_) (fun _ => ?_) (fun _ _ => ?_) (eI 9 (by decide) (by decide) (by decide)) (eI 10 (by decide) (by decide) (by decide)) (eI 11 (by decide) (by decide) (by decide)) (eL 12 (by decide))
  · rw [eT]; exact Nat.le_refl _
  · rw [eT]; exact hk
  · rw [eT]; exact ⟨Nat.le_refl _, show 1 ≤ 8 by decide⟩
  · rw [eT]; exact m16_0
  · rw [eW]
    by_cases e : l = 0
    · rw [e, up_eq]; exact m16_0
    · rw [up_ne _ _ e]; exact I.1.2.2.2.2.2 t l ht hl
  · refine ⟨up_ne _ _ e, up_ne _ _ e, rfl, by rw [e1, up_ne _ _ e], by rw [e4, up_ne _ _ e], by rw [e5, up_ne _ _ e], by rw [e6, up_ne _ _ e], fun c' hc' => ⟨?_, ?_⟩, fun l c' hl hc' => ⟨?_, by rw [eL 8 (by decide)]⟩⟩
    · rw [e2, if_neg (by omega)]
    · rw [e7, if_neg (by omega)]
    · rw [e3, if_neg (by omega)]
  · rw [e1, up_eq, eT]
  · refine ⟨by rw [e4, up_eq, eT], by rw [e5, up_eq, eT], by rw [e6, up_eq, eT], fun c hc => ?_, fun l c hl hc => ?_, fun c hc => ?_⟩
    · rw [e2, if_pos (by omega), eT]; exact (b_0 c).symm
    · rw [eT] at hl
      have hl0 : l = 0 := by have : l < 1 := hl; omega
      subst hl0
      rw [e3, if_pos (by omega), eW, up_eq, b_0]
      exact ⟨rfl, fun q => by cases q⟩
    · rw [eT, e7, if_pos (by omega), show 16 * t + c - 16 * t = c by omega]
      show vl (celL (rowL (sA σ) (sN σ)) c) (sK σ) = some (mnow μ c)
      rw [vl_all I.cells, ← (I.2.2.2.2.1.2 c hc).1]
      unfold row mnow
      rw [mrow_last (I.ver1 hc)]
      rfl
/-! commit -/
def mcomU (t : Nat) (μ : qS) : Nat → qS
  | 0 => μ
  | c + 1 => if mlo (mcomU t μ c) t c = 0 then mcomU t μ c else mcom1 t c (mcomU t μ c)
theorem mcom_U (t : Nat) (μ : qS) : ∀ n c, mcom t n c (mcomU t μ c) = mcomU t μ (c + n)
  | 0, c => rfl
  | n + 1, c => by
    have := mcom_U t μ n (c + 1)
    rw [show c + (n + 1) = c + 1 + n by omega, ← this]
    rfl
theorem INV.commit (I : INV σ μ) (hk : sK σ < 100000) (ht : t < 16) (ho : (sT σ t).1 = true) (hf : sN σ + pcn (wrV σ t) 16 ≤ 500) : INV (stShut (stKept σ t) t) (qCommit μ t) := by
  obtain ⟨v1, v2, v3, v4⟩ := I.1.2.1 t ht
  have V1 : VI (stClk σ (sK σ + 1)) := ⟨(show sK σ + 1 ≤ 100000 by omega), fun u hu => ⟨Nat.le_succ_of_le (I.1.2.1 u hu).1, (I.1.2.1 u hu).2⟩, I.1.2.2.1, fun i hi => ⟨(I.1.2.2.2.1 i hi).1, Nat.le_succ_of_le (I.1.2.2.2.1 i hi).2⟩, I.1.2.2.2.2.1, I.1.2.2.2.2.2⟩
  have key : ∀ c, c ≤ 16 → (qK (mcomU t (sC (sZ (sX μ 0) 1 t false) (qK μ + 1)) c) = sK σ + 1 ∧ qZ (mcomU t (sC (sZ (sX μ 0) 1 t false) (qK μ + 1)) c) = qZ (sZ (sX μ 0) 1 t false) ∧ (∀ j, j ≠ 9 → j ≠ 10 → j ≠ 11 → qI (mcomU t (sC (sZ (sX μ 0) 1 t false) (qK μ + 1)) c) j = qI μ j) ∧ (∀ j, j ≠ 12 → qL (mcomU t (sC (sZ (sX μ 0) 1 t false) (qK μ + 1)) c) j = qL μ j)) ∧
      (srt (rowL (kv (sK σ + 1) (wrV σ t) (valV σ t) (sN σ) (sA σ) c).2 (kv (sK σ + 1) (wrV σ t) (valV σ t) (sN σ) (sA σ) c).1) ∧ (∀ r ∈ rowL (kv (sK σ + 1) (wrV σ t) (valV σ t) (sN σ) (sA σ) c).2 (kv (sK σ + 1) (wrV σ t) (valV σ t) (sN σ) (sA σ) c).1, r.2.1 ≤ sK σ + 1)) ∧
      (∀ c', c' < 16 → row (mcomU t (sC (sZ (sX μ 0) 1 t false) (qK μ + 1)) c) c' = celL (rowL (kv (sK σ + 1) (wrV σ t) (valV σ t) (sN σ) (sA σ) c).2 (kv (sK σ + 1) (wrV σ t) (valV σ t) (sN σ) (sA σ) c).1) c' ∧ ((row (mcomU t (sC (sZ (sX μ 0) 1 t false) (qK μ + 1)) c) c').getLast?).map (fun r => r.1) = some (qI (mcomU t (sC (sZ (sX μ 0) 1 t false) (qK μ + 1)) c) 11 c') ∧ (∀ s, s ≤ sK σ → vl (celL (rowL (kv (sK σ + 1) (wrV σ t) (valV σ t) (sN σ) (sA σ) c).2 (kv (sK σ + 1) (wrV σ t) (valV σ t) (sN σ) (sA σ) c).1) c') s = vl (celL (rowL (sA σ) (sN σ)) c') s)) ∧
      (∀ j, qI (mcomU t (sC (sZ (sX μ 0) 1 t false) (qK μ + 1)) c) 10 j ≤ 100000) := by
    intro c
    induction c with
    | zero =>
      intro _
      refine ⟨⟨by show qK μ + 1 = _; rw [I.K], rfl, fun _ _ _ _ => rfl, fun _ _ => rfl⟩, ⟨I.2.2.2.2.1.1, fun r hr => Nat.le_succ_of_le (I.rows r hr).2⟩, fun c' hc' => ⟨(I.2.2.2.2.1.2 c' hc').1, (I.2.2.2.2.1.2 c' hc').2, fun _ _ => rfl⟩, I.2.2.2.2.2⟩
    | succ c ih =>
      intro hc
      obtain ⟨⟨i1, i2, i3, i4⟩, ⟨j1, j2⟩, k1, l1⟩ := ih (by omega)
      have hn := kv_n (sK σ + 1) (wrV σ t) (valV σ t) (sN σ) (sA σ) c
      have hmo := pcn_mono (wrV σ t) (show c ≤ 16 by omega)
      have elo : mlo (mcomU t (sC (sZ (sX μ 0) 1 t false) (qK μ + 1)) c) t c = mlo μ t c := by
        unfold mlo
        rw [i2, i3 6 (by decide) (by decide) (by decide), sZ_ne (by decide)]
        rfl
      have erd : mrd (mcomU t (sC (sZ (sX μ 0) 1 t false) (qK μ + 1)) c) t c = mrd μ t c := by
        unfold mrd
        rw [elo, i4 7 (by decide), i4 8 (by decide)]
      have hwz : wrV σ t &&& xbit c = 0 ↔ mlo μ t c = 0 := by
        rw [I.lo ht ho (by omega)]
        exact orW_hiW (sW σ t) (by omega) _
      by_cases hz : mlo μ t c = 0
      · rw [show mcomU t (sC (sZ (sX μ 0) 1 t false) (qK μ + 1)) (c + 1) = mcomU t (sC (sZ (sX μ 0) 1 t false) (qK μ + 1)) c from if_pos (elo.trans hz), show kv (sK σ + 1) (wrV σ t) (valV σ t) (sN σ) (sA σ) (c + 1) = kv (sK σ + 1) (wrV σ t) (valV σ t) (sN σ) (sA σ) c from if_pos (hwz.mpr hz)]
        exact ⟨⟨i1, i2, i3, i4⟩, ⟨j1, j2⟩, k1, l1⟩
      · rw [show mcomU t (sC (sZ (sX μ 0) 1 t false) (qK μ + 1)) (c + 1) = mcom1 t c (mcomU t (sC (sZ (sX μ 0) 1 t false) (qK μ + 1)) c) from if_neg (fun q => hz (elo.symm.trans q)), show kv (sK σ + 1) (wrV σ t) (valV σ t) (sN σ) (sA σ) (c + 1) = _ from if_neg (fun q => hz (hwz.mp q))]
        have eval : mrd μ t c = valV σ t c := by
          rw [I.rd ht ho (by omega)]
          exact if_neg (fun q => hz ((I.lo ht ho (by omega)).trans q))
        rw [eval] at erd
        generalize mcomU t (sC (sZ (sX μ 0) 1 t false) (qK μ + 1)) c = ν at i1 i2 i3 i4 k1 l1 elo erd ⊢
        generalize kv (sK σ + 1) (wrV σ t) (valV σ t) (sN σ) (sA σ) c = p at j1 j2 k1 hn ⊢
        obtain ⟨n', A'⟩ := p
        dsimp only at j1 j2 k1 hn ⊢
        have hlen : ∀ c', c' < 16 → qI ν 9 c' ≤ 500 := by
          intro c' hc'
          have h1 := congrArg List.length (k1 c' hc').1
          unfold row at h1
          rw [mrow_len] at h1
          rw [h1]
          have h2 : (celL (rowL A' n') c').length ≤ (rowL A' n').length := by
            unfold celL
            rw [List.length_map]
            exact List.length_filter_le _ _
          rw [rowL_len] at h2
          omega
        have hrows : rowL (va_up A'.1 n' c, va_up A'.2.1 n' (sK σ + 1), va_up A'.2.2 n' (valV σ t c)) (n' + 1) = rowL A' n' ++ [(c, sK σ + 1, valV σ t c)] := by
          rw [rowL_succ]
          have e1 : rowL (va_up A'.1 n' c, va_up A'.2.1 n' (sK σ + 1), va_up A'.2.2 n' (valV σ t c)) n' = rowL A' n' := rowL_congr (fun i hi => by
            unfold rw_
            dsimp only
            rw [up_ne _ _ (show i ≠ n' by omega), up_ne _ _ (show i ≠ n' by omega), up_ne _ _ (show i ≠ n' by omega)])
          have e2 : rw_ (va_up A'.1 n' c, va_up A'.2.1 n' (sK σ + 1), va_up A'.2.2 n' (valV σ t c)) n' = (c, sK σ + 1, valV σ t c) := by
            unfold rw_
            dsimp only
            rw [up_eq, up_eq, up_eq]
          rw [e1, e2]
        have m9 : qI (mcom1 t c ν) 9 = va_up (qI ν 9) c (qI ν 9 c + 1) := by
          unfold mcom1
          rw [sI_ne (by decide), sI_at, qI_sL, sI_ne (by decide)]
        have m10 : qI (mcom1 t c ν) 10 = va_up (qI ν 10) (520 * c + qI ν 9 c) (sK σ + 1) := by
          unfold mcom1
          rw [sI_ne (by decide), sI_ne (by decide), qI_sL, sI_at, i1]
        have m11 : qI (mcom1 t c ν) 11 = va_up (qI ν 11) c (sK σ + 1) := by
          unfold mcom1
          rw [sI_at, sI_ne (by decide), qI_sL, sI_ne (by decide), i1]
        have m12 : qL (mcom1 t c ν) 12 = va_up (qL ν 12) (520 * c + qI ν 9 c) (valV σ t c) := by
          unfold mcom1
          rw [qL_sI, qL_sI, sL_at, qL_sI, erd]
        have hrowc : row (mcom1 t c ν) c = row ν c ++ [(sK σ + 1, valV σ t c)] := by
          unfold row
          rw [m9, up_eq, mrow_succ, m10, m12, up_eq, up_eq]
          refine congrArg (· ++ [(sK σ + 1, valV σ t c)]) (mrow_congr (fun i hi => ?_))
          rw [up_ne _ _ (by omega), up_ne _ _ (by omega)]
          exact ⟨rfl, rfl⟩
        have hrown : ∀ c', c' < 16 → c' ≠ c → row (mcom1 t c ν) c' = row ν c' := by
          intro c' hc' e
          have h1 := hlen c' hc'
          have h2 := hlen c (by omega)
          refine row_same (by rw [m9, up_ne _ _ e]) (by omega) (fun j g1 g2 => ?_)
          rw [m10, m12, up_ne _ _ (by omega), up_ne _ _ (by omega)]
          exact ⟨rfl, rfl⟩
        rw [hrows]
        refine ⟨⟨by show qK ν = _; exact i1, by show qZ ν = _; exact i2, fun j h9 h10 h11 => ?_, fun j h12 => ?_⟩, ⟨?_, ?_⟩, fun c' hc' => ?_, fun j => ?_⟩
        · unfold mcom1
          rw [sI_ne h11, sI_ne h9, qI_sL, sI_ne h10]
          exact i3 j h9 h10 h11
        · unfold mcom1
          rw [qL_sI, qL_sI, sL_ne h12, qL_sI]
          exact i4 j h12
        · exact List.pairwise_append.mpr ⟨j1, List.pairwise_singleton _ _, fun a ha b hb => by rw [List.mem_singleton.mp hb]; exact j2 a ha⟩
        · intro r hr
          rcases List.mem_append.mp hr with h | h
          · exact j2 r h
          · rw [List.mem_singleton.mp h]; exact Nat.le_refl _
        · obtain ⟨k2, k3, k4⟩ := k1 c' hc'
          rw [celL_app, celL_one]
          by_cases e : c' = c
          · subst e
            rw [if_pos rfl, hrowc, m11, up_eq, List.getLast?_append, k2]
            refine ⟨rfl, rfl, fun s hs => ?_⟩
            rw [vl_app1, if_neg (show ¬ sK σ + 1 ≤ s by omega)]
            exact k4 s hs
          · rw [if_neg (show ¬ c = c' from fun q => e q.symm), List.append_nil, hrown c' hc' e, m11, up_ne _ _ e]
            exact ⟨k2, k3, k4⟩
        · rw [m10]
          by_cases e : j = 520 * c + qI ν 9 c
          · rw [e, up_eq]; omega
          · rw [up_ne _ _ e]; exact l1 j
  have eC : qCommit μ t = mcomU t (sC (sZ (sX μ 0) 1 t false) (qK μ + 1)) 16 := mcom_U t (sC (sZ (sX μ 0) 1 t false) (qK μ + 1)) 16 0
  obtain ⟨⟨i1, i2, i3, i4⟩, ⟨j1, j2⟩, k1, l1⟩ := key 16 (Nat.le_refl _)
  rw [← eC] at i1 i2 i3 i4 k1 l1
  have V2 : VI (stKept σ t) := VI_kv (σ := stClk σ (sK σ + 1)) (val := valV σ t) V1 hf 16 (Nat.le_refl _)
  have V3 : VI (stShut (stKept σ t) t) := VI_upd (t := t) V2 rfl rfl rfl (fun u _ e => ⟨up_ne _ _ e, rfl⟩) (by simp only [stShut, sT, up_eq]; exact (V2.2.1 t ht).1) (by simp only [stShut, sT, up_eq]; exact v2) (by simp only [stShut, sT, up_eq]; exact ⟨v3, v4⟩) (by simp only [stShut, sT, up_eq]; exact I.1.2.2.2.2.1 t ht) (fun l hl => I.1.2.2.2.2.2 t l ht hl)
  refine ⟨V3, i1, fun u hu => ?_, fun u hu hop => ?_, ⟨j1, fun c hc => ⟨(k1 c hc).1, (k1 c hc).2.1⟩⟩, l1⟩
  · rw [i2, sZ_at]
    by_cases e : u = t
    · rw [e, up_eq]; simp only [stShut, sT, up_eq]
    · rw [up_ne _ _ e]
      show qZ μ 1 u = (va_up (sT σ) t (false, (sT σ t).2) u).1
      rw [up_ne _ _ e]
      exact I.2.2.1 u hu
  · by_cases e : u = t
    · exfalso
      rw [e] at hop
      simp only [stShut, sT, up_eq] at hop
      cases hop
    · have eu : sT (stShut (stKept σ t) t) u = sT σ u := up_ne _ _ e
      rw [eu] at hop
      have hs : TS σ (stShut (stKept σ t) t) μ (qCommit μ t) u := by
        refine ⟨eu, rfl, rfl, ?_, by rw [i3 4 (by decide) (by decide) (by decide)], by rw [i3 5 (by decide) (by decide) (by decide)], by rw [i3 6 (by decide) (by decide) (by decide)], fun c' _ => ⟨?_, by rw [i4 7 (by decide)]⟩, fun l c' _ _ => ⟨?_, by rw [i4 8 (by decide)]⟩⟩
        · rw [i2, sZ_at, up_ne _ _ e]; rfl
        · rw [i2, sZ_ne (by decide)]; rfl
        · rw [i2, sZ_ne (by decide)]; rfl
      exact hs.TR (I.1.2.1 u hu).2.2.2 (fun c hc => (k1 c hc).2.2 _ (I.1.2.1 u hu).1) (I.T hu hop)
/-! forget -/
theorem flo_open (k : Nat) (T : Nat → vQ) {u : Nat} (h : (T u).1 = true) : ∀ n, u < n → flo k T n ≤ (T u).2.1
  | 0, hn => absurd hn (Nat.not_lt_zero _)
  | n + 1, hn => by
    unfold flo
    by_cases e : u = n
    · subst e
      rw [if_pos h]
      exact Nat.min_le_right _ _
    · have ih := flo_open k T h n (by omega)
      split
      · exact Nat.le_trans (Nat.min_le_left _ _) ih
      · exact ih
theorem mfor_P (P : Nat → Prop) (fl : Nat) : ∀ n c p, (∀ j, P (qI p.1 10 j)) → ∀ j, P (qI (mfor fl n c p).1 10 j)
  | 0, _, _, h => h
  | n + 1, c, p, h => mfor_P P fl n (c + 1) _ (mwh_P P fl c _ _ _ h)
theorem INV.forget (I : INV σ μ) : INV (stForget σ) (qForget μ).1 ∧ (qForget μ).2 = (rcA (flo (sK σ) (sT σ) 16) (sN σ) 0 (sN σ) (sA σ)).1 := by
  obtain ⟨r1, r2⟩ := stF_rows (σ := σ) (fun i hi => (I.1.2.2.2.1 i hi).1)
  have hsub := GL_sub (flo (sK σ) (sT σ) 16) (rowL (sA σ) (sN σ))
  obtain ⟨f1, f2, f3⟩ := mfor_spec (fl := mflo μ 16) 16 0 (sX μ 0, 0) rfl (fun c' hc' => ⟨I.ver1 hc', I.ver5 hc'⟩)
  rw [I.floE 16 (Nat.le_refl _)] at f1 f2 f3
  have hV : VI (stForget σ) := by
    refine ⟨I.1.1, I.1.2.1, Nat.le_trans (Nat.sub_le _ _) I.1.2.2.1, fun i hi => ?_, I.1.2.2.2.2.1, I.1.2.2.2.2.2⟩
    have hm : rw_ (sA (stForget σ)) i ∈ rowL (sA (stForget σ)) (sN (stForget σ)) := rowL_mem.mpr ⟨i, hi, rfl⟩
    rw [r1] at hm
    exact I.rows _ (hsub.subset hm)
  have hcel : ∀ c, c < 16 → row (mfor (flo (sK σ) (sT σ) 16) 16 0 (sX μ 0, 0)).1 c = dropF (flo (sK σ) (sT σ) 16) (celL (rowL (sA σ) (sN σ)) c) ∧ celL (rowL (sA (stForget σ)) (sN (stForget σ))) c = dropF (flo (sK σ) (sT σ) 16) (celL (rowL (sA σ) (sN σ)) c) := by
    intro c hc
    constructor
    · rw [f1 c hc, if_pos (Nat.zero_le _)]
      show dropF _ (row μ c) = _
      rw [(I.2.2.2.2.1.2 c hc).1]
    · rw [r1, celL_GL, dropF_GC _ _ (srt_celL I.2.2.2.2.1.1 c)]
  have hQ : (qForget μ) = mfor (flo (sK σ) (sT σ) 16) 16 0 (sX μ 0, 0) := by
    unfold qForget
    rw [I.floE 16 (Nat.le_refl _)]
  rw [hQ]
  have hI : INV (stForget σ) (mfor (flo (sK σ) (sT σ) 16) 16 0 (sX μ 0, 0)).1 := by
    refine ⟨hV, by rw [f3.2.1]; exact I.2.1, fun u hu => by rw [f3.2.2.1]; exact I.2.2.1 u hu, fun u hu hop => ?_, ⟨?_, fun c hc => ⟨?_, ?_⟩⟩, ?_⟩
    · have hs : TS σ (stForget σ) μ (mfor (flo (sK σ) (sT σ) 16) 16 0 (sX μ 0, 0)).1 u := by
        refine ⟨rfl, rfl, rfl, by rw [f3.2.2.1]; rfl, by rw [f3.2.2.2.1 4 (by decide) (by decide)]; rfl, by rw [f3.2.2.2.1 5 (by decide) (by decide)]; rfl, by rw [f3.2.2.2.1 6 (by decide) (by decide)]; rfl, fun c' _ => ⟨by rw [f3.2.2.1]; rfl, by rw [f3.2.2.2.2 7 (by decide)]; rfl⟩, fun l c' _ _ => ⟨by rw [f3.2.2.1]; rfl, by rw [f3.2.2.2.2 8 (by decide)]; rfl⟩⟩
      refine hs.TR (I.1.2.1 u hu).2.2.2 (fun c hc => ?_) (I.T hu hop)
      rw [(hcel c hc).2]
      exact dropF_vl (flo_open _ _ hop 16 hu) _
    · rw [r1]
      exact List.Pairwise.sublist hsub I.2.2.2.2.1.1
    · rw [(hcel c hc).1, (hcel c hc).2]
    · rw [(hcel c hc).1, dropF_last, f3.2.2.2.1 11 (by decide) (by decide), ← (I.2.2.2.2.1.2 c hc).1]
      exact (I.2.2.2.2.1.2 c hc).2
    · exact mfor_P (fun x => x ≤ 100000) _ _ _ _ I.2.2.2.2.2
  refine ⟨hI, ?_⟩
  have h1 := hI.sum
  have h2 := I.sum
  have h3 : sumN (qI (sX μ 0) 9) 16 = sN σ := h2
  have h4 : sN (stForget σ) = sN σ - (rcA (flo (sK σ) (sT σ) 16) (sN σ) 0 (sN σ) (sA σ)).1 := rfl
  rw [h1] at f2
  show (mfor (flo (sK σ) (sT σ) 16) 16 0 (sX μ 0, 0)).2 = _
  have f4 : (mfor (flo (sK σ) (sT σ) 16) 16 0 (sX μ 0, 0)).2 + sN (stForget σ) = 0 + sumN (qI (sX μ 0) 9) 16 := f2
  omega
/-! the beginning -/
theorem mini_9 : ∀ n c μ j, qI (mini n c μ) 9 j = if c ≤ j ∧ j < c + n then 1 else qI μ 9 j
  | 0, c, μ, j => by rw [if_neg (by omega)]; rfl
  | n + 1, c, μ, j => by
    show qI (mini n (c + 1) _) 9 j = _
    rw [mini_9 n, sI_at]
    by_cases h1 : c + 1 ≤ j ∧ j < c + 1 + n
    · rw [if_pos h1, if_pos (by omega)]
    · rw [if_neg h1]
      by_cases h2 : j = c
      · rw [h2, up_eq, if_pos (by omega)]
      · rw [up_ne _ _ h2, if_neg (by omega)]
theorem mini_I {k : Nat} (hk : k ≠ 9) : ∀ n c μ, qI (mini n c μ) k = qI μ k
  | 0, _, _ => rfl
  | n + 1, c, μ => by
    show qI (mini n (c + 1) _) k = _
    rw [mini_I hk n, sI_ne hk]
theorem mini_Z : ∀ n c μ, qZ (mini n c μ) = qZ μ
  | 0, _, _ => rfl
  | n + 1, c, μ => mini_Z n (c + 1) _
theorem mini_L : ∀ n c μ, qL (mini n c μ) = qL μ
  | 0, _, _ => rfl
  | n + 1, c, μ => mini_L n (c + 1) _
theorem mini_K : ∀ n c μ, qK (mini n c μ) = qK μ
  | 0, _, _ => rfl
  | n + 1, c, μ => mini_K n (c + 1) _
theorem INV_0 : INV st0 qInit := by
  have hrow : ∀ i, i < 16 → rw_ (sA st0) i = (i, 0, 0) := fun i hi => by
    show (if i < 16 then i else 0, 0, 0) = _
    rw [if_pos hi]
  have hL : rowL (sA st0) (sN st0) = (List.range 16).map (fun i => (i, 0, 0)) := List.map_congr_left (fun i hi => hrow i (List.mem_range.mp hi))
  have hc : ∀ c, c < 16 → celL (rowL (sA st0) (sN st0)) c = [(0, 0)] := by
    rw [hL]
    decide +kernel
  have hr : ∀ c, c < 16 → row qInit c = [(0, 0)] := by
    intro c h
    unfold row qInit
    rw [mini_9, if_pos (by omega), mini_I (by decide), mini_L]
    rfl
  refine ⟨⟨by decide, fun t ht => ⟨Nat.le_refl _, show 0 < 2 by decide, show 1 ≤ 1 by decide, show 1 ≤ 8 by decide⟩, by decide, fun i hi => ?_, fun t ht => m16_0, fun t l ht hl => m16_0⟩, ?_, fun t ht => ?_, fun t ht ho => ?_, ⟨?_, fun c h => ⟨?_, ?_⟩⟩, fun j => ?_⟩
  · have hi' : i < 16 := hi
    show (if i < 16 then i else 0) < 16 ∧ 0 ≤ 0
    rw [if_pos hi']
    exact ⟨hi', Nat.le_refl _⟩
  · unfold qInit; rw [mini_K]; rfl
  · unfold qInit; rw [mini_Z]; rfl
  · cases ho
  · rw [hL]
    show List.Pairwise _ _
    rw [List.pairwise_map]
    exact List.Pairwise.imp (fun _ => Nat.le_refl _) (List.pairwise_lt_range)
  · rw [hr c h, hc c h]
  · rw [hr c h]
    unfold qInit
    rw [mini_I (by decide)]
    rfl
  · unfold qInit
    rw [mini_I (by decide)]
    exact Nat.zero_le _
end
