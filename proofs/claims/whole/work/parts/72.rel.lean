/-! How the two states hang together -/
def TR (σ : vS) (μ : qS) (t : Nat) : Prop :=
  qI μ 4 t = (sT σ t).2.1 ∧ qI μ 5 t = (sT σ t).2.2.1 ∧ qI μ 6 t = (sT σ t).2.2.2.1 ∧
  (∀ c, c < 16 → qZ μ 2 (16 * t + c) = bt (sT σ t).2.2.2.2 c) ∧
  (∀ l c, l < (sT σ t).2.2.2.1 → c < 16 → qZ μ 3 ((8 * t + l) * 16 + c) = bt (sW σ t l) c ∧ (bt (sW σ t l) c = true → qL μ 8 ((8 * t + l) * 16 + c) = sR σ t l c)) ∧
  (∀ c, c < 16 → vl (celL (rowL (sA σ) (sN σ)) c) (sT σ t).2.1 = some (qL μ 7 (16 * t + c)))
def CR (σ : vS) (μ : qS) : Prop := srt (rowL (sA σ) (sN σ)) ∧ ∀ c, c < 16 → row μ c = celL (rowL (sA σ) (sN σ)) c ∧ ((row μ c).getLast?).map (fun r => r.1) = some (qI μ 11 c)
def Rel (σ : vS) (μ : qS) : Prop := qK μ = sK σ ∧ (∀ t, t < 16 → qZ μ 1 t = (sT σ t).1) ∧ (∀ t, t < 16 → (sT σ t).1 = true → TR σ μ t) ∧ CR σ μ ∧ (∀ j, qI μ 10 j ≤ 100000)
def INV (σ : vS) (μ : qS) : Prop := VI σ ∧ Rel σ μ
theorem m16_hi {x : Int32} (hx : m16 x) {i : Nat} (hi : 16 ≤ i) : bt x i = false := by
  obtain ⟨k, hk, rfl⟩ := hx
  have := congrArg (fun z => bt z i) (nx_m16 hk)
  simp only [b_and, b_65535] at this
  rw [decide_eq_false (by omega), Bool.and_false] at this
  exact this.symm
theorem b_zero {x : Int32} (h : ∀ i, i < 32 → bt x i = false) : x = 0 := b_ext (fun i hi => by rw [h i hi, b_0])
theorem bt_ne {x : Int32} {c : Nat} (hc : c < 16) : ¬ (x &&& xbit c = 0) ↔ bt x c = true := by
  rw [xbit_bt hc]
  cases bt x c <;> simp
theorem mhi_hiW {W : Nat → Bool} {f : Nat → Int32} {t c : Nat} (hc : c < 16) : ∀ n, (∀ l, l < n → W ((8 * t + l) * 16 + c) = bt (f l) c) → mhi W t c n = hiW f c n
  | 0, _ => rfl
  | n + 1, h => by
    have ih := mhi_hiW (W := W) (f := f) (t := t) hc n (fun l hl => h l (by omega))
    have hn := h n (by omega)
    unfold mhi hiW
    by_cases e : f n &&& xbit c = 0
    · rw [if_pos e, if_neg (by rw [hn, (xbit_bt hc).mp e]; decide), ih]
    · rw [if_neg e, if_pos (by rw [hn]; exact (bt_ne hc).mp e)]
theorem hiW_bit {f : Nat → Int32} {c : Nat} (hc : c < 16) : ∀ n, hiW f c n ≠ 0 → bt (f (hiW f c n - 1)) c = true ∧ hiW f c n - 1 < n
  | 0, h => absurd rfl h
  | n + 1, h => by
    unfold hiW at h ⊢
    by_cases e : f n &&& xbit c = 0
    · rw [if_pos e] at h ⊢
      have := hiW_bit hc n h
      exact ⟨this.1, by omega⟩
    · rw [if_neg e]
      exact ⟨(bt_ne hc).mp e, by omega⟩
section
variable {σ : vS} {μ : qS}
theorem INV.rows (I : INV σ μ) : ∀ r ∈ rowL (sA σ) (sN σ), r.1 < 16 ∧ r.2.1 ≤ sK σ := by
  intro r hr
  obtain ⟨i, hi, rfl⟩ := rowL_mem.mp hr
  exact I.1.2.2.2.1 i hi
theorem INV.cells (I : INV σ μ) {c : Nat} : ∀ x ∈ celL (rowL (sA σ) (sN σ)) c, x.1 ≤ sK σ := fun x hx => (I.rows _ (celL_mem.mp hx)).2
theorem INV.ver (I : INV σ μ) {c : Nat} (hc : c < 16) : qI μ 9 c = (celL (rowL (sA σ) (sN σ)) c).length := by
  rw [← (I.2.2.2.2.1.2 c hc).1]
  unfold row
  rw [mrow_len]
theorem INV.ver1 (I : INV σ μ) {c : Nat} (hc : c < 16) : 1 ≤ qI μ 9 c := by
  have h := (I.2.2.2.2.1.2 c hc).2
  unfold row at h
  cases hn : qI μ 9 c with
  | zero => rw [hn] at h; cases h
  | succ n => omega
theorem INV.ver5 (I : INV σ μ) {c : Nat} (hc : c < 16) : qI μ 9 c ≤ 500 := by
  rw [I.ver hc]
  have h1 : (celL (rowL (sA σ) (sN σ)) c).length ≤ (rowL (sA σ) (sN σ)).length := by
    unfold celL
    rw [List.length_map]
    exact List.length_filter_le _ _
  rw [rowL_len] at h1
  have := I.1.2.2.1
  omega
theorem INV.sum (I : INV σ μ) : sumN (qI μ 9) 16 = sN σ := by
  rw [sumN_congr 16 (fun c hc => I.ver hc), sum_celL _ (fun r hr => (I.rows r hr).1), rowL_len]
theorem INV.clk (I : INV σ μ) : sK σ ≤ 100000 := I.1.1
theorem INV.K (I : INV σ μ) : qK μ = sK σ := I.2.1
theorem INV.last (I : INV σ μ) {c : Nat} (hc : c < 16) : qI μ 11 c ≤ sK σ := by
  obtain ⟨h1, h2⟩ := I.2.2.2.2.1.2 c hc
  cases hz : (row μ c).getLast? with
  | none => rw [hz] at h2; cases h2
  | some z =>
    rw [hz] at h2
    have e : z.1 = qI μ 11 c := Option.some.inj h2
    rw [← e]
    have := List.mem_of_getLast? hz
    rw [h1] at this
    exact I.cells z this
theorem INV.badE (I : INV σ μ) {t : Int32} (h : bad σ t) : qbad μ t := fun j hj e => by rw [I.2.2.1 j hj]; exact h j hj e
theorem INV.opn (I : INV σ μ) {t : Nat} (ht : t < 16) (ho : (sT σ t).1 = true) : qZ μ 1 t = true := by rw [I.2.2.1 t ht]; exact ho
theorem INV.T (I : INV σ μ) {t : Nat} (ht : t < 16) (ho : (sT σ t).1 = true) : TR σ μ t := I.2.2.2.1 t ht ho
theorem INV.lay (I : INV σ μ) {t : Nat} (ht : t < 16) (ho : (sT σ t).1 = true) : 1 ≤ qI μ 6 t ∧ qI μ 6 t ≤ 8 := by
  rw [(I.T ht ho).2.2.1]
  exact (I.1.2.1 t ht).2.2
theorem INV.st (I : INV σ μ) {t : Nat} (ht : t < 16) (ho : (sT σ t).1 = true) : qI μ 4 t < 2 ^ 31 := by
  rw [(I.T ht ho).1]
  have := (I.1.2.1 t ht).1
  have := I.clk
  omega
theorem INV.kd (I : INV σ μ) {t : Nat} (ht : t < 16) (ho : (sT σ t).1 = true) : qI μ 5 t < 2 ^ 31 := by
  rw [(I.T ht ho).2.1]
  have := (I.1.2.1 t ht).2.1
  omega
theorem INV.la (I : INV σ μ) : ∀ c, c < 16 → qI μ 11 c < 2 ^ 31 := fun c hc => by
  have := I.last hc
  have := I.clk
  omega
theorem INV.at (I : INV σ μ) : ∀ j, qI μ 10 j < 2 ^ 31 := fun j => by
  have := I.2.2.2.2.2 j
  omega
theorem INV.sts (I : INV σ μ) : ∀ t, t < 16 → qZ μ 1 t = true → qI μ 4 t < 2 ^ 31 := fun t ht h => I.st ht (by rw [← I.2.2.1 t ht]; exact h)
theorem INV.lo (I : INV σ μ) {t c : Nat} (ht : t < 16) (ho : (sT σ t).1 = true) (hc : c < 16) : mlo μ t c = hiW (sW σ t) c (sT σ t).2.2.2.1 := by
  unfold mlo
  rw [(I.T ht ho).2.2.1]
  exact mhi_hiW hc _ (fun l hl => ((I.T ht ho).2.2.2.2.1 l c hl hc).1)
theorem INV.began (I : INV σ μ) {t c : Nat} (ht : t < 16) (ho : (sT σ t).1 = true) (hc : c < 16) : vix (sA σ) c (sT σ t).2.1 (sN σ) ≠ 0 ∧ (sA σ).2.2 (vix (sA σ) c (sT σ t).2.1 (sN σ) - 1) = qL μ 7 (16 * t + c) := by
  have h := (I.T ht ho).2.2.2.2.2 c hc
  rw [vix_vl] at h
  by_cases e : vix (sA σ) c (sT σ t).2.1 (sN σ) = 0
  · rw [if_pos e] at h; cases h
  · rw [if_neg e] at h
    exact ⟨e, Option.some.inj h⟩
theorem INV.rd (I : INV σ μ) {t c : Nat} (ht : t < 16) (ho : (sT σ t).1 = true) (hc : c < 16) : mrd μ t c = rdV σ t c := by
  unfold mrd rdV
  rw [I.lo ht ho hc]
  by_cases e : hiW (sW σ t) c (sT σ t).2.2.2.1 = 0
  · obtain ⟨h1, h2⟩ := I.began ht ho hc
    rw [if_pos e, if_pos e, if_neg h1, h2]
  · obtain ⟨h1, h2⟩ := hiW_bit hc _ e
    rw [if_neg e, if_neg e]
    exact ((I.T ht ho).2.2.2.2.1 _ c h2 hc).2 h1
theorem INV.wr (I : INV σ μ) {t c : Nat} (ht : t < 16) (ho : (sT σ t).1 = true) (hc : c < 16) : decide (mlo μ t c ≠ 0) = bt (wrV σ t) c := by
  rw [I.lo ht ho hc]
  unfold wrV
  have h := orW_hiW (sW σ t) hc (sT σ t).2.2.2.1
  rw [xbit_bt hc] at h
  cases hb : bt (orW (sW σ t) (sT σ t).2.2.2.1) c
  · exact decide_eq_false (fun q => q (h.mp hb))
  · refine decide_eq_true (fun q => ?_)
    rw [h.mpr q] at hb
    cases hb
theorem INV.he (I : INV σ μ) {t c : Nat} (ht : t < 16) (ho : (sT σ t).1 = true) (hc : c < 16) : (decide (mlo μ t c ≠ 0) || (decide (qI μ 5 t = 1) && qZ μ 2 (16 * t + c))) = bt (heV σ t) c := by
  rw [I.wr ht ho hc, (I.T ht ho).2.1, (I.T ht ho).2.2.2.1 c hc]
  unfold heV
  by_cases e : (sT σ t).2.2.1 = 1
  · rw [if_pos e, b_or, decide_eq_true e, Bool.true_and]
  · rw [if_neg e, decide_eq_false e, Bool.false_and, Bool.or_false]
theorem INV.wa (I : INV σ μ) {k c : Nat} (hc : c < 16) : bt (vwa (sA σ) k (sN σ) 0) c = decide (k < qI μ 11 c) := by
  obtain ⟨h1, h2⟩ := I.2.2.2.2.1.2 c hc
  rw [vwa_bt hc _ _ (fun i hi => (I.1.2.2.2.1 i hi).1) I.2.2.2.2.1.1, b_0, Bool.false_or]
  refine any_last (srt_celL I.2.2.2.2.1.1 c) ?_
  rw [← h1]
  exact h2
theorem INV.sp (I : INV σ μ) {t c : Nat} (ht : t < 16) (ho : (sT σ t).1 = true) (hc : c < 16) : msp μ t c = bt (spV σ t) c := by
  unfold msp spV
  rw [I.he ht ho hc, b_and, I.wa hc, (I.T ht ho).1, Bool.and_comm]
theorem INV.wrn (I : INV σ μ) {t : Nat} (ht : t < 16) (ho : (sT σ t).1 = true) : mwr μ t = pcn (wrV σ t) 16 := by
  unfold mwr
  rw [bt_pcn _ _ (Nat.le_refl _)]
  exact cnt_congr 16 (fun c hc => I.wr ht ho hc)
theorem INV.spn (I : INV σ μ) {t : Nat} (ht : t < 16) (ho : (sT σ t).1 = true) : msc μ t = pcn (spV σ t) 16 := by
  unfold msc
  rw [bt_pcn _ _ (Nat.le_refl _)]
  exact cnt_congr 16 (fun c hc => I.sp ht ho hc)
theorem pcn_0 {x : Int32} (hx : m16 x) : pcn x 16 = 0 ↔ x = 0 := by
  rw [bt_pcn _ _ (Nat.le_refl _), cnt_zero]
  exact ⟨fun h => m16_zero hx h, fun h c _ => by rw [h, b_0]⟩
theorem INV.sp0 (I : INV σ μ) {t : Nat} (ht : t < 16) (ho : (sT σ t).1 = true) : msc μ t = 0 ↔ spV σ t = 0 := by
  rw [I.spn ht ho, pcn_0 (spV_m16 I.1 ht)]
theorem INV.wr0 (I : INV σ μ) {t : Nat} (ht : t < 16) (ho : (sT σ t).1 = true) : mwr μ t = 0 ↔ wrV σ t = 0 := by
  rw [I.wrn ht ho, pcn_0 (wrV_m16 I.1 ht)]
theorem INV.sen (I : INV σ μ) {t : Nat} (ht : t < 16) (ho : (sT σ t).1 = true) : cnt (fun c => qZ μ 2 (16 * t + c)) 16 = pcn (sT σ t).2.2.2.2 16 := by
  rw [bt_pcn _ _ (Nat.le_refl _)]
  exact cnt_congr 16 (fun c hc => (I.T ht ho).2.2.2.1 c hc)
theorem INV.ab (I : INV σ μ) {t x : Nat} (ht : t < 16) (ho : (sT σ t).1 = true) (hx : x ≤ 5) : mab μ t x = abV σ t x := by
  rcases (show x = 0 ∨ x = 1 ∨ x = 2 ∨ x = 3 ∨ x = 4 ∨ x = 5 by omega) with rfl | rfl | rfl | rfl | rfl | rfl
  · exact (I.T ht ho).1
  · exact (I.T ht ho).2.1
  · exact (I.T ht ho).2.2.1
  · exact I.wrn ht ho
  · exact I.sen ht ho
  · exact I.spn ht ho
theorem anyF_true {p : Nat → Bool} : ∀ n c, anyF p n c = true ↔ ∃ q, c ≤ q ∧ q < c + n ∧ p q = true
  | 0, c => ⟨fun h => Bool.noConfusion h, fun ⟨q, h1, h2, _⟩ => absurd h2 (by omega)⟩
  | n + 1, c => by
    unfold anyF
    rw [Bool.or_eq_true, anyF_true n (c + 1)]
    constructor
    · rintro (h | ⟨q, h1, h2, h3⟩)
      · exact ⟨c, Nat.le_refl _, by omega, h⟩
      · exact ⟨q, by omega, by omega, h3⟩
    · rintro ⟨q, h1, h2, h3⟩
      by_cases e : q = c
      · left; rw [← e]; exact h3
      · right; exact ⟨q, by omega, by omega, h3⟩
theorem INV.me (I : INV σ μ) {s t : Nat} (hs : s < 16) (hso : (sT σ s).1 = true) (ht : t < 16) (ho : (sT σ t).1 = true) : anyF (mme μ s t) 16 0 = decide (meV σ s t ≠ 0) := by
  have key : ∀ c, c < 16 → mme μ s t c = bt (meV σ s t) c := by
    intro c hc
    unfold mme meV
    rw [I.wr hs hso hc, I.he ht ho hc, I.sp ht ho hc, b_and, b_and, b_xor, b_m1 c (by omega)]
    cases bt (wrV σ s) c <;> cases bt (spV σ t) c <;> cases bt (heV σ t) c <;> rfl
  by_cases e : meV σ s t = 0
  · rw [decide_eq_false (fun q => q e)]
    cases h : anyF (mme μ s t) 16 0
    · rfl
    · obtain ⟨q, _, h2, h3⟩ := (anyF_true 16 0).mp h
      rw [key q (by omega), e, b_0] at h3
      cases h3
  · rw [decide_eq_true e]
    refine (anyF_true 16 0).mpr ?_
    cases Classical.em (∃ q, q < 16 ∧ mme μ s t q = true) with
    | inl h =>
      obtain ⟨q, h1, h2⟩ := h
      exact ⟨q, Nat.zero_le _, by omega, h2⟩
    | inr h =>
      exfalso
      apply e
      apply b_zero
      intro i _
      by_cases hi : i < 16
      · rw [← key i hi]
        cases hm : mme μ s t i
        · rfl
        · exact absurd ⟨i, hi, hm⟩ h
      · unfold meV
        rw [b_and, b_and, m16_hi (wrV_m16 I.1 hs) (by omega)]
        rfl
theorem INV.floE (I : INV σ μ) : ∀ t, t ≤ 16 → mflo μ t = flo (sK σ) (sT σ) t
  | 0, _ => I.2.1
  | t + 1, h => by
    have ih := I.floE t (by omega)
    show (if qZ μ 1 t = true then min (mflo μ t) (qI μ 4 t) else mflo μ t) = (if (sT σ t).1 = true then min (flo (sK σ) (sT σ) t) (sT σ t).2.1 else flo (sK σ) (sT σ) t)
    rw [ih, I.2.2.1 t (by omega)]
    by_cases e : (sT σ t).1 = true
    · rw [if_pos e, if_pos e, (I.T (by omega) e).1]
    · rw [if_neg e, if_neg e]
theorem INV.hmoE (I : INV σ μ) : ∀ t, t ≤ 16 → cnt (qZ μ 1) t = hmo (sT σ) t
  | 0, _ => rfl
  | t + 1, h => by
    have ih := I.hmoE t (by omega)
    show (if qZ μ 1 t = true then cnt (qZ μ 1) t + 1 else cnt (qZ μ 1) t) = _
    rw [ih, I.2.2.1 t (by omega)]
    rfl
theorem INV.lno (I : INV σ μ) : ∀ n t, t + n = 16 → mlno (qZ μ 1) n t = lnoF (sT σ) n t
  | 0, _, _ => rfl
  | n + 1, t, h => by
    have ih := I.lno n (t + 1) (by omega)
    show (if qZ μ 1 t = true then mlno (qZ μ 1) n (t + 1) else t) = _
    rw [ih, I.2.2.1 t (by omega)]
    rfl
theorem INV.co (I : INV σ μ) {x : Nat} (hx : x ≤ 3) : mco μ x = coV σ x := by
  rcases (show x = 0 ∨ x = 1 ∨ x = 2 ∨ x = 3 by omega) with rfl | rfl | rfl | rfl
  · exact I.2.1
  · exact I.hmoE 16 (Nat.le_refl _)
  · exact I.sum
  · exact I.floE 16 (Nat.le_refl _)
theorem INV.pastE (I : INV σ μ) {c k : Nat} (hc : c < 16) : (k < qI μ 10 (520 * c) → vix (sA σ) c k (sN σ) = 0) ∧ (qI μ 10 (520 * c) ≤ k → vix (sA σ) c k (sN σ) ≠ 0 ∧ (sA σ).2.2 (vix (sA σ) c k (sN σ) - 1) = qL μ 12 (520 * c + mpv (fun v => qI μ 10 (520 * c + v)) k (qI μ 9 c - 1) 0)) := by
  obtain ⟨h1, h2⟩ := I.2.2.2.2.1.2 c hc
  have hs := srt_celL I.2.2.2.2.1.1 c
  have hv := vix_vl (sA σ) c k (sN σ)
  have hv1 := I.ver1 hc
  rw [← h1] at hs hv
  constructor
  · intro h
    unfold row at hv hs
    rw [mrow_vl0 hs h] at hv
    by_cases e : vix (sA σ) c k (sN σ) = 0
    · exact e
    · rw [if_neg e] at hv; cases hv
  · intro h
    obtain ⟨p1, p2, p3, p4⟩ := mpv_at (f := fun v => qI μ 10 (520 * c + v)) (k := k) (qI μ 9 c - 1) 0 h
    unfold row at hv hs
    rw [mrow_vl (j := mpv (fun v => qI μ 10 (520 * c + v)) k (qI μ 9 c - 1) 0) _ hs (by omega) p3 (fun q => p4 (by omega))] at hv
    by_cases e : vix (sA σ) c k (sN σ) = 0
    · rw [if_pos e] at hv; cases hv
    · rw [if_neg e] at hv
      exact ⟨e, (Option.some.inj hv).symm⟩
end
