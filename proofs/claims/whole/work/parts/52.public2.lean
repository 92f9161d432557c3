/-! VersionDesk: pop, commit, drop, spoiled, meets, past, forget, about, count -/
theorem xbit_bt {x : Int32} {c : Nat} (hc : c < 16) : x &&& xbit c = 0 ↔ bt x c = false := by
  have hb : ∀ i, i < 32 → bt (xbit c) i = decide (i = c) := by
    intro i hi
    unfold xbit
    rw [b_shl c (by omega) 1 hi]
    by_cases e : i = c
    · subst e; simp; decide
    · by_cases h : c ≤ i
      · have : 0 < i - c := by omega
        have h1 : bt 1 (i - c) = false := by
          unfold bt
          show (1#32).getLsbD (i - c) = false
          rw [BitVec.getLsbD_one]
          simp
          omega
        simp [h, h1, e]
      · simp [h, e]
  constructor
  · intro h
    have := congrArg (fun z => bt z c) h
    simp only [b_and, b_0, hb c (by omega)] at this
    simpa using this
  · intro h
    apply b_ext
    intro i hi
    rw [b_and, hb i hi, b_0]
    by_cases e : i = c
    · subst e; simp [h]
    · simp [e]
theorem orW_hiW (f : Nat → Int32) {c : Nat} (hc : c < 16) : ∀ l, orW f l &&& xbit c = 0 ↔ hiW f c l = 0
  | 0 => by
    rw [xbit_bt hc]
    exact ⟨fun _ => rfl, fun _ => b_0 c⟩
  | l + 1 => by
    have ih := orW_hiW f hc l
    rw [xbit_bt hc] at ih ⊢
    show bt (orW f l ||| f l) c = false ↔ (if f l &&& xbit c = 0 then hiW f c l else l + 1) = 0
    rw [b_or]
    by_cases e : f l &&& xbit c = 0
    · rw [if_pos e, (xbit_bt hc).mp e, Bool.or_false]; exact ih
    · rw [if_neg e]
      have : bt (f l) c = true := by
        cases hb : bt (f l) c
        · exact absurd ((xbit_bt hc).mpr hb) e
        · rfl
      simp [this]
def kv (k : Nat) (wr : Int32) (val : Nat → Int64) (n : Nat) (A : vW) : Nat → Nat × vW
  | 0 => (n, A)
  | c + 1 => if wr &&& xbit c = 0 then kv k wr val n A c else ((kv k wr val n A c).1 + 1, (va_up (kv k wr val n A c).2.1 (kv k wr val n A c).1 c, va_up (kv k wr val n A c).2.2.1 (kv k wr val n A c).1 k, va_up (kv k wr val n A c).2.2.2 (kv k wr val n A c).1 (val c)))
theorem kv_n (k : Nat) (wr : Int32) (val : Nat → Int64) (n : Nat) (A : vW) : ∀ c, (kv k wr val n A c).1 = n + pcn wr c
  | 0 => rfl
  | c + 1 => by
    have ih := kv_n k wr val n A c
    unfold kv pcn
    split
    · exact ih
    · show (kv k wr val n A c).1 + 1 = _
      omega
theorem pcn_mono (x : Int32) {a b : Nat} (h : a ≤ b) : pcn x a ≤ pcn x b := by
  induction b with
  | zero => obtain rfl : a = 0 := by omega
            exact Nat.le_refl _
  | succ b ih =>
    by_cases e : a = b + 1
    · rw [e]; exact Nat.le_refl _
    · have := ih (by omega)
      unfold pcn
      rw [show pcn x a = pcn x a from rfl] at this
      have e2 : ∀ y, pcn x a = y → y ≤ (if x &&& xbit b = 0 then pcn x b else pcn x b + 1) := fun y hy => by
        split <;> omega
      exact e2 _ (by cases a <;> rfl)
/-- what a commit of t keeps of the cell c, where t wrote it -/
def valV (σ : vS) (t c : Nat) : Int64 := sR σ t (hiW (sW σ t) c (sT σ t).2.2.2.1 - 1) c
theorem VI_kv {σ : vS} (hI : VI σ) {wr : Int32} {val : Nat → Int64} (hr : sN σ + pcn wr 16 ≤ 500) : ∀ c, c ≤ 16 → VI (stVer σ (kv (sK σ) wr val (sN σ) (sA σ) c).1 (kv (sK σ) wr val (sN σ) (sA σ) c).2)
  | 0, _ => hI
  | c + 1, hc => by
    have ih := VI_kv hI hr c (by omega) (wr := wr) (val := val)
    have hn := kv_n (sK σ) wr val (sN σ) (sA σ) c
    by_cases e : wr &&& xbit c = 0
    · rw [show kv (sK σ) wr val (sN σ) (sA σ) (c + 1) = kv (sK σ) wr val (sN σ) (sA σ) c from if_pos e]; exact ih
    · have hp : pcn wr (c + 1) = pcn wr c + 1 := if_neg e
      have hm := pcn_mono wr hc
      rw [show kv (sK σ) wr val (sN σ) (sA σ) (c + 1) = ((kv (sK σ) wr val (sN σ) (sA σ) c).1 + 1, (va_up (kv (sK σ) wr val (sN σ) (sA σ) c).2.1 (kv (sK σ) wr val (sN σ) (sA σ) c).1 c, va_up (kv (sK σ) wr val (sN σ) (sA σ) c).2.2.1 (kv (sK σ) wr val (sN σ) (sA σ) c).1 (sK σ), va_up (kv (sK σ) wr val (sN σ) (sA σ) c).2.2.2 (kv (sK σ) wr val (sN σ) (sA σ) c).1 (val c))) from if_neg e]
      generalize kv (sK σ) wr val (sN σ) (sA σ) c = p at ih hn ⊢
      refine ⟨hI.1, hI.2.1, (show p.1 + 1 ≤ 500 by omega), fun i hi => ?_, hI.2.2.2.2.1, hI.2.2.2.2.2⟩
      have hi' : i < p.1 + 1 := hi
      have h4 : ∀ i, i < p.1 → p.2.1 i < 16 ∧ p.2.2.1 i ≤ sK σ := ih.2.2.2.1
      show va_up p.2.1 p.1 c i < 16 ∧ va_up p.2.2.1 p.1 (sK σ) i ≤ sK σ
      by_cases e2 : i = p.1
      · subst e2
        rw [up_eq, up_eq]
        exact ⟨by omega, Nat.le_refl _⟩
      · rw [up_ne _ _ e2, up_ne _ _ e2]
        exact h4 i (by omega)
theorem vset_twice (h : xH) (a n n' : Nat) (A A' : vW) : vset (vset h a n A) a n' A' = vset h a n' A' := by
  unfold vset
  have : vput (xset (vput h a A) a (vV a n)) a A' = xset (vput h a A') a (vV a n) := by
    rw [← vput_twice h a A A']
    unfold vput
    rw [xset_comm _ (show a ≠ a + 1 by omega), xset_comm _ (show a ≠ a + 2 by omega), xset_comm _ (show a ≠ a + 3 by omega)]
  rw [this, xset_twice]
theorem vset_self {h : xH} {a n : Nat} {A : vW} (h0 : h.1 a = some (vV a n)) (h1 : h.1 (a + 1) = some (vN 500 A.1)) (h2 : h.1 (a + 2) = some (vN 500 A.2.1)) (h3 : h.1 (a + 3) = some (vL 500 A.2.2)) : vset h a n A = h := by
  unfold vset
  rw [vput_self h1 h2 h3, xset_self h0]
section
variable {E : xE} {d b : Nat} {σ : vS} {h : xH}
theorem d_kv_loop {t : Nat} (hb : E.2.2.1 ≤ b) (H : VP b σ h) (hI : VI σ) (ht : t < 16) (hr : sN σ + pcn (wrV σ t) 16 ≤ 500) : ∀ m c : Nat, c + m = 16 →
    xG E (d + 3) mD_keepVersions 2 [(3, .int (nI c)), (0, .ref b), (1, .ref (b + 2 + 11 * t)), (2, .int (wrV σ t))] [] true (vset h (b + 178) (kv (sK σ) (wrV σ t) (valV σ t) (sN σ) (sA σ) c).1 (kv (sK σ) (wrV σ t) (valV σ t) (sN σ) (sA σ) c).2)
      (true, .inl none, vset h (b + 178) (kv (sK σ) (wrV σ t) (valV σ t) (sN σ) (sA σ) 16).1 (kv (sK σ) (wrV σ t) (valV σ t) (sN σ) (sA σ) 16).2) := by
  intro m
  induction m with
  | zero =>
    intro c hc
    obtain rfl : c = 16 := by omega
    refine x_iload_n dD_keepVersions_2 rfl ?_
    refine x_bipush (v := (nI 16)) dD_keepVersions_3 (by decide) ?_
    refine x_icmp_ge 40 dD_keepVersions_5 (by decide) (fun _ => ?_) (fun hq => absurd (nI_le (by omega) (by omega)) hq)
    exact x_vret rfl dD_keepVersions_40
  | succ m ih =>
    intro c hc
    have hIc := VI_kv hI hr c (by omega) (val := valV σ t)
    have hn := kv_n (sK σ) (wrV σ t) (valV σ t) (sN σ) (sA σ) c
    have ih' := ih (c + 1) (by omega)
    have Hc := H.setV (kv (sK σ) (wrV σ t) (valV σ t) (sN σ) (sA σ) c).1 (kv (sK σ) (wrV σ t) (valV σ t) (sN σ) (sA σ) c).2
    have hmo := pcn_mono (wrV σ t) (show c + 1 ≤ 16 by omega)
    refine x_iload_n dD_keepVersions_2 rfl ?_
    refine x_bipush (v := (nI 16)) dD_keepVersions_3 (by decide) ?_
    refine x_icmp_ge 40 dD_keepVersions_5 (by decide) (fun hq => absurd hq (nI_ge (by omega) (by omega))) (fun _ => ?_)
    refine x_iload_n dD_keepVersions_8 rfl ?_
    refine x_iconst (v := 1) dD_keepVersions_9 (by decide) ?_
    refine x_iload_n dD_keepVersions_10 rfl ?_
    refine x_ishl dD_keepVersions_11 ?_
    refine x_iand dD_keepVersions_12 ?_
    refine x_if_eq 34 dD_keepVersions_13 (by decide) (fun hz => ?_) (fun hz => ?_)
    · rw [show kv (sK σ) (wrV σ t) (valV σ t) (sN σ) (sA σ) (c + 1) = kv (sK σ) (wrV σ t) (valV σ t) (sN σ) (sA σ) c from if_pos hz] at ih'
      refine x_iinc (v := nI (c + 1)) dD_keepVersions_34 rfl (by rw [nI_succ]; rfl) (Nat.le_of_ble_eq_true rfl) ?_
      refine x_goto 2 dD_keepVersions_37 (by decide) ?_
      exact ih'
    · have hz' : ¬ (wrV σ t &&& xbit c = 0) := hz
      have hp : pcn (wrV σ t) (c + 1) = pcn (wrV σ t) c + 1 := if_neg hz'
      rw [show kv (sK σ) (wrV σ t) (valV σ t) (sN σ) (sA σ) (c + 1) = _ from if_neg hz'] at ih'
      generalize kv (sK σ) (wrV σ t) (valV σ t) (sN σ) (sA σ) c = p at hIc hn ih' Hc ⊢
      obtain ⟨n', A'⟩ := p
      dsimp only at hIc hn ih' Hc ⊢
      have hw : hiW (sW σ t) c (sT σ t).2.2.2.1 ≠ 0 := fun q => hz' ((orW_hiW (sW σ t) (by omega) _).mpr q)
      have er : rdV (stVer σ n' A') t c = valV σ t c := if_neg hw
      refine x_aload_n dD_keepVersions_16 rfl ?_
      refine x_get fD_versions dD_keepVersions_17 Hc.1 rfl ?_
      refine x_iload_n dD_keepVersions_20 rfl ?_
      refine x_aload_n dD_keepVersions_21 rfl ?_
      refine x_get fD_clock dD_keepVersions_22 Hc.1 rfl ?_
      refine x_aload_n dD_keepVersions_25 rfl ?_
      refine x_aload_n dD_keepVersions_26 rfl ?_
      refine x_iload_n dD_keepVersions_27 rfl ?_
      refine x_callV2 cD_D_reading dD_keepVersions_28 Hc.1 (Nat.le_of_ble_eq_true rfl) (Nat.le_of_ble_eq_true rfl) (d_reading (σ := stVer σ n' A') Hc hIc ht (by omega)) ?_
      rw [er]
      refine x_callV3 cD_V_append dD_keepVersions_31 Hc.2.2.2.2.2.2.1 (Nat.le_of_ble_eq_true rfl) (Nat.le_of_ble_eq_true rfl) (v_append (A := A') (n := n') (by omega) (by omega) Hc.2.2.2.2.2.2.1 Hc.2.2.2.2.2.2.2.1 Hc.2.2.2.2.2.2.2.2.1 Hc.2.2.2.2.2.2.2.2.2) ?_
      refine x_heq (h' := vset h (b + 178) (n' + 1) (va_up A'.1 n' c, va_up A'.2.1 n' (sK σ), va_up A'.2.2 n' (valV σ t c))) (vset_twice h _ _ _ _ _) ?_
      refine x_iinc (v := nI (c + 1)) dD_keepVersions_34 rfl (by rw [nI_succ]; rfl) (Nat.le_of_ble_eq_true rfl) ?_
      refine x_goto 2 dD_keepVersions_37 (by decide) ?_
      exact ih'
theorem d_kv {t : Nat} (hb : E.2.2.1 ≤ b) (H : VP b σ h) (hI : VI σ) (ht : t < 16) (hr : sN σ + pcn (wrV σ t) 16 ≤ 500) : xG E (d + 3) mD_keepVersions 0 [(0, .ref b), (1, .ref (b + 2 + 11 * t)), (2, .int (wrV σ t))] [] false h (true, .inl none, vset h (b + 178) (kv (sK σ) (wrV σ t) (valV σ t) (sN σ) (sA σ) 16).1 (kv (sK σ) (wrV σ t) (valV σ t) (sN σ) (sA σ) 16).2) := by
  refine x_true ?_
  refine x_iconst (v := (nI 0)) dD_keepVersions_0 (by decide) ?_
  refine x_istore_n dD_keepVersions_1 (Nat.le_of_ble_eq_true rfl) ?_
  have := d_kv_loop (E := E) (d := d) hb H hI ht hr 16 0 rfl
  rw [show kv (sK σ) (wrV σ t) (valV σ t) (sN σ) (sA σ) 0 = (sN σ, sA σ) from rfl, vset_self H.2.2.2.2.2.2.1 H.2.2.2.2.2.2.2.1 H.2.2.2.2.2.2.2.2.1 H.2.2.2.2.2.2.2.2.2] at this
  exact this
end
