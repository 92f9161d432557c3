theorem nF_ptb : ∀ m k, m ≤ 16 → k < 2 ^ m → nF k = ptb k m
  | 0, k, _, hk => by
    obtain rfl : k = 0 := by omega
    decide
  | m + 1, k, hm, hk => by
    have hk16 : k < 65536 := Nat.lt_of_lt_of_le hk (Nat.pow_le_pow_right (by decide) hm)
    have h := nok_at hk16
    simp only [nok, Bool.and_eq_true] at h
    have e : nF k = nF (k / 2) + k % 2 := Nat.eq_of_beq_eq_true h.2
    rw [e, ptb_half, nF_ptb m (k / 2) (by omega) (by rw [Nat.pow_succ] at hk; omega)]
theorem bcF_nI {k : Nat} (hk : k < 65536) : bcF (nI k) = nI (nF k) := by
  have h := nok_at hk
  simp only [nok, Bool.and_eq_true, Nat.ble_eq, Nat.blt_eq] at h
  obtain ⟨⟨⟨⟨⟨h1, h2⟩, h3⟩, h4⟩, h5⟩, -⟩ := h
  have e1 : bc1 (nI k) = nI (n1 k) := by
    unfold bc1 bcU n1
    rw [nx_ush hk (by decide), show (1431655765 : Int32) = nI 1431655765 from rfl, nx_and, pk_sub h1]
  have e2 : bc2 (nI (n1 k)) = nI (n2 (n1 k)) := by
    unfold bc2 bcU n2
    rw [nx_ush h2 (by decide), show (858993459 : Int32) = nI 858993459 from rfl, nx_and, nx_and, nI_add]
  have e3 : bc3 (nI (n2 (n1 k))) = nI (n3 (n2 (n1 k))) := by
    unfold bc3 bcU n3
    rw [nx_ush h3 (by decide), nI_add, show (252645135 : Int32) = nI 252645135 from rfl, nx_and]
  have e4 : bc4 (nI (n3 (n2 (n1 k)))) = nI (n4 (n3 (n2 (n1 k)))) := by
    unfold bc4 bcU n4
    rw [nx_ush h4 (by decide), nI_add]
  have e5 : bc5 (nI (n4 (n3 (n2 (n1 k))))) = nI (n5 (n4 (n3 (n2 (n1 k))))) := by
    unfold bc5 bcU n5
    rw [nx_ush h5 (by decide), nI_add]
  unfold bcF nF
  rw [e1, e2, e3, e4, e5, show (63 : Int32) = nI 63 from rfl, nx_and]
theorem and_pow0 (k c : Nat) : k &&& 2 ^ c = 0 ↔ k.testBit c = false := by
  constructor
  · intro h
    have := congrArg (fun z => Nat.testBit z c) h
    simpa [Nat.testBit_and, Nat.testBit_two_pow] using this
  · intro h
    apply Nat.eq_of_testBit_eq
    intro i
    rw [Nat.testBit_and, Nat.testBit_two_pow, Nat.zero_testBit]
    by_cases e : c = i
    · subst e; simp [h]
    · simp [e]
theorem xbit_and {k c : Nat} (hk : k < 65536) (hc : c < 16) : nI k &&& xbit c = 0 ↔ k.testBit c = false := by
  rw [xbit_pow c hc, nx_and, ← and_pow0, ← nI_0]
  exact nI_eq (Nat.lt_of_le_of_lt Nat.and_le_left (by omega)) (by decide)
theorem pcn_ptb {k : Nat} (hk : k < 65536) : ∀ m, m ≤ 16 → pcn (nI k) m = ptb k m
  | 0, _ => rfl
  | m + 1, hm => by
    unfold pcn ptb
    rw [pcn_ptb hk m (by omega)]
    cases hb : k.testBit m
    · rw [if_pos ((xbit_and hk (by omega)).mpr hb)]; rfl
    · rw [if_neg (fun q => by have := (xbit_and hk (by omega)).mp q; rw [hb] at this; cases this)]; rfl
theorem bc_pcn {x : Int32} (hx : m16 x) : bcF x = nI (pcn x 16) := by
  obtain ⟨k, hk, rfl⟩ := hx
  rw [bcF_nI hk, nF_ptb 16 k (Nat.le_refl _) hk, pcn_ptb hk 16 (Nat.le_refl _)]
theorem pcn_le (x : Int32) : ∀ n, pcn x n ≤ n
  | 0 => Nat.le_refl _
  | n + 1 => by
    have := pcn_le x n
    unfold pcn
    split <;> omega
