/-! sets of sixteen cells as numbers; Integer.bitCount counts them -/
theorem xbit_pow : ∀ c, c < 16 → xbit c = nI (2 ^ c) := by decide +kernel
theorem nx_or (a b : Nat) : nI a ||| nI b = nI (a ||| b) := by
  apply Int32.toBitVec_inj.1
  show BitVec.ofNat 32 a ||| BitVec.ofNat 32 b = BitVec.ofNat 32 (a ||| b)
  apply BitVec.eq_of_getLsbD_eq
  intro i hi
  simp [hi]
def m16 (x : Int32) : Prop := ∃ k, k < 65536 ∧ x = nI k
theorem m16_0 : m16 0 := ⟨0, by decide, rfl⟩
theorem m16_or {x y : Int32} (hx : m16 x) (hy : m16 y) : m16 (x ||| y) := by
  obtain ⟨a, ha, rfl⟩ := hx
  obtain ⟨b, hb, rfl⟩ := hy
  exact ⟨a ||| b, Nat.or_lt_two_pow (n := 16) ha hb, nx_or a b⟩
theorem m16_and {x y : Int32} (hx : m16 x) (hy : m16 y) : m16 (x &&& y) := by
  obtain ⟨a, ha, rfl⟩ := hx
  obtain ⟨b, hb, rfl⟩ := hy
  exact ⟨a &&& b, Nat.lt_of_le_of_lt Nat.and_le_left ha, nx_and a b⟩
theorem m16_bit {c : Nat} (hc : c < 16) : m16 (xbit c) := ⟨2 ^ c, Nat.pow_lt_pow_right (by decide) hc, xbit_pow c hc⟩
/-- how many of the first n cells are in x -/
def pcn (x : Int32) : Nat → Nat
  | 0 => 0
  | c + 1 => if x &&& xbit c = 0 then pcn x c else pcn x c + 1
def ptb (k : Nat) : Nat → Nat
  | 0 => 0
  | c + 1 => ptb k c + (k.testBit c).toNat
theorem ptb_half (k : Nat) : ∀ m, ptb k (m + 1) = ptb (k / 2) m + k % 2
  | 0 => by
    simp only [ptb, Nat.testBit_zero]
    have : k % 2 = 0 ∨ k % 2 = 1 := by omega
    rcases this with h | h <;> simp [h]
  | m + 1 => by
    show ptb k (m + 1) + (k.testBit (m + 1)).toNat = ptb (k / 2) m + ((k / 2).testBit m).toNat + k % 2
    rw [ptb_half k m, Nat.testBit_succ]
    omega
def n1 (k : Nat) : Nat := k - ((k >>> 1) &&& 1431655765)
def n2 (a : Nat) : Nat := (a &&& 858993459) + ((a >>> 2) &&& 858993459)
def n3 (b : Nat) : Nat := (b + (b >>> 4)) &&& 252645135
def n4 (c : Nat) : Nat := c + (c >>> 8)
def n5 (e : Nat) : Nat := e + (e >>> 16)
def nF (k : Nat) : Nat := n5 (n4 (n3 (n2 (n1 k)))) &&& 63
def nok (k : Nat) : Bool := Nat.ble ((k >>> 1) &&& 1431655765) k && Nat.blt (n1 k) 65536 && Nat.blt (n2 (n1 k)) 65536 && Nat.blt (n3 (n2 (n1 k))) 65536 && Nat.blt (n4 (n3 (n2 (n1 k)))) 65536 && Nat.beq (nF k) (nF (k / 2) + k % 2)
set_option maxRecDepth 100000 in
theorem nok_all : ∀ a, a < 256 → ∀ b, b < 256 → nok (256 * a + b) = true := by decide +kernel
theorem nok_at {k : Nat} (h : k < 65536) : nok k = true := by
  have := nok_all (k / 256) (by omega) (k % 256) (by omega)
  rwa [show 256 * (k / 256) + k % 256 = k by omega] at this
