/-! The versions as lists: all of them in one row; each cell's own -/
abbrev rT : Type := Nat × Nat × Int64
def rw_ (A : vW) (i : Nat) : rT := (A.1 i, A.2.1 i, A.2.2 i)
def rowL (A : vW) (n : Nat) : List rT := (List.range n).map (rw_ A)
def seg (A : vW) (j n : Nat) : List rT := (List.range (n - j)).map (fun q => rw_ A (j + q))
def celL (L : List rT) (c : Nat) : List (Nat × Int64) := (L.filter (fun r => r.1 == c)).map (fun r => r.2)
def vl (L : List (Nat × Int64)) (k : Nat) : Option Int64 := ((L.filter (fun r => decide (r.1 ≤ k))).getLast?).map (fun r => r.2)
def mrow (f : Nat → Nat) (g : Nat → Int64) (b n : Nat) : List (Nat × Int64) := (List.range n).map (fun i => (f (b + i), g (b + i)))
theorem rowL_succ (A : vW) (n : Nat) : rowL A (n + 1) = rowL A n ++ [rw_ A n] := by simp [rowL, List.range_succ]
theorem mrow_succ (f : Nat → Nat) (g : Nat → Int64) (b n : Nat) : mrow f g b (n + 1) = mrow f g b n ++ [(f (b + n), g (b + n))] := by simp [mrow, List.range_succ]
theorem rowL_len (A : vW) (n : Nat) : (rowL A n).length = n := by simp [rowL]
theorem mrow_len (f : Nat → Nat) (g : Nat → Int64) (b n : Nat) : (mrow f g b n).length = n := by simp [mrow]
theorem rowL_congr {A B : vW} {n : Nat} (h : ∀ i, i < n → rw_ A i = rw_ B i) : rowL A n = rowL B n := List.map_congr_left (fun i hi => h i (List.mem_range.mp hi))
theorem mrow_congr {f f' : Nat → Nat} {g g' : Nat → Int64} {b n : Nat} (h : ∀ i, i < n → f (b + i) = f' (b + i) ∧ g (b + i) = g' (b + i)) : mrow f g b n = mrow f' g' b n := List.map_congr_left (fun i hi => by rw [(h i (List.mem_range.mp hi)).1, (h i (List.mem_range.mp hi)).2])
theorem rowL_mem {A : vW} {n : Nat} {r : rT} : r ∈ rowL A n ↔ ∃ i, i < n ∧ rw_ A i = r := by simp [rowL]
theorem celL_app (L M : List rT) (c : Nat) : celL (L ++ M) c = celL L c ++ celL M c := by simp [celL]
theorem celL_one (r : rT) (c : Nat) : celL [r] c = if r.1 = c then [r.2] else [] := by
  by_cases h : r.1 = c <;> simp [celL, h]
theorem celL_cons (r : rT) (L : List rT) (c : Nat) : celL (r :: L) c = if r.1 = c then r.2 :: celL L c else celL L c := by
  by_cases h : r.1 = c <;> simp [celL, h]
theorem celL_mem {L : List rT} {c : Nat} {x : Nat × Int64} : x ∈ celL L c ↔ (c, x) ∈ L := by
  simp only [celL, List.mem_map, List.mem_filter]
  constructor
  · rintro ⟨⟨a, y⟩, ⟨h1, h2⟩, rfl⟩
    have : a = c := by simpa using h2
    subst this
    exact h1
  · intro h
    exact ⟨(c, x), ⟨h, by simp⟩, rfl⟩
theorem vl_nil (k : Nat) : vl [] k = none := rfl
theorem vl_app1 (L : List (Nat × Int64)) (x : Nat × Int64) (k : Nat) : vl (L ++ [x]) k = if x.1 ≤ k then some x.2 else vl L k := by
  by_cases h : x.1 ≤ k <;> simp [vl, List.filter_append, h]
theorem vl_all {L : List (Nat × Int64)} {k : Nat} (h : ∀ x ∈ L, x.1 ≤ k) : vl L k = (L.getLast?).map (fun r => r.2) := by
  unfold vl
  rw [List.filter_eq_self.mpr (fun x hx => decide_eq_true (h x hx))]
theorem vl_none {L : List (Nat × Int64)} {k : Nat} (h : ∀ x ∈ L, k < x.1) : vl L k = none := by
  unfold vl
  rw [List.filter_eq_nil_iff.mpr (fun x hx => by have := h x hx; simp; omega)]
  rfl
theorem vl_cons {x : Nat × Int64} {L : List (Nat × Int64)} {k : Nat} (h : ∃ y ∈ L, y.1 ≤ k) : vl (x :: L) k = vl L k := by
  have hne : L.filter (fun r => decide (r.1 ≤ k)) ≠ [] := by
    obtain ⟨y, hy, hk⟩ := h
    intro e
    have := List.filter_eq_nil_iff.mp e y hy
    exact this (decide_eq_true hk)
  unfold vl
  by_cases hx : x.1 ≤ k
  · rw [List.filter_cons_of_pos (by simpa using hx)]
    cases hf : L.filter (fun r => decide (r.1 ≤ k)) with
    | nil => exact absurd hf hne
    | cons a l => rw [List.getLast?_cons_cons]
  · rw [List.filter_cons_of_neg (by simpa using hx)]
theorem vix_vl (A : vW) (c k : Nat) : ∀ n, vl (celL (rowL A n) c) k = if vix A c k n = 0 then none else some (A.2.2 (vix A c k n - 1))
  | 0 => rfl
  | n + 1 => by
    rw [rowL_succ, celL_app, celL_one]
    have ih := vix_vl A c k n
    by_cases h : A.1 n = c
    · rw [if_pos (show (rw_ A n).1 = c from h), vl_app1]
      by_cases h2 : A.2.1 n ≤ k
      · rw [if_pos (show (rw_ A n).2.1 ≤ k from h2), show vix A c k (n + 1) = n + 1 from if_pos ⟨h, h2⟩]
        rfl
      · rw [if_neg (show ¬ (rw_ A n).2.1 ≤ k from h2), show vix A c k (n + 1) = vix A c k n from if_neg (fun q => h2 q.2)]
        exact ih
    · rw [if_neg (show ¬ (rw_ A n).1 = c from h), List.append_nil, show vix A c k (n + 1) = vix A c k n from if_neg (fun q => h q.1)]
      exact ih
/-! counting -/
theorem cnt_congr {p q : Nat → Bool} : ∀ n, (∀ c, c < n → p c = q c) → cnt p n = cnt q n
  | 0, _ => rfl
  | n + 1, h => by
    unfold cnt
    rw [cnt_congr n (fun c hc => h c (by omega)), h n (by omega)]
theorem cnt_zero {p : Nat → Bool} : ∀ n, cnt p n = 0 ↔ ∀ c, c < n → p c = false
  | 0 => ⟨fun _ c hc => absurd hc (Nat.not_lt_zero c), fun _ => rfl⟩
  | n + 1 => by
    have ih := cnt_zero (p := p) n
    unfold cnt
    constructor
    · intro h c hc
      by_cases hp : p n = true
      · rw [if_pos hp] at h; omega
      · rw [if_neg hp] at h
        by_cases e : c = n
        · rw [e]; exact Bool.eq_false_iff.mpr hp
        · exact ih.mp h c (by omega)
    · intro h
      rw [if_neg (by rw [h n (by omega)]; decide)]
      exact ih.mpr (fun c hc => h c (by omega))
theorem bt_pcn (x : Int32) : ∀ n, n ≤ 16 → pcn x n = cnt (fun c => bt x c) n
  | 0, _ => rfl
  | n + 1, h => by
    have ih := bt_pcn x n (by omega)
    unfold pcn cnt
    rw [ih]
    by_cases e : x &&& xbit n = 0
    · rw [if_pos e, if_neg (by rw [(xbit_bt (by omega)).mp e]; decide)]
    · rw [if_neg e, if_pos (by
        cases hb : bt x n
        · exact absurd ((xbit_bt (by omega)).mpr hb) e
        · rfl)]
theorem m16_zero {x : Int32} (hx : m16 x) (h : ∀ c, c < 16 → bt x c = false) : x = 0 := by
  obtain ⟨k, hk, rfl⟩ := hx
  have : k = 0 := by
    apply Nat.eq_of_testBit_eq
    intro i
    rw [Nat.zero_testBit]
    by_cases hi : i < 16
    · exact (xbit_and hk hi).mp ((xbit_bt hi).mpr (h i hi))
    · exact Nat.testBit_lt_two_pow (Nat.lt_of_lt_of_le (show k < 2 ^ 16 from hk) (Nat.pow_le_pow_right (n := 2) (by decide) (show 16 ≤ i by omega)))
  rw [this]; rfl
theorem sumN_congr {f g : Nat → Nat} : ∀ n, (∀ c, c < n → f c = g c) → sumN f n = sumN g n
  | 0, _ => rfl
  | n + 1, h => by
    unfold sumN
    rw [sumN_congr n (fun c hc => h c (by omega)), h n (by omega)]
theorem sumN_up (f : Nat → Nat) {c : Nat} (v : Nat) : ∀ n, c < n → sumN (va_up f c v) n + f c = sumN f n + v
  | 0, h => absurd h (Nat.not_lt_zero _)
  | n + 1, h => by
    unfold sumN
    by_cases e : c = n
    · subst e
      have h1 := sumN_congr (f := va_up f c v) (g := f) c (fun q hq => up_ne f v (show q ≠ c by omega))
      rw [up_eq, h1]
      omega
    · rw [up_ne f v (fun q => e q.symm)]
      have := sumN_up f (c := c) v n (by omega)
      omega
theorem sumN_add (f g : Nat → Nat) : ∀ n, sumN (fun c => f c + g c) n = sumN f n + sumN g n
  | 0 => rfl
  | n + 1 => by
    unfold sumN
    rw [sumN_add f g n]
    omega
theorem sumN_one {a : Nat} : ∀ n, sumN (fun c => if a = c then 1 else 0) n = if a < n then 1 else 0
  | 0 => rfl
  | n + 1 => by
    unfold sumN
    rw [sumN_one n]
    by_cases h1 : a < n
    · rw [if_pos h1, if_neg (by omega), if_pos (by omega)]
    · rw [if_neg h1]
      by_cases h2 : a = n
      · rw [if_pos h2, if_pos (by omega)]
      · rw [if_neg h2, if_neg (by omega)]
theorem sum_celL : ∀ L : List rT, (∀ r ∈ L, r.1 < 16) → sumN (fun c => (celL L c).length) 16 = L.length
  | [], _ => by rfl
  | r :: L, h => by
    have ih := sum_celL L (fun x hx => h x (List.mem_cons_of_mem _ hx))
    have e : ∀ c, (celL (r :: L) c).length = (if r.1 = c then 1 else 0) + (celL L c).length := by
      intro c
      rw [celL_cons]
      split
      · rw [List.length_cons]; omega
      · omega
    rw [sumN_congr 16 (fun c _ => e c), sumN_add, sumN_one, if_pos (h r List.mem_cons_self), ih, List.length_cons]
    omega
/-! sorted rows -/
def srt (L : List rT) : Prop := L.Pairwise (fun a b => a.2.1 ≤ b.2.1)
def srtC (L : List (Nat × Int64)) : Prop := L.Pairwise (fun a b => a.1 ≤ b.1)
theorem srt_celL {L : List rT} (h : srt L) (c : Nat) : srtC (celL L c) := by
  unfold srtC celL
  rw [List.pairwise_map]
  exact List.Pairwise.filter _ h
theorem mrow_mono {f : Nat → Nat} {g : Nat → Int64} {b : Nat} : ∀ {n : Nat}, srtC (mrow f g b n) → ∀ i j, i ≤ j → j < n → f (b + i) ≤ f (b + j)
  | 0, _, _, _, _, h => absurd h (Nat.not_lt_zero _)
  | n + 1, h, i, j, hij, hj => by
    rw [mrow_succ] at h
    have h2 := List.pairwise_append.mp h
    by_cases e : j = n
    · subst e
      by_cases e2 : i = j
      · rw [e2]; exact Nat.le_refl _
      · exact h2.2.2 (f (b + i), g (b + i)) (List.mem_map.mpr ⟨i, List.mem_range.mpr (by omega), rfl⟩) _ (List.mem_cons_self)
    · exact mrow_mono h2.1 i j hij (by omega)
theorem mrow_vl {f : Nat → Nat} {g : Nat → Int64} {b k j : Nat} : ∀ n, srtC (mrow f g b n) → j < n → f (b + j) ≤ k → (j + 1 < n → k < f (b + (j + 1))) → vl (mrow f g b n) k = some (g (b + j))
  | 0, _, h, _, _ => absurd h (Nat.not_lt_zero _)
  | n + 1, h, hj, h1, h2 => by
    have hm := mrow_mono h
    rw [mrow_succ, vl_app1]
    by_cases e : j = n
    · subst e
      rw [if_pos h1]
    · have h3 := h2 (by omega)
      have h4 := hm (j + 1) n (by omega) (by omega)
      rw [if_neg (show ¬ f (b + n) ≤ k by omega)]
      rw [mrow_succ] at h
      exact mrow_vl n (List.pairwise_append.mp h).1 (by omega) h1 (fun q => h2 (by omega))
theorem mrow_vl0 {f : Nat → Nat} {g : Nat → Int64} {b k n : Nat} (hs : srtC (mrow f g b n)) (h : k < f b) : vl (mrow f g b n) k = none := by
  refine vl_none (fun x hx => ?_)
  obtain ⟨i, hi, rfl⟩ := List.mem_map.mp hx
  have := mrow_mono hs 0 i (Nat.zero_le _) (List.mem_range.mp hi)
  rw [Nat.add_zero] at this
  exact Nat.lt_of_lt_of_le h this
theorem mpv_at {f : Nat → Nat} {k : Nat} : ∀ n v, f v ≤ k → v ≤ mpv f k n v ∧ mpv f k n v ≤ v + n ∧ f (mpv f k n v) ≤ k ∧ (mpv f k n v < v + n → k < f (mpv f k n v + 1))
  | 0, v, h => ⟨Nat.le_refl _, Nat.le_refl _, h, fun q => absurd q (Nat.lt_irrefl _)⟩
  | n + 1, v, h => by
    unfold mpv
    by_cases e : f (v + 1) ≤ k
    · rw [if_pos e]
      obtain ⟨h1, h2, h3, h4⟩ := mpv_at n (v + 1) e
      exact ⟨by omega, by omega, h3, fun q => h4 (by omega)⟩
    · rw [if_neg e]
      exact ⟨Nat.le_refl _, by omega, h, fun _ => by omega⟩
theorem mrow_last {f : Nat → Nat} {g : Nat → Int64} {b n : Nat} (hn : 1 ≤ n) : (mrow f g b n).getLast? = some (f (b + n - 1), g (b + n - 1)) := by
  obtain ⟨m, rfl⟩ : ∃ m, n = m + 1 := ⟨n - 1, by omega⟩
  rw [mrow_succ, List.getLast?_append]
  rfl
/-- the cells written after the clock -/
theorem xbit_at {c i : Nat} (hc : c < 16) (hi : i < 16) : bt (xbit c) i = decide (i = c) := by
  by_cases e : i = c
  · subst e
    rw [decide_eq_true rfl]
    cases hb : bt (xbit i) i
    · have := (xbit_bt (x := xbit i) hc).mpr hb
      have h2 : xbit i &&& xbit i = xbit i := by apply b_ext; intro q _; rw [b_and, Bool.and_self]
      rw [h2] at this
      exact absurd this ((by decide +kernel : ∀ c, c < 16 → xbit c ≠ 0) i hc)
    · rfl
  · rw [decide_eq_false e]
    exact (by decide +kernel : ∀ c, c < 16 → ∀ i, i < 16 → i ≠ c → bt (xbit c) i = false) c hc i hi e
theorem vwa_bt {A : vW} {k c : Nat} (hc : c < 16) : ∀ n z, (∀ i, i < n → A.1 i < 16) → srt (rowL A n) → bt (vwa A k n z) c = (bt z c || (celL (rowL A n) c).any (fun r => decide (k < r.1)))
  | 0, z, _, _ => by simp [vwa, rowL, celL]
  | n + 1, z, hA, hs => by
    rw [rowL_succ] at hs
    have h2 := List.pairwise_append.mp hs
    rw [rowL_succ, celL_app, celL_one, List.any_append]
    unfold vwa
    by_cases e : A.2.1 n ≤ k
    · rw [if_pos e]
      have h3 : (celL (rowL A n) c).any (fun r => decide (k < r.1)) = false := by
        rw [List.any_eq_false]
        intro x hx
        have := h2.2.2 (c, x) (celL_mem.mp hx) _ List.mem_cons_self
        have h4 : x.1 ≤ A.2.1 n := this
        simp
        omega
      rw [h3]
      split
      · have : decide (k < A.2.1 n) = false := decide_eq_false (by omega)
        simp [rw_, this]
      · simp
    · rw [if_neg e, vwa_bt hc n _ (fun i hi => hA i (by omega)) h2.1, b_or, xbit_at (hA n (by omega)) hc]
      have : decide (k < A.2.1 n) = true := decide_eq_true (by omega)
      by_cases e2 : A.1 n = c
      · rw [if_pos (show (rw_ A n).1 = c from e2), decide_eq_true e2.symm]
        simp [rw_, this]
      · rw [if_neg (show ¬ (rw_ A n).1 = c from e2), decide_eq_false (fun q => e2 q.symm)]
        simp
theorem any_last {L : List (Nat × Int64)} (hs : srtC L) {k a : Nat} (hl : (L.getLast?).map (fun r => r.1) = some a) : L.any (fun r => decide (k < r.1)) = decide (k < a) := by
  obtain ⟨z, hz⟩ : ∃ z, L.getLast? = some z := by
    cases h : L.getLast? with
    | none => rw [h] at hl; cases hl
    | some z => exact ⟨z, rfl⟩
  rw [hz] at hl
  have ha : z.1 = a := Option.some.inj hl
  obtain ⟨pre, rfl⟩ := List.getLast?_eq_some_iff.mp hz
  have h2 := List.pairwise_append.mp hs
  rw [List.any_append]
  by_cases e : k < a
  · simp [ha, e]
  · have : pre.any (fun r => decide (k < r.1)) = false := by
      rw [List.any_eq_false]
      intro x hx
      have := h2.2.2 x hx z List.mem_cons_self
      simp
      omega
    rw [this]
    simp [ha]
