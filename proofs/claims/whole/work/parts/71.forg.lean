/-! What forgetting does to the rows, on both sides -/
def keepR (fl : Nat) (x : rT) (S : List rT) : List rT := if S.any (fun y => y.1 == x.1 && decide (y.2.1 ≤ fl)) = true then S else x :: S
def GL (fl : Nat) (L S : List rT) : List rT := L.foldr (keepR fl) S
theorem seg_cons {A : vW} {j n : Nat} (h : j < n) : seg A j n = rw_ A j :: seg A (j + 1) n := by
  unfold seg
  rw [show n - j = (n - (j + 1)) + 1 by omega, List.range_succ_eq_map, List.map_cons, List.map_map]
  refine congrArg (List.cons (rw_ A j)) (List.map_congr_left (fun q _ => ?_))
  show rw_ A (j + (q + 1)) = rw_ A (j + 1 + q)
  rw [show j + (q + 1) = j + 1 + q by omega]
theorem seg_congr {A B : vW} {j n : Nat} (h : ∀ q, j ≤ q → q < n → rw_ A q = rw_ B q) : seg A j n = seg B j n :=
  List.map_congr_left (fun q hq => h (j + q) (by omega) (by have := List.mem_range.mp hq; omega))
theorem seg_nil (A : vW) (n : Nat) : seg A n n = [] := by unfold seg; rw [Nat.sub_self]; rfl
theorem seg_len (A : vW) (j n : Nat) : (seg A j n).length = n - j := by simp [seg]
theorem mv_at (A : vW) (i j : Nat) : rw_ (mv A i j) j = rw_ A i := by simp only [rw_, mv, up_eq]
theorem mv_ne (A : vW) (i : Nat) {j q : Nat} (h : q ≠ j) : rw_ (mv A i j) q = rw_ A q := by simp only [rw_, mv, up_ne _ _ h]
theorem rcA_spec {fl n : Nat} : ∀ (i : Nat) (cv : Int32) (j : Nat) (A : vW), i ≤ j → j ≤ n → (∀ q, q < i → A.1 q < 16) → (∀ c, c < 16 → bt cv c = (seg A j n).any (fun y => y.1 == c && decide (y.2.1 ≤ fl))) →
    (rcA fl i cv j A).1 ≤ j ∧ seg (rcA fl i cv j A).2 (rcA fl i cv j A).1 n = GL fl (rowL A i) (seg A j n)
  | 0, _, _, _, _, _, _, _ => ⟨Nat.le_refl _, rfl⟩
  | i + 1, cv, j, A, hij, hjn, hA, hcv => by
    have hAi := hA i (by omega)
    have hx : (seg A j n).any (fun y => y.1 == (rw_ A i).1 && decide (y.2.1 ≤ fl)) = bt cv (A.1 i) := (hcv _ hAi).symm
    have hg : GL fl (rowL A (i + 1)) (seg A j n) = GL fl (rowL A i) (keepR fl (rw_ A i) (seg A j n)) := by
      unfold GL
      rw [rowL_succ, List.foldr_append]
      rfl
    by_cases h : cv &&& xbit (A.1 i) = 0
    · have hb : bt cv (A.1 i) = false := (xbit_bt hAi).mp h
      have hk : keepR fl (rw_ A i) (seg A j n) = rw_ A i :: seg A j n := by
        unfold keepR
        rw [hx, hb]
        rfl
      have hseg : seg (mv A i (j - 1)) (j - 1) n = rw_ A i :: seg A j n := by
        rw [seg_cons (by omega), mv_at, show j - 1 + 1 = j by omega]
        refine congrArg (List.cons _) (seg_congr (fun q hq _ => mv_ne A i (by omega)))
      have hrow : rowL (mv A i (j - 1)) i = rowL A i := rowL_congr (fun q hq => mv_ne A i (by omega))
      rw [show rcA fl (i + 1) cv j A = rcA fl i (if A.2.1 i ≤ fl then cv ||| xbit (A.1 i) else cv) (j - 1) (mv A i (j - 1)) from if_pos h]
      have ih := rcA_spec (fl := fl) (n := n) i (if A.2.1 i ≤ fl then cv ||| xbit (A.1 i) else cv) (j - 1) (mv A i (j - 1)) (by omega) (by omega)
        (fun q hq => by
          have := congrArg (fun r : rT => r.1) (mv_ne A i (j := j - 1) (q := q) (by omega))
          have h2 : (mv A i (j - 1)).1 q = A.1 q := this
          rw [h2]; exact hA q (by omega))
        (fun c hc => by
          rw [hseg, List.any_cons, ← hcv c hc]
          by_cases e : A.2.1 i ≤ fl
          · rw [if_pos e, b_or, xbit_at hAi hc]
            by_cases e2 : c = A.1 i
            · subst e2
              simp [rw_, e]
            · have e3 : ¬ A.1 i = c := fun q => e2 q.symm
              simp [rw_, e2, e3]
          · rw [if_neg e]
            simp [rw_, e])
      rw [hseg, hrow] at ih
      rw [hg, hk]
      exact ⟨by omega, ih.2⟩
    · have hb : bt cv (A.1 i) = true := by
        cases hq : bt cv (A.1 i)
        · exact absurd ((xbit_bt hAi).mpr hq) h
        · rfl
      have hk : keepR fl (rw_ A i) (seg A j n) = seg A j n := by
        unfold keepR
        rw [hx, hb]
        rfl
      rw [show rcA fl (i + 1) cv j A = rcA fl i cv j A from if_neg h, hg, hk]
      exact rcA_spec i cv j A (by omega) hjn (fun q hq => hA q (by omega)) hcv
theorem rdA_spec {j : Nat} : ∀ (m i : Nat) (A : vW), j ≤ i → ∀ q, rw_ (rdA j m i A) q = if i - j ≤ q ∧ q < i - j + m then rw_ A (q + j) else rw_ A q
  | 0, i, A, _, q => by rw [if_neg (by omega)]; rfl
  | m + 1, i, A, hij, q => by
    show rw_ (rdA j m (i + 1) (mv A i (i - j))) q = _
    rw [rdA_spec m (i + 1) (mv A i (i - j)) (by omega) q]
    by_cases h1 : i + 1 - j ≤ q ∧ q < i + 1 - j + m
    · rw [if_pos h1, if_pos (by omega), mv_ne A i (by omega)]
    · rw [if_neg h1]
      by_cases h2 : q = i - j
      · rw [if_pos (by omega), h2, mv_at, show i - j + j = i by omega]
      · rw [if_neg (by omega), mv_ne A i h2]
theorem rdA_row {j n : Nat} (hj : j ≤ n) (A : vW) : rowL (rdA j (n - j) j A) (n - j) = seg A j n :=
  List.map_congr_left (fun q hq => by
    have := List.mem_range.mp hq
    rw [rdA_spec _ _ _ (Nat.le_refl _), if_pos (by omega), Nat.add_comm])
/-- the rows after forget, and how many went -/
theorem stF_rows {σ : vS} (hA : ∀ i, i < sN σ → (sA σ).1 i < 16) : rowL (sA (stForget σ)) (sN (stForget σ)) = GL (flo (sK σ) (sT σ) 16) (rowL (sA σ) (sN σ)) [] ∧ (rcA (flo (sK σ) (sT σ) 16) (sN σ) 0 (sN σ) (sA σ)).1 ≤ sN σ := by
  have h := rcA_spec (fl := flo (sK σ) (sT σ) 16) (n := sN σ) (sN σ) 0 (sN σ) (sA σ) (Nat.le_refl _) (Nat.le_refl _) hA (fun c _ => by rw [seg_nil, b_0]; rfl)
  rw [seg_nil] at h
  exact ⟨(rdA_row h.1 _).trans h.2, h.1⟩
def keepC (fl : Nat) (x : Nat × Int64) (S : List (Nat × Int64)) : List (Nat × Int64) := if S.any (fun y => decide (y.1 ≤ fl)) = true then S else x :: S
def GC (fl : Nat) (L : List (Nat × Int64)) : List (Nat × Int64) := L.foldr (keepC fl) []
theorem any_celL (L : List rT) (c : Nat) (p : Nat × Int64 → Bool) : (celL L c).any p = L.any (fun y => y.1 == c && p y.2) := by
  unfold celL
  rw [List.any_map, List.any_filter]
  rfl
theorem celL_GL (fl c : Nat) : ∀ L : List rT, celL (GL fl L []) c = GC fl (celL L c)
  | [] => rfl
  | x :: L => by
    have ih := celL_GL fl c L
    show celL (keepR fl x (GL fl L [])) c = _
    rw [celL_cons]
    by_cases e : x.1 = c
    · rw [if_pos e]
      show _ = keepC fl x.2 (GC fl (celL L c))
      rw [← ih]
      unfold keepR keepC
      rw [any_celL, ← e]
      split
      · rfl
      · rw [celL_cons, if_pos rfl]
    · rw [if_neg e, ← ih]
      unfold keepR
      split
      · rfl
      · rw [celL_cons, if_neg e]
theorem GL_sub (fl : Nat) : ∀ L : List rT, List.Sublist (GL fl L []) L
  | [] => List.Sublist.slnil
  | x :: L => by
    have ih := GL_sub fl L
    show List.Sublist (keepR fl x (GL fl L [])) (x :: L)
    unfold keepR
    split
    · exact ih.cons x
    · exact ih.cons_cons x
def dropF (fl : Nat) : List (Nat × Int64) → List (Nat × Int64)
  | [] => []
  | [x] => [x]
  | x :: y :: r => if y.1 ≤ fl then dropF fl (y :: r) else x :: y :: r
theorem dropF_head (fl : Nat) : ∀ (y : Nat × Int64) (r : List (Nat × Int64)), y.1 ≤ fl → ∃ z s, dropF fl (y :: r) = z :: s ∧ z.1 ≤ fl
  | y, [], h => ⟨y, [], rfl, h⟩
  | y, w :: r, h => by
    unfold dropF
    by_cases e : w.1 ≤ fl
    · rw [if_pos e]; exact dropF_head fl w r e
    · rw [if_neg e]; exact ⟨y, w :: r, rfl, h⟩
theorem dropF_stop (fl : Nat) (y : Nat × Int64) (r : List (Nat × Int64)) (hs : srtC (y :: r)) (h : ¬ y.1 ≤ fl) : dropF fl (y :: r) = y :: r := by
  cases r with
  | nil => rfl
  | cons w r =>
    have := (List.pairwise_cons.mp hs).1 w List.mem_cons_self
    unfold dropF
    rw [if_neg (by omega)]
theorem dropF_GC (fl : Nat) : ∀ L : List (Nat × Int64), srtC L → GC fl L = dropF fl L
  | [], _ => rfl
  | [x], _ => rfl
  | x :: y :: r, hs => by
    have hs2 : srtC (y :: r) := (List.pairwise_cons.mp hs).2
    have ih := dropF_GC fl (y :: r) hs2
    show keepC fl x (GC fl (y :: r)) = _
    rw [ih]
    unfold keepC
    rw [show dropF fl (x :: y :: r) = if y.1 ≤ fl then dropF fl (y :: r) else x :: y :: r from rfl]
    by_cases e : y.1 ≤ fl
    · obtain ⟨z, s, hz, hz2⟩ := dropF_head fl y r e
      rw [if_pos e, hz, List.any_cons, decide_eq_true hz2, Bool.true_or, if_pos rfl]
    · rw [if_neg e, dropF_stop fl y r hs2 e]
      have : (y :: r).any (fun w => decide (w.1 ≤ fl)) = false := by
        rw [List.any_eq_false]
        intro w hw
        rcases List.mem_cons.mp hw with rfl | hw
        · simpa using e
        · have := (List.pairwise_cons.mp hs2).1 w hw
          simp
          omega
      rw [this, if_neg (by decide)]
theorem dropF_last (fl : Nat) : ∀ L : List (Nat × Int64), (dropF fl L).getLast? = L.getLast?
  | [] => rfl
  | [x] => rfl
  | x :: y :: r => by
    rw [show dropF fl (x :: y :: r) = if y.1 ≤ fl then dropF fl (y :: r) else x :: y :: r from rfl]
    split
    · rw [dropF_last fl (y :: r), List.getLast?_cons_cons]
    · rfl
theorem dropF_vl {fl s : Nat} (h : fl ≤ s) : ∀ L : List (Nat × Int64), vl (dropF fl L) s = vl L s
  | [] => rfl
  | [x] => rfl
  | x :: y :: r => by
    rw [show dropF fl (x :: y :: r) = if y.1 ≤ fl then dropF fl (y :: r) else x :: y :: r from rfl]
    split
    · rename_i e
      rw [dropF_vl h (y :: r), vl_cons ⟨y, List.mem_cons_self, Nat.le_trans e h⟩]
    · rfl
/-! the reference's loops, by what they leave -/
def row (μ : qS) (c : Nat) : List (Nat × Int64) := mrow (qI μ 10) (qL μ 12) (520 * c) (qI μ 9 c)
theorem mshift_Z (c : Nat) : ∀ n v μ, qZ (mshift c n v μ) = qZ μ
  | 0, _, _ => rfl
  | n + 1, v, μ => mshift_Z c n (v + 1) _
theorem mshift_K (c : Nat) : ∀ n v μ, qK (mshift c n v μ) = qK μ
  | 0, _, _ => rfl
  | n + 1, v, μ => mshift_K c n (v + 1) _
theorem mshift_X (c : Nat) : ∀ n v μ, qX (mshift c n v μ) = qX μ
  | 0, _, _ => rfl
  | n + 1, v, μ => mshift_X c n (v + 1) _
theorem mshift_L (c : Nat) {k : Nat} (hk : k ≠ 12) : ∀ n v μ, qL (mshift c n v μ) k = qL μ k
  | 0, _, _ => rfl
  | n + 1, v, μ => by
    show qL (mshift c n (v + 1) _) k = _
    rw [mshift_L c hk n, sL_ne hk]; rfl
theorem mshift_10 (c : Nat) : ∀ n v μ j, qI (mshift c n v μ) 10 j = if 520 * c + v ≤ j ∧ j < 520 * c + v + n then qI μ 10 (j + 1) else qI μ 10 j
  | 0, v, μ, j => by rw [if_neg (by omega)]; rfl
  | n + 1, v, μ, j => by
    show qI (mshift c n (v + 1) _) 10 j = _
    rw [mshift_10 c n, qI_sL, sI_at]
    by_cases h1 : 520 * c + (v + 1) ≤ j ∧ j < 520 * c + (v + 1) + n
    · rw [if_pos h1, up_ne _ _ (by omega), if_pos (by omega)]
    · rw [if_neg h1]
      by_cases h2 : j = 520 * c + v
      · rw [h2, up_eq, if_pos (by omega)]
      · rw [up_ne _ _ h2, if_neg (by omega)]
theorem mshift_12 (c : Nat) : ∀ n v μ j, qL (mshift c n v μ) 12 j = if 520 * c + v ≤ j ∧ j < 520 * c + v + n then qL μ 12 (j + 1) else qL μ 12 j
  | 0, v, μ, j => by rw [if_neg (by omega)]; rfl
  | n + 1, v, μ, j => by
    show qL (mshift c n (v + 1) _) 12 j = _
    rw [mshift_12 c n, sL_at, qL_sI]
    by_cases h1 : 520 * c + (v + 1) ≤ j ∧ j < 520 * c + (v + 1) + n
    · rw [if_pos h1, up_ne _ _ (by omega), if_pos (by omega)]
    · rw [if_neg h1]
      by_cases h2 : j = 520 * c + v
      · rw [h2, up_eq, if_pos (by omega)]
      · rw [up_ne _ _ h2, if_neg (by omega)]
theorem mrow_cons (f : Nat → Nat) (g : Nat → Int64) (b n : Nat) : mrow f g b (n + 1) = (f b, g b) :: mrow f g (b + 1) n := by
  unfold mrow
  rw [List.range_succ_eq_map, List.map_cons, List.map_map]
  refine congrArg (List.cons (f b, g b)) (List.map_congr_left (fun q _ => ?_))
  show (f (b + (q + 1)), g (b + (q + 1))) = _
  rw [show b + (q + 1) = b + 1 + q by omega]
/-- nothing but the versions has changed -/
def SF (μ μ' : qS) : Prop := qX μ' = qX μ ∧ qK μ' = qK μ ∧ qZ μ' = qZ μ ∧ (∀ k, k ≠ 9 → k ≠ 10 → qI μ' k = qI μ k) ∧ (∀ k, k ≠ 12 → qL μ' k = qL μ k)
theorem SF.rf (μ : qS) : SF μ μ := ⟨rfl, rfl, rfl, fun _ _ _ => rfl, fun _ _ => rfl⟩
theorem SF.tr {a b c : qS} (h : SF a b) (k : SF b c) : SF a c := ⟨k.1.trans h.1, k.2.1.trans h.2.1, k.2.2.1.trans h.2.2.1, fun q h1 h2 => (k.2.2.2.1 q h1 h2).trans (h.2.2.2.1 q h1 h2), fun q h1 => (k.2.2.2.2 q h1).trans (h.2.2.2.2 q h1)⟩
theorem mwh_spec {fl c : Nat} : ∀ (n g : Nat) (μ : qS), qI μ 9 c = n + 1 → n + 1 ≤ 500 →
    row (mwh fl c n g μ).1 c = dropF fl (row μ c) ∧ (mwh fl c n g μ).2 + qI (mwh fl c n g μ).1 9 c = g + qI μ 9 c ∧ 1 ≤ qI (mwh fl c n g μ).1 9 c ∧ qI (mwh fl c n g μ).1 9 c ≤ 500 ∧
    (∀ j, j < 520 * c ∨ 520 * c + 520 ≤ j → qI (mwh fl c n g μ).1 10 j = qI μ 10 j ∧ qL (mwh fl c n g μ).1 12 j = qL μ 12 j) ∧ SF μ (mwh fl c n g μ).1
  | 0, g, μ, hv, h5 => by
    refine ⟨?_, rfl, by show 1 ≤ qI μ 9 c; omega, by show qI μ 9 c ≤ 500; omega, fun _ _ => ⟨rfl, rfl⟩, SF.rf μ⟩
    show row μ c = dropF fl (row μ c)
    unfold row
    rw [hv]
    rfl
  | n + 1, g, μ, hv, h5 => by
    have hr : row μ c = (qI μ 10 (520 * c), qL μ 12 (520 * c)) :: (qI μ 10 (520 * c + 1), qL μ 12 (520 * c + 1)) :: mrow (qI μ 10) (qL μ 12) (520 * c + 1 + 1) n := by
      unfold row
      rw [hv, mrow_cons, mrow_cons]
    by_cases hz : qI μ 10 (520 * c + 1) ≤ fl
    · rw [show mwh fl c (n + 1) g μ = mwh fl c n (g + 1) (mshift c (n + 1) 0 (sI μ 9 c (n + 1))) from if_pos hz]
      have e9 : qI (mshift c (n + 1) 0 (sI μ 9 c (n + 1))) 9 c = n + 1 := by rw [mshift_I c (by decide), sI_at, up_eq]
      have hrow : row (mshift c (n + 1) 0 (sI μ 9 c (n + 1))) c = mrow (qI μ 10) (qL μ 12) (520 * c + 1) (n + 1) := by
        unfold row
        rw [e9]
        refine List.map_congr_left (fun i hi => ?_)
        have hi' := List.mem_range.mp hi
        rw [mshift_10, mshift_12, if_pos (by omega), if_pos (by omega), sI_ne (by decide), qL_sI, show 520 * c + i + 1 = 520 * c + 1 + i by omega]
      obtain ⟨i1, i2, i3, i4, i5, i6⟩ := mwh_spec (fl := fl) (c := c) n (g + 1) _ e9 (by omega)
      refine ⟨?_, by omega, i3, i4, fun j hj => ?_, ?_⟩
      · rw [i1, hrow, hr, mrow_cons]
        show _ = (if qI μ 10 (520 * c + 1) ≤ fl then _ else _)
        rw [if_pos hz]
      · obtain ⟨a1, a2⟩ := i5 j hj
        rw [a1, a2, mshift_10, mshift_12, if_neg (by omega), if_neg (by omega), sI_ne (by decide), qL_sI]
        exact ⟨rfl, rfl⟩
      · refine SF.tr (b := mshift c (n + 1) 0 (sI μ 9 c (n + 1))) ⟨mshift_X c _ _ (sI μ 9 c (n + 1)), mshift_K c _ _ (sI μ 9 c (n + 1)), mshift_Z c _ _ (sI μ 9 c (n + 1)), fun k h1 h2 => ?_, fun k h1 => ?_⟩ i6
        · rw [mshift_I c h2, sI_ne h1]
        · rw [mshift_L c h1]; rfl
    · rw [show mwh fl c (n + 1) g μ = (μ, g) from if_neg hz]
      refine ⟨?_, rfl, by show 1 ≤ qI μ 9 c; omega, by show qI μ 9 c ≤ 500; omega, fun _ _ => ⟨rfl, rfl⟩, SF.rf μ⟩
      rw [hr]
      show _ = (if qI μ 10 (520 * c + 1) ≤ fl then _ else _)
      rw [if_neg hz]
theorem row_same {μ μ' : qS} {c : Nat} (h9 : qI μ' 9 c = qI μ 9 c) (hv : qI μ 9 c ≤ 520) (h : ∀ j, 520 * c ≤ j → j < 520 * c + 520 → qI μ' 10 j = qI μ 10 j ∧ qL μ' 12 j = qL μ 12 j) : row μ' c = row μ c := by
  unfold row
  rw [h9]
  exact mrow_congr (fun i hi => h (520 * c + i) (by omega) (by omega))
theorem mfor_spec {fl : Nat} : ∀ (n c : Nat) (p : qS × Nat), c + n = 16 → (∀ c', c' < 16 → 1 ≤ qI p.1 9 c' ∧ qI p.1 9 c' ≤ 500) →
    (∀ c', c' < 16 → row (mfor fl n c p).1 c' = if c ≤ c' then dropF fl (row p.1 c') else row p.1 c') ∧ (mfor fl n c p).2 + sumN (qI (mfor fl n c p).1 9) 16 = p.2 + sumN (qI p.1 9) 16 ∧ SF p.1 (mfor fl n c p).1
  | 0, c, p, hc, hv => ⟨fun c' h => by rw [if_neg (by omega)]; rfl, rfl, SF.rf _⟩
  | n + 1, c, p, hc, hv => by
    have hvc := hv c (by omega)
    obtain ⟨w1, w2, w3, w4, w5, w6⟩ := mwh_spec (fl := fl) (c := c) (qI p.1 9 c - 1) p.2 p.1 (by omega) (by omega)
    have w9 : ∀ c', c' ≠ c → qI (mwh fl c (qI p.1 9 c - 1) p.2 p.1).1 9 c' = qI p.1 9 c' := fun c' h => mwh_I fl c h _ _ _
    have hup : qI (mwh fl c (qI p.1 9 c - 1) p.2 p.1).1 9 = va_up (qI p.1 9) c (qI (mwh fl c (qI p.1 9 c - 1) p.2 p.1).1 9 c) := by
      funext q
      by_cases e : q = c
      · rw [e, up_eq]
      · rw [up_ne _ _ e, w9 q e]
    have hsum := sumN_up (qI p.1 9) (c := c) (qI (mwh fl c (qI p.1 9 c - 1) p.2 p.1).1 9 c) 16 (by omega)
    rw [← hup] at hsum
    show (∀ c', c' < 16 → row (mfor fl n (c + 1) (mwh fl c (qI p.1 9 c - 1) p.2 p.1)).1 c' = _) ∧ (mfor fl n (c + 1) (mwh fl c (qI p.1 9 c - 1) p.2 p.1)).2 + sumN (qI (mfor fl n (c + 1) (mwh fl c (qI p.1 9 c - 1) p.2 p.1)).1 9) 16 = _ ∧ SF p.1 (mfor fl n (c + 1) (mwh fl c (qI p.1 9 c - 1) p.2 p.1)).1
    have hv2 : ∀ c', c' < 16 → 1 ≤ qI (mwh fl c (qI p.1 9 c - 1) p.2 p.1).1 9 c' ∧ qI (mwh fl c (qI p.1 9 c - 1) p.2 p.1).1 9 c' ≤ 500 := by
      intro c' h
      by_cases e : c' = c
      · rw [e]; exact ⟨w3, w4⟩
      · rw [w9 c' e]; exact hv c' h
    obtain ⟨i1, i2, i3⟩ := mfor_spec (fl := fl) n (c + 1) (mwh fl c (qI p.1 9 c - 1) p.2 p.1) (by omega) hv2
    have hrow : ∀ c', c' < 16 → c' ≠ c → row (mwh fl c (qI p.1 9 c - 1) p.2 p.1).1 c' = row p.1 c' := fun c' h e =>
      row_same (w9 c' e) (by have := hv c' h; omega) (fun j h1 h2 => w5 j (by omega))
    refine ⟨fun c' h => ?_, by omega, w6.tr i3⟩
    rw [i1 c' h]
    by_cases e : c' = c
    · rw [if_neg (by omega), if_pos (by omega), e]; exact w1
    · by_cases e2 : c ≤ c'
      · rw [if_pos (by omega), if_pos e2, hrow c' h e]
      · rw [if_neg (by omega), if_neg e2, hrow c' h e]
/-! clear, begin, pop: the cells after them -/
theorem mclr_3 (a : Nat) : ∀ n c μ j, qZ (mclr a n c μ) 3 j = if a + c ≤ j ∧ j < a + c + n then false else qZ μ 3 j
  | 0, c, μ, j => by rw [if_neg (by omega)]; rfl
  | n + 1, c, μ, j => by
    show qZ (mclr a n (c + 1) _) 3 j = _
    rw [mclr_3 a n, sZ_at]
    by_cases h1 : a + (c + 1) ≤ j ∧ j < a + (c + 1) + n
    · rw [if_pos h1, if_pos (by omega)]
    · rw [if_neg h1]
      by_cases h2 : j = a + c
      · rw [h2, up_eq, if_pos (by omega)]
      · rw [up_ne _ _ h2, if_neg (by omega)]
theorem mclr_Z (a : Nat) {k : Nat} (hk : k ≠ 3) : ∀ n c μ, qZ (mclr a n c μ) k = qZ μ k
  | 0, _, _ => rfl
  | n + 1, c, μ => by
    show qZ (mclr a n (c + 1) _) k = _
    rw [mclr_Z a hk n, sZ_ne hk]
theorem mclr_K (a : Nat) : ∀ n c μ, qK (mclr a n c μ) = qK μ
  | 0, _, _ => rfl
  | n + 1, c, μ => mclr_K a n (c + 1) _
theorem mclr_X (a : Nat) : ∀ n c μ, qX (mclr a n c μ) = qX μ
  | 0, _, _ => rfl
  | n + 1, c, μ => mclr_X a n (c + 1) _
theorem mbeg_I (t : Nat) : ∀ n c μ, qI (mbeg t n c μ) = qI μ
  | 0, _, _ => rfl
  | n + 1, c, μ => mbeg_I t n (c + 1) _
theorem mbeg_K (t : Nat) : ∀ n c μ, qK (mbeg t n c μ) = qK μ
  | 0, _, _ => rfl
  | n + 1, c, μ => mbeg_K t n (c + 1) _
theorem mbeg_X (t : Nat) : ∀ n c μ, qX (mbeg t n c μ) = qX μ
  | 0, _, _ => rfl
  | n + 1, c, μ => mbeg_X t n (c + 1) _
theorem mbeg_Z (t : Nat) {k : Nat} (hk : k ≠ 2) : ∀ n c μ, qZ (mbeg t n c μ) k = qZ μ k
  | 0, _, _ => rfl
  | n + 1, c, μ => by
    show qZ (mbeg t n (c + 1) _) k = _
    rw [mbeg_Z t hk n, qZ_sL, sZ_ne hk]
theorem mbeg_L (t : Nat) {k : Nat} (hk : k ≠ 7) : ∀ n c μ, qL (mbeg t n c μ) k = qL μ k
  | 0, _, _ => rfl
  | n + 1, c, μ => by
    show qL (mbeg t n (c + 1) _) k = _
    rw [mbeg_L t hk n, sL_ne hk, qL_sZ]
theorem mbeg_2 (t : Nat) : ∀ n c μ j, qZ (mbeg t n c μ) 2 j = if 16 * t + c ≤ j ∧ j < 16 * t + c + n then false else qZ μ 2 j
  | 0, c, μ, j => by rw [if_neg (by omega)]; rfl
  | n + 1, c, μ, j => by
    show qZ (mbeg t n (c + 1) _) 2 j = _
    rw [mbeg_2 t n, qZ_sL, sZ_at]
    by_cases h1 : 16 * t + (c + 1) ≤ j ∧ j < 16 * t + (c + 1) + n
    · rw [if_pos h1, if_pos (by omega)]
    · rw [if_neg h1]
      by_cases h2 : j = 16 * t + c
      · rw [h2, up_eq, if_pos (by omega)]
      · rw [up_ne _ _ h2, if_neg (by omega)]
theorem mbeg_7 (t : Nat) : ∀ n c μ j, qL (mbeg t n c μ) 7 j = if 16 * t + c ≤ j ∧ j < 16 * t + c + n then mnow μ (j - 16 * t) else qL μ 7 j
  | 0, c, μ, j => by rw [if_neg (by omega)]; rfl
  | n + 1, c, μ, j => by
    show qL (mbeg t n (c + 1) _) 7 j = _
    have e : ∀ x, mnow (sL (sZ μ 2 (16 * t + c) false) 7 (16 * t + c) (mnow μ c)) x = mnow μ x := fun x => by
      unfold mnow; rw [sL_ne (by decide), qI_sL]; rfl
    rw [mbeg_7 t n, e, sL_at]
    by_cases h1 : 16 * t + (c + 1) ≤ j ∧ j < 16 * t + (c + 1) + n
    · rw [if_pos h1, if_pos (by omega)]
    · rw [if_neg h1]
      by_cases h2 : j = 16 * t + c
      · rw [h2, up_eq, if_pos (by omega), show 16 * t + c - 16 * t = c by omega]
      · rw [up_ne _ _ h2, if_neg (by omega)]; rfl
theorem mdown_I (a : Nat) : ∀ n c μ, qI (mdown a n c μ) = qI μ
  | 0, _, _ => rfl
  | n + 1, c, μ => by
    show qI (mdown a n (c + 1) _) = _
    rw [mdown_I a n]
    split <;> rfl
theorem mdown_K (a : Nat) : ∀ n c μ, qK (mdown a n c μ) = qK μ
  | 0, _, _ => rfl
  | n + 1, c, μ => by
    show qK (mdown a n (c + 1) _) = _
    rw [mdown_K a n]
    split <;> rfl
theorem mdown_X (a : Nat) : ∀ n c μ, qX (mdown a n c μ) = qX μ
  | 0, _, _ => rfl
  | n + 1, c, μ => by
    show qX (mdown a n (c + 1) _) = _
    rw [mdown_X a n]
    split <;> rfl
theorem mdown_Z (a : Nat) {k : Nat} (hk : k ≠ 3) : ∀ n c μ, qZ (mdown a n c μ) k = qZ μ k
  | 0, _, _ => rfl
  | n + 1, c, μ => by
    show qZ (mdown a n (c + 1) _) k = _
    rw [mdown_Z a hk n]
    split
    · rw [qZ_sL, sZ_ne hk]
    · rfl
theorem mdown_L (a : Nat) {k : Nat} (hk : k ≠ 8) : ∀ n c μ, qL (mdown a n c μ) k = qL μ k
  | 0, _, _ => rfl
  | n + 1, c, μ => by
    show qL (mdown a n (c + 1) _) k = _
    rw [mdown_L a hk n]
    split
    · rw [sL_ne hk, qL_sZ]
    · rfl
theorem mdown_miss {a : Nat} (ha : 16 ≤ a) : ∀ n c μ j, c + n ≤ 16 → ¬ (a - 16 + c ≤ j ∧ j < a - 16 + c + n ∧ qZ μ 3 (j + 16) = true) → qZ (mdown a n c μ) 3 j = qZ μ 3 j ∧ qL (mdown a n c μ) 8 j = qL μ 8 j
  | 0, c, μ, j, _, _ => ⟨rfl, rfl⟩
  | n + 1, c, μ, j, hn, hm => by
    show qZ (mdown a n (c + 1) _) 3 j = _ ∧ qL (mdown a n (c + 1) _) 8 j = _
    by_cases hz : qZ μ 3 (a + c) = true
    · have hj : j ≠ a + c - 16 := by
        intro e
        apply hm
        rw [e, show a + c - 16 + 16 = a + c by omega]
        exact ⟨by omega, by omega, hz⟩
      rw [if_pos hz]
      have ih := mdown_miss ha n (c + 1) (sL (sZ μ 3 (a + c - 16) true) 8 (a + c - 16) (qL μ 8 (a + c))) j (by omega) (fun q => by
        have q3 := q.2.2
        rw [qZ_sL, sZ_at, up_ne _ _ (show j + 16 ≠ a + c - 16 by omega)] at q3
        exact hm ⟨by omega, by omega, q3⟩)
      rw [ih.1, ih.2, qZ_sL, sZ_at, sL_at, up_ne _ _ hj, up_ne _ _ hj]
      exact ⟨rfl, rfl⟩
    · rw [if_neg hz]
      exact mdown_miss ha n (c + 1) μ j (by omega) (fun q => hm ⟨by omega, by omega, q.2.2⟩)
theorem mdown_hit {a : Nat} (ha : 16 ≤ a) : ∀ n c μ j, c + n ≤ 16 → a - 16 + c ≤ j → j < a - 16 + c + n → qZ μ 3 (j + 16) = true → qZ (mdown a n c μ) 3 j = true ∧ qL (mdown a n c μ) 8 j = qL μ 8 (j + 16)
  | 0, c, μ, j, _, h1, h2, _ => absurd h2 (by omega)
  | n + 1, c, μ, j, hn, h1, h2, h3 => by
    show qZ (mdown a n (c + 1) _) 3 j = _ ∧ qL (mdown a n (c + 1) _) 8 j = _
    by_cases hj : j = a + c - 16
    · have e : j + 16 = a + c := by omega
      rw [e] at h3
      rw [if_pos h3]
      have ih := mdown_miss ha n (c + 1) (sL (sZ μ 3 (a + c - 16) true) 8 (a + c - 16) (qL μ 8 (a + c))) j (by omega) (fun q => by omega)
      rw [ih.1, ih.2, qZ_sL, sZ_at, sL_at, hj, up_eq, up_eq, show a + c - 16 + 16 = a + c by omega]
      exact ⟨rfl, rfl⟩
    · by_cases hz : qZ μ 3 (a + c) = true
      · rw [if_pos hz]
        have ih := mdown_hit ha n (c + 1) (sL (sZ μ 3 (a + c - 16) true) 8 (a + c - 16) (qL μ 8 (a + c))) j (by omega) (by omega) (by omega) (by rw [qZ_sL, sZ_at, up_ne _ _ (show j + 16 ≠ a + c - 16 by omega)]; exact h3)
        rw [ih.1, ih.2, sL_at, up_ne _ _ (show j + 16 ≠ a + c - 16 by omega)]
        exact ⟨rfl, rfl⟩
      · rw [if_neg hz]
        exact mdown_hit ha n (c + 1) μ j (by omega) (by omega) (by omega) h3
