/-! Each operation on both sides, from one state to the next -/
def LJ (b sc len : Nat) (S : Nat → Int32) (σ : vS) (μ : qS) (f : Nat → Int64) (h : xH) : Prop :=
  VP b σ h ∧ QP (b + 182) h μ h ∧ h.1 (b + 195) = some (vL 1 f) ∧ h.1 sc = some (vI len S) ∧ sc < b ∧ INV σ μ
def HF (b : Nat) (h h1 : xH) (f' : Nat → Int64) : Prop := (∀ q, q < b ∨ b + 182 ≤ q → q ≠ b + 195 → h1.1 q = h.1 q) ∧ h1.1 (b + 195) = some (vL 1 f') ∧ h1.2.1 ≤ h.2.1 + 1 ∧ h1.2.2 ≤ h.2.2 + 6
theorem HF.ok {b : Nat} {h h1 : xH} {f : Nat → Int64} (V : VF b h h1) (g : Nat → Int64) : HF b h (xset h1 (b + 195) (vL 1 g)) g :=
  ⟨fun q hq hn => by rw [xset_ne _ _ hn]; exact V.1 q hq, xset_eq _ _ _, by rw [xset_sz, V.2.1]; omega, by rw [xset_us, V.2.2]; omega⟩
theorem HF.same {b : Nat} {h h1 : xH} {f : Nat → Int64} (V : VF b h h1) (ho : h.1 (b + 195) = some (vL 1 f)) : HF b h h1 f :=
  ⟨fun q hq _ => V.1 q hq, by rw [V.1 _ (by omega)]; exact ho, by rw [V.2.1]; omega, by rw [V.2.2]; omega⟩
theorem HF.thr {b : Nat} {h : xH} {f : Nat → Int64} (ho : h.1 (b + 195) = some (vL 1 f)) : HF b h (xthr h) f :=
  ⟨fun _ _ _ => rfl, ho, Nat.le_refl _, Nat.le_refl _⟩
theorem VP.like {b : Nat} {σ : vS} {h h2 : xH} (H : VP b σ h) (e : ∀ q, b ≤ q → q < b + 182 → h2.1 q = h.1 q) : VP b σ h2 := by
  obtain ⟨h1, h2', h3, h4, h5, h6, h7, h8, h9, h10⟩ := H
  refine ⟨?_, ?_, fun u hu => ?_, fun u hu => ?_, fun u hu => ?_, fun u l hu hl => ?_, ?_, ?_, ?_, ?_⟩
  · rw [e _ (by omega) (by omega)]; exact h1
  · rw [e _ (by omega) (by omega)]; exact h2'
  · rw [e _ (by omega) (by omega)]; exact h3 u hu
  · rw [e _ (by omega) (by omega)]; exact h4 u hu
  · rw [e _ (by omega) (by omega)]; exact h5 u hu
  · rw [e _ (by omega) (by omega)]; exact h6 u l hu hl
  · rw [e _ (by omega) (by omega)]; exact h7
  · rw [e _ (by omega) (by omega)]; exact h8
  · rw [e _ (by omega) (by omega)]; exact h9
  · rw [e _ (by omega) (by omega)]; exact h10
theorem QP.like {m : Nat} {μ : qS} {h0 h h2 : xH} (H : QP m h0 μ h) (e : ∀ q, m ≤ q → q < m + 13 → h2.1 q = h.1 q) : QP m h2 μ h2 :=
  ⟨(e _ (by omega) (by omega)).trans H.1, ⟨(e _ (by omega) (by omega)).trans H.a1, (e _ (by omega) (by omega)).trans H.a2, (e _ (by omega) (by omega)).trans H.a3, (e _ (by omega) (by omega)).trans H.a4, (e _ (by omega) (by omega)).trans H.a5, (e _ (by omega) (by omega)).trans H.a6, (e _ (by omega) (by omega)).trans H.a7, (e _ (by omega) (by omega)).trans H.a8, (e _ (by omega) (by omega)).trans H.a9, (e _ (by omega) (by omega)).trans H.a10, (e _ (by omega) (by omega)).trans H.a11, (e _ (by omega) (by omega)).trans H.a12⟩, fun _ _ => rfl, rfl, rfl⟩
section
variable {E : xE} {d b sc len : Nat} {S : Nat → Int32} {σ σ' : vS} {μ μ' : qS} {f f' : Nat → Int64} {h h1 h2 : xH}
theorem LJ.q (L : LJ b sc len S σ μ f h) (F : HF b h h1 f') : QP (b + 182) h1 μ h1 := L.2.1.like (fun q g1 g2 => F.1 q (by omega) (by omega))
theorem LJ.out (L : LJ b sc len S σ μ f h) (F : VF b h h1) : h1.1 (b + 195) = some (vL 1 f) := by rw [F.1 _ (by omega)]; exact L.2.2.1
theorem LJ.mk (L : LJ b sc len S σ μ f h) (F : HF b h h1 f') (V : VP b σ' h1) (Q : QP (b + 182) h1 μ' h2) (I : INV σ' μ') : LJ b sc len S σ' μ' f' h2 ∧ h2.2.1 ≤ h.2.1 + 1 ∧ h2.2.2 ≤ h.2.2 + 6 ∧ h1.1 sc = some (vI len S) := by
  have hsc : h1.1 sc = some (vI len S) := by rw [F.1 sc (Or.inl L.2.2.2.2.1) (by have := L.2.2.2.2.1; omega)]; exact L.2.2.2.1
  refine ⟨⟨V.like (fun q g1 g2 => Q.2.2.1 q (by omega)), Q.rf, ?_, ?_, L.2.2.2.2.1, I⟩, ?_, ?_, hsc⟩
  · rw [Q.2.2.1 _ (by omega)]; exact F.2.1
  · rw [Q.2.2.1 _ (by have := L.2.2.2.2.1; omega)]; exact hsc
  · rw [Q.2.2.2.1]; exact F.2.2.1
  · rw [Q.2.2.2.2]; exact F.2.2.2
/-- a call on each side: the number of the exception, the answers, the next state -/
def JI {α : Type} (E : xE) (d b sc len : Nat) (S : Nat → Int32) (σ : vS) (h : xH) (NA : xM) (lvA : xL) (NB : xM) (lvB : xL) (val : α → Value) (cmp : α → Int64) : Prop :=
  ∃ (k : Nat) (v : α) (σ' : vS) (μ' : qS) (f' : Nat → Int64) (h1 h2 : xH), xG E (d + 5) NA 0 lvA [] false h (true, .inl (some (.int (nI k))), h1) ∧ xG E (d + 5) NB 0 lvB [] false h1 (true, .inl (some (val v)), h2) ∧
    LJ b sc len S σ' μ' f' h2 ∧ qX μ' = k ∧ k < 3 ∧ (k = 0 → f' 0 = cmp v) ∧ sK σ' ≤ sK σ + 1 ∧ h2.2.1 ≤ h.2.1 + 1 ∧ h2.2.2 ≤ h.2.2 + 6 ∧ h1.1 sc = some (vI len S) ∧ (∃ x y, h1.1 (b + 182) = some (qC (b + 182) x y)) ∧ (∃ x y, h2.1 (b + 182) = some (qC (b + 182) x y))
theorem JI.thr {α : Type} {NA NB : xM} {lvA lvB : xL} {val : α → Value} {cmp : α → Int64} {v : α} (L : LJ b sc len S σ μ f h) {k : Nat} (hk : k < 3) (hk0 : k ≠ 0) (A : xG E (d + 5) NA 0 lvA [] false h (true, .inl (some (.int (nI k))), xthr h)) (B : ∀ h1, QP (b + 182) h1 μ h1 → ∃ h2, xG E (d + 5) NB 0 lvB [] false h1 (true, .inl (some (val v)), h2) ∧ QP (b + 182) h1 μ' h2) (hx : qX μ' = k) (I : INV σ μ') : JI E d b sc len S σ h NA lvA NB lvB val cmp := by
  have F := HF.thr (b := b) (h := h) L.2.2.1
  have Q := L.q F
  obtain ⟨h2, B1, B2⟩ := B (xthr h) Q
  obtain ⟨M1, M2, M3, M4⟩ := L.mk F (L.1.thr) B2 I
  exact ⟨k, v, σ, μ', f, xthr h, h2, A, B1, M1, hx, hk, fun q => absurd q hk0, Nat.le_succ _, M2, M3, M4, ⟨_, _, Q.1⟩, ⟨_, _, B2.1⟩⟩
theorem JI.ok {α : Type} {NA NB : xM} {lvA lvB : xL} {val : α → Value} {cmp : α → Int64} (v : α) (L : LJ b sc len S σ μ f h) (V : VP b σ' h1) (G : VF b h h1) (A : xG E (d + 5) NA 0 lvA [] false h (true, .inl (some (.int (nI 0))), xset h1 (b + 195) (vL 1 (va_up f 0 (cmp v))))) (B : ∀ h1, QP (b + 182) h1 μ h1 → ∃ h2, xG E (d + 5) NB 0 lvB [] false h1 (true, .inl (some (val v)), h2) ∧ QP (b + 182) h1 μ' h2) (hx : qX μ' = 0) (I : INV σ' μ') (hK : sK σ' ≤ sK σ + 1) : JI E d b sc len S σ h NA lvA NB lvB val cmp := by
  have F := HF.ok (f := f) G (va_up f 0 (cmp v))
  have Q := L.q F
  obtain ⟨h2, B1, B2⟩ := B _ Q
  obtain ⟨M1, M2, M3, M4⟩ := L.mk F (V.like (fun q g1 g2 => xset_ne _ _ (by omega))) B2 I
  exact ⟨0, v, σ', μ', _, _, h2, A, B1, M1, hx, by decide, fun _ => up_eq _ _ _, hK, M2, M3, M4, ⟨_, _, Q.1⟩, ⟨_, _, B2.1⟩⟩
theorem lnoF_le (T : Nat → vQ) : ∀ n t, lnoF T n t ≤ t + n
  | 0, _ => Nat.le_refl _
  | n + 1, t => by
    unfold lnoF
    split
    · have := lnoF_le T n (t + 1); omega
    · omega
theorem qX_begin (μ : qS) (t k : Nat) : qX (qBegin μ t k) = 0 := by unfold qBegin; rw [mbeg_X, mclr_X]; rfl
theorem qX_push (μ : qS) (t : Nat) : qX (qPush μ t) = 0 := by unfold qPush; rw [qX_sI, mclr_X]; rfl
theorem mcom_X (t : Nat) : ∀ n c μ, qX (mcom t n c μ) = qX μ
  | 0, _, _ => rfl
  | n + 1, c, μ => by
    show qX (mcom t n (c + 1) _) = _
    rw [mcom_X t n]
    split <;> rfl
/-- a number of an open transaction, or none -/
theorem op_em (σ : vS) (p : Int32) : bad σ p ∨ ∃ t, t < 16 ∧ p = nI t ∧ (sT σ t).1 = true := by
  cases Classical.em (∃ t, t < 16 ∧ p = nI t ∧ (sT σ t).1 = true) with
  | inl h => exact Or.inr h
  | inr h =>
    refine Or.inl (fun j hj e => ?_)
    cases hb : (sT σ j).1
    · rfl
    · exact absurd ⟨j, hj, e, hb⟩ h
theorem ce_em (p : Int32) : badc p ∨ ∃ c, c < 16 ∧ p = nI c := by
  rcases pk_ix p (n := 16) (by decide) with h | h | h
  · exact Or.inl (Or.inl h)
  · exact Or.inl (Or.inr h)
  · exact Or.inr h
theorem J_begin (hb : E.2.2.1 ≤ b) (L : LJ b sc len S σ μ f h) (p : Int32) : JI E d b sc len S σ h mL_begin [(0, .ref b), (1, .int p), (2, .ref (b + 195))] mM_begin [(0, .ref (b + 182)), (1, .int p)] Value.int Int32.toInt64 := by
  have I := L.2.2.2.2.2
  rcases pk_ix p (n := 2) (by decide) with hp | hp | ⟨k, hk, rfl⟩
  · exact JI.thr (v := nI 0) L (k := 1) (by decide) (by decide) (l_begin_IAE L.1.1 (d_begin_bad (fun e => by rw [e] at hp; exact absurd hp (by decide)) (fun e => by rw [e] at hp; exact absurd hp (by decide)))) (fun h1 Q => m_begin_bad (d := d + 4) (by omega) Q (Or.inl hp)) rfl ((I.x 0).x 1)
  · have h1p : nI 1 < p := Int32.lt_of_lt_of_le (nI_lt (by decide) (by decide)) hp
    exact JI.thr (v := nI 0) L (k := 1) (by decide) (by decide) (l_begin_IAE L.1.1 (d_begin_bad (fun e => by rw [e] at hp; exact absurd hp (by decide)) (fun e => by rw [e] at hp; exact absurd hp (by decide)))) (fun h1 Q => m_begin_bad (d := d + 4) (by omega) Q (Or.inr h1p)) rfl ((I.x 0).x 1)
  · have hle := lnoF_le (sT σ) 16 0
    by_cases hf : lnoF (sT σ) 16 0 = 16
    · exact JI.thr (v := nI 0) L (k := 2) (by decide) (by decide) (l_begin_ISE L.1.1 (d_begin_full L.1 hk hf)) (fun h1 Q => m_begin_full (d := d + 4) hk (by omega) Q ((I.lno 16 0 rfl).trans hf)) rfl ((I.x 0).x 2)
    · obtain ⟨h1, G1, V1, F1⟩ := d_begin_ok (d := d) hb L.1 hk rfl (show lnoF (sT σ) 16 0 < 16 by omega)
      exact JI.ok (nI (lnoF (sT σ) 16 0)) L V1 F1 (l_begin_ok (by omega) L.1.1 G1 (L.out F1)) (fun h1 Q => m_begin_ok (d := d + 4) hk (by omega) Q (I.lno 16 0 rfl) (by omega) (fun c hc => ⟨I.ver1 hc, by have := I.ver5 hc; omega⟩)) (qX_begin _ _ _) (I.begin (by omega) hk) (Nat.le_succ _)
theorem J_read (hb : E.2.2.1 ≤ b) (L : LJ b sc len S σ μ f h) (p q : Int32) : JI E d b sc len S σ h mL_read [(0, .ref b), (1, .int p), (2, .int q), (3, .ref (b + 195))] mM_read [(0, .ref (b + 182)), (1, .int p), (2, .int q)] Value.long id := by
  have I := L.2.2.2.2.2
  rcases op_em σ p with hp | ⟨t, ht, rfl, ho⟩
  · exact JI.thr (v := 0) L (k := 1) (by decide) (by decide) (l_read_NSE L.1.1 (d_read_bad L.1 hp)) (fun h1 Q => m_read_bad (d := d + 3) (by omega) Q (I.badE hp)) rfl (I.x 1)
  rcases ce_em q with hq | ⟨c, hc, rfl⟩
  · exact JI.thr (v := 0) L (k := 1) (by decide) (by decide) (l_read_NSE L.1.1 (d_read_badc L.1 ht ho hq)) (fun h1 Q => m_read_badc (d := d + 3) (by omega) Q ht (I.opn ht ho) hq) rfl ((I.x 0).x 1)
  by_cases hw : hiW (sW σ t) c (sT σ t).2.2.2.1 = 0
  · obtain ⟨h1, G1, V1, F1⟩ := d_read_see (d := d) hb L.1 I.1 ht ho hc hw
    exact JI.ok (rdV σ t c) L V1 F1 (l_read_ok (by omega) L.1.1 G1 (L.out F1)) (fun h1 Q => by rw [← I.rd ht ho hc]; exact m_read_see (d := d + 3) (by omega) Q ht (I.opn ht ho) hc (I.lay ht ho).2 ((I.lo ht ho hc).trans hw)) rfl (I.see ht ho hc) (Nat.le_succ _)
  · have G1 := d_read_saw (E := E) (d := d) L.1 I.1 ht ho hc hw
    exact JI.ok (rdV σ t c) L L.1 (VF.rf b h) (l_read_ok (by omega) L.1.1 G1 L.2.2.1) (fun h1 Q => by rw [← I.rd ht ho hc]; exact m_read_saw (d := d + 3) (by omega) Q ht (I.opn ht ho) hc (I.lay ht ho).2 (fun z => hw ((I.lo ht ho hc).symm.trans z))) rfl (I.x 0) (Nat.le_succ _)
theorem J_write (hb : E.2.2.1 ≤ b) (L : LJ b sc len S σ μ f h) (p q : Int32) (v : Int64) : JI E d b sc len S σ h mL_write [(0, .ref b), (1, .int p), (2, .int q), (3, .long v), (5, .ref (b + 195))] mM_write [(0, .ref (b + 182)), (1, .int p), (2, .int q), (3, .long v)] Value.long id := by
  have I := L.2.2.2.2.2
  rcases op_em σ p with hp | ⟨t, ht, rfl, ho⟩
  · exact JI.thr (v := 0) L (k := 1) (by decide) (by decide) (l_write_NSE L.1.1 (d_write_bad L.1 hp)) (fun h1 Q => m_write_bad (d := d + 3) (by omega) Q (I.badE hp)) rfl (I.x 1)
  rcases ce_em q with hq | ⟨c, hc, rfl⟩
  · exact JI.thr (v := 0) L (k := 1) (by decide) (by decide) (l_write_NSE L.1.1 (d_write_badc L.1 ht ho hq)) (fun h1 Q => m_write_badc (d := d + 3) (by omega) Q ht (I.opn ht ho) hq) rfl ((I.x 0).x 1)
  obtain ⟨h1, G1, V1, F1⟩ := d_write_ok (d := d) (v := v) hb L.1 I.1 ht ho hc
  exact JI.ok (rdV σ t c) L V1 F1 (l_write_ok (by omega) L.1.1 G1 (L.out F1)) (fun h1 Q => by rw [← I.rd ht ho hc]; exact m_write_ok (d := d + 3) (by omega) Q ht (I.opn ht ho) hc (I.lay ht ho).2 (I.lay ht ho).1) rfl (I.put ht ho hc v) (Nat.le_succ _)
theorem J_push (hb : E.2.2.1 ≤ b) (L : LJ b sc len S σ μ f h) (p : Int32) : JI E d b sc len S σ h mL_push [(0, .ref b), (1, .int p), (2, .ref (b + 195))] mM_push [(0, .ref (b + 182)), (1, .int p)] Value.int Int32.toInt64 := by
  have I := L.2.2.2.2.2
  rcases op_em σ p with hp | ⟨t, ht, rfl, ho⟩
  · exact JI.thr (v := nI 0) L (k := 1) (by decide) (by decide) (l_push_NSE L.1.1 (d_push_bad L.1 hp)) (fun h1 Q => m_push_bad (d := d + 3) (by omega) Q (I.badE hp)) rfl (I.x 1)
  have hl := (I.1.2.1 t ht).2.2
  have e6 : qI μ 6 t = (sT σ t).2.2.2.1 := (I.T ht ho).2.2.1
  by_cases h8 : (sT σ t).2.2.2.1 = 8
  · exact JI.thr (v := nI 0) L (k := 2) (by decide) (by decide) (l_push_ISE L.1.1 (d_push_full L.1 ht ho h8)) (fun h1 Q => m_push_full (d := d + 3) (by omega) Q ht (I.opn ht ho) (e6.trans h8)) rfl ((I.x 0).x 2)
  · obtain ⟨h1, G1, V1, F1⟩ := d_push_ok (d := d) hb L.1 ht ho (by omega)
    exact JI.ok (nI ((sT σ t).2.2.2.1 + 1)) L V1 F1 (l_push_ok (by omega) L.1.1 G1 (L.out F1)) (fun h1 Q => by rw [← e6]; exact m_push_ok (d := d + 3) (by omega) Q ht (I.opn ht ho) (by omega)) (qX_push _ _) (I.push ht ho (by omega)) (Nat.le_succ _)
theorem J_pop (hb : E.2.2.1 ≤ b) (L : LJ b sc len S σ μ f h) (p kp : Int32) : JI E d b sc len S σ h mL_pop [(0, .ref b), (1, .int p), (2, .int kp), (3, .ref (b + 195))] mM_pop [(0, .ref (b + 182)), (1, .int p), (2, .int kp)] Value.int Int32.toInt64 := by
  have I := L.2.2.2.2.2
  rcases op_em σ p with hp | ⟨t, ht, rfl, ho⟩
  · exact JI.thr (v := nI 0) L (k := 1) (by decide) (by decide) (l_pop_NSE L.1.1 (d_pop_bad L.1 hp)) (fun h1 Q => m_pop_bad (d := d + 3) (by omega) Q (I.badE hp)) rfl (I.x 1)
  have hl := (I.1.2.1 t ht).2.2
  have e6 : qI μ 6 t = (sT σ t).2.2.2.1 := (I.T ht ho).2.2.1
  by_cases h1 : (sT σ t).2.2.2.1 = 1
  · exact JI.thr (v := nI 0) L (k := 2) (by decide) (by decide) (l_pop_ISE L.1.1 (d_pop_one L.1 ht ho h1)) (fun h1' Q => m_pop_one (d := d + 3) (by omega) Q ht (I.opn ht ho) (e6.trans h1)) rfl ((I.x 0).x 2)
  obtain ⟨m, hm⟩ : ∃ m, (sT σ t).2.2.2.1 = m + 2 := ⟨(sT σ t).2.2.2.1 - 2, by omega⟩
  by_cases hk : kp = 0
  · subst hk
    obtain ⟨h1, G1, V1, F1⟩ := d_pop_give (d := d) hb L.1 ht ho hm (by omega)
    exact JI.ok (nI (m + 1)) L V1 F1 (l_pop_ok (by omega) L.1.1 G1 (L.out F1)) (fun h1 Q => m_pop_give (d := d + 3) (by omega) Q ht (I.opn ht ho) (e6.trans hm) (by omega) (by omega)) rfl (I.pop ht ho hm (by omega)) (Nat.le_succ _)
  · obtain ⟨h1, G1, V1, F1⟩ := d_pop_keep (d := d) hk hb L.1 ht ho hm (by omega)
    exact JI.ok (nI (m + 1)) L V1 F1 (l_pop_ok (by omega) L.1.1 G1 (L.out F1)) (fun h1 Q => m_pop_keep (d := d + 3) hk (by omega) Q ht (I.opn ht ho) (e6.trans hm) (by omega) (by omega)) (by rw [mdown_X]; rfl) (I.popk ht ho hm) (Nat.le_succ _)
theorem J_commit (hb : E.2.2.1 ≤ b) (L : LJ b sc len S σ μ f h) (hK : sK σ < 100000) (p : Int32) : JI E d b sc len S σ h mL_commit [(0, .ref b), (1, .int p), (2, .ref (b + 195))] mM_commit [(0, .ref (b + 182)), (1, .int p)] Value.int Int32.toInt64 := by
  have I := L.2.2.2.2.2
  rcases op_em σ p with hp | ⟨t, ht, rfl, ho⟩
  · exact JI.thr (v := nI 0) L (k := 1) (by decide) (by decide) (l_commit_NSE L.1.1 (d_commit_bad L.1 hp)) (fun h1 Q => m_commit_bad (d := d + 2) (by omega) Q (I.badE hp)) rfl (I.x 1)
  by_cases hs : spV σ t = 0
  · have hs' := (I.sp0 ht ho).mpr hs
    by_cases hf : sN σ + pcn (wrV σ t) 16 ≤ 500
    · have hf' : sumN (qI μ 9) 16 + mwr μ t ≤ 500 := by rw [I.sum, I.wrn ht ho]; exact hf
      by_cases hw : wrV σ t = 0
      · obtain ⟨h1, G1, V1, F1⟩ := d_commit_idle (d := d) hb L.1 I.1 ht ho hs hf hw
        exact JI.ok (nI (sK σ)) L V1 F1 (l_commit_ok (by omega) L.1.1 G1 (L.out F1)) (fun h1 Q => by rw [← I.K]; exact m_commit_idle (d := d + 2) (by omega) Q ht (I.opn ht ho) (I.lay ht ho).2 (I.st ht ho) (I.kd ht ho) I.la hs' hf' ((I.wr0 ht ho).mpr hw)) rfl (I.shut ht) (Nat.le_succ _)
      · obtain ⟨h1, G1, V1, F1⟩ := d_commit_ok (d := d) hb L.1 I.1 hK ht ho hs hf hw
        exact JI.ok (nI (sK σ + 1)) L V1 F1 (l_commit_ok (by omega) L.1.1 G1 (L.out F1)) (fun h1 Q => by rw [← I.K]; exact m_commit_ok (d := d + 2) (by omega) Q ht (I.opn ht ho) (I.lay ht ho).2 (I.st ht ho) (I.kd ht ho) I.la hs' hf' (fun z => hw ((I.wr0 ht ho).mp z)) (fun c hc => by have := I.ver5 hc; omega)) (by unfold qCommit; rw [mcom_X]; rfl) (I.commit hK ht ho hf) (Nat.le_refl _)
    · exact JI.thr (v := nI 0) L (k := 2) (by decide) (by decide) (l_commit_ISE L.1.1 (d_commit_full L.1 I.1 ht ho hs hf)) (fun h1 Q => m_commit_full (d := d + 2) (by omega) Q ht (I.opn ht ho) (I.lay ht ho).2 (I.st ht ho) (I.kd ht ho) I.la hs' (by rw [I.sum]; have := I.1.2.2.1; omega) (by rw [I.sum, I.wrn ht ho]; exact hf)) rfl ((I.x 0).x 2)
  · obtain ⟨h1, G1, V1, F1⟩ := d_commit_sp (d := d) hb L.1 I.1 ht ho hs
    exact JI.ok (-1) L V1 F1 (l_commit_ok (by omega) L.1.1 G1 (L.out F1)) (fun h1 Q => m_commit_sp (d := d + 2) (by omega) Q ht (I.opn ht ho) (I.lay ht ho).2 (I.st ht ho) (I.kd ht ho) I.la (fun z => hs ((I.sp0 ht ho).mp z))) rfl (I.shut ht) (Nat.le_succ _)
theorem J_drop (hb : E.2.2.1 ≤ b) (L : LJ b sc len S σ μ f h) (p : Int32) : JI E d b sc len S σ h mL_drop [(0, .ref b), (1, .int p), (2, .ref (b + 195))] mM_drop [(0, .ref (b + 182)), (1, .int p)] Value.int Int32.toInt64 := by
  have I := L.2.2.2.2.2
  rcases op_em σ p with hp | ⟨t, ht, rfl, ho⟩
  · exact JI.thr (v := nI 0) L (k := 1) (by decide) (by decide) (l_drop_NSE L.1.1 (d_drop_bad L.1 hp)) (fun h1 Q => m_drop_bad (d := d + 3) (by omega) Q (I.badE hp)) rfl (I.x 1)
  obtain ⟨h1, G1, V1, F1⟩ := d_drop_ok (d := d) hb L.1 I.1 ht ho
  exact JI.ok (nI (pcn (wrV σ t) 16)) L V1 F1 (l_drop_ok (by omega) L.1.1 G1 (L.out F1)) (fun h1 Q => by rw [← I.wrn ht ho]; exact m_drop_ok (d := d + 3) (by omega) Q ht (I.opn ht ho) (I.lay ht ho).2) rfl (I.shut ht) (Nat.le_succ _)
theorem J_spoiled (hb : E.2.2.1 ≤ b) (L : LJ b sc len S σ μ f h) (p : Int32) : JI E d b sc len S σ h mL_spoiled [(0, .ref b), (1, .int p), (2, .ref (b + 195))] mM_spoiled [(0, .ref (b + 182)), (1, .int p)] (fun v : Bool => .int (xb v)) (fun v : Bool => if v = true then 1 else 0) := by
  have I := L.2.2.2.2.2
  rcases op_em σ p with hp | ⟨t, ht, rfl, ho⟩
  · exact JI.thr (v := false) L (k := 1) (by decide) (by decide) (l_spoiled_NSE L.1.1 (d_spoiled_bad L.1 hp)) (fun h1 Q => m_spoiled_bad (d := d + 2) (by omega) Q (I.badE hp)) rfl (I.x 1)
  have G1 := d_spoiled_ok (E := E) (d := d) L.1 I.1 ht ho
  have e : decide (spV σ t ≠ 0) = decide (msc μ t ≠ 0) := by
    by_cases hs : spV σ t = 0
    · rw [decide_eq_false (fun q => q hs), decide_eq_false (fun q => q ((I.sp0 ht ho).mpr hs))]
    · rw [decide_eq_true hs, decide_eq_true (show msc μ t ≠ 0 from fun q => hs ((I.sp0 ht ho).mp q))]
  rw [e] at G1
  exact JI.ok (decide (msc μ t ≠ 0)) L L.1 (VF.rf b h) (l_spoiled_ok (by omega) L.1.1 G1 L.2.2.1) (fun h1 Q => m_spoiled_ok (d := d + 2) (by omega) Q ht (I.opn ht ho) (I.lay ht ho).2 (I.st ht ho) (I.kd ht ho) I.la) rfl (I.x 0) (Nat.le_succ _)
theorem J_meets (hb : E.2.2.1 ≤ b) (L : LJ b sc len S σ μ f h) (p q : Int32) : JI E d b sc len S σ h mL_meets [(0, .ref b), (1, .int p), (2, .int q), (3, .ref (b + 195))] mM_meets [(0, .ref (b + 182)), (1, .int p), (2, .int q)] (fun v : Bool => .int (xb v)) (fun v : Bool => if v = true then 1 else 0) := by
  have I := L.2.2.2.2.2
  rcases op_em σ p with hp | ⟨s, hs, rfl, hso⟩
  · exact JI.thr (v := false) L (k := 1) (by decide) (by decide) (l_meets_NSE L.1.1 (d_meets_bad1 L.1 hp)) (fun h1 Q => m_meets_bad1 (d := d + 2) (by omega) Q (I.badE hp)) rfl (I.x 1)
  rcases op_em σ q with hq | ⟨t, ht, rfl, ho⟩
  · exact JI.thr (v := false) L (k := 1) (by decide) (by decide) (l_meets_NSE L.1.1 (d_meets_bad2 L.1 hs hso hq)) (fun h1 Q => m_meets_bad2 (d := d + 2) (by omega) Q hs (I.opn hs hso) (I.badE hq)) rfl ((I.x 0).x 1)
  by_cases e : s = t
  · subst e
    exact JI.ok false L L.1 (VF.rf b h) (l_meets_ok (by omega) L.1.1 (d_meets_same L.1 hs hso) L.2.2.1) (fun h1 Q => m_meets_same (d := d + 2) (by omega) Q hs (I.opn hs hso)) rfl ((I.x 0).x 0) (Nat.le_succ _)
  · have G1 := d_meets_ok (E := E) (d := d) L.1 I.1 hs hso ht ho e
    rw [← I.me hs hso ht ho] at G1
    exact JI.ok (anyF (mme μ s t) 16 0) L L.1 (VF.rf b h) (l_meets_ok (by omega) L.1.1 G1 L.2.2.1) (fun h1 Q => m_meets_ok (d := d + 2) (by omega) Q hs (I.opn hs hso) ht (I.opn ht ho) e (I.lay hs hso).2 (I.lay ht ho).2 (I.st ht ho) (I.kd ht ho) I.la) rfl ((I.x 0).x 0) (Nat.le_succ _)
theorem J_past (hb : E.2.2.1 ≤ b) (L : LJ b sc len S σ μ f h) (p q : Int32) : JI E d b sc len S σ h mL_past [(0, .ref b), (1, .int p), (2, .int q), (3, .ref (b + 195))] mM_past [(0, .ref (b + 182)), (1, .int p), (2, .int q)] Value.long id := by
  have I := L.2.2.2.2.2
  have hclk := I.clk
  rcases ce_em p with hp | ⟨c, hc, rfl⟩
  · exact JI.thr (v := 0) L (k := 1) (by decide) (by decide) (l_past_NSE L.1.1 (d_past_badc hp)) (fun h1 Q => m_past_bad (d := d + 5) (by omega) Q (Or.inl hp)) rfl (I.x 1)
  rcases pk_ix q (n := sK σ + 1) (by omega) with hq | hq | ⟨k, hk, rfl⟩
  · exact JI.thr (v := 0) L (k := 1) (by decide) (by decide) (l_past_NSE L.1.1 (d_past_badk L.1 hc (Or.inl hq))) (fun h1 Q => m_past_bad (d := d + 5) (by omega) Q (Or.inr ⟨c, hc, rfl, Or.inl hq⟩)) rfl (I.x 1)
  · have hq2 : nI (sK σ) < q := Int32.lt_of_lt_of_le (nI_lt (Nat.lt_succ_self _) (by omega)) hq
    exact JI.thr (v := 0) L (k := 1) (by decide) (by decide) (l_past_NSE L.1.1 (d_past_badk L.1 hc (Or.inr hq2))) (fun h1 Q => m_past_bad (d := d + 5) (by omega) Q (Or.inr ⟨c, hc, rfl, Or.inr (Or.inl (by rw [I.K]; exact hq2))⟩)) rfl (I.x 1)
  · by_cases hv : qI μ 10 (520 * c) ≤ k
    · obtain ⟨e1, e2⟩ := (I.pastE (k := k) hc).2 hv
      have G1 := d_past_ok (E := E) (d := d) L.1 I.1 hc (show k ≤ sK σ by omega) e1
      rw [e2] at G1
      exact JI.ok (qL μ 12 (520 * c + mpv (fun v => qI μ 10 (520 * c + v)) k (qI μ 9 c - 1) 0)) L L.1 (VF.rf b h) (l_past_ok (by omega) L.1.1 G1 L.2.2.1) (fun h1 Q => m_past_ok (d := d + 5) (by omega) Q hc (by rw [I.K]; omega) (by rw [I.K]; omega) (I.ver1 hc) (I.ver5 hc) (fun v _ => I.at _) hv) rfl (I.x 0) (Nat.le_succ _)
    · have hv' := (I.pastE (k := k) hc).1 (by omega)
      exact JI.thr (v := 0) L (k := 1) (by decide) (by decide) (l_past_NSE L.1.1 (d_past_none L.1 I.1 hc (by omega) hv')) (fun h1 Q => m_past_bad (d := d + 5) (by omega) Q (Or.inr ⟨c, hc, rfl, Or.inr (Or.inr (nI_lt (by omega) (I.at _)))⟩)) rfl (I.x 1)
theorem J_about (hb : E.2.2.1 ≤ b) (L : LJ b sc len S σ μ f h) (p q : Int32) : JI E d b sc len S σ h mL_about [(0, .ref b), (1, .int p), (2, .int q), (3, .ref (b + 195))] mM_about [(0, .ref (b + 182)), (1, .int p), (2, .int q)] Value.int Int32.toInt64 := by
  have I := L.2.2.2.2.2
  rcases op_em σ p with hp | ⟨t, ht, rfl, ho⟩
  · exact JI.thr (v := nI 0) L (k := 1) (by decide) (by decide) (l_about_NSE L.1.1 (d_about_bad L.1 hp)) (fun h1 Q => m_about_bad (d := d + 2) (by omega) Q (I.badE hp)) rfl (I.x 1)
  have out : q.toInt < 0 ∨ 5 < q.toInt → JI E d b sc len S σ h mL_about [(0, .ref b), (1, .int (nI t)), (2, .int q), (3, .ref (b + 195))] mM_about [(0, .ref (b + 182)), (1, .int (nI t)), (2, .int q)] Value.int Int32.toInt64 := fun hq =>
    JI.thr (v := nI 0) L (k := 2) (by decide) (by decide) (l_about_IAE L.1.1 (d_about_badw L.1 ht ho hq)) (fun h1 Q => m_about_badw (d := d + 2) (by omega) Q ht (I.opn ht ho) hq) rfl ((I.x 0).x 2)
  rcases pk_ix q (n := 6) (by decide) with hq | hq | ⟨k, hk, rfl⟩
  · exact out (Or.inl (Int32.lt_iff_toInt_lt.mp hq))
  · refine out (Or.inr ?_)
    have h6 : (nI 6).toInt ≤ q.toInt := Int32.le_iff_toInt_le.mp hq
    have h6' : (nI 6).toInt = 6 := by decide
    omega
  · have G1 := d_about_ok (E := E) (d := d) L.1 I.1 ht ho (show k ≤ 5 by omega)
    exact JI.ok (nI (abV σ t k)) L L.1 (VF.rf b h) (l_about_ok (by omega) L.1.1 G1 L.2.2.1) (fun h1 Q => by rw [← I.ab ht ho (show k ≤ 5 by omega)]; exact m_about_ok (d := d + 2) (by omega) Q ht (I.opn ht ho) (I.lay ht ho).2 (I.st ht ho) (I.kd ht ho) I.la (by omega)) rfl (I.x 0) (Nat.le_succ _)
/-- forget, count: no exception -/
def JF (E : xE) (d b sc len : Nat) (S : Nat → Int32) (σ : vS) (h : xH) (NA : xM) (lvA : xL) (NB : xM) (lvB : xL) : Prop :=
  ∃ (v : Int32) (w1 : Bool) (σ' : vS) (μ' : qS) (f' : Nat → Int64) (h1 h2 : xH), xG E (d + 5) NA 0 lvA [] false h (w1, .inl (some (.int v)), h1) ∧ xG E (d + 5) NB 0 lvB [] false h1 (true, .inl (some (.int v)), h2) ∧
    LJ b sc len S σ' μ' f' h2 ∧ sK σ' ≤ sK σ + 1 ∧ h2.2.1 ≤ h.2.1 + 1 ∧ h2.2.2 ≤ h.2.2 + 6 ∧ h1.1 sc = some (vI len S) ∧ (∃ x y, h1.1 (b + 182) = some (qC (b + 182) x y))
theorem JF.ok {NA NB : xM} {lvA lvB : xL} {v : Int32} {w1 : Bool} (L : LJ b sc len S σ μ f h) (V : VP b σ' h1) (G : VF b h h1) (A : xG E (d + 5) NA 0 lvA [] false h (w1, .inl (some (.int v)), h1)) (B : ∀ h1, QP (b + 182) h1 μ h1 → ∃ h2, xG E (d + 5) NB 0 lvB [] false h1 (true, .inl (some (.int v)), h2) ∧ QP (b + 182) h1 μ' h2) (I : INV σ' μ') (hK : sK σ' ≤ sK σ + 1) : JF E d b sc len S σ h NA lvA NB lvB := by
  have F := HF.same (f := f) G L.2.2.1
  have Q := L.q F
  obtain ⟨h2, B1, B2⟩ := B _ Q
  obtain ⟨M1, M2, M3, M4⟩ := L.mk F V B2 I
  exact ⟨v, w1, σ', μ', f, h1, h2, A, B1, M1, hK, M2, M3, M4, ⟨_, _, Q.1⟩⟩
theorem J_forget (hb : E.2.2.1 ≤ b) (L : LJ b sc len S σ μ f h) : JF E d b sc len S σ h mD_forget [(0, .ref b)] mM_forget [(0, .ref (b + 182))] := by
  have I := L.2.2.2.2.2
  have hclk := I.clk
  obtain ⟨h1, G1, V1, F1⟩ := d_forget (d := d + 1) hb L.1 I.1
  obtain ⟨I1, e⟩ := I.forget
  rw [← e] at G1
  exact JF.ok L V1 F1 G1 (fun h1 Q => m_forget (d := d + 3) (by omega) Q (by rw [I.K]; omega) I.sts (fun c hc => ⟨I.ver1 hc, I.ver5 hc⟩) I.at) I1 (Nat.le_succ _)
theorem J_count (hb : E.2.2.1 ≤ b) (L : LJ b sc len S σ μ f h) (p : Int32) : JF E d b sc len S σ h mD_count [(0, .ref b), (1, .int p)] mM_count [(0, .ref (b + 182)), (1, .int p)] := by
  have I := L.2.2.2.2.2
  have hclk := I.clk
  have out : p.toInt < 0 ∨ 3 < p.toInt → JF E d b sc len S σ h mD_count [(0, .ref b), (1, .int p)] mM_count [(0, .ref (b + 182)), (1, .int p)] := fun hq =>
    JF.ok L L.1 (VF.rf b h) (d_count_bad (d := d + 1) hq) (fun h1 Q => m_count_bad (d := d + 3) (by omega) Q hq) (I.x 0) (Nat.le_succ _)
  rcases pk_ix p (n := 4) (by decide) with hq | hq | ⟨k, hk, rfl⟩
  · exact out (Or.inl (Int32.lt_iff_toInt_lt.mp hq))
  · refine out (Or.inr ?_)
    have h6 : (nI 4).toInt ≤ p.toInt := Int32.le_iff_toInt_le.mp hq
    have h6' : (nI 4).toInt = 4 := by decide
    omega
  · exact JF.ok L L.1 (VF.rf b h) (d_count_ok (d := d + 1) L.1 I.1 (show k ≤ 3 by omega)) (fun h1 Q => by rw [← I.co (show k ≤ 3 by omega)]; exact m_count_ok (d := d + 3) (by omega) Q (by rw [I.K]; omega) I.sts (by omega)) (I.x 0) (Nat.le_succ _)
end
