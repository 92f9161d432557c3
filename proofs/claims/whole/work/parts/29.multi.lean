/-- new long[N][K] -/
def xmulti (h : xH) (N K : Nat) : xH := (fun q => if q = h.2.1 then some (.inl (.array .long, N, .inr (.inr (fun i => if i < N then some (h.2.1 + 1 + i) else none)))) else if h.2.1 < q ∧ q < h.2.1 + 1 + N then some (.inl (.long, K, .inr (.inl (fun _ => 0)))) else h.1 q, h.2.1 + 1 + N, h.2.2 + N + N * K)
theorem xouter (c : ClassId) (N h0 : Nat) : ∀ i j : Nat, j < N → (Jvm.Free.Multi.outerC c N h0 i).slots[j]? = some (va_rf (if j < i then some (h0 + 1 + j) else none))
  | 0, j, hj => by simp [Jvm.Free.Multi.outerC, hj, va_rf]
  | i + 1, j, hj => by
    have hz := (Jvm.Free.Multi.outerC_facts c N h0 i).2.2
    show ((Jvm.Free.Multi.outerC c N h0 i).setSlot i (.ref (h0 + 1 + i))).slots[j]? = _
    simp only [Cell.setSlot, Array.getElem?_setIfInBounds]
    by_cases e : i = j
    · subst e
      rw [if_pos rfl, if_pos (by rw [hz]; exact hj), if_pos (Nat.lt_succ_self _)]
      rfl
    · rw [if_neg e, xouter c N h0 i j hj]
      by_cases h : j < i
      · rw [if_pos h, if_pos (Nat.lt_succ_of_lt h)]
      · rw [if_neg h, if_neg (by omega)]
set_option maxHeartbeats 1000000 in
theorem x_mnew {E : xE} {d : Nat} {M : xM} {pc : Nat} {lv : xL} {st : List Value} {w : Bool} {h : xH} {r : xR} {idx : Nat} {n k : Int32} (N K : Nat) (hd : decode M.2.1 pc = .ok (.multianewarray idx 2, 4)) (hlk : Cond.classLink M.1.cls idx "[[J" ∈ lw_tbl) (hov : Cond.arrayOver (.array .long) ∈ lw_tbl) (har : Cond.arrayClass .long ∈ lw_tbl) (hn : n = nI N) (hk : k = nI K) (hN : N ≤ 1000) (hK : K ≤ 1000)
    (kk : xG E d M (pc + 4) lv (.ref h.2.1 :: st) true (xmulti h N K) r) : xG E d M pc lv (.int k :: .int n :: st) w h r := by
  have hk1 := kk.1
  simp only [xmulti] at hk1
  refine ⟨⟨by omega, by omega⟩, fun p e R s mid args below meth c H locs cells slots ls hX hI hl hlo hw hR hc hs => ?_⟩
  have cN : n.toNatClampNeg = N := by rw [hn]; exact nI_clamp (by omega)
  have cK : k.toNatClampNeg = K := by rw [hk]; exact nI_clamp (by omega)
  intro T hT X
  obtain ⟨vm₁, cA, comp, hW, fA, fC, hO, hIn, X', step⟩ := X.multianewarray2F (ty := .long) hX.1.1 hX.2.1.1 (xwords hX hlk rfl) (xwords hX hov rfl) (xwords hX har rfl) (g := F0 mid pc ls (.int k :: .int n :: st)) rfl (by rw [hX.1.2.1]; exact hd) rfl (by rw [hn]; exact nI_pos (by omega)) (by rw [hk]; exact nI_pos (by omega)) (by rw [cN]; omega) (by rw [cK]; simp [componentBytes]; omega) (by rw [cK]; omega) rfl rfl (by rw [cN]; omega) (by rw [cN, cK]; omega)
  rw [cN, cK] at X' step
  generalize hF : Jvm.Free.Multi.fill (T.setVm vm₁) cA comp N K (defaultValue .long) N = F at X' step
  have hTh : (T.setVm vm₁).heap = H := hT
  obtain ⟨f1, f2, -, -⟩ := Jvm.Free.Multi.fill_facts (T.setVm vm₁) cA comp N K (defaultValue .long) N
  rw [hF, hTh, hI.1] at f1 f2
  have hold : ∀ x : Nat, x < h.2.1 → F.heap[x]? = H[x]? := fun x hx => by
    have := Jvm.Free.Multi.fill_old (T.setVm vm₁) cA comp N K (defaultValue .long) (a := x) (by rw [hTh, hI.1]; exact hx) N
    rw [hF, hTh] at this
    exact this
  have hrow : ∀ j : Nat, j < N → F.heap[h.2.1 + 1 + j]? = some (Jvm.Free.Multi.innerC comp K (defaultValue .long)) := fun j hj => by
    have := Jvm.Free.Multi.fill_inner (T.setVm vm₁) cA comp N K (defaultValue .long) N j hj
    rw [hF, hTh, hI.1] at this
    exact this
  obtain ⟨i1, i2, i3, i4, i5⟩ := hI
  have hI2 : xI E s (xmulti h N K) F.heap := by
    refine ⟨f1, by rw [f1]; omega, fun q hq => by rw [hold q (by omega)]; exact i3 q hq, fun q x hx => ?_, fun q cell hq hcell => ?_⟩
    · simp only [xmulti] at hx
      split at hx
      · rename_i e0
        subst e0
        cases hx
        exact ⟨_, f2, (hO N h.2.1 N).1, (hO N h.2.1 N).2, (Jvm.Free.Multi.outerC_facts cA N h.2.1 N).2.2, fun j hj => xouter cA N h.2.1 N j hj, trivial⟩
      · split at hx
        · rename_i e1
          cases hx
          have hq : q = h.2.1 + 1 + (q - h.2.1 - 1) := by omega
          rw [hq]
          exact ⟨_, hrow _ (by omega), (hIn K (defaultValue .long)).1, (hIn K (defaultValue .long)).2, by simp [Jvm.Free.Multi.innerC], fun j hj => by simp [Jvm.Free.Multi.innerC, hj, xval, defaultValue], trivial⟩
        · have hlt := (i4 q x hx).lt
          exact (i4 q x hx).kept (hold q (by omega))
    · have hlt : q < F.heap.size := (Array.getElem?_eq_some_iff.mp hcell).1
      rw [f1] at hlt
      by_cases e0 : q < h.2.1
      · exact i5 q cell hq (by rw [← hold q e0]; exact hcell)
      · by_cases e1 : q = h.2.1
        · subst e1
          rw [f2] at hcell
          cases hcell
          rw [(Jvm.Free.Multi.outerC_facts cA N h.2.1 N).2.1]
          rfl
        · have hq2 : q = h.2.1 + 1 + (q - h.2.1 - 1) := by omega
          rw [hq2, hrow _ (by omega)] at hcell
          cases hcell
          rfl
  have hsz : T.heap.size = h.2.1 := by rw [hT]; exact i1
  have kk2 := kk.2 p e R s mid args below meth c F.heap locs (cells + 1 + N) (slots + N + N * K) ls hX hI2 hl hlo (fun hq => by cases hq) hR (by simp only [xmulti]; omega) (by simp only [xmulti]; omega)
  obtain ⟨t, a1, b1⟩ := kk2 F rfl X'
  refine ⟨t, step t (by rw [hsz]; exact a1), ?_⟩
  simp only [xmulti] at b1
  rw [show cells + (r.2.2.2.1 - h.2.1) = cells + 1 + N + (r.2.2.2.1 - (h.2.1 + 1 + N)) by omega, show slots + (r.2.2.2.2 - h.2.2) = slots + N + N * K + (r.2.2.2.2 - (h.2.2 + N + N * K)) by omega]
  exact b1
