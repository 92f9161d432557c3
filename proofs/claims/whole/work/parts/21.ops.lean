def xlk : xL → Nat → Option Value
  | [], _ => none
  | q :: t, i => if q.1 == i then some q.2 else xlk t i
def xst (lv : xL) (i : Nat) (v : Value) : xL := (i, v) :: lv.filter (fun q => !(q.1 == i) && !(q.1 + 1 == i && q.2.category == 2))
def xst2 (lv : xL) (i : Nat) (v : Value) : xL := (i, v) :: lv.filter (fun q => !(q.1 == i) && (!(q.1 == i + 1) && !(q.1 + 1 == i && q.2.category == 2)))
theorem xlk_mem {lv : xL} {i : Nat} {v : Value} (h : xlk lv i = some v) : (i, v) ∈ lv := by
  induction lv with
  | nil => cases h
  | cons q t ih =>
    obtain ⟨j, w⟩ := q
    unfold xlk at h
    by_cases hj : j = i
    · subst hj
      simp at h
      subst h
      exact List.mem_cons_self
    · rw [if_neg (by simpa using hj)] at h
      exact List.mem_cons_of_mem _ (ih h)
theorem xlk_at {ls : Array Slot} {nL : Nat} {lv : xL} {i : Nat} {v : Value} (hl : lv_has ls nL lv) (h : xlk lv i = some v) : ls[i]? = some (.val v) := hl.2.2 (i, v) (xlk_mem h)
theorem xlk_ix {lv : xL} {i : Nat} {v : Value} (h : xlk lv i = some v) : ∃ q : Nat, lv[q]? = some (i, v) := List.getElem?_of_mem (xlk_mem h)
theorem x_iconst {E : xE} {d : Nat} {M : xM} {pc : Nat} {lv : xL} {st : List Value} {w : Bool} {h : xH} {r : xR} {n : Int} {v : Int32} (hd : decode M.2.1 pc = .ok (.iconst n, 1)) (hv : Int32.ofInt n = v) (k : xG E d M (pc + 1) lv (.int v :: st) w h r) : xG E d M pc lv (st) w h r :=
  k.go fun hX hl k' => lv_iconst (v := v) hX.1.1 hX.1.2.1 hd hv (k' _ hl)
theorem x_bipush {E : xE} {d : Nat} {M : xM} {pc : Nat} {lv : xL} {st : List Value} {w : Bool} {h : xH} {r : xR} {n : Int} {v : Int32} (hd : decode M.2.1 pc = .ok (.bipush n, 2)) (hv : (Int8.ofInt n).toInt32 = v) (k : xG E d M (pc + 2) lv (.int v :: st) w h r) : xG E d M pc lv (st) w h r :=
  k.go fun hX hl k' => lv_bipush (v := v) hX.1.1 hX.1.2.1 hd hv (k' _ hl)
theorem x_sipush {E : xE} {d : Nat} {M : xM} {pc : Nat} {lv : xL} {st : List Value} {w : Bool} {h : xH} {r : xR} {n : Int} {v : Int32} (hd : decode M.2.1 pc = .ok (.sipush n, 3)) (hv : (Int16.ofInt n).toInt32 = v) (k : xG E d M (pc + 3) lv (.int v :: st) w h r) : xG E d M pc lv (st) w h r :=
  k.go fun hX hl k' => lv_sipush (v := v) hX.1.1 hX.1.2.1 hd hv (k' _ hl)
theorem x_lconst {E : xE} {d : Nat} {M : xM} {pc : Nat} {lv : xL} {st : List Value} {w : Bool} {h : xH} {r : xR} {n : Fin 2} {v : Int64} (hd : decode M.2.1 pc = .ok (.lconst n, 1)) (hv : Int64.ofNat (n : Nat) = v) (k : xG E d M (pc + 1) lv (.long v :: st) w h r) : xG E d M pc lv (st) w h r :=
  k.go fun hX hl k' => lv_lconst (v := v) hX.1.1 hX.1.2.1 hd hv (k' _ hl)
theorem x_iload_n {E : xE} {d : Nat} {M : xM} {pc : Nat} {lv : xL} {st : List Value} {w : Bool} {h : xH} {r : xR} {i : Fin 4} {x : Int32}  (hd : decode M.2.1 pc = .ok (.iload_n i, 1)) (hq : xlk lv ((i : Fin 4) : Nat) = some (.int x)) (k : xG E d M (pc + 1) lv (.int x :: st) w h r) : xG E d M pc lv (st) w h r :=
  k.go fun hX hl k' => lv_iload_n hX.1.1 hX.1.2.1 hd rfl (xlk_at hl hq) (k' _ hl)
theorem x_iload {E : xE} {d : Nat} {M : xM} {pc : Nat} {lv : xL} {st : List Value} {w : Bool} {h : xH} {r : xR} {i : Nat} {x : Int32}  (hd : decode M.2.1 pc = .ok (.iload i, 2)) (hq : xlk lv i = some (.int x)) (k : xG E d M (pc + 2) lv (.int x :: st) w h r) : xG E d M pc lv (st) w h r :=
  k.go fun hX hl k' => lv_iload hX.1.1 hX.1.2.1 hd (xlk_at hl hq) (k' _ hl)
theorem x_lload_n {E : xE} {d : Nat} {M : xM} {pc : Nat} {lv : xL} {st : List Value} {w : Bool} {h : xH} {r : xR} {i : Fin 4} {x : Int64}  (hd : decode M.2.1 pc = .ok (.lload_n i, 1)) (hq : xlk lv ((i : Fin 4) : Nat) = some (.long x)) (k : xG E d M (pc + 1) lv (.long x :: st) w h r) : xG E d M pc lv (st) w h r :=
  k.go fun hX hl k' => lv_lload_n hX.1.1 hX.1.2.1 hd rfl (xlk_at hl hq) (k' _ hl)
theorem x_lload {E : xE} {d : Nat} {M : xM} {pc : Nat} {lv : xL} {st : List Value} {w : Bool} {h : xH} {r : xR} {i : Nat} {x : Int64}  (hd : decode M.2.1 pc = .ok (.lload i, 2)) (hq : xlk lv i = some (.long x)) (k : xG E d M (pc + 2) lv (.long x :: st) w h r) : xG E d M pc lv (st) w h r :=
  k.go fun hX hl k' => lv_lload hX.1.1 hX.1.2.1 hd (xlk_at hl hq) (k' _ hl)
theorem x_aload_n {E : xE} {d : Nat} {M : xM} {pc : Nat} {lv : xL} {st : List Value} {w : Bool} {h : xH} {r : xR} {i : Fin 4} {x : Nat}  (hd : decode M.2.1 pc = .ok (.aload_n i, 1)) (hq : xlk lv ((i : Fin 4) : Nat) = some (.ref x)) (k : xG E d M (pc + 1) lv (.ref x :: st) w h r) : xG E d M pc lv (st) w h r :=
  k.go fun hX hl k' => lv_aload_n hX.1.1 hX.1.2.1 hd rfl (xlk_at hl hq) (k' _ hl)
theorem x_aload {E : xE} {d : Nat} {M : xM} {pc : Nat} {lv : xL} {st : List Value} {w : Bool} {h : xH} {r : xR} {i : Nat} {x : Nat}  (hd : decode M.2.1 pc = .ok (.aload i, 2)) (hq : xlk lv i = some (.ref x)) (k : xG E d M (pc + 2) lv (.ref x :: st) w h r) : xG E d M pc lv (st) w h r :=
  k.go fun hX hl k' => lv_aload hX.1.1 hX.1.2.1 hd (xlk_at hl hq) (k' _ hl)
theorem x_iadd {E : xE} {d : Nat} {M : xM} {pc : Nat} {lv : xL} {st : List Value} {w : Bool} {h : xH} {r : xR} {x y : Int32} (hd : decode M.2.1 pc = .ok (.iadd, 1)) (k : xG E d M (pc + 1) lv (.int (x + y) :: st) w h r) : xG E d M pc lv (.int y :: .int x :: st) w h r :=
  k.go fun hX hl k' => lv_iadd hX.1.1 hX.1.2.1 hd (k' _ hl)
theorem x_isub {E : xE} {d : Nat} {M : xM} {pc : Nat} {lv : xL} {st : List Value} {w : Bool} {h : xH} {r : xR} {x y : Int32} (hd : decode M.2.1 pc = .ok (.isub, 1)) (k : xG E d M (pc + 1) lv (.int (x - y) :: st) w h r) : xG E d M pc lv (.int y :: .int x :: st) w h r :=
  k.go fun hX hl k' => lv_isub hX.1.1 hX.1.2.1 hd (k' _ hl)
theorem x_imul {E : xE} {d : Nat} {M : xM} {pc : Nat} {lv : xL} {st : List Value} {w : Bool} {h : xH} {r : xR} {x y : Int32} (hd : decode M.2.1 pc = .ok (.imul, 1)) (k : xG E d M (pc + 1) lv (.int (x * y) :: st) w h r) : xG E d M pc lv (.int y :: .int x :: st) w h r :=
  k.go fun hX hl k' => lv_imul hX.1.1 hX.1.2.1 hd (k' _ hl)
theorem x_iand {E : xE} {d : Nat} {M : xM} {pc : Nat} {lv : xL} {st : List Value} {w : Bool} {h : xH} {r : xR} {x y : Int32} (hd : decode M.2.1 pc = .ok (.iand, 1)) (k : xG E d M (pc + 1) lv (.int (x &&& y) :: st) w h r) : xG E d M pc lv (.int y :: .int x :: st) w h r :=
  k.go fun hX hl k' => lv_iand hX.1.1 hX.1.2.1 hd (k' _ hl)
theorem x_ior {E : xE} {d : Nat} {M : xM} {pc : Nat} {lv : xL} {st : List Value} {w : Bool} {h : xH} {r : xR} {x y : Int32} (hd : decode M.2.1 pc = .ok (.ior, 1)) (k : xG E d M (pc + 1) lv (.int (x ||| y) :: st) w h r) : xG E d M pc lv (.int y :: .int x :: st) w h r :=
  k.go fun hX hl k' => lv_ior hX.1.1 hX.1.2.1 hd (k' _ hl)
theorem x_ixor {E : xE} {d : Nat} {M : xM} {pc : Nat} {lv : xL} {st : List Value} {w : Bool} {h : xH} {r : xR} {x y : Int32} (hd : decode M.2.1 pc = .ok (.ixor, 1)) (k : xG E d M (pc + 1) lv (.int (x ^^^ y) :: st) w h r) : xG E d M pc lv (.int y :: .int x :: st) w h r :=
  k.go fun hX hl k' => lv_ixor hX.1.1 hX.1.2.1 hd (k' _ hl)
theorem x_land {E : xE} {d : Nat} {M : xM} {pc : Nat} {lv : xL} {st : List Value} {w : Bool} {h : xH} {r : xR} {x y : Int64} (hd : decode M.2.1 pc = .ok (.land, 1)) (k : xG E d M (pc + 1) lv (.long (x &&& y) :: st) w h r) : xG E d M pc lv (.long y :: .long x :: st) w h r :=
  k.go fun hX hl k' => lv_land hX.1.1 hX.1.2.1 hd (k' _ hl)
theorem x_lor {E : xE} {d : Nat} {M : xM} {pc : Nat} {lv : xL} {st : List Value} {w : Bool} {h : xH} {r : xR} {x y : Int64} (hd : decode M.2.1 pc = .ok (.lor, 1)) (k : xG E d M (pc + 1) lv (.long (x ||| y) :: st) w h r) : xG E d M pc lv (.long y :: .long x :: st) w h r :=
  k.go fun hX hl k' => lv_lor hX.1.1 hX.1.2.1 hd (k' _ hl)
theorem x_ishl {E : xE} {d : Nat} {M : xM} {pc : Nat} {lv : xL} {st : List Value} {w : Bool} {h : xH} {r : xR} {x y : Int32} (hd : decode M.2.1 pc = .ok (.ishl, 1)) (k : xG E d M (pc + 1) lv (.int (x <<< (y &&& 31)) :: st) w h r) : xG E d M pc lv (.int y :: .int x :: st) w h r :=
  k.go fun hX hl k' => lv_ishl hX.1.1 hX.1.2.1 hd (k' _ hl)
theorem x_ishr {E : xE} {d : Nat} {M : xM} {pc : Nat} {lv : xL} {st : List Value} {w : Bool} {h : xH} {r : xR} {x y : Int32} (hd : decode M.2.1 pc = .ok (.ishr, 1)) (k : xG E d M (pc + 1) lv (.int (x >>> (y &&& 31)) :: st) w h r) : xG E d M pc lv (.int y :: .int x :: st) w h r :=
  k.go fun hX hl k' => lv_ishr hX.1.1 hX.1.2.1 hd (k' _ hl)
theorem x_iushr {E : xE} {d : Nat} {M : xM} {pc : Nat} {lv : xL} {st : List Value} {w : Bool} {h : xH} {r : xR} {x y : Int32} (hd : decode M.2.1 pc = .ok (.iushr, 1)) (k : xG E d M (pc + 1) lv (.int ((x.toUInt32 >>> (y.toUInt32 &&& Int32.toUInt32 31)).toInt32) :: st) w h r) : xG E d M pc lv (.int y :: .int x :: st) w h r :=
  k.go fun hX hl k' => lv_iushr hX.1.1 hX.1.2.1 hd rfl (k' _ hl)
theorem x_lshl {E : xE} {d : Nat} {M : xM} {pc : Nat} {lv : xL} {st : List Value} {w : Bool} {h : xH} {r : xR} {x : Int64} {y : Int32} (hd : decode M.2.1 pc = .ok (.lshl, 1)) (k : xG E d M (pc + 1) lv (.long (x <<< (y.toInt64 &&& 63)) :: st) w h r) : xG E d M pc lv (.int y :: .long x :: st) w h r :=
  k.go fun hX hl k' => lv_lshl hX.1.1 hX.1.2.1 hd rfl (k' _ hl)
theorem x_i2l {E : xE} {d : Nat} {M : xM} {pc : Nat} {lv : xL} {st : List Value} {w : Bool} {h : xH} {r : xR} {x : Int32} (hd : decode M.2.1 pc = .ok (.i2l, 1)) (k : xG E d M (pc + 1) lv (.long x.toInt64 :: st) w h r) : xG E d M pc lv (.int x :: st) w h r :=
  k.go fun hX hl k' => lv_i2l hX.1.1 hX.1.2.1 hd rfl (k' _ hl)
theorem x_lcmp {E : xE} {d : Nat} {M : xM} {pc : Nat} {lv : xL} {st : List Value} {w : Bool} {h : xH} {r : xR} {x y : Int64} (hd : decode M.2.1 pc = .ok (.lcmp, 1)) (k : xG E d M (pc + 1) lv (.int (lg_cmp x y) :: st) w h r) : xG E d M pc lv (.long y :: .long x :: st) w h r :=
  k.go fun hX hl k' => W.lcmp hX.1.1 hX.1.2.1 hd (k' _ hl)
theorem x_dup {E : xE} {d : Nat} {M : xM} {pc : Nat} {lv : xL} {st : List Value} {w : Bool} {h : xH} {r : xR} {a : Value} (hd : decode M.2.1 pc = .ok (.dup, 1)) (hc : a.category = 1) (k : xG E d M (pc + 1) lv (a :: a :: st) w h r) : xG E d M pc lv (a :: st) w h r :=
  k.go fun hX hl k' => lv_dup hX.1.1 hX.1.2.1 hd hc (k' _ hl)
theorem x_pop {E : xE} {d : Nat} {M : xM} {pc : Nat} {lv : xL} {st : List Value} {w : Bool} {h : xH} {r : xR} {a : Value} (hd : decode M.2.1 pc = .ok (.pop, 1)) (hc : a.category = 1) (k : xG E d M (pc + 1) lv (st) w h r) : xG E d M pc lv (a :: st) w h r :=
  k.go fun hX hl k' => lv_pop hX.1.1 hX.1.2.1 hd hc (k' _ hl)
theorem x_dup2 {E : xE} {d : Nat} {M : xM} {pc : Nat} {lv : xL} {st : List Value} {w : Bool} {h : xH} {r : xR} {a b : Value} (hd : decode M.2.1 pc = .ok (.dup2, 1)) (hc : a.category = 1) (hc2 : b.category = 1) (k : xG E d M (pc + 1) lv (a :: b :: a :: b :: st) w h r) : xG E d M pc lv (a :: b :: st) w h r :=
  k.go fun hX hl k' => lv_dup2_11 hX.1.1 hX.1.2.1 hd hc hc2 (k' _ hl)
theorem x_istore_n {E : xE} {d : Nat} {M : xM} {pc : Nat} {lv : xL} {st : List Value} {w : Bool} {h : xH} {r : xR} {i : Fin 4} {x : Int32} (hd : decode M.2.1 pc = .ok (.istore_n i, 1)) (hn : ((i : Fin 4) : Nat) < M.2.2.1) (k : xG E d M (pc + 1) (xst lv ((i : Fin 4) : Nat) (.int x)) st w h r) : xG E d M pc lv (.int x :: st) w h r :=
  k.go fun hX hl0 k' => lv_istore_n hX.1.1 hX.1.2.1 hd rfl hl0 hn rfl (fun ls' h' => k' ls' h')
theorem x_istore {E : xE} {d : Nat} {M : xM} {pc : Nat} {lv : xL} {st : List Value} {w : Bool} {h : xH} {r : xR} {i : Nat} {x : Int32} (hd : decode M.2.1 pc = .ok (.istore i, 2)) (hn : i < M.2.2.1) (k : xG E d M (pc + 2) (xst lv i (.int x)) st w h r) : xG E d M pc lv (.int x :: st) w h r :=
  k.go fun hX hl0 k' => lv_istore hX.1.1 hX.1.2.1 hd hl0 hn rfl (fun ls' h' => k' ls' h')
theorem x_lstore_n {E : xE} {d : Nat} {M : xM} {pc : Nat} {lv : xL} {st : List Value} {w : Bool} {h : xH} {r : xR} {i : Fin 4} {x : Int64} (hd : decode M.2.1 pc = .ok (.lstore_n i, 1)) (hn : ((i : Fin 4) : Nat) + 1 < M.2.2.1) (k : xG E d M (pc + 1) (xst2 lv ((i : Fin 4) : Nat) (.long x)) st w h r) : xG E d M pc lv (.long x :: st) w h r :=
  k.go fun hX hl0 k' => lv_lstore_n hX.1.1 hX.1.2.1 hd rfl hl0 hn rfl (fun ls' h' => k' ls' h')
theorem x_lstore {E : xE} {d : Nat} {M : xM} {pc : Nat} {lv : xL} {st : List Value} {w : Bool} {h : xH} {r : xR} {i : Nat} {x : Int64} (hd : decode M.2.1 pc = .ok (.lstore i, 2)) (hn : i + 1 < M.2.2.1) (k : xG E d M (pc + 2) (xst2 lv i (.long x)) st w h r) : xG E d M pc lv (.long x :: st) w h r :=
  k.go fun hX hl0 k' => lv_lstore hX.1.1 hX.1.2.1 hd hl0 hn rfl (fun ls' h' => k' ls' h')
theorem x_astore_n {E : xE} {d : Nat} {M : xM} {pc : Nat} {lv : xL} {st : List Value} {w : Bool} {h : xH} {r : xR} {i : Fin 4} {x : Nat} (hd : decode M.2.1 pc = .ok (.astore_n i, 1)) (hn : ((i : Fin 4) : Nat) < M.2.2.1) (k : xG E d M (pc + 1) (xst lv ((i : Fin 4) : Nat) (.ref x)) st w h r) : xG E d M pc lv (.ref x :: st) w h r :=
  k.go fun hX hl0 k' => lv_astore_n hX.1.1 hX.1.2.1 hd rfl hl0 hn rfl (fun ls' h' => k' ls' h')
theorem x_astore {E : xE} {d : Nat} {M : xM} {pc : Nat} {lv : xL} {st : List Value} {w : Bool} {h : xH} {r : xR} {i : Nat} {x : Nat} (hd : decode M.2.1 pc = .ok (.astore i, 2)) (hn : i < M.2.2.1) (k : xG E d M (pc + 2) (xst lv i (.ref x)) st w h r) : xG E d M pc lv (.ref x :: st) w h r :=
  k.go fun hX hl0 k' => lv_astore hX.1.1 hX.1.2.1 hd hl0 hn rfl (fun ls' h' => k' ls' h')
theorem x_iinc {E : xE} {d : Nat} {M : xM} {pc : Nat} {lv : xL} {st : List Value} {w : Bool} {h : xH} {r : xR} {i : Nat} {n : Int} {x v : Int32} (hd : decode M.2.1 pc = .ok (.iinc i n, 3)) (hq : xlk lv i = some (.int x)) (hv : x + Int32.ofInt n = v) (hn : i < M.2.2.1) (k : xG E d M (pc + 3) (xst lv i (.int v)) st w h r) : xG E d M pc lv st w h r := by
  obtain ⟨q, hq'⟩ := xlk_ix hq
  exact k.go fun hX hl0 k' => lv_iinc (k := q) hX.1.1 hX.1.2.1 hd hl0 hq' hv hn rfl (fun ls' h' => k' ls' h')
theorem x_if_eq {E : xE} {d : Nat} {M : xM} {pc : Nat} {lv : xL} {st : List Value} {w : Bool} {h : xH} {r : xR} {x : Int32} {off : Int} (tgt : Nat) (hd : decode M.2.1 pc = .ok (.ifCond .eq off, 3)) (ht : (pc : Int) + off = (tgt : Int)) (k1 : x = 0 → xG E d M tgt lv st w h r) (k2 : ¬ (x = 0) → xG E d M (pc + 3) lv st w h r) : xG E d M pc lv (.int x :: st) w h r :=
  xG.br k1 k2 fun hX a b => lv_if_eq hX.1.1 hX.1.2.1 hd ht a b
theorem x_icmp_eq {E : xE} {d : Nat} {M : xM} {pc : Nat} {lv : xL} {st : List Value} {w : Bool} {h : xH} {r : xR} {x y : Int32} {off : Int} (tgt : Nat) (hd : decode M.2.1 pc = .ok (.if_icmp .eq off, 3)) (ht : (pc : Int) + off = (tgt : Int)) (k1 : x = y → xG E d M tgt lv st w h r) (k2 : ¬ (x = y) → xG E d M (pc + 3) lv st w h r) : xG E d M pc lv (.int y :: .int x :: st) w h r :=
  xG.br k1 k2 fun hX a b => lv_icmp_eq hX.1.1 hX.1.2.1 hd ht a b
theorem x_if_ne {E : xE} {d : Nat} {M : xM} {pc : Nat} {lv : xL} {st : List Value} {w : Bool} {h : xH} {r : xR} {x : Int32} {off : Int} (tgt : Nat) (hd : decode M.2.1 pc = .ok (.ifCond .ne off, 3)) (ht : (pc : Int) + off = (tgt : Int)) (k1 : ¬ x = 0 → xG E d M tgt lv st w h r) (k2 : x = 0 → xG E d M (pc + 3) lv st w h r) : xG E d M pc lv (.int x :: st) w h r :=
  xG.br k1 (fun q => k2 (Classical.not_not.mp q)) fun hX a b => lv_if_ne hX.1.1 hX.1.2.1 hd ht a (fun q => b (fun z => z q))
theorem x_icmp_ne {E : xE} {d : Nat} {M : xM} {pc : Nat} {lv : xL} {st : List Value} {w : Bool} {h : xH} {r : xR} {x y : Int32} {off : Int} (tgt : Nat) (hd : decode M.2.1 pc = .ok (.if_icmp .ne off, 3)) (ht : (pc : Int) + off = (tgt : Int)) (k1 : ¬ x = y → xG E d M tgt lv st w h r) (k2 : x = y → xG E d M (pc + 3) lv st w h r) : xG E d M pc lv (.int y :: .int x :: st) w h r :=
  xG.br k1 (fun q => k2 (Classical.not_not.mp q)) fun hX a b => lv_icmp_ne hX.1.1 hX.1.2.1 hd ht a (fun q => b (fun z => z q))
theorem x_if_lt {E : xE} {d : Nat} {M : xM} {pc : Nat} {lv : xL} {st : List Value} {w : Bool} {h : xH} {r : xR} {x : Int32} {off : Int} (tgt : Nat) (hd : decode M.2.1 pc = .ok (.ifCond .lt off, 3)) (ht : (pc : Int) + off = (tgt : Int)) (k1 : x < 0 → xG E d M tgt lv st w h r) (k2 : ¬ (x < 0) → xG E d M (pc + 3) lv st w h r) : xG E d M pc lv (.int x :: st) w h r :=
  xG.br k1 k2 fun hX a b => lv_if_lt hX.1.1 hX.1.2.1 hd ht a b
theorem x_icmp_lt {E : xE} {d : Nat} {M : xM} {pc : Nat} {lv : xL} {st : List Value} {w : Bool} {h : xH} {r : xR} {x y : Int32} {off : Int} (tgt : Nat) (hd : decode M.2.1 pc = .ok (.if_icmp .lt off, 3)) (ht : (pc : Int) + off = (tgt : Int)) (k1 : x < y → xG E d M tgt lv st w h r) (k2 : ¬ (x < y) → xG E d M (pc + 3) lv st w h r) : xG E d M pc lv (.int y :: .int x :: st) w h r :=
  xG.br k1 k2 fun hX a b => lv_icmp_lt hX.1.1 hX.1.2.1 hd ht a b
theorem x_if_ge {E : xE} {d : Nat} {M : xM} {pc : Nat} {lv : xL} {st : List Value} {w : Bool} {h : xH} {r : xR} {x : Int32} {off : Int} (tgt : Nat) (hd : decode M.2.1 pc = .ok (.ifCond .ge off, 3)) (ht : (pc : Int) + off = (tgt : Int)) (k1 : 0 ≤ x → xG E d M tgt lv st w h r) (k2 : ¬ (0 ≤ x) → xG E d M (pc + 3) lv st w h r) : xG E d M pc lv (.int x :: st) w h r :=
  xG.br k1 k2 fun hX a b => lv_if_ge hX.1.1 hX.1.2.1 hd ht a b
theorem x_icmp_ge {E : xE} {d : Nat} {M : xM} {pc : Nat} {lv : xL} {st : List Value} {w : Bool} {h : xH} {r : xR} {x y : Int32} {off : Int} (tgt : Nat) (hd : decode M.2.1 pc = .ok (.if_icmp .ge off, 3)) (ht : (pc : Int) + off = (tgt : Int)) (k1 : y ≤ x → xG E d M tgt lv st w h r) (k2 : ¬ (y ≤ x) → xG E d M (pc + 3) lv st w h r) : xG E d M pc lv (.int y :: .int x :: st) w h r :=
  xG.br k1 k2 fun hX a b => lv_icmp_ge hX.1.1 hX.1.2.1 hd ht a b
theorem x_if_gt {E : xE} {d : Nat} {M : xM} {pc : Nat} {lv : xL} {st : List Value} {w : Bool} {h : xH} {r : xR} {x : Int32} {off : Int} (tgt : Nat) (hd : decode M.2.1 pc = .ok (.ifCond .gt off, 3)) (ht : (pc : Int) + off = (tgt : Int)) (k1 : 0 < x → xG E d M tgt lv st w h r) (k2 : ¬ (0 < x) → xG E d M (pc + 3) lv st w h r) : xG E d M pc lv (.int x :: st) w h r :=
  xG.br k1 k2 fun hX a b => lv_if_gt hX.1.1 hX.1.2.1 hd ht a b
theorem x_icmp_gt {E : xE} {d : Nat} {M : xM} {pc : Nat} {lv : xL} {st : List Value} {w : Bool} {h : xH} {r : xR} {x y : Int32} {off : Int} (tgt : Nat) (hd : decode M.2.1 pc = .ok (.if_icmp .gt off, 3)) (ht : (pc : Int) + off = (tgt : Int)) (k1 : y < x → xG E d M tgt lv st w h r) (k2 : ¬ (y < x) → xG E d M (pc + 3) lv st w h r) : xG E d M pc lv (.int y :: .int x :: st) w h r :=
  xG.br k1 k2 fun hX a b => lv_icmp_gt hX.1.1 hX.1.2.1 hd ht a b
theorem x_if_le {E : xE} {d : Nat} {M : xM} {pc : Nat} {lv : xL} {st : List Value} {w : Bool} {h : xH} {r : xR} {x : Int32} {off : Int} (tgt : Nat) (hd : decode M.2.1 pc = .ok (.ifCond .le off, 3)) (ht : (pc : Int) + off = (tgt : Int)) (k1 : x ≤ 0 → xG E d M tgt lv st w h r) (k2 : ¬ (x ≤ 0) → xG E d M (pc + 3) lv st w h r) : xG E d M pc lv (.int x :: st) w h r :=
  xG.br k1 k2 fun hX a b => lv_if_le hX.1.1 hX.1.2.1 hd ht a b
theorem x_icmp_le {E : xE} {d : Nat} {M : xM} {pc : Nat} {lv : xL} {st : List Value} {w : Bool} {h : xH} {r : xR} {x y : Int32} {off : Int} (tgt : Nat) (hd : decode M.2.1 pc = .ok (.if_icmp .le off, 3)) (ht : (pc : Int) + off = (tgt : Int)) (k1 : x ≤ y → xG E d M tgt lv st w h r) (k2 : ¬ (x ≤ y) → xG E d M (pc + 3) lv st w h r) : xG E d M pc lv (.int y :: .int x :: st) w h r :=
  xG.br k1 k2 fun hX a b => lv_icmp_le hX.1.1 hX.1.2.1 hd ht a b
theorem x_goto {E : xE} {d : Nat} {M : xM} {pc : Nat} {lv : xL} {st : List Value} {w : Bool} {h : xH} {r : xR} {off : Int} (tgt : Nat) (hd : decode M.2.1 pc = .ok (.goto off, 3)) (ht : (pc : Int) + off = (tgt : Int)) (k : xG E d M tgt lv st w h r) : xG E d M pc lv st w h r :=
  k.go fun hX hl k' => lv_goto hX.1.1 hX.1.2.1 hd ht (k' _ hl)
theorem x_tableIn {E : xE} {d : Nat} {M : xM} {pc : Nat} {lv : xL} {st : List Value} {w : Bool} {h : xH} {r : xR} {dflt lo hi : Int} {offs : Array Int} {len : Nat} {x : Int32} {off : Int} (tgt : Nat) (hd : decode M.2.1 pc = .ok (.tableswitch dflt lo hi offs, len)) (h1 : ¬ x.toInt < lo) (h2 : ¬ hi < x.toInt) (ho : offs[(x.toInt - lo).toNat]? = some off) (ht : (pc : Int) + off = (tgt : Int)) (k : xG E d M tgt lv st w h r) : xG E d M pc lv (.int x :: st) w h r :=
  k.go fun hX hl k' => lv_tableIn hX.1.1 hX.1.2.1 hd h1 h2 ho ht (k' _ hl)
theorem x_tableOut {E : xE} {d : Nat} {M : xM} {pc : Nat} {lv : xL} {st : List Value} {w : Bool} {h : xH} {r : xR} {dflt lo hi : Int} {offs : Array Int} {len : Nat} {x : Int32} (tgt : Nat) (hd : decode M.2.1 pc = .ok (.tableswitch dflt lo hi offs, len)) (h1 : x.toInt < lo ∨ hi < x.toInt) (ht : (pc : Int) + dflt = (tgt : Int)) (k : xG E d M tgt lv st w h r) : xG E d M pc lv (.int x :: st) w h r :=
  k.go fun hX hl k' => lv_tableOut hX.1.1 hX.1.2.1 hd h1 ht (k' _ hl)
