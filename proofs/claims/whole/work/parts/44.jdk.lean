/-! Versions(), Integer.bitCount, Math.min -/
theorem x_heq {E : xE} {d : Nat} {M : xM} {pc : Nat} {lv : xL} {st : List Value} {w : Bool} {h : xH} {r : xR} {h' : xH} (e : h = h') (k : xG E d M pc lv st w h' r) : xG E d M pc lv st w h r := by subst e; exact k
def bcU (x : Int32) (n : Nat) : Int32 := (x.toUInt32 >>> ((nI n).toUInt32 &&& Int32.toUInt32 31)).toInt32
def bc1 (x : Int32) : Int32 := x - (bcU x 1 &&& 1431655765)
def bc2 (x : Int32) : Int32 := (x &&& 858993459) + (bcU x 2 &&& 858993459)
def bc3 (x : Int32) : Int32 := (x + bcU x 4) &&& 252645135
def bc4 (x : Int32) : Int32 := x + bcU x 8
def bc5 (x : Int32) : Int32 := x + bcU x 16
def bcF (x : Int32) : Int32 := bc5 (bc4 (bc3 (bc2 (bc1 x)))) &&& 63
/-- the rows of a new Versions: the heap before, its own cell at a -/
def vnew (h : xH) : xH := xadd (xadd (xadd h (vN 500 (fun _ => 0)) 500) (vN 500 (fun _ => 0)) 500) (vL 500 (fun _ => 0)) 500
section
variable {E : xE} {d : Nat} {h : xH}
theorem j_min {x y : Nat} (hx : x < 2 ^ 31) (hy : y < 2 ^ 31) : xG E d mJ_min 0 [(0, .int (nI x)), (1, .int (nI y))] [] false h (false, .inl (some (.int (nI (min x y)))), h) := by
  refine x_iload_n dJ_min_0 rfl ?_
  refine x_iload_n dJ_min_1 rfl ?_
  refine x_icmp_gt 9 dJ_min_2 (by decide) (fun hc => ?_) (fun hc => ?_)
  · rw [Nat.min_eq_right (Nat.le_of_lt ((nI_ltI hy hx).mp hc))]
    refine x_iload_n dJ_min_9 rfl ?_
    exact x_iret rfl dJ_min_10
  · rw [Nat.min_eq_left (Nat.not_lt.mp (fun q => hc (nI_lt q hx)))]
    refine x_iload_n dJ_min_5 rfl ?_
    refine x_goto 10 dJ_min_6 (by decide) ?_
    exact x_iret rfl dJ_min_10
theorem j_bitCount {x : Int32} : xG E d mJ_bitCount 0 [(0, .int x)] [] false h (false, .inl (some (.int (bcF x))), h) := by
  refine x_iload_n dJ_bitCount_0 rfl ?_
  refine x_iload_n dJ_bitCount_1 rfl ?_
  refine x_iconst (v := (nI 1)) dJ_bitCount_2 (by decide) ?_
  refine x_iushr dJ_bitCount_3 ?_
  refine x_ldcw dJ_bitCount_4 kw_347 ?_
  refine x_iand dJ_bitCount_7 ?_
  refine x_isub dJ_bitCount_8 ?_
  refine x_top (v' := .int (bc1 x)) rfl ?_
  refine x_istore_n dJ_bitCount_9 (Nat.le_of_ble_eq_true rfl) ?_
  refine x_iload_n dJ_bitCount_10 rfl ?_
  refine x_ldcw dJ_bitCount_11 kw_348 ?_
  refine x_iand dJ_bitCount_14 ?_
  refine x_iload_n dJ_bitCount_15 rfl ?_
  refine x_iconst (v := (nI 2)) dJ_bitCount_16 (by decide) ?_
  refine x_iushr dJ_bitCount_17 ?_
  refine x_ldcw dJ_bitCount_18 kw_348 ?_
  refine x_iand dJ_bitCount_21 ?_
  refine x_iadd dJ_bitCount_22 ?_
  refine x_top (v' := .int (bc2 (bc1 x))) rfl ?_
  refine x_istore_n dJ_bitCount_23 (Nat.le_of_ble_eq_true rfl) ?_
  refine x_iload_n dJ_bitCount_24 rfl ?_
  refine x_iload_n dJ_bitCount_25 rfl ?_
  refine x_iconst (v := (nI 4)) dJ_bitCount_26 (by decide) ?_
  refine x_iushr dJ_bitCount_27 ?_
  refine x_iadd dJ_bitCount_28 ?_
  refine x_ldcw dJ_bitCount_29 kw_349 ?_
  refine x_iand dJ_bitCount_32 ?_
  refine x_top (v' := .int (bc3 (bc2 (bc1 x)))) rfl ?_
  refine x_istore_n dJ_bitCount_33 (Nat.le_of_ble_eq_true rfl) ?_
  refine x_iload_n dJ_bitCount_34 rfl ?_
  refine x_iload_n dJ_bitCount_35 rfl ?_
  refine x_bipush (v := (nI 8)) dJ_bitCount_36 (by decide) ?_
  refine x_iushr dJ_bitCount_38 ?_
  refine x_iadd dJ_bitCount_39 ?_
  refine x_top (v' := .int (bc4 (bc3 (bc2 (bc1 x))))) rfl ?_
  refine x_istore_n dJ_bitCount_40 (Nat.le_of_ble_eq_true rfl) ?_
  refine x_iload_n dJ_bitCount_41 rfl ?_
  refine x_iload_n dJ_bitCount_42 rfl ?_
  refine x_bipush (v := (nI 16)) dJ_bitCount_43 (by decide) ?_
  refine x_iushr dJ_bitCount_45 ?_
  refine x_iadd dJ_bitCount_46 ?_
  refine x_top (v' := .int (bc5 (bc4 (bc3 (bc2 (bc1 x)))))) rfl ?_
  refine x_istore_n dJ_bitCount_47 (Nat.le_of_ble_eq_true rfl) ?_
  refine x_iload_n dJ_bitCount_48 rfl ?_
  refine x_bipush (v := 63) dJ_bitCount_49 (by decide) ?_
  refine x_iand dJ_bitCount_51 ?_
  exact x_iret rfl dJ_bitCount_52
theorem v_init_loop {a : Nat} (hb : E.2.2.1 ≤ a) (ha : h.1 a = some (vV a 0)) : ∀ m i : Nat, i + m = 16 → xG E d mV_init 33 [(1, .int (nI i)), (0, .ref a)] [] true (vput h a (fun q => if q < i then q else 0, fun _ => 0, fun _ => 0)) (true, .inl none, xset (vput h a (fun q => if q < 16 then q else 0, fun _ => 0, fun _ => 0)) a (vV a 16)) := by
  intro m
  induction m with
  | zero =>
    intro i hi
    obtain rfl : i = 16 := by omega
    have hav : (vput h a (fun q => if q < 16 then q else 0, fun _ => 0, fun _ => 0)).1 a = some (vV a 0) := (vput_ne h _ (by omega) (by omega) (by omega)).trans ha
    refine x_iload_n dV_init_33 rfl ?_
    refine x_bipush (v := (nI 16)) dV_init_34 (by decide) ?_
    refine x_icmp_ge 52 dV_init_36 (by decide) (fun _ => ?_) (fun hc => absurd (nI_le (by omega) (by omega)) hc)
    refine x_aload_n dV_init_52 rfl ?_
    refine x_bipush (v := (nI 16)) dV_init_53 (by decide) ?_
    refine x_put fV_size dV_init_55 (by assumption) hb rfl rfl (Nat.le_of_ble_eq_true rfl) ?_
    exact x_vret rfl dV_init_58
  | succ m ih =>
    intro i hi
    have hav : (vput h a (fun q => if q < i then q else 0, fun _ => 0, fun _ => 0)).1 a = some (vV a 0) := (vput_ne h _ (by omega) (by omega) (by omega)).trans ha
    refine x_iload_n dV_init_33 rfl ?_
    refine x_bipush (v := (nI 16)) dV_init_34 (by decide) ?_
    refine x_icmp_ge 52 dV_init_36 (by decide) (fun hc => absurd hc (nI_ge (by omega) (by omega))) (fun _ => ?_)
    refine x_aload_n dV_init_39 rfl ?_
    refine x_get fV_cells dV_init_40 (by assumption) rfl ?_
    refine x_iload_n dV_init_43 rfl ?_
    refine x_iload_n dV_init_44 rfl ?_
    refine x_iast i dV_init_45 (vput_1 h a _) (by omega) rfl (by omega) (by decide) ?_
    rw [up_nI]
    have e : va_up (fun q => if q < i then q else 0) i i = fun q => if q < i + 1 then q else 0 := by
      funext q
      by_cases hq : q = i
      · simp [va_up, hq]
      · by_cases h2 : q < i
        · simp [va_up, hq, h2, Nat.lt_succ_of_lt h2]
        · simp [va_up, hq, h2, show ¬ q < i + 1 by omega]
    refine x_heq (h' := vput h a (fun q => if q < i + 1 then q else 0, fun _ => 0, fun _ => 0)) ?_ ?_
    · dsimp only
      rw [e]
      unfold vput
      rw [xset_comm _ (show a + 3 ≠ a + 1 by omega), xset_comm _ (show a + 2 ≠ a + 1 by omega), xset_twice]
    refine x_iinc (v := nI (i + 1)) dV_init_46 rfl (by rw [nI_succ]; rfl) (Nat.le_of_ble_eq_true rfl) ?_
    refine x_goto 33 dV_init_49 (by decide) ?_
    exact ih (i + 1) (by omega)
theorem v_init {a : Nat} (hb : E.2.2.1 ≤ a) (ha : h.1 a = some (.inr (2, [.null, .null, .null, .int 0]))) (hz1 : h.2.1 = a + 1) :
    xG E d mV_init 0 [(0, .ref a)] [] false h (true, .inl none, xset (vput (xset (vnew h) a (vV a 0)) a (fun q => if q < 16 then q else 0, fun _ => 0, fun _ => 0)) a (vV a 16)) := by
  obtain ⟨hm, z, u⟩ := h
  dsimp only at hz1 ha
  subst hz1
  refine x_aload_n dV_init_0 rfl ?_
  refine x_objInit dV_init_1 kw_59 kw_19 kw_20 (Nat.le_of_ble_eq_true rfl) ?_
  refine x_aload_n dV_init_4 rfl ?_
  refine x_sipush (v := (nI 500)) dV_init_5 (by decide) ?_
  refine x_newi 500 dV_init_8 kw_52 rfl (by decide) ?_
  refine x_putF fV_cells rfl dV_init_10 ((xadd_ne _ _ _ (by simp)).trans ha) hb rfl rfl (Nat.le_of_ble_eq_true rfl) ?_
  refine x_aload_n dV_init_13 rfl ?_
  refine x_sipush (v := (nI 500)) dV_init_14 (by decide) ?_
  refine x_newi 500 dV_init_17 kw_52 rfl (by decide) ?_
  refine x_putF fV_clocks rfl dV_init_19 ((xadd_ne _ _ _ (by simp [xset, xadd]; omega)).trans (xset_eq _ _ _)) hb rfl rfl (Nat.le_of_ble_eq_true rfl) ?_
  refine x_aload_n dV_init_22 rfl ?_
  refine x_sipush (v := (nI 500)) dV_init_23 (by decide) ?_
  refine x_newl 500 dV_init_26 kw_53 rfl (by decide) ?_
  refine x_putF fV_values rfl dV_init_28 ((xadd_ne _ _ _ (by simp [xset, xadd]; omega)).trans (xset_eq _ _ _)) hb rfl rfl (Nat.le_of_ble_eq_true rfl) ?_
  refine x_heq (h' := xset (vnew (hm, a + 1, u)) a (vV a 0)) ?_ ?_
  · simp only [xset, xadd, vnew]
    congr 1
    funext q
    by_cases h1 : q = a
    · simp [h1]; rfl
    · by_cases h2 : q = a + 1
      · simp [h2]; rfl
      · by_cases h3 : q = a + 2
        · simp [h3]; rfl
        · simp [h1, h2, h3]
  refine x_iconst (v := (nI 0)) dV_init_31 (by decide) ?_
  refine x_istore_n dV_init_32 (Nat.le_of_ble_eq_true rfl) ?_
  have := v_init_loop (E := E) (d := d) (h := xset (vnew (hm, a + 1, u)) a (vV a 0)) hb (xset_eq _ _ _) 16 0 (by omega)
  rw [vput_self] at this
  · exact this
  · rw [xset_ne _ _ (by omega)]; simp [vnew, xadd]
  · rw [xset_ne _ _ (by omega)]; simp [vnew, xadd]
  · rw [xset_ne _ _ (by omega)]; simp [vnew, xadd]
end
