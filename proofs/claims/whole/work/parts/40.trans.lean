/-! Transaction: each method over any heap that holds its cells -/
def xb (o : Bool) : Int32 := if o then 1 else 0
theorem xb_n (o : Bool) : narrow .boolean (.int (xb o)) = .int (xb o) := by cases o <;> rfl
def xbit (c : Nat) : Int32 := (1 : Int32) <<< (nI c &&& 31)
/-- a number less one: -1 for nought -/
def xpi : Nat → Int32
  | 0 => -1
  | i + 1 => nI i
theorem xpi_of (i : Nat) : nI i - nI 1 = xpi i := by
  cases i with
  | zero => decide
  | succ i => rw [show nI (i + 1) = nI i + 1 from nI_succ i, show nI 1 = (1 : Int32) from rfl]; exact Int32.add_sub_cancel _ _
theorem xpi_dec (i : Nat) : xpi (i + 1) + Int32.ofInt (-1) = xpi i := by
  have e : Int32.ofInt (-1) = -nI 1 := by decide
  rw [← xpi_of i, e, ← Int32.sub_eq_add_neg]
  rfl
theorem xpi_neg (i : Nat) (h : i < 2 ^ 31) : xpi i < 0 ↔ i = 0 := by
  cases i with
  | zero => simp [xpi]
  | succ i => simp only [xpi]; exact ⟨fun q => absurd q (nI_pos (by omega)), fun q => by cases q⟩
theorem x_top {E : xE} {d : Nat} {M : xM} {pc : Nat} {lv : xL} {st : List Value} {w : Bool} {h : xH} {r : xR} {v v' : Value} (e : v = v') (k : xG E d M pc lv (v' :: st) w h r) : xG E d M pc lv (v :: st) w h r := by subst e; exact k
abbrev vT (a : Nat) (o : Bool) (s k l : Nat) (sn : Int32) : xC := .inr (1, [.int (xb o), .int (nI s), .int (nI k), .int (nI l), .int sn, .ref (a + 1), .ref (a + 2)])
abbrev vI (n : Nat) (f : Nat → Int32) : xC := .inl (.int, n, .inl f)
abbrev vL (n : Nat) (f : Nat → Int64) : xC := .inl (.long, n, .inr (.inl f))
abbrev vR (a : Nat) : xC := .inl (.array .long, 8, .inr (.inr (fun i => if i < 8 then some (a + 2 + 1 + i) else none)))
def orW (f : Nat → Int32) : Nat → Int32
  | 0 => 0
  | n + 1 => orW f n ||| f n
def hiW (f : Nat → Int32) (c : Nat) : Nat → Nat
  | 0 => 0
  | n + 1 => if f n &&& xbit c = 0 then hiW f c n else n + 1
section
variable {E : xE} {d a : Nat} {o : Bool} {s k l : Nat} {sn : Int32} {h : xH}
theorem t_isOpen (ha : h.1 a = some (vT a o s k l sn)) : xG E d mT_isOpen 0 [(0, .ref a)] [] false h (false, .inl (some (.int (xb o))), h) := by
  refine x_aload_n dT_isOpen_0 rfl ?_
  refine x_get fT_open dT_isOpen_1 (by assumption) rfl ?_
  exact x_zret (xb_n o) rfl dT_isOpen_4
theorem t_start (ha : h.1 a = some (vT a o s k l sn)) : xG E d mT_start 0 [(0, .ref a)] [] false h (false, .inl (some (.int (nI s))), h) := by
  refine x_aload_n dT_start_0 rfl ?_
  refine x_get fT_start dT_start_1 (by assumption) rfl ?_
  exact x_iret rfl dT_start_4
theorem t_kind (ha : h.1 a = some (vT a o s k l sn)) : xG E d mT_kind 0 [(0, .ref a)] [] false h (false, .inl (some (.int (nI k))), h) := by
  refine x_aload_n dT_kind_0 rfl ?_
  refine x_get fT_kind dT_kind_1 (by assumption) rfl ?_
  exact x_iret rfl dT_kind_4
theorem t_layers (ha : h.1 a = some (vT a o s k l sn)) : xG E d mT_layers 0 [(0, .ref a)] [] false h (false, .inl (some (.int (nI l))), h) := by
  refine x_aload_n dT_layers_0 rfl ?_
  refine x_get fT_layers dT_layers_1 (by assumption) rfl ?_
  exact x_iret rfl dT_layers_4
theorem t_seen (ha : h.1 a = some (vT a o s k l sn)) : xG E d mT_seen 0 [(0, .ref a)] [] false h (false, .inl (some (.int sn)), h) := by
  refine x_aload_n dT_seen_0 rfl ?_
  refine x_get fT_seen dT_seen_1 (by assumption) rfl ?_
  exact x_iret rfl dT_seen_4
theorem t_close (hb : E.2.2.1 ≤ a) (ha : h.1 a = some (vT a o s k l sn)) : xG E d mT_close 0 [(0, .ref a)] [] false h (true, .inl none, xset h a (vT a false s k l sn)) := by
  refine x_aload_n dT_close_0 rfl ?_
  refine x_iconst (v := (nI 0)) dT_close_1 (by decide) ?_
  refine x_put fT_open dT_close_2 (by assumption) hb rfl rfl (Nat.le_of_ble_eq_true rfl) ?_
  exact x_vret rfl dT_close_5
theorem t_open {s' k' : Nat} {f : Nat → Int32} (hb : E.2.2.1 ≤ a) (ha : h.1 a = some (vT a o s k l sn)) (hw : h.1 (a + 1) = some (vI 8 f)) : xG E d mT_open 0 [(0, .ref a), (1, .int (nI s')), (2, .int (nI k'))] [] false h (true, .inl none, xset (xset h a (vT a true s' k' 1 0)) (a + 1) (vI 8 (va_up f 0 0))) := by
  have e1 : ∀ c1 c2 : xC, xset (xset h a c1) a c2 = xset h a c2 := fun c1 c2 => by simp [xset]; funext q; by_cases hq : q = a <;> simp [hq]
  refine x_aload_n dT_open_0 rfl ?_
  refine x_iconst (v := 1) dT_open_1 (by decide) ?_
  refine x_put fT_open dT_open_2 (by assumption) hb rfl rfl (Nat.le_of_ble_eq_true rfl) ?_
  refine x_aload_n dT_open_5 rfl ?_
  refine x_iload_n dT_open_6 rfl ?_
  refine x_put fT_start dT_open_7 (xset_eq _ _ _) hb rfl rfl (Nat.le_of_ble_eq_true rfl) ?_
  rw [e1]
  refine x_aload_n dT_open_10 rfl ?_
  refine x_iload_n dT_open_11 rfl ?_
  refine x_put fT_kind dT_open_12 (xset_eq _ _ _) hb rfl rfl (Nat.le_of_ble_eq_true rfl) ?_
  rw [e1]
  refine x_aload_n dT_open_15 rfl ?_
  refine x_iconst (v := (nI 1)) dT_open_16 (by decide) ?_
  refine x_put fT_layers dT_open_17 (xset_eq _ _ _) hb rfl rfl (Nat.le_of_ble_eq_true rfl) ?_
  rw [e1]
  refine x_aload_n dT_open_20 rfl ?_
  refine x_iconst (v := 0) dT_open_21 (by decide) ?_
  refine x_put fT_seen dT_open_22 (xset_eq _ _ _) hb rfl rfl (Nat.le_of_ble_eq_true rfl) ?_
  rw [e1]
  refine x_aload_n dT_open_25 rfl ?_
  refine x_get fT_wrote dT_open_26 (xset_eq _ _ _) rfl ?_
  refine x_iconst (v := (nI 0)) dT_open_29 (by decide) ?_
  refine x_iconst (v := 0) dT_open_30 (by decide) ?_
  refine x_iast 0 dT_open_31 ((xset_ne _ _ (by omega)).trans hw) (by omega) rfl (by decide) (by decide) ?_
  exact x_vret rfl dT_open_32
theorem t_see {c : Nat} (hb : E.2.2.1 ≤ a) (ha : h.1 a = some (vT a o s k l sn)) : xG E d mT_see 0 [(0, .ref a), (1, .int (nI c))] [] false h (true, .inl none, xset h a (vT a o s k l (sn ||| xbit c))) := by
  refine x_aload_n dT_see_0 rfl ?_
  refine x_dup dT_see_1 rfl ?_
  refine x_get fT_seen dT_see_2 (by assumption) rfl ?_
  refine x_iconst (v := 1) dT_see_5 (by decide) ?_
  refine x_iload_n dT_see_6 rfl ?_
  refine x_ishl dT_see_7 ?_
  refine x_ior dT_see_8 ?_
  refine x_put fT_seen dT_see_9 (by assumption) hb rfl rfl (Nat.le_of_ble_eq_true rfl) ?_
  exact x_vret rfl dT_see_12
theorem t_written_loop {f : Nat → Int32} (hl : l ≤ 8) (ha : h.1 a = some (vT a o s k l sn)) (hw : h.1 (a + 1) = some (vI 8 f)) : ∀ m i : Nat, i + m = l → xG E d mT_written 4 [(2, .int (nI i)), (1, .int (orW f i)), (0, .ref a)] [] false h (false, .inl (some (.int (orW f l))), h) := by
  intro m
  induction m with
  | zero =>
    intro i hi
    obtain rfl : i = l := by omega
    refine x_iload_n dT_written_4 rfl ?_
    refine x_aload_n dT_written_5 rfl ?_
    refine x_get fT_layers dT_written_6 (by assumption) rfl ?_
    refine x_icmp_ge 27 dT_written_9 (by decide) (fun _ => ?_) (fun hc => absurd (nI_le (Nat.le_refl _) (by omega)) hc)
    refine x_iload_n dT_written_27 rfl ?_
    exact x_iret rfl dT_written_28
  | succ m ih =>
    intro i hi
    refine x_iload_n dT_written_4 rfl ?_
    refine x_aload_n dT_written_5 rfl ?_
    refine x_get fT_layers dT_written_6 (by assumption) rfl ?_
    refine x_icmp_ge 27 dT_written_9 (by decide) (fun hc => absurd hc (nI_ge (by omega) (by omega))) (fun _ => ?_)
    refine x_iload_n dT_written_12 rfl ?_
    refine x_aload_n dT_written_13 rfl ?_
    refine x_get fT_wrote dT_written_14 (by assumption) rfl ?_
    refine x_iload_n dT_written_17 rfl ?_
    refine x_iald i dT_written_18 (by assumption) rfl (by omega) (by decide) ?_
    refine x_ior dT_written_19 ?_
    refine x_istore_n dT_written_20 (Nat.le_of_ble_eq_true rfl) ?_
    refine x_iinc (v := nI (i + 1)) dT_written_21 rfl (by rw [nI_succ]; rfl) (Nat.le_of_ble_eq_true rfl) ?_
    refine x_goto 4 dT_written_24 (by decide) ?_
    exact ih (i + 1) (by omega)
theorem t_written {f : Nat → Int32} (hl : l ≤ 8) (ha : h.1 a = some (vT a o s k l sn)) (hw : h.1 (a + 1) = some (vI 8 f)) : xG E d mT_written 0 [(0, .ref a)] [] false h (false, .inl (some (.int (orW f l))), h) := by
  refine x_iconst (v := (nI 0)) dT_written_0 (by decide) ?_
  refine x_istore_n dT_written_1 (Nat.le_of_ble_eq_true rfl) ?_
  refine x_iconst (v := (nI 0)) dT_written_2 (by decide) ?_
  refine x_istore_n dT_written_3 (Nat.le_of_ble_eq_true rfl) ?_
  exact t_written_loop hl ha hw l 0 (by omega)
theorem t_heeded {f : Nat → Int32} (hl : l ≤ 8) (hk : k < 2) (ha : h.1 a = some (vT a o s k l sn)) (hw : h.1 (a + 1) = some (vI 8 f)) : xG E (d + 1) mT_heeded 0 [(0, .ref a)] [] false h (false, .inl (some (.int (if k = 1 then orW f l ||| sn else orW f l))), h) := by
  refine x_aload_n dT_heeded_0 rfl ?_
  refine x_get fT_kind dT_heeded_1 (by assumption) rfl ?_
  refine x_iconst (v := (nI 1)) dT_heeded_4 (by decide) ?_
  refine x_icmp_ne 20 dT_heeded_5 (by decide) (fun hc => ?_) (fun hc => ?_)
  · rw [if_neg (fun q => hc (by rw [q]))]
    refine x_aload_n dT_heeded_20 rfl ?_
    refine x_callV0 cT_T_written dT_heeded_21 (by assumption) (Nat.le_of_ble_eq_true rfl) (Nat.le_of_ble_eq_true rfl) (t_written hl ha hw) ?_
    exact x_iret rfl dT_heeded_24
  · rw [if_pos ((nI_eq (by omega) (by decide)).mp hc)]
    refine x_aload_n dT_heeded_8 rfl ?_
    refine x_callV0 cT_T_written dT_heeded_9 (by assumption) (Nat.le_of_ble_eq_true rfl) (Nat.le_of_ble_eq_true rfl) (t_written hl ha hw) ?_
    refine x_aload_n dT_heeded_12 rfl ?_
    refine x_get fT_seen dT_heeded_13 (by assumption) rfl ?_
    refine x_ior dT_heeded_16 ?_
    refine x_goto 24 dT_heeded_17 (by decide) ?_
    exact x_iret rfl dT_heeded_24
theorem t_ltw_loop {f : Nat → Int32} {c : Nat} (hl : l ≤ 8) (ha : h.1 a = some (vT a o s k l sn)) (hw : h.1 (a + 1) = some (vI 8 f)) : ∀ i : Nat, i ≤ l → xG E d mT_layerThatWrote 7 [(2, .int (xpi i)), (0, .ref a), (1, .int (nI c))] [] false h (false, .inl (some (.int (xpi (hiW f c i)))), h) := by
  intro i
  induction i with
  | zero =>
    intro hi
    refine x_iload_n dT_layerThatWrote_7 rfl ?_
    refine x_if_lt 30 dT_layerThatWrote_8 (by decide) (fun _ => ?_) (fun hc => absurd ((xpi_neg 0 (by decide)).mpr rfl) hc)
    refine x_iload_n dT_layerThatWrote_30 rfl ?_
    exact x_iret rfl dT_layerThatWrote_31
  | succ i ih =>
    intro hi
    refine x_iload_n dT_layerThatWrote_7 rfl ?_
    refine x_if_lt 30 dT_layerThatWrote_8 (by decide) (fun hc => absurd ((xpi_neg _ (by omega)).mp hc) (by omega)) (fun _ => ?_)
    refine x_aload_n dT_layerThatWrote_11 rfl ?_
    refine x_get fT_wrote dT_layerThatWrote_12 (by assumption) rfl ?_
    refine x_iload_n dT_layerThatWrote_15 rfl ?_
    refine x_iald i dT_layerThatWrote_16 (by assumption) rfl (by omega) (by decide) ?_
    refine x_iconst (v := 1) dT_layerThatWrote_17 (by decide) ?_
    refine x_iload_n dT_layerThatWrote_18 rfl ?_
    refine x_ishl dT_layerThatWrote_19 ?_
    refine x_iand dT_layerThatWrote_20 ?_
    refine x_if_ne 30 dT_layerThatWrote_21 (by decide) (fun hc => ?_) (fun hc => ?_)
    · rw [show hiW f c (i + 1) = i + 1 from if_neg hc]
      refine x_iload_n dT_layerThatWrote_30 rfl ?_
      exact x_iret rfl dT_layerThatWrote_31
    · rw [show hiW f c (i + 1) = hiW f c i from if_pos hc]
      refine x_iinc (v := xpi i) dT_layerThatWrote_24 rfl (xpi_dec i) (Nat.le_of_ble_eq_true rfl) ?_
      refine x_goto 7 dT_layerThatWrote_27 (by decide) ?_
      exact ih (by omega)
theorem t_ltw {f : Nat → Int32} {c : Nat} (hl : l ≤ 8) (ha : h.1 a = some (vT a o s k l sn)) (hw : h.1 (a + 1) = some (vI 8 f)) : xG E d mT_layerThatWrote 0 [(0, .ref a), (1, .int (nI c))] [] false h (false, .inl (some (.int (xpi (hiW f c l)))), h) := by
  refine x_aload_n dT_layerThatWrote_0 rfl ?_
  refine x_get fT_layers dT_layerThatWrote_1 (by assumption) rfl ?_
  refine x_iconst (v := (nI 1)) dT_layerThatWrote_4 (by decide) ?_
  refine x_isub dT_layerThatWrote_5 ?_
  refine x_top (by rw [xpi_of]) ?_
  refine x_istore_n dT_layerThatWrote_6 (Nat.le_of_ble_eq_true rfl) ?_
  exact t_ltw_loop hl ha hw l (Nat.le_refl _)
theorem t_valueIn {i c : Nat} {g : Nat → Int64} (hi : i < 8) (hc : c < 16) (ha : h.1 a = some (vT a o s k l sn)) (hv : h.1 (a + 2) = some (vR a)) (hr : h.1 (a + 2 + 1 + i) = some (vL 16 g)) : xG E d mT_valueIn 0 [(0, .ref a), (1, .int (nI i)), (2, .int (nI c))] [] false h (false, .inl (some (.long (g c))), h) := by
  refine x_aload_n dT_valueIn_0 rfl ?_
  refine x_get fT_values dT_valueIn_1 (by assumption) rfl ?_
  refine x_iload_n dT_valueIn_4 rfl ?_
  refine x_aald i (a + 2 + 1 + i) dT_valueIn_5 (by assumption) rfl (if_pos hi) rfl (by omega) (by decide) ?_
  refine x_iload_n dT_valueIn_6 rfl ?_
  refine x_lald c dT_valueIn_7 (by assumption) rfl (by omega) (by decide) ?_
  exact x_lret rfl dT_valueIn_8
theorem t_putIn {i c : Nat} {v : Int64} {f : Nat → Int32} {g : Nat → Int64} (hb : E.2.2.1 ≤ a) (hi : i < 8) (hc : c < 16) (ha : h.1 a = some (vT a o s k l sn)) (hw : h.1 (a + 1) = some (vI 8 f)) (hv : h.1 (a + 2) = some (vR a)) (hr : h.1 (a + 2 + 1 + i) = some (vL 16 g)) : xG E d mT_putIn 0 [(0, .ref a), (1, .int (nI i)), (2, .int (nI c)), (3, .long v)] [] false h (true, .inl none, xset (xset h (a + 1) (vI 8 (va_up f i (f i ||| xbit c)))) (a + 2 + 1 + i) (vL 16 (va_up g c v))) := by
  refine x_aload_n dT_putIn_0 rfl ?_
  refine x_get fT_wrote dT_putIn_1 (by assumption) rfl ?_
  refine x_iload_n dT_putIn_4 rfl ?_
  refine x_dup2 dT_putIn_5 rfl rfl ?_
  refine x_iald i dT_putIn_6 (by assumption) rfl (by omega) (by decide) ?_
  refine x_iconst (v := 1) dT_putIn_7 (by decide) ?_
  refine x_iload_n dT_putIn_8 rfl ?_
  refine x_ishl dT_putIn_9 ?_
  refine x_ior dT_putIn_10 ?_
  refine x_iast i dT_putIn_11 hw (by omega) rfl hi (by decide) ?_
  refine x_aload_n dT_putIn_12 rfl ?_
  refine x_get fT_values dT_putIn_13 ((xset_ne _ _ (by omega)).trans ha) rfl ?_
  refine x_iload_n dT_putIn_16 rfl ?_
  refine x_aald i (a + 2 + 1 + i) dT_putIn_17 ((xset_ne _ _ (by omega)).trans hv) rfl (if_pos hi) rfl hi (by decide) ?_
  refine x_iload_n dT_putIn_18 rfl ?_
  refine x_lload_n dT_putIn_19 rfl ?_
  refine x_last c dT_putIn_20 ((xset_ne _ _ (by omega)).trans hr) (by omega) rfl hc (by decide) ?_
  exact x_vret rfl dT_putIn_21
theorem t_put {c : Nat} {v : Int64} {f : Nat → Int32} {g : Nat → Int64} (hb : E.2.2.1 ≤ a) (hl0 : 0 < l) (hl : l ≤ 8) (hc : c < 16) (ha : h.1 a = some (vT a o s k l sn)) (hw : h.1 (a + 1) = some (vI 8 f)) (hv : h.1 (a + 2) = some (vR a)) (hr : h.1 (a + 2 + 1 + (l - 1)) = some (vL 16 g)) : xG E (d + 1) mT_put 0 [(0, .ref a), (1, .int (nI c)), (2, .long v)] [] false h (true, .inl none, xset (xset h (a + 1) (vI 8 (va_up f (l - 1) (f (l - 1) ||| xbit c)))) (a + 2 + 1 + (l - 1)) (vL 16 (va_up g c v))) := by
  refine x_aload_n dT_put_0 rfl ?_
  refine x_aload_n dT_put_1 rfl ?_
  refine x_get fT_layers dT_put_2 (by assumption) rfl ?_
  refine x_iconst (v := (nI 1)) dT_put_5 (by decide) ?_
  refine x_isub dT_put_6 ?_
  refine x_top (v' := .int (nI (l - 1))) (by rw [pk_sub hl0]) ?_
  refine x_iload_n dT_put_7 rfl ?_
  refine x_lload_n dT_put_8 rfl ?_
  refine x_callV3 cT_T_putIn dT_put_9 (by assumption) (Nat.le_of_ble_eq_true rfl) (Nat.le_of_ble_eq_true rfl) (t_putIn hb (by omega) hc ha hw hv hr) ?_
  exact x_vret rfl dT_put_12
theorem t_addLayer {f : Nat → Int32} (hb : E.2.2.1 ≤ a) (hl : l < 8) (ha : h.1 a = some (vT a o s k l sn)) (hw : h.1 (a + 1) = some (vI 8 f)) : xG E d mT_addLayer 0 [(0, .ref a)] [] false h (true, .inl none, xset (xset h (a + 1) (vI 8 (va_up f l 0))) a (vT a o s k (l + 1) sn)) := by
  refine x_aload_n dT_addLayer_0 rfl ?_
  refine x_get fT_layers dT_addLayer_1 (by assumption) rfl ?_
  refine x_bipush (v := (nI 8)) dT_addLayer_4 (by decide) ?_
  refine x_icmp_ge 29 dT_addLayer_6 (by decide) (fun hc => absurd hc (nI_ge (by omega) (by decide))) (fun _ => ?_)
  refine x_aload_n dT_addLayer_9 rfl ?_
  refine x_get fT_wrote dT_addLayer_10 (by assumption) rfl ?_
  refine x_aload_n dT_addLayer_13 rfl ?_
  refine x_get fT_layers dT_addLayer_14 (by assumption) rfl ?_
  refine x_iconst (v := 0) dT_addLayer_17 (by decide) ?_
  refine x_iast l dT_addLayer_18 hw (by omega) rfl hl (by decide) ?_
  refine x_aload_n dT_addLayer_19 rfl ?_
  refine x_dup dT_addLayer_20 rfl ?_
  refine x_get fT_layers dT_addLayer_21 ((xset_ne _ _ (by omega)).trans ha) rfl ?_
  refine x_iconst (v := (nI 1)) dT_addLayer_24 (by decide) ?_
  refine x_iadd dT_addLayer_25 ?_
  refine x_top (v' := .int (nI (l + 1))) (by rw [nI_add]) ?_
  refine x_put fT_layers dT_addLayer_26 ((xset_ne _ _ (by omega)).trans ha) hb rfl rfl (Nat.le_of_ble_eq_true rfl) ?_
  exact x_vret rfl dT_addLayer_29
theorem t_removeLayer (hb : E.2.2.1 ≤ a) (hl : 1 < l) (hl8 : l ≤ 8) (ha : h.1 a = some (vT a o s k l sn)) : xG E d mT_removeLayer 0 [(0, .ref a)] [] false h (true, .inl none, xset h a (vT a o s k (l - 1) sn)) := by
  refine x_aload_n dT_removeLayer_0 rfl ?_
  refine x_get fT_layers dT_removeLayer_1 (by assumption) rfl ?_
  refine x_iconst (v := (nI 1)) dT_removeLayer_4 (by decide) ?_
  refine x_icmp_le 18 dT_removeLayer_5 (by decide) (fun hc => absurd hc (nI_ge hl (by omega))) (fun _ => ?_)
  refine x_aload_n dT_removeLayer_8 rfl ?_
  refine x_dup dT_removeLayer_9 rfl ?_
  refine x_get fT_layers dT_removeLayer_10 (by assumption) rfl ?_
  refine x_iconst (v := (nI 1)) dT_removeLayer_13 (by decide) ?_
  refine x_isub dT_removeLayer_14 ?_
  refine x_top (v' := .int (nI (l - 1))) (by rw [pk_sub (by omega)]) ?_
  refine x_put fT_layers dT_removeLayer_15 ha hb rfl rfl (Nat.le_of_ble_eq_true rfl) ?_
  exact x_vret rfl dT_removeLayer_18
end
