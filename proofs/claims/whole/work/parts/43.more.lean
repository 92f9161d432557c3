/-! Transaction.copyHighestLayerDown, the constructors, the two JDK methods -/
def cdW (top low : Int32) : Nat → Int32
  | 0 => low
  | n + 1 => if top &&& xbit n = 0 then cdW top low n else cdW top low n ||| xbit n
def cdR (top : Int32) (hi lo : Nat → Int64) : Nat → Nat → Int64
  | 0 => lo
  | n + 1 => if top &&& xbit n = 0 then cdR top hi lo n else va_up (cdR top hi lo n) n (hi n)
section
variable {E : xE} {d a : Nat} {o : Bool} {s k l : Nat} {sn : Int32} {h : xH}
/-- wrote and one row of values of a transaction -/
def tput (h : xH) (a i : Nat) (f : Nat → Int32) (g : Nat → Int64) : xH := xset (xset h (a + 1) (vI 8 f)) (a + 2 + 1 + i) (vL 16 g)
theorem tput_1 (h : xH) (a i : Nat) (f : Nat → Int32) (g : Nat → Int64) : (tput h a i f g).1 (a + 1) = some (vI 8 f) := by
  unfold tput; rw [xset_ne _ _ (by omega), xset_eq]
theorem tput_2 (h : xH) (a i : Nat) (f : Nat → Int32) (g : Nat → Int64) : (tput h a i f g).1 (a + 2 + 1 + i) = some (vL 16 g) := by
  unfold tput; rw [xset_eq]
theorem tput_ne (h : xH) {a i q : Nat} (f : Nat → Int32) (g : Nat → Int64) (h1 : q ≠ a + 1) (h2 : q ≠ a + 2 + 1 + i) : (tput h a i f g).1 q = h.1 q := by
  unfold tput; rw [xset_ne _ _ h2, xset_ne _ _ h1]
theorem tput_self {h : xH} {a i : Nat} {f : Nat → Int32} {g : Nat → Int64} (h1 : h.1 (a + 1) = some (vI 8 f)) (h2 : h.1 (a + 2 + 1 + i) = some (vL 16 g)) : tput h a i f g = h := by
  unfold tput; rw [xset_self h1, xset_self h2]
theorem tput_twice (h : xH) (a i : Nat) (f f' : Nat → Int32) (g g' : Nat → Int64) : tput (tput h a i f g) a i f' g' = tput h a i f' g' := by
  unfold tput
  rw [xset_comm _ (show a + 2 + 1 + i ≠ a + 1 by omega), xset_twice, xset_twice]
theorem t_chd_loop {f : Nat → Int32} {hi lo : Nat → Int64} (hb : E.2.2.1 ≤ a) (hl : l + 2 ≤ 8) (ha : h.1 a = some (vT a o s k (l + 2) sn)) (hv : h.1 (a + 2) = some (vR a)) (hh : h.1 (a + 2 + 1 + (l + 1)) = some (vL 16 hi)) : ∀ m n : Nat, n + m = 16 →
    xG E (d + 1) mT_copyHighestLayerDown 9 [(2, .int (nI n)), (1, .int (nI (l + 1))), (0, .ref a)] [] true (tput h a l (va_up f l (cdW (f (l + 1)) (f l) n)) (cdR (f (l + 1)) hi lo n)) (true, .inl none, tput h a l (va_up f l (cdW (f (l + 1)) (f l) 16)) (cdR (f (l + 1)) hi lo 16)) := by
  intro m
  induction m with
  | zero =>
    intro n hn
    obtain rfl : n = 16 := by omega
    refine x_iload_n dT_copyHighestLayerDown_9 rfl ?_
    refine x_if_le 54 dT_copyHighestLayerDown_10 (by decide) (fun hc => absurd hc (nI_nle (by omega) (by omega))) (fun _ => ?_)
    refine x_iload_n dT_copyHighestLayerDown_13 rfl ?_
    refine x_bipush (v := (nI 16)) dT_copyHighestLayerDown_14 (by decide) ?_
    refine x_icmp_ge 54 dT_copyHighestLayerDown_16 (by decide) (fun _ => ?_) (fun hc => absurd (nI_le (by omega) (by omega)) hc)
    exact x_vret rfl dT_copyHighestLayerDown_54
  | succ m ih =>
    intro n hn
    generalize hF : va_up f l (cdW (f (l + 1)) (f l) n) = F
    generalize hG : cdR (f (l + 1)) hi lo n = G
    have hT : (tput h a l F G).1 a = some (vT a o s k (l + 2) sn) := (tput_ne h F G (by omega) (by omega)).trans ha
    have hV : (tput h a l F G).1 (a + 2) = some (vR a) := (tput_ne h F G (by omega) (by omega)).trans hv
    have hH : (tput h a l F G).1 (a + 2 + 1 + (l + 1)) = some (vL 16 hi) := (tput_ne h F G (by omega) (by omega)).trans hh
    have eF : F (l + 1) = f (l + 1) := by rw [← hF, up_ne _ _ (by omega)]
    have eFl : F l = cdW (f (l + 1)) (f l) n := by rw [← hF, up_eq]
    refine x_iload_n dT_copyHighestLayerDown_9 rfl ?_
    refine x_if_le 54 dT_copyHighestLayerDown_10 (by decide) (fun hc => absurd hc (nI_nle (by omega) (by omega))) (fun _ => ?_)
    refine x_iload_n dT_copyHighestLayerDown_13 rfl ?_
    refine x_bipush (v := (nI 16)) dT_copyHighestLayerDown_14 (by decide) ?_
    refine x_icmp_ge 54 dT_copyHighestLayerDown_16 (by decide) (fun hc => absurd hc (nI_ge (by omega) (by omega))) (fun _ => ?_)
    refine x_aload_n dT_copyHighestLayerDown_19 rfl ?_
    refine x_get fT_wrote dT_copyHighestLayerDown_20 (by assumption) rfl ?_
    refine x_iload_n dT_copyHighestLayerDown_23 rfl ?_
    refine x_iald (l + 1) dT_copyHighestLayerDown_24 (tput_1 h a l F G) rfl (by omega) (by decide) ?_
    refine x_iconst (v := 1) dT_copyHighestLayerDown_25 (by decide) ?_
    refine x_iload_n dT_copyHighestLayerDown_26 rfl ?_
    refine x_ishl dT_copyHighestLayerDown_27 ?_
    refine x_iand dT_copyHighestLayerDown_28 ?_
    rw [eF]
    refine x_if_eq 48 dT_copyHighestLayerDown_29 (by decide) (fun hc => ?_) (fun hc => ?_)
    · refine x_iinc (v := nI (n + 1)) dT_copyHighestLayerDown_48 rfl (by rw [nI_succ]; rfl) (Nat.le_of_ble_eq_true rfl) ?_
      refine x_goto 9 dT_copyHighestLayerDown_51 (by decide) ?_
      have := ih (n + 1) (by omega)
      rw [show cdW (f (l + 1)) (f l) (n + 1) = cdW (f (l + 1)) (f l) n from if_pos hc, show cdR (f (l + 1)) hi lo (n + 1) = cdR (f (l + 1)) hi lo n from if_pos hc, hF, hG] at this
      exact this
    · refine x_aload_n dT_copyHighestLayerDown_32 rfl ?_
      refine x_iload_n dT_copyHighestLayerDown_33 rfl ?_
      refine x_iconst (v := (nI 1)) dT_copyHighestLayerDown_34 (by decide) ?_
      refine x_isub dT_copyHighestLayerDown_35 ?_
      refine x_top (v' := .int (nI l)) (by rw [pk_sub (show 1 ≤ l + 1 by omega)]; rfl) ?_
      refine x_iload_n dT_copyHighestLayerDown_36 rfl ?_
      refine x_aload_n dT_copyHighestLayerDown_37 rfl ?_
      refine x_get fT_values dT_copyHighestLayerDown_38 (by assumption) rfl ?_
      refine x_iload_n dT_copyHighestLayerDown_41 rfl ?_
      refine x_aald (l + 1) (a + 2 + 1 + (l + 1)) dT_copyHighestLayerDown_42 (by assumption) rfl (if_pos (show l + 1 < 8 by omega)) rfl (by omega) (by decide) ?_
      refine x_iload_n dT_copyHighestLayerDown_43 rfl ?_
      refine x_lald n dT_copyHighestLayerDown_44 (by assumption) rfl (by omega) (by decide) ?_
      refine x_callV3 cT_T_putIn dT_copyHighestLayerDown_45 (by assumption) (Nat.le_of_ble_eq_true rfl) (Nat.le_of_ble_eq_true rfl) (t_putIn (i := l) (c := n) hb (by omega) (by omega) hT (tput_1 h a l F G) hV (tput_2 h a l F G)) ?_
      have e2 : xset (xset (tput h a l F G) (a + 1) (vI 8 (va_up F l (F l ||| xbit n)))) (a + 2 + 1 + l) (vL 16 (va_up G n (hi n))) = tput h a l (va_up f l (cdW (f (l + 1)) (f l) (n + 1))) (cdR (f (l + 1)) hi lo (n + 1)) := by
        rw [show cdW (f (l + 1)) (f l) (n + 1) = cdW (f (l + 1)) (f l) n ||| xbit n from if_neg hc, show cdR (f (l + 1)) hi lo (n + 1) = va_up (cdR (f (l + 1)) hi lo n) n (hi n) from if_neg hc, hG, eFl, ← hF, up_twice]
        exact tput_twice h a l _ _ _ _
      rw [e2]
      refine x_iinc (v := nI (n + 1)) dT_copyHighestLayerDown_48 rfl (by rw [nI_succ]; rfl) (Nat.le_of_ble_eq_true rfl) ?_
      refine x_goto 9 dT_copyHighestLayerDown_51 (by decide) ?_
      exact ih (n + 1) (by omega)
theorem t_chd {f : Nat → Int32} {hi lo : Nat → Int64} (hb : E.2.2.1 ≤ a) (hl : l + 2 ≤ 8) (ha : h.1 a = some (vT a o s k (l + 2) sn)) (hw : h.1 (a + 1) = some (vI 8 f)) (hv : h.1 (a + 2) = some (vR a)) (hh : h.1 (a + 2 + 1 + (l + 1)) = some (vL 16 hi)) (hlo : h.1 (a + 2 + 1 + l) = some (vL 16 lo)) :
    xG E (d + 1) mT_copyHighestLayerDown 0 [(0, .ref a)] [] false h (true, .inl none, tput h a l (va_up f l (cdW (f (l + 1)) (f l) 16)) (cdR (f (l + 1)) hi lo 16)) := by
  refine x_true ?_
  refine x_aload_n dT_copyHighestLayerDown_0 rfl ?_
  refine x_get fT_layers dT_copyHighestLayerDown_1 (by assumption) rfl ?_
  refine x_iconst (v := (nI 1)) dT_copyHighestLayerDown_4 (by decide) ?_
  refine x_isub dT_copyHighestLayerDown_5 ?_
  refine x_top (v' := .int (nI (l + 1))) (by rw [pk_sub (show 1 ≤ l + 2 by omega)]; rfl) ?_
  refine x_istore_n dT_copyHighestLayerDown_6 (Nat.le_of_ble_eq_true rfl) ?_
  refine x_iconst (v := (nI 0)) dT_copyHighestLayerDown_7 (by decide) ?_
  refine x_istore_n dT_copyHighestLayerDown_8 (Nat.le_of_ble_eq_true rfl) ?_
  have := t_chd_loop (E := E) (d := d) (f := f) (lo := lo) hb hl ha hv hh 16 0 (by omega)
  rw [show cdW (f (l + 1)) (f l) 0 = f l from rfl, show cdR (f (l + 1)) hi lo 0 = lo from rfl, up_self, tput_self hw hlo] at this
  exact this
theorem t_init (hb : E.2.2.1 ≤ a) (hz : a < h.2.1) (ha : h.1 a = some (.inr (1, [.int 0, .int 0, .int 0, .int 0, .int 0, .null, .null]))) (hz1 : h.2.1 = a + 1) :
    xG E d mT_init 0 [(0, .ref a)] [] false h (true, .inl none, xset (xmulti (xadd h (vI 8 (fun _ => 0)) 8) 8 16) a (vT a false 0 0 1 0)) := by
  obtain ⟨hm, z, u⟩ := h
  dsimp only at hz1 hz ha
  subst hz1
  refine x_aload_n dT_init_0 rfl ?_
  refine x_objInit dT_init_1 kw_27 kw_19 kw_20 (Nat.le_of_ble_eq_true rfl) ?_
  refine x_aload_n dT_init_4 rfl ?_
  refine x_iconst (v := 0) dT_init_5 (by decide) ?_
  refine x_put fT_open dT_init_6 ha hb rfl rfl (Nat.le_of_ble_eq_true rfl) ?_
  refine x_aload_n dT_init_9 rfl ?_
  refine x_iconst (v := (nI 1)) dT_init_10 (by decide) ?_
  refine x_put fT_layers dT_init_11 (xset_eq _ _ _) hb rfl rfl (Nat.le_of_ble_eq_true rfl) ?_
  rw [xset_twice]
  refine x_aload_n dT_init_14 rfl ?_
  refine x_bipush (v := (nI 8)) dT_init_15 (by decide) ?_
  refine x_newi 8 dT_init_17 kw_52 rfl (by decide) ?_
  refine x_putF fT_wrote rfl dT_init_19 ((xadd_ne _ _ _ (by simp [xset])).trans (xset_eq _ _ _)) hb rfl rfl (Nat.le_of_ble_eq_true rfl) ?_
  refine x_aload_n dT_init_22 rfl ?_
  refine x_bipush (v := (nI 8)) dT_init_23 (by decide) ?_
  refine x_bipush (v := (nI 16)) dT_init_25 (by decide) ?_
  refine x_mnew 8 16 dT_init_27 kw_28 kw_29 kw_53 rfl rfl (by decide) (by decide) ?_
  refine x_putF fT_values rfl dT_init_31 (fs := [.int 0, .int 0, .int 0, .int (nI 1), .int 0, .ref (a + 1), .null]) ?_ hb rfl rfl (Nat.le_of_ble_eq_true rfl) ?_
  · simp [xmulti, xset, xadd]
    rw [if_neg (by omega), if_neg (by omega)]
  have e : xset (xmulti (xset (xadd (xset (hm, a + 1, u) a (.inr (1, [.int 0, .int 0, .int 0, .int (nI 1), .int 0, .null, .null]))) (vI 8 (fun _ => 0)) 8) a (.inr (1, [.int 0, .int 0, .int 0, .int (nI 1), .int 0, .ref (a + 1), .null]))) 8 16) a (vT a false 0 0 1 0) = xset (xmulti (xadd (hm, a + 1, u) (vI 8 (fun _ => 0)) 8) 8 16) a (vT a false 0 0 1 0) := by
    simp only [xset, xmulti, xadd]
    congr 1
    funext q
    by_cases h1 : q = a
    · simp [h1]
    · simp [h1]
  exact e ▸ x_vret rfl dT_init_34
end
