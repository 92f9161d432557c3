/-! The helpers of the law: a call of the class, its answer kept or its exception turned into a number -/
theorem x_catV1 {E : xE} {d : Nat} {M N : xM} {pc idx : Nat} {lv : xL} {rest : List Value} {w w1 : Bool} {h h1 : xH} {b : Nat} {a1 : Value} {ci : Nat} {fs : List Value} {x : String × Nat} {r : xR} (pre : List (Nat × Nat × Nat × Nat)) (y : Nat × Nat × Nat × Nat) (suf : List (Nat × Nat × Nat × Nat)) (hM : M.2.2.2.2 = pre ++ y :: suf) (hpass : ∀ z ∈ pre, z.2.2.2 ≠ 0 ∧ ∃ nm : String, Cond.classLink M.1.cls z.2.2.2 nm ∈ lw_tbl ∧ ∀ s : State, xZ E s → va_Nc x.1 nm s) (hy : y.1 ≤ pc ∧ pc < y.2.1) (hy0 : y.2.2.2 ≠ 0) (hlk : Cond.classLink M.1.cls y.2.2.2 x.1 ∈ lw_tbl) (hcs : Cond.castable x.1 x.1 ∈ lw_tbl) (hC : xCV M.1.cls idx N ci 1) (hd : decode M.2.1 pc = .ok (.invokevirtual idx, 3)) (hb : h.1 b = some (.inr (ci, fs))) (hlen : (lg_sl [.ref b, a1]).length ≤ N.2.2.1) (hrest : (rest.map fun v => v.category).sum ≤ 8) (hG : xG E d N 0 (lv_args 0 [.ref b, a1]) [] false h (w1, .inr x, h1)) (k : xG E (d + 1) M y.2.2.1 lv [.ref x.2] true h1 r) : xG E (d + 1) M pc lv (a1 :: .ref b :: rest) w h r :=
  xG.cat (as := [.ref b, a1]) (rest := rest) pre y suf hM hpass hy hy0 hlk hcs hC.1 hd hlen hrest (fun hX hI hF => xinv_V (as := [a1]) hd hC.2.1 hC.2.2.1 hC.2.2.2.1 hC.1 hb hC.2.2.2.2.1 hC.2.2.2.2.2 hX hI hF) hG k
theorem x_catV2 {E : xE} {d : Nat} {M N : xM} {pc idx : Nat} {lv : xL} {rest : List Value} {w w1 : Bool} {h h1 : xH} {b : Nat} {a1 a2 : Value} {ci : Nat} {fs : List Value} {x : String × Nat} {r : xR} (pre : List (Nat × Nat × Nat × Nat)) (y : Nat × Nat × Nat × Nat) (suf : List (Nat × Nat × Nat × Nat)) (hM : M.2.2.2.2 = pre ++ y :: suf) (hpass : ∀ z ∈ pre, z.2.2.2 ≠ 0 ∧ ∃ nm : String, Cond.classLink M.1.cls z.2.2.2 nm ∈ lw_tbl ∧ ∀ s : State, xZ E s → va_Nc x.1 nm s) (hy : y.1 ≤ pc ∧ pc < y.2.1) (hy0 : y.2.2.2 ≠ 0) (hlk : Cond.classLink M.1.cls y.2.2.2 x.1 ∈ lw_tbl) (hcs : Cond.castable x.1 x.1 ∈ lw_tbl) (hC : xCV M.1.cls idx N ci 2) (hd : decode M.2.1 pc = .ok (.invokevirtual idx, 3)) (hb : h.1 b = some (.inr (ci, fs))) (hlen : (lg_sl [.ref b, a1, a2]).length ≤ N.2.2.1) (hrest : (rest.map fun v => v.category).sum ≤ 8) (hG : xG E d N 0 (lv_args 0 [.ref b, a1, a2]) [] false h (w1, .inr x, h1)) (k : xG E (d + 1) M y.2.2.1 lv [.ref x.2] true h1 r) : xG E (d + 1) M pc lv (a2 :: a1 :: .ref b :: rest) w h r :=
  xG.cat (as := [.ref b, a1, a2]) (rest := rest) pre y suf hM hpass hy hy0 hlk hcs hC.1 hd hlen hrest (fun hX hI hF => xinv_V (as := [a1, a2]) hd hC.2.1 hC.2.2.1 hC.2.2.2.1 hC.1 hb hC.2.2.2.2.1 hC.2.2.2.2.2 hX hI hF) hG k
theorem x_catV3 {E : xE} {d : Nat} {M N : xM} {pc idx : Nat} {lv : xL} {rest : List Value} {w w1 : Bool} {h h1 : xH} {b : Nat} {a1 a2 a3 : Value} {ci : Nat} {fs : List Value} {x : String × Nat} {r : xR} (pre : List (Nat × Nat × Nat × Nat)) (y : Nat × Nat × Nat × Nat) (suf : List (Nat × Nat × Nat × Nat)) (hM : M.2.2.2.2 = pre ++ y :: suf) (hpass : ∀ z ∈ pre, z.2.2.2 ≠ 0 ∧ ∃ nm : String, Cond.classLink M.1.cls z.2.2.2 nm ∈ lw_tbl ∧ ∀ s : State, xZ E s → va_Nc x.1 nm s) (hy : y.1 ≤ pc ∧ pc < y.2.1) (hy0 : y.2.2.2 ≠ 0) (hlk : Cond.classLink M.1.cls y.2.2.2 x.1 ∈ lw_tbl) (hcs : Cond.castable x.1 x.1 ∈ lw_tbl) (hC : xCV M.1.cls idx N ci 3) (hd : decode M.2.1 pc = .ok (.invokevirtual idx, 3)) (hb : h.1 b = some (.inr (ci, fs))) (hlen : (lg_sl [.ref b, a1, a2, a3]).length ≤ N.2.2.1) (hrest : (rest.map fun v => v.category).sum ≤ 8) (hG : xG E d N 0 (lv_args 0 [.ref b, a1, a2, a3]) [] false h (w1, .inr x, h1)) (k : xG E (d + 1) M y.2.2.1 lv [.ref x.2] true h1 r) : xG E (d + 1) M pc lv (a3 :: a2 :: a1 :: .ref b :: rest) w h r :=
  xG.cat (as := [.ref b, a1, a2, a3]) (rest := rest) pre y suf hM hpass hy hy0 hlk hcs hC.1 hd hlen hrest (fun hX hI hF => xinv_V (as := [a1, a2, a3]) hd hC.2.1 hC.2.2.1 hC.2.2.2.1 hC.1 hb hC.2.2.2.2.1 hC.2.2.2.2.2 hX hI hF) hG k
section
variable {E : xE} {d b a K : Nat} {h h1 : xH} {f : Nat → Int64} {w1 : Bool} {x : Nat}
theorem l_begin_ok {p1 : Int32} {v : Int32} (hb : E.2.2.1 ≤ a) (hc : h.1 b = some (dC b K)) (hG : xG E (d + 4) mD_begin 0 [(0, .ref b), (1, .int p1)] [] false h (w1, .inl (some (.int v)), h1)) (ho : h1.1 a = some (vL 1 f)) : xG E (d + 5) mL_begin 0 [(0, .ref b), (1, .int p1), (2, .ref a)] [] false h (true, .inl (some (.int (nI 0))), xset h1 a (vL 1 (va_up f 0 (v.toInt64)))) := by
  refine x_aload_n dL_begin_0 rfl ?_
  refine x_iconst (v := (nI 0)) dL_begin_1 (by decide) ?_
  refine x_aload_n dL_begin_2 rfl ?_
  refine x_iload_n dL_begin_3 rfl ?_
  refine x_callV1 cL_D_begin dL_begin_4 hc (Nat.le_of_ble_eq_true rfl) (Nat.le_of_ble_eq_true rfl) hG ?_
  refine x_i2l dL_begin_7 ?_
  refine x_last 0 dL_begin_8 ho hb rfl (by decide) (by decide) ?_
  refine x_goto 18 dL_begin_9 (by decide) ?_
  refine x_iconst (v := (nI 0)) dL_begin_18 (by decide) ?_
  exact x_iret rfl dL_begin_19
theorem l_begin_IAE {p1 : Int32} (hc : h.1 b = some (dC b K)) (hG : xG E (d + 4) mD_begin 0 [(0, .ref b), (1, .int p1)] [] false h (w1, .inr ("java/lang/IllegalArgumentException", x), h1)) : xG E (d + 5) mL_begin 0 [(0, .ref b), (1, .int p1), (2, .ref a)] [] false h (true, .inl (some (.int (nI 1))), h1) := by
  refine x_aload_n dL_begin_0 rfl ?_
  refine x_iconst (v := (nI 0)) dL_begin_1 (by decide) ?_
  refine x_aload_n dL_begin_2 rfl ?_
  refine x_iload_n dL_begin_3 rfl ?_
  refine x_catV1 (x := ("java/lang/IllegalArgumentException", x)) [] (0, 9, 12, 13) [(0, 9, 15, 15)] rfl (fun z hz => absurd hz List.not_mem_nil) (by decide) (by decide) kw_125 kw_133 cL_D_begin dL_begin_4 hc (Nat.le_of_ble_eq_true rfl) (Nat.le_of_ble_eq_true rfl) hG ?_
  refine x_astore_n dL_begin_12 (Nat.le_of_ble_eq_true rfl) ?_
  refine x_iconst (v := (nI 1)) dL_begin_13 (by decide) ?_
  exact x_iret rfl dL_begin_14
theorem l_begin_ISE {p1 : Int32} (hc : h.1 b = some (dC b K)) (hG : xG E (d + 4) mD_begin 0 [(0, .ref b), (1, .int p1)] [] false h (w1, .inr ("java/lang/IllegalStateException", x), h1)) : xG E (d + 5) mL_begin 0 [(0, .ref b), (1, .int p1), (2, .ref a)] [] false h (true, .inl (some (.int (nI 2))), h1) := by
  refine x_aload_n dL_begin_0 rfl ?_
  refine x_iconst (v := (nI 0)) dL_begin_1 (by decide) ?_
  refine x_aload_n dL_begin_2 rfl ?_
  refine x_iload_n dL_begin_3 rfl ?_
  refine x_catV1 (x := ("java/lang/IllegalStateException", x)) [(0, 9, 12, 13)] (0, 9, 15, 15) [] rfl (fun z hz => by rcases List.mem_singleton.mp hz with rfl; exact ⟨by decide, "java/lang/IllegalArgumentException", kw_125, fun s hz => hz.2.2.2.2.1⟩) (by decide) (by decide) kw_126 kw_200 cL_D_begin dL_begin_4 hc (Nat.le_of_ble_eq_true rfl) (Nat.le_of_ble_eq_true rfl) hG ?_
  refine x_astore_n dL_begin_15 (Nat.le_of_ble_eq_true rfl) ?_
  refine x_iconst (v := (nI 2)) dL_begin_16 (by decide) ?_
  exact x_iret rfl dL_begin_17
theorem l_read_ok {p1 : Int32} {p2 : Int32} {v : Int64} (hb : E.2.2.1 ≤ a) (hc : h.1 b = some (dC b K)) (hG : xG E (d + 4) mD_read 0 [(0, .ref b), (1, .int p1), (2, .int p2)] [] false h (w1, .inl (some (.long v)), h1)) (ho : h1.1 a = some (vL 1 f)) : xG E (d + 5) mL_read 0 [(0, .ref b), (1, .int p1), (2, .int p2), (3, .ref a)] [] false h (true, .inl (some (.int (nI 0))), xset h1 a (vL 1 (va_up f 0 (v)))) := by
  refine x_aload_n dL_read_0 rfl ?_
  refine x_iconst (v := (nI 0)) dL_read_1 (by decide) ?_
  refine x_aload_n dL_read_2 rfl ?_
  refine x_iload_n dL_read_3 rfl ?_
  refine x_iload_n dL_read_4 rfl ?_
  refine x_callV2 cL_D_read dL_read_5 hc (Nat.le_of_ble_eq_true rfl) (Nat.le_of_ble_eq_true rfl) hG ?_
  refine x_last 0 dL_read_8 ho hb rfl (by decide) (by decide) ?_
  refine x_goto 16 dL_read_9 (by decide) ?_
  refine x_iconst (v := (nI 0)) dL_read_16 (by decide) ?_
  exact x_iret rfl dL_read_17
theorem l_read_NSE {p1 : Int32} {p2 : Int32} (hc : h.1 b = some (dC b K)) (hG : xG E (d + 4) mD_read 0 [(0, .ref b), (1, .int p1), (2, .int p2)] [] false h (w1, .inr ("java/util/NoSuchElementException", x), h1)) : xG E (d + 5) mL_read 0 [(0, .ref b), (1, .int p1), (2, .int p2), (3, .ref a)] [] false h (true, .inl (some (.int (nI 1))), h1) := by
  refine x_aload_n dL_read_0 rfl ?_
  refine x_iconst (v := (nI 0)) dL_read_1 (by decide) ?_
  refine x_aload_n dL_read_2 rfl ?_
  refine x_iload_n dL_read_3 rfl ?_
  refine x_iload_n dL_read_4 rfl ?_
  refine x_catV2 (x := ("java/util/NoSuchElementException", x)) [] (0, 9, 12, 21) [] rfl (fun z hz => absurd hz List.not_mem_nil) (by decide) (by decide) kw_220 kw_231 cL_D_read dL_read_5 hc (Nat.le_of_ble_eq_true rfl) (Nat.le_of_ble_eq_true rfl) hG ?_
  refine x_astore dL_read_12 (Nat.le_of_ble_eq_true rfl) ?_
  refine x_iconst (v := (nI 1)) dL_read_14 (by decide) ?_
  exact x_iret rfl dL_read_15
theorem l_write_ok {p1 : Int32} {p2 : Int32} {p3 : Int64} {v : Int64} (hb : E.2.2.1 ≤ a) (hc : h.1 b = some (dC b K)) (hG : xG E (d + 4) mD_write 0 [(0, .ref b), (1, .int p1), (2, .int p2), (3, .long p3)] [] false h (w1, .inl (some (.long v)), h1)) (ho : h1.1 a = some (vL 1 f)) : xG E (d + 5) mL_write 0 [(0, .ref b), (1, .int p1), (2, .int p2), (3, .long p3), (5, .ref a)] [] false h (true, .inl (some (.int (nI 0))), xset h1 a (vL 1 (va_up f 0 (v)))) := by
  refine x_aload dL_write_0 rfl ?_
  refine x_iconst (v := (nI 0)) dL_write_2 (by decide) ?_
  refine x_aload_n dL_write_3 rfl ?_
  refine x_iload_n dL_write_4 rfl ?_
  refine x_iload_n dL_write_5 rfl ?_
  refine x_lload_n dL_write_6 rfl ?_
  refine x_callV3 cL_D_write dL_write_7 hc (Nat.le_of_ble_eq_true rfl) (Nat.le_of_ble_eq_true rfl) hG ?_
  refine x_last 0 dL_write_10 ho hb rfl (by decide) (by decide) ?_
  refine x_goto 18 dL_write_11 (by decide) ?_
  refine x_iconst (v := (nI 0)) dL_write_18 (by decide) ?_
  exact x_iret rfl dL_write_19
theorem l_write_NSE {p1 : Int32} {p2 : Int32} {p3 : Int64} (hc : h.1 b = some (dC b K)) (hG : xG E (d + 4) mD_write 0 [(0, .ref b), (1, .int p1), (2, .int p2), (3, .long p3)] [] false h (w1, .inr ("java/util/NoSuchElementException", x), h1)) : xG E (d + 5) mL_write 0 [(0, .ref b), (1, .int p1), (2, .int p2), (3, .long p3), (5, .ref a)] [] false h (true, .inl (some (.int (nI 1))), h1) := by
  refine x_aload dL_write_0 rfl ?_
  refine x_iconst (v := (nI 0)) dL_write_2 (by decide) ?_
  refine x_aload_n dL_write_3 rfl ?_
  refine x_iload_n dL_write_4 rfl ?_
  refine x_iload_n dL_write_5 rfl ?_
  refine x_lload_n dL_write_6 rfl ?_
  refine x_catV3 (x := ("java/util/NoSuchElementException", x)) [] (0, 11, 14, 21) [] rfl (fun z hz => absurd hz List.not_mem_nil) (by decide) (by decide) kw_220 kw_231 cL_D_write dL_write_7 hc (Nat.le_of_ble_eq_true rfl) (Nat.le_of_ble_eq_true rfl) hG ?_
  refine x_astore dL_write_14 (Nat.le_of_ble_eq_true rfl) ?_
  refine x_iconst (v := (nI 1)) dL_write_16 (by decide) ?_
  exact x_iret rfl dL_write_17
theorem l_push_ok {p1 : Int32} {v : Int32} (hb : E.2.2.1 ≤ a) (hc : h.1 b = some (dC b K)) (hG : xG E (d + 4) mD_push 0 [(0, .ref b), (1, .int p1)] [] false h (w1, .inl (some (.int v)), h1)) (ho : h1.1 a = some (vL 1 f)) : xG E (d + 5) mL_push 0 [(0, .ref b), (1, .int p1), (2, .ref a)] [] false h (true, .inl (some (.int (nI 0))), xset h1 a (vL 1 (va_up f 0 (v.toInt64)))) := by
  refine x_aload_n dL_push_0 rfl ?_
  refine x_iconst (v := (nI 0)) dL_push_1 (by decide) ?_
  refine x_aload_n dL_push_2 rfl ?_
  refine x_iload_n dL_push_3 rfl ?_
  refine x_callV1 cL_D_push dL_push_4 hc (Nat.le_of_ble_eq_true rfl) (Nat.le_of_ble_eq_true rfl) hG ?_
  refine x_i2l dL_push_7 ?_
  refine x_last 0 dL_push_8 ho hb rfl (by decide) (by decide) ?_
  refine x_goto 18 dL_push_9 (by decide) ?_
  refine x_iconst (v := (nI 0)) dL_push_18 (by decide) ?_
  exact x_iret rfl dL_push_19
theorem l_push_NSE {p1 : Int32} (hc : h.1 b = some (dC b K)) (hG : xG E (d + 4) mD_push 0 [(0, .ref b), (1, .int p1)] [] false h (w1, .inr ("java/util/NoSuchElementException", x), h1)) : xG E (d + 5) mL_push 0 [(0, .ref b), (1, .int p1), (2, .ref a)] [] false h (true, .inl (some (.int (nI 1))), h1) := by
  refine x_aload_n dL_push_0 rfl ?_
  refine x_iconst (v := (nI 0)) dL_push_1 (by decide) ?_
  refine x_aload_n dL_push_2 rfl ?_
  refine x_iload_n dL_push_3 rfl ?_
  refine x_catV1 (x := ("java/util/NoSuchElementException", x)) [] (0, 9, 12, 21) [(0, 9, 15, 15)] rfl (fun z hz => absurd hz List.not_mem_nil) (by decide) (by decide) kw_220 kw_231 cL_D_push dL_push_4 hc (Nat.le_of_ble_eq_true rfl) (Nat.le_of_ble_eq_true rfl) hG ?_
  refine x_astore_n dL_push_12 (Nat.le_of_ble_eq_true rfl) ?_
  refine x_iconst (v := (nI 1)) dL_push_13 (by decide) ?_
  exact x_iret rfl dL_push_14
theorem l_push_ISE {p1 : Int32} (hc : h.1 b = some (dC b K)) (hG : xG E (d + 4) mD_push 0 [(0, .ref b), (1, .int p1)] [] false h (w1, .inr ("java/lang/IllegalStateException", x), h1)) : xG E (d + 5) mL_push 0 [(0, .ref b), (1, .int p1), (2, .ref a)] [] false h (true, .inl (some (.int (nI 2))), h1) := by
  refine x_aload_n dL_push_0 rfl ?_
  refine x_iconst (v := (nI 0)) dL_push_1 (by decide) ?_
  refine x_aload_n dL_push_2 rfl ?_
  refine x_iload_n dL_push_3 rfl ?_
  refine x_catV1 (x := ("java/lang/IllegalStateException", x)) [(0, 9, 12, 21)] (0, 9, 15, 15) [] rfl (fun z hz => by rcases List.mem_singleton.mp hz with rfl; exact ⟨by decide, "java/util/NoSuchElementException", kw_220, fun s hz => hz.2.2.2.2.2.1⟩) (by decide) (by decide) kw_126 kw_200 cL_D_push dL_push_4 hc (Nat.le_of_ble_eq_true rfl) (Nat.le_of_ble_eq_true rfl) hG ?_
  refine x_astore_n dL_push_15 (Nat.le_of_ble_eq_true rfl) ?_
  refine x_iconst (v := (nI 2)) dL_push_16 (by decide) ?_
  exact x_iret rfl dL_push_17
theorem l_pop_ok {p1 : Int32} {p2 : Int32} {v : Int32} (hb : E.2.2.1 ≤ a) (hc : h.1 b = some (dC b K)) (hG : xG E (d + 4) mD_pop 0 [(0, .ref b), (1, .int p1), (2, .int p2)] [] false h (w1, .inl (some (.int v)), h1)) (ho : h1.1 a = some (vL 1 f)) : xG E (d + 5) mL_pop 0 [(0, .ref b), (1, .int p1), (2, .int p2), (3, .ref a)] [] false h (true, .inl (some (.int (nI 0))), xset h1 a (vL 1 (va_up f 0 (v.toInt64)))) := by
  refine x_aload_n dL_pop_0 rfl ?_
  refine x_iconst (v := (nI 0)) dL_pop_1 (by decide) ?_
  refine x_aload_n dL_pop_2 rfl ?_
  refine x_iload_n dL_pop_3 rfl ?_
  refine x_iload_n dL_pop_4 rfl ?_
  refine x_callV2 cL_D_pop dL_pop_5 hc (Nat.le_of_ble_eq_true rfl) (Nat.le_of_ble_eq_true rfl) hG ?_
  refine x_i2l dL_pop_8 ?_
  refine x_last 0 dL_pop_9 ho hb rfl (by decide) (by decide) ?_
  refine x_goto 21 dL_pop_10 (by decide) ?_
  refine x_iconst (v := (nI 0)) dL_pop_21 (by decide) ?_
  exact x_iret rfl dL_pop_22
theorem l_pop_NSE {p1 : Int32} {p2 : Int32} (hc : h.1 b = some (dC b K)) (hG : xG E (d + 4) mD_pop 0 [(0, .ref b), (1, .int p1), (2, .int p2)] [] false h (w1, .inr ("java/util/NoSuchElementException", x), h1)) : xG E (d + 5) mL_pop 0 [(0, .ref b), (1, .int p1), (2, .int p2), (3, .ref a)] [] false h (true, .inl (some (.int (nI 1))), h1) := by
  refine x_aload_n dL_pop_0 rfl ?_
  refine x_iconst (v := (nI 0)) dL_pop_1 (by decide) ?_
  refine x_aload_n dL_pop_2 rfl ?_
  refine x_iload_n dL_pop_3 rfl ?_
  refine x_iload_n dL_pop_4 rfl ?_
  refine x_catV2 (x := ("java/util/NoSuchElementException", x)) [] (0, 10, 13, 21) [(0, 10, 17, 15)] rfl (fun z hz => absurd hz List.not_mem_nil) (by decide) (by decide) kw_220 kw_231 cL_D_pop dL_pop_5 hc (Nat.le_of_ble_eq_true rfl) (Nat.le_of_ble_eq_true rfl) hG ?_
  refine x_astore dL_pop_13 (Nat.le_of_ble_eq_true rfl) ?_
  refine x_iconst (v := (nI 1)) dL_pop_15 (by decide) ?_
  exact x_iret rfl dL_pop_16
theorem l_pop_ISE {p1 : Int32} {p2 : Int32} (hc : h.1 b = some (dC b K)) (hG : xG E (d + 4) mD_pop 0 [(0, .ref b), (1, .int p1), (2, .int p2)] [] false h (w1, .inr ("java/lang/IllegalStateException", x), h1)) : xG E (d + 5) mL_pop 0 [(0, .ref b), (1, .int p1), (2, .int p2), (3, .ref a)] [] false h (true, .inl (some (.int (nI 2))), h1) := by
  refine x_aload_n dL_pop_0 rfl ?_
  refine x_iconst (v := (nI 0)) dL_pop_1 (by decide) ?_
  refine x_aload_n dL_pop_2 rfl ?_
  refine x_iload_n dL_pop_3 rfl ?_
  refine x_iload_n dL_pop_4 rfl ?_
  refine x_catV2 (x := ("java/lang/IllegalStateException", x)) [(0, 10, 13, 21)] (0, 10, 17, 15) [] rfl (fun z hz => by rcases List.mem_singleton.mp hz with rfl; exact ⟨by decide, "java/util/NoSuchElementException", kw_220, fun s hz => hz.2.2.2.2.2.1⟩) (by decide) (by decide) kw_126 kw_200 cL_D_pop dL_pop_5 hc (Nat.le_of_ble_eq_true rfl) (Nat.le_of_ble_eq_true rfl) hG ?_
  refine x_astore dL_pop_17 (Nat.le_of_ble_eq_true rfl) ?_
  refine x_iconst (v := (nI 2)) dL_pop_19 (by decide) ?_
  exact x_iret rfl dL_pop_20
theorem l_commit_ok {p1 : Int32} {v : Int32} (hb : E.2.2.1 ≤ a) (hc : h.1 b = some (dC b K)) (hG : xG E (d + 4) mD_commit 0 [(0, .ref b), (1, .int p1)] [] false h (w1, .inl (some (.int v)), h1)) (ho : h1.1 a = some (vL 1 f)) : xG E (d + 5) mL_commit 0 [(0, .ref b), (1, .int p1), (2, .ref a)] [] false h (true, .inl (some (.int (nI 0))), xset h1 a (vL 1 (va_up f 0 (v.toInt64)))) := by
  refine x_aload_n dL_commit_0 rfl ?_
  refine x_iconst (v := (nI 0)) dL_commit_1 (by decide) ?_
  refine x_aload_n dL_commit_2 rfl ?_
  refine x_iload_n dL_commit_3 rfl ?_
  refine x_callV1 cL_D_commit dL_commit_4 hc (Nat.le_of_ble_eq_true rfl) (Nat.le_of_ble_eq_true rfl) hG ?_
  refine x_i2l dL_commit_7 ?_
  refine x_last 0 dL_commit_8 ho hb rfl (by decide) (by decide) ?_
  refine x_goto 18 dL_commit_9 (by decide) ?_
  refine x_iconst (v := (nI 0)) dL_commit_18 (by decide) ?_
  exact x_iret rfl dL_commit_19
theorem l_commit_NSE {p1 : Int32} (hc : h.1 b = some (dC b K)) (hG : xG E (d + 4) mD_commit 0 [(0, .ref b), (1, .int p1)] [] false h (w1, .inr ("java/util/NoSuchElementException", x), h1)) : xG E (d + 5) mL_commit 0 [(0, .ref b), (1, .int p1), (2, .ref a)] [] false h (true, .inl (some (.int (nI 1))), h1) := by
  refine x_aload_n dL_commit_0 rfl ?_
  refine x_iconst (v := (nI 0)) dL_commit_1 (by decide) ?_
  refine x_aload_n dL_commit_2 rfl ?_
  refine x_iload_n dL_commit_3 rfl ?_
  refine x_catV1 (x := ("java/util/NoSuchElementException", x)) [] (0, 9, 12, 21) [(0, 9, 15, 15)] rfl (fun z hz => absurd hz List.not_mem_nil) (by decide) (by decide) kw_220 kw_231 cL_D_commit dL_commit_4 hc (Nat.le_of_ble_eq_true rfl) (Nat.le_of_ble_eq_true rfl) hG ?_
  refine x_astore_n dL_commit_12 (Nat.le_of_ble_eq_true rfl) ?_
  refine x_iconst (v := (nI 1)) dL_commit_13 (by decide) ?_
  exact x_iret rfl dL_commit_14
theorem l_commit_ISE {p1 : Int32} (hc : h.1 b = some (dC b K)) (hG : xG E (d + 4) mD_commit 0 [(0, .ref b), (1, .int p1)] [] false h (w1, .inr ("java/lang/IllegalStateException", x), h1)) : xG E (d + 5) mL_commit 0 [(0, .ref b), (1, .int p1), (2, .ref a)] [] false h (true, .inl (some (.int (nI 2))), h1) := by
  refine x_aload_n dL_commit_0 rfl ?_
  refine x_iconst (v := (nI 0)) dL_commit_1 (by decide) ?_
  refine x_aload_n dL_commit_2 rfl ?_
  refine x_iload_n dL_commit_3 rfl ?_
  refine x_catV1 (x := ("java/lang/IllegalStateException", x)) [(0, 9, 12, 21)] (0, 9, 15, 15) [] rfl (fun z hz => by rcases List.mem_singleton.mp hz with rfl; exact ⟨by decide, "java/util/NoSuchElementException", kw_220, fun s hz => hz.2.2.2.2.2.1⟩) (by decide) (by decide) kw_126 kw_200 cL_D_commit dL_commit_4 hc (Nat.le_of_ble_eq_true rfl) (Nat.le_of_ble_eq_true rfl) hG ?_
  refine x_astore_n dL_commit_15 (Nat.le_of_ble_eq_true rfl) ?_
  refine x_iconst (v := (nI 2)) dL_commit_16 (by decide) ?_
  exact x_iret rfl dL_commit_17
theorem l_drop_ok {p1 : Int32} {v : Int32} (hb : E.2.2.1 ≤ a) (hc : h.1 b = some (dC b K)) (hG : xG E (d + 4) mD_drop 0 [(0, .ref b), (1, .int p1)] [] false h (w1, .inl (some (.int v)), h1)) (ho : h1.1 a = some (vL 1 f)) : xG E (d + 5) mL_drop 0 [(0, .ref b), (1, .int p1), (2, .ref a)] [] false h (true, .inl (some (.int (nI 0))), xset h1 a (vL 1 (va_up f 0 (v.toInt64)))) := by
  refine x_aload_n dL_drop_0 rfl ?_
  refine x_iconst (v := (nI 0)) dL_drop_1 (by decide) ?_
  refine x_aload_n dL_drop_2 rfl ?_
  refine x_iload_n dL_drop_3 rfl ?_
  refine x_callV1 cL_D_drop dL_drop_4 hc (Nat.le_of_ble_eq_true rfl) (Nat.le_of_ble_eq_true rfl) hG ?_
  refine x_i2l dL_drop_7 ?_
  refine x_last 0 dL_drop_8 ho hb rfl (by decide) (by decide) ?_
  refine x_goto 15 dL_drop_9 (by decide) ?_
  refine x_iconst (v := (nI 0)) dL_drop_15 (by decide) ?_
  exact x_iret rfl dL_drop_16
theorem l_drop_NSE {p1 : Int32} (hc : h.1 b = some (dC b K)) (hG : xG E (d + 4) mD_drop 0 [(0, .ref b), (1, .int p1)] [] false h (w1, .inr ("java/util/NoSuchElementException", x), h1)) : xG E (d + 5) mL_drop 0 [(0, .ref b), (1, .int p1), (2, .ref a)] [] false h (true, .inl (some (.int (nI 1))), h1) := by
  refine x_aload_n dL_drop_0 rfl ?_
  refine x_iconst (v := (nI 0)) dL_drop_1 (by decide) ?_
  refine x_aload_n dL_drop_2 rfl ?_
  refine x_iload_n dL_drop_3 rfl ?_
  refine x_catV1 (x := ("java/util/NoSuchElementException", x)) [] (0, 9, 12, 21) [] rfl (fun z hz => absurd hz List.not_mem_nil) (by decide) (by decide) kw_220 kw_231 cL_D_drop dL_drop_4 hc (Nat.le_of_ble_eq_true rfl) (Nat.le_of_ble_eq_true rfl) hG ?_
  refine x_astore_n dL_drop_12 (Nat.le_of_ble_eq_true rfl) ?_
  refine x_iconst (v := (nI 1)) dL_drop_13 (by decide) ?_
  exact x_iret rfl dL_drop_14
theorem l_spoiled_ok {p1 : Int32} {v : Bool} (hb : E.2.2.1 ≤ a) (hc : h.1 b = some (dC b K)) (hG : xG E (d + 4) mD_spoiled 0 [(0, .ref b), (1, .int p1)] [] false h (w1, .inl (some (.int (xb v))), h1)) (ho : h1.1 a = some (vL 1 f)) : xG E (d + 5) mL_spoiled 0 [(0, .ref b), (1, .int p1), (2, .ref a)] [] false h (true, .inl (some (.int (nI 0))), xset h1 a (vL 1 (va_up f 0 ((if v = true then 1 else 0))))) := by
  refine x_aload_n dL_spoiled_0 rfl ?_
  refine x_iconst (v := (nI 0)) dL_spoiled_1 (by decide) ?_
  refine x_aload_n dL_spoiled_2 rfl ?_
  refine x_iload_n dL_spoiled_3 rfl ?_
  refine x_callV1 cL_D_spoiled dL_spoiled_4 hc (Nat.le_of_ble_eq_true rfl) (Nat.le_of_ble_eq_true rfl) hG ?_
  cases v with
  | false =>
    refine x_if_eq 14 dL_spoiled_7 (by decide) (fun _ => ?_) (fun q => absurd rfl q)
    refine x_lconst (v := 0) dL_spoiled_14 (by decide) ?_
    refine x_last 0 dL_spoiled_15 ho hb rfl (by decide) (by decide) ?_
    refine x_goto 22 dL_spoiled_16 (by decide) ?_
    refine x_iconst (v := (nI 0)) dL_spoiled_22 (by decide) ?_
    exact x_iret rfl dL_spoiled_23
  | true =>
    refine x_if_eq 14 dL_spoiled_7 (by decide) (fun q => absurd q (by decide)) (fun _ => ?_)
    refine x_lconst (v := 1) dL_spoiled_10 (by decide) ?_
    refine x_goto 15 dL_spoiled_11 (by decide) ?_
    refine x_last 0 dL_spoiled_15 ho hb rfl (by decide) (by decide) ?_
    refine x_goto 22 dL_spoiled_16 (by decide) ?_
    refine x_iconst (v := (nI 0)) dL_spoiled_22 (by decide) ?_
    exact x_iret rfl dL_spoiled_23
theorem l_spoiled_NSE {p1 : Int32} (hc : h.1 b = some (dC b K)) (hG : xG E (d + 4) mD_spoiled 0 [(0, .ref b), (1, .int p1)] [] false h (w1, .inr ("java/util/NoSuchElementException", x), h1)) : xG E (d + 5) mL_spoiled 0 [(0, .ref b), (1, .int p1), (2, .ref a)] [] false h (true, .inl (some (.int (nI 1))), h1) := by
  refine x_aload_n dL_spoiled_0 rfl ?_
  refine x_iconst (v := (nI 0)) dL_spoiled_1 (by decide) ?_
  refine x_aload_n dL_spoiled_2 rfl ?_
  refine x_iload_n dL_spoiled_3 rfl ?_
  refine x_catV1 (x := ("java/util/NoSuchElementException", x)) [] (0, 16, 19, 21) [] rfl (fun z hz => absurd hz List.not_mem_nil) (by decide) (by decide) kw_220 kw_231 cL_D_spoiled dL_spoiled_4 hc (Nat.le_of_ble_eq_true rfl) (Nat.le_of_ble_eq_true rfl) hG ?_
  refine x_astore_n dL_spoiled_19 (Nat.le_of_ble_eq_true rfl) ?_
  refine x_iconst (v := (nI 1)) dL_spoiled_20 (by decide) ?_
  exact x_iret rfl dL_spoiled_21
theorem l_meets_ok {p1 : Int32} {p2 : Int32} {v : Bool} (hb : E.2.2.1 ≤ a) (hc : h.1 b = some (dC b K)) (hG : xG E (d + 4) mD_meets 0 [(0, .ref b), (1, .int p1), (2, .int p2)] [] false h (w1, .inl (some (.int (xb v))), h1)) (ho : h1.1 a = some (vL 1 f)) : xG E (d + 5) mL_meets 0 [(0, .ref b), (1, .int p1), (2, .int p2), (3, .ref a)] [] false h (true, .inl (some (.int (nI 0))), xset h1 a (vL 1 (va_up f 0 ((if v = true then 1 else 0))))) := by
  refine x_aload_n dL_meets_0 rfl ?_
  refine x_iconst (v := (nI 0)) dL_meets_1 (by decide) ?_
  refine x_aload_n dL_meets_2 rfl ?_
  refine x_iload_n dL_meets_3 rfl ?_
  refine x_iload_n dL_meets_4 rfl ?_
  refine x_callV2 cL_D_meets dL_meets_5 hc (Nat.le_of_ble_eq_true rfl) (Nat.le_of_ble_eq_true rfl) hG ?_
  cases v with
  | false =>
    refine x_if_eq 15 dL_meets_8 (by decide) (fun _ => ?_) (fun q => absurd rfl q)
    refine x_lconst (v := 0) dL_meets_15 (by decide) ?_
    refine x_last 0 dL_meets_16 ho hb rfl (by decide) (by decide) ?_
    refine x_goto 24 dL_meets_17 (by decide) ?_
    refine x_iconst (v := (nI 0)) dL_meets_24 (by decide) ?_
    exact x_iret rfl dL_meets_25
  | true =>
    refine x_if_eq 15 dL_meets_8 (by decide) (fun q => absurd q (by decide)) (fun _ => ?_)
    refine x_lconst (v := 1) dL_meets_11 (by decide) ?_
    refine x_goto 16 dL_meets_12 (by decide) ?_
    refine x_last 0 dL_meets_16 ho hb rfl (by decide) (by decide) ?_
    refine x_goto 24 dL_meets_17 (by decide) ?_
    refine x_iconst (v := (nI 0)) dL_meets_24 (by decide) ?_
    exact x_iret rfl dL_meets_25
theorem l_meets_NSE {p1 : Int32} {p2 : Int32} (hc : h.1 b = some (dC b K)) (hG : xG E (d + 4) mD_meets 0 [(0, .ref b), (1, .int p1), (2, .int p2)] [] false h (w1, .inr ("java/util/NoSuchElementException", x), h1)) : xG E (d + 5) mL_meets 0 [(0, .ref b), (1, .int p1), (2, .int p2), (3, .ref a)] [] false h (true, .inl (some (.int (nI 1))), h1) := by
  refine x_aload_n dL_meets_0 rfl ?_
  refine x_iconst (v := (nI 0)) dL_meets_1 (by decide) ?_
  refine x_aload_n dL_meets_2 rfl ?_
  refine x_iload_n dL_meets_3 rfl ?_
  refine x_iload_n dL_meets_4 rfl ?_
  refine x_catV2 (x := ("java/util/NoSuchElementException", x)) [] (0, 17, 20, 21) [] rfl (fun z hz => absurd hz List.not_mem_nil) (by decide) (by decide) kw_220 kw_231 cL_D_meets dL_meets_5 hc (Nat.le_of_ble_eq_true rfl) (Nat.le_of_ble_eq_true rfl) hG ?_
  refine x_astore dL_meets_20 (Nat.le_of_ble_eq_true rfl) ?_
  refine x_iconst (v := (nI 1)) dL_meets_22 (by decide) ?_
  exact x_iret rfl dL_meets_23
theorem l_past_ok {p1 : Int32} {p2 : Int32} {v : Int64} (hb : E.2.2.1 ≤ a) (hc : h.1 b = some (dC b K)) (hG : xG E (d + 4) mD_past 0 [(0, .ref b), (1, .int p1), (2, .int p2)] [] false h (w1, .inl (some (.long v)), h1)) (ho : h1.1 a = some (vL 1 f)) : xG E (d + 5) mL_past 0 [(0, .ref b), (1, .int p1), (2, .int p2), (3, .ref a)] [] false h (true, .inl (some (.int (nI 0))), xset h1 a (vL 1 (va_up f 0 (v)))) := by
  refine x_aload_n dL_past_0 rfl ?_
  refine x_iconst (v := (nI 0)) dL_past_1 (by decide) ?_
  refine x_aload_n dL_past_2 rfl ?_
  refine x_iload_n dL_past_3 rfl ?_
  refine x_iload_n dL_past_4 rfl ?_
  refine x_callV2 cL_D_past dL_past_5 hc (Nat.le_of_ble_eq_true rfl) (Nat.le_of_ble_eq_true rfl) hG ?_
  refine x_last 0 dL_past_8 ho hb rfl (by decide) (by decide) ?_
  refine x_goto 16 dL_past_9 (by decide) ?_
  refine x_iconst (v := (nI 0)) dL_past_16 (by decide) ?_
  exact x_iret rfl dL_past_17
theorem l_past_NSE {p1 : Int32} {p2 : Int32} (hc : h.1 b = some (dC b K)) (hG : xG E (d + 4) mD_past 0 [(0, .ref b), (1, .int p1), (2, .int p2)] [] false h (w1, .inr ("java/util/NoSuchElementException", x), h1)) : xG E (d + 5) mL_past 0 [(0, .ref b), (1, .int p1), (2, .int p2), (3, .ref a)] [] false h (true, .inl (some (.int (nI 1))), h1) := by
  refine x_aload_n dL_past_0 rfl ?_
  refine x_iconst (v := (nI 0)) dL_past_1 (by decide) ?_
  refine x_aload_n dL_past_2 rfl ?_
  refine x_iload_n dL_past_3 rfl ?_
  refine x_iload_n dL_past_4 rfl ?_
  refine x_catV2 (x := ("java/util/NoSuchElementException", x)) [] (0, 9, 12, 21) [] rfl (fun z hz => absurd hz List.not_mem_nil) (by decide) (by decide) kw_220 kw_231 cL_D_past dL_past_5 hc (Nat.le_of_ble_eq_true rfl) (Nat.le_of_ble_eq_true rfl) hG ?_
  refine x_astore dL_past_12 (Nat.le_of_ble_eq_true rfl) ?_
  refine x_iconst (v := (nI 1)) dL_past_14 (by decide) ?_
  exact x_iret rfl dL_past_15
theorem l_about_ok {p1 : Int32} {p2 : Int32} {v : Int32} (hb : E.2.2.1 ≤ a) (hc : h.1 b = some (dC b K)) (hG : xG E (d + 4) mD_about 0 [(0, .ref b), (1, .int p1), (2, .int p2)] [] false h (w1, .inl (some (.int v)), h1)) (ho : h1.1 a = some (vL 1 f)) : xG E (d + 5) mL_about 0 [(0, .ref b), (1, .int p1), (2, .int p2), (3, .ref a)] [] false h (true, .inl (some (.int (nI 0))), xset h1 a (vL 1 (va_up f 0 (v.toInt64)))) := by
  refine x_aload_n dL_about_0 rfl ?_
  refine x_iconst (v := (nI 0)) dL_about_1 (by decide) ?_
  refine x_aload_n dL_about_2 rfl ?_
  refine x_iload_n dL_about_3 rfl ?_
  refine x_iload_n dL_about_4 rfl ?_
  refine x_callV2 cL_D_about dL_about_5 hc (Nat.le_of_ble_eq_true rfl) (Nat.le_of_ble_eq_true rfl) hG ?_
  refine x_i2l dL_about_8 ?_
  refine x_last 0 dL_about_9 ho hb rfl (by decide) (by decide) ?_
  refine x_goto 21 dL_about_10 (by decide) ?_
  refine x_iconst (v := (nI 0)) dL_about_21 (by decide) ?_
  exact x_iret rfl dL_about_22
theorem l_about_NSE {p1 : Int32} {p2 : Int32} (hc : h.1 b = some (dC b K)) (hG : xG E (d + 4) mD_about 0 [(0, .ref b), (1, .int p1), (2, .int p2)] [] false h (w1, .inr ("java/util/NoSuchElementException", x), h1)) : xG E (d + 5) mL_about 0 [(0, .ref b), (1, .int p1), (2, .int p2), (3, .ref a)] [] false h (true, .inl (some (.int (nI 1))), h1) := by
  refine x_aload_n dL_about_0 rfl ?_
  refine x_iconst (v := (nI 0)) dL_about_1 (by decide) ?_
  refine x_aload_n dL_about_2 rfl ?_
  refine x_iload_n dL_about_3 rfl ?_
  refine x_iload_n dL_about_4 rfl ?_
  refine x_catV2 (x := ("java/util/NoSuchElementException", x)) [] (0, 10, 13, 21) [(0, 10, 17, 13)] rfl (fun z hz => absurd hz List.not_mem_nil) (by decide) (by decide) kw_220 kw_231 cL_D_about dL_about_5 hc (Nat.le_of_ble_eq_true rfl) (Nat.le_of_ble_eq_true rfl) hG ?_
  refine x_astore dL_about_13 (Nat.le_of_ble_eq_true rfl) ?_
  refine x_iconst (v := (nI 1)) dL_about_15 (by decide) ?_
  exact x_iret rfl dL_about_16
theorem l_about_IAE {p1 : Int32} {p2 : Int32} (hc : h.1 b = some (dC b K)) (hG : xG E (d + 4) mD_about 0 [(0, .ref b), (1, .int p1), (2, .int p2)] [] false h (w1, .inr ("java/lang/IllegalArgumentException", x), h1)) : xG E (d + 5) mL_about 0 [(0, .ref b), (1, .int p1), (2, .int p2), (3, .ref a)] [] false h (true, .inl (some (.int (nI 2))), h1) := by
  refine x_aload_n dL_about_0 rfl ?_
  refine x_iconst (v := (nI 0)) dL_about_1 (by decide) ?_
  refine x_aload_n dL_about_2 rfl ?_
  refine x_iload_n dL_about_3 rfl ?_
  refine x_iload_n dL_about_4 rfl ?_
  refine x_catV2 (x := ("java/lang/IllegalArgumentException", x)) [(0, 10, 13, 21)] (0, 10, 17, 13) [] rfl (fun z hz => by rcases List.mem_singleton.mp hz with rfl; exact ⟨by decide, "java/util/NoSuchElementException", kw_220, fun s hz => hz.2.2.2.2.2.2⟩) (by decide) (by decide) kw_125 kw_133 cL_D_about dL_about_5 hc (Nat.le_of_ble_eq_true rfl) (Nat.le_of_ble_eq_true rfl) hG ?_
  refine x_astore dL_about_17 (Nat.le_of_ble_eq_true rfl) ?_
  refine x_iconst (v := (nI 2)) dL_about_19 (by decide) ?_
  exact x_iret rfl dL_about_20
end
