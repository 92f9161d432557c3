/-! One turn of the law for each operation -/
section
variable {E : xE} {d b sc len i : Nat} {S : Nat → Int32} {σ : vS} {μ : qS} {f : Nat → Int64} {h : xH} {o : xO} {P : xH → Prop}
/-- what follows a turn: the rest of the law, from any next state -/
def KK (E : xE) (d b sc len i : Nat) (S : Nat → Int32) (σ : vS) (h : xH) (o : xO) (P : xH → Prop) : Prop := ∀ (σ' : vS) (μ' : qS) (f' : Nat → Int64) (h' : xH), LJ b sc len S σ' μ' f' h' → sK σ' ≤ sK σ + 1 → h'.2.1 ≤ h.2.1 + 1 → h'.2.2 ≤ h.2.2 + 6 → ∃ h'', xG E (d + 6) mL_law 901 [(4, .int (nI (5 * i))), (0, .ref sc), (1, .ref b), (2, .ref (b + 182)), (3, .ref (b + 195))] [] true h' (true, o, h'') ∧ P h''
theorem g_begin (hb : E.2.2.1 ≤ b) (L : LJ b sc len S σ μ f h) (hi : 5 * i + 5 ≤ len) (hlen : len ≤ 2560) (K : KK E d b sc len i S σ h o P) : ∃ h'', xG E (d + 6) mL_law 104 [(4, .int (nI (5 * i))), (0, .ref sc), (1, .ref b), (2, .ref (b + 182)), (3, .ref (b + 195))] [] true h (true, o, h'') ∧ P h'' := by
  obtain ⟨k, v, σ', μ', f', h1, h2, A, B, L', hx, hk, hc, hK, z1, z2, s1, ⟨x1, y1, q1⟩, ⟨x2, y2, q2⟩⟩ := J_begin (d := d) hb L (S (5 * i + 1))
  obtain ⟨h'', kk, hP⟩ := K σ' μ' f' h2 L' hK z1 z2
  refine ⟨h'', ?_, hP⟩
  refine x_aload_n dL_law_104 rfl ?_
  refine x_aload_n dL_law_105 rfl ?_
  refine x_iload dL_law_106 rfl ?_
  refine x_iconst (v := (nI 1)) dL_law_108 (by decide) ?_
  refine x_iadd dL_law_109 ?_
  refine x_iald (5 * i + 1) dL_law_110 L.2.2.2.1 (by rw [nI_add]) (by omega) (by omega) ?_
  refine x_aload_n dL_law_111 rfl ?_
  refine x_callS3 cL_L_begin dL_law_112 (Nat.le_of_ble_eq_true rfl) (Nat.le_of_ble_eq_true rfl) A ?_
  refine x_istore dL_law_115 (Nat.le_of_ble_eq_true rfl) ?_
  refine x_aload_n dL_law_117 rfl ?_
  refine x_aload_n dL_law_118 rfl ?_
  refine x_iload dL_law_119 rfl ?_
  refine x_iconst (v := (nI 1)) dL_law_121 (by decide) ?_
  refine x_iadd dL_law_122 ?_
  refine x_iald (5 * i + 1) dL_law_123 s1 (by rw [nI_add]) (by omega) (by omega) ?_
  refine x_callV1 cL_M_begin dL_law_124 q1 (Nat.le_of_ble_eq_true rfl) (Nat.le_of_ble_eq_true rfl) B ?_
  refine x_istore dL_law_127 (Nat.le_of_ble_eq_true rfl) ?_
  refine x_aload_n dL_law_129 rfl ?_
  refine x_callV0 cL_M_thrown dL_law_130 q2 (Nat.le_of_ble_eq_true rfl) (Nat.le_of_ble_eq_true rfl) (m_thrown L'.2.1) ?_
  refine x_iload dL_law_133 rfl ?_
  refine x_icmp_eq 140 dL_law_135 (by decide) (fun _ => ?_) (fun q => absurd (by rw [hx]) q)
  refine x_iload dL_law_140 rfl ?_
  refine x_if_ne 157 dL_law_142 (by decide) (fun _ => ?_) (fun hz => ?_)
  · refine x_goto 901 dL_law_157 (by decide) ?_
    exact x_loc _ (xac rfl (xac rfl (xac rfl (xac rfl (xac rfl xan))))) kk
  · have h0 : k = 0 := (nI_eq (b := 0) (by omega) (by decide)).mp hz
    refine x_aload_n dL_law_145 rfl ?_
    refine x_iconst (v := (nI 0)) dL_law_146 (by decide) ?_
    refine x_lald 0 dL_law_147 L'.2.2.1 rfl (by decide) (by decide) ?_
    refine x_iload dL_law_148 rfl ?_
    refine x_i2l dL_law_150 ?_
    refine x_lcmp dL_law_151 ?_
    refine x_if_eq 157 dL_law_152 (by decide) (fun _ => ?_) (fun q => absurd ((lg_cmp_eq _ _).mpr (hc h0)) q)
    refine x_goto 901 dL_law_157 (by decide) ?_
    exact x_loc _ (xac rfl (xac rfl (xac rfl (xac rfl (xac rfl xan))))) kk
theorem g_read (hb : E.2.2.1 ≤ b) (L : LJ b sc len S σ μ f h) (hi : 5 * i + 5 ≤ len) (hlen : len ≤ 2560) (K : KK E d b sc len i S σ h o P) : ∃ h'', xG E (d + 6) mL_law 160 [(4, .int (nI (5 * i))), (0, .ref sc), (1, .ref b), (2, .ref (b + 182)), (3, .ref (b + 195))] [] true h (true, o, h'') ∧ P h'' := by
  obtain ⟨k, v, σ', μ', f', h1, h2, A, B, L', hx, hk, hc, hK, z1, z2, s1, ⟨x1, y1, q1⟩, ⟨x2, y2, q2⟩⟩ := J_read (d := d) hb L (S (5 * i + 1)) (S (5 * i + 2))
  obtain ⟨h'', kk, hP⟩ := K σ' μ' f' h2 L' hK z1 z2
  refine ⟨h'', ?_, hP⟩
  refine x_aload_n dL_law_160 rfl ?_
  refine x_aload_n dL_law_161 rfl ?_
  refine x_iload dL_law_162 rfl ?_
  refine x_iconst (v := (nI 1)) dL_law_164 (by decide) ?_
  refine x_iadd dL_law_165 ?_
  refine x_iald (5 * i + 1) dL_law_166 L.2.2.2.1 (by rw [nI_add]) (by omega) (by omega) ?_
  refine x_aload_n dL_law_167 rfl ?_
  refine x_iload dL_law_168 rfl ?_
  refine x_iconst (v := (nI 2)) dL_law_170 (by decide) ?_
  refine x_iadd dL_law_171 ?_
  refine x_iald (5 * i + 2) dL_law_172 L.2.2.2.1 (by rw [nI_add]) (by omega) (by omega) ?_
  refine x_aload_n dL_law_173 rfl ?_
  refine x_callS4 cL_L_read dL_law_174 (Nat.le_of_ble_eq_true rfl) (Nat.le_of_ble_eq_true rfl) A ?_
  refine x_istore dL_law_177 (Nat.le_of_ble_eq_true rfl) ?_
  refine x_aload_n dL_law_179 rfl ?_
  refine x_aload_n dL_law_180 rfl ?_
  refine x_iload dL_law_181 rfl ?_
  refine x_iconst (v := (nI 1)) dL_law_183 (by decide) ?_
  refine x_iadd dL_law_184 ?_
  refine x_iald (5 * i + 1) dL_law_185 s1 (by rw [nI_add]) (by omega) (by omega) ?_
  refine x_aload_n dL_law_186 rfl ?_
  refine x_iload dL_law_187 rfl ?_
  refine x_iconst (v := (nI 2)) dL_law_189 (by decide) ?_
  refine x_iadd dL_law_190 ?_
  refine x_iald (5 * i + 2) dL_law_191 s1 (by rw [nI_add]) (by omega) (by omega) ?_
  refine x_callV2 cL_M_read dL_law_192 q1 (Nat.le_of_ble_eq_true rfl) (Nat.le_of_ble_eq_true rfl) B ?_
  refine x_lstore dL_law_195 (Nat.le_of_ble_eq_true rfl) ?_
  refine x_aload_n dL_law_197 rfl ?_
  refine x_callV0 cL_M_thrown dL_law_198 q2 (Nat.le_of_ble_eq_true rfl) (Nat.le_of_ble_eq_true rfl) (m_thrown L'.2.1) ?_
  refine x_iload dL_law_201 rfl ?_
  refine x_icmp_eq 208 dL_law_203 (by decide) (fun _ => ?_) (fun q => absurd (by rw [hx]) q)
  refine x_iload dL_law_208 rfl ?_
  refine x_if_ne 224 dL_law_210 (by decide) (fun _ => ?_) (fun hz => ?_)
  · refine x_goto 901 dL_law_224 (by decide) ?_
    exact x_loc _ (xac rfl (xac rfl (xac rfl (xac rfl (xac rfl xan))))) kk
  · have h0 : k = 0 := (nI_eq (b := 0) (by omega) (by decide)).mp hz
    refine x_aload_n dL_law_213 rfl ?_
    refine x_iconst (v := (nI 0)) dL_law_214 (by decide) ?_
    refine x_lald 0 dL_law_215 L'.2.2.1 rfl (by decide) (by decide) ?_
    refine x_lload dL_law_216 rfl ?_
    refine x_lcmp dL_law_218 ?_
    refine x_if_eq 224 dL_law_219 (by decide) (fun _ => ?_) (fun q => absurd ((lg_cmp_eq _ _).mpr (hc h0)) q)
    refine x_goto 901 dL_law_224 (by decide) ?_
    exact x_loc _ (xac rfl (xac rfl (xac rfl (xac rfl (xac rfl xan))))) kk
theorem g_write (hb : E.2.2.1 ≤ b) (L : LJ b sc len S σ μ f h) (hi : 5 * i + 5 ≤ len) (hlen : len ≤ 2560) (K : KK E d b sc len i S σ h o P) : ∃ h'', xG E (d + 6) mL_law 227 [(4, .int (nI (5 * i))), (0, .ref sc), (1, .ref b), (2, .ref (b + 182)), (3, .ref (b + 195))] [] true h (true, o, h'') ∧ P h'' := by
  obtain ⟨k, v, σ', μ', f', h1, h2, A, B, L', hx, hk, hc, hK, z1, z2, s1, ⟨x1, y1, q1⟩, ⟨x2, y2, q2⟩⟩ := J_write (d := d) hb L (S (5 * i + 1)) (S (5 * i + 2)) (((S (5 * i + 3)).toInt64 <<< ((nI 32).toInt64 &&& 63)) ||| ((S (5 * i + 4)).toInt64 &&& 4294967295))
  obtain ⟨h'', kk, hP⟩ := K σ' μ' f' h2 L' hK z1 z2
  refine ⟨h'', ?_, hP⟩
  refine x_aload_n dL_law_227 rfl ?_
  refine x_aload_n dL_law_228 rfl ?_
  refine x_iload dL_law_229 rfl ?_
  refine x_iconst (v := (nI 1)) dL_law_231 (by decide) ?_
  refine x_iadd dL_law_232 ?_
  refine x_iald (5 * i + 1) dL_law_233 L.2.2.2.1 (by rw [nI_add]) (by omega) (by omega) ?_
  refine x_aload_n dL_law_234 rfl ?_
  refine x_iload dL_law_235 rfl ?_
  refine x_iconst (v := (nI 2)) dL_law_237 (by decide) ?_
  refine x_iadd dL_law_238 ?_
  refine x_iald (5 * i + 2) dL_law_239 L.2.2.2.1 (by rw [nI_add]) (by omega) (by omega) ?_
  refine x_aload_n dL_law_240 rfl ?_
  refine x_iload dL_law_241 rfl ?_
  refine x_iconst (v := (nI 3)) dL_law_243 (by decide) ?_
  refine x_iadd dL_law_244 ?_
  refine x_iald (5 * i + 3) dL_law_245 L.2.2.2.1 (by rw [nI_add]) (by omega) (by omega) ?_
  refine x_i2l dL_law_246 ?_
  refine x_bipush (v := (nI 32)) dL_law_247 (by decide) ?_
  refine x_lshl dL_law_249 ?_
  refine x_aload_n dL_law_250 rfl ?_
  refine x_iload dL_law_251 rfl ?_
  refine x_iconst (v := (nI 4)) dL_law_253 (by decide) ?_
  refine x_iadd dL_law_254 ?_
  refine x_iald (5 * i + 4) dL_law_255 L.2.2.2.1 (by rw [nI_add]) (by omega) (by omega) ?_
  refine x_i2l dL_law_256 ?_
  refine x_ldc2 dL_law_257 kw_564 ?_
  refine x_land dL_law_260 ?_
  refine x_lor dL_law_261 ?_
  refine x_aload_n dL_law_262 rfl ?_
  refine x_callS5 cL_L_write dL_law_263 (Nat.le_of_ble_eq_true rfl) (Nat.le_of_ble_eq_true rfl) A ?_
  refine x_istore dL_law_266 (Nat.le_of_ble_eq_true rfl) ?_
  refine x_aload_n dL_law_268 rfl ?_
  refine x_aload_n dL_law_269 rfl ?_
  refine x_iload dL_law_270 rfl ?_
  refine x_iconst (v := (nI 1)) dL_law_272 (by decide) ?_
  refine x_iadd dL_law_273 ?_
  refine x_iald (5 * i + 1) dL_law_274 s1 (by rw [nI_add]) (by omega) (by omega) ?_
  refine x_aload_n dL_law_275 rfl ?_
  refine x_iload dL_law_276 rfl ?_
  refine x_iconst (v := (nI 2)) dL_law_278 (by decide) ?_
  refine x_iadd dL_law_279 ?_
  refine x_iald (5 * i + 2) dL_law_280 s1 (by rw [nI_add]) (by omega) (by omega) ?_
  refine x_aload_n dL_law_281 rfl ?_
  refine x_iload dL_law_282 rfl ?_
  refine x_iconst (v := (nI 3)) dL_law_284 (by decide) ?_
  refine x_iadd dL_law_285 ?_
  refine x_iald (5 * i + 3) dL_law_286 s1 (by rw [nI_add]) (by omega) (by omega) ?_
  refine x_i2l dL_law_287 ?_
  refine x_bipush (v := (nI 32)) dL_law_288 (by decide) ?_
  refine x_lshl dL_law_290 ?_
  refine x_aload_n dL_law_291 rfl ?_
  refine x_iload dL_law_292 rfl ?_
  refine x_iconst (v := (nI 4)) dL_law_294 (by decide) ?_
  refine x_iadd dL_law_295 ?_
  refine x_iald (5 * i + 4) dL_law_296 s1 (by rw [nI_add]) (by omega) (by omega) ?_
  refine x_i2l dL_law_297 ?_
  refine x_ldc2 dL_law_298 kw_564 ?_
  refine x_land dL_law_301 ?_
  refine x_lor dL_law_302 ?_
  refine x_callV3 cL_M_write dL_law_303 q1 (Nat.le_of_ble_eq_true rfl) (Nat.le_of_ble_eq_true rfl) B ?_
  refine x_lstore dL_law_306 (Nat.le_of_ble_eq_true rfl) ?_
  refine x_aload_n dL_law_308 rfl ?_
  refine x_callV0 cL_M_thrown dL_law_309 q2 (Nat.le_of_ble_eq_true rfl) (Nat.le_of_ble_eq_true rfl) (m_thrown L'.2.1) ?_
  refine x_iload dL_law_312 rfl ?_
  refine x_icmp_eq 319 dL_law_314 (by decide) (fun _ => ?_) (fun q => absurd (by rw [hx]) q)
  refine x_iload dL_law_319 rfl ?_
  refine x_if_ne 335 dL_law_321 (by decide) (fun _ => ?_) (fun hz => ?_)
  · refine x_goto 901 dL_law_335 (by decide) ?_
    exact x_loc _ (xac rfl (xac rfl (xac rfl (xac rfl (xac rfl xan))))) kk
  · have h0 : k = 0 := (nI_eq (b := 0) (by omega) (by decide)).mp hz
    refine x_aload_n dL_law_324 rfl ?_
    refine x_iconst (v := (nI 0)) dL_law_325 (by decide) ?_
    refine x_lald 0 dL_law_326 L'.2.2.1 rfl (by decide) (by decide) ?_
    refine x_lload dL_law_327 rfl ?_
    refine x_lcmp dL_law_329 ?_
    refine x_if_eq 335 dL_law_330 (by decide) (fun _ => ?_) (fun q => absurd ((lg_cmp_eq _ _).mpr (hc h0)) q)
    refine x_goto 901 dL_law_335 (by decide) ?_
    exact x_loc _ (xac rfl (xac rfl (xac rfl (xac rfl (xac rfl xan))))) kk
theorem g_push (hb : E.2.2.1 ≤ b) (L : LJ b sc len S σ μ f h) (hi : 5 * i + 5 ≤ len) (hlen : len ≤ 2560) (K : KK E d b sc len i S σ h o P) : ∃ h'', xG E (d + 6) mL_law 338 [(4, .int (nI (5 * i))), (0, .ref sc), (1, .ref b), (2, .ref (b + 182)), (3, .ref (b + 195))] [] true h (true, o, h'') ∧ P h'' := by
  obtain ⟨k, v, σ', μ', f', h1, h2, A, B, L', hx, hk, hc, hK, z1, z2, s1, ⟨x1, y1, q1⟩, ⟨x2, y2, q2⟩⟩ := J_push (d := d) hb L (S (5 * i + 1))
  obtain ⟨h'', kk, hP⟩ := K σ' μ' f' h2 L' hK z1 z2
  refine ⟨h'', ?_, hP⟩
  refine x_aload_n dL_law_338 rfl ?_
  refine x_aload_n dL_law_339 rfl ?_
  refine x_iload dL_law_340 rfl ?_
  refine x_iconst (v := (nI 1)) dL_law_342 (by decide) ?_
  refine x_iadd dL_law_343 ?_
  refine x_iald (5 * i + 1) dL_law_344 L.2.2.2.1 (by rw [nI_add]) (by omega) (by omega) ?_
  refine x_aload_n dL_law_345 rfl ?_
  refine x_callS3 cL_L_push dL_law_346 (Nat.le_of_ble_eq_true rfl) (Nat.le_of_ble_eq_true rfl) A ?_
  refine x_istore dL_law_349 (Nat.le_of_ble_eq_true rfl) ?_
  refine x_aload_n dL_law_351 rfl ?_
  refine x_aload_n dL_law_352 rfl ?_
  refine x_iload dL_law_353 rfl ?_
  refine x_iconst (v := (nI 1)) dL_law_355 (by decide) ?_
  refine x_iadd dL_law_356 ?_
  refine x_iald (5 * i + 1) dL_law_357 s1 (by rw [nI_add]) (by omega) (by omega) ?_
  refine x_callV1 cL_M_push dL_law_358 q1 (Nat.le_of_ble_eq_true rfl) (Nat.le_of_ble_eq_true rfl) B ?_
  refine x_istore dL_law_361 (Nat.le_of_ble_eq_true rfl) ?_
  refine x_aload_n dL_law_363 rfl ?_
  refine x_callV0 cL_M_thrown dL_law_364 q2 (Nat.le_of_ble_eq_true rfl) (Nat.le_of_ble_eq_true rfl) (m_thrown L'.2.1) ?_
  refine x_iload dL_law_367 rfl ?_
  refine x_icmp_eq 374 dL_law_369 (by decide) (fun _ => ?_) (fun q => absurd (by rw [hx]) q)
  refine x_iload dL_law_374 rfl ?_
  refine x_if_ne 391 dL_law_376 (by decide) (fun _ => ?_) (fun hz => ?_)
  · refine x_goto 901 dL_law_391 (by decide) ?_
    exact x_loc _ (xac rfl (xac rfl (xac rfl (xac rfl (xac rfl xan))))) kk
  · have h0 : k = 0 := (nI_eq (b := 0) (by omega) (by decide)).mp hz
    refine x_aload_n dL_law_379 rfl ?_
    refine x_iconst (v := (nI 0)) dL_law_380 (by decide) ?_
    refine x_lald 0 dL_law_381 L'.2.2.1 rfl (by decide) (by decide) ?_
    refine x_iload dL_law_382 rfl ?_
    refine x_i2l dL_law_384 ?_
    refine x_lcmp dL_law_385 ?_
    refine x_if_eq 391 dL_law_386 (by decide) (fun _ => ?_) (fun q => absurd ((lg_cmp_eq _ _).mpr (hc h0)) q)
    refine x_goto 901 dL_law_391 (by decide) ?_
    exact x_loc _ (xac rfl (xac rfl (xac rfl (xac rfl (xac rfl xan))))) kk
theorem g_commit (hb : E.2.2.1 ≤ b) (L : LJ b sc len S σ μ f h) (hi : 5 * i + 5 ≤ len) (hlen : len ≤ 2560) (hclk : sK σ < 100000) (K : KK E d b sc len i S σ h o P) : ∃ h'', xG E (d + 6) mL_law 478 [(4, .int (nI (5 * i))), (0, .ref sc), (1, .ref b), (2, .ref (b + 182)), (3, .ref (b + 195))] [] true h (true, o, h'') ∧ P h'' := by
  obtain ⟨k, v, σ', μ', f', h1, h2, A, B, L', hx, hk, hc, hK, z1, z2, s1, ⟨x1, y1, q1⟩, ⟨x2, y2, q2⟩⟩ := J_commit (d := d) hb L hclk (S (5 * i + 1))
  obtain ⟨h'', kk, hP⟩ := K σ' μ' f' h2 L' hK z1 z2
  refine ⟨h'', ?_, hP⟩
  refine x_aload_n dL_law_478 rfl ?_
  refine x_aload_n dL_law_479 rfl ?_
  refine x_iload dL_law_480 rfl ?_
  refine x_iconst (v := (nI 1)) dL_law_482 (by decide) ?_
  refine x_iadd dL_law_483 ?_
  refine x_iald (5 * i + 1) dL_law_484 L.2.2.2.1 (by rw [nI_add]) (by omega) (by omega) ?_
  refine x_aload_n dL_law_485 rfl ?_
  refine x_callS3 cL_L_commit dL_law_486 (Nat.le_of_ble_eq_true rfl) (Nat.le_of_ble_eq_true rfl) A ?_
  refine x_istore dL_law_489 (Nat.le_of_ble_eq_true rfl) ?_
  refine x_aload_n dL_law_491 rfl ?_
  refine x_aload_n dL_law_492 rfl ?_
  refine x_iload dL_law_493 rfl ?_
  refine x_iconst (v := (nI 1)) dL_law_495 (by decide) ?_
  refine x_iadd dL_law_496 ?_
  refine x_iald (5 * i + 1) dL_law_497 s1 (by rw [nI_add]) (by omega) (by omega) ?_
  refine x_callV1 cL_M_commit dL_law_498 q1 (Nat.le_of_ble_eq_true rfl) (Nat.le_of_ble_eq_true rfl) B ?_
  refine x_istore dL_law_501 (Nat.le_of_ble_eq_true rfl) ?_
  refine x_aload_n dL_law_503 rfl ?_
  refine x_callV0 cL_M_thrown dL_law_504 q2 (Nat.le_of_ble_eq_true rfl) (Nat.le_of_ble_eq_true rfl) (m_thrown L'.2.1) ?_
  refine x_iload dL_law_507 rfl ?_
  refine x_icmp_eq 514 dL_law_509 (by decide) (fun _ => ?_) (fun q => absurd (by rw [hx]) q)
  refine x_iload dL_law_514 rfl ?_
  refine x_if_ne 531 dL_law_516 (by decide) (fun _ => ?_) (fun hz => ?_)
  · refine x_goto 901 dL_law_531 (by decide) ?_
    exact x_loc _ (xac rfl (xac rfl (xac rfl (xac rfl (xac rfl xan))))) kk
  · have h0 : k = 0 := (nI_eq (b := 0) (by omega) (by decide)).mp hz
    refine x_aload_n dL_law_519 rfl ?_
    refine x_iconst (v := (nI 0)) dL_law_520 (by decide) ?_
    refine x_lald 0 dL_law_521 L'.2.2.1 rfl (by decide) (by decide) ?_
    refine x_iload dL_law_522 rfl ?_
    refine x_i2l dL_law_524 ?_
    refine x_lcmp dL_law_525 ?_
    refine x_if_eq 531 dL_law_526 (by decide) (fun _ => ?_) (fun q => absurd ((lg_cmp_eq _ _).mpr (hc h0)) q)
    refine x_goto 901 dL_law_531 (by decide) ?_
    exact x_loc _ (xac rfl (xac rfl (xac rfl (xac rfl (xac rfl xan))))) kk
theorem g_drop (hb : E.2.2.1 ≤ b) (L : LJ b sc len S σ μ f h) (hi : 5 * i + 5 ≤ len) (hlen : len ≤ 2560) (K : KK E d b sc len i S σ h o P) : ∃ h'', xG E (d + 6) mL_law 534 [(4, .int (nI (5 * i))), (0, .ref sc), (1, .ref b), (2, .ref (b + 182)), (3, .ref (b + 195))] [] true h (true, o, h'') ∧ P h'' := by
  obtain ⟨k, v, σ', μ', f', h1, h2, A, B, L', hx, hk, hc, hK, z1, z2, s1, ⟨x1, y1, q1⟩, ⟨x2, y2, q2⟩⟩ := J_drop (d := d) hb L (S (5 * i + 1))
  obtain ⟨h'', kk, hP⟩ := K σ' μ' f' h2 L' hK z1 z2
  refine ⟨h'', ?_, hP⟩
  refine x_aload_n dL_law_534 rfl ?_
  refine x_aload_n dL_law_535 rfl ?_
  refine x_iload dL_law_536 rfl ?_
  refine x_iconst (v := (nI 1)) dL_law_538 (by decide) ?_
  refine x_iadd dL_law_539 ?_
  refine x_iald (5 * i + 1) dL_law_540 L.2.2.2.1 (by rw [nI_add]) (by omega) (by omega) ?_
  refine x_aload_n dL_law_541 rfl ?_
  refine x_callS3 cL_L_drop dL_law_542 (Nat.le_of_ble_eq_true rfl) (Nat.le_of_ble_eq_true rfl) A ?_
  refine x_istore dL_law_545 (Nat.le_of_ble_eq_true rfl) ?_
  refine x_aload_n dL_law_547 rfl ?_
  refine x_aload_n dL_law_548 rfl ?_
  refine x_iload dL_law_549 rfl ?_
  refine x_iconst (v := (nI 1)) dL_law_551 (by decide) ?_
  refine x_iadd dL_law_552 ?_
  refine x_iald (5 * i + 1) dL_law_553 s1 (by rw [nI_add]) (by omega) (by omega) ?_
  refine x_callV1 cL_M_drop dL_law_554 q1 (Nat.le_of_ble_eq_true rfl) (Nat.le_of_ble_eq_true rfl) B ?_
  refine x_istore dL_law_557 (Nat.le_of_ble_eq_true rfl) ?_
  refine x_aload_n dL_law_559 rfl ?_
  refine x_callV0 cL_M_thrown dL_law_560 q2 (Nat.le_of_ble_eq_true rfl) (Nat.le_of_ble_eq_true rfl) (m_thrown L'.2.1) ?_
  refine x_iload dL_law_563 rfl ?_
  refine x_icmp_eq 570 dL_law_565 (by decide) (fun _ => ?_) (fun q => absurd (by rw [hx]) q)
  refine x_iload dL_law_570 rfl ?_
  refine x_if_ne 587 dL_law_572 (by decide) (fun _ => ?_) (fun hz => ?_)
  · refine x_goto 901 dL_law_587 (by decide) ?_
    exact x_loc _ (xac rfl (xac rfl (xac rfl (xac rfl (xac rfl xan))))) kk
  · have h0 : k = 0 := (nI_eq (b := 0) (by omega) (by decide)).mp hz
    refine x_aload_n dL_law_575 rfl ?_
    refine x_iconst (v := (nI 0)) dL_law_576 (by decide) ?_
    refine x_lald 0 dL_law_577 L'.2.2.1 rfl (by decide) (by decide) ?_
    refine x_iload dL_law_578 rfl ?_
    refine x_i2l dL_law_580 ?_
    refine x_lcmp dL_law_581 ?_
    refine x_if_eq 587 dL_law_582 (by decide) (fun _ => ?_) (fun q => absurd ((lg_cmp_eq _ _).mpr (hc h0)) q)
    refine x_goto 901 dL_law_587 (by decide) ?_
    exact x_loc _ (xac rfl (xac rfl (xac rfl (xac rfl (xac rfl xan))))) kk
theorem g_spoiled (hb : E.2.2.1 ≤ b) (L : LJ b sc len S σ μ f h) (hi : 5 * i + 5 ≤ len) (hlen : len ≤ 2560) (K : KK E d b sc len i S σ h o P) : ∃ h'', xG E (d + 6) mL_law 590 [(4, .int (nI (5 * i))), (0, .ref sc), (1, .ref b), (2, .ref (b + 182)), (3, .ref (b + 195))] [] true h (true, o, h'') ∧ P h'' := by
  obtain ⟨k, v, σ', μ', f', h1, h2, A, B, L', hx, hk, hc, hK, z1, z2, s1, ⟨x1, y1, q1⟩, ⟨x2, y2, q2⟩⟩ := J_spoiled (d := d) hb L (S (5 * i + 1))
  obtain ⟨h'', kk, hP⟩ := K σ' μ' f' h2 L' hK z1 z2
  refine ⟨h'', ?_, hP⟩
  refine x_aload_n dL_law_590 rfl ?_
  refine x_aload_n dL_law_591 rfl ?_
  refine x_iload dL_law_592 rfl ?_
  refine x_iconst (v := (nI 1)) dL_law_594 (by decide) ?_
  refine x_iadd dL_law_595 ?_
  refine x_iald (5 * i + 1) dL_law_596 L.2.2.2.1 (by rw [nI_add]) (by omega) (by omega) ?_
  refine x_aload_n dL_law_597 rfl ?_
  refine x_callS3 cL_L_spoiled dL_law_598 (Nat.le_of_ble_eq_true rfl) (Nat.le_of_ble_eq_true rfl) A ?_
  refine x_istore dL_law_601 (Nat.le_of_ble_eq_true rfl) ?_
  refine x_aload_n dL_law_603 rfl ?_
  refine x_aload_n dL_law_604 rfl ?_
  refine x_iload dL_law_605 rfl ?_
  refine x_iconst (v := (nI 1)) dL_law_607 (by decide) ?_
  refine x_iadd dL_law_608 ?_
  refine x_iald (5 * i + 1) dL_law_609 s1 (by rw [nI_add]) (by omega) (by omega) ?_
  refine x_callV1 cL_M_spoiled dL_law_610 q1 (Nat.le_of_ble_eq_true rfl) (Nat.le_of_ble_eq_true rfl) B ?_
  refine x_istore dL_law_613 (Nat.le_of_ble_eq_true rfl) ?_
  refine x_aload_n dL_law_615 rfl ?_
  refine x_callV0 cL_M_thrown dL_law_616 q2 (Nat.le_of_ble_eq_true rfl) (Nat.le_of_ble_eq_true rfl) (m_thrown L'.2.1) ?_
  refine x_iload dL_law_619 rfl ?_
  refine x_icmp_eq 626 dL_law_621 (by decide) (fun _ => ?_) (fun q => absurd (by rw [hx]) q)
  refine x_iload dL_law_626 rfl ?_
  refine x_if_ne 650 dL_law_628 (by decide) (fun _ => ?_) (fun hz => ?_)
  · refine x_goto 901 dL_law_650 (by decide) ?_
    exact x_loc _ (xac rfl (xac rfl (xac rfl (xac rfl (xac rfl xan))))) kk
  · have h0 : k = 0 := (nI_eq (b := 0) (by omega) (by decide)).mp hz
    refine x_aload_n dL_law_631 rfl ?_
    refine x_iconst (v := (nI 0)) dL_law_632 (by decide) ?_
    refine x_lald 0 dL_law_633 L'.2.2.1 rfl (by decide) (by decide) ?_
    refine x_iload dL_law_634 rfl ?_
    cases v with
    | false =>
      refine x_if_eq 643 dL_law_636 (by decide) (fun _ => ?_) (fun q => absurd rfl q)
      refine x_lconst (v := 0) dL_law_643 (by decide) ?_
      refine x_lcmp dL_law_644 ?_
      refine x_if_eq 650 dL_law_645 (by decide) (fun _ => ?_) (fun q => absurd ((lg_cmp_eq _ _).mpr (hc h0)) q)
      refine x_goto 901 dL_law_650 (by decide) ?_
      exact x_loc _ (xac rfl (xac rfl (xac rfl (xac rfl (xac rfl xan))))) kk
    | true =>
      refine x_if_eq 643 dL_law_636 (by decide) (fun q => absurd q (by decide)) (fun _ => ?_)
      refine x_lconst (v := 1) dL_law_639 (by decide) ?_
      refine x_goto 644 dL_law_640 (by decide) ?_
      refine x_lcmp dL_law_644 ?_
      refine x_if_eq 650 dL_law_645 (by decide) (fun _ => ?_) (fun q => absurd ((lg_cmp_eq _ _).mpr (hc h0)) q)
      refine x_goto 901 dL_law_650 (by decide) ?_
      exact x_loc _ (xac rfl (xac rfl (xac rfl (xac rfl (xac rfl xan))))) kk
theorem g_meets (hb : E.2.2.1 ≤ b) (L : LJ b sc len S σ μ f h) (hi : 5 * i + 5 ≤ len) (hlen : len ≤ 2560) (K : KK E d b sc len i S σ h o P) : ∃ h'', xG E (d + 6) mL_law 653 [(4, .int (nI (5 * i))), (0, .ref sc), (1, .ref b), (2, .ref (b + 182)), (3, .ref (b + 195))] [] true h (true, o, h'') ∧ P h'' := by
  obtain ⟨k, v, σ', μ', f', h1, h2, A, B, L', hx, hk, hc, hK, z1, z2, s1, ⟨x1, y1, q1⟩, ⟨x2, y2, q2⟩⟩ := J_meets (d := d) hb L (S (5 * i + 1)) (S (5 * i + 2))
  obtain ⟨h'', kk, hP⟩ := K σ' μ' f' h2 L' hK z1 z2
  refine ⟨h'', ?_, hP⟩
  refine x_aload_n dL_law_653 rfl ?_
  refine x_aload_n dL_law_654 rfl ?_
  refine x_iload dL_law_655 rfl ?_
  refine x_iconst (v := (nI 1)) dL_law_657 (by decide) ?_
  refine x_iadd dL_law_658 ?_
  refine x_iald (5 * i + 1) dL_law_659 L.2.2.2.1 (by rw [nI_add]) (by omega) (by omega) ?_
  refine x_aload_n dL_law_660 rfl ?_
  refine x_iload dL_law_661 rfl ?_
  refine x_iconst (v := (nI 2)) dL_law_663 (by decide) ?_
  refine x_iadd dL_law_664 ?_
  refine x_iald (5 * i + 2) dL_law_665 L.2.2.2.1 (by rw [nI_add]) (by omega) (by omega) ?_
  refine x_aload_n dL_law_666 rfl ?_
  refine x_callS4 cL_L_meets dL_law_667 (Nat.le_of_ble_eq_true rfl) (Nat.le_of_ble_eq_true rfl) A ?_
  refine x_istore dL_law_670 (Nat.le_of_ble_eq_true rfl) ?_
  refine x_aload_n dL_law_672 rfl ?_
  refine x_aload_n dL_law_673 rfl ?_
  refine x_iload dL_law_674 rfl ?_
  refine x_iconst (v := (nI 1)) dL_law_676 (by decide) ?_
  refine x_iadd dL_law_677 ?_
  refine x_iald (5 * i + 1) dL_law_678 s1 (by rw [nI_add]) (by omega) (by omega) ?_
  refine x_aload_n dL_law_679 rfl ?_
  refine x_iload dL_law_680 rfl ?_
  refine x_iconst (v := (nI 2)) dL_law_682 (by decide) ?_
  refine x_iadd dL_law_683 ?_
  refine x_iald (5 * i + 2) dL_law_684 s1 (by rw [nI_add]) (by omega) (by omega) ?_
  refine x_callV2 cL_M_meets dL_law_685 q1 (Nat.le_of_ble_eq_true rfl) (Nat.le_of_ble_eq_true rfl) B ?_
  refine x_istore dL_law_688 (Nat.le_of_ble_eq_true rfl) ?_
  refine x_aload_n dL_law_690 rfl ?_
  refine x_callV0 cL_M_thrown dL_law_691 q2 (Nat.le_of_ble_eq_true rfl) (Nat.le_of_ble_eq_true rfl) (m_thrown L'.2.1) ?_
  refine x_iload dL_law_694 rfl ?_
  refine x_icmp_eq 701 dL_law_696 (by decide) (fun _ => ?_) (fun q => absurd (by rw [hx]) q)
  refine x_iload dL_law_701 rfl ?_
  refine x_if_ne 725 dL_law_703 (by decide) (fun _ => ?_) (fun hz => ?_)
  · refine x_goto 901 dL_law_725 (by decide) ?_
    exact x_loc _ (xac rfl (xac rfl (xac rfl (xac rfl (xac rfl xan))))) kk
  · have h0 : k = 0 := (nI_eq (b := 0) (by omega) (by decide)).mp hz
    refine x_aload_n dL_law_706 rfl ?_
    refine x_iconst (v := (nI 0)) dL_law_707 (by decide) ?_
    refine x_lald 0 dL_law_708 L'.2.2.1 rfl (by decide) (by decide) ?_
    refine x_iload dL_law_709 rfl ?_
    cases v with
    | false =>
      refine x_if_eq 718 dL_law_711 (by decide) (fun _ => ?_) (fun q => absurd rfl q)
      refine x_lconst (v := 0) dL_law_718 (by decide) ?_
      refine x_lcmp dL_law_719 ?_
      refine x_if_eq 725 dL_law_720 (by decide) (fun _ => ?_) (fun q => absurd ((lg_cmp_eq _ _).mpr (hc h0)) q)
      refine x_goto 901 dL_law_725 (by decide) ?_
      exact x_loc _ (xac rfl (xac rfl (xac rfl (xac rfl (xac rfl xan))))) kk
    | true =>
      refine x_if_eq 718 dL_law_711 (by decide) (fun q => absurd q (by decide)) (fun _ => ?_)
      refine x_lconst (v := 1) dL_law_714 (by decide) ?_
      refine x_goto 719 dL_law_715 (by decide) ?_
      refine x_lcmp dL_law_719 ?_
      refine x_if_eq 725 dL_law_720 (by decide) (fun _ => ?_) (fun q => absurd ((lg_cmp_eq _ _).mpr (hc h0)) q)
      refine x_goto 901 dL_law_725 (by decide) ?_
      exact x_loc _ (xac rfl (xac rfl (xac rfl (xac rfl (xac rfl xan))))) kk
theorem g_past (hb : E.2.2.1 ≤ b) (L : LJ b sc len S σ μ f h) (hi : 5 * i + 5 ≤ len) (hlen : len ≤ 2560) (K : KK E d b sc len i S σ h o P) : ∃ h'', xG E (d + 6) mL_law 728 [(4, .int (nI (5 * i))), (0, .ref sc), (1, .ref b), (2, .ref (b + 182)), (3, .ref (b + 195))] [] true h (true, o, h'') ∧ P h'' := by
  obtain ⟨k, v, σ', μ', f', h1, h2, A, B, L', hx, hk, hc, hK, z1, z2, s1, ⟨x1, y1, q1⟩, ⟨x2, y2, q2⟩⟩ := J_past (d := d) hb L (S (5 * i + 1)) (S (5 * i + 2))
  obtain ⟨h'', kk, hP⟩ := K σ' μ' f' h2 L' hK z1 z2
  refine ⟨h'', ?_, hP⟩
  refine x_aload_n dL_law_728 rfl ?_
  refine x_aload_n dL_law_729 rfl ?_
  refine x_iload dL_law_730 rfl ?_
  refine x_iconst (v := (nI 1)) dL_law_732 (by decide) ?_
  refine x_iadd dL_law_733 ?_
  refine x_iald (5 * i + 1) dL_law_734 L.2.2.2.1 (by rw [nI_add]) (by omega) (by omega) ?_
  refine x_aload_n dL_law_735 rfl ?_
  refine x_iload dL_law_736 rfl ?_
  refine x_iconst (v := (nI 2)) dL_law_738 (by decide) ?_
  refine x_iadd dL_law_739 ?_
  refine x_iald (5 * i + 2) dL_law_740 L.2.2.2.1 (by rw [nI_add]) (by omega) (by omega) ?_
  refine x_aload_n dL_law_741 rfl ?_
  refine x_callS4 cL_L_past dL_law_742 (Nat.le_of_ble_eq_true rfl) (Nat.le_of_ble_eq_true rfl) A ?_
  refine x_istore dL_law_745 (Nat.le_of_ble_eq_true rfl) ?_
  refine x_aload_n dL_law_747 rfl ?_
  refine x_aload_n dL_law_748 rfl ?_
  refine x_iload dL_law_749 rfl ?_
  refine x_iconst (v := (nI 1)) dL_law_751 (by decide) ?_
  refine x_iadd dL_law_752 ?_
  refine x_iald (5 * i + 1) dL_law_753 s1 (by rw [nI_add]) (by omega) (by omega) ?_
  refine x_aload_n dL_law_754 rfl ?_
  refine x_iload dL_law_755 rfl ?_
  refine x_iconst (v := (nI 2)) dL_law_757 (by decide) ?_
  refine x_iadd dL_law_758 ?_
  refine x_iald (5 * i + 2) dL_law_759 s1 (by rw [nI_add]) (by omega) (by omega) ?_
  refine x_callV2 cL_M_past dL_law_760 q1 (Nat.le_of_ble_eq_true rfl) (Nat.le_of_ble_eq_true rfl) B ?_
  refine x_lstore dL_law_763 (Nat.le_of_ble_eq_true rfl) ?_
  refine x_aload_n dL_law_765 rfl ?_
  refine x_callV0 cL_M_thrown dL_law_766 q2 (Nat.le_of_ble_eq_true rfl) (Nat.le_of_ble_eq_true rfl) (m_thrown L'.2.1) ?_
  refine x_iload dL_law_769 rfl ?_
  refine x_icmp_eq 776 dL_law_771 (by decide) (fun _ => ?_) (fun q => absurd (by rw [hx]) q)
  refine x_iload dL_law_776 rfl ?_
  refine x_if_ne 792 dL_law_778 (by decide) (fun _ => ?_) (fun hz => ?_)
  · refine x_goto 901 dL_law_792 (by decide) ?_
    exact x_loc _ (xac rfl (xac rfl (xac rfl (xac rfl (xac rfl xan))))) kk
  · have h0 : k = 0 := (nI_eq (b := 0) (by omega) (by decide)).mp hz
    refine x_aload_n dL_law_781 rfl ?_
    refine x_iconst (v := (nI 0)) dL_law_782 (by decide) ?_
    refine x_lald 0 dL_law_783 L'.2.2.1 rfl (by decide) (by decide) ?_
    refine x_lload dL_law_784 rfl ?_
    refine x_lcmp dL_law_786 ?_
    refine x_if_eq 792 dL_law_787 (by decide) (fun _ => ?_) (fun q => absurd ((lg_cmp_eq _ _).mpr (hc h0)) q)
    refine x_goto 901 dL_law_792 (by decide) ?_
    exact x_loc _ (xac rfl (xac rfl (xac rfl (xac rfl (xac rfl xan))))) kk
theorem g_about (hb : E.2.2.1 ≤ b) (L : LJ b sc len S σ μ f h) (hi : 5 * i + 5 ≤ len) (hlen : len ≤ 2560) (K : KK E d b sc len i S σ h o P) : ∃ h'', xG E (d + 6) mL_law 808 [(4, .int (nI (5 * i))), (0, .ref sc), (1, .ref b), (2, .ref (b + 182)), (3, .ref (b + 195))] [] true h (true, o, h'') ∧ P h'' := by
  obtain ⟨k, v, σ', μ', f', h1, h2, A, B, L', hx, hk, hc, hK, z1, z2, s1, ⟨x1, y1, q1⟩, ⟨x2, y2, q2⟩⟩ := J_about (d := d) hb L (S (5 * i + 1)) (S (5 * i + 2))
  obtain ⟨h'', kk, hP⟩ := K σ' μ' f' h2 L' hK z1 z2
  refine ⟨h'', ?_, hP⟩
  refine x_aload_n dL_law_808 rfl ?_
  refine x_aload_n dL_law_809 rfl ?_
  refine x_iload dL_law_810 rfl ?_
  refine x_iconst (v := (nI 1)) dL_law_812 (by decide) ?_
  refine x_iadd dL_law_813 ?_
  refine x_iald (5 * i + 1) dL_law_814 L.2.2.2.1 (by rw [nI_add]) (by omega) (by omega) ?_
  refine x_aload_n dL_law_815 rfl ?_
  refine x_iload dL_law_816 rfl ?_
  refine x_iconst (v := (nI 2)) dL_law_818 (by decide) ?_
  refine x_iadd dL_law_819 ?_
  refine x_iald (5 * i + 2) dL_law_820 L.2.2.2.1 (by rw [nI_add]) (by omega) (by omega) ?_
  refine x_aload_n dL_law_821 rfl ?_
  refine x_callS4 cL_L_about dL_law_822 (Nat.le_of_ble_eq_true rfl) (Nat.le_of_ble_eq_true rfl) A ?_
  refine x_istore dL_law_825 (Nat.le_of_ble_eq_true rfl) ?_
  refine x_aload_n dL_law_827 rfl ?_
  refine x_aload_n dL_law_828 rfl ?_
  refine x_iload dL_law_829 rfl ?_
  refine x_iconst (v := (nI 1)) dL_law_831 (by decide) ?_
  refine x_iadd dL_law_832 ?_
  refine x_iald (5 * i + 1) dL_law_833 s1 (by rw [nI_add]) (by omega) (by omega) ?_
  refine x_aload_n dL_law_834 rfl ?_
  refine x_iload dL_law_835 rfl ?_
  refine x_iconst (v := (nI 2)) dL_law_837 (by decide) ?_
  refine x_iadd dL_law_838 ?_
  refine x_iald (5 * i + 2) dL_law_839 s1 (by rw [nI_add]) (by omega) (by omega) ?_
  refine x_callV2 cL_M_about dL_law_840 q1 (Nat.le_of_ble_eq_true rfl) (Nat.le_of_ble_eq_true rfl) B ?_
  refine x_istore dL_law_843 (Nat.le_of_ble_eq_true rfl) ?_
  refine x_aload_n dL_law_845 rfl ?_
  refine x_callV0 cL_M_thrown dL_law_846 q2 (Nat.le_of_ble_eq_true rfl) (Nat.le_of_ble_eq_true rfl) (m_thrown L'.2.1) ?_
  refine x_iload dL_law_849 rfl ?_
  refine x_icmp_eq 856 dL_law_851 (by decide) (fun _ => ?_) (fun q => absurd (by rw [hx]) q)
  refine x_iload dL_law_856 rfl ?_
  refine x_if_ne 873 dL_law_858 (by decide) (fun _ => ?_) (fun hz => ?_)
  · refine x_goto 901 dL_law_873 (by decide) ?_
    exact x_loc _ (xac rfl (xac rfl (xac rfl (xac rfl (xac rfl xan))))) kk
  · have h0 : k = 0 := (nI_eq (b := 0) (by omega) (by decide)).mp hz
    refine x_aload_n dL_law_861 rfl ?_
    refine x_iconst (v := (nI 0)) dL_law_862 (by decide) ?_
    refine x_lald 0 dL_law_863 L'.2.2.1 rfl (by decide) (by decide) ?_
    refine x_iload dL_law_864 rfl ?_
    refine x_i2l dL_law_866 ?_
    refine x_lcmp dL_law_867 ?_
    refine x_if_eq 873 dL_law_868 (by decide) (fun _ => ?_) (fun q => absurd ((lg_cmp_eq _ _).mpr (hc h0)) q)
    refine x_goto 901 dL_law_873 (by decide) ?_
    exact x_loc _ (xac rfl (xac rfl (xac rfl (xac rfl (xac rfl xan))))) kk
theorem g_pop0 (hb : E.2.2.1 ≤ b) (L : LJ b sc len S σ μ f h) (hi : 5 * i + 5 ≤ len) (hlen : len ≤ 2560) (hkp : S (5 * i + 2) = 0) (K : KK E d b sc len i S σ h o P) : ∃ h'', xG E (d + 6) mL_law 394 [(4, .int (nI (5 * i))), (0, .ref sc), (1, .ref b), (2, .ref (b + 182)), (3, .ref (b + 195))] [] true h (true, o, h'') ∧ P h'' := by
  obtain ⟨k, v, σ', μ', f', h1, h2, A, B, L', hx, hk, hc, hK, z1, z2, s1, ⟨x1, y1, q1⟩, ⟨x2, y2, q2⟩⟩ := J_pop (d := d) hb L (S (5 * i + 1)) (nI 0)
  obtain ⟨h'', kk, hP⟩ := K σ' μ' f' h2 L' hK z1 z2
  refine ⟨h'', ?_, hP⟩
  refine x_aload_n dL_law_394 rfl ?_
  refine x_aload_n dL_law_395 rfl ?_
  refine x_iload dL_law_396 rfl ?_
  refine x_iconst (v := (nI 1)) dL_law_398 (by decide) ?_
  refine x_iadd dL_law_399 ?_
  refine x_iald (5 * i + 1) dL_law_400 L.2.2.2.1 (by rw [nI_add]) (by omega) (by omega) ?_
  refine x_aload_n dL_law_401 rfl ?_
  refine x_iload dL_law_402 rfl ?_
  refine x_iconst (v := (nI 2)) dL_law_404 (by decide) ?_
  refine x_iadd dL_law_405 ?_
  refine x_iald (5 * i + 2) dL_law_406 L.2.2.2.1 (by rw [nI_add]) (by omega) (by omega) ?_
  refine x_if_eq 414 dL_law_407 (by decide) (fun _ => ?_) (fun q => absurd hkp q)
  refine x_iconst (v := (nI 0)) dL_law_414 (by decide) ?_
  refine x_aload_n dL_law_415 rfl ?_
  refine x_callS4 cL_L_pop dL_law_416 (Nat.le_of_ble_eq_true rfl) (Nat.le_of_ble_eq_true rfl) A ?_
  refine x_istore dL_law_419 (Nat.le_of_ble_eq_true rfl) ?_
  refine x_aload_n dL_law_421 rfl ?_
  refine x_aload_n dL_law_422 rfl ?_
  refine x_iload dL_law_423 rfl ?_
  refine x_iconst (v := (nI 1)) dL_law_425 (by decide) ?_
  refine x_iadd dL_law_426 ?_
  refine x_iald (5 * i + 1) dL_law_427 s1 (by rw [nI_add]) (by omega) (by omega) ?_
  refine x_aload_n dL_law_428 rfl ?_
  refine x_iload dL_law_429 rfl ?_
  refine x_iconst (v := (nI 2)) dL_law_431 (by decide) ?_
  refine x_iadd dL_law_432 ?_
  refine x_iald (5 * i + 2) dL_law_433 s1 (by rw [nI_add]) (by omega) (by omega) ?_
  refine x_if_eq 441 dL_law_434 (by decide) (fun _ => ?_) (fun q => absurd hkp q)
  refine x_iconst (v := (nI 0)) dL_law_441 (by decide) ?_
  refine x_callV2 cL_M_pop dL_law_442 q1 (Nat.le_of_ble_eq_true rfl) (Nat.le_of_ble_eq_true rfl) B ?_
  refine x_istore dL_law_445 (Nat.le_of_ble_eq_true rfl) ?_
  refine x_aload_n dL_law_447 rfl ?_
  refine x_callV0 cL_M_thrown dL_law_448 q2 (Nat.le_of_ble_eq_true rfl) (Nat.le_of_ble_eq_true rfl) (m_thrown L'.2.1) ?_
  refine x_iload dL_law_451 rfl ?_
  refine x_icmp_eq 458 dL_law_453 (by decide) (fun _ => ?_) (fun q => absurd (by rw [hx]) q)
  refine x_iload dL_law_458 rfl ?_
  refine x_if_ne 475 dL_law_460 (by decide) (fun _ => ?_) (fun hz => ?_)
  · refine x_goto 901 dL_law_475 (by decide) ?_
    exact x_loc _ (xac rfl (xac rfl (xac rfl (xac rfl (xac rfl xan))))) kk
  · have h0 : k = 0 := (nI_eq (b := 0) (by omega) (by decide)).mp hz
    refine x_aload_n dL_law_463 rfl ?_
    refine x_iconst (v := (nI 0)) dL_law_464 (by decide) ?_
    refine x_lald 0 dL_law_465 L'.2.2.1 rfl (by decide) (by decide) ?_
    refine x_iload dL_law_466 rfl ?_
    refine x_i2l dL_law_468 ?_
    refine x_lcmp dL_law_469 ?_
    refine x_if_eq 475 dL_law_470 (by decide) (fun _ => ?_) (fun q => absurd ((lg_cmp_eq _ _).mpr (hc h0)) q)
    refine x_goto 901 dL_law_475 (by decide) ?_
    exact x_loc _ (xac rfl (xac rfl (xac rfl (xac rfl (xac rfl xan))))) kk
theorem g_pop1 (hb : E.2.2.1 ≤ b) (L : LJ b sc len S σ μ f h) (hi : 5 * i + 5 ≤ len) (hlen : len ≤ 2560) (hkp : ¬ S (5 * i + 2) = 0) (K : KK E d b sc len i S σ h o P) : ∃ h'', xG E (d + 6) mL_law 394 [(4, .int (nI (5 * i))), (0, .ref sc), (1, .ref b), (2, .ref (b + 182)), (3, .ref (b + 195))] [] true h (true, o, h'') ∧ P h'' := by
  obtain ⟨k, v, σ', μ', f', h1, h2, A, B, L', hx, hk, hc, hK, z1, z2, s1, ⟨x1, y1, q1⟩, ⟨x2, y2, q2⟩⟩ := J_pop (d := d) hb L (S (5 * i + 1)) (nI 1)
  obtain ⟨h'', kk, hP⟩ := K σ' μ' f' h2 L' hK z1 z2
  refine ⟨h'', ?_, hP⟩
  refine x_aload_n dL_law_394 rfl ?_
  refine x_aload_n dL_law_395 rfl ?_
  refine x_iload dL_law_396 rfl ?_
  refine x_iconst (v := (nI 1)) dL_law_398 (by decide) ?_
  refine x_iadd dL_law_399 ?_
  refine x_iald (5 * i + 1) dL_law_400 L.2.2.2.1 (by rw [nI_add]) (by omega) (by omega) ?_
  refine x_aload_n dL_law_401 rfl ?_
  refine x_iload dL_law_402 rfl ?_
  refine x_iconst (v := (nI 2)) dL_law_404 (by decide) ?_
  refine x_iadd dL_law_405 ?_
  refine x_iald (5 * i + 2) dL_law_406 L.2.2.2.1 (by rw [nI_add]) (by omega) (by omega) ?_
  refine x_if_eq 414 dL_law_407 (by decide) (fun q => absurd q hkp) (fun _ => ?_)
  refine x_iconst (v := (nI 1)) dL_law_410 (by decide) ?_
  refine x_goto 415 dL_law_411 (by decide) ?_
  refine x_aload_n dL_law_415 rfl ?_
  refine x_callS4 cL_L_pop dL_law_416 (Nat.le_of_ble_eq_true rfl) (Nat.le_of_ble_eq_true rfl) A ?_
  refine x_istore dL_law_419 (Nat.le_of_ble_eq_true rfl) ?_
  refine x_aload_n dL_law_421 rfl ?_
  refine x_aload_n dL_law_422 rfl ?_
  refine x_iload dL_law_423 rfl ?_
  refine x_iconst (v := (nI 1)) dL_law_425 (by decide) ?_
  refine x_iadd dL_law_426 ?_
  refine x_iald (5 * i + 1) dL_law_427 s1 (by rw [nI_add]) (by omega) (by omega) ?_
  refine x_aload_n dL_law_428 rfl ?_
  refine x_iload dL_law_429 rfl ?_
  refine x_iconst (v := (nI 2)) dL_law_431 (by decide) ?_
  refine x_iadd dL_law_432 ?_
  refine x_iald (5 * i + 2) dL_law_433 s1 (by rw [nI_add]) (by omega) (by omega) ?_
  refine x_if_eq 441 dL_law_434 (by decide) (fun q => absurd q hkp) (fun _ => ?_)
  refine x_iconst (v := (nI 1)) dL_law_437 (by decide) ?_
  refine x_goto 442 dL_law_438 (by decide) ?_
  refine x_callV2 cL_M_pop dL_law_442 q1 (Nat.le_of_ble_eq_true rfl) (Nat.le_of_ble_eq_true rfl) B ?_
  refine x_istore dL_law_445 (Nat.le_of_ble_eq_true rfl) ?_
  refine x_aload_n dL_law_447 rfl ?_
  refine x_callV0 cL_M_thrown dL_law_448 q2 (Nat.le_of_ble_eq_true rfl) (Nat.le_of_ble_eq_true rfl) (m_thrown L'.2.1) ?_
  refine x_iload dL_law_451 rfl ?_
  refine x_icmp_eq 458 dL_law_453 (by decide) (fun _ => ?_) (fun q => absurd (by rw [hx]) q)
  refine x_iload dL_law_458 rfl ?_
  refine x_if_ne 475 dL_law_460 (by decide) (fun _ => ?_) (fun hz => ?_)
  · refine x_goto 901 dL_law_475 (by decide) ?_
    exact x_loc _ (xac rfl (xac rfl (xac rfl (xac rfl (xac rfl xan))))) kk
  · have h0 : k = 0 := (nI_eq (b := 0) (by omega) (by decide)).mp hz
    refine x_aload_n dL_law_463 rfl ?_
    refine x_iconst (v := (nI 0)) dL_law_464 (by decide) ?_
    refine x_lald 0 dL_law_465 L'.2.2.1 rfl (by decide) (by decide) ?_
    refine x_iload dL_law_466 rfl ?_
    refine x_i2l dL_law_468 ?_
    refine x_lcmp dL_law_469 ?_
    refine x_if_eq 475 dL_law_470 (by decide) (fun _ => ?_) (fun q => absurd ((lg_cmp_eq _ _).mpr (hc h0)) q)
    refine x_goto 901 dL_law_475 (by decide) ?_
    exact x_loc _ (xac rfl (xac rfl (xac rfl (xac rfl (xac rfl xan))))) kk
theorem g_forget (hb : E.2.2.1 ≤ b) (L : LJ b sc len S σ μ f h) (hi : 5 * i + 5 ≤ len) (hlen : len ≤ 2560) (K : KK E d b sc len i S σ h o P) : ∃ h'', xG E (d + 6) mL_law 795 [(4, .int (nI (5 * i))), (0, .ref sc), (1, .ref b), (2, .ref (b + 182)), (3, .ref (b + 195))] [] true h (true, o, h'') ∧ P h'' := by
  obtain ⟨v, w1, σ', μ', f', h1, h2, A, B, L', hK, z1, z2, s1, ⟨x1, y1, q1⟩⟩ := J_forget (d := d) hb L
  obtain ⟨h'', kk, hP⟩ := K σ' μ' f' h2 L' hK z1 z2
  refine ⟨h'', ?_, hP⟩
  refine x_aload_n dL_law_795 rfl ?_
  refine x_callV0 cL_D_forget dL_law_796 L.1.1 (Nat.le_of_ble_eq_true rfl) (Nat.le_of_ble_eq_true rfl) A ?_
  refine x_aload_n dL_law_799 rfl ?_
  refine x_callV0 cL_M_forget dL_law_800 q1 (Nat.le_of_ble_eq_true rfl) (Nat.le_of_ble_eq_true rfl) B ?_
  refine x_icmp_eq 901 dL_law_803 (by decide) (fun _ => ?_) (fun q => absurd rfl q)
  exact kk
theorem g_count (hb : E.2.2.1 ≤ b) (L : LJ b sc len S σ μ f h) (hi : 5 * i + 5 ≤ len) (hlen : len ≤ 2560) (K : KK E d b sc len i S σ h o P) : ∃ h'', xG E (d + 6) mL_law 876 [(4, .int (nI (5 * i))), (0, .ref sc), (1, .ref b), (2, .ref (b + 182)), (3, .ref (b + 195))] [] true h (true, o, h'') ∧ P h'' := by
  obtain ⟨v, w1, σ', μ', f', h1, h2, A, B, L', hK, z1, z2, s1, ⟨x1, y1, q1⟩⟩ := J_count (d := d) hb L (S (5 * i + 1))
  obtain ⟨h'', kk, hP⟩ := K σ' μ' f' h2 L' hK z1 z2
  refine ⟨h'', ?_, hP⟩
  refine x_aload_n dL_law_876 rfl ?_
  refine x_aload_n dL_law_877 rfl ?_
  refine x_iload dL_law_878 rfl ?_
  refine x_iconst (v := (nI 1)) dL_law_880 (by decide) ?_
  refine x_iadd dL_law_881 ?_
  refine x_iald (5 * i + 1) dL_law_882 L.2.2.2.1 (by rw [nI_add]) (by omega) (by omega) ?_
  refine x_callV1 cL_D_count dL_law_883 L.1.1 (Nat.le_of_ble_eq_true rfl) (Nat.le_of_ble_eq_true rfl) A ?_
  refine x_aload_n dL_law_886 rfl ?_
  refine x_aload_n dL_law_887 rfl ?_
  refine x_iload dL_law_888 rfl ?_
  refine x_iconst (v := (nI 1)) dL_law_890 (by decide) ?_
  refine x_iadd dL_law_891 ?_
  refine x_iald (5 * i + 1) dL_law_892 s1 (by rw [nI_add]) (by omega) (by omega) ?_
  refine x_callV1 cL_M_count dL_law_893 q1 (Nat.le_of_ble_eq_true rfl) (Nat.le_of_ble_eq_true rfl) B ?_
  refine x_icmp_eq 901 dL_law_896 (by decide) (fun _ => ?_) (fun q => absurd rfl q)
  exact kk
end
