/-! the law's own rows: one theorem a case of its switch -/
theorem cmp_self (x : Int64) : lg_cmp x x = 0 := by
  unfold lg_cmp
  simp [Int64.lt_irrefl]
theorem LSt_thr (l : Launch) {W : MW} {k : Int32} {g : Nat → Int64} (h : LSt W k g) : Ct l (.code yX8_thrown cX8_thrown 1 (some .int)) yX8_thrown 0 0 0 [.ref 68] W (.inl (some (.int k))) W ∧ (∃ fs, mm_ob W 68 7 fs) ∧ mm_ar W 73 .long (1, .inr (.inl g)) ∧ ∃ fs, mm_ob W 0 6 fs := by
  obtain ⟨Q, U, H, t, ln, s, A, P, K, sv, pl, wr, dn, ha, n, rfl, hS⟩ := h
  exact ⟨cM (m_thrown l cW_hp), ⟨_, cW_obm⟩, cW_out, _, cW_ob⟩
theorem lw_insert (l : Launch) {L : Nat} {xs : Nat → Int32} {Z : MZ} {bc bs i : Nat} (hL : L ≤ 2048) (hi : i + 4 ≤ L) {W : MW} {rf : Int32} {f : Nat → Int64} (h : LSt W rf f) (KK : ∀ W' rf' f', LSt W' rf' f' → Go l yL_law cL_law 7 (some .boolean) [] (some (L, xs)) Z 12 bc bs 1644 [(0, .ref mm_XT), (1, .ref 0), (2, .ref 68), (3, .ref 73), (4, .int (nI i))] [] W') : Go l yL_law cL_law 7 (some .boolean) [] (some (L, xs)) Z 12 (1 + bc) (6 + bs) 184 [(0, .ref mm_XT), (1, .ref 0), (2, .ref 68), (3, .ref 73), (4, .int (nI i))] [] W := by
  obtain ⟨mc, ms, k, b, W2, W3, g, hmc, hms, c1, c2, hS, hv, fs2, ho2⟩ := st_insert l h (xs (i + 1))
  obtain ⟨th, ⟨fs3, ho3⟩, har, -⟩ := LSt_thr l hS
  refine go_room (bc' := mc + bc) (bs' := ms + bs) (by omega) (by omega) ?_
  refine go_aload_n dL_law_184 rfl ?_
  refine go_aload_n dL_law_185 rfl ?_
  refine go_iload dL_law_186 rfl ?_
  refine go_iconst 1 dL_law_188 (by decide) ?_
  refine go_iadd dL_law_189 ?_
  rw [show nI i + (1 : Int32) = nI (i + 1) from nI_add i 1]
  refine go_xload (i + 1) rfl dL_law_190 rfl (by omega) (by omega) ?_
  refine go_aload_n dL_law_191 rfl ?_
  refine go_statH (mc := mc) (ms := ms) (bc := bc) (bs := bs) dL_law_192 c1 s_L_89 kc_L_insert kl_L_89 rfl rfl (Nat.le_of_ble_eq_true rfl) (Nat.le_of_ble_eq_true rfl) (Nat.le_of_ble_eq_true rfl) (fun v hv2 => ?_) (fun E hE => by cases hE)
  cases hv2
  refine go_istore dL_law_195 (Nat.le_of_ble_eq_true rfl) rfl ?_
  refine go_aload_n dL_law_197 rfl ?_
  refine go_aload_n dL_law_198 rfl ?_
  refine go_iload dL_law_199 rfl ?_
  refine go_iconst 1 dL_law_201 (by decide) ?_
  refine go_iadd dL_law_202 ?_
  rw [show nI i + (1 : Int32) = nI (i + 1) from nI_add i 1]
  refine go_xload (i + 1) rfl dL_law_203 rfl (by omega) (by omega) ?_
  refine go_virt1 dL_law_204 c2 v_L_94_7 rfl ho2 rfl (Nat.le_of_ble_eq_true rfl) (Nat.le_of_ble_eq_true rfl) (Nat.le_of_ble_eq_true rfl) ?_
  refine go_istore dL_law_207 (Nat.le_of_ble_eq_true rfl) rfl ?_
  refine go_aload_n dL_law_209 rfl ?_
  refine go_virt1 dL_law_210 th v_L_95_7 rfl ho3 rfl (Nat.le_of_ble_eq_true rfl) (Nat.le_of_ble_eq_true rfl) (Nat.le_of_ble_eq_true rfl) ?_
  refine go_iload dL_law_213 rfl ?_
  refine go_icmp_eq_t 220 dL_law_215 (by decide) rfl ?_
  refine go_iload dL_law_220 rfl ?_
  by_cases k0 : k = 0
  · refine go_if_ne_f 237 dL_law_222 (by decide) k0 ?_
    refine go_aload_n dL_law_225 rfl ?_
    refine go_iconst 0 dL_law_226 (by decide) ?_
    refine go_laload 0 dL_law_227 har rfl (by decide) (by decide) ?_
    refine go_iload dL_law_228 rfl ?_
    refine go_i2l dL_law_230 ?_
    refine go_lcmp dL_law_231 ?_
    refine go_if_eq_t 237 dL_law_232 (by decide) (by rw [hv k0]; exact cmp_self _) ?_
    refine go_goto 1644 dL_law_237 (by decide) ?_
    exact go_sub [(0, .ref mm_XT), (1, .ref 0), (2, .ref 68), (3, .ref 73), (4, .int (nI i))] ⟨rfl, rfl, rfl, rfl, rfl, trivial⟩ (KK W3 k g hS)
  · refine go_if_ne_t 237 dL_law_222 (by decide) k0 ?_
    refine go_goto 1644 dL_law_237 (by decide) ?_
    exact go_sub [(0, .ref mm_XT), (1, .ref 0), (2, .ref 68), (3, .ref 73), (4, .int (nI i))] ⟨rfl, rfl, rfl, rfl, rfl, trivial⟩ (KK W3 k g hS)
theorem lw_takeLeast (l : Launch) {L : Nat} {xs : Nat → Int32} {Z : MZ} {bc bs i : Nat} (hL : L ≤ 2048) (hi : i + 4 ≤ L) {W : MW} {rf : Int32} {f : Nat → Int64} (h : LSt W rf f) (KK : ∀ W' rf' f', LSt W' rf' f' → Go l yL_law cL_law 7 (some .boolean) [] (some (L, xs)) Z 12 bc bs 1644 [(0, .ref mm_XT), (1, .ref 0), (2, .ref 68), (3, .ref 73), (4, .int (nI i))] [] W') : Go l yL_law cL_law 7 (some .boolean) [] (some (L, xs)) Z 12 (1 + bc) (6 + bs) 240 [(0, .ref mm_XT), (1, .ref 0), (2, .ref 68), (3, .ref 73), (4, .int (nI i))] [] W := by
  obtain ⟨mc, ms, k, b, W2, W3, g, hmc, hms, c1, c2, hS, hv, fs2, ho2⟩ := st_takeLeast l h 
  obtain ⟨th, ⟨fs3, ho3⟩, har, -⟩ := LSt_thr l hS
  refine go_room (bc' := mc + bc) (bs' := ms + bs) (by omega) (by omega) ?_
  refine go_aload_n dL_law_240 rfl ?_
  refine go_aload_n dL_law_241 rfl ?_
  refine go_statH (mc := mc) (ms := ms) (bc := bc) (bs := bs) dL_law_242 c1 s_L_98 kc_L_takeLeast kl_L_98 rfl rfl (Nat.le_of_ble_eq_true rfl) (Nat.le_of_ble_eq_true rfl) (Nat.le_of_ble_eq_true rfl) (fun v hv2 => ?_) (fun E hE => by cases hE)
  cases hv2
  refine go_istore dL_law_245 (Nat.le_of_ble_eq_true rfl) rfl ?_
  refine go_aload_n dL_law_247 rfl ?_
  refine go_virt1 dL_law_248 c2 v_L_101_7 rfl ho2 rfl (Nat.le_of_ble_eq_true rfl) (Nat.le_of_ble_eq_true rfl) (Nat.le_of_ble_eq_true rfl) ?_
  refine go_istore dL_law_251 (Nat.le_of_ble_eq_true rfl) rfl ?_
  refine go_aload_n dL_law_253 rfl ?_
  refine go_virt1 dL_law_254 th v_L_95_7 rfl ho3 rfl (Nat.le_of_ble_eq_true rfl) (Nat.le_of_ble_eq_true rfl) (Nat.le_of_ble_eq_true rfl) ?_
  refine go_iload dL_law_257 rfl ?_
  refine go_icmp_eq_t 264 dL_law_259 (by decide) rfl ?_
  refine go_iload dL_law_264 rfl ?_
  by_cases k0 : k = 0
  · refine go_if_ne_f 281 dL_law_266 (by decide) k0 ?_
    refine go_aload_n dL_law_269 rfl ?_
    refine go_iconst 0 dL_law_270 (by decide) ?_
    refine go_laload 0 dL_law_271 har rfl (by decide) (by decide) ?_
    refine go_iload dL_law_272 rfl ?_
    refine go_i2l dL_law_274 ?_
    refine go_lcmp dL_law_275 ?_
    refine go_if_eq_t 281 dL_law_276 (by decide) (by rw [hv k0]; exact cmp_self _) ?_
    refine go_goto 1644 dL_law_281 (by decide) ?_
    exact go_sub [(0, .ref mm_XT), (1, .ref 0), (2, .ref 68), (3, .ref 73), (4, .int (nI i))] ⟨rfl, rfl, rfl, rfl, rfl, trivial⟩ (KK W3 k g hS)
  · refine go_if_ne_t 281 dL_law_266 (by decide) k0 ?_
    refine go_goto 1644 dL_law_281 (by decide) ?_
    exact go_sub [(0, .ref mm_XT), (1, .ref 0), (2, .ref 68), (3, .ref 73), (4, .int (nI i))] ⟨rfl, rfl, rfl, rfl, rfl, trivial⟩ (KK W3 k g hS)
theorem lw_takeGreatest (l : Launch) {L : Nat} {xs : Nat → Int32} {Z : MZ} {bc bs i : Nat} (hL : L ≤ 2048) (hi : i + 4 ≤ L) {W : MW} {rf : Int32} {f : Nat → Int64} (h : LSt W rf f) (KK : ∀ W' rf' f', LSt W' rf' f' → Go l yL_law cL_law 7 (some .boolean) [] (some (L, xs)) Z 12 bc bs 1644 [(0, .ref mm_XT), (1, .ref 0), (2, .ref 68), (3, .ref 73), (4, .int (nI i))] [] W') : Go l yL_law cL_law 7 (some .boolean) [] (some (L, xs)) Z 12 (1 + bc) (6 + bs) 284 [(0, .ref mm_XT), (1, .ref 0), (2, .ref 68), (3, .ref 73), (4, .int (nI i))] [] W := by
  obtain ⟨mc, ms, k, b, W2, W3, g, hmc, hms, c1, c2, hS, hv, fs2, ho2⟩ := st_takeGreatest l h 
  obtain ⟨th, ⟨fs3, ho3⟩, har, -⟩ := LSt_thr l hS
  refine go_room (bc' := mc + bc) (bs' := ms + bs) (by omega) (by omega) ?_
  refine go_aload_n dL_law_284 rfl ?_
  refine go_aload_n dL_law_285 rfl ?_
  refine go_statH (mc := mc) (ms := ms) (bc := bc) (bs := bs) dL_law_286 c1 s_L_102 kc_L_takeGreatest kl_L_102 rfl rfl (Nat.le_of_ble_eq_true rfl) (Nat.le_of_ble_eq_true rfl) (Nat.le_of_ble_eq_true rfl) (fun v hv2 => ?_) (fun E hE => by cases hE)
  cases hv2
  refine go_istore dL_law_289 (Nat.le_of_ble_eq_true rfl) rfl ?_
  refine go_aload_n dL_law_291 rfl ?_
  refine go_virt1 dL_law_292 c2 v_L_104_7 rfl ho2 rfl (Nat.le_of_ble_eq_true rfl) (Nat.le_of_ble_eq_true rfl) (Nat.le_of_ble_eq_true rfl) ?_
  refine go_istore dL_law_295 (Nat.le_of_ble_eq_true rfl) rfl ?_
  refine go_aload_n dL_law_297 rfl ?_
  refine go_virt1 dL_law_298 th v_L_95_7 rfl ho3 rfl (Nat.le_of_ble_eq_true rfl) (Nat.le_of_ble_eq_true rfl) (Nat.le_of_ble_eq_true rfl) ?_
  refine go_iload dL_law_301 rfl ?_
  refine go_icmp_eq_t 308 dL_law_303 (by decide) rfl ?_
  refine go_iload dL_law_308 rfl ?_
  by_cases k0 : k = 0
  · refine go_if_ne_f 325 dL_law_310 (by decide) k0 ?_
    refine go_aload_n dL_law_313 rfl ?_
    refine go_iconst 0 dL_law_314 (by decide) ?_
    refine go_laload 0 dL_law_315 har rfl (by decide) (by decide) ?_
    refine go_iload dL_law_316 rfl ?_
    refine go_i2l dL_law_318 ?_
    refine go_lcmp dL_law_319 ?_
    refine go_if_eq_t 325 dL_law_320 (by decide) (by rw [hv k0]; exact cmp_self _) ?_
    refine go_goto 1644 dL_law_325 (by decide) ?_
    exact go_sub [(0, .ref mm_XT), (1, .ref 0), (2, .ref 68), (3, .ref 73), (4, .int (nI i))] ⟨rfl, rfl, rfl, rfl, rfl, trivial⟩ (KK W3 k g hS)
  · refine go_if_ne_t 325 dL_law_310 (by decide) k0 ?_
    refine go_goto 1644 dL_law_325 (by decide) ?_
    exact go_sub [(0, .ref mm_XT), (1, .ref 0), (2, .ref 68), (3, .ref 73), (4, .int (nI i))] ⟨rfl, rfl, rfl, rfl, rfl, trivial⟩ (KK W3 k g hS)
theorem lw_remove (l : Launch) {L : Nat} {xs : Nat → Int32} {Z : MZ} {bc bs i : Nat} (hL : L ≤ 2048) (hi : i + 4 ≤ L) {W : MW} {rf : Int32} {f : Nat → Int64} (h : LSt W rf f) (KK : ∀ W' rf' f', LSt W' rf' f' → Go l yL_law cL_law 7 (some .boolean) [] (some (L, xs)) Z 12 bc bs 1644 [(0, .ref mm_XT), (1, .ref 0), (2, .ref 68), (3, .ref 73), (4, .int (nI i))] [] W') : Go l yL_law cL_law 7 (some .boolean) [] (some (L, xs)) Z 12 (1 + bc) (6 + bs) 328 [(0, .ref mm_XT), (1, .ref 0), (2, .ref 68), (3, .ref 73), (4, .int (nI i))] [] W := by
  obtain ⟨mc, ms, k, b, W2, W3, g, hmc, hms, c1, c2, hS, hv, fs2, ho2⟩ := st_remove l h (xs (i + 1))
  obtain ⟨th, ⟨fs3, ho3⟩, har, -⟩ := LSt_thr l hS
  refine go_room (bc' := mc + bc) (bs' := ms + bs) (by omega) (by omega) ?_
  refine go_aload_n dL_law_328 rfl ?_
  refine go_aload_n dL_law_329 rfl ?_
  refine go_iload dL_law_330 rfl ?_
  refine go_iconst 1 dL_law_332 (by decide) ?_
  refine go_iadd dL_law_333 ?_
  rw [show nI i + (1 : Int32) = nI (i + 1) from nI_add i 1]
  refine go_xload (i + 1) rfl dL_law_334 rfl (by omega) (by omega) ?_
  refine go_aload_n dL_law_335 rfl ?_
  refine go_statH (mc := mc) (ms := ms) (bc := bc) (bs := bs) dL_law_336 c1 s_L_105 kc_L_remove kl_L_105 rfl rfl (Nat.le_of_ble_eq_true rfl) (Nat.le_of_ble_eq_true rfl) (Nat.le_of_ble_eq_true rfl) (fun v hv2 => ?_) (fun E hE => by cases hE)
  cases hv2
  refine go_istore dL_law_339 (Nat.le_of_ble_eq_true rfl) rfl ?_
  refine go_aload_n dL_law_341 rfl ?_
  refine go_aload_n dL_law_342 rfl ?_
  refine go_iload dL_law_343 rfl ?_
  refine go_iconst 1 dL_law_345 (by decide) ?_
  refine go_iadd dL_law_346 ?_
  rw [show nI i + (1 : Int32) = nI (i + 1) from nI_add i 1]
  refine go_xload (i + 1) rfl dL_law_347 rfl (by omega) (by omega) ?_
  refine go_virt1 dL_law_348 c2 v_L_107_7 rfl ho2 rfl (Nat.le_of_ble_eq_true rfl) (Nat.le_of_ble_eq_true rfl) (Nat.le_of_ble_eq_true rfl) ?_
  refine go_istore dL_law_351 (Nat.le_of_ble_eq_true rfl) rfl ?_
  refine go_aload_n dL_law_353 rfl ?_
  refine go_virt1 dL_law_354 th v_L_95_7 rfl ho3 rfl (Nat.le_of_ble_eq_true rfl) (Nat.le_of_ble_eq_true rfl) (Nat.le_of_ble_eq_true rfl) ?_
  refine go_iload dL_law_357 rfl ?_
  refine go_icmp_eq_t 364 dL_law_359 (by decide) rfl ?_
  refine go_iload dL_law_364 rfl ?_
  by_cases k0 : k = 0
  · refine go_if_ne_f 381 dL_law_366 (by decide) k0 ?_
    refine go_aload_n dL_law_369 rfl ?_
    refine go_iconst 0 dL_law_370 (by decide) ?_
    refine go_laload 0 dL_law_371 har rfl (by decide) (by decide) ?_
    refine go_iload dL_law_372 rfl ?_
    refine go_i2l dL_law_374 ?_
    refine go_lcmp dL_law_375 ?_
    refine go_if_eq_t 381 dL_law_376 (by decide) (by rw [hv k0]; exact cmp_self _) ?_
    refine go_goto 1644 dL_law_381 (by decide) ?_
    exact go_sub [(0, .ref mm_XT), (1, .ref 0), (2, .ref 68), (3, .ref 73), (4, .int (nI i))] ⟨rfl, rfl, rfl, rfl, rfl, trivial⟩ (KK W3 k g hS)
  · refine go_if_ne_t 381 dL_law_366 (by decide) k0 ?_
    refine go_goto 1644 dL_law_381 (by decide) ?_
    exact go_sub [(0, .ref mm_XT), (1, .ref 0), (2, .ref 68), (3, .ref 73), (4, .int (nI i))] ⟨rfl, rfl, rfl, rfl, rfl, trivial⟩ (KK W3 k g hS)
theorem lw_change (l : Launch) {L : Nat} {xs : Nat → Int32} {Z : MZ} {bc bs i : Nat} (hL : L ≤ 2048) (hi : i + 4 ≤ L) {W : MW} {rf : Int32} {f : Nat → Int64} (h : LSt W rf f) (KK : ∀ W' rf' f', LSt W' rf' f' → Go l yL_law cL_law 7 (some .boolean) [] (some (L, xs)) Z 12 bc bs 1644 [(0, .ref mm_XT), (1, .ref 0), (2, .ref 68), (3, .ref 73), (4, .int (nI i))] [] W') : Go l yL_law cL_law 7 (some .boolean) [] (some (L, xs)) Z 12 (1 + bc) (6 + bs) 384 [(0, .ref mm_XT), (1, .ref 0), (2, .ref 68), (3, .ref 73), (4, .int (nI i))] [] W := by
  obtain ⟨mc, ms, k, b, W2, W3, g, hmc, hms, c1, c2, hS, hv, fs2, ho2⟩ := st_change l h (xs (i + 1)) (xs (i + 2))
  obtain ⟨th, ⟨fs3, ho3⟩, har, -⟩ := LSt_thr l hS
  refine go_room (bc' := mc + bc) (bs' := ms + bs) (by omega) (by omega) ?_
  refine go_aload_n dL_law_384 rfl ?_
  refine go_aload_n dL_law_385 rfl ?_
  refine go_iload dL_law_386 rfl ?_
  refine go_iconst 1 dL_law_388 (by decide) ?_
  refine go_iadd dL_law_389 ?_
  rw [show nI i + (1 : Int32) = nI (i + 1) from nI_add i 1]
  refine go_xload (i + 1) rfl dL_law_390 rfl (by omega) (by omega) ?_
  refine go_aload_n dL_law_391 rfl ?_
  refine go_iload dL_law_392 rfl ?_
  refine go_iconst 2 dL_law_394 (by decide) ?_
  refine go_iadd dL_law_395 ?_
  rw [show nI i + (2 : Int32) = nI (i + 2) from nI_add i 2]
  refine go_xload (i + 2) rfl dL_law_396 rfl (by omega) (by omega) ?_
  refine go_aload_n dL_law_397 rfl ?_
  refine go_statH (mc := mc) (ms := ms) (bc := bc) (bs := bs) dL_law_398 c1 s_L_108 kc_L_change kl_L_108 rfl rfl (Nat.le_of_ble_eq_true rfl) (Nat.le_of_ble_eq_true rfl) (Nat.le_of_ble_eq_true rfl) (fun v hv2 => ?_) (fun E hE => by cases hE)
  cases hv2
  refine go_istore dL_law_401 (Nat.le_of_ble_eq_true rfl) rfl ?_
  refine go_aload_n dL_law_403 rfl ?_
  refine go_aload_n dL_law_404 rfl ?_
  refine go_iload dL_law_405 rfl ?_
  refine go_iconst 1 dL_law_407 (by decide) ?_
  refine go_iadd dL_law_408 ?_
  rw [show nI i + (1 : Int32) = nI (i + 1) from nI_add i 1]
  refine go_xload (i + 1) rfl dL_law_409 rfl (by omega) (by omega) ?_
  refine go_aload_n dL_law_410 rfl ?_
  refine go_iload dL_law_411 rfl ?_
  refine go_iconst 2 dL_law_413 (by decide) ?_
  refine go_iadd dL_law_414 ?_
  rw [show nI i + (2 : Int32) = nI (i + 2) from nI_add i 2]
  refine go_xload (i + 2) rfl dL_law_415 rfl (by omega) (by omega) ?_
  refine go_virt1 dL_law_416 c2 v_L_111_7 rfl ho2 rfl (Nat.le_of_ble_eq_true rfl) (Nat.le_of_ble_eq_true rfl) (Nat.le_of_ble_eq_true rfl) ?_
  refine go_istore dL_law_419 (Nat.le_of_ble_eq_true rfl) rfl ?_
  refine go_aload_n dL_law_421 rfl ?_
  refine go_virt1 dL_law_422 th v_L_95_7 rfl ho3 rfl (Nat.le_of_ble_eq_true rfl) (Nat.le_of_ble_eq_true rfl) (Nat.le_of_ble_eq_true rfl) ?_
  refine go_iload dL_law_425 rfl ?_
  refine go_icmp_eq_t 432 dL_law_427 (by decide) rfl ?_
  refine go_iload dL_law_432 rfl ?_
  by_cases k0 : k = 0
  · refine go_if_ne_f 449 dL_law_434 (by decide) k0 ?_
    refine go_aload_n dL_law_437 rfl ?_
    refine go_iconst 0 dL_law_438 (by decide) ?_
    refine go_laload 0 dL_law_439 har rfl (by decide) (by decide) ?_
    refine go_iload dL_law_440 rfl ?_
    refine go_i2l dL_law_442 ?_
    refine go_lcmp dL_law_443 ?_
    refine go_if_eq_t 449 dL_law_444 (by decide) (by rw [hv k0]; exact cmp_self _) ?_
    refine go_goto 1644 dL_law_449 (by decide) ?_
    exact go_sub [(0, .ref mm_XT), (1, .ref 0), (2, .ref 68), (3, .ref 73), (4, .int (nI i))] ⟨rfl, rfl, rfl, rfl, rfl, trivial⟩ (KK W3 k g hS)
  · refine go_if_ne_t 449 dL_law_434 (by decide) k0 ?_
    refine go_goto 1644 dL_law_449 (by decide) ?_
    exact go_sub [(0, .ref mm_XT), (1, .ref 0), (2, .ref 68), (3, .ref 73), (4, .int (nI i))] ⟨rfl, rfl, rfl, rfl, rfl, trivial⟩ (KK W3 k g hS)
theorem lw_build (l : Launch) {L : Nat} {xs : Nat → Int32} {Z : MZ} {bc bs i : Nat} (hL : L ≤ 2048) (hi : i + 4 ≤ L) {W : MW} {rf : Int32} {f : Nat → Int64} (h : LSt W rf f) (KK : ∀ W' rf' f', LSt W' rf' f' → Go l yL_law cL_law 7 (some .boolean) [] (some (L, xs)) Z 12 bc bs 1644 [(0, .ref mm_XT), (1, .ref 0), (2, .ref 68), (3, .ref 73), (4, .int (nI i))] [] W') : Go l yL_law cL_law 7 (some .boolean) [] (some (L, xs)) Z 12 (1 + bc) (6 + bs) 452 [(0, .ref mm_XT), (1, .ref 0), (2, .ref 68), (3, .ref 73), (4, .int (nI i))] [] W := by
  obtain ⟨b, W2, W3, c1, c2, hS, fs2, ho2, ho⟩ := st_build l h 
  refine go_room (bc' := bc) (bs' := bs) (by omega) (by omega) ?_
  refine go_aload_n dL_law_452 rfl ?_
  refine go_virt1 dL_law_453 c1 v_L_112_6 rfl ho rfl (Nat.le_of_ble_eq_true rfl) (Nat.le_of_ble_eq_true rfl) (Nat.le_of_ble_eq_true rfl) ?_
  refine go_aload_n dL_law_456 rfl ?_
  refine go_virt1 dL_law_457 c2 v_L_115_7 rfl ho2 rfl (Nat.le_of_ble_eq_true rfl) (Nat.le_of_ble_eq_true rfl) (Nat.le_of_ble_eq_true rfl) ?_
  refine go_icmp_eq_t 1644 dL_law_460 (by decide) rfl ?_
  exact go_sub [(0, .ref mm_XT), (1, .ref 0), (2, .ref 68), (3, .ref 73), (4, .int (nI i))] ⟨rfl, rfl, rfl, rfl, rfl, trivial⟩ (KK W3 0 f hS)
theorem lw_clear (l : Launch) {L : Nat} {xs : Nat → Int32} {Z : MZ} {bc bs i : Nat} (hL : L ≤ 2048) (hi : i + 4 ≤ L) {W : MW} {rf : Int32} {f : Nat → Int64} (h : LSt W rf f) (KK : ∀ W' rf' f', LSt W' rf' f' → Go l yL_law cL_law 7 (some .boolean) [] (some (L, xs)) Z 12 bc bs 1644 [(0, .ref mm_XT), (1, .ref 0), (2, .ref 68), (3, .ref 73), (4, .int (nI i))] [] W') : Go l yL_law cL_law 7 (some .boolean) [] (some (L, xs)) Z 12 (1 + bc) (6 + bs) 465 [(0, .ref mm_XT), (1, .ref 0), (2, .ref 68), (3, .ref 73), (4, .int (nI i))] [] W := by
  obtain ⟨b, W2, W3, c1, c2, hS, fs2, ho2, ho⟩ := st_clear l h 
  refine go_room (bc' := bc) (bs' := bs) (by omega) (by omega) ?_
  refine go_aload_n dL_law_465 rfl ?_
  refine go_virt1 dL_law_466 c1 v_L_116_6 rfl ho rfl (Nat.le_of_ble_eq_true rfl) (Nat.le_of_ble_eq_true rfl) (Nat.le_of_ble_eq_true rfl) ?_
  refine go_aload_n dL_law_469 rfl ?_
  refine go_virt1 dL_law_470 c2 v_L_119_7 rfl ho2 rfl (Nat.le_of_ble_eq_true rfl) (Nat.le_of_ble_eq_true rfl) (Nat.le_of_ble_eq_true rfl) ?_
  refine go_icmp_eq_t 1644 dL_law_473 (by decide) rfl ?_
  exact go_sub [(0, .ref mm_XT), (1, .ref 0), (2, .ref 68), (3, .ref 73), (4, .int (nI i))] ⟨rfl, rfl, rfl, rfl, rfl, trivial⟩ (KK W3 0 f hS)
theorem lw_size (l : Launch) {L : Nat} {xs : Nat → Int32} {Z : MZ} {bc bs i : Nat} (hL : L ≤ 2048) (hi : i + 4 ≤ L) {W : MW} {rf : Int32} {f : Nat → Int64} (h : LSt W rf f) (KK : ∀ W' rf' f', LSt W' rf' f' → Go l yL_law cL_law 7 (some .boolean) [] (some (L, xs)) Z 12 bc bs 1644 [(0, .ref mm_XT), (1, .ref 0), (2, .ref 68), (3, .ref 73), (4, .int (nI i))] [] W') : Go l yL_law cL_law 7 (some .boolean) [] (some (L, xs)) Z 12 (1 + bc) (6 + bs) 478 [(0, .ref mm_XT), (1, .ref 0), (2, .ref 68), (3, .ref 73), (4, .int (nI i))] [] W := by
  obtain ⟨b, W2, W3, c1, c2, hS, fs2, ho2, ho⟩ := st_size l h 
  refine go_room (bc' := bc) (bs' := bs) (by omega) (by omega) ?_
  refine go_aload_n dL_law_478 rfl ?_
  refine go_virt1 dL_law_479 c1 v_L_120_6 rfl ho rfl (Nat.le_of_ble_eq_true rfl) (Nat.le_of_ble_eq_true rfl) (Nat.le_of_ble_eq_true rfl) ?_
  refine go_aload_n dL_law_482 rfl ?_
  refine go_virt1 dL_law_483 c2 v_L_123_7 rfl ho2 rfl (Nat.le_of_ble_eq_true rfl) (Nat.le_of_ble_eq_true rfl) (Nat.le_of_ble_eq_true rfl) ?_
  refine go_icmp_eq_t 1644 dL_law_486 (by decide) rfl ?_
  exact go_sub [(0, .ref mm_XT), (1, .ref 0), (2, .ref 68), (3, .ref 73), (4, .int (nI i))] ⟨rfl, rfl, rfl, rfl, rfl, trivial⟩ (KK W3 0 f hS)
theorem lw_handles (l : Launch) {L : Nat} {xs : Nat → Int32} {Z : MZ} {bc bs i : Nat} (hL : L ≤ 2048) (hi : i + 4 ≤ L) {W : MW} {rf : Int32} {f : Nat → Int64} (h : LSt W rf f) (KK : ∀ W' rf' f', LSt W' rf' f' → Go l yL_law cL_law 7 (some .boolean) [] (some (L, xs)) Z 12 bc bs 1644 [(0, .ref mm_XT), (1, .ref 0), (2, .ref 68), (3, .ref 73), (4, .int (nI i))] [] W') : Go l yL_law cL_law 7 (some .boolean) [] (some (L, xs)) Z 12 (1 + bc) (6 + bs) 491 [(0, .ref mm_XT), (1, .ref 0), (2, .ref 68), (3, .ref 73), (4, .int (nI i))] [] W := by
  obtain ⟨b, W2, W3, c1, c2, hS, fs2, ho2, ho⟩ := st_handles l h 
  refine go_room (bc' := bc) (bs' := bs) (by omega) (by omega) ?_
  refine go_aload_n dL_law_491 rfl ?_
  refine go_virt1 dL_law_492 c1 v_L_124_6 rfl ho rfl (Nat.le_of_ble_eq_true rfl) (Nat.le_of_ble_eq_true rfl) (Nat.le_of_ble_eq_true rfl) ?_
  refine go_aload_n dL_law_495 rfl ?_
  refine go_virt1 dL_law_496 c2 v_L_127_7 rfl ho2 rfl (Nat.le_of_ble_eq_true rfl) (Nat.le_of_ble_eq_true rfl) (Nat.le_of_ble_eq_true rfl) ?_
  refine go_icmp_eq_t 1644 dL_law_499 (by decide) rfl ?_
  exact go_sub [(0, .ref mm_XT), (1, .ref 0), (2, .ref 68), (3, .ref 73), (4, .int (nI i))] ⟨rfl, rfl, rfl, rfl, rfl, trivial⟩ (KK W3 0 f hS)
theorem lw_key (l : Launch) {L : Nat} {xs : Nat → Int32} {Z : MZ} {bc bs i : Nat} (hL : L ≤ 2048) (hi : i + 4 ≤ L) {W : MW} {rf : Int32} {f : Nat → Int64} (h : LSt W rf f) (KK : ∀ W' rf' f', LSt W' rf' f' → Go l yL_law cL_law 7 (some .boolean) [] (some (L, xs)) Z 12 bc bs 1644 [(0, .ref mm_XT), (1, .ref 0), (2, .ref 68), (3, .ref 73), (4, .int (nI i))] [] W') : Go l yL_law cL_law 7 (some .boolean) [] (some (L, xs)) Z 12 (1 + bc) (6 + bs) 504 [(0, .ref mm_XT), (1, .ref 0), (2, .ref 68), (3, .ref 73), (4, .int (nI i))] [] W := by
  obtain ⟨mc, ms, k, b, W2, W3, g, hmc, hms, c1, c2, hS, hv, fs2, ho2⟩ := st_key l h (xs (i + 1))
  obtain ⟨th, ⟨fs3, ho3⟩, har, -⟩ := LSt_thr l hS
  refine go_room (bc' := mc + bc) (bs' := ms + bs) (by omega) (by omega) ?_
  refine go_aload_n dL_law_504 rfl ?_
  refine go_aload_n dL_law_505 rfl ?_
  refine go_iload dL_law_506 rfl ?_
  refine go_iconst 1 dL_law_508 (by decide) ?_
  refine go_iadd dL_law_509 ?_
  rw [show nI i + (1 : Int32) = nI (i + 1) from nI_add i 1]
  refine go_xload (i + 1) rfl dL_law_510 rfl (by omega) (by omega) ?_
  refine go_aload_n dL_law_511 rfl ?_
  refine go_statH (mc := mc) (ms := ms) (bc := bc) (bs := bs) dL_law_512 c1 s_L_128 kc_L_key kl_L_128 rfl rfl (Nat.le_of_ble_eq_true rfl) (Nat.le_of_ble_eq_true rfl) (Nat.le_of_ble_eq_true rfl) (fun v hv2 => ?_) (fun E hE => by cases hE)
  cases hv2
  refine go_istore dL_law_515 (Nat.le_of_ble_eq_true rfl) rfl ?_
  refine go_aload_n dL_law_517 rfl ?_
  refine go_aload_n dL_law_518 rfl ?_
  refine go_iload dL_law_519 rfl ?_
  refine go_iconst 1 dL_law_521 (by decide) ?_
  refine go_iadd dL_law_522 ?_
  rw [show nI i + (1 : Int32) = nI (i + 1) from nI_add i 1]
  refine go_xload (i + 1) rfl dL_law_523 rfl (by omega) (by omega) ?_
  refine go_virt1 dL_law_524 c2 v_L_130_7 rfl ho2 rfl (Nat.le_of_ble_eq_true rfl) (Nat.le_of_ble_eq_true rfl) (Nat.le_of_ble_eq_true rfl) ?_
  refine go_istore dL_law_527 (Nat.le_of_ble_eq_true rfl) rfl ?_
  refine go_aload_n dL_law_529 rfl ?_
  refine go_virt1 dL_law_530 th v_L_95_7 rfl ho3 rfl (Nat.le_of_ble_eq_true rfl) (Nat.le_of_ble_eq_true rfl) (Nat.le_of_ble_eq_true rfl) ?_
  refine go_iload dL_law_533 rfl ?_
  refine go_icmp_eq_t 540 dL_law_535 (by decide) rfl ?_
  refine go_iload dL_law_540 rfl ?_
  by_cases k0 : k = 0
  · refine go_if_ne_f 557 dL_law_542 (by decide) k0 ?_
    refine go_aload_n dL_law_545 rfl ?_
    refine go_iconst 0 dL_law_546 (by decide) ?_
    refine go_laload 0 dL_law_547 har rfl (by decide) (by decide) ?_
    refine go_iload dL_law_548 rfl ?_
    refine go_i2l dL_law_550 ?_
    refine go_lcmp dL_law_551 ?_
    refine go_if_eq_t 557 dL_law_552 (by decide) (by rw [hv k0]; exact cmp_self _) ?_
    refine go_goto 1644 dL_law_557 (by decide) ?_
    exact go_sub [(0, .ref mm_XT), (1, .ref 0), (2, .ref 68), (3, .ref 73), (4, .int (nI i))] ⟨rfl, rfl, rfl, rfl, rfl, trivial⟩ (KK W3 k g hS)
  · refine go_if_ne_t 557 dL_law_542 (by decide) k0 ?_
    refine go_goto 1644 dL_law_557 (by decide) ?_
    exact go_sub [(0, .ref mm_XT), (1, .ref 0), (2, .ref 68), (3, .ref 73), (4, .int (nI i))] ⟨rfl, rfl, rfl, rfl, rfl, trivial⟩ (KK W3 k g hS)
theorem lw_fill (l : Launch) {L : Nat} {xs : Nat → Int32} {Z : MZ} {bc bs i : Nat} (hL : L ≤ 2048) (hi : i + 4 ≤ L) {W : MW} {rf : Int32} {f : Nat → Int64} (h : LSt W rf f) (KK : ∀ W' rf' f', LSt W' rf' f' → Go l yL_law cL_law 7 (some .boolean) [] (some (L, xs)) Z 12 bc bs 1644 [(0, .ref mm_XT), (1, .ref 0), (2, .ref 68), (3, .ref 73), (4, .int (nI i))] [] W') : Go l yL_law cL_law 7 (some .boolean) [] (some (L, xs)) Z 12 (1 + bc) (6 + bs) 560 [(0, .ref mm_XT), (1, .ref 0), (2, .ref 68), (3, .ref 73), (4, .int (nI i))] [] W := by
  obtain ⟨mc, ms, k, b, W2, W3, g, hmc, hms, c1, c2, hS, hv, fs2, ho2⟩ := st_fill l h (xs (i + 1)) (xs (i + 2))
  obtain ⟨th, ⟨fs3, ho3⟩, har, -⟩ := LSt_thr l hS
  refine go_room (bc' := mc + bc) (bs' := ms + bs) (by omega) (by omega) ?_
  refine go_aload_n dL_law_560 rfl ?_
  refine go_aload_n dL_law_561 rfl ?_
  refine go_iload dL_law_562 rfl ?_
  refine go_iconst 1 dL_law_564 (by decide) ?_
  refine go_iadd dL_law_565 ?_
  rw [show nI i + (1 : Int32) = nI (i + 1) from nI_add i 1]
  refine go_xload (i + 1) rfl dL_law_566 rfl (by omega) (by omega) ?_
  refine go_aload_n dL_law_567 rfl ?_
  refine go_iload dL_law_568 rfl ?_
  refine go_iconst 2 dL_law_570 (by decide) ?_
  refine go_iadd dL_law_571 ?_
  rw [show nI i + (2 : Int32) = nI (i + 2) from nI_add i 2]
  refine go_xload (i + 2) rfl dL_law_572 rfl (by omega) (by omega) ?_
  refine go_aload_n dL_law_573 rfl ?_
  refine go_statH (mc := mc) (ms := ms) (bc := bc) (bs := bs) dL_law_574 c1 s_L_131 kc_L_fill kl_L_131 rfl rfl (Nat.le_of_ble_eq_true rfl) (Nat.le_of_ble_eq_true rfl) (Nat.le_of_ble_eq_true rfl) (fun v hv2 => ?_) (fun E hE => by cases hE)
  cases hv2
  refine go_istore dL_law_577 (Nat.le_of_ble_eq_true rfl) rfl ?_
  refine go_aload_n dL_law_579 rfl ?_
  refine go_aload_n dL_law_580 rfl ?_
  refine go_iload dL_law_581 rfl ?_
  refine go_iconst 1 dL_law_583 (by decide) ?_
  refine go_iadd dL_law_584 ?_
  rw [show nI i + (1 : Int32) = nI (i + 1) from nI_add i 1]
  refine go_xload (i + 1) rfl dL_law_585 rfl (by omega) (by omega) ?_
  refine go_aload_n dL_law_586 rfl ?_
  refine go_iload dL_law_587 rfl ?_
  refine go_iconst 2 dL_law_589 (by decide) ?_
  refine go_iadd dL_law_590 ?_
  rw [show nI i + (2 : Int32) = nI (i + 2) from nI_add i 2]
  refine go_xload (i + 2) rfl dL_law_591 rfl (by omega) (by omega) ?_
  refine go_virt1 dL_law_592 c2 v_L_133_7 rfl ho2 rfl (Nat.le_of_ble_eq_true rfl) (Nat.le_of_ble_eq_true rfl) (Nat.le_of_ble_eq_true rfl) ?_
  refine go_istore dL_law_595 (Nat.le_of_ble_eq_true rfl) rfl ?_
  refine go_aload_n dL_law_597 rfl ?_
  refine go_virt1 dL_law_598 th v_L_95_7 rfl ho3 rfl (Nat.le_of_ble_eq_true rfl) (Nat.le_of_ble_eq_true rfl) (Nat.le_of_ble_eq_true rfl) ?_
  refine go_iload dL_law_601 rfl ?_
  refine go_icmp_eq_t 608 dL_law_603 (by decide) rfl ?_
  refine go_iload dL_law_608 rfl ?_
  by_cases k0 : k = 0
  · refine go_if_ne_f 625 dL_law_610 (by decide) k0 ?_
    refine go_aload_n dL_law_613 rfl ?_
    refine go_iconst 0 dL_law_614 (by decide) ?_
    refine go_laload 0 dL_law_615 har rfl (by decide) (by decide) ?_
    refine go_iload dL_law_616 rfl ?_
    refine go_i2l dL_law_618 ?_
    refine go_lcmp dL_law_619 ?_
    refine go_if_eq_t 625 dL_law_620 (by decide) (by rw [hv k0]; exact cmp_self _) ?_
    refine go_goto 1644 dL_law_625 (by decide) ?_
    exact go_sub [(0, .ref mm_XT), (1, .ref 0), (2, .ref 68), (3, .ref 73), (4, .int (nI i))] ⟨rfl, rfl, rfl, rfl, rfl, trivial⟩ (KK W3 k g hS)
  · refine go_if_ne_t 625 dL_law_610 (by decide) k0 ?_
    refine go_goto 1644 dL_law_625 (by decide) ?_
    exact go_sub [(0, .ref mm_XT), (1, .ref 0), (2, .ref 68), (3, .ref 73), (4, .int (nI i))] ⟨rfl, rfl, rfl, rfl, rfl, trivial⟩ (KK W3 k g hS)
theorem lw_least (l : Launch) {L : Nat} {xs : Nat → Int32} {Z : MZ} {bc bs i : Nat} (hL : L ≤ 2048) (hi : i + 4 ≤ L) {W : MW} {rf : Int32} {f : Nat → Int64} (h : LSt W rf f) (KK : ∀ W' rf' f', LSt W' rf' f' → Go l yL_law cL_law 7 (some .boolean) [] (some (L, xs)) Z 12 bc bs 1644 [(0, .ref mm_XT), (1, .ref 0), (2, .ref 68), (3, .ref 73), (4, .int (nI i))] [] W') : Go l yL_law cL_law 7 (some .boolean) [] (some (L, xs)) Z 12 (1 + bc) (6 + bs) 628 [(0, .ref mm_XT), (1, .ref 0), (2, .ref 68), (3, .ref 73), (4, .int (nI i))] [] W := by
  obtain ⟨mc, ms, k, b, W2, W3, g, hmc, hms, c1, c2, hS, hv, fs2, ho2⟩ := st_least l h (xs (i + 1))
  obtain ⟨th, ⟨fs3, ho3⟩, har, -⟩ := LSt_thr l hS
  refine go_room (bc' := mc + bc) (bs' := ms + bs) (by omega) (by omega) ?_
  refine go_aload_n dL_law_628 rfl ?_
  refine go_aload_n dL_law_629 rfl ?_
  refine go_iload dL_law_630 rfl ?_
  refine go_iconst 1 dL_law_632 (by decide) ?_
  refine go_iadd dL_law_633 ?_
  rw [show nI i + (1 : Int32) = nI (i + 1) from nI_add i 1]
  refine go_xload (i + 1) rfl dL_law_634 rfl (by omega) (by omega) ?_
  refine go_aload_n dL_law_635 rfl ?_
  refine go_statH (mc := mc) (ms := ms) (bc := bc) (bs := bs) dL_law_636 c1 s_L_134 kc_L_least kl_L_134 rfl rfl (Nat.le_of_ble_eq_true rfl) (Nat.le_of_ble_eq_true rfl) (Nat.le_of_ble_eq_true rfl) (fun v hv2 => ?_) (fun E hE => by cases hE)
  cases hv2
  refine go_istore dL_law_639 (Nat.le_of_ble_eq_true rfl) rfl ?_
  refine go_aload_n dL_law_641 rfl ?_
  refine go_aload_n dL_law_642 rfl ?_
  refine go_iload dL_law_643 rfl ?_
  refine go_iconst 1 dL_law_645 (by decide) ?_
  refine go_iadd dL_law_646 ?_
  rw [show nI i + (1 : Int32) = nI (i + 1) from nI_add i 1]
  refine go_xload (i + 1) rfl dL_law_647 rfl (by omega) (by omega) ?_
  refine go_virt1 dL_law_648 c2 v_L_136_7 rfl ho2 rfl (Nat.le_of_ble_eq_true rfl) (Nat.le_of_ble_eq_true rfl) (Nat.le_of_ble_eq_true rfl) ?_
  refine go_istore dL_law_651 (Nat.le_of_ble_eq_true rfl) rfl ?_
  refine go_aload_n dL_law_653 rfl ?_
  refine go_virt1 dL_law_654 th v_L_95_7 rfl ho3 rfl (Nat.le_of_ble_eq_true rfl) (Nat.le_of_ble_eq_true rfl) (Nat.le_of_ble_eq_true rfl) ?_
  refine go_iload dL_law_657 rfl ?_
  refine go_icmp_eq_t 664 dL_law_659 (by decide) rfl ?_
  refine go_iload dL_law_664 rfl ?_
  by_cases k0 : k = 0
  · refine go_if_ne_f 681 dL_law_666 (by decide) k0 ?_
    refine go_aload_n dL_law_669 rfl ?_
    refine go_iconst 0 dL_law_670 (by decide) ?_
    refine go_laload 0 dL_law_671 har rfl (by decide) (by decide) ?_
    refine go_iload dL_law_672 rfl ?_
    refine go_i2l dL_law_674 ?_
    refine go_lcmp dL_law_675 ?_
    refine go_if_eq_t 681 dL_law_676 (by decide) (by rw [hv k0]; exact cmp_self _) ?_
    refine go_goto 1644 dL_law_681 (by decide) ?_
    exact go_sub [(0, .ref mm_XT), (1, .ref 0), (2, .ref 68), (3, .ref 73), (4, .int (nI i))] ⟨rfl, rfl, rfl, rfl, rfl, trivial⟩ (KK W3 k g hS)
  · refine go_if_ne_t 681 dL_law_666 (by decide) k0 ?_
    refine go_goto 1644 dL_law_681 (by decide) ?_
    exact go_sub [(0, .ref mm_XT), (1, .ref 0), (2, .ref 68), (3, .ref 73), (4, .int (nI i))] ⟨rfl, rfl, rfl, rfl, rfl, trivial⟩ (KK W3 k g hS)
theorem lw_greatest (l : Launch) {L : Nat} {xs : Nat → Int32} {Z : MZ} {bc bs i : Nat} (hL : L ≤ 2048) (hi : i + 4 ≤ L) {W : MW} {rf : Int32} {f : Nat → Int64} (h : LSt W rf f) (KK : ∀ W' rf' f', LSt W' rf' f' → Go l yL_law cL_law 7 (some .boolean) [] (some (L, xs)) Z 12 bc bs 1644 [(0, .ref mm_XT), (1, .ref 0), (2, .ref 68), (3, .ref 73), (4, .int (nI i))] [] W') : Go l yL_law cL_law 7 (some .boolean) [] (some (L, xs)) Z 12 (1 + bc) (6 + bs) 684 [(0, .ref mm_XT), (1, .ref 0), (2, .ref 68), (3, .ref 73), (4, .int (nI i))] [] W := by
  obtain ⟨mc, ms, k, b, W2, W3, g, hmc, hms, c1, c2, hS, hv, fs2, ho2⟩ := st_greatest l h (xs (i + 1))
  obtain ⟨th, ⟨fs3, ho3⟩, har, -⟩ := LSt_thr l hS
  refine go_room (bc' := mc + bc) (bs' := ms + bs) (by omega) (by omega) ?_
  refine go_aload_n dL_law_684 rfl ?_
  refine go_aload_n dL_law_685 rfl ?_
  refine go_iload dL_law_686 rfl ?_
  refine go_iconst 1 dL_law_688 (by decide) ?_
  refine go_iadd dL_law_689 ?_
  rw [show nI i + (1 : Int32) = nI (i + 1) from nI_add i 1]
  refine go_xload (i + 1) rfl dL_law_690 rfl (by omega) (by omega) ?_
  refine go_aload_n dL_law_691 rfl ?_
  refine go_statH (mc := mc) (ms := ms) (bc := bc) (bs := bs) dL_law_692 c1 s_L_137 kc_L_greatest kl_L_137 rfl rfl (Nat.le_of_ble_eq_true rfl) (Nat.le_of_ble_eq_true rfl) (Nat.le_of_ble_eq_true rfl) (fun v hv2 => ?_) (fun E hE => by cases hE)
  cases hv2
  refine go_istore dL_law_695 (Nat.le_of_ble_eq_true rfl) rfl ?_
  refine go_aload_n dL_law_697 rfl ?_
  refine go_aload_n dL_law_698 rfl ?_
  refine go_iload dL_law_699 rfl ?_
  refine go_iconst 1 dL_law_701 (by decide) ?_
  refine go_iadd dL_law_702 ?_
  rw [show nI i + (1 : Int32) = nI (i + 1) from nI_add i 1]
  refine go_xload (i + 1) rfl dL_law_703 rfl (by omega) (by omega) ?_
  refine go_virt1 dL_law_704 c2 v_L_139_7 rfl ho2 rfl (Nat.le_of_ble_eq_true rfl) (Nat.le_of_ble_eq_true rfl) (Nat.le_of_ble_eq_true rfl) ?_
  refine go_istore dL_law_707 (Nat.le_of_ble_eq_true rfl) rfl ?_
  refine go_aload_n dL_law_709 rfl ?_
  refine go_virt1 dL_law_710 th v_L_95_7 rfl ho3 rfl (Nat.le_of_ble_eq_true rfl) (Nat.le_of_ble_eq_true rfl) (Nat.le_of_ble_eq_true rfl) ?_
  refine go_iload dL_law_713 rfl ?_
  refine go_icmp_eq_t 720 dL_law_715 (by decide) rfl ?_
  refine go_iload dL_law_720 rfl ?_
  by_cases k0 : k = 0
  · refine go_if_ne_f 737 dL_law_722 (by decide) k0 ?_
    refine go_aload_n dL_law_725 rfl ?_
    refine go_iconst 0 dL_law_726 (by decide) ?_
    refine go_laload 0 dL_law_727 har rfl (by decide) (by decide) ?_
    refine go_iload dL_law_728 rfl ?_
    refine go_i2l dL_law_730 ?_
    refine go_lcmp dL_law_731 ?_
    refine go_if_eq_t 737 dL_law_732 (by decide) (by rw [hv k0]; exact cmp_self _) ?_
    refine go_goto 1644 dL_law_737 (by decide) ?_
    exact go_sub [(0, .ref mm_XT), (1, .ref 0), (2, .ref 68), (3, .ref 73), (4, .int (nI i))] ⟨rfl, rfl, rfl, rfl, rfl, trivial⟩ (KK W3 k g hS)
  · refine go_if_ne_t 737 dL_law_722 (by decide) k0 ?_
    refine go_goto 1644 dL_law_737 (by decide) ?_
    exact go_sub [(0, .ref mm_XT), (1, .ref 0), (2, .ref 68), (3, .ref 73), (4, .int (nI i))] ⟨rfl, rfl, rfl, rfl, rfl, trivial⟩ (KK W3 k g hS)
theorem lw_ranked (l : Launch) {L : Nat} {xs : Nat → Int32} {Z : MZ} {bc bs i : Nat} (hL : L ≤ 2048) (hi : i + 4 ≤ L) {W : MW} {rf : Int32} {f : Nat → Int64} (h : LSt W rf f) (KK : ∀ W' rf' f', LSt W' rf' f' → Go l yL_law cL_law 7 (some .boolean) [] (some (L, xs)) Z 12 bc bs 1644 [(0, .ref mm_XT), (1, .ref 0), (2, .ref 68), (3, .ref 73), (4, .int (nI i))] [] W') : Go l yL_law cL_law 7 (some .boolean) [] (some (L, xs)) Z 12 (1 + bc) (6 + bs) 740 [(0, .ref mm_XT), (1, .ref 0), (2, .ref 68), (3, .ref 73), (4, .int (nI i))] [] W := by
  obtain ⟨b, W2, W3, c1, c2, hS, fs2, ho2, ho⟩ := st_ranked l h (xs (i + 1))
  refine go_room (bc' := bc) (bs' := bs) (by omega) (by omega) ?_
  refine go_aload_n dL_law_740 rfl ?_
  refine go_aload_n dL_law_741 rfl ?_
  refine go_iload dL_law_742 rfl ?_
  refine go_iconst 1 dL_law_744 (by decide) ?_
  refine go_iadd dL_law_745 ?_
  rw [show nI i + (1 : Int32) = nI (i + 1) from nI_add i 1]
  refine go_xload (i + 1) rfl dL_law_746 rfl (by omega) (by omega) ?_
  refine go_virt1 dL_law_747 c1 v_L_140_6 rfl ho rfl (Nat.le_of_ble_eq_true rfl) (Nat.le_of_ble_eq_true rfl) (Nat.le_of_ble_eq_true rfl) ?_
  refine go_aload_n dL_law_750 rfl ?_
  refine go_aload_n dL_law_751 rfl ?_
  refine go_iload dL_law_752 rfl ?_
  refine go_iconst 1 dL_law_754 (by decide) ?_
  refine go_iadd dL_law_755 ?_
  rw [show nI i + (1 : Int32) = nI (i + 1) from nI_add i 1]
  refine go_xload (i + 1) rfl dL_law_756 rfl (by omega) (by omega) ?_
  refine go_virt1 dL_law_757 c2 v_L_143_7 rfl ho2 rfl (Nat.le_of_ble_eq_true rfl) (Nat.le_of_ble_eq_true rfl) (Nat.le_of_ble_eq_true rfl) ?_
  refine go_icmp_eq_t 1644 dL_law_760 (by decide) rfl ?_
  exact go_sub [(0, .ref mm_XT), (1, .ref 0), (2, .ref 68), (3, .ref 73), (4, .int (nI i))] ⟨rfl, rfl, rfl, rfl, rfl, trivial⟩ (KK W3 0 f hS)
theorem lw_rank (l : Launch) {L : Nat} {xs : Nat → Int32} {Z : MZ} {bc bs i : Nat} (hL : L ≤ 2048) (hi : i + 4 ≤ L) {W : MW} {rf : Int32} {f : Nat → Int64} (h : LSt W rf f) (KK : ∀ W' rf' f', LSt W' rf' f' → Go l yL_law cL_law 7 (some .boolean) [] (some (L, xs)) Z 12 bc bs 1644 [(0, .ref mm_XT), (1, .ref 0), (2, .ref 68), (3, .ref 73), (4, .int (nI i))] [] W') : Go l yL_law cL_law 7 (some .boolean) [] (some (L, xs)) Z 12 (1 + bc) (6 + bs) 765 [(0, .ref mm_XT), (1, .ref 0), (2, .ref 68), (3, .ref 73), (4, .int (nI i))] [] W := by
  obtain ⟨mc, ms, k, b, W2, W3, g, hmc, hms, c1, c2, hS, hv, fs2, ho2⟩ := st_rank l h (xs (i + 1))
  obtain ⟨th, ⟨fs3, ho3⟩, har, -⟩ := LSt_thr l hS
  refine go_room (bc' := mc + bc) (bs' := ms + bs) (by omega) (by omega) ?_
  refine go_aload_n dL_law_765 rfl ?_
  refine go_aload_n dL_law_766 rfl ?_
  refine go_iload dL_law_767 rfl ?_
  refine go_iconst 1 dL_law_769 (by decide) ?_
  refine go_iadd dL_law_770 ?_
  rw [show nI i + (1 : Int32) = nI (i + 1) from nI_add i 1]
  refine go_xload (i + 1) rfl dL_law_771 rfl (by omega) (by omega) ?_
  refine go_aload_n dL_law_772 rfl ?_
  refine go_statH (mc := mc) (ms := ms) (bc := bc) (bs := bs) dL_law_773 c1 s_L_144 kc_L_rank kl_L_144 rfl rfl (Nat.le_of_ble_eq_true rfl) (Nat.le_of_ble_eq_true rfl) (Nat.le_of_ble_eq_true rfl) (fun v hv2 => ?_) (fun E hE => by cases hE)
  cases hv2
  refine go_istore dL_law_776 (Nat.le_of_ble_eq_true rfl) rfl ?_
  refine go_aload_n dL_law_778 rfl ?_
  refine go_aload_n dL_law_779 rfl ?_
  refine go_iload dL_law_780 rfl ?_
  refine go_iconst 1 dL_law_782 (by decide) ?_
  refine go_iadd dL_law_783 ?_
  rw [show nI i + (1 : Int32) = nI (i + 1) from nI_add i 1]
  refine go_xload (i + 1) rfl dL_law_784 rfl (by omega) (by omega) ?_
  refine go_virt1 dL_law_785 c2 v_L_146_7 rfl ho2 rfl (Nat.le_of_ble_eq_true rfl) (Nat.le_of_ble_eq_true rfl) (Nat.le_of_ble_eq_true rfl) ?_
  refine go_istore dL_law_788 (Nat.le_of_ble_eq_true rfl) rfl ?_
  refine go_aload_n dL_law_790 rfl ?_
  refine go_virt1 dL_law_791 th v_L_95_7 rfl ho3 rfl (Nat.le_of_ble_eq_true rfl) (Nat.le_of_ble_eq_true rfl) (Nat.le_of_ble_eq_true rfl) ?_
  refine go_iload dL_law_794 rfl ?_
  refine go_icmp_eq_t 801 dL_law_796 (by decide) rfl ?_
  refine go_iload dL_law_801 rfl ?_
  by_cases k0 : k = 0
  · refine go_if_ne_f 818 dL_law_803 (by decide) k0 ?_
    refine go_aload_n dL_law_806 rfl ?_
    refine go_iconst 0 dL_law_807 (by decide) ?_
    refine go_laload 0 dL_law_808 har rfl (by decide) (by decide) ?_
    refine go_iload dL_law_809 rfl ?_
    refine go_i2l dL_law_811 ?_
    refine go_lcmp dL_law_812 ?_
    refine go_if_eq_t 818 dL_law_813 (by decide) (by rw [hv k0]; exact cmp_self _) ?_
    refine go_goto 1644 dL_law_818 (by decide) ?_
    exact go_sub [(0, .ref mm_XT), (1, .ref 0), (2, .ref 68), (3, .ref 73), (4, .int (nI i))] ⟨rfl, rfl, rfl, rfl, rfl, trivial⟩ (KK W3 k g hS)
  · refine go_if_ne_t 818 dL_law_803 (by decide) k0 ?_
    refine go_goto 1644 dL_law_818 (by decide) ?_
    exact go_sub [(0, .ref mm_XT), (1, .ref 0), (2, .ref 68), (3, .ref 73), (4, .int (nI i))] ⟨rfl, rfl, rfl, rfl, rfl, trivial⟩ (KK W3 k g hS)
theorem lw_between (l : Launch) {L : Nat} {xs : Nat → Int32} {Z : MZ} {bc bs i : Nat} (hL : L ≤ 2048) (hi : i + 4 ≤ L) {W : MW} {rf : Int32} {f : Nat → Int64} (h : LSt W rf f) (KK : ∀ W' rf' f', LSt W' rf' f' → Go l yL_law cL_law 7 (some .boolean) [] (some (L, xs)) Z 12 bc bs 1644 [(0, .ref mm_XT), (1, .ref 0), (2, .ref 68), (3, .ref 73), (4, .int (nI i))] [] W') : Go l yL_law cL_law 7 (some .boolean) [] (some (L, xs)) Z 12 (1 + bc) (6 + bs) 821 [(0, .ref mm_XT), (1, .ref 0), (2, .ref 68), (3, .ref 73), (4, .int (nI i))] [] W := by
  obtain ⟨b, W2, W3, c1, c2, hS, fs2, ho2, ho⟩ := st_between l h (xs (i + 1)) (xs (i + 2))
  refine go_room (bc' := bc) (bs' := bs) (by omega) (by omega) ?_
  refine go_aload_n dL_law_821 rfl ?_
  refine go_aload_n dL_law_822 rfl ?_
  refine go_iload dL_law_823 rfl ?_
  refine go_iconst 1 dL_law_825 (by decide) ?_
  refine go_iadd dL_law_826 ?_
  rw [show nI i + (1 : Int32) = nI (i + 1) from nI_add i 1]
  refine go_xload (i + 1) rfl dL_law_827 rfl (by omega) (by omega) ?_
  refine go_aload_n dL_law_828 rfl ?_
  refine go_iload dL_law_829 rfl ?_
  refine go_iconst 2 dL_law_831 (by decide) ?_
  refine go_iadd dL_law_832 ?_
  rw [show nI i + (2 : Int32) = nI (i + 2) from nI_add i 2]
  refine go_xload (i + 2) rfl dL_law_833 rfl (by omega) (by omega) ?_
  refine go_virt1 dL_law_834 c1 v_L_147_6 rfl ho rfl (Nat.le_of_ble_eq_true rfl) (Nat.le_of_ble_eq_true rfl) (Nat.le_of_ble_eq_true rfl) ?_
  refine go_aload_n dL_law_837 rfl ?_
  refine go_aload_n dL_law_838 rfl ?_
  refine go_iload dL_law_839 rfl ?_
  refine go_iconst 1 dL_law_841 (by decide) ?_
  refine go_iadd dL_law_842 ?_
  rw [show nI i + (1 : Int32) = nI (i + 1) from nI_add i 1]
  refine go_xload (i + 1) rfl dL_law_843 rfl (by omega) (by omega) ?_
  refine go_aload_n dL_law_844 rfl ?_
  refine go_iload dL_law_845 rfl ?_
  refine go_iconst 2 dL_law_847 (by decide) ?_
  refine go_iadd dL_law_848 ?_
  rw [show nI i + (2 : Int32) = nI (i + 2) from nI_add i 2]
  refine go_xload (i + 2) rfl dL_law_849 rfl (by omega) (by omega) ?_
  refine go_virt1 dL_law_850 c2 v_L_150_7 rfl ho2 rfl (Nat.le_of_ble_eq_true rfl) (Nat.le_of_ble_eq_true rfl) (Nat.le_of_ble_eq_true rfl) ?_
  refine go_icmp_eq_t 1644 dL_law_853 (by decide) rfl ?_
  exact go_sub [(0, .ref mm_XT), (1, .ref 0), (2, .ref 68), (3, .ref 73), (4, .int (nI i))] ⟨rfl, rfl, rfl, rfl, rfl, trivial⟩ (KK W3 0 f hS)
theorem lw_at (l : Launch) {L : Nat} {xs : Nat → Int32} {Z : MZ} {bc bs i : Nat} (hL : L ≤ 2048) (hi : i + 4 ≤ L) {W : MW} {rf : Int32} {f : Nat → Int64} (h : LSt W rf f) (KK : ∀ W' rf' f', LSt W' rf' f' → Go l yL_law cL_law 7 (some .boolean) [] (some (L, xs)) Z 12 bc bs 1644 [(0, .ref mm_XT), (1, .ref 0), (2, .ref 68), (3, .ref 73), (4, .int (nI i))] [] W') : Go l yL_law cL_law 7 (some .boolean) [] (some (L, xs)) Z 12 (1 + bc) (6 + bs) 858 [(0, .ref mm_XT), (1, .ref 0), (2, .ref 68), (3, .ref 73), (4, .int (nI i))] [] W := by
  obtain ⟨mc, ms, k, b, W2, W3, g, hmc, hms, c1, c2, hS, hv, fs2, ho2⟩ := st_at l h (xs (i + 1)) (xs (i + 2))
  obtain ⟨th, ⟨fs3, ho3⟩, har, -⟩ := LSt_thr l hS
  refine go_room (bc' := mc + bc) (bs' := ms + bs) (by omega) (by omega) ?_
  refine go_aload_n dL_law_858 rfl ?_
  refine go_aload_n dL_law_859 rfl ?_
  refine go_iload dL_law_860 rfl ?_
  refine go_iconst 1 dL_law_862 (by decide) ?_
  refine go_iadd dL_law_863 ?_
  rw [show nI i + (1 : Int32) = nI (i + 1) from nI_add i 1]
  refine go_xload (i + 1) rfl dL_law_864 rfl (by omega) (by omega) ?_
  refine go_aload_n dL_law_865 rfl ?_
  refine go_iload dL_law_866 rfl ?_
  refine go_iconst 2 dL_law_868 (by decide) ?_
  refine go_iadd dL_law_869 ?_
  rw [show nI i + (2 : Int32) = nI (i + 2) from nI_add i 2]
  refine go_xload (i + 2) rfl dL_law_870 rfl (by omega) (by omega) ?_
  refine go_aload_n dL_law_871 rfl ?_
  refine go_statH (mc := mc) (ms := ms) (bc := bc) (bs := bs) dL_law_872 c1 s_L_151 kc_L_at kl_L_151 rfl rfl (Nat.le_of_ble_eq_true rfl) (Nat.le_of_ble_eq_true rfl) (Nat.le_of_ble_eq_true rfl) (fun v hv2 => ?_) (fun E hE => by cases hE)
  cases hv2
  refine go_istore dL_law_875 (Nat.le_of_ble_eq_true rfl) rfl ?_
  refine go_aload_n dL_law_877 rfl ?_
  refine go_aload_n dL_law_878 rfl ?_
  refine go_iload dL_law_879 rfl ?_
  refine go_iconst 1 dL_law_881 (by decide) ?_
  refine go_iadd dL_law_882 ?_
  rw [show nI i + (1 : Int32) = nI (i + 1) from nI_add i 1]
  refine go_xload (i + 1) rfl dL_law_883 rfl (by omega) (by omega) ?_
  refine go_aload_n dL_law_884 rfl ?_
  refine go_iload dL_law_885 rfl ?_
  refine go_iconst 2 dL_law_887 (by decide) ?_
  refine go_iadd dL_law_888 ?_
  rw [show nI i + (2 : Int32) = nI (i + 2) from nI_add i 2]
  refine go_xload (i + 2) rfl dL_law_889 rfl (by omega) (by omega) ?_
  refine go_virt1 dL_law_890 c2 v_L_153_7 rfl ho2 rfl (Nat.le_of_ble_eq_true rfl) (Nat.le_of_ble_eq_true rfl) (Nat.le_of_ble_eq_true rfl) ?_
  refine go_istore dL_law_893 (Nat.le_of_ble_eq_true rfl) rfl ?_
  refine go_aload_n dL_law_895 rfl ?_
  refine go_virt1 dL_law_896 th v_L_95_7 rfl ho3 rfl (Nat.le_of_ble_eq_true rfl) (Nat.le_of_ble_eq_true rfl) (Nat.le_of_ble_eq_true rfl) ?_
  refine go_iload dL_law_899 rfl ?_
  refine go_icmp_eq_t 906 dL_law_901 (by decide) rfl ?_
  refine go_iload dL_law_906 rfl ?_
  by_cases k0 : k = 0
  · refine go_if_ne_f 923 dL_law_908 (by decide) k0 ?_
    refine go_aload_n dL_law_911 rfl ?_
    refine go_iconst 0 dL_law_912 (by decide) ?_
    refine go_laload 0 dL_law_913 har rfl (by decide) (by decide) ?_
    refine go_iload dL_law_914 rfl ?_
    refine go_i2l dL_law_916 ?_
    refine go_lcmp dL_law_917 ?_
    refine go_if_eq_t 923 dL_law_918 (by decide) (by rw [hv k0]; exact cmp_self _) ?_
    refine go_goto 1644 dL_law_923 (by decide) ?_
    exact go_sub [(0, .ref mm_XT), (1, .ref 0), (2, .ref 68), (3, .ref 73), (4, .int (nI i))] ⟨rfl, rfl, rfl, rfl, rfl, trivial⟩ (KK W3 k g hS)
  · refine go_if_ne_t 923 dL_law_908 (by decide) k0 ?_
    refine go_goto 1644 dL_law_923 (by decide) ?_
    exact go_sub [(0, .ref mm_XT), (1, .ref 0), (2, .ref 68), (3, .ref 73), (4, .int (nI i))] ⟨rfl, rfl, rfl, rfl, rfl, trivial⟩ (KK W3 k g hS)
theorem lw_where (l : Launch) {L : Nat} {xs : Nat → Int32} {Z : MZ} {bc bs i : Nat} (hL : L ≤ 2048) (hi : i + 4 ≤ L) {W : MW} {rf : Int32} {f : Nat → Int64} (h : LSt W rf f) (KK : ∀ W' rf' f', LSt W' rf' f' → Go l yL_law cL_law 7 (some .boolean) [] (some (L, xs)) Z 12 bc bs 1644 [(0, .ref mm_XT), (1, .ref 0), (2, .ref 68), (3, .ref 73), (4, .int (nI i))] [] W') : Go l yL_law cL_law 7 (some .boolean) [] (some (L, xs)) Z 12 (1 + bc) (6 + bs) 926 [(0, .ref mm_XT), (1, .ref 0), (2, .ref 68), (3, .ref 73), (4, .int (nI i))] [] W := by
  obtain ⟨mc, ms, k, b, W2, W3, g, hmc, hms, c1, c2, hS, hv, fs2, ho2⟩ := st_where l h (xs (i + 1)) (xs (i + 2))
  obtain ⟨th, ⟨fs3, ho3⟩, har, -⟩ := LSt_thr l hS
  refine go_room (bc' := mc + bc) (bs' := ms + bs) (by omega) (by omega) ?_
  refine go_aload_n dL_law_926 rfl ?_
  refine go_aload_n dL_law_927 rfl ?_
  refine go_iload dL_law_928 rfl ?_
  refine go_iconst 1 dL_law_930 (by decide) ?_
  refine go_iadd dL_law_931 ?_
  rw [show nI i + (1 : Int32) = nI (i + 1) from nI_add i 1]
  refine go_xload (i + 1) rfl dL_law_932 rfl (by omega) (by omega) ?_
  refine go_aload_n dL_law_933 rfl ?_
  refine go_iload dL_law_934 rfl ?_
  refine go_iconst 2 dL_law_936 (by decide) ?_
  refine go_iadd dL_law_937 ?_
  rw [show nI i + (2 : Int32) = nI (i + 2) from nI_add i 2]
  refine go_xload (i + 2) rfl dL_law_938 rfl (by omega) (by omega) ?_
  refine go_aload_n dL_law_939 rfl ?_
  refine go_statH (mc := mc) (ms := ms) (bc := bc) (bs := bs) dL_law_940 c1 s_L_154 kc_L_where kl_L_154 rfl rfl (Nat.le_of_ble_eq_true rfl) (Nat.le_of_ble_eq_true rfl) (Nat.le_of_ble_eq_true rfl) (fun v hv2 => ?_) (fun E hE => by cases hE)
  cases hv2
  refine go_istore dL_law_943 (Nat.le_of_ble_eq_true rfl) rfl ?_
  refine go_aload_n dL_law_945 rfl ?_
  refine go_aload_n dL_law_946 rfl ?_
  refine go_iload dL_law_947 rfl ?_
  refine go_iconst 1 dL_law_949 (by decide) ?_
  refine go_iadd dL_law_950 ?_
  rw [show nI i + (1 : Int32) = nI (i + 1) from nI_add i 1]
  refine go_xload (i + 1) rfl dL_law_951 rfl (by omega) (by omega) ?_
  refine go_aload_n dL_law_952 rfl ?_
  refine go_iload dL_law_953 rfl ?_
  refine go_iconst 2 dL_law_955 (by decide) ?_
  refine go_iadd dL_law_956 ?_
  rw [show nI i + (2 : Int32) = nI (i + 2) from nI_add i 2]
  refine go_xload (i + 2) rfl dL_law_957 rfl (by omega) (by omega) ?_
  refine go_virt1 dL_law_958 c2 v_L_156_7 rfl ho2 rfl (Nat.le_of_ble_eq_true rfl) (Nat.le_of_ble_eq_true rfl) (Nat.le_of_ble_eq_true rfl) ?_
  refine go_istore dL_law_961 (Nat.le_of_ble_eq_true rfl) rfl ?_
  refine go_aload_n dL_law_963 rfl ?_
  refine go_virt1 dL_law_964 th v_L_95_7 rfl ho3 rfl (Nat.le_of_ble_eq_true rfl) (Nat.le_of_ble_eq_true rfl) (Nat.le_of_ble_eq_true rfl) ?_
  refine go_iload dL_law_967 rfl ?_
  refine go_icmp_eq_t 974 dL_law_969 (by decide) rfl ?_
  refine go_iload dL_law_974 rfl ?_
  by_cases k0 : k = 0
  · refine go_if_ne_f 991 dL_law_976 (by decide) k0 ?_
    refine go_aload_n dL_law_979 rfl ?_
    refine go_iconst 0 dL_law_980 (by decide) ?_
    refine go_laload 0 dL_law_981 har rfl (by decide) (by decide) ?_
    refine go_iload dL_law_982 rfl ?_
    refine go_i2l dL_law_984 ?_
    refine go_lcmp dL_law_985 ?_
    refine go_if_eq_t 991 dL_law_986 (by decide) (by rw [hv k0]; exact cmp_self _) ?_
    refine go_goto 1644 dL_law_991 (by decide) ?_
    exact go_sub [(0, .ref mm_XT), (1, .ref 0), (2, .ref 68), (3, .ref 73), (4, .int (nI i))] ⟨rfl, rfl, rfl, rfl, rfl, trivial⟩ (KK W3 k g hS)
  · refine go_if_ne_t 991 dL_law_976 (by decide) k0 ?_
    refine go_goto 1644 dL_law_991 (by decide) ?_
    exact go_sub [(0, .ref mm_XT), (1, .ref 0), (2, .ref 68), (3, .ref 73), (4, .int (nI i))] ⟨rfl, rfl, rfl, rfl, rfl, trivial⟩ (KK W3 k g hS)
theorem lw_violations (l : Launch) {L : Nat} {xs : Nat → Int32} {Z : MZ} {bc bs i : Nat} (hL : L ≤ 2048) (hi : i + 4 ≤ L) {W : MW} {rf : Int32} {f : Nat → Int64} (h : LSt W rf f) (KK : ∀ W' rf' f', LSt W' rf' f' → Go l yL_law cL_law 7 (some .boolean) [] (some (L, xs)) Z 12 bc bs 1644 [(0, .ref mm_XT), (1, .ref 0), (2, .ref 68), (3, .ref 73), (4, .int (nI i))] [] W') : Go l yL_law cL_law 7 (some .boolean) [] (some (L, xs)) Z 12 (1 + bc) (6 + bs) 994 [(0, .ref mm_XT), (1, .ref 0), (2, .ref 68), (3, .ref 73), (4, .int (nI i))] [] W := by
  obtain ⟨mc, ms, k, b, W2, W3, g, hmc, hms, c1, c2, hS, hv, fs2, ho2⟩ := st_violations l h (xs (i + 1))
  obtain ⟨th, ⟨fs3, ho3⟩, har, -⟩ := LSt_thr l hS
  refine go_room (bc' := mc + bc) (bs' := ms + bs) (by omega) (by omega) ?_
  refine go_aload_n dL_law_994 rfl ?_
  refine go_aload_n dL_law_995 rfl ?_
  refine go_iload dL_law_996 rfl ?_
  refine go_iconst 1 dL_law_998 (by decide) ?_
  refine go_iadd dL_law_999 ?_
  rw [show nI i + (1 : Int32) = nI (i + 1) from nI_add i 1]
  refine go_xload (i + 1) rfl dL_law_1000 rfl (by omega) (by omega) ?_
  refine go_aload_n dL_law_1001 rfl ?_
  refine go_statH (mc := mc) (ms := ms) (bc := bc) (bs := bs) dL_law_1002 c1 s_L_157 kc_L_violations kl_L_157 rfl rfl (Nat.le_of_ble_eq_true rfl) (Nat.le_of_ble_eq_true rfl) (Nat.le_of_ble_eq_true rfl) (fun v hv2 => ?_) (fun E hE => by cases hE)
  cases hv2
  refine go_istore dL_law_1005 (Nat.le_of_ble_eq_true rfl) rfl ?_
  refine go_aload_n dL_law_1007 rfl ?_
  refine go_aload_n dL_law_1008 rfl ?_
  refine go_iload dL_law_1009 rfl ?_
  refine go_iconst 1 dL_law_1011 (by decide) ?_
  refine go_iadd dL_law_1012 ?_
  rw [show nI i + (1 : Int32) = nI (i + 1) from nI_add i 1]
  refine go_xload (i + 1) rfl dL_law_1013 rfl (by omega) (by omega) ?_
  refine go_virt1 dL_law_1014 c2 v_L_159_7 rfl ho2 rfl (Nat.le_of_ble_eq_true rfl) (Nat.le_of_ble_eq_true rfl) (Nat.le_of_ble_eq_true rfl) ?_
  refine go_istore dL_law_1017 (Nat.le_of_ble_eq_true rfl) rfl ?_
  refine go_aload_n dL_law_1019 rfl ?_
  refine go_virt1 dL_law_1020 th v_L_95_7 rfl ho3 rfl (Nat.le_of_ble_eq_true rfl) (Nat.le_of_ble_eq_true rfl) (Nat.le_of_ble_eq_true rfl) ?_
  refine go_iload dL_law_1023 rfl ?_
  refine go_icmp_eq_t 1030 dL_law_1025 (by decide) rfl ?_
  refine go_iload dL_law_1030 rfl ?_
  by_cases k0 : k = 0
  · refine go_if_ne_f 1047 dL_law_1032 (by decide) k0 ?_
    refine go_aload_n dL_law_1035 rfl ?_
    refine go_iconst 0 dL_law_1036 (by decide) ?_
    refine go_laload 0 dL_law_1037 har rfl (by decide) (by decide) ?_
    refine go_iload dL_law_1038 rfl ?_
    refine go_i2l dL_law_1040 ?_
    refine go_lcmp dL_law_1041 ?_
    refine go_if_eq_t 1047 dL_law_1042 (by decide) (by rw [hv k0]; exact cmp_self _) ?_
    refine go_goto 1644 dL_law_1047 (by decide) ?_
    exact go_sub [(0, .ref mm_XT), (1, .ref 0), (2, .ref 68), (3, .ref 73), (4, .int (nI i))] ⟨rfl, rfl, rfl, rfl, rfl, trivial⟩ (KK W3 k g hS)
  · refine go_if_ne_t 1047 dL_law_1032 (by decide) k0 ?_
    refine go_goto 1644 dL_law_1047 (by decide) ?_
    exact go_sub [(0, .ref mm_XT), (1, .ref 0), (2, .ref 68), (3, .ref 73), (4, .int (nI i))] ⟨rfl, rfl, rfl, rfl, rfl, trivial⟩ (KK W3 k g hS)
theorem lw_disturb (l : Launch) {L : Nat} {xs : Nat → Int32} {Z : MZ} {bc bs i : Nat} (hL : L ≤ 2048) (hi : i + 4 ≤ L) {W : MW} {rf : Int32} {f : Nat → Int64} (h : LSt W rf f) (KK : ∀ W' rf' f', LSt W' rf' f' → Go l yL_law cL_law 7 (some .boolean) [] (some (L, xs)) Z 12 bc bs 1644 [(0, .ref mm_XT), (1, .ref 0), (2, .ref 68), (3, .ref 73), (4, .int (nI i))] [] W') : Go l yL_law cL_law 7 (some .boolean) [] (some (L, xs)) Z 12 (1 + bc) (6 + bs) 1050 [(0, .ref mm_XT), (1, .ref 0), (2, .ref 68), (3, .ref 73), (4, .int (nI i))] [] W := by
  obtain ⟨mc, ms, k, b, W2, W3, g, hmc, hms, c1, c2, hS, hv, fs2, ho2⟩ := st_disturb l h (xs (i + 1)) (xs (i + 2)) (xs (i + 3))
  obtain ⟨th, ⟨fs3, ho3⟩, har, -⟩ := LSt_thr l hS
  refine go_room (bc' := mc + bc) (bs' := ms + bs) (by omega) (by omega) ?_
  refine go_aload_n dL_law_1050 rfl ?_
  refine go_aload_n dL_law_1051 rfl ?_
  refine go_iload dL_law_1052 rfl ?_
  refine go_iconst 1 dL_law_1054 (by decide) ?_
  refine go_iadd dL_law_1055 ?_
  rw [show nI i + (1 : Int32) = nI (i + 1) from nI_add i 1]
  refine go_xload (i + 1) rfl dL_law_1056 rfl (by omega) (by omega) ?_
  refine go_aload_n dL_law_1057 rfl ?_
  refine go_iload dL_law_1058 rfl ?_
  refine go_iconst 2 dL_law_1060 (by decide) ?_
  refine go_iadd dL_law_1061 ?_
  rw [show nI i + (2 : Int32) = nI (i + 2) from nI_add i 2]
  refine go_xload (i + 2) rfl dL_law_1062 rfl (by omega) (by omega) ?_
  refine go_aload_n dL_law_1063 rfl ?_
  refine go_iload dL_law_1064 rfl ?_
  refine go_iconst 3 dL_law_1066 (by decide) ?_
  refine go_iadd dL_law_1067 ?_
  rw [show nI i + (3 : Int32) = nI (i + 3) from nI_add i 3]
  refine go_xload (i + 3) rfl dL_law_1068 rfl (by omega) (by omega) ?_
  refine go_aload_n dL_law_1069 rfl ?_
  refine go_statH (mc := mc) (ms := ms) (bc := bc) (bs := bs) dL_law_1070 c1 s_L_160 kc_L_disturb kl_L_160 rfl rfl (Nat.le_of_ble_eq_true rfl) (Nat.le_of_ble_eq_true rfl) (Nat.le_of_ble_eq_true rfl) (fun v hv2 => ?_) (fun E hE => by cases hE)
  cases hv2
  refine go_istore dL_law_1073 (Nat.le_of_ble_eq_true rfl) rfl ?_
  refine go_aload_n dL_law_1075 rfl ?_
  refine go_aload_n dL_law_1076 rfl ?_
  refine go_iload dL_law_1077 rfl ?_
  refine go_iconst 1 dL_law_1079 (by decide) ?_
  refine go_iadd dL_law_1080 ?_
  rw [show nI i + (1 : Int32) = nI (i + 1) from nI_add i 1]
  refine go_xload (i + 1) rfl dL_law_1081 rfl (by omega) (by omega) ?_
  refine go_aload_n dL_law_1082 rfl ?_
  refine go_iload dL_law_1083 rfl ?_
  refine go_iconst 2 dL_law_1085 (by decide) ?_
  refine go_iadd dL_law_1086 ?_
  rw [show nI i + (2 : Int32) = nI (i + 2) from nI_add i 2]
  refine go_xload (i + 2) rfl dL_law_1087 rfl (by omega) (by omega) ?_
  refine go_aload_n dL_law_1088 rfl ?_
  refine go_iload dL_law_1089 rfl ?_
  refine go_iconst 3 dL_law_1091 (by decide) ?_
  refine go_iadd dL_law_1092 ?_
  rw [show nI i + (3 : Int32) = nI (i + 3) from nI_add i 3]
  refine go_xload (i + 3) rfl dL_law_1093 rfl (by omega) (by omega) ?_
  refine go_virt1 dL_law_1094 c2 v_L_163_7 rfl ho2 rfl (Nat.le_of_ble_eq_true rfl) (Nat.le_of_ble_eq_true rfl) (Nat.le_of_ble_eq_true rfl) ?_
  refine go_istore dL_law_1097 (Nat.le_of_ble_eq_true rfl) rfl ?_
  refine go_aload_n dL_law_1099 rfl ?_
  refine go_virt1 dL_law_1100 th v_L_95_7 rfl ho3 rfl (Nat.le_of_ble_eq_true rfl) (Nat.le_of_ble_eq_true rfl) (Nat.le_of_ble_eq_true rfl) ?_
  refine go_iload dL_law_1103 rfl ?_
  refine go_icmp_eq_t 1110 dL_law_1105 (by decide) rfl ?_
  refine go_iload dL_law_1110 rfl ?_
  by_cases k0 : k = 0
  · refine go_if_ne_f 1127 dL_law_1112 (by decide) k0 ?_
    refine go_aload_n dL_law_1115 rfl ?_
    refine go_iconst 0 dL_law_1116 (by decide) ?_
    refine go_laload 0 dL_law_1117 har rfl (by decide) (by decide) ?_
    refine go_iload dL_law_1118 rfl ?_
    refine go_i2l dL_law_1120 ?_
    refine go_lcmp dL_law_1121 ?_
    refine go_if_eq_t 1127 dL_law_1122 (by decide) (by rw [hv k0]; exact cmp_self _) ?_
    refine go_goto 1644 dL_law_1127 (by decide) ?_
    exact go_sub [(0, .ref mm_XT), (1, .ref 0), (2, .ref 68), (3, .ref 73), (4, .int (nI i))] ⟨rfl, rfl, rfl, rfl, rfl, trivial⟩ (KK W3 k g hS)
  · refine go_if_ne_t 1127 dL_law_1112 (by decide) k0 ?_
    refine go_goto 1644 dL_law_1127 (by decide) ?_
    exact go_sub [(0, .ref mm_XT), (1, .ref 0), (2, .ref 68), (3, .ref 73), (4, .int (nI i))] ⟨rfl, rfl, rfl, rfl, rfl, trivial⟩ (KK W3 k g hS)
theorem lw_level (l : Launch) {L : Nat} {xs : Nat → Int32} {Z : MZ} {bc bs i : Nat} (hL : L ≤ 2048) (hi : i + 4 ≤ L) {W : MW} {rf : Int32} {f : Nat → Int64} (h : LSt W rf f) (KK : ∀ W' rf' f', LSt W' rf' f' → Go l yL_law cL_law 7 (some .boolean) [] (some (L, xs)) Z 12 bc bs 1644 [(0, .ref mm_XT), (1, .ref 0), (2, .ref 68), (3, .ref 73), (4, .int (nI i))] [] W') : Go l yL_law cL_law 7 (some .boolean) [] (some (L, xs)) Z 12 (1 + bc) (6 + bs) 1130 [(0, .ref mm_XT), (1, .ref 0), (2, .ref 68), (3, .ref 73), (4, .int (nI i))] [] W := by
  obtain ⟨mc, ms, k, b, W2, W3, g, hmc, hms, c1, c2, hS, hv, fs2, ho2⟩ := st_level l h (xs (i + 1))
  obtain ⟨th, ⟨fs3, ho3⟩, har, -⟩ := LSt_thr l hS
  refine go_room (bc' := mc + bc) (bs' := ms + bs) (by omega) (by omega) ?_
  refine go_aload_n dL_law_1130 rfl ?_
  refine go_aload_n dL_law_1131 rfl ?_
  refine go_iload dL_law_1132 rfl ?_
  refine go_iconst 1 dL_law_1134 (by decide) ?_
  refine go_iadd dL_law_1135 ?_
  rw [show nI i + (1 : Int32) = nI (i + 1) from nI_add i 1]
  refine go_xload (i + 1) rfl dL_law_1136 rfl (by omega) (by omega) ?_
  refine go_aload_n dL_law_1137 rfl ?_
  refine go_statH (mc := mc) (ms := ms) (bc := bc) (bs := bs) dL_law_1138 c1 s_L_164 kc_L_level kl_L_164 rfl rfl (Nat.le_of_ble_eq_true rfl) (Nat.le_of_ble_eq_true rfl) (Nat.le_of_ble_eq_true rfl) (fun v hv2 => ?_) (fun E hE => by cases hE)
  cases hv2
  refine go_istore dL_law_1141 (Nat.le_of_ble_eq_true rfl) rfl ?_
  refine go_aload_n dL_law_1143 rfl ?_
  refine go_aload_n dL_law_1144 rfl ?_
  refine go_iload dL_law_1145 rfl ?_
  refine go_iconst 1 dL_law_1147 (by decide) ?_
  refine go_iadd dL_law_1148 ?_
  rw [show nI i + (1 : Int32) = nI (i + 1) from nI_add i 1]
  refine go_xload (i + 1) rfl dL_law_1149 rfl (by omega) (by omega) ?_
  refine go_virt1 dL_law_1150 c2 v_L_166_7 rfl ho2 rfl (Nat.le_of_ble_eq_true rfl) (Nat.le_of_ble_eq_true rfl) (Nat.le_of_ble_eq_true rfl) ?_
  refine go_istore dL_law_1153 (Nat.le_of_ble_eq_true rfl) rfl ?_
  refine go_aload_n dL_law_1155 rfl ?_
  refine go_virt1 dL_law_1156 th v_L_95_7 rfl ho3 rfl (Nat.le_of_ble_eq_true rfl) (Nat.le_of_ble_eq_true rfl) (Nat.le_of_ble_eq_true rfl) ?_
  refine go_iload dL_law_1159 rfl ?_
  refine go_icmp_eq_t 1166 dL_law_1161 (by decide) rfl ?_
  refine go_iload dL_law_1166 rfl ?_
  by_cases k0 : k = 0
  · refine go_if_ne_f 1183 dL_law_1168 (by decide) k0 ?_
    refine go_aload_n dL_law_1171 rfl ?_
    refine go_iconst 0 dL_law_1172 (by decide) ?_
    refine go_laload 0 dL_law_1173 har rfl (by decide) (by decide) ?_
    refine go_iload dL_law_1174 rfl ?_
    refine go_i2l dL_law_1176 ?_
    refine go_lcmp dL_law_1177 ?_
    refine go_if_eq_t 1183 dL_law_1178 (by decide) (by rw [hv k0]; exact cmp_self _) ?_
    refine go_goto 1644 dL_law_1183 (by decide) ?_
    exact go_sub [(0, .ref mm_XT), (1, .ref 0), (2, .ref 68), (3, .ref 73), (4, .int (nI i))] ⟨rfl, rfl, rfl, rfl, rfl, trivial⟩ (KK W3 k g hS)
  · refine go_if_ne_t 1183 dL_law_1168 (by decide) k0 ?_
    refine go_goto 1644 dL_law_1183 (by decide) ?_
    exact go_sub [(0, .ref mm_XT), (1, .ref 0), (2, .ref 68), (3, .ref 73), (4, .int (nI i))] ⟨rfl, rfl, rfl, rfl, rfl, trivial⟩ (KK W3 k g hS)
theorem lw_ancestors (l : Launch) {L : Nat} {xs : Nat → Int32} {Z : MZ} {bc bs i : Nat} (hL : L ≤ 2048) (hi : i + 4 ≤ L) {W : MW} {rf : Int32} {f : Nat → Int64} (h : LSt W rf f) (KK : ∀ W' rf' f', LSt W' rf' f' → Go l yL_law cL_law 7 (some .boolean) [] (some (L, xs)) Z 12 bc bs 1644 [(0, .ref mm_XT), (1, .ref 0), (2, .ref 68), (3, .ref 73), (4, .int (nI i))] [] W') : Go l yL_law cL_law 7 (some .boolean) [] (some (L, xs)) Z 12 (1 + bc) (6 + bs) 1186 [(0, .ref mm_XT), (1, .ref 0), (2, .ref 68), (3, .ref 73), (4, .int (nI i))] [] W := by
  obtain ⟨mc, ms, k, b, W2, W3, g, hmc, hms, c1, c2, hS, hv, fs2, ho2⟩ := st_ancestors l h (xs (i + 1))
  obtain ⟨th, ⟨fs3, ho3⟩, har, -⟩ := LSt_thr l hS
  refine go_room (bc' := mc + bc) (bs' := ms + bs) (by omega) (by omega) ?_
  refine go_aload_n dL_law_1186 rfl ?_
  refine go_aload_n dL_law_1187 rfl ?_
  refine go_iload dL_law_1188 rfl ?_
  refine go_iconst 1 dL_law_1190 (by decide) ?_
  refine go_iadd dL_law_1191 ?_
  rw [show nI i + (1 : Int32) = nI (i + 1) from nI_add i 1]
  refine go_xload (i + 1) rfl dL_law_1192 rfl (by omega) (by omega) ?_
  refine go_aload_n dL_law_1193 rfl ?_
  refine go_statH (mc := mc) (ms := ms) (bc := bc) (bs := bs) dL_law_1194 c1 s_L_167 kc_L_ancestors kl_L_167 rfl rfl (Nat.le_of_ble_eq_true rfl) (Nat.le_of_ble_eq_true rfl) (Nat.le_of_ble_eq_true rfl) (fun v hv2 => ?_) (fun E hE => by cases hE)
  cases hv2
  refine go_istore dL_law_1197 (Nat.le_of_ble_eq_true rfl) rfl ?_
  refine go_aload_n dL_law_1199 rfl ?_
  refine go_aload_n dL_law_1200 rfl ?_
  refine go_iload dL_law_1201 rfl ?_
  refine go_iconst 1 dL_law_1203 (by decide) ?_
  refine go_iadd dL_law_1204 ?_
  rw [show nI i + (1 : Int32) = nI (i + 1) from nI_add i 1]
  refine go_xload (i + 1) rfl dL_law_1205 rfl (by omega) (by omega) ?_
  refine go_virt1 dL_law_1206 c2 v_L_169_7 rfl ho2 rfl (Nat.le_of_ble_eq_true rfl) (Nat.le_of_ble_eq_true rfl) (Nat.le_of_ble_eq_true rfl) ?_
  refine go_istore dL_law_1209 (Nat.le_of_ble_eq_true rfl) rfl ?_
  refine go_aload_n dL_law_1211 rfl ?_
  refine go_virt1 dL_law_1212 th v_L_95_7 rfl ho3 rfl (Nat.le_of_ble_eq_true rfl) (Nat.le_of_ble_eq_true rfl) (Nat.le_of_ble_eq_true rfl) ?_
  refine go_iload dL_law_1215 rfl ?_
  refine go_icmp_eq_t 1222 dL_law_1217 (by decide) rfl ?_
  refine go_iload dL_law_1222 rfl ?_
  by_cases k0 : k = 0
  · refine go_if_ne_f 1239 dL_law_1224 (by decide) k0 ?_
    refine go_aload_n dL_law_1227 rfl ?_
    refine go_iconst 0 dL_law_1228 (by decide) ?_
    refine go_laload 0 dL_law_1229 har rfl (by decide) (by decide) ?_
    refine go_iload dL_law_1230 rfl ?_
    refine go_i2l dL_law_1232 ?_
    refine go_lcmp dL_law_1233 ?_
    refine go_if_eq_t 1239 dL_law_1234 (by decide) (by rw [hv k0]; exact cmp_self _) ?_
    refine go_goto 1644 dL_law_1239 (by decide) ?_
    exact go_sub [(0, .ref mm_XT), (1, .ref 0), (2, .ref 68), (3, .ref 73), (4, .int (nI i))] ⟨rfl, rfl, rfl, rfl, rfl, trivial⟩ (KK W3 k g hS)
  · refine go_if_ne_t 1239 dL_law_1224 (by decide) k0 ?_
    refine go_goto 1644 dL_law_1239 (by decide) ?_
    exact go_sub [(0, .ref mm_XT), (1, .ref 0), (2, .ref 68), (3, .ref 73), (4, .int (nI i))] ⟨rfl, rfl, rfl, rfl, rfl, trivial⟩ (KK W3 k g hS)
theorem lw_comparisons (l : Launch) {L : Nat} {xs : Nat → Int32} {Z : MZ} {bc bs i : Nat} (hL : L ≤ 2048) (hi : i + 4 ≤ L) {W : MW} {rf : Int32} {f : Nat → Int64} (h : LSt W rf f) (KK : ∀ W' rf' f', LSt W' rf' f' → Go l yL_law cL_law 7 (some .boolean) [] (some (L, xs)) Z 12 bc bs 1644 [(0, .ref mm_XT), (1, .ref 0), (2, .ref 68), (3, .ref 73), (4, .int (nI i))] [] W') : Go l yL_law cL_law 7 (some .boolean) [] (some (L, xs)) Z 12 (1 + bc) (6 + bs) 1242 [(0, .ref mm_XT), (1, .ref 0), (2, .ref 68), (3, .ref 73), (4, .int (nI i))] [] W := by
  obtain ⟨mc, ms, k, b, W2, W3, g, hmc, hms, c1, c2, hS, hv, fs2, ho2⟩ := st_comparisons l h (xs (i + 1))
  obtain ⟨th, ⟨fs3, ho3⟩, har, -⟩ := LSt_thr l hS
  refine go_room (bc' := mc + bc) (bs' := ms + bs) (by omega) (by omega) ?_
  refine go_aload_n dL_law_1242 rfl ?_
  refine go_aload_n dL_law_1243 rfl ?_
  refine go_iload dL_law_1244 rfl ?_
  refine go_iconst 1 dL_law_1246 (by decide) ?_
  refine go_iadd dL_law_1247 ?_
  rw [show nI i + (1 : Int32) = nI (i + 1) from nI_add i 1]
  refine go_xload (i + 1) rfl dL_law_1248 rfl (by omega) (by omega) ?_
  refine go_aload_n dL_law_1249 rfl ?_
  refine go_statH (mc := mc) (ms := ms) (bc := bc) (bs := bs) dL_law_1250 c1 s_L_170 kc_L_comparisons kl_L_170 rfl rfl (Nat.le_of_ble_eq_true rfl) (Nat.le_of_ble_eq_true rfl) (Nat.le_of_ble_eq_true rfl) (fun v hv2 => ?_) (fun E hE => by cases hE)
  cases hv2
  refine go_istore dL_law_1253 (Nat.le_of_ble_eq_true rfl) rfl ?_
  refine go_aload_n dL_law_1255 rfl ?_
  refine go_aload_n dL_law_1256 rfl ?_
  refine go_iload dL_law_1257 rfl ?_
  refine go_iconst 1 dL_law_1259 (by decide) ?_
  refine go_iadd dL_law_1260 ?_
  rw [show nI i + (1 : Int32) = nI (i + 1) from nI_add i 1]
  refine go_xload (i + 1) rfl dL_law_1261 rfl (by omega) (by omega) ?_
  refine go_virt1 dL_law_1262 c2 v_L_172_7 rfl ho2 rfl (Nat.le_of_ble_eq_true rfl) (Nat.le_of_ble_eq_true rfl) (Nat.le_of_ble_eq_true rfl) ?_
  refine go_istore dL_law_1265 (Nat.le_of_ble_eq_true rfl) rfl ?_
  refine go_aload_n dL_law_1267 rfl ?_
  refine go_virt1 dL_law_1268 th v_L_95_7 rfl ho3 rfl (Nat.le_of_ble_eq_true rfl) (Nat.le_of_ble_eq_true rfl) (Nat.le_of_ble_eq_true rfl) ?_
  refine go_iload dL_law_1271 rfl ?_
  refine go_icmp_eq_t 1278 dL_law_1273 (by decide) rfl ?_
  refine go_iload dL_law_1278 rfl ?_
  by_cases k0 : k = 0
  · refine go_if_ne_f 1295 dL_law_1280 (by decide) k0 ?_
    refine go_aload_n dL_law_1283 rfl ?_
    refine go_iconst 0 dL_law_1284 (by decide) ?_
    refine go_laload 0 dL_law_1285 har rfl (by decide) (by decide) ?_
    refine go_iload dL_law_1286 rfl ?_
    refine go_i2l dL_law_1288 ?_
    refine go_lcmp dL_law_1289 ?_
    refine go_if_eq_t 1295 dL_law_1290 (by decide) (by rw [hv k0]; exact cmp_self _) ?_
    refine go_goto 1644 dL_law_1295 (by decide) ?_
    exact go_sub [(0, .ref mm_XT), (1, .ref 0), (2, .ref 68), (3, .ref 73), (4, .int (nI i))] ⟨rfl, rfl, rfl, rfl, rfl, trivial⟩ (KK W3 k g hS)
  · refine go_if_ne_t 1295 dL_law_1280 (by decide) k0 ?_
    refine go_goto 1644 dL_law_1295 (by decide) ?_
    exact go_sub [(0, .ref mm_XT), (1, .ref 0), (2, .ref 68), (3, .ref 73), (4, .int (nI i))] ⟨rfl, rfl, rfl, rfl, rfl, trivial⟩ (KK W3 k g hS)
theorem lw_forget (l : Launch) {L : Nat} {xs : Nat → Int32} {Z : MZ} {bc bs i : Nat} (hL : L ≤ 2048) (hi : i + 4 ≤ L) {W : MW} {rf : Int32} {f : Nat → Int64} (h : LSt W rf f) (KK : ∀ W' rf' f', LSt W' rf' f' → Go l yL_law cL_law 7 (some .boolean) [] (some (L, xs)) Z 12 bc bs 1644 [(0, .ref mm_XT), (1, .ref 0), (2, .ref 68), (3, .ref 73), (4, .int (nI i))] [] W') : Go l yL_law cL_law 7 (some .boolean) [] (some (L, xs)) Z 12 (1 + bc) (6 + bs) 1298 [(0, .ref mm_XT), (1, .ref 0), (2, .ref 68), (3, .ref 73), (4, .int (nI i))] [] W := by
  obtain ⟨b, W2, W3, c1, c2, hS, fs2, ho2, ho⟩ := st_forget l h 
  refine go_room (bc' := bc) (bs' := bs) (by omega) (by omega) ?_
  refine go_aload_n dL_law_1298 rfl ?_
  refine go_virt1 dL_law_1299 c1 v_L_173_6 rfl ho rfl (Nat.le_of_ble_eq_true rfl) (Nat.le_of_ble_eq_true rfl) (Nat.le_of_ble_eq_true rfl) ?_
  refine go_aload_n dL_law_1302 rfl ?_
  refine go_virt1 dL_law_1303 c2 v_L_176_7 rfl ho2 rfl (Nat.le_of_ble_eq_true rfl) (Nat.le_of_ble_eq_true rfl) (Nat.le_of_ble_eq_true rfl) ?_
  refine go_icmp_eq_t 1644 dL_law_1306 (by decide) rfl ?_
  exact go_sub [(0, .ref mm_XT), (1, .ref 0), (2, .ref 68), (3, .ref 73), (4, .int (nI i))] ⟨rfl, rfl, rfl, rfl, rfl, trivial⟩ (KK W3 0 f hS)
theorem lw_wouldNeed (l : Launch) {L : Nat} {xs : Nat → Int32} {Z : MZ} {bc bs i : Nat} (hL : L ≤ 2048) (hi : i + 4 ≤ L) {W : MW} {rf : Int32} {f : Nat → Int64} (h : LSt W rf f) (KK : ∀ W' rf' f', LSt W' rf' f' → Go l yL_law cL_law 7 (some .boolean) [] (some (L, xs)) Z 12 bc bs 1644 [(0, .ref mm_XT), (1, .ref 0), (2, .ref 68), (3, .ref 73), (4, .int (nI i))] [] W') : Go l yL_law cL_law 7 (some .boolean) [] (some (L, xs)) Z 12 (1 + bc) (6 + bs) 1311 [(0, .ref mm_XT), (1, .ref 0), (2, .ref 68), (3, .ref 73), (4, .int (nI i))] [] W := by
  obtain ⟨mc, ms, k, b, W2, W3, g, hmc, hms, c1, c2, hS, hv, fs2, ho2⟩ := st_wouldNeed l h (xs (i + 1)) (xs (i + 2)) (xs (i + 3))
  obtain ⟨th, ⟨fs3, ho3⟩, har, -⟩ := LSt_thr l hS
  refine go_room (bc' := mc + bc) (bs' := ms + bs) (by omega) (by omega) ?_
  refine go_aload_n dL_law_1311 rfl ?_
  refine go_aload_n dL_law_1312 rfl ?_
  refine go_iload dL_law_1313 rfl ?_
  refine go_iconst 1 dL_law_1315 (by decide) ?_
  refine go_iadd dL_law_1316 ?_
  rw [show nI i + (1 : Int32) = nI (i + 1) from nI_add i 1]
  refine go_xload (i + 1) rfl dL_law_1317 rfl (by omega) (by omega) ?_
  refine go_aload_n dL_law_1318 rfl ?_
  refine go_iload dL_law_1319 rfl ?_
  refine go_iconst 2 dL_law_1321 (by decide) ?_
  refine go_iadd dL_law_1322 ?_
  rw [show nI i + (2 : Int32) = nI (i + 2) from nI_add i 2]
  refine go_xload (i + 2) rfl dL_law_1323 rfl (by omega) (by omega) ?_
  refine go_aload_n dL_law_1324 rfl ?_
  refine go_iload dL_law_1325 rfl ?_
  refine go_iconst 3 dL_law_1327 (by decide) ?_
  refine go_iadd dL_law_1328 ?_
  rw [show nI i + (3 : Int32) = nI (i + 3) from nI_add i 3]
  refine go_xload (i + 3) rfl dL_law_1329 rfl (by omega) (by omega) ?_
  refine go_aload_n dL_law_1330 rfl ?_
  refine go_statH (mc := mc) (ms := ms) (bc := bc) (bs := bs) dL_law_1331 c1 s_L_177 kc_L_wouldNeed kl_L_177 rfl rfl (Nat.le_of_ble_eq_true rfl) (Nat.le_of_ble_eq_true rfl) (Nat.le_of_ble_eq_true rfl) (fun v hv2 => ?_) (fun E hE => by cases hE)
  cases hv2
  refine go_istore dL_law_1334 (Nat.le_of_ble_eq_true rfl) rfl ?_
  refine go_aload_n dL_law_1336 rfl ?_
  refine go_aload_n dL_law_1337 rfl ?_
  refine go_iload dL_law_1338 rfl ?_
  refine go_iconst 1 dL_law_1340 (by decide) ?_
  refine go_iadd dL_law_1341 ?_
  rw [show nI i + (1 : Int32) = nI (i + 1) from nI_add i 1]
  refine go_xload (i + 1) rfl dL_law_1342 rfl (by omega) (by omega) ?_
  refine go_aload_n dL_law_1343 rfl ?_
  refine go_iload dL_law_1344 rfl ?_
  refine go_iconst 2 dL_law_1346 (by decide) ?_
  refine go_iadd dL_law_1347 ?_
  rw [show nI i + (2 : Int32) = nI (i + 2) from nI_add i 2]
  refine go_xload (i + 2) rfl dL_law_1348 rfl (by omega) (by omega) ?_
  refine go_aload_n dL_law_1349 rfl ?_
  refine go_iload dL_law_1350 rfl ?_
  refine go_iconst 3 dL_law_1352 (by decide) ?_
  refine go_iadd dL_law_1353 ?_
  rw [show nI i + (3 : Int32) = nI (i + 3) from nI_add i 3]
  refine go_xload (i + 3) rfl dL_law_1354 rfl (by omega) (by omega) ?_
  refine go_virt1 dL_law_1355 c2 v_L_179_7 rfl ho2 rfl (Nat.le_of_ble_eq_true rfl) (Nat.le_of_ble_eq_true rfl) (Nat.le_of_ble_eq_true rfl) ?_
  refine go_istore dL_law_1358 (Nat.le_of_ble_eq_true rfl) rfl ?_
  refine go_aload_n dL_law_1360 rfl ?_
  refine go_virt1 dL_law_1361 th v_L_95_7 rfl ho3 rfl (Nat.le_of_ble_eq_true rfl) (Nat.le_of_ble_eq_true rfl) (Nat.le_of_ble_eq_true rfl) ?_
  refine go_iload dL_law_1364 rfl ?_
  refine go_icmp_eq_t 1371 dL_law_1366 (by decide) rfl ?_
  refine go_iload dL_law_1371 rfl ?_
  by_cases k0 : k = 0
  · refine go_if_ne_f 1388 dL_law_1373 (by decide) k0 ?_
    refine go_aload_n dL_law_1376 rfl ?_
    refine go_iconst 0 dL_law_1377 (by decide) ?_
    refine go_laload 0 dL_law_1378 har rfl (by decide) (by decide) ?_
    refine go_iload dL_law_1379 rfl ?_
    refine go_i2l dL_law_1381 ?_
    refine go_lcmp dL_law_1382 ?_
    refine go_if_eq_t 1388 dL_law_1383 (by decide) (by rw [hv k0]; exact cmp_self _) ?_
    refine go_goto 1644 dL_law_1388 (by decide) ?_
    exact go_sub [(0, .ref mm_XT), (1, .ref 0), (2, .ref 68), (3, .ref 73), (4, .int (nI i))] ⟨rfl, rfl, rfl, rfl, rfl, trivial⟩ (KK W3 k g hS)
  · refine go_if_ne_t 1388 dL_law_1373 (by decide) k0 ?_
    refine go_goto 1644 dL_law_1388 (by decide) ?_
    exact go_sub [(0, .ref mm_XT), (1, .ref 0), (2, .ref 68), (3, .ref 73), (4, .int (nI i))] ⟨rfl, rfl, rfl, rfl, rfl, trivial⟩ (KK W3 k g hS)
theorem lw_sortingNeeds (l : Launch) {L : Nat} {xs : Nat → Int32} {Z : MZ} {bc bs i : Nat} (hL : L ≤ 2048) (hi : i + 4 ≤ L) {W : MW} {rf : Int32} {f : Nat → Int64} (h : LSt W rf f) (KK : ∀ W' rf' f', LSt W' rf' f' → Go l yL_law cL_law 7 (some .boolean) [] (some (L, xs)) Z 12 bc bs 1644 [(0, .ref mm_XT), (1, .ref 0), (2, .ref 68), (3, .ref 73), (4, .int (nI i))] [] W') : Go l yL_law cL_law 7 (some .boolean) [] (some (L, xs)) Z 12 (1 + bc) (6 + bs) 1391 [(0, .ref mm_XT), (1, .ref 0), (2, .ref 68), (3, .ref 73), (4, .int (nI i))] [] W := by
  obtain ⟨mc, ms, k, b, W2, W3, g, hmc, hms, c1, c2, hS, hv, fs2, ho2⟩ := st_sortingNeeds l h (xs (i + 1))
  obtain ⟨th, ⟨fs3, ho3⟩, har, -⟩ := LSt_thr l hS
  refine go_room (bc' := mc + bc) (bs' := ms + bs) (by omega) (by omega) ?_
  refine go_aload_n dL_law_1391 rfl ?_
  refine go_aload_n dL_law_1392 rfl ?_
  refine go_iload dL_law_1393 rfl ?_
  refine go_iconst 1 dL_law_1395 (by decide) ?_
  refine go_iadd dL_law_1396 ?_
  rw [show nI i + (1 : Int32) = nI (i + 1) from nI_add i 1]
  refine go_xload (i + 1) rfl dL_law_1397 rfl (by omega) (by omega) ?_
  refine go_aload_n dL_law_1398 rfl ?_
  refine go_statH (mc := mc) (ms := ms) (bc := bc) (bs := bs) dL_law_1399 c1 s_L_180 kc_L_sortingNeeds kl_L_180 rfl rfl (Nat.le_of_ble_eq_true rfl) (Nat.le_of_ble_eq_true rfl) (Nat.le_of_ble_eq_true rfl) (fun v hv2 => ?_) (fun E hE => by cases hE)
  cases hv2
  refine go_istore dL_law_1402 (Nat.le_of_ble_eq_true rfl) rfl ?_
  refine go_aload_n dL_law_1404 rfl ?_
  refine go_aload_n dL_law_1405 rfl ?_
  refine go_iload dL_law_1406 rfl ?_
  refine go_iconst 1 dL_law_1408 (by decide) ?_
  refine go_iadd dL_law_1409 ?_
  rw [show nI i + (1 : Int32) = nI (i + 1) from nI_add i 1]
  refine go_xload (i + 1) rfl dL_law_1410 rfl (by omega) (by omega) ?_
  refine go_virt1 dL_law_1411 c2 v_L_182_7 rfl ho2 rfl (Nat.le_of_ble_eq_true rfl) (Nat.le_of_ble_eq_true rfl) (Nat.le_of_ble_eq_true rfl) ?_
  refine go_istore dL_law_1414 (Nat.le_of_ble_eq_true rfl) rfl ?_
  refine go_aload_n dL_law_1416 rfl ?_
  refine go_virt1 dL_law_1417 th v_L_95_7 rfl ho3 rfl (Nat.le_of_ble_eq_true rfl) (Nat.le_of_ble_eq_true rfl) (Nat.le_of_ble_eq_true rfl) ?_
  refine go_iload dL_law_1420 rfl ?_
  refine go_icmp_eq_t 1427 dL_law_1422 (by decide) rfl ?_
  refine go_iload dL_law_1427 rfl ?_
  by_cases k0 : k = 0
  · refine go_if_ne_f 1444 dL_law_1429 (by decide) k0 ?_
    refine go_aload_n dL_law_1432 rfl ?_
    refine go_iconst 0 dL_law_1433 (by decide) ?_
    refine go_laload 0 dL_law_1434 har rfl (by decide) (by decide) ?_
    refine go_iload dL_law_1435 rfl ?_
    refine go_i2l dL_law_1437 ?_
    refine go_lcmp dL_law_1438 ?_
    refine go_if_eq_t 1444 dL_law_1439 (by decide) (by rw [hv k0]; exact cmp_self _) ?_
    refine go_goto 1644 dL_law_1444 (by decide) ?_
    exact go_sub [(0, .ref mm_XT), (1, .ref 0), (2, .ref 68), (3, .ref 73), (4, .int (nI i))] ⟨rfl, rfl, rfl, rfl, rfl, trivial⟩ (KK W3 k g hS)
  · refine go_if_ne_t 1444 dL_law_1429 (by decide) k0 ?_
    refine go_goto 1644 dL_law_1444 (by decide) ?_
    exact go_sub [(0, .ref mm_XT), (1, .ref 0), (2, .ref 68), (3, .ref 73), (4, .int (nI i))] ⟨rfl, rfl, rfl, rfl, rfl, trivial⟩ (KK W3 k g hS)
theorem lw_fewest (l : Launch) {L : Nat} {xs : Nat → Int32} {Z : MZ} {bc bs i : Nat} (hL : L ≤ 2048) (hi : i + 4 ≤ L) {W : MW} {rf : Int32} {f : Nat → Int64} (h : LSt W rf f) (KK : ∀ W' rf' f', LSt W' rf' f' → Go l yL_law cL_law 7 (some .boolean) [] (some (L, xs)) Z 12 bc bs 1644 [(0, .ref mm_XT), (1, .ref 0), (2, .ref 68), (3, .ref 73), (4, .int (nI i))] [] W') : Go l yL_law cL_law 7 (some .boolean) [] (some (L, xs)) Z 12 (1 + bc) (6 + bs) 1447 [(0, .ref mm_XT), (1, .ref 0), (2, .ref 68), (3, .ref 73), (4, .int (nI i))] [] W := by
  obtain ⟨b, W2, W3, c1, c2, hS, fs2, ho2, ho⟩ := st_fewest l h 
  refine go_room (bc' := bc) (bs' := bs) (by omega) (by omega) ?_
  refine go_aload_n dL_law_1447 rfl ?_
  refine go_virt1 dL_law_1448 c1 v_L_183_6 rfl ho rfl (Nat.le_of_ble_eq_true rfl) (Nat.le_of_ble_eq_true rfl) (Nat.le_of_ble_eq_true rfl) ?_
  refine go_aload_n dL_law_1451 rfl ?_
  refine go_virt1 dL_law_1452 c2 v_L_186_7 rfl ho2 rfl (Nat.le_of_ble_eq_true rfl) (Nat.le_of_ble_eq_true rfl) (Nat.le_of_ble_eq_true rfl) ?_
  refine go_icmp_eq_t 1644 dL_law_1455 (by decide) rfl ?_
  exact go_sub [(0, .ref mm_XT), (1, .ref 0), (2, .ref 68), (3, .ref 73), (4, .int (nI i))] ⟨rfl, rfl, rfl, rfl, rfl, trivial⟩ (KK W3 0 f hS)
theorem lw_type (l : Launch) {L : Nat} {xs : Nat → Int32} {Z : MZ} {bc bs i : Nat} (hL : L ≤ 2048) (hi : i + 4 ≤ L) {W : MW} {rf : Int32} {f : Nat → Int64} (h : LSt W rf f) (KK : ∀ W' rf' f', LSt W' rf' f' → Go l yL_law cL_law 7 (some .boolean) [] (some (L, xs)) Z 12 bc bs 1644 [(0, .ref mm_XT), (1, .ref 0), (2, .ref 68), (3, .ref 73), (4, .int (nI i))] [] W') : Go l yL_law cL_law 7 (some .boolean) [] (some (L, xs)) Z 12 (1 + bc) (6 + bs) 1460 [(0, .ref mm_XT), (1, .ref 0), (2, .ref 68), (3, .ref 73), (4, .int (nI i))] [] W := by
  obtain ⟨mc, ms, k, b, W2, W3, g, hmc, hms, c1, c2, hS, hv, fs2, ho2⟩ := st_type l h (xs (i + 1))
  obtain ⟨th, ⟨fs3, ho3⟩, har, -⟩ := LSt_thr l hS
  refine go_room (bc' := mc + bc) (bs' := ms + bs) (by omega) (by omega) ?_
  refine go_aload_n dL_law_1460 rfl ?_
  refine go_aload_n dL_law_1461 rfl ?_
  refine go_iload dL_law_1462 rfl ?_
  refine go_iconst 1 dL_law_1464 (by decide) ?_
  refine go_iadd dL_law_1465 ?_
  rw [show nI i + (1 : Int32) = nI (i + 1) from nI_add i 1]
  refine go_xload (i + 1) rfl dL_law_1466 rfl (by omega) (by omega) ?_
  refine go_aload_n dL_law_1467 rfl ?_
  refine go_statH (mc := mc) (ms := ms) (bc := bc) (bs := bs) dL_law_1468 c1 s_L_187 kc_L_type kl_L_187 rfl rfl (Nat.le_of_ble_eq_true rfl) (Nat.le_of_ble_eq_true rfl) (Nat.le_of_ble_eq_true rfl) (fun v hv2 => ?_) (fun E hE => by cases hE)
  cases hv2
  refine go_istore dL_law_1471 (Nat.le_of_ble_eq_true rfl) rfl ?_
  refine go_aload_n dL_law_1473 rfl ?_
  refine go_aload_n dL_law_1474 rfl ?_
  refine go_iload dL_law_1475 rfl ?_
  refine go_iconst 1 dL_law_1477 (by decide) ?_
  refine go_iadd dL_law_1478 ?_
  rw [show nI i + (1 : Int32) = nI (i + 1) from nI_add i 1]
  refine go_xload (i + 1) rfl dL_law_1479 rfl (by omega) (by omega) ?_
  refine go_virt1 dL_law_1480 c2 v_L_189_7 rfl ho2 rfl (Nat.le_of_ble_eq_true rfl) (Nat.le_of_ble_eq_true rfl) (Nat.le_of_ble_eq_true rfl) ?_
  refine go_istore dL_law_1483 (Nat.le_of_ble_eq_true rfl) rfl ?_
  refine go_aload_n dL_law_1485 rfl ?_
  refine go_virt1 dL_law_1486 th v_L_95_7 rfl ho3 rfl (Nat.le_of_ble_eq_true rfl) (Nat.le_of_ble_eq_true rfl) (Nat.le_of_ble_eq_true rfl) ?_
  refine go_iload dL_law_1489 rfl ?_
  refine go_icmp_eq_t 1496 dL_law_1491 (by decide) rfl ?_
  refine go_iload dL_law_1496 rfl ?_
  by_cases k0 : k = 0
  · refine go_if_ne_f 1513 dL_law_1498 (by decide) k0 ?_
    refine go_aload_n dL_law_1501 rfl ?_
    refine go_iconst 0 dL_law_1502 (by decide) ?_
    refine go_laload 0 dL_law_1503 har rfl (by decide) (by decide) ?_
    refine go_iload dL_law_1504 rfl ?_
    refine go_i2l dL_law_1506 ?_
    refine go_lcmp dL_law_1507 ?_
    refine go_if_eq_t 1513 dL_law_1508 (by decide) (by rw [hv k0]; exact cmp_self _) ?_
    refine go_goto 1644 dL_law_1513 (by decide) ?_
    exact go_sub [(0, .ref mm_XT), (1, .ref 0), (2, .ref 68), (3, .ref 73), (4, .int (nI i))] ⟨rfl, rfl, rfl, rfl, rfl, trivial⟩ (KK W3 k g hS)
  · refine go_if_ne_t 1513 dL_law_1498 (by decide) k0 ?_
    refine go_goto 1644 dL_law_1513 (by decide) ?_
    exact go_sub [(0, .ref mm_XT), (1, .ref 0), (2, .ref 68), (3, .ref 73), (4, .int (nI i))] ⟨rfl, rfl, rfl, rfl, rfl, trivial⟩ (KK W3 k g hS)
theorem lw_clearText (l : Launch) {L : Nat} {xs : Nat → Int32} {Z : MZ} {bc bs i : Nat} (hL : L ≤ 2048) (hi : i + 4 ≤ L) {W : MW} {rf : Int32} {f : Nat → Int64} (h : LSt W rf f) (KK : ∀ W' rf' f', LSt W' rf' f' → Go l yL_law cL_law 7 (some .boolean) [] (some (L, xs)) Z 12 bc bs 1644 [(0, .ref mm_XT), (1, .ref 0), (2, .ref 68), (3, .ref 73), (4, .int (nI i))] [] W') : Go l yL_law cL_law 7 (some .boolean) [] (some (L, xs)) Z 12 (1 + bc) (6 + bs) 1516 [(0, .ref mm_XT), (1, .ref 0), (2, .ref 68), (3, .ref 73), (4, .int (nI i))] [] W := by
  obtain ⟨b, W2, W3, c1, c2, hS, fs2, ho2, ho⟩ := st_clearText l h 
  refine go_room (bc' := bc) (bs' := bs) (by omega) (by omega) ?_
  refine go_aload_n dL_law_1516 rfl ?_
  refine go_virt1 dL_law_1517 c1 v_L_190_6 rfl ho rfl (Nat.le_of_ble_eq_true rfl) (Nat.le_of_ble_eq_true rfl) (Nat.le_of_ble_eq_true rfl) ?_
  refine go_aload_n dL_law_1520 rfl ?_
  refine go_virt1 dL_law_1521 c2 v_L_193_7 rfl ho2 rfl (Nat.le_of_ble_eq_true rfl) (Nat.le_of_ble_eq_true rfl) (Nat.le_of_ble_eq_true rfl) ?_
  refine go_icmp_eq_t 1644 dL_law_1524 (by decide) rfl ?_
  exact go_sub [(0, .ref mm_XT), (1, .ref 0), (2, .ref 68), (3, .ref 73), (4, .int (nI i))] ⟨rfl, rfl, rfl, rfl, rfl, trivial⟩ (KK W3 0 f hS)
theorem lw_fault (l : Launch) {L : Nat} {xs : Nat → Int32} {Z : MZ} {bc bs i : Nat} (hL : L ≤ 2048) (hi : i + 4 ≤ L) {W : MW} {rf : Int32} {f : Nat → Int64} (h : LSt W rf f) (KK : ∀ W' rf' f', LSt W' rf' f' → Go l yL_law cL_law 7 (some .boolean) [] (some (L, xs)) Z 12 bc bs 1644 [(0, .ref mm_XT), (1, .ref 0), (2, .ref 68), (3, .ref 73), (4, .int (nI i))] [] W') : Go l yL_law cL_law 7 (some .boolean) [] (some (L, xs)) Z 12 (1 + bc) (6 + bs) 1529 [(0, .ref mm_XT), (1, .ref 0), (2, .ref 68), (3, .ref 73), (4, .int (nI i))] [] W := by
  obtain ⟨b, W2, W3, c1, c2, hS, fs2, ho2, ho⟩ := st_fault l h 
  refine go_room (bc' := bc) (bs' := bs) (by omega) (by omega) ?_
  refine go_aload_n dL_law_1529 rfl ?_
  refine go_virt1 dL_law_1530 c1 v_L_194_6 rfl ho rfl (Nat.le_of_ble_eq_true rfl) (Nat.le_of_ble_eq_true rfl) (Nat.le_of_ble_eq_true rfl) ?_
  refine go_aload_n dL_law_1533 rfl ?_
  refine go_virt1 dL_law_1534 c2 v_L_197_7 rfl ho2 rfl (Nat.le_of_ble_eq_true rfl) (Nat.le_of_ble_eq_true rfl) (Nat.le_of_ble_eq_true rfl) ?_
  refine go_icmp_eq_t 1644 dL_law_1537 (by decide) rfl ?_
  exact go_sub [(0, .ref mm_XT), (1, .ref 0), (2, .ref 68), (3, .ref 73), (4, .int (nI i))] ⟨rfl, rfl, rfl, rfl, rfl, trivial⟩ (KK W3 0 f hS)
theorem lw_run (l : Launch) {L : Nat} {xs : Nat → Int32} {Z : MZ} {bc bs i : Nat} (hL : L ≤ 2048) (hi : i + 4 ≤ L) {W : MW} {rf : Int32} {f : Nat → Int64} (h : LSt W rf f) (KK : ∀ W' rf' f', LSt W' rf' f' → Go l yL_law cL_law 7 (some .boolean) [] (some (L, xs)) Z 12 bc bs 1644 [(0, .ref mm_XT), (1, .ref 0), (2, .ref 68), (3, .ref 73), (4, .int (nI i))] [] W') : Go l yL_law cL_law 7 (some .boolean) [] (some (L, xs)) Z 12 (1 + bc) (6 + bs) 1542 [(0, .ref mm_XT), (1, .ref 0), (2, .ref 68), (3, .ref 73), (4, .int (nI i))] [] W := by
  obtain ⟨mc, ms, k, b, W2, W3, g, hmc, hms, c1, c2, hS, hv, fs2, ho2⟩ := st_run l h 
  obtain ⟨th, ⟨fs3, ho3⟩, har, -⟩ := LSt_thr l hS
  refine go_room (bc' := mc + bc) (bs' := ms + bs) (by omega) (by omega) ?_
  refine go_aload_n dL_law_1542 rfl ?_
  refine go_aload_n dL_law_1543 rfl ?_
  refine go_statH (mc := mc) (ms := ms) (bc := bc) (bs := bs) dL_law_1544 c1 s_L_198 kc_L_run kl_L_198 rfl rfl (Nat.le_of_ble_eq_true rfl) (Nat.le_of_ble_eq_true rfl) (Nat.le_of_ble_eq_true rfl) (fun v hv2 => ?_) (fun E hE => by cases hE)
  cases hv2
  refine go_istore dL_law_1547 (Nat.le_of_ble_eq_true rfl) rfl ?_
  refine go_aload_n dL_law_1549 rfl ?_
  refine go_virt1 dL_law_1550 c2 v_L_200_7 rfl ho2 rfl (Nat.le_of_ble_eq_true rfl) (Nat.le_of_ble_eq_true rfl) (Nat.le_of_ble_eq_true rfl) ?_
  refine go_istore dL_law_1553 (Nat.le_of_ble_eq_true rfl) rfl ?_
  refine go_aload_n dL_law_1555 rfl ?_
  refine go_virt1 dL_law_1556 th v_L_95_7 rfl ho3 rfl (Nat.le_of_ble_eq_true rfl) (Nat.le_of_ble_eq_true rfl) (Nat.le_of_ble_eq_true rfl) ?_
  refine go_iload dL_law_1559 rfl ?_
  refine go_icmp_eq_t 1566 dL_law_1561 (by decide) rfl ?_
  refine go_iload dL_law_1566 rfl ?_
  by_cases k0 : k = 0
  · refine go_if_ne_f 1583 dL_law_1568 (by decide) k0 ?_
    refine go_aload_n dL_law_1571 rfl ?_
    refine go_iconst 0 dL_law_1572 (by decide) ?_
    refine go_laload 0 dL_law_1573 har rfl (by decide) (by decide) ?_
    refine go_iload dL_law_1574 rfl ?_
    refine go_i2l dL_law_1576 ?_
    refine go_lcmp dL_law_1577 ?_
    refine go_if_eq_t 1583 dL_law_1578 (by decide) (by rw [hv k0]; exact cmp_self _) ?_
    refine go_goto 1644 dL_law_1583 (by decide) ?_
    exact go_sub [(0, .ref mm_XT), (1, .ref 0), (2, .ref 68), (3, .ref 73), (4, .int (nI i))] ⟨rfl, rfl, rfl, rfl, rfl, trivial⟩ (KK W3 k g hS)
  · refine go_if_ne_t 1583 dL_law_1568 (by decide) k0 ?_
    refine go_goto 1644 dL_law_1583 (by decide) ?_
    exact go_sub [(0, .ref mm_XT), (1, .ref 0), (2, .ref 68), (3, .ref 73), (4, .int (nI i))] ⟨rfl, rfl, rfl, rfl, rfl, trivial⟩ (KK W3 k g hS)
theorem lw_undo (l : Launch) {L : Nat} {xs : Nat → Int32} {Z : MZ} {bc bs i : Nat} (hL : L ≤ 2048) (hi : i + 4 ≤ L) {W : MW} {rf : Int32} {f : Nat → Int64} (h : LSt W rf f) (KK : ∀ W' rf' f', LSt W' rf' f' → Go l yL_law cL_law 7 (some .boolean) [] (some (L, xs)) Z 12 bc bs 1644 [(0, .ref mm_XT), (1, .ref 0), (2, .ref 68), (3, .ref 73), (4, .int (nI i))] [] W') : Go l yL_law cL_law 7 (some .boolean) [] (some (L, xs)) Z 12 (1 + bc) (6 + bs) 1586 [(0, .ref mm_XT), (1, .ref 0), (2, .ref 68), (3, .ref 73), (4, .int (nI i))] [] W := by
  obtain ⟨mc, ms, k, b, W2, W3, g, hmc, hms, c1, c2, hS, hv, fs2, ho2⟩ := st_undo l h 
  obtain ⟨th, ⟨fs3, ho3⟩, har, -⟩ := LSt_thr l hS
  refine go_room (bc' := mc + bc) (bs' := ms + bs) (by omega) (by omega) ?_
  refine go_aload_n dL_law_1586 rfl ?_
  refine go_aload_n dL_law_1587 rfl ?_
  refine go_statH (mc := mc) (ms := ms) (bc := bc) (bs := bs) dL_law_1588 c1 s_L_201 kc_L_undo kl_L_201 rfl rfl (Nat.le_of_ble_eq_true rfl) (Nat.le_of_ble_eq_true rfl) (Nat.le_of_ble_eq_true rfl) (fun v hv2 => ?_) (fun E hE => by cases hE)
  cases hv2
  refine go_istore dL_law_1591 (Nat.le_of_ble_eq_true rfl) rfl ?_
  refine go_aload_n dL_law_1593 rfl ?_
  refine go_virt1 dL_law_1594 c2 v_L_203_7 rfl ho2 rfl (Nat.le_of_ble_eq_true rfl) (Nat.le_of_ble_eq_true rfl) (Nat.le_of_ble_eq_true rfl) ?_
  refine go_istore dL_law_1597 (Nat.le_of_ble_eq_true rfl) rfl ?_
  refine go_aload_n dL_law_1599 rfl ?_
  refine go_virt1 dL_law_1600 th v_L_95_7 rfl ho3 rfl (Nat.le_of_ble_eq_true rfl) (Nat.le_of_ble_eq_true rfl) (Nat.le_of_ble_eq_true rfl) ?_
  refine go_iload dL_law_1603 rfl ?_
  refine go_icmp_eq_t 1610 dL_law_1605 (by decide) rfl ?_
  refine go_iload dL_law_1610 rfl ?_
  by_cases k0 : k = 0
  · refine go_if_ne_f 1627 dL_law_1612 (by decide) k0 ?_
    refine go_aload_n dL_law_1615 rfl ?_
    refine go_iconst 0 dL_law_1616 (by decide) ?_
    refine go_laload 0 dL_law_1617 har rfl (by decide) (by decide) ?_
    refine go_iload dL_law_1618 rfl ?_
    refine go_i2l dL_law_1620 ?_
    refine go_lcmp dL_law_1621 ?_
    refine go_if_eq_t 1627 dL_law_1622 (by decide) (by rw [hv k0]; exact cmp_self _) ?_
    refine go_goto 1644 dL_law_1627 (by decide) ?_
    exact go_sub [(0, .ref mm_XT), (1, .ref 0), (2, .ref 68), (3, .ref 73), (4, .int (nI i))] ⟨rfl, rfl, rfl, rfl, rfl, trivial⟩ (KK W3 k g hS)
  · refine go_if_ne_t 1627 dL_law_1612 (by decide) k0 ?_
    refine go_goto 1644 dL_law_1627 (by decide) ?_
    exact go_sub [(0, .ref mm_XT), (1, .ref 0), (2, .ref 68), (3, .ref 73), (4, .int (nI i))] ⟨rfl, rfl, rfl, rfl, rfl, trivial⟩ (KK W3 k g hS)
theorem lw_checksum (l : Launch) {L : Nat} {xs : Nat → Int32} {Z : MZ} {bc bs i : Nat} (hL : L ≤ 2048) (hi : i + 4 ≤ L) {W : MW} {rf : Int32} {f : Nat → Int64} (h : LSt W rf f) (KK : ∀ W' rf' f', LSt W' rf' f' → Go l yL_law cL_law 7 (some .boolean) [] (some (L, xs)) Z 12 bc bs 1644 [(0, .ref mm_XT), (1, .ref 0), (2, .ref 68), (3, .ref 73), (4, .int (nI i))] [] W') : Go l yL_law cL_law 7 (some .boolean) [] (some (L, xs)) Z 12 (1 + bc) (6 + bs) 1630 [(0, .ref mm_XT), (1, .ref 0), (2, .ref 68), (3, .ref 73), (4, .int (nI i))] [] W := by
  obtain ⟨b, W2, W3, c1, c2, hS, fs2, ho2, ho⟩ := st_checksum l h 
  refine go_room (bc' := bc) (bs' := bs) (by omega) (by omega) ?_
  refine go_aload_n dL_law_1630 rfl ?_
  refine go_virt1 dL_law_1631 c1 v_L_204_6 rfl ho rfl (Nat.le_of_ble_eq_true rfl) (Nat.le_of_ble_eq_true rfl) (Nat.le_of_ble_eq_true rfl) ?_
  refine go_aload_n dL_law_1634 rfl ?_
  refine go_virt1 dL_law_1635 c2 v_L_208_7 rfl ho2 rfl (Nat.le_of_ble_eq_true rfl) (Nat.le_of_ble_eq_true rfl) (Nat.le_of_ble_eq_true rfl) ?_
  refine go_lcmp dL_law_1638 ?_
  refine go_if_eq_t 1644 dL_law_1639 (by decide) (cmp_self _) ?_
  exact go_sub [(0, .ref mm_XT), (1, .ref 0), (2, .ref 68), (3, .ref 73), (4, .int (nI i))] ⟨rfl, rfl, rfl, rfl, rfl, trivial⟩ (KK W3 0 f hS)
