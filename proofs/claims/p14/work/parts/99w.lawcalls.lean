set_option maxRecDepth 20000 in
set_option maxHeartbeats 400000 in
theorem lw_c2 {l : Launch} {E : pmE} {d : Nat} {S : pmS} {I : pmI} {J : pmJ} {P : pmP} {Q : Option Value → pmS → pmI → pmJ → pmP → Prop} {A : aS} {Z : Nat → Nat} {b m n L i kc ks : Nat} {tx : Nat → Nat} {xs : Nat → Int32} (hl : l.stackTraces = false) (hX : pm_X E L xs) (hL : L ≤ 1536) (hd : 200 ≤ d) (hi3 : i + 3 ≤ L) (hs : LI S I J P A Z b m tx n) (hg : gT A) (kx : ∀ S I J P A Z b m tx n, LI S I J P A Z b m tx n → gT A → pm_W l E yL_law cL_law 8 (some .boolean) d (kc + (32000 - m)) (ks + 18 * (32000 - m)) 655 [(4, .int (nI i)), (3, .ref 95), (2, .ref 47), (1, .ref 2), (0, .ref 0)] [] S I J P (pm_N E Q)) : pm_W l E yL_law cL_law 8 (some .boolean) d (kc + (32000 - m) + 8) (ks + 18 * (32000 - m) + 620) 190 [(4, .int (nI i)), (3, .ref 95), (2, .ref 47), (1, .ref 2), (0, .ref 0)] [] S I J P (pm_N E Q) := by
  obtain ⟨hG, hP, hc9, hq⟩ := id hs
  have hc := hc9.2.1
  have hO := hc9.2.2.1
  have ht := hc9.2.2.2.1
  have hsl := hO.2.2.2.2.2.2.2.2.2.2.1
  have hrl := hO.2.2.2.2.2.2.2.2.2.2.2.1
  have hr4 : A.rs.length ≤ 40 := by omega
  refine pw_aload_n dL_law_190 rfl ?_
  refine pw_aload_n dL_law_191 rfl ?_
  refine pw_iload dL_law_192 rfl ?_
  refine pw_iconst (v := nI 1) dL_law_194 (by decide) ?_
  refine pw_iadd dL_law_195 ?_
  refine pw_ti (z := nI (i + 1)) (nI_add i 1) ?_
  refine pw_sld (i + 1) hX dL_law_196 (by omega) (rfl) (by omega) ?_
  refine pw_callV (as := [_]) (kc' := 0) (ks' := 0) lL_39 dL_law_197 rfl rfl (sh_lt hG (by decide)) (sh_tg hG 0 rfl) (Nat.le_of_ble_eq_true rfl) (by omega) (Nat.le_of_ble_eq_true rfl) (Nat.zero_le _) (Nat.zero_le _) ?_
  refine c_thrown hG hP (by omega) (fun a1 => ?_)
  refine pw_pop dL_law_200 rfl ?_
  refine pw_aload_n dL_law_201 rfl ?_
  refine pw_aload_n dL_law_202 rfl ?_
  refine pw_iload dL_law_203 rfl ?_
  refine pw_iconst (v := nI 1) dL_law_205 (by decide) ?_
  refine pw_iadd dL_law_206 ?_
  refine pw_ti (z := nI (i + 1)) (nI_add i 1) ?_
  refine pw_sld (i + 1) hX dL_law_207 (by omega) (rfl) (by omega) ?_
  refine pw_callV (as := [_]) (kc' := 0) (ks' := 0) lL_43 dL_law_208 rfl rfl (sh_lt hG (by decide)) (sh_tg hG 45 rfl) (Nat.le_of_ble_eq_true rfl) (by omega) (Nat.le_of_ble_eq_true rfl) (Nat.zero_le _) (Nat.zero_le _) ?_
  refine r_thrown hG hP (by omega) (fun a2 => ?_)
  refine pw_pop dL_law_211 rfl ?_
  refine pw_goto (tgt := 655) dL_law_212 (by decide) ?_
  exact pm_Wk (Nat.le_refl _) (by omega) (by omega) (kx _ _ _ _ _ _ _ m _ _ (hs) (hg))
set_option maxRecDepth 20000 in
set_option maxHeartbeats 400000 in
theorem lw_c3 {l : Launch} {E : pmE} {d : Nat} {S : pmS} {I : pmI} {J : pmJ} {P : pmP} {Q : Option Value → pmS → pmI → pmJ → pmP → Prop} {A : aS} {Z : Nat → Nat} {b m n L i kc ks : Nat} {tx : Nat → Nat} {xs : Nat → Int32} (hl : l.stackTraces = false) (hX : pm_X E L xs) (hL : L ≤ 1536) (hd : 200 ≤ d) (hi3 : i + 3 ≤ L) (hs : LI S I J P A Z b m tx n) (hg : gT A) (kx : ∀ S I J P A Z b m tx n, LI S I J P A Z b m tx n → gT A → pm_W l E yL_law cL_law 8 (some .boolean) d (kc + (32000 - m)) (ks + 18 * (32000 - m)) 655 [(4, .int (nI i)), (3, .ref 95), (2, .ref 47), (1, .ref 2), (0, .ref 0)] [] S I J P (pm_N E Q)) : pm_W l E yL_law cL_law 8 (some .boolean) d (kc + (32000 - m) + 8) (ks + 18 * (32000 - m) + 620) 215 [(4, .int (nI i)), (3, .ref 95), (2, .ref 47), (1, .ref 2), (0, .ref 0)] [] S I J P (pm_N E Q) := by
  obtain ⟨hG, hP, hc9, hq⟩ := id hs
  have hc := hc9.2.1
  have hO := hc9.2.2.1
  have ht := hc9.2.2.2.1
  have hsl := hO.2.2.2.2.2.2.2.2.2.2.1
  have hrl := hO.2.2.2.2.2.2.2.2.2.2.2.1
  have hr4 : A.rs.length ≤ 40 := by omega
  refine pw_aload_n dL_law_215 rfl ?_
  refine pw_aload_n dL_law_216 rfl ?_
  refine pw_iload dL_law_217 rfl ?_
  refine pw_iconst (v := nI 1) dL_law_219 (by decide) ?_
  refine pw_iadd dL_law_220 ?_
  refine pw_ti (z := nI (i + 1)) (nI_add i 1) ?_
  refine pw_sld (i + 1) hX dL_law_221 (by omega) (rfl) (by omega) ?_
  refine pw_callV (as := [_]) (kc' := 0) (ks' := 0) lL_44 dL_law_222 rfl rfl (sh_lt hG (by decide)) (sh_tg hG 0 rfl) (Nat.le_of_ble_eq_true rfl) (by omega) (Nat.le_of_ble_eq_true rfl) (Nat.zero_le _) (Nat.zero_le _) ?_
  refine c_kind hG hP (by omega) (fun a1 => ?_)
  refine pw_pop dL_law_225 rfl ?_
  refine pw_aload_n dL_law_226 rfl ?_
  refine pw_aload_n dL_law_227 rfl ?_
  refine pw_iload dL_law_228 rfl ?_
  refine pw_iconst (v := nI 1) dL_law_230 (by decide) ?_
  refine pw_iadd dL_law_231 ?_
  refine pw_ti (z := nI (i + 1)) (nI_add i 1) ?_
  refine pw_sld (i + 1) hX dL_law_232 (by omega) (rfl) (by omega) ?_
  refine pw_callV (as := [_]) (kc' := 0) (ks' := 0) lL_47 dL_law_233 rfl rfl (sh_lt hG (by decide)) (sh_tg hG 45 rfl) (Nat.le_of_ble_eq_true rfl) (by omega) (Nat.le_of_ble_eq_true rfl) (Nat.zero_le _) (Nat.zero_le _) ?_
  refine r_kind hG hP (by omega) hq.1.r hr4 (fun a2 => ?_)
  refine pw_pop dL_law_236 rfl ?_
  refine pw_goto (tgt := 655) dL_law_237 (by decide) ?_
  exact pm_Wk (Nat.le_refl _) (by omega) (by omega) (kx _ _ _ _ _ _ _ m _ _ (hs.th _) (hg))
set_option maxRecDepth 20000 in
set_option maxHeartbeats 400000 in
theorem lw_c5 {l : Launch} {E : pmE} {d : Nat} {S : pmS} {I : pmI} {J : pmJ} {P : pmP} {Q : Option Value → pmS → pmI → pmJ → pmP → Prop} {A : aS} {Z : Nat → Nat} {b m n L i kc ks : Nat} {tx : Nat → Nat} {xs : Nat → Int32} (hl : l.stackTraces = false) (hX : pm_X E L xs) (hL : L ≤ 1536) (hd : 200 ≤ d) (hi3 : i + 3 ≤ L) (hs : LI S I J P A Z b m tx n) (hg : gT A) (kx : ∀ S I J P A Z b m tx n, LI S I J P A Z b m tx n → gT A → pm_W l E yL_law cL_law 8 (some .boolean) d (kc + (32000 - m)) (ks + 18 * (32000 - m)) 655 [(4, .int (nI i)), (3, .ref 95), (2, .ref 47), (1, .ref 2), (0, .ref 0)] [] S I J P (pm_N E Q)) : pm_W l E yL_law cL_law 8 (some .boolean) d (kc + (32000 - m) + 8) (ks + 18 * (32000 - m) + 620) 268 [(4, .int (nI i)), (3, .ref 95), (2, .ref 47), (1, .ref 2), (0, .ref 0)] [] S I J P (pm_N E Q) := by
  obtain ⟨hG, hP, hc9, hq⟩ := id hs
  have hc := hc9.2.1
  have hO := hc9.2.2.1
  have ht := hc9.2.2.2.1
  have hsl := hO.2.2.2.2.2.2.2.2.2.2.1
  have hrl := hO.2.2.2.2.2.2.2.2.2.2.2.1
  have hr4 : A.rs.length ≤ 40 := by omega
  refine pw_aload_n dL_law_268 rfl ?_
  refine pw_aload_n dL_law_269 rfl ?_
  refine pw_iload dL_law_270 rfl ?_
  refine pw_iconst (v := nI 1) dL_law_272 (by decide) ?_
  refine pw_iadd dL_law_273 ?_
  refine pw_ti (z := nI (i + 1)) (nI_add i 1) ?_
  refine pw_sld (i + 1) hX dL_law_274 (by omega) (rfl) (by omega) ?_
  refine pw_aload_n dL_law_275 rfl ?_
  refine pw_iload dL_law_276 rfl ?_
  refine pw_iconst (v := nI 2) dL_law_278 (by decide) ?_
  refine pw_iadd dL_law_279 ?_
  refine pw_ti (z := nI (i + 2)) (nI_add i 2) ?_
  refine pw_sld (i + 2) hX dL_law_280 (by omega) (rfl) (by omega) ?_
  refine pw_callV (as := [_, _]) (kc' := 0) (ks' := 0) lL_54 dL_law_281 rfl rfl (sh_lt hG (by decide)) (sh_tg hG 0 rfl) (Nat.le_of_ble_eq_true rfl) (by omega) (Nat.le_of_ble_eq_true rfl) (Nat.zero_le _) (Nat.zero_le _) ?_
  refine c_thing hG hP (by omega) ht hc hO (fun a1 => ?_)
  refine pw_pop dL_law_284 rfl ?_
  refine pw_aload_n dL_law_285 rfl ?_
  refine pw_aload_n dL_law_286 rfl ?_
  refine pw_iload dL_law_287 rfl ?_
  refine pw_iconst (v := nI 1) dL_law_289 (by decide) ?_
  refine pw_iadd dL_law_290 ?_
  refine pw_ti (z := nI (i + 1)) (nI_add i 1) ?_
  refine pw_sld (i + 1) hX dL_law_291 (by omega) (rfl) (by omega) ?_
  refine pw_aload_n dL_law_292 rfl ?_
  refine pw_iload dL_law_293 rfl ?_
  refine pw_iconst (v := nI 2) dL_law_295 (by decide) ?_
  refine pw_iadd dL_law_296 ?_
  refine pw_ti (z := nI (i + 2)) (nI_add i 2) ?_
  refine pw_sld (i + 2) hX dL_law_297 (by omega) (rfl) (by omega) ?_
  refine pw_callV (as := [_, _]) (kc' := 0) (ks' := 0) lL_57 dL_law_298 rfl rfl (sh_lt hG (by decide)) (sh_tg hG 45 rfl) (Nat.le_of_ble_eq_true rfl) (by omega) (Nat.le_of_ble_eq_true rfl) (Nat.zero_le _) (Nat.zero_le _) ?_
  refine r_thing hG hP (by omega) hq.1 hO hq.2.1 (fun a2 => ?_)
  refine pw_pop dL_law_301 rfl ?_
  refine pw_goto (tgt := 655) dL_law_302 (by decide) ?_
  exact pm_Wk (Nat.le_refl _) (by omega) (by omega) (kx _ _ _ _ _ _ _ m _ _ (hs.th _) (hg))
set_option maxRecDepth 20000 in
set_option maxHeartbeats 400000 in
theorem lw_c7 {l : Launch} {E : pmE} {d : Nat} {S : pmS} {I : pmI} {J : pmJ} {P : pmP} {Q : Option Value → pmS → pmI → pmJ → pmP → Prop} {A : aS} {Z : Nat → Nat} {b m n L i kc ks : Nat} {tx : Nat → Nat} {xs : Nat → Int32} (hl : l.stackTraces = false) (hX : pm_X E L xs) (hL : L ≤ 1536) (hd : 200 ≤ d) (hi3 : i + 3 ≤ L) (hs : LI S I J P A Z b m tx n) (hg : gT A) (kx : ∀ S I J P A Z b m tx n, LI S I J P A Z b m tx n → gT A → pm_W l E yL_law cL_law 8 (some .boolean) d (kc + (32000 - m)) (ks + 18 * (32000 - m)) 655 [(4, .int (nI i)), (3, .ref 95), (2, .ref 47), (1, .ref 2), (0, .ref 0)] [] S I J P (pm_N E Q)) : pm_W l E yL_law cL_law 8 (some .boolean) d (kc + (32000 - m) + 8) (ks + 18 * (32000 - m) + 620) 362 [(4, .int (nI i)), (3, .ref 95), (2, .ref 47), (1, .ref 2), (0, .ref 0)] [] S I J P (pm_N E Q) := by
  obtain ⟨hG, hP, hc9, hq⟩ := id hs
  have hc := hc9.2.1
  have hO := hc9.2.2.1
  have ht := hc9.2.2.2.1
  have hsl := hO.2.2.2.2.2.2.2.2.2.2.1
  have hrl := hO.2.2.2.2.2.2.2.2.2.2.2.1
  have hr4 : A.rs.length ≤ 40 := by omega
  refine pw_aload_n dL_law_362 rfl ?_
  refine pw_aload_n dL_law_363 rfl ?_
  refine pw_iload dL_law_364 rfl ?_
  refine pw_iconst (v := nI 1) dL_law_366 (by decide) ?_
  refine pw_iadd dL_law_367 ?_
  refine pw_ti (z := nI (i + 1)) (nI_add i 1) ?_
  refine pw_sld (i + 1) hX dL_law_368 (by omega) (rfl) (by omega) ?_
  refine pw_aload_n dL_law_369 rfl ?_
  refine pw_iload dL_law_370 rfl ?_
  refine pw_iconst (v := nI 2) dL_law_372 (by decide) ?_
  refine pw_iadd dL_law_373 ?_
  refine pw_ti (z := nI (i + 2)) (nI_add i 2) ?_
  refine pw_sld (i + 2) hX dL_law_374 (by omega) (rfl) (by omega) ?_
  refine pw_callV (as := [_, _]) (kc' := 0) (ks' := 0) lL_62 dL_law_375 rfl rfl (sh_lt hG (by decide)) (sh_tg hG 0 rfl) (Nat.le_of_ble_eq_true rfl) (by omega) (Nat.le_of_ble_eq_true rfl) (Nat.zero_le _) (Nat.zero_le _) ?_
  refine c_letter hG hP (by omega) hc.n hO.1.2 (fun a1 => ?_)
  refine pw_pop dL_law_378 rfl ?_
  refine pw_aload_n dL_law_379 rfl ?_
  refine pw_aload_n dL_law_380 rfl ?_
  refine pw_iload dL_law_381 rfl ?_
  refine pw_iconst (v := nI 1) dL_law_383 (by decide) ?_
  refine pw_iadd dL_law_384 ?_
  refine pw_ti (z := nI (i + 1)) (nI_add i 1) ?_
  refine pw_sld (i + 1) hX dL_law_385 (by omega) (rfl) (by omega) ?_
  refine pw_aload_n dL_law_386 rfl ?_
  refine pw_iload dL_law_387 rfl ?_
  refine pw_iconst (v := nI 2) dL_law_389 (by decide) ?_
  refine pw_iadd dL_law_390 ?_
  refine pw_ti (z := nI (i + 2)) (nI_add i 2) ?_
  refine pw_sld (i + 2) hX dL_law_391 (by omega) (rfl) (by omega) ?_
  refine pw_callV (as := [_, _]) (kc' := 0) (ks' := 0) lL_65 dL_law_392 rfl rfl (sh_lt hG (by decide)) (sh_tg hG 45 rfl) (Nat.le_of_ble_eq_true rfl) (by omega) (Nat.le_of_ble_eq_true rfl) (Nat.zero_le _) (Nat.zero_le _) ?_
  refine r_letter hG hP (by omega) hq.1.n hO.1.2 (fun a2 => ?_)
  refine pw_pop dL_law_395 rfl ?_
  refine pw_goto (tgt := 655) dL_law_396 (by decide) ?_
  exact pm_Wk (Nat.le_refl _) (by omega) (by omega) (kx _ _ _ _ _ _ _ m _ _ (hs.th _) (hg))
set_option maxRecDepth 20000 in
set_option maxHeartbeats 400000 in
theorem lw_c8 {l : Launch} {E : pmE} {d : Nat} {S : pmS} {I : pmI} {J : pmJ} {P : pmP} {Q : Option Value → pmS → pmI → pmJ → pmP → Prop} {A : aS} {Z : Nat → Nat} {b m n L i kc ks : Nat} {tx : Nat → Nat} {xs : Nat → Int32} (hl : l.stackTraces = false) (hX : pm_X E L xs) (hL : L ≤ 1536) (hd : 200 ≤ d) (hi3 : i + 3 ≤ L) (hs : LI S I J P A Z b m tx n) (hg : gT A) (kx : ∀ S I J P A Z b m tx n, LI S I J P A Z b m tx n → gT A → pm_W l E yL_law cL_law 8 (some .boolean) d (kc + (32000 - m)) (ks + 18 * (32000 - m)) 655 [(4, .int (nI i)), (3, .ref 95), (2, .ref 47), (1, .ref 2), (0, .ref 0)] [] S I J P (pm_N E Q)) : pm_W l E yL_law cL_law 8 (some .boolean) d (kc + (32000 - m) + 8) (ks + 18 * (32000 - m) + 620) 399 [(4, .int (nI i)), (3, .ref 95), (2, .ref 47), (1, .ref 2), (0, .ref 0)] [] S I J P (pm_N E Q) := by
  obtain ⟨hG, hP, hc9, hq⟩ := id hs
  have hc := hc9.2.1
  have hO := hc9.2.2.1
  have ht := hc9.2.2.2.1
  have hsl := hO.2.2.2.2.2.2.2.2.2.2.1
  have hrl := hO.2.2.2.2.2.2.2.2.2.2.2.1
  have hr4 : A.rs.length ≤ 40 := by omega
  refine pw_aload_n dL_law_399 rfl ?_
  refine pw_aload_n dL_law_400 rfl ?_
  refine pw_iload dL_law_401 rfl ?_
  refine pw_iconst (v := nI 1) dL_law_403 (by decide) ?_
  refine pw_iadd dL_law_404 ?_
  refine pw_ti (z := nI (i + 1)) (nI_add i 1) ?_
  refine pw_sld (i + 1) hX dL_law_405 (by omega) (rfl) (by omega) ?_
  refine pw_callV (as := [_]) (kc' := 0) (ks' := 0) lL_66 dL_law_406 rfl rfl (sh_lt hG (by decide)) (sh_tg hG 0 rfl) (Nat.le_of_ble_eq_true rfl) (by omega) (Nat.le_of_ble_eq_true rfl) (Nat.zero_le _) (Nat.zero_le _) ?_
  refine c_what hG hP (by omega) hc.n hO.1.2 (fun a1 => ?_)
  refine pw_pop dL_law_409 rfl ?_
  refine pw_aload_n dL_law_410 rfl ?_
  refine pw_aload_n dL_law_411 rfl ?_
  refine pw_iload dL_law_412 rfl ?_
  refine pw_iconst (v := nI 1) dL_law_414 (by decide) ?_
  refine pw_iadd dL_law_415 ?_
  refine pw_ti (z := nI (i + 1)) (nI_add i 1) ?_
  refine pw_sld (i + 1) hX dL_law_416 (by omega) (rfl) (by omega) ?_
  refine pw_callV (as := [_]) (kc' := 0) (ks' := 0) lL_69 dL_law_417 rfl rfl (sh_lt hG (by decide)) (sh_tg hG 45 rfl) (Nat.le_of_ble_eq_true rfl) (by omega) (Nat.le_of_ble_eq_true rfl) (Nat.zero_le _) (Nat.zero_le _) ?_
  refine r_what hG hP (by omega) hq.1.n hO.1.2 (fun a2 => ?_)
  refine pw_pop dL_law_420 rfl ?_
  refine pw_goto (tgt := 655) dL_law_421 (by decide) ?_
  exact pm_Wk (Nat.le_refl _) (by omega) (by omega) (kx _ _ _ _ _ _ _ m _ _ (hs.th _) (hg))
set_option maxRecDepth 20000 in
set_option maxHeartbeats 400000 in
theorem lw_c9 {l : Launch} {E : pmE} {d : Nat} {S : pmS} {I : pmI} {J : pmJ} {P : pmP} {Q : Option Value → pmS → pmI → pmJ → pmP → Prop} {A : aS} {Z : Nat → Nat} {b m n L i kc ks : Nat} {tx : Nat → Nat} {xs : Nat → Int32} (hl : l.stackTraces = false) (hX : pm_X E L xs) (hL : L ≤ 1536) (hd : 200 ≤ d) (hi3 : i + 3 ≤ L) (hs : LI S I J P A Z b m tx n) (hg : gT A) (kx : ∀ S I J P A Z b m tx n, LI S I J P A Z b m tx n → gT A → pm_W l E yL_law cL_law 8 (some .boolean) d (kc + (32000 - m)) (ks + 18 * (32000 - m)) 655 [(4, .int (nI i)), (3, .ref 95), (2, .ref 47), (1, .ref 2), (0, .ref 0)] [] S I J P (pm_N E Q)) : pm_W l E yL_law cL_law 8 (some .boolean) d (kc + (32000 - m) + 8) (ks + 18 * (32000 - m) + 620) 424 [(4, .int (nI i)), (3, .ref 95), (2, .ref 47), (1, .ref 2), (0, .ref 0)] [] S I J P (pm_N E Q) := by
  obtain ⟨hG, hP, hc9, hq⟩ := id hs
  have hc := hc9.2.1
  have hO := hc9.2.2.1
  have ht := hc9.2.2.2.1
  have hsl := hO.2.2.2.2.2.2.2.2.2.2.1
  have hrl := hO.2.2.2.2.2.2.2.2.2.2.2.1
  have hr4 : A.rs.length ≤ 40 := by omega
  refine pw_aload_n dL_law_424 rfl ?_
  refine pw_aload_n dL_law_425 rfl ?_
  refine pw_iload dL_law_426 rfl ?_
  refine pw_iconst (v := nI 1) dL_law_428 (by decide) ?_
  refine pw_iadd dL_law_429 ?_
  refine pw_ti (z := nI (i + 1)) (nI_add i 1) ?_
  refine pw_sld (i + 1) hX dL_law_430 (by omega) (rfl) (by omega) ?_
  refine pw_callV (as := [_]) (kc' := 0) (ks' := 0) lL_70 dL_law_431 rfl rfl (sh_lt hG (by decide)) (sh_tg hG 0 rfl) (Nat.le_of_ble_eq_true rfl) (by omega) (Nat.le_of_ble_eq_true rfl) (Nat.zero_le _) (Nat.zero_le _) ?_
  refine c_by hG hP (by omega) hc.n hO.1.2 (fun a1 => ?_)
  refine pw_pop dL_law_434 rfl ?_
  refine pw_aload_n dL_law_435 rfl ?_
  refine pw_aload_n dL_law_436 rfl ?_
  refine pw_iload dL_law_437 rfl ?_
  refine pw_iconst (v := nI 1) dL_law_439 (by decide) ?_
  refine pw_iadd dL_law_440 ?_
  refine pw_ti (z := nI (i + 1)) (nI_add i 1) ?_
  refine pw_sld (i + 1) hX dL_law_441 (by omega) (rfl) (by omega) ?_
  refine pw_callV (as := [_]) (kc' := 0) (ks' := 0) lL_73 dL_law_442 rfl rfl (sh_lt hG (by decide)) (sh_tg hG 45 rfl) (Nat.le_of_ble_eq_true rfl) (by omega) (Nat.le_of_ble_eq_true rfl) (Nat.zero_le _) (Nat.zero_le _) ?_
  refine r_by hG hP (by omega) hq.1.n hO.1.2 (fun a2 => ?_)
  refine pw_pop dL_law_445 rfl ?_
  refine pw_goto (tgt := 655) dL_law_446 (by decide) ?_
  exact pm_Wk (Nat.le_refl _) (by omega) (by omega) (kx _ _ _ _ _ _ _ m _ _ (hs.th _) (hg))
set_option maxRecDepth 20000 in
set_option maxHeartbeats 400000 in
theorem lw_c10 {l : Launch} {E : pmE} {d : Nat} {S : pmS} {I : pmI} {J : pmJ} {P : pmP} {Q : Option Value → pmS → pmI → pmJ → pmP → Prop} {A : aS} {Z : Nat → Nat} {b m n L i kc ks : Nat} {tx : Nat → Nat} {xs : Nat → Int32} (hl : l.stackTraces = false) (hX : pm_X E L xs) (hL : L ≤ 1536) (hd : 200 ≤ d) (hi3 : i + 3 ≤ L) (hs : LI S I J P A Z b m tx n) (hg : gT A) (kx : ∀ S I J P A Z b m tx n, LI S I J P A Z b m tx n → gT A → pm_W l E yL_law cL_law 8 (some .boolean) d (kc + (32000 - m)) (ks + 18 * (32000 - m)) 655 [(4, .int (nI i)), (3, .ref 95), (2, .ref 47), (1, .ref 2), (0, .ref 0)] [] S I J P (pm_N E Q)) : pm_W l E yL_law cL_law 8 (some .boolean) d (kc + (32000 - m) + 8) (ks + 18 * (32000 - m) + 620) 449 [(4, .int (nI i)), (3, .ref 95), (2, .ref 47), (1, .ref 2), (0, .ref 0)] [] S I J P (pm_N E Q) := by
  obtain ⟨hG, hP, hc9, hq⟩ := id hs
  have hc := hc9.2.1
  have hO := hc9.2.2.1
  have ht := hc9.2.2.2.1
  have hsl := hO.2.2.2.2.2.2.2.2.2.2.1
  have hrl := hO.2.2.2.2.2.2.2.2.2.2.2.1
  have hr4 : A.rs.length ≤ 40 := by omega
  refine pw_aload_n dL_law_449 rfl ?_
  refine pw_aload_n dL_law_450 rfl ?_
  refine pw_iload dL_law_451 rfl ?_
  refine pw_iconst (v := nI 1) dL_law_453 (by decide) ?_
  refine pw_iadd dL_law_454 ?_
  refine pw_ti (z := nI (i + 1)) (nI_add i 1) ?_
  refine pw_sld (i + 1) hX dL_law_455 (by omega) (rfl) (by omega) ?_
  refine pw_callV (as := [_]) (kc' := 0) (ks' := 0) lL_74 dL_law_456 rfl rfl (sh_lt hG (by decide)) (sh_tg hG 0 rfl) (Nat.le_of_ble_eq_true rfl) (by omega) (Nat.le_of_ble_eq_true rfl) (Nat.zero_le _) (Nat.zero_le _) ?_
  refine c_edition hG hP (by omega) hc.n hO.1.2 (fun a1 => ?_)
  refine pw_pop dL_law_459 rfl ?_
  refine pw_aload_n dL_law_460 rfl ?_
  refine pw_aload_n dL_law_461 rfl ?_
  refine pw_iload dL_law_462 rfl ?_
  refine pw_iconst (v := nI 1) dL_law_464 (by decide) ?_
  refine pw_iadd dL_law_465 ?_
  refine pw_ti (z := nI (i + 1)) (nI_add i 1) ?_
  refine pw_sld (i + 1) hX dL_law_466 (by omega) (rfl) (by omega) ?_
  refine pw_callV (as := [_]) (kc' := 0) (ks' := 0) lL_77 dL_law_467 rfl rfl (sh_lt hG (by decide)) (sh_tg hG 45 rfl) (Nat.le_of_ble_eq_true rfl) (by omega) (Nat.le_of_ble_eq_true rfl) (Nat.zero_le _) (Nat.zero_le _) ?_
  refine r_edition hG hP (by omega) hq.1.n hO.1.2 (fun a2 => ?_)
  refine pw_pop dL_law_470 rfl ?_
  refine pw_goto (tgt := 655) dL_law_471 (by decide) ?_
  exact pm_Wk (Nat.le_refl _) (by omega) (by omega) (kx _ _ _ _ _ _ _ m _ _ (hs.th _) (hg))
set_option maxRecDepth 20000 in
set_option maxHeartbeats 400000 in
theorem lw_c11 {l : Launch} {E : pmE} {d : Nat} {S : pmS} {I : pmI} {J : pmJ} {P : pmP} {Q : Option Value → pmS → pmI → pmJ → pmP → Prop} {A : aS} {Z : Nat → Nat} {b m n L i kc ks : Nat} {tx : Nat → Nat} {xs : Nat → Int32} (hl : l.stackTraces = false) (hX : pm_X E L xs) (hL : L ≤ 1536) (hd : 200 ≤ d) (hi3 : i + 3 ≤ L) (hs : LI S I J P A Z b m tx n) (hg : gT A) (kx : ∀ S I J P A Z b m tx n, LI S I J P A Z b m tx n → gT A → pm_W l E yL_law cL_law 8 (some .boolean) d (kc + (32000 - m)) (ks + 18 * (32000 - m)) 655 [(4, .int (nI i)), (3, .ref 95), (2, .ref 47), (1, .ref 2), (0, .ref 0)] [] S I J P (pm_N E Q)) : pm_W l E yL_law cL_law 8 (some .boolean) d (kc + (32000 - m) + 8) (ks + 18 * (32000 - m) + 620) 474 [(4, .int (nI i)), (3, .ref 95), (2, .ref 47), (1, .ref 2), (0, .ref 0)] [] S I J P (pm_N E Q) := by
  obtain ⟨hG, hP, hc9, hq⟩ := id hs
  have hc := hc9.2.1
  have hO := hc9.2.2.1
  have ht := hc9.2.2.2.1
  have hsl := hO.2.2.2.2.2.2.2.2.2.2.1
  have hrl := hO.2.2.2.2.2.2.2.2.2.2.2.1
  have hr4 : A.rs.length ≤ 40 := by omega
  refine pw_aload_n dL_law_474 rfl ?_
  refine pw_aload_n dL_law_475 rfl ?_
  refine pw_iload dL_law_476 rfl ?_
  refine pw_iconst (v := nI 1) dL_law_478 (by decide) ?_
  refine pw_iadd dL_law_479 ?_
  refine pw_ti (z := nI (i + 1)) (nI_add i 1) ?_
  refine pw_sld (i + 1) hX dL_law_480 (by omega) (rfl) (by omega) ?_
  refine pw_callV (as := [_]) (kc' := 0) (ks' := 0) lL_78 dL_law_481 rfl rfl (sh_lt hG (by decide)) (sh_tg hG 0 rfl) (Nat.le_of_ble_eq_true rfl) (by omega) (Nat.le_of_ble_eq_true rfl) (Nat.zero_le _) (Nat.zero_le _) ?_
  refine c_state hG hP (by omega) hc hO (fun a1 => ?_)
  refine pw_pop dL_law_484 rfl ?_
  refine pw_aload_n dL_law_485 rfl ?_
  refine pw_aload_n dL_law_486 rfl ?_
  refine pw_iload dL_law_487 rfl ?_
  refine pw_iconst (v := nI 1) dL_law_489 (by decide) ?_
  refine pw_iadd dL_law_490 ?_
  refine pw_ti (z := nI (i + 1)) (nI_add i 1) ?_
  refine pw_sld (i + 1) hX dL_law_491 (by omega) (rfl) (by omega) ?_
  refine pw_callV (as := [_]) (kc' := 0) (ks' := 0) lL_81 dL_law_492 rfl rfl (sh_lt hG (by decide)) (sh_tg hG 45 rfl) (Nat.le_of_ble_eq_true rfl) (by omega) (Nat.le_of_ble_eq_true rfl) (Nat.zero_le _) (Nat.zero_le _) ?_
  refine r_state hG hP (by omega) hq.1 hO (fun a2 I2 f2 => ?_)
  refine pw_pop dL_law_495 rfl ?_
  refine pw_goto (tgt := 655) dL_law_496 (by decide) ?_
  exact pm_Wk (Nat.le_refl _) (by omega) (by omega) (kx _ _ _ _ _ _ _ m _ _ (hs.qF f2) (hg))
set_option maxRecDepth 20000 in
set_option maxHeartbeats 400000 in
theorem lw_c13 {l : Launch} {E : pmE} {d : Nat} {S : pmS} {I : pmI} {J : pmJ} {P : pmP} {Q : Option Value → pmS → pmI → pmJ → pmP → Prop} {A : aS} {Z : Nat → Nat} {b m n L i kc ks : Nat} {tx : Nat → Nat} {xs : Nat → Int32} (hl : l.stackTraces = false) (hX : pm_X E L xs) (hL : L ≤ 1536) (hd : 200 ≤ d) (hi3 : i + 3 ≤ L) (hs : LI S I J P A Z b m tx n) (hg : gT A) (kx : ∀ S I J P A Z b m tx n, LI S I J P A Z b m tx n → gT A → pm_W l E yL_law cL_law 8 (some .boolean) d (kc + (32000 - m)) (ks + 18 * (32000 - m)) 655 [(4, .int (nI i)), (3, .ref 95), (2, .ref 47), (1, .ref 2), (0, .ref 0)] [] S I J P (pm_N E Q)) : pm_W l E yL_law cL_law 8 (some .boolean) d (kc + (32000 - m) + 8) (ks + 18 * (32000 - m) + 620) 567 [(4, .int (nI i)), (3, .ref 95), (2, .ref 47), (1, .ref 2), (0, .ref 0)] [] S I J P (pm_N E Q) := by
  obtain ⟨hG, hP, hc9, hq⟩ := id hs
  have hc := hc9.2.1
  have hO := hc9.2.2.1
  have ht := hc9.2.2.2.1
  have hsl := hO.2.2.2.2.2.2.2.2.2.2.1
  have hrl := hO.2.2.2.2.2.2.2.2.2.2.2.1
  have hr4 : A.rs.length ≤ 40 := by omega
  refine pw_aload_n dL_law_567 rfl ?_
  refine pw_aload_n dL_law_568 rfl ?_
  refine pw_iload dL_law_569 rfl ?_
  refine pw_iconst (v := nI 1) dL_law_571 (by decide) ?_
  refine pw_iadd dL_law_572 ?_
  refine pw_ti (z := nI (i + 1)) (nI_add i 1) ?_
  refine pw_sld (i + 1) hX dL_law_573 (by omega) (rfl) (by omega) ?_
  refine pw_aload_n dL_law_574 rfl ?_
  refine pw_iload dL_law_575 rfl ?_
  refine pw_iconst (v := nI 2) dL_law_577 (by decide) ?_
  refine pw_iadd dL_law_578 ?_
  refine pw_ti (z := nI (i + 2)) (nI_add i 2) ?_
  refine pw_sld (i + 2) hX dL_law_579 (by omega) (rfl) (by omega) ?_
  refine pw_callV (as := [_, _]) (kc' := 0) (ks' := 0) lL_88 dL_law_580 rfl rfl (sh_lt hG (by decide)) (sh_tg hG 0 rfl) (Nat.le_of_ble_eq_true rfl) (by omega) (Nat.le_of_ble_eq_true rfl) (Nat.zero_le _) (Nat.zero_le _) ?_
  refine c_user hG hP (by omega) hc hO (fun a1 => ?_)
  refine pw_pop dL_law_583 rfl ?_
  refine pw_aload_n dL_law_584 rfl ?_
  refine pw_aload_n dL_law_585 rfl ?_
  refine pw_iload dL_law_586 rfl ?_
  refine pw_iconst (v := nI 1) dL_law_588 (by decide) ?_
  refine pw_iadd dL_law_589 ?_
  refine pw_ti (z := nI (i + 1)) (nI_add i 1) ?_
  refine pw_sld (i + 1) hX dL_law_590 (by omega) (rfl) (by omega) ?_
  refine pw_aload_n dL_law_591 rfl ?_
  refine pw_iload dL_law_592 rfl ?_
  refine pw_iconst (v := nI 2) dL_law_594 (by decide) ?_
  refine pw_iadd dL_law_595 ?_
  refine pw_ti (z := nI (i + 2)) (nI_add i 2) ?_
  refine pw_sld (i + 2) hX dL_law_596 (by omega) (rfl) (by omega) ?_
  refine pw_callV (as := [_, _]) (kc' := 0) (ks' := 0) lL_91 dL_law_597 rfl rfl (sh_lt hG (by decide)) (sh_tg hG 45 rfl) (Nat.le_of_ble_eq_true rfl) (by omega) (Nat.le_of_ble_eq_true rfl) (Nat.zero_le _) (Nat.zero_le _) ?_
  refine r_user hG hP (by omega) hq.1 hO (fun a2 I2 f2 => ?_)
  refine pw_pop dL_law_600 rfl ?_
  refine pw_goto (tgt := 655) dL_law_601 (by decide) ?_
  exact pm_Wk (Nat.le_refl _) (by omega) (by omega) (kx _ _ _ _ _ _ _ m _ _ (hs.qF f2) (hg))
set_option maxRecDepth 20000 in
set_option maxHeartbeats 400000 in
theorem lw_c14 {l : Launch} {E : pmE} {d : Nat} {S : pmS} {I : pmI} {J : pmJ} {P : pmP} {Q : Option Value → pmS → pmI → pmJ → pmP → Prop} {A : aS} {Z : Nat → Nat} {b m n L i kc ks : Nat} {tx : Nat → Nat} {xs : Nat → Int32} (hl : l.stackTraces = false) (hX : pm_X E L xs) (hL : L ≤ 1536) (hd : 200 ≤ d) (hi3 : i + 3 ≤ L) (hs : LI S I J P A Z b m tx n) (hg : gT A) (kx : ∀ S I J P A Z b m tx n, LI S I J P A Z b m tx n → gT A → pm_W l E yL_law cL_law 8 (some .boolean) d (kc + (32000 - m)) (ks + 18 * (32000 - m)) 655 [(4, .int (nI i)), (3, .ref 95), (2, .ref 47), (1, .ref 2), (0, .ref 0)] [] S I J P (pm_N E Q)) : pm_W l E yL_law cL_law 8 (some .boolean) d (kc + (32000 - m) + 8) (ks + 18 * (32000 - m) + 620) 604 [(4, .int (nI i)), (3, .ref 95), (2, .ref 47), (1, .ref 2), (0, .ref 0)] [] S I J P (pm_N E Q) := by
  obtain ⟨hG, hP, hc9, hq⟩ := id hs
  have hc := hc9.2.1
  have hO := hc9.2.2.1
  have ht := hc9.2.2.2.1
  have hsl := hO.2.2.2.2.2.2.2.2.2.2.1
  have hrl := hO.2.2.2.2.2.2.2.2.2.2.2.1
  have hr4 : A.rs.length ≤ 40 := by omega
  refine pw_aload_n dL_law_604 rfl ?_
  refine pw_aload_n dL_law_605 rfl ?_
  refine pw_iload dL_law_606 rfl ?_
  refine pw_iconst (v := nI 1) dL_law_608 (by decide) ?_
  refine pw_iadd dL_law_609 ?_
  refine pw_ti (z := nI (i + 1)) (nI_add i 1) ?_
  refine pw_sld (i + 1) hX dL_law_610 (by omega) (rfl) (by omega) ?_
  refine pw_callV (as := [_]) (kc' := 0) (ks' := 0) lL_92 dL_law_611 rfl rfl (sh_lt hG (by decide)) (sh_tg hG 0 rfl) (Nat.le_of_ble_eq_true rfl) (by omega) (Nat.le_of_ble_eq_true rfl) (Nat.zero_le _) (Nat.zero_le _) ?_
  refine c_count hG hP (by omega) hc hO ht (fun a1 => ?_)
  refine pw_pop dL_law_614 rfl ?_
  refine pw_aload_n dL_law_615 rfl ?_
  refine pw_aload_n dL_law_616 rfl ?_
  refine pw_iload dL_law_617 rfl ?_
  refine pw_iconst (v := nI 1) dL_law_619 (by decide) ?_
  refine pw_iadd dL_law_620 ?_
  refine pw_ti (z := nI (i + 1)) (nI_add i 1) ?_
  refine pw_sld (i + 1) hX dL_law_621 (by omega) (rfl) (by omega) ?_
  refine pw_callV (as := [_]) (kc' := 0) (ks' := 0) lL_95 dL_law_622 rfl rfl (sh_lt hG (by decide)) (sh_tg hG 45 rfl) (Nat.le_of_ble_eq_true rfl) (by omega) (Nat.le_of_ble_eq_true rfl) (Nat.zero_le _) (Nat.zero_le _) ?_
  refine r_count hG hP (by omega) hq.1 hO hq.2.1 (fun a2 I2 f2 => ?_)
  refine pw_pop dL_law_625 rfl ?_
  refine pw_goto (tgt := 655) dL_law_626 (by decide) ?_
  exact pm_Wk (Nat.le_refl _) (by omega) (by omega) (kx _ _ _ _ _ _ _ m _ _ (hs.qF f2) (hg))
set_option maxRecDepth 20000 in
set_option maxHeartbeats 400000 in
theorem lw_c15 {l : Launch} {E : pmE} {d : Nat} {S : pmS} {I : pmI} {J : pmJ} {P : pmP} {Q : Option Value → pmS → pmI → pmJ → pmP → Prop} {A : aS} {Z : Nat → Nat} {b m n L i kc ks : Nat} {tx : Nat → Nat} {xs : Nat → Int32} (hl : l.stackTraces = false) (hX : pm_X E L xs) (hL : L ≤ 1536) (hd : 200 ≤ d) (hi3 : i + 3 ≤ L) (hs : LI S I J P A Z b m tx n) (hg : gT A) (kx : ∀ S I J P A Z b m tx n, LI S I J P A Z b m tx n → gT A → pm_W l E yL_law cL_law 8 (some .boolean) d (kc + (32000 - m)) (ks + 18 * (32000 - m)) 655 [(4, .int (nI i)), (3, .ref 95), (2, .ref 47), (1, .ref 2), (0, .ref 0)] [] S I J P (pm_N E Q)) : pm_W l E yL_law cL_law 8 (some .boolean) d (kc + (32000 - m) + 8) (ks + 18 * (32000 - m) + 620) 629 [(4, .int (nI i)), (3, .ref 95), (2, .ref 47), (1, .ref 2), (0, .ref 0)] [] S I J P (pm_N E Q) := by
  obtain ⟨hG, hP, hc9, hq⟩ := id hs
  have hc := hc9.2.1
  have hO := hc9.2.2.1
  have ht := hc9.2.2.2.1
  have hsl := hO.2.2.2.2.2.2.2.2.2.2.1
  have hrl := hO.2.2.2.2.2.2.2.2.2.2.2.1
  have hr4 : A.rs.length ≤ 40 := by omega
  refine pw_aload_n dL_law_629 rfl ?_
  refine pw_callV (as := []) (kc' := 0) (ks' := 0) lL_96 dL_law_630 rfl rfl (sh_lt hG (by decide)) (sh_tg hG 0 rfl) (Nat.le_of_ble_eq_true rfl) (by omega) (Nat.le_of_ble_eq_true rfl) (Nat.zero_le _) (Nat.zero_le _) ?_
  refine c_erase hG hP (fun a1 => ?_)
  refine pw_pop dL_law_633 rfl ?_
  refine pw_aload_n dL_law_634 rfl ?_
  refine pw_callV (as := []) (kc' := 0) (ks' := 0) lL_99 dL_law_635 rfl rfl (sh_lt hG (by decide)) (sh_tg hG 45 rfl) (Nat.le_of_ble_eq_true rfl) (by omega) (Nat.le_of_ble_eq_true rfl) (Nat.zero_le _) (Nat.zero_le _) ?_
  refine r_erase hG hP (fun a2 => ?_)
  refine pw_pop dL_law_638 rfl ?_
  refine pw_goto (tgt := 655) dL_law_639 (by decide) ?_
  exact pm_Wk (Nat.le_refl _) (by omega) (by omega) (kx _ _ _ _ _ _ _ m _ _ (⟨hG, hP, (hc9.erase (by have := hG.1; omega)).oR (by have := hG.1; omega) ((oR.u (by decide)).trans (oR.u (by decide))), ((hq.e2 (fun a q1 q2 => pm_u_ne (by omega)) (fun _ _ _ => rfl)).u47 (by decide) (by decide) (by decide) (by decide) (by decide)).z⟩) (hg))
set_option maxRecDepth 20000 in
set_option maxHeartbeats 400000 in
theorem lw_c16 {l : Launch} {E : pmE} {d : Nat} {S : pmS} {I : pmI} {J : pmJ} {P : pmP} {Q : Option Value → pmS → pmI → pmJ → pmP → Prop} {A : aS} {Z : Nat → Nat} {b m n L i kc ks : Nat} {tx : Nat → Nat} {xs : Nat → Int32} (hl : l.stackTraces = false) (hX : pm_X E L xs) (hL : L ≤ 1536) (hd : 200 ≤ d) (hi3 : i + 3 ≤ L) (hs : LI S I J P A Z b m tx n) (hg : gT A) (kx : ∀ S I J P A Z b m tx n, LI S I J P A Z b m tx n → gT A → pm_W l E yL_law cL_law 8 (some .boolean) d (kc + (32000 - m)) (ks + 18 * (32000 - m)) 655 [(4, .int (nI i)), (3, .ref 95), (2, .ref 47), (1, .ref 2), (0, .ref 0)] [] S I J P (pm_N E Q)) : pm_W l E yL_law cL_law 8 (some .boolean) d (kc + (32000 - m) + 8) (ks + 18 * (32000 - m) + 620) 642 [(4, .int (nI i)), (3, .ref 95), (2, .ref 47), (1, .ref 2), (0, .ref 0)] [] S I J P (pm_N E Q) := by
  obtain ⟨hG, hP, hc9, hq⟩ := id hs
  have hc := hc9.2.1
  have hO := hc9.2.2.1
  have ht := hc9.2.2.2.1
  have hsl := hO.2.2.2.2.2.2.2.2.2.2.1
  have hrl := hO.2.2.2.2.2.2.2.2.2.2.2.1
  have hr4 : A.rs.length ≤ 40 := by omega
  refine pw_aload_n dL_law_642 rfl ?_
  refine pw_callV (as := []) (kc' := 0) (ks' := 0) lL_100 dL_law_643 rfl rfl (sh_lt hG (by decide)) (sh_tg hG 0 rfl) (Nat.le_of_ble_eq_true rfl) (by omega) (Nat.le_of_ble_eq_true rfl) (Nat.zero_le _) (Nat.zero_le _) ?_
  refine c_reset hG hP (by omega) hc9 (fun a1 I1 o1 hc1 => ?_)
  refine pw_pop dL_law_646 rfl ?_
  refine pw_aload_n dL_law_647 rfl ?_
  refine pw_callV (as := []) (kc' := 0) (ks' := 0) lL_103 dL_law_648 rfl rfl (sh_lt hG (by decide)) (sh_tg hG 45 rfl) (Nat.le_of_ble_eq_true rfl) (by omega) (Nat.le_of_ble_eq_true rfl) (Nat.zero_le _) (Nat.zero_le _) ?_
  refine r_reset (tx := tx) hG hP (fun a2 I2 o2 hq2 => ?_)
  refine pw_pop dL_law_651 rfl ?_
  refine pw_goto (tgt := 655) dL_law_652 (by decide) ?_
  exact pm_Wk (Nat.le_refl _) (by omega) (by omega) (kx _ _ _ _ _ _ _ m _ _ (⟨hG, hP, hc1.oR (by have := hG.1; omega) o2, hq2⟩) (gT_0))
set_option maxRecDepth 20000 in
set_option maxHeartbeats 400000 in
theorem lw_c6 {l : Launch} {E : pmE} {d : Nat} {S : pmS} {I : pmI} {J : pmJ} {P : pmP} {Q : Option Value → pmS → pmI → pmJ → pmP → Prop} {A : aS} {Z : Nat → Nat} {b m n L i kc ks : Nat} {tx : Nat → Nat} {xs : Nat → Int32} (hl : l.stackTraces = false) (hX : pm_X E L xs) (hL : L ≤ 1536) (hd : 200 ≤ d) (hi3 : i + 3 ≤ L) (hs : LI S I J P A Z b m tx n) (hg : gT A) (kx : ∀ S I J P A Z b m tx n, LI S I J P A Z b m tx n → gT A → pm_W l E yL_law cL_law 8 (some .boolean) d (kc + (32000 - m)) (ks + 18 * (32000 - m)) 655 [(4, .int (nI i)), (3, .ref 95), (2, .ref 47), (1, .ref 2), (0, .ref 0)] [] S I J P (pm_N E Q)) : pm_W l E yL_law cL_law 8 (some .boolean) d (kc + (32000 - m) + 8) (ks + 18 * (32000 - m) + 620) 305 [(4, .int (nI i)), (3, .ref 95), (2, .ref 47), (1, .ref 2), (0, .ref 0)] [] S I J P (pm_N E Q) := by
  obtain ⟨hG, hP, hc9, hq⟩ := id hs
  have hc := hc9.2.1
  have hO := hc9.2.2.1
  have ht := hc9.2.2.2.1
  have hsl := hO.2.2.2.2.2.2.2.2.2.2.1
  have hrl := hO.2.2.2.2.2.2.2.2.2.2.2.1
  have hr4 : A.rs.length ≤ 40 := by omega
  refine pw_aload_n dL_law_305 rfl ?_
  refine pw_aload_n dL_law_306 rfl ?_
  refine pw_iload dL_law_307 rfl ?_
  refine pw_iconst (v := nI 1) dL_law_309 (by decide) ?_
  refine pw_iadd dL_law_310 ?_
  refine pw_ti (z := nI (i + 1)) (nI_add i 1) ?_
  refine pw_sld (i + 1) hX dL_law_311 (by omega) (rfl) (by omega) ?_
  refine pw_i2l dL_law_312 ?_
  refine pw_bipush (v := nI 32) dL_law_313 (by decide) ?_
  refine pw_lshl dL_law_315 ?_
  refine pw_aload_n dL_law_316 rfl ?_
  refine pw_iload dL_law_317 rfl ?_
  refine pw_iconst (v := nI 2) dL_law_319 (by decide) ?_
  refine pw_iadd dL_law_320 ?_
  refine pw_ti (z := nI (i + 2)) (nI_add i 2) ?_
  refine pw_sld (i + 2) hX dL_law_321 (by omega) (rfl) (by omega) ?_
  refine pw_i2l dL_law_322 ?_
  refine pw_ldc2 dL_law_323 kL_27 ?_
  refine pw_land dL_law_326 ?_
  refine pw_lor dL_law_327 ?_
  refine pw_callV (as := [_]) (kc' := 0) (ks' := 0) lL_58 dL_law_328 rfl rfl (sh_lt hG (by decide)) (sh_tg hG 0 rfl) (Nat.le_of_ble_eq_true rfl) (by omega) (Nat.le_of_ble_eq_true rfl) (Nat.zero_le _) (Nat.zero_le _) ?_
  refine c_name hG hP (by omega) hc.n hO.1.2 (fun j v hj => (hc.2.1 j v hj).1) hO.1.1 (fun a1 => ?_)
  refine pw_pop dL_law_331 rfl ?_
  refine pw_aload_n dL_law_332 rfl ?_
  refine pw_aload_n dL_law_333 rfl ?_
  refine pw_iload dL_law_334 rfl ?_
  refine pw_iconst (v := nI 1) dL_law_336 (by decide) ?_
  refine pw_iadd dL_law_337 ?_
  refine pw_ti (z := nI (i + 1)) (nI_add i 1) ?_
  refine pw_sld (i + 1) hX dL_law_338 (by omega) (rfl) (by omega) ?_
  refine pw_i2l dL_law_339 ?_
  refine pw_bipush (v := nI 32) dL_law_340 (by decide) ?_
  refine pw_lshl dL_law_342 ?_
  refine pw_aload_n dL_law_343 rfl ?_
  refine pw_iload dL_law_344 rfl ?_
  refine pw_iconst (v := nI 2) dL_law_346 (by decide) ?_
  refine pw_iadd dL_law_347 ?_
  refine pw_ti (z := nI (i + 2)) (nI_add i 2) ?_
  refine pw_sld (i + 2) hX dL_law_348 (by omega) (rfl) (by omega) ?_
  refine pw_i2l dL_law_349 ?_
  refine pw_ldc2 dL_law_350 kL_27 ?_
  refine pw_land dL_law_353 ?_
  refine pw_lor dL_law_354 ?_
  refine pw_callV (as := [_]) (kc' := 0) (ks' := 0) lL_61 dL_law_355 rfl rfl (sh_lt hG (by decide)) (sh_tg hG 45 rfl) (Nat.le_of_ble_eq_true rfl) (by omega) (Nat.le_of_ble_eq_true rfl) (Nat.zero_le _) (Nat.zero_le _) ?_
  refine c_X10_name hG hP (by omega) hq.1.n hO.1.2 (fun j q1 q2 q3 q4 => ?_) (fun q => ?_)
  · refine pw_pop dL_law_358 rfl ?_
    refine pw_goto (tgt := 655) dL_law_359 (by decide) ?_
    exact pm_Wk (Nat.le_refl _) (by omega) (by omega) (kx _ _ _ _ _ _ _ m _ _ (hs.th _) (hg))
  · refine pw_pop dL_law_358 rfl ?_
    refine pw_goto (tgt := 655) dL_law_359 (by decide) ?_
    exact pm_Wk (Nat.le_refl _) (by omega) (by omega) (kx _ _ _ _ _ _ _ m _ _ (hs.th _) (hg))
set_option maxRecDepth 20000 in
set_option maxHeartbeats 400000 in
theorem lw_c0 {l : Launch} {E : pmE} {d : Nat} {S : pmS} {I : pmI} {J : pmJ} {P : pmP} {Q : Option Value → pmS → pmI → pmJ → pmP → Prop} {A : aS} {Z : Nat → Nat} {b m n L i kc ks : Nat} {tx : Nat → Nat} {xs : Nat → Int32} (hl : l.stackTraces = false) (hX : pm_X E L xs) (hL : L ≤ 1536) (hd : 200 ≤ d) (hi3 : i + 3 ≤ L) (hs : LI S I J P A Z b m tx n) (hg : gT A) (kx : ∀ S I J P A Z b m tx n, LI S I J P A Z b m tx n → gT A → pm_W l E yL_law cL_law 8 (some .boolean) d (kc + (32000 - m)) (ks + 18 * (32000 - m)) 655 [(4, .int (nI i)), (3, .ref 95), (2, .ref 47), (1, .ref 2), (0, .ref 0)] [] S I J P (pm_N E Q)) : pm_W l E yL_law cL_law 8 (some .boolean) d (kc + (32000 - m) + 8) (ks + 18 * (32000 - m) + 620) 120 [(4, .int (nI i)), (3, .ref 95), (2, .ref 47), (1, .ref 2), (0, .ref 0)] [] S I J P (pm_N E Q) := by
  obtain ⟨hG, hP, hc9, hq⟩ := id hs
  have hc := hc9.2.1
  have hO := hc9.2.2.1
  have ht := hc9.2.2.2.1
  have hsl := hO.2.2.2.2.2.2.2.2.2.2.1
  have hrl := hO.2.2.2.2.2.2.2.2.2.2.2.1
  have hr4 : A.rs.length ≤ 40 := by omega
  have hn := hc9.2.2.2.2.2.2.1
  have h8 := hc9.2.2.2.2.2.2.2
  have h95 : 95 ≤ S.1 := by have := hG.1; omega
  refine pw_aload_n dL_law_120 rfl ?_
  refine pw_aload_n dL_law_121 rfl ?_
  refine pw_iload dL_law_122 rfl ?_
  refine pw_iconst (v := nI 1) dL_law_124 (by decide) ?_
  refine pw_iadd dL_law_125 ?_
  refine pw_ti (z := nI (i + 1)) (nI_add i 1) ?_
  refine pw_sld (i + 1) hX dL_law_126 (by omega) (rfl) (by omega) ?_
  refine pw_i2l dL_law_127 ?_
  refine pw_bipush (v := nI 32) dL_law_128 (by decide) ?_
  refine pw_lshl dL_law_130 ?_
  refine pw_aload_n dL_law_131 rfl ?_
  refine pw_iload dL_law_132 rfl ?_
  refine pw_iconst (v := nI 2) dL_law_134 (by decide) ?_
  refine pw_iadd dL_law_135 ?_
  refine pw_ti (z := nI (i + 2)) (nI_add i 2) ?_
  refine pw_sld (i + 2) hX dL_law_136 (by omega) (rfl) (by omega) ?_
  refine pw_i2l dL_law_137 ?_
  refine pw_ldc2 dL_law_138 kL_27 ?_
  refine pw_land dL_law_141 ?_
  refine pw_lor dL_law_142 ?_
  refine pw_callV (as := [_]) (kc' := 0) (ks' := 0) lL_29 dL_law_143 rfl rfl (sh_lt hG (by decide)) (sh_tg hG 0 rfl) (Nat.le_of_ble_eq_true rfl) (by omega) (Nat.le_of_ble_eq_true rfl) (Nat.zero_le _) (Nat.zero_le _) ?_
  refine c_X9_signs (n := n) hG hP (by omega) hc9.2.2.2.2.2.1 hn (fun h0 => ?_) (fun g1 g2 I1 e3 e2 e => ?_)
  · refine pw_pop dL_law_146 rfl ?_
    refine pw_aload_n dL_law_147 rfl ?_
    refine pw_aload_n dL_law_148 rfl ?_
    refine pw_iload dL_law_149 rfl ?_
    refine pw_iconst (v := nI 1) dL_law_151 (by decide) ?_
    refine pw_iadd dL_law_152 ?_
    refine pw_ti (z := nI (i + 1)) (nI_add i 1) ?_
    refine pw_sld (i + 1) hX dL_law_153 (by omega) (rfl) (by omega) ?_
    refine pw_i2l dL_law_154 ?_
    refine pw_bipush (v := nI 32) dL_law_155 (by decide) ?_
    refine pw_lshl dL_law_157 ?_
    refine pw_aload_n dL_law_158 rfl ?_
    refine pw_iload dL_law_159 rfl ?_
    refine pw_iconst (v := nI 2) dL_law_161 (by decide) ?_
    refine pw_iadd dL_law_162 ?_
    refine pw_ti (z := nI (i + 2)) (nI_add i 2) ?_
    refine pw_sld (i + 2) hX dL_law_163 (by omega) (rfl) (by omega) ?_
    refine pw_i2l dL_law_164 ?_
    refine pw_ldc2 dL_law_165 kL_27 ?_
    refine pw_land dL_law_168 ?_
    refine pw_lor dL_law_169 ?_
    refine pw_callV (as := [_]) (kc' := 0) (ks' := 0) lL_33 dL_law_170 rfl rfl (sh_lt hG (by decide)) (sh_tg hG 45 rfl) (Nat.le_of_ble_eq_true rfl) (by omega) (Nat.le_of_ble_eq_true rfl) (Nat.zero_le _) (Nat.zero_le _) ?_
    refine c_X10_signs (n := n) hG hP (by omega) hq.2.2.2 hn (fun _ => ?_) (fun g1 g2 I2 f48 f2 f f47 => absurd ⟨g1, g2⟩ h0)
    refine pw_pop dL_law_173 rfl ?_
    refine pw_goto (tgt := 655) dL_law_174 (by decide) ?_
    exact pm_Wk (Nat.le_refl _) (by omega) (by omega) (kx _ _ _ _ _ _ _ m _ _ (hs.th _) (hg))
  · have hc1 := hc9.signs h95 g1 g2 e3 e2 e
    have hq1 : qI I1 J A tx n := hq.e2 (fun a q1 q2 => e a (by omega) (by omega)) (fun _ _ _ => rfl)
    refine pw_pop dL_law_146 rfl ?_
    refine pw_aload_n dL_law_147 rfl ?_
    refine pw_aload_n dL_law_148 rfl ?_
    refine pw_iload dL_law_149 rfl ?_
    refine pw_iconst (v := nI 1) dL_law_151 (by decide) ?_
    refine pw_iadd dL_law_152 ?_
    refine pw_ti (z := nI (i + 1)) (nI_add i 1) ?_
    refine pw_sld (i + 1) hX dL_law_153 (by omega) (rfl) (by omega) ?_
    refine pw_i2l dL_law_154 ?_
    refine pw_bipush (v := nI 32) dL_law_155 (by decide) ?_
    refine pw_lshl dL_law_157 ?_
    refine pw_aload_n dL_law_158 rfl ?_
    refine pw_iload dL_law_159 rfl ?_
    refine pw_iconst (v := nI 2) dL_law_161 (by decide) ?_
    refine pw_iadd dL_law_162 ?_
    refine pw_ti (z := nI (i + 2)) (nI_add i 2) ?_
    refine pw_sld (i + 2) hX dL_law_163 (by omega) (rfl) (by omega) ?_
    refine pw_i2l dL_law_164 ?_
    refine pw_ldc2 dL_law_165 kL_27 ?_
    refine pw_land dL_law_168 ?_
    refine pw_lor dL_law_169 ?_
    refine pw_callV (as := [_]) (kc' := 0) (ks' := 0) lL_33 dL_law_170 rfl rfl (sh_lt hG (by decide)) (sh_tg hG 45 rfl) (Nat.le_of_ble_eq_true rfl) (by omega) (Nat.le_of_ble_eq_true rfl) (Nat.zero_le _) (Nat.zero_le _) ?_
    refine c_X10_signs (n := n) hG hP (by omega) hq1.2.2.2 hn (fun h0 => absurd ⟨g1, g2⟩ h0) (fun _ _ I2 f48 f2 f f47 => ?_)
    refine pw_pop dL_law_173 rfl ?_
    refine pw_goto (tgt := 655) dL_law_174 (by decide) ?_
    exact pm_Wk (Nat.le_refl _) (by omega) (by omega) (kx _ _ _ _ _ _ _ m _ _ (⟨hG, hP, hc1.oR h95 (fun a ha => ⟨f a (by omega) (by omega), rfl⟩), hq1.signs h8 g1 f48 f2 f f47⟩) (hg))
set_option maxRecDepth 20000 in
set_option maxHeartbeats 400000 in
theorem lw_c4 {l : Launch} {E : pmE} {d : Nat} {S : pmS} {I : pmI} {J : pmJ} {P : pmP} {Q : Option Value → pmS → pmI → pmJ → pmP → Prop} {A : aS} {Z : Nat → Nat} {b m n L i kc ks : Nat} {tx : Nat → Nat} {xs : Nat → Int32} (hl : l.stackTraces = false) (hX : pm_X E L xs) (hL : L ≤ 1536) (hd : 200 ≤ d) (hi3 : i + 3 ≤ L) (hs : LI S I J P A Z b m tx n) (hg : gT A) (kx : ∀ S I J P A Z b m tx n, LI S I J P A Z b m tx n → gT A → pm_W l E yL_law cL_law 8 (some .boolean) d (kc + (32000 - m)) (ks + 18 * (32000 - m)) 655 [(4, .int (nI i)), (3, .ref 95), (2, .ref 47), (1, .ref 2), (0, .ref 0)] [] S I J P (pm_N E Q)) : pm_W l E yL_law cL_law 8 (some .boolean) d (kc + (32000 - m) + 8) (ks + 18 * (32000 - m) + 620) 240 [(4, .int (nI i)), (3, .ref 95), (2, .ref 47), (1, .ref 2), (0, .ref 0)] [] S I J P (pm_N E Q) := by
  obtain ⟨hG, hP, hc9, hq⟩ := id hs
  have hc := hc9.2.1
  have hO := hc9.2.2.1
  have ht := hc9.2.2.2.1
  have hsl := hO.2.2.2.2.2.2.2.2.2.2.1
  have hrl := hO.2.2.2.2.2.2.2.2.2.2.2.1
  have hr4 : A.rs.length ≤ 40 := by omega
  refine pw_aload_n dL_law_240 rfl ?_
  refine pw_aload_n dL_law_241 rfl ?_
  refine pw_iload dL_law_242 rfl ?_
  refine pw_iconst (v := nI 1) dL_law_244 (by decide) ?_
  refine pw_iadd dL_law_245 ?_
  refine pw_ti (z := nI (i + 1)) (nI_add i 1) ?_
  refine pw_sld (i + 1) hX dL_law_246 (by omega) (rfl) (by omega) ?_
  refine pw_aload_n dL_law_247 rfl ?_
  refine pw_callSW (as := [_, _, _]) (kc' := 1) (ks' := 8) lL_48 dL_law_248 rfl rfl (Nat.le_of_ble_eq_true rfl) (by omega) (Nat.le_of_ble_eq_true rfl) (by omega) (by omega) ?_
  refine f_L_whole hl hG hP (by omega) (by omega) (by omega) (fun a1 S1 J1 hS1 hJ1 => ?_)
  have hs1 := hs.out hS1 hJ1
  have hq1 := hs1.2.2.2
  have hG := hs1.1
  refine pw_istore (lv' := [(5, _), (4, _), (3, _), (2, _), (1, _), (0, _)]) dL_law_251 (by decide) rfl ?_
  refine pw_aload_n dL_law_253 rfl ?_
  refine pw_aload_n dL_law_254 rfl ?_
  refine pw_iload dL_law_255 rfl ?_
  refine pw_iconst (v := nI 1) dL_law_257 (by decide) ?_
  refine pw_iadd dL_law_258 ?_
  refine pw_ti (z := nI (i + 1)) (nI_add i 1) ?_
  refine pw_sld (i + 1) hX dL_law_259 (by omega) (rfl) (by omega) ?_
  refine pw_callV (as := [_]) (kc' := 0) (ks' := 0) lL_53 dL_law_260 rfl rfl (sh_lt hG (by decide)) (sh_tg hG 45 rfl) (Nat.le_of_ble_eq_true rfl) (by omega) (Nat.le_of_ble_eq_true rfl) (Nat.zero_le _) (Nat.zero_le _) ?_
  refine r_whole hG hP (by omega) hq1.1.r hr4 (fun a2 y2 => ?_)
  refine pw_lstore (lv' := [(6, _), (5, _), (4, _), (3, _), (2, _), (1, _), (0, _)]) dL_law_263 (by decide) rfl ?_
  refine pw_goto (tgt := 655) dL_law_265 (by decide) ?_
  refine pw_sub [2, 3, 4, 5, 6] rfl ?_
  exact pm_Wk (Nat.le_refl _) (by omega) (by omega) (kx _ _ _ _ _ _ _ m _ _ (hs1.th _) (hg))
set_option maxRecDepth 20000 in
set_option maxHeartbeats 400000 in
theorem r_thr0 {l : Launch} {E : pmE} {d : Nat} {S : pmS} {I : pmI} {J : pmJ} {P : pmP} {Q : Option Value → pmS → pmI → pmJ → pmP → Prop} (hG : sh_St S) (hP : gr_St P) {c : Nat} (h : I 47 0 = nI c) (k : Q (some (.int (nI c))) S I J P) : pm_Met l E yX10_thrown cX10_thrown 1 (some .int) d 0 0 [.ref 47] S I J P Q := by
  unfold pm_Met
  refine pm_lvs (lv' := [(0, _)]) rfl ?_
  refine pw_aload_n dX10_thrown_0 rfl ?_
  refine pw_getI fX10_154 dX10_thrown_1 (sh_lt hG (by decide)) (sh_tg hG 45 rfl) rfl ?_
  refine pw_ti (z := nI c) h ?_
  exact pw_iret dX10_thrown_4 rfl (k)

set_option maxRecDepth 20000 in
set_option maxHeartbeats 400000 in
theorem lw_c12 {l : Launch} {E : pmE} {d : Nat} {S : pmS} {I : pmI} {J : pmJ} {P : pmP} {Q : Option Value → pmS → pmI → pmJ → pmP → Prop} {A : aS} {Z : Nat → Nat} {b m n L i kc ks : Nat} {tx : Nat → Nat} {xs : Nat → Int32} (hl : l.stackTraces = false) (hX : pm_X E L xs) (hL : L ≤ 1536) (hd : 200 ≤ d) (hi3 : i + 3 ≤ L) (hs : LI S I J P A Z b m tx n) (hg : gT A) (kx : ∀ S I J P A Z b m tx n, LI S I J P A Z b m tx n → gT A → pm_W l E yL_law cL_law 8 (some .boolean) d (kc + (32000 - m)) (ks + 18 * (32000 - m)) 655 [(4, .int (nI i)), (3, .ref 95), (2, .ref 47), (1, .ref 2), (0, .ref 0)] [] S I J P (pm_N E Q)) : pm_W l E yL_law cL_law 8 (some .boolean) d (kc + (32000 - m) + 8) (ks + 18 * (32000 - m) + 620) 499 [(4, .int (nI i)), (3, .ref 95), (2, .ref 47), (1, .ref 2), (0, .ref 0)] [] S I J P (pm_N E Q) := by
  obtain ⟨hG, hP, hc9, hq⟩ := id hs
  have hc := hc9.2.1
  have hO := hc9.2.2.1
  have ht := hc9.2.2.2.1
  have hsl := hO.2.2.2.2.2.2.2.2.2.2.1
  have hrl := hO.2.2.2.2.2.2.2.2.2.2.2.1
  have hr4 : A.rs.length ≤ 40 := by omega
  have hcb := txX_c A (xs (i + 1)) (xs (i + 2))
  refine pw_aload_n dL_law_499 rfl ?_
  refine pw_aload_n dL_law_500 rfl ?_
  refine pw_iload dL_law_501 rfl ?_
  refine pw_iconst (v := nI 1) dL_law_503 (by decide) ?_
  refine pw_iadd dL_law_504 ?_
  refine pw_ti (z := nI (i + 1)) (nI_add i 1) ?_
  refine pw_sld (i + 1) hX dL_law_505 (by omega) (rfl) (by omega) ?_
  refine pw_aload_n dL_law_506 rfl ?_
  refine pw_iload dL_law_507 rfl ?_
  refine pw_iconst (v := nI 2) dL_law_509 (by decide) ?_
  refine pw_iadd dL_law_510 ?_
  refine pw_ti (z := nI (i + 2)) (nI_add i 2) ?_
  refine pw_sld (i + 2) hX dL_law_511 (by omega) (rfl) (by omega) ?_
  refine pw_aload_n dL_law_512 rfl ?_
  refine pw_callSW (as := [_, _, _, _]) (kc' := 1) (ks' := 8) lL_82 dL_law_513 rfl rfl (Nat.le_of_ble_eq_true rfl) (by omega) (Nat.le_of_ble_eq_true rfl) (by omega) (by omega) ?_
  refine f_L_textE hl hG hP (by omega) (by omega) (by omega) hc hO hg (fun S1 J1 hS1 hJ1 hv1 => ?_)
  have hs1 := hs.out hS1 hJ1
  have hq1 := hs1.2.2.2
  have hG := hs1.1
  refine pw_istore (lv' := [(5, _), (4, _), (3, _), (2, _), (1, _), (0, _)]) dL_law_516 (by decide) rfl ?_
  refine pw_aload_n dL_law_518 rfl ?_
  refine pw_aload_n dL_law_519 rfl ?_
  refine pw_iload dL_law_520 rfl ?_
  refine pw_iconst (v := nI 1) dL_law_522 (by decide) ?_
  refine pw_iadd dL_law_523 ?_
  refine pw_ti (z := nI (i + 1)) (nI_add i 1) ?_
  refine pw_sld (i + 1) hX dL_law_524 (by omega) (rfl) (by omega) ?_
  refine pw_aload_n dL_law_525 rfl ?_
  refine pw_iload dL_law_526 rfl ?_
  refine pw_iconst (v := nI 2) dL_law_528 (by decide) ?_
  refine pw_iadd dL_law_529 ?_
  refine pw_ti (z := nI (i + 2)) (nI_add i 2) ?_
  refine pw_sld (i + 2) hX dL_law_530 (by omega) (rfl) (by omega) ?_
  refine pw_callV (as := [_, _]) (kc' := 0) (ks' := 0) lL_85 dL_law_531 rfl rfl (sh_lt hG (by decide)) (sh_tg hG 45 rfl) (Nat.le_of_ble_eq_true rfl) (by omega) (Nat.le_of_ble_eq_true rfl) (Nat.zero_le _) (Nat.zero_le _) ?_
  refine r_textE hG hP (by omega) hq1.1 hO (fun a2 ha2 => ?_)
  refine pw_istore (lv' := [(6, _), (5, _), (4, _), (3, _), (2, _), (1, _), (0, _)]) dL_law_534 (by decide) rfl ?_
  refine pw_aload_n dL_law_536 rfl ?_
  refine pw_callV (as := []) (kc' := 0) (ks' := 0) lL_86 dL_law_537 rfl rfl (sh_lt hG (by decide)) (sh_tg hG 45 rfl) (Nat.le_of_ble_eq_true rfl) (by omega) (Nat.le_of_ble_eq_true rfl) (Nat.zero_le _) (Nat.zero_le _) ?_
  refine r_thr0 (c := (txX A (xs (i + 1)) (xs (i + 2))).1) hG hP (by rw [pm_u_eq, pm_up_eq]) ?_
  refine pw_iload dL_law_540 rfl ?_
  refine pw_icmp_eq (tgt := 547) dL_law_542 (by decide) (fun h542 => ?_) (fun h => absurd (rfl) h)
  refine pw_iload dL_law_547 rfl ?_
  refine pw_if_ne (tgt := 564) dL_law_549 (by decide) (fun h549 => ?_) (fun h549 => ?_)
  · refine pw_goto (tgt := 655) dL_law_564 (by decide) ?_
    refine pw_sub [2, 3, 4, 5, 6] rfl ?_
    exact pm_Wk (Nat.le_refl _) (by omega) (by omega) (kx _ _ _ _ _ _ _ m _ _ (hs1.th _) (hg))
  · have hz : (txX A (xs (i + 1)) (xs (i + 2))).1 = 0 := (nI_eq (by omega) (by decide)).mp h549
    refine pw_aload_n dL_law_552 rfl ?_
    refine pw_iconst (v := nI 0) dL_law_553 (by decide) ?_
    refine pw_laldN 0 dL_law_554 (sh_lt hG (by decide)) (sh_sh hG 93 rfl) (by decide) (by decide) (by decide) ?_
    refine pw_tj (z := (nI (txX A (xs (i + 1)) (xs (i + 2))).2).toInt64) (hv1 hz) ?_
    refine pw_iload dL_law_555 rfl ?_
    refine pw_ti (z := (nI (txX A (xs (i + 1)) (xs (i + 2))).2)) (ha2 hz) ?_
    refine pw_i2l dL_law_557 ?_
    refine pw_lif_eq (tgt := 564) dL_law_558 dL_law_559 (by decide) (fun h559 => ?_) (fun h => absurd (rfl) h)
    refine pw_goto (tgt := 655) dL_law_564 (by decide) ?_
    refine pw_sub [2, 3, 4, 5, 6] rfl ?_
    exact pm_Wk (Nat.le_refl _) (by omega) (by omega) (kx _ _ _ _ _ _ _ m _ _ (hs1.th _) (hg))
set_option maxRecDepth 20000 in
set_option maxHeartbeats 400000 in
theorem lw_c1 {l : Launch} {E : pmE} {d : Nat} {S : pmS} {I : pmI} {J : pmJ} {P : pmP} {Q : Option Value → pmS → pmI → pmJ → pmP → Prop} {A : aS} {Z : Nat → Nat} {b m n L i kc ks : Nat} {tx : Nat → Nat} {xs : Nat → Int32} (hl : l.stackTraces = false) (hX : pm_X E L xs) (hL : L ≤ 1536) (hd : 200 ≤ d) (hi3 : i + 3 ≤ L) (hs : LI S I J P A Z b m tx n) (hg : gT A) (kx : ∀ S I J P A Z b m tx n, LI S I J P A Z b m tx n → gT A → pm_W l E yL_law cL_law 8 (some .boolean) d (kc + (32000 - m)) (ks + 18 * (32000 - m)) 655 [(4, .int (nI i)), (3, .ref 95), (2, .ref 47), (1, .ref 2), (0, .ref 0)] [] S I J P (pm_N E Q)) : pm_W l E yL_law cL_law 8 (some .boolean) d (kc + (32000 - m) + 8) (ks + 18 * (32000 - m) + 620) 177 [(4, .int (nI i)), (3, .ref 95), (2, .ref 47), (1, .ref 2), (0, .ref 0)] [] S I J P (pm_N E Q) := by
  obtain ⟨hG, hP, hc9, hq⟩ := id hs
  have hc := hc9.2.1
  have hO := hc9.2.2.1
  have ht := hc9.2.2.2.1
  have hsl := hO.2.2.2.2.2.2.2.2.2.2.1
  have hrl := hO.2.2.2.2.2.2.2.2.2.2.2.1
  have hr4 : A.rs.length ≤ 40 := by omega
  have hm := ht.m'
  obtain ⟨r, hr⟩ := rd_tx tx n
  obtain ⟨T, hT⟩ := rn_tree (A := A) hr
  have hR1 := rnR_ge (A := A) (tx := tx) (n := n) (r := r) (T := T) (m := m)
  have hR2 := rnR_le (tx := tx) (n := n) (r := r) (T := T) hO hm.2
  refine pw_aload_n dL_law_177 rfl ?_
  refine pw_callV (as := []) (kc' := ((rnR A tx n r T m) - m + 8)) (ks' := (18 * ((rnR A tx n r T m) - m) + 620)) lL_34 dL_law_178 rfl rfl (sh_lt hG (by decide)) (sh_tg hG 0 rfl) (Nat.le_of_ble_eq_true rfl) (by omega) (Nat.le_of_ble_eq_true rfl) (by omega) (by omega) ?_
  refine c_run hG hP (by omega) hc9 hr hT (fun S1 I1 J1 P1 Z1 b1 hG1 hP1 o1 hc1 => ?_)
  have hq1 := hq.oF o1
  have hG := hG1
  have hP := hP1
  refine pw_pop dL_law_181 rfl ?_
  refine pw_aload_n dL_law_182 rfl ?_
  refine pw_callV (as := []) (kc' := 0) (ks' := 0) lL_38 dL_law_183 rfl rfl (sh_lt hG (by decide)) (sh_tg hG 45 rfl) (Nat.le_of_ble_eq_true rfl) (by omega) (Nat.le_of_ble_eq_true rfl) (Nat.zero_le _) (Nat.zero_le _) ?_
  refine r_run hG hP (by omega) hq1 hO hc9.2.2.2.2.2.2.1 hc9.2.2.2.2.2.2.2 hr hT (fun I2 J2 o2 hq2 => ?_)
  refine pw_pop dL_law_186 rfl ?_
  refine pw_goto (tgt := 655) dL_law_187 (by decide) ?_
  exact pm_Wk (Nat.le_refl _) (by omega) (by omega) (kx _ _ _ _ _ _ _ _ _ _ (⟨hG, hP, hc1.oR (by have := hG.1; omega) o2, hq2⟩) (gT_rnF hg hc9.2.2.2.2.2.2.2))
