theorem pm_Wk {l : Launch} {E : pmE} {y : MethodName} {cc : ByteArray} {nL : Nat} {ret : Option FieldType} {d kc ks d' kc' ks' pc : Nat} {lv : List (Nat × Value)} {st : List Value} {S : pmS} {I : pmI} {J : pmJ} {P : pmP} {Q : pm_Z} (h1 : d ≤ d') (h2 : kc ≤ kc') (h3 : ks ≤ ks') (k : pm_W l E y cc nL ret d kc ks pc lv st S I J P Q) : pm_W l E y cc nL ret d' kc' ks' pc lv st S I J P Q := by
  intro p e R s m args below meth c H locs cells slots mc ms ls C hr hl0 hR hv
  exact k p e R s m args below meth c H locs cells slots mc ms ls C (by omega) hl0 hR hv
theorem p1_and31 (x : Int32) : ∃ j, j < 32 ∧ x &&& nI 31 = nI j := by
  refine ⟨x.toBitVec.toNat &&& 31, Nat.lt_succ_of_le Nat.and_le_right, ?_⟩
  apply Int32.toBitVec_inj.mp
  apply BitVec.eq_of_toNat_eq
  have h1 : (nI 31).toBitVec.toNat = 31 := by decide
  rw [Int32.toBitVec_and, BitVec.toNat_and, h1]
  have h2 : x.toBitVec.toNat &&& 31 ≤ 31 := Nat.and_le_right
  show x.toBitVec.toNat &&& 31 = (Int32.ofNat (x.toBitVec.toNat &&& 31)).toBitVec.toNat
  rw [Int32.toBitVec_ofNat', BitVec.toNat_ofNat, Nat.mod_eq_of_lt (by omega)]
set_option maxRecDepth 20000 in
set_option maxHeartbeats 4000000 in
theorem p1_end {kc ks : Nat} {l : Launch} {E : pmE} {S : pmS} {I : pmI} {J : pmJ} {P : pmP} {xs : Nat → Int32} {Q : Option Value → pmS → pmI → pmJ → pmP → Prop} (hX : pm_X E 3 xs) (k : ∀ S I J P, Q (some (.int (nI 1))) S I J P) : pm_W l E yL_law cL_law 8 (some .boolean) 1400 kc ks 682 [(4, .int (nI 0)), (3, .ref 95), (2, .ref 47), (1, .ref 2), (0, .ref 0)] [] S I J P (pm_N E Q) := by
  refine pw_iinc (lv' := [(4, _), (3, _), (2, _), (1, _), (0, _)]) dL_law_682 rfl (by decide) rfl ?_
  refine pw_goto (tgt := 23) dL_law_685 (by decide) ?_
  refine pw_iload dL_law_23 rfl ?_
  refine pw_aload_n dL_law_25 rfl ?_
  refine pw_slen hX dL_law_26 ?_
  refine pw_iconst (v := nI 3) dL_law_27 (by decide) ?_
  refine pw_isub dL_law_28 ?_
  refine pw_icmp_gt (tgt := 688) dL_law_29 (by decide) (fun h29 => ?_) (fun h => absurd (by decide) h)
  refine pw_iconst (v := nI 1) dL_law_688 (by decide) ?_
  exact pw_zret dL_law_689 rfl (by decide) (k _ _ _ _)
set_option maxRecDepth 20000 in
set_option maxHeartbeats 4000000 in
theorem p1_case2 {l : Launch} {E : pmE} {S : pmS} {P : pmP} {xs : Nat → Int32} {Q : Option Value → pmS → pmI → pmJ → pmP → Prop} (hG : sh_St S) (hP : gr_St P) (hX : pm_X E 3 xs) (k : ∀ S I J P, Q (some (.int (nI 1))) S I J P) : pm_W l E yL_law cL_law 8 (some .boolean) 1400 10 100 190 [(4, .int (nI 0)), (3, .ref 95), (2, .ref 47), (1, .ref 2), (0, .ref 0)] [] S (fun _ _ => 0) (fun _ _ => 0) P (pm_N E Q) := by
  refine pw_aload_n dL_law_190 rfl ?_
  refine pw_aload_n dL_law_191 rfl ?_
  refine pw_iload dL_law_192 rfl ?_
  refine pw_iconst (v := nI 1) dL_law_194 (by decide) ?_
  refine pw_iadd dL_law_195 ?_
  refine pw_sld 1 hX dL_law_196 (by omega) (by decide) (by omega) ?_
  refine pw_callV (as := [_]) (kc' := 0) (ks' := 0) lL_39 dL_law_197 rfl rfl (sh_lt hG (by decide)) (sh_tg hG 0 rfl) (Nat.le_of_ble_eq_true rfl) (by omega) (Nat.le_of_ble_eq_true rfl) (Nat.zero_le _) (Nat.zero_le _) ?_
  refine f_X9_thrown hG hP (by omega) ?_
  refine pw_aload_n dL_law_200 rfl ?_
  refine pw_aload_n dL_law_201 rfl ?_
  refine pw_iload dL_law_202 rfl ?_
  refine pw_iconst (v := nI 1) dL_law_204 (by decide) ?_
  refine pw_iadd dL_law_205 ?_
  refine pw_sld 1 hX dL_law_206 (by omega) (by decide) (by omega) ?_
  refine pw_callV (as := [_]) (kc' := 0) (ks' := 0) lL_43 dL_law_207 rfl rfl (sh_lt hG (by decide)) (sh_tg hG 45 rfl) (Nat.le_of_ble_eq_true rfl) (by omega) (Nat.le_of_ble_eq_true rfl) (Nat.zero_le _) (Nat.zero_le _) ?_
  refine f_X10_thrown hG hP (by omega) (fun I' => ?_)
  refine pw_icmp_eq (tgt := 682) dL_law_210 (by decide) (fun _ => ?_) (fun h => absurd rfl h)
  exact p1_end hX k
set_option maxRecDepth 20000 in
set_option maxHeartbeats 4000000 in
theorem p1_case3 {l : Launch} {E : pmE} {S : pmS} {P : pmP} {xs : Nat → Int32} {Q : Option Value → pmS → pmI → pmJ → pmP → Prop} (hG : sh_St S) (hP : gr_St P) (hX : pm_X E 3 xs) (k : ∀ S I J P, Q (some (.int (nI 1))) S I J P) : pm_W l E yL_law cL_law 8 (some .boolean) 1400 10 100 215 [(4, .int (nI 0)), (3, .ref 95), (2, .ref 47), (1, .ref 2), (0, .ref 0)] [] S (fun _ _ => 0) (fun _ _ => 0) P (pm_N E Q) := by
  refine pw_aload_n dL_law_215 rfl ?_
  refine pw_aload_n dL_law_216 rfl ?_
  refine pw_iload dL_law_217 rfl ?_
  refine pw_iconst (v := nI 1) dL_law_219 (by decide) ?_
  refine pw_iadd dL_law_220 ?_
  refine pw_sld 1 hX dL_law_221 (by omega) (by decide) (by omega) ?_
  refine pw_callV (as := [_]) (kc' := 0) (ks' := 0) lL_44 dL_law_222 rfl rfl (sh_lt hG (by decide)) (sh_tg hG 0 rfl) (Nat.le_of_ble_eq_true rfl) (by omega) (Nat.le_of_ble_eq_true rfl) (Nat.zero_le _) (Nat.zero_le _) ?_
  refine f_X9_kind hG hP (by omega) ?_
  refine pw_aload_n dL_law_225 rfl ?_
  refine pw_aload_n dL_law_226 rfl ?_
  refine pw_iload dL_law_227 rfl ?_
  refine pw_iconst (v := nI 1) dL_law_229 (by decide) ?_
  refine pw_iadd dL_law_230 ?_
  refine pw_sld 1 hX dL_law_231 (by omega) (by decide) (by omega) ?_
  refine pw_callV (as := [_]) (kc' := 0) (ks' := 0) lL_47 dL_law_232 rfl rfl (sh_lt hG (by decide)) (sh_tg hG 45 rfl) (Nat.le_of_ble_eq_true rfl) (by omega) (Nat.le_of_ble_eq_true rfl) (Nat.zero_le _) (Nat.zero_le _) ?_
  refine f_X10_kind hG hP (by omega) (fun I' => ?_)
  refine pw_icmp_eq (tgt := 682) dL_law_235 (by decide) (fun _ => ?_) (fun h => absurd rfl h)
  exact p1_end hX k
set_option maxRecDepth 20000 in
set_option maxHeartbeats 4000000 in
theorem p1_case5 {l : Launch} {E : pmE} {S : pmS} {P : pmP} {xs : Nat → Int32} {Q : Option Value → pmS → pmI → pmJ → pmP → Prop} (hG : sh_St S) (hP : gr_St P) (hX : pm_X E 3 xs) (k : ∀ S I J P, Q (some (.int (nI 1))) S I J P) : pm_W l E yL_law cL_law 8 (some .boolean) 1400 10 100 295 [(4, .int (nI 0)), (3, .ref 95), (2, .ref 47), (1, .ref 2), (0, .ref 0)] [] S (fun _ _ => 0) (fun _ _ => 0) P (pm_N E Q) := by
  refine pw_aload_n dL_law_295 rfl ?_
  refine pw_aload_n dL_law_296 rfl ?_
  refine pw_iload dL_law_297 rfl ?_
  refine pw_iconst (v := nI 1) dL_law_299 (by decide) ?_
  refine pw_iadd dL_law_300 ?_
  refine pw_sld 1 hX dL_law_301 (by omega) (by decide) (by omega) ?_
  refine pw_aload_n dL_law_302 rfl ?_
  refine pw_iload dL_law_303 rfl ?_
  refine pw_iconst (v := nI 2) dL_law_305 (by decide) ?_
  refine pw_iadd dL_law_306 ?_
  refine pw_sld 2 hX dL_law_307 (by omega) (by decide) (by omega) ?_
  refine pw_callV (as := [_, _]) (kc' := 0) (ks' := 0) lL_56 dL_law_308 rfl rfl (sh_lt hG (by decide)) (sh_tg hG 0 rfl) (Nat.le_of_ble_eq_true rfl) (by omega) (Nat.le_of_ble_eq_true rfl) (Nat.zero_le _) (Nat.zero_le _) ?_
  refine f_X9_thing hG hP (by omega) ?_
  refine pw_aload_n dL_law_311 rfl ?_
  refine pw_aload_n dL_law_312 rfl ?_
  refine pw_iload dL_law_313 rfl ?_
  refine pw_iconst (v := nI 1) dL_law_315 (by decide) ?_
  refine pw_iadd dL_law_316 ?_
  refine pw_sld 1 hX dL_law_317 (by omega) (by decide) (by omega) ?_
  refine pw_aload_n dL_law_318 rfl ?_
  refine pw_iload dL_law_319 rfl ?_
  refine pw_iconst (v := nI 2) dL_law_321 (by decide) ?_
  refine pw_iadd dL_law_322 ?_
  refine pw_sld 2 hX dL_law_323 (by omega) (by decide) (by omega) ?_
  refine pw_callV (as := [_, _]) (kc' := 0) (ks' := 0) lL_59 dL_law_324 rfl rfl (sh_lt hG (by decide)) (sh_tg hG 45 rfl) (Nat.le_of_ble_eq_true rfl) (by omega) (Nat.le_of_ble_eq_true rfl) (Nat.zero_le _) (Nat.zero_le _) ?_
  refine f_X10_thing hG hP (by omega) (fun I' => ?_)
  refine pw_icmp_eq (tgt := 682) dL_law_327 (by decide) (fun _ => ?_) (fun h => absurd rfl h)
  exact p1_end hX k
set_option maxRecDepth 20000 in
set_option maxHeartbeats 4000000 in
theorem p1_case7 {l : Launch} {E : pmE} {S : pmS} {P : pmP} {xs : Nat → Int32} {Q : Option Value → pmS → pmI → pmJ → pmP → Prop} (hG : sh_St S) (hP : gr_St P) (hX : pm_X E 3 xs) (k : ∀ S I J P, Q (some (.int (nI 1))) S I J P) : pm_W l E yL_law cL_law 8 (some .boolean) 1400 10 100 389 [(4, .int (nI 0)), (3, .ref 95), (2, .ref 47), (1, .ref 2), (0, .ref 0)] [] S (fun _ _ => 0) (fun _ _ => 0) P (pm_N E Q) := by
  refine pw_aload_n dL_law_389 rfl ?_
  refine pw_aload_n dL_law_390 rfl ?_
  refine pw_iload dL_law_391 rfl ?_
  refine pw_iconst (v := nI 1) dL_law_393 (by decide) ?_
  refine pw_iadd dL_law_394 ?_
  refine pw_sld 1 hX dL_law_395 (by omega) (by decide) (by omega) ?_
  refine pw_aload_n dL_law_396 rfl ?_
  refine pw_iload dL_law_397 rfl ?_
  refine pw_iconst (v := nI 2) dL_law_399 (by decide) ?_
  refine pw_iadd dL_law_400 ?_
  refine pw_sld 2 hX dL_law_401 (by omega) (by decide) (by omega) ?_
  refine pw_callV (as := [_, _]) (kc' := 0) (ks' := 0) lL_64 dL_law_402 rfl rfl (sh_lt hG (by decide)) (sh_tg hG 0 rfl) (Nat.le_of_ble_eq_true rfl) (by omega) (Nat.le_of_ble_eq_true rfl) (Nat.zero_le _) (Nat.zero_le _) ?_
  refine f_X9_letter hG hP (by omega) ?_
  refine pw_aload_n dL_law_405 rfl ?_
  refine pw_aload_n dL_law_406 rfl ?_
  refine pw_iload dL_law_407 rfl ?_
  refine pw_iconst (v := nI 1) dL_law_409 (by decide) ?_
  refine pw_iadd dL_law_410 ?_
  refine pw_sld 1 hX dL_law_411 (by omega) (by decide) (by omega) ?_
  refine pw_aload_n dL_law_412 rfl ?_
  refine pw_iload dL_law_413 rfl ?_
  refine pw_iconst (v := nI 2) dL_law_415 (by decide) ?_
  refine pw_iadd dL_law_416 ?_
  refine pw_sld 2 hX dL_law_417 (by omega) (by decide) (by omega) ?_
  refine pw_callV (as := [_, _]) (kc' := 0) (ks' := 0) lL_67 dL_law_418 rfl rfl (sh_lt hG (by decide)) (sh_tg hG 45 rfl) (Nat.le_of_ble_eq_true rfl) (by omega) (Nat.le_of_ble_eq_true rfl) (Nat.zero_le _) (Nat.zero_le _) ?_
  refine f_X10_letter hG hP (by omega) (fun I' => ?_)
  refine pw_icmp_eq (tgt := 682) dL_law_421 (by decide) (fun _ => ?_) (fun h => absurd rfl h)
  exact p1_end hX k
set_option maxRecDepth 20000 in
set_option maxHeartbeats 4000000 in
theorem p1_case8 {l : Launch} {E : pmE} {S : pmS} {P : pmP} {xs : Nat → Int32} {Q : Option Value → pmS → pmI → pmJ → pmP → Prop} (hG : sh_St S) (hP : gr_St P) (hX : pm_X E 3 xs) (k : ∀ S I J P, Q (some (.int (nI 1))) S I J P) : pm_W l E yL_law cL_law 8 (some .boolean) 1400 10 100 426 [(4, .int (nI 0)), (3, .ref 95), (2, .ref 47), (1, .ref 2), (0, .ref 0)] [] S (fun _ _ => 0) (fun _ _ => 0) P (pm_N E Q) := by
  refine pw_aload_n dL_law_426 rfl ?_
  refine pw_aload_n dL_law_427 rfl ?_
  refine pw_iload dL_law_428 rfl ?_
  refine pw_iconst (v := nI 1) dL_law_430 (by decide) ?_
  refine pw_iadd dL_law_431 ?_
  refine pw_sld 1 hX dL_law_432 (by omega) (by decide) (by omega) ?_
  refine pw_callV (as := [_]) (kc' := 0) (ks' := 0) lL_68 dL_law_433 rfl rfl (sh_lt hG (by decide)) (sh_tg hG 0 rfl) (Nat.le_of_ble_eq_true rfl) (by omega) (Nat.le_of_ble_eq_true rfl) (Nat.zero_le _) (Nat.zero_le _) ?_
  refine f_X9_what hG hP (by omega) ?_
  refine pw_aload_n dL_law_436 rfl ?_
  refine pw_aload_n dL_law_437 rfl ?_
  refine pw_iload dL_law_438 rfl ?_
  refine pw_iconst (v := nI 1) dL_law_440 (by decide) ?_
  refine pw_iadd dL_law_441 ?_
  refine pw_sld 1 hX dL_law_442 (by omega) (by decide) (by omega) ?_
  refine pw_callV (as := [_]) (kc' := 0) (ks' := 0) lL_71 dL_law_443 rfl rfl (sh_lt hG (by decide)) (sh_tg hG 45 rfl) (Nat.le_of_ble_eq_true rfl) (by omega) (Nat.le_of_ble_eq_true rfl) (Nat.zero_le _) (Nat.zero_le _) ?_
  refine f_X10_what hG hP (by omega) (fun I' => ?_)
  refine pw_icmp_eq (tgt := 682) dL_law_446 (by decide) (fun _ => ?_) (fun h => absurd rfl h)
  exact p1_end hX k
set_option maxRecDepth 20000 in
set_option maxHeartbeats 4000000 in
theorem p1_case9 {l : Launch} {E : pmE} {S : pmS} {P : pmP} {xs : Nat → Int32} {Q : Option Value → pmS → pmI → pmJ → pmP → Prop} (hG : sh_St S) (hP : gr_St P) (hX : pm_X E 3 xs) (k : ∀ S I J P, Q (some (.int (nI 1))) S I J P) : pm_W l E yL_law cL_law 8 (some .boolean) 1400 10 100 451 [(4, .int (nI 0)), (3, .ref 95), (2, .ref 47), (1, .ref 2), (0, .ref 0)] [] S (fun _ _ => 0) (fun _ _ => 0) P (pm_N E Q) := by
  refine pw_aload_n dL_law_451 rfl ?_
  refine pw_aload_n dL_law_452 rfl ?_
  refine pw_iload dL_law_453 rfl ?_
  refine pw_iconst (v := nI 1) dL_law_455 (by decide) ?_
  refine pw_iadd dL_law_456 ?_
  refine pw_sld 1 hX dL_law_457 (by omega) (by decide) (by omega) ?_
  refine pw_callV (as := [_]) (kc' := 0) (ks' := 0) lL_72 dL_law_458 rfl rfl (sh_lt hG (by decide)) (sh_tg hG 0 rfl) (Nat.le_of_ble_eq_true rfl) (by omega) (Nat.le_of_ble_eq_true rfl) (Nat.zero_le _) (Nat.zero_le _) ?_
  refine f_X9_by hG hP (by omega) ?_
  refine pw_aload_n dL_law_461 rfl ?_
  refine pw_aload_n dL_law_462 rfl ?_
  refine pw_iload dL_law_463 rfl ?_
  refine pw_iconst (v := nI 1) dL_law_465 (by decide) ?_
  refine pw_iadd dL_law_466 ?_
  refine pw_sld 1 hX dL_law_467 (by omega) (by decide) (by omega) ?_
  refine pw_callV (as := [_]) (kc' := 0) (ks' := 0) lL_75 dL_law_468 rfl rfl (sh_lt hG (by decide)) (sh_tg hG 45 rfl) (Nat.le_of_ble_eq_true rfl) (by omega) (Nat.le_of_ble_eq_true rfl) (Nat.zero_le _) (Nat.zero_le _) ?_
  refine f_X10_by hG hP (by omega) (fun I' => ?_)
  refine pw_icmp_eq (tgt := 682) dL_law_471 (by decide) (fun _ => ?_) (fun h => absurd rfl h)
  exact p1_end hX k
set_option maxRecDepth 20000 in
set_option maxHeartbeats 4000000 in
theorem p1_case10 {l : Launch} {E : pmE} {S : pmS} {P : pmP} {xs : Nat → Int32} {Q : Option Value → pmS → pmI → pmJ → pmP → Prop} (hG : sh_St S) (hP : gr_St P) (hX : pm_X E 3 xs) (k : ∀ S I J P, Q (some (.int (nI 1))) S I J P) : pm_W l E yL_law cL_law 8 (some .boolean) 1400 10 100 476 [(4, .int (nI 0)), (3, .ref 95), (2, .ref 47), (1, .ref 2), (0, .ref 0)] [] S (fun _ _ => 0) (fun _ _ => 0) P (pm_N E Q) := by
  refine pw_aload_n dL_law_476 rfl ?_
  refine pw_aload_n dL_law_477 rfl ?_
  refine pw_iload dL_law_478 rfl ?_
  refine pw_iconst (v := nI 1) dL_law_480 (by decide) ?_
  refine pw_iadd dL_law_481 ?_
  refine pw_sld 1 hX dL_law_482 (by omega) (by decide) (by omega) ?_
  refine pw_callV (as := [_]) (kc' := 0) (ks' := 0) lL_76 dL_law_483 rfl rfl (sh_lt hG (by decide)) (sh_tg hG 0 rfl) (Nat.le_of_ble_eq_true rfl) (by omega) (Nat.le_of_ble_eq_true rfl) (Nat.zero_le _) (Nat.zero_le _) ?_
  refine f_X9_edition hG hP (by omega) ?_
  refine pw_aload_n dL_law_486 rfl ?_
  refine pw_aload_n dL_law_487 rfl ?_
  refine pw_iload dL_law_488 rfl ?_
  refine pw_iconst (v := nI 1) dL_law_490 (by decide) ?_
  refine pw_iadd dL_law_491 ?_
  refine pw_sld 1 hX dL_law_492 (by omega) (by decide) (by omega) ?_
  refine pw_callV (as := [_]) (kc' := 0) (ks' := 0) lL_79 dL_law_493 rfl rfl (sh_lt hG (by decide)) (sh_tg hG 45 rfl) (Nat.le_of_ble_eq_true rfl) (by omega) (Nat.le_of_ble_eq_true rfl) (Nat.zero_le _) (Nat.zero_le _) ?_
  refine f_X10_edition hG hP (by omega) (fun I' => ?_)
  refine pw_icmp_eq (tgt := 682) dL_law_496 (by decide) (fun _ => ?_) (fun h => absurd rfl h)
  exact p1_end hX k
set_option maxRecDepth 20000 in
set_option maxHeartbeats 4000000 in
theorem p1_case11 {l : Launch} {E : pmE} {S : pmS} {P : pmP} {xs : Nat → Int32} {Q : Option Value → pmS → pmI → pmJ → pmP → Prop} (hG : sh_St S) (hP : gr_St P) (hX : pm_X E 3 xs) (k : ∀ S I J P, Q (some (.int (nI 1))) S I J P) : pm_W l E yL_law cL_law 8 (some .boolean) 1400 10 100 501 [(4, .int (nI 0)), (3, .ref 95), (2, .ref 47), (1, .ref 2), (0, .ref 0)] [] S (fun _ _ => 0) (fun _ _ => 0) P (pm_N E Q) := by
  refine pw_aload_n dL_law_501 rfl ?_
  refine pw_aload_n dL_law_502 rfl ?_
  refine pw_iload dL_law_503 rfl ?_
  refine pw_iconst (v := nI 1) dL_law_505 (by decide) ?_
  refine pw_iadd dL_law_506 ?_
  refine pw_sld 1 hX dL_law_507 (by omega) (by decide) (by omega) ?_
  refine pw_callV (as := [_]) (kc' := 0) (ks' := 0) lL_80 dL_law_508 rfl rfl (sh_lt hG (by decide)) (sh_tg hG 0 rfl) (Nat.le_of_ble_eq_true rfl) (by omega) (Nat.le_of_ble_eq_true rfl) (Nat.zero_le _) (Nat.zero_le _) ?_
  refine f_X9_state hG hP (by omega) ?_
  refine pw_aload_n dL_law_511 rfl ?_
  refine pw_aload_n dL_law_512 rfl ?_
  refine pw_iload dL_law_513 rfl ?_
  refine pw_iconst (v := nI 1) dL_law_515 (by decide) ?_
  refine pw_iadd dL_law_516 ?_
  refine pw_sld 1 hX dL_law_517 (by omega) (by decide) (by omega) ?_
  refine pw_callV (as := [_]) (kc' := 0) (ks' := 0) lL_83 dL_law_518 rfl rfl (sh_lt hG (by decide)) (sh_tg hG 45 rfl) (Nat.le_of_ble_eq_true rfl) (by omega) (Nat.le_of_ble_eq_true rfl) (Nat.zero_le _) (Nat.zero_le _) ?_
  refine f_X10_state hG hP (by omega) (fun I' => ?_)
  refine pw_icmp_eq (tgt := 682) dL_law_521 (by decide) (fun _ => ?_) (fun h => absurd rfl h)
  exact p1_end hX k
set_option maxRecDepth 20000 in
set_option maxHeartbeats 4000000 in
theorem p1_case13 {l : Launch} {E : pmE} {S : pmS} {P : pmP} {xs : Nat → Int32} {Q : Option Value → pmS → pmI → pmJ → pmP → Prop} (hG : sh_St S) (hP : gr_St P) (hX : pm_X E 3 xs) (k : ∀ S I J P, Q (some (.int (nI 1))) S I J P) : pm_W l E yL_law cL_law 8 (some .boolean) 1400 10 100 594 [(4, .int (nI 0)), (3, .ref 95), (2, .ref 47), (1, .ref 2), (0, .ref 0)] [] S (fun _ _ => 0) (fun _ _ => 0) P (pm_N E Q) := by
  refine pw_aload_n dL_law_594 rfl ?_
  refine pw_aload_n dL_law_595 rfl ?_
  refine pw_iload dL_law_596 rfl ?_
  refine pw_iconst (v := nI 1) dL_law_598 (by decide) ?_
  refine pw_iadd dL_law_599 ?_
  refine pw_sld 1 hX dL_law_600 (by omega) (by decide) (by omega) ?_
  refine pw_aload_n dL_law_601 rfl ?_
  refine pw_iload dL_law_602 rfl ?_
  refine pw_iconst (v := nI 2) dL_law_604 (by decide) ?_
  refine pw_iadd dL_law_605 ?_
  refine pw_sld 2 hX dL_law_606 (by omega) (by decide) (by omega) ?_
  refine pw_callV (as := [_, _]) (kc' := 0) (ks' := 0) lL_88 dL_law_607 rfl rfl (sh_lt hG (by decide)) (sh_tg hG 0 rfl) (Nat.le_of_ble_eq_true rfl) (by omega) (Nat.le_of_ble_eq_true rfl) (Nat.zero_le _) (Nat.zero_le _) ?_
  refine f_X9_user hG hP (by omega) ?_
  refine pw_aload_n dL_law_610 rfl ?_
  refine pw_aload_n dL_law_611 rfl ?_
  refine pw_iload dL_law_612 rfl ?_
  refine pw_iconst (v := nI 1) dL_law_614 (by decide) ?_
  refine pw_iadd dL_law_615 ?_
  refine pw_sld 1 hX dL_law_616 (by omega) (by decide) (by omega) ?_
  refine pw_aload_n dL_law_617 rfl ?_
  refine pw_iload dL_law_618 rfl ?_
  refine pw_iconst (v := nI 2) dL_law_620 (by decide) ?_
  refine pw_iadd dL_law_621 ?_
  refine pw_sld 2 hX dL_law_622 (by omega) (by decide) (by omega) ?_
  refine pw_callV (as := [_, _]) (kc' := 0) (ks' := 0) lL_91 dL_law_623 rfl rfl (sh_lt hG (by decide)) (sh_tg hG 45 rfl) (Nat.le_of_ble_eq_true rfl) (by omega) (Nat.le_of_ble_eq_true rfl) (Nat.zero_le _) (Nat.zero_le _) ?_
  refine f_X10_user hG hP (by omega) (fun I' => ?_)
  refine pw_icmp_eq (tgt := 682) dL_law_626 (by decide) (fun _ => ?_) (fun h => absurd rfl h)
  exact p1_end hX k
set_option maxRecDepth 20000 in
set_option maxHeartbeats 4000000 in
theorem p1_case6 {l : Launch} {E : pmE} {S : pmS} {P : pmP} {xs : Nat → Int32} {Q : Option Value → pmS → pmI → pmJ → pmP → Prop} (hG : sh_St S) (hP : gr_St P) (hX : pm_X E 3 xs) (k : ∀ S I J P, Q (some (.int (nI 1))) S I J P) : pm_W l E yL_law cL_law 8 (some .boolean) 1400 10 100 332 [(4, .int (nI 0)), (3, .ref 95), (2, .ref 47), (1, .ref 2), (0, .ref 0)] [] S (fun _ _ => 0) (fun _ _ => 0) P (pm_N E Q) := by
  refine pw_aload_n dL_law_332 rfl ?_
  refine pw_aload_n dL_law_333 rfl ?_
  refine pw_iload dL_law_334 rfl ?_
  refine pw_iconst (v := nI 1) dL_law_336 (by decide) ?_
  refine pw_iadd dL_law_337 ?_
  refine pw_sld 1 hX dL_law_338 (by omega) (by decide) (by omega) ?_
  refine pw_i2l dL_law_339 ?_
  refine pw_bipush (v := nI 32) dL_law_340 (by decide) ?_
  refine pw_lshl dL_law_342 ?_
  refine pw_aload_n dL_law_343 rfl ?_
  refine pw_iload dL_law_344 rfl ?_
  refine pw_iconst (v := nI 2) dL_law_346 (by decide) ?_
  refine pw_iadd dL_law_347 ?_
  refine pw_sld 2 hX dL_law_348 (by omega) (by decide) (by omega) ?_
  refine pw_i2l dL_law_349 ?_
  refine pw_ldc2 dL_law_350 kL_27 ?_
  refine pw_land dL_law_353 ?_
  refine pw_lor dL_law_354 ?_
  refine pw_callV (as := [_]) (kc' := 0) (ks' := 0) lL_60 dL_law_355 rfl rfl (sh_lt hG (by decide)) (sh_tg hG 0 rfl) (Nat.le_of_ble_eq_true rfl) (by omega) (Nat.le_of_ble_eq_true rfl) (Nat.zero_le _) (Nat.zero_le _) ?_
  refine f_X9_name hG hP (by omega) ?_
  refine pw_aload_n dL_law_358 rfl ?_
  refine pw_aload_n dL_law_359 rfl ?_
  refine pw_iload dL_law_360 rfl ?_
  refine pw_iconst (v := nI 1) dL_law_362 (by decide) ?_
  refine pw_iadd dL_law_363 ?_
  refine pw_sld 1 hX dL_law_364 (by omega) (by decide) (by omega) ?_
  refine pw_i2l dL_law_365 ?_
  refine pw_bipush (v := nI 32) dL_law_366 (by decide) ?_
  refine pw_lshl dL_law_368 ?_
  refine pw_aload_n dL_law_369 rfl ?_
  refine pw_iload dL_law_370 rfl ?_
  refine pw_iconst (v := nI 2) dL_law_372 (by decide) ?_
  refine pw_iadd dL_law_373 ?_
  refine pw_sld 2 hX dL_law_374 (by omega) (by decide) (by omega) ?_
  refine pw_i2l dL_law_375 ?_
  refine pw_ldc2 dL_law_376 kL_27 ?_
  refine pw_land dL_law_379 ?_
  refine pw_lor dL_law_380 ?_
  refine pw_callV (as := [_]) (kc' := 0) (ks' := 0) lL_63 dL_law_381 rfl rfl (sh_lt hG (by decide)) (sh_tg hG 45 rfl) (Nat.le_of_ble_eq_true rfl) (by omega) (Nat.le_of_ble_eq_true rfl) (Nat.zero_le _) (Nat.zero_le _) ?_
  refine c_X10_name (n := 0) hG hP (by omega) (by decide) (by decide) (fun j hj _ _ _ => absurd hj (Nat.not_lt_zero j)) (fun _ => ?_)
  refine pw_icmp_eq (tgt := 682) dL_law_384 (by decide) (fun _ => ?_) (fun h => absurd rfl h)
  exact p1_end hX k
set_option maxRecDepth 20000 in
set_option maxHeartbeats 4000000 in
theorem p1_case0b {l : Launch} {E : pmE} {S : pmS} {I : pmI} {J : pmJ} {P : pmP} {xs : Nat → Int32} {Q : Option Value → pmS → pmI → pmJ → pmP → Prop} (hG : sh_St S) (hP : gr_St P) (hX : pm_X E 3 xs) (hn : I 47 2 = nI 0) (k : ∀ S I J P, Q (some (.int (nI 1))) S I J P) : pm_W l E yL_law cL_law 8 (some .boolean) 1400 10 100 146 [(4, .int (nI 0)), (3, .ref 95), (2, .ref 47), (1, .ref 2), (0, .ref 0)] [.int (sg_ans (((xs 1).toInt64 <<< ((nI 32).toInt64 &&& 63)) ||| ((xs 2).toInt64 &&& 4294967295)) 0)] S I J P (pm_N E Q) := by
  refine pw_aload_n dL_law_146 rfl ?_
  refine pw_aload_n dL_law_147 rfl ?_
  refine pw_iload dL_law_148 rfl ?_
  refine pw_iconst (v := nI 1) dL_law_150 (by decide) ?_
  refine pw_iadd dL_law_151 ?_
  refine pw_sld 1 hX dL_law_152 (by omega) (by decide) (by omega) ?_
  refine pw_i2l dL_law_153 ?_
  refine pw_bipush (v := nI 32) dL_law_154 (by decide) ?_
  refine pw_lshl dL_law_156 ?_
  refine pw_aload_n dL_law_157 rfl ?_
  refine pw_iload dL_law_158 rfl ?_
  refine pw_iconst (v := nI 2) dL_law_160 (by decide) ?_
  refine pw_iadd dL_law_161 ?_
  refine pw_sld 2 hX dL_law_162 (by omega) (by decide) (by omega) ?_
  refine pw_i2l dL_law_163 ?_
  refine pw_ldc2 dL_law_164 kL_27 ?_
  refine pw_land dL_law_167 ?_
  refine pw_lor dL_law_168 ?_
  refine pw_callV (as := [_]) (kc' := 0) (ks' := 0) lL_33 dL_law_169 rfl rfl (sh_lt hG (by decide)) (sh_tg hG 45 rfl) (Nat.le_of_ble_eq_true rfl) (by omega) (Nat.le_of_ble_eq_true rfl) (Nat.zero_le _) (Nat.zero_le _) ?_
  refine c_X10_signs (n := 0) hG hP (by omega) hn (by decide) (fun _ => ?_) (fun _ _ I' _ _ _ _ => ?_)
  · refine pw_icmp_eq (tgt := 682) dL_law_172 (by decide) (fun _ => ?_) (fun h => absurd rfl h)
    exact p1_end hX k
  · refine pw_icmp_eq (tgt := 682) dL_law_172 (by decide) (fun _ => ?_) (fun h => absurd rfl h)
    exact p1_end hX k
set_option maxRecDepth 20000 in
set_option maxHeartbeats 4000000 in
theorem p1_case0 {l : Launch} {E : pmE} {S : pmS} {P : pmP} {xs : Nat → Int32} {Q : Option Value → pmS → pmI → pmJ → pmP → Prop} (hG : sh_St S) (hP : gr_St P) (hX : pm_X E 3 xs) (k : ∀ S I J P, Q (some (.int (nI 1))) S I J P) : pm_W l E yL_law cL_law 8 (some .boolean) 1400 10 100 120 [(4, .int (nI 0)), (3, .ref 95), (2, .ref 47), (1, .ref 2), (0, .ref 0)] [] S (fun _ _ => 0) (fun _ _ => 0) P (pm_N E Q) := by
  refine pw_aload_n dL_law_120 rfl ?_
  refine pw_aload_n dL_law_121 rfl ?_
  refine pw_iload dL_law_122 rfl ?_
  refine pw_iconst (v := nI 1) dL_law_124 (by decide) ?_
  refine pw_iadd dL_law_125 ?_
  refine pw_sld 1 hX dL_law_126 (by omega) (by decide) (by omega) ?_
  refine pw_i2l dL_law_127 ?_
  refine pw_bipush (v := nI 32) dL_law_128 (by decide) ?_
  refine pw_lshl dL_law_130 ?_
  refine pw_aload_n dL_law_131 rfl ?_
  refine pw_iload dL_law_132 rfl ?_
  refine pw_iconst (v := nI 2) dL_law_134 (by decide) ?_
  refine pw_iadd dL_law_135 ?_
  refine pw_sld 2 hX dL_law_136 (by omega) (by decide) (by omega) ?_
  refine pw_i2l dL_law_137 ?_
  refine pw_ldc2 dL_law_138 kL_27 ?_
  refine pw_land dL_law_141 ?_
  refine pw_lor dL_law_142 ?_
  refine pw_callV (as := [_]) (kc' := 0) (ks' := 0) lL_29 dL_law_143 rfl rfl (sh_lt hG (by decide)) (sh_tg hG 0 rfl) (Nat.le_of_ble_eq_true rfl) (by omega) (Nat.le_of_ble_eq_true rfl) (Nat.zero_le _) (Nat.zero_le _) ?_
  refine c_X9_signs (n := 0) hG hP (by omega) (by decide) (by decide) (fun _ => ?_) (fun _ _ I' _ _ hI => ?_)
  · exact p1_case0b hG hP hX (by decide) k
  · exact p1_case0b hG hP hX (by rw [hI 47 (by decide) (by decide)]; decide) k
set_option maxRecDepth 20000 in
set_option maxHeartbeats 4000000 in
theorem p1_case4 {l : Launch} {E : pmE} {S : pmS} {P : pmP} {xs : Nat → Int32} {Q : Option Value → pmS → pmI → pmJ → pmP → Prop} (hl : l.stackTraces = false) (hG : sh_St S) (hP : gr_St P) (hX : pm_X E 3 xs) (k : ∀ S I J P, Q (some (.int (nI 1))) S I J P) : pm_W l E yL_law cL_law 8 (some .boolean) 1400 10 100 240 [(4, .int (nI 0)), (3, .ref 95), (2, .ref 47), (1, .ref 2), (0, .ref 0)] [] S (fun _ _ => 0) (fun _ _ => 0) P (pm_N E Q) := by
  refine pw_aload_n dL_law_240 rfl ?_
  refine pw_aload_n dL_law_241 rfl ?_
  refine pw_iload dL_law_242 rfl ?_
  refine pw_iconst (v := nI 1) dL_law_244 (by decide) ?_
  refine pw_iadd dL_law_245 ?_
  refine pw_sld 1 hX dL_law_246 (by omega) (by decide) (by omega) ?_
  refine pw_aload_n dL_law_247 rfl ?_
  refine pw_callSW (as := [_, _, _]) (kc' := 1) (ks' := 8) lL_48 dL_law_248 rfl rfl (Nat.le_of_ble_eq_true rfl) (by omega) (Nat.le_of_ble_eq_true rfl) (by decide) (by decide) ?_
  refine f_L_whole hl hG hP (by omega) (by decide) (by decide) ?_
  have hG := sh_St.new hG 300 0
  refine pw_istore (lv' := [(5, _), (4, _), (3, _), (2, _), (1, _), (0, _)]) dL_law_251 (by decide) rfl ?_
  refine pw_aload_n dL_law_253 rfl ?_
  refine pw_aload_n dL_law_254 rfl ?_
  refine pw_iload dL_law_255 rfl ?_
  refine pw_iconst (v := nI 1) dL_law_257 (by decide) ?_
  refine pw_iadd dL_law_258 ?_
  refine pw_sld 1 hX dL_law_259 (by omega) (by decide) (by omega) ?_
  refine pw_callV (as := [_]) (kc' := 0) (ks' := 0) lL_53 dL_law_260 rfl rfl (sh_lt hG (by decide)) (sh_tg hG 45 rfl) (Nat.le_of_ble_eq_true rfl) (by omega) (Nat.le_of_ble_eq_true rfl) (Nat.zero_le _) (Nat.zero_le _) ?_
  refine f_X10_whole hG hP (by omega) ?_
  refine pw_lstore (lv' := [(6, _), (5, _), (4, _), (3, _), (2, _), (1, _), (0, _)]) dL_law_263 (by decide) rfl ?_
  refine pw_aload_n dL_law_265 rfl ?_
  refine pw_callV (as := []) (kc' := 0) (ks' := 0) lL_54 dL_law_266 rfl rfl (sh_lt hG (by decide)) (sh_tg hG 45 rfl) (Nat.le_of_ble_eq_true rfl) (by omega) (Nat.le_of_ble_eq_true rfl) (Nat.zero_le _) (Nat.zero_le _) ?_
  refine f_X10_thrown0 hG hP ?_
  refine pw_iload dL_law_269 rfl ?_
  refine pw_icmp_eq (tgt := 276) dL_law_271 (by decide) (fun _ => ?_) (fun h => absurd (by decide) h)
  refine pw_iload dL_law_276 rfl ?_
  refine pw_if_ne (tgt := 292) dL_law_278 (by decide) (fun _ => ?_) (fun h => absurd h (by decide))
  refine pw_goto (tgt := 682) dL_law_292 (by decide) ?_
  refine pw_sub [2, 3, 4, 5, 6] rfl ?_
  exact p1_end hX k
set_option maxRecDepth 20000 in
set_option maxHeartbeats 4000000 in
theorem p1_case12 {l : Launch} {E : pmE} {S : pmS} {P : pmP} {xs : Nat → Int32} {Q : Option Value → pmS → pmI → pmJ → pmP → Prop} (hl : l.stackTraces = false) (hG : sh_St S) (hP : gr_St P) (hX : pm_X E 3 xs) (k : ∀ S I J P, Q (some (.int (nI 1))) S I J P) : pm_W l E yL_law cL_law 8 (some .boolean) 1400 10 100 526 [(4, .int (nI 0)), (3, .ref 95), (2, .ref 47), (1, .ref 2), (0, .ref 0)] [] S (fun _ _ => 0) (fun _ _ => 0) P (pm_N E Q) := by
  refine pw_aload_n dL_law_526 rfl ?_
  refine pw_aload_n dL_law_527 rfl ?_
  refine pw_iload dL_law_528 rfl ?_
  refine pw_iconst (v := nI 1) dL_law_530 (by decide) ?_
  refine pw_iadd dL_law_531 ?_
  refine pw_sld 1 hX dL_law_532 (by omega) (by decide) (by omega) ?_
  refine pw_aload_n dL_law_533 rfl ?_
  refine pw_iload dL_law_534 rfl ?_
  refine pw_iconst (v := nI 2) dL_law_536 (by decide) ?_
  refine pw_iadd dL_law_537 ?_
  refine pw_sld 2 hX dL_law_538 (by omega) (by decide) (by omega) ?_
  refine pw_aload_n dL_law_539 rfl ?_
  refine pw_callSW (as := [_, _, _, _]) (kc' := 1) (ks' := 8) lL_84 dL_law_540 rfl rfl (Nat.le_of_ble_eq_true rfl) (by omega) (Nat.le_of_ble_eq_true rfl) (by decide) (by decide) ?_
  refine f_L_text hl hG hP (by omega) (by decide) (by decide) ?_
  have hG := sh_St.new hG 300 0
  refine pw_istore (lv' := [(5, _), (4, _), (3, _), (2, _), (1, _), (0, _)]) dL_law_543 (by decide) rfl ?_
  refine pw_aload_n dL_law_545 rfl ?_
  refine pw_aload_n dL_law_546 rfl ?_
  refine pw_iload dL_law_547 rfl ?_
  refine pw_iconst (v := nI 1) dL_law_549 (by decide) ?_
  refine pw_iadd dL_law_550 ?_
  refine pw_sld 1 hX dL_law_551 (by omega) (by decide) (by omega) ?_
  refine pw_aload_n dL_law_552 rfl ?_
  refine pw_iload dL_law_553 rfl ?_
  refine pw_iconst (v := nI 2) dL_law_555 (by decide) ?_
  refine pw_iadd dL_law_556 ?_
  refine pw_sld 2 hX dL_law_557 (by omega) (by decide) (by omega) ?_
  refine pw_callV (as := [_, _]) (kc' := 0) (ks' := 0) lL_87 dL_law_558 rfl rfl (sh_lt hG (by decide)) (sh_tg hG 45 rfl) (Nat.le_of_ble_eq_true rfl) (by omega) (Nat.le_of_ble_eq_true rfl) (Nat.zero_le _) (Nat.zero_le _) ?_
  refine f_X10_text hG hP (by omega) ?_
  refine pw_istore (lv' := [(6, _), (5, _), (4, _), (3, _), (2, _), (1, _), (0, _)]) dL_law_561 (by decide) rfl ?_
  refine pw_aload_n dL_law_563 rfl ?_
  refine pw_callV (as := []) (kc' := 0) (ks' := 0) lL_54 dL_law_564 rfl rfl (sh_lt hG (by decide)) (sh_tg hG 45 rfl) (Nat.le_of_ble_eq_true rfl) (by omega) (Nat.le_of_ble_eq_true rfl) (Nat.zero_le _) (Nat.zero_le _) ?_
  refine f_X10_thrown0 hG hP ?_
  refine pw_iload dL_law_567 rfl ?_
  refine pw_icmp_eq (tgt := 574) dL_law_569 (by decide) (fun _ => ?_) (fun h => absurd (by decide) h)
  refine pw_iload dL_law_574 rfl ?_
  refine pw_if_ne (tgt := 591) dL_law_576 (by decide) (fun _ => ?_) (fun h => absurd h (by decide))
  refine pw_goto (tgt := 682) dL_law_591 (by decide) ?_
  refine pw_sub [2, 3, 4, 5, 6] rfl ?_
  exact p1_end hX k
set_option maxRecDepth 20000 in
set_option maxHeartbeats 4000000 in
theorem p1_case1 {l : Launch} {E : pmE} {S : pmS} {P : pmP} {xs : Nat → Int32} {Q : Option Value → pmS → pmI → pmJ → pmP → Prop} (hG : sh_St S) (hP : gr_St P) (hX : pm_X E 3 xs) (k : ∀ S I J P, Q (some (.int (nI 1))) S I J P) : pm_W l E yL_law cL_law 8 (some .boolean) 1400 10 100 177 [(4, .int (nI 0)), (3, .ref 95), (2, .ref 47), (1, .ref 2), (0, .ref 0)] [] S (fun _ _ => 0) (fun _ _ => 0) P (pm_N E Q) := by
  refine pw_aload_n dL_law_177 rfl ?_
  refine pw_callV (as := []) (kc' := 0) (ks' := 0) lL_34 dL_law_178 rfl rfl (sh_lt hG (by decide)) (sh_tg hG 0 rfl) (Nat.le_of_ble_eq_true rfl) (by omega) (Nat.le_of_ble_eq_true rfl) (Nat.zero_le _) (Nat.zero_le _) ?_
  unfold pm_Met
  refine pm_lvs (lv' := [(0, _)]) rfl ?_
  refine pw_aload_n dX9_run_0 rfl ?_
  refine pw_getR (b := 15) fX9_32 dX9_run_1 (sh_lt hG (by decide)) (sh_tg hG 0 rfl) rfl (gr_at hP 3 rfl) ?_
  refine pw_callV (as := []) (kc' := 0) (ks' := 0) lX9_57 dX9_run_4 rfl rfl (sh_lt hG (by decide)) (sh_tg hG 13 rfl) (Nat.le_of_ble_eq_true rfl) (by omega) (Nat.le_of_ble_eq_true rfl) (Nat.zero_le _) (Nat.zero_le _) ?_
  unfold pm_Met
  refine pm_lvs (lv' := [(0, _)]) rfl ?_
  refine pw_aload_n dX4_isFull_0 rfl ?_
  refine pw_getI fX4_49 dX4_isFull_1 (sh_lt hG (by decide)) (sh_tg hG 13 rfl) rfl ?_
  refine pw_bipush (v := nI 40) dX4_isFull_4 (by decide) ?_
  refine pw_icmp_lt (tgt := 13) dX4_isFull_6 (by decide) (fun _ => ?_) (fun h => absurd (by decide) h)
  refine pw_iconst (v := nI 0) dX4_isFull_13 (by decide) ?_
  refine pw_zret dX4_isFull_14 rfl (by decide) ?_
  refine pw_if_eq (tgt := 13) dX9_run_7 (by decide) (fun _ => ?_) (fun h => absurd (by decide) h)
  refine pw_aload_n dX9_run_13 rfl ?_
  refine pw_getR (b := 4) fX9_16 dX9_run_14 (sh_lt hG (by decide)) (sh_tg hG 0 rfl) rfl (gr_at hP 1 rfl) ?_
  refine pw_aload_n dX9_run_17 rfl ?_
  refine pw_getR (b := 3) fX9_9 dX9_run_18 (sh_lt hG (by decide)) (sh_tg hG 0 rfl) rfl (gr_at hP 0 rfl) ?_
  refine pw_aload_n dX9_run_21 rfl ?_
  refine pw_getI fX9_49 dX9_run_22 (sh_lt hG (by decide)) (sh_tg hG 0 rfl) rfl ?_
  refine pw_callV (as := [_, _]) (kc' := 0) (ks' := 0) lX9_61 dX9_run_25 rfl rfl (sh_lt hG (by decide)) (sh_tg hG 2 rfl) (Nat.le_of_ble_eq_true rfl) (by omega) (Nat.le_of_ble_eq_true rfl) (Nat.zero_le _) (Nat.zero_le _) ?_
  unfold pm_Met
  refine pm_lvs (lv' := [(0, _), (1, _), (2, _)]) rfl ?_
  refine pw_aload_n dX7_cut_0 rfl ?_
  refine pw_iconst (v := nI 0) dX7_cut_1 (by decide) ?_
  refine pw_putI fX7_20 dX7_cut_2 (Or.inl rfl) (by decide) (sh_lt hG (by decide)) (sh_tg hG 2 rfl) rfl ?_
  refine pw_aload_n dX7_cut_5 rfl ?_
  refine pw_iconst (v := nI 0) dX7_cut_6 (by decide) ?_
  refine pw_iload_n dX7_cut_7 rfl ?_
  refine pw_callS (as := [_, _, _]) (kc' := 0) (ks' := 0) lX7_24 dX7_cut_8 rfl rfl (Nat.le_of_ble_eq_true rfl) (by omega) (Nat.le_of_ble_eq_true rfl) (Nat.zero_le _) (Nat.zero_le _) ?_
  unfold pm_Met
  refine pm_lvs (lv' := [(0, _), (1, _), (2, _)]) rfl ?_
  refine pw_iload_n dX7_afterBlanks_0 rfl ?_
  refine pw_istore_n (lv' := [(3, _), (0, _), (1, _), (2, _)]) dX7_afterBlanks_1 (by decide) rfl ?_
  refine pw_iload_n dX7_afterBlanks_2 rfl ?_
  refine pw_iload_n dX7_afterBlanks_3 rfl ?_
  refine pw_icmp_ge (tgt := 21) dX7_afterBlanks_4 (by decide) (fun _ => ?_) (fun h => absurd (by decide) h)
  refine pw_iload_n dX7_afterBlanks_21 rfl ?_
  refine pw_iret dX7_afterBlanks_22 rfl ?_
  refine pw_istore_n (lv' := [(3, _), (0, _), (1, _), (2, _)]) dX7_cut_11 (by decide) rfl ?_
  refine pw_iconst (v := nI 0) dX7_cut_12 (by decide) ?_
  refine pw_istore (lv' := [(4, _), (3, _), (0, _), (1, _), (2, _)]) dX7_cut_13 (by decide) rfl ?_
  refine pw_iload dX7_cut_15 rfl ?_
  refine pw_bipush (v := nI 60) dX7_cut_17 (by decide) ?_
  refine pw_icmp_gt (tgt := 50) dX7_cut_19 (by decide) (fun h => absurd h (by decide)) (fun _ => ?_)
  refine pw_iload_n dX7_cut_22 rfl ?_
  refine pw_iload_n dX7_cut_23 rfl ?_
  refine pw_icmp_ge (tgt := 50) dX7_cut_24 (by decide) (fun _ => ?_) (fun h => absurd (by decide) h)
  refine pw_aload_n dX7_cut_50 rfl ?_
  refine pw_iconst (v := nI 0) dX7_cut_51 (by decide) ?_
  refine pw_iload_n dX7_cut_52 rfl ?_
  refine pw_lconst (v := 0) dX7_cut_53 (by decide) ?_
  refine pw_callV (as := [_, _, _]) (kc' := 0) (ks' := 0) lX7_31 dX7_cut_54 rfl rfl (sh_lt hG (by decide)) (sh_tg hG 2 rfl) (Nat.le_of_ble_eq_true rfl) (by omega) (Nat.le_of_ble_eq_true rfl) (Nat.zero_le _) (Nat.zero_le _) ?_
  unfold pm_Met
  refine pm_lvs (lv' := [(0, _), (1, _), (2, _), (3, _)]) rfl ?_
  refine pw_aload_n dX7_put_0 rfl ?_
  refine pw_getI fX7_20 dX7_put_1 (sh_lt hG (by decide)) (sh_tg hG 2 rfl) rfl ?_
  refine pw_aload_n dX7_put_4 rfl ?_
  refine pw_getR (b := 5) fX7_9 dX7_put_5 (sh_lt hG (by decide)) (sh_tg hG 2 rfl) rfl (gr_at hP 5 rfl) ?_
  refine pw_alen dX7_put_8 (sh_lt hG (by decide)) (sh_sh hG 3 rfl) (by decide) (by decide) ?_
  refine pw_icmp_ge (tgt := 56) dX7_put_9 (by decide) (fun h => absurd h (by decide)) (fun _ => ?_)
  refine pw_aload_n dX7_put_12 rfl ?_
  refine pw_getR (b := 5) fX7_9 dX7_put_13 (sh_lt hG (by decide)) (sh_tg hG 2 rfl) rfl (gr_at hP 5 rfl) ?_
  refine pw_aload_n dX7_put_16 rfl ?_
  refine pw_getI fX7_20 dX7_put_17 (sh_lt hG (by decide)) (sh_tg hG 2 rfl) rfl ?_
  refine pw_iload_n dX7_put_20 rfl ?_
  refine pw_iastN 0 dX7_put_21 (by decide) (sh_lt hG (by decide)) (sh_sh hG 3 rfl) (by decide) (by decide) (by decide) ?_
  refine pw_aload_n dX7_put_22 rfl ?_
  refine pw_getR (b := 6) fX7_13 dX7_put_23 (sh_lt hG (by decide)) (sh_tg hG 2 rfl) rfl (gr_at hP 6 rfl) ?_
  refine pw_aload_n dX7_put_26 rfl ?_
  refine pw_getI fX7_20 dX7_put_27 (sh_lt hG (by decide)) (sh_tg hG 2 rfl) rfl ?_
  refine pw_iload_n dX7_put_30 rfl ?_
  refine pw_iastN 0 dX7_put_31 (by decide) (sh_lt hG (by decide)) (sh_sh hG 4 rfl) (by decide) (by decide) (by decide) ?_
  refine pw_aload_n dX7_put_32 rfl ?_
  refine pw_getR (b := 7) fX7_16 dX7_put_33 (sh_lt hG (by decide)) (sh_tg hG 2 rfl) rfl (gr_at hP 7 rfl) ?_
  refine pw_aload_n dX7_put_36 rfl ?_
  refine pw_getI fX7_20 dX7_put_37 (sh_lt hG (by decide)) (sh_tg hG 2 rfl) rfl ?_
  refine pw_lload_n dX7_put_40 rfl ?_
  refine pw_lastN 0 dX7_put_41 (by decide) (sh_lt hG (by decide)) (sh_sh hG 5 rfl) (by decide) (by decide) (by decide) ?_
  refine pw_iload_n dX7_put_42 rfl ?_
  refine pw_if_eq (tgt := 56) dX7_put_43 (by decide) (fun _ => ?_) (fun h => absurd (by decide) h)
  refine pw_vret dX7_put_56 rfl ?_
  refine pw_vret dX7_cut_57 rfl ?_
  refine pw_aload_n dX9_run_28 rfl ?_
  refine pw_getR (b := 8) fX9_25 dX9_run_29 (sh_lt hG (by decide)) (sh_tg hG 0 rfl) rfl (gr_at hP 2 rfl) ?_
  refine pw_callV (as := []) (kc' := 0) (ks' := 0) lX9_65 dX9_run_32 rfl rfl (sh_lt hG (by decide)) (sh_tg hG 6 rfl) (Nat.le_of_ble_eq_true rfl) (by omega) (Nat.le_of_ble_eq_true rfl) (Nat.zero_le _) (Nat.zero_le _) ?_
  unfold pm_Met
  refine pm_lvs (lv' := [(0, _)]) rfl ?_
  refine pw_aload_n dX3_read_0 rfl ?_
  refine pw_getR (b := 9) fX3_14 dX3_read_1 (sh_lt hG (by decide)) (sh_tg hG 6 rfl) rfl (gr_at hP 9 rfl) ?_
  refine pw_callV (as := []) (kc' := 0) (ks' := 0) lX3_28 dX3_read_4 rfl rfl (sh_lt hG (by decide)) (sh_tg hG 7 rfl) (Nat.le_of_ble_eq_true rfl) (by omega) (Nat.le_of_ble_eq_true rfl) (Nat.zero_le _) (Nat.zero_le _) ?_
  unfold pm_Met
  refine pm_lvs (lv' := [(0, _)]) rfl ?_
  refine pw_aload_n dX0_clear_0 rfl ?_
  refine pw_iconst (v := nI 0) dX0_clear_1 (by decide) ?_
  refine pw_putI fX0_25 dX0_clear_2 (Or.inl rfl) (by decide) (sh_lt hG (by decide)) (sh_tg hG 7 rfl) rfl ?_
  refine pw_vret dX0_clear_5 rfl ?_
  refine pw_aload_n dX3_read_7 rfl ?_
  refine pw_iconst (v := nI 0) dX3_read_8 (by decide) ?_
  refine pw_putI fX3_31 dX3_read_9 (Or.inl rfl) (by decide) (sh_lt hG (by decide)) (sh_tg hG 6 rfl) rfl ?_
  refine pw_aload_n dX3_read_12 rfl ?_
  refine pw_lconst (v := 0) dX3_read_13 (by decide) ?_
  refine pw_putJ fX3_35 dX3_read_14 (Or.inl rfl) (by decide) (sh_lt hG (by decide)) (sh_tg hG 6 rfl) rfl ?_
  refine pw_aload_n dX3_read_17 rfl ?_
  refine pw_iconst (v := nI 0) dX3_read_18 (by decide) ?_
  refine pw_putI fX3_39 dX3_read_19 (Or.inl rfl) (by decide) (sh_lt hG (by decide)) (sh_tg hG 6 rfl) rfl ?_
  refine pw_aload_n dX3_read_22 rfl ?_
  refine pw_iconst (v := nI 0) dX3_read_23 (by decide) ?_
  refine pw_putI fX3_42 dX3_read_24 (Or.inl rfl) (by decide) (sh_lt hG (by decide)) (sh_tg hG 6 rfl) rfl ?_
  refine pw_aload_n dX3_read_27 rfl ?_
  refine pw_bipush (v := -5) dX3_read_28 (by decide) ?_
  refine pw_putI fX3_45 dX3_read_30 (Or.inl rfl) (by decide) (sh_lt hG (by decide)) (sh_tg hG 6 rfl) rfl ?_
  refine pw_aload_n dX3_read_33 rfl ?_
  refine pw_getR (b := 4) fX3_24 dX3_read_34 (sh_lt hG (by decide)) (sh_tg hG 6 rfl) rfl (gr_at hP 8 rfl) ?_
  refine pw_iconst (v := nI 0) dX3_read_37 (by decide) ?_
  refine pw_callV (as := [_]) (kc' := 0) (ks' := 0) lX3_48 dX3_read_38 rfl rfl (sh_lt hG (by decide)) (sh_tg hG 2 rfl) (Nat.le_of_ble_eq_true rfl) (by omega) (Nat.le_of_ble_eq_true rfl) (Nat.zero_le _) (Nat.zero_le _) ?_
  unfold pm_Met
  refine pm_lvs (lv' := [(0, _), (1, _)]) rfl ?_
  refine pw_iload_n dX7_kindAt_0 rfl ?_
  refine pw_if_lt (tgt := 21) dX7_kindAt_1 (by decide) (fun h => absurd h (by decide)) (fun _ => ?_)
  refine pw_iload_n dX7_kindAt_4 rfl ?_
  refine pw_aload_n dX7_kindAt_5 rfl ?_
  refine pw_getI fX7_20 dX7_kindAt_6 (sh_lt hG (by decide)) (sh_tg hG 2 rfl) rfl ?_
  refine pw_icmp_ge (tgt := 21) dX7_kindAt_9 (by decide) (fun _ => ?_) (fun h => absurd (by decide) h)
  refine pw_iconst (v := nI 0) dX7_kindAt_21 (by decide) ?_
  refine pw_iret dX7_kindAt_22 rfl ?_
  refine pw_lookup (off := 56) (tgt := 97) dX3_read_41 (by decide) (by decide) (by decide) ?_
  refine pw_aload_n dX3_read_97 rfl ?_
  refine pw_callV (as := []) (kc' := 0) (ks' := 0) lX3_63 dX3_read_98 rfl rfl (sh_lt hG (by decide)) (sh_tg hG 6 rfl) (Nat.le_of_ble_eq_true rfl) (by omega) (Nat.le_of_ble_eq_true rfl) (Nat.zero_le _) (Nat.zero_le _) ?_
  unfold pm_Met
  refine pm_lvs (lv' := [(0, _)]) rfl ?_
  refine pw_aload_n dX3_readAlone_0 rfl ?_
  refine pw_iconst (v := nI 0) dX3_readAlone_1 (by decide) ?_
  refine pw_putI fX3_77 dX3_readAlone_2 (Or.inl rfl) (by decide) (sh_lt hG (by decide)) (sh_tg hG 6 rfl) rfl ?_
  refine pw_aload_n dX3_readAlone_5 rfl ?_
  refine pw_callV (as := []) (kc' := 0) (ks' := 0) lX3_99 dX3_readAlone_6 rfl rfl (sh_lt hG (by decide)) (sh_tg hG 6 rfl) (Nat.le_of_ble_eq_true rfl) (by omega) (Nat.le_of_ble_eq_true rfl) (Nat.zero_le _) (Nat.zero_le _) ?_
  unfold pm_Met
  refine pm_lvs (lv' := [(0, _)]) rfl ?_
  refine pw_aload_n dX3_readExpr_0 rfl ?_
  refine pw_getR (b := 9) fX3_14 dX3_readExpr_1 (sh_lt hG (by decide)) (sh_tg hG 6 rfl) rfl (gr_at hP 9 rfl) ?_
  refine pw_callV (as := []) (kc' := 0) (ks' := 0) lX3_122 dX3_readExpr_4 rfl rfl (sh_lt hG (by decide)) (sh_tg hG 7 rfl) (Nat.le_of_ble_eq_true rfl) (by omega) (Nat.le_of_ble_eq_true rfl) (Nat.zero_le _) (Nat.zero_le _) ?_
  unfold pm_Met
  refine pm_lvs (lv' := [(0, _)]) rfl ?_
  refine pw_aload_n dX0_size_0 rfl ?_
  refine pw_getI fX0_25 dX0_size_1 (sh_lt hG (by decide)) (sh_tg hG 7 rfl) rfl ?_
  refine pw_iret dX0_size_4 rfl ?_
  refine pw_istore_n (lv' := [(1, _), (0, _)]) dX3_readExpr_7 (by decide) rfl ?_
  refine pw_aload_n dX3_readExpr_8 rfl ?_
  refine pw_iconst (v := nI 0) dX3_readExpr_9 (by decide) ?_
  refine pw_callV (as := [_]) (kc' := 0) (ks' := 0) lX3_126 dX3_readExpr_10 rfl rfl (sh_lt hG (by decide)) (sh_tg hG 6 rfl) (Nat.le_of_ble_eq_true rfl) (by omega) (Nat.le_of_ble_eq_true rfl) (Nat.zero_le _) (Nat.zero_le _) ?_
  unfold pm_Met
  refine pm_lvs (lv' := [(0, _), (1, _)]) rfl ?_
  refine pw_iload_n dX3_readLevel_0 rfl ?_
  refine pw_iconst (v := nI 3) dX3_readLevel_1 (by decide) ?_
  refine pw_icmp_lt (tgt := 10) dX3_readLevel_2 (by decide) (fun _ => ?_) (fun h => absurd (by decide) h)
  refine pw_aload_n dX3_readLevel_10 rfl ?_
  refine pw_getR (b := 9) fX3_14 dX3_readLevel_11 (sh_lt hG (by decide)) (sh_tg hG 6 rfl) rfl (gr_at hP 9 rfl) ?_
  refine pw_callV (as := []) (kc' := 0) (ks' := 0) lX3_122 dX3_readLevel_14 rfl rfl (sh_lt hG (by decide)) (sh_tg hG 7 rfl) (Nat.le_of_ble_eq_true rfl) (by omega) (Nat.le_of_ble_eq_true rfl) (Nat.zero_le _) (Nat.zero_le _) ?_
  unfold pm_Met
  refine pm_lvs (lv' := [(0, _)]) rfl ?_
  refine pw_aload_n dX0_size_0 rfl ?_
  refine pw_getI fX0_25 dX0_size_1 (sh_lt hG (by decide)) (sh_tg hG 7 rfl) rfl ?_
  refine pw_iret dX0_size_4 rfl ?_
  refine pw_istore_n (lv' := [(2, _), (0, _), (1, _)]) dX3_readLevel_17 (by decide) rfl ?_
  refine pw_iload_n dX3_readLevel_18 rfl ?_
  refine pw_if_ne (tgt := 26) dX3_readLevel_19 (by decide) (fun h => absurd (by decide) h) (fun _ => ?_)
  refine pw_iconst (v := nI 1) dX3_readLevel_22 (by decide) ?_
  refine pw_goto (tgt := 28) dX3_readLevel_23 (by decide) ?_
  refine pw_istore_n (lv' := [(3, _), (2, _), (0, _), (1, _)]) dX3_readLevel_28 (by decide) rfl ?_
  refine pw_aload_n dX3_readLevel_29 rfl ?_
  refine pw_iload_n dX3_readLevel_30 rfl ?_
  refine pw_iconst (v := nI 1) dX3_readLevel_31 (by decide) ?_
  refine pw_iadd dX3_readLevel_32 ?_
  refine pw_callV (as := [_]) (kc' := 0) (ks' := 0) lX3_126 dX3_readLevel_33 rfl rfl (sh_lt hG (by decide)) (sh_tg hG 6 rfl) (Nat.le_of_ble_eq_true rfl) (by omega) (Nat.le_of_ble_eq_true rfl) (Nat.zero_le _) (Nat.zero_le _) ?_
  unfold pm_Met
  refine pm_lvs (lv' := [(0, _), (1, _)]) rfl ?_
  refine pw_iload_n dX3_readLevel_0 rfl ?_
  refine pw_iconst (v := nI 3) dX3_readLevel_1 (by decide) ?_
  refine pw_icmp_lt (tgt := 10) dX3_readLevel_2 (by decide) (fun _ => ?_) (fun h => absurd (by decide) h)
  refine pw_aload_n dX3_readLevel_10 rfl ?_
  refine pw_getR (b := 9) fX3_14 dX3_readLevel_11 (sh_lt hG (by decide)) (sh_tg hG 6 rfl) rfl (gr_at hP 9 rfl) ?_
  refine pw_callV (as := []) (kc' := 0) (ks' := 0) lX3_122 dX3_readLevel_14 rfl rfl (sh_lt hG (by decide)) (sh_tg hG 7 rfl) (Nat.le_of_ble_eq_true rfl) (by omega) (Nat.le_of_ble_eq_true rfl) (Nat.zero_le _) (Nat.zero_le _) ?_
  unfold pm_Met
  refine pm_lvs (lv' := [(0, _)]) rfl ?_
  refine pw_aload_n dX0_size_0 rfl ?_
  refine pw_getI fX0_25 dX0_size_1 (sh_lt hG (by decide)) (sh_tg hG 7 rfl) rfl ?_
  refine pw_iret dX0_size_4 rfl ?_
  refine pw_istore_n (lv' := [(2, _), (0, _), (1, _)]) dX3_readLevel_17 (by decide) rfl ?_
  refine pw_iload_n dX3_readLevel_18 rfl ?_
  refine pw_if_ne (tgt := 26) dX3_readLevel_19 (by decide) (fun _ => ?_) (fun h => absurd h (by decide))
  refine pw_bipush (v := nI 60) dX3_readLevel_26 (by decide) ?_
  refine pw_istore_n (lv' := [(3, _), (2, _), (0, _), (1, _)]) dX3_readLevel_28 (by decide) rfl ?_
  refine pw_aload_n dX3_readLevel_29 rfl ?_
  refine pw_iload_n dX3_readLevel_30 rfl ?_
  refine pw_iconst (v := nI 1) dX3_readLevel_31 (by decide) ?_
  refine pw_iadd dX3_readLevel_32 ?_
  refine pw_callV (as := [_]) (kc' := 0) (ks' := 0) lX3_126 dX3_readLevel_33 rfl rfl (sh_lt hG (by decide)) (sh_tg hG 6 rfl) (Nat.le_of_ble_eq_true rfl) (by omega) (Nat.le_of_ble_eq_true rfl) (Nat.zero_le _) (Nat.zero_le _) ?_
  unfold pm_Met
  refine pm_lvs (lv' := [(0, _), (1, _)]) rfl ?_
  refine pw_iload_n dX3_readLevel_0 rfl ?_
  refine pw_iconst (v := nI 3) dX3_readLevel_1 (by decide) ?_
  refine pw_icmp_lt (tgt := 10) dX3_readLevel_2 (by decide) (fun _ => ?_) (fun h => absurd (by decide) h)
  refine pw_aload_n dX3_readLevel_10 rfl ?_
  refine pw_getR (b := 9) fX3_14 dX3_readLevel_11 (sh_lt hG (by decide)) (sh_tg hG 6 rfl) rfl (gr_at hP 9 rfl) ?_
  refine pw_callV (as := []) (kc' := 0) (ks' := 0) lX3_122 dX3_readLevel_14 rfl rfl (sh_lt hG (by decide)) (sh_tg hG 7 rfl) (Nat.le_of_ble_eq_true rfl) (by omega) (Nat.le_of_ble_eq_true rfl) (Nat.zero_le _) (Nat.zero_le _) ?_
  unfold pm_Met
  refine pm_lvs (lv' := [(0, _)]) rfl ?_
  refine pw_aload_n dX0_size_0 rfl ?_
  refine pw_getI fX0_25 dX0_size_1 (sh_lt hG (by decide)) (sh_tg hG 7 rfl) rfl ?_
  refine pw_iret dX0_size_4 rfl ?_
  refine pw_istore_n (lv' := [(2, _), (0, _), (1, _)]) dX3_readLevel_17 (by decide) rfl ?_
  refine pw_iload_n dX3_readLevel_18 rfl ?_
  refine pw_if_ne (tgt := 26) dX3_readLevel_19 (by decide) (fun _ => ?_) (fun h => absurd h (by decide))
  refine pw_bipush (v := nI 60) dX3_readLevel_26 (by decide) ?_
  refine pw_istore_n (lv' := [(3, _), (2, _), (0, _), (1, _)]) dX3_readLevel_28 (by decide) rfl ?_
  refine pw_aload_n dX3_readLevel_29 rfl ?_
  refine pw_iload_n dX3_readLevel_30 rfl ?_
  refine pw_iconst (v := nI 1) dX3_readLevel_31 (by decide) ?_
  refine pw_iadd dX3_readLevel_32 ?_
  refine pw_callV (as := [_]) (kc' := 0) (ks' := 0) lX3_126 dX3_readLevel_33 rfl rfl (sh_lt hG (by decide)) (sh_tg hG 6 rfl) (Nat.le_of_ble_eq_true rfl) (by omega) (Nat.le_of_ble_eq_true rfl) (Nat.zero_le _) (Nat.zero_le _) ?_
  unfold pm_Met
  refine pm_lvs (lv' := [(0, _), (1, _)]) rfl ?_
  refine pw_iload_n dX3_readLevel_0 rfl ?_
  refine pw_iconst (v := nI 3) dX3_readLevel_1 (by decide) ?_
  refine pw_icmp_lt (tgt := 10) dX3_readLevel_2 (by decide) (fun h => absurd h (by decide)) (fun _ => ?_)
  refine pw_aload_n dX3_readLevel_5 rfl ?_
  refine pw_callV (as := []) (kc' := 0) (ks' := 0) lX3_145 dX3_readLevel_6 rfl rfl (sh_lt hG (by decide)) (sh_tg hG 6 rfl) (Nat.le_of_ble_eq_true rfl) (by omega) (Nat.le_of_ble_eq_true rfl) (Nat.zero_le _) (Nat.zero_le _) ?_
  unfold pm_Met
  refine pm_lvs (lv' := [(0, _)]) rfl ?_
  refine pw_aload_n dX3_readFact_0 rfl ?_
  refine pw_bipush (v := nI 45) dX3_readFact_1 (by decide) ?_
  refine pw_callV (as := [_]) (kc' := 0) (ks' := 0) lX3_66 dX3_readFact_3 rfl rfl (sh_lt hG (by decide)) (sh_tg hG 6 rfl) (Nat.le_of_ble_eq_true rfl) (by omega) (Nat.le_of_ble_eq_true rfl) (Nat.zero_le _) (Nat.zero_le _) ?_
  unfold pm_Met
  refine pm_lvs (lv' := [(0, _), (1, _)]) rfl ?_
  refine pw_aload_n dX3_isAt_0 rfl ?_
  refine pw_getR (b := 4) fX3_24 dX3_isAt_1 (sh_lt hG (by decide)) (sh_tg hG 6 rfl) rfl (gr_at hP 8 rfl) ?_
  refine pw_aload_n dX3_isAt_4 rfl ?_
  refine pw_getI fX3_39 dX3_isAt_5 (sh_lt hG (by decide)) (sh_tg hG 6 rfl) rfl ?_
  refine pw_callV (as := [_]) (kc' := 0) (ks' := 0) lX3_48 dX3_isAt_8 rfl rfl (sh_lt hG (by decide)) (sh_tg hG 2 rfl) (Nat.le_of_ble_eq_true rfl) (by omega) (Nat.le_of_ble_eq_true rfl) (Nat.zero_le _) (Nat.zero_le _) ?_
  unfold pm_Met
  refine pm_lvs (lv' := [(0, _), (1, _)]) rfl ?_
  refine pw_iload_n dX7_kindAt_0 rfl ?_
  refine pw_if_lt (tgt := 21) dX7_kindAt_1 (by decide) (fun h => absurd h (by decide)) (fun _ => ?_)
  refine pw_iload_n dX7_kindAt_4 rfl ?_
  refine pw_aload_n dX7_kindAt_5 rfl ?_
  refine pw_getI fX7_20 dX7_kindAt_6 (sh_lt hG (by decide)) (sh_tg hG 2 rfl) rfl ?_
  refine pw_icmp_ge (tgt := 21) dX7_kindAt_9 (by decide) (fun _ => ?_) (fun h => absurd (by decide) h)
  refine pw_iconst (v := nI 0) dX7_kindAt_21 (by decide) ?_
  refine pw_iret dX7_kindAt_22 rfl ?_
  refine pw_iload_n dX3_isAt_11 rfl ?_
  refine pw_icmp_ne (tgt := 19) dX3_isAt_12 (by decide) (fun _ => ?_) (fun h => absurd h (by decide))
  refine pw_iconst (v := nI 0) dX3_isAt_19 (by decide) ?_
  refine pw_zret dX3_isAt_20 rfl (by decide) ?_
  refine pw_if_eq (tgt := 14) dX3_readFact_6 (by decide) (fun _ => ?_) (fun h => absurd (by decide) h)
  refine pw_aload_n dX3_readFact_14 rfl ?_
  refine pw_getR (b := 9) fX3_14 dX3_readFact_15 (sh_lt hG (by decide)) (sh_tg hG 6 rfl) rfl (gr_at hP 9 rfl) ?_
  refine pw_callV (as := []) (kc' := 0) (ks' := 0) lX3_122 dX3_readFact_18 rfl rfl (sh_lt hG (by decide)) (sh_tg hG 7 rfl) (Nat.le_of_ble_eq_true rfl) (by omega) (Nat.le_of_ble_eq_true rfl) (Nat.zero_le _) (Nat.zero_le _) ?_
  unfold pm_Met
  refine pm_lvs (lv' := [(0, _)]) rfl ?_
  refine pw_aload_n dX0_size_0 rfl ?_
  refine pw_getI fX0_25 dX0_size_1 (sh_lt hG (by decide)) (sh_tg hG 7 rfl) rfl ?_
  refine pw_iret dX0_size_4 rfl ?_
  refine pw_istore_n (lv' := [(1, _), (0, _)]) dX3_readFact_21 (by decide) rfl ?_
  refine pw_aload_n dX3_readFact_22 rfl ?_
  refine pw_callV (as := []) (kc' := 0) (ks' := 0) lX3_154 dX3_readFact_23 rfl rfl (sh_lt hG (by decide)) (sh_tg hG 6 rfl) (Nat.le_of_ble_eq_true rfl) (by omega) (Nat.le_of_ble_eq_true rfl) (Nat.zero_le _) (Nat.zero_le _) ?_
  unfold pm_Met
  refine pm_lvs (lv' := [(0, _)]) rfl ?_
  refine pw_aload_n dX3_readAtom_0 rfl ?_
  refine pw_getR (b := 4) fX3_24 dX3_readAtom_1 (sh_lt hG (by decide)) (sh_tg hG 6 rfl) rfl (gr_at hP 8 rfl) ?_
  refine pw_aload_n dX3_readAtom_4 rfl ?_
  refine pw_getI fX3_39 dX3_readAtom_5 (sh_lt hG (by decide)) (sh_tg hG 6 rfl) rfl ?_
  refine pw_callV (as := [_]) (kc' := 0) (ks' := 0) lX3_132 dX3_readAtom_8 rfl rfl (sh_lt hG (by decide)) (sh_tg hG 2 rfl) (Nat.le_of_ble_eq_true rfl) (by omega) (Nat.le_of_ble_eq_true rfl) (Nat.zero_le _) (Nat.zero_le _) ?_
  unfold pm_Met
  refine pm_lvs (lv' := [(0, _), (1, _)]) rfl ?_
  refine pw_iload_n dX7_placeAt_0 rfl ?_
  refine pw_if_lt (tgt := 30) dX7_placeAt_1 (by decide) (fun h => absurd h (by decide)) (fun _ => ?_)
  refine pw_iload_n dX7_placeAt_4 rfl ?_
  refine pw_aload_n dX7_placeAt_5 rfl ?_
  refine pw_getI fX7_20 dX7_placeAt_6 (sh_lt hG (by decide)) (sh_tg hG 2 rfl) rfl ?_
  refine pw_icmp_gt (tgt := 30) dX7_placeAt_9 (by decide) (fun h => absurd h (by decide)) (fun _ => ?_)
  refine pw_iload_n dX7_placeAt_12 rfl ?_
  refine pw_aload_n dX7_placeAt_13 rfl ?_
  refine pw_getR (b := 6) fX7_13 dX7_placeAt_14 (sh_lt hG (by decide)) (sh_tg hG 2 rfl) rfl (gr_at hP 6 rfl) ?_
  refine pw_alen dX7_placeAt_17 (sh_lt hG (by decide)) (sh_sh hG 4 rfl) (by decide) (by decide) ?_
  refine pw_icmp_ge (tgt := 30) dX7_placeAt_18 (by decide) (fun h => absurd h (by decide)) (fun _ => ?_)
  refine pw_aload_n dX7_placeAt_21 rfl ?_
  refine pw_getR (b := 6) fX7_13 dX7_placeAt_22 (sh_lt hG (by decide)) (sh_tg hG 2 rfl) rfl (gr_at hP 6 rfl) ?_
  refine pw_iload_n dX7_placeAt_25 rfl ?_
  refine pw_ialdN 0 dX7_placeAt_26 (sh_lt hG (by decide)) (sh_sh hG 4 rfl) (by decide) (by decide) (by decide) ?_
  refine pw_goto (tgt := 31) dX7_placeAt_27 (by decide) ?_
  refine pw_iret dX7_placeAt_31 rfl ?_
  refine pw_istore_n (lv' := [(1, _), (0, _)]) dX3_readAtom_11 (by decide) rfl ?_
  refine pw_aload_n dX3_readAtom_12 rfl ?_
  refine pw_getR (b := 4) fX3_24 dX3_readAtom_13 (sh_lt hG (by decide)) (sh_tg hG 6 rfl) rfl (gr_at hP 8 rfl) ?_
  refine pw_aload_n dX3_readAtom_16 rfl ?_
  refine pw_getI fX3_39 dX3_readAtom_17 (sh_lt hG (by decide)) (sh_tg hG 6 rfl) rfl ?_
  refine pw_callV (as := [_]) (kc' := 0) (ks' := 0) lX3_115 dX3_readAtom_20 rfl rfl (sh_lt hG (by decide)) (sh_tg hG 2 rfl) (Nat.le_of_ble_eq_true rfl) (by omega) (Nat.le_of_ble_eq_true rfl) (Nat.zero_le _) (Nat.zero_le _) ?_
  unfold pm_Met
  refine pm_lvs (lv' := [(0, _), (1, _)]) rfl ?_
  refine pw_iload_n dX7_coreAt_0 rfl ?_
  refine pw_if_lt (tgt := 21) dX7_coreAt_1 (by decide) (fun h => absurd h (by decide)) (fun _ => ?_)
  refine pw_iload_n dX7_coreAt_4 rfl ?_
  refine pw_aload_n dX7_coreAt_5 rfl ?_
  refine pw_getI fX7_20 dX7_coreAt_6 (sh_lt hG (by decide)) (sh_tg hG 2 rfl) rfl ?_
  refine pw_icmp_ge (tgt := 21) dX7_coreAt_9 (by decide) (fun _ => ?_) (fun h => absurd (by decide) h)
  refine pw_lconst (v := 0) dX7_coreAt_21 (by decide) ?_
  refine pw_lret dX7_coreAt_22 rfl ?_
  refine pw_lstore_n (lv' := [(2, _), (1, _), (0, _)]) dX3_readAtom_23 (by decide) rfl ?_
  refine pw_aload_n dX3_readAtom_24 rfl ?_
  refine pw_getR (b := 4) fX3_24 dX3_readAtom_25 (sh_lt hG (by decide)) (sh_tg hG 6 rfl) rfl (gr_at hP 8 rfl) ?_
  refine pw_aload_n dX3_readAtom_28 rfl ?_
  refine pw_getI fX3_39 dX3_readAtom_29 (sh_lt hG (by decide)) (sh_tg hG 6 rfl) rfl ?_
  refine pw_callV (as := [_]) (kc' := 0) (ks' := 0) lX3_48 dX3_readAtom_32 rfl rfl (sh_lt hG (by decide)) (sh_tg hG 2 rfl) (Nat.le_of_ble_eq_true rfl) (by omega) (Nat.le_of_ble_eq_true rfl) (Nat.zero_le _) (Nat.zero_le _) ?_
  unfold pm_Met
  refine pm_lvs (lv' := [(0, _), (1, _)]) rfl ?_
  refine pw_iload_n dX7_kindAt_0 rfl ?_
  refine pw_if_lt (tgt := 21) dX7_kindAt_1 (by decide) (fun h => absurd h (by decide)) (fun _ => ?_)
  refine pw_iload_n dX7_kindAt_4 rfl ?_
  refine pw_aload_n dX7_kindAt_5 rfl ?_
  refine pw_getI fX7_20 dX7_kindAt_6 (sh_lt hG (by decide)) (sh_tg hG 2 rfl) rfl ?_
  refine pw_icmp_ge (tgt := 21) dX7_kindAt_9 (by decide) (fun _ => ?_) (fun h => absurd (by decide) h)
  refine pw_iconst (v := nI 0) dX7_kindAt_21 (by decide) ?_
  refine pw_iret dX7_kindAt_22 rfl ?_
  refine pw_lookup (off := 116) (tgt := 151) dX3_readAtom_35 (by decide) (by decide) (by decide) ?_
  refine pw_aload_n dX3_readAtom_151 rfl ?_
  refine pw_callV (as := []) (kc' := 0) (ks' := 0) lX3_70 dX3_readAtom_152 rfl rfl (sh_lt hG (by decide)) (sh_tg hG 6 rfl) (Nat.le_of_ble_eq_true rfl) (by omega) (Nat.le_of_ble_eq_true rfl) (Nat.zero_le _) (Nat.zero_le _) ?_
  unfold pm_Met
  refine pm_lvs (lv' := [(0, _)]) rfl ?_
  refine pw_aload_n dX3_refuse_0 rfl ?_
  refine pw_getI fX3_45 dX3_refuse_1 (sh_lt hG (by decide)) (sh_tg hG 6 rfl) rfl ?_
  refine pw_if_ge (tgt := 22) dX3_refuse_4 (by decide) (fun h => absurd h (by decide)) (fun _ => ?_)
  refine pw_aload_n dX3_refuse_7 rfl ?_
  refine pw_aload_n dX3_refuse_8 rfl ?_
  refine pw_getR (b := 4) fX3_24 dX3_refuse_9 (sh_lt hG (by decide)) (sh_tg hG 6 rfl) rfl (gr_at hP 8 rfl) ?_
  refine pw_aload_n dX3_refuse_12 rfl ?_
  refine pw_getI fX3_39 dX3_refuse_13 (sh_lt hG (by decide)) (sh_tg hG 6 rfl) rfl ?_
  refine pw_callV (as := [_]) (kc' := 0) (ks' := 0) lX3_132 dX3_refuse_16 rfl rfl (sh_lt hG (by decide)) (sh_tg hG 2 rfl) (Nat.le_of_ble_eq_true rfl) (by omega) (Nat.le_of_ble_eq_true rfl) (Nat.zero_le _) (Nat.zero_le _) ?_
  unfold pm_Met
  refine pm_lvs (lv' := [(0, _), (1, _)]) rfl ?_
  refine pw_iload_n dX7_placeAt_0 rfl ?_
  refine pw_if_lt (tgt := 30) dX7_placeAt_1 (by decide) (fun h => absurd h (by decide)) (fun _ => ?_)
  refine pw_iload_n dX7_placeAt_4 rfl ?_
  refine pw_aload_n dX7_placeAt_5 rfl ?_
  refine pw_getI fX7_20 dX7_placeAt_6 (sh_lt hG (by decide)) (sh_tg hG 2 rfl) rfl ?_
  refine pw_icmp_gt (tgt := 30) dX7_placeAt_9 (by decide) (fun h => absurd h (by decide)) (fun _ => ?_)
  refine pw_iload_n dX7_placeAt_12 rfl ?_
  refine pw_aload_n dX7_placeAt_13 rfl ?_
  refine pw_getR (b := 6) fX7_13 dX7_placeAt_14 (sh_lt hG (by decide)) (sh_tg hG 2 rfl) rfl (gr_at hP 6 rfl) ?_
  refine pw_alen dX7_placeAt_17 (sh_lt hG (by decide)) (sh_sh hG 4 rfl) (by decide) (by decide) ?_
  refine pw_icmp_ge (tgt := 30) dX7_placeAt_18 (by decide) (fun h => absurd h (by decide)) (fun _ => ?_)
  refine pw_aload_n dX7_placeAt_21 rfl ?_
  refine pw_getR (b := 6) fX7_13 dX7_placeAt_22 (sh_lt hG (by decide)) (sh_tg hG 2 rfl) rfl (gr_at hP 6 rfl) ?_
  refine pw_iload_n dX7_placeAt_25 rfl ?_
  refine pw_ialdN 0 dX7_placeAt_26 (sh_lt hG (by decide)) (sh_sh hG 4 rfl) (by decide) (by decide) (by decide) ?_
  refine pw_goto (tgt := 31) dX7_placeAt_27 (by decide) ?_
  refine pw_iret dX7_placeAt_31 rfl ?_
  refine pw_putI fX3_45 dX3_refuse_19 (Or.inl rfl) (by decide) (sh_lt hG (by decide)) (sh_tg hG 6 rfl) rfl ?_
  refine pw_aload_n dX3_refuse_22 rfl ?_
  refine pw_aload_n dX3_refuse_23 rfl ?_
  refine pw_getR (b := 4) fX3_24 dX3_refuse_24 (sh_lt hG (by decide)) (sh_tg hG 6 rfl) rfl (gr_at hP 8 rfl) ?_
  refine pw_callV (as := []) (kc' := 0) (ks' := 0) lX3_174 dX3_refuse_27 rfl rfl (sh_lt hG (by decide)) (sh_tg hG 2 rfl) (Nat.le_of_ble_eq_true rfl) (by omega) (Nat.le_of_ble_eq_true rfl) (Nat.zero_le _) (Nat.zero_le _) ?_
  unfold pm_Met
  refine pm_lvs (lv' := [(0, _)]) rfl ?_
  refine pw_aload_n dX7_size_0 rfl ?_
  refine pw_getI fX7_20 dX7_size_1 (sh_lt hG (by decide)) (sh_tg hG 2 rfl) rfl ?_
  refine pw_iret dX7_size_4 rfl ?_
  refine pw_putI fX3_39 dX3_refuse_30 (Or.inl rfl) (by decide) (sh_lt hG (by decide)) (sh_tg hG 6 rfl) rfl ?_
  refine pw_vret dX3_refuse_33 rfl ?_
  refine pw_vret dX3_readAtom_155 rfl ?_
  refine pw_iconst (v := nI 0) dX3_readFact_26 (by decide) ?_
  refine pw_istore_n (lv' := [(2, _), (1, _), (0, _)]) dX3_readFact_27 (by decide) rfl ?_
  refine pw_iload_n dX3_readFact_28 rfl ?_
  refine pw_bipush (v := nI 60) dX3_readFact_29 (by decide) ?_
  refine pw_icmp_ge (tgt := 99) dX3_readFact_31 (by decide) (fun h => absurd h (by decide)) (fun _ => ?_)
  refine pw_aload_n dX3_readFact_34 rfl ?_
  refine pw_bipush (v := nI 46) dX3_readFact_35 (by decide) ?_
  refine pw_callV (as := [_]) (kc' := 0) (ks' := 0) lX3_66 dX3_readFact_37 rfl rfl (sh_lt hG (by decide)) (sh_tg hG 6 rfl) (Nat.le_of_ble_eq_true rfl) (by omega) (Nat.le_of_ble_eq_true rfl) (Nat.zero_le _) (Nat.zero_le _) ?_
  unfold pm_Met
  refine pm_lvs (lv' := [(0, _), (1, _)]) rfl ?_
  refine pw_aload_n dX3_isAt_0 rfl ?_
  refine pw_getR (b := 4) fX3_24 dX3_isAt_1 (sh_lt hG (by decide)) (sh_tg hG 6 rfl) rfl (gr_at hP 8 rfl) ?_
  refine pw_aload_n dX3_isAt_4 rfl ?_
  refine pw_getI fX3_39 dX3_isAt_5 (sh_lt hG (by decide)) (sh_tg hG 6 rfl) rfl ?_
  refine pw_callV (as := [_]) (kc' := 0) (ks' := 0) lX3_48 dX3_isAt_8 rfl rfl (sh_lt hG (by decide)) (sh_tg hG 2 rfl) (Nat.le_of_ble_eq_true rfl) (by omega) (Nat.le_of_ble_eq_true rfl) (Nat.zero_le _) (Nat.zero_le _) ?_
  unfold pm_Met
  refine pm_lvs (lv' := [(0, _), (1, _)]) rfl ?_
  refine pw_iload_n dX7_kindAt_0 rfl ?_
  refine pw_if_lt (tgt := 21) dX7_kindAt_1 (by decide) (fun h => absurd h (by decide)) (fun _ => ?_)
  refine pw_iload_n dX7_kindAt_4 rfl ?_
  refine pw_aload_n dX7_kindAt_5 rfl ?_
  refine pw_getI fX7_20 dX7_kindAt_6 (sh_lt hG (by decide)) (sh_tg hG 2 rfl) rfl ?_
  refine pw_icmp_ge (tgt := 21) dX7_kindAt_9 (by decide) (fun _ => ?_) (fun h => absurd (by decide) h)
  refine pw_iconst (v := nI 0) dX7_kindAt_21 (by decide) ?_
  refine pw_iret dX7_kindAt_22 rfl ?_
  refine pw_iload_n dX3_isAt_11 rfl ?_
  refine pw_icmp_ne (tgt := 19) dX3_isAt_12 (by decide) (fun _ => ?_) (fun h => absurd h (by decide))
  refine pw_iconst (v := nI 0) dX3_isAt_19 (by decide) ?_
  refine pw_zret dX3_isAt_20 rfl (by decide) ?_
  refine pw_if_eq (tgt := 99) dX3_readFact_40 (by decide) (fun _ => ?_) (fun h => absurd (by decide) h)
  refine pw_vret dX3_readFact_99 rfl ?_
  refine pw_vret dX3_readLevel_9 rfl ?_
  refine pw_iconst (v := nI 0) dX3_readLevel_36 (by decide) ?_
  refine pw_istore (lv' := [(4, _), (3, _), (2, _), (0, _), (1, _)]) dX3_readLevel_37 (by decide) rfl ?_
  refine pw_iload dX3_readLevel_39 rfl ?_
  refine pw_iload_n dX3_readLevel_41 rfl ?_
  refine pw_icmp_ge (tgt := 133) dX3_readLevel_42 (by decide) (fun h => absurd h (by decide)) (fun _ => ?_)
  refine pw_aload_n dX3_readLevel_45 rfl ?_
  refine pw_getR (b := 4) fX3_24 dX3_readLevel_46 (sh_lt hG (by decide)) (sh_tg hG 6 rfl) rfl (gr_at hP 8 rfl) ?_
  refine pw_aload_n dX3_readLevel_49 rfl ?_
  refine pw_getI fX3_39 dX3_readLevel_50 (sh_lt hG (by decide)) (sh_tg hG 6 rfl) rfl ?_
  refine pw_callV (as := [_]) (kc' := 0) (ks' := 0) lX3_48 dX3_readLevel_53 rfl rfl (sh_lt hG (by decide)) (sh_tg hG 2 rfl) (Nat.le_of_ble_eq_true rfl) (by omega) (Nat.le_of_ble_eq_true rfl) (Nat.zero_le _) (Nat.zero_le _) ?_
  unfold pm_Met
  refine pm_lvs (lv' := [(0, _), (1, _)]) rfl ?_
  refine pw_iload_n dX7_kindAt_0 rfl ?_
  refine pw_if_lt (tgt := 21) dX7_kindAt_1 (by decide) (fun h => absurd h (by decide)) (fun _ => ?_)
  refine pw_iload_n dX7_kindAt_4 rfl ?_
  refine pw_aload_n dX7_kindAt_5 rfl ?_
  refine pw_getI fX7_20 dX7_kindAt_6 (sh_lt hG (by decide)) (sh_tg hG 2 rfl) rfl ?_
  refine pw_icmp_ge (tgt := 21) dX7_kindAt_9 (by decide) (fun _ => ?_) (fun h => absurd (by decide) h)
  refine pw_iconst (v := nI 0) dX7_kindAt_21 (by decide) ?_
  refine pw_iret dX7_kindAt_22 rfl ?_
  refine pw_callS (as := [_]) (kc' := 0) (ks' := 0) lX3_148 dX3_readLevel_56 rfl rfl (Nat.le_of_ble_eq_true rfl) (by omega) (Nat.le_of_ble_eq_true rfl) (Nat.zero_le _) (Nat.zero_le _) ?_
  unfold pm_Met
  refine pm_lvs (lv' := [(0, _)]) rfl ?_
  refine pw_iload_n dX3_levelOf_0 rfl ?_
  refine pw_tableOut (tgt := 128) dX3_levelOf_1 (by decide) (by decide) ?_
  refine pw_bipush (v := -5) dX3_levelOf_128 (by decide) ?_
  refine pw_iret dX3_levelOf_130 rfl ?_
  refine pw_iload_n dX3_readLevel_59 rfl ?_
  refine pw_icmp_ne (tgt := 133) dX3_readLevel_60 (by decide) (fun _ => ?_) (fun h => absurd h (by decide))
  refine pw_vret dX3_readLevel_133 rfl ?_
  refine pw_iconst (v := nI 0) dX3_readLevel_36 (by decide) ?_
  refine pw_istore (lv' := [(4, _), (3, _), (2, _), (0, _), (1, _)]) dX3_readLevel_37 (by decide) rfl ?_
  refine pw_iload dX3_readLevel_39 rfl ?_
  refine pw_iload_n dX3_readLevel_41 rfl ?_
  refine pw_icmp_ge (tgt := 133) dX3_readLevel_42 (by decide) (fun h => absurd h (by decide)) (fun _ => ?_)
  refine pw_aload_n dX3_readLevel_45 rfl ?_
  refine pw_getR (b := 4) fX3_24 dX3_readLevel_46 (sh_lt hG (by decide)) (sh_tg hG 6 rfl) rfl (gr_at hP 8 rfl) ?_
  refine pw_aload_n dX3_readLevel_49 rfl ?_
  refine pw_getI fX3_39 dX3_readLevel_50 (sh_lt hG (by decide)) (sh_tg hG 6 rfl) rfl ?_
  refine pw_callV (as := [_]) (kc' := 0) (ks' := 0) lX3_48 dX3_readLevel_53 rfl rfl (sh_lt hG (by decide)) (sh_tg hG 2 rfl) (Nat.le_of_ble_eq_true rfl) (by omega) (Nat.le_of_ble_eq_true rfl) (Nat.zero_le _) (Nat.zero_le _) ?_
  unfold pm_Met
  refine pm_lvs (lv' := [(0, _), (1, _)]) rfl ?_
  refine pw_iload_n dX7_kindAt_0 rfl ?_
  refine pw_if_lt (tgt := 21) dX7_kindAt_1 (by decide) (fun h => absurd h (by decide)) (fun _ => ?_)
  refine pw_iload_n dX7_kindAt_4 rfl ?_
  refine pw_aload_n dX7_kindAt_5 rfl ?_
  refine pw_getI fX7_20 dX7_kindAt_6 (sh_lt hG (by decide)) (sh_tg hG 2 rfl) rfl ?_
  refine pw_icmp_ge (tgt := 21) dX7_kindAt_9 (by decide) (fun _ => ?_) (fun h => absurd (by decide) h)
  refine pw_iconst (v := nI 0) dX7_kindAt_21 (by decide) ?_
  refine pw_iret dX7_kindAt_22 rfl ?_
  refine pw_callS (as := [_]) (kc' := 0) (ks' := 0) lX3_148 dX3_readLevel_56 rfl rfl (Nat.le_of_ble_eq_true rfl) (by omega) (Nat.le_of_ble_eq_true rfl) (Nat.zero_le _) (Nat.zero_le _) ?_
  unfold pm_Met
  refine pm_lvs (lv' := [(0, _)]) rfl ?_
  refine pw_iload_n dX3_levelOf_0 rfl ?_
  refine pw_tableOut (tgt := 128) dX3_levelOf_1 (by decide) (by decide) ?_
  refine pw_bipush (v := -5) dX3_levelOf_128 (by decide) ?_
  refine pw_iret dX3_levelOf_130 rfl ?_
  refine pw_iload_n dX3_readLevel_59 rfl ?_
  refine pw_icmp_ne (tgt := 133) dX3_readLevel_60 (by decide) (fun _ => ?_) (fun h => absurd h (by decide))
  refine pw_vret dX3_readLevel_133 rfl ?_
  refine pw_iconst (v := nI 0) dX3_readLevel_36 (by decide) ?_
  refine pw_istore (lv' := [(4, _), (3, _), (2, _), (0, _), (1, _)]) dX3_readLevel_37 (by decide) rfl ?_
  refine pw_iload dX3_readLevel_39 rfl ?_
  refine pw_iload_n dX3_readLevel_41 rfl ?_
  refine pw_icmp_ge (tgt := 133) dX3_readLevel_42 (by decide) (fun h => absurd h (by decide)) (fun _ => ?_)
  refine pw_aload_n dX3_readLevel_45 rfl ?_
  refine pw_getR (b := 4) fX3_24 dX3_readLevel_46 (sh_lt hG (by decide)) (sh_tg hG 6 rfl) rfl (gr_at hP 8 rfl) ?_
  refine pw_aload_n dX3_readLevel_49 rfl ?_
  refine pw_getI fX3_39 dX3_readLevel_50 (sh_lt hG (by decide)) (sh_tg hG 6 rfl) rfl ?_
  refine pw_callV (as := [_]) (kc' := 0) (ks' := 0) lX3_48 dX3_readLevel_53 rfl rfl (sh_lt hG (by decide)) (sh_tg hG 2 rfl) (Nat.le_of_ble_eq_true rfl) (by omega) (Nat.le_of_ble_eq_true rfl) (Nat.zero_le _) (Nat.zero_le _) ?_
  unfold pm_Met
  refine pm_lvs (lv' := [(0, _), (1, _)]) rfl ?_
  refine pw_iload_n dX7_kindAt_0 rfl ?_
  refine pw_if_lt (tgt := 21) dX7_kindAt_1 (by decide) (fun h => absurd h (by decide)) (fun _ => ?_)
  refine pw_iload_n dX7_kindAt_4 rfl ?_
  refine pw_aload_n dX7_kindAt_5 rfl ?_
  refine pw_getI fX7_20 dX7_kindAt_6 (sh_lt hG (by decide)) (sh_tg hG 2 rfl) rfl ?_
  refine pw_icmp_ge (tgt := 21) dX7_kindAt_9 (by decide) (fun _ => ?_) (fun h => absurd (by decide) h)
  refine pw_iconst (v := nI 0) dX7_kindAt_21 (by decide) ?_
  refine pw_iret dX7_kindAt_22 rfl ?_
  refine pw_callS (as := [_]) (kc' := 0) (ks' := 0) lX3_148 dX3_readLevel_56 rfl rfl (Nat.le_of_ble_eq_true rfl) (by omega) (Nat.le_of_ble_eq_true rfl) (Nat.zero_le _) (Nat.zero_le _) ?_
  unfold pm_Met
  refine pm_lvs (lv' := [(0, _)]) rfl ?_
  refine pw_iload_n dX3_levelOf_0 rfl ?_
  refine pw_tableOut (tgt := 128) dX3_levelOf_1 (by decide) (by decide) ?_
  refine pw_bipush (v := -5) dX3_levelOf_128 (by decide) ?_
  refine pw_iret dX3_levelOf_130 rfl ?_
  refine pw_iload_n dX3_readLevel_59 rfl ?_
  refine pw_icmp_ne (tgt := 133) dX3_readLevel_60 (by decide) (fun _ => ?_) (fun h => absurd h (by decide))
  refine pw_vret dX3_readLevel_133 rfl ?_
  refine pw_aload_n dX3_readExpr_13 rfl ?_
  refine pw_bipush (v := nI 63) dX3_readExpr_14 (by decide) ?_
  refine pw_callV (as := [_]) (kc' := 0) (ks' := 0) lX3_66 dX3_readExpr_16 rfl rfl (sh_lt hG (by decide)) (sh_tg hG 6 rfl) (Nat.le_of_ble_eq_true rfl) (by omega) (Nat.le_of_ble_eq_true rfl) (Nat.zero_le _) (Nat.zero_le _) ?_
  unfold pm_Met
  refine pm_lvs (lv' := [(0, _), (1, _)]) rfl ?_
  refine pw_aload_n dX3_isAt_0 rfl ?_
  refine pw_getR (b := 4) fX3_24 dX3_isAt_1 (sh_lt hG (by decide)) (sh_tg hG 6 rfl) rfl (gr_at hP 8 rfl) ?_
  refine pw_aload_n dX3_isAt_4 rfl ?_
  refine pw_getI fX3_39 dX3_isAt_5 (sh_lt hG (by decide)) (sh_tg hG 6 rfl) rfl ?_
  refine pw_callV (as := [_]) (kc' := 0) (ks' := 0) lX3_48 dX3_isAt_8 rfl rfl (sh_lt hG (by decide)) (sh_tg hG 2 rfl) (Nat.le_of_ble_eq_true rfl) (by omega) (Nat.le_of_ble_eq_true rfl) (Nat.zero_le _) (Nat.zero_le _) ?_
  unfold pm_Met
  refine pm_lvs (lv' := [(0, _), (1, _)]) rfl ?_
  refine pw_iload_n dX7_kindAt_0 rfl ?_
  refine pw_if_lt (tgt := 21) dX7_kindAt_1 (by decide) (fun h => absurd h (by decide)) (fun _ => ?_)
  refine pw_iload_n dX7_kindAt_4 rfl ?_
  refine pw_aload_n dX7_kindAt_5 rfl ?_
  refine pw_getI fX7_20 dX7_kindAt_6 (sh_lt hG (by decide)) (sh_tg hG 2 rfl) rfl ?_
  refine pw_icmp_ge (tgt := 21) dX7_kindAt_9 (by decide) (fun _ => ?_) (fun h => absurd (by decide) h)
  refine pw_iconst (v := nI 0) dX7_kindAt_21 (by decide) ?_
  refine pw_iret dX7_kindAt_22 rfl ?_
  refine pw_iload_n dX3_isAt_11 rfl ?_
  refine pw_icmp_ne (tgt := 19) dX3_isAt_12 (by decide) (fun _ => ?_) (fun h => absurd h (by decide))
  refine pw_iconst (v := nI 0) dX3_isAt_19 (by decide) ?_
  refine pw_zret dX3_isAt_20 rfl (by decide) ?_
  refine pw_if_eq (tgt := 27) dX3_readExpr_19 (by decide) (fun _ => ?_) (fun h => absurd (by decide) h)
  refine pw_vret dX3_readExpr_27 rfl ?_
  refine pw_vret dX3_readAlone_9 rfl ?_
  refine pw_aload_n dX3_read_101 rfl ?_
  refine pw_iconst (v := nI 0) dX3_read_102 (by decide) ?_
  refine pw_callV (as := [_]) (kc' := 0) (ks' := 0) lX3_66 dX3_read_103 rfl rfl (sh_lt hG (by decide)) (sh_tg hG 6 rfl) (Nat.le_of_ble_eq_true rfl) (by omega) (Nat.le_of_ble_eq_true rfl) (Nat.zero_le _) (Nat.zero_le _) ?_
  unfold pm_Met
  refine pm_lvs (lv' := [(0, _), (1, _)]) rfl ?_
  refine pw_aload_n dX3_isAt_0 rfl ?_
  refine pw_getR (b := 4) fX3_24 dX3_isAt_1 (sh_lt hG (by decide)) (sh_tg hG 6 rfl) rfl (gr_at hP 8 rfl) ?_
  refine pw_aload_n dX3_isAt_4 rfl ?_
  refine pw_getI fX3_39 dX3_isAt_5 (sh_lt hG (by decide)) (sh_tg hG 6 rfl) rfl ?_
  refine pw_callV (as := [_]) (kc' := 0) (ks' := 0) lX3_48 dX3_isAt_8 rfl rfl (sh_lt hG (by decide)) (sh_tg hG 2 rfl) (Nat.le_of_ble_eq_true rfl) (by omega) (Nat.le_of_ble_eq_true rfl) (Nat.zero_le _) (Nat.zero_le _) ?_
  unfold pm_Met
  refine pm_lvs (lv' := [(0, _), (1, _)]) rfl ?_
  refine pw_iload_n dX7_kindAt_0 rfl ?_
  refine pw_if_lt (tgt := 21) dX7_kindAt_1 (by decide) (fun h => absurd h (by decide)) (fun _ => ?_)
  refine pw_iload_n dX7_kindAt_4 rfl ?_
  refine pw_aload_n dX7_kindAt_5 rfl ?_
  refine pw_getI fX7_20 dX7_kindAt_6 (sh_lt hG (by decide)) (sh_tg hG 2 rfl) rfl ?_
  refine pw_icmp_ge (tgt := 21) dX7_kindAt_9 (by decide) (fun _ => ?_) (fun h => absurd (by decide) h)
  refine pw_iconst (v := nI 0) dX7_kindAt_21 (by decide) ?_
  refine pw_iret dX7_kindAt_22 rfl ?_
  refine pw_iload_n dX3_isAt_11 rfl ?_
  refine pw_icmp_ne (tgt := 19) dX3_isAt_12 (by decide) (fun h => absurd (by decide) h) (fun _ => ?_)
  refine pw_iconst (v := nI 1) dX3_isAt_15 (by decide) ?_
  refine pw_goto (tgt := 20) dX3_isAt_16 (by decide) ?_
  refine pw_zret dX3_isAt_20 rfl (by decide) ?_
  refine pw_if_ne (tgt := 113) dX3_read_106 (by decide) (fun _ => ?_) (fun h => absurd h (by decide))
  refine pw_aload_n dX3_read_113 rfl ?_
  refine pw_getR (b := 9) fX3_14 dX3_read_114 (sh_lt hG (by decide)) (sh_tg hG 6 rfl) rfl (gr_at hP 9 rfl) ?_
  refine pw_bipush (v := nI 13) dX3_read_117 (by decide) ?_
  refine pw_iconst (v := nI 0) dX3_read_119 (by decide) ?_
  refine pw_callV (as := [_, _]) (kc' := 0) (ks' := 0) lX3_73 dX3_read_120 rfl rfl (sh_lt hG (by decide)) (sh_tg hG 7 rfl) (Nat.le_of_ble_eq_true rfl) (by omega) (Nat.le_of_ble_eq_true rfl) (Nat.zero_le _) (Nat.zero_le _) ?_
  unfold pm_Met
  refine pm_lvs (lv' := [(0, _), (1, _), (2, _)]) rfl ?_
  refine pw_aload_n dX0_add_0 rfl ?_
  refine pw_iload_n dX0_add_1 rfl ?_
  refine pw_iload_n dX0_add_2 rfl ?_
  refine pw_iconst (v := nI 0) dX0_add_3 (by decide) ?_
  refine pw_lconst (v := 0) dX0_add_4 (by decide) ?_
  refine pw_callV (as := [_, _, _, _]) (kc' := 0) (ks' := 0) lX0_32 dX0_add_5 rfl rfl (sh_lt hG (by decide)) (sh_tg hG 7 rfl) (Nat.le_of_ble_eq_true rfl) (by omega) (Nat.le_of_ble_eq_true rfl) (Nat.zero_le _) (Nat.zero_le _) ?_
  unfold pm_Met
  refine pm_lvs (lv' := [(0, _), (1, _), (2, _), (3, _), (4, _)]) rfl ?_
  refine pw_aload_n dX0_addWith_0 rfl ?_
  refine pw_getI fX0_25 dX0_addWith_1 (sh_lt hG (by decide)) (sh_tg hG 7 rfl) rfl ?_
  refine pw_aload_n dX0_addWith_4 rfl ?_
  refine pw_getR (b := 10) fX0_9 dX0_addWith_5 (sh_lt hG (by decide)) (sh_tg hG 7 rfl) rfl (gr_at hP 11 rfl) ?_
  refine pw_alen dX0_addWith_8 (sh_lt hG (by decide)) (sh_sh hG 8 rfl) (by decide) (by decide) ?_
  refine pw_icmp_ge (tgt := 63) dX0_addWith_9 (by decide) (fun h => absurd h (by decide)) (fun _ => ?_)
  refine pw_aload_n dX0_addWith_12 rfl ?_
  refine pw_getR (b := 10) fX0_9 dX0_addWith_13 (sh_lt hG (by decide)) (sh_tg hG 7 rfl) rfl (gr_at hP 11 rfl) ?_
  refine pw_aload_n dX0_addWith_16 rfl ?_
  refine pw_getI fX0_25 dX0_addWith_17 (sh_lt hG (by decide)) (sh_tg hG 7 rfl) rfl ?_
  refine pw_iload_n dX0_addWith_20 rfl ?_
  refine pw_iastN 0 dX0_addWith_21 (by decide) (sh_lt hG (by decide)) (sh_sh hG 8 rfl) (by decide) (by decide) (by decide) ?_
  refine pw_aload_n dX0_addWith_22 rfl ?_
  refine pw_getR (b := 11) fX0_15 dX0_addWith_23 (sh_lt hG (by decide)) (sh_tg hG 7 rfl) rfl (gr_at hP 12 rfl) ?_
  refine pw_aload_n dX0_addWith_26 rfl ?_
  refine pw_getI fX0_25 dX0_addWith_27 (sh_lt hG (by decide)) (sh_tg hG 7 rfl) rfl ?_
  refine pw_iload_n dX0_addWith_30 rfl ?_
  refine pw_iastN 0 dX0_addWith_31 (by decide) (sh_lt hG (by decide)) (sh_sh hG 9 rfl) (by decide) (by decide) (by decide) ?_
  refine pw_aload_n dX0_addWith_32 rfl ?_
  refine pw_getR (b := 12) fX0_18 dX0_addWith_33 (sh_lt hG (by decide)) (sh_tg hG 7 rfl) rfl (gr_at hP 13 rfl) ?_
  refine pw_aload_n dX0_addWith_36 rfl ?_
  refine pw_getI fX0_25 dX0_addWith_37 (sh_lt hG (by decide)) (sh_tg hG 7 rfl) rfl ?_
  refine pw_iload_n dX0_addWith_40 rfl ?_
  refine pw_iastN 0 dX0_addWith_41 (by decide) (sh_lt hG (by decide)) (sh_sh hG 10 rfl) (by decide) (by decide) (by decide) ?_
  refine pw_aload_n dX0_addWith_42 rfl ?_
  refine pw_getR (b := 13) fX0_21 dX0_addWith_43 (sh_lt hG (by decide)) (sh_tg hG 7 rfl) rfl (gr_at hP 14 rfl) ?_
  refine pw_aload_n dX0_addWith_46 rfl ?_
  refine pw_getI fX0_25 dX0_addWith_47 (sh_lt hG (by decide)) (sh_tg hG 7 rfl) rfl ?_
  refine pw_lload dX0_addWith_50 rfl ?_
  refine pw_lastN 0 dX0_addWith_52 (by decide) (sh_lt hG (by decide)) (sh_sh hG 11 rfl) (by decide) (by decide) (by decide) ?_
  refine pw_aload_n dX0_addWith_53 rfl ?_
  refine pw_dup dX0_addWith_54 rfl ?_
  refine pw_getI fX0_25 dX0_addWith_55 (sh_lt hG (by decide)) (sh_tg hG 7 rfl) rfl ?_
  refine pw_iconst (v := nI 1) dX0_addWith_58 (by decide) ?_
  refine pw_iadd dX0_addWith_59 ?_
  refine pw_putI fX0_25 dX0_addWith_60 (Or.inl rfl) (by decide) (sh_lt hG (by decide)) (sh_tg hG 7 rfl) rfl ?_
  refine pw_vret dX0_addWith_63 rfl ?_
  refine pw_vret dX0_add_8 rfl ?_
  refine pw_aload_n dX3_read_123 rfl ?_
  refine pw_getI fX3_45 dX3_read_124 (sh_lt hG (by decide)) (sh_tg hG 6 rfl) rfl ?_
  refine pw_iret dX3_read_127 rfl ?_
  refine pw_istore_n (lv' := [(1, _), (0, _)]) dX9_run_35 (by decide) rfl ?_
  refine pw_iload_n dX9_run_36 rfl ?_
  refine pw_if_lt (tgt := 57) dX9_run_37 (by decide) (fun h => absurd h (by decide)) (fun _ => ?_)
  refine pw_aload_n dX9_run_40 rfl ?_
  refine pw_getR (b := 34) fX9_41 dX9_run_41 (sh_lt hG (by decide)) (sh_tg hG 0 rfl) rfl (gr_at hP 4 rfl) ?_
  refine pw_callV (as := []) (kc' := 0) (ks' := 0) lX9_69 dX9_run_44 rfl rfl (sh_lt hG (by decide)) (sh_tg hG 32 rfl) (Nat.le_of_ble_eq_true rfl) (by omega) (Nat.le_of_ble_eq_true rfl) (Nat.zero_le _) (Nat.zero_le _) ?_
  unfold pm_Met
  refine pm_lvs (lv' := [(0, _)]) rfl ?_
  refine pw_aload_n dX1_forgetReport_0 rfl ?_
  refine pw_getR (b := 41) fX1_31 dX1_forgetReport_1 (sh_lt hG (by decide)) (sh_tg hG 32 rfl) rfl (gr_at hP 33 rfl) ?_
  refine pw_iconst (v := nI 0) dX1_forgetReport_4 (by decide) ?_
  refine pw_callS (as := [_, _]) (kc' := 0) (ks' := 0) lX1_50 dX1_forgetReport_5 rfl rfl (Nat.le_of_ble_eq_true rfl) (by omega) (Nat.le_of_ble_eq_true rfl) (Nat.zero_le _) (Nat.zero_le _) ?_
  unfold pm_Met
  refine pm_lvs (lv' := [(0, _), (1, _)]) rfl ?_
  refine pw_iconst (v := nI 0) dJ7_fill_53178_0 (by decide) ?_
  refine pw_istore_n (lv' := [(2, _), (0, _), (1, _)]) dJ7_fill_53178_1 (by decide) rfl ?_
  refine pw_aload_n dJ7_fill_53178_2 rfl ?_
  refine pw_alen dJ7_fill_53178_3 (sh_lt hG (by decide)) (sh_sh hG 39 rfl) (by decide) (by decide) ?_
  refine pw_istore_n (lv' := [(3, _), (2, _), (0, _), (1, _)]) dJ7_fill_53178_4 (by decide) rfl ?_
  refine pw_iload_n dJ7_fill_53178_5 rfl ?_
  refine pw_iload_n dJ7_fill_53178_6 rfl ?_
  refine pw_icmp_ge (tgt := 20) dJ7_fill_53178_7 (by decide) (fun h => absurd h (by decide)) (fun _ => ?_)
  refine pw_aload_n dJ7_fill_53178_10 rfl ?_
  refine pw_iload_n dJ7_fill_53178_11 rfl ?_
  refine pw_iload_n dJ7_fill_53178_12 rfl ?_
  refine pw_iastN 0 dJ7_fill_53178_13 (by decide) (sh_lt hG (by decide)) (sh_sh hG 39 rfl) (by decide) (by decide) (by decide) ?_
  refine pw_iinc (lv' := [(2, _), (3, _), (0, _), (1, _)]) dJ7_fill_53178_14 rfl (by decide) rfl ?_
  refine pw_goto (tgt := 5) dJ7_fill_53178_17 (by decide) ?_
  refine pw_iload_n dJ7_fill_53178_5 rfl ?_
  refine pw_iload_n dJ7_fill_53178_6 rfl ?_
  refine pw_icmp_ge (tgt := 20) dJ7_fill_53178_7 (by decide) (fun h => absurd h (by decide)) (fun _ => ?_)
  refine pw_aload_n dJ7_fill_53178_10 rfl ?_
  refine pw_iload_n dJ7_fill_53178_11 rfl ?_
  refine pw_iload_n dJ7_fill_53178_12 rfl ?_
  refine pw_iastN 1 dJ7_fill_53178_13 (by decide) (sh_lt hG (by decide)) (sh_sh hG 39 rfl) (by decide) (by decide) (by decide) ?_
  refine pw_iinc (lv' := [(2, _), (3, _), (0, _), (1, _)]) dJ7_fill_53178_14 rfl (by decide) rfl ?_
  refine pw_goto (tgt := 5) dJ7_fill_53178_17 (by decide) ?_
  refine pw_iload_n dJ7_fill_53178_5 rfl ?_
  refine pw_iload_n dJ7_fill_53178_6 rfl ?_
  refine pw_icmp_ge (tgt := 20) dJ7_fill_53178_7 (by decide) (fun h => absurd h (by decide)) (fun _ => ?_)
  refine pw_aload_n dJ7_fill_53178_10 rfl ?_
  refine pw_iload_n dJ7_fill_53178_11 rfl ?_
  refine pw_iload_n dJ7_fill_53178_12 rfl ?_
  refine pw_iastN 2 dJ7_fill_53178_13 (by decide) (sh_lt hG (by decide)) (sh_sh hG 39 rfl) (by decide) (by decide) (by decide) ?_
  refine pw_iinc (lv' := [(2, _), (3, _), (0, _), (1, _)]) dJ7_fill_53178_14 rfl (by decide) rfl ?_
  refine pw_goto (tgt := 5) dJ7_fill_53178_17 (by decide) ?_
  refine pw_iload_n dJ7_fill_53178_5 rfl ?_
  refine pw_iload_n dJ7_fill_53178_6 rfl ?_
  refine pw_icmp_ge (tgt := 20) dJ7_fill_53178_7 (by decide) (fun h => absurd h (by decide)) (fun _ => ?_)
  refine pw_aload_n dJ7_fill_53178_10 rfl ?_
  refine pw_iload_n dJ7_fill_53178_11 rfl ?_
  refine pw_iload_n dJ7_fill_53178_12 rfl ?_
  refine pw_iastN 3 dJ7_fill_53178_13 (by decide) (sh_lt hG (by decide)) (sh_sh hG 39 rfl) (by decide) (by decide) (by decide) ?_
  refine pw_iinc (lv' := [(2, _), (3, _), (0, _), (1, _)]) dJ7_fill_53178_14 rfl (by decide) rfl ?_
  refine pw_goto (tgt := 5) dJ7_fill_53178_17 (by decide) ?_
  refine pw_iload_n dJ7_fill_53178_5 rfl ?_
  refine pw_iload_n dJ7_fill_53178_6 rfl ?_
  refine pw_icmp_ge (tgt := 20) dJ7_fill_53178_7 (by decide) (fun h => absurd h (by decide)) (fun _ => ?_)
  refine pw_aload_n dJ7_fill_53178_10 rfl ?_
  refine pw_iload_n dJ7_fill_53178_11 rfl ?_
  refine pw_iload_n dJ7_fill_53178_12 rfl ?_
  refine pw_iastN 4 dJ7_fill_53178_13 (by decide) (sh_lt hG (by decide)) (sh_sh hG 39 rfl) (by decide) (by decide) (by decide) ?_
  refine pw_iinc (lv' := [(2, _), (3, _), (0, _), (1, _)]) dJ7_fill_53178_14 rfl (by decide) rfl ?_
  refine pw_goto (tgt := 5) dJ7_fill_53178_17 (by decide) ?_
  refine pw_iload_n dJ7_fill_53178_5 rfl ?_
  refine pw_iload_n dJ7_fill_53178_6 rfl ?_
  refine pw_icmp_ge (tgt := 20) dJ7_fill_53178_7 (by decide) (fun _ => ?_) (fun h => absurd (by decide) h)
  refine pw_vret dJ7_fill_53178_20 rfl ?_
  refine pw_vret dX1_forgetReport_8 rfl ?_
  refine pw_aload_n dX9_run_47 rfl ?_
  refine pw_iconst (v := nI 0) dX9_run_48 (by decide) ?_
  refine pw_putI fX9_49 dX9_run_49 (Or.inl rfl) (by decide) (sh_lt hG (by decide)) (sh_tg hG 0 rfl) rfl ?_
  refine pw_bipush (v := -20) dX9_run_52 (by decide) ?_
  refine pw_iload_n dX9_run_54 rfl ?_
  refine pw_isub dX9_run_55 ?_
  refine pw_iret dX9_run_56 rfl ?_
  refine pw_aload_n dL_law_181 rfl ?_
  refine pw_callV (as := []) (kc' := 0) (ks' := 0) lL_38 dL_law_182 rfl rfl (sh_lt hG (by decide)) (sh_tg hG 45 rfl) (Nat.le_of_ble_eq_true rfl) (by omega) (Nat.le_of_ble_eq_true rfl) (Nat.zero_le _) (Nat.zero_le _) ?_
  unfold pm_Met
  refine pm_lvs (lv' := [(0, _)]) rfl ?_
  refine pw_aload_n dX10_run_0 rfl ?_
  refine pw_iconst (v := nI 0) dX10_run_1 (by decide) ?_
  refine pw_putI fX10_154 dX10_run_2 (Or.inl rfl) (by decide) (sh_lt hG (by decide)) (sh_tg hG 45 rfl) rfl ?_
  refine pw_aload_n dX10_run_5 rfl ?_
  refine pw_getI fX10_220 dX10_run_6 (sh_lt hG (by decide)) (sh_tg hG 45 rfl) rfl ?_
  refine pw_bipush (v := nI 40) dX10_run_9 (by decide) ?_
  refine pw_icmp_ne (tgt := 17) dX10_run_11 (by decide) (fun _ => ?_) (fun h => absurd h (by decide))
  refine pw_aload_n dX10_run_17 rfl ?_
  refine pw_callV (as := []) (kc' := 0) (ks' := 0) lX10_342 dX10_run_18 rfl rfl (sh_lt hG (by decide)) (sh_tg hG 45 rfl) (Nat.le_of_ble_eq_true rfl) (by omega) (Nat.le_of_ble_eq_true rfl) (Nat.zero_le _) (Nat.zero_le _) ?_
  unfold pm_Met
  refine pm_lvs (lv' := [(0, _)]) rfl ?_
  refine pw_aload_n dX10_read_0 rfl ?_
  refine pw_callV (as := []) (kc' := 0) (ks' := 0) lX10_263 dX10_read_1 rfl rfl (sh_lt hG (by decide)) (sh_tg hG 45 rfl) (Nat.le_of_ble_eq_true rfl) (by omega) (Nat.le_of_ble_eq_true rfl) (Nat.zero_le _) (Nat.zero_le _) ?_
  unfold pm_Met
  refine pm_lvs (lv' := [(0, _)]) rfl ?_
  refine pw_aload_n dX10_cut_0 rfl ?_
  refine pw_iconst (v := nI 0) dX10_cut_1 (by decide) ?_
  refine pw_putI fX10_167 dX10_cut_2 (Or.inl rfl) (by decide) (sh_lt hG (by decide)) (sh_tg hG 45 rfl) rfl ?_
  refine pw_iconst (v := nI 0) dX10_cut_5 (by decide) ?_
  refine pw_istore_n (lv' := [(1, _), (0, _)]) dX10_cut_6 (by decide) rfl ?_
  refine pw_iconst (v := nI 1) dX10_cut_7 (by decide) ?_
  refine pw_istore_n (lv' := [(2, _), (1, _), (0, _)]) dX10_cut_8 (by decide) rfl ?_
  refine pw_iload_n dX10_cut_9 rfl ?_
  refine pw_if_eq (tgt := 449) dX10_cut_10 (by decide) (fun h => absurd h (by decide)) (fun _ => ?_)
  refine pw_iload_n dX10_cut_13 rfl ?_
  refine pw_aload_n dX10_cut_14 rfl ?_
  refine pw_getI fX10_164 dX10_cut_15 (sh_lt hG (by decide)) (sh_tg hG 45 rfl) rfl ?_
  refine pw_icmp_ge (tgt := 38) dX10_cut_18 (by decide) (fun _ => ?_) (fun h => absurd (by decide) h)
  refine pw_aload_n dX10_cut_38 rfl ?_
  refine pw_getR (b := 78) fX10_102 dX10_cut_39 (sh_lt hG (by decide)) (sh_tg hG 45 rfl) rfl (gr_at hP 70 rfl) ?_
  refine pw_aload_n dX10_cut_42 rfl ?_
  refine pw_getI fX10_167 dX10_cut_43 (sh_lt hG (by decide)) (sh_tg hG 45 rfl) rfl ?_
  refine pw_iload_n dX10_cut_46 rfl ?_
  refine pw_iastN 0 dX10_cut_47 (by decide) (sh_lt hG (by decide)) (sh_sh hG 76 rfl) (by decide) (by decide) (by decide) ?_
  refine pw_aload_n dX10_cut_48 rfl ?_
  refine pw_getR (b := 79) fX10_105 dX10_cut_49 (sh_lt hG (by decide)) (sh_tg hG 45 rfl) rfl (gr_at hP 71 rfl) ?_
  refine pw_aload_n dX10_cut_52 rfl ?_
  refine pw_getI fX10_167 dX10_cut_53 (sh_lt hG (by decide)) (sh_tg hG 45 rfl) rfl ?_
  refine pw_lconst (v := 0) dX10_cut_56 (by decide) ?_
  refine pw_lastN 0 dX10_cut_57 (by decide) (sh_lt hG (by decide)) (sh_sh hG 77 rfl) (by decide) (by decide) (by decide) ?_
  refine pw_iload_n dX10_cut_58 rfl ?_
  refine pw_istore_n (lv' := [(3, _), (2, _), (1, _), (0, _)]) dX10_cut_59 (by decide) rfl ?_
  refine pw_iload_n dX10_cut_60 rfl ?_
  refine pw_aload_n dX10_cut_61 rfl ?_
  refine pw_getI fX10_164 dX10_cut_62 (sh_lt hG (by decide)) (sh_tg hG 45 rfl) rfl ?_
  refine pw_icmp_ne (tgt := 81) dX10_cut_65 (by decide) (fun h => absurd (by decide) h) (fun _ => ?_)
  refine pw_aload_n dX10_cut_68 rfl ?_
  refine pw_getR (b := 77) fX10_99 dX10_cut_69 (sh_lt hG (by decide)) (sh_tg hG 45 rfl) rfl (gr_at hP 69 rfl) ?_
  refine pw_aload_n dX10_cut_72 rfl ?_
  refine pw_getI fX10_167 dX10_cut_73 (sh_lt hG (by decide)) (sh_tg hG 45 rfl) rfl ?_
  refine pw_iconst (v := nI 0) dX10_cut_76 (by decide) ?_
  refine pw_iastN 0 dX10_cut_77 (by decide) (sh_lt hG (by decide)) (sh_sh hG 75 rfl) (by decide) (by decide) (by decide) ?_
  refine pw_goto (tgt := 404) dX10_cut_78 (by decide) ?_
  refine pw_aload_n dX10_cut_404 rfl ?_
  refine pw_getR (b := 77) fX10_99 dX10_cut_405 (sh_lt hG (by decide)) (sh_tg hG 45 rfl) rfl (gr_at hP 69 rfl) ?_
  refine pw_aload_n dX10_cut_408 rfl ?_
  refine pw_getI fX10_167 dX10_cut_409 (sh_lt hG (by decide)) (sh_tg hG 45 rfl) rfl ?_
  refine pw_ialdN 0 dX10_cut_412 (sh_lt hG (by decide)) (sh_sh hG 75 rfl) (by decide) (by decide) (by decide) ?_
  refine pw_if_eq (tgt := 434) dX10_cut_413 (by decide) (fun _ => ?_) (fun h => absurd (by decide) h)
  refine pw_iconst (v := nI 0) dX10_cut_434 (by decide) ?_
  refine pw_istore_n (lv' := [(2, _), (3, _), (1, _), (0, _)]) dX10_cut_435 (by decide) rfl ?_
  refine pw_aload_n dX10_cut_436 rfl ?_
  refine pw_dup dX10_cut_437 rfl ?_
  refine pw_getI fX10_167 dX10_cut_438 (sh_lt hG (by decide)) (sh_tg hG 45 rfl) rfl ?_
  refine pw_iconst (v := nI 1) dX10_cut_441 (by decide) ?_
  refine pw_iadd dX10_cut_442 ?_
  refine pw_putI fX10_167 dX10_cut_443 (Or.inl rfl) (by decide) (sh_lt hG (by decide)) (sh_tg hG 45 rfl) rfl ?_
  refine pw_goto (tgt := 9) dX10_cut_446 (by decide) ?_
  refine pw_iload_n dX10_cut_9 rfl ?_
  refine pw_if_eq (tgt := 449) dX10_cut_10 (by decide) (fun _ => ?_) (fun h => absurd (by decide) h)
  refine pw_vret dX10_cut_449 rfl ?_
  refine pw_aload_n dX10_read_4 rfl ?_
  refine pw_iconst (v := nI 0) dX10_read_5 (by decide) ?_
  refine pw_putI fX10_194 dX10_read_6 (Or.inl rfl) (by decide) (sh_lt hG (by decide)) (sh_tg hG 45 rfl) rfl ?_
  refine pw_aload_n dX10_read_9 rfl ?_
  refine pw_iconst (v := -1) dX10_read_10 (by decide) ?_
  refine pw_putI fX10_197 dX10_read_11 (Or.inl rfl) (by decide) (sh_lt hG (by decide)) (sh_tg hG 45 rfl) rfl ?_
  refine pw_aload_n dX10_read_14 rfl ?_
  refine pw_iconst (v := nI 0) dX10_read_15 (by decide) ?_
  refine pw_putI fX10_210 dX10_read_16 (Or.inl rfl) (by decide) (sh_lt hG (by decide)) (sh_tg hG 45 rfl) rfl ?_
  refine pw_aload_n dX10_read_19 rfl ?_
  refine pw_iconst (v := nI 0) dX10_read_20 (by decide) ?_
  refine pw_putI fX10_223 dX10_read_21 (Or.inl rfl) (by decide) (sh_lt hG (by decide)) (sh_tg hG 45 rfl) rfl ?_
  refine pw_aload_n dX10_read_24 rfl ?_
  refine pw_getR (b := 57) fX10_38 dX10_read_25 (sh_lt hG (by decide)) (sh_tg hG 45 rfl) rfl (gr_at hP 49 rfl) ?_
  refine pw_aload_n dX10_read_28 rfl ?_
  refine pw_getI fX10_220 dX10_read_29 (sh_lt hG (by decide)) (sh_tg hG 45 rfl) rfl ?_
  refine pw_iconst (v := nI 0) dX10_read_32 (by decide) ?_
  refine pw_iastN 0 dX10_read_33 (by decide) (sh_lt hG (by decide)) (sh_sh hG 55 rfl) (by decide) (by decide) (by decide) ?_
  refine pw_aload_n dX10_read_34 rfl ?_
  refine pw_getR (b := 60) fX10_47 dX10_read_35 (sh_lt hG (by decide)) (sh_tg hG 45 rfl) rfl (gr_at hP 52 rfl) ?_
  refine pw_aload_n dX10_read_38 rfl ?_
  refine pw_getI fX10_220 dX10_read_39 (sh_lt hG (by decide)) (sh_tg hG 45 rfl) rfl ?_
  refine pw_bipush (v := -5) dX10_read_42 (by decide) ?_
  refine pw_iastN 0 dX10_read_44 (by decide) (sh_lt hG (by decide)) (sh_sh hG 58 rfl) (by decide) (by decide) (by decide) ?_
  refine pw_aload_n dX10_read_45 rfl ?_
  refine pw_callV (as := []) (kc' := 0) (ks' := 0) lX10_200 dX10_read_46 rfl rfl (sh_lt hG (by decide)) (sh_tg hG 45 rfl) (Nat.le_of_ble_eq_true rfl) (by omega) (Nat.le_of_ble_eq_true rfl) (Nat.zero_le _) (Nat.zero_le _) ?_
  unfold pm_Met
  refine pm_lvs (lv' := [(0, _)]) rfl ?_
  refine pw_aload_n dX10_tok_0 rfl ?_
  refine pw_getR (b := 77) fX10_99 dX10_tok_1 (sh_lt hG (by decide)) (sh_tg hG 45 rfl) rfl (gr_at hP 69 rfl) ?_
  refine pw_aload_n dX10_tok_4 rfl ?_
  refine pw_getI fX10_194 dX10_tok_5 (sh_lt hG (by decide)) (sh_tg hG 45 rfl) rfl ?_
  refine pw_ialdN 0 dX10_tok_8 (sh_lt hG (by decide)) (sh_sh hG 75 rfl) (by decide) (by decide) (by decide) ?_
  refine pw_iret dX10_tok_9 rfl ?_
  refine pw_istore_n (lv' := [(1, _), (0, _)]) dX10_read_49 (by decide) rfl ?_
  refine pw_aload_n dX10_read_50 rfl ?_
  refine pw_getR (b := 55) fX10_32 dX10_read_51 (sh_lt hG (by decide)) (sh_tg hG 45 rfl) rfl (gr_at hP 47 rfl) ?_
  refine pw_aload_n dX10_read_54 rfl ?_
  refine pw_getI fX10_220 dX10_read_55 (sh_lt hG (by decide)) (sh_tg hG 45 rfl) rfl ?_
  refine pw_iload_n dX10_read_58 rfl ?_
  refine pw_iconst (v := nI 4) dX10_read_59 (by decide) ?_
  refine pw_icmp_ne (tgt := 67) dX10_read_60 (by decide) (fun _ => ?_) (fun h => absurd h (by decide))
  refine pw_iload_n dX10_read_67 rfl ?_
  refine pw_iconst (v := nI 5) dX10_read_68 (by decide) ?_
  refine pw_icmp_ne (tgt := 76) dX10_read_69 (by decide) (fun _ => ?_) (fun h => absurd h (by decide))
  refine pw_iload_n dX10_read_76 rfl ?_
  refine pw_bipush (v := nI 6) dX10_read_77 (by decide) ?_
  refine pw_icmp_ne (tgt := 86) dX10_read_79 (by decide) (fun _ => ?_) (fun h => absurd h (by decide))
  refine pw_iconst (v := nI 0) dX10_read_86 (by decide) ?_
  refine pw_iastN 0 dX10_read_87 (by decide) (sh_lt hG (by decide)) (sh_sh hG 53 rfl) (by decide) (by decide) (by decide) ?_
  refine pw_aload_n dX10_read_88 rfl ?_
  refine pw_getR (b := 55) fX10_32 dX10_read_89 (sh_lt hG (by decide)) (sh_tg hG 45 rfl) rfl (gr_at hP 47 rfl) ?_
  refine pw_aload_n dX10_read_92 rfl ?_
  refine pw_getI fX10_220 dX10_read_93 (sh_lt hG (by decide)) (sh_tg hG 45 rfl) rfl ?_
  refine pw_ialdN 0 dX10_read_96 (sh_lt hG (by decide)) (sh_sh hG 53 rfl) (by decide) (by decide) (by decide) ?_
  refine pw_if_ne (tgt := 107) dX10_read_97 (by decide) (fun h => absurd (by decide) h) (fun _ => ?_)
  refine pw_aload_n dX10_read_100 rfl ?_
  refine pw_callV (as := []) (kc' := 0) (ks' := 0) lX10_266 dX10_read_101 rfl rfl (sh_lt hG (by decide)) (sh_tg hG 45 rfl) (Nat.le_of_ble_eq_true rfl) (by omega) (Nat.le_of_ble_eq_true rfl) (Nat.zero_le _) (Nat.zero_le _) ?_
  unfold pm_Met
  refine pm_lvs (lv' := [(0, _)]) rfl ?_
  refine pw_aload_n dX10_readExpr_0 rfl ?_
  refine pw_iconst (v := nI 0) dX10_readExpr_1 (by decide) ?_
  refine pw_putI fX10_213 dX10_readExpr_2 (Or.inl rfl) (by decide) (sh_lt hG (by decide)) (sh_tg hG 45 rfl) rfl ?_
  refine pw_aload_n dX10_readExpr_5 rfl ?_
  refine pw_iconst (v := nI 0) dX10_readExpr_6 (by decide) ?_
  refine pw_callV (as := [_]) (kc' := 0) (ks' := 0) lX10_216 dX10_readExpr_7 rfl rfl (sh_lt hG (by decide)) (sh_tg hG 45 rfl) (Nat.le_of_ble_eq_true rfl) (by omega) (Nat.le_of_ble_eq_true rfl) (Nat.zero_le _) (Nat.zero_le _) ?_
  unfold pm_Met
  refine pm_lvs (lv' := [(0, _), (1, _)]) rfl ?_
  refine pw_aload_n dX10_push_0 rfl ?_
  refine pw_getR (b := 80) fX10_108 dX10_push_1 (sh_lt hG (by decide)) (sh_tg hG 45 rfl) rfl (gr_at hP 72 rfl) ?_
  refine pw_aload_n dX10_push_4 rfl ?_
  refine pw_getI fX10_213 dX10_push_5 (sh_lt hG (by decide)) (sh_tg hG 45 rfl) rfl ?_
  refine pw_iload_n dX10_push_8 rfl ?_
  refine pw_iastN 0 dX10_push_9 (by decide) (sh_lt hG (by decide)) (sh_sh hG 78 rfl) (by decide) (by decide) (by decide) ?_
  refine pw_aload_n dX10_push_10 rfl ?_
  refine pw_getR (b := 81) fX10_111 dX10_push_11 (sh_lt hG (by decide)) (sh_tg hG 45 rfl) rfl (gr_at hP 73 rfl) ?_
  refine pw_aload_n dX10_push_14 rfl ?_
  refine pw_getI fX10_213 dX10_push_15 (sh_lt hG (by decide)) (sh_tg hG 45 rfl) rfl ?_
  refine pw_iconst (v := nI 0) dX10_push_18 (by decide) ?_
  refine pw_iastN 0 dX10_push_19 (by decide) (sh_lt hG (by decide)) (sh_sh hG 79 rfl) (by decide) (by decide) (by decide) ?_
  refine pw_aload_n dX10_push_20 rfl ?_
  refine pw_dup dX10_push_21 rfl ?_
  refine pw_getI fX10_213 dX10_push_22 (sh_lt hG (by decide)) (sh_tg hG 45 rfl) rfl ?_
  refine pw_iconst (v := nI 1) dX10_push_25 (by decide) ?_
  refine pw_iadd dX10_push_26 ?_
  refine pw_putI fX10_213 dX10_push_27 (Or.inl rfl) (by decide) (sh_lt hG (by decide)) (sh_tg hG 45 rfl) rfl ?_
  refine pw_vret dX10_push_30 rfl ?_
  refine pw_aload_n dX10_readExpr_10 rfl ?_
  refine pw_getI fX10_213 dX10_readExpr_11 (sh_lt hG (by decide)) (sh_tg hG 45 rfl) rfl ?_
  refine pw_if_le (tgt := 204) dX10_readExpr_14 (by decide) (fun h => absurd h (by decide)) (fun _ => ?_)
  refine pw_aload_n dX10_readExpr_17 rfl ?_
  refine pw_getI fX10_197 dX10_readExpr_18 (sh_lt hG (by decide)) (sh_tg hG 45 rfl) rfl ?_
  refine pw_if_ge (tgt := 204) dX10_readExpr_21 (by decide) (fun h => absurd h (by decide)) (fun _ => ?_)
  refine pw_aload_n dX10_readExpr_24 rfl ?_
  refine pw_getI fX10_213 dX10_readExpr_25 (sh_lt hG (by decide)) (sh_tg hG 45 rfl) rfl ?_
  refine pw_iconst (v := nI 1) dX10_readExpr_28 (by decide) ?_
  refine pw_isub dX10_readExpr_29 ?_
  refine pw_istore_n (lv' := [(1, _), (0, _)]) dX10_readExpr_30 (by decide) rfl ?_
  refine pw_aload_n dX10_readExpr_31 rfl ?_
  refine pw_getR (b := 80) fX10_108 dX10_readExpr_32 (sh_lt hG (by decide)) (sh_tg hG 45 rfl) rfl (gr_at hP 72 rfl) ?_
  refine pw_iload_n dX10_readExpr_35 rfl ?_
  refine pw_ialdN 0 dX10_readExpr_36 (sh_lt hG (by decide)) (sh_sh hG 78 rfl) (by decide) (by decide) (by decide) ?_
  refine pw_tableIn (off := 35) (tgt := 72) dX10_readExpr_37 (by decide) (by decide) (by decide) (by decide) ?_
  refine pw_aload_n dX10_readExpr_72 rfl ?_
  refine pw_iload_n dX10_readExpr_73 rfl ?_
  refine pw_callV (as := [_]) (kc' := 0) (ks' := 0) lX10_250 dX10_readExpr_74 rfl rfl (sh_lt hG (by decide)) (sh_tg hG 45 rfl) (Nat.le_of_ble_eq_true rfl) (by omega) (Nat.le_of_ble_eq_true rfl) (Nat.zero_le _) (Nat.zero_le _) ?_
  unfold pm_Met
  refine pm_lvs (lv' := [(0, _), (1, _)]) rfl ?_
  refine pw_aload_n dX10_expr_0 rfl ?_
  refine pw_getR (b := 81) fX10_111 dX10_expr_1 (sh_lt hG (by decide)) (sh_tg hG 45 rfl) rfl (gr_at hP 73 rfl) ?_
  refine pw_iload_n dX10_expr_4 rfl ?_
  refine pw_ialdN 0 dX10_expr_5 (sh_lt hG (by decide)) (sh_sh hG 79 rfl) (by decide) (by decide) (by decide) ?_
  refine pw_tableIn (off := 26) (tgt := 32) dX10_expr_6 (by decide) (by decide) (by decide) (by decide) ?_
  refine pw_aload_n dX10_expr_32 rfl ?_
  refine pw_iconst (v := nI 1) dX10_expr_33 (by decide) ?_
  refine pw_iconst (v := nI 1) dX10_expr_34 (by decide) ?_
  refine pw_callV (as := [_, _]) (kc' := 0) (ks' := 0) lX10_226 dX10_expr_35 rfl rfl (sh_lt hG (by decide)) (sh_tg hG 45 rfl) (Nat.le_of_ble_eq_true rfl) (by omega) (Nat.le_of_ble_eq_true rfl) (Nat.zero_le _) (Nat.zero_le _) ?_
  unfold pm_Met
  refine pm_lvs (lv' := [(0, _), (1, _), (2, _)]) rfl ?_
  refine pw_aload_n dX10_then_0 rfl ?_
  refine pw_getR (b := 81) fX10_111 dX10_then_1 (sh_lt hG (by decide)) (sh_tg hG 45 rfl) rfl (gr_at hP 73 rfl) ?_
  refine pw_aload_n dX10_then_4 rfl ?_
  refine pw_getI fX10_213 dX10_then_5 (sh_lt hG (by decide)) (sh_tg hG 45 rfl) rfl ?_
  refine pw_iconst (v := nI 1) dX10_then_8 (by decide) ?_
  refine pw_isub dX10_then_9 ?_
  refine pw_iload_n dX10_then_10 rfl ?_
  refine pw_iastN 0 dX10_then_11 (by decide) (sh_lt hG (by decide)) (sh_sh hG 79 rfl) (by decide) (by decide) (by decide) ?_
  refine pw_aload_n dX10_then_12 rfl ?_
  refine pw_iload_n dX10_then_13 rfl ?_
  refine pw_callV (as := [_]) (kc' := 0) (ks' := 0) lX10_216 dX10_then_14 rfl rfl (sh_lt hG (by decide)) (sh_tg hG 45 rfl) (Nat.le_of_ble_eq_true rfl) (by omega) (Nat.le_of_ble_eq_true rfl) (Nat.zero_le _) (Nat.zero_le _) ?_
  unfold pm_Met
  refine pm_lvs (lv' := [(0, _), (1, _)]) rfl ?_
  refine pw_aload_n dX10_push_0 rfl ?_
  refine pw_getR (b := 80) fX10_108 dX10_push_1 (sh_lt hG (by decide)) (sh_tg hG 45 rfl) rfl (gr_at hP 72 rfl) ?_
  refine pw_aload_n dX10_push_4 rfl ?_
  refine pw_getI fX10_213 dX10_push_5 (sh_lt hG (by decide)) (sh_tg hG 45 rfl) rfl ?_
  refine pw_iload_n dX10_push_8 rfl ?_
  refine pw_iastN 1 dX10_push_9 (by decide) (sh_lt hG (by decide)) (sh_sh hG 78 rfl) (by decide) (by decide) (by decide) ?_
  refine pw_aload_n dX10_push_10 rfl ?_
  refine pw_getR (b := 81) fX10_111 dX10_push_11 (sh_lt hG (by decide)) (sh_tg hG 45 rfl) rfl (gr_at hP 73 rfl) ?_
  refine pw_aload_n dX10_push_14 rfl ?_
  refine pw_getI fX10_213 dX10_push_15 (sh_lt hG (by decide)) (sh_tg hG 45 rfl) rfl ?_
  refine pw_iconst (v := nI 0) dX10_push_18 (by decide) ?_
  refine pw_iastN 1 dX10_push_19 (by decide) (sh_lt hG (by decide)) (sh_sh hG 79 rfl) (by decide) (by decide) (by decide) ?_
  refine pw_aload_n dX10_push_20 rfl ?_
  refine pw_dup dX10_push_21 rfl ?_
  refine pw_getI fX10_213 dX10_push_22 (sh_lt hG (by decide)) (sh_tg hG 45 rfl) rfl ?_
  refine pw_iconst (v := nI 1) dX10_push_25 (by decide) ?_
  refine pw_iadd dX10_push_26 ?_
  refine pw_putI fX10_213 dX10_push_27 (Or.inl rfl) (by decide) (sh_lt hG (by decide)) (sh_tg hG 45 rfl) rfl ?_
  refine pw_vret dX10_push_30 rfl ?_
  refine pw_vret dX10_then_17 rfl ?_
  refine pw_goto (tgt := 179) dX10_expr_38 (by decide) ?_
  refine pw_vret dX10_expr_179 rfl ?_
  refine pw_goto (tgt := 201) dX10_readExpr_77 (by decide) ?_
  refine pw_goto (tgt := 10) dX10_readExpr_201 (by decide) ?_
  refine pw_aload_n dX10_readExpr_10 rfl ?_
  refine pw_getI fX10_213 dX10_readExpr_11 (sh_lt hG (by decide)) (sh_tg hG 45 rfl) rfl ?_
  refine pw_if_le (tgt := 204) dX10_readExpr_14 (by decide) (fun h => absurd h (by decide)) (fun _ => ?_)
  refine pw_aload_n dX10_readExpr_17 rfl ?_
  refine pw_getI fX10_197 dX10_readExpr_18 (sh_lt hG (by decide)) (sh_tg hG 45 rfl) rfl ?_
  refine pw_if_ge (tgt := 204) dX10_readExpr_21 (by decide) (fun h => absurd h (by decide)) (fun _ => ?_)
  refine pw_aload_n dX10_readExpr_24 rfl ?_
  refine pw_getI fX10_213 dX10_readExpr_25 (sh_lt hG (by decide)) (sh_tg hG 45 rfl) rfl ?_
  refine pw_iconst (v := nI 1) dX10_readExpr_28 (by decide) ?_
  refine pw_isub dX10_readExpr_29 ?_
  refine pw_istore_n (lv' := [(1, _), (0, _)]) dX10_readExpr_30 (by decide) rfl ?_
  refine pw_aload_n dX10_readExpr_31 rfl ?_
  refine pw_getR (b := 80) fX10_108 dX10_readExpr_32 (sh_lt hG (by decide)) (sh_tg hG 45 rfl) rfl (gr_at hP 72 rfl) ?_
  refine pw_iload_n dX10_readExpr_35 rfl ?_
  refine pw_ialdN 1 dX10_readExpr_36 (sh_lt hG (by decide)) (sh_sh hG 78 rfl) (by decide) (by decide) (by decide) ?_
  refine pw_tableIn (off := 43) (tgt := 80) dX10_readExpr_37 (by decide) (by decide) (by decide) (by decide) ?_
  refine pw_aload_n dX10_readExpr_80 rfl ?_
  refine pw_iload_n dX10_readExpr_81 rfl ?_
  refine pw_iconst (v := nI 2) dX10_readExpr_82 (by decide) ?_
  refine pw_aload_n dX10_readExpr_83 rfl ?_
  refine pw_callV (as := []) (kc' := 0) (ks' := 0) lX10_200 dX10_readExpr_84 rfl rfl (sh_lt hG (by decide)) (sh_tg hG 45 rfl) (Nat.le_of_ble_eq_true rfl) (by omega) (Nat.le_of_ble_eq_true rfl) (Nat.zero_le _) (Nat.zero_le _) ?_
  unfold pm_Met
  refine pm_lvs (lv' := [(0, _)]) rfl ?_
  refine pw_aload_n dX10_tok_0 rfl ?_
  refine pw_getR (b := 77) fX10_99 dX10_tok_1 (sh_lt hG (by decide)) (sh_tg hG 45 rfl) rfl (gr_at hP 69 rfl) ?_
  refine pw_aload_n dX10_tok_4 rfl ?_
  refine pw_getI fX10_194 dX10_tok_5 (sh_lt hG (by decide)) (sh_tg hG 45 rfl) rfl ?_
  refine pw_ialdN 0 dX10_tok_8 (sh_lt hG (by decide)) (sh_sh hG 75 rfl) (by decide) (by decide) (by decide) ?_
  refine pw_iret dX10_tok_9 rfl ?_
  refine pw_bipush (v := nI 60) dX10_readExpr_87 (by decide) ?_
  refine pw_icmp_eq (tgt := 101) dX10_readExpr_89 (by decide) (fun h => absurd h (by decide)) (fun _ => ?_)
  refine pw_aload_n dX10_readExpr_92 rfl ?_
  refine pw_callV (as := []) (kc' := 0) (ks' := 0) lX10_200 dX10_readExpr_93 rfl rfl (sh_lt hG (by decide)) (sh_tg hG 45 rfl) (Nat.le_of_ble_eq_true rfl) (by omega) (Nat.le_of_ble_eq_true rfl) (Nat.zero_le _) (Nat.zero_le _) ?_
  unfold pm_Met
  refine pm_lvs (lv' := [(0, _)]) rfl ?_
  refine pw_aload_n dX10_tok_0 rfl ?_
  refine pw_getR (b := 77) fX10_99 dX10_tok_1 (sh_lt hG (by decide)) (sh_tg hG 45 rfl) rfl (gr_at hP 69 rfl) ?_
  refine pw_aload_n dX10_tok_4 rfl ?_
  refine pw_getI fX10_194 dX10_tok_5 (sh_lt hG (by decide)) (sh_tg hG 45 rfl) rfl ?_
  refine pw_ialdN 0 dX10_tok_8 (sh_lt hG (by decide)) (sh_sh hG 75 rfl) (by decide) (by decide) (by decide) ?_
  refine pw_iret dX10_tok_9 rfl ?_
  refine pw_bipush (v := nI 61) dX10_readExpr_96 (by decide) ?_
  refine pw_icmp_ne (tgt := 105) dX10_readExpr_98 (by decide) (fun _ => ?_) (fun h => absurd h (by decide))
  refine pw_iconst (v := nI 0) dX10_readExpr_105 (by decide) ?_
  refine pw_iconst (v := nI 1) dX10_readExpr_106 (by decide) ?_
  refine pw_callV (as := [_, _, _, _]) (kc' := 0) (ks' := 0) lX10_253 dX10_readExpr_107 rfl rfl (sh_lt hG (by decide)) (sh_tg hG 45 rfl) (Nat.le_of_ble_eq_true rfl) (by omega) (Nat.le_of_ble_eq_true rfl) (Nat.zero_le _) (Nat.zero_le _) ?_
  unfold pm_Met
  refine pm_lvs (lv' := [(0, _), (1, _), (2, _), (3, _), (4, _)]) rfl ?_
  refine pw_aload_n dX10_row_0 rfl ?_
  refine pw_getR (b := 81) fX10_111 dX10_row_1 (sh_lt hG (by decide)) (sh_tg hG 45 rfl) rfl (gr_at hP 73 rfl) ?_
  refine pw_iload_n dX10_row_4 rfl ?_
  refine pw_ialdN 1 dX10_row_5 (sh_lt hG (by decide)) (sh_sh hG 79 rfl) (by decide) (by decide) (by decide) ?_
  refine pw_if_ne (tgt := 16) dX10_row_6 (by decide) (fun h => absurd (by decide) h) (fun _ => ?_)
  refine pw_aload_n dX10_row_9 rfl ?_
  refine pw_iconst (v := nI 1) dX10_row_10 (by decide) ?_
  refine pw_iload_n dX10_row_11 rfl ?_
  refine pw_callV (as := [_, _]) (kc' := 0) (ks' := 0) lX10_226 dX10_row_12 rfl rfl (sh_lt hG (by decide)) (sh_tg hG 45 rfl) (Nat.le_of_ble_eq_true rfl) (by omega) (Nat.le_of_ble_eq_true rfl) (Nat.zero_le _) (Nat.zero_le _) ?_
  unfold pm_Met
  refine pm_lvs (lv' := [(0, _), (1, _), (2, _)]) rfl ?_
  refine pw_aload_n dX10_then_0 rfl ?_
  refine pw_getR (b := 81) fX10_111 dX10_then_1 (sh_lt hG (by decide)) (sh_tg hG 45 rfl) rfl (gr_at hP 73 rfl) ?_
  refine pw_aload_n dX10_then_4 rfl ?_
  refine pw_getI fX10_213 dX10_then_5 (sh_lt hG (by decide)) (sh_tg hG 45 rfl) rfl ?_
  refine pw_iconst (v := nI 1) dX10_then_8 (by decide) ?_
  refine pw_isub dX10_then_9 ?_
  refine pw_iload_n dX10_then_10 rfl ?_
  refine pw_iastN 1 dX10_then_11 (by decide) (sh_lt hG (by decide)) (sh_sh hG 79 rfl) (by decide) (by decide) (by decide) ?_
  refine pw_aload_n dX10_then_12 rfl ?_
  refine pw_iload_n dX10_then_13 rfl ?_
  refine pw_callV (as := [_]) (kc' := 0) (ks' := 0) lX10_216 dX10_then_14 rfl rfl (sh_lt hG (by decide)) (sh_tg hG 45 rfl) (Nat.le_of_ble_eq_true rfl) (by omega) (Nat.le_of_ble_eq_true rfl) (Nat.zero_le _) (Nat.zero_le _) ?_
  unfold pm_Met
  refine pm_lvs (lv' := [(0, _), (1, _)]) rfl ?_
  refine pw_aload_n dX10_push_0 rfl ?_
  refine pw_getR (b := 80) fX10_108 dX10_push_1 (sh_lt hG (by decide)) (sh_tg hG 45 rfl) rfl (gr_at hP 72 rfl) ?_
  refine pw_aload_n dX10_push_4 rfl ?_
  refine pw_getI fX10_213 dX10_push_5 (sh_lt hG (by decide)) (sh_tg hG 45 rfl) rfl ?_
  refine pw_iload_n dX10_push_8 rfl ?_
  refine pw_iastN 2 dX10_push_9 (by decide) (sh_lt hG (by decide)) (sh_sh hG 78 rfl) (by decide) (by decide) (by decide) ?_
  refine pw_aload_n dX10_push_10 rfl ?_
  refine pw_getR (b := 81) fX10_111 dX10_push_11 (sh_lt hG (by decide)) (sh_tg hG 45 rfl) rfl (gr_at hP 73 rfl) ?_
  refine pw_aload_n dX10_push_14 rfl ?_
  refine pw_getI fX10_213 dX10_push_15 (sh_lt hG (by decide)) (sh_tg hG 45 rfl) rfl ?_
  refine pw_iconst (v := nI 0) dX10_push_18 (by decide) ?_
  refine pw_iastN 2 dX10_push_19 (by decide) (sh_lt hG (by decide)) (sh_sh hG 79 rfl) (by decide) (by decide) (by decide) ?_
  refine pw_aload_n dX10_push_20 rfl ?_
  refine pw_dup dX10_push_21 rfl ?_
  refine pw_getI fX10_213 dX10_push_22 (sh_lt hG (by decide)) (sh_tg hG 45 rfl) rfl ?_
  refine pw_iconst (v := nI 1) dX10_push_25 (by decide) ?_
  refine pw_iadd dX10_push_26 ?_
  refine pw_putI fX10_213 dX10_push_27 (Or.inl rfl) (by decide) (sh_lt hG (by decide)) (sh_tg hG 45 rfl) rfl ?_
  refine pw_vret dX10_push_30 rfl ?_
  refine pw_vret dX10_then_17 rfl ?_
  refine pw_vret dX10_row_15 rfl ?_
  refine pw_goto (tgt := 201) dX10_readExpr_110 (by decide) ?_
  refine pw_goto (tgt := 10) dX10_readExpr_201 (by decide) ?_
  refine pw_aload_n dX10_readExpr_10 rfl ?_
  refine pw_getI fX10_213 dX10_readExpr_11 (sh_lt hG (by decide)) (sh_tg hG 45 rfl) rfl ?_
  refine pw_if_le (tgt := 204) dX10_readExpr_14 (by decide) (fun h => absurd h (by decide)) (fun _ => ?_)
  refine pw_aload_n dX10_readExpr_17 rfl ?_
  refine pw_getI fX10_197 dX10_readExpr_18 (sh_lt hG (by decide)) (sh_tg hG 45 rfl) rfl ?_
  refine pw_if_ge (tgt := 204) dX10_readExpr_21 (by decide) (fun h => absurd h (by decide)) (fun _ => ?_)
  refine pw_aload_n dX10_readExpr_24 rfl ?_
  refine pw_getI fX10_213 dX10_readExpr_25 (sh_lt hG (by decide)) (sh_tg hG 45 rfl) rfl ?_
  refine pw_iconst (v := nI 1) dX10_readExpr_28 (by decide) ?_
  refine pw_isub dX10_readExpr_29 ?_
  refine pw_istore_n (lv' := [(1, _), (0, _)]) dX10_readExpr_30 (by decide) rfl ?_
  refine pw_aload_n dX10_readExpr_31 rfl ?_
  refine pw_getR (b := 80) fX10_108 dX10_readExpr_32 (sh_lt hG (by decide)) (sh_tg hG 45 rfl) rfl (gr_at hP 72 rfl) ?_
  refine pw_iload_n dX10_readExpr_35 rfl ?_
  refine pw_ialdN 2 dX10_readExpr_36 (sh_lt hG (by decide)) (sh_sh hG 78 rfl) (by decide) (by decide) (by decide) ?_
  refine pw_tableIn (off := 76) (tgt := 113) dX10_readExpr_37 (by decide) (by decide) (by decide) (by decide) ?_
  refine pw_aload_n dX10_readExpr_113 rfl ?_
  refine pw_iload_n dX10_readExpr_114 rfl ?_
  refine pw_iconst (v := nI 3) dX10_readExpr_115 (by decide) ?_
  refine pw_aload_n dX10_readExpr_116 rfl ?_
  refine pw_callV (as := []) (kc' := 0) (ks' := 0) lX10_200 dX10_readExpr_117 rfl rfl (sh_lt hG (by decide)) (sh_tg hG 45 rfl) (Nat.le_of_ble_eq_true rfl) (by omega) (Nat.le_of_ble_eq_true rfl) (Nat.zero_le _) (Nat.zero_le _) ?_
  unfold pm_Met
  refine pm_lvs (lv' := [(0, _)]) rfl ?_
  refine pw_aload_n dX10_tok_0 rfl ?_
  refine pw_getR (b := 77) fX10_99 dX10_tok_1 (sh_lt hG (by decide)) (sh_tg hG 45 rfl) rfl (gr_at hP 69 rfl) ?_
  refine pw_aload_n dX10_tok_4 rfl ?_
  refine pw_getI fX10_194 dX10_tok_5 (sh_lt hG (by decide)) (sh_tg hG 45 rfl) rfl ?_
  refine pw_ialdN 0 dX10_tok_8 (sh_lt hG (by decide)) (sh_sh hG 75 rfl) (by decide) (by decide) (by decide) ?_
  refine pw_iret dX10_tok_9 rfl ?_
  refine pw_bipush (v := nI 43) dX10_readExpr_120 (by decide) ?_
  refine pw_icmp_eq (tgt := 134) dX10_readExpr_122 (by decide) (fun h => absurd h (by decide)) (fun _ => ?_)
  refine pw_aload_n dX10_readExpr_125 rfl ?_
  refine pw_callV (as := []) (kc' := 0) (ks' := 0) lX10_200 dX10_readExpr_126 rfl rfl (sh_lt hG (by decide)) (sh_tg hG 45 rfl) (Nat.le_of_ble_eq_true rfl) (by omega) (Nat.le_of_ble_eq_true rfl) (Nat.zero_le _) (Nat.zero_le _) ?_
  unfold pm_Met
  refine pm_lvs (lv' := [(0, _)]) rfl ?_
  refine pw_aload_n dX10_tok_0 rfl ?_
  refine pw_getR (b := 77) fX10_99 dX10_tok_1 (sh_lt hG (by decide)) (sh_tg hG 45 rfl) rfl (gr_at hP 69 rfl) ?_
  refine pw_aload_n dX10_tok_4 rfl ?_
  refine pw_getI fX10_194 dX10_tok_5 (sh_lt hG (by decide)) (sh_tg hG 45 rfl) rfl ?_
  refine pw_ialdN 0 dX10_tok_8 (sh_lt hG (by decide)) (sh_sh hG 75 rfl) (by decide) (by decide) (by decide) ?_
  refine pw_iret dX10_tok_9 rfl ?_
  refine pw_bipush (v := nI 45) dX10_readExpr_129 (by decide) ?_
  refine pw_icmp_ne (tgt := 138) dX10_readExpr_131 (by decide) (fun _ => ?_) (fun h => absurd h (by decide))
  refine pw_iconst (v := nI 0) dX10_readExpr_138 (by decide) ?_
  refine pw_iconst (v := nI 0) dX10_readExpr_139 (by decide) ?_
  refine pw_callV (as := [_, _, _, _]) (kc' := 0) (ks' := 0) lX10_253 dX10_readExpr_140 rfl rfl (sh_lt hG (by decide)) (sh_tg hG 45 rfl) (Nat.le_of_ble_eq_true rfl) (by omega) (Nat.le_of_ble_eq_true rfl) (Nat.zero_le _) (Nat.zero_le _) ?_
  unfold pm_Met
  refine pm_lvs (lv' := [(0, _), (1, _), (2, _), (3, _), (4, _)]) rfl ?_
  refine pw_aload_n dX10_row_0 rfl ?_
  refine pw_getR (b := 81) fX10_111 dX10_row_1 (sh_lt hG (by decide)) (sh_tg hG 45 rfl) rfl (gr_at hP 73 rfl) ?_
  refine pw_iload_n dX10_row_4 rfl ?_
  refine pw_ialdN 2 dX10_row_5 (sh_lt hG (by decide)) (sh_sh hG 79 rfl) (by decide) (by decide) (by decide) ?_
  refine pw_if_ne (tgt := 16) dX10_row_6 (by decide) (fun h => absurd (by decide) h) (fun _ => ?_)
  refine pw_aload_n dX10_row_9 rfl ?_
  refine pw_iconst (v := nI 1) dX10_row_10 (by decide) ?_
  refine pw_iload_n dX10_row_11 rfl ?_
  refine pw_callV (as := [_, _]) (kc' := 0) (ks' := 0) lX10_226 dX10_row_12 rfl rfl (sh_lt hG (by decide)) (sh_tg hG 45 rfl) (Nat.le_of_ble_eq_true rfl) (by omega) (Nat.le_of_ble_eq_true rfl) (Nat.zero_le _) (Nat.zero_le _) ?_
  unfold pm_Met
  refine pm_lvs (lv' := [(0, _), (1, _), (2, _)]) rfl ?_
  refine pw_aload_n dX10_then_0 rfl ?_
  refine pw_getR (b := 81) fX10_111 dX10_then_1 (sh_lt hG (by decide)) (sh_tg hG 45 rfl) rfl (gr_at hP 73 rfl) ?_
  refine pw_aload_n dX10_then_4 rfl ?_
  refine pw_getI fX10_213 dX10_then_5 (sh_lt hG (by decide)) (sh_tg hG 45 rfl) rfl ?_
  refine pw_iconst (v := nI 1) dX10_then_8 (by decide) ?_
  refine pw_isub dX10_then_9 ?_
  refine pw_iload_n dX10_then_10 rfl ?_
  refine pw_iastN 2 dX10_then_11 (by decide) (sh_lt hG (by decide)) (sh_sh hG 79 rfl) (by decide) (by decide) (by decide) ?_
  refine pw_aload_n dX10_then_12 rfl ?_
  refine pw_iload_n dX10_then_13 rfl ?_
  refine pw_callV (as := [_]) (kc' := 0) (ks' := 0) lX10_216 dX10_then_14 rfl rfl (sh_lt hG (by decide)) (sh_tg hG 45 rfl) (Nat.le_of_ble_eq_true rfl) (by omega) (Nat.le_of_ble_eq_true rfl) (Nat.zero_le _) (Nat.zero_le _) ?_
  unfold pm_Met
  refine pm_lvs (lv' := [(0, _), (1, _)]) rfl ?_
  refine pw_aload_n dX10_push_0 rfl ?_
  refine pw_getR (b := 80) fX10_108 dX10_push_1 (sh_lt hG (by decide)) (sh_tg hG 45 rfl) rfl (gr_at hP 72 rfl) ?_
  refine pw_aload_n dX10_push_4 rfl ?_
  refine pw_getI fX10_213 dX10_push_5 (sh_lt hG (by decide)) (sh_tg hG 45 rfl) rfl ?_
  refine pw_iload_n dX10_push_8 rfl ?_
  refine pw_iastN 3 dX10_push_9 (by decide) (sh_lt hG (by decide)) (sh_sh hG 78 rfl) (by decide) (by decide) (by decide) ?_
  refine pw_aload_n dX10_push_10 rfl ?_
  refine pw_getR (b := 81) fX10_111 dX10_push_11 (sh_lt hG (by decide)) (sh_tg hG 45 rfl) rfl (gr_at hP 73 rfl) ?_
  refine pw_aload_n dX10_push_14 rfl ?_
  refine pw_getI fX10_213 dX10_push_15 (sh_lt hG (by decide)) (sh_tg hG 45 rfl) rfl ?_
  refine pw_iconst (v := nI 0) dX10_push_18 (by decide) ?_
  refine pw_iastN 3 dX10_push_19 (by decide) (sh_lt hG (by decide)) (sh_sh hG 79 rfl) (by decide) (by decide) (by decide) ?_
  refine pw_aload_n dX10_push_20 rfl ?_
  refine pw_dup dX10_push_21 rfl ?_
  refine pw_getI fX10_213 dX10_push_22 (sh_lt hG (by decide)) (sh_tg hG 45 rfl) rfl ?_
  refine pw_iconst (v := nI 1) dX10_push_25 (by decide) ?_
  refine pw_iadd dX10_push_26 ?_
  refine pw_putI fX10_213 dX10_push_27 (Or.inl rfl) (by decide) (sh_lt hG (by decide)) (sh_tg hG 45 rfl) rfl ?_
  refine pw_vret dX10_push_30 rfl ?_
  refine pw_vret dX10_then_17 rfl ?_
  refine pw_vret dX10_row_15 rfl ?_
  refine pw_goto (tgt := 201) dX10_readExpr_143 (by decide) ?_
  refine pw_goto (tgt := 10) dX10_readExpr_201 (by decide) ?_
  refine pw_aload_n dX10_readExpr_10 rfl ?_
  refine pw_getI fX10_213 dX10_readExpr_11 (sh_lt hG (by decide)) (sh_tg hG 45 rfl) rfl ?_
  refine pw_if_le (tgt := 204) dX10_readExpr_14 (by decide) (fun h => absurd h (by decide)) (fun _ => ?_)
  refine pw_aload_n dX10_readExpr_17 rfl ?_
  refine pw_getI fX10_197 dX10_readExpr_18 (sh_lt hG (by decide)) (sh_tg hG 45 rfl) rfl ?_
  refine pw_if_ge (tgt := 204) dX10_readExpr_21 (by decide) (fun h => absurd h (by decide)) (fun _ => ?_)
  refine pw_aload_n dX10_readExpr_24 rfl ?_
  refine pw_getI fX10_213 dX10_readExpr_25 (sh_lt hG (by decide)) (sh_tg hG 45 rfl) rfl ?_
  refine pw_iconst (v := nI 1) dX10_readExpr_28 (by decide) ?_
  refine pw_isub dX10_readExpr_29 ?_
  refine pw_istore_n (lv' := [(1, _), (0, _)]) dX10_readExpr_30 (by decide) rfl ?_
  refine pw_aload_n dX10_readExpr_31 rfl ?_
  refine pw_getR (b := 80) fX10_108 dX10_readExpr_32 (sh_lt hG (by decide)) (sh_tg hG 45 rfl) rfl (gr_at hP 72 rfl) ?_
  refine pw_iload_n dX10_readExpr_35 rfl ?_
  refine pw_ialdN 3 dX10_readExpr_36 (sh_lt hG (by decide)) (sh_sh hG 78 rfl) (by decide) (by decide) (by decide) ?_
  refine pw_tableIn (off := 109) (tgt := 146) dX10_readExpr_37 (by decide) (by decide) (by decide) (by decide) ?_
  refine pw_aload_n dX10_readExpr_146 rfl ?_
  refine pw_iload_n dX10_readExpr_147 rfl ?_
  refine pw_iconst (v := nI 4) dX10_readExpr_148 (by decide) ?_
  refine pw_aload_n dX10_readExpr_149 rfl ?_
  refine pw_callV (as := []) (kc' := 0) (ks' := 0) lX10_200 dX10_readExpr_150 rfl rfl (sh_lt hG (by decide)) (sh_tg hG 45 rfl) (Nat.le_of_ble_eq_true rfl) (by omega) (Nat.le_of_ble_eq_true rfl) (Nat.zero_le _) (Nat.zero_le _) ?_
  unfold pm_Met
  refine pm_lvs (lv' := [(0, _)]) rfl ?_
  refine pw_aload_n dX10_tok_0 rfl ?_
  refine pw_getR (b := 77) fX10_99 dX10_tok_1 (sh_lt hG (by decide)) (sh_tg hG 45 rfl) rfl (gr_at hP 69 rfl) ?_
  refine pw_aload_n dX10_tok_4 rfl ?_
  refine pw_getI fX10_194 dX10_tok_5 (sh_lt hG (by decide)) (sh_tg hG 45 rfl) rfl ?_
  refine pw_ialdN 0 dX10_tok_8 (sh_lt hG (by decide)) (sh_sh hG 75 rfl) (by decide) (by decide) (by decide) ?_
  refine pw_iret dX10_tok_9 rfl ?_
  refine pw_bipush (v := nI 42) dX10_readExpr_153 (by decide) ?_
  refine pw_icmp_eq (tgt := 176) dX10_readExpr_155 (by decide) (fun h => absurd h (by decide)) (fun _ => ?_)
  refine pw_aload_n dX10_readExpr_158 rfl ?_
  refine pw_callV (as := []) (kc' := 0) (ks' := 0) lX10_200 dX10_readExpr_159 rfl rfl (sh_lt hG (by decide)) (sh_tg hG 45 rfl) (Nat.le_of_ble_eq_true rfl) (by omega) (Nat.le_of_ble_eq_true rfl) (Nat.zero_le _) (Nat.zero_le _) ?_
  unfold pm_Met
  refine pm_lvs (lv' := [(0, _)]) rfl ?_
  refine pw_aload_n dX10_tok_0 rfl ?_
  refine pw_getR (b := 77) fX10_99 dX10_tok_1 (sh_lt hG (by decide)) (sh_tg hG 45 rfl) rfl (gr_at hP 69 rfl) ?_
  refine pw_aload_n dX10_tok_4 rfl ?_
  refine pw_getI fX10_194 dX10_tok_5 (sh_lt hG (by decide)) (sh_tg hG 45 rfl) rfl ?_
  refine pw_ialdN 0 dX10_tok_8 (sh_lt hG (by decide)) (sh_sh hG 75 rfl) (by decide) (by decide) (by decide) ?_
  refine pw_iret dX10_tok_9 rfl ?_
  refine pw_bipush (v := nI 47) dX10_readExpr_162 (by decide) ?_
  refine pw_icmp_eq (tgt := 176) dX10_readExpr_164 (by decide) (fun h => absurd h (by decide)) (fun _ => ?_)
  refine pw_aload_n dX10_readExpr_167 rfl ?_
  refine pw_callV (as := []) (kc' := 0) (ks' := 0) lX10_200 dX10_readExpr_168 rfl rfl (sh_lt hG (by decide)) (sh_tg hG 45 rfl) (Nat.le_of_ble_eq_true rfl) (by omega) (Nat.le_of_ble_eq_true rfl) (Nat.zero_le _) (Nat.zero_le _) ?_
  unfold pm_Met
  refine pm_lvs (lv' := [(0, _)]) rfl ?_
  refine pw_aload_n dX10_tok_0 rfl ?_
  refine pw_getR (b := 77) fX10_99 dX10_tok_1 (sh_lt hG (by decide)) (sh_tg hG 45 rfl) rfl (gr_at hP 69 rfl) ?_
  refine pw_aload_n dX10_tok_4 rfl ?_
  refine pw_getI fX10_194 dX10_tok_5 (sh_lt hG (by decide)) (sh_tg hG 45 rfl) rfl ?_
  refine pw_ialdN 0 dX10_tok_8 (sh_lt hG (by decide)) (sh_sh hG 75 rfl) (by decide) (by decide) (by decide) ?_
  refine pw_iret dX10_tok_9 rfl ?_
  refine pw_bipush (v := nI 37) dX10_readExpr_171 (by decide) ?_
  refine pw_icmp_ne (tgt := 180) dX10_readExpr_173 (by decide) (fun _ => ?_) (fun h => absurd h (by decide))
  refine pw_iconst (v := nI 0) dX10_readExpr_180 (by decide) ?_
  refine pw_iconst (v := nI 0) dX10_readExpr_181 (by decide) ?_
  refine pw_callV (as := [_, _, _, _]) (kc' := 0) (ks' := 0) lX10_253 dX10_readExpr_182 rfl rfl (sh_lt hG (by decide)) (sh_tg hG 45 rfl) (Nat.le_of_ble_eq_true rfl) (by omega) (Nat.le_of_ble_eq_true rfl) (Nat.zero_le _) (Nat.zero_le _) ?_
  unfold pm_Met
  refine pm_lvs (lv' := [(0, _), (1, _), (2, _), (3, _), (4, _)]) rfl ?_
  refine pw_aload_n dX10_row_0 rfl ?_
  refine pw_getR (b := 81) fX10_111 dX10_row_1 (sh_lt hG (by decide)) (sh_tg hG 45 rfl) rfl (gr_at hP 73 rfl) ?_
  refine pw_iload_n dX10_row_4 rfl ?_
  refine pw_ialdN 3 dX10_row_5 (sh_lt hG (by decide)) (sh_sh hG 79 rfl) (by decide) (by decide) (by decide) ?_
  refine pw_if_ne (tgt := 16) dX10_row_6 (by decide) (fun h => absurd (by decide) h) (fun _ => ?_)
  refine pw_aload_n dX10_row_9 rfl ?_
  refine pw_iconst (v := nI 1) dX10_row_10 (by decide) ?_
  refine pw_iload_n dX10_row_11 rfl ?_
  refine pw_callV (as := [_, _]) (kc' := 0) (ks' := 0) lX10_226 dX10_row_12 rfl rfl (sh_lt hG (by decide)) (sh_tg hG 45 rfl) (Nat.le_of_ble_eq_true rfl) (by omega) (Nat.le_of_ble_eq_true rfl) (Nat.zero_le _) (Nat.zero_le _) ?_
  unfold pm_Met
  refine pm_lvs (lv' := [(0, _), (1, _), (2, _)]) rfl ?_
  refine pw_aload_n dX10_then_0 rfl ?_
  refine pw_getR (b := 81) fX10_111 dX10_then_1 (sh_lt hG (by decide)) (sh_tg hG 45 rfl) rfl (gr_at hP 73 rfl) ?_
  refine pw_aload_n dX10_then_4 rfl ?_
  refine pw_getI fX10_213 dX10_then_5 (sh_lt hG (by decide)) (sh_tg hG 45 rfl) rfl ?_
  refine pw_iconst (v := nI 1) dX10_then_8 (by decide) ?_
  refine pw_isub dX10_then_9 ?_
  refine pw_iload_n dX10_then_10 rfl ?_
  refine pw_iastN 3 dX10_then_11 (by decide) (sh_lt hG (by decide)) (sh_sh hG 79 rfl) (by decide) (by decide) (by decide) ?_
  refine pw_aload_n dX10_then_12 rfl ?_
  refine pw_iload_n dX10_then_13 rfl ?_
  refine pw_callV (as := [_]) (kc' := 0) (ks' := 0) lX10_216 dX10_then_14 rfl rfl (sh_lt hG (by decide)) (sh_tg hG 45 rfl) (Nat.le_of_ble_eq_true rfl) (by omega) (Nat.le_of_ble_eq_true rfl) (Nat.zero_le _) (Nat.zero_le _) ?_
  unfold pm_Met
  refine pm_lvs (lv' := [(0, _), (1, _)]) rfl ?_
  refine pw_aload_n dX10_push_0 rfl ?_
  refine pw_getR (b := 80) fX10_108 dX10_push_1 (sh_lt hG (by decide)) (sh_tg hG 45 rfl) rfl (gr_at hP 72 rfl) ?_
  refine pw_aload_n dX10_push_4 rfl ?_
  refine pw_getI fX10_213 dX10_push_5 (sh_lt hG (by decide)) (sh_tg hG 45 rfl) rfl ?_
  refine pw_iload_n dX10_push_8 rfl ?_
  refine pw_iastN 4 dX10_push_9 (by decide) (sh_lt hG (by decide)) (sh_sh hG 78 rfl) (by decide) (by decide) (by decide) ?_
  refine pw_aload_n dX10_push_10 rfl ?_
  refine pw_getR (b := 81) fX10_111 dX10_push_11 (sh_lt hG (by decide)) (sh_tg hG 45 rfl) rfl (gr_at hP 73 rfl) ?_
  refine pw_aload_n dX10_push_14 rfl ?_
  refine pw_getI fX10_213 dX10_push_15 (sh_lt hG (by decide)) (sh_tg hG 45 rfl) rfl ?_
  refine pw_iconst (v := nI 0) dX10_push_18 (by decide) ?_
  refine pw_iastN 4 dX10_push_19 (by decide) (sh_lt hG (by decide)) (sh_sh hG 79 rfl) (by decide) (by decide) (by decide) ?_
  refine pw_aload_n dX10_push_20 rfl ?_
  refine pw_dup dX10_push_21 rfl ?_
  refine pw_getI fX10_213 dX10_push_22 (sh_lt hG (by decide)) (sh_tg hG 45 rfl) rfl ?_
  refine pw_iconst (v := nI 1) dX10_push_25 (by decide) ?_
  refine pw_iadd dX10_push_26 ?_
  refine pw_putI fX10_213 dX10_push_27 (Or.inl rfl) (by decide) (sh_lt hG (by decide)) (sh_tg hG 45 rfl) rfl ?_
  refine pw_vret dX10_push_30 rfl ?_
  refine pw_vret dX10_then_17 rfl ?_
  refine pw_vret dX10_row_15 rfl ?_
  refine pw_goto (tgt := 201) dX10_readExpr_185 (by decide) ?_
  refine pw_goto (tgt := 10) dX10_readExpr_201 (by decide) ?_
  refine pw_aload_n dX10_readExpr_10 rfl ?_
  refine pw_getI fX10_213 dX10_readExpr_11 (sh_lt hG (by decide)) (sh_tg hG 45 rfl) rfl ?_
  refine pw_if_le (tgt := 204) dX10_readExpr_14 (by decide) (fun h => absurd h (by decide)) (fun _ => ?_)
  refine pw_aload_n dX10_readExpr_17 rfl ?_
  refine pw_getI fX10_197 dX10_readExpr_18 (sh_lt hG (by decide)) (sh_tg hG 45 rfl) rfl ?_
  refine pw_if_ge (tgt := 204) dX10_readExpr_21 (by decide) (fun h => absurd h (by decide)) (fun _ => ?_)
  refine pw_aload_n dX10_readExpr_24 rfl ?_
  refine pw_getI fX10_213 dX10_readExpr_25 (sh_lt hG (by decide)) (sh_tg hG 45 rfl) rfl ?_
  refine pw_iconst (v := nI 1) dX10_readExpr_28 (by decide) ?_
  refine pw_isub dX10_readExpr_29 ?_
  refine pw_istore_n (lv' := [(1, _), (0, _)]) dX10_readExpr_30 (by decide) rfl ?_
  refine pw_aload_n dX10_readExpr_31 rfl ?_
  refine pw_getR (b := 80) fX10_108 dX10_readExpr_32 (sh_lt hG (by decide)) (sh_tg hG 45 rfl) rfl (gr_at hP 72 rfl) ?_
  refine pw_iload_n dX10_readExpr_35 rfl ?_
  refine pw_ialdN 4 dX10_readExpr_36 (sh_lt hG (by decide)) (sh_sh hG 78 rfl) (by decide) (by decide) (by decide) ?_
  refine pw_tableIn (off := 151) (tgt := 188) dX10_readExpr_37 (by decide) (by decide) (by decide) (by decide) ?_
  refine pw_aload_n dX10_readExpr_188 rfl ?_
  refine pw_iload_n dX10_readExpr_189 rfl ?_
  refine pw_callV (as := [_]) (kc' := 0) (ks' := 0) lX10_257 dX10_readExpr_190 rfl rfl (sh_lt hG (by decide)) (sh_tg hG 45 rfl) (Nat.le_of_ble_eq_true rfl) (by omega) (Nat.le_of_ble_eq_true rfl) (Nat.zero_le _) (Nat.zero_le _) ?_
  unfold pm_Met
  refine pm_lvs (lv' := [(0, _), (1, _)]) rfl ?_
  refine pw_aload_n dX10_fact_0 rfl ?_
  refine pw_getR (b := 81) fX10_111 dX10_fact_1 (sh_lt hG (by decide)) (sh_tg hG 45 rfl) rfl (gr_at hP 73 rfl) ?_
  refine pw_iload_n dX10_fact_4 rfl ?_
  refine pw_ialdN 4 dX10_fact_5 (sh_lt hG (by decide)) (sh_sh hG 79 rfl) (by decide) (by decide) (by decide) ?_
  refine pw_lookup (off := 26) (tgt := 32) dX10_fact_6 (by decide) (by decide) (by decide) ?_
  refine pw_aload_n dX10_fact_32 rfl ?_
  refine pw_callV (as := []) (kc' := 0) (ks' := 0) lX10_200 dX10_fact_33 rfl rfl (sh_lt hG (by decide)) (sh_tg hG 45 rfl) (Nat.le_of_ble_eq_true rfl) (by omega) (Nat.le_of_ble_eq_true rfl) (Nat.zero_le _) (Nat.zero_le _) ?_
  unfold pm_Met
  refine pm_lvs (lv' := [(0, _)]) rfl ?_
  refine pw_aload_n dX10_tok_0 rfl ?_
  refine pw_getR (b := 77) fX10_99 dX10_tok_1 (sh_lt hG (by decide)) (sh_tg hG 45 rfl) rfl (gr_at hP 69 rfl) ?_
  refine pw_aload_n dX10_tok_4 rfl ?_
  refine pw_getI fX10_194 dX10_tok_5 (sh_lt hG (by decide)) (sh_tg hG 45 rfl) rfl ?_
  refine pw_ialdN 0 dX10_tok_8 (sh_lt hG (by decide)) (sh_sh hG 75 rfl) (by decide) (by decide) (by decide) ?_
  refine pw_iret dX10_tok_9 rfl ?_
  refine pw_bipush (v := nI 45) dX10_fact_36 (by decide) ?_
  refine pw_icmp_ne (tgt := 67) dX10_fact_38 (by decide) (fun _ => ?_) (fun h => absurd h (by decide))
  refine pw_aload_n dX10_fact_67 rfl ?_
  refine pw_iconst (v := nI 2) dX10_fact_68 (by decide) ?_
  refine pw_iconst (v := nI 5) dX10_fact_69 (by decide) ?_
  refine pw_callV (as := [_, _]) (kc' := 0) (ks' := 0) lX10_226 dX10_fact_70 rfl rfl (sh_lt hG (by decide)) (sh_tg hG 45 rfl) (Nat.le_of_ble_eq_true rfl) (by omega) (Nat.le_of_ble_eq_true rfl) (Nat.zero_le _) (Nat.zero_le _) ?_
  unfold pm_Met
  refine pm_lvs (lv' := [(0, _), (1, _), (2, _)]) rfl ?_
  refine pw_aload_n dX10_then_0 rfl ?_
  refine pw_getR (b := 81) fX10_111 dX10_then_1 (sh_lt hG (by decide)) (sh_tg hG 45 rfl) rfl (gr_at hP 73 rfl) ?_
  refine pw_aload_n dX10_then_4 rfl ?_
  refine pw_getI fX10_213 dX10_then_5 (sh_lt hG (by decide)) (sh_tg hG 45 rfl) rfl ?_
  refine pw_iconst (v := nI 1) dX10_then_8 (by decide) ?_
  refine pw_isub dX10_then_9 ?_
  refine pw_iload_n dX10_then_10 rfl ?_
  refine pw_iastN 4 dX10_then_11 (by decide) (sh_lt hG (by decide)) (sh_sh hG 79 rfl) (by decide) (by decide) (by decide) ?_
  refine pw_aload_n dX10_then_12 rfl ?_
  refine pw_iload_n dX10_then_13 rfl ?_
  refine pw_callV (as := [_]) (kc' := 0) (ks' := 0) lX10_216 dX10_then_14 rfl rfl (sh_lt hG (by decide)) (sh_tg hG 45 rfl) (Nat.le_of_ble_eq_true rfl) (by omega) (Nat.le_of_ble_eq_true rfl) (Nat.zero_le _) (Nat.zero_le _) ?_
  unfold pm_Met
  refine pm_lvs (lv' := [(0, _), (1, _)]) rfl ?_
  refine pw_aload_n dX10_push_0 rfl ?_
  refine pw_getR (b := 80) fX10_108 dX10_push_1 (sh_lt hG (by decide)) (sh_tg hG 45 rfl) rfl (gr_at hP 72 rfl) ?_
  refine pw_aload_n dX10_push_4 rfl ?_
  refine pw_getI fX10_213 dX10_push_5 (sh_lt hG (by decide)) (sh_tg hG 45 rfl) rfl ?_
  refine pw_iload_n dX10_push_8 rfl ?_
  refine pw_iastN 5 dX10_push_9 (by decide) (sh_lt hG (by decide)) (sh_sh hG 78 rfl) (by decide) (by decide) (by decide) ?_
  refine pw_aload_n dX10_push_10 rfl ?_
  refine pw_getR (b := 81) fX10_111 dX10_push_11 (sh_lt hG (by decide)) (sh_tg hG 45 rfl) rfl (gr_at hP 73 rfl) ?_
  refine pw_aload_n dX10_push_14 rfl ?_
  refine pw_getI fX10_213 dX10_push_15 (sh_lt hG (by decide)) (sh_tg hG 45 rfl) rfl ?_
  refine pw_iconst (v := nI 0) dX10_push_18 (by decide) ?_
  refine pw_iastN 5 dX10_push_19 (by decide) (sh_lt hG (by decide)) (sh_sh hG 79 rfl) (by decide) (by decide) (by decide) ?_
  refine pw_aload_n dX10_push_20 rfl ?_
  refine pw_dup dX10_push_21 rfl ?_
  refine pw_getI fX10_213 dX10_push_22 (sh_lt hG (by decide)) (sh_tg hG 45 rfl) rfl ?_
  refine pw_iconst (v := nI 1) dX10_push_25 (by decide) ?_
  refine pw_iadd dX10_push_26 ?_
  refine pw_putI fX10_213 dX10_push_27 (Or.inl rfl) (by decide) (sh_lt hG (by decide)) (sh_tg hG 45 rfl) rfl ?_
  refine pw_vret dX10_push_30 rfl ?_
  refine pw_vret dX10_then_17 rfl ?_
  refine pw_goto (tgt := 192) dX10_fact_73 (by decide) ?_
  refine pw_vret dX10_fact_192 rfl ?_
  refine pw_goto (tgt := 201) dX10_readExpr_193 (by decide) ?_
  refine pw_goto (tgt := 10) dX10_readExpr_201 (by decide) ?_
  refine pw_aload_n dX10_readExpr_10 rfl ?_
  refine pw_getI fX10_213 dX10_readExpr_11 (sh_lt hG (by decide)) (sh_tg hG 45 rfl) rfl ?_
  refine pw_if_le (tgt := 204) dX10_readExpr_14 (by decide) (fun h => absurd h (by decide)) (fun _ => ?_)
  refine pw_aload_n dX10_readExpr_17 rfl ?_
  refine pw_getI fX10_197 dX10_readExpr_18 (sh_lt hG (by decide)) (sh_tg hG 45 rfl) rfl ?_
  refine pw_if_ge (tgt := 204) dX10_readExpr_21 (by decide) (fun h => absurd h (by decide)) (fun _ => ?_)
  refine pw_aload_n dX10_readExpr_24 rfl ?_
  refine pw_getI fX10_213 dX10_readExpr_25 (sh_lt hG (by decide)) (sh_tg hG 45 rfl) rfl ?_
  refine pw_iconst (v := nI 1) dX10_readExpr_28 (by decide) ?_
  refine pw_isub dX10_readExpr_29 ?_
  refine pw_istore_n (lv' := [(1, _), (0, _)]) dX10_readExpr_30 (by decide) rfl ?_
  refine pw_aload_n dX10_readExpr_31 rfl ?_
  refine pw_getR (b := 80) fX10_108 dX10_readExpr_32 (sh_lt hG (by decide)) (sh_tg hG 45 rfl) rfl (gr_at hP 72 rfl) ?_
  refine pw_iload_n dX10_readExpr_35 rfl ?_
  refine pw_ialdN 5 dX10_readExpr_36 (sh_lt hG (by decide)) (sh_sh hG 78 rfl) (by decide) (by decide) (by decide) ?_
  refine pw_tableOut (tgt := 196) dX10_readExpr_37 (by decide) (by decide) ?_
  refine pw_aload_n dX10_readExpr_196 rfl ?_
  refine pw_iload_n dX10_readExpr_197 rfl ?_
  refine pw_callV (as := [_]) (kc' := 0) (ks' := 0) lX10_260 dX10_readExpr_198 rfl rfl (sh_lt hG (by decide)) (sh_tg hG 45 rfl) (Nat.le_of_ble_eq_true rfl) (by omega) (Nat.le_of_ble_eq_true rfl) (Nat.zero_le _) (Nat.zero_le _) ?_
  unfold pm_Met
  refine pm_lvs (lv' := [(0, _), (1, _)]) rfl ?_
  refine pw_aload_n dX10_atom_0 rfl ?_
  refine pw_getR (b := 81) fX10_111 dX10_atom_1 (sh_lt hG (by decide)) (sh_tg hG 45 rfl) rfl (gr_at hP 73 rfl) ?_
  refine pw_iload_n dX10_atom_4 rfl ?_
  refine pw_ialdN 5 dX10_atom_5 (sh_lt hG (by decide)) (sh_sh hG 79 rfl) (by decide) (by decide) (by decide) ?_
  refine pw_lookup (off := 26) (tgt := 32) dX10_atom_6 (by decide) (by decide) (by decide) ?_
  refine pw_aload_n dX10_atom_32 rfl ?_
  refine pw_iload_n dX10_atom_33 rfl ?_
  refine pw_callV (as := [_]) (kc' := 0) (ks' := 0) lX10_244 dX10_atom_34 rfl rfl (sh_lt hG (by decide)) (sh_tg hG 45 rfl) (Nat.le_of_ble_eq_true rfl) (by omega) (Nat.le_of_ble_eq_true rfl) (Nat.zero_le _) (Nat.zero_le _) ?_
  unfold pm_Met
  refine pm_lvs (lv' := [(0, _), (1, _)]) rfl ?_
  refine pw_aload_n dX10_begin_0 rfl ?_
  refine pw_callV (as := []) (kc' := 0) (ks' := 0) lX10_200 dX10_begin_1 rfl rfl (sh_lt hG (by decide)) (sh_tg hG 45 rfl) (Nat.le_of_ble_eq_true rfl) (by omega) (Nat.le_of_ble_eq_true rfl) (Nat.zero_le _) (Nat.zero_le _) ?_
  unfold pm_Met
  refine pm_lvs (lv' := [(0, _)]) rfl ?_
  refine pw_aload_n dX10_tok_0 rfl ?_
  refine pw_getR (b := 77) fX10_99 dX10_tok_1 (sh_lt hG (by decide)) (sh_tg hG 45 rfl) rfl (gr_at hP 69 rfl) ?_
  refine pw_aload_n dX10_tok_4 rfl ?_
  refine pw_getI fX10_194 dX10_tok_5 (sh_lt hG (by decide)) (sh_tg hG 45 rfl) rfl ?_
  refine pw_ialdN 0 dX10_tok_8 (sh_lt hG (by decide)) (sh_sh hG 75 rfl) (by decide) (by decide) (by decide) ?_
  refine pw_iret dX10_tok_9 rfl ?_
  refine pw_istore_n (lv' := [(2, _), (0, _), (1, _)]) dX10_begin_4 (by decide) rfl ?_
  refine pw_iload_n dX10_begin_5 rfl ?_
  refine pw_iconst (v := nI 2) dX10_begin_6 (by decide) ?_
  refine pw_icmp_eq (tgt := 15) dX10_begin_7 (by decide) (fun h => absurd h (by decide)) (fun _ => ?_)
  refine pw_iload_n dX10_begin_10 rfl ?_
  refine pw_iconst (v := nI 3) dX10_begin_11 (by decide) ?_
  refine pw_icmp_ne (tgt := 60) dX10_begin_12 (by decide) (fun _ => ?_) (fun h => absurd h (by decide))
  refine pw_iload_n dX10_begin_60 rfl ?_
  refine pw_bipush (v := nI 40) dX10_begin_61 (by decide) ?_
  refine pw_icmp_ne (tgt := 82) dX10_begin_63 (by decide) (fun _ => ?_) (fun h => absurd h (by decide))
  refine pw_iload_n dX10_begin_82 rfl ?_
  refine pw_iconst (v := nI 1) dX10_begin_83 (by decide) ?_
  refine pw_icmp_ne (tgt := 213) dX10_begin_84 (by decide) (fun _ => ?_) (fun h => absurd h (by decide))
  refine pw_aload_n dX10_begin_213 rfl ?_
  refine pw_callV (as := []) (kc' := 0) (ks' := 0) lX10_204 dX10_begin_214 rfl rfl (sh_lt hG (by decide)) (sh_tg hG 45 rfl) (Nat.le_of_ble_eq_true rfl) (by omega) (Nat.le_of_ble_eq_true rfl) (Nat.zero_le _) (Nat.zero_le _) ?_
  unfold pm_Met
  refine pm_lvs (lv' := [(0, _)]) rfl ?_
  refine pw_aload_n dX10_wrong_0 rfl ?_
  refine pw_aload_n dX10_wrong_1 rfl ?_
  refine pw_getI fX10_197 dX10_wrong_2 (sh_lt hG (by decide)) (sh_tg hG 45 rfl) rfl ?_
  refine pw_if_ge (tgt := 20) dX10_wrong_5 (by decide) (fun h => absurd h (by decide)) (fun _ => ?_)
  refine pw_aload_n dX10_wrong_8 rfl ?_
  refine pw_getR (b := 78) fX10_102 dX10_wrong_9 (sh_lt hG (by decide)) (sh_tg hG 45 rfl) rfl (gr_at hP 70 rfl) ?_
  refine pw_aload_n dX10_wrong_12 rfl ?_
  refine pw_getI fX10_194 dX10_wrong_13 (sh_lt hG (by decide)) (sh_tg hG 45 rfl) rfl ?_
  refine pw_ialdN 0 dX10_wrong_16 (sh_lt hG (by decide)) (sh_sh hG 76 rfl) (by decide) (by decide) (by decide) ?_
  refine pw_goto (tgt := 24) dX10_wrong_17 (by decide) ?_
  refine pw_putI fX10_197 dX10_wrong_24 (Or.inl rfl) (by decide) (sh_lt hG (by decide)) (sh_tg hG 45 rfl) rfl ?_
  refine pw_vret dX10_wrong_27 rfl ?_
  refine pw_vret dX10_begin_217 rfl ?_
  refine pw_goto (tgt := 75) dX10_atom_37 (by decide) ?_
  refine pw_vret dX10_atom_75 rfl ?_
  refine pw_goto (tgt := 10) dX10_readExpr_201 (by decide) ?_
  refine pw_aload_n dX10_readExpr_10 rfl ?_
  refine pw_getI fX10_213 dX10_readExpr_11 (sh_lt hG (by decide)) (sh_tg hG 45 rfl) rfl ?_
  refine pw_if_le (tgt := 204) dX10_readExpr_14 (by decide) (fun h => absurd h (by decide)) (fun _ => ?_)
  refine pw_aload_n dX10_readExpr_17 rfl ?_
  refine pw_getI fX10_197 dX10_readExpr_18 (sh_lt hG (by decide)) (sh_tg hG 45 rfl) rfl ?_
  refine pw_if_ge (tgt := 204) dX10_readExpr_21 (by decide) (fun _ => ?_) (fun h => absurd (by decide) h)
  refine pw_aload_n dX10_readExpr_204 rfl ?_
  refine pw_getR (b := 60) fX10_47 dX10_readExpr_205 (sh_lt hG (by decide)) (sh_tg hG 45 rfl) rfl (gr_at hP 52 rfl) ?_
  refine pw_aload_n dX10_readExpr_208 rfl ?_
  refine pw_getI fX10_220 dX10_readExpr_209 (sh_lt hG (by decide)) (sh_tg hG 45 rfl) rfl ?_
  refine pw_aload_n dX10_readExpr_212 rfl ?_
  refine pw_getI fX10_230 dX10_readExpr_213 (sh_lt hG (by decide)) (sh_tg hG 45 rfl) rfl ?_
  refine pw_iastN 0 dX10_readExpr_216 (by decide) (sh_lt hG (by decide)) (sh_sh hG 58 rfl) (by decide) (by decide) (by decide) ?_
  refine pw_vret dX10_readExpr_217 rfl ?_
  refine pw_goto (tgt := 256) dX10_read_104 (by decide) ?_
  refine pw_aload_n dX10_read_256 rfl ?_
  refine pw_iconst (v := nI 0) dX10_read_257 (by decide) ?_
  refine pw_callV (as := [_]) (kc' := 0) (ks' := 0) lX10_237 dX10_read_258 rfl rfl (sh_lt hG (by decide)) (sh_tg hG 45 rfl) (Nat.le_of_ble_eq_true rfl) (by omega) (Nat.le_of_ble_eq_true rfl) (Nat.zero_le _) (Nat.zero_le _) ?_
  unfold pm_Met
  refine pm_lvs (lv' := [(0, _), (1, _)]) rfl ?_
  refine pw_aload_n dX10_need_0 rfl ?_
  refine pw_getI fX10_197 dX10_need_1 (sh_lt hG (by decide)) (sh_tg hG 45 rfl) rfl ?_
  refine pw_if_ge (tgt := 15) dX10_need_4 (by decide) (fun _ => ?_) (fun h => absurd (by decide) h)
  refine pw_aload_n dX10_need_15 rfl ?_
  refine pw_callV (as := []) (kc' := 0) (ks' := 0) lX10_204 dX10_need_16 rfl rfl (sh_lt hG (by decide)) (sh_tg hG 45 rfl) (Nat.le_of_ble_eq_true rfl) (by omega) (Nat.le_of_ble_eq_true rfl) (Nat.zero_le _) (Nat.zero_le _) ?_
  unfold pm_Met
  refine pm_lvs (lv' := [(0, _)]) rfl ?_
  refine pw_aload_n dX10_wrong_0 rfl ?_
  refine pw_aload_n dX10_wrong_1 rfl ?_
  refine pw_getI fX10_197 dX10_wrong_2 (sh_lt hG (by decide)) (sh_tg hG 45 rfl) rfl ?_
  refine pw_if_ge (tgt := 20) dX10_wrong_5 (by decide) (fun _ => ?_) (fun h => absurd (by decide) h)
  refine pw_aload_n dX10_wrong_20 rfl ?_
  refine pw_getI fX10_197 dX10_wrong_21 (sh_lt hG (by decide)) (sh_tg hG 45 rfl) rfl ?_
  refine pw_putI fX10_197 dX10_wrong_24 (Or.inl rfl) (by decide) (sh_lt hG (by decide)) (sh_tg hG 45 rfl) rfl ?_
  refine pw_vret dX10_wrong_27 rfl ?_
  refine pw_iconst (v := nI 0) dX10_need_19 (by decide) ?_
  refine pw_zret dX10_need_20 rfl (by decide) ?_
  refine pw_pop dX10_read_261 rfl ?_
  refine pw_aload_n dX10_read_262 rfl ?_
  refine pw_getI fX10_197 dX10_read_263 (sh_lt hG (by decide)) (sh_tg hG 45 rfl) rfl ?_
  refine pw_iret dX10_read_266 rfl ?_
  refine pw_istore_n (lv' := [(1, _), (0, _)]) dX10_run_21 (by decide) rfl ?_
  refine pw_iload_n dX10_run_22 rfl ?_
  refine pw_if_ge (tgt := 36) dX10_run_23 (by decide) (fun _ => ?_) (fun h => absurd (by decide) h)
  refine pw_iconst (v := nI 0) dX10_run_36 (by decide) ?_
  refine pw_istore_n (lv' := [(2, _), (1, _), (0, _)]) dX10_run_37 (by decide) rfl ?_
  refine pw_iload_n dX10_run_38 rfl ?_
  refine pw_iconst (v := nI 5) dX10_run_39 (by decide) ?_
  refine pw_icmp_ge (tgt := 56) dX10_run_40 (by decide) (fun h => absurd h (by decide)) (fun _ => ?_)
  refine pw_aload_n dX10_run_43 rfl ?_
  refine pw_getR (b := 76) fX10_96 dX10_run_44 (sh_lt hG (by decide)) (sh_tg hG 45 rfl) rfl (gr_at hP 68 rfl) ?_
  refine pw_iload_n dX10_run_47 rfl ?_
  refine pw_iconst (v := nI 0) dX10_run_48 (by decide) ?_
  refine pw_iastN 0 dX10_run_49 (by decide) (sh_lt hG (by decide)) (sh_sh hG 74 rfl) (by decide) (by decide) (by decide) ?_
  refine pw_iinc (lv' := [(2, _), (1, _), (0, _)]) dX10_run_50 rfl (by decide) rfl ?_
  refine pw_goto (tgt := 38) dX10_run_53 (by decide) ?_
  refine pw_iload_n dX10_run_38 rfl ?_
  refine pw_iconst (v := nI 5) dX10_run_39 (by decide) ?_
  refine pw_icmp_ge (tgt := 56) dX10_run_40 (by decide) (fun h => absurd h (by decide)) (fun _ => ?_)
  refine pw_aload_n dX10_run_43 rfl ?_
  refine pw_getR (b := 76) fX10_96 dX10_run_44 (sh_lt hG (by decide)) (sh_tg hG 45 rfl) rfl (gr_at hP 68 rfl) ?_
  refine pw_iload_n dX10_run_47 rfl ?_
  refine pw_iconst (v := nI 0) dX10_run_48 (by decide) ?_
  refine pw_iastN 1 dX10_run_49 (by decide) (sh_lt hG (by decide)) (sh_sh hG 74 rfl) (by decide) (by decide) (by decide) ?_
  refine pw_iinc (lv' := [(2, _), (1, _), (0, _)]) dX10_run_50 rfl (by decide) rfl ?_
  refine pw_goto (tgt := 38) dX10_run_53 (by decide) ?_
  refine pw_iload_n dX10_run_38 rfl ?_
  refine pw_iconst (v := nI 5) dX10_run_39 (by decide) ?_
  refine pw_icmp_ge (tgt := 56) dX10_run_40 (by decide) (fun h => absurd h (by decide)) (fun _ => ?_)
  refine pw_aload_n dX10_run_43 rfl ?_
  refine pw_getR (b := 76) fX10_96 dX10_run_44 (sh_lt hG (by decide)) (sh_tg hG 45 rfl) rfl (gr_at hP 68 rfl) ?_
  refine pw_iload_n dX10_run_47 rfl ?_
  refine pw_iconst (v := nI 0) dX10_run_48 (by decide) ?_
  refine pw_iastN 2 dX10_run_49 (by decide) (sh_lt hG (by decide)) (sh_sh hG 74 rfl) (by decide) (by decide) (by decide) ?_
  refine pw_iinc (lv' := [(2, _), (1, _), (0, _)]) dX10_run_50 rfl (by decide) rfl ?_
  refine pw_goto (tgt := 38) dX10_run_53 (by decide) ?_
  refine pw_iload_n dX10_run_38 rfl ?_
  refine pw_iconst (v := nI 5) dX10_run_39 (by decide) ?_
  refine pw_icmp_ge (tgt := 56) dX10_run_40 (by decide) (fun h => absurd h (by decide)) (fun _ => ?_)
  refine pw_aload_n dX10_run_43 rfl ?_
  refine pw_getR (b := 76) fX10_96 dX10_run_44 (sh_lt hG (by decide)) (sh_tg hG 45 rfl) rfl (gr_at hP 68 rfl) ?_
  refine pw_iload_n dX10_run_47 rfl ?_
  refine pw_iconst (v := nI 0) dX10_run_48 (by decide) ?_
  refine pw_iastN 3 dX10_run_49 (by decide) (sh_lt hG (by decide)) (sh_sh hG 74 rfl) (by decide) (by decide) (by decide) ?_
  refine pw_iinc (lv' := [(2, _), (1, _), (0, _)]) dX10_run_50 rfl (by decide) rfl ?_
  refine pw_goto (tgt := 38) dX10_run_53 (by decide) ?_
  refine pw_iload_n dX10_run_38 rfl ?_
  refine pw_iconst (v := nI 5) dX10_run_39 (by decide) ?_
  refine pw_icmp_ge (tgt := 56) dX10_run_40 (by decide) (fun h => absurd h (by decide)) (fun _ => ?_)
  refine pw_aload_n dX10_run_43 rfl ?_
  refine pw_getR (b := 76) fX10_96 dX10_run_44 (sh_lt hG (by decide)) (sh_tg hG 45 rfl) rfl (gr_at hP 68 rfl) ?_
  refine pw_iload_n dX10_run_47 rfl ?_
  refine pw_iconst (v := nI 0) dX10_run_48 (by decide) ?_
  refine pw_iastN 4 dX10_run_49 (by decide) (sh_lt hG (by decide)) (sh_sh hG 74 rfl) (by decide) (by decide) (by decide) ?_
  refine pw_iinc (lv' := [(2, _), (1, _), (0, _)]) dX10_run_50 rfl (by decide) rfl ?_
  refine pw_goto (tgt := 38) dX10_run_53 (by decide) ?_
  refine pw_iload_n dX10_run_38 rfl ?_
  refine pw_iconst (v := nI 5) dX10_run_39 (by decide) ?_
  refine pw_icmp_ge (tgt := 56) dX10_run_40 (by decide) (fun _ => ?_) (fun h => absurd (by decide) h)
  refine pw_bipush (v := -20) dX10_run_56 (by decide) ?_
  refine pw_iload_n dX10_run_58 rfl ?_
  refine pw_isub dX10_run_59 ?_
  refine pw_istore_n (lv' := [(2, _), (1, _), (0, _)]) dX10_run_60 (by decide) rfl ?_
  refine pw_iload_n dX10_run_61 rfl ?_
  refine pw_if_ge (tgt := 180) dX10_run_62 (by decide) (fun _ => ?_) (fun h => absurd (by decide) h)
  refine pw_aload_n dX10_run_180 rfl ?_
  refine pw_iconst (v := nI 0) dX10_run_181 (by decide) ?_
  refine pw_putI fX10_164 dX10_run_182 (Or.inl rfl) (by decide) (sh_lt hG (by decide)) (sh_tg hG 45 rfl) rfl ?_
  refine pw_iload_n dX10_run_185 rfl ?_
  refine pw_iret dX10_run_186 rfl ?_
  refine pw_icmp_eq (tgt := 682) dL_law_185 (by decide) (fun _ => ?_) (fun h => absurd (by decide) h)
  exact p1_end hX k
set_option maxRecDepth 20000 in
set_option maxHeartbeats 4000000 in
theorem p1_case15 {l : Launch} {E : pmE} {S : pmS} {P : pmP} {xs : Nat → Int32} {Q : Option Value → pmS → pmI → pmJ → pmP → Prop} (hG : sh_St S) (hP : gr_St P) (hX : pm_X E 3 xs) (k : ∀ S I J P, Q (some (.int (nI 1))) S I J P) : pm_W l E yL_law cL_law 8 (some .boolean) 1400 10 100 656 [(4, .int (nI 0)), (3, .ref 95), (2, .ref 47), (1, .ref 2), (0, .ref 0)] [] S (fun _ _ => 0) (fun _ _ => 0) P (pm_N E Q) := by
  refine pw_aload_n dL_law_656 rfl ?_
  refine pw_callV (as := []) (kc' := 0) (ks' := 0) lL_96 dL_law_657 rfl rfl (sh_lt hG (by decide)) (sh_tg hG 0 rfl) (Nat.le_of_ble_eq_true rfl) (by omega) (Nat.le_of_ble_eq_true rfl) (Nat.zero_le _) (Nat.zero_le _) ?_
  unfold pm_Met
  refine pm_lvs (lv' := [(0, _)]) rfl ?_
  refine pw_aload_n dX9_erase_0 rfl ?_
  refine pw_getI fX9_49 dX9_erase_1 (sh_lt hG (by decide)) (sh_tg hG 0 rfl) rfl ?_
  refine pw_istore_n (lv' := [(1, _), (0, _)]) dX9_erase_4 (by decide) rfl ?_
  refine pw_aload_n dX9_erase_5 rfl ?_
  refine pw_iconst (v := nI 0) dX9_erase_6 (by decide) ?_
  refine pw_putI fX9_49 dX9_erase_7 (Or.inl rfl) (by decide) (sh_lt hG (by decide)) (sh_tg hG 0 rfl) rfl ?_
  refine pw_iload_n dX9_erase_10 rfl ?_
  refine pw_iret dX9_erase_11 rfl ?_
  refine pw_aload_n dL_law_660 rfl ?_
  refine pw_callV (as := []) (kc' := 0) (ks' := 0) lL_99 dL_law_661 rfl rfl (sh_lt hG (by decide)) (sh_tg hG 45 rfl) (Nat.le_of_ble_eq_true rfl) (by omega) (Nat.le_of_ble_eq_true rfl) (Nat.zero_le _) (Nat.zero_le _) ?_
  unfold pm_Met
  refine pm_lvs (lv' := [(0, _)]) rfl ?_
  refine pw_aload_n dX10_erase_0 rfl ?_
  refine pw_iconst (v := nI 0) dX10_erase_1 (by decide) ?_
  refine pw_putI fX10_154 dX10_erase_2 (Or.inl rfl) (by decide) (sh_lt hG (by decide)) (sh_tg hG 45 rfl) rfl ?_
  refine pw_aload_n dX10_erase_5 rfl ?_
  refine pw_getI fX10_164 dX10_erase_6 (sh_lt hG (by decide)) (sh_tg hG 45 rfl) rfl ?_
  refine pw_istore_n (lv' := [(1, _), (0, _)]) dX10_erase_9 (by decide) rfl ?_
  refine pw_aload_n dX10_erase_10 rfl ?_
  refine pw_iconst (v := nI 0) dX10_erase_11 (by decide) ?_
  refine pw_putI fX10_164 dX10_erase_12 (Or.inl rfl) (by decide) (sh_lt hG (by decide)) (sh_tg hG 45 rfl) rfl ?_
  refine pw_iload_n dX10_erase_15 rfl ?_
  refine pw_iret dX10_erase_16 rfl ?_
  refine pw_icmp_eq (tgt := 682) dL_law_664 (by decide) (fun _ => ?_) (fun h => absurd (by decide) h)
  exact p1_end hX k
set_option maxRecDepth 20000 in
set_option maxHeartbeats 4000000 in
theorem p1_case16 {l : Launch} {E : pmE} {S : pmS} {P : pmP} {xs : Nat → Int32} {Q : Option Value → pmS → pmI → pmJ → pmP → Prop} (hG : sh_St S) (hP : gr_St P) (hX : pm_X E 3 xs) (k : ∀ S I J P, Q (some (.int (nI 1))) S I J P) : pm_W l E yL_law cL_law 8 (some .boolean) 1400 10 100 669 [(4, .int (nI 0)), (3, .ref 95), (2, .ref 47), (1, .ref 2), (0, .ref 0)] [] S (fun _ _ => 0) (fun _ _ => 0) P (pm_N E Q) := by
  refine pw_aload_n dL_law_669 rfl ?_
  refine pw_callV (as := []) (kc' := 0) (ks' := 0) lL_100 dL_law_670 rfl rfl (sh_lt hG (by decide)) (sh_tg hG 0 rfl) (Nat.le_of_ble_eq_true rfl) (by omega) (Nat.le_of_ble_eq_true rfl) (Nat.zero_le _) (Nat.zero_le _) ?_
  unfold pm_Met
  refine pm_lvs (lv' := [(0, _)]) rfl ?_
  refine pw_aload_n dX9_reset_0 rfl ?_
  refine pw_getR (b := 15) fX9_32 dX9_reset_1 (sh_lt hG (by decide)) (sh_tg hG 0 rfl) rfl (gr_at hP 3 rfl) ?_
  refine pw_callV (as := []) (kc' := 0) (ks' := 0) lX9_170 dX9_reset_4 rfl rfl (sh_lt hG (by decide)) (sh_tg hG 13 rfl) (Nat.le_of_ble_eq_true rfl) (by omega) (Nat.le_of_ble_eq_true rfl) (Nat.zero_le _) (Nat.zero_le _) ?_
  unfold pm_Met
  refine pm_lvs (lv' := [(0, _)]) rfl ?_
  refine pw_aload_n dX4_keptCount_0 rfl ?_
  refine pw_getI fX4_49 dX4_keptCount_1 (sh_lt hG (by decide)) (sh_tg hG 13 rfl) rfl ?_
  refine pw_iret dX4_keptCount_4 rfl ?_
  refine pw_istore_n (lv' := [(1, _), (0, _)]) dX9_reset_7 (by decide) rfl ?_
  refine pw_aload_n dX9_reset_8 rfl ?_
  refine pw_iconst (v := nI 0) dX9_reset_9 (by decide) ?_
  refine pw_putI fX9_49 dX9_reset_10 (Or.inl rfl) (by decide) (sh_lt hG (by decide)) (sh_tg hG 0 rfl) rfl ?_
  refine pw_aload_n dX9_reset_13 rfl ?_
  refine pw_getR (b := 15) fX9_32 dX9_reset_14 (sh_lt hG (by decide)) (sh_tg hG 0 rfl) rfl (gr_at hP 3 rfl) ?_
  refine pw_callV (as := []) (kc' := 0) (ks' := 0) lX9_188 dX9_reset_17 rfl rfl (sh_lt hG (by decide)) (sh_tg hG 13 rfl) (Nat.le_of_ble_eq_true rfl) (by omega) (Nat.le_of_ble_eq_true rfl) (Nat.zero_le _) (Nat.zero_le _) ?_
  unfold pm_Met
  refine pm_lvs (lv' := [(0, _)]) rfl ?_
  refine pw_aload_n dX4_clear_0 rfl ?_
  refine pw_getR (b := 16) fX4_12 dX4_clear_1 (sh_lt hG (by decide)) (sh_tg hG 13 rfl) rfl (gr_at hP 15 rfl) ?_
  refine pw_callV (as := []) (kc' := 0) (ks' := 0) lX4_43 dX4_clear_4 rfl rfl (sh_lt hG (by decide)) (sh_tg hG 14 rfl) (Nat.le_of_ble_eq_true rfl) (by omega) (Nat.le_of_ble_eq_true rfl) (Nat.zero_le _) (Nat.zero_le _) ?_
  unfold pm_Met
  refine pm_lvs (lv' := [(0, _)]) rfl ?_
  refine pw_aload_n dX2_clear_0 rfl ?_
  refine pw_iconst (v := nI 0) dX2_clear_1 (by decide) ?_
  refine pw_putI fX2_25 dX2_clear_2 (Or.inl rfl) (by decide) (sh_lt hG (by decide)) (sh_tg hG 14 rfl) rfl ?_
  refine pw_vret dX2_clear_5 rfl ?_
  refine pw_aload_n dX4_clear_7 rfl ?_
  refine pw_getR (b := 21) fX4_21 dX4_clear_8 (sh_lt hG (by decide)) (sh_tg hG 13 rfl) rfl (gr_at hP 16 rfl) ?_
  refine pw_iconst (v := nI 0) dX4_clear_11 (by decide) ?_
  refine pw_callV (as := [_]) (kc' := 0) (ks' := 0) lX4_46 dX4_clear_12 rfl rfl (sh_lt hG (by decide)) (sh_tg hG 19 rfl) (Nat.le_of_ble_eq_true rfl) (by omega) (Nat.le_of_ble_eq_true rfl) (Nat.zero_le _) (Nat.zero_le _) ?_
  unfold pm_Met
  refine pm_lvs (lv' := [(0, _), (1, _)]) rfl ?_
  refine pw_iload_n dX6_dropFrom_0 rfl ?_
  refine pw_if_lt (tgt := 17) dX6_dropFrom_1 (by decide) (fun h => absurd h (by decide)) (fun _ => ?_)
  refine pw_iload_n dX6_dropFrom_4 rfl ?_
  refine pw_aload_n dX6_dropFrom_5 rfl ?_
  refine pw_getI fX6_28 dX6_dropFrom_6 (sh_lt hG (by decide)) (sh_tg hG 19 rfl) rfl ?_
  refine pw_icmp_ge (tgt := 17) dX6_dropFrom_9 (by decide) (fun _ => ?_) (fun h => absurd (by decide) h)
  refine pw_vret dX6_dropFrom_17 rfl ?_
  refine pw_aload_n dX4_clear_15 rfl ?_
  refine pw_iconst (v := nI 0) dX4_clear_16 (by decide) ?_
  refine pw_putI fX4_49 dX4_clear_17 (Or.inl rfl) (by decide) (sh_lt hG (by decide)) (sh_tg hG 13 rfl) rfl ?_
  refine pw_aload_n dX4_clear_20 rfl ?_
  refine pw_iconst (v := nI 0) dX4_clear_21 (by decide) ?_
  refine pw_putI fX4_53 dX4_clear_22 (Or.inl rfl) (by decide) (sh_lt hG (by decide)) (sh_tg hG 13 rfl) rfl ?_
  refine pw_vret dX4_clear_25 rfl ?_
  refine pw_aload_n dX9_reset_20 rfl ?_
  refine pw_getR (b := 34) fX9_41 dX9_reset_21 (sh_lt hG (by decide)) (sh_tg hG 0 rfl) rfl (gr_at hP 4 rfl) ?_
  refine pw_callV (as := []) (kc' := 0) (ks' := 0) lX9_191 dX9_reset_24 rfl rfl (sh_lt hG (by decide)) (sh_tg hG 32 rfl) (Nat.le_of_ble_eq_true rfl) (by omega) (Nat.le_of_ble_eq_true rfl) (Nat.zero_le _) (Nat.zero_le _) ?_
  unfold pm_Met
  refine pm_lvs (lv' := [(0, _)]) rfl ?_
  refine pw_aload_n dX1_clear_0 rfl ?_
  refine pw_callV (as := []) (kc' := 0) (ks' := 0) lX1_43 dX1_clear_1 rfl rfl (sh_lt hG (by decide)) (sh_tg hG 32 rfl) (Nat.le_of_ble_eq_true rfl) (by omega) (Nat.le_of_ble_eq_true rfl) (Nat.zero_le _) (Nat.zero_le _) ?_
  unfold pm_Met
  refine pm_lvs (lv' := [(0, _)]) rfl ?_
  refine pw_aload_n dX1_forgetReport_0 rfl ?_
  refine pw_getR (b := 41) fX1_31 dX1_forgetReport_1 (sh_lt hG (by decide)) (sh_tg hG 32 rfl) rfl (gr_at hP 33 rfl) ?_
  refine pw_iconst (v := nI 0) dX1_forgetReport_4 (by decide) ?_
  refine pw_callS (as := [_, _]) (kc' := 0) (ks' := 0) lX1_50 dX1_forgetReport_5 rfl rfl (Nat.le_of_ble_eq_true rfl) (by omega) (Nat.le_of_ble_eq_true rfl) (Nat.zero_le _) (Nat.zero_le _) ?_
  unfold pm_Met
  refine pm_lvs (lv' := [(0, _), (1, _)]) rfl ?_
  refine pw_iconst (v := nI 0) dJ7_fill_53178_0 (by decide) ?_
  refine pw_istore_n (lv' := [(2, _), (0, _), (1, _)]) dJ7_fill_53178_1 (by decide) rfl ?_
  refine pw_aload_n dJ7_fill_53178_2 rfl ?_
  refine pw_alen dJ7_fill_53178_3 (sh_lt hG (by decide)) (sh_sh hG 39 rfl) (by decide) (by decide) ?_
  refine pw_istore_n (lv' := [(3, _), (2, _), (0, _), (1, _)]) dJ7_fill_53178_4 (by decide) rfl ?_
  refine pw_iload_n dJ7_fill_53178_5 rfl ?_
  refine pw_iload_n dJ7_fill_53178_6 rfl ?_
  refine pw_icmp_ge (tgt := 20) dJ7_fill_53178_7 (by decide) (fun h => absurd h (by decide)) (fun _ => ?_)
  refine pw_aload_n dJ7_fill_53178_10 rfl ?_
  refine pw_iload_n dJ7_fill_53178_11 rfl ?_
  refine pw_iload_n dJ7_fill_53178_12 rfl ?_
  refine pw_iastN 0 dJ7_fill_53178_13 (by decide) (sh_lt hG (by decide)) (sh_sh hG 39 rfl) (by decide) (by decide) (by decide) ?_
  refine pw_iinc (lv' := [(2, _), (3, _), (0, _), (1, _)]) dJ7_fill_53178_14 rfl (by decide) rfl ?_
  refine pw_goto (tgt := 5) dJ7_fill_53178_17 (by decide) ?_
  refine pw_iload_n dJ7_fill_53178_5 rfl ?_
  refine pw_iload_n dJ7_fill_53178_6 rfl ?_
  refine pw_icmp_ge (tgt := 20) dJ7_fill_53178_7 (by decide) (fun h => absurd h (by decide)) (fun _ => ?_)
  refine pw_aload_n dJ7_fill_53178_10 rfl ?_
  refine pw_iload_n dJ7_fill_53178_11 rfl ?_
  refine pw_iload_n dJ7_fill_53178_12 rfl ?_
  refine pw_iastN 1 dJ7_fill_53178_13 (by decide) (sh_lt hG (by decide)) (sh_sh hG 39 rfl) (by decide) (by decide) (by decide) ?_
  refine pw_iinc (lv' := [(2, _), (3, _), (0, _), (1, _)]) dJ7_fill_53178_14 rfl (by decide) rfl ?_
  refine pw_goto (tgt := 5) dJ7_fill_53178_17 (by decide) ?_
  refine pw_iload_n dJ7_fill_53178_5 rfl ?_
  refine pw_iload_n dJ7_fill_53178_6 rfl ?_
  refine pw_icmp_ge (tgt := 20) dJ7_fill_53178_7 (by decide) (fun h => absurd h (by decide)) (fun _ => ?_)
  refine pw_aload_n dJ7_fill_53178_10 rfl ?_
  refine pw_iload_n dJ7_fill_53178_11 rfl ?_
  refine pw_iload_n dJ7_fill_53178_12 rfl ?_
  refine pw_iastN 2 dJ7_fill_53178_13 (by decide) (sh_lt hG (by decide)) (sh_sh hG 39 rfl) (by decide) (by decide) (by decide) ?_
  refine pw_iinc (lv' := [(2, _), (3, _), (0, _), (1, _)]) dJ7_fill_53178_14 rfl (by decide) rfl ?_
  refine pw_goto (tgt := 5) dJ7_fill_53178_17 (by decide) ?_
  refine pw_iload_n dJ7_fill_53178_5 rfl ?_
  refine pw_iload_n dJ7_fill_53178_6 rfl ?_
  refine pw_icmp_ge (tgt := 20) dJ7_fill_53178_7 (by decide) (fun h => absurd h (by decide)) (fun _ => ?_)
  refine pw_aload_n dJ7_fill_53178_10 rfl ?_
  refine pw_iload_n dJ7_fill_53178_11 rfl ?_
  refine pw_iload_n dJ7_fill_53178_12 rfl ?_
  refine pw_iastN 3 dJ7_fill_53178_13 (by decide) (sh_lt hG (by decide)) (sh_sh hG 39 rfl) (by decide) (by decide) (by decide) ?_
  refine pw_iinc (lv' := [(2, _), (3, _), (0, _), (1, _)]) dJ7_fill_53178_14 rfl (by decide) rfl ?_
  refine pw_goto (tgt := 5) dJ7_fill_53178_17 (by decide) ?_
  refine pw_iload_n dJ7_fill_53178_5 rfl ?_
  refine pw_iload_n dJ7_fill_53178_6 rfl ?_
  refine pw_icmp_ge (tgt := 20) dJ7_fill_53178_7 (by decide) (fun h => absurd h (by decide)) (fun _ => ?_)
  refine pw_aload_n dJ7_fill_53178_10 rfl ?_
  refine pw_iload_n dJ7_fill_53178_11 rfl ?_
  refine pw_iload_n dJ7_fill_53178_12 rfl ?_
  refine pw_iastN 4 dJ7_fill_53178_13 (by decide) (sh_lt hG (by decide)) (sh_sh hG 39 rfl) (by decide) (by decide) (by decide) ?_
  refine pw_iinc (lv' := [(2, _), (3, _), (0, _), (1, _)]) dJ7_fill_53178_14 rfl (by decide) rfl ?_
  refine pw_goto (tgt := 5) dJ7_fill_53178_17 (by decide) ?_
  refine pw_iload_n dJ7_fill_53178_5 rfl ?_
  refine pw_iload_n dJ7_fill_53178_6 rfl ?_
  refine pw_icmp_ge (tgt := 20) dJ7_fill_53178_7 (by decide) (fun _ => ?_) (fun h => absurd (by decide) h)
  refine pw_vret dJ7_fill_53178_20 rfl ?_
  refine pw_vret dX1_forgetReport_8 rfl ?_
  refine pw_aload_n dX1_clear_4 rfl ?_
  refine pw_iconst (v := nI 0) dX1_clear_5 (by decide) ?_
  refine pw_putI fX1_46 dX1_clear_6 (Or.inl rfl) (by decide) (sh_lt hG (by decide)) (sh_tg hG 32 rfl) rfl ?_
  refine pw_vret dX1_clear_9 rfl ?_
  refine pw_iload_n dX9_reset_27 rfl ?_
  refine pw_iret dX9_reset_28 rfl ?_
  refine pw_aload_n dL_law_673 rfl ?_
  refine pw_callV (as := []) (kc' := 0) (ks' := 0) lL_103 dL_law_674 rfl rfl (sh_lt hG (by decide)) (sh_tg hG 45 rfl) (Nat.le_of_ble_eq_true rfl) (by omega) (Nat.le_of_ble_eq_true rfl) (Nat.zero_le _) (Nat.zero_le _) ?_
  unfold pm_Met
  refine pm_lvs (lv' := [(0, _)]) rfl ?_
  refine pw_aload_n dX10_reset_0 rfl ?_
  refine pw_iconst (v := nI 0) dX10_reset_1 (by decide) ?_
  refine pw_putI fX10_154 dX10_reset_2 (Or.inl rfl) (by decide) (sh_lt hG (by decide)) (sh_tg hG 45 rfl) rfl ?_
  refine pw_aload_n dX10_reset_5 rfl ?_
  refine pw_getI fX10_220 dX10_reset_6 (sh_lt hG (by decide)) (sh_tg hG 45 rfl) rfl ?_
  refine pw_istore_n (lv' := [(1, _), (0, _)]) dX10_reset_9 (by decide) rfl ?_
  refine pw_aload_n dX10_reset_10 rfl ?_
  refine pw_iconst (v := nI 0) dX10_reset_11 (by decide) ?_
  refine pw_putI fX10_164 dX10_reset_12 (Or.inl rfl) (by decide) (sh_lt hG (by decide)) (sh_tg hG 45 rfl) rfl ?_
  refine pw_aload_n dX10_reset_15 rfl ?_
  refine pw_iconst (v := nI 0) dX10_reset_16 (by decide) ?_
  refine pw_putI fX10_220 dX10_reset_17 (Or.inl rfl) (by decide) (sh_lt hG (by decide)) (sh_tg hG 45 rfl) rfl ?_
  refine pw_aload_n dX10_reset_20 rfl ?_
  refine pw_iconst (v := nI 0) dX10_reset_21 (by decide) ?_
  refine pw_putI fX10_305 dX10_reset_22 (Or.inl rfl) (by decide) (sh_lt hG (by decide)) (sh_tg hG 45 rfl) rfl ?_
  refine pw_aload_n dX10_reset_25 rfl ?_
  refine pw_iconst (v := nI 0) dX10_reset_26 (by decide) ?_
  refine pw_putI fX10_273 dX10_reset_27 (Or.inl rfl) (by decide) (sh_lt hG (by decide)) (sh_tg hG 45 rfl) rfl ?_
  refine pw_aload_n dX10_reset_30 rfl ?_
  refine pw_iconst (v := nI 0) dX10_reset_31 (by decide) ?_
  refine pw_putI fX10_317 dX10_reset_32 (Or.inl rfl) (by decide) (sh_lt hG (by decide)) (sh_tg hG 45 rfl) rfl ?_
  refine pw_aload_n dX10_reset_35 rfl ?_
  refine pw_iconst (v := nI 0) dX10_reset_36 (by decide) ?_
  refine pw_putI fX10_354 dX10_reset_37 (Or.inl rfl) (by decide) (sh_lt hG (by decide)) (sh_tg hG 45 rfl) rfl ?_
  refine pw_iconst (v := nI 0) dX10_reset_40 (by decide) ?_
  refine pw_istore_n (lv' := [(2, _), (1, _), (0, _)]) dX10_reset_41 (by decide) rfl ?_
  refine pw_iload_n dX10_reset_42 rfl ?_
  refine pw_iconst (v := nI 5) dX10_reset_43 (by decide) ?_
  refine pw_icmp_ge (tgt := 60) dX10_reset_44 (by decide) (fun h => absurd h (by decide)) (fun _ => ?_)
  refine pw_aload_n dX10_reset_47 rfl ?_
  refine pw_getR (b := 76) fX10_96 dX10_reset_48 (sh_lt hG (by decide)) (sh_tg hG 45 rfl) rfl (gr_at hP 68 rfl) ?_
  refine pw_iload_n dX10_reset_51 rfl ?_
  refine pw_iconst (v := nI 0) dX10_reset_52 (by decide) ?_
  refine pw_iastN 0 dX10_reset_53 (by decide) (sh_lt hG (by decide)) (sh_sh hG 74 rfl) (by decide) (by decide) (by decide) ?_
  refine pw_iinc (lv' := [(2, _), (1, _), (0, _)]) dX10_reset_54 rfl (by decide) rfl ?_
  refine pw_goto (tgt := 42) dX10_reset_57 (by decide) ?_
  refine pw_iload_n dX10_reset_42 rfl ?_
  refine pw_iconst (v := nI 5) dX10_reset_43 (by decide) ?_
  refine pw_icmp_ge (tgt := 60) dX10_reset_44 (by decide) (fun h => absurd h (by decide)) (fun _ => ?_)
  refine pw_aload_n dX10_reset_47 rfl ?_
  refine pw_getR (b := 76) fX10_96 dX10_reset_48 (sh_lt hG (by decide)) (sh_tg hG 45 rfl) rfl (gr_at hP 68 rfl) ?_
  refine pw_iload_n dX10_reset_51 rfl ?_
  refine pw_iconst (v := nI 0) dX10_reset_52 (by decide) ?_
  refine pw_iastN 1 dX10_reset_53 (by decide) (sh_lt hG (by decide)) (sh_sh hG 74 rfl) (by decide) (by decide) (by decide) ?_
  refine pw_iinc (lv' := [(2, _), (1, _), (0, _)]) dX10_reset_54 rfl (by decide) rfl ?_
  refine pw_goto (tgt := 42) dX10_reset_57 (by decide) ?_
  refine pw_iload_n dX10_reset_42 rfl ?_
  refine pw_iconst (v := nI 5) dX10_reset_43 (by decide) ?_
  refine pw_icmp_ge (tgt := 60) dX10_reset_44 (by decide) (fun h => absurd h (by decide)) (fun _ => ?_)
  refine pw_aload_n dX10_reset_47 rfl ?_
  refine pw_getR (b := 76) fX10_96 dX10_reset_48 (sh_lt hG (by decide)) (sh_tg hG 45 rfl) rfl (gr_at hP 68 rfl) ?_
  refine pw_iload_n dX10_reset_51 rfl ?_
  refine pw_iconst (v := nI 0) dX10_reset_52 (by decide) ?_
  refine pw_iastN 2 dX10_reset_53 (by decide) (sh_lt hG (by decide)) (sh_sh hG 74 rfl) (by decide) (by decide) (by decide) ?_
  refine pw_iinc (lv' := [(2, _), (1, _), (0, _)]) dX10_reset_54 rfl (by decide) rfl ?_
  refine pw_goto (tgt := 42) dX10_reset_57 (by decide) ?_
  refine pw_iload_n dX10_reset_42 rfl ?_
  refine pw_iconst (v := nI 5) dX10_reset_43 (by decide) ?_
  refine pw_icmp_ge (tgt := 60) dX10_reset_44 (by decide) (fun h => absurd h (by decide)) (fun _ => ?_)
  refine pw_aload_n dX10_reset_47 rfl ?_
  refine pw_getR (b := 76) fX10_96 dX10_reset_48 (sh_lt hG (by decide)) (sh_tg hG 45 rfl) rfl (gr_at hP 68 rfl) ?_
  refine pw_iload_n dX10_reset_51 rfl ?_
  refine pw_iconst (v := nI 0) dX10_reset_52 (by decide) ?_
  refine pw_iastN 3 dX10_reset_53 (by decide) (sh_lt hG (by decide)) (sh_sh hG 74 rfl) (by decide) (by decide) (by decide) ?_
  refine pw_iinc (lv' := [(2, _), (1, _), (0, _)]) dX10_reset_54 rfl (by decide) rfl ?_
  refine pw_goto (tgt := 42) dX10_reset_57 (by decide) ?_
  refine pw_iload_n dX10_reset_42 rfl ?_
  refine pw_iconst (v := nI 5) dX10_reset_43 (by decide) ?_
  refine pw_icmp_ge (tgt := 60) dX10_reset_44 (by decide) (fun h => absurd h (by decide)) (fun _ => ?_)
  refine pw_aload_n dX10_reset_47 rfl ?_
  refine pw_getR (b := 76) fX10_96 dX10_reset_48 (sh_lt hG (by decide)) (sh_tg hG 45 rfl) rfl (gr_at hP 68 rfl) ?_
  refine pw_iload_n dX10_reset_51 rfl ?_
  refine pw_iconst (v := nI 0) dX10_reset_52 (by decide) ?_
  refine pw_iastN 4 dX10_reset_53 (by decide) (sh_lt hG (by decide)) (sh_sh hG 74 rfl) (by decide) (by decide) (by decide) ?_
  refine pw_iinc (lv' := [(2, _), (1, _), (0, _)]) dX10_reset_54 rfl (by decide) rfl ?_
  refine pw_goto (tgt := 42) dX10_reset_57 (by decide) ?_
  refine pw_iload_n dX10_reset_42 rfl ?_
  refine pw_iconst (v := nI 5) dX10_reset_43 (by decide) ?_
  refine pw_icmp_ge (tgt := 60) dX10_reset_44 (by decide) (fun _ => ?_) (fun h => absurd (by decide) h)
  refine pw_iload_n dX10_reset_60 rfl ?_
  refine pw_iret dX10_reset_61 rfl ?_
  refine pw_icmp_eq (tgt := 682) dL_law_677 (by decide) (fun _ => ?_) (fun h => absurd (by decide) h)
  exact p1_end hX k
set_option maxRecDepth 20000 in
set_option maxHeartbeats 4000000 in
theorem p1_case14_0 {l : Launch} {E : pmE} {S : pmS} {P : pmP} {xs : Nat → Int32} {Q : Option Value → pmS → pmI → pmJ → pmP → Prop} (hG : sh_St S) (hP : gr_St P) (hX : pm_X E 3 xs) (hj : xs 1 = nI 0) (k : ∀ S I J P, Q (some (.int (nI 1))) S I J P) : pm_W l E yL_law cL_law 8 (some .boolean) 1400 10 100 631 [(4, .int (nI 0)), (3, .ref 95), (2, .ref 47), (1, .ref 2), (0, .ref 0)] [] S (fun _ _ => 0) (fun _ _ => 0) P (pm_N E Q) := by
  refine pw_aload_n dL_law_631 rfl ?_
  refine pw_aload_n dL_law_632 rfl ?_
  refine pw_iload dL_law_633 rfl ?_
  refine pw_iconst (v := nI 1) dL_law_635 (by decide) ?_
  refine pw_iadd dL_law_636 ?_
  refine pw_sld 1 hX dL_law_637 (by omega) (by decide) (by omega) ?_
  refine pw_ti (z := nI 0) hj ?_
  refine pw_callV (as := [_]) (kc' := 0) (ks' := 0) lL_92 dL_law_638 rfl rfl (sh_lt hG (by decide)) (sh_tg hG 0 rfl) (Nat.le_of_ble_eq_true rfl) (by omega) (Nat.le_of_ble_eq_true rfl) (Nat.zero_le _) (Nat.zero_le _) ?_
  unfold pm_Met
  refine pm_lvs (lv' := [(0, _), (1, _)]) rfl ?_
  refine pw_iload_n dX9_count_0 rfl ?_
  refine pw_tableIn (off := 43) (tgt := 44) dX9_count_1 (by decide) (by decide) (by decide) (by decide) ?_
  refine pw_aload_n dX9_count_44 rfl ?_
  refine pw_getR (b := 15) fX9_32 dX9_count_45 (sh_lt hG (by decide)) (sh_tg hG 0 rfl) rfl (gr_at hP 3 rfl) ?_
  refine pw_callV (as := []) (kc' := 0) (ks' := 0) lX9_170 dX9_count_48 rfl rfl (sh_lt hG (by decide)) (sh_tg hG 13 rfl) (Nat.le_of_ble_eq_true rfl) (by omega) (Nat.le_of_ble_eq_true rfl) (Nat.zero_le _) (Nat.zero_le _) ?_
  unfold pm_Met
  refine pm_lvs (lv' := [(0, _)]) rfl ?_
  refine pw_aload_n dX4_keptCount_0 rfl ?_
  refine pw_getI fX4_49 dX4_keptCount_1 (sh_lt hG (by decide)) (sh_tg hG 13 rfl) rfl ?_
  refine pw_iret dX4_keptCount_4 rfl ?_
  refine pw_goto (tgt := 116) dX9_count_51 (by decide) ?_
  refine pw_iret dX9_count_116 rfl ?_
  refine pw_aload_n dL_law_641 rfl ?_
  refine pw_aload_n dL_law_642 rfl ?_
  refine pw_iload dL_law_643 rfl ?_
  refine pw_iconst (v := nI 1) dL_law_645 (by decide) ?_
  refine pw_iadd dL_law_646 ?_
  refine pw_sld 1 hX dL_law_647 (by omega) (by decide) (by omega) ?_
  refine pw_ti (z := nI 0) hj ?_
  refine pw_callV (as := [_]) (kc' := 0) (ks' := 0) lL_95 dL_law_648 rfl rfl (sh_lt hG (by decide)) (sh_tg hG 45 rfl) (Nat.le_of_ble_eq_true rfl) (by omega) (Nat.le_of_ble_eq_true rfl) (Nat.zero_le _) (Nat.zero_le _) ?_
  unfold pm_Met
  refine pm_lvs (lv' := [(0, _), (1, _)]) rfl ?_
  refine pw_aload_n dX10_count_0 rfl ?_
  refine pw_iconst (v := nI 0) dX10_count_1 (by decide) ?_
  refine pw_putI fX10_154 dX10_count_2 (Or.inl rfl) (by decide) (sh_lt hG (by decide)) (sh_tg hG 45 rfl) rfl ?_
  refine pw_iconst (v := nI 0) dX10_count_5 (by decide) ?_
  refine pw_istore_n (lv' := [(2, _), (0, _), (1, _)]) dX10_count_6 (by decide) rfl ?_
  refine pw_iload_n dX10_count_7 rfl ?_
  refine pw_tableIn (off := 44) (tgt := 52) dX10_count_8 (by decide) (by decide) (by decide) (by decide) ?_
  refine pw_aload_n dX10_count_52 rfl ?_
  refine pw_getI fX10_220 dX10_count_53 (sh_lt hG (by decide)) (sh_tg hG 45 rfl) rfl ?_
  refine pw_iret dX10_count_56 rfl ?_
  refine pw_icmp_eq (tgt := 682) dL_law_651 (by decide) (fun _ => ?_) (fun h => absurd (by decide) h)
  exact p1_end hX k
set_option maxRecDepth 20000 in
set_option maxHeartbeats 4000000 in
theorem p1_case14_1 {l : Launch} {E : pmE} {S : pmS} {P : pmP} {xs : Nat → Int32} {Q : Option Value → pmS → pmI → pmJ → pmP → Prop} (hG : sh_St S) (hP : gr_St P) (hX : pm_X E 3 xs) (hj : xs 1 = nI 1) (k : ∀ S I J P, Q (some (.int (nI 1))) S I J P) : pm_W l E yL_law cL_law 8 (some .boolean) 1400 10 100 631 [(4, .int (nI 0)), (3, .ref 95), (2, .ref 47), (1, .ref 2), (0, .ref 0)] [] S (fun _ _ => 0) (fun _ _ => 0) P (pm_N E Q) := by
  refine pw_aload_n dL_law_631 rfl ?_
  refine pw_aload_n dL_law_632 rfl ?_
  refine pw_iload dL_law_633 rfl ?_
  refine pw_iconst (v := nI 1) dL_law_635 (by decide) ?_
  refine pw_iadd dL_law_636 ?_
  refine pw_sld 1 hX dL_law_637 (by omega) (by decide) (by omega) ?_
  refine pw_ti (z := nI 1) hj ?_
  refine pw_callV (as := [_]) (kc' := 0) (ks' := 0) lL_92 dL_law_638 rfl rfl (sh_lt hG (by decide)) (sh_tg hG 0 rfl) (Nat.le_of_ble_eq_true rfl) (by omega) (Nat.le_of_ble_eq_true rfl) (Nat.zero_le _) (Nat.zero_le _) ?_
  unfold pm_Met
  refine pm_lvs (lv' := [(0, _), (1, _)]) rfl ?_
  refine pw_iload_n dX9_count_0 rfl ?_
  refine pw_tableIn (off := 53) (tgt := 54) dX9_count_1 (by decide) (by decide) (by decide) (by decide) ?_
  refine pw_aload_n dX9_count_54 rfl ?_
  refine pw_getR (b := 15) fX9_32 dX9_count_55 (sh_lt hG (by decide)) (sh_tg hG 0 rfl) rfl (gr_at hP 3 rfl) ?_
  refine pw_callV (as := []) (kc' := 0) (ks' := 0) lX9_173 dX9_count_58 rfl rfl (sh_lt hG (by decide)) (sh_tg hG 13 rfl) (Nat.le_of_ble_eq_true rfl) (by omega) (Nat.le_of_ble_eq_true rfl) (Nat.zero_le _) (Nat.zero_le _) ?_
  unfold pm_Met
  refine pm_lvs (lv' := [(0, _)]) rfl ?_
  refine pw_aload_n dX4_resultCount_0 rfl ?_
  refine pw_getI fX4_53 dX4_resultCount_1 (sh_lt hG (by decide)) (sh_tg hG 13 rfl) rfl ?_
  refine pw_iret dX4_resultCount_4 rfl ?_
  refine pw_goto (tgt := 116) dX9_count_61 (by decide) ?_
  refine pw_iret dX9_count_116 rfl ?_
  refine pw_aload_n dL_law_641 rfl ?_
  refine pw_aload_n dL_law_642 rfl ?_
  refine pw_iload dL_law_643 rfl ?_
  refine pw_iconst (v := nI 1) dL_law_645 (by decide) ?_
  refine pw_iadd dL_law_646 ?_
  refine pw_sld 1 hX dL_law_647 (by omega) (by decide) (by omega) ?_
  refine pw_ti (z := nI 1) hj ?_
  refine pw_callV (as := [_]) (kc' := 0) (ks' := 0) lL_95 dL_law_648 rfl rfl (sh_lt hG (by decide)) (sh_tg hG 45 rfl) (Nat.le_of_ble_eq_true rfl) (by omega) (Nat.le_of_ble_eq_true rfl) (Nat.zero_le _) (Nat.zero_le _) ?_
  unfold pm_Met
  refine pm_lvs (lv' := [(0, _), (1, _)]) rfl ?_
  refine pw_aload_n dX10_count_0 rfl ?_
  refine pw_iconst (v := nI 0) dX10_count_1 (by decide) ?_
  refine pw_putI fX10_154 dX10_count_2 (Or.inl rfl) (by decide) (sh_lt hG (by decide)) (sh_tg hG 45 rfl) rfl ?_
  refine pw_iconst (v := nI 0) dX10_count_5 (by decide) ?_
  refine pw_istore_n (lv' := [(2, _), (0, _), (1, _)]) dX10_count_6 (by decide) rfl ?_
  refine pw_iload_n dX10_count_7 rfl ?_
  refine pw_tableIn (off := 49) (tgt := 57) dX10_count_8 (by decide) (by decide) (by decide) (by decide) ?_
  refine pw_aload_n dX10_count_57 rfl ?_
  refine pw_getI fX10_305 dX10_count_58 (sh_lt hG (by decide)) (sh_tg hG 45 rfl) rfl ?_
  refine pw_iret dX10_count_61 rfl ?_
  refine pw_icmp_eq (tgt := 682) dL_law_651 (by decide) (fun _ => ?_) (fun h => absurd (by decide) h)
  exact p1_end hX k
set_option maxRecDepth 20000 in
set_option maxHeartbeats 4000000 in
theorem p1_case14_2 {l : Launch} {E : pmE} {S : pmS} {P : pmP} {xs : Nat → Int32} {Q : Option Value → pmS → pmI → pmJ → pmP → Prop} (hG : sh_St S) (hP : gr_St P) (hX : pm_X E 3 xs) (hj : xs 1 = nI 2) (k : ∀ S I J P, Q (some (.int (nI 1))) S I J P) : pm_W l E yL_law cL_law 8 (some .boolean) 1400 10 100 631 [(4, .int (nI 0)), (3, .ref 95), (2, .ref 47), (1, .ref 2), (0, .ref 0)] [] S (fun _ _ => 0) (fun _ _ => 0) P (pm_N E Q) := by
  refine pw_aload_n dL_law_631 rfl ?_
  refine pw_aload_n dL_law_632 rfl ?_
  refine pw_iload dL_law_633 rfl ?_
  refine pw_iconst (v := nI 1) dL_law_635 (by decide) ?_
  refine pw_iadd dL_law_636 ?_
  refine pw_sld 1 hX dL_law_637 (by omega) (by decide) (by omega) ?_
  refine pw_ti (z := nI 2) hj ?_
  refine pw_callV (as := [_]) (kc' := 0) (ks' := 0) lL_92 dL_law_638 rfl rfl (sh_lt hG (by decide)) (sh_tg hG 0 rfl) (Nat.le_of_ble_eq_true rfl) (by omega) (Nat.le_of_ble_eq_true rfl) (Nat.zero_le _) (Nat.zero_le _) ?_
  unfold pm_Met
  refine pm_lvs (lv' := [(0, _), (1, _)]) rfl ?_
  refine pw_iload_n dX9_count_0 rfl ?_
  refine pw_tableIn (off := 63) (tgt := 64) dX9_count_1 (by decide) (by decide) (by decide) (by decide) ?_
  refine pw_aload_n dX9_count_64 rfl ?_
  refine pw_getR (b := 15) fX9_32 dX9_count_65 (sh_lt hG (by decide)) (sh_tg hG 0 rfl) rfl (gr_at hP 3 rfl) ?_
  refine pw_getR (b := 16) fX9_72 dX9_count_68 (sh_lt hG (by decide)) (sh_tg hG 13 rfl) rfl (gr_at hP 15 rfl) ?_
  refine pw_callV (as := []) (kc' := 0) (ks' := 0) lX9_176 dX9_count_71 rfl rfl (sh_lt hG (by decide)) (sh_tg hG 14 rfl) (Nat.le_of_ble_eq_true rfl) (by omega) (Nat.le_of_ble_eq_true rfl) (Nat.zero_le _) (Nat.zero_le _) ?_
  unfold pm_Met
  refine pm_lvs (lv' := [(0, _)]) rfl ?_
  refine pw_aload_n dX2_size_0 rfl ?_
  refine pw_getI fX2_25 dX2_size_1 (sh_lt hG (by decide)) (sh_tg hG 14 rfl) rfl ?_
  refine pw_iret dX2_size_4 rfl ?_
  refine pw_goto (tgt := 116) dX9_count_74 (by decide) ?_
  refine pw_iret dX9_count_116 rfl ?_
  refine pw_aload_n dL_law_641 rfl ?_
  refine pw_aload_n dL_law_642 rfl ?_
  refine pw_iload dL_law_643 rfl ?_
  refine pw_iconst (v := nI 1) dL_law_645 (by decide) ?_
  refine pw_iadd dL_law_646 ?_
  refine pw_sld 1 hX dL_law_647 (by omega) (by decide) (by omega) ?_
  refine pw_ti (z := nI 2) hj ?_
  refine pw_callV (as := [_]) (kc' := 0) (ks' := 0) lL_95 dL_law_648 rfl rfl (sh_lt hG (by decide)) (sh_tg hG 45 rfl) (Nat.le_of_ble_eq_true rfl) (by omega) (Nat.le_of_ble_eq_true rfl) (Nat.zero_le _) (Nat.zero_le _) ?_
  unfold pm_Met
  refine pm_lvs (lv' := [(0, _), (1, _)]) rfl ?_
  refine pw_aload_n dX10_count_0 rfl ?_
  refine pw_iconst (v := nI 0) dX10_count_1 (by decide) ?_
  refine pw_putI fX10_154 dX10_count_2 (Or.inl rfl) (by decide) (sh_lt hG (by decide)) (sh_tg hG 45 rfl) rfl ?_
  refine pw_iconst (v := nI 0) dX10_count_5 (by decide) ?_
  refine pw_istore_n (lv' := [(2, _), (0, _), (1, _)]) dX10_count_6 (by decide) rfl ?_
  refine pw_iload_n dX10_count_7 rfl ?_
  refine pw_tableIn (off := 54) (tgt := 62) dX10_count_8 (by decide) (by decide) (by decide) (by decide) ?_
  refine pw_aload_n dX10_count_62 rfl ?_
  refine pw_getI fX10_273 dX10_count_63 (sh_lt hG (by decide)) (sh_tg hG 45 rfl) rfl ?_
  refine pw_iret dX10_count_66 rfl ?_
  refine pw_icmp_eq (tgt := 682) dL_law_651 (by decide) (fun _ => ?_) (fun h => absurd (by decide) h)
  exact p1_end hX k
set_option maxRecDepth 20000 in
set_option maxHeartbeats 4000000 in
theorem p1_case14_3 {l : Launch} {E : pmE} {S : pmS} {P : pmP} {xs : Nat → Int32} {Q : Option Value → pmS → pmI → pmJ → pmP → Prop} (hG : sh_St S) (hP : gr_St P) (hX : pm_X E 3 xs) (hj : xs 1 = nI 3) (k : ∀ S I J P, Q (some (.int (nI 1))) S I J P) : pm_W l E yL_law cL_law 8 (some .boolean) 1400 10 100 631 [(4, .int (nI 0)), (3, .ref 95), (2, .ref 47), (1, .ref 2), (0, .ref 0)] [] S (fun _ _ => 0) (fun _ _ => 0) P (pm_N E Q) := by
  refine pw_aload_n dL_law_631 rfl ?_
  refine pw_aload_n dL_law_632 rfl ?_
  refine pw_iload dL_law_633 rfl ?_
  refine pw_iconst (v := nI 1) dL_law_635 (by decide) ?_
  refine pw_iadd dL_law_636 ?_
  refine pw_sld 1 hX dL_law_637 (by omega) (by decide) (by omega) ?_
  refine pw_ti (z := nI 3) hj ?_
  refine pw_callV (as := [_]) (kc' := 0) (ks' := 0) lL_92 dL_law_638 rfl rfl (sh_lt hG (by decide)) (sh_tg hG 0 rfl) (Nat.le_of_ble_eq_true rfl) (by omega) (Nat.le_of_ble_eq_true rfl) (Nat.zero_le _) (Nat.zero_le _) ?_
  unfold pm_Met
  refine pm_lvs (lv' := [(0, _), (1, _)]) rfl ?_
  refine pw_iload_n dX9_count_0 rfl ?_
  refine pw_tableIn (off := 76) (tgt := 77) dX9_count_1 (by decide) (by decide) (by decide) (by decide) ?_
  refine pw_aload_n dX9_count_77 rfl ?_
  refine pw_getI fX9_49 dX9_count_78 (sh_lt hG (by decide)) (sh_tg hG 0 rfl) rfl ?_
  refine pw_goto (tgt := 116) dX9_count_81 (by decide) ?_
  refine pw_iret dX9_count_116 rfl ?_
  refine pw_aload_n dL_law_641 rfl ?_
  refine pw_aload_n dL_law_642 rfl ?_
  refine pw_iload dL_law_643 rfl ?_
  refine pw_iconst (v := nI 1) dL_law_645 (by decide) ?_
  refine pw_iadd dL_law_646 ?_
  refine pw_sld 1 hX dL_law_647 (by omega) (by decide) (by omega) ?_
  refine pw_ti (z := nI 3) hj ?_
  refine pw_callV (as := [_]) (kc' := 0) (ks' := 0) lL_95 dL_law_648 rfl rfl (sh_lt hG (by decide)) (sh_tg hG 45 rfl) (Nat.le_of_ble_eq_true rfl) (by omega) (Nat.le_of_ble_eq_true rfl) (Nat.zero_le _) (Nat.zero_le _) ?_
  unfold pm_Met
  refine pm_lvs (lv' := [(0, _), (1, _)]) rfl ?_
  refine pw_aload_n dX10_count_0 rfl ?_
  refine pw_iconst (v := nI 0) dX10_count_1 (by decide) ?_
  refine pw_putI fX10_154 dX10_count_2 (Or.inl rfl) (by decide) (sh_lt hG (by decide)) (sh_tg hG 45 rfl) rfl ?_
  refine pw_iconst (v := nI 0) dX10_count_5 (by decide) ?_
  refine pw_istore_n (lv' := [(2, _), (0, _), (1, _)]) dX10_count_6 (by decide) rfl ?_
  refine pw_iload_n dX10_count_7 rfl ?_
  refine pw_tableIn (off := 59) (tgt := 67) dX10_count_8 (by decide) (by decide) (by decide) (by decide) ?_
  refine pw_aload_n dX10_count_67 rfl ?_
  refine pw_getI fX10_164 dX10_count_68 (sh_lt hG (by decide)) (sh_tg hG 45 rfl) rfl ?_
  refine pw_iret dX10_count_71 rfl ?_
  refine pw_icmp_eq (tgt := 682) dL_law_651 (by decide) (fun _ => ?_) (fun h => absurd (by decide) h)
  exact p1_end hX k
set_option maxRecDepth 20000 in
set_option maxHeartbeats 4000000 in
theorem p1_case14_4 {l : Launch} {E : pmE} {S : pmS} {P : pmP} {xs : Nat → Int32} {Q : Option Value → pmS → pmI → pmJ → pmP → Prop} (hG : sh_St S) (hP : gr_St P) (hX : pm_X E 3 xs) (hj : xs 1 = nI 4) (k : ∀ S I J P, Q (some (.int (nI 1))) S I J P) : pm_W l E yL_law cL_law 8 (some .boolean) 1400 10 100 631 [(4, .int (nI 0)), (3, .ref 95), (2, .ref 47), (1, .ref 2), (0, .ref 0)] [] S (fun _ _ => 0) (fun _ _ => 0) P (pm_N E Q) := by
  refine pw_aload_n dL_law_631 rfl ?_
  refine pw_aload_n dL_law_632 rfl ?_
  refine pw_iload dL_law_633 rfl ?_
  refine pw_iconst (v := nI 1) dL_law_635 (by decide) ?_
  refine pw_iadd dL_law_636 ?_
  refine pw_sld 1 hX dL_law_637 (by omega) (by decide) (by omega) ?_
  refine pw_ti (z := nI 4) hj ?_
  refine pw_callV (as := [_]) (kc' := 0) (ks' := 0) lL_92 dL_law_638 rfl rfl (sh_lt hG (by decide)) (sh_tg hG 0 rfl) (Nat.le_of_ble_eq_true rfl) (by omega) (Nat.le_of_ble_eq_true rfl) (Nat.zero_le _) (Nat.zero_le _) ?_
  unfold pm_Met
  refine pm_lvs (lv' := [(0, _), (1, _)]) rfl ?_
  refine pw_iload_n dX9_count_0 rfl ?_
  refine pw_tableIn (off := 83) (tgt := 84) dX9_count_1 (by decide) (by decide) (by decide) (by decide) ?_
  refine pw_aload_n dX9_count_84 rfl ?_
  refine pw_getR (b := 15) fX9_32 dX9_count_85 (sh_lt hG (by decide)) (sh_tg hG 0 rfl) rfl (gr_at hP 3 rfl) ?_
  refine pw_callV (as := []) (kc' := 0) (ks' := 0) lX9_179 dX9_count_88 rfl rfl (sh_lt hG (by decide)) (sh_tg hG 13 rfl) (Nat.le_of_ble_eq_true rfl) (by omega) (Nat.le_of_ble_eq_true rfl) (Nat.zero_le _) (Nat.zero_le _) ?_
  unfold pm_Met
  refine pm_lvs (lv' := [(0, _)]) rfl ?_
  refine pw_iconst (v := nI 0) dX4_countWaiting_0 (by decide) ?_
  refine pw_istore_n (lv' := [(1, _), (0, _)]) dX4_countWaiting_1 (by decide) rfl ?_
  refine pw_iconst (v := nI 0) dX4_countWaiting_2 (by decide) ?_
  refine pw_istore_n (lv' := [(2, _), (1, _), (0, _)]) dX4_countWaiting_3 (by decide) rfl ?_
  refine pw_iload_n dX4_countWaiting_4 rfl ?_
  refine pw_aload_n dX4_countWaiting_5 rfl ?_
  refine pw_getI fX4_49 dX4_countWaiting_6 (sh_lt hG (by decide)) (sh_tg hG 13 rfl) rfl ?_
  refine pw_icmp_ge (tgt := 30) dX4_countWaiting_9 (by decide) (fun _ => ?_) (fun h => absurd (by decide) h)
  refine pw_iload_n dX4_countWaiting_30 rfl ?_
  refine pw_iret dX4_countWaiting_31 rfl ?_
  refine pw_goto (tgt := 116) dX9_count_91 (by decide) ?_
  refine pw_iret dX9_count_116 rfl ?_
  refine pw_aload_n dL_law_641 rfl ?_
  refine pw_aload_n dL_law_642 rfl ?_
  refine pw_iload dL_law_643 rfl ?_
  refine pw_iconst (v := nI 1) dL_law_645 (by decide) ?_
  refine pw_iadd dL_law_646 ?_
  refine pw_sld 1 hX dL_law_647 (by omega) (by decide) (by omega) ?_
  refine pw_ti (z := nI 4) hj ?_
  refine pw_callV (as := [_]) (kc' := 0) (ks' := 0) lL_95 dL_law_648 rfl rfl (sh_lt hG (by decide)) (sh_tg hG 45 rfl) (Nat.le_of_ble_eq_true rfl) (by omega) (Nat.le_of_ble_eq_true rfl) (Nat.zero_le _) (Nat.zero_le _) ?_
  unfold pm_Met
  refine pm_lvs (lv' := [(0, _), (1, _)]) rfl ?_
  refine pw_aload_n dX10_count_0 rfl ?_
  refine pw_iconst (v := nI 0) dX10_count_1 (by decide) ?_
  refine pw_putI fX10_154 dX10_count_2 (Or.inl rfl) (by decide) (sh_lt hG (by decide)) (sh_tg hG 45 rfl) rfl ?_
  refine pw_iconst (v := nI 0) dX10_count_5 (by decide) ?_
  refine pw_istore_n (lv' := [(2, _), (0, _), (1, _)]) dX10_count_6 (by decide) rfl ?_
  refine pw_iload_n dX10_count_7 rfl ?_
  refine pw_tableIn (off := 64) (tgt := 72) dX10_count_8 (by decide) (by decide) (by decide) (by decide) ?_
  refine pw_iconst (v := nI 0) dX10_count_72 (by decide) ?_
  refine pw_istore_n (lv' := [(3, _), (2, _), (0, _), (1, _)]) dX10_count_73 (by decide) rfl ?_
  refine pw_iload_n dX10_count_74 rfl ?_
  refine pw_aload_n dX10_count_75 rfl ?_
  refine pw_getI fX10_220 dX10_count_76 (sh_lt hG (by decide)) (sh_tg hG 45 rfl) rfl ?_
  refine pw_icmp_ge (tgt := 105) dX10_count_79 (by decide) (fun _ => ?_) (fun h => absurd (by decide) h)
  refine pw_iload_n dX10_count_105 rfl ?_
  refine pw_iret dX10_count_106 rfl ?_
  refine pw_icmp_eq (tgt := 682) dL_law_651 (by decide) (fun _ => ?_) (fun h => absurd (by decide) h)
  exact p1_end hX k
set_option maxRecDepth 20000 in
set_option maxHeartbeats 4000000 in
theorem p1_case14_5 {l : Launch} {E : pmE} {S : pmS} {P : pmP} {xs : Nat → Int32} {Q : Option Value → pmS → pmI → pmJ → pmP → Prop} (hG : sh_St S) (hP : gr_St P) (hX : pm_X E 3 xs) (hj : xs 1 = nI 5) (k : ∀ S I J P, Q (some (.int (nI 1))) S I J P) : pm_W l E yL_law cL_law 8 (some .boolean) 1400 10 100 631 [(4, .int (nI 0)), (3, .ref 95), (2, .ref 47), (1, .ref 2), (0, .ref 0)] [] S (fun _ _ => 0) (fun _ _ => 0) P (pm_N E Q) := by
  refine pw_aload_n dL_law_631 rfl ?_
  refine pw_aload_n dL_law_632 rfl ?_
  refine pw_iload dL_law_633 rfl ?_
  refine pw_iconst (v := nI 1) dL_law_635 (by decide) ?_
  refine pw_iadd dL_law_636 ?_
  refine pw_sld 1 hX dL_law_637 (by omega) (by decide) (by omega) ?_
  refine pw_ti (z := nI 5) hj ?_
  refine pw_callV (as := [_]) (kc' := 0) (ks' := 0) lL_92 dL_law_638 rfl rfl (sh_lt hG (by decide)) (sh_tg hG 0 rfl) (Nat.le_of_ble_eq_true rfl) (by omega) (Nat.le_of_ble_eq_true rfl) (Nat.zero_le _) (Nat.zero_le _) ?_
  unfold pm_Met
  refine pm_lvs (lv' := [(0, _), (1, _)]) rfl ?_
  refine pw_iload_n dX9_count_0 rfl ?_
  refine pw_tableIn (off := 93) (tgt := 94) dX9_count_1 (by decide) (by decide) (by decide) (by decide) ?_
  refine pw_aload_n dX9_count_94 rfl ?_
  refine pw_getR (b := 15) fX9_32 dX9_count_95 (sh_lt hG (by decide)) (sh_tg hG 0 rfl) rfl (gr_at hP 3 rfl) ?_
  refine pw_callV (as := []) (kc' := 0) (ks' := 0) lX9_182 dX9_count_98 rfl rfl (sh_lt hG (by decide)) (sh_tg hG 13 rfl) (Nat.le_of_ble_eq_true rfl) (by omega) (Nat.le_of_ble_eq_true rfl) (Nat.zero_le _) (Nat.zero_le _) ?_
  unfold pm_Met
  refine pm_lvs (lv' := [(0, _)]) rfl ?_
  refine pw_iconst (v := nI 0) dX4_countOldResults_0 (by decide) ?_
  refine pw_istore_n (lv' := [(1, _), (0, _)]) dX4_countOldResults_1 (by decide) rfl ?_
  refine pw_iconst (v := nI 1) dX4_countOldResults_2 (by decide) ?_
  refine pw_istore_n (lv' := [(2, _), (1, _), (0, _)]) dX4_countOldResults_3 (by decide) rfl ?_
  refine pw_iload_n dX4_countOldResults_4 rfl ?_
  refine pw_aload_n dX4_countOldResults_5 rfl ?_
  refine pw_getI fX4_53 dX4_countOldResults_6 (sh_lt hG (by decide)) (sh_tg hG 13 rfl) rfl ?_
  refine pw_icmp_gt (tgt := 49) dX4_countOldResults_9 (by decide) (fun _ => ?_) (fun h => absurd (by decide) h)
  refine pw_iload_n dX4_countOldResults_49 rfl ?_
  refine pw_iret dX4_countOldResults_50 rfl ?_
  refine pw_goto (tgt := 116) dX9_count_101 (by decide) ?_
  refine pw_iret dX9_count_116 rfl ?_
  refine pw_aload_n dL_law_641 rfl ?_
  refine pw_aload_n dL_law_642 rfl ?_
  refine pw_iload dL_law_643 rfl ?_
  refine pw_iconst (v := nI 1) dL_law_645 (by decide) ?_
  refine pw_iadd dL_law_646 ?_
  refine pw_sld 1 hX dL_law_647 (by omega) (by decide) (by omega) ?_
  refine pw_ti (z := nI 5) hj ?_
  refine pw_callV (as := [_]) (kc' := 0) (ks' := 0) lL_95 dL_law_648 rfl rfl (sh_lt hG (by decide)) (sh_tg hG 45 rfl) (Nat.le_of_ble_eq_true rfl) (by omega) (Nat.le_of_ble_eq_true rfl) (Nat.zero_le _) (Nat.zero_le _) ?_
  unfold pm_Met
  refine pm_lvs (lv' := [(0, _), (1, _)]) rfl ?_
  refine pw_aload_n dX10_count_0 rfl ?_
  refine pw_iconst (v := nI 0) dX10_count_1 (by decide) ?_
  refine pw_putI fX10_154 dX10_count_2 (Or.inl rfl) (by decide) (sh_lt hG (by decide)) (sh_tg hG 45 rfl) rfl ?_
  refine pw_iconst (v := nI 0) dX10_count_5 (by decide) ?_
  refine pw_istore_n (lv' := [(2, _), (0, _), (1, _)]) dX10_count_6 (by decide) rfl ?_
  refine pw_iload_n dX10_count_7 rfl ?_
  refine pw_tableIn (off := 99) (tgt := 107) dX10_count_8 (by decide) (by decide) (by decide) (by decide) ?_
  refine pw_iconst (v := nI 1) dX10_count_107 (by decide) ?_
  refine pw_istore_n (lv' := [(3, _), (2, _), (0, _), (1, _)]) dX10_count_108 (by decide) rfl ?_
  refine pw_iload_n dX10_count_109 rfl ?_
  refine pw_aload_n dX10_count_110 rfl ?_
  refine pw_getI fX10_305 dX10_count_111 (sh_lt hG (by decide)) (sh_tg hG 45 rfl) rfl ?_
  refine pw_icmp_gt (tgt := 155) dX10_count_114 (by decide) (fun _ => ?_) (fun h => absurd (by decide) h)
  refine pw_iload_n dX10_count_155 rfl ?_
  refine pw_iret dX10_count_156 rfl ?_
  refine pw_icmp_eq (tgt := 682) dL_law_651 (by decide) (fun _ => ?_) (fun h => absurd (by decide) h)
  exact p1_end hX k
set_option maxRecDepth 20000 in
set_option maxHeartbeats 4000000 in
theorem p1_case14_6 {l : Launch} {E : pmE} {S : pmS} {P : pmP} {xs : Nat → Int32} {Q : Option Value → pmS → pmI → pmJ → pmP → Prop} (hG : sh_St S) (hP : gr_St P) (hX : pm_X E 3 xs) (hj : xs 1 = nI 6) (k : ∀ S I J P, Q (some (.int (nI 1))) S I J P) : pm_W l E yL_law cL_law 8 (some .boolean) 1400 10 100 631 [(4, .int (nI 0)), (3, .ref 95), (2, .ref 47), (1, .ref 2), (0, .ref 0)] [] S (fun _ _ => 0) (fun _ _ => 0) P (pm_N E Q) := by
  refine pw_aload_n dL_law_631 rfl ?_
  refine pw_aload_n dL_law_632 rfl ?_
  refine pw_iload dL_law_633 rfl ?_
  refine pw_iconst (v := nI 1) dL_law_635 (by decide) ?_
  refine pw_iadd dL_law_636 ?_
  refine pw_sld 1 hX dL_law_637 (by omega) (by decide) (by omega) ?_
  refine pw_ti (z := nI 6) hj ?_
  refine pw_callV (as := [_]) (kc' := 0) (ks' := 0) lL_92 dL_law_638 rfl rfl (sh_lt hG (by decide)) (sh_tg hG 0 rfl) (Nat.le_of_ble_eq_true rfl) (by omega) (Nat.le_of_ble_eq_true rfl) (Nat.zero_le _) (Nat.zero_le _) ?_
  unfold pm_Met
  refine pm_lvs (lv' := [(0, _), (1, _)]) rfl ?_
  refine pw_iload_n dX9_count_0 rfl ?_
  refine pw_tableIn (off := 103) (tgt := 104) dX9_count_1 (by decide) (by decide) (by decide) (by decide) ?_
  refine pw_aload_n dX9_count_104 rfl ?_
  refine pw_getR (b := 34) fX9_41 dX9_count_105 (sh_lt hG (by decide)) (sh_tg hG 0 rfl) rfl (gr_at hP 4 rfl) ?_
  refine pw_callV (as := []) (kc' := 0) (ks' := 0) lX9_185 dX9_count_108 rfl rfl (sh_lt hG (by decide)) (sh_tg hG 32 rfl) (Nat.le_of_ble_eq_true rfl) (by omega) (Nat.le_of_ble_eq_true rfl) (Nat.zero_le _) (Nat.zero_le _) ?_
  unfold pm_Met
  refine pm_lvs (lv' := [(0, _)]) rfl ?_
  refine pw_aload_n dX1_stepsInAll_0 rfl ?_
  refine pw_getI fX1_46 dX1_stepsInAll_1 (sh_lt hG (by decide)) (sh_tg hG 32 rfl) rfl ?_
  refine pw_iret dX1_stepsInAll_4 rfl ?_
  refine pw_goto (tgt := 116) dX9_count_111 (by decide) ?_
  refine pw_iret dX9_count_116 rfl ?_
  refine pw_aload_n dL_law_641 rfl ?_
  refine pw_aload_n dL_law_642 rfl ?_
  refine pw_iload dL_law_643 rfl ?_
  refine pw_iconst (v := nI 1) dL_law_645 (by decide) ?_
  refine pw_iadd dL_law_646 ?_
  refine pw_sld 1 hX dL_law_647 (by omega) (by decide) (by omega) ?_
  refine pw_ti (z := nI 6) hj ?_
  refine pw_callV (as := [_]) (kc' := 0) (ks' := 0) lL_95 dL_law_648 rfl rfl (sh_lt hG (by decide)) (sh_tg hG 45 rfl) (Nat.le_of_ble_eq_true rfl) (by omega) (Nat.le_of_ble_eq_true rfl) (Nat.zero_le _) (Nat.zero_le _) ?_
  unfold pm_Met
  refine pm_lvs (lv' := [(0, _), (1, _)]) rfl ?_
  refine pw_aload_n dX10_count_0 rfl ?_
  refine pw_iconst (v := nI 0) dX10_count_1 (by decide) ?_
  refine pw_putI fX10_154 dX10_count_2 (Or.inl rfl) (by decide) (sh_lt hG (by decide)) (sh_tg hG 45 rfl) rfl ?_
  refine pw_iconst (v := nI 0) dX10_count_5 (by decide) ?_
  refine pw_istore_n (lv' := [(2, _), (0, _), (1, _)]) dX10_count_6 (by decide) rfl ?_
  refine pw_iload_n dX10_count_7 rfl ?_
  refine pw_tableIn (off := 149) (tgt := 157) dX10_count_8 (by decide) (by decide) (by decide) (by decide) ?_
  refine pw_aload_n dX10_count_157 rfl ?_
  refine pw_getI fX10_354 dX10_count_158 (sh_lt hG (by decide)) (sh_tg hG 45 rfl) rfl ?_
  refine pw_iret dX10_count_161 rfl ?_
  refine pw_icmp_eq (tgt := 682) dL_law_651 (by decide) (fun _ => ?_) (fun h => absurd (by decide) h)
  exact p1_end hX k
set_option maxRecDepth 20000 in
set_option maxHeartbeats 4000000 in
theorem p1_case14_o {l : Launch} {E : pmE} {S : pmS} {P : pmP} {xs : Nat → Int32} {Q : Option Value → pmS → pmI → pmJ → pmP → Prop} (hG : sh_St S) (hP : gr_St P) (hX : pm_X E 3 xs) (hj : (xs 1).toInt < 0 ∨ 6 < (xs 1).toInt) (k : ∀ S I J P, Q (some (.int (nI 1))) S I J P) : pm_W l E yL_law cL_law 8 (some .boolean) 1400 10 100 631 [(4, .int (nI 0)), (3, .ref 95), (2, .ref 47), (1, .ref 2), (0, .ref 0)] [] S (fun _ _ => 0) (fun _ _ => 0) P (pm_N E Q) := by
  refine pw_aload_n dL_law_631 rfl ?_
  refine pw_aload_n dL_law_632 rfl ?_
  refine pw_iload dL_law_633 rfl ?_
  refine pw_iconst (v := nI 1) dL_law_635 (by decide) ?_
  refine pw_iadd dL_law_636 ?_
  refine pw_sld 1 hX dL_law_637 (by omega) (by decide) (by omega) ?_
  refine pw_callV (as := [_]) (kc' := 0) (ks' := 0) lL_92 dL_law_638 rfl rfl (sh_lt hG (by decide)) (sh_tg hG 0 rfl) (Nat.le_of_ble_eq_true rfl) (by omega) (Nat.le_of_ble_eq_true rfl) (Nat.zero_le _) (Nat.zero_le _) ?_
  refine f_X9_count hG hP (by omega) hj ?_
  refine pw_aload_n dL_law_641 rfl ?_
  refine pw_aload_n dL_law_642 rfl ?_
  refine pw_iload dL_law_643 rfl ?_
  refine pw_iconst (v := nI 1) dL_law_645 (by decide) ?_
  refine pw_iadd dL_law_646 ?_
  refine pw_sld 1 hX dL_law_647 (by omega) (by decide) (by omega) ?_
  refine pw_callV (as := [_]) (kc' := 0) (ks' := 0) lL_95 dL_law_648 rfl rfl (sh_lt hG (by decide)) (sh_tg hG 45 rfl) (Nat.le_of_ble_eq_true rfl) (by omega) (Nat.le_of_ble_eq_true rfl) (Nat.zero_le _) (Nat.zero_le _) ?_
  refine f_X10_count hG hP (by omega) hj (fun I' => ?_)
  refine pw_icmp_eq (tgt := 682) dL_law_651 (by decide) (fun _ => ?_) (fun h => absurd rfl h)
  exact p1_end hX k
