set_option maxRecDepth 20000 in
set_option maxHeartbeats 400000 in
theorem c_thas {l : Launch} {E : pmE} {d : Nat} {S : pmS} {I : pmI} {J : pmJ} {P : pmP} {Q : Option Value → pmS → pmI → pmJ → pmP → Prop} (hG : sh_St S) (hP : gr_St P) {x : Int32} {A : aS} {t : List tH} {b m : Nat} (ht : tC S I J P A t b m) (k1 : ∀ i, i < t.length → x = nI i → Q (some (.int (nI 1))) S I J P) (k0 : Q (some (.int (nI 0))) S I J P) : pm_Met l E yX6_has cX6_has 2 (some .boolean) d 0 0 [.ref 21, .int x] S I J P Q := by
  unfold pm_Met
  refine pm_lvs (lv' := [(0, _), (1, _)]) rfl ?_
  refine pw_iload_n dX6_has_0 rfl ?_
  refine pw_if_lt (tgt := 16) dX6_has_1 (by decide) (fun h1 => ?_) (fun h1 => ?_)
  · refine pw_iconst (v := nI 0) dX6_has_16 (by decide) ?_
    exact pw_zret dX6_has_17 rfl (by decide) (k0)
  · obtain ⟨i, hi, rfl⟩ := nn_I h1
    have htm := ht.m'
    have htl := ht.l
    have hbd := ht.bd
    refine pw_iload_n dX6_has_4 rfl ?_
    refine pw_aload_n dX6_has_5 rfl ?_
    refine pw_getI fX6_28 dX6_has_6 (sh_lt hG (by decide)) (sh_tg hG 19 rfl) rfl ?_
    refine pw_icmpN_ge _ _ (tgt := 16) dX6_has_9 (by decide) (rfl) (ht.n) (by omega) (by omega) (fun h9 => ?_) (fun h9 => ?_)
    · refine pw_iconst (v := nI 0) dX6_has_16 (by decide) ?_
      exact pw_zret dX6_has_17 rfl (by decide) (k0)
    · refine pw_iconst (v := nI 1) dX6_has_12 (by decide) ?_
      refine pw_goto (tgt := 17) dX6_has_13 (by decide) ?_
      exact pw_zret dX6_has_17 rfl (by decide) (k1 i (by omega) rfl)

set_option maxRecDepth 20000 in
set_option maxHeartbeats 400000 in
theorem c_typeX {l : Launch} {E : pmE} {d : Nat} {S : pmS} {I : pmI} {J : pmJ} {P : pmP} {Q : Option Value → pmS → pmI → pmJ → pmP → Prop} (hG : sh_St S) (hP : gr_St P) (hd : 1 ≤ d) {x : Int32} {A : aS} {t : List tH} {b m : Nat} (ht : tC S I J P A t b m) (k : ∀ a, Q (some (.int a)) S I J P) : pm_Met l E yX6_typeOf cX6_typeOf 2 (some .int) d 0 0 [.ref 21, .int x] S I J P Q := by
  unfold pm_Met
  refine pm_lvs (lv' := [(0, _), (1, _)]) rfl ?_
  refine pw_aload_n dX6_typeOf_0 rfl ?_
  refine pw_iload_n dX6_typeOf_1 rfl ?_
  refine pw_callV (as := [_]) (kc' := 0) (ks' := 0) lX6_45 dX6_typeOf_2 rfl rfl (sh_lt hG (by decide)) (sh_tg hG 19 rfl) (Nat.le_of_ble_eq_true rfl) (by omega) (Nat.le_of_ble_eq_true rfl) (Nat.zero_le _) (Nat.zero_le _) ?_
  refine c_thas hG hP ht (fun i hi e => ?_) ?_
  · subst e
    have htm := ht.m'
    have htl := ht.l
    have hbd := ht.bd
    refine pw_if_eq (tgt := 17) dX6_typeOf_5 (by decide) (fun h => absurd h (by decide)) (fun h5 => ?_)
    refine pw_aload_n dX6_typeOf_8 rfl ?_
    refine pw_getR fX6_11 dX6_typeOf_9 (sh_lt hG (by decide)) (sh_tg hG 19 rfl) rfl ht.q0 ?_
    refine pw_iload_n dX6_typeOf_12 rfl ?_
    refine pw_ialdN i dX6_typeOf_13 (by have := ht.bd; omega) ht.s0 (by omega) (rfl) (by omega) ?_
    refine pw_goto (tgt := 19) dX6_typeOf_14 (by decide) ?_
    exact pw_iret dX6_typeOf_19 rfl (k _)
  · refine pw_if_eq (tgt := 17) dX6_typeOf_5 (by decide) (fun h5 => ?_) (fun h => absurd (by decide) h)
    refine pw_bipush (v := -5) dX6_typeOf_17 (by decide) ?_
    exact pw_iret dX6_typeOf_19 rfl (k _)
set_option maxRecDepth 20000 in
set_option maxHeartbeats 400000 in
theorem c_tedX {l : Launch} {E : pmE} {d : Nat} {S : pmS} {I : pmI} {J : pmJ} {P : pmP} {Q : Option Value → pmS → pmI → pmJ → pmP → Prop} (hG : sh_St S) (hP : gr_St P) (hd : 1 ≤ d) {x : Int32} {A : aS} {t : List tH} {b m : Nat} (ht : tC S I J P A t b m) (k : ∀ a, Q (some (.int a)) S I J P) : pm_Met l E yX6_editionOf cX6_editionOf 2 (some .int) d 0 0 [.ref 21, .int x] S I J P Q := by
  unfold pm_Met
  refine pm_lvs (lv' := [(0, _), (1, _)]) rfl ?_
  refine pw_aload_n dX6_editionOf_0 rfl ?_
  refine pw_iload_n dX6_editionOf_1 rfl ?_
  refine pw_callV (as := [_]) (kc' := 0) (ks' := 0) lX6_45 dX6_editionOf_2 rfl rfl (sh_lt hG (by decide)) (sh_tg hG 19 rfl) (Nat.le_of_ble_eq_true rfl) (by omega) (Nat.le_of_ble_eq_true rfl) (Nat.zero_le _) (Nat.zero_le _) ?_
  refine c_thas hG hP ht (fun i hi e => ?_) ?_
  · subst e
    have htm := ht.m'
    have htl := ht.l
    have hbd := ht.bd
    refine pw_if_eq (tgt := 17) dX6_editionOf_5 (by decide) (fun h => absurd h (by decide)) (fun h5 => ?_)
    refine pw_aload_n dX6_editionOf_8 rfl ?_
    refine pw_getR fX6_15 dX6_editionOf_9 (sh_lt hG (by decide)) (sh_tg hG 19 rfl) rfl ht.q1 ?_
    refine pw_iload_n dX6_editionOf_12 rfl ?_
    refine pw_ialdN i dX6_editionOf_13 (by have := ht.bd; omega) ht.s1 (by omega) (rfl) (by omega) ?_
    refine pw_goto (tgt := 18) dX6_editionOf_14 (by decide) ?_
    exact pw_iret dX6_editionOf_18 rfl (k _)
  · refine pw_if_eq (tgt := 17) dX6_editionOf_5 (by decide) (fun h5 => ?_) (fun h => absurd (by decide) h)
    refine pw_iconst (v := nI 0) dX6_editionOf_17 (by decide) ?_
    exact pw_iret dX6_editionOf_18 rfl (k _)
set_option maxRecDepth 20000 in
set_option maxHeartbeats 400000 in
theorem c_tszX {l : Launch} {E : pmE} {d : Nat} {S : pmS} {I : pmI} {J : pmJ} {P : pmP} {Q : Option Value → pmS → pmI → pmJ → pmP → Prop} (hG : sh_St S) (hP : gr_St P) (hd : 1 ≤ d) {x : Int32} {A : aS} {t : List tH} {b m : Nat} (ht : tC S I J P A t b m) (k : ∀ a, Q (some (.int a)) S I J P) : pm_Met l E yX6_sizeOf cX6_sizeOf 2 (some .int) d 0 0 [.ref 21, .int x] S I J P Q := by
  unfold pm_Met
  refine pm_lvs (lv' := [(0, _), (1, _)]) rfl ?_
  refine pw_aload_n dX6_sizeOf_0 rfl ?_
  refine pw_iload_n dX6_sizeOf_1 rfl ?_
  refine pw_callV (as := [_]) (kc' := 0) (ks' := 0) lX6_45 dX6_sizeOf_2 rfl rfl (sh_lt hG (by decide)) (sh_tg hG 19 rfl) (Nat.le_of_ble_eq_true rfl) (by omega) (Nat.le_of_ble_eq_true rfl) (Nat.zero_le _) (Nat.zero_le _) ?_
  refine c_thas hG hP ht (fun i hi e => ?_) ?_
  · subst e
    have htm := ht.m'
    have htl := ht.l
    have hbd := ht.bd
    refine pw_if_eq (tgt := 17) dX6_sizeOf_5 (by decide) (fun h => absurd h (by decide)) (fun h5 => ?_)
    refine pw_aload_n dX6_sizeOf_8 rfl ?_
    refine pw_getR fX6_18 dX6_sizeOf_9 (sh_lt hG (by decide)) (sh_tg hG 19 rfl) rfl ht.q2 ?_
    refine pw_iload_n dX6_sizeOf_12 rfl ?_
    refine pw_ialdN i dX6_sizeOf_13 (by have := ht.bd; omega) ht.s2 (by omega) (rfl) (by omega) ?_
    refine pw_goto (tgt := 18) dX6_sizeOf_14 (by decide) ?_
    exact pw_iret dX6_sizeOf_18 rfl (k _)
  · refine pw_if_eq (tgt := 17) dX6_sizeOf_5 (by decide) (fun h5 => ?_) (fun h => absurd (by decide) h)
    refine pw_iconst (v := nI 0) dX6_sizeOf_17 (by decide) ?_
    exact pw_iret dX6_sizeOf_18 rfl (k _)
set_option maxRecDepth 20000 in
set_option maxHeartbeats 400000 in
theorem c_hasF {l : Launch} {E : pmE} {d : Nat} {S : pmS} {I : pmI} {J : pmJ} {P : pmP} {Q : Option Value → pmS → pmI → pmJ → pmP → Prop} (hG : sh_St S) (hP : gr_St P) (hd : 1 ≤ d) {x y : Int32} {A : aS} {t : List tH} {b m : Nat} (ht : tC S I J P A t b m) (k1 : ∀ i j, i < t.length → j < 3 → x = nI i → y = nI j → Q (some (.int (nI 1))) S I J P) (k0 : Q (some (.int (nI 0))) S I J P) : pm_Met l E yX6_hasField cX6_hasField 3 (some .boolean) d 0 0 [.ref 21, .int x, .int y] S I J P Q := by
  unfold pm_Met
  refine pm_lvs (lv' := [(0, _), (1, _), (2, _)]) rfl ?_
  refine pw_aload_n dX6_hasField_0 rfl ?_
  refine pw_iload_n dX6_hasField_1 rfl ?_
  refine pw_callV (as := [_]) (kc' := 0) (ks' := 0) lX6_45 dX6_hasField_2 rfl rfl (sh_lt hG (by decide)) (sh_tg hG 19 rfl) (Nat.le_of_ble_eq_true rfl) (by omega) (Nat.le_of_ble_eq_true rfl) (Nat.zero_le _) (Nat.zero_le _) ?_
  refine c_thas hG hP ht (fun i hi e => ?_) ?_
  · subst e
    have htm := ht.m'
    have htl := ht.l
    have hbd := ht.bd
    refine pw_if_eq (tgt := 31) dX6_hasField_5 (by decide) (fun h => absurd h (by decide)) (fun h5 => ?_)
    refine pw_iload_n dX6_hasField_8 rfl ?_
    refine pw_if_lt (tgt := 31) dX6_hasField_9 (by decide) (fun h9 => ?_) (fun h9 => ?_)
    · refine pw_iconst (v := nI 0) dX6_hasField_31 (by decide) ?_
      exact pw_zret dX6_hasField_32 rfl (by decide) (k0)
    · obtain ⟨j, hj, rfl⟩ := nn_I h9
      refine pw_iload_n dX6_hasField_12 rfl ?_
      refine pw_aload_n dX6_hasField_13 rfl ?_
      refine pw_getR fX6_18 dX6_hasField_14 (sh_lt hG (by decide)) (sh_tg hG 19 rfl) rfl ht.q2 ?_
      refine pw_iload_n dX6_hasField_17 rfl ?_
      refine pw_ialdN i dX6_hasField_18 (by have := ht.bd; omega) ht.s2 (by omega) (rfl) (by omega) ?_
      refine pw_icmp_ge (tgt := 31) dX6_hasField_19 (by decide) (fun h19 => ?_) (fun h19 => ?_)
      · refine pw_iconst (v := nI 0) dX6_hasField_31 (by decide) ?_
        exact pw_zret dX6_hasField_32 rfl (by decide) (k0)
      · refine pw_iload_n dX6_hasField_22 rfl ?_
        refine pw_iconst (v := nI 3) dX6_hasField_23 (by decide) ?_
        refine pw_icmpN_ge _ _ (tgt := 31) dX6_hasField_24 (by decide) (rfl) (rfl) (by omega) (by omega) (fun h24 => ?_) (fun h24 => ?_)
        · refine pw_iconst (v := nI 0) dX6_hasField_31 (by decide) ?_
          exact pw_zret dX6_hasField_32 rfl (by decide) (k0)
        · refine pw_iconst (v := nI 1) dX6_hasField_27 (by decide) ?_
          refine pw_goto (tgt := 32) dX6_hasField_28 (by decide) ?_
          exact pw_zret dX6_hasField_32 rfl (by decide) (k1 i j hi (by omega) rfl rfl)
  · refine pw_if_eq (tgt := 31) dX6_hasField_5 (by decide) (fun h5 => ?_) (fun h => absurd (by decide) h)
    refine pw_iconst (v := nI 0) dX6_hasField_31 (by decide) ?_
    exact pw_zret dX6_hasField_32 rfl (by decide) (k0)
set_option maxRecDepth 20000 in
set_option maxHeartbeats 400000 in
theorem c_fkX {l : Launch} {E : pmE} {d : Nat} {S : pmS} {I : pmI} {J : pmJ} {P : pmP} {Q : Option Value → pmS → pmI → pmJ → pmP → Prop} (hG : sh_St S) (hP : gr_St P) (hd : 2 ≤ d) {x y : Int32} {A : aS} {t : List tH} {b m : Nat} (ht : tC S I J P A t b m) (k : ∀ a, Q (some (.int a)) S I J P) : pm_Met l E yX6_fieldKind cX6_fieldKind 3 (some .int) d 0 0 [.ref 21, .int x, .int y] S I J P Q := by
  unfold pm_Met
  refine pm_lvs (lv' := [(0, _), (1, _), (2, _)]) rfl ?_
  refine pw_aload_n dX6_fieldKind_0 rfl ?_
  refine pw_iload_n dX6_fieldKind_1 rfl ?_
  refine pw_iload_n dX6_fieldKind_2 rfl ?_
  refine pw_callV (as := [_, _]) (kc' := 0) (ks' := 0) lX6_49 dX6_fieldKind_3 rfl rfl (sh_lt hG (by decide)) (sh_tg hG 19 rfl) (Nat.le_of_ble_eq_true rfl) (by omega) (Nat.le_of_ble_eq_true rfl) (Nat.zero_le _) (Nat.zero_le _) ?_
  refine c_hasF hG hP (by omega) ht (fun i j hi hj e e2 => ?_) ?_
  · subst e
    subst e2
    have htm := ht.m'
    have htl := ht.l
    have hbd := ht.bd
    refine pw_if_eq (tgt := 22) dX6_fieldKind_6 (by decide) (fun h => absurd h (by decide)) (fun h6 => ?_)
    refine pw_aload_n dX6_fieldKind_9 rfl ?_
    refine pw_getR fX6_21 dX6_fieldKind_10 (sh_lt hG (by decide)) (sh_tg hG 19 rfl) rfl ht.q3 ?_
    refine pw_iload_n dX6_fieldKind_13 rfl ?_
    refine pw_iconst (v := nI 3) dX6_fieldKind_14 (by decide) ?_
    refine pw_imul dX6_fieldKind_15 ?_
    refine pw_iload_n dX6_fieldKind_16 rfl ?_
    refine pw_iadd dX6_fieldKind_17 ?_
    refine pw_ti (z := nI (3 * i + j)) (by rw [show nI i * nI 3 = nI (i * 3) from (Int32.ofNat_mul _ 3).symm, nI_add, Nat.mul_comm]) ?_
    refine pw_ialdN (3 * i + j) dX6_fieldKind_18 (by have := ht.bd; omega) ht.s3 (by omega) (rfl) (by omega) ?_
    refine pw_goto (tgt := 24) dX6_fieldKind_19 (by decide) ?_
    exact pw_iret dX6_fieldKind_24 rfl (k _)
  · refine pw_if_eq (tgt := 22) dX6_fieldKind_6 (by decide) (fun h6 => ?_) (fun h => absurd (by decide) h)
    refine pw_bipush (v := -5) dX6_fieldKind_22 (by decide) ?_
    exact pw_iret dX6_fieldKind_24 rfl (k _)
set_option maxRecDepth 20000 in
set_option maxHeartbeats 400000 in
theorem c_isOldX {l : Launch} {E : pmE} {d : Nat} {S : pmS} {I : pmI} {J : pmJ} {P : pmP} {Q : Option Value → pmS → pmI → pmJ → pmP → Prop} (hG : sh_St S) (hP : gr_St P) (hd : 2 ≤ d) {x : Int32} {A : aS} {t : List tH} {b m : Nat} (ht : tC S I J P A t b m) {Z : Nat → Nat} (hc : cA S I J P A Z b) (hO : aO A) (k : ∀ a, Q (some (.int a)) S I J P) : pm_Met l E yX4_isOld cX4_isOld 3 (some .boolean) d 0 0 [.ref 15, .int x] S I J P Q := by
  unfold pm_Met
  refine pm_lvs (lv' := [(0, _), (1, _)]) rfl ?_
  refine pw_aload_n dX4_isOld_0 rfl ?_
  refine pw_getR fX4_21 dX4_isOld_1 (sh_lt hG (by decide)) (sh_tg hG 13 rfl) rfl (gr_at hP 16 rfl) ?_
  refine pw_iload_n dX4_isOld_4 rfl ?_
  refine pw_callV (as := [_]) (kc' := 0) (ks' := 0) lX4_86 dX4_isOld_5 rfl rfl (sh_lt hG (by decide)) (sh_tg hG 19 rfl) (Nat.le_of_ble_eq_true rfl) (by omega) (Nat.le_of_ble_eq_true rfl) (Nat.zero_le _) (Nat.zero_le _) ?_
  refine c_typeX hG hP (by omega) ht (fun a1 => ?_)
  refine pw_istore_n (lv' := [(2, _), (0, _), (1, _)]) dX4_isOld_8 (by decide) rfl ?_
  refine pw_aload_n dX4_isOld_9 rfl ?_
  refine pw_getR fX4_12 dX4_isOld_10 (sh_lt hG (by decide)) (sh_tg hG 13 rfl) rfl (gr_at hP 15 rfl) ?_
  refine pw_iload_n dX4_isOld_13 rfl ?_
  refine pw_callV (as := [_]) (kc' := 0) (ks' := 0) lX4_75 dX4_isOld_14 rfl rfl (sh_lt hG (by decide)) (sh_tg hG 14 rfl) (Nat.le_of_ble_eq_true rfl) (by omega) (Nat.le_of_ble_eq_true rfl) (Nat.zero_le _) (Nat.zero_le _) ?_
  refine c_formX hG hP (by omega) hc.n hO.1.2 (fun a2 => ?_)
  refine pw_iconst (v := nI 3) dX4_isOld_17 (by decide) ?_
  refine pw_icmp_ne (tgt := 40) dX4_isOld_18 (by decide) (fun h18 => ?_) (fun h18 => ?_)
  · refine pw_iconst (v := nI 1) dX4_isOld_40 (by decide) ?_
    refine pw_goto (tgt := 45) dX4_isOld_41 (by decide) ?_
    exact pw_zret dX4_isOld_45 rfl (by decide) (k _)
  · refine pw_aload_n dX4_isOld_21 rfl ?_
    refine pw_getR fX4_12 dX4_isOld_22 (sh_lt hG (by decide)) (sh_tg hG 13 rfl) rfl (gr_at hP 15 rfl) ?_
    refine pw_iload_n dX4_isOld_25 rfl ?_
    refine pw_callV (as := [_]) (kc' := 0) (ks' := 0) lX4_89 dX4_isOld_26 rfl rfl (sh_lt hG (by decide)) (sh_tg hG 14 rfl) (Nat.le_of_ble_eq_true rfl) (by omega) (Nat.le_of_ble_eq_true rfl) (Nat.zero_le _) (Nat.zero_le _) ?_
    refine c_edX hG hP (by omega) hc.n hO.1.2 (fun a3 => ?_)
    refine pw_aload_n dX4_isOld_29 rfl ?_
    refine pw_getR fX4_21 dX4_isOld_30 (sh_lt hG (by decide)) (sh_tg hG 13 rfl) rfl (gr_at hP 16 rfl) ?_
    refine pw_iload_n dX4_isOld_33 rfl ?_
    refine pw_callV (as := [_]) (kc' := 0) (ks' := 0) lX4_92 dX4_isOld_34 rfl rfl (sh_lt hG (by decide)) (sh_tg hG 19 rfl) (Nat.le_of_ble_eq_true rfl) (by omega) (Nat.le_of_ble_eq_true rfl) (Nat.zero_le _) (Nat.zero_le _) ?_
    refine c_tedX hG hP (by omega) ht (fun a4 => ?_)
    refine pw_icmp_eq (tgt := 44) dX4_isOld_37 (by decide) (fun h37 => ?_) (fun h37 => ?_)
    · refine pw_iconst (v := nI 0) dX4_isOld_44 (by decide) ?_
      exact pw_zret dX4_isOld_45 rfl (by decide) (k _)
    · refine pw_iconst (v := nI 1) dX4_isOld_40 (by decide) ?_
      refine pw_goto (tgt := 45) dX4_isOld_41 (by decide) ?_
      exact pw_zret dX4_isOld_45 rfl (by decide) (k _)

theorem sw_out {y : Int32} (h : ¬ (y = 0 ∨ y = 1 ∨ y = 2 ∨ y = 3 ∨ y = 4 ∨ y = 5 ∨ y = 6)) : y.toInt < 0 ∨ 6 < y.toInt := by
  by_cases h0 : y < 0
  · refine Or.inl ?_
    have g := Int32.lt_iff_toInt_lt.mp h0
    simpa using g
  · obtain ⟨i, hi, rfl⟩ := nn_I h0
    refine Or.inr ?_
    rw [show nI i = Int32.ofNat i from rfl, Int32.toInt_ofNat_of_lt hi]
    refine Int.ofNat_lt.mpr ?_
    rcases Nat.lt_or_ge 6 i with q | q
    · exact q
    · exfalso
      apply h
      rcases (show i = 0 ∨ i = 1 ∨ i = 2 ∨ i = 3 ∨ i = 4 ∨ i = 5 ∨ i = 6 by omega) with e | e | e | e | e | e | e <;> rw [e] <;> decide
set_option maxRecDepth 20000 in
set_option maxHeartbeats 400000 in
theorem c_thing {l : Launch} {E : pmE} {d : Nat} {S : pmS} {I : pmI} {J : pmJ} {P : pmP} {Q : Option Value → pmS → pmI → pmJ → pmP → Prop} (hG : sh_St S) (hP : gr_St P) (hd : 4 ≤ d) {x y : Int32} {A : aS} {t : List tH} {b m : Nat} (ht : tC S I J P A t b m) {Z : Nat → Nat} (hc : cA S I J P A Z b) (hO : aO A) (k : ∀ a, Q (some (.int a)) S I J P) : pm_Met l E yX9_thing cX9_thing 4 (some .int) d 0 0 [.ref 2, .int x, .int y] S I J P Q := by
  unfold pm_Met
  refine pm_lvs (lv' := [(0, _), (1, _), (2, _)]) rfl ?_
  refine pw_aload_n dX9_thing_0 rfl ?_
  refine pw_iload_n dX9_thing_1 rfl ?_
  refine pw_callV (as := [_]) (kc' := 0) (ks' := 0) lX9_102 dX9_thing_2 rfl rfl (sh_lt hG (by decide)) (sh_tg hG 0 rfl) (Nat.le_of_ble_eq_true rfl) (by omega) (Nat.le_of_ble_eq_true rfl) (Nat.zero_le _) (Nat.zero_le _) ?_
  refine c_kind hG hP (by omega) (fun a1 => ?_)
  refine pw_iconst (v := nI 2) dX9_thing_5 (by decide) ?_
  refine pw_icmp_eq (tgt := 11) dX9_thing_6 (by decide) (fun h6 => ?_) (fun h6 => ?_)
  · refine pw_aload_n dX9_thing_11 rfl ?_
    refine pw_getR fX9_32 dX9_thing_12 (sh_lt hG (by decide)) (sh_tg hG 0 rfl) rfl (gr_at hP 3 rfl) ?_
    refine pw_getR fX9_93 dX9_thing_15 (sh_lt hG (by decide)) (sh_tg hG 13 rfl) rfl (gr_at hP 18 rfl) ?_
    refine pw_iload_n dX9_thing_18 rfl ?_
    refine pw_callV (as := [_]) (kc' := 0) (ks' := 0) lX9_111 dX9_thing_19 rfl rfl (sh_lt hG (by decide)) (sh_tg hG 28 rfl) (Nat.le_of_ble_eq_true rfl) (by omega) (Nat.le_of_ble_eq_true rfl) (Nat.zero_le _) (Nat.zero_le _) ?_
    refine v_core30X hG hP (fun a2 => ?_)
    refine pw_l2i dX9_thing_22 ?_
    refine pw_istore_n (lv' := [(3, _), (0, _), (1, _), (2, _)]) dX9_thing_23 (by decide) rfl ?_
    by_cases hsw : y = 0 ∨ y = 1 ∨ y = 2 ∨ y = 3 ∨ y = 4 ∨ y = 5 ∨ y = 6
    · rcases hsw with rfl | rfl | rfl | rfl | rfl | rfl | rfl
      · refine pw_iload_n dX9_thing_24 rfl ?_
        refine pw_tableIn (off := 43) (tgt := 68) dX9_thing_25 (by decide) (by decide) (by decide) (by decide) ?_
        refine pw_aload_n dX9_thing_68 rfl ?_
        refine pw_getR fX9_32 dX9_thing_69 (sh_lt hG (by decide)) (sh_tg hG 0 rfl) rfl (gr_at hP 3 rfl) ?_
        refine pw_getR fX9_115 dX9_thing_72 (sh_lt hG (by decide)) (sh_tg hG 13 rfl) rfl (gr_at hP 16 rfl) ?_
        refine pw_iload_n dX9_thing_75 rfl ?_
        refine pw_callV (as := [_]) (kc' := 0) (ks' := 0) lX9_119 dX9_thing_76 rfl rfl (sh_lt hG (by decide)) (sh_tg hG 19 rfl) (Nat.le_of_ble_eq_true rfl) (by omega) (Nat.le_of_ble_eq_true rfl) (Nat.zero_le _) (Nat.zero_le _) ?_
        refine c_typeX hG hP (by omega) ht (fun a3 => ?_)
        refine pw_goto (tgt := 148) dX9_thing_79 (by decide) ?_
        exact pw_iret dX9_thing_148 rfl (k _)
      · refine pw_iload_n dX9_thing_24 rfl ?_
        refine pw_tableIn (off := 57) (tgt := 82) dX9_thing_25 (by decide) (by decide) (by decide) (by decide) ?_
        refine pw_aload_n dX9_thing_82 rfl ?_
        refine pw_getR fX9_32 dX9_thing_83 (sh_lt hG (by decide)) (sh_tg hG 0 rfl) rfl (gr_at hP 3 rfl) ?_
        refine pw_getR fX9_115 dX9_thing_86 (sh_lt hG (by decide)) (sh_tg hG 13 rfl) rfl (gr_at hP 16 rfl) ?_
        refine pw_iload_n dX9_thing_89 rfl ?_
        refine pw_callV (as := [_]) (kc' := 0) (ks' := 0) lX9_124 dX9_thing_90 rfl rfl (sh_lt hG (by decide)) (sh_tg hG 19 rfl) (Nat.le_of_ble_eq_true rfl) (by omega) (Nat.le_of_ble_eq_true rfl) (Nat.zero_le _) (Nat.zero_le _) ?_
        refine c_tedX hG hP (by omega) ht (fun a3 => ?_)
        refine pw_goto (tgt := 148) dX9_thing_93 (by decide) ?_
        exact pw_iret dX9_thing_148 rfl (k _)
      · refine pw_iload_n dX9_thing_24 rfl ?_
        refine pw_tableIn (off := 71) (tgt := 96) dX9_thing_25 (by decide) (by decide) (by decide) (by decide) ?_
        refine pw_aload_n dX9_thing_96 rfl ?_
        refine pw_getR fX9_32 dX9_thing_97 (sh_lt hG (by decide)) (sh_tg hG 0 rfl) rfl (gr_at hP 3 rfl) ?_
        refine pw_getR fX9_115 dX9_thing_100 (sh_lt hG (by decide)) (sh_tg hG 13 rfl) rfl (gr_at hP 16 rfl) ?_
        refine pw_iload_n dX9_thing_103 rfl ?_
        refine pw_callV (as := [_]) (kc' := 0) (ks' := 0) lX9_127 dX9_thing_104 rfl rfl (sh_lt hG (by decide)) (sh_tg hG 19 rfl) (Nat.le_of_ble_eq_true rfl) (by omega) (Nat.le_of_ble_eq_true rfl) (Nat.zero_le _) (Nat.zero_le _) ?_
        refine c_tszX hG hP (by omega) ht (fun a3 => ?_)
        refine pw_goto (tgt := 148) dX9_thing_107 (by decide) ?_
        exact pw_iret dX9_thing_148 rfl (k _)
      · refine pw_iload_n dX9_thing_24 rfl ?_
        refine pw_tableIn (off := 85) (tgt := 110) dX9_thing_25 (by decide) (by decide) (by decide) (by decide) ?_
        refine pw_aload_n dX9_thing_110 rfl ?_
        refine pw_getR fX9_32 dX9_thing_111 (sh_lt hG (by decide)) (sh_tg hG 0 rfl) rfl (gr_at hP 3 rfl) ?_
        refine pw_iload_n dX9_thing_114 rfl ?_
        refine pw_callV (as := [_]) (kc' := 0) (ks' := 0) lX9_130 dX9_thing_115 rfl rfl (sh_lt hG (by decide)) (sh_tg hG 13 rfl) (Nat.le_of_ble_eq_true rfl) (by omega) (Nat.le_of_ble_eq_true rfl) (Nat.zero_le _) (Nat.zero_le _) ?_
        refine c_isOldX hG hP (by omega) ht hc hO (fun a3 => ?_)
        refine pw_if_eq (tgt := 125) dX9_thing_118 (by decide) (fun h118 => ?_) (fun h118 => ?_)
        · refine pw_iconst (v := nI 0) dX9_thing_125 (by decide) ?_
          refine pw_goto (tgt := 148) dX9_thing_126 (by decide) ?_
          exact pw_iret dX9_thing_148 rfl (k _)
        · refine pw_iconst (v := nI 1) dX9_thing_121 (by decide) ?_
          refine pw_goto (tgt := 148) dX9_thing_122 (by decide) ?_
          exact pw_iret dX9_thing_148 rfl (k _)
      · refine pw_iload_n dX9_thing_24 rfl ?_
        refine pw_tableIn (off := 104) (tgt := 129) dX9_thing_25 (by decide) (by decide) (by decide) (by decide) ?_
        refine pw_aload_n dX9_thing_129 rfl ?_
        refine pw_getR fX9_32 dX9_thing_130 (sh_lt hG (by decide)) (sh_tg hG 0 rfl) rfl (gr_at hP 3 rfl) ?_
        refine pw_getR fX9_115 dX9_thing_133 (sh_lt hG (by decide)) (sh_tg hG 13 rfl) rfl (gr_at hP 16 rfl) ?_
        refine pw_iload_n dX9_thing_136 rfl ?_
        refine pw_iload_n dX9_thing_137 rfl ?_
        refine pw_iconst (v := nI 4) dX9_thing_138 (by decide) ?_
        refine pw_isub dX9_thing_139 ?_
        refine pw_callV (as := [_, _]) (kc' := 0) (ks' := 0) lX9_134 dX9_thing_140 rfl rfl (sh_lt hG (by decide)) (sh_tg hG 19 rfl) (Nat.le_of_ble_eq_true rfl) (by omega) (Nat.le_of_ble_eq_true rfl) (Nat.zero_le _) (Nat.zero_le _) ?_
        refine c_fkX hG hP (by omega) ht (fun a3 => ?_)
        refine pw_goto (tgt := 148) dX9_thing_143 (by decide) ?_
        exact pw_iret dX9_thing_148 rfl (k _)
      · refine pw_iload_n dX9_thing_24 rfl ?_
        refine pw_tableIn (off := 104) (tgt := 129) dX9_thing_25 (by decide) (by decide) (by decide) (by decide) ?_
        refine pw_aload_n dX9_thing_129 rfl ?_
        refine pw_getR fX9_32 dX9_thing_130 (sh_lt hG (by decide)) (sh_tg hG 0 rfl) rfl (gr_at hP 3 rfl) ?_
        refine pw_getR fX9_115 dX9_thing_133 (sh_lt hG (by decide)) (sh_tg hG 13 rfl) rfl (gr_at hP 16 rfl) ?_
        refine pw_iload_n dX9_thing_136 rfl ?_
        refine pw_iload_n dX9_thing_137 rfl ?_
        refine pw_iconst (v := nI 4) dX9_thing_138 (by decide) ?_
        refine pw_isub dX9_thing_139 ?_
        refine pw_callV (as := [_, _]) (kc' := 0) (ks' := 0) lX9_134 dX9_thing_140 rfl rfl (sh_lt hG (by decide)) (sh_tg hG 19 rfl) (Nat.le_of_ble_eq_true rfl) (by omega) (Nat.le_of_ble_eq_true rfl) (Nat.zero_le _) (Nat.zero_le _) ?_
        refine c_fkX hG hP (by omega) ht (fun a3 => ?_)
        refine pw_goto (tgt := 148) dX9_thing_143 (by decide) ?_
        exact pw_iret dX9_thing_148 rfl (k _)
      · refine pw_iload_n dX9_thing_24 rfl ?_
        refine pw_tableIn (off := 104) (tgt := 129) dX9_thing_25 (by decide) (by decide) (by decide) (by decide) ?_
        refine pw_aload_n dX9_thing_129 rfl ?_
        refine pw_getR fX9_32 dX9_thing_130 (sh_lt hG (by decide)) (sh_tg hG 0 rfl) rfl (gr_at hP 3 rfl) ?_
        refine pw_getR fX9_115 dX9_thing_133 (sh_lt hG (by decide)) (sh_tg hG 13 rfl) rfl (gr_at hP 16 rfl) ?_
        refine pw_iload_n dX9_thing_136 rfl ?_
        refine pw_iload_n dX9_thing_137 rfl ?_
        refine pw_iconst (v := nI 4) dX9_thing_138 (by decide) ?_
        refine pw_isub dX9_thing_139 ?_
        refine pw_callV (as := [_, _]) (kc' := 0) (ks' := 0) lX9_134 dX9_thing_140 rfl rfl (sh_lt hG (by decide)) (sh_tg hG 19 rfl) (Nat.le_of_ble_eq_true rfl) (by omega) (Nat.le_of_ble_eq_true rfl) (Nat.zero_le _) (Nat.zero_le _) ?_
        refine c_fkX hG hP (by omega) ht (fun a3 => ?_)
        refine pw_goto (tgt := 148) dX9_thing_143 (by decide) ?_
        exact pw_iret dX9_thing_148 rfl (k _)
    · have q := sw_out hsw
      refine pw_iload_n dX9_thing_24 rfl ?_
      refine pw_tableOut (tgt := 146) dX9_thing_25 q (by decide) ?_
      refine pw_bipush (v := -2) dX9_thing_146 (by decide) ?_
      exact pw_iret dX9_thing_148 rfl (k _)
  · refine pw_iconst (v := -1) dX9_thing_9 (by decide) ?_
    exact pw_iret dX9_thing_10 rfl (k _)

