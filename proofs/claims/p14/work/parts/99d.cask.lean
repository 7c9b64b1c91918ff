set_option maxRecDepth 20000 in
set_option maxHeartbeats 400000 in
theorem c_hasX {l : Launch} {E : pmE} {d : Nat} {S : pmS} {I : pmI} {J : pmJ} {P : pmP} {Q : Option Value → pmS → pmI → pmJ → pmP → Prop} (hG : sh_St S) (hP : gr_St P) {x : Int32} {n : Nat} (hn : I 16 4 = nI n) (hl : n ≤ 40) (k1 : ∀ i, i < n → x = nI i → Q (some (.int (nI 1))) S I J P) (k0 : Q (some (.int (nI 0))) S I J P) : pm_Met l E yX2_has cX2_has 2 (some .boolean) d 0 0 [.ref 16, .int x] S I J P Q := by
  unfold pm_Met
  refine pm_lvs (lv' := [(0, _), (1, _)]) rfl ?_
  refine pw_iload_n dX2_has_0 rfl ?_
  refine pw_if_lt (tgt := 16) dX2_has_1 (by decide) (fun h1 => ?_) (fun h1 => ?_)
  · refine pw_iconst (v := nI 0) dX2_has_16 (by decide) ?_
    exact pw_zret dX2_has_17 rfl (by decide) (k0)
  · obtain ⟨i, hi, rfl⟩ := nn_I h1
    refine pw_iload_n dX2_has_4 rfl ?_
    refine pw_aload_n dX2_has_5 rfl ?_
    refine pw_getI fX2_25 dX2_has_6 (sh_lt hG (by decide)) (sh_tg hG 14 rfl) rfl ?_
    refine pw_icmpN_ge _ _ (tgt := 16) dX2_has_9 (by decide) (rfl) (hn) (by omega) (by omega) (fun h9 => ?_) (fun h9 => ?_)
    · refine pw_iconst (v := nI 0) dX2_has_16 (by decide) ?_
      exact pw_zret dX2_has_17 rfl (by decide) (k0)
    · refine pw_iconst (v := nI 1) dX2_has_12 (by decide) ?_
      refine pw_goto (tgt := 17) dX2_has_13 (by decide) ?_
      exact pw_zret dX2_has_17 rfl (by decide) (k1 i (by omega) rfl)

set_option maxRecDepth 20000 in
set_option maxHeartbeats 400000 in
theorem c_formX {l : Launch} {E : pmE} {d : Nat} {S : pmS} {I : pmI} {J : pmJ} {P : pmP} {Q : Option Value → pmS → pmI → pmJ → pmP → Prop} (hG : sh_St S) (hP : gr_St P) (hd : 1 ≤ d) {x : Int32} {n : Nat} (hn : I 16 4 = nI n) (hl : n ≤ 40) (k : ∀ a, Q (some (.int a)) S I J P) : pm_Met l E yX2_formOf cX2_formOf 2 (some .int) d 0 0 [.ref 16, .int x] S I J P Q := by
  unfold pm_Met
  refine pm_lvs (lv' := [(0, _), (1, _)]) rfl ?_
  refine pw_aload_n dX2_formOf_0 rfl ?_
  refine pw_iload_n dX2_formOf_1 rfl ?_
  refine pw_callV (as := [_]) (kc' := 0) (ks' := 0) lX2_51 dX2_formOf_2 rfl rfl (sh_lt hG (by decide)) (sh_tg hG 14 rfl) (Nat.le_of_ble_eq_true rfl) (by omega) (Nat.le_of_ble_eq_true rfl) (Nat.zero_le _) (Nat.zero_le _) ?_
  refine c_hasX hG hP hn hl (fun i hi e => ?_) ?_
  · subst e
    refine pw_if_eq (tgt := 17) dX2_formOf_5 (by decide) (fun h => absurd h (by decide)) (fun h5 => ?_)
    refine pw_aload_n dX2_formOf_8 rfl ?_
    refine pw_getR fX2_15 dX2_formOf_9 (sh_lt hG (by decide)) (sh_tg hG 14 rfl) rfl (gr_at hP 21 rfl) ?_
    refine pw_iload_n dX2_formOf_12 rfl ?_
    refine pw_ialdN i dX2_formOf_13 (sh_lt hG (by decide)) (sh_sh hG 16 rfl) (by decide) (rfl) (by omega) ?_
    refine pw_goto (tgt := 18) dX2_formOf_14 (by decide) ?_
    exact pw_iret dX2_formOf_18 rfl (k _)
  · refine pw_if_eq (tgt := 17) dX2_formOf_5 (by decide) (fun h5 => ?_) (fun h => absurd (by decide) h)
    refine pw_iconst (v := nI 0) dX2_formOf_17 (by decide) ?_
    exact pw_iret dX2_formOf_18 rfl (k _)
set_option maxRecDepth 20000 in
set_option maxHeartbeats 400000 in
theorem c_dclX {l : Launch} {E : pmE} {d : Nat} {S : pmS} {I : pmI} {J : pmJ} {P : pmP} {Q : Option Value → pmS → pmI → pmJ → pmP → Prop} (hG : sh_St S) (hP : gr_St P) (hd : 1 ≤ d) {x : Int32} {n : Nat} (hn : I 16 4 = nI n) (hl : n ≤ 40) (k : ∀ a, Q (some (.int a)) S I J P) : pm_Met l E yX2_declarerOf cX2_declarerOf 2 (some .int) d 0 0 [.ref 16, .int x] S I J P Q := by
  unfold pm_Met
  refine pm_lvs (lv' := [(0, _), (1, _)]) rfl ?_
  refine pw_aload_n dX2_declarerOf_0 rfl ?_
  refine pw_iload_n dX2_declarerOf_1 rfl ?_
  refine pw_callV (as := [_]) (kc' := 0) (ks' := 0) lX2_51 dX2_declarerOf_2 rfl rfl (sh_lt hG (by decide)) (sh_tg hG 14 rfl) (Nat.le_of_ble_eq_true rfl) (by omega) (Nat.le_of_ble_eq_true rfl) (Nat.zero_le _) (Nat.zero_le _) ?_
  refine c_hasX hG hP hn hl (fun i hi e => ?_) ?_
  · subst e
    refine pw_if_eq (tgt := 17) dX2_declarerOf_5 (by decide) (fun h => absurd h (by decide)) (fun h5 => ?_)
    refine pw_aload_n dX2_declarerOf_8 rfl ?_
    refine pw_getR fX2_19 dX2_declarerOf_9 (sh_lt hG (by decide)) (sh_tg hG 14 rfl) rfl (gr_at hP 22 rfl) ?_
    refine pw_iload_n dX2_declarerOf_12 rfl ?_
    refine pw_ialdN i dX2_declarerOf_13 (sh_lt hG (by decide)) (sh_sh hG 17 rfl) (by decide) (rfl) (by omega) ?_
    refine pw_goto (tgt := 19) dX2_declarerOf_14 (by decide) ?_
    exact pw_iret dX2_declarerOf_19 rfl (k _)
  · refine pw_if_eq (tgt := 17) dX2_declarerOf_5 (by decide) (fun h5 => ?_) (fun h => absurd (by decide) h)
    refine pw_bipush (v := -5) dX2_declarerOf_17 (by decide) ?_
    exact pw_iret dX2_declarerOf_19 rfl (k _)
set_option maxRecDepth 20000 in
set_option maxHeartbeats 400000 in
theorem c_edX {l : Launch} {E : pmE} {d : Nat} {S : pmS} {I : pmI} {J : pmJ} {P : pmP} {Q : Option Value → pmS → pmI → pmJ → pmP → Prop} (hG : sh_St S) (hP : gr_St P) (hd : 1 ≤ d) {x : Int32} {n : Nat} (hn : I 16 4 = nI n) (hl : n ≤ 40) (k : ∀ a, Q (some (.int a)) S I J P) : pm_Met l E yX2_editionOf cX2_editionOf 2 (some .int) d 0 0 [.ref 16, .int x] S I J P Q := by
  unfold pm_Met
  refine pm_lvs (lv' := [(0, _), (1, _)]) rfl ?_
  refine pw_aload_n dX2_editionOf_0 rfl ?_
  refine pw_iload_n dX2_editionOf_1 rfl ?_
  refine pw_callV (as := [_]) (kc' := 0) (ks' := 0) lX2_51 dX2_editionOf_2 rfl rfl (sh_lt hG (by decide)) (sh_tg hG 14 rfl) (Nat.le_of_ble_eq_true rfl) (by omega) (Nat.le_of_ble_eq_true rfl) (Nat.zero_le _) (Nat.zero_le _) ?_
  refine c_hasX hG hP hn hl (fun i hi e => ?_) ?_
  · subst e
    refine pw_if_eq (tgt := 17) dX2_editionOf_5 (by decide) (fun h => absurd h (by decide)) (fun h5 => ?_)
    refine pw_aload_n dX2_editionOf_8 rfl ?_
    refine pw_getR fX2_22 dX2_editionOf_9 (sh_lt hG (by decide)) (sh_tg hG 14 rfl) rfl (gr_at hP 23 rfl) ?_
    refine pw_iload_n dX2_editionOf_12 rfl ?_
    refine pw_ialdN i dX2_editionOf_13 (sh_lt hG (by decide)) (sh_sh hG 18 rfl) (by decide) (rfl) (by omega) ?_
    refine pw_goto (tgt := 18) dX2_editionOf_14 (by decide) ?_
    exact pw_iret dX2_editionOf_18 rfl (k _)
  · refine pw_if_eq (tgt := 17) dX2_editionOf_5 (by decide) (fun h5 => ?_) (fun h => absurd (by decide) h)
    refine pw_iconst (v := nI 0) dX2_editionOf_17 (by decide) ?_
    exact pw_iret dX2_editionOf_18 rfl (k _)
set_option maxRecDepth 20000 in
set_option maxHeartbeats 400000 in
theorem c_what {l : Launch} {E : pmE} {d : Nat} {S : pmS} {I : pmI} {J : pmJ} {P : pmP} {Q : Option Value → pmS → pmI → pmJ → pmP → Prop} (hG : sh_St S) (hP : gr_St P) (hd : 2 ≤ d) {x : Int32} {n : Nat} (hn : I 16 4 = nI n) (hl : n ≤ 40) (k : ∀ a, Q (some (.int a)) S I J P) : pm_Met l E yX9_what cX9_what 2 (some .int) d 0 0 [.ref 2, .int x] S I J P Q := by
  unfold pm_Met
  refine pm_lvs (lv' := [(0, _), (1, _)]) rfl ?_
  refine pw_aload_n dX9_what_0 rfl ?_
  refine pw_getR fX9_32 dX9_what_1 (sh_lt hG (by decide)) (sh_tg hG 0 rfl) rfl (gr_at hP 3 rfl) ?_
  refine pw_getR fX9_72 dX9_what_4 (sh_lt hG (by decide)) (sh_tg hG 13 rfl) rfl (gr_at hP 15 rfl) ?_
  refine pw_iload_n dX9_what_7 rfl ?_
  refine pw_callV (as := [_]) (kc' := 0) (ks' := 0) lX9_142 dX9_what_8 rfl rfl (sh_lt hG (by decide)) (sh_tg hG 14 rfl) (Nat.le_of_ble_eq_true rfl) (by omega) (Nat.le_of_ble_eq_true rfl) (Nat.zero_le _) (Nat.zero_le _) ?_
  refine c_hasX hG hP hn hl (fun i hi e => ?_) ?_
  · refine pw_if_eq (tgt := 28) dX9_what_11 (by decide) (fun h => absurd h (by decide)) (fun h11 => ?_)
    refine pw_aload_n dX9_what_14 rfl ?_
    refine pw_getR fX9_32 dX9_what_15 (sh_lt hG (by decide)) (sh_tg hG 0 rfl) rfl (gr_at hP 3 rfl) ?_
    refine pw_getR fX9_72 dX9_what_18 (sh_lt hG (by decide)) (sh_tg hG 13 rfl) rfl (gr_at hP 15 rfl) ?_
    refine pw_iload_n dX9_what_21 rfl ?_
    refine pw_callV (as := [_]) (kc' := 0) (ks' := 0) lX9_148 dX9_what_22 rfl rfl (sh_lt hG (by decide)) (sh_tg hG 14 rfl) (Nat.le_of_ble_eq_true rfl) (by omega) (Nat.le_of_ble_eq_true rfl) (Nat.zero_le _) (Nat.zero_le _) ?_
    refine c_formX hG hP (by omega) hn hl (fun a => ?_)
    refine pw_goto (tgt := 29) dX9_what_25 (by decide) ?_
    exact pw_iret dX9_what_29 rfl (k _)
  · refine pw_if_eq (tgt := 28) dX9_what_11 (by decide) (fun h11 => ?_) (fun h => absurd (by decide) h)
    refine pw_iconst (v := -1) dX9_what_28 (by decide) ?_
    exact pw_iret dX9_what_29 rfl (k _)
set_option maxRecDepth 20000 in
set_option maxHeartbeats 400000 in
theorem c_by {l : Launch} {E : pmE} {d : Nat} {S : pmS} {I : pmI} {J : pmJ} {P : pmP} {Q : Option Value → pmS → pmI → pmJ → pmP → Prop} (hG : sh_St S) (hP : gr_St P) (hd : 2 ≤ d) {x : Int32} {n : Nat} (hn : I 16 4 = nI n) (hl : n ≤ 40) (k : ∀ a, Q (some (.int a)) S I J P) : pm_Met l E yX9_by cX9_by 2 (some .int) d 0 0 [.ref 2, .int x] S I J P Q := by
  unfold pm_Met
  refine pm_lvs (lv' := [(0, _), (1, _)]) rfl ?_
  refine pw_aload_n dX9_by_0 rfl ?_
  refine pw_getR fX9_32 dX9_by_1 (sh_lt hG (by decide)) (sh_tg hG 0 rfl) rfl (gr_at hP 3 rfl) ?_
  refine pw_getR fX9_72 dX9_by_4 (sh_lt hG (by decide)) (sh_tg hG 13 rfl) rfl (gr_at hP 15 rfl) ?_
  refine pw_iload_n dX9_by_7 rfl ?_
  refine pw_callV (as := [_]) (kc' := 0) (ks' := 0) lX9_142 dX9_by_8 rfl rfl (sh_lt hG (by decide)) (sh_tg hG 14 rfl) (Nat.le_of_ble_eq_true rfl) (by omega) (Nat.le_of_ble_eq_true rfl) (Nat.zero_le _) (Nat.zero_le _) ?_
  refine c_hasX hG hP hn hl (fun i hi e => ?_) ?_
  · refine pw_if_eq (tgt := 28) dX9_by_11 (by decide) (fun h => absurd h (by decide)) (fun h11 => ?_)
    refine pw_aload_n dX9_by_14 rfl ?_
    refine pw_getR fX9_32 dX9_by_15 (sh_lt hG (by decide)) (sh_tg hG 0 rfl) rfl (gr_at hP 3 rfl) ?_
    refine pw_getR fX9_72 dX9_by_18 (sh_lt hG (by decide)) (sh_tg hG 13 rfl) rfl (gr_at hP 15 rfl) ?_
    refine pw_iload_n dX9_by_21 rfl ?_
    refine pw_callV (as := [_]) (kc' := 0) (ks' := 0) lX9_151 dX9_by_22 rfl rfl (sh_lt hG (by decide)) (sh_tg hG 14 rfl) (Nat.le_of_ble_eq_true rfl) (by omega) (Nat.le_of_ble_eq_true rfl) (Nat.zero_le _) (Nat.zero_le _) ?_
    refine c_dclX hG hP (by omega) hn hl (fun a => ?_)
    refine pw_goto (tgt := 29) dX9_by_25 (by decide) ?_
    exact pw_iret dX9_by_29 rfl (k _)
  · refine pw_if_eq (tgt := 28) dX9_by_11 (by decide) (fun h11 => ?_) (fun h => absurd (by decide) h)
    refine pw_iconst (v := -1) dX9_by_28 (by decide) ?_
    exact pw_iret dX9_by_29 rfl (k _)
set_option maxRecDepth 20000 in
set_option maxHeartbeats 400000 in
theorem c_edition {l : Launch} {E : pmE} {d : Nat} {S : pmS} {I : pmI} {J : pmJ} {P : pmP} {Q : Option Value → pmS → pmI → pmJ → pmP → Prop} (hG : sh_St S) (hP : gr_St P) (hd : 2 ≤ d) {x : Int32} {n : Nat} (hn : I 16 4 = nI n) (hl : n ≤ 40) (k : ∀ a, Q (some (.int a)) S I J P) : pm_Met l E yX9_edition cX9_edition 2 (some .int) d 0 0 [.ref 2, .int x] S I J P Q := by
  unfold pm_Met
  refine pm_lvs (lv' := [(0, _), (1, _)]) rfl ?_
  refine pw_aload_n dX9_edition_0 rfl ?_
  refine pw_getR fX9_32 dX9_edition_1 (sh_lt hG (by decide)) (sh_tg hG 0 rfl) rfl (gr_at hP 3 rfl) ?_
  refine pw_getR fX9_72 dX9_edition_4 (sh_lt hG (by decide)) (sh_tg hG 13 rfl) rfl (gr_at hP 15 rfl) ?_
  refine pw_iload_n dX9_edition_7 rfl ?_
  refine pw_callV (as := [_]) (kc' := 0) (ks' := 0) lX9_142 dX9_edition_8 rfl rfl (sh_lt hG (by decide)) (sh_tg hG 14 rfl) (Nat.le_of_ble_eq_true rfl) (by omega) (Nat.le_of_ble_eq_true rfl) (Nat.zero_le _) (Nat.zero_le _) ?_
  refine c_hasX hG hP hn hl (fun i hi e => ?_) ?_
  · refine pw_if_eq (tgt := 28) dX9_edition_11 (by decide) (fun h => absurd h (by decide)) (fun h11 => ?_)
    refine pw_aload_n dX9_edition_14 rfl ?_
    refine pw_getR fX9_32 dX9_edition_15 (sh_lt hG (by decide)) (sh_tg hG 0 rfl) rfl (gr_at hP 3 rfl) ?_
    refine pw_getR fX9_72 dX9_edition_18 (sh_lt hG (by decide)) (sh_tg hG 13 rfl) rfl (gr_at hP 15 rfl) ?_
    refine pw_iload_n dX9_edition_21 rfl ?_
    refine pw_callV (as := [_]) (kc' := 0) (ks' := 0) lX9_154 dX9_edition_22 rfl rfl (sh_lt hG (by decide)) (sh_tg hG 14 rfl) (Nat.le_of_ble_eq_true rfl) (by omega) (Nat.le_of_ble_eq_true rfl) (Nat.zero_le _) (Nat.zero_le _) ?_
    refine c_edX hG hP (by omega) hn hl (fun a => ?_)
    refine pw_goto (tgt := 29) dX9_edition_25 (by decide) ?_
    exact pw_iret dX9_edition_29 rfl (k _)
  · refine pw_if_eq (tgt := 28) dX9_edition_11 (by decide) (fun h11 => ?_) (fun h => absurd (by decide) h)
    refine pw_iconst (v := -1) dX9_edition_28 (by decide) ?_
    exact pw_iret dX9_edition_29 rfl (k _)
set_option maxRecDepth 20000 in
set_option maxHeartbeats 400000 in
theorem c_reported {l : Launch} {E : pmE} {d : Nat} {S : pmS} {I : pmI} {J : pmJ} {P : pmP} {Q : Option Value → pmS → pmI → pmJ → pmP → Prop} (hG : sh_St S) (hP : gr_St P) {x : Int32} (k : ∀ a, Q (some (.int a)) S I J P) : pm_Met l E yX1_reported cX1_reported 2 (some .int) d 0 0 [.ref 34, .int x] S I J P Q := by
  unfold pm_Met
  refine pm_lvs (lv' := [(0, _), (1, _)]) rfl ?_
  refine pw_iload_n dX1_reported_0 rfl ?_
  refine pw_if_lt (tgt := 18) dX1_reported_1 (by decide) (fun h1 => ?_) (fun h1 => ?_)
  · refine pw_iconst (v := nI 0) dX1_reported_18 (by decide) ?_
    exact pw_iret dX1_reported_19 rfl (k _)
  · obtain ⟨i, hi, rfl⟩ := nn_I h1
    refine pw_iload_n dX1_reported_4 rfl ?_
    refine pw_iconst (v := nI 5) dX1_reported_5 (by decide) ?_
    refine pw_icmpN_ge _ _ (tgt := 18) dX1_reported_6 (by decide) (rfl) (rfl) (by omega) (by omega) (fun h6 => ?_) (fun h6 => ?_)
    · refine pw_iconst (v := nI 0) dX1_reported_18 (by decide) ?_
      exact pw_iret dX1_reported_19 rfl (k _)
    · refine pw_aload_n dX1_reported_9 rfl ?_
      refine pw_getR fX1_31 dX1_reported_10 (sh_lt hG (by decide)) (sh_tg hG 32 rfl) rfl (gr_at hP 33 rfl) ?_
      refine pw_iload_n dX1_reported_13 rfl ?_
      refine pw_ialdN i dX1_reported_14 (sh_lt hG (by decide)) (sh_sh hG 39 rfl) (by decide) (rfl) (by omega) ?_
      refine pw_goto (tgt := 19) dX1_reported_15 (by decide) ?_
      exact pw_iret dX1_reported_19 rfl (k _)

set_option maxRecDepth 20000 in
set_option maxHeartbeats 400000 in
theorem c_thrown {l : Launch} {E : pmE} {d : Nat} {S : pmS} {I : pmI} {J : pmJ} {P : pmP} {Q : Option Value → pmS → pmI → pmJ → pmP → Prop} (hG : sh_St S) (hP : gr_St P) (hd : 1 ≤ d) {x : Int32} (k : ∀ a, Q (some (.int a)) S I J P) : pm_Met l E yX9_thrown cX9_thrown 2 (some .int) d 0 0 [.ref 2, .int x] S I J P Q := by
  unfold pm_Met
  refine pm_lvs (lv' := [(0, _), (1, _)]) rfl ?_
  refine pw_iload_n dX9_thrown_0 rfl ?_
  refine pw_if_lt (tgt := 20) dX9_thrown_1 (by decide) (fun h1 => ?_) (fun h1 => ?_)
  · refine pw_bipush (v := -2) dX9_thrown_20 (by decide) ?_
    exact pw_iret dX9_thrown_22 rfl (k _)
  · refine pw_iload_n dX9_thrown_4 rfl ?_
    refine pw_iconst (v := nI 5) dX9_thrown_5 (by decide) ?_
    refine pw_icmp_ge (tgt := 20) dX9_thrown_6 (by decide) (fun h6 => ?_) (fun h6 => ?_)
    · refine pw_bipush (v := -2) dX9_thrown_20 (by decide) ?_
      exact pw_iret dX9_thrown_22 rfl (k _)
    · refine pw_aload_n dX9_thrown_9 rfl ?_
      refine pw_getR fX9_41 dX9_thrown_10 (sh_lt hG (by decide)) (sh_tg hG 0 rfl) rfl (gr_at hP 4 rfl) ?_
      refine pw_iload_n dX9_thrown_13 rfl ?_
      refine pw_callV (as := [_]) (kc' := 0) (ks' := 0) lX9_85 dX9_thrown_14 rfl rfl (sh_lt hG (by decide)) (sh_tg hG 32 rfl) (Nat.le_of_ble_eq_true rfl) (by omega) (Nat.le_of_ble_eq_true rfl) (Nat.zero_le _) (Nat.zero_le _) ?_
      refine c_reported hG hP (fun a => ?_)
      refine pw_goto (tgt := 22) dX9_thrown_17 (by decide) ?_
      exact pw_iret dX9_thrown_22 rfl (k _)

set_option maxRecDepth 20000 in
set_option maxHeartbeats 400000 in
theorem v_kind30X {l : Launch} {E : pmE} {d : Nat} {S : pmS} {I : pmI} {J : pmJ} {P : pmP} {Q : Option Value → pmS → pmI → pmJ → pmP → Prop} (hG : sh_St S) (hP : gr_St P) {x : Int32} (k : ∀ v, Q (some (.int v)) S I J P) : pm_Met l E yX8_kindAt cX8_kindAt 2 (some .int) d 0 0 [.ref 30, .int x] S I J P Q := by
  unfold pm_Met
  refine pm_lvs (lv' := [(0, _), (1, _)]) rfl ?_
  refine pw_iload_n dX8_kindAt_0 rfl ?_
  refine pw_if_lt (tgt := 22) dX8_kindAt_1 (by decide) (fun h1 => ?_) (fun h1 => ?_)
  · refine pw_iconst (v := nI 0) dX8_kindAt_22 (by decide) ?_
    exact pw_iret dX8_kindAt_23 rfl (k _)
  · obtain ⟨i, hi, rfl⟩ := nn_I h1
    refine pw_iload_n dX8_kindAt_4 rfl ?_
    refine pw_aload_n dX8_kindAt_5 rfl ?_
    refine pw_getR fX8_7 dX8_kindAt_6 (sh_lt hG (by decide)) (sh_tg hG 28 rfl) rfl (gr_at hP 26 rfl) ?_
    refine pw_alen dX8_kindAt_9 (sh_lt hG (by decide)) (sh_sh hG 29 rfl) (by decide) (by decide) ?_
    refine pw_icmpN_ge _ _ (tgt := 22) dX8_kindAt_10 (by decide) (rfl) (rfl) (by omega) (by omega) (fun h10 => ?_) (fun h10 => ?_)
    · refine pw_iconst (v := nI 0) dX8_kindAt_22 (by decide) ?_
      exact pw_iret dX8_kindAt_23 rfl (k _)
    · refine pw_aload_n dX8_kindAt_13 rfl ?_
      refine pw_getR fX8_7 dX8_kindAt_14 (sh_lt hG (by decide)) (sh_tg hG 28 rfl) rfl (gr_at hP 26 rfl) ?_
      refine pw_iload_n dX8_kindAt_17 rfl ?_
      refine pw_ialdN i dX8_kindAt_18 (sh_lt hG (by decide)) (sh_sh hG 29 rfl) (by decide) (rfl) (by omega) ?_
      refine pw_goto (tgt := 23) dX8_kindAt_19 (by decide) ?_
      exact pw_iret dX8_kindAt_23 rfl (k _)

set_option maxRecDepth 20000 in
set_option maxHeartbeats 400000 in
theorem v_core30X {l : Launch} {E : pmE} {d : Nat} {S : pmS} {I : pmI} {J : pmJ} {P : pmP} {Q : Option Value → pmS → pmI → pmJ → pmP → Prop} (hG : sh_St S) (hP : gr_St P) {x : Int32} (k : ∀ v, Q (some (.long v)) S I J P) : pm_Met l E yX8_coreAt cX8_coreAt 2 (some .long) d 0 0 [.ref 30, .int x] S I J P Q := by
  unfold pm_Met
  refine pm_lvs (lv' := [(0, _), (1, _)]) rfl ?_
  refine pw_iload_n dX8_coreAt_0 rfl ?_
  refine pw_if_lt (tgt := 22) dX8_coreAt_1 (by decide) (fun h1 => ?_) (fun h1 => ?_)
  · refine pw_lconst (v := 0) dX8_coreAt_22 (by decide) ?_
    exact pw_lret dX8_coreAt_23 rfl (k _)
  · obtain ⟨i, hi, rfl⟩ := nn_I h1
    refine pw_iload_n dX8_coreAt_4 rfl ?_
    refine pw_aload_n dX8_coreAt_5 rfl ?_
    refine pw_getR fX8_13 dX8_coreAt_6 (sh_lt hG (by decide)) (sh_tg hG 28 rfl) rfl (gr_at hP 27 rfl) ?_
    refine pw_alen dX8_coreAt_9 (sh_lt hG (by decide)) (sh_sh hG 30 rfl) (by decide) (by decide) ?_
    refine pw_icmpN_ge _ _ (tgt := 22) dX8_coreAt_10 (by decide) (rfl) (rfl) (by omega) (by omega) (fun h10 => ?_) (fun h10 => ?_)
    · refine pw_lconst (v := 0) dX8_coreAt_22 (by decide) ?_
      exact pw_lret dX8_coreAt_23 rfl (k _)
    · refine pw_aload_n dX8_coreAt_13 rfl ?_
      refine pw_getR fX8_13 dX8_coreAt_14 (sh_lt hG (by decide)) (sh_tg hG 28 rfl) rfl (gr_at hP 27 rfl) ?_
      refine pw_iload_n dX8_coreAt_17 rfl ?_
      refine pw_laldN i dX8_coreAt_18 (sh_lt hG (by decide)) (sh_sh hG 30 rfl) (by decide) (rfl) (by omega) ?_
      refine pw_goto (tgt := 23) dX8_coreAt_19 (by decide) ?_
      exact pw_lret dX8_coreAt_23 rfl (k _)

set_option maxRecDepth 20000 in
set_option maxHeartbeats 400000 in
theorem c_hasRes {l : Launch} {E : pmE} {d : Nat} {S : pmS} {I : pmI} {J : pmJ} {P : pmP} {Q : Option Value → pmS → pmI → pmJ → pmP → Prop} (hG : sh_St S) (hP : gr_St P) {x : Int64} (k1 : Q (some (.int (nI 1))) S I J P) (k0 : Q (some (.int (nI 0))) S I J P) : pm_Met l E yX4_hasResult cX4_hasResult 3 (some .boolean) d 0 0 [.ref 15, .long x] S I J P Q := by
  unfold pm_Met
  refine pm_lvs (lv' := [(0, _), (1, _)]) rfl ?_
  refine pw_lload_n dX4_hasResult_0 rfl ?_
  refine pw_lconst (v := 1) dX4_hasResult_1 (by decide) ?_
  refine pw_lif_lt (tgt := 20) dX4_hasResult_2 dX4_hasResult_3 (by decide) (fun h3 => ?_) (fun h3 => ?_)
  · refine pw_iconst (v := nI 0) dX4_hasResult_20 (by decide) ?_
    exact pw_zret dX4_hasResult_21 rfl (by decide) (k0)
  · refine pw_lload_n dX4_hasResult_6 rfl ?_
    refine pw_aload_n dX4_hasResult_7 rfl ?_
    refine pw_getI fX4_53 dX4_hasResult_8 (sh_lt hG (by decide)) (sh_tg hG 13 rfl) rfl ?_
    refine pw_i2l dX4_hasResult_11 ?_
    refine pw_lif_gt (tgt := 20) dX4_hasResult_12 dX4_hasResult_13 (by decide) (fun h13 => ?_) (fun h13 => ?_)
    · refine pw_iconst (v := nI 0) dX4_hasResult_20 (by decide) ?_
      exact pw_zret dX4_hasResult_21 rfl (by decide) (k0)
    · refine pw_iconst (v := nI 1) dX4_hasResult_16 (by decide) ?_
      refine pw_goto (tgt := 21) dX4_hasResult_17 (by decide) ?_
      exact pw_zret dX4_hasResult_21 rfl (by decide) (k1)

set_option maxRecDepth 20000 in
set_option maxHeartbeats 400000 in
theorem c_kind {l : Launch} {E : pmE} {d : Nat} {S : pmS} {I : pmI} {J : pmJ} {P : pmP} {Q : Option Value → pmS → pmI → pmJ → pmP → Prop} (hG : sh_St S) (hP : gr_St P) (hd : 1 ≤ d) {x : Int32} (k : ∀ a, Q (some (.int a)) S I J P) : pm_Met l E yX9_kind cX9_kind 2 (some .int) d 0 0 [.ref 2, .int x] S I J P Q := by
  unfold pm_Met
  refine pm_lvs (lv' := [(0, _), (1, _)]) rfl ?_
  refine pw_aload_n dX9_kind_0 rfl ?_
  refine pw_getR fX9_32 dX9_kind_1 (sh_lt hG (by decide)) (sh_tg hG 0 rfl) rfl (gr_at hP 3 rfl) ?_
  refine pw_iload_n dX9_kind_4 rfl ?_
  refine pw_i2l dX9_kind_5 ?_
  refine pw_callV (as := [_]) (kc' := 0) (ks' := 0) lX9_89 dX9_kind_6 rfl rfl (sh_lt hG (by decide)) (sh_tg hG 13 rfl) (Nat.le_of_ble_eq_true rfl) (by omega) (Nat.le_of_ble_eq_true rfl) (Nat.zero_le _) (Nat.zero_le _) ?_
  refine c_hasRes hG hP ?_ ?_
  · refine pw_if_eq (tgt := 26) dX9_kind_9 (by decide) (fun h => absurd h (by decide)) (fun h9 => ?_)
    refine pw_aload_n dX9_kind_12 rfl ?_
    refine pw_getR fX9_32 dX9_kind_13 (sh_lt hG (by decide)) (sh_tg hG 0 rfl) rfl (gr_at hP 3 rfl) ?_
    refine pw_getR fX9_93 dX9_kind_16 (sh_lt hG (by decide)) (sh_tg hG 13 rfl) rfl (gr_at hP 18 rfl) ?_
    refine pw_iload_n dX9_kind_19 rfl ?_
    refine pw_callV (as := [_]) (kc' := 0) (ks' := 0) lX9_97 dX9_kind_20 rfl rfl (sh_lt hG (by decide)) (sh_tg hG 28 rfl) (Nat.le_of_ble_eq_true rfl) (by omega) (Nat.le_of_ble_eq_true rfl) (Nat.zero_le _) (Nat.zero_le _) ?_
    refine v_kind30X hG hP (fun a => ?_)
    refine pw_goto (tgt := 27) dX9_kind_23 (by decide) ?_
    exact pw_iret dX9_kind_27 rfl (k _)
  · refine pw_if_eq (tgt := 26) dX9_kind_9 (by decide) (fun h9 => ?_) (fun h => absurd (by decide) h)
    refine pw_iconst (v := -1) dX9_kind_26 (by decide) ?_
    exact pw_iret dX9_kind_27 rfl (k _)
set_option maxRecDepth 20000 in
set_option maxHeartbeats 400000 in
theorem c_name {l : Launch} {E : pmE} {d : Nat} {S : pmS} {I : pmI} {J : pmJ} {P : pmP} {Q : Option Value → pmS → pmI → pmJ → pmP → Prop} (hG : sh_St S) (hP : gr_St P) (hd : 1 ≤ d) {x : Int64} {ns : List Int64} (hn : I 16 4 = nI ns.length) (hl : ns.length ≤ 40) (hJ : ∀ (j : Nat) (v : Int64), ns[j]? = some v → J 17 j = v) (hnd : ns.Nodup) (k : ∀ a, Q (some (.int a)) S I J P) : pm_Met l E yX9_name cX9_name 3 (some .int) d 0 0 [.ref 2, .long x] S I J P Q := by
  unfold pm_Met
  refine pm_lvs (lv' := [(0, _), (1, _)]) rfl ?_
  refine pw_aload_n dX9_name_0 rfl ?_
  refine pw_getR fX9_32 dX9_name_1 (sh_lt hG (by decide)) (sh_tg hG 0 rfl) rfl (gr_at hP 3 rfl) ?_
  refine pw_getR fX9_72 dX9_name_4 (sh_lt hG (by decide)) (sh_tg hG 13 rfl) rfl (gr_at hP 15 rfl) ?_
  refine pw_lload_n dX9_name_7 rfl ?_
  refine pw_callV (as := [_]) (kc' := 0) (ks' := 0) lX9_138 dX9_name_8 rfl rfl (sh_lt hG (by decide)) (sh_tg hG 14 rfl) (Nat.le_of_ble_eq_true rfl) (by omega) (Nat.le_of_ble_eq_true rfl) (Nat.zero_le _) (Nat.zero_le _) ?_
  refine c_find hG hP hn hl hJ hnd (fun _ => ?_) (fun _ => ?_)
  all_goals exact pw_iret dX9_name_11 rfl (k _)

set_option maxRecDepth 20000 in
set_option maxHeartbeats 400000 in
theorem c_erase {l : Launch} {E : pmE} {d : Nat} {S : pmS} {I : pmI} {J : pmJ} {P : pmP} {Q : Option Value → pmS → pmI → pmJ → pmP → Prop} (hG : sh_St S) (hP : gr_St P) (k : ∀ a, Q (some (.int a)) S (pm_u I 2 5 (nI 0)) J P) : pm_Met l E yX9_erase cX9_erase 2 (some .int) d 0 0 [.ref 2] S I J P Q := by
  unfold pm_Met
  refine pm_lvs (lv' := [(0, _)]) rfl ?_
  refine pw_aload_n dX9_erase_0 rfl ?_
  refine pw_getI fX9_49 dX9_erase_1 (sh_lt hG (by decide)) (sh_tg hG 0 rfl) rfl ?_
  refine pw_istore_n (lv' := [(1, _), (0, _)]) dX9_erase_4 (by decide) rfl ?_
  refine pw_aload_n dX9_erase_5 rfl ?_
  refine pw_iconst (v := nI 0) dX9_erase_6 (by decide) ?_
  refine pw_putI fX9_49 dX9_erase_7 (Or.inl rfl) (by decide) (sh_lt hG (by decide)) (sh_tg hG 0 rfl) rfl ?_
  refine pw_iload_n dX9_erase_10 rfl ?_
  exact pw_iret dX9_erase_11 rfl (k _)

