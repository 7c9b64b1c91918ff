theorem p1_res {x : Int64} (a : ¬ x < 1) (b : ¬ (0 : Int32).toInt64 < x) : False := by
  have h0 : (0 : Int32).toInt64 = 0 := by decide
  rw [h0] at b
  rw [Int64.lt_iff_toInt_lt] at a b
  have h1 : (1 : Int64).toInt = 1 := by decide
  have h2 : (0 : Int64).toInt = 0 := by decide
  omega
theorem p1_in {x b : Int32} (hb : b = 0) (h1 : ¬ x < nI 1) (h2 : ¬ b < x) : False := by
  subst hb
  rw [Int32.lt_iff_toInt_lt] at h1 h2
  have e1 : (nI 1).toInt = 1 := by decide
  have e2 : (0 : Int32).toInt = 0 := by decide
  omega
theorem p1_in0 {x b : Int32} (hb : b = -1) (h1 : ¬ x < nI 0) (h2 : ¬ b < x) : False := by
  subst hb
  rw [Int32.lt_iff_toInt_lt] at h1 h2
  have e1 : (nI 0).toInt = 0 := by decide
  have e2 : (-1 : Int32).toInt = -1 := by decide
  omega
theorem p1_any (x : Int32) : x < 0 ∨ (0 : Int32) ≤ x := by
  rw [Int32.lt_iff_toInt_lt, Int32.le_iff_toInt_le]
  have e2 : (0 : Int32).toInt = 0 := by decide
  omega
theorem pm_lt45 {x : Int32} (h : nI 5 ≤ x) : nI 4 < x := by
  rw [Int32.le_iff_toInt_le, nI_toInt (by decide)] at h
  rw [Int32.lt_iff_toInt_lt, nI_toInt (by decide)]
  omega
theorem pm_le45 {x : Int32} (h : nI 4 < x) : nI 5 ≤ x := by
  rw [Int32.lt_iff_toInt_lt, nI_toInt (by decide)] at h
  rw [Int32.le_iff_toInt_le, nI_toInt (by decide)]
  omega
def p1_th (x : Int32) : Int32 := if x < 0 ∨ nI 5 ≤ x then -2 else 0
theorem p1_th0 {x : Int32} (h : x < 0 ∨ nI 5 ≤ x) : p1_th x = -2 := if_pos h
theorem p1_th1 {x : Int32} (h1 : ¬ x < 0) (h2 : ¬ nI 5 ≤ x) : p1_th x = 0 := if_neg fun h => h.elim h1 h2

set_option maxRecDepth 20000 in
set_option maxHeartbeats 4000000 in
theorem f_X9_thrown {l : Launch} {E : pmE} {d : Nat} {S : pmS} {P : pmP} {Q : Option Value → pmS → pmI → pmJ → pmP → Prop} (hG : sh_St S) (hP : gr_St P) (hd : 80 ≤ d) {x : Int32} (k : Q (some (.int (p1_th x))) S (fun _ _ => 0) (fun _ _ => 0) P) : pm_Met l E yX9_thrown cX9_thrown 2 (some .int) d 0 0 [.ref 2, .int x] S (fun _ _ => 0) (fun _ _ => 0) P Q := by
  unfold pm_Met
  refine pm_lvs (lv' := [(0, _), (1, _)]) rfl ?_
  refine pw_iload_n dX9_thrown_0 rfl ?_
  refine pw_if_lt (tgt := 20) dX9_thrown_1 (by decide) (fun h1 => ?_) (fun h1 => ?_)
  · refine pw_bipush (v := -2) dX9_thrown_20 (by decide) ?_
    exact pw_iret dX9_thrown_22 rfl (by rw [p1_th0 (Or.inl h1)] at k; exact k)
  · refine pw_iload_n dX9_thrown_4 rfl ?_
    refine pw_iconst (v := nI 5) dX9_thrown_5 (by decide) ?_
    refine pw_icmp_ge (tgt := 20) dX9_thrown_6 (by decide) (fun h6 => ?_) (fun h6 => ?_)
    · refine pw_bipush (v := -2) dX9_thrown_20 (by decide) ?_
      exact pw_iret dX9_thrown_22 rfl (by rw [p1_th0 (Or.inr h6)] at k; exact k)
    · obtain ⟨j, hj, rfl⟩ : ∃ j, j < 5 ∧ x = nI j := by
        rcases pk_ix x (n := 5) (by decide) with h | h | h
        · exact absurd h h1
        · exact absurd h h6
        · exact h
      refine pw_aload_n dX9_thrown_9 rfl ?_
      refine pw_getR fX9_41 dX9_thrown_10 (sh_lt hG (by decide)) (sh_tg hG 0 rfl) rfl (gr_at hP 4 rfl) ?_
      refine pw_iload_n dX9_thrown_13 rfl ?_
      refine pw_callV (as := [_]) (kc' := 0) (ks' := 0) lX9_85 dX9_thrown_14 rfl rfl (sh_lt hG (by decide)) (sh_tg hG 32 rfl) (Nat.le_of_ble_eq_true rfl) (by omega) (Nat.le_of_ble_eq_true rfl) (Nat.zero_le _) (Nat.zero_le _) ?_
      refine c_X1_reported hG hP hj ?_
      refine pw_goto (tgt := 22) dX9_thrown_17 (by decide) ?_
      exact pw_iret dX9_thrown_22 rfl (by rw [p1_th1 h1 h6] at k; exact k)

set_option maxRecDepth 20000 in
set_option maxHeartbeats 4000000 in
theorem f_X9_kind {l : Launch} {E : pmE} {d : Nat} {S : pmS} {P : pmP} {Q : Option Value → pmS → pmI → pmJ → pmP → Prop} (hG : sh_St S) (hP : gr_St P) (hd : 40 ≤ d) {x : Int32} (k : Q (some (.int (-1))) S (fun _ _ => 0) (fun _ _ => 0) P) : pm_Met l E yX9_kind cX9_kind 2 (some .int) d 0 0 [.ref 2, .int x] S (fun _ _ => 0) (fun _ _ => 0) P Q := by
  unfold pm_Met
  refine pm_lvs (lv' := [(0, _), (1, _)]) rfl ?_
  refine pw_aload_n dX9_kind_0 rfl ?_
  refine pw_getR fX9_32 dX9_kind_1 (sh_lt hG (by decide)) (sh_tg hG 0 rfl) rfl (gr_at hP 3 rfl) ?_
  refine pw_iload_n dX9_kind_4 rfl ?_
  refine pw_i2l dX9_kind_5 ?_
  refine pw_callV (as := [_]) (kc' := 0) (ks' := 0) lX9_89 dX9_kind_6 rfl rfl (sh_lt hG (by decide)) (sh_tg hG 13 rfl) (Nat.le_of_ble_eq_true rfl) (by omega) (Nat.le_of_ble_eq_true rfl) (Nat.zero_le _) (Nat.zero_le _) ?_
  refine c_X4_hasResult hG hP (fun a b => (p1_res a b).elim) (fun _ => ?_)
  refine pw_if_eq (tgt := 26) dX9_kind_9 (by decide) (fun h9 => ?_) (fun h => absurd (nI_0) h)
  refine pw_iconst (v := -1) dX9_kind_26 (by decide) ?_
  exact pw_iret dX9_kind_27 rfl (k)

set_option maxRecDepth 20000 in
set_option maxHeartbeats 4000000 in
theorem f_X9_thing {l : Launch} {E : pmE} {d : Nat} {S : pmS} {P : pmP} {Q : Option Value → pmS → pmI → pmJ → pmP → Prop} (hG : sh_St S) (hP : gr_St P) (hd : 80 ≤ d) {x z : Int32} (k : Q (some (.int (-1))) S (fun _ _ => 0) (fun _ _ => 0) P) : pm_Met l E yX9_thing cX9_thing 4 (some .int) d 0 0 [.ref 2, .int x, .int z] S (fun _ _ => 0) (fun _ _ => 0) P Q := by
  unfold pm_Met
  refine pm_lvs (lv' := [(0, _), (1, _), (2, _)]) rfl ?_
  refine pw_aload_n dX9_thing_0 rfl ?_
  refine pw_iload_n dX9_thing_1 rfl ?_
  refine pw_callV (as := [_]) (kc' := 0) (ks' := 0) lX9_102 dX9_thing_2 rfl rfl (sh_lt hG (by decide)) (sh_tg hG 0 rfl) (Nat.le_of_ble_eq_true rfl) (by omega) (Nat.le_of_ble_eq_true rfl) (Nat.zero_le _) (Nat.zero_le _) ?_
  refine f_X9_kind hG hP (by omega) ?_
  refine pw_iconst (v := nI 2) dX9_thing_5 (by decide) ?_
  refine pw_icmp_eq (tgt := 11) dX9_thing_6 (by decide) (fun h => absurd h (by decide)) (fun h6 => ?_)
  refine pw_iconst (v := -1) dX9_thing_9 (by decide) ?_
  exact pw_iret dX9_thing_10 rfl (k)

set_option maxRecDepth 20000 in
set_option maxHeartbeats 4000000 in
theorem f_X9_letter {l : Launch} {E : pmE} {d : Nat} {S : pmS} {P : pmP} {Q : Option Value → pmS → pmI → pmJ → pmP → Prop} (hG : sh_St S) (hP : gr_St P) (hd : 80 ≤ d) {x z : Int32} (k : Q (some (.int (-1))) S (fun _ _ => 0) (fun _ _ => 0) P) : pm_Met l E yX9_letter cX9_letter 3 (some .int) d 0 0 [.ref 2, .int x, .int z] S (fun _ _ => 0) (fun _ _ => 0) P Q := by
  unfold pm_Met
  refine pm_lvs (lv' := [(0, _), (1, _), (2, _)]) rfl ?_
  refine pw_aload_n dX9_letter_0 rfl ?_
  refine pw_getR fX9_32 dX9_letter_1 (sh_lt hG (by decide)) (sh_tg hG 0 rfl) rfl (gr_at hP 3 rfl) ?_
  refine pw_getR fX9_72 dX9_letter_4 (sh_lt hG (by decide)) (sh_tg hG 13 rfl) rfl (gr_at hP 15 rfl) ?_
  refine pw_iload_n dX9_letter_7 rfl ?_
  refine pw_callV (as := [_]) (kc' := 0) (ks' := 0) lX9_142 dX9_letter_8 rfl rfl (sh_lt hG (by decide)) (sh_tg hG 14 rfl) (Nat.le_of_ble_eq_true rfl) (by omega) (Nat.le_of_ble_eq_true rfl) (Nat.zero_le _) (Nat.zero_le _) ?_
  refine c_X2_has (n := 0) hG hP (by decide) (by decide) (fun j hj _ => absurd hj (Nat.not_lt_zero j)) (fun _ => ?_)
  refine pw_if_eq (tgt := 29) dX9_letter_11 (by decide) (fun h11 => ?_) (fun h => absurd (nI_0) h)
  refine pw_iconst (v := -1) dX9_letter_29 (by decide) ?_
  exact pw_iret dX9_letter_30 rfl (k)

set_option maxRecDepth 20000 in
set_option maxHeartbeats 4000000 in
theorem f_X9_what {l : Launch} {E : pmE} {d : Nat} {S : pmS} {P : pmP} {Q : Option Value → pmS → pmI → pmJ → pmP → Prop} (hG : sh_St S) (hP : gr_St P) (hd : 80 ≤ d) {x : Int32} (k : Q (some (.int (-1))) S (fun _ _ => 0) (fun _ _ => 0) P) : pm_Met l E yX9_what cX9_what 2 (some .int) d 0 0 [.ref 2, .int x] S (fun _ _ => 0) (fun _ _ => 0) P Q := by
  unfold pm_Met
  refine pm_lvs (lv' := [(0, _), (1, _)]) rfl ?_
  refine pw_aload_n dX9_what_0 rfl ?_
  refine pw_getR fX9_32 dX9_what_1 (sh_lt hG (by decide)) (sh_tg hG 0 rfl) rfl (gr_at hP 3 rfl) ?_
  refine pw_getR fX9_72 dX9_what_4 (sh_lt hG (by decide)) (sh_tg hG 13 rfl) rfl (gr_at hP 15 rfl) ?_
  refine pw_iload_n dX9_what_7 rfl ?_
  refine pw_callV (as := [_]) (kc' := 0) (ks' := 0) lX9_142 dX9_what_8 rfl rfl (sh_lt hG (by decide)) (sh_tg hG 14 rfl) (Nat.le_of_ble_eq_true rfl) (by omega) (Nat.le_of_ble_eq_true rfl) (Nat.zero_le _) (Nat.zero_le _) ?_
  refine c_X2_has (n := 0) hG hP (by decide) (by decide) (fun j hj _ => absurd hj (Nat.not_lt_zero j)) (fun _ => ?_)
  refine pw_if_eq (tgt := 28) dX9_what_11 (by decide) (fun h11 => ?_) (fun h => absurd (nI_0) h)
  refine pw_iconst (v := -1) dX9_what_28 (by decide) ?_
  exact pw_iret dX9_what_29 rfl (k)

set_option maxRecDepth 20000 in
set_option maxHeartbeats 4000000 in
theorem f_X9_by {l : Launch} {E : pmE} {d : Nat} {S : pmS} {P : pmP} {Q : Option Value → pmS → pmI → pmJ → pmP → Prop} (hG : sh_St S) (hP : gr_St P) (hd : 80 ≤ d) {x : Int32} (k : Q (some (.int (-1))) S (fun _ _ => 0) (fun _ _ => 0) P) : pm_Met l E yX9_by cX9_by 2 (some .int) d 0 0 [.ref 2, .int x] S (fun _ _ => 0) (fun _ _ => 0) P Q := by
  unfold pm_Met
  refine pm_lvs (lv' := [(0, _), (1, _)]) rfl ?_
  refine pw_aload_n dX9_by_0 rfl ?_
  refine pw_getR fX9_32 dX9_by_1 (sh_lt hG (by decide)) (sh_tg hG 0 rfl) rfl (gr_at hP 3 rfl) ?_
  refine pw_getR fX9_72 dX9_by_4 (sh_lt hG (by decide)) (sh_tg hG 13 rfl) rfl (gr_at hP 15 rfl) ?_
  refine pw_iload_n dX9_by_7 rfl ?_
  refine pw_callV (as := [_]) (kc' := 0) (ks' := 0) lX9_142 dX9_by_8 rfl rfl (sh_lt hG (by decide)) (sh_tg hG 14 rfl) (Nat.le_of_ble_eq_true rfl) (by omega) (Nat.le_of_ble_eq_true rfl) (Nat.zero_le _) (Nat.zero_le _) ?_
  refine c_X2_has (n := 0) hG hP (by decide) (by decide) (fun j hj _ => absurd hj (Nat.not_lt_zero j)) (fun _ => ?_)
  refine pw_if_eq (tgt := 28) dX9_by_11 (by decide) (fun h11 => ?_) (fun h => absurd (nI_0) h)
  refine pw_iconst (v := -1) dX9_by_28 (by decide) ?_
  exact pw_iret dX9_by_29 rfl (k)

set_option maxRecDepth 20000 in
set_option maxHeartbeats 4000000 in
theorem f_X9_edition {l : Launch} {E : pmE} {d : Nat} {S : pmS} {P : pmP} {Q : Option Value → pmS → pmI → pmJ → pmP → Prop} (hG : sh_St S) (hP : gr_St P) (hd : 80 ≤ d) {x : Int32} (k : Q (some (.int (-1))) S (fun _ _ => 0) (fun _ _ => 0) P) : pm_Met l E yX9_edition cX9_edition 2 (some .int) d 0 0 [.ref 2, .int x] S (fun _ _ => 0) (fun _ _ => 0) P Q := by
  unfold pm_Met
  refine pm_lvs (lv' := [(0, _), (1, _)]) rfl ?_
  refine pw_aload_n dX9_edition_0 rfl ?_
  refine pw_getR fX9_32 dX9_edition_1 (sh_lt hG (by decide)) (sh_tg hG 0 rfl) rfl (gr_at hP 3 rfl) ?_
  refine pw_getR fX9_72 dX9_edition_4 (sh_lt hG (by decide)) (sh_tg hG 13 rfl) rfl (gr_at hP 15 rfl) ?_
  refine pw_iload_n dX9_edition_7 rfl ?_
  refine pw_callV (as := [_]) (kc' := 0) (ks' := 0) lX9_142 dX9_edition_8 rfl rfl (sh_lt hG (by decide)) (sh_tg hG 14 rfl) (Nat.le_of_ble_eq_true rfl) (by omega) (Nat.le_of_ble_eq_true rfl) (Nat.zero_le _) (Nat.zero_le _) ?_
  refine c_X2_has (n := 0) hG hP (by decide) (by decide) (fun j hj _ => absurd hj (Nat.not_lt_zero j)) (fun _ => ?_)
  refine pw_if_eq (tgt := 28) dX9_edition_11 (by decide) (fun h11 => ?_) (fun h => absurd (nI_0) h)
  refine pw_iconst (v := -1) dX9_edition_28 (by decide) ?_
  exact pw_iret dX9_edition_29 rfl (k)

set_option maxRecDepth 20000 in
set_option maxHeartbeats 4000000 in
theorem f_X9_user {l : Launch} {E : pmE} {d : Nat} {S : pmS} {P : pmP} {Q : Option Value → pmS → pmI → pmJ → pmP → Prop} (hG : sh_St S) (hP : gr_St P) (hd : 80 ≤ d) {x z : Int32} (k : Q (some (.int (-1))) S (fun _ _ => 0) (fun _ _ => 0) P) : pm_Met l E yX9_user cX9_user 3 (some .int) d 0 0 [.ref 2, .int x, .int z] S (fun _ _ => 0) (fun _ _ => 0) P Q := by
  unfold pm_Met
  refine pm_lvs (lv' := [(0, _), (1, _), (2, _)]) rfl ?_
  refine pw_aload_n dX9_user_0 rfl ?_
  refine pw_getR fX9_32 dX9_user_1 (sh_lt hG (by decide)) (sh_tg hG 0 rfl) rfl (gr_at hP 3 rfl) ?_
  refine pw_getR fX9_72 dX9_user_4 (sh_lt hG (by decide)) (sh_tg hG 13 rfl) rfl (gr_at hP 15 rfl) ?_
  refine pw_iload_n dX9_user_7 rfl ?_
  refine pw_callV (as := [_]) (kc' := 0) (ks' := 0) lX9_142 dX9_user_8 rfl rfl (sh_lt hG (by decide)) (sh_tg hG 14 rfl) (Nat.le_of_ble_eq_true rfl) (by omega) (Nat.le_of_ble_eq_true rfl) (Nat.zero_le _) (Nat.zero_le _) ?_
  refine c_X2_has (n := 0) hG hP (by decide) (by decide) (fun j hj _ => absurd hj (Nat.not_lt_zero j)) (fun _ => ?_)
  refine pw_if_eq (tgt := 26) dX9_user_11 (by decide) (fun h11 => ?_) (fun h => absurd (nI_0) h)
  refine pw_iconst (v := -1) dX9_user_26 (by decide) ?_
  exact pw_iret dX9_user_27 rfl (k)

set_option maxRecDepth 20000 in
set_option maxHeartbeats 4000000 in
theorem f_X9_state {l : Launch} {E : pmE} {d : Nat} {S : pmS} {P : pmP} {Q : Option Value → pmS → pmI → pmJ → pmP → Prop} (hG : sh_St S) (hP : gr_St P) (hd : 80 ≤ d) {x : Int32} (k : Q (some (.int (-1))) S (fun _ _ => 0) (fun _ _ => 0) P) : pm_Met l E yX9_state cX9_state 2 (some .int) d 0 0 [.ref 2, .int x] S (fun _ _ => 0) (fun _ _ => 0) P Q := by
  unfold pm_Met
  refine pm_lvs (lv' := [(0, _), (1, _)]) rfl ?_
  refine pw_aload_n dX9_state_0 rfl ?_
  refine pw_getR fX9_32 dX9_state_1 (sh_lt hG (by decide)) (sh_tg hG 0 rfl) rfl (gr_at hP 3 rfl) ?_
  refine pw_iload_n dX9_state_4 rfl ?_
  refine pw_callV (as := [_]) (kc' := 0) (ks' := 0) lX9_155 dX9_state_5 rfl rfl (sh_lt hG (by decide)) (sh_tg hG 13 rfl) (Nat.le_of_ble_eq_true rfl) (by omega) (Nat.le_of_ble_eq_true rfl) (Nat.zero_le _) (Nat.zero_le _) ?_
  refine c_X4_hasSnippet0 hG hP (p1_any x) ?_
  refine pw_if_eq (tgt := 22) dX9_state_8 (by decide) (fun h8 => ?_) (fun h => absurd (nI_0) h)
  refine pw_iconst (v := -1) dX9_state_22 (by decide) ?_
  exact pw_iret dX9_state_23 rfl (k)

set_option maxRecDepth 20000 in
set_option maxHeartbeats 4000000 in
theorem f_X9_name {l : Launch} {E : pmE} {d : Nat} {S : pmS} {P : pmP} {Q : Option Value → pmS → pmI → pmJ → pmP → Prop} (hG : sh_St S) (hP : gr_St P) (hd : 80 ≤ d) {x : Int64} (k : Q (some (.int (-5))) S (fun _ _ => 0) (fun _ _ => 0) P) : pm_Met l E yX9_name cX9_name 3 (some .int) d 0 0 [.ref 2, .long x] S (fun _ _ => 0) (fun _ _ => 0) P Q := by
  unfold pm_Met
  refine pm_lvs (lv' := [(0, _), (1, _)]) rfl ?_
  refine pw_aload_n dX9_name_0 rfl ?_
  refine pw_getR fX9_32 dX9_name_1 (sh_lt hG (by decide)) (sh_tg hG 0 rfl) rfl (gr_at hP 3 rfl) ?_
  refine pw_getR fX9_72 dX9_name_4 (sh_lt hG (by decide)) (sh_tg hG 13 rfl) rfl (gr_at hP 15 rfl) ?_
  refine pw_lload_n dX9_name_7 rfl ?_
  refine pw_callV (as := [_]) (kc' := 0) (ks' := 0) lX9_138 dX9_name_8 rfl rfl (sh_lt hG (by decide)) (sh_tg hG 14 rfl) (Nat.le_of_ble_eq_true rfl) (by omega) (Nat.le_of_ble_eq_true rfl) (Nat.zero_le _) (Nat.zero_le _) ?_
  refine c_X2_find (n := 0) hG hP (by decide) (by decide) (fun j hj _ _ => absurd hj (Nat.not_lt_zero j)) (fun _ => ?_)
  exact pw_iret dX9_name_11 rfl (k)

set_option maxRecDepth 20000 in
set_option maxHeartbeats 4000000 in
theorem f_X9_count {l : Launch} {E : pmE} {d : Nat} {S : pmS} {P : pmP} {Q : Option Value → pmS → pmI → pmJ → pmP → Prop} (hG : sh_St S) (hP : gr_St P) (hd : 80 ≤ d) {x : Int32} (h : x.toInt < 0 ∨ 6 < x.toInt) (k : Q (some (.int (-2))) S (fun _ _ => 0) (fun _ _ => 0) P) : pm_Met l E yX9_count cX9_count 2 (some .int) d 0 0 [.ref 2, .int x] S (fun _ _ => 0) (fun _ _ => 0) P Q := by
  unfold pm_Met
  refine pm_lvs (lv' := [(0, _), (1, _)]) rfl ?_
  refine pw_iload_n dX9_count_0 rfl ?_
  refine pw_tableOut (tgt := 114) dX9_count_1 h (by decide) ?_
  refine pw_bipush (v := -2) dX9_count_114 (by decide) ?_
  exact pw_iret dX9_count_116 rfl (k)

set_option maxRecDepth 20000 in
set_option maxHeartbeats 4000000 in
theorem f_X10_thrown {l : Launch} {E : pmE} {d : Nat} {S : pmS} {P : pmP} {Q : Option Value → pmS → pmI → pmJ → pmP → Prop} (hG : sh_St S) (hP : gr_St P) (hd : 80 ≤ d) {x : Int32} (k : ∀ I', Q (some (.int (p1_th x))) S I' (fun _ _ => 0) P) : pm_Met l E yX10_thrown_ cX10_thrown_ 2 (some .int) d 0 0 [.ref 47, .int x] S (fun _ _ => 0) (fun _ _ => 0) P Q := by
  unfold pm_Met
  refine pm_lvs (lv' := [(0, _), (1, _)]) rfl ?_
  refine pw_iload_n dX10_thrown__0 rfl ?_
  refine pw_iconst (v := nI 0) dX10_thrown__1 (by decide) ?_
  refine pw_iconst (v := nI 4) dX10_thrown__2 (by decide) ?_
  refine pw_callS (as := [_, _, _]) (kc' := 0) (ks' := 0) lX10_160 dX10_thrown__3 rfl rfl (Nat.le_of_ble_eq_true rfl) (by omega) (Nat.le_of_ble_eq_true rfl) (Nat.zero_le _) (Nat.zero_le _) ?_
  refine c_X10_in (fun hi1 hi2 => ?_) (fun hi => ?_)
  · obtain ⟨j, hj, rfl⟩ : ∃ j, j < 5 ∧ x = nI j := by
      rcases pk_ix x (n := 5) (by decide) with h | h | h
      · exact absurd (by rw [nI_0]; exact h) hi1
      · exact absurd (pm_lt45 h) hi2
      · exact h
    refine pw_if_eq (tgt := 18) dX10_thrown__6 (by decide) (fun h => absurd h (by decide)) (fun h6 => ?_)
    refine pw_aload_n dX10_thrown__9 rfl ?_
    refine pw_getR fX10_96 dX10_thrown__10 (sh_lt hG (by decide)) (sh_tg hG 45 rfl) rfl (gr_at hP 68 rfl) ?_
    refine pw_iload_n dX10_thrown__13 rfl ?_
    refine pw_ialdN _ dX10_thrown__14 (sh_lt hG (by decide)) (sh_sh hG 74 rfl) (by decide) (rfl) (by omega) ?_
    refine pw_goto (tgt := 20) dX10_thrown__15 (by decide) ?_
    exact pw_iret dX10_thrown__20 rfl (by have k := k (fun _ _ => 0); rw [p1_th1 (nI_pos (by omega)) (nI_ge hj (by decide))] at k; exact k)
  · refine pw_if_eq (tgt := 18) dX10_thrown__6 (by decide) (fun h6 => ?_) (fun h => absurd (nI_0) h)
    refine pw_bipush (v := -2) dX10_thrown__18 (by decide) ?_
    exact pw_iret dX10_thrown__20 rfl (by have k := k (fun _ _ => 0); rw [p1_th0 (hi.imp (fun h => by rw [nI_0] at h; exact h) pm_le45)] at k; exact k)
set_option maxRecDepth 20000 in
set_option maxHeartbeats 4000000 in
theorem f_X10_kind {l : Launch} {E : pmE} {d : Nat} {S : pmS} {P : pmP} {Q : Option Value → pmS → pmI → pmJ → pmP → Prop} (hG : sh_St S) (hP : gr_St P) (hd : 80 ≤ d) {x : Int32} (k : ∀ I', Q (some (.int (-1))) S I' (fun _ _ => 0) P) : pm_Met l E yX10_kind cX10_kind 2 (some .int) d 0 0 [.ref 47, .int x] S (fun _ _ => 0) (fun _ _ => 0) P Q := by
  unfold pm_Met
  refine pm_lvs (lv' := [(0, _), (1, _)]) rfl ?_
  refine pw_aload_n dX10_kind_0 rfl ?_
  refine pw_iconst (v := nI 0) dX10_kind_1 (by decide) ?_
  refine pw_putI fX10_154 dX10_kind_2 (Or.inl rfl) (by decide) (sh_lt hG (by decide)) (sh_tg hG 45 rfl) rfl ?_
  refine pw_iload_n dX10_kind_5 rfl ?_
  refine pw_iconst (v := nI 1) dX10_kind_6 (by decide) ?_
  refine pw_aload_n dX10_kind_7 rfl ?_
  refine pw_getI fX10_305 dX10_kind_8 (sh_lt hG (by decide)) (sh_tg hG 45 rfl) rfl ?_
  refine pw_callS (as := [_, _, _]) (kc' := 0) (ks' := 0) lX10_160 dX10_kind_11 rfl rfl (Nat.le_of_ble_eq_true rfl) (by omega) (Nat.le_of_ble_eq_true rfl) (Nat.zero_le _) (Nat.zero_le _) ?_
  refine c_X10_in (fun hi1 hi2 => (p1_in (by decide) hi1 hi2).elim) (fun _ => ?_)
  refine pw_if_eq (tgt := 26) dX10_kind_14 (by decide) (fun h14 => ?_) (fun h => absurd (nI_0) h)
  refine pw_iconst (v := -1) dX10_kind_26 (by decide) ?_
  exact pw_iret dX10_kind_27 rfl (k _)

set_option maxRecDepth 20000 in
set_option maxHeartbeats 4000000 in
theorem f_X10_thing {l : Launch} {E : pmE} {d : Nat} {S : pmS} {P : pmP} {Q : Option Value → pmS → pmI → pmJ → pmP → Prop} (hG : sh_St S) (hP : gr_St P) (hd : 80 ≤ d) {x z : Int32} (k : ∀ I', Q (some (.int (-1))) S I' (fun _ _ => 0) P) : pm_Met l E yX10_thing cX10_thing 5 (some .int) d 0 0 [.ref 47, .int x, .int z] S (fun _ _ => 0) (fun _ _ => 0) P Q := by
  unfold pm_Met
  refine pm_lvs (lv' := [(0, _), (1, _), (2, _)]) rfl ?_
  refine pw_aload_n dX10_thing_0 rfl ?_
  refine pw_iconst (v := nI 0) dX10_thing_1 (by decide) ?_
  refine pw_putI fX10_154 dX10_thing_2 (Or.inl rfl) (by decide) (sh_lt hG (by decide)) (sh_tg hG 45 rfl) rfl ?_
  refine pw_iload_n dX10_thing_5 rfl ?_
  refine pw_iconst (v := nI 1) dX10_thing_6 (by decide) ?_
  refine pw_aload_n dX10_thing_7 rfl ?_
  refine pw_getI fX10_305 dX10_thing_8 (sh_lt hG (by decide)) (sh_tg hG 45 rfl) rfl ?_
  refine pw_callS (as := [_, _, _]) (kc' := 0) (ks' := 0) lX10_160 dX10_thing_11 rfl rfl (Nat.le_of_ble_eq_true rfl) (by omega) (Nat.le_of_ble_eq_true rfl) (Nat.zero_le _) (Nat.zero_le _) ?_
  refine c_X10_in (fun hi1 hi2 => (p1_in (by decide) hi1 hi2).elim) (fun _ => ?_)
  refine pw_if_eq (tgt := 27) dX10_thing_14 (by decide) (fun h14 => ?_) (fun h => absurd (nI_0) h)
  refine pw_iconst (v := -1) dX10_thing_27 (by decide) ?_
  exact pw_iret dX10_thing_28 rfl (k _)

set_option maxRecDepth 20000 in
set_option maxHeartbeats 4000000 in
theorem f_X10_letter {l : Launch} {E : pmE} {d : Nat} {S : pmS} {P : pmP} {Q : Option Value → pmS → pmI → pmJ → pmP → Prop} (hG : sh_St S) (hP : gr_St P) (hd : 80 ≤ d) {x z : Int32} (k : ∀ I', Q (some (.int (-1))) S I' (fun _ _ => 0) P) : pm_Met l E yX10_letter cX10_letter 5 (some .int) d 0 0 [.ref 47, .int x, .int z] S (fun _ _ => 0) (fun _ _ => 0) P Q := by
  unfold pm_Met
  refine pm_lvs (lv' := [(0, _), (1, _), (2, _)]) rfl ?_
  refine pw_aload_n dX10_letter_0 rfl ?_
  refine pw_iconst (v := nI 0) dX10_letter_1 (by decide) ?_
  refine pw_putI fX10_154 dX10_letter_2 (Or.inl rfl) (by decide) (sh_lt hG (by decide)) (sh_tg hG 45 rfl) rfl ?_
  refine pw_aload_n dX10_letter_5 rfl ?_
  refine pw_iload_n dX10_letter_6 rfl ?_
  refine pw_callV (as := [_]) (kc' := 0) (ks' := 0) lX10_360 dX10_letter_7 rfl rfl (sh_lt hG (by decide)) (sh_tg hG 45 rfl) (Nat.le_of_ble_eq_true rfl) (by omega) (Nat.le_of_ble_eq_true rfl) (Nat.zero_le _) (Nat.zero_le _) ?_
  refine c_X10_isName (n := 0) hG hP (by omega) (by decide) (by decide) (fun j hj _ => absurd hj (Nat.not_lt_zero j)) (fun _ => ?_)
  refine pw_if_ne (tgt := 15) dX10_letter_10 (by decide) (fun h => absurd (nI_0) h) (fun h10 => ?_)
  refine pw_iconst (v := -1) dX10_letter_13 (by decide) ?_
  exact pw_iret dX10_letter_14 rfl (k _)

set_option maxRecDepth 20000 in
set_option maxHeartbeats 4000000 in
theorem f_X10_user {l : Launch} {E : pmE} {d : Nat} {S : pmS} {P : pmP} {Q : Option Value → pmS → pmI → pmJ → pmP → Prop} (hG : sh_St S) (hP : gr_St P) (hd : 80 ≤ d) {x z : Int32} (k : ∀ I', Q (some (.int (-1))) S I' (fun _ _ => 0) P) : pm_Met l E yX10_user cX10_user 7 (some .int) d 0 0 [.ref 47, .int x, .int z] S (fun _ _ => 0) (fun _ _ => 0) P Q := by
  unfold pm_Met
  refine pm_lvs (lv' := [(0, _), (1, _), (2, _)]) rfl ?_
  refine pw_aload_n dX10_user_0 rfl ?_
  refine pw_iconst (v := nI 0) dX10_user_1 (by decide) ?_
  refine pw_putI fX10_154 dX10_user_2 (Or.inl rfl) (by decide) (sh_lt hG (by decide)) (sh_tg hG 45 rfl) rfl ?_
  refine pw_aload_n dX10_user_5 rfl ?_
  refine pw_iload_n dX10_user_6 rfl ?_
  refine pw_callV (as := [_]) (kc' := 0) (ks' := 0) lX10_360 dX10_user_7 rfl rfl (sh_lt hG (by decide)) (sh_tg hG 45 rfl) (Nat.le_of_ble_eq_true rfl) (by omega) (Nat.le_of_ble_eq_true rfl) (Nat.zero_le _) (Nat.zero_le _) ?_
  refine c_X10_isName (n := 0) hG hP (by omega) (by decide) (by decide) (fun j hj _ => absurd hj (Nat.not_lt_zero j)) (fun _ => ?_)
  refine pw_if_ne (tgt := 15) dX10_user_10 (by decide) (fun h => absurd (nI_0) h) (fun h10 => ?_)
  refine pw_iconst (v := -1) dX10_user_13 (by decide) ?_
  exact pw_iret dX10_user_14 rfl (k _)

set_option maxRecDepth 20000 in
set_option maxHeartbeats 4000000 in
theorem f_X10_what {l : Launch} {E : pmE} {d : Nat} {S : pmS} {P : pmP} {Q : Option Value → pmS → pmI → pmJ → pmP → Prop} (hG : sh_St S) (hP : gr_St P) (hd : 80 ≤ d) {x : Int32} (k : ∀ I', Q (some (.int (-1))) S I' (fun _ _ => 0) P) : pm_Met l E yX10_what cX10_what 2 (some .int) d 0 0 [.ref 47, .int x] S (fun _ _ => 0) (fun _ _ => 0) P Q := by
  unfold pm_Met
  refine pm_lvs (lv' := [(0, _), (1, _)]) rfl ?_
  refine pw_aload_n dX10_what_0 rfl ?_
  refine pw_iconst (v := nI 0) dX10_what_1 (by decide) ?_
  refine pw_putI fX10_154 dX10_what_2 (Or.inl rfl) (by decide) (sh_lt hG (by decide)) (sh_tg hG 45 rfl) rfl ?_
  refine pw_aload_n dX10_what_5 rfl ?_
  refine pw_iload_n dX10_what_6 rfl ?_
  refine pw_callV (as := [_]) (kc' := 0) (ks' := 0) lX10_360 dX10_what_7 rfl rfl (sh_lt hG (by decide)) (sh_tg hG 45 rfl) (Nat.le_of_ble_eq_true rfl) (by omega) (Nat.le_of_ble_eq_true rfl) (Nat.zero_le _) (Nat.zero_le _) ?_
  refine c_X10_isName (n := 0) hG hP (by omega) (by decide) (by decide) (fun j hj _ => absurd hj (Nat.not_lt_zero j)) (fun _ => ?_)
  refine pw_if_eq (tgt := 22) dX10_what_10 (by decide) (fun h10 => ?_) (fun h => absurd (nI_0) h)
  refine pw_iconst (v := -1) dX10_what_22 (by decide) ?_
  exact pw_iret dX10_what_23 rfl (k _)

set_option maxRecDepth 20000 in
set_option maxHeartbeats 4000000 in
theorem f_X10_by {l : Launch} {E : pmE} {d : Nat} {S : pmS} {P : pmP} {Q : Option Value → pmS → pmI → pmJ → pmP → Prop} (hG : sh_St S) (hP : gr_St P) (hd : 80 ≤ d) {x : Int32} (k : ∀ I', Q (some (.int (-1))) S I' (fun _ _ => 0) P) : pm_Met l E yX10_by cX10_by 2 (some .int) d 0 0 [.ref 47, .int x] S (fun _ _ => 0) (fun _ _ => 0) P Q := by
  unfold pm_Met
  refine pm_lvs (lv' := [(0, _), (1, _)]) rfl ?_
  refine pw_aload_n dX10_by_0 rfl ?_
  refine pw_iconst (v := nI 0) dX10_by_1 (by decide) ?_
  refine pw_putI fX10_154 dX10_by_2 (Or.inl rfl) (by decide) (sh_lt hG (by decide)) (sh_tg hG 45 rfl) rfl ?_
  refine pw_aload_n dX10_by_5 rfl ?_
  refine pw_iload_n dX10_by_6 rfl ?_
  refine pw_callV (as := [_]) (kc' := 0) (ks' := 0) lX10_360 dX10_by_7 rfl rfl (sh_lt hG (by decide)) (sh_tg hG 45 rfl) (Nat.le_of_ble_eq_true rfl) (by omega) (Nat.le_of_ble_eq_true rfl) (Nat.zero_le _) (Nat.zero_le _) ?_
  refine c_X10_isName (n := 0) hG hP (by omega) (by decide) (by decide) (fun j hj _ => absurd hj (Nat.not_lt_zero j)) (fun _ => ?_)
  refine pw_if_eq (tgt := 22) dX10_by_10 (by decide) (fun h10 => ?_) (fun h => absurd (nI_0) h)
  refine pw_iconst (v := -1) dX10_by_22 (by decide) ?_
  exact pw_iret dX10_by_23 rfl (k _)

set_option maxRecDepth 20000 in
set_option maxHeartbeats 4000000 in
theorem f_X10_edition {l : Launch} {E : pmE} {d : Nat} {S : pmS} {P : pmP} {Q : Option Value → pmS → pmI → pmJ → pmP → Prop} (hG : sh_St S) (hP : gr_St P) (hd : 80 ≤ d) {x : Int32} (k : ∀ I', Q (some (.int (-1))) S I' (fun _ _ => 0) P) : pm_Met l E yX10_edition cX10_edition 2 (some .int) d 0 0 [.ref 47, .int x] S (fun _ _ => 0) (fun _ _ => 0) P Q := by
  unfold pm_Met
  refine pm_lvs (lv' := [(0, _), (1, _)]) rfl ?_
  refine pw_aload_n dX10_edition_0 rfl ?_
  refine pw_iconst (v := nI 0) dX10_edition_1 (by decide) ?_
  refine pw_putI fX10_154 dX10_edition_2 (Or.inl rfl) (by decide) (sh_lt hG (by decide)) (sh_tg hG 45 rfl) rfl ?_
  refine pw_aload_n dX10_edition_5 rfl ?_
  refine pw_iload_n dX10_edition_6 rfl ?_
  refine pw_callV (as := [_]) (kc' := 0) (ks' := 0) lX10_360 dX10_edition_7 rfl rfl (sh_lt hG (by decide)) (sh_tg hG 45 rfl) (Nat.le_of_ble_eq_true rfl) (by omega) (Nat.le_of_ble_eq_true rfl) (Nat.zero_le _) (Nat.zero_le _) ?_
  refine c_X10_isName (n := 0) hG hP (by omega) (by decide) (by decide) (fun j hj _ => absurd hj (Nat.not_lt_zero j)) (fun _ => ?_)
  refine pw_if_eq (tgt := 22) dX10_edition_10 (by decide) (fun h10 => ?_) (fun h => absurd (nI_0) h)
  refine pw_iconst (v := -1) dX10_edition_22 (by decide) ?_
  exact pw_iret dX10_edition_23 rfl (k _)

set_option maxRecDepth 20000 in
set_option maxHeartbeats 4000000 in
theorem f_X10_state {l : Launch} {E : pmE} {d : Nat} {S : pmS} {P : pmP} {Q : Option Value → pmS → pmI → pmJ → pmP → Prop} (hG : sh_St S) (hP : gr_St P) (hd : 80 ≤ d) {x : Int32} (k : ∀ I', Q (some (.int (-1))) S I' (fun _ _ => 0) P) : pm_Met l E yX10_state cX10_state 6 (some .int) d 0 0 [.ref 47, .int x] S (fun _ _ => 0) (fun _ _ => 0) P Q := by
  unfold pm_Met
  refine pm_lvs (lv' := [(0, _), (1, _)]) rfl ?_
  refine pw_aload_n dX10_state_0 rfl ?_
  refine pw_iconst (v := nI 0) dX10_state_1 (by decide) ?_
  refine pw_putI fX10_154 dX10_state_2 (Or.inl rfl) (by decide) (sh_lt hG (by decide)) (sh_tg hG 45 rfl) rfl ?_
  refine pw_iload_n dX10_state_5 rfl ?_
  refine pw_iconst (v := nI 0) dX10_state_6 (by decide) ?_
  refine pw_aload_n dX10_state_7 rfl ?_
  refine pw_getI fX10_220 dX10_state_8 (sh_lt hG (by decide)) (sh_tg hG 45 rfl) rfl ?_
  refine pw_iconst (v := nI 1) dX10_state_11 (by decide) ?_
  refine pw_isub dX10_state_12 ?_
  refine pw_callS (as := [_, _, _]) (kc' := 0) (ks' := 0) lX10_160 dX10_state_13 rfl rfl (Nat.le_of_ble_eq_true rfl) (by omega) (Nat.le_of_ble_eq_true rfl) (Nat.zero_le _) (Nat.zero_le _) ?_
  refine c_X10_in (fun hi1 hi2 => (p1_in0 (by decide) hi1 hi2).elim) (fun _ => ?_)
  refine pw_if_ne (tgt := 21) dX10_state_16 (by decide) (fun h => absurd (nI_0) h) (fun h16 => ?_)
  refine pw_iconst (v := -1) dX10_state_19 (by decide) ?_
  exact pw_iret dX10_state_20 rfl (k _)

set_option maxRecDepth 20000 in
set_option maxHeartbeats 4000000 in
theorem f_X10_count {l : Launch} {E : pmE} {d : Nat} {S : pmS} {P : pmP} {Q : Option Value → pmS → pmI → pmJ → pmP → Prop} (hG : sh_St S) (hP : gr_St P) (hd : 80 ≤ d) {x : Int32} (h : x.toInt < 0 ∨ 6 < x.toInt) (k : ∀ I', Q (some (.int (-2))) S I' (fun _ _ => 0) P) : pm_Met l E yX10_count cX10_count 4 (some .int) d 0 0 [.ref 47, .int x] S (fun _ _ => 0) (fun _ _ => 0) P Q := by
  unfold pm_Met
  refine pm_lvs (lv' := [(0, _), (1, _)]) rfl ?_
  refine pw_aload_n dX10_count_0 rfl ?_
  refine pw_iconst (v := nI 0) dX10_count_1 (by decide) ?_
  refine pw_putI fX10_154 dX10_count_2 (Or.inl rfl) (by decide) (sh_lt hG (by decide)) (sh_tg hG 45 rfl) rfl ?_
  refine pw_iconst (v := nI 0) dX10_count_5 (by decide) ?_
  refine pw_istore_n (lv' := [(2, _), (0, _), (1, _)]) dX10_count_6 (by decide) rfl ?_
  refine pw_iload_n dX10_count_7 rfl ?_
  refine pw_tableOut (tgt := 162) dX10_count_8 h (by decide) ?_
  refine pw_bipush (v := -2) dX10_count_162 (by decide) ?_
  exact pw_iret dX10_count_164 rfl (k _)
