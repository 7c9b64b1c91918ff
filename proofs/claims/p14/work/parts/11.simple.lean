theorem pm_i32 (x : Int32) : -2147483648 ≤ x.toInt ∧ x.toInt < 2147483648 := ⟨Int32.le_toInt x, Int32.toInt_lt x⟩
theorem pm_predT {n : Nat} (hn : n < 2 ^ 30) : (nI n - nI 1).toInt = (n : Int) - 1 := pk_sub_toInt hn (by decide)
theorem pm_pred_lt {n : Nat} {x : Int32} (hn : n < 2 ^ 30) (h : nI n ≤ x) : nI n - nI 1 < x := by
  rw [Int32.lt_iff_toInt_lt, pm_predT hn]
  rw [Int32.le_iff_toInt_le, nI_toInt (by omega)] at h
  omega
theorem pm_pred_le {n : Nat} {x : Int32} (hn : n < 2 ^ 30) (h : nI n - nI 1 < x) : nI n ≤ x := by
  rw [Int32.lt_iff_toInt_lt, pm_predT hn] at h
  rw [Int32.le_iff_toInt_le, nI_toInt (by omega)]
  omega

set_option maxRecDepth 20000 in
set_option maxHeartbeats 4000000 in
theorem c_X2_has {l : Launch} {E : pmE} {d : Nat} {S : pmS} {I : pmI} {J : pmJ} {P : pmP} {Q : Option Value → pmS → pmI → pmJ → pmP → Prop} (hG : sh_St S) (hP : gr_St P) {x : Int32} {n : Nat} (hn : I 16 4 = nI n) (hn2 : n ≤ 40) (k1 : ∀ j, j < n → x = nI j → Q (some (.int (nI 1))) S I J P) (k0 : x < 0 ∨ nI n ≤ x → Q (some (.int (nI 0))) S I J P) : pm_Met l E yX2_has cX2_has 2 (some .boolean) d 0 0 [.ref 16, .int x] S I J P Q := by
  unfold pm_Met
  refine pm_lvs (lv' := [(0, _), (1, _)]) rfl ?_
  refine pw_iload_n dX2_has_0 rfl ?_
  refine pw_if_lt (tgt := 16) dX2_has_1 (by decide) (fun h1 => ?_) (fun h1 => ?_)
  · refine pw_iconst (v := nI 0) dX2_has_16 (by decide) ?_
    exact pw_zret dX2_has_17 rfl (by decide) (k0 (Or.inl h1))
  · refine pw_iload_n dX2_has_4 rfl ?_
    refine pw_aload_n dX2_has_5 rfl ?_
    refine pw_getI fX2_25 dX2_has_6 (sh_lt hG (by decide)) (sh_tg hG 14 rfl) rfl ?_
    refine pw_icmp_ge (tgt := 16) dX2_has_9 (by decide) (fun h9 => ?_) (fun h9 => ?_)
    · refine pw_iconst (v := nI 0) dX2_has_16 (by decide) ?_
      exact pw_zret dX2_has_17 rfl (by decide) (k0 (Or.inr (hn ▸ h9)))
    · refine pw_iconst (v := nI 1) dX2_has_12 (by decide) ?_
      refine pw_goto (tgt := 17) dX2_has_13 (by decide) ?_
      exact pw_zret dX2_has_17 rfl (by decide) (by rcases pk_ix x (n := n) (by omega) with h | h | ⟨j, hj, e⟩; exact absurd h h1; exact absurd (hn ▸ h) h9; exact k1 j hj e)

set_option maxRecDepth 20000 in
set_option maxHeartbeats 4000000 in
theorem c_X10_in {l : Launch} {E : pmE} {d : Nat} {S : pmS} {I : pmI} {J : pmJ} {P : pmP} {Q : Option Value → pmS → pmI → pmJ → pmP → Prop} {x a b : Int32} (k1 : ¬ x < a → ¬ b < x → Q (some (.int (nI 1))) S I J P) (k0 : x < a ∨ b < x → Q (some (.int (nI 0))) S I J P) : pm_Met l E yX10_in cX10_in 3 (some .boolean) d 0 0 [.int x, .int a, .int b] S I J P Q := by
  unfold pm_Met
  refine pm_lvs (lv' := [(0, _), (1, _), (2, _)]) rfl ?_
  refine pw_iload_n dX10_in_0 rfl ?_
  refine pw_iload_n dX10_in_1 rfl ?_
  refine pw_icmp_lt (tgt := 14) dX10_in_2 (by decide) (fun h2 => ?_) (fun h2 => ?_)
  · refine pw_iconst (v := nI 0) dX10_in_14 (by decide) ?_
    exact pw_zret dX10_in_15 rfl (by decide) (k0 (Or.inl h2))
  · refine pw_iload_n dX10_in_5 rfl ?_
    refine pw_iload_n dX10_in_6 rfl ?_
    refine pw_icmp_gt (tgt := 14) dX10_in_7 (by decide) (fun h7 => ?_) (fun h7 => ?_)
    · refine pw_iconst (v := nI 0) dX10_in_14 (by decide) ?_
      exact pw_zret dX10_in_15 rfl (by decide) (k0 (Or.inr h7))
    · refine pw_iconst (v := nI 1) dX10_in_10 (by decide) ?_
      refine pw_goto (tgt := 15) dX10_in_11 (by decide) ?_
      exact pw_zret dX10_in_15 rfl (by decide) (k1 h2 h7)

set_option maxRecDepth 20000 in
set_option maxHeartbeats 4000000 in
theorem c_X10_isName {l : Launch} {E : pmE} {d : Nat} {S : pmS} {I : pmI} {J : pmJ} {P : pmP} {Q : Option Value → pmS → pmI → pmJ → pmP → Prop} (hG : sh_St S) (hP : gr_St P) {x : Int32} {n : Nat} (hd : 1 ≤ d) (hn : I 47 3 = nI n) (hn2 : n ≤ 40) (k1 : ∀ j, j < n → x = nI j → Q (some (.int (nI 1))) S I J P) (k0 : x < 0 ∨ nI n ≤ x → Q (some (.int (nI 0))) S I J P) : pm_Met l E yX10_isName cX10_isName 2 (some .boolean) d 0 0 [.ref 47, .int x] S I J P Q := by
  unfold pm_Met
  refine pm_lvs (lv' := [(0, _), (1, _)]) rfl ?_
  refine pw_iload_n dX10_isName_0 rfl ?_
  refine pw_iconst (v := nI 0) dX10_isName_1 (by decide) ?_
  refine pw_aload_n dX10_isName_2 rfl ?_
  refine pw_getI fX10_273 dX10_isName_3 (sh_lt hG (by decide)) (sh_tg hG 45 rfl) rfl ?_
  refine pw_iconst (v := nI 1) dX10_isName_6 (by decide) ?_
  refine pw_isub dX10_isName_7 ?_
  refine pw_callS (as := [_, _, _]) (kc' := 0) (ks' := 0) lX10_160 dX10_isName_8 rfl rfl (Nat.le_of_ble_eq_true rfl) (by omega) (Nat.le_of_ble_eq_true rfl) (Nat.zero_le _) (Nat.zero_le _) ?_
  refine c_X10_in (fun hi1 hi2 => ?_) (fun hi => ?_)
  · refine pw_zret dX10_isName_11 rfl (by decide) ?_
    rcases pk_ix x (n := n) (by omega) with h | h | ⟨j, hj, e⟩
    · exact absurd (by rw [nI_0]; exact h) hi1
    · refine absurd ?_ hi2
      rw [hn]
      exact pm_pred_lt (by omega) h
    · exact k1 j hj e
  · refine pw_zret dX10_isName_11 rfl (by decide) (k0 ?_)
    rcases hi with h | h
    · exact Or.inl (by rw [nI_0] at h; exact h)
    · rw [hn] at h
      exact Or.inr (pm_pred_le (by omega) h)

set_option maxRecDepth 20000 in
set_option maxHeartbeats 4000000 in
theorem c_X4_hasResult {l : Launch} {E : pmE} {d : Nat} {S : pmS} {I : pmI} {J : pmJ} {P : pmP} {Q : Option Value → pmS → pmI → pmJ → pmP → Prop} (hG : sh_St S) (hP : gr_St P) {x : Int64} (k1 : ¬ x < 1 → ¬ (I 15 6).toInt64 < x → Q (some (.int (nI 1))) S I J P) (k0 : x < 1 ∨ (I 15 6).toInt64 < x → Q (some (.int (nI 0))) S I J P) : pm_Met l E yX4_hasResult cX4_hasResult 3 (some .boolean) d 0 0 [.ref 15, .long x] S I J P Q := by
  unfold pm_Met
  refine pm_lvs (lv' := [(0, _), (1, _)]) rfl ?_
  refine pw_lload_n dX4_hasResult_0 rfl ?_
  refine pw_lconst (v := 1) dX4_hasResult_1 (by decide) ?_
  refine pw_lif_lt (tgt := 20) dX4_hasResult_2 dX4_hasResult_3 (by decide) (fun h3 => ?_) (fun h3 => ?_)
  · refine pw_iconst (v := nI 0) dX4_hasResult_20 (by decide) ?_
    exact pw_zret dX4_hasResult_21 rfl (by decide) (k0 (Or.inl h3))
  · refine pw_lload_n dX4_hasResult_6 rfl ?_
    refine pw_aload_n dX4_hasResult_7 rfl ?_
    refine pw_getI fX4_53 dX4_hasResult_8 (sh_lt hG (by decide)) (sh_tg hG 13 rfl) rfl ?_
    refine pw_i2l dX4_hasResult_11 ?_
    refine pw_lif_gt (tgt := 20) dX4_hasResult_12 dX4_hasResult_13 (by decide) (fun h13 => ?_) (fun h13 => ?_)
    · refine pw_iconst (v := nI 0) dX4_hasResult_20 (by decide) ?_
      exact pw_zret dX4_hasResult_21 rfl (by decide) (k0 (Or.inr h13))
    · refine pw_iconst (v := nI 1) dX4_hasResult_16 (by decide) ?_
      refine pw_goto (tgt := 21) dX4_hasResult_17 (by decide) ?_
      exact pw_zret dX4_hasResult_21 rfl (by decide) (k1 h3 h13)

set_option maxRecDepth 20000 in
set_option maxHeartbeats 4000000 in
theorem c_X4_hasSnippet0 {l : Launch} {E : pmE} {d : Nat} {S : pmS} {I : pmI} {J : pmJ} {P : pmP} {Q : Option Value → pmS → pmI → pmJ → pmP → Prop} (hG : sh_St S) (hP : gr_St P) {x : Int32} (hx : x < 0 ∨ I 15 5 ≤ x) (k : Q (some (.int (nI 0))) S I J P) : pm_Met l E yX4_hasSnippet cX4_hasSnippet 2 (some .boolean) d 0 0 [.ref 15, .int x] S I J P Q := by
  unfold pm_Met
  refine pm_lvs (lv' := [(0, _), (1, _)]) rfl ?_
  refine pw_iload_n dX4_hasSnippet_0 rfl ?_
  refine pw_if_lt (tgt := 25) dX4_hasSnippet_1 (by decide) (fun h1 => ?_) (fun h1 => ?_)
  · refine pw_iconst (v := nI 0) dX4_hasSnippet_25 (by decide) ?_
    exact pw_zret dX4_hasSnippet_26 rfl (by decide) (k)
  · refine pw_iload_n dX4_hasSnippet_4 rfl ?_
    refine pw_aload_n dX4_hasSnippet_5 rfl ?_
    refine pw_getI fX4_49 dX4_hasSnippet_6 (sh_lt hG (by decide)) (sh_tg hG 13 rfl) rfl ?_
    refine pw_icmp_ge (tgt := 25) dX4_hasSnippet_9 (by decide) (fun h9 => ?_) (fun h => absurd (hx.resolve_left h1) h)
    refine pw_iconst (v := nI 0) dX4_hasSnippet_25 (by decide) ?_
    exact pw_zret dX4_hasSnippet_26 rfl (by decide) (k)

set_option maxRecDepth 20000 in
set_option maxHeartbeats 4000000 in
theorem c_X1_reported {l : Launch} {E : pmE} {d : Nat} {S : pmS} {I : pmI} {J : pmJ} {P : pmP} {Q : Option Value → pmS → pmI → pmJ → pmP → Prop} (hG : sh_St S) (hP : gr_St P) {j : Nat} (hj : j < 5) (k : Q (some (.int (I 41 j))) S I J P) : pm_Met l E yX1_reported cX1_reported 2 (some .int) d 0 0 [.ref 34, .int (nI j)] S I J P Q := by
  unfold pm_Met
  refine pm_lvs (lv' := [(0, _), (1, _)]) rfl ?_
  refine pw_iload_n dX1_reported_0 rfl ?_
  refine pw_ifN_lt _ (tgt := 18) dX1_reported_1 (by decide) (rfl) (by omega) (fun h1 => absurd h1 (by omega)) (fun h1 => ?_)
  refine pw_iload_n dX1_reported_4 rfl ?_
  refine pw_iconst (v := nI 5) dX1_reported_5 (by decide) ?_
  refine pw_icmpN_ge _ _ (tgt := 18) dX1_reported_6 (by decide) (rfl) (rfl) (by omega) (by omega) (fun h6 => absurd h6 (by omega)) (fun h6 => ?_)
  refine pw_aload_n dX1_reported_9 rfl ?_
  refine pw_getR fX1_31 dX1_reported_10 (sh_lt hG (by decide)) (sh_tg hG 32 rfl) rfl (gr_at hP 33 rfl) ?_
  refine pw_iload_n dX1_reported_13 rfl ?_
  refine pw_ialdN _ dX1_reported_14 (sh_lt hG (by decide)) (sh_sh hG 39 rfl) (by decide) (rfl) (by omega) ?_
  refine pw_goto (tgt := 19) dX1_reported_15 (by decide) ?_
  exact pw_iret dX1_reported_19 rfl (k)
