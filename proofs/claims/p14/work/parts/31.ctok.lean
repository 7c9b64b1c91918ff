theorem tk_word_ne (v : Int64) : tk_word v ≠ 0 := by
  unfold tk_word
  split
  · decide
  · split
    · decide
    · split <;> decide
theorem tk_word_lt (v : Int64) : tk_word v < 128 := by
  unfold tk_word
  split
  · decide
  · split
    · decide
    · split <;> decide

set_option maxRecDepth 20000 in
set_option maxHeartbeats 4000000 in
theorem c_X7_ab_lp {l : Launch} {E : pmE} {d : Nat} {S : pmS} {I : pmI} {J : pmJ} {P : pmP} {Q : Option Value → pmS → pmI → pmJ → pmP → Prop} (hG : sh_St S) (hP : gr_St P) {tx : Nat → Nat} {n : Nat} (hT : tX I 3 tx n) (hn : n ≤ 120) (hb : ∀ j, j < n → tx j < 128) {x : Int32} : ∀ (k p : Nat), p + k = n → Q (some (.int (nI (tk_ab tx k p)))) S I J P → pm_W l E yX7_afterBlanks cX7_afterBlanks 4 (some .int) d 0 0 2 [(3, .int (nI p)), (0, .ref 3), (1, .int x), (2, .int (nI n))] [] S I J P (pm_N E Q)
  | 0, p, hk, kk => by
    refine pw_iload_n dX7_afterBlanks_2 rfl ?_
    refine pw_iload_n dX7_afterBlanks_3 rfl ?_
    refine pw_icmpN_ge _ _ (tgt := 21) dX7_afterBlanks_4 (by decide) (rfl) (rfl) (by omega) (by omega) (fun h4 => ?_) (fun h4 => absurd h4 (by omega))
    refine pw_iload_n dX7_afterBlanks_21 rfl ?_
    exact pw_iret dX7_afterBlanks_22 rfl (kk)
  | k + 1, p, hk, kk => by
    refine pw_iload_n dX7_afterBlanks_2 rfl ?_
    refine pw_iload_n dX7_afterBlanks_3 rfl ?_
    refine pw_icmpN_ge _ _ (tgt := 21) dX7_afterBlanks_4 (by decide) (rfl) (rfl) (by omega) (by omega) (fun h4 => absurd h4 (by omega)) (fun h4 => ?_)
    refine pw_aload_n dX7_afterBlanks_7 rfl ?_
    refine pw_iload_n dX7_afterBlanks_8 rfl ?_
    refine pw_baldN p dX7_afterBlanks_9 (sh_lt hG (by decide)) (sh_sh hG 1 rfl) (by decide) (rfl) (by omega) ?_
    have hb1 := hb p (by omega)
    refine pw_ti (z := nI (tx p)) (hT p (by omega)) ?_
    refine pw_bipush (v := nI 32) dX7_afterBlanks_10 (by decide) ?_
    refine pw_icmpN_ne _ _ (tgt := 21) dX7_afterBlanks_12 (by decide) (rfl) (rfl) (by omega) (by omega) (fun h12 => ?_) (fun h12 => ?_)
    · refine pw_iload_n dX7_afterBlanks_21 rfl ?_
      exact pw_iret dX7_afterBlanks_22 rfl (by rw [tk_ab_f h12] at kk; exact kk)
    · refine pw_iinc (lv' := [(3, _), (0, _), (1, _), (2, _)]) dX7_afterBlanks_15 rfl (by decide) rfl ?_
      refine pw_goto (tgt := 2) dX7_afterBlanks_18 (by decide) ?_
      refine pw_sub [0, 1, 2, 3] rfl ?_
      rw [show nI p + Int32.ofInt 1 = nI (p + 1) from nI_1 p]
      exact c_X7_ab_lp hG hP hT hn hb k (p + 1) (by omega) (by rw [tk_ab_t h12] at kk; exact kk)
set_option maxRecDepth 20000 in
set_option maxHeartbeats 4000000 in
theorem c_X7_afterBlanks {l : Launch} {E : pmE} {d : Nat} {S : pmS} {I : pmI} {J : pmJ} {P : pmP} {Q : Option Value → pmS → pmI → pmJ → pmP → Prop} (hG : sh_St S) (hP : gr_St P) {tx : Nat → Nat} {n : Nat} (hT : tX I 3 tx n) (hn : n ≤ 120) (hb : ∀ j, j < n → tx j < 128) {p : Nat} (hp : p ≤ n) (kk : Q (some (.int (nI (tk_ab tx (n - p) p)))) S I J P) : pm_Met l E yX7_afterBlanks cX7_afterBlanks 4 (some .int) d 0 0 [.ref 3, .int (nI p), .int (nI n)] S I J P Q := by
  unfold pm_Met
  refine pm_lvs (lv' := [(0, _), (1, _), (2, _)]) rfl ?_
  refine pw_iload_n dX7_afterBlanks_0 rfl ?_
  refine pw_istore_n (lv' := [(3, _), (0, _), (1, _), (2, _)]) dX7_afterBlanks_1 (by decide) rfl ?_
  refine pw_sub [0, 1, 2, 3] rfl ?_
  exact c_X7_ab_lp hG hP hT hn hb (n - p) p (by omega) kk
set_option maxRecDepth 20000 in
set_option maxHeartbeats 4000000 in
theorem c_X7_put {l : Launch} {E : pmE} {d : Nat} {S : pmS} {I : pmI} {J : pmJ} {P : pmP} {Q : Option Value → pmS → pmI → pmJ → pmP → Prop} (hG : sh_St S) (hP : gr_St P) {c : Nat} (hc : I 4 3 = nI c) (hc2 : c < 62) {x z : Int32} {v : Int64} (k1 : ¬ x = 0 → Q none S (pm_u (pm_u (pm_u I 5 c x) 6 c z) 4 3 (nI (c + 1))) (pm_u J 7 c v) P) (k0 : x = 0 → Q none S (pm_u (pm_u I 5 c x) 6 c z) (pm_u J 7 c v) P) : pm_Met l E yX7_put cX7_put 5 none d 0 0 [.ref 4, .int x, .int z, .long v] S I J P Q := by
  unfold pm_Met
  refine pm_lvs (lv' := [(0, _), (1, _), (2, _), (3, _)]) rfl ?_
  refine pw_aload_n dX7_put_0 rfl ?_
  refine pw_getI fX7_20 dX7_put_1 (sh_lt hG (by decide)) (sh_tg hG 2 rfl) rfl ?_
  refine pw_aload_n dX7_put_4 rfl ?_
  refine pw_getR fX7_9 dX7_put_5 (sh_lt hG (by decide)) (sh_tg hG 2 rfl) rfl (gr_at hP 5 rfl) ?_
  refine pw_alen dX7_put_8 (sh_lt hG (by decide)) (sh_sh hG 3 rfl) (by decide) (by decide) ?_
  refine pw_icmpN_ge _ _ (tgt := 56) dX7_put_9 (by decide) (hc) (rfl) (by omega) (by omega) (fun h9 => absurd h9 (by omega)) (fun h9 => ?_)
  refine pw_aload_n dX7_put_12 rfl ?_
  refine pw_getR fX7_9 dX7_put_13 (sh_lt hG (by decide)) (sh_tg hG 2 rfl) rfl (gr_at hP 5 rfl) ?_
  refine pw_aload_n dX7_put_16 rfl ?_
  refine pw_getI fX7_20 dX7_put_17 (sh_lt hG (by decide)) (sh_tg hG 2 rfl) rfl ?_
  refine pw_iload_n dX7_put_20 rfl ?_
  refine pw_iastN c dX7_put_21 (by decide) (sh_lt hG (by decide)) (sh_sh hG 3 rfl) (by decide) (hc) (by omega) ?_
  refine pw_aload_n dX7_put_22 rfl ?_
  refine pw_getR fX7_13 dX7_put_23 (sh_lt hG (by decide)) (sh_tg hG 2 rfl) rfl (gr_at hP 6 rfl) ?_
  refine pw_aload_n dX7_put_26 rfl ?_
  refine pw_getI fX7_20 dX7_put_27 (sh_lt hG (by decide)) (sh_tg hG 2 rfl) rfl ?_
  refine pw_iload_n dX7_put_30 rfl ?_
  refine pw_iastN c dX7_put_31 (by decide) (sh_lt hG (by decide)) (sh_sh hG 4 rfl) (by decide) (by rw [pm_u_ne (by decide)]; exact hc) (by omega) ?_
  refine pw_aload_n dX7_put_32 rfl ?_
  refine pw_getR fX7_16 dX7_put_33 (sh_lt hG (by decide)) (sh_tg hG 2 rfl) rfl (gr_at hP 7 rfl) ?_
  refine pw_aload_n dX7_put_36 rfl ?_
  refine pw_getI fX7_20 dX7_put_37 (sh_lt hG (by decide)) (sh_tg hG 2 rfl) rfl ?_
  refine pw_lload_n dX7_put_40 rfl ?_
  refine pw_lastN c dX7_put_41 (by decide) (sh_lt hG (by decide)) (sh_sh hG 5 rfl) (by decide) (by rw [pm_u_ne (by decide), pm_u_ne (by decide)]; exact hc) (by omega) ?_
  refine pw_iload_n dX7_put_42 rfl ?_
  refine pw_if_eq (tgt := 56) dX7_put_43 (by decide) (fun h43 => ?_) (fun h43 => ?_)
  · exact pw_vret dX7_put_56 rfl (k0 h43)
  · refine pw_aload_n dX7_put_46 rfl ?_
    refine pw_dup dX7_put_47 rfl ?_
    refine pw_getI fX7_20 dX7_put_48 (sh_lt hG (by decide)) (sh_tg hG 2 rfl) rfl ?_
    refine pw_iconst (v := nI 1) dX7_put_51 (by decide) ?_
    refine pw_iadd dX7_put_52 ?_
    refine pw_ti (z := nI (c + 1)) (by rw [pm_u_ne (by decide), pm_u_ne (by decide), hc]; exact nI_add c 1) ?_
    refine pw_putI fX7_20 dX7_put_53 (Or.inl rfl) (by decide) (sh_lt hG (by decide)) (sh_tg hG 2 rfl) rfl ?_
    exact pw_vret dX7_put_56 rfl (k1 h43)

set_option maxRecDepth 20000 in
set_option maxHeartbeats 4000000 in
theorem c_X7_word {l : Launch} {E : pmE} {d : Nat} {S : pmS} {I : pmI} {J : pmJ} {P : pmP} {Q : Option Value → pmS → pmI → pmJ → pmP → Prop} (hG : sh_St S) (hP : gr_St P) {v : Int64} (k : Q (some (.int (nI (tk_word v)))) S I J P) : pm_Met l E yX7_wordKind cX7_wordKind 2 (some .int) d 0 0 [.long v] S I J P Q := by
  unfold pm_Met
  refine pm_lvs (lv' := [(0, _)]) rfl ?_
  refine pw_lload_n dX7_wordKind_0 rfl ?_
  refine pw_ldc2 dX7_wordKind_1 kX7_63 ?_
  refine pw_lif_ne (tgt := 11) dX7_wordKind_4 dX7_wordKind_5 (by decide) (fun h5 => ?_) (fun h5 => ?_)
  · refine pw_lload_n dX7_wordKind_11 rfl ?_
    refine pw_ldc2 dX7_wordKind_12 kX7_65 ?_
    refine pw_lif_ne (tgt := 22) dX7_wordKind_15 dX7_wordKind_16 (by decide) (fun h16 => ?_) (fun h16 => ?_)
    · refine pw_lload_n dX7_wordKind_22 rfl ?_
      refine pw_ldc2 dX7_wordKind_23 kX7_67 ?_
      refine pw_lif_ne (tgt := 35) dX7_wordKind_26 dX7_wordKind_27 (by decide) (fun h27 => ?_) (fun h27 => ?_)
      · refine pw_bipush (v := nI 97) dX7_wordKind_35 (by decide) ?_
        exact pw_iret dX7_wordKind_37 rfl (by unfold tk_word at k; rw [if_neg h5, if_neg h16, if_neg h27] at k; exact k)
      · refine pw_bipush (v := nI 116) dX7_wordKind_30 (by decide) ?_
        refine pw_goto (tgt := 37) dX7_wordKind_32 (by decide) ?_
        exact pw_iret dX7_wordKind_37 rfl (by unfold tk_word at k; rw [if_neg h5, if_neg h16, if_pos h27] at k; exact k)
    · refine pw_bipush (v := nI 100) dX7_wordKind_19 (by decide) ?_
      exact pw_iret dX7_wordKind_21 rfl (by unfold tk_word at k; rw [if_neg h5, if_pos h16] at k; exact k)
  · refine pw_bipush (v := nI 118) dX7_wordKind_8 (by decide) ?_
    exact pw_iret dX7_wordKind_10 rfl (by unfold tk_word at k; rw [if_pos h5] at k; exact k)

set_option maxRecDepth 20000 in
set_option maxHeartbeats 4000000 in
theorem c_X7_le_lp {l : Launch} {E : pmE} {d : Nat} {S : pmS} {I : pmI} {J : pmJ} {P : pmP} {Q : Option Value → pmS → pmI → pmJ → pmP → Prop} (hG : sh_St S) (hP : gr_St P) {tx : Nat → Nat} {n : Nat} (hT : tX I 3 tx n) (hn : n ≤ 120) (hd : 2 ≤ d) {x : Int32} : ∀ (k e : Nat) (v : Int64), e + k = n → (∀ j, j < n → tx j < 128) → pm_W l E yX7_cutLetters cX7_cutLetters 7 (some .int) d 0 0 41 [(5, .long (tk_lc tx k e v)), (4, .int (nI (tk_le tx k e))), (0, .ref 4), (1, .ref 3), (2, .int x), (3, .int (nI n))] [] S I J P (pm_N E Q) → pm_W l E yX7_cutLetters cX7_cutLetters 7 (some .int) d 0 0 6 [(5, .long v), (4, .int (nI e)), (0, .ref 4), (1, .ref 3), (2, .int x), (3, .int (nI n))] [] S I J P (pm_N E Q)
  | 0, e, v, hk, hb, kk => by
    refine pw_iload dX7_cutLetters_6 rfl ?_
    refine pw_iload_n dX7_cutLetters_8 rfl ?_
    refine pw_icmpN_ge _ _ (tgt := 41) dX7_cutLetters_9 (by decide) (rfl) (rfl) (by omega) (by omega) (fun h9 => ?_) (fun h9 => absurd h9 (by omega))
    exact kk
  | k + 1, e, v, hk, hb, kk => by
    have hb1 := hb e (by omega)
    refine pw_iload dX7_cutLetters_6 rfl ?_
    refine pw_iload_n dX7_cutLetters_8 rfl ?_
    refine pw_icmpN_ge _ _ (tgt := 41) dX7_cutLetters_9 (by decide) (rfl) (rfl) (by omega) (by omega) (fun h9 => absurd h9 (by omega)) (fun h9 => ?_)
    refine pw_aload_n dX7_cutLetters_12 rfl ?_
    refine pw_iload dX7_cutLetters_13 rfl ?_
    refine pw_baldN e dX7_cutLetters_15 (sh_lt hG (by decide)) (sh_sh hG 1 rfl) (by decide) (rfl) (by omega) ?_
    refine pw_ti (z := nI (tx e)) (hT e (by omega)) ?_
    refine pw_callS (as := [_]) (kc' := 0) (ks' := 0) lX7_35 dX7_cutLetters_16 rfl rfl (Nat.le_of_ble_eq_true rfl) (by omega) (Nat.le_of_ble_eq_true rfl) (Nat.zero_le _) (Nat.zero_le _) ?_
    unfold pm_Met
    refine pm_lvs (lv' := [(0, _)]) rfl ?_
    refine pw_iload_n dX7_isLetter_0 rfl ?_
    refine pw_bipush (v := nI 97) dX7_isLetter_1 (by decide) ?_
    refine pw_icmpN_lt _ _ (tgt := 16) dX7_isLetter_3 (by decide) (rfl) (rfl) (by omega) (by omega) (fun hX7_isLetter_3 => ?_) (fun hX7_isLetter_3 => ?_)
    · refine pw_iconst (v := nI 0) dX7_isLetter_16 (by decide) ?_
      refine pw_zret dX7_isLetter_17 rfl (by decide) ?_
      refine pw_if_eq (tgt := 41) dX7_cutLetters_19 (by decide) (fun h19 => ?_) (fun h => absurd (by decide) h)
      have hnl : ¬ (97 ≤ tx e ∧ tx e ≤ 122) := by omega
      rw [tk_le_f hnl, tk_lc_f hnl] at kk
      exact kk
    · refine pw_iload_n dX7_isLetter_6 rfl ?_
      refine pw_bipush (v := nI 122) dX7_isLetter_7 (by decide) ?_
      refine pw_icmpN_gt _ _ (tgt := 16) dX7_isLetter_9 (by decide) (rfl) (rfl) (by omega) (by omega) (fun hX7_isLetter_9 => ?_) (fun hX7_isLetter_9 => ?_)
      · refine pw_iconst (v := nI 0) dX7_isLetter_16 (by decide) ?_
        refine pw_zret dX7_isLetter_17 rfl (by decide) ?_
        refine pw_if_eq (tgt := 41) dX7_cutLetters_19 (by decide) (fun h19 => ?_) (fun h => absurd (by decide) h)
        have hnl : ¬ (97 ≤ tx e ∧ tx e ≤ 122) := by omega
        rw [tk_le_f hnl, tk_lc_f hnl] at kk
        exact kk
      · refine pw_iconst (v := nI 1) dX7_isLetter_12 (by decide) ?_
        refine pw_goto (tgt := 17) dX7_isLetter_13 (by decide) ?_
        refine pw_zret dX7_isLetter_17 rfl (by decide) ?_
        refine pw_if_eq (tgt := 41) dX7_cutLetters_19 (by decide) (fun h => absurd h (by decide)) (fun h19 => ?_)
        refine pw_lload dX7_cutLetters_22 rfl ?_
        refine pw_bipush (v := nI 8) dX7_cutLetters_24 (by decide) ?_
        refine pw_lshl dX7_cutLetters_26 ?_
        refine pw_aload_n dX7_cutLetters_27 rfl ?_
        refine pw_iload dX7_cutLetters_28 rfl ?_
        refine pw_baldN e dX7_cutLetters_30 (sh_lt hG (by decide)) (sh_sh hG 1 rfl) (by decide) (rfl) (by omega) ?_
        refine pw_ti (z := nI (tx e)) (hT e (by omega)) ?_
        refine pw_i2l dX7_cutLetters_31 ?_
        refine pw_lor dX7_cutLetters_32 ?_
        refine pw_lstore (lv' := [(5, _), (4, _), (0, _), (1, _), (2, _), (3, _)]) dX7_cutLetters_33 (by decide) rfl ?_
        refine pw_iinc (lv' := [(4, _), (5, _), (0, _), (1, _), (2, _), (3, _)]) dX7_cutLetters_35 rfl (by decide) rfl ?_
        refine pw_goto (tgt := 6) dX7_cutLetters_38 (by decide) ?_
        refine pw_sub [1, 0, 2, 3, 4, 5] rfl ?_
        have hl : 97 ≤ tx e ∧ tx e ≤ 122 := by omega
        rw [show nI e + Int32.ofInt 1 = nI (e + 1) from nI_1 e]
        rw [tk_le_t hl, tk_lc_t hl] at kk
        exact c_X7_le_lp hG hP hT hn hd k (e + 1) _ (by omega) hb kk
set_option maxRecDepth 20000 in
set_option maxHeartbeats 4000000 in
theorem c_X7_cutLetters {l : Launch} {E : pmE} {d : Nat} {S : pmS} {I : pmI} {J : pmJ} {P : pmP} {Q : Option Value → pmS → pmI → pmJ → pmP → Prop} (hG : sh_St S) (hP : gr_St P) {tx : Nat → Nat} {n : Nat} (hT : tX I 3 tx n) (hn : n ≤ 120) {c : Nat} (hc : I 4 3 = nI c) (hc2 : c < 62) (hd : 3 ≤ d) {p : Nat} (hp : p < n) (hb : ∀ j, j < n → tx j < 128) (hl : 97 ≤ tx p ∧ tx p ≤ 122) (k : Q (some (.int (nI (tk_end tx n p)))) S (pm_u (pm_u (pm_u I 5 c (nI (tk_kind tx n p))) 6 c (nI p)) 4 3 (nI (c + 1))) (pm_u J 7 c (tk_core tx n p)) P) : pm_Met l E yX7_cutLetters cX7_cutLetters 7 (some .int) d 0 0 [.ref 4, .ref 3, .int (nI p), .int (nI n)] S I J P Q := by
  unfold pm_Met
  refine pm_lvs (lv' := [(0, _), (1, _), (2, _), (3, _)]) rfl ?_
  have hle := tk_le_b tx (n - p) p
  unfold tk_end tk_kind tk_core at k
  rw [if_pos hl, if_pos hl, if_pos hl] at k
  refine pw_iload_n dX7_cutLetters_0 rfl ?_
  refine pw_istore (lv' := [(4, _), (0, _), (1, _), (2, _), (3, _)]) dX7_cutLetters_1 (by decide) rfl ?_
  refine pw_lconst (v := 0) dX7_cutLetters_3 (by decide) ?_
  refine pw_lstore (lv' := [(5, _), (4, _), (0, _), (1, _), (2, _), (3, _)]) dX7_cutLetters_4 (by decide) rfl ?_
  refine pw_sub [0, 1, 2, 3, 4, 5] rfl ?_
  refine c_X7_le_lp hG hP hT hn (by omega) (n - p) p 0 (by omega) hb ?_
  refine pw_aload_n dX7_cutLetters_41 rfl ?_
  refine pw_iload dX7_cutLetters_42 rfl ?_
  refine pw_iload_n dX7_cutLetters_44 rfl ?_
  refine pw_isub dX7_cutLetters_45 ?_
  refine pw_bipush (v := nI 8) dX7_cutLetters_46 (by decide) ?_
  refine pw_icmpN_le _ _ (tgt := 55) dX7_cutLetters_48 (by decide) (pk_sub (by omega)) (rfl) (by omega) (by omega) (fun h48 => ?_) (fun h48 => ?_)
  · refine pw_lload dX7_cutLetters_55 rfl ?_
    refine pw_callS (as := [_]) (kc' := 0) (ks' := 0) lX7_57 dX7_cutLetters_57 rfl rfl (Nat.le_of_ble_eq_true rfl) (by omega) (Nat.le_of_ble_eq_true rfl) (Nat.zero_le _) (Nat.zero_le _) ?_
    refine c_X7_word hG hP ?_
    refine pw_iload_n dX7_cutLetters_60 rfl ?_
    refine pw_lload dX7_cutLetters_61 rfl ?_
    refine pw_callV (as := [_, _, _]) (kc' := 0) (ks' := 0) lX7_31 dX7_cutLetters_63 rfl rfl (sh_lt hG (by decide)) (sh_tg hG 2 rfl) (Nat.le_of_ble_eq_true rfl) (by omega) (Nat.le_of_ble_eq_true rfl) (Nat.zero_le _) (Nat.zero_le _) ?_
    refine c_X7_put hG hP hc hc2 (fun hz => ?_) (fun hz => absurd hz (by have := tk_word_ne (tk_lc tx (n - p) p 0); rw [← nI_0]; exact fun h => this ((nI_eq (by have := tk_word_lt (tk_lc tx (n - p) p 0); omega) (by decide)).mp h)))
    refine pw_iload dX7_cutLetters_66 rfl ?_
    exact pw_iret dX7_cutLetters_68 rfl (by rw [if_neg (by omega)] at k; exact k)
  · refine pw_iconst (v := nI 1) dX7_cutLetters_51 (by decide) ?_
    refine pw_goto (tgt := 60) dX7_cutLetters_52 (by decide) ?_
    refine pw_iload_n dX7_cutLetters_60 rfl ?_
    refine pw_lload dX7_cutLetters_61 rfl ?_
    refine pw_callV (as := [_, _, _]) (kc' := 0) (ks' := 0) lX7_31 dX7_cutLetters_63 rfl rfl (sh_lt hG (by decide)) (sh_tg hG 2 rfl) (Nat.le_of_ble_eq_true rfl) (by omega) (Nat.le_of_ble_eq_true rfl) (Nat.zero_le _) (Nat.zero_le _) ?_
    refine c_X7_put hG hP hc hc2 (fun hz => ?_) (fun hz => absurd hz (by decide))
    refine pw_iload dX7_cutLetters_66 rfl ?_
    exact pw_iret dX7_cutLetters_68 rfl (by rw [if_pos (by omega)] at k; exact k)
set_option maxRecDepth 20000 in
set_option maxHeartbeats 4000000 in
theorem c_X7_de_lp {l : Launch} {E : pmE} {d : Nat} {S : pmS} {I : pmI} {J : pmJ} {P : pmP} {Q : Option Value → pmS → pmI → pmJ → pmP → Prop} (hG : sh_St S) (hP : gr_St P) {tx : Nat → Nat} {n : Nat} (hT : tX I 3 tx n) (hn : n ≤ 120) (hd : 2 ≤ d) {y2 y4 y5 y6 : Int32} : ∀ (k e : Nat) (v : Int64), e + k = n → (∀ j, j < n → tx j < 128) → pm_W l E yX7_cutDigits cX7_cutDigits 10 (some .int) d 0 0 77 [(8, .long (tk_dc tx k e v)), (7, .int (nI (tk_de tx k e))), (6, .int y6), (5, .int y5), (0, .ref 4), (1, .ref 3), (2, .int y2), (3, .int (nI n)), (4, .int y4)] [] S I J P (pm_N E Q) → pm_W l E yX7_cutDigits cX7_cutDigits 10 (some .int) d 0 0 38 [(8, .long v), (7, .int (nI e)), (6, .int y6), (5, .int y5), (0, .ref 4), (1, .ref 3), (2, .int y2), (3, .int (nI n)), (4, .int y4)] [] S I J P (pm_N E Q)
  | 0, e, v, hk, hb, kk => by
    refine pw_iload dX7_cutDigits_38 rfl ?_
    refine pw_iload_n dX7_cutDigits_40 rfl ?_
    refine pw_icmpN_ge _ _ (tgt := 77) dX7_cutDigits_41 (by decide) (rfl) (rfl) (by omega) (by omega) (fun h41 => ?_) (fun h41 => absurd h41 (by omega))
    exact kk
  | k + 1, e, v, hk, hb, kk => by
    have hb1 := hb e (by omega)
    refine pw_iload dX7_cutDigits_38 rfl ?_
    refine pw_iload_n dX7_cutDigits_40 rfl ?_
    refine pw_icmpN_ge _ _ (tgt := 77) dX7_cutDigits_41 (by decide) (rfl) (rfl) (by omega) (by omega) (fun h41 => absurd h41 (by omega)) (fun h41 => ?_)
    refine pw_aload_n dX7_cutDigits_44 rfl ?_
    refine pw_iload dX7_cutDigits_45 rfl ?_
    refine pw_baldN e dX7_cutDigits_47 (sh_lt hG (by decide)) (sh_sh hG 1 rfl) (by decide) (rfl) (by omega) ?_
    refine pw_ti (z := nI (tx e)) (hT e (by omega)) ?_
    refine pw_callS (as := [_]) (kc' := 0) (ks' := 0) lX7_42 dX7_cutDigits_48 rfl rfl (Nat.le_of_ble_eq_true rfl) (by omega) (Nat.le_of_ble_eq_true rfl) (Nat.zero_le _) (Nat.zero_le _) ?_
    unfold pm_Met
    refine pm_lvs (lv' := [(0, _)]) rfl ?_
    refine pw_iload_n dX7_isDigit_0 rfl ?_
    refine pw_bipush (v := nI 48) dX7_isDigit_1 (by decide) ?_
    refine pw_icmpN_lt _ _ (tgt := 16) dX7_isDigit_3 (by decide) (rfl) (rfl) (by omega) (by omega) (fun hX7_isDigit_3 => ?_) (fun hX7_isDigit_3 => ?_)
    · refine pw_iconst (v := nI 0) dX7_isDigit_16 (by decide) ?_
      refine pw_zret dX7_isDigit_17 rfl (by decide) ?_
      refine pw_if_eq (tgt := 77) dX7_cutDigits_51 (by decide) (fun h51 => ?_) (fun h => absurd (by decide) h)
      have hnl : ¬ (48 ≤ tx e ∧ tx e ≤ 57) := by omega
      rw [tk_de_f hnl, tk_dc_f hnl] at kk
      exact kk
    · refine pw_iload_n dX7_isDigit_6 rfl ?_
      refine pw_bipush (v := nI 57) dX7_isDigit_7 (by decide) ?_
      refine pw_icmpN_gt _ _ (tgt := 16) dX7_isDigit_9 (by decide) (rfl) (rfl) (by omega) (by omega) (fun hX7_isDigit_9 => ?_) (fun hX7_isDigit_9 => ?_)
      · refine pw_iconst (v := nI 0) dX7_isDigit_16 (by decide) ?_
        refine pw_zret dX7_isDigit_17 rfl (by decide) ?_
        refine pw_if_eq (tgt := 77) dX7_cutDigits_51 (by decide) (fun h51 => ?_) (fun h => absurd (by decide) h)
        have hnl : ¬ (48 ≤ tx e ∧ tx e ≤ 57) := by omega
        rw [tk_de_f hnl, tk_dc_f hnl] at kk
        exact kk
      · refine pw_iconst (v := nI 1) dX7_isDigit_12 (by decide) ?_
        refine pw_goto (tgt := 17) dX7_isDigit_13 (by decide) ?_
        refine pw_zret dX7_isDigit_17 rfl (by decide) ?_
        refine pw_if_eq (tgt := 77) dX7_cutDigits_51 (by decide) (fun h => absurd h (by decide)) (fun h51 => ?_)
        refine pw_lload dX7_cutDigits_54 rfl ?_
        refine pw_ldc2 dX7_cutDigits_56 kX7_61 ?_
        refine pw_lmul dX7_cutDigits_59 ?_
        refine pw_aload_n dX7_cutDigits_60 rfl ?_
        refine pw_iload dX7_cutDigits_61 rfl ?_
        refine pw_baldN e dX7_cutDigits_63 (sh_lt hG (by decide)) (sh_sh hG 1 rfl) (by decide) (rfl) (by omega) ?_
        refine pw_ti (z := nI (tx e)) (hT e (by omega)) ?_
        refine pw_bipush (v := nI 48) dX7_cutDigits_64 (by decide) ?_
        refine pw_isub dX7_cutDigits_66 ?_
        refine pw_i2l dX7_cutDigits_67 ?_
        refine pw_ladd dX7_cutDigits_68 ?_
        refine pw_lstore (lv' := [(8, _), (7, _), (6, _), (5, _), (0, _), (1, _), (2, _), (3, _), (4, _)]) dX7_cutDigits_69 (by decide) rfl ?_
        refine pw_iinc (lv' := [(7, _), (8, _), (6, _), (5, _), (0, _), (1, _), (2, _), (3, _), (4, _)]) dX7_cutDigits_71 rfl (by decide) rfl ?_
        refine pw_goto (tgt := 38) dX7_cutDigits_74 (by decide) ?_
        refine pw_sub [1, 0, 2, 3, 4, 5, 6, 7, 8] rfl ?_
        have hl : 48 ≤ tx e ∧ tx e ≤ 57 := by omega
        rw [show nI e + Int32.ofInt 1 = nI (e + 1) from nI_1 e]
        rw [tk_de_t hl, tk_dc_t hl] at kk
        exact c_X7_de_lp hG hP hT hn hd k (e + 1) _ (by omega) hb kk
set_option maxRecDepth 20000 in
set_option maxHeartbeats 4000000 in
theorem c_X7_cutNumber {l : Launch} {E : pmE} {d : Nat} {S : pmS} {I : pmI} {J : pmJ} {P : pmP} {Q : Option Value → pmS → pmI → pmJ → pmP → Prop} (hG : sh_St S) (hP : gr_St P) {tx : Nat → Nat} {n : Nat} (hT : tX I 3 tx n) (hn : n ≤ 120) {c : Nat} (hc : I 4 3 = nI c) (hc2 : c < 62) (hd : 3 ≤ d) {p : Nat} (hp : p < n) (hb : ∀ j, j < n → tx j < 128) (hnl : ¬ (97 ≤ tx p ∧ tx p ≤ 122)) (hl : 48 ≤ tx p ∧ tx p ≤ 57) (k : Q (some (.int (nI (tk_end tx n p)))) S (pm_u (pm_u (pm_u I 5 c (nI (tk_kind tx n p))) 6 c (nI p)) 4 3 (nI (c + 1))) (pm_u J 7 c (tk_core tx n p)) P) : pm_Met l E yX7_cutDigits cX7_cutDigits 10 (some .int) d 0 0 [.ref 4, .ref 3, .int (nI p), .int (nI n), .int (nI 48)] S I J P Q := by
  unfold pm_Met
  refine pm_lvs (lv' := [(0, _), (1, _), (2, _), (3, _), (4, _)]) rfl ?_
  unfold tk_end tk_kind tk_core at k
  rw [if_neg hnl, if_neg hnl, if_neg hnl, if_pos hl, if_pos hl, if_pos hl] at k
  have hle : p < tk_de tx (n - p) p ∧ tk_de tx (n - p) p ≤ n := by
    obtain ⟨k9, hk9⟩ : ∃ k9, n - p = k9 + 1 := ⟨n - p - 1, by omega⟩
    rw [hk9, tk_de_t hl]
    have := tk_de_b tx k9 (p + 1)
    omega
  refine pw_iload dX7_cutDigits_0 rfl ?_
  refine pw_bipush (v := nI 36) dX7_cutDigits_2 (by decide) ?_
  refine pw_icmp_ne (tgt := 13) dX7_cutDigits_4 (by decide) (fun h4 => ?_) (fun h => absurd h (by decide))
  refine pw_iload_n dX7_cutDigits_13 rfl ?_
  refine pw_istore (lv' := [(5, _), (0, _), (1, _), (2, _), (3, _), (4, _)]) dX7_cutDigits_14 (by decide) rfl ?_
  refine pw_iload dX7_cutDigits_16 rfl ?_
  refine pw_bipush (v := nI 36) dX7_cutDigits_18 (by decide) ?_
  refine pw_icmp_ne (tgt := 27) dX7_cutDigits_20 (by decide) (fun h20 => ?_) (fun h => absurd h (by decide))
  refine pw_bipush (v := nI 18) dX7_cutDigits_27 (by decide) ?_
  refine pw_istore (lv' := [(6, _), (5, _), (0, _), (1, _), (2, _), (3, _), (4, _)]) dX7_cutDigits_29 (by decide) rfl ?_
  refine pw_iload dX7_cutDigits_31 rfl ?_
  refine pw_istore (lv' := [(7, _), (6, _), (5, _), (0, _), (1, _), (2, _), (3, _), (4, _)]) dX7_cutDigits_33 (by decide) rfl ?_
  refine pw_lconst (v := 0) dX7_cutDigits_35 (by decide) ?_
  refine pw_lstore (lv' := [(8, _), (7, _), (6, _), (5, _), (0, _), (1, _), (2, _), (3, _), (4, _)]) dX7_cutDigits_36 (by decide) rfl ?_
  refine pw_sub [0, 1, 2, 3, 4, 5, 6, 7, 8] rfl ?_
  refine c_X7_de_lp hG hP hT hn (by omega) (n - (p)) (p) 0 (by omega) hb ?_
  refine pw_aload_n dX7_cutDigits_77 rfl ?_
  refine pw_iload dX7_cutDigits_78 rfl ?_
  refine pw_iload dX7_cutDigits_80 rfl ?_
  refine pw_icmpN_eq _ _ (tgt := 95) dX7_cutDigits_82 (by decide) (rfl) (rfl) (by omega) (by omega) (fun h82 => absurd h82 (by omega)) (fun h82 => ?_)
  refine pw_iload dX7_cutDigits_85 rfl ?_
  refine pw_iload dX7_cutDigits_87 rfl ?_
  refine pw_isub dX7_cutDigits_89 ?_
  refine pw_iload dX7_cutDigits_90 rfl ?_
  refine pw_icmpN_le _ _ (tgt := 99) dX7_cutDigits_92 (by decide) (pk_sub (by omega)) (rfl) (by omega) (by omega) (fun h92 => ?_) (fun h92 => ?_)
  · refine pw_iload dX7_cutDigits_99 rfl ?_
    refine pw_iload_n dX7_cutDigits_101 rfl ?_
    refine pw_lload dX7_cutDigits_102 rfl ?_
    refine pw_callV (as := [_, _, _]) (kc' := 0) (ks' := 0) lX7_31 dX7_cutDigits_104 rfl rfl (sh_lt hG (by decide)) (sh_tg hG 2 rfl) (Nat.le_of_ble_eq_true rfl) (by omega) (Nat.le_of_ble_eq_true rfl) (Nat.zero_le _) (Nat.zero_le _) ?_
    refine c_X7_put hG hP hc hc2 (fun hz => ?_) (fun hz => absurd hz (by decide))
    refine pw_iload dX7_cutDigits_107 rfl ?_
    exact pw_iret dX7_cutDigits_109 rfl (by rw [if_neg (by omega)] at k; exact k)
  · refine pw_iconst (v := nI 1) dX7_cutDigits_95 (by decide) ?_
    refine pw_goto (tgt := 101) dX7_cutDigits_96 (by decide) ?_
    refine pw_iload_n dX7_cutDigits_101 rfl ?_
    refine pw_lload dX7_cutDigits_102 rfl ?_
    refine pw_callV (as := [_, _, _]) (kc' := 0) (ks' := 0) lX7_31 dX7_cutDigits_104 rfl rfl (sh_lt hG (by decide)) (sh_tg hG 2 rfl) (Nat.le_of_ble_eq_true rfl) (by omega) (Nat.le_of_ble_eq_true rfl) (Nat.zero_le _) (Nat.zero_le _) ?_
    refine c_X7_put hG hP hc hc2 (fun hz => ?_) (fun hz => absurd hz (by decide))
    refine pw_iload dX7_cutDigits_107 rfl ?_
    exact pw_iret dX7_cutDigits_109 rfl (by rw [if_pos (by omega)] at k; exact k)
set_option maxRecDepth 20000 in
set_option maxHeartbeats 4000000 in
theorem c_X7_cutResult {l : Launch} {E : pmE} {d : Nat} {S : pmS} {I : pmI} {J : pmJ} {P : pmP} {Q : Option Value → pmS → pmI → pmJ → pmP → Prop} (hG : sh_St S) (hP : gr_St P) {tx : Nat → Nat} {n : Nat} (hT : tX I 3 tx n) (hn : n ≤ 120) {c : Nat} (hc : I 4 3 = nI c) (hc2 : c < 62) (hd : 3 ≤ d) {p : Nat} (hp : p < n) (hb : ∀ j, j < n → tx j < 128) (hnl : ¬ (97 ≤ tx p ∧ tx p ≤ 122)) (hnd : ¬ (48 ≤ tx p ∧ tx p ≤ 57)) (hl : tx p = 36) (k : Q (some (.int (nI (tk_end tx n p)))) S (pm_u (pm_u (pm_u I 5 c (nI (tk_kind tx n p))) 6 c (nI p)) 4 3 (nI (c + 1))) (pm_u J 7 c (tk_core tx n p)) P) : pm_Met l E yX7_cutDigits cX7_cutDigits 10 (some .int) d 0 0 [.ref 4, .ref 3, .int (nI p), .int (nI n), .int (nI 36)] S I J P Q := by
  unfold pm_Met
  refine pm_lvs (lv' := [(0, _), (1, _), (2, _), (3, _), (4, _)]) rfl ?_
  unfold tk_end tk_kind tk_core at k
  rw [if_neg hnl, if_neg hnl, if_neg hnl, if_neg hnd, if_neg hnd, if_neg hnd, if_pos hl, if_pos hl, if_pos hl] at k
  have hle := tk_de_b tx (n - (p + 1)) (p + 1)
  refine pw_iload dX7_cutDigits_0 rfl ?_
  refine pw_bipush (v := nI 36) dX7_cutDigits_2 (by decide) ?_
  refine pw_icmp_ne (tgt := 13) dX7_cutDigits_4 (by decide) (fun h => absurd (by decide) h) (fun h4 => ?_)
  refine pw_iload_n dX7_cutDigits_7 rfl ?_
  refine pw_iconst (v := nI 1) dX7_cutDigits_8 (by decide) ?_
  refine pw_iadd dX7_cutDigits_9 ?_
  refine pw_goto (tgt := 14) dX7_cutDigits_10 (by decide) ?_
  refine pw_ti (z := nI (p + 1)) (nI_add p 1) ?_
  refine pw_istore (lv' := [(5, _), (0, _), (1, _), (2, _), (3, _), (4, _)]) dX7_cutDigits_14 (by decide) rfl ?_
  refine pw_iload dX7_cutDigits_16 rfl ?_
  refine pw_bipush (v := nI 36) dX7_cutDigits_18 (by decide) ?_
  refine pw_icmp_ne (tgt := 27) dX7_cutDigits_20 (by decide) (fun h => absurd (by decide) h) (fun h20 => ?_)
  refine pw_iconst (v := nI 3) dX7_cutDigits_23 (by decide) ?_
  refine pw_goto (tgt := 29) dX7_cutDigits_24 (by decide) ?_
  refine pw_istore (lv' := [(6, _), (5, _), (0, _), (1, _), (2, _), (3, _), (4, _)]) dX7_cutDigits_29 (by decide) rfl ?_
  refine pw_iload dX7_cutDigits_31 rfl ?_
  refine pw_istore (lv' := [(7, _), (6, _), (5, _), (0, _), (1, _), (2, _), (3, _), (4, _)]) dX7_cutDigits_33 (by decide) rfl ?_
  refine pw_lconst (v := 0) dX7_cutDigits_35 (by decide) ?_
  refine pw_lstore (lv' := [(8, _), (7, _), (6, _), (5, _), (0, _), (1, _), (2, _), (3, _), (4, _)]) dX7_cutDigits_36 (by decide) rfl ?_
  refine pw_sub [0, 1, 2, 3, 4, 5, 6, 7, 8] rfl ?_
  refine c_X7_de_lp hG hP hT hn (by omega) (n - (p + 1)) (p + 1) 0 (by omega) hb ?_
  refine pw_aload_n dX7_cutDigits_77 rfl ?_
  refine pw_iload dX7_cutDigits_78 rfl ?_
  refine pw_iload dX7_cutDigits_80 rfl ?_
  refine pw_icmpN_eq _ _ (tgt := 95) dX7_cutDigits_82 (by decide) (rfl) (rfl) (by omega) (by omega) (fun h82 => ?_) (fun h82 => ?_)
  · refine pw_iconst (v := nI 1) dX7_cutDigits_95 (by decide) ?_
    refine pw_goto (tgt := 101) dX7_cutDigits_96 (by decide) ?_
    refine pw_iload_n dX7_cutDigits_101 rfl ?_
    refine pw_lload dX7_cutDigits_102 rfl ?_
    refine pw_callV (as := [_, _, _]) (kc' := 0) (ks' := 0) lX7_31 dX7_cutDigits_104 rfl rfl (sh_lt hG (by decide)) (sh_tg hG 2 rfl) (Nat.le_of_ble_eq_true rfl) (by omega) (Nat.le_of_ble_eq_true rfl) (Nat.zero_le _) (Nat.zero_le _) ?_
    refine c_X7_put hG hP hc hc2 (fun hz => ?_) (fun hz => absurd hz (by decide))
    refine pw_iload dX7_cutDigits_107 rfl ?_
    exact pw_iret dX7_cutDigits_109 rfl (by rw [if_pos (Or.inl h82)] at k; exact k)
  · refine pw_iload dX7_cutDigits_85 rfl ?_
    refine pw_iload dX7_cutDigits_87 rfl ?_
    refine pw_isub dX7_cutDigits_89 ?_
    refine pw_iload dX7_cutDigits_90 rfl ?_
    refine pw_icmpN_le _ _ (tgt := 99) dX7_cutDigits_92 (by decide) (pk_sub (by omega)) (rfl) (by omega) (by omega) (fun h92 => ?_) (fun h92 => ?_)
    · refine pw_iload dX7_cutDigits_99 rfl ?_
      refine pw_iload_n dX7_cutDigits_101 rfl ?_
      refine pw_lload dX7_cutDigits_102 rfl ?_
      refine pw_callV (as := [_, _, _]) (kc' := 0) (ks' := 0) lX7_31 dX7_cutDigits_104 rfl rfl (sh_lt hG (by decide)) (sh_tg hG 2 rfl) (Nat.le_of_ble_eq_true rfl) (by omega) (Nat.le_of_ble_eq_true rfl) (Nat.zero_le _) (Nat.zero_le _) ?_
      refine c_X7_put hG hP hc hc2 (fun hz => ?_) (fun hz => absurd hz (by decide))
      refine pw_iload dX7_cutDigits_107 rfl ?_
      exact pw_iret dX7_cutDigits_109 rfl (by rw [if_neg (by omega)] at k; exact k)
    · refine pw_iconst (v := nI 1) dX7_cutDigits_95 (by decide) ?_
      refine pw_goto (tgt := 101) dX7_cutDigits_96 (by decide) ?_
      refine pw_iload_n dX7_cutDigits_101 rfl ?_
      refine pw_lload dX7_cutDigits_102 rfl ?_
      refine pw_callV (as := [_, _, _]) (kc' := 0) (ks' := 0) lX7_31 dX7_cutDigits_104 rfl rfl (sh_lt hG (by decide)) (sh_tg hG 2 rfl) (Nat.le_of_ble_eq_true rfl) (by omega) (Nat.le_of_ble_eq_true rfl) (Nat.zero_le _) (Nat.zero_le _) ?_
      refine c_X7_put hG hP hc hc2 (fun hz => ?_) (fun hz => absurd hz (by decide))
      refine pw_iload dX7_cutDigits_107 rfl ?_
      exact pw_iret dX7_cutDigits_109 rfl (by rw [if_pos (Or.inr (by omega))] at k; exact k)
theorem sig_no {b : Nat} (hb : b < 128) (h : ∀ j, j < 13 → ¬ pm_lit.getD j 0 = nI b) : tk_sig b = false := by
  have h1 : ∀ b : Fin 128, tk_sig b.val = true → (List.range 13).any (fun j => decide (pm_lit.getD j 0 = nI b.val)) = true := by decide +kernel
  cases hs : tk_sig b with
  | false => rfl
  | true =>
    obtain ⟨j, hj, e⟩ := List.any_eq_true.mp (h1 ⟨b, hb⟩ hs)
    exact absurd (of_decide_eq_true e) (h j (List.mem_range.mp hj))
theorem sig_yes {b : Nat} (hb : b < 128) {j : Nat} (hj : j < 13) (h : pm_lit.getD j 0 = nI b) : tk_sig b = true := by
  have h1 : ∀ b : Fin 128, tk_sig b.val = false → (List.range 13).any (fun j => decide (pm_lit.getD j 0 = nI b.val)) = false := by decide +kernel
  cases hs : tk_sig b with
  | true => rfl
  | false =>
    have h2 := List.any_eq_false.mp (h1 ⟨b, hb⟩ hs) j (List.mem_range.mpr hj)
    exact absurd (decide_eq_true h) h2
set_option maxRecDepth 20000 in
set_option maxHeartbeats 4000000 in
theorem c_X7_cutOne {l : Launch} {E : pmE} {d : Nat} {S : pmS} {I : pmI} {J : pmJ} {P : pmP} {Q : Option Value → pmS → pmI → pmJ → pmP → Prop} (hG : sh_St S) (hP : gr_St P) {tx : Nat → Nat} {n : Nat} (hT : tX I 3 tx n) (hn : n ≤ 120) {c : Nat} (hc : I 4 3 = nI c) (hc2 : c ≤ 60) (hd : 20 ≤ d) {p : Nat} (hp : p < n) (hb : ∀ j, j < n → tx j < 128) (k0 : c = 60 → Q (some (.int (nI n))) S (pm_u (pm_u (pm_u I 5 c (nI (1))) 6 c (nI p)) 4 3 (nI (c + 1))) (pm_u J 7 c (0)) P) (k : c < 60 → Q (some (.int (nI (tk_end tx n p)))) S (pm_u (pm_u (pm_u I 5 c (nI (tk_kind tx n p))) 6 c (nI p)) 4 3 (nI (c + 1))) (pm_u J 7 c (tk_core tx n p)) P) : pm_Met l E yX7_cutOne cX7_cutOne 5 (some .int) d 0 0 [.ref 4, .ref 3, .int (nI p), .int (nI n)] S I J P Q := by
  unfold pm_Met
  refine pm_lvs (lv' := [(0, _), (1, _), (2, _), (3, _)]) rfl ?_
  have hb1 := hb p hp
  have hc3 : c < 62 := by omega
  refine pw_aload_n dX7_cutOne_0 rfl ?_
  refine pw_iload_n dX7_cutOne_1 rfl ?_
  refine pw_baldN p dX7_cutOne_2 (sh_lt hG (by decide)) (sh_sh hG 1 rfl) (by decide) (rfl) (by omega) ?_
  refine pw_ti (z := nI (tx p)) (hT p (by omega)) ?_
  refine pw_istore (lv' := [(4, _), (0, _), (1, _), (2, _), (3, _)]) dX7_cutOne_3 (by decide) rfl ?_
  refine pw_aload_n dX7_cutOne_5 rfl ?_
  refine pw_getI fX7_20 dX7_cutOne_6 (sh_lt hG (by decide)) (sh_tg hG 2 rfl) rfl ?_
  refine pw_bipush (v := nI 60) dX7_cutOne_9 (by decide) ?_
  refine pw_icmpN_lt _ _ (tgt := 23) dX7_cutOne_11 (by decide) (hc) (rfl) (by omega) (by omega) (fun h11 => ?_) (fun h11 => ?_)
  · refine pw_iload dX7_cutOne_23 rfl ?_
    refine pw_callS (as := [_]) (kc' := 0) (ks' := 0) lX7_35 dX7_cutOne_25 rfl rfl (Nat.le_of_ble_eq_true rfl) (by omega) (Nat.le_of_ble_eq_true rfl) (Nat.zero_le _) (Nat.zero_le _) ?_
    unfold pm_Met
    refine pm_lvs (lv' := [(0, _)]) rfl ?_
    refine pw_iload_n dX7_isLetter_0 rfl ?_
    refine pw_bipush (v := nI 97) dX7_isLetter_1 (by decide) ?_
    refine pw_icmpN_lt _ _ (tgt := 16) dX7_isLetter_3 (by decide) (rfl) (rfl) (by omega) (by omega) (fun hX7_isLetter_3 => ?_) (fun hX7_isLetter_3 => ?_)
    · refine pw_iconst (v := nI 0) dX7_isLetter_16 (by decide) ?_
      refine pw_zret dX7_isLetter_17 rfl (by decide) ?_
      refine pw_if_eq (tgt := 39) dX7_cutOne_28 (by decide) (fun h28 => ?_) (fun h => absurd (by decide) h)
      refine pw_iload dX7_cutOne_39 rfl ?_
      refine pw_callS (as := [_]) (kc' := 0) (ks' := 0) lX7_42 dX7_cutOne_41 rfl rfl (Nat.le_of_ble_eq_true rfl) (by omega) (Nat.le_of_ble_eq_true rfl) (Nat.zero_le _) (Nat.zero_le _) ?_
      unfold pm_Met
      refine pm_lvs (lv' := [(0, _)]) rfl ?_
      refine pw_iload_n dX7_isDigit_0 rfl ?_
      refine pw_bipush (v := nI 48) dX7_isDigit_1 (by decide) ?_
      refine pw_icmpN_lt _ _ (tgt := 16) dX7_isDigit_3 (by decide) (rfl) (rfl) (by omega) (by omega) (fun hX7_isDigit_3 => ?_) (fun hX7_isDigit_3 => ?_)
      · refine pw_iconst (v := nI 0) dX7_isDigit_16 (by decide) ?_
        refine pw_zret dX7_isDigit_17 rfl (by decide) ?_
        refine pw_if_eq (tgt := 57) dX7_cutOne_44 (by decide) (fun h44 => ?_) (fun h => absurd (by decide) h)
        refine pw_iload dX7_cutOne_57 rfl ?_
        refine pw_bipush (v := nI 36) dX7_cutOne_59 (by decide) ?_
        refine pw_icmpN_ne _ _ (tgt := 74) dX7_cutOne_61 (by decide) (rfl) (rfl) (by omega) (by omega) (fun h61 => ?_) (fun h61 => ?_)
        · refine pw_aload_n dX7_cutOne_74 rfl ?_
          refine pw_ixof hb1 (by omega) rfl (Nat.le_of_ble_eq_true rfl) (fun r hr => ?_)
          rcases hr with ⟨rfl, hno⟩ | ⟨j, hj, rfl, hy⟩
          · refine pw_if_lt (tgt := 91) dX7_cutOne_83 (by decide) (fun h83 => ?_) (fun h => absurd (by decide) h)
            refine pw_iconst (v := nI 1) dX7_cutOne_91 (by decide) ?_
            refine pw_iload_n dX7_cutOne_92 rfl ?_
            refine pw_lconst (v := 0) dX7_cutOne_93 (by decide) ?_
            refine pw_callV (as := [_, _, _]) (kc' := 0) (ks' := 0) lX7_31 dX7_cutOne_94 rfl rfl (sh_lt hG (by decide)) (sh_tg hG 2 rfl) (Nat.le_of_ble_eq_true rfl) (by omega) (Nat.le_of_ble_eq_true rfl) (Nat.zero_le _) (Nat.zero_le _) ?_
            refine c_X7_put hG hP hc hc3 (fun hz => ?_) (fun hz => absurd hz (by decide))
            refine pw_iload_n dX7_cutOne_97 rfl ?_
            refine pw_iconst (v := nI 1) dX7_cutOne_98 (by decide) ?_
            refine pw_iadd dX7_cutOne_99 ?_
            refine pw_ti (z := nI (p + 1)) (nI_add p 1) ?_
            exact pw_iret dX7_cutOne_100 rfl (by have k := k (by omega); unfold tk_end tk_kind tk_core at k; rw [if_neg (by omega : ¬ (97 ≤ tx p ∧ tx p ≤ 122)), if_neg (by omega : ¬ (97 ≤ tx p ∧ tx p ≤ 122)), if_neg (by omega : ¬ (97 ≤ tx p ∧ tx p ≤ 122)), if_neg (by omega : ¬ (48 ≤ tx p ∧ tx p ≤ 57)), if_neg (by omega : ¬ (48 ≤ tx p ∧ tx p ≤ 57)), if_neg (by omega : ¬ (48 ≤ tx p ∧ tx p ≤ 57)), if_neg h61, if_neg h61, if_neg h61, if_neg (by rw [sig_no hb1 hno]; decide)] at k; exact k)
          · have hnz : ¬ tx p = 0 := by
              intro e
              have := sig_yes hb1 hj hy
              rw [e] at this
              exact absurd this (by decide)
            refine pw_if_lt (tgt := 91) dX7_cutOne_83 (by decide) (fun h => absurd h (nI_pos (by omega))) (fun h83 => ?_)
            refine pw_iload dX7_cutOne_86 rfl ?_
            refine pw_goto (tgt := 92) dX7_cutOne_88 (by decide) ?_
            refine pw_iload_n dX7_cutOne_92 rfl ?_
            refine pw_lconst (v := 0) dX7_cutOne_93 (by decide) ?_
            refine pw_callV (as := [_, _, _]) (kc' := 0) (ks' := 0) lX7_31 dX7_cutOne_94 rfl rfl (sh_lt hG (by decide)) (sh_tg hG 2 rfl) (Nat.le_of_ble_eq_true rfl) (by omega) (Nat.le_of_ble_eq_true rfl) (Nat.zero_le _) (Nat.zero_le _) ?_
            refine c_X7_put hG hP hc hc3 (fun hz => ?_) (fun hz => absurd hz (by rw [← nI_0]; exact fun h => hnz ((nI_eq (by omega) (by decide)).mp h)))
            refine pw_iload_n dX7_cutOne_97 rfl ?_
            refine pw_iconst (v := nI 1) dX7_cutOne_98 (by decide) ?_
            refine pw_iadd dX7_cutOne_99 ?_
            refine pw_ti (z := nI (p + 1)) (nI_add p 1) ?_
            exact pw_iret dX7_cutOne_100 rfl (by have k := k (by omega); unfold tk_end tk_kind tk_core at k; rw [if_neg (by omega : ¬ (97 ≤ tx p ∧ tx p ≤ 122)), if_neg (by omega : ¬ (97 ≤ tx p ∧ tx p ≤ 122)), if_neg (by omega : ¬ (97 ≤ tx p ∧ tx p ≤ 122)), if_neg (by omega : ¬ (48 ≤ tx p ∧ tx p ≤ 57)), if_neg (by omega : ¬ (48 ≤ tx p ∧ tx p ≤ 57)), if_neg (by omega : ¬ (48 ≤ tx p ∧ tx p ≤ 57)), if_neg h61, if_neg h61, if_neg h61, if_pos (sig_yes hb1 hj hy)] at k; exact k)
        · refine pw_aload_n dX7_cutOne_64 rfl ?_
          refine pw_aload_n dX7_cutOne_65 rfl ?_
          refine pw_iload_n dX7_cutOne_66 rfl ?_
          refine pw_iload_n dX7_cutOne_67 rfl ?_
          refine pw_bipush (v := nI 36) dX7_cutOne_68 (by decide) ?_
          refine pw_callV (as := [_, _, _, _]) (kc' := 0) (ks' := 0) lX7_45 dX7_cutOne_70 rfl rfl (sh_lt hG (by decide)) (sh_tg hG 2 rfl) (Nat.le_of_ble_eq_true rfl) (by omega) (Nat.le_of_ble_eq_true rfl) (Nat.zero_le _) (Nat.zero_le _) ?_
          refine c_X7_cutResult hG hP hT hn hc hc3 (by omega) hp hb (by omega) (by omega) h61 ?_
          exact pw_iret dX7_cutOne_73 rfl (k (by omega))
      · refine pw_iload_n dX7_isDigit_6 rfl ?_
        refine pw_bipush (v := nI 57) dX7_isDigit_7 (by decide) ?_
        refine pw_icmpN_gt _ _ (tgt := 16) dX7_isDigit_9 (by decide) (rfl) (rfl) (by omega) (by omega) (fun hX7_isDigit_9 => ?_) (fun hX7_isDigit_9 => ?_)
        · refine pw_iconst (v := nI 0) dX7_isDigit_16 (by decide) ?_
          refine pw_zret dX7_isDigit_17 rfl (by decide) ?_
          refine pw_if_eq (tgt := 57) dX7_cutOne_44 (by decide) (fun h44 => ?_) (fun h => absurd (by decide) h)
          refine pw_iload dX7_cutOne_57 rfl ?_
          refine pw_bipush (v := nI 36) dX7_cutOne_59 (by decide) ?_
          refine pw_icmpN_ne _ _ (tgt := 74) dX7_cutOne_61 (by decide) (rfl) (rfl) (by omega) (by omega) (fun h61 => ?_) (fun h61 => ?_)
          · refine pw_aload_n dX7_cutOne_74 rfl ?_
            refine pw_ixof hb1 (by omega) rfl (Nat.le_of_ble_eq_true rfl) (fun r hr => ?_)
            rcases hr with ⟨rfl, hno⟩ | ⟨j, hj, rfl, hy⟩
            · refine pw_if_lt (tgt := 91) dX7_cutOne_83 (by decide) (fun h83 => ?_) (fun h => absurd (by decide) h)
              refine pw_iconst (v := nI 1) dX7_cutOne_91 (by decide) ?_
              refine pw_iload_n dX7_cutOne_92 rfl ?_
              refine pw_lconst (v := 0) dX7_cutOne_93 (by decide) ?_
              refine pw_callV (as := [_, _, _]) (kc' := 0) (ks' := 0) lX7_31 dX7_cutOne_94 rfl rfl (sh_lt hG (by decide)) (sh_tg hG 2 rfl) (Nat.le_of_ble_eq_true rfl) (by omega) (Nat.le_of_ble_eq_true rfl) (Nat.zero_le _) (Nat.zero_le _) ?_
              refine c_X7_put hG hP hc hc3 (fun hz => ?_) (fun hz => absurd hz (by decide))
              refine pw_iload_n dX7_cutOne_97 rfl ?_
              refine pw_iconst (v := nI 1) dX7_cutOne_98 (by decide) ?_
              refine pw_iadd dX7_cutOne_99 ?_
              refine pw_ti (z := nI (p + 1)) (nI_add p 1) ?_
              exact pw_iret dX7_cutOne_100 rfl (by have k := k (by omega); unfold tk_end tk_kind tk_core at k; rw [if_neg (by omega : ¬ (97 ≤ tx p ∧ tx p ≤ 122)), if_neg (by omega : ¬ (97 ≤ tx p ∧ tx p ≤ 122)), if_neg (by omega : ¬ (97 ≤ tx p ∧ tx p ≤ 122)), if_neg (by omega : ¬ (48 ≤ tx p ∧ tx p ≤ 57)), if_neg (by omega : ¬ (48 ≤ tx p ∧ tx p ≤ 57)), if_neg (by omega : ¬ (48 ≤ tx p ∧ tx p ≤ 57)), if_neg h61, if_neg h61, if_neg h61, if_neg (by rw [sig_no hb1 hno]; decide)] at k; exact k)
            · have hnz : ¬ tx p = 0 := by
                intro e
                have := sig_yes hb1 hj hy
                rw [e] at this
                exact absurd this (by decide)
              refine pw_if_lt (tgt := 91) dX7_cutOne_83 (by decide) (fun h => absurd h (nI_pos (by omega))) (fun h83 => ?_)
              refine pw_iload dX7_cutOne_86 rfl ?_
              refine pw_goto (tgt := 92) dX7_cutOne_88 (by decide) ?_
              refine pw_iload_n dX7_cutOne_92 rfl ?_
              refine pw_lconst (v := 0) dX7_cutOne_93 (by decide) ?_
              refine pw_callV (as := [_, _, _]) (kc' := 0) (ks' := 0) lX7_31 dX7_cutOne_94 rfl rfl (sh_lt hG (by decide)) (sh_tg hG 2 rfl) (Nat.le_of_ble_eq_true rfl) (by omega) (Nat.le_of_ble_eq_true rfl) (Nat.zero_le _) (Nat.zero_le _) ?_
              refine c_X7_put hG hP hc hc3 (fun hz => ?_) (fun hz => absurd hz (by rw [← nI_0]; exact fun h => hnz ((nI_eq (by omega) (by decide)).mp h)))
              refine pw_iload_n dX7_cutOne_97 rfl ?_
              refine pw_iconst (v := nI 1) dX7_cutOne_98 (by decide) ?_
              refine pw_iadd dX7_cutOne_99 ?_
              refine pw_ti (z := nI (p + 1)) (nI_add p 1) ?_
              exact pw_iret dX7_cutOne_100 rfl (by have k := k (by omega); unfold tk_end tk_kind tk_core at k; rw [if_neg (by omega : ¬ (97 ≤ tx p ∧ tx p ≤ 122)), if_neg (by omega : ¬ (97 ≤ tx p ∧ tx p ≤ 122)), if_neg (by omega : ¬ (97 ≤ tx p ∧ tx p ≤ 122)), if_neg (by omega : ¬ (48 ≤ tx p ∧ tx p ≤ 57)), if_neg (by omega : ¬ (48 ≤ tx p ∧ tx p ≤ 57)), if_neg (by omega : ¬ (48 ≤ tx p ∧ tx p ≤ 57)), if_neg h61, if_neg h61, if_neg h61, if_pos (sig_yes hb1 hj hy)] at k; exact k)
          · refine pw_aload_n dX7_cutOne_64 rfl ?_
            refine pw_aload_n dX7_cutOne_65 rfl ?_
            refine pw_iload_n dX7_cutOne_66 rfl ?_
            refine pw_iload_n dX7_cutOne_67 rfl ?_
            refine pw_bipush (v := nI 36) dX7_cutOne_68 (by decide) ?_
            refine pw_callV (as := [_, _, _, _]) (kc' := 0) (ks' := 0) lX7_45 dX7_cutOne_70 rfl rfl (sh_lt hG (by decide)) (sh_tg hG 2 rfl) (Nat.le_of_ble_eq_true rfl) (by omega) (Nat.le_of_ble_eq_true rfl) (Nat.zero_le _) (Nat.zero_le _) ?_
            refine c_X7_cutResult hG hP hT hn hc hc3 (by omega) hp hb (by omega) (by omega) h61 ?_
            exact pw_iret dX7_cutOne_73 rfl (k (by omega))
        · refine pw_iconst (v := nI 1) dX7_isDigit_12 (by decide) ?_
          refine pw_goto (tgt := 17) dX7_isDigit_13 (by decide) ?_
          refine pw_zret dX7_isDigit_17 rfl (by decide) ?_
          refine pw_if_eq (tgt := 57) dX7_cutOne_44 (by decide) (fun h => absurd h (by decide)) (fun h44 => ?_)
          refine pw_aload_n dX7_cutOne_47 rfl ?_
          refine pw_aload_n dX7_cutOne_48 rfl ?_
          refine pw_iload_n dX7_cutOne_49 rfl ?_
          refine pw_iload_n dX7_cutOne_50 rfl ?_
          refine pw_bipush (v := nI 48) dX7_cutOne_51 (by decide) ?_
          refine pw_callV (as := [_, _, _, _]) (kc' := 0) (ks' := 0) lX7_45 dX7_cutOne_53 rfl rfl (sh_lt hG (by decide)) (sh_tg hG 2 rfl) (Nat.le_of_ble_eq_true rfl) (by omega) (Nat.le_of_ble_eq_true rfl) (Nat.zero_le _) (Nat.zero_le _) ?_
          refine c_X7_cutNumber hG hP hT hn hc hc3 (by omega) hp hb (by omega) (by omega) ?_
          exact pw_iret dX7_cutOne_56 rfl (k (by omega))
    · refine pw_iload_n dX7_isLetter_6 rfl ?_
      refine pw_bipush (v := nI 122) dX7_isLetter_7 (by decide) ?_
      refine pw_icmpN_gt _ _ (tgt := 16) dX7_isLetter_9 (by decide) (rfl) (rfl) (by omega) (by omega) (fun hX7_isLetter_9 => ?_) (fun hX7_isLetter_9 => ?_)
      · refine pw_iconst (v := nI 0) dX7_isLetter_16 (by decide) ?_
        refine pw_zret dX7_isLetter_17 rfl (by decide) ?_
        refine pw_if_eq (tgt := 39) dX7_cutOne_28 (by decide) (fun h28 => ?_) (fun h => absurd (by decide) h)
        refine pw_iload dX7_cutOne_39 rfl ?_
        refine pw_callS (as := [_]) (kc' := 0) (ks' := 0) lX7_42 dX7_cutOne_41 rfl rfl (Nat.le_of_ble_eq_true rfl) (by omega) (Nat.le_of_ble_eq_true rfl) (Nat.zero_le _) (Nat.zero_le _) ?_
        unfold pm_Met
        refine pm_lvs (lv' := [(0, _)]) rfl ?_
        refine pw_iload_n dX7_isDigit_0 rfl ?_
        refine pw_bipush (v := nI 48) dX7_isDigit_1 (by decide) ?_
        refine pw_icmpN_lt _ _ (tgt := 16) dX7_isDigit_3 (by decide) (rfl) (rfl) (by omega) (by omega) (fun hX7_isDigit_3 => ?_) (fun hX7_isDigit_3 => ?_)
        · refine pw_iconst (v := nI 0) dX7_isDigit_16 (by decide) ?_
          refine pw_zret dX7_isDigit_17 rfl (by decide) ?_
          refine pw_if_eq (tgt := 57) dX7_cutOne_44 (by decide) (fun h44 => ?_) (fun h => absurd (by decide) h)
          refine pw_iload dX7_cutOne_57 rfl ?_
          refine pw_bipush (v := nI 36) dX7_cutOne_59 (by decide) ?_
          refine pw_icmpN_ne _ _ (tgt := 74) dX7_cutOne_61 (by decide) (rfl) (rfl) (by omega) (by omega) (fun h61 => ?_) (fun h61 => ?_)
          · refine pw_aload_n dX7_cutOne_74 rfl ?_
            refine pw_ixof hb1 (by omega) rfl (Nat.le_of_ble_eq_true rfl) (fun r hr => ?_)
            rcases hr with ⟨rfl, hno⟩ | ⟨j, hj, rfl, hy⟩
            · refine pw_if_lt (tgt := 91) dX7_cutOne_83 (by decide) (fun h83 => ?_) (fun h => absurd (by decide) h)
              refine pw_iconst (v := nI 1) dX7_cutOne_91 (by decide) ?_
              refine pw_iload_n dX7_cutOne_92 rfl ?_
              refine pw_lconst (v := 0) dX7_cutOne_93 (by decide) ?_
              refine pw_callV (as := [_, _, _]) (kc' := 0) (ks' := 0) lX7_31 dX7_cutOne_94 rfl rfl (sh_lt hG (by decide)) (sh_tg hG 2 rfl) (Nat.le_of_ble_eq_true rfl) (by omega) (Nat.le_of_ble_eq_true rfl) (Nat.zero_le _) (Nat.zero_le _) ?_
              refine c_X7_put hG hP hc hc3 (fun hz => ?_) (fun hz => absurd hz (by decide))
              refine pw_iload_n dX7_cutOne_97 rfl ?_
              refine pw_iconst (v := nI 1) dX7_cutOne_98 (by decide) ?_
              refine pw_iadd dX7_cutOne_99 ?_
              refine pw_ti (z := nI (p + 1)) (nI_add p 1) ?_
              exact pw_iret dX7_cutOne_100 rfl (by have k := k (by omega); unfold tk_end tk_kind tk_core at k; rw [if_neg (by omega : ¬ (97 ≤ tx p ∧ tx p ≤ 122)), if_neg (by omega : ¬ (97 ≤ tx p ∧ tx p ≤ 122)), if_neg (by omega : ¬ (97 ≤ tx p ∧ tx p ≤ 122)), if_neg (by omega : ¬ (48 ≤ tx p ∧ tx p ≤ 57)), if_neg (by omega : ¬ (48 ≤ tx p ∧ tx p ≤ 57)), if_neg (by omega : ¬ (48 ≤ tx p ∧ tx p ≤ 57)), if_neg h61, if_neg h61, if_neg h61, if_neg (by rw [sig_no hb1 hno]; decide)] at k; exact k)
            · have hnz : ¬ tx p = 0 := by
                intro e
                have := sig_yes hb1 hj hy
                rw [e] at this
                exact absurd this (by decide)
              refine pw_if_lt (tgt := 91) dX7_cutOne_83 (by decide) (fun h => absurd h (nI_pos (by omega))) (fun h83 => ?_)
              refine pw_iload dX7_cutOne_86 rfl ?_
              refine pw_goto (tgt := 92) dX7_cutOne_88 (by decide) ?_
              refine pw_iload_n dX7_cutOne_92 rfl ?_
              refine pw_lconst (v := 0) dX7_cutOne_93 (by decide) ?_
              refine pw_callV (as := [_, _, _]) (kc' := 0) (ks' := 0) lX7_31 dX7_cutOne_94 rfl rfl (sh_lt hG (by decide)) (sh_tg hG 2 rfl) (Nat.le_of_ble_eq_true rfl) (by omega) (Nat.le_of_ble_eq_true rfl) (Nat.zero_le _) (Nat.zero_le _) ?_
              refine c_X7_put hG hP hc hc3 (fun hz => ?_) (fun hz => absurd hz (by rw [← nI_0]; exact fun h => hnz ((nI_eq (by omega) (by decide)).mp h)))
              refine pw_iload_n dX7_cutOne_97 rfl ?_
              refine pw_iconst (v := nI 1) dX7_cutOne_98 (by decide) ?_
              refine pw_iadd dX7_cutOne_99 ?_
              refine pw_ti (z := nI (p + 1)) (nI_add p 1) ?_
              exact pw_iret dX7_cutOne_100 rfl (by have k := k (by omega); unfold tk_end tk_kind tk_core at k; rw [if_neg (by omega : ¬ (97 ≤ tx p ∧ tx p ≤ 122)), if_neg (by omega : ¬ (97 ≤ tx p ∧ tx p ≤ 122)), if_neg (by omega : ¬ (97 ≤ tx p ∧ tx p ≤ 122)), if_neg (by omega : ¬ (48 ≤ tx p ∧ tx p ≤ 57)), if_neg (by omega : ¬ (48 ≤ tx p ∧ tx p ≤ 57)), if_neg (by omega : ¬ (48 ≤ tx p ∧ tx p ≤ 57)), if_neg h61, if_neg h61, if_neg h61, if_pos (sig_yes hb1 hj hy)] at k; exact k)
          · refine pw_aload_n dX7_cutOne_64 rfl ?_
            refine pw_aload_n dX7_cutOne_65 rfl ?_
            refine pw_iload_n dX7_cutOne_66 rfl ?_
            refine pw_iload_n dX7_cutOne_67 rfl ?_
            refine pw_bipush (v := nI 36) dX7_cutOne_68 (by decide) ?_
            refine pw_callV (as := [_, _, _, _]) (kc' := 0) (ks' := 0) lX7_45 dX7_cutOne_70 rfl rfl (sh_lt hG (by decide)) (sh_tg hG 2 rfl) (Nat.le_of_ble_eq_true rfl) (by omega) (Nat.le_of_ble_eq_true rfl) (Nat.zero_le _) (Nat.zero_le _) ?_
            refine c_X7_cutResult hG hP hT hn hc hc3 (by omega) hp hb (by omega) (by omega) h61 ?_
            exact pw_iret dX7_cutOne_73 rfl (k (by omega))
        · refine pw_iload_n dX7_isDigit_6 rfl ?_
          refine pw_bipush (v := nI 57) dX7_isDigit_7 (by decide) ?_
          refine pw_icmpN_gt _ _ (tgt := 16) dX7_isDigit_9 (by decide) (rfl) (rfl) (by omega) (by omega) (fun hX7_isDigit_9 => ?_) (fun hX7_isDigit_9 => ?_)
          · refine pw_iconst (v := nI 0) dX7_isDigit_16 (by decide) ?_
            refine pw_zret dX7_isDigit_17 rfl (by decide) ?_
            refine pw_if_eq (tgt := 57) dX7_cutOne_44 (by decide) (fun h44 => ?_) (fun h => absurd (by decide) h)
            refine pw_iload dX7_cutOne_57 rfl ?_
            refine pw_bipush (v := nI 36) dX7_cutOne_59 (by decide) ?_
            refine pw_icmpN_ne _ _ (tgt := 74) dX7_cutOne_61 (by decide) (rfl) (rfl) (by omega) (by omega) (fun h61 => ?_) (fun h61 => ?_)
            · refine pw_aload_n dX7_cutOne_74 rfl ?_
              refine pw_ixof hb1 (by omega) rfl (Nat.le_of_ble_eq_true rfl) (fun r hr => ?_)
              rcases hr with ⟨rfl, hno⟩ | ⟨j, hj, rfl, hy⟩
              · refine pw_if_lt (tgt := 91) dX7_cutOne_83 (by decide) (fun h83 => ?_) (fun h => absurd (by decide) h)
                refine pw_iconst (v := nI 1) dX7_cutOne_91 (by decide) ?_
                refine pw_iload_n dX7_cutOne_92 rfl ?_
                refine pw_lconst (v := 0) dX7_cutOne_93 (by decide) ?_
                refine pw_callV (as := [_, _, _]) (kc' := 0) (ks' := 0) lX7_31 dX7_cutOne_94 rfl rfl (sh_lt hG (by decide)) (sh_tg hG 2 rfl) (Nat.le_of_ble_eq_true rfl) (by omega) (Nat.le_of_ble_eq_true rfl) (Nat.zero_le _) (Nat.zero_le _) ?_
                refine c_X7_put hG hP hc hc3 (fun hz => ?_) (fun hz => absurd hz (by decide))
                refine pw_iload_n dX7_cutOne_97 rfl ?_
                refine pw_iconst (v := nI 1) dX7_cutOne_98 (by decide) ?_
                refine pw_iadd dX7_cutOne_99 ?_
                refine pw_ti (z := nI (p + 1)) (nI_add p 1) ?_
                exact pw_iret dX7_cutOne_100 rfl (by have k := k (by omega); unfold tk_end tk_kind tk_core at k; rw [if_neg (by omega : ¬ (97 ≤ tx p ∧ tx p ≤ 122)), if_neg (by omega : ¬ (97 ≤ tx p ∧ tx p ≤ 122)), if_neg (by omega : ¬ (97 ≤ tx p ∧ tx p ≤ 122)), if_neg (by omega : ¬ (48 ≤ tx p ∧ tx p ≤ 57)), if_neg (by omega : ¬ (48 ≤ tx p ∧ tx p ≤ 57)), if_neg (by omega : ¬ (48 ≤ tx p ∧ tx p ≤ 57)), if_neg h61, if_neg h61, if_neg h61, if_neg (by rw [sig_no hb1 hno]; decide)] at k; exact k)
              · have hnz : ¬ tx p = 0 := by
                  intro e
                  have := sig_yes hb1 hj hy
                  rw [e] at this
                  exact absurd this (by decide)
                refine pw_if_lt (tgt := 91) dX7_cutOne_83 (by decide) (fun h => absurd h (nI_pos (by omega))) (fun h83 => ?_)
                refine pw_iload dX7_cutOne_86 rfl ?_
                refine pw_goto (tgt := 92) dX7_cutOne_88 (by decide) ?_
                refine pw_iload_n dX7_cutOne_92 rfl ?_
                refine pw_lconst (v := 0) dX7_cutOne_93 (by decide) ?_
                refine pw_callV (as := [_, _, _]) (kc' := 0) (ks' := 0) lX7_31 dX7_cutOne_94 rfl rfl (sh_lt hG (by decide)) (sh_tg hG 2 rfl) (Nat.le_of_ble_eq_true rfl) (by omega) (Nat.le_of_ble_eq_true rfl) (Nat.zero_le _) (Nat.zero_le _) ?_
                refine c_X7_put hG hP hc hc3 (fun hz => ?_) (fun hz => absurd hz (by rw [← nI_0]; exact fun h => hnz ((nI_eq (by omega) (by decide)).mp h)))
                refine pw_iload_n dX7_cutOne_97 rfl ?_
                refine pw_iconst (v := nI 1) dX7_cutOne_98 (by decide) ?_
                refine pw_iadd dX7_cutOne_99 ?_
                refine pw_ti (z := nI (p + 1)) (nI_add p 1) ?_
                exact pw_iret dX7_cutOne_100 rfl (by have k := k (by omega); unfold tk_end tk_kind tk_core at k; rw [if_neg (by omega : ¬ (97 ≤ tx p ∧ tx p ≤ 122)), if_neg (by omega : ¬ (97 ≤ tx p ∧ tx p ≤ 122)), if_neg (by omega : ¬ (97 ≤ tx p ∧ tx p ≤ 122)), if_neg (by omega : ¬ (48 ≤ tx p ∧ tx p ≤ 57)), if_neg (by omega : ¬ (48 ≤ tx p ∧ tx p ≤ 57)), if_neg (by omega : ¬ (48 ≤ tx p ∧ tx p ≤ 57)), if_neg h61, if_neg h61, if_neg h61, if_pos (sig_yes hb1 hj hy)] at k; exact k)
            · refine pw_aload_n dX7_cutOne_64 rfl ?_
              refine pw_aload_n dX7_cutOne_65 rfl ?_
              refine pw_iload_n dX7_cutOne_66 rfl ?_
              refine pw_iload_n dX7_cutOne_67 rfl ?_
              refine pw_bipush (v := nI 36) dX7_cutOne_68 (by decide) ?_
              refine pw_callV (as := [_, _, _, _]) (kc' := 0) (ks' := 0) lX7_45 dX7_cutOne_70 rfl rfl (sh_lt hG (by decide)) (sh_tg hG 2 rfl) (Nat.le_of_ble_eq_true rfl) (by omega) (Nat.le_of_ble_eq_true rfl) (Nat.zero_le _) (Nat.zero_le _) ?_
              refine c_X7_cutResult hG hP hT hn hc hc3 (by omega) hp hb (by omega) (by omega) h61 ?_
              exact pw_iret dX7_cutOne_73 rfl (k (by omega))
          · refine pw_iconst (v := nI 1) dX7_isDigit_12 (by decide) ?_
            refine pw_goto (tgt := 17) dX7_isDigit_13 (by decide) ?_
            refine pw_zret dX7_isDigit_17 rfl (by decide) ?_
            refine pw_if_eq (tgt := 57) dX7_cutOne_44 (by decide) (fun h => absurd h (by decide)) (fun h44 => ?_)
            refine pw_aload_n dX7_cutOne_47 rfl ?_
            refine pw_aload_n dX7_cutOne_48 rfl ?_
            refine pw_iload_n dX7_cutOne_49 rfl ?_
            refine pw_iload_n dX7_cutOne_50 rfl ?_
            refine pw_bipush (v := nI 48) dX7_cutOne_51 (by decide) ?_
            refine pw_callV (as := [_, _, _, _]) (kc' := 0) (ks' := 0) lX7_45 dX7_cutOne_53 rfl rfl (sh_lt hG (by decide)) (sh_tg hG 2 rfl) (Nat.le_of_ble_eq_true rfl) (by omega) (Nat.le_of_ble_eq_true rfl) (Nat.zero_le _) (Nat.zero_le _) ?_
            refine c_X7_cutNumber hG hP hT hn hc hc3 (by omega) hp hb (by omega) (by omega) ?_
            exact pw_iret dX7_cutOne_56 rfl (k (by omega))
      · refine pw_iconst (v := nI 1) dX7_isLetter_12 (by decide) ?_
        refine pw_goto (tgt := 17) dX7_isLetter_13 (by decide) ?_
        refine pw_zret dX7_isLetter_17 rfl (by decide) ?_
        refine pw_if_eq (tgt := 39) dX7_cutOne_28 (by decide) (fun h => absurd h (by decide)) (fun h28 => ?_)
        refine pw_aload_n dX7_cutOne_31 rfl ?_
        refine pw_aload_n dX7_cutOne_32 rfl ?_
        refine pw_iload_n dX7_cutOne_33 rfl ?_
        refine pw_iload_n dX7_cutOne_34 rfl ?_
        refine pw_callV (as := [_, _, _]) (kc' := 0) (ks' := 0) lX7_39 dX7_cutOne_35 rfl rfl (sh_lt hG (by decide)) (sh_tg hG 2 rfl) (Nat.le_of_ble_eq_true rfl) (by omega) (Nat.le_of_ble_eq_true rfl) (Nat.zero_le _) (Nat.zero_le _) ?_
        refine c_X7_cutLetters hG hP hT hn hc hc3 (by omega) hp hb (by omega) ?_
        exact pw_iret dX7_cutOne_38 rfl (k (by omega))
  · refine pw_aload_n dX7_cutOne_14 rfl ?_
    refine pw_iconst (v := nI 1) dX7_cutOne_15 (by decide) ?_
    refine pw_iload_n dX7_cutOne_16 rfl ?_
    refine pw_lconst (v := 0) dX7_cutOne_17 (by decide) ?_
    refine pw_callV (as := [_, _, _]) (kc' := 0) (ks' := 0) lX7_31 dX7_cutOne_18 rfl rfl (sh_lt hG (by decide)) (sh_tg hG 2 rfl) (Nat.le_of_ble_eq_true rfl) (by omega) (Nat.le_of_ble_eq_true rfl) (Nat.zero_le _) (Nat.zero_le _) ?_
    refine c_X7_put hG hP hc hc3 (fun hz => ?_) (fun hz => absurd hz (by decide))
    refine pw_iload_n dX7_cutOne_21 rfl ?_
    exact pw_iret dX7_cutOne_22 rfl (k0 (by omega))
/-- what is not touched by the tokenizer -/
def fr4 (I I' : pmI) (J J' : pmJ) : Prop := (∀ a, a ≠ 4 → a ≠ 5 → a ≠ 6 → I' a = I a) ∧ ∀ a, a ≠ 7 → J' a = J a
/-- i TOKENS are cut -/
def tk_I (tx : Nat → Nat) (n : Nat) (I : pmI) (J : pmJ) (i : Nat) : Prop := I 4 3 = nI i ∧ ∀ j, j < i → tk_p tx n j < n ∧ I 5 j = nI (tk_k tx n j) ∧ I 6 j = nI (tk_p tx n j) ∧ J 7 j = tk_v tx n j
/-- all are cut, the end behind them -/
def tk_C (tx : Nat → Nat) (n : Nat) (I : pmI) (J : pmJ) (i : Nat) : Prop := I 4 3 = nI i ∧ i ≤ 61 ∧ tk_p tx n i = n ∧ (∀ j, j < i → tk_p tx n j < n) ∧ ∀ j, j ≤ i → I 5 j = nI (tk_k tx n j) ∧ I 6 j = nI (tk_p tx n j) ∧ J 7 j = tk_v tx n j
theorem fr4.upd {Ib I : pmI} {Jb J : pmJ} (h : fr4 Ib I Jb J) {c : Nat} {x z w : Int32} {v : Int64} : fr4 Ib (pm_u (pm_u (pm_u I 5 c x) 6 c z) 4 3 w) Jb (pm_u J 7 c v) := by
  refine ⟨fun a h4 h5 h6 => ?_, fun a h7 => ?_⟩
  · rw [pm_u_ne h4, pm_u_ne h6, pm_u_ne h5]
    exact h.1 a h4 h5 h6
  · rw [pm_u_ne h7]
    exact h.2 a h7
theorem fr4.upd0 {Ib I : pmI} {Jb J : pmJ} (h : fr4 Ib I Jb J) {c : Nat} {x z : Int32} {v : Int64} : fr4 Ib (pm_u (pm_u I 5 c x) 6 c z) Jb (pm_u J 7 c v) := by
  refine ⟨fun a h4 h5 h6 => ?_, fun a h7 => ?_⟩
  · rw [pm_u_ne h6, pm_u_ne h5]
    exact h.1 a h4 h5 h6
  · rw [pm_u_ne h7]
    exact h.2 a h7
theorem tX.upd {I : pmI} {tx : Nat → Nat} {n : Nat} (h : tX I 3 tx n) {c : Nat} {x z w : Int32} : tX (pm_u (pm_u (pm_u I 5 c x) 6 c z) 4 3 w) 3 tx n := by
  intro j hj
  rw [pm_u_ne (by decide), pm_u_ne (by decide), pm_u_ne (by decide)]
  exact h j hj
theorem tk_I.step {tx : Nat → Nat} {n : Nat} {I : pmI} {J : pmJ} {i : Nat} (h : tk_I tx n I J i) (hp : tk_p tx n i < n) : tk_I tx n (pm_u (pm_u (pm_u I 5 i (nI (tk_k tx n i))) 6 i (nI (tk_p tx n i))) 4 3 (nI (i + 1))) (pm_u J 7 i (tk_v tx n i)) (i + 1) := by
  refine ⟨by rw [pm_u_eq, pm_up_eq], fun j hj => ?_⟩
  rw [pm_u_ne (a := 4) (b := 5) (by decide), pm_u_ne (a := 6) (b := 5) (by decide), pm_u_eq, pm_u_ne (a := 4) (b := 6) (by decide), pm_u_eq, pm_u_ne (a := 5) (b := 6) (by decide), pm_u_eq]
  by_cases e : j = i
  · subst e
    exact ⟨hp, pm_up_eq, pm_up_eq, pm_up_eq⟩
  · rw [pm_up_ne e, pm_up_ne e, pm_up_ne e]
    exact h.2 j (by omega)
theorem tk_I.done {tx : Nat → Nat} {n : Nat} {I : pmI} {J : pmJ} {i : Nat} (h : tk_I tx n I J i) (hi : i ≤ 61) (hp : tk_p tx n i = n) : tk_C tx n (pm_u (pm_u I 5 i (nI 0)) 6 i (nI n)) (pm_u J 7 i 0) i := by
  refine ⟨by rw [pm_u_ne (by decide), pm_u_ne (by decide)]; exact h.1, hi, hp, fun j hj => (h.2 j hj).1, fun j hj => ?_⟩
  rw [pm_u_ne (a := 6) (b := 5) (by decide), pm_u_eq, pm_u_eq, pm_u_ne (a := 5) (b := 6) (by decide), pm_u_eq]
  by_cases e : j = i
  · subst e
    have h1 : tk_k tx n j = 0 := if_neg (by omega)
    have h2 : tk_v tx n j = 0 := if_neg (by omega)
    rw [h1, h2, hp]
    exact ⟨pm_up_eq, pm_up_eq, pm_up_eq⟩
  · rw [pm_up_ne e, pm_up_ne e, pm_up_ne e]
    exact (h.2 j (by omega)).2
set_option maxRecDepth 20000 in
set_option maxHeartbeats 4000000 in
theorem c_X7_cut_lp {l : Launch} {E : pmE} {d : Nat} {S : pmS} {Ib : pmI} {Jb : pmJ} {P : pmP} {Q : Option Value → pmS → pmI → pmJ → pmP → Prop} (hG : sh_St S) (hP : gr_St P) {tx : Nat → Nat} {n : Nat} (hn : n ≤ 120) (hb : ∀ j, j < n → tx j < 128) (hd : 24 ≤ d) (kk : (∀ cnt I' J', tk_C tx n I' J' cnt → fr4 Ib I' Jb J' → Q none S I' J' P)) : ∀ (f i : Nat) (I : pmI) (J : pmJ), i + f = 61 → tX I 3 tx n → fr4 Ib I Jb J → tk_I tx n I J i → pm_W l E yX7_cut cX7_cut 6 none d 0 0 15 [(4, .int (nI i)), (3, .int (nI (tk_p tx n i))), (0, .ref 4), (1, .ref 3), (2, .int (nI n))] [] S I J P (pm_N E Q)
  | 0, i, I, J, hf, hT, hF, hI => by
    have hpn := tk_p_le (tx := tx) (n := n) i
    refine pw_iload dX7_cut_15 rfl ?_
    refine pw_bipush (v := nI 60) dX7_cut_17 (by decide) ?_
    refine pw_icmpN_gt _ _ (tgt := 50) dX7_cut_19 (by decide) (rfl) (rfl) (by omega) (by omega) (fun h19 => ?_) (fun h19 => absurd h19 (by omega))
    refine pw_aload_n dX7_cut_50 rfl ?_
    refine pw_iconst (v := nI 0) dX7_cut_51 (by decide) ?_
    refine pw_iload_n dX7_cut_52 rfl ?_
    refine pw_lconst (v := 0) dX7_cut_53 (by decide) ?_
    refine pw_callV (as := [_, _, _]) (kc' := 0) (ks' := 0) lX7_31 dX7_cut_54 rfl rfl (sh_lt hG (by decide)) (sh_tg hG 2 rfl) (Nat.le_of_ble_eq_true rfl) (by omega) (Nat.le_of_ble_eq_true rfl) (Nat.zero_le _) (Nat.zero_le _) ?_
    refine c_X7_put hG hP hI.1 (by omega) (fun hz => absurd (by decide) hz) (fun _ => ?_)
    exact pw_vret dX7_cut_57 rfl (kk i _ _ (hI.done (by omega) (tk_p_61 (by omega))) hF.upd0)
  | f + 1, i, I, J, hf, hT, hF, hI => by
    have hpn := tk_p_le (tx := tx) (n := n) i
    refine pw_iload dX7_cut_15 rfl ?_
    refine pw_bipush (v := nI 60) dX7_cut_17 (by decide) ?_
    refine pw_icmpN_gt _ _ (tgt := 50) dX7_cut_19 (by decide) (rfl) (rfl) (by omega) (by omega) (fun h19 => absurd h19 (by omega)) (fun h19 => ?_)
    refine pw_iload_n dX7_cut_22 rfl ?_
    refine pw_iload_n dX7_cut_23 rfl ?_
    refine pw_icmpN_ge _ _ (tgt := 50) dX7_cut_24 (by decide) (rfl) (rfl) (by omega) (by omega) (fun h24 => ?_) (fun h24 => ?_)
    · refine pw_aload_n dX7_cut_50 rfl ?_
      refine pw_iconst (v := nI 0) dX7_cut_51 (by decide) ?_
      refine pw_iload_n dX7_cut_52 rfl ?_
      refine pw_lconst (v := 0) dX7_cut_53 (by decide) ?_
      refine pw_callV (as := [_, _, _]) (kc' := 0) (ks' := 0) lX7_31 dX7_cut_54 rfl rfl (sh_lt hG (by decide)) (sh_tg hG 2 rfl) (Nat.le_of_ble_eq_true rfl) (by omega) (Nat.le_of_ble_eq_true rfl) (Nat.zero_le _) (Nat.zero_le _) ?_
      refine c_X7_put hG hP hI.1 (by omega) (fun hz => absurd (by decide) hz) (fun _ => ?_)
      exact pw_vret dX7_cut_57 rfl (kk i _ _ (hI.done (by omega) (by omega)) hF.upd0)
    · refine pw_aload_n dX7_cut_27 rfl ?_
      refine pw_aload_n dX7_cut_28 rfl ?_
      refine pw_iload_n dX7_cut_29 rfl ?_
      refine pw_iload_n dX7_cut_30 rfl ?_
      refine pw_callV (as := [_, _, _]) (kc' := 0) (ks' := 0) lX7_28 dX7_cut_31 rfl rfl (sh_lt hG (by decide)) (sh_tg hG 2 rfl) (Nat.le_of_ble_eq_true rfl) (by omega) (Nat.le_of_ble_eq_true rfl) (Nat.zero_le _) (Nat.zero_le _) ?_
      have he := tk_end_b (tx := tx) h24
      refine c_X7_cutOne hG hP hT hn hI.1 (by omega) (by omega) h24 hb (fun h60 => ?_) (fun hlt => ?_)
      · refine pw_istore (lv' := [(5, _), (4, _), (3, _), (0, _), (1, _), (2, _)]) dX7_cut_34 (by decide) rfl ?_
        refine pw_aload_n dX7_cut_36 rfl ?_
        refine pw_iload dX7_cut_37 rfl ?_
        refine pw_iload_n dX7_cut_39 rfl ?_
        refine pw_callS (as := [_, _, _]) (kc' := 0) (ks' := 0) lX7_24 dX7_cut_40 rfl rfl (Nat.le_of_ble_eq_true rfl) (by omega) (Nat.le_of_ble_eq_true rfl) (Nat.zero_le _) (Nat.zero_le _) ?_
        refine c_X7_afterBlanks hG hP hT.upd hn hb (p := n) (by omega) ?_
        refine pw_istore_n (lv' := [(3, _), (5, _), (4, _), (0, _), (1, _), (2, _)]) dX7_cut_43 (by decide) rfl ?_
        refine pw_iinc (lv' := [(4, _), (3, _), (5, _), (0, _), (1, _), (2, _)]) dX7_cut_44 rfl (by decide) rfl ?_
        refine pw_goto (tgt := 15) dX7_cut_47 (by decide) ?_
        refine pw_sub [0, 1, 3, 4, 5] rfl ?_
        rw [show nI i + Int32.ofInt 1 = nI (i + 1) from nI_1 i]
        have e : i = 60 := h60
        subst e
        have hN := hI.step h24
        rw [tk_k_60 h24, tk_v_60 h24] at hN
        have e9 : tk_ab tx (n - n) n = tk_p tx n 61 := by
          rw [tk_p_60, Nat.sub_self]
          rfl
        rw [e9]
        exact c_X7_cut_lp hG hP hn hb hd kk f 61 _ _ (by omega) hT.upd hF.upd hN
      · refine pw_istore (lv' := [(5, _), (4, _), (3, _), (0, _), (1, _), (2, _)]) dX7_cut_34 (by decide) rfl ?_
        refine pw_aload_n dX7_cut_36 rfl ?_
        refine pw_iload dX7_cut_37 rfl ?_
        refine pw_iload_n dX7_cut_39 rfl ?_
        refine pw_callS (as := [_, _, _]) (kc' := 0) (ks' := 0) lX7_24 dX7_cut_40 rfl rfl (Nat.le_of_ble_eq_true rfl) (by omega) (Nat.le_of_ble_eq_true rfl) (Nat.zero_le _) (Nat.zero_le _) ?_
        refine c_X7_afterBlanks hG hP hT.upd hn hb (p := tk_end tx n (tk_p tx n i)) (by omega) ?_
        refine pw_istore_n (lv' := [(3, _), (5, _), (4, _), (0, _), (1, _), (2, _)]) dX7_cut_43 (by decide) rfl ?_
        refine pw_iinc (lv' := [(4, _), (3, _), (5, _), (0, _), (1, _), (2, _)]) dX7_cut_44 rfl (by decide) rfl ?_
        refine pw_goto (tgt := 15) dX7_cut_47 (by decide) ?_
        refine pw_sub [0, 1, 3, 4, 5] rfl ?_
        rw [show nI i + Int32.ofInt 1 = nI (i + 1) from nI_1 i]
        have hN := hI.step h24
        rw [tk_k_i h24 hlt, tk_v_i h24 hlt] at hN
        rw [← tk_p_s h24 hlt]
        exact c_X7_cut_lp hG hP hn hb hd kk f (i + 1) _ _ (by omega) hT.upd hF.upd hN
set_option maxRecDepth 20000 in
set_option maxHeartbeats 4000000 in
theorem c_X7_cut {l : Launch} {E : pmE} {d : Nat} {S : pmS} {I : pmI} {J : pmJ} {P : pmP} {Q : Option Value → pmS → pmI → pmJ → pmP → Prop} (hG : sh_St S) (hP : gr_St P) {tx : Nat → Nat} {n : Nat} (hT : tX I 3 tx n) (hn : n ≤ 120) (hb : ∀ j, j < n → tx j < 128) (hd : 24 ≤ d) (kk : (∀ cnt I' J', tk_C tx n I' J' cnt → fr4 I I' J J' → Q none S I' J' P)) : pm_Met l E yX7_cut cX7_cut 6 none d 0 0 [.ref 4, .ref 3, .int (nI n)] S I J P Q := by
  unfold pm_Met
  refine pm_lvs (lv' := [(0, _), (1, _), (2, _)]) rfl ?_
  have hT1 : tX (pm_u I 4 3 (nI 0)) 3 tx n := fun j hj => by rw [pm_u_ne (by decide)]; exact hT j hj
  refine pw_aload_n dX7_cut_0 rfl ?_
  refine pw_iconst (v := nI 0) dX7_cut_1 (by decide) ?_
  refine pw_putI fX7_20 dX7_cut_2 (Or.inl rfl) (by decide) (sh_lt hG (by decide)) (sh_tg hG 2 rfl) rfl ?_
  refine pw_aload_n dX7_cut_5 rfl ?_
  refine pw_iconst (v := nI 0) dX7_cut_6 (by decide) ?_
  refine pw_iload_n dX7_cut_7 rfl ?_
  refine pw_callS (as := [_, _, _]) (kc' := 0) (ks' := 0) lX7_24 dX7_cut_8 rfl rfl (Nat.le_of_ble_eq_true rfl) (by omega) (Nat.le_of_ble_eq_true rfl) (Nat.zero_le _) (Nat.zero_le _) ?_
  refine c_X7_afterBlanks hG hP hT1 hn hb (p := 0) (by omega) ?_
  refine pw_istore_n (lv' := [(3, _), (0, _), (1, _), (2, _)]) dX7_cut_11 (by decide) rfl ?_
  refine pw_iconst (v := nI 0) dX7_cut_12 (by decide) ?_
  refine pw_istore (lv' := [(4, _), (3, _), (0, _), (1, _), (2, _)]) dX7_cut_13 (by decide) rfl ?_
  refine pw_sub [0, 1, 2, 3, 4] rfl ?_
  exact c_X7_cut_lp (Ib := I) (Jb := J) hG hP hn hb hd kk 61 0 _ _ (by omega) hT1 ⟨fun a h4 _ _ => pm_u_ne h4, fun _ _ => rfl⟩ ⟨by rw [pm_u_eq, pm_up_eq], fun j hj => absurd hj (Nat.not_lt_zero j)⟩
