set_option maxRecDepth 20000 in
set_option maxHeartbeats 400000 in
theorem c_hasSn1 {l : Launch} {E : pmE} {d : Nat} {S : pmS} {I : pmI} {J : pmJ} {P : pmP} {Q : Option Value → pmS → pmI → pmJ → pmP → Prop} (hG : sh_St S) (hP : gr_St P) {i : Nat} {A : aS} {Z : Nat → Nat} {b : Nat} (hc : cA S I J P A Z b) (hO : aO A) (hs : i < A.sn.length) (k : Q (some (.int (nI 1))) S I J P) : pm_Met l E yX4_hasSnippet cX4_hasSnippet 2 (some .boolean) d 0 0 [.ref 15, .int (nI i)] S I J P Q := by
  unfold pm_Met
  refine pm_lvs (lv' := [(0, _), (1, _)]) rfl ?_
  refine pw_iload_n dX4_hasSnippet_0 rfl ?_
  refine pw_if_lt (tgt := 25) dX4_hasSnippet_1 (by decide) (fun h => absurd h (nI_pos (by have := hO.2.2.2.2.2.2.2.2.2.2.1; omega))) (fun h1 => ?_)
  have hsl := hO.2.2.2.2.2.2.2.2.2.2.1
  refine pw_iload_n dX4_hasSnippet_4 rfl ?_
  refine pw_aload_n dX4_hasSnippet_5 rfl ?_
  refine pw_getI fX4_49 dX4_hasSnippet_6 (sh_lt hG (by decide)) (sh_tg hG 13 rfl) rfl ?_
  refine pw_icmpN_ge _ _ (tgt := 25) dX4_hasSnippet_9 (by decide) (rfl) (hc.k) (by omega) (by omega) (fun h9 => absurd h9 (by omega)) (fun h9 => ?_)
  refine pw_aload_n dX4_hasSnippet_12 rfl ?_
  refine pw_getR fX4_39 dX4_hasSnippet_13 (sh_lt hG (by decide)) (sh_tg hG 13 rfl) rfl (gr_at hP 19 rfl) ?_
  refine pw_iload_n dX4_hasSnippet_16 rfl ?_
  refine pw_aaldN (r := some (Z i + 2)) i dX4_hasSnippet_17 (sh_lt hG (by decide)) (sh_sh hG 31 rfl) (by decide) (by decide) (rfl) (by omega) (hc.sn hs).1 ?_
  refine pw_ifnull dX4_hasSnippet_18 ?_
  refine pw_iconst (v := nI 1) dX4_hasSnippet_21 (by decide) ?_
  refine pw_goto (tgt := 26) dX4_hasSnippet_22 (by decide) ?_
  exact pw_zret dX4_hasSnippet_26 rfl (by decide) (k)

set_option maxRecDepth 20000 in
set_option maxHeartbeats 400000 in
theorem c_uo_lp {l : Launch} {E : pmE} {d : Nat} {S : pmS} {I : pmI} {J : pmJ} {P : pmP} {Q : Option Value → pmS → pmI → pmJ → pmP → Prop} (hG : sh_St S) (hP : gr_St P) (hd : 4 ≤ d) {x y : Int32} {A : aS} {Z : Nat → Nat} {b : Nat} (hc : cA S I J P A Z b) (hO : aO A) (kx : ∀ a, Q (some (.int a)) S I J P) : ∀ (m k : Nat) (acc : Int32), k + m = A.sn.length → pm_W l E yX4_userOf cX4_userOf 5 (some .int) d 0 0 5 [(4, .int (nI k)), (3, .int acc), (0, .ref 15), (1, .int x), (2, .int y)] [] S I J P (pm_N E Q)
  | 0, k, acc, hk => by
    have hsl := hO.2.2.2.2.2.2.2.2.2.2.1
    refine pw_iload dX4_userOf_5 rfl ?_
    refine pw_aload_n dX4_userOf_7 rfl ?_
    refine pw_getI fX4_49 dX4_userOf_8 (sh_lt hG (by decide)) (sh_tg hG 13 rfl) rfl ?_
    refine pw_icmpN_ge _ _ (tgt := 63) dX4_userOf_11 (by decide) (rfl) (hc.k) (by omega) (by omega) (fun h11 => ?_) (fun h11 => absurd h11 (by omega))
    refine pw_bipush (v := -5) dX4_userOf_63 (by decide) ?_
    exact pw_iret dX4_userOf_65 rfl (kx _)
  | m + 1, k, acc, hk => by
    have hsl := hO.2.2.2.2.2.2.2.2.2.2.1
    have hs : k < A.sn.length := by omega
    refine pw_iload dX4_userOf_5 rfl ?_
    refine pw_aload_n dX4_userOf_7 rfl ?_
    refine pw_getI fX4_49 dX4_userOf_8 (sh_lt hG (by decide)) (sh_tg hG 13 rfl) rfl ?_
    refine pw_icmpN_ge _ _ (tgt := 63) dX4_userOf_11 (by decide) (rfl) (hc.k) (by omega) (by omega) (fun h11 => absurd h11 (by omega)) (fun h11 => ?_)
    refine pw_aload_n dX4_userOf_14 rfl ?_
    refine pw_iload dX4_userOf_15 rfl ?_
    refine pw_callV (as := [_]) (kc' := 0) (ks' := 0) lX4_82 dX4_userOf_17 rfl rfl (sh_lt hG (by decide)) (sh_tg hG 13 rfl) (Nat.le_of_ble_eq_true rfl) (by omega) (Nat.le_of_ble_eq_true rfl) (Nat.zero_le _) (Nat.zero_le _) ?_
    refine c_hasSn1 hG hP hc hO hs ?_
    refine pw_if_eq (tgt := 57) dX4_userOf_20 (by decide) (fun h => absurd h (by decide)) (fun h20 => ?_)
    refine pw_aload_n dX4_userOf_23 rfl ?_
    refine pw_iload dX4_userOf_24 rfl ?_
    refine pw_callV (as := [_]) (kc' := 0) (ks' := 0) lX4_96 dX4_userOf_26 rfl rfl (sh_lt hG (by decide)) (sh_tg hG 13 rfl) (Nat.le_of_ble_eq_true rfl) (by omega) (Nat.le_of_ble_eq_true rfl) (Nat.zero_le _) (Nat.zero_le _) ?_
    refine c_isRepl hG hP (by omega) hc hO (fun a1 => ?_)
    refine pw_if_ne (tgt := 57) dX4_userOf_29 (by decide) (fun h29 => ?_) (fun h29 => ?_)
    · refine pw_sub [0, 1, 2, 3, 4] rfl ?_
      refine pw_iinc (lv' := [(4, _), (3, _), (0, _), (1, _), (2, _)]) dX4_userOf_57 rfl (by decide) rfl ?_
      refine pw_goto (tgt := 5) dX4_userOf_60 (by decide) ?_
      refine pm_lvs (lv' := [(4, .int (nI (k + 1))), (3, _), (0, _), (1, _), (2, _)]) (by rw [show nI k + Int32.ofInt 1 = nI (k + 1) from nI_add k 1]) ?_
      exact c_uo_lp hG hP hd hc hO kx m (k + 1) _ (by omega)
    · refine pw_aload_n dX4_userOf_32 rfl ?_
      refine pw_getR fX4_39 dX4_userOf_33 (sh_lt hG (by decide)) (sh_tg hG 13 rfl) rfl (gr_at hP 19 rfl) ?_
      refine pw_iload dX4_userOf_36 rfl ?_
      refine pw_aaldN (r := some (Z k + 2)) k dX4_userOf_38 (sh_lt hG (by decide)) (sh_sh hG 31 rfl) (by decide) (by decide) (rfl) (by omega) (hc.sn hs).1 ?_
      refine pw_iload_n dX4_userOf_39 rfl ?_
      refine pw_callV (as := [_]) (kc' := 0) (ks' := 0) lX4_103 dX4_userOf_40 rfl rfl (by have := (hc.sn hs).2.1.1.2; omega) (hc.sn hs).2.1.tg (Nat.le_of_ble_eq_true rfl) (by omega) (Nat.le_of_ble_eq_true rfl) (Nat.zero_le _) (Nat.zero_le _) ?_
      refine c_uses hG hP (by omega) (hc.sn hs).2.1 (fun a2 => ?_)
      refine pw_if_eq (tgt := 57) dX4_userOf_43 (by decide) (fun h43 => ?_) (fun h43 => ?_)
      · refine pw_sub [0, 1, 2, 3, 4] rfl ?_
        refine pw_iinc (lv' := [(4, _), (3, _), (0, _), (1, _), (2, _)]) dX4_userOf_57 rfl (by decide) rfl ?_
        refine pw_goto (tgt := 5) dX4_userOf_60 (by decide) ?_
        refine pm_lvs (lv' := [(4, .int (nI (k + 1))), (3, _), (0, _), (1, _), (2, _)]) (by rw [show nI k + Int32.ofInt 1 = nI (k + 1) from nI_add k 1]) ?_
        exact c_uo_lp hG hP hd hc hO kx m (k + 1) _ (by omega)
      · refine pw_iload_n dX4_userOf_46 rfl ?_
        refine pw_iload_n dX4_userOf_47 rfl ?_
        refine pw_icmp_ne (tgt := 54) dX4_userOf_48 (by decide) (fun h48 => ?_) (fun h48 => ?_)
        · refine pw_iinc (lv' := [(3, _), (4, _), (0, _), (1, _), (2, _)]) dX4_userOf_54 rfl (by decide) rfl ?_
          refine pw_sub [1, 0, 2, 3, 4] rfl ?_
          refine pw_iinc (lv' := [(4, _), (3, _), (0, _), (1, _), (2, _)]) dX4_userOf_57 rfl (by decide) rfl ?_
          refine pw_goto (tgt := 5) dX4_userOf_60 (by decide) ?_
          refine pm_lvs (lv' := [(4, .int (nI (k + 1))), (3, _), (0, _), (1, _), (2, _)]) (by rw [show nI k + Int32.ofInt 1 = nI (k + 1) from nI_add k 1]) ?_
          exact c_uo_lp hG hP hd hc hO kx m (k + 1) _ (by omega)
        · refine pw_iload dX4_userOf_51 rfl ?_
          exact pw_iret dX4_userOf_53 rfl (kx _)
set_option maxRecDepth 20000 in
set_option maxHeartbeats 400000 in
theorem c_userOf {l : Launch} {E : pmE} {d : Nat} {S : pmS} {I : pmI} {J : pmJ} {P : pmP} {Q : Option Value → pmS → pmI → pmJ → pmP → Prop} (hG : sh_St S) (hP : gr_St P) (hd : 4 ≤ d) {x y : Int32} {A : aS} {Z : Nat → Nat} {b : Nat} (hc : cA S I J P A Z b) (hO : aO A) (k : ∀ a, Q (some (.int a)) S I J P) : pm_Met l E yX4_userOf cX4_userOf 5 (some .int) d 0 0 [.ref 15, .int x, .int y] S I J P Q := by
  unfold pm_Met
  refine pm_lvs (lv' := [(0, _), (1, _), (2, _)]) rfl ?_
  refine pw_iconst (v := nI 0) dX4_userOf_0 (by decide) ?_
  refine pw_istore_n (lv' := [(3, _), (0, _), (1, _), (2, _)]) dX4_userOf_1 (by decide) rfl ?_
  refine pw_iconst (v := nI 0) dX4_userOf_2 (by decide) ?_
  refine pw_istore (lv' := [(4, _), (3, _), (0, _), (1, _), (2, _)]) dX4_userOf_3 (by decide) rfl ?_
  exact c_uo_lp hG hP hd hc hO k A.sn.length 0 _ (Nat.zero_add _)
set_option maxRecDepth 20000 in
set_option maxHeartbeats 400000 in
theorem c_user {l : Launch} {E : pmE} {d : Nat} {S : pmS} {I : pmI} {J : pmJ} {P : pmP} {Q : Option Value → pmS → pmI → pmJ → pmP → Prop} (hG : sh_St S) (hP : gr_St P) (hd : 5 ≤ d) {x y : Int32} {A : aS} {Z : Nat → Nat} {b : Nat} (hc : cA S I J P A Z b) (hO : aO A) (k : ∀ a, Q (some (.int a)) S I J P) : pm_Met l E yX9_user cX9_user 3 (some .int) d 0 0 [.ref 2, .int x, .int y] S I J P Q := by
  unfold pm_Met
  refine pm_lvs (lv' := [(0, _), (1, _), (2, _)]) rfl ?_
  refine pw_aload_n dX9_user_0 rfl ?_
  refine pw_getR fX9_32 dX9_user_1 (sh_lt hG (by decide)) (sh_tg hG 0 rfl) rfl (gr_at hP 3 rfl) ?_
  refine pw_getR fX9_72 dX9_user_4 (sh_lt hG (by decide)) (sh_tg hG 13 rfl) rfl (gr_at hP 15 rfl) ?_
  refine pw_iload_n dX9_user_7 rfl ?_
  refine pw_callV (as := [_]) (kc' := 0) (ks' := 0) lX9_142 dX9_user_8 rfl rfl (sh_lt hG (by decide)) (sh_tg hG 14 rfl) (Nat.le_of_ble_eq_true rfl) (by omega) (Nat.le_of_ble_eq_true rfl) (Nat.zero_le _) (Nat.zero_le _) ?_
  refine c_hasX hG hP hc.n hO.1.2 (fun i hi e => ?_) ?_
  · refine pw_if_eq (tgt := 26) dX9_user_11 (by decide) (fun h => absurd h (by decide)) (fun h11 => ?_)
    refine pw_aload_n dX9_user_14 rfl ?_
    refine pw_getR fX9_32 dX9_user_15 (sh_lt hG (by decide)) (sh_tg hG 0 rfl) rfl (gr_at hP 3 rfl) ?_
    refine pw_iload_n dX9_user_18 rfl ?_
    refine pw_iload_n dX9_user_19 rfl ?_
    refine pw_callV (as := [_, _]) (kc' := 0) (ks' := 0) lX9_167 dX9_user_20 rfl rfl (sh_lt hG (by decide)) (sh_tg hG 13 rfl) (Nat.le_of_ble_eq_true rfl) (by omega) (Nat.le_of_ble_eq_true rfl) (Nat.zero_le _) (Nat.zero_le _) ?_
    refine c_userOf hG hP (by omega) hc hO (fun a => ?_)
    refine pw_goto (tgt := 27) dX9_user_23 (by decide) ?_
    exact pw_iret dX9_user_27 rfl (k _)
  · refine pw_if_eq (tgt := 26) dX9_user_11 (by decide) (fun h11 => ?_) (fun h => absurd (by decide) h)
    refine pw_iconst (v := -1) dX9_user_26 (by decide) ?_
    exact pw_iret dX9_user_27 rfl (k _)
set_option maxRecDepth 20000 in
set_option maxHeartbeats 400000 in
theorem c_cw_lp {l : Launch} {E : pmE} {d : Nat} {S : pmS} {I : pmI} {J : pmJ} {P : pmP} {Q : Option Value → pmS → pmI → pmJ → pmP → Prop} (hG : sh_St S) (hP : gr_St P) (hd : 5 ≤ d) {A : aS} {Z : Nat → Nat} {b : Nat} (hc : cA S I J P A Z b) (hO : aO A) (kx : ∀ a, Q (some (.int a)) S I J P) : ∀ (m k : Nat) (acc : Int32), k + m = A.sn.length → pm_W l E yX4_countWaiting cX4_countWaiting 3 (some .int) d 0 0 4 [(2, .int (nI k)), (1, .int acc), (0, .ref 15)] [] S I J P (pm_N E Q)
  | 0, k, acc, hk => by
    have hsl := hO.2.2.2.2.2.2.2.2.2.2.1
    refine pw_iload_n dX4_countWaiting_4 rfl ?_
    refine pw_aload_n dX4_countWaiting_5 rfl ?_
    refine pw_getI fX4_49 dX4_countWaiting_6 (sh_lt hG (by decide)) (sh_tg hG 13 rfl) rfl ?_
    refine pw_icmpN_ge _ _ (tgt := 30) dX4_countWaiting_9 (by decide) (rfl) (hc.k) (by omega) (by omega) (fun h9 => ?_) (fun h9 => absurd h9 (by omega))
    refine pw_iload_n dX4_countWaiting_30 rfl ?_
    exact pw_iret dX4_countWaiting_31 rfl (kx _)
  | m + 1, k, acc, hk => by
    have hsl := hO.2.2.2.2.2.2.2.2.2.2.1
    refine pw_iload_n dX4_countWaiting_4 rfl ?_
    refine pw_aload_n dX4_countWaiting_5 rfl ?_
    refine pw_getI fX4_49 dX4_countWaiting_6 (sh_lt hG (by decide)) (sh_tg hG 13 rfl) rfl ?_
    refine pw_icmpN_ge _ _ (tgt := 30) dX4_countWaiting_9 (by decide) (rfl) (hc.k) (by omega) (by omega) (fun h9 => absurd h9 (by omega)) (fun h9 => ?_)
    refine pw_aload_n dX4_countWaiting_12 rfl ?_
    refine pw_iload_n dX4_countWaiting_13 rfl ?_
    refine pw_callV (as := [_]) (kc' := 0) (ks' := 0) lX4_106 dX4_countWaiting_14 rfl rfl (sh_lt hG (by decide)) (sh_tg hG 13 rfl) (Nat.le_of_ble_eq_true rfl) (by omega) (Nat.le_of_ble_eq_true rfl) (Nat.zero_le _) (Nat.zero_le _) ?_
    refine c_stateOf hG hP (by omega) hc hO (fun a1 => ?_)
    refine pw_iconst (v := nI 1) dX4_countWaiting_17 (by decide) ?_
    refine pw_icmp_ne (tgt := 24) dX4_countWaiting_18 (by decide) (fun h18 => ?_) (fun h18 => ?_)
    · refine pw_sub [0, 1, 2] rfl ?_
      refine pw_iinc (lv' := [(2, _), (1, _), (0, _)]) dX4_countWaiting_24 rfl (by decide) rfl ?_
      refine pw_goto (tgt := 4) dX4_countWaiting_27 (by decide) ?_
      refine pm_lvs (lv' := [(2, .int (nI (k + 1))), (1, _), (0, _)]) (by rw [show nI k + Int32.ofInt 1 = nI (k + 1) from nI_add k 1]) ?_
      exact c_cw_lp hG hP hd hc hO kx m (k + 1) _ (by omega)
    · refine pw_iinc (lv' := [(1, _), (2, _), (0, _)]) dX4_countWaiting_21 rfl (by decide) rfl ?_
      refine pw_sub [1, 0, 2] rfl ?_
      refine pw_iinc (lv' := [(2, _), (1, _), (0, _)]) dX4_countWaiting_24 rfl (by decide) rfl ?_
      refine pw_goto (tgt := 4) dX4_countWaiting_27 (by decide) ?_
      refine pm_lvs (lv' := [(2, .int (nI (k + 1))), (1, _), (0, _)]) (by rw [show nI k + Int32.ofInt 1 = nI (k + 1) from nI_add k 1]) ?_
      exact c_cw_lp hG hP hd hc hO kx m (k + 1) _ (by omega)
set_option maxRecDepth 20000 in
set_option maxHeartbeats 400000 in
theorem c_cntW {l : Launch} {E : pmE} {d : Nat} {S : pmS} {I : pmI} {J : pmJ} {P : pmP} {Q : Option Value → pmS → pmI → pmJ → pmP → Prop} (hG : sh_St S) (hP : gr_St P) (hd : 5 ≤ d) {A : aS} {Z : Nat → Nat} {b : Nat} (hc : cA S I J P A Z b) (hO : aO A) (k : ∀ a, Q (some (.int a)) S I J P) : pm_Met l E yX4_countWaiting cX4_countWaiting 3 (some .int) d 0 0 [.ref 15] S I J P Q := by
  unfold pm_Met
  refine pm_lvs (lv' := [(0, _)]) rfl ?_
  refine pw_iconst (v := nI 0) dX4_countWaiting_0 (by decide) ?_
  refine pw_istore_n (lv' := [(1, _), (0, _)]) dX4_countWaiting_1 (by decide) rfl ?_
  refine pw_iconst (v := nI 0) dX4_countWaiting_2 (by decide) ?_
  refine pw_istore_n (lv' := [(2, _), (1, _), (0, _)]) dX4_countWaiting_3 (by decide) rfl ?_
  exact c_cw_lp hG hP hd hc hO k A.sn.length 0 _ (Nat.zero_add _)
set_option maxRecDepth 20000 in
set_option maxHeartbeats 400000 in
theorem c_co_lp {l : Launch} {E : pmE} {d : Nat} {S : pmS} {I : pmI} {J : pmJ} {P : pmP} {Q : Option Value → pmS → pmI → pmJ → pmP → Prop} (hG : sh_St S) (hP : gr_St P) (hd : 5 ≤ d) {A : aS} {Z : Nat → Nat} {b : Nat} (hc : cA S I J P A Z b) (hO : aO A) {t : List tH} {m9 : Nat} (ht : tC S I J P A t b m9) (kx : ∀ a, Q (some (.int a)) S I J P) : ∀ (m k : Nat) (acc : Int32), k + m = A.rs.length + 1 → pm_W l E yX4_countOldResults cX4_countOldResults 3 (some .int) d 0 0 4 [(2, .int (nI k)), (1, .int acc), (0, .ref 15)] [] S I J P (pm_N E Q)
  | 0, k, acc, hk => by
    have hsl := hO.2.2.2.2.2.2.2.2.2.2.1
    have hrl := hO.2.2.2.2.2.2.2.2.2.2.2.1
    refine pw_iload_n dX4_countOldResults_4 rfl ?_
    refine pw_aload_n dX4_countOldResults_5 rfl ?_
    refine pw_getI fX4_53 dX4_countOldResults_6 (sh_lt hG (by decide)) (sh_tg hG 13 rfl) rfl ?_
    refine pw_icmpN_gt _ _ (tgt := 49) dX4_countOldResults_9 (by decide) (rfl) (hc.r) (by omega) (by omega) (fun h9 => ?_) (fun h9 => absurd h9 (by omega))
    refine pw_iload_n dX4_countOldResults_49 rfl ?_
    exact pw_iret dX4_countOldResults_50 rfl (kx _)
  | m + 1, k, acc, hk => by
    have hsl := hO.2.2.2.2.2.2.2.2.2.2.1
    have hrl := hO.2.2.2.2.2.2.2.2.2.2.2.1
    refine pw_iload_n dX4_countOldResults_4 rfl ?_
    refine pw_aload_n dX4_countOldResults_5 rfl ?_
    refine pw_getI fX4_53 dX4_countOldResults_6 (sh_lt hG (by decide)) (sh_tg hG 13 rfl) rfl ?_
    refine pw_icmpN_gt _ _ (tgt := 49) dX4_countOldResults_9 (by decide) (rfl) (hc.r) (by omega) (by omega) (fun h9 => absurd h9 (by omega)) (fun h9 => ?_)
    refine pw_aload_n dX4_countOldResults_12 rfl ?_
    refine pw_getR fX4_34 dX4_countOldResults_13 (sh_lt hG (by decide)) (sh_tg hG 13 rfl) rfl (gr_at hP 18 rfl) ?_
    refine pw_iload_n dX4_countOldResults_16 rfl ?_
    refine pw_callV (as := [_]) (kc' := 0) (ks' := 0) lX4_109 dX4_countOldResults_17 rfl rfl (sh_lt hG (by decide)) (sh_tg hG 28 rfl) (Nat.le_of_ble_eq_true rfl) (by omega) (Nat.le_of_ble_eq_true rfl) (Nat.zero_le _) (Nat.zero_le _) ?_
    refine v_kind30X hG hP (fun a1 => ?_)
    refine pw_iconst (v := nI 2) dX4_countOldResults_20 (by decide) ?_
    refine pw_icmp_ne (tgt := 43) dX4_countOldResults_21 (by decide) (fun h21 => ?_) (fun h21 => ?_)
    · refine pw_sub [0, 1, 2] rfl ?_
      refine pw_iinc (lv' := [(2, _), (1, _), (0, _)]) dX4_countOldResults_43 rfl (by decide) rfl ?_
      refine pw_goto (tgt := 4) dX4_countOldResults_46 (by decide) ?_
      refine pm_lvs (lv' := [(2, .int (nI (k + 1))), (1, _), (0, _)]) (by rw [show nI k + Int32.ofInt 1 = nI (k + 1) from nI_add k 1]) ?_
      exact c_co_lp hG hP hd hc hO ht kx m (k + 1) _ (by omega)
    · refine pw_aload_n dX4_countOldResults_24 rfl ?_
      refine pw_aload_n dX4_countOldResults_25 rfl ?_
      refine pw_getR fX4_34 dX4_countOldResults_26 (sh_lt hG (by decide)) (sh_tg hG 13 rfl) rfl (gr_at hP 18 rfl) ?_
      refine pw_iload_n dX4_countOldResults_29 rfl ?_
      refine pw_callV (as := [_]) (kc' := 0) (ks' := 0) lX4_112 dX4_countOldResults_30 rfl rfl (sh_lt hG (by decide)) (sh_tg hG 28 rfl) (Nat.le_of_ble_eq_true rfl) (by omega) (Nat.le_of_ble_eq_true rfl) (Nat.zero_le _) (Nat.zero_le _) ?_
      refine v_core30X hG hP (fun a2 => ?_)
      refine pw_l2i dX4_countOldResults_33 ?_
      refine pw_callV (as := [_]) (kc' := 0) (ks' := 0) lX4_116 dX4_countOldResults_34 rfl rfl (sh_lt hG (by decide)) (sh_tg hG 13 rfl) (Nat.le_of_ble_eq_true rfl) (by omega) (Nat.le_of_ble_eq_true rfl) (Nat.zero_le _) (Nat.zero_le _) ?_
      refine c_isOldX hG hP (by omega) ht hc hO (fun a3 => ?_)
      refine pw_if_eq (tgt := 43) dX4_countOldResults_37 (by decide) (fun h37 => ?_) (fun h37 => ?_)
      · refine pw_sub [0, 1, 2] rfl ?_
        refine pw_iinc (lv' := [(2, _), (1, _), (0, _)]) dX4_countOldResults_43 rfl (by decide) rfl ?_
        refine pw_goto (tgt := 4) dX4_countOldResults_46 (by decide) ?_
        refine pm_lvs (lv' := [(2, .int (nI (k + 1))), (1, _), (0, _)]) (by rw [show nI k + Int32.ofInt 1 = nI (k + 1) from nI_add k 1]) ?_
        exact c_co_lp hG hP hd hc hO ht kx m (k + 1) _ (by omega)
      · refine pw_iinc (lv' := [(1, _), (2, _), (0, _)]) dX4_countOldResults_40 rfl (by decide) rfl ?_
        refine pw_sub [1, 0, 2] rfl ?_
        refine pw_iinc (lv' := [(2, _), (1, _), (0, _)]) dX4_countOldResults_43 rfl (by decide) rfl ?_
        refine pw_goto (tgt := 4) dX4_countOldResults_46 (by decide) ?_
        refine pm_lvs (lv' := [(2, .int (nI (k + 1))), (1, _), (0, _)]) (by rw [show nI k + Int32.ofInt 1 = nI (k + 1) from nI_add k 1]) ?_
        exact c_co_lp hG hP hd hc hO ht kx m (k + 1) _ (by omega)
set_option maxRecDepth 20000 in
set_option maxHeartbeats 400000 in
theorem c_cntO {l : Launch} {E : pmE} {d : Nat} {S : pmS} {I : pmI} {J : pmJ} {P : pmP} {Q : Option Value → pmS → pmI → pmJ → pmP → Prop} (hG : sh_St S) (hP : gr_St P) (hd : 5 ≤ d) {A : aS} {Z : Nat → Nat} {b : Nat} (hc : cA S I J P A Z b) (hO : aO A) {t : List tH} {m9 : Nat} (ht : tC S I J P A t b m9) (k : ∀ a, Q (some (.int a)) S I J P) : pm_Met l E yX4_countOldResults cX4_countOldResults 3 (some .int) d 0 0 [.ref 15] S I J P Q := by
  unfold pm_Met
  refine pm_lvs (lv' := [(0, _)]) rfl ?_
  refine pw_iconst (v := nI 0) dX4_countOldResults_0 (by decide) ?_
  refine pw_istore_n (lv' := [(1, _), (0, _)]) dX4_countOldResults_1 (by decide) rfl ?_
  refine pw_iconst (v := nI 1) dX4_countOldResults_2 (by decide) ?_
  refine pw_istore_n (lv' := [(2, _), (1, _), (0, _)]) dX4_countOldResults_3 (by decide) rfl ?_
  exact c_co_lp hG hP hd hc hO ht k A.rs.length 1 _ (by omega)
set_option maxRecDepth 20000 in
set_option maxHeartbeats 400000 in
theorem c_count {l : Launch} {E : pmE} {d : Nat} {S : pmS} {I : pmI} {J : pmJ} {P : pmP} {Q : Option Value → pmS → pmI → pmJ → pmP → Prop} (hG : sh_St S) (hP : gr_St P) (hd : 7 ≤ d) {y : Int32} {A : aS} {Z : Nat → Nat} {b : Nat} (hc : cA S I J P A Z b) (hO : aO A) {t : List tH} {m9 : Nat} (ht : tC S I J P A t b m9) (k : ∀ a, Q (some (.int a)) S I J P) : pm_Met l E yX9_count cX9_count 2 (some .int) d 0 0 [.ref 2, .int y] S I J P Q := by
  unfold pm_Met
  refine pm_lvs (lv' := [(0, _), (1, _)]) rfl ?_
  by_cases hsw : y = 0 ∨ y = 1 ∨ y = 2 ∨ y = 3 ∨ y = 4 ∨ y = 5 ∨ y = 6
  · rcases hsw with rfl | rfl | rfl | rfl | rfl | rfl | rfl
    · refine pw_iload_n dX9_count_0 rfl ?_
      refine pw_tableIn (off := 43) (tgt := 44) dX9_count_1 (by decide) (by decide) (by decide) (by decide) ?_
      refine pw_aload_n dX9_count_44 rfl ?_
      refine pw_getR fX9_32 dX9_count_45 (sh_lt hG (by decide)) (sh_tg hG 0 rfl) rfl (gr_at hP 3 rfl) ?_
      refine pw_callV (as := []) (kc' := 0) (ks' := 0) lX9_170 dX9_count_48 rfl rfl (sh_lt hG (by decide)) (sh_tg hG 13 rfl) (Nat.le_of_ble_eq_true rfl) (by omega) (Nat.le_of_ble_eq_true rfl) (Nat.zero_le _) (Nat.zero_le _) ?_
      unfold pm_Met
      refine pm_lvs (lv' := [(0, _)]) rfl ?_
      refine pw_aload_n dX4_keptCount_0 rfl ?_
      refine pw_getI fX4_49 dX4_keptCount_1 (sh_lt hG (by decide)) (sh_tg hG 13 rfl) rfl ?_
      refine pw_iret dX4_keptCount_4 rfl ?_
      refine pw_goto (tgt := 116) dX9_count_51 (by decide) ?_
      exact pw_iret dX9_count_116 rfl (k _)
    · refine pw_iload_n dX9_count_0 rfl ?_
      refine pw_tableIn (off := 53) (tgt := 54) dX9_count_1 (by decide) (by decide) (by decide) (by decide) ?_
      refine pw_aload_n dX9_count_54 rfl ?_
      refine pw_getR fX9_32 dX9_count_55 (sh_lt hG (by decide)) (sh_tg hG 0 rfl) rfl (gr_at hP 3 rfl) ?_
      refine pw_callV (as := []) (kc' := 0) (ks' := 0) lX9_173 dX9_count_58 rfl rfl (sh_lt hG (by decide)) (sh_tg hG 13 rfl) (Nat.le_of_ble_eq_true rfl) (by omega) (Nat.le_of_ble_eq_true rfl) (Nat.zero_le _) (Nat.zero_le _) ?_
      unfold pm_Met
      refine pm_lvs (lv' := [(0, _)]) rfl ?_
      refine pw_aload_n dX4_resultCount_0 rfl ?_
      refine pw_getI fX4_53 dX4_resultCount_1 (sh_lt hG (by decide)) (sh_tg hG 13 rfl) rfl ?_
      refine pw_iret dX4_resultCount_4 rfl ?_
      refine pw_goto (tgt := 116) dX9_count_61 (by decide) ?_
      exact pw_iret dX9_count_116 rfl (k _)
    · refine pw_iload_n dX9_count_0 rfl ?_
      refine pw_tableIn (off := 63) (tgt := 64) dX9_count_1 (by decide) (by decide) (by decide) (by decide) ?_
      refine pw_aload_n dX9_count_64 rfl ?_
      refine pw_getR fX9_32 dX9_count_65 (sh_lt hG (by decide)) (sh_tg hG 0 rfl) rfl (gr_at hP 3 rfl) ?_
      refine pw_getR fX9_72 dX9_count_68 (sh_lt hG (by decide)) (sh_tg hG 13 rfl) rfl (gr_at hP 15 rfl) ?_
      refine pw_callV (as := []) (kc' := 0) (ks' := 0) lX9_176 dX9_count_71 rfl rfl (sh_lt hG (by decide)) (sh_tg hG 14 rfl) (Nat.le_of_ble_eq_true rfl) (by omega) (Nat.le_of_ble_eq_true rfl) (Nat.zero_le _) (Nat.zero_le _) ?_
      unfold pm_Met
      refine pm_lvs (lv' := [(0, _)]) rfl ?_
      refine pw_aload_n dX2_size_0 rfl ?_
      refine pw_getI fX2_25 dX2_size_1 (sh_lt hG (by decide)) (sh_tg hG 14 rfl) rfl ?_
      refine pw_iret dX2_size_4 rfl ?_
      refine pw_goto (tgt := 116) dX9_count_74 (by decide) ?_
      exact pw_iret dX9_count_116 rfl (k _)
    · refine pw_iload_n dX9_count_0 rfl ?_
      refine pw_tableIn (off := 76) (tgt := 77) dX9_count_1 (by decide) (by decide) (by decide) (by decide) ?_
      refine pw_aload_n dX9_count_77 rfl ?_
      refine pw_getI fX9_49 dX9_count_78 (sh_lt hG (by decide)) (sh_tg hG 0 rfl) rfl ?_
      refine pw_goto (tgt := 116) dX9_count_81 (by decide) ?_
      exact pw_iret dX9_count_116 rfl (k _)
    · refine pw_iload_n dX9_count_0 rfl ?_
      refine pw_tableIn (off := 83) (tgt := 84) dX9_count_1 (by decide) (by decide) (by decide) (by decide) ?_
      refine pw_aload_n dX9_count_84 rfl ?_
      refine pw_getR fX9_32 dX9_count_85 (sh_lt hG (by decide)) (sh_tg hG 0 rfl) rfl (gr_at hP 3 rfl) ?_
      refine pw_callV (as := []) (kc' := 0) (ks' := 0) lX9_179 dX9_count_88 rfl rfl (sh_lt hG (by decide)) (sh_tg hG 13 rfl) (Nat.le_of_ble_eq_true rfl) (by omega) (Nat.le_of_ble_eq_true rfl) (Nat.zero_le _) (Nat.zero_le _) ?_
      refine c_cntW hG hP (by omega) hc hO (fun a3 => ?_)
      refine pw_goto (tgt := 116) dX9_count_91 (by decide) ?_
      exact pw_iret dX9_count_116 rfl (k _)
    · refine pw_iload_n dX9_count_0 rfl ?_
      refine pw_tableIn (off := 93) (tgt := 94) dX9_count_1 (by decide) (by decide) (by decide) (by decide) ?_
      refine pw_aload_n dX9_count_94 rfl ?_
      refine pw_getR fX9_32 dX9_count_95 (sh_lt hG (by decide)) (sh_tg hG 0 rfl) rfl (gr_at hP 3 rfl) ?_
      refine pw_callV (as := []) (kc' := 0) (ks' := 0) lX9_182 dX9_count_98 rfl rfl (sh_lt hG (by decide)) (sh_tg hG 13 rfl) (Nat.le_of_ble_eq_true rfl) (by omega) (Nat.le_of_ble_eq_true rfl) (Nat.zero_le _) (Nat.zero_le _) ?_
      refine c_cntO hG hP (by omega) hc hO ht (fun a3 => ?_)
      refine pw_goto (tgt := 116) dX9_count_101 (by decide) ?_
      exact pw_iret dX9_count_116 rfl (k _)
    · refine pw_iload_n dX9_count_0 rfl ?_
      refine pw_tableIn (off := 103) (tgt := 104) dX9_count_1 (by decide) (by decide) (by decide) (by decide) ?_
      refine pw_aload_n dX9_count_104 rfl ?_
      refine pw_getR fX9_41 dX9_count_105 (sh_lt hG (by decide)) (sh_tg hG 0 rfl) rfl (gr_at hP 4 rfl) ?_
      refine pw_callV (as := []) (kc' := 0) (ks' := 0) lX9_185 dX9_count_108 rfl rfl (sh_lt hG (by decide)) (sh_tg hG 32 rfl) (Nat.le_of_ble_eq_true rfl) (by omega) (Nat.le_of_ble_eq_true rfl) (Nat.zero_le _) (Nat.zero_le _) ?_
      unfold pm_Met
      refine pm_lvs (lv' := [(0, _)]) rfl ?_
      refine pw_aload_n dX1_stepsInAll_0 rfl ?_
      refine pw_getI fX1_46 dX1_stepsInAll_1 (sh_lt hG (by decide)) (sh_tg hG 32 rfl) rfl ?_
      refine pw_iret dX1_stepsInAll_4 rfl ?_
      refine pw_goto (tgt := 116) dX9_count_111 (by decide) ?_
      exact pw_iret dX9_count_116 rfl (k _)
  · have q := sw_out hsw
    refine pw_iload_n dX9_count_0 rfl ?_
    refine pw_tableOut (tgt := 114) dX9_count_1 q (by decide) ?_
    refine pw_bipush (v := -2) dX9_count_114 (by decide) ?_
    exact pw_iret dX9_count_116 rfl (k _)
