set_option maxRecDepth 20000 in
set_option maxHeartbeats 400000 in
theorem r_lt_lp {l : Launch} {E : pmE} {d : Nat} {S : pmS} {I : pmI} {J : pmJ} {P : pmP} {Q : Option Value → pmS → pmI → pmJ → pmP → Prop} (hG : sh_St S) (hP : gr_St P) (hd : 1 ≤ d) {j : Nat} {y : Int32} (hj : j < 40) (kx : ∀ a, Q (some (.int a)) S I J P) : ∀ (m k : Nat) (acc : Int32), k + m = 8 → pm_W l E yX10_letter cX10_letter 5 (some .int) d 0 0 20 [(4, .int (nI k)), (3, .int acc), (0, .ref 47), (1, .int (nI j)), (2, .int y)] [] S I J P (pm_N E Q)
  | 0, k, acc, hk => by
    refine pw_iload dX10_letter_20 rfl ?_
    refine pw_bipush (v := nI 8) dX10_letter_22 (by decide) ?_
    refine pw_icmpN_ge _ _ (tgt := 62) dX10_letter_24 (by decide) (rfl) (rfl) (by omega) (by omega) (fun h24 => ?_) (fun h24 => absurd h24 (by omega))
    refine pw_iload_n dX10_letter_62 rfl ?_
    refine pw_iconst (v := nI 0) dX10_letter_63 (by decide) ?_
    refine pw_iload_n dX10_letter_64 rfl ?_
    refine pw_iconst (v := nI 1) dX10_letter_65 (by decide) ?_
    refine pw_isub dX10_letter_66 ?_
    refine pw_callS (as := [_, _, _]) (kc' := 0) (ks' := 0) lX10_160 dX10_letter_67 rfl rfl (Nat.le_of_ble_eq_true rfl) (by omega) (Nat.le_of_ble_eq_true rfl) (Nat.zero_le _) (Nat.zero_le _) ?_
    refine c_X10_in (fun q1 q2 => ?_) (fun _ => ?_)
    · refine pw_if_eq (tgt := 96) dX10_letter_70 (by decide) (fun h => absurd h (by decide)) (fun h70 => ?_)
      refine pw_aload_n dX10_letter_73 rfl ?_
      refine pw_getR fX10_13 dX10_letter_74 (sh_lt hG (by decide)) (sh_tg hG 45 rfl) rfl (gr_at hP 41 rfl) ?_
      refine pw_iload_n dX10_letter_77 rfl ?_
      refine pw_laldN j dX10_letter_78 (sh_lt hG (by decide)) (sh_sh hG 47 rfl) (by decide) (rfl) (by omega) ?_
      refine pw_bipush (v := nI 8) dX10_letter_79 (by decide) ?_
      refine pw_iload_n dX10_letter_81 rfl ?_
      refine pw_iconst (v := nI 1) dX10_letter_82 (by decide) ?_
      refine pw_isub dX10_letter_83 ?_
      refine pw_iload_n dX10_letter_84 rfl ?_
      refine pw_isub dX10_letter_85 ?_
      refine pw_imul dX10_letter_86 ?_
      refine pw_lshr dX10_letter_87 ?_
      refine pw_ldc2 dX10_letter_88 kX10_158 ?_
      refine pw_land dX10_letter_91 ?_
      refine pw_l2i dX10_letter_92 ?_
      refine pw_goto (tgt := 98) dX10_letter_93 (by decide) ?_
      exact pw_iret dX10_letter_98 rfl (kx _)
    · refine pw_if_eq (tgt := 96) dX10_letter_70 (by decide) (fun h70 => ?_) (fun h => absurd (by decide) h)
      refine pw_bipush (v := -5) dX10_letter_96 (by decide) ?_
      exact pw_iret dX10_letter_98 rfl (kx _)
  | m + 1, k, acc, hk => by
    refine pw_iload dX10_letter_20 rfl ?_
    refine pw_bipush (v := nI 8) dX10_letter_22 (by decide) ?_
    refine pw_icmpN_ge _ _ (tgt := 62) dX10_letter_24 (by decide) (rfl) (rfl) (by omega) (by omega) (fun h24 => absurd h24 (by omega)) (fun h24 => ?_)
    refine pw_iload_n dX10_letter_27 rfl ?_
    refine pw_aload_n dX10_letter_28 rfl ?_
    refine pw_getR fX10_13 dX10_letter_29 (sh_lt hG (by decide)) (sh_tg hG 45 rfl) rfl (gr_at hP 41 rfl) ?_
    refine pw_iload_n dX10_letter_32 rfl ?_
    refine pw_laldN j dX10_letter_33 (sh_lt hG (by decide)) (sh_sh hG 47 rfl) (by decide) (rfl) (by omega) ?_
    refine pw_bipush (v := nI 8) dX10_letter_34 (by decide) ?_
    refine pw_iload dX10_letter_36 rfl ?_
    refine pw_imul dX10_letter_38 ?_
    refine pw_lshr dX10_letter_39 ?_
    refine pw_ldc2 dX10_letter_40 kX10_158 ?_
    refine pw_land dX10_letter_43 ?_
    refine pw_lconst (v := 0) dX10_letter_44 (by decide) ?_
    refine pw_lif_eq (tgt := 53) dX10_letter_45 dX10_letter_46 (by decide) (fun h46 => ?_) (fun h46 => ?_)
    · refine pw_iconst (v := nI 0) dX10_letter_53 (by decide) ?_
      refine pw_iadd dX10_letter_54 ?_
      refine pw_istore_n (lv' := [(3, _), (4, _), (0, _), (1, _), (2, _)]) dX10_letter_55 (by decide) rfl ?_
      refine pw_sub [1, 0, 2, 3, 4] rfl ?_
      refine pw_iinc (lv' := [(4, _), (3, _), (0, _), (1, _), (2, _)]) dX10_letter_56 rfl (by decide) rfl ?_
      refine pw_goto (tgt := 20) dX10_letter_59 (by decide) ?_
      refine pm_lvs (lv' := [(4, .int (nI (k + 1))), (3, _), (0, _), (1, _), (2, _)]) (by rw [show nI k + Int32.ofInt 1 = nI (k + 1) from nI_add k 1]) ?_
      exact r_lt_lp hG hP hd hj kx m (k + 1) _ (by omega)
    · refine pw_iconst (v := nI 1) dX10_letter_49 (by decide) ?_
      refine pw_goto (tgt := 54) dX10_letter_50 (by decide) ?_
      refine pw_iadd dX10_letter_54 ?_
      refine pw_istore_n (lv' := [(3, _), (4, _), (0, _), (1, _), (2, _)]) dX10_letter_55 (by decide) rfl ?_
      refine pw_sub [1, 0, 2, 3, 4] rfl ?_
      refine pw_iinc (lv' := [(4, _), (3, _), (0, _), (1, _), (2, _)]) dX10_letter_56 rfl (by decide) rfl ?_
      refine pw_goto (tgt := 20) dX10_letter_59 (by decide) ?_
      refine pm_lvs (lv' := [(4, .int (nI (k + 1))), (3, _), (0, _), (1, _), (2, _)]) (by rw [show nI k + Int32.ofInt 1 = nI (k + 1) from nI_add k 1]) ?_
      exact r_lt_lp hG hP hd hj kx m (k + 1) _ (by omega)
set_option maxRecDepth 20000 in
set_option maxHeartbeats 400000 in
theorem r_letter {l : Launch} {E : pmE} {d : Nat} {S : pmS} {I : pmI} {J : pmJ} {P : pmP} {Q : Option Value → pmS → pmI → pmJ → pmP → Prop} (hG : sh_St S) (hP : gr_St P) (hd : 2 ≤ d) {x y : Int32} {n : Nat} (hn : I 47 3 = nI n) (hl : n ≤ 40) (k : ∀ a, Q (some (.int a)) S (pm_u I 47 0 (nI 0)) J P) : pm_Met l E yX10_letter cX10_letter 5 (some .int) d 0 0 [.ref 47, .int x, .int y] S I J P Q := by
  unfold pm_Met
  refine pm_lvs (lv' := [(0, _), (1, _), (2, _)]) rfl ?_
  refine pw_aload_n dX10_letter_0 rfl ?_
  refine pw_iconst (v := nI 0) dX10_letter_1 (by decide) ?_
  refine pw_putI fX10_154 dX10_letter_2 (Or.inl rfl) (by decide) (sh_lt hG (by decide)) (sh_tg hG 45 rfl) rfl ?_
  refine pw_aload_n dX10_letter_5 rfl ?_
  refine pw_iload_n dX10_letter_6 rfl ?_
  refine pw_callV (as := [_]) (kc' := 0) (ks' := 0) lX10_360 dX10_letter_7 rfl rfl (sh_lt hG (by decide)) (sh_tg hG 45 rfl) (Nat.le_of_ble_eq_true rfl) (by omega) (Nat.le_of_ble_eq_true rfl) (Nat.zero_le _) (Nat.zero_le _) ?_
  refine c_X10_isName hG hP (by omega) (by rw [pm_u_eq, pm_up_ne (by decide)]; exact hn) hl (fun j hj e => ?_) (fun _ => ?_)
  · subst e
    refine pw_if_ne (tgt := 15) dX10_letter_10 (by decide) (fun h10 => ?_) (fun h => absurd h (by decide))
    refine pw_iconst (v := nI 0) dX10_letter_15 (by decide) ?_
    refine pw_istore_n (lv' := [(3, _), (0, _), (1, _), (2, _)]) dX10_letter_16 (by decide) rfl ?_
    refine pw_iconst (v := nI 0) dX10_letter_17 (by decide) ?_
    refine pw_istore (lv' := [(4, _), (3, _), (0, _), (1, _), (2, _)]) dX10_letter_18 (by decide) rfl ?_
    exact r_lt_lp hG hP (by omega) (by omega) k 8 0 _ rfl
  · refine pw_if_ne (tgt := 15) dX10_letter_10 (by decide) (fun h => absurd (by decide) h) (fun h10 => ?_)
    refine pw_iconst (v := -1) dX10_letter_13 (by decide) ?_
    exact pw_iret dX10_letter_14 rfl (k _)
