theorem in_n1 {x : Int32} {n : Nat} (hn : n < 2 ^ 31) (h1 : ¬ x < nI 0) (h2 : ¬ nI n - nI 1 < x) : ∃ j, j < n ∧ x = nI j := by
  cases n with
  | zero =>
    obtain ⟨i, hi, rfl⟩ := nn_I (show ¬ x < 0 from h1)
    refine absurd ?_ h2
    refine Int32.lt_iff_toInt_lt.mpr ?_
    rw [show nI i = Int32.ofNat i from rfl, Int32.toInt_ofNat_of_lt hi, show (nI 0 - nI 1).toInt = -1 by decide]
    omega
  | succ k =>
    rw [show nI (k + 1) - nI 1 = nI k from nI_pred k] at h2
    obtain ⟨j, q1, q2, q3⟩ := in_nI (by decide) (by omega) h1 h2
    exact ⟨j, by omega, q3⟩
set_option maxRecDepth 20000 in
set_option maxHeartbeats 400000 in
theorem r_text {l : Launch} {E : pmE} {d : Nat} {S : pmS} {I : pmI} {J : pmJ} {P : pmP} {Q : Option Value → pmS → pmI → pmJ → pmP → Prop} (hG : sh_St S) (hP : gr_St P) (hd : 1 ≤ d) {x y : Int32} {A : aS} (hA : rA I J A) (hO : aO A) (k : ∀ a y, Q (some (.int a)) S (pm_u I 47 0 y) J P) : pm_Met l E yX10_text cX10_text 3 (some .int) d 0 0 [.ref 47, .int x, .int y] S I J P Q := by
  unfold pm_Met
  have hsl := hO.2.2.2.2.2.2.2.2.2.2.1
  refine pm_lvs (lv' := [(0, _), (1, _), (2, _)]) rfl ?_
  refine pw_aload_n dX10_text_0 rfl ?_
  refine pw_iload_n dX10_text_1 rfl ?_
  refine pw_iconst (v := nI 0) dX10_text_2 (by decide) ?_
  refine pw_aload_n dX10_text_3 rfl ?_
  refine pw_getI fX10_220 dX10_text_4 (sh_lt hG (by decide)) (sh_tg hG 45 rfl) rfl ?_
  refine pw_ti (z := nI A.sn.length) hA.k ?_
  refine pw_iconst (v := nI 1) dX10_text_7 (by decide) ?_
  refine pw_isub dX10_text_8 ?_
  refine pw_callS (as := [_, _, _]) (kc' := 0) (ks' := 0) lX10_160 dX10_text_9 rfl rfl (Nat.le_of_ble_eq_true rfl) (by omega) (Nat.le_of_ble_eq_true rfl) (Nat.zero_le _) (Nat.zero_le _) ?_
  refine c_X10_in (fun q1 q2 => ?_) (fun _ => ?_)
  · obtain ⟨s, hs, rfl⟩ := in_n1 (by omega) q1 q2
    have hx := hA.sn hs
    have hxl := hx.2.2.2.2.2.1.2.1
    refine pw_if_eq (tgt := 35) dX10_text_12 (by decide) (fun h => absurd h (by decide)) (fun h12 => ?_)
    refine pw_iload_n dX10_text_15 rfl ?_
    refine pw_iconst (v := nI 0) dX10_text_16 (by decide) ?_
    refine pw_aload_n dX10_text_17 rfl ?_
    refine pw_getR fX10_50 dX10_text_18 (sh_lt hG (by decide)) (sh_tg hG 45 rfl) rfl (gr_at hP 53 rfl) ?_
    refine pw_iload_n dX10_text_21 rfl ?_
    refine pw_ialdN s dX10_text_22 (sh_lt hG (by decide)) (sh_sh hG 59 rfl) (by decide) (rfl) (by omega) ?_
    refine pw_ti (z := nI (A.at s).tx.length) hx.2.2.2.2.2.1.1 ?_
    refine pw_iconst (v := nI 1) dX10_text_23 (by decide) ?_
    refine pw_isub dX10_text_24 ?_
    refine pw_callS (as := [_, _, _]) (kc' := 0) (ks' := 0) lX10_160 dX10_text_25 rfl rfl (Nat.le_of_ble_eq_true rfl) (by omega) (Nat.le_of_ble_eq_true rfl) (Nat.zero_le _) (Nat.zero_le _) ?_
    refine c_X10_in (fun q1 q2 => ?_) (fun _ => ?_)
    · obtain ⟨j, hj, rfl⟩ := in_n1 (by omega) q1 q2
      refine pw_if_eq (tgt := 35) dX10_text_28 (by decide) (fun h => absurd h (by decide)) (fun h28 => ?_)
      refine pw_iconst (v := nI 0) dX10_text_31 (by decide) ?_
      refine pw_goto (tgt := 36) dX10_text_32 (by decide) ?_
      refine pw_putI fX10_154 dX10_text_36 (Or.inl rfl) (by decide) (sh_lt hG (by decide)) (sh_tg hG 45 rfl) rfl ?_
      refine pw_aload_n dX10_text_39 rfl ?_
      refine pw_getI fX10_154 dX10_text_40 (sh_lt hG (by decide)) (sh_tg hG 45 rfl) rfl ?_
      refine pw_ti (z := nI 0) (by rw [pm_u_eq, pm_up_eq]) ?_
      refine pw_if_ne (tgt := 60) dX10_text_43 (by decide) (fun h => absurd (by decide) h) (fun h43 => ?_)
      refine pw_aload_n dX10_text_46 rfl ?_
      refine pw_getR fX10_53 dX10_text_47 (sh_lt hG (by decide)) (sh_tg hG 45 rfl) rfl (gr_at hP 54 rfl) ?_
      refine pw_bipush (v := nI 120) dX10_text_50 (by decide) ?_
      refine pw_iload_n dX10_text_52 rfl ?_
      refine pw_imul dX10_text_53 ?_
      refine pw_iload_n dX10_text_54 rfl ?_
      refine pw_iadd dX10_text_55 ?_
      refine pw_ti (z := nI (120 * s + j)) (by rw [show nI 120 * nI s = nI (120 * s) from (Int32.ofNat_mul 120 _).symm]; exact nI_add _ _) ?_
      refine pw_ialdN (120 * s + j) dX10_text_56 (sh_lt hG (by decide)) (sh_sh hG 60 rfl) (by decide) (rfl) (by omega) ?_
      refine pw_goto (tgt := 61) dX10_text_57 (by decide) ?_
      exact pw_iret dX10_text_61 rfl (k _ _)
    · refine pw_if_eq (tgt := 35) dX10_text_28 (by decide) (fun h28 => ?_) (fun h => absurd (by decide) h)
      refine pw_iconst (v := nI 1) dX10_text_35 (by decide) ?_
      refine pw_putI fX10_154 dX10_text_36 (Or.inl rfl) (by decide) (sh_lt hG (by decide)) (sh_tg hG 45 rfl) rfl ?_
      refine pw_aload_n dX10_text_39 rfl ?_
      refine pw_getI fX10_154 dX10_text_40 (sh_lt hG (by decide)) (sh_tg hG 45 rfl) rfl ?_
      refine pw_ti (z := nI 1) (by rw [pm_u_eq, pm_up_eq]) ?_
      refine pw_if_ne (tgt := 60) dX10_text_43 (by decide) (fun h43 => ?_) (fun h => absurd h (by decide))
      refine pw_iconst (v := nI 0) dX10_text_60 (by decide) ?_
      exact pw_iret dX10_text_61 rfl (k _ _)
  · refine pw_if_eq (tgt := 35) dX10_text_12 (by decide) (fun h12 => ?_) (fun h => absurd (by decide) h)
    refine pw_iconst (v := nI 1) dX10_text_35 (by decide) ?_
    refine pw_putI fX10_154 dX10_text_36 (Or.inl rfl) (by decide) (sh_lt hG (by decide)) (sh_tg hG 45 rfl) rfl ?_
    refine pw_aload_n dX10_text_39 rfl ?_
    refine pw_getI fX10_154 dX10_text_40 (sh_lt hG (by decide)) (sh_tg hG 45 rfl) rfl ?_
    refine pw_ti (z := nI 1) (by rw [pm_u_eq, pm_up_eq]) ?_
    refine pw_if_ne (tgt := 60) dX10_text_43 (by decide) (fun h43 => ?_) (fun h => absurd h (by decide))
    refine pw_iconst (v := nI 0) dX10_text_60 (by decide) ?_
    exact pw_iret dX10_text_61 rfl (k _ _)
set_option maxRecDepth 20000 in
set_option maxHeartbeats 400000 in
theorem r_whole {l : Launch} {E : pmE} {d : Nat} {S : pmS} {I : pmI} {J : pmJ} {P : pmP} {Q : Option Value → pmS → pmI → pmJ → pmP → Prop} (hG : sh_St S) (hP : gr_St P) (hd : 1 ≤ d) {x : Int32} {n : Nat} (hn : I 47 27 = nI n) (hl : n ≤ 40) (k : ∀ a y, Q (some (.long a)) S (pm_u I 47 0 y) J P) : pm_Met l E yX10_whole cX10_whole 2 (some .long) d 0 0 [.ref 47, .int x] S I J P Q := by
  unfold pm_Met
  refine pm_lvs (lv' := [(0, _), (1, _)]) rfl ?_
  refine pw_aload_n dX10_whole_0 rfl ?_
  refine pw_iload_n dX10_whole_1 rfl ?_
  refine pw_iconst (v := nI 1) dX10_whole_2 (by decide) ?_
  refine pw_aload_n dX10_whole_3 rfl ?_
  refine pw_getI fX10_305 dX10_whole_4 (sh_lt hG (by decide)) (sh_tg hG 45 rfl) rfl ?_
  refine pw_ti (z := nI n) hn ?_
  refine pw_callS (as := [_, _, _]) (kc' := 0) (ks' := 0) lX10_160 dX10_whole_7 rfl rfl (Nat.le_of_ble_eq_true rfl) (by omega) (Nat.le_of_ble_eq_true rfl) (Nat.zero_le _) (Nat.zero_le _) ?_
  refine c_X10_in (fun q1 q2 => ?_) (fun _ => ?_)
  · obtain ⟨j, hj1, hj2, rfl⟩ := in_nI (by decide) (by omega) q1 q2
    refine pw_if_eq (tgt := 22) dX10_whole_10 (by decide) (fun h => absurd h (by decide)) (fun h10 => ?_)
    refine pw_aload_n dX10_whole_13 rfl ?_
    refine pw_getR fX10_80 dX10_whole_14 (sh_lt hG (by decide)) (sh_tg hG 45 rfl) rfl (gr_at hP 63 rfl) ?_
    refine pw_iload_n dX10_whole_17 rfl ?_
    refine pw_ialdN j dX10_whole_18 (sh_lt hG (by decide)) (sh_sh hG 69 rfl) (by decide) (rfl) (by omega) ?_
    refine pw_if_ne (tgt := 26) dX10_whole_19 (by decide) (fun h19 => ?_) (fun h19 => ?_)
    · refine pw_aload_n dX10_whole_26 rfl ?_
      refine pw_getR fX10_80 dX10_whole_27 (sh_lt hG (by decide)) (sh_tg hG 45 rfl) rfl (gr_at hP 63 rfl) ?_
      refine pw_iload_n dX10_whole_30 rfl ?_
      refine pw_ialdN j dX10_whole_31 (sh_lt hG (by decide)) (sh_sh hG 69 rfl) (by decide) (rfl) (by omega) ?_
      refine pw_iconst (v := nI 2) dX10_whole_32 (by decide) ?_
      refine pw_icmp_ne (tgt := 40) dX10_whole_33 (by decide) (fun h33 => ?_) (fun h33 => ?_)
      · refine pw_iconst (v := nI 0) dX10_whole_40 (by decide) ?_
        refine pw_putI fX10_154 dX10_whole_41 (Or.inl rfl) (by decide) (sh_lt hG (by decide)) (sh_tg hG 45 rfl) rfl ?_
        refine pw_aload_n dX10_whole_44 rfl ?_
        refine pw_getI fX10_154 dX10_whole_45 (sh_lt hG (by decide)) (sh_tg hG 45 rfl) rfl ?_
        refine pw_ti (z := nI 0) (by rw [pm_u_eq, pm_up_eq]) ?_
        refine pw_if_ne (tgt := 60) dX10_whole_48 (by decide) (fun h => absurd (by decide) h) (fun h48 => ?_)
        refine pw_aload_n dX10_whole_51 rfl ?_
        refine pw_getR fX10_83 dX10_whole_52 (sh_lt hG (by decide)) (sh_tg hG 45 rfl) rfl (gr_at hP 64 rfl) ?_
        refine pw_iload_n dX10_whole_55 rfl ?_
        refine pw_laldN j dX10_whole_56 (sh_lt hG (by decide)) (sh_sh hG 70 rfl) (by decide) (rfl) (by omega) ?_
        refine pw_goto (tgt := 61) dX10_whole_57 (by decide) ?_
        exact pw_lret dX10_whole_61 rfl (k _ _)
      · refine pw_iconst (v := nI 2) dX10_whole_36 (by decide) ?_
        refine pw_goto (tgt := 41) dX10_whole_37 (by decide) ?_
        refine pw_putI fX10_154 dX10_whole_41 (Or.inl rfl) (by decide) (sh_lt hG (by decide)) (sh_tg hG 45 rfl) rfl ?_
        refine pw_aload_n dX10_whole_44 rfl ?_
        refine pw_getI fX10_154 dX10_whole_45 (sh_lt hG (by decide)) (sh_tg hG 45 rfl) rfl ?_
        refine pw_ti (z := nI 2) (by rw [pm_u_eq, pm_up_eq]) ?_
        refine pw_if_ne (tgt := 60) dX10_whole_48 (by decide) (fun h48 => ?_) (fun h => absurd h (by decide))
        refine pw_lconst (v := 0) dX10_whole_60 (by decide) ?_
        exact pw_lret dX10_whole_61 rfl (k _ _)
    · refine pw_iconst (v := nI 1) dX10_whole_22 (by decide) ?_
      refine pw_goto (tgt := 41) dX10_whole_23 (by decide) ?_
      refine pw_putI fX10_154 dX10_whole_41 (Or.inl rfl) (by decide) (sh_lt hG (by decide)) (sh_tg hG 45 rfl) rfl ?_
      refine pw_aload_n dX10_whole_44 rfl ?_
      refine pw_getI fX10_154 dX10_whole_45 (sh_lt hG (by decide)) (sh_tg hG 45 rfl) rfl ?_
      refine pw_ti (z := nI 1) (by rw [pm_u_eq, pm_up_eq]) ?_
      refine pw_if_ne (tgt := 60) dX10_whole_48 (by decide) (fun h48 => ?_) (fun h => absurd h (by decide))
      refine pw_lconst (v := 0) dX10_whole_60 (by decide) ?_
      exact pw_lret dX10_whole_61 rfl (k _ _)
  · refine pw_if_eq (tgt := 22) dX10_whole_10 (by decide) (fun h10 => ?_) (fun h => absurd (by decide) h)
    refine pw_iconst (v := nI 1) dX10_whole_22 (by decide) ?_
    refine pw_goto (tgt := 41) dX10_whole_23 (by decide) ?_
    refine pw_putI fX10_154 dX10_whole_41 (Or.inl rfl) (by decide) (sh_lt hG (by decide)) (sh_tg hG 45 rfl) rfl ?_
    refine pw_aload_n dX10_whole_44 rfl ?_
    refine pw_getI fX10_154 dX10_whole_45 (sh_lt hG (by decide)) (sh_tg hG 45 rfl) rfl ?_
    refine pw_ti (z := nI 1) (by rw [pm_u_eq, pm_up_eq]) ?_
    refine pw_if_ne (tgt := 60) dX10_whole_48 (by decide) (fun h48 => ?_) (fun h => absurd h (by decide))
    refine pw_lconst (v := 0) dX10_whole_60 (by decide) ?_
    exact pw_lret dX10_whole_61 rfl (k _ _)
