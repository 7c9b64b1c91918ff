set_option maxRecDepth 20000 in
set_option maxHeartbeats 400000 in
theorem r_rc0 {l : Launch} {E : pmE} {d : Nat} {S : pmS} {J : pmJ} {P : pmP} {Q : Option Value → pmS → pmI → pmJ → pmP → Prop} (hG : sh_St S) (hP : gr_St P) {I1 : pmI} {s : Nat} (kx : ∀ I', mkS I1 0 I' → pm_W l E yX10_reach cX10_reach 5 none d 0 0 21 [(2, .int (nI 64)), (0, .ref 47), (1, .int (nI s))] [] S I' J P (pm_N E Q)) : ∀ (m k : Nat) (I : pmI), k + m = 64 → (∀ a, a ≠ 94 → I a = I1 a) → (∀ j, j < k → I 94 j = nI 0) → pm_W l E yX10_reach cX10_reach 5 none d 0 0 2 [(2, .int (nI k)), (0, .ref 47), (1, .int (nI s))] [] S I J P (pm_N E Q)
  | 0, k, I, hk, h1, h2 => by
    have e : k = 64 := by omega
    subst e
    refine pw_iload_n dX10_reach_2 rfl ?_
    refine pw_bipush (v := nI 64) dX10_reach_3 (by decide) ?_
    refine pw_icmp_ge (tgt := 21) dX10_reach_5 (by decide) (fun h5 => ?_) (fun h => absurd (by decide) h)
    exact kx I ⟨h1, fun j hj => Or.inl (h2 j hj)⟩
  | m + 1, k, I, hk, h1, h2 => by
    refine pw_iload_n dX10_reach_2 rfl ?_
    refine pw_bipush (v := nI 64) dX10_reach_3 (by decide) ?_
    refine pw_icmpN_ge _ _ (tgt := 21) dX10_reach_5 (by decide) (rfl) (rfl) (by omega) (by omega) (fun h5 => absurd h5 (by omega)) (fun h5 => ?_)
    refine pw_aload_n dX10_reach_8 rfl ?_
    refine pw_getR fX10_150 dX10_reach_9 (sh_lt hG (by decide)) (sh_tg hG 45 rfl) rfl (gr_at hP 86 rfl) ?_
    refine pw_iload_n dX10_reach_12 rfl ?_
    refine pw_iconst (v := nI 0) dX10_reach_13 (by decide) ?_
    refine pw_zastN k dX10_reach_14 (by decide) (sh_lt hG (by decide)) (sh_sh hG 92 rfl) (by decide) (rfl) (by omega) (by decide) ?_
    refine pw_iinc (lv' := [(2, _), (0, _), (1, _)]) dX10_reach_15 rfl (by decide) rfl ?_
    refine pw_goto (tgt := 2) dX10_reach_18 (by decide) ?_
    refine pm_lvs (lv' := [(2, .int (nI (k + 1))), (0, _), (1, _)]) (by rw [show nI k + Int32.ofInt 1 = nI (k + 1) from nI_add k 1]) ?_
    refine r_rc0 hG hP kx m (k + 1) _ (by omega) (fun a ha => (pm_u_ne ha).trans (h1 a ha)) (fun j hj => ?_)
    show pm_u I 94 k (nI 0) 94 j = nI 0
    rw [pm_u_eq]
    by_cases e : j = k
    · subst e; exact pm_up_eq
    · rw [pm_up_ne e]; exact h2 j (by omega)
set_option maxRecDepth 20000 in
set_option maxHeartbeats 400000 in
theorem r_rc1 {l : Launch} {E : pmE} {d : Nat} {S : pmS} {J : pmJ} {P : pmP} {Q : Option Value → pmS → pmI → pmJ → pmP → Prop} (hG : sh_St S) (hP : gr_St P) (hd : 1 ≤ d) {I1 : pmI} {s m : Nat} (hs : s ≤ 40) (hm : m ≤ 60) (hW : nW I1 (64 * s) (64 * s + m)) {x2 : Int32} (kx : ∀ I', mkS I1 m I' → pm_W l E yX10_reach cX10_reach 5 none d 0 0 112 [(3, .int (-1)), (2, .int x2), (0, .ref 47), (1, .int (nI s))] [] S I' J P (pm_N E Q)) : ∀ (j : Nat) (I : pmI), j < 64 → mkS I1 m I → pm_W l E yX10_reach cX10_reach 5 none d 0 0 49 [(3, .int (nI j)), (2, .int x2), (0, .ref 47), (1, .int (nI s))] [] S I J P (pm_N E Q)
  | 0, I, hj, h => by
    refine pw_iload_n dX10_reach_49 rfl ?_
    refine pw_if_lt (tgt := 112) dX10_reach_50 (by decide) (fun h => absurd h (nI_pos (by omega))) (fun h50 => ?_)
    refine pw_bipush (v := nI 64) dX10_reach_53 (by decide) ?_
    refine pw_iload_n dX10_reach_55 rfl ?_
    refine pw_imul dX10_reach_56 ?_
    refine pw_iload_n dX10_reach_57 rfl ?_
    refine pw_iadd dX10_reach_58 ?_
    refine pw_ti (z := nI (64 * s + 0)) (by rw [show nI 64 * nI s = nI (64 * s) from (Int32.ofNat_mul 64 _).symm]; exact nI_add _ _) ?_
    refine pw_istore (lv' := [(4, _), (3, _), (2, _), (0, _), (1, _)]) dX10_reach_59 (by decide) rfl ?_
    refine pw_aload_n dX10_reach_61 rfl ?_
    refine pw_getR fX10_150 dX10_reach_62 (sh_lt hG (by decide)) (sh_tg hG 45 rfl) rfl (gr_at hP 86 rfl) ?_
    refine pw_iload_n dX10_reach_65 rfl ?_
    refine pw_zaldN 0 dX10_reach_66 (sh_lt hG (by decide)) (sh_sh hG 92 rfl) (by decide) (rfl) (by omega) ?_
    refine pw_if_eq (tgt := 106) dX10_reach_67 (by decide) (fun h67 => ?_) (fun h67 => ?_)
    · refine pw_sub [1, 2, 3, 4] rfl ?_
      refine pw_iinc (lv' := [(3, _), (2, _), (0, _), (1, _)]) dX10_reach_106 rfl (by decide) rfl ?_
      refine pw_goto (tgt := 49) dX10_reach_109 (by decide) ?_
      refine pm_lvs (lv' := [(3, .int (-1)), (2, _), (0, _), (1, _)]) (by rw [show nI 0 + Int32.ofInt (-1) = -1 from by decide]) ?_
      refine pw_iload_n dX10_reach_49 rfl ?_
      refine pw_if_lt (tgt := 112) dX10_reach_50 (by decide) (fun h50 => ?_) (fun h => absurd (by decide) h)
      exact kx _ h
    · have hjm : 0 < m := (h.2 0 (by omega)).resolve_left (fun q => h67 q)
      refine pw_aload_n dX10_reach_70 rfl ?_
      refine pw_iload_n dX10_reach_71 rfl ?_
      refine pw_aload_n dX10_reach_72 rfl ?_
      refine pw_getR fX10_59 dX10_reach_73 (sh_lt hG (by decide)) (sh_tg hG 45 rfl) rfl (gr_at hP 56 rfl) ?_
      refine pw_iload dX10_reach_76 rfl ?_
      refine pw_ialdN (64 * s + 0) dX10_reach_78 (sh_lt hG (by decide)) (sh_sh hG 62 rfl) (by decide) (rfl) (by omega) ?_
      refine pw_callV (as := [_, _]) (kc' := 0) (ks' := 0) lX10_363 dX10_reach_79 rfl rfl (sh_lt hG (by decide)) (sh_tg hG 45 rfl) (Nat.le_of_ble_eq_true rfl) (by omega) (Nat.le_of_ble_eq_true rfl) (Nat.zero_le _) (Nat.zero_le _) ?_
      refine r_mark hG hP hs hm h (by rw [h.1 64 (by decide)]; exact hW.1 (64 * s + 0) (by omega) (by omega) 64 (by decide) (by decide)) (fun I2 g2 => ?_)
      refine pw_aload_n dX10_reach_82 rfl ?_
      refine pw_iload_n dX10_reach_83 rfl ?_
      refine pw_aload_n dX10_reach_84 rfl ?_
      refine pw_getR fX10_62 dX10_reach_85 (sh_lt hG (by decide)) (sh_tg hG 45 rfl) rfl (gr_at hP 57 rfl) ?_
      refine pw_iload dX10_reach_88 rfl ?_
      refine pw_ialdN (64 * s + 0) dX10_reach_90 (sh_lt hG (by decide)) (sh_sh hG 63 rfl) (by decide) (rfl) (by omega) ?_
      refine pw_callV (as := [_, _]) (kc' := 0) (ks' := 0) lX10_363 dX10_reach_91 rfl rfl (sh_lt hG (by decide)) (sh_tg hG 45 rfl) (Nat.le_of_ble_eq_true rfl) (by omega) (Nat.le_of_ble_eq_true rfl) (Nat.zero_le _) (Nat.zero_le _) ?_
      refine r_mark hG hP hs hm g2 (by rw [g2.1 65 (by decide)]; exact hW.1 (64 * s + 0) (by omega) (by omega) 65 (by decide) (by decide)) (fun I3 g3 => ?_)
      refine pw_aload_n dX10_reach_94 rfl ?_
      refine pw_iload_n dX10_reach_95 rfl ?_
      refine pw_aload_n dX10_reach_96 rfl ?_
      refine pw_getR fX10_65 dX10_reach_97 (sh_lt hG (by decide)) (sh_tg hG 45 rfl) rfl (gr_at hP 58 rfl) ?_
      refine pw_iload dX10_reach_100 rfl ?_
      refine pw_ialdN (64 * s + 0) dX10_reach_102 (sh_lt hG (by decide)) (sh_sh hG 64 rfl) (by decide) (rfl) (by omega) ?_
      refine pw_callV (as := [_, _]) (kc' := 0) (ks' := 0) lX10_363 dX10_reach_103 rfl rfl (sh_lt hG (by decide)) (sh_tg hG 45 rfl) (Nat.le_of_ble_eq_true rfl) (by omega) (Nat.le_of_ble_eq_true rfl) (Nat.zero_le _) (Nat.zero_le _) ?_
      refine r_mark hG hP hs hm g3 (by rw [g3.1 66 (by decide)]; exact hW.1 (64 * s + 0) (by omega) (by omega) 66 (by decide) (by decide)) (fun I4 g4 => ?_)
      refine pw_sub [1, 2, 3, 4] rfl ?_
      refine pw_iinc (lv' := [(3, _), (2, _), (0, _), (1, _)]) dX10_reach_106 rfl (by decide) rfl ?_
      refine pw_goto (tgt := 49) dX10_reach_109 (by decide) ?_
      refine pm_lvs (lv' := [(3, .int (-1)), (2, _), (0, _), (1, _)]) (by rw [show nI 0 + Int32.ofInt (-1) = -1 from by decide]) ?_
      refine pw_iload_n dX10_reach_49 rfl ?_
      refine pw_if_lt (tgt := 112) dX10_reach_50 (by decide) (fun h50 => ?_) (fun h => absurd (by decide) h)
      exact kx _ g4
  | j + 1, I, hj, h => by
    have e1 : nI (j + 1) + Int32.ofInt (-1) = nI j := by
      rw [show nI (j + 1) = nI j + nI 1 by rw [nI_add], Int32.add_assoc, show nI 1 + Int32.ofInt (-1) = 0 by decide, Int32.add_zero]
    refine pw_iload_n dX10_reach_49 rfl ?_
    refine pw_if_lt (tgt := 112) dX10_reach_50 (by decide) (fun h => absurd h (nI_pos (by omega))) (fun h50 => ?_)
    refine pw_bipush (v := nI 64) dX10_reach_53 (by decide) ?_
    refine pw_iload_n dX10_reach_55 rfl ?_
    refine pw_imul dX10_reach_56 ?_
    refine pw_iload_n dX10_reach_57 rfl ?_
    refine pw_iadd dX10_reach_58 ?_
    refine pw_ti (z := nI (64 * s + (j + 1))) (by rw [show nI 64 * nI s = nI (64 * s) from (Int32.ofNat_mul 64 _).symm]; exact nI_add _ _) ?_
    refine pw_istore (lv' := [(4, _), (3, _), (2, _), (0, _), (1, _)]) dX10_reach_59 (by decide) rfl ?_
    refine pw_aload_n dX10_reach_61 rfl ?_
    refine pw_getR fX10_150 dX10_reach_62 (sh_lt hG (by decide)) (sh_tg hG 45 rfl) rfl (gr_at hP 86 rfl) ?_
    refine pw_iload_n dX10_reach_65 rfl ?_
    refine pw_zaldN (j + 1) dX10_reach_66 (sh_lt hG (by decide)) (sh_sh hG 92 rfl) (by decide) (rfl) (by omega) ?_
    refine pw_if_eq (tgt := 106) dX10_reach_67 (by decide) (fun h67 => ?_) (fun h67 => ?_)
    · refine pw_sub [1, 2, 3, 4] rfl ?_
      refine pw_iinc (lv' := [(3, _), (2, _), (0, _), (1, _)]) dX10_reach_106 rfl (by decide) rfl ?_
      refine pw_goto (tgt := 49) dX10_reach_109 (by decide) ?_
      refine pm_lvs (lv' := [(3, .int (nI j)), (2, _), (0, _), (1, _)]) (by rw [show _ = _ from e1]) ?_
      exact r_rc1 hG hP hd hs hm hW kx j _ (by omega) h
    · have hjm : (j + 1) < m := (h.2 (j + 1) (by omega)).resolve_left (fun q => h67 q)
      refine pw_aload_n dX10_reach_70 rfl ?_
      refine pw_iload_n dX10_reach_71 rfl ?_
      refine pw_aload_n dX10_reach_72 rfl ?_
      refine pw_getR fX10_59 dX10_reach_73 (sh_lt hG (by decide)) (sh_tg hG 45 rfl) rfl (gr_at hP 56 rfl) ?_
      refine pw_iload dX10_reach_76 rfl ?_
      refine pw_ialdN (64 * s + (j + 1)) dX10_reach_78 (sh_lt hG (by decide)) (sh_sh hG 62 rfl) (by decide) (rfl) (by omega) ?_
      refine pw_callV (as := [_, _]) (kc' := 0) (ks' := 0) lX10_363 dX10_reach_79 rfl rfl (sh_lt hG (by decide)) (sh_tg hG 45 rfl) (Nat.le_of_ble_eq_true rfl) (by omega) (Nat.le_of_ble_eq_true rfl) (Nat.zero_le _) (Nat.zero_le _) ?_
      refine r_mark hG hP hs hm h (by rw [h.1 64 (by decide)]; exact hW.1 (64 * s + (j + 1)) (by omega) (by omega) 64 (by decide) (by decide)) (fun I2 g2 => ?_)
      refine pw_aload_n dX10_reach_82 rfl ?_
      refine pw_iload_n dX10_reach_83 rfl ?_
      refine pw_aload_n dX10_reach_84 rfl ?_
      refine pw_getR fX10_62 dX10_reach_85 (sh_lt hG (by decide)) (sh_tg hG 45 rfl) rfl (gr_at hP 57 rfl) ?_
      refine pw_iload dX10_reach_88 rfl ?_
      refine pw_ialdN (64 * s + (j + 1)) dX10_reach_90 (sh_lt hG (by decide)) (sh_sh hG 63 rfl) (by decide) (rfl) (by omega) ?_
      refine pw_callV (as := [_, _]) (kc' := 0) (ks' := 0) lX10_363 dX10_reach_91 rfl rfl (sh_lt hG (by decide)) (sh_tg hG 45 rfl) (Nat.le_of_ble_eq_true rfl) (by omega) (Nat.le_of_ble_eq_true rfl) (Nat.zero_le _) (Nat.zero_le _) ?_
      refine r_mark hG hP hs hm g2 (by rw [g2.1 65 (by decide)]; exact hW.1 (64 * s + (j + 1)) (by omega) (by omega) 65 (by decide) (by decide)) (fun I3 g3 => ?_)
      refine pw_aload_n dX10_reach_94 rfl ?_
      refine pw_iload_n dX10_reach_95 rfl ?_
      refine pw_aload_n dX10_reach_96 rfl ?_
      refine pw_getR fX10_65 dX10_reach_97 (sh_lt hG (by decide)) (sh_tg hG 45 rfl) rfl (gr_at hP 58 rfl) ?_
      refine pw_iload dX10_reach_100 rfl ?_
      refine pw_ialdN (64 * s + (j + 1)) dX10_reach_102 (sh_lt hG (by decide)) (sh_sh hG 64 rfl) (by decide) (rfl) (by omega) ?_
      refine pw_callV (as := [_, _]) (kc' := 0) (ks' := 0) lX10_363 dX10_reach_103 rfl rfl (sh_lt hG (by decide)) (sh_tg hG 45 rfl) (Nat.le_of_ble_eq_true rfl) (by omega) (Nat.le_of_ble_eq_true rfl) (Nat.zero_le _) (Nat.zero_le _) ?_
      refine r_mark hG hP hs hm g3 (by rw [g3.1 66 (by decide)]; exact hW.1 (64 * s + (j + 1)) (by omega) (by omega) 66 (by decide) (by decide)) (fun I4 g4 => ?_)
      refine pw_sub [1, 2, 3, 4] rfl ?_
      refine pw_iinc (lv' := [(3, _), (2, _), (0, _), (1, _)]) dX10_reach_106 rfl (by decide) rfl ?_
      refine pw_goto (tgt := 49) dX10_reach_109 (by decide) ?_
      refine pm_lvs (lv' := [(3, .int (nI j)), (2, _), (0, _), (1, _)]) (by rw [show _ = _ from e1]) ?_
      exact r_rc1 hG hP hd hs hm hW kx j _ (by omega) g4
