set_option maxRecDepth 20000 in
set_option maxHeartbeats 400000 in
theorem r_thing {l : Launch} {E : pmE} {d : Nat} {S : pmS} {I : pmI} {J : pmJ} {P : pmP} {Q : Option Value → pmS → pmI → pmJ → pmP → Prop} (hG : sh_St S) (hP : gr_St P) (hd : 2 ≤ d) {x y : Int32} {A : aS} (hA : rA I J A) (hO : aO A) (hRT : rT I J A.th) (k : ∀ a, Q (some (.int a)) S (pm_u I 47 0 (nI 0)) J P) : pm_Met l E yX10_thing cX10_thing 5 (some .int) d 0 0 [.ref 47, .int x, .int y] S I J P Q := by
  unfold pm_Met
  have hsl := hO.2.2.2.2.2.2.2.2.2.2.1
  have hrl := hO.2.2.2.2.2.2.2.2.2.2.2.1
  have htl := hO.2.2.2.2.2.2.2.2.2.1
  have hA0 : rA (pm_u I 47 0 (nI 0)) J A := hA.mv' (fun a q1 q2 => ⟨pm_u_ne (by omega), rfl⟩) (by rw [pm_u_eq, pm_up_ne (by decide)]) (by rw [pm_u_eq, pm_up_ne (by decide)]) (by rw [pm_u_eq, pm_up_ne (by decide)])
  have hRT0 : rT (pm_u I 47 0 (nI 0)) J A.th := hRT.eq (by rw [pm_u_eq, pm_up_ne (by decide)]) (pm_u_ne (by decide)) (pm_u_ne (by decide)) rfl
  refine pm_lvs (lv' := [(0, _), (1, _), (2, _)]) rfl ?_
  refine pw_aload_n dX10_thing_0 rfl ?_
  refine pw_iconst (v := nI 0) dX10_thing_1 (by decide) ?_
  refine pw_putI fX10_154 dX10_thing_2 (Or.inl rfl) (by decide) (sh_lt hG (by decide)) (sh_tg hG 45 rfl) rfl ?_
  refine pw_iload_n dX10_thing_5 rfl ?_
  refine pw_iconst (v := nI 1) dX10_thing_6 (by decide) ?_
  refine pw_aload_n dX10_thing_7 rfl ?_
  refine pw_getI fX10_305 dX10_thing_8 (sh_lt hG (by decide)) (sh_tg hG 45 rfl) rfl ?_
  refine pw_ti (z := nI A.rs.length) hA0.r ?_
  refine pw_callS (as := [_, _, _]) (kc' := 0) (ks' := 0) lX10_160 dX10_thing_11 rfl rfl (Nat.le_of_ble_eq_true rfl) (by omega) (Nat.le_of_ble_eq_true rfl) (Nat.zero_le _) (Nat.zero_le _) ?_
  refine c_X10_in (fun q1 q2 => ?_) (fun _ => ?_)
  · obtain ⟨j, hj1, hj2, rfl⟩ := in_nI (by decide) (by omega) q1 q2
    obtain ⟨v, hv⟩ : ∃ v, A.rs[j - 1]? = some v := ⟨_, List.getElem?_eq_getElem (by omega)⟩
    have hvv := hA0.rs (j - 1) v hv
    rw [show j - 1 + 1 = j by omega] at hvv
    have hvO := hO.2.2.2.2.2.2.2.1 v (List.mem_of_getElem? hv)
    have hv2 := hvO.1
    refine pw_if_eq (tgt := 27) dX10_thing_14 (by decide) (fun h => absurd h (by decide)) (fun h14 => ?_)
    refine pw_aload_n dX10_thing_17 rfl ?_
    refine pw_getR fX10_80 dX10_thing_18 (sh_lt hG (by decide)) (sh_tg hG 45 rfl) rfl (gr_at hP 63 rfl) ?_
    refine pw_iload_n dX10_thing_21 rfl ?_
    refine pw_ialdN j dX10_thing_22 (sh_lt hG (by decide)) (sh_sh hG 69 rfl) (by decide) (rfl) (by omega) ?_
    refine pw_iconst (v := nI 2) dX10_thing_23 (by decide) ?_
    refine pw_icmpN_eq _ _ (tgt := 29) dX10_thing_24 (by decide) (hvv.1) (rfl) (by omega) (by omega) (fun h24 => ?_) (fun h24 => ?_)
    · obtain ⟨jj, hjj, ejj⟩ := hvO.2 h24
      obtain ⟨⟨s, vs⟩, hth⟩ : ∃ q, A.th[jj]? = some q := ⟨_, List.getElem?_eq_getElem hjj⟩
      obtain ⟨t1, t2, t3, t4⟩ := hO.2.2.2.2.2.2.2.2.1 jj s vs hth
      have hts := hRT0.2 jj s vs hth
      refine pw_aload_n dX10_thing_29 rfl ?_
      refine pw_getR fX10_83 dX10_thing_30 (sh_lt hG (by decide)) (sh_tg hG 45 rfl) rfl (gr_at hP 64 rfl) ?_
      refine pw_iload_n dX10_thing_33 rfl ?_
      refine pw_laldN j dX10_thing_34 (sh_lt hG (by decide)) (sh_sh hG 70 rfl) (by decide) (rfl) (by omega) ?_
      refine pw_l2i dX10_thing_35 ?_
      refine pw_ti (z := nI jj) (by rw [hvv.2, ejj]; exact lN_i _) ?_
      refine pw_istore_n (lv' := [(3, _), (0, _), (1, _), (2, _)]) dX10_thing_36 (by decide) rfl ?_
      refine pw_aload_n dX10_thing_37 rfl ?_
      refine pw_getR fX10_86 dX10_thing_38 (sh_lt hG (by decide)) (sh_tg hG 45 rfl) rfl (gr_at hP 65 rfl) ?_
      refine pw_iload_n dX10_thing_41 rfl ?_
      refine pw_ialdN jj dX10_thing_42 (sh_lt hG (by decide)) (sh_sh hG 71 rfl) (by decide) (rfl) (by omega) ?_
      refine pw_ti (z := nI s) hts.1 ?_
      refine pw_istore (lv' := [(4, _), (3, _), (0, _), (1, _), (2, _)]) dX10_thing_43 (by decide) rfl ?_
      by_cases hsw : y = 0 ∨ y = 1 ∨ y = 2 ∨ y = 3 ∨ y = 4 ∨ y = 5 ∨ y = 6
      · rcases hsw with rfl | rfl | rfl | rfl | rfl | rfl | rfl
        · refine pw_iload_n dX10_thing_45 rfl ?_
          refine pw_tableIn (off := 42) (tgt := 88) dX10_thing_46 (by decide) (by decide) (by decide) (by decide) ?_
          refine pw_aload_n dX10_thing_88 rfl ?_
          refine pw_getR fX10_35 dX10_thing_89 (sh_lt hG (by decide)) (sh_tg hG 45 rfl) rfl (gr_at hP 48 rfl) ?_
          refine pw_iload dX10_thing_92 rfl ?_
          refine pw_ialdN s dX10_thing_94 (sh_lt hG (by decide)) (sh_sh hG 54 rfl) (by decide) (rfl) (by omega) ?_
          exact pw_iret dX10_thing_95 rfl (k _)
        · refine pw_iload_n dX10_thing_45 rfl ?_
          refine pw_tableIn (off := 50) (tgt := 96) dX10_thing_46 (by decide) (by decide) (by decide) (by decide) ?_
          refine pw_aload_n dX10_thing_96 rfl ?_
          refine pw_getR fX10_44 dX10_thing_97 (sh_lt hG (by decide)) (sh_tg hG 45 rfl) rfl (gr_at hP 51 rfl) ?_
          refine pw_iload dX10_thing_100 rfl ?_
          refine pw_ialdN s dX10_thing_102 (sh_lt hG (by decide)) (sh_sh hG 57 rfl) (by decide) (rfl) (by omega) ?_
          exact pw_iret dX10_thing_103 rfl (k _)
        · refine pw_iload_n dX10_thing_45 rfl ?_
          refine pw_tableIn (off := 58) (tgt := 104) dX10_thing_46 (by decide) (by decide) (by decide) (by decide) ?_
          refine pw_aload_n dX10_thing_104 rfl ?_
          refine pw_getR fX10_38 dX10_thing_105 (sh_lt hG (by decide)) (sh_tg hG 45 rfl) rfl (gr_at hP 49 rfl) ?_
          refine pw_iload dX10_thing_108 rfl ?_
          refine pw_ialdN s dX10_thing_110 (sh_lt hG (by decide)) (sh_sh hG 55 rfl) (by decide) (rfl) (by omega) ?_
          exact pw_iret dX10_thing_111 rfl (k _)
        · refine pw_iload_n dX10_thing_45 rfl ?_
          refine pw_tableIn (off := 66) (tgt := 112) dX10_thing_46 (by decide) (by decide) (by decide) (by decide) ?_
          refine pw_aload_n dX10_thing_112 rfl ?_
          refine pw_iload_n dX10_thing_113 rfl ?_
          refine pw_callV (as := [_]) (kc' := 0) (ks' := 0) lX10_320 dX10_thing_114 rfl rfl (sh_lt hG (by decide)) (sh_tg hG 45 rfl) (Nat.le_of_ble_eq_true rfl) (by omega) (Nat.le_of_ble_eq_true rfl) (Nat.zero_le _) (Nat.zero_le _) ?_
          refine r_old hG hP hA0 hO hRT0 (by omega) hth t1 t2 (fun _ _ => ?_) (fun _ => ?_)
          · refine pw_if_eq (tgt := 124) dX10_thing_117 (by decide) (fun h117 => ?_) (fun h => absurd (by decide) h)
            refine pw_iconst (v := nI 0) dX10_thing_124 (by decide) ?_
            exact pw_iret dX10_thing_125 rfl (k _)
          · refine pw_if_eq (tgt := 124) dX10_thing_117 (by decide) (fun h => absurd h (by decide)) (fun h117 => ?_)
            refine pw_iconst (v := nI 1) dX10_thing_120 (by decide) ?_
            refine pw_goto (tgt := 125) dX10_thing_121 (by decide) ?_
            exact pw_iret dX10_thing_125 rfl (k _)
        · refine pw_iload_n dX10_thing_45 rfl ?_
          refine pw_tableIn (off := 80) (tgt := 126) dX10_thing_46 (by decide) (by decide) (by decide) (by decide) ?_
          refine pw_iload_n dX10_thing_126 rfl ?_
          refine pw_iconst (v := nI 4) dX10_thing_127 (by decide) ?_
          refine pw_isub dX10_thing_128 ?_
          refine pw_aload_n dX10_thing_129 rfl ?_
          refine pw_getR fX10_38 dX10_thing_130 (sh_lt hG (by decide)) (sh_tg hG 45 rfl) rfl (gr_at hP 49 rfl) ?_
          refine pw_iload dX10_thing_133 rfl ?_
          refine pw_ialdN s dX10_thing_135 (sh_lt hG (by decide)) (sh_sh hG 55 rfl) (by decide) (rfl) (by omega) ?_
          refine pw_icmp_ge (tgt := 154) dX10_thing_136 (by decide) (fun h136 => ?_) (fun h136 => ?_)
          · refine pw_bipush (v := -5) dX10_thing_154 (by decide) ?_
            exact pw_iret dX10_thing_156 rfl (k _)
          · refine pw_aload_n dX10_thing_139 rfl ?_
            refine pw_getR fX10_90 dX10_thing_140 (sh_lt hG (by decide)) (sh_tg hG 45 rfl) rfl (gr_at hP 66 rfl) ?_
            refine pw_iconst (v := nI 3) dX10_thing_143 (by decide) ?_
            refine pw_iload_n dX10_thing_144 rfl ?_
            refine pw_imul dX10_thing_145 ?_
            refine pw_iload_n dX10_thing_146 rfl ?_
            refine pw_iadd dX10_thing_147 ?_
            refine pw_iconst (v := nI 4) dX10_thing_148 (by decide) ?_
            refine pw_isub dX10_thing_149 ?_
            refine pw_ti (z := nI (3 * jj + 0)) (by rw [show nI 3 * nI jj = nI (3 * jj) from (Int32.ofNat_mul 3 _).symm, show (4 : Int32) = nI 4 from rfl, nI_add, show nI (3 * jj + 4) = nI (3 * jj + 0) + nI 4 by rw [nI_add], Int32.add_sub_cancel]) ?_
            refine pw_ialdN (3 * jj + 0) dX10_thing_150 (sh_lt hG (by decide)) (sh_sh hG 72 rfl) (by decide) (rfl) (by omega) ?_
            refine pw_goto (tgt := 156) dX10_thing_151 (by decide) ?_
            exact pw_iret dX10_thing_156 rfl (k _)
        · refine pw_iload_n dX10_thing_45 rfl ?_
          refine pw_tableIn (off := 80) (tgt := 126) dX10_thing_46 (by decide) (by decide) (by decide) (by decide) ?_
          refine pw_iload_n dX10_thing_126 rfl ?_
          refine pw_iconst (v := nI 4) dX10_thing_127 (by decide) ?_
          refine pw_isub dX10_thing_128 ?_
          refine pw_aload_n dX10_thing_129 rfl ?_
          refine pw_getR fX10_38 dX10_thing_130 (sh_lt hG (by decide)) (sh_tg hG 45 rfl) rfl (gr_at hP 49 rfl) ?_
          refine pw_iload dX10_thing_133 rfl ?_
          refine pw_ialdN s dX10_thing_135 (sh_lt hG (by decide)) (sh_sh hG 55 rfl) (by decide) (rfl) (by omega) ?_
          refine pw_icmp_ge (tgt := 154) dX10_thing_136 (by decide) (fun h136 => ?_) (fun h136 => ?_)
          · refine pw_bipush (v := -5) dX10_thing_154 (by decide) ?_
            exact pw_iret dX10_thing_156 rfl (k _)
          · refine pw_aload_n dX10_thing_139 rfl ?_
            refine pw_getR fX10_90 dX10_thing_140 (sh_lt hG (by decide)) (sh_tg hG 45 rfl) rfl (gr_at hP 66 rfl) ?_
            refine pw_iconst (v := nI 3) dX10_thing_143 (by decide) ?_
            refine pw_iload_n dX10_thing_144 rfl ?_
            refine pw_imul dX10_thing_145 ?_
            refine pw_iload_n dX10_thing_146 rfl ?_
            refine pw_iadd dX10_thing_147 ?_
            refine pw_iconst (v := nI 4) dX10_thing_148 (by decide) ?_
            refine pw_isub dX10_thing_149 ?_
            refine pw_ti (z := nI (3 * jj + 1)) (by rw [show nI 3 * nI jj = nI (3 * jj) from (Int32.ofNat_mul 3 _).symm, show (5 : Int32) = nI 5 from rfl, nI_add, show nI (3 * jj + 5) = nI (3 * jj + 1) + nI 4 by rw [nI_add], Int32.add_sub_cancel]) ?_
            refine pw_ialdN (3 * jj + 1) dX10_thing_150 (sh_lt hG (by decide)) (sh_sh hG 72 rfl) (by decide) (rfl) (by omega) ?_
            refine pw_goto (tgt := 156) dX10_thing_151 (by decide) ?_
            exact pw_iret dX10_thing_156 rfl (k _)
        · refine pw_iload_n dX10_thing_45 rfl ?_
          refine pw_tableIn (off := 80) (tgt := 126) dX10_thing_46 (by decide) (by decide) (by decide) (by decide) ?_
          refine pw_iload_n dX10_thing_126 rfl ?_
          refine pw_iconst (v := nI 4) dX10_thing_127 (by decide) ?_
          refine pw_isub dX10_thing_128 ?_
          refine pw_aload_n dX10_thing_129 rfl ?_
          refine pw_getR fX10_38 dX10_thing_130 (sh_lt hG (by decide)) (sh_tg hG 45 rfl) rfl (gr_at hP 49 rfl) ?_
          refine pw_iload dX10_thing_133 rfl ?_
          refine pw_ialdN s dX10_thing_135 (sh_lt hG (by decide)) (sh_sh hG 55 rfl) (by decide) (rfl) (by omega) ?_
          refine pw_icmp_ge (tgt := 154) dX10_thing_136 (by decide) (fun h136 => ?_) (fun h136 => ?_)
          · refine pw_bipush (v := -5) dX10_thing_154 (by decide) ?_
            exact pw_iret dX10_thing_156 rfl (k _)
          · refine pw_aload_n dX10_thing_139 rfl ?_
            refine pw_getR fX10_90 dX10_thing_140 (sh_lt hG (by decide)) (sh_tg hG 45 rfl) rfl (gr_at hP 66 rfl) ?_
            refine pw_iconst (v := nI 3) dX10_thing_143 (by decide) ?_
            refine pw_iload_n dX10_thing_144 rfl ?_
            refine pw_imul dX10_thing_145 ?_
            refine pw_iload_n dX10_thing_146 rfl ?_
            refine pw_iadd dX10_thing_147 ?_
            refine pw_iconst (v := nI 4) dX10_thing_148 (by decide) ?_
            refine pw_isub dX10_thing_149 ?_
            refine pw_ti (z := nI (3 * jj + 2)) (by rw [show nI 3 * nI jj = nI (3 * jj) from (Int32.ofNat_mul 3 _).symm, show (6 : Int32) = nI 6 from rfl, nI_add, show nI (3 * jj + 6) = nI (3 * jj + 2) + nI 4 by rw [nI_add], Int32.add_sub_cancel]) ?_
            refine pw_ialdN (3 * jj + 2) dX10_thing_150 (sh_lt hG (by decide)) (sh_sh hG 72 rfl) (by decide) (rfl) (by omega) ?_
            refine pw_goto (tgt := 156) dX10_thing_151 (by decide) ?_
            exact pw_iret dX10_thing_156 rfl (k _)
      · have q := sw_out hsw
        refine pw_iload_n dX10_thing_45 rfl ?_
        refine pw_tableOut (tgt := 157) dX10_thing_46 q (by decide) ?_
        refine pw_bipush (v := -2) dX10_thing_157 (by decide) ?_
        exact pw_iret dX10_thing_159 rfl (k _)
    · refine pw_iconst (v := -1) dX10_thing_27 (by decide) ?_
      exact pw_iret dX10_thing_28 rfl (k _)
  · refine pw_if_eq (tgt := 27) dX10_thing_14 (by decide) (fun h14 => ?_) (fun h => absurd (by decide) h)
    refine pw_iconst (v := -1) dX10_thing_27 (by decide) ?_
    exact pw_iret dX10_thing_28 rfl (k _)
