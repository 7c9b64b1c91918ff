set_option maxRecDepth 20000 in
set_option maxHeartbeats 4000000 in
theorem t_qC {l : Launch} {E : pmE} {S : pmS} {P : pmP} {d : Nat} {Q : Option Value → pmS → pmI → pmJ → pmP → Prop} {tx : Nat → Nat} {n i kp : Nat} {pa : List Int64} {f : Nat} (hG : sh_St S) (hP : gr_St P) (hb : ∀ j, j < n → tx j < 128) (hd : 6 ≤ d) (h0 : qX l E S P d Q tx n i kp pa f 0) (hC : qC l E S P d Q tx n i kp pa f) : qC l E S P d Q tx n i kp pa (f + 1) := by
  intro g a op T m a0 m0 nm M1 M2 I J r hg hs hk he h82 hk1 he1 hN hm ho hT hr k1 k0
  have hkp := hs.2.1.2
  have hi6 := hs.1.2.1
  have hai := hs.2.2.1.2
  have hma := hs.2.2.2.2.2.2.1.2
  rw [ps_15, show (4 * nm + g) % 4 = g by omega, show (4 * nm + g) / 4 = nm by omega] at hr
  rcases pb_so hr with ⟨e, hq, her⟩ | ⟨b, L, hq, hr⟩
  · exact h0 a (op + 1) (T + 1) m I J _ hs hk1 he1 (by omega) (by omega) hq (fun b L N m' I' J' hh => nomatch hh) (fun e' I' J' hh hF hf => by cases hh; exact k0 e I' J' her hF hf)
  · refine h0 a (op + 1) (T + 1) m I J _ hs hk1 he1 (by omega) (by omega) hq (fun b' L' N2 m2 I2 J2 hh hs2 hre2 hnd2 hm2 hf2 => ?_) (fun e' I' J' hh => nomatch hh)
    cases hh
    have hes2 : I2 81 T = nI 2 := by rw [hf2.2.2.1 81 T (by decide) (by decide) (by omega)]; exact he
    have hk2 : I2 80 T = nI 5 := by rw [hf2.2.2.1 80 T (by decide) (by decide) (by omega)]; exact hk
    have ha2 : I2 82 T = nI (64 * kp + m0) := by rw [hf2.2.2.1 82 T (by decide) (by decide) (by omega)]; exact h82
    have e2 : ∀ x, 63 ≤ x → x ≤ 69 → I2 x (64 * kp + m0) = I x (64 * kp + m0) := fun x h1 h2 => hf2.2.2.2.1 x _ h1 h2 (by omega)
    have h63 : I2 63 (64 * kp + m0) = nI 3 := by rw [e2 63 (by decide) (by decide)]; exact hN.1
    have h67 : I2 67 (64 * kp + m0) = nI (tk_p tx n nm) := by rw [e2 67 (by decide) (by decide)]; exact hN.2.1
    have h68 : crT tx n I2 (64 * kp + m0) (tk_v tx n nm) := by
      obtain ⟨t, q1, q2, q3⟩ := hN.2.2.1
      exact ⟨t, q1, by rw [e2 68 (by decide) (by decide)]; exact q2, q3⟩
    have h69 : I2 69 (64 * kp + m0) = nI g := by rw [e2 69 (by decide) (by decide)]; exact hN.2.2.2.1
    have hbi := hs2.2.2.1.2
    have hmb := hs2.2.2.2.2.2.2.1.2
    have hkc := (rk_c (tk_k_c (tx := tx) (n := n) (i := b) hb).1)
    have hn2 : nT tx n kp pa I2 J2 (m0 + 1) m2 (m2 - m0 - 1) N2 L := hnd2.up (fq.refl (T := 0)) (Nat.le_refl _) (by omega)
    have hG2 : fq T (64 * kp + m0) I I2 J J2 := hf2.le (by omega) (by omega)
    rcases (show g = 0 ∨ g = 1 ∨ g = 2 by omega) with rfl | rfl | rfl
    · obtain ⟨_, rfl⟩ : 0 < 1 ∧ M1 = [] := hN.2.2.2.2.1.resolve_right (fun q => absurd q.1 (by omega))
      obtain ⟨_, rfl⟩ : 0 < 2 ∧ M2 = [] := hN.2.2.2.2.2.resolve_right (fun q => absurd q.1 (by omega))
      have hs3 := hs2.arg (b := 64) (c := 1) (g := 0) (j := 64 * kp + m0) rfl rfl (by decide) h63 h69 hnd2.ch
      have hG3 : fq T (64 * kp + m0) I (pm_u (pm_u I2 64 (64 * kp + m0) (nI N2)) 69 (64 * kp + m0) (nI 1)) J J2 := (hG2.trans (fq.nod (T := T) (K := 64 * kp + m0) (by decide) (by decide) (Nat.le_refl _)) (Nat.le_refl _) (Nat.le_refl _)).trans (fq.nod (T := T) (K := 64 * kp + m0) (by decide) (by decide) (Nat.le_refl _)) (Nat.le_refl _) (Nat.le_refl _)
      have e3 : ∀ x k, 63 ≤ x → x ≤ 69 → k ≠ 64 * kp + m0 → (pm_u (pm_u I2 64 (64 * kp + m0) (nI N2)) 69 (64 * kp + m0) (nI 1)) x k = I2 x k := by
        intro x k h1 h2 h3
        by_cases hx : x = 69
        · subst hx; rw [pm_u_eq, pm_up_ne h3, pm_u_ne (by decide)]
        · rw [pm_u_ne hx]
          by_cases hy : x = 64
          · subst hy; rw [pm_u_eq, pm_up_ne h3]
          · rw [pm_u_ne hy]
      have hn3 := hn2.up' e3 rfl
      have hcn : (pm_u (pm_u I2 64 (64 * kp + m0) (nI N2)) 69 (64 * kp + m0) (nI 1)) 64 (64 * kp + m0) = nI N2 := by rw [pm_u_ne (by decide), pm_u_eq, pm_up_eq]
      have h63n : (pm_u (pm_u I2 64 (64 * kp + m0) (nI N2)) 69 (64 * kp + m0) (nI 1)) 63 (64 * kp + m0) = nI 3 := by rw [pm_u_ne (by decide), pm_u_ne (by decide)]; exact h63
      have h67n : (pm_u (pm_u I2 64 (64 * kp + m0) (nI N2)) 69 (64 * kp + m0) (nI 1)) 67 (64 * kp + m0) = nI (tk_p tx n nm) := by rw [pm_u_ne (by decide), pm_u_ne (by decide)]; exact h67
      have h68n : crT tx n (pm_u (pm_u I2 64 (64 * kp + m0) (nI N2)) 69 (64 * kp + m0) (nI 1)) (64 * kp + m0) (tk_v tx n nm) := by
        obtain ⟨t, q1, q2, q3⟩ := h68
        exact ⟨t, q1, by rw [pm_u_ne (by decide), pm_u_ne (by decide)]; exact q2, q3⟩
      have h69n : (pm_u (pm_u I2 64 (64 * kp + m0) (nI N2)) 69 (64 * kp + m0) (nI 1)) 69 (64 * kp + m0) = nI 1 := by rw [pm_u_eq, pm_up_eq]
      by_cases hcm : tk_k tx n b = 44
      · rw [if_pos ⟨hcm, by omega⟩] at hr
        have hbl := hs2.lt (by rw [hcm]; decide) (by rw [hcm]; decide)
        have hs4 := hs3.at' (b := b + 1) (by omega) (by omega)
        have hG4 := hG3.trans (fq.put (T := T) (K := 64 * kp + m0) (k := 40) (x := nI (b + 1)) (by decide) (by decide)) (Nat.le_refl _) (Nat.le_refl _)
        unfold LH
        refine pw_aload_n dX10_readExpr_10 rfl ?_
        refine pw_getI fX10_213 dX10_readExpr_11 (sh_lt hG (by decide)) (sh_tg hG 45 rfl) rfl ?_
        refine pw_ifN_le _ (tgt := 204) dX10_readExpr_14 (by decide) (hs2.2.2.2.2.2.1.1) (by omega) (fun h14 => absurd h14 (by omega)) (fun h14 => ?_)
        refine pw_aload_n dX10_readExpr_17 rfl ?_
        refine pw_getI fX10_197 dX10_readExpr_18 (sh_lt hG (by decide)) (sh_tg hG 45 rfl) rfl ?_
        refine pw_if_ge (tgt := 204) dX10_readExpr_21 (by decide) (fun h => absurd h (by rw [hs2.2.2.2.1]; decide)) (fun h21 => ?_)
        refine pw_aload_n dX10_readExpr_24 rfl ?_
        refine pw_getI fX10_213 dX10_readExpr_25 (sh_lt hG (by decide)) (sh_tg hG 45 rfl) rfl ?_
        refine pw_iconst (v := nI 1) dX10_readExpr_28 (by decide) ?_
        refine pw_isub dX10_readExpr_29 ?_
        refine pw_ti (z := nI T) (by rw [hs2.2.2.2.2.2.1.1]; exact nI_pred T) ?_
        refine pw_istore_n (lv' := [(1, _), (0, _)]) dX10_readExpr_30 (by decide) rfl ?_
        refine pw_aload_n dX10_readExpr_31 rfl ?_
        refine pw_getR fX10_108 dX10_readExpr_32 (sh_lt hG (by decide)) (sh_tg hG 45 rfl) rfl (gr_at hP 72 rfl) ?_
        refine pw_iload_n dX10_readExpr_35 rfl ?_
        refine pw_ialdN T dX10_readExpr_36 (sh_lt hG (by decide)) (sh_sh hG 78 rfl) (by decide) (rfl) (by omega) ?_
        refine pw_ti (z := nI 5) hk2 ?_
        refine pw_tableOut (tgt := 196) dX10_readExpr_37 (by decide) (by decide) ?_
        refine pw_aload_n dX10_readExpr_196 rfl ?_
        refine pw_iload_n dX10_readExpr_197 rfl ?_
        refine pw_callV (as := [_]) (kc' := 0) (ks' := 0) lX10_260 dX10_readExpr_198 rfl rfl (sh_lt hG (by decide)) (sh_tg hG 45 rfl) (Nat.le_of_ble_eq_true rfl) (by omega) (Nat.le_of_ble_eq_true rfl) (Nat.zero_le _) (Nat.zero_le _) ?_
        unfold pm_Met
        refine pm_lvs (lv' := [(0, _), (1, _)]) rfl ?_
        refine pw_aload_n dX10_atom_0 rfl ?_
        refine pw_getR fX10_111 dX10_atom_1 (sh_lt hG (by decide)) (sh_tg hG 45 rfl) rfl (gr_at hP 73 rfl) ?_
        refine pw_iload_n dX10_atom_4 rfl ?_
        refine pw_ialdN T dX10_atom_5 (sh_lt hG (by decide)) (sh_sh hG 79 rfl) (by decide) (rfl) (by omega) ?_
        refine pw_ti (z := nI 2) hes2 ?_
        refine pw_lookup (off := 64) (tgt := 70) dX10_atom_6 (by decide) (by decide) (by decide) ?_
        refine pw_aload_n dX10_atom_70 rfl ?_
        refine pw_iload_n dX10_atom_71 rfl ?_
        refine pw_callV (as := [_]) (kc' := 0) (ks' := 0) lX10_247 dX10_atom_72 rfl rfl (sh_lt hG (by decide)) (sh_tg hG 45 rfl) (Nat.le_of_ble_eq_true rfl) (by omega) (Nat.le_of_ble_eq_true rfl) (Nat.zero_le _) (Nat.zero_le _) ?_
        unfold pm_Met
        refine pm_lvs (lv' := [(0, _), (1, _)]) rfl ?_
        refine pw_aload_n dX10_argument_0 rfl ?_
        refine pw_getR fX10_114 dX10_argument_1 (sh_lt hG (by decide)) (sh_tg hG 45 rfl) rfl (gr_at hP 74 rfl) ?_
        refine pw_iload_n dX10_argument_4 rfl ?_
        refine pw_ialdN T dX10_argument_5 (sh_lt hG (by decide)) (sh_sh hG 80 rfl) (by decide) (rfl) (by omega) ?_
        refine pw_ti (z := nI (64 * kp + m0)) ha2 ?_
        refine pw_istore_n (lv' := [(2, _), (0, _), (1, _)]) dX10_argument_6 (by decide) rfl ?_
        refine pw_aload_n dX10_argument_7 rfl ?_
        refine pw_getR fX10_59 dX10_argument_8 (sh_lt hG (by decide)) (sh_tg hG 45 rfl) rfl (gr_at hP 56 rfl) ?_
        refine pw_iload_n dX10_argument_11 rfl ?_
        refine pw_aload_n dX10_argument_12 rfl ?_
        refine pw_getR fX10_74 dX10_argument_13 (sh_lt hG (by decide)) (sh_tg hG 45 rfl) rfl (gr_at hP 61 rfl) ?_
        refine pw_iload_n dX10_argument_16 rfl ?_
        refine pw_ialdN (64 * kp + m0) dX10_argument_17 (sh_lt hG (by decide)) (sh_sh hG 67 rfl) (by decide) (rfl) (by omega) ?_
        refine pw_ti (z := nI 0) h69 ?_
        refine pw_if_ne (tgt := 28) dX10_argument_18 (by decide) (fun h => absurd (by decide) h) (fun hX10_argument_18 => ?_)
        refine pw_aload_n dX10_argument_21 rfl ?_
        refine pw_getI fX10_230 dX10_argument_22 (sh_lt hG (by decide)) (sh_tg hG 45 rfl) rfl ?_
        refine pw_ti (z := nI N2) hre2 ?_
        refine pw_goto (tgt := 34) dX10_argument_25 (by decide) ?_
        refine pw_iastN (64 * kp + m0) dX10_argument_34 (by decide) (sh_lt hG (by decide)) (sh_sh hG 62 rfl) (by decide) (rfl) (by omega) ?_
        refine pw_aload_n dX10_argument_35 rfl ?_
        refine pw_getR fX10_62 dX10_argument_36 (sh_lt hG (by decide)) (sh_tg hG 45 rfl) rfl (gr_at hP 57 rfl) ?_
        refine pw_iload_n dX10_argument_39 rfl ?_
        refine pw_aload_n dX10_argument_40 rfl ?_
        refine pw_getR fX10_74 dX10_argument_41 (sh_lt hG (by decide)) (sh_tg hG 45 rfl) rfl (gr_at hP 61 rfl) ?_
        refine pw_iload_n dX10_argument_44 rfl ?_
        refine pw_ialdN (64 * kp + m0) dX10_argument_45 (sh_lt hG (by decide)) (sh_sh hG 67 rfl) (by decide) (rfl) (by omega) ?_
        refine pw_ti (z := nI 0) (by rw [pm_u_ne (by decide)]; exact h69) ?_
        refine pw_iconst (v := nI 1) dX10_argument_46 (by decide) ?_
        refine pw_icmp_ne (tgt := 57) dX10_argument_47 (by decide) (fun hX10_argument_47 => ?_) (fun h => absurd h (by decide))
        refine pw_aload_n dX10_argument_57 rfl ?_
        refine pw_getR fX10_62 dX10_argument_58 (sh_lt hG (by decide)) (sh_tg hG 45 rfl) rfl (gr_at hP 57 rfl) ?_
        refine pw_iload_n dX10_argument_61 rfl ?_
        refine pw_ialdN (64 * kp + m0) dX10_argument_62 (sh_lt hG (by decide)) (sh_sh hG 63 rfl) (by decide) (rfl) (by omega) ?_
        refine pw_iastN (64 * kp + m0) dX10_argument_63 (by decide) (sh_lt hG (by decide)) (sh_sh hG 63 rfl) (by decide) (rfl) (by omega) ?_
        refine pw_aload_n dX10_argument_64 rfl ?_
        refine pw_getR fX10_65 dX10_argument_65 (sh_lt hG (by decide)) (sh_tg hG 45 rfl) rfl (gr_at hP 58 rfl) ?_
        refine pw_iload_n dX10_argument_68 rfl ?_
        refine pw_aload_n dX10_argument_69 rfl ?_
        refine pw_getR fX10_74 dX10_argument_70 (sh_lt hG (by decide)) (sh_tg hG 45 rfl) rfl (gr_at hP 61 rfl) ?_
        refine pw_iload_n dX10_argument_73 rfl ?_
        refine pw_ialdN (64 * kp + m0) dX10_argument_74 (sh_lt hG (by decide)) (sh_sh hG 67 rfl) (by decide) (rfl) (by omega) ?_
        refine pw_ti (z := nI 0) (by rw [pm_u_ne (by decide), pm_u_ne (by decide)]; exact h69) ?_
        refine pw_iconst (v := nI 2) dX10_argument_75 (by decide) ?_
        refine pw_icmp_ne (tgt := 86) dX10_argument_76 (by decide) (fun hX10_argument_76 => ?_) (fun h => absurd h (by decide))
        refine pw_aload_n dX10_argument_86 rfl ?_
        refine pw_getR fX10_65 dX10_argument_87 (sh_lt hG (by decide)) (sh_tg hG 45 rfl) rfl (gr_at hP 58 rfl) ?_
        refine pw_iload_n dX10_argument_90 rfl ?_
        refine pw_ialdN (64 * kp + m0) dX10_argument_91 (sh_lt hG (by decide)) (sh_sh hG 64 rfl) (by decide) (rfl) (by omega) ?_
        refine pw_iastN (64 * kp + m0) dX10_argument_92 (by decide) (sh_lt hG (by decide)) (sh_sh hG 64 rfl) (by decide) (rfl) (by omega) ?_
        refine pw_aload_n dX10_argument_93 rfl ?_
        refine pw_getR fX10_74 dX10_argument_94 (sh_lt hG (by decide)) (sh_tg hG 45 rfl) rfl (gr_at hP 61 rfl) ?_
        refine pw_iload_n dX10_argument_97 rfl ?_
        refine pw_dup2 dX10_argument_98 rfl rfl ?_
        refine pw_ialdN (64 * kp + m0) dX10_argument_99 (sh_lt hG (by decide)) (sh_sh hG 67 rfl) (by decide) (rfl) (by omega) ?_
        refine pw_iconst (v := nI 1) dX10_argument_100 (by decide) ?_
        refine pw_iadd dX10_argument_101 ?_
        refine pw_ti (z := nI 1) (by rw [pm_u_ne (by decide), pm_u_ne (by decide), pm_u_ne (by decide), h69]; rfl) ?_
        refine pw_iastN (64 * kp + m0) dX10_argument_102 (by decide) (sh_lt hG (by decide)) (sh_sh hG 67 rfl) (by decide) (rfl) (by omega) ?_
        refine pw_mI (I' := pm_u (pm_u I2 64 (64 * kp + m0) (nI N2)) 69 (64 * kp + m0) (nI 1)) (by congr 1; rw [pm_us rfl, pm_us rfl]) ?_
        refine pw_aload_n dX10_argument_103 rfl ?_
        refine pw_callV (as := []) (kc' := 0) (ks' := 0) lX10_200 dX10_argument_104 rfl rfl (sh_lt hG (by decide)) (sh_tg hG 45 rfl) (Nat.le_of_ble_eq_true rfl) (by omega) (Nat.le_of_ble_eq_true rfl) (Nat.zero_le _) (Nat.zero_le _) ?_
        refine c_X10_tok hG hP hs3 ?_
        refine pw_ti (z := nI 44) (by rw [hcm]; rfl) ?_
        refine pw_bipush (v := nI 44) dX10_argument_107 (by decide) ?_
        refine pw_icmp_ne (tgt := 135) dX10_argument_109 (by decide) (fun h => absurd (by decide) h) (fun hX10_argument_109 => ?_)
        refine pw_aload_n dX10_argument_112 rfl ?_
        refine pw_getR fX10_74 dX10_argument_113 (sh_lt hG (by decide)) (sh_tg hG 45 rfl) rfl (gr_at hP 61 rfl) ?_
        refine pw_iload_n dX10_argument_116 rfl ?_
        refine pw_ialdN (64 * kp + m0) dX10_argument_117 (sh_lt hG (by decide)) (sh_sh hG 67 rfl) (by decide) (rfl) (by omega) ?_
        refine pw_ti (z := nI 1) h69n ?_
        refine pw_iconst (v := nI 3) dX10_argument_118 (by decide) ?_
        refine pw_icmp_ge (tgt := 135) dX10_argument_119 (by decide) (fun h => absurd h (by decide)) (fun hX10_argument_119 => ?_)
        refine pw_aload_n dX10_argument_122 rfl ?_
        refine pw_callV (as := []) (kc' := 0) (ks' := 0) lX10_207 dX10_argument_123 rfl rfl (sh_lt hG (by decide)) (sh_tg hG 45 rfl) (Nat.le_of_ble_eq_true rfl) (by omega) (Nat.le_of_ble_eq_true rfl) (Nat.zero_le _) (Nat.zero_le _) ?_
        refine c_X10_next (a := b) hG hP hs3.2.2.1.1 ?_
        refine pw_aload_n dX10_argument_126 rfl ?_
        refine pw_iconst (v := nI 2) dX10_argument_127 (by decide) ?_
        refine pw_iconst (v := nI 0) dX10_argument_128 (by decide) ?_
        refine pw_callV (as := [_, _]) (kc' := 0) (ks' := 0) lX10_226 dX10_argument_129 rfl rfl (sh_lt hG (by decide)) (sh_tg hG 45 rfl) (Nat.le_of_ble_eq_true rfl) (by omega) (Nat.le_of_ble_eq_true rfl) (Nat.zero_le _) (Nat.zero_le _) ?_
        refine c_X10_then hG hP (by omega) hs4 (by omega) (s := 2) (k := 0) (fun I5 hB => ?_)
        refine pw_goto (tgt := 167) dX10_argument_132 (by decide) ?_
        refine pw_vret dX10_argument_167 rfl ?_
        refine pw_vret dX10_atom_75 rfl ?_
        refine pw_goto (tgt := 10) dX10_readExpr_201 (by decide) ?_
        refine pw_sub [1] rfl ?_
        have hf5 : fq T (64 * kp + m2) (pm_u (pm_u I2 64 (64 * kp + m0) (nI N2)) 69 (64 * kp + m0) (nI 1)) I5 J2 J2 := (fq.put (T := T) (K := 64 * kp + m2) (k := 40) (x := nI (b + 1)) (by decide) (by decide)).trans hB.2.2.2.2.2 (Nat.le_refl _) (Nat.le_refl _)
        have hG5 := hG4.trans (hB.2.2.2.2.2.le (T := T) (K := 64 * kp + m0) (Nat.le_refl _) (by omega)) (Nat.le_refl _) (Nat.le_refl _)
        have h68m : crT tx n I5 (64 * kp + m0) (tk_v tx n nm) := by
          obtain ⟨t, q1, q2, q3⟩ := h68n
          exact ⟨t, q1, (hf5.2.2.2.1 68 _ (by decide) (by decide) (by omega)).trans q2, q3⟩
        exact hC 1 (b + 1) op T m2 a0 m0 nm L [] I5 J2 r (by omega) hB.1 (by rw [hB.2.2.1.2, pm_u_ne (by decide), pm_u_ne (by decide), pm_u_ne (by decide)]; exact hk2) hB.2.2.1.1 (by rw [hB.2.2.2.1 82 (by decide) (by decide), pm_u_ne (by decide), pm_u_ne (by decide), pm_u_ne (by decide)]; exact ha2) hB.2.1.1 hB.2.1.2 ⟨(hf5.2.2.2.1 63 _ (by decide) (by decide) (by omega)).trans h63n, (hf5.2.2.2.1 67 _ (by decide) (by decide) (by omega)).trans h67n, h68m, (hf5.2.2.2.1 69 _ (by decide) (by decide) (by omega)).trans h69n, Or.inr ⟨by omega, N2, (hf5.2.2.2.1 64 _ (by decide) (by decide) (by omega)).trans hcn, hn3.up (s' := m0 + 1) (m' := m2) (f' := m2 - m0 - 1) hf5 (Nat.le_refl _) (Nat.le_refl _)⟩, Or.inl ⟨by omega, rfl⟩⟩ ⟨by omega, by omega⟩ ho (by omega) (by simpa only [List.append_nil, List.nil_append, Nat.add_assoc] using hr) (k1.mv hG5 (Nat.le_refl _) rfl) (k0.mv hG5 (by omega))
      · rw [if_neg (fun q => hcm q.1)] at hr
        have hs4 := (hs3.op' op).re' (nI (64 * kp + m0))
        have hG4 := (hG3.trans (fq.put (T := T) (K := 64 * kp + m0) (k := 42) (x := nI op) (by decide) (by decide)) (Nat.le_refl _) (Nat.le_refl _)).trans (fq.put (T := T) (K := 64 * kp + m0) (k := 44) (x := nI (64 * kp + m0)) (by decide) (by decide)) (Nat.le_refl _) (Nat.le_refl _)
        unfold LH
        refine pw_aload_n dX10_readExpr_10 rfl ?_
        refine pw_getI fX10_213 dX10_readExpr_11 (sh_lt hG (by decide)) (sh_tg hG 45 rfl) rfl ?_
        refine pw_ifN_le _ (tgt := 204) dX10_readExpr_14 (by decide) (hs2.2.2.2.2.2.1.1) (by omega) (fun h14 => absurd h14 (by omega)) (fun h14 => ?_)
        refine pw_aload_n dX10_readExpr_17 rfl ?_
        refine pw_getI fX10_197 dX10_readExpr_18 (sh_lt hG (by decide)) (sh_tg hG 45 rfl) rfl ?_
        refine pw_if_ge (tgt := 204) dX10_readExpr_21 (by decide) (fun h => absurd h (by rw [hs2.2.2.2.1]; decide)) (fun h21 => ?_)
        refine pw_aload_n dX10_readExpr_24 rfl ?_
        refine pw_getI fX10_213 dX10_readExpr_25 (sh_lt hG (by decide)) (sh_tg hG 45 rfl) rfl ?_
        refine pw_iconst (v := nI 1) dX10_readExpr_28 (by decide) ?_
        refine pw_isub dX10_readExpr_29 ?_
        refine pw_ti (z := nI T) (by rw [hs2.2.2.2.2.2.1.1]; exact nI_pred T) ?_
        refine pw_istore_n (lv' := [(1, _), (0, _)]) dX10_readExpr_30 (by decide) rfl ?_
        refine pw_aload_n dX10_readExpr_31 rfl ?_
        refine pw_getR fX10_108 dX10_readExpr_32 (sh_lt hG (by decide)) (sh_tg hG 45 rfl) rfl (gr_at hP 72 rfl) ?_
        refine pw_iload_n dX10_readExpr_35 rfl ?_
        refine pw_ialdN T dX10_readExpr_36 (sh_lt hG (by decide)) (sh_sh hG 78 rfl) (by decide) (rfl) (by omega) ?_
        refine pw_ti (z := nI 5) hk2 ?_
        refine pw_tableOut (tgt := 196) dX10_readExpr_37 (by decide) (by decide) ?_
        refine pw_aload_n dX10_readExpr_196 rfl ?_
        refine pw_iload_n dX10_readExpr_197 rfl ?_
        refine pw_callV (as := [_]) (kc' := 0) (ks' := 0) lX10_260 dX10_readExpr_198 rfl rfl (sh_lt hG (by decide)) (sh_tg hG 45 rfl) (Nat.le_of_ble_eq_true rfl) (by omega) (Nat.le_of_ble_eq_true rfl) (Nat.zero_le _) (Nat.zero_le _) ?_
        unfold pm_Met
        refine pm_lvs (lv' := [(0, _), (1, _)]) rfl ?_
        refine pw_aload_n dX10_atom_0 rfl ?_
        refine pw_getR fX10_111 dX10_atom_1 (sh_lt hG (by decide)) (sh_tg hG 45 rfl) rfl (gr_at hP 73 rfl) ?_
        refine pw_iload_n dX10_atom_4 rfl ?_
        refine pw_ialdN T dX10_atom_5 (sh_lt hG (by decide)) (sh_sh hG 79 rfl) (by decide) (rfl) (by omega) ?_
        refine pw_ti (z := nI 2) hes2 ?_
        refine pw_lookup (off := 64) (tgt := 70) dX10_atom_6 (by decide) (by decide) (by decide) ?_
        refine pw_aload_n dX10_atom_70 rfl ?_
        refine pw_iload_n dX10_atom_71 rfl ?_
        refine pw_callV (as := [_]) (kc' := 0) (ks' := 0) lX10_247 dX10_atom_72 rfl rfl (sh_lt hG (by decide)) (sh_tg hG 45 rfl) (Nat.le_of_ble_eq_true rfl) (by omega) (Nat.le_of_ble_eq_true rfl) (Nat.zero_le _) (Nat.zero_le _) ?_
        unfold pm_Met
        refine pm_lvs (lv' := [(0, _), (1, _)]) rfl ?_
        refine pw_aload_n dX10_argument_0 rfl ?_
        refine pw_getR fX10_114 dX10_argument_1 (sh_lt hG (by decide)) (sh_tg hG 45 rfl) rfl (gr_at hP 74 rfl) ?_
        refine pw_iload_n dX10_argument_4 rfl ?_
        refine pw_ialdN T dX10_argument_5 (sh_lt hG (by decide)) (sh_sh hG 80 rfl) (by decide) (rfl) (by omega) ?_
        refine pw_ti (z := nI (64 * kp + m0)) ha2 ?_
        refine pw_istore_n (lv' := [(2, _), (0, _), (1, _)]) dX10_argument_6 (by decide) rfl ?_
        refine pw_aload_n dX10_argument_7 rfl ?_
        refine pw_getR fX10_59 dX10_argument_8 (sh_lt hG (by decide)) (sh_tg hG 45 rfl) rfl (gr_at hP 56 rfl) ?_
        refine pw_iload_n dX10_argument_11 rfl ?_
        refine pw_aload_n dX10_argument_12 rfl ?_
        refine pw_getR fX10_74 dX10_argument_13 (sh_lt hG (by decide)) (sh_tg hG 45 rfl) rfl (gr_at hP 61 rfl) ?_
        refine pw_iload_n dX10_argument_16 rfl ?_
        refine pw_ialdN (64 * kp + m0) dX10_argument_17 (sh_lt hG (by decide)) (sh_sh hG 67 rfl) (by decide) (rfl) (by omega) ?_
        refine pw_ti (z := nI 0) h69 ?_
        refine pw_if_ne (tgt := 28) dX10_argument_18 (by decide) (fun h => absurd (by decide) h) (fun hX10_argument_18 => ?_)
        refine pw_aload_n dX10_argument_21 rfl ?_
        refine pw_getI fX10_230 dX10_argument_22 (sh_lt hG (by decide)) (sh_tg hG 45 rfl) rfl ?_
        refine pw_ti (z := nI N2) hre2 ?_
        refine pw_goto (tgt := 34) dX10_argument_25 (by decide) ?_
        refine pw_iastN (64 * kp + m0) dX10_argument_34 (by decide) (sh_lt hG (by decide)) (sh_sh hG 62 rfl) (by decide) (rfl) (by omega) ?_
        refine pw_aload_n dX10_argument_35 rfl ?_
        refine pw_getR fX10_62 dX10_argument_36 (sh_lt hG (by decide)) (sh_tg hG 45 rfl) rfl (gr_at hP 57 rfl) ?_
        refine pw_iload_n dX10_argument_39 rfl ?_
        refine pw_aload_n dX10_argument_40 rfl ?_
        refine pw_getR fX10_74 dX10_argument_41 (sh_lt hG (by decide)) (sh_tg hG 45 rfl) rfl (gr_at hP 61 rfl) ?_
        refine pw_iload_n dX10_argument_44 rfl ?_
        refine pw_ialdN (64 * kp + m0) dX10_argument_45 (sh_lt hG (by decide)) (sh_sh hG 67 rfl) (by decide) (rfl) (by omega) ?_
        refine pw_ti (z := nI 0) (by rw [pm_u_ne (by decide)]; exact h69) ?_
        refine pw_iconst (v := nI 1) dX10_argument_46 (by decide) ?_
        refine pw_icmp_ne (tgt := 57) dX10_argument_47 (by decide) (fun hX10_argument_47 => ?_) (fun h => absurd h (by decide))
        refine pw_aload_n dX10_argument_57 rfl ?_
        refine pw_getR fX10_62 dX10_argument_58 (sh_lt hG (by decide)) (sh_tg hG 45 rfl) rfl (gr_at hP 57 rfl) ?_
        refine pw_iload_n dX10_argument_61 rfl ?_
        refine pw_ialdN (64 * kp + m0) dX10_argument_62 (sh_lt hG (by decide)) (sh_sh hG 63 rfl) (by decide) (rfl) (by omega) ?_
        refine pw_iastN (64 * kp + m0) dX10_argument_63 (by decide) (sh_lt hG (by decide)) (sh_sh hG 63 rfl) (by decide) (rfl) (by omega) ?_
        refine pw_aload_n dX10_argument_64 rfl ?_
        refine pw_getR fX10_65 dX10_argument_65 (sh_lt hG (by decide)) (sh_tg hG 45 rfl) rfl (gr_at hP 58 rfl) ?_
        refine pw_iload_n dX10_argument_68 rfl ?_
        refine pw_aload_n dX10_argument_69 rfl ?_
        refine pw_getR fX10_74 dX10_argument_70 (sh_lt hG (by decide)) (sh_tg hG 45 rfl) rfl (gr_at hP 61 rfl) ?_
        refine pw_iload_n dX10_argument_73 rfl ?_
        refine pw_ialdN (64 * kp + m0) dX10_argument_74 (sh_lt hG (by decide)) (sh_sh hG 67 rfl) (by decide) (rfl) (by omega) ?_
        refine pw_ti (z := nI 0) (by rw [pm_u_ne (by decide), pm_u_ne (by decide)]; exact h69) ?_
        refine pw_iconst (v := nI 2) dX10_argument_75 (by decide) ?_
        refine pw_icmp_ne (tgt := 86) dX10_argument_76 (by decide) (fun hX10_argument_76 => ?_) (fun h => absurd h (by decide))
        refine pw_aload_n dX10_argument_86 rfl ?_
        refine pw_getR fX10_65 dX10_argument_87 (sh_lt hG (by decide)) (sh_tg hG 45 rfl) rfl (gr_at hP 58 rfl) ?_
        refine pw_iload_n dX10_argument_90 rfl ?_
        refine pw_ialdN (64 * kp + m0) dX10_argument_91 (sh_lt hG (by decide)) (sh_sh hG 64 rfl) (by decide) (rfl) (by omega) ?_
        refine pw_iastN (64 * kp + m0) dX10_argument_92 (by decide) (sh_lt hG (by decide)) (sh_sh hG 64 rfl) (by decide) (rfl) (by omega) ?_
        refine pw_aload_n dX10_argument_93 rfl ?_
        refine pw_getR fX10_74 dX10_argument_94 (sh_lt hG (by decide)) (sh_tg hG 45 rfl) rfl (gr_at hP 61 rfl) ?_
        refine pw_iload_n dX10_argument_97 rfl ?_
        refine pw_dup2 dX10_argument_98 rfl rfl ?_
        refine pw_ialdN (64 * kp + m0) dX10_argument_99 (sh_lt hG (by decide)) (sh_sh hG 67 rfl) (by decide) (rfl) (by omega) ?_
        refine pw_iconst (v := nI 1) dX10_argument_100 (by decide) ?_
        refine pw_iadd dX10_argument_101 ?_
        refine pw_ti (z := nI 1) (by rw [pm_u_ne (by decide), pm_u_ne (by decide), pm_u_ne (by decide), h69]; rfl) ?_
        refine pw_iastN (64 * kp + m0) dX10_argument_102 (by decide) (sh_lt hG (by decide)) (sh_sh hG 67 rfl) (by decide) (rfl) (by omega) ?_
        refine pw_mI (I' := pm_u (pm_u I2 64 (64 * kp + m0) (nI N2)) 69 (64 * kp + m0) (nI 1)) (by congr 1; rw [pm_us rfl, pm_us rfl]) ?_
        refine pw_aload_n dX10_argument_103 rfl ?_
        refine pw_callV (as := []) (kc' := 0) (ks' := 0) lX10_200 dX10_argument_104 rfl rfl (sh_lt hG (by decide)) (sh_tg hG 45 rfl) (Nat.le_of_ble_eq_true rfl) (by omega) (Nat.le_of_ble_eq_true rfl) (Nat.zero_le _) (Nat.zero_le _) ?_
        refine c_X10_tok hG hP hs3 ?_
        refine pw_bipush (v := nI 44) dX10_argument_107 (by decide) ?_
        refine pw_icmpN_ne _ _ (tgt := 135) dX10_argument_109 (by decide) (rfl) (rfl) (by omega) (by omega) (fun hX10_argument_109 => ?_) (fun hX10_argument_109 => absurd hX10_argument_109 (fun q => hcm ((rq44 hb).mp q)))
        refine pw_aload_n dX10_argument_135 rfl ?_
        refine pw_dup dX10_argument_136 rfl ?_
        refine pw_getI fX10_210 dX10_argument_137 (sh_lt hG (by decide)) (sh_tg hG 45 rfl) rfl ?_
        refine pw_iconst (v := nI 1) dX10_argument_140 (by decide) ?_
        refine pw_isub dX10_argument_141 ?_
        refine pw_ti (z := nI op) (by rw [hs3.2.2.2.2.1]; exact nI_pred op) ?_
        refine pw_putI fX10_210 dX10_argument_142 (Or.inl rfl) (by decide) (sh_lt hG (by decide)) (sh_tg hG 45 rfl) rfl ?_
        refine pw_aload_n dX10_argument_145 rfl ?_
        refine pw_iload_n dX10_argument_146 rfl ?_
        refine pw_putI fX10_230 dX10_argument_147 (Or.inl rfl) (by decide) (sh_lt hG (by decide)) (sh_tg hG 45 rfl) rfl ?_
        refine pw_aload_n dX10_argument_150 rfl ?_
        refine pw_bipush (v := nI 41) dX10_argument_151 (by decide) ?_
        refine pw_callV (as := [_]) (kc' := 0) (ks' := 0) lX10_237 dX10_argument_153 rfl rfl (sh_lt hG (by decide)) (sh_tg hG 45 rfl) (Nat.le_of_ble_eq_true rfl) (by omega) (Nat.le_of_ble_eq_true rfl) (Nat.zero_le _) (Nat.zero_le _) ?_
        refine c_X10_need hG hP (by omega) hs4 hb (c := 41) (by decide) (fun hz1 => ?_) (fun hz0 => ?_)
        · have hz1 := (rq41 hb).mp hz1
          rw [if_pos hz1] at hr
          have hbl := hs2.lt (by rw [hz1]; decide) (by rw [hz1]; decide)
          refine pw_pop dX10_argument_156 rfl ?_
          refine pw_aload_n dX10_argument_157 rfl ?_
          refine pw_dup dX10_argument_158 rfl ?_
          refine pw_getI fX10_213 dX10_argument_159 (sh_lt hG (by decide)) (sh_tg hG 45 rfl) rfl ?_
          refine pw_iconst (v := nI 1) dX10_argument_162 (by decide) ?_
          refine pw_isub dX10_argument_163 ?_
          refine pw_ti (z := nI T) (by rw [(hs4.at' (b := b + 1) (by omega) (by omega)).2.2.2.2.2.1.1]; exact nI_pred T) ?_
          refine pw_putI fX10_213 dX10_argument_164 (Or.inl rfl) (by decide) (sh_lt hG (by decide)) (sh_tg hG 45 rfl) rfl ?_
          refine pw_vret dX10_argument_167 rfl ?_
          refine pw_vret dX10_atom_75 rfl ?_
          refine pw_goto (tgt := 10) dX10_readExpr_201 (by decide) ?_
          refine pw_sub [1] rfl ?_
          have hsE := (hs4.at' (b := b + 1) (by omega) (by omega)).tp' (b := T) (by omega)
          have hE := (((fq.put (T := T) (K := 64 * kp + m2) (I := pm_u (pm_u I2 64 (64 * kp + m0) (nI N2)) 69 (64 * kp + m0) (nI 1)) (J := J2) (k := 42) (x := nI op) (by decide) (by decide)).trans (fq.put (T := T) (K := 64 * kp + m2) (k := 44) (x := nI (64 * kp + m0)) (by decide) (by decide)) (Nat.le_refl _) (Nat.le_refl _)).trans (fq.put (T := T) (K := 64 * kp + m2) (k := 40) (x := nI (b + 1)) (by decide) (by decide)) (Nat.le_refl _) (Nat.le_refl _)).trans (fq.put (T := T) (K := 64 * kp + m2) (k := 45) (x := nI T) (by decide) (by decide)) (Nat.le_refl _) (Nat.le_refl _)
          exact k1 (b + 1) _ (64 * kp + m0) m2 _ _ (by rw [← Option.some.inj hr]; rfl) hsE (by rw [pm_u_eq, pm_up_ne (by decide), pm_u_eq, pm_up_ne (by decide), pm_u_eq, pm_up_eq]) ((nT.m3 (s := m0) (f := m2 - m0 - 1) (F := m2 - m0) (m := m2) (g := 1) (M1 := L) (M2 := []) (M3 := []) (by omega) ⟨by omega, by omega⟩ h67n h63n h68n h69n (by omega) (Or.inr ⟨by omega, N2, hcn, hn3.up (s' := m0) (m' := m2) (f' := m2 - m0 - 1) (fq.refl (T := 0)) (Nat.le_refl _) (Nat.le_refl _)⟩) (Or.inl ⟨by omega, rfl⟩) (Or.inl ⟨by omega, rfl⟩)).up hE (Nat.le_refl _) (Nat.le_refl _)) ⟨by omega, by omega⟩ (hG3.trans (hE.le (T := T) (K := 64 * kp + m0) (Nat.le_refl _) (by omega)) (Nat.le_refl _) (Nat.le_refl _))
        · rw [if_neg (fun q => hz0 ((rq41 hb).mpr q))] at hr
          refine pw_pop dX10_argument_156 rfl ?_
          refine pw_aload_n dX10_argument_157 rfl ?_
          refine pw_dup dX10_argument_158 rfl ?_
          refine pw_getI fX10_213 dX10_argument_159 (sh_lt hG (by decide)) (sh_tg hG 45 rfl) rfl ?_
          refine pw_iconst (v := nI 1) dX10_argument_162 (by decide) ?_
          refine pw_isub dX10_argument_163 ?_
          refine pw_putI fX10_213 dX10_argument_164 (Or.inl rfl) (by decide) (sh_lt hG (by decide)) (sh_tg hG 45 rfl) rfl ?_
          refine pw_vret dX10_argument_167 rfl ?_
          refine pw_vret dX10_atom_75 rfl ?_
          refine pw_goto (tgt := 10) dX10_readExpr_201 (by decide) ?_
          refine pw_sub [1] rfl ?_
          exact k0 b _ _ (Option.some.inj hr).symm (by rw [pm_u_eq, pm_up_ne (by decide), pm_u_eq, pm_up_eq]) (((hG4.trans (fq.put (T := T) (K := 64 * kp + m0) (by decide) (by decide)) (Nat.le_refl _) (Nat.le_refl _)).trans (fq.put (T := T) (K := 64 * kp + m0) (by decide) (by decide)) (Nat.le_refl _) (Nat.le_refl _)).le (Nat.zero_le _) (by omega))
    · obtain ⟨c1, hc1, hM1⟩ := (hN.2.2.2.2.1.resolve_left (fun q => absurd q.1 (by omega))).2
      obtain ⟨_, rfl⟩ : 1 < 2 ∧ M2 = [] := hN.2.2.2.2.2.resolve_right (fun q => absurd q.1 (by omega))
      have hc1' : I2 64 (64 * kp + m0) = nI c1 := by rw [e2 64 (by decide) (by decide)]; exact hc1
      have hM1' : nT tx n kp pa I2 J2 (m0 + 1) m2 (m2 - m0 - 1) c1 M1 := hM1.up hf2 (by omega) (by omega)
      have hs3 := hs2.arg (b := 65) (c := 2) (g := 1) (j := 64 * kp + m0) rfl rfl (by decide) h63 h69 hnd2.ch
      have hG3 : fq T (64 * kp + m0) I (pm_u (pm_u I2 65 (64 * kp + m0) (nI N2)) 69 (64 * kp + m0) (nI 2)) J J2 := (hG2.trans (fq.nod (T := T) (K := 64 * kp + m0) (by decide) (by decide) (Nat.le_refl _)) (Nat.le_refl _) (Nat.le_refl _)).trans (fq.nod (T := T) (K := 64 * kp + m0) (by decide) (by decide) (Nat.le_refl _)) (Nat.le_refl _) (Nat.le_refl _)
      have e3 : ∀ x k, 63 ≤ x → x ≤ 69 → k ≠ 64 * kp + m0 → (pm_u (pm_u I2 65 (64 * kp + m0) (nI N2)) 69 (64 * kp + m0) (nI 2)) x k = I2 x k := by
        intro x k h1 h2 h3
        by_cases hx : x = 69
        · subst hx; rw [pm_u_eq, pm_up_ne h3, pm_u_ne (by decide)]
        · rw [pm_u_ne hx]
          by_cases hy : x = 65
          · subst hy; rw [pm_u_eq, pm_up_ne h3]
          · rw [pm_u_ne hy]
      have hn3 := hn2.up' e3 rfl
      have hM1n := hM1'.up' e3 rfl
      have hc1n : (pm_u (pm_u I2 65 (64 * kp + m0) (nI N2)) 69 (64 * kp + m0) (nI 2)) 64 (64 * kp + m0) = nI c1 := by rw [pm_u_ne (by decide), pm_u_ne (by decide)]; exact hc1'
      have hcn : (pm_u (pm_u I2 65 (64 * kp + m0) (nI N2)) 69 (64 * kp + m0) (nI 2)) 65 (64 * kp + m0) = nI N2 := by rw [pm_u_ne (by decide), pm_u_eq, pm_up_eq]
      have h63n : (pm_u (pm_u I2 65 (64 * kp + m0) (nI N2)) 69 (64 * kp + m0) (nI 2)) 63 (64 * kp + m0) = nI 3 := by rw [pm_u_ne (by decide), pm_u_ne (by decide)]; exact h63
      have h67n : (pm_u (pm_u I2 65 (64 * kp + m0) (nI N2)) 69 (64 * kp + m0) (nI 2)) 67 (64 * kp + m0) = nI (tk_p tx n nm) := by rw [pm_u_ne (by decide), pm_u_ne (by decide)]; exact h67
      have h68n : crT tx n (pm_u (pm_u I2 65 (64 * kp + m0) (nI N2)) 69 (64 * kp + m0) (nI 2)) (64 * kp + m0) (tk_v tx n nm) := by
        obtain ⟨t, q1, q2, q3⟩ := h68
        exact ⟨t, q1, by rw [pm_u_ne (by decide), pm_u_ne (by decide)]; exact q2, q3⟩
      have h69n : (pm_u (pm_u I2 65 (64 * kp + m0) (nI N2)) 69 (64 * kp + m0) (nI 2)) 69 (64 * kp + m0) = nI 2 := by rw [pm_u_eq, pm_up_eq]
      by_cases hcm : tk_k tx n b = 44
      · rw [if_pos ⟨hcm, by omega⟩] at hr
        have hbl := hs2.lt (by rw [hcm]; decide) (by rw [hcm]; decide)
        have hs4 := hs3.at' (b := b + 1) (by omega) (by omega)
        have hG4 := hG3.trans (fq.put (T := T) (K := 64 * kp + m0) (k := 40) (x := nI (b + 1)) (by decide) (by decide)) (Nat.le_refl _) (Nat.le_refl _)
        unfold LH
        refine pw_aload_n dX10_readExpr_10 rfl ?_
        refine pw_getI fX10_213 dX10_readExpr_11 (sh_lt hG (by decide)) (sh_tg hG 45 rfl) rfl ?_
        refine pw_ifN_le _ (tgt := 204) dX10_readExpr_14 (by decide) (hs2.2.2.2.2.2.1.1) (by omega) (fun h14 => absurd h14 (by omega)) (fun h14 => ?_)
        refine pw_aload_n dX10_readExpr_17 rfl ?_
        refine pw_getI fX10_197 dX10_readExpr_18 (sh_lt hG (by decide)) (sh_tg hG 45 rfl) rfl ?_
        refine pw_if_ge (tgt := 204) dX10_readExpr_21 (by decide) (fun h => absurd h (by rw [hs2.2.2.2.1]; decide)) (fun h21 => ?_)
        refine pw_aload_n dX10_readExpr_24 rfl ?_
        refine pw_getI fX10_213 dX10_readExpr_25 (sh_lt hG (by decide)) (sh_tg hG 45 rfl) rfl ?_
        refine pw_iconst (v := nI 1) dX10_readExpr_28 (by decide) ?_
        refine pw_isub dX10_readExpr_29 ?_
        refine pw_ti (z := nI T) (by rw [hs2.2.2.2.2.2.1.1]; exact nI_pred T) ?_
        refine pw_istore_n (lv' := [(1, _), (0, _)]) dX10_readExpr_30 (by decide) rfl ?_
        refine pw_aload_n dX10_readExpr_31 rfl ?_
        refine pw_getR fX10_108 dX10_readExpr_32 (sh_lt hG (by decide)) (sh_tg hG 45 rfl) rfl (gr_at hP 72 rfl) ?_
        refine pw_iload_n dX10_readExpr_35 rfl ?_
        refine pw_ialdN T dX10_readExpr_36 (sh_lt hG (by decide)) (sh_sh hG 78 rfl) (by decide) (rfl) (by omega) ?_
        refine pw_ti (z := nI 5) hk2 ?_
        refine pw_tableOut (tgt := 196) dX10_readExpr_37 (by decide) (by decide) ?_
        refine pw_aload_n dX10_readExpr_196 rfl ?_
        refine pw_iload_n dX10_readExpr_197 rfl ?_
        refine pw_callV (as := [_]) (kc' := 0) (ks' := 0) lX10_260 dX10_readExpr_198 rfl rfl (sh_lt hG (by decide)) (sh_tg hG 45 rfl) (Nat.le_of_ble_eq_true rfl) (by omega) (Nat.le_of_ble_eq_true rfl) (Nat.zero_le _) (Nat.zero_le _) ?_
        unfold pm_Met
        refine pm_lvs (lv' := [(0, _), (1, _)]) rfl ?_
        refine pw_aload_n dX10_atom_0 rfl ?_
        refine pw_getR fX10_111 dX10_atom_1 (sh_lt hG (by decide)) (sh_tg hG 45 rfl) rfl (gr_at hP 73 rfl) ?_
        refine pw_iload_n dX10_atom_4 rfl ?_
        refine pw_ialdN T dX10_atom_5 (sh_lt hG (by decide)) (sh_sh hG 79 rfl) (by decide) (rfl) (by omega) ?_
        refine pw_ti (z := nI 2) hes2 ?_
        refine pw_lookup (off := 64) (tgt := 70) dX10_atom_6 (by decide) (by decide) (by decide) ?_
        refine pw_aload_n dX10_atom_70 rfl ?_
        refine pw_iload_n dX10_atom_71 rfl ?_
        refine pw_callV (as := [_]) (kc' := 0) (ks' := 0) lX10_247 dX10_atom_72 rfl rfl (sh_lt hG (by decide)) (sh_tg hG 45 rfl) (Nat.le_of_ble_eq_true rfl) (by omega) (Nat.le_of_ble_eq_true rfl) (Nat.zero_le _) (Nat.zero_le _) ?_
        unfold pm_Met
        refine pm_lvs (lv' := [(0, _), (1, _)]) rfl ?_
        refine pw_aload_n dX10_argument_0 rfl ?_
        refine pw_getR fX10_114 dX10_argument_1 (sh_lt hG (by decide)) (sh_tg hG 45 rfl) rfl (gr_at hP 74 rfl) ?_
        refine pw_iload_n dX10_argument_4 rfl ?_
        refine pw_ialdN T dX10_argument_5 (sh_lt hG (by decide)) (sh_sh hG 80 rfl) (by decide) (rfl) (by omega) ?_
        refine pw_ti (z := nI (64 * kp + m0)) ha2 ?_
        refine pw_istore_n (lv' := [(2, _), (0, _), (1, _)]) dX10_argument_6 (by decide) rfl ?_
        refine pw_aload_n dX10_argument_7 rfl ?_
        refine pw_getR fX10_59 dX10_argument_8 (sh_lt hG (by decide)) (sh_tg hG 45 rfl) rfl (gr_at hP 56 rfl) ?_
        refine pw_iload_n dX10_argument_11 rfl ?_
        refine pw_aload_n dX10_argument_12 rfl ?_
        refine pw_getR fX10_74 dX10_argument_13 (sh_lt hG (by decide)) (sh_tg hG 45 rfl) rfl (gr_at hP 61 rfl) ?_
        refine pw_iload_n dX10_argument_16 rfl ?_
        refine pw_ialdN (64 * kp + m0) dX10_argument_17 (sh_lt hG (by decide)) (sh_sh hG 67 rfl) (by decide) (rfl) (by omega) ?_
        refine pw_ti (z := nI 1) h69 ?_
        refine pw_if_ne (tgt := 28) dX10_argument_18 (by decide) (fun hX10_argument_18 => ?_) (fun h => absurd h (by decide))
        refine pw_aload_n dX10_argument_28 rfl ?_
        refine pw_getR fX10_59 dX10_argument_29 (sh_lt hG (by decide)) (sh_tg hG 45 rfl) rfl (gr_at hP 56 rfl) ?_
        refine pw_iload_n dX10_argument_32 rfl ?_
        refine pw_ialdN (64 * kp + m0) dX10_argument_33 (sh_lt hG (by decide)) (sh_sh hG 62 rfl) (by decide) (rfl) (by omega) ?_
        refine pw_iastN (64 * kp + m0) dX10_argument_34 (by decide) (sh_lt hG (by decide)) (sh_sh hG 62 rfl) (by decide) (rfl) (by omega) ?_
        refine pw_aload_n dX10_argument_35 rfl ?_
        refine pw_getR fX10_62 dX10_argument_36 (sh_lt hG (by decide)) (sh_tg hG 45 rfl) rfl (gr_at hP 57 rfl) ?_
        refine pw_iload_n dX10_argument_39 rfl ?_
        refine pw_aload_n dX10_argument_40 rfl ?_
        refine pw_getR fX10_74 dX10_argument_41 (sh_lt hG (by decide)) (sh_tg hG 45 rfl) rfl (gr_at hP 61 rfl) ?_
        refine pw_iload_n dX10_argument_44 rfl ?_
        refine pw_ialdN (64 * kp + m0) dX10_argument_45 (sh_lt hG (by decide)) (sh_sh hG 67 rfl) (by decide) (rfl) (by omega) ?_
        refine pw_ti (z := nI 1) (by rw [pm_u_ne (by decide)]; exact h69) ?_
        refine pw_iconst (v := nI 1) dX10_argument_46 (by decide) ?_
        refine pw_icmp_ne (tgt := 57) dX10_argument_47 (by decide) (fun h => absurd (by decide) h) (fun hX10_argument_47 => ?_)
        refine pw_aload_n dX10_argument_50 rfl ?_
        refine pw_getI fX10_230 dX10_argument_51 (sh_lt hG (by decide)) (sh_tg hG 45 rfl) rfl ?_
        refine pw_ti (z := nI N2) (by rw [pm_u_ne (by decide)]; exact hre2) ?_
        refine pw_goto (tgt := 63) dX10_argument_54 (by decide) ?_
        refine pw_iastN (64 * kp + m0) dX10_argument_63 (by decide) (sh_lt hG (by decide)) (sh_sh hG 63 rfl) (by decide) (rfl) (by omega) ?_
        refine pw_aload_n dX10_argument_64 rfl ?_
        refine pw_getR fX10_65 dX10_argument_65 (sh_lt hG (by decide)) (sh_tg hG 45 rfl) rfl (gr_at hP 58 rfl) ?_
        refine pw_iload_n dX10_argument_68 rfl ?_
        refine pw_aload_n dX10_argument_69 rfl ?_
        refine pw_getR fX10_74 dX10_argument_70 (sh_lt hG (by decide)) (sh_tg hG 45 rfl) rfl (gr_at hP 61 rfl) ?_
        refine pw_iload_n dX10_argument_73 rfl ?_
        refine pw_ialdN (64 * kp + m0) dX10_argument_74 (sh_lt hG (by decide)) (sh_sh hG 67 rfl) (by decide) (rfl) (by omega) ?_
        refine pw_ti (z := nI 1) (by rw [pm_u_ne (by decide), pm_u_ne (by decide)]; exact h69) ?_
        refine pw_iconst (v := nI 2) dX10_argument_75 (by decide) ?_
        refine pw_icmp_ne (tgt := 86) dX10_argument_76 (by decide) (fun hX10_argument_76 => ?_) (fun h => absurd h (by decide))
        refine pw_aload_n dX10_argument_86 rfl ?_
        refine pw_getR fX10_65 dX10_argument_87 (sh_lt hG (by decide)) (sh_tg hG 45 rfl) rfl (gr_at hP 58 rfl) ?_
        refine pw_iload_n dX10_argument_90 rfl ?_
        refine pw_ialdN (64 * kp + m0) dX10_argument_91 (sh_lt hG (by decide)) (sh_sh hG 64 rfl) (by decide) (rfl) (by omega) ?_
        refine pw_iastN (64 * kp + m0) dX10_argument_92 (by decide) (sh_lt hG (by decide)) (sh_sh hG 64 rfl) (by decide) (rfl) (by omega) ?_
        refine pw_aload_n dX10_argument_93 rfl ?_
        refine pw_getR fX10_74 dX10_argument_94 (sh_lt hG (by decide)) (sh_tg hG 45 rfl) rfl (gr_at hP 61 rfl) ?_
        refine pw_iload_n dX10_argument_97 rfl ?_
        refine pw_dup2 dX10_argument_98 rfl rfl ?_
        refine pw_ialdN (64 * kp + m0) dX10_argument_99 (sh_lt hG (by decide)) (sh_sh hG 67 rfl) (by decide) (rfl) (by omega) ?_
        refine pw_iconst (v := nI 1) dX10_argument_100 (by decide) ?_
        refine pw_iadd dX10_argument_101 ?_
        refine pw_ti (z := nI 2) (by rw [pm_u_ne (by decide), pm_u_ne (by decide), pm_u_ne (by decide), h69]; rfl) ?_
        refine pw_iastN (64 * kp + m0) dX10_argument_102 (by decide) (sh_lt hG (by decide)) (sh_sh hG 67 rfl) (by decide) (rfl) (by omega) ?_
        refine pw_mI (I' := pm_u (pm_u I2 65 (64 * kp + m0) (nI N2)) 69 (64 * kp + m0) (nI 2)) (by congr 1; rw [pm_us (I := pm_u (pm_u I2 64 (64 * kp + m0) (I2 64 (64 * kp + m0))) 65 (64 * kp + m0) (nI N2)) rfl, pm_us (I := I2) rfl]) ?_
        refine pw_aload_n dX10_argument_103 rfl ?_
        refine pw_callV (as := []) (kc' := 0) (ks' := 0) lX10_200 dX10_argument_104 rfl rfl (sh_lt hG (by decide)) (sh_tg hG 45 rfl) (Nat.le_of_ble_eq_true rfl) (by omega) (Nat.le_of_ble_eq_true rfl) (Nat.zero_le _) (Nat.zero_le _) ?_
        refine c_X10_tok hG hP hs3 ?_
        refine pw_ti (z := nI 44) (by rw [hcm]; rfl) ?_
        refine pw_bipush (v := nI 44) dX10_argument_107 (by decide) ?_
        refine pw_icmp_ne (tgt := 135) dX10_argument_109 (by decide) (fun h => absurd (by decide) h) (fun hX10_argument_109 => ?_)
        refine pw_aload_n dX10_argument_112 rfl ?_
        refine pw_getR fX10_74 dX10_argument_113 (sh_lt hG (by decide)) (sh_tg hG 45 rfl) rfl (gr_at hP 61 rfl) ?_
        refine pw_iload_n dX10_argument_116 rfl ?_
        refine pw_ialdN (64 * kp + m0) dX10_argument_117 (sh_lt hG (by decide)) (sh_sh hG 67 rfl) (by decide) (rfl) (by omega) ?_
        refine pw_ti (z := nI 2) h69n ?_
        refine pw_iconst (v := nI 3) dX10_argument_118 (by decide) ?_
        refine pw_icmp_ge (tgt := 135) dX10_argument_119 (by decide) (fun h => absurd h (by decide)) (fun hX10_argument_119 => ?_)
        refine pw_aload_n dX10_argument_122 rfl ?_
        refine pw_callV (as := []) (kc' := 0) (ks' := 0) lX10_207 dX10_argument_123 rfl rfl (sh_lt hG (by decide)) (sh_tg hG 45 rfl) (Nat.le_of_ble_eq_true rfl) (by omega) (Nat.le_of_ble_eq_true rfl) (Nat.zero_le _) (Nat.zero_le _) ?_
        refine c_X10_next (a := b) hG hP hs3.2.2.1.1 ?_
        refine pw_aload_n dX10_argument_126 rfl ?_
        refine pw_iconst (v := nI 2) dX10_argument_127 (by decide) ?_
        refine pw_iconst (v := nI 0) dX10_argument_128 (by decide) ?_
        refine pw_callV (as := [_, _]) (kc' := 0) (ks' := 0) lX10_226 dX10_argument_129 rfl rfl (sh_lt hG (by decide)) (sh_tg hG 45 rfl) (Nat.le_of_ble_eq_true rfl) (by omega) (Nat.le_of_ble_eq_true rfl) (Nat.zero_le _) (Nat.zero_le _) ?_
        refine c_X10_then hG hP (by omega) hs4 (by omega) (s := 2) (k := 0) (fun I5 hB => ?_)
        refine pw_goto (tgt := 167) dX10_argument_132 (by decide) ?_
        refine pw_vret dX10_argument_167 rfl ?_
        refine pw_vret dX10_atom_75 rfl ?_
        refine pw_goto (tgt := 10) dX10_readExpr_201 (by decide) ?_
        refine pw_sub [1] rfl ?_
        have hf5 : fq T (64 * kp + m2) (pm_u (pm_u I2 65 (64 * kp + m0) (nI N2)) 69 (64 * kp + m0) (nI 2)) I5 J2 J2 := (fq.put (T := T) (K := 64 * kp + m2) (k := 40) (x := nI (b + 1)) (by decide) (by decide)).trans hB.2.2.2.2.2 (Nat.le_refl _) (Nat.le_refl _)
        have hG5 := hG4.trans (hB.2.2.2.2.2.le (T := T) (K := 64 * kp + m0) (Nat.le_refl _) (by omega)) (Nat.le_refl _) (Nat.le_refl _)
        have h68m : crT tx n I5 (64 * kp + m0) (tk_v tx n nm) := by
          obtain ⟨t, q1, q2, q3⟩ := h68n
          exact ⟨t, q1, (hf5.2.2.2.1 68 _ (by decide) (by decide) (by omega)).trans q2, q3⟩
        exact hC 2 (b + 1) op T m2 a0 m0 nm M1 L I5 J2 r (by omega) hB.1 (by rw [hB.2.2.1.2, pm_u_ne (by decide), pm_u_ne (by decide), pm_u_ne (by decide)]; exact hk2) hB.2.2.1.1 (by rw [hB.2.2.2.1 82 (by decide) (by decide), pm_u_ne (by decide), pm_u_ne (by decide), pm_u_ne (by decide)]; exact ha2) hB.2.1.1 hB.2.1.2 ⟨(hf5.2.2.2.1 63 _ (by decide) (by decide) (by omega)).trans h63n, (hf5.2.2.2.1 67 _ (by decide) (by decide) (by omega)).trans h67n, h68m, (hf5.2.2.2.1 69 _ (by decide) (by decide) (by omega)).trans h69n, Or.inr ⟨by omega, c1, (hf5.2.2.2.1 64 _ (by decide) (by decide) (by omega)).trans hc1n, hM1n.up (s' := m0 + 1) (m' := m2) (f' := m2 - m0 - 1) hf5 (Nat.le_refl _) (Nat.le_refl _)⟩, Or.inr ⟨by omega, N2, (hf5.2.2.2.1 65 _ (by decide) (by decide) (by omega)).trans hcn, hn3.up (s' := m0 + 1) (m' := m2) (f' := m2 - m0 - 1) hf5 (Nat.le_refl _) (Nat.le_refl _)⟩⟩ ⟨by omega, by omega⟩ ho (by omega) (by simpa only [List.append_nil, List.nil_append, Nat.add_assoc] using hr) (k1.mv hG5 (Nat.le_refl _) rfl) (k0.mv hG5 (by omega))
      · rw [if_neg (fun q => hcm q.1)] at hr
        have hs4 := (hs3.op' op).re' (nI (64 * kp + m0))
        have hG4 := (hG3.trans (fq.put (T := T) (K := 64 * kp + m0) (k := 42) (x := nI op) (by decide) (by decide)) (Nat.le_refl _) (Nat.le_refl _)).trans (fq.put (T := T) (K := 64 * kp + m0) (k := 44) (x := nI (64 * kp + m0)) (by decide) (by decide)) (Nat.le_refl _) (Nat.le_refl _)
        unfold LH
        refine pw_aload_n dX10_readExpr_10 rfl ?_
        refine pw_getI fX10_213 dX10_readExpr_11 (sh_lt hG (by decide)) (sh_tg hG 45 rfl) rfl ?_
        refine pw_ifN_le _ (tgt := 204) dX10_readExpr_14 (by decide) (hs2.2.2.2.2.2.1.1) (by omega) (fun h14 => absurd h14 (by omega)) (fun h14 => ?_)
        refine pw_aload_n dX10_readExpr_17 rfl ?_
        refine pw_getI fX10_197 dX10_readExpr_18 (sh_lt hG (by decide)) (sh_tg hG 45 rfl) rfl ?_
        refine pw_if_ge (tgt := 204) dX10_readExpr_21 (by decide) (fun h => absurd h (by rw [hs2.2.2.2.1]; decide)) (fun h21 => ?_)
        refine pw_aload_n dX10_readExpr_24 rfl ?_
        refine pw_getI fX10_213 dX10_readExpr_25 (sh_lt hG (by decide)) (sh_tg hG 45 rfl) rfl ?_
        refine pw_iconst (v := nI 1) dX10_readExpr_28 (by decide) ?_
        refine pw_isub dX10_readExpr_29 ?_
        refine pw_ti (z := nI T) (by rw [hs2.2.2.2.2.2.1.1]; exact nI_pred T) ?_
        refine pw_istore_n (lv' := [(1, _), (0, _)]) dX10_readExpr_30 (by decide) rfl ?_
        refine pw_aload_n dX10_readExpr_31 rfl ?_
        refine pw_getR fX10_108 dX10_readExpr_32 (sh_lt hG (by decide)) (sh_tg hG 45 rfl) rfl (gr_at hP 72 rfl) ?_
        refine pw_iload_n dX10_readExpr_35 rfl ?_
        refine pw_ialdN T dX10_readExpr_36 (sh_lt hG (by decide)) (sh_sh hG 78 rfl) (by decide) (rfl) (by omega) ?_
        refine pw_ti (z := nI 5) hk2 ?_
        refine pw_tableOut (tgt := 196) dX10_readExpr_37 (by decide) (by decide) ?_
        refine pw_aload_n dX10_readExpr_196 rfl ?_
        refine pw_iload_n dX10_readExpr_197 rfl ?_
        refine pw_callV (as := [_]) (kc' := 0) (ks' := 0) lX10_260 dX10_readExpr_198 rfl rfl (sh_lt hG (by decide)) (sh_tg hG 45 rfl) (Nat.le_of_ble_eq_true rfl) (by omega) (Nat.le_of_ble_eq_true rfl) (Nat.zero_le _) (Nat.zero_le _) ?_
        unfold pm_Met
        refine pm_lvs (lv' := [(0, _), (1, _)]) rfl ?_
        refine pw_aload_n dX10_atom_0 rfl ?_
        refine pw_getR fX10_111 dX10_atom_1 (sh_lt hG (by decide)) (sh_tg hG 45 rfl) rfl (gr_at hP 73 rfl) ?_
        refine pw_iload_n dX10_atom_4 rfl ?_
        refine pw_ialdN T dX10_atom_5 (sh_lt hG (by decide)) (sh_sh hG 79 rfl) (by decide) (rfl) (by omega) ?_
        refine pw_ti (z := nI 2) hes2 ?_
        refine pw_lookup (off := 64) (tgt := 70) dX10_atom_6 (by decide) (by decide) (by decide) ?_
        refine pw_aload_n dX10_atom_70 rfl ?_
        refine pw_iload_n dX10_atom_71 rfl ?_
        refine pw_callV (as := [_]) (kc' := 0) (ks' := 0) lX10_247 dX10_atom_72 rfl rfl (sh_lt hG (by decide)) (sh_tg hG 45 rfl) (Nat.le_of_ble_eq_true rfl) (by omega) (Nat.le_of_ble_eq_true rfl) (Nat.zero_le _) (Nat.zero_le _) ?_
        unfold pm_Met
        refine pm_lvs (lv' := [(0, _), (1, _)]) rfl ?_
        refine pw_aload_n dX10_argument_0 rfl ?_
        refine pw_getR fX10_114 dX10_argument_1 (sh_lt hG (by decide)) (sh_tg hG 45 rfl) rfl (gr_at hP 74 rfl) ?_
        refine pw_iload_n dX10_argument_4 rfl ?_
        refine pw_ialdN T dX10_argument_5 (sh_lt hG (by decide)) (sh_sh hG 80 rfl) (by decide) (rfl) (by omega) ?_
        refine pw_ti (z := nI (64 * kp + m0)) ha2 ?_
        refine pw_istore_n (lv' := [(2, _), (0, _), (1, _)]) dX10_argument_6 (by decide) rfl ?_
        refine pw_aload_n dX10_argument_7 rfl ?_
        refine pw_getR fX10_59 dX10_argument_8 (sh_lt hG (by decide)) (sh_tg hG 45 rfl) rfl (gr_at hP 56 rfl) ?_
        refine pw_iload_n dX10_argument_11 rfl ?_
        refine pw_aload_n dX10_argument_12 rfl ?_
        refine pw_getR fX10_74 dX10_argument_13 (sh_lt hG (by decide)) (sh_tg hG 45 rfl) rfl (gr_at hP 61 rfl) ?_
        refine pw_iload_n dX10_argument_16 rfl ?_
        refine pw_ialdN (64 * kp + m0) dX10_argument_17 (sh_lt hG (by decide)) (sh_sh hG 67 rfl) (by decide) (rfl) (by omega) ?_
        refine pw_ti (z := nI 1) h69 ?_
        refine pw_if_ne (tgt := 28) dX10_argument_18 (by decide) (fun hX10_argument_18 => ?_) (fun h => absurd h (by decide))
        refine pw_aload_n dX10_argument_28 rfl ?_
        refine pw_getR fX10_59 dX10_argument_29 (sh_lt hG (by decide)) (sh_tg hG 45 rfl) rfl (gr_at hP 56 rfl) ?_
        refine pw_iload_n dX10_argument_32 rfl ?_
        refine pw_ialdN (64 * kp + m0) dX10_argument_33 (sh_lt hG (by decide)) (sh_sh hG 62 rfl) (by decide) (rfl) (by omega) ?_
        refine pw_iastN (64 * kp + m0) dX10_argument_34 (by decide) (sh_lt hG (by decide)) (sh_sh hG 62 rfl) (by decide) (rfl) (by omega) ?_
        refine pw_aload_n dX10_argument_35 rfl ?_
        refine pw_getR fX10_62 dX10_argument_36 (sh_lt hG (by decide)) (sh_tg hG 45 rfl) rfl (gr_at hP 57 rfl) ?_
        refine pw_iload_n dX10_argument_39 rfl ?_
        refine pw_aload_n dX10_argument_40 rfl ?_
        refine pw_getR fX10_74 dX10_argument_41 (sh_lt hG (by decide)) (sh_tg hG 45 rfl) rfl (gr_at hP 61 rfl) ?_
        refine pw_iload_n dX10_argument_44 rfl ?_
        refine pw_ialdN (64 * kp + m0) dX10_argument_45 (sh_lt hG (by decide)) (sh_sh hG 67 rfl) (by decide) (rfl) (by omega) ?_
        refine pw_ti (z := nI 1) (by rw [pm_u_ne (by decide)]; exact h69) ?_
        refine pw_iconst (v := nI 1) dX10_argument_46 (by decide) ?_
        refine pw_icmp_ne (tgt := 57) dX10_argument_47 (by decide) (fun h => absurd (by decide) h) (fun hX10_argument_47 => ?_)
        refine pw_aload_n dX10_argument_50 rfl ?_
        refine pw_getI fX10_230 dX10_argument_51 (sh_lt hG (by decide)) (sh_tg hG 45 rfl) rfl ?_
        refine pw_ti (z := nI N2) (by rw [pm_u_ne (by decide)]; exact hre2) ?_
        refine pw_goto (tgt := 63) dX10_argument_54 (by decide) ?_
        refine pw_iastN (64 * kp + m0) dX10_argument_63 (by decide) (sh_lt hG (by decide)) (sh_sh hG 63 rfl) (by decide) (rfl) (by omega) ?_
        refine pw_aload_n dX10_argument_64 rfl ?_
        refine pw_getR fX10_65 dX10_argument_65 (sh_lt hG (by decide)) (sh_tg hG 45 rfl) rfl (gr_at hP 58 rfl) ?_
        refine pw_iload_n dX10_argument_68 rfl ?_
        refine pw_aload_n dX10_argument_69 rfl ?_
        refine pw_getR fX10_74 dX10_argument_70 (sh_lt hG (by decide)) (sh_tg hG 45 rfl) rfl (gr_at hP 61 rfl) ?_
        refine pw_iload_n dX10_argument_73 rfl ?_
        refine pw_ialdN (64 * kp + m0) dX10_argument_74 (sh_lt hG (by decide)) (sh_sh hG 67 rfl) (by decide) (rfl) (by omega) ?_
        refine pw_ti (z := nI 1) (by rw [pm_u_ne (by decide), pm_u_ne (by decide)]; exact h69) ?_
        refine pw_iconst (v := nI 2) dX10_argument_75 (by decide) ?_
        refine pw_icmp_ne (tgt := 86) dX10_argument_76 (by decide) (fun hX10_argument_76 => ?_) (fun h => absurd h (by decide))
        refine pw_aload_n dX10_argument_86 rfl ?_
        refine pw_getR fX10_65 dX10_argument_87 (sh_lt hG (by decide)) (sh_tg hG 45 rfl) rfl (gr_at hP 58 rfl) ?_
        refine pw_iload_n dX10_argument_90 rfl ?_
        refine pw_ialdN (64 * kp + m0) dX10_argument_91 (sh_lt hG (by decide)) (sh_sh hG 64 rfl) (by decide) (rfl) (by omega) ?_
        refine pw_iastN (64 * kp + m0) dX10_argument_92 (by decide) (sh_lt hG (by decide)) (sh_sh hG 64 rfl) (by decide) (rfl) (by omega) ?_
        refine pw_aload_n dX10_argument_93 rfl ?_
        refine pw_getR fX10_74 dX10_argument_94 (sh_lt hG (by decide)) (sh_tg hG 45 rfl) rfl (gr_at hP 61 rfl) ?_
        refine pw_iload_n dX10_argument_97 rfl ?_
        refine pw_dup2 dX10_argument_98 rfl rfl ?_
        refine pw_ialdN (64 * kp + m0) dX10_argument_99 (sh_lt hG (by decide)) (sh_sh hG 67 rfl) (by decide) (rfl) (by omega) ?_
        refine pw_iconst (v := nI 1) dX10_argument_100 (by decide) ?_
        refine pw_iadd dX10_argument_101 ?_
        refine pw_ti (z := nI 2) (by rw [pm_u_ne (by decide), pm_u_ne (by decide), pm_u_ne (by decide), h69]; rfl) ?_
        refine pw_iastN (64 * kp + m0) dX10_argument_102 (by decide) (sh_lt hG (by decide)) (sh_sh hG 67 rfl) (by decide) (rfl) (by omega) ?_
        refine pw_mI (I' := pm_u (pm_u I2 65 (64 * kp + m0) (nI N2)) 69 (64 * kp + m0) (nI 2)) (by congr 1; rw [pm_us (I := pm_u (pm_u I2 64 (64 * kp + m0) (I2 64 (64 * kp + m0))) 65 (64 * kp + m0) (nI N2)) rfl, pm_us (I := I2) rfl]) ?_
        refine pw_aload_n dX10_argument_103 rfl ?_
        refine pw_callV (as := []) (kc' := 0) (ks' := 0) lX10_200 dX10_argument_104 rfl rfl (sh_lt hG (by decide)) (sh_tg hG 45 rfl) (Nat.le_of_ble_eq_true rfl) (by omega) (Nat.le_of_ble_eq_true rfl) (Nat.zero_le _) (Nat.zero_le _) ?_
        refine c_X10_tok hG hP hs3 ?_
        refine pw_bipush (v := nI 44) dX10_argument_107 (by decide) ?_
        refine pw_icmpN_ne _ _ (tgt := 135) dX10_argument_109 (by decide) (rfl) (rfl) (by omega) (by omega) (fun hX10_argument_109 => ?_) (fun hX10_argument_109 => absurd hX10_argument_109 (fun q => hcm ((rq44 hb).mp q)))
        refine pw_aload_n dX10_argument_135 rfl ?_
        refine pw_dup dX10_argument_136 rfl ?_
        refine pw_getI fX10_210 dX10_argument_137 (sh_lt hG (by decide)) (sh_tg hG 45 rfl) rfl ?_
        refine pw_iconst (v := nI 1) dX10_argument_140 (by decide) ?_
        refine pw_isub dX10_argument_141 ?_
        refine pw_ti (z := nI op) (by rw [hs3.2.2.2.2.1]; exact nI_pred op) ?_
        refine pw_putI fX10_210 dX10_argument_142 (Or.inl rfl) (by decide) (sh_lt hG (by decide)) (sh_tg hG 45 rfl) rfl ?_
        refine pw_aload_n dX10_argument_145 rfl ?_
        refine pw_iload_n dX10_argument_146 rfl ?_
        refine pw_putI fX10_230 dX10_argument_147 (Or.inl rfl) (by decide) (sh_lt hG (by decide)) (sh_tg hG 45 rfl) rfl ?_
        refine pw_aload_n dX10_argument_150 rfl ?_
        refine pw_bipush (v := nI 41) dX10_argument_151 (by decide) ?_
        refine pw_callV (as := [_]) (kc' := 0) (ks' := 0) lX10_237 dX10_argument_153 rfl rfl (sh_lt hG (by decide)) (sh_tg hG 45 rfl) (Nat.le_of_ble_eq_true rfl) (by omega) (Nat.le_of_ble_eq_true rfl) (Nat.zero_le _) (Nat.zero_le _) ?_
        refine c_X10_need hG hP (by omega) hs4 hb (c := 41) (by decide) (fun hz1 => ?_) (fun hz0 => ?_)
        · have hz1 := (rq41 hb).mp hz1
          rw [if_pos hz1] at hr
          have hbl := hs2.lt (by rw [hz1]; decide) (by rw [hz1]; decide)
          refine pw_pop dX10_argument_156 rfl ?_
          refine pw_aload_n dX10_argument_157 rfl ?_
          refine pw_dup dX10_argument_158 rfl ?_
          refine pw_getI fX10_213 dX10_argument_159 (sh_lt hG (by decide)) (sh_tg hG 45 rfl) rfl ?_
          refine pw_iconst (v := nI 1) dX10_argument_162 (by decide) ?_
          refine pw_isub dX10_argument_163 ?_
          refine pw_ti (z := nI T) (by rw [(hs4.at' (b := b + 1) (by omega) (by omega)).2.2.2.2.2.1.1]; exact nI_pred T) ?_
          refine pw_putI fX10_213 dX10_argument_164 (Or.inl rfl) (by decide) (sh_lt hG (by decide)) (sh_tg hG 45 rfl) rfl ?_
          refine pw_vret dX10_argument_167 rfl ?_
          refine pw_vret dX10_atom_75 rfl ?_
          refine pw_goto (tgt := 10) dX10_readExpr_201 (by decide) ?_
          refine pw_sub [1] rfl ?_
          have hsE := (hs4.at' (b := b + 1) (by omega) (by omega)).tp' (b := T) (by omega)
          have hE := (((fq.put (T := T) (K := 64 * kp + m2) (I := pm_u (pm_u I2 65 (64 * kp + m0) (nI N2)) 69 (64 * kp + m0) (nI 2)) (J := J2) (k := 42) (x := nI op) (by decide) (by decide)).trans (fq.put (T := T) (K := 64 * kp + m2) (k := 44) (x := nI (64 * kp + m0)) (by decide) (by decide)) (Nat.le_refl _) (Nat.le_refl _)).trans (fq.put (T := T) (K := 64 * kp + m2) (k := 40) (x := nI (b + 1)) (by decide) (by decide)) (Nat.le_refl _) (Nat.le_refl _)).trans (fq.put (T := T) (K := 64 * kp + m2) (k := 45) (x := nI T) (by decide) (by decide)) (Nat.le_refl _) (Nat.le_refl _)
          exact k1 (b + 1) _ (64 * kp + m0) m2 _ _ (by rw [← Option.some.inj hr]; simp only [List.append_assoc, List.nil_append, List.append_nil]) hsE (by rw [pm_u_eq, pm_up_ne (by decide), pm_u_eq, pm_up_ne (by decide), pm_u_eq, pm_up_eq]) ((nT.m3 (s := m0) (f := m2 - m0 - 1) (F := m2 - m0) (m := m2) (g := 2) (M1 := M1) (M2 := L) (M3 := []) (by omega) ⟨by omega, by omega⟩ h67n h63n h68n h69n (by omega) (Or.inr ⟨by omega, c1, hc1n, hM1n.up (s' := m0) (m' := m2) (f' := m2 - m0 - 1) (fq.refl (T := 0)) (Nat.le_refl _) (Nat.le_refl _)⟩) (Or.inr ⟨by omega, N2, hcn, hn3.up (s' := m0) (m' := m2) (f' := m2 - m0 - 1) (fq.refl (T := 0)) (Nat.le_refl _) (Nat.le_refl _)⟩) (Or.inl ⟨by omega, rfl⟩)).up hE (Nat.le_refl _) (Nat.le_refl _)) ⟨by omega, by omega⟩ (hG3.trans (hE.le (T := T) (K := 64 * kp + m0) (Nat.le_refl _) (by omega)) (Nat.le_refl _) (Nat.le_refl _))
        · rw [if_neg (fun q => hz0 ((rq41 hb).mpr q))] at hr
          refine pw_pop dX10_argument_156 rfl ?_
          refine pw_aload_n dX10_argument_157 rfl ?_
          refine pw_dup dX10_argument_158 rfl ?_
          refine pw_getI fX10_213 dX10_argument_159 (sh_lt hG (by decide)) (sh_tg hG 45 rfl) rfl ?_
          refine pw_iconst (v := nI 1) dX10_argument_162 (by decide) ?_
          refine pw_isub dX10_argument_163 ?_
          refine pw_putI fX10_213 dX10_argument_164 (Or.inl rfl) (by decide) (sh_lt hG (by decide)) (sh_tg hG 45 rfl) rfl ?_
          refine pw_vret dX10_argument_167 rfl ?_
          refine pw_vret dX10_atom_75 rfl ?_
          refine pw_goto (tgt := 10) dX10_readExpr_201 (by decide) ?_
          refine pw_sub [1] rfl ?_
          exact k0 b _ _ (Option.some.inj hr).symm (by rw [pm_u_eq, pm_up_ne (by decide), pm_u_eq, pm_up_eq]) (((hG4.trans (fq.put (T := T) (K := 64 * kp + m0) (by decide) (by decide)) (Nat.le_refl _) (Nat.le_refl _)).trans (fq.put (T := T) (K := 64 * kp + m0) (by decide) (by decide)) (Nat.le_refl _) (Nat.le_refl _)).le (Nat.zero_le _) (by omega))
    · obtain ⟨c1, hc1, hM1⟩ := (hN.2.2.2.2.1.resolve_left (fun q => absurd q.1 (by omega))).2
      obtain ⟨c2, hc2, hM2⟩ := (hN.2.2.2.2.2.resolve_left (fun q => absurd q.1 (by omega))).2
      have hc1' : I2 64 (64 * kp + m0) = nI c1 := by rw [e2 64 (by decide) (by decide)]; exact hc1
      have hM1' : nT tx n kp pa I2 J2 (m0 + 1) m2 (m2 - m0 - 1) c1 M1 := hM1.up hf2 (by omega) (by omega)
      have hc2' : I2 65 (64 * kp + m0) = nI c2 := by rw [e2 65 (by decide) (by decide)]; exact hc2
      have hM2' : nT tx n kp pa I2 J2 (m0 + 1) m2 (m2 - m0 - 1) c2 M2 := hM2.up hf2 (by omega) (by omega)
      have hs3 := hs2.arg (b := 66) (c := 3) (g := 2) (j := 64 * kp + m0) rfl rfl (by decide) h63 h69 hnd2.ch
      have hG3 : fq T (64 * kp + m0) I (pm_u (pm_u I2 66 (64 * kp + m0) (nI N2)) 69 (64 * kp + m0) (nI 3)) J J2 := (hG2.trans (fq.nod (T := T) (K := 64 * kp + m0) (by decide) (by decide) (Nat.le_refl _)) (Nat.le_refl _) (Nat.le_refl _)).trans (fq.nod (T := T) (K := 64 * kp + m0) (by decide) (by decide) (Nat.le_refl _)) (Nat.le_refl _) (Nat.le_refl _)
      have e3 : ∀ x k, 63 ≤ x → x ≤ 69 → k ≠ 64 * kp + m0 → (pm_u (pm_u I2 66 (64 * kp + m0) (nI N2)) 69 (64 * kp + m0) (nI 3)) x k = I2 x k := by
        intro x k h1 h2 h3
        by_cases hx : x = 69
        · subst hx; rw [pm_u_eq, pm_up_ne h3, pm_u_ne (by decide)]
        · rw [pm_u_ne hx]
          by_cases hy : x = 66
          · subst hy; rw [pm_u_eq, pm_up_ne h3]
          · rw [pm_u_ne hy]
      have hn3 := hn2.up' e3 rfl
      have hM1n := hM1'.up' e3 rfl
      have hc1n : (pm_u (pm_u I2 66 (64 * kp + m0) (nI N2)) 69 (64 * kp + m0) (nI 3)) 64 (64 * kp + m0) = nI c1 := by rw [pm_u_ne (by decide), pm_u_ne (by decide)]; exact hc1'
      have hM2n := hM2'.up' e3 rfl
      have hc2n : (pm_u (pm_u I2 66 (64 * kp + m0) (nI N2)) 69 (64 * kp + m0) (nI 3)) 65 (64 * kp + m0) = nI c2 := by rw [pm_u_ne (by decide), pm_u_ne (by decide)]; exact hc2'
      have hcn : (pm_u (pm_u I2 66 (64 * kp + m0) (nI N2)) 69 (64 * kp + m0) (nI 3)) 66 (64 * kp + m0) = nI N2 := by rw [pm_u_ne (by decide), pm_u_eq, pm_up_eq]
      have h63n : (pm_u (pm_u I2 66 (64 * kp + m0) (nI N2)) 69 (64 * kp + m0) (nI 3)) 63 (64 * kp + m0) = nI 3 := by rw [pm_u_ne (by decide), pm_u_ne (by decide)]; exact h63
      have h67n : (pm_u (pm_u I2 66 (64 * kp + m0) (nI N2)) 69 (64 * kp + m0) (nI 3)) 67 (64 * kp + m0) = nI (tk_p tx n nm) := by rw [pm_u_ne (by decide), pm_u_ne (by decide)]; exact h67
      have h68n : crT tx n (pm_u (pm_u I2 66 (64 * kp + m0) (nI N2)) 69 (64 * kp + m0) (nI 3)) (64 * kp + m0) (tk_v tx n nm) := by
        obtain ⟨t, q1, q2, q3⟩ := h68
        exact ⟨t, q1, by rw [pm_u_ne (by decide), pm_u_ne (by decide)]; exact q2, q3⟩
      have h69n : (pm_u (pm_u I2 66 (64 * kp + m0) (nI N2)) 69 (64 * kp + m0) (nI 3)) 69 (64 * kp + m0) = nI 3 := by rw [pm_u_eq, pm_up_eq]
      by_cases hcm : tk_k tx n b = 44
      · rw [if_neg (fun q => absurd q.2 (by omega))] at hr
        have hs4 := (hs3.op' op).re' (nI (64 * kp + m0))
        have hG4 := (hG3.trans (fq.put (T := T) (K := 64 * kp + m0) (k := 42) (x := nI op) (by decide) (by decide)) (Nat.le_refl _) (Nat.le_refl _)).trans (fq.put (T := T) (K := 64 * kp + m0) (k := 44) (x := nI (64 * kp + m0)) (by decide) (by decide)) (Nat.le_refl _) (Nat.le_refl _)
        unfold LH
        refine pw_aload_n dX10_readExpr_10 rfl ?_
        refine pw_getI fX10_213 dX10_readExpr_11 (sh_lt hG (by decide)) (sh_tg hG 45 rfl) rfl ?_
        refine pw_ifN_le _ (tgt := 204) dX10_readExpr_14 (by decide) (hs2.2.2.2.2.2.1.1) (by omega) (fun h14 => absurd h14 (by omega)) (fun h14 => ?_)
        refine pw_aload_n dX10_readExpr_17 rfl ?_
        refine pw_getI fX10_197 dX10_readExpr_18 (sh_lt hG (by decide)) (sh_tg hG 45 rfl) rfl ?_
        refine pw_if_ge (tgt := 204) dX10_readExpr_21 (by decide) (fun h => absurd h (by rw [hs2.2.2.2.1]; decide)) (fun h21 => ?_)
        refine pw_aload_n dX10_readExpr_24 rfl ?_
        refine pw_getI fX10_213 dX10_readExpr_25 (sh_lt hG (by decide)) (sh_tg hG 45 rfl) rfl ?_
        refine pw_iconst (v := nI 1) dX10_readExpr_28 (by decide) ?_
        refine pw_isub dX10_readExpr_29 ?_
        refine pw_ti (z := nI T) (by rw [hs2.2.2.2.2.2.1.1]; exact nI_pred T) ?_
        refine pw_istore_n (lv' := [(1, _), (0, _)]) dX10_readExpr_30 (by decide) rfl ?_
        refine pw_aload_n dX10_readExpr_31 rfl ?_
        refine pw_getR fX10_108 dX10_readExpr_32 (sh_lt hG (by decide)) (sh_tg hG 45 rfl) rfl (gr_at hP 72 rfl) ?_
        refine pw_iload_n dX10_readExpr_35 rfl ?_
        refine pw_ialdN T dX10_readExpr_36 (sh_lt hG (by decide)) (sh_sh hG 78 rfl) (by decide) (rfl) (by omega) ?_
        refine pw_ti (z := nI 5) hk2 ?_
        refine pw_tableOut (tgt := 196) dX10_readExpr_37 (by decide) (by decide) ?_
        refine pw_aload_n dX10_readExpr_196 rfl ?_
        refine pw_iload_n dX10_readExpr_197 rfl ?_
        refine pw_callV (as := [_]) (kc' := 0) (ks' := 0) lX10_260 dX10_readExpr_198 rfl rfl (sh_lt hG (by decide)) (sh_tg hG 45 rfl) (Nat.le_of_ble_eq_true rfl) (by omega) (Nat.le_of_ble_eq_true rfl) (Nat.zero_le _) (Nat.zero_le _) ?_
        unfold pm_Met
        refine pm_lvs (lv' := [(0, _), (1, _)]) rfl ?_
        refine pw_aload_n dX10_atom_0 rfl ?_
        refine pw_getR fX10_111 dX10_atom_1 (sh_lt hG (by decide)) (sh_tg hG 45 rfl) rfl (gr_at hP 73 rfl) ?_
        refine pw_iload_n dX10_atom_4 rfl ?_
        refine pw_ialdN T dX10_atom_5 (sh_lt hG (by decide)) (sh_sh hG 79 rfl) (by decide) (rfl) (by omega) ?_
        refine pw_ti (z := nI 2) hes2 ?_
        refine pw_lookup (off := 64) (tgt := 70) dX10_atom_6 (by decide) (by decide) (by decide) ?_
        refine pw_aload_n dX10_atom_70 rfl ?_
        refine pw_iload_n dX10_atom_71 rfl ?_
        refine pw_callV (as := [_]) (kc' := 0) (ks' := 0) lX10_247 dX10_atom_72 rfl rfl (sh_lt hG (by decide)) (sh_tg hG 45 rfl) (Nat.le_of_ble_eq_true rfl) (by omega) (Nat.le_of_ble_eq_true rfl) (Nat.zero_le _) (Nat.zero_le _) ?_
        unfold pm_Met
        refine pm_lvs (lv' := [(0, _), (1, _)]) rfl ?_
        refine pw_aload_n dX10_argument_0 rfl ?_
        refine pw_getR fX10_114 dX10_argument_1 (sh_lt hG (by decide)) (sh_tg hG 45 rfl) rfl (gr_at hP 74 rfl) ?_
        refine pw_iload_n dX10_argument_4 rfl ?_
        refine pw_ialdN T dX10_argument_5 (sh_lt hG (by decide)) (sh_sh hG 80 rfl) (by decide) (rfl) (by omega) ?_
        refine pw_ti (z := nI (64 * kp + m0)) ha2 ?_
        refine pw_istore_n (lv' := [(2, _), (0, _), (1, _)]) dX10_argument_6 (by decide) rfl ?_
        refine pw_aload_n dX10_argument_7 rfl ?_
        refine pw_getR fX10_59 dX10_argument_8 (sh_lt hG (by decide)) (sh_tg hG 45 rfl) rfl (gr_at hP 56 rfl) ?_
        refine pw_iload_n dX10_argument_11 rfl ?_
        refine pw_aload_n dX10_argument_12 rfl ?_
        refine pw_getR fX10_74 dX10_argument_13 (sh_lt hG (by decide)) (sh_tg hG 45 rfl) rfl (gr_at hP 61 rfl) ?_
        refine pw_iload_n dX10_argument_16 rfl ?_
        refine pw_ialdN (64 * kp + m0) dX10_argument_17 (sh_lt hG (by decide)) (sh_sh hG 67 rfl) (by decide) (rfl) (by omega) ?_
        refine pw_ti (z := nI 2) h69 ?_
        refine pw_if_ne (tgt := 28) dX10_argument_18 (by decide) (fun hX10_argument_18 => ?_) (fun h => absurd h (by decide))
        refine pw_aload_n dX10_argument_28 rfl ?_
        refine pw_getR fX10_59 dX10_argument_29 (sh_lt hG (by decide)) (sh_tg hG 45 rfl) rfl (gr_at hP 56 rfl) ?_
        refine pw_iload_n dX10_argument_32 rfl ?_
        refine pw_ialdN (64 * kp + m0) dX10_argument_33 (sh_lt hG (by decide)) (sh_sh hG 62 rfl) (by decide) (rfl) (by omega) ?_
        refine pw_iastN (64 * kp + m0) dX10_argument_34 (by decide) (sh_lt hG (by decide)) (sh_sh hG 62 rfl) (by decide) (rfl) (by omega) ?_
        refine pw_aload_n dX10_argument_35 rfl ?_
        refine pw_getR fX10_62 dX10_argument_36 (sh_lt hG (by decide)) (sh_tg hG 45 rfl) rfl (gr_at hP 57 rfl) ?_
        refine pw_iload_n dX10_argument_39 rfl ?_
        refine pw_aload_n dX10_argument_40 rfl ?_
        refine pw_getR fX10_74 dX10_argument_41 (sh_lt hG (by decide)) (sh_tg hG 45 rfl) rfl (gr_at hP 61 rfl) ?_
        refine pw_iload_n dX10_argument_44 rfl ?_
        refine pw_ialdN (64 * kp + m0) dX10_argument_45 (sh_lt hG (by decide)) (sh_sh hG 67 rfl) (by decide) (rfl) (by omega) ?_
        refine pw_ti (z := nI 2) (by rw [pm_u_ne (by decide)]; exact h69) ?_
        refine pw_iconst (v := nI 1) dX10_argument_46 (by decide) ?_
        refine pw_icmp_ne (tgt := 57) dX10_argument_47 (by decide) (fun hX10_argument_47 => ?_) (fun h => absurd h (by decide))
        refine pw_aload_n dX10_argument_57 rfl ?_
        refine pw_getR fX10_62 dX10_argument_58 (sh_lt hG (by decide)) (sh_tg hG 45 rfl) rfl (gr_at hP 57 rfl) ?_
        refine pw_iload_n dX10_argument_61 rfl ?_
        refine pw_ialdN (64 * kp + m0) dX10_argument_62 (sh_lt hG (by decide)) (sh_sh hG 63 rfl) (by decide) (rfl) (by omega) ?_
        refine pw_iastN (64 * kp + m0) dX10_argument_63 (by decide) (sh_lt hG (by decide)) (sh_sh hG 63 rfl) (by decide) (rfl) (by omega) ?_
        refine pw_aload_n dX10_argument_64 rfl ?_
        refine pw_getR fX10_65 dX10_argument_65 (sh_lt hG (by decide)) (sh_tg hG 45 rfl) rfl (gr_at hP 58 rfl) ?_
        refine pw_iload_n dX10_argument_68 rfl ?_
        refine pw_aload_n dX10_argument_69 rfl ?_
        refine pw_getR fX10_74 dX10_argument_70 (sh_lt hG (by decide)) (sh_tg hG 45 rfl) rfl (gr_at hP 61 rfl) ?_
        refine pw_iload_n dX10_argument_73 rfl ?_
        refine pw_ialdN (64 * kp + m0) dX10_argument_74 (sh_lt hG (by decide)) (sh_sh hG 67 rfl) (by decide) (rfl) (by omega) ?_
        refine pw_ti (z := nI 2) (by rw [pm_u_ne (by decide), pm_u_ne (by decide)]; exact h69) ?_
        refine pw_iconst (v := nI 2) dX10_argument_75 (by decide) ?_
        refine pw_icmp_ne (tgt := 86) dX10_argument_76 (by decide) (fun h => absurd (by decide) h) (fun hX10_argument_76 => ?_)
        refine pw_aload_n dX10_argument_79 rfl ?_
        refine pw_getI fX10_230 dX10_argument_80 (sh_lt hG (by decide)) (sh_tg hG 45 rfl) rfl ?_
        refine pw_ti (z := nI N2) (by rw [pm_u_ne (by decide), pm_u_ne (by decide)]; exact hre2) ?_
        refine pw_goto (tgt := 92) dX10_argument_83 (by decide) ?_
        refine pw_iastN (64 * kp + m0) dX10_argument_92 (by decide) (sh_lt hG (by decide)) (sh_sh hG 64 rfl) (by decide) (rfl) (by omega) ?_
        refine pw_aload_n dX10_argument_93 rfl ?_
        refine pw_getR fX10_74 dX10_argument_94 (sh_lt hG (by decide)) (sh_tg hG 45 rfl) rfl (gr_at hP 61 rfl) ?_
        refine pw_iload_n dX10_argument_97 rfl ?_
        refine pw_dup2 dX10_argument_98 rfl rfl ?_
        refine pw_ialdN (64 * kp + m0) dX10_argument_99 (sh_lt hG (by decide)) (sh_sh hG 67 rfl) (by decide) (rfl) (by omega) ?_
        refine pw_iconst (v := nI 1) dX10_argument_100 (by decide) ?_
        refine pw_iadd dX10_argument_101 ?_
        refine pw_ti (z := nI 3) (by rw [pm_u_ne (by decide), pm_u_ne (by decide), pm_u_ne (by decide), h69]; rfl) ?_
        refine pw_iastN (64 * kp + m0) dX10_argument_102 (by decide) (sh_lt hG (by decide)) (sh_sh hG 67 rfl) (by decide) (rfl) (by omega) ?_
        refine pw_mI (I' := pm_u (pm_u I2 66 (64 * kp + m0) (nI N2)) 69 (64 * kp + m0) (nI 3)) (by congr 1; rw [pm_us (I := pm_u I2 64 (64 * kp + m0) (I2 64 (64 * kp + m0))) rfl, pm_us (I := I2) rfl]) ?_
        refine pw_aload_n dX10_argument_103 rfl ?_
        refine pw_callV (as := []) (kc' := 0) (ks' := 0) lX10_200 dX10_argument_104 rfl rfl (sh_lt hG (by decide)) (sh_tg hG 45 rfl) (Nat.le_of_ble_eq_true rfl) (by omega) (Nat.le_of_ble_eq_true rfl) (Nat.zero_le _) (Nat.zero_le _) ?_
        refine c_X10_tok hG hP hs3 ?_
        refine pw_ti (z := nI 44) (by rw [hcm]; rfl) ?_
        refine pw_bipush (v := nI 44) dX10_argument_107 (by decide) ?_
        refine pw_icmp_ne (tgt := 135) dX10_argument_109 (by decide) (fun h => absurd (by decide) h) (fun hX10_argument_109 => ?_)
        refine pw_aload_n dX10_argument_112 rfl ?_
        refine pw_getR fX10_74 dX10_argument_113 (sh_lt hG (by decide)) (sh_tg hG 45 rfl) rfl (gr_at hP 61 rfl) ?_
        refine pw_iload_n dX10_argument_116 rfl ?_
        refine pw_ialdN (64 * kp + m0) dX10_argument_117 (sh_lt hG (by decide)) (sh_sh hG 67 rfl) (by decide) (rfl) (by omega) ?_
        refine pw_ti (z := nI 3) h69n ?_
        refine pw_iconst (v := nI 3) dX10_argument_118 (by decide) ?_
        refine pw_icmp_ge (tgt := 135) dX10_argument_119 (by decide) (fun hX10_argument_119 => ?_) (fun h => absurd (by decide) h)
        refine pw_aload_n dX10_argument_135 rfl ?_
        refine pw_dup dX10_argument_136 rfl ?_
        refine pw_getI fX10_210 dX10_argument_137 (sh_lt hG (by decide)) (sh_tg hG 45 rfl) rfl ?_
        refine pw_iconst (v := nI 1) dX10_argument_140 (by decide) ?_
        refine pw_isub dX10_argument_141 ?_
        refine pw_ti (z := nI op) (by rw [hs3.2.2.2.2.1]; exact nI_pred op) ?_
        refine pw_putI fX10_210 dX10_argument_142 (Or.inl rfl) (by decide) (sh_lt hG (by decide)) (sh_tg hG 45 rfl) rfl ?_
        refine pw_aload_n dX10_argument_145 rfl ?_
        refine pw_iload_n dX10_argument_146 rfl ?_
        refine pw_putI fX10_230 dX10_argument_147 (Or.inl rfl) (by decide) (sh_lt hG (by decide)) (sh_tg hG 45 rfl) rfl ?_
        refine pw_aload_n dX10_argument_150 rfl ?_
        refine pw_bipush (v := nI 41) dX10_argument_151 (by decide) ?_
        refine pw_callV (as := [_]) (kc' := 0) (ks' := 0) lX10_237 dX10_argument_153 rfl rfl (sh_lt hG (by decide)) (sh_tg hG 45 rfl) (Nat.le_of_ble_eq_true rfl) (by omega) (Nat.le_of_ble_eq_true rfl) (Nat.zero_le _) (Nat.zero_le _) ?_
        refine c_X10_need hG hP (by omega) hs4 hb (c := 41) (by decide) (fun hz1 => ?_) (fun hz0 => ?_)
        · have hz1 := (rq41 hb).mp hz1
          rw [if_pos hz1] at hr
          have hbl := hs2.lt (by rw [hz1]; decide) (by rw [hz1]; decide)
          refine pw_pop dX10_argument_156 rfl ?_
          refine pw_aload_n dX10_argument_157 rfl ?_
          refine pw_dup dX10_argument_158 rfl ?_
          refine pw_getI fX10_213 dX10_argument_159 (sh_lt hG (by decide)) (sh_tg hG 45 rfl) rfl ?_
          refine pw_iconst (v := nI 1) dX10_argument_162 (by decide) ?_
          refine pw_isub dX10_argument_163 ?_
          refine pw_ti (z := nI T) (by rw [(hs4.at' (b := b + 1) (by omega) (by omega)).2.2.2.2.2.1.1]; exact nI_pred T) ?_
          refine pw_putI fX10_213 dX10_argument_164 (Or.inl rfl) (by decide) (sh_lt hG (by decide)) (sh_tg hG 45 rfl) rfl ?_
          refine pw_vret dX10_argument_167 rfl ?_
          refine pw_vret dX10_atom_75 rfl ?_
          refine pw_goto (tgt := 10) dX10_readExpr_201 (by decide) ?_
          refine pw_sub [1] rfl ?_
          have hsE := (hs4.at' (b := b + 1) (by omega) (by omega)).tp' (b := T) (by omega)
          have hE := (((fq.put (T := T) (K := 64 * kp + m2) (I := pm_u (pm_u I2 66 (64 * kp + m0) (nI N2)) 69 (64 * kp + m0) (nI 3)) (J := J2) (k := 42) (x := nI op) (by decide) (by decide)).trans (fq.put (T := T) (K := 64 * kp + m2) (k := 44) (x := nI (64 * kp + m0)) (by decide) (by decide)) (Nat.le_refl _) (Nat.le_refl _)).trans (fq.put (T := T) (K := 64 * kp + m2) (k := 40) (x := nI (b + 1)) (by decide) (by decide)) (Nat.le_refl _) (Nat.le_refl _)).trans (fq.put (T := T) (K := 64 * kp + m2) (k := 45) (x := nI T) (by decide) (by decide)) (Nat.le_refl _) (Nat.le_refl _)
          exact k1 (b + 1) _ (64 * kp + m0) m2 _ _ (by rw [← Option.some.inj hr]; simp only [List.append_assoc]) hsE (by rw [pm_u_eq, pm_up_ne (by decide), pm_u_eq, pm_up_ne (by decide), pm_u_eq, pm_up_eq]) ((nT.m3 (s := m0) (f := m2 - m0 - 1) (F := m2 - m0) (m := m2) (g := 3) (M1 := M1) (M2 := M2) (M3 := L) (by omega) ⟨by omega, by omega⟩ h67n h63n h68n h69n (by omega) (Or.inr ⟨by omega, c1, hc1n, hM1n.up (s' := m0) (m' := m2) (f' := m2 - m0 - 1) (fq.refl (T := 0)) (Nat.le_refl _) (Nat.le_refl _)⟩) (Or.inr ⟨by omega, c2, hc2n, hM2n.up (s' := m0) (m' := m2) (f' := m2 - m0 - 1) (fq.refl (T := 0)) (Nat.le_refl _) (Nat.le_refl _)⟩) (Or.inr ⟨by omega, N2, hcn, hn3.up (s' := m0) (m' := m2) (f' := m2 - m0 - 1) (fq.refl (T := 0)) (Nat.le_refl _) (Nat.le_refl _)⟩)).up hE (Nat.le_refl _) (Nat.le_refl _)) ⟨by omega, by omega⟩ (hG3.trans (hE.le (T := T) (K := 64 * kp + m0) (Nat.le_refl _) (by omega)) (Nat.le_refl _) (Nat.le_refl _))
        · rw [if_neg (fun q => hz0 ((rq41 hb).mpr q))] at hr
          refine pw_pop dX10_argument_156 rfl ?_
          refine pw_aload_n dX10_argument_157 rfl ?_
          refine pw_dup dX10_argument_158 rfl ?_
          refine pw_getI fX10_213 dX10_argument_159 (sh_lt hG (by decide)) (sh_tg hG 45 rfl) rfl ?_
          refine pw_iconst (v := nI 1) dX10_argument_162 (by decide) ?_
          refine pw_isub dX10_argument_163 ?_
          refine pw_putI fX10_213 dX10_argument_164 (Or.inl rfl) (by decide) (sh_lt hG (by decide)) (sh_tg hG 45 rfl) rfl ?_
          refine pw_vret dX10_argument_167 rfl ?_
          refine pw_vret dX10_atom_75 rfl ?_
          refine pw_goto (tgt := 10) dX10_readExpr_201 (by decide) ?_
          refine pw_sub [1] rfl ?_
          exact k0 b _ _ (Option.some.inj hr).symm (by rw [pm_u_eq, pm_up_ne (by decide), pm_u_eq, pm_up_eq]) (((hG4.trans (fq.put (T := T) (K := 64 * kp + m0) (by decide) (by decide)) (Nat.le_refl _) (Nat.le_refl _)).trans (fq.put (T := T) (K := 64 * kp + m0) (by decide) (by decide)) (Nat.le_refl _) (Nat.le_refl _)).le (Nat.zero_le _) (by omega))
      · rw [if_neg (fun q => hcm q.1)] at hr
        have hs4 := (hs3.op' op).re' (nI (64 * kp + m0))
        have hG4 := (hG3.trans (fq.put (T := T) (K := 64 * kp + m0) (k := 42) (x := nI op) (by decide) (by decide)) (Nat.le_refl _) (Nat.le_refl _)).trans (fq.put (T := T) (K := 64 * kp + m0) (k := 44) (x := nI (64 * kp + m0)) (by decide) (by decide)) (Nat.le_refl _) (Nat.le_refl _)
        unfold LH
        refine pw_aload_n dX10_readExpr_10 rfl ?_
        refine pw_getI fX10_213 dX10_readExpr_11 (sh_lt hG (by decide)) (sh_tg hG 45 rfl) rfl ?_
        refine pw_ifN_le _ (tgt := 204) dX10_readExpr_14 (by decide) (hs2.2.2.2.2.2.1.1) (by omega) (fun h14 => absurd h14 (by omega)) (fun h14 => ?_)
        refine pw_aload_n dX10_readExpr_17 rfl ?_
        refine pw_getI fX10_197 dX10_readExpr_18 (sh_lt hG (by decide)) (sh_tg hG 45 rfl) rfl ?_
        refine pw_if_ge (tgt := 204) dX10_readExpr_21 (by decide) (fun h => absurd h (by rw [hs2.2.2.2.1]; decide)) (fun h21 => ?_)
        refine pw_aload_n dX10_readExpr_24 rfl ?_
        refine pw_getI fX10_213 dX10_readExpr_25 (sh_lt hG (by decide)) (sh_tg hG 45 rfl) rfl ?_
        refine pw_iconst (v := nI 1) dX10_readExpr_28 (by decide) ?_
        refine pw_isub dX10_readExpr_29 ?_
        refine pw_ti (z := nI T) (by rw [hs2.2.2.2.2.2.1.1]; exact nI_pred T) ?_
        refine pw_istore_n (lv' := [(1, _), (0, _)]) dX10_readExpr_30 (by decide) rfl ?_
        refine pw_aload_n dX10_readExpr_31 rfl ?_
        refine pw_getR fX10_108 dX10_readExpr_32 (sh_lt hG (by decide)) (sh_tg hG 45 rfl) rfl (gr_at hP 72 rfl) ?_
        refine pw_iload_n dX10_readExpr_35 rfl ?_
        refine pw_ialdN T dX10_readExpr_36 (sh_lt hG (by decide)) (sh_sh hG 78 rfl) (by decide) (rfl) (by omega) ?_
        refine pw_ti (z := nI 5) hk2 ?_
        refine pw_tableOut (tgt := 196) dX10_readExpr_37 (by decide) (by decide) ?_
        refine pw_aload_n dX10_readExpr_196 rfl ?_
        refine pw_iload_n dX10_readExpr_197 rfl ?_
        refine pw_callV (as := [_]) (kc' := 0) (ks' := 0) lX10_260 dX10_readExpr_198 rfl rfl (sh_lt hG (by decide)) (sh_tg hG 45 rfl) (Nat.le_of_ble_eq_true rfl) (by omega) (Nat.le_of_ble_eq_true rfl) (Nat.zero_le _) (Nat.zero_le _) ?_
        unfold pm_Met
        refine pm_lvs (lv' := [(0, _), (1, _)]) rfl ?_
        refine pw_aload_n dX10_atom_0 rfl ?_
        refine pw_getR fX10_111 dX10_atom_1 (sh_lt hG (by decide)) (sh_tg hG 45 rfl) rfl (gr_at hP 73 rfl) ?_
        refine pw_iload_n dX10_atom_4 rfl ?_
        refine pw_ialdN T dX10_atom_5 (sh_lt hG (by decide)) (sh_sh hG 79 rfl) (by decide) (rfl) (by omega) ?_
        refine pw_ti (z := nI 2) hes2 ?_
        refine pw_lookup (off := 64) (tgt := 70) dX10_atom_6 (by decide) (by decide) (by decide) ?_
        refine pw_aload_n dX10_atom_70 rfl ?_
        refine pw_iload_n dX10_atom_71 rfl ?_
        refine pw_callV (as := [_]) (kc' := 0) (ks' := 0) lX10_247 dX10_atom_72 rfl rfl (sh_lt hG (by decide)) (sh_tg hG 45 rfl) (Nat.le_of_ble_eq_true rfl) (by omega) (Nat.le_of_ble_eq_true rfl) (Nat.zero_le _) (Nat.zero_le _) ?_
        unfold pm_Met
        refine pm_lvs (lv' := [(0, _), (1, _)]) rfl ?_
        refine pw_aload_n dX10_argument_0 rfl ?_
        refine pw_getR fX10_114 dX10_argument_1 (sh_lt hG (by decide)) (sh_tg hG 45 rfl) rfl (gr_at hP 74 rfl) ?_
        refine pw_iload_n dX10_argument_4 rfl ?_
        refine pw_ialdN T dX10_argument_5 (sh_lt hG (by decide)) (sh_sh hG 80 rfl) (by decide) (rfl) (by omega) ?_
        refine pw_ti (z := nI (64 * kp + m0)) ha2 ?_
        refine pw_istore_n (lv' := [(2, _), (0, _), (1, _)]) dX10_argument_6 (by decide) rfl ?_
        refine pw_aload_n dX10_argument_7 rfl ?_
        refine pw_getR fX10_59 dX10_argument_8 (sh_lt hG (by decide)) (sh_tg hG 45 rfl) rfl (gr_at hP 56 rfl) ?_
        refine pw_iload_n dX10_argument_11 rfl ?_
        refine pw_aload_n dX10_argument_12 rfl ?_
        refine pw_getR fX10_74 dX10_argument_13 (sh_lt hG (by decide)) (sh_tg hG 45 rfl) rfl (gr_at hP 61 rfl) ?_
        refine pw_iload_n dX10_argument_16 rfl ?_
        refine pw_ialdN (64 * kp + m0) dX10_argument_17 (sh_lt hG (by decide)) (sh_sh hG 67 rfl) (by decide) (rfl) (by omega) ?_
        refine pw_ti (z := nI 2) h69 ?_
        refine pw_if_ne (tgt := 28) dX10_argument_18 (by decide) (fun hX10_argument_18 => ?_) (fun h => absurd h (by decide))
        refine pw_aload_n dX10_argument_28 rfl ?_
        refine pw_getR fX10_59 dX10_argument_29 (sh_lt hG (by decide)) (sh_tg hG 45 rfl) rfl (gr_at hP 56 rfl) ?_
        refine pw_iload_n dX10_argument_32 rfl ?_
        refine pw_ialdN (64 * kp + m0) dX10_argument_33 (sh_lt hG (by decide)) (sh_sh hG 62 rfl) (by decide) (rfl) (by omega) ?_
        refine pw_iastN (64 * kp + m0) dX10_argument_34 (by decide) (sh_lt hG (by decide)) (sh_sh hG 62 rfl) (by decide) (rfl) (by omega) ?_
        refine pw_aload_n dX10_argument_35 rfl ?_
        refine pw_getR fX10_62 dX10_argument_36 (sh_lt hG (by decide)) (sh_tg hG 45 rfl) rfl (gr_at hP 57 rfl) ?_
        refine pw_iload_n dX10_argument_39 rfl ?_
        refine pw_aload_n dX10_argument_40 rfl ?_
        refine pw_getR fX10_74 dX10_argument_41 (sh_lt hG (by decide)) (sh_tg hG 45 rfl) rfl (gr_at hP 61 rfl) ?_
        refine pw_iload_n dX10_argument_44 rfl ?_
        refine pw_ialdN (64 * kp + m0) dX10_argument_45 (sh_lt hG (by decide)) (sh_sh hG 67 rfl) (by decide) (rfl) (by omega) ?_
        refine pw_ti (z := nI 2) (by rw [pm_u_ne (by decide)]; exact h69) ?_
        refine pw_iconst (v := nI 1) dX10_argument_46 (by decide) ?_
        refine pw_icmp_ne (tgt := 57) dX10_argument_47 (by decide) (fun hX10_argument_47 => ?_) (fun h => absurd h (by decide))
        refine pw_aload_n dX10_argument_57 rfl ?_
        refine pw_getR fX10_62 dX10_argument_58 (sh_lt hG (by decide)) (sh_tg hG 45 rfl) rfl (gr_at hP 57 rfl) ?_
        refine pw_iload_n dX10_argument_61 rfl ?_
        refine pw_ialdN (64 * kp + m0) dX10_argument_62 (sh_lt hG (by decide)) (sh_sh hG 63 rfl) (by decide) (rfl) (by omega) ?_
        refine pw_iastN (64 * kp + m0) dX10_argument_63 (by decide) (sh_lt hG (by decide)) (sh_sh hG 63 rfl) (by decide) (rfl) (by omega) ?_
        refine pw_aload_n dX10_argument_64 rfl ?_
        refine pw_getR fX10_65 dX10_argument_65 (sh_lt hG (by decide)) (sh_tg hG 45 rfl) rfl (gr_at hP 58 rfl) ?_
        refine pw_iload_n dX10_argument_68 rfl ?_
        refine pw_aload_n dX10_argument_69 rfl ?_
        refine pw_getR fX10_74 dX10_argument_70 (sh_lt hG (by decide)) (sh_tg hG 45 rfl) rfl (gr_at hP 61 rfl) ?_
        refine pw_iload_n dX10_argument_73 rfl ?_
        refine pw_ialdN (64 * kp + m0) dX10_argument_74 (sh_lt hG (by decide)) (sh_sh hG 67 rfl) (by decide) (rfl) (by omega) ?_
        refine pw_ti (z := nI 2) (by rw [pm_u_ne (by decide), pm_u_ne (by decide)]; exact h69) ?_
        refine pw_iconst (v := nI 2) dX10_argument_75 (by decide) ?_
        refine pw_icmp_ne (tgt := 86) dX10_argument_76 (by decide) (fun h => absurd (by decide) h) (fun hX10_argument_76 => ?_)
        refine pw_aload_n dX10_argument_79 rfl ?_
        refine pw_getI fX10_230 dX10_argument_80 (sh_lt hG (by decide)) (sh_tg hG 45 rfl) rfl ?_
        refine pw_ti (z := nI N2) (by rw [pm_u_ne (by decide), pm_u_ne (by decide)]; exact hre2) ?_
        refine pw_goto (tgt := 92) dX10_argument_83 (by decide) ?_
        refine pw_iastN (64 * kp + m0) dX10_argument_92 (by decide) (sh_lt hG (by decide)) (sh_sh hG 64 rfl) (by decide) (rfl) (by omega) ?_
        refine pw_aload_n dX10_argument_93 rfl ?_
        refine pw_getR fX10_74 dX10_argument_94 (sh_lt hG (by decide)) (sh_tg hG 45 rfl) rfl (gr_at hP 61 rfl) ?_
        refine pw_iload_n dX10_argument_97 rfl ?_
        refine pw_dup2 dX10_argument_98 rfl rfl ?_
        refine pw_ialdN (64 * kp + m0) dX10_argument_99 (sh_lt hG (by decide)) (sh_sh hG 67 rfl) (by decide) (rfl) (by omega) ?_
        refine pw_iconst (v := nI 1) dX10_argument_100 (by decide) ?_
        refine pw_iadd dX10_argument_101 ?_
        refine pw_ti (z := nI 3) (by rw [pm_u_ne (by decide), pm_u_ne (by decide), pm_u_ne (by decide), h69]; rfl) ?_
        refine pw_iastN (64 * kp + m0) dX10_argument_102 (by decide) (sh_lt hG (by decide)) (sh_sh hG 67 rfl) (by decide) (rfl) (by omega) ?_
        refine pw_mI (I' := pm_u (pm_u I2 66 (64 * kp + m0) (nI N2)) 69 (64 * kp + m0) (nI 3)) (by congr 1; rw [pm_us (I := pm_u I2 64 (64 * kp + m0) (I2 64 (64 * kp + m0))) rfl, pm_us (I := I2) rfl]) ?_
        refine pw_aload_n dX10_argument_103 rfl ?_
        refine pw_callV (as := []) (kc' := 0) (ks' := 0) lX10_200 dX10_argument_104 rfl rfl (sh_lt hG (by decide)) (sh_tg hG 45 rfl) (Nat.le_of_ble_eq_true rfl) (by omega) (Nat.le_of_ble_eq_true rfl) (Nat.zero_le _) (Nat.zero_le _) ?_
        refine c_X10_tok hG hP hs3 ?_
        refine pw_bipush (v := nI 44) dX10_argument_107 (by decide) ?_
        refine pw_icmpN_ne _ _ (tgt := 135) dX10_argument_109 (by decide) (rfl) (rfl) (by omega) (by omega) (fun hX10_argument_109 => ?_) (fun hX10_argument_109 => absurd hX10_argument_109 (fun q => hcm ((rq44 hb).mp q)))
        refine pw_aload_n dX10_argument_135 rfl ?_
        refine pw_dup dX10_argument_136 rfl ?_
        refine pw_getI fX10_210 dX10_argument_137 (sh_lt hG (by decide)) (sh_tg hG 45 rfl) rfl ?_
        refine pw_iconst (v := nI 1) dX10_argument_140 (by decide) ?_
        refine pw_isub dX10_argument_141 ?_
        refine pw_ti (z := nI op) (by rw [hs3.2.2.2.2.1]; exact nI_pred op) ?_
        refine pw_putI fX10_210 dX10_argument_142 (Or.inl rfl) (by decide) (sh_lt hG (by decide)) (sh_tg hG 45 rfl) rfl ?_
        refine pw_aload_n dX10_argument_145 rfl ?_
        refine pw_iload_n dX10_argument_146 rfl ?_
        refine pw_putI fX10_230 dX10_argument_147 (Or.inl rfl) (by decide) (sh_lt hG (by decide)) (sh_tg hG 45 rfl) rfl ?_
        refine pw_aload_n dX10_argument_150 rfl ?_
        refine pw_bipush (v := nI 41) dX10_argument_151 (by decide) ?_
        refine pw_callV (as := [_]) (kc' := 0) (ks' := 0) lX10_237 dX10_argument_153 rfl rfl (sh_lt hG (by decide)) (sh_tg hG 45 rfl) (Nat.le_of_ble_eq_true rfl) (by omega) (Nat.le_of_ble_eq_true rfl) (Nat.zero_le _) (Nat.zero_le _) ?_
        refine c_X10_need hG hP (by omega) hs4 hb (c := 41) (by decide) (fun hz1 => ?_) (fun hz0 => ?_)
        · have hz1 := (rq41 hb).mp hz1
          rw [if_pos hz1] at hr
          have hbl := hs2.lt (by rw [hz1]; decide) (by rw [hz1]; decide)
          refine pw_pop dX10_argument_156 rfl ?_
          refine pw_aload_n dX10_argument_157 rfl ?_
          refine pw_dup dX10_argument_158 rfl ?_
          refine pw_getI fX10_213 dX10_argument_159 (sh_lt hG (by decide)) (sh_tg hG 45 rfl) rfl ?_
          refine pw_iconst (v := nI 1) dX10_argument_162 (by decide) ?_
          refine pw_isub dX10_argument_163 ?_
          refine pw_ti (z := nI T) (by rw [(hs4.at' (b := b + 1) (by omega) (by omega)).2.2.2.2.2.1.1]; exact nI_pred T) ?_
          refine pw_putI fX10_213 dX10_argument_164 (Or.inl rfl) (by decide) (sh_lt hG (by decide)) (sh_tg hG 45 rfl) rfl ?_
          refine pw_vret dX10_argument_167 rfl ?_
          refine pw_vret dX10_atom_75 rfl ?_
          refine pw_goto (tgt := 10) dX10_readExpr_201 (by decide) ?_
          refine pw_sub [1] rfl ?_
          have hsE := (hs4.at' (b := b + 1) (by omega) (by omega)).tp' (b := T) (by omega)
          have hE := (((fq.put (T := T) (K := 64 * kp + m2) (I := pm_u (pm_u I2 66 (64 * kp + m0) (nI N2)) 69 (64 * kp + m0) (nI 3)) (J := J2) (k := 42) (x := nI op) (by decide) (by decide)).trans (fq.put (T := T) (K := 64 * kp + m2) (k := 44) (x := nI (64 * kp + m0)) (by decide) (by decide)) (Nat.le_refl _) (Nat.le_refl _)).trans (fq.put (T := T) (K := 64 * kp + m2) (k := 40) (x := nI (b + 1)) (by decide) (by decide)) (Nat.le_refl _) (Nat.le_refl _)).trans (fq.put (T := T) (K := 64 * kp + m2) (k := 45) (x := nI T) (by decide) (by decide)) (Nat.le_refl _) (Nat.le_refl _)
          exact k1 (b + 1) _ (64 * kp + m0) m2 _ _ (by rw [← Option.some.inj hr]; simp only [List.append_assoc]) hsE (by rw [pm_u_eq, pm_up_ne (by decide), pm_u_eq, pm_up_ne (by decide), pm_u_eq, pm_up_eq]) ((nT.m3 (s := m0) (f := m2 - m0 - 1) (F := m2 - m0) (m := m2) (g := 3) (M1 := M1) (M2 := M2) (M3 := L) (by omega) ⟨by omega, by omega⟩ h67n h63n h68n h69n (by omega) (Or.inr ⟨by omega, c1, hc1n, hM1n.up (s' := m0) (m' := m2) (f' := m2 - m0 - 1) (fq.refl (T := 0)) (Nat.le_refl _) (Nat.le_refl _)⟩) (Or.inr ⟨by omega, c2, hc2n, hM2n.up (s' := m0) (m' := m2) (f' := m2 - m0 - 1) (fq.refl (T := 0)) (Nat.le_refl _) (Nat.le_refl _)⟩) (Or.inr ⟨by omega, N2, hcn, hn3.up (s' := m0) (m' := m2) (f' := m2 - m0 - 1) (fq.refl (T := 0)) (Nat.le_refl _) (Nat.le_refl _)⟩)).up hE (Nat.le_refl _) (Nat.le_refl _)) ⟨by omega, by omega⟩ (hG3.trans (hE.le (T := T) (K := 64 * kp + m0) (Nat.le_refl _) (by omega)) (Nat.le_refl _) (Nat.le_refl _))
        · rw [if_neg (fun q => hz0 ((rq41 hb).mpr q))] at hr
          refine pw_pop dX10_argument_156 rfl ?_
          refine pw_aload_n dX10_argument_157 rfl ?_
          refine pw_dup dX10_argument_158 rfl ?_
          refine pw_getI fX10_213 dX10_argument_159 (sh_lt hG (by decide)) (sh_tg hG 45 rfl) rfl ?_
          refine pw_iconst (v := nI 1) dX10_argument_162 (by decide) ?_
          refine pw_isub dX10_argument_163 ?_
          refine pw_putI fX10_213 dX10_argument_164 (Or.inl rfl) (by decide) (sh_lt hG (by decide)) (sh_tg hG 45 rfl) rfl ?_
          refine pw_vret dX10_argument_167 rfl ?_
          refine pw_vret dX10_atom_75 rfl ?_
          refine pw_goto (tgt := 10) dX10_readExpr_201 (by decide) ?_
          refine pw_sub [1] rfl ?_
          exact k0 b _ _ (Option.some.inj hr).symm (by rw [pm_u_eq, pm_up_ne (by decide), pm_u_eq, pm_up_eq]) (((hG4.trans (fq.put (T := T) (K := 64 * kp + m0) (by decide) (by decide)) (Nat.le_refl _) (Nat.le_refl _)).trans (fq.put (T := T) (K := 64 * kp + m0) (by decide) (by decide)) (Nat.le_refl _) (Nat.le_refl _)).le (Nat.zero_le _) (by omega))
theorem rq_all {l : Launch} {E : pmE} {S : pmS} {P : pmP} {d : Nat} {Q : Option Value → pmS → pmI → pmJ → pmP → Prop} {tx : Nat → Nat} {n i kp : Nat} {pa : List Int64} (hG : sh_St S) (hP : gr_St P) (hb : ∀ j, j < n → tx j < 128) (hd : 6 ≤ d) : ∀ f : Nat, (∀ x, x ≤ 5 → qX l E S P d Q tx n i kp pa f x) ∧ (∀ lv, lv ≤ 2 → qO l E S P d Q tx n i kp pa f lv) ∧ qD l E S P d Q tx n i kp pa f ∧ qC l E S P d Q tx n i kp pa f := by
  intro f
  induction f with
  | zero =>
    refine ⟨fun x _ => ?_, fun lv _ => ?_, ?_, ?_⟩
    · intro a op T m I J r _ _ _ _ _ hr; cases hr
    · intro Q1 d1 a op T m a0 m0 k N acc I J r _ _ _ _ _ _ _ _ _ _ hr; cases hr
    · intro a op T m a0 m0 k N acc I J r _ _ _ _ _ _ _ _ hr; cases hr
    · intro g a op T m a0 m0 nm M1 M2 I J r _ _ _ _ _ _ _ _ _ _ _ hr; cases hr
  | succ f ih =>
    obtain ⟨hX, hO, hD, hC⟩ := ih
    refine ⟨fun x hx => ?_, fun lv hlv => ?_, t_qD hG hP hb hd hD, t_qC hG hP hb hd (hX 0 (by omega)) hC⟩
    · rcases (show x = 0 ∨ x = 1 ∨ x = 2 ∨ x = 3 ∨ x = 4 ∨ x = 5 by omega) with rfl | rfl | rfl | rfl | rfl | rfl
      · exact t_qX0 hG hP hb hd (hX 1 (by omega)) (hX 0 (by omega))
      · exact t_qX1 hG hP hb hd (hX 2 (by omega)) (hO 0 (by omega))
      · exact t_qX2 hG hP hb hd (hX 3 (by omega)) (hO 1 (by omega))
      · exact t_qX3 hG hP hb hd (hX 4 (by omega)) (hO 2 (by omega))
      · exact t_qX4 hG hP hb hd (hX 4 (by omega)) (hX 5 (by omega)) hD
      · exact t_qX5 hG hP hb hd (hX 0 (by omega)) hC
    · rcases (show lv = 0 ∨ lv = 1 ∨ lv = 2 by omega) with rfl | rfl | rfl
      · exact t_qO0 hG hP hb hd (hX 2 (by omega)) (hO 0 (by omega))
      · exact t_qO1 hG hP hb hd (hX 3 (by omega)) (hO 1 (by omega))
      · exact t_qO2 hG hP hb hd (hX 4 (by omega)) (hO 2 (by omega))
