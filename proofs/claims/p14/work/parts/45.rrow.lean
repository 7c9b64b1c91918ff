theorem lvl_e0 {k : Nat} (h : lvl k = 0) : k = 60 ∨ k = 61 := by
  unfold lvl at h
  split at h
  · assumption
  · split at h
    · exact absurd h (by decide)
    · split at h
      · exact absurd h (by decide)
      · exact absurd h (by decide)
theorem lvl_e1 {k : Nat} (h : lvl k = 1) : k = 43 ∨ k = 45 := by
  unfold lvl at h
  split at h
  · exact absurd h (by decide)
  · split at h
    · assumption
    · split at h
      · exact absurd h (by decide)
      · exact absurd h (by decide)
theorem lvl_e2 {k : Nat} (h : lvl k = 2) : k = 42 ∨ k = 47 ∨ k = 37 := by
  unfold lvl at h
  split at h
  · exact absurd h (by decide)
  · split at h
    · exact absurd h (by decide)
    · split at h
      · assumption
      · exact absurd h (by decide)
theorem rk_op {k : Nat} (h : lvl k ≤ 2) : rk k = k := by
  unfold lvl at h
  split at h
  · rename_i e; rcases e with rfl | rfl <;> rfl
  · split at h
    · rename_i e; rcases e with rfl | rfl <;> rfl
    · split at h
      · rename_i e; rcases e with rfl | rfl | rfl <;> rfl
      · exact absurd h (by decide)
theorem pm_uu {α : Type} {I : Nat → Nat → α} {a k : Nat} {x z : α} : pm_u (pm_u I a k x) a k z = pm_u I a k z := by
  funext b j
  by_cases hb : b = a
  · subst hb
    rw [pm_u_eq, pm_u_eq, pm_u_eq]
    by_cases hj : j = k
    · subst hj; rw [pm_up_eq, pm_up_eq]
    · rw [pm_up_ne hj, pm_up_ne hj, pm_up_ne hj]
  · rw [pm_u_ne hb, pm_u_ne hb, pm_u_ne hb]
set_option maxRecDepth 20000 in
set_option maxHeartbeats 4000000 in
theorem h_row0 {l : Launch} {E : pmE} {S : pmS} {P : pmP} {d : Nat} {Q : Option Value → pmS → pmI → pmJ → pmP → Prop} {tx : Nat → Nat} {n i kp : Nat} (hG : sh_St S) (hP : gr_St P) (hb : ∀ j, j < n → tx j < 128) (hd : 6 ≤ d) {a op T m : Nat} {I : pmI} {J : pmJ} (hs : qs tx n i kp I J a op (T + 1) m) (hk : I 80 T = nI 1) (hT : T ≤ 200) (key : ∀ (z : Int32) (Q1 : Option Value → pmS → pmI → pmJ → pmP → Prop) (d1 : Nat), 3 ≤ d1 → (lvl (tk_k tx n a) = 0 → z = nI 1) → (¬ lvl (tk_k tx n a) = 0 → z = nI 0) → (∀ I' J', LH l E S P d Q I' J' → Q1 none S I' J' P) → pm_Met l E yX10_row cX10_row 5 none d1 0 0 [.ref 47, .int (nI T), .int (nI 2), .int z, .int (nI 1)] S I J P Q1) : LH l E S P d Q I J := by
  have hkc := (rk_c (tk_k_c (tx := tx) (n := n) (i := a) hb).1)
  unfold LH
  refine pw_aload_n dX10_readExpr_10 rfl ?_
  refine pw_getI fX10_213 dX10_readExpr_11 (sh_lt hG (by decide)) (sh_tg hG 45 rfl) rfl ?_
  refine pw_ifN_le _ (tgt := 204) dX10_readExpr_14 (by decide) (hs.2.2.2.2.2.1.1) (by omega) (fun h14 => absurd h14 (by omega)) (fun h14 => ?_)
  refine pw_aload_n dX10_readExpr_17 rfl ?_
  refine pw_getI fX10_197 dX10_readExpr_18 (sh_lt hG (by decide)) (sh_tg hG 45 rfl) rfl ?_
  refine pw_if_ge (tgt := 204) dX10_readExpr_21 (by decide) (fun h => absurd h (by rw [hs.2.2.2.1]; decide)) (fun h21 => ?_)
  refine pw_aload_n dX10_readExpr_24 rfl ?_
  refine pw_getI fX10_213 dX10_readExpr_25 (sh_lt hG (by decide)) (sh_tg hG 45 rfl) rfl ?_
  refine pw_iconst (v := nI 1) dX10_readExpr_28 (by decide) ?_
  refine pw_isub dX10_readExpr_29 ?_
  refine pw_ti (z := nI T) (by rw [hs.2.2.2.2.2.1.1]; exact nI_pred T) ?_
  refine pw_istore_n (lv' := [(1, _), (0, _)]) dX10_readExpr_30 (by decide) rfl ?_
  refine pw_aload_n dX10_readExpr_31 rfl ?_
  refine pw_getR fX10_108 dX10_readExpr_32 (sh_lt hG (by decide)) (sh_tg hG 45 rfl) rfl (gr_at hP 72 rfl) ?_
  refine pw_iload_n dX10_readExpr_35 rfl ?_
  refine pw_ialdN T dX10_readExpr_36 (sh_lt hG (by decide)) (sh_sh hG 78 rfl) (by decide) (rfl) (by omega) ?_
  refine pw_ti (z := nI 1) hk ?_
  refine pw_tableIn (off := 43) (tgt := 80) dX10_readExpr_37 (by decide) (by decide) (by decide) (by decide) ?_
  refine pw_aload_n dX10_readExpr_80 rfl ?_
  refine pw_iload_n dX10_readExpr_81 rfl ?_
  refine pw_iconst (v := nI 2) dX10_readExpr_82 (by decide) ?_
  refine pw_aload_n dX10_readExpr_83 rfl ?_
  refine pw_callV (as := []) (kc' := 0) (ks' := 0) lX10_200 dX10_readExpr_84 rfl rfl (sh_lt hG (by decide)) (sh_tg hG 45 rfl) (Nat.le_of_ble_eq_true rfl) (by omega) (Nat.le_of_ble_eq_true rfl) (Nat.zero_le _) (Nat.zero_le _) ?_
  refine c_X10_tok hG hP hs ?_
  refine pw_bipush (v := nI 60) dX10_readExpr_87 (by decide) ?_
  refine pw_icmpN_eq _ _ (tgt := 101) dX10_readExpr_89 (by decide) (rfl) (rfl) (by omega) (by omega) (fun h89 => ?_) (fun h89 => ?_)
  · refine pw_iconst (v := nI 1) dX10_readExpr_101 (by decide) ?_
    refine pw_goto (tgt := 106) dX10_readExpr_102 (by decide) ?_
    refine pw_iconst (v := nI 1) dX10_readExpr_106 (by decide) ?_
    refine pw_callV (as := [_, _, _, _]) (kc' := 0) (ks' := 0) lX10_253 dX10_readExpr_107 rfl rfl (sh_lt hG (by decide)) (sh_tg hG 45 rfl) (Nat.le_of_ble_eq_true rfl) (by omega) (Nat.le_of_ble_eq_true rfl) (Nat.zero_le _) (Nat.zero_le _) ?_
    refine key _ _ _ (by omega) (fun _ => rfl) (fun q => absurd (by first | (rw [(rq60 hb).mp h89]; decide) | (rw [(rq61 hb).mp h98]; decide)) q) (fun I9 J9 h9 => ?_)
    refine pw_goto (tgt := 201) dX10_readExpr_110 (by decide) ?_
    refine pw_goto (tgt := 10) dX10_readExpr_201 (by decide) ?_
    refine pw_sub [1] rfl ?_
    exact h9
  · refine pw_aload_n dX10_readExpr_92 rfl ?_
    refine pw_callV (as := []) (kc' := 0) (ks' := 0) lX10_200 dX10_readExpr_93 rfl rfl (sh_lt hG (by decide)) (sh_tg hG 45 rfl) (Nat.le_of_ble_eq_true rfl) (by omega) (Nat.le_of_ble_eq_true rfl) (Nat.zero_le _) (Nat.zero_le _) ?_
    refine c_X10_tok hG hP hs ?_
    refine pw_bipush (v := nI 61) dX10_readExpr_96 (by decide) ?_
    refine pw_icmpN_ne _ _ (tgt := 105) dX10_readExpr_98 (by decide) (rfl) (rfl) (by omega) (by omega) (fun h98 => ?_) (fun h98 => ?_)
    · refine pw_iconst (v := nI 0) dX10_readExpr_105 (by decide) ?_
      refine pw_iconst (v := nI 1) dX10_readExpr_106 (by decide) ?_
      refine pw_callV (as := [_, _, _, _]) (kc' := 0) (ks' := 0) lX10_253 dX10_readExpr_107 rfl rfl (sh_lt hG (by decide)) (sh_tg hG 45 rfl) (Nat.le_of_ble_eq_true rfl) (by omega) (Nat.le_of_ble_eq_true rfl) (Nat.zero_le _) (Nat.zero_le _) ?_
      refine key _ _ _ (by omega) (fun q => absurd q (fun q => by rcases lvl_e0 q with e | e <;> first | exact absurd ((rq60 hb).mpr e) h89 | exact absurd ((rq61 hb).mpr e) h98)) (fun _ => rfl) (fun I9 J9 h9 => ?_)
      refine pw_goto (tgt := 201) dX10_readExpr_110 (by decide) ?_
      refine pw_goto (tgt := 10) dX10_readExpr_201 (by decide) ?_
      refine pw_sub [1] rfl ?_
      exact h9
    · refine pw_iconst (v := nI 1) dX10_readExpr_101 (by decide) ?_
      refine pw_goto (tgt := 106) dX10_readExpr_102 (by decide) ?_
      refine pw_iconst (v := nI 1) dX10_readExpr_106 (by decide) ?_
      refine pw_callV (as := [_, _, _, _]) (kc' := 0) (ks' := 0) lX10_253 dX10_readExpr_107 rfl rfl (sh_lt hG (by decide)) (sh_tg hG 45 rfl) (Nat.le_of_ble_eq_true rfl) (by omega) (Nat.le_of_ble_eq_true rfl) (Nat.zero_le _) (Nat.zero_le _) ?_
      refine key _ _ _ (by omega) (fun _ => rfl) (fun q => absurd (by first | (rw [(rq60 hb).mp h89]; decide) | (rw [(rq61 hb).mp h98]; decide)) q) (fun I9 J9 h9 => ?_)
      refine pw_goto (tgt := 201) dX10_readExpr_110 (by decide) ?_
      refine pw_goto (tgt := 10) dX10_readExpr_201 (by decide) ?_
      refine pw_sub [1] rfl ?_
      exact h9
set_option maxRecDepth 20000 in
set_option maxHeartbeats 4000000 in
theorem t_qX1 {l : Launch} {E : pmE} {S : pmS} {P : pmP} {d : Nat} {Q : Option Value → pmS → pmI → pmJ → pmP → Prop} {tx : Nat → Nat} {n i kp : Nat} {pa : List Int64} {f : Nat} (hG : sh_St S) (hP : gr_St P) (hb : ∀ j, j < n → tx j < 128) (hd : 6 ≤ d) (h1 : qX l E S P d Q tx n i kp pa f 2) (hO : qO l E S P d Q tx n i kp pa f 0) : qX l E S P d Q tx n i kp pa (f + 1) 1 := by
  intro a op T m I J r hs hk he ho hT hr k1 k0
  rw [ps_l _ _ _ _ _ _ (by omega) (by omega)] at hr
  have hkp := hs.2.1.2
  have hi6 := hs.1.2.1
  refine h_row0 hG hP hb hd hs hk (by omega) (fun z Q1 d1 hd1 hz1 hz0 hQ1 => ?_)
  unfold pm_Met
  refine pm_lvs (lv' := [(0, _), (1, _), (2, _), (3, _), (4, _)]) rfl ?_
  refine pw_aload_n dX10_row_0 rfl ?_
  refine pw_getR fX10_111 dX10_row_1 (sh_lt hG (by decide)) (sh_tg hG 45 rfl) rfl (gr_at hP 73 rfl) ?_
  refine pw_iload_n dX10_row_4 rfl ?_
  refine pw_ialdN T dX10_row_5 (sh_lt hG (by decide)) (sh_sh hG 79 rfl) (by decide) (rfl) (by omega) ?_
  refine pw_ti (z := nI 0) he ?_
  refine pw_if_ne (tgt := 16) dX10_row_6 (by decide) (fun h => absurd (by decide) h) (fun h6 => ?_)
  refine pw_aload_n dX10_row_9 rfl ?_
  refine pw_iconst (v := nI 1) dX10_row_10 (by decide) ?_
  refine pw_iload_n dX10_row_11 rfl ?_
  refine pw_callV (as := [_, _]) (kc' := 0) (ks' := 0) lX10_226 dX10_row_12 rfl rfl (sh_lt hG (by decide)) (sh_tg hG 45 rfl) (Nat.le_of_ble_eq_true rfl) (by omega) (Nat.le_of_ble_eq_true rfl) (Nat.zero_le _) (Nat.zero_le _) ?_
  refine c_X10_then hG hP (by omega) hs (by omega) (s := 1) (k := 2) (fun I1 hA => ?_)
  refine pw_vret dX10_row_15 rfl (hQ1 _ _ ?_)
  rcases pb_so hr with ⟨e, hq, her⟩ | ⟨b, L, hq, hr⟩
  · exact h1 a op (T + 1) m I1 J _ hA.1 hA.2.1.1 hA.2.1.2 ho (by omega) hq (fun b L N m' I' J' hh => nomatch hh) (fun e' I' J' hh hF hf => by cases hh; exact (k0.mv hA.2.2.2.2.2 (by omega)) e I' J' her hF hf)
  · refine h1 a op (T + 1) m I1 J _ hA.1 hA.2.1.1 hA.2.1.2 ho (by omega) hq (fun b' L' N1 m1 I2 J2 hh hs2 hre2 hnd2 hm2 hf2 => ?_) (fun e' I' J' hh => nomatch hh)
    cases hh
    have hes2 : I2 81 T = nI 1 := by rw [hf2.2.2.1 81 T (by decide) (by decide) (by omega)]; exact hA.2.2.1.1
    have hk2 : I2 80 T = nI 1 := by rw [hf2.2.2.1 80 T (by decide) (by decide) (by omega), hA.2.2.1.2]; exact hk
    have hfA := hA.2.2.2.2.2.trans hf2 (by omega) (by omega)
    refine h_row0 hG hP hb hd hs2 hk2 (by omega) (fun z Q1 d1 hd1 hz1 hz0 hQ1 => ?_)
    obtain rfl : z = nI (if lvl (tk_k tx n b) = 0 then 1 else 0) := by
      split
      · exact hz1 (by assumption)
      · exact hz0 (by assumption)
    unfold pm_Met
    refine pm_lvs (lv' := [(0, _), (1, _), (2, _), (3, _), (4, _)]) rfl ?_
    refine pw_aload_n dX10_row_0 rfl ?_
    refine pw_getR fX10_111 dX10_row_1 (sh_lt hG (by decide)) (sh_tg hG 45 rfl) rfl (gr_at hP 73 rfl) ?_
    refine pw_iload_n dX10_row_4 rfl ?_
    refine pw_ialdN T dX10_row_5 (sh_lt hG (by decide)) (sh_sh hG 79 rfl) (by decide) (rfl) (by omega) ?_
    refine pw_ti (z := nI 1) hes2 ?_
    refine pw_if_ne (tgt := 16) dX10_row_6 (by decide) (fun h6 => ?_) (fun h => absurd h (by decide))
    refine pw_aload_n dX10_row_16 rfl ?_
    refine pw_getR fX10_111 dX10_row_17 (sh_lt hG (by decide)) (sh_tg hG 45 rfl) rfl (gr_at hP 73 rfl) ?_
    refine pw_iload_n dX10_row_20 rfl ?_
    refine pw_ialdN T dX10_row_21 (sh_lt hG (by decide)) (sh_sh hG 79 rfl) (by decide) (rfl) (by omega) ?_
    refine pw_ti (z := nI 1) hes2 ?_
    refine pw_iconst (v := nI 2) dX10_row_22 (by decide) ?_
    refine pw_icmp_ne (tgt := 75) dX10_row_23 (by decide) (fun h23 => ?_) (fun h => absurd h (by decide))
    exact hO Q1 d1 b op T m1 a m 0 N1 L I2 J2 r hQ1 hs2 hk2 hes2 hre2 hnd2 hm2 ho (by omega) hd1 hr (k1.mv hfA (by omega) rfl) (k0.mv hfA (by omega))
set_option maxRecDepth 20000 in
set_option maxHeartbeats 4000000 in
theorem t_qO0 {l : Launch} {E : pmE} {S : pmS} {P : pmP} {d : Nat} {Q : Option Value → pmS → pmI → pmJ → pmP → Prop} {tx : Nat → Nat} {n i kp : Nat} {pa : List Int64} {f : Nat} (hG : sh_St S) (hP : gr_St P) (hb : ∀ j, j < n → tx j < 128) (hd : 6 ≤ d) (h1 : qX l E S P d Q tx n i kp pa f 2) (hO : qO l E S P d Q tx n i kp pa f 0) : qO l E S P d Q tx n i kp pa (f + 1) 0 := by
  intro Q1 d1 a op T m a0 m0 k N acc I J r hQ1 hs hk he hre hnd hm ho hT hd1 hr k1 k0
  rw [ps_o _ _ _ _ _ _ (by omega) (by omega)] at hr
  have hkp := hs.2.1.2
  have hi6 := hs.1.2.1
  have hai := hs.2.2.1.2
  have hma := hs.2.2.2.2.2.2.1.2
  by_cases hc : lvl (tk_k tx n a) = 0
  · by_cases hk0 : k = 0
    · rw [if_pos ⟨hc, fun _ => by omega⟩] at hr
      have hc01 := lvl_c (m := 11) hc (by omega) (by omega)
      have hal := hs.lt hc01.1 hc01.2
      have hs3 := ((hs.fr' (b := 82) (j := T) (by decide) (by decide) (nI N)).fr' (b := 83) (j := T) (by decide) (by decide) (nI a)).at' (b := a + 1) (by omega) (by omega)
      have hg3 : fq T (64 * kp + m) I (pm_u (pm_u (pm_u I 82 T (nI N)) 83 T (nI a)) 47 40 (nI (a + 1))) J J := ((fq.frm (T := T) (K := 64 * kp + m) (by decide) (by decide) (Nat.le_refl _)).trans (fq.frm (T := T) (K := 64 * kp + m) (by decide) (by decide) (Nat.le_refl _)) (Nat.le_refl _) (Nat.le_refl _)).trans (fq.put (T := T) (K := 64 * kp + m) (by decide) (by decide)) (Nat.le_refl _) (Nat.le_refl _)
      refine pw_iload_n dX10_row_75 rfl ?_
      refine pw_ti (z := nI 1) (by rw [if_pos hc]) ?_
      refine pw_if_eq (tgt := 127) dX10_row_76 (by decide) (fun h => absurd h (by decide)) (fun h76 => ?_)
      refine pw_iload dX10_row_79 rfl ?_
      refine pw_ti (z := nI 1) rfl ?_
      refine pw_if_eq (tgt := 94) dX10_row_81 (by decide) (fun h => absurd h (by decide)) (fun h81 => ?_)
      refine pw_aload_n dX10_row_84 rfl ?_
      refine pw_getR fX10_111 dX10_row_85 (sh_lt hG (by decide)) (sh_tg hG 45 rfl) rfl (gr_at hP 73 rfl) ?_
      refine pw_iload_n dX10_row_88 rfl ?_
      refine pw_ialdN T dX10_row_89 (sh_lt hG (by decide)) (sh_sh hG 79 rfl) (by decide) (rfl) (by omega) ?_
      refine pw_ti (z := nI 1) (by rw [he, if_pos hk0]) ?_
      refine pw_iconst (v := nI 2) dX10_row_90 (by decide) ?_
      refine pw_icmp_eq (tgt := 127) dX10_row_91 (by decide) (fun h => absurd h (by decide)) (fun h91 => ?_)
      refine pw_aload_n dX10_row_94 rfl ?_
      refine pw_getR fX10_114 dX10_row_95 (sh_lt hG (by decide)) (sh_tg hG 45 rfl) rfl (gr_at hP 74 rfl) ?_
      refine pw_iload_n dX10_row_98 rfl ?_
      refine pw_aload_n dX10_row_99 rfl ?_
      refine pw_getI fX10_230 dX10_row_100 (sh_lt hG (by decide)) (sh_tg hG 45 rfl) rfl ?_
      refine pw_ti (z := nI N) hre ?_
      refine pw_iastN T dX10_row_103 (by decide) (sh_lt hG (by decide)) (sh_sh hG 80 rfl) (by decide) (rfl) (by omega) ?_
      refine pw_aload_n dX10_row_104 rfl ?_
      refine pw_getR fX10_117 dX10_row_105 (sh_lt hG (by decide)) (sh_tg hG 45 rfl) rfl (gr_at hP 75 rfl) ?_
      refine pw_iload_n dX10_row_108 rfl ?_
      refine pw_aload_n dX10_row_109 rfl ?_
      refine pw_getI fX10_194 dX10_row_110 (sh_lt hG (by decide)) (sh_tg hG 45 rfl) rfl ?_
      refine pw_ti (z := nI a) (by rw [pm_u_ne (by decide)]; exact hs.2.2.1.1) ?_
      refine pw_iastN T dX10_row_113 (by decide) (sh_lt hG (by decide)) (sh_sh hG 81 rfl) (by decide) (rfl) (by omega) ?_
      refine pw_aload_n dX10_row_114 rfl ?_
      refine pw_callV (as := []) (kc' := 0) (ks' := 0) lX10_207 dX10_row_115 rfl rfl (sh_lt hG (by decide)) (sh_tg hG 45 rfl) (Nat.le_of_ble_eq_true rfl) (by omega) (Nat.le_of_ble_eq_true rfl) (Nat.zero_le _) (Nat.zero_le _) ?_
      refine c_X10_next (a := a) hG hP (by rw [pm_u_ne (by decide), pm_u_ne (by decide)]; exact hs.2.2.1.1) ?_
      refine pw_aload_n dX10_row_118 rfl ?_
      refine pw_iconst (v := nI 2) dX10_row_119 (by decide) ?_
      refine pw_iload_n dX10_row_120 rfl ?_
      refine pw_callV (as := [_, _]) (kc' := 0) (ks' := 0) lX10_226 dX10_row_121 rfl rfl (sh_lt hG (by decide)) (sh_tg hG 45 rfl) (Nat.le_of_ble_eq_true rfl) (by omega) (Nat.le_of_ble_eq_true rfl) (Nat.zero_le _) (Nat.zero_le _) ?_
      refine c_X10_then hG hP (by omega) hs3 (by omega) (s := 2) (k := 2) (fun I4 hA => ?_)
      refine pw_goto (tgt := 137) dX10_row_124 (by decide) ?_
      refine pw_vret dX10_row_137 rfl (hQ1 _ _ ?_)
      have hg4 := hg3.trans hA.2.2.2.2.2 (Nat.le_refl _) (Nat.le_refl _)
      rcases pb_so hr with ⟨e, hq, her⟩ | ⟨b, L, hq, hr⟩
      · exact h1 (a + 1) op (T + 1) m I4 J _ hA.1 hA.2.1.1 hA.2.1.2 ho (by omega) hq (fun b L N m' I' J' hh => nomatch hh) (fun e' I' J' hh hF hf => by cases hh; exact (k0.mv hg4 (by omega)) e I' J' her hF hf)
      · refine h1 (a + 1) op (T + 1) m I4 J _ hA.1 hA.2.1.1 hA.2.1.2 ho (by omega) hq (fun b' L' N2 m2 I5 J5 hh hs5 hre5 hnd5 hm5 hf5 => ?_) (fun e' I' J' hh => nomatch hh)
        cases hh
        have hes5 : I5 81 T = nI 2 := by rw [hf5.2.2.1 81 T (by decide) (by decide) (by omega)]; exact hA.2.2.1.1
        have hk5 : I5 80 T = nI 1 := by rw [hf5.2.2.1 80 T (by decide) (by decide) (by omega), hA.2.2.1.2, pm_u_ne (by decide), pm_u_ne (by decide), pm_u_ne (by decide)]; exact hk
        have ha5 : I5 82 T = nI N := by rw [hf5.2.2.1 82 T (by decide) (by decide) (by omega), hA.2.2.2.1 82 (by decide) (by decide), pm_u_ne (by decide), pm_u_ne (by decide), pm_u_eq, pm_up_eq]
        have hb5 : I5 83 T = nI a := by rw [hf5.2.2.1 83 T (by decide) (by decide) (by omega), hA.2.2.2.1 83 (by decide) (by decide), pm_u_ne (by decide), pm_u_eq, pm_up_eq]
        have hg5 := hg4.trans hf5 (by omega) (Nat.le_refl _)
        have hn1 : nT tx n kp pa I5 J5 m0 m2 (m2 - m0) N acc := hnd.up hg5 (by omega) (by omega)
        have hn2 : nT tx n kp pa I5 J5 m0 m2 (m2 - m0) N2 L := hnd5.up (fq.refl (T := 0)) (Nat.le_refl _) (by omega)
        have hmb := hs5.2.2.2.2.2.2.1.2
        have hbi := hs5.2.2.1.2
        refine h_row0 hG hP hb hd hs5 hk5 (by omega) (fun z Q1 d1 hd1 hz1 hz0 hQ1 => ?_)
        obtain rfl : z = nI (if lvl (tk_k tx n b) = 0 then 1 else 0) := by
          split
          · exact hz1 (by assumption)
          · exact hz0 (by assumption)
        unfold pm_Met
        refine pm_lvs (lv' := [(0, _), (1, _), (2, _), (3, _), (4, _)]) rfl ?_
        refine pw_aload_n dX10_row_0 rfl ?_
        refine pw_getR fX10_111 dX10_row_1 (sh_lt hG (by decide)) (sh_tg hG 45 rfl) rfl (gr_at hP 73 rfl) ?_
        refine pw_iload_n dX10_row_4 rfl ?_
        refine pw_ialdN T dX10_row_5 (sh_lt hG (by decide)) (sh_sh hG 79 rfl) (by decide) (rfl) (by omega) ?_
        refine pw_ti (z := nI 2) hes5 ?_
        refine pw_if_ne (tgt := 16) dX10_row_6 (by decide) (fun h6 => ?_) (fun h => absurd h (by decide))
        refine pw_aload_n dX10_row_16 rfl ?_
        refine pw_getR fX10_111 dX10_row_17 (sh_lt hG (by decide)) (sh_tg hG 45 rfl) rfl (gr_at hP 73 rfl) ?_
        refine pw_iload_n dX10_row_20 rfl ?_
        refine pw_ialdN T dX10_row_21 (sh_lt hG (by decide)) (sh_sh hG 79 rfl) (by decide) (rfl) (by omega) ?_
        refine pw_ti (z := nI 2) hes5 ?_
        refine pw_iconst (v := nI 2) dX10_row_22 (by decide) ?_
        refine pw_icmp_ne (tgt := 75) dX10_row_23 (by decide) (fun h => absurd (by decide) h) (fun h23 => ?_)
        refine pw_aload_n dX10_row_26 rfl ?_
        refine pw_aload_n dX10_row_27 rfl ?_
        refine pw_bipush (v := nI 6) dX10_row_28 (by decide) ?_
        refine pw_aload_n dX10_row_30 rfl ?_
        refine pw_getR fX10_117 dX10_row_31 (sh_lt hG (by decide)) (sh_tg hG 45 rfl) rfl (gr_at hP 75 rfl) ?_
        refine pw_iload_n dX10_row_34 rfl ?_
        refine pw_ialdN T dX10_row_35 (sh_lt hG (by decide)) (sh_sh hG 81 rfl) (by decide) (rfl) (by omega) ?_
        refine pw_ti (z := nI a) hb5 ?_
        refine pw_aload_n dX10_row_36 rfl ?_
        refine pw_getR fX10_114 dX10_row_37 (sh_lt hG (by decide)) (sh_tg hG 45 rfl) rfl (gr_at hP 74 rfl) ?_
        refine pw_iload_n dX10_row_40 rfl ?_
        refine pw_ialdN T dX10_row_41 (sh_lt hG (by decide)) (sh_sh hG 80 rfl) (by decide) (rfl) (by omega) ?_
        refine pw_ti (z := nI N) ha5 ?_
        refine pw_aload_n dX10_row_42 rfl ?_
        refine pw_getI fX10_230 dX10_row_43 (sh_lt hG (by decide)) (sh_tg hG 45 rfl) rfl ?_
        refine pw_ti (z := nI N2) hre5 ?_
        refine pw_bipush (v := -5) dX10_row_46 (by decide) ?_
        refine pw_callV (as := [_, _, _, _, _]) (kc' := 0) (ks' := 0) lX10_240 dX10_row_48 rfl rfl (sh_lt hG (by decide)) (sh_tg hG 45 rfl) (Nat.le_of_ble_eq_true rfl) (by omega) (Nat.le_of_ble_eq_true rfl) (Nat.zero_le _) (Nat.zero_le _) ?_
        refine c_X10_node hG hP hs5 (t := a) (by omega) (by omega) ?_
        have hsN := hs5.node (x := nI 6) (t := nI a) (p := nI (tk_p tx n a)) (v := (nI (tk_k tx n a)).toInt64) (by omega) hn1.ch hn2.ch (c := -5) (Or.inl rfl)
        have hfN := ndI_fq (T := T) (K := 64 * kp + m2) (I := I5) (J := J5) (m := m2) (x := nI 6) (t := nI a) (p := nI (tk_p tx n a)) (l := nI N) (r := nI N2) (c := -5) (v := (nI (tk_k tx n a)).toInt64) (Nat.le_refl _)
        have hat := ndI_at (k := 64 * kp + m2) (m := m2) (I := I5) (x := nI 6) (t := nI a) (p := nI (tk_p tx n a)) (l := nI N) (r := nI N2) (c := -5)
        refine pw_putI fX10_230 dX10_row_51 (Or.inl rfl) (by decide) (sh_lt hG (by decide)) (sh_tg hG 45 rfl) rfl ?_
        refine pw_aload_n dX10_row_54 rfl ?_
        refine pw_getR fX10_77 dX10_row_55 (sh_lt hG (by decide)) (sh_tg hG 45 rfl) rfl (gr_at hP 62 rfl) ?_
        refine pw_aload_n dX10_row_58 rfl ?_
        refine pw_getI fX10_230 dX10_row_59 (sh_lt hG (by decide)) (sh_tg hG 45 rfl) rfl ?_
        refine pw_ti (z := nI (64 * kp + m2)) (by rw [pm_u_eq, pm_up_eq]) ?_
        refine pw_aload_n dX10_row_62 rfl ?_
        refine pw_getR fX10_99 dX10_row_63 (sh_lt hG (by decide)) (sh_tg hG 45 rfl) rfl (gr_at hP 69 rfl) ?_
        refine pw_aload_n dX10_row_66 rfl ?_
        refine pw_getR fX10_117 dX10_row_67 (sh_lt hG (by decide)) (sh_tg hG 45 rfl) rfl (gr_at hP 75 rfl) ?_
        refine pw_iload_n dX10_row_70 rfl ?_
        refine pw_ialdN T dX10_row_71 (sh_lt hG (by decide)) (sh_sh hG 81 rfl) (by decide) (rfl) (by omega) ?_
        refine pw_ti (z := nI a) (by rw [pm_u_ne (by decide), show ndI I5 (64 * kp + m2) m2 (nI 6) (nI a) (nI (tk_p tx n a)) (nI N) (nI N2) (-5) 83 = I5 83 from by unfold ndI; repeat rw [pm_u_ne (by decide)]]; exact hb5) ?_
        refine pw_ialdN a dX10_row_72 (sh_lt hG (by decide)) (sh_sh hG 75 rfl) (by decide) (rfl) (by omega) ?_
        refine pw_ti (z := nI (tk_k tx n a)) (by rw [pm_u_ne (by decide), show ndI I5 (64 * kp + m2) m2 (nI 6) (nI a) (nI (tk_p tx n a)) (nI N) (nI N2) (-5) 77 = I5 77 from by unfold ndI; repeat rw [pm_u_ne (by decide)], (hs5.1.2.2.2.2 a (by omega)).1, rk_op (by omega)]) ?_
        refine pw_i2l dX10_row_73 ?_
        refine pw_lastN (64 * kp + m2) dX10_row_74 (by decide) (sh_lt hG (by decide)) (sh_sh hG 68 rfl) (by decide) (rfl) (by omega) ?_
        rw [show (pm_u (pm_u J5 70 (64 * kp + m2) (J5 79 a)) 70 (64 * kp + m2) (nI (tk_k tx n a)).toInt64 : pmJ) = pm_u J5 70 (64 * kp + m2) (nI (tk_k tx n a)).toInt64 from pm_uu]
        have hsE := hsN.re' (nI (64 * kp + m2))
        have hfE : fq T (64 * kp + m2 + 1) (ndI I5 (64 * kp + m2) m2 (nI 6) (nI a) (nI (tk_p tx n a)) (nI N) (nI N2) (-5)) (pm_u (ndI I5 (64 * kp + m2) m2 (nI 6) (nI a) (nI (tk_p tx n a)) (nI N) (nI N2) (-5)) 47 44 (nI (64 * kp + m2))) (pm_u J5 70 (64 * kp + m2) (nI (tk_k tx n a)).toInt64) (pm_u J5 70 (64 * kp + m2) (nI (tk_k tx n a)).toInt64) := fq.put (by decide) (by decide)
        have hgE := (hg5.trans hfN (Nat.le_refl _) (by omega)).trans hfE (Nat.le_refl _) (by omega)
        exact hO Q1 d1 b op T (m2 + 1) a0 m0 (k + 1) (64 * kp + m2) _ _ _ r hQ1 hsE (by rw [pm_u_ne (by decide), show ndI I5 (64 * kp + m2) m2 (nI 6) (nI a) (nI (tk_p tx n a)) (nI N) (nI N2) (-5) 80 = I5 80 from by unfold ndI; repeat rw [pm_u_ne (by decide)]]; exact hk5) (by rw [pm_u_ne (by decide), show ndI I5 (64 * kp + m2) m2 (nI 6) (nI a) (nI (tk_p tx n a)) (nI N) (nI N2) (-5) 81 = I5 81 from by unfold ndI; repeat rw [pm_u_ne (by decide)], if_neg (by omega)]; exact hes5) (by rw [pm_u_eq, pm_up_eq]) ((nT.m6 (s := m0) (f := m2 - m0) (F := m2 + 1 - m0) (m := m2 + 1) (by omega) ⟨by omega, by omega⟩ hat.2.2.1 hat.1 (by rw [pm_u_eq, pm_up_eq]) (by omega) hat.2.2.2.1 hat.2.2.2.2.1 (hn1.up hfN (by omega) (Nat.le_refl _)) (hn2.up hfN (by omega) (Nat.le_refl _))).up hfE (Nat.le_refl _) (Nat.le_refl _)) ⟨by omega, by omega⟩ ho hT hd1 hr (k1.mv (hgE.le (Nat.le_refl _) (by omega)) (by omega) rfl) (k0.mv hgE (by omega))
    · rw [if_neg (fun q => absurd (q.2 rfl) (by omega))] at hr
      refine pw_iload_n dX10_row_75 rfl ?_
      refine pw_ti (z := nI 1) (by rw [if_pos hc]) ?_
      refine pw_if_eq (tgt := 127) dX10_row_76 (by decide) (fun h => absurd h (by decide)) (fun h76 => ?_)
      refine pw_iload dX10_row_79 rfl ?_
      refine pw_ti (z := nI 1) rfl ?_
      refine pw_if_eq (tgt := 94) dX10_row_81 (by decide) (fun h => absurd h (by decide)) (fun h81 => ?_)
      refine pw_aload_n dX10_row_84 rfl ?_
      refine pw_getR fX10_111 dX10_row_85 (sh_lt hG (by decide)) (sh_tg hG 45 rfl) rfl (gr_at hP 73 rfl) ?_
      refine pw_iload_n dX10_row_88 rfl ?_
      refine pw_ialdN T dX10_row_89 (sh_lt hG (by decide)) (sh_sh hG 79 rfl) (by decide) (rfl) (by omega) ?_
      refine pw_ti (z := nI 2) (by rw [he, if_neg hk0]) ?_
      refine pw_iconst (v := nI 2) dX10_row_90 (by decide) ?_
      refine pw_icmp_eq (tgt := 127) dX10_row_91 (by decide) (fun h91 => ?_) (fun h => absurd (by decide) h)
      refine pw_aload_n dX10_row_127 rfl ?_
      refine pw_dup dX10_row_128 rfl ?_
      refine pw_getI fX10_213 dX10_row_129 (sh_lt hG (by decide)) (sh_tg hG 45 rfl) rfl ?_
      refine pw_iconst (v := nI 1) dX10_row_132 (by decide) ?_
      refine pw_isub dX10_row_133 ?_
      refine pw_ti (z := nI T) (by rw [hs.2.2.2.2.2.1.1]; exact nI_pred T) ?_
      refine pw_putI fX10_213 dX10_row_134 (Or.inl rfl) (by decide) (sh_lt hG (by decide)) (sh_tg hG 45 rfl) rfl ?_
      refine pw_vret dX10_row_137 rfl (hQ1 _ _ ?_)
      exact k1 a acc N m _ _ (Option.some.inj hr).symm (hs.tp' (by omega)) (by rw [pm_u_eq, pm_up_ne (by decide)]; exact hre) (hnd.up (fq.put (T := T) (by decide) (by decide)) (Nat.le_refl _) (Nat.le_refl _)) hm (fq.put (by decide) (by decide))
  · rw [if_neg (fun q => hc q.1)] at hr
    refine pw_iload_n dX10_row_75 rfl ?_
    refine pw_ti (z := nI 0) (by rw [if_neg hc]) ?_
    refine pw_if_eq (tgt := 127) dX10_row_76 (by decide) (fun h76 => ?_) (fun h => absurd (by decide) h)
    refine pw_aload_n dX10_row_127 rfl ?_
    refine pw_dup dX10_row_128 rfl ?_
    refine pw_getI fX10_213 dX10_row_129 (sh_lt hG (by decide)) (sh_tg hG 45 rfl) rfl ?_
    refine pw_iconst (v := nI 1) dX10_row_132 (by decide) ?_
    refine pw_isub dX10_row_133 ?_
    refine pw_ti (z := nI T) (by rw [hs.2.2.2.2.2.1.1]; exact nI_pred T) ?_
    refine pw_putI fX10_213 dX10_row_134 (Or.inl rfl) (by decide) (sh_lt hG (by decide)) (sh_tg hG 45 rfl) rfl ?_
    refine pw_vret dX10_row_137 rfl (hQ1 _ _ ?_)
    exact k1 a acc N m _ _ (Option.some.inj hr).symm (hs.tp' (by omega)) (by rw [pm_u_eq, pm_up_ne (by decide)]; exact hre) (hnd.up (fq.put (T := T) (by decide) (by decide)) (Nat.le_refl _) (Nat.le_refl _)) hm (fq.put (by decide) (by decide))
set_option maxRecDepth 20000 in
set_option maxHeartbeats 4000000 in
theorem h_row1 {l : Launch} {E : pmE} {S : pmS} {P : pmP} {d : Nat} {Q : Option Value → pmS → pmI → pmJ → pmP → Prop} {tx : Nat → Nat} {n i kp : Nat} (hG : sh_St S) (hP : gr_St P) (hb : ∀ j, j < n → tx j < 128) (hd : 6 ≤ d) {a op T m : Nat} {I : pmI} {J : pmJ} (hs : qs tx n i kp I J a op (T + 1) m) (hk : I 80 T = nI 2) (hT : T ≤ 200) (key : ∀ (z : Int32) (Q1 : Option Value → pmS → pmI → pmJ → pmP → Prop) (d1 : Nat), 3 ≤ d1 → (lvl (tk_k tx n a) = 1 → z = nI 1) → (¬ lvl (tk_k tx n a) = 1 → z = nI 0) → (∀ I' J', LH l E S P d Q I' J' → Q1 none S I' J' P) → pm_Met l E yX10_row cX10_row 5 none d1 0 0 [.ref 47, .int (nI T), .int (nI 3), .int z, .int (nI 0)] S I J P Q1) : LH l E S P d Q I J := by
  have hkc := (rk_c (tk_k_c (tx := tx) (n := n) (i := a) hb).1)
  unfold LH
  refine pw_aload_n dX10_readExpr_10 rfl ?_
  refine pw_getI fX10_213 dX10_readExpr_11 (sh_lt hG (by decide)) (sh_tg hG 45 rfl) rfl ?_
  refine pw_ifN_le _ (tgt := 204) dX10_readExpr_14 (by decide) (hs.2.2.2.2.2.1.1) (by omega) (fun h14 => absurd h14 (by omega)) (fun h14 => ?_)
  refine pw_aload_n dX10_readExpr_17 rfl ?_
  refine pw_getI fX10_197 dX10_readExpr_18 (sh_lt hG (by decide)) (sh_tg hG 45 rfl) rfl ?_
  refine pw_if_ge (tgt := 204) dX10_readExpr_21 (by decide) (fun h => absurd h (by rw [hs.2.2.2.1]; decide)) (fun h21 => ?_)
  refine pw_aload_n dX10_readExpr_24 rfl ?_
  refine pw_getI fX10_213 dX10_readExpr_25 (sh_lt hG (by decide)) (sh_tg hG 45 rfl) rfl ?_
  refine pw_iconst (v := nI 1) dX10_readExpr_28 (by decide) ?_
  refine pw_isub dX10_readExpr_29 ?_
  refine pw_ti (z := nI T) (by rw [hs.2.2.2.2.2.1.1]; exact nI_pred T) ?_
  refine pw_istore_n (lv' := [(1, _), (0, _)]) dX10_readExpr_30 (by decide) rfl ?_
  refine pw_aload_n dX10_readExpr_31 rfl ?_
  refine pw_getR fX10_108 dX10_readExpr_32 (sh_lt hG (by decide)) (sh_tg hG 45 rfl) rfl (gr_at hP 72 rfl) ?_
  refine pw_iload_n dX10_readExpr_35 rfl ?_
  refine pw_ialdN T dX10_readExpr_36 (sh_lt hG (by decide)) (sh_sh hG 78 rfl) (by decide) (rfl) (by omega) ?_
  refine pw_ti (z := nI 2) hk ?_
  refine pw_tableIn (off := 76) (tgt := 113) dX10_readExpr_37 (by decide) (by decide) (by decide) (by decide) ?_
  refine pw_aload_n dX10_readExpr_113 rfl ?_
  refine pw_iload_n dX10_readExpr_114 rfl ?_
  refine pw_iconst (v := nI 3) dX10_readExpr_115 (by decide) ?_
  refine pw_aload_n dX10_readExpr_116 rfl ?_
  refine pw_callV (as := []) (kc' := 0) (ks' := 0) lX10_200 dX10_readExpr_117 rfl rfl (sh_lt hG (by decide)) (sh_tg hG 45 rfl) (Nat.le_of_ble_eq_true rfl) (by omega) (Nat.le_of_ble_eq_true rfl) (Nat.zero_le _) (Nat.zero_le _) ?_
  refine c_X10_tok hG hP hs ?_
  refine pw_bipush (v := nI 43) dX10_readExpr_120 (by decide) ?_
  refine pw_icmpN_eq _ _ (tgt := 134) dX10_readExpr_122 (by decide) (rfl) (rfl) (by omega) (by omega) (fun h122 => ?_) (fun h122 => ?_)
  · refine pw_iconst (v := nI 1) dX10_readExpr_134 (by decide) ?_
    refine pw_goto (tgt := 139) dX10_readExpr_135 (by decide) ?_
    refine pw_iconst (v := nI 0) dX10_readExpr_139 (by decide) ?_
    refine pw_callV (as := [_, _, _, _]) (kc' := 0) (ks' := 0) lX10_253 dX10_readExpr_140 rfl rfl (sh_lt hG (by decide)) (sh_tg hG 45 rfl) (Nat.le_of_ble_eq_true rfl) (by omega) (Nat.le_of_ble_eq_true rfl) (Nat.zero_le _) (Nat.zero_le _) ?_
    refine key _ _ _ (by omega) (fun _ => rfl) (fun q => absurd (by first | (rw [(rq43 hb).mp h122]; decide) | (rw [(rq45 hb).mp h131]; decide)) q) (fun I9 J9 h9 => ?_)
    refine pw_goto (tgt := 201) dX10_readExpr_143 (by decide) ?_
    refine pw_goto (tgt := 10) dX10_readExpr_201 (by decide) ?_
    refine pw_sub [1] rfl ?_
    exact h9
  · refine pw_aload_n dX10_readExpr_125 rfl ?_
    refine pw_callV (as := []) (kc' := 0) (ks' := 0) lX10_200 dX10_readExpr_126 rfl rfl (sh_lt hG (by decide)) (sh_tg hG 45 rfl) (Nat.le_of_ble_eq_true rfl) (by omega) (Nat.le_of_ble_eq_true rfl) (Nat.zero_le _) (Nat.zero_le _) ?_
    refine c_X10_tok hG hP hs ?_
    refine pw_bipush (v := nI 45) dX10_readExpr_129 (by decide) ?_
    refine pw_icmpN_ne _ _ (tgt := 138) dX10_readExpr_131 (by decide) (rfl) (rfl) (by omega) (by omega) (fun h131 => ?_) (fun h131 => ?_)
    · refine pw_iconst (v := nI 0) dX10_readExpr_138 (by decide) ?_
      refine pw_iconst (v := nI 0) dX10_readExpr_139 (by decide) ?_
      refine pw_callV (as := [_, _, _, _]) (kc' := 0) (ks' := 0) lX10_253 dX10_readExpr_140 rfl rfl (sh_lt hG (by decide)) (sh_tg hG 45 rfl) (Nat.le_of_ble_eq_true rfl) (by omega) (Nat.le_of_ble_eq_true rfl) (Nat.zero_le _) (Nat.zero_le _) ?_
      refine key _ _ _ (by omega) (fun q => absurd q (fun q => by rcases lvl_e1 q with e | e <;> first | exact absurd ((rq43 hb).mpr e) h122 | exact absurd ((rq45 hb).mpr e) h131)) (fun _ => rfl) (fun I9 J9 h9 => ?_)
      refine pw_goto (tgt := 201) dX10_readExpr_143 (by decide) ?_
      refine pw_goto (tgt := 10) dX10_readExpr_201 (by decide) ?_
      refine pw_sub [1] rfl ?_
      exact h9
    · refine pw_iconst (v := nI 1) dX10_readExpr_134 (by decide) ?_
      refine pw_goto (tgt := 139) dX10_readExpr_135 (by decide) ?_
      refine pw_iconst (v := nI 0) dX10_readExpr_139 (by decide) ?_
      refine pw_callV (as := [_, _, _, _]) (kc' := 0) (ks' := 0) lX10_253 dX10_readExpr_140 rfl rfl (sh_lt hG (by decide)) (sh_tg hG 45 rfl) (Nat.le_of_ble_eq_true rfl) (by omega) (Nat.le_of_ble_eq_true rfl) (Nat.zero_le _) (Nat.zero_le _) ?_
      refine key _ _ _ (by omega) (fun _ => rfl) (fun q => absurd (by first | (rw [(rq43 hb).mp h122]; decide) | (rw [(rq45 hb).mp h131]; decide)) q) (fun I9 J9 h9 => ?_)
      refine pw_goto (tgt := 201) dX10_readExpr_143 (by decide) ?_
      refine pw_goto (tgt := 10) dX10_readExpr_201 (by decide) ?_
      refine pw_sub [1] rfl ?_
      exact h9
set_option maxRecDepth 20000 in
set_option maxHeartbeats 4000000 in
theorem t_qX2 {l : Launch} {E : pmE} {S : pmS} {P : pmP} {d : Nat} {Q : Option Value → pmS → pmI → pmJ → pmP → Prop} {tx : Nat → Nat} {n i kp : Nat} {pa : List Int64} {f : Nat} (hG : sh_St S) (hP : gr_St P) (hb : ∀ j, j < n → tx j < 128) (hd : 6 ≤ d) (h1 : qX l E S P d Q tx n i kp pa f 3) (hO : qO l E S P d Q tx n i kp pa f 1) : qX l E S P d Q tx n i kp pa (f + 1) 2 := by
  intro a op T m I J r hs hk he ho hT hr k1 k0
  rw [ps_l _ _ _ _ _ _ (by omega) (by omega)] at hr
  have hkp := hs.2.1.2
  have hi6 := hs.1.2.1
  refine h_row1 hG hP hb hd hs hk (by omega) (fun z Q1 d1 hd1 hz1 hz0 hQ1 => ?_)
  unfold pm_Met
  refine pm_lvs (lv' := [(0, _), (1, _), (2, _), (3, _), (4, _)]) rfl ?_
  refine pw_aload_n dX10_row_0 rfl ?_
  refine pw_getR fX10_111 dX10_row_1 (sh_lt hG (by decide)) (sh_tg hG 45 rfl) rfl (gr_at hP 73 rfl) ?_
  refine pw_iload_n dX10_row_4 rfl ?_
  refine pw_ialdN T dX10_row_5 (sh_lt hG (by decide)) (sh_sh hG 79 rfl) (by decide) (rfl) (by omega) ?_
  refine pw_ti (z := nI 0) he ?_
  refine pw_if_ne (tgt := 16) dX10_row_6 (by decide) (fun h => absurd (by decide) h) (fun h6 => ?_)
  refine pw_aload_n dX10_row_9 rfl ?_
  refine pw_iconst (v := nI 1) dX10_row_10 (by decide) ?_
  refine pw_iload_n dX10_row_11 rfl ?_
  refine pw_callV (as := [_, _]) (kc' := 0) (ks' := 0) lX10_226 dX10_row_12 rfl rfl (sh_lt hG (by decide)) (sh_tg hG 45 rfl) (Nat.le_of_ble_eq_true rfl) (by omega) (Nat.le_of_ble_eq_true rfl) (Nat.zero_le _) (Nat.zero_le _) ?_
  refine c_X10_then hG hP (by omega) hs (by omega) (s := 1) (k := 3) (fun I1 hA => ?_)
  refine pw_vret dX10_row_15 rfl (hQ1 _ _ ?_)
  rcases pb_so hr with ⟨e, hq, her⟩ | ⟨b, L, hq, hr⟩
  · exact h1 a op (T + 1) m I1 J _ hA.1 hA.2.1.1 hA.2.1.2 ho (by omega) hq (fun b L N m' I' J' hh => nomatch hh) (fun e' I' J' hh hF hf => by cases hh; exact (k0.mv hA.2.2.2.2.2 (by omega)) e I' J' her hF hf)
  · refine h1 a op (T + 1) m I1 J _ hA.1 hA.2.1.1 hA.2.1.2 ho (by omega) hq (fun b' L' N1 m1 I2 J2 hh hs2 hre2 hnd2 hm2 hf2 => ?_) (fun e' I' J' hh => nomatch hh)
    cases hh
    have hes2 : I2 81 T = nI 1 := by rw [hf2.2.2.1 81 T (by decide) (by decide) (by omega)]; exact hA.2.2.1.1
    have hk2 : I2 80 T = nI 2 := by rw [hf2.2.2.1 80 T (by decide) (by decide) (by omega), hA.2.2.1.2]; exact hk
    have hfA := hA.2.2.2.2.2.trans hf2 (by omega) (by omega)
    refine h_row1 hG hP hb hd hs2 hk2 (by omega) (fun z Q1 d1 hd1 hz1 hz0 hQ1 => ?_)
    obtain rfl : z = nI (if lvl (tk_k tx n b) = 1 then 1 else 0) := by
      split
      · exact hz1 (by assumption)
      · exact hz0 (by assumption)
    unfold pm_Met
    refine pm_lvs (lv' := [(0, _), (1, _), (2, _), (3, _), (4, _)]) rfl ?_
    refine pw_aload_n dX10_row_0 rfl ?_
    refine pw_getR fX10_111 dX10_row_1 (sh_lt hG (by decide)) (sh_tg hG 45 rfl) rfl (gr_at hP 73 rfl) ?_
    refine pw_iload_n dX10_row_4 rfl ?_
    refine pw_ialdN T dX10_row_5 (sh_lt hG (by decide)) (sh_sh hG 79 rfl) (by decide) (rfl) (by omega) ?_
    refine pw_ti (z := nI 1) hes2 ?_
    refine pw_if_ne (tgt := 16) dX10_row_6 (by decide) (fun h6 => ?_) (fun h => absurd h (by decide))
    refine pw_aload_n dX10_row_16 rfl ?_
    refine pw_getR fX10_111 dX10_row_17 (sh_lt hG (by decide)) (sh_tg hG 45 rfl) rfl (gr_at hP 73 rfl) ?_
    refine pw_iload_n dX10_row_20 rfl ?_
    refine pw_ialdN T dX10_row_21 (sh_lt hG (by decide)) (sh_sh hG 79 rfl) (by decide) (rfl) (by omega) ?_
    refine pw_ti (z := nI 1) hes2 ?_
    refine pw_iconst (v := nI 2) dX10_row_22 (by decide) ?_
    refine pw_icmp_ne (tgt := 75) dX10_row_23 (by decide) (fun h23 => ?_) (fun h => absurd h (by decide))
    exact hO Q1 d1 b op T m1 a m 0 N1 L I2 J2 r hQ1 hs2 hk2 hes2 hre2 hnd2 hm2 ho (by omega) hd1 hr (k1.mv hfA (by omega) rfl) (k0.mv hfA (by omega))
set_option maxRecDepth 20000 in
set_option maxHeartbeats 4000000 in
theorem t_qO1 {l : Launch} {E : pmE} {S : pmS} {P : pmP} {d : Nat} {Q : Option Value → pmS → pmI → pmJ → pmP → Prop} {tx : Nat → Nat} {n i kp : Nat} {pa : List Int64} {f : Nat} (hG : sh_St S) (hP : gr_St P) (hb : ∀ j, j < n → tx j < 128) (hd : 6 ≤ d) (h1 : qX l E S P d Q tx n i kp pa f 3) (hO : qO l E S P d Q tx n i kp pa f 1) : qO l E S P d Q tx n i kp pa (f + 1) 1 := by
  intro Q1 d1 a op T m a0 m0 k N acc I J r hQ1 hs hk he hre hnd hm ho hT hd1 hr k1 k0
  rw [ps_o _ _ _ _ _ _ (by omega) (by omega)] at hr
  have hkp := hs.2.1.2
  have hi6 := hs.1.2.1
  have hai := hs.2.2.1.2
  have hma := hs.2.2.2.2.2.2.1.2
  by_cases hc : lvl (tk_k tx n a) = 1
  · rw [if_pos ⟨hc, fun _ => by omega⟩] at hr
    have hc01 := lvl_c (m := 12) hc (by omega) (by omega)
    have hal := hs.lt hc01.1 hc01.2
    have hs3 := ((hs.fr' (b := 82) (j := T) (by decide) (by decide) (nI N)).fr' (b := 83) (j := T) (by decide) (by decide) (nI a)).at' (b := a + 1) (by omega) (by omega)
    have hg3 : fq T (64 * kp + m) I (pm_u (pm_u (pm_u I 82 T (nI N)) 83 T (nI a)) 47 40 (nI (a + 1))) J J := ((fq.frm (T := T) (K := 64 * kp + m) (by decide) (by decide) (Nat.le_refl _)).trans (fq.frm (T := T) (K := 64 * kp + m) (by decide) (by decide) (Nat.le_refl _)) (Nat.le_refl _) (Nat.le_refl _)).trans (fq.put (T := T) (K := 64 * kp + m) (by decide) (by decide)) (Nat.le_refl _) (Nat.le_refl _)
    refine pw_iload_n dX10_row_75 rfl ?_
    refine pw_ti (z := nI 1) (by rw [if_pos hc]) ?_
    refine pw_if_eq (tgt := 127) dX10_row_76 (by decide) (fun h => absurd h (by decide)) (fun h76 => ?_)
    refine pw_iload dX10_row_79 rfl ?_
    refine pw_ti (z := nI 0) rfl ?_
    refine pw_if_eq (tgt := 94) dX10_row_81 (by decide) (fun h81 => ?_) (fun h => absurd (by decide) h)
    refine pw_aload_n dX10_row_94 rfl ?_
    refine pw_getR fX10_114 dX10_row_95 (sh_lt hG (by decide)) (sh_tg hG 45 rfl) rfl (gr_at hP 74 rfl) ?_
    refine pw_iload_n dX10_row_98 rfl ?_
    refine pw_aload_n dX10_row_99 rfl ?_
    refine pw_getI fX10_230 dX10_row_100 (sh_lt hG (by decide)) (sh_tg hG 45 rfl) rfl ?_
    refine pw_ti (z := nI N) hre ?_
    refine pw_iastN T dX10_row_103 (by decide) (sh_lt hG (by decide)) (sh_sh hG 80 rfl) (by decide) (rfl) (by omega) ?_
    refine pw_aload_n dX10_row_104 rfl ?_
    refine pw_getR fX10_117 dX10_row_105 (sh_lt hG (by decide)) (sh_tg hG 45 rfl) rfl (gr_at hP 75 rfl) ?_
    refine pw_iload_n dX10_row_108 rfl ?_
    refine pw_aload_n dX10_row_109 rfl ?_
    refine pw_getI fX10_194 dX10_row_110 (sh_lt hG (by decide)) (sh_tg hG 45 rfl) rfl ?_
    refine pw_ti (z := nI a) (by rw [pm_u_ne (by decide)]; exact hs.2.2.1.1) ?_
    refine pw_iastN T dX10_row_113 (by decide) (sh_lt hG (by decide)) (sh_sh hG 81 rfl) (by decide) (rfl) (by omega) ?_
    refine pw_aload_n dX10_row_114 rfl ?_
    refine pw_callV (as := []) (kc' := 0) (ks' := 0) lX10_207 dX10_row_115 rfl rfl (sh_lt hG (by decide)) (sh_tg hG 45 rfl) (Nat.le_of_ble_eq_true rfl) (by omega) (Nat.le_of_ble_eq_true rfl) (Nat.zero_le _) (Nat.zero_le _) ?_
    refine c_X10_next (a := a) hG hP (by rw [pm_u_ne (by decide), pm_u_ne (by decide)]; exact hs.2.2.1.1) ?_
    refine pw_aload_n dX10_row_118 rfl ?_
    refine pw_iconst (v := nI 2) dX10_row_119 (by decide) ?_
    refine pw_iload_n dX10_row_120 rfl ?_
    refine pw_callV (as := [_, _]) (kc' := 0) (ks' := 0) lX10_226 dX10_row_121 rfl rfl (sh_lt hG (by decide)) (sh_tg hG 45 rfl) (Nat.le_of_ble_eq_true rfl) (by omega) (Nat.le_of_ble_eq_true rfl) (Nat.zero_le _) (Nat.zero_le _) ?_
    refine c_X10_then hG hP (by omega) hs3 (by omega) (s := 2) (k := 3) (fun I4 hA => ?_)
    refine pw_goto (tgt := 137) dX10_row_124 (by decide) ?_
    refine pw_vret dX10_row_137 rfl (hQ1 _ _ ?_)
    have hg4 := hg3.trans hA.2.2.2.2.2 (Nat.le_refl _) (Nat.le_refl _)
    rcases pb_so hr with ⟨e, hq, her⟩ | ⟨b, L, hq, hr⟩
    · exact h1 (a + 1) op (T + 1) m I4 J _ hA.1 hA.2.1.1 hA.2.1.2 ho (by omega) hq (fun b L N m' I' J' hh => nomatch hh) (fun e' I' J' hh hF hf => by cases hh; exact (k0.mv hg4 (by omega)) e I' J' her hF hf)
    · refine h1 (a + 1) op (T + 1) m I4 J _ hA.1 hA.2.1.1 hA.2.1.2 ho (by omega) hq (fun b' L' N2 m2 I5 J5 hh hs5 hre5 hnd5 hm5 hf5 => ?_) (fun e' I' J' hh => nomatch hh)
      cases hh
      have hes5 : I5 81 T = nI 2 := by rw [hf5.2.2.1 81 T (by decide) (by decide) (by omega)]; exact hA.2.2.1.1
      have hk5 : I5 80 T = nI 2 := by rw [hf5.2.2.1 80 T (by decide) (by decide) (by omega), hA.2.2.1.2, pm_u_ne (by decide), pm_u_ne (by decide), pm_u_ne (by decide)]; exact hk
      have ha5 : I5 82 T = nI N := by rw [hf5.2.2.1 82 T (by decide) (by decide) (by omega), hA.2.2.2.1 82 (by decide) (by decide), pm_u_ne (by decide), pm_u_ne (by decide), pm_u_eq, pm_up_eq]
      have hb5 : I5 83 T = nI a := by rw [hf5.2.2.1 83 T (by decide) (by decide) (by omega), hA.2.2.2.1 83 (by decide) (by decide), pm_u_ne (by decide), pm_u_eq, pm_up_eq]
      have hg5 := hg4.trans hf5 (by omega) (Nat.le_refl _)
      have hn1 : nT tx n kp pa I5 J5 m0 m2 (m2 - m0) N acc := hnd.up hg5 (by omega) (by omega)
      have hn2 : nT tx n kp pa I5 J5 m0 m2 (m2 - m0) N2 L := hnd5.up (fq.refl (T := 0)) (Nat.le_refl _) (by omega)
      have hmb := hs5.2.2.2.2.2.2.1.2
      have hbi := hs5.2.2.1.2
      refine h_row1 hG hP hb hd hs5 hk5 (by omega) (fun z Q1 d1 hd1 hz1 hz0 hQ1 => ?_)
      obtain rfl : z = nI (if lvl (tk_k tx n b) = 1 then 1 else 0) := by
        split
        · exact hz1 (by assumption)
        · exact hz0 (by assumption)
      unfold pm_Met
      refine pm_lvs (lv' := [(0, _), (1, _), (2, _), (3, _), (4, _)]) rfl ?_
      refine pw_aload_n dX10_row_0 rfl ?_
      refine pw_getR fX10_111 dX10_row_1 (sh_lt hG (by decide)) (sh_tg hG 45 rfl) rfl (gr_at hP 73 rfl) ?_
      refine pw_iload_n dX10_row_4 rfl ?_
      refine pw_ialdN T dX10_row_5 (sh_lt hG (by decide)) (sh_sh hG 79 rfl) (by decide) (rfl) (by omega) ?_
      refine pw_ti (z := nI 2) hes5 ?_
      refine pw_if_ne (tgt := 16) dX10_row_6 (by decide) (fun h6 => ?_) (fun h => absurd h (by decide))
      refine pw_aload_n dX10_row_16 rfl ?_
      refine pw_getR fX10_111 dX10_row_17 (sh_lt hG (by decide)) (sh_tg hG 45 rfl) rfl (gr_at hP 73 rfl) ?_
      refine pw_iload_n dX10_row_20 rfl ?_
      refine pw_ialdN T dX10_row_21 (sh_lt hG (by decide)) (sh_sh hG 79 rfl) (by decide) (rfl) (by omega) ?_
      refine pw_ti (z := nI 2) hes5 ?_
      refine pw_iconst (v := nI 2) dX10_row_22 (by decide) ?_
      refine pw_icmp_ne (tgt := 75) dX10_row_23 (by decide) (fun h => absurd (by decide) h) (fun h23 => ?_)
      refine pw_aload_n dX10_row_26 rfl ?_
      refine pw_aload_n dX10_row_27 rfl ?_
      refine pw_bipush (v := nI 6) dX10_row_28 (by decide) ?_
      refine pw_aload_n dX10_row_30 rfl ?_
      refine pw_getR fX10_117 dX10_row_31 (sh_lt hG (by decide)) (sh_tg hG 45 rfl) rfl (gr_at hP 75 rfl) ?_
      refine pw_iload_n dX10_row_34 rfl ?_
      refine pw_ialdN T dX10_row_35 (sh_lt hG (by decide)) (sh_sh hG 81 rfl) (by decide) (rfl) (by omega) ?_
      refine pw_ti (z := nI a) hb5 ?_
      refine pw_aload_n dX10_row_36 rfl ?_
      refine pw_getR fX10_114 dX10_row_37 (sh_lt hG (by decide)) (sh_tg hG 45 rfl) rfl (gr_at hP 74 rfl) ?_
      refine pw_iload_n dX10_row_40 rfl ?_
      refine pw_ialdN T dX10_row_41 (sh_lt hG (by decide)) (sh_sh hG 80 rfl) (by decide) (rfl) (by omega) ?_
      refine pw_ti (z := nI N) ha5 ?_
      refine pw_aload_n dX10_row_42 rfl ?_
      refine pw_getI fX10_230 dX10_row_43 (sh_lt hG (by decide)) (sh_tg hG 45 rfl) rfl ?_
      refine pw_ti (z := nI N2) hre5 ?_
      refine pw_bipush (v := -5) dX10_row_46 (by decide) ?_
      refine pw_callV (as := [_, _, _, _, _]) (kc' := 0) (ks' := 0) lX10_240 dX10_row_48 rfl rfl (sh_lt hG (by decide)) (sh_tg hG 45 rfl) (Nat.le_of_ble_eq_true rfl) (by omega) (Nat.le_of_ble_eq_true rfl) (Nat.zero_le _) (Nat.zero_le _) ?_
      refine c_X10_node hG hP hs5 (t := a) (by omega) (by omega) ?_
      have hsN := hs5.node (x := nI 6) (t := nI a) (p := nI (tk_p tx n a)) (v := (nI (tk_k tx n a)).toInt64) (by omega) hn1.ch hn2.ch (c := -5) (Or.inl rfl)
      have hfN := ndI_fq (T := T) (K := 64 * kp + m2) (I := I5) (J := J5) (m := m2) (x := nI 6) (t := nI a) (p := nI (tk_p tx n a)) (l := nI N) (r := nI N2) (c := -5) (v := (nI (tk_k tx n a)).toInt64) (Nat.le_refl _)
      have hat := ndI_at (k := 64 * kp + m2) (m := m2) (I := I5) (x := nI 6) (t := nI a) (p := nI (tk_p tx n a)) (l := nI N) (r := nI N2) (c := -5)
      refine pw_putI fX10_230 dX10_row_51 (Or.inl rfl) (by decide) (sh_lt hG (by decide)) (sh_tg hG 45 rfl) rfl ?_
      refine pw_aload_n dX10_row_54 rfl ?_
      refine pw_getR fX10_77 dX10_row_55 (sh_lt hG (by decide)) (sh_tg hG 45 rfl) rfl (gr_at hP 62 rfl) ?_
      refine pw_aload_n dX10_row_58 rfl ?_
      refine pw_getI fX10_230 dX10_row_59 (sh_lt hG (by decide)) (sh_tg hG 45 rfl) rfl ?_
      refine pw_ti (z := nI (64 * kp + m2)) (by rw [pm_u_eq, pm_up_eq]) ?_
      refine pw_aload_n dX10_row_62 rfl ?_
      refine pw_getR fX10_99 dX10_row_63 (sh_lt hG (by decide)) (sh_tg hG 45 rfl) rfl (gr_at hP 69 rfl) ?_
      refine pw_aload_n dX10_row_66 rfl ?_
      refine pw_getR fX10_117 dX10_row_67 (sh_lt hG (by decide)) (sh_tg hG 45 rfl) rfl (gr_at hP 75 rfl) ?_
      refine pw_iload_n dX10_row_70 rfl ?_
      refine pw_ialdN T dX10_row_71 (sh_lt hG (by decide)) (sh_sh hG 81 rfl) (by decide) (rfl) (by omega) ?_
      refine pw_ti (z := nI a) (by rw [pm_u_ne (by decide), show ndI I5 (64 * kp + m2) m2 (nI 6) (nI a) (nI (tk_p tx n a)) (nI N) (nI N2) (-5) 83 = I5 83 from by unfold ndI; repeat rw [pm_u_ne (by decide)]]; exact hb5) ?_
      refine pw_ialdN a dX10_row_72 (sh_lt hG (by decide)) (sh_sh hG 75 rfl) (by decide) (rfl) (by omega) ?_
      refine pw_ti (z := nI (tk_k tx n a)) (by rw [pm_u_ne (by decide), show ndI I5 (64 * kp + m2) m2 (nI 6) (nI a) (nI (tk_p tx n a)) (nI N) (nI N2) (-5) 77 = I5 77 from by unfold ndI; repeat rw [pm_u_ne (by decide)], (hs5.1.2.2.2.2 a (by omega)).1, rk_op (by omega)]) ?_
      refine pw_i2l dX10_row_73 ?_
      refine pw_lastN (64 * kp + m2) dX10_row_74 (by decide) (sh_lt hG (by decide)) (sh_sh hG 68 rfl) (by decide) (rfl) (by omega) ?_
      rw [show (pm_u (pm_u J5 70 (64 * kp + m2) (J5 79 a)) 70 (64 * kp + m2) (nI (tk_k tx n a)).toInt64 : pmJ) = pm_u J5 70 (64 * kp + m2) (nI (tk_k tx n a)).toInt64 from pm_uu]
      have hsE := hsN.re' (nI (64 * kp + m2))
      have hfE : fq T (64 * kp + m2 + 1) (ndI I5 (64 * kp + m2) m2 (nI 6) (nI a) (nI (tk_p tx n a)) (nI N) (nI N2) (-5)) (pm_u (ndI I5 (64 * kp + m2) m2 (nI 6) (nI a) (nI (tk_p tx n a)) (nI N) (nI N2) (-5)) 47 44 (nI (64 * kp + m2))) (pm_u J5 70 (64 * kp + m2) (nI (tk_k tx n a)).toInt64) (pm_u J5 70 (64 * kp + m2) (nI (tk_k tx n a)).toInt64) := fq.put (by decide) (by decide)
      have hgE := (hg5.trans hfN (Nat.le_refl _) (by omega)).trans hfE (Nat.le_refl _) (by omega)
      exact hO Q1 d1 b op T (m2 + 1) a0 m0 (k + 1) (64 * kp + m2) _ _ _ r hQ1 hsE (by rw [pm_u_ne (by decide), show ndI I5 (64 * kp + m2) m2 (nI 6) (nI a) (nI (tk_p tx n a)) (nI N) (nI N2) (-5) 80 = I5 80 from by unfold ndI; repeat rw [pm_u_ne (by decide)]]; exact hk5) (by rw [pm_u_ne (by decide), show ndI I5 (64 * kp + m2) m2 (nI 6) (nI a) (nI (tk_p tx n a)) (nI N) (nI N2) (-5) 81 = I5 81 from by unfold ndI; repeat rw [pm_u_ne (by decide)], if_neg (by omega)]; exact hes5) (by rw [pm_u_eq, pm_up_eq]) ((nT.m6 (s := m0) (f := m2 - m0) (F := m2 + 1 - m0) (m := m2 + 1) (by omega) ⟨by omega, by omega⟩ hat.2.2.1 hat.1 (by rw [pm_u_eq, pm_up_eq]) (by omega) hat.2.2.2.1 hat.2.2.2.2.1 (hn1.up hfN (by omega) (Nat.le_refl _)) (hn2.up hfN (by omega) (Nat.le_refl _))).up hfE (Nat.le_refl _) (Nat.le_refl _)) ⟨by omega, by omega⟩ ho hT hd1 hr (k1.mv (hgE.le (Nat.le_refl _) (by omega)) (by omega) rfl) (k0.mv hgE (by omega))
  · rw [if_neg (fun q => hc q.1)] at hr
    refine pw_iload_n dX10_row_75 rfl ?_
    refine pw_ti (z := nI 0) (by rw [if_neg hc]) ?_
    refine pw_if_eq (tgt := 127) dX10_row_76 (by decide) (fun h76 => ?_) (fun h => absurd (by decide) h)
    refine pw_aload_n dX10_row_127 rfl ?_
    refine pw_dup dX10_row_128 rfl ?_
    refine pw_getI fX10_213 dX10_row_129 (sh_lt hG (by decide)) (sh_tg hG 45 rfl) rfl ?_
    refine pw_iconst (v := nI 1) dX10_row_132 (by decide) ?_
    refine pw_isub dX10_row_133 ?_
    refine pw_ti (z := nI T) (by rw [hs.2.2.2.2.2.1.1]; exact nI_pred T) ?_
    refine pw_putI fX10_213 dX10_row_134 (Or.inl rfl) (by decide) (sh_lt hG (by decide)) (sh_tg hG 45 rfl) rfl ?_
    refine pw_vret dX10_row_137 rfl (hQ1 _ _ ?_)
    exact k1 a acc N m _ _ (Option.some.inj hr).symm (hs.tp' (by omega)) (by rw [pm_u_eq, pm_up_ne (by decide)]; exact hre) (hnd.up (fq.put (T := T) (by decide) (by decide)) (Nat.le_refl _) (Nat.le_refl _)) hm (fq.put (by decide) (by decide))
set_option maxRecDepth 20000 in
set_option maxHeartbeats 4000000 in
theorem h_row2 {l : Launch} {E : pmE} {S : pmS} {P : pmP} {d : Nat} {Q : Option Value → pmS → pmI → pmJ → pmP → Prop} {tx : Nat → Nat} {n i kp : Nat} (hG : sh_St S) (hP : gr_St P) (hb : ∀ j, j < n → tx j < 128) (hd : 6 ≤ d) {a op T m : Nat} {I : pmI} {J : pmJ} (hs : qs tx n i kp I J a op (T + 1) m) (hk : I 80 T = nI 3) (hT : T ≤ 200) (key : ∀ (z : Int32) (Q1 : Option Value → pmS → pmI → pmJ → pmP → Prop) (d1 : Nat), 3 ≤ d1 → (lvl (tk_k tx n a) = 2 → z = nI 1) → (¬ lvl (tk_k tx n a) = 2 → z = nI 0) → (∀ I' J', LH l E S P d Q I' J' → Q1 none S I' J' P) → pm_Met l E yX10_row cX10_row 5 none d1 0 0 [.ref 47, .int (nI T), .int (nI 4), .int z, .int (nI 0)] S I J P Q1) : LH l E S P d Q I J := by
  have hkc := (rk_c (tk_k_c (tx := tx) (n := n) (i := a) hb).1)
  unfold LH
  refine pw_aload_n dX10_readExpr_10 rfl ?_
  refine pw_getI fX10_213 dX10_readExpr_11 (sh_lt hG (by decide)) (sh_tg hG 45 rfl) rfl ?_
  refine pw_ifN_le _ (tgt := 204) dX10_readExpr_14 (by decide) (hs.2.2.2.2.2.1.1) (by omega) (fun h14 => absurd h14 (by omega)) (fun h14 => ?_)
  refine pw_aload_n dX10_readExpr_17 rfl ?_
  refine pw_getI fX10_197 dX10_readExpr_18 (sh_lt hG (by decide)) (sh_tg hG 45 rfl) rfl ?_
  refine pw_if_ge (tgt := 204) dX10_readExpr_21 (by decide) (fun h => absurd h (by rw [hs.2.2.2.1]; decide)) (fun h21 => ?_)
  refine pw_aload_n dX10_readExpr_24 rfl ?_
  refine pw_getI fX10_213 dX10_readExpr_25 (sh_lt hG (by decide)) (sh_tg hG 45 rfl) rfl ?_
  refine pw_iconst (v := nI 1) dX10_readExpr_28 (by decide) ?_
  refine pw_isub dX10_readExpr_29 ?_
  refine pw_ti (z := nI T) (by rw [hs.2.2.2.2.2.1.1]; exact nI_pred T) ?_
  refine pw_istore_n (lv' := [(1, _), (0, _)]) dX10_readExpr_30 (by decide) rfl ?_
  refine pw_aload_n dX10_readExpr_31 rfl ?_
  refine pw_getR fX10_108 dX10_readExpr_32 (sh_lt hG (by decide)) (sh_tg hG 45 rfl) rfl (gr_at hP 72 rfl) ?_
  refine pw_iload_n dX10_readExpr_35 rfl ?_
  refine pw_ialdN T dX10_readExpr_36 (sh_lt hG (by decide)) (sh_sh hG 78 rfl) (by decide) (rfl) (by omega) ?_
  refine pw_ti (z := nI 3) hk ?_
  refine pw_tableIn (off := 109) (tgt := 146) dX10_readExpr_37 (by decide) (by decide) (by decide) (by decide) ?_
  refine pw_aload_n dX10_readExpr_146 rfl ?_
  refine pw_iload_n dX10_readExpr_147 rfl ?_
  refine pw_iconst (v := nI 4) dX10_readExpr_148 (by decide) ?_
  refine pw_aload_n dX10_readExpr_149 rfl ?_
  refine pw_callV (as := []) (kc' := 0) (ks' := 0) lX10_200 dX10_readExpr_150 rfl rfl (sh_lt hG (by decide)) (sh_tg hG 45 rfl) (Nat.le_of_ble_eq_true rfl) (by omega) (Nat.le_of_ble_eq_true rfl) (Nat.zero_le _) (Nat.zero_le _) ?_
  refine c_X10_tok hG hP hs ?_
  refine pw_bipush (v := nI 42) dX10_readExpr_153 (by decide) ?_
  refine pw_icmpN_eq _ _ (tgt := 176) dX10_readExpr_155 (by decide) (rfl) (rfl) (by omega) (by omega) (fun h155 => ?_) (fun h155 => ?_)
  · refine pw_iconst (v := nI 1) dX10_readExpr_176 (by decide) ?_
    refine pw_goto (tgt := 181) dX10_readExpr_177 (by decide) ?_
    refine pw_iconst (v := nI 0) dX10_readExpr_181 (by decide) ?_
    refine pw_callV (as := [_, _, _, _]) (kc' := 0) (ks' := 0) lX10_253 dX10_readExpr_182 rfl rfl (sh_lt hG (by decide)) (sh_tg hG 45 rfl) (Nat.le_of_ble_eq_true rfl) (by omega) (Nat.le_of_ble_eq_true rfl) (Nat.zero_le _) (Nat.zero_le _) ?_
    refine key _ _ _ (by omega) (fun _ => rfl) (fun q => absurd (by first | (rw [(rq42 hb).mp h155]; decide) | (rw [(rq47 hb).mp h164]; decide) | (rw [(rq37 hb).mp h173]; decide)) q) (fun I9 J9 h9 => ?_)
    refine pw_goto (tgt := 201) dX10_readExpr_185 (by decide) ?_
    refine pw_goto (tgt := 10) dX10_readExpr_201 (by decide) ?_
    refine pw_sub [1] rfl ?_
    exact h9
  · refine pw_aload_n dX10_readExpr_158 rfl ?_
    refine pw_callV (as := []) (kc' := 0) (ks' := 0) lX10_200 dX10_readExpr_159 rfl rfl (sh_lt hG (by decide)) (sh_tg hG 45 rfl) (Nat.le_of_ble_eq_true rfl) (by omega) (Nat.le_of_ble_eq_true rfl) (Nat.zero_le _) (Nat.zero_le _) ?_
    refine c_X10_tok hG hP hs ?_
    refine pw_bipush (v := nI 47) dX10_readExpr_162 (by decide) ?_
    refine pw_icmpN_eq _ _ (tgt := 176) dX10_readExpr_164 (by decide) (rfl) (rfl) (by omega) (by omega) (fun h164 => ?_) (fun h164 => ?_)
    · refine pw_iconst (v := nI 1) dX10_readExpr_176 (by decide) ?_
      refine pw_goto (tgt := 181) dX10_readExpr_177 (by decide) ?_
      refine pw_iconst (v := nI 0) dX10_readExpr_181 (by decide) ?_
      refine pw_callV (as := [_, _, _, _]) (kc' := 0) (ks' := 0) lX10_253 dX10_readExpr_182 rfl rfl (sh_lt hG (by decide)) (sh_tg hG 45 rfl) (Nat.le_of_ble_eq_true rfl) (by omega) (Nat.le_of_ble_eq_true rfl) (Nat.zero_le _) (Nat.zero_le _) ?_
      refine key _ _ _ (by omega) (fun _ => rfl) (fun q => absurd (by first | (rw [(rq42 hb).mp h155]; decide) | (rw [(rq47 hb).mp h164]; decide) | (rw [(rq37 hb).mp h173]; decide)) q) (fun I9 J9 h9 => ?_)
      refine pw_goto (tgt := 201) dX10_readExpr_185 (by decide) ?_
      refine pw_goto (tgt := 10) dX10_readExpr_201 (by decide) ?_
      refine pw_sub [1] rfl ?_
      exact h9
    · refine pw_aload_n dX10_readExpr_167 rfl ?_
      refine pw_callV (as := []) (kc' := 0) (ks' := 0) lX10_200 dX10_readExpr_168 rfl rfl (sh_lt hG (by decide)) (sh_tg hG 45 rfl) (Nat.le_of_ble_eq_true rfl) (by omega) (Nat.le_of_ble_eq_true rfl) (Nat.zero_le _) (Nat.zero_le _) ?_
      refine c_X10_tok hG hP hs ?_
      refine pw_bipush (v := nI 37) dX10_readExpr_171 (by decide) ?_
      refine pw_icmpN_ne _ _ (tgt := 180) dX10_readExpr_173 (by decide) (rfl) (rfl) (by omega) (by omega) (fun h173 => ?_) (fun h173 => ?_)
      · refine pw_iconst (v := nI 0) dX10_readExpr_180 (by decide) ?_
        refine pw_iconst (v := nI 0) dX10_readExpr_181 (by decide) ?_
        refine pw_callV (as := [_, _, _, _]) (kc' := 0) (ks' := 0) lX10_253 dX10_readExpr_182 rfl rfl (sh_lt hG (by decide)) (sh_tg hG 45 rfl) (Nat.le_of_ble_eq_true rfl) (by omega) (Nat.le_of_ble_eq_true rfl) (Nat.zero_le _) (Nat.zero_le _) ?_
        refine key _ _ _ (by omega) (fun q => absurd q (fun q => by rcases lvl_e2 q with e | e | e <;> first | exact absurd ((rq42 hb).mpr e) h155 | exact absurd ((rq47 hb).mpr e) h164 | exact absurd ((rq37 hb).mpr e) h173)) (fun _ => rfl) (fun I9 J9 h9 => ?_)
        refine pw_goto (tgt := 201) dX10_readExpr_185 (by decide) ?_
        refine pw_goto (tgt := 10) dX10_readExpr_201 (by decide) ?_
        refine pw_sub [1] rfl ?_
        exact h9
      · refine pw_iconst (v := nI 1) dX10_readExpr_176 (by decide) ?_
        refine pw_goto (tgt := 181) dX10_readExpr_177 (by decide) ?_
        refine pw_iconst (v := nI 0) dX10_readExpr_181 (by decide) ?_
        refine pw_callV (as := [_, _, _, _]) (kc' := 0) (ks' := 0) lX10_253 dX10_readExpr_182 rfl rfl (sh_lt hG (by decide)) (sh_tg hG 45 rfl) (Nat.le_of_ble_eq_true rfl) (by omega) (Nat.le_of_ble_eq_true rfl) (Nat.zero_le _) (Nat.zero_le _) ?_
        refine key _ _ _ (by omega) (fun _ => rfl) (fun q => absurd (by first | (rw [(rq42 hb).mp h155]; decide) | (rw [(rq47 hb).mp h164]; decide) | (rw [(rq37 hb).mp h173]; decide)) q) (fun I9 J9 h9 => ?_)
        refine pw_goto (tgt := 201) dX10_readExpr_185 (by decide) ?_
        refine pw_goto (tgt := 10) dX10_readExpr_201 (by decide) ?_
        refine pw_sub [1] rfl ?_
        exact h9
set_option maxRecDepth 20000 in
set_option maxHeartbeats 4000000 in
theorem t_qX3 {l : Launch} {E : pmE} {S : pmS} {P : pmP} {d : Nat} {Q : Option Value → pmS → pmI → pmJ → pmP → Prop} {tx : Nat → Nat} {n i kp : Nat} {pa : List Int64} {f : Nat} (hG : sh_St S) (hP : gr_St P) (hb : ∀ j, j < n → tx j < 128) (hd : 6 ≤ d) (h1 : qX l E S P d Q tx n i kp pa f 4) (hO : qO l E S P d Q tx n i kp pa f 2) : qX l E S P d Q tx n i kp pa (f + 1) 3 := by
  intro a op T m I J r hs hk he ho hT hr k1 k0
  rw [ps_l _ _ _ _ _ _ (by omega) (by omega)] at hr
  have hkp := hs.2.1.2
  have hi6 := hs.1.2.1
  refine h_row2 hG hP hb hd hs hk (by omega) (fun z Q1 d1 hd1 hz1 hz0 hQ1 => ?_)
  unfold pm_Met
  refine pm_lvs (lv' := [(0, _), (1, _), (2, _), (3, _), (4, _)]) rfl ?_
  refine pw_aload_n dX10_row_0 rfl ?_
  refine pw_getR fX10_111 dX10_row_1 (sh_lt hG (by decide)) (sh_tg hG 45 rfl) rfl (gr_at hP 73 rfl) ?_
  refine pw_iload_n dX10_row_4 rfl ?_
  refine pw_ialdN T dX10_row_5 (sh_lt hG (by decide)) (sh_sh hG 79 rfl) (by decide) (rfl) (by omega) ?_
  refine pw_ti (z := nI 0) he ?_
  refine pw_if_ne (tgt := 16) dX10_row_6 (by decide) (fun h => absurd (by decide) h) (fun h6 => ?_)
  refine pw_aload_n dX10_row_9 rfl ?_
  refine pw_iconst (v := nI 1) dX10_row_10 (by decide) ?_
  refine pw_iload_n dX10_row_11 rfl ?_
  refine pw_callV (as := [_, _]) (kc' := 0) (ks' := 0) lX10_226 dX10_row_12 rfl rfl (sh_lt hG (by decide)) (sh_tg hG 45 rfl) (Nat.le_of_ble_eq_true rfl) (by omega) (Nat.le_of_ble_eq_true rfl) (Nat.zero_le _) (Nat.zero_le _) ?_
  refine c_X10_then hG hP (by omega) hs (by omega) (s := 1) (k := 4) (fun I1 hA => ?_)
  refine pw_vret dX10_row_15 rfl (hQ1 _ _ ?_)
  rcases pb_so hr with ⟨e, hq, her⟩ | ⟨b, L, hq, hr⟩
  · exact h1 a op (T + 1) m I1 J _ hA.1 hA.2.1.1 hA.2.1.2 ho (by omega) hq (fun b L N m' I' J' hh => nomatch hh) (fun e' I' J' hh hF hf => by cases hh; exact (k0.mv hA.2.2.2.2.2 (by omega)) e I' J' her hF hf)
  · refine h1 a op (T + 1) m I1 J _ hA.1 hA.2.1.1 hA.2.1.2 ho (by omega) hq (fun b' L' N1 m1 I2 J2 hh hs2 hre2 hnd2 hm2 hf2 => ?_) (fun e' I' J' hh => nomatch hh)
    cases hh
    have hes2 : I2 81 T = nI 1 := by rw [hf2.2.2.1 81 T (by decide) (by decide) (by omega)]; exact hA.2.2.1.1
    have hk2 : I2 80 T = nI 3 := by rw [hf2.2.2.1 80 T (by decide) (by decide) (by omega), hA.2.2.1.2]; exact hk
    have hfA := hA.2.2.2.2.2.trans hf2 (by omega) (by omega)
    refine h_row2 hG hP hb hd hs2 hk2 (by omega) (fun z Q1 d1 hd1 hz1 hz0 hQ1 => ?_)
    obtain rfl : z = nI (if lvl (tk_k tx n b) = 2 then 1 else 0) := by
      split
      · exact hz1 (by assumption)
      · exact hz0 (by assumption)
    unfold pm_Met
    refine pm_lvs (lv' := [(0, _), (1, _), (2, _), (3, _), (4, _)]) rfl ?_
    refine pw_aload_n dX10_row_0 rfl ?_
    refine pw_getR fX10_111 dX10_row_1 (sh_lt hG (by decide)) (sh_tg hG 45 rfl) rfl (gr_at hP 73 rfl) ?_
    refine pw_iload_n dX10_row_4 rfl ?_
    refine pw_ialdN T dX10_row_5 (sh_lt hG (by decide)) (sh_sh hG 79 rfl) (by decide) (rfl) (by omega) ?_
    refine pw_ti (z := nI 1) hes2 ?_
    refine pw_if_ne (tgt := 16) dX10_row_6 (by decide) (fun h6 => ?_) (fun h => absurd h (by decide))
    refine pw_aload_n dX10_row_16 rfl ?_
    refine pw_getR fX10_111 dX10_row_17 (sh_lt hG (by decide)) (sh_tg hG 45 rfl) rfl (gr_at hP 73 rfl) ?_
    refine pw_iload_n dX10_row_20 rfl ?_
    refine pw_ialdN T dX10_row_21 (sh_lt hG (by decide)) (sh_sh hG 79 rfl) (by decide) (rfl) (by omega) ?_
    refine pw_ti (z := nI 1) hes2 ?_
    refine pw_iconst (v := nI 2) dX10_row_22 (by decide) ?_
    refine pw_icmp_ne (tgt := 75) dX10_row_23 (by decide) (fun h23 => ?_) (fun h => absurd h (by decide))
    exact hO Q1 d1 b op T m1 a m 0 N1 L I2 J2 r hQ1 hs2 hk2 hes2 hre2 hnd2 hm2 ho (by omega) hd1 hr (k1.mv hfA (by omega) rfl) (k0.mv hfA (by omega))
set_option maxRecDepth 20000 in
set_option maxHeartbeats 4000000 in
theorem t_qO2 {l : Launch} {E : pmE} {S : pmS} {P : pmP} {d : Nat} {Q : Option Value → pmS → pmI → pmJ → pmP → Prop} {tx : Nat → Nat} {n i kp : Nat} {pa : List Int64} {f : Nat} (hG : sh_St S) (hP : gr_St P) (hb : ∀ j, j < n → tx j < 128) (hd : 6 ≤ d) (h1 : qX l E S P d Q tx n i kp pa f 4) (hO : qO l E S P d Q tx n i kp pa f 2) : qO l E S P d Q tx n i kp pa (f + 1) 2 := by
  intro Q1 d1 a op T m a0 m0 k N acc I J r hQ1 hs hk he hre hnd hm ho hT hd1 hr k1 k0
  rw [ps_o _ _ _ _ _ _ (by omega) (by omega)] at hr
  have hkp := hs.2.1.2
  have hi6 := hs.1.2.1
  have hai := hs.2.2.1.2
  have hma := hs.2.2.2.2.2.2.1.2
  by_cases hc : lvl (tk_k tx n a) = 2
  · rw [if_pos ⟨hc, fun _ => by omega⟩] at hr
    have hc01 := lvl_c (m := 13) hc (by omega) (by omega)
    have hal := hs.lt hc01.1 hc01.2
    have hs3 := ((hs.fr' (b := 82) (j := T) (by decide) (by decide) (nI N)).fr' (b := 83) (j := T) (by decide) (by decide) (nI a)).at' (b := a + 1) (by omega) (by omega)
    have hg3 : fq T (64 * kp + m) I (pm_u (pm_u (pm_u I 82 T (nI N)) 83 T (nI a)) 47 40 (nI (a + 1))) J J := ((fq.frm (T := T) (K := 64 * kp + m) (by decide) (by decide) (Nat.le_refl _)).trans (fq.frm (T := T) (K := 64 * kp + m) (by decide) (by decide) (Nat.le_refl _)) (Nat.le_refl _) (Nat.le_refl _)).trans (fq.put (T := T) (K := 64 * kp + m) (by decide) (by decide)) (Nat.le_refl _) (Nat.le_refl _)
    refine pw_iload_n dX10_row_75 rfl ?_
    refine pw_ti (z := nI 1) (by rw [if_pos hc]) ?_
    refine pw_if_eq (tgt := 127) dX10_row_76 (by decide) (fun h => absurd h (by decide)) (fun h76 => ?_)
    refine pw_iload dX10_row_79 rfl ?_
    refine pw_ti (z := nI 0) rfl ?_
    refine pw_if_eq (tgt := 94) dX10_row_81 (by decide) (fun h81 => ?_) (fun h => absurd (by decide) h)
    refine pw_aload_n dX10_row_94 rfl ?_
    refine pw_getR fX10_114 dX10_row_95 (sh_lt hG (by decide)) (sh_tg hG 45 rfl) rfl (gr_at hP 74 rfl) ?_
    refine pw_iload_n dX10_row_98 rfl ?_
    refine pw_aload_n dX10_row_99 rfl ?_
    refine pw_getI fX10_230 dX10_row_100 (sh_lt hG (by decide)) (sh_tg hG 45 rfl) rfl ?_
    refine pw_ti (z := nI N) hre ?_
    refine pw_iastN T dX10_row_103 (by decide) (sh_lt hG (by decide)) (sh_sh hG 80 rfl) (by decide) (rfl) (by omega) ?_
    refine pw_aload_n dX10_row_104 rfl ?_
    refine pw_getR fX10_117 dX10_row_105 (sh_lt hG (by decide)) (sh_tg hG 45 rfl) rfl (gr_at hP 75 rfl) ?_
    refine pw_iload_n dX10_row_108 rfl ?_
    refine pw_aload_n dX10_row_109 rfl ?_
    refine pw_getI fX10_194 dX10_row_110 (sh_lt hG (by decide)) (sh_tg hG 45 rfl) rfl ?_
    refine pw_ti (z := nI a) (by rw [pm_u_ne (by decide)]; exact hs.2.2.1.1) ?_
    refine pw_iastN T dX10_row_113 (by decide) (sh_lt hG (by decide)) (sh_sh hG 81 rfl) (by decide) (rfl) (by omega) ?_
    refine pw_aload_n dX10_row_114 rfl ?_
    refine pw_callV (as := []) (kc' := 0) (ks' := 0) lX10_207 dX10_row_115 rfl rfl (sh_lt hG (by decide)) (sh_tg hG 45 rfl) (Nat.le_of_ble_eq_true rfl) (by omega) (Nat.le_of_ble_eq_true rfl) (Nat.zero_le _) (Nat.zero_le _) ?_
    refine c_X10_next (a := a) hG hP (by rw [pm_u_ne (by decide), pm_u_ne (by decide)]; exact hs.2.2.1.1) ?_
    refine pw_aload_n dX10_row_118 rfl ?_
    refine pw_iconst (v := nI 2) dX10_row_119 (by decide) ?_
    refine pw_iload_n dX10_row_120 rfl ?_
    refine pw_callV (as := [_, _]) (kc' := 0) (ks' := 0) lX10_226 dX10_row_121 rfl rfl (sh_lt hG (by decide)) (sh_tg hG 45 rfl) (Nat.le_of_ble_eq_true rfl) (by omega) (Nat.le_of_ble_eq_true rfl) (Nat.zero_le _) (Nat.zero_le _) ?_
    refine c_X10_then hG hP (by omega) hs3 (by omega) (s := 2) (k := 4) (fun I4 hA => ?_)
    refine pw_goto (tgt := 137) dX10_row_124 (by decide) ?_
    refine pw_vret dX10_row_137 rfl (hQ1 _ _ ?_)
    have hg4 := hg3.trans hA.2.2.2.2.2 (Nat.le_refl _) (Nat.le_refl _)
    rcases pb_so hr with ⟨e, hq, her⟩ | ⟨b, L, hq, hr⟩
    · exact h1 (a + 1) op (T + 1) m I4 J _ hA.1 hA.2.1.1 hA.2.1.2 ho (by omega) hq (fun b L N m' I' J' hh => nomatch hh) (fun e' I' J' hh hF hf => by cases hh; exact (k0.mv hg4 (by omega)) e I' J' her hF hf)
    · refine h1 (a + 1) op (T + 1) m I4 J _ hA.1 hA.2.1.1 hA.2.1.2 ho (by omega) hq (fun b' L' N2 m2 I5 J5 hh hs5 hre5 hnd5 hm5 hf5 => ?_) (fun e' I' J' hh => nomatch hh)
      cases hh
      have hes5 : I5 81 T = nI 2 := by rw [hf5.2.2.1 81 T (by decide) (by decide) (by omega)]; exact hA.2.2.1.1
      have hk5 : I5 80 T = nI 3 := by rw [hf5.2.2.1 80 T (by decide) (by decide) (by omega), hA.2.2.1.2, pm_u_ne (by decide), pm_u_ne (by decide), pm_u_ne (by decide)]; exact hk
      have ha5 : I5 82 T = nI N := by rw [hf5.2.2.1 82 T (by decide) (by decide) (by omega), hA.2.2.2.1 82 (by decide) (by decide), pm_u_ne (by decide), pm_u_ne (by decide), pm_u_eq, pm_up_eq]
      have hb5 : I5 83 T = nI a := by rw [hf5.2.2.1 83 T (by decide) (by decide) (by omega), hA.2.2.2.1 83 (by decide) (by decide), pm_u_ne (by decide), pm_u_eq, pm_up_eq]
      have hg5 := hg4.trans hf5 (by omega) (Nat.le_refl _)
      have hn1 : nT tx n kp pa I5 J5 m0 m2 (m2 - m0) N acc := hnd.up hg5 (by omega) (by omega)
      have hn2 : nT tx n kp pa I5 J5 m0 m2 (m2 - m0) N2 L := hnd5.up (fq.refl (T := 0)) (Nat.le_refl _) (by omega)
      have hmb := hs5.2.2.2.2.2.2.1.2
      have hbi := hs5.2.2.1.2
      refine h_row2 hG hP hb hd hs5 hk5 (by omega) (fun z Q1 d1 hd1 hz1 hz0 hQ1 => ?_)
      obtain rfl : z = nI (if lvl (tk_k tx n b) = 2 then 1 else 0) := by
        split
        · exact hz1 (by assumption)
        · exact hz0 (by assumption)
      unfold pm_Met
      refine pm_lvs (lv' := [(0, _), (1, _), (2, _), (3, _), (4, _)]) rfl ?_
      refine pw_aload_n dX10_row_0 rfl ?_
      refine pw_getR fX10_111 dX10_row_1 (sh_lt hG (by decide)) (sh_tg hG 45 rfl) rfl (gr_at hP 73 rfl) ?_
      refine pw_iload_n dX10_row_4 rfl ?_
      refine pw_ialdN T dX10_row_5 (sh_lt hG (by decide)) (sh_sh hG 79 rfl) (by decide) (rfl) (by omega) ?_
      refine pw_ti (z := nI 2) hes5 ?_
      refine pw_if_ne (tgt := 16) dX10_row_6 (by decide) (fun h6 => ?_) (fun h => absurd h (by decide))
      refine pw_aload_n dX10_row_16 rfl ?_
      refine pw_getR fX10_111 dX10_row_17 (sh_lt hG (by decide)) (sh_tg hG 45 rfl) rfl (gr_at hP 73 rfl) ?_
      refine pw_iload_n dX10_row_20 rfl ?_
      refine pw_ialdN T dX10_row_21 (sh_lt hG (by decide)) (sh_sh hG 79 rfl) (by decide) (rfl) (by omega) ?_
      refine pw_ti (z := nI 2) hes5 ?_
      refine pw_iconst (v := nI 2) dX10_row_22 (by decide) ?_
      refine pw_icmp_ne (tgt := 75) dX10_row_23 (by decide) (fun h => absurd (by decide) h) (fun h23 => ?_)
      refine pw_aload_n dX10_row_26 rfl ?_
      refine pw_aload_n dX10_row_27 rfl ?_
      refine pw_bipush (v := nI 6) dX10_row_28 (by decide) ?_
      refine pw_aload_n dX10_row_30 rfl ?_
      refine pw_getR fX10_117 dX10_row_31 (sh_lt hG (by decide)) (sh_tg hG 45 rfl) rfl (gr_at hP 75 rfl) ?_
      refine pw_iload_n dX10_row_34 rfl ?_
      refine pw_ialdN T dX10_row_35 (sh_lt hG (by decide)) (sh_sh hG 81 rfl) (by decide) (rfl) (by omega) ?_
      refine pw_ti (z := nI a) hb5 ?_
      refine pw_aload_n dX10_row_36 rfl ?_
      refine pw_getR fX10_114 dX10_row_37 (sh_lt hG (by decide)) (sh_tg hG 45 rfl) rfl (gr_at hP 74 rfl) ?_
      refine pw_iload_n dX10_row_40 rfl ?_
      refine pw_ialdN T dX10_row_41 (sh_lt hG (by decide)) (sh_sh hG 80 rfl) (by decide) (rfl) (by omega) ?_
      refine pw_ti (z := nI N) ha5 ?_
      refine pw_aload_n dX10_row_42 rfl ?_
      refine pw_getI fX10_230 dX10_row_43 (sh_lt hG (by decide)) (sh_tg hG 45 rfl) rfl ?_
      refine pw_ti (z := nI N2) hre5 ?_
      refine pw_bipush (v := -5) dX10_row_46 (by decide) ?_
      refine pw_callV (as := [_, _, _, _, _]) (kc' := 0) (ks' := 0) lX10_240 dX10_row_48 rfl rfl (sh_lt hG (by decide)) (sh_tg hG 45 rfl) (Nat.le_of_ble_eq_true rfl) (by omega) (Nat.le_of_ble_eq_true rfl) (Nat.zero_le _) (Nat.zero_le _) ?_
      refine c_X10_node hG hP hs5 (t := a) (by omega) (by omega) ?_
      have hsN := hs5.node (x := nI 6) (t := nI a) (p := nI (tk_p tx n a)) (v := (nI (tk_k tx n a)).toInt64) (by omega) hn1.ch hn2.ch (c := -5) (Or.inl rfl)
      have hfN := ndI_fq (T := T) (K := 64 * kp + m2) (I := I5) (J := J5) (m := m2) (x := nI 6) (t := nI a) (p := nI (tk_p tx n a)) (l := nI N) (r := nI N2) (c := -5) (v := (nI (tk_k tx n a)).toInt64) (Nat.le_refl _)
      have hat := ndI_at (k := 64 * kp + m2) (m := m2) (I := I5) (x := nI 6) (t := nI a) (p := nI (tk_p tx n a)) (l := nI N) (r := nI N2) (c := -5)
      refine pw_putI fX10_230 dX10_row_51 (Or.inl rfl) (by decide) (sh_lt hG (by decide)) (sh_tg hG 45 rfl) rfl ?_
      refine pw_aload_n dX10_row_54 rfl ?_
      refine pw_getR fX10_77 dX10_row_55 (sh_lt hG (by decide)) (sh_tg hG 45 rfl) rfl (gr_at hP 62 rfl) ?_
      refine pw_aload_n dX10_row_58 rfl ?_
      refine pw_getI fX10_230 dX10_row_59 (sh_lt hG (by decide)) (sh_tg hG 45 rfl) rfl ?_
      refine pw_ti (z := nI (64 * kp + m2)) (by rw [pm_u_eq, pm_up_eq]) ?_
      refine pw_aload_n dX10_row_62 rfl ?_
      refine pw_getR fX10_99 dX10_row_63 (sh_lt hG (by decide)) (sh_tg hG 45 rfl) rfl (gr_at hP 69 rfl) ?_
      refine pw_aload_n dX10_row_66 rfl ?_
      refine pw_getR fX10_117 dX10_row_67 (sh_lt hG (by decide)) (sh_tg hG 45 rfl) rfl (gr_at hP 75 rfl) ?_
      refine pw_iload_n dX10_row_70 rfl ?_
      refine pw_ialdN T dX10_row_71 (sh_lt hG (by decide)) (sh_sh hG 81 rfl) (by decide) (rfl) (by omega) ?_
      refine pw_ti (z := nI a) (by rw [pm_u_ne (by decide), show ndI I5 (64 * kp + m2) m2 (nI 6) (nI a) (nI (tk_p tx n a)) (nI N) (nI N2) (-5) 83 = I5 83 from by unfold ndI; repeat rw [pm_u_ne (by decide)]]; exact hb5) ?_
      refine pw_ialdN a dX10_row_72 (sh_lt hG (by decide)) (sh_sh hG 75 rfl) (by decide) (rfl) (by omega) ?_
      refine pw_ti (z := nI (tk_k tx n a)) (by rw [pm_u_ne (by decide), show ndI I5 (64 * kp + m2) m2 (nI 6) (nI a) (nI (tk_p tx n a)) (nI N) (nI N2) (-5) 77 = I5 77 from by unfold ndI; repeat rw [pm_u_ne (by decide)], (hs5.1.2.2.2.2 a (by omega)).1, rk_op (by omega)]) ?_
      refine pw_i2l dX10_row_73 ?_
      refine pw_lastN (64 * kp + m2) dX10_row_74 (by decide) (sh_lt hG (by decide)) (sh_sh hG 68 rfl) (by decide) (rfl) (by omega) ?_
      rw [show (pm_u (pm_u J5 70 (64 * kp + m2) (J5 79 a)) 70 (64 * kp + m2) (nI (tk_k tx n a)).toInt64 : pmJ) = pm_u J5 70 (64 * kp + m2) (nI (tk_k tx n a)).toInt64 from pm_uu]
      have hsE := hsN.re' (nI (64 * kp + m2))
      have hfE : fq T (64 * kp + m2 + 1) (ndI I5 (64 * kp + m2) m2 (nI 6) (nI a) (nI (tk_p tx n a)) (nI N) (nI N2) (-5)) (pm_u (ndI I5 (64 * kp + m2) m2 (nI 6) (nI a) (nI (tk_p tx n a)) (nI N) (nI N2) (-5)) 47 44 (nI (64 * kp + m2))) (pm_u J5 70 (64 * kp + m2) (nI (tk_k tx n a)).toInt64) (pm_u J5 70 (64 * kp + m2) (nI (tk_k tx n a)).toInt64) := fq.put (by decide) (by decide)
      have hgE := (hg5.trans hfN (Nat.le_refl _) (by omega)).trans hfE (Nat.le_refl _) (by omega)
      exact hO Q1 d1 b op T (m2 + 1) a0 m0 (k + 1) (64 * kp + m2) _ _ _ r hQ1 hsE (by rw [pm_u_ne (by decide), show ndI I5 (64 * kp + m2) m2 (nI 6) (nI a) (nI (tk_p tx n a)) (nI N) (nI N2) (-5) 80 = I5 80 from by unfold ndI; repeat rw [pm_u_ne (by decide)]]; exact hk5) (by rw [pm_u_ne (by decide), show ndI I5 (64 * kp + m2) m2 (nI 6) (nI a) (nI (tk_p tx n a)) (nI N) (nI N2) (-5) 81 = I5 81 from by unfold ndI; repeat rw [pm_u_ne (by decide)], if_neg (by omega)]; exact hes5) (by rw [pm_u_eq, pm_up_eq]) ((nT.m6 (s := m0) (f := m2 - m0) (F := m2 + 1 - m0) (m := m2 + 1) (by omega) ⟨by omega, by omega⟩ hat.2.2.1 hat.1 (by rw [pm_u_eq, pm_up_eq]) (by omega) hat.2.2.2.1 hat.2.2.2.2.1 (hn1.up hfN (by omega) (Nat.le_refl _)) (hn2.up hfN (by omega) (Nat.le_refl _))).up hfE (Nat.le_refl _) (Nat.le_refl _)) ⟨by omega, by omega⟩ ho hT hd1 hr (k1.mv (hgE.le (Nat.le_refl _) (by omega)) (by omega) rfl) (k0.mv hgE (by omega))
  · rw [if_neg (fun q => hc q.1)] at hr
    refine pw_iload_n dX10_row_75 rfl ?_
    refine pw_ti (z := nI 0) (by rw [if_neg hc]) ?_
    refine pw_if_eq (tgt := 127) dX10_row_76 (by decide) (fun h76 => ?_) (fun h => absurd (by decide) h)
    refine pw_aload_n dX10_row_127 rfl ?_
    refine pw_dup dX10_row_128 rfl ?_
    refine pw_getI fX10_213 dX10_row_129 (sh_lt hG (by decide)) (sh_tg hG 45 rfl) rfl ?_
    refine pw_iconst (v := nI 1) dX10_row_132 (by decide) ?_
    refine pw_isub dX10_row_133 ?_
    refine pw_ti (z := nI T) (by rw [hs.2.2.2.2.2.1.1]; exact nI_pred T) ?_
    refine pw_putI fX10_213 dX10_row_134 (Or.inl rfl) (by decide) (sh_lt hG (by decide)) (sh_tg hG 45 rfl) rfl ?_
    refine pw_vret dX10_row_137 rfl (hQ1 _ _ ?_)
    exact k1 a acc N m _ _ (Option.some.inj hr).symm (hs.tp' (by omega)) (by rw [pm_u_eq, pm_up_ne (by decide)]; exact hre) (hnd.up (fq.put (T := T) (by decide) (by decide)) (Nat.le_refl _) (Nat.le_refl _)) hm (fq.put (by decide) (by decide))
