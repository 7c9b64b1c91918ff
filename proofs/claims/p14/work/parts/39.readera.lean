set_option maxRecDepth 20000 in
set_option maxHeartbeats 4000000 in
theorem t_D {l : Launch} {E : pmE} {S : pmS} {P : pmP} {tx : Nat → Nat} {n cnt : Nat} {pa : List Int64} {f : Nat} (hG : sh_St S) (hP : gr_St P) (hn9 : n ≤ 120) (hb : ∀ j, j < n → tx j < 128) (hD : sD l E S P tx n cnt pa f) : sD l E S P tx n cnt pa (f + 1) := by
  intro d a op k L0 acc I J Q r hs ha hl hk ho hd hr kk
  have hcn := hs.1.2.1
  rw [ps_14] at hr
  refine pw_iload_n dX3_readFact_28 rfl ?_
  refine pw_bipush (v := nI 60) dX3_readFact_29 (by decide) ?_
  refine pw_icmpN_ge _ _ (tgt := 99) dX3_readFact_31 (by decide) (rfl) (rfl) (by omega) (by omega) (fun h31 => ?_) (fun h31 => ?_)
  · exact pw_vret dX3_readFact_99 rfl (by rw [if_neg (fun q => by have h60 := tk_60 (tx := tx) (n := n) (a := a) (by rw [q]; decide) (by rw [q]; decide); omega)] at hr; exact kk.1 a acc _ _ (Option.some.inj hr).symm hs fr8.refl)
  · refine pw_aload_n dX3_readFact_34 rfl ?_
    refine pw_bipush (v := nI 46) dX3_readFact_35 (by decide) ?_
    refine pw_callV (as := [_]) (kc' := 0) (ks' := 0) lX3_66 dX3_readFact_37 rfl rfl (sh_lt hG (by decide)) (sh_tg hG 6 rfl) (Nat.le_of_ble_eq_true rfl) (by omega) (Nat.le_of_ble_eq_true rfl) (Nat.zero_le _) (Nat.zero_le _) ?_
    refine c_X3_isAt hG hP hs.1 hb (by omega) hs.2.2.1 ha (c := 46) (by decide) (fun hq1 => ?_) (fun hq0 => ?_)
    · rw [if_pos hq1] at hr
      have ha60 := tk_60 (tx := tx) (n := n) (a := a) (by rw [hq1]; decide) (by rw [hq1]; decide)
      have hac := tk_cnt hs.1 (a := a) (by rw [hq1]; decide)
      refine pw_if_eq (tgt := 99) dX3_readFact_40 (by decide) (fun h => absurd h (by decide)) (fun h40 => ?_)
      refine pw_aload_n dX3_readFact_43 rfl ?_
      refine pw_getR fX3_24 dX3_readFact_44 (sh_lt hG (by decide)) (sh_tg hG 6 rfl) rfl (gr_at hP 8 rfl) ?_
      refine pw_aload_n dX3_readFact_47 rfl ?_
      refine pw_getI fX3_39 dX3_readFact_48 (sh_lt hG (by decide)) (sh_tg hG 6 rfl) rfl ?_
      refine pw_ti (z := nI a) hs.2.2.1 ?_
      refine pw_callV (as := [_]) (kc' := 0) (ks' := 0) lX3_132 dX3_readFact_51 rfl rfl (sh_lt hG (by decide)) (sh_tg hG 2 rfl) (Nat.le_of_ble_eq_true rfl) (by omega) (Nat.le_of_ble_eq_true rfl) (Nat.zero_le _) (Nat.zero_le _) ?_
      refine c_pl hG hP hs.1 ha ?_
      refine pw_istore_n (lv' := [(3, _), (2, _), (1, _), (0, _)]) dX3_readFact_54 (by decide) rfl ?_
      refine pw_aload_n dX3_readFact_55 rfl ?_
      refine pw_getR fX3_14 dX3_readFact_56 (sh_lt hG (by decide)) (sh_tg hG 6 rfl) rfl (gr_at hP 9 rfl) ?_
      refine pw_iload_n dX3_readFact_59 rfl ?_
      refine pw_iload_n dX3_readFact_60 rfl ?_
      refine pw_callV (as := [_, _]) (kc' := 0) (ks' := 0) lX3_139 dX3_readFact_61 rfl rfl (sh_lt hG (by decide)) (sh_tg hG 7 rfl) (Nat.le_of_ble_eq_true rfl) (by omega) (Nat.le_of_ble_eq_true rfl) (Nat.zero_le _) (Nat.zero_le _) ?_
      refine c_X0_begin hG hP (by omega) hs.2.2.2.2.2 (by omega) rfl 0 0 (fun I2 J2 hc2 hf2 => ?_)
      have hS2 := hs.cd' hc2 hf2
      have hff := fr8.code hf2
      refine pw_aload_n dX3_readFact_64 rfl ?_
      refine pw_dup dX3_readFact_65 rfl ?_
      refine pw_getI fX3_39 dX3_readFact_66 (sh_lt hG (by decide)) (sh_tg hG 6 rfl) rfl ?_
      refine pw_iconst (v := nI 1) dX3_readFact_69 (by decide) ?_
      refine pw_iadd dX3_readFact_70 ?_
      refine pw_ti (z := nI (a + 1)) (by rw [hS2.2.2.1]; exact nI_add (a) 1) ?_
      refine pw_putI fX3_39 dX3_readFact_71 (Or.inl rfl) (by decide) (sh_lt hG (by decide)) (sh_tg hG 6 rfl) rfl ?_
      refine pw_aload_n dX3_readFact_74 rfl ?_
      refine pw_callV (as := []) (kc' := 0) (ks' := 0) lX3_102 dX3_readFact_75 rfl rfl (sh_lt hG (by decide)) (sh_tg hG 6 rfl) (Nat.le_of_ble_eq_true rfl) (by omega) (Nat.le_of_ble_eq_true rfl) (Nat.zero_le _) (Nat.zero_le _) ?_
      have hS3 := hS2.at' (a + 1)
      have hff := hff.trans (fr8.put (k := 6) (x := nI (a + 1)) (by decide) (by decide))
      have hl3 : (L0 ++ (1, tk_p tx n a, 0, 0) :: acc).length ≤ 2 * a + 1 := by simp only [List.length_append, List.length_cons] at hl ⊢; omega
      refine c_X3_readName hG hP (by omega) hb hS3 (by omega) (by omega) (fun hn1 I4 hS4 hf4 => ?_) (fun hn0 I4 v4 hF hf4 => ?_)
      · rw [if_pos hn1] at hr
        have hff := hff.trans hf4
        have han := tk_60 (tx := tx) (n := n) (a := a + 1) (by rw [hn1]; decide) (by rw [hn1]; decide)
        have hanc := tk_cnt hs.1 (a := a + 1) (by rw [hn1]; decide)
        refine pw_lstore (lv' := [(4, _), (3, _), (2, _), (1, _), (0, _)]) dX3_readFact_78 (by decide) rfl ?_
        refine pw_aload_n dX3_readFact_80 rfl ?_
        refine pw_getR fX3_14 dX3_readFact_81 (sh_lt hG (by decide)) (sh_tg hG 6 rfl) rfl (gr_at hP 9 rfl) ?_
        refine pw_bipush (v := nI 9) dX3_readFact_84 (by decide) ?_
        refine pw_iload_n dX3_readFact_86 rfl ?_
        refine pw_iconst (v := nI 0) dX3_readFact_87 (by decide) ?_
        refine pw_lload dX3_readFact_88 rfl ?_
        refine pw_callV (as := [_, _, _, _]) (kc' := 0) (ks' := 0) lX3_157 dX3_readFact_90 rfl rfl (sh_lt hG (by decide)) (sh_tg hG 7 rfl) (Nat.le_of_ble_eq_true rfl) (by omega) (Nat.le_of_ble_eq_true rfl) (Nat.zero_le _) (Nat.zero_le _) ?_
        refine c_X0_addWith hG hP hS4.2.2.2.2.2 (by omega) (x := 9) (c := 0) (fun I5 J5 hc5 hf5 => ?_)
        have hS5 := hS4.cd' hc5 hf5
        have hff := hff.trans (fr8.code hf5)
        refine pw_iinc (lv' := [(2, _), (4, _), (3, _), (1, _), (0, _)]) dX3_readFact_93 rfl (by decide) rfl ?_
        refine pw_goto (tgt := 28) dX3_readFact_96 (by decide) ?_
        refine pw_sub [0, 3, 4] rfl ?_
        rw [show nI k + Int32.ofInt 1 = nI (k + 1) from nI_1 k]
        exact hD d (a + 1 + 1) op (k + 1) L0 ((1, tk_p tx n a, 0, 0) :: (acc ++ [(9, tk_p tx n a, 0, tk_v tx n (a + 1))])) _ _ Q r (by simp only [List.append_assoc, List.cons_append] at hS5 ⊢; exact hS5) (by omega) (by simp only [List.length_append, List.length_cons, List.length_nil] at hl3 ⊢; omega) (by omega) ho hd hr (kk.mv hff)
      · rw [if_neg hn0] at hr
        have hff := hff.trans hf4
        refine pw_lstore (lv' := [(4, _), (3, _), (2, _), (1, _), (0, _)]) dX3_readFact_78 (by decide) rfl ?_
        refine pw_aload_n dX3_readFact_80 rfl ?_
        refine pw_getR fX3_14 dX3_readFact_81 (sh_lt hG (by decide)) (sh_tg hG 6 rfl) rfl (gr_at hP 9 rfl) ?_
        refine pw_bipush (v := nI 9) dX3_readFact_84 (by decide) ?_
        refine pw_iload_n dX3_readFact_86 rfl ?_
        refine pw_iconst (v := nI 0) dX3_readFact_87 (by decide) ?_
        refine pw_lload dX3_readFact_88 rfl ?_
        refine pw_callV (as := [_, _, _, _]) (kc' := 0) (ks' := 0) lX3_157 dX3_readFact_90 rfl rfl (sh_lt hG (by decide)) (sh_tg hG 7 rfl) (Nat.le_of_ble_eq_true rfl) (by omega) (Nat.le_of_ble_eq_true rfl) (Nat.zero_le _) (Nat.zero_le _) ?_
        refine c_X0_addWithF hG hP hF.2.2.2.2 (fun I9 J9 hz9 hc9 => ?_)
        have hF := hF.cd' hz9 hc9
        have hff := hff.trans (fr8.code hc9)
        refine pw_iinc (lv' := [(2, _), (4, _), (3, _), (1, _), (0, _)]) dX3_readFact_93 rfl (by decide) rfl ?_
        refine pw_goto (tgt := 28) dX3_readFact_96 (by decide) ?_
        refine pw_iload_n dX3_readFact_28 rfl ?_
        refine pw_bipush (v := nI 60) dX3_readFact_29 (by decide) ?_
        refine pw_icmp_ge (tgt := 99) dX3_readFact_31 (by decide) (fun h31 => ?_) (fun h31 => ?_)
        · exact pw_vret dX3_readFact_99 rfl (kk.2 (a + 1) _ _ (Option.some.inj hr).symm hF hff)
        · refine pw_aload_n dX3_readFact_34 rfl ?_
          refine pw_bipush (v := nI 46) dX3_readFact_35 (by decide) ?_
          refine pw_callV (as := [_]) (kc' := 0) (ks' := 0) lX3_66 dX3_readFact_37 rfl rfl (sh_lt hG (by decide)) (sh_tg hG 6 rfl) (Nat.le_of_ble_eq_true rfl) (by omega) (Nat.le_of_ble_eq_true rfl) (Nat.zero_le _) (Nat.zero_le _) ?_
          refine c_X3_isAt hG hP hF.1 hb (by omega) hF.2.2.1 (Nat.le_refl _) (c := 46) (by decide) (fun hq1 => absurd ((tk_end0 hF.1).symm.trans hq1) (by decide)) (fun _ => ?_)
          refine pw_if_eq (tgt := 99) dX3_readFact_40 (by decide) (fun h40 => ?_) (fun h => absurd (by decide) h)
          exact pw_vret dX3_readFact_99 rfl (kk.2 (a + 1) _ _ (Option.some.inj hr).symm hF hff)
    · rw [if_neg hq0] at hr
      refine pw_if_eq (tgt := 99) dX3_readFact_40 (by decide) (fun h40 => ?_) (fun h => absurd (by decide) h)
      exact pw_vret dX3_readFact_99 rfl (kk.1 a acc _ _ (Option.some.inj hr).symm hs fr8.refl)
set_option maxRecDepth 20000 in
set_option maxHeartbeats 4000000 in
theorem t_F {l : Launch} {E : pmE} {S : pmS} {P : pmP} {tx : Nat → Nat} {n cnt : Nat} {pa : List Int64} {f : Nat} (hG : sh_St S) (hP : gr_St P) (hn9 : n ≤ 120) (hb : ∀ j, j < n → tx j < 128) (hA : sA l E S P tx n cnt pa f) (hD : sD l E S P tx n cnt pa f) (hF : sF l E S P tx n cnt pa f) : sF l E S P tx n cnt pa (f + 1) := by
  intro d a op L0 I J Q r hs ha hl ho hd hr k
  have hcn := hs.1.2.1
  unfold pm_Met
  refine pm_lvs (lv' := [(0, _)]) rfl ?_
  rw [ps_4] at hr
  refine pw_aload_n dX3_readFact_0 rfl ?_
  refine pw_bipush (v := nI 45) dX3_readFact_1 (by decide) ?_
  refine pw_callV (as := [_]) (kc' := 0) (ks' := 0) lX3_66 dX3_readFact_3 rfl rfl (sh_lt hG (by decide)) (sh_tg hG 6 rfl) (Nat.le_of_ble_eq_true rfl) (by omega) (Nat.le_of_ble_eq_true rfl) (Nat.zero_le _) (Nat.zero_le _) ?_
  refine c_X3_isAt hG hP hs.1 hb (by omega) hs.2.2.1 ha (c := 45) (by decide) (fun hq1 => ?_) (fun hq0 => ?_)
  · rw [if_pos hq1] at hr
    have ha60 := tk_60 (tx := tx) (n := n) (a := a) (by rw [hq1]; decide) (by rw [hq1]; decide)
    have hac := tk_cnt hs.1 (a := a) (by rw [hq1]; decide)
    refine pw_if_eq (tgt := 14) dX3_readFact_6 (by decide) (fun h => absurd h (by decide)) (fun h6 => ?_)
    refine pw_aload_n dX3_readFact_9 rfl ?_
    refine pw_callV (as := []) (kc' := 0) (ks' := 0) lX3_151 dX3_readFact_10 rfl rfl (sh_lt hG (by decide)) (sh_tg hG 6 rfl) (Nat.le_of_ble_eq_true rfl) (by omega) (Nat.le_of_ble_eq_true rfl) (Nat.zero_le _) (Nat.zero_le _) ?_
    unfold pm_Met
    refine pm_lvs (lv' := [(0, _)]) rfl ?_
    refine pw_aload_n dX3_readNegation_0 rfl ?_
    refine pw_getR fX3_24 dX3_readNegation_1 (sh_lt hG (by decide)) (sh_tg hG 6 rfl) rfl (gr_at hP 8 rfl) ?_
    refine pw_aload_n dX3_readNegation_4 rfl ?_
    refine pw_getI fX3_39 dX3_readNegation_5 (sh_lt hG (by decide)) (sh_tg hG 6 rfl) rfl ?_
    refine pw_ti (z := nI a) hs.2.2.1 ?_
    refine pw_callV (as := [_]) (kc' := 0) (ks' := 0) lX3_132 dX3_readNegation_8 rfl rfl (sh_lt hG (by decide)) (sh_tg hG 2 rfl) (Nat.le_of_ble_eq_true rfl) (by omega) (Nat.le_of_ble_eq_true rfl) (Nat.zero_le _) (Nat.zero_le _) ?_
    refine c_pl hG hP hs.1 ha ?_
    refine pw_istore_n (lv' := [(1, _), (0, _)]) dX3_readNegation_11 (by decide) rfl ?_
    refine pw_aload_n dX3_readNegation_12 rfl ?_
    refine pw_callV (as := []) (kc' := 0) (ks' := 0) lX3_135 dX3_readNegation_13 rfl rfl (sh_lt hG (by decide)) (sh_tg hG 6 rfl) (Nat.le_of_ble_eq_true rfl) (by omega) (Nat.le_of_ble_eq_true rfl) (Nat.zero_le _) (Nat.zero_le _) ?_
    refine c_X3_enter hG hP (by omega) hb hs ha (by omega) ho (fun hlt I1 hS1 hf1 => ?_) (fun hge I1 hF' hf1 => ?_)
    · rw [if_neg (by omega)] at hr
      have hff := hf1
      refine pw_if_eq (tgt := 52) dX3_readNegation_16 (by decide) (fun h => absurd h (by decide)) (fun hX3_readNegation_16 => ?_)
      refine pw_aload_n dX3_readNegation_19 rfl ?_
      refine pw_getR fX3_14 dX3_readNegation_20 (sh_lt hG (by decide)) (sh_tg hG 6 rfl) rfl (gr_at hP 9 rfl) ?_
      refine pw_iconst (v := nI 1) dX3_readNegation_23 (by decide) ?_
      refine pw_iload_n dX3_readNegation_24 rfl ?_
      refine pw_callV (as := [_, _]) (kc' := 0) (ks' := 0) lX3_73 dX3_readNegation_25 rfl rfl (sh_lt hG (by decide)) (sh_tg hG 7 rfl) (Nat.le_of_ble_eq_true rfl) (by omega) (Nat.le_of_ble_eq_true rfl) (Nat.zero_le _) (Nat.zero_le _) ?_
      unfold pm_Met
      refine pm_lvs (lv' := [(0, _), (1, _), (2, _)]) rfl ?_
      refine pw_aload_n dX0_add_0 rfl ?_
      refine pw_iload_n dX0_add_1 rfl ?_
      refine pw_iload_n dX0_add_2 rfl ?_
      refine pw_iconst (v := nI 0) dX0_add_3 (by decide) ?_
      refine pw_lconst (v := 0) dX0_add_4 (by decide) ?_
      refine pw_callV (as := [_, _, _, _]) (kc' := 0) (ks' := 0) lX0_32 dX0_add_5 rfl rfl (sh_lt hG (by decide)) (sh_tg hG 7 rfl) (Nat.le_of_ble_eq_true rfl) (by omega) (Nat.le_of_ble_eq_true rfl) (Nat.zero_le _) (Nat.zero_le _) ?_
      refine c_X0_addWith hG hP hS1.2.2.2.2.2 (by omega) (x := 1) (c := 0) (fun I2 J2 hc2 hf2 => ?_)
      have hS2 := hS1.cd' hc2 hf2
      have hff := hff.trans (fr8.code hf2)
      refine pw_vret dX0_add_8 rfl ?_
      refine pw_aload_n dX3_readNegation_28 rfl ?_
      refine pw_callV (as := []) (kc' := 0) (ks' := 0) lX3_145 dX3_readNegation_29 rfl rfl (sh_lt hG (by decide)) (sh_tg hG 6 rfl) (Nat.le_of_ble_eq_true rfl) (by omega) (Nat.le_of_ble_eq_true rfl) (Nat.zero_le _) (Nat.zero_le _) ?_
      have hl2 : (L0 ++ [(1, tk_p tx n a, 0, 0)]).length ≤ 2 * (a + 1) := by simp only [List.length_append, List.length_cons, List.length_nil] at hl ⊢; omega
      rcases pb_so hr with ⟨e, h1, he⟩ | ⟨b, L, h1, hr⟩
      · refine hF _ _ _ _ _ _ _ _ hS2 (by omega) ⟨hl2, by omega⟩ (by omega) (by omega) h1 ⟨(fun b' L' I' J' hh => nomatch hh), fun e' I' J' hh hF' hff9 => ?_⟩
        cases hh
        have hff := hff.trans hff9
        refine pw_aload_n dX3_readNegation_32 rfl ?_
        refine pw_getR fX3_14 dX3_readNegation_33 (sh_lt hG (by decide)) (sh_tg hG 6 rfl) rfl (gr_at hP 9 rfl) ?_
        refine pw_bipush (v := nI 10) dX3_readNegation_36 (by decide) ?_
        refine pw_iload_n dX3_readNegation_38 rfl ?_
        refine pw_callV (as := [_, _]) (kc' := 0) (ks' := 0) lX3_73 dX3_readNegation_39 rfl rfl (sh_lt hG (by decide)) (sh_tg hG 7 rfl) (Nat.le_of_ble_eq_true rfl) (by omega) (Nat.le_of_ble_eq_true rfl) (Nat.zero_le _) (Nat.zero_le _) ?_
        unfold pm_Met
        refine pm_lvs (lv' := [(0, _), (1, _), (2, _)]) rfl ?_
        refine pw_aload_n dX0_add_0 rfl ?_
        refine pw_iload_n dX0_add_1 rfl ?_
        refine pw_iload_n dX0_add_2 rfl ?_
        refine pw_iconst (v := nI 0) dX0_add_3 (by decide) ?_
        refine pw_lconst (v := 0) dX0_add_4 (by decide) ?_
        refine pw_callV (as := [_, _, _, _]) (kc' := 0) (ks' := 0) lX0_32 dX0_add_5 rfl rfl (sh_lt hG (by decide)) (sh_tg hG 7 rfl) (Nat.le_of_ble_eq_true rfl) (by omega) (Nat.le_of_ble_eq_true rfl) (Nat.zero_le _) (Nat.zero_le _) ?_
        refine c_X0_addWithF hG hP hF'.2.2.2.2 (fun I9 J9 hz9 hc9 => ?_)
        have hF' := hF'.cd' hz9 hc9
        have hff := hff.trans (fr8.code hc9)
        refine pw_vret dX0_add_8 rfl ?_
        refine pw_aload_n dX3_readNegation_42 rfl ?_
        refine pw_dup dX3_readNegation_43 rfl ?_
        refine pw_getI fX3_42 dX3_readNegation_44 (sh_lt hG (by decide)) (sh_tg hG 6 rfl) rfl ?_
        refine pw_iconst (v := nI 1) dX3_readNegation_47 (by decide) ?_
        refine pw_isub dX3_readNegation_48 ?_
        refine pw_putI fX3_42 dX3_readNegation_49 (Or.inl rfl) (by decide) (sh_lt hG (by decide)) (sh_tg hG 6 rfl) rfl ?_
        refine pw_vret dX3_readNegation_52 rfl ?_
        exact pw_vret dX3_readFact_13 rfl (k.2 e _ _ he (hF'.op' _) (hff.trans (fr8.put (by decide) (by decide))))
      · have g1 := ps_cnt hS2.1 (by omega) (by omega) h1
        have g1' := g1.2.2 (by omega)
        have g1c := ps_60 (by omega) h1
        refine hF _ _ _ _ _ _ _ _ hS2 (by omega) ⟨hl2, by omega⟩ (by omega) (by omega) h1 ⟨fun b' L' I' J' hh hS3 hff9 => ?_, (fun e' I' J' hh => nomatch hh)⟩
        cases hh
        have hff := hff.trans hff9
        have hl3 : ((L0 ++ [(1, tk_p tx n a, 0, 0)]) ++ L).length < 2 * b := by simp only [List.length_append, List.length_cons, List.length_nil] at hl ⊢; omega
        refine pw_aload_n dX3_readNegation_32 rfl ?_
        refine pw_getR fX3_14 dX3_readNegation_33 (sh_lt hG (by decide)) (sh_tg hG 6 rfl) rfl (gr_at hP 9 rfl) ?_
        refine pw_bipush (v := nI 10) dX3_readNegation_36 (by decide) ?_
        refine pw_iload_n dX3_readNegation_38 rfl ?_
        refine pw_callV (as := [_, _]) (kc' := 0) (ks' := 0) lX3_73 dX3_readNegation_39 rfl rfl (sh_lt hG (by decide)) (sh_tg hG 7 rfl) (Nat.le_of_ble_eq_true rfl) (by omega) (Nat.le_of_ble_eq_true rfl) (Nat.zero_le _) (Nat.zero_le _) ?_
        unfold pm_Met
        refine pm_lvs (lv' := [(0, _), (1, _), (2, _)]) rfl ?_
        refine pw_aload_n dX0_add_0 rfl ?_
        refine pw_iload_n dX0_add_1 rfl ?_
        refine pw_iload_n dX0_add_2 rfl ?_
        refine pw_iconst (v := nI 0) dX0_add_3 (by decide) ?_
        refine pw_lconst (v := 0) dX0_add_4 (by decide) ?_
        refine pw_callV (as := [_, _, _, _]) (kc' := 0) (ks' := 0) lX0_32 dX0_add_5 rfl rfl (sh_lt hG (by decide)) (sh_tg hG 7 rfl) (Nat.le_of_ble_eq_true rfl) (by omega) (Nat.le_of_ble_eq_true rfl) (Nat.zero_le _) (Nat.zero_le _) ?_
        refine c_X0_addWith hG hP hS3.2.2.2.2.2 (by omega) (x := 10) (c := 0) (fun I4 J4 hc4 hf4 => ?_)
        have hS4 := hS3.cd' hc4 hf4
        have hff := hff.trans (fr8.code hf4)
        refine pw_vret dX0_add_8 rfl ?_
        refine pw_aload_n dX3_readNegation_42 rfl ?_
        refine pw_dup dX3_readNegation_43 rfl ?_
        refine pw_getI fX3_42 dX3_readNegation_44 (sh_lt hG (by decide)) (sh_tg hG 6 rfl) rfl ?_
        refine pw_iconst (v := nI 1) dX3_readNegation_47 (by decide) ?_
        refine pw_isub dX3_readNegation_48 ?_
        refine pw_ti (z := nI op) (by rw [hS4.2.2.2.1]; exact nI_pred op) ?_
        refine pw_putI fX3_42 dX3_readNegation_49 (Or.inl rfl) (by decide) (sh_lt hG (by decide)) (sh_tg hG 6 rfl) rfl ?_
        refine pw_vret dX3_readNegation_52 rfl ?_
        exact pw_vret dX3_readFact_13 rfl (k.1 b _ _ _ (Option.some.inj hr).symm (by have h9 := hS4.op' op; simp only [List.append_assoc, List.cons_append, List.nil_append] at h9 ⊢; exact h9) (hff.trans (fr8.put (by decide) (by decide))))
    · rw [if_pos hge] at hr
      refine pw_if_eq (tgt := 52) dX3_readNegation_16 (by decide) (fun hX3_readNegation_16 => ?_) (fun h => absurd (by decide) h)
      refine pw_vret dX3_readNegation_52 rfl ?_
      exact pw_vret dX3_readFact_13 rfl (k.2 a _ _ (Option.some.inj hr).symm hF' hf1)
  · rw [if_neg hq0] at hr
    refine pw_if_eq (tgt := 14) dX3_readFact_6 (by decide) (fun h6 => ?_) (fun h => absurd (by decide) h)
    refine pw_aload_n dX3_readFact_14 rfl ?_
    refine pw_getR fX3_14 dX3_readFact_15 (sh_lt hG (by decide)) (sh_tg hG 6 rfl) rfl (gr_at hP 9 rfl) ?_
    refine pw_callV (as := []) (kc' := 0) (ks' := 0) lX3_122 dX3_readFact_18 rfl rfl (sh_lt hG (by decide)) (sh_tg hG 7 rfl) (Nat.le_of_ble_eq_true rfl) (by omega) (Nat.le_of_ble_eq_true rfl) (Nat.zero_le _) (Nat.zero_le _) ?_
    unfold pm_Met
    refine pm_lvs (lv' := [(0, _)]) rfl ?_
    refine pw_aload_n dX0_size_0 rfl ?_
    refine pw_getI fX0_25 dX0_size_1 (sh_lt hG (by decide)) (sh_tg hG 7 rfl) rfl ?_
    refine pw_iret dX0_size_4 rfl ?_
    refine pw_ti (z := nI L0.length) hs.2.2.2.2.2.1 ?_
    refine pw_istore_n (lv' := [(1, _), (0, _)]) dX3_readFact_21 (by decide) rfl ?_
    refine pw_aload_n dX3_readFact_22 rfl ?_
    refine pw_callV (as := []) (kc' := 0) (ks' := 0) lX3_154 dX3_readFact_23 rfl rfl (sh_lt hG (by decide)) (sh_tg hG 6 rfl) (Nat.le_of_ble_eq_true rfl) (by omega) (Nat.le_of_ble_eq_true rfl) (Nat.zero_le _) (Nat.zero_le _) ?_
    rcases pb_so hr with ⟨e, h1, he⟩ | ⟨b, L, h1, hr⟩
    · refine hA _ _ _ _ _ _ _ _ hs ha hl ho (by omega) h1 ⟨(fun b' L' I' J' hh => nomatch hh), fun e' I' J' hh hF' hff => ?_⟩
      cases hh
      refine pw_iconst (v := nI 0) dX3_readFact_26 (by decide) ?_
      refine pw_istore_n (lv' := [(2, _), (1, _), (0, _)]) dX3_readFact_27 (by decide) rfl ?_
      refine pw_iload_n dX3_readFact_28 rfl ?_
      refine pw_bipush (v := nI 60) dX3_readFact_29 (by decide) ?_
      refine pw_icmp_ge (tgt := 99) dX3_readFact_31 (by decide) (fun h => absurd h (by decide)) (fun h31 => ?_)
      refine pw_aload_n dX3_readFact_34 rfl ?_
      refine pw_bipush (v := nI 46) dX3_readFact_35 (by decide) ?_
      refine pw_callV (as := [_]) (kc' := 0) (ks' := 0) lX3_66 dX3_readFact_37 rfl rfl (sh_lt hG (by decide)) (sh_tg hG 6 rfl) (Nat.le_of_ble_eq_true rfl) (by omega) (Nat.le_of_ble_eq_true rfl) (Nat.zero_le _) (Nat.zero_le _) ?_
      refine c_X3_isAt hG hP hF'.1 hb (by omega) hF'.2.2.1 (Nat.le_refl _) (c := 46) (by decide) (fun hq1 => absurd ((tk_end0 hF'.1).symm.trans hq1) (by decide)) (fun _ => ?_)
      refine pw_if_eq (tgt := 99) dX3_readFact_40 (by decide) (fun h40 => ?_) (fun h => absurd (by decide) h)
      exact pw_vret dX3_readFact_99 rfl (k.2 e _ _ he hF' hff)
    · have g1 := ps_cnt hs.1 (by omega) ha h1
      have g1' := g1.2.2 (by omega)
      have g1c := ps_60 (by omega) h1
      refine hA _ _ _ _ _ _ _ _ hs ha hl ho (by omega) h1 ⟨fun b' L' I' J' hh hS hff => ?_, (fun e' I' J' hh => nomatch hh)⟩
      cases hh
      refine pw_iconst (v := nI 0) dX3_readFact_26 (by decide) ?_
      refine pw_istore_n (lv' := [(2, _), (1, _), (0, _)]) dX3_readFact_27 (by decide) rfl ?_
      refine pw_sub [0, 1, 2] rfl ?_
      exact hD d b op 0 L0 L _ _ Q r hS g1.2.1 (by rw [List.length_append]; omega) (by omega) ho hd hr (k.mv hff)
set_option maxRecDepth 20000 in
set_option maxHeartbeats 4000000 in
theorem t_C {l : Launch} {E : pmE} {S : pmS} {P : pmP} {tx : Nat → Nat} {n cnt : Nat} {pa : List Int64} {f : Nat} (hG : sh_St S) (hP : gr_St P) (hn9 : n ≤ 120) (hb : ∀ j, j < n → tx j < 128) (hf : f = 0 ∨ ∃ g, f = g + 1 ∧ sX l E S P tx n cnt pa g ∧ sC l E S P tx n cnt pa g) : sC l E S P tx n cnt pa f := by
  intro d b op g nm L0 acc I J Q r hs ha hl hg1 hg3 ho hd hr k
  have hcn := hs.1.2.1
  refine pw_iload dX3_readCall_48 rfl ?_
  refine pw_iconst (v := nI 3) dX3_readCall_50 (by decide) ?_
  refine pw_icmpN_ge _ _ (tgt := 83) dX3_readCall_51 (by decide) (rfl) (rfl) (by omega) (by omega) (fun h51 => ?_) (fun h51 => ?_)
  · rw [if_neg (fun q => absurd q.2 (by omega))] at hr
    refine pw_aload_n dX3_readCall_83 rfl ?_
    refine pw_bipush (v := nI 41) dX3_readCall_84 (by decide) ?_
    refine pw_callV (as := [_]) (kc' := 0) (ks' := 0) lX3_106 dX3_readCall_86 rfl rfl (sh_lt hG (by decide)) (sh_tg hG 6 rfl) (Nat.le_of_ble_eq_true rfl) (by omega) (Nat.le_of_ble_eq_true rfl) (Nat.zero_le _) (Nat.zero_le _) ?_
    refine c_X3_expect hG hP (by omega) hb hs ha (by omega) (c := 41) (by decide) (fun hq1 I1 hS1 hf1 => ?_) (fun hq0 I1 hF hf1 => ?_)
    · rw [if_pos hq1] at hr
      have hb60 := tk_60 (tx := tx) (n := n) (a := b) (by rw [hq1]; decide) (by rw [hq1]; decide)
      refine pw_aload_n dX3_readCall_89 rfl ?_
      refine pw_dup dX3_readCall_90 rfl ?_
      refine pw_getI fX3_42 dX3_readCall_91 (sh_lt hG (by decide)) (sh_tg hG 6 rfl) rfl ?_
      refine pw_iconst (v := nI 1) dX3_readCall_94 (by decide) ?_
      refine pw_isub dX3_readCall_95 ?_
      refine pw_ti (z := nI op) (by rw [hS1.2.2.2.1]; exact nI_pred op) ?_
      refine pw_putI fX3_42 dX3_readCall_96 (Or.inl rfl) (by decide) (sh_lt hG (by decide)) (sh_tg hG 6 rfl) rfl ?_
      refine pw_aload_n dX3_readCall_99 rfl ?_
      refine pw_getR fX3_14 dX3_readCall_100 (sh_lt hG (by decide)) (sh_tg hG 6 rfl) rfl (gr_at hP 9 rfl) ?_
      refine pw_iload dX3_readCall_103 rfl ?_
      refine pw_iload dX3_readCall_105 rfl ?_
      refine pw_callV (as := [_, _]) (kc' := 0) (ks' := 0) lX3_171 dX3_readCall_107 rfl rfl (sh_lt hG (by decide)) (sh_tg hG 7 rfl) (Nat.le_of_ble_eq_true rfl) (by omega) (Nat.le_of_ble_eq_true rfl) (Nat.zero_le _) (Nat.zero_le _) ?_
      have hS2 := hS1.op' op
      refine c_X0_setCount hG hP hS2.2.2.2.2.2 (by omega) rfl (fun I3 hc3 hf3 => ?_)
      have hS3 := hS2.cd' hc3 hf3
      have hff := (hf1.trans (fr8.put (k := 7) (x := nI op) (by decide) (by decide))).trans (fr8.code hf3)
      refine pw_aload_n dX3_readCall_110 rfl ?_
      refine pw_getR fX3_14 dX3_readCall_111 (sh_lt hG (by decide)) (sh_tg hG 6 rfl) rfl (gr_at hP 9 rfl) ?_
      refine pw_bipush (v := nI 8) dX3_readCall_114 (by decide) ?_
      refine pw_iload_n dX3_readCall_116 rfl ?_
      refine pw_iload dX3_readCall_117 rfl ?_
      refine pw_lload_n dX3_readCall_119 rfl ?_
      refine pw_callV (as := [_, _, _, _]) (kc' := 0) (ks' := 0) lX3_157 dX3_readCall_120 rfl rfl (sh_lt hG (by decide)) (sh_tg hG 7 rfl) (Nat.le_of_ble_eq_true rfl) (by omega) (Nat.le_of_ble_eq_true rfl) (Nat.zero_le _) (Nat.zero_le _) ?_
      have hl3 : (L0 ++ (6, tk_p tx n nm, nI g, tk_v tx n nm) :: acc).length < 121 := by simp only [List.length_append, List.length_cons, List.length_nil] at hl ⊢; omega
      refine c_X0_addWith hG hP hS3.2.2.2.2.2 hl3 (x := 8) (fun I4 J4 hc4 hf4 => ?_)
      have hS4 := hS3.cd' hc4 hf4
      have hff := hff.trans (fr8.code hf4)
      exact pw_vret dX3_readCall_123 rfl (k.1 (b + 1) _ _ _ (Option.some.inj hr).symm (by simp only [List.append_assoc, List.cons_append] at hS4 ⊢; exact hS4) hff)
    · rw [if_neg hq0] at hr
      have hff := hf1.trans (fr8.put (k := 7) (x := I1 8 7 - nI 1) (by decide) (by decide))
      have hF := hF.op' (I1 8 7 - nI 1)
      have hl9 : L0.length < 2 ^ 31 := by simp only [List.length_append, List.length_cons, List.length_nil] at hl; omega
      refine pw_aload_n dX3_readCall_89 rfl ?_
      refine pw_dup dX3_readCall_90 rfl ?_
      refine pw_getI fX3_42 dX3_readCall_91 (sh_lt hG (by decide)) (sh_tg hG 6 rfl) rfl ?_
      refine pw_iconst (v := nI 1) dX3_readCall_94 (by decide) ?_
      refine pw_isub dX3_readCall_95 ?_
      refine pw_putI fX3_42 dX3_readCall_96 (Or.inl rfl) (by decide) (sh_lt hG (by decide)) (sh_tg hG 6 rfl) rfl ?_
      refine pw_aload_n dX3_readCall_99 rfl ?_
      refine pw_getR fX3_14 dX3_readCall_100 (sh_lt hG (by decide)) (sh_tg hG 6 rfl) rfl (gr_at hP 9 rfl) ?_
      refine pw_iload dX3_readCall_103 rfl ?_
      refine pw_iload dX3_readCall_105 rfl ?_
      refine pw_callV (as := [_, _]) (kc' := 0) (ks' := 0) lX3_171 dX3_readCall_107 rfl rfl (sh_lt hG (by decide)) (sh_tg hG 7 rfl) (Nat.le_of_ble_eq_true rfl) (by omega) (Nat.le_of_ble_eq_true rfl) (Nat.zero_le _) (Nat.zero_le _) ?_
      refine c_X0_setCountF hG hP hF.2.2.2.2 (by omega) (fun I9 hz9 hc9 => ?_)
      have hF := hF.cd' hz9 hc9
      have hff := hff.trans (fr8.code hc9)
      refine pw_aload_n dX3_readCall_110 rfl ?_
      refine pw_getR fX3_14 dX3_readCall_111 (sh_lt hG (by decide)) (sh_tg hG 6 rfl) rfl (gr_at hP 9 rfl) ?_
      refine pw_bipush (v := nI 8) dX3_readCall_114 (by decide) ?_
      refine pw_iload_n dX3_readCall_116 rfl ?_
      refine pw_iload dX3_readCall_117 rfl ?_
      refine pw_lload_n dX3_readCall_119 rfl ?_
      refine pw_callV (as := [_, _, _, _]) (kc' := 0) (ks' := 0) lX3_157 dX3_readCall_120 rfl rfl (sh_lt hG (by decide)) (sh_tg hG 7 rfl) (Nat.le_of_ble_eq_true rfl) (by omega) (Nat.le_of_ble_eq_true rfl) (Nat.zero_le _) (Nat.zero_le _) ?_
      refine c_X0_addWithF hG hP hF.2.2.2.2 (fun I9 J9 hz9 hc9 => ?_)
      have hF := hF.cd' hz9 hc9
      have hff := hff.trans (fr8.code hc9)
      exact pw_vret dX3_readCall_123 rfl (k.2 b _ _ (Option.some.inj hr).symm hF hff)
  · refine pw_aload_n dX3_readCall_54 rfl ?_
    refine pw_bipush (v := nI 44) dX3_readCall_55 (by decide) ?_
    refine pw_callV (as := [_]) (kc' := 0) (ks' := 0) lX3_66 dX3_readCall_57 rfl rfl (sh_lt hG (by decide)) (sh_tg hG 6 rfl) (Nat.le_of_ble_eq_true rfl) (by omega) (Nat.le_of_ble_eq_true rfl) (Nat.zero_le _) (Nat.zero_le _) ?_
    refine c_X3_isAt hG hP hs.1 hb (by omega) hs.2.2.1 ha (c := 44) (by decide) (fun hc1 => ?_) (fun hc0 => ?_)
    · rw [if_pos ⟨hc1, h51⟩] at hr
      have hb60 := tk_60 (tx := tx) (n := n) (a := b) (by rw [hc1]; decide) (by rw [hc1]; decide)
      have hbc := tk_cnt hs.1 (a := b) (by rw [hc1]; decide)
      obtain rfl | ⟨f, rfl, hX, hC⟩ := hf
      · cases hr
      · rw [ps_15, show (4 * nm + g) % 4 = g by omega, show (4 * nm + g) / 4 = nm by omega] at hr
        have hS1 := hs.at' (b + 1)
        have hff : fr8 I (pm_u I 8 6 (nI (b + 1))) J J := (fr8.put (by decide) (by decide))
        refine pw_if_eq (tgt := 83) dX3_readCall_60 (by decide) (fun h => absurd h (by decide)) (fun h60 => ?_)
        refine pw_aload_n dX3_readCall_63 rfl ?_
        refine pw_dup dX3_readCall_64 rfl ?_
        refine pw_getI fX3_39 dX3_readCall_65 (sh_lt hG (by decide)) (sh_tg hG 6 rfl) rfl ?_
        refine pw_iconst (v := nI 1) dX3_readCall_68 (by decide) ?_
        refine pw_iadd dX3_readCall_69 ?_
        refine pw_ti (z := nI (b + 1)) (by rw [hs.2.2.1]; exact nI_add (b) 1) ?_
        refine pw_putI fX3_39 dX3_readCall_70 (Or.inl rfl) (by decide) (sh_lt hG (by decide)) (sh_tg hG 6 rfl) rfl ?_
        refine pw_aload_n dX3_readCall_73 rfl ?_
        refine pw_callV (as := []) (kc' := 0) (ks' := 0) lX3_99 dX3_readCall_74 rfl rfl (sh_lt hG (by decide)) (sh_tg hG 6 rfl) (Nat.le_of_ble_eq_true rfl) (by omega) (Nat.le_of_ble_eq_true rfl) (Nat.zero_le _) (Nat.zero_le _) ?_
        have hl1 : (L0 ++ (6, tk_p tx n nm, 0, tk_v tx n nm) :: acc).length ≤ 2 * (b + 1) := by omega
        rcases pb_so hr with ⟨e, h1, he⟩ | ⟨c, L, h1, hr⟩
        · refine hX _ _ _ _ _ _ _ _ hS1 (by omega) ⟨hl1, by omega⟩ (by omega) (by omega) h1 ⟨(fun b' L' I' J' hh => nomatch hh), fun e' I' J' hh hF hff9 => ?_⟩
          cases hh
          have hff := hff.trans hff9
          have hl9 : L0.length < 2 ^ 31 := by simp only [List.length_append, List.length_cons, List.length_nil] at hl; omega
          refine pw_iinc (lv' := [(5, _), (4, _), (0, _), (1, _), (2, _)]) dX3_readCall_77 rfl (by decide) rfl ?_
          refine pw_goto (tgt := 48) dX3_readCall_80 (by decide) ?_
          refine pw_iload dX3_readCall_48 rfl ?_
          refine pw_iconst (v := nI 3) dX3_readCall_50 (by decide) ?_
          refine pw_icmp_ge (tgt := 83) dX3_readCall_51 (by decide) (fun h51 => ?_) (fun h51 => ?_)
          · refine pw_aload_n dX3_readCall_83 rfl ?_
            refine pw_bipush (v := nI 41) dX3_readCall_84 (by decide) ?_
            refine pw_callV (as := [_]) (kc' := 0) (ks' := 0) lX3_106 dX3_readCall_86 rfl rfl (sh_lt hG (by decide)) (sh_tg hG 6 rfl) (Nat.le_of_ble_eq_true rfl) (by omega) (Nat.le_of_ble_eq_true rfl) (Nat.zero_le _) (Nat.zero_le _) ?_
            refine c_X3_expectF hG hP (by omega) hn9 hb hF (c := 41) (by decide) (by decide) (fun I9 h9 hf9 => ?_)
            have hF := h9
            have hff := hff.trans hf9
            refine pw_aload_n dX3_readCall_89 rfl ?_
            refine pw_dup dX3_readCall_90 rfl ?_
            refine pw_getI fX3_42 dX3_readCall_91 (sh_lt hG (by decide)) (sh_tg hG 6 rfl) rfl ?_
            refine pw_iconst (v := nI 1) dX3_readCall_94 (by decide) ?_
            refine pw_isub dX3_readCall_95 ?_
            refine pw_putI fX3_42 dX3_readCall_96 (Or.inl rfl) (by decide) (sh_lt hG (by decide)) (sh_tg hG 6 rfl) rfl ?_
            refine pw_aload_n dX3_readCall_99 rfl ?_
            refine pw_getR fX3_14 dX3_readCall_100 (sh_lt hG (by decide)) (sh_tg hG 6 rfl) rfl (gr_at hP 9 rfl) ?_
            refine pw_iload dX3_readCall_103 rfl ?_
            refine pw_iload dX3_readCall_105 rfl ?_
            refine pw_callV (as := [_, _]) (kc' := 0) (ks' := 0) lX3_171 dX3_readCall_107 rfl rfl (sh_lt hG (by decide)) (sh_tg hG 7 rfl) (Nat.le_of_ble_eq_true rfl) (by omega) (Nat.le_of_ble_eq_true rfl) (Nat.zero_le _) (Nat.zero_le _) ?_
            have hff := hff.trans (fr8.put (k := 7) (x := I9 8 7 - nI 1) (by decide) (by decide))
            have hF := hF.op' (I9 8 7 - nI 1)
            refine c_X0_setCountF hG hP hF.2.2.2.2 (by omega) (fun I9 hz9 hc9 => ?_)
            have hF := hF.cd' hz9 hc9
            have hff := hff.trans (fr8.code hc9)
            refine pw_aload_n dX3_readCall_110 rfl ?_
            refine pw_getR fX3_14 dX3_readCall_111 (sh_lt hG (by decide)) (sh_tg hG 6 rfl) rfl (gr_at hP 9 rfl) ?_
            refine pw_bipush (v := nI 8) dX3_readCall_114 (by decide) ?_
            refine pw_iload_n dX3_readCall_116 rfl ?_
            refine pw_iload dX3_readCall_117 rfl ?_
            refine pw_lload_n dX3_readCall_119 rfl ?_
            refine pw_callV (as := [_, _, _, _]) (kc' := 0) (ks' := 0) lX3_157 dX3_readCall_120 rfl rfl (sh_lt hG (by decide)) (sh_tg hG 7 rfl) (Nat.le_of_ble_eq_true rfl) (by omega) (Nat.le_of_ble_eq_true rfl) (Nat.zero_le _) (Nat.zero_le _) ?_
            refine c_X0_addWithF hG hP hF.2.2.2.2 (fun I9 J9 hz9 hc9 => ?_)
            have hF := hF.cd' hz9 hc9
            have hff := hff.trans (fr8.code hc9)
            exact pw_vret dX3_readCall_123 rfl (k.2 e _ _ he hF hff)
          · refine pw_aload_n dX3_readCall_54 rfl ?_
            refine pw_bipush (v := nI 44) dX3_readCall_55 (by decide) ?_
            refine pw_callV (as := [_]) (kc' := 0) (ks' := 0) lX3_66 dX3_readCall_57 rfl rfl (sh_lt hG (by decide)) (sh_tg hG 6 rfl) (Nat.le_of_ble_eq_true rfl) (by omega) (Nat.le_of_ble_eq_true rfl) (Nat.zero_le _) (Nat.zero_le _) ?_
            refine c_X3_isAt hG hP hF.1 hb (by omega) hF.2.2.1 (Nat.le_refl _) (c := 44) (by decide) (fun hq1 => absurd ((tk_end0 hF.1).symm.trans hq1) (by decide)) (fun _ => ?_)
            refine pw_if_eq (tgt := 83) dX3_readCall_60 (by decide) (fun h60 => ?_) (fun h => absurd (by decide) h)
            refine pw_aload_n dX3_readCall_83 rfl ?_
            refine pw_bipush (v := nI 41) dX3_readCall_84 (by decide) ?_
            refine pw_callV (as := [_]) (kc' := 0) (ks' := 0) lX3_106 dX3_readCall_86 rfl rfl (sh_lt hG (by decide)) (sh_tg hG 6 rfl) (Nat.le_of_ble_eq_true rfl) (by omega) (Nat.le_of_ble_eq_true rfl) (Nat.zero_le _) (Nat.zero_le _) ?_
            refine c_X3_expectF hG hP (by omega) hn9 hb hF (c := 41) (by decide) (by decide) (fun I9 h9 hf9 => ?_)
            have hF := h9
            have hff := hff.trans hf9
            refine pw_aload_n dX3_readCall_89 rfl ?_
            refine pw_dup dX3_readCall_90 rfl ?_
            refine pw_getI fX3_42 dX3_readCall_91 (sh_lt hG (by decide)) (sh_tg hG 6 rfl) rfl ?_
            refine pw_iconst (v := nI 1) dX3_readCall_94 (by decide) ?_
            refine pw_isub dX3_readCall_95 ?_
            refine pw_putI fX3_42 dX3_readCall_96 (Or.inl rfl) (by decide) (sh_lt hG (by decide)) (sh_tg hG 6 rfl) rfl ?_
            refine pw_aload_n dX3_readCall_99 rfl ?_
            refine pw_getR fX3_14 dX3_readCall_100 (sh_lt hG (by decide)) (sh_tg hG 6 rfl) rfl (gr_at hP 9 rfl) ?_
            refine pw_iload dX3_readCall_103 rfl ?_
            refine pw_iload dX3_readCall_105 rfl ?_
            refine pw_callV (as := [_, _]) (kc' := 0) (ks' := 0) lX3_171 dX3_readCall_107 rfl rfl (sh_lt hG (by decide)) (sh_tg hG 7 rfl) (Nat.le_of_ble_eq_true rfl) (by omega) (Nat.le_of_ble_eq_true rfl) (Nat.zero_le _) (Nat.zero_le _) ?_
            have hff := hff.trans (fr8.put (k := 7) (x := I9 8 7 - nI 1) (by decide) (by decide))
            have hF := hF.op' (I9 8 7 - nI 1)
            refine c_X0_setCountF hG hP hF.2.2.2.2 (by omega) (fun I9 hz9 hc9 => ?_)
            have hF := hF.cd' hz9 hc9
            have hff := hff.trans (fr8.code hc9)
            refine pw_aload_n dX3_readCall_110 rfl ?_
            refine pw_getR fX3_14 dX3_readCall_111 (sh_lt hG (by decide)) (sh_tg hG 6 rfl) rfl (gr_at hP 9 rfl) ?_
            refine pw_bipush (v := nI 8) dX3_readCall_114 (by decide) ?_
            refine pw_iload_n dX3_readCall_116 rfl ?_
            refine pw_iload dX3_readCall_117 rfl ?_
            refine pw_lload_n dX3_readCall_119 rfl ?_
            refine pw_callV (as := [_, _, _, _]) (kc' := 0) (ks' := 0) lX3_157 dX3_readCall_120 rfl rfl (sh_lt hG (by decide)) (sh_tg hG 7 rfl) (Nat.le_of_ble_eq_true rfl) (by omega) (Nat.le_of_ble_eq_true rfl) (Nat.zero_le _) (Nat.zero_le _) ?_
            refine c_X0_addWithF hG hP hF.2.2.2.2 (fun I9 J9 hz9 hc9 => ?_)
            have hF := hF.cd' hz9 hc9
            have hff := hff.trans (fr8.code hc9)
            exact pw_vret dX3_readCall_123 rfl (k.2 e _ _ he hF hff)
        · have g1 := ps_cnt hS1.1 (by omega) (by omega) h1
          have g1' := g1.2.2 (by omega)
          have g1c := ps_60 (by omega) h1
          refine hX _ _ _ _ _ _ _ _ hS1 (by omega) ⟨hl1, by omega⟩ (by omega) (by omega) h1 ⟨fun b' L' I' J' hh hS2 hff9 => ?_, (fun e' I' J' hh => nomatch hh)⟩
          cases hh
          have hff := hff.trans hff9
          refine pw_iinc (lv' := [(5, _), (4, _), (0, _), (1, _), (2, _)]) dX3_readCall_77 rfl (by decide) rfl ?_
          refine pw_goto (tgt := 48) dX3_readCall_80 (by decide) ?_
          refine pw_sub [0, 1, 2, 3, 4] rfl ?_
          rw [show nI g + Int32.ofInt 1 = nI (g + 1) from nI_1 g]
          exact hC d c op (g + 1) nm L0 (acc ++ L) _ _ Q r (by simp only [List.append_assoc, List.cons_append] at hS2 ⊢; exact hS2) g1.2.1 (by simp only [List.length_append, List.length_cons] at hl ⊢; omega) (by omega) (by omega) ho hd hr (k.mv hff)
    · refine pw_if_eq (tgt := 83) dX3_readCall_60 (by decide) (fun _ => ?_) (fun h => absurd rfl h)
      rw [if_neg (fun q => hc0 q.1)] at hr
      refine pw_aload_n dX3_readCall_83 rfl ?_
      refine pw_bipush (v := nI 41) dX3_readCall_84 (by decide) ?_
      refine pw_callV (as := [_]) (kc' := 0) (ks' := 0) lX3_106 dX3_readCall_86 rfl rfl (sh_lt hG (by decide)) (sh_tg hG 6 rfl) (Nat.le_of_ble_eq_true rfl) (by omega) (Nat.le_of_ble_eq_true rfl) (Nat.zero_le _) (Nat.zero_le _) ?_
      refine c_X3_expect hG hP (by omega) hb hs ha (by omega) (c := 41) (by decide) (fun hq1 I1 hS1 hf1 => ?_) (fun hq0 I1 hF hf1 => ?_)
      · rw [if_pos hq1] at hr
        have hb60 := tk_60 (tx := tx) (n := n) (a := b) (by rw [hq1]; decide) (by rw [hq1]; decide)
        refine pw_aload_n dX3_readCall_89 rfl ?_
        refine pw_dup dX3_readCall_90 rfl ?_
        refine pw_getI fX3_42 dX3_readCall_91 (sh_lt hG (by decide)) (sh_tg hG 6 rfl) rfl ?_
        refine pw_iconst (v := nI 1) dX3_readCall_94 (by decide) ?_
        refine pw_isub dX3_readCall_95 ?_
        refine pw_ti (z := nI op) (by rw [hS1.2.2.2.1]; exact nI_pred op) ?_
        refine pw_putI fX3_42 dX3_readCall_96 (Or.inl rfl) (by decide) (sh_lt hG (by decide)) (sh_tg hG 6 rfl) rfl ?_
        refine pw_aload_n dX3_readCall_99 rfl ?_
        refine pw_getR fX3_14 dX3_readCall_100 (sh_lt hG (by decide)) (sh_tg hG 6 rfl) rfl (gr_at hP 9 rfl) ?_
        refine pw_iload dX3_readCall_103 rfl ?_
        refine pw_iload dX3_readCall_105 rfl ?_
        refine pw_callV (as := [_, _]) (kc' := 0) (ks' := 0) lX3_171 dX3_readCall_107 rfl rfl (sh_lt hG (by decide)) (sh_tg hG 7 rfl) (Nat.le_of_ble_eq_true rfl) (by omega) (Nat.le_of_ble_eq_true rfl) (Nat.zero_le _) (Nat.zero_le _) ?_
        have hS2 := hS1.op' op
        refine c_X0_setCount hG hP hS2.2.2.2.2.2 (by omega) rfl (fun I3 hc3 hf3 => ?_)
        have hS3 := hS2.cd' hc3 hf3
        have hff := (hf1.trans (fr8.put (k := 7) (x := nI op) (by decide) (by decide))).trans (fr8.code hf3)
        refine pw_aload_n dX3_readCall_110 rfl ?_
        refine pw_getR fX3_14 dX3_readCall_111 (sh_lt hG (by decide)) (sh_tg hG 6 rfl) rfl (gr_at hP 9 rfl) ?_
        refine pw_bipush (v := nI 8) dX3_readCall_114 (by decide) ?_
        refine pw_iload_n dX3_readCall_116 rfl ?_
        refine pw_iload dX3_readCall_117 rfl ?_
        refine pw_lload_n dX3_readCall_119 rfl ?_
        refine pw_callV (as := [_, _, _, _]) (kc' := 0) (ks' := 0) lX3_157 dX3_readCall_120 rfl rfl (sh_lt hG (by decide)) (sh_tg hG 7 rfl) (Nat.le_of_ble_eq_true rfl) (by omega) (Nat.le_of_ble_eq_true rfl) (Nat.zero_le _) (Nat.zero_le _) ?_
        have hl3 : (L0 ++ (6, tk_p tx n nm, nI g, tk_v tx n nm) :: acc).length < 121 := by simp only [List.length_append, List.length_cons, List.length_nil] at hl ⊢; omega
        refine c_X0_addWith hG hP hS3.2.2.2.2.2 hl3 (x := 8) (fun I4 J4 hc4 hf4 => ?_)
        have hS4 := hS3.cd' hc4 hf4
        have hff := hff.trans (fr8.code hf4)
        exact pw_vret dX3_readCall_123 rfl (k.1 (b + 1) _ _ _ (Option.some.inj hr).symm (by simp only [List.append_assoc, List.cons_append] at hS4 ⊢; exact hS4) hff)
      · rw [if_neg hq0] at hr
        have hff := hf1.trans (fr8.put (k := 7) (x := I1 8 7 - nI 1) (by decide) (by decide))
        have hF := hF.op' (I1 8 7 - nI 1)
        have hl9 : L0.length < 2 ^ 31 := by simp only [List.length_append, List.length_cons, List.length_nil] at hl; omega
        refine pw_aload_n dX3_readCall_89 rfl ?_
        refine pw_dup dX3_readCall_90 rfl ?_
        refine pw_getI fX3_42 dX3_readCall_91 (sh_lt hG (by decide)) (sh_tg hG 6 rfl) rfl ?_
        refine pw_iconst (v := nI 1) dX3_readCall_94 (by decide) ?_
        refine pw_isub dX3_readCall_95 ?_
        refine pw_putI fX3_42 dX3_readCall_96 (Or.inl rfl) (by decide) (sh_lt hG (by decide)) (sh_tg hG 6 rfl) rfl ?_
        refine pw_aload_n dX3_readCall_99 rfl ?_
        refine pw_getR fX3_14 dX3_readCall_100 (sh_lt hG (by decide)) (sh_tg hG 6 rfl) rfl (gr_at hP 9 rfl) ?_
        refine pw_iload dX3_readCall_103 rfl ?_
        refine pw_iload dX3_readCall_105 rfl ?_
        refine pw_callV (as := [_, _]) (kc' := 0) (ks' := 0) lX3_171 dX3_readCall_107 rfl rfl (sh_lt hG (by decide)) (sh_tg hG 7 rfl) (Nat.le_of_ble_eq_true rfl) (by omega) (Nat.le_of_ble_eq_true rfl) (Nat.zero_le _) (Nat.zero_le _) ?_
        refine c_X0_setCountF hG hP hF.2.2.2.2 (by omega) (fun I9 hz9 hc9 => ?_)
        have hF := hF.cd' hz9 hc9
        have hff := hff.trans (fr8.code hc9)
        refine pw_aload_n dX3_readCall_110 rfl ?_
        refine pw_getR fX3_14 dX3_readCall_111 (sh_lt hG (by decide)) (sh_tg hG 6 rfl) rfl (gr_at hP 9 rfl) ?_
        refine pw_bipush (v := nI 8) dX3_readCall_114 (by decide) ?_
        refine pw_iload_n dX3_readCall_116 rfl ?_
        refine pw_iload dX3_readCall_117 rfl ?_
        refine pw_lload_n dX3_readCall_119 rfl ?_
        refine pw_callV (as := [_, _, _, _]) (kc' := 0) (ks' := 0) lX3_157 dX3_readCall_120 rfl rfl (sh_lt hG (by decide)) (sh_tg hG 7 rfl) (Nat.le_of_ble_eq_true rfl) (by omega) (Nat.le_of_ble_eq_true rfl) (Nat.zero_le _) (Nat.zero_le _) ?_
        refine c_X0_addWithF hG hP hF.2.2.2.2 (fun I9 J9 hz9 hc9 => ?_)
        have hF := hF.cd' hz9 hc9
        have hff := hff.trans (fr8.code hc9)
        exact pw_vret dX3_readCall_123 rfl (k.2 b _ _ (Option.some.inj hr).symm hF hff)
theorem lk_dflt : ∀ k, k < 128 → k ≠ 36 → k ≠ 40 → k ≠ 48 → k ≠ 97 → Op.lookupswitch.offset [(36, 65), (40, 109), (48, 41), (97, 90)] 116 ((k : Nat) : Int) = 116 := by
  decide
set_option maxRecDepth 20000 in
set_option maxHeartbeats 4000000 in
theorem t_A {l : Launch} {E : pmE} {S : pmS} {P : pmP} {tx : Nat → Nat} {n cnt : Nat} {pa : List Int64} {f : Nat} (hG : sh_St S) (hP : gr_St P) (hn9 : n ≤ 120) (hb : ∀ j, j < n → tx j < 128) (hX : sX l E S P tx n cnt pa f) (hf : f = 0 ∨ ∃ g, f = g + 1 ∧ sX l E S P tx n cnt pa g ∧ sC l E S P tx n cnt pa g) : sA l E S P tx n cnt pa (f + 1) := by
  intro d a op L0 I J Q r hs ha hl ho hd hr k
  have hcn := hs.1.2.1
  have hkc := (tk_k_c (tx := tx) (n := n) (i := a) hb).1
  unfold pm_Met
  refine pm_lvs (lv' := [(0, _)]) rfl ?_
  rw [ps_5] at hr
  refine pw_aload_n dX3_readAtom_0 rfl ?_
  refine pw_getR fX3_24 dX3_readAtom_1 (sh_lt hG (by decide)) (sh_tg hG 6 rfl) rfl (gr_at hP 8 rfl) ?_
  refine pw_aload_n dX3_readAtom_4 rfl ?_
  refine pw_getI fX3_39 dX3_readAtom_5 (sh_lt hG (by decide)) (sh_tg hG 6 rfl) rfl ?_
  refine pw_ti (z := nI a) hs.2.2.1 ?_
  refine pw_callV (as := [_]) (kc' := 0) (ks' := 0) lX3_132 dX3_readAtom_8 rfl rfl (sh_lt hG (by decide)) (sh_tg hG 2 rfl) (Nat.le_of_ble_eq_true rfl) (by omega) (Nat.le_of_ble_eq_true rfl) (Nat.zero_le _) (Nat.zero_le _) ?_
  refine c_pl hG hP hs.1 ha ?_
  refine pw_istore_n (lv' := [(1, _), (0, _)]) dX3_readAtom_11 (by decide) rfl ?_
  refine pw_aload_n dX3_readAtom_12 rfl ?_
  refine pw_getR fX3_24 dX3_readAtom_13 (sh_lt hG (by decide)) (sh_tg hG 6 rfl) rfl (gr_at hP 8 rfl) ?_
  refine pw_aload_n dX3_readAtom_16 rfl ?_
  refine pw_getI fX3_39 dX3_readAtom_17 (sh_lt hG (by decide)) (sh_tg hG 6 rfl) rfl ?_
  refine pw_ti (z := nI a) hs.2.2.1 ?_
  refine pw_callV (as := [_]) (kc' := 0) (ks' := 0) lX3_115 dX3_readAtom_20 rfl rfl (sh_lt hG (by decide)) (sh_tg hG 2 rfl) (Nat.le_of_ble_eq_true rfl) (by omega) (Nat.le_of_ble_eq_true rfl) (Nat.zero_le _) (Nat.zero_le _) ?_
  refine c_co hG hP hs.1 ha ?_
  refine pw_lstore_n (lv' := [(2, _), (1, _), (0, _)]) dX3_readAtom_23 (by decide) rfl ?_
  refine pw_aload_n dX3_readAtom_24 rfl ?_
  refine pw_getR fX3_24 dX3_readAtom_25 (sh_lt hG (by decide)) (sh_tg hG 6 rfl) rfl (gr_at hP 8 rfl) ?_
  refine pw_aload_n dX3_readAtom_28 rfl ?_
  refine pw_getI fX3_39 dX3_readAtom_29 (sh_lt hG (by decide)) (sh_tg hG 6 rfl) rfl ?_
  refine pw_ti (z := nI a) hs.2.2.1 ?_
  refine pw_callV (as := [_]) (kc' := 0) (ks' := 0) lX3_48 dX3_readAtom_32 rfl rfl (sh_lt hG (by decide)) (sh_tg hG 2 rfl) (Nat.le_of_ble_eq_true rfl) (by omega) (Nat.le_of_ble_eq_true rfl) (Nat.zero_le _) (Nat.zero_le _) ?_
  refine c_kd hG hP hs.1 ha ?_
  by_cases h48 : tk_k tx n a = 48
  · rw [if_pos h48] at hr
    have ha60 := tk_60 (tx := tx) (n := n) (a := a) (by rw [h48]; decide) (by rw [h48]; decide)
    have hac := tk_cnt hs.1 (a := a) (by rw [h48]; decide)
    refine pw_ti (z := nI 48) (by rw [h48]) ?_
    refine pw_lookup (off := 41) (tgt := 76) dX3_readAtom_35 (by decide) (by decide) (by decide) ?_
    refine pw_aload_n dX3_readAtom_76 rfl ?_
    refine pw_getR fX3_14 dX3_readAtom_77 (sh_lt hG (by decide)) (sh_tg hG 6 rfl) rfl (gr_at hP 9 rfl) ?_
    refine pw_iconst (v := nI 2) dX3_readAtom_80 (by decide) ?_
    refine pw_iload_n dX3_readAtom_81 rfl ?_
    refine pw_iconst (v := nI 0) dX3_readAtom_82 (by decide) ?_
    refine pw_lload_n dX3_readAtom_83 rfl ?_
    refine pw_callV (as := [_, _, _, _]) (kc' := 0) (ks' := 0) lX3_157 dX3_readAtom_84 rfl rfl (sh_lt hG (by decide)) (sh_tg hG 7 rfl) (Nat.le_of_ble_eq_true rfl) (by omega) (Nat.le_of_ble_eq_true rfl) (Nat.zero_le _) (Nat.zero_le _) ?_
    refine c_X0_addWith hG hP hs.2.2.2.2.2 (by omega) (x := 2) (c := 0) (fun I2 J2 hc2 hf2 => ?_)
    have hS2 := hs.cd' hc2 hf2
    have hff := fr8.code hf2
    refine pw_aload_n dX3_readAtom_87 rfl ?_
    refine pw_dup dX3_readAtom_88 rfl ?_
    refine pw_getI fX3_39 dX3_readAtom_89 (sh_lt hG (by decide)) (sh_tg hG 6 rfl) rfl ?_
    refine pw_iconst (v := nI 1) dX3_readAtom_92 (by decide) ?_
    refine pw_iadd dX3_readAtom_93 ?_
    refine pw_ti (z := nI (a + 1)) (by rw [hS2.2.2.1]; exact nI_add (a) 1) ?_
    refine pw_putI fX3_39 dX3_readAtom_94 (Or.inl rfl) (by decide) (sh_lt hG (by decide)) (sh_tg hG 6 rfl) rfl ?_
    refine pw_goto (tgt := 155) dX3_readAtom_97 (by decide) ?_
    exact pw_vret dX3_readAtom_155 rfl (k.1 (a + 1) _ _ _ (Option.some.inj hr).symm (hS2.at' (a + 1)) (hff.trans (fr8.put (by decide) (by decide))))
  · rw [if_neg h48] at hr
    by_cases h36 : tk_k tx n a = 36
    · rw [if_pos h36] at hr
      have ha60 := tk_60 (tx := tx) (n := n) (a := a) (by rw [h36]; decide) (by rw [h36]; decide)
      have hac := tk_cnt hs.1 (a := a) (by rw [h36]; decide)
      refine pw_ti (z := nI 36) (by rw [h36]) ?_
      refine pw_lookup (off := 65) (tgt := 100) dX3_readAtom_35 (by decide) (by decide) (by decide) ?_
      refine pw_aload_n dX3_readAtom_100 rfl ?_
      refine pw_getR fX3_14 dX3_readAtom_101 (sh_lt hG (by decide)) (sh_tg hG 6 rfl) rfl (gr_at hP 9 rfl) ?_
      refine pw_iconst (v := nI 3) dX3_readAtom_104 (by decide) ?_
      refine pw_iload_n dX3_readAtom_105 rfl ?_
      refine pw_lload_n dX3_readAtom_106 rfl ?_
      refine pw_l2i dX3_readAtom_107 ?_
      refine pw_lconst (v := 0) dX3_readAtom_108 (by decide) ?_
      refine pw_callV (as := [_, _, _, _]) (kc' := 0) (ks' := 0) lX3_157 dX3_readAtom_109 rfl rfl (sh_lt hG (by decide)) (sh_tg hG 7 rfl) (Nat.le_of_ble_eq_true rfl) (by omega) (Nat.le_of_ble_eq_true rfl) (Nat.zero_le _) (Nat.zero_le _) ?_
      refine c_X0_addWith hG hP hs.2.2.2.2.2 (by omega) (x := 3) (c := _) (fun I2 J2 hc2 hf2 => ?_)
      have hS2 := hs.cd' hc2 hf2
      have hff := fr8.code hf2
      refine pw_aload_n dX3_readAtom_112 rfl ?_
      refine pw_dup dX3_readAtom_113 rfl ?_
      refine pw_getI fX3_39 dX3_readAtom_114 (sh_lt hG (by decide)) (sh_tg hG 6 rfl) rfl ?_
      refine pw_iconst (v := nI 1) dX3_readAtom_117 (by decide) ?_
      refine pw_iadd dX3_readAtom_118 ?_
      refine pw_ti (z := nI (a + 1)) (by rw [hS2.2.2.1]; exact nI_add (a) 1) ?_
      refine pw_putI fX3_39 dX3_readAtom_119 (Or.inl rfl) (by decide) (sh_lt hG (by decide)) (sh_tg hG 6 rfl) rfl ?_
      refine pw_goto (tgt := 155) dX3_readAtom_122 (by decide) ?_
      exact pw_vret dX3_readAtom_155 rfl (k.1 (a + 1) _ _ _ (Option.some.inj hr).symm (hS2.at' (a + 1)) (hff.trans (fr8.put (by decide) (by decide))))
    · rw [if_neg h36] at hr
      by_cases h97 : tk_k tx n a = 97
      · rw [if_pos h97] at hr
        have ha60 := tk_60 (tx := tx) (n := n) (a := a) (by rw [h97]; decide) (by rw [h97]; decide)
        have hac := tk_cnt hs.1 (a := a) (by rw [h97]; decide)
        refine pw_ti (z := nI 97) (by rw [h97]) ?_
        have hS1 := hs.at' (a + 1)
        have hf1 : fr8 I (pm_u I 8 6 (nI (a + 1))) J J := (fr8.put (by decide) (by decide))
        refine pw_lookup (off := 90) (tgt := 125) dX3_readAtom_35 (by decide) (by decide) (by decide) ?_
        refine pw_aload_n dX3_readAtom_125 rfl ?_
        refine pw_dup dX3_readAtom_126 rfl ?_
        refine pw_getI fX3_39 dX3_readAtom_127 (sh_lt hG (by decide)) (sh_tg hG 6 rfl) rfl ?_
        refine pw_iconst (v := nI 1) dX3_readAtom_130 (by decide) ?_
        refine pw_iadd dX3_readAtom_131 ?_
        refine pw_ti (z := nI (a + 1)) (by rw [hs.2.2.1]; exact nI_add (a) 1) ?_
        refine pw_putI fX3_39 dX3_readAtom_132 (Or.inl rfl) (by decide) (sh_lt hG (by decide)) (sh_tg hG 6 rfl) rfl ?_
        refine pw_aload_n dX3_readAtom_135 rfl ?_
        refine pw_iload_n dX3_readAtom_136 rfl ?_
        refine pw_lload_n dX3_readAtom_137 rfl ?_
        refine pw_callV (as := [_, _]) (kc' := 0) (ks' := 0) lX3_161 dX3_readAtom_138 rfl rfl (sh_lt hG (by decide)) (sh_tg hG 6 rfl) (Nat.le_of_ble_eq_true rfl) (by omega) (Nat.le_of_ble_eq_true rfl) (Nat.zero_le _) (Nat.zero_le _) ?_
        unfold pm_Met
        refine pm_lvs (lv' := [(0, _), (1, _), (2, _)]) rfl ?_
        refine pw_aload_n dX3_readNamed_0 rfl ?_
        refine pw_lload_n dX3_readNamed_1 rfl ?_
        refine pw_callV (as := [_]) (kc' := 0) (ks' := 0) lX3_119 dX3_readNamed_2 rfl rfl (sh_lt hG (by decide)) (sh_tg hG 6 rfl) (Nat.le_of_ble_eq_true rfl) (by omega) (Nat.le_of_ble_eq_true rfl) (Nat.zero_le _) (Nat.zero_le _) ?_
        refine c_X3_partOf hG hP hS1.2.1 ?_
        refine pw_istore (lv' := [(4, _), (0, _), (1, _), (2, _)]) dX3_readNamed_5 (by decide) rfl ?_
        refine pw_aload_n dX3_readNamed_7 rfl ?_
        refine pw_bipush (v := nI 40) dX3_readNamed_8 (by decide) ?_
        refine pw_callV (as := [_]) (kc' := 0) (ks' := 0) lX3_66 dX3_readNamed_10 rfl rfl (sh_lt hG (by decide)) (sh_tg hG 6 rfl) (Nat.le_of_ble_eq_true rfl) (by omega) (Nat.le_of_ble_eq_true rfl) (Nat.zero_le _) (Nat.zero_le _) ?_
        refine c_X3_isAt hG hP hS1.1 hb (by omega) hS1.2.2.1 (by omega) (c := 40) (by decide) (fun hc1 => ?_) (fun hc0 => ?_)
        · rw [if_pos hc1] at hr
          have ha61 := tk_60 (tx := tx) (n := n) (a := a + 1) (by rw [hc1]; decide) (by rw [hc1]; decide)
          have hac1 := tk_cnt hs.1 (a := a + 1) (by rw [hc1]; decide)
          refine pw_if_eq (tgt := 25) dX3_readNamed_13 (by decide) (fun h => absurd h (by decide)) (fun hX3_readNamed_13 => ?_)
          refine pw_aload_n dX3_readNamed_16 rfl ?_
          refine pw_iload_n dX3_readNamed_17 rfl ?_
          refine pw_lload_n dX3_readNamed_18 rfl ?_
          refine pw_callV (as := [_, _]) (kc' := 0) (ks' := 0) lX3_168 dX3_readNamed_19 rfl rfl (sh_lt hG (by decide)) (sh_tg hG 6 rfl) (Nat.le_of_ble_eq_true rfl) (by omega) (Nat.le_of_ble_eq_true rfl) (Nat.zero_le _) (Nat.zero_le _) ?_
          unfold pm_Met
          refine pm_lvs (lv' := [(0, _), (1, _), (2, _)]) rfl ?_
          refine pw_aload_n dX3_readCall_0 rfl ?_
          refine pw_callV (as := []) (kc' := 0) (ks' := 0) lX3_135 dX3_readCall_1 rfl rfl (sh_lt hG (by decide)) (sh_tg hG 6 rfl) (Nat.le_of_ble_eq_true rfl) (by omega) (Nat.le_of_ble_eq_true rfl) (Nat.zero_le _) (Nat.zero_le _) ?_
          refine c_X3_enter hG hP (by omega) hb hS1 (by omega) (by omega) ho (fun hlt I2 hS2 hf2 => ?_) (fun hge I2 hF hf2 => ?_)
          · rw [if_neg (by omega)] at hr
            have hff := hf1.trans hf2
            refine pw_if_ne (tgt := 8) dX3_readCall_4 (by decide) (fun hX3_readCall_4 => ?_) (fun h => absurd h (by decide))
            refine pw_aload_n dX3_readCall_8 rfl ?_
            refine pw_getR fX3_14 dX3_readCall_9 (sh_lt hG (by decide)) (sh_tg hG 6 rfl) rfl (gr_at hP 9 rfl) ?_
            refine pw_callV (as := []) (kc' := 0) (ks' := 0) lX3_122 dX3_readCall_12 rfl rfl (sh_lt hG (by decide)) (sh_tg hG 7 rfl) (Nat.le_of_ble_eq_true rfl) (by omega) (Nat.le_of_ble_eq_true rfl) (Nat.zero_le _) (Nat.zero_le _) ?_
            unfold pm_Met
            refine pm_lvs (lv' := [(0, _)]) rfl ?_
            refine pw_aload_n dX0_size_0 rfl ?_
            refine pw_getI fX0_25 dX0_size_1 (sh_lt hG (by decide)) (sh_tg hG 7 rfl) rfl ?_
            refine pw_iret dX0_size_4 rfl ?_
            refine pw_ti (z := nI L0.length) hS2.2.2.2.2.2.1 ?_
            refine pw_istore (lv' := [(4, _), (0, _), (1, _), (2, _)]) dX3_readCall_15 (by decide) rfl ?_
            refine pw_iconst (v := nI 0) dX3_readCall_17 (by decide) ?_
            refine pw_istore (lv' := [(5, _), (4, _), (0, _), (1, _), (2, _)]) dX3_readCall_18 (by decide) rfl ?_
            refine pw_aload_n dX3_readCall_20 rfl ?_
            refine pw_getR fX3_14 dX3_readCall_21 (sh_lt hG (by decide)) (sh_tg hG 6 rfl) rfl (gr_at hP 9 rfl) ?_
            refine pw_bipush (v := nI 6) dX3_readCall_24 (by decide) ?_
            refine pw_iload_n dX3_readCall_26 rfl ?_
            refine pw_iconst (v := nI 0) dX3_readCall_27 (by decide) ?_
            refine pw_lload_n dX3_readCall_28 rfl ?_
            refine pw_callV (as := [_, _, _, _]) (kc' := 0) (ks' := 0) lX3_157 dX3_readCall_29 rfl rfl (sh_lt hG (by decide)) (sh_tg hG 7 rfl) (Nat.le_of_ble_eq_true rfl) (by omega) (Nat.le_of_ble_eq_true rfl) (Nat.zero_le _) (Nat.zero_le _) ?_
            refine c_X0_addWith hG hP hS2.2.2.2.2.2 (by omega) (x := 6) (c := 0) (fun I3 J3 hc3 hf3 => ?_)
            have hS3 := hS2.cd' hc3 hf3
            have hff := hff.trans (fr8.code hf3)
            have hl3 : (L0 ++ [(6, tk_p tx n a, 0, tk_v tx n a)]).length ≤ 2 * a + 1 := by simp only [List.length_append, List.length_cons, List.length_nil] at hl ⊢; omega
            refine pw_aload_n dX3_readCall_32 rfl ?_
            refine pw_bipush (v := nI 41) dX3_readCall_33 (by decide) ?_
            refine pw_callV (as := [_]) (kc' := 0) (ks' := 0) lX3_66 dX3_readCall_35 rfl rfl (sh_lt hG (by decide)) (sh_tg hG 6 rfl) (Nat.le_of_ble_eq_true rfl) (by omega) (Nat.le_of_ble_eq_true rfl) (Nat.zero_le _) (Nat.zero_le _) ?_
            refine c_X3_isAt hG hP hS3.1 hb (by omega) hS3.2.2.1 (by omega) (c := 41) (by decide) (fun hq1 => ?_) (fun hq0 => ?_)
            · rw [if_pos hq1] at hr
              have ha62 := tk_60 (tx := tx) (n := n) (a := a + 2) (by rw [hq1]; decide) (by rw [hq1]; decide)
              refine pw_if_ne (tgt := 83) dX3_readCall_38 (by decide) (fun hX3_readCall_38 => ?_) (fun h => absurd h (by decide))
              refine pw_aload_n dX3_readCall_83 rfl ?_
              refine pw_bipush (v := nI 41) dX3_readCall_84 (by decide) ?_
              refine pw_callV (as := [_]) (kc' := 0) (ks' := 0) lX3_106 dX3_readCall_86 rfl rfl (sh_lt hG (by decide)) (sh_tg hG 6 rfl) (Nat.le_of_ble_eq_true rfl) (by omega) (Nat.le_of_ble_eq_true rfl) (Nat.zero_le _) (Nat.zero_le _) ?_
              refine c_X3_expect hG hP (by omega) hb hS3 (by omega) (by omega) (c := 41) (by decide) (fun _ I4 hS4 hf4 => ?_) (fun hq0 => absurd hq1 hq0)
              refine pw_aload_n dX3_readCall_89 rfl ?_
              refine pw_dup dX3_readCall_90 rfl ?_
              refine pw_getI fX3_42 dX3_readCall_91 (sh_lt hG (by decide)) (sh_tg hG 6 rfl) rfl ?_
              refine pw_iconst (v := nI 1) dX3_readCall_94 (by decide) ?_
              refine pw_isub dX3_readCall_95 ?_
              refine pw_ti (z := nI op) (by rw [hS4.2.2.2.1]; exact nI_pred op) ?_
              refine pw_putI fX3_42 dX3_readCall_96 (Or.inl rfl) (by decide) (sh_lt hG (by decide)) (sh_tg hG 6 rfl) rfl ?_
              refine pw_aload_n dX3_readCall_99 rfl ?_
              refine pw_getR fX3_14 dX3_readCall_100 (sh_lt hG (by decide)) (sh_tg hG 6 rfl) rfl (gr_at hP 9 rfl) ?_
              refine pw_iload dX3_readCall_103 rfl ?_
              refine pw_iload dX3_readCall_105 rfl ?_
              refine pw_callV (as := [_, _]) (kc' := 0) (ks' := 0) lX3_171 dX3_readCall_107 rfl rfl (sh_lt hG (by decide)) (sh_tg hG 7 rfl) (Nat.le_of_ble_eq_true rfl) (by omega) (Nat.le_of_ble_eq_true rfl) (Nat.zero_le _) (Nat.zero_le _) ?_
              have hS5 := hS4.op' op
              have hff := (hff.trans hf4).trans (fr8.put (k := 7) (x := nI op) (by decide) (by decide))
              refine c_X0_setCount (B := []) hG hP hS5.2.2.2.2.2 (by omega) rfl (fun I6 hc6 hf6 => ?_)
              have hS6 := hS5.cd' hc6 hf6
              have hff := hff.trans (fr8.code hf6)
              refine pw_aload_n dX3_readCall_110 rfl ?_
              refine pw_getR fX3_14 dX3_readCall_111 (sh_lt hG (by decide)) (sh_tg hG 6 rfl) rfl (gr_at hP 9 rfl) ?_
              refine pw_bipush (v := nI 8) dX3_readCall_114 (by decide) ?_
              refine pw_iload_n dX3_readCall_116 rfl ?_
              refine pw_iload dX3_readCall_117 rfl ?_
              refine pw_lload_n dX3_readCall_119 rfl ?_
              refine pw_callV (as := [_, _, _, _]) (kc' := 0) (ks' := 0) lX3_157 dX3_readCall_120 rfl rfl (sh_lt hG (by decide)) (sh_tg hG 7 rfl) (Nat.le_of_ble_eq_true rfl) (by omega) (Nat.le_of_ble_eq_true rfl) (Nat.zero_le _) (Nat.zero_le _) ?_
              have hl6 : (L0 ++ [(6, tk_p tx n a, nI 0, tk_v tx n a)]).length < 121 := by simp only [List.length_append, List.length_cons, List.length_nil] at hl3 ⊢; omega
              refine c_X0_addWith hG hP hS6.2.2.2.2.2 hl6 (x := 8) (fun I7 J7 hc7 hf7 => ?_)
              have hS7 := hS6.cd' hc7 hf7
              have hff := hff.trans (fr8.code hf7)
              refine pw_vret dX3_readCall_123 rfl ?_
              refine pw_goto (tgt := 56) dX3_readNamed_22 (by decide) ?_
              refine pw_vret dX3_readNamed_56 rfl ?_
              refine pw_goto (tgt := 155) dX3_readAtom_141 (by decide) ?_
              exact pw_vret dX3_readAtom_155 rfl (k.1 (a + 3) _ _ _ (Option.some.inj hr).symm (by simp only [List.append_assoc, List.cons_append, List.nil_append] at hS7 ⊢; exact hS7) hff)
            · rw [if_neg hq0] at hr
              obtain rfl | ⟨f, rfl, hX', hC⟩ := hf
              · cases hr
              · rw [ps_15, show 4 * a % 4 = 0 by omega, show 4 * a / 4 = a by omega] at hr
                refine pw_if_ne (tgt := 83) dX3_readCall_38 (by decide) (fun h => absurd (by decide) h) (fun hX3_readCall_38 => ?_)
                refine pw_aload_n dX3_readCall_41 rfl ?_
                refine pw_callV (as := []) (kc' := 0) (ks' := 0) lX3_99 dX3_readCall_42 rfl rfl (sh_lt hG (by decide)) (sh_tg hG 6 rfl) (Nat.le_of_ble_eq_true rfl) (by omega) (Nat.le_of_ble_eq_true rfl) (Nat.zero_le _) (Nat.zero_le _) ?_
                rcases pb_so hr with ⟨e, h1, he⟩ | ⟨c, L, h1, hr⟩
                · refine hX' _ _ _ _ _ _ _ _ hS3 (by omega) (by omega) (by omega) (by omega) h1 ⟨(fun b' L' I' J' hh => nomatch hh), fun e' I' J' hh hF hff9 => ?_⟩
                  cases hh
                  have hff := hff.trans hff9
                  have hl9 : L0.length < 2 ^ 31 := by omega
                  refine pw_iconst (v := nI 1) dX3_readCall_45 (by decide) ?_
                  refine pw_istore (lv' := [(5, _), (4, _), (0, _), (1, _), (2, _)]) dX3_readCall_46 (by decide) rfl ?_
                  refine pw_iload dX3_readCall_48 rfl ?_
                  refine pw_iconst (v := nI 3) dX3_readCall_50 (by decide) ?_
                  refine pw_icmp_ge (tgt := 83) dX3_readCall_51 (by decide) (fun h => absurd h (by decide)) (fun hX3_readCall_51 => ?_)
                  refine pw_aload_n dX3_readCall_54 rfl ?_
                  refine pw_bipush (v := nI 44) dX3_readCall_55 (by decide) ?_
                  refine pw_callV (as := [_]) (kc' := 0) (ks' := 0) lX3_66 dX3_readCall_57 rfl rfl (sh_lt hG (by decide)) (sh_tg hG 6 rfl) (Nat.le_of_ble_eq_true rfl) (by omega) (Nat.le_of_ble_eq_true rfl) (Nat.zero_le _) (Nat.zero_le _) ?_
                  refine c_X3_isAt hG hP hF.1 hb (by omega) hF.2.2.1 (Nat.le_refl _) (c := 44) (by decide) (fun hq1 => absurd ((tk_end0 hF.1).symm.trans hq1) (by decide)) (fun _ => ?_)
                  refine pw_if_eq (tgt := 83) dX3_readCall_60 (by decide) (fun hX3_readCall_60 => ?_) (fun h => absurd (by decide) h)
                  refine pw_aload_n dX3_readCall_83 rfl ?_
                  refine pw_bipush (v := nI 41) dX3_readCall_84 (by decide) ?_
                  refine pw_callV (as := [_]) (kc' := 0) (ks' := 0) lX3_106 dX3_readCall_86 rfl rfl (sh_lt hG (by decide)) (sh_tg hG 6 rfl) (Nat.le_of_ble_eq_true rfl) (by omega) (Nat.le_of_ble_eq_true rfl) (Nat.zero_le _) (Nat.zero_le _) ?_
                  refine c_X3_expectF hG hP (by omega) hn9 hb hF (c := 41) (by decide) (by decide) (fun I9 h9 hf9 => ?_)
                  have hF := h9
                  have hff := hff.trans hf9
                  refine pw_aload_n dX3_readCall_89 rfl ?_
                  refine pw_dup dX3_readCall_90 rfl ?_
                  refine pw_getI fX3_42 dX3_readCall_91 (sh_lt hG (by decide)) (sh_tg hG 6 rfl) rfl ?_
                  refine pw_iconst (v := nI 1) dX3_readCall_94 (by decide) ?_
                  refine pw_isub dX3_readCall_95 ?_
                  refine pw_putI fX3_42 dX3_readCall_96 (Or.inl rfl) (by decide) (sh_lt hG (by decide)) (sh_tg hG 6 rfl) rfl ?_
                  refine pw_aload_n dX3_readCall_99 rfl ?_
                  refine pw_getR fX3_14 dX3_readCall_100 (sh_lt hG (by decide)) (sh_tg hG 6 rfl) rfl (gr_at hP 9 rfl) ?_
                  refine pw_iload dX3_readCall_103 rfl ?_
                  refine pw_iload dX3_readCall_105 rfl ?_
                  refine pw_callV (as := [_, _]) (kc' := 0) (ks' := 0) lX3_171 dX3_readCall_107 rfl rfl (sh_lt hG (by decide)) (sh_tg hG 7 rfl) (Nat.le_of_ble_eq_true rfl) (by omega) (Nat.le_of_ble_eq_true rfl) (Nat.zero_le _) (Nat.zero_le _) ?_
                  have hff := hff.trans (fr8.put (k := 7) (x := I9 8 7 - nI 1) (by decide) (by decide))
                  have hF := hF.op' (I9 8 7 - nI 1)
                  refine c_X0_setCountF hG hP hF.2.2.2.2 (by omega) (fun I9 hz9 hc9 => ?_)
                  have hF := hF.cd' hz9 hc9
                  have hff := hff.trans (fr8.code hc9)
                  refine pw_aload_n dX3_readCall_110 rfl ?_
                  refine pw_getR fX3_14 dX3_readCall_111 (sh_lt hG (by decide)) (sh_tg hG 6 rfl) rfl (gr_at hP 9 rfl) ?_
                  refine pw_bipush (v := nI 8) dX3_readCall_114 (by decide) ?_
                  refine pw_iload_n dX3_readCall_116 rfl ?_
                  refine pw_iload dX3_readCall_117 rfl ?_
                  refine pw_lload_n dX3_readCall_119 rfl ?_
                  refine pw_callV (as := [_, _, _, _]) (kc' := 0) (ks' := 0) lX3_157 dX3_readCall_120 rfl rfl (sh_lt hG (by decide)) (sh_tg hG 7 rfl) (Nat.le_of_ble_eq_true rfl) (by omega) (Nat.le_of_ble_eq_true rfl) (Nat.zero_le _) (Nat.zero_le _) ?_
                  refine c_X0_addWithF hG hP hF.2.2.2.2 (fun I9 J9 hz9 hc9 => ?_)
                  have hF := hF.cd' hz9 hc9
                  have hff := hff.trans (fr8.code hc9)
                  refine pw_vret dX3_readCall_123 rfl ?_
                  refine pw_goto (tgt := 56) dX3_readNamed_22 (by decide) ?_
                  refine pw_vret dX3_readNamed_56 rfl ?_
                  refine pw_goto (tgt := 155) dX3_readAtom_141 (by decide) ?_
                  exact pw_vret dX3_readAtom_155 rfl (k.2 e _ _ he hF hff)
                · have g1 := ps_cnt hS3.1 (by omega) (by omega) h1
                  have g1' := g1.2.2 (by omega)
                  have g1c := ps_60 (by omega) h1
                  refine hX' _ _ _ _ _ _ _ _ hS3 (by omega) (by omega) (by omega) (by omega) h1 ⟨fun b' L' I' J' hh hS4 hff9 => ?_, (fun e' I' J' hh => nomatch hh)⟩
                  cases hh
                  have hff := hff.trans hff9
                  refine pw_iconst (v := nI 1) dX3_readCall_45 (by decide) ?_
                  refine pw_istore (lv' := [(5, _), (4, _), (0, _), (1, _), (2, _)]) dX3_readCall_46 (by decide) rfl ?_
                  refine pw_sub [0, 1, 2, 3, 4] rfl ?_
                  refine hC _ c op 1 a L0 L _ _ _ r (by simp only [List.append_assoc, List.cons_append, List.nil_append] at hS4 ⊢; exact hS4) g1.2.1 (by simp only [List.length_append, List.length_cons, List.length_nil] at hl3 ⊢; omega) (by omega) (by omega) (by omega) (by omega) hr ⟨fun b' L' I2' J2' hh hS5 hff9 => ?_, fun e' I2' J2' hh hF hff9 => ?_⟩
                  · refine pw_goto (tgt := 56) dX3_readNamed_22 (by decide) ?_
                    refine pw_vret dX3_readNamed_56 rfl ?_
                    refine pw_goto (tgt := 155) dX3_readAtom_141 (by decide) ?_
                    exact pw_vret dX3_readAtom_155 rfl (k.1 _ _ _ _ hh hS5 (hff.trans hff9))
                  · refine pw_goto (tgt := 56) dX3_readNamed_22 (by decide) ?_
                    refine pw_vret dX3_readNamed_56 rfl ?_
                    refine pw_goto (tgt := 155) dX3_readAtom_141 (by decide) ?_
                    exact pw_vret dX3_readAtom_155 rfl (k.2 _ _ _ hh hF (hff.trans hff9))
          · rw [if_pos hge] at hr
            refine pw_if_ne (tgt := 8) dX3_readCall_4 (by decide) (fun h => absurd (by decide) h) (fun hX3_readCall_4 => ?_)
            refine pw_vret dX3_readCall_7 rfl ?_
            refine pw_goto (tgt := 56) dX3_readNamed_22 (by decide) ?_
            refine pw_vret dX3_readNamed_56 rfl ?_
            refine pw_goto (tgt := 155) dX3_readAtom_141 (by decide) ?_
            exact pw_vret dX3_readAtom_155 rfl (k.2 (a + 1) _ _ (Option.some.inj hr).symm hF (hf1.trans hf2))
        · rw [if_neg hc0] at hr
          rcases hpa : ps_arg pa (tk_v tx n a) 0 with _ | i
          · refine pw_if_eq (tgt := 25) dX3_readNamed_13 (by decide) (fun hX3_readNamed_13 => ?_) (fun h => absurd (by decide) h)
            refine pw_iload dX3_readNamed_25 rfl ?_
            refine pw_ti (z := -5) rfl ?_
            refine pw_if_lt (tgt := 45) dX3_readNamed_27 (by decide) (fun hX3_readNamed_27 => ?_) (fun h => absurd (by decide) h)
            refine pw_aload_n dX3_readNamed_45 rfl ?_
            refine pw_getR fX3_14 dX3_readNamed_46 (sh_lt hG (by decide)) (sh_tg hG 6 rfl) rfl (gr_at hP 9 rfl) ?_
            refine pw_iconst (v := nI 5) dX3_readNamed_49 (by decide) ?_
            refine pw_iload_n dX3_readNamed_50 rfl ?_
            refine pw_iconst (v := nI 0) dX3_readNamed_51 (by decide) ?_
            refine pw_lload_n dX3_readNamed_52 rfl ?_
            refine pw_callV (as := [_, _, _, _]) (kc' := 0) (ks' := 0) lX3_157 dX3_readNamed_53 rfl rfl (sh_lt hG (by decide)) (sh_tg hG 7 rfl) (Nat.le_of_ble_eq_true rfl) (by omega) (Nat.le_of_ble_eq_true rfl) (Nat.zero_le _) (Nat.zero_le _) ?_
            refine c_X0_addWith hG hP hS1.2.2.2.2.2 (by omega) (x := 5) (c := 0) (fun I2 J2 hc2 hf2 => ?_)
            have hS2 := hS1.cd' hc2 hf2
            have hff := hf1.trans (fr8.code hf2)
            refine pw_vret dX3_readNamed_56 rfl ?_
            refine pw_goto (tgt := 155) dX3_readAtom_141 (by decide) ?_
            exact pw_vret dX3_readAtom_155 rfl (k.1 (a + 1) _ _ _ (by rw [hpa] at hr; exact (Option.some.inj hr).symm) hS2 hff)
          · have hi := ps_arg_s _ _ hpa
            have hi3 := hS1.2.1.2.1
            refine pw_if_eq (tgt := 25) dX3_readNamed_13 (by decide) (fun hX3_readNamed_13 => ?_) (fun h => absurd (by decide) h)
            refine pw_iload dX3_readNamed_25 rfl ?_
            refine pw_ti (z := nI i) rfl ?_
            refine pw_if_lt (tgt := 45) dX3_readNamed_27 (by decide) (fun h => absurd h (nI_pos (by omega))) (fun hX3_readNamed_27 => ?_)
            refine pw_aload_n dX3_readNamed_30 rfl ?_
            refine pw_getR fX3_14 dX3_readNamed_31 (sh_lt hG (by decide)) (sh_tg hG 6 rfl) rfl (gr_at hP 9 rfl) ?_
            refine pw_iconst (v := nI 4) dX3_readNamed_34 (by decide) ?_
            refine pw_iload_n dX3_readNamed_35 rfl ?_
            refine pw_iload dX3_readNamed_36 rfl ?_
            refine pw_ti (z := nI i) rfl ?_
            refine pw_lconst (v := 0) dX3_readNamed_38 (by decide) ?_
            refine pw_callV (as := [_, _, _, _]) (kc' := 0) (ks' := 0) lX3_157 dX3_readNamed_39 rfl rfl (sh_lt hG (by decide)) (sh_tg hG 7 rfl) (Nat.le_of_ble_eq_true rfl) (by omega) (Nat.le_of_ble_eq_true rfl) (Nat.zero_le _) (Nat.zero_le _) ?_
            refine c_X0_addWith hG hP hS1.2.2.2.2.2 (by omega) (x := 4) (c := nI i) (fun I2 J2 hc2 hf2 => ?_)
            have hS2 := hS1.cd' hc2 hf2
            have hff := hf1.trans (fr8.code hf2)
            refine pw_goto (tgt := 56) dX3_readNamed_42 (by decide) ?_
            refine pw_vret dX3_readNamed_56 rfl ?_
            refine pw_goto (tgt := 155) dX3_readAtom_141 (by decide) ?_
            exact pw_vret dX3_readAtom_155 rfl (k.1 (a + 1) _ _ _ (by rw [hpa] at hr; exact (Option.some.inj hr).symm) hS2 hff)
      · rw [if_neg h97] at hr
        by_cases h40 : tk_k tx n a = 40
        · rw [if_pos h40] at hr
          have ha60 := tk_60 (tx := tx) (n := n) (a := a) (by rw [h40]; decide) (by rw [h40]; decide)
          have hac := tk_cnt hs.1 (a := a) (by rw [h40]; decide)
          refine pw_ti (z := nI 40) (by rw [h40]) ?_
          refine pw_lookup (off := 109) (tgt := 144) dX3_readAtom_35 (by decide) (by decide) (by decide) ?_
          refine pw_aload_n dX3_readAtom_144 rfl ?_
          refine pw_callV (as := []) (kc' := 0) (ks' := 0) lX3_165 dX3_readAtom_145 rfl rfl (sh_lt hG (by decide)) (sh_tg hG 6 rfl) (Nat.le_of_ble_eq_true rfl) (by omega) (Nat.le_of_ble_eq_true rfl) (Nat.zero_le _) (Nat.zero_le _) ?_
          unfold pm_Met
          refine pm_lvs (lv' := [(0, _)]) rfl ?_
          refine pw_aload_n dX3_readInner_0 rfl ?_
          refine pw_callV (as := []) (kc' := 0) (ks' := 0) lX3_135 dX3_readInner_1 rfl rfl (sh_lt hG (by decide)) (sh_tg hG 6 rfl) (Nat.le_of_ble_eq_true rfl) (by omega) (Nat.le_of_ble_eq_true rfl) (Nat.zero_le _) (Nat.zero_le _) ?_
          refine c_X3_enter hG hP (by omega) hb hs ha (by omega) ho (fun hlt I1 hS1 hf1 => ?_) (fun hge I1 hF hf1 => ?_)
          · rw [if_neg (by omega)] at hr
            have hff := hf1
            refine pw_if_eq (tgt := 27) dX3_readInner_4 (by decide) (fun h => absurd h (by decide)) (fun hX3_readInner_4 => ?_)
            refine pw_aload_n dX3_readInner_7 rfl ?_
            refine pw_callV (as := []) (kc' := 0) (ks' := 0) lX3_99 dX3_readInner_8 rfl rfl (sh_lt hG (by decide)) (sh_tg hG 6 rfl) (Nat.le_of_ble_eq_true rfl) (by omega) (Nat.le_of_ble_eq_true rfl) (Nat.zero_le _) (Nat.zero_le _) ?_
            rcases pb_so hr with ⟨e, h1, he⟩ | ⟨b, L, h1, hr⟩
            · refine hX _ _ _ _ _ _ _ _ hS1 (by omega) (by omega) (by omega) (by omega) h1 ⟨(fun b' L' I' J' hh => nomatch hh), fun e' I' J' hh hF hff9 => ?_⟩
              cases hh
              have hff := hff.trans hff9
              refine pw_aload_n dX3_readInner_11 rfl ?_
              refine pw_bipush (v := nI 41) dX3_readInner_12 (by decide) ?_
              refine pw_callV (as := [_]) (kc' := 0) (ks' := 0) lX3_106 dX3_readInner_14 rfl rfl (sh_lt hG (by decide)) (sh_tg hG 6 rfl) (Nat.le_of_ble_eq_true rfl) (by omega) (Nat.le_of_ble_eq_true rfl) (Nat.zero_le _) (Nat.zero_le _) ?_
              refine c_X3_expectF hG hP (by omega) hn9 hb hF (c := 41) (by decide) (by decide) (fun I9 h9 hf9 => ?_)
              have hF := h9
              have hff := hff.trans hf9
              refine pw_aload_n dX3_readInner_17 rfl ?_
              refine pw_dup dX3_readInner_18 rfl ?_
              refine pw_getI fX3_42 dX3_readInner_19 (sh_lt hG (by decide)) (sh_tg hG 6 rfl) rfl ?_
              refine pw_iconst (v := nI 1) dX3_readInner_22 (by decide) ?_
              refine pw_isub dX3_readInner_23 ?_
              refine pw_putI fX3_42 dX3_readInner_24 (Or.inl rfl) (by decide) (sh_lt hG (by decide)) (sh_tg hG 6 rfl) rfl ?_
              refine pw_vret dX3_readInner_27 rfl ?_
              refine pw_goto (tgt := 155) dX3_readAtom_148 (by decide) ?_
              exact pw_vret dX3_readAtom_155 rfl (k.2 e _ _ he (hF.op' _) (hff.trans (fr8.put (by decide) (by decide))))
            · have g1 := ps_cnt hS1.1 (by omega) (by omega) h1
              have g1' := g1.2.2 (by omega)
              have g1c := ps_60 (by omega) h1
              refine hX _ _ _ _ _ _ _ _ hS1 (by omega) (by omega) (by omega) (by omega) h1 ⟨fun b' L' I' J' hh hS2 hff9 => ?_, (fun e' I' J' hh => nomatch hh)⟩
              cases hh
              have hff := hff.trans hff9
              have hl2 : (L0 ++ L).length ≤ 2 * b := by rw [List.length_append]; omega
              refine pw_aload_n dX3_readInner_11 rfl ?_
              refine pw_bipush (v := nI 41) dX3_readInner_12 (by decide) ?_
              refine pw_callV (as := [_]) (kc' := 0) (ks' := 0) lX3_106 dX3_readInner_14 rfl rfl (sh_lt hG (by decide)) (sh_tg hG 6 rfl) (Nat.le_of_ble_eq_true rfl) (by omega) (Nat.le_of_ble_eq_true rfl) (Nat.zero_le _) (Nat.zero_le _) ?_
              refine c_X3_expect hG hP (by omega) hb hS2 g1.2.1 (by omega) (c := 41) (by decide) (fun hq2 I3 hS3 hf3 => ?_) (fun hq2 I3 hF hf3 => ?_)
              · rw [if_pos hq2] at hr
                refine pw_aload_n dX3_readInner_17 rfl ?_
                refine pw_dup dX3_readInner_18 rfl ?_
                refine pw_getI fX3_42 dX3_readInner_19 (sh_lt hG (by decide)) (sh_tg hG 6 rfl) rfl ?_
                refine pw_iconst (v := nI 1) dX3_readInner_22 (by decide) ?_
                refine pw_isub dX3_readInner_23 ?_
                refine pw_ti (z := nI op) (by rw [hS3.2.2.2.1]; exact nI_pred op) ?_
                refine pw_putI fX3_42 dX3_readInner_24 (Or.inl rfl) (by decide) (sh_lt hG (by decide)) (sh_tg hG 6 rfl) rfl ?_
                refine pw_vret dX3_readInner_27 rfl ?_
                refine pw_goto (tgt := 155) dX3_readAtom_148 (by decide) ?_
                exact pw_vret dX3_readAtom_155 rfl (k.1 (b + 1) L _ _ (Option.some.inj hr).symm (hS3.op' op) ((hff.trans hf3).trans (fr8.put (by decide) (by decide))))
              · rw [if_neg hq2] at hr
                refine pw_aload_n dX3_readInner_17 rfl ?_
                refine pw_dup dX3_readInner_18 rfl ?_
                refine pw_getI fX3_42 dX3_readInner_19 (sh_lt hG (by decide)) (sh_tg hG 6 rfl) rfl ?_
                refine pw_iconst (v := nI 1) dX3_readInner_22 (by decide) ?_
                refine pw_isub dX3_readInner_23 ?_
                refine pw_putI fX3_42 dX3_readInner_24 (Or.inl rfl) (by decide) (sh_lt hG (by decide)) (sh_tg hG 6 rfl) rfl ?_
                refine pw_vret dX3_readInner_27 rfl ?_
                refine pw_goto (tgt := 155) dX3_readAtom_148 (by decide) ?_
                exact pw_vret dX3_readAtom_155 rfl (k.2 b _ _ (Option.some.inj hr).symm (hF.op' _) ((hff.trans hf3).trans (fr8.put (by decide) (by decide))))
          · rw [if_pos hge] at hr
            refine pw_if_eq (tgt := 27) dX3_readInner_4 (by decide) (fun hX3_readInner_4 => ?_) (fun h => absurd (by decide) h)
            refine pw_vret dX3_readInner_27 rfl ?_
            refine pw_goto (tgt := 155) dX3_readAtom_148 (by decide) ?_
            exact pw_vret dX3_readAtom_155 rfl (k.2 a _ _ (Option.some.inj hr).symm hF hf1)
        · rw [if_neg h40] at hr
          refine pw_lookup (off := 116) (tgt := 151) dX3_readAtom_35 (by decide) (by rw [nI_toInt (by omega)]; exact lk_dflt _ hkc h36 h40 h48 h97) (by decide) ?_
          refine pw_aload_n dX3_readAtom_151 rfl ?_
          refine pw_callV (as := []) (kc' := 0) (ks' := 0) lX3_70 dX3_readAtom_152 rfl rfl (sh_lt hG (by decide)) (sh_tg hG 6 rfl) (Nat.le_of_ble_eq_true rfl) (by omega) (Nat.le_of_ble_eq_true rfl) (Nat.zero_le _) (Nat.zero_le _) ?_
          refine c_X3_refuse hG hP (by omega) hb hs ha (by omega) (fun I' hF hf => ?_)
          exact pw_vret dX3_readAtom_155 rfl (k.2 a _ _ (Option.some.inj hr).symm hF hf)
theorem rd_all {l : Launch} {E : pmE} {S : pmS} {P : pmP} {tx : Nat → Nat} {n cnt : Nat} {pa : List Int64} (hG : sh_St S) (hP : gr_St P) (hn9 : n ≤ 120) (hb : ∀ j, j < n → tx j < 128) : ∀ f : Nat, (sX l E S P tx n cnt pa f ∧ (∀ lv, lv ≤ 3 → sL l E S P tx n cnt pa f lv) ∧ sF l E S P tx n cnt pa f ∧ sA l E S P tx n cnt pa f ∧ (∀ lv, lv ≤ 2 → sO l E S P tx n cnt pa f lv) ∧ sD l E S P tx n cnt pa f ∧ sC l E S P tx n cnt pa f) ∧ (f = 0 ∨ ∃ g, f = g + 1 ∧ sX l E S P tx n cnt pa g ∧ sC l E S P tx n cnt pa g) := by
  intro f
  induction f with
  | zero =>
    refine ⟨⟨?_, fun lv _ => ?_, ?_, ?_, fun lv _ => ?_, ?_, t_C hG hP hn9 hb (Or.inl rfl)⟩, Or.inl rfl⟩
    · intro d a op L0 I J Q r hs ha hl ho hd hr; cases hr
    · intro d a op L0 I J Q r hs ha hl ho hd hr; cases hr
    · intro d a op L0 I J Q r hs ha hl ho hd hr; cases hr
    · intro d a op L0 I J Q r hs ha hl ho hd hr; cases hr
    · intro d a op k L0 acc I J Q r hs ha hl hk ho hd hr; cases hr
    · intro d a op k L0 acc I J Q r hs ha hl hk ho hd hr; cases hr
  | succ f ih =>
    obtain ⟨⟨hX, hL, hF, hA, hO, hD, hC⟩, hf⟩ := ih
    have hf' : f + 1 = 0 ∨ ∃ g, f + 1 = g + 1 ∧ sX l E S P tx n cnt pa g ∧ sC l E S P tx n cnt pa g := Or.inr ⟨f, rfl, hX, hC⟩
    have nF := t_F hG hP hn9 hb hA hD hF
    refine ⟨⟨t_X hG hP hn9 hb (hL 0 (by omega)) hX, fun lv hlv => ?_, nF, t_A hG hP hn9 hb hX hf, fun lv hlv => ?_, t_D hG hP hn9 hb hD, t_C hG hP hn9 hb hf'⟩, hf'⟩
    · rcases (show lv = 0 ∨ lv = 1 ∨ lv = 2 ∨ lv = 3 by omega) with rfl | rfl | rfl | rfl
      · exact t_L0 hG hP hn9 hb (hL 1 (by omega)) (hO 0 (by omega))
      · exact t_L1 hG hP hn9 hb (hL 2 (by omega)) (hO 1 (by omega))
      · exact t_L2 hG hP hn9 hb (hL 3 (by omega)) (hO 2 (by omega))
      · exact t_L3 hG hP nF
    · rcases (show lv = 0 ∨ lv = 1 ∨ lv = 2 by omega) with rfl | rfl | rfl
      · exact t_O0 hG hP hn9 hb (hL 1 (by omega)) (hO 0 (by omega))
      · exact t_O1 hG hP hn9 hb (hL 2 (by omega)) (hO 1 (by omega))
      · exact t_O2 hG hP hn9 hb (hL 3 (by omega)) (hO 2 (by omega))
