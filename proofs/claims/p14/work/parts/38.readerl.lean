set_option maxRecDepth 20000 in
set_option maxHeartbeats 4000000 in
theorem c_X3_levelOf {l : Launch} {E : pmE} {d : Nat} {S : pmS} {I : pmI} {J : pmJ} {P : pmP} {Q : Option Value → pmS → pmI → pmJ → pmP → Prop} {k lv : Nat} (hk : k < 128) (hlv : lv ≤ 2) (kk : ∀ z : Int32, (lvl k = lv → z = nI lv) → (¬ lvl k = lv → ¬ z = nI lv) → Q (some (.int z)) S I J P) : pm_Met l E yX3_levelOf cX3_levelOf 1 (some .int) d 0 0 [.int (nI k)] S I J P Q := by
  unfold pm_Met
  refine pm_lvs (lv' := [(0, _)]) rfl ?_
  have h3 : lv = 0 ∨ lv = 1 ∨ lv = 2 := by omega
  rcases (show k < 37 ∨ 61 < k ∨ k = 37 ∨ k = 38 ∨ k = 39 ∨ k = 40 ∨ k = 41 ∨ k = 42 ∨ k = 43 ∨ k = 44 ∨ k = 45 ∨ k = 46 ∨ k = 47 ∨ k = 48 ∨ k = 49 ∨ k = 50 ∨ k = 51 ∨ k = 52 ∨ k = 53 ∨ k = 54 ∨ k = 55 ∨ k = 56 ∨ k = 57 ∨ k = 58 ∨ k = 59 ∨ k = 60 ∨ k = 61 by omega) with h | h | rfl | rfl | rfl | rfl | rfl | rfl | rfl | rfl | rfl | rfl | rfl | rfl | rfl | rfl | rfl | rfl | rfl | rfl | rfl | rfl | rfl | rfl | rfl | rfl | rfl
  · have h9 : lvl k = 9 := by unfold lvl; rw [if_neg (by omega), if_neg (by omega), if_neg (by omega)]
    refine pw_iload_n dX3_levelOf_0 rfl ?_
    refine pw_tableOut (tgt := 128) dX3_levelOf_1 (Or.inl (by rw [nI_toInt (by omega)]; omega)) (by decide) ?_
    refine pw_bipush (v := -5) dX3_levelOf_128 (by decide) ?_
    exact pw_iret dX3_levelOf_130 rfl (kk _ (fun e => absurd e (by rw [h9]; omega)) (fun _ => by rcases h3 with rfl | rfl | rfl <;> decide))
  · have h9 : lvl k = 9 := by unfold lvl; rw [if_neg (by omega), if_neg (by omega), if_neg (by omega)]
    refine pw_iload_n dX3_levelOf_0 rfl ?_
    refine pw_tableOut (tgt := 128) dX3_levelOf_1 (Or.inr (by rw [nI_toInt (by omega)]; omega)) (by decide) ?_
    refine pw_bipush (v := -5) dX3_levelOf_128 (by decide) ?_
    exact pw_iret dX3_levelOf_130 rfl (kk _ (fun e => absurd e (by rw [h9]; omega)) (fun _ => by rcases h3 with rfl | rfl | rfl <;> decide))
  · refine pw_iload_n dX3_levelOf_0 rfl ?_
    refine pw_tableIn (off := 123) (tgt := 124) dX3_levelOf_1 (by decide) (by decide) (by decide) (by decide) ?_
    refine pw_iconst (v := nI 2) dX3_levelOf_124 (by decide) ?_
    refine pw_goto (tgt := 130) dX3_levelOf_125 (by decide) ?_
    exact pw_iret dX3_levelOf_130 rfl (kk _ (by rcases h3 with rfl | rfl | rfl <;> decide) (by rcases h3 with rfl | rfl | rfl <;> decide))
  · refine pw_iload_n dX3_levelOf_0 rfl ?_
    refine pw_tableIn (off := 127) (tgt := 128) dX3_levelOf_1 (by decide) (by decide) (by decide) (by decide) ?_
    refine pw_bipush (v := -5) dX3_levelOf_128 (by decide) ?_
    exact pw_iret dX3_levelOf_130 rfl (kk _ (by rcases h3 with rfl | rfl | rfl <;> decide) (by rcases h3 with rfl | rfl | rfl <;> decide))
  · refine pw_iload_n dX3_levelOf_0 rfl ?_
    refine pw_tableIn (off := 127) (tgt := 128) dX3_levelOf_1 (by decide) (by decide) (by decide) (by decide) ?_
    refine pw_bipush (v := -5) dX3_levelOf_128 (by decide) ?_
    exact pw_iret dX3_levelOf_130 rfl (kk _ (by rcases h3 with rfl | rfl | rfl <;> decide) (by rcases h3 with rfl | rfl | rfl <;> decide))
  · refine pw_iload_n dX3_levelOf_0 rfl ?_
    refine pw_tableIn (off := 127) (tgt := 128) dX3_levelOf_1 (by decide) (by decide) (by decide) (by decide) ?_
    refine pw_bipush (v := -5) dX3_levelOf_128 (by decide) ?_
    exact pw_iret dX3_levelOf_130 rfl (kk _ (by rcases h3 with rfl | rfl | rfl <;> decide) (by rcases h3 with rfl | rfl | rfl <;> decide))
  · refine pw_iload_n dX3_levelOf_0 rfl ?_
    refine pw_tableIn (off := 127) (tgt := 128) dX3_levelOf_1 (by decide) (by decide) (by decide) (by decide) ?_
    refine pw_bipush (v := -5) dX3_levelOf_128 (by decide) ?_
    exact pw_iret dX3_levelOf_130 rfl (kk _ (by rcases h3 with rfl | rfl | rfl <;> decide) (by rcases h3 with rfl | rfl | rfl <;> decide))
  · refine pw_iload_n dX3_levelOf_0 rfl ?_
    refine pw_tableIn (off := 123) (tgt := 124) dX3_levelOf_1 (by decide) (by decide) (by decide) (by decide) ?_
    refine pw_iconst (v := nI 2) dX3_levelOf_124 (by decide) ?_
    refine pw_goto (tgt := 130) dX3_levelOf_125 (by decide) ?_
    exact pw_iret dX3_levelOf_130 rfl (kk _ (by rcases h3 with rfl | rfl | rfl <;> decide) (by rcases h3 with rfl | rfl | rfl <;> decide))
  · refine pw_iload_n dX3_levelOf_0 rfl ?_
    refine pw_tableIn (off := 119) (tgt := 120) dX3_levelOf_1 (by decide) (by decide) (by decide) (by decide) ?_
    refine pw_iconst (v := nI 1) dX3_levelOf_120 (by decide) ?_
    refine pw_goto (tgt := 130) dX3_levelOf_121 (by decide) ?_
    exact pw_iret dX3_levelOf_130 rfl (kk _ (by rcases h3 with rfl | rfl | rfl <;> decide) (by rcases h3 with rfl | rfl | rfl <;> decide))
  · refine pw_iload_n dX3_levelOf_0 rfl ?_
    refine pw_tableIn (off := 127) (tgt := 128) dX3_levelOf_1 (by decide) (by decide) (by decide) (by decide) ?_
    refine pw_bipush (v := -5) dX3_levelOf_128 (by decide) ?_
    exact pw_iret dX3_levelOf_130 rfl (kk _ (by rcases h3 with rfl | rfl | rfl <;> decide) (by rcases h3 with rfl | rfl | rfl <;> decide))
  · refine pw_iload_n dX3_levelOf_0 rfl ?_
    refine pw_tableIn (off := 119) (tgt := 120) dX3_levelOf_1 (by decide) (by decide) (by decide) (by decide) ?_
    refine pw_iconst (v := nI 1) dX3_levelOf_120 (by decide) ?_
    refine pw_goto (tgt := 130) dX3_levelOf_121 (by decide) ?_
    exact pw_iret dX3_levelOf_130 rfl (kk _ (by rcases h3 with rfl | rfl | rfl <;> decide) (by rcases h3 with rfl | rfl | rfl <;> decide))
  · refine pw_iload_n dX3_levelOf_0 rfl ?_
    refine pw_tableIn (off := 127) (tgt := 128) dX3_levelOf_1 (by decide) (by decide) (by decide) (by decide) ?_
    refine pw_bipush (v := -5) dX3_levelOf_128 (by decide) ?_
    exact pw_iret dX3_levelOf_130 rfl (kk _ (by rcases h3 with rfl | rfl | rfl <;> decide) (by rcases h3 with rfl | rfl | rfl <;> decide))
  · refine pw_iload_n dX3_levelOf_0 rfl ?_
    refine pw_tableIn (off := 123) (tgt := 124) dX3_levelOf_1 (by decide) (by decide) (by decide) (by decide) ?_
    refine pw_iconst (v := nI 2) dX3_levelOf_124 (by decide) ?_
    refine pw_goto (tgt := 130) dX3_levelOf_125 (by decide) ?_
    exact pw_iret dX3_levelOf_130 rfl (kk _ (by rcases h3 with rfl | rfl | rfl <;> decide) (by rcases h3 with rfl | rfl | rfl <;> decide))
  · refine pw_iload_n dX3_levelOf_0 rfl ?_
    refine pw_tableIn (off := 127) (tgt := 128) dX3_levelOf_1 (by decide) (by decide) (by decide) (by decide) ?_
    refine pw_bipush (v := -5) dX3_levelOf_128 (by decide) ?_
    exact pw_iret dX3_levelOf_130 rfl (kk _ (by rcases h3 with rfl | rfl | rfl <;> decide) (by rcases h3 with rfl | rfl | rfl <;> decide))
  · refine pw_iload_n dX3_levelOf_0 rfl ?_
    refine pw_tableIn (off := 127) (tgt := 128) dX3_levelOf_1 (by decide) (by decide) (by decide) (by decide) ?_
    refine pw_bipush (v := -5) dX3_levelOf_128 (by decide) ?_
    exact pw_iret dX3_levelOf_130 rfl (kk _ (by rcases h3 with rfl | rfl | rfl <;> decide) (by rcases h3 with rfl | rfl | rfl <;> decide))
  · refine pw_iload_n dX3_levelOf_0 rfl ?_
    refine pw_tableIn (off := 127) (tgt := 128) dX3_levelOf_1 (by decide) (by decide) (by decide) (by decide) ?_
    refine pw_bipush (v := -5) dX3_levelOf_128 (by decide) ?_
    exact pw_iret dX3_levelOf_130 rfl (kk _ (by rcases h3 with rfl | rfl | rfl <;> decide) (by rcases h3 with rfl | rfl | rfl <;> decide))
  · refine pw_iload_n dX3_levelOf_0 rfl ?_
    refine pw_tableIn (off := 127) (tgt := 128) dX3_levelOf_1 (by decide) (by decide) (by decide) (by decide) ?_
    refine pw_bipush (v := -5) dX3_levelOf_128 (by decide) ?_
    exact pw_iret dX3_levelOf_130 rfl (kk _ (by rcases h3 with rfl | rfl | rfl <;> decide) (by rcases h3 with rfl | rfl | rfl <;> decide))
  · refine pw_iload_n dX3_levelOf_0 rfl ?_
    refine pw_tableIn (off := 127) (tgt := 128) dX3_levelOf_1 (by decide) (by decide) (by decide) (by decide) ?_
    refine pw_bipush (v := -5) dX3_levelOf_128 (by decide) ?_
    exact pw_iret dX3_levelOf_130 rfl (kk _ (by rcases h3 with rfl | rfl | rfl <;> decide) (by rcases h3 with rfl | rfl | rfl <;> decide))
  · refine pw_iload_n dX3_levelOf_0 rfl ?_
    refine pw_tableIn (off := 127) (tgt := 128) dX3_levelOf_1 (by decide) (by decide) (by decide) (by decide) ?_
    refine pw_bipush (v := -5) dX3_levelOf_128 (by decide) ?_
    exact pw_iret dX3_levelOf_130 rfl (kk _ (by rcases h3 with rfl | rfl | rfl <;> decide) (by rcases h3 with rfl | rfl | rfl <;> decide))
  · refine pw_iload_n dX3_levelOf_0 rfl ?_
    refine pw_tableIn (off := 127) (tgt := 128) dX3_levelOf_1 (by decide) (by decide) (by decide) (by decide) ?_
    refine pw_bipush (v := -5) dX3_levelOf_128 (by decide) ?_
    exact pw_iret dX3_levelOf_130 rfl (kk _ (by rcases h3 with rfl | rfl | rfl <;> decide) (by rcases h3 with rfl | rfl | rfl <;> decide))
  · refine pw_iload_n dX3_levelOf_0 rfl ?_
    refine pw_tableIn (off := 127) (tgt := 128) dX3_levelOf_1 (by decide) (by decide) (by decide) (by decide) ?_
    refine pw_bipush (v := -5) dX3_levelOf_128 (by decide) ?_
    exact pw_iret dX3_levelOf_130 rfl (kk _ (by rcases h3 with rfl | rfl | rfl <;> decide) (by rcases h3 with rfl | rfl | rfl <;> decide))
  · refine pw_iload_n dX3_levelOf_0 rfl ?_
    refine pw_tableIn (off := 127) (tgt := 128) dX3_levelOf_1 (by decide) (by decide) (by decide) (by decide) ?_
    refine pw_bipush (v := -5) dX3_levelOf_128 (by decide) ?_
    exact pw_iret dX3_levelOf_130 rfl (kk _ (by rcases h3 with rfl | rfl | rfl <;> decide) (by rcases h3 with rfl | rfl | rfl <;> decide))
  · refine pw_iload_n dX3_levelOf_0 rfl ?_
    refine pw_tableIn (off := 127) (tgt := 128) dX3_levelOf_1 (by decide) (by decide) (by decide) (by decide) ?_
    refine pw_bipush (v := -5) dX3_levelOf_128 (by decide) ?_
    exact pw_iret dX3_levelOf_130 rfl (kk _ (by rcases h3 with rfl | rfl | rfl <;> decide) (by rcases h3 with rfl | rfl | rfl <;> decide))
  · refine pw_iload_n dX3_levelOf_0 rfl ?_
    refine pw_tableIn (off := 127) (tgt := 128) dX3_levelOf_1 (by decide) (by decide) (by decide) (by decide) ?_
    refine pw_bipush (v := -5) dX3_levelOf_128 (by decide) ?_
    exact pw_iret dX3_levelOf_130 rfl (kk _ (by rcases h3 with rfl | rfl | rfl <;> decide) (by rcases h3 with rfl | rfl | rfl <;> decide))
  · refine pw_iload_n dX3_levelOf_0 rfl ?_
    refine pw_tableIn (off := 127) (tgt := 128) dX3_levelOf_1 (by decide) (by decide) (by decide) (by decide) ?_
    refine pw_bipush (v := -5) dX3_levelOf_128 (by decide) ?_
    exact pw_iret dX3_levelOf_130 rfl (kk _ (by rcases h3 with rfl | rfl | rfl <;> decide) (by rcases h3 with rfl | rfl | rfl <;> decide))
  · refine pw_iload_n dX3_levelOf_0 rfl ?_
    refine pw_tableIn (off := 115) (tgt := 116) dX3_levelOf_1 (by decide) (by decide) (by decide) (by decide) ?_
    refine pw_iconst (v := nI 0) dX3_levelOf_116 (by decide) ?_
    refine pw_goto (tgt := 130) dX3_levelOf_117 (by decide) ?_
    exact pw_iret dX3_levelOf_130 rfl (kk _ (by rcases h3 with rfl | rfl | rfl <;> decide) (by rcases h3 with rfl | rfl | rfl <;> decide))
  · refine pw_iload_n dX3_levelOf_0 rfl ?_
    refine pw_tableIn (off := 115) (tgt := 116) dX3_levelOf_1 (by decide) (by decide) (by decide) (by decide) ?_
    refine pw_iconst (v := nI 0) dX3_levelOf_116 (by decide) ?_
    refine pw_goto (tgt := 130) dX3_levelOf_117 (by decide) ?_
    exact pw_iret dX3_levelOf_130 rfl (kk _ (by rcases h3 with rfl | rfl | rfl <;> decide) (by rcases h3 with rfl | rfl | rfl <;> decide))
set_option maxRecDepth 20000 in
set_option maxHeartbeats 4000000 in
theorem t_O0 {l : Launch} {E : pmE} {S : pmS} {P : pmP} {tx : Nat → Nat} {n cnt : Nat} {pa : List Int64} {f : Nat} (hG : sh_St S) (hP : gr_St P) (hn9 : n ≤ 120) (hb : ∀ j, j < n → tx j < 128) (hL : sL l E S P tx n cnt pa f 1) (hO : sO l E S P tx n cnt pa f 0) : sO l E S P tx n cnt pa (f + 1) 0 := by
  intro d a op k L0 acc I J Q r hs ha hl hk ho hd hr kk
  have hkc := (tk_k_c (tx := tx) (n := n) (i := a) hb).1
  have hcn := hs.1.2.1
  rw [ps_o _ _ _ _ _ _ (by omega) (by omega)] at hr
  refine pw_iload dX3_readLevel_39 rfl ?_
  refine pw_iload_n dX3_readLevel_41 rfl ?_
  refine pw_icmpN_ge _ _ (tgt := 133) dX3_readLevel_42 (by decide) (rfl) (show nI (if (0 : Nat) = 0 then 1 else 60) = nI 1 from rfl) (by omega) (by omega) (fun h42 => ?_) (fun h42 => ?_)
  · exact pw_vret dX3_readLevel_133 rfl (by rw [if_neg (fun q => absurd (q.2 rfl) (by omega))] at hr; exact kk.1 a acc _ _ (Option.some.inj hr).symm hs fr8.refl)
  · refine pw_aload_n dX3_readLevel_45 rfl ?_
    refine pw_getR fX3_24 dX3_readLevel_46 (sh_lt hG (by decide)) (sh_tg hG 6 rfl) rfl (gr_at hP 8 rfl) ?_
    refine pw_aload_n dX3_readLevel_49 rfl ?_
    refine pw_getI fX3_39 dX3_readLevel_50 (sh_lt hG (by decide)) (sh_tg hG 6 rfl) rfl ?_
    refine pw_ti (z := nI a) hs.2.2.1 ?_
    refine pw_callV (as := [_]) (kc' := 0) (ks' := 0) lX3_48 dX3_readLevel_53 rfl rfl (sh_lt hG (by decide)) (sh_tg hG 2 rfl) (Nat.le_of_ble_eq_true rfl) (by omega) (Nat.le_of_ble_eq_true rfl) (Nat.zero_le _) (Nat.zero_le _) ?_
    refine c_kd hG hP hs.1 ha ?_
    refine pw_callS (as := [_]) (kc' := 0) (ks' := 0) lX3_148 dX3_readLevel_56 rfl rfl (Nat.le_of_ble_eq_true rfl) (by omega) (Nat.le_of_ble_eq_true rfl) (Nat.zero_le _) (Nat.zero_le _) ?_
    refine c_X3_levelOf (lv := 0) hkc (by decide) (fun z hz1 hz2 => ?_)
    refine pw_iload_n dX3_readLevel_59 rfl ?_
    refine pw_icmp_ne (tgt := 133) dX3_readLevel_60 (by decide) (fun h60 => ?_) (fun h60 => ?_)
    · exact pw_vret dX3_readLevel_133 rfl (by rw [if_neg (fun q => h60 (hz1 q.1))] at hr; exact kk.1 a acc _ _ (Option.some.inj hr).symm hs fr8.refl)
    · have hc : lvl (tk_k tx n a) = 0 := Decidable.byContradiction (fun q => hz2 q h60)
      have hc01 := lvl_c (m := 11) hc (by omega) (by omega)
      have ha60 := tk_60 hc01.1 hc01.2
      have hac := tk_cnt hs.1 hc01.1
      rw [if_pos ⟨hc, fun _ => by omega⟩] at hr
      refine pw_aload_n dX3_readLevel_63 rfl ?_
      refine pw_getR fX3_24 dX3_readLevel_64 (sh_lt hG (by decide)) (sh_tg hG 6 rfl) rfl (gr_at hP 8 rfl) ?_
      refine pw_aload_n dX3_readLevel_67 rfl ?_
      refine pw_getI fX3_39 dX3_readLevel_68 (sh_lt hG (by decide)) (sh_tg hG 6 rfl) rfl ?_
      refine pw_ti (z := nI a) hs.2.2.1 ?_
      refine pw_callV (as := [_]) (kc' := 0) (ks' := 0) lX3_48 dX3_readLevel_71 rfl rfl (sh_lt hG (by decide)) (sh_tg hG 2 rfl) (Nat.le_of_ble_eq_true rfl) (by omega) (Nat.le_of_ble_eq_true rfl) (Nat.zero_le _) (Nat.zero_le _) ?_
      refine c_kd hG hP hs.1 ha ?_
      refine pw_istore (lv' := [(5, _), (4, _), (3, _), (2, _), (0, _), (1, _)]) dX3_readLevel_74 (by decide) rfl ?_
      refine pw_aload_n dX3_readLevel_76 rfl ?_
      refine pw_getR fX3_24 dX3_readLevel_77 (sh_lt hG (by decide)) (sh_tg hG 6 rfl) rfl (gr_at hP 8 rfl) ?_
      refine pw_aload_n dX3_readLevel_80 rfl ?_
      refine pw_getI fX3_39 dX3_readLevel_81 (sh_lt hG (by decide)) (sh_tg hG 6 rfl) rfl ?_
      refine pw_ti (z := nI a) hs.2.2.1 ?_
      refine pw_callV (as := [_]) (kc' := 0) (ks' := 0) lX3_132 dX3_readLevel_84 rfl rfl (sh_lt hG (by decide)) (sh_tg hG 2 rfl) (Nat.le_of_ble_eq_true rfl) (by omega) (Nat.le_of_ble_eq_true rfl) (Nat.zero_le _) (Nat.zero_le _) ?_
      refine c_pl hG hP hs.1 ha ?_
      refine pw_istore (lv' := [(6, _), (5, _), (4, _), (3, _), (2, _), (0, _), (1, _)]) dX3_readLevel_87 (by decide) rfl ?_
      refine pw_aload_n dX3_readLevel_89 rfl ?_
      refine pw_getR fX3_14 dX3_readLevel_90 (sh_lt hG (by decide)) (sh_tg hG 6 rfl) rfl (gr_at hP 9 rfl) ?_
      refine pw_iload_n dX3_readLevel_93 rfl ?_
      refine pw_iload dX3_readLevel_94 rfl ?_
      refine pw_callV (as := [_, _]) (kc' := 0) (ks' := 0) lX3_139 dX3_readLevel_96 rfl rfl (sh_lt hG (by decide)) (sh_tg hG 7 rfl) (Nat.le_of_ble_eq_true rfl) (by omega) (Nat.le_of_ble_eq_true rfl) (Nat.zero_le _) (Nat.zero_le _) ?_
      refine c_X0_begin hG hP (by omega) hs.2.2.2.2.2 (by omega) rfl 0 0 (fun I2 J2 hc2 hf2 => ?_)
      have hS2 := hs.cd' hc2 hf2
      have hff := fr8.code hf2
      refine pw_aload_n dX3_readLevel_99 rfl ?_
      refine pw_dup dX3_readLevel_100 rfl ?_
      refine pw_getI fX3_39 dX3_readLevel_101 (sh_lt hG (by decide)) (sh_tg hG 6 rfl) rfl ?_
      refine pw_iconst (v := nI 1) dX3_readLevel_104 (by decide) ?_
      refine pw_iadd dX3_readLevel_105 ?_
      refine pw_ti (z := nI (a + 1)) (by rw [hS2.2.2.1]; exact nI_add a 1) ?_
      refine pw_putI fX3_39 dX3_readLevel_106 (Or.inl rfl) (by decide) (sh_lt hG (by decide)) (sh_tg hG 6 rfl) rfl ?_
      refine pw_aload_n dX3_readLevel_109 rfl ?_
      refine pw_iload_n dX3_readLevel_110 rfl ?_
      refine pw_iconst (v := nI 1) dX3_readLevel_111 (by decide) ?_
      refine pw_iadd dX3_readLevel_112 ?_
      refine pw_ti (z := nI 1) (by decide) ?_
      refine pw_callV (as := [_]) (kc' := 0) (ks' := 0) lX3_126 dX3_readLevel_113 rfl rfl (sh_lt hG (by decide)) (sh_tg hG 6 rfl) (Nat.le_of_ble_eq_true rfl) (by omega) (Nat.le_of_ble_eq_true rfl) (Nat.zero_le _) (Nat.zero_le _) ?_
      have hS3 := hS2.at' (a + 1)
      have hff := hff.trans (fr8.put (k := 6) (x := nI (a + 1)) (by decide) (by decide))
      have hl3 : (L0 ++ (1, tk_p tx n a, 0, 0) :: acc).length ≤ 2 * (a + 1) := by simp only [List.length_append, List.length_cons] at hl ⊢; omega
      rcases pb_so hr with ⟨e, h1, he⟩ | ⟨b, L, h1, hr⟩
      · refine hL _ _ _ _ _ _ _ _ hS3 (by omega) ⟨hl3, by omega⟩ ho (by omega) h1 ⟨(fun b' L' I' J' hh => nomatch hh), fun e' I' J' hh hF hff9 => ?_⟩
        cases hh
        have hff := hff.trans hff9
        refine pw_aload_n dX3_readLevel_116 rfl ?_
        refine pw_getR fX3_14 dX3_readLevel_117 (sh_lt hG (by decide)) (sh_tg hG 6 rfl) rfl (gr_at hP 9 rfl) ?_
        refine pw_iload dX3_readLevel_120 rfl ?_
        refine pw_iload dX3_readLevel_122 rfl ?_
        refine pw_callV (as := [_, _]) (kc' := 0) (ks' := 0) lX3_73 dX3_readLevel_124 rfl rfl (sh_lt hG (by decide)) (sh_tg hG 7 rfl) (Nat.le_of_ble_eq_true rfl) (by omega) (Nat.le_of_ble_eq_true rfl) (Nat.zero_le _) (Nat.zero_le _) ?_
        unfold pm_Met
        refine pm_lvs (lv' := [(0, _), (1, _), (2, _)]) rfl ?_
        refine pw_aload_n dX0_add_0 rfl ?_
        refine pw_iload_n dX0_add_1 rfl ?_
        refine pw_iload_n dX0_add_2 rfl ?_
        refine pw_iconst (v := nI 0) dX0_add_3 (by decide) ?_
        refine pw_lconst (v := 0) dX0_add_4 (by decide) ?_
        refine pw_callV (as := [_, _, _, _]) (kc' := 0) (ks' := 0) lX0_32 dX0_add_5 rfl rfl (sh_lt hG (by decide)) (sh_tg hG 7 rfl) (Nat.le_of_ble_eq_true rfl) (by omega) (Nat.le_of_ble_eq_true rfl) (Nat.zero_le _) (Nat.zero_le _) ?_
        refine c_X0_addWithF hG hP hF.2.2.2.2 (fun I9 J9 hz9 hc9 => ?_)
        have hF := hF.cd' hz9 hc9
        have hff := hff.trans (fr8.code hc9)
        refine pw_vret dX0_add_8 rfl ?_
        refine pw_iinc (lv' := [(4, _), (6, _), (5, _), (3, _), (2, _), (0, _), (1, _)]) dX3_readLevel_127 rfl (by decide) rfl ?_
        refine pw_goto (tgt := 39) dX3_readLevel_130 (by decide) ?_
        refine pw_iload dX3_readLevel_39 rfl ?_
        refine pw_iload_n dX3_readLevel_41 rfl ?_
        refine pw_icmp_ge (tgt := 133) dX3_readLevel_42 (by decide) (fun h42 => ?_) (fun h42 => ?_)
        · exact pw_vret dX3_readLevel_133 rfl (kk.2 e _ _ he hF hff)
        · refine pw_aload_n dX3_readLevel_45 rfl ?_
          refine pw_getR fX3_24 dX3_readLevel_46 (sh_lt hG (by decide)) (sh_tg hG 6 rfl) rfl (gr_at hP 8 rfl) ?_
          refine pw_aload_n dX3_readLevel_49 rfl ?_
          refine pw_getI fX3_39 dX3_readLevel_50 (sh_lt hG (by decide)) (sh_tg hG 6 rfl) rfl ?_
          refine pw_ti (z := nI cnt) hF.2.2.1 ?_
          refine pw_callV (as := [_]) (kc' := 0) (ks' := 0) lX3_48 dX3_readLevel_53 rfl rfl (sh_lt hG (by decide)) (sh_tg hG 2 rfl) (Nat.le_of_ble_eq_true rfl) (by omega) (Nat.le_of_ble_eq_true rfl) (Nat.zero_le _) (Nat.zero_le _) ?_
          refine c_kd hG hP hF.1 (Nat.le_refl _) ?_
          refine pw_ti (z := nI 0) (by rw [tk_end0 hF.1]) ?_
          refine pw_callS (as := [_]) (kc' := 0) (ks' := 0) lX3_148 dX3_readLevel_56 rfl rfl (Nat.le_of_ble_eq_true rfl) (by omega) (Nat.le_of_ble_eq_true rfl) (Nat.zero_le _) (Nat.zero_le _) ?_
          unfold pm_Met
          refine pm_lvs (lv' := [(0, _)]) rfl ?_
          refine pw_iload_n dX3_levelOf_0 rfl ?_
          refine pw_tableOut (tgt := 128) dX3_levelOf_1 (by decide) (by decide) ?_
          refine pw_bipush (v := -5) dX3_levelOf_128 (by decide) ?_
          refine pw_iret dX3_levelOf_130 rfl ?_
          refine pw_iload_n dX3_readLevel_59 rfl ?_
          refine pw_icmp_ne (tgt := 133) dX3_readLevel_60 (by decide) (fun h60 => ?_) (fun h => absurd h (by decide))
          exact pw_vret dX3_readLevel_133 rfl (kk.2 e _ _ he hF hff)
      · have g1 := ps_cnt hS3.1 (by omega) (by omega) h1
        have g1' := g1.2.2 (by omega)
        have g1c := ps_60 (by omega) h1
        refine hL _ _ _ _ _ _ _ _ hS3 (by omega) ⟨hl3, by omega⟩ ho (by omega) h1 ⟨fun b' L' I' J' hh hS4 hff9 => ?_, (fun e' I' J' hh => nomatch hh)⟩
        cases hh
        have hff := hff.trans hff9
        have hl4 : ((L0 ++ (1, tk_p tx n a, 0, 0) :: acc) ++ L).length < 2 * b := by simp only [List.length_append, List.length_cons] at hl ⊢; omega
        refine pw_aload_n dX3_readLevel_116 rfl ?_
        refine pw_getR fX3_14 dX3_readLevel_117 (sh_lt hG (by decide)) (sh_tg hG 6 rfl) rfl (gr_at hP 9 rfl) ?_
        refine pw_iload dX3_readLevel_120 rfl ?_
        refine pw_iload dX3_readLevel_122 rfl ?_
        refine pw_callV (as := [_, _]) (kc' := 0) (ks' := 0) lX3_73 dX3_readLevel_124 rfl rfl (sh_lt hG (by decide)) (sh_tg hG 7 rfl) (Nat.le_of_ble_eq_true rfl) (by omega) (Nat.le_of_ble_eq_true rfl) (Nat.zero_le _) (Nat.zero_le _) ?_
        unfold pm_Met
        refine pm_lvs (lv' := [(0, _), (1, _), (2, _)]) rfl ?_
        refine pw_aload_n dX0_add_0 rfl ?_
        refine pw_iload_n dX0_add_1 rfl ?_
        refine pw_iload_n dX0_add_2 rfl ?_
        refine pw_iconst (v := nI 0) dX0_add_3 (by decide) ?_
        refine pw_lconst (v := 0) dX0_add_4 (by decide) ?_
        refine pw_callV (as := [_, _, _, _]) (kc' := 0) (ks' := 0) lX0_32 dX0_add_5 rfl rfl (sh_lt hG (by decide)) (sh_tg hG 7 rfl) (Nat.le_of_ble_eq_true rfl) (by omega) (Nat.le_of_ble_eq_true rfl) (Nat.zero_le _) (Nat.zero_le _) ?_
        refine c_X0_addWith hG hP hS4.2.2.2.2.2 (by omega) (c := 0) (fun I5 J5 hc5 hf5 => ?_)
        have hS5 := hS4.cd' hc5 hf5
        have hff := hff.trans (fr8.code hf5)
        refine pw_vret dX0_add_8 rfl ?_
        refine pw_iinc (lv' := [(4, _), (6, _), (5, _), (3, _), (2, _), (0, _), (1, _)]) dX3_readLevel_127 rfl (by decide) rfl ?_
        refine pw_goto (tgt := 39) dX3_readLevel_130 (by decide) ?_
        refine pw_sub [0, 3, 4, 5, 6] rfl ?_
        rw [show nI k + Int32.ofInt 1 = nI (k + 1) from nI_1 k]
        exact hO d b op (k + 1) L0 ((1, tk_p tx n a, 0, 0) :: (acc ++ (L ++ [(tk_k tx n a, tk_p tx n a, 0, 0)]))) _ _ Q r (by simp only [List.append_assoc, List.cons_append] at hS5 ⊢; exact hS5) g1.2.1 (by simp only [List.length_append, List.length_cons, List.length_nil] at hl4 ⊢; omega) (by omega) ho hd hr (kk.mv hff)
set_option maxRecDepth 20000 in
set_option maxHeartbeats 4000000 in
theorem t_L0 {l : Launch} {E : pmE} {S : pmS} {P : pmP} {tx : Nat → Nat} {n cnt : Nat} {pa : List Int64} {f : Nat} (hG : sh_St S) (hP : gr_St P) (hn9 : n ≤ 120) (hb : ∀ j, j < n → tx j < 128) (hL : sL l E S P tx n cnt pa f 1) (hO : sO l E S P tx n cnt pa f 0) : sL l E S P tx n cnt pa (f + 1) 0 := by
  intro d a op L0 I J Q r hs ha hl ho hd hr k
  unfold pm_Met
  refine pm_lvs (lv' := [(0, _), (1, _)]) rfl ?_
  rw [ps_l _ _ _ _ _ _ (by omega) (by omega)] at hr
  refine pw_iload_n dX3_readLevel_0 rfl ?_
  refine pw_iconst (v := nI 3) dX3_readLevel_1 (by decide) ?_
  refine pw_icmp_lt (tgt := 10) dX3_readLevel_2 (by decide) (fun h2 => ?_) (fun h => absurd (by decide) h)
  refine pw_aload_n dX3_readLevel_10 rfl ?_
  refine pw_getR fX3_14 dX3_readLevel_11 (sh_lt hG (by decide)) (sh_tg hG 6 rfl) rfl (gr_at hP 9 rfl) ?_
  refine pw_callV (as := []) (kc' := 0) (ks' := 0) lX3_122 dX3_readLevel_14 rfl rfl (sh_lt hG (by decide)) (sh_tg hG 7 rfl) (Nat.le_of_ble_eq_true rfl) (by omega) (Nat.le_of_ble_eq_true rfl) (Nat.zero_le _) (Nat.zero_le _) ?_
  unfold pm_Met
  refine pm_lvs (lv' := [(0, _)]) rfl ?_
  refine pw_aload_n dX0_size_0 rfl ?_
  refine pw_getI fX0_25 dX0_size_1 (sh_lt hG (by decide)) (sh_tg hG 7 rfl) rfl ?_
  refine pw_iret dX0_size_4 rfl ?_
  refine pw_ti (z := nI L0.length) hs.2.2.2.2.2.1 ?_
  refine pw_istore_n (lv' := [(2, _), (0, _), (1, _)]) dX3_readLevel_17 (by decide) rfl ?_
  refine pw_iload_n dX3_readLevel_18 rfl ?_
  refine pw_if_ne (tgt := 26) dX3_readLevel_19 (by decide) (fun h => absurd (by decide) h) (fun h19 => ?_)
  refine pw_iconst (v := nI 1) dX3_readLevel_22 (by decide) ?_
  refine pw_goto (tgt := 28) dX3_readLevel_23 (by decide) ?_
  refine pw_istore_n (lv' := [(3, _), (2, _), (0, _), (1, _)]) dX3_readLevel_28 (by decide) rfl ?_
  refine pw_aload_n dX3_readLevel_29 rfl ?_
  refine pw_iload_n dX3_readLevel_30 rfl ?_
  refine pw_iconst (v := nI 1) dX3_readLevel_31 (by decide) ?_
  refine pw_iadd dX3_readLevel_32 ?_
  refine pw_ti (z := nI 1) (by decide) ?_
  refine pw_callV (as := [_]) (kc' := 0) (ks' := 0) lX3_126 dX3_readLevel_33 rfl rfl (sh_lt hG (by decide)) (sh_tg hG 6 rfl) (Nat.le_of_ble_eq_true rfl) (by omega) (Nat.le_of_ble_eq_true rfl) (Nat.zero_le _) (Nat.zero_le _) ?_
  rcases pb_so hr with ⟨e, h1, he⟩ | ⟨b, L, h1, hr⟩
  · refine hL _ _ _ _ _ _ _ _ hs ha hl ho (by omega) h1 ⟨(fun b' L' I' J' hh => nomatch hh), fun e' I' J' hh hF hff => ?_⟩
    cases hh
    refine pw_iconst (v := nI 0) dX3_readLevel_36 (by decide) ?_
    refine pw_istore (lv' := [(4, _), (3, _), (2, _), (0, _), (1, _)]) dX3_readLevel_37 (by decide) rfl ?_
    refine pw_iload dX3_readLevel_39 rfl ?_
    refine pw_iload_n dX3_readLevel_41 rfl ?_
    refine pw_icmp_ge (tgt := 133) dX3_readLevel_42 (by decide) (fun h42 => ?_) (fun h42 => ?_)
    · exact pw_vret dX3_readLevel_133 rfl (k.2 e _ _ he hF hff)
    · refine pw_aload_n dX3_readLevel_45 rfl ?_
      refine pw_getR fX3_24 dX3_readLevel_46 (sh_lt hG (by decide)) (sh_tg hG 6 rfl) rfl (gr_at hP 8 rfl) ?_
      refine pw_aload_n dX3_readLevel_49 rfl ?_
      refine pw_getI fX3_39 dX3_readLevel_50 (sh_lt hG (by decide)) (sh_tg hG 6 rfl) rfl ?_
      refine pw_ti (z := nI cnt) hF.2.2.1 ?_
      refine pw_callV (as := [_]) (kc' := 0) (ks' := 0) lX3_48 dX3_readLevel_53 rfl rfl (sh_lt hG (by decide)) (sh_tg hG 2 rfl) (Nat.le_of_ble_eq_true rfl) (by omega) (Nat.le_of_ble_eq_true rfl) (Nat.zero_le _) (Nat.zero_le _) ?_
      refine c_kd hG hP hF.1 (Nat.le_refl _) ?_
      refine pw_ti (z := nI 0) (by rw [tk_end0 hF.1]) ?_
      refine pw_callS (as := [_]) (kc' := 0) (ks' := 0) lX3_148 dX3_readLevel_56 rfl rfl (Nat.le_of_ble_eq_true rfl) (by omega) (Nat.le_of_ble_eq_true rfl) (Nat.zero_le _) (Nat.zero_le _) ?_
      unfold pm_Met
      refine pm_lvs (lv' := [(0, _)]) rfl ?_
      refine pw_iload_n dX3_levelOf_0 rfl ?_
      refine pw_tableOut (tgt := 128) dX3_levelOf_1 (by decide) (by decide) ?_
      refine pw_bipush (v := -5) dX3_levelOf_128 (by decide) ?_
      refine pw_iret dX3_levelOf_130 rfl ?_
      refine pw_iload_n dX3_readLevel_59 rfl ?_
      refine pw_icmp_ne (tgt := 133) dX3_readLevel_60 (by decide) (fun h60 => ?_) (fun h => absurd h (by decide))
      exact pw_vret dX3_readLevel_133 rfl (k.2 e _ _ he hF hff)
  · have g1 := ps_cnt hs.1 (by omega) ha h1
    have g1' := g1.2.2 (by omega)
    have g1c := ps_60 (by omega) h1
    refine hL _ _ _ _ _ _ _ _ hs ha hl ho (by omega) h1 ⟨fun b' L' I' J' hh hS hff => ?_, (fun e' I' J' hh => nomatch hh)⟩
    cases hh
    refine pw_iconst (v := nI 0) dX3_readLevel_36 (by decide) ?_
    refine pw_istore (lv' := [(4, _), (3, _), (2, _), (0, _), (1, _)]) dX3_readLevel_37 (by decide) rfl ?_
    refine pw_sub [0, 1, 2, 3, 4] rfl ?_
    exact hO d b op 0 L0 L _ _ Q r hS g1.2.1 (by rw [List.length_append]; omega) (by omega) ho hd hr (k.mv hff)
set_option maxRecDepth 20000 in
set_option maxHeartbeats 4000000 in
theorem t_O1 {l : Launch} {E : pmE} {S : pmS} {P : pmP} {tx : Nat → Nat} {n cnt : Nat} {pa : List Int64} {f : Nat} (hG : sh_St S) (hP : gr_St P) (hn9 : n ≤ 120) (hb : ∀ j, j < n → tx j < 128) (hL : sL l E S P tx n cnt pa f 2) (hO : sO l E S P tx n cnt pa f 1) : sO l E S P tx n cnt pa (f + 1) 1 := by
  intro d a op k L0 acc I J Q r hs ha hl hk ho hd hr kk
  have hkc := (tk_k_c (tx := tx) (n := n) (i := a) hb).1
  have hcn := hs.1.2.1
  rw [ps_o _ _ _ _ _ _ (by omega) (by omega)] at hr
  refine pw_iload dX3_readLevel_39 rfl ?_
  refine pw_iload_n dX3_readLevel_41 rfl ?_
  refine pw_icmpN_ge _ _ (tgt := 133) dX3_readLevel_42 (by decide) (rfl) (show nI (if (1 : Nat) = 0 then 1 else 60) = nI 60 from rfl) (by omega) (by omega) (fun h42 => ?_) (fun h42 => ?_)
  · exact pw_vret dX3_readLevel_133 rfl (by rw [if_neg (fun q => by have h60 := tk_60 (tx := tx) (n := n) (a := a) (lvl_c q.1 (by omega) (by omega)).1 (lvl_c q.1 (by omega) (by omega)).2; omega)] at hr; exact kk.1 a acc _ _ (Option.some.inj hr).symm hs fr8.refl)
  · refine pw_aload_n dX3_readLevel_45 rfl ?_
    refine pw_getR fX3_24 dX3_readLevel_46 (sh_lt hG (by decide)) (sh_tg hG 6 rfl) rfl (gr_at hP 8 rfl) ?_
    refine pw_aload_n dX3_readLevel_49 rfl ?_
    refine pw_getI fX3_39 dX3_readLevel_50 (sh_lt hG (by decide)) (sh_tg hG 6 rfl) rfl ?_
    refine pw_ti (z := nI a) hs.2.2.1 ?_
    refine pw_callV (as := [_]) (kc' := 0) (ks' := 0) lX3_48 dX3_readLevel_53 rfl rfl (sh_lt hG (by decide)) (sh_tg hG 2 rfl) (Nat.le_of_ble_eq_true rfl) (by omega) (Nat.le_of_ble_eq_true rfl) (Nat.zero_le _) (Nat.zero_le _) ?_
    refine c_kd hG hP hs.1 ha ?_
    refine pw_callS (as := [_]) (kc' := 0) (ks' := 0) lX3_148 dX3_readLevel_56 rfl rfl (Nat.le_of_ble_eq_true rfl) (by omega) (Nat.le_of_ble_eq_true rfl) (Nat.zero_le _) (Nat.zero_le _) ?_
    refine c_X3_levelOf (lv := 1) hkc (by decide) (fun z hz1 hz2 => ?_)
    refine pw_iload_n dX3_readLevel_59 rfl ?_
    refine pw_icmp_ne (tgt := 133) dX3_readLevel_60 (by decide) (fun h60 => ?_) (fun h60 => ?_)
    · exact pw_vret dX3_readLevel_133 rfl (by rw [if_neg (fun q => h60 (hz1 q.1))] at hr; exact kk.1 a acc _ _ (Option.some.inj hr).symm hs fr8.refl)
    · have hc : lvl (tk_k tx n a) = 1 := Decidable.byContradiction (fun q => hz2 q h60)
      have hc01 := lvl_c (m := 12) hc (by omega) (by omega)
      have ha60 := tk_60 hc01.1 hc01.2
      have hac := tk_cnt hs.1 hc01.1
      rw [if_pos ⟨hc, fun _ => by omega⟩] at hr
      refine pw_aload_n dX3_readLevel_63 rfl ?_
      refine pw_getR fX3_24 dX3_readLevel_64 (sh_lt hG (by decide)) (sh_tg hG 6 rfl) rfl (gr_at hP 8 rfl) ?_
      refine pw_aload_n dX3_readLevel_67 rfl ?_
      refine pw_getI fX3_39 dX3_readLevel_68 (sh_lt hG (by decide)) (sh_tg hG 6 rfl) rfl ?_
      refine pw_ti (z := nI a) hs.2.2.1 ?_
      refine pw_callV (as := [_]) (kc' := 0) (ks' := 0) lX3_48 dX3_readLevel_71 rfl rfl (sh_lt hG (by decide)) (sh_tg hG 2 rfl) (Nat.le_of_ble_eq_true rfl) (by omega) (Nat.le_of_ble_eq_true rfl) (Nat.zero_le _) (Nat.zero_le _) ?_
      refine c_kd hG hP hs.1 ha ?_
      refine pw_istore (lv' := [(5, _), (4, _), (3, _), (2, _), (0, _), (1, _)]) dX3_readLevel_74 (by decide) rfl ?_
      refine pw_aload_n dX3_readLevel_76 rfl ?_
      refine pw_getR fX3_24 dX3_readLevel_77 (sh_lt hG (by decide)) (sh_tg hG 6 rfl) rfl (gr_at hP 8 rfl) ?_
      refine pw_aload_n dX3_readLevel_80 rfl ?_
      refine pw_getI fX3_39 dX3_readLevel_81 (sh_lt hG (by decide)) (sh_tg hG 6 rfl) rfl ?_
      refine pw_ti (z := nI a) hs.2.2.1 ?_
      refine pw_callV (as := [_]) (kc' := 0) (ks' := 0) lX3_132 dX3_readLevel_84 rfl rfl (sh_lt hG (by decide)) (sh_tg hG 2 rfl) (Nat.le_of_ble_eq_true rfl) (by omega) (Nat.le_of_ble_eq_true rfl) (Nat.zero_le _) (Nat.zero_le _) ?_
      refine c_pl hG hP hs.1 ha ?_
      refine pw_istore (lv' := [(6, _), (5, _), (4, _), (3, _), (2, _), (0, _), (1, _)]) dX3_readLevel_87 (by decide) rfl ?_
      refine pw_aload_n dX3_readLevel_89 rfl ?_
      refine pw_getR fX3_14 dX3_readLevel_90 (sh_lt hG (by decide)) (sh_tg hG 6 rfl) rfl (gr_at hP 9 rfl) ?_
      refine pw_iload_n dX3_readLevel_93 rfl ?_
      refine pw_iload dX3_readLevel_94 rfl ?_
      refine pw_callV (as := [_, _]) (kc' := 0) (ks' := 0) lX3_139 dX3_readLevel_96 rfl rfl (sh_lt hG (by decide)) (sh_tg hG 7 rfl) (Nat.le_of_ble_eq_true rfl) (by omega) (Nat.le_of_ble_eq_true rfl) (Nat.zero_le _) (Nat.zero_le _) ?_
      refine c_X0_begin hG hP (by omega) hs.2.2.2.2.2 (by omega) rfl 0 0 (fun I2 J2 hc2 hf2 => ?_)
      have hS2 := hs.cd' hc2 hf2
      have hff := fr8.code hf2
      refine pw_aload_n dX3_readLevel_99 rfl ?_
      refine pw_dup dX3_readLevel_100 rfl ?_
      refine pw_getI fX3_39 dX3_readLevel_101 (sh_lt hG (by decide)) (sh_tg hG 6 rfl) rfl ?_
      refine pw_iconst (v := nI 1) dX3_readLevel_104 (by decide) ?_
      refine pw_iadd dX3_readLevel_105 ?_
      refine pw_ti (z := nI (a + 1)) (by rw [hS2.2.2.1]; exact nI_add a 1) ?_
      refine pw_putI fX3_39 dX3_readLevel_106 (Or.inl rfl) (by decide) (sh_lt hG (by decide)) (sh_tg hG 6 rfl) rfl ?_
      refine pw_aload_n dX3_readLevel_109 rfl ?_
      refine pw_iload_n dX3_readLevel_110 rfl ?_
      refine pw_iconst (v := nI 1) dX3_readLevel_111 (by decide) ?_
      refine pw_iadd dX3_readLevel_112 ?_
      refine pw_ti (z := nI 2) (by decide) ?_
      refine pw_callV (as := [_]) (kc' := 0) (ks' := 0) lX3_126 dX3_readLevel_113 rfl rfl (sh_lt hG (by decide)) (sh_tg hG 6 rfl) (Nat.le_of_ble_eq_true rfl) (by omega) (Nat.le_of_ble_eq_true rfl) (Nat.zero_le _) (Nat.zero_le _) ?_
      have hS3 := hS2.at' (a + 1)
      have hff := hff.trans (fr8.put (k := 6) (x := nI (a + 1)) (by decide) (by decide))
      have hl3 : (L0 ++ (1, tk_p tx n a, 0, 0) :: acc).length ≤ 2 * (a + 1) := by simp only [List.length_append, List.length_cons] at hl ⊢; omega
      rcases pb_so hr with ⟨e, h1, he⟩ | ⟨b, L, h1, hr⟩
      · refine hL _ _ _ _ _ _ _ _ hS3 (by omega) ⟨hl3, by omega⟩ ho (by omega) h1 ⟨(fun b' L' I' J' hh => nomatch hh), fun e' I' J' hh hF hff9 => ?_⟩
        cases hh
        have hff := hff.trans hff9
        refine pw_aload_n dX3_readLevel_116 rfl ?_
        refine pw_getR fX3_14 dX3_readLevel_117 (sh_lt hG (by decide)) (sh_tg hG 6 rfl) rfl (gr_at hP 9 rfl) ?_
        refine pw_iload dX3_readLevel_120 rfl ?_
        refine pw_iload dX3_readLevel_122 rfl ?_
        refine pw_callV (as := [_, _]) (kc' := 0) (ks' := 0) lX3_73 dX3_readLevel_124 rfl rfl (sh_lt hG (by decide)) (sh_tg hG 7 rfl) (Nat.le_of_ble_eq_true rfl) (by omega) (Nat.le_of_ble_eq_true rfl) (Nat.zero_le _) (Nat.zero_le _) ?_
        unfold pm_Met
        refine pm_lvs (lv' := [(0, _), (1, _), (2, _)]) rfl ?_
        refine pw_aload_n dX0_add_0 rfl ?_
        refine pw_iload_n dX0_add_1 rfl ?_
        refine pw_iload_n dX0_add_2 rfl ?_
        refine pw_iconst (v := nI 0) dX0_add_3 (by decide) ?_
        refine pw_lconst (v := 0) dX0_add_4 (by decide) ?_
        refine pw_callV (as := [_, _, _, _]) (kc' := 0) (ks' := 0) lX0_32 dX0_add_5 rfl rfl (sh_lt hG (by decide)) (sh_tg hG 7 rfl) (Nat.le_of_ble_eq_true rfl) (by omega) (Nat.le_of_ble_eq_true rfl) (Nat.zero_le _) (Nat.zero_le _) ?_
        refine c_X0_addWithF hG hP hF.2.2.2.2 (fun I9 J9 hz9 hc9 => ?_)
        have hF := hF.cd' hz9 hc9
        have hff := hff.trans (fr8.code hc9)
        refine pw_vret dX0_add_8 rfl ?_
        refine pw_iinc (lv' := [(4, _), (6, _), (5, _), (3, _), (2, _), (0, _), (1, _)]) dX3_readLevel_127 rfl (by decide) rfl ?_
        refine pw_goto (tgt := 39) dX3_readLevel_130 (by decide) ?_
        refine pw_iload dX3_readLevel_39 rfl ?_
        refine pw_iload_n dX3_readLevel_41 rfl ?_
        refine pw_icmp_ge (tgt := 133) dX3_readLevel_42 (by decide) (fun h42 => ?_) (fun h42 => ?_)
        · exact pw_vret dX3_readLevel_133 rfl (kk.2 e _ _ he hF hff)
        · refine pw_aload_n dX3_readLevel_45 rfl ?_
          refine pw_getR fX3_24 dX3_readLevel_46 (sh_lt hG (by decide)) (sh_tg hG 6 rfl) rfl (gr_at hP 8 rfl) ?_
          refine pw_aload_n dX3_readLevel_49 rfl ?_
          refine pw_getI fX3_39 dX3_readLevel_50 (sh_lt hG (by decide)) (sh_tg hG 6 rfl) rfl ?_
          refine pw_ti (z := nI cnt) hF.2.2.1 ?_
          refine pw_callV (as := [_]) (kc' := 0) (ks' := 0) lX3_48 dX3_readLevel_53 rfl rfl (sh_lt hG (by decide)) (sh_tg hG 2 rfl) (Nat.le_of_ble_eq_true rfl) (by omega) (Nat.le_of_ble_eq_true rfl) (Nat.zero_le _) (Nat.zero_le _) ?_
          refine c_kd hG hP hF.1 (Nat.le_refl _) ?_
          refine pw_ti (z := nI 0) (by rw [tk_end0 hF.1]) ?_
          refine pw_callS (as := [_]) (kc' := 0) (ks' := 0) lX3_148 dX3_readLevel_56 rfl rfl (Nat.le_of_ble_eq_true rfl) (by omega) (Nat.le_of_ble_eq_true rfl) (Nat.zero_le _) (Nat.zero_le _) ?_
          unfold pm_Met
          refine pm_lvs (lv' := [(0, _)]) rfl ?_
          refine pw_iload_n dX3_levelOf_0 rfl ?_
          refine pw_tableOut (tgt := 128) dX3_levelOf_1 (by decide) (by decide) ?_
          refine pw_bipush (v := -5) dX3_levelOf_128 (by decide) ?_
          refine pw_iret dX3_levelOf_130 rfl ?_
          refine pw_iload_n dX3_readLevel_59 rfl ?_
          refine pw_icmp_ne (tgt := 133) dX3_readLevel_60 (by decide) (fun h60 => ?_) (fun h => absurd h (by decide))
          exact pw_vret dX3_readLevel_133 rfl (kk.2 e _ _ he hF hff)
      · have g1 := ps_cnt hS3.1 (by omega) (by omega) h1
        have g1' := g1.2.2 (by omega)
        have g1c := ps_60 (by omega) h1
        refine hL _ _ _ _ _ _ _ _ hS3 (by omega) ⟨hl3, by omega⟩ ho (by omega) h1 ⟨fun b' L' I' J' hh hS4 hff9 => ?_, (fun e' I' J' hh => nomatch hh)⟩
        cases hh
        have hff := hff.trans hff9
        have hl4 : ((L0 ++ (1, tk_p tx n a, 0, 0) :: acc) ++ L).length < 2 * b := by simp only [List.length_append, List.length_cons] at hl ⊢; omega
        refine pw_aload_n dX3_readLevel_116 rfl ?_
        refine pw_getR fX3_14 dX3_readLevel_117 (sh_lt hG (by decide)) (sh_tg hG 6 rfl) rfl (gr_at hP 9 rfl) ?_
        refine pw_iload dX3_readLevel_120 rfl ?_
        refine pw_iload dX3_readLevel_122 rfl ?_
        refine pw_callV (as := [_, _]) (kc' := 0) (ks' := 0) lX3_73 dX3_readLevel_124 rfl rfl (sh_lt hG (by decide)) (sh_tg hG 7 rfl) (Nat.le_of_ble_eq_true rfl) (by omega) (Nat.le_of_ble_eq_true rfl) (Nat.zero_le _) (Nat.zero_le _) ?_
        unfold pm_Met
        refine pm_lvs (lv' := [(0, _), (1, _), (2, _)]) rfl ?_
        refine pw_aload_n dX0_add_0 rfl ?_
        refine pw_iload_n dX0_add_1 rfl ?_
        refine pw_iload_n dX0_add_2 rfl ?_
        refine pw_iconst (v := nI 0) dX0_add_3 (by decide) ?_
        refine pw_lconst (v := 0) dX0_add_4 (by decide) ?_
        refine pw_callV (as := [_, _, _, _]) (kc' := 0) (ks' := 0) lX0_32 dX0_add_5 rfl rfl (sh_lt hG (by decide)) (sh_tg hG 7 rfl) (Nat.le_of_ble_eq_true rfl) (by omega) (Nat.le_of_ble_eq_true rfl) (Nat.zero_le _) (Nat.zero_le _) ?_
        refine c_X0_addWith hG hP hS4.2.2.2.2.2 (by omega) (c := 0) (fun I5 J5 hc5 hf5 => ?_)
        have hS5 := hS4.cd' hc5 hf5
        have hff := hff.trans (fr8.code hf5)
        refine pw_vret dX0_add_8 rfl ?_
        refine pw_iinc (lv' := [(4, _), (6, _), (5, _), (3, _), (2, _), (0, _), (1, _)]) dX3_readLevel_127 rfl (by decide) rfl ?_
        refine pw_goto (tgt := 39) dX3_readLevel_130 (by decide) ?_
        refine pw_sub [0, 3, 4, 5, 6] rfl ?_
        rw [show nI k + Int32.ofInt 1 = nI (k + 1) from nI_1 k]
        exact hO d b op (k + 1) L0 ((1, tk_p tx n a, 0, 0) :: (acc ++ (L ++ [(tk_k tx n a, tk_p tx n a, 0, 0)]))) _ _ Q r (by simp only [List.append_assoc, List.cons_append] at hS5 ⊢; exact hS5) g1.2.1 (by simp only [List.length_append, List.length_cons, List.length_nil] at hl4 ⊢; omega) (by omega) ho hd hr (kk.mv hff)
set_option maxRecDepth 20000 in
set_option maxHeartbeats 4000000 in
theorem t_L1 {l : Launch} {E : pmE} {S : pmS} {P : pmP} {tx : Nat → Nat} {n cnt : Nat} {pa : List Int64} {f : Nat} (hG : sh_St S) (hP : gr_St P) (hn9 : n ≤ 120) (hb : ∀ j, j < n → tx j < 128) (hL : sL l E S P tx n cnt pa f 2) (hO : sO l E S P tx n cnt pa f 1) : sL l E S P tx n cnt pa (f + 1) 1 := by
  intro d a op L0 I J Q r hs ha hl ho hd hr k
  unfold pm_Met
  refine pm_lvs (lv' := [(0, _), (1, _)]) rfl ?_
  rw [ps_l _ _ _ _ _ _ (by omega) (by omega)] at hr
  refine pw_iload_n dX3_readLevel_0 rfl ?_
  refine pw_iconst (v := nI 3) dX3_readLevel_1 (by decide) ?_
  refine pw_icmp_lt (tgt := 10) dX3_readLevel_2 (by decide) (fun h2 => ?_) (fun h => absurd (by decide) h)
  refine pw_aload_n dX3_readLevel_10 rfl ?_
  refine pw_getR fX3_14 dX3_readLevel_11 (sh_lt hG (by decide)) (sh_tg hG 6 rfl) rfl (gr_at hP 9 rfl) ?_
  refine pw_callV (as := []) (kc' := 0) (ks' := 0) lX3_122 dX3_readLevel_14 rfl rfl (sh_lt hG (by decide)) (sh_tg hG 7 rfl) (Nat.le_of_ble_eq_true rfl) (by omega) (Nat.le_of_ble_eq_true rfl) (Nat.zero_le _) (Nat.zero_le _) ?_
  unfold pm_Met
  refine pm_lvs (lv' := [(0, _)]) rfl ?_
  refine pw_aload_n dX0_size_0 rfl ?_
  refine pw_getI fX0_25 dX0_size_1 (sh_lt hG (by decide)) (sh_tg hG 7 rfl) rfl ?_
  refine pw_iret dX0_size_4 rfl ?_
  refine pw_ti (z := nI L0.length) hs.2.2.2.2.2.1 ?_
  refine pw_istore_n (lv' := [(2, _), (0, _), (1, _)]) dX3_readLevel_17 (by decide) rfl ?_
  refine pw_iload_n dX3_readLevel_18 rfl ?_
  refine pw_if_ne (tgt := 26) dX3_readLevel_19 (by decide) (fun h19 => ?_) (fun h => absurd h (by decide))
  refine pw_bipush (v := nI 60) dX3_readLevel_26 (by decide) ?_
  refine pw_istore_n (lv' := [(3, _), (2, _), (0, _), (1, _)]) dX3_readLevel_28 (by decide) rfl ?_
  refine pw_aload_n dX3_readLevel_29 rfl ?_
  refine pw_iload_n dX3_readLevel_30 rfl ?_
  refine pw_iconst (v := nI 1) dX3_readLevel_31 (by decide) ?_
  refine pw_iadd dX3_readLevel_32 ?_
  refine pw_ti (z := nI 2) (by decide) ?_
  refine pw_callV (as := [_]) (kc' := 0) (ks' := 0) lX3_126 dX3_readLevel_33 rfl rfl (sh_lt hG (by decide)) (sh_tg hG 6 rfl) (Nat.le_of_ble_eq_true rfl) (by omega) (Nat.le_of_ble_eq_true rfl) (Nat.zero_le _) (Nat.zero_le _) ?_
  rcases pb_so hr with ⟨e, h1, he⟩ | ⟨b, L, h1, hr⟩
  · refine hL _ _ _ _ _ _ _ _ hs ha hl ho (by omega) h1 ⟨(fun b' L' I' J' hh => nomatch hh), fun e' I' J' hh hF hff => ?_⟩
    cases hh
    refine pw_iconst (v := nI 0) dX3_readLevel_36 (by decide) ?_
    refine pw_istore (lv' := [(4, _), (3, _), (2, _), (0, _), (1, _)]) dX3_readLevel_37 (by decide) rfl ?_
    refine pw_iload dX3_readLevel_39 rfl ?_
    refine pw_iload_n dX3_readLevel_41 rfl ?_
    refine pw_icmp_ge (tgt := 133) dX3_readLevel_42 (by decide) (fun h42 => ?_) (fun h42 => ?_)
    · exact pw_vret dX3_readLevel_133 rfl (k.2 e _ _ he hF hff)
    · refine pw_aload_n dX3_readLevel_45 rfl ?_
      refine pw_getR fX3_24 dX3_readLevel_46 (sh_lt hG (by decide)) (sh_tg hG 6 rfl) rfl (gr_at hP 8 rfl) ?_
      refine pw_aload_n dX3_readLevel_49 rfl ?_
      refine pw_getI fX3_39 dX3_readLevel_50 (sh_lt hG (by decide)) (sh_tg hG 6 rfl) rfl ?_
      refine pw_ti (z := nI cnt) hF.2.2.1 ?_
      refine pw_callV (as := [_]) (kc' := 0) (ks' := 0) lX3_48 dX3_readLevel_53 rfl rfl (sh_lt hG (by decide)) (sh_tg hG 2 rfl) (Nat.le_of_ble_eq_true rfl) (by omega) (Nat.le_of_ble_eq_true rfl) (Nat.zero_le _) (Nat.zero_le _) ?_
      refine c_kd hG hP hF.1 (Nat.le_refl _) ?_
      refine pw_ti (z := nI 0) (by rw [tk_end0 hF.1]) ?_
      refine pw_callS (as := [_]) (kc' := 0) (ks' := 0) lX3_148 dX3_readLevel_56 rfl rfl (Nat.le_of_ble_eq_true rfl) (by omega) (Nat.le_of_ble_eq_true rfl) (Nat.zero_le _) (Nat.zero_le _) ?_
      unfold pm_Met
      refine pm_lvs (lv' := [(0, _)]) rfl ?_
      refine pw_iload_n dX3_levelOf_0 rfl ?_
      refine pw_tableOut (tgt := 128) dX3_levelOf_1 (by decide) (by decide) ?_
      refine pw_bipush (v := -5) dX3_levelOf_128 (by decide) ?_
      refine pw_iret dX3_levelOf_130 rfl ?_
      refine pw_iload_n dX3_readLevel_59 rfl ?_
      refine pw_icmp_ne (tgt := 133) dX3_readLevel_60 (by decide) (fun h60 => ?_) (fun h => absurd h (by decide))
      exact pw_vret dX3_readLevel_133 rfl (k.2 e _ _ he hF hff)
  · have g1 := ps_cnt hs.1 (by omega) ha h1
    have g1' := g1.2.2 (by omega)
    have g1c := ps_60 (by omega) h1
    refine hL _ _ _ _ _ _ _ _ hs ha hl ho (by omega) h1 ⟨fun b' L' I' J' hh hS hff => ?_, (fun e' I' J' hh => nomatch hh)⟩
    cases hh
    refine pw_iconst (v := nI 0) dX3_readLevel_36 (by decide) ?_
    refine pw_istore (lv' := [(4, _), (3, _), (2, _), (0, _), (1, _)]) dX3_readLevel_37 (by decide) rfl ?_
    refine pw_sub [0, 1, 2, 3, 4] rfl ?_
    exact hO d b op 0 L0 L _ _ Q r hS g1.2.1 (by rw [List.length_append]; omega) (by omega) ho hd hr (k.mv hff)
set_option maxRecDepth 20000 in
set_option maxHeartbeats 4000000 in
theorem t_O2 {l : Launch} {E : pmE} {S : pmS} {P : pmP} {tx : Nat → Nat} {n cnt : Nat} {pa : List Int64} {f : Nat} (hG : sh_St S) (hP : gr_St P) (hn9 : n ≤ 120) (hb : ∀ j, j < n → tx j < 128) (hL : sL l E S P tx n cnt pa f 3) (hO : sO l E S P tx n cnt pa f 2) : sO l E S P tx n cnt pa (f + 1) 2 := by
  intro d a op k L0 acc I J Q r hs ha hl hk ho hd hr kk
  have hkc := (tk_k_c (tx := tx) (n := n) (i := a) hb).1
  have hcn := hs.1.2.1
  rw [ps_o _ _ _ _ _ _ (by omega) (by omega)] at hr
  refine pw_iload dX3_readLevel_39 rfl ?_
  refine pw_iload_n dX3_readLevel_41 rfl ?_
  refine pw_icmpN_ge _ _ (tgt := 133) dX3_readLevel_42 (by decide) (rfl) (show nI (if (2 : Nat) = 0 then 1 else 60) = nI 60 from rfl) (by omega) (by omega) (fun h42 => ?_) (fun h42 => ?_)
  · exact pw_vret dX3_readLevel_133 rfl (by rw [if_neg (fun q => by have h60 := tk_60 (tx := tx) (n := n) (a := a) (lvl_c q.1 (by omega) (by omega)).1 (lvl_c q.1 (by omega) (by omega)).2; omega)] at hr; exact kk.1 a acc _ _ (Option.some.inj hr).symm hs fr8.refl)
  · refine pw_aload_n dX3_readLevel_45 rfl ?_
    refine pw_getR fX3_24 dX3_readLevel_46 (sh_lt hG (by decide)) (sh_tg hG 6 rfl) rfl (gr_at hP 8 rfl) ?_
    refine pw_aload_n dX3_readLevel_49 rfl ?_
    refine pw_getI fX3_39 dX3_readLevel_50 (sh_lt hG (by decide)) (sh_tg hG 6 rfl) rfl ?_
    refine pw_ti (z := nI a) hs.2.2.1 ?_
    refine pw_callV (as := [_]) (kc' := 0) (ks' := 0) lX3_48 dX3_readLevel_53 rfl rfl (sh_lt hG (by decide)) (sh_tg hG 2 rfl) (Nat.le_of_ble_eq_true rfl) (by omega) (Nat.le_of_ble_eq_true rfl) (Nat.zero_le _) (Nat.zero_le _) ?_
    refine c_kd hG hP hs.1 ha ?_
    refine pw_callS (as := [_]) (kc' := 0) (ks' := 0) lX3_148 dX3_readLevel_56 rfl rfl (Nat.le_of_ble_eq_true rfl) (by omega) (Nat.le_of_ble_eq_true rfl) (Nat.zero_le _) (Nat.zero_le _) ?_
    refine c_X3_levelOf (lv := 2) hkc (by decide) (fun z hz1 hz2 => ?_)
    refine pw_iload_n dX3_readLevel_59 rfl ?_
    refine pw_icmp_ne (tgt := 133) dX3_readLevel_60 (by decide) (fun h60 => ?_) (fun h60 => ?_)
    · exact pw_vret dX3_readLevel_133 rfl (by rw [if_neg (fun q => h60 (hz1 q.1))] at hr; exact kk.1 a acc _ _ (Option.some.inj hr).symm hs fr8.refl)
    · have hc : lvl (tk_k tx n a) = 2 := Decidable.byContradiction (fun q => hz2 q h60)
      have hc01 := lvl_c (m := 13) hc (by omega) (by omega)
      have ha60 := tk_60 hc01.1 hc01.2
      have hac := tk_cnt hs.1 hc01.1
      rw [if_pos ⟨hc, fun _ => by omega⟩] at hr
      refine pw_aload_n dX3_readLevel_63 rfl ?_
      refine pw_getR fX3_24 dX3_readLevel_64 (sh_lt hG (by decide)) (sh_tg hG 6 rfl) rfl (gr_at hP 8 rfl) ?_
      refine pw_aload_n dX3_readLevel_67 rfl ?_
      refine pw_getI fX3_39 dX3_readLevel_68 (sh_lt hG (by decide)) (sh_tg hG 6 rfl) rfl ?_
      refine pw_ti (z := nI a) hs.2.2.1 ?_
      refine pw_callV (as := [_]) (kc' := 0) (ks' := 0) lX3_48 dX3_readLevel_71 rfl rfl (sh_lt hG (by decide)) (sh_tg hG 2 rfl) (Nat.le_of_ble_eq_true rfl) (by omega) (Nat.le_of_ble_eq_true rfl) (Nat.zero_le _) (Nat.zero_le _) ?_
      refine c_kd hG hP hs.1 ha ?_
      refine pw_istore (lv' := [(5, _), (4, _), (3, _), (2, _), (0, _), (1, _)]) dX3_readLevel_74 (by decide) rfl ?_
      refine pw_aload_n dX3_readLevel_76 rfl ?_
      refine pw_getR fX3_24 dX3_readLevel_77 (sh_lt hG (by decide)) (sh_tg hG 6 rfl) rfl (gr_at hP 8 rfl) ?_
      refine pw_aload_n dX3_readLevel_80 rfl ?_
      refine pw_getI fX3_39 dX3_readLevel_81 (sh_lt hG (by decide)) (sh_tg hG 6 rfl) rfl ?_
      refine pw_ti (z := nI a) hs.2.2.1 ?_
      refine pw_callV (as := [_]) (kc' := 0) (ks' := 0) lX3_132 dX3_readLevel_84 rfl rfl (sh_lt hG (by decide)) (sh_tg hG 2 rfl) (Nat.le_of_ble_eq_true rfl) (by omega) (Nat.le_of_ble_eq_true rfl) (Nat.zero_le _) (Nat.zero_le _) ?_
      refine c_pl hG hP hs.1 ha ?_
      refine pw_istore (lv' := [(6, _), (5, _), (4, _), (3, _), (2, _), (0, _), (1, _)]) dX3_readLevel_87 (by decide) rfl ?_
      refine pw_aload_n dX3_readLevel_89 rfl ?_
      refine pw_getR fX3_14 dX3_readLevel_90 (sh_lt hG (by decide)) (sh_tg hG 6 rfl) rfl (gr_at hP 9 rfl) ?_
      refine pw_iload_n dX3_readLevel_93 rfl ?_
      refine pw_iload dX3_readLevel_94 rfl ?_
      refine pw_callV (as := [_, _]) (kc' := 0) (ks' := 0) lX3_139 dX3_readLevel_96 rfl rfl (sh_lt hG (by decide)) (sh_tg hG 7 rfl) (Nat.le_of_ble_eq_true rfl) (by omega) (Nat.le_of_ble_eq_true rfl) (Nat.zero_le _) (Nat.zero_le _) ?_
      refine c_X0_begin hG hP (by omega) hs.2.2.2.2.2 (by omega) rfl 0 0 (fun I2 J2 hc2 hf2 => ?_)
      have hS2 := hs.cd' hc2 hf2
      have hff := fr8.code hf2
      refine pw_aload_n dX3_readLevel_99 rfl ?_
      refine pw_dup dX3_readLevel_100 rfl ?_
      refine pw_getI fX3_39 dX3_readLevel_101 (sh_lt hG (by decide)) (sh_tg hG 6 rfl) rfl ?_
      refine pw_iconst (v := nI 1) dX3_readLevel_104 (by decide) ?_
      refine pw_iadd dX3_readLevel_105 ?_
      refine pw_ti (z := nI (a + 1)) (by rw [hS2.2.2.1]; exact nI_add a 1) ?_
      refine pw_putI fX3_39 dX3_readLevel_106 (Or.inl rfl) (by decide) (sh_lt hG (by decide)) (sh_tg hG 6 rfl) rfl ?_
      refine pw_aload_n dX3_readLevel_109 rfl ?_
      refine pw_iload_n dX3_readLevel_110 rfl ?_
      refine pw_iconst (v := nI 1) dX3_readLevel_111 (by decide) ?_
      refine pw_iadd dX3_readLevel_112 ?_
      refine pw_ti (z := nI 3) (by decide) ?_
      refine pw_callV (as := [_]) (kc' := 0) (ks' := 0) lX3_126 dX3_readLevel_113 rfl rfl (sh_lt hG (by decide)) (sh_tg hG 6 rfl) (Nat.le_of_ble_eq_true rfl) (by omega) (Nat.le_of_ble_eq_true rfl) (Nat.zero_le _) (Nat.zero_le _) ?_
      have hS3 := hS2.at' (a + 1)
      have hff := hff.trans (fr8.put (k := 6) (x := nI (a + 1)) (by decide) (by decide))
      have hl3 : (L0 ++ (1, tk_p tx n a, 0, 0) :: acc).length ≤ 2 * (a + 1) := by simp only [List.length_append, List.length_cons] at hl ⊢; omega
      rcases pb_so hr with ⟨e, h1, he⟩ | ⟨b, L, h1, hr⟩
      · refine hL _ _ _ _ _ _ _ _ hS3 (by omega) ⟨hl3, by omega⟩ ho (by omega) h1 ⟨(fun b' L' I' J' hh => nomatch hh), fun e' I' J' hh hF hff9 => ?_⟩
        cases hh
        have hff := hff.trans hff9
        refine pw_aload_n dX3_readLevel_116 rfl ?_
        refine pw_getR fX3_14 dX3_readLevel_117 (sh_lt hG (by decide)) (sh_tg hG 6 rfl) rfl (gr_at hP 9 rfl) ?_
        refine pw_iload dX3_readLevel_120 rfl ?_
        refine pw_iload dX3_readLevel_122 rfl ?_
        refine pw_callV (as := [_, _]) (kc' := 0) (ks' := 0) lX3_73 dX3_readLevel_124 rfl rfl (sh_lt hG (by decide)) (sh_tg hG 7 rfl) (Nat.le_of_ble_eq_true rfl) (by omega) (Nat.le_of_ble_eq_true rfl) (Nat.zero_le _) (Nat.zero_le _) ?_
        unfold pm_Met
        refine pm_lvs (lv' := [(0, _), (1, _), (2, _)]) rfl ?_
        refine pw_aload_n dX0_add_0 rfl ?_
        refine pw_iload_n dX0_add_1 rfl ?_
        refine pw_iload_n dX0_add_2 rfl ?_
        refine pw_iconst (v := nI 0) dX0_add_3 (by decide) ?_
        refine pw_lconst (v := 0) dX0_add_4 (by decide) ?_
        refine pw_callV (as := [_, _, _, _]) (kc' := 0) (ks' := 0) lX0_32 dX0_add_5 rfl rfl (sh_lt hG (by decide)) (sh_tg hG 7 rfl) (Nat.le_of_ble_eq_true rfl) (by omega) (Nat.le_of_ble_eq_true rfl) (Nat.zero_le _) (Nat.zero_le _) ?_
        refine c_X0_addWithF hG hP hF.2.2.2.2 (fun I9 J9 hz9 hc9 => ?_)
        have hF := hF.cd' hz9 hc9
        have hff := hff.trans (fr8.code hc9)
        refine pw_vret dX0_add_8 rfl ?_
        refine pw_iinc (lv' := [(4, _), (6, _), (5, _), (3, _), (2, _), (0, _), (1, _)]) dX3_readLevel_127 rfl (by decide) rfl ?_
        refine pw_goto (tgt := 39) dX3_readLevel_130 (by decide) ?_
        refine pw_iload dX3_readLevel_39 rfl ?_
        refine pw_iload_n dX3_readLevel_41 rfl ?_
        refine pw_icmp_ge (tgt := 133) dX3_readLevel_42 (by decide) (fun h42 => ?_) (fun h42 => ?_)
        · exact pw_vret dX3_readLevel_133 rfl (kk.2 e _ _ he hF hff)
        · refine pw_aload_n dX3_readLevel_45 rfl ?_
          refine pw_getR fX3_24 dX3_readLevel_46 (sh_lt hG (by decide)) (sh_tg hG 6 rfl) rfl (gr_at hP 8 rfl) ?_
          refine pw_aload_n dX3_readLevel_49 rfl ?_
          refine pw_getI fX3_39 dX3_readLevel_50 (sh_lt hG (by decide)) (sh_tg hG 6 rfl) rfl ?_
          refine pw_ti (z := nI cnt) hF.2.2.1 ?_
          refine pw_callV (as := [_]) (kc' := 0) (ks' := 0) lX3_48 dX3_readLevel_53 rfl rfl (sh_lt hG (by decide)) (sh_tg hG 2 rfl) (Nat.le_of_ble_eq_true rfl) (by omega) (Nat.le_of_ble_eq_true rfl) (Nat.zero_le _) (Nat.zero_le _) ?_
          refine c_kd hG hP hF.1 (Nat.le_refl _) ?_
          refine pw_ti (z := nI 0) (by rw [tk_end0 hF.1]) ?_
          refine pw_callS (as := [_]) (kc' := 0) (ks' := 0) lX3_148 dX3_readLevel_56 rfl rfl (Nat.le_of_ble_eq_true rfl) (by omega) (Nat.le_of_ble_eq_true rfl) (Nat.zero_le _) (Nat.zero_le _) ?_
          unfold pm_Met
          refine pm_lvs (lv' := [(0, _)]) rfl ?_
          refine pw_iload_n dX3_levelOf_0 rfl ?_
          refine pw_tableOut (tgt := 128) dX3_levelOf_1 (by decide) (by decide) ?_
          refine pw_bipush (v := -5) dX3_levelOf_128 (by decide) ?_
          refine pw_iret dX3_levelOf_130 rfl ?_
          refine pw_iload_n dX3_readLevel_59 rfl ?_
          refine pw_icmp_ne (tgt := 133) dX3_readLevel_60 (by decide) (fun h60 => ?_) (fun h => absurd h (by decide))
          exact pw_vret dX3_readLevel_133 rfl (kk.2 e _ _ he hF hff)
      · have g1 := ps_cnt hS3.1 (by omega) (by omega) h1
        have g1' := g1.2.2 (by omega)
        have g1c := ps_60 (by omega) h1
        refine hL _ _ _ _ _ _ _ _ hS3 (by omega) ⟨hl3, by omega⟩ ho (by omega) h1 ⟨fun b' L' I' J' hh hS4 hff9 => ?_, (fun e' I' J' hh => nomatch hh)⟩
        cases hh
        have hff := hff.trans hff9
        have hl4 : ((L0 ++ (1, tk_p tx n a, 0, 0) :: acc) ++ L).length < 2 * b := by simp only [List.length_append, List.length_cons] at hl ⊢; omega
        refine pw_aload_n dX3_readLevel_116 rfl ?_
        refine pw_getR fX3_14 dX3_readLevel_117 (sh_lt hG (by decide)) (sh_tg hG 6 rfl) rfl (gr_at hP 9 rfl) ?_
        refine pw_iload dX3_readLevel_120 rfl ?_
        refine pw_iload dX3_readLevel_122 rfl ?_
        refine pw_callV (as := [_, _]) (kc' := 0) (ks' := 0) lX3_73 dX3_readLevel_124 rfl rfl (sh_lt hG (by decide)) (sh_tg hG 7 rfl) (Nat.le_of_ble_eq_true rfl) (by omega) (Nat.le_of_ble_eq_true rfl) (Nat.zero_le _) (Nat.zero_le _) ?_
        unfold pm_Met
        refine pm_lvs (lv' := [(0, _), (1, _), (2, _)]) rfl ?_
        refine pw_aload_n dX0_add_0 rfl ?_
        refine pw_iload_n dX0_add_1 rfl ?_
        refine pw_iload_n dX0_add_2 rfl ?_
        refine pw_iconst (v := nI 0) dX0_add_3 (by decide) ?_
        refine pw_lconst (v := 0) dX0_add_4 (by decide) ?_
        refine pw_callV (as := [_, _, _, _]) (kc' := 0) (ks' := 0) lX0_32 dX0_add_5 rfl rfl (sh_lt hG (by decide)) (sh_tg hG 7 rfl) (Nat.le_of_ble_eq_true rfl) (by omega) (Nat.le_of_ble_eq_true rfl) (Nat.zero_le _) (Nat.zero_le _) ?_
        refine c_X0_addWith hG hP hS4.2.2.2.2.2 (by omega) (c := 0) (fun I5 J5 hc5 hf5 => ?_)
        have hS5 := hS4.cd' hc5 hf5
        have hff := hff.trans (fr8.code hf5)
        refine pw_vret dX0_add_8 rfl ?_
        refine pw_iinc (lv' := [(4, _), (6, _), (5, _), (3, _), (2, _), (0, _), (1, _)]) dX3_readLevel_127 rfl (by decide) rfl ?_
        refine pw_goto (tgt := 39) dX3_readLevel_130 (by decide) ?_
        refine pw_sub [0, 3, 4, 5, 6] rfl ?_
        rw [show nI k + Int32.ofInt 1 = nI (k + 1) from nI_1 k]
        exact hO d b op (k + 1) L0 ((1, tk_p tx n a, 0, 0) :: (acc ++ (L ++ [(tk_k tx n a, tk_p tx n a, 0, 0)]))) _ _ Q r (by simp only [List.append_assoc, List.cons_append] at hS5 ⊢; exact hS5) g1.2.1 (by simp only [List.length_append, List.length_cons, List.length_nil] at hl4 ⊢; omega) (by omega) ho hd hr (kk.mv hff)
set_option maxRecDepth 20000 in
set_option maxHeartbeats 4000000 in
theorem t_L2 {l : Launch} {E : pmE} {S : pmS} {P : pmP} {tx : Nat → Nat} {n cnt : Nat} {pa : List Int64} {f : Nat} (hG : sh_St S) (hP : gr_St P) (hn9 : n ≤ 120) (hb : ∀ j, j < n → tx j < 128) (hL : sL l E S P tx n cnt pa f 3) (hO : sO l E S P tx n cnt pa f 2) : sL l E S P tx n cnt pa (f + 1) 2 := by
  intro d a op L0 I J Q r hs ha hl ho hd hr k
  unfold pm_Met
  refine pm_lvs (lv' := [(0, _), (1, _)]) rfl ?_
  rw [ps_l _ _ _ _ _ _ (by omega) (by omega)] at hr
  refine pw_iload_n dX3_readLevel_0 rfl ?_
  refine pw_iconst (v := nI 3) dX3_readLevel_1 (by decide) ?_
  refine pw_icmp_lt (tgt := 10) dX3_readLevel_2 (by decide) (fun h2 => ?_) (fun h => absurd (by decide) h)
  refine pw_aload_n dX3_readLevel_10 rfl ?_
  refine pw_getR fX3_14 dX3_readLevel_11 (sh_lt hG (by decide)) (sh_tg hG 6 rfl) rfl (gr_at hP 9 rfl) ?_
  refine pw_callV (as := []) (kc' := 0) (ks' := 0) lX3_122 dX3_readLevel_14 rfl rfl (sh_lt hG (by decide)) (sh_tg hG 7 rfl) (Nat.le_of_ble_eq_true rfl) (by omega) (Nat.le_of_ble_eq_true rfl) (Nat.zero_le _) (Nat.zero_le _) ?_
  unfold pm_Met
  refine pm_lvs (lv' := [(0, _)]) rfl ?_
  refine pw_aload_n dX0_size_0 rfl ?_
  refine pw_getI fX0_25 dX0_size_1 (sh_lt hG (by decide)) (sh_tg hG 7 rfl) rfl ?_
  refine pw_iret dX0_size_4 rfl ?_
  refine pw_ti (z := nI L0.length) hs.2.2.2.2.2.1 ?_
  refine pw_istore_n (lv' := [(2, _), (0, _), (1, _)]) dX3_readLevel_17 (by decide) rfl ?_
  refine pw_iload_n dX3_readLevel_18 rfl ?_
  refine pw_if_ne (tgt := 26) dX3_readLevel_19 (by decide) (fun h19 => ?_) (fun h => absurd h (by decide))
  refine pw_bipush (v := nI 60) dX3_readLevel_26 (by decide) ?_
  refine pw_istore_n (lv' := [(3, _), (2, _), (0, _), (1, _)]) dX3_readLevel_28 (by decide) rfl ?_
  refine pw_aload_n dX3_readLevel_29 rfl ?_
  refine pw_iload_n dX3_readLevel_30 rfl ?_
  refine pw_iconst (v := nI 1) dX3_readLevel_31 (by decide) ?_
  refine pw_iadd dX3_readLevel_32 ?_
  refine pw_ti (z := nI 3) (by decide) ?_
  refine pw_callV (as := [_]) (kc' := 0) (ks' := 0) lX3_126 dX3_readLevel_33 rfl rfl (sh_lt hG (by decide)) (sh_tg hG 6 rfl) (Nat.le_of_ble_eq_true rfl) (by omega) (Nat.le_of_ble_eq_true rfl) (Nat.zero_le _) (Nat.zero_le _) ?_
  rcases pb_so hr with ⟨e, h1, he⟩ | ⟨b, L, h1, hr⟩
  · refine hL _ _ _ _ _ _ _ _ hs ha hl ho (by omega) h1 ⟨(fun b' L' I' J' hh => nomatch hh), fun e' I' J' hh hF hff => ?_⟩
    cases hh
    refine pw_iconst (v := nI 0) dX3_readLevel_36 (by decide) ?_
    refine pw_istore (lv' := [(4, _), (3, _), (2, _), (0, _), (1, _)]) dX3_readLevel_37 (by decide) rfl ?_
    refine pw_iload dX3_readLevel_39 rfl ?_
    refine pw_iload_n dX3_readLevel_41 rfl ?_
    refine pw_icmp_ge (tgt := 133) dX3_readLevel_42 (by decide) (fun h42 => ?_) (fun h42 => ?_)
    · exact pw_vret dX3_readLevel_133 rfl (k.2 e _ _ he hF hff)
    · refine pw_aload_n dX3_readLevel_45 rfl ?_
      refine pw_getR fX3_24 dX3_readLevel_46 (sh_lt hG (by decide)) (sh_tg hG 6 rfl) rfl (gr_at hP 8 rfl) ?_
      refine pw_aload_n dX3_readLevel_49 rfl ?_
      refine pw_getI fX3_39 dX3_readLevel_50 (sh_lt hG (by decide)) (sh_tg hG 6 rfl) rfl ?_
      refine pw_ti (z := nI cnt) hF.2.2.1 ?_
      refine pw_callV (as := [_]) (kc' := 0) (ks' := 0) lX3_48 dX3_readLevel_53 rfl rfl (sh_lt hG (by decide)) (sh_tg hG 2 rfl) (Nat.le_of_ble_eq_true rfl) (by omega) (Nat.le_of_ble_eq_true rfl) (Nat.zero_le _) (Nat.zero_le _) ?_
      refine c_kd hG hP hF.1 (Nat.le_refl _) ?_
      refine pw_ti (z := nI 0) (by rw [tk_end0 hF.1]) ?_
      refine pw_callS (as := [_]) (kc' := 0) (ks' := 0) lX3_148 dX3_readLevel_56 rfl rfl (Nat.le_of_ble_eq_true rfl) (by omega) (Nat.le_of_ble_eq_true rfl) (Nat.zero_le _) (Nat.zero_le _) ?_
      unfold pm_Met
      refine pm_lvs (lv' := [(0, _)]) rfl ?_
      refine pw_iload_n dX3_levelOf_0 rfl ?_
      refine pw_tableOut (tgt := 128) dX3_levelOf_1 (by decide) (by decide) ?_
      refine pw_bipush (v := -5) dX3_levelOf_128 (by decide) ?_
      refine pw_iret dX3_levelOf_130 rfl ?_
      refine pw_iload_n dX3_readLevel_59 rfl ?_
      refine pw_icmp_ne (tgt := 133) dX3_readLevel_60 (by decide) (fun h60 => ?_) (fun h => absurd h (by decide))
      exact pw_vret dX3_readLevel_133 rfl (k.2 e _ _ he hF hff)
  · have g1 := ps_cnt hs.1 (by omega) ha h1
    have g1' := g1.2.2 (by omega)
    have g1c := ps_60 (by omega) h1
    refine hL _ _ _ _ _ _ _ _ hs ha hl ho (by omega) h1 ⟨fun b' L' I' J' hh hS hff => ?_, (fun e' I' J' hh => nomatch hh)⟩
    cases hh
    refine pw_iconst (v := nI 0) dX3_readLevel_36 (by decide) ?_
    refine pw_istore (lv' := [(4, _), (3, _), (2, _), (0, _), (1, _)]) dX3_readLevel_37 (by decide) rfl ?_
    refine pw_sub [0, 1, 2, 3, 4] rfl ?_
    exact hO d b op 0 L0 L _ _ Q r hS g1.2.1 (by rw [List.length_append]; omega) (by omega) ho hd hr (k.mv hff)
set_option maxRecDepth 20000 in
set_option maxHeartbeats 4000000 in
theorem t_L3 {l : Launch} {E : pmE} {S : pmS} {P : pmP} {tx : Nat → Nat} {n cnt : Nat} {pa : List Int64} {f : Nat} (hG : sh_St S) (hP : gr_St P) (hF : sF l E S P tx n cnt pa f) : sL l E S P tx n cnt pa f 3 := by
  intro d a op L0 I J Q r hs ha hl ho hd hr k
  unfold pm_Met
  refine pm_lvs (lv' := [(0, _), (1, _)]) rfl ?_
  refine pw_iload_n dX3_readLevel_0 rfl ?_
  refine pw_iconst (v := nI 3) dX3_readLevel_1 (by decide) ?_
  refine pw_icmp_lt (tgt := 10) dX3_readLevel_2 (by decide) (fun h => absurd h (by decide)) (fun h2 => ?_)
  refine pw_aload_n dX3_readLevel_5 rfl ?_
  refine pw_callV (as := []) (kc' := 0) (ks' := 0) lX3_145 dX3_readLevel_6 rfl rfl (sh_lt hG (by decide)) (sh_tg hG 6 rfl) (Nat.le_of_ble_eq_true rfl) (by omega) (Nat.le_of_ble_eq_true rfl) (Nat.zero_le _) (Nat.zero_le _) ?_
  refine hF _ _ _ _ _ _ _ _ hs ha hl ho (by omega) hr ⟨fun b L I' J' e hS hf => ?_, fun e I' J' he hF hf => ?_⟩
  · exact pw_vret dX3_readLevel_9 rfl (k.1 b L _ _ e hS hf)
  · exact pw_vret dX3_readLevel_9 rfl (k.2 e _ _ he hF hf)
