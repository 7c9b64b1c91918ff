set_option maxRecDepth 20000 in
set_option maxHeartbeats 4000000 in
theorem c_X3_readAtomF {l : Launch} {E : pmE} {d : Nat} {S : pmS} {I : pmI} {J : pmJ} {P : pmP} {Q : Option Value → pmS → pmI → pmJ → pmP → Prop} (hG : sh_St S) (hP : gr_St P) (hd : 4 ≤ d) {tx : Nat → Nat} {n cnt : Nat} {pa : List Int64} (hn9 : n ≤ 120) (hb : ∀ j, j < n → tx j < 128) {e : Nat} (hs : fs tx n cnt pa I J e) (k : ∀ I' J', fs tx n cnt pa I' J' e → fr8 I I' J J' → Q none S I' J' P) : pm_Met l E yX3_readAtom cX3_readAtom 4 none d 0 0 [.ref 8] S I J P Q := by
  unfold pm_Met
  refine pm_lvs (lv' := [(0, _)]) rfl ?_
  have hk0 : tk_k tx n cnt = 0 := if_neg (by rw [hs.1.2.2.1]; omega)
  refine pw_aload_n dX3_readAtom_0 rfl ?_
  refine pw_getR fX3_24 dX3_readAtom_1 (sh_lt hG (by decide)) (sh_tg hG 6 rfl) rfl (gr_at hP 8 rfl) ?_
  refine pw_aload_n dX3_readAtom_4 rfl ?_
  refine pw_getI fX3_39 dX3_readAtom_5 (sh_lt hG (by decide)) (sh_tg hG 6 rfl) rfl ?_
  refine pw_ti (z := nI cnt) hs.2.2.1 ?_
  refine pw_callV (as := [_]) (kc' := 0) (ks' := 0) lX3_132 dX3_readAtom_8 rfl rfl (sh_lt hG (by decide)) (sh_tg hG 2 rfl) (Nat.le_of_ble_eq_true rfl) (by omega) (Nat.le_of_ble_eq_true rfl) (Nat.zero_le _) (Nat.zero_le _) ?_
  refine c_pl hG hP hs.1 (Nat.le_refl _) ?_
  refine pw_istore_n (lv' := [(1, _), (0, _)]) dX3_readAtom_11 (by decide) rfl ?_
  refine pw_aload_n dX3_readAtom_12 rfl ?_
  refine pw_getR fX3_24 dX3_readAtom_13 (sh_lt hG (by decide)) (sh_tg hG 6 rfl) rfl (gr_at hP 8 rfl) ?_
  refine pw_aload_n dX3_readAtom_16 rfl ?_
  refine pw_getI fX3_39 dX3_readAtom_17 (sh_lt hG (by decide)) (sh_tg hG 6 rfl) rfl ?_
  refine pw_ti (z := nI cnt) hs.2.2.1 ?_
  refine pw_callV (as := [_]) (kc' := 0) (ks' := 0) lX3_115 dX3_readAtom_20 rfl rfl (sh_lt hG (by decide)) (sh_tg hG 2 rfl) (Nat.le_of_ble_eq_true rfl) (by omega) (Nat.le_of_ble_eq_true rfl) (Nat.zero_le _) (Nat.zero_le _) ?_
  refine c_co hG hP hs.1 (Nat.le_refl _) ?_
  refine pw_lstore_n (lv' := [(2, _), (1, _), (0, _)]) dX3_readAtom_23 (by decide) rfl ?_
  refine pw_aload_n dX3_readAtom_24 rfl ?_
  refine pw_getR fX3_24 dX3_readAtom_25 (sh_lt hG (by decide)) (sh_tg hG 6 rfl) rfl (gr_at hP 8 rfl) ?_
  refine pw_aload_n dX3_readAtom_28 rfl ?_
  refine pw_getI fX3_39 dX3_readAtom_29 (sh_lt hG (by decide)) (sh_tg hG 6 rfl) rfl ?_
  refine pw_ti (z := nI cnt) hs.2.2.1 ?_
  refine pw_callV (as := [_]) (kc' := 0) (ks' := 0) lX3_48 dX3_readAtom_32 rfl rfl (sh_lt hG (by decide)) (sh_tg hG 2 rfl) (Nat.le_of_ble_eq_true rfl) (by omega) (Nat.le_of_ble_eq_true rfl) (Nat.zero_le _) (Nat.zero_le _) ?_
  refine c_kd hG hP hs.1 (Nat.le_refl _) ?_
  refine pw_ti (z := nI 0) (by rw [hk0]) ?_
  refine pw_lookup (off := 116) (tgt := 151) dX3_readAtom_35 (by decide) (by decide) (by decide) ?_
  refine pw_aload_n dX3_readAtom_151 rfl ?_
  refine pw_callV (as := []) (kc' := 0) (ks' := 0) lX3_70 dX3_readAtom_152 rfl rfl (sh_lt hG (by decide)) (sh_tg hG 6 rfl) (Nat.le_of_ble_eq_true rfl) (by omega) (Nat.le_of_ble_eq_true rfl) (Nat.zero_le _) (Nat.zero_le _) ?_
  refine c_X3_refuseF hG hP (by omega) hn9 hb hs (fun I' hF hf => ?_)
  exact pw_vret dX3_readAtom_155 rfl (k _ _ hF hf)
set_option maxRecDepth 20000 in
set_option maxHeartbeats 4000000 in
theorem c_X3_readFactF {l : Launch} {E : pmE} {d : Nat} {S : pmS} {I : pmI} {J : pmJ} {P : pmP} {Q : Option Value → pmS → pmI → pmJ → pmP → Prop} (hG : sh_St S) (hP : gr_St P) (hd : 6 ≤ d) {tx : Nat → Nat} {n cnt : Nat} {pa : List Int64} (hn9 : n ≤ 120) (hb : ∀ j, j < n → tx j < 128) {e : Nat} (hs : fs tx n cnt pa I J e) (k : ∀ I' J', fs tx n cnt pa I' J' e → fr8 I I' J J' → Q none S I' J' P) : pm_Met l E yX3_readFact cX3_readFact 6 none d 0 0 [.ref 8] S I J P Q := by
  unfold pm_Met
  refine pm_lvs (lv' := [(0, _)]) rfl ?_
  have hk0 : tk_k tx n cnt = 0 := if_neg (by rw [hs.1.2.2.1]; omega)
  refine pw_aload_n dX3_readFact_0 rfl ?_
  refine pw_bipush (v := nI 45) dX3_readFact_1 (by decide) ?_
  refine pw_callV (as := [_]) (kc' := 0) (ks' := 0) lX3_66 dX3_readFact_3 rfl rfl (sh_lt hG (by decide)) (sh_tg hG 6 rfl) (Nat.le_of_ble_eq_true rfl) (by omega) (Nat.le_of_ble_eq_true rfl) (Nat.zero_le _) (Nat.zero_le _) ?_
  refine c_X3_isAt hG hP hs.1 hb (by omega) hs.2.2.1 (Nat.le_refl _) (c := 45) (by decide) (fun hq1 => absurd (hk0.symm.trans hq1) (by decide)) (fun _ => ?_)
  refine pw_if_eq (tgt := 14) dX3_readFact_6 (by decide) (fun h6 => ?_) (fun h => absurd (by decide) h)
  refine pw_aload_n dX3_readFact_14 rfl ?_
  refine pw_getR fX3_14 dX3_readFact_15 (sh_lt hG (by decide)) (sh_tg hG 6 rfl) rfl (gr_at hP 9 rfl) ?_
  refine pw_callV (as := []) (kc' := 0) (ks' := 0) lX3_122 dX3_readFact_18 rfl rfl (sh_lt hG (by decide)) (sh_tg hG 7 rfl) (Nat.le_of_ble_eq_true rfl) (by omega) (Nat.le_of_ble_eq_true rfl) (Nat.zero_le _) (Nat.zero_le _) ?_
  unfold pm_Met
  refine pm_lvs (lv' := [(0, _)]) rfl ?_
  refine pw_aload_n dX0_size_0 rfl ?_
  refine pw_getI fX0_25 dX0_size_1 (sh_lt hG (by decide)) (sh_tg hG 7 rfl) rfl ?_
  refine pw_iret dX0_size_4 rfl ?_
  refine pw_istore_n (lv' := [(1, _), (0, _)]) dX3_readFact_21 (by decide) rfl ?_
  refine pw_aload_n dX3_readFact_22 rfl ?_
  refine pw_callV (as := []) (kc' := 0) (ks' := 0) lX3_154 dX3_readFact_23 rfl rfl (sh_lt hG (by decide)) (sh_tg hG 6 rfl) (Nat.le_of_ble_eq_true rfl) (by omega) (Nat.le_of_ble_eq_true rfl) (Nat.zero_le _) (Nat.zero_le _) ?_
  refine c_X3_readAtomF hG hP (by omega) hn9 hb hs (fun I' J' hF hf => ?_)
  refine pw_iconst (v := nI 0) dX3_readFact_26 (by decide) ?_
  refine pw_istore_n (lv' := [(2, _), (1, _), (0, _)]) dX3_readFact_27 (by decide) rfl ?_
  refine pw_iload_n dX3_readFact_28 rfl ?_
  refine pw_bipush (v := nI 60) dX3_readFact_29 (by decide) ?_
  refine pw_icmp_ge (tgt := 99) dX3_readFact_31 (by decide) (fun h => absurd h (by decide)) (fun h31 => ?_)
  refine pw_aload_n dX3_readFact_34 rfl ?_
  refine pw_bipush (v := nI 46) dX3_readFact_35 (by decide) ?_
  refine pw_callV (as := [_]) (kc' := 0) (ks' := 0) lX3_66 dX3_readFact_37 rfl rfl (sh_lt hG (by decide)) (sh_tg hG 6 rfl) (Nat.le_of_ble_eq_true rfl) (by omega) (Nat.le_of_ble_eq_true rfl) (Nat.zero_le _) (Nat.zero_le _) ?_
  refine c_X3_isAt hG hP hF.1 hb (by omega) hF.2.2.1 (Nat.le_refl _) (c := 46) (by decide) (fun hq1 => absurd (hk0.symm.trans hq1) (by decide)) (fun _ => ?_)
  refine pw_if_eq (tgt := 99) dX3_readFact_40 (by decide) (fun h40 => ?_) (fun h => absurd (by decide) h)
  exact pw_vret dX3_readFact_99 rfl (k _ _ hF hf)
set_option maxRecDepth 20000 in
set_option maxHeartbeats 4000000 in
theorem c_X3_readLevel3F {l : Launch} {E : pmE} {d : Nat} {S : pmS} {I : pmI} {J : pmJ} {P : pmP} {Q : Option Value → pmS → pmI → pmJ → pmP → Prop} (hG : sh_St S) (hP : gr_St P) (hd : 7 ≤ d) {tx : Nat → Nat} {n cnt : Nat} {pa : List Int64} (hn9 : n ≤ 120) (hb : ∀ j, j < n → tx j < 128) {e : Nat} (hs : fs tx n cnt pa I J e) (k : ∀ I' J', fs tx n cnt pa I' J' e → fr8 I I' J J' → Q none S I' J' P) : pm_Met l E yX3_readLevel cX3_readLevel 7 none d 0 0 [.ref 8, .int (nI 3)] S I J P Q := by
  unfold pm_Met
  refine pm_lvs (lv' := [(0, _), (1, _)]) rfl ?_
  have hk0 : tk_k tx n cnt = 0 := if_neg (by rw [hs.1.2.2.1]; omega)
  refine pw_iload_n dX3_readLevel_0 rfl ?_
  refine pw_iconst (v := nI 3) dX3_readLevel_1 (by decide) ?_
  refine pw_icmp_lt (tgt := 10) dX3_readLevel_2 (by decide) (fun h => absurd h (by decide)) (fun h2 => ?_)
  refine pw_aload_n dX3_readLevel_5 rfl ?_
  refine pw_callV (as := []) (kc' := 0) (ks' := 0) lX3_145 dX3_readLevel_6 rfl rfl (sh_lt hG (by decide)) (sh_tg hG 6 rfl) (Nat.le_of_ble_eq_true rfl) (by omega) (Nat.le_of_ble_eq_true rfl) (Nat.zero_le _) (Nat.zero_le _) ?_
  refine c_X3_readFactF hG hP (by omega) hn9 hb hs (fun I' J' hF hf => ?_)
  exact pw_vret dX3_readLevel_9 rfl (k _ _ hF hf)
set_option maxRecDepth 20000 in
set_option maxHeartbeats 4000000 in
theorem c_X3_readLevel2F {l : Launch} {E : pmE} {d : Nat} {S : pmS} {I : pmI} {J : pmJ} {P : pmP} {Q : Option Value → pmS → pmI → pmJ → pmP → Prop} (hG : sh_St S) (hP : gr_St P) (hd : 8 ≤ d) {tx : Nat → Nat} {n cnt : Nat} {pa : List Int64} (hn9 : n ≤ 120) (hb : ∀ j, j < n → tx j < 128) {e : Nat} (hs : fs tx n cnt pa I J e) (k : ∀ I' J', fs tx n cnt pa I' J' e → fr8 I I' J J' → Q none S I' J' P) : pm_Met l E yX3_readLevel cX3_readLevel 7 none d 0 0 [.ref 8, .int (nI 2)] S I J P Q := by
  unfold pm_Met
  refine pm_lvs (lv' := [(0, _), (1, _)]) rfl ?_
  have hk0 : tk_k tx n cnt = 0 := if_neg (by rw [hs.1.2.2.1]; omega)
  refine pw_iload_n dX3_readLevel_0 rfl ?_
  refine pw_iconst (v := nI 3) dX3_readLevel_1 (by decide) ?_
  refine pw_icmp_lt (tgt := 10) dX3_readLevel_2 (by decide) (fun h2 => ?_) (fun h => absurd (by decide) h)
  refine pw_aload_n dX3_readLevel_10 rfl ?_
  refine pw_getR fX3_14 dX3_readLevel_11 (sh_lt hG (by decide)) (sh_tg hG 6 rfl) rfl (gr_at hP 9 rfl) ?_
  refine pw_callV (as := []) (kc' := 0) (ks' := 0) lX3_122 dX3_readLevel_14 rfl rfl (sh_lt hG (by decide)) (sh_tg hG 7 rfl) (Nat.le_of_ble_eq_true rfl) (by omega) (Nat.le_of_ble_eq_true rfl) (Nat.zero_le _) (Nat.zero_le _) ?_
  unfold pm_Met
  refine pm_lvs (lv' := [(0, _)]) rfl ?_
  refine pw_aload_n dX0_size_0 rfl ?_
  refine pw_getI fX0_25 dX0_size_1 (sh_lt hG (by decide)) (sh_tg hG 7 rfl) rfl ?_
  refine pw_iret dX0_size_4 rfl ?_
  refine pw_istore_n (lv' := [(2, _), (0, _), (1, _)]) dX3_readLevel_17 (by decide) rfl ?_
  refine pw_iload_n dX3_readLevel_18 rfl ?_
  refine pw_if_ne (tgt := 26) dX3_readLevel_19 (by decide) (fun h19 => ?_) (fun h => absurd h (by decide))
  refine pw_bipush (v := nI 60) dX3_readLevel_26 (by decide) ?_
  refine pw_istore_n (lv' := [(3, _), (2, _), (0, _), (1, _)]) dX3_readLevel_28 (by decide) rfl ?_
  refine pw_aload_n dX3_readLevel_29 rfl ?_
  refine pw_iload_n dX3_readLevel_30 rfl ?_
  refine pw_iconst (v := nI 1) dX3_readLevel_31 (by decide) ?_
  refine pw_iadd dX3_readLevel_32 ?_
  refine pw_ti (z := nI 3) (by decide) ?_
  refine pw_callV (as := [_]) (kc' := 0) (ks' := 0) lX3_126 dX3_readLevel_33 rfl rfl (sh_lt hG (by decide)) (sh_tg hG 6 rfl) (Nat.le_of_ble_eq_true rfl) (by omega) (Nat.le_of_ble_eq_true rfl) (Nat.zero_le _) (Nat.zero_le _) ?_
  refine c_X3_readLevel3F hG hP (by omega) hn9 hb hs (fun I' J' hF hf => ?_)
  refine pw_iconst (v := nI 0) dX3_readLevel_36 (by decide) ?_
  refine pw_istore (lv' := [(4, _), (3, _), (2, _), (0, _), (1, _)]) dX3_readLevel_37 (by decide) rfl ?_
  refine pw_iload dX3_readLevel_39 rfl ?_
  refine pw_iload_n dX3_readLevel_41 rfl ?_
  refine pw_icmp_ge (tgt := 133) dX3_readLevel_42 (by decide) (fun h => absurd h (by decide)) (fun h42 => ?_)
  refine pw_aload_n dX3_readLevel_45 rfl ?_
  refine pw_getR fX3_24 dX3_readLevel_46 (sh_lt hG (by decide)) (sh_tg hG 6 rfl) rfl (gr_at hP 8 rfl) ?_
  refine pw_aload_n dX3_readLevel_49 rfl ?_
  refine pw_getI fX3_39 dX3_readLevel_50 (sh_lt hG (by decide)) (sh_tg hG 6 rfl) rfl ?_
  refine pw_ti (z := nI cnt) hF.2.2.1 ?_
  refine pw_callV (as := [_]) (kc' := 0) (ks' := 0) lX3_48 dX3_readLevel_53 rfl rfl (sh_lt hG (by decide)) (sh_tg hG 2 rfl) (Nat.le_of_ble_eq_true rfl) (by omega) (Nat.le_of_ble_eq_true rfl) (Nat.zero_le _) (Nat.zero_le _) ?_
  refine c_kd hG hP hF.1 (Nat.le_refl _) ?_
  refine pw_ti (z := nI 0) (by rw [hk0]) ?_
  refine pw_callS (as := [_]) (kc' := 0) (ks' := 0) lX3_148 dX3_readLevel_56 rfl rfl (Nat.le_of_ble_eq_true rfl) (by omega) (Nat.le_of_ble_eq_true rfl) (Nat.zero_le _) (Nat.zero_le _) ?_
  unfold pm_Met
  refine pm_lvs (lv' := [(0, _)]) rfl ?_
  refine pw_iload_n dX3_levelOf_0 rfl ?_
  refine pw_tableOut (tgt := 128) dX3_levelOf_1 (by decide) (by decide) ?_
  refine pw_bipush (v := -5) dX3_levelOf_128 (by decide) ?_
  refine pw_iret dX3_levelOf_130 rfl ?_
  refine pw_iload_n dX3_readLevel_59 rfl ?_
  refine pw_icmp_ne (tgt := 133) dX3_readLevel_60 (by decide) (fun h60 => ?_) (fun h => absurd h (by decide))
  exact pw_vret dX3_readLevel_133 rfl (k _ _ hF hf)
set_option maxRecDepth 20000 in
set_option maxHeartbeats 4000000 in
theorem c_X3_readLevel1F {l : Launch} {E : pmE} {d : Nat} {S : pmS} {I : pmI} {J : pmJ} {P : pmP} {Q : Option Value → pmS → pmI → pmJ → pmP → Prop} (hG : sh_St S) (hP : gr_St P) (hd : 9 ≤ d) {tx : Nat → Nat} {n cnt : Nat} {pa : List Int64} (hn9 : n ≤ 120) (hb : ∀ j, j < n → tx j < 128) {e : Nat} (hs : fs tx n cnt pa I J e) (k : ∀ I' J', fs tx n cnt pa I' J' e → fr8 I I' J J' → Q none S I' J' P) : pm_Met l E yX3_readLevel cX3_readLevel 7 none d 0 0 [.ref 8, .int (nI 1)] S I J P Q := by
  unfold pm_Met
  refine pm_lvs (lv' := [(0, _), (1, _)]) rfl ?_
  have hk0 : tk_k tx n cnt = 0 := if_neg (by rw [hs.1.2.2.1]; omega)
  refine pw_iload_n dX3_readLevel_0 rfl ?_
  refine pw_iconst (v := nI 3) dX3_readLevel_1 (by decide) ?_
  refine pw_icmp_lt (tgt := 10) dX3_readLevel_2 (by decide) (fun h2 => ?_) (fun h => absurd (by decide) h)
  refine pw_aload_n dX3_readLevel_10 rfl ?_
  refine pw_getR fX3_14 dX3_readLevel_11 (sh_lt hG (by decide)) (sh_tg hG 6 rfl) rfl (gr_at hP 9 rfl) ?_
  refine pw_callV (as := []) (kc' := 0) (ks' := 0) lX3_122 dX3_readLevel_14 rfl rfl (sh_lt hG (by decide)) (sh_tg hG 7 rfl) (Nat.le_of_ble_eq_true rfl) (by omega) (Nat.le_of_ble_eq_true rfl) (Nat.zero_le _) (Nat.zero_le _) ?_
  unfold pm_Met
  refine pm_lvs (lv' := [(0, _)]) rfl ?_
  refine pw_aload_n dX0_size_0 rfl ?_
  refine pw_getI fX0_25 dX0_size_1 (sh_lt hG (by decide)) (sh_tg hG 7 rfl) rfl ?_
  refine pw_iret dX0_size_4 rfl ?_
  refine pw_istore_n (lv' := [(2, _), (0, _), (1, _)]) dX3_readLevel_17 (by decide) rfl ?_
  refine pw_iload_n dX3_readLevel_18 rfl ?_
  refine pw_if_ne (tgt := 26) dX3_readLevel_19 (by decide) (fun h19 => ?_) (fun h => absurd h (by decide))
  refine pw_bipush (v := nI 60) dX3_readLevel_26 (by decide) ?_
  refine pw_istore_n (lv' := [(3, _), (2, _), (0, _), (1, _)]) dX3_readLevel_28 (by decide) rfl ?_
  refine pw_aload_n dX3_readLevel_29 rfl ?_
  refine pw_iload_n dX3_readLevel_30 rfl ?_
  refine pw_iconst (v := nI 1) dX3_readLevel_31 (by decide) ?_
  refine pw_iadd dX3_readLevel_32 ?_
  refine pw_ti (z := nI 2) (by decide) ?_
  refine pw_callV (as := [_]) (kc' := 0) (ks' := 0) lX3_126 dX3_readLevel_33 rfl rfl (sh_lt hG (by decide)) (sh_tg hG 6 rfl) (Nat.le_of_ble_eq_true rfl) (by omega) (Nat.le_of_ble_eq_true rfl) (Nat.zero_le _) (Nat.zero_le _) ?_
  refine c_X3_readLevel2F hG hP (by omega) hn9 hb hs (fun I' J' hF hf => ?_)
  refine pw_iconst (v := nI 0) dX3_readLevel_36 (by decide) ?_
  refine pw_istore (lv' := [(4, _), (3, _), (2, _), (0, _), (1, _)]) dX3_readLevel_37 (by decide) rfl ?_
  refine pw_iload dX3_readLevel_39 rfl ?_
  refine pw_iload_n dX3_readLevel_41 rfl ?_
  refine pw_icmp_ge (tgt := 133) dX3_readLevel_42 (by decide) (fun h => absurd h (by decide)) (fun h42 => ?_)
  refine pw_aload_n dX3_readLevel_45 rfl ?_
  refine pw_getR fX3_24 dX3_readLevel_46 (sh_lt hG (by decide)) (sh_tg hG 6 rfl) rfl (gr_at hP 8 rfl) ?_
  refine pw_aload_n dX3_readLevel_49 rfl ?_
  refine pw_getI fX3_39 dX3_readLevel_50 (sh_lt hG (by decide)) (sh_tg hG 6 rfl) rfl ?_
  refine pw_ti (z := nI cnt) hF.2.2.1 ?_
  refine pw_callV (as := [_]) (kc' := 0) (ks' := 0) lX3_48 dX3_readLevel_53 rfl rfl (sh_lt hG (by decide)) (sh_tg hG 2 rfl) (Nat.le_of_ble_eq_true rfl) (by omega) (Nat.le_of_ble_eq_true rfl) (Nat.zero_le _) (Nat.zero_le _) ?_
  refine c_kd hG hP hF.1 (Nat.le_refl _) ?_
  refine pw_ti (z := nI 0) (by rw [hk0]) ?_
  refine pw_callS (as := [_]) (kc' := 0) (ks' := 0) lX3_148 dX3_readLevel_56 rfl rfl (Nat.le_of_ble_eq_true rfl) (by omega) (Nat.le_of_ble_eq_true rfl) (Nat.zero_le _) (Nat.zero_le _) ?_
  unfold pm_Met
  refine pm_lvs (lv' := [(0, _)]) rfl ?_
  refine pw_iload_n dX3_levelOf_0 rfl ?_
  refine pw_tableOut (tgt := 128) dX3_levelOf_1 (by decide) (by decide) ?_
  refine pw_bipush (v := -5) dX3_levelOf_128 (by decide) ?_
  refine pw_iret dX3_levelOf_130 rfl ?_
  refine pw_iload_n dX3_readLevel_59 rfl ?_
  refine pw_icmp_ne (tgt := 133) dX3_readLevel_60 (by decide) (fun h60 => ?_) (fun h => absurd h (by decide))
  exact pw_vret dX3_readLevel_133 rfl (k _ _ hF hf)
set_option maxRecDepth 20000 in
set_option maxHeartbeats 4000000 in
theorem c_X3_readLevel0F {l : Launch} {E : pmE} {d : Nat} {S : pmS} {I : pmI} {J : pmJ} {P : pmP} {Q : Option Value → pmS → pmI → pmJ → pmP → Prop} (hG : sh_St S) (hP : gr_St P) (hd : 10 ≤ d) {tx : Nat → Nat} {n cnt : Nat} {pa : List Int64} (hn9 : n ≤ 120) (hb : ∀ j, j < n → tx j < 128) {e : Nat} (hs : fs tx n cnt pa I J e) (k : ∀ I' J', fs tx n cnt pa I' J' e → fr8 I I' J J' → Q none S I' J' P) : pm_Met l E yX3_readLevel cX3_readLevel 7 none d 0 0 [.ref 8, .int (nI 0)] S I J P Q := by
  unfold pm_Met
  refine pm_lvs (lv' := [(0, _), (1, _)]) rfl ?_
  have hk0 : tk_k tx n cnt = 0 := if_neg (by rw [hs.1.2.2.1]; omega)
  refine pw_iload_n dX3_readLevel_0 rfl ?_
  refine pw_iconst (v := nI 3) dX3_readLevel_1 (by decide) ?_
  refine pw_icmp_lt (tgt := 10) dX3_readLevel_2 (by decide) (fun h2 => ?_) (fun h => absurd (by decide) h)
  refine pw_aload_n dX3_readLevel_10 rfl ?_
  refine pw_getR fX3_14 dX3_readLevel_11 (sh_lt hG (by decide)) (sh_tg hG 6 rfl) rfl (gr_at hP 9 rfl) ?_
  refine pw_callV (as := []) (kc' := 0) (ks' := 0) lX3_122 dX3_readLevel_14 rfl rfl (sh_lt hG (by decide)) (sh_tg hG 7 rfl) (Nat.le_of_ble_eq_true rfl) (by omega) (Nat.le_of_ble_eq_true rfl) (Nat.zero_le _) (Nat.zero_le _) ?_
  unfold pm_Met
  refine pm_lvs (lv' := [(0, _)]) rfl ?_
  refine pw_aload_n dX0_size_0 rfl ?_
  refine pw_getI fX0_25 dX0_size_1 (sh_lt hG (by decide)) (sh_tg hG 7 rfl) rfl ?_
  refine pw_iret dX0_size_4 rfl ?_
  refine pw_istore_n (lv' := [(2, _), (0, _), (1, _)]) dX3_readLevel_17 (by decide) rfl ?_
  refine pw_iload_n dX3_readLevel_18 rfl ?_
  refine pw_if_ne (tgt := 26) dX3_readLevel_19 (by decide) (fun h => absurd (by decide) h) (fun h19 => ?_)
  refine pw_iconst (v := nI 1) dX3_readLevel_22 (by decide) ?_
  refine pw_goto (tgt := 28) dX3_readLevel_23 (by decide) ?_
  refine pw_istore_n (lv' := [(3, _), (2, _), (0, _), (1, _)]) dX3_readLevel_28 (by decide) rfl ?_
  refine pw_aload_n dX3_readLevel_29 rfl ?_
  refine pw_iload_n dX3_readLevel_30 rfl ?_
  refine pw_iconst (v := nI 1) dX3_readLevel_31 (by decide) ?_
  refine pw_iadd dX3_readLevel_32 ?_
  refine pw_ti (z := nI 1) (by decide) ?_
  refine pw_callV (as := [_]) (kc' := 0) (ks' := 0) lX3_126 dX3_readLevel_33 rfl rfl (sh_lt hG (by decide)) (sh_tg hG 6 rfl) (Nat.le_of_ble_eq_true rfl) (by omega) (Nat.le_of_ble_eq_true rfl) (Nat.zero_le _) (Nat.zero_le _) ?_
  refine c_X3_readLevel1F hG hP (by omega) hn9 hb hs (fun I' J' hF hf => ?_)
  refine pw_iconst (v := nI 0) dX3_readLevel_36 (by decide) ?_
  refine pw_istore (lv' := [(4, _), (3, _), (2, _), (0, _), (1, _)]) dX3_readLevel_37 (by decide) rfl ?_
  refine pw_iload dX3_readLevel_39 rfl ?_
  refine pw_iload_n dX3_readLevel_41 rfl ?_
  refine pw_icmp_ge (tgt := 133) dX3_readLevel_42 (by decide) (fun h => absurd h (by decide)) (fun h42 => ?_)
  refine pw_aload_n dX3_readLevel_45 rfl ?_
  refine pw_getR fX3_24 dX3_readLevel_46 (sh_lt hG (by decide)) (sh_tg hG 6 rfl) rfl (gr_at hP 8 rfl) ?_
  refine pw_aload_n dX3_readLevel_49 rfl ?_
  refine pw_getI fX3_39 dX3_readLevel_50 (sh_lt hG (by decide)) (sh_tg hG 6 rfl) rfl ?_
  refine pw_ti (z := nI cnt) hF.2.2.1 ?_
  refine pw_callV (as := [_]) (kc' := 0) (ks' := 0) lX3_48 dX3_readLevel_53 rfl rfl (sh_lt hG (by decide)) (sh_tg hG 2 rfl) (Nat.le_of_ble_eq_true rfl) (by omega) (Nat.le_of_ble_eq_true rfl) (Nat.zero_le _) (Nat.zero_le _) ?_
  refine c_kd hG hP hF.1 (Nat.le_refl _) ?_
  refine pw_ti (z := nI 0) (by rw [hk0]) ?_
  refine pw_callS (as := [_]) (kc' := 0) (ks' := 0) lX3_148 dX3_readLevel_56 rfl rfl (Nat.le_of_ble_eq_true rfl) (by omega) (Nat.le_of_ble_eq_true rfl) (Nat.zero_le _) (Nat.zero_le _) ?_
  unfold pm_Met
  refine pm_lvs (lv' := [(0, _)]) rfl ?_
  refine pw_iload_n dX3_levelOf_0 rfl ?_
  refine pw_tableOut (tgt := 128) dX3_levelOf_1 (by decide) (by decide) ?_
  refine pw_bipush (v := -5) dX3_levelOf_128 (by decide) ?_
  refine pw_iret dX3_levelOf_130 rfl ?_
  refine pw_iload_n dX3_readLevel_59 rfl ?_
  refine pw_icmp_ne (tgt := 133) dX3_readLevel_60 (by decide) (fun h60 => ?_) (fun h => absurd h (by decide))
  exact pw_vret dX3_readLevel_133 rfl (k _ _ hF hf)
set_option maxRecDepth 20000 in
set_option maxHeartbeats 4000000 in
theorem c_X3_readExprF {l : Launch} {E : pmE} {d : Nat} {S : pmS} {I : pmI} {J : pmJ} {P : pmP} {Q : Option Value → pmS → pmI → pmJ → pmP → Prop} (hG : sh_St S) (hP : gr_St P) (hd : 11 ≤ d) {tx : Nat → Nat} {n cnt : Nat} {pa : List Int64} (hn9 : n ≤ 120) (hb : ∀ j, j < n → tx j < 128) {e : Nat} (hs : fs tx n cnt pa I J e) (k : ∀ I' J', fs tx n cnt pa I' J' e → fr8 I I' J J' → Q none S I' J' P) : pm_Met l E yX3_readExpr cX3_readExpr 2 none d 0 0 [.ref 8] S I J P Q := by
  unfold pm_Met
  refine pm_lvs (lv' := [(0, _)]) rfl ?_
  have hk0 : tk_k tx n cnt = 0 := if_neg (by rw [hs.1.2.2.1]; omega)
  refine pw_aload_n dX3_readExpr_0 rfl ?_
  refine pw_getR fX3_14 dX3_readExpr_1 (sh_lt hG (by decide)) (sh_tg hG 6 rfl) rfl (gr_at hP 9 rfl) ?_
  refine pw_callV (as := []) (kc' := 0) (ks' := 0) lX3_122 dX3_readExpr_4 rfl rfl (sh_lt hG (by decide)) (sh_tg hG 7 rfl) (Nat.le_of_ble_eq_true rfl) (by omega) (Nat.le_of_ble_eq_true rfl) (Nat.zero_le _) (Nat.zero_le _) ?_
  unfold pm_Met
  refine pm_lvs (lv' := [(0, _)]) rfl ?_
  refine pw_aload_n dX0_size_0 rfl ?_
  refine pw_getI fX0_25 dX0_size_1 (sh_lt hG (by decide)) (sh_tg hG 7 rfl) rfl ?_
  refine pw_iret dX0_size_4 rfl ?_
  refine pw_istore_n (lv' := [(1, _), (0, _)]) dX3_readExpr_7 (by decide) rfl ?_
  refine pw_aload_n dX3_readExpr_8 rfl ?_
  refine pw_iconst (v := nI 0) dX3_readExpr_9 (by decide) ?_
  refine pw_callV (as := [_]) (kc' := 0) (ks' := 0) lX3_126 dX3_readExpr_10 rfl rfl (sh_lt hG (by decide)) (sh_tg hG 6 rfl) (Nat.le_of_ble_eq_true rfl) (by omega) (Nat.le_of_ble_eq_true rfl) (Nat.zero_le _) (Nat.zero_le _) ?_
  refine c_X3_readLevel0F hG hP (by omega) hn9 hb hs (fun I' J' hF hf => ?_)
  refine pw_aload_n dX3_readExpr_13 rfl ?_
  refine pw_bipush (v := nI 63) dX3_readExpr_14 (by decide) ?_
  refine pw_callV (as := [_]) (kc' := 0) (ks' := 0) lX3_66 dX3_readExpr_16 rfl rfl (sh_lt hG (by decide)) (sh_tg hG 6 rfl) (Nat.le_of_ble_eq_true rfl) (by omega) (Nat.le_of_ble_eq_true rfl) (Nat.zero_le _) (Nat.zero_le _) ?_
  refine c_X3_isAt hG hP hF.1 hb (by omega) hF.2.2.1 (Nat.le_refl _) (c := 63) (by decide) (fun hq1 => absurd (hk0.symm.trans hq1) (by decide)) (fun _ => ?_)
  refine pw_if_eq (tgt := 27) dX3_readExpr_19 (by decide) (fun h19 => ?_) (fun h => absurd (by decide) h)
  exact pw_vret dX3_readExpr_27 rfl (k _ _ hF hf)
