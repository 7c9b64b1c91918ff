set_option maxRecDepth 20000 in
set_option maxHeartbeats 400000 in
theorem c_resetE {l : Launch} {E : pmE} {d : Nat} {S : pmS} {I : pmI} {J : pmJ} {P : pmP} {Q : Option Value → pmS → pmI → pmJ → pmP → Prop} (hG : sh_St S) (hP : gr_St P) (hd : 4 ≤ d) {A : aS} {Z : Nat → Nat} {b m n : Nat} {tx : Nat → Nat} (hs : cI S I J P A Z b m tx n) (k : ∀ I', oF I J P I' J P → cI S I' J P aE Z b m tx 0 → Q (some (.int (nI A.sn.length))) S I' J P) : pm_Met l E yX9_reset cX9_reset 2 (some .int) d 0 0 [.ref 2] S I J P Q := by
  unfold pm_Met
  have ht := hs.2.2.2.1
  have htm := ht.m'
  have htl := ht.l
  refine pm_lvs (lv' := [(0, _)]) rfl ?_
  refine pw_aload_n dX9_reset_0 rfl ?_
  refine pw_getR fX9_32 dX9_reset_1 (sh_lt hG (by decide)) (sh_tg hG 0 rfl) rfl (gr_at hP 3 rfl) ?_
  refine pw_callV (as := []) (kc' := 0) (ks' := 0) lX9_170 dX9_reset_4 rfl rfl (sh_lt hG (by decide)) (sh_tg hG 13 rfl) (Nat.le_of_ble_eq_true rfl) (by omega) (Nat.le_of_ble_eq_true rfl) (Nat.zero_le _) (Nat.zero_le _) ?_
  unfold pm_Met
  refine pm_lvs (lv' := [(0, _)]) rfl ?_
  refine pw_aload_n dX4_keptCount_0 rfl ?_
  refine pw_getI fX4_49 dX4_keptCount_1 (sh_lt hG (by decide)) (sh_tg hG 13 rfl) rfl ?_
  refine pw_iret dX4_keptCount_4 rfl ?_
  refine pw_ti (z := nI A.sn.length) hs.2.1.k ?_
  refine pw_istore_n (lv' := [(1, _), (0, _)]) dX9_reset_7 (by decide) rfl ?_
  refine pw_aload_n dX9_reset_8 rfl ?_
  refine pw_iconst (v := nI 0) dX9_reset_9 (by decide) ?_
  refine pw_putI fX9_49 dX9_reset_10 (Or.inl rfl) (by decide) (sh_lt hG (by decide)) (sh_tg hG 0 rfl) rfl ?_
  refine pw_aload_n dX9_reset_13 rfl ?_
  refine pw_getR fX9_32 dX9_reset_14 (sh_lt hG (by decide)) (sh_tg hG 0 rfl) rfl (gr_at hP 3 rfl) ?_
  refine pw_callV (as := []) (kc' := 0) (ks' := 0) lX9_188 dX9_reset_17 rfl rfl (sh_lt hG (by decide)) (sh_tg hG 13 rfl) (Nat.le_of_ble_eq_true rfl) (by omega) (Nat.le_of_ble_eq_true rfl) (Nat.zero_le _) (Nat.zero_le _) ?_
  unfold pm_Met
  refine pm_lvs (lv' := [(0, _)]) rfl ?_
  refine pw_aload_n dX4_clear_0 rfl ?_
  refine pw_getR fX4_12 dX4_clear_1 (sh_lt hG (by decide)) (sh_tg hG 13 rfl) rfl (gr_at hP 15 rfl) ?_
  refine pw_callV (as := []) (kc' := 0) (ks' := 0) lX4_43 dX4_clear_4 rfl rfl (sh_lt hG (by decide)) (sh_tg hG 14 rfl) (Nat.le_of_ble_eq_true rfl) (by omega) (Nat.le_of_ble_eq_true rfl) (Nat.zero_le _) (Nat.zero_le _) ?_
  unfold pm_Met
  refine pm_lvs (lv' := [(0, _)]) rfl ?_
  refine pw_aload_n dX2_clear_0 rfl ?_
  refine pw_iconst (v := nI 0) dX2_clear_1 (by decide) ?_
  refine pw_putI fX2_25 dX2_clear_2 (Or.inl rfl) (by decide) (sh_lt hG (by decide)) (sh_tg hG 14 rfl) rfl ?_
  refine pw_vret dX2_clear_5 rfl ?_
  refine pw_aload_n dX4_clear_7 rfl ?_
  refine pw_getR fX4_21 dX4_clear_8 (sh_lt hG (by decide)) (sh_tg hG 13 rfl) rfl (gr_at hP 16 rfl) ?_
  refine pw_iconst (v := nI 0) dX4_clear_11 (by decide) ?_
  refine pw_callV (as := [_]) (kc' := 0) (ks' := 0) lX4_46 dX4_clear_12 rfl rfl (sh_lt hG (by decide)) (sh_tg hG 19 rfl) (Nat.le_of_ble_eq_true rfl) (by omega) (Nat.le_of_ble_eq_true rfl) (Nat.zero_le _) (Nat.zero_le _) ?_
  unfold pm_Met
  refine pm_lvs (lv' := [(0, _), (1, _)]) rfl ?_
  refine pw_iload_n dX6_dropFrom_0 rfl ?_
  refine pw_if_lt (tgt := 17) dX6_dropFrom_1 (by decide) (fun h => absurd h (by decide)) (fun hX6_dropFrom_1 => ?_)
  refine pw_iload_n dX6_dropFrom_4 rfl ?_
  refine pw_aload_n dX6_dropFrom_5 rfl ?_
  refine pw_getI fX6_28 dX6_dropFrom_6 (sh_lt hG (by decide)) (sh_tg hG 19 rfl) rfl ?_
  refine pw_icmpN_ge _ _ (tgt := 17) dX6_dropFrom_9 (by decide) (rfl) (by (repeat (first | rw [pm_u_ne (by decide)] | rw [pm_u_eq, pm_up_ne (by decide)])); exact ht.n) (by omega) (by omega) (fun hX6_dropFrom_9 => ?_) (fun hX6_dropFrom_9 => ?_)
  · refine pw_vret dX6_dropFrom_17 rfl ?_
    refine pw_aload_n dX4_clear_15 rfl ?_
    refine pw_iconst (v := nI 0) dX4_clear_16 (by decide) ?_
    refine pw_putI fX4_49 dX4_clear_17 (Or.inl rfl) (by decide) (sh_lt hG (by decide)) (sh_tg hG 13 rfl) rfl ?_
    refine pw_aload_n dX4_clear_20 rfl ?_
    refine pw_iconst (v := nI 0) dX4_clear_21 (by decide) ?_
    refine pw_putI fX4_53 dX4_clear_22 (Or.inl rfl) (by decide) (sh_lt hG (by decide)) (sh_tg hG 13 rfl) rfl ?_
    refine pw_vret dX4_clear_25 rfl ?_
    refine pw_aload_n dX9_reset_20 rfl ?_
    refine pw_getR fX9_41 dX9_reset_21 (sh_lt hG (by decide)) (sh_tg hG 0 rfl) rfl (gr_at hP 4 rfl) ?_
    refine pw_callV (as := []) (kc' := 0) (ks' := 0) lX9_191 dX9_reset_24 rfl rfl (sh_lt hG (by decide)) (sh_tg hG 32 rfl) (Nat.le_of_ble_eq_true rfl) (by omega) (Nat.le_of_ble_eq_true rfl) (Nat.zero_le _) (Nat.zero_le _) ?_
    unfold pm_Met
    refine pm_lvs (lv' := [(0, _)]) rfl ?_
    refine pw_aload_n dX1_clear_0 rfl ?_
    refine pw_callV (as := []) (kc' := 0) (ks' := 0) lX1_43 dX1_clear_1 rfl rfl (sh_lt hG (by decide)) (sh_tg hG 32 rfl) (Nat.le_of_ble_eq_true rfl) (by omega) (Nat.le_of_ble_eq_true rfl) (Nat.zero_le _) (Nat.zero_le _) ?_
    refine c_forget hG hP (by omega) (fun I3 hi3 hz3 => ?_)
    dsimp only at hi3
    refine pw_aload_n dX1_clear_4 rfl ?_
    refine pw_iconst (v := nI 0) dX1_clear_5 (by decide) ?_
    refine pw_putI fX1_46 dX1_clear_6 (Or.inl rfl) (by decide) (sh_lt hG (by decide)) (sh_tg hG 32 rfl) rfl ?_
    refine pw_vret dX1_clear_9 rfl ?_
    refine pw_iload_n dX9_reset_27 rfl ?_
    exact pw_iret dX9_reset_28 rfl (k _ (fun a ha => ⟨by dsimp only; rw [pm_u_ne (by omega), hi3 a (by omega)]; repeat (rw [pm_u_ne (by omega)]), rfl, rfl⟩) (hs.reset (by rw [pm_u_ne (by decide), hi3 2 (by decide)]; (repeat (first | rw [pm_u_ne (by decide)] | rw [pm_u_eq, pm_up_ne (by decide)] | rw [pm_u_eq, pm_up_eq]))) (by rw [pm_u_ne (by decide), hi3 16 (by decide)]; (repeat (first | rw [pm_u_ne (by decide)] | rw [pm_u_eq, pm_up_ne (by decide)] | rw [pm_u_eq, pm_up_eq]))) (by rw [pm_u_ne (by decide), hi3 21 (by decide)]; (repeat (first | rw [pm_u_ne (by decide)] | rw [pm_u_eq, pm_up_ne (by decide)])); rw [ht.n]; congr 1; omega) (by rw [pm_u_ne (by decide), hi3 15 (by decide)]; (repeat (first | rw [pm_u_ne (by decide)] | rw [pm_u_eq, pm_up_ne (by decide)] | rw [pm_u_eq, pm_up_eq]))) (by rw [pm_u_ne (by decide), hi3 15 (by decide)]; (repeat (first | rw [pm_u_ne (by decide)] | rw [pm_u_eq, pm_up_ne (by decide)] | rw [pm_u_eq, pm_up_eq])))))
  · refine pw_aload_n dX6_dropFrom_12 rfl ?_
    refine pw_iload_n dX6_dropFrom_13 rfl ?_
    refine pw_putI fX6_28 dX6_dropFrom_14 (Or.inl rfl) (by decide) (sh_lt hG (by decide)) (sh_tg hG 19 rfl) rfl ?_
    refine pw_vret dX6_dropFrom_17 rfl ?_
    refine pw_aload_n dX4_clear_15 rfl ?_
    refine pw_iconst (v := nI 0) dX4_clear_16 (by decide) ?_
    refine pw_putI fX4_49 dX4_clear_17 (Or.inl rfl) (by decide) (sh_lt hG (by decide)) (sh_tg hG 13 rfl) rfl ?_
    refine pw_aload_n dX4_clear_20 rfl ?_
    refine pw_iconst (v := nI 0) dX4_clear_21 (by decide) ?_
    refine pw_putI fX4_53 dX4_clear_22 (Or.inl rfl) (by decide) (sh_lt hG (by decide)) (sh_tg hG 13 rfl) rfl ?_
    refine pw_vret dX4_clear_25 rfl ?_
    refine pw_aload_n dX9_reset_20 rfl ?_
    refine pw_getR fX9_41 dX9_reset_21 (sh_lt hG (by decide)) (sh_tg hG 0 rfl) rfl (gr_at hP 4 rfl) ?_
    refine pw_callV (as := []) (kc' := 0) (ks' := 0) lX9_191 dX9_reset_24 rfl rfl (sh_lt hG (by decide)) (sh_tg hG 32 rfl) (Nat.le_of_ble_eq_true rfl) (by omega) (Nat.le_of_ble_eq_true rfl) (Nat.zero_le _) (Nat.zero_le _) ?_
    unfold pm_Met
    refine pm_lvs (lv' := [(0, _)]) rfl ?_
    refine pw_aload_n dX1_clear_0 rfl ?_
    refine pw_callV (as := []) (kc' := 0) (ks' := 0) lX1_43 dX1_clear_1 rfl rfl (sh_lt hG (by decide)) (sh_tg hG 32 rfl) (Nat.le_of_ble_eq_true rfl) (by omega) (Nat.le_of_ble_eq_true rfl) (Nat.zero_le _) (Nat.zero_le _) ?_
    refine c_forget hG hP (by omega) (fun I3 hi3 hz3 => ?_)
    dsimp only at hi3
    refine pw_aload_n dX1_clear_4 rfl ?_
    refine pw_iconst (v := nI 0) dX1_clear_5 (by decide) ?_
    refine pw_putI fX1_46 dX1_clear_6 (Or.inl rfl) (by decide) (sh_lt hG (by decide)) (sh_tg hG 32 rfl) rfl ?_
    refine pw_vret dX1_clear_9 rfl ?_
    refine pw_iload_n dX9_reset_27 rfl ?_
    exact pw_iret dX9_reset_28 rfl (k _ (fun a ha => ⟨by dsimp only; rw [pm_u_ne (by omega), hi3 a (by omega)]; repeat (rw [pm_u_ne (by omega)]), rfl, rfl⟩) (hs.reset (by rw [pm_u_ne (by decide), hi3 2 (by decide)]; (repeat (first | rw [pm_u_ne (by decide)] | rw [pm_u_eq, pm_up_ne (by decide)] | rw [pm_u_eq, pm_up_eq]))) (by rw [pm_u_ne (by decide), hi3 16 (by decide)]; (repeat (first | rw [pm_u_ne (by decide)] | rw [pm_u_eq, pm_up_ne (by decide)] | rw [pm_u_eq, pm_up_eq]))) (by rw [pm_u_ne (by decide), hi3 21 (by decide)]; (repeat (first | rw [pm_u_ne (by decide)] | rw [pm_u_eq, pm_up_ne (by decide)] | rw [pm_u_eq, pm_up_eq]))) (by rw [pm_u_ne (by decide), hi3 15 (by decide)]; (repeat (first | rw [pm_u_ne (by decide)] | rw [pm_u_eq, pm_up_ne (by decide)] | rw [pm_u_eq, pm_up_eq]))) (by rw [pm_u_ne (by decide), hi3 15 (by decide)]; (repeat (first | rw [pm_u_ne (by decide)] | rw [pm_u_eq, pm_up_ne (by decide)] | rw [pm_u_eq, pm_up_eq])))))
set_option maxRecDepth 20000 in
set_option maxHeartbeats 400000 in
theorem r_resetE {l : Launch} {E : pmE} {d : Nat} {S : pmS} {I : pmI} {J : pmJ} {P : pmP} {Q : Option Value → pmS → pmI → pmJ → pmP → Prop} (hG : sh_St S) (hP : gr_St P) {A : aS} (hA : rA I J A) {tx : Nat → Nat} (k : ∀ I', oR I J I' J → qI I' J aE tx 0 → Q (some (.int (nI A.sn.length))) S I' J P) : pm_Met l E yX10_reset cX10_reset 3 (some .int) d 0 0 [.ref 47] S I J P Q := by
  unfold pm_Met
  refine pm_lvs (lv' := [(0, _)]) rfl ?_
  refine pw_aload_n dX10_reset_0 rfl ?_
  refine pw_iconst (v := nI 0) dX10_reset_1 (by decide) ?_
  refine pw_putI fX10_154 dX10_reset_2 (Or.inl rfl) (by decide) (sh_lt hG (by decide)) (sh_tg hG 45 rfl) rfl ?_
  refine pw_aload_n dX10_reset_5 rfl ?_
  refine pw_getI fX10_220 dX10_reset_6 (sh_lt hG (by decide)) (sh_tg hG 45 rfl) rfl ?_
  refine pw_ti (z := nI A.sn.length) (by rw [pm_u_eq, pm_up_ne (by decide)]; exact hA.k) ?_
  refine pw_istore_n (lv' := [(1, _), (0, _)]) dX10_reset_9 (by decide) rfl ?_
  refine pw_aload_n dX10_reset_10 rfl ?_
  refine pw_iconst (v := nI 0) dX10_reset_11 (by decide) ?_
  refine pw_putI fX10_164 dX10_reset_12 (Or.inl rfl) (by decide) (sh_lt hG (by decide)) (sh_tg hG 45 rfl) rfl ?_
  refine pw_aload_n dX10_reset_15 rfl ?_
  refine pw_iconst (v := nI 0) dX10_reset_16 (by decide) ?_
  refine pw_putI fX10_220 dX10_reset_17 (Or.inl rfl) (by decide) (sh_lt hG (by decide)) (sh_tg hG 45 rfl) rfl ?_
  refine pw_aload_n dX10_reset_20 rfl ?_
  refine pw_iconst (v := nI 0) dX10_reset_21 (by decide) ?_
  refine pw_putI fX10_305 dX10_reset_22 (Or.inl rfl) (by decide) (sh_lt hG (by decide)) (sh_tg hG 45 rfl) rfl ?_
  refine pw_aload_n dX10_reset_25 rfl ?_
  refine pw_iconst (v := nI 0) dX10_reset_26 (by decide) ?_
  refine pw_putI fX10_273 dX10_reset_27 (Or.inl rfl) (by decide) (sh_lt hG (by decide)) (sh_tg hG 45 rfl) rfl ?_
  refine pw_aload_n dX10_reset_30 rfl ?_
  refine pw_iconst (v := nI 0) dX10_reset_31 (by decide) ?_
  refine pw_putI fX10_317 dX10_reset_32 (Or.inl rfl) (by decide) (sh_lt hG (by decide)) (sh_tg hG 45 rfl) rfl ?_
  refine pw_aload_n dX10_reset_35 rfl ?_
  refine pw_iconst (v := nI 0) dX10_reset_36 (by decide) ?_
  refine pw_putI fX10_354 dX10_reset_37 (Or.inl rfl) (by decide) (sh_lt hG (by decide)) (sh_tg hG 45 rfl) rfl ?_
  refine pw_iconst (v := nI 0) dX10_reset_40 (by decide) ?_
  refine pw_istore_n (lv' := [(2, _), (1, _), (0, _)]) dX10_reset_41 (by decide) rfl ?_
  refine pm_lvs (lv' := [(2, .int (nI 0)), (1, _), (0, _)]) rfl ?_
  exact r_rs_lp hG hP (fun I2 h1 => k I2 (fun a ha => ⟨by rw [h1 a (by omega)]; repeat (rw [pm_u_ne (by omega)]), rfl⟩) (qI.reset (by rw [h1 47 (by decide)]; (repeat (first | rw [pm_u_ne (by decide)] | rw [pm_u_eq, pm_up_ne (by decide)] | rw [pm_u_eq, pm_up_eq]))) (by rw [h1 47 (by decide)]; (repeat (first | rw [pm_u_ne (by decide)] | rw [pm_u_eq, pm_up_ne (by decide)] | rw [pm_u_eq, pm_up_eq]))) (by rw [h1 47 (by decide)]; (repeat (first | rw [pm_u_ne (by decide)] | rw [pm_u_eq, pm_up_ne (by decide)] | rw [pm_u_eq, pm_up_eq]))) (by rw [h1 47 (by decide)]; (repeat (first | rw [pm_u_ne (by decide)] | rw [pm_u_eq, pm_up_ne (by decide)] | rw [pm_u_eq, pm_up_eq]))) (by rw [h1 47 (by decide)]; (repeat (first | rw [pm_u_ne (by decide)] | rw [pm_u_eq, pm_up_ne (by decide)] | rw [pm_u_eq, pm_up_eq]))))) 5 0 _ rfl (fun _ _ => rfl)
