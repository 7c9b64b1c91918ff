set_option maxRecDepth 20000 in
set_option maxHeartbeats 400000 in
theorem c_lt_lp {l : Launch} {E : pmE} {d : Nat} {S : pmS} {I : pmI} {J : pmJ} {P : pmP} {Q : Option Value → pmS → pmI → pmJ → pmP → Prop} (hG : sh_St S) (hP : gr_St P) (hd : 1 ≤ d) {i : Nat} {y : Int32} (hi : i < 40) (kx : ∀ a, Q (some (.int a)) S I J P) : ∀ (j : Nat) (acc : Int32), j < 8 → pm_W l E yX2_letterOf cX2_letterOf 6 (some .int) d 0 0 21 [(4, .int (nI (8 * j))), (3, .int acc), (0, .ref 16), (1, .int (nI i)), (2, .int y)] [] S I J P (pm_N E Q)
  | 0, acc, hj => by
    refine pw_iload dX2_letterOf_21 rfl ?_
    refine pw_if_lt (tgt := 61) dX2_letterOf_23 (by decide) (fun h => absurd h (nI_pos (by omega))) (fun h23 => ?_)
    refine pw_aload_n dX2_letterOf_26 rfl ?_
    refine pw_getR fX2_11 dX2_letterOf_27 (sh_lt hG (by decide)) (sh_tg hG 14 rfl) rfl (gr_at hP 20 rfl) ?_
    refine pw_iload_n dX2_letterOf_30 rfl ?_
    refine pw_laldN i dX2_letterOf_31 (sh_lt hG (by decide)) (sh_sh hG 15 rfl) (by decide) (rfl) (by omega) ?_
    refine pw_iload dX2_letterOf_32 rfl ?_
    refine pw_callSN (as := [_, _]) (kc' := 0) (ks' := 0) lX2_57 dX2_letterOf_34 rfl rfl (Nat.le_of_ble_eq_true rfl) (by omega) (Nat.le_of_ble_eq_true rfl) (Nat.zero_le _) (Nat.zero_le _) ?_
    refine c_X9_byteOf (j := 0) (by omega) ?_
    refine pw_istore (lv' := [(5, _), (4, _), (3, _), (0, _), (1, _), (2, _)]) dX2_letterOf_37 (by decide) rfl ?_
    refine pw_iload dX2_letterOf_39 rfl ?_
    refine pw_if_eq (tgt := 55) dX2_letterOf_41 (by decide) (fun h41 => ?_) (fun h41 => ?_)
    · refine pw_sub [1, 2, 3, 4, 5] rfl ?_
      refine pw_iinc (lv' := [(4, _), (3, _), (0, _), (1, _), (2, _)]) dX2_letterOf_55 rfl (by decide) rfl ?_
      refine pw_goto (tgt := 21) dX2_letterOf_58 (by decide) ?_
      refine pm_lvs (lv' := [(4, .int (-8)), (3, _), (0, _), (1, _), (2, _)]) (by rw [show nI (8 * 0) + Int32.ofInt (-8) = -8 from by decide]) ?_
      refine pw_iload dX2_letterOf_21 rfl ?_
      refine pw_if_lt (tgt := 61) dX2_letterOf_23 (by decide) (fun h23 => ?_) (fun h => absurd (by decide) h)
      refine pw_bipush (v := -5) dX2_letterOf_61 (by decide) ?_
      exact pw_iret dX2_letterOf_63 rfl (kx _)
    · refine pw_iload_n dX2_letterOf_44 rfl ?_
      refine pw_iload_n dX2_letterOf_45 rfl ?_
      refine pw_icmp_ne (tgt := 52) dX2_letterOf_46 (by decide) (fun h46 => ?_) (fun h46 => ?_)
      · refine pw_iinc (lv' := [(3, _), (5, _), (4, _), (0, _), (1, _), (2, _)]) dX2_letterOf_52 rfl (by decide) rfl ?_
        refine pw_sub [2, 0, 3, 4, 5] rfl ?_
        refine pw_iinc (lv' := [(4, _), (3, _), (0, _), (1, _), (2, _)]) dX2_letterOf_55 rfl (by decide) rfl ?_
        refine pw_goto (tgt := 21) dX2_letterOf_58 (by decide) ?_
        refine pm_lvs (lv' := [(4, .int (-8)), (3, _), (0, _), (1, _), (2, _)]) (by rw [show nI (8 * 0) + Int32.ofInt (-8) = -8 from by decide]) ?_
        refine pw_iload dX2_letterOf_21 rfl ?_
        refine pw_if_lt (tgt := 61) dX2_letterOf_23 (by decide) (fun h23 => ?_) (fun h => absurd (by decide) h)
        refine pw_bipush (v := -5) dX2_letterOf_61 (by decide) ?_
        exact pw_iret dX2_letterOf_63 rfl (kx _)
      · refine pw_iload dX2_letterOf_49 rfl ?_
        exact pw_iret dX2_letterOf_51 rfl (kx _)
  | j + 1, acc, hj => by
    have e8 : nI (8 * (j + 1)) + Int32.ofInt (-8) = nI (8 * j) := by
      rw [show nI (8 * (j + 1)) = nI (8 * j) + nI 8 by rw [nI_add, Nat.mul_succ], Int32.add_assoc, show nI 8 + Int32.ofInt (-8) = 0 by decide, Int32.add_zero]
    refine pw_iload dX2_letterOf_21 rfl ?_
    refine pw_if_lt (tgt := 61) dX2_letterOf_23 (by decide) (fun h => absurd h (nI_pos (by omega))) (fun h23 => ?_)
    refine pw_aload_n dX2_letterOf_26 rfl ?_
    refine pw_getR fX2_11 dX2_letterOf_27 (sh_lt hG (by decide)) (sh_tg hG 14 rfl) rfl (gr_at hP 20 rfl) ?_
    refine pw_iload_n dX2_letterOf_30 rfl ?_
    refine pw_laldN i dX2_letterOf_31 (sh_lt hG (by decide)) (sh_sh hG 15 rfl) (by decide) (rfl) (by omega) ?_
    refine pw_iload dX2_letterOf_32 rfl ?_
    refine pw_callSN (as := [_, _]) (kc' := 0) (ks' := 0) lX2_57 dX2_letterOf_34 rfl rfl (Nat.le_of_ble_eq_true rfl) (by omega) (Nat.le_of_ble_eq_true rfl) (Nat.zero_le _) (Nat.zero_le _) ?_
    refine c_X9_byteOf (j := (j + 1)) (by omega) ?_
    refine pw_istore (lv' := [(5, _), (4, _), (3, _), (0, _), (1, _), (2, _)]) dX2_letterOf_37 (by decide) rfl ?_
    refine pw_iload dX2_letterOf_39 rfl ?_
    refine pw_if_eq (tgt := 55) dX2_letterOf_41 (by decide) (fun h41 => ?_) (fun h41 => ?_)
    · refine pw_sub [1, 2, 3, 4, 5] rfl ?_
      refine pw_iinc (lv' := [(4, _), (3, _), (0, _), (1, _), (2, _)]) dX2_letterOf_55 rfl (by decide) rfl ?_
      refine pw_goto (tgt := 21) dX2_letterOf_58 (by decide) ?_
      refine pm_lvs (lv' := [(4, .int (nI (8 * j))), (3, _), (0, _), (1, _), (2, _)]) (by rw [show _ = _ from e8]) ?_
      exact c_lt_lp hG hP hd hi kx j _ (by omega)
    · refine pw_iload_n dX2_letterOf_44 rfl ?_
      refine pw_iload_n dX2_letterOf_45 rfl ?_
      refine pw_icmp_ne (tgt := 52) dX2_letterOf_46 (by decide) (fun h46 => ?_) (fun h46 => ?_)
      · refine pw_iinc (lv' := [(3, _), (5, _), (4, _), (0, _), (1, _), (2, _)]) dX2_letterOf_52 rfl (by decide) rfl ?_
        refine pw_sub [2, 0, 3, 4, 5] rfl ?_
        refine pw_iinc (lv' := [(4, _), (3, _), (0, _), (1, _), (2, _)]) dX2_letterOf_55 rfl (by decide) rfl ?_
        refine pw_goto (tgt := 21) dX2_letterOf_58 (by decide) ?_
        refine pm_lvs (lv' := [(4, .int (nI (8 * j))), (3, _), (0, _), (1, _), (2, _)]) (by rw [show _ = _ from e8]) ?_
        exact c_lt_lp hG hP hd hi kx j _ (by omega)
      · refine pw_iload dX2_letterOf_49 rfl ?_
        exact pw_iret dX2_letterOf_51 rfl (kx _)
set_option maxRecDepth 20000 in
set_option maxHeartbeats 400000 in
theorem c_letterOf {l : Launch} {E : pmE} {d : Nat} {S : pmS} {I : pmI} {J : pmJ} {P : pmP} {Q : Option Value → pmS → pmI → pmJ → pmP → Prop} (hG : sh_St S) (hP : gr_St P) (hd : 2 ≤ d) {n i : Nat} {y : Int32} (hn : I 16 4 = nI n) (hl : n ≤ 40) (hi : i < n) (k : ∀ a, Q (some (.int a)) S I J P) : pm_Met l E yX2_letterOf cX2_letterOf 6 (some .int) d 0 0 [.ref 16, .int (nI i), .int y] S I J P Q := by
  unfold pm_Met
  refine pm_lvs (lv' := [(0, _), (1, _), (2, _)]) rfl ?_
  refine pw_aload_n dX2_letterOf_0 rfl ?_
  refine pw_iload_n dX2_letterOf_1 rfl ?_
  refine pw_callV (as := [_]) (kc' := 0) (ks' := 0) lX2_51 dX2_letterOf_2 rfl rfl (sh_lt hG (by decide)) (sh_tg hG 14 rfl) (Nat.le_of_ble_eq_true rfl) (by omega) (Nat.le_of_ble_eq_true rfl) (Nat.zero_le _) (Nat.zero_le _) ?_
  refine c_hasX hG hP hn hl (fun i2 hi2 e2 => ?_) ?_
  · refine pw_if_eq (tgt := 12) dX2_letterOf_5 (by decide) (fun h => absurd h (by decide)) (fun h5 => ?_)
    refine pw_iload_n dX2_letterOf_8 rfl ?_
    refine pw_if_ge (tgt := 15) dX2_letterOf_9 (by decide) (fun h9 => ?_) (fun h9 => ?_)
    · refine pw_iconst (v := nI 0) dX2_letterOf_15 (by decide) ?_
      refine pw_istore_n (lv' := [(3, _), (0, _), (1, _), (2, _)]) dX2_letterOf_16 (by decide) rfl ?_
      refine pw_bipush (v := nI 56) dX2_letterOf_17 (by decide) ?_
      refine pw_istore (lv' := [(4, _), (3, _), (0, _), (1, _), (2, _)]) dX2_letterOf_19 (by decide) rfl ?_
      refine pm_lvs (lv' := [(4, .int (nI (8 * 7))), (3, _), (0, _), (1, _), (2, _)]) rfl ?_
      exact c_lt_lp hG hP (by omega) (by omega) k 7 _ (by decide)
    · refine pw_bipush (v := -5) dX2_letterOf_12 (by decide) ?_
      exact pw_iret dX2_letterOf_14 rfl (k _)
  · refine pw_if_eq (tgt := 12) dX2_letterOf_5 (by decide) (fun h5 => ?_) (fun h => absurd (by decide) h)
    refine pw_bipush (v := -5) dX2_letterOf_12 (by decide) ?_
    exact pw_iret dX2_letterOf_14 rfl (k _)
set_option maxRecDepth 20000 in
set_option maxHeartbeats 400000 in
theorem c_letter {l : Launch} {E : pmE} {d : Nat} {S : pmS} {I : pmI} {J : pmJ} {P : pmP} {Q : Option Value → pmS → pmI → pmJ → pmP → Prop} (hG : sh_St S) (hP : gr_St P) (hd : 3 ≤ d) {n : Nat} {x y : Int32} (hn : I 16 4 = nI n) (hl : n ≤ 40) (k : ∀ a, Q (some (.int a)) S I J P) : pm_Met l E yX9_letter cX9_letter 3 (some .int) d 0 0 [.ref 2, .int x, .int y] S I J P Q := by
  unfold pm_Met
  refine pm_lvs (lv' := [(0, _), (1, _), (2, _)]) rfl ?_
  refine pw_aload_n dX9_letter_0 rfl ?_
  refine pw_getR fX9_32 dX9_letter_1 (sh_lt hG (by decide)) (sh_tg hG 0 rfl) rfl (gr_at hP 3 rfl) ?_
  refine pw_getR fX9_72 dX9_letter_4 (sh_lt hG (by decide)) (sh_tg hG 13 rfl) rfl (gr_at hP 15 rfl) ?_
  refine pw_iload_n dX9_letter_7 rfl ?_
  refine pw_callV (as := [_]) (kc' := 0) (ks' := 0) lX9_142 dX9_letter_8 rfl rfl (sh_lt hG (by decide)) (sh_tg hG 14 rfl) (Nat.le_of_ble_eq_true rfl) (by omega) (Nat.le_of_ble_eq_true rfl) (Nat.zero_le _) (Nat.zero_le _) ?_
  refine c_hasX hG hP hn hl (fun i hi e => ?_) ?_
  · subst e
    refine pw_if_eq (tgt := 29) dX9_letter_11 (by decide) (fun h => absurd h (by decide)) (fun h11 => ?_)
    refine pw_aload_n dX9_letter_14 rfl ?_
    refine pw_getR fX9_32 dX9_letter_15 (sh_lt hG (by decide)) (sh_tg hG 0 rfl) rfl (gr_at hP 3 rfl) ?_
    refine pw_getR fX9_72 dX9_letter_18 (sh_lt hG (by decide)) (sh_tg hG 13 rfl) rfl (gr_at hP 15 rfl) ?_
    refine pw_iload_n dX9_letter_21 rfl ?_
    refine pw_iload_n dX9_letter_22 rfl ?_
    refine pw_callV (as := [_, _]) (kc' := 0) (ks' := 0) lX9_145 dX9_letter_23 rfl rfl (sh_lt hG (by decide)) (sh_tg hG 14 rfl) (Nat.le_of_ble_eq_true rfl) (by omega) (Nat.le_of_ble_eq_true rfl) (Nat.zero_le _) (Nat.zero_le _) ?_
    refine c_letterOf hG hP (by omega) hn hl hi (fun a => ?_)
    refine pw_goto (tgt := 30) dX9_letter_26 (by decide) ?_
    exact pw_iret dX9_letter_30 rfl (k _)
  · refine pw_if_eq (tgt := 29) dX9_letter_11 (by decide) (fun h11 => ?_) (fun h => absurd (by decide) h)
    refine pw_iconst (v := -1) dX9_letter_29 (by decide) ?_
    exact pw_iret dX9_letter_30 rfl (k _)
/-- nothing is KEPT -/
def aE : aS := ([], (fun _ => 0), (fun _ => none), (fun _ => 0), (fun _ => (0, 0)), [], [], [])
theorem aE_ok : aO aE := by
  refine ⟨⟨List.nodup_nil, Nat.zero_le _⟩, fun v _ => ⟨rfl, rfl⟩, fun v _ => rfl, fun v h => absurd rfl h, fun s h => absurd h (Nat.not_lt_zero _), fun s s' h => absurd h (Nat.not_lt_zero _), fun v h => absurd h (by show ¬ (0 : Nat) = 1; decide), fun v h => (by cases h), fun j s vs h => (by cases h), Nat.zero_le _, Nat.zero_le _, Nat.le_refl _, fun v => Nat.le_refl _⟩
theorem cI.reset {S : pmS} {I I' : pmI} {J : pmJ} {P : pmP} {A : aS} {Z : Nat → Nat} {b m : Nat} {tx : Nat → Nat} {n : Nat} (h : cI S I J P A Z b m tx n) (e2 : I' 2 5 = nI 0) (e16 : I' 16 4 = nI 0) (e21 : I' 21 5 = nI 0) (e155 : I' 15 5 = nI 0) (e156 : I' 15 6 = nI 0) : cI S I' J P aE Z b m tx 0 := by
  obtain ⟨h1, h2, h3, h4, h5⟩ := h
  refine ⟨h1, ⟨e16, fun j v hj => (by cases hj), e156, fun j v hj => (by cases hj), e155, fun s hs => absurd hs (Nat.not_lt_zero _)⟩, aE_ok, ⟨h4.bd, h4.2.1, h4.2.2.1, h4.m', Nat.zero_le _, e21, fun j s vs hj => (by cases hj)⟩, fun j hj => absurd hj (Nat.not_lt_zero _), e2, Nat.zero_le _, fun j hj => absurd hj (Nat.not_lt_zero _)⟩
theorem cI.erase {S : pmS} {I : pmI} {J : pmJ} {P : pmP} {A : aS} {Z : Nat → Nat} {b m : Nat} {tx : Nat → Nat} {n : Nat} (h : cI S I J P A Z b m tx n) (h95 : 95 ≤ S.1) : cI S (pm_u I 2 5 (nI 0)) J P A Z b m tx 0 := by
  obtain ⟨h1, h2, h3, h4, h5⟩ := h
  exact ⟨h1, h2.zF h95 zF.u2.1, h3, h4.zF h95 zF.u2.1, fun j hj => absurd hj (Nat.not_lt_zero _), by rw [pm_u_eq, pm_up_eq], Nat.zero_le _, fun j hj => absurd hj (Nat.not_lt_zero _)⟩
set_option maxRecDepth 20000 in
set_option maxHeartbeats 400000 in
theorem c_reset {l : Launch} {E : pmE} {d : Nat} {S : pmS} {I : pmI} {J : pmJ} {P : pmP} {Q : Option Value → pmS → pmI → pmJ → pmP → Prop} (hG : sh_St S) (hP : gr_St P) (hd : 4 ≤ d) {A : aS} {Z : Nat → Nat} {b m n : Nat} {tx : Nat → Nat} (hs : cI S I J P A Z b m tx n) (k : ∀ a I', oF I J P I' J P → cI S I' J P aE Z b m tx 0 → Q (some (.int a)) S I' J P) : pm_Met l E yX9_reset cX9_reset 2 (some .int) d 0 0 [.ref 2] S I J P Q := by
  unfold pm_Met
  have ht := hs.2.2.2.1
  have htm := ht.m'
  have htl := ht.l
  refine pm_lvs (lv' := [(0, _)]) rfl ?_
  refine pw_aload_n dX9_reset_0 rfl ?_
  refine pw_getR fX9_32 dX9_reset_1 (sh_lt hG (by decide)) (sh_tg hG 0 rfl) rfl (gr_at hP 3 rfl) ?_
  refine pw_callV (as := []) (kc' := 0) (ks' := 0) lX9_170 dX9_reset_4 rfl rfl (sh_lt hG (by decide)) (sh_tg hG 13 rfl) (Nat.le_of_ble_eq_true rfl) (by omega) (Nat.le_of_ble_eq_true rfl) (Nat.zero_le _) (Nat.zero_le _) ?_
  unfold pm_Met
  refine pm_lvs (lv' := [(0, _)]) rfl ?_
  refine pw_aload_n dX4_keptCount_0 rfl ?_
  refine pw_getI fX4_49 dX4_keptCount_1 (sh_lt hG (by decide)) (sh_tg hG 13 rfl) rfl ?_
  refine pw_iret dX4_keptCount_4 rfl ?_
  refine pw_istore_n (lv' := [(1, _), (0, _)]) dX9_reset_7 (by decide) rfl ?_
  refine pw_aload_n dX9_reset_8 rfl ?_
  refine pw_iconst (v := nI 0) dX9_reset_9 (by decide) ?_
  refine pw_putI fX9_49 dX9_reset_10 (Or.inl rfl) (by decide) (sh_lt hG (by decide)) (sh_tg hG 0 rfl) rfl ?_
  refine pw_aload_n dX9_reset_13 rfl ?_
  refine pw_getR fX9_32 dX9_reset_14 (sh_lt hG (by decide)) (sh_tg hG 0 rfl) rfl (gr_at hP 3 rfl) ?_
  refine pw_callV (as := []) (kc' := 0) (ks' := 0) lX9_188 dX9_reset_17 rfl rfl (sh_lt hG (by decide)) (sh_tg hG 13 rfl) (Nat.le_of_ble_eq_true rfl) (by omega) (Nat.le_of_ble_eq_true rfl) (Nat.zero_le _) (Nat.zero_le _) ?_
  unfold pm_Met
  refine pm_lvs (lv' := [(0, _)]) rfl ?_
  refine pw_aload_n dX4_clear_0 rfl ?_
  refine pw_getR fX4_12 dX4_clear_1 (sh_lt hG (by decide)) (sh_tg hG 13 rfl) rfl (gr_at hP 15 rfl) ?_
  refine pw_callV (as := []) (kc' := 0) (ks' := 0) lX4_43 dX4_clear_4 rfl rfl (sh_lt hG (by decide)) (sh_tg hG 14 rfl) (Nat.le_of_ble_eq_true rfl) (by omega) (Nat.le_of_ble_eq_true rfl) (Nat.zero_le _) (Nat.zero_le _) ?_
  unfold pm_Met
  refine pm_lvs (lv' := [(0, _)]) rfl ?_
  refine pw_aload_n dX2_clear_0 rfl ?_
  refine pw_iconst (v := nI 0) dX2_clear_1 (by decide) ?_
  refine pw_putI fX2_25 dX2_clear_2 (Or.inl rfl) (by decide) (sh_lt hG (by decide)) (sh_tg hG 14 rfl) rfl ?_
  refine pw_vret dX2_clear_5 rfl ?_
  refine pw_aload_n dX4_clear_7 rfl ?_
  refine pw_getR fX4_21 dX4_clear_8 (sh_lt hG (by decide)) (sh_tg hG 13 rfl) rfl (gr_at hP 16 rfl) ?_
  refine pw_iconst (v := nI 0) dX4_clear_11 (by decide) ?_
  refine pw_callV (as := [_]) (kc' := 0) (ks' := 0) lX4_46 dX4_clear_12 rfl rfl (sh_lt hG (by decide)) (sh_tg hG 19 rfl) (Nat.le_of_ble_eq_true rfl) (by omega) (Nat.le_of_ble_eq_true rfl) (Nat.zero_le _) (Nat.zero_le _) ?_
  unfold pm_Met
  refine pm_lvs (lv' := [(0, _), (1, _)]) rfl ?_
  refine pw_iload_n dX6_dropFrom_0 rfl ?_
  refine pw_if_lt (tgt := 17) dX6_dropFrom_1 (by decide) (fun h => absurd h (by decide)) (fun hX6_dropFrom_1 => ?_)
  refine pw_iload_n dX6_dropFrom_4 rfl ?_
  refine pw_aload_n dX6_dropFrom_5 rfl ?_
  refine pw_getI fX6_28 dX6_dropFrom_6 (sh_lt hG (by decide)) (sh_tg hG 19 rfl) rfl ?_
  refine pw_icmpN_ge _ _ (tgt := 17) dX6_dropFrom_9 (by decide) (rfl) (by (repeat (first | rw [pm_u_ne (by decide)] | rw [pm_u_eq, pm_up_ne (by decide)])); exact ht.n) (by omega) (by omega) (fun hX6_dropFrom_9 => ?_) (fun hX6_dropFrom_9 => ?_)
  · refine pw_vret dX6_dropFrom_17 rfl ?_
    refine pw_aload_n dX4_clear_15 rfl ?_
    refine pw_iconst (v := nI 0) dX4_clear_16 (by decide) ?_
    refine pw_putI fX4_49 dX4_clear_17 (Or.inl rfl) (by decide) (sh_lt hG (by decide)) (sh_tg hG 13 rfl) rfl ?_
    refine pw_aload_n dX4_clear_20 rfl ?_
    refine pw_iconst (v := nI 0) dX4_clear_21 (by decide) ?_
    refine pw_putI fX4_53 dX4_clear_22 (Or.inl rfl) (by decide) (sh_lt hG (by decide)) (sh_tg hG 13 rfl) rfl ?_
    refine pw_vret dX4_clear_25 rfl ?_
    refine pw_aload_n dX9_reset_20 rfl ?_
    refine pw_getR fX9_41 dX9_reset_21 (sh_lt hG (by decide)) (sh_tg hG 0 rfl) rfl (gr_at hP 4 rfl) ?_
    refine pw_callV (as := []) (kc' := 0) (ks' := 0) lX9_191 dX9_reset_24 rfl rfl (sh_lt hG (by decide)) (sh_tg hG 32 rfl) (Nat.le_of_ble_eq_true rfl) (by omega) (Nat.le_of_ble_eq_true rfl) (Nat.zero_le _) (Nat.zero_le _) ?_
    unfold pm_Met
    refine pm_lvs (lv' := [(0, _)]) rfl ?_
    refine pw_aload_n dX1_clear_0 rfl ?_
    refine pw_callV (as := []) (kc' := 0) (ks' := 0) lX1_43 dX1_clear_1 rfl rfl (sh_lt hG (by decide)) (sh_tg hG 32 rfl) (Nat.le_of_ble_eq_true rfl) (by omega) (Nat.le_of_ble_eq_true rfl) (Nat.zero_le _) (Nat.zero_le _) ?_
    refine c_forget hG hP (by omega) (fun I3 hi3 hz3 => ?_)
    dsimp only at hi3
    refine pw_aload_n dX1_clear_4 rfl ?_
    refine pw_iconst (v := nI 0) dX1_clear_5 (by decide) ?_
    refine pw_putI fX1_46 dX1_clear_6 (Or.inl rfl) (by decide) (sh_lt hG (by decide)) (sh_tg hG 32 rfl) rfl ?_
    refine pw_vret dX1_clear_9 rfl ?_
    refine pw_iload_n dX9_reset_27 rfl ?_
    exact pw_iret dX9_reset_28 rfl (k _ _ (fun a ha => ⟨by dsimp only; rw [pm_u_ne (by omega), hi3 a (by omega)]; repeat (rw [pm_u_ne (by omega)]), rfl, rfl⟩) (hs.reset (by rw [pm_u_ne (by decide), hi3 2 (by decide)]; (repeat (first | rw [pm_u_ne (by decide)] | rw [pm_u_eq, pm_up_ne (by decide)] | rw [pm_u_eq, pm_up_eq]))) (by rw [pm_u_ne (by decide), hi3 16 (by decide)]; (repeat (first | rw [pm_u_ne (by decide)] | rw [pm_u_eq, pm_up_ne (by decide)] | rw [pm_u_eq, pm_up_eq]))) (by rw [pm_u_ne (by decide), hi3 21 (by decide)]; (repeat (first | rw [pm_u_ne (by decide)] | rw [pm_u_eq, pm_up_ne (by decide)])); rw [ht.n]; congr 1; omega) (by rw [pm_u_ne (by decide), hi3 15 (by decide)]; (repeat (first | rw [pm_u_ne (by decide)] | rw [pm_u_eq, pm_up_ne (by decide)] | rw [pm_u_eq, pm_up_eq]))) (by rw [pm_u_ne (by decide), hi3 15 (by decide)]; (repeat (first | rw [pm_u_ne (by decide)] | rw [pm_u_eq, pm_up_ne (by decide)] | rw [pm_u_eq, pm_up_eq])))))
  · refine pw_aload_n dX6_dropFrom_12 rfl ?_
    refine pw_iload_n dX6_dropFrom_13 rfl ?_
    refine pw_putI fX6_28 dX6_dropFrom_14 (Or.inl rfl) (by decide) (sh_lt hG (by decide)) (sh_tg hG 19 rfl) rfl ?_
    refine pw_vret dX6_dropFrom_17 rfl ?_
    refine pw_aload_n dX4_clear_15 rfl ?_
    refine pw_iconst (v := nI 0) dX4_clear_16 (by decide) ?_
    refine pw_putI fX4_49 dX4_clear_17 (Or.inl rfl) (by decide) (sh_lt hG (by decide)) (sh_tg hG 13 rfl) rfl ?_
    refine pw_aload_n dX4_clear_20 rfl ?_
    refine pw_iconst (v := nI 0) dX4_clear_21 (by decide) ?_
    refine pw_putI fX4_53 dX4_clear_22 (Or.inl rfl) (by decide) (sh_lt hG (by decide)) (sh_tg hG 13 rfl) rfl ?_
    refine pw_vret dX4_clear_25 rfl ?_
    refine pw_aload_n dX9_reset_20 rfl ?_
    refine pw_getR fX9_41 dX9_reset_21 (sh_lt hG (by decide)) (sh_tg hG 0 rfl) rfl (gr_at hP 4 rfl) ?_
    refine pw_callV (as := []) (kc' := 0) (ks' := 0) lX9_191 dX9_reset_24 rfl rfl (sh_lt hG (by decide)) (sh_tg hG 32 rfl) (Nat.le_of_ble_eq_true rfl) (by omega) (Nat.le_of_ble_eq_true rfl) (Nat.zero_le _) (Nat.zero_le _) ?_
    unfold pm_Met
    refine pm_lvs (lv' := [(0, _)]) rfl ?_
    refine pw_aload_n dX1_clear_0 rfl ?_
    refine pw_callV (as := []) (kc' := 0) (ks' := 0) lX1_43 dX1_clear_1 rfl rfl (sh_lt hG (by decide)) (sh_tg hG 32 rfl) (Nat.le_of_ble_eq_true rfl) (by omega) (Nat.le_of_ble_eq_true rfl) (Nat.zero_le _) (Nat.zero_le _) ?_
    refine c_forget hG hP (by omega) (fun I3 hi3 hz3 => ?_)
    dsimp only at hi3
    refine pw_aload_n dX1_clear_4 rfl ?_
    refine pw_iconst (v := nI 0) dX1_clear_5 (by decide) ?_
    refine pw_putI fX1_46 dX1_clear_6 (Or.inl rfl) (by decide) (sh_lt hG (by decide)) (sh_tg hG 32 rfl) rfl ?_
    refine pw_vret dX1_clear_9 rfl ?_
    refine pw_iload_n dX9_reset_27 rfl ?_
    exact pw_iret dX9_reset_28 rfl (k _ _ (fun a ha => ⟨by dsimp only; rw [pm_u_ne (by omega), hi3 a (by omega)]; repeat (rw [pm_u_ne (by omega)]), rfl, rfl⟩) (hs.reset (by rw [pm_u_ne (by decide), hi3 2 (by decide)]; (repeat (first | rw [pm_u_ne (by decide)] | rw [pm_u_eq, pm_up_ne (by decide)] | rw [pm_u_eq, pm_up_eq]))) (by rw [pm_u_ne (by decide), hi3 16 (by decide)]; (repeat (first | rw [pm_u_ne (by decide)] | rw [pm_u_eq, pm_up_ne (by decide)] | rw [pm_u_eq, pm_up_eq]))) (by rw [pm_u_ne (by decide), hi3 21 (by decide)]; (repeat (first | rw [pm_u_ne (by decide)] | rw [pm_u_eq, pm_up_ne (by decide)] | rw [pm_u_eq, pm_up_eq]))) (by rw [pm_u_ne (by decide), hi3 15 (by decide)]; (repeat (first | rw [pm_u_ne (by decide)] | rw [pm_u_eq, pm_up_ne (by decide)] | rw [pm_u_eq, pm_up_eq]))) (by rw [pm_u_ne (by decide), hi3 15 (by decide)]; (repeat (first | rw [pm_u_ne (by decide)] | rw [pm_u_eq, pm_up_ne (by decide)] | rw [pm_u_eq, pm_up_eq])))))
