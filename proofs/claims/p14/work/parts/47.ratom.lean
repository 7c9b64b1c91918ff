theorem pm_comm {α : Type} {I : Nat → Nat → α} {a k a' k' : Nat} {x y : α} (h : a ≠ a' ∨ k ≠ k') : pm_u (pm_u I a k x) a' k' y = pm_u (pm_u I a' k' y) a k x := by
  funext b j
  by_cases h1 : b = a' <;> by_cases h2 : b = a
  · subst h1; subst h2
    rw [pm_u_eq, pm_u_eq, pm_u_eq, pm_u_eq]
    by_cases h3 : j = k' <;> by_cases h4 : j = k
    · subst h3; subst h4; simp at h
    · subst h3; rw [pm_up_eq, pm_up_ne h4, pm_up_eq]
    · subst h4; rw [pm_up_ne h3, pm_up_eq, pm_up_eq]
    · rw [pm_up_ne h3, pm_up_ne h4, pm_up_ne h4, pm_up_ne h3]
  · subst h1; rw [pm_u_eq, pm_u_ne h2, pm_u_ne h2, pm_u_eq]
  · subst h2; rw [pm_u_ne h1, pm_u_eq, pm_u_eq, pm_u_ne h1]
  · rw [pm_u_ne h1, pm_u_ne h2, pm_u_ne h2, pm_u_ne h1]
theorem ndI_40 {k m : Nat} {I : pmI} {x t p u r c y : Int32} : pm_u (ndI I k m x t p u r c) 47 40 y = ndI (pm_u I 47 40 y) k m x t p u r c := by
  unfold ndI
  rw [pm_comm (a := 69) (a' := 47) (k' := 40) (Or.inl (by decide)), pm_comm (a := 66) (a' := 47) (k' := 40) (Or.inl (by decide)), pm_comm (a := 65) (a' := 47) (k' := 40) (Or.inl (by decide)), pm_comm (a := 64) (a' := 47) (k' := 40) (Or.inl (by decide)), pm_comm (a := 67) (a' := 47) (k' := 40) (Or.inl (by decide)), pm_comm (a := 68) (a' := 47) (k' := 40) (Or.inl (by decide)), pm_comm (a := 63) (a' := 47) (k' := 40) (Or.inl (by decide)), pm_comm (a := 47) (k := 43) (a' := 47) (k' := 40) (Or.inr (by decide))]
/-- a new node at TOKEN a, then the TOKEN is behind -/
theorem qs.bg {tx : Nat → Nat} {n i kp : Nat} {I : pmI} {J : pmJ} {a op T m : Nat} (h : qs tx n i kp I J a op T m) (ha : a < i) {x t p y : Int32} {v : Int64} (ht9 : ∃ t', t' ≤ 61 ∧ t = nI t' := by exact ⟨_, by omega, rfl⟩) (hq : (x = nI 2 ∨ x = nI 3) → ∃ t', t' ≤ 61 ∧ t = nI t' ∧ tk_k tx n t' = 97 := by first | exact fun q => absurd q (by decide) | exact fun _ => ⟨_, by omega, rfl, by assumption⟩) : qs tx n i kp (pm_u (pm_u (ndI I (64 * kp + m) m x t p (-5) (-5) (-5)) 47 40 (nI (a + 1))) 47 44 y) (pm_u J 70 (64 * kp + m) v) (a + 1) op T (m + 1) := by
  have hma := h.2.2.2.2.2.2.1.2
  rw [ndI_40]
  exact ((h.at' (b := a + 1) (by omega) (by omega)).node (by omega) (Or.inl rfl) (Or.inl rfl) (Or.inl rfl) ht9 hq).re' y
theorem qs.bg2 {tx : Nat → Nat} {n i kp : Nat} {I : pmI} {J : pmJ} {a op T m : Nat} (h : qs tx n i kp I J a op T m) (ha : a < i) {x t p y : Int32} {v : Int64} (ht9 : ∃ t', t' ≤ 61 ∧ t = nI t' := by exact ⟨_, by omega, rfl⟩) (hq : (x = nI 2 ∨ x = nI 3) → ∃ t', t' ≤ 61 ∧ t = nI t' ∧ tk_k tx n t' = 97 := by first | exact fun q => absurd q (by decide) | exact fun _ => ⟨_, by omega, rfl, by assumption⟩) : qs tx n i kp (pm_u (pm_u (ndI I (64 * kp + m) m x t p (-5) (-5) (-5)) 47 44 y) 47 40 (nI (a + 1))) (pm_u J 70 (64 * kp + m) v) (a + 1) op T (m + 1) := by
  rw [pm_comm (a := 47) (k := 44) (a' := 47) (k' := 40) (Or.inr (by decide))]
  exact h.bg ha ht9 hq
theorem pw_mI {l : Launch} {E : pmE} {y : MethodName} {cc : ByteArray} {nL : Nat} {ret : Option FieldType} {d kc ks pc : Nat} {lv : List (Nat × Value)} {st : List Value} {S : pmS} {I I' : pmI} {J : pmJ} {P : pmP} {Q : pm_Z} (h : I = I') (k : pm_W l E y cc nL ret d kc ks pc lv st S I' J P Q) : pm_W l E y cc nL ret d kc ks pc lv st S I J P Q := h ▸ k
set_option maxRecDepth 20000 in
set_option maxHeartbeats 4000000 in
theorem t_qX5 {l : Launch} {E : pmE} {S : pmS} {P : pmP} {d : Nat} {Q : Option Value → pmS → pmI → pmJ → pmP → Prop} {tx : Nat → Nat} {n i kp : Nat} {pa : List Int64} {f : Nat} (hG : sh_St S) (hP : gr_St P) (hb : ∀ j, j < n → tx j < 128) (hd : 6 ≤ d) (h0 : qX l E S P d Q tx n i kp pa f 0) (hC : qC l E S P d Q tx n i kp pa f) : qX l E S P d Q tx n i kp pa (f + 1) 5 := by
  intro a op T m I J r hs hk he ho hT hr k1 k0
  have hkp := hs.2.1.2
  have hi6 := hs.1.2.1
  have hai := hs.2.2.1.2
  have hma := hs.2.2.2.2.2.2.1.2
  have hkc := (rk_c (tk_k_c (tx := tx) (n := n) (i := a) hb).1)
  rw [ps_5] at hr
  by_cases h48 : tk_k tx n a = 48
  · rw [if_pos h48] at hr
    have hal := hs.lt (by rw [h48]; decide) (by rw [h48]; decide)
    unfold LH
    refine pw_aload_n dX10_readExpr_10 rfl ?_
    refine pw_getI fX10_213 dX10_readExpr_11 (sh_lt hG (by decide)) (sh_tg hG 45 rfl) rfl ?_
    refine pw_ifN_le _ (tgt := 204) dX10_readExpr_14 (by decide) (hs.2.2.2.2.2.1.1) (by omega) (fun h14 => absurd h14 (by omega)) (fun h14 => ?_)
    refine pw_aload_n dX10_readExpr_17 rfl ?_
    refine pw_getI fX10_197 dX10_readExpr_18 (sh_lt hG (by decide)) (sh_tg hG 45 rfl) rfl ?_
    refine pw_if_ge (tgt := 204) dX10_readExpr_21 (by decide) (fun h => absurd h (by rw [hs.2.2.2.1]; decide)) (fun h21 => ?_)
    refine pw_aload_n dX10_readExpr_24 rfl ?_
    refine pw_getI fX10_213 dX10_readExpr_25 (sh_lt hG (by decide)) (sh_tg hG 45 rfl) rfl ?_
    refine pw_iconst (v := nI 1) dX10_readExpr_28 (by decide) ?_
    refine pw_isub dX10_readExpr_29 ?_
    refine pw_ti (z := nI T) (by rw [hs.2.2.2.2.2.1.1]; exact nI_pred T) ?_
    refine pw_istore_n (lv' := [(1, _), (0, _)]) dX10_readExpr_30 (by decide) rfl ?_
    refine pw_aload_n dX10_readExpr_31 rfl ?_
    refine pw_getR fX10_108 dX10_readExpr_32 (sh_lt hG (by decide)) (sh_tg hG 45 rfl) rfl (gr_at hP 72 rfl) ?_
    refine pw_iload_n dX10_readExpr_35 rfl ?_
    refine pw_ialdN T dX10_readExpr_36 (sh_lt hG (by decide)) (sh_sh hG 78 rfl) (by decide) (rfl) (by omega) ?_
    refine pw_ti (z := nI 5) hk ?_
    refine pw_tableOut (tgt := 196) dX10_readExpr_37 (by decide) (by decide) ?_
    refine pw_aload_n dX10_readExpr_196 rfl ?_
    refine pw_iload_n dX10_readExpr_197 rfl ?_
    refine pw_callV (as := [_]) (kc' := 0) (ks' := 0) lX10_260 dX10_readExpr_198 rfl rfl (sh_lt hG (by decide)) (sh_tg hG 45 rfl) (Nat.le_of_ble_eq_true rfl) (by omega) (Nat.le_of_ble_eq_true rfl) (Nat.zero_le _) (Nat.zero_le _) ?_
    unfold pm_Met
    refine pm_lvs (lv' := [(0, _), (1, _)]) rfl ?_
    refine pw_aload_n dX10_atom_0 rfl ?_
    refine pw_getR fX10_111 dX10_atom_1 (sh_lt hG (by decide)) (sh_tg hG 45 rfl) rfl (gr_at hP 73 rfl) ?_
    refine pw_iload_n dX10_atom_4 rfl ?_
    refine pw_ialdN T dX10_atom_5 (sh_lt hG (by decide)) (sh_sh hG 79 rfl) (by decide) (rfl) (by omega) ?_
    refine pw_ti (z := nI 0) he ?_
    refine pw_lookup (off := 26) (tgt := 32) dX10_atom_6 (by decide) (by decide) (by decide) ?_
    refine pw_aload_n dX10_atom_32 rfl ?_
    refine pw_iload_n dX10_atom_33 rfl ?_
    refine pw_callV (as := [_]) (kc' := 0) (ks' := 0) lX10_244 dX10_atom_34 rfl rfl (sh_lt hG (by decide)) (sh_tg hG 45 rfl) (Nat.le_of_ble_eq_true rfl) (by omega) (Nat.le_of_ble_eq_true rfl) (Nat.zero_le _) (Nat.zero_le _) ?_
    unfold pm_Met
    refine pm_lvs (lv' := [(0, _), (1, _)]) rfl ?_
    refine pw_aload_n dX10_begin_0 rfl ?_
    refine pw_callV (as := []) (kc' := 0) (ks' := 0) lX10_200 dX10_begin_1 rfl rfl (sh_lt hG (by decide)) (sh_tg hG 45 rfl) (Nat.le_of_ble_eq_true rfl) (by omega) (Nat.le_of_ble_eq_true rfl) (Nat.zero_le _) (Nat.zero_le _) ?_
    refine c_X10_tok hG hP hs ?_
    refine pw_ti (z := nI 2) (by rw [h48]; rfl) ?_
    refine pw_istore_n (lv' := [(2, _), (0, _), (1, _)]) dX10_begin_4 (by decide) rfl ?_
    refine pw_iload_n dX10_begin_5 rfl ?_
    refine pw_iconst (v := nI 2) dX10_begin_6 (by decide) ?_
    refine pw_icmp_eq (tgt := 15) dX10_begin_7 (by decide) (fun hX10_begin_7 => ?_) (fun h => absurd (by decide) h)
    refine pw_aload_n dX10_begin_15 rfl ?_
    refine pw_aload_n dX10_begin_16 rfl ?_
    refine pw_iload_n dX10_begin_17 rfl ?_
    refine pw_iconst (v := nI 2) dX10_begin_18 (by decide) ?_
    refine pw_icmp_ne (tgt := 26) dX10_begin_19 (by decide) (fun h => absurd (by decide) h) (fun hX10_begin_19 => ?_)
    refine pw_iconst (v := nI 0) dX10_begin_22 (by decide) ?_
    refine pw_goto (tgt := 27) dX10_begin_23 (by decide) ?_
    refine pw_aload_n dX10_begin_27 rfl ?_
    refine pw_getI fX10_194 dX10_begin_28 (sh_lt hG (by decide)) (sh_tg hG 45 rfl) rfl ?_
    refine pw_ti (z := nI a) hs.2.2.1.1 ?_
    refine pw_bipush (v := -5) dX10_begin_31 (by decide) ?_
    refine pw_bipush (v := -5) dX10_begin_33 (by decide) ?_
    refine pw_bipush (v := -5) dX10_begin_35 (by decide) ?_
    refine pw_callV (as := [_, _, _, _, _]) (kc' := 0) (ks' := 0) lX10_240 dX10_begin_37 rfl rfl (sh_lt hG (by decide)) (sh_tg hG 45 rfl) (Nat.le_of_ble_eq_true rfl) (by omega) (Nat.le_of_ble_eq_true rfl) (Nat.zero_le _) (Nat.zero_le _) ?_
    refine c_X10_node hG hP hs (t := a) (by omega) (by omega) ?_
    have hfN := ndI_fq (T := T) (K := 64 * kp + m) (I := I) (J := J) (m := m) (x := nI 0) (t := nI a) (p := nI (tk_p tx n a)) (l := -5) (r := -5) (c := -5) (v := J 79 a) (Nat.le_refl _)
    have hat := ndI_at (k := 64 * kp + m) (m := m) (I := I) (x := nI 0) (t := nI a) (p := nI (tk_p tx n a)) (l := -5) (r := -5) (c := -5)
    have hv : J 79 a = tk_v tx n a := (hs.1.2.2.2.1 a hal).2.2
    refine pw_putI fX10_230 dX10_begin_40 (Or.inl rfl) (by decide) (sh_lt hG (by decide)) (sh_tg hG 45 rfl) rfl ?_
    refine pw_aload_n dX10_begin_43 rfl ?_
    refine pw_callV (as := []) (kc' := 0) (ks' := 0) lX10_207 dX10_begin_44 rfl rfl (sh_lt hG (by decide)) (sh_tg hG 45 rfl) (Nat.le_of_ble_eq_true rfl) (by omega) (Nat.le_of_ble_eq_true rfl) (Nat.zero_le _) (Nat.zero_le _) ?_
    refine c_X10_next (a := a) hG hP (by rw [pm_u_eq, pm_up_ne (by decide), ndI_47, pm_up_ne (by decide)]; exact hs.2.2.1.1) ?_
    refine pw_aload_n dX10_begin_47 rfl ?_
    refine pw_dup dX10_begin_48 rfl ?_
    refine pw_getI fX10_213 dX10_begin_49 (sh_lt hG (by decide)) (sh_tg hG 45 rfl) rfl ?_
    refine pw_iconst (v := nI 1) dX10_begin_52 (by decide) ?_
    refine pw_isub dX10_begin_53 ?_
    refine pw_ti (z := nI T) (by rw [(hs.bg2 (x := nI 0) (t := nI a) (p := nI (tk_p tx n a)) (y := nI (64 * kp + m)) (v := J 79 a) hal).2.2.2.2.2.1.1]; exact nI_pred T) ?_
    refine pw_putI fX10_213 dX10_begin_54 (Or.inl rfl) (by decide) (sh_lt hG (by decide)) (sh_tg hG 45 rfl) rfl ?_
    refine pw_goto (tgt := 217) dX10_begin_57 (by decide) ?_
    refine pw_vret dX10_begin_217 rfl ?_
    refine pw_goto (tgt := 75) dX10_atom_37 (by decide) ?_
    refine pw_vret dX10_atom_75 rfl ?_
    refine pw_goto (tgt := 10) dX10_readExpr_201 (by decide) ?_
    refine pw_sub [1] rfl ?_
    have hsB := hs.bg2 (x := nI 0) (t := nI a) (p := nI (tk_p tx n a)) (y := nI (64 * kp + m)) (v := J 79 a) hal
    have hfE := ((fq.put (T := T) (K := 64 * kp + m + 1) (I := ndI I (64 * kp + m) m (nI 0) (nI a) (nI (tk_p tx n a)) (-5) (-5) (-5)) (J := pm_u J 70 (64 * kp + m) (J 79 a)) (k := 44) (x := nI (64 * kp + m)) (by decide) (by decide)).trans (fq.put (T := T) (K := 64 * kp + m + 1) (k := 40) (x := nI (a + 1)) (by decide) (by decide)) (Nat.le_refl _) (Nat.le_refl _)).trans (fq.put (T := T) (K := 64 * kp + m + 1) (k := 45) (x := nI T) (by decide) (by decide)) (Nat.le_refl _) (Nat.le_refl _)
    exact k1 (a + 1) _ (64 * kp + m) (m + 1) _ _ (Option.some.inj hr).symm (hsB.tp' (by omega)) (by rw [pm_u_eq, pm_up_ne (by decide), pm_u_eq, pm_up_ne (by decide), pm_u_eq, pm_up_eq]) ((nT.m0 (s := m) (f := 0) (F := m + 1 - m) (m := m + 1) (by omega) ⟨by omega, by omega⟩ hat.2.2.1 hat.1 (by rw [pm_u_eq, pm_up_eq]; exact hv)).up hfE (Nat.le_refl _) (Nat.le_refl _)) ⟨by omega, by omega⟩ (hfN.trans hfE (Nat.le_refl _) (by omega))
  · rw [if_neg h48] at hr
    by_cases h36 : tk_k tx n a = 36
    · rw [if_pos h36] at hr
      have hal := hs.lt (by rw [h36]; decide) (by rw [h36]; decide)
      unfold LH
      refine pw_aload_n dX10_readExpr_10 rfl ?_
      refine pw_getI fX10_213 dX10_readExpr_11 (sh_lt hG (by decide)) (sh_tg hG 45 rfl) rfl ?_
      refine pw_ifN_le _ (tgt := 204) dX10_readExpr_14 (by decide) (hs.2.2.2.2.2.1.1) (by omega) (fun h14 => absurd h14 (by omega)) (fun h14 => ?_)
      refine pw_aload_n dX10_readExpr_17 rfl ?_
      refine pw_getI fX10_197 dX10_readExpr_18 (sh_lt hG (by decide)) (sh_tg hG 45 rfl) rfl ?_
      refine pw_if_ge (tgt := 204) dX10_readExpr_21 (by decide) (fun h => absurd h (by rw [hs.2.2.2.1]; decide)) (fun h21 => ?_)
      refine pw_aload_n dX10_readExpr_24 rfl ?_
      refine pw_getI fX10_213 dX10_readExpr_25 (sh_lt hG (by decide)) (sh_tg hG 45 rfl) rfl ?_
      refine pw_iconst (v := nI 1) dX10_readExpr_28 (by decide) ?_
      refine pw_isub dX10_readExpr_29 ?_
      refine pw_ti (z := nI T) (by rw [hs.2.2.2.2.2.1.1]; exact nI_pred T) ?_
      refine pw_istore_n (lv' := [(1, _), (0, _)]) dX10_readExpr_30 (by decide) rfl ?_
      refine pw_aload_n dX10_readExpr_31 rfl ?_
      refine pw_getR fX10_108 dX10_readExpr_32 (sh_lt hG (by decide)) (sh_tg hG 45 rfl) rfl (gr_at hP 72 rfl) ?_
      refine pw_iload_n dX10_readExpr_35 rfl ?_
      refine pw_ialdN T dX10_readExpr_36 (sh_lt hG (by decide)) (sh_sh hG 78 rfl) (by decide) (rfl) (by omega) ?_
      refine pw_ti (z := nI 5) hk ?_
      refine pw_tableOut (tgt := 196) dX10_readExpr_37 (by decide) (by decide) ?_
      refine pw_aload_n dX10_readExpr_196 rfl ?_
      refine pw_iload_n dX10_readExpr_197 rfl ?_
      refine pw_callV (as := [_]) (kc' := 0) (ks' := 0) lX10_260 dX10_readExpr_198 rfl rfl (sh_lt hG (by decide)) (sh_tg hG 45 rfl) (Nat.le_of_ble_eq_true rfl) (by omega) (Nat.le_of_ble_eq_true rfl) (Nat.zero_le _) (Nat.zero_le _) ?_
      unfold pm_Met
      refine pm_lvs (lv' := [(0, _), (1, _)]) rfl ?_
      refine pw_aload_n dX10_atom_0 rfl ?_
      refine pw_getR fX10_111 dX10_atom_1 (sh_lt hG (by decide)) (sh_tg hG 45 rfl) rfl (gr_at hP 73 rfl) ?_
      refine pw_iload_n dX10_atom_4 rfl ?_
      refine pw_ialdN T dX10_atom_5 (sh_lt hG (by decide)) (sh_sh hG 79 rfl) (by decide) (rfl) (by omega) ?_
      refine pw_ti (z := nI 0) he ?_
      refine pw_lookup (off := 26) (tgt := 32) dX10_atom_6 (by decide) (by decide) (by decide) ?_
      refine pw_aload_n dX10_atom_32 rfl ?_
      refine pw_iload_n dX10_atom_33 rfl ?_
      refine pw_callV (as := [_]) (kc' := 0) (ks' := 0) lX10_244 dX10_atom_34 rfl rfl (sh_lt hG (by decide)) (sh_tg hG 45 rfl) (Nat.le_of_ble_eq_true rfl) (by omega) (Nat.le_of_ble_eq_true rfl) (Nat.zero_le _) (Nat.zero_le _) ?_
      unfold pm_Met
      refine pm_lvs (lv' := [(0, _), (1, _)]) rfl ?_
      refine pw_aload_n dX10_begin_0 rfl ?_
      refine pw_callV (as := []) (kc' := 0) (ks' := 0) lX10_200 dX10_begin_1 rfl rfl (sh_lt hG (by decide)) (sh_tg hG 45 rfl) (Nat.le_of_ble_eq_true rfl) (by omega) (Nat.le_of_ble_eq_true rfl) (Nat.zero_le _) (Nat.zero_le _) ?_
      refine c_X10_tok hG hP hs ?_
      refine pw_ti (z := nI 3) (by rw [h36]; rfl) ?_
      refine pw_istore_n (lv' := [(2, _), (0, _), (1, _)]) dX10_begin_4 (by decide) rfl ?_
      refine pw_iload_n dX10_begin_5 rfl ?_
      refine pw_iconst (v := nI 2) dX10_begin_6 (by decide) ?_
      refine pw_icmp_eq (tgt := 15) dX10_begin_7 (by decide) (fun h => absurd h (by decide)) (fun hX10_begin_7 => ?_)
      refine pw_iload_n dX10_begin_10 rfl ?_
      refine pw_iconst (v := nI 3) dX10_begin_11 (by decide) ?_
      refine pw_icmp_ne (tgt := 60) dX10_begin_12 (by decide) (fun h => absurd (by decide) h) (fun hX10_begin_12 => ?_)
      refine pw_aload_n dX10_begin_15 rfl ?_
      refine pw_aload_n dX10_begin_16 rfl ?_
      refine pw_iload_n dX10_begin_17 rfl ?_
      refine pw_iconst (v := nI 2) dX10_begin_18 (by decide) ?_
      refine pw_icmp_ne (tgt := 26) dX10_begin_19 (by decide) (fun hX10_begin_19 => ?_) (fun h => absurd h (by decide))
      refine pw_iconst (v := nI 1) dX10_begin_26 (by decide) ?_
      refine pw_aload_n dX10_begin_27 rfl ?_
      refine pw_getI fX10_194 dX10_begin_28 (sh_lt hG (by decide)) (sh_tg hG 45 rfl) rfl ?_
      refine pw_ti (z := nI a) hs.2.2.1.1 ?_
      refine pw_bipush (v := -5) dX10_begin_31 (by decide) ?_
      refine pw_bipush (v := -5) dX10_begin_33 (by decide) ?_
      refine pw_bipush (v := -5) dX10_begin_35 (by decide) ?_
      refine pw_callV (as := [_, _, _, _, _]) (kc' := 0) (ks' := 0) lX10_240 dX10_begin_37 rfl rfl (sh_lt hG (by decide)) (sh_tg hG 45 rfl) (Nat.le_of_ble_eq_true rfl) (by omega) (Nat.le_of_ble_eq_true rfl) (Nat.zero_le _) (Nat.zero_le _) ?_
      refine c_X10_node hG hP hs (t := a) (by omega) (by omega) ?_
      have hfN := ndI_fq (T := T) (K := 64 * kp + m) (I := I) (J := J) (m := m) (x := nI 1) (t := nI a) (p := nI (tk_p tx n a)) (l := -5) (r := -5) (c := -5) (v := J 79 a) (Nat.le_refl _)
      have hat := ndI_at (k := 64 * kp + m) (m := m) (I := I) (x := nI 1) (t := nI a) (p := nI (tk_p tx n a)) (l := -5) (r := -5) (c := -5)
      have hv : J 79 a = tk_v tx n a := (hs.1.2.2.2.1 a hal).2.2
      refine pw_putI fX10_230 dX10_begin_40 (Or.inl rfl) (by decide) (sh_lt hG (by decide)) (sh_tg hG 45 rfl) rfl ?_
      refine pw_aload_n dX10_begin_43 rfl ?_
      refine pw_callV (as := []) (kc' := 0) (ks' := 0) lX10_207 dX10_begin_44 rfl rfl (sh_lt hG (by decide)) (sh_tg hG 45 rfl) (Nat.le_of_ble_eq_true rfl) (by omega) (Nat.le_of_ble_eq_true rfl) (Nat.zero_le _) (Nat.zero_le _) ?_
      refine c_X10_next (a := a) hG hP (by rw [pm_u_eq, pm_up_ne (by decide), ndI_47, pm_up_ne (by decide)]; exact hs.2.2.1.1) ?_
      refine pw_aload_n dX10_begin_47 rfl ?_
      refine pw_dup dX10_begin_48 rfl ?_
      refine pw_getI fX10_213 dX10_begin_49 (sh_lt hG (by decide)) (sh_tg hG 45 rfl) rfl ?_
      refine pw_iconst (v := nI 1) dX10_begin_52 (by decide) ?_
      refine pw_isub dX10_begin_53 ?_
      refine pw_ti (z := nI T) (by rw [(hs.bg2 (x := nI 1) (t := nI a) (p := nI (tk_p tx n a)) (y := nI (64 * kp + m)) (v := J 79 a) hal).2.2.2.2.2.1.1]; exact nI_pred T) ?_
      refine pw_putI fX10_213 dX10_begin_54 (Or.inl rfl) (by decide) (sh_lt hG (by decide)) (sh_tg hG 45 rfl) rfl ?_
      refine pw_goto (tgt := 217) dX10_begin_57 (by decide) ?_
      refine pw_vret dX10_begin_217 rfl ?_
      refine pw_goto (tgt := 75) dX10_atom_37 (by decide) ?_
      refine pw_vret dX10_atom_75 rfl ?_
      refine pw_goto (tgt := 10) dX10_readExpr_201 (by decide) ?_
      refine pw_sub [1] rfl ?_
      have hsB := hs.bg2 (x := nI 1) (t := nI a) (p := nI (tk_p tx n a)) (y := nI (64 * kp + m)) (v := J 79 a) hal
      have hfE := ((fq.put (T := T) (K := 64 * kp + m + 1) (I := ndI I (64 * kp + m) m (nI 1) (nI a) (nI (tk_p tx n a)) (-5) (-5) (-5)) (J := pm_u J 70 (64 * kp + m) (J 79 a)) (k := 44) (x := nI (64 * kp + m)) (by decide) (by decide)).trans (fq.put (T := T) (K := 64 * kp + m + 1) (k := 40) (x := nI (a + 1)) (by decide) (by decide)) (Nat.le_refl _) (Nat.le_refl _)).trans (fq.put (T := T) (K := 64 * kp + m + 1) (k := 45) (x := nI T) (by decide) (by decide)) (Nat.le_refl _) (Nat.le_refl _)
      exact k1 (a + 1) _ (64 * kp + m) (m + 1) _ _ (Option.some.inj hr).symm (hsB.tp' (by omega)) (by rw [pm_u_eq, pm_up_ne (by decide), pm_u_eq, pm_up_ne (by decide), pm_u_eq, pm_up_eq]) ((nT.m1 (s := m) (f := 0) (F := m + 1 - m) (m := m + 1) (by omega) ⟨by omega, by omega⟩ hat.2.2.1 hat.1 (by rw [pm_u_eq, pm_up_eq]; exact hv)).up hfE (Nat.le_refl _) (Nat.le_refl _)) ⟨by omega, by omega⟩ (hfN.trans hfE (Nat.le_refl _) (by omega))
    · rw [if_neg h36] at hr
      by_cases h97 : tk_k tx n a = 97
      · rw [if_pos h97] at hr
        have hal := hs.lt (by rw [h97]; decide) (by rw [h97]; decide)
        have hkc1 := (rk_c (tk_k_c (tx := tx) (n := n) (i := a + 1) hb).1)
        by_cases hc : tk_k tx n (a + 1) = 40
        · rw [if_pos hc] at hr
          unfold LH
          refine pw_aload_n dX10_readExpr_10 rfl ?_
          refine pw_getI fX10_213 dX10_readExpr_11 (sh_lt hG (by decide)) (sh_tg hG 45 rfl) rfl ?_
          refine pw_ifN_le _ (tgt := 204) dX10_readExpr_14 (by decide) (hs.2.2.2.2.2.1.1) (by omega) (fun h14 => absurd h14 (by omega)) (fun h14 => ?_)
          refine pw_aload_n dX10_readExpr_17 rfl ?_
          refine pw_getI fX10_197 dX10_readExpr_18 (sh_lt hG (by decide)) (sh_tg hG 45 rfl) rfl ?_
          refine pw_if_ge (tgt := 204) dX10_readExpr_21 (by decide) (fun h => absurd h (by rw [hs.2.2.2.1]; decide)) (fun h21 => ?_)
          refine pw_aload_n dX10_readExpr_24 rfl ?_
          refine pw_getI fX10_213 dX10_readExpr_25 (sh_lt hG (by decide)) (sh_tg hG 45 rfl) rfl ?_
          refine pw_iconst (v := nI 1) dX10_readExpr_28 (by decide) ?_
          refine pw_isub dX10_readExpr_29 ?_
          refine pw_ti (z := nI T) (by rw [hs.2.2.2.2.2.1.1]; exact nI_pred T) ?_
          refine pw_istore_n (lv' := [(1, _), (0, _)]) dX10_readExpr_30 (by decide) rfl ?_
          refine pw_aload_n dX10_readExpr_31 rfl ?_
          refine pw_getR fX10_108 dX10_readExpr_32 (sh_lt hG (by decide)) (sh_tg hG 45 rfl) rfl (gr_at hP 72 rfl) ?_
          refine pw_iload_n dX10_readExpr_35 rfl ?_
          refine pw_ialdN T dX10_readExpr_36 (sh_lt hG (by decide)) (sh_sh hG 78 rfl) (by decide) (rfl) (by omega) ?_
          refine pw_ti (z := nI 5) hk ?_
          refine pw_tableOut (tgt := 196) dX10_readExpr_37 (by decide) (by decide) ?_
          refine pw_aload_n dX10_readExpr_196 rfl ?_
          refine pw_iload_n dX10_readExpr_197 rfl ?_
          refine pw_callV (as := [_]) (kc' := 0) (ks' := 0) lX10_260 dX10_readExpr_198 rfl rfl (sh_lt hG (by decide)) (sh_tg hG 45 rfl) (Nat.le_of_ble_eq_true rfl) (by omega) (Nat.le_of_ble_eq_true rfl) (Nat.zero_le _) (Nat.zero_le _) ?_
          unfold pm_Met
          refine pm_lvs (lv' := [(0, _), (1, _)]) rfl ?_
          refine pw_aload_n dX10_atom_0 rfl ?_
          refine pw_getR fX10_111 dX10_atom_1 (sh_lt hG (by decide)) (sh_tg hG 45 rfl) rfl (gr_at hP 73 rfl) ?_
          refine pw_iload_n dX10_atom_4 rfl ?_
          refine pw_ialdN T dX10_atom_5 (sh_lt hG (by decide)) (sh_sh hG 79 rfl) (by decide) (rfl) (by omega) ?_
          refine pw_ti (z := nI 0) he ?_
          refine pw_lookup (off := 26) (tgt := 32) dX10_atom_6 (by decide) (by decide) (by decide) ?_
          refine pw_aload_n dX10_atom_32 rfl ?_
          refine pw_iload_n dX10_atom_33 rfl ?_
          refine pw_callV (as := [_]) (kc' := 0) (ks' := 0) lX10_244 dX10_atom_34 rfl rfl (sh_lt hG (by decide)) (sh_tg hG 45 rfl) (Nat.le_of_ble_eq_true rfl) (by omega) (Nat.le_of_ble_eq_true rfl) (Nat.zero_le _) (Nat.zero_le _) ?_
          unfold pm_Met
          refine pm_lvs (lv' := [(0, _), (1, _)]) rfl ?_
          refine pw_aload_n dX10_begin_0 rfl ?_
          refine pw_callV (as := []) (kc' := 0) (ks' := 0) lX10_200 dX10_begin_1 rfl rfl (sh_lt hG (by decide)) (sh_tg hG 45 rfl) (Nat.le_of_ble_eq_true rfl) (by omega) (Nat.le_of_ble_eq_true rfl) (Nat.zero_le _) (Nat.zero_le _) ?_
          refine c_X10_tok hG hP hs ?_
          refine pw_ti (z := nI 1) (by rw [h97]; rfl) ?_
          refine pw_istore_n (lv' := [(2, _), (0, _), (1, _)]) dX10_begin_4 (by decide) rfl ?_
          refine pw_iload_n dX10_begin_5 rfl ?_
          refine pw_iconst (v := nI 2) dX10_begin_6 (by decide) ?_
          refine pw_icmp_eq (tgt := 15) dX10_begin_7 (by decide) (fun h => absurd h (by decide)) (fun hX10_begin_7 => ?_)
          refine pw_iload_n dX10_begin_10 rfl ?_
          refine pw_iconst (v := nI 3) dX10_begin_11 (by decide) ?_
          refine pw_icmp_ne (tgt := 60) dX10_begin_12 (by decide) (fun hX10_begin_12 => ?_) (fun h => absurd h (by decide))
          refine pw_iload_n dX10_begin_60 rfl ?_
          refine pw_bipush (v := nI 40) dX10_begin_61 (by decide) ?_
          refine pw_icmp_ne (tgt := 82) dX10_begin_63 (by decide) (fun hX10_begin_63 => ?_) (fun h => absurd h (by decide))
          refine pw_iload_n dX10_begin_82 rfl ?_
          refine pw_iconst (v := nI 1) dX10_begin_83 (by decide) ?_
          refine pw_icmp_ne (tgt := 213) dX10_begin_84 (by decide) (fun h => absurd (by decide) h) (fun hX10_begin_84 => ?_)
          refine pw_aload_n dX10_begin_87 rfl ?_
          refine pw_aload_n dX10_begin_88 rfl ?_
          refine pw_getR fX10_99 dX10_begin_89 (sh_lt hG (by decide)) (sh_tg hG 45 rfl) rfl (gr_at hP 69 rfl) ?_
          refine pw_aload_n dX10_begin_92 rfl ?_
          refine pw_getI fX10_194 dX10_begin_93 (sh_lt hG (by decide)) (sh_tg hG 45 rfl) rfl ?_
          refine pw_iconst (v := nI 1) dX10_begin_96 (by decide) ?_
          refine pw_iadd dX10_begin_97 ?_
          refine pw_ti (z := nI (a + 1)) (by rw [hs.2.2.1.1]; exact nI_add a 1) ?_
          refine pw_ialdN (a + 1) dX10_begin_98 (sh_lt hG (by decide)) (sh_sh hG 75 rfl) (by decide) (rfl) (by omega) ?_
          refine pw_ti (z := nI 40) (by rw [(hs.1.2.2.2.2 (a + 1) (by omega)).1, hc]; rfl) ?_
          refine pw_bipush (v := nI 40) dX10_begin_99 (by decide) ?_
          refine pw_icmp_ne (tgt := 108) dX10_begin_101 (by decide) (fun h => absurd (by decide) h) (fun hX10_begin_101 => ?_)
          refine pw_iconst (v := nI 3) dX10_begin_104 (by decide) ?_
          refine pw_goto (tgt := 109) dX10_begin_105 (by decide) ?_
          refine pw_aload_n dX10_begin_109 rfl ?_
          refine pw_getI fX10_194 dX10_begin_110 (sh_lt hG (by decide)) (sh_tg hG 45 rfl) rfl ?_
          refine pw_ti (z := nI a) hs.2.2.1.1 ?_
          refine pw_bipush (v := -5) dX10_begin_113 (by decide) ?_
          refine pw_bipush (v := -5) dX10_begin_115 (by decide) ?_
          refine pw_bipush (v := -5) dX10_begin_117 (by decide) ?_
          refine pw_callV (as := [_, _, _, _, _]) (kc' := 0) (ks' := 0) lX10_240 dX10_begin_119 rfl rfl (sh_lt hG (by decide)) (sh_tg hG 45 rfl) (Nat.le_of_ble_eq_true rfl) (by omega) (Nat.le_of_ble_eq_true rfl) (Nat.zero_le _) (Nat.zero_le _) ?_
          refine c_X10_node hG hP hs (t := a) (by omega) (by omega) ?_
          have hfN := ndI_fq (T := T) (K := 64 * kp + m) (I := I) (J := J) (m := m) (x := nI 3) (t := nI a) (p := nI (tk_p tx n a)) (l := -5) (r := -5) (c := -5) (v := J 79 a) (Nat.le_refl _)
          have hat := ndI_at (k := 64 * kp + m) (m := m) (I := I) (x := nI 3) (t := nI a) (p := nI (tk_p tx n a)) (l := -5) (r := -5) (c := -5)
          have hv : J 79 a = tk_v tx n a := (hs.1.2.2.2.1 a hal).2.2
          refine pw_istore_n (lv' := [(3, _), (2, _), (0, _), (1, _)]) dX10_begin_122 (by decide) rfl ?_
          refine pw_aload_n dX10_begin_123 rfl ?_
          refine pw_callV (as := []) (kc' := 0) (ks' := 0) lX10_207 dX10_begin_124 rfl rfl (sh_lt hG (by decide)) (sh_tg hG 45 rfl) (Nat.le_of_ble_eq_true rfl) (by omega) (Nat.le_of_ble_eq_true rfl) (Nat.zero_le _) (Nat.zero_le _) ?_
          refine c_X10_next (a := a) hG hP (by rw [ndI_47, pm_up_ne (by decide)]; exact hs.2.2.1.1) ?_
          have hsB := hs.bg (x := nI 3) (t := nI a) (p := nI (tk_p tx n a)) (y := nI (64 * kp + m)) (v := J 79 a) hal
          have hfB := (fq.put (T := T) (K := 64 * kp + m + 1) (I := ndI I (64 * kp + m) m (nI 3) (nI a) (nI (tk_p tx n a)) (-5) (-5) (-5)) (J := pm_u J 70 (64 * kp + m) (J 79 a)) (k := 40) (x := nI (a + 1)) (by decide) (by decide)).trans (fq.put (T := T) (K := 64 * kp + m + 1) (k := 44) (x := nI (64 * kp + m)) (by decide) (by decide)) (Nat.le_refl _) (Nat.le_refl _)
          refine pw_aload_n dX10_begin_127 rfl ?_
          refine pw_iload_n dX10_begin_128 rfl ?_
          refine pw_putI fX10_230 dX10_begin_129 (Or.inl rfl) (by decide) (sh_lt hG (by decide)) (sh_tg hG 45 rfl) rfl ?_
          refine pw_aload_n dX10_begin_132 rfl ?_
          refine pw_callV (as := []) (kc' := 0) (ks' := 0) lX10_200 dX10_begin_133 rfl rfl (sh_lt hG (by decide)) (sh_tg hG 45 rfl) (Nat.le_of_ble_eq_true rfl) (by omega) (Nat.le_of_ble_eq_true rfl) (Nat.zero_le _) (Nat.zero_le _) ?_
          refine c_X10_tok hG hP hsB ?_
          refine pw_ti (z := nI 40) (by rw [hc]; rfl) ?_
          refine pw_bipush (v := nI 40) dX10_begin_136 (by decide) ?_
          refine pw_icmp_eq (tgt := 154) dX10_begin_138 (by decide) (fun hX10_begin_138 => ?_) (fun h => absurd (by decide) h)
          refine pw_aload_n dX10_begin_154 rfl ?_
          refine pw_callV (as := []) (kc' := 0) (ks' := 0) lX10_233 dX10_begin_155 rfl rfl (sh_lt hG (by decide)) (sh_tg hG 45 rfl) (Nat.le_of_ble_eq_true rfl) (by omega) (Nat.le_of_ble_eq_true rfl) (Nat.zero_le _) (Nat.zero_le _) ?_
          refine c_X10_opens hG hP (by omega) hsB ho (fun hlt => ?_) (fun hge => ?_)
          · rw [if_neg (by omega)] at hr
            have hal1 := hsB.lt (by rw [hc]; decide) (by rw [hc]; decide)
            have hs4 := ((hsB.op' (op + 1)).at' (b := a + 2) (by omega) (by omega)).fr' (b := 82) (j := T) (by decide) (by decide) (nI (64 * kp + m))
            have hf4 := (((hfN.trans hfB (Nat.le_refl _) (by omega)).trans (fq.put (T := T) (K := 64 * kp + m) (k := 42) (x := nI (op + 1)) (by decide) (by decide)) (Nat.le_refl _) (Nat.le_refl _)).trans (fq.put (T := T) (K := 64 * kp + m) (k := 40) (x := nI (a + 2)) (by decide) (by decide)) (Nat.le_refl _) (Nat.le_refl _)).trans (fq.frm (T := T) (K := 64 * kp + m) (a := 82) (j := T) (x := nI (64 * kp + m)) (by decide) (by decide) (Nat.le_refl _)) (Nat.le_refl _) (Nat.le_refl _)
            have hg4 := ((hfB.trans (fq.put (T := T) (K := 64 * kp + m + 1) (k := 42) (x := nI (op + 1)) (by decide) (by decide)) (Nat.le_refl _) (Nat.le_refl _)).trans (fq.put (T := T) (K := 64 * kp + m + 1) (k := 40) (x := nI (a + 2)) (by decide) (by decide)) (Nat.le_refl _) (Nat.le_refl _)).trans (fq.frm (T := T) (K := 64 * kp + m + 1) (a := 82) (j := T) (x := nI (64 * kp + m)) (by decide) (by decide) (Nat.le_refl _)) (Nat.le_refl _) (Nat.le_refl _)
            have hkc2 := (rk_c (tk_k_c (tx := tx) (n := n) (i := a + 2) hb).1)
            by_cases hz : tk_k tx n (a + 2) = 41
            · rw [if_pos hz] at hr
              have hal2 := hs4.lt (by rw [hz]; decide) (by rw [hz]; decide)
              refine pw_if_eq (tgt := 210) dX10_begin_158 (by decide) (fun h => absurd h (by decide)) (fun hX10_begin_158 => ?_)
              refine pw_aload_n dX10_begin_161 rfl ?_
              refine pw_getR fX10_114 dX10_begin_162 (sh_lt hG (by decide)) (sh_tg hG 45 rfl) rfl (gr_at hP 74 rfl) ?_
              refine pw_iload_n dX10_begin_165 rfl ?_
              refine pw_iload_n dX10_begin_166 rfl ?_
              refine pw_iastN T dX10_begin_167 (by decide) (sh_lt hG (by decide)) (sh_sh hG 80 rfl) (by decide) (rfl) (by omega) ?_
              refine pw_aload_n dX10_begin_168 rfl ?_
              refine pw_callV (as := []) (kc' := 0) (ks' := 0) lX10_200 dX10_begin_169 rfl rfl (sh_lt hG (by decide)) (sh_tg hG 45 rfl) (Nat.le_of_ble_eq_true rfl) (by omega) (Nat.le_of_ble_eq_true rfl) (Nat.zero_le _) (Nat.zero_le _) ?_
              refine c_X10_tok hG hP hs4 ?_
              refine pw_ti (z := nI 41) (by rw [hz]; rfl) ?_
              refine pw_bipush (v := nI 41) dX10_begin_172 (by decide) ?_
              refine pw_icmp_ne (tgt := 204) dX10_begin_174 (by decide) (fun h => absurd (by decide) h) (fun hX10_begin_174 => ?_)
              refine pw_aload_n dX10_begin_177 rfl ?_
              refine pw_dup dX10_begin_178 rfl ?_
              refine pw_getI fX10_210 dX10_begin_179 (sh_lt hG (by decide)) (sh_tg hG 45 rfl) rfl ?_
              refine pw_iconst (v := nI 1) dX10_begin_182 (by decide) ?_
              refine pw_isub dX10_begin_183 ?_
              refine pw_ti (z := nI op) (by rw [hs4.2.2.2.2.1]; exact nI_pred op) ?_
              refine pw_putI fX10_210 dX10_begin_184 (Or.inl rfl) (by decide) (sh_lt hG (by decide)) (sh_tg hG 45 rfl) rfl ?_
              refine pw_aload_n dX10_begin_187 rfl ?_
              refine pw_callV (as := []) (kc' := 0) (ks' := 0) lX10_207 dX10_begin_188 rfl rfl (sh_lt hG (by decide)) (sh_tg hG 45 rfl) (Nat.le_of_ble_eq_true rfl) (by omega) (Nat.le_of_ble_eq_true rfl) (Nat.zero_le _) (Nat.zero_le _) ?_
              refine c_X10_next (a := a + 2) hG hP (hs4.op' op).2.2.1.1 ?_
              refine pw_aload_n dX10_begin_191 rfl ?_
              refine pw_dup dX10_begin_192 rfl ?_
              refine pw_getI fX10_213 dX10_begin_193 (sh_lt hG (by decide)) (sh_tg hG 45 rfl) rfl ?_
              refine pw_iconst (v := nI 1) dX10_begin_196 (by decide) ?_
              refine pw_isub dX10_begin_197 ?_
              refine pw_ti (z := nI T) (by rw [((hs4.op' op).at' (b := a + 3) (by omega) (by omega)).2.2.2.2.2.1.1]; exact nI_pred T) ?_
              refine pw_putI fX10_213 dX10_begin_198 (Or.inl rfl) (by decide) (sh_lt hG (by decide)) (sh_tg hG 45 rfl) rfl ?_
              refine pw_goto (tgt := 210) dX10_begin_201 (by decide) ?_
              refine pw_goto (tgt := 217) dX10_begin_210 (by decide) ?_
              refine pw_vret dX10_begin_217 rfl ?_
              refine pw_goto (tgt := 75) dX10_atom_37 (by decide) ?_
              refine pw_vret dX10_atom_75 rfl ?_
              refine pw_goto (tgt := 10) dX10_readExpr_201 (by decide) ?_
              refine pw_sub [1] rfl ?_
              have hsE := (((hs4.op' op).at' (b := a + 3) (by omega) (by omega)).tp' (b := T) (by omega))
              have hgE := ((hg4.trans (fq.put (T := T) (K := 64 * kp + m + 1) (k := 42) (x := nI op) (by decide) (by decide)) (Nat.le_refl _) (Nat.le_refl _)).trans (fq.put (T := T) (K := 64 * kp + m + 1) (k := 40) (x := nI (a + 3)) (by decide) (by decide)) (Nat.le_refl _) (Nat.le_refl _)).trans (fq.put (T := T) (K := 64 * kp + m + 1) (k := 45) (x := nI T) (by decide) (by decide)) (Nat.le_refl _) (Nat.le_refl _)
              have hfE := ((hf4.trans (fq.put (T := T) (K := 64 * kp + m) (k := 42) (x := nI op) (by decide) (by decide)) (Nat.le_refl _) (Nat.le_refl _)).trans (fq.put (T := T) (K := 64 * kp + m) (k := 40) (x := nI (a + 3)) (by decide) (by decide)) (Nat.le_refl _) (Nat.le_refl _)).trans (fq.put (T := T) (K := 64 * kp + m) (k := 45) (x := nI T) (by decide) (by decide)) (Nat.le_refl _) (Nat.le_refl _)
              exact k1 (a + 3) _ (64 * kp + m) (m + 1) _ _ (Option.some.inj hr).symm hsE (by rw [pm_u_eq, pm_up_ne (by decide), pm_u_eq, pm_up_ne (by decide), pm_u_eq, pm_up_ne (by decide), pm_u_ne (by decide), pm_u_eq, pm_up_ne (by decide), pm_u_eq, pm_up_ne (by decide), pm_u_eq, pm_up_eq]) ((nT.m3 (s := m) (f := 0) (F := m + 1 - m) (m := m + 1) (g := 0) (M1 := []) (M2 := []) (M3 := []) (by omega) ⟨by omega, by omega⟩ hat.2.2.1 hat.1 ⟨a, by omega, hat.2.1, h97, rfl⟩ hat.2.2.2.2.2.2 (by omega) (Or.inl ⟨by omega, rfl⟩) (Or.inl ⟨by omega, rfl⟩) (Or.inl ⟨by omega, rfl⟩)).up hgE (Nat.le_refl _) (Nat.le_refl _)) ⟨by omega, by omega⟩ hfE
            · rw [if_neg hz] at hr
              refine pw_if_eq (tgt := 210) dX10_begin_158 (by decide) (fun h => absurd h (by decide)) (fun hX10_begin_158 => ?_)
              refine pw_aload_n dX10_begin_161 rfl ?_
              refine pw_getR fX10_114 dX10_begin_162 (sh_lt hG (by decide)) (sh_tg hG 45 rfl) rfl (gr_at hP 74 rfl) ?_
              refine pw_iload_n dX10_begin_165 rfl ?_
              refine pw_iload_n dX10_begin_166 rfl ?_
              refine pw_iastN T dX10_begin_167 (by decide) (sh_lt hG (by decide)) (sh_sh hG 80 rfl) (by decide) (rfl) (by omega) ?_
              refine pw_aload_n dX10_begin_168 rfl ?_
              refine pw_callV (as := []) (kc' := 0) (ks' := 0) lX10_200 dX10_begin_169 rfl rfl (sh_lt hG (by decide)) (sh_tg hG 45 rfl) (Nat.le_of_ble_eq_true rfl) (by omega) (Nat.le_of_ble_eq_true rfl) (Nat.zero_le _) (Nat.zero_le _) ?_
              refine c_X10_tok hG hP hs4 ?_
              refine pw_bipush (v := nI 41) dX10_begin_172 (by decide) ?_
              refine pw_icmpN_ne _ _ (tgt := 204) dX10_begin_174 (by decide) (rfl) (rfl) (by omega) (by omega) (fun hX10_begin_174 => ?_) (fun hX10_begin_174 => absurd hX10_begin_174 (fun q => hz ((rq41 hb).mp q)))
              refine pw_aload_n dX10_begin_204 rfl ?_
              refine pw_iconst (v := nI 2) dX10_begin_205 (by decide) ?_
              refine pw_iconst (v := nI 0) dX10_begin_206 (by decide) ?_
              refine pw_callV (as := [_, _]) (kc' := 0) (ks' := 0) lX10_226 dX10_begin_207 rfl rfl (sh_lt hG (by decide)) (sh_tg hG 45 rfl) (Nat.le_of_ble_eq_true rfl) (by omega) (Nat.le_of_ble_eq_true rfl) (Nat.zero_le _) (Nat.zero_le _) ?_
              refine c_X10_then hG hP (by omega) hs4 (by omega) (s := 2) (k := 0) (fun I5 hB => ?_)
              refine pw_goto (tgt := 217) dX10_begin_210 (by decide) ?_
              refine pw_vret dX10_begin_217 rfl ?_
              refine pw_goto (tgt := 75) dX10_atom_37 (by decide) ?_
              refine pw_vret dX10_atom_75 rfl ?_
              refine pw_goto (tgt := 10) dX10_readExpr_201 (by decide) ?_
              refine pw_sub [1] rfl ?_
              have hg5 := hg4.trans (hB.2.2.2.2.2.le (T := T) (K := 64 * kp + m + 1) (Nat.le_refl _) (by omega)) (Nat.le_refl _) (Nat.le_refl _)
              have e5 : ∀ b, 63 ≤ b → b ≤ 69 → I5 b (64 * kp + m) = (ndI I (64 * kp + m) m (nI 3) (nI a) (nI (tk_p tx n a)) (-5) (-5) (-5)) b (64 * kp + m) := fun b h1 h2 => hg5.2.2.2.1 b _ h1 h2 (by omega)
              exact hC 0 (a + 2) op T (m + 1) a m a [] [] I5 _ r (by omega) hB.1 (by rw [hB.2.2.1.2, pm_u_ne (by decide), pm_u_ne (by decide), pm_u_ne (by decide), pm_u_ne (by decide), pm_u_ne (by decide)]; unfold ndI; (repeat rw [pm_u_ne (by decide)]); exact hk) hB.2.2.1.1 (by rw [hB.2.2.2.1 82 (by decide) (by decide), pm_u_eq, pm_up_eq]) hB.2.1.1 hB.2.1.2 ⟨by rw [e5 63 (by decide) (by decide)]; exact hat.1, by rw [e5 67 (by decide) (by decide)]; exact hat.2.2.1, ⟨a, by omega, by rw [e5 68 (by decide) (by decide)]; exact hat.2.1, h97, rfl⟩, by rw [e5 69 (by decide) (by decide)]; exact hat.2.2.2.2.2.2, Or.inl ⟨by omega, rfl⟩, Or.inl ⟨by omega, rfl⟩⟩ ⟨by omega, by omega⟩ hlt (by omega) hr (k1.mv (hf4.trans (hB.2.2.2.2.2.le (T := T) (K := 64 * kp + m) (Nat.le_refl _) (by omega)) (Nat.le_refl _) (Nat.le_refl _)) (Nat.le_refl _) rfl) (k0.mv (hf4.trans (hB.2.2.2.2.2.le (T := T) (K := 64 * kp + m) (Nat.le_refl _) (by omega)) (Nat.le_refl _) (Nat.le_refl _)) (by omega))
          · rw [if_pos hge] at hr
            refine pw_if_eq (tgt := 210) dX10_begin_158 (by decide) (fun hX10_begin_158 => ?_) (fun h => absurd (by decide) h)
            refine pw_goto (tgt := 217) dX10_begin_210 (by decide) ?_
            refine pw_vret dX10_begin_217 rfl ?_
            refine pw_goto (tgt := 75) dX10_atom_37 (by decide) ?_
            refine pw_vret dX10_atom_75 rfl ?_
            refine pw_goto (tgt := 10) dX10_readExpr_201 (by decide) ?_
            refine pw_sub [1] rfl ?_
            exact k0 (a + 1) _ _ (Option.some.inj hr).symm (by rw [pm_u_eq, pm_up_eq]) (((hfN.trans hfB (Nat.le_refl _) (by omega)).trans (fq.put (T := T) (K := 64 * kp + m) (by decide) (by decide)) (Nat.le_refl _) (Nat.le_refl _)).le (Nat.zero_le _) (by omega))
        · rw [if_neg hc] at hr
          unfold LH
          refine pw_aload_n dX10_readExpr_10 rfl ?_
          refine pw_getI fX10_213 dX10_readExpr_11 (sh_lt hG (by decide)) (sh_tg hG 45 rfl) rfl ?_
          refine pw_ifN_le _ (tgt := 204) dX10_readExpr_14 (by decide) (hs.2.2.2.2.2.1.1) (by omega) (fun h14 => absurd h14 (by omega)) (fun h14 => ?_)
          refine pw_aload_n dX10_readExpr_17 rfl ?_
          refine pw_getI fX10_197 dX10_readExpr_18 (sh_lt hG (by decide)) (sh_tg hG 45 rfl) rfl ?_
          refine pw_if_ge (tgt := 204) dX10_readExpr_21 (by decide) (fun h => absurd h (by rw [hs.2.2.2.1]; decide)) (fun h21 => ?_)
          refine pw_aload_n dX10_readExpr_24 rfl ?_
          refine pw_getI fX10_213 dX10_readExpr_25 (sh_lt hG (by decide)) (sh_tg hG 45 rfl) rfl ?_
          refine pw_iconst (v := nI 1) dX10_readExpr_28 (by decide) ?_
          refine pw_isub dX10_readExpr_29 ?_
          refine pw_ti (z := nI T) (by rw [hs.2.2.2.2.2.1.1]; exact nI_pred T) ?_
          refine pw_istore_n (lv' := [(1, _), (0, _)]) dX10_readExpr_30 (by decide) rfl ?_
          refine pw_aload_n dX10_readExpr_31 rfl ?_
          refine pw_getR fX10_108 dX10_readExpr_32 (sh_lt hG (by decide)) (sh_tg hG 45 rfl) rfl (gr_at hP 72 rfl) ?_
          refine pw_iload_n dX10_readExpr_35 rfl ?_
          refine pw_ialdN T dX10_readExpr_36 (sh_lt hG (by decide)) (sh_sh hG 78 rfl) (by decide) (rfl) (by omega) ?_
          refine pw_ti (z := nI 5) hk ?_
          refine pw_tableOut (tgt := 196) dX10_readExpr_37 (by decide) (by decide) ?_
          refine pw_aload_n dX10_readExpr_196 rfl ?_
          refine pw_iload_n dX10_readExpr_197 rfl ?_
          refine pw_callV (as := [_]) (kc' := 0) (ks' := 0) lX10_260 dX10_readExpr_198 rfl rfl (sh_lt hG (by decide)) (sh_tg hG 45 rfl) (Nat.le_of_ble_eq_true rfl) (by omega) (Nat.le_of_ble_eq_true rfl) (Nat.zero_le _) (Nat.zero_le _) ?_
          unfold pm_Met
          refine pm_lvs (lv' := [(0, _), (1, _)]) rfl ?_
          refine pw_aload_n dX10_atom_0 rfl ?_
          refine pw_getR fX10_111 dX10_atom_1 (sh_lt hG (by decide)) (sh_tg hG 45 rfl) rfl (gr_at hP 73 rfl) ?_
          refine pw_iload_n dX10_atom_4 rfl ?_
          refine pw_ialdN T dX10_atom_5 (sh_lt hG (by decide)) (sh_sh hG 79 rfl) (by decide) (rfl) (by omega) ?_
          refine pw_ti (z := nI 0) he ?_
          refine pw_lookup (off := 26) (tgt := 32) dX10_atom_6 (by decide) (by decide) (by decide) ?_
          refine pw_aload_n dX10_atom_32 rfl ?_
          refine pw_iload_n dX10_atom_33 rfl ?_
          refine pw_callV (as := [_]) (kc' := 0) (ks' := 0) lX10_244 dX10_atom_34 rfl rfl (sh_lt hG (by decide)) (sh_tg hG 45 rfl) (Nat.le_of_ble_eq_true rfl) (by omega) (Nat.le_of_ble_eq_true rfl) (Nat.zero_le _) (Nat.zero_le _) ?_
          unfold pm_Met
          refine pm_lvs (lv' := [(0, _), (1, _)]) rfl ?_
          refine pw_aload_n dX10_begin_0 rfl ?_
          refine pw_callV (as := []) (kc' := 0) (ks' := 0) lX10_200 dX10_begin_1 rfl rfl (sh_lt hG (by decide)) (sh_tg hG 45 rfl) (Nat.le_of_ble_eq_true rfl) (by omega) (Nat.le_of_ble_eq_true rfl) (Nat.zero_le _) (Nat.zero_le _) ?_
          refine c_X10_tok hG hP hs ?_
          refine pw_ti (z := nI 1) (by rw [h97]; rfl) ?_
          refine pw_istore_n (lv' := [(2, _), (0, _), (1, _)]) dX10_begin_4 (by decide) rfl ?_
          refine pw_iload_n dX10_begin_5 rfl ?_
          refine pw_iconst (v := nI 2) dX10_begin_6 (by decide) ?_
          refine pw_icmp_eq (tgt := 15) dX10_begin_7 (by decide) (fun h => absurd h (by decide)) (fun hX10_begin_7 => ?_)
          refine pw_iload_n dX10_begin_10 rfl ?_
          refine pw_iconst (v := nI 3) dX10_begin_11 (by decide) ?_
          refine pw_icmp_ne (tgt := 60) dX10_begin_12 (by decide) (fun hX10_begin_12 => ?_) (fun h => absurd h (by decide))
          refine pw_iload_n dX10_begin_60 rfl ?_
          refine pw_bipush (v := nI 40) dX10_begin_61 (by decide) ?_
          refine pw_icmp_ne (tgt := 82) dX10_begin_63 (by decide) (fun hX10_begin_63 => ?_) (fun h => absurd h (by decide))
          refine pw_iload_n dX10_begin_82 rfl ?_
          refine pw_iconst (v := nI 1) dX10_begin_83 (by decide) ?_
          refine pw_icmp_ne (tgt := 213) dX10_begin_84 (by decide) (fun h => absurd (by decide) h) (fun hX10_begin_84 => ?_)
          refine pw_aload_n dX10_begin_87 rfl ?_
          refine pw_aload_n dX10_begin_88 rfl ?_
          refine pw_getR fX10_99 dX10_begin_89 (sh_lt hG (by decide)) (sh_tg hG 45 rfl) rfl (gr_at hP 69 rfl) ?_
          refine pw_aload_n dX10_begin_92 rfl ?_
          refine pw_getI fX10_194 dX10_begin_93 (sh_lt hG (by decide)) (sh_tg hG 45 rfl) rfl ?_
          refine pw_iconst (v := nI 1) dX10_begin_96 (by decide) ?_
          refine pw_iadd dX10_begin_97 ?_
          refine pw_ti (z := nI (a + 1)) (by rw [hs.2.2.1.1]; exact nI_add a 1) ?_
          refine pw_ialdN (a + 1) dX10_begin_98 (sh_lt hG (by decide)) (sh_sh hG 75 rfl) (by decide) (rfl) (by omega) ?_
          refine pw_ti (z := nI (rk (tk_k tx n (a + 1)))) (hs.1.2.2.2.2 (a + 1) (by omega)).1 ?_
          refine pw_bipush (v := nI 40) dX10_begin_99 (by decide) ?_
          refine pw_icmpN_ne _ _ (tgt := 108) dX10_begin_101 (by decide) (rfl) (rfl) (by omega) (by omega) (fun hX10_begin_101 => ?_) (fun hX10_begin_101 => absurd hX10_begin_101 (fun q => hc ((rq40 hb).mp q)))
          refine pw_iconst (v := nI 2) dX10_begin_108 (by decide) ?_
          refine pw_aload_n dX10_begin_109 rfl ?_
          refine pw_getI fX10_194 dX10_begin_110 (sh_lt hG (by decide)) (sh_tg hG 45 rfl) rfl ?_
          refine pw_ti (z := nI a) hs.2.2.1.1 ?_
          refine pw_bipush (v := -5) dX10_begin_113 (by decide) ?_
          refine pw_bipush (v := -5) dX10_begin_115 (by decide) ?_
          refine pw_bipush (v := -5) dX10_begin_117 (by decide) ?_
          refine pw_callV (as := [_, _, _, _, _]) (kc' := 0) (ks' := 0) lX10_240 dX10_begin_119 rfl rfl (sh_lt hG (by decide)) (sh_tg hG 45 rfl) (Nat.le_of_ble_eq_true rfl) (by omega) (Nat.le_of_ble_eq_true rfl) (Nat.zero_le _) (Nat.zero_le _) ?_
          refine c_X10_node hG hP hs (t := a) (by omega) (by omega) ?_
          have hfN := ndI_fq (T := T) (K := 64 * kp + m) (I := I) (J := J) (m := m) (x := nI 2) (t := nI a) (p := nI (tk_p tx n a)) (l := -5) (r := -5) (c := -5) (v := J 79 a) (Nat.le_refl _)
          have hat := ndI_at (k := 64 * kp + m) (m := m) (I := I) (x := nI 2) (t := nI a) (p := nI (tk_p tx n a)) (l := -5) (r := -5) (c := -5)
          have hv : J 79 a = tk_v tx n a := (hs.1.2.2.2.1 a hal).2.2
          refine pw_istore_n (lv' := [(3, _), (2, _), (0, _), (1, _)]) dX10_begin_122 (by decide) rfl ?_
          refine pw_aload_n dX10_begin_123 rfl ?_
          refine pw_callV (as := []) (kc' := 0) (ks' := 0) lX10_207 dX10_begin_124 rfl rfl (sh_lt hG (by decide)) (sh_tg hG 45 rfl) (Nat.le_of_ble_eq_true rfl) (by omega) (Nat.le_of_ble_eq_true rfl) (Nat.zero_le _) (Nat.zero_le _) ?_
          refine c_X10_next (a := a) hG hP (by rw [ndI_47, pm_up_ne (by decide)]; exact hs.2.2.1.1) ?_
          have hsB := hs.bg (x := nI 2) (t := nI a) (p := nI (tk_p tx n a)) (y := nI (64 * kp + m)) (v := J 79 a) hal
          have hfB := (fq.put (T := T) (K := 64 * kp + m + 1) (I := ndI I (64 * kp + m) m (nI 2) (nI a) (nI (tk_p tx n a)) (-5) (-5) (-5)) (J := pm_u J 70 (64 * kp + m) (J 79 a)) (k := 40) (x := nI (a + 1)) (by decide) (by decide)).trans (fq.put (T := T) (K := 64 * kp + m + 1) (k := 44) (x := nI (64 * kp + m)) (by decide) (by decide)) (Nat.le_refl _) (Nat.le_refl _)
          refine pw_aload_n dX10_begin_127 rfl ?_
          refine pw_iload_n dX10_begin_128 rfl ?_
          refine pw_putI fX10_230 dX10_begin_129 (Or.inl rfl) (by decide) (sh_lt hG (by decide)) (sh_tg hG 45 rfl) rfl ?_
          refine pw_aload_n dX10_begin_132 rfl ?_
          refine pw_callV (as := []) (kc' := 0) (ks' := 0) lX10_200 dX10_begin_133 rfl rfl (sh_lt hG (by decide)) (sh_tg hG 45 rfl) (Nat.le_of_ble_eq_true rfl) (by omega) (Nat.le_of_ble_eq_true rfl) (Nat.zero_le _) (Nat.zero_le _) ?_
          refine c_X10_tok hG hP hsB ?_
          refine pw_bipush (v := nI 40) dX10_begin_136 (by decide) ?_
          refine pw_icmpN_eq _ _ (tgt := 154) dX10_begin_138 (by decide) (rfl) (rfl) (by omega) (by omega) (fun hX10_begin_138 => absurd hX10_begin_138 (fun q => hc ((rq40 hb).mp q))) (fun hX10_begin_138 => ?_)
          refine pw_aload_n dX10_begin_141 rfl ?_
          refine pw_dup dX10_begin_142 rfl ?_
          refine pw_getI fX10_213 dX10_begin_143 (sh_lt hG (by decide)) (sh_tg hG 45 rfl) rfl ?_
          refine pw_iconst (v := nI 1) dX10_begin_146 (by decide) ?_
          refine pw_isub dX10_begin_147 ?_
          refine pw_ti (z := nI T) (by rw [hsB.2.2.2.2.2.1.1]; exact nI_pred T) ?_
          refine pw_putI fX10_213 dX10_begin_148 (Or.inl rfl) (by decide) (sh_lt hG (by decide)) (sh_tg hG 45 rfl) rfl ?_
          refine pw_goto (tgt := 210) dX10_begin_151 (by decide) ?_
          refine pw_goto (tgt := 217) dX10_begin_210 (by decide) ?_
          refine pw_vret dX10_begin_217 rfl ?_
          refine pw_goto (tgt := 75) dX10_atom_37 (by decide) ?_
          refine pw_vret dX10_atom_75 rfl ?_
          refine pw_goto (tgt := 10) dX10_readExpr_201 (by decide) ?_
          refine pw_sub [1] rfl ?_
          have hE := hfB.trans (fq.put (T := T) (K := 64 * kp + m + 1) (k := 45) (x := nI T) (by decide) (by decide)) (Nat.le_refl _) (Nat.le_refl _)
          have hnT := (nT.m2 (pa := pa) (J := pm_u J 70 (64 * kp + m) (J 79 a)) (s := m) (f := 0) (F := m + 1 - m) (m := m + 1) (v := tk_v tx n a) (by omega) ⟨by omega, by omega⟩ hat.2.2.1 hat.1 ⟨a, by omega, hat.2.1, h97, rfl⟩).up (s' := m) (m' := m + 1) (f' := m + 1 - m) hE (Nat.le_refl _) (Nat.le_refl _)
          have e44 : pm_u (pm_u (pm_u (ndI I (64 * kp + m) m (nI 2) (nI a) (nI (tk_p tx n a)) (-5) (-5) (-5)) 47 40 (nI (a + 1))) 47 44 (nI (64 * kp + m))) 47 45 (nI T) 47 44 = nI (64 * kp + m) := by rw [pm_u_eq, pm_up_ne (by decide), pm_u_eq, pm_up_eq]
          rcases hpa : ps_arg pa (tk_v tx n a) 0 with _ | j
          · rw [hpa] at hr hnT
            exact k1 (a + 1) _ (64 * kp + m) (m + 1) _ _ (Option.some.inj hr).symm (hsB.tp' (by omega)) e44 hnT ⟨by omega, by omega⟩ (hfN.trans hE (Nat.le_refl _) (by omega))
          · rw [hpa] at hr hnT
            exact k1 (a + 1) _ (64 * kp + m) (m + 1) _ _ (Option.some.inj hr).symm (hsB.tp' (by omega)) e44 hnT ⟨by omega, by omega⟩ (hfN.trans hE (Nat.le_refl _) (by omega))
      · rw [if_neg h97] at hr
        by_cases h40 : tk_k tx n a = 40
        · rw [if_pos h40] at hr
          have hal := hs.lt (by rw [h40]; decide) (by rw [h40]; decide)
          unfold LH
          refine pw_aload_n dX10_readExpr_10 rfl ?_
          refine pw_getI fX10_213 dX10_readExpr_11 (sh_lt hG (by decide)) (sh_tg hG 45 rfl) rfl ?_
          refine pw_ifN_le _ (tgt := 204) dX10_readExpr_14 (by decide) (hs.2.2.2.2.2.1.1) (by omega) (fun h14 => absurd h14 (by omega)) (fun h14 => ?_)
          refine pw_aload_n dX10_readExpr_17 rfl ?_
          refine pw_getI fX10_197 dX10_readExpr_18 (sh_lt hG (by decide)) (sh_tg hG 45 rfl) rfl ?_
          refine pw_if_ge (tgt := 204) dX10_readExpr_21 (by decide) (fun h => absurd h (by rw [hs.2.2.2.1]; decide)) (fun h21 => ?_)
          refine pw_aload_n dX10_readExpr_24 rfl ?_
          refine pw_getI fX10_213 dX10_readExpr_25 (sh_lt hG (by decide)) (sh_tg hG 45 rfl) rfl ?_
          refine pw_iconst (v := nI 1) dX10_readExpr_28 (by decide) ?_
          refine pw_isub dX10_readExpr_29 ?_
          refine pw_ti (z := nI T) (by rw [hs.2.2.2.2.2.1.1]; exact nI_pred T) ?_
          refine pw_istore_n (lv' := [(1, _), (0, _)]) dX10_readExpr_30 (by decide) rfl ?_
          refine pw_aload_n dX10_readExpr_31 rfl ?_
          refine pw_getR fX10_108 dX10_readExpr_32 (sh_lt hG (by decide)) (sh_tg hG 45 rfl) rfl (gr_at hP 72 rfl) ?_
          refine pw_iload_n dX10_readExpr_35 rfl ?_
          refine pw_ialdN T dX10_readExpr_36 (sh_lt hG (by decide)) (sh_sh hG 78 rfl) (by decide) (rfl) (by omega) ?_
          refine pw_ti (z := nI 5) hk ?_
          refine pw_tableOut (tgt := 196) dX10_readExpr_37 (by decide) (by decide) ?_
          refine pw_aload_n dX10_readExpr_196 rfl ?_
          refine pw_iload_n dX10_readExpr_197 rfl ?_
          refine pw_callV (as := [_]) (kc' := 0) (ks' := 0) lX10_260 dX10_readExpr_198 rfl rfl (sh_lt hG (by decide)) (sh_tg hG 45 rfl) (Nat.le_of_ble_eq_true rfl) (by omega) (Nat.le_of_ble_eq_true rfl) (Nat.zero_le _) (Nat.zero_le _) ?_
          unfold pm_Met
          refine pm_lvs (lv' := [(0, _), (1, _)]) rfl ?_
          refine pw_aload_n dX10_atom_0 rfl ?_
          refine pw_getR fX10_111 dX10_atom_1 (sh_lt hG (by decide)) (sh_tg hG 45 rfl) rfl (gr_at hP 73 rfl) ?_
          refine pw_iload_n dX10_atom_4 rfl ?_
          refine pw_ialdN T dX10_atom_5 (sh_lt hG (by decide)) (sh_sh hG 79 rfl) (by decide) (rfl) (by omega) ?_
          refine pw_ti (z := nI 0) he ?_
          refine pw_lookup (off := 26) (tgt := 32) dX10_atom_6 (by decide) (by decide) (by decide) ?_
          refine pw_aload_n dX10_atom_32 rfl ?_
          refine pw_iload_n dX10_atom_33 rfl ?_
          refine pw_callV (as := [_]) (kc' := 0) (ks' := 0) lX10_244 dX10_atom_34 rfl rfl (sh_lt hG (by decide)) (sh_tg hG 45 rfl) (Nat.le_of_ble_eq_true rfl) (by omega) (Nat.le_of_ble_eq_true rfl) (Nat.zero_le _) (Nat.zero_le _) ?_
          unfold pm_Met
          refine pm_lvs (lv' := [(0, _), (1, _)]) rfl ?_
          refine pw_aload_n dX10_begin_0 rfl ?_
          refine pw_callV (as := []) (kc' := 0) (ks' := 0) lX10_200 dX10_begin_1 rfl rfl (sh_lt hG (by decide)) (sh_tg hG 45 rfl) (Nat.le_of_ble_eq_true rfl) (by omega) (Nat.le_of_ble_eq_true rfl) (Nat.zero_le _) (Nat.zero_le _) ?_
          refine c_X10_tok hG hP hs ?_
          refine pw_ti (z := nI 40) (by rw [h40]; rfl) ?_
          refine pw_istore_n (lv' := [(2, _), (0, _), (1, _)]) dX10_begin_4 (by decide) rfl ?_
          refine pw_iload_n dX10_begin_5 rfl ?_
          refine pw_iconst (v := nI 2) dX10_begin_6 (by decide) ?_
          refine pw_icmp_eq (tgt := 15) dX10_begin_7 (by decide) (fun h => absurd h (by decide)) (fun hX10_begin_7 => ?_)
          refine pw_iload_n dX10_begin_10 rfl ?_
          refine pw_iconst (v := nI 3) dX10_begin_11 (by decide) ?_
          refine pw_icmp_ne (tgt := 60) dX10_begin_12 (by decide) (fun hX10_begin_12 => ?_) (fun h => absurd h (by decide))
          refine pw_iload_n dX10_begin_60 rfl ?_
          refine pw_bipush (v := nI 40) dX10_begin_61 (by decide) ?_
          refine pw_icmp_ne (tgt := 82) dX10_begin_63 (by decide) (fun h => absurd (by decide) h) (fun hX10_begin_63 => ?_)
          refine pw_aload_n dX10_begin_66 rfl ?_
          refine pw_callV (as := []) (kc' := 0) (ks' := 0) lX10_233 dX10_begin_67 rfl rfl (sh_lt hG (by decide)) (sh_tg hG 45 rfl) (Nat.le_of_ble_eq_true rfl) (by omega) (Nat.le_of_ble_eq_true rfl) (Nat.zero_le _) (Nat.zero_le _) ?_
          refine c_X10_opens hG hP (by omega) hs ho (fun hlt => ?_) (fun hge => ?_)
          · rw [if_neg (by omega)] at hr
            have hs4 := (hs.op' (op + 1)).at' (b := a + 1) (by omega) (by omega)
            have hf4 := (fq.put (T := T) (K := 64 * kp + m) (I := I) (J := J) (k := 42) (x := nI (op + 1)) (by decide) (by decide)).trans (fq.put (T := T) (K := 64 * kp + m) (k := 40) (x := nI (a + 1)) (by decide) (by decide)) (Nat.le_refl _) (Nat.le_refl _)
            refine pw_if_eq (tgt := 217) dX10_begin_70 (by decide) (fun h => absurd h (by decide)) (fun hX10_begin_70 => ?_)
            refine pw_aload_n dX10_begin_73 rfl ?_
            refine pw_iconst (v := nI 1) dX10_begin_74 (by decide) ?_
            refine pw_iconst (v := nI 0) dX10_begin_75 (by decide) ?_
            refine pw_callV (as := [_, _]) (kc' := 0) (ks' := 0) lX10_226 dX10_begin_76 rfl rfl (sh_lt hG (by decide)) (sh_tg hG 45 rfl) (Nat.le_of_ble_eq_true rfl) (by omega) (Nat.le_of_ble_eq_true rfl) (Nat.zero_le _) (Nat.zero_le _) ?_
            refine c_X10_then hG hP (by omega) hs4 (by omega) (s := 1) (k := 0) (fun I5 hB => ?_)
            refine pw_goto (tgt := 217) dX10_begin_79 (by decide) ?_
            refine pw_vret dX10_begin_217 rfl ?_
            refine pw_goto (tgt := 75) dX10_atom_37 (by decide) ?_
            refine pw_vret dX10_atom_75 rfl ?_
            refine pw_goto (tgt := 10) dX10_readExpr_201 (by decide) ?_
            refine pw_sub [1] rfl ?_
            have hf5 := hf4.trans hB.2.2.2.2.2 (Nat.le_refl _) (Nat.le_refl _)
            rcases pb_so hr with ⟨e, hq, her⟩ | ⟨b, L, hq, hr⟩
            · exact h0 (a + 1) (op + 1) (T + 1) m I5 J _ hB.1 hB.2.1.1 hB.2.1.2 (by omega) (by omega) hq (fun b L N m' I' J' hh => nomatch hh) (fun e' I' J' hh hF hf => by cases hh; exact (k0.mv hf5 (by omega)) e I' J' her hF hf)
            · refine h0 (a + 1) (op + 1) (T + 1) m I5 J _ hB.1 hB.2.1.1 hB.2.1.2 (by omega) (by omega) hq (fun b' L' N1 m1 I6 J6 hh hs6 hre6 hnd6 hm6 hf6 => ?_) (fun e' I' J' hh => nomatch hh)
              cases hh
              have hes6 : I6 81 T = nI 1 := by rw [hf6.2.2.1 81 T (by decide) (by decide) (by omega)]; exact hB.2.2.1.1
              have hk6 : I6 80 T = nI 5 := by rw [hf6.2.2.1 80 T (by decide) (by decide) (by omega), hB.2.2.1.2, pm_u_ne (by decide), pm_u_ne (by decide)]; exact hk
              have hf6' := hf5.trans hf6 (by omega) (Nat.le_refl _)
              have hbi := hs6.2.2.1.2
              have hmb := hs6.2.2.2.2.2.2.1.2
              have hs7 := hs6.op' op
              have hf7 := hf6'.trans (fq.put (T := T) (K := 64 * kp + m) (k := 42) (x := nI op) (by decide) (by decide)) (Nat.le_refl _) (Nat.le_refl _)
              unfold LH
              refine pw_aload_n dX10_readExpr_10 rfl ?_
              refine pw_getI fX10_213 dX10_readExpr_11 (sh_lt hG (by decide)) (sh_tg hG 45 rfl) rfl ?_
              refine pw_ifN_le _ (tgt := 204) dX10_readExpr_14 (by decide) (hs6.2.2.2.2.2.1.1) (by omega) (fun h14 => absurd h14 (by omega)) (fun h14 => ?_)
              refine pw_aload_n dX10_readExpr_17 rfl ?_
              refine pw_getI fX10_197 dX10_readExpr_18 (sh_lt hG (by decide)) (sh_tg hG 45 rfl) rfl ?_
              refine pw_if_ge (tgt := 204) dX10_readExpr_21 (by decide) (fun h => absurd h (by rw [hs6.2.2.2.1]; decide)) (fun h21 => ?_)
              refine pw_aload_n dX10_readExpr_24 rfl ?_
              refine pw_getI fX10_213 dX10_readExpr_25 (sh_lt hG (by decide)) (sh_tg hG 45 rfl) rfl ?_
              refine pw_iconst (v := nI 1) dX10_readExpr_28 (by decide) ?_
              refine pw_isub dX10_readExpr_29 ?_
              refine pw_ti (z := nI T) (by rw [hs6.2.2.2.2.2.1.1]; exact nI_pred T) ?_
              refine pw_istore_n (lv' := [(1, _), (0, _)]) dX10_readExpr_30 (by decide) rfl ?_
              refine pw_aload_n dX10_readExpr_31 rfl ?_
              refine pw_getR fX10_108 dX10_readExpr_32 (sh_lt hG (by decide)) (sh_tg hG 45 rfl) rfl (gr_at hP 72 rfl) ?_
              refine pw_iload_n dX10_readExpr_35 rfl ?_
              refine pw_ialdN T dX10_readExpr_36 (sh_lt hG (by decide)) (sh_sh hG 78 rfl) (by decide) (rfl) (by omega) ?_
              refine pw_ti (z := nI 5) hk6 ?_
              refine pw_tableOut (tgt := 196) dX10_readExpr_37 (by decide) (by decide) ?_
              refine pw_aload_n dX10_readExpr_196 rfl ?_
              refine pw_iload_n dX10_readExpr_197 rfl ?_
              refine pw_callV (as := [_]) (kc' := 0) (ks' := 0) lX10_260 dX10_readExpr_198 rfl rfl (sh_lt hG (by decide)) (sh_tg hG 45 rfl) (Nat.le_of_ble_eq_true rfl) (by omega) (Nat.le_of_ble_eq_true rfl) (Nat.zero_le _) (Nat.zero_le _) ?_
              unfold pm_Met
              refine pm_lvs (lv' := [(0, _), (1, _)]) rfl ?_
              refine pw_aload_n dX10_atom_0 rfl ?_
              refine pw_getR fX10_111 dX10_atom_1 (sh_lt hG (by decide)) (sh_tg hG 45 rfl) rfl (gr_at hP 73 rfl) ?_
              refine pw_iload_n dX10_atom_4 rfl ?_
              refine pw_ialdN T dX10_atom_5 (sh_lt hG (by decide)) (sh_sh hG 79 rfl) (by decide) (rfl) (by omega) ?_
              refine pw_ti (z := nI 1) hes6 ?_
              refine pw_lookup (off := 34) (tgt := 40) dX10_atom_6 (by decide) (by decide) (by decide) ?_
              refine pw_aload_n dX10_atom_40 rfl ?_
              refine pw_dup dX10_atom_41 rfl ?_
              refine pw_getI fX10_210 dX10_atom_42 (sh_lt hG (by decide)) (sh_tg hG 45 rfl) rfl ?_
              refine pw_iconst (v := nI 1) dX10_atom_45 (by decide) ?_
              refine pw_isub dX10_atom_46 ?_
              refine pw_ti (z := nI op) (by rw [hs6.2.2.2.2.1]; exact nI_pred op) ?_
              refine pw_putI fX10_210 dX10_atom_47 (Or.inl rfl) (by decide) (sh_lt hG (by decide)) (sh_tg hG 45 rfl) rfl ?_
              refine pw_aload_n dX10_atom_50 rfl ?_
              refine pw_bipush (v := nI 41) dX10_atom_51 (by decide) ?_
              refine pw_callV (as := [_]) (kc' := 0) (ks' := 0) lX10_237 dX10_atom_53 rfl rfl (sh_lt hG (by decide)) (sh_tg hG 45 rfl) (Nat.le_of_ble_eq_true rfl) (by omega) (Nat.le_of_ble_eq_true rfl) (Nat.zero_le _) (Nat.zero_le _) ?_
              refine c_X10_need hG hP (by omega) hs7 hb (c := 41) (by decide) (fun hc1 => ?_) (fun hc0 => ?_)
              · have hc1 := (rq41 hb).mp hc1
                rw [if_pos hc1] at hr
                have hbl := hs6.lt (by rw [hc1]; decide) (by rw [hc1]; decide)
                refine pw_pop dX10_atom_56 rfl ?_
                refine pw_aload_n dX10_atom_57 rfl ?_
                refine pw_dup dX10_atom_58 rfl ?_
                refine pw_getI fX10_213 dX10_atom_59 (sh_lt hG (by decide)) (sh_tg hG 45 rfl) rfl ?_
                refine pw_iconst (v := nI 1) dX10_atom_62 (by decide) ?_
                refine pw_isub dX10_atom_63 ?_
                refine pw_ti (z := nI T) (by rw [(hs7.at' (b := b + 1) (by omega) (by omega)).2.2.2.2.2.1.1]; exact nI_pred T) ?_
                refine pw_putI fX10_213 dX10_atom_64 (Or.inl rfl) (by decide) (sh_lt hG (by decide)) (sh_tg hG 45 rfl) rfl ?_
                refine pw_goto (tgt := 75) dX10_atom_67 (by decide) ?_
                refine pw_vret dX10_atom_75 rfl ?_
                refine pw_goto (tgt := 10) dX10_readExpr_201 (by decide) ?_
                refine pw_sub [1] rfl ?_
                have hsE := (hs7.at' (b := b + 1) (by omega) (by omega)).tp' (b := T) (by omega)
                have hfE := ((fq.put (T := T) (K := 64 * kp + m1) (I := I6) (J := J6) (k := 42) (x := nI op) (by decide) (by decide)).trans (fq.put (T := T) (K := 64 * kp + m1) (k := 40) (x := nI (b + 1)) (by decide) (by decide)) (Nat.le_refl _) (Nat.le_refl _)).trans (fq.put (T := T) (K := 64 * kp + m1) (k := 45) (x := nI T) (by decide) (by decide)) (Nat.le_refl _) (Nat.le_refl _)
                exact k1 (b + 1) L N1 m1 _ _ (Option.some.inj hr).symm hsE (by rw [pm_u_eq, pm_up_ne (by decide), pm_u_eq, pm_up_ne (by decide), pm_u_eq, pm_up_ne (by decide)]; exact hre6) (hnd6.up hfE (Nat.le_refl _) (Nat.le_refl _)) ⟨by omega, by omega⟩ (hf6'.trans hfE (Nat.le_refl _) (by omega))
              · rw [if_neg (fun q => hc0 ((rq41 hb).mpr q))] at hr
                refine pw_pop dX10_atom_56 rfl ?_
                refine pw_aload_n dX10_atom_57 rfl ?_
                refine pw_dup dX10_atom_58 rfl ?_
                refine pw_getI fX10_213 dX10_atom_59 (sh_lt hG (by decide)) (sh_tg hG 45 rfl) rfl ?_
                refine pw_iconst (v := nI 1) dX10_atom_62 (by decide) ?_
                refine pw_isub dX10_atom_63 ?_
                refine pw_putI fX10_213 dX10_atom_64 (Or.inl rfl) (by decide) (sh_lt hG (by decide)) (sh_tg hG 45 rfl) rfl ?_
                refine pw_goto (tgt := 75) dX10_atom_67 (by decide) ?_
                refine pw_vret dX10_atom_75 rfl ?_
                refine pw_goto (tgt := 10) dX10_readExpr_201 (by decide) ?_
                refine pw_sub [1] rfl ?_
                exact k0 b _ _ (Option.some.inj hr).symm (by rw [pm_u_eq, pm_up_ne (by decide), pm_u_eq, pm_up_eq]) (((hf7.trans (fq.put (T := T) (K := 64 * kp + m) (by decide) (by decide)) (Nat.le_refl _) (Nat.le_refl _)).trans (fq.put (T := T) (K := 64 * kp + m) (by decide) (by decide)) (Nat.le_refl _) (Nat.le_refl _)).le (Nat.zero_le _) (by omega))
          · rw [if_pos hge] at hr
            refine pw_if_eq (tgt := 217) dX10_begin_70 (by decide) (fun hX10_begin_70 => ?_) (fun h => absurd (by decide) h)
            refine pw_vret dX10_begin_217 rfl ?_
            refine pw_goto (tgt := 75) dX10_atom_37 (by decide) ?_
            refine pw_vret dX10_atom_75 rfl ?_
            refine pw_goto (tgt := 10) dX10_readExpr_201 (by decide) ?_
            refine pw_sub [1] rfl ?_
            exact k0 a _ _ (Option.some.inj hr).symm (by rw [pm_u_eq, pm_up_eq]) (fq.put (by decide) (by decide))
        · rw [if_neg h40] at hr
          unfold LH
          refine pw_aload_n dX10_readExpr_10 rfl ?_
          refine pw_getI fX10_213 dX10_readExpr_11 (sh_lt hG (by decide)) (sh_tg hG 45 rfl) rfl ?_
          refine pw_ifN_le _ (tgt := 204) dX10_readExpr_14 (by decide) (hs.2.2.2.2.2.1.1) (by omega) (fun h14 => absurd h14 (by omega)) (fun h14 => ?_)
          refine pw_aload_n dX10_readExpr_17 rfl ?_
          refine pw_getI fX10_197 dX10_readExpr_18 (sh_lt hG (by decide)) (sh_tg hG 45 rfl) rfl ?_
          refine pw_if_ge (tgt := 204) dX10_readExpr_21 (by decide) (fun h => absurd h (by rw [hs.2.2.2.1]; decide)) (fun h21 => ?_)
          refine pw_aload_n dX10_readExpr_24 rfl ?_
          refine pw_getI fX10_213 dX10_readExpr_25 (sh_lt hG (by decide)) (sh_tg hG 45 rfl) rfl ?_
          refine pw_iconst (v := nI 1) dX10_readExpr_28 (by decide) ?_
          refine pw_isub dX10_readExpr_29 ?_
          refine pw_ti (z := nI T) (by rw [hs.2.2.2.2.2.1.1]; exact nI_pred T) ?_
          refine pw_istore_n (lv' := [(1, _), (0, _)]) dX10_readExpr_30 (by decide) rfl ?_
          refine pw_aload_n dX10_readExpr_31 rfl ?_
          refine pw_getR fX10_108 dX10_readExpr_32 (sh_lt hG (by decide)) (sh_tg hG 45 rfl) rfl (gr_at hP 72 rfl) ?_
          refine pw_iload_n dX10_readExpr_35 rfl ?_
          refine pw_ialdN T dX10_readExpr_36 (sh_lt hG (by decide)) (sh_sh hG 78 rfl) (by decide) (rfl) (by omega) ?_
          refine pw_ti (z := nI 5) hk ?_
          refine pw_tableOut (tgt := 196) dX10_readExpr_37 (by decide) (by decide) ?_
          refine pw_aload_n dX10_readExpr_196 rfl ?_
          refine pw_iload_n dX10_readExpr_197 rfl ?_
          refine pw_callV (as := [_]) (kc' := 0) (ks' := 0) lX10_260 dX10_readExpr_198 rfl rfl (sh_lt hG (by decide)) (sh_tg hG 45 rfl) (Nat.le_of_ble_eq_true rfl) (by omega) (Nat.le_of_ble_eq_true rfl) (Nat.zero_le _) (Nat.zero_le _) ?_
          unfold pm_Met
          refine pm_lvs (lv' := [(0, _), (1, _)]) rfl ?_
          refine pw_aload_n dX10_atom_0 rfl ?_
          refine pw_getR fX10_111 dX10_atom_1 (sh_lt hG (by decide)) (sh_tg hG 45 rfl) rfl (gr_at hP 73 rfl) ?_
          refine pw_iload_n dX10_atom_4 rfl ?_
          refine pw_ialdN T dX10_atom_5 (sh_lt hG (by decide)) (sh_sh hG 79 rfl) (by decide) (rfl) (by omega) ?_
          refine pw_ti (z := nI 0) he ?_
          refine pw_lookup (off := 26) (tgt := 32) dX10_atom_6 (by decide) (by decide) (by decide) ?_
          refine pw_aload_n dX10_atom_32 rfl ?_
          refine pw_iload_n dX10_atom_33 rfl ?_
          refine pw_callV (as := [_]) (kc' := 0) (ks' := 0) lX10_244 dX10_atom_34 rfl rfl (sh_lt hG (by decide)) (sh_tg hG 45 rfl) (Nat.le_of_ble_eq_true rfl) (by omega) (Nat.le_of_ble_eq_true rfl) (Nat.zero_le _) (Nat.zero_le _) ?_
          unfold pm_Met
          refine pm_lvs (lv' := [(0, _), (1, _)]) rfl ?_
          refine pw_aload_n dX10_begin_0 rfl ?_
          refine pw_callV (as := []) (kc' := 0) (ks' := 0) lX10_200 dX10_begin_1 rfl rfl (sh_lt hG (by decide)) (sh_tg hG 45 rfl) (Nat.le_of_ble_eq_true rfl) (by omega) (Nat.le_of_ble_eq_true rfl) (Nat.zero_le _) (Nat.zero_le _) ?_
          refine c_X10_tok hG hP hs ?_
          refine pw_istore_n (lv' := [(2, _), (0, _), (1, _)]) dX10_begin_4 (by decide) rfl ?_
          refine pw_iload_n dX10_begin_5 rfl ?_
          refine pw_iconst (v := nI 2) dX10_begin_6 (by decide) ?_
          refine pw_icmpN_eq _ _ (tgt := 15) dX10_begin_7 (by decide) (rfl) (rfl) (by omega) (by omega) (fun hX10_begin_7 => absurd hX10_begin_7 (fun q => h48 ((rq48 hb).mp q))) (fun hX10_begin_7 => ?_)
          refine pw_iload_n dX10_begin_10 rfl ?_
          refine pw_iconst (v := nI 3) dX10_begin_11 (by decide) ?_
          refine pw_icmpN_ne _ _ (tgt := 60) dX10_begin_12 (by decide) (rfl) (rfl) (by omega) (by omega) (fun hX10_begin_12 => ?_) (fun hX10_begin_12 => absurd hX10_begin_12 (fun q => h36 ((rq36 hb).mp q)))
          refine pw_iload_n dX10_begin_60 rfl ?_
          refine pw_bipush (v := nI 40) dX10_begin_61 (by decide) ?_
          refine pw_icmpN_ne _ _ (tgt := 82) dX10_begin_63 (by decide) (rfl) (rfl) (by omega) (by omega) (fun hX10_begin_63 => ?_) (fun hX10_begin_63 => absurd hX10_begin_63 (fun q => h40 ((rq40 hb).mp q)))
          refine pw_iload_n dX10_begin_82 rfl ?_
          refine pw_iconst (v := nI 1) dX10_begin_83 (by decide) ?_
          refine pw_icmpN_ne _ _ (tgt := 213) dX10_begin_84 (by decide) (rfl) (rfl) (by omega) (by omega) (fun hX10_begin_84 => ?_) (fun hX10_begin_84 => absurd hX10_begin_84 (fun q => h97 ((rq97 hb).mp q)))
          refine pw_aload_n dX10_begin_213 rfl ?_
          refine pw_callV (as := []) (kc' := 0) (ks' := 0) lX10_204 dX10_begin_214 rfl rfl (sh_lt hG (by decide)) (sh_tg hG 45 rfl) (Nat.le_of_ble_eq_true rfl) (by omega) (Nat.le_of_ble_eq_true rfl) (Nat.zero_le _) (Nat.zero_le _) ?_
          refine c_X10_wrong hG hP hs ?_
          refine pw_vret dX10_begin_217 rfl ?_
          refine pw_goto (tgt := 75) dX10_atom_37 (by decide) ?_
          refine pw_vret dX10_atom_75 rfl ?_
          refine pw_goto (tgt := 10) dX10_readExpr_201 (by decide) ?_
          refine pw_sub [1] rfl ?_
          exact k0 a _ _ (Option.some.inj hr).symm (by rw [pm_u_eq, pm_up_eq]) (fq.put (by decide) (by decide))
