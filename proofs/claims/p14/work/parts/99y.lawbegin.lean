theorem sh_of {S : pmS} (h : (decide (96 ≤ S.1) && (List.range 94).all (fun k => decide (sh_tab[k]? = some (S.2 (k + 2))))) = true) : sh_St S := by
  rw [Bool.and_eq_true] at h
  refine ⟨of_decide_eq_true h.1, fun k q hq => ?_⟩
  have hk : k < sh_tab.length := (List.getElem?_eq_some_iff.mp hq).1
  have hl : sh_tab.length = 94 := by decide
  have h1 := of_decide_eq_true (List.all_eq_true.mp h.2 k (List.mem_range.mpr (by omega)))
  rw [hq] at h1
  exact (Option.some.inj h1).symm
theorem gr_of {P : pmP} (h : gr_tab.all (fun q => decide (P q.1 q.2.1 = some q.2.2)) = true) : gr_St P := fun j q hq => of_decide_eq_true (List.all_eq_true.mp h q (List.mem_of_getElem? hq))
/-- where the THINGS lie at first -/
def pT0 (P : pmP) : Prop := P 21 0 = some 22 ∧ P 21 1 = some 23 ∧ P 21 2 = some 24 ∧ P 21 3 = some 25 ∧ P 21 4 = some 26
theorem LI_0 {S : pmS} {P : pmP} {tx : Nat → Nat} {Z : Nat → Nat} (hG : sh_St S) (hP : gr_St P) (hT : pT0 P) : LI S (fun _ _ => 0) (fun _ _ => 0) P aE Z 22 32 tx 0 :=
  ⟨hG, hP, ⟨Or.inl rfl, ⟨rfl, fun j v hj => (by cases hj), rfl, fun j v hj => (by cases hj), rfl, fun s hs => absurd hs (Nat.not_lt_zero _)⟩, aE_ok, ⟨⟨Or.inl rfl, by have := hG.1; omega⟩, hT, ⟨sh_sh hG 20 rfl, sh_sh hG 21 rfl, sh_sh hG 22 rfl, sh_sh hG 23 rfl, sh_sh hG 24 rfl⟩, ⟨by decide, by decide⟩, Nat.zero_le _, rfl, fun j s vs hj => (by cases hj)⟩, fun j hj => absurd hj (Nat.not_lt_zero _), rfl, Nat.zero_le _, fun j hj => absurd hj (Nat.not_lt_zero _)⟩, qI.reset rfl rfl rfl rfl rfl⟩
def pS0 : pmS := (2, fun _ => (200, 0))
set_option maxRecDepth 20000 in
set_option maxHeartbeats 4000000 in
theorem lw_begin {l : Launch} {E : pmE} {Q : Option Value → pmS → pmI → pmJ → pmP → Prop} (k : ∀ S P, sh_St S → gr_St P → pT0 P → pm_W l E yL_law cL_law 8 (some .boolean) 1400 36064 892864 23 [(4, .int (nI 0)), (3, .ref 95), (2, .ref 47), (1, .ref 2), (0, .ref 0)] [] S (fun _ _ => 0) (fun _ _ => 0) P (pm_N E Q)) : pm_W l E yL_law cL_law 8 (some .boolean) 1400 36184 1052864 0 [(0, .ref 0)] [] pS0 (fun _ _ => 0) (fun _ _ => 0) (fun _ _ => none) (pm_N E Q) := by
  refine pw_new nL_8 dL_law_0 (by decide) (by decide) (fun hI2 hJ2 hP2 => ?_)
  refine pw_dup dL_law_3 rfl ?_
  refine pw_callI (as := []) (kc' := 44) (ks' := 2373) lL_23 dL_law_4 rfl rfl (Nat.le_of_ble_eq_true rfl) (by omega) (Nat.le_of_ble_eq_true rfl) (by decide) (by decide) ?_
  unfold pm_Met
  refine pm_lvs (lv' := [(0, _)]) rfl ?_
  refine pw_aload_n dX9_init_0 rfl ?_
  refine pw_objInit dX9_init_1 oX9_1 oi1 oi2 (by omega) (Nat.le_of_ble_eq_true rfl) ?_
  refine pw_aload_n dX9_init_4 rfl ?_
  refine pw_bipush (v := nI 120) dX9_init_5 (by decide) ?_
  refine pw_newa (t := 102) (N := 120) dX9_init_7 (by decide) ar_byte (by decide) (by decide) (by decide) (by decide) (by decide) (fun hI3 hJ3 => ?_)
  refine pw_putP fX9_9 dX9_init_9 rfl (Or.inr ⟨rfl, _, rfl, rfl⟩) (by decide) (by decide) rfl rfl ?_
  refine pw_aload_n dX9_init_12 rfl ?_
  refine pw_new nX9_13 dX9_init_13 (by decide) (by decide) (fun hI4 hJ4 hP4 => ?_)
  refine pw_dup dX9_init_16 rfl ?_
  refine pw_callIN (as := []) (kc' := 3) (ks' := 186) lX9_15 dX9_init_17 rfl rfl (Nat.le_of_ble_eq_true rfl) (by omega) (Nat.le_of_ble_eq_true rfl) (by decide) (by decide) ?_
  unfold pm_Met
  refine pm_lvs (lv' := [(0, _)]) rfl ?_
  refine pw_aload_n dX7_init_0 rfl ?_
  refine pw_objInit dX7_init_1 oX7_1 oi1 oi2 (by omega) (Nat.le_of_ble_eq_true rfl) ?_
  refine pw_aload_n dX7_init_4 rfl ?_
  refine pw_bipush (v := nI 62) dX7_init_5 (by decide) ?_
  refine pw_newa (t := 100) (N := 62) dX7_init_7 (by decide) ar_int (by decide) (by decide) (by decide) (by decide) (by decide) (fun hI5 hJ5 => ?_)
  refine pw_putP fX7_9 dX7_init_9 rfl (Or.inr ⟨rfl, _, rfl, rfl⟩) (by decide) (by decide) rfl rfl ?_
  refine pw_aload_n dX7_init_12 rfl ?_
  refine pw_bipush (v := nI 62) dX7_init_13 (by decide) ?_
  refine pw_newa (t := 100) (N := 62) dX7_init_15 (by decide) ar_int (by decide) (by decide) (by decide) (by decide) (by decide) (fun hI6 hJ6 => ?_)
  refine pw_putP fX7_13 dX7_init_17 rfl (Or.inr ⟨rfl, _, rfl, rfl⟩) (by decide) (by decide) rfl rfl ?_
  refine pw_aload_n dX7_init_20 rfl ?_
  refine pw_bipush (v := nI 62) dX7_init_21 (by decide) ?_
  refine pw_newa (t := 101) (N := 62) dX7_init_23 (by decide) ar_long (by decide) (by decide) (by decide) (by decide) (by decide) (fun hI7 hJ7 => ?_)
  refine pw_putP fX7_16 dX7_init_25 rfl (Or.inr ⟨rfl, _, rfl, rfl⟩) (by decide) (by decide) rfl rfl ?_
  refine pw_vret dX7_init_28 rfl ?_
  refine pw_putP fX9_16 dX9_init_20 rfl (Or.inr ⟨rfl, _, rfl, rfl⟩) (by decide) (by decide) rfl rfl ?_
  refine pw_aload_n dX9_init_23 rfl ?_
  refine pw_new nX9_20 dX9_init_24 (by decide) (by decide) (fun hI8 hJ8 hP8 => ?_)
  refine pw_dup dX9_init_27 rfl ?_
  refine pw_aload_n dX9_init_28 rfl ?_
  refine pw_getR (b := 4) fX9_16 dX9_init_29 (by decide) rfl rfl rfl ?_
  refine pw_callI (as := [_]) (kc' := 6) (ks' := 493) lX9_22 dX9_init_32 rfl rfl (Nat.le_of_ble_eq_true rfl) (by omega) (Nat.le_of_ble_eq_true rfl) (by decide) (by decide) ?_
  unfold pm_Met
  refine pm_lvs (lv' := [(0, _), (1, _)]) rfl ?_
  refine pw_aload_n dX3_init_0 rfl ?_
  refine pw_objInit dX3_init_1 oX3_3 oi1 oi2 (by omega) (Nat.le_of_ble_eq_true rfl) ?_
  refine pw_aload_n dX3_init_4 rfl ?_
  refine pw_new nX3_9 dX3_init_5 (by decide) (by decide) (fun hI9 hJ9 hP9 => ?_)
  refine pw_dup dX3_init_8 rfl ?_
  refine pw_bipush (v := nI 121) dX3_init_9 (by decide) ?_
  refine pw_callI (as := [_]) (kc' := 4) (ks' := 484) lX3_11 dX3_init_11 rfl rfl (Nat.le_of_ble_eq_true rfl) (by omega) (Nat.le_of_ble_eq_true rfl) (by decide) (by decide) ?_
  unfold pm_Met
  refine pm_lvs (lv' := [(0, _), (1, _)]) rfl ?_
  refine pw_aload_n dX0_init_0 rfl ?_
  refine pw_objInit dX0_init_1 oX0_3 oi1 oi2 (by omega) (Nat.le_of_ble_eq_true rfl) ?_
  refine pw_aload_n dX0_init_4 rfl ?_
  refine pw_iload_n dX0_init_5 rfl ?_
  refine pw_newa (t := 100) (N := 121) dX0_init_6 (by decide) ar_int (by decide) (by decide) (by decide) (by decide) (by decide) (fun hI10 hJ10 => ?_)
  refine pw_putP fX0_9 dX0_init_8 rfl (Or.inr ⟨rfl, _, rfl, rfl⟩) (by decide) (by decide) rfl rfl ?_
  refine pw_aload_n dX0_init_11 rfl ?_
  refine pw_iload_n dX0_init_12 rfl ?_
  refine pw_newa (t := 100) (N := 121) dX0_init_13 (by decide) ar_int (by decide) (by decide) (by decide) (by decide) (by decide) (fun hI11 hJ11 => ?_)
  refine pw_putP fX0_15 dX0_init_15 rfl (Or.inr ⟨rfl, _, rfl, rfl⟩) (by decide) (by decide) rfl rfl ?_
  refine pw_aload_n dX0_init_18 rfl ?_
  refine pw_iload_n dX0_init_19 rfl ?_
  refine pw_newa (t := 100) (N := 121) dX0_init_20 (by decide) ar_int (by decide) (by decide) (by decide) (by decide) (by decide) (fun hI12 hJ12 => ?_)
  refine pw_putP fX0_18 dX0_init_22 rfl (Or.inr ⟨rfl, _, rfl, rfl⟩) (by decide) (by decide) rfl rfl ?_
  refine pw_aload_n dX0_init_25 rfl ?_
  refine pw_iload_n dX0_init_26 rfl ?_
  refine pw_newa (t := 101) (N := 121) dX0_init_27 (by decide) ar_long (by decide) (by decide) (by decide) (by decide) (by decide) (fun hI13 hJ13 => ?_)
  refine pw_putP fX0_21 dX0_init_29 rfl (Or.inr ⟨rfl, _, rfl, rfl⟩) (by decide) (by decide) rfl rfl ?_
  refine pw_vret dX0_init_32 rfl ?_
  refine pw_putP fX3_14 dX3_init_14 rfl (Or.inr ⟨rfl, _, rfl, rfl⟩) (by decide) (by decide) rfl rfl ?_
  refine pw_aload_n dX3_init_17 rfl ?_
  refine pw_iconst (v := nI 3) dX3_init_18 (by decide) ?_
  refine pw_newa (t := 101) (N := 3) dX3_init_19 (by decide) ar_long (by decide) (by decide) (by decide) (by decide) (by decide) (fun hI14 hJ14 => ?_)
  refine pw_putP fX3_20 dX3_init_21 rfl (Or.inr ⟨rfl, _, rfl, rfl⟩) (by decide) (by decide) rfl rfl ?_
  refine pw_aload_n dX3_init_24 rfl ?_
  refine pw_aload_n dX3_init_25 rfl ?_
  refine pw_putP fX3_24 dX3_init_26 rfl (Or.inr ⟨rfl, _, rfl, rfl⟩) (by decide) (by decide) rfl rfl ?_
  refine pw_vret dX3_init_29 rfl ?_
  refine pw_putP fX9_25 dX9_init_35 rfl (Or.inr ⟨rfl, _, rfl, rfl⟩) (by decide) (by decide) rfl rfl ?_
  refine pw_aload_n dX9_init_38 rfl ?_
  refine pw_new nX9_29 dX9_init_39 (by decide) (by decide) (fun hI15 hJ15 hP15 => ?_)
  refine pw_dup dX9_init_42 rfl ?_
  refine pw_callIN (as := []) (kc' := 18) (ks' := 665) lX9_31 dX9_init_43 rfl rfl (Nat.le_of_ble_eq_true rfl) (by omega) (Nat.le_of_ble_eq_true rfl) (by decide) (by decide) ?_
  unfold pm_Met
  refine pm_lvs (lv' := [(0, _)]) rfl ?_
  refine pw_aload_n dX4_init_0 rfl ?_
  refine pw_objInit dX4_init_1 oX4_3 oi1 oi2 (by omega) (Nat.le_of_ble_eq_true rfl) ?_
  refine pw_aload_n dX4_init_4 rfl ?_
  refine pw_new nX4_9 dX4_init_5 (by decide) (by decide) (fun hI16 hJ16 hP16 => ?_)
  refine pw_dup dX4_init_8 rfl ?_
  refine pw_callIN (as := []) (kc' := 4) (ks' := 160) lX4_11 dX4_init_9 rfl rfl (Nat.le_of_ble_eq_true rfl) (by omega) (Nat.le_of_ble_eq_true rfl) (by decide) (by decide) ?_
  unfold pm_Met
  refine pm_lvs (lv' := [(0, _)]) rfl ?_
  refine pw_aload_n dX2_init_0 rfl ?_
  refine pw_objInit dX2_init_1 oX2_3 oi1 oi2 (by omega) (Nat.le_of_ble_eq_true rfl) ?_
  refine pw_aload_n dX2_init_4 rfl ?_
  refine pw_bipush (v := nI 40) dX2_init_5 (by decide) ?_
  refine pw_newa (t := 101) (N := 40) dX2_init_7 (by decide) ar_long (by decide) (by decide) (by decide) (by decide) (by decide) (fun hI17 hJ17 => ?_)
  refine pw_putP fX2_11 dX2_init_9 rfl (Or.inr ⟨rfl, _, rfl, rfl⟩) (by decide) (by decide) rfl rfl ?_
  refine pw_aload_n dX2_init_12 rfl ?_
  refine pw_bipush (v := nI 40) dX2_init_13 (by decide) ?_
  refine pw_newa (t := 100) (N := 40) dX2_init_15 (by decide) ar_int (by decide) (by decide) (by decide) (by decide) (by decide) (fun hI18 hJ18 => ?_)
  refine pw_putP fX2_15 dX2_init_17 rfl (Or.inr ⟨rfl, _, rfl, rfl⟩) (by decide) (by decide) rfl rfl ?_
  refine pw_aload_n dX2_init_20 rfl ?_
  refine pw_bipush (v := nI 40) dX2_init_21 (by decide) ?_
  refine pw_newa (t := 100) (N := 40) dX2_init_23 (by decide) ar_int (by decide) (by decide) (by decide) (by decide) (by decide) (fun hI19 hJ19 => ?_)
  refine pw_putP fX2_19 dX2_init_25 rfl (Or.inr ⟨rfl, _, rfl, rfl⟩) (by decide) (by decide) rfl rfl ?_
  refine pw_aload_n dX2_init_28 rfl ?_
  refine pw_bipush (v := nI 40) dX2_init_29 (by decide) ?_
  refine pw_newa (t := 100) (N := 40) dX2_init_31 (by decide) ar_int (by decide) (by decide) (by decide) (by decide) (by decide) (fun hI20 hJ20 => ?_)
  refine pw_putP fX2_22 dX2_init_33 rfl (Or.inr ⟨rfl, _, rfl, rfl⟩) (by decide) (by decide) rfl rfl ?_
  refine pw_vret dX2_init_36 rfl ?_
  refine pw_putP fX4_12 dX4_init_12 rfl (Or.inr ⟨rfl, _, rfl, rfl⟩) (by decide) (by decide) rfl rfl ?_
  refine pw_aload_n dX4_init_15 rfl ?_
  refine pw_new nX4_18 dX4_init_16 (by decide) (by decide) (fun hI21 hJ21 hP21 => ?_)
  refine pw_dup dX4_init_19 rfl ?_
  refine pw_callIN (as := []) (kc' := 5) (ks' := 288) lX4_20 dX4_init_20 rfl rfl (Nat.le_of_ble_eq_true rfl) (by omega) (Nat.le_of_ble_eq_true rfl) (by decide) (by decide) ?_
  unfold pm_Met
  refine pm_lvs (lv' := [(0, _)]) rfl ?_
  refine pw_aload_n dX6_init_0 rfl ?_
  refine pw_objInit dX6_init_1 oX6_3 oi1 oi2 (by omega) (Nat.le_of_ble_eq_true rfl) ?_
  refine pw_aload_n dX6_init_4 rfl ?_
  refine pw_bipush (v := nI 32) dX6_init_5 (by decide) ?_
  refine pw_newa (t := 100) (N := 32) dX6_init_7 (by decide) ar_int (by decide) (by decide) (by decide) (by decide) (by decide) (fun hI22 hJ22 => ?_)
  refine pw_putP fX6_11 dX6_init_9 rfl (Or.inl rfl) (by decide) (by decide) rfl rfl ?_
  refine pw_aload_n dX6_init_12 rfl ?_
  refine pw_bipush (v := nI 32) dX6_init_13 (by decide) ?_
  refine pw_newa (t := 100) (N := 32) dX6_init_15 (by decide) ar_int (by decide) (by decide) (by decide) (by decide) (by decide) (fun hI23 hJ23 => ?_)
  refine pw_putP fX6_15 dX6_init_17 rfl (Or.inl rfl) (by decide) (by decide) rfl rfl ?_
  refine pw_aload_n dX6_init_20 rfl ?_
  refine pw_bipush (v := nI 32) dX6_init_21 (by decide) ?_
  refine pw_newa (t := 100) (N := 32) dX6_init_23 (by decide) ar_int (by decide) (by decide) (by decide) (by decide) (by decide) (fun hI24 hJ24 => ?_)
  refine pw_putP fX6_18 dX6_init_25 rfl (Or.inl rfl) (by decide) (by decide) rfl rfl ?_
  refine pw_aload_n dX6_init_28 rfl ?_
  refine pw_bipush (v := nI 96) dX6_init_29 (by decide) ?_
  refine pw_newa (t := 100) (N := 96) dX6_init_31 (by decide) ar_int (by decide) (by decide) (by decide) (by decide) (by decide) (fun hI25 hJ25 => ?_)
  refine pw_putP fX6_21 dX6_init_33 rfl (Or.inl rfl) (by decide) (by decide) rfl rfl ?_
  refine pw_aload_n dX6_init_36 rfl ?_
  refine pw_bipush (v := nI 96) dX6_init_37 (by decide) ?_
  refine pw_newa (t := 101) (N := 96) dX6_init_39 (by decide) ar_long (by decide) (by decide) (by decide) (by decide) (by decide) (fun hI26 hJ26 => ?_)
  refine pw_putP fX6_24 dX6_init_41 rfl (Or.inl rfl) (by decide) (by decide) rfl rfl ?_
  refine pw_vret dX6_init_44 rfl ?_
  refine pw_putP fX4_21 dX4_init_23 rfl (Or.inr ⟨rfl, _, rfl, rfl⟩) (by decide) (by decide) rfl rfl ?_
  refine pw_aload_n dX4_init_26 rfl ?_
  refine pw_new nX4_25 dX4_init_27 (by decide) (by decide) (fun hI27 hJ27 hP27 => ?_)
  refine pw_dup dX4_init_30 rfl ?_
  refine pw_bipush (v := nI 40) dX4_init_31 (by decide) ?_
  refine pw_callI (as := [_]) (kc' := 2) (ks' := 80) lX4_27 dX4_init_33 rfl rfl (Nat.le_of_ble_eq_true rfl) (by omega) (Nat.le_of_ble_eq_true rfl) (by decide) (by decide) ?_
  unfold pm_Met
  refine pm_lvs (lv' := [(0, _), (1, _)]) rfl ?_
  refine pw_aload_n dX8_init_0 rfl ?_
  refine pw_objInit dX8_init_1 oX8_1 oi1 oi2 (by omega) (Nat.le_of_ble_eq_true rfl) ?_
  refine pw_aload_n dX8_init_4 rfl ?_
  refine pw_iload_n dX8_init_5 rfl ?_
  refine pw_newa (t := 100) (N := 40) dX8_init_6 (by decide) ar_int (by decide) (by decide) (by decide) (by decide) (by decide) (fun hI28 hJ28 => ?_)
  refine pw_putP fX8_7 dX8_init_8 rfl (Or.inr ⟨rfl, _, rfl, rfl⟩) (by decide) (by decide) rfl rfl ?_
  refine pw_aload_n dX8_init_11 rfl ?_
  refine pw_iload_n dX8_init_12 rfl ?_
  refine pw_newa (t := 101) (N := 40) dX8_init_13 (by decide) ar_long (by decide) (by decide) (by decide) (by decide) (by decide) (fun hI29 hJ29 => ?_)
  refine pw_putP fX8_13 dX8_init_15 rfl (Or.inr ⟨rfl, _, rfl, rfl⟩) (by decide) (by decide) rfl rfl ?_
  refine pw_vret dX8_init_18 rfl ?_
  refine pw_putP fX4_30 dX4_init_36 rfl (Or.inr ⟨rfl, _, rfl, rfl⟩) (by decide) (by decide) rfl rfl ?_
  refine pw_aload_n dX4_init_39 rfl ?_
  refine pw_new nX4_25 dX4_init_40 (by decide) (by decide) (fun hI30 hJ30 hP30 => ?_)
  refine pw_dup dX4_init_43 rfl ?_
  refine pw_bipush (v := nI 41) dX4_init_44 (by decide) ?_
  refine pw_callI (as := [_]) (kc' := 2) (ks' := 82) lX4_27 dX4_init_46 rfl rfl (Nat.le_of_ble_eq_true rfl) (by omega) (Nat.le_of_ble_eq_true rfl) (by decide) (by decide) ?_
  unfold pm_Met
  refine pm_lvs (lv' := [(0, _), (1, _)]) rfl ?_
  refine pw_aload_n dX8_init_0 rfl ?_
  refine pw_objInit dX8_init_1 oX8_1 oi1 oi2 (by omega) (Nat.le_of_ble_eq_true rfl) ?_
  refine pw_aload_n dX8_init_4 rfl ?_
  refine pw_iload_n dX8_init_5 rfl ?_
  refine pw_newa (t := 100) (N := 41) dX8_init_6 (by decide) ar_int (by decide) (by decide) (by decide) (by decide) (by decide) (fun hI31 hJ31 => ?_)
  refine pw_putP fX8_7 dX8_init_8 rfl (Or.inr ⟨rfl, _, rfl, rfl⟩) (by decide) (by decide) rfl rfl ?_
  refine pw_aload_n dX8_init_11 rfl ?_
  refine pw_iload_n dX8_init_12 rfl ?_
  refine pw_newa (t := 101) (N := 41) dX8_init_13 (by decide) ar_long (by decide) (by decide) (by decide) (by decide) (by decide) (fun hI32 hJ32 => ?_)
  refine pw_putP fX8_13 dX8_init_15 rfl (Or.inr ⟨rfl, _, rfl, rfl⟩) (by decide) (by decide) rfl rfl ?_
  refine pw_vret dX8_init_18 rfl ?_
  refine pw_putP fX4_34 dX4_init_49 rfl (Or.inr ⟨rfl, _, rfl, rfl⟩) (by decide) (by decide) rfl rfl ?_
  refine pw_aload_n dX4_init_52 rfl ?_
  refine pw_bipush (v := nI 40) dX4_init_53 (by decide) ?_
  refine pw_anewa (t := 105) (Cn := "SnippetShell$Snippet") (N := 40) dX4_init_55 (by decide) aX4_37 (by decide) (by decide) (by decide) (by decide) (by decide) (fun hP33 => ?_)
  refine pw_putP fX4_39 dX4_init_58 rfl (Or.inr ⟨rfl, _, rfl, rfl⟩) (by decide) (by decide) rfl rfl ?_
  refine pw_vret dX4_init_61 rfl ?_
  refine pw_putP fX9_32 dX9_init_46 rfl (Or.inr ⟨rfl, _, rfl, rfl⟩) (by decide) (by decide) rfl rfl ?_
  refine pw_aload_n dX9_init_49 rfl ?_
  refine pw_new nX9_36 dX9_init_50 (by decide) (by decide) (fun hI34 hJ34 hP34 => ?_)
  refine pw_dup dX9_init_53 rfl ?_
  refine pw_aload_n dX9_init_54 rfl ?_
  refine pw_getR (b := 15) fX9_32 dX9_init_55 (by decide) rfl rfl rfl ?_
  refine pw_callI (as := [_]) (kc' := 12) (ks' := 875) lX9_38 dX9_init_58 rfl rfl (Nat.le_of_ble_eq_true rfl) (by omega) (Nat.le_of_ble_eq_true rfl) (by decide) (by decide) ?_
  unfold pm_Met
  refine pm_lvs (lv' := [(0, _), (1, _)]) rfl ?_
  refine pw_aload_n dX1_init_0 rfl ?_
  refine pw_objInit dX1_init_1 oX1_1 oi1 oi2 (by omega) (Nat.le_of_ble_eq_true rfl) ?_
  refine pw_aload_n dX1_init_4 rfl ?_
  refine pw_new nX1_7 dX1_init_5 (by decide) (by decide) (fun hI35 hJ35 hP35 => ?_)
  refine pw_dup dX1_init_8 rfl ?_
  refine pw_sipush (v := nI 401) dX1_init_9 (by decide) ?_
  refine pw_callI (as := [_]) (kc' := 2) (ks' := 802) lX1_11 dX1_init_12 rfl rfl (Nat.le_of_ble_eq_true rfl) (by omega) (Nat.le_of_ble_eq_true rfl) (by decide) (by decide) ?_
  unfold pm_Met
  refine pm_lvs (lv' := [(0, _), (1, _)]) rfl ?_
  refine pw_aload_n dX8_init_0 rfl ?_
  refine pw_objInit dX8_init_1 oX8_1 oi1 oi2 (by omega) (Nat.le_of_ble_eq_true rfl) ?_
  refine pw_aload_n dX8_init_4 rfl ?_
  refine pw_iload_n dX8_init_5 rfl ?_
  refine pw_newa (t := 100) (N := 401) dX8_init_6 (by decide) ar_int (by decide) (by decide) (by decide) (by decide) (by decide) (fun hI36 hJ36 => ?_)
  refine pw_putP fX8_7 dX8_init_8 rfl (Or.inr ⟨rfl, _, rfl, rfl⟩) (by decide) (by decide) rfl rfl ?_
  refine pw_aload_n dX8_init_11 rfl ?_
  refine pw_iload_n dX8_init_12 rfl ?_
  refine pw_newa (t := 101) (N := 401) dX8_init_13 (by decide) ar_long (by decide) (by decide) (by decide) (by decide) (by decide) (fun hI37 hJ37 => ?_)
  refine pw_putP fX8_13 dX8_init_15 rfl (Or.inr ⟨rfl, _, rfl, rfl⟩) (by decide) (by decide) rfl rfl ?_
  refine pw_vret dX8_init_18 rfl ?_
  refine pw_putP fX1_14 dX1_init_15 rfl (Or.inr ⟨rfl, _, rfl, rfl⟩) (by decide) (by decide) rfl rfl ?_
  refine pw_aload_n dX1_init_18 rfl ?_
  refine pw_bipush (v := nI 20) dX1_init_19 (by decide) ?_
  refine pw_anewa (t := 104) (Cn := "SnippetShell$Code") (N := 20) dX1_init_21 (by decide) aX1_18 (by decide) (by decide) (by decide) (by decide) (by decide) (fun hP38 => ?_)
  refine pw_putP fX1_20 dX1_init_24 rfl (Or.inr ⟨rfl, _, rfl, rfl⟩) (by decide) (by decide) rfl rfl ?_
  refine pw_aload_n dX1_init_27 rfl ?_
  refine pw_bipush (v := nI 20) dX1_init_28 (by decide) ?_
  refine pw_newa (t := 100) (N := 20) dX1_init_30 (by decide) ar_int (by decide) (by decide) (by decide) (by decide) (by decide) (fun hI39 hJ39 => ?_)
  refine pw_putP fX1_24 dX1_init_32 rfl (Or.inr ⟨rfl, _, rfl, rfl⟩) (by decide) (by decide) rfl rfl ?_
  refine pw_aload_n dX1_init_35 rfl ?_
  refine pw_bipush (v := nI 20) dX1_init_36 (by decide) ?_
  refine pw_newa (t := 100) (N := 20) dX1_init_38 (by decide) ar_int (by decide) (by decide) (by decide) (by decide) (by decide) (fun hI40 hJ40 => ?_)
  refine pw_putP fX1_28 dX1_init_40 rfl (Or.inr ⟨rfl, _, rfl, rfl⟩) (by decide) (by decide) rfl rfl ?_
  refine pw_aload_n dX1_init_43 rfl ?_
  refine pw_iconst (v := nI 5) dX1_init_44 (by decide) ?_
  refine pw_newa (t := 100) (N := 5) dX1_init_45 (by decide) ar_int (by decide) (by decide) (by decide) (by decide) (by decide) (fun hI41 hJ41 => ?_)
  refine pw_putP fX1_31 dX1_init_47 rfl (Or.inr ⟨rfl, _, rfl, rfl⟩) (by decide) (by decide) rfl rfl ?_
  refine pw_aload_n dX1_init_50 rfl ?_
  refine pw_new nX1_18 dX1_init_51 (by decide) (by decide) (fun hI42 hJ42 hP42 => ?_)
  refine pw_dup dX1_init_54 rfl ?_
  refine pw_iconst (v := nI 0) dX1_init_55 (by decide) ?_
  refine pw_callI (as := [_]) (kc' := 4) (ks' := 0) lX1_34 dX1_init_56 rfl rfl (Nat.le_of_ble_eq_true rfl) (by omega) (Nat.le_of_ble_eq_true rfl) (by decide) (by decide) ?_
  unfold pm_Met
  refine pm_lvs (lv' := [(0, _), (1, _)]) rfl ?_
  refine pw_aload_n dX0_init_0 rfl ?_
  refine pw_objInit dX0_init_1 oX0_3 oi1 oi2 (by omega) (Nat.le_of_ble_eq_true rfl) ?_
  refine pw_aload_n dX0_init_4 rfl ?_
  refine pw_iload_n dX0_init_5 rfl ?_
  refine pw_newa (t := 100) (N := 0) dX0_init_6 (by decide) ar_int (by decide) (by decide) (by decide) (by decide) (by decide) (fun hI43 hJ43 => ?_)
  refine pw_putP fX0_9 dX0_init_8 rfl (Or.inr ⟨rfl, _, rfl, rfl⟩) (by decide) (by decide) rfl rfl ?_
  refine pw_aload_n dX0_init_11 rfl ?_
  refine pw_iload_n dX0_init_12 rfl ?_
  refine pw_newa (t := 100) (N := 0) dX0_init_13 (by decide) ar_int (by decide) (by decide) (by decide) (by decide) (by decide) (fun hI44 hJ44 => ?_)
  refine pw_putP fX0_15 dX0_init_15 rfl (Or.inr ⟨rfl, _, rfl, rfl⟩) (by decide) (by decide) rfl rfl ?_
  refine pw_aload_n dX0_init_18 rfl ?_
  refine pw_iload_n dX0_init_19 rfl ?_
  refine pw_newa (t := 100) (N := 0) dX0_init_20 (by decide) ar_int (by decide) (by decide) (by decide) (by decide) (by decide) (fun hI45 hJ45 => ?_)
  refine pw_putP fX0_18 dX0_init_22 rfl (Or.inr ⟨rfl, _, rfl, rfl⟩) (by decide) (by decide) rfl rfl ?_
  refine pw_aload_n dX0_init_25 rfl ?_
  refine pw_iload_n dX0_init_26 rfl ?_
  refine pw_newa (t := 101) (N := 0) dX0_init_27 (by decide) ar_long (by decide) (by decide) (by decide) (by decide) (by decide) (fun hI46 hJ46 => ?_)
  refine pw_putP fX0_21 dX0_init_29 rfl (Or.inr ⟨rfl, _, rfl, rfl⟩) (by decide) (by decide) rfl rfl ?_
  refine pw_vret dX0_init_32 rfl ?_
  refine pw_putP fX1_35 dX1_init_59 rfl (Or.inl rfl) (by decide) (by decide) rfl rfl ?_
  refine pw_aload_n dX1_init_62 rfl ?_
  refine pw_aload_n dX1_init_63 rfl ?_
  refine pw_putP fX1_39 dX1_init_64 rfl (Or.inr ⟨rfl, _, rfl, rfl⟩) (by decide) (by decide) rfl rfl ?_
  refine pw_vret dX1_init_67 rfl ?_
  refine pw_putP fX9_41 dX9_init_61 rfl (Or.inr ⟨rfl, _, rfl, rfl⟩) (by decide) (by decide) rfl rfl ?_
  refine pw_vret dX9_init_64 rfl ?_
  refine pw_astore_n (lv' := [(1, _), (0, _)]) dL_law_7 (by decide) rfl ?_
  refine pw_new nL_24 dL_law_8 (by decide) (by decide) (fun hI47 hJ47 hP47 => ?_)
  refine pw_dup dL_law_11 rfl ?_
  refine pw_callI (as := []) (kc' := 47) (ks' := 148635) lL_26 dL_law_12 rfl rfl (Nat.le_of_ble_eq_true rfl) (by omega) (Nat.le_of_ble_eq_true rfl) (by decide) (by decide) ?_
  unfold pm_Met
  refine pm_lvs (lv' := [(0, _)]) rfl ?_
  refine pw_aload_n dX10_init_0 rfl ?_
  refine pw_objInit dX10_init_1 oX10_1 oi1 oi2 (by omega) (Nat.le_of_ble_eq_true rfl) ?_
  refine pw_aload_n dX10_init_4 rfl ?_
  refine pw_bipush (v := nI 120) dX10_init_5 (by decide) ?_
  refine pw_newa (t := 100) (N := 120) dX10_init_7 (by decide) ar_int (by decide) (by decide) (by decide) (by decide) (by decide) (fun hI48 hJ48 => ?_)
  refine pw_putP fX10_7 dX10_init_9 rfl (Or.inr ⟨rfl, _, rfl, rfl⟩) (by decide) (by decide) rfl rfl ?_
  refine pw_aload_n dX10_init_12 rfl ?_
  refine pw_bipush (v := nI 40) dX10_init_13 (by decide) ?_
  refine pw_newa (t := 101) (N := 40) dX10_init_15 (by decide) ar_long (by decide) (by decide) (by decide) (by decide) (by decide) (fun hI49 hJ49 => ?_)
  refine pw_putP fX10_13 dX10_init_17 rfl (Or.inr ⟨rfl, _, rfl, rfl⟩) (by decide) (by decide) rfl rfl ?_
  refine pw_aload_n dX10_init_20 rfl ?_
  refine pw_bipush (v := nI 40) dX10_init_21 (by decide) ?_
  refine pw_newa (t := 100) (N := 40) dX10_init_23 (by decide) ar_int (by decide) (by decide) (by decide) (by decide) (by decide) (fun hI50 hJ50 => ?_)
  refine pw_putP fX10_17 dX10_init_25 rfl (Or.inr ⟨rfl, _, rfl, rfl⟩) (by decide) (by decide) rfl rfl ?_
  refine pw_aload_n dX10_init_28 rfl ?_
  refine pw_bipush (v := nI 40) dX10_init_29 (by decide) ?_
  refine pw_newa (t := 100) (N := 40) dX10_init_31 (by decide) ar_int (by decide) (by decide) (by decide) (by decide) (by decide) (fun hI51 hJ51 => ?_)
  refine pw_putP fX10_20 dX10_init_33 rfl (Or.inr ⟨rfl, _, rfl, rfl⟩) (by decide) (by decide) rfl rfl ?_
  refine pw_aload_n dX10_init_36 rfl ?_
  refine pw_bipush (v := nI 40) dX10_init_37 (by decide) ?_
  refine pw_newa (t := 100) (N := 40) dX10_init_39 (by decide) ar_int (by decide) (by decide) (by decide) (by decide) (by decide) (fun hI52 hJ52 => ?_)
  refine pw_putP fX10_23 dX10_init_41 rfl (Or.inr ⟨rfl, _, rfl, rfl⟩) (by decide) (by decide) rfl rfl ?_
  refine pw_aload_n dX10_init_44 rfl ?_
  refine pw_bipush (v := nI 40) dX10_init_45 (by decide) ?_
  refine pw_newa (t := 100) (N := 40) dX10_init_47 (by decide) ar_int (by decide) (by decide) (by decide) (by decide) (by decide) (fun hI53 hJ53 => ?_)
  refine pw_putP fX10_26 dX10_init_49 rfl (Or.inr ⟨rfl, _, rfl, rfl⟩) (by decide) (by decide) rfl rfl ?_
  refine pw_aload_n dX10_init_52 rfl ?_
  refine pw_bipush (v := nI 40) dX10_init_53 (by decide) ?_
  refine pw_newa (t := 101) (N := 40) dX10_init_55 (by decide) ar_long (by decide) (by decide) (by decide) (by decide) (by decide) (fun hI54 hJ54 => ?_)
  refine pw_putP fX10_29 dX10_init_57 rfl (Or.inr ⟨rfl, _, rfl, rfl⟩) (by decide) (by decide) rfl rfl ?_
  refine pw_aload_n dX10_init_60 rfl ?_
  refine pw_bipush (v := nI 41) dX10_init_61 (by decide) ?_
  refine pw_newa (t := 100) (N := 41) dX10_init_63 (by decide) ar_int (by decide) (by decide) (by decide) (by decide) (by decide) (fun hI55 hJ55 => ?_)
  refine pw_putP fX10_32 dX10_init_65 rfl (Or.inr ⟨rfl, _, rfl, rfl⟩) (by decide) (by decide) rfl rfl ?_
  refine pw_aload_n dX10_init_68 rfl ?_
  refine pw_bipush (v := nI 41) dX10_init_69 (by decide) ?_
  refine pw_newa (t := 100) (N := 41) dX10_init_71 (by decide) ar_int (by decide) (by decide) (by decide) (by decide) (by decide) (fun hI56 hJ56 => ?_)
  refine pw_putP fX10_35 dX10_init_73 rfl (Or.inr ⟨rfl, _, rfl, rfl⟩) (by decide) (by decide) rfl rfl ?_
  refine pw_aload_n dX10_init_76 rfl ?_
  refine pw_bipush (v := nI 41) dX10_init_77 (by decide) ?_
  refine pw_newa (t := 100) (N := 41) dX10_init_79 (by decide) ar_int (by decide) (by decide) (by decide) (by decide) (by decide) (fun hI57 hJ57 => ?_)
  refine pw_putP fX10_38 dX10_init_81 rfl (Or.inr ⟨rfl, _, rfl, rfl⟩) (by decide) (by decide) rfl rfl ?_
  refine pw_aload_n dX10_init_84 rfl ?_
  refine pw_bipush (v := nI 123) dX10_init_85 (by decide) ?_
  refine pw_newa (t := 100) (N := 123) dX10_init_87 (by decide) ar_int (by decide) (by decide) (by decide) (by decide) (by decide) (fun hI58 hJ58 => ?_)
  refine pw_putP fX10_41 dX10_init_89 rfl (Or.inr ⟨rfl, _, rfl, rfl⟩) (by decide) (by decide) rfl rfl ?_
  refine pw_aload_n dX10_init_92 rfl ?_
  refine pw_bipush (v := nI 41) dX10_init_93 (by decide) ?_
  refine pw_newa (t := 100) (N := 41) dX10_init_95 (by decide) ar_int (by decide) (by decide) (by decide) (by decide) (by decide) (fun hI59 hJ59 => ?_)
  refine pw_putP fX10_44 dX10_init_97 rfl (Or.inr ⟨rfl, _, rfl, rfl⟩) (by decide) (by decide) rfl rfl ?_
  refine pw_aload_n dX10_init_100 rfl ?_
  refine pw_bipush (v := nI 41) dX10_init_101 (by decide) ?_
  refine pw_newa (t := 100) (N := 41) dX10_init_103 (by decide) ar_int (by decide) (by decide) (by decide) (by decide) (by decide) (fun hI60 hJ60 => ?_)
  refine pw_putP fX10_47 dX10_init_105 rfl (Or.inr ⟨rfl, _, rfl, rfl⟩) (by decide) (by decide) rfl rfl ?_
  refine pw_aload_n dX10_init_108 rfl ?_
  refine pw_bipush (v := nI 41) dX10_init_109 (by decide) ?_
  refine pw_newa (t := 100) (N := 41) dX10_init_111 (by decide) ar_int (by decide) (by decide) (by decide) (by decide) (by decide) (fun hI61 hJ61 => ?_)
  refine pw_putP fX10_50 dX10_init_113 rfl (Or.inr ⟨rfl, _, rfl, rfl⟩) (by decide) (by decide) rfl rfl ?_
  refine pw_aload_n dX10_init_116 rfl ?_
  refine pw_sipush (v := nI 4920) dX10_init_117 (by decide) ?_
  refine pw_newa (t := 100) (N := 4920) dX10_init_120 (by decide) ar_int (by decide) (by decide) (by decide) (by decide) (by decide) (fun hI62 hJ62 => ?_)
  refine pw_putP fX10_53 dX10_init_122 rfl (Or.inr ⟨rfl, _, rfl, rfl⟩) (by decide) (by decide) rfl rfl ?_
  refine pw_aload_n dX10_init_125 rfl ?_
  refine pw_sipush (v := nI 2624) dX10_init_126 (by decide) ?_
  refine pw_newa (t := 100) (N := 2624) dX10_init_129 (by decide) ar_int (by decide) (by decide) (by decide) (by decide) (by decide) (fun hI63 hJ63 => ?_)
  refine pw_putP fX10_56 dX10_init_131 rfl (Or.inr ⟨rfl, _, rfl, rfl⟩) (by decide) (by decide) rfl rfl ?_
  refine pw_aload_n dX10_init_134 rfl ?_
  refine pw_sipush (v := nI 2624) dX10_init_135 (by decide) ?_
  refine pw_newa (t := 100) (N := 2624) dX10_init_138 (by decide) ar_int (by decide) (by decide) (by decide) (by decide) (by decide) (fun hI64 hJ64 => ?_)
  refine pw_putP fX10_59 dX10_init_140 rfl (Or.inr ⟨rfl, _, rfl, rfl⟩) (by decide) (by decide) rfl rfl ?_
  refine pw_aload_n dX10_init_143 rfl ?_
  refine pw_sipush (v := nI 2624) dX10_init_144 (by decide) ?_
  refine pw_newa (t := 100) (N := 2624) dX10_init_147 (by decide) ar_int (by decide) (by decide) (by decide) (by decide) (by decide) (fun hI65 hJ65 => ?_)
  refine pw_putP fX10_62 dX10_init_149 rfl (Or.inr ⟨rfl, _, rfl, rfl⟩) (by decide) (by decide) rfl rfl ?_
  refine pw_aload_n dX10_init_152 rfl ?_
  refine pw_sipush (v := nI 2624) dX10_init_153 (by decide) ?_
  refine pw_newa (t := 100) (N := 2624) dX10_init_156 (by decide) ar_int (by decide) (by decide) (by decide) (by decide) (by decide) (fun hI66 hJ66 => ?_)
  refine pw_putP fX10_65 dX10_init_158 rfl (Or.inr ⟨rfl, _, rfl, rfl⟩) (by decide) (by decide) rfl rfl ?_
  refine pw_aload_n dX10_init_161 rfl ?_
  refine pw_sipush (v := nI 2624) dX10_init_162 (by decide) ?_
  refine pw_newa (t := 100) (N := 2624) dX10_init_165 (by decide) ar_int (by decide) (by decide) (by decide) (by decide) (by decide) (fun hI67 hJ67 => ?_)
  refine pw_putP fX10_68 dX10_init_167 rfl (Or.inr ⟨rfl, _, rfl, rfl⟩) (by decide) (by decide) rfl rfl ?_
  refine pw_aload_n dX10_init_170 rfl ?_
  refine pw_sipush (v := nI 2624) dX10_init_171 (by decide) ?_
  refine pw_newa (t := 100) (N := 2624) dX10_init_174 (by decide) ar_int (by decide) (by decide) (by decide) (by decide) (by decide) (fun hI68 hJ68 => ?_)
  refine pw_putP fX10_71 dX10_init_176 rfl (Or.inr ⟨rfl, _, rfl, rfl⟩) (by decide) (by decide) rfl rfl ?_
  refine pw_aload_n dX10_init_179 rfl ?_
  refine pw_sipush (v := nI 2624) dX10_init_180 (by decide) ?_
  refine pw_newa (t := 100) (N := 2624) dX10_init_183 (by decide) ar_int (by decide) (by decide) (by decide) (by decide) (by decide) (fun hI69 hJ69 => ?_)
  refine pw_putP fX10_74 dX10_init_185 rfl (Or.inr ⟨rfl, _, rfl, rfl⟩) (by decide) (by decide) rfl rfl ?_
  refine pw_aload_n dX10_init_188 rfl ?_
  refine pw_sipush (v := nI 2624) dX10_init_189 (by decide) ?_
  refine pw_newa (t := 101) (N := 2624) dX10_init_192 (by decide) ar_long (by decide) (by decide) (by decide) (by decide) (by decide) (fun hI70 hJ70 => ?_)
  refine pw_putP fX10_77 dX10_init_194 rfl (Or.inr ⟨rfl, _, rfl, rfl⟩) (by decide) (by decide) rfl rfl ?_
  refine pw_aload_n dX10_init_197 rfl ?_
  refine pw_bipush (v := nI 41) dX10_init_198 (by decide) ?_
  refine pw_newa (t := 100) (N := 41) dX10_init_200 (by decide) ar_int (by decide) (by decide) (by decide) (by decide) (by decide) (fun hI71 hJ71 => ?_)
  refine pw_putP fX10_80 dX10_init_202 rfl (Or.inr ⟨rfl, _, rfl, rfl⟩) (by decide) (by decide) rfl rfl ?_
  refine pw_aload_n dX10_init_205 rfl ?_
  refine pw_bipush (v := nI 41) dX10_init_206 (by decide) ?_
  refine pw_newa (t := 101) (N := 41) dX10_init_208 (by decide) ar_long (by decide) (by decide) (by decide) (by decide) (by decide) (fun hI72 hJ72 => ?_)
  refine pw_putP fX10_83 dX10_init_210 rfl (Or.inr ⟨rfl, _, rfl, rfl⟩) (by decide) (by decide) rfl rfl ?_
  refine pw_aload_n dX10_init_213 rfl ?_
  refine pw_sipush (v := nI 16500) dX10_init_214 (by decide) ?_
  refine pw_newa (t := 100) (N := 16500) dX10_init_217 (by decide) ar_int (by decide) (by decide) (by decide) (by decide) (by decide) (fun hI73 hJ73 => ?_)
  refine pw_putP fX10_86 dX10_init_219 rfl (Or.inr ⟨rfl, _, rfl, rfl⟩) (by decide) (by decide) rfl rfl ?_
  refine pw_aload_n dX10_init_222 rfl ?_
  refine pw_ldc dX10_init_223 kX10_89 ?_
  refine pw_newa (t := 100) (N := 49500) dX10_init_225 (by decide) ar_int (by decide) (by decide) (by decide) (by decide) (by decide) (fun hI74 hJ74 => ?_)
  refine pw_putP fX10_90 dX10_init_227 rfl (Or.inr ⟨rfl, _, rfl, rfl⟩) (by decide) (by decide) rfl rfl ?_
  refine pw_aload_n dX10_init_230 rfl ?_
  refine pw_ldc dX10_init_231 kX10_89 ?_
  refine pw_newa (t := 101) (N := 49500) dX10_init_233 (by decide) ar_long (by decide) (by decide) (by decide) (by decide) (by decide) (fun hI75 hJ75 => ?_)
  refine pw_putP fX10_93 dX10_init_235 rfl (Or.inr ⟨rfl, _, rfl, rfl⟩) (by decide) (by decide) rfl rfl ?_
  refine pw_aload_n dX10_init_238 rfl ?_
  refine pw_iconst (v := nI 5) dX10_init_239 (by decide) ?_
  refine pw_newa (t := 100) (N := 5) dX10_init_240 (by decide) ar_int (by decide) (by decide) (by decide) (by decide) (by decide) (fun hI76 hJ76 => ?_)
  refine pw_putP fX10_96 dX10_init_242 rfl (Or.inr ⟨rfl, _, rfl, rfl⟩) (by decide) (by decide) rfl rfl ?_
  refine pw_aload_n dX10_init_245 rfl ?_
  refine pw_bipush (v := nI 62) dX10_init_246 (by decide) ?_
  refine pw_newa (t := 100) (N := 62) dX10_init_248 (by decide) ar_int (by decide) (by decide) (by decide) (by decide) (by decide) (fun hI77 hJ77 => ?_)
  refine pw_putP fX10_99 dX10_init_250 rfl (Or.inr ⟨rfl, _, rfl, rfl⟩) (by decide) (by decide) rfl rfl ?_
  refine pw_aload_n dX10_init_253 rfl ?_
  refine pw_bipush (v := nI 62) dX10_init_254 (by decide) ?_
  refine pw_newa (t := 100) (N := 62) dX10_init_256 (by decide) ar_int (by decide) (by decide) (by decide) (by decide) (by decide) (fun hI78 hJ78 => ?_)
  refine pw_putP fX10_102 dX10_init_258 rfl (Or.inr ⟨rfl, _, rfl, rfl⟩) (by decide) (by decide) rfl rfl ?_
  refine pw_aload_n dX10_init_261 rfl ?_
  refine pw_bipush (v := nI 62) dX10_init_262 (by decide) ?_
  refine pw_newa (t := 101) (N := 62) dX10_init_264 (by decide) ar_long (by decide) (by decide) (by decide) (by decide) (by decide) (fun hI79 hJ79 => ?_)
  refine pw_putP fX10_105 dX10_init_266 rfl (Or.inr ⟨rfl, _, rfl, rfl⟩) (by decide) (by decide) rfl rfl ?_
  refine pw_aload_n dX10_init_269 rfl ?_
  refine pw_sipush (v := nI 400) dX10_init_270 (by decide) ?_
  refine pw_newa (t := 100) (N := 400) dX10_init_273 (by decide) ar_int (by decide) (by decide) (by decide) (by decide) (by decide) (fun hI80 hJ80 => ?_)
  refine pw_putP fX10_108 dX10_init_275 rfl (Or.inr ⟨rfl, _, rfl, rfl⟩) (by decide) (by decide) rfl rfl ?_
  refine pw_aload_n dX10_init_278 rfl ?_
  refine pw_sipush (v := nI 400) dX10_init_279 (by decide) ?_
  refine pw_newa (t := 100) (N := 400) dX10_init_282 (by decide) ar_int (by decide) (by decide) (by decide) (by decide) (by decide) (fun hI81 hJ81 => ?_)
  refine pw_putP fX10_111 dX10_init_284 rfl (Or.inr ⟨rfl, _, rfl, rfl⟩) (by decide) (by decide) rfl rfl ?_
  refine pw_aload_n dX10_init_287 rfl ?_
  refine pw_sipush (v := nI 400) dX10_init_288 (by decide) ?_
  refine pw_newa (t := 100) (N := 400) dX10_init_291 (by decide) ar_int (by decide) (by decide) (by decide) (by decide) (by decide) (fun hI82 hJ82 => ?_)
  refine pw_putP fX10_114 dX10_init_293 rfl (Or.inr ⟨rfl, _, rfl, rfl⟩) (by decide) (by decide) rfl rfl ?_
  refine pw_aload_n dX10_init_296 rfl ?_
  refine pw_sipush (v := nI 400) dX10_init_297 (by decide) ?_
  refine pw_newa (t := 100) (N := 400) dX10_init_300 (by decide) ar_int (by decide) (by decide) (by decide) (by decide) (by decide) (fun hI83 hJ83 => ?_)
  refine pw_putP fX10_117 dX10_init_302 rfl (Or.inr ⟨rfl, _, rfl, rfl⟩) (by decide) (by decide) rfl rfl ?_
  refine pw_aload_n dX10_init_305 rfl ?_
  refine pw_sipush (v := nI 400) dX10_init_306 (by decide) ?_
  refine pw_newa (t := 100) (N := 400) dX10_init_309 (by decide) ar_int (by decide) (by decide) (by decide) (by decide) (by decide) (fun hI84 hJ84 => ?_)
  refine pw_putP fX10_120 dX10_init_311 rfl (Or.inr ⟨rfl, _, rfl, rfl⟩) (by decide) (by decide) rfl rfl ?_
  refine pw_aload_n dX10_init_314 rfl ?_
  refine pw_sipush (v := nI 400) dX10_init_315 (by decide) ?_
  refine pw_newa (t := 100) (N := 400) dX10_init_318 (by decide) ar_int (by decide) (by decide) (by decide) (by decide) (by decide) (fun hI85 hJ85 => ?_)
  refine pw_putP fX10_123 dX10_init_320 rfl (Or.inr ⟨rfl, _, rfl, rfl⟩) (by decide) (by decide) rfl rfl ?_
  refine pw_aload_n dX10_init_323 rfl ?_
  refine pw_iconst (v := nI 3) dX10_init_324 (by decide) ?_
  refine pw_newa (t := 100) (N := 3) dX10_init_325 (by decide) ar_int (by decide) (by decide) (by decide) (by decide) (by decide) (fun hI86 hJ86 => ?_)
  refine pw_putP fX10_126 dX10_init_327 rfl (Or.inr ⟨rfl, _, rfl, rfl⟩) (by decide) (by decide) rfl rfl ?_
  refine pw_aload_n dX10_init_330 rfl ?_
  refine pw_bipush (v := nI 22) dX10_init_331 (by decide) ?_
  refine pw_newa (t := 100) (N := 22) dX10_init_333 (by decide) ar_int (by decide) (by decide) (by decide) (by decide) (by decide) (fun hI87 hJ87 => ?_)
  refine pw_putP fX10_129 dX10_init_335 rfl (Or.inr ⟨rfl, _, rfl, rfl⟩) (by decide) (by decide) rfl rfl ?_
  refine pw_aload_n dX10_init_338 rfl ?_
  refine pw_bipush (v := nI 66) dX10_init_339 (by decide) ?_
  refine pw_newa (t := 100) (N := 66) dX10_init_341 (by decide) ar_int (by decide) (by decide) (by decide) (by decide) (by decide) (fun hI88 hJ88 => ?_)
  refine pw_putP fX10_132 dX10_init_343 rfl (Or.inr ⟨rfl, _, rfl, rfl⟩) (by decide) (by decide) rfl rfl ?_
  refine pw_aload_n dX10_init_346 rfl ?_
  refine pw_bipush (v := nI 66) dX10_init_347 (by decide) ?_
  refine pw_newa (t := 101) (N := 66) dX10_init_349 (by decide) ar_long (by decide) (by decide) (by decide) (by decide) (by decide) (fun hI89 hJ89 => ?_)
  refine pw_putP fX10_135 dX10_init_351 rfl (Or.inr ⟨rfl, _, rfl, rfl⟩) (by decide) (by decide) rfl rfl ?_
  refine pw_aload_n dX10_init_354 rfl ?_
  refine pw_sipush (v := nI 900) dX10_init_355 (by decide) ?_
  refine pw_newa (t := 100) (N := 900) dX10_init_358 (by decide) ar_int (by decide) (by decide) (by decide) (by decide) (by decide) (fun hI90 hJ90 => ?_)
  refine pw_putP fX10_138 dX10_init_360 rfl (Or.inr ⟨rfl, _, rfl, rfl⟩) (by decide) (by decide) rfl rfl ?_
  refine pw_aload_n dX10_init_363 rfl ?_
  refine pw_sipush (v := nI 900) dX10_init_364 (by decide) ?_
  refine pw_newa (t := 100) (N := 900) dX10_init_367 (by decide) ar_int (by decide) (by decide) (by decide) (by decide) (by decide) (fun hI91 hJ91 => ?_)
  refine pw_putP fX10_141 dX10_init_369 rfl (Or.inr ⟨rfl, _, rfl, rfl⟩) (by decide) (by decide) rfl rfl ?_
  refine pw_aload_n dX10_init_372 rfl ?_
  refine pw_sipush (v := nI 900) dX10_init_373 (by decide) ?_
  refine pw_newa (t := 100) (N := 900) dX10_init_376 (by decide) ar_int (by decide) (by decide) (by decide) (by decide) (by decide) (fun hI92 hJ92 => ?_)
  refine pw_putP fX10_144 dX10_init_378 rfl (Or.inr ⟨rfl, _, rfl, rfl⟩) (by decide) (by decide) rfl rfl ?_
  refine pw_aload_n dX10_init_381 rfl ?_
  refine pw_sipush (v := nI 900) dX10_init_382 (by decide) ?_
  refine pw_newa (t := 101) (N := 900) dX10_init_385 (by decide) ar_long (by decide) (by decide) (by decide) (by decide) (by decide) (fun hI93 hJ93 => ?_)
  refine pw_putP fX10_147 dX10_init_387 rfl (Or.inr ⟨rfl, _, rfl, rfl⟩) (by decide) (by decide) rfl rfl ?_
  refine pw_aload_n dX10_init_390 rfl ?_
  refine pw_bipush (v := nI 64) dX10_init_391 (by decide) ?_
  refine pw_newa (t := 103) (N := 64) dX10_init_393 (by decide) ar_boolean (by decide) (by decide) (by decide) (by decide) (by decide) (fun hI94 hJ94 => ?_)
  refine pw_putP fX10_150 dX10_init_395 rfl (Or.inr ⟨rfl, _, rfl, rfl⟩) (by decide) (by decide) rfl rfl ?_
  refine pw_vret dX10_init_398 rfl ?_
  refine pw_astore_n (lv' := [(2, _), (1, _), (0, _)]) dL_law_15 (by decide) rfl ?_
  refine pw_iconst (v := nI 1) dL_law_16 (by decide) ?_
  refine pw_newa (t := 101) (N := 1) dL_law_17 (by decide) ar_long (by decide) (by decide) (by decide) (by decide) (by decide) (fun hI95 hJ95 => ?_)
  refine pw_astore_n (lv' := [(3, _), (2, _), (1, _), (0, _)]) dL_law_19 (by decide) rfl ?_
  refine pw_iconst (v := nI 0) dL_law_20 (by decide) ?_
  refine pw_istore (lv' := [(4, _), (3, _), (2, _), (1, _), (0, _)]) dL_law_21 (by decide) rfl ?_
  exact pm_Wk (by decide) (by decide) (by decide) (k _ _ (sh_of (by decide +kernel)) (gr_of (by decide +kernel)) ⟨by decide +kernel, by decide +kernel, by decide +kernel, by decide +kernel, by decide +kernel⟩)
