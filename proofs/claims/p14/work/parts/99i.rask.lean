theorem in_nI {x : Int32} {lo hi : Nat} (hl : lo < 2 ^ 31) (hh : hi < 2 ^ 31) (h1 : ¬ x < nI lo) (h2 : ¬ nI hi < x) : ∃ j, lo ≤ j ∧ j ≤ hi ∧ x = nI j := by
  have h0 : ¬ x < 0 := fun q => h1 (by
    have g := Int32.lt_iff_toInt_lt.mp q
    refine Int32.lt_iff_toInt_lt.mpr ?_
    rw [show nI lo = Int32.ofNat lo from rfl, Int32.toInt_ofNat_of_lt hl]
    have g2 : x.toInt < 0 := by simpa using g
    omega)
  obtain ⟨j, hj, rfl⟩ := nn_I h0
  refine ⟨j, ?_, ?_, rfl⟩
  · rcases Nat.lt_or_ge j lo with q | q
    · exact absurd ((nI_ltI hj hl).mpr q) h1
    · exact q
  · rcases Nat.lt_or_ge hi j with q | q
    · exact absurd ((nI_ltI hh hj).mpr q) h2
    · exact q
set_option maxRecDepth 20000 in
set_option maxHeartbeats 400000 in
theorem r_thrown {l : Launch} {E : pmE} {d : Nat} {S : pmS} {I : pmI} {J : pmJ} {P : pmP} {Q : Option Value → pmS → pmI → pmJ → pmP → Prop} (hG : sh_St S) (hP : gr_St P) (hd : 1 ≤ d) {x : Int32} (k : ∀ a, Q (some (.int a)) S I J P) : pm_Met l E yX10_thrown_ cX10_thrown_ 2 (some .int) d 0 0 [.ref 47, .int x] S I J P Q := by
  unfold pm_Met
  refine pm_lvs (lv' := [(0, _), (1, _)]) rfl ?_
  refine pw_iload_n dX10_thrown__0 rfl ?_
  refine pw_iconst (v := nI 0) dX10_thrown__1 (by decide) ?_
  refine pw_iconst (v := nI 4) dX10_thrown__2 (by decide) ?_
  refine pw_callS (as := [_, _, _]) (kc' := 0) (ks' := 0) lX10_160 dX10_thrown__3 rfl rfl (Nat.le_of_ble_eq_true rfl) (by omega) (Nat.le_of_ble_eq_true rfl) (Nat.zero_le _) (Nat.zero_le _) ?_
  refine c_X10_in (fun q1 q2 => ?_) (fun _ => ?_)
  · obtain ⟨j, hj1, hj2, rfl⟩ := in_nI (by decide) (by omega) q1 q2
    refine pw_if_eq (tgt := 18) dX10_thrown__6 (by decide) (fun h => absurd h (by decide)) (fun h6 => ?_)
    refine pw_aload_n dX10_thrown__9 rfl ?_
    refine pw_getR fX10_96 dX10_thrown__10 (sh_lt hG (by decide)) (sh_tg hG 45 rfl) rfl (gr_at hP 68 rfl) ?_
    refine pw_iload_n dX10_thrown__13 rfl ?_
    refine pw_ialdN j dX10_thrown__14 (sh_lt hG (by decide)) (sh_sh hG 74 rfl) (by decide) (rfl) (by omega) ?_
    refine pw_goto (tgt := 20) dX10_thrown__15 (by decide) ?_
    exact pw_iret dX10_thrown__20 rfl (k _)
  · refine pw_if_eq (tgt := 18) dX10_thrown__6 (by decide) (fun h6 => ?_) (fun h => absurd (by decide) h)
    refine pw_bipush (v := -2) dX10_thrown__18 (by decide) ?_
    exact pw_iret dX10_thrown__20 rfl (k _)
set_option maxRecDepth 20000 in
set_option maxHeartbeats 400000 in
theorem r_kind {l : Launch} {E : pmE} {d : Nat} {S : pmS} {I : pmI} {J : pmJ} {P : pmP} {Q : Option Value → pmS → pmI → pmJ → pmP → Prop} (hG : sh_St S) (hP : gr_St P) (hd : 1 ≤ d) {x : Int32} {n : Nat} (hn : I 47 27 = nI n) (hl : n ≤ 40) (k : ∀ a, Q (some (.int a)) S (pm_u I 47 0 (nI 0)) J P) : pm_Met l E yX10_kind cX10_kind 2 (some .int) d 0 0 [.ref 47, .int x] S I J P Q := by
  unfold pm_Met
  refine pm_lvs (lv' := [(0, _), (1, _)]) rfl ?_
  refine pw_aload_n dX10_kind_0 rfl ?_
  refine pw_iconst (v := nI 0) dX10_kind_1 (by decide) ?_
  refine pw_putI fX10_154 dX10_kind_2 (Or.inl rfl) (by decide) (sh_lt hG (by decide)) (sh_tg hG 45 rfl) rfl ?_
  refine pw_iload_n dX10_kind_5 rfl ?_
  refine pw_iconst (v := nI 1) dX10_kind_6 (by decide) ?_
  refine pw_aload_n dX10_kind_7 rfl ?_
  refine pw_getI fX10_305 dX10_kind_8 (sh_lt hG (by decide)) (sh_tg hG 45 rfl) rfl ?_
  refine pw_ti (z := nI n) (by rw [pm_u_eq, pm_up_ne (by decide)]; exact hn) ?_
  refine pw_callS (as := [_, _, _]) (kc' := 0) (ks' := 0) lX10_160 dX10_kind_11 rfl rfl (Nat.le_of_ble_eq_true rfl) (by omega) (Nat.le_of_ble_eq_true rfl) (Nat.zero_le _) (Nat.zero_le _) ?_
  refine c_X10_in (fun q1 q2 => ?_) (fun _ => ?_)
  · obtain ⟨j, hj1, hj2, rfl⟩ := in_nI (by decide) (by omega) q1 q2
    refine pw_if_eq (tgt := 26) dX10_kind_14 (by decide) (fun h => absurd h (by decide)) (fun h14 => ?_)
    refine pw_aload_n dX10_kind_17 rfl ?_
    refine pw_getR fX10_80 dX10_kind_18 (sh_lt hG (by decide)) (sh_tg hG 45 rfl) rfl (gr_at hP 63 rfl) ?_
    refine pw_iload_n dX10_kind_21 rfl ?_
    refine pw_ialdN j dX10_kind_22 (sh_lt hG (by decide)) (sh_sh hG 69 rfl) (by decide) (rfl) (by omega) ?_
    refine pw_goto (tgt := 27) dX10_kind_23 (by decide) ?_
    exact pw_iret dX10_kind_27 rfl (k _)
  · refine pw_if_eq (tgt := 26) dX10_kind_14 (by decide) (fun h14 => ?_) (fun h => absurd (by decide) h)
    refine pw_iconst (v := -1) dX10_kind_26 (by decide) ?_
    exact pw_iret dX10_kind_27 rfl (k _)
set_option maxRecDepth 20000 in
set_option maxHeartbeats 400000 in
theorem r_what {l : Launch} {E : pmE} {d : Nat} {S : pmS} {I : pmI} {J : pmJ} {P : pmP} {Q : Option Value → pmS → pmI → pmJ → pmP → Prop} (hG : sh_St S) (hP : gr_St P) (hd : 2 ≤ d) {x : Int32} {n : Nat} (hn : I 47 3 = nI n) (hl : n ≤ 40) (k : ∀ a, Q (some (.int a)) S (pm_u I 47 0 (nI 0)) J P) : pm_Met l E yX10_what cX10_what 2 (some .int) d 0 0 [.ref 47, .int x] S I J P Q := by
  unfold pm_Met
  refine pm_lvs (lv' := [(0, _), (1, _)]) rfl ?_
  refine pw_aload_n dX10_what_0 rfl ?_
  refine pw_iconst (v := nI 0) dX10_what_1 (by decide) ?_
  refine pw_putI fX10_154 dX10_what_2 (Or.inl rfl) (by decide) (sh_lt hG (by decide)) (sh_tg hG 45 rfl) rfl ?_
  refine pw_aload_n dX10_what_5 rfl ?_
  refine pw_iload_n dX10_what_6 rfl ?_
  refine pw_callV (as := [_]) (kc' := 0) (ks' := 0) lX10_360 dX10_what_7 rfl rfl (sh_lt hG (by decide)) (sh_tg hG 45 rfl) (Nat.le_of_ble_eq_true rfl) (by omega) (Nat.le_of_ble_eq_true rfl) (Nat.zero_le _) (Nat.zero_le _) ?_
  refine c_X10_isName hG hP (by omega) (by rw [pm_u_eq, pm_up_ne (by decide)]; exact hn) hl (fun j hj e => ?_) (fun _ => ?_)
  · subst e
    refine pw_if_eq (tgt := 22) dX10_what_10 (by decide) (fun h => absurd h (by decide)) (fun h10 => ?_)
    refine pw_aload_n dX10_what_13 rfl ?_
    refine pw_getR fX10_17 dX10_what_14 (sh_lt hG (by decide)) (sh_tg hG 45 rfl) rfl (gr_at hP 42 rfl) ?_
    refine pw_iload_n dX10_what_17 rfl ?_
    refine pw_ialdN j dX10_what_18 (sh_lt hG (by decide)) (sh_sh hG 48 rfl) (by decide) (rfl) (by omega) ?_
    refine pw_goto (tgt := 23) dX10_what_19 (by decide) ?_
    exact pw_iret dX10_what_23 rfl (k _)
  · refine pw_if_eq (tgt := 22) dX10_what_10 (by decide) (fun h10 => ?_) (fun h => absurd (by decide) h)
    refine pw_iconst (v := -1) dX10_what_22 (by decide) ?_
    exact pw_iret dX10_what_23 rfl (k _)
set_option maxRecDepth 20000 in
set_option maxHeartbeats 400000 in
theorem r_by {l : Launch} {E : pmE} {d : Nat} {S : pmS} {I : pmI} {J : pmJ} {P : pmP} {Q : Option Value → pmS → pmI → pmJ → pmP → Prop} (hG : sh_St S) (hP : gr_St P) (hd : 2 ≤ d) {x : Int32} {n : Nat} (hn : I 47 3 = nI n) (hl : n ≤ 40) (k : ∀ a, Q (some (.int a)) S (pm_u I 47 0 (nI 0)) J P) : pm_Met l E yX10_by cX10_by 2 (some .int) d 0 0 [.ref 47, .int x] S I J P Q := by
  unfold pm_Met
  refine pm_lvs (lv' := [(0, _), (1, _)]) rfl ?_
  refine pw_aload_n dX10_by_0 rfl ?_
  refine pw_iconst (v := nI 0) dX10_by_1 (by decide) ?_
  refine pw_putI fX10_154 dX10_by_2 (Or.inl rfl) (by decide) (sh_lt hG (by decide)) (sh_tg hG 45 rfl) rfl ?_
  refine pw_aload_n dX10_by_5 rfl ?_
  refine pw_iload_n dX10_by_6 rfl ?_
  refine pw_callV (as := [_]) (kc' := 0) (ks' := 0) lX10_360 dX10_by_7 rfl rfl (sh_lt hG (by decide)) (sh_tg hG 45 rfl) (Nat.le_of_ble_eq_true rfl) (by omega) (Nat.le_of_ble_eq_true rfl) (Nat.zero_le _) (Nat.zero_le _) ?_
  refine c_X10_isName hG hP (by omega) (by rw [pm_u_eq, pm_up_ne (by decide)]; exact hn) hl (fun j hj e => ?_) (fun _ => ?_)
  · subst e
    refine pw_if_eq (tgt := 22) dX10_by_10 (by decide) (fun h => absurd h (by decide)) (fun h10 => ?_)
    refine pw_aload_n dX10_by_13 rfl ?_
    refine pw_getR fX10_20 dX10_by_14 (sh_lt hG (by decide)) (sh_tg hG 45 rfl) rfl (gr_at hP 43 rfl) ?_
    refine pw_iload_n dX10_by_17 rfl ?_
    refine pw_ialdN j dX10_by_18 (sh_lt hG (by decide)) (sh_sh hG 49 rfl) (by decide) (rfl) (by omega) ?_
    refine pw_goto (tgt := 23) dX10_by_19 (by decide) ?_
    exact pw_iret dX10_by_23 rfl (k _)
  · refine pw_if_eq (tgt := 22) dX10_by_10 (by decide) (fun h10 => ?_) (fun h => absurd (by decide) h)
    refine pw_iconst (v := -1) dX10_by_22 (by decide) ?_
    exact pw_iret dX10_by_23 rfl (k _)
set_option maxRecDepth 20000 in
set_option maxHeartbeats 400000 in
theorem r_edition {l : Launch} {E : pmE} {d : Nat} {S : pmS} {I : pmI} {J : pmJ} {P : pmP} {Q : Option Value → pmS → pmI → pmJ → pmP → Prop} (hG : sh_St S) (hP : gr_St P) (hd : 2 ≤ d) {x : Int32} {n : Nat} (hn : I 47 3 = nI n) (hl : n ≤ 40) (k : ∀ a, Q (some (.int a)) S (pm_u I 47 0 (nI 0)) J P) : pm_Met l E yX10_edition cX10_edition 2 (some .int) d 0 0 [.ref 47, .int x] S I J P Q := by
  unfold pm_Met
  refine pm_lvs (lv' := [(0, _), (1, _)]) rfl ?_
  refine pw_aload_n dX10_edition_0 rfl ?_
  refine pw_iconst (v := nI 0) dX10_edition_1 (by decide) ?_
  refine pw_putI fX10_154 dX10_edition_2 (Or.inl rfl) (by decide) (sh_lt hG (by decide)) (sh_tg hG 45 rfl) rfl ?_
  refine pw_aload_n dX10_edition_5 rfl ?_
  refine pw_iload_n dX10_edition_6 rfl ?_
  refine pw_callV (as := [_]) (kc' := 0) (ks' := 0) lX10_360 dX10_edition_7 rfl rfl (sh_lt hG (by decide)) (sh_tg hG 45 rfl) (Nat.le_of_ble_eq_true rfl) (by omega) (Nat.le_of_ble_eq_true rfl) (Nat.zero_le _) (Nat.zero_le _) ?_
  refine c_X10_isName hG hP (by omega) (by rw [pm_u_eq, pm_up_ne (by decide)]; exact hn) hl (fun j hj e => ?_) (fun _ => ?_)
  · subst e
    refine pw_if_eq (tgt := 22) dX10_edition_10 (by decide) (fun h => absurd h (by decide)) (fun h10 => ?_)
    refine pw_aload_n dX10_edition_13 rfl ?_
    refine pw_getR fX10_23 dX10_edition_14 (sh_lt hG (by decide)) (sh_tg hG 45 rfl) rfl (gr_at hP 44 rfl) ?_
    refine pw_iload_n dX10_edition_17 rfl ?_
    refine pw_ialdN j dX10_edition_18 (sh_lt hG (by decide)) (sh_sh hG 50 rfl) (by decide) (rfl) (by omega) ?_
    refine pw_goto (tgt := 23) dX10_edition_19 (by decide) ?_
    exact pw_iret dX10_edition_23 rfl (k _)
  · refine pw_if_eq (tgt := 22) dX10_edition_10 (by decide) (fun h10 => ?_) (fun h => absurd (by decide) h)
    refine pw_iconst (v := -1) dX10_edition_22 (by decide) ?_
    exact pw_iret dX10_edition_23 rfl (k _)
set_option maxRecDepth 20000 in
set_option maxHeartbeats 400000 in
theorem r_erase {l : Launch} {E : pmE} {d : Nat} {S : pmS} {I : pmI} {J : pmJ} {P : pmP} {Q : Option Value → pmS → pmI → pmJ → pmP → Prop} (hG : sh_St S) (hP : gr_St P) (k : ∀ a, Q (some (.int a)) S (pm_u (pm_u I 47 0 (nI 0)) 47 2 (nI 0)) J P) : pm_Met l E yX10_erase cX10_erase 2 (some .int) d 0 0 [.ref 47] S I J P Q := by
  unfold pm_Met
  refine pm_lvs (lv' := [(0, _)]) rfl ?_
  refine pw_aload_n dX10_erase_0 rfl ?_
  refine pw_iconst (v := nI 0) dX10_erase_1 (by decide) ?_
  refine pw_putI fX10_154 dX10_erase_2 (Or.inl rfl) (by decide) (sh_lt hG (by decide)) (sh_tg hG 45 rfl) rfl ?_
  refine pw_aload_n dX10_erase_5 rfl ?_
  refine pw_getI fX10_164 dX10_erase_6 (sh_lt hG (by decide)) (sh_tg hG 45 rfl) rfl ?_
  refine pw_istore_n (lv' := [(1, _), (0, _)]) dX10_erase_9 (by decide) rfl ?_
  refine pw_aload_n dX10_erase_10 rfl ?_
  refine pw_iconst (v := nI 0) dX10_erase_11 (by decide) ?_
  refine pw_putI fX10_164 dX10_erase_12 (Or.inl rfl) (by decide) (sh_lt hG (by decide)) (sh_tg hG 45 rfl) rfl ?_
  refine pw_iload_n dX10_erase_15 rfl ?_
  exact pw_iret dX10_erase_16 rfl (k _)

set_option maxRecDepth 20000 in
set_option maxHeartbeats 400000 in
theorem r_rs_lp {l : Launch} {E : pmE} {d : Nat} {S : pmS} {J : pmJ} {P : pmP} {Q : Option Value → pmS → pmI → pmJ → pmP → Prop} (hG : sh_St S) (hP : gr_St P) {I1 : pmI} {x1 : Int32} (kx : ∀ I', (∀ a, a ≠ 76 → I' a = I1 a) → Q (some (.int x1)) S I' J P) : ∀ (m k : Nat) (I : pmI), k + m = 5 → (∀ a, a ≠ 76 → I a = I1 a) → pm_W l E yX10_reset cX10_reset 3 (some .int) d 0 0 42 [(2, .int (nI k)), (1, .int x1), (0, .ref 47)] [] S I J P (pm_N E Q)
  | 0, k, I, hk, h1 => by
    have e : k = 5 := by omega
    subst e
    refine pw_iload_n dX10_reset_42 rfl ?_
    refine pw_iconst (v := nI 5) dX10_reset_43 (by decide) ?_
    refine pw_icmp_ge (tgt := 60) dX10_reset_44 (by decide) (fun h44 => ?_) (fun h => absurd (by decide) h)
    refine pw_iload_n dX10_reset_60 rfl ?_
    exact pw_iret dX10_reset_61 rfl (kx I h1)
  | m + 1, k, I, hk, h1 => by
    refine pw_iload_n dX10_reset_42 rfl ?_
    refine pw_iconst (v := nI 5) dX10_reset_43 (by decide) ?_
    refine pw_icmpN_ge _ _ (tgt := 60) dX10_reset_44 (by decide) (rfl) (rfl) (by omega) (by omega) (fun h44 => absurd h44 (by omega)) (fun h44 => ?_)
    refine pw_aload_n dX10_reset_47 rfl ?_
    refine pw_getR fX10_96 dX10_reset_48 (sh_lt hG (by decide)) (sh_tg hG 45 rfl) rfl (gr_at hP 68 rfl) ?_
    refine pw_iload_n dX10_reset_51 rfl ?_
    refine pw_iconst (v := nI 0) dX10_reset_52 (by decide) ?_
    refine pw_iastN k dX10_reset_53 (by decide) (sh_lt hG (by decide)) (sh_sh hG 74 rfl) (by decide) (rfl) (by omega) ?_
    refine pw_iinc (lv' := [(2, _), (1, _), (0, _)]) dX10_reset_54 rfl (by decide) rfl ?_
    refine pw_goto (tgt := 42) dX10_reset_57 (by decide) ?_
    refine pm_lvs (lv' := [(2, .int (nI (k + 1))), (1, _), (0, _)]) (by rw [show nI k + Int32.ofInt 1 = nI (k + 1) from nI_add k 1]) ?_
    exact r_rs_lp hG hP kx m (k + 1) _ (by omega) (fun a ha => (pm_u_ne ha).trans (h1 a ha))
theorem qI.reset {I' : pmI} {J : pmJ} {tx : Nat → Nat} (e2 : I' 47 2 = nI 0) (e3 : I' 47 3 = nI 0) (e10 : I' 47 10 = nI 0) (e27 : I' 47 27 = nI 0) (e30 : I' 47 30 = nI 0) : qI I' J aE tx 0 :=
  ⟨⟨e3, fun j v hj => (by cases hj), e27, fun j v hj => (by cases hj), e10, fun s hs => absurd hs (Nat.not_lt_zero _)⟩, ⟨e30, fun j s vs hj => (by cases hj)⟩, fun j hj => absurd hj (Nat.not_lt_zero _), e2⟩
set_option maxRecDepth 20000 in
set_option maxHeartbeats 400000 in
theorem r_reset {l : Launch} {E : pmE} {d : Nat} {S : pmS} {I : pmI} {J : pmJ} {P : pmP} {Q : Option Value → pmS → pmI → pmJ → pmP → Prop} (hG : sh_St S) (hP : gr_St P) {tx : Nat → Nat} (k : ∀ a I', oR I J I' J → qI I' J aE tx 0 → Q (some (.int a)) S I' J P) : pm_Met l E yX10_reset cX10_reset 3 (some .int) d 0 0 [.ref 47] S I J P Q := by
  unfold pm_Met
  refine pm_lvs (lv' := [(0, _)]) rfl ?_
  refine pw_aload_n dX10_reset_0 rfl ?_
  refine pw_iconst (v := nI 0) dX10_reset_1 (by decide) ?_
  refine pw_putI fX10_154 dX10_reset_2 (Or.inl rfl) (by decide) (sh_lt hG (by decide)) (sh_tg hG 45 rfl) rfl ?_
  refine pw_aload_n dX10_reset_5 rfl ?_
  refine pw_getI fX10_220 dX10_reset_6 (sh_lt hG (by decide)) (sh_tg hG 45 rfl) rfl ?_
  refine pw_istore_n (lv' := [(1, _), (0, _)]) dX10_reset_9 (by decide) rfl ?_
  refine pw_aload_n dX10_reset_10 rfl ?_
  refine pw_iconst (v := nI 0) dX10_reset_11 (by decide) ?_
  refine pw_putI fX10_164 dX10_reset_12 (Or.inl rfl) (by decide) (sh_lt hG (by decide)) (sh_tg hG 45 rfl) rfl ?_
  refine pw_aload_n dX10_reset_15 rfl ?_
  refine pw_iconst (v := nI 0) dX10_reset_16 (by decide) ?_
  refine pw_putI fX10_220 dX10_reset_17 (Or.inl rfl) (by decide) (sh_lt hG (by decide)) (sh_tg hG 45 rfl) rfl ?_
  refine pw_aload_n dX10_reset_20 rfl ?_
  refine pw_iconst (v := nI 0) dX10_reset_21 (by decide) ?_
  refine pw_putI fX10_305 dX10_reset_22 (Or.inl rfl) (by decide) (sh_lt hG (by decide)) (sh_tg hG 45 rfl) rfl ?_
  refine pw_aload_n dX10_reset_25 rfl ?_
  refine pw_iconst (v := nI 0) dX10_reset_26 (by decide) ?_
  refine pw_putI fX10_273 dX10_reset_27 (Or.inl rfl) (by decide) (sh_lt hG (by decide)) (sh_tg hG 45 rfl) rfl ?_
  refine pw_aload_n dX10_reset_30 rfl ?_
  refine pw_iconst (v := nI 0) dX10_reset_31 (by decide) ?_
  refine pw_putI fX10_317 dX10_reset_32 (Or.inl rfl) (by decide) (sh_lt hG (by decide)) (sh_tg hG 45 rfl) rfl ?_
  refine pw_aload_n dX10_reset_35 rfl ?_
  refine pw_iconst (v := nI 0) dX10_reset_36 (by decide) ?_
  refine pw_putI fX10_354 dX10_reset_37 (Or.inl rfl) (by decide) (sh_lt hG (by decide)) (sh_tg hG 45 rfl) rfl ?_
  refine pw_iconst (v := nI 0) dX10_reset_40 (by decide) ?_
  refine pw_istore_n (lv' := [(2, _), (1, _), (0, _)]) dX10_reset_41 (by decide) rfl ?_
  refine pm_lvs (lv' := [(2, .int (nI 0)), (1, _), (0, _)]) rfl ?_
  exact r_rs_lp hG hP (fun I2 h1 => k _ I2 (fun a ha => ⟨by rw [h1 a (by omega)]; repeat (rw [pm_u_ne (by omega)]), rfl⟩) (qI.reset (by rw [h1 47 (by decide)]; (repeat (first | rw [pm_u_ne (by decide)] | rw [pm_u_eq, pm_up_ne (by decide)] | rw [pm_u_eq, pm_up_eq]))) (by rw [h1 47 (by decide)]; (repeat (first | rw [pm_u_ne (by decide)] | rw [pm_u_eq, pm_up_ne (by decide)] | rw [pm_u_eq, pm_up_eq]))) (by rw [h1 47 (by decide)]; (repeat (first | rw [pm_u_ne (by decide)] | rw [pm_u_eq, pm_up_ne (by decide)] | rw [pm_u_eq, pm_up_eq]))) (by rw [h1 47 (by decide)]; (repeat (first | rw [pm_u_ne (by decide)] | rw [pm_u_eq, pm_up_ne (by decide)] | rw [pm_u_eq, pm_up_eq]))) (by rw [h1 47 (by decide)]; (repeat (first | rw [pm_u_ne (by decide)] | rw [pm_u_eq, pm_up_ne (by decide)] | rw [pm_u_eq, pm_up_eq]))))) 5 0 _ rfl (fun _ _ => rfl)
