/-- what a WHOLE is asked for by whole(): 0 and its core, or what is thrown -/
def whV (v : vV) : Nat × Int64 := if v.1 = 2 then (2, 0) else if v.1 = 1 then (0, v.2) else (1, 0)
def whX (rs : List vV) (x : Int32) : Nat × Int64 := if 1 ≤ x.toInt ∧ x.toInt ≤ (rs.length : Int) then whV (rs.getD (x.toInt.toNat - 1) (0, 0)) else (1, 0)
theorem whX_1 {rs : List vV} {j : Nat} {v : vV} (hl : rs.length ≤ 40) (hj : rs[j]? = some v) : whX rs (nI (j + 1)) = whV v := by
  have h := (List.getElem?_eq_some_iff.mp hj).1
  unfold whX
  rw [nI_toInt (by omega), if_pos ⟨by omega, by omega⟩, Int.toNat_natCast, Nat.add_sub_cancel, List.getD_eq_getElem?_getD, hj]
  rfl
theorem whV_2 {v : vV} (h : v.1 = 2) : whV v = (2, 0) := if_pos h
theorem whV_1 {v : vV} (h : v.1 = 1) : whV v = (0, v.2) := by
  unfold whV
  rw [if_neg (by omega), if_pos h]
theorem whV_0 {v : vV} (h2 : v.1 ≠ 2) (h1 : v.1 ≠ 1) : whV v = (1, 0) := by
  unfold whV
  rw [if_neg h2, if_neg h1]
theorem whX_c (rs : List vV) (x : Int32) : (whX rs x).1 ≤ 2 := by
  unfold whX whV
  split
  · split
    · exact Nat.le_refl 2
    · split
      · exact Nat.zero_le 2
      · exact Nat.le_succ 1
  · exact Nat.le_succ 1
set_option maxRecDepth 20000 in
set_option maxHeartbeats 400000 in
theorem c_wholeE {l : Launch} {E : pmE} {d : Nat} {S : pmS} {I : pmI} {J : pmJ} {P : pmP} {Q : Option Value → pmS → pmI → pmJ → pmP → Prop} {QX : String → pmS → pmI → pmJ → pmP → Prop} {kc ks : Nat} (hl : l.stackTraces = false) (hG : sh_St S) (hP : gr_St P) (hd : 90 ≤ d) (hkc : 1 ≤ kc) (hks : 8 ≤ ks) {x : Int32} {A : aS} {Z : Nat → Nat} {b : Nat} (hc : cA S I J P A Z b) (hO : aO A) (k : (whX A.rs x).1 = 0 → Q (some (.long (whX A.rs x).2)) S I J P) (kN : (whX A.rs x).1 = 1 → QX "java/lang/NullPointerException" (pm_new S 300 0) I J P) (kC : (whX A.rs x).1 = 2 → QX "java/lang/ClassCastException" (pm_new S 300 0) I J P) : pm_MetX l E yX9_whole cX9_whole 3 (some .long) d kc ks [.ref 2, .int x] S I J P Q QX := by
  unfold pm_MetX
  have hsl := hO.2.2.2.2.2.2.2.2.2.2.1
  have hrl := hO.2.2.2.2.2.2.2.2.2.2.2.1
  refine pm_lvs (lv' := [(0, _), (1, _)]) rfl ?_
  rcases rs_cases (n := A.rs.length) (by omega) x with ⟨j, hj, rfl⟩ | h0
  · obtain ⟨v, hv⟩ : ∃ v, A.rs[j]? = some v := ⟨_, List.getElem?_eq_getElem hj⟩
    have hv2 := (hO.2.2.2.2.2.2.2.1 v (List.mem_of_getElem? hv)).1
    have hw := whX_1 (rs := A.rs) (by omega) hv
    rw [hw] at k kN kC
    refine pw_aload_n dX9_whole_0 rfl ?_
    refine pw_iload_n dX9_whole_1 rfl ?_
    refine pw_callV (as := [_]) (kc' := 0) (ks' := 0) lX9_102 dX9_whole_2 rfl rfl (sh_lt hG (by decide)) (sh_tg hG 0 rfl) (Nat.le_of_ble_eq_true rfl) (by omega) (Nat.le_of_ble_eq_true rfl) (Nat.zero_le _) (Nat.zero_le _) ?_
    refine c_kindE hG hP (by omega) hc hO ?_
    refine pw_ti (z := nI v.1) (kdX_1 (by omega) hv) ?_
    refine pw_istore_n (lv' := [(2, _), (0, _), (1, _)]) dX9_whole_5 (by decide) rfl ?_
    refine pw_iload_n dX9_whole_6 rfl ?_
    refine pw_iconst (v := nI 2) dX9_whole_7 (by decide) ?_
    refine pw_icmpN_ne _ _ (tgt := 19) dX9_whole_8 (by decide) (rfl) (rfl) (by omega) (by omega) (fun h8 => ?_) (fun h8 => ?_)
    · refine pw_iload_n dX9_whole_19 rfl ?_
      refine pw_iconst (v := nI 1) dX9_whole_20 (by decide) ?_
      refine pw_icmpN_eq _ _ (tgt := 32) dX9_whole_21 (by decide) (rfl) (rfl) (by omega) (by omega) (fun h21 => ?_) (fun h21 => ?_)
      · rw [whV_1 (by omega)] at k
        refine pw_X ?_
        refine pw_aload_n dX9_whole_32 rfl ?_
        refine pw_getR fX9_32 dX9_whole_33 (sh_lt hG (by decide)) (sh_tg hG 0 rfl) rfl (gr_at hP 3 rfl) ?_
        refine pw_getR fX9_93 dX9_whole_36 (sh_lt hG (by decide)) (sh_tg hG 13 rfl) rfl (gr_at hP 18 rfl) ?_
        refine pw_iload_n dX9_whole_39 rfl ?_
        refine pw_callV (as := [_]) (kc' := 0) (ks' := 0) lX9_111 dX9_whole_40 rfl rfl (sh_lt hG (by decide)) (sh_tg hG 28 rfl) (Nat.le_of_ble_eq_true rfl) (by omega) (Nat.le_of_ble_eq_true rfl) (Nat.zero_le _) (Nat.zero_le _) ?_
        refine v_core30 hG hP (by omega) ?_
        refine pw_tj (z := v.2) (hc.2.2.2.1 j v hv).2 ?_
        exact pw_lret dX9_whole_43 rfl (k rfl)
      · exact pw_throwN hl wx_N wy_N dX9_whole_24 dX9_whole_27 dX9_whole_28 dX9_whole_31 (by omega) (by omega) (by omega) (kN (by rw [whV_0 (by omega) (by omega)]))
    · exact pw_throw0 hl (by decide) (by decide) wx_C wy_C dX9_whole_11 dX9_whole_14 dX9_whole_15 dX9_whole_18 (by decide) (by omega) (by omega) (by omega) (kC (by rw [whV_2 (by omega)]))
  · rw [show whX A.rs x = (1, 0) from if_neg h0] at k kN kC
    refine pw_aload_n dX9_whole_0 rfl ?_
    refine pw_iload_n dX9_whole_1 rfl ?_
    refine pw_callV (as := [_]) (kc' := 0) (ks' := 0) lX9_102 dX9_whole_2 rfl rfl (sh_lt hG (by decide)) (sh_tg hG 0 rfl) (Nat.le_of_ble_eq_true rfl) (by omega) (Nat.le_of_ble_eq_true rfl) (Nat.zero_le _) (Nat.zero_le _) ?_
    refine c_kindE hG hP (by omega) hc hO ?_
    refine pw_ti (z := -1) (if_neg h0) ?_
    refine pw_istore_n (lv' := [(2, _), (0, _), (1, _)]) dX9_whole_5 (by decide) rfl ?_
    refine pw_iload_n dX9_whole_6 rfl ?_
    refine pw_iconst (v := nI 2) dX9_whole_7 (by decide) ?_
    refine pw_icmp_ne (tgt := 19) dX9_whole_8 (by decide) (fun h8 => ?_) (fun h => absurd h (by decide))
    refine pw_iload_n dX9_whole_19 rfl ?_
    refine pw_iconst (v := nI 1) dX9_whole_20 (by decide) ?_
    refine pw_icmp_eq (tgt := 32) dX9_whole_21 (by decide) (fun h => absurd h (by decide)) (fun h21 => ?_)
    exact pw_throwN hl wx_N wy_N dX9_whole_24 dX9_whole_27 dX9_whole_28 dX9_whole_31 (by omega) (by omega) (by omega) (kN rfl)
set_option maxRecDepth 20000 in
set_option maxHeartbeats 400000 in
theorem f_L_wholeE {l : Launch} {E : pmE} {d : Nat} {S : pmS} {I : pmI} {J : pmJ} {P : pmP} {Q : Option Value → pmS → pmI → pmJ → pmP → Prop} {kc ks : Nat} (hl : l.stackTraces = false) (hG : sh_St S) (hP : gr_St P) (hd : 100 ≤ d) (hkc : 1 ≤ kc) (hks : 8 ≤ ks) {x : Int32} {A : aS} {Z : Nat → Nat} {b : Nat} (hc : cA S I J P A Z b) (hO : aO A) (k : ∀ S' J', (S' = S ∨ S' = pm_new S 300 0) → (∀ b, b ≠ 95 → J' b = J b) → ((whX A.rs x).1 = 0 → J' 95 0 = (whX A.rs x).2) → Q (some (.int (nI (whX A.rs x).1))) S' I J' P) : pm_MetT l E yL_whole cL_whole 4 (some .int) [(0, 8, 11, 13), (0, 8, 14, 15)] d kc ks [.ref 2, .int x, .ref 95] S I J P Q := by
  unfold pm_MetT
  refine pm_lvs (lv' := [(0, _), (1, _), (2, _)]) rfl ?_
  refine pw_aload_n dL_whole_0 rfl ?_
  refine pw_iconst (v := nI 0) dL_whole_1 (by decide) ?_
  refine pw_aload_n dL_whole_2 rfl ?_
  refine pw_iload_n dL_whole_3 rfl ?_
  refine pw_callVT (as := [_]) (kc' := 1) (ks' := 8) (Cs := ["java/lang/NullPointerException", "java/lang/ClassCastException"]) (hp := hpW) (j := 3) (ln := 1) (lv' := [(0, _), (1, _), (2, _)]) lL_7 dL_whole_4 rfl rfl (sh_lt hG (by decide)) (sh_tg hG 0 rfl) (Nat.le_of_ble_eq_true rfl) (by omega) (Nat.le_of_ble_eq_true rfl) (by omega) (by omega) (fun C hC => ?_) (by decide) rfl ?_
  · rcases List.mem_cons.mp hC with rfl | hC
    · rw [hpW_N]
      exact ⟨ct_N, Or.inl ⟨3, rfl, dL_whole_11, rfl⟩⟩
    · cases List.mem_singleton.mp hC
      rw [hpW_C]
      exact ⟨ct_C, Or.inl ⟨3, rfl, dL_whole_14, rfl⟩⟩
  refine c_wholeE hl hG hP (by omega) (by omega) (by omega) hc hO (fun h => ?_) (fun h => ⟨List.mem_cons_self, ?_⟩) (fun h => ⟨List.mem_cons_of_mem _ (List.mem_singleton.mpr rfl), ?_⟩) <;> rw [h] at k
  · refine pw_T ?_
    refine pw_lastN 0 dL_whole_7 (by decide) (sh_lt hG (by decide)) (sh_sh hG 93 rfl) (by decide) (by decide) (by decide) ?_
    refine pw_goto (tgt := 17) dL_whole_8 (by decide) ?_
    refine pw_iconst (v := nI 0) dL_whole_17 (by decide) ?_
    exact pw_iret dL_whole_18 rfl (k _ _ (Or.inl rfl) (fun b hb => pm_u_ne hb) (fun _ => by rw [pm_u_eq, pm_up_eq]))
  · rw [hpW_N]
    refine pw_T ?_
    refine pw_iconst (v := nI 1) dL_whole_12 (by decide) ?_
    exact pw_iret dL_whole_13 rfl (k _ _ (Or.inr rfl) (fun b hb => rfl) (fun q => absurd q (by decide)))
  · rw [hpW_C]
    refine pw_T ?_
    refine pw_iconst (v := nI 2) dL_whole_15 (by decide) ?_
    exact pw_iret dL_whole_16 rfl (k _ _ (Or.inr rfl) (fun b hb => rfl) (fun q => absurd q (by decide)))
set_option maxRecDepth 20000 in
set_option maxHeartbeats 400000 in
theorem r_wholeE {l : Launch} {E : pmE} {d : Nat} {S : pmS} {I : pmI} {J : pmJ} {P : pmP} {Q : Option Value → pmS → pmI → pmJ → pmP → Prop} (hG : sh_St S) (hP : gr_St P) (hd : 1 ≤ d) {x : Int32} {A : aS} (hA : rA I J A) (hO : aO A) (k : ∀ a, ((whX A.rs x).1 = 0 → a = (whX A.rs x).2) → Q (some (.long a)) S (pm_u I 47 0 (nI (whX A.rs x).1)) J P) : pm_Met l E yX10_whole cX10_whole 2 (some .long) d 0 0 [.ref 47, .int x] S I J P Q := by
  unfold pm_Met
  have hsl := hO.2.2.2.2.2.2.2.2.2.2.1
  have hrl := hO.2.2.2.2.2.2.2.2.2.2.2.1
  refine pm_lvs (lv' := [(0, _), (1, _)]) rfl ?_
  rcases rs_cases (n := A.rs.length) (by omega) x with ⟨j, hj, rfl⟩ | h0
  · obtain ⟨v, hv⟩ : ∃ v, A.rs[j]? = some v := ⟨_, List.getElem?_eq_getElem hj⟩
    have hv2 := (hO.2.2.2.2.2.2.2.1 v (List.mem_of_getElem? hv)).1
    have hw := whX_1 (rs := A.rs) (by omega) hv
    rw [hw] at k
    refine pw_aload_n dX10_whole_0 rfl ?_
    refine pw_iload_n dX10_whole_1 rfl ?_
    refine pw_iconst (v := nI 1) dX10_whole_2 (by decide) ?_
    refine pw_aload_n dX10_whole_3 rfl ?_
    refine pw_getI fX10_305 dX10_whole_4 (sh_lt hG (by decide)) (sh_tg hG 45 rfl) rfl ?_
    refine pw_ti (z := nI A.rs.length) hA.r ?_
    refine pw_callS (as := [_, _, _]) (kc' := 0) (ks' := 0) lX10_160 dX10_whole_7 rfl rfl (Nat.le_of_ble_eq_true rfl) (by omega) (Nat.le_of_ble_eq_true rfl) (Nat.zero_le _) (Nat.zero_le _) ?_
    refine c_X10_in (fun _ _ => ?_) (fun q => absurd q ?_)
    rotate_left
    · intro q
      rcases q with q | q
      · rw [nI_ltI (by omega) (by omega)] at q; omega
      · rw [nI_ltI (by omega) (by omega)] at q; omega
    refine pw_if_eq (tgt := 22) dX10_whole_10 (by decide) (fun h => absurd h (by decide)) (fun h10 => ?_)
    refine pw_aload_n dX10_whole_13 rfl ?_
    refine pw_getR fX10_80 dX10_whole_14 (sh_lt hG (by decide)) (sh_tg hG 45 rfl) rfl (gr_at hP 63 rfl) ?_
    refine pw_iload_n dX10_whole_17 rfl ?_
    refine pw_ialdN (j + 1) dX10_whole_18 (sh_lt hG (by decide)) (sh_sh hG 69 rfl) (by decide) (rfl) (by omega) ?_
    refine pw_ti (z := nI v.1) (hA.rs j v hv).1 ?_
    refine pw_ifN_ne _ (tgt := 26) dX10_whole_19 (by decide) (rfl) (by omega) (fun h19 => ?_) (fun h19 => ?_)
    · refine pw_aload_n dX10_whole_26 rfl ?_
      refine pw_getR fX10_80 dX10_whole_27 (sh_lt hG (by decide)) (sh_tg hG 45 rfl) rfl (gr_at hP 63 rfl) ?_
      refine pw_iload_n dX10_whole_30 rfl ?_
      refine pw_ialdN (j + 1) dX10_whole_31 (sh_lt hG (by decide)) (sh_sh hG 69 rfl) (by decide) (rfl) (by omega) ?_
      refine pw_ti (z := nI v.1) (hA.rs j v hv).1 ?_
      refine pw_iconst (v := nI 2) dX10_whole_32 (by decide) ?_
      refine pw_icmpN_ne _ _ (tgt := 40) dX10_whole_33 (by decide) (rfl) (rfl) (by omega) (by omega) (fun h33 => ?_) (fun h33 => ?_)
      · rw [whV_1 (by omega)] at k
        refine pw_iconst (v := nI 0) dX10_whole_40 (by decide) ?_
        refine pw_putI fX10_154 dX10_whole_41 (Or.inl rfl) (by decide) (sh_lt hG (by decide)) (sh_tg hG 45 rfl) rfl ?_
        refine pw_aload_n dX10_whole_44 rfl ?_
        refine pw_getI fX10_154 dX10_whole_45 (sh_lt hG (by decide)) (sh_tg hG 45 rfl) rfl ?_
        refine pw_ti (z := nI 0) (by rw [pm_u_eq, pm_up_eq]) ?_
        refine pw_if_ne (tgt := 60) dX10_whole_48 (by decide) (fun h => absurd (by decide) h) (fun h48 => ?_)
        refine pw_aload_n dX10_whole_51 rfl ?_
        refine pw_getR fX10_83 dX10_whole_52 (sh_lt hG (by decide)) (sh_tg hG 45 rfl) rfl (gr_at hP 64 rfl) ?_
        refine pw_iload_n dX10_whole_55 rfl ?_
        refine pw_laldN (j + 1) dX10_whole_56 (sh_lt hG (by decide)) (sh_sh hG 70 rfl) (by decide) (rfl) (by omega) ?_
        refine pw_tj (z := v.2) (hA.rs j v hv).2 ?_
        refine pw_goto (tgt := 61) dX10_whole_57 (by decide) ?_
        exact pw_lret dX10_whole_61 rfl (k _ (fun _ => rfl))
      · rw [whV_2 (by omega)] at k
        refine pw_iconst (v := nI 2) dX10_whole_36 (by decide) ?_
        refine pw_goto (tgt := 41) dX10_whole_37 (by decide) ?_
        refine pw_putI fX10_154 dX10_whole_41 (Or.inl rfl) (by decide) (sh_lt hG (by decide)) (sh_tg hG 45 rfl) rfl ?_
        refine pw_aload_n dX10_whole_44 rfl ?_
        refine pw_getI fX10_154 dX10_whole_45 (sh_lt hG (by decide)) (sh_tg hG 45 rfl) rfl ?_
        refine pw_ti (z := nI 2) (by rw [pm_u_eq, pm_up_eq]) ?_
        refine pw_if_ne (tgt := 60) dX10_whole_48 (by decide) (fun h48 => ?_) (fun h => absurd h (by decide))
        refine pw_lconst (v := 0) dX10_whole_60 (by decide) ?_
        exact pw_lret dX10_whole_61 rfl (k _ (fun q => absurd q (by decide)))
    · rw [whV_0 (by omega) (by omega)] at k
      refine pw_iconst (v := nI 1) dX10_whole_22 (by decide) ?_
      refine pw_goto (tgt := 41) dX10_whole_23 (by decide) ?_
      refine pw_putI fX10_154 dX10_whole_41 (Or.inl rfl) (by decide) (sh_lt hG (by decide)) (sh_tg hG 45 rfl) rfl ?_
      refine pw_aload_n dX10_whole_44 rfl ?_
      refine pw_getI fX10_154 dX10_whole_45 (sh_lt hG (by decide)) (sh_tg hG 45 rfl) rfl ?_
      refine pw_ti (z := nI 1) (by rw [pm_u_eq, pm_up_eq]) ?_
      refine pw_if_ne (tgt := 60) dX10_whole_48 (by decide) (fun h48 => ?_) (fun h => absurd h (by decide))
      refine pw_lconst (v := 0) dX10_whole_60 (by decide) ?_
      exact pw_lret dX10_whole_61 rfl (k _ (fun q => absurd q (by decide)))
  · rw [show whX A.rs x = (1, 0) from if_neg h0] at k
    refine pw_aload_n dX10_whole_0 rfl ?_
    refine pw_iload_n dX10_whole_1 rfl ?_
    refine pw_iconst (v := nI 1) dX10_whole_2 (by decide) ?_
    refine pw_aload_n dX10_whole_3 rfl ?_
    refine pw_getI fX10_305 dX10_whole_4 (sh_lt hG (by decide)) (sh_tg hG 45 rfl) rfl ?_
    refine pw_ti (z := nI A.rs.length) hA.r ?_
    refine pw_callS (as := [_, _, _]) (kc' := 0) (ks' := 0) lX10_160 dX10_whole_7 rfl rfl (Nat.le_of_ble_eq_true rfl) (by omega) (Nat.le_of_ble_eq_true rfl) (Nat.zero_le _) (Nat.zero_le _) ?_
    refine c_X10_in (fun q1 q2 => absurd ?_ h0) (fun _ => ?_)
    · obtain ⟨i, hi1, hi2, e⟩ := in_nI (by decide) (by omega) q1 q2
      rw [e, nI_toInt (by omega)]
      exact ⟨by omega, by omega⟩
    refine pw_if_eq (tgt := 22) dX10_whole_10 (by decide) (fun h10 => ?_) (fun h => absurd (by decide) h)
    refine pw_iconst (v := nI 1) dX10_whole_22 (by decide) ?_
    refine pw_goto (tgt := 41) dX10_whole_23 (by decide) ?_
    refine pw_putI fX10_154 dX10_whole_41 (Or.inl rfl) (by decide) (sh_lt hG (by decide)) (sh_tg hG 45 rfl) rfl ?_
    refine pw_aload_n dX10_whole_44 rfl ?_
    refine pw_getI fX10_154 dX10_whole_45 (sh_lt hG (by decide)) (sh_tg hG 45 rfl) rfl ?_
    refine pw_ti (z := nI 1) (by rw [pm_u_eq, pm_up_eq]) ?_
    refine pw_if_ne (tgt := 60) dX10_whole_48 (by decide) (fun h48 => ?_) (fun h => absurd h (by decide))
    refine pw_lconst (v := 0) dX10_whole_60 (by decide) ?_
    exact pw_lret dX10_whole_61 rfl (k _ (fun q => absurd q (by decide)))
