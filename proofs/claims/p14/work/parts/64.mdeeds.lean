set_option maxRecDepth 20000 in
set_option maxHeartbeats 4000000 in
theorem m_dn {l : Launch} {E : pmE} {d : Nat} {S : pmS} {I : pmI} {J : pmJ} {P : pmP} {Q : Option Value → pmS → pmI → pmJ → pmP → Prop} {S0 : pmS} {I0 : pmI} {J0 : pmJ} {P0 : pmP} {b0 : Nat} {A : aS} {c i bs s b m : Nat} {w : Int32} {rv : List vV} {fr : List (Nat × Nat × Nat)} {t : List tH} {kc ks : Nat} (h : mS S0 I0 J0 P0 b0 A S I J P c w i bs rv fr s t b m) (hd : 1 ≤ d) {L : List dE} (hx : kX S0 I0 J0 P0 b0 c L) {x : dE} (hi : L[i]? = some x) {kk : Nat} (hkk : x.1 = kk) (k : ∀ I', mS S0 I0 J0 P0 b0 A S I' J P c (nI i) (i + 1) bs rv fr s t b m → pm_W l E yX1_doNext cX1_doNext 2 none d kc ks 30 [(1, .int (nI kk)), (0, .ref 34)] [] S I' J P (pm_N E Q)) : pm_Met l E yX1_doNext cX1_doNext 2 none d kc ks [.ref 34] S I J P Q := by
  unfold pm_Met
  have hG := h.hG
  have hP := h.hP
  refine pm_lvs (lv' := [(0, _)]) rfl ?_
  refine pw_aload_n dX1_doNext_0 rfl ?_
  refine pw_aload_n dX1_doNext_1 rfl ?_
  refine pw_getI fX1_79 dX1_doNext_2 (sh_lt hG (by decide)) (sh_tg hG 32 rfl) rfl ?_
  refine pw_ti (z := nI i) h.i' ?_
  refine pw_putI fX1_101 dX1_doNext_5 (Or.inl rfl) (by decide) (sh_lt hG (by decide)) (sh_tg hG 32 rfl) rfl ?_
  have h1 := h.setW (nI i)
  have h2 := h1.setI (i + 1)
  refine pw_aload_n dX1_doNext_8 rfl ?_
  refine pw_dup dX1_doNext_9 rfl ?_
  refine pw_getI fX1_79 dX1_doNext_10 (sh_lt hG (by decide)) (sh_tg hG 32 rfl) rfl ?_
  refine pw_iconst (v := nI 1) dX1_doNext_13 (by decide) ?_
  refine pw_iadd dX1_doNext_14 ?_
  refine pw_ti (z := nI (i + 1)) (by rw [h1.i']; exact nI_add i 1) ?_
  refine pw_putI fX1_79 dX1_doNext_15 (Or.inl rfl) (by decide) (sh_lt hG (by decide)) (sh_tg hG 32 rfl) rfl ?_
  obtain ⟨rm, hk2⟩ := hx.now h2
  refine pw_aload_n dX1_doNext_18 rfl ?_
  refine pw_getR fX1_35 dX1_doNext_19 (sh_lt hG (by decide)) (sh_tg hG 32 rfl) rfl h.cd ?_
  refine pw_aload_n dX1_doNext_22 rfl ?_
  refine pw_getI fX1_101 dX1_doNext_23 (sh_lt hG (by decide)) (sh_tg hG 32 rfl) rfl ?_
  refine pw_ti (z := nI i) h2.w' ?_
  refine pw_callV (as := [_]) (kc' := 0) (ks' := 0) lX1_104 dX1_doNext_26 rfl rfl (by have := hk2.1.2; omega) hk2.2.1 (Nat.le_of_ble_eq_true rfl) (by omega) (Nat.le_of_ble_eq_true rfl) (Nat.zero_le _) (Nat.zero_le _) ?_
  refine k_deed hk2 hi ?_
  refine pw_ti (z := nI kk) (by rw [hkk]) ?_
  refine pw_istore_n (lv' := [(1, _), (0, _)]) dX1_doNext_29 (by decide) rfl ?_
  exact k _ h2

set_option maxRecDepth 20000 in
set_option maxHeartbeats 4000000 in
theorem m_from35 {l : Launch} {E : pmE} {d : Nat} {S : pmS} {I : pmI} {J : pmJ} {P : pmP} {Q : Option Value → pmS → pmI → pmJ → pmP → Prop} {S0 : pmS} {I0 : pmI} {J0 : pmJ} {P0 : pmP} {b0 : Nat} {A : aS} {c i bs s b m : Nat} {w : Int32} {rv : List vV} {fr : List (Nat × Nat × Nat)} {t : List tH} (h : mS S0 I0 J0 P0 b0 A S I J P c w i bs rv fr s t b m) (hd : 2 ≤ d) (hl : rv.length < 401) {j : Nat} {v : vV} (hj : j < 401) (hv : I 36 j = nI v.1 ∧ J 37 j = v.2) (k : ∀ I' J', mS S0 I0 J0 P0 b0 A S I' J' P c w i bs (rv ++ [v]) fr s t b m → Q none S I' J' P) : pm_Met l E yX1_pushFrom cX1_pushFrom 3 none d 0 0 [.ref 34, .ref 35, .int (nI j)] S I J P Q := by
  unfold pm_Met
  have hG := h.hG
  have hP := h.hP
  refine pm_lvs (lv' := [(0, _), (1, _), (2, _)]) rfl ?_
  refine pw_aload_n dX1_pushFrom_0 rfl ?_
  refine pw_aload_n dX1_pushFrom_1 rfl ?_
  refine pw_iload_n dX1_pushFrom_2 rfl ?_
  refine pw_callV (as := [_]) (kc' := 0) (ks' := 0) lX1_59 dX1_pushFrom_3 rfl rfl (sh_lt hG (by decide)) (sh_tg hG 33 rfl) (Nat.le_of_ble_eq_true rfl) (by omega) (Nat.le_of_ble_eq_true rfl) (Nat.zero_le _) (Nat.zero_le _) ?_
  refine v_kind35 hG hP hj ?_
  refine pw_ti (z := nI v.1) hv.1 ?_
  refine pw_aload_n dX1_pushFrom_6 rfl ?_
  refine pw_iload_n dX1_pushFrom_7 rfl ?_
  refine pw_callV (as := [_]) (kc' := 0) (ks' := 0) lX1_63 dX1_pushFrom_8 rfl rfl (sh_lt hG (by decide)) (sh_tg hG 33 rfl) (Nat.le_of_ble_eq_true rfl) (by omega) (Nat.le_of_ble_eq_true rfl) (Nat.zero_le _) (Nat.zero_le _) ?_
  refine v_core35 hG hP hj ?_
  refine pw_tj (z := v.2) hv.2 ?_
  refine pw_callV (as := [_, _]) (kc' := 0) (ks' := 0) lX1_112 dX1_pushFrom_11 rfl rfl (sh_lt hG (by decide)) (sh_tg hG 32 rfl) (Nat.le_of_ble_eq_true rfl) (by omega) (Nat.le_of_ble_eq_true rfl) (Nat.zero_le _) (Nat.zero_le _) ?_
  refine m_push h (by omega) hl (fun I3 J3 h3 => ?_)
  exact pw_vret dX1_pushFrom_14 rfl (k _ _ h3)

set_option maxRecDepth 20000 in
set_option maxHeartbeats 4000000 in
theorem m_from27 {l : Launch} {E : pmE} {d : Nat} {S : pmS} {I : pmI} {J : pmJ} {P : pmP} {Q : Option Value → pmS → pmI → pmJ → pmP → Prop} {S0 : pmS} {I0 : pmI} {J0 : pmJ} {P0 : pmP} {b0 : Nat} {A : aS} {c i bs s b m : Nat} {w : Int32} {rv : List vV} {fr : List (Nat × Nat × Nat)} {t : List tH} (h : mS S0 I0 J0 P0 b0 A S I J P c w i bs rv fr s t b m) (hd : 2 ≤ d) (hl : rv.length < 401) {j : Nat} {v : vV} (hj : j < 40) (hv : I 28 j = nI v.1 ∧ J 29 j = v.2) (k : ∀ I' J', mS S0 I0 J0 P0 b0 A S I' J' P c w i bs (rv ++ [v]) fr s t b m → Q none S I' J' P) : pm_Met l E yX1_pushFrom cX1_pushFrom 3 none d 0 0 [.ref 34, .ref 27, .int (nI j)] S I J P Q := by
  unfold pm_Met
  have hG := h.hG
  have hP := h.hP
  refine pm_lvs (lv' := [(0, _), (1, _), (2, _)]) rfl ?_
  refine pw_aload_n dX1_pushFrom_0 rfl ?_
  refine pw_aload_n dX1_pushFrom_1 rfl ?_
  refine pw_iload_n dX1_pushFrom_2 rfl ?_
  refine pw_callV (as := [_]) (kc' := 0) (ks' := 0) lX1_59 dX1_pushFrom_3 rfl rfl (sh_lt hG (by decide)) (sh_tg hG 25 rfl) (Nat.le_of_ble_eq_true rfl) (by omega) (Nat.le_of_ble_eq_true rfl) (Nat.zero_le _) (Nat.zero_le _) ?_
  refine v_kind27 hG hP hj ?_
  refine pw_ti (z := nI v.1) hv.1 ?_
  refine pw_aload_n dX1_pushFrom_6 rfl ?_
  refine pw_iload_n dX1_pushFrom_7 rfl ?_
  refine pw_callV (as := [_]) (kc' := 0) (ks' := 0) lX1_63 dX1_pushFrom_8 rfl rfl (sh_lt hG (by decide)) (sh_tg hG 25 rfl) (Nat.le_of_ble_eq_true rfl) (by omega) (Nat.le_of_ble_eq_true rfl) (Nat.zero_le _) (Nat.zero_le _) ?_
  refine v_core27 hG hP hj ?_
  refine pw_tj (z := v.2) hv.2 ?_
  refine pw_callV (as := [_, _]) (kc' := 0) (ks' := 0) lX1_112 dX1_pushFrom_11 rfl rfl (sh_lt hG (by decide)) (sh_tg hG 32 rfl) (Nat.le_of_ble_eq_true rfl) (by omega) (Nat.le_of_ble_eq_true rfl) (Nat.zero_le _) (Nat.zero_le _) ?_
  refine m_push h (by omega) hl (fun I3 J3 h3 => ?_)
  exact pw_vret dX1_pushFrom_14 rfl (k _ _ h3)

set_option maxRecDepth 20000 in
set_option maxHeartbeats 4000000 in
theorem m_from30 {l : Launch} {E : pmE} {d : Nat} {S : pmS} {I : pmI} {J : pmJ} {P : pmP} {Q : Option Value → pmS → pmI → pmJ → pmP → Prop} {S0 : pmS} {I0 : pmI} {J0 : pmJ} {P0 : pmP} {b0 : Nat} {A : aS} {c i bs s b m : Nat} {w : Int32} {rv : List vV} {fr : List (Nat × Nat × Nat)} {t : List tH} (h : mS S0 I0 J0 P0 b0 A S I J P c w i bs rv fr s t b m) (hd : 2 ≤ d) (hl : rv.length < 401) {j : Nat} {v : vV} (hj : j < 41) (hv : I 31 j = nI v.1 ∧ J 32 j = v.2) (k : ∀ I' J', mS S0 I0 J0 P0 b0 A S I' J' P c w i bs (rv ++ [v]) fr s t b m → Q none S I' J' P) : pm_Met l E yX1_pushFrom cX1_pushFrom 3 none d 0 0 [.ref 34, .ref 30, .int (nI j)] S I J P Q := by
  unfold pm_Met
  have hG := h.hG
  have hP := h.hP
  refine pm_lvs (lv' := [(0, _), (1, _), (2, _)]) rfl ?_
  refine pw_aload_n dX1_pushFrom_0 rfl ?_
  refine pw_aload_n dX1_pushFrom_1 rfl ?_
  refine pw_iload_n dX1_pushFrom_2 rfl ?_
  refine pw_callV (as := [_]) (kc' := 0) (ks' := 0) lX1_59 dX1_pushFrom_3 rfl rfl (sh_lt hG (by decide)) (sh_tg hG 28 rfl) (Nat.le_of_ble_eq_true rfl) (by omega) (Nat.le_of_ble_eq_true rfl) (Nat.zero_le _) (Nat.zero_le _) ?_
  refine v_kind30 hG hP hj ?_
  refine pw_ti (z := nI v.1) hv.1 ?_
  refine pw_aload_n dX1_pushFrom_6 rfl ?_
  refine pw_iload_n dX1_pushFrom_7 rfl ?_
  refine pw_callV (as := [_]) (kc' := 0) (ks' := 0) lX1_63 dX1_pushFrom_8 rfl rfl (sh_lt hG (by decide)) (sh_tg hG 28 rfl) (Nat.le_of_ble_eq_true rfl) (by omega) (Nat.le_of_ble_eq_true rfl) (Nat.zero_le _) (Nat.zero_le _) ?_
  refine v_core30 hG hP hj ?_
  refine pw_tj (z := v.2) hv.2 ?_
  refine pw_callV (as := [_, _]) (kc' := 0) (ks' := 0) lX1_112 dX1_pushFrom_11 rfl rfl (sh_lt hG (by decide)) (sh_tg hG 32 rfl) (Nat.le_of_ble_eq_true rfl) (by omega) (Nat.le_of_ble_eq_true rfl) (Nat.zero_le _) (Nat.zero_le _) ?_
  refine m_push h (by omega) hl (fun I3 J3 h3 => ?_)
  exact pw_vret dX1_pushFrom_14 rfl (k _ _ h3)

theorem s_hr1 {l : Launch} {E : pmE} {d : Nat} {S : pmS} {I : pmI} {J : pmJ} {P : pmP} {Q : Option Value → pmS → pmI → pmJ → pmP → Prop} (hG : sh_St S) (hP : gr_St P) {n j : Nat} (hn : I 15 6 = nI n) (hn2 : n ≤ 40) (hj : j < n) (k : Q (some (.int (nI 1))) S I J P) : pm_Met l E yX4_hasResult cX4_hasResult 3 (some .boolean) d 0 0 [.ref 15, .long (nI (j + 1)).toInt64] S I J P Q :=
  c_X4_hasResult hG hP (fun _ _ => k) (fun h => by
    rw [hn, nI_l (by omega), nI_l (by omega), show (1 : Int64) = lN 1 from rfl, lN_lt (by omega) (by decide), lN_lt (by omega) (by omega)] at h
    omega)
theorem s_hr0 {l : Launch} {E : pmE} {d : Nat} {S : pmS} {I : pmI} {J : pmJ} {P : pmP} {Q : Option Value → pmS → pmI → pmJ → pmP → Prop} (hG : sh_St S) (hP : gr_St P) {n : Nat} {c : Int32} (hn : I 15 6 = nI n) (hn2 : n ≤ 40) (hc : ¬ (1 ≤ c.toInt ∧ c.toInt ≤ (n : Int))) (k : Q (some (.int (nI 0))) S I J P) : pm_Met l E yX4_hasResult cX4_hasResult 3 (some .boolean) d 0 0 [.ref 15, .long c.toInt64] S I J P Q :=
  c_X4_hasResult hG hP (fun h1 h2 => by
    rw [Int64.lt_iff_toInt_lt, Int32.toInt_toInt64] at h1
    rw [hn, Int64.lt_iff_toInt_lt, Int32.toInt_toInt64, Int32.toInt_toInt64, nI_toInt (by omega)] at h2
    have e : (1 : Int64).toInt = 1 := by decide
    omega) (fun _ => k)
theorem fm_le {A : aS} (hO : aO A) (v : Int64) : A.fm v ≤ 3 := by
  rcases Nat.eq_zero_or_pos (A.fm v) with h0 | h0
  · omega
  · obtain ⟨s', -, g2, g3, -⟩ := hO.2.2.2.1 v (show A.fm v ≠ 0 by omega)
    have := (hO.2.2.2.2.1 s' g2).1
    omega
theorem aO.k {A : aS} (hO : aO A) : A.sn.length ≤ 40 := hO.2.2.2.2.2.2.2.2.2.2.1
theorem aO.r {A : aS} (hO : aO A) : A.rs.length ≤ 40 := Nat.le_trans hO.2.2.2.2.2.2.2.2.2.2.2.1 hO.k
set_option maxRecDepth 20000 in
set_option maxHeartbeats 4000000 in
theorem m_res1 {l : Launch} {E : pmE} {d : Nat} {S : pmS} {I : pmI} {J : pmJ} {P : pmP} {Q : Option Value → pmS → pmI → pmJ → pmP → Prop} {S0 : pmS} {I0 : pmI} {J0 : pmJ} {P0 : pmP} {b0 : Nat} {A : aS} {c i bs s b m : Nat} {w : Int32} {rv : List vV} {fr : List (Nat × Nat × Nat)} {t : List tH} (h : mS S0 I0 J0 P0 b0 A S I J P c w i bs rv fr s t b m) (hd : 3 ≤ d) (hl : rv.length < 401) {Z : Nat → Nat} (hA : cA S0 I0 J0 P0 A Z b0) (hO : aO A) {j : Nat} {v : vV} (hj : A.rs[j]? = some v) (k : ∀ I' J', mS S0 I0 J0 P0 b0 A S I' J' P c w i bs (rv ++ [v]) fr s t b m → Q none S I' J' P) : pm_Met l E yX1_pushResult cX1_pushResult 2 none d 0 0 [.ref 34, .int (nI (j + 1))] S I J P Q := by
  unfold pm_Met
  have hG := h.hG
  have hP := h.hP
  have hA2 := h.ca hA
  have hr4 := hO.r
  have hk4 := hO.k
  have hn4 := hO.1.2
  have hjl := (List.getElem?_eq_some_iff.mp hj).1
  refine pm_lvs (lv' := [(0, _), (1, _)]) rfl ?_
  refine pw_aload_n dX1_pushResult_0 rfl ?_
  refine pw_getR fX1_39 dX1_pushResult_1 (sh_lt hG (by decide)) (sh_tg hG 32 rfl) rfl (gr_at hP 28 rfl) ?_
  refine pw_iload_n dX1_pushResult_4 rfl ?_
  refine pw_i2l dX1_pushResult_5 ?_
  refine pw_callV (as := [_]) (kc' := 0) (ks' := 0) lX1_165 dX1_pushResult_6 rfl rfl (sh_lt hG (by decide)) (sh_tg hG 13 rfl) (Nat.le_of_ble_eq_true rfl) (by omega) (Nat.le_of_ble_eq_true rfl) (Nat.zero_le _) (Nat.zero_le _) ?_
  refine s_hr1 hG hP hA2.r hr4 hjl ?_
  refine pw_if_eq (tgt := 27) dX1_pushResult_9 (by decide) (fun h => absurd h (by decide)) (fun h9 => ?_)
  refine pw_aload_n dX1_pushResult_12 rfl ?_
  refine pw_aload_n dX1_pushResult_13 rfl ?_
  refine pw_getR fX1_39 dX1_pushResult_14 (sh_lt hG (by decide)) (sh_tg hG 32 rfl) rfl (gr_at hP 28 rfl) ?_
  refine pw_getR fX1_169 dX1_pushResult_17 (sh_lt hG (by decide)) (sh_tg hG 13 rfl) rfl (gr_at hP 18 rfl) ?_
  refine pw_iload_n dX1_pushResult_20 rfl ?_
  refine pw_callV (as := [_, _]) (kc' := 0) (ks' := 0) lX1_122 dX1_pushResult_21 rfl rfl (sh_lt hG (by decide)) (sh_tg hG 32 rfl) (Nat.le_of_ble_eq_true rfl) (by omega) (Nat.le_of_ble_eq_true rfl) (Nat.zero_le _) (Nat.zero_le _) ?_
  refine m_from30 h (by omega) hl (by omega) (hA2.rs j v hj) (fun I3 J3 h3 => ?_)
  refine pw_goto (tgt := 32) dX1_pushResult_24 (by decide) ?_
  exact pw_vret dX1_pushResult_32 rfl (k _ _ h3)

set_option maxRecDepth 20000 in
set_option maxHeartbeats 4000000 in
theorem m_res0 {l : Launch} {E : pmE} {d : Nat} {S : pmS} {I : pmI} {J : pmJ} {P : pmP} {Q : Option Value → pmS → pmI → pmJ → pmP → Prop} {S0 : pmS} {I0 : pmI} {J0 : pmJ} {P0 : pmP} {b0 : Nat} {A : aS} {c i bs s b m : Nat} {w : Int32} {rv : List vV} {fr : List (Nat × Nat × Nat)} {t : List tH} (h : mS S0 I0 J0 P0 b0 A S I J P c w i bs rv fr s t b m) (hd : 3 ≤ d) {Z : Nat → Nat} (hA : cA S0 I0 J0 P0 A Z b0) (hO : aO A) {L : List dE} (hx : kX S0 I0 J0 P0 b0 c L) {c9 : Int32} (hc : ¬ (1 ≤ c9.toInt ∧ c9.toInt ≤ (A.rs.length : Int))) (k : ∀ I', mE S0 I0 J0 P0 b0 A S I' J P 1 b m → Q none S I' J P) : pm_Met l E yX1_pushResult cX1_pushResult 2 none d 0 0 [.ref 34, .int c9] S I J P Q := by
  unfold pm_Met
  have hG := h.hG
  have hP := h.hP
  have hA2 := h.ca hA
  have hr4 := hO.r
  have hk4 := hO.k
  have hn4 := hO.1.2
  refine pm_lvs (lv' := [(0, _), (1, _)]) rfl ?_
  refine pw_aload_n dX1_pushResult_0 rfl ?_
  refine pw_getR fX1_39 dX1_pushResult_1 (sh_lt hG (by decide)) (sh_tg hG 32 rfl) rfl (gr_at hP 28 rfl) ?_
  refine pw_iload_n dX1_pushResult_4 rfl ?_
  refine pw_i2l dX1_pushResult_5 ?_
  refine pw_callV (as := [_]) (kc' := 0) (ks' := 0) lX1_165 dX1_pushResult_6 rfl rfl (sh_lt hG (by decide)) (sh_tg hG 13 rfl) (Nat.le_of_ble_eq_true rfl) (by omega) (Nat.le_of_ble_eq_true rfl) (Nat.zero_le _) (Nat.zero_le _) ?_
  refine s_hr0 hG hP hA2.r hr4 hc ?_
  refine pw_if_eq (tgt := 27) dX1_pushResult_9 (by decide) (fun h9 => ?_) (fun h => absurd (by decide) h)
  refine pw_aload_n dX1_pushResult_27 rfl ?_
  refine pw_iconst (v := nI 1) dX1_pushResult_28 (by decide) ?_
  refine pw_callV (as := [_]) (kc' := 0) (ks' := 0) lX1_152 dX1_pushResult_29 rfl rfl (sh_lt hG (by decide)) (sh_tg hG 32 rfl) (Nat.le_of_ble_eq_true rfl) (by omega) (Nat.le_of_ble_eq_true rfl) (Nat.zero_le _) (Nat.zero_le _) ?_
  refine m_fail h (by omega) (e := 1) hx (fun I3 h3 => ?_)
  exact pw_vret dX1_pushResult_32 rfl (k _ h3)

set_option maxRecDepth 20000 in
set_option maxHeartbeats 4000000 in
theorem m_var1 {l : Launch} {E : pmE} {d : Nat} {S : pmS} {I : pmI} {J : pmJ} {P : pmP} {Q : Option Value → pmS → pmI → pmJ → pmP → Prop} {S0 : pmS} {I0 : pmI} {J0 : pmJ} {P0 : pmP} {b0 : Nat} {A : aS} {c i bs s b m : Nat} {w : Int32} {rv : List vV} {fr : List (Nat × Nat × Nat)} {t : List tH} (h : mS S0 I0 J0 P0 b0 A S I J P c w i bs rv fr s t b m) (hd : 3 ≤ d) (hl : rv.length < 401) {Z : Nat → Nat} (hA : cA S0 I0 J0 P0 A Z b0) (hO : aO A) {v : Int64} (hv : v ∈ A.ns) (hf : A.fm v = 1) (k : ∀ I' J', mS S0 I0 J0 P0 b0 A S I' J' P c w i bs (rv ++ [A.va v]) fr s t b m → Q none S I' J' P) : pm_Met l E yX1_pushVariable cX1_pushVariable 2 none d 0 0 [.ref 34, .int (nI (A.ns.idxOf v))] S I J P Q := by
  unfold pm_Met
  have hG := h.hG
  have hP := h.hP
  have hA2 := h.ca hA
  have hr4 := hO.r
  have hk4 := hO.k
  have hn4 := hO.1.2
  have hat := ns_at hv
  have hat2 := hat.2
  have hf3 := fm_le hO v
  refine pm_lvs (lv' := [(0, _), (1, _)]) rfl ?_
  refine pw_aload_n dX1_pushVariable_0 rfl ?_
  refine pw_getR fX1_39 dX1_pushVariable_1 (sh_lt hG (by decide)) (sh_tg hG 32 rfl) rfl (gr_at hP 28 rfl) ?_
  refine pw_getR fX1_172 dX1_pushVariable_4 (sh_lt hG (by decide)) (sh_tg hG 13 rfl) rfl (gr_at hP 15 rfl) ?_
  refine pw_iload_n dX1_pushVariable_7 rfl ?_
  refine pw_callV (as := [_]) (kc' := 0) (ks' := 0) lX1_176 dX1_pushVariable_8 rfl rfl (sh_lt hG (by decide)) (sh_tg hG 14 rfl) (Nat.le_of_ble_eq_true rfl) (by omega) (Nat.le_of_ble_eq_true rfl) (Nat.zero_le _) (Nat.zero_le _) ?_
  refine n_form hG hP (by omega) hA2 hn4 hv ?_
  refine pw_iconst (v := nI 1) dX1_pushVariable_11 (by decide) ?_
  refine pw_icmpN_ne _ _ (tgt := 30) dX1_pushVariable_12 (by decide) (rfl) (rfl) (by omega) (by omega) (fun h12 => absurd h12 (by omega)) (fun h12 => ?_)
  refine pw_aload_n dX1_pushVariable_15 rfl ?_
  refine pw_aload_n dX1_pushVariable_16 rfl ?_
  refine pw_getR fX1_39 dX1_pushVariable_17 (sh_lt hG (by decide)) (sh_tg hG 32 rfl) rfl (gr_at hP 28 rfl) ?_
  refine pw_getR fX1_183 dX1_pushVariable_20 (sh_lt hG (by decide)) (sh_tg hG 13 rfl) rfl (gr_at hP 17 rfl) ?_
  refine pw_iload_n dX1_pushVariable_23 rfl ?_
  refine pw_callV (as := [_, _]) (kc' := 0) (ks' := 0) lX1_122 dX1_pushVariable_24 rfl rfl (sh_lt hG (by decide)) (sh_tg hG 32 rfl) (Nat.le_of_ble_eq_true rfl) (by omega) (Nat.le_of_ble_eq_true rfl) (Nat.zero_le _) (Nat.zero_le _) ?_
  refine m_from27 h (by omega) hl (by omega) ((hA2.nm hv).2.2.2.2 hf) (fun I3 J3 h3 => ?_)
  refine pw_goto (tgt := 35) dX1_pushVariable_27 (by decide) ?_
  exact pw_vret dX1_pushVariable_35 rfl (k _ _ h3)

set_option maxRecDepth 20000 in
set_option maxHeartbeats 4000000 in
theorem m_var0 {l : Launch} {E : pmE} {d : Nat} {S : pmS} {I : pmI} {J : pmJ} {P : pmP} {Q : Option Value → pmS → pmI → pmJ → pmP → Prop} {S0 : pmS} {I0 : pmI} {J0 : pmJ} {P0 : pmP} {b0 : Nat} {A : aS} {c i bs s b m : Nat} {w : Int32} {rv : List vV} {fr : List (Nat × Nat × Nat)} {t : List tH} (h : mS S0 I0 J0 P0 b0 A S I J P c w i bs rv fr s t b m) (hd : 3 ≤ d) {Z : Nat → Nat} (hA : cA S0 I0 J0 P0 A Z b0) (hO : aO A) {L : List dE} (hx : kX S0 I0 J0 P0 b0 c L) {v : Int64} (hv : v ∈ A.ns) (hf : ¬ A.fm v = 1) (k : ∀ I', mE S0 I0 J0 P0 b0 A S I' J P 1 b m → Q none S I' J P) : pm_Met l E yX1_pushVariable cX1_pushVariable 2 none d 0 0 [.ref 34, .int (nI (A.ns.idxOf v))] S I J P Q := by
  unfold pm_Met
  have hG := h.hG
  have hP := h.hP
  have hA2 := h.ca hA
  have hr4 := hO.r
  have hk4 := hO.k
  have hn4 := hO.1.2
  have hat := ns_at hv
  have hat2 := hat.2
  have hf3 := fm_le hO v
  refine pm_lvs (lv' := [(0, _), (1, _)]) rfl ?_
  refine pw_aload_n dX1_pushVariable_0 rfl ?_
  refine pw_getR fX1_39 dX1_pushVariable_1 (sh_lt hG (by decide)) (sh_tg hG 32 rfl) rfl (gr_at hP 28 rfl) ?_
  refine pw_getR fX1_172 dX1_pushVariable_4 (sh_lt hG (by decide)) (sh_tg hG 13 rfl) rfl (gr_at hP 15 rfl) ?_
  refine pw_iload_n dX1_pushVariable_7 rfl ?_
  refine pw_callV (as := [_]) (kc' := 0) (ks' := 0) lX1_176 dX1_pushVariable_8 rfl rfl (sh_lt hG (by decide)) (sh_tg hG 14 rfl) (Nat.le_of_ble_eq_true rfl) (by omega) (Nat.le_of_ble_eq_true rfl) (Nat.zero_le _) (Nat.zero_le _) ?_
  refine n_form hG hP (by omega) hA2 hn4 hv ?_
  refine pw_iconst (v := nI 1) dX1_pushVariable_11 (by decide) ?_
  refine pw_icmpN_ne _ _ (tgt := 30) dX1_pushVariable_12 (by decide) (rfl) (rfl) (by omega) (by omega) (fun h12 => ?_) (fun h12 => absurd h12 (by omega))
  refine pw_aload_n dX1_pushVariable_30 rfl ?_
  refine pw_iconst (v := nI 1) dX1_pushVariable_31 (by decide) ?_
  refine pw_callV (as := [_]) (kc' := 0) (ks' := 0) lX1_152 dX1_pushVariable_32 rfl rfl (sh_lt hG (by decide)) (sh_tg hG 32 rfl) (Nat.le_of_ble_eq_true rfl) (by omega) (Nat.le_of_ble_eq_true rfl) (Nat.zero_le _) (Nat.zero_le _) ?_
  refine m_fail h (by omega) (e := 1) hx (fun I3 h3 => ?_)
  exact pw_vret dX1_pushVariable_35 rfl (k _ h3)

set_option maxRecDepth 20000 in
set_option maxHeartbeats 4000000 in
theorem m_open {l : Launch} {E : pmE} {d : Nat} {S : pmS} {I : pmI} {J : pmJ} {P : pmP} {Q : Option Value → pmS → pmI → pmJ → pmP → Prop} {S0 : pmS} {I0 : pmI} {J0 : pmJ} {P0 : pmP} {b0 : Nat} {A : aS} {c i bs s b m : Nat} {w : Int32} {rv : List vV} {fr : List (Nat × Nat × Nat)} {t : List tH} (h : mS S0 I0 J0 P0 b0 A S I J P c w i bs rv fr s t b m) (hd : 4 ≤ d) {Z : Nat → Nat} (hA : cA S0 I0 J0 P0 A Z b0) (hO : aO A) {L : List dE} (hx : kX S0 I0 J0 P0 b0 c L) {v : Int64} (hv : v ∈ A.ns) {g : Nat} (hg : g ≤ 3) (k1 : ckC A fr.length g v = 0 → Q none S I J P) (k0 : ∀ I', ckC A fr.length g v ≠ 0 → mE S0 I0 J0 P0 b0 A S I' J P (ckC A fr.length g v) b m → Q none S I' J P) : pm_Met l E yX1_openCall cX1_openCall 4 none d 0 0 [.ref 34, .int (nI (A.ns.idxOf v)), .int (nI g)] S I J P Q := by
  unfold pm_Met
  have hG := h.hG
  have hP := h.hP
  have hA2 := h.ca hA
  have hr4 := hO.r
  have hk4 := hO.k
  have hn4 := hO.1.2
  have hat := ns_at hv
  have hat2 := hat.2
  have hf3 := fm_le hO v
  have hfr := h.lm.2.1
  refine pm_lvs (lv' := [(0, _), (1, _), (2, _)]) rfl ?_
  by_cases hc : A.fm v = 2 ∨ A.fm v = 3
  · obtain ⟨s', g1, g2, g3, g4, g5⟩ := hO.2.2.2.1 v (by omega)
    have eb : A.by v = s' := by unfold aS.by; rw [g1]; rfl
    have hS := (hA2.sn g2).2.1
    have hp3 := (hO.2.2.2.2.1 s' g2).2.1
    have ek : ckC A fr.length g v = if (A.at s').pa.length = g then (if A.fm v = 2 ∧ 20 ≤ fr.length then 9 else 0) else 5 := by unfold ckC; rw [if_pos hc, eb]
    refine pw_aload_n dX1_openCall_0 rfl ?_
    refine pw_getR fX1_39 dX1_openCall_1 (sh_lt hG (by decide)) (sh_tg hG 32 rfl) rfl (gr_at hP 28 rfl) ?_
    refine pw_iload_n dX1_openCall_4 rfl ?_
    refine pw_callV (as := [_]) (kc' := 0) (ks' := 0) lX1_186 dX1_openCall_5 rfl rfl (sh_lt hG (by decide)) (sh_tg hG 13 rfl) (Nat.le_of_ble_eq_true rfl) (by omega) (Nat.le_of_ble_eq_true rfl) (Nat.zero_le _) (Nat.zero_le _) ?_
    refine s_call1 hG hP (by omega) hA2 hn4 hv hk4 hc g2 g1 ?_
    refine pw_astore_n (lv' := [(3, _), (0, _), (1, _), (2, _)]) dX1_openCall_8 (by decide) rfl ?_
    refine pw_aload_n dX1_openCall_9 rfl ?_
    refine pw_ifnonnull (tgt := 21) dX1_openCall_10 (by decide) ?_
    refine pw_aload_n dX1_openCall_21 rfl ?_
    refine pw_callV (as := []) (kc' := 0) (ks' := 0) lX1_190 dX1_openCall_22 rfl rfl (by have := hS.1.2; omega) hS.tg (Nat.le_of_ble_eq_true rfl) (by omega) (Nat.le_of_ble_eq_true rfl) (Nat.zero_le _) (Nat.zero_le _) ?_
    refine p_size hS ?_
    refine pw_iload_n dX1_openCall_25 rfl ?_
    refine pw_icmpN_eq _ _ (tgt := 37) dX1_openCall_26 (by decide) (rfl) (rfl) (by omega) (by omega) (fun h26 => ?_) (fun h26 => ?_)
    · refine pw_aload_n dX1_openCall_37 rfl ?_
      refine pw_callV (as := []) (kc' := 0) (ks' := 0) lX1_191 dX1_openCall_38 rfl rfl (by have := hS.1.2; omega) hS.tg (Nat.le_of_ble_eq_true rfl) (by omega) (Nat.le_of_ble_eq_true rfl) (Nat.zero_le _) (Nat.zero_le _) ?_
      refine p_form hS ?_
      refine pw_iconst (v := nI 2) dX1_openCall_41 (by decide) ?_
      refine pw_icmpN_ne _ _ (tgt := 60) dX1_openCall_42 (by decide) (rfl) (rfl) (by omega) (by omega) (fun h42 => ?_) (fun h42 => ?_)
      · exact pw_vret dX1_openCall_60 rfl (k1 (by rw [ek, if_pos h26, if_neg (fun q => h42 (by omega))]))
      · refine pw_aload_n dX1_openCall_45 rfl ?_
        refine pw_getI fX1_85 dX1_openCall_46 (sh_lt hG (by decide)) (sh_tg hG 32 rfl) rfl ?_
        refine pw_bipush (v := nI 20) dX1_openCall_49 (by decide) ?_
        refine pw_icmpN_lt _ _ (tgt := 60) dX1_openCall_51 (by decide) (h.mb) (rfl) (by omega) (by omega) (fun h51 => ?_) (fun h51 => ?_)
        · exact pw_vret dX1_openCall_60 rfl (k1 (by rw [ek, if_pos h26, if_neg (fun q => by omega)]))
        · refine pw_aload_n dX1_openCall_54 rfl ?_
          refine pw_bipush (v := nI 9) dX1_openCall_55 (by decide) ?_
          refine pw_callV (as := [_]) (kc' := 0) (ks' := 0) lX1_152 dX1_openCall_57 rfl rfl (sh_lt hG (by decide)) (sh_tg hG 32 rfl) (Nat.le_of_ble_eq_true rfl) (by omega) (Nat.le_of_ble_eq_true rfl) (Nat.zero_le _) (Nat.zero_le _) ?_
          refine m_fail h (by omega) (e := 9) hx (fun I3 h3 => ?_)
          exact pw_vret dX1_openCall_60 rfl (k0 _ (by rw [ek, if_pos h26, if_pos ⟨by omega, by omega⟩]; decide) (by rw [ek, if_pos h26, if_pos ⟨by omega, by omega⟩]; exact h3))
    · refine pw_aload_n dX1_openCall_29 rfl ?_
      refine pw_iconst (v := nI 5) dX1_openCall_30 (by decide) ?_
      refine pw_callV (as := [_]) (kc' := 0) (ks' := 0) lX1_152 dX1_openCall_31 rfl rfl (sh_lt hG (by decide)) (sh_tg hG 32 rfl) (Nat.le_of_ble_eq_true rfl) (by omega) (Nat.le_of_ble_eq_true rfl) (Nat.zero_le _) (Nat.zero_le _) ?_
      refine m_fail h (by omega) (e := 5) hx (fun I3 h3 => ?_)
      refine pw_goto (tgt := 60) dX1_openCall_34 (by decide) ?_
      exact pw_vret dX1_openCall_60 rfl (k0 _ (by rw [ek, if_neg h26]; decide) (by rw [ek, if_neg h26]; exact h3))
  · have ek : ckC A fr.length g v = 1 := by unfold ckC; rw [if_neg hc]
    refine pw_aload_n dX1_openCall_0 rfl ?_
    refine pw_getR fX1_39 dX1_openCall_1 (sh_lt hG (by decide)) (sh_tg hG 32 rfl) rfl (gr_at hP 28 rfl) ?_
    refine pw_iload_n dX1_openCall_4 rfl ?_
    refine pw_callV (as := [_]) (kc' := 0) (ks' := 0) lX1_186 dX1_openCall_5 rfl rfl (sh_lt hG (by decide)) (sh_tg hG 13 rfl) (Nat.le_of_ble_eq_true rfl) (by omega) (Nat.le_of_ble_eq_true rfl) (Nat.zero_le _) (Nat.zero_le _) ?_
    refine s_call0 hG hP (by omega) hA2 hn4 hv hf3 hc ?_
    refine pw_astore_nN (lv' := [(3, _), (0, _), (1, _), (2, _)]) dX1_openCall_8 (by decide) rfl ?_
    refine pw_aload_nN dX1_openCall_9 rfl ?_
    refine pw_ifnonnullN dX1_openCall_10 ?_
    refine pw_aload_n dX1_openCall_13 rfl ?_
    refine pw_iconst (v := nI 1) dX1_openCall_14 (by decide) ?_
    refine pw_callV (as := [_]) (kc' := 0) (ks' := 0) lX1_152 dX1_openCall_15 rfl rfl (sh_lt hG (by decide)) (sh_tg hG 32 rfl) (Nat.le_of_ble_eq_true rfl) (by omega) (Nat.le_of_ble_eq_true rfl) (Nat.zero_le _) (Nat.zero_le _) ?_
    refine m_fail h (by omega) (e := 1) hx (fun I3 h3 => ?_)
    refine pw_goto (tgt := 60) dX1_openCall_18 (by decide) ?_
    exact pw_vret dX1_openCall_60 rfl (k0 _ (by rw [ek]; decide) (by rw [ek]; exact h3))
set_option maxRecDepth 20000 in
set_option maxHeartbeats 4000000 in
theorem dn_begin {l : Launch} {E : pmE} {d : Nat} {S : pmS} {I : pmI} {J : pmJ} {P : pmP} {Q : Option Value → pmS → pmI → pmJ → pmP → Prop} {S0 : pmS} {I0 : pmI} {J0 : pmJ} {P0 : pmP} {b0 : Nat} {A : aS} {c i bs s b m : Nat} {w : Int32} {rv : List vV} {fr : List (Nat × Nat × Nat)} {t : List tH} (h : mS S0 I0 J0 P0 b0 A S I J P c w i bs rv fr s t b m) (hd : 6 ≤ d) {L : List dE} (hx : kX S0 I0 J0 P0 b0 c L) (hi : L[i]? = some (1, 0, 0)) (hs4 : s ≤ 400) (hrs : rv.length ≤ s)  (k1 : s < 400 → ∀ I', mS S0 I0 J0 P0 b0 A S I' J P c (nI i) (i + 1) bs rv fr (s + 1) t b m → Q none S I' J P) (k0 : 400 ≤ s → ∀ I', mE S0 I0 J0 P0 b0 A S I' J P 8 b m → Q none S I' J P) : pm_Met l E yX1_doNext cX1_doNext 2 none d 0 0 [.ref 34] S I J P Q := by
  have hG := h.hG
  have hP := h.hP
  refine m_dn h (by omega) hx hi (kk := 1) rfl (fun I1 h1 => ?_)
  refine pw_iload_n dX1_doNext_30 rfl ?_
  refine pw_bipush (v := nI 7) dX1_doNext_31 (by decide) ?_
  refine pw_icmp_ge (tgt := 44) dX1_doNext_33 (by decide) (fun h => absurd h (by decide)) (fun h33 => ?_)
  refine pw_aload_n dX1_doNext_36 rfl ?_
  refine pw_callV (as := []) (kc' := 0) (ks' := 0) lX1_107 dX1_doNext_37 rfl rfl (sh_lt hG (by decide)) (sh_tg hG 32 rfl) (Nat.le_of_ble_eq_true rfl) (by omega) (Nat.le_of_ble_eq_true rfl) (Nat.zero_le _) (Nat.zero_le _) ?_
  refine m_step h1 (by omega) hs4 hx (fun hlt I2 h2 => ?_) (fun hge I2 h2 => ?_)
  · obtain ⟨rm, hk2⟩ := hx.now h2
    refine pw_if_ne (tgt := 44) dX1_doNext_40 (by decide) (fun h40 => ?_) (fun h => absurd h (by decide))
    refine pw_iload_n dX1_doNext_44 rfl ?_
    refine pw_tableIn (off := 67) (tgt := 112) dX1_doNext_45 (by decide) (by decide) (by decide) (by decide) ?_
    refine pw_goto (tgt := 345) dX1_doNext_112 (by decide) ?_
    exact pw_vret dX1_doNext_345 rfl (k1 hlt _ h2)
  · refine pw_if_ne (tgt := 44) dX1_doNext_40 (by decide) (fun h => absurd (by decide) h) (fun h40 => ?_)
    exact pw_vret dX1_doNext_43 rfl (k0 hge _ h2)
set_option maxRecDepth 20000 in
set_option maxHeartbeats 4000000 in
theorem dn_num {l : Launch} {E : pmE} {d : Nat} {S : pmS} {I : pmI} {J : pmJ} {P : pmP} {Q : Option Value → pmS → pmI → pmJ → pmP → Prop} {S0 : pmS} {I0 : pmI} {J0 : pmJ} {P0 : pmP} {b0 : Nat} {A : aS} {c i bs s b m : Nat} {w : Int32} {rv : List vV} {fr : List (Nat × Nat × Nat)} {t : List tH} (h : mS S0 I0 J0 P0 b0 A S I J P c w i bs rv fr s t b m) (hd : 6 ≤ d) {L : List dE} (hx : kX S0 I0 J0 P0 b0 c L) {x : Int64} (hi : L[i]? = some (2, 0, x)) (hs4 : s ≤ 400) (hrs : rv.length ≤ s)  (k1 : s < 400 → ∀ I' J', mS S0 I0 J0 P0 b0 A S I' J' P c (nI i) (i + 1) bs (rv ++ [(1, x)]) fr (s + 1) t b m → Q none S I' J' P) (k0 : 400 ≤ s → ∀ I', mE S0 I0 J0 P0 b0 A S I' J P 8 b m → Q none S I' J P) : pm_Met l E yX1_doNext cX1_doNext 2 none d 0 0 [.ref 34] S I J P Q := by
  have hG := h.hG
  have hP := h.hP
  refine m_dn h (by omega) hx hi (kk := 2) rfl (fun I1 h1 => ?_)
  refine pw_iload_n dX1_doNext_30 rfl ?_
  refine pw_bipush (v := nI 7) dX1_doNext_31 (by decide) ?_
  refine pw_icmp_ge (tgt := 44) dX1_doNext_33 (by decide) (fun h => absurd h (by decide)) (fun h33 => ?_)
  refine pw_aload_n dX1_doNext_36 rfl ?_
  refine pw_callV (as := []) (kc' := 0) (ks' := 0) lX1_107 dX1_doNext_37 rfl rfl (sh_lt hG (by decide)) (sh_tg hG 32 rfl) (Nat.le_of_ble_eq_true rfl) (by omega) (Nat.le_of_ble_eq_true rfl) (Nat.zero_le _) (Nat.zero_le _) ?_
  refine m_step h1 (by omega) hs4 hx (fun hlt I2 h2 => ?_) (fun hge I2 h2 => ?_)
  · obtain ⟨rm, hk2⟩ := hx.now h2
    refine pw_if_ne (tgt := 44) dX1_doNext_40 (by decide) (fun h40 => ?_) (fun h => absurd h (by decide))
    refine pw_iload_n dX1_doNext_44 rfl ?_
    refine pw_tableIn (off := 70) (tgt := 115) dX1_doNext_45 (by decide) (by decide) (by decide) (by decide) ?_
    refine pw_aload_n dX1_doNext_115 rfl ?_
    refine pw_iconst (v := nI 1) dX1_doNext_116 (by decide) ?_
    refine pw_aload_n dX1_doNext_117 rfl ?_
    refine pw_getR fX1_35 dX1_doNext_118 (sh_lt hG (by decide)) (sh_tg hG 32 rfl) rfl h2.cd ?_
    refine pw_aload_n dX1_doNext_121 rfl ?_
    refine pw_getI fX1_101 dX1_doNext_122 (sh_lt hG (by decide)) (sh_tg hG 32 rfl) rfl ?_
    refine pw_ti (z := nI i) h2.w' ?_
    refine pw_callV (as := [_]) (kc' := 0) (ks' := 0) lX1_111 dX1_doNext_125 rfl rfl (by have := hk2.1.2; omega) hk2.2.1 (Nat.le_of_ble_eq_true rfl) (by omega) (Nat.le_of_ble_eq_true rfl) (Nat.zero_le _) (Nat.zero_le _) ?_
    refine k_core hk2 hi (show (2 : Nat) ≠ 1 by decide) ?_
    refine pw_callV (as := [_, _]) (kc' := 0) (ks' := 0) lX1_112 dX1_doNext_128 rfl rfl (sh_lt hG (by decide)) (sh_tg hG 32 rfl) (Nat.le_of_ble_eq_true rfl) (by omega) (Nat.le_of_ble_eq_true rfl) (Nat.zero_le _) (Nat.zero_le _) ?_
    refine m_push h2 (by omega) (v := (1, x)) (by omega) (fun I3 J3 h3 => ?_)
    refine pw_goto (tgt := 345) dX1_doNext_131 (by decide) ?_
    exact pw_vret dX1_doNext_345 rfl (k1 hlt _ _ h3)
  · refine pw_if_ne (tgt := 44) dX1_doNext_40 (by decide) (fun h => absurd (by decide) h) (fun h40 => ?_)
    exact pw_vret dX1_doNext_43 rfl (k0 hge _ h2)
set_option maxRecDepth 20000 in
set_option maxHeartbeats 4000000 in
theorem dn_res1 {l : Launch} {E : pmE} {d : Nat} {S : pmS} {I : pmI} {J : pmJ} {P : pmP} {Q : Option Value → pmS → pmI → pmJ → pmP → Prop} {S0 : pmS} {I0 : pmI} {J0 : pmJ} {P0 : pmP} {b0 : Nat} {A : aS} {c i bs s b m : Nat} {w : Int32} {rv : List vV} {fr : List (Nat × Nat × Nat)} {t : List tH} (h : mS S0 I0 J0 P0 b0 A S I J P c w i bs rv fr s t b m) (hd : 6 ≤ d) {L : List dE} (hx : kX S0 I0 J0 P0 b0 c L) {j : Nat} (hi : L[i]? = some (3, nI (j + 1), 0)) (hs4 : s ≤ 400) (hrs : rv.length ≤ s) {Z : Nat → Nat} (hA : cA S0 I0 J0 P0 A Z b0) (hO : aO A) {v : vV} (hj : A.rs[j]? = some v) (k1 : s < 400 → ∀ I' J', mS S0 I0 J0 P0 b0 A S I' J' P c (nI i) (i + 1) bs (rv ++ [v]) fr (s + 1) t b m → Q none S I' J' P) (k0 : 400 ≤ s → ∀ I', mE S0 I0 J0 P0 b0 A S I' J P 8 b m → Q none S I' J P) : pm_Met l E yX1_doNext cX1_doNext 2 none d 0 0 [.ref 34] S I J P Q := by
  have hG := h.hG
  have hP := h.hP
  refine m_dn h (by omega) hx hi (kk := 3) rfl (fun I1 h1 => ?_)
  refine pw_iload_n dX1_doNext_30 rfl ?_
  refine pw_bipush (v := nI 7) dX1_doNext_31 (by decide) ?_
  refine pw_icmp_ge (tgt := 44) dX1_doNext_33 (by decide) (fun h => absurd h (by decide)) (fun h33 => ?_)
  refine pw_aload_n dX1_doNext_36 rfl ?_
  refine pw_callV (as := []) (kc' := 0) (ks' := 0) lX1_107 dX1_doNext_37 rfl rfl (sh_lt hG (by decide)) (sh_tg hG 32 rfl) (Nat.le_of_ble_eq_true rfl) (by omega) (Nat.le_of_ble_eq_true rfl) (Nat.zero_le _) (Nat.zero_le _) ?_
  refine m_step h1 (by omega) hs4 hx (fun hlt I2 h2 => ?_) (fun hge I2 h2 => ?_)
  · obtain ⟨rm, hk2⟩ := hx.now h2
    refine pw_if_ne (tgt := 44) dX1_doNext_40 (by decide) (fun h40 => ?_) (fun h => absurd h (by decide))
    refine pw_iload_n dX1_doNext_44 rfl ?_
    refine pw_tableIn (off := 89) (tgt := 134) dX1_doNext_45 (by decide) (by decide) (by decide) (by decide) ?_
    refine pw_aload_n dX1_doNext_134 rfl ?_
    refine pw_aload_n dX1_doNext_135 rfl ?_
    refine pw_getR fX1_35 dX1_doNext_136 (sh_lt hG (by decide)) (sh_tg hG 32 rfl) rfl h2.cd ?_
    refine pw_aload_n dX1_doNext_139 rfl ?_
    refine pw_getI fX1_101 dX1_doNext_140 (sh_lt hG (by decide)) (sh_tg hG 32 rfl) rfl ?_
    refine pw_ti (z := nI i) h2.w' ?_
    refine pw_callV (as := [_]) (kc' := 0) (ks' := 0) lX1_116 dX1_doNext_143 rfl rfl (by have := hk2.1.2; omega) hk2.2.1 (Nat.le_of_ble_eq_true rfl) (by omega) (Nat.le_of_ble_eq_true rfl) (Nat.zero_le _) (Nat.zero_le _) ?_
    refine k_count hk2 hi (show (3 : Nat) ≠ 1 by decide) ?_
    refine pw_callV (as := [_]) (kc' := 0) (ks' := 0) lX1_119 dX1_doNext_146 rfl rfl (sh_lt hG (by decide)) (sh_tg hG 32 rfl) (Nat.le_of_ble_eq_true rfl) (by omega) (Nat.le_of_ble_eq_true rfl) (Nat.zero_le _) (Nat.zero_le _) ?_
    refine m_res1 h2 (by omega) (by omega) hA hO hj (fun I3 J3 h3 => ?_)
    refine pw_goto (tgt := 345) dX1_doNext_149 (by decide) ?_
    exact pw_vret dX1_doNext_345 rfl (k1 hlt _ _ h3)
  · refine pw_if_ne (tgt := 44) dX1_doNext_40 (by decide) (fun h => absurd (by decide) h) (fun h40 => ?_)
    exact pw_vret dX1_doNext_43 rfl (k0 hge _ h2)
set_option maxRecDepth 20000 in
set_option maxHeartbeats 4000000 in
theorem dn_res0 {l : Launch} {E : pmE} {d : Nat} {S : pmS} {I : pmI} {J : pmJ} {P : pmP} {Q : Option Value → pmS → pmI → pmJ → pmP → Prop} {S0 : pmS} {I0 : pmI} {J0 : pmJ} {P0 : pmP} {b0 : Nat} {A : aS} {c i bs s b m : Nat} {w : Int32} {rv : List vV} {fr : List (Nat × Nat × Nat)} {t : List tH} (h : mS S0 I0 J0 P0 b0 A S I J P c w i bs rv fr s t b m) (hd : 6 ≤ d) {L : List dE} (hx : kX S0 I0 J0 P0 b0 c L) {c9 : Int32} (hi : L[i]? = some (3, c9, 0)) (hs4 : s ≤ 400) (hrs : rv.length ≤ s) {Z : Nat → Nat} (hA : cA S0 I0 J0 P0 A Z b0) (hO : aO A) (hc : ¬ (1 ≤ c9.toInt ∧ c9.toInt ≤ (A.rs.length : Int))) (k1 : s < 400 → ∀ I', mE S0 I0 J0 P0 b0 A S I' J P 1 b m → Q none S I' J P) (k0 : 400 ≤ s → ∀ I', mE S0 I0 J0 P0 b0 A S I' J P 8 b m → Q none S I' J P) : pm_Met l E yX1_doNext cX1_doNext 2 none d 0 0 [.ref 34] S I J P Q := by
  have hG := h.hG
  have hP := h.hP
  refine m_dn h (by omega) hx hi (kk := 3) rfl (fun I1 h1 => ?_)
  refine pw_iload_n dX1_doNext_30 rfl ?_
  refine pw_bipush (v := nI 7) dX1_doNext_31 (by decide) ?_
  refine pw_icmp_ge (tgt := 44) dX1_doNext_33 (by decide) (fun h => absurd h (by decide)) (fun h33 => ?_)
  refine pw_aload_n dX1_doNext_36 rfl ?_
  refine pw_callV (as := []) (kc' := 0) (ks' := 0) lX1_107 dX1_doNext_37 rfl rfl (sh_lt hG (by decide)) (sh_tg hG 32 rfl) (Nat.le_of_ble_eq_true rfl) (by omega) (Nat.le_of_ble_eq_true rfl) (Nat.zero_le _) (Nat.zero_le _) ?_
  refine m_step h1 (by omega) hs4 hx (fun hlt I2 h2 => ?_) (fun hge I2 h2 => ?_)
  · obtain ⟨rm, hk2⟩ := hx.now h2
    refine pw_if_ne (tgt := 44) dX1_doNext_40 (by decide) (fun h40 => ?_) (fun h => absurd h (by decide))
    refine pw_iload_n dX1_doNext_44 rfl ?_
    refine pw_tableIn (off := 89) (tgt := 134) dX1_doNext_45 (by decide) (by decide) (by decide) (by decide) ?_
    refine pw_aload_n dX1_doNext_134 rfl ?_
    refine pw_aload_n dX1_doNext_135 rfl ?_
    refine pw_getR fX1_35 dX1_doNext_136 (sh_lt hG (by decide)) (sh_tg hG 32 rfl) rfl h2.cd ?_
    refine pw_aload_n dX1_doNext_139 rfl ?_
    refine pw_getI fX1_101 dX1_doNext_140 (sh_lt hG (by decide)) (sh_tg hG 32 rfl) rfl ?_
    refine pw_ti (z := nI i) h2.w' ?_
    refine pw_callV (as := [_]) (kc' := 0) (ks' := 0) lX1_116 dX1_doNext_143 rfl rfl (by have := hk2.1.2; omega) hk2.2.1 (Nat.le_of_ble_eq_true rfl) (by omega) (Nat.le_of_ble_eq_true rfl) (Nat.zero_le _) (Nat.zero_le _) ?_
    refine k_count hk2 hi (show (3 : Nat) ≠ 1 by decide) ?_
    refine pw_callV (as := [_]) (kc' := 0) (ks' := 0) lX1_119 dX1_doNext_146 rfl rfl (sh_lt hG (by decide)) (sh_tg hG 32 rfl) (Nat.le_of_ble_eq_true rfl) (by omega) (Nat.le_of_ble_eq_true rfl) (Nat.zero_le _) (Nat.zero_le _) ?_
    refine m_res0 h2 (by omega) hA hO hx hc (fun I3 h3 => ?_)
    refine pw_goto (tgt := 345) dX1_doNext_149 (by decide) ?_
    exact pw_vret dX1_doNext_345 rfl (k1 hlt _ h3)
  · refine pw_if_ne (tgt := 44) dX1_doNext_40 (by decide) (fun h => absurd (by decide) h) (fun h40 => ?_)
    exact pw_vret dX1_doNext_43 rfl (k0 hge _ h2)
set_option maxRecDepth 20000 in
set_option maxHeartbeats 4000000 in
theorem dn_arg {l : Launch} {E : pmE} {d : Nat} {S : pmS} {I : pmI} {J : pmJ} {P : pmP} {Q : Option Value → pmS → pmI → pmJ → pmP → Prop} {S0 : pmS} {I0 : pmI} {J0 : pmJ} {P0 : pmP} {b0 : Nat} {A : aS} {c i bs s b m : Nat} {w : Int32} {rv : List vV} {fr : List (Nat × Nat × Nat)} {t : List tH} (h : mS S0 I0 J0 P0 b0 A S I J P c w i bs rv fr s t b m) (hd : 6 ≤ d) {L : List dE} (hx : kX S0 I0 J0 P0 b0 c L) {j : Nat} (hi : L[i]? = some (4, nI j, 0)) (hs4 : s ≤ 400) (hrs : rv.length ≤ s) {v : vV} (hj : rv[bs + j]? = some v) (k1 : s < 400 → ∀ I' J', mS S0 I0 J0 P0 b0 A S I' J' P c (nI i) (i + 1) bs (rv ++ [v]) fr (s + 1) t b m → Q none S I' J' P) (k0 : 400 ≤ s → ∀ I', mE S0 I0 J0 P0 b0 A S I' J P 8 b m → Q none S I' J P) : pm_Met l E yX1_doNext cX1_doNext 2 none d 0 0 [.ref 34] S I J P Q := by
  have hG := h.hG
  have hP := h.hP
  have hjl := (List.getElem?_eq_some_iff.mp hj).1
  refine m_dn h (by omega) hx hi (kk := 4) rfl (fun I1 h1 => ?_)
  refine pw_iload_n dX1_doNext_30 rfl ?_
  refine pw_bipush (v := nI 7) dX1_doNext_31 (by decide) ?_
  refine pw_icmp_ge (tgt := 44) dX1_doNext_33 (by decide) (fun h => absurd h (by decide)) (fun h33 => ?_)
  refine pw_aload_n dX1_doNext_36 rfl ?_
  refine pw_callV (as := []) (kc' := 0) (ks' := 0) lX1_107 dX1_doNext_37 rfl rfl (sh_lt hG (by decide)) (sh_tg hG 32 rfl) (Nat.le_of_ble_eq_true rfl) (by omega) (Nat.le_of_ble_eq_true rfl) (Nat.zero_le _) (Nat.zero_le _) ?_
  refine m_step h1 (by omega) hs4 hx (fun hlt I2 h2 => ?_) (fun hge I2 h2 => ?_)
  · obtain ⟨rm, hk2⟩ := hx.now h2
    refine pw_if_ne (tgt := 44) dX1_doNext_40 (by decide) (fun h40 => ?_) (fun h => absurd h (by decide))
    refine pw_iload_n dX1_doNext_44 rfl ?_
    refine pw_tableIn (off := 107) (tgt := 152) dX1_doNext_45 (by decide) (by decide) (by decide) (by decide) ?_
    refine pw_aload_n dX1_doNext_152 rfl ?_
    refine pw_aload_n dX1_doNext_153 rfl ?_
    refine pw_getR fX1_14 dX1_doNext_154 (sh_lt hG (by decide)) (sh_tg hG 32 rfl) rfl (gr_at hP 29 rfl) ?_
    refine pw_aload_n dX1_doNext_157 rfl ?_
    refine pw_getI fX1_82 dX1_doNext_158 (sh_lt hG (by decide)) (sh_tg hG 32 rfl) rfl ?_
    refine pw_aload_n dX1_doNext_161 rfl ?_
    refine pw_getR fX1_35 dX1_doNext_162 (sh_lt hG (by decide)) (sh_tg hG 32 rfl) rfl h2.cd ?_
    refine pw_aload_n dX1_doNext_165 rfl ?_
    refine pw_getI fX1_101 dX1_doNext_166 (sh_lt hG (by decide)) (sh_tg hG 32 rfl) rfl ?_
    refine pw_ti (z := nI i) h2.w' ?_
    refine pw_callV (as := [_]) (kc' := 0) (ks' := 0) lX1_116 dX1_doNext_169 rfl rfl (by have := hk2.1.2; omega) hk2.2.1 (Nat.le_of_ble_eq_true rfl) (by omega) (Nat.le_of_ble_eq_true rfl) (Nat.zero_le _) (Nat.zero_le _) ?_
    refine k_count hk2 hi (show (4 : Nat) ≠ 1 by decide) ?_
    refine pw_iadd dX1_doNext_172 ?_
    refine pw_ti (z := nI (bs + j)) (by rw [h2.bs']; exact nI_add _ _) ?_
    refine pw_callV (as := [_, _]) (kc' := 0) (ks' := 0) lX1_122 dX1_doNext_173 rfl rfl (sh_lt hG (by decide)) (sh_tg hG 32 rfl) (Nat.le_of_ble_eq_true rfl) (by omega) (Nat.le_of_ble_eq_true rfl) (Nat.zero_le _) (Nat.zero_le _) ?_
    refine m_from35 h2 (by omega) (by omega) (by omega) (h2.row _ v hj) (fun I3 J3 h3 => ?_)
    refine pw_goto (tgt := 345) dX1_doNext_176 (by decide) ?_
    exact pw_vret dX1_doNext_345 rfl (k1 hlt _ _ h3)
  · refine pw_if_ne (tgt := 44) dX1_doNext_40 (by decide) (fun h => absurd (by decide) h) (fun h40 => ?_)
    exact pw_vret dX1_doNext_43 rfl (k0 hge _ h2)
set_option maxRecDepth 20000 in
set_option maxHeartbeats 4000000 in
theorem dn_var1 {l : Launch} {E : pmE} {d : Nat} {S : pmS} {I : pmI} {J : pmJ} {P : pmP} {Q : Option Value → pmS → pmI → pmJ → pmP → Prop} {S0 : pmS} {I0 : pmI} {J0 : pmJ} {P0 : pmP} {b0 : Nat} {A : aS} {c i bs s b m : Nat} {w : Int32} {rv : List vV} {fr : List (Nat × Nat × Nat)} {t : List tH} (h : mS S0 I0 J0 P0 b0 A S I J P c w i bs rv fr s t b m) (hd : 6 ≤ d) {L : List dE} (hx : kX S0 I0 J0 P0 b0 c L) {v : Int64} (hi : L[i]? = some (5, 0, hN A.ns v)) (hs4 : s ≤ 400) (hrs : rv.length ≤ s) {Z : Nat → Nat} (hA : cA S0 I0 J0 P0 A Z b0) (hO : aO A) (hv : v ∈ A.ns) (hf : A.fm v = 1) (k1 : s < 400 → ∀ I' J', mS S0 I0 J0 P0 b0 A S I' J' P c (nI i) (i + 1) bs (rv ++ [A.va v]) fr (s + 1) t b m → Q none S I' J' P) (k0 : 400 ≤ s → ∀ I', mE S0 I0 J0 P0 b0 A S I' J P 8 b m → Q none S I' J P) : pm_Met l E yX1_doNext cX1_doNext 2 none d 0 0 [.ref 34] S I J P Q := by
  have hG := h.hG
  have hP := h.hP
  refine m_dn h (by omega) hx hi (kk := 5) rfl (fun I1 h1 => ?_)
  refine pw_iload_n dX1_doNext_30 rfl ?_
  refine pw_bipush (v := nI 7) dX1_doNext_31 (by decide) ?_
  refine pw_icmp_ge (tgt := 44) dX1_doNext_33 (by decide) (fun h => absurd h (by decide)) (fun h33 => ?_)
  refine pw_aload_n dX1_doNext_36 rfl ?_
  refine pw_callV (as := []) (kc' := 0) (ks' := 0) lX1_107 dX1_doNext_37 rfl rfl (sh_lt hG (by decide)) (sh_tg hG 32 rfl) (Nat.le_of_ble_eq_true rfl) (by omega) (Nat.le_of_ble_eq_true rfl) (Nat.zero_le _) (Nat.zero_le _) ?_
  refine m_step h1 (by omega) hs4 hx (fun hlt I2 h2 => ?_) (fun hge I2 h2 => ?_)
  · obtain ⟨rm, hk2⟩ := hx.now h2
    refine pw_if_ne (tgt := 44) dX1_doNext_40 (by decide) (fun h40 => ?_) (fun h => absurd h (by decide))
    refine pw_iload_n dX1_doNext_44 rfl ?_
    refine pw_tableIn (off := 134) (tgt := 179) dX1_doNext_45 (by decide) (by decide) (by decide) (by decide) ?_
    refine pw_aload_n dX1_doNext_179 rfl ?_
    refine pw_aload_n dX1_doNext_180 rfl ?_
    refine pw_getR fX1_35 dX1_doNext_181 (sh_lt hG (by decide)) (sh_tg hG 32 rfl) rfl h2.cd ?_
    refine pw_aload_n dX1_doNext_184 rfl ?_
    refine pw_getI fX1_101 dX1_doNext_185 (sh_lt hG (by decide)) (sh_tg hG 32 rfl) rfl ?_
    refine pw_ti (z := nI i) h2.w' ?_
    refine pw_callV (as := [_]) (kc' := 0) (ks' := 0) lX1_111 dX1_doNext_188 rfl rfl (by have := hk2.1.2; omega) hk2.2.1 (Nat.le_of_ble_eq_true rfl) (by omega) (Nat.le_of_ble_eq_true rfl) (Nat.zero_le _) (Nat.zero_le _) ?_
    refine k_core hk2 hi (show (5 : Nat) ≠ 1 by decide) ?_
    refine pw_l2i dX1_doNext_191 ?_
    refine pw_ti (z := nI (A.ns.idxOf v)) (lN_i _) ?_
    refine pw_callV (as := [_]) (kc' := 0) (ks' := 0) lX1_126 dX1_doNext_192 rfl rfl (sh_lt hG (by decide)) (sh_tg hG 32 rfl) (Nat.le_of_ble_eq_true rfl) (by omega) (Nat.le_of_ble_eq_true rfl) (Nat.zero_le _) (Nat.zero_le _) ?_
    refine m_var1 h2 (by omega) (by omega) hA hO hv hf (fun I3 J3 h3 => ?_)
    refine pw_goto (tgt := 345) dX1_doNext_195 (by decide) ?_
    exact pw_vret dX1_doNext_345 rfl (k1 hlt _ _ h3)
  · refine pw_if_ne (tgt := 44) dX1_doNext_40 (by decide) (fun h => absurd (by decide) h) (fun h40 => ?_)
    exact pw_vret dX1_doNext_43 rfl (k0 hge _ h2)
set_option maxRecDepth 20000 in
set_option maxHeartbeats 4000000 in
theorem dn_var0 {l : Launch} {E : pmE} {d : Nat} {S : pmS} {I : pmI} {J : pmJ} {P : pmP} {Q : Option Value → pmS → pmI → pmJ → pmP → Prop} {S0 : pmS} {I0 : pmI} {J0 : pmJ} {P0 : pmP} {b0 : Nat} {A : aS} {c i bs s b m : Nat} {w : Int32} {rv : List vV} {fr : List (Nat × Nat × Nat)} {t : List tH} (h : mS S0 I0 J0 P0 b0 A S I J P c w i bs rv fr s t b m) (hd : 6 ≤ d) {L : List dE} (hx : kX S0 I0 J0 P0 b0 c L) {v : Int64} (hi : L[i]? = some (5, 0, hN A.ns v)) (hs4 : s ≤ 400) (hrs : rv.length ≤ s) {Z : Nat → Nat} (hA : cA S0 I0 J0 P0 A Z b0) (hO : aO A) (hv : v ∈ A.ns) (hf : ¬ A.fm v = 1) (k1 : s < 400 → ∀ I', mE S0 I0 J0 P0 b0 A S I' J P 1 b m → Q none S I' J P) (k0 : 400 ≤ s → ∀ I', mE S0 I0 J0 P0 b0 A S I' J P 8 b m → Q none S I' J P) : pm_Met l E yX1_doNext cX1_doNext 2 none d 0 0 [.ref 34] S I J P Q := by
  have hG := h.hG
  have hP := h.hP
  refine m_dn h (by omega) hx hi (kk := 5) rfl (fun I1 h1 => ?_)
  refine pw_iload_n dX1_doNext_30 rfl ?_
  refine pw_bipush (v := nI 7) dX1_doNext_31 (by decide) ?_
  refine pw_icmp_ge (tgt := 44) dX1_doNext_33 (by decide) (fun h => absurd h (by decide)) (fun h33 => ?_)
  refine pw_aload_n dX1_doNext_36 rfl ?_
  refine pw_callV (as := []) (kc' := 0) (ks' := 0) lX1_107 dX1_doNext_37 rfl rfl (sh_lt hG (by decide)) (sh_tg hG 32 rfl) (Nat.le_of_ble_eq_true rfl) (by omega) (Nat.le_of_ble_eq_true rfl) (Nat.zero_le _) (Nat.zero_le _) ?_
  refine m_step h1 (by omega) hs4 hx (fun hlt I2 h2 => ?_) (fun hge I2 h2 => ?_)
  · obtain ⟨rm, hk2⟩ := hx.now h2
    refine pw_if_ne (tgt := 44) dX1_doNext_40 (by decide) (fun h40 => ?_) (fun h => absurd h (by decide))
    refine pw_iload_n dX1_doNext_44 rfl ?_
    refine pw_tableIn (off := 134) (tgt := 179) dX1_doNext_45 (by decide) (by decide) (by decide) (by decide) ?_
    refine pw_aload_n dX1_doNext_179 rfl ?_
    refine pw_aload_n dX1_doNext_180 rfl ?_
    refine pw_getR fX1_35 dX1_doNext_181 (sh_lt hG (by decide)) (sh_tg hG 32 rfl) rfl h2.cd ?_
    refine pw_aload_n dX1_doNext_184 rfl ?_
    refine pw_getI fX1_101 dX1_doNext_185 (sh_lt hG (by decide)) (sh_tg hG 32 rfl) rfl ?_
    refine pw_ti (z := nI i) h2.w' ?_
    refine pw_callV (as := [_]) (kc' := 0) (ks' := 0) lX1_111 dX1_doNext_188 rfl rfl (by have := hk2.1.2; omega) hk2.2.1 (Nat.le_of_ble_eq_true rfl) (by omega) (Nat.le_of_ble_eq_true rfl) (Nat.zero_le _) (Nat.zero_le _) ?_
    refine k_core hk2 hi (show (5 : Nat) ≠ 1 by decide) ?_
    refine pw_l2i dX1_doNext_191 ?_
    refine pw_ti (z := nI (A.ns.idxOf v)) (lN_i _) ?_
    refine pw_callV (as := [_]) (kc' := 0) (ks' := 0) lX1_126 dX1_doNext_192 rfl rfl (sh_lt hG (by decide)) (sh_tg hG 32 rfl) (Nat.le_of_ble_eq_true rfl) (by omega) (Nat.le_of_ble_eq_true rfl) (Nat.zero_le _) (Nat.zero_le _) ?_
    refine m_var0 h2 (by omega) hA hO hx hv hf (fun I3 h3 => ?_)
    refine pw_goto (tgt := 345) dX1_doNext_195 (by decide) ?_
    exact pw_vret dX1_doNext_345 rfl (k1 hlt _ h3)
  · refine pw_if_ne (tgt := 44) dX1_doNext_40 (by decide) (fun h => absurd (by decide) h) (fun h40 => ?_)
    exact pw_vret dX1_doNext_43 rfl (k0 hge _ h2)
set_option maxRecDepth 20000 in
set_option maxHeartbeats 4000000 in
theorem dn_open {l : Launch} {E : pmE} {d : Nat} {S : pmS} {I : pmI} {J : pmJ} {P : pmP} {Q : Option Value → pmS → pmI → pmJ → pmP → Prop} {S0 : pmS} {I0 : pmI} {J0 : pmJ} {P0 : pmP} {b0 : Nat} {A : aS} {c i bs s b m : Nat} {w : Int32} {rv : List vV} {fr : List (Nat × Nat × Nat)} {t : List tH} (h : mS S0 I0 J0 P0 b0 A S I J P c w i bs rv fr s t b m) (hd : 6 ≤ d) {L : List dE} (hx : kX S0 I0 J0 P0 b0 c L) {g : Nat} {v : Int64} (hi : L[i]? = some (6, nI g, hN A.ns v)) (hs4 : s ≤ 400) (hrs : rv.length ≤ s) {Z : Nat → Nat} (hA : cA S0 I0 J0 P0 A Z b0) (hO : aO A) (hv : v ∈ A.ns) (hg : g ≤ 3) (k1 : s < 400 → ckC A fr.length g v = 0 → ∀ I', mS S0 I0 J0 P0 b0 A S I' J P c (nI i) (i + 1) bs rv fr (s + 1) t b m → Q none S I' J P) (k2 : s < 400 → ckC A fr.length g v ≠ 0 → ∀ I', mE S0 I0 J0 P0 b0 A S I' J P (ckC A fr.length g v) b m → Q none S I' J P) (k0 : 400 ≤ s → ∀ I', mE S0 I0 J0 P0 b0 A S I' J P 8 b m → Q none S I' J P) : pm_Met l E yX1_doNext cX1_doNext 2 none d 0 0 [.ref 34] S I J P Q := by
  have hG := h.hG
  have hP := h.hP
  refine m_dn h (by omega) hx hi (kk := 6) rfl (fun I1 h1 => ?_)
  refine pw_iload_n dX1_doNext_30 rfl ?_
  refine pw_bipush (v := nI 7) dX1_doNext_31 (by decide) ?_
  refine pw_icmp_ge (tgt := 44) dX1_doNext_33 (by decide) (fun h => absurd h (by decide)) (fun h33 => ?_)
  refine pw_aload_n dX1_doNext_36 rfl ?_
  refine pw_callV (as := []) (kc' := 0) (ks' := 0) lX1_107 dX1_doNext_37 rfl rfl (sh_lt hG (by decide)) (sh_tg hG 32 rfl) (Nat.le_of_ble_eq_true rfl) (by omega) (Nat.le_of_ble_eq_true rfl) (Nat.zero_le _) (Nat.zero_le _) ?_
  refine m_step h1 (by omega) hs4 hx (fun hlt I2 h2 => ?_) (fun hge I2 h2 => ?_)
  · obtain ⟨rm, hk2⟩ := hx.now h2
    refine pw_if_ne (tgt := 44) dX1_doNext_40 (by decide) (fun h40 => ?_) (fun h => absurd h (by decide))
    refine pw_iload_n dX1_doNext_44 rfl ?_
    refine pw_tableIn (off := 153) (tgt := 198) dX1_doNext_45 (by decide) (by decide) (by decide) (by decide) ?_
    refine pw_aload_n dX1_doNext_198 rfl ?_
    refine pw_aload_n dX1_doNext_199 rfl ?_
    refine pw_getR fX1_35 dX1_doNext_200 (sh_lt hG (by decide)) (sh_tg hG 32 rfl) rfl h2.cd ?_
    refine pw_aload_n dX1_doNext_203 rfl ?_
    refine pw_getI fX1_101 dX1_doNext_204 (sh_lt hG (by decide)) (sh_tg hG 32 rfl) rfl ?_
    refine pw_ti (z := nI i) h2.w' ?_
    refine pw_callV (as := [_]) (kc' := 0) (ks' := 0) lX1_111 dX1_doNext_207 rfl rfl (by have := hk2.1.2; omega) hk2.2.1 (Nat.le_of_ble_eq_true rfl) (by omega) (Nat.le_of_ble_eq_true rfl) (Nat.zero_le _) (Nat.zero_le _) ?_
    refine k_core hk2 hi (show (6 : Nat) ≠ 1 by decide) ?_
    refine pw_l2i dX1_doNext_210 ?_
    refine pw_ti (z := nI (A.ns.idxOf v)) (lN_i _) ?_
    refine pw_aload_n dX1_doNext_211 rfl ?_
    refine pw_getR fX1_35 dX1_doNext_212 (sh_lt hG (by decide)) (sh_tg hG 32 rfl) rfl h2.cd ?_
    refine pw_aload_n dX1_doNext_215 rfl ?_
    refine pw_getI fX1_101 dX1_doNext_216 (sh_lt hG (by decide)) (sh_tg hG 32 rfl) rfl ?_
    refine pw_ti (z := nI i) h2.w' ?_
    refine pw_callV (as := [_]) (kc' := 0) (ks' := 0) lX1_116 dX1_doNext_219 rfl rfl (by have := hk2.1.2; omega) hk2.2.1 (Nat.le_of_ble_eq_true rfl) (by omega) (Nat.le_of_ble_eq_true rfl) (Nat.zero_le _) (Nat.zero_le _) ?_
    refine k_count hk2 hi (show (6 : Nat) ≠ 1 by decide) ?_
    refine pw_callV (as := [_, _]) (kc' := 0) (ks' := 0) lX1_129 dX1_doNext_222 rfl rfl (sh_lt hG (by decide)) (sh_tg hG 32 rfl) (Nat.le_of_ble_eq_true rfl) (by omega) (Nat.le_of_ble_eq_true rfl) (Nat.zero_le _) (Nat.zero_le _) ?_
    refine m_open h2 (by omega) hA hO hx hv hg (fun hc => ?_) (fun I3 hc h3 => ?_)
    · refine pw_goto (tgt := 345) dX1_doNext_225 (by decide) ?_
      exact pw_vret dX1_doNext_345 rfl (k1 hlt hc _ h2)
    · refine pw_goto (tgt := 345) dX1_doNext_225 (by decide) ?_
      exact pw_vret dX1_doNext_345 rfl (k2 hlt hc _ h3)
  · refine pw_if_ne (tgt := 44) dX1_doNext_40 (by decide) (fun h => absurd (by decide) h) (fun h40 => ?_)
    exact pw_vret dX1_doNext_43 rfl (k0 hge _ h2)
