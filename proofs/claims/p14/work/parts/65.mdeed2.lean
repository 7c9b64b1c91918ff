theorem pw_aloadN {l : Launch} {E : pmE} {y : MethodName} {cc : ByteArray} {nL : Nat} {ret : Option FieldType} {d kc ks pc : Nat} {lv : List (Nat × Value)} {st : List Value} {S : pmS} {I : pmI} {J : pmJ} {P : pmP} {Q : pm_Z} {j : Nat} (hd : decode cc pc = .ok (.aload j, 2)) (hk : lv.lookup j = some .null) (k : pm_W l E y cc nL ret d kc ks (pc + 2) lv (.null :: st) S I J P Q) : pm_W l E y cc nL ret d kc ks pc lv (st) S I J P Q := by
  intro p e R s m args below meth c H locs cells slots mc ms ls C hr hl0 hR hv
  exact lv_aloadN C.1 C.2.1 hd (pm_look hv hk) (k p e R s m args below meth c H locs cells slots mc ms ls C hr hl0 hR hv)
theorem pw_astoreN {l : Launch} {E : pmE} {y : MethodName} {cc : ByteArray} {nL : Nat} {ret : Option FieldType} {d kc ks pc : Nat} {lv : List (Nat × Value)} {st : List Value} {S : pmS} {I : pmI} {J : pmJ} {P : pmP} {Q : pm_Z} {j : Nat} (hd : decode cc pc = .ok (.astore j, 2)) (hn : j < nL) {lv' : List (Nat × Value)} (he : pm_st1 j (.null) lv = lv') (k : pm_W l E y cc nL ret d kc ks (pc + 2) lv' st S I J P Q) : pm_W l E y cc nL ret d kc ks pc lv (.null :: st) S I J P Q := by
  intro p e R s m args below meth c H locs cells slots mc ms ls C hr hl0 hR hv
  subst he
  exact lv_astoreN C.1 C.2.1 hd hv hn (pm_st1_map E.ad _ (.null) lv) (fun ls' hv' => k p e R s m args below meth c H locs cells slots mc ms ls' C hr hl0 hR hv')
set_option maxRecDepth 20000 in
set_option maxHeartbeats 4000000 in
theorem m_vk {l : Launch} {E : pmE} {d : Nat} {S : pmS} {I : pmI} {J : pmJ} {P : pmP} {Q : Option Value → pmS → pmI → pmJ → pmP → Prop} {S0 : pmS} {I0 : pmI} {J0 : pmJ} {P0 : pmP} {b0 : Nat} {A : aS} {c i bs s b m : Nat} {w : Int32} {rv : List vV} {fr : List (Nat × Nat × Nat)} {t : List tH} {v : vV} (h : mS S0 I0 J0 P0 b0 A S I J P c w i bs (rv ++ [v]) fr s t b m) (hd : 1 ≤ d) (k : Q (some (.int (nI v.1))) S I J P) : pm_Met l E yX1_valueKind cX1_valueKind 1 (some .int) d 0 0 [.ref 34] S I J P Q := by
  unfold pm_Met
  have hG := h.hG
  have hP := h.hP
  have hla := h.last
  refine pm_lvs (lv' := [(0, _)]) rfl ?_
  refine pw_aload_n dX1_valueKind_0 rfl ?_
  refine pw_getR fX1_14 dX1_valueKind_1 (sh_lt hG (by decide)) (sh_tg hG 32 rfl) rfl (gr_at hP 29 rfl) ?_
  refine pw_aload_n dX1_valueKind_4 rfl ?_
  refine pw_getI fX1_56 dX1_valueKind_5 (sh_lt hG (by decide)) (sh_tg hG 32 rfl) rfl ?_
  refine pw_iconst (v := nI 1) dX1_valueKind_8 (by decide) ?_
  refine pw_isub dX1_valueKind_9 ?_
  refine pw_ti (z := nI rv.length) hla.1 ?_
  refine pw_callV (as := [_]) (kc' := 0) (ks' := 0) lX1_59 dX1_valueKind_10 rfl rfl (sh_lt hG (by decide)) (sh_tg hG 33 rfl) (Nat.le_of_ble_eq_true rfl) (by omega) (Nat.le_of_ble_eq_true rfl) (Nat.zero_le _) (Nat.zero_le _) ?_
  refine v_kind35 hG hP hla.2.2.2 ?_
  refine pw_ti (z := nI v.1) hla.2.1 ?_
  exact pw_iret dX1_valueKind_13 rfl (k)

set_option maxRecDepth 20000 in
set_option maxHeartbeats 4000000 in
theorem m_vc {l : Launch} {E : pmE} {d : Nat} {S : pmS} {I : pmI} {J : pmJ} {P : pmP} {Q : Option Value → pmS → pmI → pmJ → pmP → Prop} {S0 : pmS} {I0 : pmI} {J0 : pmJ} {P0 : pmP} {b0 : Nat} {A : aS} {c i bs s b m : Nat} {w : Int32} {rv : List vV} {fr : List (Nat × Nat × Nat)} {t : List tH} {v : vV} (h : mS S0 I0 J0 P0 b0 A S I J P c w i bs (rv ++ [v]) fr s t b m) (hd : 1 ≤ d) (k : Q (some (.long v.2)) S I J P) : pm_Met l E yX1_valueCore cX1_valueCore 1 (some .long) d 0 0 [.ref 34] S I J P Q := by
  unfold pm_Met
  have hG := h.hG
  have hP := h.hP
  have hla := h.last
  refine pm_lvs (lv' := [(0, _)]) rfl ?_
  refine pw_aload_n dX1_valueCore_0 rfl ?_
  refine pw_getR fX1_14 dX1_valueCore_1 (sh_lt hG (by decide)) (sh_tg hG 32 rfl) rfl (gr_at hP 29 rfl) ?_
  refine pw_aload_n dX1_valueCore_4 rfl ?_
  refine pw_getI fX1_56 dX1_valueCore_5 (sh_lt hG (by decide)) (sh_tg hG 32 rfl) rfl ?_
  refine pw_iconst (v := nI 1) dX1_valueCore_8 (by decide) ?_
  refine pw_isub dX1_valueCore_9 ?_
  refine pw_ti (z := nI rv.length) hla.1 ?_
  refine pw_callV (as := [_]) (kc' := 0) (ks' := 0) lX1_63 dX1_valueCore_10 rfl rfl (sh_lt hG (by decide)) (sh_tg hG 33 rfl) (Nat.le_of_ble_eq_true rfl) (by omega) (Nat.le_of_ble_eq_true rfl) (Nat.zero_le _) (Nat.zero_le _) ?_
  refine v_core35 hG hP hla.2.2.2 ?_
  refine pw_tj (z := v.2) hla.2.2.1 ?_
  exact pw_lret dX1_valueCore_13 rfl (k)

set_option maxRecDepth 20000 in
set_option maxHeartbeats 4000000 in
theorem m_whole {l : Launch} {E : pmE} {d : Nat} {S : pmS} {I : pmI} {J : pmJ} {P : pmP} {Q : Option Value → pmS → pmI → pmJ → pmP → Prop} {S0 : pmS} {I0 : pmI} {J0 : pmJ} {P0 : pmP} {b0 : Nat} {A : aS} {c i bs s b m : Nat} {w : Int32} {rv : List vV} {fr : List (Nat × Nat × Nat)} {t : List tH} {v : vV} (h : mS S0 I0 J0 P0 b0 A S I J P c w i bs (rv ++ [v]) fr s t b m) (hd : 2 ≤ d) {L : List dE} (hx : kX S0 I0 J0 P0 b0 c L) (hv2 : v.1 ≤ 2) (k1 : ckW v = 0 → v.1 = 1 → Q (some (.int (nI 1))) S I J P) (k0 : ckW v ≠ 0 → ∀ I', mE S0 I0 J0 P0 b0 A S I' J P (ckW v) b m → Q (some (.int (nI 0))) S I' J P) : pm_Met l E yX1_isWholeAhead cX1_isWholeAhead 2 (some .boolean) d 0 0 [.ref 34] S I J P Q := by
  unfold pm_Met
  have hG := h.hG
  have hP := h.hP
  refine pm_lvs (lv' := [(0, _)]) rfl ?_
  refine pw_aload_n dX1_isWholeAhead_0 rfl ?_
  refine pw_callV (as := []) (kc' := 0) (ks' := 0) lX1_208 dX1_isWholeAhead_1 rfl rfl (sh_lt hG (by decide)) (sh_tg hG 32 rfl) (Nat.le_of_ble_eq_true rfl) (by omega) (Nat.le_of_ble_eq_true rfl) (Nat.zero_le _) (Nat.zero_le _) ?_
  refine m_vk h (by omega) ?_
  refine pw_istore_n (lv' := [(1, _), (0, _)]) dX1_isWholeAhead_4 (by decide) rfl ?_
  refine pw_iload_n dX1_isWholeAhead_5 rfl ?_
  refine pw_iconst (v := nI 1) dX1_isWholeAhead_6 (by decide) ?_
  refine pw_icmpN_eq _ _ (tgt := 23) dX1_isWholeAhead_7 (by decide) (rfl) (rfl) (by omega) (by omega) (fun h7 => ?_) (fun h7 => ?_)
  · refine pw_iload_n dX1_isWholeAhead_23 rfl ?_
    refine pw_iconst (v := nI 1) dX1_isWholeAhead_24 (by decide) ?_
    refine pw_icmpN_ne _ _ (tgt := 32) dX1_isWholeAhead_25 (by decide) (rfl) (rfl) (by omega) (by omega) (fun h25 => ?_) (fun h25 => ?_)
    · refine pw_iconst (v := nI 0) dX1_isWholeAhead_32 (by decide) ?_
      exact pw_zret dX1_isWholeAhead_33 rfl (by decide) (absurd h7 (by omega))
    · refine pw_iconst (v := nI 1) dX1_isWholeAhead_28 (by decide) ?_
      refine pw_goto (tgt := 33) dX1_isWholeAhead_29 (by decide) ?_
      exact pw_zret dX1_isWholeAhead_33 rfl (by decide) (k1 (by unfold ckW; rw [if_pos h7]) h7)
  · refine pw_aload_n dX1_isWholeAhead_10 rfl ?_
    refine pw_iload_n dX1_isWholeAhead_11 rfl ?_
    refine pw_ifN_ne _ (tgt := 19) dX1_isWholeAhead_12 (by decide) (rfl) (by omega) (fun h12 => ?_) (fun h12 => ?_)
    · refine pw_iconst (v := nI 3) dX1_isWholeAhead_19 (by decide) ?_
      refine pw_callV (as := [_]) (kc' := 0) (ks' := 0) lX1_152 dX1_isWholeAhead_20 rfl rfl (sh_lt hG (by decide)) (sh_tg hG 32 rfl) (Nat.le_of_ble_eq_true rfl) (by omega) (Nat.le_of_ble_eq_true rfl) (Nat.zero_le _) (Nat.zero_le _) ?_
      refine m_fail h (by omega) (e := 3) hx (fun I3 h3 => ?_)
      refine pw_iload_n dX1_isWholeAhead_23 rfl ?_
      refine pw_iconst (v := nI 1) dX1_isWholeAhead_24 (by decide) ?_
      refine pw_icmpN_ne _ _ (tgt := 32) dX1_isWholeAhead_25 (by decide) (rfl) (rfl) (by omega) (by omega) (fun h25 => ?_) (fun h25 => ?_)
      · refine pw_iconst (v := nI 0) dX1_isWholeAhead_32 (by decide) ?_
        exact pw_zret dX1_isWholeAhead_33 rfl (by decide) (k0 (by unfold ckW; rw [if_neg h7, if_neg h12]; decide) _ (by unfold ckW; rw [if_neg h7, if_neg h12]; exact h3))
      · refine pw_iconst (v := nI 1) dX1_isWholeAhead_28 (by decide) ?_
        refine pw_goto (tgt := 33) dX1_isWholeAhead_29 (by decide) ?_
        exact pw_zret dX1_isWholeAhead_33 rfl (by decide) (absurd h25 (by omega))
    · refine pw_iconst (v := nI 2) dX1_isWholeAhead_15 (by decide) ?_
      refine pw_goto (tgt := 20) dX1_isWholeAhead_16 (by decide) ?_
      refine pw_callV (as := [_]) (kc' := 0) (ks' := 0) lX1_152 dX1_isWholeAhead_20 rfl rfl (sh_lt hG (by decide)) (sh_tg hG 32 rfl) (Nat.le_of_ble_eq_true rfl) (by omega) (Nat.le_of_ble_eq_true rfl) (Nat.zero_le _) (Nat.zero_le _) ?_
      refine m_fail h (by omega) (e := 2) hx (fun I3 h3 => ?_)
      refine pw_iload_n dX1_isWholeAhead_23 rfl ?_
      refine pw_iconst (v := nI 1) dX1_isWholeAhead_24 (by decide) ?_
      refine pw_icmpN_ne _ _ (tgt := 32) dX1_isWholeAhead_25 (by decide) (rfl) (rfl) (by omega) (by omega) (fun h25 => ?_) (fun h25 => ?_)
      · refine pw_iconst (v := nI 0) dX1_isWholeAhead_32 (by decide) ?_
        exact pw_zret dX1_isWholeAhead_33 rfl (by decide) (k0 (by unfold ckW; rw [if_neg h7, if_pos h12]; decide) _ (by unfold ckW; rw [if_neg h7, if_pos h12]; exact h3))
      · refine pw_iconst (v := nI 1) dX1_isWholeAhead_28 (by decide) ?_
        refine pw_goto (tgt := 33) dX1_isWholeAhead_29 (by decide) ?_
        exact pw_zret dX1_isWholeAhead_33 rfl (by decide) (absurd h25 (by omega))

set_option maxRecDepth 20000 in
set_option maxHeartbeats 4000000 in
theorem dn_not {l : Launch} {E : pmE} {d : Nat} {S : pmS} {I : pmI} {J : pmJ} {P : pmP} {Q : Option Value → pmS → pmI → pmJ → pmP → Prop} {S0 : pmS} {I0 : pmI} {J0 : pmJ} {P0 : pmP} {b0 : Nat} {A : aS} {c i bs s b m : Nat} {w : Int32} {rv : List vV} {fr : List (Nat × Nat × Nat)} {t : List tH} (h : mS S0 I0 J0 P0 b0 A S I J P c w i bs rv fr s t b m) (hd : 6 ≤ d) {L : List dE} (hx : kX S0 I0 J0 P0 b0 c L)  (hi : L[i]? = some (7, 0, 0)) (hl : rv.length < 401) (k : ∀ I' J', mS S0 I0 J0 P0 b0 A S I' J' P c (nI i) (i + 1) bs (rv ++ [(0, 0)]) fr s t b m → Q none S I' J' P) : pm_Met l E yX1_doNext cX1_doNext 2 none d 0 0 [.ref 34] S I J P Q := by
  have hG := h.hG
  have hP := h.hP
  refine m_dn h (by omega) hx hi (kk := 7) rfl (fun I1 h1 => ?_)
  obtain ⟨rm, hk2⟩ := hx.now h1
  refine pw_iload_n dX1_doNext_30 rfl ?_
  refine pw_bipush (v := nI 7) dX1_doNext_31 (by decide) ?_
  refine pw_icmp_ge (tgt := 44) dX1_doNext_33 (by decide) (fun h33 => ?_) (fun h => absurd (by decide) h)
  refine pw_iload_n dX1_doNext_44 rfl ?_
  refine pw_tableIn (off := 183) (tgt := 228) dX1_doNext_45 (by decide) (by decide) (by decide) (by decide) ?_
  refine pw_aload_n dX1_doNext_228 rfl ?_
  refine pw_iconst (v := nI 0) dX1_doNext_229 (by decide) ?_
  refine pw_lconst (v := 0) dX1_doNext_230 (by decide) ?_
  refine pw_callV (as := [_, _]) (kc' := 0) (ks' := 0) lX1_112 dX1_doNext_231 rfl rfl (sh_lt hG (by decide)) (sh_tg hG 32 rfl) (Nat.le_of_ble_eq_true rfl) (by omega) (Nat.le_of_ble_eq_true rfl) (Nat.zero_le _) (Nat.zero_le _) ?_
  refine m_push h1 (by omega) (v := (0, 0)) hl (fun I3 J3 h3 => ?_)
  refine pw_goto (tgt := 345) dX1_doNext_234 (by decide) ?_
  exact pw_vret dX1_doNext_345 rfl (k _ _ h3)
set_option maxRecDepth 20000 in
set_option maxHeartbeats 4000000 in
theorem dn_jump {l : Launch} {E : pmE} {d : Nat} {S : pmS} {I : pmI} {J : pmJ} {P : pmP} {Q : Option Value → pmS → pmI → pmJ → pmP → Prop} {S0 : pmS} {I0 : pmI} {J0 : pmJ} {P0 : pmP} {b0 : Nat} {A : aS} {c i bs s b m : Nat} {w : Int32} {rv : List vV} {fr : List (Nat × Nat × Nat)} {t : List tH} (h : mS S0 I0 J0 P0 b0 A S I J P c w i bs rv fr s t b m) (hd : 6 ≤ d) {L : List dE} (hx : kX S0 I0 J0 P0 b0 c L) {n : Nat} (hi : L[i]? = some (12, nI n, 0)) (k : ∀ I', mS S0 I0 J0 P0 b0 A S I' J P c (nI i) (i + 1 + n) bs rv fr s t b m → Q none S I' J P) : pm_Met l E yX1_doNext cX1_doNext 2 none d 0 0 [.ref 34] S I J P Q := by
  have hG := h.hG
  have hP := h.hP
  refine m_dn h (by omega) hx hi (kk := 12) rfl (fun I1 h1 => ?_)
  obtain ⟨rm, hk2⟩ := hx.now h1
  refine pw_iload_n dX1_doNext_30 rfl ?_
  refine pw_bipush (v := nI 7) dX1_doNext_31 (by decide) ?_
  refine pw_icmp_ge (tgt := 44) dX1_doNext_33 (by decide) (fun h33 => ?_) (fun h => absurd (by decide) h)
  refine pw_iload_n dX1_doNext_44 rfl ?_
  refine pw_tableIn (off := 265) (tgt := 310) dX1_doNext_45 (by decide) (by decide) (by decide) (by decide) ?_
  refine pw_aload_n dX1_doNext_310 rfl ?_
  refine pw_dup dX1_doNext_311 rfl ?_
  refine pw_getI fX1_79 dX1_doNext_312 (sh_lt hG (by decide)) (sh_tg hG 32 rfl) rfl ?_
  refine pw_aload_n dX1_doNext_315 rfl ?_
  refine pw_getR fX1_35 dX1_doNext_316 (sh_lt hG (by decide)) (sh_tg hG 32 rfl) rfl h1.cd ?_
  refine pw_aload_n dX1_doNext_319 rfl ?_
  refine pw_getI fX1_101 dX1_doNext_320 (sh_lt hG (by decide)) (sh_tg hG 32 rfl) rfl ?_
  refine pw_ti (z := nI i) h1.w' ?_
  refine pw_callV (as := [_]) (kc' := 0) (ks' := 0) lX1_116 dX1_doNext_323 rfl rfl (by have := hk2.1.2; omega) hk2.2.1 (Nat.le_of_ble_eq_true rfl) (by omega) (Nat.le_of_ble_eq_true rfl) (Nat.zero_le _) (Nat.zero_le _) ?_
  refine k_count hk2 hi (show (12 : Nat) ≠ 1 by decide) ?_
  refine pw_iadd dX1_doNext_326 ?_
  refine pw_ti (z := nI (i + 1 + n)) (by rw [h1.i']; exact nI_add _ _) ?_
  refine pw_putI fX1_79 dX1_doNext_327 (Or.inl rfl) (by decide) (sh_lt hG (by decide)) (sh_tg hG 32 rfl) rfl ?_
  refine pw_goto (tgt := 345) dX1_doNext_330 (by decide) ?_
  exact pw_vret dX1_doNext_345 rfl (k _ (h1.setI (i + 1 + n)))
set_option maxRecDepth 20000 in
set_option maxHeartbeats 4000000 in
theorem m_neg {l : Launch} {E : pmE} {d : Nat} {S : pmS} {I : pmI} {J : pmJ} {P : pmP} {Q : Option Value → pmS → pmI → pmJ → pmP → Prop} {S0 : pmS} {I0 : pmI} {J0 : pmJ} {P0 : pmP} {b0 : Nat} {A : aS} {c i bs s b m : Nat} {w : Int32} {rv : List vV} {fr : List (Nat × Nat × Nat)} {t : List tH} {v : vV} (h : mS S0 I0 J0 P0 b0 A S I J P c w i bs (rv ++ [v]) fr s t b m) (hd : 3 ≤ d) {L : List dE} (hx : kX S0 I0 J0 P0 b0 c L) (hv2 : v.1 ≤ 2) (k1 : ckW v = 0 → ∀ I' J', mS S0 I0 J0 P0 b0 A S I' J' P c w i bs (rv ++ [(1, -v.2)]) fr s t b m → Q none S I' J' P) (k0 : ckW v ≠ 0 → ∀ I', mE S0 I0 J0 P0 b0 A S I' J P (ckW v) b m → Q none S I' J P) : pm_Met l E yX1_negate cX1_negate 3 none d 0 0 [.ref 34] S I J P Q := by
  unfold pm_Met
  have hG := h.hG
  have hP := h.hP
  have hla := h.last
  refine pm_lvs (lv' := [(0, _)]) rfl ?_
  refine pw_aload_n dX1_negate_0 rfl ?_
  refine pw_callV (as := []) (kc' := 0) (ks' := 0) lX1_234 dX1_negate_1 rfl rfl (sh_lt hG (by decide)) (sh_tg hG 32 rfl) (Nat.le_of_ble_eq_true rfl) (by omega) (Nat.le_of_ble_eq_true rfl) (Nat.zero_le _) (Nat.zero_le _) ?_
  refine m_whole h (by omega) hx hv2 (fun hw hw1 => ?_) (fun hw I3 h3 => ?_)
  · refine pw_if_eq (tgt := 29) dX1_negate_4 (by decide) (fun h => absurd h (by decide)) (fun h4 => ?_)
    refine pw_aload_n dX1_negate_7 rfl ?_
    refine pw_callV (as := []) (kc' := 0) (ks' := 0) lX1_211 dX1_negate_8 rfl rfl (sh_lt hG (by decide)) (sh_tg hG 32 rfl) (Nat.le_of_ble_eq_true rfl) (by omega) (Nat.le_of_ble_eq_true rfl) (Nat.zero_le _) (Nat.zero_le _) ?_
    refine m_vc h (by omega) ?_
    refine pw_lstore_n (lv' := [(1, _), (0, _)]) dX1_negate_11 (by decide) rfl ?_
    refine pw_aload_n dX1_negate_12 rfl ?_
    refine pw_dup dX1_negate_13 rfl ?_
    refine pw_getI fX1_56 dX1_negate_14 (sh_lt hG (by decide)) (sh_tg hG 32 rfl) rfl ?_
    refine pw_iconst (v := nI 1) dX1_negate_17 (by decide) ?_
    refine pw_isub dX1_negate_18 ?_
    refine pw_ti (z := nI rv.length) hla.1 ?_
    refine pw_putI fX1_56 dX1_negate_19 (Or.inl rfl) (by decide) (sh_lt hG (by decide)) (sh_tg hG 32 rfl) rfl ?_
    refine pw_aload_n dX1_negate_22 rfl ?_
    refine pw_iconst (v := nI 1) dX1_negate_23 (by decide) ?_
    refine pw_lload_n dX1_negate_24 rfl ?_
    refine pw_lneg dX1_negate_25 ?_
    refine pw_callV (as := [_, _]) (kc' := 0) (ks' := 0) lX1_112 dX1_negate_26 rfl rfl (sh_lt hG (by decide)) (sh_tg hG 32 rfl) (Nat.le_of_ble_eq_true rfl) (by omega) (Nat.le_of_ble_eq_true rfl) (Nat.zero_le _) (Nat.zero_le _) ?_
    refine m_push (h.pop) (by omega) (v := (1, -v.2)) hla.2.2.2 (fun I3 J3 h3 => ?_)
    exact pw_vret dX1_negate_29 rfl (k1 hw _ _ h3)
  · refine pw_if_eq (tgt := 29) dX1_negate_4 (by decide) (fun h4 => ?_) (fun h => absurd (by decide) h)
    exact pw_vret dX1_negate_29 rfl (k0 hw _ h3)
set_option maxRecDepth 20000 in
set_option maxHeartbeats 4000000 in
theorem dn_neg {l : Launch} {E : pmE} {d : Nat} {S : pmS} {I : pmI} {J : pmJ} {P : pmP} {Q : Option Value → pmS → pmI → pmJ → pmP → Prop} {S0 : pmS} {I0 : pmI} {J0 : pmJ} {P0 : pmP} {b0 : Nat} {A : aS} {c i bs s b m : Nat} {w : Int32} {rv : List vV} {fr : List (Nat × Nat × Nat)} {t : List tH} {v : vV} (h : mS S0 I0 J0 P0 b0 A S I J P c w i bs (rv ++ [v]) fr s t b m) (hd : 6 ≤ d) {L : List dE} (hx : kX S0 I0 J0 P0 b0 c L)  (hi : L[i]? = some (10, 0, 0)) (hv2 : v.1 ≤ 2) (k1 : ckW v = 0 → ∀ I' J', mS S0 I0 J0 P0 b0 A S I' J' P c (nI i) (i + 1) bs (rv ++ [(1, -v.2)]) fr s t b m → Q none S I' J' P) (k0 : ckW v ≠ 0 → ∀ I', mE S0 I0 J0 P0 b0 A S I' J P (ckW v) b m → Q none S I' J P) : pm_Met l E yX1_doNext cX1_doNext 2 none d 0 0 [.ref 34] S I J P Q := by
  have hG := h.hG
  have hP := h.hP
  refine m_dn h (by omega) hx hi (kk := 10) rfl (fun I1 h1 => ?_)
  obtain ⟨rm, hk2⟩ := hx.now h1
  refine pw_iload_n dX1_doNext_30 rfl ?_
  refine pw_bipush (v := nI 7) dX1_doNext_31 (by decide) ?_
  refine pw_icmp_ge (tgt := 44) dX1_doNext_33 (by decide) (fun h33 => ?_) (fun h => absurd (by decide) h)
  refine pw_iload_n dX1_doNext_44 rfl ?_
  refine pw_tableIn (off := 240) (tgt := 285) dX1_doNext_45 (by decide) (by decide) (by decide) (by decide) ?_
  refine pw_aload_n dX1_doNext_285 rfl ?_
  refine pw_callV (as := []) (kc' := 0) (ks' := 0) lX1_140 dX1_doNext_286 rfl rfl (sh_lt hG (by decide)) (sh_tg hG 32 rfl) (Nat.le_of_ble_eq_true rfl) (by omega) (Nat.le_of_ble_eq_true rfl) (Nat.zero_le _) (Nat.zero_le _) ?_
  refine m_neg h1 (by omega) hx hv2 (fun hw I3 J3 h3 => ?_) (fun hw I3 h3 => ?_)
  · refine pw_goto (tgt := 345) dX1_doNext_289 (by decide) ?_
    exact pw_vret dX1_doNext_345 rfl (k1 hw _ _ h3)
  · refine pw_goto (tgt := 345) dX1_doNext_289 (by decide) ?_
    exact pw_vret dX1_doNext_345 rfl (k0 hw _ h3)
set_option maxRecDepth 20000 in
set_option maxHeartbeats 4000000 in
theorem m_branch {l : Launch} {E : pmE} {d : Nat} {S : pmS} {I : pmI} {J : pmJ} {P : pmP} {Q : Option Value → pmS → pmI → pmJ → pmP → Prop} {S0 : pmS} {I0 : pmI} {J0 : pmJ} {P0 : pmP} {b0 : Nat} {A : aS} {c i bs s b m : Nat} {w : Int32} {rv : List vV} {fr : List (Nat × Nat × Nat)} {t : List tH} {v : vV} {n : Nat} (h : mS S0 I0 J0 P0 b0 A S I J P c w i bs (rv ++ [v]) fr s t b m) (hd : 3 ≤ d) {L : List dE} (hx : kX S0 I0 J0 P0 b0 c L) (hv2 : v.1 ≤ 2) (k1 : ckW v = 0 → v.2 = 0 → ∀ I', mS S0 I0 J0 P0 b0 A S I' J P c w (i + n) bs rv fr s t b m → Q none S I' J P) (k2 : ckW v = 0 → ¬ v.2 = 0 → ∀ I', mS S0 I0 J0 P0 b0 A S I' J P c w i bs rv fr s t b m → Q none S I' J P) (k0 : ckW v ≠ 0 → ∀ I', mE S0 I0 J0 P0 b0 A S I' J P (ckW v) b m → Q none S I' J P) : pm_Met l E yX1_branch cX1_branch 2 none d 0 0 [.ref 34, .int (nI n)] S I J P Q := by
  unfold pm_Met
  have hG := h.hG
  have hP := h.hP
  have hla := h.last
  refine pm_lvs (lv' := [(0, _), (1, _)]) rfl ?_
  refine pw_aload_n dX1_branch_0 rfl ?_
  refine pw_callV (as := []) (kc' := 0) (ks' := 0) lX1_234 dX1_branch_1 rfl rfl (sh_lt hG (by decide)) (sh_tg hG 32 rfl) (Nat.le_of_ble_eq_true rfl) (by omega) (Nat.le_of_ble_eq_true rfl) (Nat.zero_le _) (Nat.zero_le _) ?_
  refine m_whole h (by omega) hx hv2 (fun hw hw1 => ?_) (fun hw I3 h3 => ?_)
  · refine pw_if_eq (tgt := 36) dX1_branch_4 (by decide) (fun h => absurd h (by decide)) (fun h4 => ?_)
    refine pw_aload_n dX1_branch_7 rfl ?_
    refine pw_callV (as := []) (kc' := 0) (ks' := 0) lX1_211 dX1_branch_8 rfl rfl (sh_lt hG (by decide)) (sh_tg hG 32 rfl) (Nat.le_of_ble_eq_true rfl) (by omega) (Nat.le_of_ble_eq_true rfl) (Nat.zero_le _) (Nat.zero_le _) ?_
    refine m_vc h (by omega) ?_
    refine pw_lconst (v := 0) dX1_branch_11 (by decide) ?_
    refine pw_lif_ne (tgt := 26) dX1_branch_12 dX1_branch_13 (by decide) (fun h13 => ?_) (fun h13 => ?_)
    · refine pw_aload_n dX1_branch_26 rfl ?_
      refine pw_dup dX1_branch_27 rfl ?_
      refine pw_getI fX1_56 dX1_branch_28 (sh_lt hG (by decide)) (sh_tg hG 32 rfl) rfl ?_
      refine pw_iconst (v := nI 1) dX1_branch_31 (by decide) ?_
      refine pw_isub dX1_branch_32 ?_
      refine pw_ti (z := nI rv.length) hla.1 ?_
      refine pw_putI fX1_56 dX1_branch_33 (Or.inl rfl) (by decide) (sh_lt hG (by decide)) (sh_tg hG 32 rfl) rfl ?_
      exact pw_vret dX1_branch_36 rfl (k2 hw h13 _ (h.pop))
    · refine pw_aload_n dX1_branch_16 rfl ?_
      refine pw_dup dX1_branch_17 rfl ?_
      refine pw_getI fX1_79 dX1_branch_18 (sh_lt hG (by decide)) (sh_tg hG 32 rfl) rfl ?_
      refine pw_iload_n dX1_branch_21 rfl ?_
      refine pw_iadd dX1_branch_22 ?_
      refine pw_ti (z := nI (i + n)) (by rw [h.i']; exact nI_add _ _) ?_
      refine pw_putI fX1_79 dX1_branch_23 (Or.inl rfl) (by decide) (sh_lt hG (by decide)) (sh_tg hG 32 rfl) rfl ?_
      refine pw_aload_n dX1_branch_26 rfl ?_
      refine pw_dup dX1_branch_27 rfl ?_
      refine pw_getI fX1_56 dX1_branch_28 (sh_lt hG (by decide)) (sh_tg hG 32 rfl) rfl ?_
      refine pw_iconst (v := nI 1) dX1_branch_31 (by decide) ?_
      refine pw_isub dX1_branch_32 ?_
      refine pw_ti (z := nI rv.length) (by rw [pm_u_eq, pm_up_ne (by decide)]; exact hla.1) ?_
      refine pw_putI fX1_56 dX1_branch_33 (Or.inl rfl) (by decide) (sh_lt hG (by decide)) (sh_tg hG 32 rfl) rfl ?_
      exact pw_vret dX1_branch_36 rfl (k1 hw h13 _ ((h.setI (i + n)).pop))
  · refine pw_if_eq (tgt := 36) dX1_branch_4 (by decide) (fun h4 => ?_) (fun h => absurd (by decide) h)
    exact pw_vret dX1_branch_36 rfl (k0 hw _ h3)
set_option maxRecDepth 20000 in
set_option maxHeartbeats 4000000 in
theorem dn_branch {l : Launch} {E : pmE} {d : Nat} {S : pmS} {I : pmI} {J : pmJ} {P : pmP} {Q : Option Value → pmS → pmI → pmJ → pmP → Prop} {S0 : pmS} {I0 : pmI} {J0 : pmJ} {P0 : pmP} {b0 : Nat} {A : aS} {c i bs s b m : Nat} {w : Int32} {rv : List vV} {fr : List (Nat × Nat × Nat)} {t : List tH} {v : vV} (h : mS S0 I0 J0 P0 b0 A S I J P c w i bs (rv ++ [v]) fr s t b m) (hd : 6 ≤ d) {L : List dE} (hx : kX S0 I0 J0 P0 b0 c L) {n : Nat} (hi : L[i]? = some (11, nI n, 0)) (hv2 : v.1 ≤ 2) (k1 : ckW v = 0 → v.2 = 0 → ∀ I', mS S0 I0 J0 P0 b0 A S I' J P c (nI i) (i + 1 + n) bs rv fr s t b m → Q none S I' J P) (k2 : ckW v = 0 → ¬ v.2 = 0 → ∀ I', mS S0 I0 J0 P0 b0 A S I' J P c (nI i) (i + 1) bs rv fr s t b m → Q none S I' J P) (k0 : ckW v ≠ 0 → ∀ I', mE S0 I0 J0 P0 b0 A S I' J P (ckW v) b m → Q none S I' J P) : pm_Met l E yX1_doNext cX1_doNext 2 none d 0 0 [.ref 34] S I J P Q := by
  have hG := h.hG
  have hP := h.hP
  refine m_dn h (by omega) hx hi (kk := 11) rfl (fun I1 h1 => ?_)
  obtain ⟨rm, hk2⟩ := hx.now h1
  refine pw_iload_n dX1_doNext_30 rfl ?_
  refine pw_bipush (v := nI 7) dX1_doNext_31 (by decide) ?_
  refine pw_icmp_ge (tgt := 44) dX1_doNext_33 (by decide) (fun h33 => ?_) (fun h => absurd (by decide) h)
  refine pw_iload_n dX1_doNext_44 rfl ?_
  refine pw_tableIn (off := 247) (tgt := 292) dX1_doNext_45 (by decide) (by decide) (by decide) (by decide) ?_
  refine pw_aload_n dX1_doNext_292 rfl ?_
  refine pw_aload_n dX1_doNext_293 rfl ?_
  refine pw_getR fX1_35 dX1_doNext_294 (sh_lt hG (by decide)) (sh_tg hG 32 rfl) rfl h1.cd ?_
  refine pw_aload_n dX1_doNext_297 rfl ?_
  refine pw_getI fX1_101 dX1_doNext_298 (sh_lt hG (by decide)) (sh_tg hG 32 rfl) rfl ?_
  refine pw_ti (z := nI i) h1.w' ?_
  refine pw_callV (as := [_]) (kc' := 0) (ks' := 0) lX1_116 dX1_doNext_301 rfl rfl (by have := hk2.1.2; omega) hk2.2.1 (Nat.le_of_ble_eq_true rfl) (by omega) (Nat.le_of_ble_eq_true rfl) (Nat.zero_le _) (Nat.zero_le _) ?_
  refine k_count hk2 hi (show (11 : Nat) ≠ 1 by decide) ?_
  refine pw_callV (as := [_]) (kc' := 0) (ks' := 0) lX1_143 dX1_doNext_304 rfl rfl (sh_lt hG (by decide)) (sh_tg hG 32 rfl) (Nat.le_of_ble_eq_true rfl) (by omega) (Nat.le_of_ble_eq_true rfl) (Nat.zero_le _) (Nat.zero_le _) ?_
  refine m_branch h1 (by omega) hx hv2 (fun hw hz I3 h3 => ?_) (fun hw hz I3 h3 => ?_) (fun hw I3 h3 => ?_)
  · refine pw_goto (tgt := 345) dX1_doNext_307 (by decide) ?_
    exact pw_vret dX1_doNext_345 rfl (k1 hw hz _ h3)
  · refine pw_goto (tgt := 345) dX1_doNext_307 (by decide) ?_
    exact pw_vret dX1_doNext_345 rfl (k2 hw hz _ h3)
  · refine pw_goto (tgt := 345) dX1_doNext_307 (by decide) ?_
    exact pw_vret dX1_doNext_345 rfl (k0 hw _ h3)
set_option maxRecDepth 20000 in
set_option maxHeartbeats 4000000 in
theorem m_field {l : Launch} {E : pmE} {d : Nat} {S : pmS} {I : pmI} {J : pmJ} {P : pmP} {Q : Option Value → pmS → pmI → pmJ → pmP → Prop} {S0 : pmS} {I0 : pmI} {J0 : pmJ} {P0 : pmP} {b0 : Nat} {A : aS} {c i bs s b m : Nat} {w : Int32} {rv : List vV} {fr : List (Nat × Nat × Nat)} {t : List tH} {v : vV} (h : mS S0 I0 J0 P0 b0 A S I J P c w i bs (rv ++ [v]) fr s t b m) (hd : 5 ≤ d) {Z : Nat → Nat} (hA : cA S0 I0 J0 P0 A Z b0) (hO : aO A) {L : List dE} (hx : kX S0 I0 J0 P0 b0 c L) (hT : tO A t) (hv : vO t.length v) (ht9 : t.length ≤ 16000) {w9 : Int64} (hw9 : w9 ∈ A.ns) (k1 : ckF A t v w9 = 0 → ∀ I' J', mS S0 I0 J0 P0 b0 A S I' J' P c w i bs (rv ++ [fdV A t v w9]) fr s t b m → Q none S I' J' P) (k0 : ckF A t v w9 ≠ 0 → ∀ I', mE S0 I0 J0 P0 b0 A S I' J P (ckF A t v w9) b m → Q none S I' J P) : pm_Met l E yX1_takeField cX1_takeField 7 none d 0 0 [.ref 34, .long (lN (A.ns.idxOf w9))] S I J P Q := by
  unfold pm_Met
  have hG := h.hG
  have hP := h.hP
  have hla := h.last
  have hA2 := h.ca hA
  have hr4 := hO.r
  have hk4 := hO.k
  have hn4 := hO.1.2
  have hv2 := hv.1
  refine pm_lvs (lv' := [(0, _), (1, _)]) rfl ?_
  by_cases h2 : v.1 = 2
  · obtain ⟨j, hjl, hje, hj⟩ := thO_at hT h2 hv (by omega)
    rcases hth : thO t v with ⟨s', us⟩
    rw [hth] at hj
    obtain ⟨q1, q2, q3, q4⟩ := hT j s' us hj
    have htc := h.tc
    have hsn := hO.2.2.2.2.1 s' q1
    have hp3 := hsn.2.1
    have hdn : (A.at s').dec ∈ A.ns := hsn.2.2.1 (by omega)
    have hf3 := fm_le hO (A.at s').dec
    have ek : ckF A t v w9 = if A.fm (A.at s').dec = 3 ∧ A.dc (A.at s').dec = some s' then (if ps_arg (A.at s').pa w9 0 = none then 6 else 0) else 7 := by unfold ckF; rw [if_pos h2, hth]
    have ekF : ¬ (A.fm (A.at s').dec = 3 ∧ A.dc (A.at s').dec = some s') → ckF A t v w9 = 7 := fun q => by rw [ek, if_neg q]
    have ef : ∀ i u, us[i]? = some u → ps_arg (A.at s').pa w9 0 = some i → fdV A t v w9 = u := fun i u hu hp => by
      unfold fdV
      rw [hth]
      show us.getD ((ps_arg (A.at s').pa w9 0).getD 0) (0, 0) = u
      rw [hp, Option.getD_some, List.getD_eq_getElem?_getD, hu]; rfl
    refine pw_aload_n dX1_takeField_0 rfl ?_
    refine pw_callV (as := []) (kc' := 0) (ks' := 0) lX1_208 dX1_takeField_1 rfl rfl (sh_lt hG (by decide)) (sh_tg hG 32 rfl) (Nat.le_of_ble_eq_true rfl) (by omega) (Nat.le_of_ble_eq_true rfl) (Nat.zero_le _) (Nat.zero_le _) ?_
    refine m_vk h (by omega) ?_
    refine pw_istore_n (lv' := [(3, _), (0, _), (1, _)]) dX1_takeField_4 (by decide) rfl ?_
    refine pw_iload_n dX1_takeField_5 rfl ?_
    refine pw_iconst (v := nI 2) dX1_takeField_6 (by decide) ?_
    refine pw_icmpN_eq _ _ (tgt := 24) dX1_takeField_7 (by decide) (rfl) (rfl) (by omega) (by omega) (fun h7 => ?_) (fun h7 => absurd h7 (by omega))
    refine pw_aload_n dX1_takeField_24 rfl ?_
    refine pw_callV (as := []) (kc' := 0) (ks' := 0) lX1_211 dX1_takeField_25 rfl rfl (sh_lt hG (by decide)) (sh_tg hG 32 rfl) (Nat.le_of_ble_eq_true rfl) (by omega) (Nat.le_of_ble_eq_true rfl) (Nat.zero_le _) (Nat.zero_le _) ?_
    refine m_vc h (by omega) ?_
    refine pw_l2i dX1_takeField_28 ?_
    refine pw_ti (z := nI j) (by rw [hje]; exact lN_i j) ?_
    refine pw_istore (lv' := [(4, _), (3, _), (0, _), (1, _)]) dX1_takeField_29 (by decide) rfl ?_
    refine pw_aload_n dX1_takeField_31 rfl ?_
    refine pw_getR fX1_39 dX1_takeField_32 (sh_lt hG (by decide)) (sh_tg hG 32 rfl) rfl (gr_at hP 28 rfl) ?_
    refine pw_aload_n dX1_takeField_35 rfl ?_
    refine pw_getR fX1_39 dX1_takeField_36 (sh_lt hG (by decide)) (sh_tg hG 32 rfl) rfl (gr_at hP 28 rfl) ?_
    refine pw_getR fX1_67 dX1_takeField_39 (sh_lt hG (by decide)) (sh_tg hG 13 rfl) rfl (gr_at hP 16 rfl) ?_
    refine pw_iload dX1_takeField_42 rfl ?_
    refine pw_callV (as := [_]) (kc' := 0) (ks' := 0) lX1_215 dX1_takeField_44 rfl rfl (sh_lt hG (by decide)) (sh_tg hG 19 rfl) (Nat.le_of_ble_eq_true rfl) (by omega) (Nat.le_of_ble_eq_true rfl) (Nat.zero_le _) (Nat.zero_le _) ?_
    refine t_type hG hP (by omega) htc hj ?_
    by_cases hc : A.fm (A.at s').dec = 2 ∨ A.fm (A.at s').dec = 3
    · obtain ⟨s1, g1, g2, g3, g4, g5⟩ := hO.2.2.2.1 (A.at s').dec (by omega)
      have hS := (hA2.sn g2).2.1
      refine pw_callV (as := [_]) (kc' := 0) (ks' := 0) lX1_186 dX1_takeField_47 rfl rfl (sh_lt hG (by decide)) (sh_tg hG 13 rfl) (Nat.le_of_ble_eq_true rfl) (by omega) (Nat.le_of_ble_eq_true rfl) (Nat.zero_le _) (Nat.zero_le _) ?_
      refine s_call1 hG hP (by omega) hA2 hn4 hdn hk4 hc g2 g1 ?_
      refine pw_astore (lv' := [(5, _), (4, _), (3, _), (0, _), (1, _)]) dX1_takeField_50 (by decide) rfl ?_
      refine pw_aload dX1_takeField_52 rfl ?_
      refine pw_ifnull dX1_takeField_54 ?_
      refine pw_aload_n dX1_takeField_57 rfl ?_
      refine pw_getR fX1_39 dX1_takeField_58 (sh_lt hG (by decide)) (sh_tg hG 32 rfl) rfl (gr_at hP 28 rfl) ?_
      refine pw_iload dX1_takeField_61 rfl ?_
      refine pw_callV (as := [_]) (kc' := 0) (ks' := 0) lX1_218 dX1_takeField_63 rfl rfl (sh_lt hG (by decide)) (sh_tg hG 13 rfl) (Nat.le_of_ble_eq_true rfl) (by omega) (Nat.le_of_ble_eq_true rfl) (Nat.zero_le _) (Nat.zero_le _) ?_
      refine s_old hG hP (by omega) hA2 hO q1 q2 htc hj (fun hf hd' => ?_) (fun ho => ?_)
      · have e1 : s1 = s' := by rw [g1] at hd'; exact Option.some.inj hd'
        subst e1
        have ek2 : ckF A t v w9 = if ps_arg (A.at s1).pa w9 0 = none then 6 else 0 := by rw [ek, if_pos ⟨hf, hd'⟩]
        refine pw_if_eq (tgt := 76) dX1_takeField_66 (by decide) (fun h66 => ?_) (fun h => absurd (by decide) h)
        refine pw_aload dX1_takeField_76 rfl ?_
        refine pw_lload_n dX1_takeField_78 rfl ?_
        refine pw_callV (as := [_]) (kc' := 0) (ks' := 0) lX1_222 dX1_takeField_79 rfl rfl (by have := hS.1.2; omega) hS.tg (Nat.le_of_ble_eq_true rfl) (by omega) (Nat.le_of_ble_eq_true rfl) (Nat.zero_le _) (Nat.zero_le _) ?_
        refine p_part hS hn4 hsn.2.1 hsn.2.2.2.1 hw9 (fun i9 hp => ?_) (fun hp => ?_)
        · have hil := (ps_arg_lt hp).2.1
          obtain ⟨u, hu⟩ : ∃ u, us[i9]? = some u := ⟨_, List.getElem?_eq_getElem (by omega)⟩
          refine pw_istore (lv' := [(6, _), (5, _), (4, _), (3, _), (0, _), (1, _)]) dX1_takeField_82 (by decide) rfl ?_
          refine pw_iload dX1_takeField_84 rfl ?_
          refine pw_if_ge (tgt := 96) dX1_takeField_86 (by decide) (fun h86 => ?_) (fun h => absurd (nI_pos' (by omega)) h)
          refine pw_aload_n dX1_takeField_96 rfl ?_
          refine pw_dup dX1_takeField_97 rfl ?_
          refine pw_getI fX1_56 dX1_takeField_98 (sh_lt hG (by decide)) (sh_tg hG 32 rfl) rfl ?_
          refine pw_iconst (v := nI 1) dX1_takeField_101 (by decide) ?_
          refine pw_isub dX1_takeField_102 ?_
          refine pw_ti (z := nI rv.length) hla.1 ?_
          refine pw_putI fX1_56 dX1_takeField_103 (Or.inl rfl) (by decide) (sh_lt hG (by decide)) (sh_tg hG 32 rfl) rfl ?_
          refine pw_aload_n dX1_takeField_106 rfl ?_
          refine pw_aload_n dX1_takeField_107 rfl ?_
          refine pw_getR fX1_39 dX1_takeField_108 (sh_lt hG (by decide)) (sh_tg hG 32 rfl) rfl (gr_at hP 28 rfl) ?_
          refine pw_getR fX1_67 dX1_takeField_111 (sh_lt hG (by decide)) (sh_tg hG 13 rfl) rfl (gr_at hP 16 rfl) ?_
          refine pw_iload dX1_takeField_114 rfl ?_
          refine pw_iload dX1_takeField_116 rfl ?_
          refine pw_callV (as := [_, _]) (kc' := 0) (ks' := 0) lX1_226 dX1_takeField_118 rfl rfl (sh_lt hG (by decide)) (sh_tg hG 19 rfl) (Nat.le_of_ble_eq_true rfl) (by omega) (Nat.le_of_ble_eq_true rfl) (Nat.zero_le _) (Nat.zero_le _) ?_
          refine t_fk hG hP (by omega) (h.pop).tc hj hu (by omega) ?_
          refine pw_aload_n dX1_takeField_121 rfl ?_
          refine pw_getR fX1_39 dX1_takeField_122 (sh_lt hG (by decide)) (sh_tg hG 32 rfl) rfl (gr_at hP 28 rfl) ?_
          refine pw_getR fX1_67 dX1_takeField_125 (sh_lt hG (by decide)) (sh_tg hG 13 rfl) rfl (gr_at hP 16 rfl) ?_
          refine pw_iload dX1_takeField_128 rfl ?_
          refine pw_iload dX1_takeField_130 rfl ?_
          refine pw_callV (as := [_, _]) (kc' := 0) (ks' := 0) lX1_230 dX1_takeField_132 rfl rfl (sh_lt hG (by decide)) (sh_tg hG 19 rfl) (Nat.le_of_ble_eq_true rfl) (by omega) (Nat.le_of_ble_eq_true rfl) (Nat.zero_le _) (Nat.zero_le _) ?_
          refine t_fc hG hP (by omega) (h.pop).tc hj hu (by omega) ?_
          refine pw_callV (as := [_, _]) (kc' := 0) (ks' := 0) lX1_112 dX1_takeField_135 rfl rfl (sh_lt hG (by decide)) (sh_tg hG 32 rfl) (Nat.le_of_ble_eq_true rfl) (by omega) (Nat.le_of_ble_eq_true rfl) (Nat.zero_le _) (Nat.zero_le _) ?_
          refine m_push (h.pop) (by omega) hla.2.2.2 (fun I3 J3 h3 => ?_)
          exact pw_vret dX1_takeField_138 rfl (k1 (by rw [ek2, hp]; rfl) _ _ (by rw [ef i9 u hu hp]; exact h3))
        · refine pw_istore (lv' := [(6, _), (5, _), (4, _), (3, _), (0, _), (1, _)]) dX1_takeField_82 (by decide) rfl ?_
          refine pw_iload dX1_takeField_84 rfl ?_
          refine pw_if_ge (tgt := 96) dX1_takeField_86 (by decide) (fun h => absurd h (by decide)) (fun h86 => ?_)
          refine pw_aload_n dX1_takeField_89 rfl ?_
          refine pw_bipush (v := nI 6) dX1_takeField_90 (by decide) ?_
          refine pw_callV (as := [_]) (kc' := 0) (ks' := 0) lX1_152 dX1_takeField_92 rfl rfl (sh_lt hG (by decide)) (sh_tg hG 32 rfl) (Nat.le_of_ble_eq_true rfl) (by omega) (Nat.le_of_ble_eq_true rfl) (Nat.zero_le _) (Nat.zero_le _) ?_
          refine m_fail h (by omega) (e := 6) hx (fun I3 h3 => ?_)
          exact pw_vret dX1_takeField_95 rfl (k0 (by rw [ek2, if_pos hp]; decide) _ (by rw [ek2, if_pos hp]; exact h3))
      · refine pw_if_eq (tgt := 76) dX1_takeField_66 (by decide) (fun h => absurd h (by decide)) (fun h66 => ?_)
        refine pw_aload_n dX1_takeField_69 rfl ?_
        refine pw_bipush (v := nI 7) dX1_takeField_70 (by decide) ?_
        refine pw_callV (as := [_]) (kc' := 0) (ks' := 0) lX1_152 dX1_takeField_72 rfl rfl (sh_lt hG (by decide)) (sh_tg hG 32 rfl) (Nat.le_of_ble_eq_true rfl) (by omega) (Nat.le_of_ble_eq_true rfl) (Nat.zero_le _) (Nat.zero_le _) ?_
        refine m_fail h (by omega) (e := 7) hx (fun I3 h3 => ?_)
        exact pw_vret dX1_takeField_75 rfl (k0 (by rw [ekF ho]; decide) _ (by rw [ekF ho]; exact h3))
    · have ek7 := ekF (fun q => hc (Or.inr q.1))
      refine pw_callV (as := [_]) (kc' := 0) (ks' := 0) lX1_186 dX1_takeField_47 rfl rfl (sh_lt hG (by decide)) (sh_tg hG 13 rfl) (Nat.le_of_ble_eq_true rfl) (by omega) (Nat.le_of_ble_eq_true rfl) (Nat.zero_le _) (Nat.zero_le _) ?_
      refine s_call0 hG hP (by omega) hA2 hn4 hdn hf3 hc ?_
      refine pw_astoreN (lv' := [(5, _), (4, _), (3, _), (0, _), (1, _)]) dX1_takeField_50 (by decide) rfl ?_
      refine pw_aloadN dX1_takeField_52 rfl ?_
      refine pw_ifnullN (tgt := 69) dX1_takeField_54 (by decide) ?_
      refine pw_aload_n dX1_takeField_69 rfl ?_
      refine pw_bipush (v := nI 7) dX1_takeField_70 (by decide) ?_
      refine pw_callV (as := [_]) (kc' := 0) (ks' := 0) lX1_152 dX1_takeField_72 rfl rfl (sh_lt hG (by decide)) (sh_tg hG 32 rfl) (Nat.le_of_ble_eq_true rfl) (by omega) (Nat.le_of_ble_eq_true rfl) (Nat.zero_le _) (Nat.zero_le _) ?_
      refine m_fail h (by omega) (e := 7) hx (fun I3 h3 => ?_)
      exact pw_vret dX1_takeField_75 rfl (k0 (by rw [ek7]; decide) _ (by rw [ek7]; exact h3))
  · refine pw_aload_n dX1_takeField_0 rfl ?_
    refine pw_callV (as := []) (kc' := 0) (ks' := 0) lX1_208 dX1_takeField_1 rfl rfl (sh_lt hG (by decide)) (sh_tg hG 32 rfl) (Nat.le_of_ble_eq_true rfl) (by omega) (Nat.le_of_ble_eq_true rfl) (Nat.zero_le _) (Nat.zero_le _) ?_
    refine m_vk h (by omega) ?_
    refine pw_istore_n (lv' := [(3, _), (0, _), (1, _)]) dX1_takeField_4 (by decide) rfl ?_
    refine pw_iload_n dX1_takeField_5 rfl ?_
    refine pw_iconst (v := nI 2) dX1_takeField_6 (by decide) ?_
    refine pw_icmpN_eq _ _ (tgt := 24) dX1_takeField_7 (by decide) (rfl) (rfl) (by omega) (by omega) (fun h7 => absurd h7 (by omega)) (fun h7 => ?_)
    refine pw_aload_n dX1_takeField_10 rfl ?_
    refine pw_iload_n dX1_takeField_11 rfl ?_
    refine pw_ifN_ne _ (tgt := 19) dX1_takeField_12 (by decide) (rfl) (by omega) (fun h12 => ?_) (fun h12 => ?_)
    · refine pw_iconst (v := nI 3) dX1_takeField_19 (by decide) ?_
      refine pw_callV (as := [_]) (kc' := 0) (ks' := 0) lX1_152 dX1_takeField_20 rfl rfl (sh_lt hG (by decide)) (sh_tg hG 32 rfl) (Nat.le_of_ble_eq_true rfl) (by omega) (Nat.le_of_ble_eq_true rfl) (Nat.zero_le _) (Nat.zero_le _) ?_
      refine m_fail h (by omega) (e := 3) hx (fun I3 h3 => ?_)
      exact pw_vret dX1_takeField_23 rfl (k0 (by unfold ckF; rw [if_neg h2, if_neg h12]; decide) _ (by unfold ckF; rw [if_neg h2, if_neg h12]; exact h3))
    · refine pw_iconst (v := nI 2) dX1_takeField_15 (by decide) ?_
      refine pw_goto (tgt := 20) dX1_takeField_16 (by decide) ?_
      refine pw_callV (as := [_]) (kc' := 0) (ks' := 0) lX1_152 dX1_takeField_20 rfl rfl (sh_lt hG (by decide)) (sh_tg hG 32 rfl) (Nat.le_of_ble_eq_true rfl) (by omega) (Nat.le_of_ble_eq_true rfl) (Nat.zero_le _) (Nat.zero_le _) ?_
      refine m_fail h (by omega) (e := 2) hx (fun I3 h3 => ?_)
      exact pw_vret dX1_takeField_23 rfl (k0 (by unfold ckF; rw [if_neg h2, if_pos h12]; decide) _ (by unfold ckF; rw [if_neg h2, if_pos h12]; exact h3))
set_option maxRecDepth 20000 in
set_option maxHeartbeats 4000000 in
theorem dn_field {l : Launch} {E : pmE} {d : Nat} {S : pmS} {I : pmI} {J : pmJ} {P : pmP} {Q : Option Value → pmS → pmI → pmJ → pmP → Prop} {S0 : pmS} {I0 : pmI} {J0 : pmJ} {P0 : pmP} {b0 : Nat} {A : aS} {c i bs s b m : Nat} {w : Int32} {rv : List vV} {fr : List (Nat × Nat × Nat)} {t : List tH} {v : vV} (h : mS S0 I0 J0 P0 b0 A S I J P c w i bs (rv ++ [v]) fr s t b m) (hd : 6 ≤ d) {L : List dE} (hx : kX S0 I0 J0 P0 b0 c L) {w9 : Int64} (hi : L[i]? = some (9, 0, hN A.ns w9)) {Z : Nat → Nat} (hA : cA S0 I0 J0 P0 A Z b0) (hO : aO A) (hT : tO A t) (hv : vO t.length v) (ht9 : t.length ≤ 16000) (hw9 : w9 ∈ A.ns) (k1 : ckF A t v w9 = 0 → ∀ I' J', mS S0 I0 J0 P0 b0 A S I' J' P c (nI i) (i + 1) bs (rv ++ [fdV A t v w9]) fr s t b m → Q none S I' J' P) (k0 : ckF A t v w9 ≠ 0 → ∀ I', mE S0 I0 J0 P0 b0 A S I' J P (ckF A t v w9) b m → Q none S I' J P) : pm_Met l E yX1_doNext cX1_doNext 2 none d 0 0 [.ref 34] S I J P Q := by
  have hG := h.hG
  have hP := h.hP
  refine m_dn h (by omega) hx hi (kk := 9) rfl (fun I1 h1 => ?_)
  obtain ⟨rm, hk2⟩ := hx.now h1
  refine pw_iload_n dX1_doNext_30 rfl ?_
  refine pw_bipush (v := nI 7) dX1_doNext_31 (by decide) ?_
  refine pw_icmp_ge (tgt := 44) dX1_doNext_33 (by decide) (fun h33 => ?_) (fun h => absurd (by decide) h)
  refine pw_iload_n dX1_doNext_44 rfl ?_
  refine pw_tableIn (off := 222) (tgt := 267) dX1_doNext_45 (by decide) (by decide) (by decide) (by decide) ?_
  refine pw_aload_n dX1_doNext_267 rfl ?_
  refine pw_aload_n dX1_doNext_268 rfl ?_
  refine pw_getR fX1_35 dX1_doNext_269 (sh_lt hG (by decide)) (sh_tg hG 32 rfl) rfl h1.cd ?_
  refine pw_aload_n dX1_doNext_272 rfl ?_
  refine pw_getI fX1_101 dX1_doNext_273 (sh_lt hG (by decide)) (sh_tg hG 32 rfl) rfl ?_
  refine pw_ti (z := nI i) h1.w' ?_
  refine pw_callV (as := [_]) (kc' := 0) (ks' := 0) lX1_111 dX1_doNext_276 rfl rfl (by have := hk2.1.2; omega) hk2.2.1 (Nat.le_of_ble_eq_true rfl) (by omega) (Nat.le_of_ble_eq_true rfl) (Nat.zero_le _) (Nat.zero_le _) ?_
  refine k_core hk2 hi (show (9 : Nat) ≠ 1 by decide) ?_
  refine pw_callV (as := [_]) (kc' := 0) (ks' := 0) lX1_136 dX1_doNext_279 rfl rfl (sh_lt hG (by decide)) (sh_tg hG 32 rfl) (Nat.le_of_ble_eq_true rfl) (by omega) (Nat.le_of_ble_eq_true rfl) (Nat.zero_le _) (Nat.zero_le _) ?_
  refine m_field h1 (by omega) hA hO hx hT hv ht9 hw9 (fun hw I3 J3 h3 => ?_) (fun hw I3 h3 => ?_)
  · refine pw_goto (tgt := 345) dX1_doNext_282 (by decide) ?_
    exact pw_vret dX1_doNext_345 rfl (k1 hw _ _ h3)
  · refine pw_goto (tgt := 345) dX1_doNext_282 (by decide) ?_
    exact pw_vret dX1_doNext_345 rfl (k0 hw _ h3)
