set_option maxRecDepth 20000 in
set_option maxHeartbeats 4000000 in
theorem m_enter {l : Launch} {E : pmE} {d : Nat} {S : pmS} {I : pmI} {J : pmJ} {P : pmP} {Q : Option Value → pmS → pmI → pmJ → pmP → Prop} {S0 : pmS} {I0 : pmI} {J0 : pmJ} {P0 : pmP} {b0 : Nat} {A : aS} {c i bs s b m : Nat} {w : Int32} {rv : List vV} {fr : List (Nat × Nat × Nat)} {t : List tH} (h : mS S0 I0 J0 P0 b0 A S I J P c w i bs rv fr s t b m) (hd : 1 ≤ d) {L : List dE} (hx : kX S0 I0 J0 P0 b0 c L) (hl : fr.length < 20) {c' x : Nat} (k : ∀ I' P', mS S0 I0 J0 P0 b0 A S I' J P' c' w 0 x rv (fr ++ [(c, i, bs)]) s t b m → Q none S I' J P') : pm_Met l E yX1_enterMember cX1_enterMember 3 none d 0 0 [.ref 34, .ref c', .int (nI x)] S I J P Q := by
  unfold pm_Met
  have hG := h.hG
  have hP := h.hP
  obtain ⟨rm, hk⟩ := hx.now h
  refine pm_lvs (lv' := [(0, _), (1, _), (2, _)]) rfl ?_
  refine pw_aload_n dX1_enterMember_0 rfl ?_
  refine pw_getI fX1_85 dX1_enterMember_1 (sh_lt hG (by decide)) (sh_tg hG 32 rfl) rfl ?_
  refine pw_bipush (v := nI 20) dX1_enterMember_4 (by decide) ?_
  refine pw_icmpN_lt _ _ (tgt := 16) dX1_enterMember_6 (by decide) (h.mb) (rfl) (by omega) (by omega) (fun h6 => ?_) (fun h6 => absurd h6 (by omega))
  refine pw_aload_n dX1_enterMember_16 rfl ?_
  refine pw_getR fX1_20 dX1_enterMember_17 (sh_lt hG (by decide)) (sh_tg hG 32 rfl) rfl (gr_at hP 30 rfl) ?_
  refine pw_aload_n dX1_enterMember_20 rfl ?_
  refine pw_getI fX1_85 dX1_enterMember_21 (sh_lt hG (by decide)) (sh_tg hG 32 rfl) rfl ?_
  refine pw_aload_n dX1_enterMember_24 rfl ?_
  refine pw_getR fX1_35 dX1_enterMember_25 (sh_lt hG (by decide)) (sh_tg hG 32 rfl) rfl h.cd ?_
  refine pw_aastN (ci := 4) fr.length dX1_enterMember_28 (by decide) (sh_lt hG (by decide)) (sh_sh hG 36 rfl) (by decide) (by decide) (h.mb) (by omega) (by have := hk.1.2; omega) hk.2.1 ?_
  have hP := hP.upd1 (a := 38) (k := fr.length) (v := some c) (by decide)
  refine pw_aload_n dX1_enterMember_29 rfl ?_
  refine pw_getR fX1_24 dX1_enterMember_30 (sh_lt hG (by decide)) (sh_tg hG 32 rfl) rfl (gr_at hP 31 rfl) ?_
  refine pw_aload_n dX1_enterMember_33 rfl ?_
  refine pw_getI fX1_85 dX1_enterMember_34 (sh_lt hG (by decide)) (sh_tg hG 32 rfl) rfl ?_
  refine pw_aload_n dX1_enterMember_37 rfl ?_
  refine pw_getI fX1_79 dX1_enterMember_38 (sh_lt hG (by decide)) (sh_tg hG 32 rfl) rfl ?_
  refine pw_ti (z := nI i) h.i' ?_
  refine pw_iastN fr.length dX1_enterMember_41 (by decide) (sh_lt hG (by decide)) (sh_sh hG 37 rfl) (by decide) (h.mb) (by omega) ?_
  refine pw_aload_n dX1_enterMember_42 rfl ?_
  refine pw_getR fX1_28 dX1_enterMember_43 (sh_lt hG (by decide)) (sh_tg hG 32 rfl) rfl (gr_at hP 32 rfl) ?_
  refine pw_aload_n dX1_enterMember_46 rfl ?_
  refine pw_getI fX1_85 dX1_enterMember_47 (sh_lt hG (by decide)) (sh_tg hG 32 rfl) rfl ?_
  refine pw_aload_n dX1_enterMember_50 rfl ?_
  refine pw_getI fX1_82 dX1_enterMember_51 (sh_lt hG (by decide)) (sh_tg hG 32 rfl) rfl ?_
  refine pw_ti (z := nI bs) (by rw [pm_u_ne (by decide)]; exact h.bs') ?_
  refine pw_iastN fr.length dX1_enterMember_54 (by decide) (sh_lt hG (by decide)) (sh_sh hG 38 rfl) (by decide) (by rw [pm_u_ne (by decide)]; exact h.mb) (by omega) ?_
  refine pw_aload_n dX1_enterMember_55 rfl ?_
  refine pw_dup dX1_enterMember_56 rfl ?_
  refine pw_getI fX1_85 dX1_enterMember_57 (sh_lt hG (by decide)) (sh_tg hG 32 rfl) rfl ?_
  refine pw_iconst (v := nI 1) dX1_enterMember_60 (by decide) ?_
  refine pw_iadd dX1_enterMember_61 ?_
  refine pw_ti (z := nI (fr.length + 1)) (by rw [pm_u_ne (by decide), pm_u_ne (by decide), h.mb]; exact nI_add _ 1) ?_
  refine pw_putI fX1_85 dX1_enterMember_62 (Or.inl rfl) (by decide) (sh_lt hG (by decide)) (sh_tg hG 32 rfl) rfl ?_
  refine pw_aload_n dX1_enterMember_65 rfl ?_
  refine pw_aload_n dX1_enterMember_66 rfl ?_
  refine pw_putP fX1_35 dX1_enterMember_67 rfl (Or.inl rfl) (by decide) (sh_lt hG (by decide)) (sh_tg hG 32 rfl) rfl ?_
  refine pw_aload_n dX1_enterMember_70 rfl ?_
  refine pw_iconst (v := nI 0) dX1_enterMember_71 (by decide) ?_
  refine pw_putI fX1_79 dX1_enterMember_72 (Or.inl rfl) (by decide) (sh_lt hG (by decide)) (sh_tg hG 32 rfl) rfl ?_
  refine pw_aload_n dX1_enterMember_75 rfl ?_
  refine pw_iload_n dX1_enterMember_76 rfl ?_
  refine pw_putI fX1_82 dX1_enterMember_77 (Or.inl rfl) (by decide) (sh_lt hG (by decide)) (sh_tg hG 32 rfl) rfl ?_
  exact pw_vret dX1_enterMember_80 rfl (k _ _ (h.enter hl c' x))

theorem ap_at {α : Type} {rv us : List α} {i : Nat} {v : α} (h : us[i]? = some v) : (rv ++ us)[rv.length + i]? = some v := by
  rw [List.getElem?_append_right (by omega), show rv.length + i - rv.length = i by omega]; exact h
set_option maxRecDepth 20000 in
set_option maxHeartbeats 4000000 in
theorem m_call0 {l : Launch} {E : pmE} {d : Nat} {S : pmS} {I : pmI} {J : pmJ} {P : pmP} {Q : Option Value → pmS → pmI → pmJ → pmP → Prop} {S0 : pmS} {I0 : pmI} {J0 : pmJ} {P0 : pmP} {b0 : Nat} {A : aS} {c i bs s b m : Nat} {w : Int32} {rv : List vV} {fr : List (Nat × Nat × Nat)} {t : List tH} {us : List vV} (h : mS S0 I0 J0 P0 b0 A S I J P c w i bs (rv ++ us) fr s t b m) (hd : 4 ≤ d) {Z : Nat → Nat} (hA : cA S0 I0 J0 P0 A Z b0) (hO : aO A) {s' : Nat} (hs' : s' < A.sn.length) (hdn : (A.at s').dec ∈ A.ns) (hdc : A.dc (A.at s').dec = some s') (hff : (A.at s').form = A.fm (A.at s').dec) (hf : A.fm (A.at s').dec = 3) (hed : (A.at s').ed = A.ed (A.at s').dec) (hv3 : ∀ q ∈ t, q.2.length ≤ 3) (hu3 : us.length ≤ 3) (hrl : rv.length < 401) (ht9 : t.length ≤ 16000) (hl : t.length < m) (k : ∀ I' J', mS S0 I0 J0 P0 b0 A S I' J' P c w i bs (rv ++ [(2, lN t.length)]) fr s (t ++ [(s', us)]) b m → Q none S I' J' P) : pm_Met l E yX1_call cX1_call 6 none d 0 0 [.ref 34, (.int (nI (A.ns.idxOf (A.at s').dec))), .int (nI us.length)] S I J P Q := by
  unfold pm_Met
  have hG := h.hG
  have hP := h.hP
  have hA2 := h.ca hA
  have hr4 := hO.r
  have hk4 := hO.k
  have hn4 := hO.1.2
  have hS := (hA2.sn hs').2.1
  have hlm := h.lm.1
  rw [List.length_append] at hlm
  refine pm_lvs (lv' := [(0, _), (1, _), (2, _)]) rfl ?_
  refine pw_aload_n dX1_call_0 rfl ?_
  refine pw_getR fX1_39 dX1_call_1 (sh_lt hG (by decide)) (sh_tg hG 32 rfl) rfl (gr_at hP 28 rfl) ?_
  refine pw_iload_n dX1_call_4 rfl ?_
  refine pw_callV (as := [_]) (kc' := 0) (ks' := 0) lX1_186 dX1_call_5 rfl rfl (sh_lt hG (by decide)) (sh_tg hG 13 rfl) (Nat.le_of_ble_eq_true rfl) (by omega) (Nat.le_of_ble_eq_true rfl) (Nat.zero_le _) (Nat.zero_le _) ?_
  refine s_call1 hG hP (by omega) hA2 hn4 hdn hk4 (by omega) hs' hdc ?_
  refine pw_astore_n (lv' := [(3, _), (0, _), (1, _), (2, _)]) dX1_call_8 (by decide) rfl ?_
  refine pw_aload_n dX1_call_9 rfl ?_
  refine pw_getI fX1_56 dX1_call_10 (sh_lt hG (by decide)) (sh_tg hG 32 rfl) rfl ?_
  refine pw_iload_n dX1_call_13 rfl ?_
  refine pw_isub dX1_call_14 ?_
  refine pw_ti (z := nI rv.length) (by rw [h.tp, List.length_append, ← nI_add, Int32.add_sub_cancel]) ?_
  refine pw_istore (lv' := [(4, _), (3, _), (0, _), (1, _), (2, _)]) dX1_call_15 (by decide) rfl ?_
  refine pw_aload_n dX1_call_17 rfl ?_
  refine pw_ifnonnull (tgt := 29) dX1_call_18 (by decide) ?_
  refine pw_aload_n dX1_call_29 rfl ?_
  refine pw_callV (as := []) (kc' := 0) (ks' := 0) lX1_191 dX1_call_30 rfl rfl (by have := hS.1.2; omega) hS.tg (Nat.le_of_ble_eq_true rfl) (by omega) (Nat.le_of_ble_eq_true rfl) (Nat.zero_le _) (Nat.zero_le _) ?_
  refine p_form hS ?_
  refine pw_iconst (v := nI 3) dX1_call_33 (by decide) ?_
  refine pw_icmpN_ne _ _ (tgt := 85) dX1_call_34 (by decide) (rfl) (rfl) (by omega) (by omega) (fun h34 => absurd h34 (by omega)) (fun h34 => ?_)
  refine pw_aload_n dX1_call_37 rfl ?_
  refine pw_getR fX1_39 dX1_call_38 (sh_lt hG (by decide)) (sh_tg hG 32 rfl) rfl (gr_at hP 28 rfl) ?_
  refine pw_getR fX1_67 dX1_call_41 (sh_lt hG (by decide)) (sh_tg hG 13 rfl) rfl (gr_at hP 16 rfl) ?_
  refine pw_iload_n dX1_call_44 rfl ?_
  refine pw_aload_n dX1_call_45 rfl ?_
  refine pw_getR fX1_39 dX1_call_46 (sh_lt hG (by decide)) (sh_tg hG 32 rfl) rfl (gr_at hP 28 rfl) ?_
  refine pw_getR fX1_172 dX1_call_49 (sh_lt hG (by decide)) (sh_tg hG 13 rfl) rfl (gr_at hP 15 rfl) ?_
  refine pw_iload_n dX1_call_52 rfl ?_
  refine pw_callV (as := [_]) (kc' := 0) (ks' := 0) lX1_194 dX1_call_53 rfl rfl (sh_lt hG (by decide)) (sh_tg hG 14 rfl) (Nat.le_of_ble_eq_true rfl) (by omega) (Nat.le_of_ble_eq_true rfl) (Nat.zero_le _) (Nat.zero_le _) ?_
  refine n_edit hG hP (by omega) hA2 hn4 hdn ?_
  refine pw_ti (z := nI (A.at s').ed) (by rw [hed]) ?_
  refine pw_aload_n dX1_call_56 rfl ?_
  refine pw_getR fX1_14 dX1_call_57 (sh_lt hG (by decide)) (sh_tg hG 32 rfl) rfl (gr_at hP 29 rfl) ?_
  refine pw_iload dX1_call_60 rfl ?_
  refine pw_iload_n dX1_call_62 rfl ?_
  refine pw_callV (as := [_, _, _, _, _]) (kc' := 0) (ks' := 0) lX1_197 dX1_call_63 rfl rfl (sh_lt hG (by decide)) (sh_tg hG 19 rfl) (Nat.le_of_ble_eq_true rfl) (by omega) (Nat.le_of_ble_eq_true rfl) (Nat.zero_le _) (Nat.zero_le _) ?_
  refine m_make0 (s' := s') h (by omega) hv3 hl hu3 (fun i9 v9 h9 => ap_at h9) (fun I1 J1 h1 => ?_)
  refine pw_istore (lv' := [(5, _), (4, _), (3, _), (0, _), (1, _), (2, _)]) dX1_call_66 (by decide) rfl ?_
  refine pw_aload_n dX1_call_68 rfl ?_
  refine pw_iload dX1_call_69 rfl ?_
  refine pw_putI fX1_56 dX1_call_71 (Or.inl rfl) (by decide) (sh_lt hG (by decide)) (sh_tg hG 32 rfl) rfl ?_
  refine pw_aload_n dX1_call_74 rfl ?_
  refine pw_iconst (v := nI 2) dX1_call_75 (by decide) ?_
  refine pw_iload dX1_call_76 rfl ?_
  refine pw_i2l dX1_call_78 ?_
  refine pw_tj (z := lN t.length) (nI_l (by omega)) ?_
  refine pw_callV (as := [_, _]) (kc' := 0) (ks' := 0) lX1_112 dX1_call_79 rfl rfl (sh_lt hG (by decide)) (sh_tg hG 32 rfl) (Nat.le_of_ble_eq_true rfl) (by omega) (Nat.le_of_ble_eq_true rfl) (Nat.zero_le _) (Nat.zero_le _) ?_
  refine m_push (h1.pop) (by omega) (v := (2, lN t.length)) hrl (fun I3 J3 h3 => ?_)
  refine pw_goto (tgt := 95) dX1_call_82 (by decide) ?_
  exact pw_vret dX1_call_95 rfl (k _ _ h3)

set_option maxRecDepth 20000 in
set_option maxHeartbeats 4000000 in
theorem m_call1 {l : Launch} {E : pmE} {d : Nat} {S : pmS} {I : pmI} {J : pmJ} {P : pmP} {Q : Option Value → pmS → pmI → pmJ → pmP → Prop} {S0 : pmS} {I0 : pmI} {J0 : pmJ} {P0 : pmP} {b0 : Nat} {A : aS} {c i bs s b m : Nat} {w : Int32} {rv : List vV} {fr : List (Nat × Nat × Nat)} {t : List tH} {us : List vV} (h : mS S0 I0 J0 P0 b0 A S I J P c w i bs (rv ++ us) fr s t b m) (hd : 5 ≤ d) {Z : Nat → Nat} (hA : cA S0 I0 J0 P0 A Z b0) (hO : aO A) {s' : Nat} (hs' : s' < A.sn.length) (hdn : (A.at s').dec ∈ A.ns) (hdc : A.dc (A.at s').dec = some s') (hff : (A.at s').form = A.fm (A.at s').dec) (hf : A.fm (A.at s').dec = 3) (hed : (A.at s').ed = A.ed (A.at s').dec) (hv3 : ∀ q ∈ t, q.2.length ≤ 3) (hu3 : us.length ≤ 3) (hrl : rv.length < 401) (ht9 : t.length ≤ 16000) (hl : m ≤ t.length) (k : ∀ S' I' J' P', mS S0 I0 J0 P0 b0 A S' I' J' P' c w i bs (rv ++ [(2, lN t.length)]) fr s (t ++ [(s', us)]) S.1 (2 * m) → Q none S' I' J' P') : pm_Met l E yX1_call cX1_call 6 none d 5 (18 * m) [.ref 34, (.int (nI (A.ns.idxOf (A.at s').dec))), .int (nI us.length)] S I J P Q := by
  unfold pm_Met
  have hG := h.hG
  have hP := h.hP
  have hA2 := h.ca hA
  have hr4 := hO.r
  have hk4 := hO.k
  have hn4 := hO.1.2
  have hS := (hA2.sn hs').2.1
  have hlm := h.lm.1
  rw [List.length_append] at hlm
  refine pm_lvs (lv' := [(0, _), (1, _), (2, _)]) rfl ?_
  refine pw_aload_n dX1_call_0 rfl ?_
  refine pw_getR fX1_39 dX1_call_1 (sh_lt hG (by decide)) (sh_tg hG 32 rfl) rfl (gr_at hP 28 rfl) ?_
  refine pw_iload_n dX1_call_4 rfl ?_
  refine pw_callV (as := [_]) (kc' := 0) (ks' := 0) lX1_186 dX1_call_5 rfl rfl (sh_lt hG (by decide)) (sh_tg hG 13 rfl) (Nat.le_of_ble_eq_true rfl) (by omega) (Nat.le_of_ble_eq_true rfl) (Nat.zero_le _) (Nat.zero_le _) ?_
  refine s_call1 hG hP (by omega) hA2 hn4 hdn hk4 (by omega) hs' hdc ?_
  refine pw_astore_n (lv' := [(3, _), (0, _), (1, _), (2, _)]) dX1_call_8 (by decide) rfl ?_
  refine pw_aload_n dX1_call_9 rfl ?_
  refine pw_getI fX1_56 dX1_call_10 (sh_lt hG (by decide)) (sh_tg hG 32 rfl) rfl ?_
  refine pw_iload_n dX1_call_13 rfl ?_
  refine pw_isub dX1_call_14 ?_
  refine pw_ti (z := nI rv.length) (by rw [h.tp, List.length_append, ← nI_add, Int32.add_sub_cancel]) ?_
  refine pw_istore (lv' := [(4, _), (3, _), (0, _), (1, _), (2, _)]) dX1_call_15 (by decide) rfl ?_
  refine pw_aload_n dX1_call_17 rfl ?_
  refine pw_ifnonnull (tgt := 29) dX1_call_18 (by decide) ?_
  refine pw_aload_n dX1_call_29 rfl ?_
  refine pw_callV (as := []) (kc' := 0) (ks' := 0) lX1_191 dX1_call_30 rfl rfl (by have := hS.1.2; omega) hS.tg (Nat.le_of_ble_eq_true rfl) (by omega) (Nat.le_of_ble_eq_true rfl) (Nat.zero_le _) (Nat.zero_le _) ?_
  refine p_form hS ?_
  refine pw_iconst (v := nI 3) dX1_call_33 (by decide) ?_
  refine pw_icmpN_ne _ _ (tgt := 85) dX1_call_34 (by decide) (rfl) (rfl) (by omega) (by omega) (fun h34 => absurd h34 (by omega)) (fun h34 => ?_)
  refine pw_aload_n dX1_call_37 rfl ?_
  refine pw_getR fX1_39 dX1_call_38 (sh_lt hG (by decide)) (sh_tg hG 32 rfl) rfl (gr_at hP 28 rfl) ?_
  refine pw_getR fX1_67 dX1_call_41 (sh_lt hG (by decide)) (sh_tg hG 13 rfl) rfl (gr_at hP 16 rfl) ?_
  refine pw_iload_n dX1_call_44 rfl ?_
  refine pw_aload_n dX1_call_45 rfl ?_
  refine pw_getR fX1_39 dX1_call_46 (sh_lt hG (by decide)) (sh_tg hG 32 rfl) rfl (gr_at hP 28 rfl) ?_
  refine pw_getR fX1_172 dX1_call_49 (sh_lt hG (by decide)) (sh_tg hG 13 rfl) rfl (gr_at hP 15 rfl) ?_
  refine pw_iload_n dX1_call_52 rfl ?_
  refine pw_callV (as := [_]) (kc' := 0) (ks' := 0) lX1_194 dX1_call_53 rfl rfl (sh_lt hG (by decide)) (sh_tg hG 14 rfl) (Nat.le_of_ble_eq_true rfl) (by omega) (Nat.le_of_ble_eq_true rfl) (Nat.zero_le _) (Nat.zero_le _) ?_
  refine n_edit hG hP (by omega) hA2 hn4 hdn ?_
  refine pw_ti (z := nI (A.at s').ed) (by rw [hed]) ?_
  refine pw_aload_n dX1_call_56 rfl ?_
  refine pw_getR fX1_14 dX1_call_57 (sh_lt hG (by decide)) (sh_tg hG 32 rfl) rfl (gr_at hP 29 rfl) ?_
  refine pw_iload dX1_call_60 rfl ?_
  refine pw_iload_n dX1_call_62 rfl ?_
  refine pw_callV (as := [_, _, _, _, _]) (kc' := 5) (ks' := (18 * m)) lX1_197 dX1_call_63 rfl rfl (sh_lt hG (by decide)) (sh_tg hG 19 rfl) (Nat.le_of_ble_eq_true rfl) (by omega) (Nat.le_of_ble_eq_true rfl) (by omega) (by omega) ?_
  refine m_make1 (s' := s') h (by omega) hv3 hl hu3 (fun i9 v9 h9 => ap_at h9) ht9 (fun S1 I1 J1 P1 h1 => ?_)
  have hG := h1.hG
  have hP := h1.hP
  refine pw_istore (lv' := [(5, _), (4, _), (3, _), (0, _), (1, _), (2, _)]) dX1_call_66 (by decide) rfl ?_
  refine pw_aload_n dX1_call_68 rfl ?_
  refine pw_iload dX1_call_69 rfl ?_
  refine pw_putI fX1_56 dX1_call_71 (Or.inl rfl) (by decide) (sh_lt hG (by decide)) (sh_tg hG 32 rfl) rfl ?_
  refine pw_aload_n dX1_call_74 rfl ?_
  refine pw_iconst (v := nI 2) dX1_call_75 (by decide) ?_
  refine pw_iload dX1_call_76 rfl ?_
  refine pw_i2l dX1_call_78 ?_
  refine pw_tj (z := lN t.length) (nI_l (by omega)) ?_
  refine pw_callV (as := [_, _]) (kc' := 0) (ks' := 0) lX1_112 dX1_call_79 rfl rfl (sh_lt hG (by decide)) (sh_tg hG 32 rfl) (Nat.le_of_ble_eq_true rfl) (by omega) (Nat.le_of_ble_eq_true rfl) (Nat.zero_le _) (Nat.zero_le _) ?_
  refine m_push (h1.pop) (by omega) (v := (2, lN t.length)) hrl (fun I3 J3 h3 => ?_)
  refine pw_goto (tgt := 95) dX1_call_82 (by decide) ?_
  exact pw_vret dX1_call_95 rfl (k _ _ _ _ h3)

set_option maxRecDepth 20000 in
set_option maxHeartbeats 4000000 in
theorem m_callM {l : Launch} {E : pmE} {d : Nat} {S : pmS} {I : pmI} {J : pmJ} {P : pmP} {Q : Option Value → pmS → pmI → pmJ → pmP → Prop} {S0 : pmS} {I0 : pmI} {J0 : pmJ} {P0 : pmP} {b0 : Nat} {A : aS} {c i bs s b m : Nat} {w : Int32} {rv : List vV} {fr : List (Nat × Nat × Nat)} {t : List tH} {us : List vV} (h : mS S0 I0 J0 P0 b0 A S I J P c w i bs (rv ++ us) fr s t b m) (hd : 4 ≤ d) {Z : Nat → Nat} (hA : cA S0 I0 J0 P0 A Z b0) (hO : aO A) {s' : Nat} (hs' : s' < A.sn.length) (hdn : (A.at s').dec ∈ A.ns) (hdc : A.dc (A.at s').dec = some s') (hff : (A.at s').form = A.fm (A.at s').dec) {L : List dE} (hx : kX S0 I0 J0 P0 b0 c L) (hf : A.fm (A.at s').dec = 2) (hl : fr.length < 20) (k : ∀ I' P', mS S0 I0 J0 P0 b0 A S I' J P' (Z s' + 3) w 0 rv.length (rv ++ us) (fr ++ [(c, i, bs)]) s t b m → Q none S I' J P') : pm_Met l E yX1_call cX1_call 6 none d 0 0 [.ref 34, (.int (nI (A.ns.idxOf (A.at s').dec))), .int (nI us.length)] S I J P Q := by
  unfold pm_Met
  have hG := h.hG
  have hP := h.hP
  have hA2 := h.ca hA
  have hr4 := hO.r
  have hk4 := hO.k
  have hn4 := hO.1.2
  have hS := (hA2.sn hs').2.1
  have hlm := h.lm.1
  rw [List.length_append] at hlm
  refine pm_lvs (lv' := [(0, _), (1, _), (2, _)]) rfl ?_
  refine pw_aload_n dX1_call_0 rfl ?_
  refine pw_getR fX1_39 dX1_call_1 (sh_lt hG (by decide)) (sh_tg hG 32 rfl) rfl (gr_at hP 28 rfl) ?_
  refine pw_iload_n dX1_call_4 rfl ?_
  refine pw_callV (as := [_]) (kc' := 0) (ks' := 0) lX1_186 dX1_call_5 rfl rfl (sh_lt hG (by decide)) (sh_tg hG 13 rfl) (Nat.le_of_ble_eq_true rfl) (by omega) (Nat.le_of_ble_eq_true rfl) (Nat.zero_le _) (Nat.zero_le _) ?_
  refine s_call1 hG hP (by omega) hA2 hn4 hdn hk4 (by omega) hs' hdc ?_
  refine pw_astore_n (lv' := [(3, _), (0, _), (1, _), (2, _)]) dX1_call_8 (by decide) rfl ?_
  refine pw_aload_n dX1_call_9 rfl ?_
  refine pw_getI fX1_56 dX1_call_10 (sh_lt hG (by decide)) (sh_tg hG 32 rfl) rfl ?_
  refine pw_iload_n dX1_call_13 rfl ?_
  refine pw_isub dX1_call_14 ?_
  refine pw_ti (z := nI rv.length) (by rw [h.tp, List.length_append, ← nI_add, Int32.add_sub_cancel]) ?_
  refine pw_istore (lv' := [(4, _), (3, _), (0, _), (1, _), (2, _)]) dX1_call_15 (by decide) rfl ?_
  refine pw_aload_n dX1_call_17 rfl ?_
  refine pw_ifnonnull (tgt := 29) dX1_call_18 (by decide) ?_
  refine pw_aload_n dX1_call_29 rfl ?_
  refine pw_callV (as := []) (kc' := 0) (ks' := 0) lX1_191 dX1_call_30 rfl rfl (by have := hS.1.2; omega) hS.tg (Nat.le_of_ble_eq_true rfl) (by omega) (Nat.le_of_ble_eq_true rfl) (Nat.zero_le _) (Nat.zero_le _) ?_
  refine p_form hS ?_
  refine pw_iconst (v := nI 3) dX1_call_33 (by decide) ?_
  refine pw_icmpN_ne _ _ (tgt := 85) dX1_call_34 (by decide) (rfl) (rfl) (by omega) (by omega) (fun h34 => ?_) (fun h34 => absurd h34 (by omega))
  refine pw_aload_n dX1_call_85 rfl ?_
  refine pw_aload_n dX1_call_86 rfl ?_
  refine pw_callV (as := []) (kc' := 0) (ks' := 0) lX1_201 dX1_call_87 rfl rfl (by have := hS.1.2; omega) hS.tg (Nat.le_of_ble_eq_true rfl) (by omega) (Nat.le_of_ble_eq_true rfl) (Nat.zero_le _) (Nat.zero_le _) ?_
  refine p_code hS ?_
  refine pw_iload dX1_call_90 rfl ?_
  refine pw_callV (as := [_, _]) (kc' := 0) (ks' := 0) lX1_204 dX1_call_92 rfl rfl (sh_lt hG (by decide)) (sh_tg hG 32 rfl) (Nat.le_of_ble_eq_true rfl) (by omega) (Nat.le_of_ble_eq_true rfl) (Nat.zero_le _) (Nat.zero_le _) ?_
  refine m_enter h (by omega) hx hl (fun I1 P1 h1 => ?_)
  exact pw_vret dX1_call_95 rfl (k _ _ h1)

set_option maxRecDepth 20000 in
set_option maxHeartbeats 4000000 in
theorem m_leave {l : Launch} {E : pmE} {d : Nat} {S : pmS} {I : pmI} {J : pmJ} {P : pmP} {Q : Option Value → pmS → pmI → pmJ → pmP → Prop} {S0 : pmS} {I0 : pmI} {J0 : pmJ} {P0 : pmP} {b0 : Nat} {A : aS} {c i s b m : Nat} {w : Int32} {rv : List vV} {fr : List (Nat × Nat × Nat)} {t : List tH} {us : List vV} {v : vV} {c' i' bs' : Nat} (h : mS S0 I0 J0 P0 b0 A S I J P c w i rv.length ((rv ++ us) ++ [v]) (fr ++ [(c', i', bs')]) s t b m) (hd : 2 ≤ d) (hrl : rv.length < 401) (k : ∀ I' J' P', mS S0 I0 J0 P0 b0 A S I' J' P' c' w i' bs' (rv ++ [v]) fr s t b m → Q none S I' J' P') : pm_Met l E yX1_leaveMember cX1_leaveMember 4 none d 0 0 [.ref 34] S I J P Q := by
  unfold pm_Met
  have hG := h.hG
  have hP := h.hP
  have hmb : I 34 11 = nI (fr.length + 1) := by rw [h.mb, List.length_append]; rfl
  have hca := h.caller
  have hp : mS S0 I0 J0 P0 b0 A S (pm_u I 34 10 (nI rv.length)) J P c w i rv.length rv (fr ++ [(c', i', bs')]) s t b m := by
    have h9 := h
    rw [List.append_assoc] at h9
    exact h9.pop
  refine pm_lvs (lv' := [(0, _)]) rfl ?_
  refine pw_aload_n dX1_leaveMember_0 rfl ?_
  refine pw_getI fX1_85 dX1_leaveMember_1 (sh_lt hG (by decide)) (sh_tg hG 32 rfl) rfl ?_
  refine pw_ifN_le _ (tgt := 30) dX1_leaveMember_4 (by decide) (hmb) (by omega) (fun h4 => absurd h4 (by omega)) (fun h4 => ?_)
  refine pw_aload_n dX1_leaveMember_7 rfl ?_
  refine pw_getI fX1_85 dX1_leaveMember_8 (sh_lt hG (by decide)) (sh_tg hG 32 rfl) rfl ?_
  refine pw_bipush (v := nI 20) dX1_leaveMember_11 (by decide) ?_
  refine pw_icmpN_gt _ _ (tgt := 30) dX1_leaveMember_13 (by decide) (hmb) (rfl) (by omega) (by omega) (fun h13 => absurd h13 (by omega)) (fun h13 => ?_)
  refine pw_aload_n dX1_leaveMember_16 rfl ?_
  refine pw_getR fX1_20 dX1_leaveMember_17 (sh_lt hG (by decide)) (sh_tg hG 32 rfl) rfl (gr_at hP 30 rfl) ?_
  refine pw_aload_n dX1_leaveMember_20 rfl ?_
  refine pw_getI fX1_85 dX1_leaveMember_21 (sh_lt hG (by decide)) (sh_tg hG 32 rfl) rfl ?_
  refine pw_iconst (v := nI 1) dX1_leaveMember_24 (by decide) ?_
  refine pw_isub dX1_leaveMember_25 ?_
  refine pw_ti (z := nI fr.length) (by rw [hmb]; exact nI_pred _) ?_
  refine pw_aaldN (r := some c') fr.length dX1_leaveMember_26 (sh_lt hG (by decide)) (sh_sh hG 36 rfl) (by decide) (by decide) (rfl) (by omega) hca.1 ?_
  refine pw_ifnonnull (tgt := 36) dX1_leaveMember_27 (by decide) ?_
  refine pw_aload_n dX1_leaveMember_36 rfl ?_
  refine pw_callV (as := []) (kc' := 0) (ks' := 0) lX1_208 dX1_leaveMember_37 rfl rfl (sh_lt hG (by decide)) (sh_tg hG 32 rfl) (Nat.le_of_ble_eq_true rfl) (by omega) (Nat.le_of_ble_eq_true rfl) (Nat.zero_le _) (Nat.zero_le _) ?_
  refine m_vk h (by omega) ?_
  refine pw_istore_n (lv' := [(1, _), (0, _)]) dX1_leaveMember_40 (by decide) rfl ?_
  refine pw_aload_n dX1_leaveMember_41 rfl ?_
  refine pw_callV (as := []) (kc' := 0) (ks' := 0) lX1_211 dX1_leaveMember_42 rfl rfl (sh_lt hG (by decide)) (sh_tg hG 32 rfl) (Nat.le_of_ble_eq_true rfl) (by omega) (Nat.le_of_ble_eq_true rfl) (Nat.zero_le _) (Nat.zero_le _) ?_
  refine m_vc h (by omega) ?_
  refine pw_lstore_n (lv' := [(2, _), (1, _), (0, _)]) dX1_leaveMember_45 (by decide) rfl ?_
  refine pw_aload_n dX1_leaveMember_46 rfl ?_
  refine pw_aload_n dX1_leaveMember_47 rfl ?_
  refine pw_getI fX1_82 dX1_leaveMember_48 (sh_lt hG (by decide)) (sh_tg hG 32 rfl) rfl ?_
  refine pw_ti (z := nI rv.length) h.bs' ?_
  refine pw_putI fX1_56 dX1_leaveMember_51 (Or.inl rfl) (by decide) (sh_lt hG (by decide)) (sh_tg hG 32 rfl) rfl ?_
  refine pw_aload_n dX1_leaveMember_54 rfl ?_
  refine pw_iload_n dX1_leaveMember_55 rfl ?_
  refine pw_lload_n dX1_leaveMember_56 rfl ?_
  refine pw_callV (as := [_, _]) (kc' := 0) (ks' := 0) lX1_112 dX1_leaveMember_57 rfl rfl (sh_lt hG (by decide)) (sh_tg hG 32 rfl) (Nat.le_of_ble_eq_true rfl) (by omega) (Nat.le_of_ble_eq_true rfl) (Nat.zero_le _) (Nat.zero_le _) ?_
  refine m_push hp (by omega) hrl (fun I3 J3 h3 => ?_)
  refine pw_aload_n dX1_leaveMember_60 rfl ?_
  refine pw_dup dX1_leaveMember_61 rfl ?_
  refine pw_getI fX1_85 dX1_leaveMember_62 (sh_lt hG (by decide)) (sh_tg hG 32 rfl) rfl ?_
  refine pw_iconst (v := nI 1) dX1_leaveMember_65 (by decide) ?_
  refine pw_isub dX1_leaveMember_66 ?_
  have hmb3 : I3 34 11 = nI (fr.length + 1) := by rw [h3.mb, List.length_append]; rfl
  refine pw_ti (z := nI fr.length) (by rw [hmb3]; exact nI_pred _) ?_
  refine pw_putI fX1_85 dX1_leaveMember_67 (Or.inl rfl) (by decide) (sh_lt hG (by decide)) (sh_tg hG 32 rfl) rfl ?_
  refine pw_aload_n dX1_leaveMember_70 rfl ?_
  refine pw_aload_n dX1_leaveMember_71 rfl ?_
  refine pw_getR fX1_20 dX1_leaveMember_72 (sh_lt hG (by decide)) (sh_tg hG 32 rfl) rfl (gr_at hP 30 rfl) ?_
  refine pw_aload_n dX1_leaveMember_75 rfl ?_
  refine pw_getI fX1_85 dX1_leaveMember_76 (sh_lt hG (by decide)) (sh_tg hG 32 rfl) rfl ?_
  refine pw_aaldN (r := some c') fr.length dX1_leaveMember_79 (sh_lt hG (by decide)) (sh_sh hG 36 rfl) (by decide) (by decide) (by rw [pm_u_eq, pm_up_eq]) (by omega) h3.caller.1 ?_
  refine pw_putP fX1_35 dX1_leaveMember_80 rfl (Or.inl rfl) (by decide) (sh_lt hG (by decide)) (sh_tg hG 32 rfl) rfl ?_
  have hP := hP.upd (a := 34) (k := 6) (v := some c') (by decide)
  refine pw_aload_n dX1_leaveMember_83 rfl ?_
  refine pw_aload_n dX1_leaveMember_84 rfl ?_
  refine pw_getR fX1_24 dX1_leaveMember_85 (sh_lt hG (by decide)) (sh_tg hG 32 rfl) rfl (gr_at hP 31 rfl) ?_
  refine pw_aload_n dX1_leaveMember_88 rfl ?_
  refine pw_getI fX1_85 dX1_leaveMember_89 (sh_lt hG (by decide)) (sh_tg hG 32 rfl) rfl ?_
  refine pw_ialdN fr.length dX1_leaveMember_92 (sh_lt hG (by decide)) (sh_sh hG 37 rfl) (by decide) (by rw [pm_u_eq, pm_up_eq]) (by omega) ?_
  refine pw_ti (z := nI i') (by rw [pm_u_ne (by decide)]; exact h3.caller.2.1) ?_
  refine pw_putI fX1_79 dX1_leaveMember_93 (Or.inl rfl) (by decide) (sh_lt hG (by decide)) (sh_tg hG 32 rfl) rfl ?_
  refine pw_aload_n dX1_leaveMember_96 rfl ?_
  refine pw_aload_n dX1_leaveMember_97 rfl ?_
  refine pw_getR fX1_28 dX1_leaveMember_98 (sh_lt hG (by decide)) (sh_tg hG 32 rfl) rfl (gr_at hP 32 rfl) ?_
  refine pw_aload_n dX1_leaveMember_101 rfl ?_
  refine pw_getI fX1_85 dX1_leaveMember_102 (sh_lt hG (by decide)) (sh_tg hG 32 rfl) rfl ?_
  refine pw_ialdN fr.length dX1_leaveMember_105 (sh_lt hG (by decide)) (sh_sh hG 38 rfl) (by decide) (by rw [pm_u_eq, pm_up_ne (by decide), pm_u_eq, pm_up_eq]) (by omega) ?_
  refine pw_ti (z := nI bs') (by rw [pm_u_ne (by decide), pm_u_ne (by decide)]; exact h3.caller.2.2.1) ?_
  refine pw_putI fX1_82 dX1_leaveMember_106 (Or.inl rfl) (by decide) (sh_lt hG (by decide)) (sh_tg hG 32 rfl) rfl ?_
  exact pw_vret dX1_leaveMember_109 rfl (k _ _ _ h3.leave)

set_option maxRecDepth 20000 in
set_option maxHeartbeats 4000000 in
theorem m_stop {l : Launch} {E : pmE} {d : Nat} {S : pmS} {I : pmI} {J : pmJ} {P : pmP} {Q : Option Value → pmS → pmI → pmJ → pmP → Prop} {S0 : pmS} {I0 : pmI} {J0 : pmJ} {P0 : pmP} {b0 : Nat} {A : aS} {c i bs s b m : Nat} {w : Int32} {rv : List vV} {t : List tH} (h : mS S0 I0 J0 P0 b0 A S I J P c w i bs rv [] s t b m) (k : Q none S (pm_u I 34 13 (nI 0)) J P) : pm_Met l E yX1_leaveMember cX1_leaveMember 4 none d 0 0 [.ref 34] S I J P Q := by
  unfold pm_Met
  have hG := h.hG
  have hP := h.hP
  refine pm_lvs (lv' := [(0, _)]) rfl ?_
  refine pw_aload_n dX1_leaveMember_0 rfl ?_
  refine pw_getI fX1_85 dX1_leaveMember_1 (sh_lt hG (by decide)) (sh_tg hG 32 rfl) rfl ?_
  refine pw_ifN_le _ (tgt := 30) dX1_leaveMember_4 (by decide) (show I 34 11 = nI 0 from h.mb) (by omega) (fun h4 => ?_) (fun h4 => absurd h4 (by omega))
  refine pw_aload_n dX1_leaveMember_30 rfl ?_
  refine pw_iconst (v := nI 0) dX1_leaveMember_31 (by decide) ?_
  refine pw_putZ fX1_88 dX1_leaveMember_32 (Or.inl rfl) (by decide) (by decide) (sh_lt hG (by decide)) (sh_tg hG 32 rfl) rfl ?_
  exact pw_vret dX1_leaveMember_35 rfl (k)

set_option maxRecDepth 20000 in
set_option maxHeartbeats 4000000 in
theorem dn_call0 {l : Launch} {E : pmE} {d : Nat} {S : pmS} {I : pmI} {J : pmJ} {P : pmP} {Q : Option Value → pmS → pmI → pmJ → pmP → Prop} {S0 : pmS} {I0 : pmI} {J0 : pmJ} {P0 : pmP} {b0 : Nat} {A : aS} {c i bs s b m : Nat} {w : Int32} {rv : List vV} {fr : List (Nat × Nat × Nat)} {t : List tH} {us : List vV} (h : mS S0 I0 J0 P0 b0 A S I J P c w i bs (rv ++ us) fr s t b m) (hd : 7 ≤ d) {L : List dE} (hx : kX S0 I0 J0 P0 b0 c L) {s' : Nat} (hi : L[i]? = some (8, nI us.length, hN A.ns (A.at s').dec)) {Z : Nat → Nat} (hA : cA S0 I0 J0 P0 A Z b0) (hO : aO A) (hs' : s' < A.sn.length) (hdn : (A.at s').dec ∈ A.ns) (hdc : A.dc (A.at s').dec = some s') (hff : (A.at s').form = A.fm (A.at s').dec) (hf : A.fm (A.at s').dec = 3) (hed : (A.at s').ed = A.ed (A.at s').dec) (hv3 : ∀ q ∈ t, q.2.length ≤ 3) (hu3 : us.length ≤ 3) (hrl : rv.length < 401) (ht9 : t.length ≤ 16000) (hl : t.length < m) (k : ∀ I' J', mS S0 I0 J0 P0 b0 A S I' J' P c (nI i) (i + 1) bs (rv ++ [(2, lN t.length)]) fr s (t ++ [(s', us)]) b m → Q none S I' J' P) : pm_Met l E yX1_doNext cX1_doNext 2 none d 0 0 [.ref 34] S I J P Q := by
  have hG := h.hG
  have hP := h.hP
  refine m_dn h (by omega) hx hi (kk := 8) rfl (fun I1 h1 => ?_)
  obtain ⟨rm, hk2⟩ := hx.now h1
  refine pw_iload_n dX1_doNext_30 rfl ?_
  refine pw_bipush (v := nI 7) dX1_doNext_31 (by decide) ?_
  refine pw_icmp_ge (tgt := 44) dX1_doNext_33 (by decide) (fun h33 => ?_) (fun h => absurd (by decide) h)
  refine pw_iload_n dX1_doNext_44 rfl ?_
  refine pw_tableIn (off := 192) (tgt := 237) dX1_doNext_45 (by decide) (by decide) (by decide) (by decide) ?_
  refine pw_aload_n dX1_doNext_237 rfl ?_
  refine pw_aload_n dX1_doNext_238 rfl ?_
  refine pw_getR fX1_35 dX1_doNext_239 (sh_lt hG (by decide)) (sh_tg hG 32 rfl) rfl h1.cd ?_
  refine pw_aload_n dX1_doNext_242 rfl ?_
  refine pw_getI fX1_101 dX1_doNext_243 (sh_lt hG (by decide)) (sh_tg hG 32 rfl) rfl ?_
  refine pw_ti (z := nI i) h1.w' ?_
  refine pw_callV (as := [_]) (kc' := 0) (ks' := 0) lX1_111 dX1_doNext_246 rfl rfl (by have := hk2.1.2; omega) hk2.2.1 (Nat.le_of_ble_eq_true rfl) (by omega) (Nat.le_of_ble_eq_true rfl) (Nat.zero_le _) (Nat.zero_le _) ?_
  refine k_core hk2 hi (show (8 : Nat) ≠ 1 by decide) ?_
  refine pw_l2i dX1_doNext_249 ?_
  refine pw_ti (z := nI (A.ns.idxOf (A.at s').dec)) (lN_i _) ?_
  refine pw_aload_n dX1_doNext_250 rfl ?_
  refine pw_getR fX1_35 dX1_doNext_251 (sh_lt hG (by decide)) (sh_tg hG 32 rfl) rfl h1.cd ?_
  refine pw_aload_n dX1_doNext_254 rfl ?_
  refine pw_getI fX1_101 dX1_doNext_255 (sh_lt hG (by decide)) (sh_tg hG 32 rfl) rfl ?_
  refine pw_ti (z := nI i) h1.w' ?_
  refine pw_callV (as := [_]) (kc' := 0) (ks' := 0) lX1_116 dX1_doNext_258 rfl rfl (by have := hk2.1.2; omega) hk2.2.1 (Nat.le_of_ble_eq_true rfl) (by omega) (Nat.le_of_ble_eq_true rfl) (Nat.zero_le _) (Nat.zero_le _) ?_
  refine k_count hk2 hi (show (8 : Nat) ≠ 1 by decide) ?_
  refine pw_callV (as := [_, _]) (kc' := 0) (ks' := 0) lX1_133 dX1_doNext_261 rfl rfl (sh_lt hG (by decide)) (sh_tg hG 32 rfl) (Nat.le_of_ble_eq_true rfl) (by omega) (Nat.le_of_ble_eq_true rfl) (Nat.zero_le _) (Nat.zero_le _) ?_
  refine m_call0 h1 (by omega) hA hO hs' hdn hdc hff hf hed hv3 hu3 hrl ht9 hl (fun I3 J3 h3 => ?_)
  refine pw_goto (tgt := 345) dX1_doNext_264 (by decide) ?_
  exact pw_vret dX1_doNext_345 rfl (k _ _ h3)
set_option maxRecDepth 20000 in
set_option maxHeartbeats 4000000 in
theorem dn_call1 {l : Launch} {E : pmE} {d : Nat} {S : pmS} {I : pmI} {J : pmJ} {P : pmP} {Q : Option Value → pmS → pmI → pmJ → pmP → Prop} {S0 : pmS} {I0 : pmI} {J0 : pmJ} {P0 : pmP} {b0 : Nat} {A : aS} {c i bs s b m : Nat} {w : Int32} {rv : List vV} {fr : List (Nat × Nat × Nat)} {t : List tH} {us : List vV} (h : mS S0 I0 J0 P0 b0 A S I J P c w i bs (rv ++ us) fr s t b m) (hd : 7 ≤ d) {L : List dE} (hx : kX S0 I0 J0 P0 b0 c L) {s' : Nat} (hi : L[i]? = some (8, nI us.length, hN A.ns (A.at s').dec)) {Z : Nat → Nat} (hA : cA S0 I0 J0 P0 A Z b0) (hO : aO A) (hs' : s' < A.sn.length) (hdn : (A.at s').dec ∈ A.ns) (hdc : A.dc (A.at s').dec = some s') (hff : (A.at s').form = A.fm (A.at s').dec) (hf : A.fm (A.at s').dec = 3) (hed : (A.at s').ed = A.ed (A.at s').dec) (hv3 : ∀ q ∈ t, q.2.length ≤ 3) (hu3 : us.length ≤ 3) (hrl : rv.length < 401) (ht9 : t.length ≤ 16000) (hl : m ≤ t.length) (k : ∀ S' I' J' P', mS S0 I0 J0 P0 b0 A S' I' J' P' c (nI i) (i + 1) bs (rv ++ [(2, lN t.length)]) fr s (t ++ [(s', us)]) S.1 (2 * m) → Q none S' I' J' P') : pm_Met l E yX1_doNext cX1_doNext 2 none d 5 (18 * m) [.ref 34] S I J P Q := by
  have hG := h.hG
  have hP := h.hP
  refine m_dn h (by omega) hx hi (kk := 8) rfl (fun I1 h1 => ?_)
  obtain ⟨rm, hk2⟩ := hx.now h1
  refine pw_iload_n dX1_doNext_30 rfl ?_
  refine pw_bipush (v := nI 7) dX1_doNext_31 (by decide) ?_
  refine pw_icmp_ge (tgt := 44) dX1_doNext_33 (by decide) (fun h33 => ?_) (fun h => absurd (by decide) h)
  refine pw_iload_n dX1_doNext_44 rfl ?_
  refine pw_tableIn (off := 192) (tgt := 237) dX1_doNext_45 (by decide) (by decide) (by decide) (by decide) ?_
  refine pw_aload_n dX1_doNext_237 rfl ?_
  refine pw_aload_n dX1_doNext_238 rfl ?_
  refine pw_getR fX1_35 dX1_doNext_239 (sh_lt hG (by decide)) (sh_tg hG 32 rfl) rfl h1.cd ?_
  refine pw_aload_n dX1_doNext_242 rfl ?_
  refine pw_getI fX1_101 dX1_doNext_243 (sh_lt hG (by decide)) (sh_tg hG 32 rfl) rfl ?_
  refine pw_ti (z := nI i) h1.w' ?_
  refine pw_callV (as := [_]) (kc' := 0) (ks' := 0) lX1_111 dX1_doNext_246 rfl rfl (by have := hk2.1.2; omega) hk2.2.1 (Nat.le_of_ble_eq_true rfl) (by omega) (Nat.le_of_ble_eq_true rfl) (Nat.zero_le _) (Nat.zero_le _) ?_
  refine k_core hk2 hi (show (8 : Nat) ≠ 1 by decide) ?_
  refine pw_l2i dX1_doNext_249 ?_
  refine pw_ti (z := nI (A.ns.idxOf (A.at s').dec)) (lN_i _) ?_
  refine pw_aload_n dX1_doNext_250 rfl ?_
  refine pw_getR fX1_35 dX1_doNext_251 (sh_lt hG (by decide)) (sh_tg hG 32 rfl) rfl h1.cd ?_
  refine pw_aload_n dX1_doNext_254 rfl ?_
  refine pw_getI fX1_101 dX1_doNext_255 (sh_lt hG (by decide)) (sh_tg hG 32 rfl) rfl ?_
  refine pw_ti (z := nI i) h1.w' ?_
  refine pw_callV (as := [_]) (kc' := 0) (ks' := 0) lX1_116 dX1_doNext_258 rfl rfl (by have := hk2.1.2; omega) hk2.2.1 (Nat.le_of_ble_eq_true rfl) (by omega) (Nat.le_of_ble_eq_true rfl) (Nat.zero_le _) (Nat.zero_le _) ?_
  refine k_count hk2 hi (show (8 : Nat) ≠ 1 by decide) ?_
  refine pw_callV (as := [_, _]) (kc' := 5) (ks' := (18 * m)) lX1_133 dX1_doNext_261 rfl rfl (sh_lt hG (by decide)) (sh_tg hG 32 rfl) (Nat.le_of_ble_eq_true rfl) (by omega) (Nat.le_of_ble_eq_true rfl) (by omega) (by omega) ?_
  refine m_call1 h1 (by omega) hA hO hs' hdn hdc hff hf hed hv3 hu3 hrl ht9 hl (fun S3 I3 J3 P3 h3 => ?_)
  refine pw_goto (tgt := 345) dX1_doNext_264 (by decide) ?_
  exact pw_vret dX1_doNext_345 rfl (k _ _ _ _ h3)
set_option maxRecDepth 20000 in
set_option maxHeartbeats 4000000 in
theorem dn_callM {l : Launch} {E : pmE} {d : Nat} {S : pmS} {I : pmI} {J : pmJ} {P : pmP} {Q : Option Value → pmS → pmI → pmJ → pmP → Prop} {S0 : pmS} {I0 : pmI} {J0 : pmJ} {P0 : pmP} {b0 : Nat} {A : aS} {c i bs s b m : Nat} {w : Int32} {rv : List vV} {fr : List (Nat × Nat × Nat)} {t : List tH} {us : List vV} (h : mS S0 I0 J0 P0 b0 A S I J P c w i bs (rv ++ us) fr s t b m) (hd : 7 ≤ d) {L : List dE} (hx : kX S0 I0 J0 P0 b0 c L) {s' : Nat} (hi : L[i]? = some (8, nI us.length, hN A.ns (A.at s').dec)) {Z : Nat → Nat} (hA : cA S0 I0 J0 P0 A Z b0) (hO : aO A) (hs' : s' < A.sn.length) (hdn : (A.at s').dec ∈ A.ns) (hdc : A.dc (A.at s').dec = some s') (hff : (A.at s').form = A.fm (A.at s').dec) (hf : A.fm (A.at s').dec = 2) (hl : fr.length < 20) (k : ∀ I' P', mS S0 I0 J0 P0 b0 A S I' J P' (Z s' + 3) (nI i) 0 rv.length (rv ++ us) (fr ++ [(c, i + 1, bs)]) s t b m → Q none S I' J P') : pm_Met l E yX1_doNext cX1_doNext 2 none d 0 0 [.ref 34] S I J P Q := by
  have hG := h.hG
  have hP := h.hP
  refine m_dn h (by omega) hx hi (kk := 8) rfl (fun I1 h1 => ?_)
  obtain ⟨rm, hk2⟩ := hx.now h1
  refine pw_iload_n dX1_doNext_30 rfl ?_
  refine pw_bipush (v := nI 7) dX1_doNext_31 (by decide) ?_
  refine pw_icmp_ge (tgt := 44) dX1_doNext_33 (by decide) (fun h33 => ?_) (fun h => absurd (by decide) h)
  refine pw_iload_n dX1_doNext_44 rfl ?_
  refine pw_tableIn (off := 192) (tgt := 237) dX1_doNext_45 (by decide) (by decide) (by decide) (by decide) ?_
  refine pw_aload_n dX1_doNext_237 rfl ?_
  refine pw_aload_n dX1_doNext_238 rfl ?_
  refine pw_getR fX1_35 dX1_doNext_239 (sh_lt hG (by decide)) (sh_tg hG 32 rfl) rfl h1.cd ?_
  refine pw_aload_n dX1_doNext_242 rfl ?_
  refine pw_getI fX1_101 dX1_doNext_243 (sh_lt hG (by decide)) (sh_tg hG 32 rfl) rfl ?_
  refine pw_ti (z := nI i) h1.w' ?_
  refine pw_callV (as := [_]) (kc' := 0) (ks' := 0) lX1_111 dX1_doNext_246 rfl rfl (by have := hk2.1.2; omega) hk2.2.1 (Nat.le_of_ble_eq_true rfl) (by omega) (Nat.le_of_ble_eq_true rfl) (Nat.zero_le _) (Nat.zero_le _) ?_
  refine k_core hk2 hi (show (8 : Nat) ≠ 1 by decide) ?_
  refine pw_l2i dX1_doNext_249 ?_
  refine pw_ti (z := nI (A.ns.idxOf (A.at s').dec)) (lN_i _) ?_
  refine pw_aload_n dX1_doNext_250 rfl ?_
  refine pw_getR fX1_35 dX1_doNext_251 (sh_lt hG (by decide)) (sh_tg hG 32 rfl) rfl h1.cd ?_
  refine pw_aload_n dX1_doNext_254 rfl ?_
  refine pw_getI fX1_101 dX1_doNext_255 (sh_lt hG (by decide)) (sh_tg hG 32 rfl) rfl ?_
  refine pw_ti (z := nI i) h1.w' ?_
  refine pw_callV (as := [_]) (kc' := 0) (ks' := 0) lX1_116 dX1_doNext_258 rfl rfl (by have := hk2.1.2; omega) hk2.2.1 (Nat.le_of_ble_eq_true rfl) (by omega) (Nat.le_of_ble_eq_true rfl) (Nat.zero_le _) (Nat.zero_le _) ?_
  refine k_count hk2 hi (show (8 : Nat) ≠ 1 by decide) ?_
  refine pw_callV (as := [_, _]) (kc' := 0) (ks' := 0) lX1_133 dX1_doNext_261 rfl rfl (sh_lt hG (by decide)) (sh_tg hG 32 rfl) (Nat.le_of_ble_eq_true rfl) (by omega) (Nat.le_of_ble_eq_true rfl) (Nat.zero_le _) (Nat.zero_le _) ?_
  refine m_callM h1 (by omega) hA hO hs' hdn hdc hff hx hf hl (fun I3 P3 h3 => ?_)
  refine pw_goto (tgt := 345) dX1_doNext_264 (by decide) ?_
  exact pw_vret dX1_doNext_345 rfl (k _ _ h3)
set_option maxRecDepth 20000 in
set_option maxHeartbeats 4000000 in
theorem dn_ret {l : Launch} {E : pmE} {d : Nat} {S : pmS} {I : pmI} {J : pmJ} {P : pmP} {Q : Option Value → pmS → pmI → pmJ → pmP → Prop} {S0 : pmS} {I0 : pmI} {J0 : pmJ} {P0 : pmP} {b0 : Nat} {A : aS} {c i s b m : Nat} {w : Int32} {rv : List vV} {fr : List (Nat × Nat × Nat)} {t : List tH} {us : List vV} {v : vV} {c' i' bs' : Nat} (h : mS S0 I0 J0 P0 b0 A S I J P c w i rv.length ((rv ++ us) ++ [v]) (fr ++ [(c', i', bs')]) s t b m) (hd : 7 ≤ d) {L : List dE} (hx : kX S0 I0 J0 P0 b0 c L)  (hi : L[i]? = some (13, 0, 0)) (hrl : rv.length < 401) (k : ∀ I' J' P', mS S0 I0 J0 P0 b0 A S I' J' P' c' (nI i) i' bs' (rv ++ [v]) fr s t b m → Q none S I' J' P') : pm_Met l E yX1_doNext cX1_doNext 2 none d 0 0 [.ref 34] S I J P Q := by
  have hG := h.hG
  have hP := h.hP
  refine m_dn h (by omega) hx hi (kk := 13) rfl (fun I1 h1 => ?_)
  obtain ⟨rm, hk2⟩ := hx.now h1
  refine pw_iload_n dX1_doNext_30 rfl ?_
  refine pw_bipush (v := nI 7) dX1_doNext_31 (by decide) ?_
  refine pw_icmp_ge (tgt := 44) dX1_doNext_33 (by decide) (fun h33 => ?_) (fun h => absurd (by decide) h)
  refine pw_iload_n dX1_doNext_44 rfl ?_
  refine pw_tableIn (off := 288) (tgt := 333) dX1_doNext_45 (by decide) (by decide) (by decide) (by decide) ?_
  refine pw_aload_n dX1_doNext_333 rfl ?_
  refine pw_callV (as := []) (kc' := 0) (ks' := 0) lX1_146 dX1_doNext_334 rfl rfl (sh_lt hG (by decide)) (sh_tg hG 32 rfl) (Nat.le_of_ble_eq_true rfl) (by omega) (Nat.le_of_ble_eq_true rfl) (Nat.zero_le _) (Nat.zero_le _) ?_
  refine m_leave h1 (by omega) hrl (fun I3 J3 P3 h3 => ?_)
  refine pw_goto (tgt := 345) dX1_doNext_337 (by decide) ?_
  exact pw_vret dX1_doNext_345 rfl (k _ _ _ h3)
set_option maxRecDepth 20000 in
set_option maxHeartbeats 4000000 in
theorem dn_end {l : Launch} {E : pmE} {d : Nat} {S : pmS} {I : pmI} {J : pmJ} {P : pmP} {Q : Option Value → pmS → pmI → pmJ → pmP → Prop} {S0 : pmS} {I0 : pmI} {J0 : pmJ} {P0 : pmP} {b0 : Nat} {A : aS} {c i bs s b m : Nat} {w : Int32} {rv : List vV} {t : List tH} (h : mS S0 I0 J0 P0 b0 A S I J P c w i bs rv [] s t b m) (hd : 7 ≤ d) {L : List dE} (hx : kX S0 I0 J0 P0 b0 c L)  (hi : L[i]? = some (13, 0, 0)) (k : ∀ I', mS S0 I0 J0 P0 b0 A S I' J P c (nI i) (i + 1) bs rv [] s t b m → Q none S (pm_u I' 34 13 (nI 0)) J P) : pm_Met l E yX1_doNext cX1_doNext 2 none d 0 0 [.ref 34] S I J P Q := by
  have hG := h.hG
  have hP := h.hP
  refine m_dn h (by omega) hx hi (kk := 13) rfl (fun I1 h1 => ?_)
  obtain ⟨rm, hk2⟩ := hx.now h1
  refine pw_iload_n dX1_doNext_30 rfl ?_
  refine pw_bipush (v := nI 7) dX1_doNext_31 (by decide) ?_
  refine pw_icmp_ge (tgt := 44) dX1_doNext_33 (by decide) (fun h33 => ?_) (fun h => absurd (by decide) h)
  refine pw_iload_n dX1_doNext_44 rfl ?_
  refine pw_tableIn (off := 288) (tgt := 333) dX1_doNext_45 (by decide) (by decide) (by decide) (by decide) ?_
  refine pw_aload_n dX1_doNext_333 rfl ?_
  refine pw_callV (as := []) (kc' := 0) (ks' := 0) lX1_146 dX1_doNext_334 rfl rfl (sh_lt hG (by decide)) (sh_tg hG 32 rfl) (Nat.le_of_ble_eq_true rfl) (by omega) (Nat.le_of_ble_eq_true rfl) (Nat.zero_le _) (Nat.zero_le _) ?_
  refine m_stop h1 ?_
  refine pw_goto (tgt := 345) dX1_doNext_337 (by decide) ?_
  exact pw_vret dX1_doNext_345 rfl (k _ h1)
