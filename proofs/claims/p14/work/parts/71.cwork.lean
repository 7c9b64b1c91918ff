/-- behind work(): nothing else has changed, THINGS t, the FAILURE e -/
def wE (S : pmS) (I : pmI) (J : pmJ) (P : pmP) (A : aS) (b : Nat) (S' : pmS) (I' : pmI) (J' : pmJ) (P' : pmP) (t : List tH) (b' m' e : Nat) : Prop := sh_St S' ∧ gr_St P' ∧ mF S I J P b S' I' J' P' ∧ (b' = b ∨ S.1 ≤ b') ∧ tC S' I' J' P' A t b' m' ∧ I' 41 0 = nI e
theorem tC.drop {S : pmS} {I : pmI} {J : pmJ} {P : pmP} {A : aS} {t t0 : List tH} {b m : Nat} (h : tC S I J P A t b m) (hp : t0 <+: t) : tC S (pm_u I 21 5 (nI t0.length)) J P A t0 b m := by
  have hb := h.bd
  have hl := hp.length_le
  have h2 := h.l
  refine ⟨h.bd, h.2.1, h.2.2.1, h.m', by omega, by rw [pm_u_eq, pm_up_eq], fun j s vs hj => ?_⟩
  rw [pm_u_ne (a := 21) (b := b) (by omega), pm_u_ne (a := 21) (b := b + 1) (by omega), pm_u_ne (a := 21) (b := b + 2) (by omega), pm_u_ne (a := 21) (b := b + 3) (by omega)]
  refine h.at ?_
  obtain ⟨t1, rfl⟩ := hp
  rw [List.getElem?_append_left (List.getElem?_eq_some_iff.mp hj).1]; exact hj
theorem mF.refl {S : pmS} {I : pmI} {J : pmJ} {P : pmP} {b : Nat} : mF S I J P b S I J P := ⟨Nat.le_refl _, fun _ _ => rfl, fun _ _ _ => ⟨rfl, rfl, rfl⟩⟩
theorem mF.w21 {S S' : pmS} {I I' : pmI} {J J' : pmJ} {P P' : pmP} {b k : Nat} {x : Int32} (h : mF S I J P b S' I' J' P') : mF S I J P b S' (pm_u I' 21 k x) J' P' := ⟨h.1, h.2.1, fun a hx ha => by rw [pm_u_ne hx.1]; exact h.2.2 a hx ha⟩
theorem mF.w34 {S S' : pmS} {I I' : pmI} {J J' : pmJ} {P P' : pmP} {b k : Nat} {x : Int32} (h : mF S I J P b S' I' J' P') : mF S I J P b S' (pm_u I' 34 k x) J' P' := ⟨h.1, h.2.1, fun a hx ha => by rw [pm_u_ne hx.2.1]; exact h.2.2 a hx ha⟩
theorem mF.p34 {S S' : pmS} {I I' : pmI} {J J' : pmJ} {P P' : pmP} {b k : Nat} {x : Option Nat} (h : mF S I J P b S' I' J' P') : mF S I J P b S' I' J' (pm_u P' 34 k x) := ⟨h.1, h.2.1, fun a hx ha => by rw [pm_u_ne hx.2.1]; exact h.2.2 a hx ha⟩
set_option maxRecDepth 20000 in
set_option maxHeartbeats 4000000 in
theorem LW_done {l : Launch} {E : pmE} {d : Nat} {Q : Option Value → pmS → pmI → pmJ → pmP → Prop} {c0 : Nat} {mk : Int32} {S : pmS} {I : pmI} {J : pmJ} {P : pmP} {τ kc ks : Nat} (hG : sh_St S) (hP : gr_St P) (hd : 1 ≤ d) (hτ : τ ≤ 10000) (hw : I 34 13 = nI 0) (hf : I 41 0 = nI 0) (k : Q none S I J P) : LW l E d Q c0 mk τ kc ks S I J P := by
  unfold LW
  refine pw_iload_n dX1_work_43 rfl ?_
  refine pw_sipush (v := nI 10000) dX1_work_44 (by decide) ?_
  refine pw_icmpN_ge _ _ (tgt := 67) dX1_work_47 (by decide) (rfl) (rfl) (by omega) (by omega) (fun h47 => ?_) (fun h47 => ?_)
  · refine pw_aload_n dX1_work_67 rfl ?_
    refine pw_callV (as := []) (kc' := 0) (ks' := 0) lX1_95 dX1_work_68 rfl rfl (sh_lt hG (by decide)) (sh_tg hG 32 rfl) (Nat.le_of_ble_eq_true rfl) (by omega) (Nat.le_of_ble_eq_true rfl) (Nat.zero_le _) (Nat.zero_le _) ?_
    unfold pm_Met
    refine pm_lvs (lv' := [(0, _)]) rfl ?_
    refine pw_aload_n dX1_failure_0 rfl ?_
    refine pw_getR fX1_31 dX1_failure_1 (sh_lt hG (by decide)) (sh_tg hG 32 rfl) rfl (gr_at hP 33 rfl) ?_
    refine pw_iconst (v := nI 0) dX1_failure_4 (by decide) ?_
    refine pw_ialdN 0 dX1_failure_5 (sh_lt hG (by decide)) (sh_sh hG 39 rfl) (by decide) (by decide) (by decide) ?_
    refine pw_iret dX1_failure_6 rfl ?_
    refine pw_if_eq (tgt := 85) dX1_work_71 (by decide) (fun h71 => ?_) (fun h => absurd (by rw [hf]; decide) h)
    exact pw_vret dX1_work_85 rfl (k)
  · refine pw_aload_n dX1_work_50 rfl ?_
    refine pw_getI fX1_88 dX1_work_51 (sh_lt hG (by decide)) (sh_tg hG 32 rfl) rfl ?_
    refine pw_if_eq (tgt := 67) dX1_work_54 (by decide) (fun h54 => ?_) (fun h => absurd (by rw [hw]; decide) h)
    refine pw_aload_n dX1_work_67 rfl ?_
    refine pw_callV (as := []) (kc' := 0) (ks' := 0) lX1_95 dX1_work_68 rfl rfl (sh_lt hG (by decide)) (sh_tg hG 32 rfl) (Nat.le_of_ble_eq_true rfl) (by omega) (Nat.le_of_ble_eq_true rfl) (Nat.zero_le _) (Nat.zero_le _) ?_
    unfold pm_Met
    refine pm_lvs (lv' := [(0, _)]) rfl ?_
    refine pw_aload_n dX1_failure_0 rfl ?_
    refine pw_getR fX1_31 dX1_failure_1 (sh_lt hG (by decide)) (sh_tg hG 32 rfl) rfl (gr_at hP 33 rfl) ?_
    refine pw_iconst (v := nI 0) dX1_failure_4 (by decide) ?_
    refine pw_ialdN 0 dX1_failure_5 (sh_lt hG (by decide)) (sh_sh hG 39 rfl) (by decide) (by decide) (by decide) ?_
    refine pw_iret dX1_failure_6 rfl ?_
    refine pw_if_eq (tgt := 85) dX1_work_71 (by decide) (fun h71 => ?_) (fun h => absurd (by rw [hf]; decide) h)
    exact pw_vret dX1_work_85 rfl (k)
set_option maxRecDepth 20000 in
set_option maxHeartbeats 4000000 in
theorem LW_fail {l : Launch} {E : pmE} {d : Nat} {Q : Option Value → pmS → pmI → pmJ → pmP → Prop} {c0 : Nat} {mk : Int32} {S : pmS} {I : pmI} {J : pmJ} {P : pmP} {τ kc ks : Nat} {n0 n1 e : Nat} (hG : sh_St S) (hP : gr_St P) (hd : 1 ≤ d) (hτ : τ ≤ 10000) (hw : I 34 13 = nI 0) (he : 1 ≤ e ∧ e ≤ 9) (hf : I 41 0 = nI e) (hmk : mk = nI n0) (hn : I 21 5 = nI n1) (hle : n0 ≤ n1 ∧ n1 ≤ 100000) (k : Q none S (pm_u I 21 5 (nI n0)) J P) : LW l E d Q c0 mk τ kc ks S I J P := by
  unfold LW
  subst hmk
  refine pw_iload_n dX1_work_43 rfl ?_
  refine pw_sipush (v := nI 10000) dX1_work_44 (by decide) ?_
  refine pw_icmpN_ge _ _ (tgt := 67) dX1_work_47 (by decide) (rfl) (rfl) (by omega) (by omega) (fun h47 => ?_) (fun h47 => ?_)
  · refine pw_aload_n dX1_work_67 rfl ?_
    refine pw_callV (as := []) (kc' := 0) (ks' := 0) lX1_95 dX1_work_68 rfl rfl (sh_lt hG (by decide)) (sh_tg hG 32 rfl) (Nat.le_of_ble_eq_true rfl) (by omega) (Nat.le_of_ble_eq_true rfl) (Nat.zero_le _) (Nat.zero_le _) ?_
    unfold pm_Met
    refine pm_lvs (lv' := [(0, _)]) rfl ?_
    refine pw_aload_n dX1_failure_0 rfl ?_
    refine pw_getR fX1_31 dX1_failure_1 (sh_lt hG (by decide)) (sh_tg hG 32 rfl) rfl (gr_at hP 33 rfl) ?_
    refine pw_iconst (v := nI 0) dX1_failure_4 (by decide) ?_
    refine pw_ialdN 0 dX1_failure_5 (sh_lt hG (by decide)) (sh_sh hG 39 rfl) (by decide) (by decide) (by decide) ?_
    refine pw_iret dX1_failure_6 rfl ?_
    refine pw_ifN_eq _ (tgt := 85) dX1_work_71 (by decide) (hf) (by omega) (fun h71 => absurd h71 (by omega)) (fun h71 => ?_)
    refine pw_aload_n dX1_work_74 rfl ?_
    refine pw_getR fX1_39 dX1_work_75 (sh_lt hG (by decide)) (sh_tg hG 32 rfl) rfl (gr_at hP 28 rfl) ?_
    refine pw_getR fX1_67 dX1_work_78 (sh_lt hG (by decide)) (sh_tg hG 13 rfl) rfl (gr_at hP 16 rfl) ?_
    refine pw_iload_n dX1_work_81 rfl ?_
    refine pw_callV (as := [_]) (kc' := 0) (ks' := 0) lX1_98 dX1_work_82 rfl rfl (sh_lt hG (by decide)) (sh_tg hG 19 rfl) (Nat.le_of_ble_eq_true rfl) (by omega) (Nat.le_of_ble_eq_true rfl) (Nat.zero_le _) (Nat.zero_le _) ?_
    unfold pm_Met
    refine pm_lvs (lv' := [(0, _), (1, _)]) rfl ?_
    refine pw_iload_n dX6_dropFrom_0 rfl ?_
    refine pw_if_lt (tgt := 17) dX6_dropFrom_1 (by decide) (fun h => absurd h (nI_pos (by omega))) (fun hX6_dropFrom_1 => ?_)
    refine pw_iload_n dX6_dropFrom_4 rfl ?_
    refine pw_aload_n dX6_dropFrom_5 rfl ?_
    refine pw_getI fX6_28 dX6_dropFrom_6 (sh_lt hG (by decide)) (sh_tg hG 19 rfl) rfl ?_
    refine pw_icmpN_ge _ _ (tgt := 17) dX6_dropFrom_9 (by decide) (rfl) (hn) (by omega) (by omega) (fun hX6_dropFrom_9 => ?_) (fun hX6_dropFrom_9 => ?_)
    · refine pw_vret dX6_dropFrom_17 rfl ?_
      exact pw_vret dX1_work_85 rfl (by rw [pm_us (by rw [hn]; congr 1; omega)] at k; exact k)
    · refine pw_aload_n dX6_dropFrom_12 rfl ?_
      refine pw_iload_n dX6_dropFrom_13 rfl ?_
      refine pw_putI fX6_28 dX6_dropFrom_14 (Or.inl rfl) (by decide) (sh_lt hG (by decide)) (sh_tg hG 19 rfl) rfl ?_
      refine pw_vret dX6_dropFrom_17 rfl ?_
      exact pw_vret dX1_work_85 rfl (k)
  · refine pw_aload_n dX1_work_50 rfl ?_
    refine pw_getI fX1_88 dX1_work_51 (sh_lt hG (by decide)) (sh_tg hG 32 rfl) rfl ?_
    refine pw_if_eq (tgt := 67) dX1_work_54 (by decide) (fun h54 => ?_) (fun h => absurd (by rw [hw]; decide) h)
    refine pw_aload_n dX1_work_67 rfl ?_
    refine pw_callV (as := []) (kc' := 0) (ks' := 0) lX1_95 dX1_work_68 rfl rfl (sh_lt hG (by decide)) (sh_tg hG 32 rfl) (Nat.le_of_ble_eq_true rfl) (by omega) (Nat.le_of_ble_eq_true rfl) (Nat.zero_le _) (Nat.zero_le _) ?_
    unfold pm_Met
    refine pm_lvs (lv' := [(0, _)]) rfl ?_
    refine pw_aload_n dX1_failure_0 rfl ?_
    refine pw_getR fX1_31 dX1_failure_1 (sh_lt hG (by decide)) (sh_tg hG 32 rfl) rfl (gr_at hP 33 rfl) ?_
    refine pw_iconst (v := nI 0) dX1_failure_4 (by decide) ?_
    refine pw_ialdN 0 dX1_failure_5 (sh_lt hG (by decide)) (sh_sh hG 39 rfl) (by decide) (by decide) (by decide) ?_
    refine pw_iret dX1_failure_6 rfl ?_
    refine pw_ifN_eq _ (tgt := 85) dX1_work_71 (by decide) (hf) (by omega) (fun h71 => absurd h71 (by omega)) (fun h71 => ?_)
    refine pw_aload_n dX1_work_74 rfl ?_
    refine pw_getR fX1_39 dX1_work_75 (sh_lt hG (by decide)) (sh_tg hG 32 rfl) rfl (gr_at hP 28 rfl) ?_
    refine pw_getR fX1_67 dX1_work_78 (sh_lt hG (by decide)) (sh_tg hG 13 rfl) rfl (gr_at hP 16 rfl) ?_
    refine pw_iload_n dX1_work_81 rfl ?_
    refine pw_callV (as := [_]) (kc' := 0) (ks' := 0) lX1_98 dX1_work_82 rfl rfl (sh_lt hG (by decide)) (sh_tg hG 19 rfl) (Nat.le_of_ble_eq_true rfl) (by omega) (Nat.le_of_ble_eq_true rfl) (Nat.zero_le _) (Nat.zero_le _) ?_
    unfold pm_Met
    refine pm_lvs (lv' := [(0, _), (1, _)]) rfl ?_
    refine pw_iload_n dX6_dropFrom_0 rfl ?_
    refine pw_if_lt (tgt := 17) dX6_dropFrom_1 (by decide) (fun h => absurd h (nI_pos (by omega))) (fun hX6_dropFrom_1 => ?_)
    refine pw_iload_n dX6_dropFrom_4 rfl ?_
    refine pw_aload_n dX6_dropFrom_5 rfl ?_
    refine pw_getI fX6_28 dX6_dropFrom_6 (sh_lt hG (by decide)) (sh_tg hG 19 rfl) rfl ?_
    refine pw_icmpN_ge _ _ (tgt := 17) dX6_dropFrom_9 (by decide) (rfl) (hn) (by omega) (by omega) (fun hX6_dropFrom_9 => ?_) (fun hX6_dropFrom_9 => ?_)
    · refine pw_vret dX6_dropFrom_17 rfl ?_
      exact pw_vret dX1_work_85 rfl (by rw [pm_us (by rw [hn]; congr 1; omega)] at k; exact k)
    · refine pw_aload_n dX6_dropFrom_12 rfl ?_
      refine pw_iload_n dX6_dropFrom_13 rfl ?_
      refine pw_putI fX6_28 dX6_dropFrom_14 (Or.inl rfl) (by decide) (sh_lt hG (by decide)) (sh_tg hG 19 rfl) rfl ?_
      refine pw_vret dX6_dropFrom_17 rfl ?_
      exact pw_vret dX1_work_85 rfl (k)
theorem mS.start {S : pmS} {I : pmI} {J : pmJ} {P : pmP} {A : aS} {b m c0 : Nat} (hG : sh_St S) (hP : gr_St P) (ht : tC S I J P A A.th b m) (h4 : I 41 4 = nI 0) (h0 : I 41 0 = nI 0) : mS S I J P b A S (pm_u (pm_u (pm_u (pm_u (pm_u I 34 8 (nI 0)) 34 9 (nI 0)) 34 10 (nI 0)) 34 11 (nI 0)) 34 13 (nI 1)) J (pm_u P 34 6 (some c0)) c0 (I 34 7) 0 0 [] [] 0 A.th b m := by
  have hb := ht.bd
  have h95 : 95 ≤ S.1 := Nat.le_of_succ_le hG.1
  have hu : mU I J P (pm_u (pm_u (pm_u (pm_u (pm_u I 34 8 (nI 0)) 34 9 (nI 0)) 34 10 (nI 0)) 34 11 (nI 0)) 34 13 (nI 1)) J (pm_u P 34 6 (some c0)) := ((((mU.refl.uI (by decide)).uI (by decide)).uI (by decide)).uI (by decide)).uI (by decide) |>.uP (by decide)
  exact ⟨⟨hG, hP.upd (by decide), mF.refl.mv hu, ⟨h95, hb.2, hb.1⟩, Or.inl rfl, List.prefix_rfl⟩, ht.mv hu, ⟨by rw [pm_u_eq, pm_up_eq], by (repeat (first | rw [pm_u_ne (by decide)] | rw [pm_u_eq, pm_up_ne (by decide)] | rw [pm_u_eq, pm_up_eq])), by (repeat (first | rw [pm_u_ne (by decide)] | rw [pm_u_eq, pm_up_ne (by decide)] | rw [pm_u_eq, pm_up_eq])), by (repeat (first | rw [pm_u_ne (by decide)] | rw [pm_u_eq, pm_up_ne (by decide)] | rw [pm_u_eq, pm_up_eq])), by (repeat (first | rw [pm_u_ne (by decide)] | rw [pm_u_eq, pm_up_ne (by decide)] | rw [pm_u_eq, pm_up_eq])) <;> rfl, by (repeat (first | rw [pm_u_ne (by decide)] | rw [pm_u_eq, pm_up_ne (by decide)] | rw [pm_u_eq, pm_up_eq])) <;> rfl, by rw [pm_u_eq, pm_up_eq], by (repeat (first | rw [pm_u_ne (by decide)])); exact h4, by (repeat (first | rw [pm_u_ne (by decide)])); exact h0⟩, ⟨by decide, by decide, by decide⟩, (fun j v hj => nomatch hj), (fun j x hj => nomatch hj)⟩
set_option maxRecDepth 20000 in
set_option maxHeartbeats 4000000 in
theorem c_X1_work {l : Launch} {E : pmE} {d : Nat} {S : pmS} {I : pmI} {J : pmJ} {P : pmP} {Q : Option Value → pmS → pmI → pmJ → pmP → Prop} (hG : sh_St S) (hP : gr_St P) (hd : 10 ≤ d) {A : aS} {Z : Nat → Nat} {b m c0 : Nat} (hA : cA S I J P A Z b) (hO : aO A) (ht : tC S I J P A A.th b m) (h4 : I 41 4 = nI 0) (h0 : I 41 0 = nI 0) (hth : A.th.length ≤ 15600) {T : eX} (hx : kX S I J P b c0 (cp (hN A.ns) T ++ [(13, 0, 0)])) (hwt : wt [] (· ∈ A.ns) T) (k1 : ∀ (v : vV) (s' : Nat) (t' : List tH) (S' : pmS) (I' : pmI) (J' : pmJ) (P' : pmP) (b' : Nat), evT A (evC A 20) 0 [] T 0 A.th = .ok (v, s', t') → wE S I J P A b S' I' J' P' t' b' (rmT A (evC A 20) (rmC A 20) 0 [] T 0 A.th m) 0 → (I' 34 10 = nI 1 ∧ I' 36 0 = nI v.1 ∧ J' 37 0 = v.2) → (vO t'.length v ∧ tO A t' ∧ A.th <+: t' ∧ t'.length ≤ A.th.length + 400) → Q none S' I' J' P') (k0 : ∀ (e : Nat) (S' : pmS) (I' : pmI) (J' : pmJ) (P' : pmP) (b' : Nat), evT A (evC A 20) 0 [] T 0 A.th = .error e → wE S I J P A b S' I' J' P' A.th b' (rmT A (evC A 20) (rmC A 20) 0 [] T 0 A.th m) e → Q none S' I' J' P') : pm_Met l E yX1_work cX1_work 4 none d (rmT A (evC A 20) (rmC A 20) 0 [] T 0 A.th m - m) (18 * (rmT A (evC A 20) (rmC A 20) 0 [] T 0 A.th m - m)) [.ref 34, .ref c0] S I J P Q := by
  unfold pm_Met
  refine pm_lvs (lv' := [(0, _), (1, _)]) rfl ?_
  refine pw_aload_n dX1_work_0 rfl ?_
  refine pw_getR fX1_39 dX1_work_1 (sh_lt hG (by decide)) (sh_tg hG 32 rfl) rfl (gr_at hP 28 rfl) ?_
  refine pw_getR fX1_67 dX1_work_4 (sh_lt hG (by decide)) (sh_tg hG 13 rfl) rfl (gr_at hP 16 rfl) ?_
  refine pw_callV (as := []) (kc' := 0) (ks' := 0) lX1_73 dX1_work_7 rfl rfl (sh_lt hG (by decide)) (sh_tg hG 19 rfl) (Nat.le_of_ble_eq_true rfl) (by omega) (Nat.le_of_ble_eq_true rfl) (Nat.zero_le _) (Nat.zero_le _) ?_
  unfold pm_Met
  refine pm_lvs (lv' := [(0, _)]) rfl ?_
  refine pw_aload_n dX6_size_0 rfl ?_
  refine pw_getI fX6_28 dX6_size_1 (sh_lt hG (by decide)) (sh_tg hG 19 rfl) rfl ?_
  refine pw_iret dX6_size_4 rfl ?_
  refine pw_ti (z := nI A.th.length) ht.n ?_
  refine pw_istore_n (lv' := [(2, _), (0, _), (1, _)]) dX1_work_10 (by decide) rfl ?_
  refine pw_aload_n dX1_work_11 rfl ?_
  refine pw_aload_n dX1_work_12 rfl ?_
  refine pw_putP fX1_35 dX1_work_13 rfl (Or.inl rfl) (by decide) (sh_lt hG (by decide)) (sh_tg hG 32 rfl) rfl ?_
  have hP1 := hP
  have hP := hP.upd (a := 34) (k := 6) (v := some c0) (by decide)
  refine pw_aload_n dX1_work_16 rfl ?_
  refine pw_iconst (v := nI 0) dX1_work_17 (by decide) ?_
  refine pw_putI fX1_79 dX1_work_18 (Or.inl rfl) (by decide) (sh_lt hG (by decide)) (sh_tg hG 32 rfl) rfl ?_
  refine pw_aload_n dX1_work_21 rfl ?_
  refine pw_iconst (v := nI 0) dX1_work_22 (by decide) ?_
  refine pw_putI fX1_82 dX1_work_23 (Or.inl rfl) (by decide) (sh_lt hG (by decide)) (sh_tg hG 32 rfl) rfl ?_
  refine pw_aload_n dX1_work_26 rfl ?_
  refine pw_iconst (v := nI 0) dX1_work_27 (by decide) ?_
  refine pw_putI fX1_56 dX1_work_28 (Or.inl rfl) (by decide) (sh_lt hG (by decide)) (sh_tg hG 32 rfl) rfl ?_
  refine pw_aload_n dX1_work_31 rfl ?_
  refine pw_iconst (v := nI 0) dX1_work_32 (by decide) ?_
  refine pw_putI fX1_85 dX1_work_33 (Or.inl rfl) (by decide) (sh_lt hG (by decide)) (sh_tg hG 32 rfl) rfl ?_
  refine pw_aload_n dX1_work_36 rfl ?_
  refine pw_iconst (v := nI 1) dX1_work_37 (by decide) ?_
  refine pw_putZ fX1_88 dX1_work_38 (Or.inl rfl) (by decide) (by decide) (sh_lt hG (by decide)) (sh_tg hG 32 rfl) rfl ?_
  refine pw_iconst (v := nI 0) dX1_work_41 (by decide) ?_
  refine pw_istore_n (lv' := [(3, _), (2, _), (0, _), (1, _)]) dX1_work_42 (by decide) rfl ?_
  have hS := mS.start (c0 := c0) hG hP1 ht h4 h0
  have hE := evD_ok hO (dp := 0) (by decide) (ar := []) (pa := []) rfl T 0 A.th hwt (fun v hv => nomatch hv) hO.2.2.2.2.2.2.2.2.1 (Nat.le_refl _) (by decide) (by omega)
  refine c_Tev (Q := Q) (c0 := c0) (mk := nI A.th.length) (kx := rmT A (evC A 20) (rmC A 20) 0 [] T 0 A.th m) hA hO (by omega) 20 0 rfl T [] [] S _ J _ c0 _ 0 0 [] [] 0 A.th b m 0 1200 [] [(13, 0, 0)] ⟨hS, rfl, ⟨rfl, (fun j v hj => nomatch hj), (fun v hv => nomatch hv)⟩, hO.2.2.2.2.2.2.2.2.1, Nat.le_refl _, by decide, by decide, by omega, by decide, by decide⟩ hx rfl hwt (Nat.le_refl _) (fun v s' t' S' I' J' P' w' b' m' τ' i' hi' hev hm' hp hvo hss htt => ?_) (fun e S' I' J' P' b' m' τ' hev hm' h hτ => ?_)
  · obtain ⟨h, hfr, -, hT, hth', hs4, hrs, htl, hτ, hK⟩ := id hp
    refine LW_turn h.hG h.hP (by omega) (by omega) h.wk (Nat.zero_le _) (Nat.zero_le _) (dn_end h (by omega) hx (at_pre (pre := cp (hN A.ns) T) (q := []) rfl (by omega)) (fun I9 h9 => LQ_of h9.hG h9.hP ?_))
    have hrow := h9.row 0 v rfl
    subst hm'
    refine LW_done h9.hG h9.hP (by omega) (by omega) (by rw [pm_u_eq, pm_up_eq]) (by rw [pm_u_ne (by decide)]; exact h9.fl) (k1 v s' t' S' _ J' P' b' hev ⟨h9.hG, h9.hP, h9.fr'.w34, h9.1.2.2.2.2.1, h9.tc.mv (mU.refl.uI (by decide)), by rw [pm_u_ne (by decide)]; exact h9.fl⟩ ⟨by rw [pm_u_eq, pm_up_ne (by decide)]; exact h9.tp, by rw [pm_u_ne (by decide)]; exact hrow.1, hrow.2⟩ ⟨hvo, hT, h9.1.2.2.2.2.2, by omega⟩)
  · obtain ⟨⟨g1, g2, g3, g4, g5⟩, g6, g7, t, g8, g9⟩ := h
    have hle := g8.length_le
    have hl := g9.l
    have hm2 := g9.m'
    subst hm'
    exact LW_fail g1 g2 (by omega) (by omega) g6 (hE.2 e hev) g7 rfl g9.n ⟨hle, by omega⟩ (k0 e S' _ J' P' b' hev ⟨g1, g2, g3.w21, g5, g9.drop g8, by rw [pm_u_ne (by decide)]; exact g7⟩)
set_option maxRecDepth 20000 in
set_option maxHeartbeats 4000000 in
theorem c_X1_workN {l : Launch} {E : pmE} {d : Nat} {S : pmS} {I : pmI} {J : pmJ} {P : pmP} {Q : Option Value → pmS → pmI → pmJ → pmP → Prop} (hG : sh_St S) (hP : gr_St P) (hd : 10 ≤ d) {A : aS} {b m c0 : Nat} (ht : tC S I J P A A.th b m) (h4 : I 41 4 = nI 0) (h0 : I 41 0 = nI 0) (hth : A.th.length ≤ 15600) (hx : kX S I J P b c0 [(7, 0, 0), (13, 0, 0)]) (k : ∀ (S' : pmS) (I' : pmI) (J' : pmJ) (P' : pmP), wE S I J P A b S' I' J' P' A.th b m 0 → (I' 34 10 = nI 1 ∧ I' 36 0 = nI 0 ∧ J' 37 0 = 0) → Q none S' I' J' P') : pm_Met l E yX1_work cX1_work 4 none d 0 0 [.ref 34, .ref c0] S I J P Q := by
  unfold pm_Met
  refine pm_lvs (lv' := [(0, _), (1, _)]) rfl ?_
  refine pw_aload_n dX1_work_0 rfl ?_
  refine pw_getR fX1_39 dX1_work_1 (sh_lt hG (by decide)) (sh_tg hG 32 rfl) rfl (gr_at hP 28 rfl) ?_
  refine pw_getR fX1_67 dX1_work_4 (sh_lt hG (by decide)) (sh_tg hG 13 rfl) rfl (gr_at hP 16 rfl) ?_
  refine pw_callV (as := []) (kc' := 0) (ks' := 0) lX1_73 dX1_work_7 rfl rfl (sh_lt hG (by decide)) (sh_tg hG 19 rfl) (Nat.le_of_ble_eq_true rfl) (by omega) (Nat.le_of_ble_eq_true rfl) (Nat.zero_le _) (Nat.zero_le _) ?_
  unfold pm_Met
  refine pm_lvs (lv' := [(0, _)]) rfl ?_
  refine pw_aload_n dX6_size_0 rfl ?_
  refine pw_getI fX6_28 dX6_size_1 (sh_lt hG (by decide)) (sh_tg hG 19 rfl) rfl ?_
  refine pw_iret dX6_size_4 rfl ?_
  refine pw_ti (z := nI A.th.length) ht.n ?_
  refine pw_istore_n (lv' := [(2, _), (0, _), (1, _)]) dX1_work_10 (by decide) rfl ?_
  refine pw_aload_n dX1_work_11 rfl ?_
  refine pw_aload_n dX1_work_12 rfl ?_
  refine pw_putP fX1_35 dX1_work_13 rfl (Or.inl rfl) (by decide) (sh_lt hG (by decide)) (sh_tg hG 32 rfl) rfl ?_
  have hP1 := hP
  have hP := hP.upd (a := 34) (k := 6) (v := some c0) (by decide)
  refine pw_aload_n dX1_work_16 rfl ?_
  refine pw_iconst (v := nI 0) dX1_work_17 (by decide) ?_
  refine pw_putI fX1_79 dX1_work_18 (Or.inl rfl) (by decide) (sh_lt hG (by decide)) (sh_tg hG 32 rfl) rfl ?_
  refine pw_aload_n dX1_work_21 rfl ?_
  refine pw_iconst (v := nI 0) dX1_work_22 (by decide) ?_
  refine pw_putI fX1_82 dX1_work_23 (Or.inl rfl) (by decide) (sh_lt hG (by decide)) (sh_tg hG 32 rfl) rfl ?_
  refine pw_aload_n dX1_work_26 rfl ?_
  refine pw_iconst (v := nI 0) dX1_work_27 (by decide) ?_
  refine pw_putI fX1_56 dX1_work_28 (Or.inl rfl) (by decide) (sh_lt hG (by decide)) (sh_tg hG 32 rfl) rfl ?_
  refine pw_aload_n dX1_work_31 rfl ?_
  refine pw_iconst (v := nI 0) dX1_work_32 (by decide) ?_
  refine pw_putI fX1_85 dX1_work_33 (Or.inl rfl) (by decide) (sh_lt hG (by decide)) (sh_tg hG 32 rfl) rfl ?_
  refine pw_aload_n dX1_work_36 rfl ?_
  refine pw_iconst (v := nI 1) dX1_work_37 (by decide) ?_
  refine pw_putZ fX1_88 dX1_work_38 (Or.inl rfl) (by decide) (by decide) (sh_lt hG (by decide)) (sh_tg hG 32 rfl) rfl ?_
  refine pw_iconst (v := nI 0) dX1_work_41 (by decide) ?_
  refine pw_istore_n (lv' := [(3, _), (2, _), (0, _), (1, _)]) dX1_work_42 (by decide) rfl ?_
  have h := mS.start (c0 := c0) hG hP1 ht h4 h0
  refine LW_turn (c0 := c0) (mk := nI A.th.length) (τ := 0) h.hG h.hP (by omega) (by decide) h.wk (Nat.zero_le _) (Nat.zero_le _) (dn_not h (by omega) hx rfl (by decide) (fun I8 J8 h8 => LQ_of h8.hG h8.hP ?_))
  refine LW_turn h8.hG h8.hP (by omega) (by decide) h8.wk (Nat.zero_le _) (Nat.zero_le _) (dn_end h8 (by omega) hx rfl (fun I9 h9 => LQ_of h9.hG h9.hP ?_))
  have hrow := h9.row 0 (0, 0) rfl
  exact LW_done h9.hG h9.hP (by omega) (by decide) (by rw [pm_u_eq, pm_up_eq]) (by rw [pm_u_ne (by decide)]; exact h9.fl) (k S _ J8 _ ⟨h9.hG, h9.hP, h9.fr'.w34, h9.1.2.2.2.2.1, h9.tc.mv (mU.refl.uI (by decide)), by rw [pm_u_ne (by decide)]; exact h9.fl⟩ ⟨by rw [pm_u_eq, pm_up_ne (by decide)]; exact h9.tp, by rw [pm_u_ne (by decide)]; exact hrow.1, hrow.2⟩)
