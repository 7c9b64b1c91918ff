set_option maxRecDepth 20000 in
set_option maxHeartbeats 4000000 in
theorem k_deed {l : Launch} {E : pmE} {d : Nat} {S : pmS} {I : pmI} {J : pmJ} {P : pmP} {Q : Option Value → pmS → pmI → pmJ → pmP → Prop} {c rm : Nat} {L : List dE} (hk : kC S I J P c rm L) {i : Nat} {x : dE} (hi : L[i]? = some x) (k : Q (some (.int (nI x.1))) S I J P) : pm_Met l E yX0_deedAt cX0_deedAt 2 (some .int) d 0 0 [.ref c, .int (nI i)] S I J P Q := by
  unfold pm_Met
  have hlt := (List.getElem?_eq_some_iff.mp hi).1
  have hrm := hk.rr
  refine pm_lvs (lv' := [(0, _), (1, _)]) rfl ?_
  refine pw_iload_n dX0_deedAt_0 rfl ?_
  refine pw_if_lt (tgt := 21) dX0_deedAt_1 (by decide) (fun h => absurd h (nI_pos (by omega))) (fun h1 => ?_)
  refine pw_iload_n dX0_deedAt_4 rfl ?_
  refine pw_aload_n dX0_deedAt_5 rfl ?_
  refine pw_getI fX0_25 dX0_deedAt_6 (by have := hk.1.2; omega) hk.2.1 rfl ?_
  refine pw_icmpN_ge _ _ (tgt := 21) dX0_deedAt_9 (by decide) (rfl) (hk.sz) (by omega) (by omega) (fun h9 => absurd h9 (by omega)) (fun h9 => ?_)
  refine pw_aload_n dX0_deedAt_12 rfl ?_
  refine pw_getR fX0_9 dX0_deedAt_13 (by have := hk.1.2; omega) hk.2.1 rfl hk.p0 ?_
  refine pw_iload_n dX0_deedAt_16 rfl ?_
  refine pw_ialdN i dX0_deedAt_17 (by have := hk.1.2; omega) hk.a1 (by omega) (rfl) (by omega) ?_
  refine pw_ti (z := nI x.1) (hk.at hi).1 ?_
  refine pw_goto (tgt := 23) dX0_deedAt_18 (by decide) ?_
  exact pw_iret dX0_deedAt_23 rfl (k)

set_option maxRecDepth 20000 in
set_option maxHeartbeats 4000000 in
theorem k_count {l : Launch} {E : pmE} {d : Nat} {S : pmS} {I : pmI} {J : pmJ} {P : pmP} {Q : Option Value → pmS → pmI → pmJ → pmP → Prop} {c rm : Nat} {L : List dE} (hk : kC S I J P c rm L) {i : Nat} {x : dE} (hi : L[i]? = some x) (hx : x.1 ≠ 1) (k : Q (some (.int x.2.1)) S I J P) : pm_Met l E yX0_countAt cX0_countAt 2 (some .int) d 0 0 [.ref c, .int (nI i)] S I J P Q := by
  unfold pm_Met
  have hlt := (List.getElem?_eq_some_iff.mp hi).1
  have hrm := hk.rr
  refine pm_lvs (lv' := [(0, _), (1, _)]) rfl ?_
  refine pw_iload_n dX0_countAt_0 rfl ?_
  refine pw_if_lt (tgt := 21) dX0_countAt_1 (by decide) (fun h => absurd h (nI_pos (by omega))) (fun h1 => ?_)
  refine pw_iload_n dX0_countAt_4 rfl ?_
  refine pw_aload_n dX0_countAt_5 rfl ?_
  refine pw_getI fX0_25 dX0_countAt_6 (by have := hk.1.2; omega) hk.2.1 rfl ?_
  refine pw_icmpN_ge _ _ (tgt := 21) dX0_countAt_9 (by decide) (rfl) (hk.sz) (by omega) (by omega) (fun h9 => absurd h9 (by omega)) (fun h9 => ?_)
  refine pw_aload_n dX0_countAt_12 rfl ?_
  refine pw_getR fX0_18 dX0_countAt_13 (by have := hk.1.2; omega) hk.2.1 rfl hk.p2 ?_
  refine pw_iload_n dX0_countAt_16 rfl ?_
  refine pw_ialdN i dX0_countAt_17 (by have := hk.1.2; omega) hk.a3 (by omega) (rfl) (by omega) ?_
  refine pw_ti (z := x.2.1) ((hk.at hi).2 hx).1 ?_
  refine pw_goto (tgt := 22) dX0_countAt_18 (by decide) ?_
  exact pw_iret dX0_countAt_22 rfl (k)

set_option maxRecDepth 20000 in
set_option maxHeartbeats 4000000 in
theorem k_core {l : Launch} {E : pmE} {d : Nat} {S : pmS} {I : pmI} {J : pmJ} {P : pmP} {Q : Option Value → pmS → pmI → pmJ → pmP → Prop} {c rm : Nat} {L : List dE} (hk : kC S I J P c rm L) {i : Nat} {x : dE} (hi : L[i]? = some x) (hx : x.1 ≠ 1) (k : Q (some (.long x.2.2)) S I J P) : pm_Met l E yX0_coreAt cX0_coreAt 2 (some .long) d 0 0 [.ref c, .int (nI i)] S I J P Q := by
  unfold pm_Met
  have hlt := (List.getElem?_eq_some_iff.mp hi).1
  have hrm := hk.rr
  refine pm_lvs (lv' := [(0, _), (1, _)]) rfl ?_
  refine pw_iload_n dX0_coreAt_0 rfl ?_
  refine pw_if_lt (tgt := 21) dX0_coreAt_1 (by decide) (fun h => absurd h (nI_pos (by omega))) (fun h1 => ?_)
  refine pw_iload_n dX0_coreAt_4 rfl ?_
  refine pw_aload_n dX0_coreAt_5 rfl ?_
  refine pw_getI fX0_25 dX0_coreAt_6 (by have := hk.1.2; omega) hk.2.1 rfl ?_
  refine pw_icmpN_ge _ _ (tgt := 21) dX0_coreAt_9 (by decide) (rfl) (hk.sz) (by omega) (by omega) (fun h9 => absurd h9 (by omega)) (fun h9 => ?_)
  refine pw_aload_n dX0_coreAt_12 rfl ?_
  refine pw_getR fX0_21 dX0_coreAt_13 (by have := hk.1.2; omega) hk.2.1 rfl hk.p3 ?_
  refine pw_iload_n dX0_coreAt_16 rfl ?_
  refine pw_laldN i dX0_coreAt_17 (by have := hk.1.2; omega) hk.a4 (by omega) (rfl) (by omega) ?_
  refine pw_tj (z := x.2.2) ((hk.at hi).2 hx).2 ?_
  refine pw_goto (tgt := 22) dX0_coreAt_18 (by decide) ?_
  exact pw_lret dX0_coreAt_22 rfl (k)

set_option maxRecDepth 20000 in
set_option maxHeartbeats 4000000 in
theorem k_place {l : Launch} {E : pmE} {d : Nat} {S : pmS} {I : pmI} {J : pmJ} {P : pmP} {Q : Option Value → pmS → pmI → pmJ → pmP → Prop} {c rm : Nat} {L : List dE} (hk : kC S I J P c rm L) {y : Int32} (k : ∀ z, Q (some (.int z)) S I J P) : pm_Met l E yX0_placeAt cX0_placeAt 2 (some .int) d 0 0 [.ref c, .int y] S I J P Q := by
  unfold pm_Met
  have hrm := hk.rr
  refine pm_lvs (lv' := [(0, _), (1, _)]) rfl ?_
  refine pw_iload_n dX0_placeAt_0 rfl ?_
  refine pw_if_lt (tgt := 21) dX0_placeAt_1 (by decide) (fun h1 => ?_) (fun h1 => ?_)
  · refine pw_iconst (v := nI 0) dX0_placeAt_21 (by decide) ?_
    exact pw_iret dX0_placeAt_22 rfl (k _)
  · refine pw_iload_n dX0_placeAt_4 rfl ?_
    refine pw_aload_n dX0_placeAt_5 rfl ?_
    refine pw_getI fX0_25 dX0_placeAt_6 (by have := hk.1.2; omega) hk.2.1 rfl ?_
    refine pw_icmp_ge (tgt := 21) dX0_placeAt_9 (by decide) (fun h9 => ?_) (fun h9 => ?_)
    · refine pw_iconst (v := nI 0) dX0_placeAt_21 (by decide) ?_
      exact pw_iret dX0_placeAt_22 rfl (k _)
    · obtain ⟨j, hj, rfl⟩ := nI_of h1
      have hjl : j < L.length := by rw [hk.sz] at h9; exact Nat.not_le.mp fun q => h9 ((nI_leI (by omega) hj).mpr q)
      refine pw_aload_n dX0_placeAt_12 rfl ?_
      refine pw_getR fX0_15 dX0_placeAt_13 (by have := hk.1.2; omega) hk.2.1 rfl hk.p1 ?_
      refine pw_iload_n dX0_placeAt_16 rfl ?_
      refine pw_ialdN j dX0_placeAt_17 (by have := hk.1.2; omega) hk.a2 (by omega) (rfl) (by omega) ?_
      refine pw_goto (tgt := 22) dX0_placeAt_18 (by decide) ?_
      exact pw_iret dX0_placeAt_22 rfl (k _)

set_option maxRecDepth 20000 in
set_option maxHeartbeats 4000000 in
theorem k_owner {l : Launch} {E : pmE} {d : Nat} {S : pmS} {I : pmI} {J : pmJ} {P : pmP} {Q : Option Value → pmS → pmI → pmJ → pmP → Prop} {c rm : Nat} {L : List dE} (hk : kC S I J P c rm L) (k : ∀ z, Q (some (.int z)) S I J P) : pm_Met l E yX0_owner cX0_owner 1 (some .int) d 0 0 [.ref c] S I J P Q := by
  unfold pm_Met
  refine pm_lvs (lv' := [(0, _)]) rfl ?_
  refine pw_aload_n dX0_owner_0 rfl ?_
  refine pw_getI fX0_29 dX0_owner_1 (by have := hk.1.2; omega) hk.2.1 rfl ?_
  exact pw_iret dX0_owner_4 rfl (k _)

set_option maxRecDepth 20000 in
set_option maxHeartbeats 4000000 in
theorem v_kind35 {l : Launch} {E : pmE} {d : Nat} {S : pmS} {I : pmI} {J : pmJ} {P : pmP} {Q : Option Value → pmS → pmI → pmJ → pmP → Prop} (hG : sh_St S) (hP : gr_St P) {i : Nat} (hi : i < 401) (k : Q (some (.int (I 36 i))) S I J P) : pm_Met l E yX8_kindAt cX8_kindAt 2 (some .int) d 0 0 [.ref 35, .int (nI i)] S I J P Q := by
  unfold pm_Met
  refine pm_lvs (lv' := [(0, _), (1, _)]) rfl ?_
  refine pw_iload_n dX8_kindAt_0 rfl ?_
  refine pw_if_lt (tgt := 22) dX8_kindAt_1 (by decide) (fun h => absurd h (nI_pos (by omega))) (fun h1 => ?_)
  refine pw_iload_n dX8_kindAt_4 rfl ?_
  refine pw_aload_n dX8_kindAt_5 rfl ?_
  refine pw_getR fX8_7 dX8_kindAt_6 (sh_lt hG (by decide)) (sh_tg hG 33 rfl) rfl (gr_at hP 34 rfl) ?_
  refine pw_alen dX8_kindAt_9 (sh_lt hG (by decide)) (sh_sh hG 34 rfl) (by decide) (by decide) ?_
  refine pw_icmpN_ge _ _ (tgt := 22) dX8_kindAt_10 (by decide) (rfl) (rfl) (by omega) (by omega) (fun h10 => absurd h10 (by omega)) (fun h10 => ?_)
  refine pw_aload_n dX8_kindAt_13 rfl ?_
  refine pw_getR fX8_7 dX8_kindAt_14 (sh_lt hG (by decide)) (sh_tg hG 33 rfl) rfl (gr_at hP 34 rfl) ?_
  refine pw_iload_n dX8_kindAt_17 rfl ?_
  refine pw_ialdN i dX8_kindAt_18 (sh_lt hG (by decide)) (sh_sh hG 34 rfl) (by decide) (rfl) (by omega) ?_
  refine pw_goto (tgt := 23) dX8_kindAt_19 (by decide) ?_
  exact pw_iret dX8_kindAt_23 rfl (k)

set_option maxRecDepth 20000 in
set_option maxHeartbeats 4000000 in
theorem v_core35 {l : Launch} {E : pmE} {d : Nat} {S : pmS} {I : pmI} {J : pmJ} {P : pmP} {Q : Option Value → pmS → pmI → pmJ → pmP → Prop} (hG : sh_St S) (hP : gr_St P) {i : Nat} (hi : i < 401) (k : Q (some (.long (J 37 i))) S I J P) : pm_Met l E yX8_coreAt cX8_coreAt 2 (some .long) d 0 0 [.ref 35, .int (nI i)] S I J P Q := by
  unfold pm_Met
  refine pm_lvs (lv' := [(0, _), (1, _)]) rfl ?_
  refine pw_iload_n dX8_coreAt_0 rfl ?_
  refine pw_if_lt (tgt := 22) dX8_coreAt_1 (by decide) (fun h => absurd h (nI_pos (by omega))) (fun h1 => ?_)
  refine pw_iload_n dX8_coreAt_4 rfl ?_
  refine pw_aload_n dX8_coreAt_5 rfl ?_
  refine pw_getR fX8_13 dX8_coreAt_6 (sh_lt hG (by decide)) (sh_tg hG 33 rfl) rfl (gr_at hP 35 rfl) ?_
  refine pw_alen dX8_coreAt_9 (sh_lt hG (by decide)) (sh_sh hG 35 rfl) (by decide) (by decide) ?_
  refine pw_icmpN_ge _ _ (tgt := 22) dX8_coreAt_10 (by decide) (rfl) (rfl) (by omega) (by omega) (fun h10 => absurd h10 (by omega)) (fun h10 => ?_)
  refine pw_aload_n dX8_coreAt_13 rfl ?_
  refine pw_getR fX8_13 dX8_coreAt_14 (sh_lt hG (by decide)) (sh_tg hG 33 rfl) rfl (gr_at hP 35 rfl) ?_
  refine pw_iload_n dX8_coreAt_17 rfl ?_
  refine pw_laldN i dX8_coreAt_18 (sh_lt hG (by decide)) (sh_sh hG 35 rfl) (by decide) (rfl) (by omega) ?_
  refine pw_goto (tgt := 23) dX8_coreAt_19 (by decide) ?_
  exact pw_lret dX8_coreAt_23 rfl (k)

set_option maxRecDepth 20000 in
set_option maxHeartbeats 4000000 in
theorem v_put35 {l : Launch} {E : pmE} {d : Nat} {S : pmS} {I : pmI} {J : pmJ} {P : pmP} {Q : Option Value → pmS → pmI → pmJ → pmP → Prop} (hG : sh_St S) (hP : gr_St P) {i : Nat} {x : Int32} {y : Int64} (hi : i < 401) (k : Q none S (pm_u I 36 i x) (pm_u J 37 i y) P) : pm_Met l E yX8_put cX8_put 5 none d 0 0 [.ref 35, .int (nI i), .int x, .long y] S I J P Q := by
  unfold pm_Met
  refine pm_lvs (lv' := [(0, _), (1, _), (2, _), (3, _)]) rfl ?_
  refine pw_iload_n dX8_put_0 rfl ?_
  refine pw_if_lt (tgt := 27) dX8_put_1 (by decide) (fun h => absurd h (nI_pos (by omega))) (fun h1 => ?_)
  refine pw_iload_n dX8_put_4 rfl ?_
  refine pw_aload_n dX8_put_5 rfl ?_
  refine pw_getR fX8_7 dX8_put_6 (sh_lt hG (by decide)) (sh_tg hG 33 rfl) rfl (gr_at hP 34 rfl) ?_
  refine pw_alen dX8_put_9 (sh_lt hG (by decide)) (sh_sh hG 34 rfl) (by decide) (by decide) ?_
  refine pw_icmpN_ge _ _ (tgt := 27) dX8_put_10 (by decide) (rfl) (rfl) (by omega) (by omega) (fun h10 => absurd h10 (by omega)) (fun h10 => ?_)
  refine pw_aload_n dX8_put_13 rfl ?_
  refine pw_getR fX8_7 dX8_put_14 (sh_lt hG (by decide)) (sh_tg hG 33 rfl) rfl (gr_at hP 34 rfl) ?_
  refine pw_iload_n dX8_put_17 rfl ?_
  refine pw_iload_n dX8_put_18 rfl ?_
  refine pw_iastN i dX8_put_19 (by decide) (sh_lt hG (by decide)) (sh_sh hG 34 rfl) (by decide) (rfl) (by omega) ?_
  refine pw_aload_n dX8_put_20 rfl ?_
  refine pw_getR fX8_13 dX8_put_21 (sh_lt hG (by decide)) (sh_tg hG 33 rfl) rfl (gr_at hP 35 rfl) ?_
  refine pw_iload_n dX8_put_24 rfl ?_
  refine pw_lload_n dX8_put_25 rfl ?_
  refine pw_lastN i dX8_put_26 (by decide) (sh_lt hG (by decide)) (sh_sh hG 35 rfl) (by decide) (rfl) (by omega) ?_
  exact pw_vret dX8_put_27 rfl (k)

set_option maxRecDepth 20000 in
set_option maxHeartbeats 4000000 in
theorem v_kind27 {l : Launch} {E : pmE} {d : Nat} {S : pmS} {I : pmI} {J : pmJ} {P : pmP} {Q : Option Value → pmS → pmI → pmJ → pmP → Prop} (hG : sh_St S) (hP : gr_St P) {i : Nat} (hi : i < 40) (k : Q (some (.int (I 28 i))) S I J P) : pm_Met l E yX8_kindAt cX8_kindAt 2 (some .int) d 0 0 [.ref 27, .int (nI i)] S I J P Q := by
  unfold pm_Met
  refine pm_lvs (lv' := [(0, _), (1, _)]) rfl ?_
  refine pw_iload_n dX8_kindAt_0 rfl ?_
  refine pw_if_lt (tgt := 22) dX8_kindAt_1 (by decide) (fun h => absurd h (nI_pos (by omega))) (fun h1 => ?_)
  refine pw_iload_n dX8_kindAt_4 rfl ?_
  refine pw_aload_n dX8_kindAt_5 rfl ?_
  refine pw_getR fX8_7 dX8_kindAt_6 (sh_lt hG (by decide)) (sh_tg hG 25 rfl) rfl (gr_at hP 24 rfl) ?_
  refine pw_alen dX8_kindAt_9 (sh_lt hG (by decide)) (sh_sh hG 26 rfl) (by decide) (by decide) ?_
  refine pw_icmpN_ge _ _ (tgt := 22) dX8_kindAt_10 (by decide) (rfl) (rfl) (by omega) (by omega) (fun h10 => absurd h10 (by omega)) (fun h10 => ?_)
  refine pw_aload_n dX8_kindAt_13 rfl ?_
  refine pw_getR fX8_7 dX8_kindAt_14 (sh_lt hG (by decide)) (sh_tg hG 25 rfl) rfl (gr_at hP 24 rfl) ?_
  refine pw_iload_n dX8_kindAt_17 rfl ?_
  refine pw_ialdN i dX8_kindAt_18 (sh_lt hG (by decide)) (sh_sh hG 26 rfl) (by decide) (rfl) (by omega) ?_
  refine pw_goto (tgt := 23) dX8_kindAt_19 (by decide) ?_
  exact pw_iret dX8_kindAt_23 rfl (k)

set_option maxRecDepth 20000 in
set_option maxHeartbeats 4000000 in
theorem v_core27 {l : Launch} {E : pmE} {d : Nat} {S : pmS} {I : pmI} {J : pmJ} {P : pmP} {Q : Option Value → pmS → pmI → pmJ → pmP → Prop} (hG : sh_St S) (hP : gr_St P) {i : Nat} (hi : i < 40) (k : Q (some (.long (J 29 i))) S I J P) : pm_Met l E yX8_coreAt cX8_coreAt 2 (some .long) d 0 0 [.ref 27, .int (nI i)] S I J P Q := by
  unfold pm_Met
  refine pm_lvs (lv' := [(0, _), (1, _)]) rfl ?_
  refine pw_iload_n dX8_coreAt_0 rfl ?_
  refine pw_if_lt (tgt := 22) dX8_coreAt_1 (by decide) (fun h => absurd h (nI_pos (by omega))) (fun h1 => ?_)
  refine pw_iload_n dX8_coreAt_4 rfl ?_
  refine pw_aload_n dX8_coreAt_5 rfl ?_
  refine pw_getR fX8_13 dX8_coreAt_6 (sh_lt hG (by decide)) (sh_tg hG 25 rfl) rfl (gr_at hP 25 rfl) ?_
  refine pw_alen dX8_coreAt_9 (sh_lt hG (by decide)) (sh_sh hG 27 rfl) (by decide) (by decide) ?_
  refine pw_icmpN_ge _ _ (tgt := 22) dX8_coreAt_10 (by decide) (rfl) (rfl) (by omega) (by omega) (fun h10 => absurd h10 (by omega)) (fun h10 => ?_)
  refine pw_aload_n dX8_coreAt_13 rfl ?_
  refine pw_getR fX8_13 dX8_coreAt_14 (sh_lt hG (by decide)) (sh_tg hG 25 rfl) rfl (gr_at hP 25 rfl) ?_
  refine pw_iload_n dX8_coreAt_17 rfl ?_
  refine pw_laldN i dX8_coreAt_18 (sh_lt hG (by decide)) (sh_sh hG 27 rfl) (by decide) (rfl) (by omega) ?_
  refine pw_goto (tgt := 23) dX8_coreAt_19 (by decide) ?_
  exact pw_lret dX8_coreAt_23 rfl (k)

set_option maxRecDepth 20000 in
set_option maxHeartbeats 4000000 in
theorem v_put27 {l : Launch} {E : pmE} {d : Nat} {S : pmS} {I : pmI} {J : pmJ} {P : pmP} {Q : Option Value → pmS → pmI → pmJ → pmP → Prop} (hG : sh_St S) (hP : gr_St P) {i : Nat} {x : Int32} {y : Int64} (hi : i < 40) (k : Q none S (pm_u I 28 i x) (pm_u J 29 i y) P) : pm_Met l E yX8_put cX8_put 5 none d 0 0 [.ref 27, .int (nI i), .int x, .long y] S I J P Q := by
  unfold pm_Met
  refine pm_lvs (lv' := [(0, _), (1, _), (2, _), (3, _)]) rfl ?_
  refine pw_iload_n dX8_put_0 rfl ?_
  refine pw_if_lt (tgt := 27) dX8_put_1 (by decide) (fun h => absurd h (nI_pos (by omega))) (fun h1 => ?_)
  refine pw_iload_n dX8_put_4 rfl ?_
  refine pw_aload_n dX8_put_5 rfl ?_
  refine pw_getR fX8_7 dX8_put_6 (sh_lt hG (by decide)) (sh_tg hG 25 rfl) rfl (gr_at hP 24 rfl) ?_
  refine pw_alen dX8_put_9 (sh_lt hG (by decide)) (sh_sh hG 26 rfl) (by decide) (by decide) ?_
  refine pw_icmpN_ge _ _ (tgt := 27) dX8_put_10 (by decide) (rfl) (rfl) (by omega) (by omega) (fun h10 => absurd h10 (by omega)) (fun h10 => ?_)
  refine pw_aload_n dX8_put_13 rfl ?_
  refine pw_getR fX8_7 dX8_put_14 (sh_lt hG (by decide)) (sh_tg hG 25 rfl) rfl (gr_at hP 24 rfl) ?_
  refine pw_iload_n dX8_put_17 rfl ?_
  refine pw_iload_n dX8_put_18 rfl ?_
  refine pw_iastN i dX8_put_19 (by decide) (sh_lt hG (by decide)) (sh_sh hG 26 rfl) (by decide) (rfl) (by omega) ?_
  refine pw_aload_n dX8_put_20 rfl ?_
  refine pw_getR fX8_13 dX8_put_21 (sh_lt hG (by decide)) (sh_tg hG 25 rfl) rfl (gr_at hP 25 rfl) ?_
  refine pw_iload_n dX8_put_24 rfl ?_
  refine pw_lload_n dX8_put_25 rfl ?_
  refine pw_lastN i dX8_put_26 (by decide) (sh_lt hG (by decide)) (sh_sh hG 27 rfl) (by decide) (rfl) (by omega) ?_
  exact pw_vret dX8_put_27 rfl (k)

set_option maxRecDepth 20000 in
set_option maxHeartbeats 4000000 in
theorem v_kind30 {l : Launch} {E : pmE} {d : Nat} {S : pmS} {I : pmI} {J : pmJ} {P : pmP} {Q : Option Value → pmS → pmI → pmJ → pmP → Prop} (hG : sh_St S) (hP : gr_St P) {i : Nat} (hi : i < 41) (k : Q (some (.int (I 31 i))) S I J P) : pm_Met l E yX8_kindAt cX8_kindAt 2 (some .int) d 0 0 [.ref 30, .int (nI i)] S I J P Q := by
  unfold pm_Met
  refine pm_lvs (lv' := [(0, _), (1, _)]) rfl ?_
  refine pw_iload_n dX8_kindAt_0 rfl ?_
  refine pw_if_lt (tgt := 22) dX8_kindAt_1 (by decide) (fun h => absurd h (nI_pos (by omega))) (fun h1 => ?_)
  refine pw_iload_n dX8_kindAt_4 rfl ?_
  refine pw_aload_n dX8_kindAt_5 rfl ?_
  refine pw_getR fX8_7 dX8_kindAt_6 (sh_lt hG (by decide)) (sh_tg hG 28 rfl) rfl (gr_at hP 26 rfl) ?_
  refine pw_alen dX8_kindAt_9 (sh_lt hG (by decide)) (sh_sh hG 29 rfl) (by decide) (by decide) ?_
  refine pw_icmpN_ge _ _ (tgt := 22) dX8_kindAt_10 (by decide) (rfl) (rfl) (by omega) (by omega) (fun h10 => absurd h10 (by omega)) (fun h10 => ?_)
  refine pw_aload_n dX8_kindAt_13 rfl ?_
  refine pw_getR fX8_7 dX8_kindAt_14 (sh_lt hG (by decide)) (sh_tg hG 28 rfl) rfl (gr_at hP 26 rfl) ?_
  refine pw_iload_n dX8_kindAt_17 rfl ?_
  refine pw_ialdN i dX8_kindAt_18 (sh_lt hG (by decide)) (sh_sh hG 29 rfl) (by decide) (rfl) (by omega) ?_
  refine pw_goto (tgt := 23) dX8_kindAt_19 (by decide) ?_
  exact pw_iret dX8_kindAt_23 rfl (k)

set_option maxRecDepth 20000 in
set_option maxHeartbeats 4000000 in
theorem v_core30 {l : Launch} {E : pmE} {d : Nat} {S : pmS} {I : pmI} {J : pmJ} {P : pmP} {Q : Option Value → pmS → pmI → pmJ → pmP → Prop} (hG : sh_St S) (hP : gr_St P) {i : Nat} (hi : i < 41) (k : Q (some (.long (J 32 i))) S I J P) : pm_Met l E yX8_coreAt cX8_coreAt 2 (some .long) d 0 0 [.ref 30, .int (nI i)] S I J P Q := by
  unfold pm_Met
  refine pm_lvs (lv' := [(0, _), (1, _)]) rfl ?_
  refine pw_iload_n dX8_coreAt_0 rfl ?_
  refine pw_if_lt (tgt := 22) dX8_coreAt_1 (by decide) (fun h => absurd h (nI_pos (by omega))) (fun h1 => ?_)
  refine pw_iload_n dX8_coreAt_4 rfl ?_
  refine pw_aload_n dX8_coreAt_5 rfl ?_
  refine pw_getR fX8_13 dX8_coreAt_6 (sh_lt hG (by decide)) (sh_tg hG 28 rfl) rfl (gr_at hP 27 rfl) ?_
  refine pw_alen dX8_coreAt_9 (sh_lt hG (by decide)) (sh_sh hG 30 rfl) (by decide) (by decide) ?_
  refine pw_icmpN_ge _ _ (tgt := 22) dX8_coreAt_10 (by decide) (rfl) (rfl) (by omega) (by omega) (fun h10 => absurd h10 (by omega)) (fun h10 => ?_)
  refine pw_aload_n dX8_coreAt_13 rfl ?_
  refine pw_getR fX8_13 dX8_coreAt_14 (sh_lt hG (by decide)) (sh_tg hG 28 rfl) rfl (gr_at hP 27 rfl) ?_
  refine pw_iload_n dX8_coreAt_17 rfl ?_
  refine pw_laldN i dX8_coreAt_18 (sh_lt hG (by decide)) (sh_sh hG 30 rfl) (by decide) (rfl) (by omega) ?_
  refine pw_goto (tgt := 23) dX8_coreAt_19 (by decide) ?_
  exact pw_lret dX8_coreAt_23 rfl (k)

set_option maxRecDepth 20000 in
set_option maxHeartbeats 4000000 in
theorem v_put30 {l : Launch} {E : pmE} {d : Nat} {S : pmS} {I : pmI} {J : pmJ} {P : pmP} {Q : Option Value → pmS → pmI → pmJ → pmP → Prop} (hG : sh_St S) (hP : gr_St P) {i : Nat} {x : Int32} {y : Int64} (hi : i < 41) (k : Q none S (pm_u I 31 i x) (pm_u J 32 i y) P) : pm_Met l E yX8_put cX8_put 5 none d 0 0 [.ref 30, .int (nI i), .int x, .long y] S I J P Q := by
  unfold pm_Met
  refine pm_lvs (lv' := [(0, _), (1, _), (2, _), (3, _)]) rfl ?_
  refine pw_iload_n dX8_put_0 rfl ?_
  refine pw_if_lt (tgt := 27) dX8_put_1 (by decide) (fun h => absurd h (nI_pos (by omega))) (fun h1 => ?_)
  refine pw_iload_n dX8_put_4 rfl ?_
  refine pw_aload_n dX8_put_5 rfl ?_
  refine pw_getR fX8_7 dX8_put_6 (sh_lt hG (by decide)) (sh_tg hG 28 rfl) rfl (gr_at hP 26 rfl) ?_
  refine pw_alen dX8_put_9 (sh_lt hG (by decide)) (sh_sh hG 29 rfl) (by decide) (by decide) ?_
  refine pw_icmpN_ge _ _ (tgt := 27) dX8_put_10 (by decide) (rfl) (rfl) (by omega) (by omega) (fun h10 => absurd h10 (by omega)) (fun h10 => ?_)
  refine pw_aload_n dX8_put_13 rfl ?_
  refine pw_getR fX8_7 dX8_put_14 (sh_lt hG (by decide)) (sh_tg hG 28 rfl) rfl (gr_at hP 26 rfl) ?_
  refine pw_iload_n dX8_put_17 rfl ?_
  refine pw_iload_n dX8_put_18 rfl ?_
  refine pw_iastN i dX8_put_19 (by decide) (sh_lt hG (by decide)) (sh_sh hG 29 rfl) (by decide) (rfl) (by omega) ?_
  refine pw_aload_n dX8_put_20 rfl ?_
  refine pw_getR fX8_13 dX8_put_21 (sh_lt hG (by decide)) (sh_tg hG 28 rfl) rfl (gr_at hP 27 rfl) ?_
  refine pw_iload_n dX8_put_24 rfl ?_
  refine pw_lload_n dX8_put_25 rfl ?_
  refine pw_lastN i dX8_put_26 (by decide) (sh_lt hG (by decide)) (sh_sh hG 30 rfl) (by decide) (rfl) (by omega) ?_
  exact pw_vret dX8_put_27 rfl (k)

set_option maxRecDepth 20000 in
set_option maxHeartbeats 4000000 in
theorem m_push {l : Launch} {E : pmE} {d : Nat} {S : pmS} {I : pmI} {J : pmJ} {P : pmP} {Q : Option Value → pmS → pmI → pmJ → pmP → Prop} {S0 : pmS} {I0 : pmI} {J0 : pmJ} {P0 : pmP} {b0 : Nat} {A : aS} {c i bs s b m : Nat} {w : Int32} {rv : List vV} {fr : List (Nat × Nat × Nat)} {t : List tH} (h : mS S0 I0 J0 P0 b0 A S I J P c w i bs rv fr s t b m) (hd : 1 ≤ d) {v : vV} (hl : rv.length < 401) (k : ∀ I' J', mS S0 I0 J0 P0 b0 A S I' J' P c w i bs (rv ++ [v]) fr s t b m → Q none S I' J' P) : pm_Met l E yX1_push cX1_push 4 none d 0 0 [.ref 34, .int (nI v.1), .long v.2] S I J P Q := by
  unfold pm_Met
  have hG := h.hG
  have hP := h.hP
  refine pm_lvs (lv' := [(0, _), (1, _), (2, _)]) rfl ?_
  refine pw_aload_n dX1_push_0 rfl ?_
  refine pw_getR fX1_14 dX1_push_1 (sh_lt hG (by decide)) (sh_tg hG 32 rfl) rfl (gr_at hP 29 rfl) ?_
  refine pw_aload_n dX1_push_4 rfl ?_
  refine pw_getI fX1_56 dX1_push_5 (sh_lt hG (by decide)) (sh_tg hG 32 rfl) rfl ?_
  refine pw_ti (z := nI rv.length) h.tp ?_
  refine pw_iload_n dX1_push_8 rfl ?_
  refine pw_lload_n dX1_push_9 rfl ?_
  refine pw_callV (as := [_, _, _]) (kc' := 0) (ks' := 0) lX1_161 dX1_push_10 rfl rfl (sh_lt hG (by decide)) (sh_tg hG 33 rfl) (Nat.le_of_ble_eq_true rfl) (by omega) (Nat.le_of_ble_eq_true rfl) (Nat.zero_le _) (Nat.zero_le _) ?_
  refine v_put35 hG hP hl ?_
  refine pw_aload_n dX1_push_13 rfl ?_
  refine pw_dup dX1_push_14 rfl ?_
  refine pw_getI fX1_56 dX1_push_15 (sh_lt hG (by decide)) (sh_tg hG 32 rfl) rfl ?_
  refine pw_iconst (v := nI 1) dX1_push_18 (by decide) ?_
  refine pw_iadd dX1_push_19 ?_
  refine pw_ti (z := nI (rv.length + 1)) (by rw [pm_u_ne (by decide), h.tp]; exact nI_add _ 1) ?_
  refine pw_putI fX1_56 dX1_push_20 (Or.inl rfl) (by decide) (sh_lt hG (by decide)) (sh_tg hG 32 rfl) rfl ?_
  exact pw_vret dX1_push_23 rfl (k _ _ (h.push hl))

theorem mS.fail {S0 : pmS} {I0 : pmI} {J0 : pmJ} {P0 : pmP} {b0 : Nat} {A : aS} {c i bs s b m : Nat} {w : Int32} {rv : List vV} {fr : List (Nat × Nat × Nat)} {t : List tH} {S : pmS} {I : pmI} {J : pmJ} {P : pmP} (h : mS S0 I0 J0 P0 b0 A S I J P c w i bs rv fr s t b m) {e : Nat} {z1 z2 z3 : Int32} : mE S0 I0 J0 P0 b0 A S (pm_u (pm_u (pm_u (pm_u (pm_u I 41 0 (nI e)) 41 1 z1) 41 2 z2) 41 3 z3) 34 13 (nI 0)) J P e b m := h.me (((((mU.refl.uI (by decide)).uI (by decide)).uI (by decide)).uI (by decide)).uI (by decide)) h.hP (by rw [pm_u_eq, pm_up_eq]) (by rw [pm_u_ne (by decide), pm_u_eq, pm_up_ne (by decide), pm_u_eq, pm_up_ne (by decide), pm_u_eq, pm_up_ne (by decide), pm_u_eq, pm_up_eq])
theorem kC.u41 {S : pmS} {I : pmI} {J : pmJ} {P : pmP} {c rm : Nat} {L : List dE} (h : kC S I J P c rm L) (hc : c = 9 ∨ 95 ≤ c) {k : Nat} {x : Int32} : kC S (pm_u I 41 k x) J P c rm L :=
  h.mv (Nat.le_refl _) (fun _ _ => rfl) (fun a h1 h2 => ⟨pm_u_ne (by omega), rfl, rfl⟩)
theorem kC.u34 {S : pmS} {I : pmI} {J : pmJ} {P : pmP} {c rm : Nat} {L : List dE} (h : kC S I J P c rm L) (hc : c = 9 ∨ 95 ≤ c) {k : Nat} {x : Int32} : kC S (pm_u I 34 k x) J P c rm L :=
  h.mv (Nat.le_refl _) (fun _ _ => rfl) (fun a h1 h2 => ⟨pm_u_ne (by omega), rfl, rfl⟩)
set_option maxRecDepth 20000 in
set_option maxHeartbeats 4000000 in
theorem m_fail {l : Launch} {E : pmE} {d : Nat} {S : pmS} {I : pmI} {J : pmJ} {P : pmP} {Q : Option Value → pmS → pmI → pmJ → pmP → Prop} {S0 : pmS} {I0 : pmI} {J0 : pmJ} {P0 : pmP} {b0 : Nat} {A : aS} {c i bs s b m : Nat} {w : Int32} {rv : List vV} {fr : List (Nat × Nat × Nat)} {t : List tH} (h : mS S0 I0 J0 P0 b0 A S I J P c w i bs rv fr s t b m) (hd : 1 ≤ d) {e : Nat} {L : List dE} (hx : kX S0 I0 J0 P0 b0 c L) (k : ∀ I', mE S0 I0 J0 P0 b0 A S I' J P e b m → Q none S I' J P) : pm_Met l E yX1_fail cX1_fail 2 none d 0 0 [.ref 34, .int (nI e)] S I J P Q := by
  unfold pm_Met
  have hG := h.hG
  have hP := h.hP
  obtain ⟨rm, hk⟩ := hx.now h
  obtain ⟨-, hc9, -⟩ := hx
  have hc1 : ¬ c = 41 := by omega
  have hc2 : ¬ c + 1 = 41 := by omega
  refine pm_lvs (lv' := [(0, _), (1, _)]) rfl ?_
  refine pw_aload_n dX1_fail_0 rfl ?_
  refine pw_getR fX1_31 dX1_fail_1 (sh_lt hG (by decide)) (sh_tg hG 32 rfl) rfl (gr_at hP 33 rfl) ?_
  refine pw_iconst (v := nI 0) dX1_fail_4 (by decide) ?_
  refine pw_iload_n dX1_fail_5 rfl ?_
  refine pw_iastN 0 dX1_fail_6 (by decide) (sh_lt hG (by decide)) (sh_sh hG 39 rfl) (by decide) (by decide) (by decide) ?_
  refine pw_aload_n dX1_fail_7 rfl ?_
  refine pw_getR fX1_31 dX1_fail_8 (sh_lt hG (by decide)) (sh_tg hG 32 rfl) rfl (gr_at hP 33 rfl) ?_
  refine pw_iconst (v := nI 1) dX1_fail_11 (by decide) ?_
  refine pw_aload_n dX1_fail_12 rfl ?_
  refine pw_getR fX1_35 dX1_fail_13 (sh_lt hG (by decide)) (sh_tg hG 32 rfl) rfl h.cd ?_
  refine pw_callV (as := []) (kc' := 0) (ks' := 0) lX1_155 dX1_fail_16 rfl rfl (by have := (hk.u41 hc9 (k := 0) (x := nI e)).1.2; omega) (hk.u41 hc9 (k := 0) (x := nI e)).2.1 (Nat.le_of_ble_eq_true rfl) (by omega) (Nat.le_of_ble_eq_true rfl) (Nat.zero_le _) (Nat.zero_le _) ?_
  refine k_owner (hk.u41 hc9) (fun z1 => ?_)
  have hk2 := (hk.u41 hc9 (k := 0) (x := nI e)).u41 hc9 (k := 1) (x := z1)
  refine pw_iastN 1 dX1_fail_19 (by decide) (sh_lt hG (by decide)) (sh_sh hG 39 rfl) (by decide) (by decide) (by decide) ?_
  refine pw_aload_n dX1_fail_20 rfl ?_
  refine pw_getR fX1_31 dX1_fail_21 (sh_lt hG (by decide)) (sh_tg hG 32 rfl) rfl (gr_at hP 33 rfl) ?_
  refine pw_iconst (v := nI 2) dX1_fail_24 (by decide) ?_
  refine pw_aload_n dX1_fail_25 rfl ?_
  refine pw_getR fX1_35 dX1_fail_26 (sh_lt hG (by decide)) (sh_tg hG 32 rfl) rfl h.cd ?_
  refine pw_aload_n dX1_fail_29 rfl ?_
  refine pw_getI fX1_101 dX1_fail_30 (sh_lt hG (by decide)) (sh_tg hG 32 rfl) rfl ?_
  refine pw_callV (as := [_]) (kc' := 0) (ks' := 0) lX1_158 dX1_fail_33 rfl rfl (by have := hk2.1.2; omega) hk2.2.1 (Nat.le_of_ble_eq_true rfl) (by omega) (Nat.le_of_ble_eq_true rfl) (Nat.zero_le _) (Nat.zero_le _) ?_
  refine k_place hk2 (fun z2 => ?_)
  refine pw_iastN 2 dX1_fail_36 (by decide) (sh_lt hG (by decide)) (sh_sh hG 39 rfl) (by decide) (by decide) (by decide) ?_
  refine pw_aload_n dX1_fail_37 rfl ?_
  refine pw_getR fX1_31 dX1_fail_38 (sh_lt hG (by decide)) (sh_tg hG 32 rfl) rfl (gr_at hP 33 rfl) ?_
  refine pw_iconst (v := nI 3) dX1_fail_41 (by decide) ?_
  refine pw_aload_n dX1_fail_42 rfl ?_
  refine pw_getI fX1_85 dX1_fail_43 (sh_lt hG (by decide)) (sh_tg hG 32 rfl) rfl ?_
  refine pw_iastN 3 dX1_fail_46 (by decide) (sh_lt hG (by decide)) (sh_sh hG 39 rfl) (by decide) (by decide) (by decide) ?_
  refine pw_aload_n dX1_fail_47 rfl ?_
  refine pw_iconst (v := nI 0) dX1_fail_48 (by decide) ?_
  refine pw_putZ fX1_88 dX1_fail_49 (Or.inl rfl) (by decide) (by decide) (sh_lt hG (by decide)) (sh_tg hG 32 rfl) rfl ?_
  exact pw_vret dX1_fail_52 rfl (k _ h.fail)

set_option maxRecDepth 20000 in
set_option maxHeartbeats 4000000 in
theorem m_step {l : Launch} {E : pmE} {d : Nat} {S : pmS} {I : pmI} {J : pmJ} {P : pmP} {Q : Option Value → pmS → pmI → pmJ → pmP → Prop} {S0 : pmS} {I0 : pmI} {J0 : pmJ} {P0 : pmP} {b0 : Nat} {A : aS} {c i bs s b m : Nat} {w : Int32} {rv : List vV} {fr : List (Nat × Nat × Nat)} {t : List tH} (h : mS S0 I0 J0 P0 b0 A S I J P c w i bs rv fr s t b m) (hd : 2 ≤ d) (hs4 : s ≤ 400) {L : List dE} (hx : kX S0 I0 J0 P0 b0 c L) (k1 : s < 400 → ∀ I', mS S0 I0 J0 P0 b0 A S I' J P c w i bs rv fr (s + 1) t b m → Q (some (.int (nI 1))) S I' J P) (k0 : 400 ≤ s → ∀ I', mE S0 I0 J0 P0 b0 A S I' J P 8 b m → Q (some (.int (nI 0))) S I' J P) : pm_Met l E yX1_takeStep cX1_takeStep 1 (some .boolean) d 0 0 [.ref 34] S I J P Q := by
  unfold pm_Met
  have hG := h.hG
  have hP := h.hP
  refine pm_lvs (lv' := [(0, _)]) rfl ?_
  refine pw_aload_n dX1_takeStep_0 rfl ?_
  refine pw_getR fX1_31 dX1_takeStep_1 (sh_lt hG (by decide)) (sh_tg hG 32 rfl) rfl (gr_at hP 33 rfl) ?_
  refine pw_iconst (v := nI 4) dX1_takeStep_4 (by decide) ?_
  refine pw_dup2 dX1_takeStep_5 rfl rfl ?_
  refine pw_ialdN 4 dX1_takeStep_6 (sh_lt hG (by decide)) (sh_sh hG 39 rfl) (by decide) (by decide) (by decide) ?_
  refine pw_iconst (v := nI 1) dX1_takeStep_7 (by decide) ?_
  refine pw_iadd dX1_takeStep_8 ?_
  refine pw_ti (z := nI (s + 1)) (by rw [h.st]; exact nI_add s 1) ?_
  refine pw_iastN 4 dX1_takeStep_9 (by decide) (sh_lt hG (by decide)) (sh_sh hG 39 rfl) (by decide) (by decide) (by decide) ?_
  refine pw_aload_n dX1_takeStep_10 rfl ?_
  refine pw_dup dX1_takeStep_11 rfl ?_
  refine pw_getI fX1_46 dX1_takeStep_12 (sh_lt hG (by decide)) (sh_tg hG 32 rfl) rfl ?_
  refine pw_iconst (v := nI 1) dX1_takeStep_15 (by decide) ?_
  refine pw_iadd dX1_takeStep_16 ?_
  refine pw_putI fX1_46 dX1_takeStep_17 (Or.inl rfl) (by decide) (sh_lt hG (by decide)) (sh_tg hG 32 rfl) rfl ?_
  refine pw_aload_n dX1_takeStep_20 rfl ?_
  refine pw_getR fX1_31 dX1_takeStep_21 (sh_lt hG (by decide)) (sh_tg hG 32 rfl) rfl (gr_at hP 33 rfl) ?_
  refine pw_iconst (v := nI 4) dX1_takeStep_24 (by decide) ?_
  refine pw_ialdN 4 dX1_takeStep_25 (sh_lt hG (by decide)) (sh_sh hG 39 rfl) (by decide) (by decide) (by decide) ?_
  refine pw_ti (z := nI (s + 1)) (by rw [pm_u_ne (by decide), pm_u_eq, pm_up_eq]) ?_
  refine pw_sipush (v := nI 400) dX1_takeStep_26 (by decide) ?_
  refine pw_icmpN_le _ _ (tgt := 40) dX1_takeStep_29 (by decide) (rfl) (rfl) (by omega) (by omega) (fun h29 => ?_) (fun h29 => ?_)
  · refine pw_iconst (v := nI 1) dX1_takeStep_40 (by decide) ?_
    exact pw_zret dX1_takeStep_41 rfl (by decide) (k1 (by omega) _ ((h.step (by omega)).setA _))
  · refine pw_aload_n dX1_takeStep_32 rfl ?_
    refine pw_bipush (v := nI 8) dX1_takeStep_33 (by decide) ?_
    refine pw_callV (as := [_]) (kc' := 0) (ks' := 0) lX1_152 dX1_takeStep_35 rfl rfl (sh_lt hG (by decide)) (sh_tg hG 32 rfl) (Nat.le_of_ble_eq_true rfl) (by omega) (Nat.le_of_ble_eq_true rfl) (Nat.zero_le _) (Nat.zero_le _) ?_
    refine m_fail ((h.step (by omega)).setA _) (by omega) (e := 8) hx (fun I9 h9 => ?_)
    refine pw_iconst (v := nI 0) dX1_takeStep_38 (by decide) ?_
    exact pw_zret dX1_takeStep_39 rfl (by decide) (k0 (by omega) _ h9)

