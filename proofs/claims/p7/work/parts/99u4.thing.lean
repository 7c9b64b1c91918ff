def fkX (vs : List vV) (i : Nat) : Int32 := match vs[i]? with
  | some v => nI v.1
  | none => -5
/-- what thing() answers of a THING -/
def thW (A : aS) (q : tH) (y : Int32) : Int32 := if y = 0 then nI (A.ns.idxOf (A.at q.1).dec) else if y = 1 then nI (A.at q.1).ed else if y = 2 then nI q.2.length else if y = 3 then (if A.fm (A.at q.1).dec = 3 ∧ A.dc (A.at q.1).dec = some q.1 then nI 0 else nI 1) else if y = 4 then fkX q.2 0 else if y = 5 then fkX q.2 1 else if y = 6 then fkX q.2 2 else -2
def thV (A : aS) (v : vV) (y : Int32) : Int32 := if v.1 = 2 then thW A (thO A.th v) y else -1
def thX (A : aS) (x y : Int32) : Int32 := if 1 ≤ x.toInt ∧ x.toInt ≤ (A.rs.length : Int) then thV A (A.rs.getD (x.toInt.toNat - 1) (0, 0)) y else -1
theorem thX_1 {A : aS} {j : Nat} {v : vV} {y : Int32} (hl : A.rs.length ≤ 40) (hj : A.rs[j]? = some v) : thX A (nI (j + 1)) y = thV A v y := by
  have h := (List.getElem?_eq_some_iff.mp hj).1
  unfold thX
  rw [nI_toInt (by omega), if_pos ⟨by omega, by omega⟩, Int.toNat_natCast, Nat.add_sub_cancel, List.getD_eq_getElem?_getD, hj]
  rfl
theorem thW_o {A : aS} {q : tH} {y : Int32} (h : ¬ (y = 0 ∨ y = 1 ∨ y = 2 ∨ y = 3 ∨ y = 4 ∨ y = 5 ∨ y = 6)) : thW A q y = -2 := by
  unfold thW
  rw [if_neg (fun e => h (Or.inl e)), if_neg (fun e => h (Or.inr (Or.inl e))), if_neg (fun e => h (Or.inr (Or.inr (Or.inl e)))), if_neg (fun e => h (Or.inr (Or.inr (Or.inr (Or.inl e))))), if_neg (fun e => h (Or.inr (Or.inr (Or.inr (Or.inr (Or.inl e)))))), if_neg (fun e => h (Or.inr (Or.inr (Or.inr (Or.inr (Or.inr (Or.inl e))))))), if_neg (fun e => h (Or.inr (Or.inr (Or.inr (Or.inr (Or.inr (Or.inr e)))))))]
set_option maxRecDepth 20000 in
set_option maxHeartbeats 400000 in
theorem c_thas1 {l : Launch} {E : pmE} {d : Nat} {S : pmS} {I : pmI} {J : pmJ} {P : pmP} {Q : Option Value → pmS → pmI → pmJ → pmP → Prop} (hG : sh_St S) (hP : gr_St P) {A : aS} {t : List tH} {b m : Nat} (ht : tC S I J P A t b m) {i : Nat} (hi : i < t.length) (k : Q (some (.int (nI 1))) S I J P) : pm_Met l E yX6_has cX6_has 2 (some .boolean) d 0 0 [.ref 21, .int (nI i)] S I J P Q := by
  unfold pm_Met
  refine pm_lvs (lv' := [(0, _), (1, _)]) rfl ?_
  refine pw_iload_n dX6_has_0 rfl ?_
  refine pw_if_lt (tgt := 16) dX6_has_1 (by decide) (fun h => absurd h (nI_pos (by have := ht.m'; have := ht.l; omega))) (fun h1 => ?_)
  have htm := ht.m'
  have htl := ht.l
  have hbd := ht.bd
  refine pw_iload_n dX6_has_4 rfl ?_
  refine pw_aload_n dX6_has_5 rfl ?_
  refine pw_getI fX6_28 dX6_has_6 (sh_lt hG (by decide)) (sh_tg hG 19 rfl) rfl ?_
  refine pw_icmpN_ge _ _ (tgt := 16) dX6_has_9 (by decide) (rfl) (ht.n) (by omega) (by omega) (fun h9 => absurd h9 (by omega)) (fun h9 => ?_)
  refine pw_iconst (v := nI 1) dX6_has_12 (by decide) ?_
  refine pw_goto (tgt := 17) dX6_has_13 (by decide) ?_
  exact pw_zret dX6_has_17 rfl (by decide) (k)

set_option maxRecDepth 20000 in
set_option maxHeartbeats 400000 in
theorem t_size {l : Launch} {E : pmE} {d : Nat} {S : pmS} {I : pmI} {J : pmJ} {P : pmP} {Q : Option Value → pmS → pmI → pmJ → pmP → Prop} (hG : sh_St S) (hP : gr_St P) (hd : 1 ≤ d) {A : aS} {t : List tH} {b m : Nat} (ht : tC S I J P A t b m) {j s : Nat} {vs : List vV} (hj : t[j]? = some (s, vs)) (k : Q (some (.int (nI vs.length))) S I J P) : pm_Met l E yX6_sizeOf cX6_sizeOf 2 (some .int) d 0 0 [.ref 21, .int (nI j)] S I J P Q := by
  unfold pm_Met
  have hjl := (List.getElem?_eq_some_iff.mp hj).1
  refine pm_lvs (lv' := [(0, _), (1, _)]) rfl ?_
  refine pw_aload_n dX6_sizeOf_0 rfl ?_
  refine pw_iload_n dX6_sizeOf_1 rfl ?_
  refine pw_callV (as := [_]) (kc' := 0) (ks' := 0) lX6_45 dX6_sizeOf_2 rfl rfl (sh_lt hG (by decide)) (sh_tg hG 19 rfl) (Nat.le_of_ble_eq_true rfl) (by omega) (Nat.le_of_ble_eq_true rfl) (Nat.zero_le _) (Nat.zero_le _) ?_
  refine c_thas1 hG hP ht hjl ?_
  have htm := ht.m'
  have htl := ht.l
  have hbd := ht.bd
  refine pw_if_eq (tgt := 17) dX6_sizeOf_5 (by decide) (fun h => absurd h (by decide)) (fun h5 => ?_)
  refine pw_aload_n dX6_sizeOf_8 rfl ?_
  refine pw_getR fX6_18 dX6_sizeOf_9 (sh_lt hG (by decide)) (sh_tg hG 19 rfl) rfl ht.q2 ?_
  refine pw_iload_n dX6_sizeOf_12 rfl ?_
  refine pw_ialdN j dX6_sizeOf_13 (by have := ht.bd; omega) ht.s2 (by omega) (rfl) (by omega) ?_
  refine pw_ti (z := nI vs.length) (ht.2.2.2.2.2.2 j s vs hj).2.2.1 ?_
  refine pw_goto (tgt := 18) dX6_sizeOf_14 (by decide) ?_
  exact pw_iret dX6_sizeOf_18 rfl (k)
set_option maxRecDepth 20000 in
set_option maxHeartbeats 400000 in
theorem t_hasFE {l : Launch} {E : pmE} {d : Nat} {S : pmS} {I : pmI} {J : pmJ} {P : pmP} {Q : Option Value → pmS → pmI → pmJ → pmP → Prop} (hG : sh_St S) (hP : gr_St P) (hd : 1 ≤ d) {A : aS} {t : List tH} {b m : Nat} (ht : tC S I J P A t b m) {j s i : Nat} {vs : List vV} (hj : t[j]? = some (s, vs)) (hi3 : i < 3) (hv3 : vs.length ≤ 3) (k1 : i < vs.length → Q (some (.int (nI 1))) S I J P) (k0 : vs.length ≤ i → Q (some (.int (nI 0))) S I J P) : pm_Met l E yX6_hasField cX6_hasField 3 (some .boolean) d 0 0 [.ref 21, .int (nI j), .int (nI i)] S I J P Q := by
  unfold pm_Met
  have hjl := (List.getElem?_eq_some_iff.mp hj).1
  refine pm_lvs (lv' := [(0, _), (1, _), (2, _)]) rfl ?_
  refine pw_aload_n dX6_hasField_0 rfl ?_
  refine pw_iload_n dX6_hasField_1 rfl ?_
  refine pw_callV (as := [_]) (kc' := 0) (ks' := 0) lX6_45 dX6_hasField_2 rfl rfl (sh_lt hG (by decide)) (sh_tg hG 19 rfl) (Nat.le_of_ble_eq_true rfl) (by omega) (Nat.le_of_ble_eq_true rfl) (Nat.zero_le _) (Nat.zero_le _) ?_
  refine c_thas1 hG hP ht hjl ?_
  have htm := ht.m'
  have htl := ht.l
  have hbd := ht.bd
  refine pw_if_eq (tgt := 31) dX6_hasField_5 (by decide) (fun h => absurd h (by decide)) (fun h5 => ?_)
  refine pw_iload_n dX6_hasField_8 rfl ?_
  refine pw_if_lt (tgt := 31) dX6_hasField_9 (by decide) (fun h => absurd h (nI_pos (by omega))) (fun h9 => ?_)
  refine pw_iload_n dX6_hasField_12 rfl ?_
  refine pw_aload_n dX6_hasField_13 rfl ?_
  refine pw_getR fX6_18 dX6_hasField_14 (sh_lt hG (by decide)) (sh_tg hG 19 rfl) rfl ht.q2 ?_
  refine pw_iload_n dX6_hasField_17 rfl ?_
  refine pw_ialdN j dX6_hasField_18 (by have := ht.bd; omega) ht.s2 (by omega) (rfl) (by omega) ?_
  refine pw_ti (z := nI vs.length) (ht.2.2.2.2.2.2 j s vs hj).2.2.1 ?_
  refine pw_icmpN_ge _ _ (tgt := 31) dX6_hasField_19 (by decide) (rfl) (rfl) (by omega) (by omega) (fun h19 => ?_) (fun h19 => ?_)
  · refine pw_iconst (v := nI 0) dX6_hasField_31 (by decide) ?_
    exact pw_zret dX6_hasField_32 rfl (by decide) (k0 (by omega))
  · refine pw_iload_n dX6_hasField_22 rfl ?_
    refine pw_iconst (v := nI 3) dX6_hasField_23 (by decide) ?_
    refine pw_icmpN_ge _ _ (tgt := 31) dX6_hasField_24 (by decide) (rfl) (rfl) (by omega) (by omega) (fun h24 => absurd h24 (by omega)) (fun h24 => ?_)
    refine pw_iconst (v := nI 1) dX6_hasField_27 (by decide) ?_
    refine pw_goto (tgt := 32) dX6_hasField_28 (by decide) ?_
    exact pw_zret dX6_hasField_32 rfl (by decide) (k1 (by omega))
set_option maxRecDepth 20000 in
set_option maxHeartbeats 400000 in
theorem t_fkE {l : Launch} {E : pmE} {d : Nat} {S : pmS} {I : pmI} {J : pmJ} {P : pmP} {Q : Option Value → pmS → pmI → pmJ → pmP → Prop} (hG : sh_St S) (hP : gr_St P) (hd : 2 ≤ d) {A : aS} {t : List tH} {b m : Nat} (ht : tC S I J P A t b m) {j s i : Nat} {vs : List vV} (hj : t[j]? = some (s, vs)) (hi3 : i < 3) (hv3 : vs.length ≤ 3) (k : Q (some (.int (fkX vs i))) S I J P) : pm_Met l E yX6_fieldKind cX6_fieldKind 3 (some .int) d 0 0 [.ref 21, .int (nI j), .int (nI i)] S I J P Q := by
  unfold pm_Met
  have hjl := (List.getElem?_eq_some_iff.mp hj).1
  refine pm_lvs (lv' := [(0, _), (1, _), (2, _)]) rfl ?_
  refine pw_aload_n dX6_fieldKind_0 rfl ?_
  refine pw_iload_n dX6_fieldKind_1 rfl ?_
  refine pw_iload_n dX6_fieldKind_2 rfl ?_
  refine pw_callV (as := [_, _]) (kc' := 0) (ks' := 0) lX6_49 dX6_fieldKind_3 rfl rfl (sh_lt hG (by decide)) (sh_tg hG 19 rfl) (Nat.le_of_ble_eq_true rfl) (by omega) (Nat.le_of_ble_eq_true rfl) (Nat.zero_le _) (Nat.zero_le _) ?_
  refine t_hasFE hG hP (by omega) ht hj hi3 hv3 (fun hi => ?_) (fun hi => ?_)
  · have htm := ht.m'
    have htl := ht.l
    have hbd := ht.bd
    obtain ⟨v, hv⟩ : ∃ v, vs[i]? = some v := ⟨_, List.getElem?_eq_getElem hi⟩
    rw [show fkX vs i = nI v.1 by unfold fkX; rw [hv]] at k
    refine pw_if_eq (tgt := 22) dX6_fieldKind_6 (by decide) (fun h => absurd h (by decide)) (fun h6 => ?_)
    refine pw_aload_n dX6_fieldKind_9 rfl ?_
    refine pw_getR fX6_21 dX6_fieldKind_10 (sh_lt hG (by decide)) (sh_tg hG 19 rfl) rfl ht.q3 ?_
    refine pw_iload_n dX6_fieldKind_13 rfl ?_
    refine pw_iconst (v := nI 3) dX6_fieldKind_14 (by decide) ?_
    refine pw_imul dX6_fieldKind_15 ?_
    refine pw_iload_n dX6_fieldKind_16 rfl ?_
    refine pw_iadd dX6_fieldKind_17 ?_
    refine pw_ti (z := nI (3 * j + i)) (by rw [show nI j * nI 3 = nI (j * 3) from (Int32.ofNat_mul _ 3).symm, nI_add, Nat.mul_comm]) ?_
    refine pw_ialdN (3 * j + i) dX6_fieldKind_18 (by have := ht.bd; omega) ht.s3 (by omega) (rfl) (by omega) ?_
    refine pw_ti (z := nI v.1) ((ht.2.2.2.2.2.2 j s vs hj).2.2.2 i v hv).1 ?_
    refine pw_goto (tgt := 24) dX6_fieldKind_19 (by decide) ?_
    exact pw_iret dX6_fieldKind_24 rfl (k)
  · rw [show fkX vs i = -5 by unfold fkX; rw [List.getElem?_eq_none hi]] at k
    refine pw_if_eq (tgt := 22) dX6_fieldKind_6 (by decide) (fun h6 => ?_) (fun h => absurd (by decide) h)
    refine pw_bipush (v := -5) dX6_fieldKind_22 (by decide) ?_
    exact pw_iret dX6_fieldKind_24 rfl (k)
set_option maxRecDepth 20000 in
set_option maxHeartbeats 400000 in
theorem c_thingE {l : Launch} {E : pmE} {d : Nat} {S : pmS} {I : pmI} {J : pmJ} {P : pmP} {Q : Option Value → pmS → pmI → pmJ → pmP → Prop} (hG : sh_St S) (hP : gr_St P) (hd : 4 ≤ d) {x y : Int32} {A : aS} {b m : Nat} (ht : tC S I J P A A.th b m) {Z : Nat → Nat} (hc : cA S I J P A Z b) (hO : aO A) (k : Q (some (.int (thX A x y))) S I J P) : pm_Met l E yX9_thing cX9_thing 4 (some .int) d 0 0 [.ref 2, .int x, .int y] S I J P Q := by
  unfold pm_Met
  have hsl := hO.2.2.2.2.2.2.2.2.2.2.1
  have hrl := hO.2.2.2.2.2.2.2.2.2.2.2.1
  have htl := hO.2.2.2.2.2.2.2.2.2.1
  refine pm_lvs (lv' := [(0, _), (1, _), (2, _)]) rfl ?_
  rcases rs_cases (n := A.rs.length) (by omega) x with ⟨j, hj, rfl⟩ | h0
  · obtain ⟨v, hv⟩ : ∃ v, A.rs[j]? = some v := ⟨_, List.getElem?_eq_getElem hj⟩
    have hvO := hO.2.2.2.2.2.2.2.1 v (List.mem_of_getElem? hv)
    have hv2 := hvO.1
    rw [thX_1 (by omega) hv] at k
    refine pw_aload_n dX9_thing_0 rfl ?_
    refine pw_iload_n dX9_thing_1 rfl ?_
    refine pw_callV (as := [_]) (kc' := 0) (ks' := 0) lX9_102 dX9_thing_2 rfl rfl (sh_lt hG (by decide)) (sh_tg hG 0 rfl) (Nat.le_of_ble_eq_true rfl) (by omega) (Nat.le_of_ble_eq_true rfl) (Nat.zero_le _) (Nat.zero_le _) ?_
    refine c_kindE hG hP (by omega) hc hO ?_
    refine pw_ti (z := nI v.1) (kdX_1 (by omega) hv) ?_
    refine pw_iconst (v := nI 2) dX9_thing_5 (by decide) ?_
    refine pw_icmpN_eq _ _ (tgt := 11) dX9_thing_6 (by decide) (rfl) (rfl) (by omega) (by omega) (fun h6 => ?_) (fun h6 => ?_)
    · obtain ⟨jj, hjl, hje, hth⟩ := thO_at hO.2.2.2.2.2.2.2.2.1 (by omega) hvO (by omega)
      rw [show thV A v y = thW A (thO A.th v) y from if_pos (by omega)] at k
      rcases hq : thO A.th v with ⟨s, vs⟩
      rw [hq] at k hth
      obtain ⟨t1, t2, t3, t4⟩ := hO.2.2.2.2.2.2.2.2.1 jj s vs hth
      have hp3 := (hO.2.2.2.2.1 s t1).2.1
      refine pw_aload_n dX9_thing_11 rfl ?_
      refine pw_getR fX9_32 dX9_thing_12 (sh_lt hG (by decide)) (sh_tg hG 0 rfl) rfl (gr_at hP 3 rfl) ?_
      refine pw_getR fX9_93 dX9_thing_15 (sh_lt hG (by decide)) (sh_tg hG 13 rfl) rfl (gr_at hP 18 rfl) ?_
      refine pw_iload_n dX9_thing_18 rfl ?_
      refine pw_callV (as := [_]) (kc' := 0) (ks' := 0) lX9_111 dX9_thing_19 rfl rfl (sh_lt hG (by decide)) (sh_tg hG 28 rfl) (Nat.le_of_ble_eq_true rfl) (by omega) (Nat.le_of_ble_eq_true rfl) (Nat.zero_le _) (Nat.zero_le _) ?_
      refine v_core30 hG hP (by omega) ?_
      refine pw_tj (z := lN jj) (by rw [(hc.2.2.2.1 j v hv).2]; exact hje) ?_
      refine pw_l2i dX9_thing_22 ?_
      refine pw_ti (z := nI jj) (lN_i _) ?_
      refine pw_istore_n (lv' := [(3, _), (0, _), (1, _), (2, _)]) dX9_thing_23 (by decide) rfl ?_
      by_cases hsw : y = 0 ∨ y = 1 ∨ y = 2 ∨ y = 3 ∨ y = 4 ∨ y = 5 ∨ y = 6
      · rcases hsw with rfl | rfl | rfl | rfl | rfl | rfl | rfl
        · rw [show thW A (s, vs) 0 = nI (A.ns.idxOf (A.at s).dec) from rfl] at k
          refine pw_iload_n dX9_thing_24 rfl ?_
          refine pw_tableIn (off := 43) (tgt := 68) dX9_thing_25 (by decide) (by decide) (by decide) (by decide) ?_
          refine pw_aload_n dX9_thing_68 rfl ?_
          refine pw_getR fX9_32 dX9_thing_69 (sh_lt hG (by decide)) (sh_tg hG 0 rfl) rfl (gr_at hP 3 rfl) ?_
          refine pw_getR fX9_115 dX9_thing_72 (sh_lt hG (by decide)) (sh_tg hG 13 rfl) rfl (gr_at hP 16 rfl) ?_
          refine pw_iload_n dX9_thing_75 rfl ?_
          refine pw_callV (as := [_]) (kc' := 0) (ks' := 0) lX9_119 dX9_thing_76 rfl rfl (sh_lt hG (by decide)) (sh_tg hG 19 rfl) (Nat.le_of_ble_eq_true rfl) (by omega) (Nat.le_of_ble_eq_true rfl) (Nat.zero_le _) (Nat.zero_le _) ?_
          refine t_type hG hP (by omega) ht hth ?_
          refine pw_goto (tgt := 148) dX9_thing_79 (by decide) ?_
          exact pw_iret dX9_thing_148 rfl (k)
        · rw [show thW A (s, vs) 1 = nI (A.at s).ed from rfl] at k
          refine pw_iload_n dX9_thing_24 rfl ?_
          refine pw_tableIn (off := 57) (tgt := 82) dX9_thing_25 (by decide) (by decide) (by decide) (by decide) ?_
          refine pw_aload_n dX9_thing_82 rfl ?_
          refine pw_getR fX9_32 dX9_thing_83 (sh_lt hG (by decide)) (sh_tg hG 0 rfl) rfl (gr_at hP 3 rfl) ?_
          refine pw_getR fX9_115 dX9_thing_86 (sh_lt hG (by decide)) (sh_tg hG 13 rfl) rfl (gr_at hP 16 rfl) ?_
          refine pw_iload_n dX9_thing_89 rfl ?_
          refine pw_callV (as := [_]) (kc' := 0) (ks' := 0) lX9_124 dX9_thing_90 rfl rfl (sh_lt hG (by decide)) (sh_tg hG 19 rfl) (Nat.le_of_ble_eq_true rfl) (by omega) (Nat.le_of_ble_eq_true rfl) (Nat.zero_le _) (Nat.zero_le _) ?_
          refine t_edit hG hP (by omega) ht hth ?_
          refine pw_goto (tgt := 148) dX9_thing_93 (by decide) ?_
          exact pw_iret dX9_thing_148 rfl (k)
        · rw [show thW A (s, vs) 2 = nI vs.length from rfl] at k
          refine pw_iload_n dX9_thing_24 rfl ?_
          refine pw_tableIn (off := 71) (tgt := 96) dX9_thing_25 (by decide) (by decide) (by decide) (by decide) ?_
          refine pw_aload_n dX9_thing_96 rfl ?_
          refine pw_getR fX9_32 dX9_thing_97 (sh_lt hG (by decide)) (sh_tg hG 0 rfl) rfl (gr_at hP 3 rfl) ?_
          refine pw_getR fX9_115 dX9_thing_100 (sh_lt hG (by decide)) (sh_tg hG 13 rfl) rfl (gr_at hP 16 rfl) ?_
          refine pw_iload_n dX9_thing_103 rfl ?_
          refine pw_callV (as := [_]) (kc' := 0) (ks' := 0) lX9_127 dX9_thing_104 rfl rfl (sh_lt hG (by decide)) (sh_tg hG 19 rfl) (Nat.le_of_ble_eq_true rfl) (by omega) (Nat.le_of_ble_eq_true rfl) (Nat.zero_le _) (Nat.zero_le _) ?_
          refine t_size hG hP (by omega) ht hth ?_
          refine pw_goto (tgt := 148) dX9_thing_107 (by decide) ?_
          exact pw_iret dX9_thing_148 rfl (k)
        · rw [show thW A (s, vs) 3 = (if A.fm (A.at s).dec = 3 ∧ A.dc (A.at s).dec = some s then nI 0 else nI 1) from rfl] at k
          refine pw_iload_n dX9_thing_24 rfl ?_
          refine pw_tableIn (off := 85) (tgt := 110) dX9_thing_25 (by decide) (by decide) (by decide) (by decide) ?_
          refine pw_aload_n dX9_thing_110 rfl ?_
          refine pw_getR fX9_32 dX9_thing_111 (sh_lt hG (by decide)) (sh_tg hG 0 rfl) rfl (gr_at hP 3 rfl) ?_
          refine pw_iload_n dX9_thing_114 rfl ?_
          refine pw_callV (as := [_]) (kc' := 0) (ks' := 0) lX9_130 dX9_thing_115 rfl rfl (sh_lt hG (by decide)) (sh_tg hG 13 rfl) (Nat.le_of_ble_eq_true rfl) (by omega) (Nat.le_of_ble_eq_true rfl) (Nat.zero_le _) (Nat.zero_le _) ?_
          refine s_old hG hP (by omega) hc hO t1 t2 ht hth (fun q1 q2 => ?_) (fun q => ?_)
          · rw [if_pos ⟨q1, q2⟩] at k
            refine pw_if_eq (tgt := 125) dX9_thing_118 (by decide) (fun h118 => ?_) (fun h => absurd (by decide) h)
            refine pw_iconst (v := nI 0) dX9_thing_125 (by decide) ?_
            refine pw_goto (tgt := 148) dX9_thing_126 (by decide) ?_
            exact pw_iret dX9_thing_148 rfl (k)
          · rw [if_neg q] at k
            refine pw_if_eq (tgt := 125) dX9_thing_118 (by decide) (fun h => absurd h (by decide)) (fun h118 => ?_)
            refine pw_iconst (v := nI 1) dX9_thing_121 (by decide) ?_
            refine pw_goto (tgt := 148) dX9_thing_122 (by decide) ?_
            exact pw_iret dX9_thing_148 rfl (k)
        · rw [show thW A (s, vs) 4 = fkX vs 0 from rfl] at k
          refine pw_iload_n dX9_thing_24 rfl ?_
          refine pw_tableIn (off := 104) (tgt := 129) dX9_thing_25 (by decide) (by decide) (by decide) (by decide) ?_
          refine pw_aload_n dX9_thing_129 rfl ?_
          refine pw_getR fX9_32 dX9_thing_130 (sh_lt hG (by decide)) (sh_tg hG 0 rfl) rfl (gr_at hP 3 rfl) ?_
          refine pw_getR fX9_115 dX9_thing_133 (sh_lt hG (by decide)) (sh_tg hG 13 rfl) rfl (gr_at hP 16 rfl) ?_
          refine pw_iload_n dX9_thing_136 rfl ?_
          refine pw_iload_n dX9_thing_137 rfl ?_
          refine pw_iconst (v := nI 4) dX9_thing_138 (by decide) ?_
          refine pw_isub dX9_thing_139 ?_
          refine pw_ti (z := nI 0) (by decide) ?_
          refine pw_callV (as := [_, _]) (kc' := 0) (ks' := 0) lX9_134 dX9_thing_140 rfl rfl (sh_lt hG (by decide)) (sh_tg hG 19 rfl) (Nat.le_of_ble_eq_true rfl) (by omega) (Nat.le_of_ble_eq_true rfl) (Nat.zero_le _) (Nat.zero_le _) ?_
          refine t_fkE (i := 0) hG hP (by omega) ht hth (by decide) (by omega) ?_
          refine pw_goto (tgt := 148) dX9_thing_143 (by decide) ?_
          exact pw_iret dX9_thing_148 rfl (k)
        · rw [show thW A (s, vs) 5 = fkX vs 1 from rfl] at k
          refine pw_iload_n dX9_thing_24 rfl ?_
          refine pw_tableIn (off := 104) (tgt := 129) dX9_thing_25 (by decide) (by decide) (by decide) (by decide) ?_
          refine pw_aload_n dX9_thing_129 rfl ?_
          refine pw_getR fX9_32 dX9_thing_130 (sh_lt hG (by decide)) (sh_tg hG 0 rfl) rfl (gr_at hP 3 rfl) ?_
          refine pw_getR fX9_115 dX9_thing_133 (sh_lt hG (by decide)) (sh_tg hG 13 rfl) rfl (gr_at hP 16 rfl) ?_
          refine pw_iload_n dX9_thing_136 rfl ?_
          refine pw_iload_n dX9_thing_137 rfl ?_
          refine pw_iconst (v := nI 4) dX9_thing_138 (by decide) ?_
          refine pw_isub dX9_thing_139 ?_
          refine pw_ti (z := nI 1) (by decide) ?_
          refine pw_callV (as := [_, _]) (kc' := 0) (ks' := 0) lX9_134 dX9_thing_140 rfl rfl (sh_lt hG (by decide)) (sh_tg hG 19 rfl) (Nat.le_of_ble_eq_true rfl) (by omega) (Nat.le_of_ble_eq_true rfl) (Nat.zero_le _) (Nat.zero_le _) ?_
          refine t_fkE (i := 1) hG hP (by omega) ht hth (by decide) (by omega) ?_
          refine pw_goto (tgt := 148) dX9_thing_143 (by decide) ?_
          exact pw_iret dX9_thing_148 rfl (k)
        · rw [show thW A (s, vs) 6 = fkX vs 2 from rfl] at k
          refine pw_iload_n dX9_thing_24 rfl ?_
          refine pw_tableIn (off := 104) (tgt := 129) dX9_thing_25 (by decide) (by decide) (by decide) (by decide) ?_
          refine pw_aload_n dX9_thing_129 rfl ?_
          refine pw_getR fX9_32 dX9_thing_130 (sh_lt hG (by decide)) (sh_tg hG 0 rfl) rfl (gr_at hP 3 rfl) ?_
          refine pw_getR fX9_115 dX9_thing_133 (sh_lt hG (by decide)) (sh_tg hG 13 rfl) rfl (gr_at hP 16 rfl) ?_
          refine pw_iload_n dX9_thing_136 rfl ?_
          refine pw_iload_n dX9_thing_137 rfl ?_
          refine pw_iconst (v := nI 4) dX9_thing_138 (by decide) ?_
          refine pw_isub dX9_thing_139 ?_
          refine pw_ti (z := nI 2) (by decide) ?_
          refine pw_callV (as := [_, _]) (kc' := 0) (ks' := 0) lX9_134 dX9_thing_140 rfl rfl (sh_lt hG (by decide)) (sh_tg hG 19 rfl) (Nat.le_of_ble_eq_true rfl) (by omega) (Nat.le_of_ble_eq_true rfl) (Nat.zero_le _) (Nat.zero_le _) ?_
          refine t_fkE (i := 2) hG hP (by omega) ht hth (by decide) (by omega) ?_
          refine pw_goto (tgt := 148) dX9_thing_143 (by decide) ?_
          exact pw_iret dX9_thing_148 rfl (k)
      · rw [thW_o hsw] at k
        have q := sw_out hsw
        refine pw_iload_n dX9_thing_24 rfl ?_
        refine pw_tableOut (tgt := 146) dX9_thing_25 q (by decide) ?_
        refine pw_bipush (v := -2) dX9_thing_146 (by decide) ?_
        exact pw_iret dX9_thing_148 rfl (k)
    · rw [show thV A v y = -1 from if_neg (by omega)] at k
      refine pw_iconst (v := -1) dX9_thing_9 (by decide) ?_
      exact pw_iret dX9_thing_10 rfl (k)
  · rw [show thX A x y = -1 from if_neg h0] at k
    refine pw_aload_n dX9_thing_0 rfl ?_
    refine pw_iload_n dX9_thing_1 rfl ?_
    refine pw_callV (as := [_]) (kc' := 0) (ks' := 0) lX9_102 dX9_thing_2 rfl rfl (sh_lt hG (by decide)) (sh_tg hG 0 rfl) (Nat.le_of_ble_eq_true rfl) (by omega) (Nat.le_of_ble_eq_true rfl) (Nat.zero_le _) (Nat.zero_le _) ?_
    refine c_kindE hG hP (by omega) hc hO ?_
    refine pw_ti (z := -1) (if_neg h0) ?_
    refine pw_iconst (v := nI 2) dX9_thing_5 (by decide) ?_
    refine pw_icmp_eq (tgt := 11) dX9_thing_6 (by decide) (fun h => absurd h (by decide)) (fun h6 => ?_)
    refine pw_iconst (v := -1) dX9_thing_9 (by decide) ?_
    exact pw_iret dX9_thing_10 rfl (k)
set_option maxRecDepth 20000 in
set_option maxHeartbeats 400000 in
theorem r_thingE {l : Launch} {E : pmE} {d : Nat} {S : pmS} {I : pmI} {J : pmJ} {P : pmP} {Q : Option Value → pmS → pmI → pmJ → pmP → Prop} (hG : sh_St S) (hP : gr_St P) (hd : 2 ≤ d) {x y : Int32} {A : aS} (hA : rA I J A) (hO : aO A) (hRT : rT I J A.th) (k : Q (some (.int (thX A x y))) S (pm_u I 47 0 (nI 0)) J P) : pm_Met l E yX10_thing cX10_thing 5 (some .int) d 0 0 [.ref 47, .int x, .int y] S I J P Q := by
  unfold pm_Met
  have hsl := hO.2.2.2.2.2.2.2.2.2.2.1
  have hrl := hO.2.2.2.2.2.2.2.2.2.2.2.1
  have htl := hO.2.2.2.2.2.2.2.2.2.1
  have hA0 : rA (pm_u I 47 0 (nI 0)) J A := hA.mv' (fun a q1 q2 => ⟨pm_u_ne (by omega), rfl⟩) (by rw [pm_u_eq, pm_up_ne (by decide)]) (by rw [pm_u_eq, pm_up_ne (by decide)]) (by rw [pm_u_eq, pm_up_ne (by decide)])
  have hRT0 : rT (pm_u I 47 0 (nI 0)) J A.th := hRT.eq (by rw [pm_u_eq, pm_up_ne (by decide)]) (pm_u_ne (by decide)) (pm_u_ne (by decide)) rfl
  refine pm_lvs (lv' := [(0, _), (1, _), (2, _)]) rfl ?_
  rcases rs_cases (n := A.rs.length) (by omega) x with ⟨j, hj, rfl⟩ | h0
  · obtain ⟨v, hv⟩ : ∃ v, A.rs[j]? = some v := ⟨_, List.getElem?_eq_getElem hj⟩
    have hvO := hO.2.2.2.2.2.2.2.1 v (List.mem_of_getElem? hv)
    have hv2 := hvO.1
    rw [thX_1 (by omega) hv] at k
    have hvv := hA0.rs j v hv
    refine pw_aload_n dX10_thing_0 rfl ?_
    refine pw_iconst (v := nI 0) dX10_thing_1 (by decide) ?_
    refine pw_putI fX10_154 dX10_thing_2 (Or.inl rfl) (by decide) (sh_lt hG (by decide)) (sh_tg hG 45 rfl) rfl ?_
    refine pw_iload_n dX10_thing_5 rfl ?_
    refine pw_iconst (v := nI 1) dX10_thing_6 (by decide) ?_
    refine pw_aload_n dX10_thing_7 rfl ?_
    refine pw_getI fX10_305 dX10_thing_8 (sh_lt hG (by decide)) (sh_tg hG 45 rfl) rfl ?_
    refine pw_ti (z := nI A.rs.length) hA0.r ?_
    refine pw_callS (as := [_, _, _]) (kc' := 0) (ks' := 0) lX10_160 dX10_thing_11 rfl rfl (Nat.le_of_ble_eq_true rfl) (by omega) (Nat.le_of_ble_eq_true rfl) (Nat.zero_le _) (Nat.zero_le _) ?_
    refine c_X10_in (fun _ _ => ?_) (fun q => absurd q ?_)
    rotate_left
    · intro q
      rcases q with q | q
      · rw [nI_ltI (by omega) (by omega)] at q; omega
      · rw [nI_ltI (by omega) (by omega)] at q; omega
    refine pw_if_eq (tgt := 27) dX10_thing_14 (by decide) (fun h => absurd h (by decide)) (fun h14 => ?_)
    refine pw_aload_n dX10_thing_17 rfl ?_
    refine pw_getR fX10_80 dX10_thing_18 (sh_lt hG (by decide)) (sh_tg hG 45 rfl) rfl (gr_at hP 63 rfl) ?_
    refine pw_iload_n dX10_thing_21 rfl ?_
    refine pw_ialdN (j + 1) dX10_thing_22 (sh_lt hG (by decide)) (sh_sh hG 69 rfl) (by decide) (rfl) (by omega) ?_
    refine pw_iconst (v := nI 2) dX10_thing_23 (by decide) ?_
    refine pw_icmpN_eq _ _ (tgt := 29) dX10_thing_24 (by decide) (hvv.1) (rfl) (by omega) (by omega) (fun h24 => ?_) (fun h24 => ?_)
    · obtain ⟨jj, hjl, hje, hth⟩ := thO_at hO.2.2.2.2.2.2.2.2.1 (by omega) hvO (by omega)
      rw [show thV A v y = thW A (thO A.th v) y from if_pos (by omega)] at k
      rcases hq : thO A.th v with ⟨s, vs⟩
      rw [hq] at k hth
      obtain ⟨t1, t2, t3, t4⟩ := hO.2.2.2.2.2.2.2.2.1 jj s vs hth
      have hp3 := (hO.2.2.2.2.1 s t1).2.1
      have hts := hRT0.2 jj s vs hth
      have hx := hA0.sn t1
      refine pw_aload_n dX10_thing_29 rfl ?_
      refine pw_getR fX10_83 dX10_thing_30 (sh_lt hG (by decide)) (sh_tg hG 45 rfl) rfl (gr_at hP 64 rfl) ?_
      refine pw_iload_n dX10_thing_33 rfl ?_
      refine pw_laldN (j + 1) dX10_thing_34 (sh_lt hG (by decide)) (sh_sh hG 70 rfl) (by decide) (rfl) (by omega) ?_
      refine pw_l2i dX10_thing_35 ?_
      refine pw_ti (z := nI jj) (by rw [hvv.2, hje]; exact lN_i _) ?_
      refine pw_istore_n (lv' := [(3, _), (0, _), (1, _), (2, _)]) dX10_thing_36 (by decide) rfl ?_
      refine pw_aload_n dX10_thing_37 rfl ?_
      refine pw_getR fX10_86 dX10_thing_38 (sh_lt hG (by decide)) (sh_tg hG 45 rfl) rfl (gr_at hP 65 rfl) ?_
      refine pw_iload_n dX10_thing_41 rfl ?_
      refine pw_ialdN jj dX10_thing_42 (sh_lt hG (by decide)) (sh_sh hG 71 rfl) (by decide) (rfl) (by omega) ?_
      refine pw_ti (z := nI s) hts.1 ?_
      refine pw_istore (lv' := [(4, _), (3, _), (0, _), (1, _), (2, _)]) dX10_thing_43 (by decide) rfl ?_
      by_cases hsw : y = 0 ∨ y = 1 ∨ y = 2 ∨ y = 3 ∨ y = 4 ∨ y = 5 ∨ y = 6
      · rcases hsw with rfl | rfl | rfl | rfl | rfl | rfl | rfl
        · rw [show thW A (s, vs) 0 = nI (A.ns.idxOf (A.at s).dec) from rfl] at k
          refine pw_iload_n dX10_thing_45 rfl ?_
          refine pw_tableIn (off := 42) (tgt := 88) dX10_thing_46 (by decide) (by decide) (by decide) (by decide) ?_
          refine pw_aload_n dX10_thing_88 rfl ?_
          refine pw_getR fX10_35 dX10_thing_89 (sh_lt hG (by decide)) (sh_tg hG 45 rfl) rfl (gr_at hP 48 rfl) ?_
          refine pw_iload dX10_thing_92 rfl ?_
          refine pw_ialdN s dX10_thing_94 (sh_lt hG (by decide)) (sh_sh hG 54 rfl) (by decide) (rfl) (by omega) ?_
          refine pw_ti (z := nI (A.ns.idxOf (A.at s).dec)) (hx.2.1 (by omega)) ?_
          exact pw_iret dX10_thing_95 rfl (k)
        · rw [show thW A (s, vs) 1 = nI (A.at s).ed from rfl] at k
          refine pw_iload_n dX10_thing_45 rfl ?_
          refine pw_tableIn (off := 50) (tgt := 96) dX10_thing_46 (by decide) (by decide) (by decide) (by decide) ?_
          refine pw_aload_n dX10_thing_96 rfl ?_
          refine pw_getR fX10_44 dX10_thing_97 (sh_lt hG (by decide)) (sh_tg hG 45 rfl) rfl (gr_at hP 51 rfl) ?_
          refine pw_iload dX10_thing_100 rfl ?_
          refine pw_ialdN s dX10_thing_102 (sh_lt hG (by decide)) (sh_sh hG 57 rfl) (by decide) (rfl) (by omega) ?_
          refine pw_ti (z := nI (A.at s).ed) (hx.2.2.2.2.1 t2) ?_
          exact pw_iret dX10_thing_103 rfl (k)
        · rw [show thW A (s, vs) 2 = nI vs.length from rfl] at k
          refine pw_iload_n dX10_thing_45 rfl ?_
          refine pw_tableIn (off := 58) (tgt := 104) dX10_thing_46 (by decide) (by decide) (by decide) (by decide) ?_
          refine pw_aload_n dX10_thing_104 rfl ?_
          refine pw_getR fX10_38 dX10_thing_105 (sh_lt hG (by decide)) (sh_tg hG 45 rfl) rfl (gr_at hP 49 rfl) ?_
          refine pw_iload dX10_thing_108 rfl ?_
          refine pw_ialdN s dX10_thing_110 (sh_lt hG (by decide)) (sh_sh hG 55 rfl) (by decide) (rfl) (by omega) ?_
          refine pw_ti (z := nI vs.length) (by rw [t3]; exact hx.2.2.1) ?_
          exact pw_iret dX10_thing_111 rfl (k)
        · rw [show thW A (s, vs) 3 = (if A.fm (A.at s).dec = 3 ∧ A.dc (A.at s).dec = some s then nI 0 else nI 1) from rfl] at k
          refine pw_iload_n dX10_thing_45 rfl ?_
          refine pw_tableIn (off := 66) (tgt := 112) dX10_thing_46 (by decide) (by decide) (by decide) (by decide) ?_
          refine pw_aload_n dX10_thing_112 rfl ?_
          refine pw_iload_n dX10_thing_113 rfl ?_
          refine pw_callV (as := [_]) (kc' := 0) (ks' := 0) lX10_320 dX10_thing_114 rfl rfl (sh_lt hG (by decide)) (sh_tg hG 45 rfl) (Nat.le_of_ble_eq_true rfl) (by omega) (Nat.le_of_ble_eq_true rfl) (Nat.zero_le _) (Nat.zero_le _) ?_
          refine r_old hG hP hA0 hO hRT0 (by omega) hth t1 t2 (fun q1 q2 => ?_) (fun q => ?_)
          · rw [if_pos ⟨q1, q2⟩] at k
            refine pw_if_eq (tgt := 124) dX10_thing_117 (by decide) (fun h117 => ?_) (fun h => absurd (by decide) h)
            refine pw_iconst (v := nI 0) dX10_thing_124 (by decide) ?_
            exact pw_iret dX10_thing_125 rfl (k)
          · rw [if_neg q] at k
            refine pw_if_eq (tgt := 124) dX10_thing_117 (by decide) (fun h => absurd h (by decide)) (fun h117 => ?_)
            refine pw_iconst (v := nI 1) dX10_thing_120 (by decide) ?_
            refine pw_goto (tgt := 125) dX10_thing_121 (by decide) ?_
            exact pw_iret dX10_thing_125 rfl (k)
        · rw [show thW A (s, vs) 4 = fkX vs 0 from rfl] at k
          refine pw_iload_n dX10_thing_45 rfl ?_
          refine pw_tableIn (off := 80) (tgt := 126) dX10_thing_46 (by decide) (by decide) (by decide) (by decide) ?_
          refine pw_iload_n dX10_thing_126 rfl ?_
          refine pw_iconst (v := nI 4) dX10_thing_127 (by decide) ?_
          refine pw_isub dX10_thing_128 ?_
          refine pw_ti (z := nI 0) (by decide) ?_
          refine pw_aload_n dX10_thing_129 rfl ?_
          refine pw_getR fX10_38 dX10_thing_130 (sh_lt hG (by decide)) (sh_tg hG 45 rfl) rfl (gr_at hP 49 rfl) ?_
          refine pw_iload dX10_thing_133 rfl ?_
          refine pw_ialdN s dX10_thing_135 (sh_lt hG (by decide)) (sh_sh hG 55 rfl) (by decide) (rfl) (by omega) ?_
          refine pw_ti (z := nI vs.length) (by rw [t3]; exact hx.2.2.1) ?_
          refine pw_icmpN_ge _ _ (tgt := 154) dX10_thing_136 (by decide) (rfl) (rfl) (by omega) (by omega) (fun h136 => ?_) (fun h136 => ?_)
          · rw [show fkX vs 0 = -5 by unfold fkX; rw [List.getElem?_eq_none (by omega)]] at k
            refine pw_bipush (v := -5) dX10_thing_154 (by decide) ?_
            exact pw_iret dX10_thing_156 rfl (k)
          · obtain ⟨u, hu⟩ : ∃ u, vs[0]? = some u := ⟨_, List.getElem?_eq_getElem (by omega)⟩
            rw [show fkX vs 0 = nI u.1 by unfold fkX; rw [hu]] at k
            refine pw_aload_n dX10_thing_139 rfl ?_
            refine pw_getR fX10_90 dX10_thing_140 (sh_lt hG (by decide)) (sh_tg hG 45 rfl) rfl (gr_at hP 66 rfl) ?_
            refine pw_iconst (v := nI 3) dX10_thing_143 (by decide) ?_
            refine pw_iload_n dX10_thing_144 rfl ?_
            refine pw_imul dX10_thing_145 ?_
            refine pw_iload_n dX10_thing_146 rfl ?_
            refine pw_iadd dX10_thing_147 ?_
            refine pw_iconst (v := nI 4) dX10_thing_148 (by decide) ?_
            refine pw_isub dX10_thing_149 ?_
            refine pw_ti (z := nI (3 * jj + 0)) (by rw [show nI 3 * nI jj = nI (3 * jj) from (Int32.ofNat_mul 3 _).symm, show (4 : Int32) = nI 4 from rfl, nI_add, show nI (3 * jj + 4) = nI (3 * jj + 0) + nI 4 by rw [nI_add], Int32.add_sub_cancel]) ?_
            refine pw_ialdN (3 * jj + 0) dX10_thing_150 (sh_lt hG (by decide)) (sh_sh hG 72 rfl) (by decide) (rfl) (by omega) ?_
            refine pw_ti (z := nI u.1) (hts.2 0 u hu).1 ?_
            refine pw_goto (tgt := 156) dX10_thing_151 (by decide) ?_
            exact pw_iret dX10_thing_156 rfl (k)
        · rw [show thW A (s, vs) 5 = fkX vs 1 from rfl] at k
          refine pw_iload_n dX10_thing_45 rfl ?_
          refine pw_tableIn (off := 80) (tgt := 126) dX10_thing_46 (by decide) (by decide) (by decide) (by decide) ?_
          refine pw_iload_n dX10_thing_126 rfl ?_
          refine pw_iconst (v := nI 4) dX10_thing_127 (by decide) ?_
          refine pw_isub dX10_thing_128 ?_
          refine pw_ti (z := nI 1) (by decide) ?_
          refine pw_aload_n dX10_thing_129 rfl ?_
          refine pw_getR fX10_38 dX10_thing_130 (sh_lt hG (by decide)) (sh_tg hG 45 rfl) rfl (gr_at hP 49 rfl) ?_
          refine pw_iload dX10_thing_133 rfl ?_
          refine pw_ialdN s dX10_thing_135 (sh_lt hG (by decide)) (sh_sh hG 55 rfl) (by decide) (rfl) (by omega) ?_
          refine pw_ti (z := nI vs.length) (by rw [t3]; exact hx.2.2.1) ?_
          refine pw_icmpN_ge _ _ (tgt := 154) dX10_thing_136 (by decide) (rfl) (rfl) (by omega) (by omega) (fun h136 => ?_) (fun h136 => ?_)
          · rw [show fkX vs 1 = -5 by unfold fkX; rw [List.getElem?_eq_none (by omega)]] at k
            refine pw_bipush (v := -5) dX10_thing_154 (by decide) ?_
            exact pw_iret dX10_thing_156 rfl (k)
          · obtain ⟨u, hu⟩ : ∃ u, vs[1]? = some u := ⟨_, List.getElem?_eq_getElem (by omega)⟩
            rw [show fkX vs 1 = nI u.1 by unfold fkX; rw [hu]] at k
            refine pw_aload_n dX10_thing_139 rfl ?_
            refine pw_getR fX10_90 dX10_thing_140 (sh_lt hG (by decide)) (sh_tg hG 45 rfl) rfl (gr_at hP 66 rfl) ?_
            refine pw_iconst (v := nI 3) dX10_thing_143 (by decide) ?_
            refine pw_iload_n dX10_thing_144 rfl ?_
            refine pw_imul dX10_thing_145 ?_
            refine pw_iload_n dX10_thing_146 rfl ?_
            refine pw_iadd dX10_thing_147 ?_
            refine pw_iconst (v := nI 4) dX10_thing_148 (by decide) ?_
            refine pw_isub dX10_thing_149 ?_
            refine pw_ti (z := nI (3 * jj + 1)) (by rw [show nI 3 * nI jj = nI (3 * jj) from (Int32.ofNat_mul 3 _).symm, show (5 : Int32) = nI 5 from rfl, nI_add, show nI (3 * jj + 5) = nI (3 * jj + 1) + nI 4 by rw [nI_add], Int32.add_sub_cancel]) ?_
            refine pw_ialdN (3 * jj + 1) dX10_thing_150 (sh_lt hG (by decide)) (sh_sh hG 72 rfl) (by decide) (rfl) (by omega) ?_
            refine pw_ti (z := nI u.1) (hts.2 1 u hu).1 ?_
            refine pw_goto (tgt := 156) dX10_thing_151 (by decide) ?_
            exact pw_iret dX10_thing_156 rfl (k)
        · rw [show thW A (s, vs) 6 = fkX vs 2 from rfl] at k
          refine pw_iload_n dX10_thing_45 rfl ?_
          refine pw_tableIn (off := 80) (tgt := 126) dX10_thing_46 (by decide) (by decide) (by decide) (by decide) ?_
          refine pw_iload_n dX10_thing_126 rfl ?_
          refine pw_iconst (v := nI 4) dX10_thing_127 (by decide) ?_
          refine pw_isub dX10_thing_128 ?_
          refine pw_ti (z := nI 2) (by decide) ?_
          refine pw_aload_n dX10_thing_129 rfl ?_
          refine pw_getR fX10_38 dX10_thing_130 (sh_lt hG (by decide)) (sh_tg hG 45 rfl) rfl (gr_at hP 49 rfl) ?_
          refine pw_iload dX10_thing_133 rfl ?_
          refine pw_ialdN s dX10_thing_135 (sh_lt hG (by decide)) (sh_sh hG 55 rfl) (by decide) (rfl) (by omega) ?_
          refine pw_ti (z := nI vs.length) (by rw [t3]; exact hx.2.2.1) ?_
          refine pw_icmpN_ge _ _ (tgt := 154) dX10_thing_136 (by decide) (rfl) (rfl) (by omega) (by omega) (fun h136 => ?_) (fun h136 => ?_)
          · rw [show fkX vs 2 = -5 by unfold fkX; rw [List.getElem?_eq_none (by omega)]] at k
            refine pw_bipush (v := -5) dX10_thing_154 (by decide) ?_
            exact pw_iret dX10_thing_156 rfl (k)
          · obtain ⟨u, hu⟩ : ∃ u, vs[2]? = some u := ⟨_, List.getElem?_eq_getElem (by omega)⟩
            rw [show fkX vs 2 = nI u.1 by unfold fkX; rw [hu]] at k
            refine pw_aload_n dX10_thing_139 rfl ?_
            refine pw_getR fX10_90 dX10_thing_140 (sh_lt hG (by decide)) (sh_tg hG 45 rfl) rfl (gr_at hP 66 rfl) ?_
            refine pw_iconst (v := nI 3) dX10_thing_143 (by decide) ?_
            refine pw_iload_n dX10_thing_144 rfl ?_
            refine pw_imul dX10_thing_145 ?_
            refine pw_iload_n dX10_thing_146 rfl ?_
            refine pw_iadd dX10_thing_147 ?_
            refine pw_iconst (v := nI 4) dX10_thing_148 (by decide) ?_
            refine pw_isub dX10_thing_149 ?_
            refine pw_ti (z := nI (3 * jj + 2)) (by rw [show nI 3 * nI jj = nI (3 * jj) from (Int32.ofNat_mul 3 _).symm, show (6 : Int32) = nI 6 from rfl, nI_add, show nI (3 * jj + 6) = nI (3 * jj + 2) + nI 4 by rw [nI_add], Int32.add_sub_cancel]) ?_
            refine pw_ialdN (3 * jj + 2) dX10_thing_150 (sh_lt hG (by decide)) (sh_sh hG 72 rfl) (by decide) (rfl) (by omega) ?_
            refine pw_ti (z := nI u.1) (hts.2 2 u hu).1 ?_
            refine pw_goto (tgt := 156) dX10_thing_151 (by decide) ?_
            exact pw_iret dX10_thing_156 rfl (k)
      · rw [thW_o hsw] at k
        have q := sw_out hsw
        refine pw_iload_n dX10_thing_45 rfl ?_
        refine pw_tableOut (tgt := 157) dX10_thing_46 q (by decide) ?_
        refine pw_bipush (v := -2) dX10_thing_157 (by decide) ?_
        exact pw_iret dX10_thing_159 rfl (k)
    · rw [show thV A v y = -1 from if_neg (by omega)] at k
      refine pw_iconst (v := -1) dX10_thing_27 (by decide) ?_
      exact pw_iret dX10_thing_28 rfl (k)
  · rw [show thX A x y = -1 from if_neg h0] at k
    refine pw_aload_n dX10_thing_0 rfl ?_
    refine pw_iconst (v := nI 0) dX10_thing_1 (by decide) ?_
    refine pw_putI fX10_154 dX10_thing_2 (Or.inl rfl) (by decide) (sh_lt hG (by decide)) (sh_tg hG 45 rfl) rfl ?_
    refine pw_iload_n dX10_thing_5 rfl ?_
    refine pw_iconst (v := nI 1) dX10_thing_6 (by decide) ?_
    refine pw_aload_n dX10_thing_7 rfl ?_
    refine pw_getI fX10_305 dX10_thing_8 (sh_lt hG (by decide)) (sh_tg hG 45 rfl) rfl ?_
    refine pw_ti (z := nI A.rs.length) hA0.r ?_
    refine pw_callS (as := [_, _, _]) (kc' := 0) (ks' := 0) lX10_160 dX10_thing_11 rfl rfl (Nat.le_of_ble_eq_true rfl) (by omega) (Nat.le_of_ble_eq_true rfl) (Nat.zero_le _) (Nat.zero_le _) ?_
    refine c_X10_in (fun q1 q2 => absurd ?_ h0) (fun _ => ?_)
    · obtain ⟨i, hi1, hi2, e⟩ := in_nI (by decide) (by omega) q1 q2
      rw [e, nI_toInt (by omega)]
      exact ⟨by omega, by omega⟩
    refine pw_if_eq (tgt := 27) dX10_thing_14 (by decide) (fun h14 => ?_) (fun h => absurd (by decide) h)
    refine pw_iconst (v := -1) dX10_thing_27 (by decide) ?_
    exact pw_iret dX10_thing_28 rfl (k)
