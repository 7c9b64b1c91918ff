section TC
variable {S : pmS} {I : pmI} {J : pmJ} {P : pmP} {A : aS} {t : List tH} {b m : Nat}
theorem tC.bd (h : tC S I J P A t b m) : (b = 22 ∨ 95 ≤ b) ∧ b + 5 ≤ S.1 := h.1
theorem tC.q0 (h : tC S I J P A t b m) : P 21 0 = some b := h.2.1.1
theorem tC.q1 (h : tC S I J P A t b m) : P 21 1 = some (b + 1) := h.2.1.2.1
theorem tC.q2 (h : tC S I J P A t b m) : P 21 2 = some (b + 2) := h.2.1.2.2.1
theorem tC.q3 (h : tC S I J P A t b m) : P 21 3 = some (b + 3) := h.2.1.2.2.2.1
theorem tC.q4 (h : tC S I J P A t b m) : P 21 4 = some (b + 4) := h.2.1.2.2.2.2
theorem tC.s0 (h : tC S I J P A t b m) : S.2 b = (100, m) := h.2.2.1.1
theorem tC.s1 (h : tC S I J P A t b m) : S.2 (b + 1) = (100, m) := h.2.2.1.2.1
theorem tC.s2 (h : tC S I J P A t b m) : S.2 (b + 2) = (100, m) := h.2.2.1.2.2.1
theorem tC.s3 (h : tC S I J P A t b m) : S.2 (b + 3) = (100, 3 * m) := h.2.2.1.2.2.2.1
theorem tC.s4 (h : tC S I J P A t b m) : S.2 (b + 4) = (101, 3 * m) := h.2.2.1.2.2.2.2
theorem tC.m' (h : tC S I J P A t b m) : 32 ≤ m ∧ m ≤ 32000 := h.2.2.2.1
theorem tC.l (h : tC S I J P A t b m) : t.length ≤ m := h.2.2.2.2.1
theorem tC.n (h : tC S I J P A t b m) : I 21 5 = nI t.length := h.2.2.2.2.2.1
theorem tC.at (h : tC S I J P A t b m) {j s : Nat} {vs : List vV} (hj : t[j]? = some (s, vs)) : I b j = nI (A.ns.idxOf (A.at s).dec) ∧ I (b + 1) j = nI (A.at s).ed ∧ I (b + 2) j = nI vs.length ∧ ∀ (i : Nat) (v : vV), vs[i]? = some v → I (b + 3) (3 * j + i) = nI v.1 ∧ J (b + 4) (3 * j + i) = v.2 := h.2.2.2.2.2.2 j s vs hj
end TC
set_option maxRecDepth 20000 in
set_option maxHeartbeats 4000000 in
theorem t_has1 {l : Launch} {E : pmE} {d : Nat} {S : pmS} {I : pmI} {J : pmJ} {P : pmP} {Q : Option Value → pmS → pmI → pmJ → pmP → Prop} {A : aS} {t : List tH} {b m : Nat} (hG : sh_St S) (hP : gr_St P) (ht : tC S I J P A t b m) {j : Nat} (hjl : j < t.length) (k : Q (some (.int (nI 1))) S I J P) : pm_Met l E yX6_has cX6_has 2 (some .boolean) d 0 0 [.ref 21, .int (nI j)] S I J P Q := by
  unfold pm_Met
  have htl := ht.l
  have htm := ht.m'
  refine pm_lvs (lv' := [(0, _), (1, _)]) rfl ?_
  refine pw_iload_n dX6_has_0 rfl ?_
  refine pw_if_lt (tgt := 16) dX6_has_1 (by decide) (fun h => absurd h (nI_pos (by omega))) (fun h1 => ?_)
  refine pw_iload_n dX6_has_4 rfl ?_
  refine pw_aload_n dX6_has_5 rfl ?_
  refine pw_getI fX6_28 dX6_has_6 (sh_lt hG (by decide)) (sh_tg hG 19 rfl) rfl ?_
  refine pw_icmpN_ge _ _ (tgt := 16) dX6_has_9 (by decide) (rfl) (ht.n) (by omega) (by omega) (fun h9 => absurd h9 (by omega)) (fun h9 => ?_)
  refine pw_iconst (v := nI 1) dX6_has_12 (by decide) ?_
  refine pw_goto (tgt := 17) dX6_has_13 (by decide) ?_
  exact pw_zret dX6_has_17 rfl (by decide) (k)

set_option maxRecDepth 20000 in
set_option maxHeartbeats 4000000 in
theorem t_type {l : Launch} {E : pmE} {d : Nat} {S : pmS} {I : pmI} {J : pmJ} {P : pmP} {Q : Option Value → pmS → pmI → pmJ → pmP → Prop} {A : aS} {t : List tH} {b m : Nat} (hG : sh_St S) (hP : gr_St P) (hd : 1 ≤ d) (ht : tC S I J P A t b m) {j s : Nat} {vs : List vV} (hj : t[j]? = some (s, vs)) (k : Q (some (.int (nI (A.ns.idxOf (A.at s).dec)))) S I J P) : pm_Met l E yX6_typeOf cX6_typeOf 2 (some .int) d 0 0 [.ref 21, .int (nI j)] S I J P Q := by
  unfold pm_Met
  have hjl := (List.getElem?_eq_some_iff.mp hj).1
  have htl := ht.l
  have htm := ht.m'
  refine pm_lvs (lv' := [(0, _), (1, _)]) rfl ?_
  refine pw_aload_n dX6_typeOf_0 rfl ?_
  refine pw_iload_n dX6_typeOf_1 rfl ?_
  refine pw_callV (as := [_]) (kc' := 0) (ks' := 0) lX6_45 dX6_typeOf_2 rfl rfl (sh_lt hG (by decide)) (sh_tg hG 19 rfl) (Nat.le_of_ble_eq_true rfl) (by omega) (Nat.le_of_ble_eq_true rfl) (Nat.zero_le _) (Nat.zero_le _) ?_
  refine t_has1 hG hP ht hjl ?_
  refine pw_if_eq (tgt := 17) dX6_typeOf_5 (by decide) (fun h => absurd h (by decide)) (fun h5 => ?_)
  refine pw_aload_n dX6_typeOf_8 rfl ?_
  refine pw_getR fX6_11 dX6_typeOf_9 (sh_lt hG (by decide)) (sh_tg hG 19 rfl) rfl ht.q0 ?_
  refine pw_iload_n dX6_typeOf_12 rfl ?_
  refine pw_ialdN j dX6_typeOf_13 (by have := ht.bd; omega) ht.s0 (by omega) (rfl) (by omega) ?_
  refine pw_ti (z := (nI (A.ns.idxOf (A.at s).dec))) (ht.at hj).1 ?_
  refine pw_goto (tgt := 19) dX6_typeOf_14 (by decide) ?_
  exact pw_iret dX6_typeOf_19 rfl (k)

set_option maxRecDepth 20000 in
set_option maxHeartbeats 4000000 in
theorem t_edit {l : Launch} {E : pmE} {d : Nat} {S : pmS} {I : pmI} {J : pmJ} {P : pmP} {Q : Option Value → pmS → pmI → pmJ → pmP → Prop} {A : aS} {t : List tH} {b m : Nat} (hG : sh_St S) (hP : gr_St P) (hd : 1 ≤ d) (ht : tC S I J P A t b m) {j s : Nat} {vs : List vV} (hj : t[j]? = some (s, vs)) (k : Q (some (.int (nI (A.at s).ed))) S I J P) : pm_Met l E yX6_editionOf cX6_editionOf 2 (some .int) d 0 0 [.ref 21, .int (nI j)] S I J P Q := by
  unfold pm_Met
  have hjl := (List.getElem?_eq_some_iff.mp hj).1
  have htl := ht.l
  have htm := ht.m'
  refine pm_lvs (lv' := [(0, _), (1, _)]) rfl ?_
  refine pw_aload_n dX6_editionOf_0 rfl ?_
  refine pw_iload_n dX6_editionOf_1 rfl ?_
  refine pw_callV (as := [_]) (kc' := 0) (ks' := 0) lX6_45 dX6_editionOf_2 rfl rfl (sh_lt hG (by decide)) (sh_tg hG 19 rfl) (Nat.le_of_ble_eq_true rfl) (by omega) (Nat.le_of_ble_eq_true rfl) (Nat.zero_le _) (Nat.zero_le _) ?_
  refine t_has1 hG hP ht hjl ?_
  refine pw_if_eq (tgt := 17) dX6_editionOf_5 (by decide) (fun h => absurd h (by decide)) (fun h5 => ?_)
  refine pw_aload_n dX6_editionOf_8 rfl ?_
  refine pw_getR fX6_15 dX6_editionOf_9 (sh_lt hG (by decide)) (sh_tg hG 19 rfl) rfl ht.q1 ?_
  refine pw_iload_n dX6_editionOf_12 rfl ?_
  refine pw_ialdN j dX6_editionOf_13 (by have := ht.bd; omega) ht.s1 (by omega) (rfl) (by omega) ?_
  refine pw_ti (z := (nI (A.at s).ed)) (ht.at hj).2.1 ?_
  refine pw_goto (tgt := 18) dX6_editionOf_14 (by decide) ?_
  exact pw_iret dX6_editionOf_18 rfl (k)

set_option maxRecDepth 20000 in
set_option maxHeartbeats 4000000 in
theorem t_hasF {l : Launch} {E : pmE} {d : Nat} {S : pmS} {I : pmI} {J : pmJ} {P : pmP} {Q : Option Value → pmS → pmI → pmJ → pmP → Prop} {A : aS} {t : List tH} {b m : Nat} (hG : sh_St S) (hP : gr_St P) (hd : 1 ≤ d) (ht : tC S I J P A t b m) {j s : Nat} {vs : List vV} (hj : t[j]? = some (s, vs)) {i : Nat} {v : vV} (hi : vs[i]? = some v) (h3 : vs.length ≤ 3) (k : Q (some (.int (nI 1))) S I J P) : pm_Met l E yX6_hasField cX6_hasField 3 (some .boolean) d 0 0 [.ref 21, .int (nI j), .int (nI i)] S I J P Q := by
  unfold pm_Met
  have hjl := (List.getElem?_eq_some_iff.mp hj).1
  have htl := ht.l
  have htm := ht.m'
  have hil := (List.getElem?_eq_some_iff.mp hi).1
  refine pm_lvs (lv' := [(0, _), (1, _), (2, _)]) rfl ?_
  refine pw_aload_n dX6_hasField_0 rfl ?_
  refine pw_iload_n dX6_hasField_1 rfl ?_
  refine pw_callV (as := [_]) (kc' := 0) (ks' := 0) lX6_45 dX6_hasField_2 rfl rfl (sh_lt hG (by decide)) (sh_tg hG 19 rfl) (Nat.le_of_ble_eq_true rfl) (by omega) (Nat.le_of_ble_eq_true rfl) (Nat.zero_le _) (Nat.zero_le _) ?_
  refine t_has1 hG hP ht hjl ?_
  refine pw_if_eq (tgt := 31) dX6_hasField_5 (by decide) (fun h => absurd h (by decide)) (fun h5 => ?_)
  refine pw_iload_n dX6_hasField_8 rfl ?_
  refine pw_if_lt (tgt := 31) dX6_hasField_9 (by decide) (fun h => absurd h (nI_pos (by omega))) (fun h9 => ?_)
  refine pw_iload_n dX6_hasField_12 rfl ?_
  refine pw_aload_n dX6_hasField_13 rfl ?_
  refine pw_getR fX6_18 dX6_hasField_14 (sh_lt hG (by decide)) (sh_tg hG 19 rfl) rfl ht.q2 ?_
  refine pw_iload_n dX6_hasField_17 rfl ?_
  refine pw_ialdN j dX6_hasField_18 (by have := ht.bd; omega) ht.s2 (by omega) (rfl) (by omega) ?_
  refine pw_ti (z := nI vs.length) (ht.at hj).2.2.1 ?_
  refine pw_icmpN_ge _ _ (tgt := 31) dX6_hasField_19 (by decide) (rfl) (rfl) (by omega) (by omega) (fun h19 => absurd h19 (by omega)) (fun h19 => ?_)
  refine pw_iload_n dX6_hasField_22 rfl ?_
  refine pw_iconst (v := nI 3) dX6_hasField_23 (by decide) ?_
  refine pw_icmpN_ge _ _ (tgt := 31) dX6_hasField_24 (by decide) (rfl) (rfl) (by omega) (by omega) (fun h24 => absurd h24 (by omega)) (fun h24 => ?_)
  refine pw_iconst (v := nI 1) dX6_hasField_27 (by decide) ?_
  refine pw_goto (tgt := 32) dX6_hasField_28 (by decide) ?_
  exact pw_zret dX6_hasField_32 rfl (by decide) (k)

set_option maxRecDepth 20000 in
set_option maxHeartbeats 4000000 in
theorem t_fk {l : Launch} {E : pmE} {d : Nat} {S : pmS} {I : pmI} {J : pmJ} {P : pmP} {Q : Option Value → pmS → pmI → pmJ → pmP → Prop} {A : aS} {t : List tH} {b m : Nat} (hG : sh_St S) (hP : gr_St P) (hd : 2 ≤ d) (ht : tC S I J P A t b m) {j s : Nat} {vs : List vV} (hj : t[j]? = some (s, vs)) {i : Nat} {v : vV} (hi : vs[i]? = some v) (h3 : vs.length ≤ 3) (k : Q (some (.int (nI v.1))) S I J P) : pm_Met l E yX6_fieldKind cX6_fieldKind 3 (some .int) d 0 0 [.ref 21, .int (nI j), .int (nI i)] S I J P Q := by
  unfold pm_Met
  have hjl := (List.getElem?_eq_some_iff.mp hj).1
  have htl := ht.l
  have htm := ht.m'
  have hil := (List.getElem?_eq_some_iff.mp hi).1
  refine pm_lvs (lv' := [(0, _), (1, _), (2, _)]) rfl ?_
  refine pw_aload_n dX6_fieldKind_0 rfl ?_
  refine pw_iload_n dX6_fieldKind_1 rfl ?_
  refine pw_iload_n dX6_fieldKind_2 rfl ?_
  refine pw_callV (as := [_, _]) (kc' := 0) (ks' := 0) lX6_49 dX6_fieldKind_3 rfl rfl (sh_lt hG (by decide)) (sh_tg hG 19 rfl) (Nat.le_of_ble_eq_true rfl) (by omega) (Nat.le_of_ble_eq_true rfl) (Nat.zero_le _) (Nat.zero_le _) ?_
  refine t_hasF hG hP (by omega) ht hj hi h3 ?_
  refine pw_if_eq (tgt := 22) dX6_fieldKind_6 (by decide) (fun h => absurd h (by decide)) (fun h6 => ?_)
  refine pw_aload_n dX6_fieldKind_9 rfl ?_
  refine pw_getR fX6_21 dX6_fieldKind_10 (sh_lt hG (by decide)) (sh_tg hG 19 rfl) rfl ht.q3 ?_
  refine pw_iload_n dX6_fieldKind_13 rfl ?_
  refine pw_iconst (v := nI 3) dX6_fieldKind_14 (by decide) ?_
  refine pw_imul dX6_fieldKind_15 ?_
  refine pw_iload_n dX6_fieldKind_16 rfl ?_
  refine pw_iadd dX6_fieldKind_17 ?_
  refine pw_ti (z := nI (3 * j + i)) (by rw [show nI j * nI 3 = nI (j * 3) from (Int32.ofNat_mul j 3).symm, nI_add, Nat.mul_comm]) ?_
  refine pw_ialdN (3 * j + i) dX6_fieldKind_18 (by have := ht.bd; omega) ht.s3 (by omega) (rfl) (by omega) ?_
  refine pw_ti (z := (nI v.1)) ((ht.at hj).2.2.2 i v hi).1 ?_
  refine pw_goto (tgt := 24) dX6_fieldKind_19 (by decide) ?_
  exact pw_iret dX6_fieldKind_24 rfl (k)

set_option maxRecDepth 20000 in
set_option maxHeartbeats 4000000 in
theorem t_fc {l : Launch} {E : pmE} {d : Nat} {S : pmS} {I : pmI} {J : pmJ} {P : pmP} {Q : Option Value → pmS → pmI → pmJ → pmP → Prop} {A : aS} {t : List tH} {b m : Nat} (hG : sh_St S) (hP : gr_St P) (hd : 2 ≤ d) (ht : tC S I J P A t b m) {j s : Nat} {vs : List vV} (hj : t[j]? = some (s, vs)) {i : Nat} {v : vV} (hi : vs[i]? = some v) (h3 : vs.length ≤ 3) (k : Q (some (.long v.2)) S I J P) : pm_Met l E yX6_fieldCore cX6_fieldCore 3 (some .long) d 0 0 [.ref 21, .int (nI j), .int (nI i)] S I J P Q := by
  unfold pm_Met
  have hjl := (List.getElem?_eq_some_iff.mp hj).1
  have htl := ht.l
  have htm := ht.m'
  have hil := (List.getElem?_eq_some_iff.mp hi).1
  refine pm_lvs (lv' := [(0, _), (1, _), (2, _)]) rfl ?_
  refine pw_aload_n dX6_fieldCore_0 rfl ?_
  refine pw_iload_n dX6_fieldCore_1 rfl ?_
  refine pw_iload_n dX6_fieldCore_2 rfl ?_
  refine pw_callV (as := [_, _]) (kc' := 0) (ks' := 0) lX6_49 dX6_fieldCore_3 rfl rfl (sh_lt hG (by decide)) (sh_tg hG 19 rfl) (Nat.le_of_ble_eq_true rfl) (by omega) (Nat.le_of_ble_eq_true rfl) (Nat.zero_le _) (Nat.zero_le _) ?_
  refine t_hasF hG hP (by omega) ht hj hi h3 ?_
  refine pw_if_eq (tgt := 22) dX6_fieldCore_6 (by decide) (fun h => absurd h (by decide)) (fun h6 => ?_)
  refine pw_aload_n dX6_fieldCore_9 rfl ?_
  refine pw_getR fX6_24 dX6_fieldCore_10 (sh_lt hG (by decide)) (sh_tg hG 19 rfl) rfl ht.q4 ?_
  refine pw_iload_n dX6_fieldCore_13 rfl ?_
  refine pw_iconst (v := nI 3) dX6_fieldCore_14 (by decide) ?_
  refine pw_imul dX6_fieldCore_15 ?_
  refine pw_iload_n dX6_fieldCore_16 rfl ?_
  refine pw_iadd dX6_fieldCore_17 ?_
  refine pw_ti (z := nI (3 * j + i)) (by rw [show nI j * nI 3 = nI (j * 3) from (Int32.ofNat_mul j 3).symm, nI_add, Nat.mul_comm]) ?_
  refine pw_laldN (3 * j + i) dX6_fieldCore_18 (by have := ht.bd; omega) ht.s4 (by omega) (rfl) (by omega) ?_
  refine pw_tj (z := v.2) ((ht.at hj).2.2.2 i v hi).2 ?_
  refine pw_goto (tgt := 23) dX6_fieldCore_19 (by decide) ?_
  exact pw_lret dX6_fieldCore_23 rfl (k)

theorem old_iff {A : aS} (hA : aO A) {s : Nat} (hs : s < A.sn.length) (h3 : (A.at s).form = 3) : A.fm (A.at s).dec = 3 → (A.ed (A.at s).dec = (A.at s).ed ↔ A.dc (A.at s).dec = some s) := by
  intro hf
  obtain ⟨s', h1, h2, h4, h5, h6⟩ := hA.2.2.2.1 (A.at s).dec (by omega)
  constructor
  · intro he
    rw [h1]
    congr 1
    exact hA.2.2.2.2.2.1 s' s h2 hs (by omega) h3 h5 (by rw [h6 hf, he])
  · intro hd
    rw [hd] at h1
    cases h1
    exact (h6 hf).symm
set_option maxRecDepth 20000 in
set_option maxHeartbeats 4000000 in
theorem s_old {l : Launch} {E : pmE} {d : Nat} {S : pmS} {I : pmI} {J : pmJ} {P : pmP} {Q : Option Value → pmS → pmI → pmJ → pmP → Prop} {A : aS} {t : List tH} {b m b0 j s : Nat} {vs : List vV} {Z : Nat → Nat} (hG : sh_St S) (hP : gr_St P) (hd : 2 ≤ d) (hA : cA S I J P A Z b0) (hO : aO A) (hs : s < A.sn.length) (h3 : (A.at s).form = 3) (ht : tC S I J P A t b m) (hj : t[j]? = some (s, vs)) (k1 : A.fm (A.at s).dec = 3 → A.dc (A.at s).dec = some s → Q (some (.int (nI 0))) S I J P) (k0 : ¬ (A.fm (A.at s).dec = 3 ∧ A.dc (A.at s).dec = some s) → Q (some (.int (nI 1))) S I J P) : pm_Met l E yX4_isOld cX4_isOld 3 (some .boolean) d 0 0 [.ref 15, .int (nI j)] S I J P Q := by
  unfold pm_Met
  have hjl := (List.getElem?_eq_some_iff.mp hj).1
  have htl := ht.l
  have htm := ht.m'
  have hsn := hO.2.2.2.2.1 s hs
  have hdn : (A.at s).dec ∈ A.ns := hsn.2.2.1 (by omega)
  have hfm : A.fm (A.at s).dec ≤ 3 := by
    rcases Nat.eq_zero_or_pos (A.fm (A.at s).dec) with h0 | h0
    · omega
    · obtain ⟨s', -, g2, g3, -⟩ := hO.2.2.2.1 _ (show A.fm (A.at s).dec ≠ 0 by omega)
      have := (hO.2.2.2.2.1 s' g2).1
      omega
  have hed : A.ed (A.at s).dec ≤ 40 := Nat.le_trans (hO.2.2.2.2.2.2.2.2.2.2.2.2 _) hO.2.2.2.2.2.2.2.2.2.2.1
  have hes : (A.at s).ed ≤ 40 := Nat.le_trans (hsn.2.2.2.2.2 h3) hed
  refine pm_lvs (lv' := [(0, _), (1, _)]) rfl ?_
  refine pw_aload_n dX4_isOld_0 rfl ?_
  refine pw_getR fX4_21 dX4_isOld_1 (sh_lt hG (by decide)) (sh_tg hG 13 rfl) rfl (gr_at hP 16 rfl) ?_
  refine pw_iload_n dX4_isOld_4 rfl ?_
  refine pw_callV (as := [_]) (kc' := 0) (ks' := 0) lX4_86 dX4_isOld_5 rfl rfl (sh_lt hG (by decide)) (sh_tg hG 19 rfl) (Nat.le_of_ble_eq_true rfl) (by omega) (Nat.le_of_ble_eq_true rfl) (Nat.zero_le _) (Nat.zero_le _) ?_
  refine t_type hG hP (by omega) ht hj ?_
  refine pw_istore_n (lv' := [(2, _), (0, _), (1, _)]) dX4_isOld_8 (by decide) rfl ?_
  refine pw_aload_n dX4_isOld_9 rfl ?_
  refine pw_getR fX4_12 dX4_isOld_10 (sh_lt hG (by decide)) (sh_tg hG 13 rfl) rfl (gr_at hP 15 rfl) ?_
  refine pw_iload_n dX4_isOld_13 rfl ?_
  refine pw_callV (as := [_]) (kc' := 0) (ks' := 0) lX4_75 dX4_isOld_14 rfl rfl (sh_lt hG (by decide)) (sh_tg hG 14 rfl) (Nat.le_of_ble_eq_true rfl) (by omega) (Nat.le_of_ble_eq_true rfl) (Nat.zero_le _) (Nat.zero_le _) ?_
  refine n_form hG hP (by omega) hA hO.1.2 hdn ?_
  refine pw_iconst (v := nI 3) dX4_isOld_17 (by decide) ?_
  refine pw_icmpN_ne _ _ (tgt := 40) dX4_isOld_18 (by decide) (rfl) (rfl) (by omega) (by omega) (fun h18 => ?_) (fun h18 => ?_)
  · refine pw_iconst (v := nI 1) dX4_isOld_40 (by decide) ?_
    refine pw_goto (tgt := 45) dX4_isOld_41 (by decide) ?_
    exact pw_zret dX4_isOld_45 rfl (by decide) (k0 (fun q => h18 q.1))
  · refine pw_aload_n dX4_isOld_21 rfl ?_
    refine pw_getR fX4_12 dX4_isOld_22 (sh_lt hG (by decide)) (sh_tg hG 13 rfl) rfl (gr_at hP 15 rfl) ?_
    refine pw_iload_n dX4_isOld_25 rfl ?_
    refine pw_callV (as := [_]) (kc' := 0) (ks' := 0) lX4_89 dX4_isOld_26 rfl rfl (sh_lt hG (by decide)) (sh_tg hG 14 rfl) (Nat.le_of_ble_eq_true rfl) (by omega) (Nat.le_of_ble_eq_true rfl) (Nat.zero_le _) (Nat.zero_le _) ?_
    refine n_edit hG hP (by omega) hA hO.1.2 hdn ?_
    refine pw_aload_n dX4_isOld_29 rfl ?_
    refine pw_getR fX4_21 dX4_isOld_30 (sh_lt hG (by decide)) (sh_tg hG 13 rfl) rfl (gr_at hP 16 rfl) ?_
    refine pw_iload_n dX4_isOld_33 rfl ?_
    refine pw_callV (as := [_]) (kc' := 0) (ks' := 0) lX4_92 dX4_isOld_34 rfl rfl (sh_lt hG (by decide)) (sh_tg hG 19 rfl) (Nat.le_of_ble_eq_true rfl) (by omega) (Nat.le_of_ble_eq_true rfl) (Nat.zero_le _) (Nat.zero_le _) ?_
    refine t_edit hG hP (by omega) ht hj ?_
    refine pw_icmpN_eq _ _ (tgt := 44) dX4_isOld_37 (by decide) (rfl) (rfl) (by omega) (by omega) (fun h37 => ?_) (fun h37 => ?_)
    · refine pw_iconst (v := nI 0) dX4_isOld_44 (by decide) ?_
      exact pw_zret dX4_isOld_45 rfl (by decide) (k1 (by omega) ((old_iff hO hs h3 (by omega)).mp h37))
    · refine pw_iconst (v := nI 1) dX4_isOld_40 (by decide) ?_
      refine pw_goto (tgt := 45) dX4_isOld_41 (by decide) ?_
      exact pw_zret dX4_isOld_45 rfl (by decide) (k0 (fun q => h37 ((old_iff hO hs h3 q.1).mpr q.2)))

