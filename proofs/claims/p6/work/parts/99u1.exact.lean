/-- what is answered of the NAME with number x -/
def nmX (ns : List Int64) (f : Int64 → Int32) (x : Int32) : Int32 := if 0 ≤ x.toInt ∧ x.toInt < (ns.length : Int) then f (ns.getD x.toInt.toNat 0) else -1
theorem nmX_1 {ns : List Int64} {f : Int64 → Int32} {j : Nat} {v : Int64} (hl : ns.length ≤ 40) (hj : ns[j]? = some v) : nmX ns f (nI j) = f v := by
  have h := (List.getElem?_eq_some_iff.mp hj).1
  unfold nmX
  rw [nI_toInt (by omega), if_pos ⟨by omega, by omega⟩, Int.toNat_natCast, List.getD_eq_getElem?_getD, hj]
  rfl
theorem nmX_0 {ns : List Int64} {f : Int64 → Int32} {x : Int32} (hl : ns.length ≤ 40) (h : x < 0 ∨ nI ns.length ≤ x) : nmX ns f x = -1 := by
  refine if_neg (fun q => ?_)
  rcases h with h | h
  · rw [Int32.lt_iff_toInt_lt, show (0 : Int32).toInt = 0 by decide] at h
    omega
  · rw [Int32.le_iff_toInt_le, nI_toInt (by omega)] at h
    omega
theorem rs_cases {n : Nat} (hn : n ≤ 40) (x : Int32) : (∃ j, j < n ∧ x = nI (j + 1)) ∨ ¬ (1 ≤ x.toInt ∧ x.toInt ≤ (n : Int)) := by
  by_cases h : 1 ≤ x.toInt ∧ x.toInt ≤ (n : Int)
  · left
    have h0 : ¬ x < 0 := fun q => by
      rw [Int32.lt_iff_toInt_lt, show (0 : Int32).toInt = 0 by decide] at q
      omega
    obtain ⟨i, hi, rfl⟩ := nn_I h0
    rw [nI_toInt (by omega)] at h
    exact ⟨i - 1, by omega, by rw [show i - 1 + 1 = i by omega]⟩
  · exact Or.inr h
/-- what kind() answers -/
def kdX (rs : List vV) (x : Int32) : Int32 := if 1 ≤ x.toInt ∧ x.toInt ≤ (rs.length : Int) then nI (rs.getD (x.toInt.toNat - 1) (0, 0)).1 else -1
theorem kdX_1 {rs : List vV} {j : Nat} {v : vV} (hl : rs.length ≤ 40) (hj : rs[j]? = some v) : kdX rs (nI (j + 1)) = nI v.1 := by
  have h := (List.getElem?_eq_some_iff.mp hj).1
  unfold kdX
  rw [nI_toInt (by omega), if_pos ⟨by omega, by omega⟩, Int.toNat_natCast, Nat.add_sub_cancel, List.getD_eq_getElem?_getD, hj]
  rfl
set_option maxRecDepth 20000 in
set_option maxHeartbeats 400000 in
theorem c_whatE {l : Launch} {E : pmE} {d : Nat} {S : pmS} {I : pmI} {J : pmJ} {P : pmP} {Q : Option Value → pmS → pmI → pmJ → pmP → Prop} (hG : sh_St S) (hP : gr_St P) (hd : 2 ≤ d) {x : Int32} {A : aS} {Z : Nat → Nat} {b : Nat} (hc : cA S I J P A Z b) (hO : aO A) (k : Q (some (.int (nmX A.ns (fun v => nI (A.fm v)) x))) S I J P) : pm_Met l E yX9_what cX9_what 2 (some .int) d 0 0 [.ref 2, .int x] S I J P Q := by
  unfold pm_Met
  refine pm_lvs (lv' := [(0, _), (1, _)]) rfl ?_
  refine pw_aload_n dX9_what_0 rfl ?_
  refine pw_getR fX9_32 dX9_what_1 (sh_lt hG (by decide)) (sh_tg hG 0 rfl) rfl (gr_at hP 3 rfl) ?_
  refine pw_getR fX9_72 dX9_what_4 (sh_lt hG (by decide)) (sh_tg hG 13 rfl) rfl (gr_at hP 15 rfl) ?_
  refine pw_iload_n dX9_what_7 rfl ?_
  refine pw_callV (as := [_]) (kc' := 0) (ks' := 0) lX9_142 dX9_what_8 rfl rfl (sh_lt hG (by decide)) (sh_tg hG 14 rfl) (Nat.le_of_ble_eq_true rfl) (by omega) (Nat.le_of_ble_eq_true rfl) (Nat.zero_le _) (Nat.zero_le _) ?_
  refine c_X2_has hG hP hc.n hO.1.2 (fun j hj e => ?_) (fun h0 => ?_)
  · subst e
    obtain ⟨v, hv⟩ : ∃ v, A.ns[j]? = some v := ⟨_, List.getElem?_eq_getElem hj⟩
    rw [nmX_1 hO.1.2 hv] at k
    have hix := nd_ix hO.1.1 hv
    refine pw_if_eq (tgt := 28) dX9_what_11 (by decide) (fun h => absurd h (by decide)) (fun h11 => ?_)
    refine pw_aload_n dX9_what_14 rfl ?_
    refine pw_getR fX9_32 dX9_what_15 (sh_lt hG (by decide)) (sh_tg hG 0 rfl) rfl (gr_at hP 3 rfl) ?_
    refine pw_getR fX9_72 dX9_what_18 (sh_lt hG (by decide)) (sh_tg hG 13 rfl) rfl (gr_at hP 15 rfl) ?_
    refine pw_iload_n dX9_what_21 rfl ?_
    refine pw_ti (z := nI (A.ns.idxOf v)) (by rw [hix]) ?_
    refine pw_callV (as := [_]) (kc' := 0) (ks' := 0) lX9_148 dX9_what_22 rfl rfl (sh_lt hG (by decide)) (sh_tg hG 14 rfl) (Nat.le_of_ble_eq_true rfl) (by omega) (Nat.le_of_ble_eq_true rfl) (Nat.zero_le _) (Nat.zero_le _) ?_
    refine n_form hG hP (by omega) hc hO.1.2 (List.mem_of_getElem? hv) ?_
    refine pw_goto (tgt := 29) dX9_what_25 (by decide) ?_
    exact pw_iret dX9_what_29 rfl (k)
  · rw [nmX_0 hO.1.2 h0] at k
    refine pw_if_eq (tgt := 28) dX9_what_11 (by decide) (fun h11 => ?_) (fun h => absurd (by decide) h)
    refine pw_iconst (v := -1) dX9_what_28 (by decide) ?_
    exact pw_iret dX9_what_29 rfl (k)
set_option maxRecDepth 20000 in
set_option maxHeartbeats 400000 in
theorem r_whatE {l : Launch} {E : pmE} {d : Nat} {S : pmS} {I : pmI} {J : pmJ} {P : pmP} {Q : Option Value → pmS → pmI → pmJ → pmP → Prop} (hG : sh_St S) (hP : gr_St P) (hd : 2 ≤ d) {x : Int32} {A : aS} (hA : rA I J A) (hO : aO A) (k : Q (some (.int (nmX A.ns (fun v => nI (A.fm v)) x))) S (pm_u I 47 0 (nI 0)) J P) : pm_Met l E yX10_what cX10_what 2 (some .int) d 0 0 [.ref 47, .int x] S I J P Q := by
  unfold pm_Met
  refine pm_lvs (lv' := [(0, _), (1, _)]) rfl ?_
  refine pw_aload_n dX10_what_0 rfl ?_
  refine pw_iconst (v := nI 0) dX10_what_1 (by decide) ?_
  refine pw_putI fX10_154 dX10_what_2 (Or.inl rfl) (by decide) (sh_lt hG (by decide)) (sh_tg hG 45 rfl) rfl ?_
  refine pw_aload_n dX10_what_5 rfl ?_
  refine pw_iload_n dX10_what_6 rfl ?_
  refine pw_callV (as := [_]) (kc' := 0) (ks' := 0) lX10_360 dX10_what_7 rfl rfl (sh_lt hG (by decide)) (sh_tg hG 45 rfl) (Nat.le_of_ble_eq_true rfl) (by omega) (Nat.le_of_ble_eq_true rfl) (Nat.zero_le _) (Nat.zero_le _) ?_
  refine c_X10_isName hG hP (by omega) (by rw [pm_u_eq, pm_up_ne (by decide)]; exact hA.n) hO.1.2 (fun j hj e => ?_) (fun h0 => ?_)
  · subst e
    obtain ⟨v, hv⟩ : ∃ v, A.ns[j]? = some v := ⟨_, List.getElem?_eq_getElem hj⟩
    rw [nmX_1 hO.1.2 hv] at k
    have hnl := hO.1.2
    refine pw_if_eq (tgt := 22) dX10_what_10 (by decide) (fun h => absurd h (by decide)) (fun h10 => ?_)
    refine pw_aload_n dX10_what_13 rfl ?_
    refine pw_getR fX10_17 dX10_what_14 (sh_lt hG (by decide)) (sh_tg hG 45 rfl) rfl (gr_at hP 42 rfl) ?_
    refine pw_iload_n dX10_what_17 rfl ?_
    refine pw_ialdN j dX10_what_18 (sh_lt hG (by decide)) (sh_sh hG 48 rfl) (by decide) (rfl) (by omega) ?_
    refine pw_ti (z := nI (A.fm v)) (by rw [pm_u_ne (by decide)]; exact (hA.2.1 j v hv).2.1) ?_
    refine pw_goto (tgt := 23) dX10_what_19 (by decide) ?_
    exact pw_iret dX10_what_23 rfl (k)
  · rw [nmX_0 hO.1.2 h0] at k
    refine pw_if_eq (tgt := 22) dX10_what_10 (by decide) (fun h10 => ?_) (fun h => absurd (by decide) h)
    refine pw_iconst (v := -1) dX10_what_22 (by decide) ?_
    exact pw_iret dX10_what_23 rfl (k)
set_option maxRecDepth 20000 in
set_option maxHeartbeats 400000 in
theorem c_byE {l : Launch} {E : pmE} {d : Nat} {S : pmS} {I : pmI} {J : pmJ} {P : pmP} {Q : Option Value → pmS → pmI → pmJ → pmP → Prop} (hG : sh_St S) (hP : gr_St P) (hd : 2 ≤ d) {x : Int32} {A : aS} {Z : Nat → Nat} {b : Nat} (hc : cA S I J P A Z b) (hO : aO A) (k : Q (some (.int (nmX A.ns (fun v => eN (A.dc v)) x))) S I J P) : pm_Met l E yX9_by cX9_by 2 (some .int) d 0 0 [.ref 2, .int x] S I J P Q := by
  unfold pm_Met
  refine pm_lvs (lv' := [(0, _), (1, _)]) rfl ?_
  refine pw_aload_n dX9_by_0 rfl ?_
  refine pw_getR fX9_32 dX9_by_1 (sh_lt hG (by decide)) (sh_tg hG 0 rfl) rfl (gr_at hP 3 rfl) ?_
  refine pw_getR fX9_72 dX9_by_4 (sh_lt hG (by decide)) (sh_tg hG 13 rfl) rfl (gr_at hP 15 rfl) ?_
  refine pw_iload_n dX9_by_7 rfl ?_
  refine pw_callV (as := [_]) (kc' := 0) (ks' := 0) lX9_142 dX9_by_8 rfl rfl (sh_lt hG (by decide)) (sh_tg hG 14 rfl) (Nat.le_of_ble_eq_true rfl) (by omega) (Nat.le_of_ble_eq_true rfl) (Nat.zero_le _) (Nat.zero_le _) ?_
  refine c_X2_has hG hP hc.n hO.1.2 (fun j hj e => ?_) (fun h0 => ?_)
  · subst e
    obtain ⟨v, hv⟩ : ∃ v, A.ns[j]? = some v := ⟨_, List.getElem?_eq_getElem hj⟩
    rw [nmX_1 hO.1.2 hv] at k
    have hix := nd_ix hO.1.1 hv
    refine pw_if_eq (tgt := 28) dX9_by_11 (by decide) (fun h => absurd h (by decide)) (fun h11 => ?_)
    refine pw_aload_n dX9_by_14 rfl ?_
    refine pw_getR fX9_32 dX9_by_15 (sh_lt hG (by decide)) (sh_tg hG 0 rfl) rfl (gr_at hP 3 rfl) ?_
    refine pw_getR fX9_72 dX9_by_18 (sh_lt hG (by decide)) (sh_tg hG 13 rfl) rfl (gr_at hP 15 rfl) ?_
    refine pw_iload_n dX9_by_21 rfl ?_
    refine pw_ti (z := nI (A.ns.idxOf v)) (by rw [hix]) ?_
    refine pw_callV (as := [_]) (kc' := 0) (ks' := 0) lX9_151 dX9_by_22 rfl rfl (sh_lt hG (by decide)) (sh_tg hG 14 rfl) (Nat.le_of_ble_eq_true rfl) (by omega) (Nat.le_of_ble_eq_true rfl) (Nat.zero_le _) (Nat.zero_le _) ?_
    refine n_decl hG hP (by omega) hc hO.1.2 (List.mem_of_getElem? hv) ?_
    refine pw_goto (tgt := 29) dX9_by_25 (by decide) ?_
    exact pw_iret dX9_by_29 rfl (k)
  · rw [nmX_0 hO.1.2 h0] at k
    refine pw_if_eq (tgt := 28) dX9_by_11 (by decide) (fun h11 => ?_) (fun h => absurd (by decide) h)
    refine pw_iconst (v := -1) dX9_by_28 (by decide) ?_
    exact pw_iret dX9_by_29 rfl (k)
set_option maxRecDepth 20000 in
set_option maxHeartbeats 400000 in
theorem r_byE {l : Launch} {E : pmE} {d : Nat} {S : pmS} {I : pmI} {J : pmJ} {P : pmP} {Q : Option Value → pmS → pmI → pmJ → pmP → Prop} (hG : sh_St S) (hP : gr_St P) (hd : 2 ≤ d) {x : Int32} {A : aS} (hA : rA I J A) (hO : aO A) (k : Q (some (.int (nmX A.ns (fun v => eN (A.dc v)) x))) S (pm_u I 47 0 (nI 0)) J P) : pm_Met l E yX10_by cX10_by 2 (some .int) d 0 0 [.ref 47, .int x] S I J P Q := by
  unfold pm_Met
  refine pm_lvs (lv' := [(0, _), (1, _)]) rfl ?_
  refine pw_aload_n dX10_by_0 rfl ?_
  refine pw_iconst (v := nI 0) dX10_by_1 (by decide) ?_
  refine pw_putI fX10_154 dX10_by_2 (Or.inl rfl) (by decide) (sh_lt hG (by decide)) (sh_tg hG 45 rfl) rfl ?_
  refine pw_aload_n dX10_by_5 rfl ?_
  refine pw_iload_n dX10_by_6 rfl ?_
  refine pw_callV (as := [_]) (kc' := 0) (ks' := 0) lX10_360 dX10_by_7 rfl rfl (sh_lt hG (by decide)) (sh_tg hG 45 rfl) (Nat.le_of_ble_eq_true rfl) (by omega) (Nat.le_of_ble_eq_true rfl) (Nat.zero_le _) (Nat.zero_le _) ?_
  refine c_X10_isName hG hP (by omega) (by rw [pm_u_eq, pm_up_ne (by decide)]; exact hA.n) hO.1.2 (fun j hj e => ?_) (fun h0 => ?_)
  · subst e
    obtain ⟨v, hv⟩ : ∃ v, A.ns[j]? = some v := ⟨_, List.getElem?_eq_getElem hj⟩
    rw [nmX_1 hO.1.2 hv] at k
    have hnl := hO.1.2
    refine pw_if_eq (tgt := 22) dX10_by_10 (by decide) (fun h => absurd h (by decide)) (fun h10 => ?_)
    refine pw_aload_n dX10_by_13 rfl ?_
    refine pw_getR fX10_20 dX10_by_14 (sh_lt hG (by decide)) (sh_tg hG 45 rfl) rfl (gr_at hP 43 rfl) ?_
    refine pw_iload_n dX10_by_17 rfl ?_
    refine pw_ialdN j dX10_by_18 (sh_lt hG (by decide)) (sh_sh hG 49 rfl) (by decide) (rfl) (by omega) ?_
    refine pw_ti (z := eN (A.dc v)) (by rw [pm_u_ne (by decide)]; exact (hA.2.1 j v hv).2.2.1) ?_
    refine pw_goto (tgt := 23) dX10_by_19 (by decide) ?_
    exact pw_iret dX10_by_23 rfl (k)
  · rw [nmX_0 hO.1.2 h0] at k
    refine pw_if_eq (tgt := 22) dX10_by_10 (by decide) (fun h10 => ?_) (fun h => absurd (by decide) h)
    refine pw_iconst (v := -1) dX10_by_22 (by decide) ?_
    exact pw_iret dX10_by_23 rfl (k)
set_option maxRecDepth 20000 in
set_option maxHeartbeats 400000 in
theorem c_editionE {l : Launch} {E : pmE} {d : Nat} {S : pmS} {I : pmI} {J : pmJ} {P : pmP} {Q : Option Value → pmS → pmI → pmJ → pmP → Prop} (hG : sh_St S) (hP : gr_St P) (hd : 2 ≤ d) {x : Int32} {A : aS} {Z : Nat → Nat} {b : Nat} (hc : cA S I J P A Z b) (hO : aO A) (k : Q (some (.int (nmX A.ns (fun v => nI (A.ed v)) x))) S I J P) : pm_Met l E yX9_edition cX9_edition 2 (some .int) d 0 0 [.ref 2, .int x] S I J P Q := by
  unfold pm_Met
  refine pm_lvs (lv' := [(0, _), (1, _)]) rfl ?_
  refine pw_aload_n dX9_edition_0 rfl ?_
  refine pw_getR fX9_32 dX9_edition_1 (sh_lt hG (by decide)) (sh_tg hG 0 rfl) rfl (gr_at hP 3 rfl) ?_
  refine pw_getR fX9_72 dX9_edition_4 (sh_lt hG (by decide)) (sh_tg hG 13 rfl) rfl (gr_at hP 15 rfl) ?_
  refine pw_iload_n dX9_edition_7 rfl ?_
  refine pw_callV (as := [_]) (kc' := 0) (ks' := 0) lX9_142 dX9_edition_8 rfl rfl (sh_lt hG (by decide)) (sh_tg hG 14 rfl) (Nat.le_of_ble_eq_true rfl) (by omega) (Nat.le_of_ble_eq_true rfl) (Nat.zero_le _) (Nat.zero_le _) ?_
  refine c_X2_has hG hP hc.n hO.1.2 (fun j hj e => ?_) (fun h0 => ?_)
  · subst e
    obtain ⟨v, hv⟩ : ∃ v, A.ns[j]? = some v := ⟨_, List.getElem?_eq_getElem hj⟩
    rw [nmX_1 hO.1.2 hv] at k
    have hix := nd_ix hO.1.1 hv
    refine pw_if_eq (tgt := 28) dX9_edition_11 (by decide) (fun h => absurd h (by decide)) (fun h11 => ?_)
    refine pw_aload_n dX9_edition_14 rfl ?_
    refine pw_getR fX9_32 dX9_edition_15 (sh_lt hG (by decide)) (sh_tg hG 0 rfl) rfl (gr_at hP 3 rfl) ?_
    refine pw_getR fX9_72 dX9_edition_18 (sh_lt hG (by decide)) (sh_tg hG 13 rfl) rfl (gr_at hP 15 rfl) ?_
    refine pw_iload_n dX9_edition_21 rfl ?_
    refine pw_ti (z := nI (A.ns.idxOf v)) (by rw [hix]) ?_
    refine pw_callV (as := [_]) (kc' := 0) (ks' := 0) lX9_154 dX9_edition_22 rfl rfl (sh_lt hG (by decide)) (sh_tg hG 14 rfl) (Nat.le_of_ble_eq_true rfl) (by omega) (Nat.le_of_ble_eq_true rfl) (Nat.zero_le _) (Nat.zero_le _) ?_
    refine n_edit hG hP (by omega) hc hO.1.2 (List.mem_of_getElem? hv) ?_
    refine pw_goto (tgt := 29) dX9_edition_25 (by decide) ?_
    exact pw_iret dX9_edition_29 rfl (k)
  · rw [nmX_0 hO.1.2 h0] at k
    refine pw_if_eq (tgt := 28) dX9_edition_11 (by decide) (fun h11 => ?_) (fun h => absurd (by decide) h)
    refine pw_iconst (v := -1) dX9_edition_28 (by decide) ?_
    exact pw_iret dX9_edition_29 rfl (k)
set_option maxRecDepth 20000 in
set_option maxHeartbeats 400000 in
theorem r_editionE {l : Launch} {E : pmE} {d : Nat} {S : pmS} {I : pmI} {J : pmJ} {P : pmP} {Q : Option Value → pmS → pmI → pmJ → pmP → Prop} (hG : sh_St S) (hP : gr_St P) (hd : 2 ≤ d) {x : Int32} {A : aS} (hA : rA I J A) (hO : aO A) (k : Q (some (.int (nmX A.ns (fun v => nI (A.ed v)) x))) S (pm_u I 47 0 (nI 0)) J P) : pm_Met l E yX10_edition cX10_edition 2 (some .int) d 0 0 [.ref 47, .int x] S I J P Q := by
  unfold pm_Met
  refine pm_lvs (lv' := [(0, _), (1, _)]) rfl ?_
  refine pw_aload_n dX10_edition_0 rfl ?_
  refine pw_iconst (v := nI 0) dX10_edition_1 (by decide) ?_
  refine pw_putI fX10_154 dX10_edition_2 (Or.inl rfl) (by decide) (sh_lt hG (by decide)) (sh_tg hG 45 rfl) rfl ?_
  refine pw_aload_n dX10_edition_5 rfl ?_
  refine pw_iload_n dX10_edition_6 rfl ?_
  refine pw_callV (as := [_]) (kc' := 0) (ks' := 0) lX10_360 dX10_edition_7 rfl rfl (sh_lt hG (by decide)) (sh_tg hG 45 rfl) (Nat.le_of_ble_eq_true rfl) (by omega) (Nat.le_of_ble_eq_true rfl) (Nat.zero_le _) (Nat.zero_le _) ?_
  refine c_X10_isName hG hP (by omega) (by rw [pm_u_eq, pm_up_ne (by decide)]; exact hA.n) hO.1.2 (fun j hj e => ?_) (fun h0 => ?_)
  · subst e
    obtain ⟨v, hv⟩ : ∃ v, A.ns[j]? = some v := ⟨_, List.getElem?_eq_getElem hj⟩
    rw [nmX_1 hO.1.2 hv] at k
    have hnl := hO.1.2
    refine pw_if_eq (tgt := 22) dX10_edition_10 (by decide) (fun h => absurd h (by decide)) (fun h10 => ?_)
    refine pw_aload_n dX10_edition_13 rfl ?_
    refine pw_getR fX10_23 dX10_edition_14 (sh_lt hG (by decide)) (sh_tg hG 45 rfl) rfl (gr_at hP 44 rfl) ?_
    refine pw_iload_n dX10_edition_17 rfl ?_
    refine pw_ialdN j dX10_edition_18 (sh_lt hG (by decide)) (sh_sh hG 50 rfl) (by decide) (rfl) (by omega) ?_
    refine pw_ti (z := nI (A.ed v)) (by rw [pm_u_ne (by decide)]; exact (hA.2.1 j v hv).2.2.2.1) ?_
    refine pw_goto (tgt := 23) dX10_edition_19 (by decide) ?_
    exact pw_iret dX10_edition_23 rfl (k)
  · rw [nmX_0 hO.1.2 h0] at k
    refine pw_if_eq (tgt := 22) dX10_edition_10 (by decide) (fun h10 => ?_) (fun h => absurd (by decide) h)
    refine pw_iconst (v := -1) dX10_edition_22 (by decide) ?_
    exact pw_iret dX10_edition_23 rfl (k)
set_option maxRecDepth 20000 in
set_option maxHeartbeats 400000 in
theorem c_kindE {l : Launch} {E : pmE} {d : Nat} {S : pmS} {I : pmI} {J : pmJ} {P : pmP} {Q : Option Value → pmS → pmI → pmJ → pmP → Prop} (hG : sh_St S) (hP : gr_St P) (hd : 1 ≤ d) {x : Int32} {A : aS} {Z : Nat → Nat} {b : Nat} (hc : cA S I J P A Z b) (hO : aO A) (k : Q (some (.int (kdX A.rs x))) S I J P) : pm_Met l E yX9_kind cX9_kind 2 (some .int) d 0 0 [.ref 2, .int x] S I J P Q := by
  unfold pm_Met
  have hsl := hO.2.2.2.2.2.2.2.2.2.2.1
  have hrl := hO.2.2.2.2.2.2.2.2.2.2.2.1
  refine pm_lvs (lv' := [(0, _), (1, _)]) rfl ?_
  rcases rs_cases (n := A.rs.length) (by omega) x with ⟨j, hj, rfl⟩ | h0
  · obtain ⟨v, hv⟩ : ∃ v, A.rs[j]? = some v := ⟨_, List.getElem?_eq_getElem hj⟩
    rw [kdX_1 (by omega) hv] at k
    refine pw_aload_n dX9_kind_0 rfl ?_
    refine pw_getR fX9_32 dX9_kind_1 (sh_lt hG (by decide)) (sh_tg hG 0 rfl) rfl (gr_at hP 3 rfl) ?_
    refine pw_iload_n dX9_kind_4 rfl ?_
    refine pw_i2l dX9_kind_5 ?_
    refine pw_callV (as := [_]) (kc' := 0) (ks' := 0) lX9_89 dX9_kind_6 rfl rfl (sh_lt hG (by decide)) (sh_tg hG 13 rfl) (Nat.le_of_ble_eq_true rfl) (by omega) (Nat.le_of_ble_eq_true rfl) (Nat.zero_le _) (Nat.zero_le _) ?_
    refine s_hr1 hG hP hc.r (by omega) hj ?_
    refine pw_if_eq (tgt := 26) dX9_kind_9 (by decide) (fun h => absurd h (by decide)) (fun h9 => ?_)
    refine pw_aload_n dX9_kind_12 rfl ?_
    refine pw_getR fX9_32 dX9_kind_13 (sh_lt hG (by decide)) (sh_tg hG 0 rfl) rfl (gr_at hP 3 rfl) ?_
    refine pw_getR fX9_93 dX9_kind_16 (sh_lt hG (by decide)) (sh_tg hG 13 rfl) rfl (gr_at hP 18 rfl) ?_
    refine pw_iload_n dX9_kind_19 rfl ?_
    refine pw_callV (as := [_]) (kc' := 0) (ks' := 0) lX9_97 dX9_kind_20 rfl rfl (sh_lt hG (by decide)) (sh_tg hG 28 rfl) (Nat.le_of_ble_eq_true rfl) (by omega) (Nat.le_of_ble_eq_true rfl) (Nat.zero_le _) (Nat.zero_le _) ?_
    refine v_kind30 hG hP (by omega) ?_
    refine pw_ti (z := nI v.1) (hc.2.2.2.1 j v hv).1 ?_
    refine pw_goto (tgt := 27) dX9_kind_23 (by decide) ?_
    exact pw_iret dX9_kind_27 rfl (k)
  · rw [show kdX A.rs x = -1 from if_neg h0] at k
    refine pw_aload_n dX9_kind_0 rfl ?_
    refine pw_getR fX9_32 dX9_kind_1 (sh_lt hG (by decide)) (sh_tg hG 0 rfl) rfl (gr_at hP 3 rfl) ?_
    refine pw_iload_n dX9_kind_4 rfl ?_
    refine pw_i2l dX9_kind_5 ?_
    refine pw_callV (as := [_]) (kc' := 0) (ks' := 0) lX9_89 dX9_kind_6 rfl rfl (sh_lt hG (by decide)) (sh_tg hG 13 rfl) (Nat.le_of_ble_eq_true rfl) (by omega) (Nat.le_of_ble_eq_true rfl) (Nat.zero_le _) (Nat.zero_le _) ?_
    refine s_hr0 hG hP hc.r (by omega) h0 ?_
    refine pw_if_eq (tgt := 26) dX9_kind_9 (by decide) (fun h9 => ?_) (fun h => absurd (by decide) h)
    refine pw_iconst (v := -1) dX9_kind_26 (by decide) ?_
    exact pw_iret dX9_kind_27 rfl (k)
set_option maxRecDepth 20000 in
set_option maxHeartbeats 400000 in
theorem r_kindE {l : Launch} {E : pmE} {d : Nat} {S : pmS} {I : pmI} {J : pmJ} {P : pmP} {Q : Option Value → pmS → pmI → pmJ → pmP → Prop} (hG : sh_St S) (hP : gr_St P) (hd : 1 ≤ d) {x : Int32} {A : aS} (hA : rA I J A) (hO : aO A) (k : Q (some (.int (kdX A.rs x))) S (pm_u I 47 0 (nI 0)) J P) : pm_Met l E yX10_kind cX10_kind 2 (some .int) d 0 0 [.ref 47, .int x] S I J P Q := by
  unfold pm_Met
  have hsl := hO.2.2.2.2.2.2.2.2.2.2.1
  have hrl := hO.2.2.2.2.2.2.2.2.2.2.2.1
  refine pm_lvs (lv' := [(0, _), (1, _)]) rfl ?_
  rcases rs_cases (n := A.rs.length) (by omega) x with ⟨j, hj, rfl⟩ | h0
  · obtain ⟨v, hv⟩ : ∃ v, A.rs[j]? = some v := ⟨_, List.getElem?_eq_getElem hj⟩
    rw [kdX_1 (by omega) hv] at k
    refine pw_aload_n dX10_kind_0 rfl ?_
    refine pw_iconst (v := nI 0) dX10_kind_1 (by decide) ?_
    refine pw_putI fX10_154 dX10_kind_2 (Or.inl rfl) (by decide) (sh_lt hG (by decide)) (sh_tg hG 45 rfl) rfl ?_
    refine pw_iload_n dX10_kind_5 rfl ?_
    refine pw_iconst (v := nI 1) dX10_kind_6 (by decide) ?_
    refine pw_aload_n dX10_kind_7 rfl ?_
    refine pw_getI fX10_305 dX10_kind_8 (sh_lt hG (by decide)) (sh_tg hG 45 rfl) rfl ?_
    refine pw_ti (z := nI A.rs.length) (by rw [pm_u_eq, pm_up_ne (by decide)]; exact hA.r) ?_
    refine pw_callS (as := [_, _, _]) (kc' := 0) (ks' := 0) lX10_160 dX10_kind_11 rfl rfl (Nat.le_of_ble_eq_true rfl) (by omega) (Nat.le_of_ble_eq_true rfl) (Nat.zero_le _) (Nat.zero_le _) ?_
    refine c_X10_in (fun _ _ => ?_) (fun q => absurd q ?_)
    rotate_left
    · intro q
      rcases q with q | q
      · rw [nI_ltI (by omega) (by omega)] at q; omega
      · rw [nI_ltI (by omega) (by omega)] at q; omega
    refine pw_if_eq (tgt := 26) dX10_kind_14 (by decide) (fun h => absurd h (by decide)) (fun h14 => ?_)
    refine pw_aload_n dX10_kind_17 rfl ?_
    refine pw_getR fX10_80 dX10_kind_18 (sh_lt hG (by decide)) (sh_tg hG 45 rfl) rfl (gr_at hP 63 rfl) ?_
    refine pw_iload_n dX10_kind_21 rfl ?_
    refine pw_ialdN (j + 1) dX10_kind_22 (sh_lt hG (by decide)) (sh_sh hG 69 rfl) (by decide) (rfl) (by omega) ?_
    refine pw_ti (z := nI v.1) (by rw [pm_u_ne (by decide)]; exact (hA.rs j v hv).1) ?_
    refine pw_goto (tgt := 27) dX10_kind_23 (by decide) ?_
    exact pw_iret dX10_kind_27 rfl (k)
  · rw [show kdX A.rs x = -1 from if_neg h0] at k
    refine pw_aload_n dX10_kind_0 rfl ?_
    refine pw_iconst (v := nI 0) dX10_kind_1 (by decide) ?_
    refine pw_putI fX10_154 dX10_kind_2 (Or.inl rfl) (by decide) (sh_lt hG (by decide)) (sh_tg hG 45 rfl) rfl ?_
    refine pw_iload_n dX10_kind_5 rfl ?_
    refine pw_iconst (v := nI 1) dX10_kind_6 (by decide) ?_
    refine pw_aload_n dX10_kind_7 rfl ?_
    refine pw_getI fX10_305 dX10_kind_8 (sh_lt hG (by decide)) (sh_tg hG 45 rfl) rfl ?_
    refine pw_ti (z := nI A.rs.length) (by rw [pm_u_eq, pm_up_ne (by decide)]; exact hA.r) ?_
    refine pw_callS (as := [_, _, _]) (kc' := 0) (ks' := 0) lX10_160 dX10_kind_11 rfl rfl (Nat.le_of_ble_eq_true rfl) (by omega) (Nat.le_of_ble_eq_true rfl) (Nat.zero_le _) (Nat.zero_le _) ?_
    refine c_X10_in (fun q1 q2 => absurd ?_ h0) (fun _ => ?_)
    · obtain ⟨i, hi1, hi2, e⟩ := in_nI (by decide) (by omega) q1 q2
      rw [e, nI_toInt (by omega)]
      exact ⟨by omega, by omega⟩
    refine pw_if_eq (tgt := 26) dX10_kind_14 (by decide) (fun h14 => ?_) (fun h => absurd (by decide) h)
    refine pw_iconst (v := -1) dX10_kind_26 (by decide) ?_
    exact pw_iret dX10_kind_27 rfl (k)
set_option maxRecDepth 20000 in
set_option maxHeartbeats 400000 in
theorem c_eraseE {l : Launch} {E : pmE} {d : Nat} {S : pmS} {I : pmI} {J : pmJ} {P : pmP} {Q : Option Value → pmS → pmI → pmJ → pmP → Prop} (hG : sh_St S) (hP : gr_St P) {n : Nat} (hn : I 2 5 = nI n) (k : Q (some (.int (nI n))) S (pm_u I 2 5 (nI 0)) J P) : pm_Met l E yX9_erase cX9_erase 2 (some .int) d 0 0 [.ref 2] S I J P Q := by
  unfold pm_Met
  refine pm_lvs (lv' := [(0, _)]) rfl ?_
  refine pw_aload_n dX9_erase_0 rfl ?_
  refine pw_getI fX9_49 dX9_erase_1 (sh_lt hG (by decide)) (sh_tg hG 0 rfl) rfl ?_
  refine pw_ti (z := nI n) hn ?_
  refine pw_istore_n (lv' := [(1, _), (0, _)]) dX9_erase_4 (by decide) rfl ?_
  refine pw_aload_n dX9_erase_5 rfl ?_
  refine pw_iconst (v := nI 0) dX9_erase_6 (by decide) ?_
  refine pw_putI fX9_49 dX9_erase_7 (Or.inl rfl) (by decide) (sh_lt hG (by decide)) (sh_tg hG 0 rfl) rfl ?_
  refine pw_iload_n dX9_erase_10 rfl ?_
  exact pw_iret dX9_erase_11 rfl (k)

set_option maxRecDepth 20000 in
set_option maxHeartbeats 400000 in
theorem r_eraseE {l : Launch} {E : pmE} {d : Nat} {S : pmS} {I : pmI} {J : pmJ} {P : pmP} {Q : Option Value → pmS → pmI → pmJ → pmP → Prop} (hG : sh_St S) (hP : gr_St P) {n : Nat} (hn : I 47 2 = nI n) (k : Q (some (.int (nI n))) S (pm_u (pm_u I 47 0 (nI 0)) 47 2 (nI 0)) J P) : pm_Met l E yX10_erase cX10_erase 2 (some .int) d 0 0 [.ref 47] S I J P Q := by
  unfold pm_Met
  refine pm_lvs (lv' := [(0, _)]) rfl ?_
  refine pw_aload_n dX10_erase_0 rfl ?_
  refine pw_iconst (v := nI 0) dX10_erase_1 (by decide) ?_
  refine pw_putI fX10_154 dX10_erase_2 (Or.inl rfl) (by decide) (sh_lt hG (by decide)) (sh_tg hG 45 rfl) rfl ?_
  refine pw_aload_n dX10_erase_5 rfl ?_
  refine pw_getI fX10_164 dX10_erase_6 (sh_lt hG (by decide)) (sh_tg hG 45 rfl) rfl ?_
  refine pw_ti (z := nI n) (by rw [pm_u_eq, pm_up_ne (by decide)]; exact hn) ?_
  refine pw_istore_n (lv' := [(1, _), (0, _)]) dX10_erase_9 (by decide) rfl ?_
  refine pw_aload_n dX10_erase_10 rfl ?_
  refine pw_iconst (v := nI 0) dX10_erase_11 (by decide) ?_
  refine pw_putI fX10_164 dX10_erase_12 (Or.inl rfl) (by decide) (sh_lt hG (by decide)) (sh_tg hG 45 rfl) rfl ?_
  refine pw_iload_n dX10_erase_15 rfl ?_
  exact pw_iret dX10_erase_16 rfl (k)

