theorem ns_at {ns : List Int64} {v : Int64} (h : v ∈ ns) : ns[ns.idxOf v]? = some v ∧ ns.idxOf v < ns.length := by
  have h1 := List.idxOf_lt_length_of_mem h
  exact ⟨by rw [List.getElem?_eq_getElem h1, List.getElem_idxOf h1], h1⟩
section SNC
variable {S S0 : pmS} {I I0 : pmI} {J J0 : pmJ} {P P0 : pmP} {ns : List Int64} {z : Nat} {x : sN}
theorem snC.tg (h : snC S I J P ns z x) : (S.2 (z + 2)).1 = 9 := h.2.1
theorem snC.a0 (h : snC S I J P ns z x) : S.2 z = (102, x.tx.length) := h.2.2.1
theorem snC.a1 (h : snC S I J P ns z x) : S.2 (z + 1) = (100, x.pa.length) := h.2.2.2.1
theorem snC.p2 (h : snC S I J P ns z x) : P (z + 2) 2 = some (z + 1) := h.2.2.2.2.1
theorem snC.p3 (h : snC S I J P ns z x) : P (z + 2) 3 = some z := h.2.2.2.2.2.1
theorem snC.p4 (h : snC S I J P ns z x) : P (z + 2) 4 = some (z + 3) := h.2.2.2.2.2.2.1
theorem snC.fm (h : snC S I J P ns z x) : I (z + 2) 0 = nI x.form := h.2.2.2.2.2.2.2.1
theorem snC.dc (h : snC S I J P ns z x) (hf : x.form ≠ 0) : I (z + 2) 1 = nI (ns.idxOf x.dec) := h.2.2.2.2.2.2.2.2.1 hf
theorem snC.pa' (h : snC S I J P ns z x) {j : Nat} {v : Int64} (hj : x.pa[j]? = some v) : I (z + 1) j = nI (ns.idxOf v) := h.2.2.2.2.2.2.2.2.2.1 j v hj
theorem snC.tx' (h : snC S I J P ns z x) : x.tx.length ≤ 120 ∧ ∀ (j y : Nat), x.tx[j]? = some y → I z j = nI y := h.2.2.2.2.2.2.2.2.2.2.1
theorem snC.cd (h : snC S I J P ns z x) : ∃ rm L, kC S I J P (z + 3) rm L ∧ (x.form = 2 → L = cp (hN ns) x.tr ++ [(13, 0, 0)]) := h.2.2.2.2.2.2.2.2.2.2.2
theorem snC.mv (h : snC S0 I0 J0 P0 ns z x) (hS : S0.1 ≤ S.1) (hs : ∀ a, a < S0.1 → S.2 a = S0.2 a) (hm : ∀ a, z ≤ a → a < z + 8 → I a = I0 a ∧ J a = J0 a ∧ P a = P0 a) : snC S I J P ns z x := by
  obtain ⟨⟨h1, h2⟩, h3, h4, h5, p2, p3, p4, h6, h7, h8, h9, rm, L, h10, h11⟩ := h
  have e0 := hm z (by omega) (by omega)
  have e1 := hm (z + 1) (by omega) (by omega)
  have e2 := hm (z + 2) (by omega) (by omega)
  refine ⟨⟨h1, by omega⟩, by rw [hs _ (by omega)]; exact h3, by rw [hs _ (by omega)]; exact h4, by rw [hs _ (by omega)]; exact h5, by rw [e2.2.2]; exact p2, by rw [e2.2.2]; exact p3, by rw [e2.2.2]; exact p4, by rw [e2.1]; exact h6, by rw [e2.1]; exact h7, by rw [e1.1]; exact h8, by rw [e0.1]; exact h9, rm, L, h10.mv hS hs (fun a h12 h13 => hm a (by omega) (by omega)), h11⟩
end SNC
section CA
variable {S : pmS} {I : pmI} {J : pmJ} {P : pmP} {A : aS} {Z : Nat → Nat} {b : Nat}
theorem cA.n (h : cA S I J P A Z b) : I 16 4 = nI A.ns.length := h.1
theorem cA.nm (h : cA S I J P A Z b) {v : Int64} (hv : v ∈ A.ns) : J 17 (A.ns.idxOf v) = v ∧ I 18 (A.ns.idxOf v) = nI (A.fm v) ∧ I 19 (A.ns.idxOf v) = eN (A.dc v) ∧ I 20 (A.ns.idxOf v) = nI (A.ed v) ∧ (A.fm v = 1 → I 28 (A.ns.idxOf v) = nI (A.va v).1 ∧ J 29 (A.ns.idxOf v) = (A.va v).2) := h.2.1 _ _ (ns_at hv).1
theorem cA.r (h : cA S I J P A Z b) : I 15 6 = nI A.rs.length := h.2.2.1
theorem cA.rs (h : cA S I J P A Z b) : ∀ (j : Nat) (v : vV), A.rs[j]? = some v → I 31 (j + 1) = nI v.1 ∧ J 32 (j + 1) = v.2 := h.2.2.2.1
theorem cA.k (h : cA S I J P A Z b) : I 15 5 = nI A.sn.length := h.2.2.2.2.1
theorem cA.sn (h : cA S I J P A Z b) {s : Nat} (hs : s < A.sn.length) : P 33 s = some (Z s + 2) ∧ snC S I J P A.ns (Z s) (A.at s) ∧ (Z s + 8 ≤ b ∨ b + 5 ≤ Z s) := h.2.2.2.2.2 s hs
theorem cA.mv {S0 : pmS} {I0 : pmI} {J0 : pmJ} {P0 : pmP} (h : cA S0 I0 J0 P0 A Z b) (hF : mF S0 I0 J0 P0 b S I J P) (hb : 95 ≤ S0.1 ∧ b + 5 ≤ S0.1 ∧ (b = 22 ∨ 95 ≤ b)) : cA S I J P A Z b := by
  have e : ∀ a, a ≠ 21 → a ≠ 34 → (a < 36 ∨ 41 < a) → (a < 22 ∨ 26 < a) → a < 95 → I a = I0 a ∧ J a = J0 a ∧ P a = P0 a := fun a h1 h2 h3 h4 h5 => hF.2.2 a ⟨h1, h2, h3, by omega⟩ (by omega)
  have e15 := e 15 (by decide) (by decide) (by decide) (by decide) (by decide)
  have e16 := e 16 (by decide) (by decide) (by decide) (by decide) (by decide)
  have e17 := e 17 (by decide) (by decide) (by decide) (by decide) (by decide)
  have e18 := e 18 (by decide) (by decide) (by decide) (by decide) (by decide)
  have e19 := e 19 (by decide) (by decide) (by decide) (by decide) (by decide)
  have e20 := e 20 (by decide) (by decide) (by decide) (by decide) (by decide)
  have e28 := e 28 (by decide) (by decide) (by decide) (by decide) (by decide)
  have e29 := e 29 (by decide) (by decide) (by decide) (by decide) (by decide)
  have e31 := e 31 (by decide) (by decide) (by decide) (by decide) (by decide)
  have e32 := e 32 (by decide) (by decide) (by decide) (by decide) (by decide)
  have e33 := e 33 (by decide) (by decide) (by decide) (by decide) (by decide)
  unfold cA
  rw [e15.1, e16.1, e17.2.1, e18.1, e19.1, e20.1, e28.1, e29.2.1, e31.1, e32.2.1, e33.2.2]
  refine ⟨h.n, h.2.1, h.r, h.rs, h.k, fun s hs => ?_⟩
  obtain ⟨h1, h2, h3⟩ := h.sn hs
  have h4 := h2.1
  exact ⟨h1, h2.mv hF.1 hF.2.1 (fun a h5 h6 => hF.2.2 a ⟨by omega, by omega, by omega, by omega⟩ (by omega)), h3⟩
end CA
theorem mS.ca {S0 : pmS} {I0 : pmI} {J0 : pmJ} {P0 : pmP} {b0 : Nat} {A : aS} {c i bs s b m : Nat} {w : Int32} {rv : List vV} {fr : List (Nat × Nat × Nat)} {t : List tH} {S : pmS} {I : pmI} {J : pmJ} {P : pmP} {Z : Nat → Nat} (h : mS S0 I0 J0 P0 b0 A S I J P c w i bs rv fr s t b m) (hA : cA S0 I0 J0 P0 A Z b0) : cA S I J P A Z b0 := hA.mv h.fr' h.1.2.2.2.1
theorem n_has1 {l : Launch} {E : pmE} {d : Nat} {S : pmS} {I : pmI} {J : pmJ} {P : pmP} {Q : Option Value → pmS → pmI → pmJ → pmP → Prop} (hG : sh_St S) (hP : gr_St P) {n j : Nat} (hn : I 16 4 = nI n) (hn2 : n ≤ 40) (hj : j < n) (k : Q (some (.int (nI 1))) S I J P) : pm_Met l E yX2_has cX2_has 2 (some .boolean) d 0 0 [.ref 16, .int (nI j)] S I J P Q :=
  c_X2_has hG hP hn hn2 (fun _ _ _ => k) (fun h => by
    rcases h with h | h
    · exact absurd h (nI_pos (by omega))
    · exact absurd ((nI_leI (by omega) (by omega)).mp h) (by omega))
set_option maxRecDepth 20000 in
set_option maxHeartbeats 4000000 in
theorem n_form {l : Launch} {E : pmE} {d : Nat} {S : pmS} {I : pmI} {J : pmJ} {P : pmP} {Q : Option Value → pmS → pmI → pmJ → pmP → Prop} {A : aS} {Z : Nat → Nat} {b : Nat} (hG : sh_St S) (hP : gr_St P) (hd : 1 ≤ d) (hA : cA S I J P A Z b) (hl : A.ns.length ≤ 40) {v : Int64} (hv : v ∈ A.ns) (k : Q (some (.int (nI (A.fm v)))) S I J P) : pm_Met l E yX2_formOf cX2_formOf 2 (some .int) d 0 0 [.ref 16, .int (nI (A.ns.idxOf v))] S I J P Q := by
  unfold pm_Met
  have hat := ns_at hv
  have hat2 := hat.2
  refine pm_lvs (lv' := [(0, _), (1, _)]) rfl ?_
  refine pw_aload_n dX2_formOf_0 rfl ?_
  refine pw_iload_n dX2_formOf_1 rfl ?_
  refine pw_callV (as := [_]) (kc' := 0) (ks' := 0) lX2_51 dX2_formOf_2 rfl rfl (sh_lt hG (by decide)) (sh_tg hG 14 rfl) (Nat.le_of_ble_eq_true rfl) (by omega) (Nat.le_of_ble_eq_true rfl) (Nat.zero_le _) (Nat.zero_le _) ?_
  refine n_has1 hG hP hA.n hl hat.2 ?_
  refine pw_if_eq (tgt := 17) dX2_formOf_5 (by decide) (fun h => absurd h (by decide)) (fun h5 => ?_)
  refine pw_aload_n dX2_formOf_8 rfl ?_
  refine pw_getR fX2_15 dX2_formOf_9 (sh_lt hG (by decide)) (sh_tg hG 14 rfl) rfl (gr_at hP 21 rfl) ?_
  refine pw_iload_n dX2_formOf_12 rfl ?_
  refine pw_ialdN (A.ns.idxOf v) dX2_formOf_13 (sh_lt hG (by decide)) (sh_sh hG 16 rfl) (by decide) (rfl) (by omega) ?_
  refine pw_ti (z := (nI (A.fm v))) (hA.nm hv).2.1 ?_
  refine pw_goto (tgt := 18) dX2_formOf_14 (by decide) ?_
  exact pw_iret dX2_formOf_18 rfl (k)

set_option maxRecDepth 20000 in
set_option maxHeartbeats 4000000 in
theorem n_decl {l : Launch} {E : pmE} {d : Nat} {S : pmS} {I : pmI} {J : pmJ} {P : pmP} {Q : Option Value → pmS → pmI → pmJ → pmP → Prop} {A : aS} {Z : Nat → Nat} {b : Nat} (hG : sh_St S) (hP : gr_St P) (hd : 1 ≤ d) (hA : cA S I J P A Z b) (hl : A.ns.length ≤ 40) {v : Int64} (hv : v ∈ A.ns) (k : Q (some (.int (eN (A.dc v)))) S I J P) : pm_Met l E yX2_declarerOf cX2_declarerOf 2 (some .int) d 0 0 [.ref 16, .int (nI (A.ns.idxOf v))] S I J P Q := by
  unfold pm_Met
  have hat := ns_at hv
  have hat2 := hat.2
  refine pm_lvs (lv' := [(0, _), (1, _)]) rfl ?_
  refine pw_aload_n dX2_declarerOf_0 rfl ?_
  refine pw_iload_n dX2_declarerOf_1 rfl ?_
  refine pw_callV (as := [_]) (kc' := 0) (ks' := 0) lX2_51 dX2_declarerOf_2 rfl rfl (sh_lt hG (by decide)) (sh_tg hG 14 rfl) (Nat.le_of_ble_eq_true rfl) (by omega) (Nat.le_of_ble_eq_true rfl) (Nat.zero_le _) (Nat.zero_le _) ?_
  refine n_has1 hG hP hA.n hl hat.2 ?_
  refine pw_if_eq (tgt := 17) dX2_declarerOf_5 (by decide) (fun h => absurd h (by decide)) (fun h5 => ?_)
  refine pw_aload_n dX2_declarerOf_8 rfl ?_
  refine pw_getR fX2_19 dX2_declarerOf_9 (sh_lt hG (by decide)) (sh_tg hG 14 rfl) rfl (gr_at hP 22 rfl) ?_
  refine pw_iload_n dX2_declarerOf_12 rfl ?_
  refine pw_ialdN (A.ns.idxOf v) dX2_declarerOf_13 (sh_lt hG (by decide)) (sh_sh hG 17 rfl) (by decide) (rfl) (by omega) ?_
  refine pw_ti (z := (eN (A.dc v))) (hA.nm hv).2.2.1 ?_
  refine pw_goto (tgt := 19) dX2_declarerOf_14 (by decide) ?_
  exact pw_iret dX2_declarerOf_19 rfl (k)

set_option maxRecDepth 20000 in
set_option maxHeartbeats 4000000 in
theorem n_edit {l : Launch} {E : pmE} {d : Nat} {S : pmS} {I : pmI} {J : pmJ} {P : pmP} {Q : Option Value → pmS → pmI → pmJ → pmP → Prop} {A : aS} {Z : Nat → Nat} {b : Nat} (hG : sh_St S) (hP : gr_St P) (hd : 1 ≤ d) (hA : cA S I J P A Z b) (hl : A.ns.length ≤ 40) {v : Int64} (hv : v ∈ A.ns) (k : Q (some (.int (nI (A.ed v)))) S I J P) : pm_Met l E yX2_editionOf cX2_editionOf 2 (some .int) d 0 0 [.ref 16, .int (nI (A.ns.idxOf v))] S I J P Q := by
  unfold pm_Met
  have hat := ns_at hv
  have hat2 := hat.2
  refine pm_lvs (lv' := [(0, _), (1, _)]) rfl ?_
  refine pw_aload_n dX2_editionOf_0 rfl ?_
  refine pw_iload_n dX2_editionOf_1 rfl ?_
  refine pw_callV (as := [_]) (kc' := 0) (ks' := 0) lX2_51 dX2_editionOf_2 rfl rfl (sh_lt hG (by decide)) (sh_tg hG 14 rfl) (Nat.le_of_ble_eq_true rfl) (by omega) (Nat.le_of_ble_eq_true rfl) (Nat.zero_le _) (Nat.zero_le _) ?_
  refine n_has1 hG hP hA.n hl hat.2 ?_
  refine pw_if_eq (tgt := 17) dX2_editionOf_5 (by decide) (fun h => absurd h (by decide)) (fun h5 => ?_)
  refine pw_aload_n dX2_editionOf_8 rfl ?_
  refine pw_getR fX2_22 dX2_editionOf_9 (sh_lt hG (by decide)) (sh_tg hG 14 rfl) rfl (gr_at hP 23 rfl) ?_
  refine pw_iload_n dX2_editionOf_12 rfl ?_
  refine pw_ialdN (A.ns.idxOf v) dX2_editionOf_13 (sh_lt hG (by decide)) (sh_sh hG 18 rfl) (by decide) (rfl) (by omega) ?_
  refine pw_ti (z := (nI (A.ed v))) (hA.nm hv).2.2.2.1 ?_
  refine pw_goto (tgt := 18) dX2_editionOf_14 (by decide) ?_
  exact pw_iret dX2_editionOf_18 rfl (k)

set_option maxRecDepth 20000 in
set_option maxHeartbeats 4000000 in
theorem s_has1 {l : Launch} {E : pmE} {d : Nat} {S : pmS} {I : pmI} {J : pmJ} {P : pmP} {Q : Option Value → pmS → pmI → pmJ → pmP → Prop} (hG : sh_St S) (hP : gr_St P) {A : aS} {Z : Nat → Nat} {b s : Nat} (hA : cA S I J P A Z b) (hl : A.sn.length ≤ 40) (hs : s < A.sn.length) (k : Q (some (.int (nI 1))) S I J P) : pm_Met l E yX4_hasSnippet cX4_hasSnippet 2 (some .boolean) d 0 0 [.ref 15, .int (nI s)] S I J P Q := by
  unfold pm_Met
  refine pm_lvs (lv' := [(0, _), (1, _)]) rfl ?_
  refine pw_iload_n dX4_hasSnippet_0 rfl ?_
  refine pw_if_lt (tgt := 25) dX4_hasSnippet_1 (by decide) (fun h => absurd h (nI_pos (by omega))) (fun h1 => ?_)
  refine pw_iload_n dX4_hasSnippet_4 rfl ?_
  refine pw_aload_n dX4_hasSnippet_5 rfl ?_
  refine pw_getI fX4_49 dX4_hasSnippet_6 (sh_lt hG (by decide)) (sh_tg hG 13 rfl) rfl ?_
  refine pw_icmpN_ge _ _ (tgt := 25) dX4_hasSnippet_9 (by decide) (rfl) (hA.k) (by omega) (by omega) (fun h9 => absurd h9 (by omega)) (fun h9 => ?_)
  refine pw_aload_n dX4_hasSnippet_12 rfl ?_
  refine pw_getR fX4_39 dX4_hasSnippet_13 (sh_lt hG (by decide)) (sh_tg hG 13 rfl) rfl (gr_at hP 19 rfl) ?_
  refine pw_iload_n dX4_hasSnippet_16 rfl ?_
  refine pw_aaldN (r := some (Z s + 2)) s dX4_hasSnippet_17 (sh_lt hG (by decide)) (sh_sh hG 31 rfl) (by decide) (by decide) (rfl) (by omega) (hA.sn hs).1 ?_
  refine pw_ifnull dX4_hasSnippet_18 ?_
  refine pw_iconst (v := nI 1) dX4_hasSnippet_21 (by decide) ?_
  refine pw_goto (tgt := 26) dX4_hasSnippet_22 (by decide) ?_
  exact pw_zret dX4_hasSnippet_26 rfl (by decide) (k)

set_option maxRecDepth 20000 in
set_option maxHeartbeats 4000000 in
theorem s_call1 {l : Launch} {E : pmE} {d : Nat} {S : pmS} {I : pmI} {J : pmJ} {P : pmP} {Q : Option Value → pmS → pmI → pmJ → pmP → Prop} {A : aS} {Z : Nat → Nat} {b : Nat} (hG : sh_St S) (hP : gr_St P) (hd : 2 ≤ d) (hA : cA S I J P A Z b) (hl : A.ns.length ≤ 40) {v : Int64} (hv : v ∈ A.ns) (hl4 : A.sn.length ≤ 40) (hc : A.fm v = 2 ∨ A.fm v = 3) {s : Nat} (hs : s < A.sn.length) (hdc : A.dc v = some s) (k : Q (some (.ref (Z s + 2))) S I J P) : pm_Met l E yX4_callable cX4_callable 5 (some (.object "SnippetShell$Snippet")) d 0 0 [.ref 15, .int (nI (A.ns.idxOf v))] S I J P Q := by
  unfold pm_Met
  have hat := ns_at hv
  have hat2 := hat.2
  refine pm_lvs (lv' := [(0, _), (1, _)]) rfl ?_
  refine pw_aload_n dX4_callable_0 rfl ?_
  refine pw_getR fX4_12 dX4_callable_1 (sh_lt hG (by decide)) (sh_tg hG 13 rfl) rfl (gr_at hP 15 rfl) ?_
  refine pw_iload_n dX4_callable_4 rfl ?_
  refine pw_callV (as := [_]) (kc' := 0) (ks' := 0) lX4_75 dX4_callable_5 rfl rfl (sh_lt hG (by decide)) (sh_tg hG 14 rfl) (Nat.le_of_ble_eq_true rfl) (by omega) (Nat.le_of_ble_eq_true rfl) (Nat.zero_le _) (Nat.zero_le _) ?_
  refine n_form hG hP (by omega) hA hl hv ?_
  refine pw_istore_n (lv' := [(2, _), (0, _), (1, _)]) dX4_callable_8 (by decide) rfl ?_
  refine pw_aload_n dX4_callable_9 rfl ?_
  refine pw_getR fX4_12 dX4_callable_10 (sh_lt hG (by decide)) (sh_tg hG 13 rfl) rfl (gr_at hP 15 rfl) ?_
  refine pw_iload_n dX4_callable_13 rfl ?_
  refine pw_callV (as := [_]) (kc' := 0) (ks' := 0) lX4_79 dX4_callable_14 rfl rfl (sh_lt hG (by decide)) (sh_tg hG 14 rfl) (Nat.le_of_ble_eq_true rfl) (by omega) (Nat.le_of_ble_eq_true rfl) (Nat.zero_le _) (Nat.zero_le _) ?_
  refine n_decl hG hP (by omega) hA hl hv ?_
  refine pw_ti (z := nI s) (by rw [hdc]; rfl) ?_
  refine pw_istore_n (lv' := [(3, _), (2, _), (0, _), (1, _)]) dX4_callable_17 (by decide) rfl ?_
  refine pw_iload_n dX4_callable_18 rfl ?_
  refine pw_iconst (v := nI 2) dX4_callable_19 (by decide) ?_
  refine pw_icmpN_eq _ _ (tgt := 28) dX4_callable_20 (by decide) (rfl) (rfl) (by omega) (by omega) (fun h20 => ?_) (fun h20 => ?_)
  · refine pw_iconst (v := nI 1) dX4_callable_28 (by decide) ?_
    refine pw_goto (tgt := 33) dX4_callable_29 (by decide) ?_
    refine pw_istore (lv' := [(4, _), (3, _), (2, _), (0, _), (1, _)]) dX4_callable_33 (by decide) rfl ?_
    refine pw_iload dX4_callable_35 rfl ?_
    refine pw_if_eq (tgt := 57) dX4_callable_37 (by decide) (fun h => absurd h (by decide)) (fun h37 => ?_)
    refine pw_aload_n dX4_callable_40 rfl ?_
    refine pw_iload_n dX4_callable_41 rfl ?_
    refine pw_callV (as := [_]) (kc' := 0) (ks' := 0) lX4_82 dX4_callable_42 rfl rfl (sh_lt hG (by decide)) (sh_tg hG 13 rfl) (Nat.le_of_ble_eq_true rfl) (by omega) (Nat.le_of_ble_eq_true rfl) (Nat.zero_le _) (Nat.zero_le _) ?_
    refine s_has1 hG hP hA hl4 hs ?_
    refine pw_if_eq (tgt := 57) dX4_callable_45 (by decide) (fun h => absurd h (by decide)) (fun h45 => ?_)
    refine pw_aload_n dX4_callable_48 rfl ?_
    refine pw_getR fX4_39 dX4_callable_49 (sh_lt hG (by decide)) (sh_tg hG 13 rfl) rfl (gr_at hP 19 rfl) ?_
    refine pw_iload_n dX4_callable_52 rfl ?_
    refine pw_aaldN (r := some (Z s + 2)) s dX4_callable_53 (sh_lt hG (by decide)) (sh_sh hG 31 rfl) (by decide) (by decide) (rfl) (by omega) (hA.sn hs).1 ?_
    refine pw_goto (tgt := 58) dX4_callable_54 (by decide) ?_
    exact pw_aret (r := some (Z s + 2)) dX4_callable_58 rfl (by first | exact Or.inl ⟨_, rfl⟩ | exact Or.inr ⟨_, rfl⟩) (k)
  · refine pw_iload_n dX4_callable_23 rfl ?_
    refine pw_iconst (v := nI 3) dX4_callable_24 (by decide) ?_
    refine pw_icmpN_ne _ _ (tgt := 32) dX4_callable_25 (by decide) (rfl) (rfl) (by omega) (by omega) (fun h25 => absurd h25 (by omega)) (fun h25 => ?_)
    refine pw_iconst (v := nI 1) dX4_callable_28 (by decide) ?_
    refine pw_goto (tgt := 33) dX4_callable_29 (by decide) ?_
    refine pw_istore (lv' := [(4, _), (3, _), (2, _), (0, _), (1, _)]) dX4_callable_33 (by decide) rfl ?_
    refine pw_iload dX4_callable_35 rfl ?_
    refine pw_if_eq (tgt := 57) dX4_callable_37 (by decide) (fun h => absurd h (by decide)) (fun h37 => ?_)
    refine pw_aload_n dX4_callable_40 rfl ?_
    refine pw_iload_n dX4_callable_41 rfl ?_
    refine pw_callV (as := [_]) (kc' := 0) (ks' := 0) lX4_82 dX4_callable_42 rfl rfl (sh_lt hG (by decide)) (sh_tg hG 13 rfl) (Nat.le_of_ble_eq_true rfl) (by omega) (Nat.le_of_ble_eq_true rfl) (Nat.zero_le _) (Nat.zero_le _) ?_
    refine s_has1 hG hP hA hl4 hs ?_
    refine pw_if_eq (tgt := 57) dX4_callable_45 (by decide) (fun h => absurd h (by decide)) (fun h45 => ?_)
    refine pw_aload_n dX4_callable_48 rfl ?_
    refine pw_getR fX4_39 dX4_callable_49 (sh_lt hG (by decide)) (sh_tg hG 13 rfl) rfl (gr_at hP 19 rfl) ?_
    refine pw_iload_n dX4_callable_52 rfl ?_
    refine pw_aaldN (r := some (Z s + 2)) s dX4_callable_53 (sh_lt hG (by decide)) (sh_sh hG 31 rfl) (by decide) (by decide) (rfl) (by omega) (hA.sn hs).1 ?_
    refine pw_goto (tgt := 58) dX4_callable_54 (by decide) ?_
    exact pw_aret (r := some (Z s + 2)) dX4_callable_58 rfl (by first | exact Or.inl ⟨_, rfl⟩ | exact Or.inr ⟨_, rfl⟩) (k)

set_option maxRecDepth 20000 in
set_option maxHeartbeats 4000000 in
theorem s_call0 {l : Launch} {E : pmE} {d : Nat} {S : pmS} {I : pmI} {J : pmJ} {P : pmP} {Q : Option Value → pmS → pmI → pmJ → pmP → Prop} {A : aS} {Z : Nat → Nat} {b : Nat} (hG : sh_St S) (hP : gr_St P) (hd : 2 ≤ d) (hA : cA S I J P A Z b) (hl : A.ns.length ≤ 40) {v : Int64} (hv : v ∈ A.ns) (hf : A.fm v ≤ 3) (hc : ¬ (A.fm v = 2 ∨ A.fm v = 3)) (k : Q (some .null) S I J P) : pm_Met l E yX4_callable cX4_callable 5 (some (.object "SnippetShell$Snippet")) d 0 0 [.ref 15, .int (nI (A.ns.idxOf v))] S I J P Q := by
  unfold pm_Met
  have hat := ns_at hv
  have hat2 := hat.2
  refine pm_lvs (lv' := [(0, _), (1, _)]) rfl ?_
  refine pw_aload_n dX4_callable_0 rfl ?_
  refine pw_getR fX4_12 dX4_callable_1 (sh_lt hG (by decide)) (sh_tg hG 13 rfl) rfl (gr_at hP 15 rfl) ?_
  refine pw_iload_n dX4_callable_4 rfl ?_
  refine pw_callV (as := [_]) (kc' := 0) (ks' := 0) lX4_75 dX4_callable_5 rfl rfl (sh_lt hG (by decide)) (sh_tg hG 14 rfl) (Nat.le_of_ble_eq_true rfl) (by omega) (Nat.le_of_ble_eq_true rfl) (Nat.zero_le _) (Nat.zero_le _) ?_
  refine n_form hG hP (by omega) hA hl hv ?_
  refine pw_istore_n (lv' := [(2, _), (0, _), (1, _)]) dX4_callable_8 (by decide) rfl ?_
  refine pw_aload_n dX4_callable_9 rfl ?_
  refine pw_getR fX4_12 dX4_callable_10 (sh_lt hG (by decide)) (sh_tg hG 13 rfl) rfl (gr_at hP 15 rfl) ?_
  refine pw_iload_n dX4_callable_13 rfl ?_
  refine pw_callV (as := [_]) (kc' := 0) (ks' := 0) lX4_79 dX4_callable_14 rfl rfl (sh_lt hG (by decide)) (sh_tg hG 14 rfl) (Nat.le_of_ble_eq_true rfl) (by omega) (Nat.le_of_ble_eq_true rfl) (Nat.zero_le _) (Nat.zero_le _) ?_
  refine n_decl hG hP (by omega) hA hl hv ?_
  refine pw_istore_n (lv' := [(3, _), (2, _), (0, _), (1, _)]) dX4_callable_17 (by decide) rfl ?_
  refine pw_iload_n dX4_callable_18 rfl ?_
  refine pw_iconst (v := nI 2) dX4_callable_19 (by decide) ?_
  refine pw_icmpN_eq _ _ (tgt := 28) dX4_callable_20 (by decide) (rfl) (rfl) (by omega) (by omega) (fun h20 => absurd h20 (by omega)) (fun h20 => ?_)
  refine pw_iload_n dX4_callable_23 rfl ?_
  refine pw_iconst (v := nI 3) dX4_callable_24 (by decide) ?_
  refine pw_icmpN_ne _ _ (tgt := 32) dX4_callable_25 (by decide) (rfl) (rfl) (by omega) (by omega) (fun h25 => ?_) (fun h25 => absurd h25 (by omega))
  refine pw_iconst (v := nI 0) dX4_callable_32 (by decide) ?_
  refine pw_istore (lv' := [(4, _), (3, _), (2, _), (0, _), (1, _)]) dX4_callable_33 (by decide) rfl ?_
  refine pw_iload dX4_callable_35 rfl ?_
  refine pw_if_eq (tgt := 57) dX4_callable_37 (by decide) (fun h37 => ?_) (fun h => absurd (by decide) h)
  refine pw_null dX4_callable_57 ?_
  exact pw_aret (r := none) dX4_callable_58 rfl (by first | exact Or.inl ⟨_, rfl⟩ | exact Or.inr ⟨_, rfl⟩) (k)

set_option maxRecDepth 20000 in
set_option maxHeartbeats 4000000 in
theorem p_form {l : Launch} {E : pmE} {d : Nat} {S : pmS} {I : pmI} {J : pmJ} {P : pmP} {Q : Option Value → pmS → pmI → pmJ → pmP → Prop} {ns : List Int64} {z : Nat} {x : sN} (hS : snC S I J P ns z x) (k : Q (some (.int (nI x.form))) S I J P) : pm_Met l E yX5_form cX5_form 1 (some .int) d 0 0 [.ref (z + 2)] S I J P Q := by
  unfold pm_Met
  refine pm_lvs (lv' := [(0, _)]) rfl ?_
  refine pw_aload_n dX5_form_0 rfl ?_
  refine pw_getI fX5_9 dX5_form_1 (by have := hS.1.2; omega) hS.tg rfl ?_
  refine pw_ti (z := nI x.form) hS.fm ?_
  exact pw_iret dX5_form_4 rfl (k)

set_option maxRecDepth 20000 in
set_option maxHeartbeats 4000000 in
theorem p_size {l : Launch} {E : pmE} {d : Nat} {S : pmS} {I : pmI} {J : pmJ} {P : pmP} {Q : Option Value → pmS → pmI → pmJ → pmP → Prop} {ns : List Int64} {z : Nat} {x : sN} (hS : snC S I J P ns z x) (k : Q (some (.int (nI x.pa.length))) S I J P) : pm_Met l E yX5_size cX5_size 1 (some .int) d 0 0 [.ref (z + 2)] S I J P Q := by
  unfold pm_Met
  refine pm_lvs (lv' := [(0, _)]) rfl ?_
  refine pw_aload_n dX5_size_0 rfl ?_
  refine pw_getR fX5_18 dX5_size_1 (by have := hS.1.2; omega) hS.tg rfl hS.p2 ?_
  refine pw_alen dX5_size_4 (by have := hS.1.2; omega) hS.a1 (by decide) (by decide) ?_
  exact pw_iret dX5_size_5 rfl (k)

set_option maxRecDepth 20000 in
set_option maxHeartbeats 4000000 in
theorem p_code {l : Launch} {E : pmE} {d : Nat} {S : pmS} {I : pmI} {J : pmJ} {P : pmP} {Q : Option Value → pmS → pmI → pmJ → pmP → Prop} {ns : List Int64} {z : Nat} {x : sN} (hS : snC S I J P ns z x) (k : Q (some (.ref (z + 3))) S I J P) : pm_Met l E yX5_code cX5_code 1 (some (.object "SnippetShell$Code")) d 0 0 [.ref (z + 2)] S I J P Q := by
  unfold pm_Met
  obtain ⟨rm, L9, hkS, -⟩ := hS.cd
  refine pm_lvs (lv' := [(0, _)]) rfl ?_
  refine pw_aload_n dX5_code_0 rfl ?_
  refine pw_getR fX5_26 dX5_code_1 (by have := hS.1.2; omega) hS.tg rfl hS.p4 ?_
  exact pw_aret (r := some (z + 3)) dX5_code_4 rfl (by first | exact Or.inl ⟨_, rfl⟩ | exact Or.inr ⟨_, rfl⟩) (k)

theorem eq_ix {ns : List Int64} {v u : Int64} (hv : v ∈ ns) (hu : u ∈ ns) (hl : ns.length ≤ 40) : (nI (ns.idxOf v)).toInt64 = lN (ns.idxOf u) ↔ v = u := by
  have h1 := ns_at hv
  have h2 := ns_at hu
  rw [nI_l (by omega), lN_eq (by omega) (by omega)]
  constructor
  · intro h
    have h3 := h1.1
    rw [h, h2.1] at h3
    exact (Option.some.inj h3).symm
  · intro h; rw [h]
set_option maxRecDepth 20000 in
set_option maxHeartbeats 4000000 in
theorem p_part_lp {l : Launch} {E : pmE} {d : Nat} {S : pmS} {I : pmI} {J : pmJ} {P : pmP} {Q : Option Value → pmS → pmI → pmJ → pmP → Prop} {ns : List Int64} {z : Nat} {x : sN} (hS : snC S I J P ns z x) (hl : ns.length ≤ 40) (hl3 : x.pa.length ≤ 3) (hm : ∀ v ∈ x.pa, v ∈ ns) {u : Int64} (hu : u ∈ ns) (k1 : ∀ j, ps_arg x.pa u 0 = some j → Q (some (.int (nI j))) S I J P) (k0 : ps_arg x.pa u 0 = none → Q (some (.int (-5))) S I J P) : ∀ (n j : Nat), j + n = x.pa.length → ps_arg x.pa u 0 = ps_arg (x.pa.drop j) u j → pm_W l E yX5_partOf cX5_partOf 4 (some .int) d 0 0 2 [(3, .int (nI j)), (0, .ref (z + 2)), (1, .long (lN (ns.idxOf u)))] [] S I J P (pm_N E Q)
  | 0, j, hj, hp => by
    refine pw_iload_n dX5_partOf_2 rfl ?_
    refine pw_aload_n dX5_partOf_3 rfl ?_
    refine pw_getR fX5_18 dX5_partOf_4 (by have := hS.1.2; omega) hS.tg rfl hS.p2 ?_
    refine pw_alen dX5_partOf_7 (by have := hS.1.2; omega) hS.a1 (by decide) (by decide) ?_
    refine pw_icmpN_ge _ _ (tgt := 31) dX5_partOf_8 (by decide) (rfl) (rfl) (by omega) (by omega) (fun h8 => ?_) (fun h8 => absurd h8 (by omega))
    refine pw_bipush (v := -5) dX5_partOf_31 (by decide) ?_
    exact pw_iret dX5_partOf_33 rfl (k0 (by rw [hp, List.drop_eq_nil_of_le (by omega)]; rfl))
  | n + 1, j, hj, hp => by
    have hjl : j < x.pa.length := by omega
    obtain ⟨y, hy⟩ : ∃ y, x.pa[j]? = some y := ⟨_, List.getElem?_eq_getElem hjl⟩
    have hyn : y ∈ ns := hm y (List.mem_of_getElem? hy)
    have hdr : x.pa.drop j = y :: x.pa.drop (j + 1) := by
      rw [List.drop_eq_getElem_cons hjl]; rw [List.getElem?_eq_getElem hjl] at hy; rw [Option.some.inj hy]
    refine pw_iload_n dX5_partOf_2 rfl ?_
    refine pw_aload_n dX5_partOf_3 rfl ?_
    refine pw_getR fX5_18 dX5_partOf_4 (by have := hS.1.2; omega) hS.tg rfl hS.p2 ?_
    refine pw_alen dX5_partOf_7 (by have := hS.1.2; omega) hS.a1 (by decide) (by decide) ?_
    refine pw_icmpN_ge _ _ (tgt := 31) dX5_partOf_8 (by decide) (rfl) (rfl) (by omega) (by omega) (fun h8 => absurd h8 (by omega)) (fun h8 => ?_)
    refine pw_aload_n dX5_partOf_11 rfl ?_
    refine pw_getR fX5_18 dX5_partOf_12 (by have := hS.1.2; omega) hS.tg rfl hS.p2 ?_
    refine pw_iload_n dX5_partOf_15 rfl ?_
    refine pw_ialdN j dX5_partOf_16 (by have := hS.1.2; omega) hS.a1 (by omega) (rfl) (by omega) ?_
    refine pw_ti (z := nI (ns.idxOf y)) (hS.pa' hy) ?_
    refine pw_i2l dX5_partOf_17 ?_
    refine pw_lload_n dX5_partOf_18 rfl ?_
    refine pw_lif_ne (tgt := 25) dX5_partOf_19 dX5_partOf_20 (by decide) (fun h20 => ?_) (fun h20 => ?_)
    · have hyu : ¬ y = u := fun e => h20 ((eq_ix hyn hu hl).mpr e)
      refine pw_iinc (lv' := [(3, _), (0, _), (1, _)]) dX5_partOf_25 rfl (by decide) rfl ?_
      refine pw_goto (tgt := 2) dX5_partOf_28 (by decide) ?_
      refine pm_lvs (lv' := [(3, .int (nI (j + 1))), (0, _), (1, _)]) (by rw [show nI j + Int32.ofInt 1 = nI (j + 1) from nI_add j 1]) ?_
      exact p_part_lp hS hl hl3 hm hu k1 k0 n (j + 1) (by omega) (by rw [hp, hdr]; exact if_neg hyu)
    · have hyu := (eq_ix hyn hu hl).mp h20
      have hp1 : ps_arg x.pa u 0 = some j := by rw [hp, hdr]; exact if_pos hyu
      refine pw_iload_n dX5_partOf_23 rfl ?_
      exact pw_iret dX5_partOf_24 rfl (k1 j hp1)
set_option maxRecDepth 20000 in
set_option maxHeartbeats 4000000 in
theorem p_part {l : Launch} {E : pmE} {d : Nat} {S : pmS} {I : pmI} {J : pmJ} {P : pmP} {Q : Option Value → pmS → pmI → pmJ → pmP → Prop} {ns : List Int64} {z : Nat} {x : sN} (hS : snC S I J P ns z x) (hl : ns.length ≤ 40) (hl3 : x.pa.length ≤ 3) (hm : ∀ v ∈ x.pa, v ∈ ns) {u : Int64} (hu : u ∈ ns) (k1 : ∀ j, ps_arg x.pa u 0 = some j → Q (some (.int (nI j))) S I J P) (k0 : ps_arg x.pa u 0 = none → Q (some (.int (-5))) S I J P) : pm_Met l E yX5_partOf cX5_partOf 4 (some .int) d 0 0 [.ref (z + 2), .long (lN (ns.idxOf u))] S I J P Q := by
  unfold pm_Met
  refine pm_lvs (lv' := [(0, _), (1, _)]) rfl ?_
  refine pw_iconst (v := nI 0) dX5_partOf_0 (by decide) ?_
  refine pw_istore_n (lv' := [(3, _), (0, _), (1, _)]) dX5_partOf_1 (by decide) rfl ?_
  exact p_part_lp hS hl hl3 hm hu k1 k0 x.pa.length 0 (Nat.zero_add _) rfl

