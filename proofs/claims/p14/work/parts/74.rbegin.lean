section RSE
variable {I0 : pmI} {J0 : pmJ} {A : aS} {I : pmI} {J : pmJ} {fr : List (Nat × Nat)} {hv : List vV} {cx : List (Nat × List vV)} {s : Nat} {t : List tH}
theorem rS.e (h : rS I0 J0 A I J fr hv cx s t) {a : Nat} (h1 : 49 ≤ a) (h2 : a ≤ 72) : I a = I0 a ∧ J a = J0 a := h.f.1 a (by omega) (by omega) (by omega)
theorem rS.a (h : rS I0 J0 A I J fr hv cx s t) (hA : rA I0 J0 A) : rA I J A := hA.mv h.f
theorem rS.nod (h : rS I0 J0 A I J fr hv cx s t) {a N : Nat} {x : Int32} (hx : I0 a N = x) (h1 : 49 ≤ a) (h2 : a ≤ 72) : I a N = x := by rw [(h.e h1 h2).1]; exact hx
theorem rS.nov (h : rS I0 J0 A I J fr hv cx s t) {N : Nat} {x : Int64} (hx : J0 70 N = x) : J 70 N = x := by rw [(h.e (a := 70) (by decide) (by decide)).2]; exact hx
end RSE
/-- the context of an EXPR: none, or a MEMBER's ARGUMENTS -/
def rctx (A : aS) (cx : List (Nat × List vV)) (pa : List Int64) (ar : List vV) : Prop := (cx = [] ∧ pa = [] ∧ ar = []) ∨ ∃ cx' sc, cx = cx' ++ [(sc, ar)] ∧ sc < A.sn.length ∧ pa = (A.at sc).pa ∧ ar.length = pa.length
set_option maxRecDepth 20000 in
set_option maxHeartbeats 4000000 in
theorem r_nam_v {l : Launch} {E : pmE} {d : Nat} {S : pmS} {I : pmI} {J : pmJ} {P : pmP} {Q : Option Value → pmS → pmI → pmJ → pmP → Prop} {I0 : pmI} {J0 : pmJ} {A : aS} {fr : List (Nat × Nat)} {hv : List vV} {cx : List (Nat × List vV)} {s : Nat} {t : List tH} {N : Nat} (hG : sh_St S) (hP : gr_St P) (h : rS I0 J0 A I J (fr ++ [(N, 1)]) hv cx s t) (hd : 1 ≤ d) (hA : rA I0 J0 A) (hO : aO A) {v : Int64} (hv9 : v ∈ A.ns) (hNb : N < 2624) (ht : t.length ≤ 16000) (hl : hv.length < 899) {x3 : Int32} (kV : A.fm v = 1 → ∀ I' J', rS I0 J0 A I' J' fr (hv ++ [A.va v]) cx s t → Q none S I' J' P) (kF : ¬ A.fm v = 1 → ∀ I', rX I0 J0 A I' J 1 → Q none S I' J P) : pm_W l E yX10_named cX10_named 4 none d 0 0 71 [(3, .int x3), (2, (.int (nI (A.ns.idxOf v)))), (0, .ref 47), (1, .int (nI N))] [] S I J P (pm_N E Q) := by
  have hA2 := h.a hA
  have hat2 := (ns_at hv9).2
  have hn4 := hO.1.2
  have hf3 := fm_le hO v
  have hnm := hA2.nm hv9
  refine pw_aload_n dX10_named_71 rfl ?_
  refine pw_getR fX10_17 dX10_named_72 (sh_lt hG (by decide)) (sh_tg hG 45 rfl) rfl (gr_at hP 42 rfl) ?_
  refine pw_iload_n dX10_named_75 rfl ?_
  refine pw_ialdN (A.ns.idxOf v) dX10_named_76 (sh_lt hG (by decide)) (sh_sh hG 48 rfl) (by decide) (rfl) (by omega) ?_
  refine pw_ti (z := nI (A.fm v)) hnm.2.1 ?_
  refine pw_iconst (v := nI 1) dX10_named_77 (by decide) ?_
  refine pw_icmpN_ne _ _ (tgt := 100) dX10_named_78 (by decide) (rfl) (rfl) (by omega) (by omega) (fun h78 => ?_) (fun h78 => ?_)
  · refine pw_aload_n dX10_named_100 rfl ?_
    refine pw_iconst (v := nI 1) dX10_named_101 (by decide) ?_
    refine pw_iload_n dX10_named_102 rfl ?_
    refine pw_callV (as := [_, _]) (kc' := 0) (ks' := 0) lX10_299 dX10_named_103 rfl rfl (sh_lt hG (by decide)) (sh_tg hG 45 rfl) (Nat.le_of_ble_eq_true rfl) (by omega) (Nat.le_of_ble_eq_true rfl) (Nat.zero_le _) (Nat.zero_le _) ?_
    refine r_fail hG hP h (e := 1) hNb ht (fun I3 h3 => ?_)
    refine pw_aload_n dX10_named_106 rfl ?_
    refine pw_dup dX10_named_107 rfl ?_
    refine pw_getI fX10_282 dX10_named_108 (sh_lt hG (by decide)) (sh_tg hG 45 rfl) rfl ?_
    refine pw_iconst (v := nI 1) dX10_named_111 (by decide) ?_
    refine pw_isub dX10_named_112 ?_
    refine pw_putI fX10_282 dX10_named_113 (Or.inl rfl) (by decide) (sh_lt hG (by decide)) (sh_tg hG 45 rfl) rfl ?_
    exact pw_vret dX10_named_116 rfl (kF h78 _ (h3.mv (by decide)))
  · refine pw_aload_n dX10_named_81 rfl ?_
    refine pw_aload_n dX10_named_82 rfl ?_
    refine pw_getR fX10_26 dX10_named_83 (sh_lt hG (by decide)) (sh_tg hG 45 rfl) rfl (gr_at hP 45 rfl) ?_
    refine pw_iload_n dX10_named_86 rfl ?_
    refine pw_ialdN (A.ns.idxOf v) dX10_named_87 (sh_lt hG (by decide)) (sh_sh hG 51 rfl) (by decide) (rfl) (by omega) ?_
    refine pw_ti (z := nI (A.va v).1) (hnm.2.2.2.2 h78).1 ?_
    refine pw_aload_n dX10_named_88 rfl ?_
    refine pw_getR fX10_29 dX10_named_89 (sh_lt hG (by decide)) (sh_tg hG 45 rfl) rfl (gr_at hP 46 rfl) ?_
    refine pw_iload_n dX10_named_92 rfl ?_
    refine pw_laldN (A.ns.idxOf v) dX10_named_93 (sh_lt hG (by decide)) (sh_sh hG 52 rfl) (by decide) (rfl) (by omega) ?_
    refine pw_tj (z := (A.va v).2) (hnm.2.2.2.2 h78).2 ?_
    refine pw_callV (as := [_, _]) (kc' := 0) (ks' := 0) lX10_295 dX10_named_94 rfl rfl (sh_lt hG (by decide)) (sh_tg hG 45 rfl) (Nat.le_of_ble_eq_true rfl) (by omega) (Nat.le_of_ble_eq_true rfl) (Nat.zero_le _) (Nat.zero_le _) ?_
    refine r_put hG hP h (v := A.va v) hl (fun I3 J3 h3 => ?_)
    refine pw_goto (tgt := 106) dX10_named_97 (by decide) ?_
    refine pw_aload_n dX10_named_106 rfl ?_
    refine pw_dup dX10_named_107 rfl ?_
    refine pw_getI fX10_282 dX10_named_108 (sh_lt hG (by decide)) (sh_tg hG 45 rfl) rfl ?_
    refine pw_iconst (v := nI 1) dX10_named_111 (by decide) ?_
    refine pw_isub dX10_named_112 ?_
    refine pw_ti (z := nI fr.length) h3.top.1 ?_
    refine pw_putI fX10_282 dX10_named_113 (Or.inl rfl) (by decide) (sh_lt hG (by decide)) (sh_tg hG 45 rfl) rfl ?_
    exact pw_vret dX10_named_116 rfl (kV h78 _ _ h3.pop)
set_option maxRecDepth 20000 in
set_option maxHeartbeats 4000000 in
theorem r_named {l : Launch} {E : pmE} {d : Nat} {S : pmS} {I : pmI} {J : pmJ} {P : pmP} {Q : Option Value → pmS → pmI → pmJ → pmP → Prop} {I0 : pmI} {J0 : pmJ} {A : aS} {fr : List (Nat × Nat)} {hv : List vV} {cx : List (Nat × List vV)} {s : Nat} {t : List tH} {N : Nat} {pa : List Int64} {ar : List vV} (hG : sh_St S) (hP : gr_St P) (h : rS I0 J0 A I J (fr ++ [(N, 1)]) hv cx s t) (hd : 1 ≤ d) (hA : rA I0 J0 A) (hO : aO A) (hc : rctx A cx pa ar) {v : Int64} (hv9 : v ∈ A.ns) (hNb : N < 2624) (ht : t.length ≤ 16000) (hl : hv.length < 899) (hv70 : J0 70 N = hN A.ns v) (kA : ∀ (j : Nat) (u : vV), ps_arg pa v 0 = some j → ar[j]? = some u → ∀ I' J', rS I0 J0 A I' J' fr (hv ++ [u]) cx s t → Q none S I' J' P) (kV : ps_arg pa v 0 = none → A.fm v = 1 → ∀ I' J', rS I0 J0 A I' J' fr (hv ++ [A.va v]) cx s t → Q none S I' J' P) (kF : ps_arg pa v 0 = none → ¬ A.fm v = 1 → ∀ I', rX I0 J0 A I' J 1 → Q none S I' J P) : pm_Met l E yX10_named cX10_named 4 none d 0 0 [.ref 47, .int (nI N)] S I J P Q := by
  unfold pm_Met
  have hA2 := h.a hA
  have hat2 := (ns_at hv9).2
  have hn4 := hO.1.2
  have hf3 := fm_le hO v
  have hnm := hA2.nm hv9
  have hk4 := hO.k
  refine pm_lvs (lv' := [(0, _), (1, _)]) rfl ?_
  refine pw_aload_n dX10_named_0 rfl ?_
  refine pw_getR fX10_77 dX10_named_1 (sh_lt hG (by decide)) (sh_tg hG 45 rfl) rfl (gr_at hP 62 rfl) ?_
  refine pw_iload_n dX10_named_4 rfl ?_
  refine pw_laldN N dX10_named_5 (sh_lt hG (by decide)) (sh_sh hG 68 rfl) (by decide) (rfl) (by omega) ?_
  refine pw_tj (z := hN A.ns v) (h.nov hv70) ?_
  refine pw_l2i dX10_named_6 ?_
  refine pw_ti (z := nI (A.ns.idxOf v)) (lN_i _) ?_
  refine pw_istore_n (lv' := [(2, _), (0, _), (1, _)]) dX10_named_7 (by decide) rfl ?_
  rcases hc with ⟨rfl, rfl, rfl⟩ | ⟨cx', sc, rfl, g1, rfl, g2⟩
  · refine pw_aload_n dX10_named_8 rfl ?_
    refine pw_getI fX10_288 dX10_named_9 (sh_lt hG (by decide)) (sh_tg hG 45 rfl) rfl ?_
    refine pw_ifN_le _ (tgt := 32) dX10_named_12 (by decide) (show I 47 55 = nI 0 from h.dp) (by omega) (fun h12 => ?_) (fun h12 => absurd h12 (by omega))
    refine pw_iconst (v := -1) dX10_named_32 (by decide) ?_
    refine pw_istore_n (lv' := [(3, _), (2, _), (0, _), (1, _)]) dX10_named_33 (by decide) rfl ?_
    refine pw_iload_n dX10_named_34 rfl ?_
    refine pw_if_lt (tgt := 71) dX10_named_35 (by decide) (fun h35 => ?_) (fun h => absurd (by decide) h)
    exact r_nam_v hG hP h hd hA hO hv9 hNb ht hl (kV rfl) (kF rfl)
  · have hdp : I 47 55 = nI (cx'.length + 1) := by rw [h.dp, List.length_append]; rfl
    have hcl := h.lm.2.2.1
    rw [List.length_append, List.length_singleton] at hcl
    have hcx := h.ct cx'.length (sc, ar) (by rw [List.getElem?_append_right (Nat.le_refl _), Nat.sub_self]; rfl)
    refine pw_aload_n dX10_named_8 rfl ?_
    refine pw_getI fX10_288 dX10_named_9 (sh_lt hG (by decide)) (sh_tg hG 45 rfl) rfl ?_
    refine pw_ifN_le _ (tgt := 32) dX10_named_12 (by decide) (hdp) (by omega) (fun h12 => absurd h12 (by omega)) (fun h12 => ?_)
    refine pw_aload_n dX10_named_15 rfl ?_
    refine pw_aload_n dX10_named_16 rfl ?_
    refine pw_getR fX10_129 dX10_named_17 (sh_lt hG (by decide)) (sh_tg hG 45 rfl) rfl (gr_at hP 79 rfl) ?_
    refine pw_aload_n dX10_named_20 rfl ?_
    refine pw_getI fX10_288 dX10_named_21 (sh_lt hG (by decide)) (sh_tg hG 45 rfl) rfl ?_
    refine pw_ialdN (cx'.length + 1) dX10_named_24 (sh_lt hG (by decide)) (sh_sh hG 85 rfl) (by decide) (hdp) (by omega) ?_
    refine pw_ti (z := nI sc) hcx.1 ?_
    refine pw_iload_n dX10_named_25 rfl ?_
    refine pw_callV (as := [_, _]) (kc' := 0) (ks' := 0) lX10_291 dX10_named_26 rfl rfl (sh_lt hG (by decide)) (sh_tg hG 45 rfl) (Nat.le_of_ble_eq_true rfl) (by omega) (Nat.le_of_ble_eq_true rfl) (Nat.zero_le _) (Nat.zero_le _) ?_
    refine r_arg hG hP hA2 hO g1 hv9 (fun j hj => ?_) (fun hj => ?_)
    · have hjl := (ps_arg_lt hj).2.1
      obtain ⟨u, hu⟩ : ∃ u, ar[j]? = some u := ⟨_, List.getElem?_eq_getElem (by omega)⟩
      have hau := hcx.2.2 j u hu
      have hl3 : ar.length ≤ 3 := hcx.2.1
      refine pw_goto (tgt := 33) dX10_named_29 (by decide) ?_
      refine pw_istore_n (lv' := [(3, _), (2, _), (0, _), (1, _)]) dX10_named_33 (by decide) rfl ?_
      refine pw_iload_n dX10_named_34 rfl ?_
      refine pw_if_lt (tgt := 71) dX10_named_35 (by decide) (fun h => absurd h (nI_pos (by omega))) (fun h35 => ?_)
      refine pw_aload_n dX10_named_38 rfl ?_
      refine pw_aload_n dX10_named_39 rfl ?_
      refine pw_getR fX10_132 dX10_named_40 (sh_lt hG (by decide)) (sh_tg hG 45 rfl) rfl (gr_at hP 80 rfl) ?_
      refine pw_iconst (v := nI 3) dX10_named_43 (by decide) ?_
      refine pw_aload_n dX10_named_44 rfl ?_
      refine pw_getI fX10_288 dX10_named_45 (sh_lt hG (by decide)) (sh_tg hG 45 rfl) rfl ?_
      refine pw_imul dX10_named_48 ?_
      refine pw_iload_n dX10_named_49 rfl ?_
      refine pw_iadd dX10_named_50 ?_
      refine pw_ti (z := nI (3 * (cx'.length + 1) + j)) (by rw [hdp, show nI 3 * nI (cx'.length + 1) = nI (3 * (cx'.length + 1)) from (Int32.ofNat_mul 3 _).symm, nI_add]) ?_
      refine pw_ialdN (3 * (cx'.length + 1) + j) dX10_named_51 (sh_lt hG (by decide)) (sh_sh hG 86 rfl) (by decide) (rfl) (by omega) ?_
      refine pw_ti (z := nI u.1) hau.1 ?_
      refine pw_aload_n dX10_named_52 rfl ?_
      refine pw_getR fX10_135 dX10_named_53 (sh_lt hG (by decide)) (sh_tg hG 45 rfl) rfl (gr_at hP 81 rfl) ?_
      refine pw_iconst (v := nI 3) dX10_named_56 (by decide) ?_
      refine pw_aload_n dX10_named_57 rfl ?_
      refine pw_getI fX10_288 dX10_named_58 (sh_lt hG (by decide)) (sh_tg hG 45 rfl) rfl ?_
      refine pw_imul dX10_named_61 ?_
      refine pw_iload_n dX10_named_62 rfl ?_
      refine pw_iadd dX10_named_63 ?_
      refine pw_ti (z := nI (3 * (cx'.length + 1) + j)) (by rw [hdp, show nI 3 * nI (cx'.length + 1) = nI (3 * (cx'.length + 1)) from (Int32.ofNat_mul 3 _).symm, nI_add]) ?_
      refine pw_laldN (3 * (cx'.length + 1) + j) dX10_named_64 (sh_lt hG (by decide)) (sh_sh hG 87 rfl) (by decide) (rfl) (by omega) ?_
      refine pw_tj (z := u.2) hau.2 ?_
      refine pw_callV (as := [_, _]) (kc' := 0) (ks' := 0) lX10_295 dX10_named_65 rfl rfl (sh_lt hG (by decide)) (sh_tg hG 45 rfl) (Nat.le_of_ble_eq_true rfl) (by omega) (Nat.le_of_ble_eq_true rfl) (Nat.zero_le _) (Nat.zero_le _) ?_
      refine r_put hG hP h (v := u) hl (fun I3 J3 h3 => ?_)
      refine pw_goto (tgt := 106) dX10_named_68 (by decide) ?_
      refine pw_aload_n dX10_named_106 rfl ?_
      refine pw_dup dX10_named_107 rfl ?_
      refine pw_getI fX10_282 dX10_named_108 (sh_lt hG (by decide)) (sh_tg hG 45 rfl) rfl ?_
      refine pw_iconst (v := nI 1) dX10_named_111 (by decide) ?_
      refine pw_isub dX10_named_112 ?_
      refine pw_ti (z := nI fr.length) h3.top.1 ?_
      refine pw_putI fX10_282 dX10_named_113 (Or.inl rfl) (by decide) (sh_lt hG (by decide)) (sh_tg hG 45 rfl) rfl ?_
      exact pw_vret dX10_named_116 rfl (kA j u hj hu _ _ h3.pop)
    · refine pw_goto (tgt := 33) dX10_named_29 (by decide) ?_
      refine pw_istore_n (lv' := [(3, _), (2, _), (0, _), (1, _)]) dX10_named_33 (by decide) rfl ?_
      refine pw_iload_n dX10_named_34 rfl ?_
      refine pw_if_lt (tgt := 71) dX10_named_35 (by decide) (fun h35 => ?_) (fun h => absurd (by decide) h)
      exact r_nam_v hG hP h hd hA hO hv9 hNb ht hl (kV hj) (kF hj)
set_option maxRecDepth 20000 in
set_option maxHeartbeats 4000000 in
theorem r_begin {l : Launch} {E : pmE} {d : Nat} {S : pmS} {I : pmI} {J : pmJ} {P : pmP} {Q : Option Value → pmS → pmI → pmJ → pmP → Prop} {I0 : pmI} {J0 : pmJ} {A : aS} {fr : List (Nat × Nat)} {hv : List vV} {cx : List (Nat × List vV)} {s : Nat} {t : List tH} {N : Nat} (hG : sh_St S) (hP : gr_St P) (h : rS I0 J0 A I J (fr ++ [(N, 0)]) hv cx s t) (hd : 1 ≤ d) (hNb : N < 2624) (ht : t.length ≤ 16000) (k0 : 400 ≤ s → ∀ I', rX I0 J0 A I' J 8 → Q none S I' J P) (k : s < 400 → ∀ I', rS I0 J0 A I' J (fr ++ [(N, 1)]) hv cx (s + 1) t → pm_W l E yX10_begins cX10_begins 4 none d 0 0 40 [(0, .ref 47), (1, .int (nI N))] [] S I' J P (pm_N E Q)) : pm_Met l E yX10_begins cX10_begins 4 none d 0 0 [.ref 47, .int (nI N)] S I J P Q := by
  unfold pm_Met
  have hs4 := h.lm.2.2.2
  refine pm_lvs (lv' := [(0, _), (1, _)]) rfl ?_
  refine pw_aload_n dX10_begins_0 rfl ?_
  refine pw_getI fX10_302 dX10_begins_1 (sh_lt hG (by decide)) (sh_tg hG 45 rfl) rfl ?_
  refine pw_sipush (v := nI 400) dX10_begins_4 (by decide) ?_
  refine pw_icmpN_ne _ _ (tgt := 18) dX10_begins_7 (by decide) (h.st) (rfl) (by omega) (by omega) (fun h7 => ?_) (fun h7 => ?_)
  · refine pw_aload_n dX10_begins_18 rfl ?_
    refine pw_dup dX10_begins_19 rfl ?_
    refine pw_getI fX10_302 dX10_begins_20 (sh_lt hG (by decide)) (sh_tg hG 45 rfl) rfl ?_
    refine pw_iconst (v := nI 1) dX10_begins_23 (by decide) ?_
    refine pw_iadd dX10_begins_24 ?_
    refine pw_ti (z := nI (s + 1)) (by rw [h.st]; exact nI_add _ 1) ?_
    refine pw_putI fX10_302 dX10_begins_25 (Or.inl rfl) (by decide) (sh_lt hG (by decide)) (sh_tg hG 45 rfl) rfl ?_
    refine pw_aload_n dX10_begins_28 rfl ?_
    refine pw_getR fX10_141 dX10_begins_29 (sh_lt hG (by decide)) (sh_tg hG 45 rfl) rfl (gr_at hP 83 rfl) ?_
    refine pw_aload_n dX10_begins_32 rfl ?_
    refine pw_getI fX10_282 dX10_begins_33 (sh_lt hG (by decide)) (sh_tg hG 45 rfl) rfl ?_
    refine pw_iconst (v := nI 1) dX10_begins_36 (by decide) ?_
    refine pw_isub dX10_begins_37 ?_
    have h1 := h.step (by omega)
    refine pw_ti (z := nI fr.length) h1.top.1 ?_
    have htp := h1.top.2.2.2
    refine pw_iconst (v := nI 1) dX10_begins_38 (by decide) ?_
    refine pw_iastN fr.length dX10_begins_39 (by decide) (sh_lt hG (by decide)) (sh_sh hG 89 rfl) (by decide) (rfl) (by omega) ?_
    exact k (by omega) _ h1.setF
  · refine pw_aload_n dX10_begins_10 rfl ?_
    refine pw_bipush (v := nI 8) dX10_begins_11 (by decide) ?_
    refine pw_iload_n dX10_begins_13 rfl ?_
    refine pw_callV (as := [_, _]) (kc' := 0) (ks' := 0) lX10_299 dX10_begins_14 rfl rfl (sh_lt hG (by decide)) (sh_tg hG 45 rfl) (Nat.le_of_ble_eq_true rfl) (by omega) (Nat.le_of_ble_eq_true rfl) (Nat.zero_le _) (Nat.zero_le _) ?_
    refine r_fail hG hP h (e := 8) hNb ht (fun I3 h3 => ?_)
    exact pw_vret dX10_begins_17 rfl (k0 (by omega) _ h3)
set_option maxRecDepth 20000 in
set_option maxHeartbeats 4000000 in
theorem b_num {l : Launch} {E : pmE} {d : Nat} {S : pmS} {I : pmI} {J : pmJ} {P : pmP} {Q : Option Value → pmS → pmI → pmJ → pmP → Prop} {I0 : pmI} {J0 : pmJ} {A : aS} {fr : List (Nat × Nat)} {hv : List vV} {cx : List (Nat × List vV)} {s : Nat} {t : List tH} {N : Nat}  (hG : sh_St S) (hP : gr_St P) (h : rS I0 J0 A I J (fr ++ [(N, 0)]) hv cx s t) (hd : 3 ≤ d) (hNb : N < 2624) (ht : t.length ≤ 16000) (hk : I0 63 N = nI 0) {x : Int64} (hx : J0 70 N = x) (hl : hv.length < 899) (k1 : s < 400 → ∀ I' J', rS I0 J0 A I' J' fr (hv ++ [(1, x)]) cx (s + 1) t → Q none S I' J' P) (k0 : 400 ≤ s → ∀ I', rX I0 J0 A I' J 8 → Q none S I' J P) : pm_Met l E yX10_begins cX10_begins 4 none d 0 0 [.ref 47, .int (nI N)] S I J P Q := by
  refine r_begin hG hP h (by omega) hNb ht k0 (fun hlt I1 h1 => ?_)
  refine pw_aload_n dX10_begins_40 rfl ?_
  refine pw_getR fX10_56 dX10_begins_41 (sh_lt hG (by decide)) (sh_tg hG 45 rfl) rfl (gr_at hP 55 rfl) ?_
  refine pw_iload_n dX10_begins_44 rfl ?_
  refine pw_ialdN N dX10_begins_45 (sh_lt hG (by decide)) (sh_sh hG 61 rfl) (by decide) (rfl) (by omega) ?_
  refine pw_ti (z := nI 0) (h1.nod hk (by decide) (by decide)) ?_
  refine pw_tableIn (off := 30) (tgt := 76) dX10_begins_46 (by decide) (by decide) (by decide) (by decide) ?_
  refine pw_aload_n dX10_begins_76 rfl ?_
  refine pw_iconst (v := nI 1) dX10_begins_77 (by decide) ?_
  refine pw_aload_n dX10_begins_78 rfl ?_
  refine pw_getR fX10_77 dX10_begins_79 (sh_lt hG (by decide)) (sh_tg hG 45 rfl) rfl (gr_at hP 62 rfl) ?_
  refine pw_iload_n dX10_begins_82 rfl ?_
  refine pw_laldN N dX10_begins_83 (sh_lt hG (by decide)) (sh_sh hG 68 rfl) (by decide) (rfl) (by omega) ?_
  refine pw_tj (z := x) (h1.nov hx) ?_
  refine pw_callV (as := [_, _]) (kc' := 0) (ks' := 0) lX10_295 dX10_begins_84 rfl rfl (sh_lt hG (by decide)) (sh_tg hG 45 rfl) (Nat.le_of_ble_eq_true rfl) (by omega) (Nat.le_of_ble_eq_true rfl) (Nat.zero_le _) (Nat.zero_le _) ?_
  refine r_put hG hP h1 (v := (1, x)) hl (fun I3 J3 h3 => ?_)
  refine pw_aload_n dX10_begins_87 rfl ?_
  refine pw_dup dX10_begins_88 rfl ?_
  refine pw_getI fX10_282 dX10_begins_89 (sh_lt hG (by decide)) (sh_tg hG 45 rfl) rfl ?_
  refine pw_iconst (v := nI 1) dX10_begins_92 (by decide) ?_
  refine pw_isub dX10_begins_93 ?_
  refine pw_ti (z := nI fr.length) h3.top.1 ?_
  refine pw_putI fX10_282 dX10_begins_94 (Or.inl rfl) (by decide) (sh_lt hG (by decide)) (sh_tg hG 45 rfl) rfl ?_
  refine pw_goto (tgt := 259) dX10_begins_97 (by decide) ?_
  exact pw_vret dX10_begins_259 rfl (k1 hlt _ _ h3.pop)
set_option maxRecDepth 20000 in
set_option maxHeartbeats 4000000 in
theorem b_res1 {l : Launch} {E : pmE} {d : Nat} {S : pmS} {I : pmI} {J : pmJ} {P : pmP} {Q : Option Value → pmS → pmI → pmJ → pmP → Prop} {I0 : pmI} {J0 : pmJ} {A : aS} {fr : List (Nat × Nat)} {hv : List vV} {cx : List (Nat × List vV)} {s : Nat} {t : List tH} {N : Nat}  (hG : sh_St S) (hP : gr_St P) (h : rS I0 J0 A I J (fr ++ [(N, 0)]) hv cx s t) (hd : 3 ≤ d) (hNb : N < 2624) (ht : t.length ≤ 16000) (hk : I0 63 N = nI 1) {x : Int64} (hx : J0 70 N = x) (hl : hv.length < 899) (hA : rA I0 J0 A) (hO : aO A) {j : Nat} {v : vV} (hxj : x.toInt32 = nI (j + 1)) (hj : A.rs[j]? = some v) (k1 : s < 400 → ∀ I' J', rS I0 J0 A I' J' fr (hv ++ [v]) cx (s + 1) t → Q none S I' J' P) (k0 : 400 ≤ s → ∀ I', rX I0 J0 A I' J 8 → Q none S I' J P) : pm_Met l E yX10_begins cX10_begins 4 none d 0 0 [.ref 47, .int (nI N)] S I J P Q := by
  refine r_begin hG hP h (by omega) hNb ht k0 (fun hlt I1 h1 => ?_)
  have hA2 := h1.a hA
  have hjl := (List.getElem?_eq_some_iff.mp hj).1
  have hr4 := hO.r
  have hrv := hA2.rs j v hj
  refine pw_aload_n dX10_begins_40 rfl ?_
  refine pw_getR fX10_56 dX10_begins_41 (sh_lt hG (by decide)) (sh_tg hG 45 rfl) rfl (gr_at hP 55 rfl) ?_
  refine pw_iload_n dX10_begins_44 rfl ?_
  refine pw_ialdN N dX10_begins_45 (sh_lt hG (by decide)) (sh_sh hG 61 rfl) (by decide) (rfl) (by omega) ?_
  refine pw_ti (z := nI 1) (h1.nod hk (by decide) (by decide)) ?_
  refine pw_tableIn (off := 54) (tgt := 100) dX10_begins_46 (by decide) (by decide) (by decide) (by decide) ?_
  refine pw_aload_n dX10_begins_100 rfl ?_
  refine pw_getR fX10_77 dX10_begins_101 (sh_lt hG (by decide)) (sh_tg hG 45 rfl) rfl (gr_at hP 62 rfl) ?_
  refine pw_iload_n dX10_begins_104 rfl ?_
  refine pw_laldN N dX10_begins_105 (sh_lt hG (by decide)) (sh_sh hG 68 rfl) (by decide) (rfl) (by omega) ?_
  refine pw_tj (z := x) (h1.nov hx) ?_
  refine pw_l2i dX10_begins_106 ?_
  refine pw_istore_n (lv' := [(2, _), (0, _), (1, _)]) dX10_begins_107 (by decide) rfl ?_
  refine pw_iload_n dX10_begins_108 rfl ?_
  refine pw_iconst (v := nI 1) dX10_begins_109 (by decide) ?_
  refine pw_aload_n dX10_begins_110 rfl ?_
  refine pw_getI fX10_305 dX10_begins_111 (sh_lt hG (by decide)) (sh_tg hG 45 rfl) rfl ?_
  refine pw_callS (as := [_, _, _]) (kc' := 0) (ks' := 0) lX10_160 dX10_begins_114 rfl rfl (Nat.le_of_ble_eq_true rfl) (by omega) (Nat.le_of_ble_eq_true rfl) (Nat.zero_le _) (Nat.zero_le _) ?_
  refine c_X10_in (fun _ _ => ?_) (fun hn => absurd hn (by rw [hxj, hA2.r]; rintro (hn | hn); exact absurd hn (nI_nlt (by omega) (by omega)); exact absurd hn (nI_nlt (by omega) (by omega))))
  refine pw_if_ne (tgt := 129) dX10_begins_117 (by decide) (fun h117 => ?_) (fun h => absurd h (by decide))
  refine pw_aload_n dX10_begins_129 rfl ?_
  refine pw_aload_n dX10_begins_130 rfl ?_
  refine pw_getR fX10_80 dX10_begins_131 (sh_lt hG (by decide)) (sh_tg hG 45 rfl) rfl (gr_at hP 63 rfl) ?_
  refine pw_iload_n dX10_begins_134 rfl ?_
  refine pw_ialdN (j + 1) dX10_begins_135 (sh_lt hG (by decide)) (sh_sh hG 69 rfl) (by decide) (hxj) (by omega) ?_
  refine pw_ti (z := nI v.1) hrv.1 ?_
  refine pw_aload_n dX10_begins_136 rfl ?_
  refine pw_getR fX10_83 dX10_begins_137 (sh_lt hG (by decide)) (sh_tg hG 45 rfl) rfl (gr_at hP 64 rfl) ?_
  refine pw_iload_n dX10_begins_140 rfl ?_
  refine pw_laldN (j + 1) dX10_begins_141 (sh_lt hG (by decide)) (sh_sh hG 70 rfl) (by decide) (hxj) (by omega) ?_
  refine pw_tj (z := v.2) hrv.2 ?_
  refine pw_callV (as := [_, _]) (kc' := 0) (ks' := 0) lX10_295 dX10_begins_142 rfl rfl (sh_lt hG (by decide)) (sh_tg hG 45 rfl) (Nat.le_of_ble_eq_true rfl) (by omega) (Nat.le_of_ble_eq_true rfl) (Nat.zero_le _) (Nat.zero_le _) ?_
  refine r_put hG hP h1 (v := v) hl (fun I3 J3 h3 => ?_)
  refine pw_aload_n dX10_begins_145 rfl ?_
  refine pw_dup dX10_begins_146 rfl ?_
  refine pw_getI fX10_282 dX10_begins_147 (sh_lt hG (by decide)) (sh_tg hG 45 rfl) rfl ?_
  refine pw_iconst (v := nI 1) dX10_begins_150 (by decide) ?_
  refine pw_isub dX10_begins_151 ?_
  refine pw_ti (z := nI fr.length) h3.top.1 ?_
  refine pw_putI fX10_282 dX10_begins_152 (Or.inl rfl) (by decide) (sh_lt hG (by decide)) (sh_tg hG 45 rfl) rfl ?_
  refine pw_goto (tgt := 259) dX10_begins_155 (by decide) ?_
  exact pw_vret dX10_begins_259 rfl (k1 hlt _ _ h3.pop)
set_option maxRecDepth 20000 in
set_option maxHeartbeats 4000000 in
theorem b_res0 {l : Launch} {E : pmE} {d : Nat} {S : pmS} {I : pmI} {J : pmJ} {P : pmP} {Q : Option Value → pmS → pmI → pmJ → pmP → Prop} {I0 : pmI} {J0 : pmJ} {A : aS} {fr : List (Nat × Nat)} {hv : List vV} {cx : List (Nat × List vV)} {s : Nat} {t : List tH} {N : Nat}  (hG : sh_St S) (hP : gr_St P) (h : rS I0 J0 A I J (fr ++ [(N, 0)]) hv cx s t) (hd : 3 ≤ d) (hNb : N < 2624) (ht : t.length ≤ 16000) (hk : I0 63 N = nI 1) {x : Int64} (hx : J0 70 N = x) (hA : rA I0 J0 A) (hO : aO A) (hc : ¬ (1 ≤ x.toInt32.toInt ∧ x.toInt32.toInt ≤ (A.rs.length : Int))) (k1 : s < 400 → ∀ I', rX I0 J0 A I' J 1 → Q none S I' J P) (k0 : 400 ≤ s → ∀ I', rX I0 J0 A I' J 8 → Q none S I' J P) : pm_Met l E yX10_begins cX10_begins 4 none d 0 0 [.ref 47, .int (nI N)] S I J P Q := by
  refine r_begin hG hP h (by omega) hNb ht k0 (fun hlt I1 h1 => ?_)
  have hA2 := h1.a hA
  have hr4 := hO.r
  have hin : ¬ x.toInt32 < nI 1 → ¬ I1 47 27 < x.toInt32 → 1 ≤ x.toInt32.toInt ∧ x.toInt32.toInt ≤ (A.rs.length : Int) := fun q1 q2 => by
    rw [Int32.lt_iff_toInt_lt] at q1 q2
    rw [hA2.r, nI_toInt (by omega)] at q2
    have e1 : (nI 1).toInt = 1 := by decide
    exact ⟨by omega, by omega⟩
  refine pw_aload_n dX10_begins_40 rfl ?_
  refine pw_getR fX10_56 dX10_begins_41 (sh_lt hG (by decide)) (sh_tg hG 45 rfl) rfl (gr_at hP 55 rfl) ?_
  refine pw_iload_n dX10_begins_44 rfl ?_
  refine pw_ialdN N dX10_begins_45 (sh_lt hG (by decide)) (sh_sh hG 61 rfl) (by decide) (rfl) (by omega) ?_
  refine pw_ti (z := nI 1) (h1.nod hk (by decide) (by decide)) ?_
  refine pw_tableIn (off := 54) (tgt := 100) dX10_begins_46 (by decide) (by decide) (by decide) (by decide) ?_
  refine pw_aload_n dX10_begins_100 rfl ?_
  refine pw_getR fX10_77 dX10_begins_101 (sh_lt hG (by decide)) (sh_tg hG 45 rfl) rfl (gr_at hP 62 rfl) ?_
  refine pw_iload_n dX10_begins_104 rfl ?_
  refine pw_laldN N dX10_begins_105 (sh_lt hG (by decide)) (sh_sh hG 68 rfl) (by decide) (rfl) (by omega) ?_
  refine pw_tj (z := x) (h1.nov hx) ?_
  refine pw_l2i dX10_begins_106 ?_
  refine pw_istore_n (lv' := [(2, _), (0, _), (1, _)]) dX10_begins_107 (by decide) rfl ?_
  refine pw_iload_n dX10_begins_108 rfl ?_
  refine pw_iconst (v := nI 1) dX10_begins_109 (by decide) ?_
  refine pw_aload_n dX10_begins_110 rfl ?_
  refine pw_getI fX10_305 dX10_begins_111 (sh_lt hG (by decide)) (sh_tg hG 45 rfl) rfl ?_
  refine pw_callS (as := [_, _, _]) (kc' := 0) (ks' := 0) lX10_160 dX10_begins_114 rfl rfl (Nat.le_of_ble_eq_true rfl) (by omega) (Nat.le_of_ble_eq_true rfl) (Nat.zero_le _) (Nat.zero_le _) ?_
  refine c_X10_in (fun q1 q2 => absurd (hin q1 q2) hc) (fun _ => ?_)
  refine pw_if_ne (tgt := 129) dX10_begins_117 (by decide) (fun h => absurd (by decide) h) (fun h117 => ?_)
  refine pw_aload_n dX10_begins_120 rfl ?_
  refine pw_iconst (v := nI 1) dX10_begins_121 (by decide) ?_
  refine pw_iload_n dX10_begins_122 rfl ?_
  refine pw_callV (as := [_, _]) (kc' := 0) (ks' := 0) lX10_299 dX10_begins_123 rfl rfl (sh_lt hG (by decide)) (sh_tg hG 45 rfl) (Nat.le_of_ble_eq_true rfl) (by omega) (Nat.le_of_ble_eq_true rfl) (Nat.zero_le _) (Nat.zero_le _) ?_
  refine r_fail hG hP h1 (e := 1) hNb ht (fun I3 h3 => ?_)
  refine pw_goto (tgt := 145) dX10_begins_126 (by decide) ?_
  refine pw_aload_n dX10_begins_145 rfl ?_
  refine pw_dup dX10_begins_146 rfl ?_
  refine pw_getI fX10_282 dX10_begins_147 (sh_lt hG (by decide)) (sh_tg hG 45 rfl) rfl ?_
  refine pw_iconst (v := nI 1) dX10_begins_150 (by decide) ?_
  refine pw_isub dX10_begins_151 ?_
  refine pw_putI fX10_282 dX10_begins_152 (Or.inl rfl) (by decide) (sh_lt hG (by decide)) (sh_tg hG 45 rfl) rfl ?_
  refine pw_goto (tgt := 259) dX10_begins_155 (by decide) ?_
  exact pw_vret dX10_begins_259 rfl (k1 hlt _ (h3.mv (by decide)))
set_option maxRecDepth 20000 in
set_option maxHeartbeats 4000000 in
theorem b_nam {l : Launch} {E : pmE} {d : Nat} {S : pmS} {I : pmI} {J : pmJ} {P : pmP} {Q : Option Value → pmS → pmI → pmJ → pmP → Prop} {I0 : pmI} {J0 : pmJ} {A : aS} {fr : List (Nat × Nat)} {hv : List vV} {cx : List (Nat × List vV)} {s : Nat} {t : List tH} {N : Nat} {pa : List Int64} {ar : List vV} (hG : sh_St S) (hP : gr_St P) (h : rS I0 J0 A I J (fr ++ [(N, 0)]) hv cx s t) (hd : 3 ≤ d) (hNb : N < 2624) (ht : t.length ≤ 16000) (hk : I0 63 N = nI 2) (hA : rA I0 J0 A) (hO : aO A) (hc : rctx A cx pa ar) {v : Int64} (hv9 : v ∈ A.ns) (hv70 : J0 70 N = hN A.ns v) (hl : hv.length < 899) (kA : s < 400 → ∀ (j : Nat) (u : vV), ps_arg pa v 0 = some j → ar[j]? = some u → ∀ I' J', rS I0 J0 A I' J' fr (hv ++ [u]) cx (s + 1) t → Q none S I' J' P) (kV : s < 400 → ps_arg pa v 0 = none → A.fm v = 1 → ∀ I' J', rS I0 J0 A I' J' fr (hv ++ [A.va v]) cx (s + 1) t → Q none S I' J' P) (kF : s < 400 → ps_arg pa v 0 = none → ¬ A.fm v = 1 → ∀ I', rX I0 J0 A I' J 1 → Q none S I' J P) (k0 : 400 ≤ s → ∀ I', rX I0 J0 A I' J 8 → Q none S I' J P) : pm_Met l E yX10_begins cX10_begins 4 none d 0 0 [.ref 47, .int (nI N)] S I J P Q := by
  refine r_begin hG hP h (by omega) hNb ht k0 (fun hlt I1 h1 => ?_)
  refine pw_aload_n dX10_begins_40 rfl ?_
  refine pw_getR fX10_56 dX10_begins_41 (sh_lt hG (by decide)) (sh_tg hG 45 rfl) rfl (gr_at hP 55 rfl) ?_
  refine pw_iload_n dX10_begins_44 rfl ?_
  refine pw_ialdN N dX10_begins_45 (sh_lt hG (by decide)) (sh_sh hG 61 rfl) (by decide) (rfl) (by omega) ?_
  refine pw_ti (z := nI 2) (h1.nod hk (by decide) (by decide)) ?_
  refine pw_tableIn (off := 112) (tgt := 158) dX10_begins_46 (by decide) (by decide) (by decide) (by decide) ?_
  refine pw_aload_n dX10_begins_158 rfl ?_
  refine pw_iload_n dX10_begins_159 rfl ?_
  refine pw_callV (as := [_]) (kc' := 0) (ks' := 0) lX10_308 dX10_begins_160 rfl rfl (sh_lt hG (by decide)) (sh_tg hG 45 rfl) (Nat.le_of_ble_eq_true rfl) (by omega) (Nat.le_of_ble_eq_true rfl) (Nat.zero_le _) (Nat.zero_le _) ?_
  refine r_named hG hP h1 (by omega) hA hO hc hv9 hNb ht hl hv70 (fun j u hj hu I3 J3 h3 => ?_) (fun hj hf I3 J3 h3 => ?_) (fun hj hf I3 h3 => ?_)
  · refine pw_goto (tgt := 259) dX10_begins_163 (by decide) ?_
    exact pw_vret dX10_begins_259 rfl (kA hlt j u hj hu _ _ h3)
  · refine pw_goto (tgt := 259) dX10_begins_163 (by decide) ?_
    exact pw_vret dX10_begins_259 rfl (kV hlt hj hf _ _ h3)
  · refine pw_goto (tgt := 259) dX10_begins_163 (by decide) ?_
    exact pw_vret dX10_begins_259 rfl (kF hlt hj hf _ h3)
set_option maxRecDepth 20000 in
set_option maxHeartbeats 4000000 in
theorem b_call {l : Launch} {E : pmE} {d : Nat} {S : pmS} {I : pmI} {J : pmJ} {P : pmP} {Q : Option Value → pmS → pmI → pmJ → pmP → Prop} {I0 : pmI} {J0 : pmJ} {A : aS} {fr : List (Nat × Nat)} {hv : List vV} {cx : List (Nat × List vV)} {s : Nat} {t : List tH} {N : Nat}  (hG : sh_St S) (hP : gr_St P) (h : rS I0 J0 A I J (fr ++ [(N, 0)]) hv cx s t) (hd : 3 ≤ d) (hNb : N < 2624) (ht : t.length ≤ 16000) (hk : I0 63 N = nI 3) (hA : rA I0 J0 A) (hO : aO A) {v : Int64} {g : Nat} (hg : g ≤ 3) (hv9 : v ∈ A.ns) (hv70 : J0 70 N = hN A.ns v) (hnm : I0 69 N = nI g) (k1 : s < 400 → ckC A cx.length g v = 0 → ∀ I', rS I0 J0 A I' J (fr ++ [(N, 1)]) hv cx (s + 1) t → Q none S I' J P) (k2 : s < 400 → ckC A cx.length g v ≠ 0 → ∀ I', rX I0 J0 A I' J (ckC A cx.length g v) → Q none S I' J P) (k0 : 400 ≤ s → ∀ I', rX I0 J0 A I' J 8 → Q none S I' J P) : pm_Met l E yX10_begins cX10_begins 4 none d 0 0 [.ref 47, .int (nI N)] S I J P Q := by
  refine r_begin hG hP h (by omega) hNb ht k0 (fun hlt I1 h1 => ?_)
  have hA2 := h1.a hA
  have hat2 := (ns_at hv9).2
  have hn4 := hO.1.2
  have hk4 := hO.k
  have hf3 := fm_le hO v
  have hnv := hA2.nm hv9
  have hcl := h1.lm.2.2.1
  refine pw_aload_n dX10_begins_40 rfl ?_
  refine pw_getR fX10_56 dX10_begins_41 (sh_lt hG (by decide)) (sh_tg hG 45 rfl) rfl (gr_at hP 55 rfl) ?_
  refine pw_iload_n dX10_begins_44 rfl ?_
  refine pw_ialdN N dX10_begins_45 (sh_lt hG (by decide)) (sh_sh hG 61 rfl) (by decide) (rfl) (by omega) ?_
  refine pw_ti (z := nI 3) (h1.nod hk (by decide) (by decide)) ?_
  refine pw_tableIn (off := 120) (tgt := 166) dX10_begins_46 (by decide) (by decide) (by decide) (by decide) ?_
  refine pw_aload_n dX10_begins_166 rfl ?_
  refine pw_getR fX10_77 dX10_begins_167 (sh_lt hG (by decide)) (sh_tg hG 45 rfl) rfl (gr_at hP 62 rfl) ?_
  refine pw_iload_n dX10_begins_170 rfl ?_
  refine pw_laldN N dX10_begins_171 (sh_lt hG (by decide)) (sh_sh hG 68 rfl) (by decide) (rfl) (by omega) ?_
  refine pw_tj (z := hN A.ns v) (h1.nov hv70) ?_
  refine pw_l2i dX10_begins_172 ?_
  refine pw_ti (z := nI (A.ns.idxOf v)) (lN_i _) ?_
  refine pw_istore_n (lv' := [(3, _), (0, _), (1, _)]) dX10_begins_173 (by decide) rfl ?_
  refine pw_aload_n dX10_begins_174 rfl ?_
  refine pw_iload_n dX10_begins_175 rfl ?_
  refine pw_callV (as := [_]) (kc' := 0) (ks' := 0) lX10_311 dX10_begins_176 rfl rfl (sh_lt hG (by decide)) (sh_tg hG 45 rfl) (Nat.le_of_ble_eq_true rfl) (by omega) (Nat.le_of_ble_eq_true rfl) (Nat.zero_le _) (Nat.zero_le _) ?_
  refine r_called hG hP hA2 hO hv9 (fun hc => ?_) (fun hc => ?_)
  · obtain ⟨s', g1, g2, g3, g4, g5⟩ := hO.2.2.2.1 v (by omega)
    have eb : A.by v = s' := by unfold aS.by; rw [g1]; rfl
    have hp3 := (hO.2.2.2.2.1 s' g2).2.1
    have ek : ckC A cx.length g v = if (A.at s').pa.length = g then (if A.fm v = 2 ∧ 20 ≤ cx.length then 9 else 0) else 5 := by unfold ckC; rw [if_pos hc, eb]
    refine pw_if_ne (tgt := 191) dX10_begins_179 (by decide) (fun h179 => ?_) (fun h => absurd h (by decide))
    refine pw_aload_n dX10_begins_191 rfl ?_
    refine pw_getR fX10_38 dX10_begins_192 (sh_lt hG (by decide)) (sh_tg hG 45 rfl) rfl (gr_at hP 49 rfl) ?_
    refine pw_aload_n dX10_begins_195 rfl ?_
    refine pw_getR fX10_20 dX10_begins_196 (sh_lt hG (by decide)) (sh_tg hG 45 rfl) rfl (gr_at hP 43 rfl) ?_
    refine pw_iload_n dX10_begins_199 rfl ?_
    refine pw_ialdN (A.ns.idxOf v) dX10_begins_200 (sh_lt hG (by decide)) (sh_sh hG 49 rfl) (by decide) (rfl) (by omega) ?_
    refine pw_ti (z := nI s') (by rw [hnv.2.2.1, g1]; rfl) ?_
    refine pw_ialdN s' dX10_begins_201 (sh_lt hG (by decide)) (sh_sh hG 55 rfl) (by decide) (rfl) (by omega) ?_
    refine pw_ti (z := nI (A.at s').pa.length) (hA2.sn g2).2.2.1 ?_
    refine pw_aload_n dX10_begins_202 rfl ?_
    refine pw_getR fX10_74 dX10_begins_203 (sh_lt hG (by decide)) (sh_tg hG 45 rfl) rfl (gr_at hP 61 rfl) ?_
    refine pw_iload_n dX10_begins_206 rfl ?_
    refine pw_ialdN N dX10_begins_207 (sh_lt hG (by decide)) (sh_sh hG 67 rfl) (by decide) (rfl) (by omega) ?_
    refine pw_ti (z := nI g) (h1.nod hnm (by decide) (by decide)) ?_
    refine pw_icmpN_eq _ _ (tgt := 220) dX10_begins_208 (by decide) (rfl) (rfl) (by omega) (by omega) (fun h208 => ?_) (fun h208 => ?_)
    · refine pw_aload_n dX10_begins_220 rfl ?_
      refine pw_getR fX10_17 dX10_begins_221 (sh_lt hG (by decide)) (sh_tg hG 45 rfl) rfl (gr_at hP 42 rfl) ?_
      refine pw_iload_n dX10_begins_224 rfl ?_
      refine pw_ialdN (A.ns.idxOf v) dX10_begins_225 (sh_lt hG (by decide)) (sh_sh hG 48 rfl) (by decide) (rfl) (by omega) ?_
      refine pw_ti (z := nI (A.fm v)) hnv.2.1 ?_
      refine pw_iconst (v := nI 2) dX10_begins_226 (by decide) ?_
      refine pw_icmpN_ne _ _ (tgt := 259) dX10_begins_227 (by decide) (rfl) (rfl) (by omega) (by omega) (fun h227 => ?_) (fun h227 => ?_)
      · exact pw_vret dX10_begins_259 rfl (k1 hlt (by rw [ek, if_pos h208, if_neg (fun q => h227 q.1)]) _ h1)
      · refine pw_aload_n dX10_begins_230 rfl ?_
        refine pw_getI fX10_288 dX10_begins_231 (sh_lt hG (by decide)) (sh_tg hG 45 rfl) rfl ?_
        refine pw_bipush (v := nI 20) dX10_begins_234 (by decide) ?_
        refine pw_icmpN_ne _ _ (tgt := 259) dX10_begins_236 (by decide) (h1.dp) (rfl) (by omega) (by omega) (fun h236 => ?_) (fun h236 => ?_)
        · exact pw_vret dX10_begins_259 rfl (k1 hlt (by rw [ek, if_pos h208, if_neg (fun q => by omega)]) _ h1)
        · refine pw_aload_n dX10_begins_239 rfl ?_
          refine pw_bipush (v := nI 9) dX10_begins_240 (by decide) ?_
          refine pw_iload_n dX10_begins_242 rfl ?_
          refine pw_callV (as := [_, _]) (kc' := 0) (ks' := 0) lX10_299 dX10_begins_243 rfl rfl (sh_lt hG (by decide)) (sh_tg hG 45 rfl) (Nat.le_of_ble_eq_true rfl) (by omega) (Nat.le_of_ble_eq_true rfl) (Nat.zero_le _) (Nat.zero_le _) ?_
          refine r_fail hG hP h1 (e := 9) hNb ht (fun I3 h3 => ?_)
          refine pw_goto (tgt := 259) dX10_begins_246 (by decide) ?_
          exact pw_vret dX10_begins_259 rfl (k2 hlt (by rw [ek, if_pos h208, if_pos ⟨by omega, by omega⟩]; decide) _ (by rw [ek, if_pos h208, if_pos ⟨by omega, by omega⟩]; exact h3))
    · refine pw_aload_n dX10_begins_211 rfl ?_
      refine pw_iconst (v := nI 5) dX10_begins_212 (by decide) ?_
      refine pw_iload_n dX10_begins_213 rfl ?_
      refine pw_callV (as := [_, _]) (kc' := 0) (ks' := 0) lX10_299 dX10_begins_214 rfl rfl (sh_lt hG (by decide)) (sh_tg hG 45 rfl) (Nat.le_of_ble_eq_true rfl) (by omega) (Nat.le_of_ble_eq_true rfl) (Nat.zero_le _) (Nat.zero_le _) ?_
      refine r_fail hG hP h1 (e := 5) hNb ht (fun I3 h3 => ?_)
      refine pw_goto (tgt := 259) dX10_begins_217 (by decide) ?_
      exact pw_vret dX10_begins_259 rfl (k2 hlt (by rw [ek, if_neg h208]; decide) _ (by rw [ek, if_neg h208]; exact h3))
  · have ek : ckC A cx.length g v = 1 := by unfold ckC; rw [if_neg hc]
    refine pw_if_ne (tgt := 191) dX10_begins_179 (by decide) (fun h => absurd (by decide) h) (fun h179 => ?_)
    refine pw_aload_n dX10_begins_182 rfl ?_
    refine pw_iconst (v := nI 1) dX10_begins_183 (by decide) ?_
    refine pw_iload_n dX10_begins_184 rfl ?_
    refine pw_callV (as := [_, _]) (kc' := 0) (ks' := 0) lX10_299 dX10_begins_185 rfl rfl (sh_lt hG (by decide)) (sh_tg hG 45 rfl) (Nat.le_of_ble_eq_true rfl) (by omega) (Nat.le_of_ble_eq_true rfl) (Nat.zero_le _) (Nat.zero_le _) ?_
    refine r_fail hG hP h1 (e := 1) hNb ht (fun I3 h3 => ?_)
    refine pw_goto (tgt := 259) dX10_begins_188 (by decide) ?_
    exact pw_vret dX10_begins_259 rfl (k2 hlt (by rw [ek]; decide) _ (by rw [ek]; exact h3))
set_option maxRecDepth 20000 in
set_option maxHeartbeats 4000000 in
theorem b_go4 {l : Launch} {E : pmE} {d : Nat} {S : pmS} {I : pmI} {J : pmJ} {P : pmP} {Q : Option Value → pmS → pmI → pmJ → pmP → Prop} {I0 : pmI} {J0 : pmJ} {A : aS} {fr : List (Nat × Nat)} {hv : List vV} {cx : List (Nat × List vV)} {s : Nat} {t : List tH} {N : Nat}  (hG : sh_St S) (hP : gr_St P) (h : rS I0 J0 A I J (fr ++ [(N, 0)]) hv cx s t) (hd : 3 ≤ d) (hNb : N < 2624) (ht : t.length ≤ 16000) (hk : I0 63 N = nI 4) {c9 : Nat} (hc9 : I0 64 N = nI c9) (hl : fr.length < 898) (k1 : s < 400 → ∀ I', rS I0 J0 A I' J ((fr ++ [(N, 1)]) ++ [(c9, 0)]) hv cx (s + 1) t → Q none S I' J P) (k0 : 400 ≤ s → ∀ I', rX I0 J0 A I' J 8 → Q none S I' J P) : pm_Met l E yX10_begins cX10_begins 4 none d 0 0 [.ref 47, .int (nI N)] S I J P Q := by
  refine r_begin hG hP h (by omega) hNb ht k0 (fun hlt I1 h1 => ?_)
  refine pw_aload_n dX10_begins_40 rfl ?_
  refine pw_getR fX10_56 dX10_begins_41 (sh_lt hG (by decide)) (sh_tg hG 45 rfl) rfl (gr_at hP 55 rfl) ?_
  refine pw_iload_n dX10_begins_44 rfl ?_
  refine pw_ialdN N dX10_begins_45 (sh_lt hG (by decide)) (sh_sh hG 61 rfl) (by decide) (rfl) (by omega) ?_
  refine pw_ti (z := nI 4) (h1.nod hk (by decide) (by decide)) ?_
  refine pw_tableOut (tgt := 249) dX10_begins_46 (by decide) (by decide) ?_
  refine pw_aload_n dX10_begins_249 rfl ?_
  refine pw_aload_n dX10_begins_250 rfl ?_
  refine pw_getR fX10_59 dX10_begins_251 (sh_lt hG (by decide)) (sh_tg hG 45 rfl) rfl (gr_at hP 56 rfl) ?_
  refine pw_iload_n dX10_begins_254 rfl ?_
  refine pw_ialdN N dX10_begins_255 (sh_lt hG (by decide)) (sh_sh hG 62 rfl) (by decide) (rfl) (by omega) ?_
  refine pw_ti (z := nI c9) (h1.nod hc9 (by decide) (by decide)) ?_
  refine pw_callV (as := [_]) (kc' := 0) (ks' := 0) lX10_314 dX10_begins_256 rfl rfl (sh_lt hG (by decide)) (sh_tg hG 45 rfl) (Nat.le_of_ble_eq_true rfl) (by omega) (Nat.le_of_ble_eq_true rfl) (Nat.zero_le _) (Nat.zero_le _) ?_
  refine r_go hG hP h1 (by rw [List.length_append]; show fr.length + 1 < 899; omega) (fun I3 h3 => ?_)
  exact pw_vret dX10_begins_259 rfl (k1 hlt _ h3)
set_option maxRecDepth 20000 in
set_option maxHeartbeats 4000000 in
theorem b_go5 {l : Launch} {E : pmE} {d : Nat} {S : pmS} {I : pmI} {J : pmJ} {P : pmP} {Q : Option Value → pmS → pmI → pmJ → pmP → Prop} {I0 : pmI} {J0 : pmJ} {A : aS} {fr : List (Nat × Nat)} {hv : List vV} {cx : List (Nat × List vV)} {s : Nat} {t : List tH} {N : Nat}  (hG : sh_St S) (hP : gr_St P) (h : rS I0 J0 A I J (fr ++ [(N, 0)]) hv cx s t) (hd : 3 ≤ d) (hNb : N < 2624) (ht : t.length ≤ 16000) (hk : I0 63 N = nI 5) {c9 : Nat} (hc9 : I0 64 N = nI c9) (hl : fr.length < 898) (k1 : s < 400 → ∀ I', rS I0 J0 A I' J ((fr ++ [(N, 1)]) ++ [(c9, 0)]) hv cx (s + 1) t → Q none S I' J P) (k0 : 400 ≤ s → ∀ I', rX I0 J0 A I' J 8 → Q none S I' J P) : pm_Met l E yX10_begins cX10_begins 4 none d 0 0 [.ref 47, .int (nI N)] S I J P Q := by
  refine r_begin hG hP h (by omega) hNb ht k0 (fun hlt I1 h1 => ?_)
  refine pw_aload_n dX10_begins_40 rfl ?_
  refine pw_getR fX10_56 dX10_begins_41 (sh_lt hG (by decide)) (sh_tg hG 45 rfl) rfl (gr_at hP 55 rfl) ?_
  refine pw_iload_n dX10_begins_44 rfl ?_
  refine pw_ialdN N dX10_begins_45 (sh_lt hG (by decide)) (sh_sh hG 61 rfl) (by decide) (rfl) (by omega) ?_
  refine pw_ti (z := nI 5) (h1.nod hk (by decide) (by decide)) ?_
  refine pw_tableOut (tgt := 249) dX10_begins_46 (by decide) (by decide) ?_
  refine pw_aload_n dX10_begins_249 rfl ?_
  refine pw_aload_n dX10_begins_250 rfl ?_
  refine pw_getR fX10_59 dX10_begins_251 (sh_lt hG (by decide)) (sh_tg hG 45 rfl) rfl (gr_at hP 56 rfl) ?_
  refine pw_iload_n dX10_begins_254 rfl ?_
  refine pw_ialdN N dX10_begins_255 (sh_lt hG (by decide)) (sh_sh hG 62 rfl) (by decide) (rfl) (by omega) ?_
  refine pw_ti (z := nI c9) (h1.nod hc9 (by decide) (by decide)) ?_
  refine pw_callV (as := [_]) (kc' := 0) (ks' := 0) lX10_314 dX10_begins_256 rfl rfl (sh_lt hG (by decide)) (sh_tg hG 45 rfl) (Nat.le_of_ble_eq_true rfl) (by omega) (Nat.le_of_ble_eq_true rfl) (Nat.zero_le _) (Nat.zero_le _) ?_
  refine r_go hG hP h1 (by rw [List.length_append]; show fr.length + 1 < 899; omega) (fun I3 h3 => ?_)
  exact pw_vret dX10_begins_259 rfl (k1 hlt _ h3)
set_option maxRecDepth 20000 in
set_option maxHeartbeats 4000000 in
theorem b_go6 {l : Launch} {E : pmE} {d : Nat} {S : pmS} {I : pmI} {J : pmJ} {P : pmP} {Q : Option Value → pmS → pmI → pmJ → pmP → Prop} {I0 : pmI} {J0 : pmJ} {A : aS} {fr : List (Nat × Nat)} {hv : List vV} {cx : List (Nat × List vV)} {s : Nat} {t : List tH} {N : Nat}  (hG : sh_St S) (hP : gr_St P) (h : rS I0 J0 A I J (fr ++ [(N, 0)]) hv cx s t) (hd : 3 ≤ d) (hNb : N < 2624) (ht : t.length ≤ 16000) (hk : I0 63 N = nI 6) {c9 : Nat} (hc9 : I0 64 N = nI c9) (hl : fr.length < 898) (k1 : s < 400 → ∀ I', rS I0 J0 A I' J ((fr ++ [(N, 1)]) ++ [(c9, 0)]) hv cx (s + 1) t → Q none S I' J P) (k0 : 400 ≤ s → ∀ I', rX I0 J0 A I' J 8 → Q none S I' J P) : pm_Met l E yX10_begins cX10_begins 4 none d 0 0 [.ref 47, .int (nI N)] S I J P Q := by
  refine r_begin hG hP h (by omega) hNb ht k0 (fun hlt I1 h1 => ?_)
  refine pw_aload_n dX10_begins_40 rfl ?_
  refine pw_getR fX10_56 dX10_begins_41 (sh_lt hG (by decide)) (sh_tg hG 45 rfl) rfl (gr_at hP 55 rfl) ?_
  refine pw_iload_n dX10_begins_44 rfl ?_
  refine pw_ialdN N dX10_begins_45 (sh_lt hG (by decide)) (sh_sh hG 61 rfl) (by decide) (rfl) (by omega) ?_
  refine pw_ti (z := nI 6) (h1.nod hk (by decide) (by decide)) ?_
  refine pw_tableOut (tgt := 249) dX10_begins_46 (by decide) (by decide) ?_
  refine pw_aload_n dX10_begins_249 rfl ?_
  refine pw_aload_n dX10_begins_250 rfl ?_
  refine pw_getR fX10_59 dX10_begins_251 (sh_lt hG (by decide)) (sh_tg hG 45 rfl) rfl (gr_at hP 56 rfl) ?_
  refine pw_iload_n dX10_begins_254 rfl ?_
  refine pw_ialdN N dX10_begins_255 (sh_lt hG (by decide)) (sh_sh hG 62 rfl) (by decide) (rfl) (by omega) ?_
  refine pw_ti (z := nI c9) (h1.nod hc9 (by decide) (by decide)) ?_
  refine pw_callV (as := [_]) (kc' := 0) (ks' := 0) lX10_314 dX10_begins_256 rfl rfl (sh_lt hG (by decide)) (sh_tg hG 45 rfl) (Nat.le_of_ble_eq_true rfl) (by omega) (Nat.le_of_ble_eq_true rfl) (Nat.zero_le _) (Nat.zero_le _) ?_
  refine r_go hG hP h1 (by rw [List.length_append]; show fr.length + 1 < 899; omega) (fun I3 h3 => ?_)
  exact pw_vret dX10_begins_259 rfl (k1 hlt _ h3)
set_option maxRecDepth 20000 in
set_option maxHeartbeats 4000000 in
theorem b_go7 {l : Launch} {E : pmE} {d : Nat} {S : pmS} {I : pmI} {J : pmJ} {P : pmP} {Q : Option Value → pmS → pmI → pmJ → pmP → Prop} {I0 : pmI} {J0 : pmJ} {A : aS} {fr : List (Nat × Nat)} {hv : List vV} {cx : List (Nat × List vV)} {s : Nat} {t : List tH} {N : Nat}  (hG : sh_St S) (hP : gr_St P) (h : rS I0 J0 A I J (fr ++ [(N, 0)]) hv cx s t) (hd : 3 ≤ d) (hNb : N < 2624) (ht : t.length ≤ 16000) (hk : I0 63 N = nI 7) {c9 : Nat} (hc9 : I0 64 N = nI c9) (hl : fr.length < 898) (k1 : s < 400 → ∀ I', rS I0 J0 A I' J ((fr ++ [(N, 1)]) ++ [(c9, 0)]) hv cx (s + 1) t → Q none S I' J P) (k0 : 400 ≤ s → ∀ I', rX I0 J0 A I' J 8 → Q none S I' J P) : pm_Met l E yX10_begins cX10_begins 4 none d 0 0 [.ref 47, .int (nI N)] S I J P Q := by
  refine r_begin hG hP h (by omega) hNb ht k0 (fun hlt I1 h1 => ?_)
  refine pw_aload_n dX10_begins_40 rfl ?_
  refine pw_getR fX10_56 dX10_begins_41 (sh_lt hG (by decide)) (sh_tg hG 45 rfl) rfl (gr_at hP 55 rfl) ?_
  refine pw_iload_n dX10_begins_44 rfl ?_
  refine pw_ialdN N dX10_begins_45 (sh_lt hG (by decide)) (sh_sh hG 61 rfl) (by decide) (rfl) (by omega) ?_
  refine pw_ti (z := nI 7) (h1.nod hk (by decide) (by decide)) ?_
  refine pw_tableOut (tgt := 249) dX10_begins_46 (by decide) (by decide) ?_
  refine pw_aload_n dX10_begins_249 rfl ?_
  refine pw_aload_n dX10_begins_250 rfl ?_
  refine pw_getR fX10_59 dX10_begins_251 (sh_lt hG (by decide)) (sh_tg hG 45 rfl) rfl (gr_at hP 56 rfl) ?_
  refine pw_iload_n dX10_begins_254 rfl ?_
  refine pw_ialdN N dX10_begins_255 (sh_lt hG (by decide)) (sh_sh hG 62 rfl) (by decide) (rfl) (by omega) ?_
  refine pw_ti (z := nI c9) (h1.nod hc9 (by decide) (by decide)) ?_
  refine pw_callV (as := [_]) (kc' := 0) (ks' := 0) lX10_314 dX10_begins_256 rfl rfl (sh_lt hG (by decide)) (sh_tg hG 45 rfl) (Nat.le_of_ble_eq_true rfl) (by omega) (Nat.le_of_ble_eq_true rfl) (Nat.zero_le _) (Nat.zero_le _) ?_
  refine r_go hG hP h1 (by rw [List.length_append]; show fr.length + 1 < 899; omega) (fun I3 h3 => ?_)
  exact pw_vret dX10_begins_259 rfl (k1 hlt _ h3)
