section RA
variable {I I0 : pmI} {J J0 : pmJ} {A : aS}
theorem snR.mv {ns : List Int64} {s : Nat} {x : sN} (h : snR I0 J0 ns s x) (e : ∀ a, 55 ≤ a → a ≤ 70 → I a = I0 a ∧ J a = J0 a) : snR I J ns s x := by
  obtain ⟨h1, h2, h3, h4, h5, h6, h7⟩ := h
  unfold snR
  rw [(e 55 (by decide) (by decide)).1, (e 56 (by decide) (by decide)).1, (e 57 (by decide) (by decide)).1, (e 58 (by decide) (by decide)).1, (e 59 (by decide) (by decide)).1, (e 60 (by decide) (by decide)).1, (e 61 (by decide) (by decide)).1, (e 62 (by decide) (by decide)).1]
  refine ⟨h1, h2, h3, h4, h5, h6, fun hf => ?_⟩
  obtain ⟨m, g0, g1, N, g2, g3⟩ := h7 hf
  refine ⟨m, g0, g1.mv (fun a h8 h9 k _ => by rw [(e a (by omega) (by omega)).1]) (fun k _ => by rw [(e 70 (by decide) (by decide)).2]), N, g2, ny.mv (fun a k h8 h9 _ _ => by rw [(e a (by omega) (by omega)).1]) (fun k _ _ _ => by rw [(e 70 (by decide) (by decide)).2]) (fun k v _ _ _ hc => by unfold crN; rw [(e 70 (by decide) (by decide)).2]; exact hc) _ _ g3⟩
theorem rA.mv' (h : rA I0 J0 A) (e : ∀ a, 49 ≤ a → a ≤ 72 → I a = I0 a ∧ J a = J0 a) (e3 : I 47 3 = I0 47 3) (e27 : I 47 27 = I0 47 27) (e10 : I 47 10 = I0 47 10) : rA I J A := by
  obtain ⟨h1, h2, h3, h4, h5, h6⟩ := h
  unfold rA
  rw [e3, e27, e10, (e 49 (by decide) (by decide)).2, (e 50 (by decide) (by decide)).1, (e 51 (by decide) (by decide)).1, (e 52 (by decide) (by decide)).1, (e 53 (by decide) (by decide)).1, (e 54 (by decide) (by decide)).2, (e 71 (by decide) (by decide)).1, (e 72 (by decide) (by decide)).2]
  exact ⟨h1, h2, h3, h4, h5, fun s hs => (h6 s hs).mv (fun a g1 g2 => e a (by omega) (by omega))⟩
theorem rA.mv (h : rA I0 J0 A) (hF : rF I0 J0 I J) : rA I J A :=
  h.mv' (fun a h1 h2 => hF.1 a (by omega) (by omega) (by omega)) (hF.2 3 (by decide) (by decide) (by decide) (by decide) (by decide) (by decide)) (hF.2 27 (by decide) (by decide) (by decide) (by decide) (by decide) (by decide)) (hF.2 10 (by decide) (by decide) (by decide) (by decide) (by decide) (by decide))
theorem rA.n (h : rA I J A) : I 47 3 = nI A.ns.length := h.1
theorem rA.nm (h : rA I J A) {v : Int64} (hv : v ∈ A.ns) : J 49 (A.ns.idxOf v) = v ∧ I 50 (A.ns.idxOf v) = nI (A.fm v) ∧ I 51 (A.ns.idxOf v) = eN (A.dc v) ∧ I 52 (A.ns.idxOf v) = nI (A.ed v) ∧ (A.fm v = 1 → I 53 (A.ns.idxOf v) = nI (A.va v).1 ∧ J 54 (A.ns.idxOf v) = (A.va v).2) := h.2.1 _ _ (ns_at hv).1
theorem rA.r (h : rA I J A) : I 47 27 = nI A.rs.length := h.2.2.1
theorem rA.rs (h : rA I J A) : ∀ (j : Nat) (v : vV), A.rs[j]? = some v → I 71 (j + 1) = nI v.1 ∧ J 72 (j + 1) = v.2 := h.2.2.2.1
theorem rA.k (h : rA I J A) : I 47 10 = nI A.sn.length := h.2.2.2.2.1
theorem rA.sn (h : rA I J A) {s : Nat} (hs : s < A.sn.length) : snR I J A.ns s (A.at s) := h.2.2.2.2.2 s hs
end RA
theorem eq_i32 {ns : List Int64} {v u : Int64} (hv : v ∈ ns) (hu : u ∈ ns) (hl : ns.length ≤ 40) : nI (ns.idxOf v) = nI (ns.idxOf u) ↔ v = u := by
  rw [← eq_ix hv hu hl]
  have h1 := ns_at hv
  have h2 := ns_at hu
  rw [nI_l (by omega), lN_eq (by omega) (by omega), nI_eq (by omega) (by omega)]
theorem eN_eq {x : Option Nat} {s : Nat} (hx : ∀ s', x = some s' → s' ≤ 40) (hs : s ≤ 40) : eN x = nI s ↔ x = some s := by
  rcases x with _ | s'
  · constructor
    · intro h
      have h1 : (eN none).toInt = (nI s).toInt := by rw [h]
      rw [nI_toInt (by omega), show (eN none).toInt = -5 from rfl] at h1
      omega
    · intro h; cases h
  · have h1 := hx s' rfl
    show nI s' = nI s ↔ _
    rw [nI_eq (by omega) (by omega)]
    constructor
    · intro h; rw [h]
    · intro h; exact Option.some.inj h
set_option maxRecDepth 20000 in
set_option maxHeartbeats 4000000 in
theorem r_put {l : Launch} {E : pmE} {d : Nat} {S : pmS} {I : pmI} {J : pmJ} {P : pmP} {Q : Option Value → pmS → pmI → pmJ → pmP → Prop} {I0 : pmI} {J0 : pmJ} {A : aS} {fr : List (Nat × Nat)} {hv : List vV} {cx : List (Nat × List vV)} {s : Nat} {t : List tH} (hG : sh_St S) (hP : gr_St P) (h : rS I0 J0 A I J fr hv cx s t) {v : vV} (hl : hv.length < 899) (k : ∀ I' J', rS I0 J0 A I' J' fr (hv ++ [v]) cx s t → Q none S I' J' P) : pm_Met l E yX10_put cX10_put 4 none d 0 0 [.ref 47, .int (nI v.1), .long v.2] S I J P Q := by
  unfold pm_Met
  refine pm_lvs (lv' := [(0, _), (1, _), (2, _)]) rfl ?_
  refine pw_aload_n dX10_put_0 rfl ?_
  refine pw_getR fX10_144 dX10_put_1 (sh_lt hG (by decide)) (sh_tg hG 45 rfl) rfl (gr_at hP 84 rfl) ?_
  refine pw_aload_n dX10_put_4 rfl ?_
  refine pw_getI fX10_279 dX10_put_5 (sh_lt hG (by decide)) (sh_tg hG 45 rfl) rfl ?_
  refine pw_iload_n dX10_put_8 rfl ?_
  refine pw_iastN hv.length dX10_put_9 (by decide) (sh_lt hG (by decide)) (sh_sh hG 90 rfl) (by decide) (h.hi) (by omega) ?_
  refine pw_aload_n dX10_put_10 rfl ?_
  refine pw_getR fX10_147 dX10_put_11 (sh_lt hG (by decide)) (sh_tg hG 45 rfl) rfl (gr_at hP 85 rfl) ?_
  refine pw_aload_n dX10_put_14 rfl ?_
  refine pw_getI fX10_279 dX10_put_15 (sh_lt hG (by decide)) (sh_tg hG 45 rfl) rfl ?_
  refine pw_lload_n dX10_put_18 rfl ?_
  refine pw_lastN hv.length dX10_put_19 (by decide) (sh_lt hG (by decide)) (sh_sh hG 91 rfl) (by decide) (by rw [pm_u_ne (by decide)]; exact h.hi) (by omega) ?_
  refine pw_aload_n dX10_put_20 rfl ?_
  refine pw_dup dX10_put_21 rfl ?_
  refine pw_getI fX10_279 dX10_put_22 (sh_lt hG (by decide)) (sh_tg hG 45 rfl) rfl ?_
  refine pw_iconst (v := nI 1) dX10_put_25 (by decide) ?_
  refine pw_iadd dX10_put_26 ?_
  refine pw_ti (z := nI (hv.length + 1)) (by rw [pm_u_ne (by decide), h.hi]; exact nI_add _ 1) ?_
  refine pw_putI fX10_279 dX10_put_27 (Or.inl rfl) (by decide) (sh_lt hG (by decide)) (sh_tg hG 45 rfl) rfl ?_
  exact pw_vret dX10_put_30 rfl (k _ _ (h.put hl))

set_option maxRecDepth 20000 in
set_option maxHeartbeats 4000000 in
theorem r_go {l : Launch} {E : pmE} {d : Nat} {S : pmS} {I : pmI} {J : pmJ} {P : pmP} {Q : Option Value → pmS → pmI → pmJ → pmP → Prop} {I0 : pmI} {J0 : pmJ} {A : aS} {fr : List (Nat × Nat)} {hv : List vV} {cx : List (Nat × List vV)} {s : Nat} {t : List tH} (hG : sh_St S) (hP : gr_St P) (h : rS I0 J0 A I J fr hv cx s t) {N : Nat} (hl : fr.length < 899) (k : ∀ I', rS I0 J0 A I' J (fr ++ [(N, 0)]) hv cx s t → Q none S I' J P) : pm_Met l E yX10_go cX10_go 2 none d 0 0 [.ref 47, .int (nI N)] S I J P Q := by
  unfold pm_Met
  refine pm_lvs (lv' := [(0, _), (1, _)]) rfl ?_
  refine pw_aload_n dX10_go_0 rfl ?_
  refine pw_getR fX10_138 dX10_go_1 (sh_lt hG (by decide)) (sh_tg hG 45 rfl) rfl (gr_at hP 82 rfl) ?_
  refine pw_aload_n dX10_go_4 rfl ?_
  refine pw_getI fX10_282 dX10_go_5 (sh_lt hG (by decide)) (sh_tg hG 45 rfl) rfl ?_
  refine pw_iload_n dX10_go_8 rfl ?_
  refine pw_iastN fr.length dX10_go_9 (by decide) (sh_lt hG (by decide)) (sh_sh hG 88 rfl) (by decide) (h.rn) (by omega) ?_
  refine pw_aload_n dX10_go_10 rfl ?_
  refine pw_getR fX10_141 dX10_go_11 (sh_lt hG (by decide)) (sh_tg hG 45 rfl) rfl (gr_at hP 83 rfl) ?_
  refine pw_aload_n dX10_go_14 rfl ?_
  refine pw_getI fX10_282 dX10_go_15 (sh_lt hG (by decide)) (sh_tg hG 45 rfl) rfl ?_
  refine pw_iconst (v := nI 0) dX10_go_18 (by decide) ?_
  refine pw_iastN fr.length dX10_go_19 (by decide) (sh_lt hG (by decide)) (sh_sh hG 89 rfl) (by decide) (by rw [pm_u_ne (by decide)]; exact h.rn) (by omega) ?_
  refine pw_aload_n dX10_go_20 rfl ?_
  refine pw_dup dX10_go_21 rfl ?_
  refine pw_getI fX10_282 dX10_go_22 (sh_lt hG (by decide)) (sh_tg hG 45 rfl) rfl ?_
  refine pw_iconst (v := nI 1) dX10_go_25 (by decide) ?_
  refine pw_iadd dX10_go_26 ?_
  refine pw_ti (z := nI (fr.length + 1)) (by rw [pm_u_ne (by decide), pm_u_ne (by decide), h.rn]; exact nI_add _ 1) ?_
  refine pw_putI fX10_282 dX10_go_27 (Or.inl rfl) (by decide) (sh_lt hG (by decide)) (sh_tg hG 45 rfl) rfl ?_
  exact pw_vret dX10_go_30 rfl (k _ (h.go hl))

set_option maxRecDepth 20000 in
set_option maxHeartbeats 4000000 in
theorem r_fail {l : Launch} {E : pmE} {d : Nat} {S : pmS} {I : pmI} {J : pmJ} {P : pmP} {Q : Option Value → pmS → pmI → pmJ → pmP → Prop} {I0 : pmI} {J0 : pmJ} {A : aS} {fr : List (Nat × Nat)} {hv : List vV} {cx : List (Nat × List vV)} {s : Nat} {t : List tH} (hG : sh_St S) (hP : gr_St P) (h : rS I0 J0 A I J fr hv cx s t) {e N : Nat} (hN : N < 2624) (ht : t.length ≤ 16000) (k : ∀ I', rX I0 J0 A I' J e → Q none S I' J P) : pm_Met l E yX10_fail cX10_fail 3 none d 0 0 [.ref 47, .int (nI e), .int (nI N)] S I J P Q := by
  unfold pm_Met
  have hl9 := h.lm.2.2.1
  refine pm_lvs (lv' := [(0, _), (1, _), (2, _)]) rfl ?_
  refine pw_aload_n dX10_fail_0 rfl ?_
  refine pw_iload_n dX10_fail_1 rfl ?_
  refine pw_putI fX10_285 dX10_fail_2 (Or.inl rfl) (by decide) (sh_lt hG (by decide)) (sh_tg hG 45 rfl) rfl ?_
  refine pw_aload_n dX10_fail_5 rfl ?_
  refine pw_getR fX10_96 dX10_fail_6 (sh_lt hG (by decide)) (sh_tg hG 45 rfl) rfl (gr_at hP 68 rfl) ?_
  refine pw_iconst (v := nI 0) dX10_fail_9 (by decide) ?_
  refine pw_iload_n dX10_fail_10 rfl ?_
  refine pw_iastN 0 dX10_fail_11 (by decide) (sh_lt hG (by decide)) (sh_sh hG 74 rfl) (by decide) (by decide) (by decide) ?_
  refine pw_aload_n dX10_fail_12 rfl ?_
  refine pw_getR fX10_96 dX10_fail_13 (sh_lt hG (by decide)) (sh_tg hG 45 rfl) rfl (gr_at hP 68 rfl) ?_
  refine pw_iconst (v := nI 1) dX10_fail_16 (by decide) ?_
  refine pw_aload_n dX10_fail_17 rfl ?_
  refine pw_getR fX10_129 dX10_fail_18 (sh_lt hG (by decide)) (sh_tg hG 45 rfl) rfl (gr_at hP 79 rfl) ?_
  refine pw_aload_n dX10_fail_21 rfl ?_
  refine pw_getI fX10_288 dX10_fail_22 (sh_lt hG (by decide)) (sh_tg hG 45 rfl) rfl ?_
  refine pw_ialdN cx.length dX10_fail_25 (sh_lt hG (by decide)) (sh_sh hG 85 rfl) (by decide) (by rw [pm_u_ne (by decide), pm_u_eq, pm_up_ne (by decide)]; exact h.dp) (by omega) ?_
  refine pw_iastN 1 dX10_fail_26 (by decide) (sh_lt hG (by decide)) (sh_sh hG 74 rfl) (by decide) (by decide) (by decide) ?_
  refine pw_aload_n dX10_fail_27 rfl ?_
  refine pw_getR fX10_96 dX10_fail_28 (sh_lt hG (by decide)) (sh_tg hG 45 rfl) rfl (gr_at hP 68 rfl) ?_
  refine pw_iconst (v := nI 2) dX10_fail_31 (by decide) ?_
  refine pw_aload_n dX10_fail_32 rfl ?_
  refine pw_getR fX10_68 dX10_fail_33 (sh_lt hG (by decide)) (sh_tg hG 45 rfl) rfl (gr_at hP 59 rfl) ?_
  refine pw_iload_n dX10_fail_36 rfl ?_
  refine pw_ialdN N dX10_fail_37 (sh_lt hG (by decide)) (sh_sh hG 65 rfl) (by decide) (rfl) (by omega) ?_
  refine pw_iastN 2 dX10_fail_38 (by decide) (sh_lt hG (by decide)) (sh_sh hG 74 rfl) (by decide) (by decide) (by decide) ?_
  refine pw_aload_n dX10_fail_39 rfl ?_
  refine pw_getR fX10_96 dX10_fail_40 (sh_lt hG (by decide)) (sh_tg hG 45 rfl) rfl (gr_at hP 68 rfl) ?_
  refine pw_iconst (v := nI 3) dX10_fail_43 (by decide) ?_
  refine pw_aload_n dX10_fail_44 rfl ?_
  refine pw_getI fX10_288 dX10_fail_45 (sh_lt hG (by decide)) (sh_tg hG 45 rfl) rfl ?_
  refine pw_iastN 3 dX10_fail_48 (by decide) (sh_lt hG (by decide)) (sh_sh hG 74 rfl) (by decide) (by decide) (by decide) ?_
  exact pw_vret dX10_fail_49 rfl (k _ (h.fail ht))

set_option maxRecDepth 20000 in
set_option maxHeartbeats 4000000 in
theorem r_arg_lp {l : Launch} {E : pmE} {d : Nat} {S : pmS} {I : pmI} {J : pmJ} {P : pmP} {Q : Option Value → pmS → pmI → pmJ → pmP → Prop} (hG : sh_St S) (hP : gr_St P) {A : aS} (hA : rA I J A) (hO : aO A) {s' : Nat} (hs' : s' < A.sn.length) {u : Int64} (hu : u ∈ A.ns) (k1 : ∀ j, ps_arg (A.at s').pa u 0 = some j → Q (some (.int (nI j))) S I J P) (k0 : ps_arg (A.at s').pa u 0 = none → Q (some (.int (-1))) S I J P) : ∀ (n j : Nat), j + n = (A.at s').pa.length → ps_arg (A.at s').pa u 0 = ps_arg ((A.at s').pa.drop j) u j → pm_W l E yX10_argumentOf cX10_argumentOf 4 (some .int) d 0 0 2 [(3, .int (nI j)), (0, .ref 47), (1, (.int (nI s'))), (2, (.int (nI (A.ns.idxOf u))))] [] S I J P (pm_N E Q)
  | 0, j, hj, hp => by
    have hsn := hO.2.2.2.2.1 s' hs'
    have hp3 := hsn.2.1
    have hR := hA.sn hs'
    have hk4 := hO.k
    have hn4 := hO.1.2
    refine pw_iload_n dX10_argumentOf_2 rfl ?_
    refine pw_aload_n dX10_argumentOf_3 rfl ?_
    refine pw_getR fX10_38 dX10_argumentOf_4 (sh_lt hG (by decide)) (sh_tg hG 45 rfl) rfl (gr_at hP 49 rfl) ?_
    refine pw_iload_n dX10_argumentOf_7 rfl ?_
    refine pw_ialdN s' dX10_argumentOf_8 (sh_lt hG (by decide)) (sh_sh hG 55 rfl) (by decide) (rfl) (by omega) ?_
    refine pw_ti (z := nI (A.at s').pa.length) hR.2.2.1 ?_
    refine pw_icmpN_ge _ _ (tgt := 34) dX10_argumentOf_9 (by decide) (rfl) (rfl) (by omega) (by omega) (fun h9 => ?_) (fun h9 => absurd h9 (by omega))
    refine pw_iconst (v := -1) dX10_argumentOf_34 (by decide) ?_
    exact pw_iret dX10_argumentOf_35 rfl (k0 (by rw [hp, List.drop_eq_nil_of_le (by omega)]; rfl))
  | n + 1, j, hj, hp => by
    have hsn := hO.2.2.2.2.1 s' hs'
    have hp3 := hsn.2.1
    have hR := hA.sn hs'
    have hk4 := hO.k
    have hn4 := hO.1.2
    have hjl : j < (A.at s').pa.length := by omega
    obtain ⟨y, hy⟩ : ∃ y, (A.at s').pa[j]? = some y := ⟨_, List.getElem?_eq_getElem hjl⟩
    have hyn : y ∈ A.ns := hsn.2.2.2.1 y (List.mem_of_getElem? hy)
    have hdr : (A.at s').pa.drop j = y :: (A.at s').pa.drop (j + 1) := by
      rw [List.drop_eq_getElem_cons hjl]; rw [List.getElem?_eq_getElem hjl] at hy; rw [Option.some.inj hy]
    refine pw_iload_n dX10_argumentOf_2 rfl ?_
    refine pw_aload_n dX10_argumentOf_3 rfl ?_
    refine pw_getR fX10_38 dX10_argumentOf_4 (sh_lt hG (by decide)) (sh_tg hG 45 rfl) rfl (gr_at hP 49 rfl) ?_
    refine pw_iload_n dX10_argumentOf_7 rfl ?_
    refine pw_ialdN s' dX10_argumentOf_8 (sh_lt hG (by decide)) (sh_sh hG 55 rfl) (by decide) (rfl) (by omega) ?_
    refine pw_ti (z := nI (A.at s').pa.length) hR.2.2.1 ?_
    refine pw_icmpN_ge _ _ (tgt := 34) dX10_argumentOf_9 (by decide) (rfl) (rfl) (by omega) (by omega) (fun h9 => absurd h9 (by omega)) (fun h9 => ?_)
    refine pw_aload_n dX10_argumentOf_12 rfl ?_
    refine pw_getR fX10_41 dX10_argumentOf_13 (sh_lt hG (by decide)) (sh_tg hG 45 rfl) rfl (gr_at hP 50 rfl) ?_
    refine pw_iconst (v := nI 3) dX10_argumentOf_16 (by decide) ?_
    refine pw_iload_n dX10_argumentOf_17 rfl ?_
    refine pw_imul dX10_argumentOf_18 ?_
    refine pw_iload_n dX10_argumentOf_19 rfl ?_
    refine pw_iadd dX10_argumentOf_20 ?_
    refine pw_ti (z := nI (3 * s' + j)) (by rw [show nI 3 * nI s' = nI (3 * s') from (Int32.ofNat_mul 3 _).symm, nI_add]) ?_
    refine pw_ialdN (3 * s' + j) dX10_argumentOf_21 (sh_lt hG (by decide)) (sh_sh hG 56 rfl) (by decide) (rfl) (by omega) ?_
    refine pw_ti (z := nI (A.ns.idxOf y)) (hR.2.2.2.1 j y hy) ?_
    refine pw_iload_n dX10_argumentOf_22 rfl ?_
    refine pw_icmp_ne (tgt := 28) dX10_argumentOf_23 (by decide) (fun h23 => ?_) (fun h23 => ?_)
    · have hyu : ¬ y = u := fun e => h23 ((eq_i32 hyn hu hn4).mpr e)
      refine pw_iinc (lv' := [(3, _), (0, _), (1, _), (2, _)]) dX10_argumentOf_28 rfl (by decide) rfl ?_
      refine pw_goto (tgt := 2) dX10_argumentOf_31 (by decide) ?_
      refine pm_lvs (lv' := [(3, .int (nI (j + 1))), (0, _), (1, _), (2, _)]) (by rw [show nI j + Int32.ofInt 1 = nI (j + 1) from nI_add j 1]) ?_
      exact r_arg_lp hG hP hA hO hs' hu k1 k0 n (j + 1) (by omega) (by rw [hp, hdr]; exact if_neg hyu)
    · have hyu := (eq_i32 hyn hu hn4).mp h23
      have hp1 : ps_arg (A.at s').pa u 0 = some j := by rw [hp, hdr]; exact if_pos hyu
      refine pw_iload_n dX10_argumentOf_26 rfl ?_
      exact pw_iret dX10_argumentOf_27 rfl (k1 j hp1)
set_option maxRecDepth 20000 in
set_option maxHeartbeats 4000000 in
theorem r_arg {l : Launch} {E : pmE} {d : Nat} {S : pmS} {I : pmI} {J : pmJ} {P : pmP} {Q : Option Value → pmS → pmI → pmJ → pmP → Prop} (hG : sh_St S) (hP : gr_St P) {A : aS} (hA : rA I J A) (hO : aO A) {s' : Nat} (hs' : s' < A.sn.length) {u : Int64} (hu : u ∈ A.ns) (k1 : ∀ j, ps_arg (A.at s').pa u 0 = some j → Q (some (.int (nI j))) S I J P) (k0 : ps_arg (A.at s').pa u 0 = none → Q (some (.int (-1))) S I J P) : pm_Met l E yX10_argumentOf cX10_argumentOf 4 (some .int) d 0 0 [.ref 47, (.int (nI s')), (.int (nI (A.ns.idxOf u)))] S I J P Q := by
  unfold pm_Met
  refine pm_lvs (lv' := [(0, _), (1, _), (2, _)]) rfl ?_
  refine pw_iconst (v := nI 0) dX10_argumentOf_0 (by decide) ?_
  refine pw_istore_n (lv' := [(3, _), (0, _), (1, _), (2, _)]) dX10_argumentOf_1 (by decide) rfl ?_
  exact r_arg_lp hG hP hA hO hs' hu k1 k0 (A.at s').pa.length 0 (Nat.zero_add _) rfl

set_option maxRecDepth 20000 in
set_option maxHeartbeats 4000000 in
theorem r_called {l : Launch} {E : pmE} {d : Nat} {S : pmS} {I : pmI} {J : pmJ} {P : pmP} {Q : Option Value → pmS → pmI → pmJ → pmP → Prop} (hG : sh_St S) (hP : gr_St P) {A : aS} (hA : rA I J A) (hO : aO A) {u : Int64} (hu : u ∈ A.ns) (k1 : (A.fm u = 2 ∨ A.fm u = 3) → Q (some (.int (nI 1))) S I J P) (k0 : ¬ (A.fm u = 2 ∨ A.fm u = 3) → Q (some (.int (nI 0))) S I J P) : pm_Met l E yX10_isCalled cX10_isCalled 2 (some .boolean) d 0 0 [.ref 47, (.int (nI (A.ns.idxOf u)))] S I J P Q := by
  unfold pm_Met
  have hat := ns_at hu
  have hat2 := hat.2
  have hn4 := hO.1.2
  have hf3 := fm_le hO u
  have hnm := hA.nm hu
  refine pm_lvs (lv' := [(0, _), (1, _)]) rfl ?_
  refine pw_aload_n dX10_isCalled_0 rfl ?_
  refine pw_getR fX10_17 dX10_isCalled_1 (sh_lt hG (by decide)) (sh_tg hG 45 rfl) rfl (gr_at hP 42 rfl) ?_
  refine pw_iload_n dX10_isCalled_4 rfl ?_
  refine pw_ialdN (A.ns.idxOf u) dX10_isCalled_5 (sh_lt hG (by decide)) (sh_sh hG 48 rfl) (by decide) (rfl) (by omega) ?_
  refine pw_ti (z := nI (A.fm u)) hnm.2.1 ?_
  refine pw_iconst (v := nI 2) dX10_isCalled_6 (by decide) ?_
  refine pw_icmpN_eq _ _ (tgt := 20) dX10_isCalled_7 (by decide) (rfl) (rfl) (by omega) (by omega) (fun h7 => ?_) (fun h7 => ?_)
  · refine pw_iconst (v := nI 1) dX10_isCalled_20 (by decide) ?_
    refine pw_goto (tgt := 25) dX10_isCalled_21 (by decide) ?_
    exact pw_zret dX10_isCalled_25 rfl (by decide) (k1 (Or.inl h7))
  · refine pw_aload_n dX10_isCalled_10 rfl ?_
    refine pw_getR fX10_17 dX10_isCalled_11 (sh_lt hG (by decide)) (sh_tg hG 45 rfl) rfl (gr_at hP 42 rfl) ?_
    refine pw_iload_n dX10_isCalled_14 rfl ?_
    refine pw_ialdN (A.ns.idxOf u) dX10_isCalled_15 (sh_lt hG (by decide)) (sh_sh hG 48 rfl) (by decide) (rfl) (by omega) ?_
    refine pw_ti (z := nI (A.fm u)) hnm.2.1 ?_
    refine pw_iconst (v := nI 3) dX10_isCalled_16 (by decide) ?_
    refine pw_icmpN_ne _ _ (tgt := 24) dX10_isCalled_17 (by decide) (rfl) (rfl) (by omega) (by omega) (fun h17 => ?_) (fun h17 => ?_)
    · refine pw_iconst (v := nI 0) dX10_isCalled_24 (by decide) ?_
      exact pw_zret dX10_isCalled_25 rfl (by decide) (k0 (by omega))
    · refine pw_iconst (v := nI 1) dX10_isCalled_20 (by decide) ?_
      refine pw_goto (tgt := 25) dX10_isCalled_21 (by decide) ?_
      exact pw_zret dX10_isCalled_25 rfl (by decide) (k1 (Or.inr h17))

set_option maxRecDepth 20000 in
set_option maxHeartbeats 4000000 in
theorem r_old {l : Launch} {E : pmE} {d : Nat} {S : pmS} {I : pmI} {J : pmJ} {P : pmP} {Q : Option Value → pmS → pmI → pmJ → pmP → Prop} (hG : sh_St S) (hP : gr_St P) {A : aS} (hA : rA I J A) (hO : aO A) {t : List tH} (hT : rT I J t) (ht : t.length ≤ 16000) {j s' : Nat} {vs : List vV} (hj : t[j]? = some (s', vs)) (hs' : s' < A.sn.length) (h3 : (A.at s').form = 3) (k1 : A.fm (A.at s').dec = 3 → A.dc (A.at s').dec = some s' → Q (some (.int (nI 0))) S I J P) (k0 : ¬ (A.fm (A.at s').dec = 3 ∧ A.dc (A.at s').dec = some s') → Q (some (.int (nI 1))) S I J P) : pm_Met l E yX10_isOld cX10_isOld 4 (some .boolean) d 0 0 [.ref 47, .int (nI j)] S I J P Q := by
  unfold pm_Met
  have hjl := (List.getElem?_eq_some_iff.mp hj).1
  have hsn := hO.2.2.2.2.1 s' hs'
  have hdn : (A.at s').dec ∈ A.ns := hsn.2.2.1 (by omega)
  have hat2 := (ns_at hdn).2
  have hn4 := hO.1.2
  have hk4 := hO.k
  have hf3 := fm_le hO (A.at s').dec
  have hnm := hA.nm hdn
  have hR := hA.sn hs'
  have hdl : ∀ s9, A.dc (A.at s').dec = some s9 → s9 ≤ 40 := fun s9 h9 => by
    by_cases hz : A.fm (A.at s').dec = 0
    · rw [hO.2.2.1 _ hz] at h9; cases h9
    · obtain ⟨s1, g1, g2, -⟩ := hO.2.2.2.1 _ hz
      rw [h9] at g1
      have := Option.some.inj g1
      omega
  refine pm_lvs (lv' := [(0, _), (1, _)]) rfl ?_
  refine pw_aload_n dX10_isOld_0 rfl ?_
  refine pw_getR fX10_86 dX10_isOld_1 (sh_lt hG (by decide)) (sh_tg hG 45 rfl) rfl (gr_at hP 65 rfl) ?_
  refine pw_iload_n dX10_isOld_4 rfl ?_
  refine pw_ialdN j dX10_isOld_5 (sh_lt hG (by decide)) (sh_sh hG 71 rfl) (by decide) (rfl) (by omega) ?_
  refine pw_ti (z := nI s') (hT.2 j s' vs hj).1 ?_
  refine pw_istore_n (lv' := [(2, _), (0, _), (1, _)]) dX10_isOld_6 (by decide) rfl ?_
  refine pw_aload_n dX10_isOld_7 rfl ?_
  refine pw_getR fX10_35 dX10_isOld_8 (sh_lt hG (by decide)) (sh_tg hG 45 rfl) rfl (gr_at hP 48 rfl) ?_
  refine pw_iload_n dX10_isOld_11 rfl ?_
  refine pw_ialdN s' dX10_isOld_12 (sh_lt hG (by decide)) (sh_sh hG 54 rfl) (by decide) (rfl) (by omega) ?_
  refine pw_ti (z := nI (A.ns.idxOf (A.at s').dec)) (hR.2.1 (by omega)) ?_
  refine pw_istore_n (lv' := [(3, _), (2, _), (0, _), (1, _)]) dX10_isOld_13 (by decide) rfl ?_
  refine pw_aload_n dX10_isOld_14 rfl ?_
  refine pw_getR fX10_17 dX10_isOld_15 (sh_lt hG (by decide)) (sh_tg hG 45 rfl) rfl (gr_at hP 42 rfl) ?_
  refine pw_iload_n dX10_isOld_18 rfl ?_
  refine pw_ialdN (A.ns.idxOf (A.at s').dec) dX10_isOld_19 (sh_lt hG (by decide)) (sh_sh hG 48 rfl) (by decide) (rfl) (by omega) ?_
  refine pw_ti (z := nI (A.fm (A.at s').dec)) hnm.2.1 ?_
  refine pw_iconst (v := nI 3) dX10_isOld_20 (by decide) ?_
  refine pw_icmpN_ne _ _ (tgt := 34) dX10_isOld_21 (by decide) (rfl) (rfl) (by omega) (by omega) (fun h21 => ?_) (fun h21 => ?_)
  · refine pw_iconst (v := nI 1) dX10_isOld_34 (by decide) ?_
    refine pw_goto (tgt := 39) dX10_isOld_35 (by decide) ?_
    exact pw_zret dX10_isOld_39 rfl (by decide) (k0 (fun q => h21 q.1))
  · refine pw_aload_n dX10_isOld_24 rfl ?_
    refine pw_getR fX10_20 dX10_isOld_25 (sh_lt hG (by decide)) (sh_tg hG 45 rfl) rfl (gr_at hP 43 rfl) ?_
    refine pw_iload_n dX10_isOld_28 rfl ?_
    refine pw_ialdN (A.ns.idxOf (A.at s').dec) dX10_isOld_29 (sh_lt hG (by decide)) (sh_sh hG 49 rfl) (by decide) (rfl) (by omega) ?_
    refine pw_ti (z := eN (A.dc (A.at s').dec)) hnm.2.2.1 ?_
    refine pw_iload_n dX10_isOld_30 rfl ?_
    refine pw_icmp_eq (tgt := 38) dX10_isOld_31 (by decide) (fun h31 => ?_) (fun h31 => ?_)
    · refine pw_iconst (v := nI 0) dX10_isOld_38 (by decide) ?_
      exact pw_zret dX10_isOld_39 rfl (by decide) (k1 (by omega) ((eN_eq hdl (by omega)).mp h31))
    · refine pw_iconst (v := nI 1) dX10_isOld_34 (by decide) ?_
      refine pw_goto (tgt := 39) dX10_isOld_35 (by decide) ?_
      exact pw_zret dX10_isOld_39 rfl (by decide) (k0 (fun q => h31 ((eN_eq hdl (by omega)).mpr q.2)))

set_option maxRecDepth 20000 in
set_option maxHeartbeats 4000000 in
theorem rw_43 {l : Launch} {E : pmE} {d : Nat} {S : pmS} {I : pmI} {J : pmJ} {P : pmP} {Q : Option Value → pmS → pmI → pmJ → pmP → Prop} {a z : Int64} (k : Q (some (.long (opV 43 a z))) S I J P) : pm_Met l E yX10_reckon cX10_reckon 5 (some .long) d 0 0 [.int (nI 43), .long a, .long z] S I J P Q := by
  unfold pm_Met
  have e9 : opV 43 a z = (a + z) := rfl
  rw [e9] at k
  refine pm_lvs (lv' := [(0, _), (1, _), (3, _)]) rfl ?_
  refine pw_iload_n dX10_reckon_0 rfl ?_
  refine pw_tableIn (off := 59) (tgt := 60) dX10_reckon_1 (by decide) (by decide) (by decide) (by decide) ?_
  refine pw_lload_n dX10_reckon_60 rfl ?_
  refine pw_lload_n dX10_reckon_61 rfl ?_
  refine pw_ladd dX10_reckon_62 ?_
  exact pw_lret dX10_reckon_63 rfl (k)

set_option maxRecDepth 20000 in
set_option maxHeartbeats 4000000 in
theorem rw_45 {l : Launch} {E : pmE} {d : Nat} {S : pmS} {I : pmI} {J : pmJ} {P : pmP} {Q : Option Value → pmS → pmI → pmJ → pmP → Prop} {a z : Int64} (k : Q (some (.long (opV 45 a z))) S I J P) : pm_Met l E yX10_reckon cX10_reckon 5 (some .long) d 0 0 [.int (nI 45), .long a, .long z] S I J P Q := by
  unfold pm_Met
  have e9 : opV 45 a z = (a - z) := rfl
  rw [e9] at k
  refine pm_lvs (lv' := [(0, _), (1, _), (3, _)]) rfl ?_
  refine pw_iload_n dX10_reckon_0 rfl ?_
  refine pw_tableIn (off := 63) (tgt := 64) dX10_reckon_1 (by decide) (by decide) (by decide) (by decide) ?_
  refine pw_lload_n dX10_reckon_64 rfl ?_
  refine pw_lload_n dX10_reckon_65 rfl ?_
  refine pw_lsub dX10_reckon_66 ?_
  exact pw_lret dX10_reckon_67 rfl (k)

set_option maxRecDepth 20000 in
set_option maxHeartbeats 4000000 in
theorem rw_42 {l : Launch} {E : pmE} {d : Nat} {S : pmS} {I : pmI} {J : pmJ} {P : pmP} {Q : Option Value → pmS → pmI → pmJ → pmP → Prop} {a z : Int64} (k : Q (some (.long (opV 42 a z))) S I J P) : pm_Met l E yX10_reckon cX10_reckon 5 (some .long) d 0 0 [.int (nI 42), .long a, .long z] S I J P Q := by
  unfold pm_Met
  have e9 : opV 42 a z = (a * z) := rfl
  rw [e9] at k
  refine pm_lvs (lv' := [(0, _), (1, _), (3, _)]) rfl ?_
  refine pw_iload_n dX10_reckon_0 rfl ?_
  refine pw_tableIn (off := 67) (tgt := 68) dX10_reckon_1 (by decide) (by decide) (by decide) (by decide) ?_
  refine pw_lload_n dX10_reckon_68 rfl ?_
  refine pw_lload_n dX10_reckon_69 rfl ?_
  refine pw_lmul dX10_reckon_70 ?_
  exact pw_lret dX10_reckon_71 rfl (k)

set_option maxRecDepth 20000 in
set_option maxHeartbeats 4000000 in
theorem rw_47 {l : Launch} {E : pmE} {d : Nat} {S : pmS} {I : pmI} {J : pmJ} {P : pmP} {Q : Option Value → pmS → pmI → pmJ → pmP → Prop} {a z : Int64} (hz : ¬ z = 0) (k : Q (some (.long (opV 47 a z))) S I J P) : pm_Met l E yX10_reckon cX10_reckon 5 (some .long) d 0 0 [.int (nI 47), .long a, .long z] S I J P Q := by
  unfold pm_Met
  have e9 : opV 47 a z = (a / z) := rfl
  rw [e9] at k
  refine pm_lvs (lv' := [(0, _), (1, _), (3, _)]) rfl ?_
  refine pw_iload_n dX10_reckon_0 rfl ?_
  refine pw_tableIn (off := 71) (tgt := 72) dX10_reckon_1 (by decide) (by decide) (by decide) (by decide) ?_
  refine pw_lload_n dX10_reckon_72 rfl ?_
  refine pw_lload_n dX10_reckon_73 rfl ?_
  refine pw_ldiv dX10_reckon_74 (hz) ?_
  exact pw_lret dX10_reckon_75 rfl (k)

set_option maxRecDepth 20000 in
set_option maxHeartbeats 4000000 in
theorem rw_37 {l : Launch} {E : pmE} {d : Nat} {S : pmS} {I : pmI} {J : pmJ} {P : pmP} {Q : Option Value → pmS → pmI → pmJ → pmP → Prop} {a z : Int64} (hz : ¬ z = 0) (k : Q (some (.long (opV 37 a z))) S I J P) : pm_Met l E yX10_reckon cX10_reckon 5 (some .long) d 0 0 [.int (nI 37), .long a, .long z] S I J P Q := by
  unfold pm_Met
  have e9 : opV 37 a z = (a - a / z * z) := rfl
  rw [e9] at k
  refine pm_lvs (lv' := [(0, _), (1, _), (3, _)]) rfl ?_
  refine pw_iload_n dX10_reckon_0 rfl ?_
  refine pw_tableIn (off := 75) (tgt := 76) dX10_reckon_1 (by decide) (by decide) (by decide) (by decide) ?_
  refine pw_lload_n dX10_reckon_76 rfl ?_
  refine pw_lload_n dX10_reckon_77 rfl ?_
  refine pw_lrem dX10_reckon_78 (hz) ?_
  exact pw_lret dX10_reckon_79 rfl (k)

set_option maxRecDepth 20000 in
set_option maxHeartbeats 4000000 in
theorem rw_60 {l : Launch} {E : pmE} {d : Nat} {S : pmS} {I : pmI} {J : pmJ} {P : pmP} {Q : Option Value → pmS → pmI → pmJ → pmP → Prop} {a z : Int64} (k : Q (some (.long (opV 60 a z))) S I J P) : pm_Met l E yX10_reckon cX10_reckon 5 (some .long) d 0 0 [.int (nI 60), .long a, .long z] S I J P Q := by
  unfold pm_Met
  have e9 : opV 60 a z = (if a < z then 1 else 0) := rfl
  rw [e9] at k
  refine pm_lvs (lv' := [(0, _), (1, _), (3, _)]) rfl ?_
  refine pw_iload_n dX10_reckon_0 rfl ?_
  refine pw_tableOut (tgt := 80) dX10_reckon_1 (by decide) (by decide) ?_
  refine pw_lload_n dX10_reckon_80 rfl ?_
  refine pw_lload_n dX10_reckon_81 rfl ?_
  refine pw_lif_ge (tgt := 90) dX10_reckon_82 dX10_reckon_83 (by decide) (fun h83 => ?_) (fun h83 => ?_)
  · refine pw_lconst (v := 0) dX10_reckon_90 (by decide) ?_
    exact pw_lret dX10_reckon_91 rfl (by rw [if_neg (Int64.not_lt.mpr h83)] at k; exact k)
  · refine pw_lconst (v := 1) dX10_reckon_86 (by decide) ?_
    refine pw_goto (tgt := 91) dX10_reckon_87 (by decide) ?_
    exact pw_lret dX10_reckon_91 rfl (by rw [if_pos (Int64.not_le.mp h83)] at k; exact k)

theorem rw_op {l : Launch} {E : pmE} {d : Nat} {S : pmS} {I : pmI} {J : pmJ} {P : pmP} {Q : Option Value → pmS → pmI → pmJ → pmP → Prop} {x : Nat} {a z : Int64} (hx : lvl x ≤ 2) (h61 : ¬ x = 61) (hz : x = 47 ∨ x = 37 → ¬ z = 0) (k : Q (some (.long (opV x a z))) S I J P) : pm_Met l E yX10_reckon cX10_reckon 5 (some .long) d 0 0 [.int (nI x), .long a, .long z] S I J P Q := by
  rcases lvl_op hx with rfl | rfl | rfl | rfl | rfl | rfl | rfl
  · exact rw_60 k
  · exact absurd rfl h61
  · exact rw_43 k
  · exact rw_45 k
  · exact rw_42 k
  · exact rw_47 (hz (Or.inl rfl)) k
  · exact rw_37 (hz (Or.inr rfl)) k
