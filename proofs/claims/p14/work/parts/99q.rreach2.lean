set_option maxRecDepth 20000 in
set_option maxHeartbeats 400000 in
theorem r_rc2 {l : Launch} {E : pmE} {d : Nat} {S : pmS} {J : pmJ} {P : pmP} {Q : Option Value → pmS → pmI → pmJ → pmP → Prop} (hG : sh_St S) (hP : gr_St P) (hd : 1 ≤ d) {I1 : pmI} {s m : Nat} (hs : s ≤ 40) (hm : m ≤ 60) (hW : nW I1 (64 * s) (64 * s + m)) (kx : ∀ I', mkS I1 m I' → Q none S I' J P) : ∀ (q k : Nat) (I : pmI), k + q = 64 → mkS I1 m I → pm_W l E yX10_reach cX10_reach 5 none d 0 0 40 [(2, .int (nI k)), (0, .ref 47), (1, .int (nI s))] [] S I J P (pm_N E Q)
  | 0, k, I, hk, h => by
    have e : k = 64 := by omega
    subst e
    refine pw_iload_n dX10_reach_40 rfl ?_
    refine pw_bipush (v := nI 64) dX10_reach_41 (by decide) ?_
    refine pw_icmp_ge (tgt := 118) dX10_reach_43 (by decide) (fun h43 => ?_) (fun h => absurd (by decide) h)
    exact pw_vret dX10_reach_118 rfl (kx I h)
  | q + 1, k, I, hk, h => by
    refine pw_iload_n dX10_reach_40 rfl ?_
    refine pw_bipush (v := nI 64) dX10_reach_41 (by decide) ?_
    refine pw_icmpN_ge _ _ (tgt := 118) dX10_reach_43 (by decide) (rfl) (rfl) (by omega) (by omega) (fun h43 => absurd h43 (by omega)) (fun h43 => ?_)
    refine pw_bipush (v := nI 63) dX10_reach_46 (by decide) ?_
    refine pw_istore_n (lv' := [(3, _), (2, _), (0, _), (1, _)]) dX10_reach_48 (by decide) rfl ?_
    refine pm_lvs (lv' := [(3, .int (nI 63)), (2, _), (0, _), (1, _)]) rfl ?_
    refine r_rc1 hG hP hd hs hm hW (fun I2 g => ?_) 63 I (by decide) h
    refine pw_sub [1, 2, 3] rfl ?_
    refine pw_iinc (lv' := [(2, _), (0, _), (1, _)]) dX10_reach_112 rfl (by decide) rfl ?_
    refine pw_goto (tgt := 40) dX10_reach_115 (by decide) ?_
    refine pm_lvs (lv' := [(2, .int (nI (k + 1))), (0, _), (1, _)]) (by rw [show nI k + Int32.ofInt 1 = nI (k + 1) from nI_add k 1]) ?_
    exact r_rc2 hG hP hd hs hm hW kx q (k + 1) I2 (by omega) g
set_option maxRecDepth 20000 in
set_option maxHeartbeats 400000 in
theorem r_reach {l : Launch} {E : pmE} {d : Nat} {S : pmS} {I : pmI} {J : pmJ} {P : pmP} {Q : Option Value → pmS → pmI → pmJ → pmP → Prop} (hG : sh_St S) (hP : gr_St P) (hd : 2 ≤ d) {s m N : Nat} (hs : s ≤ 40) (hm : m ≤ 60) (hW : nW I (64 * s) (64 * s + m)) (hN : I 60 s = nI N) (hN1 : 64 * s ≤ N ∧ N < 64 * s + m) (k : ∀ I', mkS I m I' → Q none S I' J P) : pm_Met l E yX10_reach cX10_reach 5 none d 0 0 [.ref 47, .int (nI s)] S I J P Q := by
  unfold pm_Met
  refine pm_lvs (lv' := [(0, _), (1, _)]) rfl ?_
  refine pw_iconst (v := nI 0) dX10_reach_0 (by decide) ?_
  refine pw_istore_n (lv' := [(2, _), (0, _), (1, _)]) dX10_reach_1 (by decide) rfl ?_
  refine pm_lvs (lv' := [(2, .int (nI 0)), (0, _), (1, _)]) rfl ?_
  refine r_rc0 hG hP (I1 := I) (fun I1 h1 => ?_) 64 0 I rfl (fun _ _ => rfl) (fun j hj => absurd hj (by omega))
  refine pw_aload_n dX10_reach_21 rfl ?_
  refine pw_getR fX10_150 dX10_reach_22 (sh_lt hG (by decide)) (sh_tg hG 45 rfl) rfl (gr_at hP 86 rfl) ?_
  refine pw_aload_n dX10_reach_25 rfl ?_
  refine pw_getR fX10_47 dX10_reach_26 (sh_lt hG (by decide)) (sh_tg hG 45 rfl) rfl (gr_at hP 52 rfl) ?_
  refine pw_iload_n dX10_reach_29 rfl ?_
  refine pw_ialdN s dX10_reach_30 (sh_lt hG (by decide)) (sh_sh hG 58 rfl) (by decide) (rfl) (by omega) ?_
  refine pw_bipush (v := nI 64) dX10_reach_31 (by decide) ?_
  refine pw_iload_n dX10_reach_33 rfl ?_
  refine pw_imul dX10_reach_34 ?_
  refine pw_isub dX10_reach_35 ?_
  refine pw_ti (z := nI (N - 64 * s)) (by rw [h1.1 60 (by decide), hN, show nI 64 * nI s = nI (64 * s) from (Int32.ofNat_mul 64 _).symm, show nI N = nI (N - 64 * s) + nI (64 * s) by rw [nI_add, show N - 64 * s + 64 * s = N by omega], Int32.add_sub_cancel]) ?_
  refine pw_iconst (v := nI 1) dX10_reach_36 (by decide) ?_
  refine pw_zastN (N - 64 * s) dX10_reach_37 (by decide) (sh_lt hG (by decide)) (sh_sh hG 92 rfl) (by decide) (rfl) (by omega) (by decide) ?_
  refine pw_iconst (v := nI 0) dX10_reach_38 (by decide) ?_
  refine pw_istore_n (lv' := [(2, _), (0, _), (1, _)]) dX10_reach_39 (by decide) rfl ?_
  have h0 : mkS I m I1 := ⟨h1.1, fun j hj => (h1.2 j hj).imp id (fun q => absurd q (Nat.not_lt_zero _))⟩
  refine pm_lvs (lv' := [(2, .int (nI 0)), (0, _), (1, _)]) rfl ?_
  exact r_rc2 hG hP (by omega) hs hm hW k 64 0 _ rfl (h0.u (by omega))
