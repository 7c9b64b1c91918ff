set_option maxRecDepth 20000 in
set_option maxHeartbeats 400000 in
theorem r_co_lp {l : Launch} {E : pmE} {d : Nat} {S : pmS} {I : pmI} {J : pmJ} {P : pmP} {Q : Option Value → pmS → pmI → pmJ → pmP → Prop} (hG : sh_St S) (hP : gr_St P) (hd : 1 ≤ d) {y : Int32} {A : aS} (hA : rA I J A) (hO : aO A) (hRT : rT I J A.th) (kx : ∀ a, Q (some (.int a)) S I J P) : ∀ (m k : Nat) (acc : Int32), 1 ≤ k → k + m = A.rs.length + 1 → pm_W l E yX10_count cX10_count 4 (some .int) d 0 0 109 [(3, .int (nI k)), (2, .int acc), (0, .ref 47), (1, .int y)] [] S I J P (pm_N E Q)
  | 0, k, acc, hk1, hk => by
    have hsl := hO.2.2.2.2.2.2.2.2.2.2.1
    have hrl := hO.2.2.2.2.2.2.2.2.2.2.2.1
    have htl := hO.2.2.2.2.2.2.2.2.2.1
    refine pw_iload_n dX10_count_109 rfl ?_
    refine pw_aload_n dX10_count_110 rfl ?_
    refine pw_getI fX10_305 dX10_count_111 (sh_lt hG (by decide)) (sh_tg hG 45 rfl) rfl ?_
    refine pw_icmpN_gt _ _ (tgt := 155) dX10_count_114 (by decide) (rfl) (hA.r) (by omega) (by omega) (fun h114 => ?_) (fun h114 => absurd h114 (by omega))
    refine pw_iload_n dX10_count_155 rfl ?_
    exact pw_iret dX10_count_156 rfl (kx _)
  | m + 1, k, acc, hk1, hk => by
    have hsl := hO.2.2.2.2.2.2.2.2.2.2.1
    have hrl := hO.2.2.2.2.2.2.2.2.2.2.2.1
    have htl := hO.2.2.2.2.2.2.2.2.2.1
    obtain ⟨v, hv⟩ : ∃ v, A.rs[k - 1]? = some v := ⟨_, List.getElem?_eq_getElem (by omega)⟩
    have hvv := hA.rs (k - 1) v hv
    rw [show k - 1 + 1 = k by omega] at hvv
    have hvO := hO.2.2.2.2.2.2.2.1 v (List.mem_of_getElem? hv)
    have hv2 := hvO.1
    refine pw_iload_n dX10_count_109 rfl ?_
    refine pw_aload_n dX10_count_110 rfl ?_
    refine pw_getI fX10_305 dX10_count_111 (sh_lt hG (by decide)) (sh_tg hG 45 rfl) rfl ?_
    refine pw_icmpN_gt _ _ (tgt := 155) dX10_count_114 (by decide) (rfl) (hA.r) (by omega) (by omega) (fun h114 => absurd h114 (by omega)) (fun h114 => ?_)
    refine pw_iload_n dX10_count_117 rfl ?_
    refine pw_aload_n dX10_count_118 rfl ?_
    refine pw_getR fX10_80 dX10_count_119 (sh_lt hG (by decide)) (sh_tg hG 45 rfl) rfl (gr_at hP 63 rfl) ?_
    refine pw_iload_n dX10_count_122 rfl ?_
    refine pw_ialdN k dX10_count_123 (sh_lt hG (by decide)) (sh_sh hG 69 rfl) (by decide) (rfl) (by omega) ?_
    refine pw_iconst (v := nI 2) dX10_count_124 (by decide) ?_
    refine pw_icmpN_ne _ _ (tgt := 146) dX10_count_125 (by decide) (hvv.1) (rfl) (by omega) (by omega) (fun h125 => ?_) (fun h125 => ?_)
    · refine pw_iconst (v := nI 0) dX10_count_146 (by decide) ?_
      refine pw_iadd dX10_count_147 ?_
      refine pw_istore_n (lv' := [(2, _), (3, _), (0, _), (1, _)]) dX10_count_148 (by decide) rfl ?_
      refine pw_sub [1, 0, 2, 3] rfl ?_
      refine pw_iinc (lv' := [(3, _), (2, _), (0, _), (1, _)]) dX10_count_149 rfl (by decide) rfl ?_
      refine pw_goto (tgt := 109) dX10_count_152 (by decide) ?_
      refine pm_lvs (lv' := [(3, .int (nI (k + 1))), (2, _), (0, _), (1, _)]) (by rw [show nI k + Int32.ofInt 1 = nI (k + 1) from nI_add k 1]) ?_
      exact r_co_lp hG hP hd hA hO hRT kx m (k + 1) _ (by omega) (by omega)
    · obtain ⟨jj, hjj, ejj⟩ := hvO.2 (by omega)
      obtain ⟨⟨s, vs⟩, hth⟩ : ∃ q, A.th[jj]? = some q := ⟨_, List.getElem?_eq_getElem hjj⟩
      obtain ⟨t1, t2, t3, t4⟩ := hO.2.2.2.2.2.2.2.2.1 jj s vs hth
      refine pw_aload_n dX10_count_128 rfl ?_
      refine pw_aload_n dX10_count_129 rfl ?_
      refine pw_getR fX10_83 dX10_count_130 (sh_lt hG (by decide)) (sh_tg hG 45 rfl) rfl (gr_at hP 64 rfl) ?_
      refine pw_iload_n dX10_count_133 rfl ?_
      refine pw_laldN k dX10_count_134 (sh_lt hG (by decide)) (sh_sh hG 70 rfl) (by decide) (rfl) (by omega) ?_
      refine pw_l2i dX10_count_135 ?_
      refine pw_ti (z := nI jj) (by rw [hvv.2, ejj]; exact lN_i _) ?_
      refine pw_callV (as := [_]) (kc' := 0) (ks' := 0) lX10_320 dX10_count_136 rfl rfl (sh_lt hG (by decide)) (sh_tg hG 45 rfl) (Nat.le_of_ble_eq_true rfl) (by omega) (Nat.le_of_ble_eq_true rfl) (Nat.zero_le _) (Nat.zero_le _) ?_
      refine r_old hG hP hA hO hRT (by omega) hth t1 t2 (fun _ _ => ?_) (fun _ => ?_)
      · refine pw_if_eq (tgt := 146) dX10_count_139 (by decide) (fun h139 => ?_) (fun h => absurd (by decide) h)
        refine pw_iconst (v := nI 0) dX10_count_146 (by decide) ?_
        refine pw_iadd dX10_count_147 ?_
        refine pw_istore_n (lv' := [(2, _), (3, _), (0, _), (1, _)]) dX10_count_148 (by decide) rfl ?_
        refine pw_sub [1, 0, 2, 3] rfl ?_
        refine pw_iinc (lv' := [(3, _), (2, _), (0, _), (1, _)]) dX10_count_149 rfl (by decide) rfl ?_
        refine pw_goto (tgt := 109) dX10_count_152 (by decide) ?_
        refine pm_lvs (lv' := [(3, .int (nI (k + 1))), (2, _), (0, _), (1, _)]) (by rw [show nI k + Int32.ofInt 1 = nI (k + 1) from nI_add k 1]) ?_
        exact r_co_lp hG hP hd hA hO hRT kx m (k + 1) _ (by omega) (by omega)
      · refine pw_if_eq (tgt := 146) dX10_count_139 (by decide) (fun h => absurd h (by decide)) (fun h139 => ?_)
        refine pw_iconst (v := nI 1) dX10_count_142 (by decide) ?_
        refine pw_goto (tgt := 147) dX10_count_143 (by decide) ?_
        refine pw_iadd dX10_count_147 ?_
        refine pw_istore_n (lv' := [(2, _), (3, _), (0, _), (1, _)]) dX10_count_148 (by decide) rfl ?_
        refine pw_sub [1, 0, 2, 3] rfl ?_
        refine pw_iinc (lv' := [(3, _), (2, _), (0, _), (1, _)]) dX10_count_149 rfl (by decide) rfl ?_
        refine pw_goto (tgt := 109) dX10_count_152 (by decide) ?_
        refine pm_lvs (lv' := [(3, .int (nI (k + 1))), (2, _), (0, _), (1, _)]) (by rw [show nI k + Int32.ofInt 1 = nI (k + 1) from nI_add k 1]) ?_
        exact r_co_lp hG hP hd hA hO hRT kx m (k + 1) _ (by omega) (by omega)
