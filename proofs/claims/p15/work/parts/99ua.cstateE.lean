set_option maxRecDepth 20000 in
set_option maxHeartbeats 400000 in
theorem c_isReplE {l : Launch} {E : pmE} {d : Nat} {S : pmS} {I : pmI} {J : pmJ} {P : pmP} {Q : Option Value → pmS → pmI → pmJ → pmP → Prop} (hG : sh_St S) (hP : gr_St P) (hd : 2 ≤ d) {A : aS} {Z : Nat → Nat} {b : Nat} (hc : cA S I J P A Z b) (hO : aO A) {s : Nat} (hs : s < A.sn.length) (k : Q (some (.int (nI (if (A.at s).form ≠ 0 ∧ A.dc (A.at s).dec ≠ some s then 1 else 0)))) S I J P) : pm_Met l E yX4_isReplaced cX4_isReplaced 2 (some .boolean) d 0 0 [.ref 15, .int (nI s)] S I J P Q := by
  unfold pm_Met
  have hsl := hO.2.2.2.2.2.2.2.2.2.2.1
  have hnl := hO.1.2
  have hxO := hO.2.2.2.2.1 s hs
  have hf3 := hxO.1
  refine pm_lvs (lv' := [(0, _), (1, _)]) rfl ?_
  refine pw_aload_n dX4_isReplaced_0 rfl ?_
  refine pw_iload_n dX4_isReplaced_1 rfl ?_
  refine pw_callV (as := [_]) (kc' := 0) (ks' := 0) lX4_82 dX4_isReplaced_2 rfl rfl (sh_lt hG (by decide)) (sh_tg hG 13 rfl) (Nat.le_of_ble_eq_true rfl) (by omega) (Nat.le_of_ble_eq_true rfl) (Nat.zero_le _) (Nat.zero_le _) ?_
  refine s_has1 hG hP hc hsl hs ?_
  refine pw_if_eq (tgt := 20) dX4_isReplaced_5 (by decide) (fun h => absurd h (by decide)) (fun h5 => ?_)
  refine pw_aload_n dX4_isReplaced_8 rfl ?_
  refine pw_getR fX4_39 dX4_isReplaced_9 (sh_lt hG (by decide)) (sh_tg hG 13 rfl) rfl (gr_at hP 19 rfl) ?_
  refine pw_iload_n dX4_isReplaced_12 rfl ?_
  refine pw_aaldN (r := some (Z s + 2)) s dX4_isReplaced_13 (sh_lt hG (by decide)) (sh_sh hG 31 rfl) (by decide) (by decide) (rfl) (by omega) (hc.sn hs).1 ?_
  refine pw_callV (as := []) (kc' := 0) (ks' := 0) lX4_60 dX4_isReplaced_14 rfl rfl (by have := (hc.sn hs).2.1.1.2; omega) (hc.sn hs).2.1.tg (Nat.le_of_ble_eq_true rfl) (by omega) (Nat.le_of_ble_eq_true rfl) (Nat.zero_le _) (Nat.zero_le _) ?_
  refine p_form (hc.sn hs).2.1 ?_
  refine pw_ifN_ne _ (tgt := 22) dX4_isReplaced_17 (by decide) (rfl) (by omega) (fun h17 => ?_) (fun h17 => ?_)
  · refine pw_aload_n dX4_isReplaced_22 rfl ?_
    refine pw_getR fX4_12 dX4_isReplaced_23 (sh_lt hG (by decide)) (sh_tg hG 13 rfl) rfl (gr_at hP 15 rfl) ?_
    refine pw_aload_n dX4_isReplaced_26 rfl ?_
    refine pw_getR fX4_39 dX4_isReplaced_27 (sh_lt hG (by decide)) (sh_tg hG 13 rfl) rfl (gr_at hP 19 rfl) ?_
    refine pw_iload_n dX4_isReplaced_30 rfl ?_
    refine pw_aaldN (r := some (Z s + 2)) s dX4_isReplaced_31 (sh_lt hG (by decide)) (sh_sh hG 31 rfl) (by decide) (by decide) (rfl) (by omega) (hc.sn hs).1 ?_
    refine pw_callV (as := []) (kc' := 0) (ks' := 0) lX4_68 dX4_isReplaced_32 rfl rfl (by have := (hc.sn hs).2.1.1.2; omega) (hc.sn hs).2.1.tg (Nat.le_of_ble_eq_true rfl) (by omega) (Nat.le_of_ble_eq_true rfl) (Nat.zero_le _) (Nat.zero_le _) ?_
    unfold pm_Met
    refine pm_lvs (lv' := [(0, _)]) rfl ?_
    refine pw_aload_n dX5_declared_0 rfl ?_
    refine pw_getI fX5_15 dX5_declared_1 (by have := (hc.sn hs).2.1.1.2; omega) (hc.sn hs).2.1.tg rfl ?_
    refine pw_ti (z := nI (A.ns.idxOf (A.at s).dec)) ((hc.sn hs).2.1.dc (by omega)) ?_
    refine pw_iret dX5_declared_4 rfl ?_
    have hdm := hxO.2.2.1 (by omega)
    refine pw_callV (as := [_]) (kc' := 0) (ks' := 0) lX4_79 dX4_isReplaced_35 rfl rfl (sh_lt hG (by decide)) (sh_tg hG 14 rfl) (Nat.le_of_ble_eq_true rfl) (by omega) (Nat.le_of_ble_eq_true rfl) (Nat.zero_le _) (Nat.zero_le _) ?_
    refine n_decl hG hP (by omega) hc hnl hdm ?_
    refine pw_iload_n dX4_isReplaced_38 rfl ?_
    refine pw_icmp_eq (tgt := 46) dX4_isReplaced_39 (by decide) (fun h39 => ?_) (fun h39 => ?_)
    · rw [if_neg (fun z => z.2 (eN_some hO (by omega) h39))] at k
      refine pw_iconst (v := nI 0) dX4_isReplaced_46 (by decide) ?_
      exact pw_zret dX4_isReplaced_47 rfl (by decide) (k)
    · rw [if_pos ⟨by omega, fun e => h39 (by rw [e]; rfl)⟩] at k
      refine pw_iconst (v := nI 1) dX4_isReplaced_42 (by decide) ?_
      refine pw_goto (tgt := 47) dX4_isReplaced_43 (by decide) ?_
      exact pw_zret dX4_isReplaced_47 rfl (by decide) (k)
  · rw [if_neg (fun z => absurd z.1 (by omega))] at k
    refine pw_iconst (v := nI 0) dX4_isReplaced_20 (by decide) ?_
    exact pw_zret dX4_isReplaced_21 rfl (by decide) (k)
set_option maxRecDepth 20000 in
set_option maxHeartbeats 400000 in
theorem c_lk0_lp {l : Launch} {E : pmE} {d : Nat} {S : pmS} {I : pmI} {J : pmJ} {P : pmP} {Q : Option Value → pmS → pmI → pmJ → pmP → Prop} (hG : sh_St S) (hP : gr_St P) (hd : 2 ≤ d) {ns : List Int64} {z : Nat} {y : sN} (hx : snC S I J P ns z y) (hf : y.form ≠ 2) (hf3 : y.form ≤ 3) {n : Nat} (hn : I 16 4 = nI n) (hl : n ≤ 40) (kx : Q (some (.int (nI 0))) S I J P) {rm : Nat} {L : List dE} (hk : kC S I J P (z + 3) rm L) : ∀ (m k : Nat), k + m = L.length → pm_W l E yX5_lacksName cX5_lacksName 4 (some .boolean) d 0 0 2 [(2, .int (nI k)), (0, .ref (z + 2)), (1, .ref 16)] [] S I J P (pm_N E Q)
  | 0, k, hkm => by
    have hrr := hk.rr
    refine pw_iload_n dX5_lacksName_2 rfl ?_
    refine pw_aload_n dX5_lacksName_3 rfl ?_
    refine pw_getR fX5_26 dX5_lacksName_4 (by have := hx.1.2; omega) hx.tg rfl hx.p4 ?_
    refine pw_callV (as := []) (kc' := 0) (ks' := 0) lX5_30 dX5_lacksName_7 rfl rfl (by have := hk.1.2; omega) hk.2.1 (Nat.le_of_ble_eq_true rfl) (by omega) (Nat.le_of_ble_eq_true rfl) (Nat.zero_le _) (Nat.zero_le _) ?_
    unfold pm_Met
    refine pm_lvs (lv' := [(0, _)]) rfl ?_
    refine pw_aload_n dX0_size_0 rfl ?_
    refine pw_getI fX0_25 dX0_size_1 (by have := hk.1.2; omega) hk.2.1 rfl ?_
    refine pw_iret dX0_size_4 rfl ?_
    refine pw_icmpN_ge _ _ (tgt := 101) dX5_lacksName_10 (by decide) (rfl) (hk.sz) (by omega) (by omega) (fun h10 => ?_) (fun h10 => absurd h10 (by omega))
    refine pw_iconst (v := nI 0) dX5_lacksName_101 (by decide) ?_
    exact pw_zret dX5_lacksName_102 rfl (by decide) (kx)
  | m + 1, k, hkm => by
    have hrr := hk.rr
    refine pw_iload_n dX5_lacksName_2 rfl ?_
    refine pw_aload_n dX5_lacksName_3 rfl ?_
    refine pw_getR fX5_26 dX5_lacksName_4 (by have := hx.1.2; omega) hx.tg rfl hx.p4 ?_
    refine pw_callV (as := []) (kc' := 0) (ks' := 0) lX5_30 dX5_lacksName_7 rfl rfl (by have := hk.1.2; omega) hk.2.1 (Nat.le_of_ble_eq_true rfl) (by omega) (Nat.le_of_ble_eq_true rfl) (Nat.zero_le _) (Nat.zero_le _) ?_
    unfold pm_Met
    refine pm_lvs (lv' := [(0, _)]) rfl ?_
    refine pw_aload_n dX0_size_0 rfl ?_
    refine pw_getI fX0_25 dX0_size_1 (by have := hk.1.2; omega) hk.2.1 rfl ?_
    refine pw_iret dX0_size_4 rfl ?_
    refine pw_icmpN_ge _ _ (tgt := 101) dX5_lacksName_10 (by decide) (rfl) (hk.sz) (by omega) (by omega) (fun h10 => absurd h10 (by omega)) (fun h10 => ?_)
    refine pw_aload_n dX5_lacksName_13 rfl ?_
    refine pw_aload_n dX5_lacksName_14 rfl ?_
    refine pw_getR fX5_26 dX5_lacksName_15 (by have := hx.1.2; omega) hx.tg rfl hx.p4 ?_
    refine pw_iload_n dX5_lacksName_18 rfl ?_
    refine pw_callV (as := [_]) (kc' := 0) (ks' := 0) lX5_40 dX5_lacksName_19 rfl rfl (by have := hk.1.2; omega) hk.2.1 (Nat.le_of_ble_eq_true rfl) (by omega) (Nat.le_of_ble_eq_true rfl) (Nat.zero_le _) (Nat.zero_le _) ?_
    refine k_coreX hk (fun a1 => ?_)
    refine pw_l2i dX5_lacksName_22 ?_
    refine pw_callV (as := [_]) (kc' := 0) (ks' := 0) lX5_44 dX5_lacksName_23 rfl rfl (sh_lt hG (by decide)) (sh_tg hG 14 rfl) (Nat.le_of_ble_eq_true rfl) (by omega) (Nat.le_of_ble_eq_true rfl) (Nat.zero_le _) (Nat.zero_le _) ?_
    refine c_formX hG hP (by omega) hn hl (fun a2 => ?_)
    refine pw_istore_n (lv' := [(3, _), (2, _), (0, _), (1, _)]) dX5_lacksName_26 (by decide) rfl ?_
    refine pw_aload_n dX5_lacksName_27 rfl ?_
    refine pw_getR fX5_26 dX5_lacksName_28 (by have := hx.1.2; omega) hx.tg rfl hx.p4 ?_
    refine pw_iload_n dX5_lacksName_31 rfl ?_
    refine pw_callV (as := [_]) (kc' := 0) (ks' := 0) lX5_36 dX5_lacksName_32 rfl rfl (by have := hk.1.2; omega) hk.2.1 (Nat.le_of_ble_eq_true rfl) (by omega) (Nat.le_of_ble_eq_true rfl) (Nat.zero_le _) (Nat.zero_le _) ?_
    refine k_deedX hk (fun a3 => ?_)
    refine pw_iconst (v := nI 5) dX5_lacksName_35 (by decide) ?_
    refine pw_icmp_ne (tgt := 58) dX5_lacksName_36 (by decide) (fun h36 => ?_) (fun h36 => ?_)
    · refine pw_aload_n dX5_lacksName_58 rfl ?_
      refine pw_getR fX5_26 dX5_lacksName_59 (by have := hx.1.2; omega) hx.tg rfl hx.p4 ?_
      refine pw_iload_n dX5_lacksName_62 rfl ?_
      refine pw_callV (as := [_]) (kc' := 0) (ks' := 0) lX5_36 dX5_lacksName_63 rfl rfl (by have := hk.1.2; omega) hk.2.1 (Nat.le_of_ble_eq_true rfl) (by omega) (Nat.le_of_ble_eq_true rfl) (Nat.zero_le _) (Nat.zero_le _) ?_
      refine k_deedX hk (fun a4 => ?_)
      refine pw_bipush (v := nI 6) dX5_lacksName_66 (by decide) ?_
      refine pw_icmp_ne (tgt := 95) dX5_lacksName_68 (by decide) (fun h68 => ?_) (fun h68 => ?_)
      · refine pw_sub [1, 2, 3] rfl ?_
        refine pw_iinc (lv' := [(2, _), (0, _), (1, _)]) dX5_lacksName_95 rfl (by decide) rfl ?_
        refine pw_goto (tgt := 2) dX5_lacksName_98 (by decide) ?_
        refine pm_lvs (lv' := [(2, .int (nI (k + 1))), (0, _), (1, _)]) (by rw [show nI k + Int32.ofInt 1 = nI (k + 1) from nI_add k 1]) ?_
        exact c_lk0_lp hG hP hd hx hf hf3 hn hl kx hk m (k + 1) (by omega)
      · refine pw_iload_n dX5_lacksName_71 rfl ?_
        refine pw_iconst (v := nI 2) dX5_lacksName_72 (by decide) ?_
        refine pw_icmp_eq (tgt := 95) dX5_lacksName_73 (by decide) (fun h73 => ?_) (fun h73 => ?_)
        · refine pw_sub [1, 2, 3] rfl ?_
          refine pw_iinc (lv' := [(2, _), (0, _), (1, _)]) dX5_lacksName_95 rfl (by decide) rfl ?_
          refine pw_goto (tgt := 2) dX5_lacksName_98 (by decide) ?_
          refine pm_lvs (lv' := [(2, .int (nI (k + 1))), (0, _), (1, _)]) (by rw [show nI k + Int32.ofInt 1 = nI (k + 1) from nI_add k 1]) ?_
          exact c_lk0_lp hG hP hd hx hf hf3 hn hl kx hk m (k + 1) (by omega)
        · refine pw_iload_n dX5_lacksName_76 rfl ?_
          refine pw_iconst (v := nI 3) dX5_lacksName_77 (by decide) ?_
          refine pw_icmp_eq (tgt := 95) dX5_lacksName_78 (by decide) (fun h78 => ?_) (fun h78 => ?_)
          · refine pw_sub [1, 2, 3] rfl ?_
            refine pw_iinc (lv' := [(2, _), (0, _), (1, _)]) dX5_lacksName_95 rfl (by decide) rfl ?_
            refine pw_goto (tgt := 2) dX5_lacksName_98 (by decide) ?_
            refine pm_lvs (lv' := [(2, .int (nI (k + 1))), (0, _), (1, _)]) (by rw [show nI k + Int32.ofInt 1 = nI (k + 1) from nI_add k 1]) ?_
            exact c_lk0_lp hG hP hd hx hf hf3 hn hl kx hk m (k + 1) (by omega)
          · refine pw_aload_n dX5_lacksName_81 rfl ?_
            refine pw_getI fX5_9 dX5_lacksName_82 (by have := hx.1.2; omega) hx.tg rfl ?_
            refine pw_iconst (v := nI 2) dX5_lacksName_85 (by decide) ?_
            refine pw_icmpN_ne _ _ (tgt := 93) dX5_lacksName_86 (by decide) (hx.fm) (rfl) (by omega) (by omega) (fun h86 => ?_) (fun h86 => absurd h86 (by omega))
            refine pw_iconst (v := nI 0) dX5_lacksName_93 (by decide) ?_
            exact pw_zret dX5_lacksName_94 rfl (by decide) (kx)
    · refine pw_iload_n dX5_lacksName_39 rfl ?_
      refine pw_iconst (v := nI 1) dX5_lacksName_40 (by decide) ?_
      refine pw_icmp_eq (tgt := 58) dX5_lacksName_41 (by decide) (fun h41 => ?_) (fun h41 => ?_)
      · refine pw_aload_n dX5_lacksName_58 rfl ?_
        refine pw_getR fX5_26 dX5_lacksName_59 (by have := hx.1.2; omega) hx.tg rfl hx.p4 ?_
        refine pw_iload_n dX5_lacksName_62 rfl ?_
        refine pw_callV (as := [_]) (kc' := 0) (ks' := 0) lX5_36 dX5_lacksName_63 rfl rfl (by have := hk.1.2; omega) hk.2.1 (Nat.le_of_ble_eq_true rfl) (by omega) (Nat.le_of_ble_eq_true rfl) (Nat.zero_le _) (Nat.zero_le _) ?_
        refine k_deedX hk (fun a4 => ?_)
        refine pw_bipush (v := nI 6) dX5_lacksName_66 (by decide) ?_
        refine pw_icmp_ne (tgt := 95) dX5_lacksName_68 (by decide) (fun h68 => ?_) (fun h68 => ?_)
        · refine pw_sub [1, 2, 3] rfl ?_
          refine pw_iinc (lv' := [(2, _), (0, _), (1, _)]) dX5_lacksName_95 rfl (by decide) rfl ?_
          refine pw_goto (tgt := 2) dX5_lacksName_98 (by decide) ?_
          refine pm_lvs (lv' := [(2, .int (nI (k + 1))), (0, _), (1, _)]) (by rw [show nI k + Int32.ofInt 1 = nI (k + 1) from nI_add k 1]) ?_
          exact c_lk0_lp hG hP hd hx hf hf3 hn hl kx hk m (k + 1) (by omega)
        · refine pw_iload_n dX5_lacksName_71 rfl ?_
          refine pw_iconst (v := nI 2) dX5_lacksName_72 (by decide) ?_
          refine pw_icmp_eq (tgt := 95) dX5_lacksName_73 (by decide) (fun h73 => ?_) (fun h73 => ?_)
          · refine pw_sub [1, 2, 3] rfl ?_
            refine pw_iinc (lv' := [(2, _), (0, _), (1, _)]) dX5_lacksName_95 rfl (by decide) rfl ?_
            refine pw_goto (tgt := 2) dX5_lacksName_98 (by decide) ?_
            refine pm_lvs (lv' := [(2, .int (nI (k + 1))), (0, _), (1, _)]) (by rw [show nI k + Int32.ofInt 1 = nI (k + 1) from nI_add k 1]) ?_
            exact c_lk0_lp hG hP hd hx hf hf3 hn hl kx hk m (k + 1) (by omega)
          · refine pw_iload_n dX5_lacksName_76 rfl ?_
            refine pw_iconst (v := nI 3) dX5_lacksName_77 (by decide) ?_
            refine pw_icmp_eq (tgt := 95) dX5_lacksName_78 (by decide) (fun h78 => ?_) (fun h78 => ?_)
            · refine pw_sub [1, 2, 3] rfl ?_
              refine pw_iinc (lv' := [(2, _), (0, _), (1, _)]) dX5_lacksName_95 rfl (by decide) rfl ?_
              refine pw_goto (tgt := 2) dX5_lacksName_98 (by decide) ?_
              refine pm_lvs (lv' := [(2, .int (nI (k + 1))), (0, _), (1, _)]) (by rw [show nI k + Int32.ofInt 1 = nI (k + 1) from nI_add k 1]) ?_
              exact c_lk0_lp hG hP hd hx hf hf3 hn hl kx hk m (k + 1) (by omega)
            · refine pw_aload_n dX5_lacksName_81 rfl ?_
              refine pw_getI fX5_9 dX5_lacksName_82 (by have := hx.1.2; omega) hx.tg rfl ?_
              refine pw_iconst (v := nI 2) dX5_lacksName_85 (by decide) ?_
              refine pw_icmpN_ne _ _ (tgt := 93) dX5_lacksName_86 (by decide) (hx.fm) (rfl) (by omega) (by omega) (fun h86 => ?_) (fun h86 => absurd h86 (by omega))
              refine pw_iconst (v := nI 0) dX5_lacksName_93 (by decide) ?_
              exact pw_zret dX5_lacksName_94 rfl (by decide) (kx)
      · refine pw_aload_n dX5_lacksName_44 rfl ?_
        refine pw_getI fX5_9 dX5_lacksName_45 (by have := hx.1.2; omega) hx.tg rfl ?_
        refine pw_iconst (v := nI 2) dX5_lacksName_48 (by decide) ?_
        refine pw_icmpN_ne _ _ (tgt := 56) dX5_lacksName_49 (by decide) (hx.fm) (rfl) (by omega) (by omega) (fun h49 => ?_) (fun h49 => absurd h49 (by omega))
        refine pw_iconst (v := nI 0) dX5_lacksName_56 (by decide) ?_
        exact pw_zret dX5_lacksName_57 rfl (by decide) (kx)
set_option maxRecDepth 20000 in
set_option maxHeartbeats 400000 in
theorem c_lk0 {l : Launch} {E : pmE} {d : Nat} {S : pmS} {I : pmI} {J : pmJ} {P : pmP} {Q : Option Value → pmS → pmI → pmJ → pmP → Prop} (hG : sh_St S) (hP : gr_St P) (hd : 2 ≤ d) {ns : List Int64} {z : Nat} {y : sN} (hx : snC S I J P ns z y) (hf : y.form ≠ 2) (hf3 : y.form ≤ 3) {n : Nat} (hn : I 16 4 = nI n) (hl : n ≤ 40) (k : Q (some (.int (nI 0))) S I J P) : pm_Met l E yX5_lacksName cX5_lacksName 4 (some .boolean) d 0 0 [.ref (z + 2), .ref 16] S I J P Q := by
  unfold pm_Met
  obtain ⟨rm, L, hk, -⟩ := hx.cd
  refine pm_lvs (lv' := [(0, _), (1, _)]) rfl ?_
  refine pw_iconst (v := nI 0) dX5_lacksName_0 (by decide) ?_
  refine pw_istore_n (lv' := [(2, _), (0, _), (1, _)]) dX5_lacksName_1 (by decide) rfl ?_
  exact c_lk0_lp hG hP hd hx hf hf3 hn hl k hk L.length 0 (Nat.zero_add _)
/-- nothing is wanting for the deed -/
def okD (A : aS) (x : dE) : Prop := (x.1 = 5 → ∀ v, v ∈ A.ns → x.2.2 = hN A.ns v → A.fm v = 1) ∧ (x.1 = 6 → ∀ v, v ∈ A.ns → x.2.2 = hN A.ns v → A.fm v = 2 ∨ A.fm v = 3)
theorem okD_lk {A : aS} {pa : List Int64} {tr : eX} (hw : wt pa (· ∈ A.ns) tr) (h : ∀ x ∈ cp (hN A.ns) tr, okD A x) : lkB A tr = false := by
  refine lkB_f (fun u hu => ?_)
  obtain ⟨x, x1, x2⟩ := (us_cp (hN A.ns) tr hw).2 u hu
  have hn := us_nm _ hw u hu
  have g := h x x1
  obtain ⟨c, v⟩ := u
  cases c with
  | true =>
    have e1 : x.1 = 6 := congrArg Prod.fst x2
    have e2 : x.2.2 = hN A.ns v := congrArg Prod.snd x2
    exact lkU_c0 (g.2 e1 v hn.1 e2)
  | false =>
    have e1 : x.1 = 5 := congrArg Prod.fst x2
    have e2 : x.2.2 = hN A.ns v := congrArg Prod.snd x2
    exact lkU_v0 (g.1 e1 v hn.1 e2)
theorem lvl_ltE {x : Nat} (h : lvl x ≤ 2) : x < 100 := by
  unfold lvl at h
  split at h
  · omega
  · split at h
    · omega
    · split at h
      · omega
      · omega
theorem dE_cp {pa : List Int64} {Nm : Int64 → Prop} (h : Int64 → Int64) : ∀ T, wt pa Nm T → ∀ x ∈ cp h T, x.1 < 100
  | .leaf, hT => hT.elim
  | .inner k q u a .leaf, hT => by
    intro x hx
    rcases hT with rfl | rfl | ⟨rfl, h2, h3⟩ | ⟨rfl, h2, h3⟩ | ⟨rfl, h2⟩ | ⟨rfl, h2, h3⟩
    · rw [List.mem_singleton.mp hx]; show (2 : Nat) < 100; decide
    · rw [List.mem_singleton.mp hx]; show (3 : Nat) < 100; decide
    · rw [List.mem_singleton.mp hx]; show (4 : Nat) < 100; decide
    · rw [List.mem_singleton.mp hx]; show (5 : Nat) < 100; decide
    · have hx : x ∈ ((1, 0, 0) :: (cp h a ++ [(10, 0, 0)]) : List dE) := hx
      rcases List.mem_cons.mp hx with rfl | hx
      · show (1 : Nat) < 100; decide
      · rcases List.mem_append.mp hx with hx | hx
        · exact dE_cp h a h2 x hx
        · rw [List.mem_singleton.mp hx]; show (10 : Nat) < 100; decide
    · have hx : x ∈ ((1, 0, 0) :: (cp h a ++ [(9, 0, h q.2)]) : List dE) := hx
      rcases List.mem_cons.mp hx with rfl | hx
      · show (1 : Nat) < 100; decide
      · rcases List.mem_append.mp hx with hx | hx
        · exact dE_cp h a h3 x hx
        · rw [List.mem_singleton.mp hx]; show (9 : Nat) < 100; decide
  | .inner k q u a (.inner k2 q2 u2 b c), hT => by
    intro x hx
    have lf : ∀ T : eX, T = .leaf → x ∈ cp h T → x.1 < 100 := fun T e hx => by subst e; cases hx
    rcases hT with ⟨rfl, h2, h3, h4, h5, h6⟩ | ⟨rfl, h2, h3, h4, rfl⟩ | ⟨rfl, h2, h3, h4⟩
    · have hx : x ∈ ((6, nI q.1, h q.2) :: (cp h a ++ (cp h b ++ (cp h c ++ [(8, nI q.1, h q.2)]))) : List dE) := hx
      rcases List.mem_cons.mp hx with rfl | hx
      · show (6 : Nat) < 100; decide
      · rcases List.mem_append.mp hx with hx | hx
        · exact h4.elim (fun z => lf a z.2 hx) (fun z => dE_cp h a z.2 x hx)
        · rcases List.mem_append.mp hx with hx | hx
          · exact h5.elim (fun z => lf b z.2 hx) (fun z => dE_cp h b z.2 x hx)
          · rcases List.mem_append.mp hx with hx | hx
            · exact h6.elim (fun z => lf c z.2 hx) (fun z => dE_cp h c z.2 x hx)
            · rw [List.mem_singleton.mp hx]; show (8 : Nat) < 100; decide
    · have hx : x ∈ ((1, 0, 0) :: (cp h a ++ (cp h b ++ [(q.1, 0, 0)])) : List dE) := hx
      rcases List.mem_cons.mp hx with rfl | hx
      · show (1 : Nat) < 100; decide
      · rcases List.mem_append.mp hx with hx | hx
        · exact dE_cp h a h3 x hx
        · rcases List.mem_append.mp hx with hx | hx
          · exact dE_cp h b h4 x hx
          · rw [List.mem_singleton.mp hx]; exact lvl_ltE h2
    · have hx : x ∈ ((1, 0, 0) :: (cp h a ++ (11, nI ((cp h b).length + 1), 0) :: (cp h b ++ (12, nI (cp h c).length, 0) :: cp h c)) : List dE) := hx
      rcases List.mem_cons.mp hx with rfl | hx
      · show (1 : Nat) < 100; decide
      · rcases List.mem_append.mp hx with hx | hx
        · exact dE_cp h a h2 x hx
        · rcases List.mem_cons.mp hx with rfl | hx
          · show (11 : Nat) < 100; decide
          · rcases List.mem_append.mp hx with hx | hx
            · exact dE_cp h b h3 x hx
            · rcases List.mem_cons.mp hx with rfl | hx
              · show (12 : Nat) < 100; decide
              · exact dE_cp h c h4 x hx
theorem dE_lt {pa : List Int64} {Nm : Int64 → Prop} {h : Int64 → Int64} {T : eX} (hw : wt pa Nm T) {x : dE} (hx : x ∈ cp h T ++ [(13, 0, 0)]) : x.1 < 2 ^ 31 := by
  rcases List.mem_append.mp hx with q | q
  · have := dE_cp h T hw x q
    omega
  · rw [List.mem_singleton.mp q]
    show (13 : Nat) < 2 ^ 31
    decide
set_option maxRecDepth 20000 in
set_option maxHeartbeats 400000 in
theorem c_lkE_lp {l : Launch} {E : pmE} {d : Nat} {S : pmS} {I : pmI} {J : pmJ} {P : pmP} {Q : Option Value → pmS → pmI → pmJ → pmP → Prop} (hG : sh_St S) (hP : gr_St P) (hd : 2 ≤ d) {A : aS} {Z : Nat → Nat} {b : Nat} (hc : cA S I J P A Z b) (hO : aO A) {z : Nat} {y : sN} (hx : snC S I J P A.ns z y) (hf : y.form = 2) (hw : wt y.pa (· ∈ A.ns) y.tr) (kx : Q (some (.int (nI (if lkB A y.tr = true then 1 else 0)))) S I J P) {rm : Nat} (hk : kC S I J P (z + 3) rm (cp (hN A.ns) y.tr ++ [(13, 0, 0)])) : ∀ (m k : Nat), k + m = (cp (hN A.ns) y.tr ++ [(13, 0, 0)]).length → (∀ i x, i < k → (cp (hN A.ns) y.tr ++ [(13, 0, 0)])[i]? = some x → okD A x) → pm_W l E yX5_lacksName cX5_lacksName 4 (some .boolean) d 0 0 2 [(2, .int (nI k)), (0, .ref (z + 2)), (1, .ref 16)] [] S I J P (pm_N E Q)
  | 0, k, hkm, hi => by
    have hrr := hk.rr
    have hno : lkB A y.tr = false := okD_lk hw (fun x hxm => by
      obtain ⟨i, hi1, hi2⟩ := List.mem_iff_getElem.mp hxm
      refine hi i x (by rw [List.length_append] at hkm; omega) ?_
      rw [List.getElem?_append_left hi1, List.getElem?_eq_getElem hi1, hi2])
    rw [hno, if_neg (by decide)] at kx
    refine pw_iload_n dX5_lacksName_2 rfl ?_
    refine pw_aload_n dX5_lacksName_3 rfl ?_
    refine pw_getR fX5_26 dX5_lacksName_4 (by have := hx.1.2; omega) hx.tg rfl hx.p4 ?_
    refine pw_callV (as := []) (kc' := 0) (ks' := 0) lX5_30 dX5_lacksName_7 rfl rfl (by have := hk.1.2; omega) hk.2.1 (Nat.le_of_ble_eq_true rfl) (by omega) (Nat.le_of_ble_eq_true rfl) (Nat.zero_le _) (Nat.zero_le _) ?_
    unfold pm_Met
    refine pm_lvs (lv' := [(0, _)]) rfl ?_
    refine pw_aload_n dX0_size_0 rfl ?_
    refine pw_getI fX0_25 dX0_size_1 (by have := hk.1.2; omega) hk.2.1 rfl ?_
    refine pw_iret dX0_size_4 rfl ?_
    refine pw_icmpN_ge _ _ (tgt := 101) dX5_lacksName_10 (by decide) (rfl) (hk.sz) (by omega) (by omega) (fun h10 => ?_) (fun h10 => absurd h10 (by omega))
    refine pw_iconst (v := nI 0) dX5_lacksName_101 (by decide) ?_
    exact pw_zret dX5_lacksName_102 rfl (by decide) (kx)
  | m + 1, k, hkm, hi => by
    have hrr := hk.rr
    have hnl := hO.1.2
    obtain ⟨x, hq⟩ : ∃ x, (cp (hN A.ns) y.tr ++ [(13, 0, 0)])[k]? = some x := ⟨_, List.getElem?_eq_getElem (by omega)⟩
    have hxm := List.mem_of_getElem? hq
    by_cases h56 : x.1 = 5 ∨ x.1 = 6
    · have hxc : x ∈ cp (hN A.ns) y.tr := by
        rcases List.mem_append.mp hxm with q9 | q9
        · exact q9
        · rw [List.mem_singleton.mp q9] at h56
          exact absurd h56 (show ¬ ((13 : Nat) = 5 ∨ (13 : Nat) = 6) by decide)
      obtain ⟨⟨c, v⟩, u1, u2⟩ := (us_cp (hN A.ns) y.tr hw).1 x hxc h56
      have hvn := (us_nm _ hw _ u1).1
      have e2 : hN A.ns v = x.2.2 := congrArg Prod.snd u2
      have e1 : (if c = true then 6 else 5) = x.1 := congrArg Prod.fst u2
      have huni : ∀ u, u ∈ A.ns → x.2.2 = hN A.ns u → u = v := fun u hu e => hN_inj hu hvn hnl (e.symm.trans e2.symm)
      have hfm3 : A.fm v ≤ 3 := by
        by_cases z9 : A.fm v = 0
        · omega
        · obtain ⟨s', z1, z2, z3, -⟩ := hO.2.2.2.1 v z9
          have := (hO.2.2.2.2.1 s' z2).1
          omega
      refine pw_iload_n dX5_lacksName_2 rfl ?_
      refine pw_aload_n dX5_lacksName_3 rfl ?_
      refine pw_getR fX5_26 dX5_lacksName_4 (by have := hx.1.2; omega) hx.tg rfl hx.p4 ?_
      refine pw_callV (as := []) (kc' := 0) (ks' := 0) lX5_30 dX5_lacksName_7 rfl rfl (by have := hk.1.2; omega) hk.2.1 (Nat.le_of_ble_eq_true rfl) (by omega) (Nat.le_of_ble_eq_true rfl) (Nat.zero_le _) (Nat.zero_le _) ?_
      unfold pm_Met
      refine pm_lvs (lv' := [(0, _)]) rfl ?_
      refine pw_aload_n dX0_size_0 rfl ?_
      refine pw_getI fX0_25 dX0_size_1 (by have := hk.1.2; omega) hk.2.1 rfl ?_
      refine pw_iret dX0_size_4 rfl ?_
      refine pw_icmpN_ge _ _ (tgt := 101) dX5_lacksName_10 (by decide) (rfl) (hk.sz) (by omega) (by omega) (fun h10 => absurd h10 (by omega)) (fun h10 => ?_)
      refine pw_aload_n dX5_lacksName_13 rfl ?_
      refine pw_aload_n dX5_lacksName_14 rfl ?_
      refine pw_getR fX5_26 dX5_lacksName_15 (by have := hx.1.2; omega) hx.tg rfl hx.p4 ?_
      refine pw_iload_n dX5_lacksName_18 rfl ?_
      refine pw_callV (as := [_]) (kc' := 0) (ks' := 0) lX5_40 dX5_lacksName_19 rfl rfl (by have := hk.1.2; omega) hk.2.1 (Nat.le_of_ble_eq_true rfl) (by omega) (Nat.le_of_ble_eq_true rfl) (Nat.zero_le _) (Nat.zero_le _) ?_
      refine k_core hk hq (by omega) ?_
      refine pw_tj (z := hN A.ns v) e2.symm ?_
      refine pw_l2i dX5_lacksName_22 ?_
      refine pw_ti (z := nI (A.ns.idxOf v)) (lN_i _) ?_
      refine pw_callV (as := [_]) (kc' := 0) (ks' := 0) lX5_44 dX5_lacksName_23 rfl rfl (sh_lt hG (by decide)) (sh_tg hG 14 rfl) (Nat.le_of_ble_eq_true rfl) (by omega) (Nat.le_of_ble_eq_true rfl) (Nat.zero_le _) (Nat.zero_le _) ?_
      refine n_form hG hP (by omega) hc hnl hvn ?_
      refine pw_istore_n (lv' := [(3, _), (2, _), (0, _), (1, _)]) dX5_lacksName_26 (by decide) rfl ?_
      refine pw_aload_n dX5_lacksName_27 rfl ?_
      refine pw_getR fX5_26 dX5_lacksName_28 (by have := hx.1.2; omega) hx.tg rfl hx.p4 ?_
      refine pw_iload_n dX5_lacksName_31 rfl ?_
      refine pw_callV (as := [_]) (kc' := 0) (ks' := 0) lX5_36 dX5_lacksName_32 rfl rfl (by have := hk.1.2; omega) hk.2.1 (Nat.le_of_ble_eq_true rfl) (by omega) (Nat.le_of_ble_eq_true rfl) (Nat.zero_le _) (Nat.zero_le _) ?_
      refine k_deed hk hq ?_
      refine pw_iconst (v := nI 5) dX5_lacksName_35 (by decide) ?_
      refine pw_icmpN_ne _ _ (tgt := 58) dX5_lacksName_36 (by decide) (rfl) (rfl) (by omega) (by omega) (fun h36 => ?_) (fun h36 => ?_)
      · refine pw_aload_n dX5_lacksName_58 rfl ?_
        refine pw_getR fX5_26 dX5_lacksName_59 (by have := hx.1.2; omega) hx.tg rfl hx.p4 ?_
        refine pw_iload_n dX5_lacksName_62 rfl ?_
        refine pw_callV (as := [_]) (kc' := 0) (ks' := 0) lX5_36 dX5_lacksName_63 rfl rfl (by have := hk.1.2; omega) hk.2.1 (Nat.le_of_ble_eq_true rfl) (by omega) (Nat.le_of_ble_eq_true rfl) (Nat.zero_le _) (Nat.zero_le _) ?_
        refine k_deed hk hq ?_
        refine pw_bipush (v := nI 6) dX5_lacksName_66 (by decide) ?_
        refine pw_icmpN_ne _ _ (tgt := 95) dX5_lacksName_68 (by decide) (rfl) (rfl) (by omega) (by omega) (fun h68 => absurd h68 (by omega)) (fun h68 => ?_)
        refine pw_iload_n dX5_lacksName_71 rfl ?_
        refine pw_iconst (v := nI 2) dX5_lacksName_72 (by decide) ?_
        refine pw_icmpN_eq _ _ (tgt := 95) dX5_lacksName_73 (by decide) (rfl) (rfl) (by omega) (by omega) (fun h73 => ?_) (fun h73 => ?_)
        · refine pw_sub [1, 2, 3] rfl ?_
          refine pw_iinc (lv' := [(2, _), (0, _), (1, _)]) dX5_lacksName_95 rfl (by decide) rfl ?_
          refine pw_goto (tgt := 2) dX5_lacksName_98 (by decide) ?_
          refine pm_lvs (lv' := [(2, .int (nI (k + 1))), (0, _), (1, _)]) (by rw [show nI k + Int32.ofInt 1 = nI (k + 1) from nI_add k 1]) ?_
          exact c_lkE_lp hG hP hd hc hO hx hf hw kx hk m (k + 1) (by omega) (fun i x h1 h2 => by
            rcases Nat.lt_or_ge i k with q9 | q9
            · exact hi i x q9 h2
            · have e9 : i = k := by omega
              rw [e9, hq] at h2
              cases h2
              exact ⟨fun z9 => absurd z9 (by omega), fun _ u hu e => by rw [huni u hu e]; omega⟩)
        · refine pw_iload_n dX5_lacksName_76 rfl ?_
          refine pw_iconst (v := nI 3) dX5_lacksName_77 (by decide) ?_
          refine pw_icmpN_eq _ _ (tgt := 95) dX5_lacksName_78 (by decide) (rfl) (rfl) (by omega) (by omega) (fun h78 => ?_) (fun h78 => ?_)
          · refine pw_sub [1, 2, 3] rfl ?_
            refine pw_iinc (lv' := [(2, _), (0, _), (1, _)]) dX5_lacksName_95 rfl (by decide) rfl ?_
            refine pw_goto (tgt := 2) dX5_lacksName_98 (by decide) ?_
            refine pm_lvs (lv' := [(2, .int (nI (k + 1))), (0, _), (1, _)]) (by rw [show nI k + Int32.ofInt 1 = nI (k + 1) from nI_add k 1]) ?_
            exact c_lkE_lp hG hP hd hc hO hx hf hw kx hk m (k + 1) (by omega) (fun i x h1 h2 => by
              rcases Nat.lt_or_ge i k with q9 | q9
              · exact hi i x q9 h2
              · have e9 : i = k := by omega
                rw [e9, hq] at h2
                cases h2
                exact ⟨fun z9 => absurd z9 (by omega), fun _ u hu e => by rw [huni u hu e]; omega⟩)
          · have hlk : lkB A y.tr = true := lkB_t u1 (by
              cases c with
              | true => first | exact lkU_c (by omega) | exact absurd e1 (show ¬ ((6 : Nat) = x.1) by omega)
              | false => first | exact lkU_v (by omega) | exact absurd e1 (show ¬ ((5 : Nat) = x.1) by omega))
            rw [if_pos hlk] at kx
            refine pw_aload_n dX5_lacksName_81 rfl ?_
            refine pw_getI fX5_9 dX5_lacksName_82 (by have := hx.1.2; omega) hx.tg rfl ?_
            refine pw_iconst (v := nI 2) dX5_lacksName_85 (by decide) ?_
            refine pw_icmpN_ne _ _ (tgt := 93) dX5_lacksName_86 (by decide) (hx.fm) (rfl) (by omega) (by omega) (fun h86 => absurd h86 (by omega)) (fun h86 => ?_)
            refine pw_iconst (v := nI 1) dX5_lacksName_89 (by decide) ?_
            refine pw_goto (tgt := 94) dX5_lacksName_90 (by decide) ?_
            exact pw_zret dX5_lacksName_94 rfl (by decide) (kx)
      · refine pw_iload_n dX5_lacksName_39 rfl ?_
        refine pw_iconst (v := nI 1) dX5_lacksName_40 (by decide) ?_
        refine pw_icmpN_eq _ _ (tgt := 58) dX5_lacksName_41 (by decide) (rfl) (rfl) (by omega) (by omega) (fun h41 => ?_) (fun h41 => ?_)
        · refine pw_aload_n dX5_lacksName_58 rfl ?_
          refine pw_getR fX5_26 dX5_lacksName_59 (by have := hx.1.2; omega) hx.tg rfl hx.p4 ?_
          refine pw_iload_n dX5_lacksName_62 rfl ?_
          refine pw_callV (as := [_]) (kc' := 0) (ks' := 0) lX5_36 dX5_lacksName_63 rfl rfl (by have := hk.1.2; omega) hk.2.1 (Nat.le_of_ble_eq_true rfl) (by omega) (Nat.le_of_ble_eq_true rfl) (Nat.zero_le _) (Nat.zero_le _) ?_
          refine k_deed hk hq ?_
          refine pw_bipush (v := nI 6) dX5_lacksName_66 (by decide) ?_
          refine pw_icmpN_ne _ _ (tgt := 95) dX5_lacksName_68 (by decide) (rfl) (rfl) (by omega) (by omega) (fun h68 => ?_) (fun h68 => absurd h68 (by omega))
          refine pw_sub [1, 2, 3] rfl ?_
          refine pw_iinc (lv' := [(2, _), (0, _), (1, _)]) dX5_lacksName_95 rfl (by decide) rfl ?_
          refine pw_goto (tgt := 2) dX5_lacksName_98 (by decide) ?_
          refine pm_lvs (lv' := [(2, .int (nI (k + 1))), (0, _), (1, _)]) (by rw [show nI k + Int32.ofInt 1 = nI (k + 1) from nI_add k 1]) ?_
          exact c_lkE_lp hG hP hd hc hO hx hf hw kx hk m (k + 1) (by omega) (fun i x h1 h2 => by
            rcases Nat.lt_or_ge i k with q9 | q9
            · exact hi i x q9 h2
            · have e9 : i = k := by omega
              rw [e9, hq] at h2
              cases h2
              exact ⟨fun _ u hu e => by rw [huni u hu e]; omega, fun z9 => absurd z9 (by omega)⟩)
        · have hlk : lkB A y.tr = true := lkB_t u1 (by
            cases c with
            | true => first | exact lkU_c (by omega) | exact absurd e1 (show ¬ ((6 : Nat) = x.1) by omega)
            | false => first | exact lkU_v (by omega) | exact absurd e1 (show ¬ ((5 : Nat) = x.1) by omega))
          rw [if_pos hlk] at kx
          refine pw_aload_n dX5_lacksName_44 rfl ?_
          refine pw_getI fX5_9 dX5_lacksName_45 (by have := hx.1.2; omega) hx.tg rfl ?_
          refine pw_iconst (v := nI 2) dX5_lacksName_48 (by decide) ?_
          refine pw_icmpN_ne _ _ (tgt := 56) dX5_lacksName_49 (by decide) (hx.fm) (rfl) (by omega) (by omega) (fun h49 => absurd h49 (by omega)) (fun h49 => ?_)
          refine pw_iconst (v := nI 1) dX5_lacksName_52 (by decide) ?_
          refine pw_goto (tgt := 57) dX5_lacksName_53 (by decide) ?_
          exact pw_zret dX5_lacksName_57 rfl (by decide) (kx)
    · have hx13 : x.1 < 2 ^ 31 := dE_lt hw hxm
      refine pw_iload_n dX5_lacksName_2 rfl ?_
      refine pw_aload_n dX5_lacksName_3 rfl ?_
      refine pw_getR fX5_26 dX5_lacksName_4 (by have := hx.1.2; omega) hx.tg rfl hx.p4 ?_
      refine pw_callV (as := []) (kc' := 0) (ks' := 0) lX5_30 dX5_lacksName_7 rfl rfl (by have := hk.1.2; omega) hk.2.1 (Nat.le_of_ble_eq_true rfl) (by omega) (Nat.le_of_ble_eq_true rfl) (Nat.zero_le _) (Nat.zero_le _) ?_
      unfold pm_Met
      refine pm_lvs (lv' := [(0, _)]) rfl ?_
      refine pw_aload_n dX0_size_0 rfl ?_
      refine pw_getI fX0_25 dX0_size_1 (by have := hk.1.2; omega) hk.2.1 rfl ?_
      refine pw_iret dX0_size_4 rfl ?_
      refine pw_icmpN_ge _ _ (tgt := 101) dX5_lacksName_10 (by decide) (rfl) (hk.sz) (by omega) (by omega) (fun h10 => absurd h10 (by omega)) (fun h10 => ?_)
      refine pw_aload_n dX5_lacksName_13 rfl ?_
      refine pw_aload_n dX5_lacksName_14 rfl ?_
      refine pw_getR fX5_26 dX5_lacksName_15 (by have := hx.1.2; omega) hx.tg rfl hx.p4 ?_
      refine pw_iload_n dX5_lacksName_18 rfl ?_
      refine pw_callV (as := [_]) (kc' := 0) (ks' := 0) lX5_40 dX5_lacksName_19 rfl rfl (by have := hk.1.2; omega) hk.2.1 (Nat.le_of_ble_eq_true rfl) (by omega) (Nat.le_of_ble_eq_true rfl) (Nat.zero_le _) (Nat.zero_le _) ?_
      refine k_coreX hk (fun a1 => ?_)
      refine pw_l2i dX5_lacksName_22 ?_
      refine pw_callV (as := [_]) (kc' := 0) (ks' := 0) lX5_44 dX5_lacksName_23 rfl rfl (sh_lt hG (by decide)) (sh_tg hG 14 rfl) (Nat.le_of_ble_eq_true rfl) (by omega) (Nat.le_of_ble_eq_true rfl) (Nat.zero_le _) (Nat.zero_le _) ?_
      refine c_formX hG hP (by omega) hc.n hnl (fun a2 => ?_)
      refine pw_istore_n (lv' := [(3, _), (2, _), (0, _), (1, _)]) dX5_lacksName_26 (by decide) rfl ?_
      refine pw_aload_n dX5_lacksName_27 rfl ?_
      refine pw_getR fX5_26 dX5_lacksName_28 (by have := hx.1.2; omega) hx.tg rfl hx.p4 ?_
      refine pw_iload_n dX5_lacksName_31 rfl ?_
      refine pw_callV (as := [_]) (kc' := 0) (ks' := 0) lX5_36 dX5_lacksName_32 rfl rfl (by have := hk.1.2; omega) hk.2.1 (Nat.le_of_ble_eq_true rfl) (by omega) (Nat.le_of_ble_eq_true rfl) (Nat.zero_le _) (Nat.zero_le _) ?_
      refine k_deed hk hq ?_
      refine pw_iconst (v := nI 5) dX5_lacksName_35 (by decide) ?_
      refine pw_icmpN_ne _ _ (tgt := 58) dX5_lacksName_36 (by decide) (rfl) (rfl) (by omega) (by omega) (fun h36 => ?_) (fun h36 => absurd h36 (by omega))
      refine pw_aload_n dX5_lacksName_58 rfl ?_
      refine pw_getR fX5_26 dX5_lacksName_59 (by have := hx.1.2; omega) hx.tg rfl hx.p4 ?_
      refine pw_iload_n dX5_lacksName_62 rfl ?_
      refine pw_callV (as := [_]) (kc' := 0) (ks' := 0) lX5_36 dX5_lacksName_63 rfl rfl (by have := hk.1.2; omega) hk.2.1 (Nat.le_of_ble_eq_true rfl) (by omega) (Nat.le_of_ble_eq_true rfl) (Nat.zero_le _) (Nat.zero_le _) ?_
      refine k_deed hk hq ?_
      refine pw_bipush (v := nI 6) dX5_lacksName_66 (by decide) ?_
      refine pw_icmpN_ne _ _ (tgt := 95) dX5_lacksName_68 (by decide) (rfl) (rfl) (by omega) (by omega) (fun h68 => ?_) (fun h68 => absurd h68 (by omega))
      refine pw_sub [1, 2, 3] rfl ?_
      refine pw_iinc (lv' := [(2, _), (0, _), (1, _)]) dX5_lacksName_95 rfl (by decide) rfl ?_
      refine pw_goto (tgt := 2) dX5_lacksName_98 (by decide) ?_
      refine pm_lvs (lv' := [(2, .int (nI (k + 1))), (0, _), (1, _)]) (by rw [show nI k + Int32.ofInt 1 = nI (k + 1) from nI_add k 1]) ?_
      exact c_lkE_lp hG hP hd hc hO hx hf hw kx hk m (k + 1) (by omega) (fun i x h1 h2 => by
        rcases Nat.lt_or_ge i k with q9 | q9
        · exact hi i x q9 h2
        · have e9 : i = k := by omega
          rw [e9, hq] at h2
          cases h2
          exact ⟨fun z9 => absurd z9 (by omega), fun z9 => absurd z9 (by omega)⟩)
set_option maxRecDepth 20000 in
set_option maxHeartbeats 400000 in
theorem c_lkE {l : Launch} {E : pmE} {d : Nat} {S : pmS} {I : pmI} {J : pmJ} {P : pmP} {Q : Option Value → pmS → pmI → pmJ → pmP → Prop} (hG : sh_St S) (hP : gr_St P) (hd : 2 ≤ d) {A : aS} {Z : Nat → Nat} {b : Nat} (hc : cA S I J P A Z b) (hO : aO A) {z : Nat} {y : sN} (hx : snC S I J P A.ns z y) (hf : y.form = 2) (hw : wt y.pa (· ∈ A.ns) y.tr) (k : Q (some (.int (nI (if lkB A y.tr = true then 1 else 0)))) S I J P) : pm_Met l E yX5_lacksName cX5_lacksName 4 (some .boolean) d 0 0 [.ref (z + 2), .ref 16] S I J P Q := by
  unfold pm_Met
  obtain ⟨rm, L, hk, hL⟩ := hx.cd
  rw [hL hf] at hk
  refine pm_lvs (lv' := [(0, _), (1, _)]) rfl ?_
  refine pw_iconst (v := nI 0) dX5_lacksName_0 (by decide) ?_
  refine pw_istore_n (lv' := [(2, _), (0, _), (1, _)]) dX5_lacksName_1 (by decide) rfl ?_
  exact c_lkE_lp hG hP hd hc hO hx hf hw k hk _ 0 (Nat.zero_add _) (fun i x h => absurd h (Nat.not_lt_zero _))
set_option maxRecDepth 20000 in
set_option maxHeartbeats 400000 in
theorem c_stateOfE {l : Launch} {E : pmE} {d : Nat} {S : pmS} {I : pmI} {J : pmJ} {P : pmP} {Q : Option Value → pmS → pmI → pmJ → pmP → Prop} (hG : sh_St S) (hP : gr_St P) (hd : 4 ≤ d) {A : aS} {Z : Nat → Nat} {b : Nat} (hc : cA S I J P A Z b) (hO : aO A) {s : Nat} (hs : s < A.sn.length) (k : Q (some (.int (nI (stV A s)))) S I J P) : pm_Met l E yX4_stateOf cX4_stateOf 2 (some .int) d 0 0 [.ref 15, .int (nI s)] S I J P Q := by
  unfold pm_Met
  have hsl := hO.2.2.2.2.2.2.2.2.2.2.1
  have hnl := hO.1.2
  have hxO := hO.2.2.2.2.1 s hs
  have hf3 := hxO.1
  refine pm_lvs (lv' := [(0, _), (1, _)]) rfl ?_
  by_cases hr : (A.at s).form ≠ 0 ∧ A.dc (A.at s).dec ≠ some s
  · rw [show stV A s = 2 from if_pos hr] at k
    refine pw_aload_n dX4_stateOf_0 rfl ?_
    refine pw_iload_n dX4_stateOf_1 rfl ?_
    refine pw_callV (as := [_]) (kc' := 0) (ks' := 0) lX4_96 dX4_stateOf_2 rfl rfl (sh_lt hG (by decide)) (sh_tg hG 13 rfl) (Nat.le_of_ble_eq_true rfl) (by omega) (Nat.le_of_ble_eq_true rfl) (Nat.zero_le _) (Nat.zero_le _) ?_
    refine c_isReplE hG hP (by omega) hc hO hs ?_
    rw [if_pos hr]
    refine pw_if_eq (tgt := 10) dX4_stateOf_5 (by decide) (fun h => absurd h (by decide)) (fun h5 => ?_)
    refine pw_iconst (v := nI 2) dX4_stateOf_8 (by decide) ?_
    exact pw_iret dX4_stateOf_9 rfl (k)
  · by_cases h2 : (A.at s).form = 2
    · have hw := hxO.2.2.2.2.1 h2
      by_cases hlk : lkB A (A.at s).tr = true
      · rw [show stV A s = 1 from (if_neg hr).trans (if_pos ⟨h2, hlk⟩)] at k
        refine pw_aload_n dX4_stateOf_0 rfl ?_
        refine pw_iload_n dX4_stateOf_1 rfl ?_
        refine pw_callV (as := [_]) (kc' := 0) (ks' := 0) lX4_96 dX4_stateOf_2 rfl rfl (sh_lt hG (by decide)) (sh_tg hG 13 rfl) (Nat.le_of_ble_eq_true rfl) (by omega) (Nat.le_of_ble_eq_true rfl) (Nat.zero_le _) (Nat.zero_le _) ?_
        refine c_isReplE hG hP (by omega) hc hO hs ?_
        rw [if_neg hr]
        refine pw_if_eq (tgt := 10) dX4_stateOf_5 (by decide) (fun h5 => ?_) (fun h => absurd (by decide) h)
        refine pw_aload_n dX4_stateOf_10 rfl ?_
        refine pw_iload_n dX4_stateOf_11 rfl ?_
        refine pw_callV (as := [_]) (kc' := 0) (ks' := 0) lX4_82 dX4_stateOf_12 rfl rfl (sh_lt hG (by decide)) (sh_tg hG 13 rfl) (Nat.le_of_ble_eq_true rfl) (by omega) (Nat.le_of_ble_eq_true rfl) (Nat.zero_le _) (Nat.zero_le _) ?_
        refine s_has1 hG hP hc hsl hs ?_
        refine pw_if_eq (tgt := 38) dX4_stateOf_15 (by decide) (fun h => absurd h (by decide)) (fun h15 => ?_)
        refine pw_aload_n dX4_stateOf_18 rfl ?_
        refine pw_getR fX4_39 dX4_stateOf_19 (sh_lt hG (by decide)) (sh_tg hG 13 rfl) rfl (gr_at hP 19 rfl) ?_
        refine pw_iload_n dX4_stateOf_22 rfl ?_
        refine pw_aaldN (r := some (Z s + 2)) s dX4_stateOf_23 (sh_lt hG (by decide)) (sh_sh hG 31 rfl) (by decide) (by decide) (rfl) (by omega) (hc.sn hs).1 ?_
        refine pw_aload_n dX4_stateOf_24 rfl ?_
        refine pw_getR fX4_12 dX4_stateOf_25 (sh_lt hG (by decide)) (sh_tg hG 13 rfl) rfl (gr_at hP 15 rfl) ?_
        refine pw_callV (as := [_]) (kc' := 0) (ks' := 0) lX4_99 dX4_stateOf_28 rfl rfl (by have := (hc.sn hs).2.1.1.2; omega) (hc.sn hs).2.1.tg (Nat.le_of_ble_eq_true rfl) (by omega) (Nat.le_of_ble_eq_true rfl) (Nat.zero_le _) (Nat.zero_le _) ?_
        refine c_lkE hG hP (by omega) hc hO (hc.sn hs).2.1 h2 hw ?_
        rw [if_pos hlk]
        refine pw_if_eq (tgt := 38) dX4_stateOf_31 (by decide) (fun h => absurd h (by decide)) (fun h31 => ?_)
        refine pw_iconst (v := nI 1) dX4_stateOf_34 (by decide) ?_
        refine pw_goto (tgt := 39) dX4_stateOf_35 (by decide) ?_
        exact pw_iret dX4_stateOf_39 rfl (k)
      · rw [show stV A s = 0 from (if_neg hr).trans (if_neg (fun z => hlk z.2))] at k
        refine pw_aload_n dX4_stateOf_0 rfl ?_
        refine pw_iload_n dX4_stateOf_1 rfl ?_
        refine pw_callV (as := [_]) (kc' := 0) (ks' := 0) lX4_96 dX4_stateOf_2 rfl rfl (sh_lt hG (by decide)) (sh_tg hG 13 rfl) (Nat.le_of_ble_eq_true rfl) (by omega) (Nat.le_of_ble_eq_true rfl) (Nat.zero_le _) (Nat.zero_le _) ?_
        refine c_isReplE hG hP (by omega) hc hO hs ?_
        rw [if_neg hr]
        refine pw_if_eq (tgt := 10) dX4_stateOf_5 (by decide) (fun h5 => ?_) (fun h => absurd (by decide) h)
        refine pw_aload_n dX4_stateOf_10 rfl ?_
        refine pw_iload_n dX4_stateOf_11 rfl ?_
        refine pw_callV (as := [_]) (kc' := 0) (ks' := 0) lX4_82 dX4_stateOf_12 rfl rfl (sh_lt hG (by decide)) (sh_tg hG 13 rfl) (Nat.le_of_ble_eq_true rfl) (by omega) (Nat.le_of_ble_eq_true rfl) (Nat.zero_le _) (Nat.zero_le _) ?_
        refine s_has1 hG hP hc hsl hs ?_
        refine pw_if_eq (tgt := 38) dX4_stateOf_15 (by decide) (fun h => absurd h (by decide)) (fun h15 => ?_)
        refine pw_aload_n dX4_stateOf_18 rfl ?_
        refine pw_getR fX4_39 dX4_stateOf_19 (sh_lt hG (by decide)) (sh_tg hG 13 rfl) rfl (gr_at hP 19 rfl) ?_
        refine pw_iload_n dX4_stateOf_22 rfl ?_
        refine pw_aaldN (r := some (Z s + 2)) s dX4_stateOf_23 (sh_lt hG (by decide)) (sh_sh hG 31 rfl) (by decide) (by decide) (rfl) (by omega) (hc.sn hs).1 ?_
        refine pw_aload_n dX4_stateOf_24 rfl ?_
        refine pw_getR fX4_12 dX4_stateOf_25 (sh_lt hG (by decide)) (sh_tg hG 13 rfl) rfl (gr_at hP 15 rfl) ?_
        refine pw_callV (as := [_]) (kc' := 0) (ks' := 0) lX4_99 dX4_stateOf_28 rfl rfl (by have := (hc.sn hs).2.1.1.2; omega) (hc.sn hs).2.1.tg (Nat.le_of_ble_eq_true rfl) (by omega) (Nat.le_of_ble_eq_true rfl) (Nat.zero_le _) (Nat.zero_le _) ?_
        refine c_lkE hG hP (by omega) hc hO (hc.sn hs).2.1 h2 hw ?_
        rw [if_neg hlk]
        refine pw_if_eq (tgt := 38) dX4_stateOf_31 (by decide) (fun h31 => ?_) (fun h => absurd (by decide) h)
        refine pw_iconst (v := nI 0) dX4_stateOf_38 (by decide) ?_
        exact pw_iret dX4_stateOf_39 rfl (k)
    · rw [show stV A s = 0 from (if_neg hr).trans (if_neg (fun z => h2 z.1))] at k
      refine pw_aload_n dX4_stateOf_0 rfl ?_
      refine pw_iload_n dX4_stateOf_1 rfl ?_
      refine pw_callV (as := [_]) (kc' := 0) (ks' := 0) lX4_96 dX4_stateOf_2 rfl rfl (sh_lt hG (by decide)) (sh_tg hG 13 rfl) (Nat.le_of_ble_eq_true rfl) (by omega) (Nat.le_of_ble_eq_true rfl) (Nat.zero_le _) (Nat.zero_le _) ?_
      refine c_isReplE hG hP (by omega) hc hO hs ?_
      rw [if_neg hr]
      refine pw_if_eq (tgt := 10) dX4_stateOf_5 (by decide) (fun h5 => ?_) (fun h => absurd (by decide) h)
      refine pw_aload_n dX4_stateOf_10 rfl ?_
      refine pw_iload_n dX4_stateOf_11 rfl ?_
      refine pw_callV (as := [_]) (kc' := 0) (ks' := 0) lX4_82 dX4_stateOf_12 rfl rfl (sh_lt hG (by decide)) (sh_tg hG 13 rfl) (Nat.le_of_ble_eq_true rfl) (by omega) (Nat.le_of_ble_eq_true rfl) (Nat.zero_le _) (Nat.zero_le _) ?_
      refine s_has1 hG hP hc hsl hs ?_
      refine pw_if_eq (tgt := 38) dX4_stateOf_15 (by decide) (fun h => absurd h (by decide)) (fun h15 => ?_)
      refine pw_aload_n dX4_stateOf_18 rfl ?_
      refine pw_getR fX4_39 dX4_stateOf_19 (sh_lt hG (by decide)) (sh_tg hG 13 rfl) rfl (gr_at hP 19 rfl) ?_
      refine pw_iload_n dX4_stateOf_22 rfl ?_
      refine pw_aaldN (r := some (Z s + 2)) s dX4_stateOf_23 (sh_lt hG (by decide)) (sh_sh hG 31 rfl) (by decide) (by decide) (rfl) (by omega) (hc.sn hs).1 ?_
      refine pw_aload_n dX4_stateOf_24 rfl ?_
      refine pw_getR fX4_12 dX4_stateOf_25 (sh_lt hG (by decide)) (sh_tg hG 13 rfl) rfl (gr_at hP 15 rfl) ?_
      refine pw_callV (as := [_]) (kc' := 0) (ks' := 0) lX4_99 dX4_stateOf_28 rfl rfl (by have := (hc.sn hs).2.1.1.2; omega) (hc.sn hs).2.1.tg (Nat.le_of_ble_eq_true rfl) (by omega) (Nat.le_of_ble_eq_true rfl) (Nat.zero_le _) (Nat.zero_le _) ?_
      refine c_lk0 hG hP (by omega) (hc.sn hs).2.1 h2 hf3 hc.n hnl ?_
      refine pw_if_eq (tgt := 38) dX4_stateOf_31 (by decide) (fun h31 => ?_) (fun h => absurd (by decide) h)
      refine pw_iconst (v := nI 0) dX4_stateOf_38 (by decide) ?_
      exact pw_iret dX4_stateOf_39 rfl (k)
set_option maxRecDepth 20000 in
set_option maxHeartbeats 400000 in
theorem c_stateE {l : Launch} {E : pmE} {d : Nat} {S : pmS} {I : pmI} {J : pmJ} {P : pmP} {Q : Option Value → pmS → pmI → pmJ → pmP → Prop} (hG : sh_St S) (hP : gr_St P) (hd : 5 ≤ d) {x : Int32} {A : aS} {Z : Nat → Nat} {b : Nat} (hc : cA S I J P A Z b) (hO : aO A) (k : Q (some (.int (stX A x))) S I J P) : pm_Met l E yX9_state cX9_state 2 (some .int) d 0 0 [.ref 2, .int x] S I J P Q := by
  unfold pm_Met
  have hsl := hO.2.2.2.2.2.2.2.2.2.2.1
  refine pm_lvs (lv' := [(0, _), (1, _)]) rfl ?_
  rcases ix_casesE (n := A.sn.length) (by omega) x with ⟨s, hs, rfl⟩ | h0
  · rw [stX_1 hsl hs] at k
    refine pw_aload_n dX9_state_0 rfl ?_
    refine pw_getR fX9_32 dX9_state_1 (sh_lt hG (by decide)) (sh_tg hG 0 rfl) rfl (gr_at hP 3 rfl) ?_
    refine pw_iload_n dX9_state_4 rfl ?_
    refine pw_callV (as := [_]) (kc' := 0) (ks' := 0) lX9_155 dX9_state_5 rfl rfl (sh_lt hG (by decide)) (sh_tg hG 13 rfl) (Nat.le_of_ble_eq_true rfl) (by omega) (Nat.le_of_ble_eq_true rfl) (Nat.zero_le _) (Nat.zero_le _) ?_
    refine s_has1 hG hP hc hsl hs ?_
    refine pw_if_eq (tgt := 22) dX9_state_8 (by decide) (fun h => absurd h (by decide)) (fun h8 => ?_)
    refine pw_aload_n dX9_state_11 rfl ?_
    refine pw_getR fX9_32 dX9_state_12 (sh_lt hG (by decide)) (sh_tg hG 0 rfl) rfl (gr_at hP 3 rfl) ?_
    refine pw_iload_n dX9_state_15 rfl ?_
    refine pw_callV (as := [_]) (kc' := 0) (ks' := 0) lX9_158 dX9_state_16 rfl rfl (sh_lt hG (by decide)) (sh_tg hG 13 rfl) (Nat.le_of_ble_eq_true rfl) (by omega) (Nat.le_of_ble_eq_true rfl) (Nat.zero_le _) (Nat.zero_le _) ?_
    refine c_stateOfE hG hP (by omega) hc hO hs ?_
    refine pw_goto (tgt := 23) dX9_state_19 (by decide) ?_
    exact pw_iret dX9_state_23 rfl (k)
  · have hx0 : x < 0 ∨ I 15 5 ≤ x := by
      by_cases q : x < 0
      · exact Or.inl q
      · right
        obtain ⟨i, hi, rfl⟩ := nn_I q
        rw [nI_toInt hi] at h0
        rw [hc.k, Int32.le_iff_toInt_le, nI_toInt hi, nI_toInt (by omega)]
        omega
    rw [show stX A x = -1 from if_neg h0] at k
    refine pw_aload_n dX9_state_0 rfl ?_
    refine pw_getR fX9_32 dX9_state_1 (sh_lt hG (by decide)) (sh_tg hG 0 rfl) rfl (gr_at hP 3 rfl) ?_
    refine pw_iload_n dX9_state_4 rfl ?_
    refine pw_callV (as := [_]) (kc' := 0) (ks' := 0) lX9_155 dX9_state_5 rfl rfl (sh_lt hG (by decide)) (sh_tg hG 13 rfl) (Nat.le_of_ble_eq_true rfl) (by omega) (Nat.le_of_ble_eq_true rfl) (Nat.zero_le _) (Nat.zero_le _) ?_
    refine c_X4_hasSnippet0 hG hP hx0 ?_
    refine pw_if_eq (tgt := 22) dX9_state_8 (by decide) (fun h8 => ?_) (fun h => absurd (by decide) h)
    refine pw_iconst (v := -1) dX9_state_22 (by decide) ?_
    exact pw_iret dX9_state_23 rfl (k)
