set_option maxRecDepth 20000 in
set_option maxHeartbeats 400000 in
theorem k_deedX {l : Launch} {E : pmE} {d : Nat} {S : pmS} {I : pmI} {J : pmJ} {P : pmP} {Q : Option Value → pmS → pmI → pmJ → pmP → Prop} {c rm : Nat} {L : List dE} {x : Int32} (hk : kC S I J P c rm L) (k : ∀ v, Q (some (.int v)) S I J P) : pm_Met l E yX0_deedAt cX0_deedAt 2 (some .int) d 0 0 [.ref c, .int x] S I J P Q := by
  unfold pm_Met
  refine pm_lvs (lv' := [(0, _), (1, _)]) rfl ?_
  refine pw_iload_n dX0_deedAt_0 rfl ?_
  refine pw_if_lt (tgt := 21) dX0_deedAt_1 (by decide) (fun h1 => ?_) (fun h1 => ?_)
  · refine pw_bipush (v := nI 13) dX0_deedAt_21 (by decide) ?_
    exact pw_iret dX0_deedAt_23 rfl (k _)
  · obtain ⟨i, hi, rfl⟩ := nn_I h1
    have hrr := hk.rr
    refine pw_iload_n dX0_deedAt_4 rfl ?_
    refine pw_aload_n dX0_deedAt_5 rfl ?_
    refine pw_getI fX0_25 dX0_deedAt_6 (by have := hk.1.2; omega) hk.2.1 rfl ?_
    refine pw_icmpN_ge _ _ (tgt := 21) dX0_deedAt_9 (by decide) (rfl) (hk.sz) (by omega) (by omega) (fun h9 => ?_) (fun h9 => ?_)
    · refine pw_bipush (v := nI 13) dX0_deedAt_21 (by decide) ?_
      exact pw_iret dX0_deedAt_23 rfl (k _)
    · refine pw_aload_n dX0_deedAt_12 rfl ?_
      refine pw_getR fX0_9 dX0_deedAt_13 (by have := hk.1.2; omega) hk.2.1 rfl hk.p0 ?_
      refine pw_iload_n dX0_deedAt_16 rfl ?_
      refine pw_ialdN i dX0_deedAt_17 (by have := hk.1.2; omega) hk.a1 (by omega) (rfl) (by omega) ?_
      refine pw_goto (tgt := 23) dX0_deedAt_18 (by decide) ?_
      exact pw_iret dX0_deedAt_23 rfl (k _)

set_option maxRecDepth 20000 in
set_option maxHeartbeats 400000 in
theorem k_coreX {l : Launch} {E : pmE} {d : Nat} {S : pmS} {I : pmI} {J : pmJ} {P : pmP} {Q : Option Value → pmS → pmI → pmJ → pmP → Prop} {c rm : Nat} {L : List dE} {x : Int32} (hk : kC S I J P c rm L) (k : ∀ v, Q (some (.long v)) S I J P) : pm_Met l E yX0_coreAt cX0_coreAt 2 (some .long) d 0 0 [.ref c, .int x] S I J P Q := by
  unfold pm_Met
  refine pm_lvs (lv' := [(0, _), (1, _)]) rfl ?_
  refine pw_iload_n dX0_coreAt_0 rfl ?_
  refine pw_if_lt (tgt := 21) dX0_coreAt_1 (by decide) (fun h1 => ?_) (fun h1 => ?_)
  · refine pw_lconst (v := 0) dX0_coreAt_21 (by decide) ?_
    exact pw_lret dX0_coreAt_22 rfl (k _)
  · obtain ⟨i, hi, rfl⟩ := nn_I h1
    have hrr := hk.rr
    refine pw_iload_n dX0_coreAt_4 rfl ?_
    refine pw_aload_n dX0_coreAt_5 rfl ?_
    refine pw_getI fX0_25 dX0_coreAt_6 (by have := hk.1.2; omega) hk.2.1 rfl ?_
    refine pw_icmpN_ge _ _ (tgt := 21) dX0_coreAt_9 (by decide) (rfl) (hk.sz) (by omega) (by omega) (fun h9 => ?_) (fun h9 => ?_)
    · refine pw_lconst (v := 0) dX0_coreAt_21 (by decide) ?_
      exact pw_lret dX0_coreAt_22 rfl (k _)
    · refine pw_aload_n dX0_coreAt_12 rfl ?_
      refine pw_getR fX0_21 dX0_coreAt_13 (by have := hk.1.2; omega) hk.2.1 rfl hk.p3 ?_
      refine pw_iload_n dX0_coreAt_16 rfl ?_
      refine pw_laldN i dX0_coreAt_17 (by have := hk.1.2; omega) hk.a4 (by omega) (rfl) (by omega) ?_
      refine pw_goto (tgt := 22) dX0_coreAt_18 (by decide) ?_
      exact pw_lret dX0_coreAt_22 rfl (k _)

set_option maxRecDepth 20000 in
set_option maxHeartbeats 400000 in
theorem c_hasSn {l : Launch} {E : pmE} {d : Nat} {S : pmS} {I : pmI} {J : pmJ} {P : pmP} {Q : Option Value → pmS → pmI → pmJ → pmP → Prop} (hG : sh_St S) (hP : gr_St P) {x : Int32} {A : aS} {Z : Nat → Nat} {b : Nat} (hc : cA S I J P A Z b) (hO : aO A) (k1 : ∀ i, i < A.sn.length → x = nI i → Q (some (.int (nI 1))) S I J P) (k0 : Q (some (.int (nI 0))) S I J P) : pm_Met l E yX4_hasSnippet cX4_hasSnippet 2 (some .boolean) d 0 0 [.ref 15, .int x] S I J P Q := by
  unfold pm_Met
  refine pm_lvs (lv' := [(0, _), (1, _)]) rfl ?_
  refine pw_iload_n dX4_hasSnippet_0 rfl ?_
  refine pw_if_lt (tgt := 25) dX4_hasSnippet_1 (by decide) (fun h1 => ?_) (fun h1 => ?_)
  · refine pw_iconst (v := nI 0) dX4_hasSnippet_25 (by decide) ?_
    exact pw_zret dX4_hasSnippet_26 rfl (by decide) (k0)
  · obtain ⟨i, hi, rfl⟩ := nn_I h1
    have hsl := hO.2.2.2.2.2.2.2.2.2.2.1
    refine pw_iload_n dX4_hasSnippet_4 rfl ?_
    refine pw_aload_n dX4_hasSnippet_5 rfl ?_
    refine pw_getI fX4_49 dX4_hasSnippet_6 (sh_lt hG (by decide)) (sh_tg hG 13 rfl) rfl ?_
    refine pw_icmpN_ge _ _ (tgt := 25) dX4_hasSnippet_9 (by decide) (rfl) (hc.k) (by omega) (by omega) (fun h9 => ?_) (fun h9 => ?_)
    · refine pw_iconst (v := nI 0) dX4_hasSnippet_25 (by decide) ?_
      exact pw_zret dX4_hasSnippet_26 rfl (by decide) (k0)
    · have hs : i < A.sn.length := by omega
      refine pw_aload_n dX4_hasSnippet_12 rfl ?_
      refine pw_getR fX4_39 dX4_hasSnippet_13 (sh_lt hG (by decide)) (sh_tg hG 13 rfl) rfl (gr_at hP 19 rfl) ?_
      refine pw_iload_n dX4_hasSnippet_16 rfl ?_
      refine pw_aaldN (r := some (Z i + 2)) i dX4_hasSnippet_17 (sh_lt hG (by decide)) (sh_sh hG 31 rfl) (by decide) (by decide) (rfl) (by omega) (hc.sn hs).1 ?_
      refine pw_ifnull dX4_hasSnippet_18 ?_
      refine pw_iconst (v := nI 1) dX4_hasSnippet_21 (by decide) ?_
      refine pw_goto (tgt := 26) dX4_hasSnippet_22 (by decide) ?_
      exact pw_zret dX4_hasSnippet_26 rfl (by decide) (k1 i (by omega) rfl)

set_option maxRecDepth 20000 in
set_option maxHeartbeats 400000 in
theorem c_isRepl {l : Launch} {E : pmE} {d : Nat} {S : pmS} {I : pmI} {J : pmJ} {P : pmP} {Q : Option Value → pmS → pmI → pmJ → pmP → Prop} (hG : sh_St S) (hP : gr_St P) (hd : 2 ≤ d) {x : Int32} {A : aS} {Z : Nat → Nat} {b : Nat} (hc : cA S I J P A Z b) (hO : aO A) (k : ∀ a, Q (some (.int a)) S I J P) : pm_Met l E yX4_isReplaced cX4_isReplaced 2 (some .boolean) d 0 0 [.ref 15, .int x] S I J P Q := by
  unfold pm_Met
  refine pm_lvs (lv' := [(0, _), (1, _)]) rfl ?_
  refine pw_aload_n dX4_isReplaced_0 rfl ?_
  refine pw_iload_n dX4_isReplaced_1 rfl ?_
  refine pw_callV (as := [_]) (kc' := 0) (ks' := 0) lX4_82 dX4_isReplaced_2 rfl rfl (sh_lt hG (by decide)) (sh_tg hG 13 rfl) (Nat.le_of_ble_eq_true rfl) (by omega) (Nat.le_of_ble_eq_true rfl) (Nat.zero_le _) (Nat.zero_le _) ?_
  refine c_hasSn hG hP hc hO (fun i hs e => ?_) ?_
  · subst e
    have hsl := hO.2.2.2.2.2.2.2.2.2.2.1
    refine pw_if_eq (tgt := 20) dX4_isReplaced_5 (by decide) (fun h => absurd h (by decide)) (fun h5 => ?_)
    refine pw_aload_n dX4_isReplaced_8 rfl ?_
    refine pw_getR fX4_39 dX4_isReplaced_9 (sh_lt hG (by decide)) (sh_tg hG 13 rfl) rfl (gr_at hP 19 rfl) ?_
    refine pw_iload_n dX4_isReplaced_12 rfl ?_
    refine pw_aaldN (r := some (Z i + 2)) i dX4_isReplaced_13 (sh_lt hG (by decide)) (sh_sh hG 31 rfl) (by decide) (by decide) (rfl) (by omega) (hc.sn hs).1 ?_
    refine pw_callV (as := []) (kc' := 0) (ks' := 0) lX4_60 dX4_isReplaced_14 rfl rfl (by have := (hc.sn hs).2.1.1.2; omega) (hc.sn hs).2.1.tg (Nat.le_of_ble_eq_true rfl) (by omega) (Nat.le_of_ble_eq_true rfl) (Nat.zero_le _) (Nat.zero_le _) ?_
    unfold pm_Met
    refine pm_lvs (lv' := [(0, _)]) rfl ?_
    refine pw_aload_n dX5_form_0 rfl ?_
    refine pw_getI fX5_9 dX5_form_1 (by have := (hc.sn hs).2.1.1.2; omega) (hc.sn hs).2.1.tg rfl ?_
    refine pw_iret dX5_form_4 rfl ?_
    refine pw_if_ne (tgt := 22) dX4_isReplaced_17 (by decide) (fun h17 => ?_) (fun h17 => ?_)
    · refine pw_aload_n dX4_isReplaced_22 rfl ?_
      refine pw_getR fX4_12 dX4_isReplaced_23 (sh_lt hG (by decide)) (sh_tg hG 13 rfl) rfl (gr_at hP 15 rfl) ?_
      refine pw_aload_n dX4_isReplaced_26 rfl ?_
      refine pw_getR fX4_39 dX4_isReplaced_27 (sh_lt hG (by decide)) (sh_tg hG 13 rfl) rfl (gr_at hP 19 rfl) ?_
      refine pw_iload_n dX4_isReplaced_30 rfl ?_
      refine pw_aaldN (r := some (Z i + 2)) i dX4_isReplaced_31 (sh_lt hG (by decide)) (sh_sh hG 31 rfl) (by decide) (by decide) (rfl) (by omega) (hc.sn hs).1 ?_
      refine pw_callV (as := []) (kc' := 0) (ks' := 0) lX4_68 dX4_isReplaced_32 rfl rfl (by have := (hc.sn hs).2.1.1.2; omega) (hc.sn hs).2.1.tg (Nat.le_of_ble_eq_true rfl) (by omega) (Nat.le_of_ble_eq_true rfl) (Nat.zero_le _) (Nat.zero_le _) ?_
      unfold pm_Met
      refine pm_lvs (lv' := [(0, _)]) rfl ?_
      refine pw_aload_n dX5_declared_0 rfl ?_
      refine pw_getI fX5_15 dX5_declared_1 (by have := (hc.sn hs).2.1.1.2; omega) (hc.sn hs).2.1.tg rfl ?_
      refine pw_iret dX5_declared_4 rfl ?_
      refine pw_callV (as := [_]) (kc' := 0) (ks' := 0) lX4_79 dX4_isReplaced_35 rfl rfl (sh_lt hG (by decide)) (sh_tg hG 14 rfl) (Nat.le_of_ble_eq_true rfl) (by omega) (Nat.le_of_ble_eq_true rfl) (Nat.zero_le _) (Nat.zero_le _) ?_
      refine c_dclX hG hP (by omega) hc.n hO.1.2 (fun a => ?_)
      refine pw_iload_n dX4_isReplaced_38 rfl ?_
      refine pw_icmp_eq (tgt := 46) dX4_isReplaced_39 (by decide) (fun h39 => ?_) (fun h39 => ?_)
      · refine pw_iconst (v := nI 0) dX4_isReplaced_46 (by decide) ?_
        exact pw_zret dX4_isReplaced_47 rfl (by decide) (k _)
      · refine pw_iconst (v := nI 1) dX4_isReplaced_42 (by decide) ?_
        refine pw_goto (tgt := 47) dX4_isReplaced_43 (by decide) ?_
        exact pw_zret dX4_isReplaced_47 rfl (by decide) (k _)
    · refine pw_iconst (v := nI 0) dX4_isReplaced_20 (by decide) ?_
      exact pw_zret dX4_isReplaced_21 rfl (by decide) (k _)
  · refine pw_if_eq (tgt := 20) dX4_isReplaced_5 (by decide) (fun h5 => ?_) (fun h => absurd (by decide) h)
    refine pw_iconst (v := nI 0) dX4_isReplaced_20 (by decide) ?_
    exact pw_zret dX4_isReplaced_21 rfl (by decide) (k _)
set_option maxRecDepth 20000 in
set_option maxHeartbeats 400000 in
theorem c_uses_lp {l : Launch} {E : pmE} {d : Nat} {S : pmS} {I : pmI} {J : pmJ} {P : pmP} {Q : Option Value → pmS → pmI → pmJ → pmP → Prop} (hG : sh_St S) (hP : gr_St P) (hd : 2 ≤ d) {x : Int32} {ns : List Int64} {z : Nat} {y : sN} (hx : snC S I J P ns z y) (kx : ∀ a, Q (some (.int a)) S I J P) {rm : Nat} {L : List dE} (hk : kC S I J P (z + 3) rm L) : ∀ (m k : Nat), k + m = L.length → pm_W l E yX5_usesName cX5_usesName 4 (some .boolean) d 0 0 2 [(2, .int (nI k)), (0, .ref (z + 2)), (1, .int x)] [] S I J P (pm_N E Q)
  | 0, k, hkm => by
    have hrr := hk.rr
    refine pw_iload_n dX5_usesName_2 rfl ?_
    refine pw_aload_n dX5_usesName_3 rfl ?_
    refine pw_getR fX5_26 dX5_usesName_4 (by have := hx.1.2; omega) hx.tg rfl hx.p4 ?_
    refine pw_callV (as := []) (kc' := 0) (ks' := 0) lX5_30 dX5_usesName_7 rfl rfl (by have := hk.1.2; omega) hk.2.1 (Nat.le_of_ble_eq_true rfl) (by omega) (Nat.le_of_ble_eq_true rfl) (Nat.zero_le _) (Nat.zero_le _) ?_
    unfold pm_Met
    refine pm_lvs (lv' := [(0, _)]) rfl ?_
    refine pw_aload_n dX0_size_0 rfl ?_
    refine pw_getI fX0_25 dX0_size_1 (by have := hk.1.2; omega) hk.2.1 rfl ?_
    refine pw_iret dX0_size_4 rfl ?_
    refine pw_icmpN_ge _ _ (tgt := 67) dX5_usesName_10 (by decide) (rfl) (hk.sz) (by omega) (by omega) (fun h10 => ?_) (fun h10 => absurd h10 (by omega))
    refine pw_iconst (v := nI 0) dX5_usesName_67 (by decide) ?_
    exact pw_zret dX5_usesName_68 rfl (by decide) (kx _)
  | m + 1, k, hkm => by
    have hrr := hk.rr
    refine pw_iload_n dX5_usesName_2 rfl ?_
    refine pw_aload_n dX5_usesName_3 rfl ?_
    refine pw_getR fX5_26 dX5_usesName_4 (by have := hx.1.2; omega) hx.tg rfl hx.p4 ?_
    refine pw_callV (as := []) (kc' := 0) (ks' := 0) lX5_30 dX5_usesName_7 rfl rfl (by have := hk.1.2; omega) hk.2.1 (Nat.le_of_ble_eq_true rfl) (by omega) (Nat.le_of_ble_eq_true rfl) (Nat.zero_le _) (Nat.zero_le _) ?_
    unfold pm_Met
    refine pm_lvs (lv' := [(0, _)]) rfl ?_
    refine pw_aload_n dX0_size_0 rfl ?_
    refine pw_getI fX0_25 dX0_size_1 (by have := hk.1.2; omega) hk.2.1 rfl ?_
    refine pw_iret dX0_size_4 rfl ?_
    refine pw_icmpN_ge _ _ (tgt := 67) dX5_usesName_10 (by decide) (rfl) (hk.sz) (by omega) (by omega) (fun h10 => absurd h10 (by omega)) (fun h10 => ?_)
    refine pw_aload_n dX5_usesName_13 rfl ?_
    refine pw_getR fX5_26 dX5_usesName_14 (by have := hx.1.2; omega) hx.tg rfl hx.p4 ?_
    refine pw_iload_n dX5_usesName_17 rfl ?_
    refine pw_callV (as := [_]) (kc' := 0) (ks' := 0) lX5_36 dX5_usesName_18 rfl rfl (by have := hk.1.2; omega) hk.2.1 (Nat.le_of_ble_eq_true rfl) (by omega) (Nat.le_of_ble_eq_true rfl) (Nat.zero_le _) (Nat.zero_le _) ?_
    refine k_deedX hk (fun a1 => ?_)
    refine pw_istore_n (lv' := [(3, _), (2, _), (0, _), (1, _)]) dX5_usesName_21 (by decide) rfl ?_
    refine pw_iload_n dX5_usesName_22 rfl ?_
    refine pw_iconst (v := nI 5) dX5_usesName_23 (by decide) ?_
    refine pw_icmp_eq (tgt := 33) dX5_usesName_24 (by decide) (fun h24 => ?_) (fun h24 => ?_)
    · refine pw_aload_n dX5_usesName_33 rfl ?_
      refine pw_getR fX5_26 dX5_usesName_34 (by have := hx.1.2; omega) hx.tg rfl hx.p4 ?_
      refine pw_iload_n dX5_usesName_37 rfl ?_
      refine pw_callV (as := [_]) (kc' := 0) (ks' := 0) lX5_40 dX5_usesName_38 rfl rfl (by have := hk.1.2; omega) hk.2.1 (Nat.le_of_ble_eq_true rfl) (by omega) (Nat.le_of_ble_eq_true rfl) (Nat.zero_le _) (Nat.zero_le _) ?_
      refine k_coreX hk (fun a2 => ?_)
      refine pw_iload_n dX5_usesName_41 rfl ?_
      refine pw_i2l dX5_usesName_42 ?_
      refine pw_lif_ne (tgt := 61) dX5_usesName_43 dX5_usesName_44 (by decide) (fun h44 => ?_) (fun h44 => ?_)
      · refine pw_sub [1, 2, 3] rfl ?_
        refine pw_iinc (lv' := [(2, _), (0, _), (1, _)]) dX5_usesName_61 rfl (by decide) rfl ?_
        refine pw_goto (tgt := 2) dX5_usesName_64 (by decide) ?_
        refine pm_lvs (lv' := [(2, .int (nI (k + 1))), (0, _), (1, _)]) (by rw [show nI k + Int32.ofInt 1 = nI (k + 1) from nI_add k 1]) ?_
        exact c_uses_lp hG hP hd hx kx hk m (k + 1) (by omega)
      · refine pw_aload_n dX5_usesName_47 rfl ?_
        refine pw_getI fX5_9 dX5_usesName_48 (by have := hx.1.2; omega) hx.tg rfl ?_
        refine pw_iconst (v := nI 2) dX5_usesName_51 (by decide) ?_
        refine pw_icmp_ne (tgt := 59) dX5_usesName_52 (by decide) (fun h52 => ?_) (fun h52 => ?_)
        · refine pw_iconst (v := nI 0) dX5_usesName_59 (by decide) ?_
          exact pw_zret dX5_usesName_60 rfl (by decide) (kx _)
        · refine pw_iconst (v := nI 1) dX5_usesName_55 (by decide) ?_
          refine pw_goto (tgt := 60) dX5_usesName_56 (by decide) ?_
          exact pw_zret dX5_usesName_60 rfl (by decide) (kx _)
    · refine pw_iload_n dX5_usesName_27 rfl ?_
      refine pw_bipush (v := nI 6) dX5_usesName_28 (by decide) ?_
      refine pw_icmp_ne (tgt := 61) dX5_usesName_30 (by decide) (fun h30 => ?_) (fun h30 => ?_)
      · refine pw_sub [1, 2, 3] rfl ?_
        refine pw_iinc (lv' := [(2, _), (0, _), (1, _)]) dX5_usesName_61 rfl (by decide) rfl ?_
        refine pw_goto (tgt := 2) dX5_usesName_64 (by decide) ?_
        refine pm_lvs (lv' := [(2, .int (nI (k + 1))), (0, _), (1, _)]) (by rw [show nI k + Int32.ofInt 1 = nI (k + 1) from nI_add k 1]) ?_
        exact c_uses_lp hG hP hd hx kx hk m (k + 1) (by omega)
      · refine pw_aload_n dX5_usesName_33 rfl ?_
        refine pw_getR fX5_26 dX5_usesName_34 (by have := hx.1.2; omega) hx.tg rfl hx.p4 ?_
        refine pw_iload_n dX5_usesName_37 rfl ?_
        refine pw_callV (as := [_]) (kc' := 0) (ks' := 0) lX5_40 dX5_usesName_38 rfl rfl (by have := hk.1.2; omega) hk.2.1 (Nat.le_of_ble_eq_true rfl) (by omega) (Nat.le_of_ble_eq_true rfl) (Nat.zero_le _) (Nat.zero_le _) ?_
        refine k_coreX hk (fun a2 => ?_)
        refine pw_iload_n dX5_usesName_41 rfl ?_
        refine pw_i2l dX5_usesName_42 ?_
        refine pw_lif_ne (tgt := 61) dX5_usesName_43 dX5_usesName_44 (by decide) (fun h44 => ?_) (fun h44 => ?_)
        · refine pw_sub [1, 2, 3] rfl ?_
          refine pw_iinc (lv' := [(2, _), (0, _), (1, _)]) dX5_usesName_61 rfl (by decide) rfl ?_
          refine pw_goto (tgt := 2) dX5_usesName_64 (by decide) ?_
          refine pm_lvs (lv' := [(2, .int (nI (k + 1))), (0, _), (1, _)]) (by rw [show nI k + Int32.ofInt 1 = nI (k + 1) from nI_add k 1]) ?_
          exact c_uses_lp hG hP hd hx kx hk m (k + 1) (by omega)
        · refine pw_aload_n dX5_usesName_47 rfl ?_
          refine pw_getI fX5_9 dX5_usesName_48 (by have := hx.1.2; omega) hx.tg rfl ?_
          refine pw_iconst (v := nI 2) dX5_usesName_51 (by decide) ?_
          refine pw_icmp_ne (tgt := 59) dX5_usesName_52 (by decide) (fun h52 => ?_) (fun h52 => ?_)
          · refine pw_iconst (v := nI 0) dX5_usesName_59 (by decide) ?_
            exact pw_zret dX5_usesName_60 rfl (by decide) (kx _)
          · refine pw_iconst (v := nI 1) dX5_usesName_55 (by decide) ?_
            refine pw_goto (tgt := 60) dX5_usesName_56 (by decide) ?_
            exact pw_zret dX5_usesName_60 rfl (by decide) (kx _)
set_option maxRecDepth 20000 in
set_option maxHeartbeats 400000 in
theorem c_uses {l : Launch} {E : pmE} {d : Nat} {S : pmS} {I : pmI} {J : pmJ} {P : pmP} {Q : Option Value → pmS → pmI → pmJ → pmP → Prop} (hG : sh_St S) (hP : gr_St P) (hd : 2 ≤ d) {x : Int32} {ns : List Int64} {z : Nat} {y : sN} (hx : snC S I J P ns z y) (k : ∀ a, Q (some (.int a)) S I J P) : pm_Met l E yX5_usesName cX5_usesName 4 (some .boolean) d 0 0 [.ref (z + 2), .int x] S I J P Q := by
  unfold pm_Met
  obtain ⟨rm, L, hk, -⟩ := hx.cd
  refine pm_lvs (lv' := [(0, _), (1, _)]) rfl ?_
  refine pw_iconst (v := nI 0) dX5_usesName_0 (by decide) ?_
  refine pw_istore_n (lv' := [(2, _), (0, _), (1, _)]) dX5_usesName_1 (by decide) rfl ?_
  exact c_uses_lp hG hP hd hx k hk L.length 0 (Nat.zero_add _)
set_option maxRecDepth 20000 in
set_option maxHeartbeats 400000 in
theorem c_lacks_lp {l : Launch} {E : pmE} {d : Nat} {S : pmS} {I : pmI} {J : pmJ} {P : pmP} {Q : Option Value → pmS → pmI → pmJ → pmP → Prop} (hG : sh_St S) (hP : gr_St P) (hd : 2 ≤ d) {ns : List Int64} {z : Nat} {y : sN} (hx : snC S I J P ns z y) {n : Nat} (hn : I 16 4 = nI n) (hl : n ≤ 40) (kx : ∀ a, Q (some (.int a)) S I J P) {rm : Nat} {L : List dE} (hk : kC S I J P (z + 3) rm L) : ∀ (m k : Nat), k + m = L.length → pm_W l E yX5_lacksName cX5_lacksName 4 (some .boolean) d 0 0 2 [(2, .int (nI k)), (0, .ref (z + 2)), (1, .ref 16)] [] S I J P (pm_N E Q)
  | 0, k, hkm => by
    have hrr := hk.rr
    refine pw_iload_n dX5_lacksName_2 rfl ?_
    refine pw_aload_n dX5_lacksName_3 rfl ?_
    refine pw_getR fX5_26 dX5_lacksName_4 (by have := hx.1.2; omega) hx.tg rfl hx.p4 ?_
    refine pw_callV (as := []) (kc' := 0) (ks' := 0) lX5_30 dX5_lacksName_7 rfl rfl (by have := hk.1.2; omega) hk.2.1 (Nat.le_of_ble_eq_true rfl) (by omega) (Nat.le_of_ble_eq_true rfl) (Nat.zero_le _) (Nat.zero_le _) ?_
    unfold pm_Met
    refine pm_lvs (lv' := [(0, _)]) rfl ?_
    refine pw_aload_n dX0_size_0 rfl ?_
    refine pw_getI fX0_25 dX0_size_1 (by have := hk.1.2; omega) hk.2.1 rfl ?_
    refine pw_iret dX0_size_4 rfl ?_
    refine pw_icmpN_ge _ _ (tgt := 101) dX5_lacksName_10 (by decide) (rfl) (hk.sz) (by omega) (by omega) (fun h10 => ?_) (fun h10 => absurd h10 (by omega))
    refine pw_iconst (v := nI 0) dX5_lacksName_101 (by decide) ?_
    exact pw_zret dX5_lacksName_102 rfl (by decide) (kx _)
  | m + 1, k, hkm => by
    have hrr := hk.rr
    refine pw_iload_n dX5_lacksName_2 rfl ?_
    refine pw_aload_n dX5_lacksName_3 rfl ?_
    refine pw_getR fX5_26 dX5_lacksName_4 (by have := hx.1.2; omega) hx.tg rfl hx.p4 ?_
    refine pw_callV (as := []) (kc' := 0) (ks' := 0) lX5_30 dX5_lacksName_7 rfl rfl (by have := hk.1.2; omega) hk.2.1 (Nat.le_of_ble_eq_true rfl) (by omega) (Nat.le_of_ble_eq_true rfl) (Nat.zero_le _) (Nat.zero_le _) ?_
    unfold pm_Met
    refine pm_lvs (lv' := [(0, _)]) rfl ?_
    refine pw_aload_n dX0_size_0 rfl ?_
    refine pw_getI fX0_25 dX0_size_1 (by have := hk.1.2; omega) hk.2.1 rfl ?_
    refine pw_iret dX0_size_4 rfl ?_
    refine pw_icmpN_ge _ _ (tgt := 101) dX5_lacksName_10 (by decide) (rfl) (hk.sz) (by omega) (by omega) (fun h10 => absurd h10 (by omega)) (fun h10 => ?_)
    refine pw_aload_n dX5_lacksName_13 rfl ?_
    refine pw_aload_n dX5_lacksName_14 rfl ?_
    refine pw_getR fX5_26 dX5_lacksName_15 (by have := hx.1.2; omega) hx.tg rfl hx.p4 ?_
    refine pw_iload_n dX5_lacksName_18 rfl ?_
    refine pw_callV (as := [_]) (kc' := 0) (ks' := 0) lX5_40 dX5_lacksName_19 rfl rfl (by have := hk.1.2; omega) hk.2.1 (Nat.le_of_ble_eq_true rfl) (by omega) (Nat.le_of_ble_eq_true rfl) (Nat.zero_le _) (Nat.zero_le _) ?_
    refine k_coreX hk (fun a1 => ?_)
    refine pw_l2i dX5_lacksName_22 ?_
    refine pw_callV (as := [_]) (kc' := 0) (ks' := 0) lX5_44 dX5_lacksName_23 rfl rfl (sh_lt hG (by decide)) (sh_tg hG 14 rfl) (Nat.le_of_ble_eq_true rfl) (by omega) (Nat.le_of_ble_eq_true rfl) (Nat.zero_le _) (Nat.zero_le _) ?_
    refine c_formX hG hP (by omega) hn hl (fun a2 => ?_)
    refine pw_istore_n (lv' := [(3, _), (2, _), (0, _), (1, _)]) dX5_lacksName_26 (by decide) rfl ?_
    refine pw_aload_n dX5_lacksName_27 rfl ?_
    refine pw_getR fX5_26 dX5_lacksName_28 (by have := hx.1.2; omega) hx.tg rfl hx.p4 ?_
    refine pw_iload_n dX5_lacksName_31 rfl ?_
    refine pw_callV (as := [_]) (kc' := 0) (ks' := 0) lX5_36 dX5_lacksName_32 rfl rfl (by have := hk.1.2; omega) hk.2.1 (Nat.le_of_ble_eq_true rfl) (by omega) (Nat.le_of_ble_eq_true rfl) (Nat.zero_le _) (Nat.zero_le _) ?_
    refine k_deedX hk (fun a3 => ?_)
    refine pw_iconst (v := nI 5) dX5_lacksName_35 (by decide) ?_
    refine pw_icmp_ne (tgt := 58) dX5_lacksName_36 (by decide) (fun h36 => ?_) (fun h36 => ?_)
    · refine pw_aload_n dX5_lacksName_58 rfl ?_
      refine pw_getR fX5_26 dX5_lacksName_59 (by have := hx.1.2; omega) hx.tg rfl hx.p4 ?_
      refine pw_iload_n dX5_lacksName_62 rfl ?_
      refine pw_callV (as := [_]) (kc' := 0) (ks' := 0) lX5_36 dX5_lacksName_63 rfl rfl (by have := hk.1.2; omega) hk.2.1 (Nat.le_of_ble_eq_true rfl) (by omega) (Nat.le_of_ble_eq_true rfl) (Nat.zero_le _) (Nat.zero_le _) ?_
      refine k_deedX hk (fun a4 => ?_)
      refine pw_bipush (v := nI 6) dX5_lacksName_66 (by decide) ?_
      refine pw_icmp_ne (tgt := 95) dX5_lacksName_68 (by decide) (fun h68 => ?_) (fun h68 => ?_)
      · refine pw_sub [1, 2, 3] rfl ?_
        refine pw_iinc (lv' := [(2, _), (0, _), (1, _)]) dX5_lacksName_95 rfl (by decide) rfl ?_
        refine pw_goto (tgt := 2) dX5_lacksName_98 (by decide) ?_
        refine pm_lvs (lv' := [(2, .int (nI (k + 1))), (0, _), (1, _)]) (by rw [show nI k + Int32.ofInt 1 = nI (k + 1) from nI_add k 1]) ?_
        exact c_lacks_lp hG hP hd hx hn hl kx hk m (k + 1) (by omega)
      · refine pw_iload_n dX5_lacksName_71 rfl ?_
        refine pw_iconst (v := nI 2) dX5_lacksName_72 (by decide) ?_
        refine pw_icmp_eq (tgt := 95) dX5_lacksName_73 (by decide) (fun h73 => ?_) (fun h73 => ?_)
        · refine pw_sub [1, 2, 3] rfl ?_
          refine pw_iinc (lv' := [(2, _), (0, _), (1, _)]) dX5_lacksName_95 rfl (by decide) rfl ?_
          refine pw_goto (tgt := 2) dX5_lacksName_98 (by decide) ?_
          refine pm_lvs (lv' := [(2, .int (nI (k + 1))), (0, _), (1, _)]) (by rw [show nI k + Int32.ofInt 1 = nI (k + 1) from nI_add k 1]) ?_
          exact c_lacks_lp hG hP hd hx hn hl kx hk m (k + 1) (by omega)
        · refine pw_iload_n dX5_lacksName_76 rfl ?_
          refine pw_iconst (v := nI 3) dX5_lacksName_77 (by decide) ?_
          refine pw_icmp_eq (tgt := 95) dX5_lacksName_78 (by decide) (fun h78 => ?_) (fun h78 => ?_)
          · refine pw_sub [1, 2, 3] rfl ?_
            refine pw_iinc (lv' := [(2, _), (0, _), (1, _)]) dX5_lacksName_95 rfl (by decide) rfl ?_
            refine pw_goto (tgt := 2) dX5_lacksName_98 (by decide) ?_
            refine pm_lvs (lv' := [(2, .int (nI (k + 1))), (0, _), (1, _)]) (by rw [show nI k + Int32.ofInt 1 = nI (k + 1) from nI_add k 1]) ?_
            exact c_lacks_lp hG hP hd hx hn hl kx hk m (k + 1) (by omega)
          · refine pw_aload_n dX5_lacksName_81 rfl ?_
            refine pw_getI fX5_9 dX5_lacksName_82 (by have := hx.1.2; omega) hx.tg rfl ?_
            refine pw_iconst (v := nI 2) dX5_lacksName_85 (by decide) ?_
            refine pw_icmp_ne (tgt := 93) dX5_lacksName_86 (by decide) (fun h86 => ?_) (fun h86 => ?_)
            · refine pw_iconst (v := nI 0) dX5_lacksName_93 (by decide) ?_
              exact pw_zret dX5_lacksName_94 rfl (by decide) (kx _)
            · refine pw_iconst (v := nI 1) dX5_lacksName_89 (by decide) ?_
              refine pw_goto (tgt := 94) dX5_lacksName_90 (by decide) ?_
              exact pw_zret dX5_lacksName_94 rfl (by decide) (kx _)
    · refine pw_iload_n dX5_lacksName_39 rfl ?_
      refine pw_iconst (v := nI 1) dX5_lacksName_40 (by decide) ?_
      refine pw_icmp_eq (tgt := 58) dX5_lacksName_41 (by decide) (fun h41 => ?_) (fun h41 => ?_)
      · refine pw_aload_n dX5_lacksName_58 rfl ?_
        refine pw_getR fX5_26 dX5_lacksName_59 (by have := hx.1.2; omega) hx.tg rfl hx.p4 ?_
        refine pw_iload_n dX5_lacksName_62 rfl ?_
        refine pw_callV (as := [_]) (kc' := 0) (ks' := 0) lX5_36 dX5_lacksName_63 rfl rfl (by have := hk.1.2; omega) hk.2.1 (Nat.le_of_ble_eq_true rfl) (by omega) (Nat.le_of_ble_eq_true rfl) (Nat.zero_le _) (Nat.zero_le _) ?_
        refine k_deedX hk (fun a4 => ?_)
        refine pw_bipush (v := nI 6) dX5_lacksName_66 (by decide) ?_
        refine pw_icmp_ne (tgt := 95) dX5_lacksName_68 (by decide) (fun h68 => ?_) (fun h68 => ?_)
        · refine pw_sub [1, 2, 3] rfl ?_
          refine pw_iinc (lv' := [(2, _), (0, _), (1, _)]) dX5_lacksName_95 rfl (by decide) rfl ?_
          refine pw_goto (tgt := 2) dX5_lacksName_98 (by decide) ?_
          refine pm_lvs (lv' := [(2, .int (nI (k + 1))), (0, _), (1, _)]) (by rw [show nI k + Int32.ofInt 1 = nI (k + 1) from nI_add k 1]) ?_
          exact c_lacks_lp hG hP hd hx hn hl kx hk m (k + 1) (by omega)
        · refine pw_iload_n dX5_lacksName_71 rfl ?_
          refine pw_iconst (v := nI 2) dX5_lacksName_72 (by decide) ?_
          refine pw_icmp_eq (tgt := 95) dX5_lacksName_73 (by decide) (fun h73 => ?_) (fun h73 => ?_)
          · refine pw_sub [1, 2, 3] rfl ?_
            refine pw_iinc (lv' := [(2, _), (0, _), (1, _)]) dX5_lacksName_95 rfl (by decide) rfl ?_
            refine pw_goto (tgt := 2) dX5_lacksName_98 (by decide) ?_
            refine pm_lvs (lv' := [(2, .int (nI (k + 1))), (0, _), (1, _)]) (by rw [show nI k + Int32.ofInt 1 = nI (k + 1) from nI_add k 1]) ?_
            exact c_lacks_lp hG hP hd hx hn hl kx hk m (k + 1) (by omega)
          · refine pw_iload_n dX5_lacksName_76 rfl ?_
            refine pw_iconst (v := nI 3) dX5_lacksName_77 (by decide) ?_
            refine pw_icmp_eq (tgt := 95) dX5_lacksName_78 (by decide) (fun h78 => ?_) (fun h78 => ?_)
            · refine pw_sub [1, 2, 3] rfl ?_
              refine pw_iinc (lv' := [(2, _), (0, _), (1, _)]) dX5_lacksName_95 rfl (by decide) rfl ?_
              refine pw_goto (tgt := 2) dX5_lacksName_98 (by decide) ?_
              refine pm_lvs (lv' := [(2, .int (nI (k + 1))), (0, _), (1, _)]) (by rw [show nI k + Int32.ofInt 1 = nI (k + 1) from nI_add k 1]) ?_
              exact c_lacks_lp hG hP hd hx hn hl kx hk m (k + 1) (by omega)
            · refine pw_aload_n dX5_lacksName_81 rfl ?_
              refine pw_getI fX5_9 dX5_lacksName_82 (by have := hx.1.2; omega) hx.tg rfl ?_
              refine pw_iconst (v := nI 2) dX5_lacksName_85 (by decide) ?_
              refine pw_icmp_ne (tgt := 93) dX5_lacksName_86 (by decide) (fun h86 => ?_) (fun h86 => ?_)
              · refine pw_iconst (v := nI 0) dX5_lacksName_93 (by decide) ?_
                exact pw_zret dX5_lacksName_94 rfl (by decide) (kx _)
              · refine pw_iconst (v := nI 1) dX5_lacksName_89 (by decide) ?_
                refine pw_goto (tgt := 94) dX5_lacksName_90 (by decide) ?_
                exact pw_zret dX5_lacksName_94 rfl (by decide) (kx _)
      · refine pw_aload_n dX5_lacksName_44 rfl ?_
        refine pw_getI fX5_9 dX5_lacksName_45 (by have := hx.1.2; omega) hx.tg rfl ?_
        refine pw_iconst (v := nI 2) dX5_lacksName_48 (by decide) ?_
        refine pw_icmp_ne (tgt := 56) dX5_lacksName_49 (by decide) (fun h49 => ?_) (fun h49 => ?_)
        · refine pw_iconst (v := nI 0) dX5_lacksName_56 (by decide) ?_
          exact pw_zret dX5_lacksName_57 rfl (by decide) (kx _)
        · refine pw_iconst (v := nI 1) dX5_lacksName_52 (by decide) ?_
          refine pw_goto (tgt := 57) dX5_lacksName_53 (by decide) ?_
          exact pw_zret dX5_lacksName_57 rfl (by decide) (kx _)
set_option maxRecDepth 20000 in
set_option maxHeartbeats 400000 in
theorem c_lacks {l : Launch} {E : pmE} {d : Nat} {S : pmS} {I : pmI} {J : pmJ} {P : pmP} {Q : Option Value → pmS → pmI → pmJ → pmP → Prop} (hG : sh_St S) (hP : gr_St P) (hd : 2 ≤ d) {ns : List Int64} {z : Nat} {y : sN} (hx : snC S I J P ns z y) {n : Nat} (hn : I 16 4 = nI n) (hl : n ≤ 40) (k : ∀ a, Q (some (.int a)) S I J P) : pm_Met l E yX5_lacksName cX5_lacksName 4 (some .boolean) d 0 0 [.ref (z + 2), .ref 16] S I J P Q := by
  unfold pm_Met
  obtain ⟨rm, L, hk, -⟩ := hx.cd
  refine pm_lvs (lv' := [(0, _), (1, _)]) rfl ?_
  refine pw_iconst (v := nI 0) dX5_lacksName_0 (by decide) ?_
  refine pw_istore_n (lv' := [(2, _), (0, _), (1, _)]) dX5_lacksName_1 (by decide) rfl ?_
  exact c_lacks_lp hG hP hd hx hn hl k hk L.length 0 (Nat.zero_add _)
set_option maxRecDepth 20000 in
set_option maxHeartbeats 400000 in
theorem c_stateOf {l : Launch} {E : pmE} {d : Nat} {S : pmS} {I : pmI} {J : pmJ} {P : pmP} {Q : Option Value → pmS → pmI → pmJ → pmP → Prop} (hG : sh_St S) (hP : gr_St P) (hd : 4 ≤ d) {x : Int32} {A : aS} {Z : Nat → Nat} {b : Nat} (hc : cA S I J P A Z b) (hO : aO A) (k : ∀ a, Q (some (.int a)) S I J P) : pm_Met l E yX4_stateOf cX4_stateOf 2 (some .int) d 0 0 [.ref 15, .int x] S I J P Q := by
  unfold pm_Met
  refine pm_lvs (lv' := [(0, _), (1, _)]) rfl ?_
  refine pw_aload_n dX4_stateOf_0 rfl ?_
  refine pw_iload_n dX4_stateOf_1 rfl ?_
  refine pw_callV (as := [_]) (kc' := 0) (ks' := 0) lX4_96 dX4_stateOf_2 rfl rfl (sh_lt hG (by decide)) (sh_tg hG 13 rfl) (Nat.le_of_ble_eq_true rfl) (by omega) (Nat.le_of_ble_eq_true rfl) (Nat.zero_le _) (Nat.zero_le _) ?_
  refine c_isRepl hG hP (by omega) hc hO (fun a => ?_)
  refine pw_if_eq (tgt := 10) dX4_stateOf_5 (by decide) (fun h5 => ?_) (fun h5 => ?_)
  · refine pw_aload_n dX4_stateOf_10 rfl ?_
    refine pw_iload_n dX4_stateOf_11 rfl ?_
    refine pw_callV (as := [_]) (kc' := 0) (ks' := 0) lX4_82 dX4_stateOf_12 rfl rfl (sh_lt hG (by decide)) (sh_tg hG 13 rfl) (Nat.le_of_ble_eq_true rfl) (by omega) (Nat.le_of_ble_eq_true rfl) (Nat.zero_le _) (Nat.zero_le _) ?_
    refine c_hasSn hG hP hc hO (fun i hs e => ?_) ?_
    · subst e
      have hsl := hO.2.2.2.2.2.2.2.2.2.2.1
      refine pw_if_eq (tgt := 38) dX4_stateOf_15 (by decide) (fun h => absurd h (by decide)) (fun h15 => ?_)
      refine pw_aload_n dX4_stateOf_18 rfl ?_
      refine pw_getR fX4_39 dX4_stateOf_19 (sh_lt hG (by decide)) (sh_tg hG 13 rfl) rfl (gr_at hP 19 rfl) ?_
      refine pw_iload_n dX4_stateOf_22 rfl ?_
      refine pw_aaldN (r := some (Z i + 2)) i dX4_stateOf_23 (sh_lt hG (by decide)) (sh_sh hG 31 rfl) (by decide) (by decide) (rfl) (by omega) (hc.sn hs).1 ?_
      refine pw_aload_n dX4_stateOf_24 rfl ?_
      refine pw_getR fX4_12 dX4_stateOf_25 (sh_lt hG (by decide)) (sh_tg hG 13 rfl) rfl (gr_at hP 15 rfl) ?_
      refine pw_callV (as := [_]) (kc' := 0) (ks' := 0) lX4_99 dX4_stateOf_28 rfl rfl (by have := (hc.sn hs).2.1.1.2; omega) (hc.sn hs).2.1.tg (Nat.le_of_ble_eq_true rfl) (by omega) (Nat.le_of_ble_eq_true rfl) (Nat.zero_le _) (Nat.zero_le _) ?_
      refine c_lacks hG hP (by omega) (hc.sn hs).2.1 hc.n hO.1.2 (fun a2 => ?_)
      refine pw_if_eq (tgt := 38) dX4_stateOf_31 (by decide) (fun h31 => ?_) (fun h31 => ?_)
      · refine pw_iconst (v := nI 0) dX4_stateOf_38 (by decide) ?_
        exact pw_iret dX4_stateOf_39 rfl (k _)
      · refine pw_iconst (v := nI 1) dX4_stateOf_34 (by decide) ?_
        refine pw_goto (tgt := 39) dX4_stateOf_35 (by decide) ?_
        exact pw_iret dX4_stateOf_39 rfl (k _)
    · refine pw_if_eq (tgt := 38) dX4_stateOf_15 (by decide) (fun h15 => ?_) (fun h => absurd (by decide) h)
      refine pw_iconst (v := nI 0) dX4_stateOf_38 (by decide) ?_
      exact pw_iret dX4_stateOf_39 rfl (k _)
  · refine pw_iconst (v := nI 2) dX4_stateOf_8 (by decide) ?_
    exact pw_iret dX4_stateOf_9 rfl (k _)
set_option maxRecDepth 20000 in
set_option maxHeartbeats 400000 in
theorem c_state {l : Launch} {E : pmE} {d : Nat} {S : pmS} {I : pmI} {J : pmJ} {P : pmP} {Q : Option Value → pmS → pmI → pmJ → pmP → Prop} (hG : sh_St S) (hP : gr_St P) (hd : 5 ≤ d) {x : Int32} {A : aS} {Z : Nat → Nat} {b : Nat} (hc : cA S I J P A Z b) (hO : aO A) (k : ∀ a, Q (some (.int a)) S I J P) : pm_Met l E yX9_state cX9_state 2 (some .int) d 0 0 [.ref 2, .int x] S I J P Q := by
  unfold pm_Met
  refine pm_lvs (lv' := [(0, _), (1, _)]) rfl ?_
  refine pw_aload_n dX9_state_0 rfl ?_
  refine pw_getR fX9_32 dX9_state_1 (sh_lt hG (by decide)) (sh_tg hG 0 rfl) rfl (gr_at hP 3 rfl) ?_
  refine pw_iload_n dX9_state_4 rfl ?_
  refine pw_callV (as := [_]) (kc' := 0) (ks' := 0) lX9_155 dX9_state_5 rfl rfl (sh_lt hG (by decide)) (sh_tg hG 13 rfl) (Nat.le_of_ble_eq_true rfl) (by omega) (Nat.le_of_ble_eq_true rfl) (Nat.zero_le _) (Nat.zero_le _) ?_
  refine c_hasSn hG hP hc hO (fun i hs e => ?_) ?_
  · refine pw_if_eq (tgt := 22) dX9_state_8 (by decide) (fun h => absurd h (by decide)) (fun h8 => ?_)
    refine pw_aload_n dX9_state_11 rfl ?_
    refine pw_getR fX9_32 dX9_state_12 (sh_lt hG (by decide)) (sh_tg hG 0 rfl) rfl (gr_at hP 3 rfl) ?_
    refine pw_iload_n dX9_state_15 rfl ?_
    refine pw_callV (as := [_]) (kc' := 0) (ks' := 0) lX9_158 dX9_state_16 rfl rfl (sh_lt hG (by decide)) (sh_tg hG 13 rfl) (Nat.le_of_ble_eq_true rfl) (by omega) (Nat.le_of_ble_eq_true rfl) (Nat.zero_le _) (Nat.zero_le _) ?_
    refine c_stateOf hG hP (by omega) hc hO (fun a => ?_)
    refine pw_goto (tgt := 23) dX9_state_19 (by decide) ?_
    exact pw_iret dX9_state_23 rfl (k _)
  · refine pw_if_eq (tgt := 22) dX9_state_8 (by decide) (fun h8 => ?_) (fun h => absurd (by decide) h)
    refine pw_iconst (v := -1) dX9_state_22 (by decide) ?_
    exact pw_iret dX9_state_23 rfl (k _)
