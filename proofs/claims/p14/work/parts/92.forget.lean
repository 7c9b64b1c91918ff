theorem nn_I {x : Int32} (h : ¬ x < 0) : ∃ i, i < 2 ^ 31 ∧ x = nI i := by
  have h1 := pm_nn h
  have h2 : x.toInt < 2 ^ 31 := x.toInt_lt
  refine ⟨x.toNatClampNeg, by omega, ?_⟩
  apply Int32.toInt_inj.mp
  rw [show nI x.toNatClampNeg = Int32.ofNat x.toNatClampNeg from rfl, Int32.toInt_ofNat_of_lt (by omega)]
  exact h1
theorem lvl_lt {x : Nat} (h : lvl x ≤ 2) : x < 128 := by
  unfold lvl at h
  by_cases h1 : x = 60 ∨ x = 61
  · omega
  · rw [if_neg h1] at h
    by_cases h2 : x = 43 ∨ x = 45
    · omega
    · rw [if_neg h2] at h
      by_cases h3 : x = 42 ∨ x = 47 ∨ x = 37
      · omega
      · rw [if_neg h3] at h; omega
theorem cp_lt {pa : List Int64} {Nm : Int64 → Prop} : ∀ T : eX, wt pa Nm T → ∀ x ∈ cp id T, x.1 < 128
  | .leaf, hT, x, hx => hT.elim
  | .inner k q u a .leaf, hT, x, hx => by
    rcases hT with rfl | rfl | ⟨rfl, h2, h3⟩ | ⟨rfl, h2, h3⟩ | ⟨rfl, h2⟩ | ⟨rfl, h2, h3⟩
    · have hx : x ∈ [((2, 0, q.2) : dE)] := hx
      cases List.mem_singleton.mp hx
      exact (by decide : (2 : Nat) < 128)
    · have hx : x ∈ [((3, q.2.toInt32, 0) : dE)] := hx
      cases List.mem_singleton.mp hx
      exact (by decide : (3 : Nat) < 128)
    · have hx : x ∈ [((4, nI q.1, 0) : dE)] := hx
      cases List.mem_singleton.mp hx
      exact (by decide : (4 : Nat) < 128)
    · have hx : x ∈ [((5, 0, q.2) : dE)] := hx
      cases List.mem_singleton.mp hx
      exact (by decide : (5 : Nat) < 128)
    · have hx : x ∈ (((1, 0, 0) : dE) :: (cp id a ++ [((10, 0, 0) : dE)])) := hx
      rcases List.mem_cons.mp hx with rfl | hx
      · exact (by decide : (1 : Nat) < 128)
      rcases List.mem_append.mp hx with hx | hx
      · exact cp_lt a h2 x hx
      cases List.mem_singleton.mp hx
      exact (by decide : (10 : Nat) < 128)
    · have hx : x ∈ (((1, 0, 0) : dE) :: (cp id a ++ [((9, 0, q.2) : dE)])) := hx
      rcases List.mem_cons.mp hx with rfl | hx
      · exact (by decide : (1 : Nat) < 128)
      rcases List.mem_append.mp hx with hx | hx
      · exact cp_lt a h3 x hx
      cases List.mem_singleton.mp hx
      exact (by decide : (9 : Nat) < 128)
  | .inner k q u a (.inner k2 q2 u2 b c), hT, x, hx => by
    rcases hT with ⟨rfl, h2, h3, h4, h5, h6⟩ | ⟨rfl, h2, h3, h4, rfl⟩ | ⟨rfl, h2, h3, h4⟩
    · have hx : x ∈ (((6, nI q.1, q.2) : dE) :: (cp id a ++ (cp id b ++ (cp id c ++ [((8, nI q.1, q.2) : dE)])))) := hx
      rcases List.mem_cons.mp hx with rfl | hx
      · exact (by decide : (6 : Nat) < 128)
      rcases List.mem_append.mp hx with hx | hx
      · rcases h4 with ⟨_, rfl⟩ | ⟨_, h4⟩
        · cases hx
        · exact cp_lt a h4 x hx
      rcases List.mem_append.mp hx with hx | hx
      · rcases h5 with ⟨_, rfl⟩ | ⟨_, h5⟩
        · cases hx
        · exact cp_lt b h5 x hx
      rcases List.mem_append.mp hx with hx | hx
      · rcases h6 with ⟨_, rfl⟩ | ⟨_, h6⟩
        · cases hx
        · exact cp_lt c h6 x hx
      cases List.mem_singleton.mp hx
      exact (by decide : (8 : Nat) < 128)
    · have hx : x ∈ (((1, 0, 0) : dE) :: (cp id a ++ (cp id b ++ [((q.1, 0, 0) : dE)]))) := hx
      rcases List.mem_cons.mp hx with rfl | hx
      · exact (by decide : (1 : Nat) < 128)
      rcases List.mem_append.mp hx with hx | hx
      · exact cp_lt a h3 x hx
      rcases List.mem_append.mp hx with hx | hx
      · exact cp_lt b h4 x hx
      cases List.mem_singleton.mp hx
      exact lvl_lt h2
    · have hx : x ∈ (((1, 0, 0) : dE) :: (cp id a ++ ((11, nI ((cp id b).length + 1), 0) : dE) :: (cp id b ++ ((12, nI (cp id c).length, 0) : dE) :: cp id c))) := hx
      rcases List.mem_cons.mp hx with rfl | hx
      · exact (by decide : (1 : Nat) < 128)
      rcases List.mem_append.mp hx with hx | hx
      · exact cp_lt a h2 x hx
      rcases List.mem_cons.mp hx with rfl | hx
      · exact (by decide : (11 : Nat) < 128)
      rcases List.mem_append.mp hx with hx | hx
      · exact cp_lt b h3 x hx
      rcases List.mem_cons.mp hx with rfl | hx
      · exact (by decide : (12 : Nat) < 128)
      exact cp_lt c h4 x hx
set_option maxRecDepth 20000 in
set_option maxHeartbeats 400000 in
theorem v_kindX {l : Launch} {E : pmE} {d : Nat} {S : pmS} {I : pmI} {J : pmJ} {P : pmP} {Q : Option Value → pmS → pmI → pmJ → pmP → Prop} (hG : sh_St S) (hP : gr_St P) {x : Int32} (k : ∀ v, Q (some (.int v)) S I J P) : pm_Met l E yX8_kindAt cX8_kindAt 2 (some .int) d 0 0 [.ref 35, .int x] S I J P Q := by
  unfold pm_Met
  refine pm_lvs (lv' := [(0, _), (1, _)]) rfl ?_
  refine pw_iload_n dX8_kindAt_0 rfl ?_
  refine pw_if_lt (tgt := 22) dX8_kindAt_1 (by decide) (fun h1 => ?_) (fun h1 => ?_)
  · refine pw_iconst (v := nI 0) dX8_kindAt_22 (by decide) ?_
    exact pw_iret dX8_kindAt_23 rfl (k _)
  · obtain ⟨i, hi, rfl⟩ := nn_I h1
    refine pw_iload_n dX8_kindAt_4 rfl ?_
    refine pw_aload_n dX8_kindAt_5 rfl ?_
    refine pw_getR fX8_7 dX8_kindAt_6 (sh_lt hG (by decide)) (sh_tg hG 33 rfl) rfl (gr_at hP 34 rfl) ?_
    refine pw_alen dX8_kindAt_9 (sh_lt hG (by decide)) (sh_sh hG 34 rfl) (by decide) (by decide) ?_
    refine pw_icmpN_ge _ _ (tgt := 22) dX8_kindAt_10 (by decide) (rfl) (rfl) (by omega) (by omega) (fun h10 => ?_) (fun h10 => ?_)
    · refine pw_iconst (v := nI 0) dX8_kindAt_22 (by decide) ?_
      exact pw_iret dX8_kindAt_23 rfl (k _)
    · refine pw_aload_n dX8_kindAt_13 rfl ?_
      refine pw_getR fX8_7 dX8_kindAt_14 (sh_lt hG (by decide)) (sh_tg hG 33 rfl) rfl (gr_at hP 34 rfl) ?_
      refine pw_iload_n dX8_kindAt_17 rfl ?_
      refine pw_ialdN i dX8_kindAt_18 (sh_lt hG (by decide)) (sh_sh hG 34 rfl) (by decide) (rfl) (by omega) ?_
      refine pw_goto (tgt := 23) dX8_kindAt_19 (by decide) ?_
      exact pw_iret dX8_kindAt_23 rfl (k _)

set_option maxRecDepth 20000 in
set_option maxHeartbeats 400000 in
theorem v_coreX {l : Launch} {E : pmE} {d : Nat} {S : pmS} {I : pmI} {J : pmJ} {P : pmP} {Q : Option Value → pmS → pmI → pmJ → pmP → Prop} (hG : sh_St S) (hP : gr_St P) {x : Int32} (k : ∀ v, Q (some (.long v)) S I J P) : pm_Met l E yX8_coreAt cX8_coreAt 2 (some .long) d 0 0 [.ref 35, .int x] S I J P Q := by
  unfold pm_Met
  refine pm_lvs (lv' := [(0, _), (1, _)]) rfl ?_
  refine pw_iload_n dX8_coreAt_0 rfl ?_
  refine pw_if_lt (tgt := 22) dX8_coreAt_1 (by decide) (fun h1 => ?_) (fun h1 => ?_)
  · refine pw_lconst (v := 0) dX8_coreAt_22 (by decide) ?_
    exact pw_lret dX8_coreAt_23 rfl (k _)
  · obtain ⟨i, hi, rfl⟩ := nn_I h1
    refine pw_iload_n dX8_coreAt_4 rfl ?_
    refine pw_aload_n dX8_coreAt_5 rfl ?_
    refine pw_getR fX8_13 dX8_coreAt_6 (sh_lt hG (by decide)) (sh_tg hG 33 rfl) rfl (gr_at hP 35 rfl) ?_
    refine pw_alen dX8_coreAt_9 (sh_lt hG (by decide)) (sh_sh hG 35 rfl) (by decide) (by decide) ?_
    refine pw_icmpN_ge _ _ (tgt := 22) dX8_coreAt_10 (by decide) (rfl) (rfl) (by omega) (by omega) (fun h10 => ?_) (fun h10 => ?_)
    · refine pw_lconst (v := 0) dX8_coreAt_22 (by decide) ?_
      exact pw_lret dX8_coreAt_23 rfl (k _)
    · refine pw_aload_n dX8_coreAt_13 rfl ?_
      refine pw_getR fX8_13 dX8_coreAt_14 (sh_lt hG (by decide)) (sh_tg hG 33 rfl) rfl (gr_at hP 35 rfl) ?_
      refine pw_iload_n dX8_coreAt_17 rfl ?_
      refine pw_laldN i dX8_coreAt_18 (sh_lt hG (by decide)) (sh_sh hG 35 rfl) (by decide) (rfl) (by omega) ?_
      refine pw_goto (tgt := 23) dX8_coreAt_19 (by decide) ?_
      exact pw_lret dX8_coreAt_23 rfl (k _)

set_option maxRecDepth 20000 in
set_option maxHeartbeats 400000 in
theorem c_fill_lp {l : Launch} {E : pmE} {d : Nat} {S : pmS} {J : pmJ} {P : pmP} {Q : Option Value → pmS → pmI → pmJ → pmP → Prop} (hG : sh_St S) (hP : gr_St P) {I1 : pmI} (kx : ∀ I', (∀ a, a ≠ 41 → I' a = I1 a) → (∀ j, j < 5 → I' 41 j = nI 0) → Q none S I' J P) : ∀ (m k : Nat) (I : pmI), k + m = 5 → (∀ a, a ≠ 41 → I a = I1 a) → (∀ j, j < k → I 41 j = nI 0) → pm_W l E yJ7_fill_53178 cJ7_fill_53178 4 none d 0 0 5 [(2, .int (nI k)), (3, .int (nI 5)), (0, .ref 41), (1, .int (nI 0))] [] S I J P (pm_N E Q)
  | 0, k, I, hk, h1, h2 => by
    have e : k = 5 := by omega
    subst e
    refine pw_iload_n dJ7_fill_53178_5 rfl ?_
    refine pw_iload_n dJ7_fill_53178_6 rfl ?_
    refine pw_icmp_ge (tgt := 20) dJ7_fill_53178_7 (by decide) (fun h7 => ?_) (fun h => absurd (by decide) h)
    exact pw_vret dJ7_fill_53178_20 rfl (kx I h1 h2)
  | m + 1, k, I, hk, h1, h2 => by
    refine pw_iload_n dJ7_fill_53178_5 rfl ?_
    refine pw_iload_n dJ7_fill_53178_6 rfl ?_
    refine pw_icmpN_ge _ _ (tgt := 20) dJ7_fill_53178_7 (by decide) (rfl) (rfl) (by omega) (by omega) (fun h7 => absurd h7 (by omega)) (fun h7 => ?_)
    refine pw_aload_n dJ7_fill_53178_10 rfl ?_
    refine pw_iload_n dJ7_fill_53178_11 rfl ?_
    refine pw_iload_n dJ7_fill_53178_12 rfl ?_
    refine pw_iastN k dJ7_fill_53178_13 (by decide) (sh_lt hG (by decide)) (sh_sh hG 39 rfl) (by decide) (rfl) (by omega) ?_
    refine pw_iinc (lv' := [(2, _), (3, _), (0, _), (1, _)]) dJ7_fill_53178_14 rfl (by decide) rfl ?_
    refine pw_goto (tgt := 5) dJ7_fill_53178_17 (by decide) ?_
    refine pm_lvs (lv' := [(2, .int (nI (k + 1))), (3, _), (0, _), (1, _)]) (by rw [show nI k + Int32.ofInt 1 = nI (k + 1) from nI_add k 1]) ?_
    refine c_fill_lp hG hP kx m (k + 1) _ (by omega) (fun a ha => by rw [pm_u_ne ha]; exact h1 a ha) (fun j hj => ?_)
    rw [pm_u_eq]
    by_cases e : j = k
    · subst e; exact pm_up_eq
    · rw [pm_up_ne e]; exact h2 j (by omega)
set_option maxRecDepth 20000 in
set_option maxHeartbeats 400000 in
theorem c_forget {l : Launch} {E : pmE} {d : Nat} {S : pmS} {I : pmI} {J : pmJ} {P : pmP} {Q : Option Value → pmS → pmI → pmJ → pmP → Prop} (hG : sh_St S) (hP : gr_St P) (hd : 1 ≤ d) (kx : ∀ I', (∀ a, a ≠ 41 → I' a = I a) → (∀ j, j < 5 → I' 41 j = nI 0) → Q none S I' J P) : pm_Met l E yX1_forgetReport cX1_forgetReport 1 none d 0 0 [.ref 34] S I J P Q := by
  unfold pm_Met
  refine pm_lvs (lv' := [(0, _)]) rfl ?_
  refine pw_aload_n dX1_forgetReport_0 rfl ?_
  refine pw_getR fX1_31 dX1_forgetReport_1 (sh_lt hG (by decide)) (sh_tg hG 32 rfl) rfl (gr_at hP 33 rfl) ?_
  refine pw_iconst (v := nI 0) dX1_forgetReport_4 (by decide) ?_
  refine pw_callS (as := [_, _]) (kc' := 0) (ks' := 0) lX1_50 dX1_forgetReport_5 rfl rfl (Nat.le_of_ble_eq_true rfl) (by omega) (Nat.le_of_ble_eq_true rfl) (Nat.zero_le _) (Nat.zero_le _) ?_
  unfold pm_Met
  refine pm_lvs (lv' := [(0, _), (1, _)]) rfl ?_
  refine pw_iconst (v := nI 0) dJ7_fill_53178_0 (by decide) ?_
  refine pw_istore_n (lv' := [(2, _), (0, _), (1, _)]) dJ7_fill_53178_1 (by decide) rfl ?_
  refine pw_aload_n dJ7_fill_53178_2 rfl ?_
  refine pw_alen dJ7_fill_53178_3 (sh_lt hG (by decide)) (sh_sh hG 39 rfl) (by decide) (by decide) ?_
  refine pw_istore_n (lv' := [(3, _), (2, _), (0, _), (1, _)]) dJ7_fill_53178_4 (by decide) rfl ?_
  refine pw_sub [1, 0, 2, 3] rfl ?_
  exact c_fill_lp hG hP (fun I' h1 h2 => pw_vret dX1_forgetReport_8 rfl (kx I' h1 h2)) 5 0 I rfl (fun _ _ => rfl) (fun j hj => absurd hj (by omega))
