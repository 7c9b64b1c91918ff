set_option maxRecDepth 20000 in
set_option maxHeartbeats 4000000 in
theorem sg_r1loop {l : Launch} {E : pmE} {d : Nat} {S : pmS} {I : pmI} {J : pmJ} {P : pmP} {Q : Option Value → pmS → pmI → pmJ → pmP → Prop} (hG : sh_St S) (hP : gr_St P) {w : Int64} (hd : 3 ≤ d) : ∀ (j m b : Nat), j ≤ 8 → m + j ≤ 8 → b ≤ 1 → (∀ b', b' ≤ 1 → (b' = 1 ↔ b = 1 ∧ sg_all w j) → pm_W l E yX10_signs cX10_signs 7 (some .int) d 0 0 78 [(5, .int (sg_sh 0)), (3, .int (nI (m + sg_cnt w j))), (4, (.int (nI b'))), (0, .ref 47), (1, .long w)] [] S I J P (pm_N E Q)) → pm_W l E yX10_signs cX10_signs 7 (some .int) d 0 0 14 [(5, .int (sg_sh j)), (3, .int (nI m)), (4, .int (nI b)), (0, .ref 47), (1, .long w)] [] S I J P (pm_N E Q)
  | 0, m, b, hj, hm, hb1, kk => by
    refine pw_iload dX10_signs_14 rfl ?_
    refine pw_if_lt (tgt := 78) dX10_signs_16 (by decide) (fun h16 => ?_) (fun h => absurd (sg_sh0) h)
    exact kk b hb1 ⟨fun h => ⟨h, fun i hi => absurd hi (Nat.not_lt_zero i)⟩, fun h => h.1⟩
  | j + 1, m, b, hj, hm, hb1, kk => by
    have hb := by_lt w j
    have hj : j < 8 := hj
    refine pw_iload dX10_signs_14 rfl ?_
    refine pw_if_lt (tgt := 78) dX10_signs_16 (by decide) (fun h => absurd h (by rw [sg_sh_s hj]; exact nI_pos (by omega))) (fun h16 => ?_)
    refine pw_lload_n dX10_signs_19 rfl ?_
    refine pw_iload dX10_signs_20 rfl ?_
    refine pw_lshr dX10_signs_22 ?_
    refine pw_ldc2 dX10_signs_23 kX10_158 ?_
    refine pw_land dX10_signs_26 ?_
    refine pw_l2i dX10_signs_27 ?_
    refine pw_ti (z := nI (by_t w j)) (by rw [sg_sh_s hj]; exact by_li w hj) ?_
    by_cases hz : by_t w j = 0
    · rcases (show b = 0 ∨ b = 1 by omega) with rfl | rfl
      · refine pw_istore (lv' := [(6, _), (5, _), (3, _), (4, _), (0, _), (1, _)]) dX10_signs_28 (by decide) rfl ?_
        refine pw_iload_n dX10_signs_30 rfl ?_
        refine pw_iload dX10_signs_31 rfl ?_
        refine pw_ifN_ne _ (tgt := 40) dX10_signs_33 (by decide) (rfl) (by omega) (fun h33 => absurd h33 (by omega)) (fun h33 => ?_)
        refine pw_iconst (v := nI 0) dX10_signs_36 (by decide) ?_
        refine pw_goto (tgt := 41) dX10_signs_37 (by decide) ?_
        refine pw_iadd dX10_signs_41 ?_
        refine pw_ti (z := nI m) (nI_add _ _) ?_
        refine pw_istore_n (lv' := [(3, _), (6, _), (5, _), (4, _), (0, _), (1, _)]) dX10_signs_42 (by decide) rfl ?_
        refine pw_iload dX10_signs_43 rfl ?_
        refine pw_ifN_eq _ (tgt := 69) dX10_signs_45 (by decide) (rfl) (by omega) (fun h45 => ?_) (fun h45 => absurd h45 (by omega))
        refine pw_iconst (v := nI 0) dX10_signs_69 (by decide) ?_
        refine pw_istore (lv' := [(4, _), (3, _), (6, _), (5, _), (0, _), (1, _)]) dX10_signs_70 (by decide) rfl ?_
        refine pw_iinc (lv' := [(5, _), (4, _), (3, _), (6, _), (0, _), (1, _)]) dX10_signs_72 rfl (by decide) rfl ?_
        refine pw_goto (tgt := 14) dX10_signs_75 (by decide) ?_
        refine pw_sub [0, 2, 1, 4, 5] rfl ?_
        rw [sg_sh_s hj, sg_dec2 hj]
        exact sg_r1loop hG hP hd j m 0 (by omega) (by omega) (by decide) (fun b' h7 h8 => by
          have h4 := kk b' h7 ⟨fun h => absurd (h8.mp h).1 (by decide), fun h => absurd h.1 (by decide)⟩
          rw [sg_c0 hz] at h4
          exact h4)
      · refine pw_istore (lv' := [(6, _), (5, _), (3, _), (4, _), (0, _), (1, _)]) dX10_signs_28 (by decide) rfl ?_
        refine pw_iload_n dX10_signs_30 rfl ?_
        refine pw_iload dX10_signs_31 rfl ?_
        refine pw_ifN_ne _ (tgt := 40) dX10_signs_33 (by decide) (rfl) (by omega) (fun h33 => absurd h33 (by omega)) (fun h33 => ?_)
        refine pw_iconst (v := nI 0) dX10_signs_36 (by decide) ?_
        refine pw_goto (tgt := 41) dX10_signs_37 (by decide) ?_
        refine pw_iadd dX10_signs_41 ?_
        refine pw_ti (z := nI m) (nI_add _ _) ?_
        refine pw_istore_n (lv' := [(3, _), (6, _), (5, _), (4, _), (0, _), (1, _)]) dX10_signs_42 (by decide) rfl ?_
        refine pw_iload dX10_signs_43 rfl ?_
        refine pw_ifN_eq _ (tgt := 69) dX10_signs_45 (by decide) (rfl) (by omega) (fun h45 => absurd h45 (by omega)) (fun h45 => ?_)
        refine pw_iload dX10_signs_48 rfl ?_
        refine pw_ifN_eq _ (tgt := 65) dX10_signs_50 (by decide) (rfl) (by omega) (fun h50 => ?_) (fun h50 => absurd h50 (by omega))
        refine pw_iconst (v := nI 1) dX10_signs_65 (by decide) ?_
        refine pw_goto (tgt := 70) dX10_signs_66 (by decide) ?_
        refine pw_istore (lv' := [(4, _), (3, _), (6, _), (5, _), (0, _), (1, _)]) dX10_signs_70 (by decide) rfl ?_
        refine pw_iinc (lv' := [(5, _), (4, _), (3, _), (6, _), (0, _), (1, _)]) dX10_signs_72 rfl (by decide) rfl ?_
        refine pw_goto (tgt := 14) dX10_signs_75 (by decide) ?_
        refine pw_sub [0, 2, 1, 4, 5] rfl ?_
        rw [sg_sh_s hj, sg_dec2 hj]
        exact sg_r1loop hG hP hd j m 1 (by omega) (by omega) (by decide) (fun b' h7 h8 => by
          have h4 := kk b' h7 ⟨fun h => ⟨rfl, sg_all_s (h8.mp h).2 (Or.inl hz)⟩, fun h => h8.mpr ⟨rfl, fun i hi => h.2 i (by omega)⟩⟩
          rw [sg_c0 hz] at h4
          exact h4)
    · rcases (show b = 0 ∨ b = 1 by omega) with rfl | rfl
      · refine pw_istore (lv' := [(6, _), (5, _), (3, _), (4, _), (0, _), (1, _)]) dX10_signs_28 (by decide) rfl ?_
        refine pw_iload_n dX10_signs_30 rfl ?_
        refine pw_iload dX10_signs_31 rfl ?_
        refine pw_ifN_ne _ (tgt := 40) dX10_signs_33 (by decide) (rfl) (by omega) (fun h33 => ?_) (fun h33 => absurd h33 (by omega))
        refine pw_iconst (v := nI 1) dX10_signs_40 (by decide) ?_
        refine pw_iadd dX10_signs_41 ?_
        refine pw_ti (z := nI (m + 1)) (nI_add _ _) ?_
        refine pw_istore_n (lv' := [(3, _), (6, _), (5, _), (4, _), (0, _), (1, _)]) dX10_signs_42 (by decide) rfl ?_
        refine pw_iload dX10_signs_43 rfl ?_
        refine pw_ifN_eq _ (tgt := 69) dX10_signs_45 (by decide) (rfl) (by omega) (fun h45 => ?_) (fun h45 => absurd h45 (by omega))
        refine pw_iconst (v := nI 0) dX10_signs_69 (by decide) ?_
        refine pw_istore (lv' := [(4, _), (3, _), (6, _), (5, _), (0, _), (1, _)]) dX10_signs_70 (by decide) rfl ?_
        refine pw_iinc (lv' := [(5, _), (4, _), (3, _), (6, _), (0, _), (1, _)]) dX10_signs_72 rfl (by decide) rfl ?_
        refine pw_goto (tgt := 14) dX10_signs_75 (by decide) ?_
        refine pw_sub [0, 2, 1, 4, 5] rfl ?_
        rw [sg_sh_s hj, sg_dec2 hj]
        exact sg_r1loop hG hP hd j (m + 1) 0 (by omega) (by omega) (by decide) (fun b' h7 h8 => by
          have h4 := kk b' h7 ⟨fun h => absurd (h8.mp h).1 (by decide), fun h => absurd h.1 (by decide)⟩
          rw [sg_c1 hz, show m + (sg_cnt w j + 1) = m + 1 + sg_cnt w j by omega] at h4
          exact h4)
      · by_cases hok : 32 ≤ by_t w j ∧ by_t w j ≤ 126
        · refine pw_istore (lv' := [(6, _), (5, _), (3, _), (4, _), (0, _), (1, _)]) dX10_signs_28 (by decide) rfl ?_
          refine pw_iload_n dX10_signs_30 rfl ?_
          refine pw_iload dX10_signs_31 rfl ?_
          refine pw_ifN_ne _ (tgt := 40) dX10_signs_33 (by decide) (rfl) (by omega) (fun h33 => ?_) (fun h33 => absurd h33 (by omega))
          refine pw_iconst (v := nI 1) dX10_signs_40 (by decide) ?_
          refine pw_iadd dX10_signs_41 ?_
          refine pw_ti (z := nI (m + 1)) (nI_add _ _) ?_
          refine pw_istore_n (lv' := [(3, _), (6, _), (5, _), (4, _), (0, _), (1, _)]) dX10_signs_42 (by decide) rfl ?_
          refine pw_iload dX10_signs_43 rfl ?_
          refine pw_ifN_eq _ (tgt := 69) dX10_signs_45 (by decide) (rfl) (by omega) (fun h45 => absurd h45 (by omega)) (fun h45 => ?_)
          refine pw_iload dX10_signs_48 rfl ?_
          refine pw_ifN_eq _ (tgt := 65) dX10_signs_50 (by decide) (rfl) (by omega) (fun h50 => absurd h50 (by omega)) (fun h50 => ?_)
          refine pw_iload dX10_signs_53 rfl ?_
          refine pw_bipush (v := nI 32) dX10_signs_55 (by decide) ?_
          refine pw_bipush (v := nI 126) dX10_signs_57 (by decide) ?_
          refine pw_callS (as := [_, _, _]) (kc' := 0) (ks' := 0) lX10_160 dX10_signs_59 rfl rfl (Nat.le_of_ble_eq_true rfl) (by omega) (Nat.le_of_ble_eq_true rfl) (Nat.zero_le _) (Nat.zero_le _) ?_
          refine c_X10_in (fun _ _ => ?_) (fun hi => absurd hi (fun h => h.elim (nI_nlt (by omega) (by omega)) (nI_nlt (by omega) (by omega))))
          refine pw_if_eq (tgt := 69) dX10_signs_62 (by decide) (fun h => absurd h (by decide)) (fun h62 => ?_)
          refine pw_iconst (v := nI 1) dX10_signs_65 (by decide) ?_
          refine pw_goto (tgt := 70) dX10_signs_66 (by decide) ?_
          refine pw_istore (lv' := [(4, _), (3, _), (6, _), (5, _), (0, _), (1, _)]) dX10_signs_70 (by decide) rfl ?_
          refine pw_iinc (lv' := [(5, _), (4, _), (3, _), (6, _), (0, _), (1, _)]) dX10_signs_72 rfl (by decide) rfl ?_
          refine pw_goto (tgt := 14) dX10_signs_75 (by decide) ?_
          refine pw_sub [0, 2, 1, 4, 5] rfl ?_
          rw [sg_sh_s hj, sg_dec2 hj]
          exact sg_r1loop hG hP hd j (m + 1) 1 (by omega) (by omega) (by decide) (fun b' h7 h8 => by
            have h4 := kk b' h7 ⟨fun h => ⟨rfl, sg_all_s (h8.mp h).2 (Or.inr hok)⟩, fun h => h8.mpr ⟨rfl, fun i hi => h.2 i (by omega)⟩⟩
            rw [sg_c1 hz, show m + (sg_cnt w j + 1) = m + 1 + sg_cnt w j by omega] at h4
            exact h4)
        · refine pw_istore (lv' := [(6, _), (5, _), (3, _), (4, _), (0, _), (1, _)]) dX10_signs_28 (by decide) rfl ?_
          refine pw_iload_n dX10_signs_30 rfl ?_
          refine pw_iload dX10_signs_31 rfl ?_
          refine pw_ifN_ne _ (tgt := 40) dX10_signs_33 (by decide) (rfl) (by omega) (fun h33 => ?_) (fun h33 => absurd h33 (by omega))
          refine pw_iconst (v := nI 1) dX10_signs_40 (by decide) ?_
          refine pw_iadd dX10_signs_41 ?_
          refine pw_ti (z := nI (m + 1)) (nI_add _ _) ?_
          refine pw_istore_n (lv' := [(3, _), (6, _), (5, _), (4, _), (0, _), (1, _)]) dX10_signs_42 (by decide) rfl ?_
          refine pw_iload dX10_signs_43 rfl ?_
          refine pw_ifN_eq _ (tgt := 69) dX10_signs_45 (by decide) (rfl) (by omega) (fun h45 => absurd h45 (by omega)) (fun h45 => ?_)
          refine pw_iload dX10_signs_48 rfl ?_
          refine pw_ifN_eq _ (tgt := 65) dX10_signs_50 (by decide) (rfl) (by omega) (fun h50 => absurd h50 (by omega)) (fun h50 => ?_)
          refine pw_iload dX10_signs_53 rfl ?_
          refine pw_bipush (v := nI 32) dX10_signs_55 (by decide) ?_
          refine pw_bipush (v := nI 126) dX10_signs_57 (by decide) ?_
          refine pw_callS (as := [_, _, _]) (kc' := 0) (ks' := 0) lX10_160 dX10_signs_59 rfl rfl (Nat.le_of_ble_eq_true rfl) (by omega) (Nat.le_of_ble_eq_true rfl) (Nat.zero_le _) (Nat.zero_le _) ?_
          refine c_X10_in (fun h1 h2 => absurd (And.intro h1 h2) (fun h => by
            have h5 := mt (nI_ltI (a := by_t w j) (b := 32) (by omega) (by omega)).mpr h.1
            have h6 := mt (nI_ltI (a := 126) (b := by_t w j) (by omega) (by omega)).mpr h.2
            omega)) (fun _ => ?_)
          refine pw_if_eq (tgt := 69) dX10_signs_62 (by decide) (fun h62 => ?_) (fun h => absurd (nI_0) h)
          refine pw_iconst (v := nI 0) dX10_signs_69 (by decide) ?_
          refine pw_istore (lv' := [(4, _), (3, _), (6, _), (5, _), (0, _), (1, _)]) dX10_signs_70 (by decide) rfl ?_
          refine pw_iinc (lv' := [(5, _), (4, _), (3, _), (6, _), (0, _), (1, _)]) dX10_signs_72 rfl (by decide) rfl ?_
          refine pw_goto (tgt := 14) dX10_signs_75 (by decide) ?_
          refine pw_sub [0, 2, 1, 4, 5] rfl ?_
          rw [sg_sh_s hj, sg_dec2 hj]
          exact sg_r1loop hG hP hd j (m + 1) 0 (by omega) (by omega) (by decide) (fun b' h7 h8 => by
            have h4 := kk b' h7 ⟨fun h => absurd (h8.mp h).1 (by decide), fun h => absurd (h.2 j (by omega)) (fun h9 => h9.elim hz hok)⟩
            rw [sg_c1 hz, show m + (sg_cnt w j + 1) = m + 1 + sg_cnt w j by omega] at h4
            exact h4)
set_option maxRecDepth 20000 in
set_option maxHeartbeats 4000000 in
theorem sg_r2loop {l : Launch} {E : pmE} {d : Nat} {S : pmS} {J : pmJ} {P : pmP} {Q : Option Value → pmS → pmI → pmJ → pmP → Prop} (hG : sh_St S) (hP : gr_St P) {w : Int64} (hd : 3 ≤ d) : ∀ (j : Nat) (I : pmI) (n : Nat), j ≤ 8 → I 47 2 = nI n → n + sg_cnt w j ≤ 120 → (∀ I', I' 48 = sg_put w j (I 48) n → I' 47 2 = nI (n + sg_cnt w j) → (∀ a, a ≠ 48 → a ≠ 47 → I' a = I a) → (∀ k, k ≠ 2 → I' 47 k = I 47 k) → Q (some (.int (nI (n + sg_cnt w j)))) S I' J P) → pm_W l E yX10_signs cX10_signs 7 (some .int) d 0 0 104 [(5, .int (sg_sh j)), (0, .ref 47), (1, .long w)] [] S I J P (pm_N E Q)
  | 0, I, n, hj, hn, hm, kk => by
    refine pw_iload dX10_signs_104 rfl ?_
    refine pw_if_lt (tgt := 152) dX10_signs_106 (by decide) (fun h106 => ?_) (fun h => absurd (sg_sh0) h)
    refine pw_aload_n dX10_signs_152 rfl ?_
    refine pw_getI fX10_164 dX10_signs_153 (sh_lt hG (by decide)) (sh_tg hG 45 rfl) rfl ?_
    exact pw_iret dX10_signs_156 rfl (by rw [hn]; exact kk I rfl hn (fun _ _ _ => rfl) (fun _ _ => rfl))
  | j + 1, I, n, hj, hn, hm, kk => by
    have hb := by_lt w j
    have hj : j < 8 := hj
    refine pw_iload dX10_signs_104 rfl ?_
    refine pw_if_lt (tgt := 152) dX10_signs_106 (by decide) (fun h => absurd h (by rw [sg_sh_s hj]; exact nI_pos (by omega))) (fun h106 => ?_)
    refine pw_lload_n dX10_signs_109 rfl ?_
    refine pw_iload dX10_signs_110 rfl ?_
    refine pw_lshr dX10_signs_112 ?_
    refine pw_ldc2 dX10_signs_113 kX10_158 ?_
    refine pw_land dX10_signs_116 ?_
    refine pw_l2i dX10_signs_117 ?_
    refine pw_ti (z := nI (by_t w j)) (by rw [sg_sh_s hj]; exact by_li w hj) ?_
    rw [sg_sh_s hj]
    by_cases hz : by_t w j = 0
    · refine pw_istore (lv' := [(6, _), (5, _), (0, _), (1, _)]) dX10_signs_118 (by decide) rfl ?_
      refine pw_iload dX10_signs_120 rfl ?_
      refine pw_ifN_eq _ (tgt := 146) dX10_signs_122 (by decide) (rfl) (by omega) (fun h122 => ?_) (fun h122 => absurd h122 (by omega))
      refine pw_iinc (lv' := [(5, _), (6, _), (0, _), (1, _)]) dX10_signs_146 rfl (by decide) rfl ?_
      refine pw_goto (tgt := 104) dX10_signs_149 (by decide) ?_
      refine pw_sub [0, 2, 3] rfl ?_
      rw [sg_dec2 hj]
      exact sg_r2loop hG hP hd j I n (by omega) hn (by rw [sg_c0 hz] at hm; exact hm) (fun I' h1 h2 h3 h4 => by
        rw [sg_c0 hz, sg_p0 hz] at kk
        exact kk I' h1 h2 h3 h4)
    · rw [sg_c1 hz, sg_p1 hz] at kk
      rw [sg_c1 hz] at hm
      refine pw_istore (lv' := [(6, _), (5, _), (0, _), (1, _)]) dX10_signs_118 (by decide) rfl ?_
      refine pw_iload dX10_signs_120 rfl ?_
      refine pw_ifN_eq _ (tgt := 146) dX10_signs_122 (by decide) (rfl) (by omega) (fun h122 => absurd h122 (by omega)) (fun h122 => ?_)
      refine pw_aload_n dX10_signs_125 rfl ?_
      refine pw_getR fX10_7 dX10_signs_126 (sh_lt hG (by decide)) (sh_tg hG 45 rfl) rfl (gr_at hP 40 rfl) ?_
      refine pw_aload_n dX10_signs_129 rfl ?_
      refine pw_getI fX10_164 dX10_signs_130 (sh_lt hG (by decide)) (sh_tg hG 45 rfl) rfl ?_
      refine pw_iload dX10_signs_133 rfl ?_
      refine pw_iastN n dX10_signs_135 (by decide) (sh_lt hG (by decide)) (sh_sh hG 46 rfl) (by decide) (hn) (by omega) ?_
      refine pw_aload_n dX10_signs_136 rfl ?_
      refine pw_dup dX10_signs_137 rfl ?_
      refine pw_getI fX10_164 dX10_signs_138 (sh_lt hG (by decide)) (sh_tg hG 45 rfl) rfl ?_
      refine pw_iconst (v := nI 1) dX10_signs_141 (by decide) ?_
      refine pw_iadd dX10_signs_142 ?_
      refine pw_ti (z := nI (n + 1)) (by rw [pm_u_ne (by decide), hn]; exact nI_1 n) ?_
      refine pw_putI fX10_164 dX10_signs_143 (Or.inl rfl) (by decide) (sh_lt hG (by decide)) (sh_tg hG 45 rfl) rfl ?_
      refine pw_iinc (lv' := [(5, _), (6, _), (0, _), (1, _)]) dX10_signs_146 rfl (by decide) rfl ?_
      refine pw_goto (tgt := 104) dX10_signs_149 (by decide) ?_
      refine pw_sub [0, 2, 3] rfl ?_
      rw [sg_dec2 hj]
      exact sg_r2loop hG hP hd j _ (n + 1) (by omega) (by rw [pm_u_eq, pm_up_eq]) (by omega) (fun I' h1 h2 h3 h4 => by
        rw [show n + 1 + sg_cnt w j = n + (sg_cnt w j + 1) by omega] at h2 ⊢
        refine kk I' ?_ h2 (fun a h5 h6 => ?_) (fun k h5 => ?_)
        · rw [h1, pm_u_ne (by decide), pm_u_eq]
        · rw [h3 a h5 h6, pm_u_ne h6, pm_u_ne h5]
        · rw [h4 k h5, pm_u_eq, pm_up_ne h5, pm_u_ne (by decide)])
set_option maxRecDepth 20000 in
set_option maxHeartbeats 4000000 in
theorem c_X10_signs {l : Launch} {E : pmE} {d : Nat} {S : pmS} {I : pmI} {J : pmJ} {P : pmP} {Q : Option Value → pmS → pmI → pmJ → pmP → Prop} (hG : sh_St S) (hP : gr_St P) {w : Int64} {n : Nat} (hd : 4 ≤ d) (hn : I 47 2 = nI n) (hn2 : n ≤ 120) (k0 : ¬ (sg_all w 8 ∧ n + sg_cnt w 8 ≤ 120) → Q (some (.int (sg_ans w n))) S (pm_u I 47 0 (nI 0)) J P) (k1 : sg_all w 8 → n + sg_cnt w 8 ≤ 120 → ∀ I', I' 48 = sg_put w 8 (I 48) n → I' 47 2 = nI (n + sg_cnt w 8) → (∀ a, a ≠ 48 → a ≠ 47 → I' a = I a) → (∀ k, k ≠ 2 → k ≠ 0 → I' 47 k = I 47 k) → Q (some (.int (sg_ans w n))) S I' J P) : pm_Met l E yX10_signs cX10_signs 7 (some .int) d 0 0 [.ref 47, .long w] S I J P Q := by
  have hc := sg_cnt_le w 8
  unfold pm_Met
  refine pm_lvs (lv' := [(0, _), (1, _)]) rfl ?_
  refine pw_aload_n dX10_signs_0 rfl ?_
  refine pw_iconst (v := nI 0) dX10_signs_1 (by decide) ?_
  refine pw_putI fX10_154 dX10_signs_2 (Or.inl rfl) (by decide) (sh_lt hG (by decide)) (sh_tg hG 45 rfl) rfl ?_
  refine pw_iconst (v := nI 0) dX10_signs_5 (by decide) ?_
  refine pw_istore_n (lv' := [(3, _), (0, _), (1, _)]) dX10_signs_6 (by decide) rfl ?_
  refine pw_iconst (v := nI 1) dX10_signs_7 (by decide) ?_
  refine pw_istore (lv' := [(4, _), (3, _), (0, _), (1, _)]) dX10_signs_8 (by decide) rfl ?_
  refine pw_bipush (v := nI 56) dX10_signs_10 (by decide) ?_
  refine pw_istore (lv' := [(5, _), (4, _), (3, _), (0, _), (1, _)]) dX10_signs_12 (by decide) rfl ?_
  refine pw_sub [0, 2, 1, 3, 4] rfl ?_
  rw [sg_sh8]
  refine sg_r1loop hG hP (by omega) 8 0 1 (by decide) (by decide) (by decide) (fun b' h7 h8 => ?_)
  rw [Nat.zero_add]
  have hn' : pm_u I 47 0 (nI 0) 47 2 = nI n := by rw [pm_u_eq, pm_up_ne (by decide)]; exact hn
  by_cases hall : sg_all w 8
  · have hb' : b' = 1 := h8.mpr ⟨rfl, hall⟩
    subst hb'
    refine pw_iload dX10_signs_78 rfl ?_
    refine pw_ifN_ne _ (tgt := 86) dX10_signs_80 (by decide) (rfl) (by omega) (fun h80 => ?_) (fun h80 => absurd h80 (by omega))
    refine pw_aload_n dX10_signs_86 rfl ?_
    refine pw_getI fX10_164 dX10_signs_87 (sh_lt hG (by decide)) (sh_tg hG 45 rfl) rfl ?_
    refine pw_iload_n dX10_signs_90 rfl ?_
    refine pw_iadd dX10_signs_91 ?_
    refine pw_ti (z := nI (n + sg_cnt w 8)) (by rw [hn', nI_add]) ?_
    refine pw_bipush (v := nI 120) dX10_signs_92 (by decide) ?_
    refine pw_icmpN_le _ _ (tgt := 100) dX10_signs_94 (by decide) (rfl) (rfl) (by omega) (by omega) (fun h94 => ?_) (fun h94 => ?_)
    · refine pw_bipush (v := nI 56) dX10_signs_100 (by decide) ?_
      refine pw_istore (lv' := [(5, _), (3, _), (4, _), (0, _), (1, _)]) dX10_signs_102 (by decide) rfl ?_
      refine pw_sub [0, 3, 4] rfl ?_
      rw [sg_sh8]
      exact sg_r2loop hG hP (by omega) 8 _ n (by decide) hn' (by omega) (fun I' h1 h2 h3 h4 => by
        rw [← sg_a3 (n := n) hall (by omega)]
        refine k1 hall (by omega) I' ?_ h2 (fun a h5 h6 => ?_) (fun k h5 h6 => ?_)
        · rw [h1, pm_u_ne (by decide)]
        · rw [h3 a h5 h6, pm_u_ne h6]
        · rw [h4 k h5, pm_u_eq, pm_up_ne h6])
    · refine pw_bipush (v := -4) dX10_signs_97 (by decide) ?_
      exact pw_iret dX10_signs_99 rfl (by rw [← sg_a2 (n := n) hall (by omega)]; exact k0 (fun h2 => by omega))
  · have hb' : b' = 0 := by have := mt (fun h => (h8.mp h).2) hall; omega
    subst hb'
    refine pw_iload dX10_signs_78 rfl ?_
    refine pw_ifN_ne _ (tgt := 86) dX10_signs_80 (by decide) (rfl) (by omega) (fun h80 => absurd h80 (by omega)) (fun h80 => ?_)
    refine pw_bipush (v := -2) dX10_signs_83 (by decide) ?_
    exact pw_iret dX10_signs_85 rfl (by rw [← sg_a1 (n := n) hall]; exact k0 (fun h2 => hall h2.1))