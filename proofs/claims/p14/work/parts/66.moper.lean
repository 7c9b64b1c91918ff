theorem lvl_op {x : Nat} (h : lvl x ≤ 2) : x = 60 ∨ x = 61 ∨ x = 43 ∨ x = 45 ∨ x = 42 ∨ x = 47 ∨ x = 37 := by
  unfold lvl at h
  by_cases h1 : x = 60 ∨ x = 61
  · omega
  · rw [if_neg h1] at h
    by_cases h2 : x = 43 ∨ x = 45
    · omega
    · rw [if_neg h2] at h
      by_cases h3 : x = 42 ∨ x = 47 ∨ x = 37
      · omega
      · rw [if_neg h3] at h; exact absurd h (by decide)
set_option maxRecDepth 20000 in
set_option maxHeartbeats 4000000 in
theorem w_43 {l : Launch} {E : pmE} {d : Nat} {S : pmS} {I : pmI} {J : pmJ} {P : pmP} {Q : Option Value → pmS → pmI → pmJ → pmP → Prop} {a z : Int64} (k : Q (some (.long (opV 43 a z))) S I J P) : pm_Met l E yX1_worked cX1_worked 5 (some .long) d 0 0 [.int (nI 43), .long a, .long z] S I J P Q := by
  unfold pm_Met
  have e9 : opV 43 a z = (a + z) := rfl
  rw [e9] at k
  refine pm_lvs (lv' := [(0, _), (1, _), (3, _)]) rfl ?_
  refine pw_iload_n dX1_worked_0 rfl ?_
  refine pw_lookup (off := 59) (tgt := 60) dX1_worked_1 (by decide) (by decide) (by decide) ?_
  refine pw_lload_n dX1_worked_60 rfl ?_
  refine pw_lload_n dX1_worked_61 rfl ?_
  refine pw_ladd dX1_worked_62 ?_
  refine pw_goto (tgt := 135) dX1_worked_63 (by decide) ?_
  exact pw_lret dX1_worked_135 rfl (k)

set_option maxRecDepth 20000 in
set_option maxHeartbeats 4000000 in
theorem w_45 {l : Launch} {E : pmE} {d : Nat} {S : pmS} {I : pmI} {J : pmJ} {P : pmP} {Q : Option Value → pmS → pmI → pmJ → pmP → Prop} {a z : Int64} (k : Q (some (.long (opV 45 a z))) S I J P) : pm_Met l E yX1_worked cX1_worked 5 (some .long) d 0 0 [.int (nI 45), .long a, .long z] S I J P Q := by
  unfold pm_Met
  have e9 : opV 45 a z = (a - z) := rfl
  rw [e9] at k
  refine pm_lvs (lv' := [(0, _), (1, _), (3, _)]) rfl ?_
  refine pw_iload_n dX1_worked_0 rfl ?_
  refine pw_lookup (off := 65) (tgt := 66) dX1_worked_1 (by decide) (by decide) (by decide) ?_
  refine pw_lload_n dX1_worked_66 rfl ?_
  refine pw_lload_n dX1_worked_67 rfl ?_
  refine pw_lsub dX1_worked_68 ?_
  refine pw_goto (tgt := 135) dX1_worked_69 (by decide) ?_
  exact pw_lret dX1_worked_135 rfl (k)

set_option maxRecDepth 20000 in
set_option maxHeartbeats 4000000 in
theorem w_42 {l : Launch} {E : pmE} {d : Nat} {S : pmS} {I : pmI} {J : pmJ} {P : pmP} {Q : Option Value → pmS → pmI → pmJ → pmP → Prop} {a z : Int64} (k : Q (some (.long (opV 42 a z))) S I J P) : pm_Met l E yX1_worked cX1_worked 5 (some .long) d 0 0 [.int (nI 42), .long a, .long z] S I J P Q := by
  unfold pm_Met
  have e9 : opV 42 a z = (a * z) := rfl
  rw [e9] at k
  refine pm_lvs (lv' := [(0, _), (1, _), (3, _)]) rfl ?_
  refine pw_iload_n dX1_worked_0 rfl ?_
  refine pw_lookup (off := 71) (tgt := 72) dX1_worked_1 (by decide) (by decide) (by decide) ?_
  refine pw_lload_n dX1_worked_72 rfl ?_
  refine pw_lload_n dX1_worked_73 rfl ?_
  refine pw_lmul dX1_worked_74 ?_
  refine pw_goto (tgt := 135) dX1_worked_75 (by decide) ?_
  exact pw_lret dX1_worked_135 rfl (k)

set_option maxRecDepth 20000 in
set_option maxHeartbeats 4000000 in
theorem w_47 {l : Launch} {E : pmE} {d : Nat} {S : pmS} {I : pmI} {J : pmJ} {P : pmP} {Q : Option Value → pmS → pmI → pmJ → pmP → Prop} {a z : Int64} (hz : ¬ z = 0) (k : Q (some (.long (opV 47 a z))) S I J P) : pm_Met l E yX1_worked cX1_worked 5 (some .long) d 0 0 [.int (nI 47), .long a, .long z] S I J P Q := by
  unfold pm_Met
  have e9 : opV 47 a z = (a / z) := rfl
  rw [e9] at k
  refine pm_lvs (lv' := [(0, _), (1, _), (3, _)]) rfl ?_
  refine pw_iload_n dX1_worked_0 rfl ?_
  refine pw_lookup (off := 77) (tgt := 78) dX1_worked_1 (by decide) (by decide) (by decide) ?_
  refine pw_lload_n dX1_worked_78 rfl ?_
  refine pw_lconst (v := 0) dX1_worked_79 (by decide) ?_
  refine pw_lif_ne (tgt := 88) dX1_worked_80 dX1_worked_81 (by decide) (fun h81 => ?_) (fun h => absurd h (hz))
  refine pw_lload_n dX1_worked_88 rfl ?_
  refine pw_lload_n dX1_worked_89 rfl ?_
  refine pw_ldiv dX1_worked_90 (hz) ?_
  refine pw_goto (tgt := 135) dX1_worked_91 (by decide) ?_
  exact pw_lret dX1_worked_135 rfl (k)

set_option maxRecDepth 20000 in
set_option maxHeartbeats 4000000 in
theorem w_37 {l : Launch} {E : pmE} {d : Nat} {S : pmS} {I : pmI} {J : pmJ} {P : pmP} {Q : Option Value → pmS → pmI → pmJ → pmP → Prop} {a z : Int64} (hz : ¬ z = 0) (k : Q (some (.long (opV 37 a z))) S I J P) : pm_Met l E yX1_worked cX1_worked 5 (some .long) d 0 0 [.int (nI 37), .long a, .long z] S I J P Q := by
  unfold pm_Met
  have e9 : opV 37 a z = (a - a / z * z) := rfl
  rw [e9] at k
  refine pm_lvs (lv' := [(0, _), (1, _), (3, _)]) rfl ?_
  refine pw_iload_n dX1_worked_0 rfl ?_
  refine pw_lookup (off := 93) (tgt := 94) dX1_worked_1 (by decide) (by decide) (by decide) ?_
  refine pw_lload_n dX1_worked_94 rfl ?_
  refine pw_lconst (v := 0) dX1_worked_95 (by decide) ?_
  refine pw_lif_ne (tgt := 104) dX1_worked_96 dX1_worked_97 (by decide) (fun h97 => ?_) (fun h => absurd h (hz))
  refine pw_lload_n dX1_worked_104 rfl ?_
  refine pw_lload_n dX1_worked_105 rfl ?_
  refine pw_lrem dX1_worked_106 (hz) ?_
  refine pw_goto (tgt := 135) dX1_worked_107 (by decide) ?_
  exact pw_lret dX1_worked_135 rfl (k)

set_option maxRecDepth 20000 in
set_option maxHeartbeats 4000000 in
theorem w_60 {l : Launch} {E : pmE} {d : Nat} {S : pmS} {I : pmI} {J : pmJ} {P : pmP} {Q : Option Value → pmS → pmI → pmJ → pmP → Prop} {a z : Int64} (k : Q (some (.long (opV 60 a z))) S I J P) : pm_Met l E yX1_worked cX1_worked 5 (some .long) d 0 0 [.int (nI 60), .long a, .long z] S I J P Q := by
  unfold pm_Met
  have e9 : opV 60 a z = (if a < z then 1 else 0) := rfl
  rw [e9] at k
  refine pm_lvs (lv' := [(0, _), (1, _), (3, _)]) rfl ?_
  refine pw_iload_n dX1_worked_0 rfl ?_
  refine pw_lookup (off := 109) (tgt := 110) dX1_worked_1 (by decide) (by decide) (by decide) ?_
  refine pw_lload_n dX1_worked_110 rfl ?_
  refine pw_lload_n dX1_worked_111 rfl ?_
  refine pw_lif_ge (tgt := 120) dX1_worked_112 dX1_worked_113 (by decide) (fun h113 => ?_) (fun h113 => ?_)
  · refine pw_lconst (v := 0) dX1_worked_120 (by decide) ?_
    refine pw_goto (tgt := 135) dX1_worked_121 (by decide) ?_
    exact pw_lret dX1_worked_135 rfl (by rw [if_neg (Int64.not_lt.mpr h113)] at k; exact k)
  · refine pw_lconst (v := 1) dX1_worked_116 (by decide) ?_
    refine pw_goto (tgt := 135) dX1_worked_117 (by decide) ?_
    exact pw_lret dX1_worked_135 rfl (by rw [if_pos (Int64.not_le.mp h113)] at k; exact k)

set_option maxRecDepth 20000 in
set_option maxHeartbeats 4000000 in
theorem w_61 {l : Launch} {E : pmE} {d : Nat} {S : pmS} {I : pmI} {J : pmJ} {P : pmP} {Q : Option Value → pmS → pmI → pmJ → pmP → Prop} {a z : Int64} (k : Q (some (.long (opV 61 a z))) S I J P) : pm_Met l E yX1_worked cX1_worked 5 (some .long) d 0 0 [.int (nI 61), .long a, .long z] S I J P Q := by
  unfold pm_Met
  have e9 : opV 61 a z = (if a = z then 1 else 0) := rfl
  rw [e9] at k
  refine pm_lvs (lv' := [(0, _), (1, _), (3, _)]) rfl ?_
  refine pw_iload_n dX1_worked_0 rfl ?_
  refine pw_lookup (off := 123) (tgt := 124) dX1_worked_1 (by decide) (by decide) (by decide) ?_
  refine pw_lload_n dX1_worked_124 rfl ?_
  refine pw_lload_n dX1_worked_125 rfl ?_
  refine pw_lif_ne (tgt := 134) dX1_worked_126 dX1_worked_127 (by decide) (fun h127 => ?_) (fun h127 => ?_)
  · refine pw_lconst (v := 0) dX1_worked_134 (by decide) ?_
    exact pw_lret dX1_worked_135 rfl (by rw [if_neg h127] at k; exact k)
  · refine pw_lconst (v := 1) dX1_worked_130 (by decide) ?_
    refine pw_goto (tgt := 135) dX1_worked_131 (by decide) ?_
    exact pw_lret dX1_worked_135 rfl (by rw [if_pos h127] at k; exact k)

theorem w_op {l : Launch} {E : pmE} {d : Nat} {S : pmS} {I : pmI} {J : pmJ} {P : pmP} {Q : Option Value → pmS → pmI → pmJ → pmP → Prop} {x : Nat} {a z : Int64} (hx : lvl x ≤ 2) (hz : x = 47 ∨ x = 37 → ¬ z = 0) (k : Q (some (.long (opV x a z))) S I J P) : pm_Met l E yX1_worked cX1_worked 5 (some .long) d 0 0 [.int (nI x), .long a, .long z] S I J P Q := by
  rcases lvl_op hx with rfl | rfl | rfl | rfl | rfl | rfl | rfl
  · exact w_60 k
  · exact w_61 k
  · exact w_43 k
  · exact w_45 k
  · exact w_42 k
  · exact w_47 (hz (Or.inl rfl)) k
  · exact w_37 (hz (Or.inr rfl)) k
set_option maxRecDepth 20000 in
set_option maxHeartbeats 4000000 in
theorem m_oper {l : Launch} {E : pmE} {d : Nat} {S : pmS} {I : pmI} {J : pmJ} {P : pmP} {Q : Option Value → pmS → pmI → pmJ → pmP → Prop} {S0 : pmS} {I0 : pmI} {J0 : pmJ} {P0 : pmP} {b0 : Nat} {A : aS} {c i bs s b m : Nat} {w : Int32} {rv : List vV} {fr : List (Nat × Nat × Nat)} {t : List tH} {lf rt : vV} {x : Nat} (h : mS S0 I0 J0 P0 b0 A S I J P c w i bs (rv ++ [lf, rt]) fr s t b m) (hd : 3 ≤ d) {L : List dE} (hx : kX S0 I0 J0 P0 b0 c L) (hlv : lvl x ≤ 2) (hl2 : lf.1 ≤ 2) (hr2 : rt.1 ≤ 2) (k1 : ckO x lf rt = 0 → ∀ I' J', mS S0 I0 J0 P0 b0 A S I' J' P c w i bs (rv ++ [(1, opV x lf.2 rt.2)]) fr s t b m → Q none S I' J' P) (k0 : ckO x lf rt ≠ 0 → ∀ I', mE S0 I0 J0 P0 b0 A S I' J P (ckO x lf rt) b m → Q none S I' J P) : pm_Met l E yX1_operate cX1_operate 8 none d 0 0 [.ref 34, .int (nI x)] S I J P Q := by
  unfold pm_Met
  have hG := h.hG
  have hP := h.hP
  have hla := h.last2
  have hx9 := lvl_op hlv
  have h' : mS S0 I0 J0 P0 b0 A S I J P c w i bs ((rv ++ [lf]) ++ [rt]) fr s t b m := by rw [List.append_assoc]; exact h
  refine pm_lvs (lv' := [(0, _), (1, _)]) rfl ?_
  refine pw_aload_n dX1_operate_0 rfl ?_
  refine pw_getR fX1_14 dX1_operate_1 (sh_lt hG (by decide)) (sh_tg hG 32 rfl) rfl (gr_at hP 29 rfl) ?_
  refine pw_aload_n dX1_operate_4 rfl ?_
  refine pw_getI fX1_56 dX1_operate_5 (sh_lt hG (by decide)) (sh_tg hG 32 rfl) rfl ?_
  refine pw_iconst (v := nI 2) dX1_operate_8 (by decide) ?_
  refine pw_isub dX1_operate_9 ?_
  refine pw_ti (z := nI rv.length) hla.1 ?_
  refine pw_callV (as := [_]) (kc' := 0) (ks' := 0) lX1_59 dX1_operate_10 rfl rfl (sh_lt hG (by decide)) (sh_tg hG 33 rfl) (Nat.le_of_ble_eq_true rfl) (by omega) (Nat.le_of_ble_eq_true rfl) (Nat.zero_le _) (Nat.zero_le _) ?_
  refine v_kind35 hG hP (by omega) ?_
  refine pw_ti (z := nI lf.1) hla.2.1 ?_
  refine pw_istore_n (lv' := [(2, _), (0, _), (1, _)]) dX1_operate_13 (by decide) rfl ?_
  refine pw_aload_n dX1_operate_14 rfl ?_
  refine pw_callV (as := []) (kc' := 0) (ks' := 0) lX1_208 dX1_operate_15 rfl rfl (sh_lt hG (by decide)) (sh_tg hG 32 rfl) (Nat.le_of_ble_eq_true rfl) (by omega) (Nat.le_of_ble_eq_true rfl) (Nat.zero_le _) (Nat.zero_le _) ?_
  refine m_vk h' (by omega) ?_
  refine pw_istore_n (lv' := [(3, _), (2, _), (0, _), (1, _)]) dX1_operate_18 (by decide) rfl ?_
  refine pw_aload_n dX1_operate_19 rfl ?_
  refine pw_getR fX1_14 dX1_operate_20 (sh_lt hG (by decide)) (sh_tg hG 32 rfl) rfl (gr_at hP 29 rfl) ?_
  refine pw_aload_n dX1_operate_23 rfl ?_
  refine pw_getI fX1_56 dX1_operate_24 (sh_lt hG (by decide)) (sh_tg hG 32 rfl) rfl ?_
  refine pw_iconst (v := nI 2) dX1_operate_27 (by decide) ?_
  refine pw_isub dX1_operate_28 ?_
  refine pw_ti (z := nI rv.length) hla.1 ?_
  refine pw_callV (as := [_]) (kc' := 0) (ks' := 0) lX1_63 dX1_operate_29 rfl rfl (sh_lt hG (by decide)) (sh_tg hG 33 rfl) (Nat.le_of_ble_eq_true rfl) (by omega) (Nat.le_of_ble_eq_true rfl) (Nat.zero_le _) (Nat.zero_le _) ?_
  refine v_core35 hG hP (by omega) ?_
  refine pw_tj (z := lf.2) hla.2.2.1 ?_
  refine pw_lstore (lv' := [(4, _), (3, _), (2, _), (0, _), (1, _)]) dX1_operate_32 (by decide) rfl ?_
  refine pw_aload_n dX1_operate_34 rfl ?_
  refine pw_callV (as := []) (kc' := 0) (ks' := 0) lX1_211 dX1_operate_35 rfl rfl (sh_lt hG (by decide)) (sh_tg hG 32 rfl) (Nat.le_of_ble_eq_true rfl) (by omega) (Nat.le_of_ble_eq_true rfl) (Nat.zero_le _) (Nat.zero_le _) ?_
  refine m_vc h' (by omega) ?_
  refine pw_lstore (lv' := [(6, _), (4, _), (3, _), (2, _), (0, _), (1, _)]) dX1_operate_38 (by decide) rfl ?_
  refine pw_iload_n dX1_operate_40 rfl ?_
  refine pw_ifN_eq _ (tgt := 48) dX1_operate_41 (by decide) (rfl) (by omega) (fun h41 => ?_) (fun h41 => ?_)
  · refine pw_aload_n dX1_operate_48 rfl ?_
    refine pw_iconst (v := nI 2) dX1_operate_49 (by decide) ?_
    refine pw_callV (as := [_]) (kc' := 0) (ks' := 0) lX1_152 dX1_operate_50 rfl rfl (sh_lt hG (by decide)) (sh_tg hG 32 rfl) (Nat.le_of_ble_eq_true rfl) (by omega) (Nat.le_of_ble_eq_true rfl) (Nat.zero_le _) (Nat.zero_le _) ?_
    refine m_fail h (by omega) (e := 2) hx (fun I3 h3 => ?_)
    refine pw_goto (tgt := 130) dX1_operate_53 (by decide) ?_
    exact pw_vret dX1_operate_130 rfl (k0 (by unfold ckO; rw [if_pos (Or.inl h41)]; decide) _ (by unfold ckO; rw [if_pos (Or.inl h41)]; exact h3))
  · refine pw_iload_n dX1_operate_44 rfl ?_
    refine pw_ifN_ne _ (tgt := 56) dX1_operate_45 (by decide) (rfl) (by omega) (fun h45 => ?_) (fun h45 => ?_)
    · refine pw_iload_n dX1_operate_56 rfl ?_
      refine pw_iload_n dX1_operate_57 rfl ?_
      refine pw_icmpN_ne _ _ (tgt := 72) dX1_operate_58 (by decide) (rfl) (rfl) (by omega) (by omega) (fun h58 => ?_) (fun h58 => ?_)
      · refine pw_aload_n dX1_operate_72 rfl ?_
        refine pw_iconst (v := nI 3) dX1_operate_73 (by decide) ?_
        refine pw_callV (as := [_]) (kc' := 0) (ks' := 0) lX1_152 dX1_operate_74 rfl rfl (sh_lt hG (by decide)) (sh_tg hG 32 rfl) (Nat.le_of_ble_eq_true rfl) (by omega) (Nat.le_of_ble_eq_true rfl) (Nat.zero_le _) (Nat.zero_le _) ?_
        refine m_fail h (by omega) (e := 3) hx (fun I3 h3 => ?_)
        refine pw_goto (tgt := 130) dX1_operate_77 (by decide) ?_
        exact pw_vret dX1_operate_130 rfl (k0 (by unfold ckO; rw [if_neg (fun q => by omega), if_pos (Or.inl h58)]; decide) _ (by unfold ckO; rw [if_neg (fun q => by omega), if_pos (Or.inl h58)]; exact h3))
      · refine pw_iload_n dX1_operate_61 rfl ?_
        refine pw_iconst (v := nI 2) dX1_operate_62 (by decide) ?_
        refine pw_icmpN_ne _ _ (tgt := 80) dX1_operate_63 (by decide) (rfl) (rfl) (by omega) (by omega) (fun h63 => ?_) (fun h63 => ?_)
        · refine pw_lload dX1_operate_80 rfl ?_
          refine pw_lconst (v := 0) dX1_operate_82 (by decide) ?_
          refine pw_lif_ne (tgt := 107) dX1_operate_83 dX1_operate_84 (by decide) (fun h84 => ?_) (fun h84 => ?_)
          · refine pw_aload_n dX1_operate_107 rfl ?_
            refine pw_dup dX1_operate_108 rfl ?_
            refine pw_getI fX1_56 dX1_operate_109 (sh_lt hG (by decide)) (sh_tg hG 32 rfl) rfl ?_
            refine pw_iconst (v := nI 2) dX1_operate_112 (by decide) ?_
            refine pw_isub dX1_operate_113 ?_
            refine pw_ti (z := nI rv.length) hla.1 ?_
            refine pw_putI fX1_56 dX1_operate_114 (Or.inl rfl) (by decide) (sh_lt hG (by decide)) (sh_tg hG 32 rfl) rfl ?_
            refine pw_aload_n dX1_operate_117 rfl ?_
            refine pw_iconst (v := nI 1) dX1_operate_118 (by decide) ?_
            refine pw_iload_n dX1_operate_119 rfl ?_
            refine pw_lload dX1_operate_120 rfl ?_
            refine pw_lload dX1_operate_122 rfl ?_
            refine pw_callS (as := [_, _, _]) (kc' := 0) (ks' := 0) lX1_237 dX1_operate_124 rfl rfl (Nat.le_of_ble_eq_true rfl) (by omega) (Nat.le_of_ble_eq_true rfl) (Nat.zero_le _) (Nat.zero_le _) ?_
            refine w_op hlv (fun q => by first | exact h84 | (exfalso; rcases q with q | q <;> omega)) ?_
            refine pw_callV (as := [_, _]) (kc' := 0) (ks' := 0) lX1_112 dX1_operate_127 rfl rfl (sh_lt hG (by decide)) (sh_tg hG 32 rfl) (Nat.le_of_ble_eq_true rfl) (by omega) (Nat.le_of_ble_eq_true rfl) (Nat.zero_le _) (Nat.zero_le _) ?_
            refine m_push (h.pop) (by omega) (v := (1, opV x lf.2 rt.2)) (by omega) (fun I3 J3 h3 => ?_)
            exact pw_vret dX1_operate_130 rfl (k1 (by unfold ckO; rw [if_neg (fun q => by omega), if_neg (fun q => by rcases q with q | q <;> omega), if_neg (fun q => h84 q.1)]) _ _ h3)
          · refine pw_iload_n dX1_operate_87 rfl ?_
            refine pw_bipush (v := nI 47) dX1_operate_88 (by decide) ?_
            refine pw_icmpN_eq _ _ (tgt := 99) dX1_operate_90 (by decide) (rfl) (rfl) (by omega) (by omega) (fun h90 => ?_) (fun h90 => ?_)
            · refine pw_aload_n dX1_operate_99 rfl ?_
              refine pw_iconst (v := nI 4) dX1_operate_100 (by decide) ?_
              refine pw_callV (as := [_]) (kc' := 0) (ks' := 0) lX1_152 dX1_operate_101 rfl rfl (sh_lt hG (by decide)) (sh_tg hG 32 rfl) (Nat.le_of_ble_eq_true rfl) (by omega) (Nat.le_of_ble_eq_true rfl) (Nat.zero_le _) (Nat.zero_le _) ?_
              refine m_fail h (by omega) (e := 4) hx (fun I3 h3 => ?_)
              refine pw_goto (tgt := 130) dX1_operate_104 (by decide) ?_
              exact pw_vret dX1_operate_130 rfl (k0 (by unfold ckO; rw [if_neg (fun q => by omega), if_neg (fun q => by rcases q with q | q <;> omega), if_pos ⟨h84, Or.inl h90⟩]; decide) _ (by unfold ckO; rw [if_neg (fun q => by omega), if_neg (fun q => by rcases q with q | q <;> omega), if_pos ⟨h84, Or.inl h90⟩]; exact h3))
            · refine pw_iload_n dX1_operate_93 rfl ?_
              refine pw_bipush (v := nI 37) dX1_operate_94 (by decide) ?_
              refine pw_icmpN_ne _ _ (tgt := 107) dX1_operate_96 (by decide) (rfl) (rfl) (by omega) (by omega) (fun h96 => ?_) (fun h96 => ?_)
              · refine pw_aload_n dX1_operate_107 rfl ?_
                refine pw_dup dX1_operate_108 rfl ?_
                refine pw_getI fX1_56 dX1_operate_109 (sh_lt hG (by decide)) (sh_tg hG 32 rfl) rfl ?_
                refine pw_iconst (v := nI 2) dX1_operate_112 (by decide) ?_
                refine pw_isub dX1_operate_113 ?_
                refine pw_ti (z := nI rv.length) hla.1 ?_
                refine pw_putI fX1_56 dX1_operate_114 (Or.inl rfl) (by decide) (sh_lt hG (by decide)) (sh_tg hG 32 rfl) rfl ?_
                refine pw_aload_n dX1_operate_117 rfl ?_
                refine pw_iconst (v := nI 1) dX1_operate_118 (by decide) ?_
                refine pw_iload_n dX1_operate_119 rfl ?_
                refine pw_lload dX1_operate_120 rfl ?_
                refine pw_lload dX1_operate_122 rfl ?_
                refine pw_callS (as := [_, _, _]) (kc' := 0) (ks' := 0) lX1_237 dX1_operate_124 rfl rfl (Nat.le_of_ble_eq_true rfl) (by omega) (Nat.le_of_ble_eq_true rfl) (Nat.zero_le _) (Nat.zero_le _) ?_
                refine w_op hlv (fun q => by first | exact h84 | (exfalso; rcases q with q | q <;> omega)) ?_
                refine pw_callV (as := [_, _]) (kc' := 0) (ks' := 0) lX1_112 dX1_operate_127 rfl rfl (sh_lt hG (by decide)) (sh_tg hG 32 rfl) (Nat.le_of_ble_eq_true rfl) (by omega) (Nat.le_of_ble_eq_true rfl) (Nat.zero_le _) (Nat.zero_le _) ?_
                refine m_push (h.pop) (by omega) (v := (1, opV x lf.2 rt.2)) (by omega) (fun I3 J3 h3 => ?_)
                exact pw_vret dX1_operate_130 rfl (k1 (by unfold ckO; rw [if_neg (fun q => by omega), if_neg (fun q => by rcases q with q | q <;> omega), if_neg (fun q => by rcases q.2 with q | q <;> omega)]) _ _ h3)
              · refine pw_aload_n dX1_operate_99 rfl ?_
                refine pw_iconst (v := nI 4) dX1_operate_100 (by decide) ?_
                refine pw_callV (as := [_]) (kc' := 0) (ks' := 0) lX1_152 dX1_operate_101 rfl rfl (sh_lt hG (by decide)) (sh_tg hG 32 rfl) (Nat.le_of_ble_eq_true rfl) (by omega) (Nat.le_of_ble_eq_true rfl) (Nat.zero_le _) (Nat.zero_le _) ?_
                refine m_fail h (by omega) (e := 4) hx (fun I3 h3 => ?_)
                refine pw_goto (tgt := 130) dX1_operate_104 (by decide) ?_
                exact pw_vret dX1_operate_130 rfl (k0 (by unfold ckO; rw [if_neg (fun q => by omega), if_neg (fun q => by rcases q with q | q <;> omega), if_pos ⟨h84, Or.inr h96⟩]; decide) _ (by unfold ckO; rw [if_neg (fun q => by omega), if_neg (fun q => by rcases q with q | q <;> omega), if_pos ⟨h84, Or.inr h96⟩]; exact h3))
        · refine pw_iload_n dX1_operate_66 rfl ?_
          refine pw_bipush (v := nI 61) dX1_operate_67 (by decide) ?_
          refine pw_icmpN_eq _ _ (tgt := 80) dX1_operate_69 (by decide) (rfl) (rfl) (by omega) (by omega) (fun h69 => ?_) (fun h69 => ?_)
          · refine pw_lload dX1_operate_80 rfl ?_
            refine pw_lconst (v := 0) dX1_operate_82 (by decide) ?_
            refine pw_lif_ne (tgt := 107) dX1_operate_83 dX1_operate_84 (by decide) (fun h84 => ?_) (fun h84 => ?_)
            · refine pw_aload_n dX1_operate_107 rfl ?_
              refine pw_dup dX1_operate_108 rfl ?_
              refine pw_getI fX1_56 dX1_operate_109 (sh_lt hG (by decide)) (sh_tg hG 32 rfl) rfl ?_
              refine pw_iconst (v := nI 2) dX1_operate_112 (by decide) ?_
              refine pw_isub dX1_operate_113 ?_
              refine pw_ti (z := nI rv.length) hla.1 ?_
              refine pw_putI fX1_56 dX1_operate_114 (Or.inl rfl) (by decide) (sh_lt hG (by decide)) (sh_tg hG 32 rfl) rfl ?_
              refine pw_aload_n dX1_operate_117 rfl ?_
              refine pw_iconst (v := nI 1) dX1_operate_118 (by decide) ?_
              refine pw_iload_n dX1_operate_119 rfl ?_
              refine pw_lload dX1_operate_120 rfl ?_
              refine pw_lload dX1_operate_122 rfl ?_
              refine pw_callS (as := [_, _, _]) (kc' := 0) (ks' := 0) lX1_237 dX1_operate_124 rfl rfl (Nat.le_of_ble_eq_true rfl) (by omega) (Nat.le_of_ble_eq_true rfl) (Nat.zero_le _) (Nat.zero_le _) ?_
              refine w_op hlv (fun q => by first | exact h84 | (exfalso; rcases q with q | q <;> omega)) ?_
              refine pw_callV (as := [_, _]) (kc' := 0) (ks' := 0) lX1_112 dX1_operate_127 rfl rfl (sh_lt hG (by decide)) (sh_tg hG 32 rfl) (Nat.le_of_ble_eq_true rfl) (by omega) (Nat.le_of_ble_eq_true rfl) (Nat.zero_le _) (Nat.zero_le _) ?_
              refine m_push (h.pop) (by omega) (v := (1, opV x lf.2 rt.2)) (by omega) (fun I3 J3 h3 => ?_)
              exact pw_vret dX1_operate_130 rfl (k1 (by unfold ckO; rw [if_neg (fun q => by omega), if_neg (fun q => by rcases q with q | q <;> omega), if_neg (fun q => h84 q.1)]) _ _ h3)
            · refine pw_iload_n dX1_operate_87 rfl ?_
              refine pw_bipush (v := nI 47) dX1_operate_88 (by decide) ?_
              refine pw_icmpN_eq _ _ (tgt := 99) dX1_operate_90 (by decide) (rfl) (rfl) (by omega) (by omega) (fun h90 => ?_) (fun h90 => ?_)
              · refine pw_aload_n dX1_operate_99 rfl ?_
                refine pw_iconst (v := nI 4) dX1_operate_100 (by decide) ?_
                refine pw_callV (as := [_]) (kc' := 0) (ks' := 0) lX1_152 dX1_operate_101 rfl rfl (sh_lt hG (by decide)) (sh_tg hG 32 rfl) (Nat.le_of_ble_eq_true rfl) (by omega) (Nat.le_of_ble_eq_true rfl) (Nat.zero_le _) (Nat.zero_le _) ?_
                refine m_fail h (by omega) (e := 4) hx (fun I3 h3 => ?_)
                refine pw_goto (tgt := 130) dX1_operate_104 (by decide) ?_
                exact pw_vret dX1_operate_130 rfl (k0 (by unfold ckO; rw [if_neg (fun q => by omega), if_neg (fun q => by rcases q with q | q <;> omega), if_pos ⟨h84, Or.inl h90⟩]; decide) _ (by unfold ckO; rw [if_neg (fun q => by omega), if_neg (fun q => by rcases q with q | q <;> omega), if_pos ⟨h84, Or.inl h90⟩]; exact h3))
              · refine pw_iload_n dX1_operate_93 rfl ?_
                refine pw_bipush (v := nI 37) dX1_operate_94 (by decide) ?_
                refine pw_icmpN_ne _ _ (tgt := 107) dX1_operate_96 (by decide) (rfl) (rfl) (by omega) (by omega) (fun h96 => ?_) (fun h96 => ?_)
                · refine pw_aload_n dX1_operate_107 rfl ?_
                  refine pw_dup dX1_operate_108 rfl ?_
                  refine pw_getI fX1_56 dX1_operate_109 (sh_lt hG (by decide)) (sh_tg hG 32 rfl) rfl ?_
                  refine pw_iconst (v := nI 2) dX1_operate_112 (by decide) ?_
                  refine pw_isub dX1_operate_113 ?_
                  refine pw_ti (z := nI rv.length) hla.1 ?_
                  refine pw_putI fX1_56 dX1_operate_114 (Or.inl rfl) (by decide) (sh_lt hG (by decide)) (sh_tg hG 32 rfl) rfl ?_
                  refine pw_aload_n dX1_operate_117 rfl ?_
                  refine pw_iconst (v := nI 1) dX1_operate_118 (by decide) ?_
                  refine pw_iload_n dX1_operate_119 rfl ?_
                  refine pw_lload dX1_operate_120 rfl ?_
                  refine pw_lload dX1_operate_122 rfl ?_
                  refine pw_callS (as := [_, _, _]) (kc' := 0) (ks' := 0) lX1_237 dX1_operate_124 rfl rfl (Nat.le_of_ble_eq_true rfl) (by omega) (Nat.le_of_ble_eq_true rfl) (Nat.zero_le _) (Nat.zero_le _) ?_
                  refine w_op hlv (fun q => by first | exact h84 | (exfalso; rcases q with q | q <;> omega)) ?_
                  refine pw_callV (as := [_, _]) (kc' := 0) (ks' := 0) lX1_112 dX1_operate_127 rfl rfl (sh_lt hG (by decide)) (sh_tg hG 32 rfl) (Nat.le_of_ble_eq_true rfl) (by omega) (Nat.le_of_ble_eq_true rfl) (Nat.zero_le _) (Nat.zero_le _) ?_
                  refine m_push (h.pop) (by omega) (v := (1, opV x lf.2 rt.2)) (by omega) (fun I3 J3 h3 => ?_)
                  exact pw_vret dX1_operate_130 rfl (k1 (by unfold ckO; rw [if_neg (fun q => by omega), if_neg (fun q => by rcases q with q | q <;> omega), if_neg (fun q => by rcases q.2 with q | q <;> omega)]) _ _ h3)
                · refine pw_aload_n dX1_operate_99 rfl ?_
                  refine pw_iconst (v := nI 4) dX1_operate_100 (by decide) ?_
                  refine pw_callV (as := [_]) (kc' := 0) (ks' := 0) lX1_152 dX1_operate_101 rfl rfl (sh_lt hG (by decide)) (sh_tg hG 32 rfl) (Nat.le_of_ble_eq_true rfl) (by omega) (Nat.le_of_ble_eq_true rfl) (Nat.zero_le _) (Nat.zero_le _) ?_
                  refine m_fail h (by omega) (e := 4) hx (fun I3 h3 => ?_)
                  refine pw_goto (tgt := 130) dX1_operate_104 (by decide) ?_
                  exact pw_vret dX1_operate_130 rfl (k0 (by unfold ckO; rw [if_neg (fun q => by omega), if_neg (fun q => by rcases q with q | q <;> omega), if_pos ⟨h84, Or.inr h96⟩]; decide) _ (by unfold ckO; rw [if_neg (fun q => by omega), if_neg (fun q => by rcases q with q | q <;> omega), if_pos ⟨h84, Or.inr h96⟩]; exact h3))
          · refine pw_aload_n dX1_operate_72 rfl ?_
            refine pw_iconst (v := nI 3) dX1_operate_73 (by decide) ?_
            refine pw_callV (as := [_]) (kc' := 0) (ks' := 0) lX1_152 dX1_operate_74 rfl rfl (sh_lt hG (by decide)) (sh_tg hG 32 rfl) (Nat.le_of_ble_eq_true rfl) (by omega) (Nat.le_of_ble_eq_true rfl) (Nat.zero_le _) (Nat.zero_le _) ?_
            refine m_fail h (by omega) (e := 3) hx (fun I3 h3 => ?_)
            refine pw_goto (tgt := 130) dX1_operate_77 (by decide) ?_
            exact pw_vret dX1_operate_130 rfl (k0 (by unfold ckO; rw [if_neg (fun q => by omega), if_pos (Or.inr ⟨h63, h69⟩)]; decide) _ (by unfold ckO; rw [if_neg (fun q => by omega), if_pos (Or.inr ⟨h63, h69⟩)]; exact h3))
    · refine pw_aload_n dX1_operate_48 rfl ?_
      refine pw_iconst (v := nI 2) dX1_operate_49 (by decide) ?_
      refine pw_callV (as := [_]) (kc' := 0) (ks' := 0) lX1_152 dX1_operate_50 rfl rfl (sh_lt hG (by decide)) (sh_tg hG 32 rfl) (Nat.le_of_ble_eq_true rfl) (by omega) (Nat.le_of_ble_eq_true rfl) (Nat.zero_le _) (Nat.zero_le _) ?_
      refine m_fail h (by omega) (e := 2) hx (fun I3 h3 => ?_)
      refine pw_goto (tgt := 130) dX1_operate_53 (by decide) ?_
      exact pw_vret dX1_operate_130 rfl (k0 (by unfold ckO; rw [if_pos (Or.inr h45)]; decide) _ (by unfold ckO; rw [if_pos (Or.inr h45)]; exact h3))
set_option maxRecDepth 20000 in
set_option maxHeartbeats 4000000 in
theorem dn_op {l : Launch} {E : pmE} {d : Nat} {S : pmS} {I : pmI} {J : pmJ} {P : pmP} {Q : Option Value → pmS → pmI → pmJ → pmP → Prop} {S0 : pmS} {I0 : pmI} {J0 : pmJ} {P0 : pmP} {b0 : Nat} {A : aS} {c i bs s b m : Nat} {w : Int32} {rv : List vV} {fr : List (Nat × Nat × Nat)} {t : List tH} {lf rt : vV} {x : Nat} (h : mS S0 I0 J0 P0 b0 A S I J P c w i bs (rv ++ [lf, rt]) fr s t b m) (hd : 6 ≤ d) {L : List dE} (hx : kX S0 I0 J0 P0 b0 c L) (hi : L[i]? = some (x, 0, 0)) (hlv : lvl x ≤ 2) (hl2 : lf.1 ≤ 2) (hr2 : rt.1 ≤ 2) (k1 : ckO x lf rt = 0 → ∀ I' J', mS S0 I0 J0 P0 b0 A S I' J' P c (nI i) (i + 1) bs (rv ++ [(1, opV x lf.2 rt.2)]) fr s t b m → Q none S I' J' P) (k0 : ckO x lf rt ≠ 0 → ∀ I', mE S0 I0 J0 P0 b0 A S I' J P (ckO x lf rt) b m → Q none S I' J P) : pm_Met l E yX1_doNext cX1_doNext 2 none d 0 0 [.ref 34] S I J P Q := by
  have hG := h.hG
  have hP := h.hP
  have hx9 := lvl_op hlv
  refine m_dn h (by omega) hx hi (kk := x) rfl (fun I1 h1 => ?_)
  refine pw_iload_n dX1_doNext_30 rfl ?_
  refine pw_bipush (v := nI 7) dX1_doNext_31 (by decide) ?_
  refine pw_icmpN_ge _ _ (tgt := 44) dX1_doNext_33 (by decide) (rfl) (rfl) (by omega) (by omega) (fun h33 => ?_) (fun h33 => absurd h33 (by omega))
  refine pw_iload_n dX1_doNext_44 rfl ?_
  refine pw_tableOut (tgt := 340) dX1_doNext_45 (Or.inr (by rw [nI_toInt (by omega)]; omega)) (by decide) ?_
  refine pw_aload_n dX1_doNext_340 rfl ?_
  refine pw_iload_n dX1_doNext_341 rfl ?_
  refine pw_callV (as := [_]) (kc' := 0) (ks' := 0) lX1_149 dX1_doNext_342 rfl rfl (sh_lt hG (by decide)) (sh_tg hG 32 rfl) (Nat.le_of_ble_eq_true rfl) (by omega) (Nat.le_of_ble_eq_true rfl) (Nat.zero_le _) (Nat.zero_le _) ?_
  refine m_oper h1 (by omega) hx hlv hl2 hr2 (fun hw I3 J3 h3 => ?_) (fun hw I3 h3 => ?_)
  · exact pw_vret dX1_doNext_345 rfl (k1 hw _ _ h3)
  · exact pw_vret dX1_doNext_345 rfl (k0 hw _ h3)
