/-- kinds as the reference tells them -/
def rk (k : Nat) : Nat := if k = 0 then 0 else if k = 1 then 7 else if k = 97 then 1 else if k = 48 then 2 else if k = 36 then 3 else if k = 118 then 4 else if k = 100 then 5 else if k = 116 then 6 else k
def fr79 (J J' : pmJ) (i : Nat) : Prop := (∀ a, a ≠ 79 → J' a = J a) ∧ ∀ j, j ≠ i → J' 79 j = J 79 j
theorem fr79.upd {J0 J : pmJ} {i : Nat} (h : fr79 J0 J i) (v : Int64) : fr79 J0 (pm_u J 79 i v) i := by
  refine ⟨fun a ha => ?_, fun j hj => ?_⟩
  · rw [pm_u_ne ha]
    exact h.1 a ha
  · rw [pm_u_eq, pm_up_ne hj]
    exact h.2 j hj
theorem fr79.refl {J : pmJ} {i : Nat} : fr79 J J i := ⟨fun _ _ => rfl, fun _ _ => rfl⟩
theorem tk_dg_r {v : Int64} {b : Nat} (h : 48 ≤ b) (hb : b < 128) : 10 * v + (nI b).toInt64 - 48 = tk_dg v b := by
  unfold tk_dg
  rw [pk_sub h, nI_l (by omega), nI_l (by omega), ← lN_sub h, Int64.mul_comm v 10, Int64.sub_eq_add_neg, Int64.sub_eq_add_neg, Int64.add_assoc]
  rfl
set_option maxRecDepth 20000 in
set_option maxHeartbeats 4000000 in
theorem c_X10_isLetter {l : Launch} {E : pmE} {d : Nat} {S : pmS} {I : pmI} {J : pmJ} {P : pmP} {Q : Option Value → pmS → pmI → pmJ → pmP → Prop} (hG : sh_St S) (hP : gr_St P) {tx : Nat → Nat} {n : Nat} (hT : tX I 48 tx n) (hs : I 47 2 = nI n) (hn : n ≤ 120) (hd : 2 ≤ d) (hb : ∀ j, j < n → tx j < 128) {p : Nat} (hp : p ≤ n) (k1 : p < n → 97 ≤ tx p ∧ tx p ≤ 122 → Q (some (.int (nI 1))) S I J P) (k0 : ¬ (p < n ∧ 97 ≤ tx p ∧ tx p ≤ 122) → Q (some (.int (nI 0))) S I J P) : pm_Met l E yX10_isLetter cX10_isLetter 2 (some .boolean) d 0 0 [.ref 47, .int (nI p)] S I J P Q := by
  unfold pm_Met
  refine pm_lvs (lv' := [(0, _), (1, _)]) rfl ?_
  refine pw_iload_n dX10_isLetter_0 rfl ?_
  refine pw_aload_n dX10_isLetter_1 rfl ?_
  refine pw_getI fX10_164 dX10_isLetter_2 (sh_lt hG (by decide)) (sh_tg hG 45 rfl) rfl ?_
  refine pw_icmpN_ge _ _ (tgt := 28) dX10_isLetter_5 (by decide) (rfl) (hs) (by omega) (by omega) (fun h5 => ?_) (fun h5 => ?_)
  · refine pw_iconst (v := nI 0) dX10_isLetter_28 (by decide) ?_
    exact pw_zret dX10_isLetter_29 rfl (by decide) (k0 (by omega))
  · refine pw_aload_n dX10_isLetter_8 rfl ?_
    refine pw_getR fX10_7 dX10_isLetter_9 (sh_lt hG (by decide)) (sh_tg hG 45 rfl) rfl (gr_at hP 40 rfl) ?_
    refine pw_iload_n dX10_isLetter_12 rfl ?_
    refine pw_ialdN p dX10_isLetter_13 (sh_lt hG (by decide)) (sh_sh hG 46 rfl) (by decide) (rfl) (by omega) ?_
    have hb1 := hb p (by omega)
    refine pw_ti (z := nI (tx p)) (hT p (by omega)) ?_
    refine pw_bipush (v := nI 97) dX10_isLetter_14 (by decide) ?_
    refine pw_bipush (v := nI 122) dX10_isLetter_16 (by decide) ?_
    refine pw_callS (as := [_, _, _]) (kc' := 0) (ks' := 0) lX10_160 dX10_isLetter_18 rfl rfl (Nat.le_of_ble_eq_true rfl) (by omega) (Nat.le_of_ble_eq_true rfl) (Nat.zero_le _) (Nat.zero_le _) ?_
    unfold pm_Met
    refine pm_lvs (lv' := [(0, _), (1, _), (2, _)]) rfl ?_
    refine pw_iload_n dX10_in_0 rfl ?_
    refine pw_iload_n dX10_in_1 rfl ?_
    refine pw_icmpN_lt _ _ (tgt := 14) dX10_in_2 (by decide) (rfl) (rfl) (by omega) (by omega) (fun hX10_in_2 => ?_) (fun hX10_in_2 => ?_)
    · refine pw_iconst (v := nI 0) dX10_in_14 (by decide) ?_
      refine pw_zret dX10_in_15 rfl (by decide) ?_
      refine pw_if_eq (tgt := 28) dX10_isLetter_21 (by decide) (fun h21 => ?_) (fun h => absurd (by decide) h)
      refine pw_iconst (v := nI 0) dX10_isLetter_28 (by decide) ?_
      exact pw_zret dX10_isLetter_29 rfl (by decide) (k0 (by omega))
    · refine pw_iload_n dX10_in_5 rfl ?_
      refine pw_iload_n dX10_in_6 rfl ?_
      refine pw_icmpN_gt _ _ (tgt := 14) dX10_in_7 (by decide) (rfl) (rfl) (by omega) (by omega) (fun hX10_in_7 => ?_) (fun hX10_in_7 => ?_)
      · refine pw_iconst (v := nI 0) dX10_in_14 (by decide) ?_
        refine pw_zret dX10_in_15 rfl (by decide) ?_
        refine pw_if_eq (tgt := 28) dX10_isLetter_21 (by decide) (fun h21 => ?_) (fun h => absurd (by decide) h)
        refine pw_iconst (v := nI 0) dX10_isLetter_28 (by decide) ?_
        exact pw_zret dX10_isLetter_29 rfl (by decide) (k0 (by omega))
      · refine pw_iconst (v := nI 1) dX10_in_10 (by decide) ?_
        refine pw_goto (tgt := 15) dX10_in_11 (by decide) ?_
        refine pw_zret dX10_in_15 rfl (by decide) ?_
        refine pw_if_eq (tgt := 28) dX10_isLetter_21 (by decide) (fun h => absurd h (by decide)) (fun h21 => ?_)
        refine pw_iconst (v := nI 1) dX10_isLetter_24 (by decide) ?_
        refine pw_goto (tgt := 29) dX10_isLetter_25 (by decide) ?_
        exact pw_zret dX10_isLetter_29 rfl (by decide) (k1 (by omega) (by omega))

set_option maxRecDepth 20000 in
set_option maxHeartbeats 4000000 in
theorem c_X10_isDigit {l : Launch} {E : pmE} {d : Nat} {S : pmS} {I : pmI} {J : pmJ} {P : pmP} {Q : Option Value → pmS → pmI → pmJ → pmP → Prop} (hG : sh_St S) (hP : gr_St P) {tx : Nat → Nat} {n : Nat} (hT : tX I 48 tx n) (hs : I 47 2 = nI n) (hn : n ≤ 120) (hd : 2 ≤ d) (hb : ∀ j, j < n → tx j < 128) {p : Nat} (hp : p ≤ n) (k1 : p < n → 48 ≤ tx p ∧ tx p ≤ 57 → Q (some (.int (nI 1))) S I J P) (k0 : ¬ (p < n ∧ 48 ≤ tx p ∧ tx p ≤ 57) → Q (some (.int (nI 0))) S I J P) : pm_Met l E yX10_isDigit cX10_isDigit 2 (some .boolean) d 0 0 [.ref 47, .int (nI p)] S I J P Q := by
  unfold pm_Met
  refine pm_lvs (lv' := [(0, _), (1, _)]) rfl ?_
  refine pw_iload_n dX10_isDigit_0 rfl ?_
  refine pw_aload_n dX10_isDigit_1 rfl ?_
  refine pw_getI fX10_164 dX10_isDigit_2 (sh_lt hG (by decide)) (sh_tg hG 45 rfl) rfl ?_
  refine pw_icmpN_ge _ _ (tgt := 28) dX10_isDigit_5 (by decide) (rfl) (hs) (by omega) (by omega) (fun h5 => ?_) (fun h5 => ?_)
  · refine pw_iconst (v := nI 0) dX10_isDigit_28 (by decide) ?_
    exact pw_zret dX10_isDigit_29 rfl (by decide) (k0 (by omega))
  · refine pw_aload_n dX10_isDigit_8 rfl ?_
    refine pw_getR fX10_7 dX10_isDigit_9 (sh_lt hG (by decide)) (sh_tg hG 45 rfl) rfl (gr_at hP 40 rfl) ?_
    refine pw_iload_n dX10_isDigit_12 rfl ?_
    refine pw_ialdN p dX10_isDigit_13 (sh_lt hG (by decide)) (sh_sh hG 46 rfl) (by decide) (rfl) (by omega) ?_
    have hb1 := hb p (by omega)
    refine pw_ti (z := nI (tx p)) (hT p (by omega)) ?_
    refine pw_bipush (v := nI 48) dX10_isDigit_14 (by decide) ?_
    refine pw_bipush (v := nI 57) dX10_isDigit_16 (by decide) ?_
    refine pw_callS (as := [_, _, _]) (kc' := 0) (ks' := 0) lX10_160 dX10_isDigit_18 rfl rfl (Nat.le_of_ble_eq_true rfl) (by omega) (Nat.le_of_ble_eq_true rfl) (Nat.zero_le _) (Nat.zero_le _) ?_
    unfold pm_Met
    refine pm_lvs (lv' := [(0, _), (1, _), (2, _)]) rfl ?_
    refine pw_iload_n dX10_in_0 rfl ?_
    refine pw_iload_n dX10_in_1 rfl ?_
    refine pw_icmpN_lt _ _ (tgt := 14) dX10_in_2 (by decide) (rfl) (rfl) (by omega) (by omega) (fun hX10_in_2 => ?_) (fun hX10_in_2 => ?_)
    · refine pw_iconst (v := nI 0) dX10_in_14 (by decide) ?_
      refine pw_zret dX10_in_15 rfl (by decide) ?_
      refine pw_if_eq (tgt := 28) dX10_isDigit_21 (by decide) (fun h21 => ?_) (fun h => absurd (by decide) h)
      refine pw_iconst (v := nI 0) dX10_isDigit_28 (by decide) ?_
      exact pw_zret dX10_isDigit_29 rfl (by decide) (k0 (by omega))
    · refine pw_iload_n dX10_in_5 rfl ?_
      refine pw_iload_n dX10_in_6 rfl ?_
      refine pw_icmpN_gt _ _ (tgt := 14) dX10_in_7 (by decide) (rfl) (rfl) (by omega) (by omega) (fun hX10_in_7 => ?_) (fun hX10_in_7 => ?_)
      · refine pw_iconst (v := nI 0) dX10_in_14 (by decide) ?_
        refine pw_zret dX10_in_15 rfl (by decide) ?_
        refine pw_if_eq (tgt := 28) dX10_isDigit_21 (by decide) (fun h21 => ?_) (fun h => absurd (by decide) h)
        refine pw_iconst (v := nI 0) dX10_isDigit_28 (by decide) ?_
        exact pw_zret dX10_isDigit_29 rfl (by decide) (k0 (by omega))
      · refine pw_iconst (v := nI 1) dX10_in_10 (by decide) ?_
        refine pw_goto (tgt := 15) dX10_in_11 (by decide) ?_
        refine pw_zret dX10_in_15 rfl (by decide) ?_
        refine pw_if_eq (tgt := 28) dX10_isDigit_21 (by decide) (fun h => absurd h (by decide)) (fun h21 => ?_)
        refine pw_iconst (v := nI 1) dX10_isDigit_24 (by decide) ?_
        refine pw_goto (tgt := 29) dX10_isDigit_25 (by decide) ?_
        exact pw_zret dX10_isDigit_29 rfl (by decide) (k1 (by omega) (by omega))

set_option maxRecDepth 20000 in
set_option maxHeartbeats 4000000 in
theorem c_X10_isSign {l : Launch} {E : pmE} {d : Nat} {S : pmS} {I : pmI} {J : pmJ} {P : pmP} {Q : Option Value → pmS → pmI → pmJ → pmP → Prop} (hG : sh_St S) (hP : gr_St P) {b : Nat} (hb : b < 128) (k1 : tk_sig b = true → Q (some (.int (nI 1))) S I J P) (k0 : tk_sig b = false → Q (some (.int (nI 0))) S I J P) : pm_Met l E yX10_isSign cX10_isSign 1 (some .boolean) d 0 0 [.int (nI b)] S I J P Q := by
  unfold pm_Met
  refine pm_lvs (lv' := [(0, _)]) rfl ?_
  refine pw_iload_n dX10_isSign_0 rfl ?_
  refine pw_bipush (v := nI 43) dX10_isSign_1 (by decide) ?_
  refine pw_icmpN_eq _ _ (tgt := 78) dX10_isSign_3 (by decide) (rfl) (rfl) (by omega) (by omega) (fun h3 => ?_) (fun h3 => ?_)
  · refine pw_iconst (v := nI 1) dX10_isSign_78 (by decide) ?_
    refine pw_goto (tgt := 83) dX10_isSign_79 (by decide) ?_
    exact pw_zret dX10_isSign_83 rfl (by decide) (k1 (by rw [h3]; decide))
  · refine pw_iload_n dX10_isSign_6 rfl ?_
    refine pw_bipush (v := nI 45) dX10_isSign_7 (by decide) ?_
    refine pw_icmpN_eq _ _ (tgt := 78) dX10_isSign_9 (by decide) (rfl) (rfl) (by omega) (by omega) (fun h9 => ?_) (fun h9 => ?_)
    · refine pw_iconst (v := nI 1) dX10_isSign_78 (by decide) ?_
      refine pw_goto (tgt := 83) dX10_isSign_79 (by decide) ?_
      exact pw_zret dX10_isSign_83 rfl (by decide) (k1 (by rw [h9]; decide))
    · refine pw_iload_n dX10_isSign_12 rfl ?_
      refine pw_bipush (v := nI 42) dX10_isSign_13 (by decide) ?_
      refine pw_icmpN_eq _ _ (tgt := 78) dX10_isSign_15 (by decide) (rfl) (rfl) (by omega) (by omega) (fun h15 => ?_) (fun h15 => ?_)
      · refine pw_iconst (v := nI 1) dX10_isSign_78 (by decide) ?_
        refine pw_goto (tgt := 83) dX10_isSign_79 (by decide) ?_
        exact pw_zret dX10_isSign_83 rfl (by decide) (k1 (by rw [h15]; decide))
      · refine pw_iload_n dX10_isSign_18 rfl ?_
        refine pw_bipush (v := nI 47) dX10_isSign_19 (by decide) ?_
        refine pw_icmpN_eq _ _ (tgt := 78) dX10_isSign_21 (by decide) (rfl) (rfl) (by omega) (by omega) (fun h21 => ?_) (fun h21 => ?_)
        · refine pw_iconst (v := nI 1) dX10_isSign_78 (by decide) ?_
          refine pw_goto (tgt := 83) dX10_isSign_79 (by decide) ?_
          exact pw_zret dX10_isSign_83 rfl (by decide) (k1 (by rw [h21]; decide))
        · refine pw_iload_n dX10_isSign_24 rfl ?_
          refine pw_bipush (v := nI 37) dX10_isSign_25 (by decide) ?_
          refine pw_icmpN_eq _ _ (tgt := 78) dX10_isSign_27 (by decide) (rfl) (rfl) (by omega) (by omega) (fun h27 => ?_) (fun h27 => ?_)
          · refine pw_iconst (v := nI 1) dX10_isSign_78 (by decide) ?_
            refine pw_goto (tgt := 83) dX10_isSign_79 (by decide) ?_
            exact pw_zret dX10_isSign_83 rfl (by decide) (k1 (by rw [h27]; decide))
          · refine pw_iload_n dX10_isSign_30 rfl ?_
            refine pw_bipush (v := nI 60) dX10_isSign_31 (by decide) ?_
            refine pw_icmpN_eq _ _ (tgt := 78) dX10_isSign_33 (by decide) (rfl) (rfl) (by omega) (by omega) (fun h33 => ?_) (fun h33 => ?_)
            · refine pw_iconst (v := nI 1) dX10_isSign_78 (by decide) ?_
              refine pw_goto (tgt := 83) dX10_isSign_79 (by decide) ?_
              exact pw_zret dX10_isSign_83 rfl (by decide) (k1 (by rw [h33]; decide))
            · refine pw_iload_n dX10_isSign_36 rfl ?_
              refine pw_bipush (v := nI 61) dX10_isSign_37 (by decide) ?_
              refine pw_icmpN_eq _ _ (tgt := 78) dX10_isSign_39 (by decide) (rfl) (rfl) (by omega) (by omega) (fun h39 => ?_) (fun h39 => ?_)
              · refine pw_iconst (v := nI 1) dX10_isSign_78 (by decide) ?_
                refine pw_goto (tgt := 83) dX10_isSign_79 (by decide) ?_
                exact pw_zret dX10_isSign_83 rfl (by decide) (k1 (by rw [h39]; decide))
              · refine pw_iload_n dX10_isSign_42 rfl ?_
                refine pw_bipush (v := nI 63) dX10_isSign_43 (by decide) ?_
                refine pw_icmpN_eq _ _ (tgt := 78) dX10_isSign_45 (by decide) (rfl) (rfl) (by omega) (by omega) (fun h45 => ?_) (fun h45 => ?_)
                · refine pw_iconst (v := nI 1) dX10_isSign_78 (by decide) ?_
                  refine pw_goto (tgt := 83) dX10_isSign_79 (by decide) ?_
                  exact pw_zret dX10_isSign_83 rfl (by decide) (k1 (by rw [h45]; decide))
                · refine pw_iload_n dX10_isSign_48 rfl ?_
                  refine pw_bipush (v := nI 58) dX10_isSign_49 (by decide) ?_
                  refine pw_icmpN_eq _ _ (tgt := 78) dX10_isSign_51 (by decide) (rfl) (rfl) (by omega) (by omega) (fun h51 => ?_) (fun h51 => ?_)
                  · refine pw_iconst (v := nI 1) dX10_isSign_78 (by decide) ?_
                    refine pw_goto (tgt := 83) dX10_isSign_79 (by decide) ?_
                    exact pw_zret dX10_isSign_83 rfl (by decide) (k1 (by rw [h51]; decide))
                  · refine pw_iload_n dX10_isSign_54 rfl ?_
                    refine pw_bipush (v := nI 40) dX10_isSign_55 (by decide) ?_
                    refine pw_icmpN_eq _ _ (tgt := 78) dX10_isSign_57 (by decide) (rfl) (rfl) (by omega) (by omega) (fun h57 => ?_) (fun h57 => ?_)
                    · refine pw_iconst (v := nI 1) dX10_isSign_78 (by decide) ?_
                      refine pw_goto (tgt := 83) dX10_isSign_79 (by decide) ?_
                      exact pw_zret dX10_isSign_83 rfl (by decide) (k1 (by rw [h57]; decide))
                    · refine pw_iload_n dX10_isSign_60 rfl ?_
                      refine pw_bipush (v := nI 41) dX10_isSign_61 (by decide) ?_
                      refine pw_icmpN_eq _ _ (tgt := 78) dX10_isSign_63 (by decide) (rfl) (rfl) (by omega) (by omega) (fun h63 => ?_) (fun h63 => ?_)
                      · refine pw_iconst (v := nI 1) dX10_isSign_78 (by decide) ?_
                        refine pw_goto (tgt := 83) dX10_isSign_79 (by decide) ?_
                        exact pw_zret dX10_isSign_83 rfl (by decide) (k1 (by rw [h63]; decide))
                      · refine pw_iload_n dX10_isSign_66 rfl ?_
                        refine pw_bipush (v := nI 44) dX10_isSign_67 (by decide) ?_
                        refine pw_icmpN_eq _ _ (tgt := 78) dX10_isSign_69 (by decide) (rfl) (rfl) (by omega) (by omega) (fun h69 => ?_) (fun h69 => ?_)
                        · refine pw_iconst (v := nI 1) dX10_isSign_78 (by decide) ?_
                          refine pw_goto (tgt := 83) dX10_isSign_79 (by decide) ?_
                          exact pw_zret dX10_isSign_83 rfl (by decide) (k1 (by rw [h69]; decide))
                        · refine pw_iload_n dX10_isSign_72 rfl ?_
                          refine pw_bipush (v := nI 46) dX10_isSign_73 (by decide) ?_
                          refine pw_icmpN_ne _ _ (tgt := 82) dX10_isSign_75 (by decide) (rfl) (rfl) (by omega) (by omega) (fun h75 => ?_) (fun h75 => ?_)
                          · refine pw_iconst (v := nI 0) dX10_isSign_82 (by decide) ?_
                            exact pw_zret dX10_isSign_83 rfl (by decide) (k0 (by cases hs9 : tk_sig b with | false => rfl | true => (unfold tk_sig at hs9; simp at hs9; omega)))
                          · refine pw_iconst (v := nI 1) dX10_isSign_78 (by decide) ?_
                            refine pw_goto (tgt := 83) dX10_isSign_79 (by decide) ?_
                            exact pw_zret dX10_isSign_83 rfl (by decide) (k1 (by rw [h75]; decide))

set_option maxRecDepth 20000 in
set_option maxHeartbeats 4000000 in
theorem c_X10_word {l : Launch} {E : pmE} {d : Nat} {S : pmS} {I : pmI} {J : pmJ} {P : pmP} {Q : Option Value → pmS → pmI → pmJ → pmP → Prop} (hG : sh_St S) (hP : gr_St P) {v : Int64} (k : Q (some (.int (nI (rk (tk_word v))))) S I J P) : pm_Met l E yX10_word cX10_word 2 (some .int) d 0 0 [.long v] S I J P Q := by
  unfold pm_Met
  refine pm_lvs (lv' := [(0, _)]) rfl ?_
  refine pw_lload_n dX10_word_0 rfl ?_
  refine pw_ldc2 dX10_word_1 kX10_188 ?_
  refine pw_lif_ne (tgt := 12) dX10_word_4 dX10_word_5 (by decide) (fun h5 => ?_) (fun h5 => ?_)
  · refine pw_lload_n dX10_word_12 rfl ?_
    refine pw_ldc2 dX10_word_13 kX10_190 ?_
    refine pw_lif_ne (tgt := 24) dX10_word_16 dX10_word_17 (by decide) (fun h17 => ?_) (fun h17 => ?_)
    · refine pw_lload_n dX10_word_24 rfl ?_
      refine pw_ldc2 dX10_word_25 kX10_192 ?_
      refine pw_lif_ne (tgt := 37) dX10_word_28 dX10_word_29 (by decide) (fun h29 => ?_) (fun h29 => ?_)
      · refine pw_iconst (v := nI 1) dX10_word_37 (by decide) ?_
        exact pw_iret dX10_word_38 rfl (by unfold tk_word at k; rw [if_neg h5, if_neg h17, if_neg h29] at k; exact k)
      · refine pw_bipush (v := nI 6) dX10_word_32 (by decide) ?_
        refine pw_goto (tgt := 38) dX10_word_34 (by decide) ?_
        exact pw_iret dX10_word_38 rfl (by unfold tk_word at k; rw [if_neg h5, if_neg h17, if_pos h29] at k; exact k)
    · refine pw_iconst (v := nI 5) dX10_word_20 (by decide) ?_
      refine pw_goto (tgt := 38) dX10_word_21 (by decide) ?_
      exact pw_iret dX10_word_38 rfl (by unfold tk_word at k; rw [if_neg h5, if_pos h17] at k; exact k)
  · refine pw_iconst (v := nI 4) dX10_word_8 (by decide) ?_
    refine pw_goto (tgt := 38) dX10_word_9 (by decide) ?_
    exact pw_iret dX10_word_38 rfl (by unfold tk_word at k; rw [if_pos h5] at k; exact k)

set_option maxRecDepth 20000 in
set_option maxHeartbeats 4000000 in
theorem c_X10_tail {l : Launch} {E : pmE} {d : Nat} {S : pmS} {I : pmI} {J : pmJ} {P : pmP} {Q : Option Value → pmS → pmI → pmJ → pmP → Prop} (hG : sh_St S) (hP : gr_St P) {i r : Nat} {y1 : Int32} (hk : I 77 i = nI r) (hc : I 47 36 = nI i) (hi : i ≤ 60) (hr : r < 128) (ke : r = 0 ∨ r = 7 → Q none S (pm_u I 47 36 (nI (i + 1))) J P) (kg : ¬ r = 0 → ¬ r = 7 → pm_W l E yX10_cut cX10_cut 6 none d 0 0 13 [(2, .int (nI 1)), (1, .int y1), (0, .ref 47)] [] S (pm_u I 47 36 (nI (i + 1))) J P (pm_N E Q)) : pm_W l E yX10_cut cX10_cut 6 none d 0 0 404 [(1, .int y1), (0, .ref 47)] [] S I J P (pm_N E Q) := by
  refine pw_aload_n dX10_cut_404 rfl ?_
  refine pw_getR fX10_99 dX10_cut_405 (sh_lt hG (by decide)) (sh_tg hG 45 rfl) rfl (gr_at hP 69 rfl) ?_
  refine pw_aload_n dX10_cut_408 rfl ?_
  refine pw_getI fX10_167 dX10_cut_409 (sh_lt hG (by decide)) (sh_tg hG 45 rfl) rfl ?_
  refine pw_ialdN i dX10_cut_412 (sh_lt hG (by decide)) (sh_sh hG 75 rfl) (by decide) (hc) (by omega) ?_
  refine pw_ifN_eq _ (tgt := 434) dX10_cut_413 (by decide) (hk) (by omega) (fun h413 => ?_) (fun h413 => ?_)
  · refine pw_iconst (v := nI 0) dX10_cut_434 (by decide) ?_
    refine pw_istore_n (lv' := [(2, _), (1, _), (0, _)]) dX10_cut_435 (by decide) rfl ?_
    refine pw_aload_n dX10_cut_436 rfl ?_
    refine pw_dup dX10_cut_437 rfl ?_
    refine pw_getI fX10_167 dX10_cut_438 (sh_lt hG (by decide)) (sh_tg hG 45 rfl) rfl ?_
    refine pw_iconst (v := nI 1) dX10_cut_441 (by decide) ?_
    refine pw_iadd dX10_cut_442 ?_
    refine pw_ti (z := nI (i + 1)) (by rw [hc]; exact nI_add i 1) ?_
    refine pw_putI fX10_167 dX10_cut_443 (Or.inl rfl) (by decide) (sh_lt hG (by decide)) (sh_tg hG 45 rfl) rfl ?_
    refine pw_goto (tgt := 9) dX10_cut_446 (by decide) ?_
    refine pw_iload_n dX10_cut_9 rfl ?_
    refine pw_if_eq (tgt := 449) dX10_cut_10 (by decide) (fun h10 => ?_) (fun h => absurd (by decide) h)
    exact pw_vret dX10_cut_449 rfl (ke (Or.inl h413))
  · refine pw_aload_n dX10_cut_416 rfl ?_
    refine pw_getR fX10_99 dX10_cut_417 (sh_lt hG (by decide)) (sh_tg hG 45 rfl) rfl (gr_at hP 69 rfl) ?_
    refine pw_aload_n dX10_cut_420 rfl ?_
    refine pw_getI fX10_167 dX10_cut_421 (sh_lt hG (by decide)) (sh_tg hG 45 rfl) rfl ?_
    refine pw_ialdN i dX10_cut_424 (sh_lt hG (by decide)) (sh_sh hG 75 rfl) (by decide) (hc) (by omega) ?_
    refine pw_bipush (v := nI 7) dX10_cut_425 (by decide) ?_
    refine pw_icmpN_eq _ _ (tgt := 434) dX10_cut_427 (by decide) (hk) (rfl) (by omega) (by omega) (fun h427 => ?_) (fun h427 => ?_)
    · refine pw_iconst (v := nI 0) dX10_cut_434 (by decide) ?_
      refine pw_istore_n (lv' := [(2, _), (1, _), (0, _)]) dX10_cut_435 (by decide) rfl ?_
      refine pw_aload_n dX10_cut_436 rfl ?_
      refine pw_dup dX10_cut_437 rfl ?_
      refine pw_getI fX10_167 dX10_cut_438 (sh_lt hG (by decide)) (sh_tg hG 45 rfl) rfl ?_
      refine pw_iconst (v := nI 1) dX10_cut_441 (by decide) ?_
      refine pw_iadd dX10_cut_442 ?_
      refine pw_ti (z := nI (i + 1)) (by rw [hc]; exact nI_add i 1) ?_
      refine pw_putI fX10_167 dX10_cut_443 (Or.inl rfl) (by decide) (sh_lt hG (by decide)) (sh_tg hG 45 rfl) rfl ?_
      refine pw_goto (tgt := 9) dX10_cut_446 (by decide) ?_
      refine pw_iload_n dX10_cut_9 rfl ?_
      refine pw_if_eq (tgt := 449) dX10_cut_10 (by decide) (fun h10 => ?_) (fun h => absurd (by decide) h)
      exact pw_vret dX10_cut_449 rfl (ke (Or.inr h427))
    · refine pw_iconst (v := nI 1) dX10_cut_430 (by decide) ?_
      refine pw_goto (tgt := 435) dX10_cut_431 (by decide) ?_
      refine pw_istore_n (lv' := [(2, _), (1, _), (0, _)]) dX10_cut_435 (by decide) rfl ?_
      refine pw_aload_n dX10_cut_436 rfl ?_
      refine pw_dup dX10_cut_437 rfl ?_
      refine pw_getI fX10_167 dX10_cut_438 (sh_lt hG (by decide)) (sh_tg hG 45 rfl) rfl ?_
      refine pw_iconst (v := nI 1) dX10_cut_441 (by decide) ?_
      refine pw_iadd dX10_cut_442 ?_
      refine pw_ti (z := nI (i + 1)) (by rw [hc]; exact nI_add i 1) ?_
      refine pw_putI fX10_167 dX10_cut_443 (Or.inl rfl) (by decide) (sh_lt hG (by decide)) (sh_tg hG 45 rfl) rfl ?_
      refine pw_goto (tgt := 9) dX10_cut_446 (by decide) ?_
      refine pw_iload_n dX10_cut_9 rfl ?_
      refine pw_if_eq (tgt := 449) dX10_cut_10 (by decide) (fun h => absurd h (by decide)) (fun h10 => ?_)
      refine pw_sub [0, 1, 2] rfl ?_
      exact kg h413 h427
set_option maxRecDepth 20000 in
set_option maxHeartbeats 4000000 in
theorem c_X10_ab_lp {l : Launch} {E : pmE} {d : Nat} {S : pmS} {I : pmI} {J : pmJ} {P : pmP} {Q : Option Value → pmS → pmI → pmJ → pmP → Prop} (hG : sh_St S) (hP : gr_St P) {tx : Nat → Nat} {n : Nat} (hT : tX I 48 tx n) (hs : I 47 2 = nI n) (hn : n ≤ 120) (hb9 : ∀ j, j < n → tx j < 2 ^ 31) {y2 : Int32} : ∀ (k p : Nat), p + k = n → pm_W l E yX10_cut cX10_cut 6 none d 0 0 38 [(2, .int y2), (1, .int (nI (tk_ab tx k p))), (0, .ref 47)] [] S I J P (pm_N E Q) → pm_W l E yX10_cut cX10_cut 6 none d 0 0 13 [(2, .int y2), (1, .int (nI p)), (0, .ref 47)] [] S I J P (pm_N E Q)
  | 0, p, hk, kk => by
    refine pw_iload_n dX10_cut_13 rfl ?_
    refine pw_aload_n dX10_cut_14 rfl ?_
    refine pw_getI fX10_164 dX10_cut_15 (sh_lt hG (by decide)) (sh_tg hG 45 rfl) rfl ?_
    refine pw_icmpN_ge _ _ (tgt := 38) dX10_cut_18 (by decide) (rfl) (hs) (by omega) (by omega) (fun h18 => ?_) (fun h18 => absurd h18 (by omega))
    exact kk
  | k + 1, p, hk, kk => by
    refine pw_iload_n dX10_cut_13 rfl ?_
    refine pw_aload_n dX10_cut_14 rfl ?_
    refine pw_getI fX10_164 dX10_cut_15 (sh_lt hG (by decide)) (sh_tg hG 45 rfl) rfl ?_
    refine pw_icmpN_ge _ _ (tgt := 38) dX10_cut_18 (by decide) (rfl) (hs) (by omega) (by omega) (fun h18 => absurd h18 (by omega)) (fun h18 => ?_)
    refine pw_aload_n dX10_cut_21 rfl ?_
    refine pw_getR fX10_7 dX10_cut_22 (sh_lt hG (by decide)) (sh_tg hG 45 rfl) rfl (gr_at hP 40 rfl) ?_
    refine pw_iload_n dX10_cut_25 rfl ?_
    refine pw_ialdN p dX10_cut_26 (sh_lt hG (by decide)) (sh_sh hG 46 rfl) (by decide) (rfl) (by omega) ?_
    have hb1 : tx p < 2 ^ 31 := hb9 p (by omega)
    refine pw_ti (z := nI (tx p)) (hT p (by omega)) ?_
    refine pw_bipush (v := nI 32) dX10_cut_27 (by decide) ?_
    refine pw_icmpN_ne _ _ (tgt := 38) dX10_cut_29 (by decide) (rfl) (rfl) (by omega) (by omega) (fun h29 => ?_) (fun h29 => ?_)
    · rw [tk_ab_f h29] at kk
      exact kk
    · refine pw_iinc (lv' := [(1, _), (2, _), (0, _)]) dX10_cut_32 rfl (by decide) rfl ?_
      refine pw_goto (tgt := 13) dX10_cut_35 (by decide) ?_
      refine pw_sub [1, 0, 2] rfl ?_
      rw [show nI p + Int32.ofInt 1 = nI (p + 1) from nI_1 p]
      exact c_X10_ab_lp hG hP hT hs hn hb9 k (p + 1) (by omega) (by rw [tk_ab_t h29] at kk; exact kk)
set_option maxRecDepth 20000 in
set_option maxHeartbeats 4000000 in
theorem c_X10_le_lp {l : Launch} {E : pmE} {d : Nat} {S : pmS} {I : pmI} {P : pmP} {Q : Option Value → pmS → pmI → pmJ → pmP → Prop} (hG : sh_St S) (hP : gr_St P) {tx : Nat → Nat} {n : Nat} (hT : tX I 48 tx n) (hs : I 47 2 = nI n) (hn : n ≤ 120) {i : Nat} (hc : I 47 36 = nI i) (hi : i ≤ 60) (hd : 4 ≤ d) (hb : ∀ j, j < n → tx j < 128) {fr : Nat} : ∀ (k e : Nat) (J : pmJ) (v : Int64), e + k = n → fr ≤ e → J 79 i = v → (∀ J', fr79 J J' i → (tk_le tx k e - fr ≤ 8 → J' 79 i = tk_lc tx k e v) → pm_W l E yX10_cut cX10_cut 6 none d 0 0 167 [(1, .int (nI (tk_le tx k e))), (3, .int (nI fr)), (0, .ref 47)] [] S I J' P (pm_N E Q)) → pm_W l E yX10_cut cX10_cut 6 none d 0 0 112 [(1, .int (nI e)), (3, .int (nI fr)), (0, .ref 47)] [] S I J P (pm_N E Q)
  | 0, e, J, v, hk, hf, hv, kk => by
    have kk := kk J fr79.refl (fun _ => hv)
    refine pw_aload_n dX10_cut_112 rfl ?_
    refine pw_iload_n dX10_cut_113 rfl ?_
    refine pw_callV (as := [_]) (kc' := 0) (ks' := 0) lX10_170 dX10_cut_114 rfl rfl (sh_lt hG (by decide)) (sh_tg hG 45 rfl) (Nat.le_of_ble_eq_true rfl) (by omega) (Nat.le_of_ble_eq_true rfl) (Nat.zero_le _) (Nat.zero_le _) ?_
    refine c_X10_isLetter hG hP hT hs hn (by omega) hb (p := e) (by omega) (fun hlt hle => ?_) (fun hnl => ?_)
    · refine pw_if_eq (tgt := 167) dX10_cut_117 (by decide) (fun h => absurd h (by decide)) (fun h117 => ?_)
      exact absurd hlt (by omega)
    · refine pw_if_eq (tgt := 167) dX10_cut_117 (by decide) (fun h117 => ?_) (fun h => absurd (by decide) h)
      exact kk
  | k + 1, e, J, v, hk, hf, hv, kk => by
    have hb1 := hb e (by omega)
    refine pw_aload_n dX10_cut_112 rfl ?_
    refine pw_iload_n dX10_cut_113 rfl ?_
    refine pw_callV (as := [_]) (kc' := 0) (ks' := 0) lX10_170 dX10_cut_114 rfl rfl (sh_lt hG (by decide)) (sh_tg hG 45 rfl) (Nat.le_of_ble_eq_true rfl) (by omega) (Nat.le_of_ble_eq_true rfl) (Nat.zero_le _) (Nat.zero_le _) ?_
    refine c_X10_isLetter hG hP hT hs hn (by omega) hb (p := e) (by omega) (fun hlt hle => ?_) (fun hnl => ?_)
    · refine pw_if_eq (tgt := 167) dX10_cut_117 (by decide) (fun h => absurd h (by decide)) (fun h117 => ?_)
      refine pw_aload_n dX10_cut_120 rfl ?_
      refine pw_getR fX10_105 dX10_cut_121 (sh_lt hG (by decide)) (sh_tg hG 45 rfl) rfl (gr_at hP 71 rfl) ?_
      refine pw_aload_n dX10_cut_124 rfl ?_
      refine pw_getI fX10_167 dX10_cut_125 (sh_lt hG (by decide)) (sh_tg hG 45 rfl) rfl ?_
      refine pw_iload_n dX10_cut_128 rfl ?_
      refine pw_iload_n dX10_cut_129 rfl ?_
      refine pw_isub dX10_cut_130 ?_
      refine pw_bipush (v := nI 8) dX10_cut_131 (by decide) ?_
      refine pw_icmpN_ge _ _ (tgt := 159) dX10_cut_133 (by decide) (pk_sub (by omega)) (rfl) (by omega) (by omega) (fun h133 => ?_) (fun h133 => ?_)
      · refine pw_lconst (v := 0) dX10_cut_159 (by decide) ?_
        refine pw_lastN i dX10_cut_160 (by decide) (sh_lt hG (by decide)) (sh_sh hG 77 rfl) (by decide) (hc) (by omega) ?_
        refine pw_iinc (lv' := [(1, _), (3, _), (0, _)]) dX10_cut_161 rfl (by decide) rfl ?_
        refine pw_goto (tgt := 112) dX10_cut_164 (by decide) ?_
        refine pw_sub [0, 1, 2] rfl ?_
        rw [show nI e + Int32.ofInt 1 = nI (e + 1) from nI_1 e]
        rw [tk_le_t hle] at kk
        have hle2 := tk_le_b tx k (e + 1)
        refine c_X10_le_lp hG hP hT hs hn hc hi hd hb k (e + 1) _ (0) (by omega) (by omega) (by rw [pm_u_eq, pm_up_eq]) (fun J' hJ hv' => kk J' ⟨fun a ha => by rw [hJ.1 a ha, pm_u_ne ha], fun j hj => by rw [hJ.2 j hj, pm_u_eq, pm_up_ne hj]⟩ (fun h8 => ?_))
        exact absurd h8 (by omega)
      · refine pw_aload_n dX10_cut_136 rfl ?_
        refine pw_getR fX10_105 dX10_cut_137 (sh_lt hG (by decide)) (sh_tg hG 45 rfl) rfl (gr_at hP 71 rfl) ?_
        refine pw_aload_n dX10_cut_140 rfl ?_
        refine pw_getI fX10_167 dX10_cut_141 (sh_lt hG (by decide)) (sh_tg hG 45 rfl) rfl ?_
        refine pw_laldN i dX10_cut_144 (sh_lt hG (by decide)) (sh_sh hG 77 rfl) (by decide) (hc) (by omega) ?_
        refine pw_bipush (v := nI 8) dX10_cut_145 (by decide) ?_
        refine pw_lshl dX10_cut_147 ?_
        refine pw_aload_n dX10_cut_148 rfl ?_
        refine pw_getR fX10_7 dX10_cut_149 (sh_lt hG (by decide)) (sh_tg hG 45 rfl) rfl (gr_at hP 40 rfl) ?_
        refine pw_iload_n dX10_cut_152 rfl ?_
        refine pw_ialdN e dX10_cut_153 (sh_lt hG (by decide)) (sh_sh hG 46 rfl) (by decide) (rfl) (by omega) ?_
        refine pw_ti (z := nI (tx e)) (hT e (by omega)) ?_
        refine pw_i2l dX10_cut_154 ?_
        refine pw_lor dX10_cut_155 ?_
        refine pw_goto (tgt := 160) dX10_cut_156 (by decide) ?_
        refine pw_lastN i dX10_cut_160 (by decide) (sh_lt hG (by decide)) (sh_sh hG 77 rfl) (by decide) (hc) (by omega) ?_
        refine pw_iinc (lv' := [(1, _), (3, _), (0, _)]) dX10_cut_161 rfl (by decide) rfl ?_
        refine pw_goto (tgt := 112) dX10_cut_164 (by decide) ?_
        refine pw_sub [0, 1, 2] rfl ?_
        rw [show nI e + Int32.ofInt 1 = nI (e + 1) from nI_1 e]
        rw [tk_le_t hle] at kk
        have hle2 := tk_le_b tx k (e + 1)
        refine c_X10_le_lp hG hP hT hs hn hc hi hd hb k (e + 1) _ (tk_sh v (tx e)) (by omega) (by omega) (by rw [pm_u_eq, pm_up_eq]; rw [hv]; rfl) (fun J' hJ hv' => kk J' ⟨fun a ha => by rw [hJ.1 a ha, pm_u_ne ha], fun j hj => by rw [hJ.2 j hj, pm_u_eq, pm_up_ne hj]⟩ (fun h8 => ?_))
        rw [tk_lc_t hle]
        exact hv' h8
    · refine pw_if_eq (tgt := 167) dX10_cut_117 (by decide) (fun h117 => ?_) (fun h => absurd (by decide) h)
      have hnl2 : ¬ (97 ≤ tx e ∧ tx e ≤ 122) := fun h => hnl ⟨by omega, h⟩
      have kk := kk J fr79.refl (fun _ => by rw [tk_lc_f hnl2]; exact hv)
      rw [tk_le_f hnl2] at kk
      exact kk
set_option maxRecDepth 20000 in
set_option maxHeartbeats 4000000 in
theorem c_X10_de_lp {l : Launch} {E : pmE} {d : Nat} {S : pmS} {I : pmI} {P : pmP} {Q : Option Value → pmS → pmI → pmJ → pmP → Prop} (hG : sh_St S) (hP : gr_St P) {tx : Nat → Nat} {n : Nat} (hT : tX I 48 tx n) (hs : I 47 2 = nI n) (hn : n ≤ 120) {i : Nat} (hc : I 47 36 = nI i) (hi : i ≤ 60) (hd : 4 ≤ d) (hb : ∀ j, j < n → tx j < 128) {bg : Nat} {y3 y4 : Int32} : ∀ (k e : Nat) (J : pmJ) (v : Int64), e + k = n → bg ≤ e → J 79 i = v → (∀ J', fr79 J J' i → (tk_de tx k e - bg ≤ 18 → J' 79 i = tk_dc tx k e v) → pm_W l E yX10_cut cX10_cut 6 none d 0 0 318 [(1, .int (nI (tk_de tx k e))), (5, .int (nI bg)), (4, .int y4), (3, .int y3), (0, .ref 47)] [] S I J' P (pm_N E Q)) → pm_W l E yX10_cut cX10_cut 6 none d 0 0 257 [(1, .int (nI e)), (5, .int (nI bg)), (4, .int y4), (3, .int y3), (0, .ref 47)] [] S I J P (pm_N E Q)
  | 0, e, J, v, hk, hf, hv, kk => by
    have kk := kk J fr79.refl (fun _ => hv)
    refine pw_aload_n dX10_cut_257 rfl ?_
    refine pw_iload_n dX10_cut_258 rfl ?_
    refine pw_callV (as := [_]) (kc' := 0) (ks' := 0) lX10_178 dX10_cut_259 rfl rfl (sh_lt hG (by decide)) (sh_tg hG 45 rfl) (Nat.le_of_ble_eq_true rfl) (by omega) (Nat.le_of_ble_eq_true rfl) (Nat.zero_le _) (Nat.zero_le _) ?_
    refine c_X10_isDigit hG hP hT hs hn (by omega) hb (p := e) (by omega) (fun hlt hle => ?_) (fun hnl => ?_)
    · refine pw_if_eq (tgt := 318) dX10_cut_262 (by decide) (fun h => absurd h (by decide)) (fun h262 => ?_)
      exact absurd hlt (by omega)
    · refine pw_if_eq (tgt := 318) dX10_cut_262 (by decide) (fun h262 => ?_) (fun h => absurd (by decide) h)
      exact kk
  | k + 1, e, J, v, hk, hf, hv, kk => by
    have hb1 := hb e (by omega)
    refine pw_aload_n dX10_cut_257 rfl ?_
    refine pw_iload_n dX10_cut_258 rfl ?_
    refine pw_callV (as := [_]) (kc' := 0) (ks' := 0) lX10_178 dX10_cut_259 rfl rfl (sh_lt hG (by decide)) (sh_tg hG 45 rfl) (Nat.le_of_ble_eq_true rfl) (by omega) (Nat.le_of_ble_eq_true rfl) (Nat.zero_le _) (Nat.zero_le _) ?_
    refine c_X10_isDigit hG hP hT hs hn (by omega) hb (p := e) (by omega) (fun hlt hle => ?_) (fun hnl => ?_)
    · refine pw_if_eq (tgt := 318) dX10_cut_262 (by decide) (fun h => absurd h (by decide)) (fun h262 => ?_)
      refine pw_aload_n dX10_cut_265 rfl ?_
      refine pw_getR fX10_105 dX10_cut_266 (sh_lt hG (by decide)) (sh_tg hG 45 rfl) rfl (gr_at hP 71 rfl) ?_
      refine pw_aload_n dX10_cut_269 rfl ?_
      refine pw_getI fX10_167 dX10_cut_270 (sh_lt hG (by decide)) (sh_tg hG 45 rfl) rfl ?_
      refine pw_iload_n dX10_cut_273 rfl ?_
      refine pw_iload dX10_cut_274 rfl ?_
      refine pw_isub dX10_cut_276 ?_
      refine pw_bipush (v := nI 18) dX10_cut_277 (by decide) ?_
      refine pw_icmpN_ge _ _ (tgt := 310) dX10_cut_279 (by decide) (pk_sub (by omega)) (rfl) (by omega) (by omega) (fun h279 => ?_) (fun h279 => ?_)
      · refine pw_lconst (v := 0) dX10_cut_310 (by decide) ?_
        refine pw_lastN i dX10_cut_311 (by decide) (sh_lt hG (by decide)) (sh_sh hG 77 rfl) (by decide) (hc) (by omega) ?_
        refine pw_iinc (lv' := [(1, _), (5, _), (4, _), (3, _), (0, _)]) dX10_cut_312 rfl (by decide) rfl ?_
        refine pw_goto (tgt := 257) dX10_cut_315 (by decide) ?_
        refine pw_sub [0, 1, 2, 3, 4] rfl ?_
        rw [show nI e + Int32.ofInt 1 = nI (e + 1) from nI_1 e]
        rw [tk_de_t hle] at kk
        have hle2 := tk_de_b tx k (e + 1)
        refine c_X10_de_lp hG hP hT hs hn hc hi hd hb k (e + 1) _ (0) (by omega) (by omega) (by rw [pm_u_eq, pm_up_eq]) (fun J' hJ hv' => kk J' ⟨fun a ha => by rw [hJ.1 a ha, pm_u_ne ha], fun j hj => by rw [hJ.2 j hj, pm_u_eq, pm_up_ne hj]⟩ (fun h8 => ?_))
        exact absurd h8 (by omega)
      · refine pw_ldc2 dX10_cut_282 kX10_181 ?_
        refine pw_aload_n dX10_cut_285 rfl ?_
        refine pw_getR fX10_105 dX10_cut_286 (sh_lt hG (by decide)) (sh_tg hG 45 rfl) rfl (gr_at hP 71 rfl) ?_
        refine pw_aload_n dX10_cut_289 rfl ?_
        refine pw_getI fX10_167 dX10_cut_290 (sh_lt hG (by decide)) (sh_tg hG 45 rfl) rfl ?_
        refine pw_laldN i dX10_cut_293 (sh_lt hG (by decide)) (sh_sh hG 77 rfl) (by decide) (hc) (by omega) ?_
        refine pw_lmul dX10_cut_294 ?_
        refine pw_aload_n dX10_cut_295 rfl ?_
        refine pw_getR fX10_7 dX10_cut_296 (sh_lt hG (by decide)) (sh_tg hG 45 rfl) rfl (gr_at hP 40 rfl) ?_
        refine pw_iload_n dX10_cut_299 rfl ?_
        refine pw_ialdN e dX10_cut_300 (sh_lt hG (by decide)) (sh_sh hG 46 rfl) (by decide) (rfl) (by omega) ?_
        refine pw_ti (z := nI (tx e)) (hT e (by omega)) ?_
        refine pw_i2l dX10_cut_301 ?_
        refine pw_ladd dX10_cut_302 ?_
        refine pw_ldc2 dX10_cut_303 kX10_183 ?_
        refine pw_lsub dX10_cut_306 ?_
        refine pw_goto (tgt := 311) dX10_cut_307 (by decide) ?_
        refine pw_lastN i dX10_cut_311 (by decide) (sh_lt hG (by decide)) (sh_sh hG 77 rfl) (by decide) (hc) (by omega) ?_
        refine pw_iinc (lv' := [(1, _), (5, _), (4, _), (3, _), (0, _)]) dX10_cut_312 rfl (by decide) rfl ?_
        refine pw_goto (tgt := 257) dX10_cut_315 (by decide) ?_
        refine pw_sub [0, 1, 2, 3, 4] rfl ?_
        rw [show nI e + Int32.ofInt 1 = nI (e + 1) from nI_1 e]
        rw [tk_de_t hle] at kk
        have hle2 := tk_de_b tx k (e + 1)
        refine c_X10_de_lp hG hP hT hs hn hc hi hd hb k (e + 1) _ (tk_dg v (tx e)) (by omega) (by omega) (by rw [pm_u_eq, pm_up_eq]; rw [hv]; exact tk_dg_r hle.1 hb1) (fun J' hJ hv' => kk J' ⟨fun a ha => by rw [hJ.1 a ha, pm_u_ne ha], fun j hj => by rw [hJ.2 j hj, pm_u_eq, pm_up_ne hj]⟩ (fun h8 => ?_))
        rw [tk_dc_t hle]
        exact hv' h8
    · refine pw_if_eq (tgt := 318) dX10_cut_262 (by decide) (fun h262 => ?_) (fun h => absurd (by decide) h)
      have hnl2 : ¬ (48 ≤ tx e ∧ tx e ≤ 57) := fun h => hnl ⟨by omega, h⟩
      have kk := kk J fr79.refl (fun _ => by rw [tk_dc_f hnl2]; exact hv)
      rw [tk_de_f hnl2] at kk
      exact kk
theorem tk_kind_c {tx : Nat → Nat} {n p : Nat} (hb : tx p < 128) : tk_kind tx n p < 128 ∧ tk_kind tx n p ≠ 7 := by
  have hw : ∀ v, tk_word v < 128 ∧ tk_word v ≠ 7 := by
    intro v
    unfold tk_word
    split
    · decide
    · split
      · decide
      · split <;> decide
  unfold tk_kind
  split
  · split
    · decide
    · exact hw _
  · split
    · split <;> decide
    · split
      · split <;> decide
      · split
        · rename_i h
          refine ⟨hb, fun e => ?_⟩
          rw [e] at h
          exact absurd h (by decide)
        · decide
theorem tk_k_c {tx : Nat → Nat} {n i : Nat} (hb : ∀ j, j < n → tx j < 128) : tk_k tx n i < 128 ∧ tk_k tx n i ≠ 7 := by
  unfold tk_k
  split
  · split
    · exact tk_kind_c (hb _ (by assumption))
    · decide
  · decide
theorem rk_lt {k : Nat} (h : k < 128) : rk k < 128 := by
  unfold rk
  repeat (split; · decide)
  exact h
theorem rk_0 {k : Nat} (h : rk k = 0) : k = 0 := by
  unfold rk at h
  split at h
  · assumption
  · repeat (split at h; · exact absurd h (by decide))
    exact h
theorem rk_7 {k : Nat} (h7 : k ≠ 7) (h : rk k = 7) : k = 1 := by
  unfold rk at h
  split at h
  · exact absurd h (by decide)
  · split at h
    · assumption
    · repeat (split at h; · exact absurd h (by decide))
      exact absurd h h7
theorem tk_k_60b {tx : Nat → Nat} {n : Nat} : tk_k tx n 60 = 0 ∨ tk_k tx n 60 = 1 := by
  unfold tk_k
  split
  · exact Or.inr (if_neg (by decide))
  · exact Or.inl rfl
/-- what is not touched by the reference's tokenizer -/
def fr47 (I I' : pmI) (J J' : pmJ) : Prop := (∀ a, a ≠ 47 → a ≠ 77 → a ≠ 78 → I' a = I a) ∧ (∀ k, k ≠ 36 → I' 47 k = I 47 k) ∧ ∀ a, a ≠ 79 → J' a = J a
def rI (tx : Nat → Nat) (n : Nat) (I : pmI) (J : pmJ) (i : Nat) : Prop := I 47 36 = nI i ∧ ∀ j, j < i → tk_k tx n j ≠ 0 ∧ tk_k tx n j ≠ 1 ∧ I 77 j = nI (rk (tk_k tx n j)) ∧ I 78 j = nI (tk_p tx n j) ∧ J 79 j = tk_v tx n j
def rC (tx : Nat → Nat) (n : Nat) (I : pmI) (J : pmJ) (i : Nat) : Prop := I 47 36 = nI (i + 1) ∧ i ≤ 60 ∧ (tk_k tx n i = 0 ∨ tk_k tx n i = 1) ∧ (∀ j, j < i → tk_k tx n j ≠ 0 ∧ tk_k tx n j ≠ 1 ∧ J 79 j = tk_v tx n j) ∧ ∀ j, j ≤ i → I 77 j = nI (rk (tk_k tx n j)) ∧ I 78 j = nI (tk_p tx n j)
theorem r_upd {tx : Nat → Nat} {n : Nat} {I : pmI} {J J2 : pmJ} {i r b : Nat} (h : rI tx n I J i) (hJ : fr79 J J2 i) (hr : r = rk (tk_k tx n i)) (hb : b = tk_p tx n i) : ∀ I2, I2 = pm_u (pm_u (pm_u I 78 i (nI b)) 77 i (nI r)) 47 36 (nI (i + 1)) →
    (∀ j, j ≤ i → I2 77 j = nI (rk (tk_k tx n j)) ∧ I2 78 j = nI (tk_p tx n j)) ∧ (∀ j, j < i → J2 79 j = tk_v tx n j) ∧ I2 47 36 = nI (i + 1) := by
  intro I2 hI2
  subst hI2 hr hb
  refine ⟨fun j hj => ?_, fun j hj => ?_, by rw [pm_u_eq, pm_up_eq]⟩
  · rw [pm_u_ne (a := 47) (b := 77) (by decide), pm_u_eq, pm_u_ne (a := 78) (b := 77) (by decide), pm_u_ne (a := 47) (b := 78) (by decide), pm_u_ne (a := 77) (b := 78) (by decide), pm_u_eq]
    by_cases e : j = i
    · subst e
      exact ⟨pm_up_eq, pm_up_eq⟩
    · rw [pm_up_ne e, pm_up_ne e]
      exact ⟨(h.2 j (by omega)).2.2.1, (h.2 j (by omega)).2.2.2.1⟩
  · rw [hJ.2 j (by omega)]
    exact (h.2 j hj).2.2.2.2
theorem fr47.upd {Ib I : pmI} {Jb J J2 : pmJ} {i : Nat} (h : fr47 Ib I Jb J) (hJ : fr79 J J2 i) {x y z : Int32} : fr47 Ib (pm_u (pm_u (pm_u I 78 i x) 77 i y) 47 36 z) Jb J2 := by
  refine ⟨fun a h1 h2 h3 => ?_, fun k hk => ?_, fun a ha => ?_⟩
  · rw [pm_u_ne h1, pm_u_ne h2, pm_u_ne h3]
    exact h.1 a h1 h2 h3
  · rw [pm_u_eq, pm_up_ne hk, pm_u_ne (by decide), pm_u_ne (by decide)]
    exact h.2.1 k hk
  · rw [hJ.1 a ha]
    exact h.2.2 a ha
theorem rk_sig {b : Nat} (h : tk_sig b = true) : rk b = b := by
  unfold rk
  repeat (split; · (rename_i e; rw [e] at h; exact absurd h (by decide)))
  rfl
set_option maxRecDepth 20000 in
set_option maxHeartbeats 4000000 in
theorem c_X10_cut_lp {l : Launch} {E : pmE} {d : Nat} {S : pmS} {Ib : pmI} {Jb : pmJ} {P : pmP} {Q : Option Value → pmS → pmI → pmJ → pmP → Prop} (hG : sh_St S) (hP : gr_St P) {tx : Nat → Nat} {n : Nat} (hn : n ≤ 120) (hb : ∀ j, j < n → tx j < 128) (hd : 8 ≤ d) (kk : (∀ e I' J', rC tx n I' J' e → fr47 Ib I' Jb J' → Q none S I' J' P)) : ∀ (f i p : Nat) (I : pmI) (J : pmJ), i + f = 60 → p ≤ n → tk_ab tx (n - p) p = tk_p tx n i → tX I 48 tx n → I 47 2 = nI n → fr47 Ib I Jb J → rI tx n I J i → pm_W l E yX10_cut cX10_cut 6 none d 0 0 13 [(2, .int (nI 1)), (1, .int (nI p)), (0, .ref 47)] [] S I J P (pm_N E Q) := by
  intro f
  induction f using Nat.strongRecOn with
  | _ f ih =>
  intro i p I J hf hp hab hT hs hF hI
  obtain ⟨b, hbp⟩ : ∃ b, b = tk_p tx n i := ⟨_, rfl⟩
  have hble := tk_p_le (tx := tx) (n := n) i
  rw [← hbp] at hble
  have hkc := tk_k_c (tx := tx) (n := n) (i := i) hb
  have fin : ∀ (r p' : Nat) (J2 : pmJ), r = rk (tk_k tx n i) → fr79 J J2 i → (tk_k tx n i ≠ 0 → tk_k tx n i ≠ 1 → J2 79 i = tk_v tx n i ∧ p' = tk_end tx n b ∧ b < n) → pm_W l E yX10_cut cX10_cut 6 none d 0 0 404 [(1, (.int (nI p'))), (0, .ref 47)] [] S (pm_u (pm_u I 78 i (nI b)) 77 i (nI r)) J2 P (pm_N E Q) := by
    intro r p' J2 hr hJ hgo
    have hu := r_upd hI hJ hr hbp _ rfl
    refine c_X10_tail hG hP (r := r) (i := i) (by rw [pm_u_eq, pm_up_eq]) (by rw [pm_u_ne (by decide), pm_u_ne (by decide)]; exact hI.1) (by omega) (by rw [hr]; exact rk_lt hkc.1) (fun hz => ?_) (fun h0 h7 => ?_)
    · refine kk i _ _ ⟨hu.2.2, by omega, ?_, fun j hj => ⟨(hI.2 j hj).1, (hI.2 j hj).2.1, hu.2.1 j hj⟩, hu.1⟩ (hF.upd hJ)
      rcases hz with hz | hz
      · exact Or.inl (rk_0 (hr ▸ hz))
      · exact Or.inr (rk_7 hkc.2 (hr ▸ hz))
    · have k0 : tk_k tx n i ≠ 0 := fun e => h0 (by rw [hr, e]; rfl)
      have k1 : tk_k tx n i ≠ 1 := fun e => h7 (by rw [hr, e]; rfl)
      obtain ⟨g1, g2, g3⟩ := hgo k0 k1
      have hlt : i < 60 := by
        rcases Nat.lt_or_ge i 60 with h | h
        · exact h
        · have e : i = 60 := by omega
          subst e
          rcases tk_k_60b (tx := tx) (n := n) with h | h
          · exact absurd h k0
          · exact absurd h k1
      have he := tk_end_b (tx := tx) g3
      refine ih (f - 1) (by omega) (i + 1) p' _ _ (by omega) (by omega) ?_ (fun j hj => ?_) ?_ (hF.upd hJ) ⟨hu.2.2, fun j hj => ?_⟩
      · rw [g2, tk_p_s (by rw [← hbp]; exact g3) hlt, ← hbp]
      · rw [pm_u_ne (by decide), pm_u_ne (by decide), pm_u_ne (by decide)]
        exact hT j hj
      · rw [pm_u_eq, pm_up_ne (by decide), pm_u_ne (by decide), pm_u_ne (by decide)]
        exact hs
      · by_cases e : j = i
        · subst e
          exact ⟨k0, k1, (hu.1 j (Nat.le_refl _)).1, (hu.1 j (Nat.le_refl _)).2, g1⟩
        · exact ⟨(hI.2 j (by omega)).1, (hI.2 j (by omega)).2.1, (hu.1 j (by omega)).1, (hu.1 j (by omega)).2, hu.2.1 j (by omega)⟩
  refine c_X10_ab_lp hG hP hT hs hn (fun j hj => by have := hb j hj; omega) (n - p) p (by omega) ?_
  rw [hab, ← hbp]
  have hs1 : ∀ x, (pm_u I 78 i x) 47 2 = nI n := fun x => by rw [pm_u_ne (by decide)]; exact hs
  have hT1 : ∀ x, tX (pm_u I 78 i x) 48 tx n := fun x j hj => by rw [pm_u_ne (by decide)]; exact hT j hj
  have hc1 : ∀ x, (pm_u I 78 i x) 47 36 = nI i := fun x => by rw [pm_u_ne (by decide)]; exact hI.1
  have hi60 : i ≤ 60 := by omega
  have hJ0 : fr79 J (pm_u J 79 i 0) i := fr79.refl.upd 0
  refine pw_aload_n dX10_cut_38 rfl ?_
  refine pw_getR fX10_102 dX10_cut_39 (sh_lt hG (by decide)) (sh_tg hG 45 rfl) rfl (gr_at hP 70 rfl) ?_
  refine pw_aload_n dX10_cut_42 rfl ?_
  refine pw_getI fX10_167 dX10_cut_43 (sh_lt hG (by decide)) (sh_tg hG 45 rfl) rfl ?_
  refine pw_iload_n dX10_cut_46 rfl ?_
  refine pw_iastN i dX10_cut_47 (by decide) (sh_lt hG (by decide)) (sh_sh hG 76 rfl) (by decide) (hI.1) (by omega) ?_
  refine pw_aload_n dX10_cut_48 rfl ?_
  refine pw_getR fX10_105 dX10_cut_49 (sh_lt hG (by decide)) (sh_tg hG 45 rfl) rfl (gr_at hP 71 rfl) ?_
  refine pw_aload_n dX10_cut_52 rfl ?_
  refine pw_getI fX10_167 dX10_cut_53 (sh_lt hG (by decide)) (sh_tg hG 45 rfl) rfl ?_
  refine pw_lconst (v := 0) dX10_cut_56 (by decide) ?_
  refine pw_lastN i dX10_cut_57 (by decide) (sh_lt hG (by decide)) (sh_sh hG 77 rfl) (by decide) (hc1 _) (by omega) ?_
  refine pw_iload_n dX10_cut_58 rfl ?_
  refine pw_istore_n (lv' := [(3, _), (2, _), (1, _), (0, _)]) dX10_cut_59 (by decide) rfl ?_
  refine pw_iload_n dX10_cut_60 rfl ?_
  refine pw_aload_n dX10_cut_61 rfl ?_
  refine pw_getI fX10_164 dX10_cut_62 (sh_lt hG (by decide)) (sh_tg hG 45 rfl) rfl ?_
  refine pw_icmpN_ne _ _ (tgt := 81) dX10_cut_65 (by decide) (rfl) (hs1 _) (by omega) (by omega) (fun h65 => ?_) (fun h65 => ?_)
  · refine pw_aload_n dX10_cut_81 rfl ?_
    refine pw_getI fX10_167 dX10_cut_82 (sh_lt hG (by decide)) (sh_tg hG 45 rfl) rfl ?_
    refine pw_bipush (v := nI 60) dX10_cut_85 (by decide) ?_
    refine pw_icmpN_ne _ _ (tgt := 104) dX10_cut_87 (by decide) (hc1 _) (rfl) (by omega) (by omega) (fun h87 => ?_) (fun h87 => ?_)
    · have hbn : b < n := by omega
      have hi6 : i < 60 := by omega
      have hki : tk_k tx n i = tk_kind tx n b := by rw [hbp]; exact tk_k_i (by omega) hi6
      have hvi : tk_v tx n i = tk_core tx n b := by rw [hbp]; exact tk_v_i (by omega) hi6
      have hb1 := hb b hbn
      refine pw_aload_n dX10_cut_104 rfl ?_
      refine pw_iload_n dX10_cut_105 rfl ?_
      refine pw_callV (as := [_]) (kc' := 0) (ks' := 0) lX10_170 dX10_cut_106 rfl rfl (sh_lt hG (by decide)) (sh_tg hG 45 rfl) (Nat.le_of_ble_eq_true rfl) (by omega) (Nat.le_of_ble_eq_true rfl) (Nat.zero_le _) (Nat.zero_le _) ?_
      refine c_X10_isLetter hG hP (hT1 _) (hs1 _) hn (by omega) hb (p := b) (by omega) (fun _ hle => ?_) (fun hnl => ?_)
      · refine pw_if_eq (tgt := 204) dX10_cut_109 (by decide) (fun h => absurd h (by decide)) (fun h109 => ?_)
        refine pw_sub [2, 0, 3] rfl ?_
        refine c_X10_le_lp hG hP (hT1 _) (hs1 _) hn (hc1 _) hi60 (by omega) hb (n - b) b _ 0 (by omega) (Nat.le_refl b) (by rw [pm_u_eq, pm_up_eq]) (fun J' hJ hv' => ?_)
        have hle2 := tk_le_b tx (n - b) b
        have hJ1 : fr79 J J' i := ⟨fun a ha => by rw [hJ.1 a ha, pm_u_ne ha], fun j hj => by rw [hJ.2 j hj, pm_u_eq, pm_up_ne hj]⟩
        refine pw_aload_n dX10_cut_167 rfl ?_
        refine pw_getR fX10_99 dX10_cut_168 (sh_lt hG (by decide)) (sh_tg hG 45 rfl) rfl (gr_at hP 69 rfl) ?_
        refine pw_aload_n dX10_cut_171 rfl ?_
        refine pw_getI fX10_167 dX10_cut_172 (sh_lt hG (by decide)) (sh_tg hG 45 rfl) rfl ?_
        refine pw_iload_n dX10_cut_175 rfl ?_
        refine pw_iload_n dX10_cut_176 rfl ?_
        refine pw_isub dX10_cut_177 ?_
        refine pw_bipush (v := nI 8) dX10_cut_178 (by decide) ?_
        refine pw_icmpN_le _ _ (tgt := 188) dX10_cut_180 (by decide) (pk_sub (by omega)) (rfl) (by omega) (by omega) (fun h180 => ?_) (fun h180 => ?_)
        · refine pw_aload_n dX10_cut_188 rfl ?_
          refine pw_getR fX10_105 dX10_cut_189 (sh_lt hG (by decide)) (sh_tg hG 45 rfl) rfl (gr_at hP 71 rfl) ?_
          refine pw_aload_n dX10_cut_192 rfl ?_
          refine pw_getI fX10_167 dX10_cut_193 (sh_lt hG (by decide)) (sh_tg hG 45 rfl) rfl ?_
          refine pw_laldN i dX10_cut_196 (sh_lt hG (by decide)) (sh_sh hG 77 rfl) (by decide) (hc1 _) (by omega) ?_
          refine pw_tj (z := tk_lc tx (n - b) b 0) (hv' (by omega)) ?_
          refine pw_callS (as := [_]) (kc' := 0) (ks' := 0) lX10_174 dX10_cut_197 rfl rfl (Nat.le_of_ble_eq_true rfl) (by omega) (Nat.le_of_ble_eq_true rfl) (Nat.zero_le _) (Nat.zero_le _) ?_
          refine c_X10_word hG hP ?_
          refine pw_iastN i dX10_cut_200 (by decide) (sh_lt hG (by decide)) (sh_sh hG 75 rfl) (by decide) (hc1 _) (by omega) ?_
          refine pw_goto (tgt := 404) dX10_cut_201 (by decide) ?_
          refine pw_sub [0, 2] rfl ?_
          have hkk : tk_kind tx n b = tk_word (tk_lc tx (n - b) b 0) := by unfold tk_kind; rw [if_pos hle, if_neg (by omega)]
          exact fin _ _ J' (by rw [hki, hkk]) hJ1 (fun _ _ => ⟨by rw [hvi, hv' (by omega)]; unfold tk_core; rw [if_pos hle], by unfold tk_end; rw [if_pos hle], hbn⟩)
        · refine pw_bipush (v := nI 7) dX10_cut_183 (by decide) ?_
          refine pw_goto (tgt := 200) dX10_cut_185 (by decide) ?_
          refine pw_iastN i dX10_cut_200 (by decide) (sh_lt hG (by decide)) (sh_sh hG 75 rfl) (by decide) (hc1 _) (by omega) ?_
          refine pw_goto (tgt := 404) dX10_cut_201 (by decide) ?_
          refine pw_sub [0, 2] rfl ?_
          have hkk : tk_kind tx n b = 1 := by unfold tk_kind; rw [if_pos hle, if_pos (by omega)]
          exact fin 7 _ J' (by rw [hki, hkk]; rfl) hJ1 (fun _ h1 => absurd (hki.trans hkk) h1)
      · have hnl2 : ¬ (97 ≤ tx b ∧ tx b ≤ 122) := fun h => hnl ⟨hbn, h⟩
        refine pw_if_eq (tgt := 204) dX10_cut_109 (by decide) (fun h109 => ?_) (fun h => absurd (by decide) h)
        refine pw_aload_n dX10_cut_204 rfl ?_
        refine pw_iload_n dX10_cut_205 rfl ?_
        refine pw_callV (as := [_]) (kc' := 0) (ks' := 0) lX10_178 dX10_cut_206 rfl rfl (sh_lt hG (by decide)) (sh_tg hG 45 rfl) (Nat.le_of_ble_eq_true rfl) (by omega) (Nat.le_of_ble_eq_true rfl) (Nat.zero_le _) (Nat.zero_le _) ?_
        refine c_X10_isDigit hG hP (hT1 _) (hs1 _) hn (by omega) hb (p := b) (by omega) (fun _ hld => ?_) (fun hnd => ?_)
        · refine pw_if_ne (tgt := 223) dX10_cut_209 (by decide) (fun h209 => ?_) (fun h => absurd h (by decide))
          refine pw_aload_n dX10_cut_223 rfl ?_
          refine pw_getR fX10_7 dX10_cut_224 (sh_lt hG (by decide)) (sh_tg hG 45 rfl) rfl (gr_at hP 40 rfl) ?_
          refine pw_iload_n dX10_cut_227 rfl ?_
          refine pw_ialdN b dX10_cut_228 (sh_lt hG (by decide)) (sh_sh hG 46 rfl) (by decide) (rfl) (by omega) ?_
          refine pw_ti (z := nI (tx b)) (hT1 _ b (by omega)) ?_
          refine pw_bipush (v := nI 36) dX10_cut_229 (by decide) ?_
          refine pw_icmpN_ne _ _ (tgt := 238) dX10_cut_231 (by decide) (rfl) (rfl) (by omega) (by omega) (fun h231 => ?_) (fun h231 => absurd h231 (by omega))
          refine pw_iconst (v := nI 0) dX10_cut_238 (by decide) ?_
          refine pw_istore (lv' := [(4, _), (3, _), (2, _), (1, _), (0, _)]) dX10_cut_239 (by decide) rfl ?_
          refine pw_iload_n dX10_cut_241 rfl ?_
          refine pw_iload dX10_cut_242 rfl ?_
          refine pw_if_eq (tgt := 251) dX10_cut_244 (by decide) (fun h244 => ?_) (fun h => absurd (by decide) h)
          refine pw_iconst (v := nI 0) dX10_cut_251 (by decide) ?_
          refine pw_iadd dX10_cut_252 ?_
          refine pw_ti (z := nI (b)) (nI_add b 0) ?_
          refine pw_istore_n (lv' := [(1, _), (4, _), (3, _), (2, _), (0, _)]) dX10_cut_253 (by decide) rfl ?_
          refine pw_iload_n dX10_cut_254 rfl ?_
          refine pw_istore (lv' := [(5, _), (1, _), (4, _), (3, _), (2, _), (0, _)]) dX10_cut_255 (by decide) rfl ?_
          refine pw_sub [1, 0, 2, 3, 5] rfl ?_
          refine c_X10_de_lp hG hP (hT1 _) (hs1 _) hn (hc1 _) hi60 (by omega) hb (bg := b) (n - (b)) (b) _ 0 (by omega) (Nat.le_refl _) (by rw [pm_u_eq, pm_up_eq]) (fun J' hJ hv' => ?_)
          have hle2 := tk_de_b tx (n - (b)) (b)
          have hJ1 : fr79 J J' i := ⟨fun a ha => by rw [hJ.1 a ha, pm_u_ne ha], fun j hj => by rw [hJ.2 j hj, pm_u_eq, pm_up_ne hj]⟩
          refine pw_aload_n dX10_cut_318 rfl ?_
          refine pw_getR fX10_99 dX10_cut_319 (sh_lt hG (by decide)) (sh_tg hG 45 rfl) rfl (gr_at hP 69 rfl) ?_
          refine pw_aload_n dX10_cut_322 rfl ?_
          refine pw_getI fX10_167 dX10_cut_323 (sh_lt hG (by decide)) (sh_tg hG 45 rfl) rfl ?_
          refine pw_iload_n dX10_cut_326 rfl ?_
          refine pw_iload dX10_cut_327 rfl ?_
          refine pw_icmpN_eq _ _ (tgt := 350) dX10_cut_329 (by decide) (rfl) (rfl) (by omega) (by omega) (fun h329 => ?_) (fun h329 => ?_)
          · refine pw_bipush (v := nI 7) dX10_cut_350 (by decide) ?_
            refine pw_goto (tgt := 365) dX10_cut_352 (by decide) ?_
            refine pw_iastN i dX10_cut_365 (by decide) (sh_lt hG (by decide)) (sh_sh hG 75 rfl) (by decide) (hc1 _) (by omega) ?_
            refine pw_goto (tgt := 404) dX10_cut_366 (by decide) ?_
            refine pw_sub [0, 4] rfl ?_
            have hgt : b < tk_de tx (n - b) b := by
              obtain ⟨k9, hk9⟩ : ∃ k9, n - b = k9 + 1 := ⟨n - b - 1, by omega⟩
              rw [hk9, tk_de_t hld]
              have := tk_de_b tx k9 (b + 1)
              omega
            exact absurd h329 (by omega)
          · refine pw_iload_n dX10_cut_332 rfl ?_
            refine pw_iload dX10_cut_333 rfl ?_
            refine pw_isub dX10_cut_335 ?_
            refine pw_iload dX10_cut_336 rfl ?_
            refine pw_if_eq (tgt := 345) dX10_cut_338 (by decide) (fun h338 => ?_) (fun h => absurd (by decide) h)
            refine pw_bipush (v := nI 18) dX10_cut_345 (by decide) ?_
            refine pw_icmpN_le _ _ (tgt := 355) dX10_cut_347 (by decide) (pk_sub (by omega)) (rfl) (by omega) (by omega) (fun h347 => ?_) (fun h347 => ?_)
            · refine pw_iload dX10_cut_355 rfl ?_
              refine pw_if_eq (tgt := 364) dX10_cut_357 (by decide) (fun h357 => ?_) (fun h => absurd (by decide) h)
              refine pw_iconst (v := nI 2) dX10_cut_364 (by decide) ?_
              refine pw_iastN i dX10_cut_365 (by decide) (sh_lt hG (by decide)) (sh_sh hG 75 rfl) (by decide) (hc1 _) (by omega) ?_
              refine pw_goto (tgt := 404) dX10_cut_366 (by decide) ?_
              refine pw_sub [0, 4] rfl ?_
              have hkk : tk_kind tx n b = 48 := by unfold tk_kind; rw [if_neg hnl2, if_pos hld, if_neg (by omega)]
              exact fin 2 _ J' (by rw [hki, hkk]; rfl) hJ1 (fun _ _ => ⟨by rw [hvi, hv' (by omega)]; unfold tk_core; rw [if_neg hnl2, if_pos hld], by unfold tk_end; rw [if_neg hnl2, if_pos hld], hbn⟩)
            · refine pw_bipush (v := nI 7) dX10_cut_350 (by decide) ?_
              refine pw_goto (tgt := 365) dX10_cut_352 (by decide) ?_
              refine pw_iastN i dX10_cut_365 (by decide) (sh_lt hG (by decide)) (sh_sh hG 75 rfl) (by decide) (hc1 _) (by omega) ?_
              refine pw_goto (tgt := 404) dX10_cut_366 (by decide) ?_
              refine pw_sub [0, 4] rfl ?_
              have hkk : tk_kind tx n b = 1 := by unfold tk_kind; rw [if_neg hnl2, if_pos hld, if_pos (by omega)]
              exact fin 7 _ J' (by rw [hki, hkk]; rfl) hJ1 (fun _ h1 => absurd (hki.trans hkk) h1)
        · have hnd2 : ¬ (48 ≤ tx b ∧ tx b ≤ 57) := fun h => hnd ⟨hbn, h⟩
          refine pw_if_ne (tgt := 223) dX10_cut_209 (by decide) (fun h => absurd (by decide) h) (fun h209 => ?_)
          refine pw_aload_n dX10_cut_212 rfl ?_
          refine pw_getR fX10_7 dX10_cut_213 (sh_lt hG (by decide)) (sh_tg hG 45 rfl) rfl (gr_at hP 40 rfl) ?_
          refine pw_iload_n dX10_cut_216 rfl ?_
          refine pw_ialdN b dX10_cut_217 (sh_lt hG (by decide)) (sh_sh hG 46 rfl) (by decide) (rfl) (by omega) ?_
          refine pw_ti (z := nI (tx b)) (hT1 _ b (by omega)) ?_
          refine pw_bipush (v := nI 36) dX10_cut_218 (by decide) ?_
          refine pw_icmpN_ne _ _ (tgt := 369) dX10_cut_220 (by decide) (rfl) (rfl) (by omega) (by omega) (fun h220 => ?_) (fun h220 => ?_)
          · refine pw_aload_n dX10_cut_369 rfl ?_
            refine pw_getR fX10_99 dX10_cut_370 (sh_lt hG (by decide)) (sh_tg hG 45 rfl) rfl (gr_at hP 69 rfl) ?_
            refine pw_aload_n dX10_cut_373 rfl ?_
            refine pw_getI fX10_167 dX10_cut_374 (sh_lt hG (by decide)) (sh_tg hG 45 rfl) rfl ?_
            refine pw_aload_n dX10_cut_377 rfl ?_
            refine pw_getR fX10_7 dX10_cut_378 (sh_lt hG (by decide)) (sh_tg hG 45 rfl) rfl (gr_at hP 40 rfl) ?_
            refine pw_iload_n dX10_cut_381 rfl ?_
            refine pw_ialdN b dX10_cut_382 (sh_lt hG (by decide)) (sh_sh hG 46 rfl) (by decide) (rfl) (by omega) ?_
            refine pw_ti (z := nI (tx b)) (hT1 _ b (by omega)) ?_
            refine pw_callS (as := [_]) (kc' := 0) (ks' := 0) lX10_185 dX10_cut_383 rfl rfl (Nat.le_of_ble_eq_true rfl) (by omega) (Nat.le_of_ble_eq_true rfl) (Nat.zero_le _) (Nat.zero_le _) ?_
            refine c_X10_isSign hG hP hb1 (fun hsg => ?_) (fun hsg => ?_)
            · refine pw_if_eq (tgt := 398) dX10_cut_386 (by decide) (fun h => absurd h (by decide)) (fun h386 => ?_)
              refine pw_aload_n dX10_cut_389 rfl ?_
              refine pw_getR fX10_7 dX10_cut_390 (sh_lt hG (by decide)) (sh_tg hG 45 rfl) rfl (gr_at hP 40 rfl) ?_
              refine pw_iload_n dX10_cut_393 rfl ?_
              refine pw_ialdN b dX10_cut_394 (sh_lt hG (by decide)) (sh_sh hG 46 rfl) (by decide) (rfl) (by omega) ?_
              refine pw_ti (z := nI (tx b)) (hT1 _ b (by omega)) ?_
              refine pw_goto (tgt := 400) dX10_cut_395 (by decide) ?_
              refine pw_iastN i dX10_cut_400 (by decide) (sh_lt hG (by decide)) (sh_sh hG 75 rfl) (by decide) (hc1 _) (by omega) ?_
              refine pw_iinc (lv' := [(1, _), (3, _), (2, _), (0, _)]) dX10_cut_401 rfl (by decide) rfl ?_
              refine pw_sub [0, 3] rfl ?_
              have hkk : tk_kind tx n b = tx b := by unfold tk_kind; rw [if_neg hnl2, if_neg hnd2, if_neg h220, if_pos hsg]
              have hrk : rk (tx b) = tx b := rk_sig hsg
              rw [show nI b + Int32.ofInt 1 = nI (b + 1) from nI_1 b]
              exact fin (tx b) (b + 1) _ (by rw [hki, hkk, hrk]) hJ0 (fun _ _ => ⟨by rw [hvi, pm_u_eq, pm_up_eq]; unfold tk_core; rw [if_neg hnl2, if_neg hnd2, if_neg h220], by unfold tk_end; rw [if_neg hnl2, if_neg hnd2, if_neg h220], hbn⟩)
            · refine pw_if_eq (tgt := 398) dX10_cut_386 (by decide) (fun h386 => ?_) (fun h => absurd (by decide) h)
              refine pw_bipush (v := nI 7) dX10_cut_398 (by decide) ?_
              refine pw_iastN i dX10_cut_400 (by decide) (sh_lt hG (by decide)) (sh_sh hG 75 rfl) (by decide) (hc1 _) (by omega) ?_
              refine pw_iinc (lv' := [(1, _), (3, _), (2, _), (0, _)]) dX10_cut_401 rfl (by decide) rfl ?_
              refine pw_sub [0, 3] rfl ?_
              have hkk : tk_kind tx n b = 1 := by unfold tk_kind; rw [if_neg hnl2, if_neg hnd2, if_neg h220, if_neg (by rw [hsg]; decide)]
              rw [show nI b + Int32.ofInt 1 = nI (b + 1) from nI_1 b]
              exact fin 7 (b + 1) _ (by rw [hki, hkk]; rfl) hJ0 (fun _ h1 => absurd (hki.trans hkk) h1)
          · refine pw_aload_n dX10_cut_223 rfl ?_
            refine pw_getR fX10_7 dX10_cut_224 (sh_lt hG (by decide)) (sh_tg hG 45 rfl) rfl (gr_at hP 40 rfl) ?_
            refine pw_iload_n dX10_cut_227 rfl ?_
            refine pw_ialdN b dX10_cut_228 (sh_lt hG (by decide)) (sh_sh hG 46 rfl) (by decide) (rfl) (by omega) ?_
            refine pw_ti (z := nI (tx b)) (hT1 _ b (by omega)) ?_
            refine pw_bipush (v := nI 36) dX10_cut_229 (by decide) ?_
            refine pw_icmpN_ne _ _ (tgt := 238) dX10_cut_231 (by decide) (rfl) (rfl) (by omega) (by omega) (fun h231 => absurd h231 (by omega)) (fun h231 => ?_)
            refine pw_iconst (v := nI 1) dX10_cut_234 (by decide) ?_
            refine pw_goto (tgt := 239) dX10_cut_235 (by decide) ?_
            refine pw_istore (lv' := [(4, _), (3, _), (2, _), (1, _), (0, _)]) dX10_cut_239 (by decide) rfl ?_
            refine pw_iload_n dX10_cut_241 rfl ?_
            refine pw_iload dX10_cut_242 rfl ?_
            refine pw_if_eq (tgt := 251) dX10_cut_244 (by decide) (fun h => absurd h (by decide)) (fun h244 => ?_)
            refine pw_iconst (v := nI 1) dX10_cut_247 (by decide) ?_
            refine pw_goto (tgt := 252) dX10_cut_248 (by decide) ?_
            refine pw_iadd dX10_cut_252 ?_
            refine pw_ti (z := nI (b + 1)) (nI_add b 1) ?_
            refine pw_istore_n (lv' := [(1, _), (4, _), (3, _), (2, _), (0, _)]) dX10_cut_253 (by decide) rfl ?_
            refine pw_iload_n dX10_cut_254 rfl ?_
            refine pw_istore (lv' := [(5, _), (1, _), (4, _), (3, _), (2, _), (0, _)]) dX10_cut_255 (by decide) rfl ?_
            refine pw_sub [1, 0, 2, 3, 5] rfl ?_
            refine c_X10_de_lp hG hP (hT1 _) (hs1 _) hn (hc1 _) hi60 (by omega) hb (bg := b + 1) (n - (b + 1)) (b + 1) _ 0 (by omega) (Nat.le_refl _) (by rw [pm_u_eq, pm_up_eq]) (fun J' hJ hv' => ?_)
            have hle2 := tk_de_b tx (n - (b + 1)) (b + 1)
            have hJ1 : fr79 J J' i := ⟨fun a ha => by rw [hJ.1 a ha, pm_u_ne ha], fun j hj => by rw [hJ.2 j hj, pm_u_eq, pm_up_ne hj]⟩
            refine pw_aload_n dX10_cut_318 rfl ?_
            refine pw_getR fX10_99 dX10_cut_319 (sh_lt hG (by decide)) (sh_tg hG 45 rfl) rfl (gr_at hP 69 rfl) ?_
            refine pw_aload_n dX10_cut_322 rfl ?_
            refine pw_getI fX10_167 dX10_cut_323 (sh_lt hG (by decide)) (sh_tg hG 45 rfl) rfl ?_
            refine pw_iload_n dX10_cut_326 rfl ?_
            refine pw_iload dX10_cut_327 rfl ?_
            refine pw_icmpN_eq _ _ (tgt := 350) dX10_cut_329 (by decide) (rfl) (rfl) (by omega) (by omega) (fun h329 => ?_) (fun h329 => ?_)
            · refine pw_bipush (v := nI 7) dX10_cut_350 (by decide) ?_
              refine pw_goto (tgt := 365) dX10_cut_352 (by decide) ?_
              refine pw_iastN i dX10_cut_365 (by decide) (sh_lt hG (by decide)) (sh_sh hG 75 rfl) (by decide) (hc1 _) (by omega) ?_
              refine pw_goto (tgt := 404) dX10_cut_366 (by decide) ?_
              refine pw_sub [0, 4] rfl ?_
              have hkk : tk_kind tx n b = 1 := by unfold tk_kind; rw [if_neg hnl2, if_neg hnd2, if_pos h220, if_pos (Or.inl h329)]
              exact fin 7 _ J' (by rw [hki, hkk]; rfl) hJ1 (fun _ h1 => absurd (hki.trans hkk) h1)
            · refine pw_iload_n dX10_cut_332 rfl ?_
              refine pw_iload dX10_cut_333 rfl ?_
              refine pw_isub dX10_cut_335 ?_
              refine pw_iload dX10_cut_336 rfl ?_
              refine pw_if_eq (tgt := 345) dX10_cut_338 (by decide) (fun h => absurd h (by decide)) (fun h338 => ?_)
              refine pw_iconst (v := nI 3) dX10_cut_341 (by decide) ?_
              refine pw_goto (tgt := 347) dX10_cut_342 (by decide) ?_
              refine pw_icmpN_le _ _ (tgt := 355) dX10_cut_347 (by decide) (pk_sub (by omega)) (rfl) (by omega) (by omega) (fun h347 => ?_) (fun h347 => ?_)
              · refine pw_iload dX10_cut_355 rfl ?_
                refine pw_if_eq (tgt := 364) dX10_cut_357 (by decide) (fun h => absurd h (by decide)) (fun h357 => ?_)
                refine pw_iconst (v := nI 3) dX10_cut_360 (by decide) ?_
                refine pw_goto (tgt := 365) dX10_cut_361 (by decide) ?_
                refine pw_iastN i dX10_cut_365 (by decide) (sh_lt hG (by decide)) (sh_sh hG 75 rfl) (by decide) (hc1 _) (by omega) ?_
                refine pw_goto (tgt := 404) dX10_cut_366 (by decide) ?_
                refine pw_sub [0, 4] rfl ?_
                have hkk : tk_kind tx n b = 36 := by unfold tk_kind; rw [if_neg hnl2, if_neg hnd2, if_pos h220, if_neg (by omega)]
                exact fin 3 _ J' (by rw [hki, hkk]; rfl) hJ1 (fun _ _ => ⟨by rw [hvi, hv' (by omega)]; unfold tk_core; rw [if_neg hnl2, if_neg hnd2, if_pos h220], by unfold tk_end; rw [if_neg hnl2, if_neg hnd2, if_pos h220], hbn⟩)
              · refine pw_bipush (v := nI 7) dX10_cut_350 (by decide) ?_
                refine pw_goto (tgt := 365) dX10_cut_352 (by decide) ?_
                refine pw_iastN i dX10_cut_365 (by decide) (sh_lt hG (by decide)) (sh_sh hG 75 rfl) (by decide) (hc1 _) (by omega) ?_
                refine pw_goto (tgt := 404) dX10_cut_366 (by decide) ?_
                refine pw_sub [0, 4] rfl ?_
                have hkk : tk_kind tx n b = 1 := by unfold tk_kind; rw [if_neg hnl2, if_neg hnd2, if_pos h220, if_pos (Or.inr (by omega))]
                exact fin 7 _ J' (by rw [hki, hkk]; rfl) hJ1 (fun _ h1 => absurd (hki.trans hkk) h1)
    · refine pw_aload_n dX10_cut_90 rfl ?_
      refine pw_getR fX10_99 dX10_cut_91 (sh_lt hG (by decide)) (sh_tg hG 45 rfl) rfl (gr_at hP 69 rfl) ?_
      refine pw_aload_n dX10_cut_94 rfl ?_
      refine pw_getI fX10_167 dX10_cut_95 (sh_lt hG (by decide)) (sh_tg hG 45 rfl) rfl ?_
      refine pw_bipush (v := nI 7) dX10_cut_98 (by decide) ?_
      refine pw_iastN i dX10_cut_100 (by decide) (sh_lt hG (by decide)) (sh_sh hG 75 rfl) (by decide) (hc1 _) (by omega) ?_
      refine pw_goto (tgt := 404) dX10_cut_101 (by decide) ?_
      refine pw_sub [2, 3] rfl ?_
      have e60 : tk_k tx n i = 1 := by
        have e : i = 60 := h87
        subst e
        exact tk_k_60 (by omega)
      exact fin 7 b _ (by rw [e60]; rfl) hJ0 (fun _ h1 => absurd e60 h1)
  · refine pw_aload_n dX10_cut_68 rfl ?_
    refine pw_getR fX10_99 dX10_cut_69 (sh_lt hG (by decide)) (sh_tg hG 45 rfl) rfl (gr_at hP 69 rfl) ?_
    refine pw_aload_n dX10_cut_72 rfl ?_
    refine pw_getI fX10_167 dX10_cut_73 (sh_lt hG (by decide)) (sh_tg hG 45 rfl) rfl ?_
    refine pw_iconst (v := nI 0) dX10_cut_76 (by decide) ?_
    refine pw_iastN i dX10_cut_77 (by decide) (sh_lt hG (by decide)) (sh_sh hG 75 rfl) (by decide) (hc1 _) (by omega) ?_
    refine pw_goto (tgt := 404) dX10_cut_78 (by decide) ?_
    refine pw_sub [2, 3] rfl ?_
    have e0 : tk_k tx n i = 0 := if_neg (by omega)
    exact fin 0 b _ (by rw [e0]; rfl) hJ0 (fun h0 _ => absurd e0 h0)
set_option maxRecDepth 20000 in
set_option maxHeartbeats 4000000 in
theorem c_X10_cut {l : Launch} {E : pmE} {d : Nat} {S : pmS} {I : pmI} {J : pmJ} {P : pmP} {Q : Option Value → pmS → pmI → pmJ → pmP → Prop} (hG : sh_St S) (hP : gr_St P) {tx : Nat → Nat} {n : Nat} (hT : tX I 48 tx n) (hs : I 47 2 = nI n) (hn : n ≤ 120) (hb : ∀ j, j < n → tx j < 128) (hd : 8 ≤ d) (kk : (∀ e I' J', rC tx n I' J' e → fr47 I I' J J' → Q none S I' J' P)) : pm_Met l E yX10_cut cX10_cut 6 none d 0 0 [.ref 47] S I J P Q := by
  unfold pm_Met
  refine pm_lvs (lv' := [(0, _)]) rfl ?_
  refine pw_aload_n dX10_cut_0 rfl ?_
  refine pw_iconst (v := nI 0) dX10_cut_1 (by decide) ?_
  refine pw_putI fX10_167 dX10_cut_2 (Or.inl rfl) (by decide) (sh_lt hG (by decide)) (sh_tg hG 45 rfl) rfl ?_
  refine pw_iconst (v := nI 0) dX10_cut_5 (by decide) ?_
  refine pw_istore_n (lv' := [(1, _), (0, _)]) dX10_cut_6 (by decide) rfl ?_
  refine pw_iconst (v := nI 1) dX10_cut_7 (by decide) ?_
  refine pw_istore_n (lv' := [(2, _), (1, _), (0, _)]) dX10_cut_8 (by decide) rfl ?_
  refine pw_iload_n dX10_cut_9 rfl ?_
  refine pw_if_eq (tgt := 449) dX10_cut_10 (by decide) (fun h => absurd h (by decide)) (fun h10 => ?_)
  refine pw_sub [0, 1, 2] rfl ?_
  exact c_X10_cut_lp (Ib := I) (Jb := J) hG hP hn hb hd kk 60 0 0 _ _ (by omega) (by omega) rfl (fun j hj => by rw [pm_u_ne (by decide)]; exact hT j hj) (by rw [pm_u_eq, pm_up_ne (by decide)]; exact hs) ⟨fun a h1 _ _ => pm_u_ne h1, fun k hk => by rw [pm_u_eq, pm_up_ne hk], fun _ _ => rfl⟩ ⟨by rw [pm_u_eq, pm_up_eq], fun j hj => absurd hj (Nat.not_lt_zero j)⟩
