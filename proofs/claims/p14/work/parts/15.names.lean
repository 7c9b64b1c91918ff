set_option maxRecDepth 20000 in
set_option maxHeartbeats 4000000 in
theorem c_X2_find_lp {l : Launch} {E : pmE} {d : Nat} {S : pmS} {I : pmI} {J : pmJ} {P : pmP} {Q : Option Value → pmS → pmI → pmJ → pmP → Prop} (hG : sh_St S) (hP : gr_St P) {x : Int64} {n : Nat} (hn : I 16 4 = nI n) (hn2 : n ≤ 40) (k1 : ∀ j, j < n → J 17 j = x → (∀ i, i < j → ¬ J 17 i = x) → Q (some (.int (nI j))) S I J P) (k0 : (∀ i, i < n → ¬ J 17 i = x) → Q (some (.int (-5))) S I J P) : ∀ (t j : Nat), j + t = n → (∀ i, i < j → ¬ J 17 i = x) → pm_W l E yX2_find cX2_find 4 (some .int) d 0 0 2 [(3, .int (nI j)), (0, .ref 16), (1, .long x)] [] S I J P (pm_N E Q)
  | 0, j, hj, hb => by
    refine pw_iload_n dX2_find_2 rfl ?_
    refine pw_aload_n dX2_find_3 rfl ?_
    refine pw_getI fX2_25 dX2_find_4 (sh_lt hG (by decide)) (sh_tg hG 14 rfl) rfl ?_
    refine pw_icmpN_ge _ _ (tgt := 29) dX2_find_7 (by decide) (rfl) (hn) (by omega) (by omega) (fun h7 => ?_) (fun h7 => absurd h7 (by omega))
    refine pw_bipush (v := -5) dX2_find_29 (by decide) ?_
    exact pw_iret dX2_find_31 rfl (k0 (fun i hi => hb i (by omega)))
  | t + 1, j, hj, hb => by
    refine pw_iload_n dX2_find_2 rfl ?_
    refine pw_aload_n dX2_find_3 rfl ?_
    refine pw_getI fX2_25 dX2_find_4 (sh_lt hG (by decide)) (sh_tg hG 14 rfl) rfl ?_
    refine pw_icmpN_ge _ _ (tgt := 29) dX2_find_7 (by decide) (rfl) (hn) (by omega) (by omega) (fun h7 => absurd h7 (by omega)) (fun h7 => ?_)
    refine pw_aload_n dX2_find_10 rfl ?_
    refine pw_getR fX2_11 dX2_find_11 (sh_lt hG (by decide)) (sh_tg hG 14 rfl) rfl (gr_at hP 20 rfl) ?_
    refine pw_iload_n dX2_find_14 rfl ?_
    refine pw_laldN _ dX2_find_15 (sh_lt hG (by decide)) (sh_sh hG 15 rfl) (by decide) (rfl) (by omega) ?_
    refine pw_lload_n dX2_find_16 rfl ?_
    refine pw_lif_ne (tgt := 23) dX2_find_17 dX2_find_18 (by decide) (fun h18 => ?_) (fun h18 => ?_)
    · refine pw_iinc (lv' := [(3, _), (0, _), (1, _)]) dX2_find_23 rfl (by decide) rfl ?_
      refine pw_goto (tgt := 2) dX2_find_26 (by decide) ?_
      refine pw_sub [0, 1, 2] rfl ?_
      rw [show nI j + Int32.ofInt 1 = nI (j + 1) from nI_1 j]
      exact c_X2_find_lp hG hP hn hn2 k1 k0 t (j + 1) (by omega) (fun i hi => by
        rcases Nat.lt_or_ge i j with h | h
        · exact hb i h
        · have e : i = j := by omega
          subst e; exact h18)
    · refine pw_iload_n dX2_find_21 rfl ?_
      exact pw_iret dX2_find_22 rfl (k1 j (by omega) h18 hb)
set_option maxRecDepth 20000 in
set_option maxHeartbeats 4000000 in
theorem c_X2_find {l : Launch} {E : pmE} {d : Nat} {S : pmS} {I : pmI} {J : pmJ} {P : pmP} {Q : Option Value → pmS → pmI → pmJ → pmP → Prop} (hG : sh_St S) (hP : gr_St P) {x : Int64} {n : Nat} (hn : I 16 4 = nI n) (hn2 : n ≤ 40) (k1 : ∀ j, j < n → J 17 j = x → (∀ i, i < j → ¬ J 17 i = x) → Q (some (.int (nI j))) S I J P) (k0 : (∀ i, i < n → ¬ J 17 i = x) → Q (some (.int (-5))) S I J P) : pm_Met l E yX2_find cX2_find 4 (some .int) d 0 0 [.ref 16, .long x] S I J P Q := by
  unfold pm_Met
  refine pm_lvs (lv' := [(0, _), (1, _)]) rfl ?_
  refine pw_iconst (v := nI 0) dX2_find_0 (by decide) ?_
  refine pw_istore_n (lv' := [(3, _), (0, _), (1, _)]) dX2_find_1 (by decide) rfl ?_
  refine pw_sub [0, 1, 2] rfl ?_
  exact c_X2_find_lp hG hP hn hn2 k1 k0 n 0 (by omega) (fun i hi => absurd hi (Nat.not_lt_zero i))
set_option maxRecDepth 20000 in
set_option maxHeartbeats 4000000 in
theorem c_X10_nameOf_lp {l : Launch} {E : pmE} {d : Nat} {S : pmS} {I : pmI} {J : pmJ} {P : pmP} {Q : Option Value → pmS → pmI → pmJ → pmP → Prop} (hG : sh_St S) (hP : gr_St P) {x : Int64} {n : Nat} (hn : I 47 3 = nI n) (hn2 : n ≤ 40) (k1 : ∀ j, j < n → J 49 j = x → (∀ i, i < j → ¬ J 49 i = x) → Q (some (.int (nI j))) S I J P) (k0 : (∀ i, i < n → ¬ J 49 i = x) → Q (some (.int (-5))) S I J P) : ∀ (t j : Nat), j + t = n → (∀ i, i < j → ¬ J 49 i = x) → pm_W l E yX10_nameOf cX10_nameOf 4 (some .int) d 0 0 2 [(3, .int (nI j)), (0, .ref 47), (1, .long x)] [] S I J P (pm_N E Q)
  | 0, j, hj, hb => by
    refine pw_iload_n dX10_nameOf_2 rfl ?_
    refine pw_aload_n dX10_nameOf_3 rfl ?_
    refine pw_getI fX10_273 dX10_nameOf_4 (sh_lt hG (by decide)) (sh_tg hG 45 rfl) rfl ?_
    refine pw_icmpN_ge _ _ (tgt := 29) dX10_nameOf_7 (by decide) (rfl) (hn) (by omega) (by omega) (fun h7 => ?_) (fun h7 => absurd h7 (by omega))
    refine pw_bipush (v := -5) dX10_nameOf_29 (by decide) ?_
    exact pw_iret dX10_nameOf_31 rfl (k0 (fun i hi => hb i (by omega)))
  | t + 1, j, hj, hb => by
    refine pw_iload_n dX10_nameOf_2 rfl ?_
    refine pw_aload_n dX10_nameOf_3 rfl ?_
    refine pw_getI fX10_273 dX10_nameOf_4 (sh_lt hG (by decide)) (sh_tg hG 45 rfl) rfl ?_
    refine pw_icmpN_ge _ _ (tgt := 29) dX10_nameOf_7 (by decide) (rfl) (hn) (by omega) (by omega) (fun h7 => absurd h7 (by omega)) (fun h7 => ?_)
    refine pw_aload_n dX10_nameOf_10 rfl ?_
    refine pw_getR fX10_13 dX10_nameOf_11 (sh_lt hG (by decide)) (sh_tg hG 45 rfl) rfl (gr_at hP 41 rfl) ?_
    refine pw_iload_n dX10_nameOf_14 rfl ?_
    refine pw_laldN _ dX10_nameOf_15 (sh_lt hG (by decide)) (sh_sh hG 47 rfl) (by decide) (rfl) (by omega) ?_
    refine pw_lload_n dX10_nameOf_16 rfl ?_
    refine pw_lif_ne (tgt := 23) dX10_nameOf_17 dX10_nameOf_18 (by decide) (fun h18 => ?_) (fun h18 => ?_)
    · refine pw_iinc (lv' := [(3, _), (0, _), (1, _)]) dX10_nameOf_23 rfl (by decide) rfl ?_
      refine pw_goto (tgt := 2) dX10_nameOf_26 (by decide) ?_
      refine pw_sub [0, 1, 2] rfl ?_
      rw [show nI j + Int32.ofInt 1 = nI (j + 1) from nI_1 j]
      exact c_X10_nameOf_lp hG hP hn hn2 k1 k0 t (j + 1) (by omega) (fun i hi => by
        rcases Nat.lt_or_ge i j with h | h
        · exact hb i h
        · have e : i = j := by omega
          subst e; exact h18)
    · refine pw_iload_n dX10_nameOf_21 rfl ?_
      exact pw_iret dX10_nameOf_22 rfl (k1 j (by omega) h18 hb)
set_option maxRecDepth 20000 in
set_option maxHeartbeats 4000000 in
theorem c_X10_nameOf {l : Launch} {E : pmE} {d : Nat} {S : pmS} {I : pmI} {J : pmJ} {P : pmP} {Q : Option Value → pmS → pmI → pmJ → pmP → Prop} (hG : sh_St S) (hP : gr_St P) {x : Int64} {n : Nat} (hn : I 47 3 = nI n) (hn2 : n ≤ 40) (k1 : ∀ j, j < n → J 49 j = x → (∀ i, i < j → ¬ J 49 i = x) → Q (some (.int (nI j))) S I J P) (k0 : (∀ i, i < n → ¬ J 49 i = x) → Q (some (.int (-5))) S I J P) : pm_Met l E yX10_nameOf cX10_nameOf 4 (some .int) d 0 0 [.ref 47, .long x] S I J P Q := by
  unfold pm_Met
  refine pm_lvs (lv' := [(0, _), (1, _)]) rfl ?_
  refine pw_iconst (v := nI 0) dX10_nameOf_0 (by decide) ?_
  refine pw_istore_n (lv' := [(3, _), (0, _), (1, _)]) dX10_nameOf_1 (by decide) rfl ?_
  refine pw_sub [0, 1, 2] rfl ?_
  exact c_X10_nameOf_lp hG hP hn hn2 k1 k0 n 0 (by omega) (fun i hi => absurd hi (Nat.not_lt_zero i))
/-- the letters that a word tells, as the reference packs them: bytes 0 passed over -/
def nm_pk (w : Int64) : Nat → Int64 → Int64
  | 0, v => v
  | j + 1, v => if by_t w j = 0 then nm_pk w j v else nm_pk w j (v <<< ((8 : Int32).toInt64 &&& 63) ||| lN (by_t w j))
theorem nm_p0 {w : Int64} {j : Nat} {v : Int64} (h : by_t w j = 0) : nm_pk w (j + 1) v = nm_pk w j v := if_pos h
theorem nm_p1 {w : Int64} {j : Nat} {v : Int64} (h : ¬ by_t w j = 0) : nm_pk w (j + 1) v = nm_pk w j (v <<< ((8 : Int32).toInt64 &&& 63) ||| lN (by_t w j)) := if_neg h
theorem by_l0 (w : Int64) {j : Nat} (hj : j < 8) : ((w >>> ((nI (8 * j)).toInt64 &&& 63)) &&& 255 = 0) ↔ by_t w j = 0 := by
  rw [by_l w hj]
  have h := by_lt w j
  exact lN_eq (a := by_t w j) (b := 0) (by omega) (by decide)

set_option maxRecDepth 20000 in
set_option maxHeartbeats 4000000 in
theorem c_X10_name_lp {l : Launch} {E : pmE} {d : Nat} {S : pmS} {I : pmI} {J : pmJ} {P : pmP} {Q : Option Value → pmS → pmI → pmJ → pmP → Prop} (hG : sh_St S) (hP : gr_St P) {w : Int64} : ∀ (j : Nat) (v : Int64), j ≤ 8 → pm_W l E yX10_name cX10_name 6 (some .int) d 0 0 53 [(5, .int (sg_sh 0)), (3, .long (nm_pk w j v)), (0, .ref 47), (1, .long w)] [] S I J P (pm_N E Q) → pm_W l E yX10_name cX10_name 6 (some .int) d 0 0 11 [(5, .int (sg_sh j)), (3, .long v), (0, .ref 47), (1, .long w)] [] S I J P (pm_N E Q)
  | 0, v, hj, kk => by
    refine pw_iload dX10_name_11 rfl ?_
    refine pw_if_lt (tgt := 53) dX10_name_13 (by decide) (fun h13 => ?_) (fun h => absurd (sg_sh0) h)
    exact kk
  | j + 1, v, hj, kk => by
    have hj : j < 8 := hj
    rw [sg_sh_s hj]
    by_cases hz : by_t w j = 0
    · refine pw_iload dX10_name_11 rfl ?_
      refine pw_if_lt (tgt := 53) dX10_name_13 (by decide) (fun h => absurd h (nI_pos (by omega))) (fun h13 => ?_)
      refine pw_lload_n dX10_name_16 rfl ?_
      refine pw_iload dX10_name_17 rfl ?_
      refine pw_lshr dX10_name_19 ?_
      refine pw_ldc2 dX10_name_20 kX10_158 ?_
      refine pw_land dX10_name_23 ?_
      refine pw_lconst (v := 0) dX10_name_24 (by decide) ?_
      refine pw_lif_eq (tgt := 45) dX10_name_25 dX10_name_26 (by decide) (fun h26 => ?_) (fun h => absurd ((by_l0 w hj).mpr hz) h)
      refine pw_lload_n dX10_name_45 rfl ?_
      refine pw_lstore_n (lv' := [(3, _), (5, _), (0, _), (1, _)]) dX10_name_46 (by decide) rfl ?_
      refine pw_iinc (lv' := [(5, _), (3, _), (0, _), (1, _)]) dX10_name_47 rfl (by decide) rfl ?_
      refine pw_goto (tgt := 11) dX10_name_50 (by decide) ?_
      refine pw_sub [0, 1, 2, 3] rfl ?_
      rw [sg_dec2 hj]
      exact c_X10_name_lp hG hP j _ (by omega) (by rw [nm_p0 hz] at kk; exact kk)
    · refine pw_iload dX10_name_11 rfl ?_
      refine pw_if_lt (tgt := 53) dX10_name_13 (by decide) (fun h => absurd h (nI_pos (by omega))) (fun h13 => ?_)
      refine pw_lload_n dX10_name_16 rfl ?_
      refine pw_iload dX10_name_17 rfl ?_
      refine pw_lshr dX10_name_19 ?_
      refine pw_ldc2 dX10_name_20 kX10_158 ?_
      refine pw_land dX10_name_23 ?_
      refine pw_lconst (v := 0) dX10_name_24 (by decide) ?_
      refine pw_lif_eq (tgt := 45) dX10_name_25 dX10_name_26 (by decide) (fun h => absurd h (mt (by_l0 w hj).mp hz)) (fun h26 => ?_)
      refine pw_lload_n dX10_name_29 rfl ?_
      refine pw_bipush (v := nI 8) dX10_name_30 (by decide) ?_
      refine pw_lshl dX10_name_32 ?_
      refine pw_lload_n dX10_name_33 rfl ?_
      refine pw_iload dX10_name_34 rfl ?_
      refine pw_lshr dX10_name_36 ?_
      refine pw_ldc2 dX10_name_37 kX10_158 ?_
      refine pw_land dX10_name_40 ?_
      refine pw_lor dX10_name_41 ?_
      refine pw_goto (tgt := 46) dX10_name_42 (by decide) ?_
      refine pw_tj (z := v <<< ((8 : Int32).toInt64 &&& 63) ||| lN (by_t w j)) (by rw [by_l w hj]; rfl) ?_
      refine pw_lstore_n (lv' := [(3, _), (5, _), (0, _), (1, _)]) dX10_name_46 (by decide) rfl ?_
      refine pw_iinc (lv' := [(5, _), (3, _), (0, _), (1, _)]) dX10_name_47 rfl (by decide) rfl ?_
      refine pw_goto (tgt := 11) dX10_name_50 (by decide) ?_
      refine pw_sub [0, 1, 2, 3] rfl ?_
      rw [sg_dec2 hj]
      exact c_X10_name_lp hG hP j _ (by omega) (by rw [nm_p1 hz] at kk; exact kk)
set_option maxRecDepth 20000 in
set_option maxHeartbeats 4000000 in
theorem c_X10_name {l : Launch} {E : pmE} {d : Nat} {S : pmS} {I : pmI} {J : pmJ} {P : pmP} {Q : Option Value → pmS → pmI → pmJ → pmP → Prop} (hG : sh_St S) (hP : gr_St P) {w : Int64} {n : Nat} (hd : 2 ≤ d) (hn : I 47 3 = nI n) (hn2 : n ≤ 40) (k1 : ∀ j, j < n → J 49 j = nm_pk w 8 0 → (∀ i, i < j → ¬ J 49 i = nm_pk w 8 0) → ¬ nm_pk w 8 0 = 0 → Q (some (.int (nI j))) S (pm_u I 47 0 (nI 0)) J P) (k0 : nm_pk w 8 0 = 0 ∨ (∀ i, i < n → ¬ J 49 i = nm_pk w 8 0) → Q (some (.int (-5))) S (pm_u I 47 0 (nI 0)) J P) : pm_Met l E yX10_name cX10_name 6 (some .int) d 0 0 [.ref 47, .long w] S I J P Q := by
  unfold pm_Met
  refine pm_lvs (lv' := [(0, _), (1, _)]) rfl ?_
  refine pw_aload_n dX10_name_0 rfl ?_
  refine pw_iconst (v := nI 0) dX10_name_1 (by decide) ?_
  refine pw_putI fX10_154 dX10_name_2 (Or.inl rfl) (by decide) (sh_lt hG (by decide)) (sh_tg hG 45 rfl) rfl ?_
  refine pw_lconst (v := 0) dX10_name_5 (by decide) ?_
  refine pw_lstore_n (lv' := [(3, _), (0, _), (1, _)]) dX10_name_6 (by decide) rfl ?_
  refine pw_bipush (v := nI 56) dX10_name_7 (by decide) ?_
  refine pw_istore (lv' := [(5, _), (3, _), (0, _), (1, _)]) dX10_name_9 (by decide) rfl ?_
  refine pw_sub [0, 1, 2, 3] rfl ?_
  rw [sg_sh8]
  refine c_X10_name_lp hG hP 8 _ (by decide) ?_
  refine pw_lload_n dX10_name_53 rfl ?_
  refine pw_lconst (v := 0) dX10_name_54 (by decide) ?_
  refine pw_lif_ne (tgt := 64) dX10_name_55 dX10_name_56 (by decide) (fun h56 => ?_) (fun h56 => ?_)
  · refine pw_aload_n dX10_name_64 rfl ?_
    refine pw_lload_n dX10_name_65 rfl ?_
    refine pw_callV (as := [_]) (kc' := 0) (ks' := 0) lX10_276 dX10_name_66 rfl rfl (sh_lt hG (by decide)) (sh_tg hG 45 rfl) (Nat.le_of_ble_eq_true rfl) (by omega) (Nat.le_of_ble_eq_true rfl) (Nat.zero_le _) (Nat.zero_le _) ?_
    refine c_X10_nameOf hG hP (n := n) (by rw [pm_u_eq, pm_up_ne (by decide)]; exact hn) hn2 (fun j h1 h2 h3 => ?_) (fun h1 => ?_)
    · exact pw_iret dX10_name_69 rfl (k1 j h1 h2 h3 h56)
    · exact pw_iret dX10_name_69 rfl (k0 (Or.inr h1))
  · refine pw_bipush (v := -5) dX10_name_59 (by decide) ?_
    refine pw_goto (tgt := 69) dX10_name_61 (by decide) ?_
    exact pw_iret dX10_name_69 rfl (k0 (Or.inl h56))