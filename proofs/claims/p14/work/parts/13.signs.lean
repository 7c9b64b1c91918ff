theorem pm_pick (ad : Nat → Nat) (lv : List (Nat × Value)) (ks : List Nat) : lv_pick (pm_lv ad lv) ks = pm_lv ad (lv_pick lv ks) := by
  unfold lv_pick pm_lv
  rw [List.map_filterMap]
  congr 1
  funext k
  rw [List.getElem?_map]
theorem pw_sub {l : Launch} {E : pmE} {y : MethodName} {cc : ByteArray} {nL : Nat} {ret : Option FieldType} {d kc ks pc : Nat} {lv lv' : List (Nat × Value)} {st : List Value} {S : pmS} {I : pmI} {J : pmJ} {P : pmP} {Q : pm_Z} (is : List Nat) (h : lv_pick lv is = lv') (k : pm_W l E y cc nL ret d kc ks pc lv' st S I J P Q) : pm_W l E y cc nL ret d kc ks pc lv st S I J P Q := by
  intro p e R s m args below meth c H locs cells slots mc ms ls C hr hl0 hR hv
  exact k p e R s m args below meth c H locs cells slots mc ms ls C hr hl0 hR (lv_sub hv is (by rw [pm_pick, h]))
/-- shift counters: j bytes are left -/
def sg_sh (j : Nat) : Int32 := nI (8 * j) - 8
theorem sg_sh0 : sg_sh 0 < 0 := by decide
theorem sg_sh8 : nI 56 = sg_sh 8 := by decide
theorem sg_sh_s {j : Nat} (hj : j < 8) : sg_sh (j + 1) = nI (8 * j) := by
  unfold sg_sh
  rw [show (8 : Int32) = nI 8 from rfl, pk_sub (by omega)]
  congr 1
theorem sg_dec {j : Nat} (hj : j < 8) : sg_sh (j + 1) + Int32.ofInt (-8) = sg_sh j := by
  have h : ∀ j, j < 8 → sg_sh (j + 1) + Int32.ofInt (-8) = sg_sh j := by decide
  exact h j hj
theorem sg_dec2 {j : Nat} (hj : j < 8) : nI (8 * j) + Int32.ofInt (-8) = sg_sh j := by
  rw [← sg_sh_s hj, sg_dec hj]
def sg_ok (b : Nat) : Prop := b = 0 ∨ (32 ≤ b ∧ b ≤ 126)
def sg_all (w : Int64) (j : Nat) : Prop := ∀ i, i < j → sg_ok (by_t w i)
/-- how many of the lowest j bytes are not 0 -/
def sg_cnt (w : Int64) : Nat → Nat
  | 0 => 0
  | j + 1 => sg_cnt w j + (if by_t w j = 0 then 0 else 1)
theorem sg_cnt_le (w : Int64) : ∀ j, sg_cnt w j ≤ j
  | 0 => Nat.le_refl 0
  | j + 1 => by
    have := sg_cnt_le w j
    unfold sg_cnt
    split <;> omega
/-- the lowest j bytes laid behind n signs, the highest first -/
def sg_put (w : Int64) : Nat → (Nat → Int32) → Nat → (Nat → Int32)
  | 0, f, _ => f
  | j + 1, f, n => if by_t w j = 0 then sg_put w j f n else sg_put w j (va_up f n (nI (by_t w j))) (n + 1)
theorem sg_all_s {w : Int64} {j : Nat} (h : sg_all w j) (hb : sg_ok (by_t w j)) : sg_all w (j + 1) := fun i hi => by
  rcases Nat.lt_or_ge i j with h1 | h1
  · exact h i h1
  · have : i = j := by omega
    subst this; exact hb
theorem sg_c0 {w : Int64} {j : Nat} (h : by_t w j = 0) : sg_cnt w (j + 1) = sg_cnt w j := by show _ + (if _ then _ else _) = _; rw [if_pos h, Nat.add_zero]
theorem sg_c1 {w : Int64} {j : Nat} (h : ¬ by_t w j = 0) : sg_cnt w (j + 1) = sg_cnt w j + 1 := by show _ + (if _ then _ else _) = _; rw [if_neg h]
theorem sg_p0 {w : Int64} {j n : Nat} {f : Nat → Int32} (h : by_t w j = 0) : sg_put w (j + 1) f n = sg_put w j f n := if_pos h
theorem sg_p1 {w : Int64} {j n : Nat} {f : Nat → Int32} (h : ¬ by_t w j = 0) : sg_put w (j + 1) f n = sg_put w j (va_up f n (nI (by_t w j))) (n + 1) := if_neg h

set_option maxRecDepth 20000 in
set_option maxHeartbeats 4000000 in
theorem c_X9_byteOf {l : Launch} {E : pmE} {d : Nat} {S : pmS} {I : pmI} {J : pmJ} {P : pmP} {Q : Option Value → pmS → pmI → pmJ → pmP → Prop} {w : Int64} {j : Nat} (hj : j < 8) (k : Q (some (.int (nI (by_t w j)))) S I J P) : pm_Met l E yX9_byteOf cX9_byteOf 3 (some .int) d 0 0 [.long w, .int (nI (8 * j))] S I J P Q := by
  unfold pm_Met
  refine pm_lvs (lv' := [(0, _), (2, _)]) rfl ?_
  refine pw_lload_n dX9_byteOf_0 rfl ?_
  refine pw_iload_n dX9_byteOf_1 rfl ?_
  refine pw_lushr dX9_byteOf_2 ?_
  refine pw_l2i dX9_byteOf_3 ?_
  refine pw_sipush (v := nI 255) dX9_byteOf_4 (by decide) ?_
  refine pw_iand dX9_byteOf_7 ?_
  exact pw_iret dX9_byteOf_8 rfl (by rw [by_u w hj]; exact k)

set_option maxRecDepth 20000 in
set_option maxHeartbeats 4000000 in
theorem sg_c1loop {l : Launch} {E : pmE} {d : Nat} {S : pmS} {I : pmI} {J : pmJ} {P : pmP} {Q : Option Value → pmS → pmI → pmJ → pmP → Prop} (hG : sh_St S) (hP : gr_St P) {w : Int64} (hd : 3 ≤ d) : ∀ (j m : Nat), j ≤ 8 → m + j ≤ 8 → (¬ sg_all w j → Q (some (.int (-2))) S I J P) → (sg_all w j → pm_W l E yX9_signs cX9_signs 6 (some .int) d 0 0 50 [(4, .int (sg_sh 0)), (3, .int (nI (m + sg_cnt w j))), (0, .ref 2), (1, .long w)] [] S I J P (pm_N E Q)) → pm_W l E yX9_signs cX9_signs 6 (some .int) d 0 0 6 [(4, .int (sg_sh j)), (3, .int (nI m)), (0, .ref 2), (1, .long w)] [] S I J P (pm_N E Q)
  | 0, m, hj, hm, kb, kk => by
    refine pw_iload dX9_signs_6 rfl ?_
    refine pw_if_lt (tgt := 50) dX9_signs_8 (by decide) (fun h8 => ?_) (fun h => absurd (sg_sh0) h)
    exact kk (fun i hi => absurd hi (Nat.not_lt_zero i))
  | j + 1, m, hj, hm, kb, kk => by
    have hb := by_lt w j
    have hj : j < 8 := hj
    refine pw_iload dX9_signs_6 rfl ?_
    refine pw_if_lt (tgt := 50) dX9_signs_8 (by decide) (fun h => absurd h (by rw [sg_sh_s hj]; exact nI_pos (by omega))) (fun h8 => ?_)
    refine pw_lload_n dX9_signs_11 rfl ?_
    refine pw_iload dX9_signs_12 rfl ?_
    refine pw_callS (as := [_, _]) (kc' := 0) (ks' := 0) lX9_45 dX9_signs_14 rfl rfl (Nat.le_of_ble_eq_true rfl) (by omega) (Nat.le_of_ble_eq_true rfl) (Nat.zero_le _) (Nat.zero_le _) ?_
    rw [sg_sh_s hj]
    refine c_X9_byteOf hj ?_
    refine pw_istore (lv' := [(5, _), (4, _), (3, _), (0, _), (1, _)]) dX9_signs_17 (by decide) rfl ?_
    refine pw_iload dX9_signs_19 rfl ?_
    refine pw_ifN_eq _ (tgt := 44) dX9_signs_21 (by decide) (rfl) (by omega) (fun h21 => ?_) (fun h21 => ?_)
    · refine pw_iinc (lv' := [(4, _), (5, _), (3, _), (0, _), (1, _)]) dX9_signs_44 rfl (by decide) rfl ?_
      refine pw_goto (tgt := 6) dX9_signs_47 (by decide) ?_
      refine pw_sub [0, 2, 3, 4] rfl ?_
      rw [sg_dec2 hj]
      exact sg_c1loop hG hP hd j m (by omega) (by omega) (fun h => kb (fun h2 => h (fun i hi => h2 i (by omega)))) (fun h => by
        have h4 := kk (sg_all_s h (Or.inl h21))
        rw [sg_c0 h21] at h4
        exact h4)
    · refine pw_iload dX9_signs_24 rfl ?_
      refine pw_bipush (v := nI 32) dX9_signs_26 (by decide) ?_
      refine pw_icmpN_lt _ _ (tgt := 38) dX9_signs_28 (by decide) (rfl) (rfl) (by omega) (by omega) (fun h28 => ?_) (fun h28 => ?_)
      · refine pw_bipush (v := -2) dX9_signs_38 (by decide) ?_
        exact pw_iret dX9_signs_40 rfl (kb (fun h => by have h5 := h j (by omega); unfold sg_ok at h5; omega))
      · refine pw_iload dX9_signs_31 rfl ?_
        refine pw_bipush (v := nI 126) dX9_signs_33 (by decide) ?_
        refine pw_icmpN_le _ _ (tgt := 41) dX9_signs_35 (by decide) (rfl) (rfl) (by omega) (by omega) (fun h35 => ?_) (fun h35 => ?_)
        · refine pw_iinc (lv' := [(3, _), (5, _), (4, _), (0, _), (1, _)]) dX9_signs_41 rfl (by decide) rfl ?_
          refine pw_iinc (lv' := [(4, _), (3, _), (5, _), (0, _), (1, _)]) dX9_signs_44 rfl (by decide) rfl ?_
          refine pw_goto (tgt := 6) dX9_signs_47 (by decide) ?_
          rw [show nI m + Int32.ofInt 1 = nI (m + 1) from nI_1 m]
          refine pw_sub [0, 1, 3, 4] rfl ?_
          rw [sg_dec2 hj]
          exact sg_c1loop hG hP hd j (m + 1) (by omega) (by omega) (fun h => kb (fun h2 => h (fun i hi => h2 i (by omega)))) (fun h => by
            have h4 := kk (sg_all_s h (Or.inr ⟨h28, h35⟩))
            rw [sg_c1 h21, show m + (sg_cnt w j + 1) = m + 1 + sg_cnt w j by omega] at h4
            exact h4)
        · refine pw_bipush (v := -2) dX9_signs_38 (by decide) ?_
          exact pw_iret dX9_signs_40 rfl (kb (fun h => by have h5 := h j (by omega); unfold sg_ok at h5; omega))
set_option maxRecDepth 20000 in
set_option maxHeartbeats 4000000 in
theorem c_X9_addSign0 {l : Launch} {E : pmE} {d : Nat} {S : pmS} {I : pmI} {J : pmJ} {P : pmP} {Q : Option Value → pmS → pmI → pmJ → pmP → Prop} (hG : sh_St S) (hP : gr_St P) {b : Nat} (hb : b = 0) (k : Q none S I J P) : pm_Met l E yX9_addSign cX9_addSign 2 none d 0 0 [.ref 2, .int (nI b)] S I J P Q := by
  unfold pm_Met
  refine pm_lvs (lv' := [(0, _), (1, _)]) rfl ?_
  refine pw_iload_n dX9_addSign_0 rfl ?_
  refine pw_if_eq (tgt := 34) dX9_addSign_1 (by decide) (fun h1 => ?_) (fun h => absurd (by rw [hb]; exact nI_0) h)
  exact pw_vret dX9_addSign_34 rfl (k)

theorem sg_byte : ∀ b, b < 127 → (nI b).toInt8.toInt32 = nI b := by decide

set_option maxRecDepth 20000 in
set_option maxHeartbeats 4000000 in
theorem c_X9_addSign1 {l : Launch} {E : pmE} {d : Nat} {S : pmS} {I : pmI} {J : pmJ} {P : pmP} {Q : Option Value → pmS → pmI → pmJ → pmP → Prop} (hG : sh_St S) (hP : gr_St P) {b n : Nat} (hb : ¬ b = 0) (hb2 : b ≤ 126) (hn : I 2 5 = nI n) (hn2 : n < 120) (k : Q none S (pm_u (pm_u I 3 n (nI b)) 2 5 (nI (n + 1))) J P) : pm_Met l E yX9_addSign cX9_addSign 2 none d 0 0 [.ref 2, .int (nI b)] S I J P Q := by
  unfold pm_Met
  refine pm_lvs (lv' := [(0, _), (1, _)]) rfl ?_
  refine pw_iload_n dX9_addSign_0 rfl ?_
  refine pw_ifN_eq _ (tgt := 34) dX9_addSign_1 (by decide) (rfl) (by omega) (fun h1 => absurd h1 (by omega)) (fun h1 => ?_)
  refine pw_aload_n dX9_addSign_4 rfl ?_
  refine pw_getI fX9_49 dX9_addSign_5 (sh_lt hG (by decide)) (sh_tg hG 0 rfl) rfl ?_
  refine pw_bipush (v := nI 120) dX9_addSign_8 (by decide) ?_
  refine pw_icmpN_ge _ _ (tgt := 34) dX9_addSign_10 (by decide) (hn) (rfl) (by omega) (by omega) (fun h10 => absurd h10 (by omega)) (fun h10 => ?_)
  refine pw_aload_n dX9_addSign_13 rfl ?_
  refine pw_getR fX9_9 dX9_addSign_14 (sh_lt hG (by decide)) (sh_tg hG 0 rfl) rfl (gr_at hP 0 rfl) ?_
  refine pw_aload_n dX9_addSign_17 rfl ?_
  refine pw_getI fX9_49 dX9_addSign_18 (sh_lt hG (by decide)) (sh_tg hG 0 rfl) rfl ?_
  refine pw_iload_n dX9_addSign_21 rfl ?_
  refine pw_i2b dX9_addSign_22 ?_
  refine pw_bastN n dX9_addSign_23 (by decide) (sh_lt hG (by decide)) (sh_sh hG 1 rfl) (by decide) (hn) (by omega) (by rw [pk_nb, sg_byte b (by omega)]) ?_
  refine pw_aload_n dX9_addSign_24 rfl ?_
  refine pw_dup dX9_addSign_25 rfl ?_
  refine pw_getI fX9_49 dX9_addSign_26 (sh_lt hG (by decide)) (sh_tg hG 0 rfl) rfl ?_
  refine pw_iconst (v := nI 1) dX9_addSign_29 (by decide) ?_
  refine pw_iadd dX9_addSign_30 ?_
  refine pw_ti (z := nI (n + 1)) (by rw [pm_u_ne (by decide), hn]; exact nI_1 n) ?_
  refine pw_putI fX9_49 dX9_addSign_31 (Or.inl rfl) (by decide) (sh_lt hG (by decide)) (sh_tg hG 0 rfl) rfl ?_
  exact pw_vret dX9_addSign_34 rfl (k)

set_option maxRecDepth 20000 in
set_option maxHeartbeats 4000000 in
theorem sg_c2loop {l : Launch} {E : pmE} {d : Nat} {S : pmS} {J : pmJ} {P : pmP} {Q : Option Value → pmS → pmI → pmJ → pmP → Prop} (hG : sh_St S) (hP : gr_St P) {w : Int64} (hd : 3 ≤ d) : ∀ (j : Nat) (I : pmI) (n : Nat), j ≤ 8 → sg_all w j → I 2 5 = nI n → n + sg_cnt w j ≤ 120 → (∀ I', I' 3 = sg_put w j (I 3) n → I' 2 5 = nI (n + sg_cnt w j) → (∀ a, a ≠ 3 → a ≠ 2 → I' a = I a) → Q (some (.int (nI (n + sg_cnt w j)))) S I' J P) → pm_W l E yX9_signs cX9_signs 6 (some .int) d 0 0 68 [(4, .int (sg_sh j)), (0, .ref 2), (1, .long w)] [] S I J P (pm_N E Q)
  | 0, I, n, hj, ha, hn, hm, kk => by
    refine pw_iload dX9_signs_68 rfl ?_
    refine pw_if_lt (tgt := 89) dX9_signs_70 (by decide) (fun h70 => ?_) (fun h => absurd (sg_sh0) h)
    refine pw_aload_n dX9_signs_89 rfl ?_
    refine pw_getI fX9_49 dX9_signs_90 (sh_lt hG (by decide)) (sh_tg hG 0 rfl) rfl ?_
    exact pw_iret dX9_signs_93 rfl (by rw [hn]; exact kk I rfl hn (fun _ _ _ => rfl))
  | j + 1, I, n, hj, ha, hn, hm, kk => by
    have hb := by_lt w j
    have hj : j < 8 := hj
    have hbo := ha j (by omega)
    have ha2 : sg_all w j := fun i hi => ha i (by omega)
    unfold sg_ok at hbo
    refine pw_iload dX9_signs_68 rfl ?_
    refine pw_if_lt (tgt := 89) dX9_signs_70 (by decide) (fun h => absurd h (by rw [sg_sh_s hj]; exact nI_pos (by omega))) (fun h70 => ?_)
    refine pw_aload_n dX9_signs_73 rfl ?_
    refine pw_lload_n dX9_signs_74 rfl ?_
    refine pw_iload dX9_signs_75 rfl ?_
    refine pw_callS (as := [_, _]) (kc' := 0) (ks' := 0) lX9_45 dX9_signs_77 rfl rfl (Nat.le_of_ble_eq_true rfl) (by omega) (Nat.le_of_ble_eq_true rfl) (Nat.zero_le _) (Nat.zero_le _) ?_
    rw [sg_sh_s hj]
    refine c_X9_byteOf hj ?_
    by_cases hz : by_t w j = 0
    · refine pw_callV (as := [_]) (kc' := 0) (ks' := 0) lX9_53 dX9_signs_80 rfl rfl (sh_lt hG (by decide)) (sh_tg hG 0 rfl) (Nat.le_of_ble_eq_true rfl) (by omega) (Nat.le_of_ble_eq_true rfl) (Nat.zero_le _) (Nat.zero_le _) ?_
      refine c_X9_addSign0 hG hP hz ?_
      refine pw_iinc (lv' := [(4, _), (0, _), (1, _)]) dX9_signs_83 rfl (by decide) rfl ?_
      refine pw_goto (tgt := 68) dX9_signs_86 (by decide) ?_
      refine pw_sub [0, 1, 2] rfl ?_
      rw [sg_dec2 hj]
      exact sg_c2loop hG hP hd j I n (by omega) ha2 hn (by rw [sg_c0 hz] at hm; exact hm) (fun I' h1 h2 h3 => by
        rw [sg_c0 hz, sg_p0 hz] at kk
        exact kk I' h1 h2 h3)
    · rw [sg_c1 hz, sg_p1 hz] at kk
      rw [sg_c1 hz] at hm
      refine pw_callV (as := [_]) (kc' := 0) (ks' := 0) lX9_53 dX9_signs_80 rfl rfl (sh_lt hG (by decide)) (sh_tg hG 0 rfl) (Nat.le_of_ble_eq_true rfl) (by omega) (Nat.le_of_ble_eq_true rfl) (Nat.zero_le _) (Nat.zero_le _) ?_
      refine c_X9_addSign1 (n := n) hG hP hz (by omega) hn (by omega) ?_
      refine pw_iinc (lv' := [(4, _), (0, _), (1, _)]) dX9_signs_83 rfl (by decide) rfl ?_
      refine pw_goto (tgt := 68) dX9_signs_86 (by decide) ?_
      refine pw_sub [0, 1, 2] rfl ?_
      rw [sg_dec2 hj]
      exact sg_c2loop hG hP hd j _ (n + 1) (by omega) ha2 (by rw [pm_u_eq, pm_up_eq]) (by omega) (fun I' h1 h2 h3 => by
        rw [show n + 1 + sg_cnt w j = n + (sg_cnt w j + 1) by omega] at h2 ⊢
        refine kk I' ?_ h2 (fun a h4 h5 => ?_)
        · rw [h1, pm_u_ne (by decide), pm_u_eq]
        · rw [h3 a h4 h5, pm_u_ne h5, pm_u_ne h4])
/-- what signs(w) answers, with n signs there -/
noncomputable def sg_ans (w : Int64) (n : Nat) : Int32 := @ite _ (sg_all w 8) (Classical.propDecidable _) (if n + sg_cnt w 8 ≤ 120 then nI (n + sg_cnt w 8) else -4) (-2)
theorem sg_a1 {w : Int64} {n : Nat} (h : ¬ sg_all w 8) : sg_ans w n = -2 := if_neg h
theorem sg_a2 {w : Int64} {n : Nat} (h : sg_all w 8) (h2 : ¬ n + sg_cnt w 8 ≤ 120) : sg_ans w n = -4 := by unfold sg_ans; rw [if_pos h, if_neg h2]
theorem sg_a3 {w : Int64} {n : Nat} (h : sg_all w 8) (h2 : n + sg_cnt w 8 ≤ 120) : sg_ans w n = nI (n + sg_cnt w 8) := by unfold sg_ans; rw [if_pos h, if_pos h2]

set_option maxRecDepth 20000 in
set_option maxHeartbeats 4000000 in
theorem c_X9_signs {l : Launch} {E : pmE} {d : Nat} {S : pmS} {I : pmI} {J : pmJ} {P : pmP} {Q : Option Value → pmS → pmI → pmJ → pmP → Prop} (hG : sh_St S) (hP : gr_St P) {w : Int64} {n : Nat} (hd : 4 ≤ d) (hn : I 2 5 = nI n) (hn2 : n ≤ 120) (k0 : ¬ (sg_all w 8 ∧ n + sg_cnt w 8 ≤ 120) → Q (some (.int (sg_ans w n))) S I J P) (k1 : sg_all w 8 → n + sg_cnt w 8 ≤ 120 → ∀ I', I' 3 = sg_put w 8 (I 3) n → I' 2 5 = nI (n + sg_cnt w 8) → (∀ a, a ≠ 3 → a ≠ 2 → I' a = I a) → Q (some (.int (sg_ans w n))) S I' J P) : pm_Met l E yX9_signs cX9_signs 6 (some .int) d 0 0 [.ref 2, .long w] S I J P Q := by
  unfold pm_Met
  refine pm_lvs (lv' := [(0, _), (1, _)]) rfl ?_
  refine pw_iconst (v := nI 0) dX9_signs_0 (by decide) ?_
  refine pw_istore_n (lv' := [(3, _), (0, _), (1, _)]) dX9_signs_1 (by decide) rfl ?_
  refine pw_bipush (v := nI 56) dX9_signs_2 (by decide) ?_
  refine pw_istore (lv' := [(4, _), (3, _), (0, _), (1, _)]) dX9_signs_4 (by decide) rfl ?_
  refine pw_sub [0, 1, 2, 3] rfl ?_
  rw [sg_sh8]
  refine sg_c1loop hG hP (by omega) 8 0 (by decide) (by decide) (fun h => by rw [← sg_a1 (n := n) h]; exact k0 (fun h2 => h h2.1)) (fun h => ?_)
  rw [Nat.zero_add]
  have hc := sg_cnt_le w 8
  refine pw_iload_n dX9_signs_50 rfl ?_
  refine pw_bipush (v := nI 120) dX9_signs_51 (by decide) ?_
  refine pw_aload_n dX9_signs_53 rfl ?_
  refine pw_getI fX9_49 dX9_signs_54 (sh_lt hG (by decide)) (sh_tg hG 0 rfl) rfl ?_
  refine pw_isub dX9_signs_57 ?_
  refine pw_ti (z := nI (120 - n)) (by rw [hn]; exact pk_sub hn2) ?_
  refine pw_icmpN_le _ _ (tgt := 64) dX9_signs_58 (by decide) (rfl) (rfl) (by omega) (by omega) (fun h58 => ?_) (fun h58 => ?_)
  · refine pw_bipush (v := nI 56) dX9_signs_64 (by decide) ?_
    refine pw_istore (lv' := [(4, _), (3, _), (0, _), (1, _)]) dX9_signs_66 (by decide) rfl ?_
    refine pw_sub [0, 2, 3] rfl ?_
    rw [sg_sh8]
    exact sg_c2loop hG hP (by omega) 8 I n (by decide) h hn (by omega) (fun I' h1 h2 h3 => by rw [← sg_a3 (n := n) h (by omega)]; exact k1 h (by omega) I' h1 h2 h3)
  · refine pw_bipush (v := -4) dX9_signs_61 (by decide) ?_
    exact pw_iret dX9_signs_63 rfl (by rw [← sg_a2 (n := n) h (by omega)]; exact k0 (fun h2 => by omega))