/-- cells that keep() leaves as they are -/
def kF (I : pmI) (J : pmJ) (P : pmP) (I' : pmI) (J' : pmJ) (P' : pmP) : Prop := ∀ a, ¬ (15 ≤ a ∧ a ≤ 20 ∨ 28 ≤ a ∧ a ≤ 33) → I' a = I a ∧ J' a = J a ∧ P' a = P a
theorem cA.kp {S : pmS} {I I' : pmI} {J J' : pmJ} {P P' : pmP} {A : aS} {Z : Nat → Nat} {b z : Nat} {x : sN} {v : vV} {t : List tH} (h : cA S I J P A Z b) (hO : aO A) (hk : kO A x v t) (hF : kF I J P I' J' P') (hx : snC S I' J' P' A.ns z x) (hz : z + 8 ≤ b ∨ b + 5 ≤ z) (h16 : I' 16 4 = I 16 4) (h17 : J' 17 = J 17) (h18 : I' 18 = if x.form = 0 then I 18 else va_up (I 18) (A.ns.idxOf x.dec) (nI x.form)) (h19 : I' 19 = if x.form = 0 then I 19 else va_up (I 19) (A.ns.idxOf x.dec) (nI A.sn.length)) (h20 : I' 20 = if x.form = 3 then va_up (I 20) (A.ns.idxOf x.dec) (I 20 (A.ns.idxOf x.dec) + nI 1) else I 20) (h28 : I' 28 = if x.form = 1 then va_up (I 28) (A.ns.idxOf x.dec) (nI v.1) else I 28) (h29 : J' 29 = if x.form = 1 then va_up (J 29) (A.ns.idxOf x.dec) v.2 else J 29) (h31 : I' 31 = if x.form = 0 then va_up (I 31) (A.rs.length + 1) (nI v.1) else I 31) (h32 : J' 32 = if x.form = 0 then va_up (J 32) (A.rs.length + 1) v.2 else J 32) (h155 : I' 15 5 = nI (A.sn.length + 1)) (h156 : I' 15 6 = if x.form = 0 then nI (A.rs.length + 1) else I 15 6) (h33 : P' 33 = va_up (P 33) A.sn.length (some (z + 2))) : cA S I' J' P' (A.kp x v t) (va_up Z A.sn.length z) b := by
  refine ⟨by rw [kp_ns, h16]; exact h.n, ?_, ?_, rsR.kp h.rs h31 h32, by rw [kp_len]; exact h155, fun s hs => ?_⟩
  · rw [h17]
    exact nmR.kp h.2.1 hO hk h18 h19 h20 h28 h29
  · rw [h156, kp_rs]
    by_cases f : x.form = 0
    · rw [if_pos f, if_pos f, List.length_append, List.length_singleton]
    · rw [if_neg f, if_neg f]; exact h.r
  · rw [kp_len] at hs
    by_cases e : s < A.sn.length
    · obtain ⟨g1, g2, g3⟩ := h.sn e
      rw [h33, pm_up_ne (show s ≠ A.sn.length by omega), pm_up_ne (show s ≠ A.sn.length by omega), kp_at e]
      have hz1 := g2.1.1
      exact ⟨g1, g2.mv (Nat.le_refl _) (fun _ _ => rfl) (fun a h1 h2 => hF a (by omega)), g3⟩
    · have e' : s = A.sn.length := by omega
      subst e'
      rw [h33, pm_up_eq, pm_up_eq, kp_new]
      exact ⟨rfl, hx, hz⟩
theorem tC.kp {S : pmS} {I I' : pmI} {J J' : pmJ} {P P' : pmP} {A : aS} {b m : Nat} {x : sN} {v : vV} {t : List tH} (h : tC S I J P A t b m) (hk : kO A x v t) (hF : kF I J P I' J' P') : tC S I' J' P' (A.kp x v t) t b m := by
  have hb := h.bd
  have e21 := hF 21 (by decide)
  refine ⟨hb, by rw [e21.2.2]; exact h.2.1, h.2.2.1, h.m', h.l, by rw [e21.1]; exact h.n, fun j s vs hj => ?_⟩
  have g := hk.2.2.2.2.2.2.2.2.1 j s vs hj
  have e := h.at hj
  rw [(hF b (by omega)).1, (hF (b + 1) (by omega)).1, (hF (b + 2) (by omega)).1, (hF (b + 3) (by omega)).1, (hF (b + 4) (by omega)).2.1, kp_at g.1]
  exact e
set_option maxRecDepth 20000 in
set_option maxHeartbeats 400000 in
theorem c_put30 {l : Launch} {E : pmE} {d : Nat} {S : pmS} {I : pmI} {J : pmJ} {P : pmP} {Q : Option Value → pmS → pmI → pmJ → pmP → Prop} (hG : sh_St S) (hP : gr_St P) {i : Nat} {x2 : Int32} {x3 : Int64} (hi : i < 41) (k : Q none S (pm_u I 31 i x2) (pm_u J 32 i x3) P) : pm_Met l E yX8_put cX8_put 5 none d 0 0 [.ref 30, .int (nI i), .int x2, .long x3] S I J P Q := by
  unfold pm_Met
  refine pm_lvs (lv' := [(0, _), (1, _), (2, _), (3, _)]) rfl ?_
  refine pw_iload_n dX8_put_0 rfl ?_
  refine pw_if_lt (tgt := 27) dX8_put_1 (by decide) (fun h => absurd h (nI_pos (by omega))) (fun h1 => ?_)
  refine pw_iload_n dX8_put_4 rfl ?_
  refine pw_aload_n dX8_put_5 rfl ?_
  refine pw_getR fX8_7 dX8_put_6 (sh_lt hG (by decide)) (sh_tg hG 28 rfl) rfl (gr_at hP 26 rfl) ?_
  refine pw_alen dX8_put_9 (sh_lt hG (by decide)) (sh_sh hG 29 rfl) (by decide) (by decide) ?_
  refine pw_icmpN_ge _ _ (tgt := 27) dX8_put_10 (by decide) (rfl) (rfl) (by omega) (by omega) (fun h10 => absurd h10 (by omega)) (fun h10 => ?_)
  refine pw_aload_n dX8_put_13 rfl ?_
  refine pw_getR fX8_7 dX8_put_14 (sh_lt hG (by decide)) (sh_tg hG 28 rfl) rfl (gr_at hP 26 rfl) ?_
  refine pw_iload_n dX8_put_17 rfl ?_
  refine pw_iload_n dX8_put_18 rfl ?_
  refine pw_iastN i dX8_put_19 (by decide) (sh_lt hG (by decide)) (sh_sh hG 29 rfl) (by decide) (rfl) (by omega) ?_
  refine pw_aload_n dX8_put_20 rfl ?_
  refine pw_getR fX8_13 dX8_put_21 (sh_lt hG (by decide)) (sh_tg hG 28 rfl) rfl (gr_at hP 27 rfl) ?_
  refine pw_iload_n dX8_put_24 rfl ?_
  refine pw_lload_n dX8_put_25 rfl ?_
  refine pw_lastN i dX8_put_26 (by decide) (sh_lt hG (by decide)) (sh_sh hG 30 rfl) (by decide) (rfl) (by omega) ?_
  exact pw_vret dX8_put_27 rfl (k)

set_option maxRecDepth 20000 in
set_option maxHeartbeats 400000 in
theorem c_put27 {l : Launch} {E : pmE} {d : Nat} {S : pmS} {I : pmI} {J : pmJ} {P : pmP} {Q : Option Value → pmS → pmI → pmJ → pmP → Prop} (hG : sh_St S) (hP : gr_St P) {i : Nat} {x2 : Int32} {x3 : Int64} (hi : i < 40) (k : Q none S (pm_u I 28 i x2) (pm_u J 29 i x3) P) : pm_Met l E yX8_put cX8_put 5 none d 0 0 [.ref 27, .int (nI i), .int x2, .long x3] S I J P Q := by
  unfold pm_Met
  refine pm_lvs (lv' := [(0, _), (1, _), (2, _), (3, _)]) rfl ?_
  refine pw_iload_n dX8_put_0 rfl ?_
  refine pw_if_lt (tgt := 27) dX8_put_1 (by decide) (fun h => absurd h (nI_pos (by omega))) (fun h1 => ?_)
  refine pw_iload_n dX8_put_4 rfl ?_
  refine pw_aload_n dX8_put_5 rfl ?_
  refine pw_getR fX8_7 dX8_put_6 (sh_lt hG (by decide)) (sh_tg hG 25 rfl) rfl (gr_at hP 24 rfl) ?_
  refine pw_alen dX8_put_9 (sh_lt hG (by decide)) (sh_sh hG 26 rfl) (by decide) (by decide) ?_
  refine pw_icmpN_ge _ _ (tgt := 27) dX8_put_10 (by decide) (rfl) (rfl) (by omega) (by omega) (fun h10 => absurd h10 (by omega)) (fun h10 => ?_)
  refine pw_aload_n dX8_put_13 rfl ?_
  refine pw_getR fX8_7 dX8_put_14 (sh_lt hG (by decide)) (sh_tg hG 25 rfl) rfl (gr_at hP 24 rfl) ?_
  refine pw_iload_n dX8_put_17 rfl ?_
  refine pw_iload_n dX8_put_18 rfl ?_
  refine pw_iastN i dX8_put_19 (by decide) (sh_lt hG (by decide)) (sh_sh hG 26 rfl) (by decide) (rfl) (by omega) ?_
  refine pw_aload_n dX8_put_20 rfl ?_
  refine pw_getR fX8_13 dX8_put_21 (sh_lt hG (by decide)) (sh_tg hG 25 rfl) rfl (gr_at hP 25 rfl) ?_
  refine pw_iload_n dX8_put_24 rfl ?_
  refine pw_lload_n dX8_put_25 rfl ?_
  refine pw_lastN i dX8_put_26 (by decide) (sh_lt hG (by decide)) (sh_sh hG 27 rfl) (by decide) (rfl) (by omega) ?_
  exact pw_vret dX8_put_27 rfl (k)

set_option maxRecDepth 20000 in
set_option maxHeartbeats 400000 in
theorem c_decl0 {l : Launch} {E : pmE} {d : Nat} {S : pmS} {I : pmI} {J : pmJ} {P : pmP} {Q : Option Value → pmS → pmI → pmJ → pmP → Prop} (hG : sh_St S) (hP : gr_St P) (hd : 1 ≤ d) {i n f : Nat} {x3 : Int32} (hn : I 16 4 = nI n) (hi : i < n) (hl : n ≤ 40) (hf : f < 3) (k : Q none S (pm_u (pm_u I 18 i (nI f)) 19 i x3) J P) : pm_Met l E yX2_declare cX2_declare 4 none d 0 0 [.ref 16, .int (nI i), .int (nI f), .int x3] S I J P Q := by
  unfold pm_Met
  refine pm_lvs (lv' := [(0, _), (1, _), (2, _), (3, _)]) rfl ?_
  refine pw_aload_n dX2_declare_0 rfl ?_
  refine pw_iload_n dX2_declare_1 rfl ?_
  refine pw_callV (as := [_]) (kc' := 0) (ks' := 0) lX2_51 dX2_declare_2 rfl rfl (sh_lt hG (by decide)) (sh_tg hG 14 rfl) (Nat.le_of_ble_eq_true rfl) (by omega) (Nat.le_of_ble_eq_true rfl) (Nat.zero_le _) (Nat.zero_le _) ?_
  unfold pm_Met
  refine pm_lvs (lv' := [(0, _), (1, _)]) rfl ?_
  refine pw_iload_n dX2_has_0 rfl ?_
  refine pw_if_lt (tgt := 16) dX2_has_1 (by decide) (fun h => absurd h (nI_pos (by omega))) (fun hX2_has_1 => ?_)
  refine pw_iload_n dX2_has_4 rfl ?_
  refine pw_aload_n dX2_has_5 rfl ?_
  refine pw_getI fX2_25 dX2_has_6 (sh_lt hG (by decide)) (sh_tg hG 14 rfl) rfl ?_
  refine pw_icmpN_ge _ _ (tgt := 16) dX2_has_9 (by decide) (rfl) (hn) (by omega) (by omega) (fun hX2_has_9 => absurd hX2_has_9 (by omega)) (fun hX2_has_9 => ?_)
  refine pw_iconst (v := nI 1) dX2_has_12 (by decide) ?_
  refine pw_goto (tgt := 17) dX2_has_13 (by decide) ?_
  refine pw_zret dX2_has_17 rfl (by decide) ?_
  refine pw_if_eq (tgt := 37) dX2_declare_5 (by decide) (fun h => absurd h (by decide)) (fun h5 => ?_)
  refine pw_aload_n dX2_declare_8 rfl ?_
  refine pw_getR fX2_15 dX2_declare_9 (sh_lt hG (by decide)) (sh_tg hG 14 rfl) rfl (gr_at hP 21 rfl) ?_
  refine pw_iload_n dX2_declare_12 rfl ?_
  refine pw_iload_n dX2_declare_13 rfl ?_
  refine pw_iastN i dX2_declare_14 (by decide) (sh_lt hG (by decide)) (sh_sh hG 16 rfl) (by decide) (rfl) (by omega) ?_
  refine pw_aload_n dX2_declare_15 rfl ?_
  refine pw_getR fX2_19 dX2_declare_16 (sh_lt hG (by decide)) (sh_tg hG 14 rfl) rfl (gr_at hP 22 rfl) ?_
  refine pw_iload_n dX2_declare_19 rfl ?_
  refine pw_iload_n dX2_declare_20 rfl ?_
  refine pw_iastN i dX2_declare_21 (by decide) (sh_lt hG (by decide)) (sh_sh hG 17 rfl) (by decide) (rfl) (by omega) ?_
  refine pw_iload_n dX2_declare_22 rfl ?_
  refine pw_iconst (v := nI 3) dX2_declare_23 (by decide) ?_
  refine pw_icmpN_ne _ _ (tgt := 37) dX2_declare_24 (by decide) (rfl) (rfl) (by omega) (by omega) (fun h24 => ?_) (fun h24 => absurd h24 (by omega))
  exact pw_vret dX2_declare_37 rfl (k)

set_option maxRecDepth 20000 in
set_option maxHeartbeats 400000 in
theorem c_decl1 {l : Launch} {E : pmE} {d : Nat} {S : pmS} {I : pmI} {J : pmJ} {P : pmP} {Q : Option Value → pmS → pmI → pmJ → pmP → Prop} (hG : sh_St S) (hP : gr_St P) (hd : 1 ≤ d) {i n f : Nat} {x3 : Int32} (hn : I 16 4 = nI n) (hi : i < n) (hl : n ≤ 40) (hf : f = 3) (k : Q none S (pm_u (pm_u (pm_u I 18 i (nI f)) 19 i x3) 20 i (I 20 i + nI 1)) J P) : pm_Met l E yX2_declare cX2_declare 4 none d 0 0 [.ref 16, .int (nI i), .int (nI f), .int x3] S I J P Q := by
  unfold pm_Met
  refine pm_lvs (lv' := [(0, _), (1, _), (2, _), (3, _)]) rfl ?_
  refine pw_aload_n dX2_declare_0 rfl ?_
  refine pw_iload_n dX2_declare_1 rfl ?_
  refine pw_callV (as := [_]) (kc' := 0) (ks' := 0) lX2_51 dX2_declare_2 rfl rfl (sh_lt hG (by decide)) (sh_tg hG 14 rfl) (Nat.le_of_ble_eq_true rfl) (by omega) (Nat.le_of_ble_eq_true rfl) (Nat.zero_le _) (Nat.zero_le _) ?_
  unfold pm_Met
  refine pm_lvs (lv' := [(0, _), (1, _)]) rfl ?_
  refine pw_iload_n dX2_has_0 rfl ?_
  refine pw_if_lt (tgt := 16) dX2_has_1 (by decide) (fun h => absurd h (nI_pos (by omega))) (fun hX2_has_1 => ?_)
  refine pw_iload_n dX2_has_4 rfl ?_
  refine pw_aload_n dX2_has_5 rfl ?_
  refine pw_getI fX2_25 dX2_has_6 (sh_lt hG (by decide)) (sh_tg hG 14 rfl) rfl ?_
  refine pw_icmpN_ge _ _ (tgt := 16) dX2_has_9 (by decide) (rfl) (hn) (by omega) (by omega) (fun hX2_has_9 => absurd hX2_has_9 (by omega)) (fun hX2_has_9 => ?_)
  refine pw_iconst (v := nI 1) dX2_has_12 (by decide) ?_
  refine pw_goto (tgt := 17) dX2_has_13 (by decide) ?_
  refine pw_zret dX2_has_17 rfl (by decide) ?_
  refine pw_if_eq (tgt := 37) dX2_declare_5 (by decide) (fun h => absurd h (by decide)) (fun h5 => ?_)
  refine pw_aload_n dX2_declare_8 rfl ?_
  refine pw_getR fX2_15 dX2_declare_9 (sh_lt hG (by decide)) (sh_tg hG 14 rfl) rfl (gr_at hP 21 rfl) ?_
  refine pw_iload_n dX2_declare_12 rfl ?_
  refine pw_iload_n dX2_declare_13 rfl ?_
  refine pw_iastN i dX2_declare_14 (by decide) (sh_lt hG (by decide)) (sh_sh hG 16 rfl) (by decide) (rfl) (by omega) ?_
  refine pw_aload_n dX2_declare_15 rfl ?_
  refine pw_getR fX2_19 dX2_declare_16 (sh_lt hG (by decide)) (sh_tg hG 14 rfl) rfl (gr_at hP 22 rfl) ?_
  refine pw_iload_n dX2_declare_19 rfl ?_
  refine pw_iload_n dX2_declare_20 rfl ?_
  refine pw_iastN i dX2_declare_21 (by decide) (sh_lt hG (by decide)) (sh_sh hG 17 rfl) (by decide) (rfl) (by omega) ?_
  refine pw_iload_n dX2_declare_22 rfl ?_
  refine pw_iconst (v := nI 3) dX2_declare_23 (by decide) ?_
  refine pw_icmpN_ne _ _ (tgt := 37) dX2_declare_24 (by decide) (rfl) (rfl) (by omega) (by omega) (fun h24 => absurd h24 (by omega)) (fun h24 => ?_)
  refine pw_aload_n dX2_declare_27 rfl ?_
  refine pw_getR fX2_22 dX2_declare_28 (sh_lt hG (by decide)) (sh_tg hG 14 rfl) rfl (gr_at hP 23 rfl) ?_
  refine pw_iload_n dX2_declare_31 rfl ?_
  refine pw_dup2 dX2_declare_32 rfl rfl ?_
  refine pw_ialdN i dX2_declare_33 (sh_lt hG (by decide)) (sh_sh hG 18 rfl) (by decide) (rfl) (by omega) ?_
  refine pw_iconst (v := nI 1) dX2_declare_34 (by decide) ?_
  refine pw_iadd dX2_declare_35 ?_
  refine pw_ti (z := I 20 i + nI 1) (by rw [pm_u_ne (by decide), pm_u_ne (by decide)]) ?_
  refine pw_iastN i dX2_declare_36 (by decide) (sh_lt hG (by decide)) (sh_sh hG 18 rfl) (by decide) (rfl) (by omega) ?_
  exact pw_vret dX2_declare_37 rfl (k)

set_option maxRecDepth 20000 in
set_option maxHeartbeats 400000 in
theorem c_keep0 {l : Launch} {E : pmE} {d : Nat} {S : pmS} {I : pmI} {J : pmJ} {P : pmP} {Q : Option Value → pmS → pmI → pmJ → pmP → Prop} (hG : sh_St S) (hP : gr_St P) (hd : 4 ≤ d) {A : aS} {Z : Nat → Nat} {b z : Nat} {x : sN} {v : vV} {t : List tH} {x2 : Int32} {x3 : Int64} (hc : cA S I J P A Z b) (hO : aO A) (hk : kO A x v t) (hx : snC S I J P A.ns z x) (hz : z + 8 ≤ b ∨ b + 5 ≤ z) (hv : x.form ≤ 1 → x2 = nI v.1 ∧ x3 = v.2) (k : ∀ I' J' P', gr_St P' → kF I J P I' J' P' → cA S I' J' P' (A.kp x v t) (va_up Z A.sn.length z) b → Q none S I' J' P') (hf : x.form = 0) : pm_Met l E yX4_keep cX4_keep 5 none d 0 0 [.ref 15, .ref (z + 2), .int x2, .long x3] S I J P Q := by
  unfold pm_Met
  have hsl := hk.1
  have hrl := hO.2.2.2.2.2.2.2.2.2.2.2.1
  have hnl := hO.1.2
  obtain ⟨v1, v2⟩ := hv (by omega)
  subst v1 v2
  refine pm_lvs (lv' := [(0, _), (1, _), (2, _), (3, _)]) rfl ?_
  refine pw_aload_n dX4_keep_0 rfl ?_
  refine pw_callV (as := []) (kc' := 0) (ks' := 0) lX4_56 dX4_keep_1 rfl rfl (sh_lt hG (by decide)) (sh_tg hG 13 rfl) (Nat.le_of_ble_eq_true rfl) (by omega) (Nat.le_of_ble_eq_true rfl) (Nat.zero_le _) (Nat.zero_le _) ?_
  unfold pm_Met
  refine pm_lvs (lv' := [(0, _)]) rfl ?_
  refine pw_aload_n dX4_isFull_0 rfl ?_
  refine pw_getI fX4_49 dX4_isFull_1 (sh_lt hG (by decide)) (sh_tg hG 13 rfl) rfl ?_
  refine pw_bipush (v := nI 40) dX4_isFull_4 (by decide) ?_
  refine pw_icmpN_lt _ _ (tgt := 13) dX4_isFull_6 (by decide) (hc.k) (rfl) (by omega) (by omega) (fun hX4_isFull_6 => ?_) (fun hX4_isFull_6 => absurd hX4_isFull_6 (by omega))
  refine pw_iconst (v := nI 0) dX4_isFull_13 (by decide) ?_
  refine pw_zret dX4_isFull_14 rfl (by decide) ?_
  refine pw_if_eq (tgt := 8) dX4_keep_4 (by decide) (fun h4 => ?_) (fun h => absurd (by decide) h)
  refine pw_aload_n dX4_keep_8 rfl ?_
  refine pw_callV (as := []) (kc' := 0) (ks' := 0) lX4_60 dX4_keep_9 rfl rfl (by have := hx.1.2; omega) hx.tg (Nat.le_of_ble_eq_true rfl) (by omega) (Nat.le_of_ble_eq_true rfl) (Nat.zero_le _) (Nat.zero_le _) ?_
  unfold pm_Met
  refine pm_lvs (lv' := [(0, _)]) rfl ?_
  refine pw_aload_n dX5_form_0 rfl ?_
  refine pw_getI fX5_9 dX5_form_1 (by have := hx.1.2; omega) hx.tg rfl ?_
  refine pw_iret dX5_form_4 rfl ?_
  refine pw_ti (z := nI 0) (by rw [hx.fm, hf]) ?_
  refine pw_if_ne (tgt := 41) dX4_keep_12 (by decide) (fun h => absurd (by decide) h) (fun h12 => ?_)
  refine pw_aload_n dX4_keep_15 rfl ?_
  refine pw_dup dX4_keep_16 rfl ?_
  refine pw_getI fX4_53 dX4_keep_17 (sh_lt hG (by decide)) (sh_tg hG 13 rfl) rfl ?_
  refine pw_iconst (v := nI 1) dX4_keep_20 (by decide) ?_
  refine pw_iadd dX4_keep_21 ?_
  refine pw_ti (z := nI (A.rs.length + 1)) (by rw [hc.r]; exact nI_add _ 1) ?_
  refine pw_putI fX4_53 dX4_keep_22 (Or.inl rfl) (by decide) (sh_lt hG (by decide)) (sh_tg hG 13 rfl) rfl ?_
  refine pw_aload_n dX4_keep_25 rfl ?_
  refine pw_getR fX4_34 dX4_keep_26 (sh_lt hG (by decide)) (sh_tg hG 13 rfl) rfl (gr_at hP 18 rfl) ?_
  refine pw_aload_n dX4_keep_29 rfl ?_
  refine pw_getI fX4_53 dX4_keep_30 (sh_lt hG (by decide)) (sh_tg hG 13 rfl) rfl ?_
  refine pw_ti (z := nI (A.rs.length + 1)) (by rw [pm_u_eq, pm_up_eq]) ?_
  refine pw_iload_n dX4_keep_33 rfl ?_
  refine pw_lload_n dX4_keep_34 rfl ?_
  refine pw_callV (as := [_, _, _]) (kc' := 0) (ks' := 0) lX4_64 dX4_keep_35 rfl rfl (sh_lt hG (by decide)) (sh_tg hG 28 rfl) (Nat.le_of_ble_eq_true rfl) (by omega) (Nat.le_of_ble_eq_true rfl) (Nat.zero_le _) (Nat.zero_le _) ?_
  refine c_put30 hG hP (by omega) ?_
  refine pw_goto (tgt := 60) dX4_keep_38 (by decide) ?_
  refine pw_aload_n dX4_keep_60 rfl ?_
  refine pw_callV (as := []) (kc' := 0) (ks' := 0) lX4_60 dX4_keep_61 rfl rfl (by have := hx.1.2; omega) hx.tg (Nat.le_of_ble_eq_true rfl) (by omega) (Nat.le_of_ble_eq_true rfl) (Nat.zero_le _) (Nat.zero_le _) ?_
  unfold pm_Met
  refine pm_lvs (lv' := [(0, _)]) rfl ?_
  refine pw_aload_n dX5_form_0 rfl ?_
  refine pw_getI fX5_9 dX5_form_1 (by have := hx.1.2; omega) hx.tg rfl ?_
  refine pw_iret dX5_form_4 rfl ?_
  refine pw_ti (z := nI 0) (by (repeat (rw [pm_u_ne (by have := hx.1.1; omega)])); rw [hx.fm, hf]) ?_
  refine pw_iconst (v := nI 1) dX4_keep_64 (by decide) ?_
  refine pw_icmp_ne (tgt := 81) dX4_keep_65 (by decide) (fun h65 => ?_) (fun h => absurd h (by decide))
  refine pw_aload_n dX4_keep_81 rfl ?_
  refine pw_getR fX4_39 dX4_keep_82 (sh_lt hG (by decide)) (sh_tg hG 13 rfl) rfl (gr_at hP 19 rfl) ?_
  refine pw_aload_n dX4_keep_85 rfl ?_
  refine pw_getI fX4_49 dX4_keep_86 (sh_lt hG (by decide)) (sh_tg hG 13 rfl) rfl ?_
  refine pw_ti (z := nI A.sn.length) (by (repeat (first | rw [pm_u_ne (by decide)] | rw [pm_u_eq, pm_up_ne (by decide)])); exact hc.k) ?_
  refine pw_aload_n dX4_keep_89 rfl ?_
  refine pw_aastN (ci := 9) A.sn.length dX4_keep_90 (by decide) (sh_lt hG (by decide)) (sh_sh hG 31 rfl) (by decide) (by decide) (rfl) (by omega) (by have := hx.1.2; omega) hx.tg ?_
  refine pw_aload_n dX4_keep_91 rfl ?_
  refine pw_dup dX4_keep_92 rfl ?_
  refine pw_getI fX4_49 dX4_keep_93 (sh_lt hG (by decide)) (sh_tg hG 13 rfl) rfl ?_
  refine pw_iconst (v := nI 1) dX4_keep_96 (by decide) ?_
  refine pw_iadd dX4_keep_97 ?_
  refine pw_ti (z := nI (A.sn.length + 1)) (by (repeat (first | rw [pm_u_ne (by decide)] | rw [pm_u_eq, pm_up_ne (by decide)])); rw [hc.k]; exact nI_add _ 1) ?_
  refine pw_putI fX4_49 dX4_keep_98 (Or.inl rfl) (by decide) (sh_lt hG (by decide)) (sh_tg hG 13 rfl) rfl ?_
  refine pw_vret dX4_keep_101 rfl ?_
  have hK : kF I J P (pm_u (pm_u (pm_u I 15 6 (nI (A.rs.length + 1))) 31 (A.rs.length + 1) (nI v.1)) 15 5 (nI (A.sn.length + 1))) (pm_u J 32 (A.rs.length + 1) v.2) (pm_u P 33 A.sn.length (some (z + 2))) := fun a ha => ⟨by repeat (rw [pm_u_ne (by omega)]), by first | with_reducible rfl | (repeat (rw [pm_u_ne (by omega)])), pm_u_ne (by omega)⟩
  exact k _ _ _ (hP.upd1 (by decide)) hK (hc.kp hO hk hK (hx.mv (Nat.le_refl _) (fun _ _ => rfl) (fun a h1 h2 => hK a (by have := hx.1.1; omega))) hz (by (repeat (first | rw [pm_u_ne (by decide)] | rw [pm_u_eq, pm_up_ne (by decide)]))) (by first | with_reducible rfl | (repeat (first | rw [pm_u_ne (by decide)] | rw [pm_u_eq]))) (by rw [if_pos (by omega)]; first | with_reducible rfl | (repeat (first | rw [pm_u_ne (by decide)] | rw [pm_u_eq]))) (by rw [if_pos (by omega)]; first | with_reducible rfl | (repeat (first | rw [pm_u_ne (by decide)] | rw [pm_u_eq]))) (by rw [if_neg (by omega)]; first | with_reducible rfl | (repeat (first | rw [pm_u_ne (by decide)] | rw [pm_u_eq]))) (by rw [if_neg (by omega)]; first | with_reducible rfl | (repeat (first | rw [pm_u_ne (by decide)] | rw [pm_u_eq]))) (by rw [if_neg (by omega)]; first | with_reducible rfl | (repeat (first | rw [pm_u_ne (by decide)] | rw [pm_u_eq]))) (by rw [if_pos (by omega)]; first | with_reducible rfl | (repeat (first | rw [pm_u_ne (by decide)] | rw [pm_u_eq]))) (by rw [if_pos (by omega)]; first | with_reducible rfl | (repeat (first | rw [pm_u_ne (by decide)] | rw [pm_u_eq]))) (by rw [pm_u_eq, pm_up_eq]) (by rw [if_pos (by omega), pm_u_eq, pm_up_ne (by decide), pm_u_ne (by decide), pm_u_eq, pm_up_eq]) (by rw [pm_u_eq]))
set_option maxRecDepth 20000 in
set_option maxHeartbeats 400000 in
theorem c_keep1 {l : Launch} {E : pmE} {d : Nat} {S : pmS} {I : pmI} {J : pmJ} {P : pmP} {Q : Option Value → pmS → pmI → pmJ → pmP → Prop} (hG : sh_St S) (hP : gr_St P) (hd : 4 ≤ d) {A : aS} {Z : Nat → Nat} {b z : Nat} {x : sN} {v : vV} {t : List tH} {x2 : Int32} {x3 : Int64} (hc : cA S I J P A Z b) (hO : aO A) (hk : kO A x v t) (hx : snC S I J P A.ns z x) (hz : z + 8 ≤ b ∨ b + 5 ≤ z) (hv : x.form ≤ 1 → x2 = nI v.1 ∧ x3 = v.2) (k : ∀ I' J' P', gr_St P' → kF I J P I' J' P' → cA S I' J' P' (A.kp x v t) (va_up Z A.sn.length z) b → Q none S I' J' P') (hf : x.form = 1) : pm_Met l E yX4_keep cX4_keep 5 none d 0 0 [.ref 15, .ref (z + 2), .int x2, .long x3] S I J P Q := by
  unfold pm_Met
  have hsl := hk.1
  have hrl := hO.2.2.2.2.2.2.2.2.2.2.2.1
  have hnl := hO.1.2
  have hix := (ns_at (hk.2.2.2.1 (by omega))).2
  obtain ⟨v1, v2⟩ := hv (by omega)
  subst v1 v2
  refine pm_lvs (lv' := [(0, _), (1, _), (2, _), (3, _)]) rfl ?_
  refine pw_aload_n dX4_keep_0 rfl ?_
  refine pw_callV (as := []) (kc' := 0) (ks' := 0) lX4_56 dX4_keep_1 rfl rfl (sh_lt hG (by decide)) (sh_tg hG 13 rfl) (Nat.le_of_ble_eq_true rfl) (by omega) (Nat.le_of_ble_eq_true rfl) (Nat.zero_le _) (Nat.zero_le _) ?_
  unfold pm_Met
  refine pm_lvs (lv' := [(0, _)]) rfl ?_
  refine pw_aload_n dX4_isFull_0 rfl ?_
  refine pw_getI fX4_49 dX4_isFull_1 (sh_lt hG (by decide)) (sh_tg hG 13 rfl) rfl ?_
  refine pw_bipush (v := nI 40) dX4_isFull_4 (by decide) ?_
  refine pw_icmpN_lt _ _ (tgt := 13) dX4_isFull_6 (by decide) (hc.k) (rfl) (by omega) (by omega) (fun hX4_isFull_6 => ?_) (fun hX4_isFull_6 => absurd hX4_isFull_6 (by omega))
  refine pw_iconst (v := nI 0) dX4_isFull_13 (by decide) ?_
  refine pw_zret dX4_isFull_14 rfl (by decide) ?_
  refine pw_if_eq (tgt := 8) dX4_keep_4 (by decide) (fun h4 => ?_) (fun h => absurd (by decide) h)
  refine pw_aload_n dX4_keep_8 rfl ?_
  refine pw_callV (as := []) (kc' := 0) (ks' := 0) lX4_60 dX4_keep_9 rfl rfl (by have := hx.1.2; omega) hx.tg (Nat.le_of_ble_eq_true rfl) (by omega) (Nat.le_of_ble_eq_true rfl) (Nat.zero_le _) (Nat.zero_le _) ?_
  unfold pm_Met
  refine pm_lvs (lv' := [(0, _)]) rfl ?_
  refine pw_aload_n dX5_form_0 rfl ?_
  refine pw_getI fX5_9 dX5_form_1 (by have := hx.1.2; omega) hx.tg rfl ?_
  refine pw_iret dX5_form_4 rfl ?_
  refine pw_ti (z := nI 1) (by rw [hx.fm, hf]) ?_
  refine pw_if_ne (tgt := 41) dX4_keep_12 (by decide) (fun h12 => ?_) (fun h => absurd h (by decide))
  refine pw_aload_n dX4_keep_41 rfl ?_
  refine pw_getR fX4_12 dX4_keep_42 (sh_lt hG (by decide)) (sh_tg hG 13 rfl) rfl (gr_at hP 15 rfl) ?_
  refine pw_aload_n dX4_keep_45 rfl ?_
  refine pw_callV (as := []) (kc' := 0) (ks' := 0) lX4_68 dX4_keep_46 rfl rfl (by have := hx.1.2; omega) hx.tg (Nat.le_of_ble_eq_true rfl) (by omega) (Nat.le_of_ble_eq_true rfl) (Nat.zero_le _) (Nat.zero_le _) ?_
  unfold pm_Met
  refine pm_lvs (lv' := [(0, _)]) rfl ?_
  refine pw_aload_n dX5_declared_0 rfl ?_
  refine pw_getI fX5_15 dX5_declared_1 (by have := hx.1.2; omega) hx.tg rfl ?_
  refine pw_iret dX5_declared_4 rfl ?_
  refine pw_ti (z := nI (A.ns.idxOf x.dec)) (by (repeat (rw [pm_u_ne (by have := hx.1.1; omega)])); exact hx.dc (by omega)) ?_
  refine pw_aload_n dX4_keep_49 rfl ?_
  refine pw_callV (as := []) (kc' := 0) (ks' := 0) lX4_60 dX4_keep_50 rfl rfl (by have := hx.1.2; omega) hx.tg (Nat.le_of_ble_eq_true rfl) (by omega) (Nat.le_of_ble_eq_true rfl) (Nat.zero_le _) (Nat.zero_le _) ?_
  unfold pm_Met
  refine pm_lvs (lv' := [(0, _)]) rfl ?_
  refine pw_aload_n dX5_form_0 rfl ?_
  refine pw_getI fX5_9 dX5_form_1 (by have := hx.1.2; omega) hx.tg rfl ?_
  refine pw_iret dX5_form_4 rfl ?_
  refine pw_ti (z := nI 1) (by (repeat (rw [pm_u_ne (by have := hx.1.1; omega)])); rw [hx.fm, hf]) ?_
  refine pw_aload_n dX4_keep_53 rfl ?_
  refine pw_getI fX4_49 dX4_keep_54 (sh_lt hG (by decide)) (sh_tg hG 13 rfl) rfl ?_
  refine pw_ti (z := nI A.sn.length) (by (repeat (first | rw [pm_u_ne (by decide)] | rw [pm_u_eq, pm_up_ne (by decide)])); exact hc.k) ?_
  refine pw_callV (as := [_, _, _]) (kc' := 0) (ks' := 0) lX4_71 dX4_keep_57 rfl rfl (sh_lt hG (by decide)) (sh_tg hG 14 rfl) (Nat.le_of_ble_eq_true rfl) (by omega) (Nat.le_of_ble_eq_true rfl) (Nat.zero_le _) (Nat.zero_le _) ?_
  refine c_decl0 hG hP (by omega) hc.n hix hnl (by omega) ?_
  refine pw_aload_n dX4_keep_60 rfl ?_
  refine pw_callV (as := []) (kc' := 0) (ks' := 0) lX4_60 dX4_keep_61 rfl rfl (by have := hx.1.2; omega) hx.tg (Nat.le_of_ble_eq_true rfl) (by omega) (Nat.le_of_ble_eq_true rfl) (Nat.zero_le _) (Nat.zero_le _) ?_
  unfold pm_Met
  refine pm_lvs (lv' := [(0, _)]) rfl ?_
  refine pw_aload_n dX5_form_0 rfl ?_
  refine pw_getI fX5_9 dX5_form_1 (by have := hx.1.2; omega) hx.tg rfl ?_
  refine pw_iret dX5_form_4 rfl ?_
  refine pw_ti (z := nI 1) (by (repeat (rw [pm_u_ne (by have := hx.1.1; omega)])); rw [hx.fm, hf]) ?_
  refine pw_iconst (v := nI 1) dX4_keep_64 (by decide) ?_
  refine pw_icmp_ne (tgt := 81) dX4_keep_65 (by decide) (fun h => absurd (by decide) h) (fun h65 => ?_)
  refine pw_aload_n dX4_keep_68 rfl ?_
  refine pw_getR fX4_30 dX4_keep_69 (sh_lt hG (by decide)) (sh_tg hG 13 rfl) rfl (gr_at hP 17 rfl) ?_
  refine pw_aload_n dX4_keep_72 rfl ?_
  refine pw_callV (as := []) (kc' := 0) (ks' := 0) lX4_68 dX4_keep_73 rfl rfl (by have := hx.1.2; omega) hx.tg (Nat.le_of_ble_eq_true rfl) (by omega) (Nat.le_of_ble_eq_true rfl) (Nat.zero_le _) (Nat.zero_le _) ?_
  unfold pm_Met
  refine pm_lvs (lv' := [(0, _)]) rfl ?_
  refine pw_aload_n dX5_declared_0 rfl ?_
  refine pw_getI fX5_15 dX5_declared_1 (by have := hx.1.2; omega) hx.tg rfl ?_
  refine pw_iret dX5_declared_4 rfl ?_
  refine pw_ti (z := nI (A.ns.idxOf x.dec)) (by (repeat (rw [pm_u_ne (by have := hx.1.1; omega)])); exact hx.dc (by omega)) ?_
  refine pw_iload_n dX4_keep_76 rfl ?_
  refine pw_lload_n dX4_keep_77 rfl ?_
  refine pw_callV (as := [_, _, _]) (kc' := 0) (ks' := 0) lX4_64 dX4_keep_78 rfl rfl (sh_lt hG (by decide)) (sh_tg hG 25 rfl) (Nat.le_of_ble_eq_true rfl) (by omega) (Nat.le_of_ble_eq_true rfl) (Nat.zero_le _) (Nat.zero_le _) ?_
  refine c_put27 hG hP (by omega) ?_
  refine pw_aload_n dX4_keep_81 rfl ?_
  refine pw_getR fX4_39 dX4_keep_82 (sh_lt hG (by decide)) (sh_tg hG 13 rfl) rfl (gr_at hP 19 rfl) ?_
  refine pw_aload_n dX4_keep_85 rfl ?_
  refine pw_getI fX4_49 dX4_keep_86 (sh_lt hG (by decide)) (sh_tg hG 13 rfl) rfl ?_
  refine pw_ti (z := nI A.sn.length) (by (repeat (first | rw [pm_u_ne (by decide)] | rw [pm_u_eq, pm_up_ne (by decide)])); exact hc.k) ?_
  refine pw_aload_n dX4_keep_89 rfl ?_
  refine pw_aastN (ci := 9) A.sn.length dX4_keep_90 (by decide) (sh_lt hG (by decide)) (sh_sh hG 31 rfl) (by decide) (by decide) (rfl) (by omega) (by have := hx.1.2; omega) hx.tg ?_
  refine pw_aload_n dX4_keep_91 rfl ?_
  refine pw_dup dX4_keep_92 rfl ?_
  refine pw_getI fX4_49 dX4_keep_93 (sh_lt hG (by decide)) (sh_tg hG 13 rfl) rfl ?_
  refine pw_iconst (v := nI 1) dX4_keep_96 (by decide) ?_
  refine pw_iadd dX4_keep_97 ?_
  refine pw_ti (z := nI (A.sn.length + 1)) (by (repeat (first | rw [pm_u_ne (by decide)] | rw [pm_u_eq, pm_up_ne (by decide)])); rw [hc.k]; exact nI_add _ 1) ?_
  refine pw_putI fX4_49 dX4_keep_98 (Or.inl rfl) (by decide) (sh_lt hG (by decide)) (sh_tg hG 13 rfl) rfl ?_
  refine pw_vret dX4_keep_101 rfl ?_
  have hK : kF I J P (pm_u (pm_u (pm_u (pm_u I 18 (A.ns.idxOf x.dec) (nI 1)) 19 (A.ns.idxOf x.dec) (nI A.sn.length)) 28 (A.ns.idxOf x.dec) (nI v.1)) 15 5 (nI (A.sn.length + 1))) (pm_u J 29 (A.ns.idxOf x.dec) v.2) (pm_u P 33 A.sn.length (some (z + 2))) := fun a ha => ⟨by repeat (rw [pm_u_ne (by omega)]), by first | with_reducible rfl | (repeat (rw [pm_u_ne (by omega)])), pm_u_ne (by omega)⟩
  exact k _ _ _ (hP.upd1 (by decide)) hK (hc.kp hO hk hK (hx.mv (Nat.le_refl _) (fun _ _ => rfl) (fun a h1 h2 => hK a (by have := hx.1.1; omega))) hz (by first | with_reducible rfl | (repeat (first | rw [pm_u_ne (by decide)] | rw [pm_u_eq]))) (by first | with_reducible rfl | (repeat (first | rw [pm_u_ne (by decide)] | rw [pm_u_eq]))) (by rw [if_neg (by omega), hf]; first | with_reducible rfl | (repeat (first | rw [pm_u_ne (by decide)] | rw [pm_u_eq]))) (by rw [if_neg (by omega)]; first | with_reducible rfl | (repeat (first | rw [pm_u_ne (by decide)] | rw [pm_u_eq]))) (by rw [if_neg (by omega)]; first | with_reducible rfl | (repeat (first | rw [pm_u_ne (by decide)] | rw [pm_u_eq]))) (by rw [if_pos (by omega)]; first | with_reducible rfl | (repeat (first | rw [pm_u_ne (by decide)] | rw [pm_u_eq]))) (by rw [if_pos (by omega)]; first | with_reducible rfl | (repeat (first | rw [pm_u_ne (by decide)] | rw [pm_u_eq]))) (by rw [if_neg (by omega)]; first | with_reducible rfl | (repeat (first | rw [pm_u_ne (by decide)] | rw [pm_u_eq]))) (by rw [if_neg (by omega)]; first | with_reducible rfl | (repeat (first | rw [pm_u_ne (by decide)] | rw [pm_u_eq]))) (by rw [pm_u_eq, pm_up_eq]) (by rw [if_neg (by omega)]; (repeat (first | rw [pm_u_ne (by decide)] | rw [pm_u_eq, pm_up_ne (by decide)]))) (by rw [pm_u_eq]))
set_option maxRecDepth 20000 in
set_option maxHeartbeats 400000 in
theorem c_keep2 {l : Launch} {E : pmE} {d : Nat} {S : pmS} {I : pmI} {J : pmJ} {P : pmP} {Q : Option Value → pmS → pmI → pmJ → pmP → Prop} (hG : sh_St S) (hP : gr_St P) (hd : 4 ≤ d) {A : aS} {Z : Nat → Nat} {b z : Nat} {x : sN} {v : vV} {t : List tH} {x2 : Int32} {x3 : Int64} (hc : cA S I J P A Z b) (hO : aO A) (hk : kO A x v t) (hx : snC S I J P A.ns z x) (hz : z + 8 ≤ b ∨ b + 5 ≤ z) (hv : x.form ≤ 1 → x2 = nI v.1 ∧ x3 = v.2) (k : ∀ I' J' P', gr_St P' → kF I J P I' J' P' → cA S I' J' P' (A.kp x v t) (va_up Z A.sn.length z) b → Q none S I' J' P') (hf : x.form = 2) : pm_Met l E yX4_keep cX4_keep 5 none d 0 0 [.ref 15, .ref (z + 2), .int x2, .long x3] S I J P Q := by
  unfold pm_Met
  have hsl := hk.1
  have hrl := hO.2.2.2.2.2.2.2.2.2.2.2.1
  have hnl := hO.1.2
  have hix := (ns_at (hk.2.2.2.1 (by omega))).2
  refine pm_lvs (lv' := [(0, _), (1, _), (2, _), (3, _)]) rfl ?_
  refine pw_aload_n dX4_keep_0 rfl ?_
  refine pw_callV (as := []) (kc' := 0) (ks' := 0) lX4_56 dX4_keep_1 rfl rfl (sh_lt hG (by decide)) (sh_tg hG 13 rfl) (Nat.le_of_ble_eq_true rfl) (by omega) (Nat.le_of_ble_eq_true rfl) (Nat.zero_le _) (Nat.zero_le _) ?_
  unfold pm_Met
  refine pm_lvs (lv' := [(0, _)]) rfl ?_
  refine pw_aload_n dX4_isFull_0 rfl ?_
  refine pw_getI fX4_49 dX4_isFull_1 (sh_lt hG (by decide)) (sh_tg hG 13 rfl) rfl ?_
  refine pw_bipush (v := nI 40) dX4_isFull_4 (by decide) ?_
  refine pw_icmpN_lt _ _ (tgt := 13) dX4_isFull_6 (by decide) (hc.k) (rfl) (by omega) (by omega) (fun hX4_isFull_6 => ?_) (fun hX4_isFull_6 => absurd hX4_isFull_6 (by omega))
  refine pw_iconst (v := nI 0) dX4_isFull_13 (by decide) ?_
  refine pw_zret dX4_isFull_14 rfl (by decide) ?_
  refine pw_if_eq (tgt := 8) dX4_keep_4 (by decide) (fun h4 => ?_) (fun h => absurd (by decide) h)
  refine pw_aload_n dX4_keep_8 rfl ?_
  refine pw_callV (as := []) (kc' := 0) (ks' := 0) lX4_60 dX4_keep_9 rfl rfl (by have := hx.1.2; omega) hx.tg (Nat.le_of_ble_eq_true rfl) (by omega) (Nat.le_of_ble_eq_true rfl) (Nat.zero_le _) (Nat.zero_le _) ?_
  unfold pm_Met
  refine pm_lvs (lv' := [(0, _)]) rfl ?_
  refine pw_aload_n dX5_form_0 rfl ?_
  refine pw_getI fX5_9 dX5_form_1 (by have := hx.1.2; omega) hx.tg rfl ?_
  refine pw_iret dX5_form_4 rfl ?_
  refine pw_ti (z := nI 2) (by rw [hx.fm, hf]) ?_
  refine pw_if_ne (tgt := 41) dX4_keep_12 (by decide) (fun h12 => ?_) (fun h => absurd h (by decide))
  refine pw_aload_n dX4_keep_41 rfl ?_
  refine pw_getR fX4_12 dX4_keep_42 (sh_lt hG (by decide)) (sh_tg hG 13 rfl) rfl (gr_at hP 15 rfl) ?_
  refine pw_aload_n dX4_keep_45 rfl ?_
  refine pw_callV (as := []) (kc' := 0) (ks' := 0) lX4_68 dX4_keep_46 rfl rfl (by have := hx.1.2; omega) hx.tg (Nat.le_of_ble_eq_true rfl) (by omega) (Nat.le_of_ble_eq_true rfl) (Nat.zero_le _) (Nat.zero_le _) ?_
  unfold pm_Met
  refine pm_lvs (lv' := [(0, _)]) rfl ?_
  refine pw_aload_n dX5_declared_0 rfl ?_
  refine pw_getI fX5_15 dX5_declared_1 (by have := hx.1.2; omega) hx.tg rfl ?_
  refine pw_iret dX5_declared_4 rfl ?_
  refine pw_ti (z := nI (A.ns.idxOf x.dec)) (by (repeat (rw [pm_u_ne (by have := hx.1.1; omega)])); exact hx.dc (by omega)) ?_
  refine pw_aload_n dX4_keep_49 rfl ?_
  refine pw_callV (as := []) (kc' := 0) (ks' := 0) lX4_60 dX4_keep_50 rfl rfl (by have := hx.1.2; omega) hx.tg (Nat.le_of_ble_eq_true rfl) (by omega) (Nat.le_of_ble_eq_true rfl) (Nat.zero_le _) (Nat.zero_le _) ?_
  unfold pm_Met
  refine pm_lvs (lv' := [(0, _)]) rfl ?_
  refine pw_aload_n dX5_form_0 rfl ?_
  refine pw_getI fX5_9 dX5_form_1 (by have := hx.1.2; omega) hx.tg rfl ?_
  refine pw_iret dX5_form_4 rfl ?_
  refine pw_ti (z := nI 2) (by (repeat (rw [pm_u_ne (by have := hx.1.1; omega)])); rw [hx.fm, hf]) ?_
  refine pw_aload_n dX4_keep_53 rfl ?_
  refine pw_getI fX4_49 dX4_keep_54 (sh_lt hG (by decide)) (sh_tg hG 13 rfl) rfl ?_
  refine pw_ti (z := nI A.sn.length) (by (repeat (first | rw [pm_u_ne (by decide)] | rw [pm_u_eq, pm_up_ne (by decide)])); exact hc.k) ?_
  refine pw_callV (as := [_, _, _]) (kc' := 0) (ks' := 0) lX4_71 dX4_keep_57 rfl rfl (sh_lt hG (by decide)) (sh_tg hG 14 rfl) (Nat.le_of_ble_eq_true rfl) (by omega) (Nat.le_of_ble_eq_true rfl) (Nat.zero_le _) (Nat.zero_le _) ?_
  refine c_decl0 hG hP (by omega) hc.n hix hnl (by omega) ?_
  refine pw_aload_n dX4_keep_60 rfl ?_
  refine pw_callV (as := []) (kc' := 0) (ks' := 0) lX4_60 dX4_keep_61 rfl rfl (by have := hx.1.2; omega) hx.tg (Nat.le_of_ble_eq_true rfl) (by omega) (Nat.le_of_ble_eq_true rfl) (Nat.zero_le _) (Nat.zero_le _) ?_
  unfold pm_Met
  refine pm_lvs (lv' := [(0, _)]) rfl ?_
  refine pw_aload_n dX5_form_0 rfl ?_
  refine pw_getI fX5_9 dX5_form_1 (by have := hx.1.2; omega) hx.tg rfl ?_
  refine pw_iret dX5_form_4 rfl ?_
  refine pw_ti (z := nI 2) (by (repeat (rw [pm_u_ne (by have := hx.1.1; omega)])); rw [hx.fm, hf]) ?_
  refine pw_iconst (v := nI 1) dX4_keep_64 (by decide) ?_
  refine pw_icmp_ne (tgt := 81) dX4_keep_65 (by decide) (fun h65 => ?_) (fun h => absurd h (by decide))
  refine pw_aload_n dX4_keep_81 rfl ?_
  refine pw_getR fX4_39 dX4_keep_82 (sh_lt hG (by decide)) (sh_tg hG 13 rfl) rfl (gr_at hP 19 rfl) ?_
  refine pw_aload_n dX4_keep_85 rfl ?_
  refine pw_getI fX4_49 dX4_keep_86 (sh_lt hG (by decide)) (sh_tg hG 13 rfl) rfl ?_
  refine pw_ti (z := nI A.sn.length) (by (repeat (first | rw [pm_u_ne (by decide)] | rw [pm_u_eq, pm_up_ne (by decide)])); exact hc.k) ?_
  refine pw_aload_n dX4_keep_89 rfl ?_
  refine pw_aastN (ci := 9) A.sn.length dX4_keep_90 (by decide) (sh_lt hG (by decide)) (sh_sh hG 31 rfl) (by decide) (by decide) (rfl) (by omega) (by have := hx.1.2; omega) hx.tg ?_
  refine pw_aload_n dX4_keep_91 rfl ?_
  refine pw_dup dX4_keep_92 rfl ?_
  refine pw_getI fX4_49 dX4_keep_93 (sh_lt hG (by decide)) (sh_tg hG 13 rfl) rfl ?_
  refine pw_iconst (v := nI 1) dX4_keep_96 (by decide) ?_
  refine pw_iadd dX4_keep_97 ?_
  refine pw_ti (z := nI (A.sn.length + 1)) (by (repeat (first | rw [pm_u_ne (by decide)] | rw [pm_u_eq, pm_up_ne (by decide)])); rw [hc.k]; exact nI_add _ 1) ?_
  refine pw_putI fX4_49 dX4_keep_98 (Or.inl rfl) (by decide) (sh_lt hG (by decide)) (sh_tg hG 13 rfl) rfl ?_
  refine pw_vret dX4_keep_101 rfl ?_
  have hK : kF I J P (pm_u (pm_u (pm_u I 18 (A.ns.idxOf x.dec) (nI 2)) 19 (A.ns.idxOf x.dec) (nI A.sn.length)) 15 5 (nI (A.sn.length + 1))) J (pm_u P 33 A.sn.length (some (z + 2))) := fun a ha => ⟨by repeat (rw [pm_u_ne (by omega)]), by first | with_reducible rfl | (repeat (rw [pm_u_ne (by omega)])), pm_u_ne (by omega)⟩
  exact k _ _ _ (hP.upd1 (by decide)) hK (hc.kp hO hk hK (hx.mv (Nat.le_refl _) (fun _ _ => rfl) (fun a h1 h2 => hK a (by have := hx.1.1; omega))) hz (by first | with_reducible rfl | (repeat (first | rw [pm_u_ne (by decide)] | rw [pm_u_eq]))) (by first | with_reducible rfl | (repeat (first | rw [pm_u_ne (by decide)] | rw [pm_u_eq]))) (by rw [if_neg (by omega), hf]; first | with_reducible rfl | (repeat (first | rw [pm_u_ne (by decide)] | rw [pm_u_eq]))) (by rw [if_neg (by omega)]; first | with_reducible rfl | (repeat (first | rw [pm_u_ne (by decide)] | rw [pm_u_eq]))) (by rw [if_neg (by omega)]; first | with_reducible rfl | (repeat (first | rw [pm_u_ne (by decide)] | rw [pm_u_eq]))) (by rw [if_neg (by omega)]; first | with_reducible rfl | (repeat (first | rw [pm_u_ne (by decide)] | rw [pm_u_eq]))) (by rw [if_neg (by omega)]; first | with_reducible rfl | (repeat (first | rw [pm_u_ne (by decide)] | rw [pm_u_eq]))) (by rw [if_neg (by omega)]; first | with_reducible rfl | (repeat (first | rw [pm_u_ne (by decide)] | rw [pm_u_eq]))) (by rw [if_neg (by omega)]; first | with_reducible rfl | (repeat (first | rw [pm_u_ne (by decide)] | rw [pm_u_eq]))) (by rw [pm_u_eq, pm_up_eq]) (by rw [if_neg (by omega)]; (repeat (first | rw [pm_u_ne (by decide)] | rw [pm_u_eq, pm_up_ne (by decide)]))) (by rw [pm_u_eq]))
set_option maxRecDepth 20000 in
set_option maxHeartbeats 400000 in
theorem c_keep3 {l : Launch} {E : pmE} {d : Nat} {S : pmS} {I : pmI} {J : pmJ} {P : pmP} {Q : Option Value → pmS → pmI → pmJ → pmP → Prop} (hG : sh_St S) (hP : gr_St P) (hd : 4 ≤ d) {A : aS} {Z : Nat → Nat} {b z : Nat} {x : sN} {v : vV} {t : List tH} {x2 : Int32} {x3 : Int64} (hc : cA S I J P A Z b) (hO : aO A) (hk : kO A x v t) (hx : snC S I J P A.ns z x) (hz : z + 8 ≤ b ∨ b + 5 ≤ z) (hv : x.form ≤ 1 → x2 = nI v.1 ∧ x3 = v.2) (k : ∀ I' J' P', gr_St P' → kF I J P I' J' P' → cA S I' J' P' (A.kp x v t) (va_up Z A.sn.length z) b → Q none S I' J' P') (hf : x.form = 3) : pm_Met l E yX4_keep cX4_keep 5 none d 0 0 [.ref 15, .ref (z + 2), .int x2, .long x3] S I J P Q := by
  unfold pm_Met
  have hsl := hk.1
  have hrl := hO.2.2.2.2.2.2.2.2.2.2.2.1
  have hnl := hO.1.2
  have hix := (ns_at (hk.2.2.2.1 (by omega))).2
  refine pm_lvs (lv' := [(0, _), (1, _), (2, _), (3, _)]) rfl ?_
  refine pw_aload_n dX4_keep_0 rfl ?_
  refine pw_callV (as := []) (kc' := 0) (ks' := 0) lX4_56 dX4_keep_1 rfl rfl (sh_lt hG (by decide)) (sh_tg hG 13 rfl) (Nat.le_of_ble_eq_true rfl) (by omega) (Nat.le_of_ble_eq_true rfl) (Nat.zero_le _) (Nat.zero_le _) ?_
  unfold pm_Met
  refine pm_lvs (lv' := [(0, _)]) rfl ?_
  refine pw_aload_n dX4_isFull_0 rfl ?_
  refine pw_getI fX4_49 dX4_isFull_1 (sh_lt hG (by decide)) (sh_tg hG 13 rfl) rfl ?_
  refine pw_bipush (v := nI 40) dX4_isFull_4 (by decide) ?_
  refine pw_icmpN_lt _ _ (tgt := 13) dX4_isFull_6 (by decide) (hc.k) (rfl) (by omega) (by omega) (fun hX4_isFull_6 => ?_) (fun hX4_isFull_6 => absurd hX4_isFull_6 (by omega))
  refine pw_iconst (v := nI 0) dX4_isFull_13 (by decide) ?_
  refine pw_zret dX4_isFull_14 rfl (by decide) ?_
  refine pw_if_eq (tgt := 8) dX4_keep_4 (by decide) (fun h4 => ?_) (fun h => absurd (by decide) h)
  refine pw_aload_n dX4_keep_8 rfl ?_
  refine pw_callV (as := []) (kc' := 0) (ks' := 0) lX4_60 dX4_keep_9 rfl rfl (by have := hx.1.2; omega) hx.tg (Nat.le_of_ble_eq_true rfl) (by omega) (Nat.le_of_ble_eq_true rfl) (Nat.zero_le _) (Nat.zero_le _) ?_
  unfold pm_Met
  refine pm_lvs (lv' := [(0, _)]) rfl ?_
  refine pw_aload_n dX5_form_0 rfl ?_
  refine pw_getI fX5_9 dX5_form_1 (by have := hx.1.2; omega) hx.tg rfl ?_
  refine pw_iret dX5_form_4 rfl ?_
  refine pw_ti (z := nI 3) (by rw [hx.fm, hf]) ?_
  refine pw_if_ne (tgt := 41) dX4_keep_12 (by decide) (fun h12 => ?_) (fun h => absurd h (by decide))
  refine pw_aload_n dX4_keep_41 rfl ?_
  refine pw_getR fX4_12 dX4_keep_42 (sh_lt hG (by decide)) (sh_tg hG 13 rfl) rfl (gr_at hP 15 rfl) ?_
  refine pw_aload_n dX4_keep_45 rfl ?_
  refine pw_callV (as := []) (kc' := 0) (ks' := 0) lX4_68 dX4_keep_46 rfl rfl (by have := hx.1.2; omega) hx.tg (Nat.le_of_ble_eq_true rfl) (by omega) (Nat.le_of_ble_eq_true rfl) (Nat.zero_le _) (Nat.zero_le _) ?_
  unfold pm_Met
  refine pm_lvs (lv' := [(0, _)]) rfl ?_
  refine pw_aload_n dX5_declared_0 rfl ?_
  refine pw_getI fX5_15 dX5_declared_1 (by have := hx.1.2; omega) hx.tg rfl ?_
  refine pw_iret dX5_declared_4 rfl ?_
  refine pw_ti (z := nI (A.ns.idxOf x.dec)) (by (repeat (rw [pm_u_ne (by have := hx.1.1; omega)])); exact hx.dc (by omega)) ?_
  refine pw_aload_n dX4_keep_49 rfl ?_
  refine pw_callV (as := []) (kc' := 0) (ks' := 0) lX4_60 dX4_keep_50 rfl rfl (by have := hx.1.2; omega) hx.tg (Nat.le_of_ble_eq_true rfl) (by omega) (Nat.le_of_ble_eq_true rfl) (Nat.zero_le _) (Nat.zero_le _) ?_
  unfold pm_Met
  refine pm_lvs (lv' := [(0, _)]) rfl ?_
  refine pw_aload_n dX5_form_0 rfl ?_
  refine pw_getI fX5_9 dX5_form_1 (by have := hx.1.2; omega) hx.tg rfl ?_
  refine pw_iret dX5_form_4 rfl ?_
  refine pw_ti (z := nI 3) (by (repeat (rw [pm_u_ne (by have := hx.1.1; omega)])); rw [hx.fm, hf]) ?_
  refine pw_aload_n dX4_keep_53 rfl ?_
  refine pw_getI fX4_49 dX4_keep_54 (sh_lt hG (by decide)) (sh_tg hG 13 rfl) rfl ?_
  refine pw_ti (z := nI A.sn.length) (by (repeat (first | rw [pm_u_ne (by decide)] | rw [pm_u_eq, pm_up_ne (by decide)])); exact hc.k) ?_
  refine pw_callV (as := [_, _, _]) (kc' := 0) (ks' := 0) lX4_71 dX4_keep_57 rfl rfl (sh_lt hG (by decide)) (sh_tg hG 14 rfl) (Nat.le_of_ble_eq_true rfl) (by omega) (Nat.le_of_ble_eq_true rfl) (Nat.zero_le _) (Nat.zero_le _) ?_
  refine c_decl1 hG hP (by omega) hc.n hix hnl (by omega) ?_
  refine pw_aload_n dX4_keep_60 rfl ?_
  refine pw_callV (as := []) (kc' := 0) (ks' := 0) lX4_60 dX4_keep_61 rfl rfl (by have := hx.1.2; omega) hx.tg (Nat.le_of_ble_eq_true rfl) (by omega) (Nat.le_of_ble_eq_true rfl) (Nat.zero_le _) (Nat.zero_le _) ?_
  unfold pm_Met
  refine pm_lvs (lv' := [(0, _)]) rfl ?_
  refine pw_aload_n dX5_form_0 rfl ?_
  refine pw_getI fX5_9 dX5_form_1 (by have := hx.1.2; omega) hx.tg rfl ?_
  refine pw_iret dX5_form_4 rfl ?_
  refine pw_ti (z := nI 3) (by (repeat (rw [pm_u_ne (by have := hx.1.1; omega)])); rw [hx.fm, hf]) ?_
  refine pw_iconst (v := nI 1) dX4_keep_64 (by decide) ?_
  refine pw_icmp_ne (tgt := 81) dX4_keep_65 (by decide) (fun h65 => ?_) (fun h => absurd h (by decide))
  refine pw_aload_n dX4_keep_81 rfl ?_
  refine pw_getR fX4_39 dX4_keep_82 (sh_lt hG (by decide)) (sh_tg hG 13 rfl) rfl (gr_at hP 19 rfl) ?_
  refine pw_aload_n dX4_keep_85 rfl ?_
  refine pw_getI fX4_49 dX4_keep_86 (sh_lt hG (by decide)) (sh_tg hG 13 rfl) rfl ?_
  refine pw_ti (z := nI A.sn.length) (by (repeat (first | rw [pm_u_ne (by decide)] | rw [pm_u_eq, pm_up_ne (by decide)])); exact hc.k) ?_
  refine pw_aload_n dX4_keep_89 rfl ?_
  refine pw_aastN (ci := 9) A.sn.length dX4_keep_90 (by decide) (sh_lt hG (by decide)) (sh_sh hG 31 rfl) (by decide) (by decide) (rfl) (by omega) (by have := hx.1.2; omega) hx.tg ?_
  refine pw_aload_n dX4_keep_91 rfl ?_
  refine pw_dup dX4_keep_92 rfl ?_
  refine pw_getI fX4_49 dX4_keep_93 (sh_lt hG (by decide)) (sh_tg hG 13 rfl) rfl ?_
  refine pw_iconst (v := nI 1) dX4_keep_96 (by decide) ?_
  refine pw_iadd dX4_keep_97 ?_
  refine pw_ti (z := nI (A.sn.length + 1)) (by (repeat (first | rw [pm_u_ne (by decide)] | rw [pm_u_eq, pm_up_ne (by decide)])); rw [hc.k]; exact nI_add _ 1) ?_
  refine pw_putI fX4_49 dX4_keep_98 (Or.inl rfl) (by decide) (sh_lt hG (by decide)) (sh_tg hG 13 rfl) rfl ?_
  refine pw_vret dX4_keep_101 rfl ?_
  have hK : kF I J P (pm_u (pm_u (pm_u (pm_u I 18 (A.ns.idxOf x.dec) (nI 3)) 19 (A.ns.idxOf x.dec) (nI A.sn.length)) 20 (A.ns.idxOf x.dec) (I 20 (A.ns.idxOf x.dec) + nI 1)) 15 5 (nI (A.sn.length + 1))) J (pm_u P 33 A.sn.length (some (z + 2))) := fun a ha => ⟨by repeat (rw [pm_u_ne (by omega)]), by first | with_reducible rfl | (repeat (rw [pm_u_ne (by omega)])), pm_u_ne (by omega)⟩
  exact k _ _ _ (hP.upd1 (by decide)) hK (hc.kp hO hk hK (hx.mv (Nat.le_refl _) (fun _ _ => rfl) (fun a h1 h2 => hK a (by have := hx.1.1; omega))) hz (by first | with_reducible rfl | (repeat (first | rw [pm_u_ne (by decide)] | rw [pm_u_eq]))) (by first | with_reducible rfl | (repeat (first | rw [pm_u_ne (by decide)] | rw [pm_u_eq]))) (by rw [if_neg (by omega), hf]; first | with_reducible rfl | (repeat (first | rw [pm_u_ne (by decide)] | rw [pm_u_eq]))) (by rw [if_neg (by omega)]; first | with_reducible rfl | (repeat (first | rw [pm_u_ne (by decide)] | rw [pm_u_eq]))) (by rw [if_pos (by omega)]; first | with_reducible rfl | (repeat (first | rw [pm_u_ne (by decide)] | rw [pm_u_eq]))) (by rw [if_neg (by omega)]; first | with_reducible rfl | (repeat (first | rw [pm_u_ne (by decide)] | rw [pm_u_eq]))) (by rw [if_neg (by omega)]; first | with_reducible rfl | (repeat (first | rw [pm_u_ne (by decide)] | rw [pm_u_eq]))) (by rw [if_neg (by omega)]; first | with_reducible rfl | (repeat (first | rw [pm_u_ne (by decide)] | rw [pm_u_eq]))) (by rw [if_neg (by omega)]; first | with_reducible rfl | (repeat (first | rw [pm_u_ne (by decide)] | rw [pm_u_eq]))) (by rw [pm_u_eq, pm_up_eq]) (by rw [if_neg (by omega)]; (repeat (first | rw [pm_u_ne (by decide)] | rw [pm_u_eq, pm_up_ne (by decide)]))) (by rw [pm_u_eq]))
theorem c_keep {l : Launch} {E : pmE} {d : Nat} {S : pmS} {I : pmI} {J : pmJ} {P : pmP} {Q : Option Value → pmS → pmI → pmJ → pmP → Prop} (hG : sh_St S) (hP : gr_St P) (hd : 4 ≤ d) {A : aS} {Z : Nat → Nat} {b z : Nat} {x : sN} {v : vV} {t : List tH} {x2 : Int32} {x3 : Int64} (hc : cA S I J P A Z b) (hO : aO A) (hk : kO A x v t) (hx : snC S I J P A.ns z x) (hz : z + 8 ≤ b ∨ b + 5 ≤ z) (hv : x.form ≤ 1 → x2 = nI v.1 ∧ x3 = v.2) (k : ∀ I' J' P', gr_St P' → kF I J P I' J' P' → cA S I' J' P' (A.kp x v t) (va_up Z A.sn.length z) b → Q none S I' J' P') : pm_Met l E yX4_keep cX4_keep 5 none d 0 0 [.ref 15, .ref (z + 2), .int x2, .long x3] S I J P Q := by
  rcases (show x.form = 0 ∨ x.form = 1 ∨ x.form = 2 ∨ x.form = 3 by have := hk.2.1; omega) with hf | hf | hf | hf
  · exact c_keep0 hG hP hd hc hO hk hx hz hv k hf
  · exact c_keep1 hG hP hd hc hO hk hx hz hv k hf
  · exact c_keep2 hG hP hd hc hO hk hx hz hv k hf
  · exact c_keep3 hG hP hd hc hO hk hx hz hv k hf
