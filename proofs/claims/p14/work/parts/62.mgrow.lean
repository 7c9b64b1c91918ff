theorem lm_304 : pm_LM RJ7 304 Lib.Math.min.name Lib.Math.min.code := ⟨pm_in1 838 (by decide +kernel) (by decide +kernel), pm_in1 465 (by decide +kernel) (by decide +kernel), pm_in1 104 (by decide +kernel) (by decide +kernel), pm_in1 466 (by decide +kernel) (by decide +kernel)⟩
theorem pn_1 {S : pmS} {t n : Nat} : (pm_new S t n).1 = S.1 + 1 := rfl
theorem pn_eq {S : pmS} {t n : Nat} : (pm_new S t n).2 S.1 = (t, n) := pm_up_eq
theorem pn_ne {S : pmS} {t n a : Nat} (h : a ≠ S.1) : (pm_new S t n).2 a = S.2 a := pm_up_ne h
theorem min_nI {a b : Nat} (ha : a < 2 ^ 31) (hb : b < 2 ^ 31) : (if nI b < nI a then nI b else nI a) = nI (min a b) := by
  by_cases h : b < a
  · rw [if_pos ((nI_ltI hb ha).mpr h), Nat.min_eq_right (by omega)]
  · rw [if_neg (fun q => h ((nI_ltI hb ha).mp q)), Nat.min_eq_left (by omega)]
set_option maxRecDepth 20000 in
set_option maxHeartbeats 4000000 in
theorem cp_I {l : Launch} {E : pmE} {d : Nat} {S : pmS} {I : pmI} {J : pmJ} {P : pmP} {Q : Option Value → pmS → pmI → pmJ → pmP → Prop} {a n0 N : Nat} (hd : 2 ≤ d) (ha : a < S.1) (hs2 : 2 ≤ S.1) (hs : S.2 a = (100, n0)) (hne : n0 < N) (hN : N ≤ 200000) (k : ∀ I', (∀ b, b ≠ S.1 → I' b = I b) → (∀ j, j < n0 → I' S.1 j = I a j) → Q (some (.ref S.1)) (pm_new S 100 N) I' J P) : pm_Met l E yJ7_copyOf_59c91 cJ7_copyOf_59c91 3 (some (.array .int)) d 1 N [.ref a, .int (nI N)] S I J P Q := by
  unfold pm_Met
  refine pm_lvs (lv' := [(0, _), (1, _)]) rfl ?_
  refine pw_iload_n dJ7_copyOf_59c91_0 rfl ?_
  refine pw_aload_n dJ7_copyOf_59c91_1 rfl ?_
  refine pw_alen dJ7_copyOf_59c91_2 ha hs (by decide) (by decide) ?_
  refine pw_icmpN_ne _ _ (tgt := 14) dJ7_copyOf_59c91_3 (by decide) rfl rfl (by omega) (by omega) (fun _ => ?_) (fun h => absurd h (by omega))
  refine pw_iload_n dJ7_copyOf_59c91_14 rfl ?_
  refine pw_newa (t := 100) (N := N) dJ7_copyOf_59c91_15 (by decide) ar_int (nI_pos (by omega)) (nI_clamp (by omega)) (by omega) (Nat.le_refl _) (Nat.le_refl _) (fun hI hJ => ?_)
  refine pw_astore_n (lv' := [(2, _), (0, _), (1, _)]) dJ7_copyOf_59c91_17 (by decide) rfl ?_
  refine pw_aload_n dJ7_copyOf_59c91_18 rfl ?_
  refine pw_iconst (v := nI 0) dJ7_copyOf_59c91_19 (by decide) ?_
  refine pw_aload_n dJ7_copyOf_59c91_20 rfl ?_
  refine pw_iconst (v := nI 0) dJ7_copyOf_59c91_21 (by decide) ?_
  refine pw_aload_n dJ7_copyOf_59c91_22 rfl ?_
  have hsn : (pm_new S 100 N).2 a = (100, n0) := by rw [pn_ne (by omega)]; exact hs
  have han : a < (pm_new S 100 N).1 := by rw [pn_1]; omega
  refine pw_alen dJ7_copyOf_59c91_23 han hsn (by decide) (by decide) ?_
  refine pw_iload_n dJ7_copyOf_59c91_24 rfl ?_
  refine pw_min lm_304 dJ7_copyOf_59c91_25 (by omega) (Nat.le_of_ble_eq_true rfl) ?_
  refine pw_ti (z := nI n0) (by rw [show Int32.ofNat n0 = nI n0 from rfl, min_nI (by omega) (by omega), Nat.min_eq_left (by omega)]) ?_
  refine pw_copyI acJ7_150 dJ7_copyOf_59c91_28 (Or.inl rfl) han hs2 (by rw [pn_1]; omega) hsn pn_eq (nI_pos (by decide)) (nI_pos (by decide)) (nI_pos (by omega)) (by rw [nI_clamp (by decide), nI_clamp (by omega)]; omega) (by rw [nI_clamp (by decide), nI_clamp (by omega)]; omega) (by omega) (Nat.le_of_ble_eq_true rfl) ?_
  refine pw_aload_n dJ7_copyOf_59c91_31 rfl ?_
  exact pw_aret (r := some S.1) dJ7_copyOf_59c91_32 rfl (by first | exact Or.inl ⟨_, rfl⟩ | exact Or.inr ⟨_, rfl⟩) (k _ (fun b hb => pm_up_ne hb) (fun j hj => by
    rw [pm_up_eq, nI_clamp (by decide), nI_clamp (by omega)]
    unfold va_cpy
    rw [if_pos (by omega)]
    congr 1
    omega))
set_option maxRecDepth 20000 in
set_option maxHeartbeats 4000000 in
theorem cp_J {l : Launch} {E : pmE} {d : Nat} {S : pmS} {I : pmI} {J : pmJ} {P : pmP} {Q : Option Value → pmS → pmI → pmJ → pmP → Prop} {a n0 N : Nat} (hd : 2 ≤ d) (ha : a < S.1) (hs2 : 2 ≤ S.1) (hs : S.2 a = (101, n0)) (hne : n0 < N) (hN : N ≤ 200000) (k : ∀ J', (∀ b, b ≠ S.1 → J' b = J b) → (∀ j, j < n0 → J' S.1 j = J a j) → Q (some (.ref S.1)) (pm_new S 101 N) I J' P) : pm_Met l E yJ7_copyOf_c38d5 cJ7_copyOf_c38d5 3 (some (.array .long)) d 1 N [.ref a, .int (nI N)] S I J P Q := by
  unfold pm_Met
  refine pm_lvs (lv' := [(0, _), (1, _)]) rfl ?_
  refine pw_iload_n dJ7_copyOf_c38d5_0 rfl ?_
  refine pw_aload_n dJ7_copyOf_c38d5_1 rfl ?_
  refine pw_alen dJ7_copyOf_c38d5_2 ha hs (by decide) (by decide) ?_
  refine pw_icmpN_ne _ _ (tgt := 14) dJ7_copyOf_c38d5_3 (by decide) rfl rfl (by omega) (by omega) (fun _ => ?_) (fun h => absurd h (by omega))
  refine pw_iload_n dJ7_copyOf_c38d5_14 rfl ?_
  refine pw_newa (t := 101) (N := N) dJ7_copyOf_c38d5_15 (by decide) ar_long (nI_pos (by omega)) (nI_clamp (by omega)) (by omega) (Nat.le_refl _) (Nat.le_refl _) (fun hI hJ => ?_)
  refine pw_astore_n (lv' := [(2, _), (0, _), (1, _)]) dJ7_copyOf_c38d5_17 (by decide) rfl ?_
  refine pw_aload_n dJ7_copyOf_c38d5_18 rfl ?_
  refine pw_iconst (v := nI 0) dJ7_copyOf_c38d5_19 (by decide) ?_
  refine pw_aload_n dJ7_copyOf_c38d5_20 rfl ?_
  refine pw_iconst (v := nI 0) dJ7_copyOf_c38d5_21 (by decide) ?_
  refine pw_aload_n dJ7_copyOf_c38d5_22 rfl ?_
  have hsn : (pm_new S 101 N).2 a = (101, n0) := by rw [pn_ne (by omega)]; exact hs
  have han : a < (pm_new S 101 N).1 := by rw [pn_1]; omega
  refine pw_alen dJ7_copyOf_c38d5_23 han hsn (by decide) (by decide) ?_
  refine pw_iload_n dJ7_copyOf_c38d5_24 rfl ?_
  refine pw_min lm_304 dJ7_copyOf_c38d5_25 (by omega) (Nat.le_of_ble_eq_true rfl) ?_
  refine pw_ti (z := nI n0) (by rw [show Int32.ofNat n0 = nI n0 from rfl, min_nI (by omega) (by omega), Nat.min_eq_left (by omega)]) ?_
  refine pw_copyJ acJ7_150 dJ7_copyOf_c38d5_28 han hs2 (by rw [pn_1]; omega) hsn pn_eq (nI_pos (by decide)) (nI_pos (by decide)) (nI_pos (by omega)) (by rw [nI_clamp (by decide), nI_clamp (by omega)]; omega) (by rw [nI_clamp (by decide), nI_clamp (by omega)]; omega) (by omega) (Nat.le_of_ble_eq_true rfl) ?_
  refine pw_aload_n dJ7_copyOf_c38d5_31 rfl ?_
  exact pw_aret (r := some S.1) dJ7_copyOf_c38d5_32 rfl (by first | exact Or.inl ⟨_, rfl⟩ | exact Or.inr ⟨_, rfl⟩) (k _ (fun b hb => pm_up_ne hb) (fun j hj => by
    rw [pm_up_eq, nI_clamp (by decide), nI_clamp (by omega)]
    unfold va_cpy
    rw [if_pos (by omega)]
    congr 1
    omega))
theorem tC.grow {S S' : pmS} {I I' : pmI} {J J' : pmJ} {P P' : pmP} {A : aS} {t : List tH} {b m : Nat} (ht : tC S I J P A t b m) (hm : 2 * m ≤ 32000) (h95 : 95 ≤ S.1) (h1 : S'.1 = S.1 + 5) (s0 : S'.2 S.1 = (100, 2 * m)) (s1 : S'.2 (S.1 + 1) = (100, 2 * m)) (s2 : S'.2 (S.1 + 2) = (100, 2 * m)) (s3 : S'.2 (S.1 + 3) = (100, 3 * (2 * m))) (s4 : S'.2 (S.1 + 4) = (101, 3 * (2 * m))) (p0 : P' 21 0 = some S.1) (p1 : P' 21 1 = some (S.1 + 1)) (p2 : P' 21 2 = some (S.1 + 2)) (p3 : P' 21 3 = some (S.1 + 3)) (p4 : P' 21 4 = some (S.1 + 4)) (hI : I' 21 = I 21) (c0 : ∀ j, j < m → I' S.1 j = I b j) (c1 : ∀ j, j < m → I' (S.1 + 1) j = I (b + 1) j) (c2 : ∀ j, j < m → I' (S.1 + 2) j = I (b + 2) j) (c3 : ∀ j, j < 3 * m → I' (S.1 + 3) j = I (b + 3) j) (c4 : ∀ j, j < 3 * m → J' (S.1 + 4) j = J (b + 4) j) (hv3 : ∀ q ∈ t, q.2.length ≤ 3) : tC S' I' J' P' A t S.1 (2 * m) := by
  have hl := ht.l
  have hm' := ht.m'
  refine ⟨⟨Or.inr h95, by omega⟩, ⟨p0, p1, p2, p3, p4⟩, ⟨s0, s1, s2, s3, s4⟩, ⟨by omega, hm⟩, by omega, by rw [hI]; exact ht.n, fun j s vs hj => ?_⟩
  have hjl := (List.getElem?_eq_some_iff.mp hj).1
  have hvs : vs.length ≤ 3 := hv3 (s, vs) (List.mem_of_getElem? hj)
  obtain ⟨g1, g2, g3, g4⟩ := ht.at hj
  refine ⟨by rw [c0 j (by omega)]; exact g1, by rw [c1 j (by omega)]; exact g2, by rw [c2 j (by omega)]; exact g3, fun i v hi => ?_⟩
  have hil := (List.getElem?_eq_some_iff.mp hi).1
  rw [c3 _ (by omega), c4 _ (by omega)]
  exact g4 i v hi
theorem mS.grow {S0 : pmS} {I0 : pmI} {J0 : pmJ} {P0 : pmP} {b0 : Nat} {A : aS} {c i bs s b m : Nat} {w : Int32} {rv : List vV} {fr : List (Nat × Nat × Nat)} {t : List tH} {S S' : pmS} {I I' : pmI} {J J' : pmJ} {P P' : pmP} (h : mS S0 I0 J0 P0 b0 A S I J P c w i bs rv fr s t b m) {b' m' : Nat} (hG : sh_St S') (hP : gr_St P') (h1 : S'.1 = S.1 + 5) (hs : ∀ a, a < S.1 → S'.2 a = S.2 a) (hb : b' = S.1) (ht : tC S' I' J' P' A t b' m') (hI : ∀ a, a < S.1 → I' a = I a) (hJ : ∀ a, a < S.1 → J' a = J a) (hPp : ∀ a, a ≠ 21 → P' a = P a) : mS S0 I0 J0 P0 b0 A S' I' J' P' c w i bs rv fr s t b' m' := by
  have h95 : 95 ≤ S.1 := Nat.le_of_succ_le h.hG.1
  have hF := h.fr'
  refine ⟨⟨hG, hP, ⟨by have := hF.1; omega, fun a ha => by rw [hs a (by have := hF.1; omega)]; exact hF.2.1 a ha, fun a hx ha => ?_⟩, h.1.2.2.2.1, Or.inr (by rw [hb]; exact hF.1), h.1.2.2.2.2.2⟩, ht, ?_, h.lm, ?_, ?_⟩
  · have e := hF.2.2 a hx ha
    rw [hI a (by have := hF.1; omega), hJ a (by have := hF.1; omega), hPp a hx.1]
    exact e
  · rw [hI 34 (by omega), hI 41 (by omega), hPp 34 (by decide)]
    exact h.2.2.1
  · rw [hI 36 (by omega), hJ 37 (by omega)]
    exact h.row
  · rw [hPp 38 (by decide), hI 39 (by omega), hI 40 (by omega)]
    exact h.frm
set_option maxRecDepth 20000 in
set_option maxHeartbeats 4000000 in
theorem m_double {l : Launch} {E : pmE} {d : Nat} {S : pmS} {I : pmI} {J : pmJ} {P : pmP} {Q : Option Value → pmS → pmI → pmJ → pmP → Prop} {S0 : pmS} {I0 : pmI} {J0 : pmJ} {P0 : pmP} {b0 : Nat} {A : aS} {c i bs s b m : Nat} {w : Int32} {rv : List vV} {fr : List (Nat × Nat × Nat)} {t : List tH} (h : mS S0 I0 J0 P0 b0 A S I J P c w i bs rv fr s t b m) (hd : 3 ≤ d) (hm : 2 * m ≤ 32000) (hv3 : ∀ q ∈ t, q.2.length ≤ 3) (k : ∀ S' I' J' P', mS S0 I0 J0 P0 b0 A S' I' J' P' c w i bs rv fr s t S.1 (2 * m) → Q none S' I' J' P') : pm_Met l E yX6_doubleRoom cX6_doubleRoom 1 none d 5 (18 * m) [.ref 21] S I J P Q := by
  unfold pm_Met
  have ht := h.tc
  have h95 : 95 ≤ S.1 := Nat.le_of_succ_le h.hG.1
  have hbd := ht.bd
  have hm' := ht.m'
  refine pm_lvs (lv' := [(0, _)]) rfl ?_
  have hG0 := h.hG
  have hP0 := h.hP
  have hp0 := ht.q0
  have hb0 : b < S.1 := by omega
  have hz0 := ht.s0
  refine pw_aload_n dX6_doubleRoom_0 rfl ?_
  refine pw_aload_n dX6_doubleRoom_1 rfl ?_
  refine pw_getR fX6_11 dX6_doubleRoom_2 (sh_lt hG0 (by decide)) (sh_tg hG0 19 rfl) rfl hp0 ?_
  refine pw_iconst (v := nI 2) dX6_doubleRoom_5 (by decide) ?_
  refine pw_aload_n dX6_doubleRoom_6 rfl ?_
  refine pw_getR fX6_11 dX6_doubleRoom_7 (sh_lt hG0 (by decide)) (sh_tg hG0 19 rfl) rfl hp0 ?_
  refine pw_alen dX6_doubleRoom_10 hb0 hz0 (by decide) (by decide) ?_
  refine pw_imul dX6_doubleRoom_11 ?_
  refine pw_ti (z := nI (2 * m)) (by rw [show nI 2 * Int32.ofNat m = nI (2 * m) from (Int32.ofNat_mul 2 _).symm]) ?_
  refine pw_callS (as := [_, _]) (kc' := 1) (ks' := (2 * m)) lX6_53 dX6_doubleRoom_12 rfl rfl (Nat.le_of_ble_eq_true rfl) (by omega) (Nat.le_of_ble_eq_true rfl) (by omega) (by omega) ?_
  refine cp_I (N := (2 * m)) (by omega) hb0 (by omega) hz0 (by omega) (by omega) (fun I1 hx1 hy1 => ?_)
  obtain ⟨S1, hSd1⟩ : ∃ S9, S9 = pm_new S 100 (2 * m) := ⟨_, rfl⟩
  rw [← hSd1]
  have hG1 : sh_St S1 := by rw [hSd1]; exact hG0.new _ _
  have hl1 : S1.1 = S.1 + 1 := by rw [hSd1, pn_1]
  refine pw_putP fX6_11 dX6_doubleRoom_15 rfl (Or.inl rfl) (by decide) (sh_lt hG1 (by decide)) (sh_tg hG1 19 rfl) rfl ?_
  obtain ⟨P1, hPd1⟩ : ∃ P9, P9 = pm_u P 21 0 (some S.1) := ⟨_, rfl⟩
  rw [← hPd1]
  have hP1 : gr_St P1 := by rw [hPd1]; exact hP0.upd (by decide)
  have hp1 : P1 21 1 = some (b + 1) := by rw [hPd1, pm_u_eq, pm_up_ne (by decide)]; exact ht.q1
  have hb1 : b + 1 < S1.1 := by omega
  have hz1 : S1.2 (b + 1) = (100, m) := by rw [hSd1, pn_ne (by omega)]; exact ht.s1
  refine pw_aload_n dX6_doubleRoom_18 rfl ?_
  refine pw_aload_n dX6_doubleRoom_19 rfl ?_
  refine pw_getR fX6_15 dX6_doubleRoom_20 (sh_lt hG1 (by decide)) (sh_tg hG1 19 rfl) rfl hp1 ?_
  refine pw_iconst (v := nI 2) dX6_doubleRoom_23 (by decide) ?_
  refine pw_aload_n dX6_doubleRoom_24 rfl ?_
  refine pw_getR fX6_15 dX6_doubleRoom_25 (sh_lt hG1 (by decide)) (sh_tg hG1 19 rfl) rfl hp1 ?_
  refine pw_alen dX6_doubleRoom_28 hb1 hz1 (by decide) (by decide) ?_
  refine pw_imul dX6_doubleRoom_29 ?_
  refine pw_ti (z := nI (2 * m)) (by rw [show nI 2 * Int32.ofNat m = nI (2 * m) from (Int32.ofNat_mul 2 _).symm]) ?_
  refine pw_callS (as := [_, _]) (kc' := 1) (ks' := (2 * m)) lX6_53 dX6_doubleRoom_30 rfl rfl (Nat.le_of_ble_eq_true rfl) (by omega) (Nat.le_of_ble_eq_true rfl) (by omega) (by omega) ?_
  refine cp_I (N := (2 * m)) (by omega) hb1 (by omega) hz1 (by omega) (by omega) (fun I2 hx2 hy2 => ?_)
  obtain ⟨S2, hSd2⟩ : ∃ S9, S9 = pm_new S1 100 (2 * m) := ⟨_, rfl⟩
  rw [← hSd2]
  have hG2 : sh_St S2 := by rw [hSd2]; exact hG1.new _ _
  have hl2 : S2.1 = S.1 + 2 := by rw [hSd2, pn_1]; omega
  refine pw_putP fX6_15 dX6_doubleRoom_33 rfl (Or.inl rfl) (by decide) (sh_lt hG2 (by decide)) (sh_tg hG2 19 rfl) rfl ?_
  obtain ⟨P2, hPd2⟩ : ∃ P9, P9 = pm_u P1 21 1 (some S1.1) := ⟨_, rfl⟩
  rw [← hPd2]
  have hP2 : gr_St P2 := by rw [hPd2]; exact hP1.upd (by decide)
  have hp2 : P2 21 2 = some (b + 2) := by rw [hPd2, pm_u_eq, pm_up_ne (by decide)]; rw [hPd1, pm_u_eq, pm_up_ne (by decide)]; exact ht.q2
  have hb2 : b + 2 < S2.1 := by omega
  have hz2 : S2.2 (b + 2) = (100, m) := by rw [hSd2, pn_ne (by omega)]; rw [hSd1, pn_ne (by omega)]; exact ht.s2
  refine pw_aload_n dX6_doubleRoom_36 rfl ?_
  refine pw_aload_n dX6_doubleRoom_37 rfl ?_
  refine pw_getR fX6_18 dX6_doubleRoom_38 (sh_lt hG2 (by decide)) (sh_tg hG2 19 rfl) rfl hp2 ?_
  refine pw_iconst (v := nI 2) dX6_doubleRoom_41 (by decide) ?_
  refine pw_aload_n dX6_doubleRoom_42 rfl ?_
  refine pw_getR fX6_18 dX6_doubleRoom_43 (sh_lt hG2 (by decide)) (sh_tg hG2 19 rfl) rfl hp2 ?_
  refine pw_alen dX6_doubleRoom_46 hb2 hz2 (by decide) (by decide) ?_
  refine pw_imul dX6_doubleRoom_47 ?_
  refine pw_ti (z := nI (2 * m)) (by rw [show nI 2 * Int32.ofNat m = nI (2 * m) from (Int32.ofNat_mul 2 _).symm]) ?_
  refine pw_callS (as := [_, _]) (kc' := 1) (ks' := (2 * m)) lX6_53 dX6_doubleRoom_48 rfl rfl (Nat.le_of_ble_eq_true rfl) (by omega) (Nat.le_of_ble_eq_true rfl) (by omega) (by omega) ?_
  refine cp_I (N := (2 * m)) (by omega) hb2 (by omega) hz2 (by omega) (by omega) (fun I3 hx3 hy3 => ?_)
  obtain ⟨S3, hSd3⟩ : ∃ S9, S9 = pm_new S2 100 (2 * m) := ⟨_, rfl⟩
  rw [← hSd3]
  have hG3 : sh_St S3 := by rw [hSd3]; exact hG2.new _ _
  have hl3 : S3.1 = S.1 + 3 := by rw [hSd3, pn_1]; omega
  refine pw_putP fX6_18 dX6_doubleRoom_51 rfl (Or.inl rfl) (by decide) (sh_lt hG3 (by decide)) (sh_tg hG3 19 rfl) rfl ?_
  obtain ⟨P3, hPd3⟩ : ∃ P9, P9 = pm_u P2 21 2 (some S2.1) := ⟨_, rfl⟩
  rw [← hPd3]
  have hP3 : gr_St P3 := by rw [hPd3]; exact hP2.upd (by decide)
  have hp3 : P3 21 3 = some (b + 3) := by rw [hPd3, pm_u_eq, pm_up_ne (by decide)]; rw [hPd2, pm_u_eq, pm_up_ne (by decide)]; rw [hPd1, pm_u_eq, pm_up_ne (by decide)]; exact ht.q3
  have hb3 : b + 3 < S3.1 := by omega
  have hz3 : S3.2 (b + 3) = (100, 3 * m) := by rw [hSd3, pn_ne (by omega)]; rw [hSd2, pn_ne (by omega)]; rw [hSd1, pn_ne (by omega)]; exact ht.s3
  refine pw_aload_n dX6_doubleRoom_54 rfl ?_
  refine pw_aload_n dX6_doubleRoom_55 rfl ?_
  refine pw_getR fX6_21 dX6_doubleRoom_56 (sh_lt hG3 (by decide)) (sh_tg hG3 19 rfl) rfl hp3 ?_
  refine pw_iconst (v := nI 2) dX6_doubleRoom_59 (by decide) ?_
  refine pw_aload_n dX6_doubleRoom_60 rfl ?_
  refine pw_getR fX6_21 dX6_doubleRoom_61 (sh_lt hG3 (by decide)) (sh_tg hG3 19 rfl) rfl hp3 ?_
  refine pw_alen dX6_doubleRoom_64 hb3 hz3 (by decide) (by decide) ?_
  refine pw_imul dX6_doubleRoom_65 ?_
  refine pw_ti (z := nI (3 * (2 * m))) (by rw [show nI 2 * Int32.ofNat (3 * m) = nI (2 * (3 * m)) from (Int32.ofNat_mul 2 _).symm]; congr 1; omega) ?_
  refine pw_callS (as := [_, _]) (kc' := 1) (ks' := (3 * (2 * m))) lX6_53 dX6_doubleRoom_66 rfl rfl (Nat.le_of_ble_eq_true rfl) (by omega) (Nat.le_of_ble_eq_true rfl) (by omega) (by omega) ?_
  refine cp_I (N := (3 * (2 * m))) (by omega) hb3 (by omega) hz3 (by omega) (by omega) (fun I4 hx4 hy4 => ?_)
  obtain ⟨S4, hSd4⟩ : ∃ S9, S9 = pm_new S3 100 (3 * (2 * m)) := ⟨_, rfl⟩
  rw [← hSd4]
  have hG4 : sh_St S4 := by rw [hSd4]; exact hG3.new _ _
  have hl4 : S4.1 = S.1 + 4 := by rw [hSd4, pn_1]; omega
  refine pw_putP fX6_21 dX6_doubleRoom_69 rfl (Or.inl rfl) (by decide) (sh_lt hG4 (by decide)) (sh_tg hG4 19 rfl) rfl ?_
  obtain ⟨P4, hPd4⟩ : ∃ P9, P9 = pm_u P3 21 3 (some S3.1) := ⟨_, rfl⟩
  rw [← hPd4]
  have hP4 : gr_St P4 := by rw [hPd4]; exact hP3.upd (by decide)
  have hp4 : P4 21 4 = some (b + 4) := by rw [hPd4, pm_u_eq, pm_up_ne (by decide)]; rw [hPd3, pm_u_eq, pm_up_ne (by decide)]; rw [hPd2, pm_u_eq, pm_up_ne (by decide)]; rw [hPd1, pm_u_eq, pm_up_ne (by decide)]; exact ht.q4
  have hb4 : b + 4 < S4.1 := by omega
  have hz4 : S4.2 (b + 4) = (101, 3 * m) := by rw [hSd4, pn_ne (by omega)]; rw [hSd3, pn_ne (by omega)]; rw [hSd2, pn_ne (by omega)]; rw [hSd1, pn_ne (by omega)]; exact ht.s4
  refine pw_aload_n dX6_doubleRoom_72 rfl ?_
  refine pw_aload_n dX6_doubleRoom_73 rfl ?_
  refine pw_getR fX6_24 dX6_doubleRoom_74 (sh_lt hG4 (by decide)) (sh_tg hG4 19 rfl) rfl hp4 ?_
  refine pw_iconst (v := nI 2) dX6_doubleRoom_77 (by decide) ?_
  refine pw_aload_n dX6_doubleRoom_78 rfl ?_
  refine pw_getR fX6_24 dX6_doubleRoom_79 (sh_lt hG4 (by decide)) (sh_tg hG4 19 rfl) rfl hp4 ?_
  refine pw_alen dX6_doubleRoom_82 hb4 hz4 (by decide) (by decide) ?_
  refine pw_imul dX6_doubleRoom_83 ?_
  refine pw_ti (z := nI (3 * (2 * m))) (by rw [show nI 2 * Int32.ofNat (3 * m) = nI (2 * (3 * m)) from (Int32.ofNat_mul 2 _).symm]; congr 1; omega) ?_
  refine pw_callS (as := [_, _]) (kc' := 1) (ks' := (3 * (2 * m))) lX6_59 dX6_doubleRoom_84 rfl rfl (Nat.le_of_ble_eq_true rfl) (by omega) (Nat.le_of_ble_eq_true rfl) (by omega) (by omega) ?_
  refine cp_J (N := (3 * (2 * m))) (by omega) hb4 (by omega) hz4 (by omega) (by omega) (fun J5 hx5 hy5 => ?_)
  obtain ⟨S5, hSd5⟩ : ∃ S9, S9 = pm_new S4 101 (3 * (2 * m)) := ⟨_, rfl⟩
  rw [← hSd5]
  have hG5 : sh_St S5 := by rw [hSd5]; exact hG4.new _ _
  have hl5 : S5.1 = S.1 + 5 := by rw [hSd5, pn_1]; omega
  refine pw_putP fX6_24 dX6_doubleRoom_87 rfl (Or.inl rfl) (by decide) (sh_lt hG5 (by decide)) (sh_tg hG5 19 rfl) rfl ?_
  obtain ⟨P5, hPd5⟩ : ∃ P9, P9 = pm_u P4 21 4 (some S4.1) := ⟨_, rfl⟩
  rw [← hPd5]
  have hP5 : gr_St P5 := by rw [hPd5]; exact hP4.upd (by decide)
  have hs0 : S5.2 (S.1) = (100, 2 * m) := by rw [hSd5, pn_ne (by omega)]; rw [hSd4, pn_ne (by omega)]; rw [hSd3, pn_ne (by omega)]; rw [hSd2, pn_ne (by omega)]; rw [hSd1]; exact pn_eq
  have hq0 : P5 21 0 = some (S.1) := by rw [hPd5, pm_u_eq, pm_up_ne (by decide)]; rw [hPd4, pm_u_eq, pm_up_ne (by decide)]; rw [hPd3, pm_u_eq, pm_up_ne (by decide)]; rw [hPd2, pm_u_eq, pm_up_ne (by decide)]; rw [hPd1, pm_u_eq, pm_up_eq]
  have hs1 : S5.2 (S.1 + 1) = (100, 2 * m) := by rw [hSd5, pn_ne (by omega)]; rw [hSd4, pn_ne (by omega)]; rw [hSd3, pn_ne (by omega)]; rw [hSd2, show S.1 + 1 = S1.1 by omega]; exact pn_eq
  have hq1 : P5 21 1 = some (S.1 + 1) := by rw [hPd5, pm_u_eq, pm_up_ne (by decide)]; rw [hPd4, pm_u_eq, pm_up_ne (by decide)]; rw [hPd3, pm_u_eq, pm_up_ne (by decide)]; rw [hPd2, pm_u_eq, pm_up_eq]; congr 1
  have hs2 : S5.2 (S.1 + 2) = (100, 2 * m) := by rw [hSd5, pn_ne (by omega)]; rw [hSd4, pn_ne (by omega)]; rw [hSd3, show S.1 + 2 = S2.1 by omega]; exact pn_eq
  have hq2 : P5 21 2 = some (S.1 + 2) := by rw [hPd5, pm_u_eq, pm_up_ne (by decide)]; rw [hPd4, pm_u_eq, pm_up_ne (by decide)]; rw [hPd3, pm_u_eq, pm_up_eq]; congr 1
  have hs3 : S5.2 (S.1 + 3) = (100, 3 * (2 * m)) := by rw [hSd5, pn_ne (by omega)]; rw [hSd4, show S.1 + 3 = S3.1 by omega]; exact pn_eq
  have hq3 : P5 21 3 = some (S.1 + 3) := by rw [hPd5, pm_u_eq, pm_up_ne (by decide)]; rw [hPd4, pm_u_eq, pm_up_eq]; congr 1
  have hs4 : S5.2 (S.1 + 4) = (101, 3 * (2 * m)) := by rw [hSd5, show S.1 + 4 = S4.1 by omega]; exact pn_eq
  have hq4 : P5 21 4 = some (S.1 + 4) := by rw [hPd5, pm_u_eq, pm_up_eq]; congr 1
  have hIk : ∀ a, a < S.1 → I4 a = I a := fun a ha => by rw [hx4 a (by omega), hx3 a (by omega), hx2 a (by omega), hx1 a (by omega)]
  have hJk : ∀ a, a < S.1 → J5 a = J a := fun a ha => hx5 a (by omega)
  have hPk : ∀ a, a ≠ 21 → P5 a = P a := fun a ha => by rw [hPd5, pm_u_ne ha, hPd4, pm_u_ne ha, hPd3, pm_u_ne ha, hPd2, pm_u_ne ha, hPd1, pm_u_ne ha]
  have hSk : ∀ a, a < S.1 → S5.2 a = S.2 a := fun a ha => by rw [hSd5, pn_ne (by omega), hSd4, pn_ne (by omega), hSd3, pn_ne (by omega), hSd2, pn_ne (by omega), hSd1, pn_ne (by omega)]
  have e1 : S1.1 = S.1 + 1 := hl1
  have e2 : S2.1 = S.1 + 2 := hl2
  have e3 : S3.1 = S.1 + 3 := hl3
  have e4 : S4.1 = S.1 + 4 := hl4
  rw [e1] at hx2 hy2
  rw [e2] at hx3 hy3
  rw [e3] at hx4 hy4
  rw [e4] at hx5 hy5
  refine pw_vret dX6_doubleRoom_90 rfl (k S5 I4 J5 P5 (h.grow hG5 hP5 hl5 hSk rfl (ht.grow hm h95 hl5 hs0 hs1 hs2 hs3 hs4 hq0 hq1 hq2 hq3 hq4 (hIk 21 (by omega)) ?_ ?_ ?_ ?_ ?_ hv3) hIk hJk hPk))
  · intro j hj; rw [hx4 _ (by omega), hx3 _ (by omega), hx2 _ (by omega)]; exact hy1 j hj
  · intro j hj; rw [hx4 _ (by omega), hx3 _ (by omega), hy2 j hj, hx1 _ (by omega)]
  · intro j hj; rw [hx4 _ (by omega), hy3 j hj, hx2 _ (by omega), hx1 _ (by omega)]
  · intro j hj; rw [hy4 j hj, hx3 _ (by omega), hx2 _ (by omega), hx1 _ (by omega)]
  · intro j hj; exact hy5 j hj
