/-- only new cells differ -/
def nF (S : pmS) (I : pmI) (J : pmJ) (P : pmP) (S' : pmS) (I' : pmI) (J' : pmJ) (P' : pmP) : Prop := S.1 ≤ S'.1 ∧ (∀ a, a < S.1 → S'.2 a = S.2 a) ∧ ∀ a, a < S.1 → I' a = I a ∧ J' a = J a ∧ P' a = P a
theorem nF.refl {S : pmS} {I : pmI} {J : pmJ} {P : pmP} : nF S I J P S I J P := ⟨Nat.le_refl _, fun _ _ => rfl, fun _ _ => ⟨rfl, rfl, rfl⟩⟩
theorem nF.trans {S S1 S2 : pmS} {I I1 I2 : pmI} {J J1 J2 : pmJ} {P P1 P2 : pmP} (h : nF S I J P S1 I1 J1 P1) (g : nF S1 I1 J1 P1 S2 I2 J2 P2) : nF S I J P S2 I2 J2 P2 := by
  refine ⟨Nat.le_trans h.1 g.1, fun a ha => (g.2.1 a (Nat.lt_of_lt_of_le ha h.1)).trans (h.2.1 a ha), fun a ha => ?_⟩
  have e1 := h.2.2 a ha
  have e2 := g.2.2 a (Nat.lt_of_lt_of_le ha h.1)
  exact ⟨e2.1.trans e1.1, e2.2.1.trans e1.2.1, e2.2.2.trans e1.2.2⟩
theorem gr_lt : gr_tab.all (fun q => decide (q.1 < 95)) = true := by decide +kernel
theorem gr_St.far {P P' : pmP} (h : gr_St P) (hp : ∀ a, a < 95 → P' a = P a) : gr_St P' := fun j q hq => by
  have h1 := List.all_eq_true.mp gr_lt q (List.mem_of_getElem? hq)
  rw [hp q.1 (of_decide_eq_true h1)]
  exact h j q hq
theorem sh_len : sh_tab.length ≤ 94 := by decide +kernel
theorem sh_St.far {S S' : pmS} (h : sh_St S) (h1 : S.1 ≤ S'.1) (h2 : ∀ a, a < S.1 → S'.2 a = S.2 a) : sh_St S' := ⟨Nat.le_trans h.1 h1, fun k q hq => by
  have h3 := (List.getElem?_eq_some_iff.mp hq).1
  have h4 := sh_len
  have h5 := h.1
  rw [h2 (k + 2) (by omega)]
  exact h.2 k q hq⟩
theorem nF.new {S : pmS} {I : pmI} {J : pmJ} {P : pmP} {t n : Nat} : nF S I J P (pm_new S t n) I J P := ⟨by rw [pn_1]; omega, fun a ha => pn_ne (by omega), fun _ _ => ⟨rfl, rfl, rfl⟩⟩
theorem pw_cpI0 {l : Launch} {E : pmE} {y : MethodName} {cc : ByteArray} {nL : Nat} {ret : Option FieldType} {d kc ks pc : Nat} {lv : List (Nat × Value)} {st : List Value} {S : pmS} {I : pmI} {J : pmJ} {P : pmP} {Q : pm_Z} {idx a0 a n0 n1 n : Nat} (hL : pm_LC y.cls idx) (hd : decode cc pc = .ok (.invokestatic idx, 3)) (ha0 : a0 < S.1) (ha2 : 2 ≤ a) (ha : a < S.1) (hs0 : S.2 a0 = (100, n0)) (hs : S.2 a = (100, n1)) (h4 : n ≤ n0) (h5 : n ≤ n1) (hn : n ≤ 100000) (hdp : 1 ≤ d) (hw : (st.map fun v => v.category).sum ≤ 8) (kk : ∀ I', (∀ b, b ≠ a → I' b = I b) → (∀ j, j < n → I' a j = I a0 j) → pm_W l E y cc nL ret d kc ks (pc + 3) lv st S I' J P Q) : pm_W l E y cc nL ret d kc ks pc lv (.int (nI n) :: .int (nI 0) :: .ref a :: .int (nI 0) :: .ref a0 :: st) S I J P Q := by
  refine pw_copyI hL hd (Or.inl rfl) ha0 ha2 ha hs0 hs (nI_pos (by decide)) (nI_pos (by decide)) (nI_pos (by omega)) (by rw [nI_clamp (by decide), nI_clamp (by omega)]; omega) (by rw [nI_clamp (by decide), nI_clamp (by omega)]; omega) hdp hw (kk _ (fun b hb => pm_up_ne hb) (fun j hj => ?_))
  rw [pm_up_eq, nI_clamp (by decide), nI_clamp (by omega)]
  unfold va_cpy
  rw [if_pos (by omega)]
  congr 1
  omega
theorem pw_cpJ0 {l : Launch} {E : pmE} {y : MethodName} {cc : ByteArray} {nL : Nat} {ret : Option FieldType} {d kc ks pc : Nat} {lv : List (Nat × Value)} {st : List Value} {S : pmS} {I : pmI} {J : pmJ} {P : pmP} {Q : pm_Z} {idx a0 a n0 n1 n : Nat} (hL : pm_LC y.cls idx) (hd : decode cc pc = .ok (.invokestatic idx, 3)) (ha0 : a0 < S.1) (ha2 : 2 ≤ a) (ha : a < S.1) (hs0 : S.2 a0 = (101, n0)) (hs : S.2 a = (101, n1)) (h4 : n ≤ n0) (h5 : n ≤ n1) (hn : n ≤ 100000) (hdp : 1 ≤ d) (hw : (st.map fun v => v.category).sum ≤ 8) (kk : ∀ J', (∀ b, b ≠ a → J' b = J b) → (∀ j, j < n → J' a j = J a0 j) → pm_W l E y cc nL ret d kc ks (pc + 3) lv st S I J' P Q) : pm_W l E y cc nL ret d kc ks pc lv (.int (nI n) :: .int (nI 0) :: .ref a :: .int (nI 0) :: .ref a0 :: st) S I J P Q := by
  refine pw_copyJ hL hd ha0 ha2 ha hs0 hs (nI_pos (by decide)) (nI_pos (by decide)) (nI_pos (by omega)) (by rw [nI_clamp (by decide), nI_clamp (by omega)]; omega) (by rw [nI_clamp (by decide), nI_clamp (by omega)]; omega) hdp hw (kk _ (fun b hb => pm_up_ne hb) (fun j hj => ?_))
  rw [pm_up_eq, nI_clamp (by decide), nI_clamp (by omega)]
  unfold va_cpy
  rw [if_pos (by omega)]
  congr 1
  omega
set_option maxRecDepth 20000 in
set_option maxHeartbeats 4000000 in
theorem c_X0_init {l : Launch} {E : pmE} {d : Nat} {S : pmS} {I : pmI} {J : pmJ} {P : pmP} {Q : Option Value → pmS → pmI → pmJ → pmP → Prop} {c n : Nat} (hd : 1 ≤ d) (hc2 : 2 ≤ c) (hc : c < S.1) (ht : (S.2 c).1 = 4) (hn : n ≤ 121) (k : ∀ S' P', S'.1 = S.1 + 4 → (∀ a, a < S.1 → S'.2 a = S.2 a) → (S'.2 S.1 = (100, n) ∧ S'.2 (S.1 + 1) = (100, n) ∧ S'.2 (S.1 + 2) = (100, n) ∧ S'.2 (S.1 + 3) = (101, n)) → (∀ a, a ≠ c → P' a = P a) → (P' c 0 = some S.1 ∧ P' c 1 = some (S.1 + 1) ∧ P' c 2 = some (S.1 + 2) ∧ P' c 3 = some (S.1 + 3)) → Q none S' I J P') : pm_Met l E yX0_init cX0_init 2 none d 4 (4 * n) [.ref c, .int (nI n)] S I J P Q := by
  unfold pm_Met
  refine pm_lvs (lv' := [(0, _), (1, _)]) rfl ?_
  refine pw_aload_n dX0_init_0 rfl ?_
  refine pw_objInit dX0_init_1 oX0_3 oi1 oi2 (by omega) (Nat.le_of_ble_eq_true rfl) ?_
  refine pw_aload_n dX0_init_4 rfl ?_
  refine pw_iload_n dX0_init_5 rfl ?_
  refine pw_newa (t := 100) (N := n) dX0_init_6 (by decide) ar_int (nI_pos (by omega)) (nI_clamp (by omega)) (by omega) (by omega) (by omega) (fun _ _ => ?_)
  obtain ⟨S1, hSd1⟩ : ∃ S9, S9 = pm_new S 100 n := ⟨_, rfl⟩
  rw [← hSd1]
  have hl1 : S1.1 = S.1 + 1 := by rw [hSd1, pn_1]
  have ht1 : (S1.2 c).1 = 4 := by rw [hSd1, pn_ne (by omega)]; exact ht
  refine pw_putP fX0_9 dX0_init_8 rfl (Or.inr ⟨rfl, _, rfl, rfl⟩) hc2 (by omega) ht1 rfl ?_
  obtain ⟨P1, hPd1⟩ : ∃ P9, P9 = pm_u P c 0 (some S.1) := ⟨_, rfl⟩
  rw [← hPd1]
  refine pw_aload_n dX0_init_11 rfl ?_
  refine pw_iload_n dX0_init_12 rfl ?_
  refine pw_newa (t := 100) (N := n) dX0_init_13 (by decide) ar_int (nI_pos (by omega)) (nI_clamp (by omega)) (by omega) (by omega) (by omega) (fun _ _ => ?_)
  obtain ⟨S2, hSd2⟩ : ∃ S9, S9 = pm_new S1 100 n := ⟨_, rfl⟩
  rw [← hSd2]
  have hl2 : S2.1 = S.1 + 2 := by rw [hSd2, pn_1]; omega
  have ht2 : (S2.2 c).1 = 4 := by rw [hSd2, pn_ne (by omega)]; exact ht1
  refine pw_putP fX0_15 dX0_init_15 rfl (Or.inr ⟨rfl, _, rfl, rfl⟩) hc2 (by omega) ht2 rfl ?_
  obtain ⟨P2, hPd2⟩ : ∃ P9, P9 = pm_u P1 c 1 (some S1.1) := ⟨_, rfl⟩
  rw [← hPd2]
  refine pw_aload_n dX0_init_18 rfl ?_
  refine pw_iload_n dX0_init_19 rfl ?_
  refine pw_newa (t := 100) (N := n) dX0_init_20 (by decide) ar_int (nI_pos (by omega)) (nI_clamp (by omega)) (by omega) (by omega) (by omega) (fun _ _ => ?_)
  obtain ⟨S3, hSd3⟩ : ∃ S9, S9 = pm_new S2 100 n := ⟨_, rfl⟩
  rw [← hSd3]
  have hl3 : S3.1 = S.1 + 3 := by rw [hSd3, pn_1]; omega
  have ht3 : (S3.2 c).1 = 4 := by rw [hSd3, pn_ne (by omega)]; exact ht2
  refine pw_putP fX0_18 dX0_init_22 rfl (Or.inr ⟨rfl, _, rfl, rfl⟩) hc2 (by omega) ht3 rfl ?_
  obtain ⟨P3, hPd3⟩ : ∃ P9, P9 = pm_u P2 c 2 (some S2.1) := ⟨_, rfl⟩
  rw [← hPd3]
  refine pw_aload_n dX0_init_25 rfl ?_
  refine pw_iload_n dX0_init_26 rfl ?_
  refine pw_newa (t := 101) (N := n) dX0_init_27 (by decide) ar_long (nI_pos (by omega)) (nI_clamp (by omega)) (by omega) (by omega) (by omega) (fun _ _ => ?_)
  obtain ⟨S4, hSd4⟩ : ∃ S9, S9 = pm_new S3 101 n := ⟨_, rfl⟩
  rw [← hSd4]
  have hl4 : S4.1 = S.1 + 4 := by rw [hSd4, pn_1]; omega
  have ht4 : (S4.2 c).1 = 4 := by rw [hSd4, pn_ne (by omega)]; exact ht3
  refine pw_putP fX0_21 dX0_init_29 rfl (Or.inr ⟨rfl, _, rfl, rfl⟩) hc2 (by omega) ht4 rfl ?_
  obtain ⟨P4, hPd4⟩ : ∃ P9, P9 = pm_u P3 c 3 (some S3.1) := ⟨_, rfl⟩
  rw [← hPd4]
  have hs0 : S4.2 (S.1) = (100, n) := by rw [hSd4, pn_ne (by omega)]; rw [hSd3, pn_ne (by omega)]; rw [hSd2, pn_ne (by omega)]; rw [hSd1]; exact pn_eq
  have hq0 : P4 c 0 = some (S.1) := by rw [hPd4, pm_u_eq, pm_up_ne (by decide)]; rw [hPd3, pm_u_eq, pm_up_ne (by decide)]; rw [hPd2, pm_u_eq, pm_up_ne (by decide)]; rw [hPd1, pm_u_eq, pm_up_eq]
  have hs1 : S4.2 (S.1 + 1) = (100, n) := by rw [hSd4, pn_ne (by omega)]; rw [hSd3, pn_ne (by omega)]; rw [hSd2, show S.1 + 1 = S1.1 by omega]; exact pn_eq
  have hq1 : P4 c 1 = some (S.1 + 1) := by rw [hPd4, pm_u_eq, pm_up_ne (by decide)]; rw [hPd3, pm_u_eq, pm_up_ne (by decide)]; rw [hPd2, pm_u_eq, pm_up_eq]; congr 1
  have hs2 : S4.2 (S.1 + 2) = (100, n) := by rw [hSd4, pn_ne (by omega)]; rw [hSd3, show S.1 + 2 = S2.1 by omega]; exact pn_eq
  have hq2 : P4 c 2 = some (S.1 + 2) := by rw [hPd4, pm_u_eq, pm_up_ne (by decide)]; rw [hPd3, pm_u_eq, pm_up_eq]; congr 1
  have hs3 : S4.2 (S.1 + 3) = (101, n) := by rw [hSd4, show S.1 + 3 = S3.1 by omega]; exact pn_eq
  have hq3 : P4 c 3 = some (S.1 + 3) := by rw [hPd4, pm_u_eq, pm_up_eq]; congr 1
  exact pw_vret dX0_init_32 rfl (k S4 P4 hl4 (fun a ha => by rw [hSd4, pn_ne (by omega), hSd3, pn_ne (by omega), hSd2, pn_ne (by omega), hSd1, pn_ne (by omega)]) ⟨hs0, hs1, hs2, hs3⟩ (fun a ha => by rw [hPd4, pm_u_ne ha, hPd3, pm_u_ne ha, hPd2, pm_u_ne ha, hPd1, pm_u_ne ha]) ⟨hq0, hq1, hq2, hq3⟩)
set_option maxRecDepth 20000 in
set_option maxHeartbeats 4000000 in
theorem c_copy {l : Launch} {E : pmE} {d : Nat} {S : pmS} {I : pmI} {J : pmJ} {P : pmP} {Q : Option Value → pmS → pmI → pmJ → pmP → Prop} (hG : sh_St S) (hP : gr_St P) (hd : 2 ≤ d) {L : List dE} (h : kC S I J P 9 121 L) (k : ∀ S' I' J' P', nF S I J P S' I' J' P' → S'.1 = S.1 + 5 → sh_St S' → gr_St P' → kC S' I' J' P' S.1 L.length L → Q (some (.ref S.1)) S' I' J' P') : pm_Met l E yX0_copy cX0_copy 2 (some (.object "SnippetShell$Code")) d 5 (6 + 4 * L.length) [.ref 9] S I J P Q := by
  unfold pm_Met
  have h96 := hG.1
  have hrr := h.rr
  refine pm_lvs (lv' := [(0, _)]) rfl ?_
  refine pw_new nX0_10 dX0_copy_0 (by omega) (by omega) (fun _ _ _ => ?_)
  obtain ⟨S1, hS1⟩ : ∃ S9, S9 = pm_new S 4 6 := ⟨_, rfl⟩
  rw [← hS1]
  have hl1 : S1.1 = S.1 + 1 := by rw [hS1, pn_1]
  have hG1 : sh_St S1 := by rw [hS1]; exact hG.new _ _
  have ht1 : S1.2 S.1 = (4, 6) := by rw [hS1]; exact pn_eq
  refine pw_dup dX0_copy_3 rfl ?_
  refine pw_aload_n dX0_copy_4 rfl ?_
  refine pw_getI fX0_25 dX0_copy_5 (sh_lt hG1 (by decide)) (sh_tg hG1 7 rfl) rfl ?_
  refine pw_ti (z := nI L.length) h.sz ?_
  refine pw_callI (as := [_]) (kc' := 4) (ks' := 4 * L.length) lX0_52 dX0_copy_8 rfl rfl (Nat.le_of_ble_eq_true rfl) (by omega) (Nat.le_of_ble_eq_true rfl) (by omega) (by omega) ?_
  refine c_X0_init (by omega) (by omega) (by omega) (by rw [ht1]) (by omega) (fun S2 P2 hl2 hs2 hn2 hp2 hq2 => ?_)
  rw [hl1] at hn2 hq2
  have hG2 : sh_St S2 := hG1.far (by omega) hs2
  have hP2 : gr_St P2 := hP.far (fun a ha => hp2 a (by omega))
  have ht2 : (S2.2 S.1).1 = 4 := by rw [hs2 S.1 (by omega), ht1]
  refine pw_astore_n (lv' := [(1, _), (0, _)]) dX0_copy_11 (by decide) rfl ?_
  refine pw_aload_n dX0_copy_12 rfl ?_
  refine pw_getR fX0_9 dX0_copy_13 (sh_lt hG2 (by decide)) (sh_tg hG2 7 rfl) rfl (b := 10) (by rw [hp2 9 (by omega)]; exact h.p0) ?_
  refine pw_iconst (v := nI 0) dX0_copy_16 (by decide) ?_
  refine pw_aload_n dX0_copy_17 rfl ?_
  refine pw_getR fX0_9 dX0_copy_18 (by omega) ht2 rfl hq2.1 ?_
  refine pw_iconst (v := nI 0) dX0_copy_21 (by decide) ?_
  refine pw_aload_n dX0_copy_22 rfl ?_
  refine pw_getI fX0_25 dX0_copy_23 (sh_lt hG2 (by decide)) (sh_tg hG2 7 rfl) rfl ?_
  refine pw_ti (z := nI L.length) (by exact h.sz) ?_
  refine pw_cpI0 (n0 := 121) (n1 := L.length) acX0_36 dX0_copy_26 (by omega) (by omega) (by omega) (by rw [hs2 10 (by omega), hS1, pn_ne (by omega)]; exact h.a1) (by first | exact hn2.1 | exact hn2.2.1 | exact hn2.2.2.1 | exact hn2.2.2.2) (by omega) (Nat.le_refl _) (by omega) (by omega) (Nat.le_of_ble_eq_true rfl) (fun I1 hi1 gi1 => ?_)
  refine pw_aload_n dX0_copy_29 rfl ?_
  refine pw_getR fX0_15 dX0_copy_30 (sh_lt hG2 (by decide)) (sh_tg hG2 7 rfl) rfl (b := 11) (by rw [hp2 9 (by omega)]; exact h.p1) ?_
  refine pw_iconst (v := nI 0) dX0_copy_33 (by decide) ?_
  refine pw_aload_n dX0_copy_34 rfl ?_
  refine pw_getR fX0_15 dX0_copy_35 (by omega) ht2 rfl hq2.2.1 ?_
  refine pw_iconst (v := nI 0) dX0_copy_38 (by decide) ?_
  refine pw_aload_n dX0_copy_39 rfl ?_
  refine pw_getI fX0_25 dX0_copy_40 (sh_lt hG2 (by decide)) (sh_tg hG2 7 rfl) rfl ?_
  refine pw_ti (z := nI L.length) (by rw [hi1 9 (by omega)]; exact h.sz) ?_
  refine pw_cpI0 (n0 := 121) (n1 := L.length) acX0_36 dX0_copy_43 (by omega) (by omega) (by omega) (by rw [hs2 11 (by omega), hS1, pn_ne (by omega)]; exact h.a2) (by first | exact hn2.1 | exact hn2.2.1 | exact hn2.2.2.1 | exact hn2.2.2.2) (by omega) (Nat.le_refl _) (by omega) (by omega) (Nat.le_of_ble_eq_true rfl) (fun I2 hi2 gi2 => ?_)
  refine pw_aload_n dX0_copy_46 rfl ?_
  refine pw_getR fX0_18 dX0_copy_47 (sh_lt hG2 (by decide)) (sh_tg hG2 7 rfl) rfl (b := 12) (by rw [hp2 9 (by omega)]; exact h.p2) ?_
  refine pw_iconst (v := nI 0) dX0_copy_50 (by decide) ?_
  refine pw_aload_n dX0_copy_51 rfl ?_
  refine pw_getR fX0_18 dX0_copy_52 (by omega) ht2 rfl hq2.2.2.1 ?_
  refine pw_iconst (v := nI 0) dX0_copy_55 (by decide) ?_
  refine pw_aload_n dX0_copy_56 rfl ?_
  refine pw_getI fX0_25 dX0_copy_57 (sh_lt hG2 (by decide)) (sh_tg hG2 7 rfl) rfl ?_
  refine pw_ti (z := nI L.length) (by rw [hi2 9 (by omega)]; rw [hi1 9 (by omega)]; exact h.sz) ?_
  refine pw_cpI0 (n0 := 121) (n1 := L.length) acX0_36 dX0_copy_60 (by omega) (by omega) (by omega) (by rw [hs2 12 (by omega), hS1, pn_ne (by omega)]; exact h.a3) (by first | exact hn2.1 | exact hn2.2.1 | exact hn2.2.2.1 | exact hn2.2.2.2) (by omega) (Nat.le_refl _) (by omega) (by omega) (Nat.le_of_ble_eq_true rfl) (fun I3 hi3 gi3 => ?_)
  refine pw_aload_n dX0_copy_63 rfl ?_
  refine pw_getR fX0_21 dX0_copy_64 (sh_lt hG2 (by decide)) (sh_tg hG2 7 rfl) rfl (b := 13) (by rw [hp2 9 (by omega)]; exact h.p3) ?_
  refine pw_iconst (v := nI 0) dX0_copy_67 (by decide) ?_
  refine pw_aload_n dX0_copy_68 rfl ?_
  refine pw_getR fX0_21 dX0_copy_69 (by omega) ht2 rfl hq2.2.2.2 ?_
  refine pw_iconst (v := nI 0) dX0_copy_72 (by decide) ?_
  refine pw_aload_n dX0_copy_73 rfl ?_
  refine pw_getI fX0_25 dX0_copy_74 (sh_lt hG2 (by decide)) (sh_tg hG2 7 rfl) rfl ?_
  refine pw_ti (z := nI L.length) (by rw [hi3 9 (by omega)]; rw [hi2 9 (by omega)]; rw [hi1 9 (by omega)]; exact h.sz) ?_
  refine pw_cpJ0 (n0 := 121) (n1 := L.length) acX0_36 dX0_copy_77 (by omega) (by omega) (by omega) (by rw [hs2 13 (by omega), hS1, pn_ne (by omega)]; exact h.a4) (by first | exact hn2.1 | exact hn2.2.1 | exact hn2.2.2.1 | exact hn2.2.2.2) (by omega) (Nat.le_refl _) (by omega) (by omega) (Nat.le_of_ble_eq_true rfl) (fun J1 hj1 gj1 => ?_)
  refine pw_aload_n dX0_copy_80 rfl ?_
  refine pw_aload_n dX0_copy_81 rfl ?_
  refine pw_getI fX0_25 dX0_copy_82 (sh_lt hG2 (by decide)) (sh_tg hG2 7 rfl) rfl ?_
  refine pw_ti (z := nI L.length) (by rw [hi3 9 (by omega)]; rw [hi2 9 (by omega)]; rw [hi1 9 (by omega)]; exact h.sz) ?_
  refine pw_putI fX0_25 dX0_copy_85 (Or.inl rfl) (by omega) (by omega) ht2 rfl ?_
  refine pw_aload_n dX0_copy_88 rfl ?_
  refine pw_aload_n dX0_copy_89 rfl ?_
  refine pw_getI fX0_29 dX0_copy_90 (sh_lt hG2 (by decide)) (sh_tg hG2 7 rfl) rfl ?_
  refine pw_putI fX0_29 dX0_copy_93 (Or.inl rfl) (by omega) (by omega) ht2 rfl ?_
  refine pw_aload_n dX0_copy_96 rfl ?_
  refine pw_aret (r := some S.1) dX0_copy_97 rfl (by first | exact Or.inl ⟨_, rfl⟩ | exact Or.inr ⟨_, rfl⟩) (k S2 _ J1 P2 ⟨by omega, fun a ha => by rw [hs2 a (by omega), hS1, pn_ne (by omega)], fun a ha => ⟨by rw [pm_u_ne (by omega), pm_u_ne (by omega), hi3 a (by omega), hi2 a (by omega), hi1 a (by omega)], hj1 a (by omega), hp2 a (by omega)⟩⟩ (by omega) hG2 hP2 ⟨⟨by omega, by omega⟩, ht2, hn2.1, hn2.2.1, hn2.2.2.1, hn2.2.2.2, hq2.1, hq2.2.1, hq2.2.2.1, hq2.2.2.2, ⟨Nat.le_refl _, by omega⟩, by rw [pm_u_eq, pm_up_ne (by decide), pm_u_eq, pm_up_eq], fun j x hj => ?_⟩)
  have hjl := (List.getElem?_eq_some_iff.mp hj).1
  have hx := h.at hj
  rw [pm_u_ne (by omega), pm_u_ne (by omega), pm_u_ne (by omega), pm_u_ne (by omega), hi3 (S.1 + 1) (by omega), hi2 (S.1 + 1) (by omega), gi1 j hjl, gi3 j hjl, hi2 12 (by omega), hi1 12 (by omega), gj1 j hjl]
  exact hx
