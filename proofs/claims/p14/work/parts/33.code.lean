/-- a deed: what, its place, its count, its core -/
abbrev dD : Type := Nat × Nat × Int32 × Int64
/-- the class's code holds these deeds (of what only begins, count and core are free) -/
def cd (I : pmI) (J : pmJ) (L : List dD) : Prop := I 9 4 = nI L.length ∧ ∀ j q, L[j]? = some q → I 10 j = nI q.1 ∧ I 11 j = nI q.2.1 ∧ (q.1 ≠ 1 → I 12 j = q.2.2.1 ∧ J 13 j = q.2.2.2)
/-- what Code's methods leave as it was -/
def frC (I I' : pmI) (J J' : pmJ) : Prop := (∀ a, a ≠ 9 → a ≠ 10 → a ≠ 11 → a ≠ 12 → I' a = I a) ∧ I' 9 5 = I 9 5 ∧ ∀ a, a ≠ 13 → J' a = J a
theorem frC.refl {I : pmI} {J : pmJ} : frC I I J J := ⟨fun _ _ _ _ _ => rfl, rfl, fun _ _ => rfl⟩
theorem frC.trans {I I1 I2 : pmI} {J J1 J2 : pmJ} (h : frC I I1 J J1) (h' : frC I1 I2 J1 J2) : frC I I2 J J2 := ⟨fun a h1 h2 h3 h4 => by rw [h'.1 a h1 h2 h3 h4, h.1 a h1 h2 h3 h4], by rw [h'.2.1, h.2.1], fun a ha => by rw [h'.2.2 a ha, h.2.2 a ha]⟩
theorem cd.app {I : pmI} {J : pmJ} {L : List dD} (h : cd I J L) {x y : Nat} {c : Int32} {v : Int64} : cd (pm_u (pm_u (pm_u (pm_u I 10 L.length (nI x)) 11 L.length (nI y)) 12 L.length c) 9 4 (nI (L.length + 1))) (pm_u J 13 L.length v) (L ++ [(x, y, c, v)]) := by
  refine ⟨by rw [pm_u_eq, pm_up_eq, List.length_append]; rfl, fun j q hq => ?_⟩
  rw [pm_u_ne (a := 9) (b := 10) (by decide), pm_u_ne (a := 12) (b := 10) (by decide), pm_u_ne (a := 11) (b := 10) (by decide), pm_u_eq, pm_u_ne (a := 9) (b := 11) (by decide), pm_u_ne (a := 12) (b := 11) (by decide), pm_u_eq, pm_u_ne (a := 10) (b := 11) (by decide), pm_u_ne (a := 9) (b := 12) (by decide), pm_u_eq, pm_u_ne (a := 11) (b := 12) (by decide), pm_u_ne (a := 10) (b := 12) (by decide), pm_u_eq]
  rcases Nat.lt_trichotomy j L.length with hj | hj | hj
  · rw [pm_up_ne (by omega), pm_up_ne (by omega), pm_up_ne (by omega), pm_up_ne (by omega)]
    rw [List.getElem?_append_left hj] at hq
    exact h.2 j q hq
  · subst hj
    rw [List.getElem?_append_right (Nat.le_refl _), Nat.sub_self] at hq
    cases hq
    exact ⟨pm_up_eq, pm_up_eq, fun _ => ⟨pm_up_eq, pm_up_eq⟩⟩
  · rw [List.getElem?_eq_none (by rw [List.length_append]; show L.length + 1 ≤ j; omega)] at hq
    cases hq
theorem frC.app {I : pmI} {J : pmJ} {k : Nat} {x y c w : Int32} {v : Int64} : frC I (pm_u (pm_u (pm_u (pm_u I 10 k x) 11 k y) 12 k c) 9 4 w) J (pm_u J 13 k v) := by
  refine ⟨fun a h1 h2 h3 h4 => by rw [pm_u_ne h1, pm_u_ne h4, pm_u_ne h3, pm_u_ne h2], ?_, fun a ha => pm_u_ne ha⟩
  rw [pm_u_eq, pm_up_ne (by decide), pm_u_ne (by decide), pm_u_ne (by decide), pm_u_ne (by decide)]
set_option maxRecDepth 20000 in
set_option maxHeartbeats 4000000 in
theorem c_X0_addWithR {l : Launch} {E : pmE} {d : Nat} {S : pmS} {I : pmI} {J : pmJ} {P : pmP} {Q : Option Value → pmS → pmI → pmJ → pmP → Prop} (hG : sh_St S) (hP : gr_St P) {z : Nat} (hz : I 9 4 = nI z) (hz2 : z ≤ 121) {x y c : Int32} {v : Int64} (k1 : z < 121 → Q none S (pm_u (pm_u (pm_u (pm_u I 10 z x) 11 z y) 12 z c) 9 4 (nI (z + 1))) (pm_u J 13 z v) P) (k0 : z = 121 → Q none S I J P) : pm_Met l E yX0_addWith cX0_addWith 6 none d 0 0 [.ref 9, .int x, .int y, .int c, .long v] S I J P Q := by
  unfold pm_Met
  refine pm_lvs (lv' := [(0, _), (1, _), (2, _), (3, _), (4, _)]) rfl ?_
  refine pw_aload_n dX0_addWith_0 rfl ?_
  refine pw_getI fX0_25 dX0_addWith_1 (sh_lt hG (by decide)) (sh_tg hG 7 rfl) rfl ?_
  refine pw_aload_n dX0_addWith_4 rfl ?_
  refine pw_getR fX0_9 dX0_addWith_5 (sh_lt hG (by decide)) (sh_tg hG 7 rfl) rfl (gr_at hP 11 rfl) ?_
  refine pw_alen dX0_addWith_8 (sh_lt hG (by decide)) (sh_sh hG 8 rfl) (by decide) (by decide) ?_
  refine pw_icmpN_ge _ _ (tgt := 63) dX0_addWith_9 (by decide) (hz) (rfl) (by omega) (by omega) (fun h9 => ?_) (fun h9 => ?_)
  · exact pw_vret dX0_addWith_63 rfl (k0 (by omega))
  · refine pw_aload_n dX0_addWith_12 rfl ?_
    refine pw_getR fX0_9 dX0_addWith_13 (sh_lt hG (by decide)) (sh_tg hG 7 rfl) rfl (gr_at hP 11 rfl) ?_
    refine pw_aload_n dX0_addWith_16 rfl ?_
    refine pw_getI fX0_25 dX0_addWith_17 (sh_lt hG (by decide)) (sh_tg hG 7 rfl) rfl ?_
    refine pw_iload_n dX0_addWith_20 rfl ?_
    refine pw_iastN z dX0_addWith_21 (by decide) (sh_lt hG (by decide)) (sh_sh hG 8 rfl) (by decide) (hz) (by omega) ?_
    refine pw_aload_n dX0_addWith_22 rfl ?_
    refine pw_getR fX0_15 dX0_addWith_23 (sh_lt hG (by decide)) (sh_tg hG 7 rfl) rfl (gr_at hP 12 rfl) ?_
    refine pw_aload_n dX0_addWith_26 rfl ?_
    refine pw_getI fX0_25 dX0_addWith_27 (sh_lt hG (by decide)) (sh_tg hG 7 rfl) rfl ?_
    refine pw_iload_n dX0_addWith_30 rfl ?_
    refine pw_iastN z dX0_addWith_31 (by decide) (sh_lt hG (by decide)) (sh_sh hG 9 rfl) (by decide) (by rw [pm_u_ne (by decide)]; exact hz) (by omega) ?_
    refine pw_aload_n dX0_addWith_32 rfl ?_
    refine pw_getR fX0_18 dX0_addWith_33 (sh_lt hG (by decide)) (sh_tg hG 7 rfl) rfl (gr_at hP 13 rfl) ?_
    refine pw_aload_n dX0_addWith_36 rfl ?_
    refine pw_getI fX0_25 dX0_addWith_37 (sh_lt hG (by decide)) (sh_tg hG 7 rfl) rfl ?_
    refine pw_iload_n dX0_addWith_40 rfl ?_
    refine pw_iastN z dX0_addWith_41 (by decide) (sh_lt hG (by decide)) (sh_sh hG 10 rfl) (by decide) (by rw [pm_u_ne (by decide), pm_u_ne (by decide)]; exact hz) (by omega) ?_
    refine pw_aload_n dX0_addWith_42 rfl ?_
    refine pw_getR fX0_21 dX0_addWith_43 (sh_lt hG (by decide)) (sh_tg hG 7 rfl) rfl (gr_at hP 14 rfl) ?_
    refine pw_aload_n dX0_addWith_46 rfl ?_
    refine pw_getI fX0_25 dX0_addWith_47 (sh_lt hG (by decide)) (sh_tg hG 7 rfl) rfl ?_
    refine pw_lload dX0_addWith_50 rfl ?_
    refine pw_lastN z dX0_addWith_52 (by decide) (sh_lt hG (by decide)) (sh_sh hG 11 rfl) (by decide) (by rw [pm_u_ne (by decide), pm_u_ne (by decide), pm_u_ne (by decide)]; exact hz) (by omega) ?_
    refine pw_aload_n dX0_addWith_53 rfl ?_
    refine pw_dup dX0_addWith_54 rfl ?_
    refine pw_getI fX0_25 dX0_addWith_55 (sh_lt hG (by decide)) (sh_tg hG 7 rfl) rfl ?_
    refine pw_iconst (v := nI 1) dX0_addWith_58 (by decide) ?_
    refine pw_iadd dX0_addWith_59 ?_
    refine pw_ti (z := nI (z + 1)) (by rw [pm_u_ne (by decide), pm_u_ne (by decide), pm_u_ne (by decide), hz]; exact nI_add z 1) ?_
    refine pw_putI fX0_25 dX0_addWith_60 (Or.inl rfl) (by decide) (sh_lt hG (by decide)) (sh_tg hG 7 rfl) rfl ?_
    exact pw_vret dX0_addWith_63 rfl (k1 h9)

theorem c_X0_addWith {l : Launch} {E : pmE} {d : Nat} {S : pmS} {I : pmI} {J : pmJ} {P : pmP} {Q : Option Value → pmS → pmI → pmJ → pmP → Prop} (hG : sh_St S) (hP : gr_St P) {L : List dD} (hL : cd I J L) (h2 : L.length < 121) {x y : Nat} {c : Int32} {v : Int64} (k : ∀ I' J', cd I' J' (L ++ [(x, y, c, v)]) → frC I I' J J' → Q none S I' J' P) : pm_Met l E yX0_addWith cX0_addWith 6 none d 0 0 [.ref 9, .int (nI x), .int (nI y), .int c, .long v] S I J P Q :=
  c_X0_addWithR hG hP hL.1 (by omega) (fun _ => k _ _ hL.app frC.app) (fun h => absurd h (by omega))
/-- behind a FAULT: only that the code is not too long matters -/
theorem c_X0_addWithF {l : Launch} {E : pmE} {d : Nat} {S : pmS} {I : pmI} {J : pmJ} {P : pmP} {Q : Option Value → pmS → pmI → pmJ → pmP → Prop} (hG : sh_St S) (hP : gr_St P) (hz : ∃ z, z ≤ 121 ∧ I 9 4 = nI z) {x y c : Int32} {v : Int64} (k : ∀ I' J', (∃ z, z ≤ 121 ∧ I' 9 4 = nI z) → frC I I' J J' → Q none S I' J' P) : pm_Met l E yX0_addWith cX0_addWith 6 none d 0 0 [.ref 9, .int x, .int y, .int c, .long v] S I J P Q := by
  obtain ⟨z, h1, h2⟩ := hz
  exact c_X0_addWithR hG hP h2 h1 (fun h => k _ _ ⟨z + 1, by omega, by rw [pm_u_eq, pm_up_eq]⟩ frC.app) (fun _ => k _ _ ⟨z, h1, h2⟩ frC.refl)
set_option maxRecDepth 20000 in
set_option maxHeartbeats 4000000 in
theorem c_X0_setCountR {l : Launch} {E : pmE} {d : Nat} {S : pmS} {I : pmI} {J : pmJ} {P : pmP} {Q : Option Value → pmS → pmI → pmJ → pmP → Prop} (hG : sh_St S) (hP : gr_St P) {z i : Nat} (hz : I 9 4 = nI z) (hz2 : z ≤ 121) (hi : i < 2 ^ 31) {c : Int32} (k1 : i < z → Q none S (pm_u I 12 i c) J P) (k0 : ¬ i < z → Q none S I J P) : pm_Met l E yX0_setCount cX0_setCount 3 none d 0 0 [.ref 9, .int (nI i), .int c] S I J P Q := by
  unfold pm_Met
  refine pm_lvs (lv' := [(0, _), (1, _), (2, _)]) rfl ?_
  refine pw_iload_n dX0_setCount_0 rfl ?_
  refine pw_if_lt (tgt := 19) dX0_setCount_1 (by decide) (fun h => absurd h (nI_pos hi)) (fun h1 => ?_)
  refine pw_iload_n dX0_setCount_4 rfl ?_
  refine pw_aload_n dX0_setCount_5 rfl ?_
  refine pw_getI fX0_25 dX0_setCount_6 (sh_lt hG (by decide)) (sh_tg hG 7 rfl) rfl ?_
  refine pw_icmpN_ge _ _ (tgt := 19) dX0_setCount_9 (by decide) (rfl) (hz) (by omega) (by omega) (fun h9 => ?_) (fun h9 => ?_)
  · exact pw_vret dX0_setCount_19 rfl (k0 (by omega))
  · refine pw_aload_n dX0_setCount_12 rfl ?_
    refine pw_getR fX0_18 dX0_setCount_13 (sh_lt hG (by decide)) (sh_tg hG 7 rfl) rfl (gr_at hP 13 rfl) ?_
    refine pw_iload_n dX0_setCount_16 rfl ?_
    refine pw_iload_n dX0_setCount_17 rfl ?_
    refine pw_iastN i dX0_setCount_18 (by decide) (sh_lt hG (by decide)) (sh_sh hG 10 rfl) (by decide) (rfl) (by omega) ?_
    exact pw_vret dX0_setCount_19 rfl (k1 h9)

theorem cd.set {I : pmI} {J : pmJ} {A B : List dD} {x y : Nat} {c c' : Int32} {v : Int64} (h : cd I J (A ++ (x, y, c, v) :: B)) : cd (pm_u I 12 A.length c') J (A ++ (x, y, c', v) :: B) := by
  refine ⟨by rw [pm_u_ne (by decide)]; have := h.1; rw [List.length_append, List.length_cons] at this ⊢; exact this, fun j q hq => ?_⟩
  rw [pm_u_ne (a := 12) (b := 10) (by decide), pm_u_ne (a := 12) (b := 11) (by decide), pm_u_eq]
  rcases Nat.lt_trichotomy j A.length with hj | hj | hj
  · rw [pm_up_ne (by omega)]
    rw [List.getElem?_append_left hj] at hq
    exact h.2 j q (by rw [List.getElem?_append_left hj]; exact hq)
  · subst hj
    have h1 := h.2 A.length (x, y, c, v) (by rw [List.getElem?_append_right (Nat.le_refl _), Nat.sub_self]; rfl)
    rw [List.getElem?_append_right (Nat.le_refl _), Nat.sub_self] at hq
    cases hq
    exact ⟨h1.1, h1.2.1, fun hn => ⟨pm_up_eq, (h1.2.2 hn).2⟩⟩
  · rw [pm_up_ne (by omega)]
    refine h.2 j q ?_
    rw [List.getElem?_append_right (by omega)] at hq ⊢
    obtain ⟨m, hm⟩ : ∃ m, j - A.length = m + 1 := ⟨j - A.length - 1, by omega⟩
    rw [hm] at hq ⊢
    exact hq
theorem frC.set {I : pmI} {J : pmJ} {i : Nat} {c : Int32} : frC I (pm_u I 12 i c) J J := ⟨fun a _ _ _ h4 => pm_u_ne h4, by rw [pm_u_ne (by decide)], fun _ _ => rfl⟩
theorem c_X0_setCount {l : Launch} {E : pmE} {d : Nat} {S : pmS} {I : pmI} {J : pmJ} {P : pmP} {Q : Option Value → pmS → pmI → pmJ → pmP → Prop} (hG : sh_St S) (hP : gr_St P) {A B : List dD} {x y : Nat} {c c' : Int32} {v : Int64} {i : Nat} (h : cd I J (A ++ (x, y, c, v) :: B)) (h2 : (A ++ (x, y, c, v) :: B).length ≤ 121) (hi : i = A.length) (k : ∀ I', cd I' J (A ++ (x, y, c', v) :: B) → frC I I' J J → Q none S I' J P) : pm_Met l E yX0_setCount cX0_setCount 3 none d 0 0 [.ref 9, .int (nI i), .int c'] S I J P Q := by
  subst hi
  have h3 : A.length < (A ++ (x, y, c, v) :: B).length := by rw [List.length_append, List.length_cons]; omega
  exact c_X0_setCountR hG hP h.1 h2 (by omega) (fun _ => k _ h.set frC.set) (fun hn => absurd h3 hn)
theorem c_X0_setCountF {l : Launch} {E : pmE} {d : Nat} {S : pmS} {I : pmI} {J : pmJ} {P : pmP} {Q : Option Value → pmS → pmI → pmJ → pmP → Prop} (hG : sh_St S) (hP : gr_St P) (hz : ∃ z, z ≤ 121 ∧ I 9 4 = nI z) {c : Int32} {i : Nat} (hi : i < 2 ^ 31) (k : ∀ I', (∃ z, z ≤ 121 ∧ I' 9 4 = nI z) → frC I I' J J → Q none S I' J P) : pm_Met l E yX0_setCount cX0_setCount 3 none d 0 0 [.ref 9, .int (nI i), .int c] S I J P Q := by
  obtain ⟨z, h1, h2⟩ := hz
  exact c_X0_setCountR hG hP h2 h1 hi (fun _ => k _ ⟨z, h1, by rw [pm_u_ne (by decide)]; exact h2⟩ frC.set) (fun _ => k _ ⟨z, h1, h2⟩ frC.refl)
/-- a row with what stands from s on (m of it) moved on by one -/
def mvI (I : pmI) (a s m : Nat) : pmI := va_up I a (va_cpy (I a) (I a) (nI s).toNatClampNeg (nI (s + 1)).toNatClampNeg (nI m).toNatClampNeg)
def mvJ (J : pmJ) (a s m : Nat) : pmJ := va_up J a (va_cpy (J a) (J a) (nI s).toNatClampNeg (nI (s + 1)).toNatClampNeg (nI m).toNatClampNeg)
theorem mvI_ne {I : pmI} {a s m b : Nat} (h : b ≠ a) : mvI I a s m b = I b := if_neg h
theorem mvJ_ne {J : pmJ} {a s m b : Nat} (h : b ≠ a) : mvJ J a s m b = J b := if_neg h
theorem mvI_at {I : pmI} {a s m j : Nat} (hs : s < 1000) (hm : m < 1000) : mvI I a s m a j = if s + 1 ≤ j ∧ j < s + 1 + m then I a (j - 1) else I a j := by
  unfold mvI
  rw [pm_up_eq, nI_clamp (by omega), nI_clamp (by omega), nI_clamp (by omega)]
  unfold va_cpy
  by_cases h : s + 1 ≤ j ∧ j < s + 1 + m
  · rw [if_pos h, if_pos h]
    congr 1
    omega
  · rw [if_neg h, if_neg h]
theorem mvJ_at {J : pmJ} {a s m j : Nat} (hs : s < 1000) (hm : m < 1000) : mvJ J a s m a j = if s + 1 ≤ j ∧ j < s + 1 + m then J a (j - 1) else J a j := by
  unfold mvJ
  rw [pm_up_eq, nI_clamp (by omega), nI_clamp (by omega), nI_clamp (by omega)]
  unfold va_cpy
  by_cases h : s + 1 ≤ j ∧ j < s + 1 + m
  · rw [if_pos h, if_pos h]
    congr 1
    omega
  · rw [if_neg h, if_neg h]
def bgI (I : pmI) (s m : Nat) (y : Int32) : pmI := pm_u (pm_u (pm_u (mvI (mvI (mvI I 10 s m) 11 s m) 12 s m) 10 s (nI 1)) 11 s y) 9 4 (nI (s + m + 1))
theorem cd.begin {I : pmI} {J : pmJ} {A B : List dD} (h : cd I J (A ++ B)) (hl : (A ++ B).length < 121) {y : Nat} {c : Int32} {v : Int64} : cd (bgI I A.length B.length (nI y)) (mvJ J 13 A.length B.length) (A ++ (1, y, c, v) :: B) := by
  rw [List.length_append] at hl
  refine ⟨by unfold bgI; rw [pm_u_eq, pm_up_eq, List.length_append, List.length_cons]; rfl, fun j q hq => ?_⟩
  have e10 : bgI I A.length B.length (nI y) 10 j = if j = A.length then nI 1 else if A.length + 1 ≤ j ∧ j < A.length + 1 + B.length then I 10 (j - 1) else I 10 j := by
    unfold bgI
    rw [pm_u_ne (by decide), pm_u_ne (by decide), pm_u_eq]
    by_cases e : j = A.length
    · rw [if_pos e, e, pm_up_eq]
    · rw [if_neg e, pm_up_ne e, mvI_ne (by decide), mvI_ne (by decide), mvI_at (by omega) (by omega)]
  have e11 : bgI I A.length B.length (nI y) 11 j = if j = A.length then nI y else if A.length + 1 ≤ j ∧ j < A.length + 1 + B.length then I 11 (j - 1) else I 11 j := by
    unfold bgI
    rw [pm_u_ne (by decide), pm_u_eq]
    by_cases e : j = A.length
    · rw [if_pos e, e, pm_up_eq]
    · rw [if_neg e, pm_up_ne e, pm_u_ne (by decide), mvI_ne (by decide), mvI_at (by omega) (by omega), mvI_ne (by decide)]
  have e12 : bgI I A.length B.length (nI y) 12 j = if A.length + 1 ≤ j ∧ j < A.length + 1 + B.length then I 12 (j - 1) else I 12 j := by
    unfold bgI
    rw [pm_u_ne (by decide), pm_u_ne (by decide), pm_u_ne (by decide), mvI_at (by omega) (by omega), mvI_ne (by decide), mvI_ne (by decide)]
  rw [e10, e11, e12, mvJ_at (by omega) (by omega)]
  rcases Nat.lt_trichotomy j A.length with hj | hj | hj
  · rw [if_neg (by omega), if_neg (by omega), if_neg (by omega), if_neg (by omega), if_neg (by omega), if_neg (by omega)]
    rw [List.getElem?_append_left hj] at hq
    exact h.2 j q (by rw [List.getElem?_append_left hj]; exact hq)
  · subst hj
    rw [List.getElem?_append_right (Nat.le_refl _), Nat.sub_self] at hq
    cases hq
    rw [if_pos rfl, if_pos rfl]
    exact ⟨rfl, rfl, fun hn => absurd rfl hn⟩
  · rw [List.getElem?_append_right (by omega)] at hq
    obtain ⟨m, hm⟩ : ∃ m, j = A.length + 1 + m := ⟨j - A.length - 1, by omega⟩
    subst hm
    rw [show A.length + 1 + m - A.length = m + 1 by omega, List.getElem?_cons_succ] at hq
    have hmB : m < B.length := (List.getElem?_eq_some_iff.mp hq).1
    rw [if_neg (by omega), if_pos (by omega), if_neg (by omega), if_pos (by omega), if_pos (by omega), if_pos (by omega)]
    rw [show A.length + 1 + m - 1 = A.length + m by omega]
    exact h.2 (A.length + m) q (by rw [List.getElem?_append_right (by omega), show A.length + m - A.length = m by omega]; exact hq)
theorem frC.begin {I : pmI} {J : pmJ} {s m : Nat} {y : Int32} : frC I (bgI I s m y) J (mvJ J 13 s m) := by
  refine ⟨fun a h1 h2 h3 h4 => ?_, ?_, fun a ha => mvJ_ne ha⟩
  · unfold bgI
    rw [pm_u_ne h1, pm_u_ne h3, pm_u_ne h2, mvI_ne h4, mvI_ne h3, mvI_ne h2]
  · unfold bgI
    rw [pm_u_eq, pm_up_ne (by decide), pm_u_ne (by decide), pm_u_ne (by decide), mvI_ne (by decide), mvI_ne (by decide), mvI_ne (by decide)]
set_option maxRecDepth 20000 in
set_option maxHeartbeats 4000000 in
theorem c_X0_beginR {l : Launch} {E : pmE} {d : Nat} {S : pmS} {I : pmI} {J : pmJ} {P : pmP} {Q : Option Value → pmS → pmI → pmJ → pmP → Prop} (hG : sh_St S) (hP : gr_St P) (hd : 2 ≤ d) {s m : Nat} (hz : I 9 4 = nI (s + m)) (hz2 : s + m < 121) {y : Int32} (k : Q none S (bgI I s m y) (mvJ J 13 s m) P) : pm_Met l E yX0_beginAhead cX0_beginAhead 4 none d 0 0 [.ref 9, .int (nI s), .int y] S I J P Q := by
  unfold pm_Met
  refine pm_lvs (lv' := [(0, _), (1, _), (2, _)]) rfl ?_
  refine pw_iload_n dX0_beginAhead_0 rfl ?_
  refine pw_if_lt (tgt := 119) dX0_beginAhead_1 (by decide) (fun h => absurd h (nI_pos (by omega))) (fun h1 => ?_)
  refine pw_iload_n dX0_beginAhead_4 rfl ?_
  refine pw_aload_n dX0_beginAhead_5 rfl ?_
  refine pw_getI fX0_25 dX0_beginAhead_6 (sh_lt hG (by decide)) (sh_tg hG 7 rfl) rfl ?_
  refine pw_icmpN_gt _ _ (tgt := 119) dX0_beginAhead_9 (by decide) (rfl) (hz) (by omega) (by omega) (fun h9 => absurd h9 (by omega)) (fun h9 => ?_)
  refine pw_aload_n dX0_beginAhead_12 rfl ?_
  refine pw_getI fX0_25 dX0_beginAhead_13 (sh_lt hG (by decide)) (sh_tg hG 7 rfl) rfl ?_
  refine pw_aload_n dX0_beginAhead_16 rfl ?_
  refine pw_getR fX0_9 dX0_beginAhead_17 (sh_lt hG (by decide)) (sh_tg hG 7 rfl) rfl (gr_at hP 11 rfl) ?_
  refine pw_alen dX0_beginAhead_20 (sh_lt hG (by decide)) (sh_sh hG 8 rfl) (by decide) (by decide) ?_
  refine pw_icmpN_ge _ _ (tgt := 119) dX0_beginAhead_21 (by decide) (hz) (rfl) (by omega) (by omega) (fun h21 => absurd h21 (by omega)) (fun h21 => ?_)
  refine pw_aload_n dX0_beginAhead_24 rfl ?_
  refine pw_getI fX0_25 dX0_beginAhead_25 (sh_lt hG (by decide)) (sh_tg hG 7 rfl) rfl ?_
  refine pw_iload_n dX0_beginAhead_28 rfl ?_
  refine pw_isub dX0_beginAhead_29 ?_
  refine pw_ti (z := nI m) (by rw [hz, pk_sub (by omega)]; congr 1; omega) ?_
  refine pw_istore_n (lv' := [(3, _), (0, _), (1, _), (2, _)]) dX0_beginAhead_30 (by decide) rfl ?_
  refine pw_aload_n dX0_beginAhead_31 rfl ?_
  refine pw_getR fX0_9 dX0_beginAhead_32 (sh_lt hG (by decide)) (sh_tg hG 7 rfl) rfl (gr_at hP 11 rfl) ?_
  refine pw_iload_n dX0_beginAhead_35 rfl ?_
  refine pw_aload_n dX0_beginAhead_36 rfl ?_
  refine pw_getR fX0_9 dX0_beginAhead_37 (sh_lt hG (by decide)) (sh_tg hG 7 rfl) rfl (gr_at hP 11 rfl) ?_
  refine pw_iload_n dX0_beginAhead_40 rfl ?_
  refine pw_iconst (v := nI 1) dX0_beginAhead_41 (by decide) ?_
  refine pw_iadd dX0_beginAhead_42 ?_
  refine pw_ti (z := nI (s + 1)) (nI_add s 1) ?_
  refine pw_iload_n dX0_beginAhead_43 rfl ?_
  refine pw_copyI acX0_36 dX0_beginAhead_44 (Or.inl rfl) (sh_lt hG (by decide)) (by decide) (sh_lt hG (by decide)) (sh_sh hG 8 rfl) (sh_sh hG 8 rfl) (nI_pos (by omega)) (nI_pos (by omega)) (nI_pos (by omega)) (by rw [nI_clamp (by omega), nI_clamp (by omega)]; omega) (by rw [nI_clamp (by omega), nI_clamp (by omega)]; omega) (by omega) (Nat.le_of_ble_eq_true rfl) ?_
  refine pw_aload_n dX0_beginAhead_47 rfl ?_
  refine pw_getR fX0_15 dX0_beginAhead_48 (sh_lt hG (by decide)) (sh_tg hG 7 rfl) rfl (gr_at hP 12 rfl) ?_
  refine pw_iload_n dX0_beginAhead_51 rfl ?_
  refine pw_aload_n dX0_beginAhead_52 rfl ?_
  refine pw_getR fX0_15 dX0_beginAhead_53 (sh_lt hG (by decide)) (sh_tg hG 7 rfl) rfl (gr_at hP 12 rfl) ?_
  refine pw_iload_n dX0_beginAhead_56 rfl ?_
  refine pw_iconst (v := nI 1) dX0_beginAhead_57 (by decide) ?_
  refine pw_iadd dX0_beginAhead_58 ?_
  refine pw_ti (z := nI (s + 1)) (nI_add s 1) ?_
  refine pw_iload_n dX0_beginAhead_59 rfl ?_
  refine pw_copyI acX0_36 dX0_beginAhead_60 (Or.inl rfl) (sh_lt hG (by decide)) (by decide) (sh_lt hG (by decide)) (sh_sh hG 9 rfl) (sh_sh hG 9 rfl) (nI_pos (by omega)) (nI_pos (by omega)) (nI_pos (by omega)) (by rw [nI_clamp (by omega), nI_clamp (by omega)]; omega) (by rw [nI_clamp (by omega), nI_clamp (by omega)]; omega) (by omega) (Nat.le_of_ble_eq_true rfl) ?_
  refine pw_aload_n dX0_beginAhead_63 rfl ?_
  refine pw_getR fX0_18 dX0_beginAhead_64 (sh_lt hG (by decide)) (sh_tg hG 7 rfl) rfl (gr_at hP 13 rfl) ?_
  refine pw_iload_n dX0_beginAhead_67 rfl ?_
  refine pw_aload_n dX0_beginAhead_68 rfl ?_
  refine pw_getR fX0_18 dX0_beginAhead_69 (sh_lt hG (by decide)) (sh_tg hG 7 rfl) rfl (gr_at hP 13 rfl) ?_
  refine pw_iload_n dX0_beginAhead_72 rfl ?_
  refine pw_iconst (v := nI 1) dX0_beginAhead_73 (by decide) ?_
  refine pw_iadd dX0_beginAhead_74 ?_
  refine pw_ti (z := nI (s + 1)) (nI_add s 1) ?_
  refine pw_iload_n dX0_beginAhead_75 rfl ?_
  refine pw_copyI acX0_36 dX0_beginAhead_76 (Or.inl rfl) (sh_lt hG (by decide)) (by decide) (sh_lt hG (by decide)) (sh_sh hG 10 rfl) (sh_sh hG 10 rfl) (nI_pos (by omega)) (nI_pos (by omega)) (nI_pos (by omega)) (by rw [nI_clamp (by omega), nI_clamp (by omega)]; omega) (by rw [nI_clamp (by omega), nI_clamp (by omega)]; omega) (by omega) (Nat.le_of_ble_eq_true rfl) ?_
  refine pw_aload_n dX0_beginAhead_79 rfl ?_
  refine pw_getR fX0_21 dX0_beginAhead_80 (sh_lt hG (by decide)) (sh_tg hG 7 rfl) rfl (gr_at hP 14 rfl) ?_
  refine pw_iload_n dX0_beginAhead_83 rfl ?_
  refine pw_aload_n dX0_beginAhead_84 rfl ?_
  refine pw_getR fX0_21 dX0_beginAhead_85 (sh_lt hG (by decide)) (sh_tg hG 7 rfl) rfl (gr_at hP 14 rfl) ?_
  refine pw_iload_n dX0_beginAhead_88 rfl ?_
  refine pw_iconst (v := nI 1) dX0_beginAhead_89 (by decide) ?_
  refine pw_iadd dX0_beginAhead_90 ?_
  refine pw_ti (z := nI (s + 1)) (nI_add s 1) ?_
  refine pw_iload_n dX0_beginAhead_91 rfl ?_
  refine pw_copyJ acX0_36 dX0_beginAhead_92 (sh_lt hG (by decide)) (by decide) (sh_lt hG (by decide)) (sh_sh hG 11 rfl) (sh_sh hG 11 rfl) (nI_pos (by omega)) (nI_pos (by omega)) (nI_pos (by omega)) (by rw [nI_clamp (by omega), nI_clamp (by omega)]; omega) (by rw [nI_clamp (by omega), nI_clamp (by omega)]; omega) (by omega) (Nat.le_of_ble_eq_true rfl) ?_
  refine pw_aload_n dX0_beginAhead_95 rfl ?_
  refine pw_getR fX0_9 dX0_beginAhead_96 (sh_lt hG (by decide)) (sh_tg hG 7 rfl) rfl (gr_at hP 11 rfl) ?_
  refine pw_iload_n dX0_beginAhead_99 rfl ?_
  refine pw_iconst (v := nI 1) dX0_beginAhead_100 (by decide) ?_
  refine pw_iastN s dX0_beginAhead_101 (by decide) (sh_lt hG (by decide)) (sh_sh hG 8 rfl) (by decide) (rfl) (by omega) ?_
  refine pw_aload_n dX0_beginAhead_102 rfl ?_
  refine pw_getR fX0_15 dX0_beginAhead_103 (sh_lt hG (by decide)) (sh_tg hG 7 rfl) rfl (gr_at hP 12 rfl) ?_
  refine pw_iload_n dX0_beginAhead_106 rfl ?_
  refine pw_iload_n dX0_beginAhead_107 rfl ?_
  refine pw_iastN s dX0_beginAhead_108 (by decide) (sh_lt hG (by decide)) (sh_sh hG 9 rfl) (by decide) (rfl) (by omega) ?_
  refine pw_aload_n dX0_beginAhead_109 rfl ?_
  refine pw_dup dX0_beginAhead_110 rfl ?_
  refine pw_getI fX0_25 dX0_beginAhead_111 (sh_lt hG (by decide)) (sh_tg hG 7 rfl) rfl ?_
  refine pw_iconst (v := nI 1) dX0_beginAhead_114 (by decide) ?_
  refine pw_iadd dX0_beginAhead_115 ?_
  refine pw_ti (z := nI (s + m + 1)) (by rw [pm_u_ne (by decide), pm_u_ne (by decide), show (va_up _ 12 _ : pmI) 9 = _ from if_neg (by decide), show (va_up _ 11 _ : pmI) 9 = _ from if_neg (by decide), show (va_up _ 10 _ : pmI) 9 = _ from if_neg (by decide), hz]; exact nI_add (s + m) 1) ?_
  refine pw_putI fX0_25 dX0_beginAhead_116 (Or.inl rfl) (by decide) (sh_lt hG (by decide)) (sh_tg hG 7 rfl) rfl ?_
  exact pw_vret dX0_beginAhead_119 rfl (k)

theorem c_X0_begin {l : Launch} {E : pmE} {d : Nat} {S : pmS} {I : pmI} {J : pmJ} {P : pmP} {Q : Option Value → pmS → pmI → pmJ → pmP → Prop} (hG : sh_St S) (hP : gr_St P) (hd : 2 ≤ d) {A B : List dD} (h : cd I J (A ++ B)) (h2 : (A ++ B).length < 121) {s y : Nat} (hs : s = A.length) (c : Int32) (v : Int64) (k : ∀ I' J', cd I' J' (A ++ (1, y, c, v) :: B) → frC I I' J J' → Q none S I' J' P) : pm_Met l E yX0_beginAhead cX0_beginAhead 4 none d 0 0 [.ref 9, .int (nI s), .int (nI y)] S I J P Q := by
  subst hs
  have h3 : (A ++ B).length = A.length + B.length := List.length_append
  exact c_X0_beginR hG hP hd (m := B.length) (by rw [← h3]; exact h.1) (by omega) (k _ _ (h.begin h2) frC.begin)
