theorem pm_lvs {l : Launch} {E : pmE} {y : MethodName} {cc : ByteArray} {nL : Nat} {ret : Option FieldType} {d kc ks pc : Nat} {lv lv' : List (Nat × Value)} {st : List Value} {S : pmS} {I : pmI} {J : pmJ} {P : pmP} {Q : pm_Z} (h : lv = lv') (k : pm_W l E y cc nL ret d kc ks pc lv' st S I J P Q) : pm_W l E y cc nL ret d kc ks pc lv st S I J P Q := h ▸ k

/-- the cells that the constructors make, from number 2 on: tag and length -/
def sh_tab : List (Nat × Nat) := [(13, 6), (102, 120), (11, 4), (100, 62), (100, 62), (101, 62), (7, 9), (4, 6), (100, 121), (100, 121), (100, 121), (101, 121), (101, 3), (8, 7), (6, 5), (101, 40), (100, 40), (100, 40), (100, 40), (10, 6), (100, 32), (100, 32), (100, 32), (100, 96), (101, 96), (12, 2), (100, 40), (101, 40), (12, 2), (100, 41), (101, 41), (105, 40), (5, 14), (12, 2), (100, 401), (101, 401), (104, 20), (100, 20), (100, 20), (100, 5), (4, 6), (100, 0), (100, 0), (100, 0), (101, 0), (14, 66), (100, 120), (101, 40), (100, 40), (100, 40), (100, 40), (100, 40), (101, 40), (100, 41), (100, 41), (100, 41), (100, 123), (100, 41), (100, 41), (100, 41), (100, 4920), (100, 2624), (100, 2624), (100, 2624), (100, 2624), (100, 2624), (100, 2624), (100, 2624), (101, 2624), (100, 41), (101, 41), (100, 16500), (100, 49500), (101, 49500), (100, 5), (100, 62), (100, 62), (101, 62), (100, 400), (100, 400), (100, 400), (100, 400), (100, 400), (100, 400), (100, 3), (100, 22), (100, 66), (101, 66), (100, 900), (100, 900), (100, 900), (101, 900), (103, 64), (101, 1)]
def gr_tab : List (Nat × Nat × Nat) := [(2, 0, 3), (2, 1, 4), (2, 2, 8), (2, 3, 15), (2, 4, 34), (4, 0, 5), (4, 1, 6), (4, 2, 7), (8, 0, 4), (8, 1, 9), (8, 2, 14), (9, 0, 10), (9, 1, 11), (9, 2, 12), (9, 3, 13), (15, 0, 16), (15, 1, 21), (15, 2, 27), (15, 3, 30), (15, 4, 33), (16, 0, 17), (16, 1, 18), (16, 2, 19), (16, 3, 20), (27, 0, 28), (27, 1, 29), (30, 0, 31), (30, 1, 32), (34, 0, 15), (34, 1, 35), (34, 2, 38), (34, 3, 39), (34, 4, 40), (34, 5, 41), (35, 0, 36), (35, 1, 37), (42, 0, 43), (42, 1, 44), (42, 2, 45), (42, 3, 46), (47, 1, 48), (47, 4, 49), (47, 5, 50), (47, 6, 51), (47, 7, 52), (47, 8, 53), (47, 9, 54), (47, 11, 55), (47, 12, 56), (47, 13, 57), (47, 14, 58), (47, 15, 59), (47, 16, 60), (47, 17, 61), (47, 18, 62), (47, 19, 63), (47, 20, 64), (47, 21, 65), (47, 22, 66), (47, 23, 67), (47, 24, 68), (47, 25, 69), (47, 26, 70), (47, 28, 71), (47, 29, 72), (47, 31, 73), (47, 32, 74), (47, 33, 75), (47, 35, 76), (47, 37, 77), (47, 38, 78), (47, 39, 79), (47, 46, 80), (47, 47, 81), (47, 48, 82), (47, 49, 83), (47, 50, 84), (47, 51, 85), (47, 52, 86), (47, 56, 87), (47, 57, 88), (47, 58, 89), (47, 60, 90), (47, 61, 91), (47, 63, 92), (47, 64, 93), (47, 65, 94)]
def sh_St (S : pmS) : Prop := 96 ≤ S.1 ∧ ∀ (k : Nat) (q : Nat × Nat), sh_tab[k]? = some q → S.2 (k + 2) = q
def gr_St (P : pmP) : Prop := ∀ (j : Nat) (q : Nat × Nat × Nat), gr_tab[j]? = some q → P q.1 q.2.1 = some q.2.2
theorem sh_lt {S : pmS} {a : Nat} (h : sh_St S) (ha : a < 96) : a < S.1 := Nat.lt_of_lt_of_le ha h.1
theorem sh_sh {S : pmS} (h : sh_St S) (k : Nat) {q : Nat × Nat} (hq : sh_tab[k]? = some q) : S.2 (k + 2) = q := h.2 k q hq
theorem sh_tg {S : pmS} (h : sh_St S) (k : Nat) {t n : Nat} (hq : sh_tab[k]? = some (t, n)) : (S.2 (k + 2)).1 = t := by rw [h.2 k _ hq]
theorem gr_at {P : pmP} (h : gr_St P) (j : Nat) {q : Nat × Nat × Nat} (hq : gr_tab[j]? = some q) : P q.1 q.2.1 = some q.2.2 := h j q hq
theorem sh_St.new {S : pmS} (h : sh_St S) (t n : Nat) : sh_St (pm_new S t n) := by
  refine ⟨Nat.le_succ_of_le h.1, fun k q hq => ?_⟩
  have hk : k < sh_tab.length := (List.getElem?_eq_some_iff.mp hq).1
  have hl : sh_tab.length = 94 := by decide
  have h1 := h.1
  show va_up S.2 S.1 (t, n) (k + 2) = q
  rw [pm_up_ne (by omega)]
  exact h.2 k q hq
theorem gr_St.upd {P : pmP} (h : gr_St P) {a k : Nat} {v : Option Nat} (hn : gr_tab.all (fun q => !(q.1 == a && q.2.1 == k)) = true) : gr_St (pm_u P a k v) := by
  intro j q hq
  have h1 := List.all_eq_true.mp hn q (List.mem_of_getElem? hq)
  rw [← h j q hq]
  by_cases ha : q.1 = a
  · subst ha
    rw [pm_u_eq, pm_up_ne]
    intro hk
    simp [hk] at h1
  · rw [pm_u_ne ha]

set_option maxRecDepth 20000 in
set_option maxHeartbeats 4000000 in
theorem c_X7_size {l : Launch} {E : pmE} {d : Nat} {S : pmS} {I : pmI} {J : pmJ} {P : pmP} {Q : Option Value → pmS → pmI → pmJ → pmP → Prop} (hG : sh_St S) (hP : gr_St P) (k : Q (some (.int (I 4 3))) S I J P) : pm_Met l E yX7_size cX7_size 1 (some .int) d 0 0 [.ref 4] S I J P Q := by
  unfold pm_Met
  refine pm_lvs (lv' := [(0, _)]) rfl ?_
  refine pw_aload_n dX7_size_0 rfl ?_
  refine pw_getI fX7_20 dX7_size_1 (sh_lt hG (by decide)) (sh_tg hG 2 rfl) rfl ?_
  exact pw_iret dX7_size_4 rfl (k)

set_option maxRecDepth 20000 in
set_option maxHeartbeats 4000000 in
theorem c_X7_kindAt {l : Launch} {E : pmE} {d : Nat} {S : pmS} {I : pmI} {J : pmJ} {P : pmP} {Q : Option Value → pmS → pmI → pmJ → pmP → Prop} (hG : sh_St S) (hP : gr_St P) {n j : Nat} (hn : I 4 3 = nI n) (hn2 : n ≤ 61) (hj : j ≤ n) (he : I 5 n = 0) (k : Q (some (.int (I 5 j))) S I J P) : pm_Met l E yX7_kindAt cX7_kindAt 2 (some .int) d 0 0 [.ref 4, .int (nI j)] S I J P Q := by
  unfold pm_Met
  refine pm_lvs (lv' := [(0, _), (1, _)]) rfl ?_
  refine pw_iload_n dX7_kindAt_0 rfl ?_
  refine pw_ifN_lt _ (tgt := 21) dX7_kindAt_1 (by decide) (rfl) (by omega) (fun h1 => absurd h1 (by omega)) (fun h1 => ?_)
  refine pw_iload_n dX7_kindAt_4 rfl ?_
  refine pw_aload_n dX7_kindAt_5 rfl ?_
  refine pw_getI fX7_20 dX7_kindAt_6 (sh_lt hG (by decide)) (sh_tg hG 2 rfl) rfl ?_
  refine pw_icmpN_ge _ _ (tgt := 21) dX7_kindAt_9 (by decide) (rfl) (hn) (by omega) (by omega) (fun h9 => ?_) (fun h9 => ?_)
  · refine pw_iconst (v := nI 0) dX7_kindAt_21 (by decide) ?_
    exact pw_iret dX7_kindAt_22 rfl (by (have e : j = n := (by omega)); subst e; rw [he] at k; exact k)
  · refine pw_aload_n dX7_kindAt_12 rfl ?_
    refine pw_getR fX7_9 dX7_kindAt_13 (sh_lt hG (by decide)) (sh_tg hG 2 rfl) rfl (gr_at hP 5 rfl) ?_
    refine pw_iload_n dX7_kindAt_16 rfl ?_
    refine pw_ialdN _ dX7_kindAt_17 (sh_lt hG (by decide)) (sh_sh hG 3 rfl) (by decide) (rfl) (by omega) ?_
    refine pw_goto (tgt := 22) dX7_kindAt_18 (by decide) ?_
    exact pw_iret dX7_kindAt_22 rfl (k)

set_option maxRecDepth 20000 in
set_option maxHeartbeats 4000000 in
theorem c_X7_placeAt {l : Launch} {E : pmE} {d : Nat} {S : pmS} {I : pmI} {J : pmJ} {P : pmP} {Q : Option Value → pmS → pmI → pmJ → pmP → Prop} (hG : sh_St S) (hP : gr_St P) {n j : Nat} (hn : I 4 3 = nI n) (hn2 : n ≤ 61) (hj : j ≤ n) (k : Q (some (.int (I 6 j))) S I J P) : pm_Met l E yX7_placeAt cX7_placeAt 2 (some .int) d 0 0 [.ref 4, .int (nI j)] S I J P Q := by
  unfold pm_Met
  refine pm_lvs (lv' := [(0, _), (1, _)]) rfl ?_
  refine pw_iload_n dX7_placeAt_0 rfl ?_
  refine pw_ifN_lt _ (tgt := 30) dX7_placeAt_1 (by decide) (rfl) (by omega) (fun h1 => absurd h1 (by omega)) (fun h1 => ?_)
  refine pw_iload_n dX7_placeAt_4 rfl ?_
  refine pw_aload_n dX7_placeAt_5 rfl ?_
  refine pw_getI fX7_20 dX7_placeAt_6 (sh_lt hG (by decide)) (sh_tg hG 2 rfl) rfl ?_
  refine pw_icmpN_gt _ _ (tgt := 30) dX7_placeAt_9 (by decide) (rfl) (hn) (by omega) (by omega) (fun h9 => absurd h9 (by omega)) (fun h9 => ?_)
  refine pw_iload_n dX7_placeAt_12 rfl ?_
  refine pw_aload_n dX7_placeAt_13 rfl ?_
  refine pw_getR fX7_13 dX7_placeAt_14 (sh_lt hG (by decide)) (sh_tg hG 2 rfl) rfl (gr_at hP 6 rfl) ?_
  refine pw_alen dX7_placeAt_17 (sh_lt hG (by decide)) (sh_sh hG 4 rfl) (by decide) (by decide) ?_
  refine pw_icmpN_ge _ _ (tgt := 30) dX7_placeAt_18 (by decide) (rfl) (rfl) (by omega) (by omega) (fun h18 => absurd h18 (by omega)) (fun h18 => ?_)
  refine pw_aload_n dX7_placeAt_21 rfl ?_
  refine pw_getR fX7_13 dX7_placeAt_22 (sh_lt hG (by decide)) (sh_tg hG 2 rfl) rfl (gr_at hP 6 rfl) ?_
  refine pw_iload_n dX7_placeAt_25 rfl ?_
  refine pw_ialdN _ dX7_placeAt_26 (sh_lt hG (by decide)) (sh_sh hG 4 rfl) (by decide) (rfl) (by omega) ?_
  refine pw_goto (tgt := 31) dX7_placeAt_27 (by decide) ?_
  exact pw_iret dX7_placeAt_31 rfl (k)

set_option maxRecDepth 20000 in
set_option maxHeartbeats 4000000 in
theorem c_X7_coreAt {l : Launch} {E : pmE} {d : Nat} {S : pmS} {I : pmI} {J : pmJ} {P : pmP} {Q : Option Value → pmS → pmI → pmJ → pmP → Prop} (hG : sh_St S) (hP : gr_St P) {n j : Nat} (hn : I 4 3 = nI n) (hn2 : n ≤ 61) (hj : j ≤ n) (he : J 7 n = 0) (k : Q (some (.long (J 7 j))) S I J P) : pm_Met l E yX7_coreAt cX7_coreAt 2 (some .long) d 0 0 [.ref 4, .int (nI j)] S I J P Q := by
  unfold pm_Met
  refine pm_lvs (lv' := [(0, _), (1, _)]) rfl ?_
  refine pw_iload_n dX7_coreAt_0 rfl ?_
  refine pw_ifN_lt _ (tgt := 21) dX7_coreAt_1 (by decide) (rfl) (by omega) (fun h1 => absurd h1 (by omega)) (fun h1 => ?_)
  refine pw_iload_n dX7_coreAt_4 rfl ?_
  refine pw_aload_n dX7_coreAt_5 rfl ?_
  refine pw_getI fX7_20 dX7_coreAt_6 (sh_lt hG (by decide)) (sh_tg hG 2 rfl) rfl ?_
  refine pw_icmpN_ge _ _ (tgt := 21) dX7_coreAt_9 (by decide) (rfl) (hn) (by omega) (by omega) (fun h9 => ?_) (fun h9 => ?_)
  · refine pw_lconst (v := 0) dX7_coreAt_21 (by decide) ?_
    exact pw_lret dX7_coreAt_22 rfl (by (have e : j = n := (by omega)); subst e; rw [he] at k; exact k)
  · refine pw_aload_n dX7_coreAt_12 rfl ?_
    refine pw_getR fX7_16 dX7_coreAt_13 (sh_lt hG (by decide)) (sh_tg hG 2 rfl) rfl (gr_at hP 7 rfl) ?_
    refine pw_iload_n dX7_coreAt_16 rfl ?_
    refine pw_laldN _ dX7_coreAt_17 (sh_lt hG (by decide)) (sh_sh hG 5 rfl) (by decide) (rfl) (by omega) ?_
    refine pw_goto (tgt := 22) dX7_coreAt_18 (by decide) ?_
    exact pw_lret dX7_coreAt_22 rfl (k)
