/-- the signs of all texts are single bytes -/
def gT (A : aS) : Prop := ∀ x ∈ A.sn, ∀ y ∈ x.tx, y < 128
theorem gT_0 : gT aE := fun x hx => (by cases hx)
theorem gT.kp {A B : aS} {form n : Nat} {dec : Int64} {pa : List Int64} {T : eX} {tx : Nat → Nat} {v : vV} {t : List tH} (h : gT A) (hb : ∀ j, j < n → tx j < 128) (e : B.sn = A.sn) : gT (B.kp (rnX B form dec pa T tx n) v t) := by
  intro x hx y hy
  rw [kp_sn, e] at hx
  rcases List.mem_append.mp hx with q | q
  · exact h x q y hy
  · rw [List.mem_singleton.mp q] at hy
    obtain ⟨j, hj, rfl⟩ := List.mem_map.mp hy
    exact hb j (List.mem_range.mp hj)
theorem gT_rnF {A : aS} {tx : Nat → Nat} {n : Nat} {r : rdV} {T : eX} (h : gT A) (hb : ∀ j, j < n → tx j < 128) : gT (rnF A tx n r T).2.1 := by
  unfold rnF
  split
  · exact h
  · split
    · exact h
    · split
      · exact h
      · show gT (rnK _ _ _ _ _ _ _ _).2
        unfold rnK
        split
        · exact h.kp hb rfl
        · unfold rnE
          split
          · exact h
          · exact h.kp hb rfl
theorem gT.at {A : aS} (h : gT A) {s : Nat} (hs : s < A.sn.length) : ∀ y ∈ (A.at s).tx, y < 128 := by
  have e : A.at s = A.sn[s] := by
    show A.sn.getD s _ = _
    rw [List.getD_eq_getElem?_getD, List.getElem?_eq_getElem hs]
    rfl
  rw [e]
  exact h _ (List.getElem_mem hs)
theorem ix_cases {n : Nat} (hn : n < 2 ^ 31) (x : Int32) : (∃ j, j < n ∧ x = nI j) ∨ ¬ (0 ≤ x.toInt ∧ x.toInt < (n : Int)) := by
  by_cases h : 0 ≤ x.toInt ∧ x.toInt < (n : Int)
  · left
    have h0 : ¬ x < 0 := fun q => by
      rw [Int32.lt_iff_toInt_lt, show (0 : Int32).toInt = 0 by decide] at q
      omega
    obtain ⟨i, hi, rfl⟩ := nn_I h0
    rw [nI_toInt (by omega)] at h
    exact ⟨i, by omega, rfl⟩
  · exact Or.inr h
/-- what text() answers: 0 and the sign, or 1 -/
def txX (A : aS) (x y : Int32) : Nat × Nat := if 0 ≤ x.toInt ∧ x.toInt < (A.sn.length : Int) then (if 0 ≤ y.toInt ∧ y.toInt < ((A.at x.toInt.toNat).tx.length : Int) then (0, (A.at x.toInt.toNat).tx.getD y.toInt.toNat 0) else (1, 0)) else (1, 0)
theorem txX_1 {A : aS} {s j u : Nat} (hl : A.sn.length ≤ 40) (hs : s < A.sn.length) (ht : (A.at s).tx.length ≤ 120) (hj : (A.at s).tx[j]? = some u) : txX A (nI s) (nI j) = (0, u) := by
  have h := (List.getElem?_eq_some_iff.mp hj).1
  unfold txX
  rw [nI_toInt (by omega), if_pos ⟨by omega, by omega⟩, Int.toNat_natCast, nI_toInt (by omega), if_pos ⟨by omega, by omega⟩, Int.toNat_natCast, List.getD_eq_getElem?_getD, hj]
  rfl
theorem txX_2 {A : aS} {s : Nat} {y : Int32} (hl : A.sn.length ≤ 40) (hs : s < A.sn.length) (h : ¬ (0 ≤ y.toInt ∧ y.toInt < ((A.at s).tx.length : Int))) : txX A (nI s) y = (1, 0) := by
  unfold txX
  rw [nI_toInt (by omega), if_pos ⟨by omega, by omega⟩, Int.toNat_natCast, if_neg h]
theorem txX_0 {A : aS} {x y : Int32} (h : ¬ (0 ≤ x.toInt ∧ x.toInt < (A.sn.length : Int))) : txX A x y = (1, 0) := if_neg h
set_option maxRecDepth 20000 in
set_option maxHeartbeats 400000 in
theorem t_signAt {l : Launch} {E : pmE} {d : Nat} {S : pmS} {I : pmI} {J : pmJ} {P : pmP} {Q : Option Value → pmS → pmI → pmJ → pmP → Prop} {ns : List Int64} {z : Nat} {y : sN} (hx : snC S I J P ns z y) {i u : Nat} (hi : y.tx[i]? = some u) (k : Q (some (.int (nI u))) S I J P) : pm_Met l E yX5_signAt cX5_signAt 2 (some .int) d 0 0 [.ref (z + 2), .int (nI i)] S I J P Q := by
  unfold pm_Met
  have hil := (List.getElem?_eq_some_iff.mp hi).1
  have htl := hx.tx'.1
  refine pm_lvs (lv' := [(0, _), (1, _)]) rfl ?_
  refine pw_iload_n dX5_signAt_0 rfl ?_
  refine pw_if_lt (tgt := 22) dX5_signAt_1 (by decide) (fun h => absurd h (nI_pos (by omega))) (fun h1 => ?_)
  refine pw_iload_n dX5_signAt_4 rfl ?_
  refine pw_aload_n dX5_signAt_5 rfl ?_
  refine pw_getR fX5_22 dX5_signAt_6 (by have := hx.1.2; omega) hx.tg rfl hx.p3 ?_
  refine pw_alen dX5_signAt_9 (by have := hx.1.2; omega) hx.a0 (by decide) (by decide) ?_
  refine pw_icmpN_ge _ _ (tgt := 22) dX5_signAt_10 (by decide) (rfl) (rfl) (by omega) (by omega) (fun h10 => absurd h10 (by omega)) (fun h10 => ?_)
  refine pw_aload_n dX5_signAt_13 rfl ?_
  refine pw_getR fX5_22 dX5_signAt_14 (by have := hx.1.2; omega) hx.tg rfl hx.p3 ?_
  refine pw_iload_n dX5_signAt_17 rfl ?_
  refine pw_baldN i dX5_signAt_18 (by have := hx.1.2; omega) hx.a0 (by omega) (rfl) (by omega) ?_
  refine pw_ti (z := nI u) (hx.tx'.2 i u hi) ?_
  refine pw_goto (tgt := 24) dX5_signAt_19 (by decide) ?_
  exact pw_iret dX5_signAt_24 rfl (k)
set_option maxRecDepth 20000 in
set_option maxHeartbeats 400000 in
theorem t_signNo {l : Launch} {E : pmE} {d : Nat} {S : pmS} {I : pmI} {J : pmJ} {P : pmP} {Q : Option Value → pmS → pmI → pmJ → pmP → Prop} {ns : List Int64} {z : Nat} {y : sN} (hx : snC S I J P ns z y) {x : Int32} (h0 : ¬ (0 ≤ x.toInt ∧ x.toInt < (y.tx.length : Int))) (k : Q (some (.int (-5))) S I J P) : pm_Met l E yX5_signAt cX5_signAt 2 (some .int) d 0 0 [.ref (z + 2), .int x] S I J P Q := by
  unfold pm_Met
  have htl := hx.tx'.1
  refine pm_lvs (lv' := [(0, _), (1, _)]) rfl ?_
  refine pw_iload_n dX5_signAt_0 rfl ?_
  refine pw_if_lt (tgt := 22) dX5_signAt_1 (by decide) (fun h1 => ?_) (fun h1 => ?_)
  · refine pw_bipush (v := -5) dX5_signAt_22 (by decide) ?_
    exact pw_iret dX5_signAt_24 rfl (k)
  · obtain ⟨i, hi, rfl⟩ := nn_I h1
    rw [nI_toInt hi] at h0
    refine pw_iload_n dX5_signAt_4 rfl ?_
    refine pw_aload_n dX5_signAt_5 rfl ?_
    refine pw_getR fX5_22 dX5_signAt_6 (by have := hx.1.2; omega) hx.tg rfl hx.p3 ?_
    refine pw_alen dX5_signAt_9 (by have := hx.1.2; omega) hx.a0 (by decide) (by decide) ?_
    refine pw_icmpN_ge _ _ (tgt := 22) dX5_signAt_10 (by decide) (rfl) (rfl) (by omega) (by omega) (fun h10 => ?_) (fun h10 => ?_)
    · refine pw_bipush (v := -5) dX5_signAt_22 (by decide) ?_
      exact pw_iret dX5_signAt_24 rfl (k)
    · exact absurd ⟨by omega, by omega⟩ h0
set_option maxRecDepth 20000 in
set_option maxHeartbeats 400000 in
theorem s_sign {l : Launch} {E : pmE} {d : Nat} {S : pmS} {I : pmI} {J : pmJ} {P : pmP} {Q : Option Value → pmS → pmI → pmJ → pmP → Prop} (hG : sh_St S) (hP : gr_St P) (hd : 2 ≤ d) {A : aS} {Z : Nat → Nat} {b : Nat} (hc : cA S I J P A Z b) (hO : aO A) {s i u : Nat} (hs : s < A.sn.length) (hi : (A.at s).tx[i]? = some u) (k : Q (some (.int (nI u))) S I J P) : pm_Met l E yX4_signOf cX4_signOf 3 (some .int) d 0 0 [.ref 15, .int (nI s), .int (nI i)] S I J P Q := by
  unfold pm_Met
  have hsl := hO.2.2.2.2.2.2.2.2.2.2.1
  refine pm_lvs (lv' := [(0, _), (1, _), (2, _)]) rfl ?_
  refine pw_aload_n dX4_signOf_0 rfl ?_
  refine pw_iload_n dX4_signOf_1 rfl ?_
  refine pw_callV (as := [_]) (kc' := 0) (ks' := 0) lX4_82 dX4_signOf_2 rfl rfl (sh_lt hG (by decide)) (sh_tg hG 13 rfl) (Nat.le_of_ble_eq_true rfl) (by omega) (Nat.le_of_ble_eq_true rfl) (Nat.zero_le _) (Nat.zero_le _) ?_
  refine s_has1 hG hP hc hsl hs ?_
  refine pw_if_eq (tgt := 21) dX4_signOf_5 (by decide) (fun h => absurd h (by decide)) (fun h5 => ?_)
  refine pw_aload_n dX4_signOf_8 rfl ?_
  refine pw_getR fX4_39 dX4_signOf_9 (sh_lt hG (by decide)) (sh_tg hG 13 rfl) rfl (gr_at hP 19 rfl) ?_
  refine pw_iload_n dX4_signOf_12 rfl ?_
  refine pw_aaldN (r := some (Z s + 2)) s dX4_signOf_13 (sh_lt hG (by decide)) (sh_sh hG 31 rfl) (by decide) (by decide) (rfl) (by omega) (hc.sn hs).1 ?_
  refine pw_iload_n dX4_signOf_14 rfl ?_
  refine pw_callV (as := [_]) (kc' := 0) (ks' := 0) lX4_93 dX4_signOf_15 rfl rfl (by have := (hc.sn hs).2.1.1.2; omega) (hc.sn hs).2.1.tg (Nat.le_of_ble_eq_true rfl) (by omega) (Nat.le_of_ble_eq_true rfl) (Nat.zero_le _) (Nat.zero_le _) ?_
  refine t_signAt (hc.sn hs).2.1 hi ?_
  refine pw_goto (tgt := 23) dX4_signOf_18 (by decide) ?_
  exact pw_iret dX4_signOf_23 rfl (k)
set_option maxRecDepth 20000 in
set_option maxHeartbeats 400000 in
theorem s_signNo {l : Launch} {E : pmE} {d : Nat} {S : pmS} {I : pmI} {J : pmJ} {P : pmP} {Q : Option Value → pmS → pmI → pmJ → pmP → Prop} (hG : sh_St S) (hP : gr_St P) (hd : 2 ≤ d) {A : aS} {Z : Nat → Nat} {b : Nat} (hc : cA S I J P A Z b) (hO : aO A) {s : Nat} {x2 : Int32} (hs : s < A.sn.length) (h0 : ¬ (0 ≤ x2.toInt ∧ x2.toInt < ((A.at s).tx.length : Int))) (k : Q (some (.int (-5))) S I J P) : pm_Met l E yX4_signOf cX4_signOf 3 (some .int) d 0 0 [.ref 15, .int (nI s), .int x2] S I J P Q := by
  unfold pm_Met
  have hsl := hO.2.2.2.2.2.2.2.2.2.2.1
  refine pm_lvs (lv' := [(0, _), (1, _), (2, _)]) rfl ?_
  refine pw_aload_n dX4_signOf_0 rfl ?_
  refine pw_iload_n dX4_signOf_1 rfl ?_
  refine pw_callV (as := [_]) (kc' := 0) (ks' := 0) lX4_82 dX4_signOf_2 rfl rfl (sh_lt hG (by decide)) (sh_tg hG 13 rfl) (Nat.le_of_ble_eq_true rfl) (by omega) (Nat.le_of_ble_eq_true rfl) (Nat.zero_le _) (Nat.zero_le _) ?_
  refine s_has1 hG hP hc hsl hs ?_
  refine pw_if_eq (tgt := 21) dX4_signOf_5 (by decide) (fun h => absurd h (by decide)) (fun h5 => ?_)
  refine pw_aload_n dX4_signOf_8 rfl ?_
  refine pw_getR fX4_39 dX4_signOf_9 (sh_lt hG (by decide)) (sh_tg hG 13 rfl) rfl (gr_at hP 19 rfl) ?_
  refine pw_iload_n dX4_signOf_12 rfl ?_
  refine pw_aaldN (r := some (Z s + 2)) s dX4_signOf_13 (sh_lt hG (by decide)) (sh_sh hG 31 rfl) (by decide) (by decide) (rfl) (by omega) (hc.sn hs).1 ?_
  refine pw_iload_n dX4_signOf_14 rfl ?_
  refine pw_callV (as := [_]) (kc' := 0) (ks' := 0) lX4_93 dX4_signOf_15 rfl rfl (by have := (hc.sn hs).2.1.1.2; omega) (hc.sn hs).2.1.tg (Nat.le_of_ble_eq_true rfl) (by omega) (Nat.le_of_ble_eq_true rfl) (Nat.zero_le _) (Nat.zero_le _) ?_
  refine t_signNo (hc.sn hs).2.1 h0 ?_
  refine pw_goto (tgt := 23) dX4_signOf_18 (by decide) ?_
  exact pw_iret dX4_signOf_23 rfl (k)
set_option maxRecDepth 20000 in
set_option maxHeartbeats 400000 in
theorem s_signOut {l : Launch} {E : pmE} {d : Nat} {S : pmS} {I : pmI} {J : pmJ} {P : pmP} {Q : Option Value → pmS → pmI → pmJ → pmP → Prop} (hG : sh_St S) (hP : gr_St P) (hd : 2 ≤ d) {x x2 : Int32} {A : aS} {Z : Nat → Nat} {b : Nat} (hc : cA S I J P A Z b) (hO : aO A) (h0 : ¬ (0 ≤ x.toInt ∧ x.toInt < (A.sn.length : Int))) (k : Q (some (.int (-5))) S I J P) : pm_Met l E yX4_signOf cX4_signOf 3 (some .int) d 0 0 [.ref 15, .int x, .int x2] S I J P Q := by
  unfold pm_Met
  have hsl := hO.2.2.2.2.2.2.2.2.2.2.1
  refine pm_lvs (lv' := [(0, _), (1, _), (2, _)]) rfl ?_
  have hx : x < 0 ∨ I 15 5 ≤ x := by
    by_cases q : x < 0
    · exact Or.inl q
    · right
      obtain ⟨i, hi, rfl⟩ := nn_I q
      rw [nI_toInt hi] at h0
      rw [hc.k, Int32.le_iff_toInt_le, nI_toInt hi, nI_toInt (by omega)]
      omega
  refine pw_aload_n dX4_signOf_0 rfl ?_
  refine pw_iload_n dX4_signOf_1 rfl ?_
  refine pw_callV (as := [_]) (kc' := 0) (ks' := 0) lX4_82 dX4_signOf_2 rfl rfl (sh_lt hG (by decide)) (sh_tg hG 13 rfl) (Nat.le_of_ble_eq_true rfl) (by omega) (Nat.le_of_ble_eq_true rfl) (Nat.zero_le _) (Nat.zero_le _) ?_
  refine c_X4_hasSnippet0 hG hP hx ?_
  refine pw_if_eq (tgt := 21) dX4_signOf_5 (by decide) (fun h5 => ?_) (fun h => absurd (by decide) h)
  refine pw_bipush (v := -5) dX4_signOf_21 (by decide) ?_
  exact pw_iret dX4_signOf_23 rfl (k)
set_option maxRecDepth 20000 in
set_option maxHeartbeats 400000 in
theorem c_textE {l : Launch} {E : pmE} {d : Nat} {S : pmS} {I : pmI} {J : pmJ} {P : pmP} {Q : Option Value → pmS → pmI → pmJ → pmP → Prop} {QX : String → pmS → pmI → pmJ → pmP → Prop} {kc ks : Nat} (hl : l.stackTraces = false) (hG : sh_St S) (hP : gr_St P) (hd : 90 ≤ d) (hkc : 1 ≤ kc) (hks : 8 ≤ ks) {x x2 : Int32} {A : aS} {Z : Nat → Nat} {b : Nat} (hc : cA S I J P A Z b) (hO : aO A) (hg : gT A) (k : (txX A x x2).1 = 0 → Q (some (.int (nI (txX A x x2).2))) S I J P) (kA : (txX A x x2).1 = 1 → QX "java/lang/ArrayIndexOutOfBoundsException" (pm_new S 300 0) I J P) : pm_MetX l E yX9_text cX9_text 4 (some .int) d kc ks [.ref 2, .int x, .int x2] S I J P Q QX := by
  unfold pm_MetX
  have hsl := hO.2.2.2.2.2.2.2.2.2.2.1
  refine pm_lvs (lv' := [(0, _), (1, _), (2, _)]) rfl ?_
  rcases ix_cases (n := A.sn.length) (by omega) x with ⟨s, hs, rfl⟩ | h0
  · have htl := ((hc.sn hs).2.1.tx').1
    rcases ix_cases (n := (A.at s).tx.length) (by omega) x2 with ⟨i, hi, rfl⟩ | h0
    · obtain ⟨u, hu⟩ : ∃ u, (A.at s).tx[i]? = some u := ⟨_, List.getElem?_eq_getElem hi⟩
      have hu8 := hg.at hs u (List.mem_of_getElem? hu)
      rw [txX_1 hsl hs htl hu] at k kA
      refine pw_aload_n dX9_text_0 rfl ?_
      refine pw_getR fX9_32 dX9_text_1 (sh_lt hG (by decide)) (sh_tg hG 0 rfl) rfl (gr_at hP 3 rfl) ?_
      refine pw_iload_n dX9_text_4 rfl ?_
      refine pw_iload_n dX9_text_5 rfl ?_
      refine pw_callV (as := [_, _]) (kc' := 0) (ks' := 0) lX9_161 dX9_text_6 rfl rfl (sh_lt hG (by decide)) (sh_tg hG 13 rfl) (Nat.le_of_ble_eq_true rfl) (by omega) (Nat.le_of_ble_eq_true rfl) (Nat.zero_le _) (Nat.zero_le _) ?_
      refine s_sign hG hP (by omega) hc hO hs hu ?_
      refine pw_istore_n (lv' := [(3, _), (0, _), (1, _), (2, _)]) dX9_text_9 (by decide) rfl ?_
      refine pw_iload_n dX9_text_10 rfl ?_
      refine pw_bipush (v := -5) dX9_text_11 (by decide) ?_
      refine pw_icmp_ne (tgt := 24) dX9_text_13 (by decide) (fun h13 => ?_) (fun h => absurd h (nI_n5 (by omega)))
      refine pw_X ?_
      refine pw_iload_n dX9_text_24 rfl ?_
      exact pw_iret dX9_text_25 rfl (k rfl)
    · rw [txX_2 hsl hs h0] at k kA
      refine pw_aload_n dX9_text_0 rfl ?_
      refine pw_getR fX9_32 dX9_text_1 (sh_lt hG (by decide)) (sh_tg hG 0 rfl) rfl (gr_at hP 3 rfl) ?_
      refine pw_iload_n dX9_text_4 rfl ?_
      refine pw_iload_n dX9_text_5 rfl ?_
      refine pw_callV (as := [_, _]) (kc' := 0) (ks' := 0) lX9_161 dX9_text_6 rfl rfl (sh_lt hG (by decide)) (sh_tg hG 13 rfl) (Nat.le_of_ble_eq_true rfl) (by omega) (Nat.le_of_ble_eq_true rfl) (Nat.zero_le _) (Nat.zero_le _) ?_
      refine s_signNo hG hP (by omega) hc hO hs h0 ?_
      refine pw_istore_n (lv' := [(3, _), (0, _), (1, _), (2, _)]) dX9_text_9 (by decide) rfl ?_
      refine pw_iload_n dX9_text_10 rfl ?_
      refine pw_bipush (v := -5) dX9_text_11 (by decide) ?_
      refine pw_icmp_ne (tgt := 24) dX9_text_13 (by decide) (fun h => absurd (rfl) h) (fun h13 => ?_)
      exact pw_throw0 hl (by decide) (by decide) wx_A wy_A dX9_text_16 dX9_text_19 dX9_text_20 dX9_text_23 (by decide) (by omega) (by omega) (by omega) (kA rfl)
  · rw [txX_0 h0] at k kA
    refine pw_aload_n dX9_text_0 rfl ?_
    refine pw_getR fX9_32 dX9_text_1 (sh_lt hG (by decide)) (sh_tg hG 0 rfl) rfl (gr_at hP 3 rfl) ?_
    refine pw_iload_n dX9_text_4 rfl ?_
    refine pw_iload_n dX9_text_5 rfl ?_
    refine pw_callV (as := [_, _]) (kc' := 0) (ks' := 0) lX9_161 dX9_text_6 rfl rfl (sh_lt hG (by decide)) (sh_tg hG 13 rfl) (Nat.le_of_ble_eq_true rfl) (by omega) (Nat.le_of_ble_eq_true rfl) (Nat.zero_le _) (Nat.zero_le _) ?_
    refine s_signOut hG hP (by omega) hc hO h0 ?_
    refine pw_istore_n (lv' := [(3, _), (0, _), (1, _), (2, _)]) dX9_text_9 (by decide) rfl ?_
    refine pw_iload_n dX9_text_10 rfl ?_
    refine pw_bipush (v := -5) dX9_text_11 (by decide) ?_
    refine pw_icmp_ne (tgt := 24) dX9_text_13 (by decide) (fun h => absurd (rfl) h) (fun h13 => ?_)
    exact pw_throw0 hl (by decide) (by decide) wx_A wy_A dX9_text_16 dX9_text_19 dX9_text_20 dX9_text_23 (by decide) (by omega) (by omega) (by omega) (kA rfl)
theorem txX_c (A : aS) (x y : Int32) : (txX A x y).1 = 0 ∨ (txX A x y).1 = 1 := by
  unfold txX
  split
  · split
    · exact Or.inl rfl
    · exact Or.inr rfl
  · exact Or.inr rfl
set_option maxRecDepth 20000 in
set_option maxHeartbeats 400000 in
theorem f_L_textE {l : Launch} {E : pmE} {d : Nat} {S : pmS} {I : pmI} {J : pmJ} {P : pmP} {Q : Option Value → pmS → pmI → pmJ → pmP → Prop} {kc ks : Nat} (hl : l.stackTraces = false) (hG : sh_St S) (hP : gr_St P) (hd : 100 ≤ d) (hkc : 1 ≤ kc) (hks : 8 ≤ ks) {x x2 : Int32} {A : aS} {Z : Nat → Nat} {b : Nat} (hc : cA S I J P A Z b) (hO : aO A) (hg : gT A) (k : ∀ S' J', (S' = S ∨ S' = pm_new S 300 0) → (∀ b, b ≠ 95 → J' b = J b) → ((txX A x x2).1 = 0 → J' 95 0 = (nI (txX A x x2).2).toInt64) → Q (some (.int (nI (txX A x x2).1))) S' I J' P) : pm_MetT l E yL_text cL_text 5 (some .int) [(0, 10, 13, 21)] d kc ks [.ref 2, .int x, .int x2, .ref 95] S I J P Q := by
  unfold pm_MetT
  refine pm_lvs (lv' := [(0, _), (1, _), (2, _), (3, _)]) rfl ?_
  refine pw_aload_n dL_text_0 rfl ?_
  refine pw_iconst (v := nI 0) dL_text_1 (by decide) ?_
  refine pw_aload_n dL_text_2 rfl ?_
  refine pw_iload_n dL_text_3 rfl ?_
  refine pw_iload_n dL_text_4 rfl ?_
  refine pw_callVT (as := [_, _]) (kc' := 1) (ks' := 8) (Cs := ["java/lang/ArrayIndexOutOfBoundsException"]) (hp := fun _ => 13) (j := 4) (ln := 2) (lv' := [(0, _), (1, _), (2, _), (3, _)]) lL_17 dL_text_5 rfl rfl (sh_lt hG (by decide)) (sh_tg hG 0 rfl) (Nat.le_of_ble_eq_true rfl) (by omega) (Nat.le_of_ble_eq_true rfl) (by omega) (by omega) (fun C hC => ?_) (by decide) rfl ?_
  · cases List.mem_singleton.mp hC
    exact ⟨ct_A, Or.inr ⟨dL_text_13, rfl⟩⟩
  refine c_textE hl hG hP (by omega) (by omega) (by omega) hc hO hg (fun h => ?_) (fun h => ⟨List.mem_singleton.mpr rfl, ?_⟩) <;> rw [h] at k
  · refine pw_T ?_
    refine pw_i2l dL_text_8 ?_
    refine pw_lastN 0 dL_text_9 (by decide) (sh_lt hG (by decide)) (sh_sh hG 93 rfl) (by decide) (by decide) (by decide) ?_
    refine pw_goto (tgt := 17) dL_text_10 (by decide) ?_
    refine pw_iconst (v := nI 0) dL_text_17 (by decide) ?_
    exact pw_iret dL_text_18 rfl (k _ _ (Or.inl rfl) (fun b hb => pm_u_ne hb) (fun _ => by rw [pm_u_eq, pm_up_eq]))
  · refine pw_T ?_
    refine pw_iconst (v := nI 1) dL_text_15 (by decide) ?_
    exact pw_iret dL_text_16 rfl (k _ _ (Or.inr rfl) (fun b hb => rfl) (fun q => absurd q (by decide)))
set_option maxRecDepth 20000 in
set_option maxHeartbeats 400000 in
theorem r_textE {l : Launch} {E : pmE} {d : Nat} {S : pmS} {I : pmI} {J : pmJ} {P : pmP} {Q : Option Value → pmS → pmI → pmJ → pmP → Prop} (hG : sh_St S) (hP : gr_St P) (hd : 1 ≤ d) {x y : Int32} {A : aS} (hA : rA I J A) (hO : aO A) (k : ∀ a, ((txX A x y).1 = 0 → a = nI (txX A x y).2) → Q (some (.int a)) S (pm_u I 47 0 (nI (txX A x y).1)) J P) : pm_Met l E yX10_text cX10_text 3 (some .int) d 0 0 [.ref 47, .int x, .int y] S I J P Q := by
  unfold pm_Met
  have hsl := hO.2.2.2.2.2.2.2.2.2.2.1
  refine pm_lvs (lv' := [(0, _), (1, _), (2, _)]) rfl ?_
  rcases ix_cases (n := A.sn.length) (by omega) x with ⟨s, hs, rfl⟩ | h0
  · have htl := ((hA.sn hs).2.2.2.2.2.1.2).1
    rcases ix_cases (n := (A.at s).tx.length) (by omega) y with ⟨i, hi, rfl⟩ | h0
    · obtain ⟨u, hu⟩ : ∃ u, (A.at s).tx[i]? = some u := ⟨_, List.getElem?_eq_getElem hi⟩
      rw [txX_1 hsl hs htl hu] at k
      refine pw_aload_n dX10_text_0 rfl ?_
      refine pw_iload_n dX10_text_1 rfl ?_
      refine pw_iconst (v := nI 0) dX10_text_2 (by decide) ?_
      refine pw_aload_n dX10_text_3 rfl ?_
      refine pw_getI fX10_220 dX10_text_4 (sh_lt hG (by decide)) (sh_tg hG 45 rfl) rfl ?_
      refine pw_ti (z := nI A.sn.length) hA.k ?_
      refine pw_iconst (v := nI 1) dX10_text_7 (by decide) ?_
      refine pw_isub dX10_text_8 ?_
      refine pw_callS (as := [_, _, _]) (kc' := 0) (ks' := 0) lX10_160 dX10_text_9 rfl rfl (Nat.le_of_ble_eq_true rfl) (by omega) (Nat.le_of_ble_eq_true rfl) (Nat.zero_le _) (Nat.zero_le _) ?_
      refine c_X10_in (fun _ _ => ?_) (fun q => absurd q ?_)
      rotate_left
      · intro q
        rcases q with q | q
        · rw [nI_ltI (by omega) (by omega)] at q; omega
        · rw [show nI (A.sn.length) - nI 1 = nI (A.sn.length - 1) from pk_sub (by omega), nI_ltI (by omega) (by omega)] at q; omega
      refine pw_if_eq (tgt := 35) dX10_text_12 (by decide) (fun h => absurd h (by decide)) (fun h12 => ?_)
      refine pw_iload_n dX10_text_15 rfl ?_
      refine pw_iconst (v := nI 0) dX10_text_16 (by decide) ?_
      refine pw_aload_n dX10_text_17 rfl ?_
      refine pw_getR fX10_50 dX10_text_18 (sh_lt hG (by decide)) (sh_tg hG 45 rfl) rfl (gr_at hP 53 rfl) ?_
      refine pw_iload_n dX10_text_21 rfl ?_
      refine pw_ialdN s dX10_text_22 (sh_lt hG (by decide)) (sh_sh hG 59 rfl) (by decide) (rfl) (by omega) ?_
      refine pw_ti (z := nI (A.at s).tx.length) (hA.sn hs).2.2.2.2.2.1.1 ?_
      refine pw_iconst (v := nI 1) dX10_text_23 (by decide) ?_
      refine pw_isub dX10_text_24 ?_
      refine pw_callS (as := [_, _, _]) (kc' := 0) (ks' := 0) lX10_160 dX10_text_25 rfl rfl (Nat.le_of_ble_eq_true rfl) (by omega) (Nat.le_of_ble_eq_true rfl) (Nat.zero_le _) (Nat.zero_le _) ?_
      refine c_X10_in (fun _ _ => ?_) (fun q => absurd q ?_)
      rotate_left
      · intro q
        rcases q with q | q
        · rw [nI_ltI (by omega) (by omega)] at q; omega
        · rw [show nI ((A.at s).tx.length) - nI 1 = nI ((A.at s).tx.length - 1) from pk_sub (by omega), nI_ltI (by omega) (by omega)] at q; omega
      refine pw_if_eq (tgt := 35) dX10_text_28 (by decide) (fun h => absurd h (by decide)) (fun h28 => ?_)
      refine pw_iconst (v := nI 0) dX10_text_31 (by decide) ?_
      refine pw_goto (tgt := 36) dX10_text_32 (by decide) ?_
      refine pw_putI fX10_154 dX10_text_36 (Or.inl rfl) (by decide) (sh_lt hG (by decide)) (sh_tg hG 45 rfl) rfl ?_
      refine pw_aload_n dX10_text_39 rfl ?_
      refine pw_getI fX10_154 dX10_text_40 (sh_lt hG (by decide)) (sh_tg hG 45 rfl) rfl ?_
      refine pw_ti (z := nI 0) (by rw [pm_u_eq, pm_up_eq]) ?_
      refine pw_if_ne (tgt := 60) dX10_text_43 (by decide) (fun h => absurd (by decide) h) (fun h43 => ?_)
      refine pw_aload_n dX10_text_46 rfl ?_
      refine pw_getR fX10_53 dX10_text_47 (sh_lt hG (by decide)) (sh_tg hG 45 rfl) rfl (gr_at hP 54 rfl) ?_
      refine pw_bipush (v := nI 120) dX10_text_50 (by decide) ?_
      refine pw_iload_n dX10_text_52 rfl ?_
      refine pw_imul dX10_text_53 ?_
      refine pw_iload_n dX10_text_54 rfl ?_
      refine pw_iadd dX10_text_55 ?_
      refine pw_ti (z := nI (120 * s + i)) (by rw [show nI 120 * nI s = nI (120 * s) from (Int32.ofNat_mul 120 _).symm]; exact nI_add _ _) ?_
      refine pw_ialdN (120 * s + i) dX10_text_56 (sh_lt hG (by decide)) (sh_sh hG 60 rfl) (by decide) (rfl) (by omega) ?_
      refine pw_ti (z := nI u) (by rw [pm_u_ne (by decide)]; exact (hA.sn hs).2.2.2.2.2.1.2.2 i u hu) ?_
      refine pw_goto (tgt := 61) dX10_text_57 (by decide) ?_
      exact pw_iret dX10_text_61 rfl (k _ (fun _ => rfl))
    · rw [txX_2 hsl hs h0] at k
      refine pw_aload_n dX10_text_0 rfl ?_
      refine pw_iload_n dX10_text_1 rfl ?_
      refine pw_iconst (v := nI 0) dX10_text_2 (by decide) ?_
      refine pw_aload_n dX10_text_3 rfl ?_
      refine pw_getI fX10_220 dX10_text_4 (sh_lt hG (by decide)) (sh_tg hG 45 rfl) rfl ?_
      refine pw_ti (z := nI A.sn.length) hA.k ?_
      refine pw_iconst (v := nI 1) dX10_text_7 (by decide) ?_
      refine pw_isub dX10_text_8 ?_
      refine pw_callS (as := [_, _, _]) (kc' := 0) (ks' := 0) lX10_160 dX10_text_9 rfl rfl (Nat.le_of_ble_eq_true rfl) (by omega) (Nat.le_of_ble_eq_true rfl) (Nat.zero_le _) (Nat.zero_le _) ?_
      refine c_X10_in (fun _ _ => ?_) (fun q => absurd q ?_)
      rotate_left
      · intro q
        rcases q with q | q
        · rw [nI_ltI (by omega) (by omega)] at q; omega
        · rw [show nI (A.sn.length) - nI 1 = nI (A.sn.length - 1) from pk_sub (by omega), nI_ltI (by omega) (by omega)] at q; omega
      refine pw_if_eq (tgt := 35) dX10_text_12 (by decide) (fun h => absurd h (by decide)) (fun h12 => ?_)
      refine pw_iload_n dX10_text_15 rfl ?_
      refine pw_iconst (v := nI 0) dX10_text_16 (by decide) ?_
      refine pw_aload_n dX10_text_17 rfl ?_
      refine pw_getR fX10_50 dX10_text_18 (sh_lt hG (by decide)) (sh_tg hG 45 rfl) rfl (gr_at hP 53 rfl) ?_
      refine pw_iload_n dX10_text_21 rfl ?_
      refine pw_ialdN s dX10_text_22 (sh_lt hG (by decide)) (sh_sh hG 59 rfl) (by decide) (rfl) (by omega) ?_
      refine pw_ti (z := nI (A.at s).tx.length) (hA.sn hs).2.2.2.2.2.1.1 ?_
      refine pw_iconst (v := nI 1) dX10_text_23 (by decide) ?_
      refine pw_isub dX10_text_24 ?_
      refine pw_callS (as := [_, _, _]) (kc' := 0) (ks' := 0) lX10_160 dX10_text_25 rfl rfl (Nat.le_of_ble_eq_true rfl) (by omega) (Nat.le_of_ble_eq_true rfl) (Nat.zero_le _) (Nat.zero_le _) ?_
      refine c_X10_in (fun q1 q2 => absurd ?_ h0) (fun _ => ?_)
      · obtain ⟨i, hi, e⟩ := in_n1 (by omega) q1 q2
        rw [e, nI_toInt (by omega)]
        exact ⟨by omega, by omega⟩
      refine pw_if_eq (tgt := 35) dX10_text_28 (by decide) (fun h28 => ?_) (fun h => absurd (by decide) h)
      refine pw_iconst (v := nI 1) dX10_text_35 (by decide) ?_
      refine pw_putI fX10_154 dX10_text_36 (Or.inl rfl) (by decide) (sh_lt hG (by decide)) (sh_tg hG 45 rfl) rfl ?_
      refine pw_aload_n dX10_text_39 rfl ?_
      refine pw_getI fX10_154 dX10_text_40 (sh_lt hG (by decide)) (sh_tg hG 45 rfl) rfl ?_
      refine pw_ti (z := nI 1) (by rw [pm_u_eq, pm_up_eq]) ?_
      refine pw_if_ne (tgt := 60) dX10_text_43 (by decide) (fun h43 => ?_) (fun h => absurd h (by decide))
      refine pw_iconst (v := nI 0) dX10_text_60 (by decide) ?_
      exact pw_iret dX10_text_61 rfl (k _ (fun q => absurd q (by decide)))
  · rw [txX_0 h0] at k
    refine pw_aload_n dX10_text_0 rfl ?_
    refine pw_iload_n dX10_text_1 rfl ?_
    refine pw_iconst (v := nI 0) dX10_text_2 (by decide) ?_
    refine pw_aload_n dX10_text_3 rfl ?_
    refine pw_getI fX10_220 dX10_text_4 (sh_lt hG (by decide)) (sh_tg hG 45 rfl) rfl ?_
    refine pw_ti (z := nI A.sn.length) hA.k ?_
    refine pw_iconst (v := nI 1) dX10_text_7 (by decide) ?_
    refine pw_isub dX10_text_8 ?_
    refine pw_callS (as := [_, _, _]) (kc' := 0) (ks' := 0) lX10_160 dX10_text_9 rfl rfl (Nat.le_of_ble_eq_true rfl) (by omega) (Nat.le_of_ble_eq_true rfl) (Nat.zero_le _) (Nat.zero_le _) ?_
    refine c_X10_in (fun q1 q2 => absurd ?_ h0) (fun _ => ?_)
    · obtain ⟨i, hi, e⟩ := in_n1 (by omega) q1 q2
      rw [e, nI_toInt (by omega)]
      exact ⟨by omega, by omega⟩
    refine pw_if_eq (tgt := 35) dX10_text_12 (by decide) (fun h12 => ?_) (fun h => absurd (by decide) h)
    refine pw_iconst (v := nI 1) dX10_text_35 (by decide) ?_
    refine pw_putI fX10_154 dX10_text_36 (Or.inl rfl) (by decide) (sh_lt hG (by decide)) (sh_tg hG 45 rfl) rfl ?_
    refine pw_aload_n dX10_text_39 rfl ?_
    refine pw_getI fX10_154 dX10_text_40 (sh_lt hG (by decide)) (sh_tg hG 45 rfl) rfl ?_
    refine pw_ti (z := nI 1) (by rw [pm_u_eq, pm_up_eq]) ?_
    refine pw_if_ne (tgt := 60) dX10_text_43 (by decide) (fun h43 => ?_) (fun h => absurd h (by decide))
    refine pw_iconst (v := nI 0) dX10_text_60 (by decide) ?_
    exact pw_iret dX10_text_61 rfl (k _ (fun q => absurd q (by decide)))
