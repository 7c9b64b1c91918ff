abbrev rdV : Type := Except Nat (Nat × Int64 × List Int64 × List dD)
/-- run(): the answer, what stays, how much of THE TEXT stays -/
def rnF (A : aS) (tx : Nat → Nat) (n : Nat) (r : rdV) (T : eX) : Int32 × aS × Nat := if A.sn.length = 40 then (-4, A, n) else match r with
  | .error e => (-20 - nI (tk_p tx n e), A, 0)
  | .ok (form, dec, pa, L) => if 40 < (rnN A tx n).length then (-4, A, n) else ((rnK (A.nm (rnN A tx n)) form dec pa L T tx n).1, (rnK (A.nm (rnN A tx n)) form dec pa L T tx n).2, 0)
/-- the room for THINGS behind it -/
def rnR (A : aS) (tx : Nat → Nat) (n : Nat) (r : rdV) (T : eX) (m : Nat) : Nat := if A.sn.length = 40 then m else match r with
  | .error _ => m
  | .ok (form, _, _, L) => if 40 < (rnN A tx n).length then m else rnM (A.nm (rnN A tx n)) form L T m
theorem tk_k61 {tx : Nat → Nat} {n j : Nat} (h : tk_k tx n j ≠ 0) : j < 61 := by
  rcases Nat.lt_or_ge j 61 with g | g
  · exact g
  · have e := tk_p_on (tk_p_60 (tx := tx) (n := n)) (j - 61)
    rw [show 61 + (j - 61) = j by omega] at e
    exact absurd (if_neg (by rw [e]; omega)) h
theorem rnN_mem {A : aS} {tx : Nat → Nat} {n : Nat} {v : Int64} (h : tkN (tk_k tx n) (tk_v tx n) v) : v ∈ rnN A tx n := by
  obtain ⟨j, h1, h2⟩ := h
  have := tk_k61 (tx := tx) (n := n) (j := j) (by rw [h1]; decide)
  exact (nmF_mem 62).mpr (Or.inr ⟨j, by omega, h1, h2⟩)
theorem rn_tree {A : aS} {tx : Nat → Nat} {n f : Nat} {r : rdV} (h : rd (tk_k tx n) (tk_p tx n) (tk_v tx n) f = some r) : ∃ T, ∀ form dec pa L, r = .ok (form, dec, pa, L) → rnT (A.nm (rnN A tx n)) form pa L T := by
  rcases r with e | ⟨form, dec, pa, L⟩
  · exact ⟨.leaf, fun _ _ _ _ q => nomatch q⟩
  · obtain ⟨h1, h2, h3, h4, h5, h6, h7⟩ := rd_ok h
    rcases h6 with ⟨g1, g2, T, g3, g4⟩ | g | g
    · refine ⟨T, fun _ _ _ _ q => ?_⟩
      cases q
      exact Or.inl ⟨g1, g2, wt.mono (fun v hv => rnN_mem hv) _ g3, g4⟩
    · refine ⟨.leaf, fun _ _ _ _ q => ?_⟩
      cases q
      exact Or.inr (Or.inl g)
    · refine ⟨.leaf, fun _ _ _ _ q => ?_⟩
      cases q
      exact Or.inr (Or.inr g)
/-- the class between calls -/
def cI (S : pmS) (I : pmI) (J : pmJ) (P : pmP) (A : aS) (Z : Nat → Nat) (b m : Nat) (tx : Nat → Nat) (n : Nat) : Prop := (b = 22 ∨ 96 ≤ b) ∧ cA S I J P A Z b ∧ aO A ∧ tC S I J P A A.th b m ∧ tX I 3 tx n ∧ I 2 5 = nI n ∧ n ≤ 120 ∧ ∀ j, j < n → tx j < 128
theorem fr4.zF {S : pmS} {I I' : pmI} {J J' : pmJ} {P : pmP} (h : fr4 I I' J J') : zF S I J P S I' J' P ∧ oF I J P I' J' P := ⟨⟨Nat.le_refl _, fun _ _ => rfl, fun a h1 _ => ⟨h.1 a (by omega) (by omega) (by omega), h.2 a (by omega), rfl⟩⟩, fun a h1 => ⟨h.1 a (by omega) (by omega) (by omega), h.2 a (by omega), rfl⟩⟩
theorem frR.zF {S : pmS} {I I' : pmI} {J J' : pmJ} {P : pmP} (h : frR I I' J J') : zF S I J P S I' J' P ∧ oF I J P I' J' P := ⟨⟨Nat.le_refl _, fun _ _ => rfl, fun a h1 _ => ⟨h.1 a (by omega) (by omega) (by omega) (by omega) (by omega), h.2.2 a (by omega) (by omega) (by omega), rfl⟩⟩, fun a h1 => ⟨h.1 a (by omega) (by omega) (by omega) (by omega) (by omega), h.2.2 a (by omega) (by omega) (by omega), rfl⟩⟩
theorem nUc.oF {ns ns' : List Int64} {I I' : pmI} {J J' : pmJ} {P : pmP} (h : nUc ns I J I' J' ns') : oF I J P I' J' P := fun a ha => ⟨(h.1 a (by omega)).1, (h.1 a (by omega)).2, rfl⟩
theorem zF.u2 {S : pmS} {I : pmI} {J : pmJ} {P : pmP} {k : Nat} {x : Int32} : zF S I J P S (pm_u I 2 k x) J P ∧ oF I J P (pm_u I 2 k x) J P := ⟨⟨Nat.le_refl _, fun _ _ => rfl, fun a h1 _ => ⟨pm_u_ne (by omega), rfl, rfl⟩⟩, fun a h1 => ⟨pm_u_ne (by omega), rfl, rfl⟩⟩
set_option maxRecDepth 20000 in
set_option maxHeartbeats 800000 in
theorem c_run1 {l : Launch} {E : pmE} {d : Nat} {S : pmS} {I : pmI} {J : pmJ} {P : pmP} {Q : Option Value → pmS → pmI → pmJ → pmP → Prop} (hG : sh_St S) (hP : gr_St P) (hd : 190 ≤ d) {A : aS} {Z : Nat → Nat} {b m n : Nat} {tx : Nat → Nat} (hs : cI S I J P A Z b m tx n) {f : Nat} {r : rdV} {T : eX} (hr : rd (tk_k tx n) (tk_p tx n) (tk_v tx n) f = some r) (hR : ∀ form dec pa L, r = .ok (form, dec, pa, L) → rnT (A.nm (rnN A tx n)) form pa L T) (k : ∀ S' I' J' P' Z' b', sh_St S' → gr_St P' → oF I J P I' J' P' → cI S' I' J' P' (rnF A tx n r T).2.1 Z' b' (rnR A tx n r T m) tx (rnF A tx n r T).2.2 → Q (some (.int (rnF A tx n r T).1)) S' I' J' P') (h40 : A.sn.length = 40) : pm_Met l E yX9_run cX9_run 3 (some .int) d ((rnR A tx n r T m) - m + 8) (18 * ((rnR A tx n r T m) - m) + 620) [.ref 2] S I J P Q := by
  unfold pm_Met
  obtain ⟨hb6, hc, hO, ht, hTx, h25, hn, hb8⟩ := id hs
  have h96 := hG.1
  refine pm_lvs (lv' := [(0, _)]) rfl ?_
  have eF : rnF A tx n r T = (-4, A, n) := if_pos h40
  have eR : rnR A tx n r T m = m := if_pos h40
  rw [eF, eR] at k
  refine pw_aload_n dX9_run_0 rfl ?_
  refine pw_getR fX9_32 dX9_run_1 (sh_lt hG (by decide)) (sh_tg hG 0 rfl) rfl (gr_at hP 3 rfl) ?_
  refine pw_callV (as := []) (kc' := 0) (ks' := 0) lX9_57 dX9_run_4 rfl rfl (sh_lt hG (by decide)) (sh_tg hG 13 rfl) (Nat.le_of_ble_eq_true rfl) (by omega) (Nat.le_of_ble_eq_true rfl) (Nat.zero_le _) (Nat.zero_le _) ?_
  unfold pm_Met
  refine pm_lvs (lv' := [(0, _)]) rfl ?_
  refine pw_aload_n dX4_isFull_0 rfl ?_
  refine pw_getI fX4_49 dX4_isFull_1 (sh_lt hG (by decide)) (sh_tg hG 13 rfl) rfl ?_
  refine pw_bipush (v := nI 40) dX4_isFull_4 (by decide) ?_
  refine pw_icmpN_lt _ _ (tgt := 13) dX4_isFull_6 (by decide) (hc.k) (rfl) (by omega) (by omega) (fun hX4_isFull_6 => absurd hX4_isFull_6 (by omega)) (fun hX4_isFull_6 => ?_)
  refine pw_iconst (v := nI 1) dX4_isFull_9 (by decide) ?_
  refine pw_goto (tgt := 14) dX4_isFull_10 (by decide) ?_
  refine pw_zret dX4_isFull_14 rfl (by decide) ?_
  refine pw_if_eq (tgt := 13) dX9_run_7 (by decide) (fun h => absurd h (by decide)) (fun h7 => ?_)
  refine pw_bipush (v := -4) dX9_run_10 (by decide) ?_
  exact pw_iret dX9_run_12 rfl (k _ _ _ _ Z b hG hP oF.refl hs)
set_option maxRecDepth 20000 in
set_option maxHeartbeats 800000 in
theorem c_run2 {l : Launch} {E : pmE} {d : Nat} {S : pmS} {I : pmI} {J : pmJ} {P : pmP} {Q : Option Value → pmS → pmI → pmJ → pmP → Prop} (hG : sh_St S) (hP : gr_St P) (hd : 190 ≤ d) {A : aS} {Z : Nat → Nat} {b m n : Nat} {tx : Nat → Nat} (hs : cI S I J P A Z b m tx n) {f : Nat} {r : rdV} {T : eX} (hr : rd (tk_k tx n) (tk_p tx n) (tk_v tx n) f = some r) (hR : ∀ form dec pa L, r = .ok (form, dec, pa, L) → rnT (A.nm (rnN A tx n)) form pa L T) (k : ∀ S' I' J' P' Z' b', sh_St S' → gr_St P' → oF I J P I' J' P' → cI S' I' J' P' (rnF A tx n r T).2.1 Z' b' (rnR A tx n r T m) tx (rnF A tx n r T).2.2 → Q (some (.int (rnF A tx n r T).1)) S' I' J' P') (h40 : A.sn.length < 40) : pm_Met l E yX9_run cX9_run 3 (some .int) d ((rnR A tx n r T m) - m + 8) (18 * ((rnR A tx n r T m) - m) + 620) [.ref 2] S I J P Q := by
  unfold pm_Met
  obtain ⟨hb6, hc, hO, ht, hTx, h25, hn, hb8⟩ := id hs
  have h96 := hG.1
  refine pm_lvs (lv' := [(0, _)]) rfl ?_
  refine pw_aload_n dX9_run_0 rfl ?_
  refine pw_getR fX9_32 dX9_run_1 (sh_lt hG (by decide)) (sh_tg hG 0 rfl) rfl (gr_at hP 3 rfl) ?_
  refine pw_callV (as := []) (kc' := 0) (ks' := 0) lX9_57 dX9_run_4 rfl rfl (sh_lt hG (by decide)) (sh_tg hG 13 rfl) (Nat.le_of_ble_eq_true rfl) (by omega) (Nat.le_of_ble_eq_true rfl) (Nat.zero_le _) (Nat.zero_le _) ?_
  unfold pm_Met
  refine pm_lvs (lv' := [(0, _)]) rfl ?_
  refine pw_aload_n dX4_isFull_0 rfl ?_
  refine pw_getI fX4_49 dX4_isFull_1 (sh_lt hG (by decide)) (sh_tg hG 13 rfl) rfl ?_
  refine pw_bipush (v := nI 40) dX4_isFull_4 (by decide) ?_
  refine pw_icmpN_lt _ _ (tgt := 13) dX4_isFull_6 (by decide) (hc.k) (rfl) (by omega) (by omega) (fun hX4_isFull_6 => ?_) (fun hX4_isFull_6 => absurd hX4_isFull_6 (by omega))
  refine pw_iconst (v := nI 0) dX4_isFull_13 (by decide) ?_
  refine pw_zret dX4_isFull_14 rfl (by decide) ?_
  refine pw_if_eq (tgt := 13) dX9_run_7 (by decide) (fun h7 => ?_) (fun h => absurd (by decide) h)
  refine pw_aload_n dX9_run_13 rfl ?_
  refine pw_getR fX9_16 dX9_run_14 (sh_lt hG (by decide)) (sh_tg hG 0 rfl) rfl (gr_at hP 1 rfl) ?_
  refine pw_aload_n dX9_run_17 rfl ?_
  refine pw_getR fX9_9 dX9_run_18 (sh_lt hG (by decide)) (sh_tg hG 0 rfl) rfl (gr_at hP 0 rfl) ?_
  refine pw_aload_n dX9_run_21 rfl ?_
  refine pw_getI fX9_49 dX9_run_22 (sh_lt hG (by decide)) (sh_tg hG 0 rfl) rfl ?_
  refine pw_ti (z := nI n) h25 ?_
  refine pw_callV (as := [_, _]) (kc' := 0) (ks' := 0) lX9_61 dX9_run_25 rfl rfl (sh_lt hG (by decide)) (sh_tg hG 2 rfl) (Nat.le_of_ble_eq_true rfl) (by omega) (Nat.le_of_ble_eq_true rfl) (Nat.zero_le _) (Nat.zero_le _) ?_
  refine c_X7_cut hG hP hTx hn hb8 (by omega) (fun cnt I1 J1 hC1 hf1 => ?_)
  refine pw_aload_n dX9_run_28 rfl ?_
  refine pw_getR fX9_25 dX9_run_29 (sh_lt hG (by decide)) (sh_tg hG 0 rfl) rfl (gr_at hP 2 rfl) ?_
  refine pw_callV (as := []) (kc' := 0) (ks' := 0) lX9_65 dX9_run_32 rfl rfl (sh_lt hG (by decide)) (sh_tg hG 6 rfl) (Nat.le_of_ble_eq_true rfl) (by omega) (Nat.le_of_ble_eq_true rfl) (Nat.zero_le _) (Nat.zero_le _) ?_
  refine c_X3_read hG hP (by omega) hn hb8 hC1 hr (fun form dec pa L I2 J2 he h84 h85 hP3 hL hll hfr => ?_) (fun e I2 J2 he hfr => ?_)
  · subst he
    have z2 := hf1.zF (S := S) (P := P)
    have z3 := hfr.zF (S := S) (P := P)
    have zz := z2.1.trans z3.1
    have oo := z2.2.trans z3.2
    have hR := hR form dec pa L rfl
    obtain ⟨r1, r2, r3, r4, r5, r6, r7⟩ := rd_ok hr
    have hC2 : tk_C tx n I2 J2 cnt := hC1.mv (hfr.1 4 (by decide) (by decide) (by decide) (by decide) (by decide)) (hfr.1 5 (by decide) (by decide) (by decide) (by decide) (by decide)) (hfr.1 6 (by decide) (by decide) (by decide) (by decide) (by decide)) (hfr.2.2 7 (by decide) (by decide) (by decide))
    have hc2 := hc.zF (by omega) zz
    have ht2 := ht.zF (by omega) zz
    have hcn := hC1.2.1
    have eN : rnN A tx n = nmF (tk_k tx n) (tk_v tx n) A.ns cnt := by
      unfold rnN
      rw [show 62 = cnt + (62 - cnt) by omega]
      exact nmF_end (fun j hj q => by have := tk_cnt hC1 (a := j) (by rw [q]; decide); omega) _
    have e2 : ∀ a, a = 2 ∨ a = 3 → I2 a = I a := fun a ha => by rw [hfr.1 a (by omega) (by omega) (by omega) (by omega) (by omega), hf1.1 a (by omega) (by omega) (by omega)]
    refine pw_istore_n (lv' := [(1, _), (0, _)]) dX9_run_35 (by decide) rfl ?_
    refine pw_iload_n dX9_run_36 rfl ?_
    refine pw_if_lt (tgt := 57) dX9_run_37 (by decide) (fun h37 => ?_) (fun h => absurd (by decide) h)
    refine pw_aload_n dX9_run_57 rfl ?_
    refine pw_getR fX9_32 dX9_run_58 (sh_lt hG (by decide)) (sh_tg hG 0 rfl) rfl (gr_at hP 3 rfl) ?_
    refine pw_getR fX9_72 dX9_run_61 (sh_lt hG (by decide)) (sh_tg hG 13 rfl) rfl (gr_at hP 15 rfl) ?_
    refine pw_aload_n dX9_run_64 rfl ?_
    refine pw_getR fX9_16 dX9_run_65 (sh_lt hG (by decide)) (sh_tg hG 0 rfl) rfl (gr_at hP 1 rfl) ?_
    refine pw_callV (as := [_]) (kc' := 0) (ks' := 0) lX9_76 dX9_run_68 rfl rfl (sh_lt hG (by decide)) (sh_tg hG 14 rfl) (Nat.le_of_ble_eq_true rfl) (by omega) (Nat.le_of_ble_eq_true rfl) (Nat.zero_le _) (Nat.zero_le _) ?_
    refine c_takeAll (ns := A.ns) hG hP (by omega) hb8 hC2 (fun j v hj => (hc2.2.1 j v hj).1) hO.1.1 (fun hlen I3 J3 hu => ?_) (fun hlen I3 J3 hu => ?_) hc2.n hO.1.2
    · have eF : rnF A tx n (.ok (form, dec, pa, L)) T = ((rnK (A.nm (rnN A tx n)) form dec pa L T tx n).1, (rnK (A.nm (rnN A tx n)) form dec pa L T tx n).2, 0) := by
        unfold rnF
        rw [if_neg (by omega)]
        exact if_neg (by rw [eN]; omega)
      have eR : rnR A tx n (.ok (form, dec, pa, L)) T m = rnM (A.nm (rnN A tx n)) form L T m := by
        unfold rnR
        rw [if_neg (by omega)]
        exact if_neg (by rw [eN]; omega)
      rw [eF, eR] at k
      have e3 : ∀ a, a = 2 ∨ a = 3 → I3 a = I a := fun a ha => by rw [(hu.1 a (by omega)).1, e2 a ha]
      rw [eR]
      have hp : A.ns <+: rnN A tx n := nmF_pre 62
      have hnd : (rnN A tx n).Nodup := nmF_nd hO.1.1 62
      have hl4 : (rnN A tx n).length ≤ 40 := by rw [eN]; exact hlen
      rw [← eN] at hu
      have hc3 := hc2.nU hO hp hnd hu
      have ht3 := ht2.nU hO hO.2.2.2.2.2.2.2.2.1 hp hu
      have hO3 := hO.nm hp hnd hl4
      have e8 := hu.1 8 (by decide)
      have e9 := hu.1 9 (by decide)
      have e10 := hu.1 10 (by decide)
      have e11 := hu.1 11 (by decide)
      have e12 := hu.1 12 (by decide)
      have e13 := hu.1 13 (by decide)
      have e14 := hu.1 14 (by decide)
      refine pw_if_ne (tgt := 77) dX9_run_71 (by decide) (fun h71 => ?_) (fun h => absurd h (by decide))
      refine pw_aload_n dX9_run_77 rfl ?_
      refine pw_callV (as := []) (kc' := (rnM (A.nm (rnN A tx n)) form L T m - m + 8)) (ks' := (18 * (rnM (A.nm (rnN A tx n)) form L T m - m) + 620)) lX9_82 dX9_run_78 rfl rfl (sh_lt hG (by decide)) (sh_tg hG 0 rfl) (Nat.le_of_ble_eq_true rfl) (by omega) (Nat.le_of_ble_eq_true rfl) (by omega) (by omega) ?_
      refine c_rwf (A := A.nm (rnN A tx n)) (T := T) hG hP (by omega) hb6 hO3 h40 hn hb8 r1 r4 (fun q => rnN_mem ⟨1, (r3 q).1, (r3 q).2.symm⟩) (fun v hv => rnN_mem (r5 v hv)) hR hc3 ht3 (fun j hj => by rw [e3 3 (Or.inr rfl)]; exact hTx j hj) (by rw [e3 2 (Or.inl rfl)]; exact h25) (by rw [e8.1]; exact h84) (by rw [e8.2]; exact h85) ⟨by rw [e8.1]; exact hP3.1, hP3.2.1, fun j v hj => by rw [e14.2]; exact hP3.2.2 j v hj⟩ ⟨by rw [e9.1]; exact hL.1, fun j q hq => by rw [e10.1, e11.1, e12.1, e13.2]; exact hL.2 j q hq⟩ hll (fun S4 I4 J4 P4 Z4 b4 q1 q2 q3 q4 q5 q6 q7 => ?_)
      have hG := q1
      have hP := q2
      refine pw_istore_n (lv' := [(2, _), (1, _), (0, _)]) dX9_run_81 (by decide) rfl ?_
      refine pw_aload_n dX9_run_82 rfl ?_
      refine pw_iconst (v := nI 0) dX9_run_83 (by decide) ?_
      refine pw_putI fX9_49 dX9_run_84 (Or.inl rfl) (by decide) (sh_lt hG (by decide)) (sh_tg hG 0 rfl) rfl ?_
      refine pw_iload_n dX9_run_87 rfl ?_
      exact pw_iret dX9_run_88 rfl (k _ _ _ _ Z4 b4 hG hP ((oo.trans hu.oF).trans (q4.trans (zF.u2 (S := S)).2)) ⟨q3, q5.zF (by have := q1.1; omega) zF.u2.1, q6, q7.zF (by have := q1.1; omega) zF.u2.1, fun j hj => absurd hj (Nat.not_lt_zero _), by rw [pm_u_eq, pm_up_eq], Nat.zero_le _, fun j hj => absurd hj (Nat.not_lt_zero _)⟩)
    · have eF : rnF A tx n (.ok (form, dec, pa, L)) T = (-4, A, n) := by
        unfold rnF
        rw [if_neg (by omega)]
        exact if_pos (by rw [eN]; omega)
      have eR : rnR A tx n (.ok (form, dec, pa, L)) T m = m := by
        unfold rnR
        rw [if_neg (by omega)]
        exact if_pos (by rw [eN]; omega)
      rw [eF, eR] at k
      have e3 : ∀ a, a = 2 ∨ a = 3 → I3 a = I a := fun a ha => by rw [(hu.1 a (by omega)).1, e2 a ha]
      refine pw_if_ne (tgt := 77) dX9_run_71 (by decide) (fun h => absurd (by decide) h) (fun h71 => ?_)
      refine pw_bipush (v := -4) dX9_run_74 (by decide) ?_
      exact pw_iret dX9_run_76 rfl (k _ _ _ _ Z b hG hP (oo.trans hu.oF) ⟨hb6, hc2.nU hO (List.prefix_refl _) hO.1.1 hu, hO, ht2.nU hO hO.2.2.2.2.2.2.2.2.1 (List.prefix_refl _) hu, fun j hj => by rw [e3 3 (Or.inr rfl)]; exact hTx j hj, by rw [e3 2 (Or.inl rfl)]; exact h25, hn, hb8⟩)
  · subst he
    have z2 := hf1.zF (S := S) (P := P)
    have z3 := hfr.zF (S := S) (P := P)
    have zz := z2.1.trans z3.1
    have oo := z2.2.trans z3.2
    have eF : rnF A tx n (.error e) T = (-20 - nI (tk_p tx n e), A, 0) := if_neg (by omega)
    have eR : rnR A tx n (.error e) T m = m := if_neg (by omega)
    rw [eF, eR] at k
    have hpe := tk_p_le (tx := tx) (n := n) e
    refine pw_istore_n (lv' := [(1, _), (0, _)]) dX9_run_35 (by decide) rfl ?_
    refine pw_iload_n dX9_run_36 rfl ?_
    refine pw_if_lt (tgt := 57) dX9_run_37 (by decide) (fun h => absurd h (nI_pos (by omega))) (fun h37 => ?_)
    refine pw_aload_n dX9_run_40 rfl ?_
    refine pw_getR fX9_41 dX9_run_41 (sh_lt hG (by decide)) (sh_tg hG 0 rfl) rfl (gr_at hP 4 rfl) ?_
    refine pw_callV (as := []) (kc' := 0) (ks' := 0) lX9_69 dX9_run_44 rfl rfl (sh_lt hG (by decide)) (sh_tg hG 32 rfl) (Nat.le_of_ble_eq_true rfl) (by omega) (Nat.le_of_ble_eq_true rfl) (Nat.zero_le _) (Nat.zero_le _) ?_
    refine c_forget hG hP (by omega) (fun I3 hi3 hz3 => ?_)
    have z4 : zF S I2 J2 P S I3 J2 P := ⟨Nat.le_refl _, fun _ _ => rfl, fun a h1 _ => ⟨hi3 a (by omega), rfl, rfl⟩⟩
    have o4 : oF I2 J2 P I3 J2 P := fun a h1 => ⟨hi3 a (by omega), rfl, rfl⟩
    have zz := zz.trans (z4.trans (zF.u2 (k := 5) (x := nI 0)).1)
    refine pw_aload_n dX9_run_47 rfl ?_
    refine pw_iconst (v := nI 0) dX9_run_48 (by decide) ?_
    refine pw_putI fX9_49 dX9_run_49 (Or.inl rfl) (by decide) (sh_lt hG (by decide)) (sh_tg hG 0 rfl) rfl ?_
    refine pw_bipush (v := -20) dX9_run_52 (by decide) ?_
    refine pw_iload_n dX9_run_54 rfl ?_
    refine pw_isub dX9_run_55 ?_
    exact pw_iret dX9_run_56 rfl (k _ _ _ _ Z b hG hP (oo.trans (o4.trans (zF.u2 (S := S)).2)) ⟨hb6, hc.zF (by omega) zz, hO, ht.zF (by omega) zz, fun j hj => absurd hj (Nat.not_lt_zero _), by rw [pm_u_eq, pm_up_eq], Nat.zero_le _, fun j hj => absurd hj (Nat.not_lt_zero _)⟩)
theorem c_run {l : Launch} {E : pmE} {d : Nat} {S : pmS} {I : pmI} {J : pmJ} {P : pmP} {Q : Option Value → pmS → pmI → pmJ → pmP → Prop} (hG : sh_St S) (hP : gr_St P) (hd : 190 ≤ d) {A : aS} {Z : Nat → Nat} {b m n : Nat} {tx : Nat → Nat} (hs : cI S I J P A Z b m tx n) {f : Nat} {r : rdV} {T : eX} (hr : rd (tk_k tx n) (tk_p tx n) (tk_v tx n) f = some r) (hR : ∀ form dec pa L, r = .ok (form, dec, pa, L) → rnT (A.nm (rnN A tx n)) form pa L T) (k : ∀ S' I' J' P' Z' b', sh_St S' → gr_St P' → oF I J P I' J' P' → cI S' I' J' P' (rnF A tx n r T).2.1 Z' b' (rnR A tx n r T m) tx (rnF A tx n r T).2.2 → Q (some (.int (rnF A tx n r T).1)) S' I' J' P') : pm_Met l E yX9_run cX9_run 3 (some .int) d ((rnR A tx n r T m) - m + 8) (18 * ((rnR A tx n r T m) - m) + 620) [.ref 2] S I J P Q := by
  rcases Nat.lt_or_ge A.sn.length 40 with h | h
  · exact c_run2 hG hP hd hs hr hR k h
  · exact c_run1 hG hP hd hs hr hR k (by have := hs.2.2.1.2.2.2.2.2.2.2.2.2.2.1; omega)
