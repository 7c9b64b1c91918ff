theorem tk_k0 {tx : Nat → Nat} {n i : Nat} {R : Nat → Prop} (h : tk_k tx n i = 0) (_ : ∀ j, j < i → tk_k tx n j ≠ 0 ∧ R j) (t : Nat) (ht : i ≤ t) : tk_k tx n t = 0 := by
  have hp : ¬ tk_p tx n i < n := fun q => by
    unfold tk_k at h
    rw [if_pos q] at h
    by_cases g : i < 60
    · rw [if_pos g] at h; exact tk_kind_ne h
    · rw [if_neg g] at h; exact absurd h (by decide)
  have he : tk_p tx n i = n := by have := tk_p_le (tx := tx) (n := n) i; omega
  have e := tk_p_on he (t - i)
  rw [show i + (t - i) = t by omega] at e
  exact if_neg (by rw [e]; omega)
theorem rdN.e {tx : Nat → Nat} {n i kp : Nat} {I I' : pmI} {J : pmJ} {form : Nat} {dec : Int64} {pa : List Int64} {L : List dD} (h : rdN tx n i kp I J form dec pa L) (e : ∀ a, a ≠ 76 → I' a = I a) : rdN tx n i kp I' J form dec pa L := by
  obtain ⟨h1, h2, h3, h4, h5, m, h6, h7, h8, h9⟩ := h
  have c : ∀ a, 47 ≤ a → a ≤ 70 → I' a = I a := fun a _ q => e a (by omega)
  refine ⟨?_, by rw [c 55 (by decide) (by decide)]; exact h2, h3, by rw [c 57 (by decide) (by decide)]; exact h4, ?_, m, by rw [c 47 (by decide) (by decide)]; exact h6, h7, h8.mv (fun a q1 q2 k q3 => by rw [c a (by omega) (by omega)]), ?_⟩
  · unfold rC at h1 ⊢
    rw [c 47 (by decide) (by decide), e 77 (by decide), e 78 (by decide)]
    exact h1
  · unfold pT at h5 ⊢
    rw [e 86 (by decide)]
    exact h5
  · rw [c 60 (by decide) (by decide)]
    rcases h9 with ⟨g1, N, g2, g3⟩ | g
    · refine Or.inl ⟨g1, N, g2, ?_⟩
      exact nd.mv (Nat.le_refl _) (Nat.le_refl _) (fun a k q1 q2 _ _ => by rw [c a (by omega) (by omega)]) (fun _ _ _ => rfl) (fun k v _ _ ⟨t, q5, q6, q7⟩ => ⟨t, q5, by rw [c 68 (by decide) (by decide)]; exact q6, q7⟩) m m N L (Nat.le_refl _) g3
    · exact Or.inr g
/-- the reference between calls -/
def qI (I : pmI) (J : pmJ) (A : aS) (tx : Nat → Nat) (n : Nat) : Prop := rA I J A ∧ rT I J A.th ∧ tX I 48 tx n ∧ I 47 2 = nI n
/-- a place of Model that run() of the reference sets without a use for what stays -/
theorem qI.u47 {I : pmI} {J : pmJ} {A : aS} {tx : Nat → Nat} {n k : Nat} {x : Int32} (h : qI I J A tx n) (h1 : k ≠ 2) (h2 : k ≠ 3) (h3 : k ≠ 10) (h4 : k ≠ 27) (h5 : k ≠ 30) : qI (pm_u I 47 k x) J A tx n :=
  ⟨h.1.mv' (fun a q1 q2 => ⟨pm_u_ne (by omega), rfl⟩) (by rw [pm_u_eq, pm_up_ne (by omega)]) (by rw [pm_u_eq, pm_up_ne (by omega)]) (by rw [pm_u_eq, pm_up_ne (by omega)]), h.2.1.eq (by rw [pm_u_eq, pm_up_ne (by omega)]) (pm_u_ne (by decide)) (pm_u_ne (by decide)) rfl, fun j hj => by rw [pm_u_ne (by decide)]; exact h.2.2.1 j hj, by rw [pm_u_eq, pm_up_ne (by omega)]; exact h.2.2.2⟩
theorem qI.e {I I' : pmI} {J : pmJ} {A : aS} {tx : Nat → Nat} {n : Nat} (h : qI I J A tx n) (e : ∀ a, a ≠ 76 → I' a = I a) : qI I' J A tx n :=
  ⟨h.1.mv' (fun a q1 q2 => ⟨e a (by omega), rfl⟩) (by rw [e 47 (by decide)]) (by rw [e 47 (by decide)]) (by rw [e 47 (by decide)]), h.2.1.eq (by rw [e 47 (by decide)]) (e 73 (by decide)) (e 74 (by decide)) rfl, fun j hj => by rw [e 48 (by decide)]; exact h.2.2.1 j hj, by rw [e 47 (by decide)]; exact h.2.2.2⟩
theorem qI.frd {I I' : pmI} {J J' : pmJ} {A : aS} {tx : Nat → Nat} {n : Nat} (h : qI I J A tx n) (hO : aO A) (hF : frd A.sn.length I I' J J') : qI I' J' A tx n :=
  ⟨h.1.frd hO hF, h.2.1.frd hF, fun j hj => by rw [hF.1 48 (by decide) (by decide) (by decide) (by decide) (by decide) (by decide) (by decide) (by decide) (by decide)]; exact h.2.2.1 j hj, by rw [hF.2.1 2 (by decide) (by decide)]; exact h.2.2.2⟩
theorem qI.z {I : pmI} {J : pmJ} {A : aS} {tx : Nat → Nat} {n : Nat} (h : qI I J A tx n) : qI (pm_u I 47 2 (nI 0)) J A tx 0 :=
  ⟨h.1.mv' (fun a q1 q2 => ⟨pm_u_ne (by omega), rfl⟩) (by rw [pm_u_eq, pm_up_ne (by decide)]) (by rw [pm_u_eq, pm_up_ne (by decide)]) (by rw [pm_u_eq, pm_up_ne (by decide)]), h.2.1.eq (by rw [pm_u_eq, pm_up_ne (by decide)]) (pm_u_ne (by decide)) (pm_u_ne (by decide)) rfl, fun j hj => absurd hj (Nat.not_lt_zero _), by rw [pm_u_eq, pm_up_eq]⟩
set_option maxRecDepth 20000 in
set_option maxHeartbeats 800000 in
theorem r_run1 {l : Launch} {E : pmE} {d : Nat} {S : pmS} {I : pmI} {J : pmJ} {P : pmP} {Q : Option Value → pmS → pmI → pmJ → pmP → Prop} (hG : sh_St S) (hP : gr_St P) (hd : 14 ≤ d) {A : aS} {n : Nat} {tx : Nat → Nat} (hs : qI I J A tx n) (hO : aO A) (hn : n ≤ 120) (hb8 : ∀ j, j < n → tx j < 128) {f : Nat} {r : rdV} {T : eX} (hr : rd (tk_k tx n) (tk_p tx n) (tk_v tx n) f = some r) (hR : ∀ form dec pa L, r = .ok (form, dec, pa, L) → rnT (A.nm (rnN A tx n)) form pa L T) (k : ∀ I' J', oR I J I' J' → qI I' J' (rnF A tx n r T).2.1 tx (rnF A tx n r T).2.2 → Q (some (.int (rnF A tx n r T).1)) S I' J' P) (h40 : A.sn.length = 40) : pm_Met l E yX10_run cX10_run 4 (some .int) d 0 0 [.ref 47] S I J P Q := by
  unfold pm_Met
  have hs1 : qI (pm_u I 47 0 (nI 0)) J A tx n := hs.u47 (by decide) (by decide) (by decide) (by decide) (by decide)
  have o1 : oR I J (pm_u I 47 0 (nI 0)) J := oR.u (by decide)
  refine pm_lvs (lv' := [(0, _)]) rfl ?_
  have eF : rnF A tx n r T = (-4, A, n) := if_pos h40
  rw [eF] at k
  refine pw_aload_n dX10_run_0 rfl ?_
  refine pw_iconst (v := nI 0) dX10_run_1 (by decide) ?_
  refine pw_putI fX10_154 dX10_run_2 (Or.inl rfl) (by decide) (sh_lt hG (by decide)) (sh_tg hG 45 rfl) rfl ?_
  refine pw_aload_n dX10_run_5 rfl ?_
  refine pw_getI fX10_220 dX10_run_6 (sh_lt hG (by decide)) (sh_tg hG 45 rfl) rfl ?_
  refine pw_bipush (v := nI 40) dX10_run_9 (by decide) ?_
  refine pw_icmpN_ne _ _ (tgt := 17) dX10_run_11 (by decide) (hs1.1.k) (rfl) (by omega) (by omega) (fun h11 => absurd h11 (by omega)) (fun h11 => ?_)
  refine pw_bipush (v := -4) dX10_run_14 (by decide) ?_
  exact pw_iret dX10_run_16 rfl (k _ _ o1 hs1)
set_option maxRecDepth 20000 in
set_option maxHeartbeats 800000 in
theorem r_run2 {l : Launch} {E : pmE} {d : Nat} {S : pmS} {I : pmI} {J : pmJ} {P : pmP} {Q : Option Value → pmS → pmI → pmJ → pmP → Prop} (hG : sh_St S) (hP : gr_St P) (hd : 14 ≤ d) {A : aS} {n : Nat} {tx : Nat → Nat} (hs : qI I J A tx n) (hO : aO A) (hn : n ≤ 120) (hb8 : ∀ j, j < n → tx j < 128) {f : Nat} {r : rdV} {T : eX} (hr : rd (tk_k tx n) (tk_p tx n) (tk_v tx n) f = some r) (hR : ∀ form dec pa L, r = .ok (form, dec, pa, L) → rnT (A.nm (rnN A tx n)) form pa L T) (k : ∀ I' J', oR I J I' J' → qI I' J' (rnF A tx n r T).2.1 tx (rnF A tx n r T).2.2 → Q (some (.int (rnF A tx n r T).1)) S I' J' P) (h40 : A.sn.length < 40) : pm_Met l E yX10_run cX10_run 4 (some .int) d 0 0 [.ref 47] S I J P Q := by
  unfold pm_Met
  have hs1 : qI (pm_u I 47 0 (nI 0)) J A tx n := hs.u47 (by decide) (by decide) (by decide) (by decide) (by decide)
  have o1 : oR I J (pm_u I 47 0 (nI 0)) J := oR.u (by decide)
  refine pm_lvs (lv' := [(0, _)]) rfl ?_
  refine pw_aload_n dX10_run_0 rfl ?_
  refine pw_iconst (v := nI 0) dX10_run_1 (by decide) ?_
  refine pw_putI fX10_154 dX10_run_2 (Or.inl rfl) (by decide) (sh_lt hG (by decide)) (sh_tg hG 45 rfl) rfl ?_
  refine pw_aload_n dX10_run_5 rfl ?_
  refine pw_getI fX10_220 dX10_run_6 (sh_lt hG (by decide)) (sh_tg hG 45 rfl) rfl ?_
  refine pw_bipush (v := nI 40) dX10_run_9 (by decide) ?_
  refine pw_icmpN_ne _ _ (tgt := 17) dX10_run_11 (by decide) (hs1.1.k) (rfl) (by omega) (by omega) (fun h11 => ?_) (fun h11 => absurd h11 (by omega))
  refine pw_aload_n dX10_run_17 rfl ?_
  refine pw_callV (as := []) (kc' := 0) (ks' := 0) lX10_342 dX10_run_18 rfl rfl (sh_lt hG (by decide)) (sh_tg hG 45 rfl) (Nat.le_of_ble_eq_true rfl) (by omega) (Nat.le_of_ble_eq_true rfl) (Nat.zero_le _) (Nat.zero_le _) ?_
  refine c_X10_read (tx := tx) (n := n) (kp := A.sn.length) hG hP (by omega) hs1.2.2.1 hs1.2.2.2 hn hb8 ⟨hs1.1.k, by omega⟩ hr (fun form dec pa L i I2 J2 he hN hfr => ?_) (fun e I2 J2 he hfr => ?_)
  · subst he
    have hR := hR form dec pa L rfl
    obtain ⟨r1, r2, r3, r4, r5, r6, e9, r7, r8⟩ := rd_ok hr
    have hs2 := hs1.frd hO hfr
    have hC := hN.1
    have hi60 := hC.2.1
    have hie : i = e9 := by
      rcases Nat.lt_trichotomy i e9 with q | q | q
      · have g := r8 i (Nat.zero_le _) q
        rcases hC.2.2.1 with w1 | w1
        · exact absurd w1 g.1
        · exact absurd w1 g.2
      · exact q
      · exact absurd r7 (hC.2.2.2.1 e9 q).1
    subst hie
    have hlt : ∀ t, tk_k tx n t ≠ 0 → t < i := fun t q => by
      rcases Nat.lt_or_ge t i with g | g
      · exact g
      · exact absurd (tk_k0 r7 (hC.2.2.2.1) t g) q
    have eN : rnN A tx n = nmF (tk_k tx n) (tk_v tx n) A.ns (i + 1) := by
      unfold rnN
      rw [show 62 = (i + 1) + (61 - i) by omega]
      exact nmF_end (fun j hj q => by have := hlt j (by rw [q]; decide); omega) _
    refine pw_istore_n (lv' := [(1, _), (0, _)]) dX10_run_21 (by decide) rfl ?_
    refine pw_iload_n dX10_run_22 rfl ?_
    refine pw_if_ge (tgt := 36) dX10_run_23 (by decide) (fun h => absurd h (by decide)) (fun h23 => ?_)
    refine pw_aload_n dX10_run_26 rfl ?_
    refine pw_callV (as := []) (kc' := 0) (ks' := 0) lX10_345 dX10_run_27 rfl rfl (sh_lt hG (by decide)) (sh_tg hG 45 rfl) (Nat.le_of_ble_eq_true rfl) (by omega) (Nat.le_of_ble_eq_true rfl) (Nat.zero_le _) (Nat.zero_le _) ?_
    refine r_room (ns := A.ns) hG hP (by omega) hb8 hC hs2.1.n hO.1.2 (fun j v hj => (hs2.1.2.1 j v hj).1) hO.1.1 (fun hlen => ?_) (fun hlen => ?_)
    · have eF : rnF A tx n (.ok (form, dec, pa, L)) T = ((rnK (A.nm (rnN A tx n)) form dec pa L T tx n).1, (rnK (A.nm (rnN A tx n)) form dec pa L T tx n).2, 0) := by
        unfold rnF
        rw [if_neg (by omega)]
        exact if_neg (by rw [eN]; omega)
      rw [eF] at k
      refine pw_if_ne (tgt := 36) dX10_run_30 (by decide) (fun h30 => ?_) (fun h => absurd h (by decide))
      refine pw_iconst (v := nI 0) dX10_run_36 (by decide) ?_
      refine pw_istore_n (lv' := [(2, _), (1, _), (0, _)]) dX10_run_37 (by decide) rfl ?_
      refine pm_lvs (lv' := [(2, .int (nI 0)), (1, _), (0, _)]) rfl ?_
      refine r_told_lp hG hP (fun I3 h3 => ?_) 5 0 _ rfl (fun _ _ => rfl)
      have hs3 : qI I3 J2 A tx n := hs2.e h3
      have o3 : oR I2 J2 I3 J2 := fun a ha => ⟨h3 a (by omega), rfl⟩
      refine pw_bipush (v := -20) dX10_run_56 (by decide) ?_
      refine pw_iload_n dX10_run_58 rfl ?_
      refine pw_isub dX10_run_59 ?_
      refine pw_istore_n (lv' := [(2, _), (1, _), (0, _)]) dX10_run_60 (by decide) rfl ?_
      refine pw_iload_n dX10_run_61 rfl ?_
      refine pw_if_ge (tgt := 180) dX10_run_62 (by decide) (fun h => absurd h (by decide)) (fun h62 => ?_)
      refine r_run_n (A := A) (n := n) (i := i) (form := form) (tx := tx) (dec := dec) (pa := pa) (L := L) (T := T) hG hP (by omega) hs3.1 hO hs3.2.1 h40 hs3.2.2.1 hs3.2.2.2 hn hb8 (hN.e h3) r7 hlt eN (by rw [eN]; exact hlen) hR r1 r4 (fun q => rnN_mem ⟨1, (r3 q).1, (r3 q).2.symm⟩) (fun v hv => rnN_mem (r5 v hv)) (fun I' J' q1 q2 q3 q4 => ?_)
      exact k I' J' ((o1.trans hfr.oR).trans (o3.trans q1)) ⟨q2, q3, fun j hj => absurd hj (Nat.not_lt_zero _), q4⟩
    · have eF : rnF A tx n (.ok (form, dec, pa, L)) T = (-4, A, n) := by
        unfold rnF
        rw [if_neg (by omega)]
        exact if_pos (by rw [eN]; omega)
      rw [eF] at k
      refine pw_if_ne (tgt := 36) dX10_run_30 (by decide) (fun h => absurd (by decide) h) (fun h30 => ?_)
      refine pw_bipush (v := -4) dX10_run_33 (by decide) ?_
      exact pw_iret dX10_run_35 rfl (k _ _ (o1.trans hfr.oR) hs2)
  · subst he
    have hs2 := hs1.frd hO hfr
    have eF : rnF A tx n (.error e) T = (-20 - nI (tk_p tx n e), A, 0) := if_neg (by omega)
    rw [eF] at k
    have hpe := tk_p_le (tx := tx) (n := n) e
    refine pw_istore_n (lv' := [(1, _), (0, _)]) dX10_run_21 (by decide) rfl ?_
    refine pw_iload_n dX10_run_22 rfl ?_
    refine pw_ifN_ge _ (tgt := 36) dX10_run_23 (by decide) (rfl) (by omega) (fun h23 => ?_) (fun h23 => absurd h23 (by omega))
    refine pw_iconst (v := nI 0) dX10_run_36 (by decide) ?_
    refine pw_istore_n (lv' := [(2, _), (1, _), (0, _)]) dX10_run_37 (by decide) rfl ?_
    refine pm_lvs (lv' := [(2, .int (nI 0)), (1, _), (0, _)]) rfl ?_
    refine r_told_lp hG hP (fun I3 h3 => ?_) 5 0 _ rfl (fun _ _ => rfl)
    have hs3 : qI I3 J2 A tx n := hs2.e h3
    have o3 : oR I2 J2 I3 J2 := fun a ha => ⟨h3 a (by omega), rfl⟩
    refine pw_bipush (v := -20) dX10_run_56 (by decide) ?_
    refine pw_iload_n dX10_run_58 rfl ?_
    refine pw_isub dX10_run_59 ?_
    refine pw_istore_n (lv' := [(2, _), (1, _), (0, _)]) dX10_run_60 (by decide) rfl ?_
    refine pw_iload_n dX10_run_61 rfl ?_
    refine pw_ifN_ge _ (tgt := 180) dX10_run_62 (by decide) (rfl) (by omega) (fun h62 => ?_) (fun h62 => absurd h62 (by omega))
    refine pw_aload_n dX10_run_180 rfl ?_
    refine pw_iconst (v := nI 0) dX10_run_181 (by decide) ?_
    refine pw_putI fX10_164 dX10_run_182 (Or.inl rfl) (by decide) (sh_lt hG (by decide)) (sh_tg hG 45 rfl) rfl ?_
    refine pw_iload_n dX10_run_185 rfl ?_
    exact pw_iret dX10_run_186 rfl (k _ _ ((o1.trans hfr.oR).trans (o3.trans (oR.u (by decide)))) hs3.z)
theorem r_run {l : Launch} {E : pmE} {d : Nat} {S : pmS} {I : pmI} {J : pmJ} {P : pmP} {Q : Option Value → pmS → pmI → pmJ → pmP → Prop} (hG : sh_St S) (hP : gr_St P) (hd : 14 ≤ d) {A : aS} {n : Nat} {tx : Nat → Nat} (hs : qI I J A tx n) (hO : aO A) (hn : n ≤ 120) (hb8 : ∀ j, j < n → tx j < 128) {f : Nat} {r : rdV} {T : eX} (hr : rd (tk_k tx n) (tk_p tx n) (tk_v tx n) f = some r) (hR : ∀ form dec pa L, r = .ok (form, dec, pa, L) → rnT (A.nm (rnN A tx n)) form pa L T) (k : ∀ I' J', oR I J I' J' → qI I' J' (rnF A tx n r T).2.1 tx (rnF A tx n r T).2.2 → Q (some (.int (rnF A tx n r T).1)) S I' J' P) : pm_Met l E yX10_run cX10_run 4 (some .int) d 0 0 [.ref 47] S I J P Q := by
  rcases Nat.lt_or_ge A.sn.length 40 with h | h
  · exact r_run2 hG hP hd hs hO hn hb8 hr hR k h
  · exact r_run1 hG hP hd hs hO hn hb8 hr hR k (by have := hO.2.2.2.2.2.2.2.2.2.2.1; omega)
