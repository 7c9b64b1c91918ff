set_option maxRecDepth 20000 in
set_option maxHeartbeats 800000 in
theorem r_told_lp {l : Launch} {E : pmE} {d : Nat} {S : pmS} {J : pmJ} {P : pmP} {Q : Option Value → pmS → pmI → pmJ → pmP → Prop} (hG : sh_St S) (hP : gr_St P) {I1 : pmI} {x1 : Int32} (kx : ∀ I', (∀ a, a ≠ 76 → I' a = I1 a) → pm_W l E yX10_run cX10_run 4 (some .int) d 0 0 56 [(2, .int (nI 5)), (1, .int x1), (0, .ref 47)] [] S I' J P (pm_N E Q)) : ∀ (m k : Nat) (I : pmI), k + m = 5 → (∀ a, a ≠ 76 → I a = I1 a) → pm_W l E yX10_run cX10_run 4 (some .int) d 0 0 38 [(2, .int (nI k)), (1, .int x1), (0, .ref 47)] [] S I J P (pm_N E Q)
  | 0, k, I, hk, h1 => by
    have e : k = 5 := by omega
    subst e
    refine pw_iload_n dX10_run_38 rfl ?_
    refine pw_iconst (v := nI 5) dX10_run_39 (by decide) ?_
    refine pw_icmp_ge (tgt := 56) dX10_run_40 (by decide) (fun h40 => ?_) (fun h => absurd (by decide) h)
    exact kx I h1
  | m + 1, k, I, hk, h1 => by
    refine pw_iload_n dX10_run_38 rfl ?_
    refine pw_iconst (v := nI 5) dX10_run_39 (by decide) ?_
    refine pw_icmpN_ge _ _ (tgt := 56) dX10_run_40 (by decide) (rfl) (rfl) (by omega) (by omega) (fun h40 => absurd h40 (by omega)) (fun h40 => ?_)
    refine pw_aload_n dX10_run_43 rfl ?_
    refine pw_getR fX10_96 dX10_run_44 (sh_lt hG (by decide)) (sh_tg hG 45 rfl) rfl (gr_at hP 68 rfl) ?_
    refine pw_iload_n dX10_run_47 rfl ?_
    refine pw_iconst (v := nI 0) dX10_run_48 (by decide) ?_
    refine pw_iastN k dX10_run_49 (by decide) (sh_lt hG (by decide)) (sh_sh hG 74 rfl) (by decide) (rfl) (by omega) ?_
    refine pw_iinc (lv' := [(2, _), (1, _), (0, _)]) dX10_run_50 rfl (by decide) rfl ?_
    refine pw_goto (tgt := 38) dX10_run_53 (by decide) ?_
    refine pm_lvs (lv' := [(2, .int (nI (k + 1))), (1, _), (0, _)]) (by rw [show nI k + Int32.ofInt 1 = nI (k + 1) from nI_add k 1]) ?_
    exact r_told_lp hG hP kx m (k + 1) _ (by omega) (fun a ha => by first | (rw [pm_u_ne ha]; exact h1 a ha) | exact (pm_u_ne ha).trans (h1 a ha))
set_option maxRecDepth 20000 in
set_option maxHeartbeats 800000 in
theorem r_run_k2 {l : Launch} {E : pmE} {d : Nat} {S : pmS} {I : pmI} {J : pmJ} {P : pmP} {Q : Option Value → pmS → pmI → pmJ → pmP → Prop} (hG : sh_St S) (hP : gr_St P) {A : aS} {x : sN} {v : vV} {t : List tH} {n : Nat} {tx : Nat → Nat} (hA : rA I J A) (hO : aO A) (hk : kO A x v t) (h55 : I 55 A.sn.length = nI x.form) (h56 : x.form ≠ 0 → I 56 A.sn.length = nI (A.ns.idxOf x.dec)) (h57 : I 57 A.sn.length = nI x.pa.length) (h58 : ∀ (j : Nat) (v : Int64), x.pa[j]? = some v → I 58 (3 * A.sn.length + j) = nI (A.ns.idxOf v)) (hny : x.form = 2 → ∃ m, m ≤ 60 ∧ nY I J (64 * A.sn.length) (64 * A.sn.length + m) ∧ ∃ N, I 60 A.sn.length = nI N ∧ ny I J (crN A.ns J) (64 * A.sn.length) (64 * A.sn.length + m) x.tr N) (hT : tX I 48 tx n) (hsz : I 47 2 = nI n) (hn : n ≤ 120) (hxt : x.tx = (List.range n).map tx) (hv : (x.form = 0 → I 92 0 = nI v.1 ∧ J 93 0 = v.2) ∧ (x.form = 1 → (I 60 A.sn.length = -5 ∧ v = (0, 0)) ∨ ∃ N, N < 10000 ∧ I 60 A.sn.length = nI N ∧ I 92 0 = nI v.1 ∧ J 93 0 = v.2)) (hRT : rT I J t) (hd : 1 ≤ d) {x1 x2 x3 : Int32} (k : ∀ I' J', oR I J I' J' → rA I' J' (A.kp x v t) → rT I' J' t → I' 47 2 = nI 0 → Q (some (.int (rnA A x.form))) S I' J' P) : pm_W l E yX10_run cX10_run 4 (some .int) d 0 0 175 [(3, .int x3), (2, .int x2), (1, .int x1), (0, .ref 47)] [] S I J P (pm_N E Q) := by
  refine pw_aload_n dX10_run_175 rfl ?_
  refine pw_callV (as := []) (kc' := 0) (ks' := 0) lX10_357 dX10_run_176 rfl rfl (sh_lt hG (by decide)) (sh_tg hG 45 rfl) (Nat.le_of_ble_eq_true rfl) (by omega) (Nat.le_of_ble_eq_true rfl) (Nat.zero_le _) (Nat.zero_le _) ?_
  refine r_keep (x := x) (v := v) (t := t) hG hP hA hO hk h55 h56 h57 h58 hny hT hsz hn hxt hv (fun I2 J2 hK hA2 => ?_)
  refine pw_istore_n (lv' := [(2, _), (3, _), (1, _), (0, _)]) dX10_run_179 (by decide) rfl ?_
  refine pw_aload_n dX10_run_180 rfl ?_
  refine pw_iconst (v := nI 0) dX10_run_181 (by decide) ?_
  refine pw_putI fX10_164 dX10_run_182 (Or.inl rfl) (by decide) (sh_lt hG (by decide)) (sh_tg hG 45 rfl) rfl ?_
  refine pw_iload_n dX10_run_185 rfl ?_
  exact pw_iret dX10_run_186 rfl (k _ _ (hK.oR.trans (oR.u (by decide))) (hA2.mv' (fun a q1 q2 => ⟨pm_u_ne (by omega), rfl⟩) (by rw [pm_u_eq, pm_up_ne (by decide)]) (by rw [pm_u_eq, pm_up_ne (by decide)]) (by rw [pm_u_eq, pm_up_ne (by decide)])) (hRT.eq (by rw [pm_u_eq, pm_up_ne (by decide), hK.2 30 (by decide) (by decide)]) (by rw [pm_u_ne (by decide), (hK.1 73 (by decide) (by decide) (by decide) (by decide) (by decide) (by decide) (by decide)).1]) (by rw [pm_u_ne (by decide), (hK.1 74 (by decide) (by decide) (by decide) (by decide) (by decide) (by decide) (by decide)).1]) (hK.1 75 (by decide) (by decide) (by decide) (by decide) (by decide) (by decide) (by decide)).2) (by rw [pm_u_eq, pm_up_eq]))
set_option maxRecDepth 20000 in
set_option maxHeartbeats 800000 in
theorem r_run_k {l : Launch} {E : pmE} {d : Nat} {S : pmS} {I : pmI} {J : pmJ} {P : pmP} {Q : Option Value → pmS → pmI → pmJ → pmP → Prop} (hG : sh_St S) (hP : gr_St P) {A : aS} {x : sN} {v : vV} {t : List tH} {n : Nat} {tx : Nat → Nat} (hA : rA I J A) (hO : aO A) (hk : kO A x v t) (h55 : I 55 A.sn.length = nI x.form) (h56 : x.form ≠ 0 → I 56 A.sn.length = nI (A.ns.idxOf x.dec)) (h57 : I 57 A.sn.length = nI x.pa.length) (h58 : ∀ (j : Nat) (v : Int64), x.pa[j]? = some v → I 58 (3 * A.sn.length + j) = nI (A.ns.idxOf v)) (hny : x.form = 2 → ∃ m, m ≤ 60 ∧ nY I J (64 * A.sn.length) (64 * A.sn.length + m) ∧ ∃ N, I 60 A.sn.length = nI N ∧ ny I J (crN A.ns J) (64 * A.sn.length) (64 * A.sn.length + m) x.tr N) (hT : tX I 48 tx n) (hsz : I 47 2 = nI n) (hn : n ≤ 120) (hxt : x.tx = (List.range n).map tx) (hv : (x.form = 0 → I 92 0 = nI v.1 ∧ J 93 0 = v.2) ∧ (x.form = 1 → (I 60 A.sn.length = -5 ∧ v = (0, 0)) ∨ ∃ N, N < 10000 ∧ I 60 A.sn.length = nI N ∧ I 92 0 = nI v.1 ∧ J 93 0 = v.2)) (hRT : rT I J t) (hfl : I 47 53 = nI 0) (hd : 1 ≤ d) {x1 x2 x3 : Int32} (k : ∀ I' J', oR I J I' J' → rA I' J' (A.kp x v t) → rT I' J' t → I' 47 2 = nI 0 → Q (some (.int (rnA A x.form))) S I' J' P) : pm_W l E yX10_run cX10_run 4 (some .int) d 0 0 115 [(3, .int x3), (2, .int x2), (1, .int x1), (0, .ref 47)] [] S I J P (pm_N E Q) := by
  refine pw_aload_n dX10_run_115 rfl ?_
  refine pw_getR fX10_96 dX10_run_116 (sh_lt hG (by decide)) (sh_tg hG 45 rfl) rfl (gr_at hP 68 rfl) ?_
  refine pw_iconst (v := nI 4) dX10_run_119 (by decide) ?_
  refine pw_aload_n dX10_run_120 rfl ?_
  refine pw_getI fX10_302 dX10_run_121 (sh_lt hG (by decide)) (sh_tg hG 45 rfl) rfl ?_
  refine pw_ti (z := I 47 54) rfl ?_
  refine pw_iastN 4 dX10_run_124 (by decide) (sh_lt hG (by decide)) (sh_sh hG 74 rfl) (by decide) (by decide) (by decide) ?_
  refine pw_aload_n dX10_run_125 rfl ?_
  refine pw_dup dX10_run_126 rfl ?_
  refine pw_getI fX10_354 dX10_run_127 (sh_lt hG (by decide)) (sh_tg hG 45 rfl) rfl ?_
  refine pw_aload_n dX10_run_130 rfl ?_
  refine pw_getI fX10_302 dX10_run_131 (sh_lt hG (by decide)) (sh_tg hG 45 rfl) rfl ?_
  refine pw_iadd dX10_run_134 ?_
  refine pw_ti (z := I 47 34 + I 47 54) (by rw [pm_u_ne (by decide)]) ?_
  refine pw_putI fX10_354 dX10_run_135 (Or.inl rfl) (by decide) (sh_lt hG (by decide)) (sh_tg hG 45 rfl) rfl ?_
  refine pw_aload_n dX10_run_138 rfl ?_
  refine pw_aload_n dX10_run_139 rfl ?_
  refine pw_getI fX10_285 dX10_run_140 (sh_lt hG (by decide)) (sh_tg hG 45 rfl) rfl ?_
  refine pw_ti (z := nI 0) (by (repeat (first | rw [pm_u_ne (by decide)] | rw [pm_u_eq, pm_up_ne (by decide)])); exact hfl) ?_
  refine pw_if_le (tgt := 150) dX10_run_143 (by decide) (fun h143 => ?_) (fun h => absurd (by decide) h)
  refine pw_aload_n dX10_run_150 rfl ?_
  refine pw_getI fX10_317 dX10_run_151 (sh_lt hG (by decide)) (sh_tg hG 45 rfl) rfl ?_
  refine pw_ti (z := I 47 30) (by (repeat (first | rw [pm_u_ne (by decide)] | rw [pm_u_eq, pm_up_ne (by decide)]))) ?_
  refine pw_putI fX10_317 dX10_run_154 (Or.inl rfl) (by decide) (sh_lt hG (by decide)) (sh_tg hG 45 rfl) rfl ?_
  refine pw_aload_n dX10_run_157 rfl ?_
  refine pw_getI fX10_285 dX10_run_158 (sh_lt hG (by decide)) (sh_tg hG 45 rfl) rfl ?_
  refine pw_ti (z := nI 0) (by (repeat (first | rw [pm_u_ne (by decide)] | rw [pm_u_eq, pm_up_ne (by decide)])); exact hfl) ?_
  refine pw_if_le (tgt := 175) dX10_run_161 (by decide) (fun h161 => ?_) (fun h => absurd (by decide) h)
  have e3 : ∀ a, a ≠ 47 → a ≠ 76 → (pm_u (pm_u (pm_u I 76 4 (I 47 54)) 47 34 (I 47 34 + I 47 54)) 47 30 (I 47 30)) a = I a := fun a q1 q2 => by rw [pm_u_ne q1, pm_u_ne q1, pm_u_ne q2]
  have e47 : ∀ k, k ≠ 34 → (pm_u (pm_u (pm_u I 76 4 (I 47 54)) 47 34 (I 47 34 + I 47 54)) 47 30 (I 47 30)) 47 k = I 47 k := fun k q => by
    by_cases h30 : k = 30
    · subst h30; rw [pm_u_eq, pm_up_eq]
    · rw [pm_u_eq, pm_up_ne h30, pm_u_eq, pm_up_ne q, pm_u_ne (by decide)]
  have ee : ∀ a, 49 ≤ a → a ≤ 75 → (pm_u (pm_u (pm_u I 76 4 (I 47 54)) 47 34 (I 47 34 + I 47 54)) 47 30 (I 47 30)) a = I a := fun a q1 q2 => e3 a (by omega) (by omega)
  refine r_run_k2 (I := (pm_u (pm_u (pm_u I 76 4 (I 47 54)) 47 34 (I 47 34 + I 47 54)) 47 30 (I 47 30))) (x := x) (v := v) (t := t) hG hP (hA.mv' (fun a q1 q2 => ⟨ee a q1 (by omega), rfl⟩) (e47 3 (by decide)) (e47 27 (by decide)) (e47 10 (by decide))) hO hk (by rw [ee 55 (by decide) (by decide)]; exact h55) (fun q => by rw [ee 56 (by decide) (by decide)]; exact h56 q) (by rw [ee 57 (by decide) (by decide)]; exact h57) (fun j v hj => by rw [ee 58 (by decide) (by decide)]; exact h58 j v hj) (fun q => ?_) (fun j hj => by rw [e3 48 (by decide) (by decide)]; exact hT j hj) (by rw [e47 2 (by decide)]; exact hsz) hn hxt ?_ (hRT.eq (e47 30 (by decide)) (ee 73 (by decide) (by decide)) (ee 74 (by decide) (by decide)) rfl) (by omega) (fun I' J' q1 q2 q3 q4 => k I' J' (oR.trans (fun a ha => ⟨e3 a (by omega) (by omega), rfl⟩) q1) q2 q3 q4)
  · obtain ⟨m, g1, g2, N, g3, g4⟩ := hny q
    exact ⟨m, g1, g2.mv (fun a q1 q2 k q3 => by rw [ee a (by omega) (by omega)]) (fun _ _ => rfl), N, by rw [ee 60 (by decide) (by decide)]; exact g3, ny.mv (fun a k q1 q2 q3 q4 => by rw [ee a (by omega) (by omega)]) (fun k q1 q2 _ => rfl) (fun k v q1 q2 _ q4 => q4) _ _ g4⟩
  · rw [ee 60 (by decide) (by decide), e3 92 (by decide) (by decide)]
    exact hv
