theorem rT.pre {I I' : pmI} {J J' : pmJ} {t t0 : List tH} (h : rT I J t) (hp : t0 <+: t) (e0 : I' 47 30 = nI t0.length) (e1 : I' 73 = I 73) (e2 : I' 74 = I 74) (e3 : J' 75 = J 75) : rT I' J' t0 := by
  refine ⟨e0, fun j s vs hj => ?_⟩
  rw [e1, e2, e3]
  obtain ⟨r, rfl⟩ := hp
  exact h.2 j s vs (ap_l hj)
set_option maxRecDepth 20000 in
set_option maxHeartbeats 800000 in
theorem r_run_e {l : Launch} {E : pmE} {d : Nat} {S : pmS} {I : pmI} {J : pmJ} {P : pmP} {Q : Option Value → pmS → pmI → pmJ → pmP → Prop} (hG : sh_St S) (hP : gr_St P) {A : aS} {t : List tH} {e : Nat} (hA : rA I J A) (hRT : rT I J t) (hpt : A.th <+: t) (hfl : I 47 53 = nI e) (he : 1 ≤ e ∧ e ≤ 9) {x1 x2 : Int32} (k : ∀ I', oR I J I' J → rA I' J A → rT I' J A.th → I' 47 2 = nI 0 → Q (some (.int (-200 - nI e))) S I' J P) : pm_W l E yX10_run cX10_run 4 (some .int) d 0 0 115 [(3, .int (nI A.th.length)), (2, .int x2), (1, .int x1), (0, .ref 47)] [] S I J P (pm_N E Q) := by
  refine pw_aload_n dX10_run_115 rfl ?_
  refine pw_getR fX10_96 dX10_run_116 (sh_lt hG (by decide)) (sh_tg hG 45 rfl) rfl (gr_at hP 68 rfl) ?_
  refine pw_iconst (v := nI 4) dX10_run_119 (by decide) ?_
  refine pw_aload_n dX10_run_120 rfl ?_
  refine pw_getI fX10_302 dX10_run_121 (sh_lt hG (by decide)) (sh_tg hG 45 rfl) rfl ?_
  refine pw_ti (z := I 47 54) rfl ?_
  refine pw_iastN 4 dX10_run_124 (by decide) (sh_lt hG (by decide)) (sh_sh hG 74 rfl) (by decide) (by decide) (by decide) ?_
  refine pw_aload_n dX10_run_125 rfl ?_
  refine pw_dup dX10_run_126 rfl ?_
  refine pw_getI fX10_354 dX10_run_127 (sh_lt hG (by decide)) (sh_tg hG 45 rfl) rfl ?_
  refine pw_aload_n dX10_run_130 rfl ?_
  refine pw_getI fX10_302 dX10_run_131 (sh_lt hG (by decide)) (sh_tg hG 45 rfl) rfl ?_
  refine pw_iadd dX10_run_134 ?_
  refine pw_ti (z := I 47 34 + I 47 54) (by rw [pm_u_ne (by decide)]) ?_
  refine pw_putI fX10_354 dX10_run_135 (Or.inl rfl) (by decide) (sh_lt hG (by decide)) (sh_tg hG 45 rfl) rfl ?_
  refine pw_aload_n dX10_run_138 rfl ?_
  refine pw_aload_n dX10_run_139 rfl ?_
  refine pw_getI fX10_285 dX10_run_140 (sh_lt hG (by decide)) (sh_tg hG 45 rfl) rfl ?_
  refine pw_ti (z := nI e) (by (repeat (first | rw [pm_u_ne (by decide)] | rw [pm_u_eq, pm_up_ne (by decide)])); exact hfl) ?_
  refine pw_ifN_le _ (tgt := 150) dX10_run_143 (by decide) (rfl) (by omega) (fun h143 => absurd h143 (by omega)) (fun h143 => ?_)
  refine pw_iload_n dX10_run_146 rfl ?_
  refine pw_goto (tgt := 154) dX10_run_147 (by decide) ?_
  refine pw_putI fX10_317 dX10_run_154 (Or.inl rfl) (by decide) (sh_lt hG (by decide)) (sh_tg hG 45 rfl) rfl ?_
  refine pw_aload_n dX10_run_157 rfl ?_
  refine pw_getI fX10_285 dX10_run_158 (sh_lt hG (by decide)) (sh_tg hG 45 rfl) rfl ?_
  refine pw_ti (z := nI e) (by (repeat (first | rw [pm_u_ne (by decide)] | rw [pm_u_eq, pm_up_ne (by decide)])); exact hfl) ?_
  refine pw_ifN_le _ (tgt := 175) dX10_run_161 (by decide) (rfl) (by omega) (fun h161 => absurd h161 (by omega)) (fun h161 => ?_)
  refine pw_sipush (v := -200) dX10_run_164 (by decide) ?_
  refine pw_aload_n dX10_run_167 rfl ?_
  refine pw_getI fX10_285 dX10_run_168 (sh_lt hG (by decide)) (sh_tg hG 45 rfl) rfl ?_
  refine pw_ti (z := nI e) (by (repeat (first | rw [pm_u_ne (by decide)] | rw [pm_u_eq, pm_up_ne (by decide)])); exact hfl) ?_
  refine pw_isub dX10_run_171 ?_
  refine pw_goto (tgt := 179) dX10_run_172 (by decide) ?_
  refine pw_istore_n (lv' := [(2, _), (3, _), (1, _), (0, _)]) dX10_run_179 (by decide) rfl ?_
  refine pw_aload_n dX10_run_180 rfl ?_
  refine pw_iconst (v := nI 0) dX10_run_181 (by decide) ?_
  refine pw_putI fX10_164 dX10_run_182 (Or.inl rfl) (by decide) (sh_lt hG (by decide)) (sh_tg hG 45 rfl) rfl ?_
  refine pw_iload_n dX10_run_185 rfl ?_
  exact pw_iret dX10_run_186 rfl (k (pm_u (pm_u (pm_u (pm_u I 76 4 (I 47 54)) 47 34 (I 47 34 + I 47 54)) 47 30 (nI A.th.length)) 47 2 (nI 0)) (fun a ha => ⟨by rw [pm_u_ne (by omega), pm_u_ne (by omega), pm_u_ne (by omega), pm_u_ne (by omega)], rfl⟩) (hA.mv' (fun a q1 q2 => ⟨by rw [pm_u_ne (by omega), pm_u_ne (by omega), pm_u_ne (by omega), pm_u_ne (by omega)], rfl⟩) (by (repeat (first | rw [pm_u_ne (by decide)] | rw [pm_u_eq, pm_up_ne (by decide)]))) (by (repeat (first | rw [pm_u_ne (by decide)] | rw [pm_u_eq, pm_up_ne (by decide)]))) (by (repeat (first | rw [pm_u_ne (by decide)] | rw [pm_u_eq, pm_up_ne (by decide)])))) (hRT.pre hpt (by rw [pm_u_eq, pm_up_ne (by decide), pm_u_eq, pm_up_eq]) (by (repeat (first | rw [pm_u_ne (by decide)] | rw [pm_u_eq, pm_up_ne (by decide)]))) (by (repeat (first | rw [pm_u_ne (by decide)] | rw [pm_u_eq, pm_up_ne (by decide)]))) rfl) (by rw [pm_u_eq, pm_up_eq]))
set_option maxRecDepth 20000 in
set_option maxHeartbeats 800000 in
theorem r_run_n {l : Launch} {E : pmE} {d : Nat} {S : pmS} {I : pmI} {J : pmJ} {P : pmP} {Q : Option Value → pmS → pmI → pmJ → pmP → Prop} (hG : sh_St S) (hP : gr_St P) (hd : 12 ≤ d) {A : aS} {n i form : Nat} {tx : Nat → Nat} {dec : Int64} {pa : List Int64} {L : List dD} {T : eX} (hA : rA I J A) (hO : aO A) (hRT : rT I J A.th) (h40 : A.sn.length < 40) (hT : tX I 48 tx n) (hsz : I 47 2 = nI n) (hn : n ≤ 120) (hb8 : ∀ j, j < n → tx j < 128) (hN : rdN tx n i A.sn.length I J form dec pa L) (hi0 : tk_k tx n i = 0) (hlt : ∀ t, tk_k tx n t ≠ 0 → t < i) (eN : rnN A tx n = nmF (tk_k tx n) (tk_v tx n) A.ns (i + 1)) (hl4 : (rnN A tx n).length ≤ 40) (hR : rnT (A.nm (rnN A tx n)) form pa L T) (hf3 : form ≤ 3) (hp3 : pa.length ≤ 3) (hdn : form ≠ 0 → dec ∈ rnN A tx n) (hpn : ∀ v ∈ pa, v ∈ rnN A tx n) {x1 x2 : Int32} (k : ∀ I' J', oR I J I' J' → rA I' J' (rnK (A.nm (rnN A tx n)) form dec pa L T tx n).2 → rT I' J' (rnK (A.nm (rnN A tx n)) form dec pa L T tx n).2.th → I' 47 2 = nI 0 → Q (some (.int (rnK (A.nm (rnN A tx n)) form dec pa L T tx n).1)) S I' J' P) : pm_W l E yX10_run cX10_run 4 (some .int) d 0 0 65 [(2, .int x2), (1, .int x1), (0, .ref 47)] [] S I J P (pm_N E Q) := by
  have hp : A.ns <+: rnN A tx n := nmF_pre 62
  have hnd : (rnN A tx n).Nodup := nmF_nd hO.1.1 62
  have hO1 := hO.nm hp hnd hl4
  have hkp := hA.k
  obtain ⟨hC, h55, hde, h57, hpT, m, hm, hm6, hW, hcase⟩ := hN
  have hth : A.th.length ≤ 15600 := by have := hO.2.2.2.2.2.2.2.2.2.1; omega
  refine pw_aload_n dX10_run_65 rfl ?_
  refine pw_callV (as := []) (kc' := 0) (ks' := 0) lX10_348 dX10_run_66 rfl rfl (sh_lt hG (by decide)) (sh_tg hG 45 rfl) (Nat.le_of_ble_eq_true rfl) (by omega) (Nat.le_of_ble_eq_true rfl) (Nat.zero_le _) (Nat.zero_le _) ?_
  refine r_number (ns := A.ns) (kp := A.sn.length) (m := m) (form := form) (dec := dec) (pa := pa) hG hP (by omega) hb8 hC hi0 hA.n (fun j v hj => (hA.2.1 j v hj).1) hO.1.1 (by rw [← eN]; exact hl4) hkp (by omega) hm hm6 hW.1 h57 hpT h55 hf3 hde (fun I1 J1 hNm => ?_)
  rw [← eN] at hNm
  obtain ⟨f1, f2, f3, f4, f5, f6, f7, f8⟩ := hNm.fr
  have hA1 : rA I1 J1 (A.nm (rnN A tx n)) := hA.rNm hO hp hnd hNm
  have hRT1 := hRT.rNm hNm
  have g55 : I1 55 A.sn.length = nI form := by rw [f1 55 (by decide) (by decide) (by decide) (by decide)]; exact h55
  have g57 : I1 57 A.sn.length = nI pa.length := by rw [f1 57 (by decide) (by decide) (by decide) (by decide)]; exact h57
  have g60 : I1 60 = I 60 := f1 60 (by decide) (by decide) (by decide) (by decide)
  have gW : nY I1 J1 (64 * A.sn.length) (64 * A.sn.length + m) := hW.rNm hC hlt hNm (fun v hv => rnN_mem hv) hl4
  have g48 : tX I1 48 tx n := fun j hj => by rw [f1 48 (by decide) (by decide) (by decide) (by decide)]; exact hT j hj
  have g2 : I1 47 2 = nI n := by rw [f2 2 (by decide)]; exact hsz
  refine pw_aload_n dX10_run_69 rfl ?_
  refine pw_getI fX10_317 dX10_run_70 (sh_lt hG (by decide)) (sh_tg hG 45 rfl) rfl ?_
  refine pw_ti (z := nI A.th.length) hRT1.1 ?_
  refine pw_istore_n (lv' := [(3, _), (2, _), (1, _), (0, _)]) dX10_run_73 (by decide) rfl ?_
  refine pw_aload_n dX10_run_74 rfl ?_
  refine pw_iconst (v := nI 0) dX10_run_75 (by decide) ?_
  refine pw_putI fX10_285 dX10_run_76 (Or.inl rfl) (by decide) (sh_lt hG (by decide)) (sh_tg hG 45 rfl) rfl ?_
  refine pw_aload_n dX10_run_79 rfl ?_
  refine pw_iconst (v := nI 0) dX10_run_80 (by decide) ?_
  refine pw_putI fX10_302 dX10_run_81 (Or.inl rfl) (by decide) (sh_lt hG (by decide)) (sh_tg hG 45 rfl) rfl ?_
  obtain ⟨I2, hI2⟩ : ∃ I9, I9 = (pm_u (pm_u I1 47 53 (nI 0)) 47 54 (nI 0)) := ⟨_, rfl⟩
  rw [← hI2]
  have e2 : ∀ a, a ≠ 47 → I2 a = I1 a := fun a q => by rw [hI2, pm_u_ne q, pm_u_ne q]
  have e47 : ∀ k, k ≠ 53 → k ≠ 54 → I2 47 k = I1 47 k := fun k q1 q2 => by rw [hI2, pm_u_eq, pm_up_ne q2, pm_u_eq, pm_up_ne q1]
  have e53 : I2 47 53 = nI 0 := by rw [hI2, pm_u_eq, pm_up_ne (by decide), pm_u_eq, pm_up_eq]
  have hA2 : rA I2 J1 (A.nm (rnN A tx n)) := hA1.mv' (fun a q1 q2 => ⟨e2 a (by omega), rfl⟩) (e47 3 (by decide) (by decide)) (e47 27 (by decide) (by decide)) (e47 10 (by decide) (by decide))
  have hRT2 : rT I2 J1 A.th := hRT1.eq (e47 30 (by decide) (by decide)) (e2 73 (by decide)) (e2 74 (by decide)) rfl
  have hk2 : I2 47 10 = nI A.sn.length := hA2.k
  have oo : oR I J I2 J1 := hNm.oR.trans (fun a ha => ⟨e2 a (by omega), rfl⟩)
  have kO1 : ∀ (v : vV) (t : List tH), vO t.length v → tO (A.nm (rnN A tx n)) t → A.th <+: t → t.length ≤ A.th.length + 400 → kO (A.nm (rnN A tx n)) (rnX (A.nm (rnN A tx n)) form dec pa T tx n) v t := fun v t q1 q2 q3 q4 => rn_kO h40 hf3 hp3 hdn hpn hR q1 q2 q3 q4
  rcases hcase with ⟨hf2, N, hroot, hnT⟩ | ⟨hroot, hm0, hB⟩
  · have hLT : wt pa (· ∈ rnN A tx n) T ∧ L.map dPl = cp id T ∧ (form ≤ 1 → pa = []) := by
      obtain ⟨T9, w1, w2, w3⟩ := nd_ny (Nm := (· ∈ rnN A tx n)) (fun N v _ _ ⟨t, _, _, q1, q2⟩ => rnN_mem ⟨t, q1, q2⟩) m N L hnT
      rcases hR with h | h | h
      · exact ⟨h.2.2.1, h.2.2.2, h.2.1⟩
      · exact absurd h.2.2 (rnT.n7 (A := A.nm (rnN A tx n)) (form := form) w1 w3)
      · exact absurd h.1 (by omega)
    have hbN := hnT.bd
    have hny1 := nT.rNm hnT hC hi0 hlt hNm (fun v hv => rnN_mem hv) hp3 hLT.1 hLT.2.1
    have hny2 : ny I2 J1 (crN (rnN A tx n) J1) (64 * A.sn.length) (64 * A.sn.length + m) T N := ny.mv (fun a k q1 q2 _ _ => by rw [e2 a (by omega)]) (fun _ _ _ _ => rfl) (fun _ _ _ _ _ q => q) _ _ hny1
    have hr2 : I2 60 A.sn.length = nI N := by rw [e2 60 (by decide), g60]; exact hroot
    refine pw_aload_n dX10_run_84 rfl ?_
    refine pw_getR fX10_47 dX10_run_85 (sh_lt hG (by decide)) (sh_tg hG 45 rfl) rfl (gr_at hP 52 rfl) ?_
    refine pw_aload_n dX10_run_88 rfl ?_
    refine pw_getI fX10_220 dX10_run_89 (sh_lt hG (by decide)) (sh_tg hG 45 rfl) rfl ?_
    refine pw_ti (z := nI A.sn.length) hk2 ?_
    refine pw_ialdN A.sn.length dX10_run_92 (sh_lt hG (by decide)) (sh_sh hG 58 rfl) (by decide) (rfl) (by omega) ?_
    refine pw_ti (z := nI N) hr2 ?_
    refine pw_bipush (v := -5) dX10_run_93 (by decide) ?_
    refine pw_icmp_eq (tgt := 115) dX10_run_95 (by decide) (fun h => absurd h (nI_n5 (by omega))) (fun h95 => ?_)
    refine pw_aload_n dX10_run_98 rfl ?_
    refine pw_getR fX10_32 dX10_run_99 (sh_lt hG (by decide)) (sh_tg hG 45 rfl) rfl (gr_at hP 47 rfl) ?_
    refine pw_aload_n dX10_run_102 rfl ?_
    refine pw_getI fX10_220 dX10_run_103 (sh_lt hG (by decide)) (sh_tg hG 45 rfl) rfl ?_
    refine pw_ti (z := nI A.sn.length) hk2 ?_
    refine pw_ialdN A.sn.length dX10_run_106 (sh_lt hG (by decide)) (sh_sh hG 53 rfl) (by decide) (rfl) (by omega) ?_
    refine pw_ti (z := nI form) (by rw [e2 55 (by decide)]; exact g55) ?_
    refine pw_iconst (v := nI 2) dX10_run_107 (by decide) ?_
    refine pw_icmpN_ge _ _ (tgt := 115) dX10_run_108 (by decide) (rfl) (rfl) (by omega) (by omega) (fun h108 => ?_) (fun h108 => ?_)
    · refine r_run_k (A := A.nm (rnN A tx n)) (x := rnX (A.nm (rnN A tx n)) form dec pa T tx n) (v := (0, 0)) (t := A.th) (n := n) (tx := tx) hG hP hA2 hO1 (kO1 _ _ vO_no hO1.2.2.2.2.2.2.2.2.1 (List.prefix_refl _) (by omega)) (by rw [e2 55 (by decide)]; exact g55) (fun q => by rw [e2 56 (by decide)]; exact f7 q) (by rw [e2 57 (by decide)]; exact g57) (fun j v hj => by rw [e2 58 (by decide)]; exact f8 j v hj) (fun _ => ⟨m, hm6, gW.mv (fun a q1 q2 k q3 => by rw [e2 a (by omega)]) (fun _ _ => rfl), N, hr2, hny2⟩) (fun j hj => by rw [e2 48 (by decide)]; exact g48 j hj) (by rw [e47 2 (by decide) (by decide)]; exact g2) hn rfl ⟨fun q => absurd (show form = 0 from q) (by omega), fun q => absurd (show form = 1 from q) (by omega)⟩ hRT2 e53 (by omega) (fun I' J' q1 q2 q3 q4 => ?_)
      rw [show rnK (A.nm (rnN A tx n)) form dec pa L T tx n = _ from if_pos (fun q => absurd q.1 (by omega))] at k
      exact k I' J' (oo.trans q1) q2 q3 q4
    · refine pw_aload_n dX10_run_111 rfl ?_
      refine pw_callV (as := []) (kc' := 0) (ks' := 0) lX10_351 dX10_run_112 rfl rfl (sh_lt hG (by decide)) (sh_tg hG 45 rfl) (Nat.le_of_ble_eq_true rfl) (by omega) (Nat.le_of_ble_eq_true rfl) (Nat.zero_le _) (Nat.zero_le _) ?_
      refine c_X10_workOut (A := A.nm (rnN A tx n)) (T := T) (N := N) hG hP (by omega) hA2 hO1 hRT2 hth hk2 (by omega) hr2 hny2 (by omega) (by have e : pa = [] := hLT.2.2 (by omega); rw [e] at hLT; exact hLT.1) (fun v s1 t1 I3 J3 hev hF h53 hvl hRT3 h30 hst hpre => ?_) (fun e I3 J3 hev he hX => ?_)
      · have h7 : ¬ rn7 form L := fun q => q ⟨by omega, rnT.n7 (A := A.nm (rnN A tx n)) (form := form) hLT.1 hLT.2.1⟩
        have eK : rnK (A.nm (rnN A tx n)) form dec pa L T tx n = rnE (A.nm (rnN A tx n)) form dec pa T tx n (evT (A.nm (rnN A tx n)) (evC (A.nm (rnN A tx n)) 20) 0 [] T 0 (A.nm (rnN A tx n)).th) := if_neg h7
        have e3 : ∀ a, a ≠ 47 ∧ (a < 73 ∨ 76 < a) ∧ (a < 87 ∨ 93 < a) → I3 a = I1 a := fun a q => by rw [(hF.1 a q.1 q.2.1 q.2.2).1, e2 a q.1]
        have hw0 : wt [] (· ∈ (A.nm (rnN A tx n)).ns) T := by have e : pa = [] := hLT.2.2 (by omega); rw [e] at hLT; exact hLT.1
        have hEO := evD_ok hO1 (dp := 0) (by decide) (ar := []) (pa := []) rfl T 0 (A.nm (rnN A tx n)).th hw0 (fun v hv => by cases hv) hO1.2.2.2.2.2.2.2.2.1 (Nat.le_refl _) (by decide) (by show A.th.length + _ < _; omega)
        obtain ⟨o1, o2, o3, o4, o5, o6⟩ := hEO.1 v s1 t1 hev
        have hpf : A.th <+: t1 := hpre
        refine r_run_k (A := A.nm (rnN A tx n)) (x := rnX (A.nm (rnN A tx n)) form dec pa T tx n) (v := v) (t := t1) (n := n) (tx := tx) hG hP (hA2.mv hF) hO1 (kO1 _ _ o1 o2 hpf (by have : t1.length + 0 ≤ A.th.length + s1 := o6; omega)) (by rw [e3 55 (by decide)]; exact g55) (fun q => by rw [e3 56 (by decide)]; exact f7 q) (by rw [e3 57 (by decide)]; exact g57) (fun j v hj => by rw [e3 58 (by decide)]; exact f8 j v hj) (fun q => absurd (show form = 2 from q) (by omega)) (fun j hj => by rw [e3 48 (by decide)]; exact g48 j hj) (by rw [hF.2 2 (by decide) (by decide) (by decide) (by decide) (by decide) (by decide), e47 2 (by decide) (by decide)]; exact g2) hn rfl ⟨fun _ => hvl, fun _ => Or.inr ⟨N, by omega, by rw [(hF.1 60 (by decide) (by decide) (by decide)).1]; exact hr2, hvl⟩⟩ hRT3 h53 (by omega) (fun I' J' q1 q2 q3 q4 => ?_)
        rw [eK, hev] at k
        exact k I' J' ((oo.trans hF.oR).trans q1) q2 q3 q4
      · have h7 : ¬ rn7 form L := fun q => q ⟨by omega, rnT.n7 (A := A.nm (rnN A tx n)) (form := form) hLT.1 hLT.2.1⟩
        have eK : rnK (A.nm (rnN A tx n)) form dec pa L T tx n = rnE (A.nm (rnN A tx n)) form dec pa T tx n (evT (A.nm (rnN A tx n)) (evC (A.nm (rnN A tx n)) 20) 0 [] T 0 (A.nm (rnN A tx n)).th) := if_neg h7
        obtain ⟨hF, h53, t9, hpt, hRT9, -⟩ := hX
        refine r_run_e (A := A.nm (rnN A tx n)) (t := t9) (e := e) hG hP (hA2.mv hF) hRT9 hpt h53 he (fun I' q1 q2 q3 q4 => ?_)
        rw [eK, hev] at k
        exact k I' J3 ((oo.trans hF.oR).trans q1) q2 q3 q4
  · have hr2 : I2 60 A.sn.length = -5 := by rw [e2 60 (by decide), g60]; exact hroot
    have h7 : rn7 form L := fun q => by
      rcases hB with h | h
      · exact q.2 h.2
      · exact absurd q.1 (by omega)
    refine pw_aload_n dX10_run_84 rfl ?_
    refine pw_getR fX10_47 dX10_run_85 (sh_lt hG (by decide)) (sh_tg hG 45 rfl) rfl (gr_at hP 52 rfl) ?_
    refine pw_aload_n dX10_run_88 rfl ?_
    refine pw_getI fX10_220 dX10_run_89 (sh_lt hG (by decide)) (sh_tg hG 45 rfl) rfl ?_
    refine pw_ti (z := nI A.sn.length) hk2 ?_
    refine pw_ialdN A.sn.length dX10_run_92 (sh_lt hG (by decide)) (sh_sh hG 58 rfl) (by decide) (rfl) (by omega) ?_
    refine pw_ti (z := -5) hr2 ?_
    refine pw_bipush (v := -5) dX10_run_93 (by decide) ?_
    refine pw_icmp_eq (tgt := 115) dX10_run_95 (by decide) (fun h95 => ?_) (fun h => absurd (rfl) h)
    refine r_run_k (A := A.nm (rnN A tx n)) (x := rnX (A.nm (rnN A tx n)) form dec pa T tx n) (v := (0, 0)) (t := A.th) (n := n) (tx := tx) hG hP hA2 hO1 (kO1 _ _ vO_no hO1.2.2.2.2.2.2.2.2.1 (List.prefix_refl _) (by omega)) (by rw [e2 55 (by decide)]; exact g55) (fun q => by rw [e2 56 (by decide)]; exact f7 q) (by rw [e2 57 (by decide)]; exact g57) (fun j v hj => by rw [e2 58 (by decide)]; exact f8 j v hj) (fun q => absurd (show form = 2 from q) (by omega)) (fun j hj => by rw [e2 48 (by decide)]; exact g48 j hj) (by rw [e47 2 (by decide) (by decide)]; exact g2) hn rfl ⟨fun q => absurd (show form = 0 from q) (by omega), fun _ => Or.inl ⟨hr2, rfl⟩⟩ hRT2 e53 (by omega) (fun I' J' q1 q2 q3 q4 => ?_)
    rw [show rnK (A.nm (rnN A tx n)) form dec pa L T tx n = _ from if_pos h7] at k
    exact k I' J' (oo.trans q1) q2 q3 q4
