theorem r_new {I I' : pmI} {J J' : pmJ} {A : aS} {x : sN} {n : Nat} {tx : Nat → Nat} (hF : kR I J I' J') (h55 : I 55 A.sn.length = nI x.form) (h56 : x.form ≠ 0 → I 56 A.sn.length = nI (A.ns.idxOf x.dec)) (h57 : I 57 A.sn.length = nI x.pa.length) (h58 : ∀ (j : Nat) (v : Int64), x.pa[j]? = some v → I 58 (3 * A.sn.length + j) = nI (A.ns.idxOf v)) (hny : x.form = 2 → ∃ m, m ≤ 60 ∧ nY I J (64 * A.sn.length) (64 * A.sn.length + m) ∧ ∃ N, I 60 A.sn.length = nI N ∧ ny I J (crN A.ns J) (64 * A.sn.length) (64 * A.sn.length + m) x.tr N) (h59 : x.form = 3 → I' 59 A.sn.length = nI x.ed) (hn : n ≤ 120) (hxt : x.tx = (List.range n).map tx) (h61 : I' 61 A.sn.length = nI n) (h62 : ∀ j, j < n → I' 62 (120 * A.sn.length + j) = nI (tx j)) : snR I' J' A.ns A.sn.length x := by
  have e : ∀ a, a = 55 ∨ a = 56 ∨ a = 57 ∨ a = 58 ∨ a = 60 ∨ (63 ≤ a ∧ a ≤ 70) → I' a = I a ∧ J' a = J a := fun a ha => hF.1 a (by omega) (by omega) (by omega) (by omega) (by omega) (by omega) (by omega)
  have hxl : x.tx.length = n := by rw [hxt, List.length_map, List.length_range]
  refine ⟨by rw [(e 55 (by decide)).1]; exact h55, fun q => by rw [(e 56 (by decide)).1]; exact h56 q, by rw [(e 57 (by decide)).1]; exact h57, fun j v hj => by rw [(e 58 (by decide)).1]; exact h58 j v hj, h59, ⟨by rw [hxl]; exact h61, by omega, fun j y hj => ?_⟩, fun q => ?_⟩
  · rw [hxt, List.getElem?_map] at hj
    obtain ⟨i, hi, hiy⟩ := Option.map_eq_some_iff.mp hj
    obtain ⟨h1, h2⟩ := List.getElem?_eq_some_iff.mp hi
    rw [List.length_range] at h1
    rw [List.getElem_range] at h2
    rw [h62 j h1, ← hiy, ← h2]
  · obtain ⟨m, g1, g2, N, g3, g4⟩ := hny q
    refine ⟨m, g1, g2.mv (fun a q1 q2 k q3 => by rw [(e a (by omega)).1]) (fun k q3 => by rw [(e 70 (by decide)).2]), N, by rw [(e 60 (by decide)).1]; exact g3, ?_⟩
    exact ny.mv (fun a k q1 q2 q3 q4 => by rw [(e a (by omega)).1]) (fun k q1 q2 _ => by rw [(e 70 (by decide)).2]) (fun k v q1 q2 _ q4 => by unfold crN at q4 ⊢; rw [(e 70 (by decide)).2]; exact q4) _ _ g4
set_option maxRecDepth 20000 in
set_option maxHeartbeats 800000 in
theorem r_keep0 {l : Launch} {E : pmE} {d : Nat} {S : pmS} {I : pmI} {J : pmJ} {P : pmP} {Q : Option Value → pmS → pmI → pmJ → pmP → Prop} (hG : sh_St S) (hP : gr_St P) {A : aS} {x : sN} {v : vV} {t : List tH} {n : Nat} {tx : Nat → Nat} (hA : rA I J A) (hO : aO A) (hk : kO A x v t) (h55 : I 55 A.sn.length = nI x.form) (h56 : x.form ≠ 0 → I 56 A.sn.length = nI (A.ns.idxOf x.dec)) (h57 : I 57 A.sn.length = nI x.pa.length) (h58 : ∀ (j : Nat) (v : Int64), x.pa[j]? = some v → I 58 (3 * A.sn.length + j) = nI (A.ns.idxOf v)) (hny : x.form = 2 → ∃ m, m ≤ 60 ∧ nY I J (64 * A.sn.length) (64 * A.sn.length + m) ∧ ∃ N, I 60 A.sn.length = nI N ∧ ny I J (crN A.ns J) (64 * A.sn.length) (64 * A.sn.length + m) x.tr N) (hT : tX I 48 tx n) (hsz : I 47 2 = nI n) (hn : n ≤ 120) (hxt : x.tx = (List.range n).map tx) (hf : x.form = 0) (hv0 : I 92 0 = nI v.1 ∧ J 93 0 = v.2) (k : ∀ I' J', kR I J I' J' → rA I' J' (A.kp x v t) → Q (some (.int (rnA A x.form))) S I' J' P) : pm_Met l E yX10_keep cX10_keep 4 (some .int) d 0 0 [.ref 47] S I J P Q := by
  unfold pm_Met
  have hsl := hk.1
  have hf3 := hk.2.1
  have hrl := hO.2.2.2.2.2.2.2.2.2.2.2.1
  have hnl := hO.1.2
  refine pm_lvs (lv' := [(0, _)]) rfl ?_
  refine pw_aload_n dX10_keep_0 rfl ?_
  refine pw_getR fX10_35 dX10_keep_1 (sh_lt hG (by decide)) (sh_tg hG 45 rfl) rfl (gr_at hP 48 rfl) ?_
  refine pw_aload_n dX10_keep_4 rfl ?_
  refine pw_getI fX10_220 dX10_keep_5 (sh_lt hG (by decide)) (sh_tg hG 45 rfl) rfl ?_
  refine pw_ti (z := nI A.sn.length) (by (repeat (first | rw [pm_u_ne (by decide)] | rw [pm_u_eq, pm_up_ne (by decide)])); exact hA.k) ?_
  refine pw_ialdN A.sn.length dX10_keep_8 (sh_lt hG (by decide)) (sh_sh hG 54 rfl) (by decide) (rfl) (by omega) ?_
  refine pw_istore_n (lv' := [(1, _), (0, _)]) dX10_keep_9 (by decide) rfl ?_
  refine pw_aload_n dX10_keep_10 rfl ?_
  refine pw_getR fX10_32 dX10_keep_11 (sh_lt hG (by decide)) (sh_tg hG 45 rfl) rfl (gr_at hP 47 rfl) ?_
  refine pw_aload_n dX10_keep_14 rfl ?_
  refine pw_getI fX10_220 dX10_keep_15 (sh_lt hG (by decide)) (sh_tg hG 45 rfl) rfl ?_
  refine pw_ti (z := nI A.sn.length) (by (repeat (first | rw [pm_u_ne (by decide)] | rw [pm_u_eq, pm_up_ne (by decide)])); exact hA.k) ?_
  refine pw_ialdN A.sn.length dX10_keep_18 (sh_lt hG (by decide)) (sh_sh hG 53 rfl) (by decide) (rfl) (by omega) ?_
  refine pw_ti (z := nI x.form) h55 ?_
  refine pw_istore_n (lv' := [(2, _), (1, _), (0, _)]) dX10_keep_19 (by decide) rfl ?_
  refine pw_iload_n dX10_keep_20 rfl ?_
  refine pw_ifN_ne _ (tgt := 67) dX10_keep_21 (by decide) (rfl) (by omega) (fun h21 => absurd h21 (by omega)) (fun h21 => ?_)
  refine pw_aload_n dX10_keep_24 rfl ?_
  refine pw_dup dX10_keep_25 rfl ?_
  refine pw_getI fX10_305 dX10_keep_26 (sh_lt hG (by decide)) (sh_tg hG 45 rfl) rfl ?_
  refine pw_iconst (v := nI 1) dX10_keep_29 (by decide) ?_
  refine pw_iadd dX10_keep_30 ?_
  refine pw_ti (z := nI (A.rs.length + 1)) (by rw [hA.r]; exact nI_add _ 1) ?_
  refine pw_putI fX10_305 dX10_keep_31 (Or.inl rfl) (by decide) (sh_lt hG (by decide)) (sh_tg hG 45 rfl) rfl ?_
  refine pw_aload_n dX10_keep_34 rfl ?_
  refine pw_getR fX10_80 dX10_keep_35 (sh_lt hG (by decide)) (sh_tg hG 45 rfl) rfl (gr_at hP 63 rfl) ?_
  refine pw_aload_n dX10_keep_38 rfl ?_
  refine pw_getI fX10_305 dX10_keep_39 (sh_lt hG (by decide)) (sh_tg hG 45 rfl) rfl ?_
  refine pw_ti (z := nI (A.rs.length + 1)) (by rw [pm_u_eq, pm_up_eq]) ?_
  refine pw_aload_n dX10_keep_42 rfl ?_
  refine pw_getR fX10_144 dX10_keep_43 (sh_lt hG (by decide)) (sh_tg hG 45 rfl) rfl (gr_at hP 84 rfl) ?_
  refine pw_iconst (v := nI 0) dX10_keep_46 (by decide) ?_
  refine pw_ialdN 0 dX10_keep_47 (sh_lt hG (by decide)) (sh_sh hG 90 rfl) (by decide) (by decide) (by decide) ?_
  refine pw_ti (z := nI v.1) (by rw [pm_u_ne (by decide)]; exact hv0.1) ?_
  refine pw_iastN (A.rs.length + 1) dX10_keep_48 (by decide) (sh_lt hG (by decide)) (sh_sh hG 69 rfl) (by decide) (rfl) (by omega) ?_
  refine pw_aload_n dX10_keep_49 rfl ?_
  refine pw_getR fX10_83 dX10_keep_50 (sh_lt hG (by decide)) (sh_tg hG 45 rfl) rfl (gr_at hP 64 rfl) ?_
  refine pw_aload_n dX10_keep_53 rfl ?_
  refine pw_getI fX10_305 dX10_keep_54 (sh_lt hG (by decide)) (sh_tg hG 45 rfl) rfl ?_
  refine pw_ti (z := nI (A.rs.length + 1)) (by rw [pm_u_ne (by decide), pm_u_eq, pm_up_eq]) ?_
  refine pw_aload_n dX10_keep_57 rfl ?_
  refine pw_getR fX10_147 dX10_keep_58 (sh_lt hG (by decide)) (sh_tg hG 45 rfl) rfl (gr_at hP 85 rfl) ?_
  refine pw_iconst (v := nI 0) dX10_keep_61 (by decide) ?_
  refine pw_laldN 0 dX10_keep_62 (sh_lt hG (by decide)) (sh_sh hG 91 rfl) (by decide) (by decide) (by decide) ?_
  refine pw_tj (z := v.2) hv0.2 ?_
  refine pw_lastN (A.rs.length + 1) dX10_keep_63 (by decide) (sh_lt hG (by decide)) (sh_sh hG 70 rfl) (by decide) (rfl) (by omega) ?_
  refine pw_goto (tgt := 179) dX10_keep_64 (by decide) ?_
  refine r_keep_t (I := (pm_u (pm_u I 47 27 (nI (A.rs.length + 1))) 71 (A.rs.length + 1) (nI v.1))) (J := (pm_u J 72 (A.rs.length + 1) v.2)) hG hP (kp := A.sn.length) (n := n) (form := x.form) (tx := tx) (by (repeat (first | rw [pm_u_ne (by decide)] | rw [pm_u_eq, pm_up_ne (by decide)])); exact hA.k) (by omega) (fun j hj => by rw [show (pm_u (pm_u I 47 27 (nI (A.rs.length + 1))) 71 (A.rs.length + 1) (nI v.1)) 48 = I 48 by first | with_reducible rfl | (repeat (first | rw [pm_u_ne (by decide)] | rw [pm_u_eq]))]; exact hT j hj) (by (repeat (first | rw [pm_u_ne (by decide)] | rw [pm_u_eq, pm_up_ne (by decide)])); exact hsz) hn hf3 (fun I' h1 h2 h3 h4 h5 h6 => ?_)
  have hK : kR I J I' (pm_u J 72 (A.rs.length + 1) v.2) := ⟨fun a q1 q2 q3 q4 q5 q6 q7 => ⟨by rw [h1 a q1 q4 q5]; repeat (rw [pm_u_ne (by omega)]), by first | with_reducible rfl | (repeat (rw [pm_u_ne (by omega)]))⟩, fun j q1 q2 => by rw [h2 j q1]; first | with_reducible rfl | (repeat (first | rw [pm_u_ne (by decide)] | rw [pm_u_eq, pm_up_ne q2]))⟩
  have hx := r_new hK h55 h56 h57 h58 hny (fun q => by omega) hn hxt (by rw [h4]; exact pm_up_eq) h6
  have g := k I' (pm_u J 72 (A.rs.length + 1) v.2) hK (hA.kp hO hk hK hx (by rw [h1 50 (by decide) (by decide) (by decide)]; rw [if_pos (by omega)]; first | with_reducible rfl | (repeat (first | rw [pm_u_ne (by decide)] | rw [pm_u_eq]))) (by rw [h1 51 (by decide) (by decide) (by decide)]; rw [if_pos (by omega)]; first | with_reducible rfl | (repeat (first | rw [pm_u_ne (by decide)] | rw [pm_u_eq]))) (by rw [h1 52 (by decide) (by decide) (by decide)]; rw [if_neg (by omega)]; first | with_reducible rfl | (repeat (first | rw [pm_u_ne (by decide)] | rw [pm_u_eq]))) (by rw [h1 53 (by decide) (by decide) (by decide)]; rw [if_neg (by omega)]; first | with_reducible rfl | (repeat (first | rw [pm_u_ne (by decide)] | rw [pm_u_eq]))) (by rw [if_neg (by omega)]; first | with_reducible rfl | (repeat (first | rw [pm_u_ne (by decide)] | rw [pm_u_eq]))) (by rw [h1 71 (by decide) (by decide) (by decide)]; rw [if_pos (by omega)]; first | with_reducible rfl | (repeat (first | rw [pm_u_ne (by decide)] | rw [pm_u_eq]))) (by rw [if_pos (by omega)]; first | with_reducible rfl | (repeat (first | rw [pm_u_ne (by decide)] | rw [pm_u_eq]))) h3 (by rw [if_pos (by omega), h2 27 (by decide), pm_u_ne (by decide), pm_u_eq, pm_up_eq]) (fun j hj => by rw [h1 59 (by decide) (by decide) (by decide)]; first | with_reducible rfl | (repeat (first | rw [pm_u_ne (by decide)] | rw [pm_u_eq]))) (fun j hj => by rw [h4, pm_up_ne hj]; first | with_reducible rfl | (repeat (first | rw [pm_u_ne (by decide)] | rw [pm_u_eq]))) (fun j hj => by rw [h5 j hj]; first | with_reducible rfl | (repeat (first | rw [pm_u_ne (by decide)] | rw [pm_u_eq]))))
  unfold rnA at g
  rw [if_pos (by omega)] at g
  rw [if_pos (by omega)]
  rw [pm_u_ne (by decide), pm_u_eq, pm_up_eq]
  exact g
set_option maxRecDepth 20000 in
set_option maxHeartbeats 800000 in
theorem r_keep1n {l : Launch} {E : pmE} {d : Nat} {S : pmS} {I : pmI} {J : pmJ} {P : pmP} {Q : Option Value → pmS → pmI → pmJ → pmP → Prop} (hG : sh_St S) (hP : gr_St P) {A : aS} {x : sN} {v : vV} {t : List tH} {n : Nat} {tx : Nat → Nat} (hA : rA I J A) (hO : aO A) (hk : kO A x v t) (h55 : I 55 A.sn.length = nI x.form) (h56 : x.form ≠ 0 → I 56 A.sn.length = nI (A.ns.idxOf x.dec)) (h57 : I 57 A.sn.length = nI x.pa.length) (h58 : ∀ (j : Nat) (v : Int64), x.pa[j]? = some v → I 58 (3 * A.sn.length + j) = nI (A.ns.idxOf v)) (hny : x.form = 2 → ∃ m, m ≤ 60 ∧ nY I J (64 * A.sn.length) (64 * A.sn.length + m) ∧ ∃ N, I 60 A.sn.length = nI N ∧ ny I J (crN A.ns J) (64 * A.sn.length) (64 * A.sn.length + m) x.tr N) (hT : tX I 48 tx n) (hsz : I 47 2 = nI n) (hn : n ≤ 120) (hxt : x.tx = (List.range n).map tx) (hf : x.form = 1) (hr : I 60 A.sn.length = -5) (hv1 : v = (0, 0)) (k : ∀ I' J', kR I J I' J' → rA I' J' (A.kp x v t) → Q (some (.int (rnA A x.form))) S I' J' P) : pm_Met l E yX10_keep cX10_keep 4 (some .int) d 0 0 [.ref 47] S I J P Q := by
  unfold pm_Met
  have hsl := hk.1
  have hf3 := hk.2.1
  have hrl := hO.2.2.2.2.2.2.2.2.2.2.2.1
  have hnl := hO.1.2
  have hix := (ns_at (hk.2.2.2.1 (by omega))).2
  subst hv1
  refine pm_lvs (lv' := [(0, _)]) rfl ?_
  refine pw_aload_n dX10_keep_0 rfl ?_
  refine pw_getR fX10_35 dX10_keep_1 (sh_lt hG (by decide)) (sh_tg hG 45 rfl) rfl (gr_at hP 48 rfl) ?_
  refine pw_aload_n dX10_keep_4 rfl ?_
  refine pw_getI fX10_220 dX10_keep_5 (sh_lt hG (by decide)) (sh_tg hG 45 rfl) rfl ?_
  refine pw_ti (z := nI A.sn.length) (by (repeat (first | rw [pm_u_ne (by decide)] | rw [pm_u_eq, pm_up_ne (by decide)])); exact hA.k) ?_
  refine pw_ialdN A.sn.length dX10_keep_8 (sh_lt hG (by decide)) (sh_sh hG 54 rfl) (by decide) (rfl) (by omega) ?_
  refine pw_ti (z := nI (A.ns.idxOf x.dec)) (h56 (by omega)) ?_
  refine pw_istore_n (lv' := [(1, _), (0, _)]) dX10_keep_9 (by decide) rfl ?_
  refine pw_aload_n dX10_keep_10 rfl ?_
  refine pw_getR fX10_32 dX10_keep_11 (sh_lt hG (by decide)) (sh_tg hG 45 rfl) rfl (gr_at hP 47 rfl) ?_
  refine pw_aload_n dX10_keep_14 rfl ?_
  refine pw_getI fX10_220 dX10_keep_15 (sh_lt hG (by decide)) (sh_tg hG 45 rfl) rfl ?_
  refine pw_ti (z := nI A.sn.length) (by (repeat (first | rw [pm_u_ne (by decide)] | rw [pm_u_eq, pm_up_ne (by decide)])); exact hA.k) ?_
  refine pw_ialdN A.sn.length dX10_keep_18 (sh_lt hG (by decide)) (sh_sh hG 53 rfl) (by decide) (rfl) (by omega) ?_
  refine pw_ti (z := nI x.form) h55 ?_
  refine pw_istore_n (lv' := [(2, _), (1, _), (0, _)]) dX10_keep_19 (by decide) rfl ?_
  refine pw_iload_n dX10_keep_20 rfl ?_
  refine pw_ifN_ne _ (tgt := 67) dX10_keep_21 (by decide) (rfl) (by omega) (fun h21 => ?_) (fun h21 => absurd h21 (by omega))
  refine pw_aload_n dX10_keep_67 rfl ?_
  refine pw_getR fX10_17 dX10_keep_68 (sh_lt hG (by decide)) (sh_tg hG 45 rfl) rfl (gr_at hP 42 rfl) ?_
  refine pw_iload_n dX10_keep_71 rfl ?_
  refine pw_iload_n dX10_keep_72 rfl ?_
  refine pw_iastN (A.ns.idxOf x.dec) dX10_keep_73 (by decide) (sh_lt hG (by decide)) (sh_sh hG 48 rfl) (by decide) (rfl) (by omega) ?_
  refine pw_aload_n dX10_keep_74 rfl ?_
  refine pw_getR fX10_20 dX10_keep_75 (sh_lt hG (by decide)) (sh_tg hG 45 rfl) rfl (gr_at hP 43 rfl) ?_
  refine pw_iload_n dX10_keep_78 rfl ?_
  refine pw_aload_n dX10_keep_79 rfl ?_
  refine pw_getI fX10_220 dX10_keep_80 (sh_lt hG (by decide)) (sh_tg hG 45 rfl) rfl ?_
  refine pw_ti (z := nI A.sn.length) (by (repeat (first | rw [pm_u_ne (by decide)] | rw [pm_u_eq, pm_up_ne (by decide)])); exact hA.k) ?_
  refine pw_iastN (A.ns.idxOf x.dec) dX10_keep_83 (by decide) (sh_lt hG (by decide)) (sh_sh hG 49 rfl) (by decide) (rfl) (by omega) ?_
  refine pw_iload_n dX10_keep_84 rfl ?_
  refine pw_iconst (v := nI 1) dX10_keep_85 (by decide) ?_
  refine pw_icmpN_ne _ _ (tgt := 149) dX10_keep_86 (by decide) (rfl) (rfl) (by omega) (by omega) (fun h86 => absurd h86 (by omega)) (fun h86 => ?_)
  refine pw_aload_n dX10_keep_89 rfl ?_
  refine pw_getR fX10_26 dX10_keep_90 (sh_lt hG (by decide)) (sh_tg hG 45 rfl) rfl (gr_at hP 45 rfl) ?_
  refine pw_iload_n dX10_keep_93 rfl ?_
  refine pw_aload_n dX10_keep_94 rfl ?_
  refine pw_getR fX10_47 dX10_keep_95 (sh_lt hG (by decide)) (sh_tg hG 45 rfl) rfl (gr_at hP 52 rfl) ?_
  refine pw_aload_n dX10_keep_98 rfl ?_
  refine pw_getI fX10_220 dX10_keep_99 (sh_lt hG (by decide)) (sh_tg hG 45 rfl) rfl ?_
  refine pw_ti (z := nI A.sn.length) (by (repeat (first | rw [pm_u_ne (by decide)] | rw [pm_u_eq, pm_up_ne (by decide)])); exact hA.k) ?_
  refine pw_ialdN A.sn.length dX10_keep_102 (sh_lt hG (by decide)) (sh_sh hG 58 rfl) (by decide) (rfl) (by omega) ?_
  refine pw_ti (z := -5) (by (repeat (first | rw [pm_u_ne (by decide)] | rw [pm_u_eq, pm_up_ne (by decide)])); exact hr) ?_
  refine pw_bipush (v := -5) dX10_keep_103 (by decide) ?_
  refine pw_icmp_ne (tgt := 112) dX10_keep_105 (by decide) (fun h => absurd (rfl) h) (fun h105 => ?_)
  refine pw_iconst (v := nI 0) dX10_keep_108 (by decide) ?_
  refine pw_goto (tgt := 118) dX10_keep_109 (by decide) ?_
  refine pw_iastN (A.ns.idxOf x.dec) dX10_keep_118 (by decide) (sh_lt hG (by decide)) (sh_sh hG 51 rfl) (by decide) (rfl) (by omega) ?_
  refine pw_aload_n dX10_keep_119 rfl ?_
  refine pw_getR fX10_29 dX10_keep_120 (sh_lt hG (by decide)) (sh_tg hG 45 rfl) rfl (gr_at hP 46 rfl) ?_
  refine pw_iload_n dX10_keep_123 rfl ?_
  refine pw_aload_n dX10_keep_124 rfl ?_
  refine pw_getR fX10_47 dX10_keep_125 (sh_lt hG (by decide)) (sh_tg hG 45 rfl) rfl (gr_at hP 52 rfl) ?_
  refine pw_aload_n dX10_keep_128 rfl ?_
  refine pw_getI fX10_220 dX10_keep_129 (sh_lt hG (by decide)) (sh_tg hG 45 rfl) rfl ?_
  refine pw_ti (z := nI A.sn.length) (by (repeat (first | rw [pm_u_ne (by decide)] | rw [pm_u_eq, pm_up_ne (by decide)])); exact hA.k) ?_
  refine pw_ialdN A.sn.length dX10_keep_132 (sh_lt hG (by decide)) (sh_sh hG 58 rfl) (by decide) (rfl) (by omega) ?_
  refine pw_ti (z := -5) (by (repeat (first | rw [pm_u_ne (by decide)] | rw [pm_u_eq, pm_up_ne (by decide)])); exact hr) ?_
  refine pw_bipush (v := -5) dX10_keep_133 (by decide) ?_
  refine pw_icmp_ne (tgt := 142) dX10_keep_135 (by decide) (fun h => absurd (rfl) h) (fun h135 => ?_)
  refine pw_lconst (v := 0) dX10_keep_138 (by decide) ?_
  refine pw_goto (tgt := 148) dX10_keep_139 (by decide) ?_
  refine pw_lastN (A.ns.idxOf x.dec) dX10_keep_148 (by decide) (sh_lt hG (by decide)) (sh_sh hG 52 rfl) (by decide) (rfl) (by omega) ?_
  refine pw_iload_n dX10_keep_149 rfl ?_
  refine pw_iconst (v := nI 3) dX10_keep_150 (by decide) ?_
  refine pw_icmpN_ne _ _ (tgt := 179) dX10_keep_151 (by decide) (rfl) (rfl) (by omega) (by omega) (fun h151 => ?_) (fun h151 => absurd h151 (by omega))
  refine r_keep_t (I := (pm_u (pm_u (pm_u I 50 (A.ns.idxOf x.dec) (nI x.form)) 51 (A.ns.idxOf x.dec) (nI A.sn.length)) 53 (A.ns.idxOf x.dec) (nI 0))) (J := (pm_u J 54 (A.ns.idxOf x.dec) 0)) hG hP (kp := A.sn.length) (n := n) (form := x.form) (tx := tx) (by (repeat (first | rw [pm_u_ne (by decide)] | rw [pm_u_eq, pm_up_ne (by decide)])); exact hA.k) (by omega) (fun j hj => by rw [show (pm_u (pm_u (pm_u I 50 (A.ns.idxOf x.dec) (nI x.form)) 51 (A.ns.idxOf x.dec) (nI A.sn.length)) 53 (A.ns.idxOf x.dec) (nI 0)) 48 = I 48 by first | with_reducible rfl | (repeat (first | rw [pm_u_ne (by decide)] | rw [pm_u_eq]))]; exact hT j hj) (by (repeat (first | rw [pm_u_ne (by decide)] | rw [pm_u_eq, pm_up_ne (by decide)])); exact hsz) hn hf3 (fun I' h1 h2 h3 h4 h5 h6 => ?_)
  have hK : kR I J I' (pm_u J 54 (A.ns.idxOf x.dec) 0) := ⟨fun a q1 q2 q3 q4 q5 q6 q7 => ⟨by rw [h1 a q1 q4 q5]; repeat (rw [pm_u_ne (by omega)]), by first | with_reducible rfl | (repeat (rw [pm_u_ne (by omega)]))⟩, fun j q1 q2 => by rw [h2 j q1]; first | with_reducible rfl | (repeat (first | rw [pm_u_ne (by decide)] | rw [pm_u_eq, pm_up_ne q2]))⟩
  have hx := r_new hK h55 h56 h57 h58 hny (fun q => by omega) hn hxt (by rw [h4]; exact pm_up_eq) h6
  have g := k I' (pm_u J 54 (A.ns.idxOf x.dec) 0) hK (hA.kp hO hk hK hx (by rw [h1 50 (by decide) (by decide) (by decide)]; rw [if_neg (by omega)]; first | with_reducible rfl | (repeat (first | rw [pm_u_ne (by decide)] | rw [pm_u_eq]))) (by rw [h1 51 (by decide) (by decide) (by decide)]; rw [if_neg (by omega)]; first | with_reducible rfl | (repeat (first | rw [pm_u_ne (by decide)] | rw [pm_u_eq]))) (by rw [h1 52 (by decide) (by decide) (by decide)]; rw [if_neg (by omega)]; first | with_reducible rfl | (repeat (first | rw [pm_u_ne (by decide)] | rw [pm_u_eq]))) (by rw [h1 53 (by decide) (by decide) (by decide)]; rw [if_pos (by omega)]; first | with_reducible rfl | (repeat (first | rw [pm_u_ne (by decide)] | rw [pm_u_eq]))) (by rw [if_pos (by omega)]; first | with_reducible rfl | (repeat (first | rw [pm_u_ne (by decide)] | rw [pm_u_eq]))) (by rw [h1 71 (by decide) (by decide) (by decide)]; rw [if_neg (by omega)]; first | with_reducible rfl | (repeat (first | rw [pm_u_ne (by decide)] | rw [pm_u_eq]))) (by rw [if_neg (by omega)]; first | with_reducible rfl | (repeat (first | rw [pm_u_ne (by decide)] | rw [pm_u_eq]))) h3 (by rw [if_neg (by omega), h2 27 (by decide)]; first | with_reducible rfl | (repeat (first | rw [pm_u_ne (by decide)] | rw [pm_u_eq]))) (fun j hj => by rw [h1 59 (by decide) (by decide) (by decide)]; first | with_reducible rfl | (repeat (first | rw [pm_u_ne (by decide)] | rw [pm_u_eq]))) (fun j hj => by rw [h4, pm_up_ne hj]; first | with_reducible rfl | (repeat (first | rw [pm_u_ne (by decide)] | rw [pm_u_eq]))) (fun j hj => by rw [h5 j hj]; first | with_reducible rfl | (repeat (first | rw [pm_u_ne (by decide)] | rw [pm_u_eq]))))
  unfold rnA at g
  rw [if_neg (by omega)] at g
  rw [if_neg (by omega)]
  exact g
set_option maxRecDepth 20000 in
set_option maxHeartbeats 800000 in
theorem r_keep1 {l : Launch} {E : pmE} {d : Nat} {S : pmS} {I : pmI} {J : pmJ} {P : pmP} {Q : Option Value → pmS → pmI → pmJ → pmP → Prop} (hG : sh_St S) (hP : gr_St P) {A : aS} {x : sN} {v : vV} {t : List tH} {n : Nat} {tx : Nat → Nat} (hA : rA I J A) (hO : aO A) (hk : kO A x v t) (h55 : I 55 A.sn.length = nI x.form) (h56 : x.form ≠ 0 → I 56 A.sn.length = nI (A.ns.idxOf x.dec)) (h57 : I 57 A.sn.length = nI x.pa.length) (h58 : ∀ (j : Nat) (v : Int64), x.pa[j]? = some v → I 58 (3 * A.sn.length + j) = nI (A.ns.idxOf v)) (hny : x.form = 2 → ∃ m, m ≤ 60 ∧ nY I J (64 * A.sn.length) (64 * A.sn.length + m) ∧ ∃ N, I 60 A.sn.length = nI N ∧ ny I J (crN A.ns J) (64 * A.sn.length) (64 * A.sn.length + m) x.tr N) (hT : tX I 48 tx n) (hsz : I 47 2 = nI n) (hn : n ≤ 120) (hxt : x.tx = (List.range n).map tx) (hf : x.form = 1) {N : Nat} (hN : N < 10000) (hr : I 60 A.sn.length = nI N) (hv1 : I 92 0 = nI v.1 ∧ J 93 0 = v.2) (k : ∀ I' J', kR I J I' J' → rA I' J' (A.kp x v t) → Q (some (.int (rnA A x.form))) S I' J' P) : pm_Met l E yX10_keep cX10_keep 4 (some .int) d 0 0 [.ref 47] S I J P Q := by
  unfold pm_Met
  have hsl := hk.1
  have hf3 := hk.2.1
  have hrl := hO.2.2.2.2.2.2.2.2.2.2.2.1
  have hnl := hO.1.2
  have hix := (ns_at (hk.2.2.2.1 (by omega))).2
  refine pm_lvs (lv' := [(0, _)]) rfl ?_
  refine pw_aload_n dX10_keep_0 rfl ?_
  refine pw_getR fX10_35 dX10_keep_1 (sh_lt hG (by decide)) (sh_tg hG 45 rfl) rfl (gr_at hP 48 rfl) ?_
  refine pw_aload_n dX10_keep_4 rfl ?_
  refine pw_getI fX10_220 dX10_keep_5 (sh_lt hG (by decide)) (sh_tg hG 45 rfl) rfl ?_
  refine pw_ti (z := nI A.sn.length) (by (repeat (first | rw [pm_u_ne (by decide)] | rw [pm_u_eq, pm_up_ne (by decide)])); exact hA.k) ?_
  refine pw_ialdN A.sn.length dX10_keep_8 (sh_lt hG (by decide)) (sh_sh hG 54 rfl) (by decide) (rfl) (by omega) ?_
  refine pw_ti (z := nI (A.ns.idxOf x.dec)) (h56 (by omega)) ?_
  refine pw_istore_n (lv' := [(1, _), (0, _)]) dX10_keep_9 (by decide) rfl ?_
  refine pw_aload_n dX10_keep_10 rfl ?_
  refine pw_getR fX10_32 dX10_keep_11 (sh_lt hG (by decide)) (sh_tg hG 45 rfl) rfl (gr_at hP 47 rfl) ?_
  refine pw_aload_n dX10_keep_14 rfl ?_
  refine pw_getI fX10_220 dX10_keep_15 (sh_lt hG (by decide)) (sh_tg hG 45 rfl) rfl ?_
  refine pw_ti (z := nI A.sn.length) (by (repeat (first | rw [pm_u_ne (by decide)] | rw [pm_u_eq, pm_up_ne (by decide)])); exact hA.k) ?_
  refine pw_ialdN A.sn.length dX10_keep_18 (sh_lt hG (by decide)) (sh_sh hG 53 rfl) (by decide) (rfl) (by omega) ?_
  refine pw_ti (z := nI x.form) h55 ?_
  refine pw_istore_n (lv' := [(2, _), (1, _), (0, _)]) dX10_keep_19 (by decide) rfl ?_
  refine pw_iload_n dX10_keep_20 rfl ?_
  refine pw_ifN_ne _ (tgt := 67) dX10_keep_21 (by decide) (rfl) (by omega) (fun h21 => ?_) (fun h21 => absurd h21 (by omega))
  refine pw_aload_n dX10_keep_67 rfl ?_
  refine pw_getR fX10_17 dX10_keep_68 (sh_lt hG (by decide)) (sh_tg hG 45 rfl) rfl (gr_at hP 42 rfl) ?_
  refine pw_iload_n dX10_keep_71 rfl ?_
  refine pw_iload_n dX10_keep_72 rfl ?_
  refine pw_iastN (A.ns.idxOf x.dec) dX10_keep_73 (by decide) (sh_lt hG (by decide)) (sh_sh hG 48 rfl) (by decide) (rfl) (by omega) ?_
  refine pw_aload_n dX10_keep_74 rfl ?_
  refine pw_getR fX10_20 dX10_keep_75 (sh_lt hG (by decide)) (sh_tg hG 45 rfl) rfl (gr_at hP 43 rfl) ?_
  refine pw_iload_n dX10_keep_78 rfl ?_
  refine pw_aload_n dX10_keep_79 rfl ?_
  refine pw_getI fX10_220 dX10_keep_80 (sh_lt hG (by decide)) (sh_tg hG 45 rfl) rfl ?_
  refine pw_ti (z := nI A.sn.length) (by (repeat (first | rw [pm_u_ne (by decide)] | rw [pm_u_eq, pm_up_ne (by decide)])); exact hA.k) ?_
  refine pw_iastN (A.ns.idxOf x.dec) dX10_keep_83 (by decide) (sh_lt hG (by decide)) (sh_sh hG 49 rfl) (by decide) (rfl) (by omega) ?_
  refine pw_iload_n dX10_keep_84 rfl ?_
  refine pw_iconst (v := nI 1) dX10_keep_85 (by decide) ?_
  refine pw_icmpN_ne _ _ (tgt := 149) dX10_keep_86 (by decide) (rfl) (rfl) (by omega) (by omega) (fun h86 => absurd h86 (by omega)) (fun h86 => ?_)
  refine pw_aload_n dX10_keep_89 rfl ?_
  refine pw_getR fX10_26 dX10_keep_90 (sh_lt hG (by decide)) (sh_tg hG 45 rfl) rfl (gr_at hP 45 rfl) ?_
  refine pw_iload_n dX10_keep_93 rfl ?_
  refine pw_aload_n dX10_keep_94 rfl ?_
  refine pw_getR fX10_47 dX10_keep_95 (sh_lt hG (by decide)) (sh_tg hG 45 rfl) rfl (gr_at hP 52 rfl) ?_
  refine pw_aload_n dX10_keep_98 rfl ?_
  refine pw_getI fX10_220 dX10_keep_99 (sh_lt hG (by decide)) (sh_tg hG 45 rfl) rfl ?_
  refine pw_ti (z := nI A.sn.length) (by (repeat (first | rw [pm_u_ne (by decide)] | rw [pm_u_eq, pm_up_ne (by decide)])); exact hA.k) ?_
  refine pw_ialdN A.sn.length dX10_keep_102 (sh_lt hG (by decide)) (sh_sh hG 58 rfl) (by decide) (rfl) (by omega) ?_
  refine pw_ti (z := nI N) (by (repeat (first | rw [pm_u_ne (by decide)] | rw [pm_u_eq, pm_up_ne (by decide)])); exact hr) ?_
  refine pw_bipush (v := -5) dX10_keep_103 (by decide) ?_
  refine pw_icmp_ne (tgt := 112) dX10_keep_105 (by decide) (fun h105 => ?_) (fun h => absurd h (nI_n5 (by omega)))
  refine pw_aload_n dX10_keep_112 rfl ?_
  refine pw_getR fX10_144 dX10_keep_113 (sh_lt hG (by decide)) (sh_tg hG 45 rfl) rfl (gr_at hP 84 rfl) ?_
  refine pw_iconst (v := nI 0) dX10_keep_116 (by decide) ?_
  refine pw_ialdN 0 dX10_keep_117 (sh_lt hG (by decide)) (sh_sh hG 90 rfl) (by decide) (by decide) (by decide) ?_
  refine pw_ti (z := nI v.1) (by (repeat (first | rw [pm_u_ne (by decide)] | rw [pm_u_eq, pm_up_ne (by decide)])); exact hv1.1) ?_
  refine pw_iastN (A.ns.idxOf x.dec) dX10_keep_118 (by decide) (sh_lt hG (by decide)) (sh_sh hG 51 rfl) (by decide) (rfl) (by omega) ?_
  refine pw_aload_n dX10_keep_119 rfl ?_
  refine pw_getR fX10_29 dX10_keep_120 (sh_lt hG (by decide)) (sh_tg hG 45 rfl) rfl (gr_at hP 46 rfl) ?_
  refine pw_iload_n dX10_keep_123 rfl ?_
  refine pw_aload_n dX10_keep_124 rfl ?_
  refine pw_getR fX10_47 dX10_keep_125 (sh_lt hG (by decide)) (sh_tg hG 45 rfl) rfl (gr_at hP 52 rfl) ?_
  refine pw_aload_n dX10_keep_128 rfl ?_
  refine pw_getI fX10_220 dX10_keep_129 (sh_lt hG (by decide)) (sh_tg hG 45 rfl) rfl ?_
  refine pw_ti (z := nI A.sn.length) (by (repeat (first | rw [pm_u_ne (by decide)] | rw [pm_u_eq, pm_up_ne (by decide)])); exact hA.k) ?_
  refine pw_ialdN A.sn.length dX10_keep_132 (sh_lt hG (by decide)) (sh_sh hG 58 rfl) (by decide) (rfl) (by omega) ?_
  refine pw_ti (z := nI N) (by (repeat (first | rw [pm_u_ne (by decide)] | rw [pm_u_eq, pm_up_ne (by decide)])); exact hr) ?_
  refine pw_bipush (v := -5) dX10_keep_133 (by decide) ?_
  refine pw_icmp_ne (tgt := 142) dX10_keep_135 (by decide) (fun h135 => ?_) (fun h => absurd h (nI_n5 (by omega)))
  refine pw_aload_n dX10_keep_142 rfl ?_
  refine pw_getR fX10_147 dX10_keep_143 (sh_lt hG (by decide)) (sh_tg hG 45 rfl) rfl (gr_at hP 85 rfl) ?_
  refine pw_iconst (v := nI 0) dX10_keep_146 (by decide) ?_
  refine pw_laldN 0 dX10_keep_147 (sh_lt hG (by decide)) (sh_sh hG 91 rfl) (by decide) (by decide) (by decide) ?_
  refine pw_tj (z := v.2) (by first | exact hv1.2 | ((repeat (first | rw [pm_u_ne (by decide)] | rw [pm_u_eq, pm_up_ne (by decide)])); exact hv1.2)) ?_
  refine pw_lastN (A.ns.idxOf x.dec) dX10_keep_148 (by decide) (sh_lt hG (by decide)) (sh_sh hG 52 rfl) (by decide) (rfl) (by omega) ?_
  refine pw_iload_n dX10_keep_149 rfl ?_
  refine pw_iconst (v := nI 3) dX10_keep_150 (by decide) ?_
  refine pw_icmpN_ne _ _ (tgt := 179) dX10_keep_151 (by decide) (rfl) (rfl) (by omega) (by omega) (fun h151 => ?_) (fun h151 => absurd h151 (by omega))
  refine r_keep_t (I := (pm_u (pm_u (pm_u I 50 (A.ns.idxOf x.dec) (nI x.form)) 51 (A.ns.idxOf x.dec) (nI A.sn.length)) 53 (A.ns.idxOf x.dec) (nI v.1))) (J := (pm_u J 54 (A.ns.idxOf x.dec) v.2)) hG hP (kp := A.sn.length) (n := n) (form := x.form) (tx := tx) (by (repeat (first | rw [pm_u_ne (by decide)] | rw [pm_u_eq, pm_up_ne (by decide)])); exact hA.k) (by omega) (fun j hj => by rw [show (pm_u (pm_u (pm_u I 50 (A.ns.idxOf x.dec) (nI x.form)) 51 (A.ns.idxOf x.dec) (nI A.sn.length)) 53 (A.ns.idxOf x.dec) (nI v.1)) 48 = I 48 by first | with_reducible rfl | (repeat (first | rw [pm_u_ne (by decide)] | rw [pm_u_eq]))]; exact hT j hj) (by (repeat (first | rw [pm_u_ne (by decide)] | rw [pm_u_eq, pm_up_ne (by decide)])); exact hsz) hn hf3 (fun I' h1 h2 h3 h4 h5 h6 => ?_)
  have hK : kR I J I' (pm_u J 54 (A.ns.idxOf x.dec) v.2) := ⟨fun a q1 q2 q3 q4 q5 q6 q7 => ⟨by rw [h1 a q1 q4 q5]; repeat (rw [pm_u_ne (by omega)]), by first | with_reducible rfl | (repeat (rw [pm_u_ne (by omega)]))⟩, fun j q1 q2 => by rw [h2 j q1]; first | with_reducible rfl | (repeat (first | rw [pm_u_ne (by decide)] | rw [pm_u_eq, pm_up_ne q2]))⟩
  have hx := r_new hK h55 h56 h57 h58 hny (fun q => by omega) hn hxt (by rw [h4]; exact pm_up_eq) h6
  have g := k I' (pm_u J 54 (A.ns.idxOf x.dec) v.2) hK (hA.kp hO hk hK hx (by rw [h1 50 (by decide) (by decide) (by decide)]; rw [if_neg (by omega)]; first | with_reducible rfl | (repeat (first | rw [pm_u_ne (by decide)] | rw [pm_u_eq]))) (by rw [h1 51 (by decide) (by decide) (by decide)]; rw [if_neg (by omega)]; first | with_reducible rfl | (repeat (first | rw [pm_u_ne (by decide)] | rw [pm_u_eq]))) (by rw [h1 52 (by decide) (by decide) (by decide)]; rw [if_neg (by omega)]; first | with_reducible rfl | (repeat (first | rw [pm_u_ne (by decide)] | rw [pm_u_eq]))) (by rw [h1 53 (by decide) (by decide) (by decide)]; rw [if_pos (by omega)]; first | with_reducible rfl | (repeat (first | rw [pm_u_ne (by decide)] | rw [pm_u_eq]))) (by rw [if_pos (by omega)]; first | with_reducible rfl | (repeat (first | rw [pm_u_ne (by decide)] | rw [pm_u_eq]))) (by rw [h1 71 (by decide) (by decide) (by decide)]; rw [if_neg (by omega)]; first | with_reducible rfl | (repeat (first | rw [pm_u_ne (by decide)] | rw [pm_u_eq]))) (by rw [if_neg (by omega)]; first | with_reducible rfl | (repeat (first | rw [pm_u_ne (by decide)] | rw [pm_u_eq]))) h3 (by rw [if_neg (by omega), h2 27 (by decide)]; first | with_reducible rfl | (repeat (first | rw [pm_u_ne (by decide)] | rw [pm_u_eq]))) (fun j hj => by rw [h1 59 (by decide) (by decide) (by decide)]; first | with_reducible rfl | (repeat (first | rw [pm_u_ne (by decide)] | rw [pm_u_eq]))) (fun j hj => by rw [h4, pm_up_ne hj]; first | with_reducible rfl | (repeat (first | rw [pm_u_ne (by decide)] | rw [pm_u_eq]))) (fun j hj => by rw [h5 j hj]; first | with_reducible rfl | (repeat (first | rw [pm_u_ne (by decide)] | rw [pm_u_eq]))))
  unfold rnA at g
  rw [if_neg (by omega)] at g
  rw [if_neg (by omega)]
  exact g
set_option maxRecDepth 20000 in
set_option maxHeartbeats 800000 in
theorem r_keep2 {l : Launch} {E : pmE} {d : Nat} {S : pmS} {I : pmI} {J : pmJ} {P : pmP} {Q : Option Value → pmS → pmI → pmJ → pmP → Prop} (hG : sh_St S) (hP : gr_St P) {A : aS} {x : sN} {v : vV} {t : List tH} {n : Nat} {tx : Nat → Nat} (hA : rA I J A) (hO : aO A) (hk : kO A x v t) (h55 : I 55 A.sn.length = nI x.form) (h56 : x.form ≠ 0 → I 56 A.sn.length = nI (A.ns.idxOf x.dec)) (h57 : I 57 A.sn.length = nI x.pa.length) (h58 : ∀ (j : Nat) (v : Int64), x.pa[j]? = some v → I 58 (3 * A.sn.length + j) = nI (A.ns.idxOf v)) (hny : x.form = 2 → ∃ m, m ≤ 60 ∧ nY I J (64 * A.sn.length) (64 * A.sn.length + m) ∧ ∃ N, I 60 A.sn.length = nI N ∧ ny I J (crN A.ns J) (64 * A.sn.length) (64 * A.sn.length + m) x.tr N) (hT : tX I 48 tx n) (hsz : I 47 2 = nI n) (hn : n ≤ 120) (hxt : x.tx = (List.range n).map tx) (hf : x.form = 2) (k : ∀ I' J', kR I J I' J' → rA I' J' (A.kp x v t) → Q (some (.int (rnA A x.form))) S I' J' P) : pm_Met l E yX10_keep cX10_keep 4 (some .int) d 0 0 [.ref 47] S I J P Q := by
  unfold pm_Met
  have hsl := hk.1
  have hf3 := hk.2.1
  have hrl := hO.2.2.2.2.2.2.2.2.2.2.2.1
  have hnl := hO.1.2
  have hix := (ns_at (hk.2.2.2.1 (by omega))).2
  refine pm_lvs (lv' := [(0, _)]) rfl ?_
  refine pw_aload_n dX10_keep_0 rfl ?_
  refine pw_getR fX10_35 dX10_keep_1 (sh_lt hG (by decide)) (sh_tg hG 45 rfl) rfl (gr_at hP 48 rfl) ?_
  refine pw_aload_n dX10_keep_4 rfl ?_
  refine pw_getI fX10_220 dX10_keep_5 (sh_lt hG (by decide)) (sh_tg hG 45 rfl) rfl ?_
  refine pw_ti (z := nI A.sn.length) (by (repeat (first | rw [pm_u_ne (by decide)] | rw [pm_u_eq, pm_up_ne (by decide)])); exact hA.k) ?_
  refine pw_ialdN A.sn.length dX10_keep_8 (sh_lt hG (by decide)) (sh_sh hG 54 rfl) (by decide) (rfl) (by omega) ?_
  refine pw_ti (z := nI (A.ns.idxOf x.dec)) (h56 (by omega)) ?_
  refine pw_istore_n (lv' := [(1, _), (0, _)]) dX10_keep_9 (by decide) rfl ?_
  refine pw_aload_n dX10_keep_10 rfl ?_
  refine pw_getR fX10_32 dX10_keep_11 (sh_lt hG (by decide)) (sh_tg hG 45 rfl) rfl (gr_at hP 47 rfl) ?_
  refine pw_aload_n dX10_keep_14 rfl ?_
  refine pw_getI fX10_220 dX10_keep_15 (sh_lt hG (by decide)) (sh_tg hG 45 rfl) rfl ?_
  refine pw_ti (z := nI A.sn.length) (by (repeat (first | rw [pm_u_ne (by decide)] | rw [pm_u_eq, pm_up_ne (by decide)])); exact hA.k) ?_
  refine pw_ialdN A.sn.length dX10_keep_18 (sh_lt hG (by decide)) (sh_sh hG 53 rfl) (by decide) (rfl) (by omega) ?_
  refine pw_ti (z := nI x.form) h55 ?_
  refine pw_istore_n (lv' := [(2, _), (1, _), (0, _)]) dX10_keep_19 (by decide) rfl ?_
  refine pw_iload_n dX10_keep_20 rfl ?_
  refine pw_ifN_ne _ (tgt := 67) dX10_keep_21 (by decide) (rfl) (by omega) (fun h21 => ?_) (fun h21 => absurd h21 (by omega))
  refine pw_aload_n dX10_keep_67 rfl ?_
  refine pw_getR fX10_17 dX10_keep_68 (sh_lt hG (by decide)) (sh_tg hG 45 rfl) rfl (gr_at hP 42 rfl) ?_
  refine pw_iload_n dX10_keep_71 rfl ?_
  refine pw_iload_n dX10_keep_72 rfl ?_
  refine pw_iastN (A.ns.idxOf x.dec) dX10_keep_73 (by decide) (sh_lt hG (by decide)) (sh_sh hG 48 rfl) (by decide) (rfl) (by omega) ?_
  refine pw_aload_n dX10_keep_74 rfl ?_
  refine pw_getR fX10_20 dX10_keep_75 (sh_lt hG (by decide)) (sh_tg hG 45 rfl) rfl (gr_at hP 43 rfl) ?_
  refine pw_iload_n dX10_keep_78 rfl ?_
  refine pw_aload_n dX10_keep_79 rfl ?_
  refine pw_getI fX10_220 dX10_keep_80 (sh_lt hG (by decide)) (sh_tg hG 45 rfl) rfl ?_
  refine pw_ti (z := nI A.sn.length) (by (repeat (first | rw [pm_u_ne (by decide)] | rw [pm_u_eq, pm_up_ne (by decide)])); exact hA.k) ?_
  refine pw_iastN (A.ns.idxOf x.dec) dX10_keep_83 (by decide) (sh_lt hG (by decide)) (sh_sh hG 49 rfl) (by decide) (rfl) (by omega) ?_
  refine pw_iload_n dX10_keep_84 rfl ?_
  refine pw_iconst (v := nI 1) dX10_keep_85 (by decide) ?_
  refine pw_icmpN_ne _ _ (tgt := 149) dX10_keep_86 (by decide) (rfl) (rfl) (by omega) (by omega) (fun h86 => ?_) (fun h86 => absurd h86 (by omega))
  refine pw_iload_n dX10_keep_149 rfl ?_
  refine pw_iconst (v := nI 3) dX10_keep_150 (by decide) ?_
  refine pw_icmpN_ne _ _ (tgt := 179) dX10_keep_151 (by decide) (rfl) (rfl) (by omega) (by omega) (fun h151 => ?_) (fun h151 => absurd h151 (by omega))
  refine r_keep_t (I := (pm_u (pm_u I 50 (A.ns.idxOf x.dec) (nI x.form)) 51 (A.ns.idxOf x.dec) (nI A.sn.length))) (J := J) hG hP (kp := A.sn.length) (n := n) (form := x.form) (tx := tx) (by (repeat (first | rw [pm_u_ne (by decide)] | rw [pm_u_eq, pm_up_ne (by decide)])); exact hA.k) (by omega) (fun j hj => by rw [show (pm_u (pm_u I 50 (A.ns.idxOf x.dec) (nI x.form)) 51 (A.ns.idxOf x.dec) (nI A.sn.length)) 48 = I 48 by first | with_reducible rfl | (repeat (first | rw [pm_u_ne (by decide)] | rw [pm_u_eq]))]; exact hT j hj) (by (repeat (first | rw [pm_u_ne (by decide)] | rw [pm_u_eq, pm_up_ne (by decide)])); exact hsz) hn hf3 (fun I' h1 h2 h3 h4 h5 h6 => ?_)
  have hK : kR I J I' J := ⟨fun a q1 q2 q3 q4 q5 q6 q7 => ⟨by rw [h1 a q1 q4 q5]; repeat (rw [pm_u_ne (by omega)]), by first | with_reducible rfl | (repeat (rw [pm_u_ne (by omega)]))⟩, fun j q1 q2 => by rw [h2 j q1]; first | with_reducible rfl | (repeat (first | rw [pm_u_ne (by decide)] | rw [pm_u_eq, pm_up_ne q2]))⟩
  have hx := r_new hK h55 h56 h57 h58 hny (fun q => by omega) hn hxt (by rw [h4]; exact pm_up_eq) h6
  have g := k I' J hK (hA.kp hO hk hK hx (by rw [h1 50 (by decide) (by decide) (by decide)]; rw [if_neg (by omega)]; first | with_reducible rfl | (repeat (first | rw [pm_u_ne (by decide)] | rw [pm_u_eq]))) (by rw [h1 51 (by decide) (by decide) (by decide)]; rw [if_neg (by omega)]; first | with_reducible rfl | (repeat (first | rw [pm_u_ne (by decide)] | rw [pm_u_eq]))) (by rw [h1 52 (by decide) (by decide) (by decide)]; rw [if_neg (by omega)]; first | with_reducible rfl | (repeat (first | rw [pm_u_ne (by decide)] | rw [pm_u_eq]))) (by rw [h1 53 (by decide) (by decide) (by decide)]; rw [if_neg (by omega)]; first | with_reducible rfl | (repeat (first | rw [pm_u_ne (by decide)] | rw [pm_u_eq]))) (by rw [if_neg (by omega)]; first | with_reducible rfl | (repeat (first | rw [pm_u_ne (by decide)] | rw [pm_u_eq]))) (by rw [h1 71 (by decide) (by decide) (by decide)]; rw [if_neg (by omega)]; first | with_reducible rfl | (repeat (first | rw [pm_u_ne (by decide)] | rw [pm_u_eq]))) (by rw [if_neg (by omega)]; first | with_reducible rfl | (repeat (first | rw [pm_u_ne (by decide)] | rw [pm_u_eq]))) h3 (by rw [if_neg (by omega), h2 27 (by decide)]; first | with_reducible rfl | (repeat (first | rw [pm_u_ne (by decide)] | rw [pm_u_eq]))) (fun j hj => by rw [h1 59 (by decide) (by decide) (by decide)]; first | with_reducible rfl | (repeat (first | rw [pm_u_ne (by decide)] | rw [pm_u_eq]))) (fun j hj => by rw [h4, pm_up_ne hj]; first | with_reducible rfl | (repeat (first | rw [pm_u_ne (by decide)] | rw [pm_u_eq]))) (fun j hj => by rw [h5 j hj]; first | with_reducible rfl | (repeat (first | rw [pm_u_ne (by decide)] | rw [pm_u_eq]))))
  unfold rnA at g
  rw [if_neg (by omega)] at g
  rw [if_neg (by omega)]
  exact g
set_option maxRecDepth 20000 in
set_option maxHeartbeats 800000 in
theorem r_keep3 {l : Launch} {E : pmE} {d : Nat} {S : pmS} {I : pmI} {J : pmJ} {P : pmP} {Q : Option Value → pmS → pmI → pmJ → pmP → Prop} (hG : sh_St S) (hP : gr_St P) {A : aS} {x : sN} {v : vV} {t : List tH} {n : Nat} {tx : Nat → Nat} (hA : rA I J A) (hO : aO A) (hk : kO A x v t) (h55 : I 55 A.sn.length = nI x.form) (h56 : x.form ≠ 0 → I 56 A.sn.length = nI (A.ns.idxOf x.dec)) (h57 : I 57 A.sn.length = nI x.pa.length) (h58 : ∀ (j : Nat) (v : Int64), x.pa[j]? = some v → I 58 (3 * A.sn.length + j) = nI (A.ns.idxOf v)) (hny : x.form = 2 → ∃ m, m ≤ 60 ∧ nY I J (64 * A.sn.length) (64 * A.sn.length + m) ∧ ∃ N, I 60 A.sn.length = nI N ∧ ny I J (crN A.ns J) (64 * A.sn.length) (64 * A.sn.length + m) x.tr N) (hT : tX I 48 tx n) (hsz : I 47 2 = nI n) (hn : n ≤ 120) (hxt : x.tx = (List.range n).map tx) (hf : x.form = 3) (k : ∀ I' J', kR I J I' J' → rA I' J' (A.kp x v t) → Q (some (.int (rnA A x.form))) S I' J' P) : pm_Met l E yX10_keep cX10_keep 4 (some .int) d 0 0 [.ref 47] S I J P Q := by
  unfold pm_Met
  have hsl := hk.1
  have hf3 := hk.2.1
  have hrl := hO.2.2.2.2.2.2.2.2.2.2.2.1
  have hnl := hO.1.2
  have hix := (ns_at (hk.2.2.2.1 (by omega))).2
  refine pm_lvs (lv' := [(0, _)]) rfl ?_
  refine pw_aload_n dX10_keep_0 rfl ?_
  refine pw_getR fX10_35 dX10_keep_1 (sh_lt hG (by decide)) (sh_tg hG 45 rfl) rfl (gr_at hP 48 rfl) ?_
  refine pw_aload_n dX10_keep_4 rfl ?_
  refine pw_getI fX10_220 dX10_keep_5 (sh_lt hG (by decide)) (sh_tg hG 45 rfl) rfl ?_
  refine pw_ti (z := nI A.sn.length) (by (repeat (first | rw [pm_u_ne (by decide)] | rw [pm_u_eq, pm_up_ne (by decide)])); exact hA.k) ?_
  refine pw_ialdN A.sn.length dX10_keep_8 (sh_lt hG (by decide)) (sh_sh hG 54 rfl) (by decide) (rfl) (by omega) ?_
  refine pw_ti (z := nI (A.ns.idxOf x.dec)) (h56 (by omega)) ?_
  refine pw_istore_n (lv' := [(1, _), (0, _)]) dX10_keep_9 (by decide) rfl ?_
  refine pw_aload_n dX10_keep_10 rfl ?_
  refine pw_getR fX10_32 dX10_keep_11 (sh_lt hG (by decide)) (sh_tg hG 45 rfl) rfl (gr_at hP 47 rfl) ?_
  refine pw_aload_n dX10_keep_14 rfl ?_
  refine pw_getI fX10_220 dX10_keep_15 (sh_lt hG (by decide)) (sh_tg hG 45 rfl) rfl ?_
  refine pw_ti (z := nI A.sn.length) (by (repeat (first | rw [pm_u_ne (by decide)] | rw [pm_u_eq, pm_up_ne (by decide)])); exact hA.k) ?_
  refine pw_ialdN A.sn.length dX10_keep_18 (sh_lt hG (by decide)) (sh_sh hG 53 rfl) (by decide) (rfl) (by omega) ?_
  refine pw_ti (z := nI x.form) h55 ?_
  refine pw_istore_n (lv' := [(2, _), (1, _), (0, _)]) dX10_keep_19 (by decide) rfl ?_
  refine pw_iload_n dX10_keep_20 rfl ?_
  refine pw_ifN_ne _ (tgt := 67) dX10_keep_21 (by decide) (rfl) (by omega) (fun h21 => ?_) (fun h21 => absurd h21 (by omega))
  refine pw_aload_n dX10_keep_67 rfl ?_
  refine pw_getR fX10_17 dX10_keep_68 (sh_lt hG (by decide)) (sh_tg hG 45 rfl) rfl (gr_at hP 42 rfl) ?_
  refine pw_iload_n dX10_keep_71 rfl ?_
  refine pw_iload_n dX10_keep_72 rfl ?_
  refine pw_iastN (A.ns.idxOf x.dec) dX10_keep_73 (by decide) (sh_lt hG (by decide)) (sh_sh hG 48 rfl) (by decide) (rfl) (by omega) ?_
  refine pw_aload_n dX10_keep_74 rfl ?_
  refine pw_getR fX10_20 dX10_keep_75 (sh_lt hG (by decide)) (sh_tg hG 45 rfl) rfl (gr_at hP 43 rfl) ?_
  refine pw_iload_n dX10_keep_78 rfl ?_
  refine pw_aload_n dX10_keep_79 rfl ?_
  refine pw_getI fX10_220 dX10_keep_80 (sh_lt hG (by decide)) (sh_tg hG 45 rfl) rfl ?_
  refine pw_ti (z := nI A.sn.length) (by (repeat (first | rw [pm_u_ne (by decide)] | rw [pm_u_eq, pm_up_ne (by decide)])); exact hA.k) ?_
  refine pw_iastN (A.ns.idxOf x.dec) dX10_keep_83 (by decide) (sh_lt hG (by decide)) (sh_sh hG 49 rfl) (by decide) (rfl) (by omega) ?_
  refine pw_iload_n dX10_keep_84 rfl ?_
  refine pw_iconst (v := nI 1) dX10_keep_85 (by decide) ?_
  refine pw_icmpN_ne _ _ (tgt := 149) dX10_keep_86 (by decide) (rfl) (rfl) (by omega) (by omega) (fun h86 => ?_) (fun h86 => absurd h86 (by omega))
  refine pw_iload_n dX10_keep_149 rfl ?_
  refine pw_iconst (v := nI 3) dX10_keep_150 (by decide) ?_
  refine pw_icmpN_ne _ _ (tgt := 179) dX10_keep_151 (by decide) (rfl) (rfl) (by omega) (by omega) (fun h151 => absurd h151 (by omega)) (fun h151 => ?_)
  refine pw_aload_n dX10_keep_154 rfl ?_
  refine pw_getR fX10_23 dX10_keep_155 (sh_lt hG (by decide)) (sh_tg hG 45 rfl) rfl (gr_at hP 44 rfl) ?_
  refine pw_iload_n dX10_keep_158 rfl ?_
  refine pw_dup2 dX10_keep_159 rfl rfl ?_
  refine pw_ialdN (A.ns.idxOf x.dec) dX10_keep_160 (sh_lt hG (by decide)) (sh_sh hG 50 rfl) (by decide) (rfl) (by omega) ?_
  refine pw_iconst (v := nI 1) dX10_keep_161 (by decide) ?_
  refine pw_iadd dX10_keep_162 ?_
  refine pw_ti (z := I 52 (A.ns.idxOf x.dec) + nI 1) (by (repeat (first | rw [pm_u_ne (by decide)] | rw [pm_u_eq, pm_up_ne (by decide)]))) ?_
  refine pw_iastN (A.ns.idxOf x.dec) dX10_keep_163 (by decide) (sh_lt hG (by decide)) (sh_sh hG 50 rfl) (by decide) (rfl) (by omega) ?_
  refine pw_aload_n dX10_keep_164 rfl ?_
  refine pw_getR fX10_44 dX10_keep_165 (sh_lt hG (by decide)) (sh_tg hG 45 rfl) rfl (gr_at hP 51 rfl) ?_
  refine pw_aload_n dX10_keep_168 rfl ?_
  refine pw_getI fX10_220 dX10_keep_169 (sh_lt hG (by decide)) (sh_tg hG 45 rfl) rfl ?_
  refine pw_ti (z := nI A.sn.length) (by (repeat (first | rw [pm_u_ne (by decide)] | rw [pm_u_eq, pm_up_ne (by decide)])); exact hA.k) ?_
  refine pw_aload_n dX10_keep_172 rfl ?_
  refine pw_getR fX10_23 dX10_keep_173 (sh_lt hG (by decide)) (sh_tg hG 45 rfl) rfl (gr_at hP 44 rfl) ?_
  refine pw_iload_n dX10_keep_176 rfl ?_
  refine pw_ialdN (A.ns.idxOf x.dec) dX10_keep_177 (sh_lt hG (by decide)) (sh_sh hG 50 rfl) (by decide) (rfl) (by omega) ?_
  refine pw_ti (z := I 52 (A.ns.idxOf x.dec) + nI 1) (by rw [pm_u_eq, pm_up_eq]) ?_
  refine pw_iastN A.sn.length dX10_keep_178 (by decide) (sh_lt hG (by decide)) (sh_sh hG 57 rfl) (by decide) (rfl) (by omega) ?_
  refine r_keep_t (I := (pm_u (pm_u (pm_u (pm_u I 50 (A.ns.idxOf x.dec) (nI x.form)) 51 (A.ns.idxOf x.dec) (nI A.sn.length)) 52 (A.ns.idxOf x.dec) (I 52 (A.ns.idxOf x.dec) + nI 1)) 59 A.sn.length (I 52 (A.ns.idxOf x.dec) + nI 1))) (J := J) hG hP (kp := A.sn.length) (n := n) (form := x.form) (tx := tx) (by (repeat (first | rw [pm_u_ne (by decide)] | rw [pm_u_eq, pm_up_ne (by decide)])); exact hA.k) (by omega) (fun j hj => by rw [show (pm_u (pm_u (pm_u (pm_u I 50 (A.ns.idxOf x.dec) (nI x.form)) 51 (A.ns.idxOf x.dec) (nI A.sn.length)) 52 (A.ns.idxOf x.dec) (I 52 (A.ns.idxOf x.dec) + nI 1)) 59 A.sn.length (I 52 (A.ns.idxOf x.dec) + nI 1)) 48 = I 48 by first | with_reducible rfl | (repeat (first | rw [pm_u_ne (by decide)] | rw [pm_u_eq]))]; exact hT j hj) (by (repeat (first | rw [pm_u_ne (by decide)] | rw [pm_u_eq, pm_up_ne (by decide)])); exact hsz) hn hf3 (fun I' h1 h2 h3 h4 h5 h6 => ?_)
  have hK : kR I J I' J := ⟨fun a q1 q2 q3 q4 q5 q6 q7 => ⟨by rw [h1 a q1 q4 q5]; repeat (rw [pm_u_ne (by omega)]), by first | with_reducible rfl | (repeat (rw [pm_u_ne (by omega)]))⟩, fun j q1 q2 => by rw [h2 j q1]; first | with_reducible rfl | (repeat (first | rw [pm_u_ne (by decide)] | rw [pm_u_eq, pm_up_ne q2]))⟩
  have hx := r_new hK h55 h56 h57 h58 hny (fun q => by rw [h1 59 (by decide) (by decide) (by decide), pm_u_eq, pm_up_eq, hk.2.2.2.2.2.2.1 q, (hA.nm (hk.2.2.2.1 (by omega))).2.2.2.1]; exact nI_add _ 1) hn hxt (by rw [h4]; exact pm_up_eq) h6
  have g := k I' J hK (hA.kp hO hk hK hx (by rw [h1 50 (by decide) (by decide) (by decide)]; rw [if_neg (by omega)]; first | with_reducible rfl | (repeat (first | rw [pm_u_ne (by decide)] | rw [pm_u_eq]))) (by rw [h1 51 (by decide) (by decide) (by decide)]; rw [if_neg (by omega)]; first | with_reducible rfl | (repeat (first | rw [pm_u_ne (by decide)] | rw [pm_u_eq]))) (by rw [h1 52 (by decide) (by decide) (by decide)]; rw [if_pos (by omega)]; first | with_reducible rfl | (repeat (first | rw [pm_u_ne (by decide)] | rw [pm_u_eq]))) (by rw [h1 53 (by decide) (by decide) (by decide)]; rw [if_neg (by omega)]; first | with_reducible rfl | (repeat (first | rw [pm_u_ne (by decide)] | rw [pm_u_eq]))) (by rw [if_neg (by omega)]; first | with_reducible rfl | (repeat (first | rw [pm_u_ne (by decide)] | rw [pm_u_eq]))) (by rw [h1 71 (by decide) (by decide) (by decide)]; rw [if_neg (by omega)]; first | with_reducible rfl | (repeat (first | rw [pm_u_ne (by decide)] | rw [pm_u_eq]))) (by rw [if_neg (by omega)]; first | with_reducible rfl | (repeat (first | rw [pm_u_ne (by decide)] | rw [pm_u_eq]))) h3 (by rw [if_neg (by omega), h2 27 (by decide)]; first | with_reducible rfl | (repeat (first | rw [pm_u_ne (by decide)] | rw [pm_u_eq]))) (fun j hj => by rw [h1 59 (by decide) (by decide) (by decide), pm_u_eq, pm_up_ne hj]; first | with_reducible rfl | (repeat (first | rw [pm_u_ne (by decide)] | rw [pm_u_eq]))) (fun j hj => by rw [h4, pm_up_ne hj]; first | with_reducible rfl | (repeat (first | rw [pm_u_ne (by decide)] | rw [pm_u_eq]))) (fun j hj => by rw [h5 j hj]; first | with_reducible rfl | (repeat (first | rw [pm_u_ne (by decide)] | rw [pm_u_eq]))))
  unfold rnA at g
  rw [if_neg (by omega)] at g
  rw [if_neg (by omega)]
  exact g
theorem r_keep {l : Launch} {E : pmE} {d : Nat} {S : pmS} {I : pmI} {J : pmJ} {P : pmP} {Q : Option Value → pmS → pmI → pmJ → pmP → Prop} (hG : sh_St S) (hP : gr_St P) {A : aS} {x : sN} {v : vV} {t : List tH} {n : Nat} {tx : Nat → Nat} (hA : rA I J A) (hO : aO A) (hk : kO A x v t) (h55 : I 55 A.sn.length = nI x.form) (h56 : x.form ≠ 0 → I 56 A.sn.length = nI (A.ns.idxOf x.dec)) (h57 : I 57 A.sn.length = nI x.pa.length) (h58 : ∀ (j : Nat) (v : Int64), x.pa[j]? = some v → I 58 (3 * A.sn.length + j) = nI (A.ns.idxOf v)) (hny : x.form = 2 → ∃ m, m ≤ 60 ∧ nY I J (64 * A.sn.length) (64 * A.sn.length + m) ∧ ∃ N, I 60 A.sn.length = nI N ∧ ny I J (crN A.ns J) (64 * A.sn.length) (64 * A.sn.length + m) x.tr N) (hT : tX I 48 tx n) (hsz : I 47 2 = nI n) (hn : n ≤ 120) (hxt : x.tx = (List.range n).map tx) (hv : (x.form = 0 → I 92 0 = nI v.1 ∧ J 93 0 = v.2) ∧ (x.form = 1 → (I 60 A.sn.length = -5 ∧ v = (0, 0)) ∨ ∃ N, N < 10000 ∧ I 60 A.sn.length = nI N ∧ I 92 0 = nI v.1 ∧ J 93 0 = v.2)) (k : ∀ I' J', kR I J I' J' → rA I' J' (A.kp x v t) → Q (some (.int (rnA A x.form))) S I' J' P) : pm_Met l E yX10_keep cX10_keep 4 (some .int) d 0 0 [.ref 47] S I J P Q := by
  rcases (show x.form = 0 ∨ x.form = 1 ∨ x.form = 2 ∨ x.form = 3 by have := hk.2.1; omega) with hf | hf | hf | hf
  · exact r_keep0 hG hP hA hO hk h55 h56 h57 h58 hny hT hsz hn hxt hf (hv.1 hf) k
  · rcases hv.2 hf with ⟨g1, g2⟩ | ⟨N, g0, g1, g2⟩
    · exact r_keep1n hG hP hA hO hk h55 h56 h57 h58 hny hT hsz hn hxt hf g1 g2 k
    · exact r_keep1 hG hP hA hO hk h55 h56 h57 h58 hny hT hsz hn hxt hf g0 g1 g2 k
  · exact r_keep2 hG hP hA hO hk h55 h56 h57 h58 hny hT hsz hn hxt hf k
  · exact r_keep3 hG hP hA hO hk h55 h56 h57 h58 hny hT hsz hn hxt hf k
