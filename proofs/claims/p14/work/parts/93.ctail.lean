set_option maxRecDepth 20000 in
set_option maxHeartbeats 400000 in
theorem c_tail1 {l : Launch} {E : pmE} {d : Nat} {S : pmS} {I : pmI} {J : pmJ} {P : pmP} {Q : Option Value → pmS → pmI → pmJ → pmP → Prop} (hG : sh_St S) (hP : gr_St P) (hd : 6 ≤ d) {A : aS} {Z : Nat → Nat} {b m n : Nat} {x : sN} {v : vV} {t : List tH} {tx : Nat → Nat} {L : List dE} (hc : cA S I J P A Z b) (hO : aO A) (hk : kO A x v t) (ht : tC S I J P A t b m) (h9 : kC S I J P 9 121 L) (hL : x.form = 2 → L = cp (hN A.ns) x.tr ++ [(13, 0, 0)]) (hf : I 8 4 = nI x.form) (hdc : x.form ≠ 0 → J 8 5 = hN A.ns x.dec) (h83 : I 8 3 = nI x.pa.length) (hpa : ∀ (j : Nat) (v : Int64), x.pa[j]? = some v → J 14 j = hN A.ns v) (hT : tX I 3 tx n) (h25 : I 2 5 = nI n) (hn : n ≤ 120) (hb8 : ∀ j, j < n → tx j < 128) (hxt : x.tx = (List.range n).map tx) (hfm : x.form ≤ 1) (hv : I 34 10 = nI 1 ∧ I 36 0 = nI v.1 ∧ J 37 0 = v.2) (k : ∀ S' I' J' P' Z' (a : Int32), sh_St S' → gr_St P' → cA S' I' J' P' (A.kp x v t) Z' b → tC S' I' J' P' (A.kp x v t) t b m → oF I J P I' J' P' → a = (if x.form = 0 then nI (A.rs.length + 1) else nI 0) → Q (some (.int a)) S' I' J' P') : pm_W l E yX9_runWithoutFault cX9_runWithoutFault 2 (some .int) d 8 620 81 [(1, .int (nI x.form)), (0, .ref 2)] [] S I J P (pm_N E Q) := by
  have h96 := hG.1
  have hbd := ht.bd
  have hf3 := hk.2.1
  have hxl : x.tx.length = n := by rw [hxt, List.length_map, List.length_range]
  refine pw_aload_n dX9_runWithoutFault_81 rfl ?_
  refine pw_getR fX9_32 dX9_runWithoutFault_82 (sh_lt hG (by decide)) (sh_tg hG 0 rfl) rfl (gr_at hP 3 rfl) ?_
  refine pw_aload_n dX9_runWithoutFault_85 rfl ?_
  refine pw_getR fX9_25 dX9_runWithoutFault_86 (sh_lt hG (by decide)) (sh_tg hG 0 rfl) rfl (gr_at hP 2 rfl) ?_
  refine pw_aload_n dX9_runWithoutFault_89 rfl ?_
  refine pw_getR fX9_9 dX9_runWithoutFault_90 (sh_lt hG (by decide)) (sh_tg hG 0 rfl) rfl (gr_at hP 0 rfl) ?_
  refine pw_aload_n dX9_runWithoutFault_93 rfl ?_
  refine pw_getI fX9_49 dX9_runWithoutFault_94 (sh_lt hG (by decide)) (sh_tg hG 0 rfl) rfl ?_
  refine pw_ti (z := nI n) h25 ?_
  refine pw_callS (as := [_, _]) (kc' := 1) (ks' := n) lX9_212 dX9_runWithoutFault_97 rfl rfl (Nat.le_of_ble_eq_true rfl) (by omega) (Nat.le_of_ble_eq_true rfl) (by omega) (by omega) ?_
  refine cp_B (by omega) (sh_lt hG (by decide)) (by omega) (sh_sh hG 1 rfl) hn (by decide) (fun j hj => by rw [hT j hj]; exact fit_b (hb8 j hj)) (fun I1 hi1 hx1 => ?_)
  obtain ⟨S1, hS1⟩ : ∃ S9, S9 = pm_new S 102 n := ⟨_, rfl⟩
  rw [← hS1]
  have hl1 : S1.1 = S.1 + 1 := by rw [hS1, pn_1]
  have ht1 : S1.2 S.1 = (102, n) := by rw [hS1]; exact pn_eq
  have hF1 : nF S I J P S1 I1 J P := ⟨by omega, fun a ha => by rw [hS1, pn_ne (by omega)], fun a ha => ⟨hi1 a (by omega), rfl, rfl⟩⟩
  have hG1 : sh_St S1 := by rw [hS1]; exact hG.new _ _
  have hG := hG1
  refine pw_callV (as := [_]) (kc' := 7) (ks' := 500) lX9_218 dX9_runWithoutFault_100 rfl rfl (sh_lt hG (by decide)) (sh_tg hG 6 rfl) (Nat.le_of_ble_eq_true rfl) (by omega) (Nat.le_of_ble_eq_true rfl) (by omega) (by omega) ?_
  refine c_snippet (z := S.1) (ns := A.ns) (x := x) hG hP (by omega) (by omega) (by omega) (h9.nF hF1) hL (by rw [hi1 8 (by omega)]; exact hf) hdc (by rw [hi1 8 (by omega)]; exact h83) hk.2.2.1 hpa (by rw [hxl]; exact ht1) (by omega) (fun j y hj => ?_) (fun S2 I2 J2 P2 hF2 hl2 hG2 hP2 hx2 => ?_)
  · rw [hxt, List.getElem?_map] at hj
    obtain ⟨i, hi, hiy⟩ := Option.map_eq_some_iff.mp hj
    obtain ⟨h1, h2⟩ := List.getElem?_eq_some_iff.mp hi
    rw [List.length_range] at h1
    rw [List.getElem_range] at h2
    rw [hx1 j h1, hT j h1, ← hiy, ← h2]
  have hG := hG2
  have hP := hP2
  have hF := hF1.trans hF2
  refine pw_aload_n dX9_runWithoutFault_103 rfl ?_
  refine pw_getR fX9_41 dX9_runWithoutFault_104 (sh_lt hG (by decide)) (sh_tg hG 0 rfl) rfl (gr_at hP 4 rfl) ?_
  refine pw_callV (as := []) (kc' := 0) (ks' := 0) lX9_222 dX9_runWithoutFault_107 rfl rfl (sh_lt hG (by decide)) (sh_tg hG 32 rfl) (Nat.le_of_ble_eq_true rfl) (by omega) (Nat.le_of_ble_eq_true rfl) (Nat.zero_le _) (Nat.zero_le _) ?_
  unfold pm_Met
  refine pm_lvs (lv' := [(0, _)]) rfl ?_
  refine pw_aload_n dX1_valueKind_0 rfl ?_
  refine pw_getR fX1_14 dX1_valueKind_1 (sh_lt hG (by decide)) (sh_tg hG 32 rfl) rfl (gr_at hP 29 rfl) ?_
  refine pw_aload_n dX1_valueKind_4 rfl ?_
  refine pw_getI fX1_56 dX1_valueKind_5 (sh_lt hG (by decide)) (sh_tg hG 32 rfl) rfl ?_
  refine pw_iconst (v := nI 1) dX1_valueKind_8 (by decide) ?_
  refine pw_isub dX1_valueKind_9 ?_
  refine pw_ti (z := nI 0) (by rw [(hF.2.2 34 (by omega)).1, hv.1]; rfl) ?_
  refine pw_callV (as := [_]) (kc' := 0) (ks' := 0) lX1_59 dX1_valueKind_10 rfl rfl (sh_lt hG (by decide)) (sh_tg hG 33 rfl) (Nat.le_of_ble_eq_true rfl) (by omega) (Nat.le_of_ble_eq_true rfl) (Nat.zero_le _) (Nat.zero_le _) ?_
  refine v_kind35 (i := 0) hG hP (by decide) ?_
  refine pw_iret dX1_valueKind_13 rfl ?_
  refine pw_aload_n dX9_runWithoutFault_110 rfl ?_
  refine pw_getR fX9_41 dX9_runWithoutFault_111 (sh_lt hG (by decide)) (sh_tg hG 0 rfl) rfl (gr_at hP 4 rfl) ?_
  refine pw_callV (as := []) (kc' := 0) (ks' := 0) lX9_225 dX9_runWithoutFault_114 rfl rfl (sh_lt hG (by decide)) (sh_tg hG 32 rfl) (Nat.le_of_ble_eq_true rfl) (by omega) (Nat.le_of_ble_eq_true rfl) (Nat.zero_le _) (Nat.zero_le _) ?_
  unfold pm_Met
  refine pm_lvs (lv' := [(0, _)]) rfl ?_
  refine pw_aload_n dX1_valueCore_0 rfl ?_
  refine pw_getR fX1_14 dX1_valueCore_1 (sh_lt hG (by decide)) (sh_tg hG 32 rfl) rfl (gr_at hP 29 rfl) ?_
  refine pw_aload_n dX1_valueCore_4 rfl ?_
  refine pw_getI fX1_56 dX1_valueCore_5 (sh_lt hG (by decide)) (sh_tg hG 32 rfl) rfl ?_
  refine pw_iconst (v := nI 1) dX1_valueCore_8 (by decide) ?_
  refine pw_isub dX1_valueCore_9 ?_
  refine pw_ti (z := nI 0) (by rw [(hF.2.2 34 (by omega)).1, hv.1]; rfl) ?_
  refine pw_callV (as := [_]) (kc' := 0) (ks' := 0) lX1_63 dX1_valueCore_10 rfl rfl (sh_lt hG (by decide)) (sh_tg hG 33 rfl) (Nat.le_of_ble_eq_true rfl) (by omega) (Nat.le_of_ble_eq_true rfl) (Nat.zero_le _) (Nat.zero_le _) ?_
  refine v_core35 (i := 0) hG hP (by decide) ?_
  refine pw_lret dX1_valueCore_13 rfl ?_
  refine pw_callV (as := [_, _, _]) (kc' := 0) (ks' := 0) lX9_229 dX9_runWithoutFault_117 rfl rfl (sh_lt hG (by decide)) (sh_tg hG 13 rfl) (Nat.le_of_ble_eq_true rfl) (by omega) (Nat.le_of_ble_eq_true rfl) (Nat.zero_le _) (Nat.zero_le _) ?_
  refine c_keep (x := x) (v := v) (t := t) hG hP (by omega) (hc.zF (by omega) hF.zF) hO hk hx2 (Or.inr hbd.2) (fun _ => ⟨by rw [(hF.2.2 36 (by omega)).1]; exact hv.2.1, by rw [(hF.2.2 37 (by omega)).2.1]; exact hv.2.2⟩) (fun I3 J3 P3 hP3 hK3 hc3 => ?_)
  have hP := hP3
  refine pw_iload_n dX9_runWithoutFault_120 rfl ?_
  refine pw_ifN_ne _ (tgt := 134) dX9_runWithoutFault_121 (by decide) (rfl) (by omega) (fun h121 => ?_) (fun h121 => ?_)
  · refine pw_iconst (v := nI 0) dX9_runWithoutFault_134 (by decide) ?_
    exact pw_iret dX9_runWithoutFault_135 rfl (k _ _ _ _ _ _ hG hP hc3 ((ht.zF (by omega) hF.zF).kp hk hK3) ((hF.oF h96).trans hK3.oF) (by rw [if_neg (by omega)]))
  · refine pw_aload_n dX9_runWithoutFault_124 rfl ?_
    refine pw_getR fX9_32 dX9_runWithoutFault_125 (sh_lt hG (by decide)) (sh_tg hG 0 rfl) rfl (gr_at hP 3 rfl) ?_
    refine pw_callV (as := []) (kc' := 0) (ks' := 0) lX9_173 dX9_runWithoutFault_128 rfl rfl (sh_lt hG (by decide)) (sh_tg hG 13 rfl) (Nat.le_of_ble_eq_true rfl) (by omega) (Nat.le_of_ble_eq_true rfl) (Nat.zero_le _) (Nat.zero_le _) ?_
    unfold pm_Met
    refine pm_lvs (lv' := [(0, _)]) rfl ?_
    refine pw_aload_n dX4_resultCount_0 rfl ?_
    refine pw_getI fX4_53 dX4_resultCount_1 (sh_lt hG (by decide)) (sh_tg hG 13 rfl) rfl ?_
    refine pw_iret dX4_resultCount_4 rfl ?_
    refine pw_goto (tgt := 135) dX9_runWithoutFault_131 (by decide) ?_
    exact pw_iret dX9_runWithoutFault_135 rfl (k _ _ _ _ _ _ hG hP hc3 ((ht.zF (by omega) hF.zF).kp hk hK3) ((hF.oF h96).trans hK3.oF) (by rw [if_pos (by omega), hc3.r, kp_rs, if_pos (by omega), List.length_append, List.length_singleton]))
set_option maxRecDepth 20000 in
set_option maxHeartbeats 400000 in
theorem c_tail2 {l : Launch} {E : pmE} {d : Nat} {S : pmS} {I : pmI} {J : pmJ} {P : pmP} {Q : Option Value → pmS → pmI → pmJ → pmP → Prop} (hG : sh_St S) (hP : gr_St P) (hd : 6 ≤ d) {A : aS} {Z : Nat → Nat} {b m n : Nat} {x : sN} {v : vV} {t : List tH} {tx : Nat → Nat} {L : List dE} (hc : cA S I J P A Z b) (hO : aO A) (hk : kO A x v t) (ht : tC S I J P A t b m) (h9 : kC S I J P 9 121 L) (hL : x.form = 2 → L = cp (hN A.ns) x.tr ++ [(13, 0, 0)]) (hf : I 8 4 = nI x.form) (hdc : x.form ≠ 0 → J 8 5 = hN A.ns x.dec) (h83 : I 8 3 = nI x.pa.length) (hpa : ∀ (j : Nat) (v : Int64), x.pa[j]? = some v → J 14 j = hN A.ns v) (hT : tX I 3 tx n) (h25 : I 2 5 = nI n) (hn : n ≤ 120) (hb8 : ∀ j, j < n → tx j < 128) (hxt : x.tx = (List.range n).map tx) (hfm : 2 ≤ x.form) (k : ∀ S' I' J' P' Z' (a : Int32), sh_St S' → gr_St P' → cA S' I' J' P' (A.kp x v t) Z' b → tC S' I' J' P' (A.kp x v t) t b m → oF I J P I' J' P' → a = (if x.form = 0 then nI (A.rs.length + 1) else nI 0) → Q (some (.int a)) S' I' J' P') : pm_W l E yX9_runWithoutFault cX9_runWithoutFault 2 (some .int) d 8 620 81 [(1, .int (nI x.form)), (0, .ref 2)] [] S I J P (pm_N E Q) := by
  have h96 := hG.1
  have hbd := ht.bd
  have hf3 := hk.2.1
  have hxl : x.tx.length = n := by rw [hxt, List.length_map, List.length_range]
  refine pw_aload_n dX9_runWithoutFault_81 rfl ?_
  refine pw_getR fX9_32 dX9_runWithoutFault_82 (sh_lt hG (by decide)) (sh_tg hG 0 rfl) rfl (gr_at hP 3 rfl) ?_
  refine pw_aload_n dX9_runWithoutFault_85 rfl ?_
  refine pw_getR fX9_25 dX9_runWithoutFault_86 (sh_lt hG (by decide)) (sh_tg hG 0 rfl) rfl (gr_at hP 2 rfl) ?_
  refine pw_aload_n dX9_runWithoutFault_89 rfl ?_
  refine pw_getR fX9_9 dX9_runWithoutFault_90 (sh_lt hG (by decide)) (sh_tg hG 0 rfl) rfl (gr_at hP 0 rfl) ?_
  refine pw_aload_n dX9_runWithoutFault_93 rfl ?_
  refine pw_getI fX9_49 dX9_runWithoutFault_94 (sh_lt hG (by decide)) (sh_tg hG 0 rfl) rfl ?_
  refine pw_ti (z := nI n) h25 ?_
  refine pw_callS (as := [_, _]) (kc' := 1) (ks' := n) lX9_212 dX9_runWithoutFault_97 rfl rfl (Nat.le_of_ble_eq_true rfl) (by omega) (Nat.le_of_ble_eq_true rfl) (by omega) (by omega) ?_
  refine cp_B (by omega) (sh_lt hG (by decide)) (by omega) (sh_sh hG 1 rfl) hn (by decide) (fun j hj => by rw [hT j hj]; exact fit_b (hb8 j hj)) (fun I1 hi1 hx1 => ?_)
  obtain ⟨S1, hS1⟩ : ∃ S9, S9 = pm_new S 102 n := ⟨_, rfl⟩
  rw [← hS1]
  have hl1 : S1.1 = S.1 + 1 := by rw [hS1, pn_1]
  have ht1 : S1.2 S.1 = (102, n) := by rw [hS1]; exact pn_eq
  have hF1 : nF S I J P S1 I1 J P := ⟨by omega, fun a ha => by rw [hS1, pn_ne (by omega)], fun a ha => ⟨hi1 a (by omega), rfl, rfl⟩⟩
  have hG1 : sh_St S1 := by rw [hS1]; exact hG.new _ _
  have hG := hG1
  refine pw_callV (as := [_]) (kc' := 7) (ks' := 500) lX9_218 dX9_runWithoutFault_100 rfl rfl (sh_lt hG (by decide)) (sh_tg hG 6 rfl) (Nat.le_of_ble_eq_true rfl) (by omega) (Nat.le_of_ble_eq_true rfl) (by omega) (by omega) ?_
  refine c_snippet (z := S.1) (ns := A.ns) (x := x) hG hP (by omega) (by omega) (by omega) (h9.nF hF1) hL (by rw [hi1 8 (by omega)]; exact hf) hdc (by rw [hi1 8 (by omega)]; exact h83) hk.2.2.1 hpa (by rw [hxl]; exact ht1) (by omega) (fun j y hj => ?_) (fun S2 I2 J2 P2 hF2 hl2 hG2 hP2 hx2 => ?_)
  · rw [hxt, List.getElem?_map] at hj
    obtain ⟨i, hi, hiy⟩ := Option.map_eq_some_iff.mp hj
    obtain ⟨h1, h2⟩ := List.getElem?_eq_some_iff.mp hi
    rw [List.length_range] at h1
    rw [List.getElem_range] at h2
    rw [hx1 j h1, hT j h1, ← hiy, ← h2]
  have hG := hG2
  have hP := hP2
  have hF := hF1.trans hF2
  refine pw_aload_n dX9_runWithoutFault_103 rfl ?_
  refine pw_getR fX9_41 dX9_runWithoutFault_104 (sh_lt hG (by decide)) (sh_tg hG 0 rfl) rfl (gr_at hP 4 rfl) ?_
  refine pw_callV (as := []) (kc' := 0) (ks' := 0) lX9_222 dX9_runWithoutFault_107 rfl rfl (sh_lt hG (by decide)) (sh_tg hG 32 rfl) (Nat.le_of_ble_eq_true rfl) (by omega) (Nat.le_of_ble_eq_true rfl) (Nat.zero_le _) (Nat.zero_le _) ?_
  unfold pm_Met
  refine pm_lvs (lv' := [(0, _)]) rfl ?_
  refine pw_aload_n dX1_valueKind_0 rfl ?_
  refine pw_getR fX1_14 dX1_valueKind_1 (sh_lt hG (by decide)) (sh_tg hG 32 rfl) rfl (gr_at hP 29 rfl) ?_
  refine pw_aload_n dX1_valueKind_4 rfl ?_
  refine pw_getI fX1_56 dX1_valueKind_5 (sh_lt hG (by decide)) (sh_tg hG 32 rfl) rfl ?_
  refine pw_iconst (v := nI 1) dX1_valueKind_8 (by decide) ?_
  refine pw_isub dX1_valueKind_9 ?_
  refine pw_callV (as := [_]) (kc' := 0) (ks' := 0) lX1_59 dX1_valueKind_10 rfl rfl (sh_lt hG (by decide)) (sh_tg hG 33 rfl) (Nat.le_of_ble_eq_true rfl) (by omega) (Nat.le_of_ble_eq_true rfl) (Nat.zero_le _) (Nat.zero_le _) ?_
  refine v_kindX hG hP (fun w1 => ?_)
  refine pw_iret dX1_valueKind_13 rfl ?_
  refine pw_aload_n dX9_runWithoutFault_110 rfl ?_
  refine pw_getR fX9_41 dX9_runWithoutFault_111 (sh_lt hG (by decide)) (sh_tg hG 0 rfl) rfl (gr_at hP 4 rfl) ?_
  refine pw_callV (as := []) (kc' := 0) (ks' := 0) lX9_225 dX9_runWithoutFault_114 rfl rfl (sh_lt hG (by decide)) (sh_tg hG 32 rfl) (Nat.le_of_ble_eq_true rfl) (by omega) (Nat.le_of_ble_eq_true rfl) (Nat.zero_le _) (Nat.zero_le _) ?_
  unfold pm_Met
  refine pm_lvs (lv' := [(0, _)]) rfl ?_
  refine pw_aload_n dX1_valueCore_0 rfl ?_
  refine pw_getR fX1_14 dX1_valueCore_1 (sh_lt hG (by decide)) (sh_tg hG 32 rfl) rfl (gr_at hP 29 rfl) ?_
  refine pw_aload_n dX1_valueCore_4 rfl ?_
  refine pw_getI fX1_56 dX1_valueCore_5 (sh_lt hG (by decide)) (sh_tg hG 32 rfl) rfl ?_
  refine pw_iconst (v := nI 1) dX1_valueCore_8 (by decide) ?_
  refine pw_isub dX1_valueCore_9 ?_
  refine pw_callV (as := [_]) (kc' := 0) (ks' := 0) lX1_63 dX1_valueCore_10 rfl rfl (sh_lt hG (by decide)) (sh_tg hG 33 rfl) (Nat.le_of_ble_eq_true rfl) (by omega) (Nat.le_of_ble_eq_true rfl) (Nat.zero_le _) (Nat.zero_le _) ?_
  refine v_coreX hG hP (fun w2 => ?_)
  refine pw_lret dX1_valueCore_13 rfl ?_
  refine pw_callV (as := [_, _, _]) (kc' := 0) (ks' := 0) lX9_229 dX9_runWithoutFault_117 rfl rfl (sh_lt hG (by decide)) (sh_tg hG 13 rfl) (Nat.le_of_ble_eq_true rfl) (by omega) (Nat.le_of_ble_eq_true rfl) (Nat.zero_le _) (Nat.zero_le _) ?_
  refine c_keep (x := x) (v := v) (t := t) hG hP (by omega) (hc.zF (by omega) hF.zF) hO hk hx2 (Or.inr hbd.2) (fun q => absurd q (by omega)) (fun I3 J3 P3 hP3 hK3 hc3 => ?_)
  have hP := hP3
  refine pw_iload_n dX9_runWithoutFault_120 rfl ?_
  refine pw_ifN_ne _ (tgt := 134) dX9_runWithoutFault_121 (by decide) (rfl) (by omega) (fun h121 => ?_) (fun h121 => absurd h121 (by omega))
  refine pw_iconst (v := nI 0) dX9_runWithoutFault_134 (by decide) ?_
  exact pw_iret dX9_runWithoutFault_135 rfl (k _ _ _ _ _ _ hG hP hc3 ((ht.zF (by omega) hF.zF).kp hk hK3) ((hF.oF h96).trans hK3.oF) (by rw [if_neg (by omega)]))
