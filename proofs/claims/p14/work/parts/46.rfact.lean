section QS2
variable {tx : Nat → Nat} {n i kp : Nat} {I : pmI} {J : pmJ} {a op T m : Nat}
theorem qs.na (h : qs tx n i kp I J a op T m) {b j : Nat} (h1 : b = 67) (x : Int32) : qs tx n i kp (pm_u I b j x) J a op T m := by
  have e : pm_u I b j x 47 = I 47 := pm_u_ne (by omega)
  exact ⟨h.1.fq' (fq.nod (T := 0) (K := 0) (by omega) (by omega) (Nat.zero_le _)), by rw [e]; exact h.2.1, by rw [e]; exact h.2.2.1, by rw [e]; exact h.2.2.2.1, by rw [e]; exact h.2.2.2.2.1, by rw [e]; exact h.2.2.2.2.2.1, by rw [e]; exact h.2.2.2.2.2.2.1, h.2.2.2.2.2.2.2.mv (fun a h3 h4 k _ => by rw [pm_u_ne (by omega)])⟩
theorem qs.arg (h : qs tx n i kp I J a op T m) {b c j g : Nat} (hb : b = 64 + g) (hc : c = g + 1) (hg : g ≤ 2) (h63 : I 63 j = nI 3) (h69 : I 69 j = nI g) {x : Int32} (hx : nch (64 * kp) (64 * kp + m) x) : qs tx n i kp (pm_u (pm_u I b j x) 69 j (nI c)) J a op T m := by
  have e47 : pm_u (pm_u I b j x) 69 j (nI c) 47 = I 47 := by rw [pm_u_ne (by decide), pm_u_ne (by omega)]
  have hf : fq 0 0 I (pm_u (pm_u I b j x) 69 j (nI c)) J J := (fq.nod (T := 0) (K := 0) (by omega) (by omega) (Nat.zero_le _)).trans (fq.nod (T := 0) (K := 0) (by decide) (by decide) (Nat.zero_le _)) (Nat.le_refl _) (Nat.le_refl _)
  have e0 : ∀ a', a' ≠ b → a' ≠ 69 → pm_u (pm_u I b j x) 69 j (nI c) a' = I a' := fun a' q1 q2 => by rw [pm_u_ne q2, pm_u_ne q1]
  have e1 : ∀ a' k, k ≠ j → pm_u (pm_u I b j x) 69 j (nI c) a' k = I a' k := fun a' k q => by
    by_cases q1 : a' = 69
    · subst q1; rw [pm_u_eq, pm_up_ne q, pm_u_ne (by omega)]
    · rw [pm_u_ne q1]
      by_cases q2 : a' = b
      · subst q2; rw [pm_u_eq, pm_up_ne q]
      · rw [pm_u_ne q2]
  have eb : pm_u (pm_u I b j x) 69 j (nI c) b j = x := by rw [pm_u_ne (by omega), pm_u_eq, pm_up_eq]
  have e69 : pm_u (pm_u I b j x) 69 j (nI c) 69 j = nI c := by rw [pm_u_eq, pm_up_eq]
  refine ⟨h.1.fq' hf, by rw [e47]; exact h.2.1, by rw [e47]; exact h.2.2.1, by rw [e47]; exact h.2.2.2.1, by rw [e47]; exact h.2.2.2.2.1, by rw [e47]; exact h.2.2.2.2.2.1, by rw [e47]; exact h.2.2.2.2.2.2.1, ⟨fun k h3 h4 c' h5 h6 => ?_, fun k h3 h4 => by rw [e0 68 (by omega) (by decide)]; exact h.2.2.2.2.2.2.2.1.2 k h3 h4⟩, fun k h3 h4 => by rw [e0 63 (by omega) (by decide), e0 68 (by omega) (by decide)]; exact h.2.2.2.2.2.2.2.2.1 k h3 h4, fun k h3 h4 => ?_⟩
  · by_cases hk : k = j
    · subst hk
      by_cases hc' : c' = b
      · subst hc'; rw [eb]; exact hx
      · rw [e0 c' hc' (by omega)]; exact h.2.2.2.2.2.2.2.1.1 k h3 h4 c' h5 h6
    · rw [e1 c' k hk]; exact h.2.2.2.2.2.2.2.1.1 k h3 h4 c' h5 h6
  · have gg := h.2.2.2.2.2.2.2.2.2 k h3 h4
    by_cases hk : k = j
    · subst hk
      rw [e0 63 (by omega) (by decide), h63]
      refine ⟨fun q => absurd q (by decide), fun q => absurd q (by decide), fun q => absurd q (by decide), fun _ => ⟨g + 1, by omega, by rw [e69, hc], fun a' a1 a2 => ?_⟩⟩
      obtain ⟨g', y1, y2, y3⟩ := gg.2.2.2 h63
      have eg : g' = g := (nI_eq (by omega) (by omega)).mp (y2.symm.trans h69)
      rw [e0 a' (by omega) (by omega)]
      exact y3 a' (by omega) a2
    · rw [e1 63 k hk, e1 64 k hk, e1 65 k hk, e1 66 k hk, e1 69 k hk]
      refine ⟨gg.1, gg.2.1, gg.2.2.1, fun q => ?_⟩
      obtain ⟨g', y1, y2, y3⟩ := gg.2.2.2 q
      exact ⟨g', y1, y2, fun a' a1 a2 => by rw [e1 a' k hk]; exact y3 a' a1 a2⟩
theorem qs.nt (h : qs tx n i kp I J a op T m) {j t : Nat} (ht : t ≤ 61) (hj : ¬ (I 63 j = nI 2 ∨ I 63 j = nI 3)) : qs tx n i kp (pm_u I 68 j (nI t)) J a op T m := by
  have e : pm_u I 68 j (nI t) 47 = I 47 := pm_u_ne (by decide)
  refine ⟨h.1.fq' (fq.nod (T := 0) (K := 0) (by decide) (by decide) (Nat.zero_le _)), by rw [e]; exact h.2.1, by rw [e]; exact h.2.2.1, by rw [e]; exact h.2.2.2.1, by rw [e]; exact h.2.2.2.2.1, by rw [e]; exact h.2.2.2.2.2.1, by rw [e]; exact h.2.2.2.2.2.2.1, ⟨fun k h3 h4 c h5 h6 => by rw [pm_u_ne (by omega)]; exact h.2.2.2.2.2.2.2.1.1 k h3 h4 c h5 h6, fun k h3 h4 => ?_⟩, fun k h3 h4 h63 => ?_, h.2.2.2.2.2.2.2.2.2.mv (fun a h5 h6 k _ => by rw [pm_u_ne (by omega)])⟩
  · rw [pm_u_eq]
    by_cases hk : k = j
    · subst hk; rw [pm_up_eq]; exact ⟨t, ht, rfl⟩
    · rw [pm_up_ne hk]; exact h.2.2.2.2.2.2.2.1.2 k h3 h4
  · rw [pm_u_ne (by decide)] at h63
    rw [pm_u_eq]
    by_cases hk : k = j
    · subst hk; exact absurd h63 hj
    · rw [pm_up_ne hk]; exact h.2.2.2.2.2.2.2.2.1 k h3 h4 h63
end QS2
theorem pm_us {α : Type} {I : Nat → Nat → α} {a k : Nat} {x : α} (h : x = I a k) : pm_u I a k x = I := by
  subst h
  funext b j
  by_cases hb : b = a
  · subst hb
    rw [pm_u_eq]
    by_cases hj : j = k
    · subst hj; rw [pm_up_eq]
    · rw [pm_up_ne hj]
  · rw [pm_u_ne hb]
section QC
variable (l : Launch) (E : pmE) (S : pmS) (P : pmP) (d : Nat) (Q : Option Value → pmS → pmI → pmJ → pmP → Prop) (tx : Nat → Nat) (n i kp : Nat) (pa : List Int64) (f : Nat)
/-- what is known of a call's node while its EXPRS are read -/
def qN (I : pmI) (J : pmJ) (m m0 nm g : Nat) (M1 M2 : List dD) : Prop := I 63 (64 * kp + m0) = nI 3 ∧ I 67 (64 * kp + m0) = nI (tk_p tx n nm) ∧ crT tx n I (64 * kp + m0) (tk_v tx n nm) ∧ I 69 (64 * kp + m0) = nI g ∧ ((g < 1 ∧ M1 = []) ∨ (1 ≤ g ∧ ∃ c, I 64 (64 * kp + m0) = nI c ∧ nT tx n kp pa I J (m0 + 1) m (m - m0 - 1) c M1)) ∧ ((g < 2 ∧ M2 = []) ∨ (2 ≤ g ∧ ∃ c, I 65 (64 * kp + m0) = nI c ∧ nT tx n kp pa I J (m0 + 1) m (m - m0 - 1) c M2))
/-- an EXPR of a call is read at frame T + 1 -/
def qC : Prop := ∀ (g a op T m a0 m0 nm : Nat) (M1 M2 : List dD) (I : pmI) (J : pmJ) (r : Except Nat (Nat × List dD)), g ≤ 2 → qs tx n i kp I J a (op + 1) (T + 2) m → I 80 T = nI 5 → I 81 T = nI 2 → I 82 T = nI (64 * kp + m0) → I 80 (T + 1) = nI 0 → I 81 (T + 1) = nI 0 → qN tx n kp pa I J m m0 nm g M1 M2 → (m0 < m ∧ m + a0 < m0 + a) → op < 12 → T + 6 * (13 - op) + 1 ≤ 200 → ps (tk_k tx n) (tk_p tx n) (tk_v tx n) pa f 15 a (op + 1) (M1 ++ M2) (4 * nm + g) = some r → qK1 tx n i kp pa (LH l E S P d Q) a0 m0 T (64 * kp + m0) op I J r → qK0 tx n kp (LH l E S P d Q) I J r → LH l E S P d Q I J
end QC
theorem nT.up' {tx : Nat → Nat} {n kp c m f N : Nat} {pa : List Int64} {I I' : pmI} {J J' : pmJ} {L : List dD} (h : nT tx n kp pa I J (c + 1) m f N L) (hI : ∀ a k, 63 ≤ a → a ≤ 69 → k ≠ 64 * kp + c → I' a k = I a k) (hJ : J' = J) : nT tx n kp pa I' J' (c + 1) m f N L :=
  nd.mv (Nat.le_refl _) (Nat.le_refl _) (fun a k h1 h2 h3 _ => hI a k h1 h2 (by omega)) (fun k _ _ => by rw [hJ]) (fun k v h3 _ ⟨t, h5, h6, h7⟩ => ⟨t, h5, by rw [hI 68 k (by decide) (by decide) (by omega)]; exact h6, h7⟩) f f N L (Nat.le_refl _) h
set_option maxRecDepth 20000 in
set_option maxHeartbeats 4000000 in
theorem t_qX4 {l : Launch} {E : pmE} {S : pmS} {P : pmP} {d : Nat} {Q : Option Value → pmS → pmI → pmJ → pmP → Prop} {tx : Nat → Nat} {n i kp : Nat} {pa : List Int64} {f : Nat} (hG : sh_St S) (hP : gr_St P) (hb : ∀ j, j < n → tx j < 128) (hd : 6 ≤ d) (h4 : qX l E S P d Q tx n i kp pa f 4) (h5 : qX l E S P d Q tx n i kp pa f 5) (hD : qD l E S P d Q tx n i kp pa f) : qX l E S P d Q tx n i kp pa (f + 1) 4 := by
  intro a op T m I J r hs hk he ho hT hr k1 k0
  have hkp := hs.2.1.2
  have hi6 := hs.1.2.1
  have hai := hs.2.2.1.2
  have hma := hs.2.2.2.2.2.2.1.2
  have hkc := (rk_c (tk_k_c (tx := tx) (n := n) (i := a) hb).1)
  rw [ps_4] at hr
  unfold LH
  refine pw_aload_n dX10_readExpr_10 rfl ?_
  refine pw_getI fX10_213 dX10_readExpr_11 (sh_lt hG (by decide)) (sh_tg hG 45 rfl) rfl ?_
  refine pw_ifN_le _ (tgt := 204) dX10_readExpr_14 (by decide) (hs.2.2.2.2.2.1.1) (by omega) (fun h14 => absurd h14 (by omega)) (fun h14 => ?_)
  refine pw_aload_n dX10_readExpr_17 rfl ?_
  refine pw_getI fX10_197 dX10_readExpr_18 (sh_lt hG (by decide)) (sh_tg hG 45 rfl) rfl ?_
  refine pw_if_ge (tgt := 204) dX10_readExpr_21 (by decide) (fun h => absurd h (by rw [hs.2.2.2.1]; decide)) (fun h21 => ?_)
  refine pw_aload_n dX10_readExpr_24 rfl ?_
  refine pw_getI fX10_213 dX10_readExpr_25 (sh_lt hG (by decide)) (sh_tg hG 45 rfl) rfl ?_
  refine pw_iconst (v := nI 1) dX10_readExpr_28 (by decide) ?_
  refine pw_isub dX10_readExpr_29 ?_
  refine pw_ti (z := nI T) (by rw [hs.2.2.2.2.2.1.1]; exact nI_pred T) ?_
  refine pw_istore_n (lv' := [(1, _), (0, _)]) dX10_readExpr_30 (by decide) rfl ?_
  refine pw_aload_n dX10_readExpr_31 rfl ?_
  refine pw_getR fX10_108 dX10_readExpr_32 (sh_lt hG (by decide)) (sh_tg hG 45 rfl) rfl (gr_at hP 72 rfl) ?_
  refine pw_iload_n dX10_readExpr_35 rfl ?_
  refine pw_ialdN T dX10_readExpr_36 (sh_lt hG (by decide)) (sh_sh hG 78 rfl) (by decide) (rfl) (by omega) ?_
  refine pw_ti (z := nI 4) hk ?_
  refine pw_tableIn (off := 151) (tgt := 188) dX10_readExpr_37 (by decide) (by decide) (by decide) (by decide) ?_
  refine pw_aload_n dX10_readExpr_188 rfl ?_
  refine pw_iload_n dX10_readExpr_189 rfl ?_
  refine pw_callV (as := [_]) (kc' := 0) (ks' := 0) lX10_257 dX10_readExpr_190 rfl rfl (sh_lt hG (by decide)) (sh_tg hG 45 rfl) (Nat.le_of_ble_eq_true rfl) (by omega) (Nat.le_of_ble_eq_true rfl) (Nat.zero_le _) (Nat.zero_le _) ?_
  unfold pm_Met
  refine pm_lvs (lv' := [(0, _), (1, _)]) rfl ?_
  refine pw_aload_n dX10_fact_0 rfl ?_
  refine pw_getR fX10_111 dX10_fact_1 (sh_lt hG (by decide)) (sh_tg hG 45 rfl) rfl (gr_at hP 73 rfl) ?_
  refine pw_iload_n dX10_fact_4 rfl ?_
  refine pw_ialdN T dX10_fact_5 (sh_lt hG (by decide)) (sh_sh hG 79 rfl) (by decide) (rfl) (by omega) ?_
  refine pw_ti (z := nI 0) he ?_
  refine pw_lookup (off := 26) (tgt := 32) dX10_fact_6 (by decide) (by decide) (by decide) ?_
  refine pw_aload_n dX10_fact_32 rfl ?_
  refine pw_callV (as := []) (kc' := 0) (ks' := 0) lX10_200 dX10_fact_33 rfl rfl (sh_lt hG (by decide)) (sh_tg hG 45 rfl) (Nat.le_of_ble_eq_true rfl) (by omega) (Nat.le_of_ble_eq_true rfl) (Nat.zero_le _) (Nat.zero_le _) ?_
  refine c_X10_tok hG hP hs ?_
  refine pw_bipush (v := nI 45) dX10_fact_36 (by decide) ?_
  refine pw_icmpN_ne _ _ (tgt := 67) dX10_fact_38 (by decide) (rfl) (rfl) (by omega) (by omega) (fun hX10_fact_38 => ?_) (fun hX10_fact_38 => ?_)
  · rw [if_neg (fun q => hX10_fact_38 ((rq45 hb).mpr q))] at hr
    refine pw_aload_n dX10_fact_67 rfl ?_
    refine pw_iconst (v := nI 2) dX10_fact_68 (by decide) ?_
    refine pw_iconst (v := nI 5) dX10_fact_69 (by decide) ?_
    refine pw_callV (as := [_, _]) (kc' := 0) (ks' := 0) lX10_226 dX10_fact_70 rfl rfl (sh_lt hG (by decide)) (sh_tg hG 45 rfl) (Nat.le_of_ble_eq_true rfl) (by omega) (Nat.le_of_ble_eq_true rfl) (Nat.zero_le _) (Nat.zero_le _) ?_
    refine c_X10_then hG hP (by omega) hs (by omega) (s := 2) (k := 5) (fun I1 hA => ?_)
    refine pw_goto (tgt := 192) dX10_fact_73 (by decide) ?_
    refine pw_vret dX10_fact_192 rfl ?_
    refine pw_goto (tgt := 201) dX10_readExpr_193 (by decide) ?_
    refine pw_goto (tgt := 10) dX10_readExpr_201 (by decide) ?_
    refine pw_sub [1] rfl ?_
    rcases pb_so hr with ⟨e, hq, her⟩ | ⟨b, L, hq, hr⟩
    · exact h5 a op (T + 1) m I1 J _ hA.1 hA.2.1.1 hA.2.1.2 ho (by omega) hq (fun b L N m' I' J' hh => nomatch hh) (fun e' I' J' hh hF hf => by cases hh; exact (k0.mv hA.2.2.2.2.2 (by omega)) e I' J' her hF hf)
    · refine h5 a op (T + 1) m I1 J _ hA.1 hA.2.1.1 hA.2.1.2 ho (by omega) hq (fun b' L' N1 m1 I2 J2 hh hs2 hre2 hnd2 hm2 hf2 => ?_) (fun e' I' J' hh => nomatch hh)
      cases hh
      have hes2 : I2 81 T = nI 2 := by rw [hf2.2.2.1 81 T (by decide) (by decide) (by omega)]; exact hA.2.2.1.1
      have hk2 : I2 80 T = nI 4 := by rw [hf2.2.2.1 80 T (by decide) (by decide) (by omega), hA.2.2.1.2]; exact hk
      have hfA := hA.2.2.2.2.2.trans hf2 (by omega) (by omega)
      exact hD b op T m1 a m 0 N1 L I2 J2 r hs2 hk2 hes2 hre2 hnd2 hm2 ho (by omega) hr (k1.mv hfA (by omega) rfl) (k0.mv hfA (by omega))
  · have hq1 := (rq45 hb).mp hX10_fact_38
    rw [if_pos hq1] at hr
    have hal := hs.lt (by rw [hq1]; decide) (by rw [hq1]; decide)
    have hs3 := hs.fr' (b := 83) (j := T) (by decide) (by decide) (nI a)
    have hf3 : fq T (64 * kp + m) I (pm_u I 83 T (nI a)) J J := (fq.frm (T := T) (K := 64 * kp + m) (a := 83) (j := T) (x := nI a) (by decide) (by decide) (Nat.le_refl _))
    refine pw_aload_n dX10_fact_41 rfl ?_
    refine pw_getR fX10_117 dX10_fact_42 (sh_lt hG (by decide)) (sh_tg hG 45 rfl) rfl (gr_at hP 75 rfl) ?_
    refine pw_iload_n dX10_fact_45 rfl ?_
    refine pw_aload_n dX10_fact_46 rfl ?_
    refine pw_getI fX10_194 dX10_fact_47 (sh_lt hG (by decide)) (sh_tg hG 45 rfl) rfl ?_
    refine pw_ti (z := nI a) hs.2.2.1.1 ?_
    refine pw_iastN T dX10_fact_50 (by decide) (sh_lt hG (by decide)) (sh_sh hG 81 rfl) (by decide) (rfl) (by omega) ?_
    refine pw_aload_n dX10_fact_51 rfl ?_
    refine pw_callV (as := []) (kc' := 0) (ks' := 0) lX10_233 dX10_fact_52 rfl rfl (sh_lt hG (by decide)) (sh_tg hG 45 rfl) (Nat.le_of_ble_eq_true rfl) (by omega) (Nat.le_of_ble_eq_true rfl) (Nat.zero_le _) (Nat.zero_le _) ?_
    refine c_X10_opens hG hP (by omega) hs3 ho (fun hlt => ?_) (fun hge => ?_)
    · rw [if_neg (by omega)] at hr
      have hs4 := (hs3.op' (op + 1)).at' (b := a + 1) (by omega) (by omega)
      have hf4 := (hf3.trans (fq.put (T := T) (K := 64 * kp + m) (k := 42) (x := nI (op + 1)) (by decide) (by decide)) (Nat.le_refl _) (Nat.le_refl _)).trans (fq.put (T := T) (K := 64 * kp + m) (k := 40) (x := nI (a + 1)) (by decide) (by decide)) (Nat.le_refl _) (Nat.le_refl _)
      refine pw_if_eq (tgt := 192) dX10_fact_55 (by decide) (fun h => absurd h (by decide)) (fun hX10_fact_55 => ?_)
      refine pw_aload_n dX10_fact_58 rfl ?_
      refine pw_iconst (v := nI 1) dX10_fact_59 (by decide) ?_
      refine pw_iconst (v := nI 4) dX10_fact_60 (by decide) ?_
      refine pw_callV (as := [_, _]) (kc' := 0) (ks' := 0) lX10_226 dX10_fact_61 rfl rfl (sh_lt hG (by decide)) (sh_tg hG 45 rfl) (Nat.le_of_ble_eq_true rfl) (by omega) (Nat.le_of_ble_eq_true rfl) (Nat.zero_le _) (Nat.zero_le _) ?_
      refine c_X10_then hG hP (by omega) hs4 (by omega) (s := 1) (k := 4) (fun I5 hB => ?_)
      refine pw_goto (tgt := 192) dX10_fact_64 (by decide) ?_
      refine pw_vret dX10_fact_192 rfl ?_
      refine pw_goto (tgt := 201) dX10_readExpr_193 (by decide) ?_
      refine pw_goto (tgt := 10) dX10_readExpr_201 (by decide) ?_
      refine pw_sub [1] rfl ?_
      have hf5 := hf4.trans hB.2.2.2.2.2 (Nat.le_refl _) (Nat.le_refl _)
      rcases pb_so hr with ⟨e, hq, her⟩ | ⟨b, L, hq, hr⟩
      · exact h4 (a + 1) (op + 1) (T + 1) m I5 J _ hB.1 hB.2.1.1 hB.2.1.2 (by omega) (by omega) hq (fun b L N m' I' J' hh => nomatch hh) (fun e' I' J' hh hF hf => by cases hh; exact (k0.mv hf5 (by omega)) e I' J' her hF hf)
      · refine h4 (a + 1) (op + 1) (T + 1) m I5 J _ hB.1 hB.2.1.1 hB.2.1.2 (by omega) (by omega) hq (fun b' L' N1 m1 I6 J6 hh hs6 hre6 hnd6 hm6 hf6 => ?_) (fun e' I' J' hh => nomatch hh)
        cases hh
        have hes6 : I6 81 T = nI 1 := by rw [hf6.2.2.1 81 T (by decide) (by decide) (by omega)]; exact hB.2.2.1.1
        have hk6 : I6 80 T = nI 4 := by rw [hf6.2.2.1 80 T (by decide) (by decide) (by omega), hB.2.2.1.2, pm_u_ne (by decide), pm_u_ne (by decide), pm_u_ne (by decide)]; exact hk
        have hb6 : I6 83 T = nI a := by rw [hf6.2.2.1 83 T (by decide) (by decide) (by omega), hB.2.2.2.1 83 (by decide) (by decide), pm_u_ne (by decide), pm_u_ne (by decide), pm_u_eq, pm_up_eq]
        have hf6' := hf5.trans hf6 (by omega) (Nat.le_refl _)
        have hbi := hs6.2.2.1.2
        have hmb := hs6.2.2.2.2.2.2.1.2
        unfold LH
        refine pw_aload_n dX10_readExpr_10 rfl ?_
        refine pw_getI fX10_213 dX10_readExpr_11 (sh_lt hG (by decide)) (sh_tg hG 45 rfl) rfl ?_
        refine pw_ifN_le _ (tgt := 204) dX10_readExpr_14 (by decide) (hs6.2.2.2.2.2.1.1) (by omega) (fun h14 => absurd h14 (by omega)) (fun h14 => ?_)
        refine pw_aload_n dX10_readExpr_17 rfl ?_
        refine pw_getI fX10_197 dX10_readExpr_18 (sh_lt hG (by decide)) (sh_tg hG 45 rfl) rfl ?_
        refine pw_if_ge (tgt := 204) dX10_readExpr_21 (by decide) (fun h => absurd h (by rw [hs6.2.2.2.1]; decide)) (fun h21 => ?_)
        refine pw_aload_n dX10_readExpr_24 rfl ?_
        refine pw_getI fX10_213 dX10_readExpr_25 (sh_lt hG (by decide)) (sh_tg hG 45 rfl) rfl ?_
        refine pw_iconst (v := nI 1) dX10_readExpr_28 (by decide) ?_
        refine pw_isub dX10_readExpr_29 ?_
        refine pw_ti (z := nI T) (by rw [hs6.2.2.2.2.2.1.1]; exact nI_pred T) ?_
        refine pw_istore_n (lv' := [(1, _), (0, _)]) dX10_readExpr_30 (by decide) rfl ?_
        refine pw_aload_n dX10_readExpr_31 rfl ?_
        refine pw_getR fX10_108 dX10_readExpr_32 (sh_lt hG (by decide)) (sh_tg hG 45 rfl) rfl (gr_at hP 72 rfl) ?_
        refine pw_iload_n dX10_readExpr_35 rfl ?_
        refine pw_ialdN T dX10_readExpr_36 (sh_lt hG (by decide)) (sh_sh hG 78 rfl) (by decide) (rfl) (by omega) ?_
        refine pw_ti (z := nI 4) hk6 ?_
        refine pw_tableIn (off := 151) (tgt := 188) dX10_readExpr_37 (by decide) (by decide) (by decide) (by decide) ?_
        refine pw_aload_n dX10_readExpr_188 rfl ?_
        refine pw_iload_n dX10_readExpr_189 rfl ?_
        refine pw_callV (as := [_]) (kc' := 0) (ks' := 0) lX10_257 dX10_readExpr_190 rfl rfl (sh_lt hG (by decide)) (sh_tg hG 45 rfl) (Nat.le_of_ble_eq_true rfl) (by omega) (Nat.le_of_ble_eq_true rfl) (Nat.zero_le _) (Nat.zero_le _) ?_
        unfold pm_Met
        refine pm_lvs (lv' := [(0, _), (1, _)]) rfl ?_
        refine pw_aload_n dX10_fact_0 rfl ?_
        refine pw_getR fX10_111 dX10_fact_1 (sh_lt hG (by decide)) (sh_tg hG 45 rfl) rfl (gr_at hP 73 rfl) ?_
        refine pw_iload_n dX10_fact_4 rfl ?_
        refine pw_ialdN T dX10_fact_5 (sh_lt hG (by decide)) (sh_sh hG 79 rfl) (by decide) (rfl) (by omega) ?_
        refine pw_ti (z := nI 1) hes6 ?_
        refine pw_lookup (off := 70) (tgt := 76) dX10_fact_6 (by decide) (by decide) (by decide) ?_
        refine pw_aload_n dX10_fact_76 rfl ?_
        refine pw_aload_n dX10_fact_77 rfl ?_
        refine pw_iconst (v := nI 4) dX10_fact_78 (by decide) ?_
        refine pw_aload_n dX10_fact_79 rfl ?_
        refine pw_getR fX10_117 dX10_fact_80 (sh_lt hG (by decide)) (sh_tg hG 45 rfl) rfl (gr_at hP 75 rfl) ?_
        refine pw_iload_n dX10_fact_83 rfl ?_
        refine pw_ialdN T dX10_fact_84 (sh_lt hG (by decide)) (sh_sh hG 81 rfl) (by decide) (rfl) (by omega) ?_
        refine pw_ti (z := nI a) hb6 ?_
        refine pw_aload_n dX10_fact_85 rfl ?_
        refine pw_getI fX10_230 dX10_fact_86 (sh_lt hG (by decide)) (sh_tg hG 45 rfl) rfl ?_
        refine pw_ti (z := nI N1) hre6 ?_
        refine pw_bipush (v := -5) dX10_fact_89 (by decide) ?_
        refine pw_bipush (v := -5) dX10_fact_91 (by decide) ?_
        refine pw_callV (as := [_, _, _, _, _]) (kc' := 0) (ks' := 0) lX10_240 dX10_fact_93 rfl rfl (sh_lt hG (by decide)) (sh_tg hG 45 rfl) (Nat.le_of_ble_eq_true rfl) (by omega) (Nat.le_of_ble_eq_true rfl) (Nat.zero_le _) (Nat.zero_le _) ?_
        refine c_X10_node hG hP hs6 (t := a) (by omega) (by omega) ?_
        have hsN := hs6.node (x := nI 4) (t := nI a) (p := nI (tk_p tx n a)) (v := J6 79 a) (by omega) hnd6.ch (r := -5) (c := -5) (Or.inl rfl) (Or.inl rfl)
        have hfN := ndI_fq (T := T) (K := 64 * kp + m1) (I := I6) (J := J6) (m := m1) (x := nI 4) (t := nI a) (p := nI (tk_p tx n a)) (l := nI N1) (r := -5) (c := -5) (v := J6 79 a) (Nat.le_refl _)
        have hat := ndI_at (k := 64 * kp + m1) (m := m1) (I := I6) (x := nI 4) (t := nI a) (p := nI (tk_p tx n a)) (l := nI N1) (r := -5) (c := -5)
        refine pw_putI fX10_230 dX10_fact_96 (Or.inl rfl) (by decide) (sh_lt hG (by decide)) (sh_tg hG 45 rfl) rfl ?_
        refine pw_aload_n dX10_fact_99 rfl ?_
        refine pw_dup dX10_fact_100 rfl ?_
        refine pw_getI fX10_210 dX10_fact_101 (sh_lt hG (by decide)) (sh_tg hG 45 rfl) rfl ?_
        refine pw_iconst (v := nI 1) dX10_fact_104 (by decide) ?_
        refine pw_isub dX10_fact_105 ?_
        refine pw_ti (z := nI op) (by rw [(hsN.re' (nI (64 * kp + m1))).2.2.2.2.1]; exact nI_pred op) ?_
        refine pw_putI fX10_210 dX10_fact_106 (Or.inl rfl) (by decide) (sh_lt hG (by decide)) (sh_tg hG 45 rfl) rfl ?_
        refine pw_aload_n dX10_fact_109 rfl ?_
        refine pw_dup dX10_fact_110 rfl ?_
        refine pw_getI fX10_213 dX10_fact_111 (sh_lt hG (by decide)) (sh_tg hG 45 rfl) rfl ?_
        refine pw_iconst (v := nI 1) dX10_fact_114 (by decide) ?_
        refine pw_isub dX10_fact_115 ?_
        refine pw_ti (z := nI T) (by rw [((hsN.re' (nI (64 * kp + m1))).op' op).2.2.2.2.2.1.1]; exact nI_pred T) ?_
        refine pw_putI fX10_213 dX10_fact_116 (Or.inl rfl) (by decide) (sh_lt hG (by decide)) (sh_tg hG 45 rfl) rfl ?_
        refine pw_goto (tgt := 192) dX10_fact_119 (by decide) ?_
        refine pw_vret dX10_fact_192 rfl ?_
        refine pw_goto (tgt := 201) dX10_readExpr_193 (by decide) ?_
        refine pw_goto (tgt := 10) dX10_readExpr_201 (by decide) ?_
        refine pw_sub [1] rfl ?_
        have hsE := ((hsN.re' (nI (64 * kp + m1))).op' op).tp' (b := T) (by omega)
        have hfE := ((fq.put (T := T) (K := 64 * kp + m1 + 1) (I := ndI I6 (64 * kp + m1) m1 (nI 4) (nI a) (nI (tk_p tx n a)) (nI N1) (-5) (-5)) (J := pm_u J6 70 (64 * kp + m1) (J6 79 a)) (k := 44) (x := nI (64 * kp + m1)) (by decide) (by decide)).trans (fq.put (T := T) (K := 64 * kp + m1 + 1) (k := 42) (x := nI op) (by decide) (by decide)) (Nat.le_refl _) (Nat.le_refl _)).trans (fq.put (T := T) (K := 64 * kp + m1 + 1) (k := 45) (x := nI T) (by decide) (by decide)) (Nat.le_refl _) (Nat.le_refl _)
        exact k1 b _ (64 * kp + m1) (m1 + 1) _ _ (Option.some.inj hr).symm hsE (by rw [pm_u_eq, pm_up_ne (by decide), pm_u_eq, pm_up_ne (by decide), pm_u_eq, pm_up_eq]) ((nT.m4 (s := m) (f := m1 - m) (F := m1 + 1 - m) (m := m1 + 1) (by omega) ⟨by omega, by omega⟩ hat.2.2.1 hat.1 hat.2.2.2.1 (hnd6.up hfN (by omega) (Nat.le_refl _))).up hfE (Nat.le_refl _) (Nat.le_refl _)) ⟨by omega, by omega⟩ ((hf6'.trans hfN (Nat.le_refl _) (by omega)).trans hfE (Nat.le_refl _) (by omega))
    · rw [if_pos hge] at hr
      refine pw_if_eq (tgt := 192) dX10_fact_55 (by decide) (fun hX10_fact_55 => ?_) (fun h => absurd (by decide) h)
      refine pw_vret dX10_fact_192 rfl ?_
      refine pw_goto (tgt := 201) dX10_readExpr_193 (by decide) ?_
      refine pw_goto (tgt := 10) dX10_readExpr_201 (by decide) ?_
      refine pw_sub [1] rfl ?_
      exact k0 a _ _ (Option.some.inj hr).symm (by rw [pm_u_eq, pm_up_eq]) ((hf3.trans (fq.put (T := T) (K := 64 * kp + m) (by decide) (by decide)) (Nat.le_refl _) (Nat.le_refl _)).le (Nat.zero_le _) (by omega))
set_option maxRecDepth 20000 in
set_option maxHeartbeats 4000000 in
theorem t_qD {l : Launch} {E : pmE} {S : pmS} {P : pmP} {d : Nat} {Q : Option Value → pmS → pmI → pmJ → pmP → Prop} {tx : Nat → Nat} {n i kp : Nat} {pa : List Int64} {f : Nat} (hG : sh_St S) (hP : gr_St P) (hb : ∀ j, j < n → tx j < 128) (hd : 6 ≤ d) (hD : qD l E S P d Q tx n i kp pa f) : qD l E S P d Q tx n i kp pa (f + 1) := by
  intro a op T m a0 m0 k N acc I J r hs hk he hre hnd hm ho hT hr k1 k0
  have hkp := hs.2.1.2
  have hi6 := hs.1.2.1
  have hai := hs.2.2.1.2
  have hma := hs.2.2.2.2.2.2.1.2
  have hkc := (rk_c (tk_k_c (tx := tx) (n := n) (i := a) hb).1)
  rw [ps_14] at hr
  unfold LH
  refine pw_aload_n dX10_readExpr_10 rfl ?_
  refine pw_getI fX10_213 dX10_readExpr_11 (sh_lt hG (by decide)) (sh_tg hG 45 rfl) rfl ?_
  refine pw_ifN_le _ (tgt := 204) dX10_readExpr_14 (by decide) (hs.2.2.2.2.2.1.1) (by omega) (fun h14 => absurd h14 (by omega)) (fun h14 => ?_)
  refine pw_aload_n dX10_readExpr_17 rfl ?_
  refine pw_getI fX10_197 dX10_readExpr_18 (sh_lt hG (by decide)) (sh_tg hG 45 rfl) rfl ?_
  refine pw_if_ge (tgt := 204) dX10_readExpr_21 (by decide) (fun h => absurd h (by rw [hs.2.2.2.1]; decide)) (fun h21 => ?_)
  refine pw_aload_n dX10_readExpr_24 rfl ?_
  refine pw_getI fX10_213 dX10_readExpr_25 (sh_lt hG (by decide)) (sh_tg hG 45 rfl) rfl ?_
  refine pw_iconst (v := nI 1) dX10_readExpr_28 (by decide) ?_
  refine pw_isub dX10_readExpr_29 ?_
  refine pw_ti (z := nI T) (by rw [hs.2.2.2.2.2.1.1]; exact nI_pred T) ?_
  refine pw_istore_n (lv' := [(1, _), (0, _)]) dX10_readExpr_30 (by decide) rfl ?_
  refine pw_aload_n dX10_readExpr_31 rfl ?_
  refine pw_getR fX10_108 dX10_readExpr_32 (sh_lt hG (by decide)) (sh_tg hG 45 rfl) rfl (gr_at hP 72 rfl) ?_
  refine pw_iload_n dX10_readExpr_35 rfl ?_
  refine pw_ialdN T dX10_readExpr_36 (sh_lt hG (by decide)) (sh_sh hG 78 rfl) (by decide) (rfl) (by omega) ?_
  refine pw_ti (z := nI 4) hk ?_
  refine pw_tableIn (off := 151) (tgt := 188) dX10_readExpr_37 (by decide) (by decide) (by decide) (by decide) ?_
  refine pw_aload_n dX10_readExpr_188 rfl ?_
  refine pw_iload_n dX10_readExpr_189 rfl ?_
  refine pw_callV (as := [_]) (kc' := 0) (ks' := 0) lX10_257 dX10_readExpr_190 rfl rfl (sh_lt hG (by decide)) (sh_tg hG 45 rfl) (Nat.le_of_ble_eq_true rfl) (by omega) (Nat.le_of_ble_eq_true rfl) (Nat.zero_le _) (Nat.zero_le _) ?_
  unfold pm_Met
  refine pm_lvs (lv' := [(0, _), (1, _)]) rfl ?_
  refine pw_aload_n dX10_fact_0 rfl ?_
  refine pw_getR fX10_111 dX10_fact_1 (sh_lt hG (by decide)) (sh_tg hG 45 rfl) rfl (gr_at hP 73 rfl) ?_
  refine pw_iload_n dX10_fact_4 rfl ?_
  refine pw_ialdN T dX10_fact_5 (sh_lt hG (by decide)) (sh_sh hG 79 rfl) (by decide) (rfl) (by omega) ?_
  refine pw_ti (z := nI 2) he ?_
  refine pw_lookup (off := 116) (tgt := 122) dX10_fact_6 (by decide) (by decide) (by decide) ?_
  refine pw_aload_n dX10_fact_122 rfl ?_
  refine pw_callV (as := []) (kc' := 0) (ks' := 0) lX10_200 dX10_fact_123 rfl rfl (sh_lt hG (by decide)) (sh_tg hG 45 rfl) (Nat.le_of_ble_eq_true rfl) (by omega) (Nat.le_of_ble_eq_true rfl) (Nat.zero_le _) (Nat.zero_le _) ?_
  refine c_X10_tok hG hP hs ?_
  refine pw_bipush (v := nI 46) dX10_fact_126 (by decide) ?_
  refine pw_icmpN_eq _ _ (tgt := 142) dX10_fact_128 (by decide) (rfl) (rfl) (by omega) (by omega) (fun hX10_fact_128 => ?_) (fun hX10_fact_128 => ?_)
  · have hq1 := (rq46 hb).mp hX10_fact_128
    rw [if_pos hq1] at hr
    have hal := hs.lt (by rw [hq1]; decide) (by rw [hq1]; decide)
    have hs1 := hs.at' (b := a + 1) (by omega) (by omega)
    refine pw_aload_n dX10_fact_142 rfl ?_
    refine pw_getI fX10_194 dX10_fact_143 (sh_lt hG (by decide)) (sh_tg hG 45 rfl) rfl ?_
    refine pw_ti (z := nI a) hs.2.2.1.1 ?_
    refine pw_istore_n (lv' := [(2, _), (0, _), (1, _)]) dX10_fact_146 (by decide) rfl ?_
    refine pw_aload_n dX10_fact_147 rfl ?_
    refine pw_callV (as := []) (kc' := 0) (ks' := 0) lX10_207 dX10_fact_148 rfl rfl (sh_lt hG (by decide)) (sh_tg hG 45 rfl) (Nat.le_of_ble_eq_true rfl) (by omega) (Nat.le_of_ble_eq_true rfl) (Nat.zero_le _) (Nat.zero_le _) ?_
    refine c_X10_next (a := a) hG hP hs.2.2.1.1 ?_
    refine pw_aload_n dX10_fact_151 rfl ?_
    refine pw_getI fX10_194 dX10_fact_152 (sh_lt hG (by decide)) (sh_tg hG 45 rfl) rfl ?_
    refine pw_ti (z := nI (a + 1)) hs1.2.2.1.1 ?_
    refine pw_istore_n (lv' := [(3, _), (2, _), (0, _), (1, _)]) dX10_fact_155 (by decide) rfl ?_
    refine pw_aload_n dX10_fact_156 rfl ?_
    refine pw_iconst (v := nI 1) dX10_fact_157 (by decide) ?_
    refine pw_callV (as := [_]) (kc' := 0) (ks' := 0) lX10_237 dX10_fact_158 rfl rfl (sh_lt hG (by decide)) (sh_tg hG 45 rfl) (Nat.le_of_ble_eq_true rfl) (by omega) (Nat.le_of_ble_eq_true rfl) (Nat.zero_le _) (Nat.zero_le _) ?_
    refine c_X10_need hG hP (by omega) hs1 hb (c := 1) (by decide) (fun hc1 => ?_) (fun hc0 => ?_)
    · have hn1 := (rq97 hb).mp hc1
      rw [if_pos hn1] at hr
      have hal1 := hs1.lt (by rw [hn1]; decide) (by rw [hn1]; decide)
      have hs2 := hs1.at' (b := a + 1 + 1) (by omega) (by omega)
      have hf2 : fq T (64 * kp + m) I (pm_u (pm_u I 47 40 (nI (a + 1))) 47 40 (nI (a + 1 + 1))) J J := (fq.put (T := T) (K := 64 * kp + m) (by decide) (by decide)).trans (fq.put (T := T) (K := 64 * kp + m) (by decide) (by decide)) (Nat.le_refl _) (Nat.le_refl _)
      have hnd2 := hnd.up (m' := m) (f' := m - m0) (s' := m0) hf2 (Nat.le_refl _) (Nat.le_refl _)
      refine pw_if_eq (tgt := 192) dX10_fact_161 (by decide) (fun h => absurd h (by decide)) (fun hX10_fact_161 => ?_)
      refine pw_aload_n dX10_fact_164 rfl ?_
      refine pw_aload_n dX10_fact_165 rfl ?_
      refine pw_iconst (v := nI 5) dX10_fact_166 (by decide) ?_
      refine pw_iload_n dX10_fact_167 rfl ?_
      refine pw_aload_n dX10_fact_168 rfl ?_
      refine pw_getI fX10_230 dX10_fact_169 (sh_lt hG (by decide)) (sh_tg hG 45 rfl) rfl ?_
      refine pw_ti (z := nI N) (by rw [pm_u_eq, pm_up_ne (by decide), pm_u_eq, pm_up_ne (by decide)]; exact hre) ?_
      refine pw_bipush (v := -5) dX10_fact_172 (by decide) ?_
      refine pw_bipush (v := -5) dX10_fact_174 (by decide) ?_
      refine pw_callV (as := [_, _, _, _, _]) (kc' := 0) (ks' := 0) lX10_240 dX10_fact_176 rfl rfl (sh_lt hG (by decide)) (sh_tg hG 45 rfl) (Nat.le_of_ble_eq_true rfl) (by omega) (Nat.le_of_ble_eq_true rfl) (Nat.zero_le _) (Nat.zero_le _) ?_
      refine c_X10_node hG hP hs2 (t := a) (by omega) (by omega) ?_
      have hsN := hs2.node (x := nI 5) (t := nI a) (p := nI (tk_p tx n a)) (v := J 79 a) (by omega) hnd2.ch (r := -5) (c := -5) (Or.inl rfl) (Or.inl rfl)
      have hfN := ndI_fq (T := T) (K := 64 * kp + m) (I := pm_u (pm_u I 47 40 (nI (a + 1))) 47 40 (nI (a + 1 + 1))) (J := J) (m := m) (x := nI 5) (t := nI a) (p := nI (tk_p tx n a)) (l := nI N) (r := -5) (c := -5) (v := J 79 a) (Nat.le_refl _)
      have hat := ndI_at (k := 64 * kp + m) (m := m) (I := pm_u (pm_u I 47 40 (nI (a + 1))) 47 40 (nI (a + 1 + 1))) (x := nI 5) (t := nI a) (p := nI (tk_p tx n a)) (l := nI N) (r := -5) (c := -5)
      refine pw_putI fX10_230 dX10_fact_179 (Or.inl rfl) (by decide) (sh_lt hG (by decide)) (sh_tg hG 45 rfl) rfl ?_
      refine pw_aload_n dX10_fact_182 rfl ?_
      refine pw_getR fX10_71 dX10_fact_183 (sh_lt hG (by decide)) (sh_tg hG 45 rfl) rfl (gr_at hP 60 rfl) ?_
      refine pw_aload_n dX10_fact_186 rfl ?_
      refine pw_getI fX10_230 dX10_fact_187 (sh_lt hG (by decide)) (sh_tg hG 45 rfl) rfl ?_
      refine pw_ti (z := nI (64 * kp + m)) (by rw [pm_u_eq, pm_up_eq]) ?_
      refine pw_iload_n dX10_fact_190 rfl ?_
      refine pw_iastN (64 * kp + m) dX10_fact_191 (by decide) (sh_lt hG (by decide)) (sh_sh hG 66 rfl) (by decide) (rfl) (by omega) ?_
      refine pw_vret dX10_fact_192 rfl ?_
      refine pw_goto (tgt := 201) dX10_readExpr_193 (by decide) ?_
      refine pw_goto (tgt := 10) dX10_readExpr_201 (by decide) ?_
      refine pw_sub [1] rfl ?_
      have hsE := (hsN.re' (nI (64 * kp + m))).nt (j := 64 * kp + m) (t := a + 1) (by omega) (by rw [pm_u_ne (by decide), hat.1]; decide)
      have hgE : fq T (64 * kp + m) (ndI (pm_u (pm_u I 47 40 (nI (a + 1))) 47 40 (nI (a + 1 + 1))) (64 * kp + m) m (nI 5) (nI a) (nI (tk_p tx n a)) (nI N) (-5) (-5)) (pm_u (pm_u (ndI (pm_u (pm_u I 47 40 (nI (a + 1))) 47 40 (nI (a + 1 + 1))) (64 * kp + m) m (nI 5) (nI a) (nI (tk_p tx n a)) (nI N) (-5) (-5)) 47 44 (nI (64 * kp + m))) 68 (64 * kp + m) (nI (a + 1))) (pm_u J 70 (64 * kp + m) (J 79 a)) (pm_u J 70 (64 * kp + m) (J 79 a)) := (fq.put (T := T) (K := 64 * kp + m) (by decide) (by decide)).trans (fq.nod (T := T) (K := 64 * kp + m) (by decide) (by decide) (Nat.le_refl _)) (Nat.le_refl _) (Nat.le_refl _)
      have hg := (hf2.trans hfN (Nat.le_refl _) (Nat.le_refl _)).trans hgE (Nat.le_refl _) (Nat.le_refl _)
      have e68 : ∀ b, b ≠ 68 → b ≠ 47 → pm_u (pm_u (ndI (pm_u (pm_u I 47 40 (nI (a + 1))) 47 40 (nI (a + 1 + 1))) (64 * kp + m) m (nI 5) (nI a) (nI (tk_p tx n a)) (nI N) (-5) (-5)) 47 44 (nI (64 * kp + m))) 68 (64 * kp + m) (nI (a + 1)) b = (ndI (pm_u (pm_u I 47 40 (nI (a + 1))) 47 40 (nI (a + 1 + 1))) (64 * kp + m) m (nI 5) (nI a) (nI (tk_p tx n a)) (nI N) (-5) (-5)) b := fun b h1 h2 => by rw [pm_u_ne h1, pm_u_ne h2]
      exact hD (a + 1 + 1) op T (m + 1) a0 m0 (k + 1) (64 * kp + m) _ _ _ r hsE (by rw [e68 80 (by decide) (by decide)]; unfold ndI; (repeat rw [pm_u_ne (by decide)]); exact hk) (by rw [e68 81 (by decide) (by decide)]; unfold ndI; (repeat rw [pm_u_ne (by decide)]); exact he) (by rw [pm_u_ne (by decide), pm_u_eq, pm_up_eq]) (nT.m5 (s := m0) (f := m - m0) (F := m + 1 - m0) (m := m + 1) (by omega) ⟨by omega, by omega⟩ (by rw [e68 67 (by decide) (by decide)]; exact hat.2.2.1) (by rw [e68 63 (by decide) (by decide)]; exact hat.1) ⟨a + 1, by omega, by rw [pm_u_eq, pm_up_eq], hn1, rfl⟩ (by rw [e68 64 (by decide) (by decide)]; exact hat.2.2.2.1) ((hnd2.up (s' := m0) (m' := m) (f' := m - m0) hfN (Nat.le_refl _) (Nat.le_refl _)).up (s' := m0) (m' := m + 1) hgE (by omega) (Nat.le_refl _))) ⟨by omega, by omega⟩ ho hT hr (k1.mv (hg.le (Nat.le_refl _) (by omega)) (Nat.le_refl _) rfl) (k0.mv hg (by omega))
    · rw [if_neg (fun q => hc0 ((rq97 hb).mpr q))] at hr
      refine pw_if_eq (tgt := 192) dX10_fact_161 (by decide) (fun hX10_fact_161 => ?_) (fun h => absurd (by decide) h)
      refine pw_vret dX10_fact_192 rfl ?_
      refine pw_goto (tgt := 201) dX10_readExpr_193 (by decide) ?_
      refine pw_goto (tgt := 10) dX10_readExpr_201 (by decide) ?_
      refine pw_sub [1] rfl ?_
      exact k0 (a + 1) _ _ (Option.some.inj hr).symm (by rw [pm_u_eq, pm_up_eq]) ((fq.put (T := 0) (K := 64 * kp) (by decide) (by decide)).trans (fq.put (T := 0) (K := 64 * kp) (by decide) (by decide)) (Nat.le_refl _) (Nat.le_refl _))
  · refine pw_aload_n dX10_fact_131 rfl ?_
    refine pw_dup dX10_fact_132 rfl ?_
    refine pw_getI fX10_213 dX10_fact_133 (sh_lt hG (by decide)) (sh_tg hG 45 rfl) rfl ?_
    refine pw_iconst (v := nI 1) dX10_fact_136 (by decide) ?_
    refine pw_isub dX10_fact_137 ?_
    refine pw_ti (z := nI T) (by rw [hs.2.2.2.2.2.1.1]; exact nI_pred T) ?_
    refine pw_putI fX10_213 dX10_fact_138 (Or.inl rfl) (by decide) (sh_lt hG (by decide)) (sh_tg hG 45 rfl) rfl ?_
    refine pw_vret dX10_fact_141 rfl ?_
    refine pw_goto (tgt := 201) dX10_readExpr_193 (by decide) ?_
    refine pw_goto (tgt := 10) dX10_readExpr_201 (by decide) ?_
    refine pw_sub [1] rfl ?_
    rw [if_neg (fun q => hX10_fact_128 ((rq46 hb).mpr q))] at hr
    exact k1 a acc N m _ _ (Option.some.inj hr).symm (hs.tp' (by omega)) (by rw [pm_u_eq, pm_up_ne (by decide)]; exact hre) (hnd.up (fq.put (T := T) (by decide) (by decide)) (Nat.le_refl _) (Nat.le_refl _)) hm (fq.put (by decide) (by decide))
