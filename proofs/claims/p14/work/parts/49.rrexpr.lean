set_option maxRecDepth 20000 in
set_option maxHeartbeats 4000000 in
theorem c_X10_readExpr {tx : Nat → Nat} {n i kp : Nat} {pa : List Int64} {d : Nat} {Q : Option Value → pmS → pmI → pmJ → pmP → Prop} {l : Launch} {E : pmE} {S : pmS} {P : pmP} {I : pmI} {J : pmJ} (hG : sh_St S) (hP : gr_St P) (hb : ∀ j, j < n → tx j < 128) (hd : 6 ≤ d) (hn9 : n ≤ 120) {T0 a f : Nat} {r : Except Nat (Nat × List dD)} (hs : qs tx n i kp I J a 0 T0 0) (hr : ps (tk_k tx n) (tk_p tx n) (tk_v tx n) pa f 0 a 0 [] 0 = some r) (k1 : ∀ b L N m' I1 J1, r = .ok (b, L) → qs tx n i kp I1 J1 b 0 0 m' → nT tx n kp pa I1 J1 0 m' m' N L → 0 < m' → fq 0 (64 * kp) I I1 J J1 → Q none S (pm_u I1 60 kp (nI N)) J1 P) (k0 : ∀ e x I1 J1, r = .error e → I1 47 41 = nI (tk_p tx n e) → fq 0 (64 * kp) I I1 J J1 → Q none S (pm_u I1 60 kp x) J1 P) : pm_Met l E yX10_readExpr cX10_readExpr 2 none d 0 0 [.ref 47] S I J P Q := by
  unfold pm_Met
  refine pm_lvs (lv' := [(0, _)]) rfl ?_
  have hkp := hs.2.1
  have hs1 := (((hs.tp' (b := 0) (by omega)).fr' (b := 80) (j := 0) (by decide) (by decide) (nI 0)).fr' (b := 81) (j := 0) (by decide) (by decide) (nI 0)).tp' (b := 1) (by omega)
  have hf1 := (((fq.put (T := 0) (K := 64 * kp) (I := I) (J := J) (k := 45) (x := nI 0) (by decide) (by decide)).trans (fq.frm (T := 0) (K := 64 * kp) (a := 80) (j := 0) (x := nI 0) (by decide) (by decide) (Nat.le_refl _)) (Nat.le_refl _) (Nat.le_refl _)).trans (fq.frm (T := 0) (K := 64 * kp) (a := 81) (j := 0) (x := nI 0) (by decide) (by decide) (Nat.le_refl _)) (Nat.le_refl _) (Nat.le_refl _)).trans (fq.put (T := 0) (K := 64 * kp) (k := 45) (x := nI 1) (by decide) (by decide)) (Nat.le_refl _) (Nat.le_refl _)
  refine pw_aload_n dX10_readExpr_0 rfl ?_
  refine pw_iconst (v := nI 0) dX10_readExpr_1 (by decide) ?_
  refine pw_putI fX10_213 dX10_readExpr_2 (Or.inl rfl) (by decide) (sh_lt hG (by decide)) (sh_tg hG 45 rfl) rfl ?_
  refine pw_aload_n dX10_readExpr_5 rfl ?_
  refine pw_iconst (v := nI 0) dX10_readExpr_6 (by decide) ?_
  refine pw_callV (as := [_]) (kc' := 0) (ks' := 0) lX10_216 dX10_readExpr_7 rfl rfl (sh_lt hG (by decide)) (sh_tg hG 45 rfl) (Nat.le_of_ble_eq_true rfl) (by omega) (Nat.le_of_ble_eq_true rfl) (Nat.zero_le _) (Nat.zero_le _) ?_
  refine c_X10_push (T := 0) hG hP (by rw [pm_u_eq, pm_up_eq]) (by decide) ?_
  refine (rq_all (l := l) (E := E) (Q := Q) (i := i) (kp := kp) (pa := pa) hG hP hb hd f).1 0 (by omega) a 0 0 0 _ J r hs1 (by rw [pm_u_ne (by decide), pm_u_ne (by decide), pm_u_eq, pm_up_eq]) (by rw [pm_u_ne (by decide), pm_u_eq, pm_up_eq]) (by omega) (by omega) hr (fun b L N m' I' J' her hs' hre hnd hm hf => ?_) (fun e I' J' her hF hf => ?_)
  · have hkp' := hs'.2.1.1
    unfold LH
    refine pw_aload_n dX10_readExpr_10 rfl ?_
    refine pw_getI fX10_213 dX10_readExpr_11 (sh_lt hG (by decide)) (sh_tg hG 45 rfl) rfl ?_
    refine pw_ifN_le _ (tgt := 204) dX10_readExpr_14 (by decide) (hs'.2.2.2.2.2.1.1) (by omega) (fun h14 => ?_) (fun h14 => absurd h14 (by omega))
    refine pw_aload_n dX10_readExpr_204 rfl ?_
    refine pw_getR fX10_47 dX10_readExpr_205 (sh_lt hG (by decide)) (sh_tg hG 45 rfl) rfl (gr_at hP 52 rfl) ?_
    refine pw_aload_n dX10_readExpr_208 rfl ?_
    refine pw_getI fX10_220 dX10_readExpr_209 (sh_lt hG (by decide)) (sh_tg hG 45 rfl) rfl ?_
    refine pw_aload_n dX10_readExpr_212 rfl ?_
    refine pw_getI fX10_230 dX10_readExpr_213 (sh_lt hG (by decide)) (sh_tg hG 45 rfl) rfl ?_
    refine pw_ti (z := nI N) hre ?_
    refine pw_iastN kp dX10_readExpr_216 (by decide) (sh_lt hG (by decide)) (sh_sh hG 58 rfl) (by decide) (hkp') (by omega) ?_
    exact pw_vret dX10_readExpr_217 rfl (k1 b L N m' I' J' her hs' hnd hm.1 (hf1.trans hf (Nat.le_refl _) (Nat.le_refl _)))
  · have hkp' : I' 47 10 = nI kp := by rw [hf.2.1 10 (by omega), pm_u_eq, pm_up_ne (by decide), pm_u_ne (by decide), pm_u_ne (by decide), pm_u_eq, pm_up_ne (by decide)]; exact hkp.1
    have hple := tk_p_le (tx := tx) (n := n) e
    unfold LH
    refine pw_aload_n dX10_readExpr_10 rfl ?_
    refine pw_getI fX10_213 dX10_readExpr_11 (sh_lt hG (by decide)) (sh_tg hG 45 rfl) rfl ?_
    refine pw_if_le (tgt := 204) dX10_readExpr_14 (by decide) (fun h14 => ?_) (fun h14 => ?_)
    · refine pw_aload_n dX10_readExpr_204 rfl ?_
      refine pw_getR fX10_47 dX10_readExpr_205 (sh_lt hG (by decide)) (sh_tg hG 45 rfl) rfl (gr_at hP 52 rfl) ?_
      refine pw_aload_n dX10_readExpr_208 rfl ?_
      refine pw_getI fX10_220 dX10_readExpr_209 (sh_lt hG (by decide)) (sh_tg hG 45 rfl) rfl ?_
      refine pw_aload_n dX10_readExpr_212 rfl ?_
      refine pw_getI fX10_230 dX10_readExpr_213 (sh_lt hG (by decide)) (sh_tg hG 45 rfl) rfl ?_
      refine pw_iastN kp dX10_readExpr_216 (by decide) (sh_lt hG (by decide)) (sh_sh hG 58 rfl) (by decide) (hkp') (by omega) ?_
      exact pw_vret dX10_readExpr_217 rfl (k0 e _ I' J' her hF (hf1.trans hf (Nat.le_refl _) (Nat.le_refl _)))
    · refine pw_aload_n dX10_readExpr_17 rfl ?_
      refine pw_getI fX10_197 dX10_readExpr_18 (sh_lt hG (by decide)) (sh_tg hG 45 rfl) rfl ?_
      refine pw_ti (z := nI (tk_p tx n e)) hF ?_
      refine pw_if_ge (tgt := 204) dX10_readExpr_21 (by decide) (fun h21 => ?_) (fun h => absurd (nI_pos' (by omega)) h)
      refine pw_aload_n dX10_readExpr_204 rfl ?_
      refine pw_getR fX10_47 dX10_readExpr_205 (sh_lt hG (by decide)) (sh_tg hG 45 rfl) rfl (gr_at hP 52 rfl) ?_
      refine pw_aload_n dX10_readExpr_208 rfl ?_
      refine pw_getI fX10_220 dX10_readExpr_209 (sh_lt hG (by decide)) (sh_tg hG 45 rfl) rfl ?_
      refine pw_aload_n dX10_readExpr_212 rfl ?_
      refine pw_getI fX10_230 dX10_readExpr_213 (sh_lt hG (by decide)) (sh_tg hG 45 rfl) rfl ?_
      refine pw_iastN kp dX10_readExpr_216 (by decide) (sh_lt hG (by decide)) (sh_sh hG 58 rfl) (by decide) (hkp') (by omega) ?_
      exact pw_vret dX10_readExpr_217 rfl (k0 e _ I' J' her hF (hf1.trans hf (Nat.le_refl _) (Nat.le_refl _)))
