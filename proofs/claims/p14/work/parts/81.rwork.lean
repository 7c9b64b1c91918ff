set_option maxRecDepth 20000 in
set_option maxHeartbeats 4000000 in
theorem LR_end {l : Launch} {E : pmE} {d : Nat} {Q : Option Value → pmS → pmI → pmJ → pmP → Prop} {S : pmS} {P : pmP} {I : pmI} {J : pmJ} (hG : sh_St S) (hP : gr_St P) (hr : I 47 59 = nI 0) (k : Q none S I J P) : LR l E d Q S P I J := by
  unfold LR
  refine pw_aload_n dX10_workOut_48 rfl ?_
  refine pw_getI fX10_282 dX10_workOut_49 (sh_lt hG (by decide)) (sh_tg hG 45 rfl) rfl ?_
  refine pw_ifN_le _ (tgt := 104) dX10_workOut_52 (by decide) (hr) (by omega) (fun h52 => ?_) (fun h52 => absurd h52 (by omega))
  exact pw_vret dX10_workOut_104 rfl (k)
set_option maxRecDepth 20000 in
set_option maxHeartbeats 4000000 in
theorem LR_x {l : Launch} {E : pmE} {d : Nat} {Q : Option Value → pmS → pmI → pmJ → pmP → Prop} {S : pmS} {P : pmP} {I : pmI} {J : pmJ} (hG : sh_St S) (hP : gr_St P) {e : Nat} (he : 1 ≤ e ∧ e ≤ 9) (hf : I 47 53 = nI e) (k : Q none S I J P) : LR l E d Q S P I J := by
  unfold LR
  refine pw_aload_n dX10_workOut_48 rfl ?_
  refine pw_getI fX10_282 dX10_workOut_49 (sh_lt hG (by decide)) (sh_tg hG 45 rfl) rfl ?_
  refine pw_if_le (tgt := 104) dX10_workOut_52 (by decide) (fun h52 => ?_) (fun h52 => ?_)
  · exact pw_vret dX10_workOut_104 rfl (k)
  · refine pw_aload_n dX10_workOut_55 rfl ?_
    refine pw_getI fX10_285 dX10_workOut_56 (sh_lt hG (by decide)) (sh_tg hG 45 rfl) rfl ?_
    refine pw_ifN_ne _ (tgt := 104) dX10_workOut_59 (by decide) (hf) (by omega) (fun h59 => ?_) (fun h59 => absurd h59 (by omega))
    exact pw_vret dX10_workOut_104 rfl (k)
theorem rS.start {I : pmI} {J : pmJ} {A : aS} (hT : rT I J A.th) {x : Int32} : rS I J A (pm_u (pm_u (pm_u (pm_u (pm_u (pm_u I 47 53 (nI 0)) 47 54 (nI 0)) 47 55 (nI 0)) 87 0 x) 47 59 (nI 0)) 47 62 (nI 0)) J [] [] [] 0 A.th := by
  have hu : rU I J (pm_u (pm_u (pm_u (pm_u (pm_u (pm_u I 47 53 (nI 0)) 47 54 (nI 0)) 47 55 (nI 0)) 87 0 x) 47 59 (nI 0)) 47 62 (nI 0)) J := ((((((rU.refl.uM (by decide)).uM (by decide)).uM (by decide)).uI (by decide)).uM (by decide)).uM (by decide))
  exact ⟨⟨rF.refl.mv hu, List.prefix_rfl⟩, hT.mv hu, ⟨by (repeat (first | rw [pm_u_ne (by decide)] | rw [pm_u_eq, pm_up_ne (by decide)] | rw [pm_u_eq, pm_up_eq])), by (repeat (first | rw [pm_u_ne (by decide)] | rw [pm_u_eq, pm_up_ne (by decide)] | rw [pm_u_eq, pm_up_eq])), by (repeat (first | rw [pm_u_ne (by decide)] | rw [pm_u_eq, pm_up_ne (by decide)] | rw [pm_u_eq, pm_up_eq])) <;> rfl, by (repeat (first | rw [pm_u_ne (by decide)] | rw [pm_u_eq, pm_up_ne (by decide)] | rw [pm_u_eq, pm_up_eq])) <;> rfl, by (repeat (first | rw [pm_u_ne (by decide)] | rw [pm_u_eq, pm_up_ne (by decide)] | rw [pm_u_eq, pm_up_eq])) <;> rfl⟩, ⟨by decide, by decide, by decide, by decide⟩, (fun j x hj => nomatch hj), (fun j v hj => nomatch hj), (fun k x hk => nomatch hk)⟩
set_option maxRecDepth 20000 in
set_option maxHeartbeats 4000000 in
theorem c_X10_workOut {l : Launch} {E : pmE} {d : Nat} {S : pmS} {I : pmI} {J : pmJ} {P : pmP} {Q : Option Value → pmS → pmI → pmJ → pmP → Prop} (hG : sh_St S) (hP : gr_St P) (hd : 10 ≤ d) {A : aS} (hA : rA I J A) (hO : aO A) (hT : rT I J A.th) (hth : A.th.length ≤ 15600) {kp N lo hi : Nat} (hkp : I 47 10 = nI kp) (hk9 : kp ≤ 39) (hroot : I 60 kp = nI N) {T : eX} (hny : ny I J (crN A.ns J) lo hi T N) (hhi : hi ≤ 2624) (hwt : wt [] (· ∈ A.ns) T) (k1 : ∀ (v : vV) (s' : Nat) (t' : List tH) (I' : pmI) (J' : pmJ), evT A (evC A 20) 0 [] T 0 A.th = .ok (v, s', t') → rF I J I' J' → I' 47 53 = nI 0 → (I' 92 0 = nI v.1 ∧ J' 93 0 = v.2) → rT I' J' t' → I' 47 30 = nI t'.length → (∃ s9, s9 ≤ 400 ∧ I' 47 54 = nI s9) → A.th <+: t' → Q none S I' J' P) (k0 : ∀ (e : Nat) (I' : pmI) (J' : pmJ), evT A (evC A 20) 0 [] T 0 A.th = .error e → 1 ≤ e ∧ e ≤ 9 → rX I J A I' J' e → Q none S I' J' P) : pm_Met l E yX10_workOut cX10_workOut 2 none d 0 0 [.ref 47] S I J P Q := by
  unfold pm_Met
  refine pm_lvs (lv' := [(0, _)]) rfl ?_
  refine pw_aload_n dX10_workOut_0 rfl ?_
  refine pw_iconst (v := nI 0) dX10_workOut_1 (by decide) ?_
  refine pw_putI fX10_285 dX10_workOut_2 (Or.inl rfl) (by decide) (sh_lt hG (by decide)) (sh_tg hG 45 rfl) rfl ?_
  refine pw_aload_n dX10_workOut_5 rfl ?_
  refine pw_iconst (v := nI 0) dX10_workOut_6 (by decide) ?_
  refine pw_putI fX10_302 dX10_workOut_7 (Or.inl rfl) (by decide) (sh_lt hG (by decide)) (sh_tg hG 45 rfl) rfl ?_
  refine pw_aload_n dX10_workOut_10 rfl ?_
  refine pw_iconst (v := nI 0) dX10_workOut_11 (by decide) ?_
  refine pw_putI fX10_288 dX10_workOut_12 (Or.inl rfl) (by decide) (sh_lt hG (by decide)) (sh_tg hG 45 rfl) rfl ?_
  refine pw_aload_n dX10_workOut_15 rfl ?_
  refine pw_getR fX10_129 dX10_workOut_16 (sh_lt hG (by decide)) (sh_tg hG 45 rfl) rfl (gr_at hP 79 rfl) ?_
  refine pw_iconst (v := nI 0) dX10_workOut_19 (by decide) ?_
  refine pw_aload_n dX10_workOut_20 rfl ?_
  refine pw_getI fX10_220 dX10_workOut_21 (sh_lt hG (by decide)) (sh_tg hG 45 rfl) rfl ?_
  refine pw_ti (z := I 47 10) (by (repeat (first | rw [pm_u_ne (by decide)] | rw [pm_u_eq, pm_up_ne (by decide)])) <;> rfl) ?_
  refine pw_iastN 0 dX10_workOut_24 (by decide) (sh_lt hG (by decide)) (sh_sh hG 85 rfl) (by decide) (by decide) (by decide) ?_
  refine pw_aload_n dX10_workOut_25 rfl ?_
  refine pw_iconst (v := nI 0) dX10_workOut_26 (by decide) ?_
  refine pw_putI fX10_282 dX10_workOut_27 (Or.inl rfl) (by decide) (sh_lt hG (by decide)) (sh_tg hG 45 rfl) rfl ?_
  refine pw_aload_n dX10_workOut_30 rfl ?_
  refine pw_iconst (v := nI 0) dX10_workOut_31 (by decide) ?_
  refine pw_putI fX10_279 dX10_workOut_32 (Or.inl rfl) (by decide) (sh_lt hG (by decide)) (sh_tg hG 45 rfl) rfl ?_
  have hS := rS.start (x := I 47 10) hT
  refine pw_aload_n dX10_workOut_35 rfl ?_
  refine pw_aload_n dX10_workOut_36 rfl ?_
  refine pw_getR fX10_47 dX10_workOut_37 (sh_lt hG (by decide)) (sh_tg hG 45 rfl) rfl (gr_at hP 52 rfl) ?_
  refine pw_aload_n dX10_workOut_40 rfl ?_
  refine pw_getI fX10_220 dX10_workOut_41 (sh_lt hG (by decide)) (sh_tg hG 45 rfl) rfl ?_
  refine pw_ialdN kp dX10_workOut_44 (sh_lt hG (by decide)) (sh_sh hG 58 rfl) (by decide) (by (repeat (first | rw [pm_u_ne (by decide)] | rw [pm_u_eq, pm_up_ne (by decide)])); exact hkp) (by omega) ?_
  refine pw_ti (z := nI N) (by (repeat (first | rw [pm_u_ne (by decide)])); exact hroot) ?_
  refine pw_callV (as := [_]) (kc' := 0) (ks' := 0) lX10_314 dX10_workOut_45 rfl rfl (sh_lt hG (by decide)) (sh_tg hG 45 rfl) (Nat.le_of_ble_eq_true rfl) (by omega) (Nat.le_of_ble_eq_true rfl) (Nat.zero_le _) (Nat.zero_le _) ?_
  refine r_go hG hP hS (N := N) (by decide) (fun I2 h2 => ?_)
  have hE := evD_ok hO (dp := 0) (by decide) (ar := []) (pa := []) rfl T 0 A.th hwt (fun v hv => nomatch hv) hO.2.2.2.2.2.2.2.2.1 (Nat.le_refl _) (by decide) (by omega)
  refine e_Tev (Q := Q) hG hP hA hO (by omega) 20 0 rfl T [] [] [] I2 J [] [] 0 A.th N lo hi h2 rfl (Or.inl ⟨rfl, rfl, rfl⟩) (fun v hv => nomatch hv) hO.2.2.2.2.2.2.2.2.1 (Nat.le_refl _) (by decide) (by decide) (by omega) hny hhi hwt (fun v s' t' I' J' hev h hT' hvo hss htt => ?_) (fun e I' J' hev h => ?_)
  · exact LR_end hG hP h.rn (k1 v s' t' I' J' hev h.f h.fl (h.vl 0 v rfl) h.tt h.tt.1 ⟨s', hss.2, h.st⟩ h.1.2)
  · exact LR_x hG hP (hE.2 e hev) h.2.1 (k0 e I' J' hev (hE.2 e hev) h)
