theorem tk_k_s {tx : Nat → Nat} {n i : Nat} : tk_k tx n i < 2 ∨ 7 < tk_k tx n i := by
  have hk : ∀ p, tk_kind tx n p < 2 ∨ 7 < tk_kind tx n p := by
    intro p
    unfold tk_kind
    split
    · split
      · decide
      · unfold tk_word
        split
        · decide
        · split
          · decide
          · split <;> decide
    · split
      · split <;> decide
      · split
        · split <;> decide
        · split
          · rename_i h
            rcases Nat.lt_or_ge 7 (tx p) with h1 | h1
            · exact Or.inr h1
            · rcases (show tx p = 0 ∨ tx p = 1 ∨ tx p = 2 ∨ tx p = 3 ∨ tx p = 4 ∨ tx p = 5 ∨ tx p = 6 ∨ tx p = 7 by omega) with e | e | e | e | e | e | e | e <;> (rw [e] at h; exact absurd h (by decide))
          · decide
  unfold tk_k
  split
  · split
    · exact hk _
    · decide
  · decide
set_option maxRecDepth 20000 in
theorem rq0 {tx : Nat → Nat} {n i : Nat} (hb : ∀ j, j < n → tx j < 128) : rk (tk_k tx n i) = 0 ↔ tk_k tx n i = 0 :=
  (show ∀ k, k < 128 → (k < 2 ∨ 7 < k) → (rk k = 0 ↔ k = 0) by decide) _ (tk_k_c hb).1 tk_k_s
set_option maxRecDepth 20000 in
theorem rq97 {tx : Nat → Nat} {n i : Nat} (hb : ∀ j, j < n → tx j < 128) : rk (tk_k tx n i) = 1 ↔ tk_k tx n i = 97 :=
  (show ∀ k, k < 128 → (k < 2 ∨ 7 < k) → (rk k = 1 ↔ k = 97) by decide) _ (tk_k_c hb).1 tk_k_s
set_option maxRecDepth 20000 in
theorem rq48 {tx : Nat → Nat} {n i : Nat} (hb : ∀ j, j < n → tx j < 128) : rk (tk_k tx n i) = 2 ↔ tk_k tx n i = 48 :=
  (show ∀ k, k < 128 → (k < 2 ∨ 7 < k) → (rk k = 2 ↔ k = 48) by decide) _ (tk_k_c hb).1 tk_k_s
set_option maxRecDepth 20000 in
theorem rq36 {tx : Nat → Nat} {n i : Nat} (hb : ∀ j, j < n → tx j < 128) : rk (tk_k tx n i) = 3 ↔ tk_k tx n i = 36 :=
  (show ∀ k, k < 128 → (k < 2 ∨ 7 < k) → (rk k = 3 ↔ k = 36) by decide) _ (tk_k_c hb).1 tk_k_s
set_option maxRecDepth 20000 in
theorem rq118 {tx : Nat → Nat} {n i : Nat} (hb : ∀ j, j < n → tx j < 128) : rk (tk_k tx n i) = 4 ↔ tk_k tx n i = 118 :=
  (show ∀ k, k < 128 → (k < 2 ∨ 7 < k) → (rk k = 4 ↔ k = 118) by decide) _ (tk_k_c hb).1 tk_k_s
set_option maxRecDepth 20000 in
theorem rq100 {tx : Nat → Nat} {n i : Nat} (hb : ∀ j, j < n → tx j < 128) : rk (tk_k tx n i) = 5 ↔ tk_k tx n i = 100 :=
  (show ∀ k, k < 128 → (k < 2 ∨ 7 < k) → (rk k = 5 ↔ k = 100) by decide) _ (tk_k_c hb).1 tk_k_s
set_option maxRecDepth 20000 in
theorem rq116 {tx : Nat → Nat} {n i : Nat} (hb : ∀ j, j < n → tx j < 128) : rk (tk_k tx n i) = 6 ↔ tk_k tx n i = 116 :=
  (show ∀ k, k < 128 → (k < 2 ∨ 7 < k) → (rk k = 6 ↔ k = 116) by decide) _ (tk_k_c hb).1 tk_k_s
set_option maxRecDepth 20000 in
theorem rq37 {tx : Nat → Nat} {n i : Nat} (hb : ∀ j, j < n → tx j < 128) : rk (tk_k tx n i) = 37 ↔ tk_k tx n i = 37 :=
  (show ∀ k, k < 128 → (k < 2 ∨ 7 < k) → (rk k = 37 ↔ k = 37) by decide) _ (tk_k_c hb).1 tk_k_s
set_option maxRecDepth 20000 in
theorem rq40 {tx : Nat → Nat} {n i : Nat} (hb : ∀ j, j < n → tx j < 128) : rk (tk_k tx n i) = 40 ↔ tk_k tx n i = 40 :=
  (show ∀ k, k < 128 → (k < 2 ∨ 7 < k) → (rk k = 40 ↔ k = 40) by decide) _ (tk_k_c hb).1 tk_k_s
set_option maxRecDepth 20000 in
theorem rq41 {tx : Nat → Nat} {n i : Nat} (hb : ∀ j, j < n → tx j < 128) : rk (tk_k tx n i) = 41 ↔ tk_k tx n i = 41 :=
  (show ∀ k, k < 128 → (k < 2 ∨ 7 < k) → (rk k = 41 ↔ k = 41) by decide) _ (tk_k_c hb).1 tk_k_s
set_option maxRecDepth 20000 in
theorem rq42 {tx : Nat → Nat} {n i : Nat} (hb : ∀ j, j < n → tx j < 128) : rk (tk_k tx n i) = 42 ↔ tk_k tx n i = 42 :=
  (show ∀ k, k < 128 → (k < 2 ∨ 7 < k) → (rk k = 42 ↔ k = 42) by decide) _ (tk_k_c hb).1 tk_k_s
set_option maxRecDepth 20000 in
theorem rq43 {tx : Nat → Nat} {n i : Nat} (hb : ∀ j, j < n → tx j < 128) : rk (tk_k tx n i) = 43 ↔ tk_k tx n i = 43 :=
  (show ∀ k, k < 128 → (k < 2 ∨ 7 < k) → (rk k = 43 ↔ k = 43) by decide) _ (tk_k_c hb).1 tk_k_s
set_option maxRecDepth 20000 in
theorem rq44 {tx : Nat → Nat} {n i : Nat} (hb : ∀ j, j < n → tx j < 128) : rk (tk_k tx n i) = 44 ↔ tk_k tx n i = 44 :=
  (show ∀ k, k < 128 → (k < 2 ∨ 7 < k) → (rk k = 44 ↔ k = 44) by decide) _ (tk_k_c hb).1 tk_k_s
set_option maxRecDepth 20000 in
theorem rq45 {tx : Nat → Nat} {n i : Nat} (hb : ∀ j, j < n → tx j < 128) : rk (tk_k tx n i) = 45 ↔ tk_k tx n i = 45 :=
  (show ∀ k, k < 128 → (k < 2 ∨ 7 < k) → (rk k = 45 ↔ k = 45) by decide) _ (tk_k_c hb).1 tk_k_s
set_option maxRecDepth 20000 in
theorem rq46 {tx : Nat → Nat} {n i : Nat} (hb : ∀ j, j < n → tx j < 128) : rk (tk_k tx n i) = 46 ↔ tk_k tx n i = 46 :=
  (show ∀ k, k < 128 → (k < 2 ∨ 7 < k) → (rk k = 46 ↔ k = 46) by decide) _ (tk_k_c hb).1 tk_k_s
set_option maxRecDepth 20000 in
theorem rq47 {tx : Nat → Nat} {n i : Nat} (hb : ∀ j, j < n → tx j < 128) : rk (tk_k tx n i) = 47 ↔ tk_k tx n i = 47 :=
  (show ∀ k, k < 128 → (k < 2 ∨ 7 < k) → (rk k = 47 ↔ k = 47) by decide) _ (tk_k_c hb).1 tk_k_s
set_option maxRecDepth 20000 in
theorem rq58 {tx : Nat → Nat} {n i : Nat} (hb : ∀ j, j < n → tx j < 128) : rk (tk_k tx n i) = 58 ↔ tk_k tx n i = 58 :=
  (show ∀ k, k < 128 → (k < 2 ∨ 7 < k) → (rk k = 58 ↔ k = 58) by decide) _ (tk_k_c hb).1 tk_k_s
set_option maxRecDepth 20000 in
theorem rq60 {tx : Nat → Nat} {n i : Nat} (hb : ∀ j, j < n → tx j < 128) : rk (tk_k tx n i) = 60 ↔ tk_k tx n i = 60 :=
  (show ∀ k, k < 128 → (k < 2 ∨ 7 < k) → (rk k = 60 ↔ k = 60) by decide) _ (tk_k_c hb).1 tk_k_s
set_option maxRecDepth 20000 in
theorem rq61 {tx : Nat → Nat} {n i : Nat} (hb : ∀ j, j < n → tx j < 128) : rk (tk_k tx n i) = 61 ↔ tk_k tx n i = 61 :=
  (show ∀ k, k < 128 → (k < 2 ∨ 7 < k) → (rk k = 61 ↔ k = 61) by decide) _ (tk_k_c hb).1 tk_k_s
set_option maxRecDepth 20000 in
theorem rq63 {tx : Nat → Nat} {n i : Nat} (hb : ∀ j, j < n → tx j < 128) : rk (tk_k tx n i) = 63 ↔ tk_k tx n i = 63 :=
  (show ∀ k, k < 128 → (k < 2 ∨ 7 < k) → (rk k = 63 ↔ k = 63) by decide) _ (tk_k_c hb).1 tk_k_s
theorem nT.m0 {tx : Nat → Nat} {n kp : Nat} {pa : List Int64} {I : pmI} {J : pmJ} {s m f F N p : Nat} (hF : F = f + 1) (hb : 64 * kp + s ≤ N ∧ N < 64 * kp + m) (hp : I 67 N = nI p) {v : Int64} (h : I 63 N = nI 0) (hv : J 70 N = v) : nT tx n kp pa I J s m F N ([(2, p, 0, v)]) := by
  subst hF
  exact ⟨hb, p, hp, Or.inl ⟨v, h, hv, rfl⟩⟩
theorem nT.m1 {tx : Nat → Nat} {n kp : Nat} {pa : List Int64} {I : pmI} {J : pmJ} {s m f F N p : Nat} (hF : F = f + 1) (hb : 64 * kp + s ≤ N ∧ N < 64 * kp + m) (hp : I 67 N = nI p) {v : Int64} (h : I 63 N = nI 1) (hv : J 70 N = v) : nT tx n kp pa I J s m F N ([(3, p, v.toInt32, 0)]) := by
  subst hF
  exact ⟨hb, p, hp, Or.inr (Or.inl ⟨v, h, hv, rfl⟩)⟩
theorem nT.m2 {tx : Nat → Nat} {n kp : Nat} {pa : List Int64} {I : pmI} {J : pmJ} {s m f F N p : Nat} (hF : F = f + 1) (hb : 64 * kp + s ≤ N ∧ N < 64 * kp + m) (hp : I 67 N = nI p) {v : Int64} (h : I 63 N = nI 2) (hv : crT tx n I N v) : nT tx n kp pa I J s m F N (match ps_arg pa v 0 with | some j => [(4, p, nI j, 0)] | none => [(5, p, 0, v)]) := by
  subst hF
  exact ⟨hb, p, hp, Or.inr (Or.inr (Or.inl ⟨v, _, h, hv, rfl, rfl⟩))⟩
theorem nT.m3 {tx : Nat → Nat} {n kp : Nat} {pa : List Int64} {I : pmI} {J : pmJ} {s m f F N p : Nat} (hF : F = f + 1) (hb : 64 * kp + s ≤ N ∧ N < 64 * kp + m) (hp : I 67 N = nI p) {v : Int64} {g : Nat} {M1 M2 M3 : List dD} (h : I 63 N = nI 3) (hv : crT tx n I N v) (hg : I 69 N = nI g) (hg3 : g ≤ 3) (h1 : ((g < 1 ∧ M1 = []) ∨ (1 ≤ g ∧ ∃ c, I 64 N = nI c ∧ nT tx n kp pa I J s m f c M1))) (h2 : ((g < 2 ∧ M2 = []) ∨ (2 ≤ g ∧ ∃ c, I 65 N = nI c ∧ nT tx n kp pa I J s m f c M2))) (h3 : ((g < 3 ∧ M3 = []) ∨ (3 ≤ g ∧ ∃ c, I 66 N = nI c ∧ nT tx n kp pa I J s m f c M3))) : nT tx n kp pa I J s m F N ((6, p, nI g, v) :: (M1 ++ (M2 ++ (M3 ++ [(8, p, nI g, v)])))) := by
  subst hF
  exact ⟨hb, p, hp, Or.inr (Or.inr (Or.inr (Or.inl ⟨v, g, M1, M2, M3, h, hv, hg, hg3, h1, h2, h3, rfl⟩)))⟩
theorem nT.m4 {tx : Nat → Nat} {n kp : Nat} {pa : List Int64} {I : pmI} {J : pmJ} {s m f F N p : Nat} (hF : F = f + 1) (hb : 64 * kp + s ≤ N ∧ N < 64 * kp + m) (hp : I 67 N = nI p) {c : Nat} {M : List dD} (h : I 63 N = nI 4) (hc : I 64 N = nI c) (h1 : nT tx n kp pa I J s m f c M) : nT tx n kp pa I J s m F N ((1, p, 0, 0) :: (M ++ [(10, p, 0, 0)])) := by
  subst hF
  exact ⟨hb, p, hp, Or.inr (Or.inr (Or.inr (Or.inr (Or.inl ⟨c, M, h, hc, h1, rfl⟩))))⟩
theorem nT.m5 {tx : Nat → Nat} {n kp : Nat} {pa : List Int64} {I : pmI} {J : pmJ} {s m f F N p : Nat} (hF : F = f + 1) (hb : 64 * kp + s ≤ N ∧ N < 64 * kp + m) (hp : I 67 N = nI p) {v : Int64} {c : Nat} {M : List dD} (h : I 63 N = nI 5) (hv : crT tx n I N v) (hc : I 64 N = nI c) (h1 : nT tx n kp pa I J s m f c M) : nT tx n kp pa I J s m F N ((1, p, 0, 0) :: (M ++ [(9, p, 0, v)])) := by
  subst hF
  exact ⟨hb, p, hp, Or.inr (Or.inr (Or.inr (Or.inr (Or.inr (Or.inl ⟨v, c, M, h, hv, hc, h1, rfl⟩)))))⟩
theorem nT.m6 {tx : Nat → Nat} {n kp : Nat} {pa : List Int64} {I : pmI} {J : pmJ} {s m f F N p : Nat} (hF : F = f + 1) (hb : 64 * kp + s ≤ N ∧ N < 64 * kp + m) (hp : I 67 N = nI p) {x c1 c2 : Nat} {M1 M2 : List dD} (h : I 63 N = nI 6) (hv : J 70 N = (nI x).toInt64) (hx : lvl x ≤ 2) (hc1 : I 64 N = nI c1) (hc2 : I 65 N = nI c2) (h1 : nT tx n kp pa I J s m f c1 M1) (h2 : nT tx n kp pa I J s m f c2 M2) : nT tx n kp pa I J s m F N ((1, p, 0, 0) :: (M1 ++ (M2 ++ [(x, p, 0, 0)]))) := by
  subst hF
  exact ⟨hb, p, hp, Or.inr (Or.inr (Or.inr (Or.inr (Or.inr (Or.inr (Or.inl ⟨x, c1, c2, M1, M2, h, hv, hx, hc1, hc2, h1, h2, rfl⟩))))))⟩
theorem nT.m7 {tx : Nat → Nat} {n kp : Nat} {pa : List Int64} {I : pmI} {J : pmJ} {s m f F N p : Nat} (hF : F = f + 1) (hb : 64 * kp + s ≤ N ∧ N < 64 * kp + m) (hp : I 67 N = nI p) {c1 c2 c3 : Nat} {M1 M2 M3 : List dD} (h : I 63 N = nI 7) (hc1 : I 64 N = nI c1) (hc2 : I 65 N = nI c2) (hc3 : I 66 N = nI c3) (h1 : nT tx n kp pa I J s m f c1 M1) (h2 : nT tx n kp pa I J s m f c2 M2) (h3 : nT tx n kp pa I J s m f c3 M3) : nT tx n kp pa I J s m F N ((1, p, 0, 0) :: (M1 ++ (11, p, nI (M2.length + 1), 0) :: (M2 ++ (12, p, nI M3.length, 0) :: M3))) := by
  subst hF
  exact ⟨hb, p, hp, Or.inr (Or.inr (Or.inr (Or.inr (Or.inr (Or.inr (Or.inr (⟨c1, c2, c3, M1, M2, M3, h, hc1, hc2, hc3, h1, h2, h3, rfl⟩)))))))⟩
set_option maxRecDepth 20000 in
set_option maxHeartbeats 4000000 in
theorem t_qX0 {l : Launch} {E : pmE} {S : pmS} {P : pmP} {d : Nat} {Q : Option Value → pmS → pmI → pmJ → pmP → Prop} {tx : Nat → Nat} {n i kp : Nat} {pa : List Int64} {f : Nat} (hG : sh_St S) (hP : gr_St P) (hb : ∀ j, j < n → tx j < 128) (hd : 6 ≤ d) (h1 : qX l E S P d Q tx n i kp pa f 1) (h0 : qX l E S P d Q tx n i kp pa f 0) : qX l E S P d Q tx n i kp pa (f + 1) 0 := by
  intro a op T m I J r hs hk he ho hT hr k1 k0
  rw [ps_0] at hr
  have hkp := hs.2.1.2
  have hi6 := hs.1.2.1
  have hai := hs.2.2.1.2
  have hma := hs.2.2.2.2.2.2.1.2
  unfold LH
  refine pw_aload_n dX10_readExpr_10 rfl ?_
  refine pw_getI fX10_213 dX10_readExpr_11 (sh_lt hG (by decide)) (sh_tg hG 45 rfl) rfl ?_
  refine pw_ifN_le _ (tgt := 204) dX10_readExpr_14 (by decide) (hs.2.2.2.2.2.1.1) (by omega) (fun h14 => absurd h14 (by omega)) (fun h14 => ?_)
  refine pw_aload_n dX10_readExpr_17 rfl ?_
  refine pw_getI fX10_197 dX10_readExpr_18 (sh_lt hG (by decide)) (sh_tg hG 45 rfl) rfl ?_
  refine pw_if_ge (tgt := 204) dX10_readExpr_21 (by decide) (fun h => absurd h (by rw [hs.2.2.2.1]; decide)) (fun h21 => ?_)
  refine pw_aload_n dX10_readExpr_24 rfl ?_
  refine pw_getI fX10_213 dX10_readExpr_25 (sh_lt hG (by decide)) (sh_tg hG 45 rfl) rfl ?_
  refine pw_iconst (v := nI 1) dX10_readExpr_28 (by decide) ?_
  refine pw_isub dX10_readExpr_29 ?_
  refine pw_ti (z := nI T) (by rw [hs.2.2.2.2.2.1.1]; exact nI_pred T) ?_
  refine pw_istore_n (lv' := [(1, _), (0, _)]) dX10_readExpr_30 (by decide) rfl ?_
  refine pw_aload_n dX10_readExpr_31 rfl ?_
  refine pw_getR fX10_108 dX10_readExpr_32 (sh_lt hG (by decide)) (sh_tg hG 45 rfl) rfl (gr_at hP 72 rfl) ?_
  refine pw_iload_n dX10_readExpr_35 rfl ?_
  refine pw_ialdN T dX10_readExpr_36 (sh_lt hG (by decide)) (sh_sh hG 78 rfl) (by decide) (rfl) (by omega) ?_
  refine pw_ti (z := nI 0) hk ?_
  refine pw_tableIn (off := 35) (tgt := 72) dX10_readExpr_37 (by decide) (by decide) (by decide) (by decide) ?_
  refine pw_aload_n dX10_readExpr_72 rfl ?_
  refine pw_iload_n dX10_readExpr_73 rfl ?_
  refine pw_callV (as := [_]) (kc' := 0) (ks' := 0) lX10_250 dX10_readExpr_74 rfl rfl (sh_lt hG (by decide)) (sh_tg hG 45 rfl) (Nat.le_of_ble_eq_true rfl) (by omega) (Nat.le_of_ble_eq_true rfl) (Nat.zero_le _) (Nat.zero_le _) ?_
  unfold pm_Met
  refine pm_lvs (lv' := [(0, _), (1, _)]) rfl ?_
  refine pw_aload_n dX10_expr_0 rfl ?_
  refine pw_getR fX10_111 dX10_expr_1 (sh_lt hG (by decide)) (sh_tg hG 45 rfl) rfl (gr_at hP 73 rfl) ?_
  refine pw_iload_n dX10_expr_4 rfl ?_
  refine pw_ialdN T dX10_expr_5 (sh_lt hG (by decide)) (sh_sh hG 79 rfl) (by decide) (rfl) (by omega) ?_
  refine pw_ti (z := nI 0) he ?_
  refine pw_tableIn (off := 26) (tgt := 32) dX10_expr_6 (by decide) (by decide) (by decide) (by decide) ?_
  refine pw_aload_n dX10_expr_32 rfl ?_
  refine pw_iconst (v := nI 1) dX10_expr_33 (by decide) ?_
  refine pw_iconst (v := nI 1) dX10_expr_34 (by decide) ?_
  refine pw_callV (as := [_, _]) (kc' := 0) (ks' := 0) lX10_226 dX10_expr_35 rfl rfl (sh_lt hG (by decide)) (sh_tg hG 45 rfl) (Nat.le_of_ble_eq_true rfl) (by omega) (Nat.le_of_ble_eq_true rfl) (Nat.zero_le _) (Nat.zero_le _) ?_
  refine c_X10_then hG hP (by omega) hs (by omega) (s := 1) (k := 1) (fun I1 hA => ?_)
  refine pw_goto (tgt := 179) dX10_expr_38 (by decide) ?_
  refine pw_vret dX10_expr_179 rfl ?_
  refine pw_goto (tgt := 201) dX10_readExpr_77 (by decide) ?_
  refine pw_goto (tgt := 10) dX10_readExpr_201 (by decide) ?_
  refine pw_sub [1] rfl ?_
  rcases pb_so hr with ⟨e, hq, her⟩ | ⟨b, L, hq, hr⟩
  · exact h1 a op (T + 1) m I1 J _ hA.1 hA.2.1.1 hA.2.1.2 ho (by omega) hq (fun b L N m' I' J' hh => nomatch hh) (fun e' I' J' hh hF hf => by cases hh; exact (k0.mv hA.2.2.2.2.2 (by omega)) e I' J' her hF hf)
  · refine h1 a op (T + 1) m I1 J _ hA.1 hA.2.1.1 hA.2.1.2 ho (by omega) hq (fun b' L' N1 m1 I2 J2 hh hs2 hre2 hnd2 hm2 hf2 => ?_) (fun e' I' J' hh => nomatch hh)
    cases hh
    have hes2 : I2 81 T = nI 1 := by rw [hf2.2.2.1 81 T (by decide) (by decide) (by omega)]; exact hA.2.2.1.1
    have hk2 : I2 80 T = nI 0 := by rw [hf2.2.2.1 80 T (by decide) (by decide) (by omega), hA.2.2.1.2]; exact hk
    have hfA := hA.2.2.2.2.2.trans hf2 (by omega) (by omega)
    have hkc := (rk_c (tk_k_c (tx := tx) (n := n) (i := b) hb).1)
    have hbi := hs2.2.2.1.2
    have hmb := hs2.2.2.2.2.2.2.1.2
    unfold LH
    refine pw_aload_n dX10_readExpr_10 rfl ?_
    refine pw_getI fX10_213 dX10_readExpr_11 (sh_lt hG (by decide)) (sh_tg hG 45 rfl) rfl ?_
    refine pw_ifN_le _ (tgt := 204) dX10_readExpr_14 (by decide) (hs2.2.2.2.2.2.1.1) (by omega) (fun h14 => absurd h14 (by omega)) (fun h14 => ?_)
    refine pw_aload_n dX10_readExpr_17 rfl ?_
    refine pw_getI fX10_197 dX10_readExpr_18 (sh_lt hG (by decide)) (sh_tg hG 45 rfl) rfl ?_
    refine pw_if_ge (tgt := 204) dX10_readExpr_21 (by decide) (fun h => absurd h (by rw [hs2.2.2.2.1]; decide)) (fun h21 => ?_)
    refine pw_aload_n dX10_readExpr_24 rfl ?_
    refine pw_getI fX10_213 dX10_readExpr_25 (sh_lt hG (by decide)) (sh_tg hG 45 rfl) rfl ?_
    refine pw_iconst (v := nI 1) dX10_readExpr_28 (by decide) ?_
    refine pw_isub dX10_readExpr_29 ?_
    refine pw_ti (z := nI T) (by rw [hs2.2.2.2.2.2.1.1]; exact nI_pred T) ?_
    refine pw_istore_n (lv' := [(1, _), (0, _)]) dX10_readExpr_30 (by decide) rfl ?_
    refine pw_aload_n dX10_readExpr_31 rfl ?_
    refine pw_getR fX10_108 dX10_readExpr_32 (sh_lt hG (by decide)) (sh_tg hG 45 rfl) rfl (gr_at hP 72 rfl) ?_
    refine pw_iload_n dX10_readExpr_35 rfl ?_
    refine pw_ialdN T dX10_readExpr_36 (sh_lt hG (by decide)) (sh_sh hG 78 rfl) (by decide) (rfl) (by omega) ?_
    refine pw_ti (z := nI 0) hk2 ?_
    refine pw_tableIn (off := 35) (tgt := 72) dX10_readExpr_37 (by decide) (by decide) (by decide) (by decide) ?_
    refine pw_aload_n dX10_readExpr_72 rfl ?_
    refine pw_iload_n dX10_readExpr_73 rfl ?_
    refine pw_callV (as := [_]) (kc' := 0) (ks' := 0) lX10_250 dX10_readExpr_74 rfl rfl (sh_lt hG (by decide)) (sh_tg hG 45 rfl) (Nat.le_of_ble_eq_true rfl) (by omega) (Nat.le_of_ble_eq_true rfl) (Nat.zero_le _) (Nat.zero_le _) ?_
    unfold pm_Met
    refine pm_lvs (lv' := [(0, _), (1, _)]) rfl ?_
    refine pw_aload_n dX10_expr_0 rfl ?_
    refine pw_getR fX10_111 dX10_expr_1 (sh_lt hG (by decide)) (sh_tg hG 45 rfl) rfl (gr_at hP 73 rfl) ?_
    refine pw_iload_n dX10_expr_4 rfl ?_
    refine pw_ialdN T dX10_expr_5 (sh_lt hG (by decide)) (sh_sh hG 79 rfl) (by decide) (rfl) (by omega) ?_
    refine pw_ti (z := nI 1) hes2 ?_
    refine pw_tableIn (off := 35) (tgt := 41) dX10_expr_6 (by decide) (by decide) (by decide) (by decide) ?_
    refine pw_aload_n dX10_expr_41 rfl ?_
    refine pw_callV (as := []) (kc' := 0) (ks' := 0) lX10_200 dX10_expr_42 rfl rfl (sh_lt hG (by decide)) (sh_tg hG 45 rfl) (Nat.le_of_ble_eq_true rfl) (by omega) (Nat.le_of_ble_eq_true rfl) (Nat.zero_le _) (Nat.zero_le _) ?_
    refine c_X10_tok hG hP hs2 ?_
    refine pw_bipush (v := nI 63) dX10_expr_45 (by decide) ?_
    refine pw_icmpN_eq _ _ (tgt := 63) dX10_expr_47 (by decide) (rfl) (rfl) (by omega) (by omega) (fun hX10_expr_47 => ?_) (fun hX10_expr_47 => ?_)
    · have hq1 := (rq63 hb).mp hX10_expr_47
      rw [if_pos hq1] at hr
      have hbl := hs2.lt (by rw [hq1]; decide) (by rw [hq1]; decide)
      have hs3 := (hs2.fr' (b := 82) (j := T) (by decide) (by decide) (nI N1)).fr' (b := 83) (j := T) (by decide) (by decide) (nI b)
      have hf3 : fq T (64 * kp + m) I (pm_u (pm_u I2 82 T (nI N1)) 83 T (nI b)) J J2 := (hfA.trans (fq.frm (T := T) (K := 64 * kp + m) (by decide) (by decide) (Nat.le_refl _)) (Nat.le_refl _) (Nat.le_refl _)).trans (fq.frm (T := T) (K := 64 * kp + m) (by decide) (by decide) (Nat.le_refl _)) (Nat.le_refl _) (Nat.le_refl _)
      refine pw_aload_n dX10_expr_63 rfl ?_
      refine pw_getR fX10_114 dX10_expr_64 (sh_lt hG (by decide)) (sh_tg hG 45 rfl) rfl (gr_at hP 74 rfl) ?_
      refine pw_iload_n dX10_expr_67 rfl ?_
      refine pw_aload_n dX10_expr_68 rfl ?_
      refine pw_getI fX10_230 dX10_expr_69 (sh_lt hG (by decide)) (sh_tg hG 45 rfl) rfl ?_
      refine pw_ti (z := nI N1) hre2 ?_
      refine pw_iastN T dX10_expr_72 (by decide) (sh_lt hG (by decide)) (sh_sh hG 80 rfl) (by decide) (rfl) (by omega) ?_
      refine pw_aload_n dX10_expr_73 rfl ?_
      refine pw_getR fX10_117 dX10_expr_74 (sh_lt hG (by decide)) (sh_tg hG 45 rfl) rfl (gr_at hP 75 rfl) ?_
      refine pw_iload_n dX10_expr_77 rfl ?_
      refine pw_aload_n dX10_expr_78 rfl ?_
      refine pw_getI fX10_194 dX10_expr_79 (sh_lt hG (by decide)) (sh_tg hG 45 rfl) rfl ?_
      refine pw_ti (z := nI b) (by rw [pm_u_ne (by decide)]; exact hs2.2.2.1.1) ?_
      refine pw_iastN T dX10_expr_82 (by decide) (sh_lt hG (by decide)) (sh_sh hG 81 rfl) (by decide) (rfl) (by omega) ?_
      refine pw_aload_n dX10_expr_83 rfl ?_
      refine pw_callV (as := []) (kc' := 0) (ks' := 0) lX10_233 dX10_expr_84 rfl rfl (sh_lt hG (by decide)) (sh_tg hG 45 rfl) (Nat.le_of_ble_eq_true rfl) (by omega) (Nat.le_of_ble_eq_true rfl) (Nat.zero_le _) (Nat.zero_le _) ?_
      refine c_X10_opens hG hP (by omega) hs3 ho (fun hlt => ?_) (fun hge => ?_)
      · rw [if_neg (by omega)] at hr
        have hs4 := (hs3.op' (op + 1)).at' (b := b + 1) (by omega) (by omega)
        have hf4 := (hf3.trans (fq.put (T := T) (K := 64 * kp + m) (k := 42) (x := nI (op + 1)) (by decide) (by decide)) (Nat.le_refl _) (Nat.le_refl _)).trans (fq.put (T := T) (K := 64 * kp + m) (k := 40) (x := nI (b + 1)) (by decide) (by decide)) (Nat.le_refl _) (Nat.le_refl _)
        refine pw_if_eq (tgt := 179) dX10_expr_87 (by decide) (fun h => absurd h (by decide)) (fun hX10_expr_87 => ?_)
        refine pw_aload_n dX10_expr_90 rfl ?_
        refine pw_iconst (v := nI 2) dX10_expr_91 (by decide) ?_
        refine pw_iconst (v := nI 0) dX10_expr_92 (by decide) ?_
        refine pw_callV (as := [_, _]) (kc' := 0) (ks' := 0) lX10_226 dX10_expr_93 rfl rfl (sh_lt hG (by decide)) (sh_tg hG 45 rfl) (Nat.le_of_ble_eq_true rfl) (by omega) (Nat.le_of_ble_eq_true rfl) (Nat.zero_le _) (Nat.zero_le _) ?_
        refine c_X10_then hG hP (by omega) hs4 (by omega) (s := 2) (k := 0) (fun I5 hB => ?_)
        refine pw_goto (tgt := 179) dX10_expr_96 (by decide) ?_
        refine pw_vret dX10_expr_179 rfl ?_
        refine pw_goto (tgt := 201) dX10_readExpr_77 (by decide) ?_
        refine pw_goto (tgt := 10) dX10_readExpr_201 (by decide) ?_
        refine pw_sub [1] rfl ?_
        have hf5 := hf4.trans hB.2.2.2.2.2 (Nat.le_refl _) (by omega)
        rcases pb_so hr with ⟨e, hq, her⟩ | ⟨c, L2, hq, hr⟩
        · exact h0 (b + 1) (op + 1) (T + 1) m1 I5 J2 _ hB.1 hB.2.1.1 hB.2.1.2 (by omega) (by omega) hq (fun b L N m' I' J' hh => nomatch hh) (fun e' I' J' hh hF hf => by cases hh; exact (k0.mv hf5 (by omega)) e I' J' her hF hf)
        · refine h0 (b + 1) (op + 1) (T + 1) m1 I5 J2 _ hB.1 hB.2.1.1 hB.2.1.2 (by omega) (by omega) hq (fun b' L' N2 m2 I6 J6 hh hs6 hre6 hnd6 hm6 hf6 => ?_) (fun e' I' J' hh => nomatch hh)
          cases hh
          have hes6 : I6 81 T = nI 2 := by rw [hf6.2.2.1 81 T (by decide) (by decide) (by omega)]; exact hB.2.2.1.1
          have hk6 : I6 80 T = nI 0 := by rw [hf6.2.2.1 80 T (by decide) (by decide) (by omega), hB.2.2.1.2, pm_u_ne (by decide), pm_u_ne (by decide), pm_u_ne (by decide), pm_u_ne (by decide)]; exact hk2
          have ha6 : I6 82 T = nI N1 := by rw [hf6.2.2.1 82 T (by decide) (by decide) (by omega), hB.2.2.2.1 82 (by decide) (by decide), pm_u_ne (by decide), pm_u_ne (by decide), pm_u_ne (by decide), pm_u_eq, pm_up_eq]
          have hb6 : I6 83 T = nI b := by rw [hf6.2.2.1 83 T (by decide) (by decide) (by omega), hB.2.2.2.1 83 (by decide) (by decide), pm_u_ne (by decide), pm_u_ne (by decide), pm_u_eq, pm_up_eq]
          have hf6' := hf5.trans hf6 (by omega) (by omega)
          have hnd1 : nT tx n kp pa I6 J6 m m2 (m2 - m) N1 L := hnd2.up (((((fq.frm (T := T) (K := 64 * kp + m1) (a := 82) (j := T) (x := nI N1) (by decide) (by decide) (Nat.le_refl _)).trans (fq.frm (T := T) (K := 64 * kp + m1) (a := 83) (j := T) (x := nI b) (by decide) (by decide) (Nat.le_refl _)) (Nat.le_refl _) (Nat.le_refl _)).trans (fq.put (T := T) (K := 64 * kp + m1) (k := 42) (x := nI (op + 1)) (by decide) (by decide)) (Nat.le_refl _) (Nat.le_refl _)).trans (fq.put (T := T) (K := 64 * kp + m1) (k := 40) (x := nI (b + 1)) (by decide) (by decide)) (Nat.le_refl _) (Nat.le_refl _)).trans (hB.2.2.2.2.2.trans hf6 (by omega) (Nat.le_refl _)) (Nat.le_refl _) (Nat.le_refl _)) (by omega) (by omega)
          have hkc6 := (rk_c (tk_k_c (tx := tx) (n := n) (i := c) hb).1)
          have hci := hs6.2.2.1.2
          have hmc := hs6.2.2.2.2.2.2.1.2
          have hs7 := hs6.fr' (b := 84) (j := T) (by decide) (by decide) (nI N2)
          have hf7 : fq T (64 * kp + m) I (pm_u I6 84 T (nI N2)) J J6 := hf6'.trans (fq.frm (T := T) (K := 64 * kp + m) (by decide) (by decide) (Nat.le_refl _)) (Nat.le_refl _) (Nat.le_refl _)
          unfold LH
          refine pw_aload_n dX10_readExpr_10 rfl ?_
          refine pw_getI fX10_213 dX10_readExpr_11 (sh_lt hG (by decide)) (sh_tg hG 45 rfl) rfl ?_
          refine pw_ifN_le _ (tgt := 204) dX10_readExpr_14 (by decide) (hs6.2.2.2.2.2.1.1) (by omega) (fun h14 => absurd h14 (by omega)) (fun h14 => ?_)
          refine pw_aload_n dX10_readExpr_17 rfl ?_
          refine pw_getI fX10_197 dX10_readExpr_18 (sh_lt hG (by decide)) (sh_tg hG 45 rfl) rfl ?_
          refine pw_if_ge (tgt := 204) dX10_readExpr_21 (by decide) (fun h => absurd h (by rw [hs6.2.2.2.1]; decide)) (fun h21 => ?_)
          refine pw_aload_n dX10_readExpr_24 rfl ?_
          refine pw_getI fX10_213 dX10_readExpr_25 (sh_lt hG (by decide)) (sh_tg hG 45 rfl) rfl ?_
          refine pw_iconst (v := nI 1) dX10_readExpr_28 (by decide) ?_
          refine pw_isub dX10_readExpr_29 ?_
          refine pw_ti (z := nI T) (by rw [hs6.2.2.2.2.2.1.1]; exact nI_pred T) ?_
          refine pw_istore_n (lv' := [(1, _), (0, _)]) dX10_readExpr_30 (by decide) rfl ?_
          refine pw_aload_n dX10_readExpr_31 rfl ?_
          refine pw_getR fX10_108 dX10_readExpr_32 (sh_lt hG (by decide)) (sh_tg hG 45 rfl) rfl (gr_at hP 72 rfl) ?_
          refine pw_iload_n dX10_readExpr_35 rfl ?_
          refine pw_ialdN T dX10_readExpr_36 (sh_lt hG (by decide)) (sh_sh hG 78 rfl) (by decide) (rfl) (by omega) ?_
          refine pw_ti (z := nI 0) hk6 ?_
          refine pw_tableIn (off := 35) (tgt := 72) dX10_readExpr_37 (by decide) (by decide) (by decide) (by decide) ?_
          refine pw_aload_n dX10_readExpr_72 rfl ?_
          refine pw_iload_n dX10_readExpr_73 rfl ?_
          refine pw_callV (as := [_]) (kc' := 0) (ks' := 0) lX10_250 dX10_readExpr_74 rfl rfl (sh_lt hG (by decide)) (sh_tg hG 45 rfl) (Nat.le_of_ble_eq_true rfl) (by omega) (Nat.le_of_ble_eq_true rfl) (Nat.zero_le _) (Nat.zero_le _) ?_
          unfold pm_Met
          refine pm_lvs (lv' := [(0, _), (1, _)]) rfl ?_
          refine pw_aload_n dX10_expr_0 rfl ?_
          refine pw_getR fX10_111 dX10_expr_1 (sh_lt hG (by decide)) (sh_tg hG 45 rfl) rfl (gr_at hP 73 rfl) ?_
          refine pw_iload_n dX10_expr_4 rfl ?_
          refine pw_ialdN T dX10_expr_5 (sh_lt hG (by decide)) (sh_sh hG 79 rfl) (by decide) (rfl) (by omega) ?_
          refine pw_ti (z := nI 2) hes6 ?_
          refine pw_tableIn (off := 93) (tgt := 99) dX10_expr_6 (by decide) (by decide) (by decide) (by decide) ?_
          refine pw_aload_n dX10_expr_99 rfl ?_
          refine pw_getR fX10_120 dX10_expr_100 (sh_lt hG (by decide)) (sh_tg hG 45 rfl) rfl (gr_at hP 76 rfl) ?_
          refine pw_iload_n dX10_expr_103 rfl ?_
          refine pw_aload_n dX10_expr_104 rfl ?_
          refine pw_getI fX10_230 dX10_expr_105 (sh_lt hG (by decide)) (sh_tg hG 45 rfl) rfl ?_
          refine pw_ti (z := nI N2) hre6 ?_
          refine pw_iastN T dX10_expr_108 (by decide) (sh_lt hG (by decide)) (sh_sh hG 82 rfl) (by decide) (rfl) (by omega) ?_
          refine pw_aload_n dX10_expr_109 rfl ?_
          refine pw_bipush (v := nI 58) dX10_expr_110 (by decide) ?_
          refine pw_callV (as := [_]) (kc' := 0) (ks' := 0) lX10_237 dX10_expr_112 rfl rfl (sh_lt hG (by decide)) (sh_tg hG 45 rfl) (Nat.le_of_ble_eq_true rfl) (by omega) (Nat.le_of_ble_eq_true rfl) (Nat.zero_le _) (Nat.zero_le _) ?_
          refine c_X10_need hG hP (by omega) hs7 hb (c := 58) (by decide) (fun hc1 => ?_) (fun hc0 => ?_)
          · have hc1 := (rq58 hb).mp hc1
            rw [if_pos hc1] at hr
            have hcl := hs6.lt (by rw [hc1]; decide) (by rw [hc1]; decide)
            have hs8 := hs7.at' (b := c + 1) (by omega) (by omega)
            have hf8 := hf7.trans (fq.put (T := T) (K := 64 * kp + m) (k := 40) (x := nI (c + 1)) (by decide) (by decide)) (Nat.le_refl _) (Nat.le_refl _)
            refine pw_if_eq (tgt := 179) dX10_expr_115 (by decide) (fun h => absurd h (by decide)) (fun hX10_expr_115 => ?_)
            refine pw_aload_n dX10_expr_118 rfl ?_
            refine pw_iconst (v := nI 3) dX10_expr_119 (by decide) ?_
            refine pw_iconst (v := nI 0) dX10_expr_120 (by decide) ?_
            refine pw_callV (as := [_, _]) (kc' := 0) (ks' := 0) lX10_226 dX10_expr_121 rfl rfl (sh_lt hG (by decide)) (sh_tg hG 45 rfl) (Nat.le_of_ble_eq_true rfl) (by omega) (Nat.le_of_ble_eq_true rfl) (Nat.zero_le _) (Nat.zero_le _) ?_
            refine c_X10_then hG hP (by omega) hs8 (by omega) (s := 3) (k := 0) (fun I9 hC => ?_)
            refine pw_goto (tgt := 179) dX10_expr_124 (by decide) ?_
            refine pw_vret dX10_expr_179 rfl ?_
            refine pw_goto (tgt := 201) dX10_readExpr_77 (by decide) ?_
            refine pw_goto (tgt := 10) dX10_readExpr_201 (by decide) ?_
            refine pw_sub [1] rfl ?_
            have hf9 := hf8.trans hC.2.2.2.2.2 (Nat.le_refl _) (by omega)
            rcases pb_so hr with ⟨e, hq, her⟩ | ⟨e3, L3, hq, hr⟩
            · exact h0 (c + 1) (op + 1) (T + 1) m2 I9 J6 _ hC.1 hC.2.1.1 hC.2.1.2 (by omega) (by omega) hq (fun b L N m' I' J' hh => nomatch hh) (fun e' I' J' hh hF hf => by cases hh; exact (k0.mv hf9 (by omega)) e I' J' her hF hf)
            · refine h0 (c + 1) (op + 1) (T + 1) m2 I9 J6 _ hC.1 hC.2.1.1 hC.2.1.2 (by omega) (by omega) hq (fun b' L' N3 m3 I10 J10 hh hs10 hre10 hnd10 hm10 hf10 => ?_) (fun e' I' J' hh => nomatch hh)
              cases hh
              have hes10 : I10 81 T = nI 3 := by rw [hf10.2.2.1 81 T (by decide) (by decide) (by omega)]; exact hC.2.2.1.1
              have hk10 : I10 80 T = nI 0 := by rw [hf10.2.2.1 80 T (by decide) (by decide) (by omega), hC.2.2.1.2, pm_u_ne (by decide), pm_u_ne (by decide)]; exact hk6
              have ha10 : I10 82 T = nI N1 := by rw [hf10.2.2.1 82 T (by decide) (by decide) (by omega), hC.2.2.2.1 82 (by decide) (by decide), pm_u_ne (by decide), pm_u_ne (by decide)]; exact ha6
              have hb10 : I10 83 T = nI b := by rw [hf10.2.2.1 83 T (by decide) (by decide) (by omega), hC.2.2.2.1 83 (by decide) (by decide), pm_u_ne (by decide), pm_u_ne (by decide)]; exact hb6
              have hc10 : I10 84 T = nI N2 := by rw [hf10.2.2.1 84 T (by decide) (by decide) (by omega), hC.2.2.2.1 84 (by decide) (by decide), pm_u_ne (by decide), pm_u_eq, pm_up_eq]
              have hf10' := hf9.trans hf10 (by omega) (by omega)
              have hn1 : nT tx n kp pa I10 J10 m m3 (m3 - m) N1 L := hnd1.up (((fq.frm (T := T) (K := 64 * kp + m2) (a := 84) (j := T) (x := nI N2) (by decide) (by decide) (Nat.le_refl _)).trans (fq.put (T := T) (K := 64 * kp + m2) (k := 40) (x := nI (c + 1)) (by decide) (by decide)) (Nat.le_refl _) (Nat.le_refl _)).trans (hC.2.2.2.2.2.trans hf10 (by omega) (Nat.le_refl _)) (Nat.le_refl _) (Nat.le_refl _)) (by omega) (by omega)
              have hn2 : nT tx n kp pa I10 J10 m m3 (m3 - m) N2 L2 := hnd6.up (((fq.frm (T := T) (K := 64 * kp + m2) (a := 84) (j := T) (x := nI N2) (by decide) (by decide) (Nat.le_refl _)).trans (fq.put (T := T) (K := 64 * kp + m2) (k := 40) (x := nI (c + 1)) (by decide) (by decide)) (Nat.le_refl _) (Nat.le_refl _)).trans (hC.2.2.2.2.2.trans hf10 (by omega) (Nat.le_refl _)) (Nat.le_refl _) (Nat.le_refl _)) (by omega) (by omega)
              have hn3 : nT tx n kp pa I10 J10 m m3 (m3 - m) N3 L3 := hnd10.up (fq.refl (T := 0)) (Nat.le_refl _) (by omega)
              have hme := hs10.2.2.2.2.2.2.1.2
              have hei := hs10.2.2.1.2
              unfold LH
              refine pw_aload_n dX10_readExpr_10 rfl ?_
              refine pw_getI fX10_213 dX10_readExpr_11 (sh_lt hG (by decide)) (sh_tg hG 45 rfl) rfl ?_
              refine pw_ifN_le _ (tgt := 204) dX10_readExpr_14 (by decide) (hs10.2.2.2.2.2.1.1) (by omega) (fun h14 => absurd h14 (by omega)) (fun h14 => ?_)
              refine pw_aload_n dX10_readExpr_17 rfl ?_
              refine pw_getI fX10_197 dX10_readExpr_18 (sh_lt hG (by decide)) (sh_tg hG 45 rfl) rfl ?_
              refine pw_if_ge (tgt := 204) dX10_readExpr_21 (by decide) (fun h => absurd h (by rw [hs10.2.2.2.1]; decide)) (fun h21 => ?_)
              refine pw_aload_n dX10_readExpr_24 rfl ?_
              refine pw_getI fX10_213 dX10_readExpr_25 (sh_lt hG (by decide)) (sh_tg hG 45 rfl) rfl ?_
              refine pw_iconst (v := nI 1) dX10_readExpr_28 (by decide) ?_
              refine pw_isub dX10_readExpr_29 ?_
              refine pw_ti (z := nI T) (by rw [hs10.2.2.2.2.2.1.1]; exact nI_pred T) ?_
              refine pw_istore_n (lv' := [(1, _), (0, _)]) dX10_readExpr_30 (by decide) rfl ?_
              refine pw_aload_n dX10_readExpr_31 rfl ?_
              refine pw_getR fX10_108 dX10_readExpr_32 (sh_lt hG (by decide)) (sh_tg hG 45 rfl) rfl (gr_at hP 72 rfl) ?_
              refine pw_iload_n dX10_readExpr_35 rfl ?_
              refine pw_ialdN T dX10_readExpr_36 (sh_lt hG (by decide)) (sh_sh hG 78 rfl) (by decide) (rfl) (by omega) ?_
              refine pw_ti (z := nI 0) hk10 ?_
              refine pw_tableIn (off := 35) (tgt := 72) dX10_readExpr_37 (by decide) (by decide) (by decide) (by decide) ?_
              refine pw_aload_n dX10_readExpr_72 rfl ?_
              refine pw_iload_n dX10_readExpr_73 rfl ?_
              refine pw_callV (as := [_]) (kc' := 0) (ks' := 0) lX10_250 dX10_readExpr_74 rfl rfl (sh_lt hG (by decide)) (sh_tg hG 45 rfl) (Nat.le_of_ble_eq_true rfl) (by omega) (Nat.le_of_ble_eq_true rfl) (Nat.zero_le _) (Nat.zero_le _) ?_
              unfold pm_Met
              refine pm_lvs (lv' := [(0, _), (1, _)]) rfl ?_
              refine pw_aload_n dX10_expr_0 rfl ?_
              refine pw_getR fX10_111 dX10_expr_1 (sh_lt hG (by decide)) (sh_tg hG 45 rfl) rfl (gr_at hP 73 rfl) ?_
              refine pw_iload_n dX10_expr_4 rfl ?_
              refine pw_ialdN T dX10_expr_5 (sh_lt hG (by decide)) (sh_sh hG 79 rfl) (by decide) (rfl) (by omega) ?_
              refine pw_ti (z := nI 3) hes10 ?_
              refine pw_tableOut (tgt := 127) dX10_expr_6 (by decide) (by decide) ?_
              refine pw_aload_n dX10_expr_127 rfl ?_
              refine pw_aload_n dX10_expr_128 rfl ?_
              refine pw_bipush (v := nI 7) dX10_expr_129 (by decide) ?_
              refine pw_aload_n dX10_expr_131 rfl ?_
              refine pw_getR fX10_117 dX10_expr_132 (sh_lt hG (by decide)) (sh_tg hG 45 rfl) rfl (gr_at hP 75 rfl) ?_
              refine pw_iload_n dX10_expr_135 rfl ?_
              refine pw_ialdN T dX10_expr_136 (sh_lt hG (by decide)) (sh_sh hG 81 rfl) (by decide) (rfl) (by omega) ?_
              refine pw_ti (z := nI b) hb10 ?_
              refine pw_aload_n dX10_expr_137 rfl ?_
              refine pw_getR fX10_114 dX10_expr_138 (sh_lt hG (by decide)) (sh_tg hG 45 rfl) rfl (gr_at hP 74 rfl) ?_
              refine pw_iload_n dX10_expr_141 rfl ?_
              refine pw_ialdN T dX10_expr_142 (sh_lt hG (by decide)) (sh_sh hG 80 rfl) (by decide) (rfl) (by omega) ?_
              refine pw_ti (z := nI N1) ha10 ?_
              refine pw_aload_n dX10_expr_143 rfl ?_
              refine pw_getR fX10_120 dX10_expr_144 (sh_lt hG (by decide)) (sh_tg hG 45 rfl) rfl (gr_at hP 76 rfl) ?_
              refine pw_iload_n dX10_expr_147 rfl ?_
              refine pw_ialdN T dX10_expr_148 (sh_lt hG (by decide)) (sh_sh hG 82 rfl) (by decide) (rfl) (by omega) ?_
              refine pw_ti (z := nI N2) hc10 ?_
              refine pw_aload_n dX10_expr_149 rfl ?_
              refine pw_getI fX10_230 dX10_expr_150 (sh_lt hG (by decide)) (sh_tg hG 45 rfl) rfl ?_
              refine pw_ti (z := nI N3) hre10 ?_
              refine pw_callV (as := [_, _, _, _, _]) (kc' := 0) (ks' := 0) lX10_240 dX10_expr_153 rfl rfl (sh_lt hG (by decide)) (sh_tg hG 45 rfl) (Nat.le_of_ble_eq_true rfl) (by omega) (Nat.le_of_ble_eq_true rfl) (Nat.zero_le _) (Nat.zero_le _) ?_
              refine c_X10_node hG hP hs10 (t := b) (by omega) (by omega) ?_
              have hsN := hs10.node (x := nI 7) (t := nI b) (p := nI (tk_p tx n b)) (v := J10 79 b) (by omega) hn1.ch hn2.ch hn3.ch
              have hfN := ndI_fq (T := T) (K := 64 * kp + m3) (I := I10) (J := J10) (m := m3) (x := nI 7) (t := nI b) (p := nI (tk_p tx n b)) (l := nI N1) (r := nI N2) (c := nI N3) (v := J10 79 b) (Nat.le_refl _)
              have hat := ndI_at (k := 64 * kp + m3) (m := m3) (I := I10) (x := nI 7) (t := nI b) (p := nI (tk_p tx n b)) (l := nI N1) (r := nI N2) (c := nI N3)
              refine pw_putI fX10_230 dX10_expr_156 (Or.inl rfl) (by decide) (sh_lt hG (by decide)) (sh_tg hG 45 rfl) rfl ?_
              refine pw_aload_n dX10_expr_159 rfl ?_
              refine pw_dup dX10_expr_160 rfl ?_
              refine pw_getI fX10_210 dX10_expr_161 (sh_lt hG (by decide)) (sh_tg hG 45 rfl) rfl ?_
              refine pw_iconst (v := nI 1) dX10_expr_164 (by decide) ?_
              refine pw_isub dX10_expr_165 ?_
              refine pw_ti (z := nI op) (by rw [(hsN.re' (nI (64 * kp + m3))).2.2.2.2.1]; exact nI_pred op) ?_
              refine pw_putI fX10_210 dX10_expr_166 (Or.inl rfl) (by decide) (sh_lt hG (by decide)) (sh_tg hG 45 rfl) rfl ?_
              refine pw_aload_n dX10_expr_169 rfl ?_
              refine pw_dup dX10_expr_170 rfl ?_
              refine pw_getI fX10_213 dX10_expr_171 (sh_lt hG (by decide)) (sh_tg hG 45 rfl) rfl ?_
              refine pw_iconst (v := nI 1) dX10_expr_174 (by decide) ?_
              refine pw_isub dX10_expr_175 ?_
              refine pw_ti (z := nI T) (by rw [((hsN.re' (nI (64 * kp + m3))).op' op).2.2.2.2.2.1.1]; exact nI_pred T) ?_
              refine pw_putI fX10_213 dX10_expr_176 (Or.inl rfl) (by decide) (sh_lt hG (by decide)) (sh_tg hG 45 rfl) rfl ?_
              refine pw_vret dX10_expr_179 rfl ?_
              refine pw_goto (tgt := 201) dX10_readExpr_77 (by decide) ?_
              refine pw_goto (tgt := 10) dX10_readExpr_201 (by decide) ?_
              refine pw_sub [1] rfl ?_
              have hsE := ((hsN.re' (nI (64 * kp + m3))).op' op).tp' (b := T) (by omega)
              have hfE : fq T (64 * kp + m3 + 1) _ _ _ _ := ((fq.put (T := T) (K := 64 * kp + m3 + 1) (I := ndI I10 (64 * kp + m3) m3 (nI 7) (nI b) (nI (tk_p tx n b)) (nI N1) (nI N2) (nI N3)) (J := pm_u J10 70 (64 * kp + m3) (J10 79 b)) (k := 44) (x := nI (64 * kp + m3)) (by decide) (by decide)).trans (fq.put (T := T) (K := 64 * kp + m3 + 1) (k := 42) (x := nI op) (by decide) (by decide)) (Nat.le_refl _) (Nat.le_refl _)).trans (fq.put (T := T) (K := 64 * kp + m3 + 1) (k := 45) (x := nI T) (by decide) (by decide)) (Nat.le_refl _) (Nat.le_refl _)
              exact k1 e3 _ (64 * kp + m3) (m3 + 1) _ _ (Option.some.inj hr).symm hsE (by rw [pm_u_eq, pm_up_ne (by decide), pm_u_eq, pm_up_ne (by decide), pm_u_eq, pm_up_eq]) ((nT.m7 (s := m) (f := m3 - m) (F := m3 + 1 - m) (m := m3 + 1) (by omega) ⟨by omega, by omega⟩ hat.2.2.1 hat.1 hat.2.2.2.1 hat.2.2.2.2.1 hat.2.2.2.2.2.1 (hn1.up hfN (by omega) (Nat.le_refl _)) (hn2.up hfN (by omega) (Nat.le_refl _)) (hn3.up hfN (by omega) (Nat.le_refl _))).up hfE (Nat.le_refl _) (Nat.le_refl _)) ⟨by omega, by omega⟩ ((hf10'.trans hfN (Nat.le_refl _) (by omega)).trans hfE (Nat.le_refl _) (by omega))
          · rw [if_neg (fun q => hc0 ((rq58 hb).mpr q))] at hr
            refine pw_if_eq (tgt := 179) dX10_expr_115 (by decide) (fun hX10_expr_115 => ?_) (fun h => absurd (by decide) h)
            refine pw_vret dX10_expr_179 rfl ?_
            refine pw_goto (tgt := 201) dX10_readExpr_77 (by decide) ?_
            refine pw_goto (tgt := 10) dX10_readExpr_201 (by decide) ?_
            refine pw_sub [1] rfl ?_
            exact k0 c _ _ (Option.some.inj hr).symm (by rw [pm_u_eq, pm_up_eq]) ((hf7.trans (fq.put (T := T) (K := 64 * kp + m) (by decide) (by decide)) (Nat.le_refl _) (Nat.le_refl _)).le (Nat.zero_le _) (by omega))
      · rw [if_pos hge] at hr
        refine pw_if_eq (tgt := 179) dX10_expr_87 (by decide) (fun hX10_expr_87 => ?_) (fun h => absurd (by decide) h)
        refine pw_vret dX10_expr_179 rfl ?_
        refine pw_goto (tgt := 201) dX10_readExpr_77 (by decide) ?_
        refine pw_goto (tgt := 10) dX10_readExpr_201 (by decide) ?_
        refine pw_sub [1] rfl ?_
        exact k0 b _ _ (Option.some.inj hr).symm (by rw [pm_u_eq, pm_up_eq]) ((hf3.trans (fq.put (T := T) (K := 64 * kp + m) (by decide) (by decide)) (Nat.le_refl _) (Nat.le_refl _)).le (Nat.zero_le _) (by omega))
    · refine pw_aload_n dX10_expr_50 rfl ?_
      refine pw_dup dX10_expr_51 rfl ?_
      refine pw_getI fX10_213 dX10_expr_52 (sh_lt hG (by decide)) (sh_tg hG 45 rfl) rfl ?_
      refine pw_iconst (v := nI 1) dX10_expr_55 (by decide) ?_
      refine pw_isub dX10_expr_56 ?_
      refine pw_ti (z := nI T) (by rw [hs2.2.2.2.2.2.1.1]; exact nI_pred T) ?_
      refine pw_putI fX10_213 dX10_expr_57 (Or.inl rfl) (by decide) (sh_lt hG (by decide)) (sh_tg hG 45 rfl) rfl ?_
      refine pw_goto (tgt := 179) dX10_expr_60 (by decide) ?_
      refine pw_vret dX10_expr_179 rfl ?_
      refine pw_goto (tgt := 201) dX10_readExpr_77 (by decide) ?_
      refine pw_goto (tgt := 10) dX10_readExpr_201 (by decide) ?_
      refine pw_sub [1] rfl ?_
      exact k1 b L N1 m1 _ _ (by rw [if_neg (fun q => hX10_expr_47 ((rq63 hb).mpr q))] at hr; exact (Option.some.inj hr).symm) (hs2.tp' (by omega)) (by rw [pm_u_eq, pm_up_ne (by decide)]; exact hre2) (hnd2.up (fq.put (T := T) (by decide) (by decide)) (Nat.le_refl _) (Nat.le_refl _)) hm2 (hfA.trans (fq.put (T := T) (K := 64 * kp + m) (by decide) (by decide)) (Nat.le_refl _) (Nat.le_refl _))
