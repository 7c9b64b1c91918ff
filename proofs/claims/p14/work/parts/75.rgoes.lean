theorem rS.setJ {I0 : pmI} {J0 : pmJ} {A : aS} {I : pmI} {J : pmJ} {fr : List (Nat × Nat)} {hv : List vV} {cx : List (Nat × List vV)} {s : Nat} {t : List tH} {v : vV} (h : rS I0 J0 A I J fr (hv ++ [v]) cx s t) (x : Int64) : rS I0 J0 A I (pm_u J 93 hv.length x) fr (hv ++ [(v.1, x)]) cx s t := by
  have h1 := h.setV (u := (v.1, x))
  rw [pm_us (x := nI v.1) h.last.2.1.symm] at h1
  exact h1
section CKO
variable {x : Nat} {lf rt : vV}
theorem ckO_2 (h : lf.1 = 0 ∨ rt.1 = 0) : ckO x lf rt = 2 := by unfold ckO; rw [if_pos h]
theorem ckO_3 (h : ¬ (lf.1 = 0 ∨ rt.1 = 0)) (h2 : lf.1 ≠ rt.1 ∨ (lf.1 = 2 ∧ x ≠ 61)) : ckO x lf rt = 3 := by unfold ckO; rw [if_neg h, if_pos h2]
theorem ckO_4 (h : ¬ (lf.1 = 0 ∨ rt.1 = 0)) (h2 : ¬ (lf.1 ≠ rt.1 ∨ (lf.1 = 2 ∧ x ≠ 61))) (h3 : rt.2 = 0 ∧ (x = 47 ∨ x = 37)) : ckO x lf rt = 4 := by unfold ckO; rw [if_neg h, if_neg h2, if_pos h3]
theorem ckO_0 (h : ¬ (lf.1 = 0 ∨ rt.1 = 0)) (h2 : ¬ (lf.1 ≠ rt.1 ∨ (lf.1 = 2 ∧ x ≠ 61))) (h3 : ¬ (rt.2 = 0 ∧ (x = 47 ∨ x = 37))) : ckO x lf rt = 0 := by unfold ckO; rw [if_neg h, if_neg h2, if_neg h3]
end CKO
set_option maxRecDepth 20000 in
set_option maxHeartbeats 4000000 in
theorem g_neg {l : Launch} {E : pmE} {d : Nat} {S : pmS} {I : pmI} {J : pmJ} {P : pmP} {Q : Option Value → pmS → pmI → pmJ → pmP → Prop} {I0 : pmI} {J0 : pmJ} {A : aS} {fr : List (Nat × Nat)} {hv : List vV} {cx : List (Nat × List vV)} {s : Nat} {t : List tH} {N : Nat} {v : vV} (hG : sh_St S) (hP : gr_St P) (h : rS I0 J0 A I J (fr ++ [(N, 1)]) (hv ++ [v]) cx s t) (hd : 3 ≤ d) (hNb : N < 2624) (ht : t.length ≤ 16000) (hk : I0 63 N = nI 4) (hv2 : v.1 ≤ 2) (k1 : ckW v = 0 → ∀ I' J', rS I0 J0 A I' J' fr (hv ++ [(1, -v.2)]) cx s t → Q none S I' J' P) (k0 : ckW v ≠ 0 → ∀ I', rX I0 J0 A I' J (ckW v) → Q none S I' J P) : pm_Met l E yX10_goesOn cX10_goesOn 4 none d 0 0 [.ref 47, .int (nI N)] S I J P Q := by
  unfold pm_Met
  have htp := h.top.2.2.2
  have hla := h.last
  refine pm_lvs (lv' := [(0, _), (1, _)]) rfl ?_
  refine pw_aload_n dX10_goesOn_0 rfl ?_
  refine pw_getI fX10_282 dX10_goesOn_1 (sh_lt hG (by decide)) (sh_tg hG 45 rfl) rfl ?_
  refine pw_iconst (v := nI 1) dX10_goesOn_4 (by decide) ?_
  refine pw_isub dX10_goesOn_5 ?_
  refine pw_ti (z := nI fr.length) h.top.1 ?_
  refine pw_istore_n (lv' := [(2, _), (0, _), (1, _)]) dX10_goesOn_6 (by decide) rfl ?_
  refine pw_aload_n dX10_goesOn_7 rfl ?_
  refine pw_getI fX10_279 dX10_goesOn_8 (sh_lt hG (by decide)) (sh_tg hG 45 rfl) rfl ?_
  refine pw_iconst (v := nI 1) dX10_goesOn_11 (by decide) ?_
  refine pw_isub dX10_goesOn_12 ?_
  refine pw_ti (z := nI hv.length) hla.1 ?_
  refine pw_istore_n (lv' := [(3, _), (2, _), (0, _), (1, _)]) dX10_goesOn_13 (by decide) rfl ?_
  refine pw_aload_n dX10_goesOn_14 rfl ?_
  refine pw_getR fX10_56 dX10_goesOn_15 (sh_lt hG (by decide)) (sh_tg hG 45 rfl) rfl (gr_at hP 55 rfl) ?_
  refine pw_iload_n dX10_goesOn_18 rfl ?_
  refine pw_ialdN N dX10_goesOn_19 (sh_lt hG (by decide)) (sh_sh hG 61 rfl) (by decide) (rfl) (by omega) ?_
  refine pw_ti (z := nI 4) (h.nod hk (by decide) (by decide)) ?_
  refine pw_tableIn (off := 86) (tgt := 106) dX10_goesOn_20 (by decide) (by decide) (by decide) (by decide) ?_
  refine pw_aload_n dX10_goesOn_106 rfl ?_
  refine pw_getR fX10_56 dX10_goesOn_107 (sh_lt hG (by decide)) (sh_tg hG 45 rfl) rfl (gr_at hP 55 rfl) ?_
  refine pw_iload_n dX10_goesOn_110 rfl ?_
  refine pw_ialdN N dX10_goesOn_111 (sh_lt hG (by decide)) (sh_sh hG 61 rfl) (by decide) (rfl) (by omega) ?_
  refine pw_ti (z := nI 4) (h.nod hk (by decide) (by decide)) ?_
  refine pw_bipush (v := nI 7) dX10_goesOn_112 (by decide) ?_
  refine pw_icmp_ne (tgt := 140) dX10_goesOn_114 (by decide) (fun h114 => ?_) (fun h => absurd h (by decide))
  refine pw_aload_n dX10_goesOn_140 rfl ?_
  refine pw_getR fX10_144 dX10_goesOn_141 (sh_lt hG (by decide)) (sh_tg hG 45 rfl) rfl (gr_at hP 84 rfl) ?_
  refine pw_iload_n dX10_goesOn_144 rfl ?_
  refine pw_ialdN hv.length dX10_goesOn_145 (sh_lt hG (by decide)) (sh_sh hG 90 rfl) (by decide) (rfl) (by omega) ?_
  refine pw_ti (z := nI v.1) hla.2.1 ?_
  refine pw_iconst (v := nI 1) dX10_goesOn_146 (by decide) ?_
  refine pw_icmpN_eq _ _ (tgt := 172) dX10_goesOn_147 (by decide) (rfl) (rfl) (by omega) (by omega) (fun h147 => ?_) (fun h147 => ?_)
  · refine pw_aload_n dX10_goesOn_172 rfl ?_
    refine pw_getR fX10_56 dX10_goesOn_173 (sh_lt hG (by decide)) (sh_tg hG 45 rfl) rfl (gr_at hP 55 rfl) ?_
    refine pw_iload_n dX10_goesOn_176 rfl ?_
    refine pw_ialdN N dX10_goesOn_177 (sh_lt hG (by decide)) (sh_sh hG 61 rfl) (by decide) (rfl) (by omega) ?_
    refine pw_ti (z := nI 4) (h.nod hk (by decide) (by decide)) ?_
    refine pw_iconst (v := nI 4) dX10_goesOn_178 (by decide) ?_
    refine pw_icmp_ne (tgt := 208) dX10_goesOn_179 (by decide) (fun h => absurd (by decide) h) (fun h179 => ?_)
    refine pw_aload_n dX10_goesOn_182 rfl ?_
    refine pw_getR fX10_147 dX10_goesOn_183 (sh_lt hG (by decide)) (sh_tg hG 45 rfl) rfl (gr_at hP 85 rfl) ?_
    refine pw_iload_n dX10_goesOn_186 rfl ?_
    refine pw_aload_n dX10_goesOn_187 rfl ?_
    refine pw_getR fX10_147 dX10_goesOn_188 (sh_lt hG (by decide)) (sh_tg hG 45 rfl) rfl (gr_at hP 85 rfl) ?_
    refine pw_iload_n dX10_goesOn_191 rfl ?_
    refine pw_laldN hv.length dX10_goesOn_192 (sh_lt hG (by decide)) (sh_sh hG 91 rfl) (by decide) (rfl) (by omega) ?_
    refine pw_tj (z := v.2) hla.2.2.1 ?_
    refine pw_lneg dX10_goesOn_193 ?_
    refine pw_lastN hv.length dX10_goesOn_194 (by decide) (sh_lt hG (by decide)) (sh_sh hG 91 rfl) (by decide) (rfl) (by omega) ?_
    refine pw_aload_n dX10_goesOn_195 rfl ?_
    refine pw_dup dX10_goesOn_196 rfl ?_
    refine pw_getI fX10_282 dX10_goesOn_197 (sh_lt hG (by decide)) (sh_tg hG 45 rfl) rfl ?_
    refine pw_iconst (v := nI 1) dX10_goesOn_200 (by decide) ?_
    refine pw_isub dX10_goesOn_201 ?_
    refine pw_ti (z := nI fr.length) (h.setJ (-v.2)).top.1 ?_
    refine pw_putI fX10_282 dX10_goesOn_202 (Or.inl rfl) (by decide) (sh_lt hG (by decide)) (sh_tg hG 45 rfl) rfl ?_
    refine pw_goto (tgt := 255) dX10_goesOn_205 (by decide) ?_
    exact pw_vret dX10_goesOn_255 rfl (k1 (by unfold ckW; rw [if_pos h147]) _ _ (by have h9 := (h.setJ (-v.2)).pop; rw [h147] at h9; exact h9))
  · refine pw_aload_n dX10_goesOn_150 rfl ?_
    refine pw_aload_n dX10_goesOn_151 rfl ?_
    refine pw_getR fX10_144 dX10_goesOn_152 (sh_lt hG (by decide)) (sh_tg hG 45 rfl) rfl (gr_at hP 84 rfl) ?_
    refine pw_iload_n dX10_goesOn_155 rfl ?_
    refine pw_ialdN hv.length dX10_goesOn_156 (sh_lt hG (by decide)) (sh_sh hG 90 rfl) (by decide) (rfl) (by omega) ?_
    refine pw_ti (z := nI v.1) hla.2.1 ?_
    refine pw_ifN_ne _ (tgt := 164) dX10_goesOn_157 (by decide) (rfl) (by omega) (fun h157 => ?_) (fun h157 => ?_)
    · refine pw_iconst (v := nI 3) dX10_goesOn_164 (by decide) ?_
      refine pw_iload_n dX10_goesOn_165 rfl ?_
      refine pw_callV (as := [_, _]) (kc' := 0) (ks' := 0) lX10_299 dX10_goesOn_166 rfl rfl (sh_lt hG (by decide)) (sh_tg hG 45 rfl) (Nat.le_of_ble_eq_true rfl) (by omega) (Nat.le_of_ble_eq_true rfl) (Nat.zero_le _) (Nat.zero_le _) ?_
      refine r_fail hG hP h (e := 3) hNb ht (fun I3 h3 => ?_)
      refine pw_goto (tgt := 255) dX10_goesOn_169 (by decide) ?_
      exact pw_vret dX10_goesOn_255 rfl (k0 (by unfold ckW; rw [if_neg h147, if_neg h157]; decide) _ (by unfold ckW; rw [if_neg h147, if_neg h157]; exact h3))
    · refine pw_iconst (v := nI 2) dX10_goesOn_160 (by decide) ?_
      refine pw_goto (tgt := 165) dX10_goesOn_161 (by decide) ?_
      refine pw_iload_n dX10_goesOn_165 rfl ?_
      refine pw_callV (as := [_, _]) (kc' := 0) (ks' := 0) lX10_299 dX10_goesOn_166 rfl rfl (sh_lt hG (by decide)) (sh_tg hG 45 rfl) (Nat.le_of_ble_eq_true rfl) (by omega) (Nat.le_of_ble_eq_true rfl) (Nat.zero_le _) (Nat.zero_le _) ?_
      refine r_fail hG hP h (e := 2) hNb ht (fun I3 h3 => ?_)
      refine pw_goto (tgt := 255) dX10_goesOn_169 (by decide) ?_
      exact pw_vret dX10_goesOn_255 rfl (k0 (by unfold ckW; rw [if_neg h147, if_pos h157]; decide) _ (by unfold ckW; rw [if_neg h147, if_pos h157]; exact h3))
set_option maxRecDepth 20000 in
set_option maxHeartbeats 4000000 in
theorem g_if1 {l : Launch} {E : pmE} {d : Nat} {S : pmS} {I : pmI} {J : pmJ} {P : pmP} {Q : Option Value → pmS → pmI → pmJ → pmP → Prop} {I0 : pmI} {J0 : pmJ} {A : aS} {fr : List (Nat × Nat)} {hv : List vV} {cx : List (Nat × List vV)} {s : Nat} {t : List tH} {N : Nat} {v : vV} (hG : sh_St S) (hP : gr_St P) (h : rS I0 J0 A I J (fr ++ [(N, 1)]) (hv ++ [v]) cx s t) (hd : 3 ≤ d) (hNb : N < 2624) (ht : t.length ≤ 16000) (hfl9 : fr.length < 898) (hk : I0 63 N = nI 7) {c2 c3 : Nat} (hc2 : I0 65 N = nI c2) (hc3 : I0 66 N = nI c3) (hv2 : v.1 ≤ 2) (k1 : ckW v = 0 → ¬ v.2 = 0 → ∀ I', rS I0 J0 A I' J ((fr ++ [(N, 2)]) ++ [(c2, 0)]) hv cx s t → Q none S I' J P) (k2 : ckW v = 0 → v.2 = 0 → ∀ I', rS I0 J0 A I' J ((fr ++ [(N, 2)]) ++ [(c3, 0)]) hv cx s t → Q none S I' J P) (k0 : ckW v ≠ 0 → ∀ I', rX I0 J0 A I' J (ckW v) → Q none S I' J P) : pm_Met l E yX10_goesOn cX10_goesOn 4 none d 0 0 [.ref 47, .int (nI N)] S I J P Q := by
  unfold pm_Met
  have htp := h.top.2.2.2
  have hla := h.last
  have hfl : fr.length < 898 := hfl9
  refine pm_lvs (lv' := [(0, _), (1, _)]) rfl ?_
  refine pw_aload_n dX10_goesOn_0 rfl ?_
  refine pw_getI fX10_282 dX10_goesOn_1 (sh_lt hG (by decide)) (sh_tg hG 45 rfl) rfl ?_
  refine pw_iconst (v := nI 1) dX10_goesOn_4 (by decide) ?_
  refine pw_isub dX10_goesOn_5 ?_
  refine pw_ti (z := nI fr.length) h.top.1 ?_
  refine pw_istore_n (lv' := [(2, _), (0, _), (1, _)]) dX10_goesOn_6 (by decide) rfl ?_
  refine pw_aload_n dX10_goesOn_7 rfl ?_
  refine pw_getI fX10_279 dX10_goesOn_8 (sh_lt hG (by decide)) (sh_tg hG 45 rfl) rfl ?_
  refine pw_iconst (v := nI 1) dX10_goesOn_11 (by decide) ?_
  refine pw_isub dX10_goesOn_12 ?_
  refine pw_ti (z := nI hv.length) hla.1 ?_
  refine pw_istore_n (lv' := [(3, _), (2, _), (0, _), (1, _)]) dX10_goesOn_13 (by decide) rfl ?_
  refine pw_aload_n dX10_goesOn_14 rfl ?_
  refine pw_getR fX10_56 dX10_goesOn_15 (sh_lt hG (by decide)) (sh_tg hG 45 rfl) rfl (gr_at hP 55 rfl) ?_
  refine pw_iload_n dX10_goesOn_18 rfl ?_
  refine pw_ialdN N dX10_goesOn_19 (sh_lt hG (by decide)) (sh_sh hG 61 rfl) (by decide) (rfl) (by omega) ?_
  refine pw_ti (z := nI 7) (h.nod hk (by decide) (by decide)) ?_
  refine pw_tableOut (tgt := 106) dX10_goesOn_20 (by decide) (by decide) ?_
  refine pw_aload_n dX10_goesOn_106 rfl ?_
  refine pw_getR fX10_56 dX10_goesOn_107 (sh_lt hG (by decide)) (sh_tg hG 45 rfl) rfl (gr_at hP 55 rfl) ?_
  refine pw_iload_n dX10_goesOn_110 rfl ?_
  refine pw_ialdN N dX10_goesOn_111 (sh_lt hG (by decide)) (sh_sh hG 61 rfl) (by decide) (rfl) (by omega) ?_
  refine pw_ti (z := nI 7) (h.nod hk (by decide) (by decide)) ?_
  refine pw_bipush (v := nI 7) dX10_goesOn_112 (by decide) ?_
  refine pw_icmp_ne (tgt := 140) dX10_goesOn_114 (by decide) (fun h => absurd (by decide) h) (fun h114 => ?_)
  refine pw_aload_n dX10_goesOn_117 rfl ?_
  refine pw_getR fX10_141 dX10_goesOn_118 (sh_lt hG (by decide)) (sh_tg hG 45 rfl) rfl (gr_at hP 83 rfl) ?_
  refine pw_iload_n dX10_goesOn_121 rfl ?_
  refine pw_ialdN fr.length dX10_goesOn_122 (sh_lt hG (by decide)) (sh_sh hG 89 rfl) (by decide) (rfl) (by omega) ?_
  refine pw_ti (z := nI 1) h.top.2.2.1 ?_
  refine pw_iconst (v := nI 2) dX10_goesOn_123 (by decide) ?_
  refine pw_icmp_ne (tgt := 140) dX10_goesOn_124 (by decide) (fun h124 => ?_) (fun h => absurd h (by decide))
  refine pw_aload_n dX10_goesOn_140 rfl ?_
  refine pw_getR fX10_144 dX10_goesOn_141 (sh_lt hG (by decide)) (sh_tg hG 45 rfl) rfl (gr_at hP 84 rfl) ?_
  refine pw_iload_n dX10_goesOn_144 rfl ?_
  refine pw_ialdN hv.length dX10_goesOn_145 (sh_lt hG (by decide)) (sh_sh hG 90 rfl) (by decide) (rfl) (by omega) ?_
  refine pw_ti (z := nI v.1) hla.2.1 ?_
  refine pw_iconst (v := nI 1) dX10_goesOn_146 (by decide) ?_
  refine pw_icmpN_eq _ _ (tgt := 172) dX10_goesOn_147 (by decide) (rfl) (rfl) (by omega) (by omega) (fun h147 => ?_) (fun h147 => ?_)
  · refine pw_aload_n dX10_goesOn_172 rfl ?_
    refine pw_getR fX10_56 dX10_goesOn_173 (sh_lt hG (by decide)) (sh_tg hG 45 rfl) rfl (gr_at hP 55 rfl) ?_
    refine pw_iload_n dX10_goesOn_176 rfl ?_
    refine pw_ialdN N dX10_goesOn_177 (sh_lt hG (by decide)) (sh_sh hG 61 rfl) (by decide) (rfl) (by omega) ?_
    refine pw_ti (z := nI 7) (h.nod hk (by decide) (by decide)) ?_
    refine pw_iconst (v := nI 4) dX10_goesOn_178 (by decide) ?_
    refine pw_icmp_ne (tgt := 208) dX10_goesOn_179 (by decide) (fun h179 => ?_) (fun h => absurd h (by decide))
    refine pw_aload_n dX10_goesOn_208 rfl ?_
    refine pw_dup dX10_goesOn_209 rfl ?_
    refine pw_getI fX10_279 dX10_goesOn_210 (sh_lt hG (by decide)) (sh_tg hG 45 rfl) rfl ?_
    refine pw_iconst (v := nI 1) dX10_goesOn_213 (by decide) ?_
    refine pw_isub dX10_goesOn_214 ?_
    refine pw_ti (z := nI hv.length) hla.1 ?_
    refine pw_putI fX10_279 dX10_goesOn_215 (Or.inl rfl) (by decide) (sh_lt hG (by decide)) (sh_tg hG 45 rfl) rfl ?_
    refine pw_aload_n dX10_goesOn_218 rfl ?_
    refine pw_getR fX10_141 dX10_goesOn_219 (sh_lt hG (by decide)) (sh_tg hG 45 rfl) rfl (gr_at hP 83 rfl) ?_
    refine pw_iload_n dX10_goesOn_222 rfl ?_
    refine pw_iconst (v := nI 2) dX10_goesOn_223 (by decide) ?_
    refine pw_iastN fr.length dX10_goesOn_224 (by decide) (sh_lt hG (by decide)) (sh_sh hG 89 rfl) (by decide) (rfl) (by omega) ?_
    have h9 := (h.vpop).setF (g := 2)
    refine pw_aload_n dX10_goesOn_225 rfl ?_
    refine pw_aload_n dX10_goesOn_226 rfl ?_
    refine pw_getR fX10_147 dX10_goesOn_227 (sh_lt hG (by decide)) (sh_tg hG 45 rfl) rfl (gr_at hP 85 rfl) ?_
    refine pw_iload_n dX10_goesOn_230 rfl ?_
    refine pw_laldN hv.length dX10_goesOn_231 (sh_lt hG (by decide)) (sh_sh hG 91 rfl) (by decide) (rfl) (by omega) ?_
    refine pw_tj (z := v.2) hla.2.2.1 ?_
    refine pw_lconst (v := 0) dX10_goesOn_232 (by decide) ?_
    refine pw_lif_eq (tgt := 246) dX10_goesOn_233 dX10_goesOn_234 (by decide) (fun h234 => ?_) (fun h234 => ?_)
    · refine pw_aload_n dX10_goesOn_246 rfl ?_
      refine pw_getR fX10_65 dX10_goesOn_247 (sh_lt hG (by decide)) (sh_tg hG 45 rfl) rfl (gr_at hP 58 rfl) ?_
      refine pw_iload_n dX10_goesOn_250 rfl ?_
      refine pw_ialdN N dX10_goesOn_251 (sh_lt hG (by decide)) (sh_sh hG 64 rfl) (by decide) (rfl) (by omega) ?_
      refine pw_ti (z := nI c3) (h9.nod hc3 (by decide) (by decide)) ?_
      refine pw_callV (as := [_]) (kc' := 0) (ks' := 0) lX10_314 dX10_goesOn_252 rfl rfl (sh_lt hG (by decide)) (sh_tg hG 45 rfl) (Nat.le_of_ble_eq_true rfl) (by omega) (Nat.le_of_ble_eq_true rfl) (Nat.zero_le _) (Nat.zero_le _) ?_
      refine r_go hG hP h9 (by rw [List.length_append]; show fr.length + 1 < 899; omega) (fun I3 h3 => ?_)
      exact pw_vret dX10_goesOn_255 rfl (k2 (by unfold ckW; rw [if_pos h147]) h234 _ h3)
    · refine pw_aload_n dX10_goesOn_237 rfl ?_
      refine pw_getR fX10_62 dX10_goesOn_238 (sh_lt hG (by decide)) (sh_tg hG 45 rfl) rfl (gr_at hP 57 rfl) ?_
      refine pw_iload_n dX10_goesOn_241 rfl ?_
      refine pw_ialdN N dX10_goesOn_242 (sh_lt hG (by decide)) (sh_sh hG 63 rfl) (by decide) (rfl) (by omega) ?_
      refine pw_ti (z := nI c2) (h9.nod hc2 (by decide) (by decide)) ?_
      refine pw_goto (tgt := 252) dX10_goesOn_243 (by decide) ?_
      refine pw_callV (as := [_]) (kc' := 0) (ks' := 0) lX10_314 dX10_goesOn_252 rfl rfl (sh_lt hG (by decide)) (sh_tg hG 45 rfl) (Nat.le_of_ble_eq_true rfl) (by omega) (Nat.le_of_ble_eq_true rfl) (Nat.zero_le _) (Nat.zero_le _) ?_
      refine r_go hG hP h9 (by rw [List.length_append]; show fr.length + 1 < 899; omega) (fun I3 h3 => ?_)
      exact pw_vret dX10_goesOn_255 rfl (k1 (by unfold ckW; rw [if_pos h147]) h234 _ h3)
  · refine pw_aload_n dX10_goesOn_150 rfl ?_
    refine pw_aload_n dX10_goesOn_151 rfl ?_
    refine pw_getR fX10_144 dX10_goesOn_152 (sh_lt hG (by decide)) (sh_tg hG 45 rfl) rfl (gr_at hP 84 rfl) ?_
    refine pw_iload_n dX10_goesOn_155 rfl ?_
    refine pw_ialdN hv.length dX10_goesOn_156 (sh_lt hG (by decide)) (sh_sh hG 90 rfl) (by decide) (rfl) (by omega) ?_
    refine pw_ti (z := nI v.1) hla.2.1 ?_
    refine pw_ifN_ne _ (tgt := 164) dX10_goesOn_157 (by decide) (rfl) (by omega) (fun h157 => ?_) (fun h157 => ?_)
    · refine pw_iconst (v := nI 3) dX10_goesOn_164 (by decide) ?_
      refine pw_iload_n dX10_goesOn_165 rfl ?_
      refine pw_callV (as := [_, _]) (kc' := 0) (ks' := 0) lX10_299 dX10_goesOn_166 rfl rfl (sh_lt hG (by decide)) (sh_tg hG 45 rfl) (Nat.le_of_ble_eq_true rfl) (by omega) (Nat.le_of_ble_eq_true rfl) (Nat.zero_le _) (Nat.zero_le _) ?_
      refine r_fail hG hP h (e := 3) hNb ht (fun I3 h3 => ?_)
      refine pw_goto (tgt := 255) dX10_goesOn_169 (by decide) ?_
      exact pw_vret dX10_goesOn_255 rfl (k0 (by unfold ckW; rw [if_neg h147, if_neg h157]; decide) _ (by unfold ckW; rw [if_neg h147, if_neg h157]; exact h3))
    · refine pw_iconst (v := nI 2) dX10_goesOn_160 (by decide) ?_
      refine pw_goto (tgt := 165) dX10_goesOn_161 (by decide) ?_
      refine pw_iload_n dX10_goesOn_165 rfl ?_
      refine pw_callV (as := [_, _]) (kc' := 0) (ks' := 0) lX10_299 dX10_goesOn_166 rfl rfl (sh_lt hG (by decide)) (sh_tg hG 45 rfl) (Nat.le_of_ble_eq_true rfl) (by omega) (Nat.le_of_ble_eq_true rfl) (Nat.zero_le _) (Nat.zero_le _) ?_
      refine r_fail hG hP h (e := 2) hNb ht (fun I3 h3 => ?_)
      refine pw_goto (tgt := 255) dX10_goesOn_169 (by decide) ?_
      exact pw_vret dX10_goesOn_255 rfl (k0 (by unfold ckW; rw [if_neg h147, if_pos h157]; decide) _ (by unfold ckW; rw [if_neg h147, if_pos h157]; exact h3))
set_option maxRecDepth 20000 in
set_option maxHeartbeats 4000000 in
theorem g_if2 {l : Launch} {E : pmE} {d : Nat} {S : pmS} {I : pmI} {J : pmJ} {P : pmP} {Q : Option Value → pmS → pmI → pmJ → pmP → Prop} {I0 : pmI} {J0 : pmJ} {A : aS} {fr : List (Nat × Nat)} {hv : List vV} {cx : List (Nat × List vV)} {s : Nat} {t : List tH} {N : Nat}  (hG : sh_St S) (hP : gr_St P) (h : rS I0 J0 A I J (fr ++ [(N, 2)]) hv cx s t) (hd : 3 ≤ d) (hNb : N < 2624) (ht : t.length ≤ 16000) (hk : I0 63 N = nI 7) (k1 : ∀ I', rS I0 J0 A I' J fr hv cx s t → Q none S I' J P) : pm_Met l E yX10_goesOn cX10_goesOn 4 none d 0 0 [.ref 47, .int (nI N)] S I J P Q := by
  unfold pm_Met
  have htp := h.top.2.2.2
  refine pm_lvs (lv' := [(0, _), (1, _)]) rfl ?_
  refine pw_aload_n dX10_goesOn_0 rfl ?_
  refine pw_getI fX10_282 dX10_goesOn_1 (sh_lt hG (by decide)) (sh_tg hG 45 rfl) rfl ?_
  refine pw_iconst (v := nI 1) dX10_goesOn_4 (by decide) ?_
  refine pw_isub dX10_goesOn_5 ?_
  refine pw_ti (z := nI fr.length) h.top.1 ?_
  refine pw_istore_n (lv' := [(2, _), (0, _), (1, _)]) dX10_goesOn_6 (by decide) rfl ?_
  refine pw_aload_n dX10_goesOn_7 rfl ?_
  refine pw_getI fX10_279 dX10_goesOn_8 (sh_lt hG (by decide)) (sh_tg hG 45 rfl) rfl ?_
  refine pw_iconst (v := nI 1) dX10_goesOn_11 (by decide) ?_
  refine pw_isub dX10_goesOn_12 ?_
  refine pw_istore_n (lv' := [(3, _), (2, _), (0, _), (1, _)]) dX10_goesOn_13 (by decide) rfl ?_
  refine pw_aload_n dX10_goesOn_14 rfl ?_
  refine pw_getR fX10_56 dX10_goesOn_15 (sh_lt hG (by decide)) (sh_tg hG 45 rfl) rfl (gr_at hP 55 rfl) ?_
  refine pw_iload_n dX10_goesOn_18 rfl ?_
  refine pw_ialdN N dX10_goesOn_19 (sh_lt hG (by decide)) (sh_sh hG 61 rfl) (by decide) (rfl) (by omega) ?_
  refine pw_ti (z := nI 7) (h.nod hk (by decide) (by decide)) ?_
  refine pw_tableOut (tgt := 106) dX10_goesOn_20 (by decide) (by decide) ?_
  refine pw_aload_n dX10_goesOn_106 rfl ?_
  refine pw_getR fX10_56 dX10_goesOn_107 (sh_lt hG (by decide)) (sh_tg hG 45 rfl) rfl (gr_at hP 55 rfl) ?_
  refine pw_iload_n dX10_goesOn_110 rfl ?_
  refine pw_ialdN N dX10_goesOn_111 (sh_lt hG (by decide)) (sh_sh hG 61 rfl) (by decide) (rfl) (by omega) ?_
  refine pw_ti (z := nI 7) (h.nod hk (by decide) (by decide)) ?_
  refine pw_bipush (v := nI 7) dX10_goesOn_112 (by decide) ?_
  refine pw_icmp_ne (tgt := 140) dX10_goesOn_114 (by decide) (fun h => absurd (by decide) h) (fun h114 => ?_)
  refine pw_aload_n dX10_goesOn_117 rfl ?_
  refine pw_getR fX10_141 dX10_goesOn_118 (sh_lt hG (by decide)) (sh_tg hG 45 rfl) rfl (gr_at hP 83 rfl) ?_
  refine pw_iload_n dX10_goesOn_121 rfl ?_
  refine pw_ialdN fr.length dX10_goesOn_122 (sh_lt hG (by decide)) (sh_sh hG 89 rfl) (by decide) (rfl) (by omega) ?_
  refine pw_ti (z := nI 2) h.top.2.2.1 ?_
  refine pw_iconst (v := nI 2) dX10_goesOn_123 (by decide) ?_
  refine pw_icmp_ne (tgt := 140) dX10_goesOn_124 (by decide) (fun h => absurd (by decide) h) (fun h124 => ?_)
  refine pw_aload_n dX10_goesOn_127 rfl ?_
  refine pw_dup dX10_goesOn_128 rfl ?_
  refine pw_getI fX10_282 dX10_goesOn_129 (sh_lt hG (by decide)) (sh_tg hG 45 rfl) rfl ?_
  refine pw_iconst (v := nI 1) dX10_goesOn_132 (by decide) ?_
  refine pw_isub dX10_goesOn_133 ?_
  refine pw_ti (z := nI fr.length) h.top.1 ?_
  refine pw_putI fX10_282 dX10_goesOn_134 (Or.inl rfl) (by decide) (sh_lt hG (by decide)) (sh_tg hG 45 rfl) rfl ?_
  refine pw_goto (tgt := 255) dX10_goesOn_137 (by decide) ?_
  exact pw_vret dX10_goesOn_255 rfl (k1 _ h.pop)
set_option maxRecDepth 20000 in
set_option maxHeartbeats 4000000 in
theorem g_op1 {l : Launch} {E : pmE} {d : Nat} {S : pmS} {I : pmI} {J : pmJ} {P : pmP} {Q : Option Value → pmS → pmI → pmJ → pmP → Prop} {I0 : pmI} {J0 : pmJ} {A : aS} {fr : List (Nat × Nat)} {hv : List vV} {cx : List (Nat × List vV)} {s : Nat} {t : List tH} {N : Nat}  (hG : sh_St S) (hP : gr_St P) (h : rS I0 J0 A I J (fr ++ [(N, 1)]) hv cx s t) (hd : 3 ≤ d) (hNb : N < 2624) (ht : t.length ≤ 16000) (hk : I0 63 N = nI 6) (hfl : fr.length < 898) {c2 : Nat} (hc2 : I0 65 N = nI c2) (k1 : ∀ I', rS I0 J0 A I' J ((fr ++ [(N, 2)]) ++ [(c2, 0)]) hv cx s t → Q none S I' J P) : pm_Met l E yX10_goesOn cX10_goesOn 4 none d 0 0 [.ref 47, .int (nI N)] S I J P Q := by
  unfold pm_Met
  have htp := h.top.2.2.2
  refine pm_lvs (lv' := [(0, _), (1, _)]) rfl ?_
  refine pw_aload_n dX10_goesOn_0 rfl ?_
  refine pw_getI fX10_282 dX10_goesOn_1 (sh_lt hG (by decide)) (sh_tg hG 45 rfl) rfl ?_
  refine pw_iconst (v := nI 1) dX10_goesOn_4 (by decide) ?_
  refine pw_isub dX10_goesOn_5 ?_
  refine pw_ti (z := nI fr.length) h.top.1 ?_
  refine pw_istore_n (lv' := [(2, _), (0, _), (1, _)]) dX10_goesOn_6 (by decide) rfl ?_
  refine pw_aload_n dX10_goesOn_7 rfl ?_
  refine pw_getI fX10_279 dX10_goesOn_8 (sh_lt hG (by decide)) (sh_tg hG 45 rfl) rfl ?_
  refine pw_iconst (v := nI 1) dX10_goesOn_11 (by decide) ?_
  refine pw_isub dX10_goesOn_12 ?_
  refine pw_istore_n (lv' := [(3, _), (2, _), (0, _), (1, _)]) dX10_goesOn_13 (by decide) rfl ?_
  refine pw_aload_n dX10_goesOn_14 rfl ?_
  refine pw_getR fX10_56 dX10_goesOn_15 (sh_lt hG (by decide)) (sh_tg hG 45 rfl) rfl (gr_at hP 55 rfl) ?_
  refine pw_iload_n dX10_goesOn_18 rfl ?_
  refine pw_ialdN N dX10_goesOn_19 (sh_lt hG (by decide)) (sh_sh hG 61 rfl) (by decide) (rfl) (by omega) ?_
  refine pw_ti (z := nI 6) (h.nod hk (by decide) (by decide)) ?_
  refine pw_tableIn (off := 48) (tgt := 68) dX10_goesOn_20 (by decide) (by decide) (by decide) (by decide) ?_
  refine pw_aload_n dX10_goesOn_68 rfl ?_
  refine pw_getR fX10_141 dX10_goesOn_69 (sh_lt hG (by decide)) (sh_tg hG 45 rfl) rfl (gr_at hP 83 rfl) ?_
  refine pw_iload_n dX10_goesOn_72 rfl ?_
  refine pw_ialdN fr.length dX10_goesOn_73 (sh_lt hG (by decide)) (sh_sh hG 89 rfl) (by decide) (rfl) (by omega) ?_
  refine pw_ti (z := nI 1) h.top.2.2.1 ?_
  refine pw_iconst (v := nI 1) dX10_goesOn_74 (by decide) ?_
  refine pw_icmp_ne (tgt := 98) dX10_goesOn_75 (by decide) (fun h => absurd (by decide) h) (fun h75 => ?_)
  refine pw_aload_n dX10_goesOn_78 rfl ?_
  refine pw_getR fX10_141 dX10_goesOn_79 (sh_lt hG (by decide)) (sh_tg hG 45 rfl) rfl (gr_at hP 83 rfl) ?_
  refine pw_iload_n dX10_goesOn_82 rfl ?_
  refine pw_iconst (v := nI 2) dX10_goesOn_83 (by decide) ?_
  refine pw_iastN fr.length dX10_goesOn_84 (by decide) (sh_lt hG (by decide)) (sh_sh hG 89 rfl) (by decide) (rfl) (by omega) ?_
  refine pw_aload_n dX10_goesOn_85 rfl ?_
  refine pw_aload_n dX10_goesOn_86 rfl ?_
  refine pw_getR fX10_62 dX10_goesOn_87 (sh_lt hG (by decide)) (sh_tg hG 45 rfl) rfl (gr_at hP 57 rfl) ?_
  refine pw_iload_n dX10_goesOn_90 rfl ?_
  refine pw_ialdN N dX10_goesOn_91 (sh_lt hG (by decide)) (sh_sh hG 63 rfl) (by decide) (rfl) (by omega) ?_
  refine pw_ti (z := nI c2) ((h.setF (g := 2)).nod hc2 (by decide) (by decide)) ?_
  refine pw_callV (as := [_]) (kc' := 0) (ks' := 0) lX10_314 dX10_goesOn_92 rfl rfl (sh_lt hG (by decide)) (sh_tg hG 45 rfl) (Nat.le_of_ble_eq_true rfl) (by omega) (Nat.le_of_ble_eq_true rfl) (Nat.zero_le _) (Nat.zero_le _) ?_
  refine r_go hG hP (h.setF (g := 2)) (by rw [List.length_append]; show fr.length + 1 < 899; omega) (fun I3 h3 => ?_)
  refine pw_goto (tgt := 255) dX10_goesOn_95 (by decide) ?_
  exact pw_vret dX10_goesOn_255 rfl (k1 _ h3)
set_option maxRecDepth 20000 in
set_option maxHeartbeats 4000000 in
theorem r_oper {l : Launch} {E : pmE} {d : Nat} {S : pmS} {I : pmI} {J : pmJ} {P : pmP} {Q : Option Value → pmS → pmI → pmJ → pmP → Prop} {I0 : pmI} {J0 : pmJ} {A : aS} {fr : List (Nat × Nat)} {hv : List vV} {cx : List (Nat × List vV)} {s : Nat} {t : List tH} {N : Nat} {lf rt : vV} {x : Nat} (hG : sh_St S) (hP : gr_St P) (h : rS I0 J0 A I J (fr ++ [(N, 2)]) (hv ++ [lf, rt]) cx s t) (hd : 1 ≤ d) (hNb : N < 2624) (ht : t.length ≤ 16000) (hx : J0 70 N = (nI x).toInt64) (hlv : lvl x ≤ 2) (hl2 : lf.1 ≤ 2) (hr2 : rt.1 ≤ 2) (k1 : ckO x lf rt = 0 → ∀ I' J', rS I0 J0 A I' J' fr (hv ++ [(1, opV x lf.2 rt.2)]) cx s t → Q none S I' J' P) (k0 : ckO x lf rt ≠ 0 → ∀ I', rX I0 J0 A I' J (ckO x lf rt) → Q none S I' J P) : pm_Met l E yX10_operates cX10_operates 8 none d 0 0 [.ref 47, .int (nI N)] S I J P Q := by
  unfold pm_Met
  have htp := h.top.2.2.2
  have hla := h.last2
  have hx9 := lvl_op hlv
  refine pm_lvs (lv' := [(0, _), (1, _)]) rfl ?_
  refine pw_aload_n dX10_operates_0 rfl ?_
  refine pw_getR fX10_77 dX10_operates_1 (sh_lt hG (by decide)) (sh_tg hG 45 rfl) rfl (gr_at hP 62 rfl) ?_
  refine pw_iload_n dX10_operates_4 rfl ?_
  refine pw_laldN N dX10_operates_5 (sh_lt hG (by decide)) (sh_sh hG 68 rfl) (by decide) (rfl) (by omega) ?_
  refine pw_tj (z := (nI x).toInt64) (h.nov hx) ?_
  refine pw_l2i dX10_operates_6 ?_
  refine pw_ti (z := nI x) (by rw [Int32.toInt32_toInt64]) ?_
  refine pw_istore_n (lv' := [(2, _), (0, _), (1, _)]) dX10_operates_7 (by decide) rfl ?_
  refine pw_aload_n dX10_operates_8 rfl ?_
  refine pw_getI fX10_279 dX10_operates_9 (sh_lt hG (by decide)) (sh_tg hG 45 rfl) rfl ?_
  refine pw_iconst (v := nI 2) dX10_operates_12 (by decide) ?_
  refine pw_isub dX10_operates_13 ?_
  refine pw_ti (z := nI hv.length) hla.1 ?_
  refine pw_istore_n (lv' := [(3, _), (2, _), (0, _), (1, _)]) dX10_operates_14 (by decide) rfl ?_
  refine pw_aload_n dX10_operates_15 rfl ?_
  refine pw_getI fX10_279 dX10_operates_16 (sh_lt hG (by decide)) (sh_tg hG 45 rfl) rfl ?_
  refine pw_iconst (v := nI 1) dX10_operates_19 (by decide) ?_
  refine pw_isub dX10_operates_20 ?_
  refine pw_ti (z := nI (hv.length + 1)) hla.2.2.1 ?_
  refine pw_istore (lv' := [(4, _), (3, _), (2, _), (0, _), (1, _)]) dX10_operates_21 (by decide) rfl ?_
  refine pw_aload_n dX10_operates_23 rfl ?_
  refine pw_getR fX10_144 dX10_operates_24 (sh_lt hG (by decide)) (sh_tg hG 45 rfl) rfl (gr_at hP 84 rfl) ?_
  refine pw_iload_n dX10_operates_27 rfl ?_
  refine pw_ialdN hv.length dX10_operates_28 (sh_lt hG (by decide)) (sh_sh hG 90 rfl) (by decide) (rfl) (by omega) ?_
  refine pw_ti (z := nI lf.1) hla.2.1.1 ?_
  refine pw_ifN_eq _ (tgt := 42) dX10_operates_29 (by decide) (rfl) (by omega) (fun h29 => ?_) (fun h29 => ?_)
  · refine pw_aload_n dX10_operates_42 rfl ?_
    refine pw_iconst (v := nI 2) dX10_operates_43 (by decide) ?_
    refine pw_iload_n dX10_operates_44 rfl ?_
    refine pw_callV (as := [_, _]) (kc' := 0) (ks' := 0) lX10_299 dX10_operates_45 rfl rfl (sh_lt hG (by decide)) (sh_tg hG 45 rfl) (Nat.le_of_ble_eq_true rfl) (by omega) (Nat.le_of_ble_eq_true rfl) (Nat.zero_le _) (Nat.zero_le _) ?_
    refine r_fail hG hP h (e := 2) hNb ht (fun I3 h3 => ?_)
    exact pw_vret dX10_operates_48 rfl (k0 (by rw [ckO_2 (by omega)]; decide) _ (by rw [ckO_2 (by omega)]; exact h3))
  · refine pw_aload_n dX10_operates_32 rfl ?_
    refine pw_getR fX10_144 dX10_operates_33 (sh_lt hG (by decide)) (sh_tg hG 45 rfl) rfl (gr_at hP 84 rfl) ?_
    refine pw_iload dX10_operates_36 rfl ?_
    refine pw_ialdN (hv.length + 1) dX10_operates_38 (sh_lt hG (by decide)) (sh_sh hG 90 rfl) (by decide) (rfl) (by omega) ?_
    refine pw_ti (z := nI rt.1) hla.2.2.2.1.1 ?_
    refine pw_ifN_ne _ (tgt := 49) dX10_operates_39 (by decide) (rfl) (by omega) (fun h39 => ?_) (fun h39 => ?_)
    · refine pw_aload_n dX10_operates_49 rfl ?_
      refine pw_getR fX10_144 dX10_operates_50 (sh_lt hG (by decide)) (sh_tg hG 45 rfl) rfl (gr_at hP 84 rfl) ?_
      refine pw_iload_n dX10_operates_53 rfl ?_
      refine pw_ialdN hv.length dX10_operates_54 (sh_lt hG (by decide)) (sh_sh hG 90 rfl) (by decide) (rfl) (by omega) ?_
      refine pw_ti (z := nI lf.1) hla.2.1.1 ?_
      refine pw_iconst (v := nI 2) dX10_operates_55 (by decide) ?_
      refine pw_icmpN_ne _ _ (tgt := 74) dX10_operates_56 (by decide) (rfl) (rfl) (by omega) (by omega) (fun h56 => ?_) (fun h56 => ?_)
      · refine pw_iconst (v := nI 0) dX10_operates_74 (by decide) ?_
        refine pw_istore (lv' := [(5, _), (4, _), (3, _), (2, _), (0, _), (1, _)]) dX10_operates_75 (by decide) rfl ?_
        refine pw_iload_n dX10_operates_77 rfl ?_
        refine pw_bipush (v := nI 61) dX10_operates_78 (by decide) ?_
        refine pw_icmpN_ne _ _ (tgt := 88) dX10_operates_80 (by decide) (rfl) (rfl) (by omega) (by omega) (fun h80 => ?_) (fun h80 => ?_)
        · refine pw_aload_n dX10_operates_88 rfl ?_
          refine pw_getR fX10_144 dX10_operates_89 (sh_lt hG (by decide)) (sh_tg hG 45 rfl) rfl (gr_at hP 84 rfl) ?_
          refine pw_iload_n dX10_operates_92 rfl ?_
          refine pw_ialdN hv.length dX10_operates_93 (sh_lt hG (by decide)) (sh_sh hG 90 rfl) (by decide) (rfl) (by omega) ?_
          refine pw_ti (z := nI lf.1) hla.2.1.1 ?_
          refine pw_iconst (v := nI 2) dX10_operates_94 (by decide) ?_
          refine pw_icmpN_eq _ _ (tgt := 109) dX10_operates_95 (by decide) (rfl) (rfl) (by omega) (by omega) (fun h95 => ?_) (fun h95 => ?_)
          · refine pw_aload_n dX10_operates_109 rfl ?_
            refine pw_iconst (v := nI 3) dX10_operates_110 (by decide) ?_
            refine pw_iload_n dX10_operates_111 rfl ?_
            refine pw_callV (as := [_, _]) (kc' := 0) (ks' := 0) lX10_299 dX10_operates_112 rfl rfl (sh_lt hG (by decide)) (sh_tg hG 45 rfl) (Nat.le_of_ble_eq_true rfl) (by omega) (Nat.le_of_ble_eq_true rfl) (Nat.zero_le _) (Nat.zero_le _) ?_
            refine r_fail hG hP h (e := 3) hNb ht (fun I3 h3 => ?_)
            exact pw_vret dX10_operates_115 rfl (k0 (by rw [ckO_3 (by omega) (by omega)]; decide) _ (by rw [ckO_3 (by omega) (by omega)]; exact h3))
          · refine pw_aload_n dX10_operates_98 rfl ?_
            refine pw_getR fX10_144 dX10_operates_99 (sh_lt hG (by decide)) (sh_tg hG 45 rfl) rfl (gr_at hP 84 rfl) ?_
            refine pw_iload dX10_operates_102 rfl ?_
            refine pw_ialdN (hv.length + 1) dX10_operates_104 (sh_lt hG (by decide)) (sh_sh hG 90 rfl) (by decide) (rfl) (by omega) ?_
            refine pw_ti (z := nI rt.1) hla.2.2.2.1.1 ?_
            refine pw_iconst (v := nI 2) dX10_operates_105 (by decide) ?_
            refine pw_icmpN_ne _ _ (tgt := 116) dX10_operates_106 (by decide) (rfl) (rfl) (by omega) (by omega) (fun h106 => ?_) (fun h106 => ?_)
            · refine pw_iload_n dX10_operates_116 rfl ?_
              refine pw_bipush (v := nI 47) dX10_operates_117 (by decide) ?_
              refine pw_icmpN_eq _ _ (tgt := 128) dX10_operates_119 (by decide) (rfl) (rfl) (by omega) (by omega) (fun h119 => ?_) (fun h119 => ?_)
              · refine pw_aload_n dX10_operates_128 rfl ?_
                refine pw_getR fX10_147 dX10_operates_129 (sh_lt hG (by decide)) (sh_tg hG 45 rfl) rfl (gr_at hP 85 rfl) ?_
                refine pw_iload dX10_operates_132 rfl ?_
                refine pw_laldN (hv.length + 1) dX10_operates_134 (sh_lt hG (by decide)) (sh_sh hG 91 rfl) (by decide) (rfl) (by omega) ?_
                refine pw_tj (z := rt.2) hla.2.2.2.1.2 ?_
                refine pw_lconst (v := 0) dX10_operates_135 (by decide) ?_
                refine pw_lif_ne (tgt := 147) dX10_operates_136 dX10_operates_137 (by decide) (fun h137 => ?_) (fun h137 => ?_)
                · refine pw_iload_n dX10_operates_147 rfl ?_
                  refine pw_bipush (v := nI 61) dX10_operates_148 (by decide) ?_
                  refine pw_icmpN_ne _ _ (tgt := 178) dX10_operates_150 (by decide) (rfl) (rfl) (by omega) (by omega) (fun h150 => ?_) (fun h150 => ?_)
                  · refine pw_iload_n dX10_operates_178 rfl ?_
                    refine pw_aload_n dX10_operates_179 rfl ?_
                    refine pw_getR fX10_147 dX10_operates_180 (sh_lt hG (by decide)) (sh_tg hG 45 rfl) rfl (gr_at hP 85 rfl) ?_
                    refine pw_iload_n dX10_operates_183 rfl ?_
                    refine pw_laldN hv.length dX10_operates_184 (sh_lt hG (by decide)) (sh_sh hG 91 rfl) (by decide) (rfl) (by omega) ?_
                    refine pw_tj (z := lf.2) hla.2.1.2 ?_
                    refine pw_aload_n dX10_operates_185 rfl ?_
                    refine pw_getR fX10_147 dX10_operates_186 (sh_lt hG (by decide)) (sh_tg hG 45 rfl) rfl (gr_at hP 85 rfl) ?_
                    refine pw_iload dX10_operates_189 rfl ?_
                    refine pw_laldN (hv.length + 1) dX10_operates_191 (sh_lt hG (by decide)) (sh_sh hG 91 rfl) (by decide) (rfl) (by omega) ?_
                    refine pw_tj (z := rt.2) hla.2.2.2.1.2 ?_
                    refine pw_callS (as := [_, _, _]) (kc' := 0) (ks' := 0) lX10_323 dX10_operates_192 rfl rfl (Nat.le_of_ble_eq_true rfl) (by omega) (Nat.le_of_ble_eq_true rfl) (Nat.zero_le _) (Nat.zero_le _) ?_
                    refine rw_op hlv (by omega) (fun q => by first | exact h137 | (exfalso; omega)) ?_
                    refine pw_lstore (lv' := [(6, _), (5, _), (4, _), (3, _), (2, _), (0, _), (1, _)]) dX10_operates_195 (by decide) rfl ?_
                    refine pw_aload_n dX10_operates_197 rfl ?_
                    refine pw_dup dX10_operates_198 rfl ?_
                    refine pw_getI fX10_279 dX10_operates_199 (sh_lt hG (by decide)) (sh_tg hG 45 rfl) rfl ?_
                    refine pw_iconst (v := nI 2) dX10_operates_202 (by decide) ?_
                    refine pw_isub dX10_operates_203 ?_
                    refine pw_ti (z := nI hv.length) hla.1 ?_
                    refine pw_putI fX10_279 dX10_operates_204 (Or.inl rfl) (by decide) (sh_lt hG (by decide)) (sh_tg hG 45 rfl) rfl ?_
                    refine pw_aload_n dX10_operates_207 rfl ?_
                    refine pw_iconst (v := nI 1) dX10_operates_208 (by decide) ?_
                    refine pw_lload dX10_operates_209 rfl ?_
                    refine pw_callV (as := [_, _]) (kc' := 0) (ks' := 0) lX10_295 dX10_operates_211 rfl rfl (sh_lt hG (by decide)) (sh_tg hG 45 rfl) (Nat.le_of_ble_eq_true rfl) (by omega) (Nat.le_of_ble_eq_true rfl) (Nat.zero_le _) (Nat.zero_le _) ?_
                    refine r_put hG hP (h.vpop) (v := (1, opV x lf.2 rt.2)) (by omega) (fun I3 J3 h3 => ?_)
                    refine pw_aload_n dX10_operates_214 rfl ?_
                    refine pw_dup dX10_operates_215 rfl ?_
                    refine pw_getI fX10_282 dX10_operates_216 (sh_lt hG (by decide)) (sh_tg hG 45 rfl) rfl ?_
                    refine pw_iconst (v := nI 1) dX10_operates_219 (by decide) ?_
                    refine pw_isub dX10_operates_220 ?_
                    refine pw_ti (z := nI fr.length) h3.top.1 ?_
                    refine pw_putI fX10_282 dX10_operates_221 (Or.inl rfl) (by decide) (sh_lt hG (by decide)) (sh_tg hG 45 rfl) rfl ?_
                    exact pw_vret dX10_operates_224 rfl (k1 (ckO_0 (by omega) (by omega) (fun q => h137 q.1)) _ _ (h3.pop))
                  · refine pw_aload_n dX10_operates_153 rfl ?_
                    refine pw_getR fX10_147 dX10_operates_154 (sh_lt hG (by decide)) (sh_tg hG 45 rfl) rfl (gr_at hP 85 rfl) ?_
                    refine pw_iload_n dX10_operates_157 rfl ?_
                    refine pw_laldN hv.length dX10_operates_158 (sh_lt hG (by decide)) (sh_sh hG 91 rfl) (by decide) (rfl) (by omega) ?_
                    refine pw_tj (z := lf.2) hla.2.1.2 ?_
                    refine pw_aload_n dX10_operates_159 rfl ?_
                    refine pw_getR fX10_147 dX10_operates_160 (sh_lt hG (by decide)) (sh_tg hG 45 rfl) rfl (gr_at hP 85 rfl) ?_
                    refine pw_iload dX10_operates_163 rfl ?_
                    refine pw_laldN (hv.length + 1) dX10_operates_165 (sh_lt hG (by decide)) (sh_sh hG 91 rfl) (by decide) (rfl) (by omega) ?_
                    refine pw_tj (z := rt.2) hla.2.2.2.1.2 ?_
                    refine pw_lif_ne (tgt := 174) dX10_operates_166 dX10_operates_167 (by decide) (fun h167 => ?_) (fun h167 => ?_)
                    · refine pw_lconst (v := 0) dX10_operates_174 (by decide) ?_
                      refine pw_goto (tgt := 195) dX10_operates_175 (by decide) ?_
                      refine pw_tj (z := opV x lf.2 rt.2) (by rw [h150]; show (0 : Int64) = (if lf.2 = rt.2 then 1 else 0); rw [if_neg h167]) ?_
                      refine pw_lstore (lv' := [(6, _), (5, _), (4, _), (3, _), (2, _), (0, _), (1, _)]) dX10_operates_195 (by decide) rfl ?_
                      refine pw_aload_n dX10_operates_197 rfl ?_
                      refine pw_dup dX10_operates_198 rfl ?_
                      refine pw_getI fX10_279 dX10_operates_199 (sh_lt hG (by decide)) (sh_tg hG 45 rfl) rfl ?_
                      refine pw_iconst (v := nI 2) dX10_operates_202 (by decide) ?_
                      refine pw_isub dX10_operates_203 ?_
                      refine pw_ti (z := nI hv.length) hla.1 ?_
                      refine pw_putI fX10_279 dX10_operates_204 (Or.inl rfl) (by decide) (sh_lt hG (by decide)) (sh_tg hG 45 rfl) rfl ?_
                      refine pw_aload_n dX10_operates_207 rfl ?_
                      refine pw_iconst (v := nI 1) dX10_operates_208 (by decide) ?_
                      refine pw_lload dX10_operates_209 rfl ?_
                      refine pw_callV (as := [_, _]) (kc' := 0) (ks' := 0) lX10_295 dX10_operates_211 rfl rfl (sh_lt hG (by decide)) (sh_tg hG 45 rfl) (Nat.le_of_ble_eq_true rfl) (by omega) (Nat.le_of_ble_eq_true rfl) (Nat.zero_le _) (Nat.zero_le _) ?_
                      refine r_put hG hP (h.vpop) (v := (1, opV x lf.2 rt.2)) (by omega) (fun I3 J3 h3 => ?_)
                      refine pw_aload_n dX10_operates_214 rfl ?_
                      refine pw_dup dX10_operates_215 rfl ?_
                      refine pw_getI fX10_282 dX10_operates_216 (sh_lt hG (by decide)) (sh_tg hG 45 rfl) rfl ?_
                      refine pw_iconst (v := nI 1) dX10_operates_219 (by decide) ?_
                      refine pw_isub dX10_operates_220 ?_
                      refine pw_ti (z := nI fr.length) h3.top.1 ?_
                      refine pw_putI fX10_282 dX10_operates_221 (Or.inl rfl) (by decide) (sh_lt hG (by decide)) (sh_tg hG 45 rfl) rfl ?_
                      exact pw_vret dX10_operates_224 rfl (k1 (ckO_0 (by omega) (by omega) (fun q => h137 q.1)) _ _ (h3.pop))
                    · refine pw_lconst (v := 1) dX10_operates_170 (by decide) ?_
                      refine pw_goto (tgt := 195) dX10_operates_171 (by decide) ?_
                      refine pw_tj (z := opV x lf.2 rt.2) (by rw [h150]; show (1 : Int64) = (if lf.2 = rt.2 then 1 else 0); rw [if_pos h167]) ?_
                      refine pw_lstore (lv' := [(6, _), (5, _), (4, _), (3, _), (2, _), (0, _), (1, _)]) dX10_operates_195 (by decide) rfl ?_
                      refine pw_aload_n dX10_operates_197 rfl ?_
                      refine pw_dup dX10_operates_198 rfl ?_
                      refine pw_getI fX10_279 dX10_operates_199 (sh_lt hG (by decide)) (sh_tg hG 45 rfl) rfl ?_
                      refine pw_iconst (v := nI 2) dX10_operates_202 (by decide) ?_
                      refine pw_isub dX10_operates_203 ?_
                      refine pw_ti (z := nI hv.length) hla.1 ?_
                      refine pw_putI fX10_279 dX10_operates_204 (Or.inl rfl) (by decide) (sh_lt hG (by decide)) (sh_tg hG 45 rfl) rfl ?_
                      refine pw_aload_n dX10_operates_207 rfl ?_
                      refine pw_iconst (v := nI 1) dX10_operates_208 (by decide) ?_
                      refine pw_lload dX10_operates_209 rfl ?_
                      refine pw_callV (as := [_, _]) (kc' := 0) (ks' := 0) lX10_295 dX10_operates_211 rfl rfl (sh_lt hG (by decide)) (sh_tg hG 45 rfl) (Nat.le_of_ble_eq_true rfl) (by omega) (Nat.le_of_ble_eq_true rfl) (Nat.zero_le _) (Nat.zero_le _) ?_
                      refine r_put hG hP (h.vpop) (v := (1, opV x lf.2 rt.2)) (by omega) (fun I3 J3 h3 => ?_)
                      refine pw_aload_n dX10_operates_214 rfl ?_
                      refine pw_dup dX10_operates_215 rfl ?_
                      refine pw_getI fX10_282 dX10_operates_216 (sh_lt hG (by decide)) (sh_tg hG 45 rfl) rfl ?_
                      refine pw_iconst (v := nI 1) dX10_operates_219 (by decide) ?_
                      refine pw_isub dX10_operates_220 ?_
                      refine pw_ti (z := nI fr.length) h3.top.1 ?_
                      refine pw_putI fX10_282 dX10_operates_221 (Or.inl rfl) (by decide) (sh_lt hG (by decide)) (sh_tg hG 45 rfl) rfl ?_
                      exact pw_vret dX10_operates_224 rfl (k1 (ckO_0 (by omega) (by omega) (fun q => h137 q.1)) _ _ (h3.pop))
                · refine pw_aload_n dX10_operates_140 rfl ?_
                  refine pw_iconst (v := nI 4) dX10_operates_141 (by decide) ?_
                  refine pw_iload_n dX10_operates_142 rfl ?_
                  refine pw_callV (as := [_, _]) (kc' := 0) (ks' := 0) lX10_299 dX10_operates_143 rfl rfl (sh_lt hG (by decide)) (sh_tg hG 45 rfl) (Nat.le_of_ble_eq_true rfl) (by omega) (Nat.le_of_ble_eq_true rfl) (Nat.zero_le _) (Nat.zero_le _) ?_
                  refine r_fail hG hP h (e := 4) hNb ht (fun I3 h3 => ?_)
                  exact pw_vret dX10_operates_146 rfl (k0 (by rw [ckO_4 (by omega) (by omega) ⟨h137, by omega⟩]; decide) _ (by rw [ckO_4 (by omega) (by omega) ⟨h137, by omega⟩]; exact h3))
              · refine pw_iload_n dX10_operates_122 rfl ?_
                refine pw_bipush (v := nI 37) dX10_operates_123 (by decide) ?_
                refine pw_icmpN_ne _ _ (tgt := 147) dX10_operates_125 (by decide) (rfl) (rfl) (by omega) (by omega) (fun h125 => ?_) (fun h125 => ?_)
                · refine pw_iload_n dX10_operates_147 rfl ?_
                  refine pw_bipush (v := nI 61) dX10_operates_148 (by decide) ?_
                  refine pw_icmpN_ne _ _ (tgt := 178) dX10_operates_150 (by decide) (rfl) (rfl) (by omega) (by omega) (fun h150 => ?_) (fun h150 => ?_)
                  · refine pw_iload_n dX10_operates_178 rfl ?_
                    refine pw_aload_n dX10_operates_179 rfl ?_
                    refine pw_getR fX10_147 dX10_operates_180 (sh_lt hG (by decide)) (sh_tg hG 45 rfl) rfl (gr_at hP 85 rfl) ?_
                    refine pw_iload_n dX10_operates_183 rfl ?_
                    refine pw_laldN hv.length dX10_operates_184 (sh_lt hG (by decide)) (sh_sh hG 91 rfl) (by decide) (rfl) (by omega) ?_
                    refine pw_tj (z := lf.2) hla.2.1.2 ?_
                    refine pw_aload_n dX10_operates_185 rfl ?_
                    refine pw_getR fX10_147 dX10_operates_186 (sh_lt hG (by decide)) (sh_tg hG 45 rfl) rfl (gr_at hP 85 rfl) ?_
                    refine pw_iload dX10_operates_189 rfl ?_
                    refine pw_laldN (hv.length + 1) dX10_operates_191 (sh_lt hG (by decide)) (sh_sh hG 91 rfl) (by decide) (rfl) (by omega) ?_
                    refine pw_tj (z := rt.2) hla.2.2.2.1.2 ?_
                    refine pw_callS (as := [_, _, _]) (kc' := 0) (ks' := 0) lX10_323 dX10_operates_192 rfl rfl (Nat.le_of_ble_eq_true rfl) (by omega) (Nat.le_of_ble_eq_true rfl) (Nat.zero_le _) (Nat.zero_le _) ?_
                    refine rw_op hlv (by omega) (fun q => by first | exact h137 | (exfalso; omega)) ?_
                    refine pw_lstore (lv' := [(6, _), (5, _), (4, _), (3, _), (2, _), (0, _), (1, _)]) dX10_operates_195 (by decide) rfl ?_
                    refine pw_aload_n dX10_operates_197 rfl ?_
                    refine pw_dup dX10_operates_198 rfl ?_
                    refine pw_getI fX10_279 dX10_operates_199 (sh_lt hG (by decide)) (sh_tg hG 45 rfl) rfl ?_
                    refine pw_iconst (v := nI 2) dX10_operates_202 (by decide) ?_
                    refine pw_isub dX10_operates_203 ?_
                    refine pw_ti (z := nI hv.length) hla.1 ?_
                    refine pw_putI fX10_279 dX10_operates_204 (Or.inl rfl) (by decide) (sh_lt hG (by decide)) (sh_tg hG 45 rfl) rfl ?_
                    refine pw_aload_n dX10_operates_207 rfl ?_
                    refine pw_iconst (v := nI 1) dX10_operates_208 (by decide) ?_
                    refine pw_lload dX10_operates_209 rfl ?_
                    refine pw_callV (as := [_, _]) (kc' := 0) (ks' := 0) lX10_295 dX10_operates_211 rfl rfl (sh_lt hG (by decide)) (sh_tg hG 45 rfl) (Nat.le_of_ble_eq_true rfl) (by omega) (Nat.le_of_ble_eq_true rfl) (Nat.zero_le _) (Nat.zero_le _) ?_
                    refine r_put hG hP (h.vpop) (v := (1, opV x lf.2 rt.2)) (by omega) (fun I3 J3 h3 => ?_)
                    refine pw_aload_n dX10_operates_214 rfl ?_
                    refine pw_dup dX10_operates_215 rfl ?_
                    refine pw_getI fX10_282 dX10_operates_216 (sh_lt hG (by decide)) (sh_tg hG 45 rfl) rfl ?_
                    refine pw_iconst (v := nI 1) dX10_operates_219 (by decide) ?_
                    refine pw_isub dX10_operates_220 ?_
                    refine pw_ti (z := nI fr.length) h3.top.1 ?_
                    refine pw_putI fX10_282 dX10_operates_221 (Or.inl rfl) (by decide) (sh_lt hG (by decide)) (sh_tg hG 45 rfl) rfl ?_
                    exact pw_vret dX10_operates_224 rfl (k1 (ckO_0 (by omega) (by omega) (fun q => by have := q.2; omega)) _ _ (h3.pop))
                  · refine pw_aload_n dX10_operates_153 rfl ?_
                    refine pw_getR fX10_147 dX10_operates_154 (sh_lt hG (by decide)) (sh_tg hG 45 rfl) rfl (gr_at hP 85 rfl) ?_
                    refine pw_iload_n dX10_operates_157 rfl ?_
                    refine pw_laldN hv.length dX10_operates_158 (sh_lt hG (by decide)) (sh_sh hG 91 rfl) (by decide) (rfl) (by omega) ?_
                    refine pw_tj (z := lf.2) hla.2.1.2 ?_
                    refine pw_aload_n dX10_operates_159 rfl ?_
                    refine pw_getR fX10_147 dX10_operates_160 (sh_lt hG (by decide)) (sh_tg hG 45 rfl) rfl (gr_at hP 85 rfl) ?_
                    refine pw_iload dX10_operates_163 rfl ?_
                    refine pw_laldN (hv.length + 1) dX10_operates_165 (sh_lt hG (by decide)) (sh_sh hG 91 rfl) (by decide) (rfl) (by omega) ?_
                    refine pw_tj (z := rt.2) hla.2.2.2.1.2 ?_
                    refine pw_lif_ne (tgt := 174) dX10_operates_166 dX10_operates_167 (by decide) (fun h167 => ?_) (fun h167 => ?_)
                    · refine pw_lconst (v := 0) dX10_operates_174 (by decide) ?_
                      refine pw_goto (tgt := 195) dX10_operates_175 (by decide) ?_
                      refine pw_tj (z := opV x lf.2 rt.2) (by rw [h150]; show (0 : Int64) = (if lf.2 = rt.2 then 1 else 0); rw [if_neg h167]) ?_
                      refine pw_lstore (lv' := [(6, _), (5, _), (4, _), (3, _), (2, _), (0, _), (1, _)]) dX10_operates_195 (by decide) rfl ?_
                      refine pw_aload_n dX10_operates_197 rfl ?_
                      refine pw_dup dX10_operates_198 rfl ?_
                      refine pw_getI fX10_279 dX10_operates_199 (sh_lt hG (by decide)) (sh_tg hG 45 rfl) rfl ?_
                      refine pw_iconst (v := nI 2) dX10_operates_202 (by decide) ?_
                      refine pw_isub dX10_operates_203 ?_
                      refine pw_ti (z := nI hv.length) hla.1 ?_
                      refine pw_putI fX10_279 dX10_operates_204 (Or.inl rfl) (by decide) (sh_lt hG (by decide)) (sh_tg hG 45 rfl) rfl ?_
                      refine pw_aload_n dX10_operates_207 rfl ?_
                      refine pw_iconst (v := nI 1) dX10_operates_208 (by decide) ?_
                      refine pw_lload dX10_operates_209 rfl ?_
                      refine pw_callV (as := [_, _]) (kc' := 0) (ks' := 0) lX10_295 dX10_operates_211 rfl rfl (sh_lt hG (by decide)) (sh_tg hG 45 rfl) (Nat.le_of_ble_eq_true rfl) (by omega) (Nat.le_of_ble_eq_true rfl) (Nat.zero_le _) (Nat.zero_le _) ?_
                      refine r_put hG hP (h.vpop) (v := (1, opV x lf.2 rt.2)) (by omega) (fun I3 J3 h3 => ?_)
                      refine pw_aload_n dX10_operates_214 rfl ?_
                      refine pw_dup dX10_operates_215 rfl ?_
                      refine pw_getI fX10_282 dX10_operates_216 (sh_lt hG (by decide)) (sh_tg hG 45 rfl) rfl ?_
                      refine pw_iconst (v := nI 1) dX10_operates_219 (by decide) ?_
                      refine pw_isub dX10_operates_220 ?_
                      refine pw_ti (z := nI fr.length) h3.top.1 ?_
                      refine pw_putI fX10_282 dX10_operates_221 (Or.inl rfl) (by decide) (sh_lt hG (by decide)) (sh_tg hG 45 rfl) rfl ?_
                      exact pw_vret dX10_operates_224 rfl (k1 (ckO_0 (by omega) (by omega) (fun q => by have := q.2; omega)) _ _ (h3.pop))
                    · refine pw_lconst (v := 1) dX10_operates_170 (by decide) ?_
                      refine pw_goto (tgt := 195) dX10_operates_171 (by decide) ?_
                      refine pw_tj (z := opV x lf.2 rt.2) (by rw [h150]; show (1 : Int64) = (if lf.2 = rt.2 then 1 else 0); rw [if_pos h167]) ?_
                      refine pw_lstore (lv' := [(6, _), (5, _), (4, _), (3, _), (2, _), (0, _), (1, _)]) dX10_operates_195 (by decide) rfl ?_
                      refine pw_aload_n dX10_operates_197 rfl ?_
                      refine pw_dup dX10_operates_198 rfl ?_
                      refine pw_getI fX10_279 dX10_operates_199 (sh_lt hG (by decide)) (sh_tg hG 45 rfl) rfl ?_
                      refine pw_iconst (v := nI 2) dX10_operates_202 (by decide) ?_
                      refine pw_isub dX10_operates_203 ?_
                      refine pw_ti (z := nI hv.length) hla.1 ?_
                      refine pw_putI fX10_279 dX10_operates_204 (Or.inl rfl) (by decide) (sh_lt hG (by decide)) (sh_tg hG 45 rfl) rfl ?_
                      refine pw_aload_n dX10_operates_207 rfl ?_
                      refine pw_iconst (v := nI 1) dX10_operates_208 (by decide) ?_
                      refine pw_lload dX10_operates_209 rfl ?_
                      refine pw_callV (as := [_, _]) (kc' := 0) (ks' := 0) lX10_295 dX10_operates_211 rfl rfl (sh_lt hG (by decide)) (sh_tg hG 45 rfl) (Nat.le_of_ble_eq_true rfl) (by omega) (Nat.le_of_ble_eq_true rfl) (Nat.zero_le _) (Nat.zero_le _) ?_
                      refine r_put hG hP (h.vpop) (v := (1, opV x lf.2 rt.2)) (by omega) (fun I3 J3 h3 => ?_)
                      refine pw_aload_n dX10_operates_214 rfl ?_
                      refine pw_dup dX10_operates_215 rfl ?_
                      refine pw_getI fX10_282 dX10_operates_216 (sh_lt hG (by decide)) (sh_tg hG 45 rfl) rfl ?_
                      refine pw_iconst (v := nI 1) dX10_operates_219 (by decide) ?_
                      refine pw_isub dX10_operates_220 ?_
                      refine pw_ti (z := nI fr.length) h3.top.1 ?_
                      refine pw_putI fX10_282 dX10_operates_221 (Or.inl rfl) (by decide) (sh_lt hG (by decide)) (sh_tg hG 45 rfl) rfl ?_
                      exact pw_vret dX10_operates_224 rfl (k1 (ckO_0 (by omega) (by omega) (fun q => by have := q.2; omega)) _ _ (h3.pop))
                · refine pw_aload_n dX10_operates_128 rfl ?_
                  refine pw_getR fX10_147 dX10_operates_129 (sh_lt hG (by decide)) (sh_tg hG 45 rfl) rfl (gr_at hP 85 rfl) ?_
                  refine pw_iload dX10_operates_132 rfl ?_
                  refine pw_laldN (hv.length + 1) dX10_operates_134 (sh_lt hG (by decide)) (sh_sh hG 91 rfl) (by decide) (rfl) (by omega) ?_
                  refine pw_tj (z := rt.2) hla.2.2.2.1.2 ?_
                  refine pw_lconst (v := 0) dX10_operates_135 (by decide) ?_
                  refine pw_lif_ne (tgt := 147) dX10_operates_136 dX10_operates_137 (by decide) (fun h137 => ?_) (fun h137 => ?_)
                  · refine pw_iload_n dX10_operates_147 rfl ?_
                    refine pw_bipush (v := nI 61) dX10_operates_148 (by decide) ?_
                    refine pw_icmpN_ne _ _ (tgt := 178) dX10_operates_150 (by decide) (rfl) (rfl) (by omega) (by omega) (fun h150 => ?_) (fun h150 => ?_)
                    · refine pw_iload_n dX10_operates_178 rfl ?_
                      refine pw_aload_n dX10_operates_179 rfl ?_
                      refine pw_getR fX10_147 dX10_operates_180 (sh_lt hG (by decide)) (sh_tg hG 45 rfl) rfl (gr_at hP 85 rfl) ?_
                      refine pw_iload_n dX10_operates_183 rfl ?_
                      refine pw_laldN hv.length dX10_operates_184 (sh_lt hG (by decide)) (sh_sh hG 91 rfl) (by decide) (rfl) (by omega) ?_
                      refine pw_tj (z := lf.2) hla.2.1.2 ?_
                      refine pw_aload_n dX10_operates_185 rfl ?_
                      refine pw_getR fX10_147 dX10_operates_186 (sh_lt hG (by decide)) (sh_tg hG 45 rfl) rfl (gr_at hP 85 rfl) ?_
                      refine pw_iload dX10_operates_189 rfl ?_
                      refine pw_laldN (hv.length + 1) dX10_operates_191 (sh_lt hG (by decide)) (sh_sh hG 91 rfl) (by decide) (rfl) (by omega) ?_
                      refine pw_tj (z := rt.2) hla.2.2.2.1.2 ?_
                      refine pw_callS (as := [_, _, _]) (kc' := 0) (ks' := 0) lX10_323 dX10_operates_192 rfl rfl (Nat.le_of_ble_eq_true rfl) (by omega) (Nat.le_of_ble_eq_true rfl) (Nat.zero_le _) (Nat.zero_le _) ?_
                      refine rw_op hlv (by omega) (fun q => by first | exact h137 | (exfalso; omega)) ?_
                      refine pw_lstore (lv' := [(6, _), (5, _), (4, _), (3, _), (2, _), (0, _), (1, _)]) dX10_operates_195 (by decide) rfl ?_
                      refine pw_aload_n dX10_operates_197 rfl ?_
                      refine pw_dup dX10_operates_198 rfl ?_
                      refine pw_getI fX10_279 dX10_operates_199 (sh_lt hG (by decide)) (sh_tg hG 45 rfl) rfl ?_
                      refine pw_iconst (v := nI 2) dX10_operates_202 (by decide) ?_
                      refine pw_isub dX10_operates_203 ?_
                      refine pw_ti (z := nI hv.length) hla.1 ?_
                      refine pw_putI fX10_279 dX10_operates_204 (Or.inl rfl) (by decide) (sh_lt hG (by decide)) (sh_tg hG 45 rfl) rfl ?_
                      refine pw_aload_n dX10_operates_207 rfl ?_
                      refine pw_iconst (v := nI 1) dX10_operates_208 (by decide) ?_
                      refine pw_lload dX10_operates_209 rfl ?_
                      refine pw_callV (as := [_, _]) (kc' := 0) (ks' := 0) lX10_295 dX10_operates_211 rfl rfl (sh_lt hG (by decide)) (sh_tg hG 45 rfl) (Nat.le_of_ble_eq_true rfl) (by omega) (Nat.le_of_ble_eq_true rfl) (Nat.zero_le _) (Nat.zero_le _) ?_
                      refine r_put hG hP (h.vpop) (v := (1, opV x lf.2 rt.2)) (by omega) (fun I3 J3 h3 => ?_)
                      refine pw_aload_n dX10_operates_214 rfl ?_
                      refine pw_dup dX10_operates_215 rfl ?_
                      refine pw_getI fX10_282 dX10_operates_216 (sh_lt hG (by decide)) (sh_tg hG 45 rfl) rfl ?_
                      refine pw_iconst (v := nI 1) dX10_operates_219 (by decide) ?_
                      refine pw_isub dX10_operates_220 ?_
                      refine pw_ti (z := nI fr.length) h3.top.1 ?_
                      refine pw_putI fX10_282 dX10_operates_221 (Or.inl rfl) (by decide) (sh_lt hG (by decide)) (sh_tg hG 45 rfl) rfl ?_
                      exact pw_vret dX10_operates_224 rfl (k1 (ckO_0 (by omega) (by omega) (fun q => h137 q.1)) _ _ (h3.pop))
                    · refine pw_aload_n dX10_operates_153 rfl ?_
                      refine pw_getR fX10_147 dX10_operates_154 (sh_lt hG (by decide)) (sh_tg hG 45 rfl) rfl (gr_at hP 85 rfl) ?_
                      refine pw_iload_n dX10_operates_157 rfl ?_
                      refine pw_laldN hv.length dX10_operates_158 (sh_lt hG (by decide)) (sh_sh hG 91 rfl) (by decide) (rfl) (by omega) ?_
                      refine pw_tj (z := lf.2) hla.2.1.2 ?_
                      refine pw_aload_n dX10_operates_159 rfl ?_
                      refine pw_getR fX10_147 dX10_operates_160 (sh_lt hG (by decide)) (sh_tg hG 45 rfl) rfl (gr_at hP 85 rfl) ?_
                      refine pw_iload dX10_operates_163 rfl ?_
                      refine pw_laldN (hv.length + 1) dX10_operates_165 (sh_lt hG (by decide)) (sh_sh hG 91 rfl) (by decide) (rfl) (by omega) ?_
                      refine pw_tj (z := rt.2) hla.2.2.2.1.2 ?_
                      refine pw_lif_ne (tgt := 174) dX10_operates_166 dX10_operates_167 (by decide) (fun h167 => ?_) (fun h167 => ?_)
                      · refine pw_lconst (v := 0) dX10_operates_174 (by decide) ?_
                        refine pw_goto (tgt := 195) dX10_operates_175 (by decide) ?_
                        refine pw_tj (z := opV x lf.2 rt.2) (by rw [h150]; show (0 : Int64) = (if lf.2 = rt.2 then 1 else 0); rw [if_neg h167]) ?_
                        refine pw_lstore (lv' := [(6, _), (5, _), (4, _), (3, _), (2, _), (0, _), (1, _)]) dX10_operates_195 (by decide) rfl ?_
                        refine pw_aload_n dX10_operates_197 rfl ?_
                        refine pw_dup dX10_operates_198 rfl ?_
                        refine pw_getI fX10_279 dX10_operates_199 (sh_lt hG (by decide)) (sh_tg hG 45 rfl) rfl ?_
                        refine pw_iconst (v := nI 2) dX10_operates_202 (by decide) ?_
                        refine pw_isub dX10_operates_203 ?_
                        refine pw_ti (z := nI hv.length) hla.1 ?_
                        refine pw_putI fX10_279 dX10_operates_204 (Or.inl rfl) (by decide) (sh_lt hG (by decide)) (sh_tg hG 45 rfl) rfl ?_
                        refine pw_aload_n dX10_operates_207 rfl ?_
                        refine pw_iconst (v := nI 1) dX10_operates_208 (by decide) ?_
                        refine pw_lload dX10_operates_209 rfl ?_
                        refine pw_callV (as := [_, _]) (kc' := 0) (ks' := 0) lX10_295 dX10_operates_211 rfl rfl (sh_lt hG (by decide)) (sh_tg hG 45 rfl) (Nat.le_of_ble_eq_true rfl) (by omega) (Nat.le_of_ble_eq_true rfl) (Nat.zero_le _) (Nat.zero_le _) ?_
                        refine r_put hG hP (h.vpop) (v := (1, opV x lf.2 rt.2)) (by omega) (fun I3 J3 h3 => ?_)
                        refine pw_aload_n dX10_operates_214 rfl ?_
                        refine pw_dup dX10_operates_215 rfl ?_
                        refine pw_getI fX10_282 dX10_operates_216 (sh_lt hG (by decide)) (sh_tg hG 45 rfl) rfl ?_
                        refine pw_iconst (v := nI 1) dX10_operates_219 (by decide) ?_
                        refine pw_isub dX10_operates_220 ?_
                        refine pw_ti (z := nI fr.length) h3.top.1 ?_
                        refine pw_putI fX10_282 dX10_operates_221 (Or.inl rfl) (by decide) (sh_lt hG (by decide)) (sh_tg hG 45 rfl) rfl ?_
                        exact pw_vret dX10_operates_224 rfl (k1 (ckO_0 (by omega) (by omega) (fun q => h137 q.1)) _ _ (h3.pop))
                      · refine pw_lconst (v := 1) dX10_operates_170 (by decide) ?_
                        refine pw_goto (tgt := 195) dX10_operates_171 (by decide) ?_
                        refine pw_tj (z := opV x lf.2 rt.2) (by rw [h150]; show (1 : Int64) = (if lf.2 = rt.2 then 1 else 0); rw [if_pos h167]) ?_
                        refine pw_lstore (lv' := [(6, _), (5, _), (4, _), (3, _), (2, _), (0, _), (1, _)]) dX10_operates_195 (by decide) rfl ?_
                        refine pw_aload_n dX10_operates_197 rfl ?_
                        refine pw_dup dX10_operates_198 rfl ?_
                        refine pw_getI fX10_279 dX10_operates_199 (sh_lt hG (by decide)) (sh_tg hG 45 rfl) rfl ?_
                        refine pw_iconst (v := nI 2) dX10_operates_202 (by decide) ?_
                        refine pw_isub dX10_operates_203 ?_
                        refine pw_ti (z := nI hv.length) hla.1 ?_
                        refine pw_putI fX10_279 dX10_operates_204 (Or.inl rfl) (by decide) (sh_lt hG (by decide)) (sh_tg hG 45 rfl) rfl ?_
                        refine pw_aload_n dX10_operates_207 rfl ?_
                        refine pw_iconst (v := nI 1) dX10_operates_208 (by decide) ?_
                        refine pw_lload dX10_operates_209 rfl ?_
                        refine pw_callV (as := [_, _]) (kc' := 0) (ks' := 0) lX10_295 dX10_operates_211 rfl rfl (sh_lt hG (by decide)) (sh_tg hG 45 rfl) (Nat.le_of_ble_eq_true rfl) (by omega) (Nat.le_of_ble_eq_true rfl) (Nat.zero_le _) (Nat.zero_le _) ?_
                        refine r_put hG hP (h.vpop) (v := (1, opV x lf.2 rt.2)) (by omega) (fun I3 J3 h3 => ?_)
                        refine pw_aload_n dX10_operates_214 rfl ?_
                        refine pw_dup dX10_operates_215 rfl ?_
                        refine pw_getI fX10_282 dX10_operates_216 (sh_lt hG (by decide)) (sh_tg hG 45 rfl) rfl ?_
                        refine pw_iconst (v := nI 1) dX10_operates_219 (by decide) ?_
                        refine pw_isub dX10_operates_220 ?_
                        refine pw_ti (z := nI fr.length) h3.top.1 ?_
                        refine pw_putI fX10_282 dX10_operates_221 (Or.inl rfl) (by decide) (sh_lt hG (by decide)) (sh_tg hG 45 rfl) rfl ?_
                        exact pw_vret dX10_operates_224 rfl (k1 (ckO_0 (by omega) (by omega) (fun q => h137 q.1)) _ _ (h3.pop))
                  · refine pw_aload_n dX10_operates_140 rfl ?_
                    refine pw_iconst (v := nI 4) dX10_operates_141 (by decide) ?_
                    refine pw_iload_n dX10_operates_142 rfl ?_
                    refine pw_callV (as := [_, _]) (kc' := 0) (ks' := 0) lX10_299 dX10_operates_143 rfl rfl (sh_lt hG (by decide)) (sh_tg hG 45 rfl) (Nat.le_of_ble_eq_true rfl) (by omega) (Nat.le_of_ble_eq_true rfl) (Nat.zero_le _) (Nat.zero_le _) ?_
                    refine r_fail hG hP h (e := 4) hNb ht (fun I3 h3 => ?_)
                    exact pw_vret dX10_operates_146 rfl (k0 (by rw [ckO_4 (by omega) (by omega) ⟨h137, by omega⟩]; decide) _ (by rw [ckO_4 (by omega) (by omega) ⟨h137, by omega⟩]; exact h3))
            · refine pw_aload_n dX10_operates_109 rfl ?_
              refine pw_iconst (v := nI 3) dX10_operates_110 (by decide) ?_
              refine pw_iload_n dX10_operates_111 rfl ?_
              refine pw_callV (as := [_, _]) (kc' := 0) (ks' := 0) lX10_299 dX10_operates_112 rfl rfl (sh_lt hG (by decide)) (sh_tg hG 45 rfl) (Nat.le_of_ble_eq_true rfl) (by omega) (Nat.le_of_ble_eq_true rfl) (Nat.zero_le _) (Nat.zero_le _) ?_
              refine r_fail hG hP h (e := 3) hNb ht (fun I3 h3 => ?_)
              exact pw_vret dX10_operates_115 rfl (k0 (by rw [ckO_3 (by omega) (by omega)]; decide) _ (by rw [ckO_3 (by omega) (by omega)]; exact h3))
        · refine pw_iload dX10_operates_83 rfl ?_
          refine pw_if_ne (tgt := 116) dX10_operates_85 (by decide) (fun h => absurd (by decide) h) (fun h85 => ?_)
          refine pw_aload_n dX10_operates_88 rfl ?_
          refine pw_getR fX10_144 dX10_operates_89 (sh_lt hG (by decide)) (sh_tg hG 45 rfl) rfl (gr_at hP 84 rfl) ?_
          refine pw_iload_n dX10_operates_92 rfl ?_
          refine pw_ialdN hv.length dX10_operates_93 (sh_lt hG (by decide)) (sh_sh hG 90 rfl) (by decide) (rfl) (by omega) ?_
          refine pw_ti (z := nI lf.1) hla.2.1.1 ?_
          refine pw_iconst (v := nI 2) dX10_operates_94 (by decide) ?_
          refine pw_icmpN_eq _ _ (tgt := 109) dX10_operates_95 (by decide) (rfl) (rfl) (by omega) (by omega) (fun h95 => ?_) (fun h95 => ?_)
          · refine pw_aload_n dX10_operates_109 rfl ?_
            refine pw_iconst (v := nI 3) dX10_operates_110 (by decide) ?_
            refine pw_iload_n dX10_operates_111 rfl ?_
            refine pw_callV (as := [_, _]) (kc' := 0) (ks' := 0) lX10_299 dX10_operates_112 rfl rfl (sh_lt hG (by decide)) (sh_tg hG 45 rfl) (Nat.le_of_ble_eq_true rfl) (by omega) (Nat.le_of_ble_eq_true rfl) (Nat.zero_le _) (Nat.zero_le _) ?_
            refine r_fail hG hP h (e := 3) hNb ht (fun I3 h3 => ?_)
            exact pw_vret dX10_operates_115 rfl (k0 (by rw [ckO_3 (by omega) (by omega)]; decide) _ (by rw [ckO_3 (by omega) (by omega)]; exact h3))
          · refine pw_aload_n dX10_operates_98 rfl ?_
            refine pw_getR fX10_144 dX10_operates_99 (sh_lt hG (by decide)) (sh_tg hG 45 rfl) rfl (gr_at hP 84 rfl) ?_
            refine pw_iload dX10_operates_102 rfl ?_
            refine pw_ialdN (hv.length + 1) dX10_operates_104 (sh_lt hG (by decide)) (sh_sh hG 90 rfl) (by decide) (rfl) (by omega) ?_
            refine pw_ti (z := nI rt.1) hla.2.2.2.1.1 ?_
            refine pw_iconst (v := nI 2) dX10_operates_105 (by decide) ?_
            refine pw_icmpN_ne _ _ (tgt := 116) dX10_operates_106 (by decide) (rfl) (rfl) (by omega) (by omega) (fun h106 => ?_) (fun h106 => ?_)
            · refine pw_iload_n dX10_operates_116 rfl ?_
              refine pw_bipush (v := nI 47) dX10_operates_117 (by decide) ?_
              refine pw_icmpN_eq _ _ (tgt := 128) dX10_operates_119 (by decide) (rfl) (rfl) (by omega) (by omega) (fun h119 => ?_) (fun h119 => ?_)
              · refine pw_aload_n dX10_operates_128 rfl ?_
                refine pw_getR fX10_147 dX10_operates_129 (sh_lt hG (by decide)) (sh_tg hG 45 rfl) rfl (gr_at hP 85 rfl) ?_
                refine pw_iload dX10_operates_132 rfl ?_
                refine pw_laldN (hv.length + 1) dX10_operates_134 (sh_lt hG (by decide)) (sh_sh hG 91 rfl) (by decide) (rfl) (by omega) ?_
                refine pw_tj (z := rt.2) hla.2.2.2.1.2 ?_
                refine pw_lconst (v := 0) dX10_operates_135 (by decide) ?_
                refine pw_lif_ne (tgt := 147) dX10_operates_136 dX10_operates_137 (by decide) (fun h137 => ?_) (fun h137 => ?_)
                · refine pw_iload_n dX10_operates_147 rfl ?_
                  refine pw_bipush (v := nI 61) dX10_operates_148 (by decide) ?_
                  refine pw_icmpN_ne _ _ (tgt := 178) dX10_operates_150 (by decide) (rfl) (rfl) (by omega) (by omega) (fun h150 => ?_) (fun h150 => ?_)
                  · refine pw_iload_n dX10_operates_178 rfl ?_
                    refine pw_aload_n dX10_operates_179 rfl ?_
                    refine pw_getR fX10_147 dX10_operates_180 (sh_lt hG (by decide)) (sh_tg hG 45 rfl) rfl (gr_at hP 85 rfl) ?_
                    refine pw_iload_n dX10_operates_183 rfl ?_
                    refine pw_laldN hv.length dX10_operates_184 (sh_lt hG (by decide)) (sh_sh hG 91 rfl) (by decide) (rfl) (by omega) ?_
                    refine pw_tj (z := lf.2) hla.2.1.2 ?_
                    refine pw_aload_n dX10_operates_185 rfl ?_
                    refine pw_getR fX10_147 dX10_operates_186 (sh_lt hG (by decide)) (sh_tg hG 45 rfl) rfl (gr_at hP 85 rfl) ?_
                    refine pw_iload dX10_operates_189 rfl ?_
                    refine pw_laldN (hv.length + 1) dX10_operates_191 (sh_lt hG (by decide)) (sh_sh hG 91 rfl) (by decide) (rfl) (by omega) ?_
                    refine pw_tj (z := rt.2) hla.2.2.2.1.2 ?_
                    refine pw_callS (as := [_, _, _]) (kc' := 0) (ks' := 0) lX10_323 dX10_operates_192 rfl rfl (Nat.le_of_ble_eq_true rfl) (by omega) (Nat.le_of_ble_eq_true rfl) (Nat.zero_le _) (Nat.zero_le _) ?_
                    refine rw_op hlv (by omega) (fun q => by first | exact h137 | (exfalso; omega)) ?_
                    refine pw_lstore (lv' := [(6, _), (5, _), (4, _), (3, _), (2, _), (0, _), (1, _)]) dX10_operates_195 (by decide) rfl ?_
                    refine pw_aload_n dX10_operates_197 rfl ?_
                    refine pw_dup dX10_operates_198 rfl ?_
                    refine pw_getI fX10_279 dX10_operates_199 (sh_lt hG (by decide)) (sh_tg hG 45 rfl) rfl ?_
                    refine pw_iconst (v := nI 2) dX10_operates_202 (by decide) ?_
                    refine pw_isub dX10_operates_203 ?_
                    refine pw_ti (z := nI hv.length) hla.1 ?_
                    refine pw_putI fX10_279 dX10_operates_204 (Or.inl rfl) (by decide) (sh_lt hG (by decide)) (sh_tg hG 45 rfl) rfl ?_
                    refine pw_aload_n dX10_operates_207 rfl ?_
                    refine pw_iconst (v := nI 1) dX10_operates_208 (by decide) ?_
                    refine pw_lload dX10_operates_209 rfl ?_
                    refine pw_callV (as := [_, _]) (kc' := 0) (ks' := 0) lX10_295 dX10_operates_211 rfl rfl (sh_lt hG (by decide)) (sh_tg hG 45 rfl) (Nat.le_of_ble_eq_true rfl) (by omega) (Nat.le_of_ble_eq_true rfl) (Nat.zero_le _) (Nat.zero_le _) ?_
                    refine r_put hG hP (h.vpop) (v := (1, opV x lf.2 rt.2)) (by omega) (fun I3 J3 h3 => ?_)
                    refine pw_aload_n dX10_operates_214 rfl ?_
                    refine pw_dup dX10_operates_215 rfl ?_
                    refine pw_getI fX10_282 dX10_operates_216 (sh_lt hG (by decide)) (sh_tg hG 45 rfl) rfl ?_
                    refine pw_iconst (v := nI 1) dX10_operates_219 (by decide) ?_
                    refine pw_isub dX10_operates_220 ?_
                    refine pw_ti (z := nI fr.length) h3.top.1 ?_
                    refine pw_putI fX10_282 dX10_operates_221 (Or.inl rfl) (by decide) (sh_lt hG (by decide)) (sh_tg hG 45 rfl) rfl ?_
                    exact pw_vret dX10_operates_224 rfl (k1 (ckO_0 (by omega) (by omega) (fun q => h137 q.1)) _ _ (h3.pop))
                  · refine pw_aload_n dX10_operates_153 rfl ?_
                    refine pw_getR fX10_147 dX10_operates_154 (sh_lt hG (by decide)) (sh_tg hG 45 rfl) rfl (gr_at hP 85 rfl) ?_
                    refine pw_iload_n dX10_operates_157 rfl ?_
                    refine pw_laldN hv.length dX10_operates_158 (sh_lt hG (by decide)) (sh_sh hG 91 rfl) (by decide) (rfl) (by omega) ?_
                    refine pw_tj (z := lf.2) hla.2.1.2 ?_
                    refine pw_aload_n dX10_operates_159 rfl ?_
                    refine pw_getR fX10_147 dX10_operates_160 (sh_lt hG (by decide)) (sh_tg hG 45 rfl) rfl (gr_at hP 85 rfl) ?_
                    refine pw_iload dX10_operates_163 rfl ?_
                    refine pw_laldN (hv.length + 1) dX10_operates_165 (sh_lt hG (by decide)) (sh_sh hG 91 rfl) (by decide) (rfl) (by omega) ?_
                    refine pw_tj (z := rt.2) hla.2.2.2.1.2 ?_
                    refine pw_lif_ne (tgt := 174) dX10_operates_166 dX10_operates_167 (by decide) (fun h167 => ?_) (fun h167 => ?_)
                    · refine pw_lconst (v := 0) dX10_operates_174 (by decide) ?_
                      refine pw_goto (tgt := 195) dX10_operates_175 (by decide) ?_
                      refine pw_tj (z := opV x lf.2 rt.2) (by rw [h150]; show (0 : Int64) = (if lf.2 = rt.2 then 1 else 0); rw [if_neg h167]) ?_
                      refine pw_lstore (lv' := [(6, _), (5, _), (4, _), (3, _), (2, _), (0, _), (1, _)]) dX10_operates_195 (by decide) rfl ?_
                      refine pw_aload_n dX10_operates_197 rfl ?_
                      refine pw_dup dX10_operates_198 rfl ?_
                      refine pw_getI fX10_279 dX10_operates_199 (sh_lt hG (by decide)) (sh_tg hG 45 rfl) rfl ?_
                      refine pw_iconst (v := nI 2) dX10_operates_202 (by decide) ?_
                      refine pw_isub dX10_operates_203 ?_
                      refine pw_ti (z := nI hv.length) hla.1 ?_
                      refine pw_putI fX10_279 dX10_operates_204 (Or.inl rfl) (by decide) (sh_lt hG (by decide)) (sh_tg hG 45 rfl) rfl ?_
                      refine pw_aload_n dX10_operates_207 rfl ?_
                      refine pw_iconst (v := nI 1) dX10_operates_208 (by decide) ?_
                      refine pw_lload dX10_operates_209 rfl ?_
                      refine pw_callV (as := [_, _]) (kc' := 0) (ks' := 0) lX10_295 dX10_operates_211 rfl rfl (sh_lt hG (by decide)) (sh_tg hG 45 rfl) (Nat.le_of_ble_eq_true rfl) (by omega) (Nat.le_of_ble_eq_true rfl) (Nat.zero_le _) (Nat.zero_le _) ?_
                      refine r_put hG hP (h.vpop) (v := (1, opV x lf.2 rt.2)) (by omega) (fun I3 J3 h3 => ?_)
                      refine pw_aload_n dX10_operates_214 rfl ?_
                      refine pw_dup dX10_operates_215 rfl ?_
                      refine pw_getI fX10_282 dX10_operates_216 (sh_lt hG (by decide)) (sh_tg hG 45 rfl) rfl ?_
                      refine pw_iconst (v := nI 1) dX10_operates_219 (by decide) ?_
                      refine pw_isub dX10_operates_220 ?_
                      refine pw_ti (z := nI fr.length) h3.top.1 ?_
                      refine pw_putI fX10_282 dX10_operates_221 (Or.inl rfl) (by decide) (sh_lt hG (by decide)) (sh_tg hG 45 rfl) rfl ?_
                      exact pw_vret dX10_operates_224 rfl (k1 (ckO_0 (by omega) (by omega) (fun q => h137 q.1)) _ _ (h3.pop))
                    · refine pw_lconst (v := 1) dX10_operates_170 (by decide) ?_
                      refine pw_goto (tgt := 195) dX10_operates_171 (by decide) ?_
                      refine pw_tj (z := opV x lf.2 rt.2) (by rw [h150]; show (1 : Int64) = (if lf.2 = rt.2 then 1 else 0); rw [if_pos h167]) ?_
                      refine pw_lstore (lv' := [(6, _), (5, _), (4, _), (3, _), (2, _), (0, _), (1, _)]) dX10_operates_195 (by decide) rfl ?_
                      refine pw_aload_n dX10_operates_197 rfl ?_
                      refine pw_dup dX10_operates_198 rfl ?_
                      refine pw_getI fX10_279 dX10_operates_199 (sh_lt hG (by decide)) (sh_tg hG 45 rfl) rfl ?_
                      refine pw_iconst (v := nI 2) dX10_operates_202 (by decide) ?_
                      refine pw_isub dX10_operates_203 ?_
                      refine pw_ti (z := nI hv.length) hla.1 ?_
                      refine pw_putI fX10_279 dX10_operates_204 (Or.inl rfl) (by decide) (sh_lt hG (by decide)) (sh_tg hG 45 rfl) rfl ?_
                      refine pw_aload_n dX10_operates_207 rfl ?_
                      refine pw_iconst (v := nI 1) dX10_operates_208 (by decide) ?_
                      refine pw_lload dX10_operates_209 rfl ?_
                      refine pw_callV (as := [_, _]) (kc' := 0) (ks' := 0) lX10_295 dX10_operates_211 rfl rfl (sh_lt hG (by decide)) (sh_tg hG 45 rfl) (Nat.le_of_ble_eq_true rfl) (by omega) (Nat.le_of_ble_eq_true rfl) (Nat.zero_le _) (Nat.zero_le _) ?_
                      refine r_put hG hP (h.vpop) (v := (1, opV x lf.2 rt.2)) (by omega) (fun I3 J3 h3 => ?_)
                      refine pw_aload_n dX10_operates_214 rfl ?_
                      refine pw_dup dX10_operates_215 rfl ?_
                      refine pw_getI fX10_282 dX10_operates_216 (sh_lt hG (by decide)) (sh_tg hG 45 rfl) rfl ?_
                      refine pw_iconst (v := nI 1) dX10_operates_219 (by decide) ?_
                      refine pw_isub dX10_operates_220 ?_
                      refine pw_ti (z := nI fr.length) h3.top.1 ?_
                      refine pw_putI fX10_282 dX10_operates_221 (Or.inl rfl) (by decide) (sh_lt hG (by decide)) (sh_tg hG 45 rfl) rfl ?_
                      exact pw_vret dX10_operates_224 rfl (k1 (ckO_0 (by omega) (by omega) (fun q => h137 q.1)) _ _ (h3.pop))
                · refine pw_aload_n dX10_operates_140 rfl ?_
                  refine pw_iconst (v := nI 4) dX10_operates_141 (by decide) ?_
                  refine pw_iload_n dX10_operates_142 rfl ?_
                  refine pw_callV (as := [_, _]) (kc' := 0) (ks' := 0) lX10_299 dX10_operates_143 rfl rfl (sh_lt hG (by decide)) (sh_tg hG 45 rfl) (Nat.le_of_ble_eq_true rfl) (by omega) (Nat.le_of_ble_eq_true rfl) (Nat.zero_le _) (Nat.zero_le _) ?_
                  refine r_fail hG hP h (e := 4) hNb ht (fun I3 h3 => ?_)
                  exact pw_vret dX10_operates_146 rfl (k0 (by rw [ckO_4 (by omega) (by omega) ⟨h137, by omega⟩]; decide) _ (by rw [ckO_4 (by omega) (by omega) ⟨h137, by omega⟩]; exact h3))
              · refine pw_iload_n dX10_operates_122 rfl ?_
                refine pw_bipush (v := nI 37) dX10_operates_123 (by decide) ?_
                refine pw_icmpN_ne _ _ (tgt := 147) dX10_operates_125 (by decide) (rfl) (rfl) (by omega) (by omega) (fun h125 => ?_) (fun h125 => ?_)
                · refine pw_iload_n dX10_operates_147 rfl ?_
                  refine pw_bipush (v := nI 61) dX10_operates_148 (by decide) ?_
                  refine pw_icmpN_ne _ _ (tgt := 178) dX10_operates_150 (by decide) (rfl) (rfl) (by omega) (by omega) (fun h150 => ?_) (fun h150 => ?_)
                  · refine pw_iload_n dX10_operates_178 rfl ?_
                    refine pw_aload_n dX10_operates_179 rfl ?_
                    refine pw_getR fX10_147 dX10_operates_180 (sh_lt hG (by decide)) (sh_tg hG 45 rfl) rfl (gr_at hP 85 rfl) ?_
                    refine pw_iload_n dX10_operates_183 rfl ?_
                    refine pw_laldN hv.length dX10_operates_184 (sh_lt hG (by decide)) (sh_sh hG 91 rfl) (by decide) (rfl) (by omega) ?_
                    refine pw_tj (z := lf.2) hla.2.1.2 ?_
                    refine pw_aload_n dX10_operates_185 rfl ?_
                    refine pw_getR fX10_147 dX10_operates_186 (sh_lt hG (by decide)) (sh_tg hG 45 rfl) rfl (gr_at hP 85 rfl) ?_
                    refine pw_iload dX10_operates_189 rfl ?_
                    refine pw_laldN (hv.length + 1) dX10_operates_191 (sh_lt hG (by decide)) (sh_sh hG 91 rfl) (by decide) (rfl) (by omega) ?_
                    refine pw_tj (z := rt.2) hla.2.2.2.1.2 ?_
                    refine pw_callS (as := [_, _, _]) (kc' := 0) (ks' := 0) lX10_323 dX10_operates_192 rfl rfl (Nat.le_of_ble_eq_true rfl) (by omega) (Nat.le_of_ble_eq_true rfl) (Nat.zero_le _) (Nat.zero_le _) ?_
                    refine rw_op hlv (by omega) (fun q => by first | exact h137 | (exfalso; omega)) ?_
                    refine pw_lstore (lv' := [(6, _), (5, _), (4, _), (3, _), (2, _), (0, _), (1, _)]) dX10_operates_195 (by decide) rfl ?_
                    refine pw_aload_n dX10_operates_197 rfl ?_
                    refine pw_dup dX10_operates_198 rfl ?_
                    refine pw_getI fX10_279 dX10_operates_199 (sh_lt hG (by decide)) (sh_tg hG 45 rfl) rfl ?_
                    refine pw_iconst (v := nI 2) dX10_operates_202 (by decide) ?_
                    refine pw_isub dX10_operates_203 ?_
                    refine pw_ti (z := nI hv.length) hla.1 ?_
                    refine pw_putI fX10_279 dX10_operates_204 (Or.inl rfl) (by decide) (sh_lt hG (by decide)) (sh_tg hG 45 rfl) rfl ?_
                    refine pw_aload_n dX10_operates_207 rfl ?_
                    refine pw_iconst (v := nI 1) dX10_operates_208 (by decide) ?_
                    refine pw_lload dX10_operates_209 rfl ?_
                    refine pw_callV (as := [_, _]) (kc' := 0) (ks' := 0) lX10_295 dX10_operates_211 rfl rfl (sh_lt hG (by decide)) (sh_tg hG 45 rfl) (Nat.le_of_ble_eq_true rfl) (by omega) (Nat.le_of_ble_eq_true rfl) (Nat.zero_le _) (Nat.zero_le _) ?_
                    refine r_put hG hP (h.vpop) (v := (1, opV x lf.2 rt.2)) (by omega) (fun I3 J3 h3 => ?_)
                    refine pw_aload_n dX10_operates_214 rfl ?_
                    refine pw_dup dX10_operates_215 rfl ?_
                    refine pw_getI fX10_282 dX10_operates_216 (sh_lt hG (by decide)) (sh_tg hG 45 rfl) rfl ?_
                    refine pw_iconst (v := nI 1) dX10_operates_219 (by decide) ?_
                    refine pw_isub dX10_operates_220 ?_
                    refine pw_ti (z := nI fr.length) h3.top.1 ?_
                    refine pw_putI fX10_282 dX10_operates_221 (Or.inl rfl) (by decide) (sh_lt hG (by decide)) (sh_tg hG 45 rfl) rfl ?_
                    exact pw_vret dX10_operates_224 rfl (k1 (ckO_0 (by omega) (by omega) (fun q => by have := q.2; omega)) _ _ (h3.pop))
                  · refine pw_aload_n dX10_operates_153 rfl ?_
                    refine pw_getR fX10_147 dX10_operates_154 (sh_lt hG (by decide)) (sh_tg hG 45 rfl) rfl (gr_at hP 85 rfl) ?_
                    refine pw_iload_n dX10_operates_157 rfl ?_
                    refine pw_laldN hv.length dX10_operates_158 (sh_lt hG (by decide)) (sh_sh hG 91 rfl) (by decide) (rfl) (by omega) ?_
                    refine pw_tj (z := lf.2) hla.2.1.2 ?_
                    refine pw_aload_n dX10_operates_159 rfl ?_
                    refine pw_getR fX10_147 dX10_operates_160 (sh_lt hG (by decide)) (sh_tg hG 45 rfl) rfl (gr_at hP 85 rfl) ?_
                    refine pw_iload dX10_operates_163 rfl ?_
                    refine pw_laldN (hv.length + 1) dX10_operates_165 (sh_lt hG (by decide)) (sh_sh hG 91 rfl) (by decide) (rfl) (by omega) ?_
                    refine pw_tj (z := rt.2) hla.2.2.2.1.2 ?_
                    refine pw_lif_ne (tgt := 174) dX10_operates_166 dX10_operates_167 (by decide) (fun h167 => ?_) (fun h167 => ?_)
                    · refine pw_lconst (v := 0) dX10_operates_174 (by decide) ?_
                      refine pw_goto (tgt := 195) dX10_operates_175 (by decide) ?_
                      refine pw_tj (z := opV x lf.2 rt.2) (by rw [h150]; show (0 : Int64) = (if lf.2 = rt.2 then 1 else 0); rw [if_neg h167]) ?_
                      refine pw_lstore (lv' := [(6, _), (5, _), (4, _), (3, _), (2, _), (0, _), (1, _)]) dX10_operates_195 (by decide) rfl ?_
                      refine pw_aload_n dX10_operates_197 rfl ?_
                      refine pw_dup dX10_operates_198 rfl ?_
                      refine pw_getI fX10_279 dX10_operates_199 (sh_lt hG (by decide)) (sh_tg hG 45 rfl) rfl ?_
                      refine pw_iconst (v := nI 2) dX10_operates_202 (by decide) ?_
                      refine pw_isub dX10_operates_203 ?_
                      refine pw_ti (z := nI hv.length) hla.1 ?_
                      refine pw_putI fX10_279 dX10_operates_204 (Or.inl rfl) (by decide) (sh_lt hG (by decide)) (sh_tg hG 45 rfl) rfl ?_
                      refine pw_aload_n dX10_operates_207 rfl ?_
                      refine pw_iconst (v := nI 1) dX10_operates_208 (by decide) ?_
                      refine pw_lload dX10_operates_209 rfl ?_
                      refine pw_callV (as := [_, _]) (kc' := 0) (ks' := 0) lX10_295 dX10_operates_211 rfl rfl (sh_lt hG (by decide)) (sh_tg hG 45 rfl) (Nat.le_of_ble_eq_true rfl) (by omega) (Nat.le_of_ble_eq_true rfl) (Nat.zero_le _) (Nat.zero_le _) ?_
                      refine r_put hG hP (h.vpop) (v := (1, opV x lf.2 rt.2)) (by omega) (fun I3 J3 h3 => ?_)
                      refine pw_aload_n dX10_operates_214 rfl ?_
                      refine pw_dup dX10_operates_215 rfl ?_
                      refine pw_getI fX10_282 dX10_operates_216 (sh_lt hG (by decide)) (sh_tg hG 45 rfl) rfl ?_
                      refine pw_iconst (v := nI 1) dX10_operates_219 (by decide) ?_
                      refine pw_isub dX10_operates_220 ?_
                      refine pw_ti (z := nI fr.length) h3.top.1 ?_
                      refine pw_putI fX10_282 dX10_operates_221 (Or.inl rfl) (by decide) (sh_lt hG (by decide)) (sh_tg hG 45 rfl) rfl ?_
                      exact pw_vret dX10_operates_224 rfl (k1 (ckO_0 (by omega) (by omega) (fun q => by have := q.2; omega)) _ _ (h3.pop))
                    · refine pw_lconst (v := 1) dX10_operates_170 (by decide) ?_
                      refine pw_goto (tgt := 195) dX10_operates_171 (by decide) ?_
                      refine pw_tj (z := opV x lf.2 rt.2) (by rw [h150]; show (1 : Int64) = (if lf.2 = rt.2 then 1 else 0); rw [if_pos h167]) ?_
                      refine pw_lstore (lv' := [(6, _), (5, _), (4, _), (3, _), (2, _), (0, _), (1, _)]) dX10_operates_195 (by decide) rfl ?_
                      refine pw_aload_n dX10_operates_197 rfl ?_
                      refine pw_dup dX10_operates_198 rfl ?_
                      refine pw_getI fX10_279 dX10_operates_199 (sh_lt hG (by decide)) (sh_tg hG 45 rfl) rfl ?_
                      refine pw_iconst (v := nI 2) dX10_operates_202 (by decide) ?_
                      refine pw_isub dX10_operates_203 ?_
                      refine pw_ti (z := nI hv.length) hla.1 ?_
                      refine pw_putI fX10_279 dX10_operates_204 (Or.inl rfl) (by decide) (sh_lt hG (by decide)) (sh_tg hG 45 rfl) rfl ?_
                      refine pw_aload_n dX10_operates_207 rfl ?_
                      refine pw_iconst (v := nI 1) dX10_operates_208 (by decide) ?_
                      refine pw_lload dX10_operates_209 rfl ?_
                      refine pw_callV (as := [_, _]) (kc' := 0) (ks' := 0) lX10_295 dX10_operates_211 rfl rfl (sh_lt hG (by decide)) (sh_tg hG 45 rfl) (Nat.le_of_ble_eq_true rfl) (by omega) (Nat.le_of_ble_eq_true rfl) (Nat.zero_le _) (Nat.zero_le _) ?_
                      refine r_put hG hP (h.vpop) (v := (1, opV x lf.2 rt.2)) (by omega) (fun I3 J3 h3 => ?_)
                      refine pw_aload_n dX10_operates_214 rfl ?_
                      refine pw_dup dX10_operates_215 rfl ?_
                      refine pw_getI fX10_282 dX10_operates_216 (sh_lt hG (by decide)) (sh_tg hG 45 rfl) rfl ?_
                      refine pw_iconst (v := nI 1) dX10_operates_219 (by decide) ?_
                      refine pw_isub dX10_operates_220 ?_
                      refine pw_ti (z := nI fr.length) h3.top.1 ?_
                      refine pw_putI fX10_282 dX10_operates_221 (Or.inl rfl) (by decide) (sh_lt hG (by decide)) (sh_tg hG 45 rfl) rfl ?_
                      exact pw_vret dX10_operates_224 rfl (k1 (ckO_0 (by omega) (by omega) (fun q => by have := q.2; omega)) _ _ (h3.pop))
                · refine pw_aload_n dX10_operates_128 rfl ?_
                  refine pw_getR fX10_147 dX10_operates_129 (sh_lt hG (by decide)) (sh_tg hG 45 rfl) rfl (gr_at hP 85 rfl) ?_
                  refine pw_iload dX10_operates_132 rfl ?_
                  refine pw_laldN (hv.length + 1) dX10_operates_134 (sh_lt hG (by decide)) (sh_sh hG 91 rfl) (by decide) (rfl) (by omega) ?_
                  refine pw_tj (z := rt.2) hla.2.2.2.1.2 ?_
                  refine pw_lconst (v := 0) dX10_operates_135 (by decide) ?_
                  refine pw_lif_ne (tgt := 147) dX10_operates_136 dX10_operates_137 (by decide) (fun h137 => ?_) (fun h137 => ?_)
                  · refine pw_iload_n dX10_operates_147 rfl ?_
                    refine pw_bipush (v := nI 61) dX10_operates_148 (by decide) ?_
                    refine pw_icmpN_ne _ _ (tgt := 178) dX10_operates_150 (by decide) (rfl) (rfl) (by omega) (by omega) (fun h150 => ?_) (fun h150 => ?_)
                    · refine pw_iload_n dX10_operates_178 rfl ?_
                      refine pw_aload_n dX10_operates_179 rfl ?_
                      refine pw_getR fX10_147 dX10_operates_180 (sh_lt hG (by decide)) (sh_tg hG 45 rfl) rfl (gr_at hP 85 rfl) ?_
                      refine pw_iload_n dX10_operates_183 rfl ?_
                      refine pw_laldN hv.length dX10_operates_184 (sh_lt hG (by decide)) (sh_sh hG 91 rfl) (by decide) (rfl) (by omega) ?_
                      refine pw_tj (z := lf.2) hla.2.1.2 ?_
                      refine pw_aload_n dX10_operates_185 rfl ?_
                      refine pw_getR fX10_147 dX10_operates_186 (sh_lt hG (by decide)) (sh_tg hG 45 rfl) rfl (gr_at hP 85 rfl) ?_
                      refine pw_iload dX10_operates_189 rfl ?_
                      refine pw_laldN (hv.length + 1) dX10_operates_191 (sh_lt hG (by decide)) (sh_sh hG 91 rfl) (by decide) (rfl) (by omega) ?_
                      refine pw_tj (z := rt.2) hla.2.2.2.1.2 ?_
                      refine pw_callS (as := [_, _, _]) (kc' := 0) (ks' := 0) lX10_323 dX10_operates_192 rfl rfl (Nat.le_of_ble_eq_true rfl) (by omega) (Nat.le_of_ble_eq_true rfl) (Nat.zero_le _) (Nat.zero_le _) ?_
                      refine rw_op hlv (by omega) (fun q => by first | exact h137 | (exfalso; omega)) ?_
                      refine pw_lstore (lv' := [(6, _), (5, _), (4, _), (3, _), (2, _), (0, _), (1, _)]) dX10_operates_195 (by decide) rfl ?_
                      refine pw_aload_n dX10_operates_197 rfl ?_
                      refine pw_dup dX10_operates_198 rfl ?_
                      refine pw_getI fX10_279 dX10_operates_199 (sh_lt hG (by decide)) (sh_tg hG 45 rfl) rfl ?_
                      refine pw_iconst (v := nI 2) dX10_operates_202 (by decide) ?_
                      refine pw_isub dX10_operates_203 ?_
                      refine pw_ti (z := nI hv.length) hla.1 ?_
                      refine pw_putI fX10_279 dX10_operates_204 (Or.inl rfl) (by decide) (sh_lt hG (by decide)) (sh_tg hG 45 rfl) rfl ?_
                      refine pw_aload_n dX10_operates_207 rfl ?_
                      refine pw_iconst (v := nI 1) dX10_operates_208 (by decide) ?_
                      refine pw_lload dX10_operates_209 rfl ?_
                      refine pw_callV (as := [_, _]) (kc' := 0) (ks' := 0) lX10_295 dX10_operates_211 rfl rfl (sh_lt hG (by decide)) (sh_tg hG 45 rfl) (Nat.le_of_ble_eq_true rfl) (by omega) (Nat.le_of_ble_eq_true rfl) (Nat.zero_le _) (Nat.zero_le _) ?_
                      refine r_put hG hP (h.vpop) (v := (1, opV x lf.2 rt.2)) (by omega) (fun I3 J3 h3 => ?_)
                      refine pw_aload_n dX10_operates_214 rfl ?_
                      refine pw_dup dX10_operates_215 rfl ?_
                      refine pw_getI fX10_282 dX10_operates_216 (sh_lt hG (by decide)) (sh_tg hG 45 rfl) rfl ?_
                      refine pw_iconst (v := nI 1) dX10_operates_219 (by decide) ?_
                      refine pw_isub dX10_operates_220 ?_
                      refine pw_ti (z := nI fr.length) h3.top.1 ?_
                      refine pw_putI fX10_282 dX10_operates_221 (Or.inl rfl) (by decide) (sh_lt hG (by decide)) (sh_tg hG 45 rfl) rfl ?_
                      exact pw_vret dX10_operates_224 rfl (k1 (ckO_0 (by omega) (by omega) (fun q => h137 q.1)) _ _ (h3.pop))
                    · refine pw_aload_n dX10_operates_153 rfl ?_
                      refine pw_getR fX10_147 dX10_operates_154 (sh_lt hG (by decide)) (sh_tg hG 45 rfl) rfl (gr_at hP 85 rfl) ?_
                      refine pw_iload_n dX10_operates_157 rfl ?_
                      refine pw_laldN hv.length dX10_operates_158 (sh_lt hG (by decide)) (sh_sh hG 91 rfl) (by decide) (rfl) (by omega) ?_
                      refine pw_tj (z := lf.2) hla.2.1.2 ?_
                      refine pw_aload_n dX10_operates_159 rfl ?_
                      refine pw_getR fX10_147 dX10_operates_160 (sh_lt hG (by decide)) (sh_tg hG 45 rfl) rfl (gr_at hP 85 rfl) ?_
                      refine pw_iload dX10_operates_163 rfl ?_
                      refine pw_laldN (hv.length + 1) dX10_operates_165 (sh_lt hG (by decide)) (sh_sh hG 91 rfl) (by decide) (rfl) (by omega) ?_
                      refine pw_tj (z := rt.2) hla.2.2.2.1.2 ?_
                      refine pw_lif_ne (tgt := 174) dX10_operates_166 dX10_operates_167 (by decide) (fun h167 => ?_) (fun h167 => ?_)
                      · refine pw_lconst (v := 0) dX10_operates_174 (by decide) ?_
                        refine pw_goto (tgt := 195) dX10_operates_175 (by decide) ?_
                        refine pw_tj (z := opV x lf.2 rt.2) (by rw [h150]; show (0 : Int64) = (if lf.2 = rt.2 then 1 else 0); rw [if_neg h167]) ?_
                        refine pw_lstore (lv' := [(6, _), (5, _), (4, _), (3, _), (2, _), (0, _), (1, _)]) dX10_operates_195 (by decide) rfl ?_
                        refine pw_aload_n dX10_operates_197 rfl ?_
                        refine pw_dup dX10_operates_198 rfl ?_
                        refine pw_getI fX10_279 dX10_operates_199 (sh_lt hG (by decide)) (sh_tg hG 45 rfl) rfl ?_
                        refine pw_iconst (v := nI 2) dX10_operates_202 (by decide) ?_
                        refine pw_isub dX10_operates_203 ?_
                        refine pw_ti (z := nI hv.length) hla.1 ?_
                        refine pw_putI fX10_279 dX10_operates_204 (Or.inl rfl) (by decide) (sh_lt hG (by decide)) (sh_tg hG 45 rfl) rfl ?_
                        refine pw_aload_n dX10_operates_207 rfl ?_
                        refine pw_iconst (v := nI 1) dX10_operates_208 (by decide) ?_
                        refine pw_lload dX10_operates_209 rfl ?_
                        refine pw_callV (as := [_, _]) (kc' := 0) (ks' := 0) lX10_295 dX10_operates_211 rfl rfl (sh_lt hG (by decide)) (sh_tg hG 45 rfl) (Nat.le_of_ble_eq_true rfl) (by omega) (Nat.le_of_ble_eq_true rfl) (Nat.zero_le _) (Nat.zero_le _) ?_
                        refine r_put hG hP (h.vpop) (v := (1, opV x lf.2 rt.2)) (by omega) (fun I3 J3 h3 => ?_)
                        refine pw_aload_n dX10_operates_214 rfl ?_
                        refine pw_dup dX10_operates_215 rfl ?_
                        refine pw_getI fX10_282 dX10_operates_216 (sh_lt hG (by decide)) (sh_tg hG 45 rfl) rfl ?_
                        refine pw_iconst (v := nI 1) dX10_operates_219 (by decide) ?_
                        refine pw_isub dX10_operates_220 ?_
                        refine pw_ti (z := nI fr.length) h3.top.1 ?_
                        refine pw_putI fX10_282 dX10_operates_221 (Or.inl rfl) (by decide) (sh_lt hG (by decide)) (sh_tg hG 45 rfl) rfl ?_
                        exact pw_vret dX10_operates_224 rfl (k1 (ckO_0 (by omega) (by omega) (fun q => h137 q.1)) _ _ (h3.pop))
                      · refine pw_lconst (v := 1) dX10_operates_170 (by decide) ?_
                        refine pw_goto (tgt := 195) dX10_operates_171 (by decide) ?_
                        refine pw_tj (z := opV x lf.2 rt.2) (by rw [h150]; show (1 : Int64) = (if lf.2 = rt.2 then 1 else 0); rw [if_pos h167]) ?_
                        refine pw_lstore (lv' := [(6, _), (5, _), (4, _), (3, _), (2, _), (0, _), (1, _)]) dX10_operates_195 (by decide) rfl ?_
                        refine pw_aload_n dX10_operates_197 rfl ?_
                        refine pw_dup dX10_operates_198 rfl ?_
                        refine pw_getI fX10_279 dX10_operates_199 (sh_lt hG (by decide)) (sh_tg hG 45 rfl) rfl ?_
                        refine pw_iconst (v := nI 2) dX10_operates_202 (by decide) ?_
                        refine pw_isub dX10_operates_203 ?_
                        refine pw_ti (z := nI hv.length) hla.1 ?_
                        refine pw_putI fX10_279 dX10_operates_204 (Or.inl rfl) (by decide) (sh_lt hG (by decide)) (sh_tg hG 45 rfl) rfl ?_
                        refine pw_aload_n dX10_operates_207 rfl ?_
                        refine pw_iconst (v := nI 1) dX10_operates_208 (by decide) ?_
                        refine pw_lload dX10_operates_209 rfl ?_
                        refine pw_callV (as := [_, _]) (kc' := 0) (ks' := 0) lX10_295 dX10_operates_211 rfl rfl (sh_lt hG (by decide)) (sh_tg hG 45 rfl) (Nat.le_of_ble_eq_true rfl) (by omega) (Nat.le_of_ble_eq_true rfl) (Nat.zero_le _) (Nat.zero_le _) ?_
                        refine r_put hG hP (h.vpop) (v := (1, opV x lf.2 rt.2)) (by omega) (fun I3 J3 h3 => ?_)
                        refine pw_aload_n dX10_operates_214 rfl ?_
                        refine pw_dup dX10_operates_215 rfl ?_
                        refine pw_getI fX10_282 dX10_operates_216 (sh_lt hG (by decide)) (sh_tg hG 45 rfl) rfl ?_
                        refine pw_iconst (v := nI 1) dX10_operates_219 (by decide) ?_
                        refine pw_isub dX10_operates_220 ?_
                        refine pw_ti (z := nI fr.length) h3.top.1 ?_
                        refine pw_putI fX10_282 dX10_operates_221 (Or.inl rfl) (by decide) (sh_lt hG (by decide)) (sh_tg hG 45 rfl) rfl ?_
                        exact pw_vret dX10_operates_224 rfl (k1 (ckO_0 (by omega) (by omega) (fun q => h137 q.1)) _ _ (h3.pop))
                  · refine pw_aload_n dX10_operates_140 rfl ?_
                    refine pw_iconst (v := nI 4) dX10_operates_141 (by decide) ?_
                    refine pw_iload_n dX10_operates_142 rfl ?_
                    refine pw_callV (as := [_, _]) (kc' := 0) (ks' := 0) lX10_299 dX10_operates_143 rfl rfl (sh_lt hG (by decide)) (sh_tg hG 45 rfl) (Nat.le_of_ble_eq_true rfl) (by omega) (Nat.le_of_ble_eq_true rfl) (Nat.zero_le _) (Nat.zero_le _) ?_
                    refine r_fail hG hP h (e := 4) hNb ht (fun I3 h3 => ?_)
                    exact pw_vret dX10_operates_146 rfl (k0 (by rw [ckO_4 (by omega) (by omega) ⟨h137, by omega⟩]; decide) _ (by rw [ckO_4 (by omega) (by omega) ⟨h137, by omega⟩]; exact h3))
            · refine pw_aload_n dX10_operates_109 rfl ?_
              refine pw_iconst (v := nI 3) dX10_operates_110 (by decide) ?_
              refine pw_iload_n dX10_operates_111 rfl ?_
              refine pw_callV (as := [_, _]) (kc' := 0) (ks' := 0) lX10_299 dX10_operates_112 rfl rfl (sh_lt hG (by decide)) (sh_tg hG 45 rfl) (Nat.le_of_ble_eq_true rfl) (by omega) (Nat.le_of_ble_eq_true rfl) (Nat.zero_le _) (Nat.zero_le _) ?_
              refine r_fail hG hP h (e := 3) hNb ht (fun I3 h3 => ?_)
              exact pw_vret dX10_operates_115 rfl (k0 (by rw [ckO_3 (by omega) (by omega)]; decide) _ (by rw [ckO_3 (by omega) (by omega)]; exact h3))
      · refine pw_aload_n dX10_operates_59 rfl ?_
        refine pw_getR fX10_144 dX10_operates_60 (sh_lt hG (by decide)) (sh_tg hG 45 rfl) rfl (gr_at hP 84 rfl) ?_
        refine pw_iload dX10_operates_63 rfl ?_
        refine pw_ialdN (hv.length + 1) dX10_operates_65 (sh_lt hG (by decide)) (sh_sh hG 90 rfl) (by decide) (rfl) (by omega) ?_
        refine pw_ti (z := nI rt.1) hla.2.2.2.1.1 ?_
        refine pw_iconst (v := nI 2) dX10_operates_66 (by decide) ?_
        refine pw_icmpN_ne _ _ (tgt := 74) dX10_operates_67 (by decide) (rfl) (rfl) (by omega) (by omega) (fun h67 => ?_) (fun h67 => ?_)
        · refine pw_iconst (v := nI 0) dX10_operates_74 (by decide) ?_
          refine pw_istore (lv' := [(5, _), (4, _), (3, _), (2, _), (0, _), (1, _)]) dX10_operates_75 (by decide) rfl ?_
          refine pw_iload_n dX10_operates_77 rfl ?_
          refine pw_bipush (v := nI 61) dX10_operates_78 (by decide) ?_
          refine pw_icmpN_ne _ _ (tgt := 88) dX10_operates_80 (by decide) (rfl) (rfl) (by omega) (by omega) (fun h80 => ?_) (fun h80 => ?_)
          · refine pw_aload_n dX10_operates_88 rfl ?_
            refine pw_getR fX10_144 dX10_operates_89 (sh_lt hG (by decide)) (sh_tg hG 45 rfl) rfl (gr_at hP 84 rfl) ?_
            refine pw_iload_n dX10_operates_92 rfl ?_
            refine pw_ialdN hv.length dX10_operates_93 (sh_lt hG (by decide)) (sh_sh hG 90 rfl) (by decide) (rfl) (by omega) ?_
            refine pw_ti (z := nI lf.1) hla.2.1.1 ?_
            refine pw_iconst (v := nI 2) dX10_operates_94 (by decide) ?_
            refine pw_icmpN_eq _ _ (tgt := 109) dX10_operates_95 (by decide) (rfl) (rfl) (by omega) (by omega) (fun h95 => ?_) (fun h95 => ?_)
            · refine pw_aload_n dX10_operates_109 rfl ?_
              refine pw_iconst (v := nI 3) dX10_operates_110 (by decide) ?_
              refine pw_iload_n dX10_operates_111 rfl ?_
              refine pw_callV (as := [_, _]) (kc' := 0) (ks' := 0) lX10_299 dX10_operates_112 rfl rfl (sh_lt hG (by decide)) (sh_tg hG 45 rfl) (Nat.le_of_ble_eq_true rfl) (by omega) (Nat.le_of_ble_eq_true rfl) (Nat.zero_le _) (Nat.zero_le _) ?_
              refine r_fail hG hP h (e := 3) hNb ht (fun I3 h3 => ?_)
              exact pw_vret dX10_operates_115 rfl (k0 (by rw [ckO_3 (by omega) (by omega)]; decide) _ (by rw [ckO_3 (by omega) (by omega)]; exact h3))
            · refine pw_aload_n dX10_operates_98 rfl ?_
              refine pw_getR fX10_144 dX10_operates_99 (sh_lt hG (by decide)) (sh_tg hG 45 rfl) rfl (gr_at hP 84 rfl) ?_
              refine pw_iload dX10_operates_102 rfl ?_
              refine pw_ialdN (hv.length + 1) dX10_operates_104 (sh_lt hG (by decide)) (sh_sh hG 90 rfl) (by decide) (rfl) (by omega) ?_
              refine pw_ti (z := nI rt.1) hla.2.2.2.1.1 ?_
              refine pw_iconst (v := nI 2) dX10_operates_105 (by decide) ?_
              refine pw_icmpN_ne _ _ (tgt := 116) dX10_operates_106 (by decide) (rfl) (rfl) (by omega) (by omega) (fun h106 => ?_) (fun h106 => ?_)
              · refine pw_iload_n dX10_operates_116 rfl ?_
                refine pw_bipush (v := nI 47) dX10_operates_117 (by decide) ?_
                refine pw_icmpN_eq _ _ (tgt := 128) dX10_operates_119 (by decide) (rfl) (rfl) (by omega) (by omega) (fun h119 => ?_) (fun h119 => ?_)
                · refine pw_aload_n dX10_operates_128 rfl ?_
                  refine pw_getR fX10_147 dX10_operates_129 (sh_lt hG (by decide)) (sh_tg hG 45 rfl) rfl (gr_at hP 85 rfl) ?_
                  refine pw_iload dX10_operates_132 rfl ?_
                  refine pw_laldN (hv.length + 1) dX10_operates_134 (sh_lt hG (by decide)) (sh_sh hG 91 rfl) (by decide) (rfl) (by omega) ?_
                  refine pw_tj (z := rt.2) hla.2.2.2.1.2 ?_
                  refine pw_lconst (v := 0) dX10_operates_135 (by decide) ?_
                  refine pw_lif_ne (tgt := 147) dX10_operates_136 dX10_operates_137 (by decide) (fun h137 => ?_) (fun h137 => ?_)
                  · refine pw_iload_n dX10_operates_147 rfl ?_
                    refine pw_bipush (v := nI 61) dX10_operates_148 (by decide) ?_
                    refine pw_icmpN_ne _ _ (tgt := 178) dX10_operates_150 (by decide) (rfl) (rfl) (by omega) (by omega) (fun h150 => ?_) (fun h150 => ?_)
                    · refine pw_iload_n dX10_operates_178 rfl ?_
                      refine pw_aload_n dX10_operates_179 rfl ?_
                      refine pw_getR fX10_147 dX10_operates_180 (sh_lt hG (by decide)) (sh_tg hG 45 rfl) rfl (gr_at hP 85 rfl) ?_
                      refine pw_iload_n dX10_operates_183 rfl ?_
                      refine pw_laldN hv.length dX10_operates_184 (sh_lt hG (by decide)) (sh_sh hG 91 rfl) (by decide) (rfl) (by omega) ?_
                      refine pw_tj (z := lf.2) hla.2.1.2 ?_
                      refine pw_aload_n dX10_operates_185 rfl ?_
                      refine pw_getR fX10_147 dX10_operates_186 (sh_lt hG (by decide)) (sh_tg hG 45 rfl) rfl (gr_at hP 85 rfl) ?_
                      refine pw_iload dX10_operates_189 rfl ?_
                      refine pw_laldN (hv.length + 1) dX10_operates_191 (sh_lt hG (by decide)) (sh_sh hG 91 rfl) (by decide) (rfl) (by omega) ?_
                      refine pw_tj (z := rt.2) hla.2.2.2.1.2 ?_
                      refine pw_callS (as := [_, _, _]) (kc' := 0) (ks' := 0) lX10_323 dX10_operates_192 rfl rfl (Nat.le_of_ble_eq_true rfl) (by omega) (Nat.le_of_ble_eq_true rfl) (Nat.zero_le _) (Nat.zero_le _) ?_
                      refine rw_op hlv (by omega) (fun q => by first | exact h137 | (exfalso; omega)) ?_
                      refine pw_lstore (lv' := [(6, _), (5, _), (4, _), (3, _), (2, _), (0, _), (1, _)]) dX10_operates_195 (by decide) rfl ?_
                      refine pw_aload_n dX10_operates_197 rfl ?_
                      refine pw_dup dX10_operates_198 rfl ?_
                      refine pw_getI fX10_279 dX10_operates_199 (sh_lt hG (by decide)) (sh_tg hG 45 rfl) rfl ?_
                      refine pw_iconst (v := nI 2) dX10_operates_202 (by decide) ?_
                      refine pw_isub dX10_operates_203 ?_
                      refine pw_ti (z := nI hv.length) hla.1 ?_
                      refine pw_putI fX10_279 dX10_operates_204 (Or.inl rfl) (by decide) (sh_lt hG (by decide)) (sh_tg hG 45 rfl) rfl ?_
                      refine pw_aload_n dX10_operates_207 rfl ?_
                      refine pw_iconst (v := nI 1) dX10_operates_208 (by decide) ?_
                      refine pw_lload dX10_operates_209 rfl ?_
                      refine pw_callV (as := [_, _]) (kc' := 0) (ks' := 0) lX10_295 dX10_operates_211 rfl rfl (sh_lt hG (by decide)) (sh_tg hG 45 rfl) (Nat.le_of_ble_eq_true rfl) (by omega) (Nat.le_of_ble_eq_true rfl) (Nat.zero_le _) (Nat.zero_le _) ?_
                      refine r_put hG hP (h.vpop) (v := (1, opV x lf.2 rt.2)) (by omega) (fun I3 J3 h3 => ?_)
                      refine pw_aload_n dX10_operates_214 rfl ?_
                      refine pw_dup dX10_operates_215 rfl ?_
                      refine pw_getI fX10_282 dX10_operates_216 (sh_lt hG (by decide)) (sh_tg hG 45 rfl) rfl ?_
                      refine pw_iconst (v := nI 1) dX10_operates_219 (by decide) ?_
                      refine pw_isub dX10_operates_220 ?_
                      refine pw_ti (z := nI fr.length) h3.top.1 ?_
                      refine pw_putI fX10_282 dX10_operates_221 (Or.inl rfl) (by decide) (sh_lt hG (by decide)) (sh_tg hG 45 rfl) rfl ?_
                      exact pw_vret dX10_operates_224 rfl (k1 (ckO_0 (by omega) (by omega) (fun q => h137 q.1)) _ _ (h3.pop))
                    · refine pw_aload_n dX10_operates_153 rfl ?_
                      refine pw_getR fX10_147 dX10_operates_154 (sh_lt hG (by decide)) (sh_tg hG 45 rfl) rfl (gr_at hP 85 rfl) ?_
                      refine pw_iload_n dX10_operates_157 rfl ?_
                      refine pw_laldN hv.length dX10_operates_158 (sh_lt hG (by decide)) (sh_sh hG 91 rfl) (by decide) (rfl) (by omega) ?_
                      refine pw_tj (z := lf.2) hla.2.1.2 ?_
                      refine pw_aload_n dX10_operates_159 rfl ?_
                      refine pw_getR fX10_147 dX10_operates_160 (sh_lt hG (by decide)) (sh_tg hG 45 rfl) rfl (gr_at hP 85 rfl) ?_
                      refine pw_iload dX10_operates_163 rfl ?_
                      refine pw_laldN (hv.length + 1) dX10_operates_165 (sh_lt hG (by decide)) (sh_sh hG 91 rfl) (by decide) (rfl) (by omega) ?_
                      refine pw_tj (z := rt.2) hla.2.2.2.1.2 ?_
                      refine pw_lif_ne (tgt := 174) dX10_operates_166 dX10_operates_167 (by decide) (fun h167 => ?_) (fun h167 => ?_)
                      · refine pw_lconst (v := 0) dX10_operates_174 (by decide) ?_
                        refine pw_goto (tgt := 195) dX10_operates_175 (by decide) ?_
                        refine pw_tj (z := opV x lf.2 rt.2) (by rw [h150]; show (0 : Int64) = (if lf.2 = rt.2 then 1 else 0); rw [if_neg h167]) ?_
                        refine pw_lstore (lv' := [(6, _), (5, _), (4, _), (3, _), (2, _), (0, _), (1, _)]) dX10_operates_195 (by decide) rfl ?_
                        refine pw_aload_n dX10_operates_197 rfl ?_
                        refine pw_dup dX10_operates_198 rfl ?_
                        refine pw_getI fX10_279 dX10_operates_199 (sh_lt hG (by decide)) (sh_tg hG 45 rfl) rfl ?_
                        refine pw_iconst (v := nI 2) dX10_operates_202 (by decide) ?_
                        refine pw_isub dX10_operates_203 ?_
                        refine pw_ti (z := nI hv.length) hla.1 ?_
                        refine pw_putI fX10_279 dX10_operates_204 (Or.inl rfl) (by decide) (sh_lt hG (by decide)) (sh_tg hG 45 rfl) rfl ?_
                        refine pw_aload_n dX10_operates_207 rfl ?_
                        refine pw_iconst (v := nI 1) dX10_operates_208 (by decide) ?_
                        refine pw_lload dX10_operates_209 rfl ?_
                        refine pw_callV (as := [_, _]) (kc' := 0) (ks' := 0) lX10_295 dX10_operates_211 rfl rfl (sh_lt hG (by decide)) (sh_tg hG 45 rfl) (Nat.le_of_ble_eq_true rfl) (by omega) (Nat.le_of_ble_eq_true rfl) (Nat.zero_le _) (Nat.zero_le _) ?_
                        refine r_put hG hP (h.vpop) (v := (1, opV x lf.2 rt.2)) (by omega) (fun I3 J3 h3 => ?_)
                        refine pw_aload_n dX10_operates_214 rfl ?_
                        refine pw_dup dX10_operates_215 rfl ?_
                        refine pw_getI fX10_282 dX10_operates_216 (sh_lt hG (by decide)) (sh_tg hG 45 rfl) rfl ?_
                        refine pw_iconst (v := nI 1) dX10_operates_219 (by decide) ?_
                        refine pw_isub dX10_operates_220 ?_
                        refine pw_ti (z := nI fr.length) h3.top.1 ?_
                        refine pw_putI fX10_282 dX10_operates_221 (Or.inl rfl) (by decide) (sh_lt hG (by decide)) (sh_tg hG 45 rfl) rfl ?_
                        exact pw_vret dX10_operates_224 rfl (k1 (ckO_0 (by omega) (by omega) (fun q => h137 q.1)) _ _ (h3.pop))
                      · refine pw_lconst (v := 1) dX10_operates_170 (by decide) ?_
                        refine pw_goto (tgt := 195) dX10_operates_171 (by decide) ?_
                        refine pw_tj (z := opV x lf.2 rt.2) (by rw [h150]; show (1 : Int64) = (if lf.2 = rt.2 then 1 else 0); rw [if_pos h167]) ?_
                        refine pw_lstore (lv' := [(6, _), (5, _), (4, _), (3, _), (2, _), (0, _), (1, _)]) dX10_operates_195 (by decide) rfl ?_
                        refine pw_aload_n dX10_operates_197 rfl ?_
                        refine pw_dup dX10_operates_198 rfl ?_
                        refine pw_getI fX10_279 dX10_operates_199 (sh_lt hG (by decide)) (sh_tg hG 45 rfl) rfl ?_
                        refine pw_iconst (v := nI 2) dX10_operates_202 (by decide) ?_
                        refine pw_isub dX10_operates_203 ?_
                        refine pw_ti (z := nI hv.length) hla.1 ?_
                        refine pw_putI fX10_279 dX10_operates_204 (Or.inl rfl) (by decide) (sh_lt hG (by decide)) (sh_tg hG 45 rfl) rfl ?_
                        refine pw_aload_n dX10_operates_207 rfl ?_
                        refine pw_iconst (v := nI 1) dX10_operates_208 (by decide) ?_
                        refine pw_lload dX10_operates_209 rfl ?_
                        refine pw_callV (as := [_, _]) (kc' := 0) (ks' := 0) lX10_295 dX10_operates_211 rfl rfl (sh_lt hG (by decide)) (sh_tg hG 45 rfl) (Nat.le_of_ble_eq_true rfl) (by omega) (Nat.le_of_ble_eq_true rfl) (Nat.zero_le _) (Nat.zero_le _) ?_
                        refine r_put hG hP (h.vpop) (v := (1, opV x lf.2 rt.2)) (by omega) (fun I3 J3 h3 => ?_)
                        refine pw_aload_n dX10_operates_214 rfl ?_
                        refine pw_dup dX10_operates_215 rfl ?_
                        refine pw_getI fX10_282 dX10_operates_216 (sh_lt hG (by decide)) (sh_tg hG 45 rfl) rfl ?_
                        refine pw_iconst (v := nI 1) dX10_operates_219 (by decide) ?_
                        refine pw_isub dX10_operates_220 ?_
                        refine pw_ti (z := nI fr.length) h3.top.1 ?_
                        refine pw_putI fX10_282 dX10_operates_221 (Or.inl rfl) (by decide) (sh_lt hG (by decide)) (sh_tg hG 45 rfl) rfl ?_
                        exact pw_vret dX10_operates_224 rfl (k1 (ckO_0 (by omega) (by omega) (fun q => h137 q.1)) _ _ (h3.pop))
                  · refine pw_aload_n dX10_operates_140 rfl ?_
                    refine pw_iconst (v := nI 4) dX10_operates_141 (by decide) ?_
                    refine pw_iload_n dX10_operates_142 rfl ?_
                    refine pw_callV (as := [_, _]) (kc' := 0) (ks' := 0) lX10_299 dX10_operates_143 rfl rfl (sh_lt hG (by decide)) (sh_tg hG 45 rfl) (Nat.le_of_ble_eq_true rfl) (by omega) (Nat.le_of_ble_eq_true rfl) (Nat.zero_le _) (Nat.zero_le _) ?_
                    refine r_fail hG hP h (e := 4) hNb ht (fun I3 h3 => ?_)
                    exact pw_vret dX10_operates_146 rfl (k0 (by rw [ckO_4 (by omega) (by omega) ⟨h137, by omega⟩]; decide) _ (by rw [ckO_4 (by omega) (by omega) ⟨h137, by omega⟩]; exact h3))
                · refine pw_iload_n dX10_operates_122 rfl ?_
                  refine pw_bipush (v := nI 37) dX10_operates_123 (by decide) ?_
                  refine pw_icmpN_ne _ _ (tgt := 147) dX10_operates_125 (by decide) (rfl) (rfl) (by omega) (by omega) (fun h125 => ?_) (fun h125 => ?_)
                  · refine pw_iload_n dX10_operates_147 rfl ?_
                    refine pw_bipush (v := nI 61) dX10_operates_148 (by decide) ?_
                    refine pw_icmpN_ne _ _ (tgt := 178) dX10_operates_150 (by decide) (rfl) (rfl) (by omega) (by omega) (fun h150 => ?_) (fun h150 => ?_)
                    · refine pw_iload_n dX10_operates_178 rfl ?_
                      refine pw_aload_n dX10_operates_179 rfl ?_
                      refine pw_getR fX10_147 dX10_operates_180 (sh_lt hG (by decide)) (sh_tg hG 45 rfl) rfl (gr_at hP 85 rfl) ?_
                      refine pw_iload_n dX10_operates_183 rfl ?_
                      refine pw_laldN hv.length dX10_operates_184 (sh_lt hG (by decide)) (sh_sh hG 91 rfl) (by decide) (rfl) (by omega) ?_
                      refine pw_tj (z := lf.2) hla.2.1.2 ?_
                      refine pw_aload_n dX10_operates_185 rfl ?_
                      refine pw_getR fX10_147 dX10_operates_186 (sh_lt hG (by decide)) (sh_tg hG 45 rfl) rfl (gr_at hP 85 rfl) ?_
                      refine pw_iload dX10_operates_189 rfl ?_
                      refine pw_laldN (hv.length + 1) dX10_operates_191 (sh_lt hG (by decide)) (sh_sh hG 91 rfl) (by decide) (rfl) (by omega) ?_
                      refine pw_tj (z := rt.2) hla.2.2.2.1.2 ?_
                      refine pw_callS (as := [_, _, _]) (kc' := 0) (ks' := 0) lX10_323 dX10_operates_192 rfl rfl (Nat.le_of_ble_eq_true rfl) (by omega) (Nat.le_of_ble_eq_true rfl) (Nat.zero_le _) (Nat.zero_le _) ?_
                      refine rw_op hlv (by omega) (fun q => by first | exact h137 | (exfalso; omega)) ?_
                      refine pw_lstore (lv' := [(6, _), (5, _), (4, _), (3, _), (2, _), (0, _), (1, _)]) dX10_operates_195 (by decide) rfl ?_
                      refine pw_aload_n dX10_operates_197 rfl ?_
                      refine pw_dup dX10_operates_198 rfl ?_
                      refine pw_getI fX10_279 dX10_operates_199 (sh_lt hG (by decide)) (sh_tg hG 45 rfl) rfl ?_
                      refine pw_iconst (v := nI 2) dX10_operates_202 (by decide) ?_
                      refine pw_isub dX10_operates_203 ?_
                      refine pw_ti (z := nI hv.length) hla.1 ?_
                      refine pw_putI fX10_279 dX10_operates_204 (Or.inl rfl) (by decide) (sh_lt hG (by decide)) (sh_tg hG 45 rfl) rfl ?_
                      refine pw_aload_n dX10_operates_207 rfl ?_
                      refine pw_iconst (v := nI 1) dX10_operates_208 (by decide) ?_
                      refine pw_lload dX10_operates_209 rfl ?_
                      refine pw_callV (as := [_, _]) (kc' := 0) (ks' := 0) lX10_295 dX10_operates_211 rfl rfl (sh_lt hG (by decide)) (sh_tg hG 45 rfl) (Nat.le_of_ble_eq_true rfl) (by omega) (Nat.le_of_ble_eq_true rfl) (Nat.zero_le _) (Nat.zero_le _) ?_
                      refine r_put hG hP (h.vpop) (v := (1, opV x lf.2 rt.2)) (by omega) (fun I3 J3 h3 => ?_)
                      refine pw_aload_n dX10_operates_214 rfl ?_
                      refine pw_dup dX10_operates_215 rfl ?_
                      refine pw_getI fX10_282 dX10_operates_216 (sh_lt hG (by decide)) (sh_tg hG 45 rfl) rfl ?_
                      refine pw_iconst (v := nI 1) dX10_operates_219 (by decide) ?_
                      refine pw_isub dX10_operates_220 ?_
                      refine pw_ti (z := nI fr.length) h3.top.1 ?_
                      refine pw_putI fX10_282 dX10_operates_221 (Or.inl rfl) (by decide) (sh_lt hG (by decide)) (sh_tg hG 45 rfl) rfl ?_
                      exact pw_vret dX10_operates_224 rfl (k1 (ckO_0 (by omega) (by omega) (fun q => by have := q.2; omega)) _ _ (h3.pop))
                    · refine pw_aload_n dX10_operates_153 rfl ?_
                      refine pw_getR fX10_147 dX10_operates_154 (sh_lt hG (by decide)) (sh_tg hG 45 rfl) rfl (gr_at hP 85 rfl) ?_
                      refine pw_iload_n dX10_operates_157 rfl ?_
                      refine pw_laldN hv.length dX10_operates_158 (sh_lt hG (by decide)) (sh_sh hG 91 rfl) (by decide) (rfl) (by omega) ?_
                      refine pw_tj (z := lf.2) hla.2.1.2 ?_
                      refine pw_aload_n dX10_operates_159 rfl ?_
                      refine pw_getR fX10_147 dX10_operates_160 (sh_lt hG (by decide)) (sh_tg hG 45 rfl) rfl (gr_at hP 85 rfl) ?_
                      refine pw_iload dX10_operates_163 rfl ?_
                      refine pw_laldN (hv.length + 1) dX10_operates_165 (sh_lt hG (by decide)) (sh_sh hG 91 rfl) (by decide) (rfl) (by omega) ?_
                      refine pw_tj (z := rt.2) hla.2.2.2.1.2 ?_
                      refine pw_lif_ne (tgt := 174) dX10_operates_166 dX10_operates_167 (by decide) (fun h167 => ?_) (fun h167 => ?_)
                      · refine pw_lconst (v := 0) dX10_operates_174 (by decide) ?_
                        refine pw_goto (tgt := 195) dX10_operates_175 (by decide) ?_
                        refine pw_tj (z := opV x lf.2 rt.2) (by rw [h150]; show (0 : Int64) = (if lf.2 = rt.2 then 1 else 0); rw [if_neg h167]) ?_
                        refine pw_lstore (lv' := [(6, _), (5, _), (4, _), (3, _), (2, _), (0, _), (1, _)]) dX10_operates_195 (by decide) rfl ?_
                        refine pw_aload_n dX10_operates_197 rfl ?_
                        refine pw_dup dX10_operates_198 rfl ?_
                        refine pw_getI fX10_279 dX10_operates_199 (sh_lt hG (by decide)) (sh_tg hG 45 rfl) rfl ?_
                        refine pw_iconst (v := nI 2) dX10_operates_202 (by decide) ?_
                        refine pw_isub dX10_operates_203 ?_
                        refine pw_ti (z := nI hv.length) hla.1 ?_
                        refine pw_putI fX10_279 dX10_operates_204 (Or.inl rfl) (by decide) (sh_lt hG (by decide)) (sh_tg hG 45 rfl) rfl ?_
                        refine pw_aload_n dX10_operates_207 rfl ?_
                        refine pw_iconst (v := nI 1) dX10_operates_208 (by decide) ?_
                        refine pw_lload dX10_operates_209 rfl ?_
                        refine pw_callV (as := [_, _]) (kc' := 0) (ks' := 0) lX10_295 dX10_operates_211 rfl rfl (sh_lt hG (by decide)) (sh_tg hG 45 rfl) (Nat.le_of_ble_eq_true rfl) (by omega) (Nat.le_of_ble_eq_true rfl) (Nat.zero_le _) (Nat.zero_le _) ?_
                        refine r_put hG hP (h.vpop) (v := (1, opV x lf.2 rt.2)) (by omega) (fun I3 J3 h3 => ?_)
                        refine pw_aload_n dX10_operates_214 rfl ?_
                        refine pw_dup dX10_operates_215 rfl ?_
                        refine pw_getI fX10_282 dX10_operates_216 (sh_lt hG (by decide)) (sh_tg hG 45 rfl) rfl ?_
                        refine pw_iconst (v := nI 1) dX10_operates_219 (by decide) ?_
                        refine pw_isub dX10_operates_220 ?_
                        refine pw_ti (z := nI fr.length) h3.top.1 ?_
                        refine pw_putI fX10_282 dX10_operates_221 (Or.inl rfl) (by decide) (sh_lt hG (by decide)) (sh_tg hG 45 rfl) rfl ?_
                        exact pw_vret dX10_operates_224 rfl (k1 (ckO_0 (by omega) (by omega) (fun q => by have := q.2; omega)) _ _ (h3.pop))
                      · refine pw_lconst (v := 1) dX10_operates_170 (by decide) ?_
                        refine pw_goto (tgt := 195) dX10_operates_171 (by decide) ?_
                        refine pw_tj (z := opV x lf.2 rt.2) (by rw [h150]; show (1 : Int64) = (if lf.2 = rt.2 then 1 else 0); rw [if_pos h167]) ?_
                        refine pw_lstore (lv' := [(6, _), (5, _), (4, _), (3, _), (2, _), (0, _), (1, _)]) dX10_operates_195 (by decide) rfl ?_
                        refine pw_aload_n dX10_operates_197 rfl ?_
                        refine pw_dup dX10_operates_198 rfl ?_
                        refine pw_getI fX10_279 dX10_operates_199 (sh_lt hG (by decide)) (sh_tg hG 45 rfl) rfl ?_
                        refine pw_iconst (v := nI 2) dX10_operates_202 (by decide) ?_
                        refine pw_isub dX10_operates_203 ?_
                        refine pw_ti (z := nI hv.length) hla.1 ?_
                        refine pw_putI fX10_279 dX10_operates_204 (Or.inl rfl) (by decide) (sh_lt hG (by decide)) (sh_tg hG 45 rfl) rfl ?_
                        refine pw_aload_n dX10_operates_207 rfl ?_
                        refine pw_iconst (v := nI 1) dX10_operates_208 (by decide) ?_
                        refine pw_lload dX10_operates_209 rfl ?_
                        refine pw_callV (as := [_, _]) (kc' := 0) (ks' := 0) lX10_295 dX10_operates_211 rfl rfl (sh_lt hG (by decide)) (sh_tg hG 45 rfl) (Nat.le_of_ble_eq_true rfl) (by omega) (Nat.le_of_ble_eq_true rfl) (Nat.zero_le _) (Nat.zero_le _) ?_
                        refine r_put hG hP (h.vpop) (v := (1, opV x lf.2 rt.2)) (by omega) (fun I3 J3 h3 => ?_)
                        refine pw_aload_n dX10_operates_214 rfl ?_
                        refine pw_dup dX10_operates_215 rfl ?_
                        refine pw_getI fX10_282 dX10_operates_216 (sh_lt hG (by decide)) (sh_tg hG 45 rfl) rfl ?_
                        refine pw_iconst (v := nI 1) dX10_operates_219 (by decide) ?_
                        refine pw_isub dX10_operates_220 ?_
                        refine pw_ti (z := nI fr.length) h3.top.1 ?_
                        refine pw_putI fX10_282 dX10_operates_221 (Or.inl rfl) (by decide) (sh_lt hG (by decide)) (sh_tg hG 45 rfl) rfl ?_
                        exact pw_vret dX10_operates_224 rfl (k1 (ckO_0 (by omega) (by omega) (fun q => by have := q.2; omega)) _ _ (h3.pop))
                  · refine pw_aload_n dX10_operates_128 rfl ?_
                    refine pw_getR fX10_147 dX10_operates_129 (sh_lt hG (by decide)) (sh_tg hG 45 rfl) rfl (gr_at hP 85 rfl) ?_
                    refine pw_iload dX10_operates_132 rfl ?_
                    refine pw_laldN (hv.length + 1) dX10_operates_134 (sh_lt hG (by decide)) (sh_sh hG 91 rfl) (by decide) (rfl) (by omega) ?_
                    refine pw_tj (z := rt.2) hla.2.2.2.1.2 ?_
                    refine pw_lconst (v := 0) dX10_operates_135 (by decide) ?_
                    refine pw_lif_ne (tgt := 147) dX10_operates_136 dX10_operates_137 (by decide) (fun h137 => ?_) (fun h137 => ?_)
                    · refine pw_iload_n dX10_operates_147 rfl ?_
                      refine pw_bipush (v := nI 61) dX10_operates_148 (by decide) ?_
                      refine pw_icmpN_ne _ _ (tgt := 178) dX10_operates_150 (by decide) (rfl) (rfl) (by omega) (by omega) (fun h150 => ?_) (fun h150 => ?_)
                      · refine pw_iload_n dX10_operates_178 rfl ?_
                        refine pw_aload_n dX10_operates_179 rfl ?_
                        refine pw_getR fX10_147 dX10_operates_180 (sh_lt hG (by decide)) (sh_tg hG 45 rfl) rfl (gr_at hP 85 rfl) ?_
                        refine pw_iload_n dX10_operates_183 rfl ?_
                        refine pw_laldN hv.length dX10_operates_184 (sh_lt hG (by decide)) (sh_sh hG 91 rfl) (by decide) (rfl) (by omega) ?_
                        refine pw_tj (z := lf.2) hla.2.1.2 ?_
                        refine pw_aload_n dX10_operates_185 rfl ?_
                        refine pw_getR fX10_147 dX10_operates_186 (sh_lt hG (by decide)) (sh_tg hG 45 rfl) rfl (gr_at hP 85 rfl) ?_
                        refine pw_iload dX10_operates_189 rfl ?_
                        refine pw_laldN (hv.length + 1) dX10_operates_191 (sh_lt hG (by decide)) (sh_sh hG 91 rfl) (by decide) (rfl) (by omega) ?_
                        refine pw_tj (z := rt.2) hla.2.2.2.1.2 ?_
                        refine pw_callS (as := [_, _, _]) (kc' := 0) (ks' := 0) lX10_323 dX10_operates_192 rfl rfl (Nat.le_of_ble_eq_true rfl) (by omega) (Nat.le_of_ble_eq_true rfl) (Nat.zero_le _) (Nat.zero_le _) ?_
                        refine rw_op hlv (by omega) (fun q => by first | exact h137 | (exfalso; omega)) ?_
                        refine pw_lstore (lv' := [(6, _), (5, _), (4, _), (3, _), (2, _), (0, _), (1, _)]) dX10_operates_195 (by decide) rfl ?_
                        refine pw_aload_n dX10_operates_197 rfl ?_
                        refine pw_dup dX10_operates_198 rfl ?_
                        refine pw_getI fX10_279 dX10_operates_199 (sh_lt hG (by decide)) (sh_tg hG 45 rfl) rfl ?_
                        refine pw_iconst (v := nI 2) dX10_operates_202 (by decide) ?_
                        refine pw_isub dX10_operates_203 ?_
                        refine pw_ti (z := nI hv.length) hla.1 ?_
                        refine pw_putI fX10_279 dX10_operates_204 (Or.inl rfl) (by decide) (sh_lt hG (by decide)) (sh_tg hG 45 rfl) rfl ?_
                        refine pw_aload_n dX10_operates_207 rfl ?_
                        refine pw_iconst (v := nI 1) dX10_operates_208 (by decide) ?_
                        refine pw_lload dX10_operates_209 rfl ?_
                        refine pw_callV (as := [_, _]) (kc' := 0) (ks' := 0) lX10_295 dX10_operates_211 rfl rfl (sh_lt hG (by decide)) (sh_tg hG 45 rfl) (Nat.le_of_ble_eq_true rfl) (by omega) (Nat.le_of_ble_eq_true rfl) (Nat.zero_le _) (Nat.zero_le _) ?_
                        refine r_put hG hP (h.vpop) (v := (1, opV x lf.2 rt.2)) (by omega) (fun I3 J3 h3 => ?_)
                        refine pw_aload_n dX10_operates_214 rfl ?_
                        refine pw_dup dX10_operates_215 rfl ?_
                        refine pw_getI fX10_282 dX10_operates_216 (sh_lt hG (by decide)) (sh_tg hG 45 rfl) rfl ?_
                        refine pw_iconst (v := nI 1) dX10_operates_219 (by decide) ?_
                        refine pw_isub dX10_operates_220 ?_
                        refine pw_ti (z := nI fr.length) h3.top.1 ?_
                        refine pw_putI fX10_282 dX10_operates_221 (Or.inl rfl) (by decide) (sh_lt hG (by decide)) (sh_tg hG 45 rfl) rfl ?_
                        exact pw_vret dX10_operates_224 rfl (k1 (ckO_0 (by omega) (by omega) (fun q => h137 q.1)) _ _ (h3.pop))
                      · refine pw_aload_n dX10_operates_153 rfl ?_
                        refine pw_getR fX10_147 dX10_operates_154 (sh_lt hG (by decide)) (sh_tg hG 45 rfl) rfl (gr_at hP 85 rfl) ?_
                        refine pw_iload_n dX10_operates_157 rfl ?_
                        refine pw_laldN hv.length dX10_operates_158 (sh_lt hG (by decide)) (sh_sh hG 91 rfl) (by decide) (rfl) (by omega) ?_
                        refine pw_tj (z := lf.2) hla.2.1.2 ?_
                        refine pw_aload_n dX10_operates_159 rfl ?_
                        refine pw_getR fX10_147 dX10_operates_160 (sh_lt hG (by decide)) (sh_tg hG 45 rfl) rfl (gr_at hP 85 rfl) ?_
                        refine pw_iload dX10_operates_163 rfl ?_
                        refine pw_laldN (hv.length + 1) dX10_operates_165 (sh_lt hG (by decide)) (sh_sh hG 91 rfl) (by decide) (rfl) (by omega) ?_
                        refine pw_tj (z := rt.2) hla.2.2.2.1.2 ?_
                        refine pw_lif_ne (tgt := 174) dX10_operates_166 dX10_operates_167 (by decide) (fun h167 => ?_) (fun h167 => ?_)
                        · refine pw_lconst (v := 0) dX10_operates_174 (by decide) ?_
                          refine pw_goto (tgt := 195) dX10_operates_175 (by decide) ?_
                          refine pw_tj (z := opV x lf.2 rt.2) (by rw [h150]; show (0 : Int64) = (if lf.2 = rt.2 then 1 else 0); rw [if_neg h167]) ?_
                          refine pw_lstore (lv' := [(6, _), (5, _), (4, _), (3, _), (2, _), (0, _), (1, _)]) dX10_operates_195 (by decide) rfl ?_
                          refine pw_aload_n dX10_operates_197 rfl ?_
                          refine pw_dup dX10_operates_198 rfl ?_
                          refine pw_getI fX10_279 dX10_operates_199 (sh_lt hG (by decide)) (sh_tg hG 45 rfl) rfl ?_
                          refine pw_iconst (v := nI 2) dX10_operates_202 (by decide) ?_
                          refine pw_isub dX10_operates_203 ?_
                          refine pw_ti (z := nI hv.length) hla.1 ?_
                          refine pw_putI fX10_279 dX10_operates_204 (Or.inl rfl) (by decide) (sh_lt hG (by decide)) (sh_tg hG 45 rfl) rfl ?_
                          refine pw_aload_n dX10_operates_207 rfl ?_
                          refine pw_iconst (v := nI 1) dX10_operates_208 (by decide) ?_
                          refine pw_lload dX10_operates_209 rfl ?_
                          refine pw_callV (as := [_, _]) (kc' := 0) (ks' := 0) lX10_295 dX10_operates_211 rfl rfl (sh_lt hG (by decide)) (sh_tg hG 45 rfl) (Nat.le_of_ble_eq_true rfl) (by omega) (Nat.le_of_ble_eq_true rfl) (Nat.zero_le _) (Nat.zero_le _) ?_
                          refine r_put hG hP (h.vpop) (v := (1, opV x lf.2 rt.2)) (by omega) (fun I3 J3 h3 => ?_)
                          refine pw_aload_n dX10_operates_214 rfl ?_
                          refine pw_dup dX10_operates_215 rfl ?_
                          refine pw_getI fX10_282 dX10_operates_216 (sh_lt hG (by decide)) (sh_tg hG 45 rfl) rfl ?_
                          refine pw_iconst (v := nI 1) dX10_operates_219 (by decide) ?_
                          refine pw_isub dX10_operates_220 ?_
                          refine pw_ti (z := nI fr.length) h3.top.1 ?_
                          refine pw_putI fX10_282 dX10_operates_221 (Or.inl rfl) (by decide) (sh_lt hG (by decide)) (sh_tg hG 45 rfl) rfl ?_
                          exact pw_vret dX10_operates_224 rfl (k1 (ckO_0 (by omega) (by omega) (fun q => h137 q.1)) _ _ (h3.pop))
                        · refine pw_lconst (v := 1) dX10_operates_170 (by decide) ?_
                          refine pw_goto (tgt := 195) dX10_operates_171 (by decide) ?_
                          refine pw_tj (z := opV x lf.2 rt.2) (by rw [h150]; show (1 : Int64) = (if lf.2 = rt.2 then 1 else 0); rw [if_pos h167]) ?_
                          refine pw_lstore (lv' := [(6, _), (5, _), (4, _), (3, _), (2, _), (0, _), (1, _)]) dX10_operates_195 (by decide) rfl ?_
                          refine pw_aload_n dX10_operates_197 rfl ?_
                          refine pw_dup dX10_operates_198 rfl ?_
                          refine pw_getI fX10_279 dX10_operates_199 (sh_lt hG (by decide)) (sh_tg hG 45 rfl) rfl ?_
                          refine pw_iconst (v := nI 2) dX10_operates_202 (by decide) ?_
                          refine pw_isub dX10_operates_203 ?_
                          refine pw_ti (z := nI hv.length) hla.1 ?_
                          refine pw_putI fX10_279 dX10_operates_204 (Or.inl rfl) (by decide) (sh_lt hG (by decide)) (sh_tg hG 45 rfl) rfl ?_
                          refine pw_aload_n dX10_operates_207 rfl ?_
                          refine pw_iconst (v := nI 1) dX10_operates_208 (by decide) ?_
                          refine pw_lload dX10_operates_209 rfl ?_
                          refine pw_callV (as := [_, _]) (kc' := 0) (ks' := 0) lX10_295 dX10_operates_211 rfl rfl (sh_lt hG (by decide)) (sh_tg hG 45 rfl) (Nat.le_of_ble_eq_true rfl) (by omega) (Nat.le_of_ble_eq_true rfl) (Nat.zero_le _) (Nat.zero_le _) ?_
                          refine r_put hG hP (h.vpop) (v := (1, opV x lf.2 rt.2)) (by omega) (fun I3 J3 h3 => ?_)
                          refine pw_aload_n dX10_operates_214 rfl ?_
                          refine pw_dup dX10_operates_215 rfl ?_
                          refine pw_getI fX10_282 dX10_operates_216 (sh_lt hG (by decide)) (sh_tg hG 45 rfl) rfl ?_
                          refine pw_iconst (v := nI 1) dX10_operates_219 (by decide) ?_
                          refine pw_isub dX10_operates_220 ?_
                          refine pw_ti (z := nI fr.length) h3.top.1 ?_
                          refine pw_putI fX10_282 dX10_operates_221 (Or.inl rfl) (by decide) (sh_lt hG (by decide)) (sh_tg hG 45 rfl) rfl ?_
                          exact pw_vret dX10_operates_224 rfl (k1 (ckO_0 (by omega) (by omega) (fun q => h137 q.1)) _ _ (h3.pop))
                    · refine pw_aload_n dX10_operates_140 rfl ?_
                      refine pw_iconst (v := nI 4) dX10_operates_141 (by decide) ?_
                      refine pw_iload_n dX10_operates_142 rfl ?_
                      refine pw_callV (as := [_, _]) (kc' := 0) (ks' := 0) lX10_299 dX10_operates_143 rfl rfl (sh_lt hG (by decide)) (sh_tg hG 45 rfl) (Nat.le_of_ble_eq_true rfl) (by omega) (Nat.le_of_ble_eq_true rfl) (Nat.zero_le _) (Nat.zero_le _) ?_
                      refine r_fail hG hP h (e := 4) hNb ht (fun I3 h3 => ?_)
                      exact pw_vret dX10_operates_146 rfl (k0 (by rw [ckO_4 (by omega) (by omega) ⟨h137, by omega⟩]; decide) _ (by rw [ckO_4 (by omega) (by omega) ⟨h137, by omega⟩]; exact h3))
              · refine pw_aload_n dX10_operates_109 rfl ?_
                refine pw_iconst (v := nI 3) dX10_operates_110 (by decide) ?_
                refine pw_iload_n dX10_operates_111 rfl ?_
                refine pw_callV (as := [_, _]) (kc' := 0) (ks' := 0) lX10_299 dX10_operates_112 rfl rfl (sh_lt hG (by decide)) (sh_tg hG 45 rfl) (Nat.le_of_ble_eq_true rfl) (by omega) (Nat.le_of_ble_eq_true rfl) (Nat.zero_le _) (Nat.zero_le _) ?_
                refine r_fail hG hP h (e := 3) hNb ht (fun I3 h3 => ?_)
                exact pw_vret dX10_operates_115 rfl (k0 (by rw [ckO_3 (by omega) (by omega)]; decide) _ (by rw [ckO_3 (by omega) (by omega)]; exact h3))
          · refine pw_iload dX10_operates_83 rfl ?_
            refine pw_if_ne (tgt := 116) dX10_operates_85 (by decide) (fun h => absurd (by decide) h) (fun h85 => ?_)
            refine pw_aload_n dX10_operates_88 rfl ?_
            refine pw_getR fX10_144 dX10_operates_89 (sh_lt hG (by decide)) (sh_tg hG 45 rfl) rfl (gr_at hP 84 rfl) ?_
            refine pw_iload_n dX10_operates_92 rfl ?_
            refine pw_ialdN hv.length dX10_operates_93 (sh_lt hG (by decide)) (sh_sh hG 90 rfl) (by decide) (rfl) (by omega) ?_
            refine pw_ti (z := nI lf.1) hla.2.1.1 ?_
            refine pw_iconst (v := nI 2) dX10_operates_94 (by decide) ?_
            refine pw_icmpN_eq _ _ (tgt := 109) dX10_operates_95 (by decide) (rfl) (rfl) (by omega) (by omega) (fun h95 => ?_) (fun h95 => ?_)
            · refine pw_aload_n dX10_operates_109 rfl ?_
              refine pw_iconst (v := nI 3) dX10_operates_110 (by decide) ?_
              refine pw_iload_n dX10_operates_111 rfl ?_
              refine pw_callV (as := [_, _]) (kc' := 0) (ks' := 0) lX10_299 dX10_operates_112 rfl rfl (sh_lt hG (by decide)) (sh_tg hG 45 rfl) (Nat.le_of_ble_eq_true rfl) (by omega) (Nat.le_of_ble_eq_true rfl) (Nat.zero_le _) (Nat.zero_le _) ?_
              refine r_fail hG hP h (e := 3) hNb ht (fun I3 h3 => ?_)
              exact pw_vret dX10_operates_115 rfl (k0 (by rw [ckO_3 (by omega) (by omega)]; decide) _ (by rw [ckO_3 (by omega) (by omega)]; exact h3))
            · refine pw_aload_n dX10_operates_98 rfl ?_
              refine pw_getR fX10_144 dX10_operates_99 (sh_lt hG (by decide)) (sh_tg hG 45 rfl) rfl (gr_at hP 84 rfl) ?_
              refine pw_iload dX10_operates_102 rfl ?_
              refine pw_ialdN (hv.length + 1) dX10_operates_104 (sh_lt hG (by decide)) (sh_sh hG 90 rfl) (by decide) (rfl) (by omega) ?_
              refine pw_ti (z := nI rt.1) hla.2.2.2.1.1 ?_
              refine pw_iconst (v := nI 2) dX10_operates_105 (by decide) ?_
              refine pw_icmpN_ne _ _ (tgt := 116) dX10_operates_106 (by decide) (rfl) (rfl) (by omega) (by omega) (fun h106 => ?_) (fun h106 => ?_)
              · refine pw_iload_n dX10_operates_116 rfl ?_
                refine pw_bipush (v := nI 47) dX10_operates_117 (by decide) ?_
                refine pw_icmpN_eq _ _ (tgt := 128) dX10_operates_119 (by decide) (rfl) (rfl) (by omega) (by omega) (fun h119 => ?_) (fun h119 => ?_)
                · refine pw_aload_n dX10_operates_128 rfl ?_
                  refine pw_getR fX10_147 dX10_operates_129 (sh_lt hG (by decide)) (sh_tg hG 45 rfl) rfl (gr_at hP 85 rfl) ?_
                  refine pw_iload dX10_operates_132 rfl ?_
                  refine pw_laldN (hv.length + 1) dX10_operates_134 (sh_lt hG (by decide)) (sh_sh hG 91 rfl) (by decide) (rfl) (by omega) ?_
                  refine pw_tj (z := rt.2) hla.2.2.2.1.2 ?_
                  refine pw_lconst (v := 0) dX10_operates_135 (by decide) ?_
                  refine pw_lif_ne (tgt := 147) dX10_operates_136 dX10_operates_137 (by decide) (fun h137 => ?_) (fun h137 => ?_)
                  · refine pw_iload_n dX10_operates_147 rfl ?_
                    refine pw_bipush (v := nI 61) dX10_operates_148 (by decide) ?_
                    refine pw_icmpN_ne _ _ (tgt := 178) dX10_operates_150 (by decide) (rfl) (rfl) (by omega) (by omega) (fun h150 => ?_) (fun h150 => ?_)
                    · refine pw_iload_n dX10_operates_178 rfl ?_
                      refine pw_aload_n dX10_operates_179 rfl ?_
                      refine pw_getR fX10_147 dX10_operates_180 (sh_lt hG (by decide)) (sh_tg hG 45 rfl) rfl (gr_at hP 85 rfl) ?_
                      refine pw_iload_n dX10_operates_183 rfl ?_
                      refine pw_laldN hv.length dX10_operates_184 (sh_lt hG (by decide)) (sh_sh hG 91 rfl) (by decide) (rfl) (by omega) ?_
                      refine pw_tj (z := lf.2) hla.2.1.2 ?_
                      refine pw_aload_n dX10_operates_185 rfl ?_
                      refine pw_getR fX10_147 dX10_operates_186 (sh_lt hG (by decide)) (sh_tg hG 45 rfl) rfl (gr_at hP 85 rfl) ?_
                      refine pw_iload dX10_operates_189 rfl ?_
                      refine pw_laldN (hv.length + 1) dX10_operates_191 (sh_lt hG (by decide)) (sh_sh hG 91 rfl) (by decide) (rfl) (by omega) ?_
                      refine pw_tj (z := rt.2) hla.2.2.2.1.2 ?_
                      refine pw_callS (as := [_, _, _]) (kc' := 0) (ks' := 0) lX10_323 dX10_operates_192 rfl rfl (Nat.le_of_ble_eq_true rfl) (by omega) (Nat.le_of_ble_eq_true rfl) (Nat.zero_le _) (Nat.zero_le _) ?_
                      refine rw_op hlv (by omega) (fun q => by first | exact h137 | (exfalso; omega)) ?_
                      refine pw_lstore (lv' := [(6, _), (5, _), (4, _), (3, _), (2, _), (0, _), (1, _)]) dX10_operates_195 (by decide) rfl ?_
                      refine pw_aload_n dX10_operates_197 rfl ?_
                      refine pw_dup dX10_operates_198 rfl ?_
                      refine pw_getI fX10_279 dX10_operates_199 (sh_lt hG (by decide)) (sh_tg hG 45 rfl) rfl ?_
                      refine pw_iconst (v := nI 2) dX10_operates_202 (by decide) ?_
                      refine pw_isub dX10_operates_203 ?_
                      refine pw_ti (z := nI hv.length) hla.1 ?_
                      refine pw_putI fX10_279 dX10_operates_204 (Or.inl rfl) (by decide) (sh_lt hG (by decide)) (sh_tg hG 45 rfl) rfl ?_
                      refine pw_aload_n dX10_operates_207 rfl ?_
                      refine pw_iconst (v := nI 1) dX10_operates_208 (by decide) ?_
                      refine pw_lload dX10_operates_209 rfl ?_
                      refine pw_callV (as := [_, _]) (kc' := 0) (ks' := 0) lX10_295 dX10_operates_211 rfl rfl (sh_lt hG (by decide)) (sh_tg hG 45 rfl) (Nat.le_of_ble_eq_true rfl) (by omega) (Nat.le_of_ble_eq_true rfl) (Nat.zero_le _) (Nat.zero_le _) ?_
                      refine r_put hG hP (h.vpop) (v := (1, opV x lf.2 rt.2)) (by omega) (fun I3 J3 h3 => ?_)
                      refine pw_aload_n dX10_operates_214 rfl ?_
                      refine pw_dup dX10_operates_215 rfl ?_
                      refine pw_getI fX10_282 dX10_operates_216 (sh_lt hG (by decide)) (sh_tg hG 45 rfl) rfl ?_
                      refine pw_iconst (v := nI 1) dX10_operates_219 (by decide) ?_
                      refine pw_isub dX10_operates_220 ?_
                      refine pw_ti (z := nI fr.length) h3.top.1 ?_
                      refine pw_putI fX10_282 dX10_operates_221 (Or.inl rfl) (by decide) (sh_lt hG (by decide)) (sh_tg hG 45 rfl) rfl ?_
                      exact pw_vret dX10_operates_224 rfl (k1 (ckO_0 (by omega) (by omega) (fun q => h137 q.1)) _ _ (h3.pop))
                    · refine pw_aload_n dX10_operates_153 rfl ?_
                      refine pw_getR fX10_147 dX10_operates_154 (sh_lt hG (by decide)) (sh_tg hG 45 rfl) rfl (gr_at hP 85 rfl) ?_
                      refine pw_iload_n dX10_operates_157 rfl ?_
                      refine pw_laldN hv.length dX10_operates_158 (sh_lt hG (by decide)) (sh_sh hG 91 rfl) (by decide) (rfl) (by omega) ?_
                      refine pw_tj (z := lf.2) hla.2.1.2 ?_
                      refine pw_aload_n dX10_operates_159 rfl ?_
                      refine pw_getR fX10_147 dX10_operates_160 (sh_lt hG (by decide)) (sh_tg hG 45 rfl) rfl (gr_at hP 85 rfl) ?_
                      refine pw_iload dX10_operates_163 rfl ?_
                      refine pw_laldN (hv.length + 1) dX10_operates_165 (sh_lt hG (by decide)) (sh_sh hG 91 rfl) (by decide) (rfl) (by omega) ?_
                      refine pw_tj (z := rt.2) hla.2.2.2.1.2 ?_
                      refine pw_lif_ne (tgt := 174) dX10_operates_166 dX10_operates_167 (by decide) (fun h167 => ?_) (fun h167 => ?_)
                      · refine pw_lconst (v := 0) dX10_operates_174 (by decide) ?_
                        refine pw_goto (tgt := 195) dX10_operates_175 (by decide) ?_
                        refine pw_tj (z := opV x lf.2 rt.2) (by rw [h150]; show (0 : Int64) = (if lf.2 = rt.2 then 1 else 0); rw [if_neg h167]) ?_
                        refine pw_lstore (lv' := [(6, _), (5, _), (4, _), (3, _), (2, _), (0, _), (1, _)]) dX10_operates_195 (by decide) rfl ?_
                        refine pw_aload_n dX10_operates_197 rfl ?_
                        refine pw_dup dX10_operates_198 rfl ?_
                        refine pw_getI fX10_279 dX10_operates_199 (sh_lt hG (by decide)) (sh_tg hG 45 rfl) rfl ?_
                        refine pw_iconst (v := nI 2) dX10_operates_202 (by decide) ?_
                        refine pw_isub dX10_operates_203 ?_
                        refine pw_ti (z := nI hv.length) hla.1 ?_
                        refine pw_putI fX10_279 dX10_operates_204 (Or.inl rfl) (by decide) (sh_lt hG (by decide)) (sh_tg hG 45 rfl) rfl ?_
                        refine pw_aload_n dX10_operates_207 rfl ?_
                        refine pw_iconst (v := nI 1) dX10_operates_208 (by decide) ?_
                        refine pw_lload dX10_operates_209 rfl ?_
                        refine pw_callV (as := [_, _]) (kc' := 0) (ks' := 0) lX10_295 dX10_operates_211 rfl rfl (sh_lt hG (by decide)) (sh_tg hG 45 rfl) (Nat.le_of_ble_eq_true rfl) (by omega) (Nat.le_of_ble_eq_true rfl) (Nat.zero_le _) (Nat.zero_le _) ?_
                        refine r_put hG hP (h.vpop) (v := (1, opV x lf.2 rt.2)) (by omega) (fun I3 J3 h3 => ?_)
                        refine pw_aload_n dX10_operates_214 rfl ?_
                        refine pw_dup dX10_operates_215 rfl ?_
                        refine pw_getI fX10_282 dX10_operates_216 (sh_lt hG (by decide)) (sh_tg hG 45 rfl) rfl ?_
                        refine pw_iconst (v := nI 1) dX10_operates_219 (by decide) ?_
                        refine pw_isub dX10_operates_220 ?_
                        refine pw_ti (z := nI fr.length) h3.top.1 ?_
                        refine pw_putI fX10_282 dX10_operates_221 (Or.inl rfl) (by decide) (sh_lt hG (by decide)) (sh_tg hG 45 rfl) rfl ?_
                        exact pw_vret dX10_operates_224 rfl (k1 (ckO_0 (by omega) (by omega) (fun q => h137 q.1)) _ _ (h3.pop))
                      · refine pw_lconst (v := 1) dX10_operates_170 (by decide) ?_
                        refine pw_goto (tgt := 195) dX10_operates_171 (by decide) ?_
                        refine pw_tj (z := opV x lf.2 rt.2) (by rw [h150]; show (1 : Int64) = (if lf.2 = rt.2 then 1 else 0); rw [if_pos h167]) ?_
                        refine pw_lstore (lv' := [(6, _), (5, _), (4, _), (3, _), (2, _), (0, _), (1, _)]) dX10_operates_195 (by decide) rfl ?_
                        refine pw_aload_n dX10_operates_197 rfl ?_
                        refine pw_dup dX10_operates_198 rfl ?_
                        refine pw_getI fX10_279 dX10_operates_199 (sh_lt hG (by decide)) (sh_tg hG 45 rfl) rfl ?_
                        refine pw_iconst (v := nI 2) dX10_operates_202 (by decide) ?_
                        refine pw_isub dX10_operates_203 ?_
                        refine pw_ti (z := nI hv.length) hla.1 ?_
                        refine pw_putI fX10_279 dX10_operates_204 (Or.inl rfl) (by decide) (sh_lt hG (by decide)) (sh_tg hG 45 rfl) rfl ?_
                        refine pw_aload_n dX10_operates_207 rfl ?_
                        refine pw_iconst (v := nI 1) dX10_operates_208 (by decide) ?_
                        refine pw_lload dX10_operates_209 rfl ?_
                        refine pw_callV (as := [_, _]) (kc' := 0) (ks' := 0) lX10_295 dX10_operates_211 rfl rfl (sh_lt hG (by decide)) (sh_tg hG 45 rfl) (Nat.le_of_ble_eq_true rfl) (by omega) (Nat.le_of_ble_eq_true rfl) (Nat.zero_le _) (Nat.zero_le _) ?_
                        refine r_put hG hP (h.vpop) (v := (1, opV x lf.2 rt.2)) (by omega) (fun I3 J3 h3 => ?_)
                        refine pw_aload_n dX10_operates_214 rfl ?_
                        refine pw_dup dX10_operates_215 rfl ?_
                        refine pw_getI fX10_282 dX10_operates_216 (sh_lt hG (by decide)) (sh_tg hG 45 rfl) rfl ?_
                        refine pw_iconst (v := nI 1) dX10_operates_219 (by decide) ?_
                        refine pw_isub dX10_operates_220 ?_
                        refine pw_ti (z := nI fr.length) h3.top.1 ?_
                        refine pw_putI fX10_282 dX10_operates_221 (Or.inl rfl) (by decide) (sh_lt hG (by decide)) (sh_tg hG 45 rfl) rfl ?_
                        exact pw_vret dX10_operates_224 rfl (k1 (ckO_0 (by omega) (by omega) (fun q => h137 q.1)) _ _ (h3.pop))
                  · refine pw_aload_n dX10_operates_140 rfl ?_
                    refine pw_iconst (v := nI 4) dX10_operates_141 (by decide) ?_
                    refine pw_iload_n dX10_operates_142 rfl ?_
                    refine pw_callV (as := [_, _]) (kc' := 0) (ks' := 0) lX10_299 dX10_operates_143 rfl rfl (sh_lt hG (by decide)) (sh_tg hG 45 rfl) (Nat.le_of_ble_eq_true rfl) (by omega) (Nat.le_of_ble_eq_true rfl) (Nat.zero_le _) (Nat.zero_le _) ?_
                    refine r_fail hG hP h (e := 4) hNb ht (fun I3 h3 => ?_)
                    exact pw_vret dX10_operates_146 rfl (k0 (by rw [ckO_4 (by omega) (by omega) ⟨h137, by omega⟩]; decide) _ (by rw [ckO_4 (by omega) (by omega) ⟨h137, by omega⟩]; exact h3))
                · refine pw_iload_n dX10_operates_122 rfl ?_
                  refine pw_bipush (v := nI 37) dX10_operates_123 (by decide) ?_
                  refine pw_icmpN_ne _ _ (tgt := 147) dX10_operates_125 (by decide) (rfl) (rfl) (by omega) (by omega) (fun h125 => ?_) (fun h125 => ?_)
                  · refine pw_iload_n dX10_operates_147 rfl ?_
                    refine pw_bipush (v := nI 61) dX10_operates_148 (by decide) ?_
                    refine pw_icmpN_ne _ _ (tgt := 178) dX10_operates_150 (by decide) (rfl) (rfl) (by omega) (by omega) (fun h150 => ?_) (fun h150 => ?_)
                    · refine pw_iload_n dX10_operates_178 rfl ?_
                      refine pw_aload_n dX10_operates_179 rfl ?_
                      refine pw_getR fX10_147 dX10_operates_180 (sh_lt hG (by decide)) (sh_tg hG 45 rfl) rfl (gr_at hP 85 rfl) ?_
                      refine pw_iload_n dX10_operates_183 rfl ?_
                      refine pw_laldN hv.length dX10_operates_184 (sh_lt hG (by decide)) (sh_sh hG 91 rfl) (by decide) (rfl) (by omega) ?_
                      refine pw_tj (z := lf.2) hla.2.1.2 ?_
                      refine pw_aload_n dX10_operates_185 rfl ?_
                      refine pw_getR fX10_147 dX10_operates_186 (sh_lt hG (by decide)) (sh_tg hG 45 rfl) rfl (gr_at hP 85 rfl) ?_
                      refine pw_iload dX10_operates_189 rfl ?_
                      refine pw_laldN (hv.length + 1) dX10_operates_191 (sh_lt hG (by decide)) (sh_sh hG 91 rfl) (by decide) (rfl) (by omega) ?_
                      refine pw_tj (z := rt.2) hla.2.2.2.1.2 ?_
                      refine pw_callS (as := [_, _, _]) (kc' := 0) (ks' := 0) lX10_323 dX10_operates_192 rfl rfl (Nat.le_of_ble_eq_true rfl) (by omega) (Nat.le_of_ble_eq_true rfl) (Nat.zero_le _) (Nat.zero_le _) ?_
                      refine rw_op hlv (by omega) (fun q => by first | exact h137 | (exfalso; omega)) ?_
                      refine pw_lstore (lv' := [(6, _), (5, _), (4, _), (3, _), (2, _), (0, _), (1, _)]) dX10_operates_195 (by decide) rfl ?_
                      refine pw_aload_n dX10_operates_197 rfl ?_
                      refine pw_dup dX10_operates_198 rfl ?_
                      refine pw_getI fX10_279 dX10_operates_199 (sh_lt hG (by decide)) (sh_tg hG 45 rfl) rfl ?_
                      refine pw_iconst (v := nI 2) dX10_operates_202 (by decide) ?_
                      refine pw_isub dX10_operates_203 ?_
                      refine pw_ti (z := nI hv.length) hla.1 ?_
                      refine pw_putI fX10_279 dX10_operates_204 (Or.inl rfl) (by decide) (sh_lt hG (by decide)) (sh_tg hG 45 rfl) rfl ?_
                      refine pw_aload_n dX10_operates_207 rfl ?_
                      refine pw_iconst (v := nI 1) dX10_operates_208 (by decide) ?_
                      refine pw_lload dX10_operates_209 rfl ?_
                      refine pw_callV (as := [_, _]) (kc' := 0) (ks' := 0) lX10_295 dX10_operates_211 rfl rfl (sh_lt hG (by decide)) (sh_tg hG 45 rfl) (Nat.le_of_ble_eq_true rfl) (by omega) (Nat.le_of_ble_eq_true rfl) (Nat.zero_le _) (Nat.zero_le _) ?_
                      refine r_put hG hP (h.vpop) (v := (1, opV x lf.2 rt.2)) (by omega) (fun I3 J3 h3 => ?_)
                      refine pw_aload_n dX10_operates_214 rfl ?_
                      refine pw_dup dX10_operates_215 rfl ?_
                      refine pw_getI fX10_282 dX10_operates_216 (sh_lt hG (by decide)) (sh_tg hG 45 rfl) rfl ?_
                      refine pw_iconst (v := nI 1) dX10_operates_219 (by decide) ?_
                      refine pw_isub dX10_operates_220 ?_
                      refine pw_ti (z := nI fr.length) h3.top.1 ?_
                      refine pw_putI fX10_282 dX10_operates_221 (Or.inl rfl) (by decide) (sh_lt hG (by decide)) (sh_tg hG 45 rfl) rfl ?_
                      exact pw_vret dX10_operates_224 rfl (k1 (ckO_0 (by omega) (by omega) (fun q => by have := q.2; omega)) _ _ (h3.pop))
                    · refine pw_aload_n dX10_operates_153 rfl ?_
                      refine pw_getR fX10_147 dX10_operates_154 (sh_lt hG (by decide)) (sh_tg hG 45 rfl) rfl (gr_at hP 85 rfl) ?_
                      refine pw_iload_n dX10_operates_157 rfl ?_
                      refine pw_laldN hv.length dX10_operates_158 (sh_lt hG (by decide)) (sh_sh hG 91 rfl) (by decide) (rfl) (by omega) ?_
                      refine pw_tj (z := lf.2) hla.2.1.2 ?_
                      refine pw_aload_n dX10_operates_159 rfl ?_
                      refine pw_getR fX10_147 dX10_operates_160 (sh_lt hG (by decide)) (sh_tg hG 45 rfl) rfl (gr_at hP 85 rfl) ?_
                      refine pw_iload dX10_operates_163 rfl ?_
                      refine pw_laldN (hv.length + 1) dX10_operates_165 (sh_lt hG (by decide)) (sh_sh hG 91 rfl) (by decide) (rfl) (by omega) ?_
                      refine pw_tj (z := rt.2) hla.2.2.2.1.2 ?_
                      refine pw_lif_ne (tgt := 174) dX10_operates_166 dX10_operates_167 (by decide) (fun h167 => ?_) (fun h167 => ?_)
                      · refine pw_lconst (v := 0) dX10_operates_174 (by decide) ?_
                        refine pw_goto (tgt := 195) dX10_operates_175 (by decide) ?_
                        refine pw_tj (z := opV x lf.2 rt.2) (by rw [h150]; show (0 : Int64) = (if lf.2 = rt.2 then 1 else 0); rw [if_neg h167]) ?_
                        refine pw_lstore (lv' := [(6, _), (5, _), (4, _), (3, _), (2, _), (0, _), (1, _)]) dX10_operates_195 (by decide) rfl ?_
                        refine pw_aload_n dX10_operates_197 rfl ?_
                        refine pw_dup dX10_operates_198 rfl ?_
                        refine pw_getI fX10_279 dX10_operates_199 (sh_lt hG (by decide)) (sh_tg hG 45 rfl) rfl ?_
                        refine pw_iconst (v := nI 2) dX10_operates_202 (by decide) ?_
                        refine pw_isub dX10_operates_203 ?_
                        refine pw_ti (z := nI hv.length) hla.1 ?_
                        refine pw_putI fX10_279 dX10_operates_204 (Or.inl rfl) (by decide) (sh_lt hG (by decide)) (sh_tg hG 45 rfl) rfl ?_
                        refine pw_aload_n dX10_operates_207 rfl ?_
                        refine pw_iconst (v := nI 1) dX10_operates_208 (by decide) ?_
                        refine pw_lload dX10_operates_209 rfl ?_
                        refine pw_callV (as := [_, _]) (kc' := 0) (ks' := 0) lX10_295 dX10_operates_211 rfl rfl (sh_lt hG (by decide)) (sh_tg hG 45 rfl) (Nat.le_of_ble_eq_true rfl) (by omega) (Nat.le_of_ble_eq_true rfl) (Nat.zero_le _) (Nat.zero_le _) ?_
                        refine r_put hG hP (h.vpop) (v := (1, opV x lf.2 rt.2)) (by omega) (fun I3 J3 h3 => ?_)
                        refine pw_aload_n dX10_operates_214 rfl ?_
                        refine pw_dup dX10_operates_215 rfl ?_
                        refine pw_getI fX10_282 dX10_operates_216 (sh_lt hG (by decide)) (sh_tg hG 45 rfl) rfl ?_
                        refine pw_iconst (v := nI 1) dX10_operates_219 (by decide) ?_
                        refine pw_isub dX10_operates_220 ?_
                        refine pw_ti (z := nI fr.length) h3.top.1 ?_
                        refine pw_putI fX10_282 dX10_operates_221 (Or.inl rfl) (by decide) (sh_lt hG (by decide)) (sh_tg hG 45 rfl) rfl ?_
                        exact pw_vret dX10_operates_224 rfl (k1 (ckO_0 (by omega) (by omega) (fun q => by have := q.2; omega)) _ _ (h3.pop))
                      · refine pw_lconst (v := 1) dX10_operates_170 (by decide) ?_
                        refine pw_goto (tgt := 195) dX10_operates_171 (by decide) ?_
                        refine pw_tj (z := opV x lf.2 rt.2) (by rw [h150]; show (1 : Int64) = (if lf.2 = rt.2 then 1 else 0); rw [if_pos h167]) ?_
                        refine pw_lstore (lv' := [(6, _), (5, _), (4, _), (3, _), (2, _), (0, _), (1, _)]) dX10_operates_195 (by decide) rfl ?_
                        refine pw_aload_n dX10_operates_197 rfl ?_
                        refine pw_dup dX10_operates_198 rfl ?_
                        refine pw_getI fX10_279 dX10_operates_199 (sh_lt hG (by decide)) (sh_tg hG 45 rfl) rfl ?_
                        refine pw_iconst (v := nI 2) dX10_operates_202 (by decide) ?_
                        refine pw_isub dX10_operates_203 ?_
                        refine pw_ti (z := nI hv.length) hla.1 ?_
                        refine pw_putI fX10_279 dX10_operates_204 (Or.inl rfl) (by decide) (sh_lt hG (by decide)) (sh_tg hG 45 rfl) rfl ?_
                        refine pw_aload_n dX10_operates_207 rfl ?_
                        refine pw_iconst (v := nI 1) dX10_operates_208 (by decide) ?_
                        refine pw_lload dX10_operates_209 rfl ?_
                        refine pw_callV (as := [_, _]) (kc' := 0) (ks' := 0) lX10_295 dX10_operates_211 rfl rfl (sh_lt hG (by decide)) (sh_tg hG 45 rfl) (Nat.le_of_ble_eq_true rfl) (by omega) (Nat.le_of_ble_eq_true rfl) (Nat.zero_le _) (Nat.zero_le _) ?_
                        refine r_put hG hP (h.vpop) (v := (1, opV x lf.2 rt.2)) (by omega) (fun I3 J3 h3 => ?_)
                        refine pw_aload_n dX10_operates_214 rfl ?_
                        refine pw_dup dX10_operates_215 rfl ?_
                        refine pw_getI fX10_282 dX10_operates_216 (sh_lt hG (by decide)) (sh_tg hG 45 rfl) rfl ?_
                        refine pw_iconst (v := nI 1) dX10_operates_219 (by decide) ?_
                        refine pw_isub dX10_operates_220 ?_
                        refine pw_ti (z := nI fr.length) h3.top.1 ?_
                        refine pw_putI fX10_282 dX10_operates_221 (Or.inl rfl) (by decide) (sh_lt hG (by decide)) (sh_tg hG 45 rfl) rfl ?_
                        exact pw_vret dX10_operates_224 rfl (k1 (ckO_0 (by omega) (by omega) (fun q => by have := q.2; omega)) _ _ (h3.pop))
                  · refine pw_aload_n dX10_operates_128 rfl ?_
                    refine pw_getR fX10_147 dX10_operates_129 (sh_lt hG (by decide)) (sh_tg hG 45 rfl) rfl (gr_at hP 85 rfl) ?_
                    refine pw_iload dX10_operates_132 rfl ?_
                    refine pw_laldN (hv.length + 1) dX10_operates_134 (sh_lt hG (by decide)) (sh_sh hG 91 rfl) (by decide) (rfl) (by omega) ?_
                    refine pw_tj (z := rt.2) hla.2.2.2.1.2 ?_
                    refine pw_lconst (v := 0) dX10_operates_135 (by decide) ?_
                    refine pw_lif_ne (tgt := 147) dX10_operates_136 dX10_operates_137 (by decide) (fun h137 => ?_) (fun h137 => ?_)
                    · refine pw_iload_n dX10_operates_147 rfl ?_
                      refine pw_bipush (v := nI 61) dX10_operates_148 (by decide) ?_
                      refine pw_icmpN_ne _ _ (tgt := 178) dX10_operates_150 (by decide) (rfl) (rfl) (by omega) (by omega) (fun h150 => ?_) (fun h150 => ?_)
                      · refine pw_iload_n dX10_operates_178 rfl ?_
                        refine pw_aload_n dX10_operates_179 rfl ?_
                        refine pw_getR fX10_147 dX10_operates_180 (sh_lt hG (by decide)) (sh_tg hG 45 rfl) rfl (gr_at hP 85 rfl) ?_
                        refine pw_iload_n dX10_operates_183 rfl ?_
                        refine pw_laldN hv.length dX10_operates_184 (sh_lt hG (by decide)) (sh_sh hG 91 rfl) (by decide) (rfl) (by omega) ?_
                        refine pw_tj (z := lf.2) hla.2.1.2 ?_
                        refine pw_aload_n dX10_operates_185 rfl ?_
                        refine pw_getR fX10_147 dX10_operates_186 (sh_lt hG (by decide)) (sh_tg hG 45 rfl) rfl (gr_at hP 85 rfl) ?_
                        refine pw_iload dX10_operates_189 rfl ?_
                        refine pw_laldN (hv.length + 1) dX10_operates_191 (sh_lt hG (by decide)) (sh_sh hG 91 rfl) (by decide) (rfl) (by omega) ?_
                        refine pw_tj (z := rt.2) hla.2.2.2.1.2 ?_
                        refine pw_callS (as := [_, _, _]) (kc' := 0) (ks' := 0) lX10_323 dX10_operates_192 rfl rfl (Nat.le_of_ble_eq_true rfl) (by omega) (Nat.le_of_ble_eq_true rfl) (Nat.zero_le _) (Nat.zero_le _) ?_
                        refine rw_op hlv (by omega) (fun q => by first | exact h137 | (exfalso; omega)) ?_
                        refine pw_lstore (lv' := [(6, _), (5, _), (4, _), (3, _), (2, _), (0, _), (1, _)]) dX10_operates_195 (by decide) rfl ?_
                        refine pw_aload_n dX10_operates_197 rfl ?_
                        refine pw_dup dX10_operates_198 rfl ?_
                        refine pw_getI fX10_279 dX10_operates_199 (sh_lt hG (by decide)) (sh_tg hG 45 rfl) rfl ?_
                        refine pw_iconst (v := nI 2) dX10_operates_202 (by decide) ?_
                        refine pw_isub dX10_operates_203 ?_
                        refine pw_ti (z := nI hv.length) hla.1 ?_
                        refine pw_putI fX10_279 dX10_operates_204 (Or.inl rfl) (by decide) (sh_lt hG (by decide)) (sh_tg hG 45 rfl) rfl ?_
                        refine pw_aload_n dX10_operates_207 rfl ?_
                        refine pw_iconst (v := nI 1) dX10_operates_208 (by decide) ?_
                        refine pw_lload dX10_operates_209 rfl ?_
                        refine pw_callV (as := [_, _]) (kc' := 0) (ks' := 0) lX10_295 dX10_operates_211 rfl rfl (sh_lt hG (by decide)) (sh_tg hG 45 rfl) (Nat.le_of_ble_eq_true rfl) (by omega) (Nat.le_of_ble_eq_true rfl) (Nat.zero_le _) (Nat.zero_le _) ?_
                        refine r_put hG hP (h.vpop) (v := (1, opV x lf.2 rt.2)) (by omega) (fun I3 J3 h3 => ?_)
                        refine pw_aload_n dX10_operates_214 rfl ?_
                        refine pw_dup dX10_operates_215 rfl ?_
                        refine pw_getI fX10_282 dX10_operates_216 (sh_lt hG (by decide)) (sh_tg hG 45 rfl) rfl ?_
                        refine pw_iconst (v := nI 1) dX10_operates_219 (by decide) ?_
                        refine pw_isub dX10_operates_220 ?_
                        refine pw_ti (z := nI fr.length) h3.top.1 ?_
                        refine pw_putI fX10_282 dX10_operates_221 (Or.inl rfl) (by decide) (sh_lt hG (by decide)) (sh_tg hG 45 rfl) rfl ?_
                        exact pw_vret dX10_operates_224 rfl (k1 (ckO_0 (by omega) (by omega) (fun q => h137 q.1)) _ _ (h3.pop))
                      · refine pw_aload_n dX10_operates_153 rfl ?_
                        refine pw_getR fX10_147 dX10_operates_154 (sh_lt hG (by decide)) (sh_tg hG 45 rfl) rfl (gr_at hP 85 rfl) ?_
                        refine pw_iload_n dX10_operates_157 rfl ?_
                        refine pw_laldN hv.length dX10_operates_158 (sh_lt hG (by decide)) (sh_sh hG 91 rfl) (by decide) (rfl) (by omega) ?_
                        refine pw_tj (z := lf.2) hla.2.1.2 ?_
                        refine pw_aload_n dX10_operates_159 rfl ?_
                        refine pw_getR fX10_147 dX10_operates_160 (sh_lt hG (by decide)) (sh_tg hG 45 rfl) rfl (gr_at hP 85 rfl) ?_
                        refine pw_iload dX10_operates_163 rfl ?_
                        refine pw_laldN (hv.length + 1) dX10_operates_165 (sh_lt hG (by decide)) (sh_sh hG 91 rfl) (by decide) (rfl) (by omega) ?_
                        refine pw_tj (z := rt.2) hla.2.2.2.1.2 ?_
                        refine pw_lif_ne (tgt := 174) dX10_operates_166 dX10_operates_167 (by decide) (fun h167 => ?_) (fun h167 => ?_)
                        · refine pw_lconst (v := 0) dX10_operates_174 (by decide) ?_
                          refine pw_goto (tgt := 195) dX10_operates_175 (by decide) ?_
                          refine pw_tj (z := opV x lf.2 rt.2) (by rw [h150]; show (0 : Int64) = (if lf.2 = rt.2 then 1 else 0); rw [if_neg h167]) ?_
                          refine pw_lstore (lv' := [(6, _), (5, _), (4, _), (3, _), (2, _), (0, _), (1, _)]) dX10_operates_195 (by decide) rfl ?_
                          refine pw_aload_n dX10_operates_197 rfl ?_
                          refine pw_dup dX10_operates_198 rfl ?_
                          refine pw_getI fX10_279 dX10_operates_199 (sh_lt hG (by decide)) (sh_tg hG 45 rfl) rfl ?_
                          refine pw_iconst (v := nI 2) dX10_operates_202 (by decide) ?_
                          refine pw_isub dX10_operates_203 ?_
                          refine pw_ti (z := nI hv.length) hla.1 ?_
                          refine pw_putI fX10_279 dX10_operates_204 (Or.inl rfl) (by decide) (sh_lt hG (by decide)) (sh_tg hG 45 rfl) rfl ?_
                          refine pw_aload_n dX10_operates_207 rfl ?_
                          refine pw_iconst (v := nI 1) dX10_operates_208 (by decide) ?_
                          refine pw_lload dX10_operates_209 rfl ?_
                          refine pw_callV (as := [_, _]) (kc' := 0) (ks' := 0) lX10_295 dX10_operates_211 rfl rfl (sh_lt hG (by decide)) (sh_tg hG 45 rfl) (Nat.le_of_ble_eq_true rfl) (by omega) (Nat.le_of_ble_eq_true rfl) (Nat.zero_le _) (Nat.zero_le _) ?_
                          refine r_put hG hP (h.vpop) (v := (1, opV x lf.2 rt.2)) (by omega) (fun I3 J3 h3 => ?_)
                          refine pw_aload_n dX10_operates_214 rfl ?_
                          refine pw_dup dX10_operates_215 rfl ?_
                          refine pw_getI fX10_282 dX10_operates_216 (sh_lt hG (by decide)) (sh_tg hG 45 rfl) rfl ?_
                          refine pw_iconst (v := nI 1) dX10_operates_219 (by decide) ?_
                          refine pw_isub dX10_operates_220 ?_
                          refine pw_ti (z := nI fr.length) h3.top.1 ?_
                          refine pw_putI fX10_282 dX10_operates_221 (Or.inl rfl) (by decide) (sh_lt hG (by decide)) (sh_tg hG 45 rfl) rfl ?_
                          exact pw_vret dX10_operates_224 rfl (k1 (ckO_0 (by omega) (by omega) (fun q => h137 q.1)) _ _ (h3.pop))
                        · refine pw_lconst (v := 1) dX10_operates_170 (by decide) ?_
                          refine pw_goto (tgt := 195) dX10_operates_171 (by decide) ?_
                          refine pw_tj (z := opV x lf.2 rt.2) (by rw [h150]; show (1 : Int64) = (if lf.2 = rt.2 then 1 else 0); rw [if_pos h167]) ?_
                          refine pw_lstore (lv' := [(6, _), (5, _), (4, _), (3, _), (2, _), (0, _), (1, _)]) dX10_operates_195 (by decide) rfl ?_
                          refine pw_aload_n dX10_operates_197 rfl ?_
                          refine pw_dup dX10_operates_198 rfl ?_
                          refine pw_getI fX10_279 dX10_operates_199 (sh_lt hG (by decide)) (sh_tg hG 45 rfl) rfl ?_
                          refine pw_iconst (v := nI 2) dX10_operates_202 (by decide) ?_
                          refine pw_isub dX10_operates_203 ?_
                          refine pw_ti (z := nI hv.length) hla.1 ?_
                          refine pw_putI fX10_279 dX10_operates_204 (Or.inl rfl) (by decide) (sh_lt hG (by decide)) (sh_tg hG 45 rfl) rfl ?_
                          refine pw_aload_n dX10_operates_207 rfl ?_
                          refine pw_iconst (v := nI 1) dX10_operates_208 (by decide) ?_
                          refine pw_lload dX10_operates_209 rfl ?_
                          refine pw_callV (as := [_, _]) (kc' := 0) (ks' := 0) lX10_295 dX10_operates_211 rfl rfl (sh_lt hG (by decide)) (sh_tg hG 45 rfl) (Nat.le_of_ble_eq_true rfl) (by omega) (Nat.le_of_ble_eq_true rfl) (Nat.zero_le _) (Nat.zero_le _) ?_
                          refine r_put hG hP (h.vpop) (v := (1, opV x lf.2 rt.2)) (by omega) (fun I3 J3 h3 => ?_)
                          refine pw_aload_n dX10_operates_214 rfl ?_
                          refine pw_dup dX10_operates_215 rfl ?_
                          refine pw_getI fX10_282 dX10_operates_216 (sh_lt hG (by decide)) (sh_tg hG 45 rfl) rfl ?_
                          refine pw_iconst (v := nI 1) dX10_operates_219 (by decide) ?_
                          refine pw_isub dX10_operates_220 ?_
                          refine pw_ti (z := nI fr.length) h3.top.1 ?_
                          refine pw_putI fX10_282 dX10_operates_221 (Or.inl rfl) (by decide) (sh_lt hG (by decide)) (sh_tg hG 45 rfl) rfl ?_
                          exact pw_vret dX10_operates_224 rfl (k1 (ckO_0 (by omega) (by omega) (fun q => h137 q.1)) _ _ (h3.pop))
                    · refine pw_aload_n dX10_operates_140 rfl ?_
                      refine pw_iconst (v := nI 4) dX10_operates_141 (by decide) ?_
                      refine pw_iload_n dX10_operates_142 rfl ?_
                      refine pw_callV (as := [_, _]) (kc' := 0) (ks' := 0) lX10_299 dX10_operates_143 rfl rfl (sh_lt hG (by decide)) (sh_tg hG 45 rfl) (Nat.le_of_ble_eq_true rfl) (by omega) (Nat.le_of_ble_eq_true rfl) (Nat.zero_le _) (Nat.zero_le _) ?_
                      refine r_fail hG hP h (e := 4) hNb ht (fun I3 h3 => ?_)
                      exact pw_vret dX10_operates_146 rfl (k0 (by rw [ckO_4 (by omega) (by omega) ⟨h137, by omega⟩]; decide) _ (by rw [ckO_4 (by omega) (by omega) ⟨h137, by omega⟩]; exact h3))
              · refine pw_aload_n dX10_operates_109 rfl ?_
                refine pw_iconst (v := nI 3) dX10_operates_110 (by decide) ?_
                refine pw_iload_n dX10_operates_111 rfl ?_
                refine pw_callV (as := [_, _]) (kc' := 0) (ks' := 0) lX10_299 dX10_operates_112 rfl rfl (sh_lt hG (by decide)) (sh_tg hG 45 rfl) (Nat.le_of_ble_eq_true rfl) (by omega) (Nat.le_of_ble_eq_true rfl) (Nat.zero_le _) (Nat.zero_le _) ?_
                refine r_fail hG hP h (e := 3) hNb ht (fun I3 h3 => ?_)
                exact pw_vret dX10_operates_115 rfl (k0 (by rw [ckO_3 (by omega) (by omega)]; decide) _ (by rw [ckO_3 (by omega) (by omega)]; exact h3))
        · refine pw_iconst (v := nI 1) dX10_operates_70 (by decide) ?_
          refine pw_goto (tgt := 75) dX10_operates_71 (by decide) ?_
          refine pw_istore (lv' := [(5, _), (4, _), (3, _), (2, _), (0, _), (1, _)]) dX10_operates_75 (by decide) rfl ?_
          refine pw_iload_n dX10_operates_77 rfl ?_
          refine pw_bipush (v := nI 61) dX10_operates_78 (by decide) ?_
          refine pw_icmpN_ne _ _ (tgt := 88) dX10_operates_80 (by decide) (rfl) (rfl) (by omega) (by omega) (fun h80 => ?_) (fun h80 => ?_)
          · refine pw_aload_n dX10_operates_88 rfl ?_
            refine pw_getR fX10_144 dX10_operates_89 (sh_lt hG (by decide)) (sh_tg hG 45 rfl) rfl (gr_at hP 84 rfl) ?_
            refine pw_iload_n dX10_operates_92 rfl ?_
            refine pw_ialdN hv.length dX10_operates_93 (sh_lt hG (by decide)) (sh_sh hG 90 rfl) (by decide) (rfl) (by omega) ?_
            refine pw_ti (z := nI lf.1) hla.2.1.1 ?_
            refine pw_iconst (v := nI 2) dX10_operates_94 (by decide) ?_
            refine pw_icmpN_eq _ _ (tgt := 109) dX10_operates_95 (by decide) (rfl) (rfl) (by omega) (by omega) (fun h95 => ?_) (fun h95 => ?_)
            · refine pw_aload_n dX10_operates_109 rfl ?_
              refine pw_iconst (v := nI 3) dX10_operates_110 (by decide) ?_
              refine pw_iload_n dX10_operates_111 rfl ?_
              refine pw_callV (as := [_, _]) (kc' := 0) (ks' := 0) lX10_299 dX10_operates_112 rfl rfl (sh_lt hG (by decide)) (sh_tg hG 45 rfl) (Nat.le_of_ble_eq_true rfl) (by omega) (Nat.le_of_ble_eq_true rfl) (Nat.zero_le _) (Nat.zero_le _) ?_
              refine r_fail hG hP h (e := 3) hNb ht (fun I3 h3 => ?_)
              exact pw_vret dX10_operates_115 rfl (k0 (by rw [ckO_3 (by omega) (by omega)]; decide) _ (by rw [ckO_3 (by omega) (by omega)]; exact h3))
            · refine pw_aload_n dX10_operates_98 rfl ?_
              refine pw_getR fX10_144 dX10_operates_99 (sh_lt hG (by decide)) (sh_tg hG 45 rfl) rfl (gr_at hP 84 rfl) ?_
              refine pw_iload dX10_operates_102 rfl ?_
              refine pw_ialdN (hv.length + 1) dX10_operates_104 (sh_lt hG (by decide)) (sh_sh hG 90 rfl) (by decide) (rfl) (by omega) ?_
              refine pw_ti (z := nI rt.1) hla.2.2.2.1.1 ?_
              refine pw_iconst (v := nI 2) dX10_operates_105 (by decide) ?_
              refine pw_icmpN_ne _ _ (tgt := 116) dX10_operates_106 (by decide) (rfl) (rfl) (by omega) (by omega) (fun h106 => ?_) (fun h106 => ?_)
              · refine pw_iload_n dX10_operates_116 rfl ?_
                refine pw_bipush (v := nI 47) dX10_operates_117 (by decide) ?_
                refine pw_icmpN_eq _ _ (tgt := 128) dX10_operates_119 (by decide) (rfl) (rfl) (by omega) (by omega) (fun h119 => ?_) (fun h119 => ?_)
                · refine pw_aload_n dX10_operates_128 rfl ?_
                  refine pw_getR fX10_147 dX10_operates_129 (sh_lt hG (by decide)) (sh_tg hG 45 rfl) rfl (gr_at hP 85 rfl) ?_
                  refine pw_iload dX10_operates_132 rfl ?_
                  refine pw_laldN (hv.length + 1) dX10_operates_134 (sh_lt hG (by decide)) (sh_sh hG 91 rfl) (by decide) (rfl) (by omega) ?_
                  refine pw_tj (z := rt.2) hla.2.2.2.1.2 ?_
                  refine pw_lconst (v := 0) dX10_operates_135 (by decide) ?_
                  refine pw_lif_ne (tgt := 147) dX10_operates_136 dX10_operates_137 (by decide) (fun h137 => ?_) (fun h137 => ?_)
                  · refine pw_iload_n dX10_operates_147 rfl ?_
                    refine pw_bipush (v := nI 61) dX10_operates_148 (by decide) ?_
                    refine pw_icmpN_ne _ _ (tgt := 178) dX10_operates_150 (by decide) (rfl) (rfl) (by omega) (by omega) (fun h150 => ?_) (fun h150 => ?_)
                    · refine pw_iload_n dX10_operates_178 rfl ?_
                      refine pw_aload_n dX10_operates_179 rfl ?_
                      refine pw_getR fX10_147 dX10_operates_180 (sh_lt hG (by decide)) (sh_tg hG 45 rfl) rfl (gr_at hP 85 rfl) ?_
                      refine pw_iload_n dX10_operates_183 rfl ?_
                      refine pw_laldN hv.length dX10_operates_184 (sh_lt hG (by decide)) (sh_sh hG 91 rfl) (by decide) (rfl) (by omega) ?_
                      refine pw_tj (z := lf.2) hla.2.1.2 ?_
                      refine pw_aload_n dX10_operates_185 rfl ?_
                      refine pw_getR fX10_147 dX10_operates_186 (sh_lt hG (by decide)) (sh_tg hG 45 rfl) rfl (gr_at hP 85 rfl) ?_
                      refine pw_iload dX10_operates_189 rfl ?_
                      refine pw_laldN (hv.length + 1) dX10_operates_191 (sh_lt hG (by decide)) (sh_sh hG 91 rfl) (by decide) (rfl) (by omega) ?_
                      refine pw_tj (z := rt.2) hla.2.2.2.1.2 ?_
                      refine pw_callS (as := [_, _, _]) (kc' := 0) (ks' := 0) lX10_323 dX10_operates_192 rfl rfl (Nat.le_of_ble_eq_true rfl) (by omega) (Nat.le_of_ble_eq_true rfl) (Nat.zero_le _) (Nat.zero_le _) ?_
                      refine rw_op hlv (by omega) (fun q => by first | exact h137 | (exfalso; omega)) ?_
                      refine pw_lstore (lv' := [(6, _), (5, _), (4, _), (3, _), (2, _), (0, _), (1, _)]) dX10_operates_195 (by decide) rfl ?_
                      refine pw_aload_n dX10_operates_197 rfl ?_
                      refine pw_dup dX10_operates_198 rfl ?_
                      refine pw_getI fX10_279 dX10_operates_199 (sh_lt hG (by decide)) (sh_tg hG 45 rfl) rfl ?_
                      refine pw_iconst (v := nI 2) dX10_operates_202 (by decide) ?_
                      refine pw_isub dX10_operates_203 ?_
                      refine pw_ti (z := nI hv.length) hla.1 ?_
                      refine pw_putI fX10_279 dX10_operates_204 (Or.inl rfl) (by decide) (sh_lt hG (by decide)) (sh_tg hG 45 rfl) rfl ?_
                      refine pw_aload_n dX10_operates_207 rfl ?_
                      refine pw_iconst (v := nI 1) dX10_operates_208 (by decide) ?_
                      refine pw_lload dX10_operates_209 rfl ?_
                      refine pw_callV (as := [_, _]) (kc' := 0) (ks' := 0) lX10_295 dX10_operates_211 rfl rfl (sh_lt hG (by decide)) (sh_tg hG 45 rfl) (Nat.le_of_ble_eq_true rfl) (by omega) (Nat.le_of_ble_eq_true rfl) (Nat.zero_le _) (Nat.zero_le _) ?_
                      refine r_put hG hP (h.vpop) (v := (1, opV x lf.2 rt.2)) (by omega) (fun I3 J3 h3 => ?_)
                      refine pw_aload_n dX10_operates_214 rfl ?_
                      refine pw_dup dX10_operates_215 rfl ?_
                      refine pw_getI fX10_282 dX10_operates_216 (sh_lt hG (by decide)) (sh_tg hG 45 rfl) rfl ?_
                      refine pw_iconst (v := nI 1) dX10_operates_219 (by decide) ?_
                      refine pw_isub dX10_operates_220 ?_
                      refine pw_ti (z := nI fr.length) h3.top.1 ?_
                      refine pw_putI fX10_282 dX10_operates_221 (Or.inl rfl) (by decide) (sh_lt hG (by decide)) (sh_tg hG 45 rfl) rfl ?_
                      exact pw_vret dX10_operates_224 rfl (k1 (ckO_0 (by omega) (by omega) (fun q => h137 q.1)) _ _ (h3.pop))
                    · refine pw_aload_n dX10_operates_153 rfl ?_
                      refine pw_getR fX10_147 dX10_operates_154 (sh_lt hG (by decide)) (sh_tg hG 45 rfl) rfl (gr_at hP 85 rfl) ?_
                      refine pw_iload_n dX10_operates_157 rfl ?_
                      refine pw_laldN hv.length dX10_operates_158 (sh_lt hG (by decide)) (sh_sh hG 91 rfl) (by decide) (rfl) (by omega) ?_
                      refine pw_tj (z := lf.2) hla.2.1.2 ?_
                      refine pw_aload_n dX10_operates_159 rfl ?_
                      refine pw_getR fX10_147 dX10_operates_160 (sh_lt hG (by decide)) (sh_tg hG 45 rfl) rfl (gr_at hP 85 rfl) ?_
                      refine pw_iload dX10_operates_163 rfl ?_
                      refine pw_laldN (hv.length + 1) dX10_operates_165 (sh_lt hG (by decide)) (sh_sh hG 91 rfl) (by decide) (rfl) (by omega) ?_
                      refine pw_tj (z := rt.2) hla.2.2.2.1.2 ?_
                      refine pw_lif_ne (tgt := 174) dX10_operates_166 dX10_operates_167 (by decide) (fun h167 => ?_) (fun h167 => ?_)
                      · refine pw_lconst (v := 0) dX10_operates_174 (by decide) ?_
                        refine pw_goto (tgt := 195) dX10_operates_175 (by decide) ?_
                        refine pw_tj (z := opV x lf.2 rt.2) (by rw [h150]; show (0 : Int64) = (if lf.2 = rt.2 then 1 else 0); rw [if_neg h167]) ?_
                        refine pw_lstore (lv' := [(6, _), (5, _), (4, _), (3, _), (2, _), (0, _), (1, _)]) dX10_operates_195 (by decide) rfl ?_
                        refine pw_aload_n dX10_operates_197 rfl ?_
                        refine pw_dup dX10_operates_198 rfl ?_
                        refine pw_getI fX10_279 dX10_operates_199 (sh_lt hG (by decide)) (sh_tg hG 45 rfl) rfl ?_
                        refine pw_iconst (v := nI 2) dX10_operates_202 (by decide) ?_
                        refine pw_isub dX10_operates_203 ?_
                        refine pw_ti (z := nI hv.length) hla.1 ?_
                        refine pw_putI fX10_279 dX10_operates_204 (Or.inl rfl) (by decide) (sh_lt hG (by decide)) (sh_tg hG 45 rfl) rfl ?_
                        refine pw_aload_n dX10_operates_207 rfl ?_
                        refine pw_iconst (v := nI 1) dX10_operates_208 (by decide) ?_
                        refine pw_lload dX10_operates_209 rfl ?_
                        refine pw_callV (as := [_, _]) (kc' := 0) (ks' := 0) lX10_295 dX10_operates_211 rfl rfl (sh_lt hG (by decide)) (sh_tg hG 45 rfl) (Nat.le_of_ble_eq_true rfl) (by omega) (Nat.le_of_ble_eq_true rfl) (Nat.zero_le _) (Nat.zero_le _) ?_
                        refine r_put hG hP (h.vpop) (v := (1, opV x lf.2 rt.2)) (by omega) (fun I3 J3 h3 => ?_)
                        refine pw_aload_n dX10_operates_214 rfl ?_
                        refine pw_dup dX10_operates_215 rfl ?_
                        refine pw_getI fX10_282 dX10_operates_216 (sh_lt hG (by decide)) (sh_tg hG 45 rfl) rfl ?_
                        refine pw_iconst (v := nI 1) dX10_operates_219 (by decide) ?_
                        refine pw_isub dX10_operates_220 ?_
                        refine pw_ti (z := nI fr.length) h3.top.1 ?_
                        refine pw_putI fX10_282 dX10_operates_221 (Or.inl rfl) (by decide) (sh_lt hG (by decide)) (sh_tg hG 45 rfl) rfl ?_
                        exact pw_vret dX10_operates_224 rfl (k1 (ckO_0 (by omega) (by omega) (fun q => h137 q.1)) _ _ (h3.pop))
                      · refine pw_lconst (v := 1) dX10_operates_170 (by decide) ?_
                        refine pw_goto (tgt := 195) dX10_operates_171 (by decide) ?_
                        refine pw_tj (z := opV x lf.2 rt.2) (by rw [h150]; show (1 : Int64) = (if lf.2 = rt.2 then 1 else 0); rw [if_pos h167]) ?_
                        refine pw_lstore (lv' := [(6, _), (5, _), (4, _), (3, _), (2, _), (0, _), (1, _)]) dX10_operates_195 (by decide) rfl ?_
                        refine pw_aload_n dX10_operates_197 rfl ?_
                        refine pw_dup dX10_operates_198 rfl ?_
                        refine pw_getI fX10_279 dX10_operates_199 (sh_lt hG (by decide)) (sh_tg hG 45 rfl) rfl ?_
                        refine pw_iconst (v := nI 2) dX10_operates_202 (by decide) ?_
                        refine pw_isub dX10_operates_203 ?_
                        refine pw_ti (z := nI hv.length) hla.1 ?_
                        refine pw_putI fX10_279 dX10_operates_204 (Or.inl rfl) (by decide) (sh_lt hG (by decide)) (sh_tg hG 45 rfl) rfl ?_
                        refine pw_aload_n dX10_operates_207 rfl ?_
                        refine pw_iconst (v := nI 1) dX10_operates_208 (by decide) ?_
                        refine pw_lload dX10_operates_209 rfl ?_
                        refine pw_callV (as := [_, _]) (kc' := 0) (ks' := 0) lX10_295 dX10_operates_211 rfl rfl (sh_lt hG (by decide)) (sh_tg hG 45 rfl) (Nat.le_of_ble_eq_true rfl) (by omega) (Nat.le_of_ble_eq_true rfl) (Nat.zero_le _) (Nat.zero_le _) ?_
                        refine r_put hG hP (h.vpop) (v := (1, opV x lf.2 rt.2)) (by omega) (fun I3 J3 h3 => ?_)
                        refine pw_aload_n dX10_operates_214 rfl ?_
                        refine pw_dup dX10_operates_215 rfl ?_
                        refine pw_getI fX10_282 dX10_operates_216 (sh_lt hG (by decide)) (sh_tg hG 45 rfl) rfl ?_
                        refine pw_iconst (v := nI 1) dX10_operates_219 (by decide) ?_
                        refine pw_isub dX10_operates_220 ?_
                        refine pw_ti (z := nI fr.length) h3.top.1 ?_
                        refine pw_putI fX10_282 dX10_operates_221 (Or.inl rfl) (by decide) (sh_lt hG (by decide)) (sh_tg hG 45 rfl) rfl ?_
                        exact pw_vret dX10_operates_224 rfl (k1 (ckO_0 (by omega) (by omega) (fun q => h137 q.1)) _ _ (h3.pop))
                  · refine pw_aload_n dX10_operates_140 rfl ?_
                    refine pw_iconst (v := nI 4) dX10_operates_141 (by decide) ?_
                    refine pw_iload_n dX10_operates_142 rfl ?_
                    refine pw_callV (as := [_, _]) (kc' := 0) (ks' := 0) lX10_299 dX10_operates_143 rfl rfl (sh_lt hG (by decide)) (sh_tg hG 45 rfl) (Nat.le_of_ble_eq_true rfl) (by omega) (Nat.le_of_ble_eq_true rfl) (Nat.zero_le _) (Nat.zero_le _) ?_
                    refine r_fail hG hP h (e := 4) hNb ht (fun I3 h3 => ?_)
                    exact pw_vret dX10_operates_146 rfl (k0 (by rw [ckO_4 (by omega) (by omega) ⟨h137, by omega⟩]; decide) _ (by rw [ckO_4 (by omega) (by omega) ⟨h137, by omega⟩]; exact h3))
                · refine pw_iload_n dX10_operates_122 rfl ?_
                  refine pw_bipush (v := nI 37) dX10_operates_123 (by decide) ?_
                  refine pw_icmpN_ne _ _ (tgt := 147) dX10_operates_125 (by decide) (rfl) (rfl) (by omega) (by omega) (fun h125 => ?_) (fun h125 => ?_)
                  · refine pw_iload_n dX10_operates_147 rfl ?_
                    refine pw_bipush (v := nI 61) dX10_operates_148 (by decide) ?_
                    refine pw_icmpN_ne _ _ (tgt := 178) dX10_operates_150 (by decide) (rfl) (rfl) (by omega) (by omega) (fun h150 => ?_) (fun h150 => ?_)
                    · refine pw_iload_n dX10_operates_178 rfl ?_
                      refine pw_aload_n dX10_operates_179 rfl ?_
                      refine pw_getR fX10_147 dX10_operates_180 (sh_lt hG (by decide)) (sh_tg hG 45 rfl) rfl (gr_at hP 85 rfl) ?_
                      refine pw_iload_n dX10_operates_183 rfl ?_
                      refine pw_laldN hv.length dX10_operates_184 (sh_lt hG (by decide)) (sh_sh hG 91 rfl) (by decide) (rfl) (by omega) ?_
                      refine pw_tj (z := lf.2) hla.2.1.2 ?_
                      refine pw_aload_n dX10_operates_185 rfl ?_
                      refine pw_getR fX10_147 dX10_operates_186 (sh_lt hG (by decide)) (sh_tg hG 45 rfl) rfl (gr_at hP 85 rfl) ?_
                      refine pw_iload dX10_operates_189 rfl ?_
                      refine pw_laldN (hv.length + 1) dX10_operates_191 (sh_lt hG (by decide)) (sh_sh hG 91 rfl) (by decide) (rfl) (by omega) ?_
                      refine pw_tj (z := rt.2) hla.2.2.2.1.2 ?_
                      refine pw_callS (as := [_, _, _]) (kc' := 0) (ks' := 0) lX10_323 dX10_operates_192 rfl rfl (Nat.le_of_ble_eq_true rfl) (by omega) (Nat.le_of_ble_eq_true rfl) (Nat.zero_le _) (Nat.zero_le _) ?_
                      refine rw_op hlv (by omega) (fun q => by first | exact h137 | (exfalso; omega)) ?_
                      refine pw_lstore (lv' := [(6, _), (5, _), (4, _), (3, _), (2, _), (0, _), (1, _)]) dX10_operates_195 (by decide) rfl ?_
                      refine pw_aload_n dX10_operates_197 rfl ?_
                      refine pw_dup dX10_operates_198 rfl ?_
                      refine pw_getI fX10_279 dX10_operates_199 (sh_lt hG (by decide)) (sh_tg hG 45 rfl) rfl ?_
                      refine pw_iconst (v := nI 2) dX10_operates_202 (by decide) ?_
                      refine pw_isub dX10_operates_203 ?_
                      refine pw_ti (z := nI hv.length) hla.1 ?_
                      refine pw_putI fX10_279 dX10_operates_204 (Or.inl rfl) (by decide) (sh_lt hG (by decide)) (sh_tg hG 45 rfl) rfl ?_
                      refine pw_aload_n dX10_operates_207 rfl ?_
                      refine pw_iconst (v := nI 1) dX10_operates_208 (by decide) ?_
                      refine pw_lload dX10_operates_209 rfl ?_
                      refine pw_callV (as := [_, _]) (kc' := 0) (ks' := 0) lX10_295 dX10_operates_211 rfl rfl (sh_lt hG (by decide)) (sh_tg hG 45 rfl) (Nat.le_of_ble_eq_true rfl) (by omega) (Nat.le_of_ble_eq_true rfl) (Nat.zero_le _) (Nat.zero_le _) ?_
                      refine r_put hG hP (h.vpop) (v := (1, opV x lf.2 rt.2)) (by omega) (fun I3 J3 h3 => ?_)
                      refine pw_aload_n dX10_operates_214 rfl ?_
                      refine pw_dup dX10_operates_215 rfl ?_
                      refine pw_getI fX10_282 dX10_operates_216 (sh_lt hG (by decide)) (sh_tg hG 45 rfl) rfl ?_
                      refine pw_iconst (v := nI 1) dX10_operates_219 (by decide) ?_
                      refine pw_isub dX10_operates_220 ?_
                      refine pw_ti (z := nI fr.length) h3.top.1 ?_
                      refine pw_putI fX10_282 dX10_operates_221 (Or.inl rfl) (by decide) (sh_lt hG (by decide)) (sh_tg hG 45 rfl) rfl ?_
                      exact pw_vret dX10_operates_224 rfl (k1 (ckO_0 (by omega) (by omega) (fun q => by have := q.2; omega)) _ _ (h3.pop))
                    · refine pw_aload_n dX10_operates_153 rfl ?_
                      refine pw_getR fX10_147 dX10_operates_154 (sh_lt hG (by decide)) (sh_tg hG 45 rfl) rfl (gr_at hP 85 rfl) ?_
                      refine pw_iload_n dX10_operates_157 rfl ?_
                      refine pw_laldN hv.length dX10_operates_158 (sh_lt hG (by decide)) (sh_sh hG 91 rfl) (by decide) (rfl) (by omega) ?_
                      refine pw_tj (z := lf.2) hla.2.1.2 ?_
                      refine pw_aload_n dX10_operates_159 rfl ?_
                      refine pw_getR fX10_147 dX10_operates_160 (sh_lt hG (by decide)) (sh_tg hG 45 rfl) rfl (gr_at hP 85 rfl) ?_
                      refine pw_iload dX10_operates_163 rfl ?_
                      refine pw_laldN (hv.length + 1) dX10_operates_165 (sh_lt hG (by decide)) (sh_sh hG 91 rfl) (by decide) (rfl) (by omega) ?_
                      refine pw_tj (z := rt.2) hla.2.2.2.1.2 ?_
                      refine pw_lif_ne (tgt := 174) dX10_operates_166 dX10_operates_167 (by decide) (fun h167 => ?_) (fun h167 => ?_)
                      · refine pw_lconst (v := 0) dX10_operates_174 (by decide) ?_
                        refine pw_goto (tgt := 195) dX10_operates_175 (by decide) ?_
                        refine pw_tj (z := opV x lf.2 rt.2) (by rw [h150]; show (0 : Int64) = (if lf.2 = rt.2 then 1 else 0); rw [if_neg h167]) ?_
                        refine pw_lstore (lv' := [(6, _), (5, _), (4, _), (3, _), (2, _), (0, _), (1, _)]) dX10_operates_195 (by decide) rfl ?_
                        refine pw_aload_n dX10_operates_197 rfl ?_
                        refine pw_dup dX10_operates_198 rfl ?_
                        refine pw_getI fX10_279 dX10_operates_199 (sh_lt hG (by decide)) (sh_tg hG 45 rfl) rfl ?_
                        refine pw_iconst (v := nI 2) dX10_operates_202 (by decide) ?_
                        refine pw_isub dX10_operates_203 ?_
                        refine pw_ti (z := nI hv.length) hla.1 ?_
                        refine pw_putI fX10_279 dX10_operates_204 (Or.inl rfl) (by decide) (sh_lt hG (by decide)) (sh_tg hG 45 rfl) rfl ?_
                        refine pw_aload_n dX10_operates_207 rfl ?_
                        refine pw_iconst (v := nI 1) dX10_operates_208 (by decide) ?_
                        refine pw_lload dX10_operates_209 rfl ?_
                        refine pw_callV (as := [_, _]) (kc' := 0) (ks' := 0) lX10_295 dX10_operates_211 rfl rfl (sh_lt hG (by decide)) (sh_tg hG 45 rfl) (Nat.le_of_ble_eq_true rfl) (by omega) (Nat.le_of_ble_eq_true rfl) (Nat.zero_le _) (Nat.zero_le _) ?_
                        refine r_put hG hP (h.vpop) (v := (1, opV x lf.2 rt.2)) (by omega) (fun I3 J3 h3 => ?_)
                        refine pw_aload_n dX10_operates_214 rfl ?_
                        refine pw_dup dX10_operates_215 rfl ?_
                        refine pw_getI fX10_282 dX10_operates_216 (sh_lt hG (by decide)) (sh_tg hG 45 rfl) rfl ?_
                        refine pw_iconst (v := nI 1) dX10_operates_219 (by decide) ?_
                        refine pw_isub dX10_operates_220 ?_
                        refine pw_ti (z := nI fr.length) h3.top.1 ?_
                        refine pw_putI fX10_282 dX10_operates_221 (Or.inl rfl) (by decide) (sh_lt hG (by decide)) (sh_tg hG 45 rfl) rfl ?_
                        exact pw_vret dX10_operates_224 rfl (k1 (ckO_0 (by omega) (by omega) (fun q => by have := q.2; omega)) _ _ (h3.pop))
                      · refine pw_lconst (v := 1) dX10_operates_170 (by decide) ?_
                        refine pw_goto (tgt := 195) dX10_operates_171 (by decide) ?_
                        refine pw_tj (z := opV x lf.2 rt.2) (by rw [h150]; show (1 : Int64) = (if lf.2 = rt.2 then 1 else 0); rw [if_pos h167]) ?_
                        refine pw_lstore (lv' := [(6, _), (5, _), (4, _), (3, _), (2, _), (0, _), (1, _)]) dX10_operates_195 (by decide) rfl ?_
                        refine pw_aload_n dX10_operates_197 rfl ?_
                        refine pw_dup dX10_operates_198 rfl ?_
                        refine pw_getI fX10_279 dX10_operates_199 (sh_lt hG (by decide)) (sh_tg hG 45 rfl) rfl ?_
                        refine pw_iconst (v := nI 2) dX10_operates_202 (by decide) ?_
                        refine pw_isub dX10_operates_203 ?_
                        refine pw_ti (z := nI hv.length) hla.1 ?_
                        refine pw_putI fX10_279 dX10_operates_204 (Or.inl rfl) (by decide) (sh_lt hG (by decide)) (sh_tg hG 45 rfl) rfl ?_
                        refine pw_aload_n dX10_operates_207 rfl ?_
                        refine pw_iconst (v := nI 1) dX10_operates_208 (by decide) ?_
                        refine pw_lload dX10_operates_209 rfl ?_
                        refine pw_callV (as := [_, _]) (kc' := 0) (ks' := 0) lX10_295 dX10_operates_211 rfl rfl (sh_lt hG (by decide)) (sh_tg hG 45 rfl) (Nat.le_of_ble_eq_true rfl) (by omega) (Nat.le_of_ble_eq_true rfl) (Nat.zero_le _) (Nat.zero_le _) ?_
                        refine r_put hG hP (h.vpop) (v := (1, opV x lf.2 rt.2)) (by omega) (fun I3 J3 h3 => ?_)
                        refine pw_aload_n dX10_operates_214 rfl ?_
                        refine pw_dup dX10_operates_215 rfl ?_
                        refine pw_getI fX10_282 dX10_operates_216 (sh_lt hG (by decide)) (sh_tg hG 45 rfl) rfl ?_
                        refine pw_iconst (v := nI 1) dX10_operates_219 (by decide) ?_
                        refine pw_isub dX10_operates_220 ?_
                        refine pw_ti (z := nI fr.length) h3.top.1 ?_
                        refine pw_putI fX10_282 dX10_operates_221 (Or.inl rfl) (by decide) (sh_lt hG (by decide)) (sh_tg hG 45 rfl) rfl ?_
                        exact pw_vret dX10_operates_224 rfl (k1 (ckO_0 (by omega) (by omega) (fun q => by have := q.2; omega)) _ _ (h3.pop))
                  · refine pw_aload_n dX10_operates_128 rfl ?_
                    refine pw_getR fX10_147 dX10_operates_129 (sh_lt hG (by decide)) (sh_tg hG 45 rfl) rfl (gr_at hP 85 rfl) ?_
                    refine pw_iload dX10_operates_132 rfl ?_
                    refine pw_laldN (hv.length + 1) dX10_operates_134 (sh_lt hG (by decide)) (sh_sh hG 91 rfl) (by decide) (rfl) (by omega) ?_
                    refine pw_tj (z := rt.2) hla.2.2.2.1.2 ?_
                    refine pw_lconst (v := 0) dX10_operates_135 (by decide) ?_
                    refine pw_lif_ne (tgt := 147) dX10_operates_136 dX10_operates_137 (by decide) (fun h137 => ?_) (fun h137 => ?_)
                    · refine pw_iload_n dX10_operates_147 rfl ?_
                      refine pw_bipush (v := nI 61) dX10_operates_148 (by decide) ?_
                      refine pw_icmpN_ne _ _ (tgt := 178) dX10_operates_150 (by decide) (rfl) (rfl) (by omega) (by omega) (fun h150 => ?_) (fun h150 => ?_)
                      · refine pw_iload_n dX10_operates_178 rfl ?_
                        refine pw_aload_n dX10_operates_179 rfl ?_
                        refine pw_getR fX10_147 dX10_operates_180 (sh_lt hG (by decide)) (sh_tg hG 45 rfl) rfl (gr_at hP 85 rfl) ?_
                        refine pw_iload_n dX10_operates_183 rfl ?_
                        refine pw_laldN hv.length dX10_operates_184 (sh_lt hG (by decide)) (sh_sh hG 91 rfl) (by decide) (rfl) (by omega) ?_
                        refine pw_tj (z := lf.2) hla.2.1.2 ?_
                        refine pw_aload_n dX10_operates_185 rfl ?_
                        refine pw_getR fX10_147 dX10_operates_186 (sh_lt hG (by decide)) (sh_tg hG 45 rfl) rfl (gr_at hP 85 rfl) ?_
                        refine pw_iload dX10_operates_189 rfl ?_
                        refine pw_laldN (hv.length + 1) dX10_operates_191 (sh_lt hG (by decide)) (sh_sh hG 91 rfl) (by decide) (rfl) (by omega) ?_
                        refine pw_tj (z := rt.2) hla.2.2.2.1.2 ?_
                        refine pw_callS (as := [_, _, _]) (kc' := 0) (ks' := 0) lX10_323 dX10_operates_192 rfl rfl (Nat.le_of_ble_eq_true rfl) (by omega) (Nat.le_of_ble_eq_true rfl) (Nat.zero_le _) (Nat.zero_le _) ?_
                        refine rw_op hlv (by omega) (fun q => by first | exact h137 | (exfalso; omega)) ?_
                        refine pw_lstore (lv' := [(6, _), (5, _), (4, _), (3, _), (2, _), (0, _), (1, _)]) dX10_operates_195 (by decide) rfl ?_
                        refine pw_aload_n dX10_operates_197 rfl ?_
                        refine pw_dup dX10_operates_198 rfl ?_
                        refine pw_getI fX10_279 dX10_operates_199 (sh_lt hG (by decide)) (sh_tg hG 45 rfl) rfl ?_
                        refine pw_iconst (v := nI 2) dX10_operates_202 (by decide) ?_
                        refine pw_isub dX10_operates_203 ?_
                        refine pw_ti (z := nI hv.length) hla.1 ?_
                        refine pw_putI fX10_279 dX10_operates_204 (Or.inl rfl) (by decide) (sh_lt hG (by decide)) (sh_tg hG 45 rfl) rfl ?_
                        refine pw_aload_n dX10_operates_207 rfl ?_
                        refine pw_iconst (v := nI 1) dX10_operates_208 (by decide) ?_
                        refine pw_lload dX10_operates_209 rfl ?_
                        refine pw_callV (as := [_, _]) (kc' := 0) (ks' := 0) lX10_295 dX10_operates_211 rfl rfl (sh_lt hG (by decide)) (sh_tg hG 45 rfl) (Nat.le_of_ble_eq_true rfl) (by omega) (Nat.le_of_ble_eq_true rfl) (Nat.zero_le _) (Nat.zero_le _) ?_
                        refine r_put hG hP (h.vpop) (v := (1, opV x lf.2 rt.2)) (by omega) (fun I3 J3 h3 => ?_)
                        refine pw_aload_n dX10_operates_214 rfl ?_
                        refine pw_dup dX10_operates_215 rfl ?_
                        refine pw_getI fX10_282 dX10_operates_216 (sh_lt hG (by decide)) (sh_tg hG 45 rfl) rfl ?_
                        refine pw_iconst (v := nI 1) dX10_operates_219 (by decide) ?_
                        refine pw_isub dX10_operates_220 ?_
                        refine pw_ti (z := nI fr.length) h3.top.1 ?_
                        refine pw_putI fX10_282 dX10_operates_221 (Or.inl rfl) (by decide) (sh_lt hG (by decide)) (sh_tg hG 45 rfl) rfl ?_
                        exact pw_vret dX10_operates_224 rfl (k1 (ckO_0 (by omega) (by omega) (fun q => h137 q.1)) _ _ (h3.pop))
                      · refine pw_aload_n dX10_operates_153 rfl ?_
                        refine pw_getR fX10_147 dX10_operates_154 (sh_lt hG (by decide)) (sh_tg hG 45 rfl) rfl (gr_at hP 85 rfl) ?_
                        refine pw_iload_n dX10_operates_157 rfl ?_
                        refine pw_laldN hv.length dX10_operates_158 (sh_lt hG (by decide)) (sh_sh hG 91 rfl) (by decide) (rfl) (by omega) ?_
                        refine pw_tj (z := lf.2) hla.2.1.2 ?_
                        refine pw_aload_n dX10_operates_159 rfl ?_
                        refine pw_getR fX10_147 dX10_operates_160 (sh_lt hG (by decide)) (sh_tg hG 45 rfl) rfl (gr_at hP 85 rfl) ?_
                        refine pw_iload dX10_operates_163 rfl ?_
                        refine pw_laldN (hv.length + 1) dX10_operates_165 (sh_lt hG (by decide)) (sh_sh hG 91 rfl) (by decide) (rfl) (by omega) ?_
                        refine pw_tj (z := rt.2) hla.2.2.2.1.2 ?_
                        refine pw_lif_ne (tgt := 174) dX10_operates_166 dX10_operates_167 (by decide) (fun h167 => ?_) (fun h167 => ?_)
                        · refine pw_lconst (v := 0) dX10_operates_174 (by decide) ?_
                          refine pw_goto (tgt := 195) dX10_operates_175 (by decide) ?_
                          refine pw_tj (z := opV x lf.2 rt.2) (by rw [h150]; show (0 : Int64) = (if lf.2 = rt.2 then 1 else 0); rw [if_neg h167]) ?_
                          refine pw_lstore (lv' := [(6, _), (5, _), (4, _), (3, _), (2, _), (0, _), (1, _)]) dX10_operates_195 (by decide) rfl ?_
                          refine pw_aload_n dX10_operates_197 rfl ?_
                          refine pw_dup dX10_operates_198 rfl ?_
                          refine pw_getI fX10_279 dX10_operates_199 (sh_lt hG (by decide)) (sh_tg hG 45 rfl) rfl ?_
                          refine pw_iconst (v := nI 2) dX10_operates_202 (by decide) ?_
                          refine pw_isub dX10_operates_203 ?_
                          refine pw_ti (z := nI hv.length) hla.1 ?_
                          refine pw_putI fX10_279 dX10_operates_204 (Or.inl rfl) (by decide) (sh_lt hG (by decide)) (sh_tg hG 45 rfl) rfl ?_
                          refine pw_aload_n dX10_operates_207 rfl ?_
                          refine pw_iconst (v := nI 1) dX10_operates_208 (by decide) ?_
                          refine pw_lload dX10_operates_209 rfl ?_
                          refine pw_callV (as := [_, _]) (kc' := 0) (ks' := 0) lX10_295 dX10_operates_211 rfl rfl (sh_lt hG (by decide)) (sh_tg hG 45 rfl) (Nat.le_of_ble_eq_true rfl) (by omega) (Nat.le_of_ble_eq_true rfl) (Nat.zero_le _) (Nat.zero_le _) ?_
                          refine r_put hG hP (h.vpop) (v := (1, opV x lf.2 rt.2)) (by omega) (fun I3 J3 h3 => ?_)
                          refine pw_aload_n dX10_operates_214 rfl ?_
                          refine pw_dup dX10_operates_215 rfl ?_
                          refine pw_getI fX10_282 dX10_operates_216 (sh_lt hG (by decide)) (sh_tg hG 45 rfl) rfl ?_
                          refine pw_iconst (v := nI 1) dX10_operates_219 (by decide) ?_
                          refine pw_isub dX10_operates_220 ?_
                          refine pw_ti (z := nI fr.length) h3.top.1 ?_
                          refine pw_putI fX10_282 dX10_operates_221 (Or.inl rfl) (by decide) (sh_lt hG (by decide)) (sh_tg hG 45 rfl) rfl ?_
                          exact pw_vret dX10_operates_224 rfl (k1 (ckO_0 (by omega) (by omega) (fun q => h137 q.1)) _ _ (h3.pop))
                        · refine pw_lconst (v := 1) dX10_operates_170 (by decide) ?_
                          refine pw_goto (tgt := 195) dX10_operates_171 (by decide) ?_
                          refine pw_tj (z := opV x lf.2 rt.2) (by rw [h150]; show (1 : Int64) = (if lf.2 = rt.2 then 1 else 0); rw [if_pos h167]) ?_
                          refine pw_lstore (lv' := [(6, _), (5, _), (4, _), (3, _), (2, _), (0, _), (1, _)]) dX10_operates_195 (by decide) rfl ?_
                          refine pw_aload_n dX10_operates_197 rfl ?_
                          refine pw_dup dX10_operates_198 rfl ?_
                          refine pw_getI fX10_279 dX10_operates_199 (sh_lt hG (by decide)) (sh_tg hG 45 rfl) rfl ?_
                          refine pw_iconst (v := nI 2) dX10_operates_202 (by decide) ?_
                          refine pw_isub dX10_operates_203 ?_
                          refine pw_ti (z := nI hv.length) hla.1 ?_
                          refine pw_putI fX10_279 dX10_operates_204 (Or.inl rfl) (by decide) (sh_lt hG (by decide)) (sh_tg hG 45 rfl) rfl ?_
                          refine pw_aload_n dX10_operates_207 rfl ?_
                          refine pw_iconst (v := nI 1) dX10_operates_208 (by decide) ?_
                          refine pw_lload dX10_operates_209 rfl ?_
                          refine pw_callV (as := [_, _]) (kc' := 0) (ks' := 0) lX10_295 dX10_operates_211 rfl rfl (sh_lt hG (by decide)) (sh_tg hG 45 rfl) (Nat.le_of_ble_eq_true rfl) (by omega) (Nat.le_of_ble_eq_true rfl) (Nat.zero_le _) (Nat.zero_le _) ?_
                          refine r_put hG hP (h.vpop) (v := (1, opV x lf.2 rt.2)) (by omega) (fun I3 J3 h3 => ?_)
                          refine pw_aload_n dX10_operates_214 rfl ?_
                          refine pw_dup dX10_operates_215 rfl ?_
                          refine pw_getI fX10_282 dX10_operates_216 (sh_lt hG (by decide)) (sh_tg hG 45 rfl) rfl ?_
                          refine pw_iconst (v := nI 1) dX10_operates_219 (by decide) ?_
                          refine pw_isub dX10_operates_220 ?_
                          refine pw_ti (z := nI fr.length) h3.top.1 ?_
                          refine pw_putI fX10_282 dX10_operates_221 (Or.inl rfl) (by decide) (sh_lt hG (by decide)) (sh_tg hG 45 rfl) rfl ?_
                          exact pw_vret dX10_operates_224 rfl (k1 (ckO_0 (by omega) (by omega) (fun q => h137 q.1)) _ _ (h3.pop))
                    · refine pw_aload_n dX10_operates_140 rfl ?_
                      refine pw_iconst (v := nI 4) dX10_operates_141 (by decide) ?_
                      refine pw_iload_n dX10_operates_142 rfl ?_
                      refine pw_callV (as := [_, _]) (kc' := 0) (ks' := 0) lX10_299 dX10_operates_143 rfl rfl (sh_lt hG (by decide)) (sh_tg hG 45 rfl) (Nat.le_of_ble_eq_true rfl) (by omega) (Nat.le_of_ble_eq_true rfl) (Nat.zero_le _) (Nat.zero_le _) ?_
                      refine r_fail hG hP h (e := 4) hNb ht (fun I3 h3 => ?_)
                      exact pw_vret dX10_operates_146 rfl (k0 (by rw [ckO_4 (by omega) (by omega) ⟨h137, by omega⟩]; decide) _ (by rw [ckO_4 (by omega) (by omega) ⟨h137, by omega⟩]; exact h3))
              · refine pw_aload_n dX10_operates_109 rfl ?_
                refine pw_iconst (v := nI 3) dX10_operates_110 (by decide) ?_
                refine pw_iload_n dX10_operates_111 rfl ?_
                refine pw_callV (as := [_, _]) (kc' := 0) (ks' := 0) lX10_299 dX10_operates_112 rfl rfl (sh_lt hG (by decide)) (sh_tg hG 45 rfl) (Nat.le_of_ble_eq_true rfl) (by omega) (Nat.le_of_ble_eq_true rfl) (Nat.zero_le _) (Nat.zero_le _) ?_
                refine r_fail hG hP h (e := 3) hNb ht (fun I3 h3 => ?_)
                exact pw_vret dX10_operates_115 rfl (k0 (by rw [ckO_3 (by omega) (by omega)]; decide) _ (by rw [ckO_3 (by omega) (by omega)]; exact h3))
          · refine pw_iload dX10_operates_83 rfl ?_
            refine pw_if_ne (tgt := 116) dX10_operates_85 (by decide) (fun h85 => ?_) (fun h => absurd h (by decide))
            refine pw_iload_n dX10_operates_116 rfl ?_
            refine pw_bipush (v := nI 47) dX10_operates_117 (by decide) ?_
            refine pw_icmpN_eq _ _ (tgt := 128) dX10_operates_119 (by decide) (rfl) (rfl) (by omega) (by omega) (fun h119 => ?_) (fun h119 => ?_)
            · refine pw_aload_n dX10_operates_128 rfl ?_
              refine pw_getR fX10_147 dX10_operates_129 (sh_lt hG (by decide)) (sh_tg hG 45 rfl) rfl (gr_at hP 85 rfl) ?_
              refine pw_iload dX10_operates_132 rfl ?_
              refine pw_laldN (hv.length + 1) dX10_operates_134 (sh_lt hG (by decide)) (sh_sh hG 91 rfl) (by decide) (rfl) (by omega) ?_
              refine pw_tj (z := rt.2) hla.2.2.2.1.2 ?_
              refine pw_lconst (v := 0) dX10_operates_135 (by decide) ?_
              refine pw_lif_ne (tgt := 147) dX10_operates_136 dX10_operates_137 (by decide) (fun h137 => ?_) (fun h137 => ?_)
              · refine pw_iload_n dX10_operates_147 rfl ?_
                refine pw_bipush (v := nI 61) dX10_operates_148 (by decide) ?_
                refine pw_icmpN_ne _ _ (tgt := 178) dX10_operates_150 (by decide) (rfl) (rfl) (by omega) (by omega) (fun h150 => ?_) (fun h150 => ?_)
                · refine pw_iload_n dX10_operates_178 rfl ?_
                  refine pw_aload_n dX10_operates_179 rfl ?_
                  refine pw_getR fX10_147 dX10_operates_180 (sh_lt hG (by decide)) (sh_tg hG 45 rfl) rfl (gr_at hP 85 rfl) ?_
                  refine pw_iload_n dX10_operates_183 rfl ?_
                  refine pw_laldN hv.length dX10_operates_184 (sh_lt hG (by decide)) (sh_sh hG 91 rfl) (by decide) (rfl) (by omega) ?_
                  refine pw_tj (z := lf.2) hla.2.1.2 ?_
                  refine pw_aload_n dX10_operates_185 rfl ?_
                  refine pw_getR fX10_147 dX10_operates_186 (sh_lt hG (by decide)) (sh_tg hG 45 rfl) rfl (gr_at hP 85 rfl) ?_
                  refine pw_iload dX10_operates_189 rfl ?_
                  refine pw_laldN (hv.length + 1) dX10_operates_191 (sh_lt hG (by decide)) (sh_sh hG 91 rfl) (by decide) (rfl) (by omega) ?_
                  refine pw_tj (z := rt.2) hla.2.2.2.1.2 ?_
                  refine pw_callS (as := [_, _, _]) (kc' := 0) (ks' := 0) lX10_323 dX10_operates_192 rfl rfl (Nat.le_of_ble_eq_true rfl) (by omega) (Nat.le_of_ble_eq_true rfl) (Nat.zero_le _) (Nat.zero_le _) ?_
                  refine rw_op hlv (by omega) (fun q => by first | exact h137 | (exfalso; omega)) ?_
                  refine pw_lstore (lv' := [(6, _), (5, _), (4, _), (3, _), (2, _), (0, _), (1, _)]) dX10_operates_195 (by decide) rfl ?_
                  refine pw_aload_n dX10_operates_197 rfl ?_
                  refine pw_dup dX10_operates_198 rfl ?_
                  refine pw_getI fX10_279 dX10_operates_199 (sh_lt hG (by decide)) (sh_tg hG 45 rfl) rfl ?_
                  refine pw_iconst (v := nI 2) dX10_operates_202 (by decide) ?_
                  refine pw_isub dX10_operates_203 ?_
                  refine pw_ti (z := nI hv.length) hla.1 ?_
                  refine pw_putI fX10_279 dX10_operates_204 (Or.inl rfl) (by decide) (sh_lt hG (by decide)) (sh_tg hG 45 rfl) rfl ?_
                  refine pw_aload_n dX10_operates_207 rfl ?_
                  refine pw_iconst (v := nI 1) dX10_operates_208 (by decide) ?_
                  refine pw_lload dX10_operates_209 rfl ?_
                  refine pw_callV (as := [_, _]) (kc' := 0) (ks' := 0) lX10_295 dX10_operates_211 rfl rfl (sh_lt hG (by decide)) (sh_tg hG 45 rfl) (Nat.le_of_ble_eq_true rfl) (by omega) (Nat.le_of_ble_eq_true rfl) (Nat.zero_le _) (Nat.zero_le _) ?_
                  refine r_put hG hP (h.vpop) (v := (1, opV x lf.2 rt.2)) (by omega) (fun I3 J3 h3 => ?_)
                  refine pw_aload_n dX10_operates_214 rfl ?_
                  refine pw_dup dX10_operates_215 rfl ?_
                  refine pw_getI fX10_282 dX10_operates_216 (sh_lt hG (by decide)) (sh_tg hG 45 rfl) rfl ?_
                  refine pw_iconst (v := nI 1) dX10_operates_219 (by decide) ?_
                  refine pw_isub dX10_operates_220 ?_
                  refine pw_ti (z := nI fr.length) h3.top.1 ?_
                  refine pw_putI fX10_282 dX10_operates_221 (Or.inl rfl) (by decide) (sh_lt hG (by decide)) (sh_tg hG 45 rfl) rfl ?_
                  exact pw_vret dX10_operates_224 rfl (k1 (ckO_0 (by omega) (by omega) (fun q => h137 q.1)) _ _ (h3.pop))
                · refine pw_aload_n dX10_operates_153 rfl ?_
                  refine pw_getR fX10_147 dX10_operates_154 (sh_lt hG (by decide)) (sh_tg hG 45 rfl) rfl (gr_at hP 85 rfl) ?_
                  refine pw_iload_n dX10_operates_157 rfl ?_
                  refine pw_laldN hv.length dX10_operates_158 (sh_lt hG (by decide)) (sh_sh hG 91 rfl) (by decide) (rfl) (by omega) ?_
                  refine pw_tj (z := lf.2) hla.2.1.2 ?_
                  refine pw_aload_n dX10_operates_159 rfl ?_
                  refine pw_getR fX10_147 dX10_operates_160 (sh_lt hG (by decide)) (sh_tg hG 45 rfl) rfl (gr_at hP 85 rfl) ?_
                  refine pw_iload dX10_operates_163 rfl ?_
                  refine pw_laldN (hv.length + 1) dX10_operates_165 (sh_lt hG (by decide)) (sh_sh hG 91 rfl) (by decide) (rfl) (by omega) ?_
                  refine pw_tj (z := rt.2) hla.2.2.2.1.2 ?_
                  refine pw_lif_ne (tgt := 174) dX10_operates_166 dX10_operates_167 (by decide) (fun h167 => ?_) (fun h167 => ?_)
                  · refine pw_lconst (v := 0) dX10_operates_174 (by decide) ?_
                    refine pw_goto (tgt := 195) dX10_operates_175 (by decide) ?_
                    refine pw_tj (z := opV x lf.2 rt.2) (by rw [h150]; show (0 : Int64) = (if lf.2 = rt.2 then 1 else 0); rw [if_neg h167]) ?_
                    refine pw_lstore (lv' := [(6, _), (5, _), (4, _), (3, _), (2, _), (0, _), (1, _)]) dX10_operates_195 (by decide) rfl ?_
                    refine pw_aload_n dX10_operates_197 rfl ?_
                    refine pw_dup dX10_operates_198 rfl ?_
                    refine pw_getI fX10_279 dX10_operates_199 (sh_lt hG (by decide)) (sh_tg hG 45 rfl) rfl ?_
                    refine pw_iconst (v := nI 2) dX10_operates_202 (by decide) ?_
                    refine pw_isub dX10_operates_203 ?_
                    refine pw_ti (z := nI hv.length) hla.1 ?_
                    refine pw_putI fX10_279 dX10_operates_204 (Or.inl rfl) (by decide) (sh_lt hG (by decide)) (sh_tg hG 45 rfl) rfl ?_
                    refine pw_aload_n dX10_operates_207 rfl ?_
                    refine pw_iconst (v := nI 1) dX10_operates_208 (by decide) ?_
                    refine pw_lload dX10_operates_209 rfl ?_
                    refine pw_callV (as := [_, _]) (kc' := 0) (ks' := 0) lX10_295 dX10_operates_211 rfl rfl (sh_lt hG (by decide)) (sh_tg hG 45 rfl) (Nat.le_of_ble_eq_true rfl) (by omega) (Nat.le_of_ble_eq_true rfl) (Nat.zero_le _) (Nat.zero_le _) ?_
                    refine r_put hG hP (h.vpop) (v := (1, opV x lf.2 rt.2)) (by omega) (fun I3 J3 h3 => ?_)
                    refine pw_aload_n dX10_operates_214 rfl ?_
                    refine pw_dup dX10_operates_215 rfl ?_
                    refine pw_getI fX10_282 dX10_operates_216 (sh_lt hG (by decide)) (sh_tg hG 45 rfl) rfl ?_
                    refine pw_iconst (v := nI 1) dX10_operates_219 (by decide) ?_
                    refine pw_isub dX10_operates_220 ?_
                    refine pw_ti (z := nI fr.length) h3.top.1 ?_
                    refine pw_putI fX10_282 dX10_operates_221 (Or.inl rfl) (by decide) (sh_lt hG (by decide)) (sh_tg hG 45 rfl) rfl ?_
                    exact pw_vret dX10_operates_224 rfl (k1 (ckO_0 (by omega) (by omega) (fun q => h137 q.1)) _ _ (h3.pop))
                  · refine pw_lconst (v := 1) dX10_operates_170 (by decide) ?_
                    refine pw_goto (tgt := 195) dX10_operates_171 (by decide) ?_
                    refine pw_tj (z := opV x lf.2 rt.2) (by rw [h150]; show (1 : Int64) = (if lf.2 = rt.2 then 1 else 0); rw [if_pos h167]) ?_
                    refine pw_lstore (lv' := [(6, _), (5, _), (4, _), (3, _), (2, _), (0, _), (1, _)]) dX10_operates_195 (by decide) rfl ?_
                    refine pw_aload_n dX10_operates_197 rfl ?_
                    refine pw_dup dX10_operates_198 rfl ?_
                    refine pw_getI fX10_279 dX10_operates_199 (sh_lt hG (by decide)) (sh_tg hG 45 rfl) rfl ?_
                    refine pw_iconst (v := nI 2) dX10_operates_202 (by decide) ?_
                    refine pw_isub dX10_operates_203 ?_
                    refine pw_ti (z := nI hv.length) hla.1 ?_
                    refine pw_putI fX10_279 dX10_operates_204 (Or.inl rfl) (by decide) (sh_lt hG (by decide)) (sh_tg hG 45 rfl) rfl ?_
                    refine pw_aload_n dX10_operates_207 rfl ?_
                    refine pw_iconst (v := nI 1) dX10_operates_208 (by decide) ?_
                    refine pw_lload dX10_operates_209 rfl ?_
                    refine pw_callV (as := [_, _]) (kc' := 0) (ks' := 0) lX10_295 dX10_operates_211 rfl rfl (sh_lt hG (by decide)) (sh_tg hG 45 rfl) (Nat.le_of_ble_eq_true rfl) (by omega) (Nat.le_of_ble_eq_true rfl) (Nat.zero_le _) (Nat.zero_le _) ?_
                    refine r_put hG hP (h.vpop) (v := (1, opV x lf.2 rt.2)) (by omega) (fun I3 J3 h3 => ?_)
                    refine pw_aload_n dX10_operates_214 rfl ?_
                    refine pw_dup dX10_operates_215 rfl ?_
                    refine pw_getI fX10_282 dX10_operates_216 (sh_lt hG (by decide)) (sh_tg hG 45 rfl) rfl ?_
                    refine pw_iconst (v := nI 1) dX10_operates_219 (by decide) ?_
                    refine pw_isub dX10_operates_220 ?_
                    refine pw_ti (z := nI fr.length) h3.top.1 ?_
                    refine pw_putI fX10_282 dX10_operates_221 (Or.inl rfl) (by decide) (sh_lt hG (by decide)) (sh_tg hG 45 rfl) rfl ?_
                    exact pw_vret dX10_operates_224 rfl (k1 (ckO_0 (by omega) (by omega) (fun q => h137 q.1)) _ _ (h3.pop))
              · refine pw_aload_n dX10_operates_140 rfl ?_
                refine pw_iconst (v := nI 4) dX10_operates_141 (by decide) ?_
                refine pw_iload_n dX10_operates_142 rfl ?_
                refine pw_callV (as := [_, _]) (kc' := 0) (ks' := 0) lX10_299 dX10_operates_143 rfl rfl (sh_lt hG (by decide)) (sh_tg hG 45 rfl) (Nat.le_of_ble_eq_true rfl) (by omega) (Nat.le_of_ble_eq_true rfl) (Nat.zero_le _) (Nat.zero_le _) ?_
                refine r_fail hG hP h (e := 4) hNb ht (fun I3 h3 => ?_)
                exact pw_vret dX10_operates_146 rfl (k0 (by rw [ckO_4 (by omega) (by omega) ⟨h137, by omega⟩]; decide) _ (by rw [ckO_4 (by omega) (by omega) ⟨h137, by omega⟩]; exact h3))
            · refine pw_iload_n dX10_operates_122 rfl ?_
              refine pw_bipush (v := nI 37) dX10_operates_123 (by decide) ?_
              refine pw_icmpN_ne _ _ (tgt := 147) dX10_operates_125 (by decide) (rfl) (rfl) (by omega) (by omega) (fun h125 => ?_) (fun h125 => ?_)
              · refine pw_iload_n dX10_operates_147 rfl ?_
                refine pw_bipush (v := nI 61) dX10_operates_148 (by decide) ?_
                refine pw_icmpN_ne _ _ (tgt := 178) dX10_operates_150 (by decide) (rfl) (rfl) (by omega) (by omega) (fun h150 => ?_) (fun h150 => ?_)
                · refine pw_iload_n dX10_operates_178 rfl ?_
                  refine pw_aload_n dX10_operates_179 rfl ?_
                  refine pw_getR fX10_147 dX10_operates_180 (sh_lt hG (by decide)) (sh_tg hG 45 rfl) rfl (gr_at hP 85 rfl) ?_
                  refine pw_iload_n dX10_operates_183 rfl ?_
                  refine pw_laldN hv.length dX10_operates_184 (sh_lt hG (by decide)) (sh_sh hG 91 rfl) (by decide) (rfl) (by omega) ?_
                  refine pw_tj (z := lf.2) hla.2.1.2 ?_
                  refine pw_aload_n dX10_operates_185 rfl ?_
                  refine pw_getR fX10_147 dX10_operates_186 (sh_lt hG (by decide)) (sh_tg hG 45 rfl) rfl (gr_at hP 85 rfl) ?_
                  refine pw_iload dX10_operates_189 rfl ?_
                  refine pw_laldN (hv.length + 1) dX10_operates_191 (sh_lt hG (by decide)) (sh_sh hG 91 rfl) (by decide) (rfl) (by omega) ?_
                  refine pw_tj (z := rt.2) hla.2.2.2.1.2 ?_
                  refine pw_callS (as := [_, _, _]) (kc' := 0) (ks' := 0) lX10_323 dX10_operates_192 rfl rfl (Nat.le_of_ble_eq_true rfl) (by omega) (Nat.le_of_ble_eq_true rfl) (Nat.zero_le _) (Nat.zero_le _) ?_
                  refine rw_op hlv (by omega) (fun q => by first | exact h137 | (exfalso; omega)) ?_
                  refine pw_lstore (lv' := [(6, _), (5, _), (4, _), (3, _), (2, _), (0, _), (1, _)]) dX10_operates_195 (by decide) rfl ?_
                  refine pw_aload_n dX10_operates_197 rfl ?_
                  refine pw_dup dX10_operates_198 rfl ?_
                  refine pw_getI fX10_279 dX10_operates_199 (sh_lt hG (by decide)) (sh_tg hG 45 rfl) rfl ?_
                  refine pw_iconst (v := nI 2) dX10_operates_202 (by decide) ?_
                  refine pw_isub dX10_operates_203 ?_
                  refine pw_ti (z := nI hv.length) hla.1 ?_
                  refine pw_putI fX10_279 dX10_operates_204 (Or.inl rfl) (by decide) (sh_lt hG (by decide)) (sh_tg hG 45 rfl) rfl ?_
                  refine pw_aload_n dX10_operates_207 rfl ?_
                  refine pw_iconst (v := nI 1) dX10_operates_208 (by decide) ?_
                  refine pw_lload dX10_operates_209 rfl ?_
                  refine pw_callV (as := [_, _]) (kc' := 0) (ks' := 0) lX10_295 dX10_operates_211 rfl rfl (sh_lt hG (by decide)) (sh_tg hG 45 rfl) (Nat.le_of_ble_eq_true rfl) (by omega) (Nat.le_of_ble_eq_true rfl) (Nat.zero_le _) (Nat.zero_le _) ?_
                  refine r_put hG hP (h.vpop) (v := (1, opV x lf.2 rt.2)) (by omega) (fun I3 J3 h3 => ?_)
                  refine pw_aload_n dX10_operates_214 rfl ?_
                  refine pw_dup dX10_operates_215 rfl ?_
                  refine pw_getI fX10_282 dX10_operates_216 (sh_lt hG (by decide)) (sh_tg hG 45 rfl) rfl ?_
                  refine pw_iconst (v := nI 1) dX10_operates_219 (by decide) ?_
                  refine pw_isub dX10_operates_220 ?_
                  refine pw_ti (z := nI fr.length) h3.top.1 ?_
                  refine pw_putI fX10_282 dX10_operates_221 (Or.inl rfl) (by decide) (sh_lt hG (by decide)) (sh_tg hG 45 rfl) rfl ?_
                  exact pw_vret dX10_operates_224 rfl (k1 (ckO_0 (by omega) (by omega) (fun q => by have := q.2; omega)) _ _ (h3.pop))
                · refine pw_aload_n dX10_operates_153 rfl ?_
                  refine pw_getR fX10_147 dX10_operates_154 (sh_lt hG (by decide)) (sh_tg hG 45 rfl) rfl (gr_at hP 85 rfl) ?_
                  refine pw_iload_n dX10_operates_157 rfl ?_
                  refine pw_laldN hv.length dX10_operates_158 (sh_lt hG (by decide)) (sh_sh hG 91 rfl) (by decide) (rfl) (by omega) ?_
                  refine pw_tj (z := lf.2) hla.2.1.2 ?_
                  refine pw_aload_n dX10_operates_159 rfl ?_
                  refine pw_getR fX10_147 dX10_operates_160 (sh_lt hG (by decide)) (sh_tg hG 45 rfl) rfl (gr_at hP 85 rfl) ?_
                  refine pw_iload dX10_operates_163 rfl ?_
                  refine pw_laldN (hv.length + 1) dX10_operates_165 (sh_lt hG (by decide)) (sh_sh hG 91 rfl) (by decide) (rfl) (by omega) ?_
                  refine pw_tj (z := rt.2) hla.2.2.2.1.2 ?_
                  refine pw_lif_ne (tgt := 174) dX10_operates_166 dX10_operates_167 (by decide) (fun h167 => ?_) (fun h167 => ?_)
                  · refine pw_lconst (v := 0) dX10_operates_174 (by decide) ?_
                    refine pw_goto (tgt := 195) dX10_operates_175 (by decide) ?_
                    refine pw_tj (z := opV x lf.2 rt.2) (by rw [h150]; show (0 : Int64) = (if lf.2 = rt.2 then 1 else 0); rw [if_neg h167]) ?_
                    refine pw_lstore (lv' := [(6, _), (5, _), (4, _), (3, _), (2, _), (0, _), (1, _)]) dX10_operates_195 (by decide) rfl ?_
                    refine pw_aload_n dX10_operates_197 rfl ?_
                    refine pw_dup dX10_operates_198 rfl ?_
                    refine pw_getI fX10_279 dX10_operates_199 (sh_lt hG (by decide)) (sh_tg hG 45 rfl) rfl ?_
                    refine pw_iconst (v := nI 2) dX10_operates_202 (by decide) ?_
                    refine pw_isub dX10_operates_203 ?_
                    refine pw_ti (z := nI hv.length) hla.1 ?_
                    refine pw_putI fX10_279 dX10_operates_204 (Or.inl rfl) (by decide) (sh_lt hG (by decide)) (sh_tg hG 45 rfl) rfl ?_
                    refine pw_aload_n dX10_operates_207 rfl ?_
                    refine pw_iconst (v := nI 1) dX10_operates_208 (by decide) ?_
                    refine pw_lload dX10_operates_209 rfl ?_
                    refine pw_callV (as := [_, _]) (kc' := 0) (ks' := 0) lX10_295 dX10_operates_211 rfl rfl (sh_lt hG (by decide)) (sh_tg hG 45 rfl) (Nat.le_of_ble_eq_true rfl) (by omega) (Nat.le_of_ble_eq_true rfl) (Nat.zero_le _) (Nat.zero_le _) ?_
                    refine r_put hG hP (h.vpop) (v := (1, opV x lf.2 rt.2)) (by omega) (fun I3 J3 h3 => ?_)
                    refine pw_aload_n dX10_operates_214 rfl ?_
                    refine pw_dup dX10_operates_215 rfl ?_
                    refine pw_getI fX10_282 dX10_operates_216 (sh_lt hG (by decide)) (sh_tg hG 45 rfl) rfl ?_
                    refine pw_iconst (v := nI 1) dX10_operates_219 (by decide) ?_
                    refine pw_isub dX10_operates_220 ?_
                    refine pw_ti (z := nI fr.length) h3.top.1 ?_
                    refine pw_putI fX10_282 dX10_operates_221 (Or.inl rfl) (by decide) (sh_lt hG (by decide)) (sh_tg hG 45 rfl) rfl ?_
                    exact pw_vret dX10_operates_224 rfl (k1 (ckO_0 (by omega) (by omega) (fun q => by have := q.2; omega)) _ _ (h3.pop))
                  · refine pw_lconst (v := 1) dX10_operates_170 (by decide) ?_
                    refine pw_goto (tgt := 195) dX10_operates_171 (by decide) ?_
                    refine pw_tj (z := opV x lf.2 rt.2) (by rw [h150]; show (1 : Int64) = (if lf.2 = rt.2 then 1 else 0); rw [if_pos h167]) ?_
                    refine pw_lstore (lv' := [(6, _), (5, _), (4, _), (3, _), (2, _), (0, _), (1, _)]) dX10_operates_195 (by decide) rfl ?_
                    refine pw_aload_n dX10_operates_197 rfl ?_
                    refine pw_dup dX10_operates_198 rfl ?_
                    refine pw_getI fX10_279 dX10_operates_199 (sh_lt hG (by decide)) (sh_tg hG 45 rfl) rfl ?_
                    refine pw_iconst (v := nI 2) dX10_operates_202 (by decide) ?_
                    refine pw_isub dX10_operates_203 ?_
                    refine pw_ti (z := nI hv.length) hla.1 ?_
                    refine pw_putI fX10_279 dX10_operates_204 (Or.inl rfl) (by decide) (sh_lt hG (by decide)) (sh_tg hG 45 rfl) rfl ?_
                    refine pw_aload_n dX10_operates_207 rfl ?_
                    refine pw_iconst (v := nI 1) dX10_operates_208 (by decide) ?_
                    refine pw_lload dX10_operates_209 rfl ?_
                    refine pw_callV (as := [_, _]) (kc' := 0) (ks' := 0) lX10_295 dX10_operates_211 rfl rfl (sh_lt hG (by decide)) (sh_tg hG 45 rfl) (Nat.le_of_ble_eq_true rfl) (by omega) (Nat.le_of_ble_eq_true rfl) (Nat.zero_le _) (Nat.zero_le _) ?_
                    refine r_put hG hP (h.vpop) (v := (1, opV x lf.2 rt.2)) (by omega) (fun I3 J3 h3 => ?_)
                    refine pw_aload_n dX10_operates_214 rfl ?_
                    refine pw_dup dX10_operates_215 rfl ?_
                    refine pw_getI fX10_282 dX10_operates_216 (sh_lt hG (by decide)) (sh_tg hG 45 rfl) rfl ?_
                    refine pw_iconst (v := nI 1) dX10_operates_219 (by decide) ?_
                    refine pw_isub dX10_operates_220 ?_
                    refine pw_ti (z := nI fr.length) h3.top.1 ?_
                    refine pw_putI fX10_282 dX10_operates_221 (Or.inl rfl) (by decide) (sh_lt hG (by decide)) (sh_tg hG 45 rfl) rfl ?_
                    exact pw_vret dX10_operates_224 rfl (k1 (ckO_0 (by omega) (by omega) (fun q => by have := q.2; omega)) _ _ (h3.pop))
              · refine pw_aload_n dX10_operates_128 rfl ?_
                refine pw_getR fX10_147 dX10_operates_129 (sh_lt hG (by decide)) (sh_tg hG 45 rfl) rfl (gr_at hP 85 rfl) ?_
                refine pw_iload dX10_operates_132 rfl ?_
                refine pw_laldN (hv.length + 1) dX10_operates_134 (sh_lt hG (by decide)) (sh_sh hG 91 rfl) (by decide) (rfl) (by omega) ?_
                refine pw_tj (z := rt.2) hla.2.2.2.1.2 ?_
                refine pw_lconst (v := 0) dX10_operates_135 (by decide) ?_
                refine pw_lif_ne (tgt := 147) dX10_operates_136 dX10_operates_137 (by decide) (fun h137 => ?_) (fun h137 => ?_)
                · refine pw_iload_n dX10_operates_147 rfl ?_
                  refine pw_bipush (v := nI 61) dX10_operates_148 (by decide) ?_
                  refine pw_icmpN_ne _ _ (tgt := 178) dX10_operates_150 (by decide) (rfl) (rfl) (by omega) (by omega) (fun h150 => ?_) (fun h150 => ?_)
                  · refine pw_iload_n dX10_operates_178 rfl ?_
                    refine pw_aload_n dX10_operates_179 rfl ?_
                    refine pw_getR fX10_147 dX10_operates_180 (sh_lt hG (by decide)) (sh_tg hG 45 rfl) rfl (gr_at hP 85 rfl) ?_
                    refine pw_iload_n dX10_operates_183 rfl ?_
                    refine pw_laldN hv.length dX10_operates_184 (sh_lt hG (by decide)) (sh_sh hG 91 rfl) (by decide) (rfl) (by omega) ?_
                    refine pw_tj (z := lf.2) hla.2.1.2 ?_
                    refine pw_aload_n dX10_operates_185 rfl ?_
                    refine pw_getR fX10_147 dX10_operates_186 (sh_lt hG (by decide)) (sh_tg hG 45 rfl) rfl (gr_at hP 85 rfl) ?_
                    refine pw_iload dX10_operates_189 rfl ?_
                    refine pw_laldN (hv.length + 1) dX10_operates_191 (sh_lt hG (by decide)) (sh_sh hG 91 rfl) (by decide) (rfl) (by omega) ?_
                    refine pw_tj (z := rt.2) hla.2.2.2.1.2 ?_
                    refine pw_callS (as := [_, _, _]) (kc' := 0) (ks' := 0) lX10_323 dX10_operates_192 rfl rfl (Nat.le_of_ble_eq_true rfl) (by omega) (Nat.le_of_ble_eq_true rfl) (Nat.zero_le _) (Nat.zero_le _) ?_
                    refine rw_op hlv (by omega) (fun q => by first | exact h137 | (exfalso; omega)) ?_
                    refine pw_lstore (lv' := [(6, _), (5, _), (4, _), (3, _), (2, _), (0, _), (1, _)]) dX10_operates_195 (by decide) rfl ?_
                    refine pw_aload_n dX10_operates_197 rfl ?_
                    refine pw_dup dX10_operates_198 rfl ?_
                    refine pw_getI fX10_279 dX10_operates_199 (sh_lt hG (by decide)) (sh_tg hG 45 rfl) rfl ?_
                    refine pw_iconst (v := nI 2) dX10_operates_202 (by decide) ?_
                    refine pw_isub dX10_operates_203 ?_
                    refine pw_ti (z := nI hv.length) hla.1 ?_
                    refine pw_putI fX10_279 dX10_operates_204 (Or.inl rfl) (by decide) (sh_lt hG (by decide)) (sh_tg hG 45 rfl) rfl ?_
                    refine pw_aload_n dX10_operates_207 rfl ?_
                    refine pw_iconst (v := nI 1) dX10_operates_208 (by decide) ?_
                    refine pw_lload dX10_operates_209 rfl ?_
                    refine pw_callV (as := [_, _]) (kc' := 0) (ks' := 0) lX10_295 dX10_operates_211 rfl rfl (sh_lt hG (by decide)) (sh_tg hG 45 rfl) (Nat.le_of_ble_eq_true rfl) (by omega) (Nat.le_of_ble_eq_true rfl) (Nat.zero_le _) (Nat.zero_le _) ?_
                    refine r_put hG hP (h.vpop) (v := (1, opV x lf.2 rt.2)) (by omega) (fun I3 J3 h3 => ?_)
                    refine pw_aload_n dX10_operates_214 rfl ?_
                    refine pw_dup dX10_operates_215 rfl ?_
                    refine pw_getI fX10_282 dX10_operates_216 (sh_lt hG (by decide)) (sh_tg hG 45 rfl) rfl ?_
                    refine pw_iconst (v := nI 1) dX10_operates_219 (by decide) ?_
                    refine pw_isub dX10_operates_220 ?_
                    refine pw_ti (z := nI fr.length) h3.top.1 ?_
                    refine pw_putI fX10_282 dX10_operates_221 (Or.inl rfl) (by decide) (sh_lt hG (by decide)) (sh_tg hG 45 rfl) rfl ?_
                    exact pw_vret dX10_operates_224 rfl (k1 (ckO_0 (by omega) (by omega) (fun q => h137 q.1)) _ _ (h3.pop))
                  · refine pw_aload_n dX10_operates_153 rfl ?_
                    refine pw_getR fX10_147 dX10_operates_154 (sh_lt hG (by decide)) (sh_tg hG 45 rfl) rfl (gr_at hP 85 rfl) ?_
                    refine pw_iload_n dX10_operates_157 rfl ?_
                    refine pw_laldN hv.length dX10_operates_158 (sh_lt hG (by decide)) (sh_sh hG 91 rfl) (by decide) (rfl) (by omega) ?_
                    refine pw_tj (z := lf.2) hla.2.1.2 ?_
                    refine pw_aload_n dX10_operates_159 rfl ?_
                    refine pw_getR fX10_147 dX10_operates_160 (sh_lt hG (by decide)) (sh_tg hG 45 rfl) rfl (gr_at hP 85 rfl) ?_
                    refine pw_iload dX10_operates_163 rfl ?_
                    refine pw_laldN (hv.length + 1) dX10_operates_165 (sh_lt hG (by decide)) (sh_sh hG 91 rfl) (by decide) (rfl) (by omega) ?_
                    refine pw_tj (z := rt.2) hla.2.2.2.1.2 ?_
                    refine pw_lif_ne (tgt := 174) dX10_operates_166 dX10_operates_167 (by decide) (fun h167 => ?_) (fun h167 => ?_)
                    · refine pw_lconst (v := 0) dX10_operates_174 (by decide) ?_
                      refine pw_goto (tgt := 195) dX10_operates_175 (by decide) ?_
                      refine pw_tj (z := opV x lf.2 rt.2) (by rw [h150]; show (0 : Int64) = (if lf.2 = rt.2 then 1 else 0); rw [if_neg h167]) ?_
                      refine pw_lstore (lv' := [(6, _), (5, _), (4, _), (3, _), (2, _), (0, _), (1, _)]) dX10_operates_195 (by decide) rfl ?_
                      refine pw_aload_n dX10_operates_197 rfl ?_
                      refine pw_dup dX10_operates_198 rfl ?_
                      refine pw_getI fX10_279 dX10_operates_199 (sh_lt hG (by decide)) (sh_tg hG 45 rfl) rfl ?_
                      refine pw_iconst (v := nI 2) dX10_operates_202 (by decide) ?_
                      refine pw_isub dX10_operates_203 ?_
                      refine pw_ti (z := nI hv.length) hla.1 ?_
                      refine pw_putI fX10_279 dX10_operates_204 (Or.inl rfl) (by decide) (sh_lt hG (by decide)) (sh_tg hG 45 rfl) rfl ?_
                      refine pw_aload_n dX10_operates_207 rfl ?_
                      refine pw_iconst (v := nI 1) dX10_operates_208 (by decide) ?_
                      refine pw_lload dX10_operates_209 rfl ?_
                      refine pw_callV (as := [_, _]) (kc' := 0) (ks' := 0) lX10_295 dX10_operates_211 rfl rfl (sh_lt hG (by decide)) (sh_tg hG 45 rfl) (Nat.le_of_ble_eq_true rfl) (by omega) (Nat.le_of_ble_eq_true rfl) (Nat.zero_le _) (Nat.zero_le _) ?_
                      refine r_put hG hP (h.vpop) (v := (1, opV x lf.2 rt.2)) (by omega) (fun I3 J3 h3 => ?_)
                      refine pw_aload_n dX10_operates_214 rfl ?_
                      refine pw_dup dX10_operates_215 rfl ?_
                      refine pw_getI fX10_282 dX10_operates_216 (sh_lt hG (by decide)) (sh_tg hG 45 rfl) rfl ?_
                      refine pw_iconst (v := nI 1) dX10_operates_219 (by decide) ?_
                      refine pw_isub dX10_operates_220 ?_
                      refine pw_ti (z := nI fr.length) h3.top.1 ?_
                      refine pw_putI fX10_282 dX10_operates_221 (Or.inl rfl) (by decide) (sh_lt hG (by decide)) (sh_tg hG 45 rfl) rfl ?_
                      exact pw_vret dX10_operates_224 rfl (k1 (ckO_0 (by omega) (by omega) (fun q => h137 q.1)) _ _ (h3.pop))
                    · refine pw_lconst (v := 1) dX10_operates_170 (by decide) ?_
                      refine pw_goto (tgt := 195) dX10_operates_171 (by decide) ?_
                      refine pw_tj (z := opV x lf.2 rt.2) (by rw [h150]; show (1 : Int64) = (if lf.2 = rt.2 then 1 else 0); rw [if_pos h167]) ?_
                      refine pw_lstore (lv' := [(6, _), (5, _), (4, _), (3, _), (2, _), (0, _), (1, _)]) dX10_operates_195 (by decide) rfl ?_
                      refine pw_aload_n dX10_operates_197 rfl ?_
                      refine pw_dup dX10_operates_198 rfl ?_
                      refine pw_getI fX10_279 dX10_operates_199 (sh_lt hG (by decide)) (sh_tg hG 45 rfl) rfl ?_
                      refine pw_iconst (v := nI 2) dX10_operates_202 (by decide) ?_
                      refine pw_isub dX10_operates_203 ?_
                      refine pw_ti (z := nI hv.length) hla.1 ?_
                      refine pw_putI fX10_279 dX10_operates_204 (Or.inl rfl) (by decide) (sh_lt hG (by decide)) (sh_tg hG 45 rfl) rfl ?_
                      refine pw_aload_n dX10_operates_207 rfl ?_
                      refine pw_iconst (v := nI 1) dX10_operates_208 (by decide) ?_
                      refine pw_lload dX10_operates_209 rfl ?_
                      refine pw_callV (as := [_, _]) (kc' := 0) (ks' := 0) lX10_295 dX10_operates_211 rfl rfl (sh_lt hG (by decide)) (sh_tg hG 45 rfl) (Nat.le_of_ble_eq_true rfl) (by omega) (Nat.le_of_ble_eq_true rfl) (Nat.zero_le _) (Nat.zero_le _) ?_
                      refine r_put hG hP (h.vpop) (v := (1, opV x lf.2 rt.2)) (by omega) (fun I3 J3 h3 => ?_)
                      refine pw_aload_n dX10_operates_214 rfl ?_
                      refine pw_dup dX10_operates_215 rfl ?_
                      refine pw_getI fX10_282 dX10_operates_216 (sh_lt hG (by decide)) (sh_tg hG 45 rfl) rfl ?_
                      refine pw_iconst (v := nI 1) dX10_operates_219 (by decide) ?_
                      refine pw_isub dX10_operates_220 ?_
                      refine pw_ti (z := nI fr.length) h3.top.1 ?_
                      refine pw_putI fX10_282 dX10_operates_221 (Or.inl rfl) (by decide) (sh_lt hG (by decide)) (sh_tg hG 45 rfl) rfl ?_
                      exact pw_vret dX10_operates_224 rfl (k1 (ckO_0 (by omega) (by omega) (fun q => h137 q.1)) _ _ (h3.pop))
                · refine pw_aload_n dX10_operates_140 rfl ?_
                  refine pw_iconst (v := nI 4) dX10_operates_141 (by decide) ?_
                  refine pw_iload_n dX10_operates_142 rfl ?_
                  refine pw_callV (as := [_, _]) (kc' := 0) (ks' := 0) lX10_299 dX10_operates_143 rfl rfl (sh_lt hG (by decide)) (sh_tg hG 45 rfl) (Nat.le_of_ble_eq_true rfl) (by omega) (Nat.le_of_ble_eq_true rfl) (Nat.zero_le _) (Nat.zero_le _) ?_
                  refine r_fail hG hP h (e := 4) hNb ht (fun I3 h3 => ?_)
                  exact pw_vret dX10_operates_146 rfl (k0 (by rw [ckO_4 (by omega) (by omega) ⟨h137, by omega⟩]; decide) _ (by rw [ckO_4 (by omega) (by omega) ⟨h137, by omega⟩]; exact h3))
    · refine pw_aload_n dX10_operates_42 rfl ?_
      refine pw_iconst (v := nI 2) dX10_operates_43 (by decide) ?_
      refine pw_iload_n dX10_operates_44 rfl ?_
      refine pw_callV (as := [_, _]) (kc' := 0) (ks' := 0) lX10_299 dX10_operates_45 rfl rfl (sh_lt hG (by decide)) (sh_tg hG 45 rfl) (Nat.le_of_ble_eq_true rfl) (by omega) (Nat.le_of_ble_eq_true rfl) (Nat.zero_le _) (Nat.zero_le _) ?_
      refine r_fail hG hP h (e := 2) hNb ht (fun I3 h3 => ?_)
      exact pw_vret dX10_operates_48 rfl (k0 (by rw [ckO_2 (by omega)]; decide) _ (by rw [ckO_2 (by omega)]; exact h3))
set_option maxRecDepth 20000 in
set_option maxHeartbeats 4000000 in
theorem g_op2 {l : Launch} {E : pmE} {d : Nat} {S : pmS} {I : pmI} {J : pmJ} {P : pmP} {Q : Option Value → pmS → pmI → pmJ → pmP → Prop} {I0 : pmI} {J0 : pmJ} {A : aS} {fr : List (Nat × Nat)} {hv : List vV} {cx : List (Nat × List vV)} {s : Nat} {t : List tH} {N : Nat} {lf rt : vV} {x : Nat} (hG : sh_St S) (hP : gr_St P) (h : rS I0 J0 A I J (fr ++ [(N, 2)]) (hv ++ [lf, rt]) cx s t) (hd : 3 ≤ d) (hNb : N < 2624) (ht : t.length ≤ 16000) (hk : I0 63 N = nI 6) (hx : J0 70 N = (nI x).toInt64) (hlv : lvl x ≤ 2) (hl2 : lf.1 ≤ 2) (hr2 : rt.1 ≤ 2) (k1 : ckO x lf rt = 0 → ∀ I' J', rS I0 J0 A I' J' fr (hv ++ [(1, opV x lf.2 rt.2)]) cx s t → Q none S I' J' P) (k0 : ckO x lf rt ≠ 0 → ∀ I', rX I0 J0 A I' J (ckO x lf rt) → Q none S I' J P) : pm_Met l E yX10_goesOn cX10_goesOn 4 none d 0 0 [.ref 47, .int (nI N)] S I J P Q := by
  unfold pm_Met
  have htp := h.top.2.2.2
  refine pm_lvs (lv' := [(0, _), (1, _)]) rfl ?_
  refine pw_aload_n dX10_goesOn_0 rfl ?_
  refine pw_getI fX10_282 dX10_goesOn_1 (sh_lt hG (by decide)) (sh_tg hG 45 rfl) rfl ?_
  refine pw_iconst (v := nI 1) dX10_goesOn_4 (by decide) ?_
  refine pw_isub dX10_goesOn_5 ?_
  refine pw_ti (z := nI fr.length) h.top.1 ?_
  refine pw_istore_n (lv' := [(2, _), (0, _), (1, _)]) dX10_goesOn_6 (by decide) rfl ?_
  refine pw_aload_n dX10_goesOn_7 rfl ?_
  refine pw_getI fX10_279 dX10_goesOn_8 (sh_lt hG (by decide)) (sh_tg hG 45 rfl) rfl ?_
  refine pw_iconst (v := nI 1) dX10_goesOn_11 (by decide) ?_
  refine pw_isub dX10_goesOn_12 ?_
  refine pw_istore_n (lv' := [(3, _), (2, _), (0, _), (1, _)]) dX10_goesOn_13 (by decide) rfl ?_
  refine pw_aload_n dX10_goesOn_14 rfl ?_
  refine pw_getR fX10_56 dX10_goesOn_15 (sh_lt hG (by decide)) (sh_tg hG 45 rfl) rfl (gr_at hP 55 rfl) ?_
  refine pw_iload_n dX10_goesOn_18 rfl ?_
  refine pw_ialdN N dX10_goesOn_19 (sh_lt hG (by decide)) (sh_sh hG 61 rfl) (by decide) (rfl) (by omega) ?_
  refine pw_ti (z := nI 6) (h.nod hk (by decide) (by decide)) ?_
  refine pw_tableIn (off := 48) (tgt := 68) dX10_goesOn_20 (by decide) (by decide) (by decide) (by decide) ?_
  refine pw_aload_n dX10_goesOn_68 rfl ?_
  refine pw_getR fX10_141 dX10_goesOn_69 (sh_lt hG (by decide)) (sh_tg hG 45 rfl) rfl (gr_at hP 83 rfl) ?_
  refine pw_iload_n dX10_goesOn_72 rfl ?_
  refine pw_ialdN fr.length dX10_goesOn_73 (sh_lt hG (by decide)) (sh_sh hG 89 rfl) (by decide) (rfl) (by omega) ?_
  refine pw_ti (z := nI 2) h.top.2.2.1 ?_
  refine pw_iconst (v := nI 1) dX10_goesOn_74 (by decide) ?_
  refine pw_icmp_ne (tgt := 98) dX10_goesOn_75 (by decide) (fun h75 => ?_) (fun h => absurd h (by decide))
  refine pw_aload_n dX10_goesOn_98 rfl ?_
  refine pw_iload_n dX10_goesOn_99 rfl ?_
  refine pw_callV (as := [_]) (kc' := 0) (ks' := 0) lX10_333 dX10_goesOn_100 rfl rfl (sh_lt hG (by decide)) (sh_tg hG 45 rfl) (Nat.le_of_ble_eq_true rfl) (by omega) (Nat.le_of_ble_eq_true rfl) (Nat.zero_le _) (Nat.zero_le _) ?_
  refine r_oper hG hP h (by omega) hNb ht hx hlv hl2 hr2 (fun hw I3 J3 h3 => ?_) (fun hw I3 h3 => ?_)
  · refine pw_goto (tgt := 255) dX10_goesOn_103 (by decide) ?_
    exact pw_vret dX10_goesOn_255 rfl (k1 hw _ _ h3)
  · refine pw_goto (tgt := 255) dX10_goesOn_103 (by decide) ?_
    exact pw_vret dX10_goesOn_255 rfl (k0 hw _ h3)
set_option maxRecDepth 20000 in
set_option maxHeartbeats 4000000 in
theorem r_dots {l : Launch} {E : pmE} {d : Nat} {S : pmS} {I : pmI} {J : pmJ} {P : pmP} {Q : Option Value → pmS → pmI → pmJ → pmP → Prop} {I0 : pmI} {J0 : pmJ} {A : aS} {fr : List (Nat × Nat)} {hv : List vV} {cx : List (Nat × List vV)} {s : Nat} {t : List tH} {N : Nat} {v : vV} (hG : sh_St S) (hP : gr_St P) (h : rS I0 J0 A I J (fr ++ [(N, 1)]) (hv ++ [v]) cx s t) (hd : 1 ≤ d) (hA : rA I0 J0 A) (hO : aO A) (hNb : N < 2624) (ht : t.length ≤ 16000) (hT : tO A t) (hvo : vO t.length v) {w9 : Int64} (hw9 : w9 ∈ A.ns) (hv70 : J0 70 N = hN A.ns w9) (k1 : ckF A t v w9 = 0 → ∀ I' J', rS I0 J0 A I' J' fr (hv ++ [fdV A t v w9]) cx s t → Q none S I' J' P) (k0 : ckF A t v w9 ≠ 0 → ∀ I', rX I0 J0 A I' J (ckF A t v w9) → Q none S I' J P) : pm_Met l E yX10_dots cX10_dots 5 none d 0 0 [.ref 47, .int (nI N)] S I J P Q := by
  unfold pm_Met
  have htp := h.top.2.2.2
  have hla := h.last
  have hA2 := h.a hA
  have hv2 := hvo.1
  have hn4 := hO.1.2
  have hk4 := hO.k
  refine pm_lvs (lv' := [(0, _), (1, _)]) rfl ?_
  by_cases h2 : v.1 = 2
  · obtain ⟨j, hjl, hje, hj⟩ := thO_at hT h2 hvo (by omega)
    rcases hth : thO t v with ⟨s', us⟩
    rw [hth] at hj
    obtain ⟨q1, q2, q3, q4⟩ := hT j s' us hj
    have hsn := hO.2.2.2.2.1 s' q1
    have hp3 := hsn.2.1
    have hj3 := h.tt.2 j s' us hj
    have ek : ckF A t v w9 = if A.fm (A.at s').dec = 3 ∧ A.dc (A.at s').dec = some s' then (if ps_arg (A.at s').pa w9 0 = none then 6 else 0) else 7 := by unfold ckF; rw [if_pos h2, hth]
    have ekF : ¬ (A.fm (A.at s').dec = 3 ∧ A.dc (A.at s').dec = some s') → ckF A t v w9 = 7 := fun q => by rw [ek, if_neg q]
    have ef : ∀ i u, us[i]? = some u → ps_arg (A.at s').pa w9 0 = some i → fdV A t v w9 = u := fun i u hu hp => by
      unfold fdV
      rw [hth]
      show us.getD ((ps_arg (A.at s').pa w9 0).getD 0) (0, 0) = u
      rw [hp, Option.getD_some, List.getD_eq_getElem?_getD, hu]; rfl
    refine pw_aload_n dX10_dots_0 rfl ?_
    refine pw_getI fX10_279 dX10_dots_1 (sh_lt hG (by decide)) (sh_tg hG 45 rfl) rfl ?_
    refine pw_iconst (v := nI 1) dX10_dots_4 (by decide) ?_
    refine pw_isub dX10_dots_5 ?_
    refine pw_ti (z := nI hv.length) hla.1 ?_
    refine pw_istore_n (lv' := [(2, _), (0, _), (1, _)]) dX10_dots_6 (by decide) rfl ?_
    refine pw_aload_n dX10_dots_7 rfl ?_
    refine pw_getR fX10_144 dX10_dots_8 (sh_lt hG (by decide)) (sh_tg hG 45 rfl) rfl (gr_at hP 84 rfl) ?_
    refine pw_iload_n dX10_dots_11 rfl ?_
    refine pw_ialdN hv.length dX10_dots_12 (sh_lt hG (by decide)) (sh_sh hG 90 rfl) (by decide) (rfl) (by omega) ?_
    refine pw_ti (z := nI v.1) hla.2.1 ?_
    refine pw_iconst (v := nI 2) dX10_dots_13 (by decide) ?_
    refine pw_icmpN_eq _ _ (tgt := 37) dX10_dots_14 (by decide) (rfl) (rfl) (by omega) (by omega) (fun h14 => ?_) (fun h14 => absurd h14 (by omega))
    refine pw_aload_n dX10_dots_37 rfl ?_
    refine pw_getR fX10_147 dX10_dots_38 (sh_lt hG (by decide)) (sh_tg hG 45 rfl) rfl (gr_at hP 85 rfl) ?_
    refine pw_iload_n dX10_dots_41 rfl ?_
    refine pw_laldN hv.length dX10_dots_42 (sh_lt hG (by decide)) (sh_sh hG 91 rfl) (by decide) (rfl) (by omega) ?_
    refine pw_tj (z := v.2) hla.2.2.1 ?_
    refine pw_l2i dX10_dots_43 ?_
    refine pw_ti (z := nI j) (by rw [hje]; exact lN_i j) ?_
    refine pw_istore_n (lv' := [(3, _), (2, _), (0, _), (1, _)]) dX10_dots_44 (by decide) rfl ?_
    refine pw_aload_n dX10_dots_45 rfl ?_
    refine pw_aload_n dX10_dots_46 rfl ?_
    refine pw_getR fX10_86 dX10_dots_47 (sh_lt hG (by decide)) (sh_tg hG 45 rfl) rfl (gr_at hP 65 rfl) ?_
    refine pw_iload_n dX10_dots_50 rfl ?_
    refine pw_ialdN j dX10_dots_51 (sh_lt hG (by decide)) (sh_sh hG 71 rfl) (by decide) (rfl) (by omega) ?_
    refine pw_ti (z := nI s') hj3.1 ?_
    refine pw_aload_n dX10_dots_52 rfl ?_
    refine pw_getR fX10_77 dX10_dots_53 (sh_lt hG (by decide)) (sh_tg hG 45 rfl) rfl (gr_at hP 62 rfl) ?_
    refine pw_iload_n dX10_dots_56 rfl ?_
    refine pw_laldN N dX10_dots_57 (sh_lt hG (by decide)) (sh_sh hG 68 rfl) (by decide) (rfl) (by omega) ?_
    refine pw_tj (z := hN A.ns w9) (h.nov hv70) ?_
    refine pw_l2i dX10_dots_58 ?_
    refine pw_ti (z := nI (A.ns.idxOf w9)) (lN_i _) ?_
    refine pw_callV (as := [_, _]) (kc' := 0) (ks' := 0) lX10_291 dX10_dots_59 rfl rfl (sh_lt hG (by decide)) (sh_tg hG 45 rfl) (Nat.le_of_ble_eq_true rfl) (by omega) (Nat.le_of_ble_eq_true rfl) (Nat.zero_le _) (Nat.zero_le _) ?_
    refine r_arg hG hP hA2 hO q1 hw9 (fun i9 hp => ?_) (fun hp => ?_)
    · have hil := (ps_arg_lt hp).2.1
      obtain ⟨u, hu⟩ : ∃ u, us[i9]? = some u := ⟨_, List.getElem?_eq_getElem (by omega)⟩
      have hfv := hj3.2 i9 u hu
      refine pw_istore (lv' := [(4, _), (3, _), (2, _), (0, _), (1, _)]) dX10_dots_62 (by decide) rfl ?_
      refine pw_aload_n dX10_dots_64 rfl ?_
      refine pw_iload_n dX10_dots_65 rfl ?_
      refine pw_callV (as := [_]) (kc' := 0) (ks' := 0) lX10_320 dX10_dots_66 rfl rfl (sh_lt hG (by decide)) (sh_tg hG 45 rfl) (Nat.le_of_ble_eq_true rfl) (by omega) (Nat.le_of_ble_eq_true rfl) (Nat.zero_le _) (Nat.zero_le _) ?_
      refine r_old hG hP hA2 hO h.tt ht hj q1 q2 (fun hf hd' => ?_) (fun ho => ?_)
      · refine pw_if_ne (tgt := 77) dX10_dots_69 (by decide) (fun h => absurd (by decide) h) (fun h69 => ?_)
        refine pw_iload dX10_dots_72 rfl ?_
        refine pw_if_ge (tgt := 98) dX10_dots_74 (by decide) (fun h74 => ?_) (fun h => absurd (nI_pos' (by omega)) h)
        refine pw_aload_n dX10_dots_98 rfl ?_
        refine pw_getR fX10_144 dX10_dots_99 (sh_lt hG (by decide)) (sh_tg hG 45 rfl) rfl (gr_at hP 84 rfl) ?_
        refine pw_iload_n dX10_dots_102 rfl ?_
        refine pw_aload_n dX10_dots_103 rfl ?_
        refine pw_getR fX10_90 dX10_dots_104 (sh_lt hG (by decide)) (sh_tg hG 45 rfl) rfl (gr_at hP 66 rfl) ?_
        refine pw_iconst (v := nI 3) dX10_dots_107 (by decide) ?_
        refine pw_iload_n dX10_dots_108 rfl ?_
        refine pw_imul dX10_dots_109 ?_
        refine pw_iload dX10_dots_110 rfl ?_
        refine pw_iadd dX10_dots_112 ?_
        refine pw_ti (z := nI (3 * j + i9)) (by rw [show nI 3 * nI j = nI (3 * j) from (Int32.ofNat_mul 3 _).symm, nI_add]) ?_
        refine pw_ialdN (3 * j + i9) dX10_dots_113 (sh_lt hG (by decide)) (sh_sh hG 72 rfl) (by decide) (rfl) (by omega) ?_
        refine pw_ti (z := nI u.1) hfv.1 ?_
        refine pw_iastN hv.length dX10_dots_114 (by decide) (sh_lt hG (by decide)) (sh_sh hG 90 rfl) (by decide) (rfl) (by omega) ?_
        refine pw_aload_n dX10_dots_115 rfl ?_
        refine pw_getR fX10_147 dX10_dots_116 (sh_lt hG (by decide)) (sh_tg hG 45 rfl) rfl (gr_at hP 85 rfl) ?_
        refine pw_iload_n dX10_dots_119 rfl ?_
        refine pw_aload_n dX10_dots_120 rfl ?_
        refine pw_getR fX10_93 dX10_dots_121 (sh_lt hG (by decide)) (sh_tg hG 45 rfl) rfl (gr_at hP 67 rfl) ?_
        refine pw_iconst (v := nI 3) dX10_dots_124 (by decide) ?_
        refine pw_iload_n dX10_dots_125 rfl ?_
        refine pw_imul dX10_dots_126 ?_
        refine pw_iload dX10_dots_127 rfl ?_
        refine pw_iadd dX10_dots_129 ?_
        refine pw_ti (z := nI (3 * j + i9)) (by rw [show nI 3 * nI j = nI (3 * j) from (Int32.ofNat_mul 3 _).symm, nI_add]) ?_
        refine pw_laldN (3 * j + i9) dX10_dots_130 (sh_lt hG (by decide)) (sh_sh hG 73 rfl) (by decide) (rfl) (by omega) ?_
        refine pw_tj (z := u.2) (by first | exact hfv.2 | (rw [show (pm_u I 92 _ _ : pmI) = _ from rfl]; exact hfv.2)) ?_
        refine pw_lastN hv.length dX10_dots_131 (by decide) (sh_lt hG (by decide)) (sh_sh hG 91 rfl) (by decide) (rfl) (by omega) ?_
        refine pw_aload_n dX10_dots_132 rfl ?_
        refine pw_dup dX10_dots_133 rfl ?_
        refine pw_getI fX10_282 dX10_dots_134 (sh_lt hG (by decide)) (sh_tg hG 45 rfl) rfl ?_
        refine pw_iconst (v := nI 1) dX10_dots_137 (by decide) ?_
        refine pw_isub dX10_dots_138 ?_
        refine pw_ti (z := nI fr.length) (h.setV (u := u)).top.1 ?_
        refine pw_putI fX10_282 dX10_dots_139 (Or.inl rfl) (by decide) (sh_lt hG (by decide)) (sh_tg hG 45 rfl) rfl ?_
        exact pw_vret dX10_dots_142 rfl (k1 (by rw [ek, if_pos ⟨hf, hd'⟩, hp]; rfl) _ _ (by rw [ef i9 u hu hp]; exact (h.setV (u := u)).pop))
      · have hO9 := ho
        refine pw_if_ne (tgt := 77) dX10_dots_69 (by decide) (fun h69 => ?_) (fun h => absurd h (by decide))
        refine pw_aload_n dX10_dots_77 rfl ?_
        refine pw_aload_n dX10_dots_78 rfl ?_
        refine pw_iload_n dX10_dots_79 rfl ?_
        refine pw_callV (as := [_]) (kc' := 0) (ks' := 0) lX10_320 dX10_dots_80 rfl rfl (sh_lt hG (by decide)) (sh_tg hG 45 rfl) (Nat.le_of_ble_eq_true rfl) (by omega) (Nat.le_of_ble_eq_true rfl) (Nat.zero_le _) (Nat.zero_le _) ?_
        refine r_old hG hP hA2 hO h.tt ht hj q1 q2 (fun hf hd' => ?_) (fun ho => ?_)
        · refine pw_if_eq (tgt := 91) dX10_dots_83 (by decide) (fun h83 => ?_) (fun h => absurd (by decide) h)
          refine pw_bipush (v := nI 6) dX10_dots_91 (by decide) ?_
          refine pw_iload_n dX10_dots_93 rfl ?_
          refine pw_callV (as := [_, _]) (kc' := 0) (ks' := 0) lX10_299 dX10_dots_94 rfl rfl (sh_lt hG (by decide)) (sh_tg hG 45 rfl) (Nat.le_of_ble_eq_true rfl) (by omega) (Nat.le_of_ble_eq_true rfl) (Nat.zero_le _) (Nat.zero_le _) ?_
          refine r_fail hG hP h (e := 6) hNb ht (fun I3 h3 => ?_)
          exact pw_vret dX10_dots_97 rfl (absurd (⟨hf, hd'⟩ : _ ∧ _) hO9)
        · refine pw_if_eq (tgt := 91) dX10_dots_83 (by decide) (fun h => absurd h (by decide)) (fun h83 => ?_)
          refine pw_bipush (v := nI 7) dX10_dots_86 (by decide) ?_
          refine pw_goto (tgt := 93) dX10_dots_88 (by decide) ?_
          refine pw_iload_n dX10_dots_93 rfl ?_
          refine pw_callV (as := [_, _]) (kc' := 0) (ks' := 0) lX10_299 dX10_dots_94 rfl rfl (sh_lt hG (by decide)) (sh_tg hG 45 rfl) (Nat.le_of_ble_eq_true rfl) (by omega) (Nat.le_of_ble_eq_true rfl) (Nat.zero_le _) (Nat.zero_le _) ?_
          refine r_fail hG hP h (e := 7) hNb ht (fun I3 h3 => ?_)
          exact pw_vret dX10_dots_97 rfl (k0 (by rw [ekF hO9]; decide) _ (by rw [ekF hO9]; exact h3))
    · refine pw_istore (lv' := [(4, _), (3, _), (2, _), (0, _), (1, _)]) dX10_dots_62 (by decide) rfl ?_
      refine pw_aload_n dX10_dots_64 rfl ?_
      refine pw_iload_n dX10_dots_65 rfl ?_
      refine pw_callV (as := [_]) (kc' := 0) (ks' := 0) lX10_320 dX10_dots_66 rfl rfl (sh_lt hG (by decide)) (sh_tg hG 45 rfl) (Nat.le_of_ble_eq_true rfl) (by omega) (Nat.le_of_ble_eq_true rfl) (Nat.zero_le _) (Nat.zero_le _) ?_
      refine r_old hG hP hA2 hO h.tt ht hj q1 q2 (fun hf hd' => ?_) (fun ho => ?_)
      · have hO9 : A.fm (A.at s').dec = 3 ∧ A.dc (A.at s').dec = some s' := ⟨hf, hd'⟩
        refine pw_if_ne (tgt := 77) dX10_dots_69 (by decide) (fun h => absurd (by decide) h) (fun h69 => ?_)
        refine pw_iload dX10_dots_72 rfl ?_
        refine pw_if_ge (tgt := 98) dX10_dots_74 (by decide) (fun h => absurd h (by decide)) (fun h74 => ?_)
        refine pw_aload_n dX10_dots_77 rfl ?_
        refine pw_aload_n dX10_dots_78 rfl ?_
        refine pw_iload_n dX10_dots_79 rfl ?_
        refine pw_callV (as := [_]) (kc' := 0) (ks' := 0) lX10_320 dX10_dots_80 rfl rfl (sh_lt hG (by decide)) (sh_tg hG 45 rfl) (Nat.le_of_ble_eq_true rfl) (by omega) (Nat.le_of_ble_eq_true rfl) (Nat.zero_le _) (Nat.zero_le _) ?_
        refine r_old hG hP hA2 hO h.tt ht hj q1 q2 (fun hf hd' => ?_) (fun ho => ?_)
        · refine pw_if_eq (tgt := 91) dX10_dots_83 (by decide) (fun h83 => ?_) (fun h => absurd (by decide) h)
          refine pw_bipush (v := nI 6) dX10_dots_91 (by decide) ?_
          refine pw_iload_n dX10_dots_93 rfl ?_
          refine pw_callV (as := [_, _]) (kc' := 0) (ks' := 0) lX10_299 dX10_dots_94 rfl rfl (sh_lt hG (by decide)) (sh_tg hG 45 rfl) (Nat.le_of_ble_eq_true rfl) (by omega) (Nat.le_of_ble_eq_true rfl) (Nat.zero_le _) (Nat.zero_le _) ?_
          refine r_fail hG hP h (e := 6) hNb ht (fun I3 h3 => ?_)
          exact pw_vret dX10_dots_97 rfl (k0 (by rw [ek, if_pos hO9, if_pos hp]; decide) _ (by rw [ek, if_pos hO9, if_pos hp]; exact h3))
        · refine pw_if_eq (tgt := 91) dX10_dots_83 (by decide) (fun h => absurd h (by decide)) (fun h83 => ?_)
          refine pw_bipush (v := nI 7) dX10_dots_86 (by decide) ?_
          refine pw_goto (tgt := 93) dX10_dots_88 (by decide) ?_
          refine pw_iload_n dX10_dots_93 rfl ?_
          refine pw_callV (as := [_, _]) (kc' := 0) (ks' := 0) lX10_299 dX10_dots_94 rfl rfl (sh_lt hG (by decide)) (sh_tg hG 45 rfl) (Nat.le_of_ble_eq_true rfl) (by omega) (Nat.le_of_ble_eq_true rfl) (Nat.zero_le _) (Nat.zero_le _) ?_
          refine r_fail hG hP h (e := 7) hNb ht (fun I3 h3 => ?_)
          exact pw_vret dX10_dots_97 rfl (absurd hO9 ho)
      · have hO9 := ho
        refine pw_if_ne (tgt := 77) dX10_dots_69 (by decide) (fun h69 => ?_) (fun h => absurd h (by decide))
        refine pw_aload_n dX10_dots_77 rfl ?_
        refine pw_aload_n dX10_dots_78 rfl ?_
        refine pw_iload_n dX10_dots_79 rfl ?_
        refine pw_callV (as := [_]) (kc' := 0) (ks' := 0) lX10_320 dX10_dots_80 rfl rfl (sh_lt hG (by decide)) (sh_tg hG 45 rfl) (Nat.le_of_ble_eq_true rfl) (by omega) (Nat.le_of_ble_eq_true rfl) (Nat.zero_le _) (Nat.zero_le _) ?_
        refine r_old hG hP hA2 hO h.tt ht hj q1 q2 (fun hf hd' => ?_) (fun ho => ?_)
        · refine pw_if_eq (tgt := 91) dX10_dots_83 (by decide) (fun h83 => ?_) (fun h => absurd (by decide) h)
          refine pw_bipush (v := nI 6) dX10_dots_91 (by decide) ?_
          refine pw_iload_n dX10_dots_93 rfl ?_
          refine pw_callV (as := [_, _]) (kc' := 0) (ks' := 0) lX10_299 dX10_dots_94 rfl rfl (sh_lt hG (by decide)) (sh_tg hG 45 rfl) (Nat.le_of_ble_eq_true rfl) (by omega) (Nat.le_of_ble_eq_true rfl) (Nat.zero_le _) (Nat.zero_le _) ?_
          refine r_fail hG hP h (e := 6) hNb ht (fun I3 h3 => ?_)
          exact pw_vret dX10_dots_97 rfl (absurd (⟨hf, hd'⟩ : _ ∧ _) hO9)
        · refine pw_if_eq (tgt := 91) dX10_dots_83 (by decide) (fun h => absurd h (by decide)) (fun h83 => ?_)
          refine pw_bipush (v := nI 7) dX10_dots_86 (by decide) ?_
          refine pw_goto (tgt := 93) dX10_dots_88 (by decide) ?_
          refine pw_iload_n dX10_dots_93 rfl ?_
          refine pw_callV (as := [_, _]) (kc' := 0) (ks' := 0) lX10_299 dX10_dots_94 rfl rfl (sh_lt hG (by decide)) (sh_tg hG 45 rfl) (Nat.le_of_ble_eq_true rfl) (by omega) (Nat.le_of_ble_eq_true rfl) (Nat.zero_le _) (Nat.zero_le _) ?_
          refine r_fail hG hP h (e := 7) hNb ht (fun I3 h3 => ?_)
          exact pw_vret dX10_dots_97 rfl (k0 (by rw [ekF hO9]; decide) _ (by rw [ekF hO9]; exact h3))
  · refine pw_aload_n dX10_dots_0 rfl ?_
    refine pw_getI fX10_279 dX10_dots_1 (sh_lt hG (by decide)) (sh_tg hG 45 rfl) rfl ?_
    refine pw_iconst (v := nI 1) dX10_dots_4 (by decide) ?_
    refine pw_isub dX10_dots_5 ?_
    refine pw_ti (z := nI hv.length) hla.1 ?_
    refine pw_istore_n (lv' := [(2, _), (0, _), (1, _)]) dX10_dots_6 (by decide) rfl ?_
    refine pw_aload_n dX10_dots_7 rfl ?_
    refine pw_getR fX10_144 dX10_dots_8 (sh_lt hG (by decide)) (sh_tg hG 45 rfl) rfl (gr_at hP 84 rfl) ?_
    refine pw_iload_n dX10_dots_11 rfl ?_
    refine pw_ialdN hv.length dX10_dots_12 (sh_lt hG (by decide)) (sh_sh hG 90 rfl) (by decide) (rfl) (by omega) ?_
    refine pw_ti (z := nI v.1) hla.2.1 ?_
    refine pw_iconst (v := nI 2) dX10_dots_13 (by decide) ?_
    refine pw_icmpN_eq _ _ (tgt := 37) dX10_dots_14 (by decide) (rfl) (rfl) (by omega) (by omega) (fun h14 => absurd h14 (by omega)) (fun h14 => ?_)
    refine pw_aload_n dX10_dots_17 rfl ?_
    refine pw_aload_n dX10_dots_18 rfl ?_
    refine pw_getR fX10_144 dX10_dots_19 (sh_lt hG (by decide)) (sh_tg hG 45 rfl) rfl (gr_at hP 84 rfl) ?_
    refine pw_iload_n dX10_dots_22 rfl ?_
    refine pw_ialdN hv.length dX10_dots_23 (sh_lt hG (by decide)) (sh_sh hG 90 rfl) (by decide) (rfl) (by omega) ?_
    refine pw_ti (z := nI v.1) hla.2.1 ?_
    refine pw_ifN_ne _ (tgt := 31) dX10_dots_24 (by decide) (rfl) (by omega) (fun h24 => ?_) (fun h24 => ?_)
    · refine pw_iconst (v := nI 3) dX10_dots_31 (by decide) ?_
      refine pw_iload_n dX10_dots_32 rfl ?_
      refine pw_callV (as := [_, _]) (kc' := 0) (ks' := 0) lX10_299 dX10_dots_33 rfl rfl (sh_lt hG (by decide)) (sh_tg hG 45 rfl) (Nat.le_of_ble_eq_true rfl) (by omega) (Nat.le_of_ble_eq_true rfl) (Nat.zero_le _) (Nat.zero_le _) ?_
      refine r_fail hG hP h (e := 3) hNb ht (fun I3 h3 => ?_)
      exact pw_vret dX10_dots_36 rfl (k0 (by unfold ckF; rw [if_neg h2, if_neg h24]; decide) _ (by unfold ckF; rw [if_neg h2, if_neg h24]; exact h3))
    · refine pw_iconst (v := nI 2) dX10_dots_27 (by decide) ?_
      refine pw_goto (tgt := 32) dX10_dots_28 (by decide) ?_
      refine pw_iload_n dX10_dots_32 rfl ?_
      refine pw_callV (as := [_, _]) (kc' := 0) (ks' := 0) lX10_299 dX10_dots_33 rfl rfl (sh_lt hG (by decide)) (sh_tg hG 45 rfl) (Nat.le_of_ble_eq_true rfl) (by omega) (Nat.le_of_ble_eq_true rfl) (Nat.zero_le _) (Nat.zero_le _) ?_
      refine r_fail hG hP h (e := 2) hNb ht (fun I3 h3 => ?_)
      exact pw_vret dX10_dots_36 rfl (k0 (by unfold ckF; rw [if_neg h2, if_pos h24]; decide) _ (by unfold ckF; rw [if_neg h2, if_pos h24]; exact h3))
set_option maxRecDepth 20000 in
set_option maxHeartbeats 4000000 in
theorem g_dot {l : Launch} {E : pmE} {d : Nat} {S : pmS} {I : pmI} {J : pmJ} {P : pmP} {Q : Option Value → pmS → pmI → pmJ → pmP → Prop} {I0 : pmI} {J0 : pmJ} {A : aS} {fr : List (Nat × Nat)} {hv : List vV} {cx : List (Nat × List vV)} {s : Nat} {t : List tH} {N : Nat} {v : vV} (hG : sh_St S) (hP : gr_St P) (h : rS I0 J0 A I J (fr ++ [(N, 1)]) (hv ++ [v]) cx s t) (hd : 3 ≤ d) (hNb : N < 2624) (ht : t.length ≤ 16000) (hk : I0 63 N = nI 5) (hA : rA I0 J0 A) (hO : aO A) (hT : tO A t) (hvo : vO t.length v) {w9 : Int64} (hw9 : w9 ∈ A.ns) (hv70 : J0 70 N = hN A.ns w9) (k1 : ckF A t v w9 = 0 → ∀ I' J', rS I0 J0 A I' J' fr (hv ++ [fdV A t v w9]) cx s t → Q none S I' J' P) (k0 : ckF A t v w9 ≠ 0 → ∀ I', rX I0 J0 A I' J (ckF A t v w9) → Q none S I' J P) : pm_Met l E yX10_goesOn cX10_goesOn 4 none d 0 0 [.ref 47, .int (nI N)] S I J P Q := by
  unfold pm_Met
  have htp := h.top.2.2.2
  refine pm_lvs (lv' := [(0, _), (1, _)]) rfl ?_
  refine pw_aload_n dX10_goesOn_0 rfl ?_
  refine pw_getI fX10_282 dX10_goesOn_1 (sh_lt hG (by decide)) (sh_tg hG 45 rfl) rfl ?_
  refine pw_iconst (v := nI 1) dX10_goesOn_4 (by decide) ?_
  refine pw_isub dX10_goesOn_5 ?_
  refine pw_ti (z := nI fr.length) h.top.1 ?_
  refine pw_istore_n (lv' := [(2, _), (0, _), (1, _)]) dX10_goesOn_6 (by decide) rfl ?_
  refine pw_aload_n dX10_goesOn_7 rfl ?_
  refine pw_getI fX10_279 dX10_goesOn_8 (sh_lt hG (by decide)) (sh_tg hG 45 rfl) rfl ?_
  refine pw_iconst (v := nI 1) dX10_goesOn_11 (by decide) ?_
  refine pw_isub dX10_goesOn_12 ?_
  refine pw_istore_n (lv' := [(3, _), (2, _), (0, _), (1, _)]) dX10_goesOn_13 (by decide) rfl ?_
  refine pw_aload_n dX10_goesOn_14 rfl ?_
  refine pw_getR fX10_56 dX10_goesOn_15 (sh_lt hG (by decide)) (sh_tg hG 45 rfl) rfl (gr_at hP 55 rfl) ?_
  refine pw_iload_n dX10_goesOn_18 rfl ?_
  refine pw_ialdN N dX10_goesOn_19 (sh_lt hG (by decide)) (sh_sh hG 61 rfl) (by decide) (rfl) (by omega) ?_
  refine pw_ti (z := nI 5) (h.nod hk (by decide) (by decide)) ?_
  refine pw_tableIn (off := 40) (tgt := 60) dX10_goesOn_20 (by decide) (by decide) (by decide) (by decide) ?_
  refine pw_aload_n dX10_goesOn_60 rfl ?_
  refine pw_iload_n dX10_goesOn_61 rfl ?_
  refine pw_callV (as := [_]) (kc' := 0) (ks' := 0) lX10_330 dX10_goesOn_62 rfl rfl (sh_lt hG (by decide)) (sh_tg hG 45 rfl) (Nat.le_of_ble_eq_true rfl) (by omega) (Nat.le_of_ble_eq_true rfl) (Nat.zero_le _) (Nat.zero_le _) ?_
  refine r_dots hG hP h (by omega) hA hO hNb ht hT hvo hw9 hv70 (fun hw I3 J3 h3 => ?_) (fun hw I3 h3 => ?_)
  · refine pw_goto (tgt := 255) dX10_goesOn_65 (by decide) ?_
    exact pw_vret dX10_goesOn_255 rfl (k1 hw _ _ h3)
  · refine pw_goto (tgt := 255) dX10_goesOn_65 (by decide) ?_
    exact pw_vret dX10_goesOn_255 rfl (k0 hw _ h3)
