set_option maxRecDepth 20000 in
set_option maxHeartbeats 4000000 in
theorem c_X5_init {l : Launch} {E : pmE} {d : Nat} {S : pmS} {I : pmI} {J : pmJ} {P : pmP} {Q : Option Value → pmS → pmI → pmJ → pmP → Prop} (hd : 1 ≤ d) {c p z q : Nat} {f dd : Int32} (hc2 : 2 ≤ c) (hc : c < S.1) (ht : (S.2 c).1 = 9) (k : Q none S (pm_u (pm_u I c 0 f) c 1 dd) J (pm_u (pm_u (pm_u P c 2 (some p)) c 3 (some z)) c 4 (some q))) : pm_Met l E yX5_init cX5_init 6 none d 0 0 [.ref c, .int f, .int dd, .ref p, .ref z, .ref q] S I J P Q := by
  unfold pm_Met
  refine pm_lvs (lv' := [(0, _), (1, _), (2, _), (3, _), (4, _), (5, _)]) rfl ?_
  refine pw_aload_n dX5_init_0 rfl ?_
  refine pw_objInit dX5_init_1 oX5_3 oi1 oi2 (by omega) (Nat.le_of_ble_eq_true rfl) ?_
  refine pw_aload_n dX5_init_4 rfl ?_
  refine pw_iload_n dX5_init_5 rfl ?_
  refine pw_putI fX5_9 dX5_init_6 (Or.inr ⟨rfl, _, rfl, rfl⟩) (by omega) hc ht rfl ?_
  refine pw_aload_n dX5_init_9 rfl ?_
  refine pw_iload_n dX5_init_10 rfl ?_
  refine pw_putI fX5_15 dX5_init_11 (Or.inr ⟨rfl, _, rfl, rfl⟩) (by omega) hc ht rfl ?_
  refine pw_aload_n dX5_init_14 rfl ?_
  refine pw_aload_n dX5_init_15 rfl ?_
  refine pw_putP fX5_18 dX5_init_16 rfl (Or.inr ⟨rfl, _, rfl, rfl⟩) (by omega) hc ht rfl ?_
  refine pw_aload_n dX5_init_19 rfl ?_
  refine pw_aload dX5_init_20 rfl ?_
  refine pw_putP fX5_22 dX5_init_22 rfl (Or.inr ⟨rfl, _, rfl, rfl⟩) (by omega) hc ht rfl ?_
  refine pw_aload_n dX5_init_25 rfl ?_
  refine pw_aload dX5_init_26 rfl ?_
  refine pw_putP fX5_26 dX5_init_28 rfl (Or.inr ⟨rfl, _, rfl, rfl⟩) (by omega) hc ht rfl ?_
  exact pw_vret dX5_init_31 rfl (k)

set_option maxRecDepth 20000 in
set_option maxHeartbeats 4000000 in
theorem c_snp_lp {l : Launch} {E : pmE} {d : Nat} {S : pmS} {J : pmJ} {P : pmP} {Q : Option Value → pmS → pmI → pmJ → pmP → Prop} {I1 : pmI} (hG : sh_St S) (hP : gr_St P) {p z kc ks : Nat} {ns pa : List Int64} (hp2 : 95 ≤ p) (hp : p < S.1) (hps : S.2 p = (100, pa.length)) (h83 : I1 8 3 = nI pa.length) (hp3 : pa.length ≤ 3) (hpa : ∀ (j : Nat) (v : Int64), pa[j]? = some v → J 14 j = hN ns v) (kx : ∀ I', (∀ a, a ≠ p → I' a = I1 a) → (∀ (j : Nat) (v : Int64), pa[j]? = some v → I' p j = nI (ns.idxOf v)) → pm_W l E yX3_snippet cX3_snippet 4 (some (.object "SnippetShell$Snippet")) d kc ks 33 [(3, .int (nI pa.length)), (2, .ref p), (0, .ref 8), (1, .ref z)] [] S I' J P (pm_N E Q)) : ∀ (m k : Nat) (I : pmI), k + m = pa.length → (∀ a, a ≠ p → I a = I1 a) → (∀ (j : Nat) (v : Int64), j < k → pa[j]? = some v → I p j = nI (ns.idxOf v)) → pm_W l E yX3_snippet cX3_snippet 4 (some (.object "SnippetShell$Snippet")) d kc ks 9 [(3, .int (nI k)), (2, .ref p), (0, .ref 8), (1, .ref z)] [] S I J P (pm_N E Q)
  | 0, k, I, hk, h1, h2 => by
    refine pw_iload_n dX3_snippet_9 rfl ?_
    refine pw_aload_n dX3_snippet_10 rfl ?_
    refine pw_getI fX3_31 dX3_snippet_11 (sh_lt hG (by decide)) (sh_tg hG 6 rfl) rfl ?_
    refine pw_ti (z := nI pa.length) (by rw [h1 8 (by omega)]; exact h83) ?_
    refine pw_icmpN_ge _ _ (tgt := 33) dX3_snippet_14 (by decide) (rfl) (rfl) (by omega) (by omega) (fun h14 => ?_) (fun h14 => absurd h14 (by omega))
    have e : k = pa.length := by omega
    subst e
    exact kx I h1 (fun j v hj => h2 j v (List.getElem?_eq_some_iff.mp hj).1 hj)
  | m + 1, k, I, hk, h1, h2 => by
    have hkl : k < pa.length := by omega
    obtain ⟨v, hv⟩ : ∃ v, pa[k]? = some v := ⟨_, List.getElem?_eq_getElem hkl⟩
    refine pw_iload_n dX3_snippet_9 rfl ?_
    refine pw_aload_n dX3_snippet_10 rfl ?_
    refine pw_getI fX3_31 dX3_snippet_11 (sh_lt hG (by decide)) (sh_tg hG 6 rfl) rfl ?_
    refine pw_ti (z := nI pa.length) (by rw [h1 8 (by omega)]; exact h83) ?_
    refine pw_icmpN_ge _ _ (tgt := 33) dX3_snippet_14 (by decide) (rfl) (rfl) (by omega) (by omega) (fun h14 => absurd h14 (by omega)) (fun h14 => ?_)
    refine pw_aload_n dX3_snippet_17 rfl ?_
    refine pw_iload_n dX3_snippet_18 rfl ?_
    refine pw_aload_n dX3_snippet_19 rfl ?_
    refine pw_getR fX3_20 dX3_snippet_20 (sh_lt hG (by decide)) (sh_tg hG 6 rfl) rfl (gr_at hP 10 rfl) ?_
    refine pw_iload_n dX3_snippet_23 rfl ?_
    refine pw_laldN k dX3_snippet_24 (sh_lt hG (by decide)) (sh_sh hG 12 rfl) (by decide) (rfl) (by omega) ?_
    refine pw_tj (z := hN ns v) (hpa k v hv) ?_
    refine pw_l2i dX3_snippet_25 ?_
    refine pw_ti (z := nI (ns.idxOf v)) (lN_i _) ?_
    refine pw_iastN k dX3_snippet_26 (by omega) hp hps (by omega) (rfl) (by omega) ?_
    refine pw_iinc (lv' := [(3, _), (2, _), (0, _), (1, _)]) dX3_snippet_27 rfl (by decide) rfl ?_
    refine pw_goto (tgt := 9) dX3_snippet_30 (by decide) ?_
    refine pm_lvs (lv' := [(3, .int (nI (k + 1))), (2, _), (0, _), (1, _)]) (by rw [show nI k + Int32.ofInt 1 = nI (k + 1) from nI_add k 1]) ?_
    refine c_snp_lp hG hP hp2 hp hps h83 hp3 hpa kx m (k + 1) _ (by omega) (fun a ha => by rw [pm_u_ne ha]; exact h1 a ha) (fun j u hj hu => ?_)
    rw [pm_u_eq]
    by_cases e : j = k
    · subst e
      rw [hv] at hu
      cases hu
      exact pm_up_eq
    · rw [pm_up_ne e]; exact h2 j u (by omega) hu
theorem kC.nF {S S' : pmS} {I I' : pmI} {J J' : pmJ} {P P' : pmP} {c rm : Nat} {L : List dE} (h : kC S I J P c rm L) (hF : nF S I J P S' I' J' P') : kC S' I' J' P' c rm L := by
  have hc := h.1.2
  exact h.mv hF.1 hF.2.1 (fun a _ h2 => hF.2.2 a (by omega))
set_option maxRecDepth 20000 in
set_option maxHeartbeats 4000000 in
theorem c_snippet {l : Launch} {E : pmE} {d : Nat} {S : pmS} {I : pmI} {J : pmJ} {P : pmP} {Q : Option Value → pmS → pmI → pmJ → pmP → Prop} (hG : sh_St S) (hP : gr_St P) (hd : 3 ≤ d) {z : Nat} (hz : z + 1 = S.1) (hz95 : 95 ≤ z) {ns : List Int64} {x : sN} {L : List dE} (h : kC S I J P 9 121 L) (hL : x.form = 2 → L = cp (hN ns) x.tr ++ [(13, 0, 0)]) (hf : I 8 4 = nI x.form) (hdc : x.form ≠ 0 → J 8 5 = hN ns x.dec) (h83 : I 8 3 = nI x.pa.length) (hp3 : x.pa.length ≤ 3) (hpa : ∀ (j : Nat) (v : Int64), x.pa[j]? = some v → J 14 j = hN ns v) (hs : S.2 z = (102, x.tx.length)) (htl : x.tx.length ≤ 120) (htx : ∀ (j y : Nat), x.tx[j]? = some y → I z j = nI y) (k : ∀ S' I' J' P', nF S I J P S' I' J' P' → S'.1 = S.1 + 7 → sh_St S' → gr_St P' → snC S' I' J' P' ns z x → Q (some (.ref (z + 2))) S' I' J' P') : pm_Met l E yX3_snippet cX3_snippet 4 (some (.object "SnippetShell$Snippet")) d 7 500 [.ref 8, .ref z] S I J P Q := by
  unfold pm_Met
  have h96 := hG.1
  have hrr := h.rr
  refine pm_lvs (lv' := [(0, _), (1, _)]) rfl ?_
  refine pw_aload_n dX3_snippet_0 rfl ?_
  refine pw_getI fX3_31 dX3_snippet_1 (sh_lt hG (by decide)) (sh_tg hG 6 rfl) rfl ?_
  refine pw_ti (z := nI x.pa.length) h83 ?_
  refine pw_newa (t := 100) (N := x.pa.length) dX3_snippet_4 (by decide) ar_int (nI_pos (by omega)) (nI_clamp (by omega)) (by omega) (by omega) (by omega) (fun _ _ => ?_)
  obtain ⟨S1, hS1⟩ : ∃ S9, S9 = pm_new S 100 x.pa.length := ⟨_, rfl⟩
  rw [← hS1]
  have hl1 : S1.1 = S.1 + 1 := by rw [hS1, pn_1]
  have hG1 : sh_St S1 := by rw [hS1]; exact hG.new _ _
  have ht1 : S1.2 S.1 = (100, x.pa.length) := by rw [hS1]; exact pn_eq
  refine pw_astore_n (lv' := [(2, _), (0, _), (1, _)]) dX3_snippet_6 (by decide) rfl ?_
  refine pw_iconst (v := nI 0) dX3_snippet_7 (by decide) ?_
  refine pw_istore_n (lv' := [(3, _), (2, _), (0, _), (1, _)]) dX3_snippet_8 (by decide) rfl ?_
  refine c_snp_lp (p := S.1) (z := z) (kc := _) (ks := _) hG1 hP (by omega) (by omega) ht1 h83 hp3 hpa (fun I1 hi1 hx1 => ?_) x.pa.length 0 I (Nat.zero_add _) (fun _ _ => rfl) (fun j v hj => absurd hj (by omega))
  refine pw_new nX3_90 dX3_snippet_33 (by omega) (by omega) (fun _ _ _ => ?_)
  obtain ⟨S2, hS2⟩ : ∃ S9, S9 = pm_new S1 9 5 := ⟨_, rfl⟩
  rw [← hS2]
  have hl2 : S2.1 = S.1 + 2 := by rw [hS2, pn_1]; omega
  have hG2 : sh_St S2 := by rw [hS2]; exact hG1.new _ _
  have ht2 : S2.2 S1.1 = (9, 5) := by rw [hS2]; exact pn_eq
  have hF2 : nF S I J P S2 I1 J P := ⟨by omega, fun a ha => by rw [hS2, pn_ne (by omega), hS1, pn_ne (by omega)], fun a ha => ⟨hi1 a (by omega), rfl, rfl⟩⟩
  refine pw_dup dX3_snippet_36 rfl ?_
  refine pw_aload_n dX3_snippet_37 rfl ?_
  refine pw_getI fX3_77 dX3_snippet_38 (sh_lt hG2 (by decide)) (sh_tg hG2 6 rfl) rfl ?_
  refine pw_ti (z := nI x.form) (by rw [hi1 8 (by omega)]; exact hf) ?_
  refine pw_aload_n dX3_snippet_41 rfl ?_
  refine pw_getJ fX3_35 dX3_snippet_42 (sh_lt hG2 (by decide)) (sh_tg hG2 6 rfl) rfl ?_
  refine pw_l2i dX3_snippet_45 ?_
  refine pw_aload_n dX3_snippet_46 rfl ?_
  refine pw_aload_n dX3_snippet_47 rfl ?_
  refine pw_aload_n dX3_snippet_48 rfl ?_
  refine pw_getR fX3_14 dX3_snippet_49 (sh_lt hG2 (by decide)) (sh_tg hG2 6 rfl) rfl (gr_at hP 9 rfl) ?_
  refine pw_callV (as := []) (kc' := 5) (ks' := 6 + 4 * L.length) lX3_92 dX3_snippet_52 rfl rfl (sh_lt hG2 (by decide)) (sh_tg hG2 7 rfl) (Nat.le_of_ble_eq_true rfl) (by omega) (Nat.le_of_ble_eq_true rfl) (by omega) (by omega) ?_
  refine c_copy hG2 hP (by omega) (h.nF hF2) (fun S3 I3 J3 P3 hF3 hl3 hG3 hP3 hk3 => ?_)
  have hF := hF2.trans hF3
  refine pw_callI (as := [_, _, _, _, _]) (kc' := 0) (ks' := 0) lX3_96 dX3_snippet_55 rfl rfl (Nat.le_of_ble_eq_true rfl) (by omega) (Nat.le_of_ble_eq_true rfl) (Nat.zero_le _) (Nat.zero_le _) ?_
  have ht3 : (S3.2 S1.1).1 = 9 := by rw [hF3.2.1 S1.1 (by omega), ht2]
  refine c_X5_init (by omega) (by omega) (by omega) ht3 ?_
  rw [hl2] at hk3
  rw [show S2.1 = S.1 + 2 from hl2, hl1]
  rw [hl1] at ht3
  refine pw_aret (r := some (S.1 + 1)) dX3_snippet_58 rfl (by first | exact Or.inl ⟨_, rfl⟩ | exact Or.inr ⟨_, rfl⟩) ?_
  rw [show S.1 + 1 = z + 2 by omega]
  rw [show S.1 + 1 = z + 2 by omega] at ht3
  rw [show S.1 + 2 = z + 3 by omega] at hk3 ⊢
  have hk4 := hk3.1.2
  refine k S3 _ J3 _ ⟨hF.1, hF.2.1, fun a ha => ⟨by rw [pm_u_ne (by omega), pm_u_ne (by omega)]; exact (hF.2.2 a ha).1, (hF.2.2 a ha).2.1, by rw [pm_u_ne (by omega), pm_u_ne (by omega), pm_u_ne (by omega)]; exact (hF.2.2 a ha).2.2⟩⟩ (by omega) hG3 (hP3.far (fun a ha => by rw [pm_u_ne (by omega), pm_u_ne (by omega), pm_u_ne (by omega)])) ⟨⟨hz95, by omega⟩, ht3, by rw [hF.2.1 z (by omega)]; exact hs, by rw [hF3.2.1 (z + 1) (by omega), hS2, pn_ne (by omega), show z + 1 = S.1 from hz]; exact ht1, ?_, ?_, ?_, ?_, fun q => ?_, fun j v hj => ?_, ⟨htl, fun j y hj => ?_⟩, L.length, L, ?_, hL⟩
  · rw [pm_u_eq, pm_up_ne (by decide), pm_u_eq, pm_up_ne (by decide), pm_u_eq, pm_up_eq, show S.1 = z + 1 from hz.symm]
  · rw [pm_u_eq, pm_up_ne (by decide), pm_u_eq, pm_up_eq]
  · rw [pm_u_eq, pm_up_eq]
  · rw [pm_u_eq, pm_up_ne (by decide), pm_u_eq, pm_up_eq]
  · rw [pm_u_eq, pm_up_eq, hdc q]; exact lN_i _
  · rw [pm_u_ne (by omega), pm_u_ne (by omega), (hF3.2.2 (z + 1) (by omega)).1, show z + 1 = S.1 from hz]; exact hx1 j v hj
  · rw [pm_u_ne (by omega), pm_u_ne (by omega), (hF.2.2 z (by omega)).1]; exact htx j y hj
  · exact hk3.mv (Nat.le_refl _) (fun _ _ => rfl) (fun a h1 h2 => ⟨by rw [pm_u_ne (by omega), pm_u_ne (by omega)], rfl, by rw [pm_u_ne (by omega), pm_u_ne (by omega), pm_u_ne (by omega)]⟩)
