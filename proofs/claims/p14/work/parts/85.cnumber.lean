theorem lI5 : ((-5 : Int32).toInt64) = -5 := by decide
/-- deeds that tell a NAME -/
def dN (x : Nat) : Prop := x = 5 ∨ x = 6 ∨ x = 8 ∨ x = 9
/-- the code's first k deeds have their NAMES' numbers -/
def kU (ns : List Int64) (L : List dD) (k : Nat) (J1 J : pmJ) : Prop := (∀ a, a ≠ 13 → J a = J1 a) ∧ (∀ j, k ≤ j → J 13 j = J1 13 j) ∧ ∀ (j : Nat) (x : dD), j < k → L[j]? = some x → (dN x.1 → x.2.2.2 ∈ ns → J 13 j = hN ns x.2.2.2) ∧ (¬ dN x.1 → J 13 j = J1 13 j)
theorem kU.refl {ns : List Int64} {L : List dD} {J : pmJ} : kU ns L 0 J J := ⟨fun _ _ => rfl, fun _ _ => rfl, fun j x h => absurd h (Nat.not_lt_zero _)⟩
theorem kU.no {ns : List Int64} {L : List dD} {k : Nat} {J1 J : pmJ} {x : dD} (h : kU ns L k J1 J) (hx : L[k]? = some x) (hd : ¬ dN x.1) : kU ns L (k + 1) J1 J := by
  refine ⟨h.1, fun j hj => h.2.1 j (by omega), fun j y hj hy => ?_⟩
  rcases Nat.lt_or_ge j k with g | g
  · exact h.2.2 j y g hy
  · have e : j = k := by omega
    subst e
    rw [hx] at hy
    cases hy
    exact ⟨fun q => absurd q hd, fun _ => h.2.1 j (Nat.le_refl _)⟩
theorem kU.yes {ns : List Int64} {L : List dD} {k : Nat} {J1 J : pmJ} {x : dD} {z : Int64} (h : kU ns L k J1 J) (hx : L[k]? = some x) (hd : dN x.1) (hz : x.2.2.2 ∈ ns → z = hN ns x.2.2.2) : kU ns L (k + 1) J1 (pm_u J 13 k z) := by
  refine ⟨fun a ha => by rw [pm_u_ne ha]; exact h.1 a ha, fun j hj => by rw [pm_u_eq, pm_up_ne (by omega)]; exact h.2.1 j (by omega), fun j y hj hy => ?_⟩
  rw [pm_u_eq]
  rcases Nat.lt_or_ge j k with g | g
  · rw [pm_up_ne (by omega)]; exact h.2.2 j y g hy
  · have e : j = k := by omega
    subst e
    rw [hx] at hy
    cases hy
    rw [pm_up_eq]
    exact ⟨fun _ q => hz q, fun q => absurd hd q⟩
set_option maxRecDepth 20000 in
set_option maxHeartbeats 4000000 in
theorem c_num_lp {l : Launch} {E : pmE} {d : Nat} {S : pmS} {P : pmP} {Q : Option Value → pmS → pmI → pmJ → pmP → Prop} {I : pmI} {J1 : pmJ} (hG : sh_St S) (hP : gr_St P) (hd : 1 ≤ d) {ns : List Int64} (hn : I 16 4 = nI ns.length) (hl : ns.length ≤ 40) (hJ : ∀ (j : Nat) (v : Int64), ns[j]? = some v → J1 17 j = v) (hnd : ns.Nodup) {L : List dD} (hL : cd I J1 L) (hll : L.length ≤ 121) (hx7 : ∀ x ∈ L, x.1 < 128) {x2 : Int32} (kx : ∀ J', kU ns L L.length J1 J' → Q none S I J' P) : ∀ (m k : Nat) (J : pmJ), k + m = L.length → kU ns L k J1 J → pm_W l E yX0_numberNames cX0_numberNames 4 none d 0 0 7 [(3, .int (nI k)), (0, .ref 9), (1, .ref 16), (2, .int x2)] [] S I J P (pm_N E Q)
  | 0, k, J, hk, h => by
    refine pw_iload_n dX0_numberNames_7 rfl ?_
    refine pw_aload_n dX0_numberNames_8 rfl ?_
    refine pw_getI fX0_25 dX0_numberNames_9 (sh_lt hG (by decide)) (sh_tg hG 7 rfl) rfl ?_
    refine pw_ti (z := nI L.length) hL.1 ?_
    refine pw_icmpN_ge _ _ (tgt := 81) dX0_numberNames_12 (by decide) (rfl) (rfl) (by omega) (by omega) (fun h12 => ?_) (fun h12 => absurd h12 (by omega))
    exact pw_vret dX0_numberNames_81 rfl (by
      have e : k = L.length := by omega
      subst e
      exact kx J h)
  | m + 1, k, J, hk, h => by
    have hkl : k < L.length := by omega
    obtain ⟨x, hx⟩ : ∃ x, L[k]? = some x := ⟨_, List.getElem?_eq_getElem hkl⟩
    have hx8 := hx7 x (List.mem_of_getElem? hx)
    refine pw_iload_n dX0_numberNames_7 rfl ?_
    refine pw_aload_n dX0_numberNames_8 rfl ?_
    refine pw_getI fX0_25 dX0_numberNames_9 (sh_lt hG (by decide)) (sh_tg hG 7 rfl) rfl ?_
    refine pw_ti (z := nI L.length) hL.1 ?_
    refine pw_icmpN_ge _ _ (tgt := 81) dX0_numberNames_12 (by decide) (rfl) (rfl) (by omega) (by omega) (fun h12 => absurd h12 (by omega)) (fun h12 => ?_)
    refine pw_aload_n dX0_numberNames_15 rfl ?_
    refine pw_getR fX0_9 dX0_numberNames_16 (sh_lt hG (by decide)) (sh_tg hG 7 rfl) rfl (gr_at hP 11 rfl) ?_
    refine pw_iload_n dX0_numberNames_19 rfl ?_
    refine pw_ialdN k dX0_numberNames_20 (sh_lt hG (by decide)) (sh_sh hG 8 rfl) (by decide) (rfl) (by omega) ?_
    refine pw_ti (z := nI x.1) (hL.2 k x hx).1 ?_
    refine pw_iconst (v := nI 5) dX0_numberNames_21 (by decide) ?_
    refine pw_icmpN_eq _ _ (tgt := 58) dX0_numberNames_22 (by decide) (rfl) (rfl) (by omega) (by omega) (fun h22 => ?_) (fun h22 => ?_)
    · have hcv : J 13 k = x.2.2.2 := by rw [h.2.1 k (Nat.le_refl _)]; exact ((hL.2 k x hx).2.2 (by omega)).2
      refine pw_aload_n dX0_numberNames_58 rfl ?_
      refine pw_getR fX0_21 dX0_numberNames_59 (sh_lt hG (by decide)) (sh_tg hG 7 rfl) rfl (gr_at hP 14 rfl) ?_
      refine pw_iload_n dX0_numberNames_62 rfl ?_
      refine pw_aload_n dX0_numberNames_63 rfl ?_
      refine pw_aload_n dX0_numberNames_64 rfl ?_
      refine pw_getR fX0_21 dX0_numberNames_65 (sh_lt hG (by decide)) (sh_tg hG 7 rfl) rfl (gr_at hP 14 rfl) ?_
      refine pw_iload_n dX0_numberNames_68 rfl ?_
      refine pw_laldN k dX0_numberNames_69 (sh_lt hG (by decide)) (sh_sh hG 11 rfl) (by decide) (rfl) (by omega) ?_
      refine pw_tj (z := x.2.2.2) hcv ?_
      refine pw_callV (as := [_]) (kc' := 0) (ks' := 0) lX0_46 dX0_numberNames_70 rfl rfl (sh_lt hG (by decide)) (sh_tg hG 14 rfl) (Nat.le_of_ble_eq_true rfl) (by omega) (Nat.le_of_ble_eq_true rfl) (Nat.zero_le _) (Nat.zero_le _) ?_
      refine c_find hG hP hn hl (fun j v hj => by rw [h.1 17 (by decide)]; exact hJ j v hj) hnd (fun hm9 => ?_) (fun hm9 => ?_)
      · refine pw_i2l dX0_numberNames_73 ?_
        refine pw_lastN k dX0_numberNames_74 (by decide) (sh_lt hG (by decide)) (sh_sh hG 11 rfl) (by decide) (rfl) (by omega) ?_
        refine pw_iinc (lv' := [(3, _), (0, _), (1, _), (2, _)]) dX0_numberNames_75 rfl (by decide) rfl ?_
        refine pw_goto (tgt := 7) dX0_numberNames_78 (by decide) ?_
        refine pm_lvs (lv' := [(3, .int (nI (k + 1))), (0, _), (1, _), (2, _)]) (by rw [show nI k + Int32.ofInt 1 = nI (k + 1) from nI_add k 1]) ?_
        exact c_num_lp hG hP hd hn hl hJ hnd hL hll hx7 kx m (k + 1) _ (by omega) (h.yes hx (by unfold dN; omega) (fun _ => by unfold hN; exact nI_l (by have := (ns_at hm9).2; omega)))
      · refine pw_i2l dX0_numberNames_73 ?_
        refine pw_lastN k dX0_numberNames_74 (by decide) (sh_lt hG (by decide)) (sh_sh hG 11 rfl) (by decide) (rfl) (by omega) ?_
        refine pw_iinc (lv' := [(3, _), (0, _), (1, _), (2, _)]) dX0_numberNames_75 rfl (by decide) rfl ?_
        refine pw_goto (tgt := 7) dX0_numberNames_78 (by decide) ?_
        refine pm_lvs (lv' := [(3, .int (nI (k + 1))), (0, _), (1, _), (2, _)]) (by rw [show nI k + Int32.ofInt 1 = nI (k + 1) from nI_add k 1]) ?_
        exact c_num_lp hG hP hd hn hl hJ hnd hL hll hx7 kx m (k + 1) _ (by omega) (h.yes hx (by unfold dN; omega) (fun q => absurd q hm9))
    · refine pw_aload_n dX0_numberNames_25 rfl ?_
      refine pw_getR fX0_9 dX0_numberNames_26 (sh_lt hG (by decide)) (sh_tg hG 7 rfl) rfl (gr_at hP 11 rfl) ?_
      refine pw_iload_n dX0_numberNames_29 rfl ?_
      refine pw_ialdN k dX0_numberNames_30 (sh_lt hG (by decide)) (sh_sh hG 8 rfl) (by decide) (rfl) (by omega) ?_
      refine pw_ti (z := nI x.1) (hL.2 k x hx).1 ?_
      refine pw_bipush (v := nI 6) dX0_numberNames_31 (by decide) ?_
      refine pw_icmpN_eq _ _ (tgt := 58) dX0_numberNames_33 (by decide) (rfl) (rfl) (by omega) (by omega) (fun h33 => ?_) (fun h33 => ?_)
      · have hcv : J 13 k = x.2.2.2 := by rw [h.2.1 k (Nat.le_refl _)]; exact ((hL.2 k x hx).2.2 (by omega)).2
        refine pw_aload_n dX0_numberNames_58 rfl ?_
        refine pw_getR fX0_21 dX0_numberNames_59 (sh_lt hG (by decide)) (sh_tg hG 7 rfl) rfl (gr_at hP 14 rfl) ?_
        refine pw_iload_n dX0_numberNames_62 rfl ?_
        refine pw_aload_n dX0_numberNames_63 rfl ?_
        refine pw_aload_n dX0_numberNames_64 rfl ?_
        refine pw_getR fX0_21 dX0_numberNames_65 (sh_lt hG (by decide)) (sh_tg hG 7 rfl) rfl (gr_at hP 14 rfl) ?_
        refine pw_iload_n dX0_numberNames_68 rfl ?_
        refine pw_laldN k dX0_numberNames_69 (sh_lt hG (by decide)) (sh_sh hG 11 rfl) (by decide) (rfl) (by omega) ?_
        refine pw_tj (z := x.2.2.2) hcv ?_
        refine pw_callV (as := [_]) (kc' := 0) (ks' := 0) lX0_46 dX0_numberNames_70 rfl rfl (sh_lt hG (by decide)) (sh_tg hG 14 rfl) (Nat.le_of_ble_eq_true rfl) (by omega) (Nat.le_of_ble_eq_true rfl) (Nat.zero_le _) (Nat.zero_le _) ?_
        refine c_find hG hP hn hl (fun j v hj => by rw [h.1 17 (by decide)]; exact hJ j v hj) hnd (fun hm9 => ?_) (fun hm9 => ?_)
        · refine pw_i2l dX0_numberNames_73 ?_
          refine pw_lastN k dX0_numberNames_74 (by decide) (sh_lt hG (by decide)) (sh_sh hG 11 rfl) (by decide) (rfl) (by omega) ?_
          refine pw_iinc (lv' := [(3, _), (0, _), (1, _), (2, _)]) dX0_numberNames_75 rfl (by decide) rfl ?_
          refine pw_goto (tgt := 7) dX0_numberNames_78 (by decide) ?_
          refine pm_lvs (lv' := [(3, .int (nI (k + 1))), (0, _), (1, _), (2, _)]) (by rw [show nI k + Int32.ofInt 1 = nI (k + 1) from nI_add k 1]) ?_
          exact c_num_lp hG hP hd hn hl hJ hnd hL hll hx7 kx m (k + 1) _ (by omega) (h.yes hx (by unfold dN; omega) (fun _ => by unfold hN; exact nI_l (by have := (ns_at hm9).2; omega)))
        · refine pw_i2l dX0_numberNames_73 ?_
          refine pw_lastN k dX0_numberNames_74 (by decide) (sh_lt hG (by decide)) (sh_sh hG 11 rfl) (by decide) (rfl) (by omega) ?_
          refine pw_iinc (lv' := [(3, _), (0, _), (1, _), (2, _)]) dX0_numberNames_75 rfl (by decide) rfl ?_
          refine pw_goto (tgt := 7) dX0_numberNames_78 (by decide) ?_
          refine pm_lvs (lv' := [(3, .int (nI (k + 1))), (0, _), (1, _), (2, _)]) (by rw [show nI k + Int32.ofInt 1 = nI (k + 1) from nI_add k 1]) ?_
          exact c_num_lp hG hP hd hn hl hJ hnd hL hll hx7 kx m (k + 1) _ (by omega) (h.yes hx (by unfold dN; omega) (fun q => absurd q hm9))
      · refine pw_aload_n dX0_numberNames_36 rfl ?_
        refine pw_getR fX0_9 dX0_numberNames_37 (sh_lt hG (by decide)) (sh_tg hG 7 rfl) rfl (gr_at hP 11 rfl) ?_
        refine pw_iload_n dX0_numberNames_40 rfl ?_
        refine pw_ialdN k dX0_numberNames_41 (sh_lt hG (by decide)) (sh_sh hG 8 rfl) (by decide) (rfl) (by omega) ?_
        refine pw_ti (z := nI x.1) (hL.2 k x hx).1 ?_
        refine pw_bipush (v := nI 8) dX0_numberNames_42 (by decide) ?_
        refine pw_icmpN_eq _ _ (tgt := 58) dX0_numberNames_44 (by decide) (rfl) (rfl) (by omega) (by omega) (fun h44 => ?_) (fun h44 => ?_)
        · have hcv : J 13 k = x.2.2.2 := by rw [h.2.1 k (Nat.le_refl _)]; exact ((hL.2 k x hx).2.2 (by omega)).2
          refine pw_aload_n dX0_numberNames_58 rfl ?_
          refine pw_getR fX0_21 dX0_numberNames_59 (sh_lt hG (by decide)) (sh_tg hG 7 rfl) rfl (gr_at hP 14 rfl) ?_
          refine pw_iload_n dX0_numberNames_62 rfl ?_
          refine pw_aload_n dX0_numberNames_63 rfl ?_
          refine pw_aload_n dX0_numberNames_64 rfl ?_
          refine pw_getR fX0_21 dX0_numberNames_65 (sh_lt hG (by decide)) (sh_tg hG 7 rfl) rfl (gr_at hP 14 rfl) ?_
          refine pw_iload_n dX0_numberNames_68 rfl ?_
          refine pw_laldN k dX0_numberNames_69 (sh_lt hG (by decide)) (sh_sh hG 11 rfl) (by decide) (rfl) (by omega) ?_
          refine pw_tj (z := x.2.2.2) hcv ?_
          refine pw_callV (as := [_]) (kc' := 0) (ks' := 0) lX0_46 dX0_numberNames_70 rfl rfl (sh_lt hG (by decide)) (sh_tg hG 14 rfl) (Nat.le_of_ble_eq_true rfl) (by omega) (Nat.le_of_ble_eq_true rfl) (Nat.zero_le _) (Nat.zero_le _) ?_
          refine c_find hG hP hn hl (fun j v hj => by rw [h.1 17 (by decide)]; exact hJ j v hj) hnd (fun hm9 => ?_) (fun hm9 => ?_)
          · refine pw_i2l dX0_numberNames_73 ?_
            refine pw_lastN k dX0_numberNames_74 (by decide) (sh_lt hG (by decide)) (sh_sh hG 11 rfl) (by decide) (rfl) (by omega) ?_
            refine pw_iinc (lv' := [(3, _), (0, _), (1, _), (2, _)]) dX0_numberNames_75 rfl (by decide) rfl ?_
            refine pw_goto (tgt := 7) dX0_numberNames_78 (by decide) ?_
            refine pm_lvs (lv' := [(3, .int (nI (k + 1))), (0, _), (1, _), (2, _)]) (by rw [show nI k + Int32.ofInt 1 = nI (k + 1) from nI_add k 1]) ?_
            exact c_num_lp hG hP hd hn hl hJ hnd hL hll hx7 kx m (k + 1) _ (by omega) (h.yes hx (by unfold dN; omega) (fun _ => by unfold hN; exact nI_l (by have := (ns_at hm9).2; omega)))
          · refine pw_i2l dX0_numberNames_73 ?_
            refine pw_lastN k dX0_numberNames_74 (by decide) (sh_lt hG (by decide)) (sh_sh hG 11 rfl) (by decide) (rfl) (by omega) ?_
            refine pw_iinc (lv' := [(3, _), (0, _), (1, _), (2, _)]) dX0_numberNames_75 rfl (by decide) rfl ?_
            refine pw_goto (tgt := 7) dX0_numberNames_78 (by decide) ?_
            refine pm_lvs (lv' := [(3, .int (nI (k + 1))), (0, _), (1, _), (2, _)]) (by rw [show nI k + Int32.ofInt 1 = nI (k + 1) from nI_add k 1]) ?_
            exact c_num_lp hG hP hd hn hl hJ hnd hL hll hx7 kx m (k + 1) _ (by omega) (h.yes hx (by unfold dN; omega) (fun q => absurd q hm9))
        · refine pw_aload_n dX0_numberNames_47 rfl ?_
          refine pw_getR fX0_9 dX0_numberNames_48 (sh_lt hG (by decide)) (sh_tg hG 7 rfl) rfl (gr_at hP 11 rfl) ?_
          refine pw_iload_n dX0_numberNames_51 rfl ?_
          refine pw_ialdN k dX0_numberNames_52 (sh_lt hG (by decide)) (sh_sh hG 8 rfl) (by decide) (rfl) (by omega) ?_
          refine pw_ti (z := nI x.1) (hL.2 k x hx).1 ?_
          refine pw_bipush (v := nI 9) dX0_numberNames_53 (by decide) ?_
          refine pw_icmpN_ne _ _ (tgt := 75) dX0_numberNames_55 (by decide) (rfl) (rfl) (by omega) (by omega) (fun h55 => ?_) (fun h55 => ?_)
          · refine pw_iinc (lv' := [(3, _), (0, _), (1, _), (2, _)]) dX0_numberNames_75 rfl (by decide) rfl ?_
            refine pw_goto (tgt := 7) dX0_numberNames_78 (by decide) ?_
            refine pm_lvs (lv' := [(3, .int (nI (k + 1))), (0, _), (1, _), (2, _)]) (by rw [show nI k + Int32.ofInt 1 = nI (k + 1) from nI_add k 1]) ?_
            exact c_num_lp hG hP hd hn hl hJ hnd hL hll hx7 kx m (k + 1) _ (by omega) (h.no hx (by unfold dN; omega))
          · have hcv : J 13 k = x.2.2.2 := by rw [h.2.1 k (Nat.le_refl _)]; exact ((hL.2 k x hx).2.2 (by omega)).2
            refine pw_aload_n dX0_numberNames_58 rfl ?_
            refine pw_getR fX0_21 dX0_numberNames_59 (sh_lt hG (by decide)) (sh_tg hG 7 rfl) rfl (gr_at hP 14 rfl) ?_
            refine pw_iload_n dX0_numberNames_62 rfl ?_
            refine pw_aload_n dX0_numberNames_63 rfl ?_
            refine pw_aload_n dX0_numberNames_64 rfl ?_
            refine pw_getR fX0_21 dX0_numberNames_65 (sh_lt hG (by decide)) (sh_tg hG 7 rfl) rfl (gr_at hP 14 rfl) ?_
            refine pw_iload_n dX0_numberNames_68 rfl ?_
            refine pw_laldN k dX0_numberNames_69 (sh_lt hG (by decide)) (sh_sh hG 11 rfl) (by decide) (rfl) (by omega) ?_
            refine pw_tj (z := x.2.2.2) hcv ?_
            refine pw_callV (as := [_]) (kc' := 0) (ks' := 0) lX0_46 dX0_numberNames_70 rfl rfl (sh_lt hG (by decide)) (sh_tg hG 14 rfl) (Nat.le_of_ble_eq_true rfl) (by omega) (Nat.le_of_ble_eq_true rfl) (Nat.zero_le _) (Nat.zero_le _) ?_
            refine c_find hG hP hn hl (fun j v hj => by rw [h.1 17 (by decide)]; exact hJ j v hj) hnd (fun hm9 => ?_) (fun hm9 => ?_)
            · refine pw_i2l dX0_numberNames_73 ?_
              refine pw_lastN k dX0_numberNames_74 (by decide) (sh_lt hG (by decide)) (sh_sh hG 11 rfl) (by decide) (rfl) (by omega) ?_
              refine pw_iinc (lv' := [(3, _), (0, _), (1, _), (2, _)]) dX0_numberNames_75 rfl (by decide) rfl ?_
              refine pw_goto (tgt := 7) dX0_numberNames_78 (by decide) ?_
              refine pm_lvs (lv' := [(3, .int (nI (k + 1))), (0, _), (1, _), (2, _)]) (by rw [show nI k + Int32.ofInt 1 = nI (k + 1) from nI_add k 1]) ?_
              exact c_num_lp hG hP hd hn hl hJ hnd hL hll hx7 kx m (k + 1) _ (by omega) (h.yes hx (by unfold dN; omega) (fun _ => by unfold hN; exact nI_l (by have := (ns_at hm9).2; omega)))
            · refine pw_i2l dX0_numberNames_73 ?_
              refine pw_lastN k dX0_numberNames_74 (by decide) (sh_lt hG (by decide)) (sh_sh hG 11 rfl) (by decide) (rfl) (by omega) ?_
              refine pw_iinc (lv' := [(3, _), (0, _), (1, _), (2, _)]) dX0_numberNames_75 rfl (by decide) rfl ?_
              refine pw_goto (tgt := 7) dX0_numberNames_78 (by decide) ?_
              refine pm_lvs (lv' := [(3, .int (nI (k + 1))), (0, _), (1, _), (2, _)]) (by rw [show nI k + Int32.ofInt 1 = nI (k + 1) from nI_add k 1]) ?_
              exact c_num_lp hG hP hd hn hl hJ hnd hL hll hx7 kx m (k + 1) _ (by omega) (h.yes hx (by unfold dN; omega) (fun q => absurd q hm9))
set_option maxRecDepth 20000 in
set_option maxHeartbeats 4000000 in
theorem c_num {l : Launch} {E : pmE} {d : Nat} {S : pmS} {I : pmI} {J : pmJ} {P : pmP} {Q : Option Value → pmS → pmI → pmJ → pmP → Prop} (hG : sh_St S) (hP : gr_St P) (hd : 1 ≤ d) {ns : List Int64} (hn : I 16 4 = nI ns.length) (hl : ns.length ≤ 40) (hJ : ∀ (j : Nat) (v : Int64), ns[j]? = some v → J 17 j = v) (hnd : ns.Nodup) {L : List dD} (hL : cd I J L) (hll : L.length ≤ 121) (hx7 : ∀ x ∈ L, x.1 < 128) {x2 : Int32} (kx : ∀ J', kU ns L L.length J J' → Q none S (pm_u I 9 5 x2) J' P) : pm_Met l E yX0_numberNames cX0_numberNames 4 none d 0 0 [.ref 9, .ref 16, .int x2] S I J P Q := by
  unfold pm_Met
  refine pm_lvs (lv' := [(0, _), (1, _), (2, _)]) rfl ?_
  refine pw_aload_n dX0_numberNames_0 rfl ?_
  refine pw_iload_n dX0_numberNames_1 rfl ?_
  refine pw_putI fX0_29 dX0_numberNames_2 (Or.inl rfl) (by decide) (sh_lt hG (by decide)) (sh_tg hG 7 rfl) rfl ?_
  refine pw_iconst (v := nI 0) dX0_numberNames_5 (by decide) ?_
  refine pw_istore_n (lv' := [(3, _), (0, _), (1, _), (2, _)]) dX0_numberNames_6 (by decide) rfl ?_
  exact c_num_lp hG hP hd (by rw [pm_u_ne (by decide)]; exact hn) hl hJ hnd ⟨by rw [pm_u_eq, pm_up_ne (by decide)]; exact hL.1, fun j q hq => by rw [pm_u_ne (by decide), pm_u_ne (by decide), pm_u_ne (by decide)]; exact hL.2 j q hq⟩ hll hx7 kx L.length 0 J (Nat.zero_add _) kU.refl

/-- the parts' NAMES have their numbers, k of them -/
def qU (ns pa : List Int64) (k : Nat) (J1 J : pmJ) : Prop := (∀ a, a ≠ 14 → J a = J1 a) ∧ (∀ j, k ≤ j → J 14 j = J1 14 j) ∧ ∀ (j : Nat) (v : Int64), j < k → pa[j]? = some v → J 14 j = hN ns v
theorem qU.refl {ns pa : List Int64} {J : pmJ} : qU ns pa 0 J J := ⟨fun _ _ => rfl, fun _ _ => rfl, fun j v h => absurd h (Nat.not_lt_zero _)⟩
theorem qU.add {ns pa : List Int64} {k : Nat} {J1 J : pmJ} {v : Int64} (h : qU ns pa k J1 J) (hv : pa[k]? = some v) : qU ns pa (k + 1) J1 (pm_u J 14 k (hN ns v)) := by
  refine ⟨fun a ha => by rw [pm_u_ne ha]; exact h.1 a ha, fun j hj => by rw [pm_u_eq, pm_up_ne (by omega)]; exact h.2.1 j (by omega), fun j u hj hu => ?_⟩
  rw [pm_u_eq]
  by_cases e : j = k
  · subst e
    rw [hv] at hu
    cases hu
    exact pm_up_eq
  · rw [pm_up_ne e]; exact h.2.2 j u (by omega) hu
set_option maxRecDepth 20000 in
set_option maxHeartbeats 4000000 in
theorem c_prt_lp {l : Launch} {E : pmE} {d : Nat} {S : pmS} {P : pmP} {Q : Option Value → pmS → pmI → pmJ → pmP → Prop} {I : pmI} {J1 : pmJ} (hG : sh_St S) (hP : gr_St P) (hd : 1 ≤ d) {ns : List Int64} (hn : I 16 4 = nI ns.length) (hl : ns.length ≤ 40) (hJ : ∀ (j : Nat) (v : Int64), ns[j]? = some v → J1 17 j = v) (hnd : ns.Nodup) {pa : List Int64} (h83 : I 8 3 = nI pa.length) (hp3 : pa.length ≤ 3) (hpa : ∀ (j : Nat) (v : Int64), pa[j]? = some v → J1 14 j = v ∧ v ∈ ns) {x2 : Int32} (kx : ∀ J', qU ns pa pa.length J1 J' → Q none S I J' P) : ∀ (m k : Nat) (J : pmJ), k + m = pa.length → qU ns pa k J1 J → pm_W l E yX3_numberNames cX3_numberNames 4 none d 0 0 24 [(3, .int (nI k)), (0, .ref 8), (1, .ref 16), (2, .int x2)] [] S I J P (pm_N E Q)
  | 0, k, J, hk, h => by
    refine pw_iload_n dX3_numberNames_24 rfl ?_
    refine pw_aload_n dX3_numberNames_25 rfl ?_
    refine pw_getI fX3_31 dX3_numberNames_26 (sh_lt hG (by decide)) (sh_tg hG 6 rfl) rfl ?_
    refine pw_ti (z := nI pa.length) h83 ?_
    refine pw_icmpN_ge _ _ (tgt := 55) dX3_numberNames_29 (by decide) (rfl) (rfl) (by omega) (by omega) (fun h29 => ?_) (fun h29 => absurd h29 (by omega))
    exact pw_vret dX3_numberNames_55 rfl (by
      have e : k = pa.length := by omega
      subst e
      exact kx J h)
  | m + 1, k, J, hk, h => by
    have hkl : k < pa.length := by omega
    obtain ⟨v, hv⟩ : ∃ v, pa[k]? = some v := ⟨_, List.getElem?_eq_getElem hkl⟩
    refine pw_iload_n dX3_numberNames_24 rfl ?_
    refine pw_aload_n dX3_numberNames_25 rfl ?_
    refine pw_getI fX3_31 dX3_numberNames_26 (sh_lt hG (by decide)) (sh_tg hG 6 rfl) rfl ?_
    refine pw_ti (z := nI pa.length) h83 ?_
    refine pw_icmpN_ge _ _ (tgt := 55) dX3_numberNames_29 (by decide) (rfl) (rfl) (by omega) (by omega) (fun h29 => absurd h29 (by omega)) (fun h29 => ?_)
    refine pw_aload_n dX3_numberNames_32 rfl ?_
    refine pw_getR fX3_20 dX3_numberNames_33 (sh_lt hG (by decide)) (sh_tg hG 6 rfl) rfl (gr_at hP 10 rfl) ?_
    refine pw_iload_n dX3_numberNames_36 rfl ?_
    refine pw_aload_n dX3_numberNames_37 rfl ?_
    refine pw_aload_n dX3_numberNames_38 rfl ?_
    refine pw_getR fX3_20 dX3_numberNames_39 (sh_lt hG (by decide)) (sh_tg hG 6 rfl) rfl (gr_at hP 10 rfl) ?_
    refine pw_iload_n dX3_numberNames_42 rfl ?_
    refine pw_laldN k dX3_numberNames_43 (sh_lt hG (by decide)) (sh_sh hG 12 rfl) (by decide) (rfl) (by omega) ?_
    refine pw_tj (z := v) (by rw [h.2.1 k (Nat.le_refl _)]; exact (hpa k v hv).1) ?_
    refine pw_callV (as := [_]) (kc' := 0) (ks' := 0) lX3_84 dX3_numberNames_44 rfl rfl (sh_lt hG (by decide)) (sh_tg hG 14 rfl) (Nat.le_of_ble_eq_true rfl) (by omega) (Nat.le_of_ble_eq_true rfl) (Nat.zero_le _) (Nat.zero_le _) ?_
    refine c_find hG hP hn hl (fun j v hj => by rw [h.1 17 (by decide)]; exact hJ j v hj) hnd (fun _ => ?_) (fun q => absurd (hpa k v hv).2 q)
    refine pw_i2l dX3_numberNames_47 ?_
    refine pw_tj (z := hN ns v) (by unfold hN; exact nI_l (by have := (ns_at (hpa k v hv).2).2; omega)) ?_
    refine pw_lastN k dX3_numberNames_48 (by decide) (sh_lt hG (by decide)) (sh_sh hG 12 rfl) (by decide) (rfl) (by omega) ?_
    refine pw_iinc (lv' := [(3, _), (0, _), (1, _), (2, _)]) dX3_numberNames_49 rfl (by decide) rfl ?_
    refine pw_goto (tgt := 24) dX3_numberNames_52 (by decide) ?_
    refine pm_lvs (lv' := [(3, .int (nI (k + 1))), (0, _), (1, _), (2, _)]) (by rw [show nI k + Int32.ofInt 1 = nI (k + 1) from nI_add k 1]) ?_
    exact c_prt_lp hG hP hd hn hl hJ hnd h83 hp3 hpa kx m (k + 1) _ (by omega) (h.add hv)
/-- numberNames(): code, what is declared, parts have their NAMES' numbers -/
def cNm (ns : List Int64) (form : Nat) (dec : Int64) (pa : List Int64) (L : List dD) (I : pmI) (J : pmJ) (x2 : Int32) (I' : pmI) (J' : pmJ) : Prop := I' = pm_u I 9 5 x2 ∧ ∃ J1 z, kU ns L L.length J J1 ∧ (form ≠ 0 → z = hN ns dec) ∧ qU ns pa pa.length (pm_u J1 8 5 z) J'
set_option maxRecDepth 20000 in
set_option maxHeartbeats 4000000 in
theorem c_X3_num {l : Launch} {E : pmE} {d : Nat} {S : pmS} {I : pmI} {J : pmJ} {P : pmP} {Q : Option Value → pmS → pmI → pmJ → pmP → Prop} (hG : sh_St S) (hP : gr_St P) (hd : 2 ≤ d) {ns : List Int64} (hn : I 16 4 = nI ns.length) (hl : ns.length ≤ 40) (hJ : ∀ (j : Nat) (v : Int64), ns[j]? = some v → J 17 j = v) (hnd : ns.Nodup) {L : List dD} (hL : cd I J L) (hll : L.length ≤ 121) (hx7 : ∀ x ∈ L, x.1 < 128) {pa : List Int64} (hP3 : rdP I J pa) (hpn : ∀ v ∈ pa, v ∈ ns) {form : Nat} {dec : Int64} (hdec : J 8 5 = dec) (hdn : form ≠ 0 → dec ∈ ns) {x2 : Int32} (k : ∀ I' J', cNm ns form dec pa L I J x2 I' J' → Q none S I' J' P) : pm_Met l E yX3_numberNames cX3_numberNames 4 none d 0 0 [.ref 8, .ref 16, .int x2] S I J P Q := by
  unfold pm_Met
  refine pm_lvs (lv' := [(0, _), (1, _), (2, _)]) rfl ?_
  refine pw_aload_n dX3_numberNames_0 rfl ?_
  refine pw_getR fX3_14 dX3_numberNames_1 (sh_lt hG (by decide)) (sh_tg hG 6 rfl) rfl (gr_at hP 9 rfl) ?_
  refine pw_aload_n dX3_numberNames_4 rfl ?_
  refine pw_iload_n dX3_numberNames_5 rfl ?_
  refine pw_callV (as := [_, _]) (kc' := 0) (ks' := 0) lX3_80 dX3_numberNames_6 rfl rfl (sh_lt hG (by decide)) (sh_tg hG 7 rfl) (Nat.le_of_ble_eq_true rfl) (by omega) (Nat.le_of_ble_eq_true rfl) (Nat.zero_le _) (Nat.zero_le _) ?_
  refine c_num hG hP (by omega) hn hl hJ hnd hL hll hx7 (fun J2 hk1 => ?_)
  refine pw_aload_n dX3_numberNames_9 rfl ?_
  refine pw_aload_n dX3_numberNames_10 rfl ?_
  refine pw_aload_n dX3_numberNames_11 rfl ?_
  refine pw_getJ fX3_35 dX3_numberNames_12 (sh_lt hG (by decide)) (sh_tg hG 6 rfl) rfl ?_
  refine pw_tj (z := dec) (by rw [hk1.1 8 (by decide)]; exact hdec) ?_
  refine pw_callV (as := [_]) (kc' := 0) (ks' := 0) lX3_84 dX3_numberNames_15 rfl rfl (sh_lt hG (by decide)) (sh_tg hG 14 rfl) (Nat.le_of_ble_eq_true rfl) (by omega) (Nat.le_of_ble_eq_true rfl) (Nat.zero_le _) (Nat.zero_le _) ?_
  refine c_find hG hP (by rw [pm_u_ne (by decide)]; exact hn) hl (fun j v hj => by rw [hk1.1 17 (by decide)]; exact hJ j v hj) hnd (fun hm9 => ?_) (fun hm9 => ?_)
  · refine pw_i2l dX3_numberNames_18 ?_
    refine pw_putJ fX3_35 dX3_numberNames_19 (Or.inl rfl) (by decide) (sh_lt hG (by decide)) (sh_tg hG 6 rfl) rfl ?_
    refine pw_iconst (v := nI 0) dX3_numberNames_22 (by decide) ?_
    refine pw_istore_n (lv' := [(3, _), (0, _), (1, _), (2, _)]) dX3_numberNames_23 (by decide) rfl ?_
    refine pm_lvs (lv' := [(3, .int (nI 0)), (0, _), (1, _), (2, _)]) rfl ?_
    exact c_prt_lp hG hP (by omega) (by rw [pm_u_ne (by decide)]; exact hn) hl (fun j v hj => by rw [pm_u_ne (by decide), hk1.1 17 (by decide)]; exact hJ j v hj) hnd (by rw [pm_u_ne (by decide)]; exact hP3.1) hP3.2.1 (fun j v hj => ⟨by rw [pm_u_ne (by decide), hk1.1 14 (by decide)]; exact hP3.2.2 j v hj, hpn v (List.mem_of_getElem? hj)⟩) (fun J' hq => k _ _ ⟨rfl, J2, _, hk1, fun _ => by unfold hN; exact nI_l (by have := (ns_at hm9).2; omega), hq⟩) pa.length 0 _ (Nat.zero_add _) qU.refl
  · refine pw_i2l dX3_numberNames_18 ?_
    refine pw_putJ fX3_35 dX3_numberNames_19 (Or.inl rfl) (by decide) (sh_lt hG (by decide)) (sh_tg hG 6 rfl) rfl ?_
    refine pw_iconst (v := nI 0) dX3_numberNames_22 (by decide) ?_
    refine pw_istore_n (lv' := [(3, _), (0, _), (1, _), (2, _)]) dX3_numberNames_23 (by decide) rfl ?_
    refine pm_lvs (lv' := [(3, .int (nI 0)), (0, _), (1, _), (2, _)]) rfl ?_
    exact c_prt_lp hG hP (by omega) (by rw [pm_u_ne (by decide)]; exact hn) hl (fun j v hj => by rw [pm_u_ne (by decide), hk1.1 17 (by decide)]; exact hJ j v hj) hnd (by rw [pm_u_ne (by decide)]; exact hP3.1) hP3.2.1 (fun j v hj => ⟨by rw [pm_u_ne (by decide), hk1.1 14 (by decide)]; exact hP3.2.2 j v hj, hpn v (List.mem_of_getElem? hj)⟩) (fun J' hq => k _ _ ⟨rfl, J2, _, hk1, fun q => absurd (hdn q) hm9, hq⟩) pa.length 0 _ (Nat.zero_add _) qU.refl
