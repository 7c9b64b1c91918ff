set_option maxRecDepth 20000 in
set_option maxHeartbeats 800000 in
theorem c_rwf {l : Launch} {E : pmE} {d : Nat} {S : pmS} {I : pmI} {J : pmJ} {P : pmP} {Q : Option Value → pmS → pmI → pmJ → pmP → Prop} (hG : sh_St S) (hP : gr_St P) (hd : 14 ≤ d) {A : aS} {Z : Nat → Nat} {b m n form : Nat} {tx : Nat → Nat} {dec : Int64} {pa : List Int64} {L : List dD} {T : eX} (hb6 : b = 22 ∨ 96 ≤ b) (hO : aO A) (hsl : A.sn.length < 40) (hn : n ≤ 120) (hb8 : ∀ j, j < n → tx j < 128) (hf3 : form ≤ 3) (hp3 : pa.length ≤ 3) (hdn : form ≠ 0 → dec ∈ A.ns) (hpn : ∀ v ∈ pa, v ∈ A.ns) (hR : rnT A form pa L T) (hc : cA S I J P A Z b) (ht : tC S I J P A A.th b m) (hTx : tX I 3 tx n) (h25 : I 2 5 = nI n) (hf : I 8 4 = nI form) (hdec : J 8 5 = dec) (hP3 : rdP I J pa) (hL : cd I J (L ++ [(13, 0, 0, 0)])) (hll : L.length ≤ 120) (k : ∀ S' I' J' P' Z' b', sh_St S' → gr_St P' → (b' = 22 ∨ 96 ≤ b') → oF I J P I' J' P' → cA S' I' J' P' (rnK A form dec pa L T tx n).2 Z' b' → aO (rnK A form dec pa L T tx n).2 → tC S' I' J' P' (rnK A form dec pa L T tx n).2 (rnK A form dec pa L T tx n).2.th b' (rnM A form L T m) → Q (some (.int (rnK A form dec pa L T tx n).1)) S' I' J' P') : pm_Met l E yX9_runWithoutFault cX9_runWithoutFault 2 (some .int) d (rnM A form L T m - m + 8) (18 * (rnM A form L T m - m) + 620) [.ref 2] S I J P Q := by
  unfold pm_Met
  have h96 := hG.1
  refine pm_lvs (lv' := [(0, _)]) rfl ?_
  refine pw_aload_n dX9_runWithoutFault_0 rfl ?_
  refine pw_getR fX9_41 dX9_runWithoutFault_1 (sh_lt hG (by decide)) (sh_tg hG 0 rfl) rfl (gr_at hP 4 rfl) ?_
  refine pw_callV (as := []) (kc' := 0) (ks' := 0) lX9_69 dX9_runWithoutFault_4 rfl rfl (sh_lt hG (by decide)) (sh_tg hG 32 rfl) (Nat.le_of_ble_eq_true rfl) (by omega) (Nat.le_of_ble_eq_true rfl) (Nat.zero_le _) (Nat.zero_le _) ?_
  refine c_forget hG hP (by omega) (fun I1 hi1 hz1 => ?_)
  refine pw_aload_n dX9_runWithoutFault_7 rfl ?_
  refine pw_getR fX9_25 dX9_runWithoutFault_8 (sh_lt hG (by decide)) (sh_tg hG 0 rfl) rfl (gr_at hP 2 rfl) ?_
  refine pw_aload_n dX9_runWithoutFault_11 rfl ?_
  refine pw_getR fX9_32 dX9_runWithoutFault_12 (sh_lt hG (by decide)) (sh_tg hG 0 rfl) rfl (gr_at hP 3 rfl) ?_
  refine pw_getR fX9_72 dX9_runWithoutFault_15 (sh_lt hG (by decide)) (sh_tg hG 13 rfl) rfl (gr_at hP 15 rfl) ?_
  refine pw_aload_n dX9_runWithoutFault_18 rfl ?_
  refine pw_getR fX9_32 dX9_runWithoutFault_19 (sh_lt hG (by decide)) (sh_tg hG 0 rfl) rfl (gr_at hP 3 rfl) ?_
  refine pw_callV (as := []) (kc' := 0) (ks' := 0) lX9_170 dX9_runWithoutFault_22 rfl rfl (sh_lt hG (by decide)) (sh_tg hG 13 rfl) (Nat.le_of_ble_eq_true rfl) (by omega) (Nat.le_of_ble_eq_true rfl) (Nat.zero_le _) (Nat.zero_le _) ?_
  unfold pm_Met
  refine pm_lvs (lv' := [(0, _)]) rfl ?_
  refine pw_aload_n dX4_keptCount_0 rfl ?_
  refine pw_getI fX4_49 dX4_keptCount_1 (sh_lt hG (by decide)) (sh_tg hG 13 rfl) rfl ?_
  refine pw_iret dX4_keptCount_4 rfl ?_
  refine pw_callV (as := [_, _]) (kc' := 0) (ks' := 0) lX9_192 dX9_runWithoutFault_25 rfl rfl (sh_lt hG (by decide)) (sh_tg hG 6 rfl) (Nat.le_of_ble_eq_true rfl) (by omega) (Nat.le_of_ble_eq_true rfl) (Nat.zero_le _) (Nat.zero_le _) ?_
  have hL1 : cd I1 J (L ++ [(13, 0, 0, 0)]) := ⟨by rw [hi1 9 (by decide)]; exact hL.1, fun j q hq => by rw [hi1 10 (by decide), hi1 11 (by decide), hi1 12 (by decide)]; exact hL.2 j q hq⟩
  have hll1 : (L ++ [((13, 0, 0, 0) : dD)]).length ≤ 121 := by rw [List.length_append, List.length_singleton]; omega
  have hx7 : ∀ x ∈ L ++ [((13, 0, 0, 0) : dD)], x.1 < 128 := fun x hx => by
    rcases List.mem_append.mp hx with hx | hx
    · exact hR.lt x hx
    · cases List.mem_singleton.mp hx
      exact (by decide : (13 : Nat) < 128)
  have hxd : ∀ x ∈ L ++ [((13, 0, 0, 0) : dD)], dN x.1 → x.2.2.2 ∈ A.ns := fun x hx hd => by
    rcases List.mem_append.mp hx with hx | hx
    · exact hR.dn x hx hd
    · cases List.mem_singleton.mp hx
      exact absurd hd (by show ¬ ((13 : Nat) = 5 ∨ (13 : Nat) = 6 ∨ (13 : Nat) = 8 ∨ (13 : Nat) = 9); decide)
  refine c_X3_num (ns := A.ns) (form := form) (dec := dec) (pa := pa) (L := L ++ [(13, 0, 0, 0)]) hG hP (by omega) (by rw [hi1 16 (by decide)]; exact hc.n) hO.1.2 (fun j v hj => (hc.2.1 j v hj).1) hO.1.1 hL1 hll1 hx7 ⟨by rw [hi1 8 (by decide)]; exact hP3.1, hP3.2.1, hP3.2.2⟩ hpn hdec hdn (fun I2 J2 hN2 => ?_)
  obtain ⟨hI2, J3, z, hkU, hz, hqU⟩ := hN2
  subst hI2
  have ei : ∀ a, a ≠ 9 → a ≠ 41 → pm_u I1 9 5 (I1 15 5) a = I a := fun a h1 h2 => by rw [pm_u_ne h1]; exact hi1 a h2
  have ej : ∀ a, a ≠ 8 → a ≠ 13 → a ≠ 14 → J2 a = J a := fun a h1 h2 h3 => by rw [hqU.1 a h3, pm_u_ne h1]; exact hkU.1 a h2
  have hZ : zF S I J P S (pm_u I1 9 5 (I1 15 5)) J2 P := ⟨Nat.le_refl _, fun _ _ => rfl, fun a h1 h2 => ⟨ei a (by omega) (by omega), ej a (by omega) (by omega) (by omega), rfl⟩⟩
  have hoF : oF I J P (pm_u I1 9 5 (I1 15 5)) J2 P := fun a ha => ⟨ei a (by omega) (by omega), ej a (by omega) (by omega) (by omega), rfl⟩
  have hrw : rwS S (pm_u I1 9 5 (I1 15 5)) J2 P A Z b m n tx form dec pa L := by
    refine ⟨hc.zF (by omega) hZ, ht.zF (by omega) hZ, kC_num hG hP hL1 hll1 hkU hxd (by rw [pm_u_eq, pm_up_ne (by decide)]) (pm_u_ne (by decide)) (pm_u_ne (by decide)) (by rw [hqU.1 13 (by decide), pm_u_ne (by decide)]), by rw [ei 8 (by decide) (by decide)]; exact hf, fun q => ?_, by rw [ei 8 (by decide) (by decide)]; exact hP3.1, fun j v hj => hqU.2.2 j v (List.getElem?_eq_some_iff.mp hj).1 hj, fun j hj => by rw [ei 3 (by decide) (by decide)]; exact hTx j hj, by rw [ei 2 (by decide) (by decide)]; exact h25, by rw [pm_u_ne (by decide)]; exact hz1 0 (by decide), by rw [pm_u_ne (by decide)]; exact hz1 4 (by decide)⟩
    rw [hqU.1 8 (by decide), pm_u_eq, pm_up_eq]
    exact hz q
  refine pw_aload_n dX9_runWithoutFault_28 rfl ?_
  refine pw_getR fX9_25 dX9_runWithoutFault_29 (sh_lt hG (by decide)) (sh_tg hG 0 rfl) rfl (gr_at hP 2 rfl) ?_
  refine pw_callV (as := []) (kc' := 0) (ks' := 0) lX9_196 dX9_runWithoutFault_32 rfl rfl (sh_lt hG (by decide)) (sh_tg hG 6 rfl) (Nat.le_of_ble_eq_true rfl) (by omega) (Nat.le_of_ble_eq_true rfl) (Nat.zero_le _) (Nat.zero_le _) ?_
  unfold pm_Met
  refine pm_lvs (lv' := [(0, _)]) rfl ?_
  refine pw_aload_n dX3_form_0 rfl ?_
  refine pw_getI fX3_77 dX3_form_1 (sh_lt hG (by decide)) (sh_tg hG 6 rfl) rfl ?_
  refine pw_iret dX3_form_4 rfl ?_
  refine pw_ti (z := nI form) hrw.2.2.2.1 ?_
  refine pw_istore_n (lv' := [(1, _), (0, _)]) dX9_runWithoutFault_35 (by decide) rfl ?_
  rcases hR with h | h | h
  · rcases Nat.lt_or_ge form 2 with q | q
    · have e : pa = [] := h.2.1 (by omega)
      subst e
      exact c_rwf1 hG hP hd hb6 hO hsl hn hb8 hf3 hp3 hdn hpn (Or.inl h) hrw (by omega) h.2.2.1 h.2.2.2 (fun S' I' J' P' Z' b' q1 q2 q3 q4 q5 q6 q7 => k S' I' J' P' Z' b' q1 q2 q3 (hoF.trans q4) q5 q6 q7)
    · exact c_rwf3 hG hP hd hb6 hO hsl hn hb8 hf3 hp3 hdn hpn (Or.inl h) hrw q (fun S' I' J' P' Z' b' q1 q2 q3 q4 q5 q6 q7 => k S' I' J' P' Z' b' q1 q2 q3 (hoF.trans q4) q5 q6 q7)
  · exact c_rwf2 hG hP hd hb6 hO hsl hn hb8 hf3 hp3 hdn hpn (Or.inr (Or.inl h)) hrw h.1 h.2.2 h.2.1 (fun S' I' J' P' Z' b' q1 q2 q3 q4 q5 q6 q7 => k S' I' J' P' Z' b' q1 q2 q3 (hoF.trans q4) q5 q6 q7)
  · exact c_rwf3 hG hP hd hb6 hO hsl hn hb8 hf3 hp3 hdn hpn (Or.inr (Or.inr h)) hrw (by omega) (fun S' I' J' P' Z' b' q1 q2 q3 q4 q5 q6 q7 => k S' I' J' P' Z' b' q1 q2 q3 (hoF.trans q4) q5 q6 q7)
