theorem rC.nU {tx : Nat → Nat} {n i : Nat} {ns ns' : List Int64} {I0 I : pmI} {J0 J : pmJ} (hC : rC tx n I0 J0 i) (h : nUr ns I0 J0 I J ns') : rC tx n I J i :=
  ⟨by rw [h.2.1 36 (by decide)]; exact hC.1, hC.2.1, hC.2.2.1, fun j hj => by rw [(h.1 79 (by decide) (by omega)).2]; exact hC.2.2.2.1 j hj, fun j hj => by rw [(h.1 77 (by decide) (by omega)).1, (h.1 78 (by decide) (by omega)).1]; exact hC.2.2.2.2 j hj⟩
set_option maxRecDepth 20000 in
set_option maxHeartbeats 4000000 in
theorem r_num1 {l : Launch} {E : pmE} {d : Nat} {S : pmS} {P : pmP} {Q : Option Value → pmS → pmI → pmJ → pmP → Prop} (hG : sh_St S) (hP : gr_St P) (hd : 1 ≤ d) {tx : Nat → Nat} {n i : Nat} (hb : ∀ j, j < n → tx j < 128) {I0 : pmI} {J0 : pmJ} (hC : rC tx n I0 J0 i) {ns : List Int64} (hJ : ∀ (j : Nat) (v : Int64), ns[j]? = some v → J0 49 j = v) (hnd : ns.Nodup) (hlen : (nmF (tk_k tx n) (tk_v tx n) ns (i + 1)).length ≤ 40) (kx : ∀ I' J', nUr ns I0 J0 I' J' (nmF (tk_k tx n) (tk_v tx n) ns (i + 1)) → pm_W l E yX10_number cX10_number 2 none d 0 0 97 [(1, .int (nI (i + 1))), (0, .ref 47)] [] S I' J' P (pm_N E Q)) : ∀ (m k : Nat) (I : pmI) (J : pmJ), k + m = i + 1 → nUr ns I0 J0 I J (nmF (tk_k tx n) (tk_v tx n) ns k) → pm_W l E yX10_number cX10_number 2 none d 0 0 2 [(1, .int (nI k)), (0, .ref 47)] [] S I J P (pm_N E Q)
  | 0, k, I, J, hk, h => by
    have hC2 := hC.nU h
    have hi6 := hC2.2.1
    have hJ2 := h.at (nmF_pre k) hJ
    have hnd2 := nmF_nd (kd := tk_k tx n) (co := tk_v tx n) hnd k
    have hkc := (rk_c (tk_k_c (tx := tx) (n := n) (i := k) hb).1)
    have hmo := (nmF_mono (kd := tk_k tx n) (co := tk_v tx n) (ns := ns) k 0).length_le
    rw [show k + 0 = i + 1 by omega] at hmo
    refine pw_iload_n dX10_number_2 rfl ?_
    refine pw_aload_n dX10_number_3 rfl ?_
    refine pw_getI fX10_167 dX10_number_4 (sh_lt hG (by decide)) (sh_tg hG 45 rfl) rfl ?_
    refine pw_ti (z := nI (i + 1)) hC2.1 ?_
    refine pw_icmpN_ge _ _ (tgt := 97) dX10_number_7 (by decide) (rfl) (rfl) (by omega) (by omega) (fun h7 => ?_) (fun h7 => absurd h7 (by omega))
    have e : k = i + 1 := by omega
    subst e
    exact kx I J h
  | m + 1, k, I, J, hk, h => by
    have hC2 := hC.nU h
    have hi6 := hC2.2.1
    have hJ2 := h.at (nmF_pre k) hJ
    have hnd2 := nmF_nd (kd := tk_k tx n) (co := tk_v tx n) hnd k
    have hkc := (rk_c (tk_k_c (tx := tx) (n := n) (i := k) hb).1)
    have hmo := (nmF_mono (kd := tk_k tx n) (co := tk_v tx n) (ns := ns) k (m + 1)).length_le
    rw [show k + (m + 1) = i + 1 by omega] at hmo
    refine pw_iload_n dX10_number_2 rfl ?_
    refine pw_aload_n dX10_number_3 rfl ?_
    refine pw_getI fX10_167 dX10_number_4 (sh_lt hG (by decide)) (sh_tg hG 45 rfl) rfl ?_
    refine pw_ti (z := nI (i + 1)) hC2.1 ?_
    refine pw_icmpN_ge _ _ (tgt := 97) dX10_number_7 (by decide) (rfl) (rfl) (by omega) (by omega) (fun h7 => absurd h7 (by omega)) (fun h7 => ?_)
    refine pw_aload_n dX10_number_10 rfl ?_
    refine pw_getR fX10_99 dX10_number_11 (sh_lt hG (by decide)) (sh_tg hG 45 rfl) rfl (gr_at hP 69 rfl) ?_
    refine pw_iload_n dX10_number_14 rfl ?_
    refine pw_ialdN k dX10_number_15 (sh_lt hG (by decide)) (sh_sh hG 75 rfl) (by decide) (rfl) (by omega) ?_
    refine pw_ti (z := nI (rk (tk_k tx n k))) (hC2.2.2.2.2 k (by omega)).1 ?_
    refine pw_iconst (v := nI 1) dX10_number_16 (by decide) ?_
    refine pw_icmpN_ne _ _ (tgt := 91) dX10_number_17 (by decide) (rfl) (rfl) (by omega) (by omega) (fun h17 => ?_) (fun h17 => ?_)
    · have hno : ¬ (tk_k tx n k = 97 ∧ tk_v tx n k ∉ (nmF (tk_k tx n) (tk_v tx n) ns k)) := fun q => h17 ((rq97 hb).mpr q.1)
      refine pw_iinc (lv' := [(1, _), (0, _)]) dX10_number_91 rfl (by decide) rfl ?_
      refine pw_goto (tgt := 2) dX10_number_94 (by decide) ?_
      refine pm_lvs (lv' := [(1, .int (nI (k + 1))), (0, _)]) (by rw [show nI k + Int32.ofInt 1 = nI (k + 1) from nI_add k 1]) ?_
      exact r_num1 hG hP hd hb hC hJ hnd hlen kx m (k + 1) _ _ (by omega) (by rw [nmF_n hno]; exact h)
    · have h97 := (rq97 hb).mp h17
      have hki : k < i := by
        rcases Nat.lt_or_ge k i with g | g
        · exact g
        · exfalso
          have e : k = i := by omega
          subst e
          rcases hC.2.2.1 with q | q <;> (rw [h97] at q; cases q)
      refine pw_aload_n dX10_number_20 rfl ?_
      refine pw_aload_n dX10_number_21 rfl ?_
      refine pw_getR fX10_105 dX10_number_22 (sh_lt hG (by decide)) (sh_tg hG 45 rfl) rfl (gr_at hP 71 rfl) ?_
      refine pw_iload_n dX10_number_25 rfl ?_
      refine pw_laldN k dX10_number_26 (sh_lt hG (by decide)) (sh_sh hG 77 rfl) (by decide) (rfl) (by omega) ?_
      refine pw_tj (z := tk_v tx n k) (hC2.2.2.2.1 k (by omega)).2.2 ?_
      refine pw_callV (as := [_]) (kc' := 0) (ks' := 0) lX10_276 dX10_number_27 rfl rfl (sh_lt hG (by decide)) (sh_tg hG 45 rfl) (Nat.le_of_ble_eq_true rfl) (by omega) (Nat.le_of_ble_eq_true rfl) (Nat.zero_le _) (Nat.zero_le _) ?_
      refine r_find hG hP h.2.2.2.1 (by omega) hJ2 hnd2 (fun hm => ?_) (fun hm => ?_)
      · refine pw_bipush (v := -5) dX10_number_30 (by decide) ?_
        refine pw_icmp_ne (tgt := 91) dX10_number_32 (by decide) (fun h32 => ?_) (fun h => absurd h (nI_n5 (by have := (ns_at hm).2; omega)))
        have hno : ¬ (tk_k tx n k = 97 ∧ tk_v tx n k ∉ (nmF (tk_k tx n) (tk_v tx n) ns k)) := fun q => q.2 hm
        refine pw_iinc (lv' := [(1, _), (0, _)]) dX10_number_91 rfl (by decide) rfl ?_
        refine pw_goto (tgt := 2) dX10_number_94 (by decide) ?_
        refine pm_lvs (lv' := [(1, .int (nI (k + 1))), (0, _)]) (by rw [show nI k + Int32.ofInt 1 = nI (k + 1) from nI_add k 1]) ?_
        exact r_num1 hG hP hd hb hC hJ hnd hlen kx m (k + 1) _ _ (by omega) (by rw [nmF_n hno]; exact h)
      · have hy : tk_k tx n k = 97 ∧ tk_v tx n k ∉ (nmF (tk_k tx n) (tk_v tx n) ns k) := ⟨h97, hm⟩
        have hmo1 := (nmF_mono (kd := tk_k tx n) (co := tk_v tx n) (ns := ns) (k + 1) m).length_le
        rw [nmF_y hy, List.length_append, List.length_singleton, show k + 1 + m = i + 1 by omega] at hmo1
        refine pw_bipush (v := -5) dX10_number_30 (by decide) ?_
        refine pw_icmp_ne (tgt := 91) dX10_number_32 (by decide) (fun h => absurd (rfl) h) (fun h32 => ?_)
        refine pw_aload_n dX10_number_35 rfl ?_
        refine pw_getR fX10_13 dX10_number_36 (sh_lt hG (by decide)) (sh_tg hG 45 rfl) rfl (gr_at hP 41 rfl) ?_
        refine pw_aload_n dX10_number_39 rfl ?_
        refine pw_getI fX10_273 dX10_number_40 (sh_lt hG (by decide)) (sh_tg hG 45 rfl) rfl ?_
        refine pw_aload_n dX10_number_43 rfl ?_
        refine pw_getR fX10_105 dX10_number_44 (sh_lt hG (by decide)) (sh_tg hG 45 rfl) rfl (gr_at hP 71 rfl) ?_
        refine pw_iload_n dX10_number_47 rfl ?_
        refine pw_laldN k dX10_number_48 (sh_lt hG (by decide)) (sh_sh hG 77 rfl) (by decide) (rfl) (by omega) ?_
        refine pw_tj (z := tk_v tx n k) (hC2.2.2.2.1 k (by omega)).2.2 ?_
        refine pw_lastN (nmF (tk_k tx n) (tk_v tx n) ns k).length dX10_number_49 (by decide) (sh_lt hG (by decide)) (sh_sh hG 47 rfl) (by decide) (h.2.2.2.1) (by omega) ?_
        refine pw_aload_n dX10_number_50 rfl ?_
        refine pw_getR fX10_17 dX10_number_51 (sh_lt hG (by decide)) (sh_tg hG 45 rfl) rfl (gr_at hP 42 rfl) ?_
        refine pw_aload_n dX10_number_54 rfl ?_
        refine pw_getI fX10_273 dX10_number_55 (sh_lt hG (by decide)) (sh_tg hG 45 rfl) rfl ?_
        refine pw_iconst (v := nI 0) dX10_number_58 (by decide) ?_
        refine pw_iastN (nmF (tk_k tx n) (tk_v tx n) ns k).length dX10_number_59 (by decide) (sh_lt hG (by decide)) (sh_sh hG 48 rfl) (by decide) (h.2.2.2.1) (by omega) ?_
        refine pw_aload_n dX10_number_60 rfl ?_
        refine pw_getR fX10_20 dX10_number_61 (sh_lt hG (by decide)) (sh_tg hG 45 rfl) rfl (gr_at hP 43 rfl) ?_
        refine pw_aload_n dX10_number_64 rfl ?_
        refine pw_getI fX10_273 dX10_number_65 (sh_lt hG (by decide)) (sh_tg hG 45 rfl) rfl ?_
        refine pw_bipush (v := -5) dX10_number_68 (by decide) ?_
        refine pw_iastN (nmF (tk_k tx n) (tk_v tx n) ns k).length dX10_number_70 (by decide) (sh_lt hG (by decide)) (sh_sh hG 49 rfl) (by decide) (by rw [pm_u_ne (by decide)]; exact h.2.2.2.1) (by omega) ?_
        refine pw_aload_n dX10_number_71 rfl ?_
        refine pw_getR fX10_23 dX10_number_72 (sh_lt hG (by decide)) (sh_tg hG 45 rfl) rfl (gr_at hP 44 rfl) ?_
        refine pw_aload_n dX10_number_75 rfl ?_
        refine pw_getI fX10_273 dX10_number_76 (sh_lt hG (by decide)) (sh_tg hG 45 rfl) rfl ?_
        refine pw_iconst (v := nI 0) dX10_number_79 (by decide) ?_
        refine pw_iastN (nmF (tk_k tx n) (tk_v tx n) ns k).length dX10_number_80 (by decide) (sh_lt hG (by decide)) (sh_sh hG 50 rfl) (by decide) (by rw [pm_u_ne (by decide), pm_u_ne (by decide)]; exact h.2.2.2.1) (by omega) ?_
        refine pw_aload_n dX10_number_81 rfl ?_
        refine pw_dup dX10_number_82 rfl ?_
        refine pw_getI fX10_273 dX10_number_83 (sh_lt hG (by decide)) (sh_tg hG 45 rfl) rfl ?_
        refine pw_iconst (v := nI 1) dX10_number_86 (by decide) ?_
        refine pw_iadd dX10_number_87 ?_
        refine pw_ti (z := nI ((nmF (tk_k tx n) (tk_v tx n) ns k).length + 1)) (by rw [pm_u_ne (by decide), pm_u_ne (by decide), pm_u_ne (by decide), h.2.2.2.1]; exact nI_add _ 1) ?_
        refine pw_putI fX10_273 dX10_number_88 (Or.inl rfl) (by decide) (sh_lt hG (by decide)) (sh_tg hG 45 rfl) rfl ?_
        refine pw_iinc (lv' := [(1, _), (0, _)]) dX10_number_91 rfl (by decide) rfl ?_
        refine pw_goto (tgt := 2) dX10_number_94 (by decide) ?_
        refine pm_lvs (lv' := [(1, .int (nI (k + 1))), (0, _)]) (by rw [show nI k + Int32.ofInt 1 = nI (k + 1) from nI_add k 1]) ?_
        exact r_num1 hG hP hd hb hC hJ hnd hlen kx m (k + 1) _ _ (by omega) (by rw [nmF_y hy]; exact h.add (nmF_pre k).length_le)
/-- nodes lo to K have their NAMES' numbers -/
def vU (ns : List Int64) (lo K : Nat) (I : pmI) (J1 J : pmJ) : Prop := (∀ a, a ≠ 70 → J a = J1 a) ∧ (∀ k, k < lo ∨ K ≤ k → J 70 k = J1 70 k) ∧ ∀ k, lo ≤ k → k < K → ((I 63 k = nI 2 ∨ I 63 k = nI 3 ∨ I 63 k = nI 5) → ∀ t v, t ≤ 61 → I 68 k = nI t → J1 79 t = v → v ∈ ns → J 70 k = hN ns v) ∧ (¬ (I 63 k = nI 2 ∨ I 63 k = nI 3 ∨ I 63 k = nI 5) → J 70 k = J1 70 k)
theorem vU.refl {ns : List Int64} {lo : Nat} {I : pmI} {J : pmJ} : vU ns lo lo I J J := ⟨fun _ _ => rfl, fun _ _ => rfl, fun k h1 h2 => absurd h2 (by omega)⟩
theorem vU.no {ns : List Int64} {lo K : Nat} {I : pmI} {J1 J : pmJ} (h : vU ns lo K I J1 J) (hk : ¬ (I 63 K = nI 2 ∨ I 63 K = nI 3 ∨ I 63 K = nI 5)) : vU ns lo (K + 1) I J1 J := by
  refine ⟨h.1, fun k hk2 => h.2.1 k (by omega), fun k h1 h2 => ?_⟩
  rcases Nat.lt_or_ge k K with g | g
  · exact h.2.2 k h1 g
  · have e : k = K := by omega
    subst e
    exact ⟨fun q => absurd q hk, fun _ => h.2.1 k (by omega)⟩
theorem vU.yes {ns : List Int64} {lo K t : Nat} {I : pmI} {J1 J : pmJ} {x : Int64} (h : vU ns lo K I J1 J) (hlo : lo ≤ K) (hk : I 63 K = nI 2 ∨ I 63 K = nI 3 ∨ I 63 K = nI 5) (ht : t ≤ 61) (h68 : I 68 K = nI t) (hx : J1 79 t ∈ ns → x = hN ns (J1 79 t)) : vU ns lo (K + 1) I J1 (pm_u J 70 K x) := by
  refine ⟨fun a ha => by rw [pm_u_ne ha]; exact h.1 a ha, fun k hk2 => by rw [pm_u_eq, pm_up_ne (by omega)]; exact h.2.1 k (by omega), fun k h1 h2 => ?_⟩
  rw [pm_u_eq]
  rcases Nat.lt_or_ge k K with g | g
  · rw [pm_up_ne (by omega)]; exact h.2.2 k h1 g
  · have e : k = K := by omega
    subst e
    rw [pm_up_eq]
    refine ⟨fun _ t' v h3 h4 h5 h6 => ?_, fun q => absurd hk q⟩
    rw [h68] at h4
    have e2 : t = t' := (nI_eq (by omega) (by omega)).mp h4
    subst e2
    rw [h5] at hx
    exact hx h6
set_option maxRecDepth 20000 in
set_option maxHeartbeats 4000000 in
theorem r_num2 {l : Launch} {E : pmE} {d : Nat} {S : pmS} {P : pmP} {Q : Option Value → pmS → pmI → pmJ → pmP → Prop} {I : pmI} {J1 : pmJ} (hG : sh_St S) (hP : gr_St P) (hd : 1 ≤ d) {ns : List Int64} (hn : I 47 3 = nI ns.length) (hl : ns.length ≤ 40) (hJ : ∀ (j : Nat) (v : Int64), ns[j]? = some v → J1 49 j = v) (hnd : ns.Nodup) {kp m : Nat} (hkp : I 47 10 = nI kp) (hk9 : kp ≤ 39) (hm : I 47 43 = nI m) (hm6 : m ≤ 60) (hW : nW I (64 * kp) (64 * kp + m)) (kx : ∀ J', vU ns (64 * kp) (64 * kp + m) I J1 J' → pm_W l E yX10_number cX10_number 2 none d 0 0 179 [(1, .int (nI (64 * kp + m))), (0, .ref 47)] [] S I J' P (pm_N E Q)) : ∀ (q K : Nat) (J : pmJ), K + q = 64 * kp + m → 64 * kp ≤ K → vU ns (64 * kp) K I J1 J → pm_W l E yX10_number cX10_number 2 none d 0 0 105 [(1, .int (nI K)), (0, .ref 47)] [] S I J P (pm_N E Q)
  | 0, K, J, hK, hlo, h => by
    refine pw_iload_n dX10_number_105 rfl ?_
    refine pw_bipush (v := nI 64) dX10_number_106 (by decide) ?_
    refine pw_aload_n dX10_number_108 rfl ?_
    refine pw_getI fX10_220 dX10_number_109 (sh_lt hG (by decide)) (sh_tg hG 45 rfl) rfl ?_
    refine pw_imul dX10_number_112 ?_
    refine pw_aload_n dX10_number_113 rfl ?_
    refine pw_getI fX10_223 dX10_number_114 (sh_lt hG (by decide)) (sh_tg hG 45 rfl) rfl ?_
    refine pw_iadd dX10_number_117 ?_
    refine pw_ti (z := nI (64 * kp + m)) (by rw [hkp, hm, show nI 64 * nI kp = nI (64 * kp) from (Int32.ofNat_mul 64 _).symm, nI_add]) ?_
    refine pw_icmpN_ge _ _ (tgt := 179) dX10_number_118 (by decide) (rfl) (rfl) (by omega) (by omega) (fun h118 => ?_) (fun h118 => absurd h118 (by omega))
    have e : K = 64 * kp + m := by omega
    subst e
    exact kx J h
  | q + 1, K, J, hK, hlo, h => by
    obtain ⟨t, ht, h68⟩ := hW.2 K hlo (by omega)
    refine pw_iload_n dX10_number_105 rfl ?_
    refine pw_bipush (v := nI 64) dX10_number_106 (by decide) ?_
    refine pw_aload_n dX10_number_108 rfl ?_
    refine pw_getI fX10_220 dX10_number_109 (sh_lt hG (by decide)) (sh_tg hG 45 rfl) rfl ?_
    refine pw_imul dX10_number_112 ?_
    refine pw_aload_n dX10_number_113 rfl ?_
    refine pw_getI fX10_223 dX10_number_114 (sh_lt hG (by decide)) (sh_tg hG 45 rfl) rfl ?_
    refine pw_iadd dX10_number_117 ?_
    refine pw_ti (z := nI (64 * kp + m)) (by rw [hkp, hm, show nI 64 * nI kp = nI (64 * kp) from (Int32.ofNat_mul 64 _).symm, nI_add]) ?_
    refine pw_icmpN_ge _ _ (tgt := 179) dX10_number_118 (by decide) (rfl) (rfl) (by omega) (by omega) (fun h118 => absurd h118 (by omega)) (fun h118 => ?_)
    refine pw_aload_n dX10_number_121 rfl ?_
    refine pw_getR fX10_56 dX10_number_122 (sh_lt hG (by decide)) (sh_tg hG 45 rfl) rfl (gr_at hP 55 rfl) ?_
    refine pw_iload_n dX10_number_125 rfl ?_
    refine pw_ialdN K dX10_number_126 (sh_lt hG (by decide)) (sh_sh hG 61 rfl) (by decide) (rfl) (by omega) ?_
    refine pw_iconst (v := nI 2) dX10_number_127 (by decide) ?_
    refine pw_icmp_eq (tgt := 151) dX10_number_128 (by decide) (fun h128 => ?_) (fun h128 => ?_)
    · refine pw_aload_n dX10_number_151 rfl ?_
      refine pw_getR fX10_77 dX10_number_152 (sh_lt hG (by decide)) (sh_tg hG 45 rfl) rfl (gr_at hP 62 rfl) ?_
      refine pw_iload_n dX10_number_155 rfl ?_
      refine pw_aload_n dX10_number_156 rfl ?_
      refine pw_aload_n dX10_number_157 rfl ?_
      refine pw_getR fX10_105 dX10_number_158 (sh_lt hG (by decide)) (sh_tg hG 45 rfl) rfl (gr_at hP 71 rfl) ?_
      refine pw_aload_n dX10_number_161 rfl ?_
      refine pw_getR fX10_71 dX10_number_162 (sh_lt hG (by decide)) (sh_tg hG 45 rfl) rfl (gr_at hP 60 rfl) ?_
      refine pw_iload_n dX10_number_165 rfl ?_
      refine pw_ialdN K dX10_number_166 (sh_lt hG (by decide)) (sh_sh hG 66 rfl) (by decide) (rfl) (by omega) ?_
      refine pw_ti (z := nI t) h68 ?_
      refine pw_laldN t dX10_number_167 (sh_lt hG (by decide)) (sh_sh hG 77 rfl) (by decide) (rfl) (by omega) ?_
      refine pw_tj (z := J1 79 t) (by rw [h.1 79 (by decide)]) ?_
      refine pw_callV (as := [_]) (kc' := 0) (ks' := 0) lX10_276 dX10_number_168 rfl rfl (sh_lt hG (by decide)) (sh_tg hG 45 rfl) (Nat.le_of_ble_eq_true rfl) (by omega) (Nat.le_of_ble_eq_true rfl) (Nat.zero_le _) (Nat.zero_le _) ?_
      refine r_find hG hP hn hl (fun j v hj => by rw [h.1 49 (by decide)]; exact hJ j v hj) hnd (fun hm9 => ?_) (fun hm9 => ?_)
      · refine pw_i2l dX10_number_171 ?_
        refine pw_lastN K dX10_number_172 (by decide) (sh_lt hG (by decide)) (sh_sh hG 68 rfl) (by decide) (rfl) (by omega) ?_
        refine pw_iinc (lv' := [(1, _), (0, _)]) dX10_number_173 rfl (by decide) rfl ?_
        refine pw_goto (tgt := 105) dX10_number_176 (by decide) ?_
        refine pm_lvs (lv' := [(1, .int (nI (K + 1))), (0, _)]) (by rw [show nI K + Int32.ofInt 1 = nI (K + 1) from nI_add K 1]) ?_
        exact r_num2 hG hP hd hn hl hJ hnd hkp hk9 hm hm6 hW kx q (K + 1) _ (by omega) (by omega) (h.yes hlo (by first | exact Or.inl h128 | exact Or.inr (Or.inl h138) | exact Or.inr (Or.inr h148)) ht h68 (fun _ => by unfold hN; exact nI_l (by have := (ns_at hm9).2; omega)))
      · refine pw_i2l dX10_number_171 ?_
        refine pw_lastN K dX10_number_172 (by decide) (sh_lt hG (by decide)) (sh_sh hG 68 rfl) (by decide) (rfl) (by omega) ?_
        refine pw_iinc (lv' := [(1, _), (0, _)]) dX10_number_173 rfl (by decide) rfl ?_
        refine pw_goto (tgt := 105) dX10_number_176 (by decide) ?_
        refine pm_lvs (lv' := [(1, .int (nI (K + 1))), (0, _)]) (by rw [show nI K + Int32.ofInt 1 = nI (K + 1) from nI_add K 1]) ?_
        exact r_num2 hG hP hd hn hl hJ hnd hkp hk9 hm hm6 hW kx q (K + 1) _ (by omega) (by omega) (h.yes hlo (by first | exact Or.inl h128 | exact Or.inr (Or.inl h138) | exact Or.inr (Or.inr h148)) ht h68 (fun q => absurd q hm9))
    · refine pw_aload_n dX10_number_131 rfl ?_
      refine pw_getR fX10_56 dX10_number_132 (sh_lt hG (by decide)) (sh_tg hG 45 rfl) rfl (gr_at hP 55 rfl) ?_
      refine pw_iload_n dX10_number_135 rfl ?_
      refine pw_ialdN K dX10_number_136 (sh_lt hG (by decide)) (sh_sh hG 61 rfl) (by decide) (rfl) (by omega) ?_
      refine pw_iconst (v := nI 3) dX10_number_137 (by decide) ?_
      refine pw_icmp_eq (tgt := 151) dX10_number_138 (by decide) (fun h138 => ?_) (fun h138 => ?_)
      · refine pw_aload_n dX10_number_151 rfl ?_
        refine pw_getR fX10_77 dX10_number_152 (sh_lt hG (by decide)) (sh_tg hG 45 rfl) rfl (gr_at hP 62 rfl) ?_
        refine pw_iload_n dX10_number_155 rfl ?_
        refine pw_aload_n dX10_number_156 rfl ?_
        refine pw_aload_n dX10_number_157 rfl ?_
        refine pw_getR fX10_105 dX10_number_158 (sh_lt hG (by decide)) (sh_tg hG 45 rfl) rfl (gr_at hP 71 rfl) ?_
        refine pw_aload_n dX10_number_161 rfl ?_
        refine pw_getR fX10_71 dX10_number_162 (sh_lt hG (by decide)) (sh_tg hG 45 rfl) rfl (gr_at hP 60 rfl) ?_
        refine pw_iload_n dX10_number_165 rfl ?_
        refine pw_ialdN K dX10_number_166 (sh_lt hG (by decide)) (sh_sh hG 66 rfl) (by decide) (rfl) (by omega) ?_
        refine pw_ti (z := nI t) h68 ?_
        refine pw_laldN t dX10_number_167 (sh_lt hG (by decide)) (sh_sh hG 77 rfl) (by decide) (rfl) (by omega) ?_
        refine pw_tj (z := J1 79 t) (by rw [h.1 79 (by decide)]) ?_
        refine pw_callV (as := [_]) (kc' := 0) (ks' := 0) lX10_276 dX10_number_168 rfl rfl (sh_lt hG (by decide)) (sh_tg hG 45 rfl) (Nat.le_of_ble_eq_true rfl) (by omega) (Nat.le_of_ble_eq_true rfl) (Nat.zero_le _) (Nat.zero_le _) ?_
        refine r_find hG hP hn hl (fun j v hj => by rw [h.1 49 (by decide)]; exact hJ j v hj) hnd (fun hm9 => ?_) (fun hm9 => ?_)
        · refine pw_i2l dX10_number_171 ?_
          refine pw_lastN K dX10_number_172 (by decide) (sh_lt hG (by decide)) (sh_sh hG 68 rfl) (by decide) (rfl) (by omega) ?_
          refine pw_iinc (lv' := [(1, _), (0, _)]) dX10_number_173 rfl (by decide) rfl ?_
          refine pw_goto (tgt := 105) dX10_number_176 (by decide) ?_
          refine pm_lvs (lv' := [(1, .int (nI (K + 1))), (0, _)]) (by rw [show nI K + Int32.ofInt 1 = nI (K + 1) from nI_add K 1]) ?_
          exact r_num2 hG hP hd hn hl hJ hnd hkp hk9 hm hm6 hW kx q (K + 1) _ (by omega) (by omega) (h.yes hlo (by first | exact Or.inl h128 | exact Or.inr (Or.inl h138) | exact Or.inr (Or.inr h148)) ht h68 (fun _ => by unfold hN; exact nI_l (by have := (ns_at hm9).2; omega)))
        · refine pw_i2l dX10_number_171 ?_
          refine pw_lastN K dX10_number_172 (by decide) (sh_lt hG (by decide)) (sh_sh hG 68 rfl) (by decide) (rfl) (by omega) ?_
          refine pw_iinc (lv' := [(1, _), (0, _)]) dX10_number_173 rfl (by decide) rfl ?_
          refine pw_goto (tgt := 105) dX10_number_176 (by decide) ?_
          refine pm_lvs (lv' := [(1, .int (nI (K + 1))), (0, _)]) (by rw [show nI K + Int32.ofInt 1 = nI (K + 1) from nI_add K 1]) ?_
          exact r_num2 hG hP hd hn hl hJ hnd hkp hk9 hm hm6 hW kx q (K + 1) _ (by omega) (by omega) (h.yes hlo (by first | exact Or.inl h128 | exact Or.inr (Or.inl h138) | exact Or.inr (Or.inr h148)) ht h68 (fun q => absurd q hm9))
      · refine pw_aload_n dX10_number_141 rfl ?_
        refine pw_getR fX10_56 dX10_number_142 (sh_lt hG (by decide)) (sh_tg hG 45 rfl) rfl (gr_at hP 55 rfl) ?_
        refine pw_iload_n dX10_number_145 rfl ?_
        refine pw_ialdN K dX10_number_146 (sh_lt hG (by decide)) (sh_sh hG 61 rfl) (by decide) (rfl) (by omega) ?_
        refine pw_iconst (v := nI 5) dX10_number_147 (by decide) ?_
        refine pw_icmp_ne (tgt := 173) dX10_number_148 (by decide) (fun h148 => ?_) (fun h148 => ?_)
        · refine pw_iinc (lv' := [(1, _), (0, _)]) dX10_number_173 rfl (by decide) rfl ?_
          refine pw_goto (tgt := 105) dX10_number_176 (by decide) ?_
          refine pm_lvs (lv' := [(1, .int (nI (K + 1))), (0, _)]) (by rw [show nI K + Int32.ofInt 1 = nI (K + 1) from nI_add K 1]) ?_
          exact r_num2 hG hP hd hn hl hJ hnd hkp hk9 hm hm6 hW kx q (K + 1) _ (by omega) (by omega) (h.no (by rintro (q | q | q); exact h128 q; exact h138 q; exact h148 q))
        · refine pw_aload_n dX10_number_151 rfl ?_
          refine pw_getR fX10_77 dX10_number_152 (sh_lt hG (by decide)) (sh_tg hG 45 rfl) rfl (gr_at hP 62 rfl) ?_
          refine pw_iload_n dX10_number_155 rfl ?_
          refine pw_aload_n dX10_number_156 rfl ?_
          refine pw_aload_n dX10_number_157 rfl ?_
          refine pw_getR fX10_105 dX10_number_158 (sh_lt hG (by decide)) (sh_tg hG 45 rfl) rfl (gr_at hP 71 rfl) ?_
          refine pw_aload_n dX10_number_161 rfl ?_
          refine pw_getR fX10_71 dX10_number_162 (sh_lt hG (by decide)) (sh_tg hG 45 rfl) rfl (gr_at hP 60 rfl) ?_
          refine pw_iload_n dX10_number_165 rfl ?_
          refine pw_ialdN K dX10_number_166 (sh_lt hG (by decide)) (sh_sh hG 66 rfl) (by decide) (rfl) (by omega) ?_
          refine pw_ti (z := nI t) h68 ?_
          refine pw_laldN t dX10_number_167 (sh_lt hG (by decide)) (sh_sh hG 77 rfl) (by decide) (rfl) (by omega) ?_
          refine pw_tj (z := J1 79 t) (by rw [h.1 79 (by decide)]) ?_
          refine pw_callV (as := [_]) (kc' := 0) (ks' := 0) lX10_276 dX10_number_168 rfl rfl (sh_lt hG (by decide)) (sh_tg hG 45 rfl) (Nat.le_of_ble_eq_true rfl) (by omega) (Nat.le_of_ble_eq_true rfl) (Nat.zero_le _) (Nat.zero_le _) ?_
          refine r_find hG hP hn hl (fun j v hj => by rw [h.1 49 (by decide)]; exact hJ j v hj) hnd (fun hm9 => ?_) (fun hm9 => ?_)
          · refine pw_i2l dX10_number_171 ?_
            refine pw_lastN K dX10_number_172 (by decide) (sh_lt hG (by decide)) (sh_sh hG 68 rfl) (by decide) (rfl) (by omega) ?_
            refine pw_iinc (lv' := [(1, _), (0, _)]) dX10_number_173 rfl (by decide) rfl ?_
            refine pw_goto (tgt := 105) dX10_number_176 (by decide) ?_
            refine pm_lvs (lv' := [(1, .int (nI (K + 1))), (0, _)]) (by rw [show nI K + Int32.ofInt 1 = nI (K + 1) from nI_add K 1]) ?_
            exact r_num2 hG hP hd hn hl hJ hnd hkp hk9 hm hm6 hW kx q (K + 1) _ (by omega) (by omega) (h.yes hlo (by first | exact Or.inl h128 | exact Or.inr (Or.inl h138) | exact Or.inr (Or.inr h148)) ht h68 (fun _ => by unfold hN; exact nI_l (by have := (ns_at hm9).2; omega)))
          · refine pw_i2l dX10_number_171 ?_
            refine pw_lastN K dX10_number_172 (by decide) (sh_lt hG (by decide)) (sh_sh hG 68 rfl) (by decide) (rfl) (by omega) ?_
            refine pw_iinc (lv' := [(1, _), (0, _)]) dX10_number_173 rfl (by decide) rfl ?_
            refine pw_goto (tgt := 105) dX10_number_176 (by decide) ?_
            refine pm_lvs (lv' := [(1, .int (nI (K + 1))), (0, _)]) (by rw [show nI K + Int32.ofInt 1 = nI (K + 1) from nI_add K 1]) ?_
            exact r_num2 hG hP hd hn hl hJ hnd hkp hk9 hm hm6 hW kx q (K + 1) _ (by omega) (by omega) (h.yes hlo (by first | exact Or.inl h128 | exact Or.inr (Or.inl h138) | exact Or.inr (Or.inr h148)) ht h68 (fun q => absurd q hm9))
def pU (ns : List Int64) (pa : List Int64) (B k : Nat) (I1 I : pmI) : Prop := (∀ a, a ≠ 58 → I a = I1 a) ∧ (∀ j, j < B ∨ B + k ≤ j → I 58 j = I1 58 j) ∧ ∀ (j : Nat) (v : Int64), j < k → pa[j]? = some v → I 58 (B + j) = nI (ns.idxOf v)
theorem pU.refl {ns pa : List Int64} {B : Nat} {I : pmI} : pU ns pa B 0 I I := ⟨fun _ _ => rfl, fun _ _ => rfl, fun j v h => absurd h (Nat.not_lt_zero _)⟩
theorem pU.add {ns pa : List Int64} {B k : Nat} {I1 I : pmI} {v : Int64} (h : pU ns pa B k I1 I) (hv : pa[k]? = some v) : pU ns pa B (k + 1) I1 (pm_u I 58 (B + k) (nI (ns.idxOf v))) := by
  refine ⟨fun a ha => by rw [pm_u_ne ha]; exact h.1 a ha, fun j hj => by rw [pm_u_eq, pm_up_ne (by omega)]; exact h.2.1 j (by omega), fun j u hj hu => ?_⟩
  rw [pm_u_eq]
  by_cases e : j = k
  · subst e
    rw [hv] at hu
    cases hu
    exact pm_up_eq
  · rw [pm_up_ne (by omega)]; exact h.2.2 j u (by omega) hu
set_option maxRecDepth 20000 in
set_option maxHeartbeats 4000000 in
theorem r_num3 {l : Launch} {E : pmE} {d : Nat} {S : pmS} {P : pmP} {Q : Option Value → pmS → pmI → pmJ → pmP → Prop} {I1 : pmI} {J : pmJ} (hG : sh_St S) (hP : gr_St P) (hd : 1 ≤ d) {ns : List Int64} (hn : I1 47 3 = nI ns.length) (hl : ns.length ≤ 40) (hJ : ∀ (j : Nat) (v : Int64), ns[j]? = some v → J 49 j = v) (hnd : ns.Nodup) {kp : Nat} (hkp : I1 47 10 = nI kp) (hk9 : kp ≤ 39) {pa : List Int64} (h57 : I1 57 kp = nI pa.length) (hp3 : pa.length ≤ 3) (hpa : ∀ (j : Nat) (v : Int64), pa[j]? = some v → ∃ t, t ≤ 60 ∧ I1 86 j = nI t ∧ J 79 t = v ∧ v ∈ ns) (kx : ∀ I', pU ns pa (3 * kp) pa.length I1 I' → pm_W l E yX10_number cX10_number 2 none d 0 0 228 [(1, .int (nI pa.length)), (0, .ref 47)] [] S I' J P (pm_N E Q)) : ∀ (m k : Nat) (I : pmI), k + m = pa.length → pU ns pa (3 * kp) k I1 I → pm_W l E yX10_number cX10_number 2 none d 0 0 181 [(1, .int (nI k)), (0, .ref 47)] [] S I J P (pm_N E Q)
  | 0, k, I, hk, h => by
    refine pw_iload_n dX10_number_181 rfl ?_
    refine pw_aload_n dX10_number_182 rfl ?_
    refine pw_getR fX10_38 dX10_number_183 (sh_lt hG (by decide)) (sh_tg hG 45 rfl) rfl (gr_at hP 49 rfl) ?_
    refine pw_aload_n dX10_number_186 rfl ?_
    refine pw_getI fX10_220 dX10_number_187 (sh_lt hG (by decide)) (sh_tg hG 45 rfl) rfl ?_
    refine pw_ialdN kp dX10_number_190 (sh_lt hG (by decide)) (sh_sh hG 55 rfl) (by decide) (by rw [h.1 47 (by decide)]; exact hkp) (by omega) ?_
    refine pw_ti (z := nI pa.length) (by rw [h.1 57 (by decide)]; exact h57) ?_
    refine pw_icmpN_ge _ _ (tgt := 228) dX10_number_191 (by decide) (rfl) (rfl) (by omega) (by omega) (fun h191 => ?_) (fun h191 => absurd h191 (by omega))
    have e : k = pa.length := by omega
    subst e
    exact kx I h
  | m + 1, k, I, hk, h => by
    have hkl : k < pa.length := by omega
    obtain ⟨v, hv⟩ : ∃ v, pa[k]? = some v := ⟨_, List.getElem?_eq_getElem hkl⟩
    obtain ⟨t, ht, h86, h79, hvn⟩ := hpa k v hv
    refine pw_iload_n dX10_number_181 rfl ?_
    refine pw_aload_n dX10_number_182 rfl ?_
    refine pw_getR fX10_38 dX10_number_183 (sh_lt hG (by decide)) (sh_tg hG 45 rfl) rfl (gr_at hP 49 rfl) ?_
    refine pw_aload_n dX10_number_186 rfl ?_
    refine pw_getI fX10_220 dX10_number_187 (sh_lt hG (by decide)) (sh_tg hG 45 rfl) rfl ?_
    refine pw_ialdN kp dX10_number_190 (sh_lt hG (by decide)) (sh_sh hG 55 rfl) (by decide) (by rw [h.1 47 (by decide)]; exact hkp) (by omega) ?_
    refine pw_ti (z := nI pa.length) (by rw [h.1 57 (by decide)]; exact h57) ?_
    refine pw_icmpN_ge _ _ (tgt := 228) dX10_number_191 (by decide) (rfl) (rfl) (by omega) (by omega) (fun h191 => absurd h191 (by omega)) (fun h191 => ?_)
    refine pw_aload_n dX10_number_194 rfl ?_
    refine pw_getR fX10_41 dX10_number_195 (sh_lt hG (by decide)) (sh_tg hG 45 rfl) rfl (gr_at hP 50 rfl) ?_
    refine pw_iconst (v := nI 3) dX10_number_198 (by decide) ?_
    refine pw_aload_n dX10_number_199 rfl ?_
    refine pw_getI fX10_220 dX10_number_200 (sh_lt hG (by decide)) (sh_tg hG 45 rfl) rfl ?_
    refine pw_imul dX10_number_203 ?_
    refine pw_iload_n dX10_number_204 rfl ?_
    refine pw_iadd dX10_number_205 ?_
    refine pw_ti (z := nI (3 * kp + k)) (by rw [h.1 47 (by decide), hkp, show nI 3 * nI kp = nI (3 * kp) from (Int32.ofNat_mul 3 _).symm, nI_add]) ?_
    refine pw_aload_n dX10_number_206 rfl ?_
    refine pw_aload_n dX10_number_207 rfl ?_
    refine pw_getR fX10_105 dX10_number_208 (sh_lt hG (by decide)) (sh_tg hG 45 rfl) rfl (gr_at hP 71 rfl) ?_
    refine pw_aload_n dX10_number_211 rfl ?_
    refine pw_getR fX10_126 dX10_number_212 (sh_lt hG (by decide)) (sh_tg hG 45 rfl) rfl (gr_at hP 78 rfl) ?_
    refine pw_iload_n dX10_number_215 rfl ?_
    refine pw_ialdN k dX10_number_216 (sh_lt hG (by decide)) (sh_sh hG 84 rfl) (by decide) (rfl) (by omega) ?_
    refine pw_ti (z := nI t) (by rw [h.1 86 (by decide)]; exact h86) ?_
    refine pw_laldN t dX10_number_217 (sh_lt hG (by decide)) (sh_sh hG 77 rfl) (by decide) (rfl) (by omega) ?_
    refine pw_tj (z := v) h79 ?_
    refine pw_callV (as := [_]) (kc' := 0) (ks' := 0) lX10_276 dX10_number_218 rfl rfl (sh_lt hG (by decide)) (sh_tg hG 45 rfl) (Nat.le_of_ble_eq_true rfl) (by omega) (Nat.le_of_ble_eq_true rfl) (Nat.zero_le _) (Nat.zero_le _) ?_
    refine r_find hG hP (by rw [h.1 47 (by decide)]; exact hn) hl hJ hnd (fun _ => ?_) (fun q => absurd hvn q)
    refine pw_iastN (3 * kp + k) dX10_number_221 (by decide) (sh_lt hG (by decide)) (sh_sh hG 56 rfl) (by decide) (rfl) (by omega) ?_
    refine pw_iinc (lv' := [(1, _), (0, _)]) dX10_number_222 rfl (by decide) rfl ?_
    refine pw_goto (tgt := 181) dX10_number_225 (by decide) ?_
    refine pm_lvs (lv' := [(1, .int (nI (k + 1))), (0, _)]) (by rw [show nI k + Int32.ofInt 1 = nI (k + 1) from nI_add k 1]) ?_
    exact r_num3 hG hP hd hn hl hJ hnd hkp hk9 h57 hp3 hpa kx m (k + 1) _ (by omega) (h.add hv)
/-- number(): NAMES ns' have come; the SNIPPET kp has its NAMES' numbers -/
def rNm (ns ns' : List Int64) (kp m form : Nat) (dec : Int64) (pa : List Int64) (I : pmI) (J : pmJ) (I' : pmI) (J' : pmJ) : Prop := ∃ I1 J1, nUr ns I J I1 J1 ns' ∧ vU ns' (64 * kp) (64 * kp + m) I1 J1 J' ∧ ∃ I2, pU ns' pa (3 * kp) pa.length I1 I2 ∧ ∃ x, (form ≠ 0 → x = nI (ns'.idxOf dec)) ∧ I' = pm_u I2 56 kp x
set_option maxRecDepth 20000 in
set_option maxHeartbeats 4000000 in
theorem r_number {l : Launch} {E : pmE} {d : Nat} {S : pmS} {I : pmI} {J : pmJ} {P : pmP} {Q : Option Value → pmS → pmI → pmJ → pmP → Prop} (hG : sh_St S) (hP : gr_St P) (hd : 1 ≤ d) {tx : Nat → Nat} {n i : Nat} (hb : ∀ j, j < n → tx j < 128) (hC : rC tx n I J i) (hi0 : tk_k tx n i = 0) {ns : List Int64} (hn : I 47 3 = nI ns.length) (hJ : ∀ (j : Nat) (v : Int64), ns[j]? = some v → J 49 j = v) (hnd : ns.Nodup) (hlen : (nmF (tk_k tx n) (tk_v tx n) ns (i + 1)).length ≤ 40) {kp m form : Nat} (hkp : I 47 10 = nI kp) (hk9 : kp ≤ 39) (hm : I 47 43 = nI m) (hm6 : m ≤ 60) (hW : nW I (64 * kp) (64 * kp + m)) {pa : List Int64} (h57 : I 57 kp = nI pa.length) (hpT : pT tx n i I pa) (h55 : I 55 kp = nI form) (hf3 : form ≤ 3) {dec : Int64} (hde : form = 0 ∧ dec = 0 ∨ 1 < i ∧ tk_k tx n 1 = 97 ∧ dec = tk_v tx n 1) (k : ∀ I' J', rNm ns (nmF (tk_k tx n) (tk_v tx n) ns (i + 1)) kp m form dec pa I J I' J' → Q none S I' J' P) : pm_Met l E yX10_number cX10_number 2 none d 0 0 [.ref 47] S I J P Q := by
  unfold pm_Met
  refine pm_lvs (lv' := [(0, _)]) rfl ?_
  refine pw_iconst (v := nI 0) dX10_number_0 (by decide) ?_
  refine pw_istore_n (lv' := [(1, _), (0, _)]) dX10_number_1 (by decide) rfl ?_
  refine pm_lvs (lv' := [(1, .int (nI 0)), (0, _)]) rfl ?_
  refine r_num1 hG hP hd hb hC hJ hnd hlen (fun I1 J1 h1 => ?_) (i + 1) 0 I J (Nat.zero_add _) (nUr.refl hn)
  have hnd1 := nmF_nd (kd := tk_k tx n) (co := tk_v tx n) hnd (i + 1)
  have hJ1 := h1.at (nmF_pre (i + 1)) hJ
  have hC1 := hC.nU h1
  have hi6 := hC.2.1
  have ekp : I1 47 10 = nI kp := by rw [h1.2.1 10 (by decide)]; exact hkp
  have em : I1 47 43 = nI m := by rw [h1.2.1 43 (by decide)]; exact hm
  have hW1 : nW I1 (64 * kp) (64 * kp + m) := hW.mv (fun a h2 h3 k _ => by rw [(h1.1 a (by omega) (by omega)).1])
  have htv : ∀ t, t < i → tk_k tx n t = 97 → J1 79 t = tk_v tx n t ∧ tk_v tx n t ∈ (nmF (tk_k tx n) (tk_v tx n) ns (i + 1)) := fun t ht h97 => ⟨(hC1.2.2.2.1 t ht).2.2, (nmF_mem (i + 1)).mpr (Or.inr ⟨t, by omega, h97, rfl⟩)⟩
  refine pw_bipush (v := nI 64) dX10_number_97 (by decide) ?_
  refine pw_aload_n dX10_number_99 rfl ?_
  refine pw_getI fX10_220 dX10_number_100 (sh_lt hG (by decide)) (sh_tg hG 45 rfl) rfl ?_
  refine pw_imul dX10_number_103 ?_
  refine pw_ti (z := nI (64 * kp)) (by rw [ekp]; exact (Int32.ofNat_mul 64 _).symm) ?_
  refine pw_istore_n (lv' := [(1, _), (0, _)]) dX10_number_104 (by decide) rfl ?_
  refine r_num2 hG hP hd h1.2.2.2.1 hlen hJ1 hnd1 ekp hk9 em hm6 hW1 (fun J2 h2 => ?_) m (64 * kp) J1 rfl (Nat.le_refl _) vU.refl
  have hJ2 : ∀ (j : Nat) (v : Int64), (nmF (tk_k tx n) (tk_v tx n) ns (i + 1))[j]? = some v → J2 49 j = v := fun j v hj => by rw [h2.1 49 (by decide)]; exact hJ1 j v hj
  refine pw_iconst (v := nI 0) dX10_number_179 (by decide) ?_
  refine pw_istore_n (lv' := [(1, _), (0, _)]) dX10_number_180 (by decide) rfl ?_
  refine pm_lvs (lv' := [(1, .int (nI 0)), (0, _)]) rfl ?_
  refine r_num3 hG hP hd h1.2.2.2.1 hlen hJ2 hnd1 ekp hk9 (by rw [(h1.1 57 (by decide) (by omega)).1]; exact h57) hpT.1 (fun j v hj => ?_) (fun I2 h3 => ?_) pa.length 0 I1 (Nat.zero_add _) pU.refl
  · obtain ⟨t, g1, g2, g3, g4⟩ := hpT.2 j v hj
    have g5 := htv t g1 g3
    exact ⟨t, by omega, by rw [(h1.1 86 (by decide) (by omega)).1]; exact g2, by rw [h2.1 79 (by decide), g5.1]; exact g4, by rw [← g4]; exact g5.2⟩
  have ekp2 : I2 47 10 = nI kp := by rw [h3.1 47 (by decide)]; exact ekp
  have e55 : I2 55 kp = nI form := by rw [h3.1 55 (by decide), (h1.1 55 (by decide) (by omega)).1]; exact h55
  refine pw_aload_n dX10_number_228 rfl ?_
  refine pw_getR fX10_35 dX10_number_229 (sh_lt hG (by decide)) (sh_tg hG 45 rfl) rfl (gr_at hP 48 rfl) ?_
  refine pw_aload_n dX10_number_232 rfl ?_
  refine pw_getI fX10_220 dX10_number_233 (sh_lt hG (by decide)) (sh_tg hG 45 rfl) rfl ?_
  refine pw_aload_n dX10_number_236 rfl ?_
  refine pw_getR fX10_32 dX10_number_237 (sh_lt hG (by decide)) (sh_tg hG 45 rfl) rfl (gr_at hP 47 rfl) ?_
  refine pw_aload_n dX10_number_240 rfl ?_
  refine pw_getI fX10_220 dX10_number_241 (sh_lt hG (by decide)) (sh_tg hG 45 rfl) rfl ?_
  refine pw_ialdN kp dX10_number_244 (sh_lt hG (by decide)) (sh_sh hG 53 rfl) (by decide) (ekp2) (by omega) ?_
  refine pw_ti (z := nI form) e55 ?_
  refine pw_ifN_ne _ (tgt := 253) dX10_number_245 (by decide) (rfl) (by omega) (fun h245 => ?_) (fun h245 => ?_)
  · have hdd : 1 < i ∧ tk_k tx n 1 = 97 ∧ dec = tk_v tx n 1 := by rcases hde with q | q; exact absurd q.1 h245; exact q
    have hd1 := htv 1 hdd.1 hdd.2.1
    have hd2 : dec ∈ (nmF (tk_k tx n) (tk_v tx n) ns (i + 1)) := by rw [hdd.2.2]; exact hd1.2
    refine pw_aload_n dX10_number_253 rfl ?_
    refine pw_aload_n dX10_number_254 rfl ?_
    refine pw_getR fX10_105 dX10_number_255 (sh_lt hG (by decide)) (sh_tg hG 45 rfl) rfl (gr_at hP 71 rfl) ?_
    refine pw_iconst (v := nI 1) dX10_number_258 (by decide) ?_
    refine pw_laldN 1 dX10_number_259 (sh_lt hG (by decide)) (sh_sh hG 77 rfl) (by decide) (by decide) (by decide) ?_
    refine pw_tj (z := dec) (by rw [h2.1 79 (by decide), hd1.1]; exact hdd.2.2.symm) ?_
    refine pw_callV (as := [_]) (kc' := 0) (ks' := 0) lX10_276 dX10_number_260 rfl rfl (sh_lt hG (by decide)) (sh_tg hG 45 rfl) (Nat.le_of_ble_eq_true rfl) (by omega) (Nat.le_of_ble_eq_true rfl) (Nat.zero_le _) (Nat.zero_le _) ?_
    refine r_find hG hP (by rw [h3.1 47 (by decide)]; exact h1.2.2.2.1) hlen hJ2 hnd1 (fun hm9 => ?_) (fun q => absurd hd2 q)
    refine pw_iastN kp dX10_number_263 (by decide) (sh_lt hG (by decide)) (sh_sh hG 54 rfl) (by decide) (ekp2) (by omega) ?_
    exact pw_vret dX10_number_264 rfl (k _ _ ⟨I1, J1, h1, h2, I2, h3, _, fun _ => rfl, rfl⟩)
  · refine pw_bipush (v := -5) dX10_number_248 (by decide) ?_
    refine pw_goto (tgt := 263) dX10_number_250 (by decide) ?_
    refine pw_iastN kp dX10_number_263 (by decide) (sh_lt hG (by decide)) (sh_sh hG 54 rfl) (by decide) (ekp2) (by omega) ?_
    exact pw_vret dX10_number_264 rfl (k _ _ ⟨I1, J1, h1, h2, I2, h3, -5, fun q => absurd (by omega) q, rfl⟩)
