theorem nI_n5 {j : Nat} (h : j < 2 ^ 31) : ¬ nI j = -5 := by
  intro e
  have h1 : (nI j).toInt = (-5 : Int32).toInt := by rw [e]
  rw [nI_toInt h, show ((-5 : Int32).toInt) = -5 from rfl] at h1
  omega
theorem c_find {l : Launch} {E : pmE} {d : Nat} {S : pmS} {I : pmI} {J : pmJ} {P : pmP} {Q : Option Value → pmS → pmI → pmJ → pmP → Prop} (hG : sh_St S) (hP : gr_St P) {ns : List Int64} {x : Int64} (hn : I 16 4 = nI ns.length) (hl : ns.length ≤ 40) (hJ : ∀ (j : Nat) (v : Int64), ns[j]? = some v → J 17 j = v) (hnd : ns.Nodup) (k1 : x ∈ ns → Q (some (.int (nI (ns.idxOf x)))) S I J P) (k0 : x ∉ ns → Q (some (.int (-5))) S I J P) : pm_Met l E yX2_find cX2_find 4 (some .int) d 0 0 [.ref 16, .long x] S I J P Q := by
  refine c_X2_find hG hP hn hl (fun j hj he _ => ?_) (fun hno => ?_)
  · have h1 : ns[j]? = some x := by rw [← he, List.getElem?_eq_getElem hj, hJ j _ (List.getElem?_eq_getElem hj)]
    have h2 := k1 (List.mem_of_getElem? h1)
    rw [nd_ix hnd h1] at h2
    exact h2
  · refine k0 (fun hm => ?_)
    have h1 := ns_at hm
    exact hno _ h1.2 (hJ _ _ h1.1)
theorem r_find {l : Launch} {E : pmE} {d : Nat} {S : pmS} {I : pmI} {J : pmJ} {P : pmP} {Q : Option Value → pmS → pmI → pmJ → pmP → Prop} (hG : sh_St S) (hP : gr_St P) {ns : List Int64} {x : Int64} (hn : I 47 3 = nI ns.length) (hl : ns.length ≤ 40) (hJ : ∀ (j : Nat) (v : Int64), ns[j]? = some v → J 49 j = v) (hnd : ns.Nodup) (k1 : x ∈ ns → Q (some (.int (nI (ns.idxOf x)))) S I J P) (k0 : x ∉ ns → Q (some (.int (-5))) S I J P) : pm_Met l E yX10_nameOf cX10_nameOf 4 (some .int) d 0 0 [.ref 47, .long x] S I J P Q := by
  refine c_X10_nameOf hG hP hn hl (fun j hj he _ => ?_) (fun hno => ?_)
  · have h1 : ns[j]? = some x := by rw [← he, List.getElem?_eq_getElem hj, hJ j _ (List.getElem?_eq_getElem hj)]
    have h2 := k1 (List.mem_of_getElem? h1)
    rw [nd_ix hnd h1] at h2
    exact h2
  · refine k0 (fun hm => ?_)
    have h1 := ns_at hm
    exact hno _ h1.2 (hJ _ _ h1.1)
theorem nUc.back {ns ns' : List Int64} {I0 I : pmI} {J0 J : pmJ} (h : nUc ns I0 J0 I J ns') : nUc ns I0 J0 (pm_u I 16 4 (nI ns.length)) J ns := by
  obtain ⟨h1, h2, h3, h4, h5⟩ := h
  refine ⟨fun a ha => ⟨by rw [pm_u_ne (by omega)]; exact (h1 a ha).1, (h1 a ha).2⟩, fun k hk => by rw [pm_u_eq, pm_up_ne hk]; exact h2 k hk, fun j hj => ?_, by rw [pm_u_eq, pm_up_eq], fun j v h6 h7 => absurd (List.getElem?_eq_some_iff.mp h7).1 (by omega)⟩
  rw [pm_u_ne (by decide), pm_u_ne (by decide), pm_u_ne (by decide)]
  exact h3 j hj
theorem nUc.at {ns ns' : List Int64} {I0 I : pmI} {J0 J : pmJ} (h : nUc ns I0 J0 I J ns') (hp : ns <+: ns') (hJ : ∀ (j : Nat) (v : Int64), ns[j]? = some v → J0 17 j = v) : ∀ (j : Nat) (v : Int64), ns'[j]? = some v → J 17 j = v := fun j v hj => by
  rcases Nat.lt_or_ge j ns.length with g | g
  · rw [(h.2.2.1 j g).1]
    refine hJ j v ?_
    rw [List.getElem?_eq_getElem g]
    have := pre_at hp (List.getElem?_eq_getElem g)
    rw [hj] at this
    exact this.symm
  · exact (h.2.2.2.2 j v g hj).1
theorem nUr.at {ns ns' : List Int64} {I0 I : pmI} {J0 J : pmJ} (h : nUr ns I0 J0 I J ns') (hp : ns <+: ns') (hJ : ∀ (j : Nat) (v : Int64), ns[j]? = some v → J0 49 j = v) : ∀ (j : Nat) (v : Int64), ns'[j]? = some v → J 49 j = v := fun j v hj => by
  rcases Nat.lt_or_ge j ns.length with g | g
  · rw [(h.2.2.1 j g).1]
    refine hJ j v ?_
    rw [List.getElem?_eq_getElem g]
    have := pre_at hp (List.getElem?_eq_getElem g)
    rw [hj] at this
    exact this.symm
  · exact (h.2.2.2.2 j v g hj).1
theorem tk_C.nU {tx : Nat → Nat} {n cnt : Nat} {ns ns' : List Int64} {I0 I : pmI} {J0 J : pmJ} (hC : tk_C tx n I0 J0 cnt) (h : nUc ns I0 J0 I J ns') : tk_C tx n I J cnt := hC.mv (h.1 4 (by omega)).1 (h.1 5 (by omega)).1 (h.1 6 (by omega)).1 (h.1 7 (by omega)).2
set_option maxRecDepth 20000 in
set_option maxHeartbeats 4000000 in
theorem c_addNew {l : Launch} {E : pmE} {d : Nat} {S : pmS} {I : pmI} {J : pmJ} {P : pmP} {Q : Option Value → pmS → pmI → pmJ → pmP → Prop} (hG : sh_St S) (hP : gr_St P) {c : Nat} {v : Int64} (hn : I 16 4 = nI c) (hl : c < 40) (k : Q none S (pm_u (pm_u (pm_u (pm_u I 18 c (nI 0)) 19 c (-5)) 20 c (nI 0)) 16 4 (nI (c + 1))) (pm_u J 17 c v) P) : pm_Met l E yX2_addNew cX2_addNew 3 none d 0 0 [.ref 16, .long v] S I J P Q := by
  unfold pm_Met
  refine pm_lvs (lv' := [(0, _), (1, _)]) rfl ?_
  refine pw_aload_n dX2_addNew_0 rfl ?_
  refine pw_getI fX2_25 dX2_addNew_1 (sh_lt hG (by decide)) (sh_tg hG 14 rfl) rfl ?_
  refine pw_bipush (v := nI 40) dX2_addNew_4 (by decide) ?_
  refine pw_icmpN_ge _ _ (tgt := 60) dX2_addNew_6 (by decide) (hn) (rfl) (by omega) (by omega) (fun h6 => absurd h6 (by omega)) (fun h6 => ?_)
  refine pw_aload_n dX2_addNew_9 rfl ?_
  refine pw_getR fX2_11 dX2_addNew_10 (sh_lt hG (by decide)) (sh_tg hG 14 rfl) rfl (gr_at hP 20 rfl) ?_
  refine pw_aload_n dX2_addNew_13 rfl ?_
  refine pw_getI fX2_25 dX2_addNew_14 (sh_lt hG (by decide)) (sh_tg hG 14 rfl) rfl ?_
  refine pw_lload_n dX2_addNew_17 rfl ?_
  refine pw_lastN c dX2_addNew_18 (by decide) (sh_lt hG (by decide)) (sh_sh hG 15 rfl) (by decide) (hn) (by omega) ?_
  refine pw_aload_n dX2_addNew_19 rfl ?_
  refine pw_getR fX2_15 dX2_addNew_20 (sh_lt hG (by decide)) (sh_tg hG 14 rfl) rfl (gr_at hP 21 rfl) ?_
  refine pw_aload_n dX2_addNew_23 rfl ?_
  refine pw_getI fX2_25 dX2_addNew_24 (sh_lt hG (by decide)) (sh_tg hG 14 rfl) rfl ?_
  refine pw_iconst (v := nI 0) dX2_addNew_27 (by decide) ?_
  refine pw_iastN c dX2_addNew_28 (by decide) (sh_lt hG (by decide)) (sh_sh hG 16 rfl) (by decide) (hn) (by omega) ?_
  refine pw_aload_n dX2_addNew_29 rfl ?_
  refine pw_getR fX2_19 dX2_addNew_30 (sh_lt hG (by decide)) (sh_tg hG 14 rfl) rfl (gr_at hP 22 rfl) ?_
  refine pw_aload_n dX2_addNew_33 rfl ?_
  refine pw_getI fX2_25 dX2_addNew_34 (sh_lt hG (by decide)) (sh_tg hG 14 rfl) rfl ?_
  refine pw_bipush (v := -5) dX2_addNew_37 (by decide) ?_
  refine pw_iastN c dX2_addNew_39 (by decide) (sh_lt hG (by decide)) (sh_sh hG 17 rfl) (by decide) (by rw [pm_u_ne (by decide)]; exact hn) (by omega) ?_
  refine pw_aload_n dX2_addNew_40 rfl ?_
  refine pw_getR fX2_22 dX2_addNew_41 (sh_lt hG (by decide)) (sh_tg hG 14 rfl) rfl (gr_at hP 23 rfl) ?_
  refine pw_aload_n dX2_addNew_44 rfl ?_
  refine pw_getI fX2_25 dX2_addNew_45 (sh_lt hG (by decide)) (sh_tg hG 14 rfl) rfl ?_
  refine pw_iconst (v := nI 0) dX2_addNew_48 (by decide) ?_
  refine pw_iastN c dX2_addNew_49 (by decide) (sh_lt hG (by decide)) (sh_sh hG 18 rfl) (by decide) (by rw [pm_u_ne (by decide), pm_u_ne (by decide)]; exact hn) (by omega) ?_
  refine pw_aload_n dX2_addNew_50 rfl ?_
  refine pw_dup dX2_addNew_51 rfl ?_
  refine pw_getI fX2_25 dX2_addNew_52 (sh_lt hG (by decide)) (sh_tg hG 14 rfl) rfl ?_
  refine pw_iconst (v := nI 1) dX2_addNew_55 (by decide) ?_
  refine pw_iadd dX2_addNew_56 ?_
  refine pw_ti (z := nI (c + 1)) (by rw [pm_u_ne (by decide), pm_u_ne (by decide), pm_u_ne (by decide), hn]; exact nI_add _ 1) ?_
  refine pw_putI fX2_25 dX2_addNew_57 (Or.inl rfl) (by decide) (sh_lt hG (by decide)) (sh_tg hG 14 rfl) rfl ?_
  exact pw_vret dX2_addNew_60 rfl (k)

set_option maxRecDepth 20000 in
set_option maxHeartbeats 4000000 in
theorem c_takeAll_lp {l : Launch} {E : pmE} {d : Nat} {S : pmS} {P : pmP} {Q : Option Value → pmS → pmI → pmJ → pmP → Prop} (hG : sh_St S) (hP : gr_St P) (hd : 3 ≤ d) {tx : Nat → Nat} {n cnt : Nat} (hb : ∀ j, j < n → tx j < 128) {I0 : pmI} {J0 : pmJ} (hC : tk_C tx n I0 J0 cnt) {ns : List Int64} (hJ : ∀ (j : Nat) (v : Int64), ns[j]? = some v → J0 17 j = v) (hnd : ns.Nodup) (k1 : (nmF (tk_k tx n) (tk_v tx n) ns cnt).length ≤ 40 → ∀ I' J', nUc ns I0 J0 I' J' (nmF (tk_k tx n) (tk_v tx n) ns cnt) → Q (some (.int (nI 1))) S I' J' P) (k0 : 40 < (nmF (tk_k tx n) (tk_v tx n) ns cnt).length → ∀ I' J', nUc ns I0 J0 I' J' ns → Q (some (.int (nI 0))) S I' J' P) : ∀ (m i : Nat) (I : pmI) (J : pmJ), i + m = cnt → nUc ns I0 J0 I J (nmF (tk_k tx n) (tk_v tx n) ns i) → (nmF (tk_k tx n) (tk_v tx n) ns i).length ≤ 40 → pm_W l E yX2_takeAll cX2_takeAll 4 (some .boolean) d 0 0 7 [(3, .int (nI i)), (2, .int (nI ns.length)), (0, .ref 16), (1, .ref 4)] [] S I J P (pm_N E Q)
  | 0, i, I, J, hi, h, hlen => by
    have hC2 := hC.nU h
    have hc61 := hC2.2.1
    have hJ2 := h.at (nmF_pre i) hJ
    have hnd2 := nmF_nd (kd := tk_k tx n) (co := tk_v tx n) hnd i
    have hkc := (tk_k_c (tx := tx) (n := n) (i := i) hb).1
    refine pw_iload_n dX2_takeAll_7 rfl ?_
    refine pw_aload_n dX2_takeAll_8 rfl ?_
    refine pw_callV (as := []) (kc' := 0) (ks' := 0) lX2_29 dX2_takeAll_9 rfl rfl (sh_lt hG (by decide)) (sh_tg hG 2 rfl) (Nat.le_of_ble_eq_true rfl) (by omega) (Nat.le_of_ble_eq_true rfl) (Nat.zero_le _) (Nat.zero_le _) ?_
    refine c_X7_size hG hP ?_
    refine pw_ti (z := nI cnt) hC2.1 ?_
    refine pw_icmpN_ge _ _ (tgt := 70) dX2_takeAll_12 (by decide) (rfl) (rfl) (by omega) (by omega) (fun h12 => ?_) (fun h12 => absurd h12 (by omega))
    refine pw_iconst (v := nI 1) dX2_takeAll_70 (by decide) ?_
    exact pw_zret dX2_takeAll_71 rfl (by decide) (by
      have e : i = cnt := by omega
      subst e
      exact k1 hlen I J h)
  | m + 1, i, I, J, hi, h, hlen => by
    have hC2 := hC.nU h
    have hc61 := hC2.2.1
    have hJ2 := h.at (nmF_pre i) hJ
    have hnd2 := nmF_nd (kd := tk_k tx n) (co := tk_v tx n) hnd i
    have hkc := (tk_k_c (tx := tx) (n := n) (i := i) hb).1
    refine pw_iload_n dX2_takeAll_7 rfl ?_
    refine pw_aload_n dX2_takeAll_8 rfl ?_
    refine pw_callV (as := []) (kc' := 0) (ks' := 0) lX2_29 dX2_takeAll_9 rfl rfl (sh_lt hG (by decide)) (sh_tg hG 2 rfl) (Nat.le_of_ble_eq_true rfl) (by omega) (Nat.le_of_ble_eq_true rfl) (Nat.zero_le _) (Nat.zero_le _) ?_
    refine c_X7_size hG hP ?_
    refine pw_ti (z := nI cnt) hC2.1 ?_
    refine pw_icmpN_ge _ _ (tgt := 70) dX2_takeAll_12 (by decide) (rfl) (rfl) (by omega) (by omega) (fun h12 => absurd h12 (by omega)) (fun h12 => ?_)
    refine pw_aload_n dX2_takeAll_15 rfl ?_
    refine pw_iload_n dX2_takeAll_16 rfl ?_
    refine pw_callV (as := [_]) (kc' := 0) (ks' := 0) lX2_35 dX2_takeAll_17 rfl rfl (sh_lt hG (by decide)) (sh_tg hG 2 rfl) (Nat.le_of_ble_eq_true rfl) (by omega) (Nat.le_of_ble_eq_true rfl) (Nat.zero_le _) (Nat.zero_le _) ?_
    refine c_kd hG hP hC2 (by omega) ?_
    refine pw_bipush (v := nI 97) dX2_takeAll_20 (by decide) ?_
    refine pw_icmpN_ne _ _ (tgt := 64) dX2_takeAll_22 (by decide) (rfl) (rfl) (by omega) (by omega) (fun h22 => ?_) (fun h22 => ?_)
    · have hno : ¬ (tk_k tx n i = 97 ∧ tk_v tx n i ∉ (nmF (tk_k tx n) (tk_v tx n) ns i)) := fun q => h22 q.1
      refine pw_iinc (lv' := [(3, _), (2, _), (0, _), (1, _)]) dX2_takeAll_64 rfl (by decide) rfl ?_
      refine pw_goto (tgt := 7) dX2_takeAll_67 (by decide) ?_
      refine pm_lvs (lv' := [(3, .int (nI (i + 1))), (2, _), (0, _), (1, _)]) (by rw [show nI i + Int32.ofInt 1 = nI (i + 1) from nI_add i 1]) ?_
      exact c_takeAll_lp hG hP hd hb hC hJ hnd k1 k0 m (i + 1) _ _ (by omega) (by rw [nmF_n hno]; exact h) (by rw [nmF_n hno]; exact hlen)
    · refine pw_aload_n dX2_takeAll_25 rfl ?_
      refine pw_aload_n dX2_takeAll_26 rfl ?_
      refine pw_iload_n dX2_takeAll_27 rfl ?_
      refine pw_callV (as := [_]) (kc' := 0) (ks' := 0) lX2_39 dX2_takeAll_28 rfl rfl (sh_lt hG (by decide)) (sh_tg hG 2 rfl) (Nat.le_of_ble_eq_true rfl) (by omega) (Nat.le_of_ble_eq_true rfl) (Nat.zero_le _) (Nat.zero_le _) ?_
      refine c_co hG hP hC2 (by omega) ?_
      refine pw_callV (as := [_]) (kc' := 0) (ks' := 0) lX2_43 dX2_takeAll_31 rfl rfl (sh_lt hG (by decide)) (sh_tg hG 14 rfl) (Nat.le_of_ble_eq_true rfl) (by omega) (Nat.le_of_ble_eq_true rfl) (Nat.zero_le _) (Nat.zero_le _) ?_
      refine c_find hG hP h.2.2.2.1 hlen hJ2 hnd2 (fun hm => ?_) (fun hm => ?_)
      · refine pw_bipush (v := -5) dX2_takeAll_34 (by decide) ?_
        refine pw_icmp_ne (tgt := 64) dX2_takeAll_36 (by decide) (fun h36 => ?_) (fun h => absurd h (nI_n5 (by have := (ns_at hm).2; omega)))
        have hno : ¬ (tk_k tx n i = 97 ∧ tk_v tx n i ∉ (nmF (tk_k tx n) (tk_v tx n) ns i)) := fun q => q.2 hm
        refine pw_iinc (lv' := [(3, _), (2, _), (0, _), (1, _)]) dX2_takeAll_64 rfl (by decide) rfl ?_
        refine pw_goto (tgt := 7) dX2_takeAll_67 (by decide) ?_
        refine pm_lvs (lv' := [(3, .int (nI (i + 1))), (2, _), (0, _), (1, _)]) (by rw [show nI i + Int32.ofInt 1 = nI (i + 1) from nI_add i 1]) ?_
        exact c_takeAll_lp hG hP hd hb hC hJ hnd k1 k0 m (i + 1) _ _ (by omega) (by rw [nmF_n hno]; exact h) (by rw [nmF_n hno]; exact hlen)
      · have hy : tk_k tx n i = 97 ∧ tk_v tx n i ∉ (nmF (tk_k tx n) (tk_v tx n) ns i) := ⟨h22, hm⟩
        refine pw_bipush (v := -5) dX2_takeAll_34 (by decide) ?_
        refine pw_icmp_ne (tgt := 64) dX2_takeAll_36 (by decide) (fun h => absurd (rfl) h) (fun h36 => ?_)
        refine pw_aload_n dX2_takeAll_39 rfl ?_
        refine pw_getI fX2_25 dX2_takeAll_40 (sh_lt hG (by decide)) (sh_tg hG 14 rfl) rfl ?_
        refine pw_bipush (v := nI 40) dX2_takeAll_43 (by decide) ?_
        refine pw_icmpN_lt _ _ (tgt := 55) dX2_takeAll_45 (by decide) (h.2.2.2.1) (rfl) (by omega) (by omega) (fun h45 => ?_) (fun h45 => ?_)
        · refine pw_aload_n dX2_takeAll_55 rfl ?_
          refine pw_aload_n dX2_takeAll_56 rfl ?_
          refine pw_iload_n dX2_takeAll_57 rfl ?_
          refine pw_callV (as := [_]) (kc' := 0) (ks' := 0) lX2_39 dX2_takeAll_58 rfl rfl (sh_lt hG (by decide)) (sh_tg hG 2 rfl) (Nat.le_of_ble_eq_true rfl) (by omega) (Nat.le_of_ble_eq_true rfl) (Nat.zero_le _) (Nat.zero_le _) ?_
          refine c_co hG hP hC2 (by omega) ?_
          refine pw_callV (as := [_]) (kc' := 0) (ks' := 0) lX2_47 dX2_takeAll_61 rfl rfl (sh_lt hG (by decide)) (sh_tg hG 14 rfl) (Nat.le_of_ble_eq_true rfl) (by omega) (Nat.le_of_ble_eq_true rfl) (Nat.zero_le _) (Nat.zero_le _) ?_
          refine c_addNew hG hP h.2.2.2.1 (by omega) ?_
          refine pw_iinc (lv' := [(3, _), (2, _), (0, _), (1, _)]) dX2_takeAll_64 rfl (by decide) rfl ?_
          refine pw_goto (tgt := 7) dX2_takeAll_67 (by decide) ?_
          refine pm_lvs (lv' := [(3, .int (nI (i + 1))), (2, _), (0, _), (1, _)]) (by rw [show nI i + Int32.ofInt 1 = nI (i + 1) from nI_add i 1]) ?_
          exact c_takeAll_lp hG hP hd hb hC hJ hnd k1 k0 m (i + 1) _ _ (by omega) (by rw [nmF_y hy]; exact h.add (nmF_pre i).length_le) (by rw [nmF_y hy, List.length_append, List.length_singleton]; omega)
        · refine pw_aload_n dX2_takeAll_48 rfl ?_
          refine pw_iload_n dX2_takeAll_49 rfl ?_
          refine pw_putI fX2_25 dX2_takeAll_50 (Or.inl rfl) (by decide) (sh_lt hG (by decide)) (sh_tg hG 14 rfl) rfl ?_
          refine pw_iconst (v := nI 0) dX2_takeAll_53 (by decide) ?_
          exact pw_zret dX2_takeAll_54 rfl (by decide) (k0 (by have g1 := (nmF_mono (kd := tk_k tx n) (co := tk_v tx n) (ns := ns) (i + 1) m).length_le; rw [nmF_y hy, List.length_append, List.length_singleton, show i + 1 + m = cnt by omega] at g1; omega) _ _ h.back)
set_option maxRecDepth 20000 in
set_option maxHeartbeats 4000000 in
theorem c_takeAll {l : Launch} {E : pmE} {d : Nat} {S : pmS} {I : pmI} {J : pmJ} {P : pmP} {Q : Option Value → pmS → pmI → pmJ → pmP → Prop} (hG : sh_St S) (hP : gr_St P) (hd : 3 ≤ d) {tx : Nat → Nat} {n cnt : Nat} (hb : ∀ j, j < n → tx j < 128) (hC : tk_C tx n I J cnt) {ns : List Int64} (hJ : ∀ (j : Nat) (v : Int64), ns[j]? = some v → J 17 j = v) (hnd : ns.Nodup) (k1 : (nmF (tk_k tx n) (tk_v tx n) ns cnt).length ≤ 40 → ∀ I' J', nUc ns I J I' J' (nmF (tk_k tx n) (tk_v tx n) ns cnt) → Q (some (.int (nI 1))) S I' J' P) (k0 : 40 < (nmF (tk_k tx n) (tk_v tx n) ns cnt).length → ∀ I' J', nUc ns I J I' J' ns → Q (some (.int (nI 0))) S I' J' P) (hn : I 16 4 = nI ns.length) (hl : ns.length ≤ 40) : pm_Met l E yX2_takeAll cX2_takeAll 4 (some .boolean) d 0 0 [.ref 16, .ref 4] S I J P Q := by
  unfold pm_Met
  refine pm_lvs (lv' := [(0, _), (1, _)]) rfl ?_
  refine pw_aload_n dX2_takeAll_0 rfl ?_
  refine pw_getI fX2_25 dX2_takeAll_1 (sh_lt hG (by decide)) (sh_tg hG 14 rfl) rfl ?_
  refine pw_ti (z := nI ns.length) hn ?_
  refine pw_istore_n (lv' := [(2, _), (0, _), (1, _)]) dX2_takeAll_4 (by decide) rfl ?_
  refine pw_iconst (v := nI 0) dX2_takeAll_5 (by decide) ?_
  refine pw_istore_n (lv' := [(3, _), (2, _), (0, _), (1, _)]) dX2_takeAll_6 (by decide) rfl ?_
  exact c_takeAll_lp hG hP hd hb hC hJ hnd k1 k0 cnt 0 I J (Nat.zero_add _) (nUc.refl hn) hl

set_option maxRecDepth 20000 in
set_option maxHeartbeats 4000000 in
theorem r_room0 {l : Launch} {E : pmE} {d : Nat} {S : pmS} {I : pmI} {J : pmJ} {P : pmP} {Q : Option Value → pmS → pmI → pmJ → pmP → Prop} (hG : sh_St S) (hP : gr_St P) {k c : Nat} (hk : k ≤ 61) (kx : pm_W l E yX10_hasRoom cX10_hasRoom 5 (some .boolean) d 0 0 99 [(4, .int (nI k)), (3, .int (nI 0)), (2, .int (nI k)), (1, .int (nI c)), (0, .ref 47)] [] S I J P (pm_N E Q)) : ∀ (m j : Nat), j + m = k → pm_W l E yX10_hasRoom cX10_hasRoom 5 (some .boolean) d 0 0 49 [(4, .int (nI j)), (3, .int (nI 0)), (2, .int (nI k)), (1, .int (nI c)), (0, .ref 47)] [] S I J P (pm_N E Q)
  | 0, j, hj => by
    have e : j = k := by omega
    subst e
    refine pw_iload dX10_hasRoom_49 rfl ?_
    refine pw_iload_n dX10_hasRoom_51 rfl ?_
    refine pw_icmpN_ge _ _ (tgt := 99) dX10_hasRoom_52 (by decide) (rfl) (rfl) (by omega) (by omega) (fun h52 => ?_) (fun h52 => absurd h52 (by omega))
    exact kx
  | m + 1, j, hj => by
    refine pw_iload dX10_hasRoom_49 rfl ?_
    refine pw_iload_n dX10_hasRoom_51 rfl ?_
    refine pw_icmpN_ge _ _ (tgt := 99) dX10_hasRoom_52 (by decide) (rfl) (rfl) (by omega) (by omega) (fun h52 => absurd h52 (by omega)) (fun h52 => ?_)
    refine pw_iload_n dX10_hasRoom_55 rfl ?_
    refine pw_if_eq (tgt := 91) dX10_hasRoom_56 (by decide) (fun h56 => ?_) (fun h => absurd (by decide) h)
    refine pw_iconst (v := nI 0) dX10_hasRoom_91 (by decide) ?_
    refine pw_istore_n (lv' := [(3, _), (4, _), (2, _), (1, _), (0, _)]) dX10_hasRoom_92 (by decide) rfl ?_
    refine pw_sub [1, 0, 2, 3, 4] rfl ?_
    refine pw_iinc (lv' := [(4, _), (3, _), (2, _), (1, _), (0, _)]) dX10_hasRoom_93 rfl (by decide) rfl ?_
    refine pw_goto (tgt := 49) dX10_hasRoom_96 (by decide) ?_
    refine pm_lvs (lv' := [(4, .int (nI (j + 1))), (3, _), (2, _), (1, _), (0, _)]) (by rw [show nI j + Int32.ofInt 1 = nI (j + 1) from nI_add j 1]) ?_
    exact r_room0 hG hP hk kx m (j + 1) (by omega)
set_option maxRecDepth 20000 in
set_option maxHeartbeats 4000000 in
theorem r_room1 {l : Launch} {E : pmE} {d : Nat} {S : pmS} {I : pmI} {J : pmJ} {P : pmP} {Q : Option Value → pmS → pmI → pmJ → pmP → Prop} (hG : sh_St S) (hP : gr_St P) (hd : 2 ≤ d) {tx : Nat → Nat} {n i : Nat} (hb : ∀ j, j < n → tx j < 128) (hC : rC tx n I J i) {ns : List Int64} (hn : I 47 3 = nI ns.length) (hl : ns.length ≤ 40) (hJ : ∀ (j : Nat) (v : Int64), ns[j]? = some v → J 49 j = v) (hnd : ns.Nodup) {k c : Nat} (hk : k < i) (k1 : (∀ j, j < k → ¬ (tk_k tx n j = 97 ∧ tk_v tx n j = tk_v tx n k)) → pm_W l E yX10_hasRoom cX10_hasRoom 5 (some .boolean) d 0 0 99 [(4, .int (nI k)), (3, .int (nI 1)), (2, .int (nI k)), (1, .int (nI c)), (0, .ref 47)] [] S I J P (pm_N E Q)) (kx : (∃ j, j < k ∧ tk_k tx n j = 97 ∧ tk_v tx n j = tk_v tx n k) → pm_W l E yX10_hasRoom cX10_hasRoom 5 (some .boolean) d 0 0 99 [(4, .int (nI k)), (3, .int (nI 0)), (2, .int (nI k)), (1, .int (nI c)), (0, .ref 47)] [] S I J P (pm_N E Q)) : ∀ (m j : Nat), j + m = k → (∀ j', j' < j → ¬ (tk_k tx n j' = 97 ∧ tk_v tx n j' = tk_v tx n k)) → pm_W l E yX10_hasRoom cX10_hasRoom 5 (some .boolean) d 0 0 49 [(4, .int (nI j)), (3, .int (nI 1)), (2, .int (nI k)), (1, .int (nI c)), (0, .ref 47)] [] S I J P (pm_N E Q)
  | 0, j, hj, hall => by
    have e : j = k := by omega
    subst e
    have hi6 := hC.2.1
    refine pw_iload dX10_hasRoom_49 rfl ?_
    refine pw_iload_n dX10_hasRoom_51 rfl ?_
    refine pw_icmpN_ge _ _ (tgt := 99) dX10_hasRoom_52 (by decide) (rfl) (rfl) (by omega) (by omega) (fun h52 => ?_) (fun h52 => absurd h52 (by omega))
    exact k1 hall
  | m + 1, j, hj, hall => by
    have hi6 := hC.2.1
    have hkc := (rk_c (tk_k_c (tx := tx) (n := n) (i := j) hb).1)
    refine pw_iload dX10_hasRoom_49 rfl ?_
    refine pw_iload_n dX10_hasRoom_51 rfl ?_
    refine pw_icmpN_ge _ _ (tgt := 99) dX10_hasRoom_52 (by decide) (rfl) (rfl) (by omega) (by omega) (fun h52 => absurd h52 (by omega)) (fun h52 => ?_)
    refine pw_iload_n dX10_hasRoom_55 rfl ?_
    refine pw_if_eq (tgt := 91) dX10_hasRoom_56 (by decide) (fun h => absurd h (by decide)) (fun h56 => ?_)
    refine pw_aload_n dX10_hasRoom_59 rfl ?_
    refine pw_getR fX10_99 dX10_hasRoom_60 (sh_lt hG (by decide)) (sh_tg hG 45 rfl) rfl (gr_at hP 69 rfl) ?_
    refine pw_iload dX10_hasRoom_63 rfl ?_
    refine pw_ialdN j dX10_hasRoom_65 (sh_lt hG (by decide)) (sh_sh hG 75 rfl) (by decide) (rfl) (by omega) ?_
    refine pw_ti (z := nI (rk (tk_k tx n j))) (hC.2.2.2.2 j (by omega)).1 ?_
    refine pw_iconst (v := nI 1) dX10_hasRoom_66 (by decide) ?_
    refine pw_icmpN_ne _ _ (tgt := 87) dX10_hasRoom_67 (by decide) (rfl) (rfl) (by omega) (by omega) (fun h67 => ?_) (fun h67 => ?_)
    · refine pw_iconst (v := nI 1) dX10_hasRoom_87 (by decide) ?_
      refine pw_goto (tgt := 92) dX10_hasRoom_88 (by decide) ?_
      refine pw_istore_n (lv' := [(3, _), (4, _), (2, _), (1, _), (0, _)]) dX10_hasRoom_92 (by decide) rfl ?_
      refine pw_sub [1, 0, 2, 3, 4] rfl ?_
      refine pw_iinc (lv' := [(4, _), (3, _), (2, _), (1, _), (0, _)]) dX10_hasRoom_93 rfl (by decide) rfl ?_
      refine pw_goto (tgt := 49) dX10_hasRoom_96 (by decide) ?_
      refine pm_lvs (lv' := [(4, .int (nI (j + 1))), (3, _), (2, _), (1, _), (0, _)]) (by rw [show nI j + Int32.ofInt 1 = nI (j + 1) from nI_add j 1]) ?_
      exact r_room1 hG hP hd hb hC hn hl hJ hnd hk k1 kx m (j + 1) (by omega) (fun j' hj' => by rcases Nat.lt_or_ge j' j with g | g; exact hall j' g; have e : j' = j := (by omega); subst e; intro q; first | exact h67 ((rq97 hb).mpr q.1) | exact h84 q.2)
    · refine pw_aload_n dX10_hasRoom_70 rfl ?_
      refine pw_getR fX10_105 dX10_hasRoom_71 (sh_lt hG (by decide)) (sh_tg hG 45 rfl) rfl (gr_at hP 71 rfl) ?_
      refine pw_iload dX10_hasRoom_74 rfl ?_
      refine pw_laldN j dX10_hasRoom_76 (sh_lt hG (by decide)) (sh_sh hG 77 rfl) (by decide) (rfl) (by omega) ?_
      refine pw_tj (z := tk_v tx n j) (hC.2.2.2.1 j (by omega)).2.2 ?_
      refine pw_aload_n dX10_hasRoom_77 rfl ?_
      refine pw_getR fX10_105 dX10_hasRoom_78 (sh_lt hG (by decide)) (sh_tg hG 45 rfl) rfl (gr_at hP 71 rfl) ?_
      refine pw_iload_n dX10_hasRoom_81 rfl ?_
      refine pw_laldN k dX10_hasRoom_82 (sh_lt hG (by decide)) (sh_sh hG 77 rfl) (by decide) (rfl) (by omega) ?_
      refine pw_tj (z := tk_v tx n k) (hC.2.2.2.1 k (by omega)).2.2 ?_
      refine pw_lif_eq (tgt := 91) dX10_hasRoom_83 dX10_hasRoom_84 (by decide) (fun h84 => ?_) (fun h84 => ?_)
      · refine pw_iconst (v := nI 0) dX10_hasRoom_91 (by decide) ?_
        refine pw_istore_n (lv' := [(3, _), (4, _), (2, _), (1, _), (0, _)]) dX10_hasRoom_92 (by decide) rfl ?_
        refine pw_sub [1, 0, 2, 3, 4] rfl ?_
        refine pw_iinc (lv' := [(4, _), (3, _), (2, _), (1, _), (0, _)]) dX10_hasRoom_93 rfl (by decide) rfl ?_
        refine pw_goto (tgt := 49) dX10_hasRoom_96 (by decide) ?_
        refine pm_lvs (lv' := [(4, .int (nI (j + 1))), (3, _), (2, _), (1, _), (0, _)]) (by rw [show nI j + Int32.ofInt 1 = nI (j + 1) from nI_add j 1]) ?_
        exact r_room0 hG hP (by omega) (kx ⟨j, by omega, (rq97 hb).mp h67, h84⟩) m (j + 1) (by omega)
      · refine pw_iconst (v := nI 1) dX10_hasRoom_87 (by decide) ?_
        refine pw_goto (tgt := 92) dX10_hasRoom_88 (by decide) ?_
        refine pw_istore_n (lv' := [(3, _), (4, _), (2, _), (1, _), (0, _)]) dX10_hasRoom_92 (by decide) rfl ?_
        refine pw_sub [1, 0, 2, 3, 4] rfl ?_
        refine pw_iinc (lv' := [(4, _), (3, _), (2, _), (1, _), (0, _)]) dX10_hasRoom_93 rfl (by decide) rfl ?_
        refine pw_goto (tgt := 49) dX10_hasRoom_96 (by decide) ?_
        refine pm_lvs (lv' := [(4, .int (nI (j + 1))), (3, _), (2, _), (1, _), (0, _)]) (by rw [show nI j + Int32.ofInt 1 = nI (j + 1) from nI_add j 1]) ?_
        exact r_room1 hG hP hd hb hC hn hl hJ hnd hk k1 kx m (j + 1) (by omega) (fun j' hj' => by rcases Nat.lt_or_ge j' j with g | g; exact hall j' g; have e : j' = j := (by omega); subst e; intro q; first | exact h67 ((rq97 hb).mpr q.1) | exact h84 q.2)
set_option maxRecDepth 20000 in
set_option maxHeartbeats 4000000 in
theorem r_room_lp {l : Launch} {E : pmE} {d : Nat} {S : pmS} {I : pmI} {J : pmJ} {P : pmP} {Q : Option Value → pmS → pmI → pmJ → pmP → Prop} (hG : sh_St S) (hP : gr_St P) (hd : 2 ≤ d) {tx : Nat → Nat} {n i : Nat} (hb : ∀ j, j < n → tx j < 128) (hC : rC tx n I J i) {ns : List Int64} (hn : I 47 3 = nI ns.length) (hl : ns.length ≤ 40) (hJ : ∀ (j : Nat) (v : Int64), ns[j]? = some v → J 49 j = v) (hnd : ns.Nodup) (k1 : (nmF (tk_k tx n) (tk_v tx n) ns (i + 1)).length ≤ 40 → Q (some (.int (nI 1))) S I J P) (k0 : 40 < (nmF (tk_k tx n) (tk_v tx n) ns (i + 1)).length → Q (some (.int (nI 0))) S I J P) : ∀ (m k : Nat), k + m = i + 1 → pm_W l E yX10_hasRoom cX10_hasRoom 5 (some .boolean) d 0 0 7 [(2, .int (nI k)), (1, .int (nI (nmF (tk_k tx n) (tk_v tx n) ns k).length)), (0, .ref 47)] [] S I J P (pm_N E Q)
  | 0, k, hk => by
    have e : k = i + 1 := by omega
    subst e
    have hi6 := hC.2.1
    have hle := nmF_len (kd := tk_k tx n) (co := tk_v tx n) (ns := ns) (i + 1)
    refine pw_iload_n dX10_hasRoom_7 rfl ?_
    refine pw_aload_n dX10_hasRoom_8 rfl ?_
    refine pw_getI fX10_167 dX10_hasRoom_9 (sh_lt hG (by decide)) (sh_tg hG 45 rfl) rfl ?_
    refine pw_ti (z := nI (i + 1)) hC.1 ?_
    refine pw_icmpN_ge _ _ (tgt := 117) dX10_hasRoom_12 (by decide) (rfl) (rfl) (by omega) (by omega) (fun h12 => ?_) (fun h12 => absurd h12 (by omega))
    refine pw_iload_n dX10_hasRoom_117 rfl ?_
    refine pw_bipush (v := nI 40) dX10_hasRoom_118 (by decide) ?_
    refine pw_icmpN_gt _ _ (tgt := 127) dX10_hasRoom_120 (by decide) (rfl) (rfl) (by omega) (by omega) (fun h120 => ?_) (fun h120 => ?_)
    · refine pw_iconst (v := nI 0) dX10_hasRoom_127 (by decide) ?_
      exact pw_zret dX10_hasRoom_128 rfl (by decide) (k0 (by omega))
    · refine pw_iconst (v := nI 1) dX10_hasRoom_123 (by decide) ?_
      refine pw_goto (tgt := 128) dX10_hasRoom_124 (by decide) ?_
      exact pw_zret dX10_hasRoom_128 rfl (by decide) (k1 (by omega))
  | m + 1, k, hk => by
    have hi6 := hC.2.1
    have hle := nmF_len (kd := tk_k tx n) (co := tk_v tx n) (ns := ns) k
    have hkc := (rk_c (tk_k_c (tx := tx) (n := n) (i := k) hb).1)
    refine pw_iload_n dX10_hasRoom_7 rfl ?_
    refine pw_aload_n dX10_hasRoom_8 rfl ?_
    refine pw_getI fX10_167 dX10_hasRoom_9 (sh_lt hG (by decide)) (sh_tg hG 45 rfl) rfl ?_
    refine pw_ti (z := nI (i + 1)) hC.1 ?_
    refine pw_icmpN_ge _ _ (tgt := 117) dX10_hasRoom_12 (by decide) (rfl) (rfl) (by omega) (by omega) (fun h12 => absurd h12 (by omega)) (fun h12 => ?_)
    refine pw_aload_n dX10_hasRoom_15 rfl ?_
    refine pw_getR fX10_99 dX10_hasRoom_16 (sh_lt hG (by decide)) (sh_tg hG 45 rfl) rfl (gr_at hP 69 rfl) ?_
    refine pw_iload_n dX10_hasRoom_19 rfl ?_
    refine pw_ialdN k dX10_hasRoom_20 (sh_lt hG (by decide)) (sh_sh hG 75 rfl) (by decide) (rfl) (by omega) ?_
    refine pw_ti (z := nI (rk (tk_k tx n k))) (hC.2.2.2.2 k (by omega)).1 ?_
    refine pw_iconst (v := nI 1) dX10_hasRoom_21 (by decide) ?_
    refine pw_icmpN_ne _ _ (tgt := 44) dX10_hasRoom_22 (by decide) (rfl) (rfl) (by omega) (by omega) (fun h22 => ?_) (fun h22 => ?_)
    · refine pw_iconst (v := nI 0) dX10_hasRoom_44 (by decide) ?_
      refine pw_istore_n (lv' := [(3, _), (2, _), (1, _), (0, _)]) dX10_hasRoom_45 (by decide) rfl ?_
      refine pw_iconst (v := nI 0) dX10_hasRoom_46 (by decide) ?_
      refine pw_istore (lv' := [(4, _), (3, _), (2, _), (1, _), (0, _)]) dX10_hasRoom_47 (by decide) rfl ?_
      refine pm_lvs (lv' := [(4, .int (nI 0)), (3, .int (nI 0)), (2, _), (1, _), (0, _)]) rfl ?_
      refine r_room0 hG hP (by omega) ?_ k 0 (Nat.zero_add _)
      have hno : ¬ (tk_k tx n k = 97 ∧ tk_v tx n k ∉ (nmF (tk_k tx n) (tk_v tx n) ns k)) := fun q => h22 ((rq97 hb).mpr q.1)
      refine pw_iload_n dX10_hasRoom_99 rfl ?_
      refine pw_iload_n dX10_hasRoom_100 rfl ?_
      refine pw_if_eq (tgt := 108) dX10_hasRoom_101 (by decide) (fun h101 => ?_) (fun h => absurd (by decide) h)
      refine pw_iconst (v := nI 0) dX10_hasRoom_108 (by decide) ?_
      refine pw_iadd dX10_hasRoom_109 ?_
      refine pw_ti (z := nI (nmF (tk_k tx n) (tk_v tx n) ns (k + 1)).length) (by rw [nmF_n hno]; exact nI_add _ 0) ?_
      refine pw_istore_n (lv' := [(1, _), (4, _), (3, _), (2, _), (0, _)]) dX10_hasRoom_110 (by decide) rfl ?_
      refine pw_sub [3, 0, 4] rfl ?_
      refine pw_iinc (lv' := [(2, _), (1, _), (0, _)]) dX10_hasRoom_111 rfl (by decide) rfl ?_
      refine pw_goto (tgt := 7) dX10_hasRoom_114 (by decide) ?_
      refine pm_lvs (lv' := [(2, .int (nI (k + 1))), (1, _), (0, _)]) (by rw [show nI k + Int32.ofInt 1 = nI (k + 1) from nI_add k 1]) ?_
      exact r_room_lp hG hP hd hb hC hn hl hJ hnd k1 k0 m (k + 1) (by omega)
    · have h97 := (rq97 hb).mp h22
      have hki : k < i := by
        rcases Nat.lt_or_ge k i with g | g
        · exact g
        · exfalso
          have e : k = i := by omega
          subst e
          rcases hC.2.2.1 with q | q <;> (rw [h97] at q; cases q)
      refine pw_aload_n dX10_hasRoom_25 rfl ?_
      refine pw_aload_n dX10_hasRoom_26 rfl ?_
      refine pw_getR fX10_105 dX10_hasRoom_27 (sh_lt hG (by decide)) (sh_tg hG 45 rfl) rfl (gr_at hP 71 rfl) ?_
      refine pw_iload_n dX10_hasRoom_30 rfl ?_
      refine pw_laldN k dX10_hasRoom_31 (sh_lt hG (by decide)) (sh_sh hG 77 rfl) (by decide) (rfl) (by omega) ?_
      refine pw_tj (z := tk_v tx n k) (hC.2.2.2.1 k (by omega)).2.2 ?_
      refine pw_callV (as := [_]) (kc' := 0) (ks' := 0) lX10_276 dX10_hasRoom_32 rfl rfl (sh_lt hG (by decide)) (sh_tg hG 45 rfl) (Nat.le_of_ble_eq_true rfl) (by omega) (Nat.le_of_ble_eq_true rfl) (Nat.zero_le _) (Nat.zero_le _) ?_
      refine r_find hG hP hn hl hJ hnd (fun hm => ?_) (fun hm => ?_)
      · refine pw_bipush (v := -5) dX10_hasRoom_35 (by decide) ?_
        refine pw_icmp_ne (tgt := 44) dX10_hasRoom_37 (by decide) (fun h37 => ?_) (fun h => absurd h (nI_n5 (by have := (ns_at hm).2; omega)))
        refine pw_iconst (v := nI 0) dX10_hasRoom_44 (by decide) ?_
        refine pw_istore_n (lv' := [(3, _), (2, _), (1, _), (0, _)]) dX10_hasRoom_45 (by decide) rfl ?_
        refine pw_iconst (v := nI 0) dX10_hasRoom_46 (by decide) ?_
        refine pw_istore (lv' := [(4, _), (3, _), (2, _), (1, _), (0, _)]) dX10_hasRoom_47 (by decide) rfl ?_
        refine pm_lvs (lv' := [(4, .int (nI 0)), (3, .int (nI 0)), (2, _), (1, _), (0, _)]) rfl ?_
        refine r_room0 hG hP (by omega) ?_ k 0 (Nat.zero_add _)
        have hno : ¬ (tk_k tx n k = 97 ∧ tk_v tx n k ∉ (nmF (tk_k tx n) (tk_v tx n) ns k)) := fun q => q.2 ((nmF_pre k).subset hm)
        refine pw_iload_n dX10_hasRoom_99 rfl ?_
        refine pw_iload_n dX10_hasRoom_100 rfl ?_
        refine pw_if_eq (tgt := 108) dX10_hasRoom_101 (by decide) (fun h101 => ?_) (fun h => absurd (by decide) h)
        refine pw_iconst (v := nI 0) dX10_hasRoom_108 (by decide) ?_
        refine pw_iadd dX10_hasRoom_109 ?_
        refine pw_ti (z := nI (nmF (tk_k tx n) (tk_v tx n) ns (k + 1)).length) (by rw [nmF_n hno]; exact nI_add _ 0) ?_
        refine pw_istore_n (lv' := [(1, _), (4, _), (3, _), (2, _), (0, _)]) dX10_hasRoom_110 (by decide) rfl ?_
        refine pw_sub [3, 0, 4] rfl ?_
        refine pw_iinc (lv' := [(2, _), (1, _), (0, _)]) dX10_hasRoom_111 rfl (by decide) rfl ?_
        refine pw_goto (tgt := 7) dX10_hasRoom_114 (by decide) ?_
        refine pm_lvs (lv' := [(2, .int (nI (k + 1))), (1, _), (0, _)]) (by rw [show nI k + Int32.ofInt 1 = nI (k + 1) from nI_add k 1]) ?_
        exact r_room_lp hG hP hd hb hC hn hl hJ hnd k1 k0 m (k + 1) (by omega)
      · refine pw_bipush (v := -5) dX10_hasRoom_35 (by decide) ?_
        refine pw_icmp_ne (tgt := 44) dX10_hasRoom_37 (by decide) (fun h => absurd (rfl) h) (fun h37 => ?_)
        refine pw_iconst (v := nI 1) dX10_hasRoom_40 (by decide) ?_
        refine pw_goto (tgt := 45) dX10_hasRoom_41 (by decide) ?_
        refine pw_istore_n (lv' := [(3, _), (2, _), (1, _), (0, _)]) dX10_hasRoom_45 (by decide) rfl ?_
        refine pw_iconst (v := nI 0) dX10_hasRoom_46 (by decide) ?_
        refine pw_istore (lv' := [(4, _), (3, _), (2, _), (1, _), (0, _)]) dX10_hasRoom_47 (by decide) rfl ?_
        refine pm_lvs (lv' := [(4, .int (nI 0)), (3, .int (nI 1)), (2, _), (1, _), (0, _)]) rfl ?_
        refine r_room1 hG hP hd hb hC hn hl hJ hnd hki (fun hall => ?_) (fun hex => ?_) k 0 (Nat.zero_add _) (fun j hj => absurd hj (Nat.not_lt_zero _))
        · have hy : tk_k tx n k = 97 ∧ tk_v tx n k ∉ (nmF (tk_k tx n) (tk_v tx n) ns k) := ⟨h97, fun q => by
            rcases (nmF_mem k).mp q with g | ⟨j, g1, g2⟩
            · exact hm g
            · exact hall j g1 g2⟩
          refine pw_iload_n dX10_hasRoom_99 rfl ?_
          refine pw_iload_n dX10_hasRoom_100 rfl ?_
          refine pw_if_eq (tgt := 108) dX10_hasRoom_101 (by decide) (fun h => absurd h (by decide)) (fun h101 => ?_)
          refine pw_iconst (v := nI 1) dX10_hasRoom_104 (by decide) ?_
          refine pw_goto (tgt := 109) dX10_hasRoom_105 (by decide) ?_
          refine pw_iadd dX10_hasRoom_109 ?_
          refine pw_ti (z := nI (nmF (tk_k tx n) (tk_v tx n) ns (k + 1)).length) (by rw [nmF_y hy, List.length_append, List.length_singleton]; exact nI_add _ 1) ?_
          refine pw_istore_n (lv' := [(1, _), (4, _), (3, _), (2, _), (0, _)]) dX10_hasRoom_110 (by decide) rfl ?_
          refine pw_sub [3, 0, 4] rfl ?_
          refine pw_iinc (lv' := [(2, _), (1, _), (0, _)]) dX10_hasRoom_111 rfl (by decide) rfl ?_
          refine pw_goto (tgt := 7) dX10_hasRoom_114 (by decide) ?_
          refine pm_lvs (lv' := [(2, .int (nI (k + 1))), (1, _), (0, _)]) (by rw [show nI k + Int32.ofInt 1 = nI (k + 1) from nI_add k 1]) ?_
          exact r_room_lp hG hP hd hb hC hn hl hJ hnd k1 k0 m (k + 1) (by omega)
        · have hno : ¬ (tk_k tx n k = 97 ∧ tk_v tx n k ∉ (nmF (tk_k tx n) (tk_v tx n) ns k)) := fun q => q.2 ((nmF_mem k).mpr (Or.inr hex))
          refine pw_iload_n dX10_hasRoom_99 rfl ?_
          refine pw_iload_n dX10_hasRoom_100 rfl ?_
          refine pw_if_eq (tgt := 108) dX10_hasRoom_101 (by decide) (fun h101 => ?_) (fun h => absurd (by decide) h)
          refine pw_iconst (v := nI 0) dX10_hasRoom_108 (by decide) ?_
          refine pw_iadd dX10_hasRoom_109 ?_
          refine pw_ti (z := nI (nmF (tk_k tx n) (tk_v tx n) ns (k + 1)).length) (by rw [nmF_n hno]; exact nI_add _ 0) ?_
          refine pw_istore_n (lv' := [(1, _), (4, _), (3, _), (2, _), (0, _)]) dX10_hasRoom_110 (by decide) rfl ?_
          refine pw_sub [3, 0, 4] rfl ?_
          refine pw_iinc (lv' := [(2, _), (1, _), (0, _)]) dX10_hasRoom_111 rfl (by decide) rfl ?_
          refine pw_goto (tgt := 7) dX10_hasRoom_114 (by decide) ?_
          refine pm_lvs (lv' := [(2, .int (nI (k + 1))), (1, _), (0, _)]) (by rw [show nI k + Int32.ofInt 1 = nI (k + 1) from nI_add k 1]) ?_
          exact r_room_lp hG hP hd hb hC hn hl hJ hnd k1 k0 m (k + 1) (by omega)
set_option maxRecDepth 20000 in
set_option maxHeartbeats 4000000 in
theorem r_room {l : Launch} {E : pmE} {d : Nat} {S : pmS} {I : pmI} {J : pmJ} {P : pmP} {Q : Option Value → pmS → pmI → pmJ → pmP → Prop} (hG : sh_St S) (hP : gr_St P) (hd : 2 ≤ d) {tx : Nat → Nat} {n i : Nat} (hb : ∀ j, j < n → tx j < 128) (hC : rC tx n I J i) {ns : List Int64} (hn : I 47 3 = nI ns.length) (hl : ns.length ≤ 40) (hJ : ∀ (j : Nat) (v : Int64), ns[j]? = some v → J 49 j = v) (hnd : ns.Nodup) (k1 : (nmF (tk_k tx n) (tk_v tx n) ns (i + 1)).length ≤ 40 → Q (some (.int (nI 1))) S I J P) (k0 : 40 < (nmF (tk_k tx n) (tk_v tx n) ns (i + 1)).length → Q (some (.int (nI 0))) S I J P) : pm_Met l E yX10_hasRoom cX10_hasRoom 5 (some .boolean) d 0 0 [.ref 47] S I J P Q := by
  unfold pm_Met
  refine pm_lvs (lv' := [(0, _)]) rfl ?_
  refine pw_aload_n dX10_hasRoom_0 rfl ?_
  refine pw_getI fX10_273 dX10_hasRoom_1 (sh_lt hG (by decide)) (sh_tg hG 45 rfl) rfl ?_
  refine pw_ti (z := nI ns.length) hn ?_
  refine pw_istore_n (lv' := [(1, _), (0, _)]) dX10_hasRoom_4 (by decide) rfl ?_
  refine pw_iconst (v := nI 0) dX10_hasRoom_5 (by decide) ?_
  refine pw_istore_n (lv' := [(2, _), (1, _), (0, _)]) dX10_hasRoom_6 (by decide) rfl ?_
  exact r_room_lp hG hP hd hb hC hn hl hJ hnd k1 k0 (i + 1) 0 (Nat.zero_add _)

