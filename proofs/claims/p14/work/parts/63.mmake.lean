/-- only rows of THINGS from n on differ -/
def tU (b n : Nat) (I : pmI) (J : pmJ) (I' : pmI) (J' : pmJ) : Prop := (∀ a, a < b ∨ b + 5 ≤ a → I' a = I a ∧ J' a = J a) ∧ (∀ k j, k < 3 → j < n → I' (b + k) j = I (b + k) j) ∧ ∀ j, j < 3 * n → I' (b + 3) j = I (b + 3) j ∧ J' (b + 4) j = J (b + 4) j
theorem tU.refl {b n : Nat} {I : pmI} {J : pmJ} : tU b n I J I J := ⟨fun _ _ => ⟨rfl, rfl⟩, fun _ _ _ _ => rfl, fun _ _ => ⟨rfl, rfl⟩⟩
theorem tU.w3 {b n k j : Nat} {I I' : pmI} {J J' : pmJ} {x : Int32} (h : tU b n I J I' J') (hk : k < 3) (hj : n ≤ j) : tU b n I J (pm_u I' (b + k) j x) J' := by
  refine ⟨fun a ha => ⟨by rw [pm_u_ne (by omega)]; exact (h.1 a ha).1, (h.1 a ha).2⟩, fun k' j' h1 h2 => ?_, fun j' h1 => ⟨by rw [pm_u_ne (by omega)]; exact (h.2.2 j' h1).1, (h.2.2 j' h1).2⟩⟩
  by_cases e : k' = k
  · subst e; rw [pm_u_eq, pm_up_ne (by omega)]; exact h.2.1 k' j' h1 h2
  · rw [pm_u_ne (by omega)]; exact h.2.1 k' j' h1 h2
theorem tU.wk {b n j : Nat} {I I' : pmI} {J J' : pmJ} {x : Int32} (h : tU b n I J I' J') (hj : 3 * n ≤ j) : tU b n I J (pm_u I' (b + 3) j x) J' :=
  ⟨fun a ha => ⟨by rw [pm_u_ne (by omega)]; exact (h.1 a ha).1, (h.1 a ha).2⟩, fun k' j' h1 h2 => by rw [pm_u_ne (by omega)]; exact h.2.1 k' j' h1 h2, fun j' h1 => ⟨by rw [pm_u_eq, pm_up_ne (by omega)]; exact (h.2.2 j' h1).1, (h.2.2 j' h1).2⟩⟩
theorem tU.wv {b n j : Nat} {I I' : pmI} {J J' : pmJ} {x : Int64} (h : tU b n I J I' J') (hj : 3 * n ≤ j) : tU b n I J I' (pm_u J' (b + 4) j x) :=
  ⟨fun a ha => ⟨(h.1 a ha).1, by rw [pm_u_ne (by omega)]; exact (h.1 a ha).2⟩, h.2.1, fun j' h1 => ⟨(h.2.2 j' h1).1, by rw [pm_u_eq, pm_up_ne (by omega)]; exact (h.2.2 j' h1).2⟩⟩
theorem mS.tmv {S0 : pmS} {I0 : pmI} {J0 : pmJ} {P0 : pmP} {b0 : Nat} {A : aS} {c i bs s b m : Nat} {w : Int32} {rv : List vV} {fr : List (Nat × Nat × Nat)} {t : List tH} {S : pmS} {I I' : pmI} {J J' : pmJ} {P : pmP} (h : mS S0 I0 J0 P0 b0 A S I J P c w i bs rv fr s t b m) (hu : tU b t.length I J I' J') (hv3 : ∀ q ∈ t, q.2.length ≤ 3) : mS S0 I0 J0 P0 b0 A S I' J' P c w i bs rv fr s t b m := by
  have ht := h.tc
  have hb := ht.bd
  have hF := h.fr'
  have e : ∀ a, a = 21 ∨ (34 ≤ a ∧ a ≤ 41) → I' a = I a ∧ J' a = J a := fun a ha => hu.1 a (by omega)
  have e34 := e 34 (by decide)
  have e36 := e 36 (by decide)
  have e37 := e 37 (by decide)
  have e39 := e 39 (by decide)
  have e40 := e 40 (by decide)
  have e41 := e 41 (by decide)
  have e21 := e 21 (by decide)
  refine ⟨⟨h.hG, h.hP, ⟨hF.1, hF.2.1, fun a hx ha => ?_⟩, h.1.2.2.2⟩, ⟨ht.bd, ht.2.1, ht.2.2.1, ht.m', ht.l, by rw [e21.1]; exact ht.n, fun j s vs hj => ?_⟩, by rw [e34.1, e41.1]; exact h.2.2.1, h.lm, by rw [e36.1, e37.2]; exact h.row, by rw [e39.1, e40.1]; exact h.frm⟩
  · have e1 := hu.1 a (by have := hx.2.2.2; have := h.1.2.2.2.2.1; omega)
    have e2 := hF.2.2 a hx ha
    exact ⟨e1.1.trans e2.1, e1.2.trans e2.2.1, e2.2.2⟩
  · have hjl := (List.getElem?_eq_some_iff.mp hj).1
    have hvs : vs.length ≤ 3 := hv3 (s, vs) (List.mem_of_getElem? hj)
    obtain ⟨g1, g2, g3, g4⟩ := ht.at hj
    have e0 := hu.2.1 0 j (by decide) hjl
    rw [Nat.add_zero] at e0
    refine ⟨by rw [e0]; exact g1, by rw [hu.2.1 1 j (by decide) hjl]; exact g2, by rw [hu.2.1 2 j (by decide) hjl]; exact g3, fun i v hi => ?_⟩
    have hil := (List.getElem?_eq_some_iff.mp hi).1
    have e3 := hu.2.2 (3 * j + i) (by omega)
    rw [e3.1, e3.2]
    exact g4 i v hi
theorem mS.made {S0 : pmS} {I0 : pmI} {J0 : pmJ} {P0 : pmP} {b0 : Nat} {A : aS} {c i bs s b m : Nat} {w : Int32} {rv : List vV} {fr : List (Nat × Nat × Nat)} {t : List tH} {S : pmS} {I : pmI} {J : pmJ} {P : pmP} (h : mS S0 I0 J0 P0 b0 A S I J P c w i bs rv fr s t b m) {s' : Nat} {us : List vV} (hl : t.length < m) (h0 : I b t.length = nI (A.ns.idxOf (A.at s').dec)) (h1 : I (b + 1) t.length = nI (A.at s').ed) (h2 : I (b + 2) t.length = nI us.length) (h3 : ∀ (i : Nat) (v : vV), us[i]? = some v → I (b + 3) (3 * t.length + i) = nI v.1 ∧ J (b + 4) (3 * t.length + i) = v.2) : mS S0 I0 J0 P0 b0 A S (pm_u I 21 5 (nI (t.length + 1))) J P c w i bs rv fr s (t ++ [(s', us)]) b m := by
  have ht := h.tc
  have hb := ht.bd
  have hF := h.fr'
  have e : ∀ a, a ≠ 21 → pm_u I 21 5 (nI (t.length + 1)) a = I a := fun a ha => pm_u_ne ha
  refine ⟨⟨h.hG, h.hP, ⟨hF.1, hF.2.1, fun a hx ha => ?_⟩, h.1.2.2.2.1, h.1.2.2.2.2.1, h.1.2.2.2.2.2.trans (List.prefix_append _ _)⟩, ⟨ht.bd, ht.2.1, ht.2.2.1, ht.m', by rw [List.length_append, List.length_singleton]; omega, by rw [pm_u_eq, pm_up_eq, List.length_append, List.length_singleton], fun j s vs hj => ?_⟩, by rw [e 34 (by decide), e 41 (by decide)]; exact h.2.2.1, h.lm, by rw [e 36 (by decide)]; exact h.row, by rw [e 39 (by decide), e 40 (by decide)]; exact h.frm⟩
  · rw [e a hx.1]; exact hF.2.2 a hx ha
  · rw [e b (by omega), e (b + 1) (by omega), e (b + 2) (by omega), e (b + 3) (by omega)]
    rcases Nat.lt_trichotomy j t.length with hj1 | hj1 | hj1
    · rw [List.getElem?_append_left hj1] at hj
      exact ht.at hj
    · subst hj1
      rw [List.getElem?_append_right (Nat.le_refl _), Nat.sub_self] at hj
      cases hj
      exact ⟨h0, h1, h2, h3⟩
    · rw [List.getElem?_eq_none (by rw [List.length_append, List.length_singleton]; omega)] at hj
      cases hj
set_option maxRecDepth 20000 in
set_option maxHeartbeats 4000000 in
theorem m_make_lp {l : Launch} {E : pmE} {d : Nat} {S : pmS} {P : pmP} {Q : Option Value → pmS → pmI → pmJ → pmP → Prop} {S0 : pmS} {I0 : pmI} {J0 : pmJ} {P0 : pmP} {b0 : Nat} {A : aS} {c i bs s b m : Nat} {w : Int32} {rv : List vV} {fr : List (Nat × Nat × Nat)} {t : List tH} (hd : 1 ≤ d) (hv3 : ∀ q ∈ t, q.2.length ≤ 3) {s' f : Nat} {us : List vV} {x1 x2 : Int32} (hl : t.length < m) (hu3 : us.length ≤ 3) (hrow : ∀ (i : Nat) (v : vV), us[i]? = some v → rv[f + i]? = some v) (k : ∀ I' J', mS S0 I0 J0 P0 b0 A S I' J' P c w i bs rv fr s (t ++ [(s', us)]) b m → Q (some (.int (nI t.length))) S I' J' P) : ∀ (n i9 : Nat) (I : pmI) (J : pmJ), i9 + n = us.length → mS S0 I0 J0 P0 b0 A S I J P c w i bs rv fr s t b m → I b t.length = nI (A.ns.idxOf (A.at s').dec) → I (b + 1) t.length = nI (A.at s').ed → I (b + 2) t.length = nI us.length → (∀ (i : Nat) (v : vV), i < i9 → us[i]? = some v → I (b + 3) (3 * t.length + i) = nI v.1 ∧ J (b + 4) (3 * t.length + i) = v.2) → pm_W l E yX6_make cX6_make 7 (some .int) d 0 0 50 [(6, .int (nI i9)), (0, .ref 21), (1, .int x1), (2, .int x2), (3, .ref 35), (4, .int (nI f)), (5, .int (nI us.length))] [] S I J P (pm_N E Q)
  | 0, i9, I, J, hi9, h, h0, h1, h2, h3 => by
    have hG := h.hG
    have hP := h.hP
    have ht := h.tc
    have htm := ht.m'
    have htl := ht.l
    have hbd := ht.bd
    refine pw_iload dX6_make_50 rfl ?_
    refine pw_iload dX6_make_52 rfl ?_
    refine pw_icmpN_ge _ _ (tgt := 115) dX6_make_54 (by decide) (rfl) (rfl) (by omega) (by omega) (fun h54 => ?_) (fun h54 => absurd h54 (by omega))
    refine pw_aload_n dX6_make_115 rfl ?_
    refine pw_dup dX6_make_116 rfl ?_
    refine pw_getI fX6_28 dX6_make_117 (sh_lt hG (by decide)) (sh_tg hG 19 rfl) rfl ?_
    refine pw_iconst (v := nI 1) dX6_make_120 (by decide) ?_
    refine pw_iadd dX6_make_121 ?_
    refine pw_ti (z := nI (t.length + 1)) (by rw [ht.n]; exact nI_add _ 1) ?_
    refine pw_putI fX6_28 dX6_make_122 (Or.inl rfl) (by decide) (sh_lt hG (by decide)) (sh_tg hG 19 rfl) rfl ?_
    refine pw_aload_n dX6_make_125 rfl ?_
    refine pw_getI fX6_28 dX6_make_126 (sh_lt hG (by decide)) (sh_tg hG 19 rfl) rfl ?_
    refine pw_iconst (v := nI 1) dX6_make_129 (by decide) ?_
    refine pw_isub dX6_make_130 ?_
    refine pw_ti (z := nI t.length) (by rw [pm_u_eq, pm_up_eq]; exact nI_pred _) ?_
    exact pw_iret dX6_make_131 rfl (k _ _ (h.made hl h0 h1 h2 (fun i v hi => h3 i v (by have := (List.getElem?_eq_some_iff.mp hi).1; omega) hi)))
  | n + 1, i9, I, J, hi9, h, h0, h1, h2, h3 => by
    have hG := h.hG
    have hP := h.hP
    have ht := h.tc
    have htm := ht.m'
    have htl := ht.l
    have hbd := ht.bd
    have hil : i9 < us.length := by omega
    obtain ⟨v, hv⟩ : ∃ v, us[i9]? = some v := ⟨_, List.getElem?_eq_getElem hil⟩
    have hrv := hrow i9 v hv
    have hfl := (List.getElem?_eq_some_iff.mp hrv).1
    have hlm := h.lm.1
    have hr := h.row (f + i9) v hrv
    refine pw_iload dX6_make_50 rfl ?_
    refine pw_iload dX6_make_52 rfl ?_
    refine pw_icmpN_ge _ _ (tgt := 115) dX6_make_54 (by decide) (rfl) (rfl) (by omega) (by omega) (fun h54 => absurd h54 (by omega)) (fun h54 => ?_)
    refine pw_iload dX6_make_57 rfl ?_
    refine pw_iconst (v := nI 3) dX6_make_59 (by decide) ?_
    refine pw_icmpN_ge _ _ (tgt := 115) dX6_make_60 (by decide) (rfl) (rfl) (by omega) (by omega) (fun h60 => absurd h60 (by omega)) (fun h60 => ?_)
    refine pw_aload_n dX6_make_63 rfl ?_
    refine pw_getR fX6_21 dX6_make_64 (sh_lt hG (by decide)) (sh_tg hG 19 rfl) rfl ht.q3 ?_
    refine pw_aload_n dX6_make_67 rfl ?_
    refine pw_getI fX6_28 dX6_make_68 (sh_lt hG (by decide)) (sh_tg hG 19 rfl) rfl ?_
    refine pw_iconst (v := nI 3) dX6_make_71 (by decide) ?_
    refine pw_imul dX6_make_72 ?_
    refine pw_iload dX6_make_73 rfl ?_
    refine pw_iadd dX6_make_75 ?_
    refine pw_ti (z := nI (3 * t.length + i9)) (by rw [ht.n, show nI t.length * nI 3 = nI (t.length * 3) from (Int32.ofNat_mul _ 3).symm, nI_add, Nat.mul_comm]) ?_
    refine pw_aload_n dX6_make_76 rfl ?_
    refine pw_iload dX6_make_77 rfl ?_
    refine pw_iload dX6_make_79 rfl ?_
    refine pw_iadd dX6_make_81 ?_
    refine pw_ti (z := nI (f + i9)) (nI_add _ _) ?_
    refine pw_callV (as := [_]) (kc' := 0) (ks' := 0) lX6_35 dX6_make_82 rfl rfl (sh_lt hG (by decide)) (sh_tg hG 33 rfl) (Nat.le_of_ble_eq_true rfl) (by omega) (Nat.le_of_ble_eq_true rfl) (Nat.zero_le _) (Nat.zero_le _) ?_
    refine v_kind35 hG hP (by omega) ?_
    refine pw_ti (z := nI v.1) hr.1 ?_
    refine pw_iastN (3 * t.length + i9) dX6_make_85 (by omega) (by have := ht.bd; omega) ht.s3 (by omega) (rfl) (by omega) ?_
    refine pw_aload_n dX6_make_86 rfl ?_
    refine pw_getR fX6_24 dX6_make_87 (sh_lt hG (by decide)) (sh_tg hG 19 rfl) rfl ht.q4 ?_
    refine pw_aload_n dX6_make_90 rfl ?_
    refine pw_getI fX6_28 dX6_make_91 (sh_lt hG (by decide)) (sh_tg hG 19 rfl) rfl ?_
    refine pw_iconst (v := nI 3) dX6_make_94 (by decide) ?_
    refine pw_imul dX6_make_95 ?_
    refine pw_iload dX6_make_96 rfl ?_
    refine pw_iadd dX6_make_98 ?_
    refine pw_ti (z := nI (3 * t.length + i9)) (by rw [pm_u_ne (by omega), ht.n, show nI t.length * nI 3 = nI (t.length * 3) from (Int32.ofNat_mul _ 3).symm, nI_add, Nat.mul_comm]) ?_
    refine pw_aload_n dX6_make_99 rfl ?_
    refine pw_iload dX6_make_100 rfl ?_
    refine pw_iload dX6_make_102 rfl ?_
    refine pw_iadd dX6_make_104 ?_
    refine pw_ti (z := nI (f + i9)) (nI_add _ _) ?_
    refine pw_callV (as := [_]) (kc' := 0) (ks' := 0) lX6_41 dX6_make_105 rfl rfl (sh_lt hG (by decide)) (sh_tg hG 33 rfl) (Nat.le_of_ble_eq_true rfl) (by omega) (Nat.le_of_ble_eq_true rfl) (Nat.zero_le _) (Nat.zero_le _) ?_
    refine v_core35 hG hP (by omega) ?_
    refine pw_tj (z := v.2) hr.2 ?_
    refine pw_lastN (3 * t.length + i9) dX6_make_108 (by omega) (by have := ht.bd; omega) ht.s4 (by omega) (rfl) (by omega) ?_
    refine pw_iinc (lv' := [(6, _), (0, _), (1, _), (2, _), (3, _), (4, _), (5, _)]) dX6_make_109 rfl (by decide) rfl ?_
    refine pw_goto (tgt := 50) dX6_make_112 (by decide) ?_
    refine pm_lvs (lv' := [(6, .int (nI (i9 + 1))), (0, _), (1, _), (2, _), (3, _), (4, _), (5, _)]) (by rw [show nI i9 + Int32.ofInt 1 = nI (i9 + 1) from nI_add i9 1]) ?_
    have hU : tU b t.length I J (pm_u I (b + 3) (3 * t.length + i9) (nI v.1)) (pm_u J (b + 4) (3 * t.length + i9) v.2) := (tU.refl.wk (by omega)).wv (by omega)
    refine m_make_lp hd hv3 hl hu3 hrow k n (i9 + 1) _ _ (by omega) (h.tmv hU hv3) (by rw [pm_u_ne (by omega)]; exact h0) (by rw [pm_u_ne (by omega)]; exact h1) (by rw [pm_u_ne (by omega)]; exact h2) (fun i u hi hu => ?_)
    rw [pm_u_eq, pm_u_eq]
    by_cases e : i = i9
    · subst e
      rw [hv] at hu
      cases hu
      exact ⟨pm_up_eq, pm_up_eq⟩
    · rw [pm_up_ne (by omega), pm_up_ne (by omega)]
      exact h3 i u (by omega) hu
set_option maxRecDepth 20000 in
set_option maxHeartbeats 4000000 in
theorem m_make_t {l : Launch} {E : pmE} {d : Nat} {S : pmS} {I : pmI} {J : pmJ} {P : pmP} {Q : Option Value → pmS → pmI → pmJ → pmP → Prop} {S0 : pmS} {I0 : pmI} {J0 : pmJ} {P0 : pmP} {b0 : Nat} {A : aS} {c i bs s b m : Nat} {w : Int32} {rv : List vV} {fr : List (Nat × Nat × Nat)} {t : List tH} (h : mS S0 I0 J0 P0 b0 A S I J P c w i bs rv fr s t b m) (hd : 1 ≤ d) (hv3 : ∀ q ∈ t, q.2.length ≤ 3) {s' f : Nat} {us : List vV} (hl : t.length < m) (hu3 : us.length ≤ 3) (hrow : ∀ (i : Nat) (v : vV), us[i]? = some v → rv[f + i]? = some v) (k : ∀ I' J', mS S0 I0 J0 P0 b0 A S I' J' P c w i bs rv fr s (t ++ [(s', us)]) b m → Q (some (.int (nI t.length))) S I' J' P) : pm_W l E yX6_make cX6_make 7 (some .int) d 0 0 16 [(0, .ref 21), (1, (.int (nI (A.ns.idxOf (A.at s').dec)))), (2, (.int (nI (A.at s').ed))), (3, .ref 35), (4, .int (nI f)), (5, .int (nI us.length))] [] S I J P (pm_N E Q) := by
  have hG := h.hG
  have hP := h.hP
  have ht := h.tc
  have htm := ht.m'
  have htl := ht.l
  have hbd := ht.bd
  refine pw_aload_n dX6_make_16 rfl ?_
  refine pw_getR fX6_11 dX6_make_17 (sh_lt hG (by decide)) (sh_tg hG 19 rfl) rfl ht.q0 ?_
  refine pw_aload_n dX6_make_20 rfl ?_
  refine pw_getI fX6_28 dX6_make_21 (sh_lt hG (by decide)) (sh_tg hG 19 rfl) rfl ?_
  refine pw_iload_n dX6_make_24 rfl ?_
  refine pw_iastN t.length dX6_make_25 (by omega) (by have := ht.bd; omega) ht.s0 (by omega) (ht.n) (by omega) ?_
  refine pw_aload_n dX6_make_26 rfl ?_
  refine pw_getR fX6_15 dX6_make_27 (sh_lt hG (by decide)) (sh_tg hG 19 rfl) rfl ht.q1 ?_
  refine pw_aload_n dX6_make_30 rfl ?_
  refine pw_getI fX6_28 dX6_make_31 (sh_lt hG (by decide)) (sh_tg hG 19 rfl) rfl ?_
  refine pw_iload_n dX6_make_34 rfl ?_
  refine pw_iastN t.length dX6_make_35 (by omega) (by have := ht.bd; omega) ht.s1 (by omega) (by rw [pm_u_ne (by omega)]; exact ht.n) (by omega) ?_
  refine pw_aload_n dX6_make_36 rfl ?_
  refine pw_getR fX6_18 dX6_make_37 (sh_lt hG (by decide)) (sh_tg hG 19 rfl) rfl ht.q2 ?_
  refine pw_aload_n dX6_make_40 rfl ?_
  refine pw_getI fX6_28 dX6_make_41 (sh_lt hG (by decide)) (sh_tg hG 19 rfl) rfl ?_
  refine pw_iload dX6_make_44 rfl ?_
  refine pw_iastN t.length dX6_make_46 (by omega) (by have := ht.bd; omega) ht.s2 (by omega) (by rw [pm_u_ne (by omega), pm_u_ne (by omega)]; exact ht.n) (by omega) ?_
  refine pw_iconst (v := nI 0) dX6_make_47 (by decide) ?_
  refine pw_istore (lv' := [(6, _), (0, _), (1, _), (2, _), (3, _), (4, _), (5, _)]) dX6_make_48 (by decide) rfl ?_
  have hU : tU b t.length I J (pm_u (pm_u (pm_u I b t.length (nI (A.ns.idxOf (A.at s').dec))) (b + 1) t.length (nI (A.at s').ed)) (b + 2) t.length (nI us.length)) J := ((tU.w3 (k := 0) tU.refl (by decide) (Nat.le_refl _)).w3 (k := 1) (by decide) (Nat.le_refl _)).w3 (k := 2) (by decide) (Nat.le_refl _)
  exact m_make_lp hd hv3 hl hu3 hrow k us.length 0 _ _ (Nat.zero_add _) (h.tmv hU hv3) (by rw [pm_u_ne (by omega), pm_u_ne (by omega), pm_u_eq, pm_up_eq]) (by rw [pm_u_ne (by omega), pm_u_eq, pm_up_eq]) (by rw [pm_u_eq, pm_up_eq]) (fun i v hi => absurd hi (by omega))
set_option maxRecDepth 20000 in
set_option maxHeartbeats 4000000 in
theorem m_make0 {l : Launch} {E : pmE} {d : Nat} {S : pmS} {I : pmI} {J : pmJ} {P : pmP} {Q : Option Value → pmS → pmI → pmJ → pmP → Prop} {S0 : pmS} {I0 : pmI} {J0 : pmJ} {P0 : pmP} {b0 : Nat} {A : aS} {c i bs s b m : Nat} {w : Int32} {rv : List vV} {fr : List (Nat × Nat × Nat)} {t : List tH} (h : mS S0 I0 J0 P0 b0 A S I J P c w i bs rv fr s t b m) (hd : 1 ≤ d) (hv3 : ∀ q ∈ t, q.2.length ≤ 3) {s' f : Nat} {us : List vV} (hl : t.length < m) (hu3 : us.length ≤ 3) (hrow : ∀ (i : Nat) (v : vV), us[i]? = some v → rv[f + i]? = some v) (k : ∀ I' J', mS S0 I0 J0 P0 b0 A S I' J' P c w i bs rv fr s (t ++ [(s', us)]) b m → Q (some (.int (nI t.length))) S I' J' P) : pm_Met l E yX6_make cX6_make 7 (some .int) d 0 0 [.ref 21, .int (nI (A.ns.idxOf (A.at s').dec)), .int (nI (A.at s').ed), .ref 35, .int (nI f), .int (nI us.length)] S I J P Q := by
  unfold pm_Met
  have hG := h.hG
  have hP := h.hP
  have ht := h.tc
  have htm := ht.m'
  have htl := ht.l
  have hbd := ht.bd
  refine pm_lvs (lv' := [(0, _), (1, _), (2, _), (3, _), (4, _), (5, _)]) rfl ?_
  refine pw_aload_n dX6_make_0 rfl ?_
  refine pw_getI fX6_28 dX6_make_1 (sh_lt hG (by decide)) (sh_tg hG 19 rfl) rfl ?_
  refine pw_aload_n dX6_make_4 rfl ?_
  refine pw_getR fX6_11 dX6_make_5 (sh_lt hG (by decide)) (sh_tg hG 19 rfl) rfl ht.q0 ?_
  refine pw_alen dX6_make_8 (by have := ht.bd; omega) ht.s0 (by decide) (by decide) ?_
  refine pw_icmpN_lt _ _ (tgt := 16) dX6_make_9 (by decide) (ht.n) (rfl) (by omega) (by omega) (fun h9 => ?_) (fun h9 => absurd h9 (by omega))
  exact m_make_t h (by omega) hv3 hl hu3 hrow k
set_option maxRecDepth 20000 in
set_option maxHeartbeats 4000000 in
theorem m_make1 {l : Launch} {E : pmE} {d : Nat} {S : pmS} {I : pmI} {J : pmJ} {P : pmP} {Q : Option Value → pmS → pmI → pmJ → pmP → Prop} {S0 : pmS} {I0 : pmI} {J0 : pmJ} {P0 : pmP} {b0 : Nat} {A : aS} {c i bs s b m : Nat} {w : Int32} {rv : List vV} {fr : List (Nat × Nat × Nat)} {t : List tH} (h : mS S0 I0 J0 P0 b0 A S I J P c w i bs rv fr s t b m) (hd : 4 ≤ d) (hv3 : ∀ q ∈ t, q.2.length ≤ 3) {s' f : Nat} {us : List vV} (hl : m ≤ t.length) (hu3 : us.length ≤ 3) (hrow : ∀ (i : Nat) (v : vV), us[i]? = some v → rv[f + i]? = some v) (hm2 : t.length ≤ 16000) (k : ∀ S' I' J' P', mS S0 I0 J0 P0 b0 A S' I' J' P' c w i bs rv fr s (t ++ [(s', us)]) S.1 (2 * m) → Q (some (.int (nI t.length))) S' I' J' P') : pm_Met l E yX6_make cX6_make 7 (some .int) d 5 (18 * m) [.ref 21, .int (nI (A.ns.idxOf (A.at s').dec)), .int (nI (A.at s').ed), .ref 35, .int (nI f), .int (nI us.length)] S I J P Q := by
  unfold pm_Met
  have hG := h.hG
  have hP := h.hP
  have ht := h.tc
  have htm := ht.m'
  have htl := ht.l
  have hbd := ht.bd
  refine pm_lvs (lv' := [(0, _), (1, _), (2, _), (3, _), (4, _), (5, _)]) rfl ?_
  refine pw_aload_n dX6_make_0 rfl ?_
  refine pw_getI fX6_28 dX6_make_1 (sh_lt hG (by decide)) (sh_tg hG 19 rfl) rfl ?_
  refine pw_aload_n dX6_make_4 rfl ?_
  refine pw_getR fX6_11 dX6_make_5 (sh_lt hG (by decide)) (sh_tg hG 19 rfl) rfl ht.q0 ?_
  refine pw_alen dX6_make_8 (by have := ht.bd; omega) ht.s0 (by decide) (by decide) ?_
  refine pw_icmpN_lt _ _ (tgt := 16) dX6_make_9 (by decide) (ht.n) (rfl) (by omega) (by omega) (fun h9 => absurd h9 (by omega)) (fun h9 => ?_)
  refine pw_aload_n dX6_make_12 rfl ?_
  refine pw_callV (as := []) (kc' := 5) (ks' := (18 * m)) lX6_32 dX6_make_13 rfl rfl (sh_lt hG (by decide)) (sh_tg hG 19 rfl) (Nat.le_of_ble_eq_true rfl) (by omega) (Nat.le_of_ble_eq_true rfl) (by omega) (by omega) ?_
  refine m_double h (by omega) (by omega) hv3 (fun S1 I1 J1 P1 g => ?_)
  exact pw_more (Nat.zero_le _) (Nat.zero_le _) (m_make_t g (by omega) hv3 (by omega) hu3 hrow (k _ · · _))
