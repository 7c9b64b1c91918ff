set_option maxRecDepth 20000 in
set_option maxHeartbeats 4000000 in
theorem c_T2 {l : Launch} {E : pmE} {d : Nat} {Q : Option Value → pmS → pmI → pmJ → pmP → Prop} {c0 : Nat} {mk : Int32} {S0 : pmS} {I0 : pmI} {J0 : pmJ} {P0 : pmP} {b0 : Nat} {A : aS} {Z : Nat → Nat} {kx dp : Nat} {q q2 : Nat × Int64} {u u2 : Unit} {k2 : Nat} {a b9 c9 : eX} (hA : cA S0 I0 J0 P0 A Z b0) (hO : aO A) (hd : 9 ≤ d)  : cT l E d Q c0 mk S0 I0 J0 P0 b0 A kx dp (.inner 2 q u a .leaf) := by
  intro pa ar S I J P c w i bs rv fr s t b m τ K pre post hp hx hi hw hmx k1 k0
  obtain ⟨h, hfr, ⟨har, hav, hao⟩, hT, hth, hs4, hrs, htl, hτ, hK⟩ := id hp
  refine LW_turn h.hG h.hP (by omega) (by omega) h.wk (Nat.zero_le _) (Nat.zero_le _) (dn_num h (by omega) hx (x := q.2) (at_pre rfl hi) hs4 hrs (fun hlt I1 J1 h1 => LQ_of h1.hG h1.hP ?_) (fun hge I1 h1 => LQ_of h1.1.1 h1.1.2.1 (k0 8 S I1 J P b m (τ + 1) (ev2_8 hge) (rm2_8 hge).symm h1 (by omega))))
  exact k1 (1, q.2) (s + 1) t S I1 J1 P _ b m (τ + 1) (i + 1) rfl (ev2 hlt) (rm2 hlt).symm ⟨h1, hfr, ⟨har, (hav_l hav), hao⟩, hT, hth, by omega, by simp only [List.length_append, List.length_cons, List.length_nil] at *; omega, by omega, by omega, hK⟩ vO_wh (by omega) ⟨Nat.le_refl _, by omega⟩
set_option maxRecDepth 20000 in
set_option maxHeartbeats 4000000 in
theorem c_T3 {l : Launch} {E : pmE} {d : Nat} {Q : Option Value → pmS → pmI → pmJ → pmP → Prop} {c0 : Nat} {mk : Int32} {S0 : pmS} {I0 : pmI} {J0 : pmJ} {P0 : pmP} {b0 : Nat} {A : aS} {Z : Nat → Nat} {kx dp : Nat} {q q2 : Nat × Int64} {u u2 : Unit} {k2 : Nat} {a b9 c9 : eX} (hA : cA S0 I0 J0 P0 A Z b0) (hO : aO A) (hd : 9 ≤ d)  : cT l E d Q c0 mk S0 I0 J0 P0 b0 A kx dp (.inner 3 q u a .leaf) := by
  intro pa ar S I J P c w i bs rv fr s t b m τ K pre post hp hx hi hw hmx k1 k0
  obtain ⟨h, hfr, ⟨har, hav, hao⟩, hT, hth, hs4, hrs, htl, hτ, hK⟩ := id hp
  by_cases hc : 1 ≤ q.2.toInt32.toInt ∧ q.2.toInt32.toInt ≤ (A.rs.length : Int)
  · have hr4 := hO.r
    obtain ⟨j, hj⟩ : ∃ j : Nat, q.2.toInt32.toInt = (j : Int) + 1 := ⟨q.2.toInt32.toInt.toNat - 1, by omega⟩
    have hje : q.2.toInt32 = nI (j + 1) := Int32.toInt_inj.mp (by rw [hj, nI_toInt (by omega)]; omega)
    have hjl : j < A.rs.length := by omega
    obtain ⟨v, hv⟩ : ∃ v, A.rs[j]? = some v := ⟨_, List.getElem?_eq_getElem hjl⟩
    have hgd : A.rs.getD (q.2.toInt32.toInt.toNat - 1) (0, 0) = v := by rw [show q.2.toInt32.toInt.toNat - 1 = j by omega, List.getD_eq_getElem?_getD, hv]; rfl
    have hx' := hx
    rw [show cp (hN A.ns) (.inner 3 q u a .leaf) = [(3, q.2.toInt32, 0)] from rfl, hje] at hx'
    refine LW_turn h.hG h.hP (by omega) (by omega) h.wk (Nat.zero_le _) (Nat.zero_le _) (dn_res1 h (by omega) hx' (j := j) (at_pre rfl hi) hs4 hrs hA hO hv (fun hlt I1 J1 h1 => LQ_of h1.hG h1.hP ?_) (fun hge I1 h1 => LQ_of h1.1.1 h1.1.2.1 (k0 8 S I1 J P b m (τ + 1) (ev3_8 hge) (rm3_8 hge).symm h1 (by omega))))
    exact k1 v (s + 1) t S I1 J1 P _ b m (τ + 1) (i + 1) rfl (by rw [ev3 hlt, if_pos hc, hgd]) (rm3 hlt).symm ⟨h1, hfr, ⟨har, (hav_l hav), hao⟩, hT, hth, by omega, by simp only [List.length_append, List.length_cons, List.length_nil] at *; omega, by omega, by omega, hK⟩ ((hO.2.2.2.2.2.2.2.1 v (List.mem_of_getElem? hv)).up hth) (by omega) ⟨Nat.le_refl _, by omega⟩
  · refine LW_turn h.hG h.hP (by omega) (by omega) h.wk (Nat.zero_le _) (Nat.zero_le _) (dn_res0 h (by omega) hx (c9 := q.2.toInt32) (at_pre rfl hi) hs4 hrs hA hO hc (fun hlt I1 h1 => LQ_of h1.1.1 h1.1.2.1 ?_) (fun hge I1 h1 => LQ_of h1.1.1 h1.1.2.1 (k0 8 S I1 J P b m (τ + 1) (ev3_8 hge) (rm3_8 hge).symm h1 (by omega))))
    exact k0 1 S I1 J P b m (τ + 1) (by rw [ev3 hlt, if_neg hc]) (rm3 hlt).symm h1 (by omega)
set_option maxRecDepth 20000 in
set_option maxHeartbeats 4000000 in
theorem c_T4 {l : Launch} {E : pmE} {d : Nat} {Q : Option Value → pmS → pmI → pmJ → pmP → Prop} {c0 : Nat} {mk : Int32} {S0 : pmS} {I0 : pmI} {J0 : pmJ} {P0 : pmP} {b0 : Nat} {A : aS} {Z : Nat → Nat} {kx dp : Nat} {q q2 : Nat × Int64} {u u2 : Unit} {k2 : Nat} {a b9 c9 : eX} (hA : cA S0 I0 J0 P0 A Z b0) (hO : aO A) (hd : 9 ≤ d)  : cT l E d Q c0 mk S0 I0 J0 P0 b0 A kx dp (.inner 4 q u a .leaf) := by
  intro pa ar S I J P c w i bs rv fr s t b m τ K pre post hp hx hi hw hmx k1 k0
  obtain ⟨h, hfr, ⟨har, hav, hao⟩, hT, hth, hs4, hrs, htl, hτ, hK⟩ := id hp
  have hq4 : ps_arg pa q.2 0 = some q.1 := by
    rcases hw with e | e | ⟨e, h2, h3⟩ | ⟨e, _⟩ | ⟨e, _⟩ | ⟨e, _⟩
    · exact absurd e (by decide)
    · exact absurd e (by decide)
    · exact h2
    · exact absurd e (by decide)
    · exact absurd e (by decide)
    · exact absurd e (by decide)
  obtain ⟨g1, g2, g3⟩ := ps_arg_lt hq4
  have hjl : q.1 < ar.length := by omega
  obtain ⟨v, hv⟩ : ∃ v, ar[q.1]? = some v := ⟨_, List.getElem?_eq_getElem hjl⟩
  have hgd : ar.getD q.1 (0, 0) = v := by rw [List.getD_eq_getElem?_getD, hv]; rfl
  refine LW_turn h.hG h.hP (by omega) (by omega) h.wk (Nat.zero_le _) (Nat.zero_le _) (dn_arg h (by omega) hx (j := q.1) (at_pre rfl hi) hs4 hrs (hav q.1 v hv) (fun hlt I1 J1 h1 => LQ_of h1.hG h1.hP ?_) (fun hge I1 h1 => LQ_of h1.1.1 h1.1.2.1 (k0 8 S I1 J P b m (τ + 1) (ev4_8 hge) (rm4_8 hge).symm h1 (by omega))))
  exact k1 v (s + 1) t S I1 J1 P _ b m (τ + 1) (i + 1) rfl (by rw [ev4 hlt, hgd]) (rm4 hlt).symm ⟨h1, hfr, ⟨har, (hav_l hav), hao⟩, hT, hth, by omega, by simp only [List.length_append, List.length_cons, List.length_nil] at *; omega, by omega, by omega, hK⟩ (hao v (List.mem_of_getElem? hv)) (by omega) ⟨Nat.le_refl _, by omega⟩
set_option maxRecDepth 20000 in
set_option maxHeartbeats 4000000 in
theorem c_T5 {l : Launch} {E : pmE} {d : Nat} {Q : Option Value → pmS → pmI → pmJ → pmP → Prop} {c0 : Nat} {mk : Int32} {S0 : pmS} {I0 : pmI} {J0 : pmJ} {P0 : pmP} {b0 : Nat} {A : aS} {Z : Nat → Nat} {kx dp : Nat} {q q2 : Nat × Int64} {u u2 : Unit} {k2 : Nat} {a b9 c9 : eX} (hA : cA S0 I0 J0 P0 A Z b0) (hO : aO A) (hd : 9 ≤ d)  : cT l E d Q c0 mk S0 I0 J0 P0 b0 A kx dp (.inner 5 q u a .leaf) := by
  intro pa ar S I J P c w i bs rv fr s t b m τ K pre post hp hx hi hw hmx k1 k0
  obtain ⟨h, hfr, ⟨har, hav, hao⟩, hT, hth, hs4, hrs, htl, hτ, hK⟩ := id hp
  have hq5 : q.2 ∈ A.ns := by
    rcases hw with e | e | ⟨e, h2, h3⟩ | ⟨e, h2, h3⟩ | ⟨e, _⟩ | ⟨e, _⟩
    · exact absurd e (by decide)
    · exact absurd e (by decide)
    · exact absurd e (by decide)
    · exact h3
    · exact absurd e (by decide)
    · exact absurd e (by decide)
  by_cases hc : A.fm q.2 = 1
  · refine LW_turn h.hG h.hP (by omega) (by omega) h.wk (Nat.zero_le _) (Nat.zero_le _) (dn_var1 h (by omega) hx (v := q.2) (at_pre rfl hi) hs4 hrs hA hO hq5 hc (fun hlt I1 J1 h1 => LQ_of h1.hG h1.hP ?_) (fun hge I1 h1 => LQ_of h1.1.1 h1.1.2.1 (k0 8 S I1 J P b m (τ + 1) (ev5_8 hge) (rm5_8 hge).symm h1 (by omega))))
    exact k1 (A.va q.2) (s + 1) t S I1 J1 P _ b m (τ + 1) (i + 1) rfl (by rw [ev5 hlt, if_pos hc]) (rm5 hlt).symm ⟨h1, hfr, ⟨har, (hav_l hav), hao⟩, hT, hth, by omega, by simp only [List.length_append, List.length_cons, List.length_nil] at *; omega, by omega, by omega, hK⟩ ((hO.2.2.2.2.2.2.1 q.2 hc).up hth) (by omega) ⟨Nat.le_refl _, by omega⟩
  · refine LW_turn h.hG h.hP (by omega) (by omega) h.wk (Nat.zero_le _) (Nat.zero_le _) (dn_var0 h (by omega) hx (v := q.2) (at_pre rfl hi) hs4 hrs hA hO hq5 hc (fun hlt I1 h1 => LQ_of h1.1.1 h1.1.2.1 ?_) (fun hge I1 h1 => LQ_of h1.1.1 h1.1.2.1 (k0 8 S I1 J P b m (τ + 1) (ev5_8 hge) (rm5_8 hge).symm h1 (by omega))))
    exact k0 1 S I1 J P b m (τ + 1) (by rw [ev5 hlt, if_neg hc]) (rm5 hlt).symm h1 (by omega)
set_option maxRecDepth 20000 in
set_option maxHeartbeats 4000000 in
theorem c_T7 {l : Launch} {E : pmE} {d : Nat} {Q : Option Value → pmS → pmI → pmJ → pmP → Prop} {c0 : Nat} {mk : Int32} {S0 : pmS} {I0 : pmI} {J0 : pmJ} {P0 : pmP} {b0 : Nat} {A : aS} {Z : Nat → Nat} {kx dp : Nat} {q q2 : Nat × Int64} {u u2 : Unit} {k2 : Nat} {a b9 c9 : eX} (hA : cA S0 I0 J0 P0 A Z b0) (hO : aO A) (hd : 9 ≤ d) (ha : cT l E d Q c0 mk S0 I0 J0 P0 b0 A kx dp a) : cT l E d Q c0 mk S0 I0 J0 P0 b0 A kx dp (.inner 7 q u a .leaf) := by
  intro pa ar S I J P c w i bs rv fr s t b m τ K pre post hp hx hi hw hmx k1 k0
  obtain ⟨h, hfr, ⟨har, hav, hao⟩, hT, hth, hs4, hrs, htl, hτ, hK⟩ := id hp
  have hwa : wt pa (· ∈ A.ns) a := by
    rcases hw with e | e | ⟨e, h2, h3⟩ | ⟨e, h2, h3⟩ | ⟨e, h2⟩ | ⟨e, _⟩
    · exact absurd e (by decide)
    · exact absurd e (by decide)
    · exact absurd e (by decide)
    · exact absurd e (by decide)
    · exact h2
    · exact absurd e (by decide)
  rw [cp7] at hx k1
  refine LW_turn h.hG h.hP (by omega) (by omega) h.wk (Nat.zero_le _) (Nat.zero_le _) (dn_begin h (by omega) hx (at_pre rfl hi) hs4 hrs (fun hlt I1 h1 => LQ_of h1.hG h1.hP ?_) (fun hge I1 h1 => LQ_of h1.1.1 h1.1.2.1 (k0 8 S I1 J P b m (τ + 1) (ev7_8 hge) (rm7_8 hge).symm h1 (by omega))))
  refine ha pa ar S I1 J P c (nI i) (i + 1) bs rv fr (s + 1) t b m (τ + 1) (K - 2) (pre ++ [(1, 0, 0)]) ((10, 0, 0) :: post) ⟨h1, hfr, ⟨har, hav, hao⟩, hT, hth, by omega, by omega, by omega, by omega, by omega⟩ (hx.cg (by simp only [List.append_assoc, List.cons_append, List.nil_append])) (by rw [List.length_append, hi]; rfl) hwa (by rw [rm7 hlt] at hmx; exact hmx) (fun v2 s2 t2 S2 I2 J2 P2 w2 b2 m2 τ2 i2 hi2 hev2 hm2 hp2 hvo2 hss2 htt2 => ?_) (fun e9 S9 I9 J9 P9 b8 m9 τ9 hev9 hm9 h9 hτ9 => k0 e9 S9 I9 J9 P9 b8 m9 τ9 (by rw [ev7 hlt]; exact ebd_er hev9) (by rw [rm7 hlt]; exact hm9) h9 hτ9)
  obtain ⟨h2, hfr2, ⟨har2, hav2, hao2⟩, hT2, hth2, hs42, hrs2, htl2, hτ2, hK2⟩ := id hp2
  refine LW_turn h2.hG h2.hP (by omega) (by omega) h2.wk (Nat.zero_le _) (Nat.zero_le _) (dn_neg h2 (by omega) hx (at_pre (pre := pre ++ (1, 0, 0) :: cp (hN A.ns) a) (q := post) (by simp only [List.append_assoc, List.cons_append, List.nil_append]) (by simp only [List.length_append, List.length_cons, List.length_nil] at *; omega)) hvo2.1 (fun hw1 I3 J3 h3 => LQ_of h3.hG h3.hP ?_) (fun hw1 I3 h3 => LQ_of h3.1.1 h3.1.2.1 ?_))
  · skip
    exact k1 (1, -v2.2) s2 t2 S2 I3 J3 P2 _ b2 m2 (τ2 + 1) (i2 + 1) (by simp only [List.length_append, List.length_cons, List.length_nil] at *; omega) (by rw [ev7 hlt, ebd_ok hev2, if_pos hw1]) (by rw [rm7 hlt]; exact hm2) ⟨h3, hfr, ⟨har, hav_l hav, hao2⟩, hT2, hth2, hs42, by simp only [List.length_append, List.length_cons, List.length_nil] at *; omega, htl2, by omega, hK⟩ vO_wh (by omega) ⟨htt2.1, by omega⟩
  · exact k0 (ckW v2) S2 I3 J2 P2 b2 m2 (τ2 + 1) (by rw [ev7 hlt, ebd_ok hev2, if_neg hw1]) (by rw [rm7 hlt]; exact hm2) h3 (by omega)
set_option maxRecDepth 20000 in
set_option maxHeartbeats 4000000 in
theorem c_T8 {l : Launch} {E : pmE} {d : Nat} {Q : Option Value → pmS → pmI → pmJ → pmP → Prop} {c0 : Nat} {mk : Int32} {S0 : pmS} {I0 : pmI} {J0 : pmJ} {P0 : pmP} {b0 : Nat} {A : aS} {Z : Nat → Nat} {kx dp : Nat} {q q2 : Nat × Int64} {u u2 : Unit} {k2 : Nat} {a b9 c9 : eX} (hA : cA S0 I0 J0 P0 A Z b0) (hO : aO A) (hd : 9 ≤ d) (ha : cT l E d Q c0 mk S0 I0 J0 P0 b0 A kx dp a) : cT l E d Q c0 mk S0 I0 J0 P0 b0 A kx dp (.inner 8 q u a .leaf) := by
  intro pa ar S I J P c w i bs rv fr s t b m τ K pre post hp hx hi hw hmx k1 k0
  obtain ⟨h, hfr, ⟨har, hav, hao⟩, hT, hth, hs4, hrs, htl, hτ, hK⟩ := id hp
  have hwa : q.2 ∈ A.ns ∧ wt pa (· ∈ A.ns) a := by
    rcases hw with e | e | ⟨e, h2, h3⟩ | ⟨e, h2, h3⟩ | ⟨e, h2⟩ | ⟨e, h2, h3⟩
    · exact absurd e (by decide)
    · exact absurd e (by decide)
    · exact absurd e (by decide)
    · exact absurd e (by decide)
    · exact absurd e (by decide)
    · exact ⟨h2, h3⟩
  obtain ⟨hq8, hwa⟩ := hwa
  rw [cp8] at hx k1
  refine LW_turn h.hG h.hP (by omega) (by omega) h.wk (Nat.zero_le _) (Nat.zero_le _) (dn_begin h (by omega) hx (at_pre rfl hi) hs4 hrs (fun hlt I1 h1 => LQ_of h1.hG h1.hP ?_) (fun hge I1 h1 => LQ_of h1.1.1 h1.1.2.1 (k0 8 S I1 J P b m (τ + 1) (ev8_8 hge) (rm8_8 hge).symm h1 (by omega))))
  refine ha pa ar S I1 J P c (nI i) (i + 1) bs rv fr (s + 1) t b m (τ + 1) (K - 2) (pre ++ [(1, 0, 0)]) ((9, 0, hN A.ns q.2) :: post) ⟨h1, hfr, ⟨har, hav, hao⟩, hT, hth, by omega, by omega, by omega, by omega, by omega⟩ (hx.cg (by simp only [List.append_assoc, List.cons_append, List.nil_append])) (by rw [List.length_append, hi]; rfl) hwa (by rw [rm8 hlt] at hmx; exact hmx) (fun v2 s2 t2 S2 I2 J2 P2 w2 b2 m2 τ2 i2 hi2 hev2 hm2 hp2 hvo2 hss2 htt2 => ?_) (fun e9 S9 I9 J9 P9 b8 m9 τ9 hev9 hm9 h9 hτ9 => k0 e9 S9 I9 J9 P9 b8 m9 τ9 (by rw [ev8 hlt]; exact ebd_er hev9) (by rw [rm8 hlt]; exact hm9) h9 hτ9)
  obtain ⟨h2, hfr2, ⟨har2, hav2, hao2⟩, hT2, hth2, hs42, hrs2, htl2, hτ2, hK2⟩ := id hp2
  refine LW_turn h2.hG h2.hP (by omega) (by omega) h2.wk (Nat.zero_le _) (Nat.zero_le _) (dn_field h2 (by omega) hx (at_pre (pre := pre ++ (1, 0, 0) :: cp (hN A.ns) a) (q := post) (by simp only [List.append_assoc, List.cons_append, List.nil_append]) (by simp only [List.length_append, List.length_cons, List.length_nil] at *; omega)) hA hO hT2 hvo2 (by omega) hq8 (fun hw1 I3 J3 h3 => LQ_of h3.hG h3.hP ?_) (fun hw1 I3 h3 => LQ_of h3.1.1 h3.1.2.1 ?_))
  · skip
    obtain ⟨j9, i9, z1, z2, z3, z4, z5, z6, z7⟩ := ckF_ok hT2 hvo2 (by omega) hw1
    have hvF : vO t2.length (fdV A t2 v2 q.2) := (hT2 j9 _ _ z4).2.2.2 _ (List.mem_of_getElem? z7)
    exact k1 (fdV A t2 v2 q.2) s2 t2 S2 I3 J3 P2 _ b2 m2 (τ2 + 1) (i2 + 1) (by simp only [List.length_append, List.length_cons, List.length_nil] at *; omega) (by rw [ev8 hlt, ebd_ok hev2, if_pos hw1]) (by rw [rm8 hlt]; exact hm2) ⟨h3, hfr, ⟨har, hav_l hav, hao2⟩, hT2, hth2, hs42, by simp only [List.length_append, List.length_cons, List.length_nil] at *; omega, htl2, by omega, hK⟩ hvF (by omega) ⟨htt2.1, by omega⟩
  · exact k0 (ckF A t2 v2 q.2) S2 I3 J2 P2 b2 m2 (τ2 + 1) (by rw [ev8 hlt, ebd_ok hev2, if_neg hw1]) (by rw [rm8 hlt]; exact hm2) h3 (by omega)
set_option maxRecDepth 20000 in
set_option maxHeartbeats 4000000 in
theorem c_T9 {l : Launch} {E : pmE} {d : Nat} {Q : Option Value → pmS → pmI → pmJ → pmP → Prop} {c0 : Nat} {mk : Int32} {S0 : pmS} {I0 : pmI} {J0 : pmJ} {P0 : pmP} {b0 : Nat} {A : aS} {Z : Nat → Nat} {kx dp : Nat} {q q2 : Nat × Int64} {u u2 : Unit} {k2 : Nat} {a b9 c9 : eX} (hA : cA S0 I0 J0 P0 A Z b0) (hO : aO A) (hd : 9 ≤ d) (ha : cT l E d Q c0 mk S0 I0 J0 P0 b0 A kx dp a) (hb : cT l E d Q c0 mk S0 I0 J0 P0 b0 A kx dp b9) : cT l E d Q c0 mk S0 I0 J0 P0 b0 A kx dp (.inner 9 q u a (.inner k2 q2 u2 b9 c9)) := by
  intro pa ar S I J P c w i bs rv fr s t b m τ K pre post hp hx hi hw hmx k1 k0
  obtain ⟨h, hfr, ⟨har, hav, hao⟩, hT, hth, hs4, hrs, htl, hτ, hK⟩ := id hp
  obtain ⟨hlv, hwa, hwb, hwc⟩ : lvl q.1 ≤ 2 ∧ wt pa (· ∈ A.ns) a ∧ wt pa (· ∈ A.ns) b9 ∧ c9 = .leaf := by
    rcases hw with ⟨e, _⟩ | ⟨e, h2⟩ | ⟨e, _⟩
    · exact absurd e (by decide)
    · exact h2
    · exact absurd e (by decide)
  rw [cp9] at hx k1
  refine LW_turn h.hG h.hP (by omega) (by omega) h.wk (Nat.zero_le _) (Nat.zero_le _) (dn_begin h (by omega) hx (at_pre rfl hi) hs4 hrs (fun hlt I1 h1 => LQ_of h1.hG h1.hP ?_) (fun hge I1 h1 => LQ_of h1.1.1 h1.1.2.1 (k0 8 S I1 J P b m (τ + 1) (ev9_8 hge) (rm9_8 hge).symm h1 (by omega))))
  refine ha pa ar S I1 J P c (nI i) (i + 1) bs rv fr (s + 1) t b m (τ + 1) (K - 2) (pre ++ [(1, 0, 0)]) (cp (hN A.ns) b9 ++ (q.1, 0, 0) :: post) ⟨h1, hfr, ⟨har, hav, hao⟩, hT, hth, by omega, by omega, by omega, by omega, by omega⟩ (hx.cg (by simp only [List.append_assoc, List.cons_append, List.nil_append])) (by rw [List.length_append, hi]; rfl) hwa (Nat.le_trans (by rw [rm9 hlt]; exact ebm_ge (Nat.le_refl _) (fun v1 s1 t1 => rmX_ge b9 s1 t1 _)) hmx) (fun v2 s2 t2 S2 I2 J2 P2 w2 b2 m2 τ2 i2 hi2 hev2 hm2 hp2 hvo2 hss2 htt2 => ?_) (fun e9 S9 I9 J9 P9 b8 m9 τ9 hev9 hm9 h9 hτ9 => k0 e9 S9 I9 J9 P9 b8 m9 τ9 (by rw [ev9 hlt]; exact ebd_er hev9) (by rw [rm9 hlt, ebm_er hev9]; exact hm9) h9 hτ9)
  obtain ⟨h2, hfr2, ⟨har2, hav2, hao2⟩, hT2, hth2, hs42, hrs2, htl2, hτ2, hK2⟩ := id hp2
  refine hb pa ar S2 I2 J2 P2 c w2 i2 bs (rv ++ [v2]) fr s2 t2 b2 m2 τ2 (K - 2) (pre ++ (1, 0, 0) :: cp (hN A.ns) a) ((q.1, 0, 0) :: post) hp2 (hx.cg (by simp only [List.append_assoc, List.cons_append, List.nil_append])) (by simp only [List.length_append, List.length_cons, List.length_nil] at *; omega) hwb (by rw [rm9 hlt, ebm_ok hev2, ← hm2] at hmx; exact hmx) (fun v3 s3 t3 S3 I3 J3 P3 w3 b3 m3 τ3 i3 hi3 hev3 hm3 hp3 hvo3 hss3 htt3 => ?_) (fun e9 S9 I9 J9 P9 b8 m9 τ9 hev9 hm9 h9 hτ9 => k0 e9 S9 I9 J9 P9 b8 m9 τ9 (by rw [ev9 hlt, ebd_ok hev2]; exact ebd_er hev9) (by rw [rm9 hlt, ebm_ok hev2, ← hm2]; exact hm9) h9 hτ9)
  obtain ⟨h3, hfr3, ⟨har3, hav3, hao3⟩, hT3, hth3, hs43, hrs3, htl3, hτ3, hK3⟩ := id hp3
  have h3' : mS S0 I0 J0 P0 b0 A S3 I3 J3 P3 c w3 i3 bs (rv ++ [v2, v3]) fr s3 t3 b3 m3 := by rw [List.append_assoc] at h3; exact h3
  refine LW_turn h3.hG h3.hP (by omega) (by omega) h3.wk (Nat.zero_le _) (Nat.zero_le _) (dn_op h3' (by omega) hx (at_pre (pre := pre ++ (1, 0, 0) :: (cp (hN A.ns) a ++ cp (hN A.ns) b9)) (q := post) (by simp only [List.append_assoc, List.cons_append, List.nil_append]) (by simp only [List.length_append, List.length_cons, List.length_nil] at *; omega)) hlv hvo2.1 hvo3.1 (fun hw1 I4 J4 h4 => LQ_of h4.hG h4.hP ?_) (fun hw1 I4 h4 => LQ_of h4.1.1 h4.1.2.1 ?_))
  · exact k1 (1, opV q.1 v2.2 v3.2) s3 t3 S3 I4 J4 P3 _ b3 m3 (τ3 + 1) (i3 + 1) (by simp only [List.length_append, List.length_cons, List.length_nil] at *; omega) (by rw [ev9 hlt, ebd_ok hev2, ebd_ok hev3, if_pos hw1]) (by rw [rm9 hlt, ebm_ok hev2, ← hm2]; exact hm3) ⟨h4, hfr, ⟨har, hav_l hav, hao3⟩, hT3, hth3, hs43, by simp only [List.length_append, List.length_cons, List.length_nil] at *; omega, htl3, by omega, hK⟩ vO_wh (by omega) ⟨by omega, by omega⟩
  · exact k0 (ckO q.1 v2 v3) S3 I4 J3 P3 b3 m3 (τ3 + 1) (by rw [ev9 hlt, ebd_ok hev2, ebd_ok hev3, if_neg hw1]) (by rw [rm9 hlt, ebm_ok hev2, ← hm2]; exact hm3) h4 (by omega)
set_option maxRecDepth 20000 in
set_option maxHeartbeats 4000000 in
theorem c_T10 {l : Launch} {E : pmE} {d : Nat} {Q : Option Value → pmS → pmI → pmJ → pmP → Prop} {c0 : Nat} {mk : Int32} {S0 : pmS} {I0 : pmI} {J0 : pmJ} {P0 : pmP} {b0 : Nat} {A : aS} {Z : Nat → Nat} {kx dp : Nat} {q q2 : Nat × Int64} {u u2 : Unit} {k2 : Nat} {a b9 c9 : eX} (hA : cA S0 I0 J0 P0 A Z b0) (hO : aO A) (hd : 9 ≤ d) (ha : cT l E d Q c0 mk S0 I0 J0 P0 b0 A kx dp a) (hb : cT l E d Q c0 mk S0 I0 J0 P0 b0 A kx dp b9) (hc : cT l E d Q c0 mk S0 I0 J0 P0 b0 A kx dp c9) : cT l E d Q c0 mk S0 I0 J0 P0 b0 A kx dp (.inner 10 q u a (.inner k2 q2 u2 b9 c9)) := by
  intro pa ar S I J P c w i bs rv fr s t b m τ K pre post hp hx hi hw hmx k1 k0
  obtain ⟨h, hfr, ⟨har, hav, hao⟩, hT, hth, hs4, hrs, htl, hτ, hK⟩ := id hp
  obtain ⟨hwa, hwb, hwc⟩ : wt pa (· ∈ A.ns) a ∧ wt pa (· ∈ A.ns) b9 ∧ wt pa (· ∈ A.ns) c9 := by
    rcases hw with ⟨e, _⟩ | ⟨e, _⟩ | ⟨e, h2⟩
    · exact absurd e (by decide)
    · exact absurd e (by decide)
    · exact h2
  rw [cp10] at hx k1
  refine LW_turn h.hG h.hP (by omega) (by omega) h.wk (Nat.zero_le _) (Nat.zero_le _) (dn_begin h (by omega) hx (at_pre rfl hi) hs4 hrs (fun hlt I1 h1 => LQ_of h1.hG h1.hP ?_) (fun hge I1 h1 => LQ_of h1.1.1 h1.1.2.1 (k0 8 S I1 J P b m (τ + 1) (ev10_8 hge) (rm10_8 hge).symm h1 (by omega))))
  refine ha pa ar S I1 J P c (nI i) (i + 1) bs rv fr (s + 1) t b m (τ + 1) (K - 2) (pre ++ [(1, 0, 0)]) ((11, nI ((cp (hN A.ns) b9).length + 1), 0) :: (cp (hN A.ns) b9 ++ (12, nI (cp (hN A.ns) c9).length, 0) :: (cp (hN A.ns) c9 ++ post))) ⟨h1, hfr, ⟨har, hav, hao⟩, hT, hth, by omega, by omega, by omega, by omega, by omega⟩ (hx.cg (by simp only [List.append_assoc, List.cons_append, List.nil_append])) (by rw [List.length_append, hi]; rfl) hwa (Nat.le_trans (by rw [rm10 hlt]; exact ebm_ge (Nat.le_refl _) (fun v1 s1 t1 => by split; split; exact rmX_ge c9 s1 t1 _; exact rmX_ge b9 s1 t1 _; exact Nat.le_refl _)) hmx) (fun v2 s2 t2 S2 I2 J2 P2 w2 b2 m2 τ2 i2 hi2 hev2 hm2 hp2 hvo2 hss2 htt2 => ?_) (fun e9 S9 I9 J9 P9 b8 m9 τ9 hev9 hm9 h9 hτ9 => k0 e9 S9 I9 J9 P9 b8 m9 τ9 (by rw [ev10 hlt]; exact ebd_er hev9) (by rw [rm10 hlt, ebm_er hev9]; exact hm9) h9 hτ9)
  obtain ⟨h2, hfr2, ⟨har2, hav2, hao2⟩, hT2, hth2, hs42, hrs2, htl2, hτ2, hK2⟩ := id hp2
  refine LW_turn h2.hG h2.hP (by omega) (by omega) h2.wk (Nat.zero_le _) (Nat.zero_le _) (dn_branch h2 (by omega) hx (n := (cp (hN A.ns) b9).length + 1) (at_pre (pre := pre ++ (1, 0, 0) :: cp (hN A.ns) a) (q := cp (hN A.ns) b9 ++ (12, nI (cp (hN A.ns) c9).length, 0) :: (cp (hN A.ns) c9 ++ post)) (by simp only [List.append_assoc, List.cons_append, List.nil_append]) (by simp only [List.length_append, List.length_cons, List.length_nil] at *; omega)) hvo2.1 (fun hw1 hz I3 h3 => LQ_of h3.hG h3.hP ?_) (fun hw1 hz I3 h3 => LQ_of h3.hG h3.hP ?_) (fun hw1 I3 h3 => LQ_of h3.1.1 h3.1.2.1 (k0 (ckW v2) S2 I3 J2 P2 b2 m2 (τ2 + 1) (by rw [ev10 hlt, ebd_ok hev2, if_neg hw1]) (by rw [rm10 hlt, ebm_ok hev2, if_neg hw1]; exact hm2) h3 (by omega))))
  · refine hc pa ar S2 I3 J2 P2 c _ (i2 + 1 + ((cp (hN A.ns) b9).length + 1)) bs rv fr s2 t2 b2 m2 (τ2 + 1) (K - 1) (pre ++ (1, 0, 0) :: (cp (hN A.ns) a ++ (11, nI ((cp (hN A.ns) b9).length + 1), 0) :: (cp (hN A.ns) b9 ++ [(12, nI (cp (hN A.ns) c9).length, 0)]))) post ⟨h3, hfr, ⟨har, hav, hao2⟩, hT2, hth2, hs42, by simp only [List.length_append, List.length_cons, List.length_nil] at *; omega, htl2, by omega, by omega⟩ (hx.cg (by simp only [List.append_assoc, List.cons_append, List.nil_append])) (by simp only [List.length_append, List.length_cons, List.length_nil] at *; omega) hwc (by rw [rm10 hlt, ebm_ok hev2, if_pos hw1, if_pos hz, ← hm2] at hmx; exact hmx) (fun v4 s4 t4 S4 I4 J4 P4 w4 b4 m4 τ4 i4 hi4 hev4 hm4 hp4 hvo4 hss4 htt4 => ?_) (fun e9 S9 I9 J9 P9 b8 m9 τ9 hev9 hm9 h9 hτ9 => k0 e9 S9 I9 J9 P9 b8 m9 τ9 (by rw [ev10 hlt, ebd_ok hev2, if_pos hw1, if_pos hz]; exact hev9) (by rw [rm10 hlt, ebm_ok hev2, if_pos hw1, if_pos hz, ← hm2]; exact hm9) h9 hτ9)
    obtain ⟨h4, hfr4, ⟨har4, hav4, hao4⟩, hT4, hth4, hs44, hrs4, htl4, hτ4, hK4⟩ := id hp4
    exact k1 v4 s4 t4 S4 I4 J4 P4 w4 b4 m4 τ4 i4 (by simp only [List.length_append, List.length_cons, List.length_nil] at *; omega) (by rw [ev10 hlt, ebd_ok hev2, if_pos hw1, if_pos hz]; exact hev4) (by rw [rm10 hlt, ebm_ok hev2, if_pos hw1, if_pos hz, ← hm2]; exact hm4) ⟨h4, hfr, ⟨har, hav4, hao4⟩, hT4, hth4, hs44, hrs4, htl4, by omega, hK⟩ hvo4 (by omega) ⟨by omega, by omega⟩
  · refine hb pa ar S2 I3 J2 P2 c _ (i2 + 1) bs rv fr s2 t2 b2 m2 (τ2 + 1) (K - 1) (pre ++ (1, 0, 0) :: (cp (hN A.ns) a ++ [(11, nI ((cp (hN A.ns) b9).length + 1), 0)])) ((12, nI (cp (hN A.ns) c9).length, 0) :: (cp (hN A.ns) c9 ++ post)) ⟨h3, hfr, ⟨har, hav, hao2⟩, hT2, hth2, hs42, by simp only [List.length_append, List.length_cons, List.length_nil] at *; omega, htl2, by omega, by omega⟩ (hx.cg (by simp only [List.append_assoc, List.cons_append, List.nil_append])) (by simp only [List.length_append, List.length_cons, List.length_nil] at *; omega) hwb (by rw [rm10 hlt, ebm_ok hev2, if_pos hw1, if_neg hz, ← hm2] at hmx; exact hmx) (fun v4 s4 t4 S4 I4 J4 P4 w4 b4 m4 τ4 i4 hi4 hev4 hm4 hp4 hvo4 hss4 htt4 => ?_) (fun e9 S9 I9 J9 P9 b8 m9 τ9 hev9 hm9 h9 hτ9 => k0 e9 S9 I9 J9 P9 b8 m9 τ9 (by rw [ev10 hlt, ebd_ok hev2, if_pos hw1, if_neg hz]; exact hev9) (by rw [rm10 hlt, ebm_ok hev2, if_pos hw1, if_neg hz, ← hm2]; exact hm9) h9 hτ9)
    obtain ⟨h4, hfr4, ⟨har4, hav4, hao4⟩, hT4, hth4, hs44, hrs4, htl4, hτ4, hK4⟩ := id hp4
    refine LW_turn h4.hG h4.hP (by omega) (by omega) h4.wk (Nat.zero_le _) (Nat.zero_le _) (dn_jump h4 (by omega) hx (n := (cp (hN A.ns) c9).length) (at_pre (pre := pre ++ (1, 0, 0) :: (cp (hN A.ns) a ++ (11, nI ((cp (hN A.ns) b9).length + 1), 0) :: cp (hN A.ns) b9)) (q := cp (hN A.ns) c9 ++ post) (by simp only [List.append_assoc, List.cons_append, List.nil_append]) (by simp only [List.length_append, List.length_cons, List.length_nil] at *; omega)) (fun I5 h5 => LQ_of h5.hG h5.hP ?_))
    exact k1 v4 s4 t4 S4 I5 J4 P4 _ b4 m4 (τ4 + 1) (i4 + 1 + (cp (hN A.ns) c9).length) (by simp only [List.length_append, List.length_cons, List.length_nil] at *; omega) (by rw [ev10 hlt, ebd_ok hev2, if_pos hw1, if_neg hz]; exact hev4) (by rw [rm10 hlt, ebm_ok hev2, if_pos hw1, if_neg hz, ← hm2]; exact hm4) ⟨h5, hfr, ⟨har, hav4, hao4⟩, hT4, hth4, hs44, hrs4, htl4, by omega, hK⟩ hvo4 (by omega) ⟨by omega, by omega⟩
