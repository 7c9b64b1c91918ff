set_option maxRecDepth 20000 in
set_option maxHeartbeats 4000000 in
theorem e_T2 {l : Launch} {E : pmE} {d : Nat} {Q : Option Value → pmS → pmI → pmJ → pmP → Prop} {S : pmS} {P : pmP} {I0 : pmI} {J0 : pmJ} {A : aS} {dp : Nat} {q q2 : Nat × Int64} {u u2 : Unit} {k2 : Nat} {a b9 c9 : eX} (hG : sh_St S) (hP : gr_St P) (hA : rA I0 J0 A) (hO : aO A) (hd : 8 ≤ d)  : rE l E d Q S P I0 J0 A dp (.inner 2 q u a .leaf) := by
  intro pa ar cx I J fr hv s t N lo hi h hdp hc hao hT hth hfs hhs htl hny hhi hw k1 k0
  have hs4 := h.lm.2.2.2
  obtain ⟨hb, hk, hx⟩ := ny2 hny
  exact LR_b hG hP (by omega) h (b_num hG hP h (by omega) (by omega) (by omega) hk hx (by omega) (fun hlt I1 J1 h1 => RQ_of (Or.inl rfl) (k1 (1, q.2) (s + 1) t _ _ (ev2 hlt) h1 hT vO_wh ⟨by omega, by omega⟩ ⟨Nat.le_refl _, by omega⟩)) (fun hge I1 h1 => RQ_of (Or.inl rfl) (k0 8 I1 J (ev2_8 hge) h1)))
set_option maxRecDepth 20000 in
set_option maxHeartbeats 4000000 in
theorem e_T3 {l : Launch} {E : pmE} {d : Nat} {Q : Option Value → pmS → pmI → pmJ → pmP → Prop} {S : pmS} {P : pmP} {I0 : pmI} {J0 : pmJ} {A : aS} {dp : Nat} {q q2 : Nat × Int64} {u u2 : Unit} {k2 : Nat} {a b9 c9 : eX} (hG : sh_St S) (hP : gr_St P) (hA : rA I0 J0 A) (hO : aO A) (hd : 8 ≤ d)  : rE l E d Q S P I0 J0 A dp (.inner 3 q u a .leaf) := by
  intro pa ar cx I J fr hv s t N lo hi h hdp hc hao hT hth hfs hhs htl hny hhi hw k1 k0
  have hs4 := h.lm.2.2.2
  obtain ⟨hb, hk, hx⟩ := ny3 hny
  by_cases hcc : 1 ≤ q.2.toInt32.toInt ∧ q.2.toInt32.toInt ≤ (A.rs.length : Int)
  · have hr4 := hO.r
    obtain ⟨j, hj⟩ : ∃ j : Nat, q.2.toInt32.toInt = (j : Int) + 1 := ⟨q.2.toInt32.toInt.toNat - 1, by omega⟩
    have hje : q.2.toInt32 = nI (j + 1) := Int32.toInt_inj.mp (by rw [hj, nI_toInt (by omega)]; omega)
    have hjl : j < A.rs.length := by omega
    obtain ⟨v, hv9⟩ : ∃ v, A.rs[j]? = some v := ⟨_, List.getElem?_eq_getElem hjl⟩
    have hgd : A.rs.getD (q.2.toInt32.toInt.toNat - 1) (0, 0) = v := by rw [show q.2.toInt32.toInt.toNat - 1 = j by omega, List.getD_eq_getElem?_getD, hv9]; rfl
    exact LR_b hG hP (by omega) h (b_res1 hG hP h (by omega) (by omega) (by omega) hk rfl (by omega) hA hO (hx.trans hje) hv9 (fun hlt I1 J1 h1 => RQ_of (Or.inl rfl) (k1 v (s + 1) t _ _ (by rw [ev3 hlt, if_pos hcc, hgd]) h1 hT ((hO.2.2.2.2.2.2.2.1 v (List.mem_of_getElem? hv9)).up hth) ⟨by omega, by omega⟩ ⟨Nat.le_refl _, by omega⟩)) (fun hge I1 h1 => RQ_of (Or.inl rfl) (k0 8 I1 J (ev3_8 hge) h1)))
  · exact LR_b hG hP (by omega) h (b_res0 hG hP h (by omega) (by omega) (by omega) hk rfl hA hO (by rw [hx]; exact hcc) (fun hlt I1 h1 => RQ_of (Or.inl rfl) (k0 1 I1 J (by rw [ev3 hlt, if_neg hcc]) h1)) (fun hge I1 h1 => RQ_of (Or.inl rfl) (k0 8 I1 J (ev3_8 hge) h1)))
set_option maxRecDepth 20000 in
set_option maxHeartbeats 4000000 in
theorem e_T4 {l : Launch} {E : pmE} {d : Nat} {Q : Option Value → pmS → pmI → pmJ → pmP → Prop} {S : pmS} {P : pmP} {I0 : pmI} {J0 : pmJ} {A : aS} {dp : Nat} {q q2 : Nat × Int64} {u u2 : Unit} {k2 : Nat} {a b9 c9 : eX} (hG : sh_St S) (hP : gr_St P) (hA : rA I0 J0 A) (hO : aO A) (hd : 8 ≤ d)  : rE l E d Q S P I0 J0 A dp (.inner 4 q u a .leaf) := by
  intro pa ar cx I J fr hv s t N lo hi h hdp hc hao hT hth hfs hhs htl hny hhi hw k1 k0
  have hs4 := h.lm.2.2.2
  obtain ⟨hb, hk, hx⟩ := ny4 hny
  have hq4 : ps_arg pa q.2 0 = some q.1 ∧ q.2 ∈ A.ns := by
    rcases hw with e | e | ⟨e, h2, h3⟩ | ⟨e, _⟩ | ⟨e, _⟩ | ⟨e, _⟩
    · exact absurd e (by decide)
    · exact absurd e (by decide)
    · exact ⟨h2, h3⟩
    · exact absurd e (by decide)
    · exact absurd e (by decide)
    · exact absurd e (by decide)
  obtain ⟨hq4, hqn⟩ := hq4
  exact LR_b hG hP (by omega) h (b_nam hG hP h (by omega) (by omega) (by omega) hk hA hO hc hqn hx (by omega) (fun hlt j u hj hu I1 J1 h1 => by
    have e9 : j = q.1 := by rw [hq4] at hj; exact (Option.some.inj hj).symm
    subst e9
    have hgd : ar.getD q.1 (0, 0) = u := by rw [List.getD_eq_getElem?_getD, hu]; rfl
    exact RQ_of (Or.inl rfl) (k1 u (s + 1) t _ _ (by rw [ev4 hlt, hgd]) h1 hT (hao u (List.mem_of_getElem? hu)) ⟨by omega, by omega⟩ ⟨Nat.le_refl _, by omega⟩)) (fun hlt hj hf I1 J1 h1 => by rw [hq4] at hj; cases hj) (fun hlt hj hf I1 h1 => by rw [hq4] at hj; cases hj) (fun hge I1 h1 => RQ_of (Or.inl rfl) (k0 8 I1 J (ev4_8 hge) h1)))
set_option maxRecDepth 20000 in
set_option maxHeartbeats 4000000 in
theorem e_T5 {l : Launch} {E : pmE} {d : Nat} {Q : Option Value → pmS → pmI → pmJ → pmP → Prop} {S : pmS} {P : pmP} {I0 : pmI} {J0 : pmJ} {A : aS} {dp : Nat} {q q2 : Nat × Int64} {u u2 : Unit} {k2 : Nat} {a b9 c9 : eX} (hG : sh_St S) (hP : gr_St P) (hA : rA I0 J0 A) (hO : aO A) (hd : 8 ≤ d)  : rE l E d Q S P I0 J0 A dp (.inner 5 q u a .leaf) := by
  intro pa ar cx I J fr hv s t N lo hi h hdp hc hao hT hth hfs hhs htl hny hhi hw k1 k0
  have hs4 := h.lm.2.2.2
  obtain ⟨hb, hk, hx⟩ := ny5 hny
  have hq5 : ps_arg pa q.2 0 = none ∧ q.2 ∈ A.ns := by
    rcases hw with e | e | ⟨e, h2, h3⟩ | ⟨e, h2, h3⟩ | ⟨e, _⟩ | ⟨e, _⟩
    · exact absurd e (by decide)
    · exact absurd e (by decide)
    · exact absurd e (by decide)
    · exact ⟨h2, h3⟩
    · exact absurd e (by decide)
    · exact absurd e (by decide)
  obtain ⟨hq5, hqn⟩ := hq5
  exact LR_b hG hP (by omega) h (b_nam hG hP h (by omega) (by omega) (by omega) hk hA hO hc hqn hx (by omega) (fun hlt j u hj hu I1 J1 h1 => by rw [hq5] at hj; cases hj) (fun hlt hj hf I1 J1 h1 => RQ_of (Or.inl rfl) (k1 (A.va q.2) (s + 1) t _ _ (by rw [ev5 hlt, if_pos hf]) h1 hT ((hO.2.2.2.2.2.2.1 q.2 hf).up hth) ⟨by omega, by omega⟩ ⟨Nat.le_refl _, by omega⟩)) (fun hlt hj hf I1 h1 => RQ_of (Or.inl rfl) (k0 1 I1 J (by rw [ev5 hlt, if_neg hf]) h1)) (fun hge I1 h1 => RQ_of (Or.inl rfl) (k0 8 I1 J (ev5_8 hge) h1)))
set_option maxRecDepth 20000 in
set_option maxHeartbeats 4000000 in
theorem e_T7 {l : Launch} {E : pmE} {d : Nat} {Q : Option Value → pmS → pmI → pmJ → pmP → Prop} {S : pmS} {P : pmP} {I0 : pmI} {J0 : pmJ} {A : aS} {dp : Nat} {q q2 : Nat × Int64} {u u2 : Unit} {k2 : Nat} {a b9 c9 : eX} (hG : sh_St S) (hP : gr_St P) (hA : rA I0 J0 A) (hO : aO A) (hd : 8 ≤ d) (ha : rE l E d Q S P I0 J0 A dp a) : rE l E d Q S P I0 J0 A dp (.inner 7 q u a .leaf) := by
  intro pa ar cx I J fr hv s t N lo hi h hdp hc hao hT hth hfs hhs htl hny hhi hw k1 k0
  have hs4 := h.lm.2.2.2
  obtain ⟨hb, hk, c1, hc1, hn1⟩ := ny7 hny
  have hwa : wt pa (· ∈ A.ns) a := by
    rcases hw with e | e | ⟨e, h2, h3⟩ | ⟨e, h2, h3⟩ | ⟨e, h2⟩ | ⟨e, _⟩
    · exact absurd e (by decide)
    · exact absurd e (by decide)
    · exact absurd e (by decide)
    · exact absurd e (by decide)
    · exact h2
    · exact absurd e (by decide)
  refine LR_b hG hP (by omega) h (b_go4 hG hP h (by omega) (by omega) (by omega) hk hc1 (by omega) (fun hlt I1 h1 => RQ_of (Or.inl rfl) ?_) (fun hge I1 h1 => RQ_of (Or.inl rfl) (k0 8 I1 J (ev7_8 hge) h1)))
  refine ha pa ar cx I1 J (fr ++ [(N, 1)]) hv (s + 1) t c1 lo hi h1 hdp hc hao hT hth (by (try simp only [List.length_append, List.length_cons, List.length_nil] at *) <;> omega) (by (try simp only [List.length_append, List.length_cons, List.length_nil] at *) <;> omega) (by omega) hn1 hhi hwa (fun v2 s2 t2 I2 J2 hev2 h2 hT2 hvo2 hss2 htt2 => ?_) (fun e9 I9 J9 hev9 h9 => k0 e9 I9 J9 (by rw [ev7 hlt]; exact ebd_er hev9) h9)
  exact LR_g hG hP (by omega) (f := 1) h2 (by omega) (g_neg hG hP h2 (by omega) (by omega) (by omega) hk hvo2.1 (fun hw1 I3 J3 h3 => RQ_of (Or.inr rfl) (k1 (1, -v2.2) s2 t2 I3 J3 (by rw [ev7 hlt, ebd_ok hev2, if_pos hw1]) h3 hT2 vO_wh ⟨by omega, by omega⟩ ⟨by omega, by omega⟩)) (fun hw1 I3 h3 => RQ_of (Or.inr rfl) (k0 _ I3 J2 (by rw [ev7 hlt, ebd_ok hev2, if_neg hw1]) h3)))
set_option maxRecDepth 20000 in
set_option maxHeartbeats 4000000 in
theorem e_T8 {l : Launch} {E : pmE} {d : Nat} {Q : Option Value → pmS → pmI → pmJ → pmP → Prop} {S : pmS} {P : pmP} {I0 : pmI} {J0 : pmJ} {A : aS} {dp : Nat} {q q2 : Nat × Int64} {u u2 : Unit} {k2 : Nat} {a b9 c9 : eX} (hG : sh_St S) (hP : gr_St P) (hA : rA I0 J0 A) (hO : aO A) (hd : 8 ≤ d) (ha : rE l E d Q S P I0 J0 A dp a) : rE l E d Q S P I0 J0 A dp (.inner 8 q u a .leaf) := by
  intro pa ar cx I J fr hv s t N lo hi h hdp hc hao hT hth hfs hhs htl hny hhi hw k1 k0
  have hs4 := h.lm.2.2.2
  obtain ⟨hb, hk, hx, c1, hc1, hn1⟩ := ny8 hny
  have hwa : q.2 ∈ A.ns ∧ wt pa (· ∈ A.ns) a := by
    rcases hw with e | e | ⟨e, h2, h3⟩ | ⟨e, h2, h3⟩ | ⟨e, h2⟩ | ⟨e, h2, h3⟩
    · exact absurd e (by decide)
    · exact absurd e (by decide)
    · exact absurd e (by decide)
    · exact absurd e (by decide)
    · exact absurd e (by decide)
    · exact ⟨h2, h3⟩
  obtain ⟨hq8, hwa⟩ := hwa
  refine LR_b hG hP (by omega) h (b_go5 hG hP h (by omega) (by omega) (by omega) hk hc1 (by omega) (fun hlt I1 h1 => RQ_of (Or.inl rfl) ?_) (fun hge I1 h1 => RQ_of (Or.inl rfl) (k0 8 I1 J (ev8_8 hge) h1)))
  refine ha pa ar cx I1 J (fr ++ [(N, 1)]) hv (s + 1) t c1 lo hi h1 hdp hc hao hT hth (by (try simp only [List.length_append, List.length_cons, List.length_nil] at *) <;> omega) (by (try simp only [List.length_append, List.length_cons, List.length_nil] at *) <;> omega) (by omega) hn1 hhi hwa (fun v2 s2 t2 I2 J2 hev2 h2 hT2 hvo2 hss2 htt2 => ?_) (fun e9 I9 J9 hev9 h9 => k0 e9 I9 J9 (by rw [ev8 hlt]; exact ebd_er hev9) h9)
  exact LR_g hG hP (by omega) (f := 1) h2 (by omega) (g_dot hG hP h2 (by omega) (by omega) (by omega) hk hA hO hT2 hvo2 hq8 hx (fun hw1 I3 J3 h3 => by
    obtain ⟨j9, i9, z1, z2, z3, z4, z5, z6, z7⟩ := ckF_ok hT2 hvo2 (by omega) hw1
    exact RQ_of (Or.inr rfl) (k1 (fdV A t2 v2 q.2) s2 t2 I3 J3 (by rw [ev8 hlt, ebd_ok hev2, if_pos hw1]) h3 hT2 ((hT2 j9 _ _ z4).2.2.2 _ (List.mem_of_getElem? z7)) ⟨by omega, by omega⟩ ⟨by omega, by omega⟩)) (fun hw1 I3 h3 => RQ_of (Or.inr rfl) (k0 _ I3 J2 (by rw [ev8 hlt, ebd_ok hev2, if_neg hw1]) h3)))
set_option maxRecDepth 20000 in
set_option maxHeartbeats 4000000 in
theorem e_T9 {l : Launch} {E : pmE} {d : Nat} {Q : Option Value → pmS → pmI → pmJ → pmP → Prop} {S : pmS} {P : pmP} {I0 : pmI} {J0 : pmJ} {A : aS} {dp : Nat} {q q2 : Nat × Int64} {u u2 : Unit} {k2 : Nat} {a b9 c9 : eX} (hG : sh_St S) (hP : gr_St P) (hA : rA I0 J0 A) (hO : aO A) (hd : 8 ≤ d) (ha : rE l E d Q S P I0 J0 A dp a) (hb9 : rE l E d Q S P I0 J0 A dp b9) : rE l E d Q S P I0 J0 A dp (.inner 9 q u a (.inner k2 q2 u2 b9 c9)) := by
  intro pa ar cx I J fr hv s t N lo hi h hdp hc hao hT hth hfs hhs htl hny hhi hw k1 k0
  have hs4 := h.lm.2.2.2
  obtain ⟨hb, hk, hx, ⟨c1, hc1, hn1⟩, c2, hc2, hn2⟩ := ny9 hny
  obtain ⟨hlv, hwa, hwb, hwc⟩ : lvl q.1 ≤ 2 ∧ wt pa (· ∈ A.ns) a ∧ wt pa (· ∈ A.ns) b9 ∧ c9 = .leaf := by
    rcases hw with ⟨e, _⟩ | ⟨e, h2⟩ | ⟨e, _⟩
    · exact absurd e (by decide)
    · exact h2
    · exact absurd e (by decide)
  refine LR_b hG hP (by omega) h (b_go6 hG hP h (by omega) (by omega) (by omega) hk hc1 (by omega) (fun hlt I1 h1 => RQ_of (Or.inl rfl) ?_) (fun hge I1 h1 => RQ_of (Or.inl rfl) (k0 8 I1 J (ev9_8 hge) h1)))
  refine ha pa ar cx I1 J (fr ++ [(N, 1)]) hv (s + 1) t c1 lo hi h1 hdp hc hao hT hth (by (try simp only [List.length_append, List.length_cons, List.length_nil] at *) <;> omega) (by (try simp only [List.length_append, List.length_cons, List.length_nil] at *) <;> omega) (by omega) hn1 hhi hwa (fun v2 s2 t2 I2 J2 hev2 h2 hT2 hvo2 hss2 htt2 => ?_) (fun e9 I9 J9 hev9 h9 => k0 e9 I9 J9 (by rw [ev9 hlt]; exact ebd_er hev9) h9)
  refine LR_g hG hP (by omega) (f := 1) h2 (by omega) (g_op1 hG hP h2 (by omega) (by omega) (by omega) hk (by omega) hc2 (fun I3 h3 => RQ_of (Or.inr rfl) ?_))
  refine hb9 pa ar cx I3 J2 (fr ++ [(N, 2)]) (hv ++ [v2]) s2 t2 c2 lo hi h3 hdp hc (fun v hv => (hao v hv).up (by omega)) hT2 (by omega) (by (try simp only [List.length_append, List.length_cons, List.length_nil] at *) <;> omega) (by (try simp only [List.length_append, List.length_cons, List.length_nil] at *) <;> omega) (by omega) hn2 hhi hwb (fun v4 s4 t4 I4 J4 hev4 h4 hT4 hvo4 hss4 htt4 => ?_) (fun e9 I9 J9 hev9 h9 => k0 e9 I9 J9 (by rw [ev9 hlt, ebd_ok hev2]; exact ebd_er hev9) h9)
  have h4' : rS I0 J0 A I4 J4 (fr ++ [(N, 2)]) (hv ++ [v2, v4]) cx s4 t4 := by rw [List.append_assoc] at h4; exact h4
  exact LR_g hG hP (by omega) (f := 2) h4' (by omega) (g_op2 hG hP h4' (by omega) (by omega) (by omega) hk hx hlv hvo2.1 hvo4.1 (fun hw1 I5 J5 h5 => RQ_of (Or.inr rfl) (k1 (1, opV q.1 v2.2 v4.2) s4 t4 I5 J5 (by rw [ev9 hlt, ebd_ok hev2, ebd_ok hev4, if_pos hw1]) h5 hT4 vO_wh ⟨by omega, by omega⟩ ⟨by omega, by omega⟩)) (fun hw1 I5 h5 => RQ_of (Or.inr rfl) (k0 _ I5 J4 (by rw [ev9 hlt, ebd_ok hev2, ebd_ok hev4, if_neg hw1]) h5)))
set_option maxRecDepth 20000 in
set_option maxHeartbeats 4000000 in
theorem e_T10 {l : Launch} {E : pmE} {d : Nat} {Q : Option Value → pmS → pmI → pmJ → pmP → Prop} {S : pmS} {P : pmP} {I0 : pmI} {J0 : pmJ} {A : aS} {dp : Nat} {q q2 : Nat × Int64} {u u2 : Unit} {k2 : Nat} {a b9 c9 : eX} (hG : sh_St S) (hP : gr_St P) (hA : rA I0 J0 A) (hO : aO A) (hd : 8 ≤ d) (ha : rE l E d Q S P I0 J0 A dp a) (hb9 : rE l E d Q S P I0 J0 A dp b9) (hc9 : rE l E d Q S P I0 J0 A dp c9) : rE l E d Q S P I0 J0 A dp (.inner 10 q u a (.inner k2 q2 u2 b9 c9)) := by
  intro pa ar cx I J fr hv s t N lo hi h hdp hc hao hT hth hfs hhs htl hny hhi hw k1 k0
  have hs4 := h.lm.2.2.2
  obtain ⟨hb, hk, ⟨c1, hc1, hn1⟩, ⟨c2, hc2, hn2⟩, c3, hc3, hn3⟩ := ny10 hny
  obtain ⟨hwa, hwb, hwc⟩ : wt pa (· ∈ A.ns) a ∧ wt pa (· ∈ A.ns) b9 ∧ wt pa (· ∈ A.ns) c9 := by
    rcases hw with ⟨e, _⟩ | ⟨e, _⟩ | ⟨e, h2⟩
    · exact absurd e (by decide)
    · exact absurd e (by decide)
    · exact h2
  refine LR_b hG hP (by omega) h (b_go7 hG hP h (by omega) (by omega) (by omega) hk hc1 (by omega) (fun hlt I1 h1 => RQ_of (Or.inl rfl) ?_) (fun hge I1 h1 => RQ_of (Or.inl rfl) (k0 8 I1 J (ev10_8 hge) h1)))
  refine ha pa ar cx I1 J (fr ++ [(N, 1)]) hv (s + 1) t c1 lo hi h1 hdp hc hao hT hth (by (try simp only [List.length_append, List.length_cons, List.length_nil] at *) <;> omega) (by (try simp only [List.length_append, List.length_cons, List.length_nil] at *) <;> omega) (by omega) hn1 hhi hwa (fun v2 s2 t2 I2 J2 hev2 h2 hT2 hvo2 hss2 htt2 => ?_) (fun e9 I9 J9 hev9 h9 => k0 e9 I9 J9 (by rw [ev10 hlt]; exact ebd_er hev9) h9)
  refine LR_g hG hP (by omega) (f := 1) h2 (by omega) (g_if1 hG hP h2 (by omega) (by omega) (by omega) (by omega) hk hc2 hc3 hvo2.1 (fun hw1 hz I3 h3 => RQ_of (Or.inr rfl) ?_) (fun hw1 hz I3 h3 => RQ_of (Or.inr rfl) ?_) (fun hw1 I3 h3 => RQ_of (Or.inr rfl) (k0 _ I3 J2 (by rw [ev10 hlt, ebd_ok hev2, if_neg hw1]) h3)))
  · refine hb9 pa ar cx I3 J2 (fr ++ [(N, 2)]) hv s2 t2 c2 lo hi h3 hdp hc (fun v hv => (hao v hv).up (by omega)) hT2 (by omega) (by (try simp only [List.length_append, List.length_cons, List.length_nil] at *) <;> omega) (by (try simp only [List.length_append, List.length_cons, List.length_nil] at *) <;> omega) (by omega) hn2 hhi hwb (fun v4 s4 t4 I4 J4 hev4 h4 hT4 hvo4 hss4 htt4 => ?_) (fun e9 I9 J9 hev9 h9 => k0 e9 I9 J9 (by rw [ev10 hlt, ebd_ok hev2, if_pos hw1, if_neg hz]; exact hev9) h9)
    exact LR_g hG hP (by omega) (f := 2) h4 (by omega) (g_if2 hG hP h4 (by omega) (by omega) (by omega) hk (fun I5 h5 => RQ_of (Or.inr rfl) (k1 v4 s4 t4 I5 J4 (by rw [ev10 hlt, ebd_ok hev2, if_pos hw1, if_neg hz]; exact hev4) h5 hT4 hvo4 ⟨by omega, by omega⟩ ⟨by omega, by omega⟩)))
  · refine hc9 pa ar cx I3 J2 (fr ++ [(N, 2)]) hv s2 t2 c3 lo hi h3 hdp hc (fun v hv => (hao v hv).up (by omega)) hT2 (by omega) (by (try simp only [List.length_append, List.length_cons, List.length_nil] at *) <;> omega) (by (try simp only [List.length_append, List.length_cons, List.length_nil] at *) <;> omega) (by omega) hn3 hhi hwc (fun v4 s4 t4 I4 J4 hev4 h4 hT4 hvo4 hss4 htt4 => ?_) (fun e9 I9 J9 hev9 h9 => k0 e9 I9 J9 (by rw [ev10 hlt, ebd_ok hev2, if_pos hw1, if_pos hz]; exact hev9) h9)
    exact LR_g hG hP (by omega) (f := 2) h4 (by omega) (g_if2 hG hP h4 (by omega) (by omega) (by omega) hk (fun I5 h5 => RQ_of (Or.inr rfl) (k1 v4 s4 t4 I5 J4 (by rw [ev10 hlt, ebd_ok hev2, if_pos hw1, if_pos hz]; exact hev4) h5 hT4 hvo4 ⟨by omega, by omega⟩ ⟨by omega, by omega⟩)))
set_option maxRecDepth 20000 in
set_option maxHeartbeats 4000000 in
theorem e_fin {l : Launch} {E : pmE} {d : Nat} {Q : Option Value → pmS → pmI → pmJ → pmP → Prop} {S : pmS} {P : pmP} {I0 : pmI} {J0 : pmJ} {A : aS} {dp : Nat} (hG : sh_St S) (hP : gr_St P) (hA : rA I0 J0 A) (hO : aO A) (hd : 8 ≤ d) (hC : dp < 20 → ∀ T, rE l E d Q S P I0 J0 A (dp + 1) T) {I : pmI} {J : pmJ} {fr : List (Nat × Nat)} {hv us : List vV} {cx : List (Nat × List vV)} {s N g : Nat} {t : List tH} {w9 : Int64} (h : rS I0 J0 A I J (fr ++ [(N, g + 1)]) (hv ++ us) cx s t) (hdp : cx.length = dp) (hg : us.length = g) (hck : ckC A dp g w9 = 0) (hNb : N < 2624) (hk : I0 63 N = nI 3) (hqn : w9 ∈ A.ns) (hx : J0 70 N = hN A.ns w9) (hnm : I0 69 N = nI g) (hg3 : g ≤ 3) (hus : ∀ v ∈ us, vO t.length v) (hT : tO A t) (hth : A.th.length ≤ t.length) (hfs : fr.length + 1 ≤ s) (hhs : hv.length + us.length ≤ s) (htl : t.length + 1 ≤ 15600 + s)
  (k1 : ∀ (v : vV) (s' : Nat) (t' : List tH) (I' : pmI) (J' : pmJ), fin A (evC A (20 - dp)) w9 us s t = .ok (v, s', t') → rS I0 J0 A I' J' fr (hv ++ [v]) cx s' t' → tO A t' → vO t'.length v → s ≤ s' → s' ≤ 400 → t.length ≤ t'.length → t'.length + s ≤ t.length + s' + 1 → LR l E d Q S P I' J')
  (k0 : ∀ (e : Nat) (I' : pmI) (J' : pmJ), fin A (evC A (20 - dp)) w9 us s t = .error e → rX I0 J0 A I' J' e → LR l E d Q S P I' J') : LR l E d Q S P I J := by
  have hs4 := h.lm.2.2.2
  subst hg
  have hE := fin_eO (cl := evC A (20 - dp)) hO hck rfl hus hT ⟨⟨by omega, hs4⟩, hth, by omega⟩ (fun hdp s' vs s t g2 g3 g4 g5 g6 g7 g8 g9 => evC_ok hO (20 - dp) s' vs s t (by omega) (by omega) g2 g3 g4 g5 g6 g7 g8 g9)
  obtain ⟨c1, c2, c3, c4, c5, c6, c7⟩ := ckC_ok hO hck
  have hv3 := tO.v3 hO hT
  by_cases hf : A.fm w9 = 3
  · have ef : fin A (evC A (20 - dp)) w9 us s t = .ok ((2, lN t.length), s, t ++ [(A.by w9, us)]) := by unfold fin; rw [if_pos hf]
    obtain ⟨e1, e2, e3, e4, e5, e6⟩ := hE.1 _ _ _ ef
    have el : (t ++ [(A.by w9, us)]).length = t.length + 1 := by rw [List.length_append]; rfl
    exact LR_c hG hP (by omega) h (by omega) hNb hk (fun x2 x3 => r_type hG hP h (by omega) hNb (by omega) hA hO hg3 hqn hx hnm (by omega) rfl rfl hf c2 hv3 (by omega) (fun I3 J3 h3 => CQ_of (k1 _ _ _ I3 J3 ef h3 e2 e1 (Nat.le_refl _) hs4 (by omega) (by omega))))
  · have hf2 : A.fm w9 = 2 ∧ dp < 20 := by omega
    have ef : fin A (evC A (20 - dp)) w9 us s t = evT A (evC A (20 - (dp + 1))) (dp + 1) us (A.at (A.by w9)).tr s t := by unfold fin; rw [if_neg hf, evC_step hf2.2]
    have hsn := hO.2.2.2.2.1 (A.by w9) c3
    have hfo : (A.at (A.by w9)).form = 2 := by rw [c4]; exact hf2.1
    have hk4 := hO.k
    refine LR_c hG hP (by omega) h (by omega) hNb hk (fun x2 x3 => r_mem hG hP h (by omega) hNb (by omega) hA hO hg3 hqn hx hnm (by omega) rfl rfl hf2.1 c3 hfo c2 (by omega) (by omega) (by omega) (fun Nr mr I3 J3 hmr hNr h3 => CQ_of ?_))
    refine hC hf2.2 (A.at (A.by w9)).tr (A.at (A.by w9)).pa us (cx ++ [(A.by w9, us)]) I3 J3 (fr ++ [(N, us.length + 2)]) hv s t Nr _ _ h3 (by rw [List.length_append, hdp]; rfl) (Or.inr ⟨cx, A.by w9, rfl, c3, rfl, c6.symm⟩) hus hT hth (by simp only [List.length_append, List.length_cons, List.length_nil] <;> omega) (by omega) (by omega) hNr (by omega) (hsn.2.2.2.2.1 hfo) (fun v5 s5 t5 I5 J5 hev5 h5 hT5 hvo5 hss5 htt5 => ?_) (fun e9 I9 J9 hev9 h9 => k0 e9 I9 J9 (by rw [ef]; exact hev9) h9)
    exact LR_c hG hP (by omega) (f := us.length + 1) h5 (by omega) hNb hk (fun x2 x3 => r_back hG hP h5 (by omega) hNb (by omega) hA hO hg3 hqn hx hnm (by omega) rfl (fun I6 h6 => CQ_of (k1 v5 s5 t5 I6 J5 (by rw [ef]; exact hev5) h6 hT5 hvo5 (by omega) hss5.2 htt5.1 (by omega))))
set_option maxRecDepth 20000 in
set_option maxHeartbeats 4000000 in
theorem e_T6 {l : Launch} {E : pmE} {d : Nat} {Q : Option Value → pmS → pmI → pmJ → pmP → Prop} {S : pmS} {P : pmP} {I0 : pmI} {J0 : pmJ} {A : aS} {dp : Nat} {q q2 : Nat × Int64} {u u2 : Unit} {k2 : Nat} {a b9 c9 : eX} (hG : sh_St S) (hP : gr_St P) (hA : rA I0 J0 A) (hO : aO A) (hd : 8 ≤ d) (hC : dp < 20 → ∀ T, rE l E d Q S P I0 J0 A (dp + 1) T) (ha : rE l E d Q S P I0 J0 A dp a) (hb9 : rE l E d Q S P I0 J0 A dp b9) (hc9 : rE l E d Q S P I0 J0 A dp c9) : rE l E d Q S P I0 J0 A dp (.inner 6 q u a (.inner k2 q2 u2 b9 c9)) := by
  intro pa ar cx I J fr hv s t N lo hi h hdp hc hao hT hth hfs hhs htl hny hhi hw k1 k0
  have hs4 := h.lm.2.2.2
  obtain ⟨hb, hk, hx, hnm, ha1, hb1, hc1⟩ := ny6 hny
  obtain ⟨hqn, hq3, hwa, hwb, hwc⟩ : q.2 ∈ A.ns ∧ q.1 ≤ 3 ∧ ((q.1 < 1 ∧ a = .leaf) ∨ (1 ≤ q.1 ∧ wt pa (· ∈ A.ns) a)) ∧ ((q.1 < 2 ∧ b9 = .leaf) ∨ (2 ≤ q.1 ∧ wt pa (· ∈ A.ns) b9)) ∧ ((q.1 < 3 ∧ c9 = .leaf) ∨ (3 ≤ q.1 ∧ wt pa (· ∈ A.ns) c9)) := by
    rcases hw with ⟨e, h2⟩ | ⟨e, _⟩ | ⟨e, _⟩
    · exact h2
    · exact absurd e (by decide)
    · exact absurd e (by decide)
  refine LR_b hG hP (by omega) h (b_call hG hP h (by omega) (by omega) (by omega) hk hA hO hq3 hqn hx hnm (fun hlt hck I1 h1 => RQ_of (Or.inl rfl) ?_) (fun hlt hck I1 h1 => RQ_of (Or.inl rfl) (k0 _ I1 J (by rw [hdp] at hck ⊢; rw [ev6 hlt, if_neg hck]) h1)) (fun hge I1 h1 => RQ_of (Or.inl rfl) (k0 8 I1 J (ev6_8 hge) h1)))
  rw [hdp] at hck
  rcases (show q.1 = 0 ∨ q.1 = 1 ∨ q.1 = 2 ∨ q.1 = 3 by omega) with hg | hg | hg | hg
  · have ha9 : a = .leaf := by rcases hwa with e | e; exact e.2; exact absurd e.1 (by omega)
    subst ha9
    have hb9 : b9 = .leaf := by rcases hwb with e | e; exact e.2; exact absurd e.1 (by omega)
    subst hb9
    have hc9 : c9 = .leaf := by rcases hwc with e | e; exact e.2; exact absurd e.1 (by omega)
    subst hc9
    have eE : evT A (evC A (20 - dp)) dp ar (.inner 6 q u .leaf (.inner k2 q2 u2 .leaf .leaf)) s t = fin A (evC A (20 - dp)) q.2 [] (s + 1) t := by rw [ev6 hlt, if_pos hck, if_pos hg]
    refine e_fin hG hP hA hO hd hC (us := []) (hv := hv) (g := q.1) (by rw [List.append_nil, hg]; exact h1) hdp (by simp only [List.length_append, List.length_cons, List.length_nil] <;> omega) hck (by omega) hk hqn hx hnm hq3 (fun v hv => nomatch hv) hT (by omega) (by omega) (by (try simp only [List.length_append, List.length_cons, List.length_nil] at *) <;> omega) (by omega) (fun v5 s5 t5 I5 J5 hev5 h5 hT5 hvo5 hs5 hs45 ht5 ht5' => ?_) (fun e9 I9 J9 hev9 h9 => k0 e9 I9 J9 (eE.trans hev9) h9)
    exact k1 v5 s5 t5 I5 J5 (eE.trans hev5) h5 hT5 hvo5 ⟨by omega, hs45⟩ ⟨by omega, by omega⟩
  · have hwa : wt pa (· ∈ A.ns) a := by rcases hwa with e | e; exact absurd e.1 (by omega); exact e.2
    have hb9 : b9 = .leaf := by rcases hwb with e | e; exact e.2; exact absurd e.1 (by omega)
    subst hb9
    have hc9 : c9 = .leaf := by rcases hwc with e | e; exact e.2; exact absurd e.1 (by omega)
    subst hc9
    have eE : evT A (evC A (20 - dp)) dp ar (.inner 6 q u a (.inner k2 q2 u2 .leaf .leaf)) s t = ebd (evT A (evC A (20 - dp)) dp ar a (s + 1) t) fun v1 s1 t1 => if q.1 = 1 then fin A (evC A (20 - dp)) q.2 [v1] s1 t1 else ebd (evT A (evC A (20 - dp)) dp ar .leaf s1 t1) fun v2 s2 t2 => if q.1 = 2 then fin A (evC A (20 - dp)) q.2 [v1, v2] s2 t2 else ebd (evT A (evC A (20 - dp)) dp ar .leaf s2 t2) fun v3 s3 t3 => fin A (evC A (20 - dp)) q.2 [v1, v2, v3] s3 t3 := by rw [ev6 hlt, if_pos hck, if_neg (by omega)]
    obtain ⟨x0, y0, z0⟩ := ha1 (by omega)
    refine LR_c hG hP (by omega) (f := 0) h1 (by omega) (by omega) hk (fun x8 x9 => r_arg0 hG hP h1 (by omega) (by omega) (by omega) hA hO hq3 hqn hx hnm (by omega) rfl (by omega) (by omega) y0 (fun I08 h08 => CQ_of ?_))
    refine ha pa ar cx I08 J (fr ++ [(N, 2)]) hv (s + 1) t x0 lo hi h08 hdp hc hao hT hth (by (try simp only [List.length_append, List.length_cons, List.length_nil] at *) <;> omega) (by (try simp only [List.length_append, List.length_cons, List.length_nil] at *) <;> omega) (by omega) z0 hhi hwa (fun v2 s2 t2 I2 J2 hev2 h2 hT2 hvo2 hss2 htt2 => ?_) (fun e9 I9 J9 hev9 h9 => k0 e9 I9 J9 (by rw [eE]; exact ebd_er hev9) h9)
    have eF : evT A (evC A (20 - dp)) dp ar (.inner 6 q u a (.inner k2 q2 u2 .leaf .leaf)) s t = fin A (evC A (20 - dp)) q.2 [v2] s2 t2 := by rw [eE, ebd_ok hev2, if_pos hg]
    refine e_fin hG hP hA hO hd hC (us := [v2]) (hv := hv) (g := q.1) (by rw [hg]; exact h2) hdp (by simp only [List.length_append, List.length_cons, List.length_nil] <;> omega) hck (by omega) hk hqn hx hnm hq3 (fun v hv => by rw [List.mem_singleton.mp hv]; exact hvo2) hT2 (by omega) (by omega) (by (try simp only [List.length_append, List.length_cons, List.length_nil] at *) <;> omega) (by omega) (fun v5 s5 t5 I5 J5 hev5 h5 hT5 hvo5 hs5 hs45 ht5 ht5' => ?_) (fun e9 I9 J9 hev9 h9 => k0 e9 I9 J9 (eF.trans hev9) h9)
    exact k1 v5 s5 t5 I5 J5 (eF.trans hev5) h5 hT5 hvo5 ⟨by omega, hs45⟩ ⟨by omega, by omega⟩
  · have hwa : wt pa (· ∈ A.ns) a := by rcases hwa with e | e; exact absurd e.1 (by omega); exact e.2
    have hwb : wt pa (· ∈ A.ns) b9 := by rcases hwb with e | e; exact absurd e.1 (by omega); exact e.2
    have hc9 : c9 = .leaf := by rcases hwc with e | e; exact e.2; exact absurd e.1 (by omega)
    subst hc9
    have eE : evT A (evC A (20 - dp)) dp ar (.inner 6 q u a (.inner k2 q2 u2 b9 .leaf)) s t = ebd (evT A (evC A (20 - dp)) dp ar a (s + 1) t) fun v1 s1 t1 => if q.1 = 1 then fin A (evC A (20 - dp)) q.2 [v1] s1 t1 else ebd (evT A (evC A (20 - dp)) dp ar b9 s1 t1) fun v2 s2 t2 => if q.1 = 2 then fin A (evC A (20 - dp)) q.2 [v1, v2] s2 t2 else ebd (evT A (evC A (20 - dp)) dp ar .leaf s2 t2) fun v3 s3 t3 => fin A (evC A (20 - dp)) q.2 [v1, v2, v3] s3 t3 := by rw [ev6 hlt, if_pos hck, if_neg (by omega)]
    obtain ⟨x0, y0, z0⟩ := ha1 (by omega)
    refine LR_c hG hP (by omega) (f := 0) h1 (by omega) (by omega) hk (fun x8 x9 => r_arg0 hG hP h1 (by omega) (by omega) (by omega) hA hO hq3 hqn hx hnm (by omega) rfl (by omega) (by omega) y0 (fun I08 h08 => CQ_of ?_))
    refine ha pa ar cx I08 J (fr ++ [(N, 2)]) hv (s + 1) t x0 lo hi h08 hdp hc hao hT hth (by (try simp only [List.length_append, List.length_cons, List.length_nil] at *) <;> omega) (by (try simp only [List.length_append, List.length_cons, List.length_nil] at *) <;> omega) (by omega) z0 hhi hwa (fun v2 s2 t2 I2 J2 hev2 h2 hT2 hvo2 hss2 htt2 => ?_) (fun e9 I9 J9 hev9 h9 => k0 e9 I9 J9 (by rw [eE]; exact ebd_er hev9) h9)
    obtain ⟨x1, y1, z1⟩ := hb1 (by omega)
    refine LR_c hG hP (by omega) (f := 1) h2 (by omega) (by omega) hk (fun x8 x9 => r_arg1 hG hP h2 (by omega) (by omega) (by omega) hA hO hq3 hqn hx hnm (by omega) rfl (by omega) (by omega) y1 (fun I18 h18 => CQ_of ?_))
    refine hb9 pa ar cx I18 J2 (fr ++ [(N, 3)]) (hv ++ [v2]) s2 t2 x1 lo hi h18 hdp hc (fun v hv => (hao v hv).up (by omega)) hT2 (by omega) (by (try simp only [List.length_append, List.length_cons, List.length_nil] at *) <;> omega) (by (try simp only [List.length_append, List.length_cons, List.length_nil] at *) <;> omega) (by omega) z1 hhi hwb (fun v3 s3 t3 I3 J3 hev3 h3 hT3 hvo3 hss3 htt3 => ?_) (fun e9 I9 J9 hev9 h9 => k0 e9 I9 J9 (by rw [eE, ebd_ok hev2, if_neg (by omega)]; exact ebd_er hev9) h9)
    have eF : evT A (evC A (20 - dp)) dp ar (.inner 6 q u a (.inner k2 q2 u2 b9 .leaf)) s t = fin A (evC A (20 - dp)) q.2 [v2, v3] s3 t3 := by rw [eE, ebd_ok hev2, if_neg (by omega), ebd_ok hev3, if_pos hg]
    refine e_fin hG hP hA hO hd hC (us := [v2, v3]) (hv := hv) (g := q.1) (by rw [List.append_assoc] at h3; rw [hg]; exact h3) hdp (by simp only [List.length_append, List.length_cons, List.length_nil] <;> omega) hck (by omega) hk hqn hx hnm hq3 (fun v hv => by rcases List.mem_cons.mp hv with rfl | hv; exact hvo2.up (by omega); rw [List.mem_singleton.mp hv]; exact hvo3) hT3 (by omega) (by omega) (by (try simp only [List.length_append, List.length_cons, List.length_nil] at *) <;> omega) (by omega) (fun v5 s5 t5 I5 J5 hev5 h5 hT5 hvo5 hs5 hs45 ht5 ht5' => ?_) (fun e9 I9 J9 hev9 h9 => k0 e9 I9 J9 (eF.trans hev9) h9)
    exact k1 v5 s5 t5 I5 J5 (eF.trans hev5) h5 hT5 hvo5 ⟨by omega, hs45⟩ ⟨by omega, by omega⟩
  · have hwa : wt pa (· ∈ A.ns) a := by rcases hwa with e | e; exact absurd e.1 (by omega); exact e.2
    have hwb : wt pa (· ∈ A.ns) b9 := by rcases hwb with e | e; exact absurd e.1 (by omega); exact e.2
    have hwc : wt pa (· ∈ A.ns) c9 := by rcases hwc with e | e; exact absurd e.1 (by omega); exact e.2
    have eE : evT A (evC A (20 - dp)) dp ar (.inner 6 q u a (.inner k2 q2 u2 b9 c9)) s t = ebd (evT A (evC A (20 - dp)) dp ar a (s + 1) t) fun v1 s1 t1 => if q.1 = 1 then fin A (evC A (20 - dp)) q.2 [v1] s1 t1 else ebd (evT A (evC A (20 - dp)) dp ar b9 s1 t1) fun v2 s2 t2 => if q.1 = 2 then fin A (evC A (20 - dp)) q.2 [v1, v2] s2 t2 else ebd (evT A (evC A (20 - dp)) dp ar c9 s2 t2) fun v3 s3 t3 => fin A (evC A (20 - dp)) q.2 [v1, v2, v3] s3 t3 := by rw [ev6 hlt, if_pos hck, if_neg (by omega)]
    obtain ⟨x0, y0, z0⟩ := ha1 (by omega)
    refine LR_c hG hP (by omega) (f := 0) h1 (by omega) (by omega) hk (fun x8 x9 => r_arg0 hG hP h1 (by omega) (by omega) (by omega) hA hO hq3 hqn hx hnm (by omega) rfl (by omega) (by omega) y0 (fun I08 h08 => CQ_of ?_))
    refine ha pa ar cx I08 J (fr ++ [(N, 2)]) hv (s + 1) t x0 lo hi h08 hdp hc hao hT hth (by (try simp only [List.length_append, List.length_cons, List.length_nil] at *) <;> omega) (by (try simp only [List.length_append, List.length_cons, List.length_nil] at *) <;> omega) (by omega) z0 hhi hwa (fun v2 s2 t2 I2 J2 hev2 h2 hT2 hvo2 hss2 htt2 => ?_) (fun e9 I9 J9 hev9 h9 => k0 e9 I9 J9 (by rw [eE]; exact ebd_er hev9) h9)
    obtain ⟨x1, y1, z1⟩ := hb1 (by omega)
    refine LR_c hG hP (by omega) (f := 1) h2 (by omega) (by omega) hk (fun x8 x9 => r_arg1 hG hP h2 (by omega) (by omega) (by omega) hA hO hq3 hqn hx hnm (by omega) rfl (by omega) (by omega) y1 (fun I18 h18 => CQ_of ?_))
    refine hb9 pa ar cx I18 J2 (fr ++ [(N, 3)]) (hv ++ [v2]) s2 t2 x1 lo hi h18 hdp hc (fun v hv => (hao v hv).up (by omega)) hT2 (by omega) (by (try simp only [List.length_append, List.length_cons, List.length_nil] at *) <;> omega) (by (try simp only [List.length_append, List.length_cons, List.length_nil] at *) <;> omega) (by omega) z1 hhi hwb (fun v3 s3 t3 I3 J3 hev3 h3 hT3 hvo3 hss3 htt3 => ?_) (fun e9 I9 J9 hev9 h9 => k0 e9 I9 J9 (by rw [eE, ebd_ok hev2, if_neg (by omega)]; exact ebd_er hev9) h9)
    obtain ⟨x2, y2, z2⟩ := hc1 (by omega)
    refine LR_c hG hP (by omega) (f := 2) h3 (by omega) (by omega) hk (fun x8 x9 => r_arg2 hG hP h3 (by omega) (by omega) (by omega) hA hO hq3 hqn hx hnm (by omega) rfl (by omega) (by omega) y2 (fun I28 h28 => CQ_of ?_))
    refine hc9 pa ar cx I28 J3 (fr ++ [(N, 4)]) ((hv ++ [v2]) ++ [v3]) s3 t3 x2 lo hi h28 hdp hc (fun v hv => (hao v hv).up (by omega)) hT3 (by omega) (by (try simp only [List.length_append, List.length_cons, List.length_nil] at *) <;> omega) (by (try simp only [List.length_append, List.length_cons, List.length_nil] at *) <;> omega) (by omega) z2 hhi hwc (fun v4 s4 t4 I4 J4 hev4 h4 hT4 hvo4 hss4 htt4 => ?_) (fun e9 I9 J9 hev9 h9 => k0 e9 I9 J9 (by rw [eE, ebd_ok hev2, if_neg (by omega), ebd_ok hev3, if_neg (by omega)]; exact ebd_er hev9) h9)
    have eF : evT A (evC A (20 - dp)) dp ar (.inner 6 q u a (.inner k2 q2 u2 b9 c9)) s t = fin A (evC A (20 - dp)) q.2 [v2, v3, v4] s4 t4 := by rw [eE, ebd_ok hev2, if_neg (by omega), ebd_ok hev3, if_neg (by omega), ebd_ok hev4]
    refine e_fin hG hP hA hO hd hC (us := [v2, v3, v4]) (hv := hv) (g := q.1) (by rw [List.append_assoc, List.append_assoc] at h4; rw [hg]; exact h4) hdp (by simp only [List.length_append, List.length_cons, List.length_nil] <;> omega) hck (by omega) hk hqn hx hnm hq3 (fun v hv => by rcases List.mem_cons.mp hv with rfl | hv; exact hvo2.up (by omega); rcases List.mem_cons.mp hv with rfl | hv; exact hvo3.up (by omega); rw [List.mem_singleton.mp hv]; exact hvo4) hT4 (by omega) (by omega) (by (try simp only [List.length_append, List.length_cons, List.length_nil] at *) <;> omega) (by omega) (fun v5 s5 t5 I5 J5 hev5 h5 hT5 hvo5 hs5 hs45 ht5 ht5' => ?_) (fun e9 I9 J9 hev9 h9 => k0 e9 I9 J9 (eF.trans hev9) h9)
    exact k1 v5 s5 t5 I5 J5 (eF.trans hev5) h5 hT5 hvo5 ⟨by omega, hs45⟩ ⟨by omega, by omega⟩
theorem e_Tall {l : Launch} {E : pmE} {d : Nat} {Q : Option Value → pmS → pmI → pmJ → pmP → Prop} {S : pmS} {P : pmP} {I0 : pmI} {J0 : pmJ} {A : aS} {dp : Nat} (hG : sh_St S) (hP : gr_St P) (hA : rA I0 J0 A) (hO : aO A) (hd : 8 ≤ d) (hC : dp < 20 → ∀ T, rE l E d Q S P I0 J0 A (dp + 1) T) : ∀ T, rE l E d Q S P I0 J0 A dp T
  | .leaf => fun pa ar cx I J fr hv s t N lo hi h hdp hc hao hT hth hfs hhs htl hny hhi hw k1 k0 => hw.elim
  | .inner k q u a .leaf => by
    have ha := e_Tall hG hP hA hO hd hC a
    intro pa ar cx I J fr hv s t N lo hi h hdp hc hao hT hth hfs hhs htl hny hhi hw k1 k0
    rcases id hw with rfl | rfl | ⟨rfl, _⟩ | ⟨rfl, _⟩ | ⟨rfl, _⟩ | ⟨rfl, _⟩
    · exact e_T2 (b9 := .leaf) (c9 := .leaf) (q2 := q) (u2 := u) (k2 := 0) hG hP hA hO hd pa ar cx I J fr hv s t N lo hi h hdp hc hao hT hth hfs hhs htl hny hhi hw k1 k0
    · exact e_T3 (b9 := .leaf) (c9 := .leaf) (q2 := q) (u2 := u) (k2 := 0) hG hP hA hO hd pa ar cx I J fr hv s t N lo hi h hdp hc hao hT hth hfs hhs htl hny hhi hw k1 k0
    · exact e_T4 (b9 := .leaf) (c9 := .leaf) (q2 := q) (u2 := u) (k2 := 0) hG hP hA hO hd pa ar cx I J fr hv s t N lo hi h hdp hc hao hT hth hfs hhs htl hny hhi hw k1 k0
    · exact e_T5 (b9 := .leaf) (c9 := .leaf) (q2 := q) (u2 := u) (k2 := 0) hG hP hA hO hd pa ar cx I J fr hv s t N lo hi h hdp hc hao hT hth hfs hhs htl hny hhi hw k1 k0
    · exact e_T7 (b9 := .leaf) (c9 := .leaf) (q2 := q) (u2 := u) (k2 := 0) hG hP hA hO hd ha pa ar cx I J fr hv s t N lo hi h hdp hc hao hT hth hfs hhs htl hny hhi hw k1 k0
    · exact e_T8 (b9 := .leaf) (c9 := .leaf) (q2 := q) (u2 := u) (k2 := 0) hG hP hA hO hd ha pa ar cx I J fr hv s t N lo hi h hdp hc hao hT hth hfs hhs htl hny hhi hw k1 k0
  | .inner k q u a (.inner k2 q2 u2 b9 c9) => by
    have ha := e_Tall hG hP hA hO hd hC a
    have hb9 := e_Tall hG hP hA hO hd hC b9
    have hc9 := e_Tall hG hP hA hO hd hC c9
    intro pa ar cx I J fr hv s t N lo hi h hdp hc hao hT hth hfs hhs htl hny hhi hw k1 k0
    rcases id hw with ⟨rfl, _⟩ | ⟨rfl, _⟩ | ⟨rfl, _⟩
    · exact e_T6 hG hP hA hO hd hC ha hb9 hc9 pa ar cx I J fr hv s t N lo hi h hdp hc hao hT hth hfs hhs htl hny hhi hw k1 k0
    · exact e_T9 hG hP hA hO hd ha hb9 pa ar cx I J fr hv s t N lo hi h hdp hc hao hT hth hfs hhs htl hny hhi hw k1 k0
    · exact e_T10 hG hP hA hO hd ha hb9 hc9 pa ar cx I J fr hv s t N lo hi h hdp hc hao hT hth hfs hhs htl hny hhi hw k1 k0
/-- the reference works every EXPR out as the spec says -/
theorem e_Tev {l : Launch} {E : pmE} {d : Nat} {Q : Option Value → pmS → pmI → pmJ → pmP → Prop} {S : pmS} {P : pmP} {I0 : pmI} {J0 : pmJ} {A : aS} (hG : sh_St S) (hP : gr_St P) (hA : rA I0 J0 A) (hO : aO A) (hd : 8 ≤ d) : ∀ n dp, dp + n = 20 → ∀ T, rE l E d Q S P I0 J0 A dp T
  | 0, dp, h => e_Tall hG hP hA hO hd (fun h2 => absurd h2 (by omega))
  | n + 1, dp, h => e_Tall hG hP hA hO hd (fun _ => e_Tev hG hP hA hO hd n (dp + 1) (by omega))
