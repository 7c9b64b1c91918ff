section RM6
variable {A : aS} {cl : Nat → List vV → Nat → List tH → evR} {clm : Nat → List vV → Nat → List tH → Nat → Nat} {dp : Nat} {ar : List vV} {q q2 : Nat × Int64} {u u2 : Unit} {k2 : Nat} {a b c : eX} {s s1 s2 s3 m e : Nat} {t t1 t2 t3 : List tH} {v1 v2 v3 : vV}
theorem rm6_0 (hlt : s < 400) (hck : ckC A dp q.1 q.2 = 0) (hq : q.1 = 0) : rmT A cl clm dp ar (.inner 6 q u a (.inner k2 q2 u2 b c)) s t m = finm A clm q.2 [] (s + 1) t m := by rw [rm6 hlt, if_pos hck, if_pos hq]
theorem rm6_a (hc : ∀ s' vs s t m, m ≤ clm s' vs s t m) (hlt : s < 400) (hck : ckC A dp q.1 q.2 = 0) (hq : ¬ q.1 = 0) : rmT A cl clm dp ar a (s + 1) t m ≤ rmT A cl clm dp ar (.inner 6 q u a (.inner k2 q2 u2 b c)) s t m := by
  rw [rm6 hlt, if_pos hck, if_neg hq]
  refine ebm_ge (Nat.le_refl _) (fun v1 s1 t1 => ?_)
  split
  · exact finm_ge hc
  · refine ebm_ge (rm_ge hc b s1 t1 _) (fun v2 s2 t2 => ?_)
    split
    · exact Nat.le_trans (rm_ge hc b s1 t1 _) (finm_ge hc)
    · exact ebm_ge (Nat.le_trans (rm_ge hc b s1 t1 _) (rm_ge hc c s2 t2 _)) (fun v3 s3 t3 => Nat.le_trans (Nat.le_trans (rm_ge hc b s1 t1 _) (rm_ge hc c s2 t2 _)) (finm_ge hc))
theorem rm6_ea (hlt : s < 400) (hck : ckC A dp q.1 q.2 = 0) (hq : ¬ q.1 = 0) (h1 : evT A cl dp ar a (s + 1) t = .error e) : rmT A cl clm dp ar (.inner 6 q u a (.inner k2 q2 u2 b c)) s t m = rmT A cl clm dp ar a (s + 1) t m := by rw [rm6 hlt, if_pos hck, if_neg hq, ebm_er h1]
theorem rm6_1 (hlt : s < 400) (hck : ckC A dp q.1 q.2 = 0) (hq : q.1 = 1) (h1 : evT A cl dp ar a (s + 1) t = .ok (v1, s1, t1)) : rmT A cl clm dp ar (.inner 6 q u a (.inner k2 q2 u2 b c)) s t m = finm A clm q.2 [v1] s1 t1 (rmT A cl clm dp ar a (s + 1) t m) := by rw [rm6 hlt, if_pos hck, if_neg (by omega), ebm_ok h1, if_pos hq]
theorem rm6_b (hc : ∀ s' vs s t m, m ≤ clm s' vs s t m) (hlt : s < 400) (hck : ckC A dp q.1 q.2 = 0) (hq : 2 ≤ q.1) (h1 : evT A cl dp ar a (s + 1) t = .ok (v1, s1, t1)) : rmT A cl clm dp ar b s1 t1 (rmT A cl clm dp ar a (s + 1) t m) ≤ rmT A cl clm dp ar (.inner 6 q u a (.inner k2 q2 u2 b c)) s t m := by
  rw [rm6 hlt, if_pos hck, if_neg (by omega), ebm_ok h1, if_neg (by omega)]
  refine ebm_ge (Nat.le_refl _) (fun v2 s2 t2 => ?_)
  split
  · exact finm_ge hc
  · exact ebm_ge (rm_ge hc c s2 t2 _) (fun v3 s3 t3 => Nat.le_trans (rm_ge hc c s2 t2 _) (finm_ge hc))
theorem rm6_eb (hlt : s < 400) (hck : ckC A dp q.1 q.2 = 0) (hq : 2 ≤ q.1) (h1 : evT A cl dp ar a (s + 1) t = .ok (v1, s1, t1)) (h2 : evT A cl dp ar b s1 t1 = .error e) : rmT A cl clm dp ar (.inner 6 q u a (.inner k2 q2 u2 b c)) s t m = rmT A cl clm dp ar b s1 t1 (rmT A cl clm dp ar a (s + 1) t m) := by rw [rm6 hlt, if_pos hck, if_neg (by omega), ebm_ok h1, if_neg (by omega), ebm_er h2]
theorem rm6_2 (hlt : s < 400) (hck : ckC A dp q.1 q.2 = 0) (hq : q.1 = 2) (h1 : evT A cl dp ar a (s + 1) t = .ok (v1, s1, t1)) (h2 : evT A cl dp ar b s1 t1 = .ok (v2, s2, t2)) : rmT A cl clm dp ar (.inner 6 q u a (.inner k2 q2 u2 b c)) s t m = finm A clm q.2 [v1, v2] s2 t2 (rmT A cl clm dp ar b s1 t1 (rmT A cl clm dp ar a (s + 1) t m)) := by rw [rm6 hlt, if_pos hck, if_neg (by omega), ebm_ok h1, if_neg (by omega), ebm_ok h2, if_pos hq]
theorem rm6_c (hc : ∀ s' vs s t m, m ≤ clm s' vs s t m) (hlt : s < 400) (hck : ckC A dp q.1 q.2 = 0) (hq : 3 ≤ q.1) (h1 : evT A cl dp ar a (s + 1) t = .ok (v1, s1, t1)) (h2 : evT A cl dp ar b s1 t1 = .ok (v2, s2, t2)) : rmT A cl clm dp ar c s2 t2 (rmT A cl clm dp ar b s1 t1 (rmT A cl clm dp ar a (s + 1) t m)) ≤ rmT A cl clm dp ar (.inner 6 q u a (.inner k2 q2 u2 b c)) s t m := by
  rw [rm6 hlt, if_pos hck, if_neg (by omega), ebm_ok h1, if_neg (by omega), ebm_ok h2, if_neg (by omega)]
  exact ebm_ge (Nat.le_refl _) (fun v3 s3 t3 => finm_ge hc)
theorem rm6_ec (hlt : s < 400) (hck : ckC A dp q.1 q.2 = 0) (hq : 3 ≤ q.1) (h1 : evT A cl dp ar a (s + 1) t = .ok (v1, s1, t1)) (h2 : evT A cl dp ar b s1 t1 = .ok (v2, s2, t2)) (h3 : evT A cl dp ar c s2 t2 = .error e) : rmT A cl clm dp ar (.inner 6 q u a (.inner k2 q2 u2 b c)) s t m = rmT A cl clm dp ar c s2 t2 (rmT A cl clm dp ar b s1 t1 (rmT A cl clm dp ar a (s + 1) t m)) := by rw [rm6 hlt, if_pos hck, if_neg (by omega), ebm_ok h1, if_neg (by omega), ebm_ok h2, if_neg (by omega), ebm_er h3]
theorem rm6_3 (hlt : s < 400) (hck : ckC A dp q.1 q.2 = 0) (hq : 3 ≤ q.1) (h1 : evT A cl dp ar a (s + 1) t = .ok (v1, s1, t1)) (h2 : evT A cl dp ar b s1 t1 = .ok (v2, s2, t2)) (h3 : evT A cl dp ar c s2 t2 = .ok (v3, s3, t3)) : rmT A cl clm dp ar (.inner 6 q u a (.inner k2 q2 u2 b c)) s t m = finm A clm q.2 [v1, v2, v3] s3 t3 (rmT A cl clm dp ar c s2 t2 (rmT A cl clm dp ar b s1 t1 (rmT A cl clm dp ar a (s + 1) t m))) := by rw [rm6 hlt, if_pos hck, if_neg (by omega), ebm_ok h1, if_neg (by omega), ebm_ok h2, if_neg (by omega), ebm_ok h3]
end RM6
set_option maxRecDepth 20000 in
set_option maxHeartbeats 4000000 in
theorem c_fin {l : Launch} {E : pmE} {d : Nat} {Q : Option Value → pmS → pmI → pmJ → pmP → Prop} {c0 : Nat} {mk : Int32} {S0 : pmS} {I0 : pmI} {J0 : pmJ} {P0 : pmP} {b0 : Nat} {A : aS} {Z : Nat → Nat} {kx dp : Nat} (hA : cA S0 I0 J0 P0 A Z b0) (hO : aO A) (hd : 9 ≤ d) (hC : dp < 20 → ∀ T, cT l E d Q c0 mk S0 I0 J0 P0 b0 A kx (dp + 1) T) {S : pmS} {I : pmI} {J : pmJ} {P : pmP} {c i bs s b m τ K g : Nat} {w : Int32} {rv us : List vV} {fr : List (Nat × Nat × Nat)} {t : List tH} {w9 : Int64} {L : List dE} (h : mS S0 I0 J0 P0 b0 A S I J P c w i bs (rv ++ us) fr s t b m) (hfr : fr.length = dp) (hg : us.length = g) (hck : ckC A dp g w9 = 0) (hx : kX S0 I0 J0 P0 b0 c L) (hi : L[i]? = some (8, nI g, hN A.ns w9)) (hqn : w9 ∈ A.ns) (hu3 : us.length ≤ 3) (hus : ∀ v ∈ us, vO t.length v) (hT : tO A t) (hth : A.th.length ≤ t.length) (hs4 : s ≤ 400) (hrs : (rv ++ us).length ≤ s) (hrl : rv.length + 1 ≤ s) (htl : t.length + 1 ≤ 15600 + s) (hτ : τ + 1200 ≤ K + 3 * s) (hK : K ≤ 8998) (hmx : finm A (rmC A (20 - dp)) w9 us s t m ≤ kx)
  (k1 : ∀ (v : vV) (s' : Nat) (t' : List tH) (S' : pmS) (I' : pmI) (J' : pmJ) (P' : pmP) (w' : Int32) (b' m' τ' : Nat), fin A (evC A (20 - dp)) w9 us s t = .ok (v, s', t') → m' = finm A (rmC A (20 - dp)) w9 us s t m → mS S0 I0 J0 P0 b0 A S' I' J' P' c w' (i + 1) bs (rv ++ [v]) fr s' t' b' m' → tO A t' → vO t'.length v → s ≤ s' → s' ≤ 400 → t.length ≤ t'.length → t'.length + s ≤ t.length + s' + 1 → τ' + 1200 ≤ K + 2 + 3 * s' → LH2 l E d Q c0 mk kx m' τ' S' I' J' P')
  (k0 : ∀ (e : Nat) (S' : pmS) (I' : pmI) (J' : pmJ) (P' : pmP) (b' m' τ' : Nat), fin A (evC A (20 - dp)) w9 us s t = .error e → m' = finm A (rmC A (20 - dp)) w9 us s t m → mE S0 I0 J0 P0 b0 A S' I' J' P' e b' m' → τ' ≤ 9999 → LH2 l E d Q c0 mk kx m' τ' S' I' J' P') : LH2 l E d Q c0 mk kx m τ S I J P := by
  subst hg
  have hE := fin_eO (cl := evC A (20 - dp)) hO hck rfl hus hT ⟨⟨by omega, hs4⟩, hth, by omega⟩ (fun hdp s' vs s t g2 g3 g4 g5 g6 g7 g8 g9 => evC_ok hO (20 - dp) s' vs s t (by omega) (by omega) g2 g3 g4 g5 g6 g7 g8 g9)
  obtain ⟨c1, c2, c3, c4, c5, c6, c7⟩ := ckC_ok hO hck
  have hv3 := tO.v3 hO hT
  have hi' := hi
  rw [← c5] at hi'
  have hdn : (A.at (A.by w9)).dec ∈ A.ns := by rw [c5]; exact hqn
  have hdc : A.dc (A.at (A.by w9)).dec = some (A.by w9) := by rw [c5]; exact c2
  have hff : (A.at (A.by w9)).form = A.fm (A.at (A.by w9)).dec := by rw [c5]; exact c4
  by_cases hf : A.fm w9 = 3
  · have ef : fin A (evC A (20 - dp)) w9 us s t = .ok ((2, lN t.length), s, t ++ [(A.by w9, us)]) := by unfold fin; rw [if_pos hf]
    obtain ⟨e1, e2, e3, e4, e5, e6⟩ := hE.1 _ _ _ ef
    have el : (t ++ [(A.by w9, us)]).length = t.length + 1 := by rw [List.length_append]; rfl
    have hf' : A.fm (A.at (A.by w9)).dec = 3 := by rw [c5]; exact hf
    have hed : (A.at (A.by w9)).ed = A.ed (A.at (A.by w9)).dec := by rw [c5]; exact c7 hf
    by_cases hl : t.length < m
    · refine LW_turn h.hG h.hP (by omega) (by omega) h.wk (Nat.zero_le _) (Nat.zero_le _) (dn_call0 h (by omega) hx (s' := A.by w9) hi' hA hO c3 hdn hdc hff hf' hed hv3 hu3 (by omega) (by omega) hl (fun I3 J3 h3 => LQ_of h3.hG h3.hP ?_))
      exact k1 _ _ _ S I3 J3 P _ b m (τ + 1) ef (by unfold finm; rw [if_pos hf, if_pos hl]) h3 e2 e1 (Nat.le_refl _) hs4 (by omega) (by omega) (by omega)
    · have em : finm A (rmC A (20 - dp)) w9 us s t m = 2 * m := by unfold finm; rw [if_pos hf, if_neg hl]
      have hm2 := h.tc.m'
      refine LW_turn (kc' := 5) (ks' := 18 * m) h.hG h.hP (by omega) (by omega) h.wk (by omega) (by omega) (dn_call1 h (by omega) hx (s' := A.by w9) hi' hA hO c3 hdn hdc hff hf' hed hv3 hu3 (by omega) (by omega) (by omega) (fun S3 I3 J3 P3 h3 => LQ_of h3.hG h3.hP ?_))
      exact pw_more (kc' := kx - 2 * m) (ks' := 18 * (kx - 2 * m)) (by omega) (by omega) (k1 _ _ _ S3 I3 J3 P3 _ S.1 (2 * m) (τ + 1) ef em.symm h3 e2 e1 (Nat.le_refl _) hs4 (by omega) (by omega) (by omega))
  · have hf2 : A.fm w9 = 2 ∧ dp < 20 := by omega
    have ef : fin A (evC A (20 - dp)) w9 us s t = evT A (evC A (20 - (dp + 1))) (dp + 1) us (A.at (A.by w9)).tr s t := by unfold fin; rw [if_neg hf, evC_step hf2.2]
    have em : finm A (rmC A (20 - dp)) w9 us s t m = rmX A (dp + 1) us (A.at (A.by w9)).tr s t m := by unfold finm; rw [if_neg hf, rmC_step hf2.2]
    have hf' : A.fm (A.at (A.by w9)).dec = 2 := by rw [c5]; exact hf2.1
    have hsn := hO.2.2.2.2.1 (A.by w9) c3
    have hfo : (A.at (A.by w9)).form = 2 := by rw [c4]; exact hf2.1
    have hwt := hsn.2.2.2.2.1 hfo
    refine LW_turn h.hG h.hP (by omega) (by omega) h.wk (Nat.zero_le _) (Nat.zero_le _) (dn_callM h (by omega) hx (s' := A.by w9) hi' hA hO c3 hdn hdc hff hf' (by omega) (fun I3 P3 h3 => LQ_of h3.hG h3.hP ?_))
    refine hC hf2.2 (A.at (A.by w9)).tr (A.at (A.by w9)).pa us S I3 J P3 (Z (A.by w9) + 3) _ 0 rv.length (rv ++ us) (fr ++ [(c, i + 1, bs)]) s t b m (τ + 1) (K + 1) [] [(13, 0, 0)] ⟨h3, by rw [List.length_append, hfr]; rfl, ⟨c6.symm, fun j v hj => ap_at hj, hus⟩, hT, hth, hs4, hrs, by omega, by omega, by omega⟩ (kX_sn hA c3 hfo) rfl hwt (by rw [em] at hmx; exact hmx) (fun v5 s5 t5 S5 I5 J5 P5 w5 b5 m5 τ5 i5 hi5 hev5 hm5 hp5 hvo5 hss5 htt5 => ?_) (fun e9 S9 I9 J9 P9 b8 m9 τ9 hev9 hm9 h9 hτ9 => k0 e9 S9 I9 J9 P9 b8 m9 τ9 (by rw [ef]; exact hev9) (by rw [em]; exact hm9) h9 hτ9)
    obtain ⟨h5, hfr5, ⟨har5, hav5, hao5⟩, hT5, hth5, hs45, hrs5, htl5, hτ5, hK5⟩ := id hp5
    refine LW_turn h5.hG h5.hP (by omega) (by omega) h5.wk (Nat.zero_le _) (Nat.zero_le _) (dn_ret h5 (by omega) (kX_sn hA c3 hfo) (at_pre (pre := cp (hN A.ns) (A.at (A.by w9)).tr) (q := []) rfl (by omega)) (by omega) (fun I6 J6 P6 h6 => LQ_of h6.hG h6.hP ?_))
    exact k1 v5 s5 t5 S5 I6 J6 P6 _ b5 m5 (τ5 + 1) (by rw [ef]; exact hev5) (by rw [em]; exact hm5) h6 hT5 hvo5 (by omega) hs45 htt5.1 (by omega) (by omega)
set_option maxRecDepth 20000 in
set_option maxHeartbeats 4000000 in
theorem c_T6 {l : Launch} {E : pmE} {d : Nat} {Q : Option Value → pmS → pmI → pmJ → pmP → Prop} {c0 : Nat} {mk : Int32} {S0 : pmS} {I0 : pmI} {J0 : pmJ} {P0 : pmP} {b0 : Nat} {A : aS} {Z : Nat → Nat} {kx dp : Nat} {q q2 : Nat × Int64} {u u2 : Unit} {k2 : Nat} {a b9 c9 : eX} (hA : cA S0 I0 J0 P0 A Z b0) (hO : aO A) (hd : 9 ≤ d) (hC : dp < 20 → ∀ T, cT l E d Q c0 mk S0 I0 J0 P0 b0 A kx (dp + 1) T) (ha : cT l E d Q c0 mk S0 I0 J0 P0 b0 A kx dp a) (hb : cT l E d Q c0 mk S0 I0 J0 P0 b0 A kx dp b9) (hc : cT l E d Q c0 mk S0 I0 J0 P0 b0 A kx dp c9) : cT l E d Q c0 mk S0 I0 J0 P0 b0 A kx dp (.inner 6 q u a (.inner k2 q2 u2 b9 c9)) := by
  intro pa ar S I J P c w i bs rv fr s t b m τ K pre post hp hx hi hw hmx k1 k0
  obtain ⟨h, hfr, ⟨har, hav, hao⟩, hT, hth, hs4, hrs, htl, hτ, hK⟩ := id hp
  obtain ⟨hqn, hq3, hwa, hwb, hwc⟩ : q.2 ∈ A.ns ∧ q.1 ≤ 3 ∧ ((q.1 < 1 ∧ a = .leaf) ∨ (1 ≤ q.1 ∧ wt pa (· ∈ A.ns) a)) ∧ ((q.1 < 2 ∧ b9 = .leaf) ∨ (2 ≤ q.1 ∧ wt pa (· ∈ A.ns) b9)) ∧ ((q.1 < 3 ∧ c9 = .leaf) ∨ (3 ≤ q.1 ∧ wt pa (· ∈ A.ns) c9)) := by
    rcases hw with ⟨e, h2⟩ | ⟨e, _⟩ | ⟨e, _⟩
    · exact h2
    · exact absurd e (by decide)
    · exact absurd e (by decide)
  rw [cp6] at hx k1
  refine LW_turn h.hG h.hP (by omega) (by omega) h.wk (Nat.zero_le _) (Nat.zero_le _) (dn_open h (by omega) hx (g := q.1) (v := q.2) (at_pre rfl hi) hs4 hrs hA hO hqn hq3 (fun hlt hck I1 h1 => LQ_of h1.hG h1.hP ?_) (fun hlt hck I1 h1 => LQ_of h1.1.1 h1.1.2.1 (k0 _ S I1 J P b m (τ + 1) (by rw [hfr] at hck ⊢; rw [ev6 hlt, if_neg hck]) (by rw [hfr] at hck; rw [rm6 hlt, if_neg hck]) h1 (by omega))) (fun hge I1 h1 => LQ_of h1.1.1 h1.1.2.1 (k0 8 S I1 J P b m (τ + 1) (ev6_8 hge) (rm6_8 hge).symm h1 (by omega))))
  rw [hfr] at hck
  rcases (show q.1 = 0 ∨ q.1 = 1 ∨ q.1 = 2 ∨ q.1 = 3 by omega) with hg | hg | hg | hg
  · have ha9 : a = .leaf := by rcases hwa with e | e; exact e.2; exact absurd e.1 (by omega)
    subst ha9
    have hb9 : b9 = .leaf := by rcases hwb with e | e; exact e.2; exact absurd e.1 (by omega)
    subst hb9
    have hc9 : c9 = .leaf := by rcases hwc with e | e; exact e.2; exact absurd e.1 (by omega)
    subst hc9
    rw [show cp (hN A.ns) .leaf = [] from rfl] at hx k1
    have eE : evT A (evC A (20 - dp)) dp ar (.inner 6 q u .leaf (.inner k2 q2 u2 .leaf .leaf)) s t = fin A (evC A (20 - dp)) q.2 [] (s + 1) t := by rw [ev6 hlt, if_pos hck, if_pos hg]
    refine c_fin hA hO hd hC (g := q.1) (us := []) (rv := rv) (K := K - 2) (by rw [List.append_nil]; exact h1) hfr (by simp only [List.length_append, List.length_cons, List.length_nil] at * <;> omega) hck hx (at_pre (pre := (pre ++ [(6, nI q.1, hN A.ns q.2)])) (q := post) (by simp only [List.append_assoc, List.cons_append, List.nil_append]) (by simp only [List.length_append, List.length_cons, List.length_nil] at * <;> omega)) hqn (by show _ ≤ 3; simp only [List.length_append, List.length_cons, List.length_nil]; omega) (fun v hv => nomatch hv) hT hth (by omega) (by simp only [List.length_append, List.length_cons, List.length_nil] at *; omega) (by omega) (by omega) (by omega) (by omega) (by rw [rm6_0 hlt hck hg] at hmx; exact hmx) (fun v5 s5 t5 S5 I5 J5 P5 w5 b5 m5 τ5 hev5 hm5 h5 hT5 hvo5 hs5 hs45 ht5 ht5' hτ5 => ?_) (fun e9 S9 I9 J9 P9 b8 m9 τ9 hev9 hm9 h9 hτ9 => k0 e9 S9 I9 J9 P9 b8 m9 τ9 (eE.trans hev9) (by rw [rm6_0 hlt hck hg]; exact hm9) h9 hτ9)
    exact k1 v5 s5 t5 S5 I5 J5 P5 w5 b5 m5 τ5 ((i + 1) + 1) (by simp only [List.length_append, List.length_cons, List.length_nil] at * <;> omega) (eE.trans hev5) (by rw [rm6_0 hlt hck hg]; exact hm5) ⟨h5, hfr, ⟨har, hav_l hav, fun v hv => (hao v hv).up (by omega)⟩, hT5, by omega, hs45, by simp only [List.length_append, List.length_cons, List.length_nil] at *; omega, by omega, by omega, hK⟩ hvo5 (by omega) ⟨by omega, by omega⟩
  · have hwa : wt pa (· ∈ A.ns) a := by rcases hwa with e | e; exact absurd e.1 (by omega); exact e.2
    have hb9 : b9 = .leaf := by rcases hwb with e | e; exact e.2; exact absurd e.1 (by omega)
    subst hb9
    have hc9 : c9 = .leaf := by rcases hwc with e | e; exact e.2; exact absurd e.1 (by omega)
    subst hc9
    rw [show cp (hN A.ns) .leaf = [] from rfl] at hx k1
    have eE : evT A (evC A (20 - dp)) dp ar (.inner 6 q u a (.inner k2 q2 u2 .leaf .leaf)) s t = ebd (evT A (evC A (20 - dp)) dp ar a (s + 1) t) fun v1 s1 t1 => if q.1 = 1 then fin A (evC A (20 - dp)) q.2 [v1] s1 t1 else ebd (evT A (evC A (20 - dp)) dp ar .leaf s1 t1) fun v2 s2 t2 => if q.1 = 2 then fin A (evC A (20 - dp)) q.2 [v1, v2] s2 t2 else ebd (evT A (evC A (20 - dp)) dp ar .leaf s2 t2) fun v3 s3 t3 => fin A (evC A (20 - dp)) q.2 [v1, v2, v3] s3 t3 := by rw [ev6 hlt, if_pos hck, if_neg (by omega)]
    refine ha pa ar S I1 J P c (nI i) (i + 1) bs rv fr (s + 1) t b m (τ + 1) (K - 2) (pre ++ [(6, nI q.1, hN A.ns q.2)]) ((8, nI q.1, hN A.ns q.2) :: post) ⟨h1, hfr, ⟨har, hav, hao⟩, hT, hth, by omega, by omega, by omega, by omega, by omega⟩ (hx.cg (by simp only [List.append_assoc, List.cons_append, List.nil_append])) (by rw [List.length_append, hi]; rfl) hwa (Nat.le_trans (rm6_a (rmC_ge _) hlt hck (by omega)) hmx) (fun v2 s2 t2 S2 I2 J2 P2 w2 b2 m2 τ2 i2 hi2 hev2 hm2 hp2 hvo2 hss2 htt2 => ?_) (fun e9 S9 I9 J9 P9 b8 m9 τ9 hev9 hm9 h9 hτ9 => k0 e9 S9 I9 J9 P9 b8 m9 τ9 (by rw [eE]; exact ebd_er hev9) (by rw [rm6_ea hlt hck (by omega) hev9]; exact hm9) h9 hτ9)
    obtain ⟨h2, hfr2, ⟨har2, hav2, hao2⟩, hT2, hth2, hs42, hrs2, htl2, hτ2, hK2⟩ := id hp2
    have eF : evT A (evC A (20 - dp)) dp ar (.inner 6 q u a (.inner k2 q2 u2 .leaf .leaf)) s t = fin A (evC A (20 - dp)) q.2 [v2] s2 t2 := by rw [eE, ebd_ok hev2, if_pos hg]
    refine c_fin hA hO hd hC (g := q.1) (us := [v2]) (rv := rv) (K := K - 2) (h2) hfr (by simp only [List.length_append, List.length_cons, List.length_nil] at * <;> omega) hck hx (at_pre (pre := (pre ++ (6, nI q.1, hN A.ns q.2) :: cp (hN A.ns) a)) (q := post) (by simp only [List.append_assoc, List.cons_append, List.nil_append]) (by simp only [List.length_append, List.length_cons, List.length_nil] at * <;> omega)) hqn (by show _ ≤ 3; simp only [List.length_append, List.length_cons, List.length_nil]; omega) (fun v hv => by rw [List.mem_singleton.mp hv]; exact hvo2) hT2 hth2 (by omega) (by simp only [List.length_append, List.length_cons, List.length_nil] at *; omega) (by omega) (by omega) (by omega) (by omega) (by rw [rm6_1 hlt hck hg hev2, ← hm2] at hmx; exact hmx) (fun v5 s5 t5 S5 I5 J5 P5 w5 b5 m5 τ5 hev5 hm5 h5 hT5 hvo5 hs5 hs45 ht5 ht5' hτ5 => ?_) (fun e9 S9 I9 J9 P9 b8 m9 τ9 hev9 hm9 h9 hτ9 => k0 e9 S9 I9 J9 P9 b8 m9 τ9 (eF.trans hev9) (by rw [rm6_1 hlt hck hg hev2, ← hm2]; exact hm9) h9 hτ9)
    exact k1 v5 s5 t5 S5 I5 J5 P5 w5 b5 m5 τ5 (i2 + 1) (by simp only [List.length_append, List.length_cons, List.length_nil] at * <;> omega) (eF.trans hev5) (by rw [rm6_1 hlt hck hg hev2, ← hm2]; exact hm5) ⟨h5, hfr, ⟨har, hav_l hav, fun v hv => (hao v hv).up (by omega)⟩, hT5, by omega, hs45, by simp only [List.length_append, List.length_cons, List.length_nil] at *; omega, by omega, by omega, hK⟩ hvo5 (by omega) ⟨by omega, by omega⟩
  · have hwa : wt pa (· ∈ A.ns) a := by rcases hwa with e | e; exact absurd e.1 (by omega); exact e.2
    have hwb : wt pa (· ∈ A.ns) b9 := by rcases hwb with e | e; exact absurd e.1 (by omega); exact e.2
    have hc9 : c9 = .leaf := by rcases hwc with e | e; exact e.2; exact absurd e.1 (by omega)
    subst hc9
    rw [show cp (hN A.ns) .leaf = [] from rfl] at hx k1
    have eE : evT A (evC A (20 - dp)) dp ar (.inner 6 q u a (.inner k2 q2 u2 b9 .leaf)) s t = ebd (evT A (evC A (20 - dp)) dp ar a (s + 1) t) fun v1 s1 t1 => if q.1 = 1 then fin A (evC A (20 - dp)) q.2 [v1] s1 t1 else ebd (evT A (evC A (20 - dp)) dp ar b9 s1 t1) fun v2 s2 t2 => if q.1 = 2 then fin A (evC A (20 - dp)) q.2 [v1, v2] s2 t2 else ebd (evT A (evC A (20 - dp)) dp ar .leaf s2 t2) fun v3 s3 t3 => fin A (evC A (20 - dp)) q.2 [v1, v2, v3] s3 t3 := by rw [ev6 hlt, if_pos hck, if_neg (by omega)]
    refine ha pa ar S I1 J P c (nI i) (i + 1) bs rv fr (s + 1) t b m (τ + 1) (K - 2) (pre ++ [(6, nI q.1, hN A.ns q.2)]) (cp (hN A.ns) b9 ++ ((8, nI q.1, hN A.ns q.2) :: post)) ⟨h1, hfr, ⟨har, hav, hao⟩, hT, hth, by omega, by omega, by omega, by omega, by omega⟩ (hx.cg (by simp only [List.append_assoc, List.cons_append, List.nil_append])) (by rw [List.length_append, hi]; rfl) hwa (Nat.le_trans (rm6_a (rmC_ge _) hlt hck (by omega)) hmx) (fun v2 s2 t2 S2 I2 J2 P2 w2 b2 m2 τ2 i2 hi2 hev2 hm2 hp2 hvo2 hss2 htt2 => ?_) (fun e9 S9 I9 J9 P9 b8 m9 τ9 hev9 hm9 h9 hτ9 => k0 e9 S9 I9 J9 P9 b8 m9 τ9 (by rw [eE]; exact ebd_er hev9) (by rw [rm6_ea hlt hck (by omega) hev9]; exact hm9) h9 hτ9)
    obtain ⟨h2, hfr2, ⟨har2, hav2, hao2⟩, hT2, hth2, hs42, hrs2, htl2, hτ2, hK2⟩ := id hp2
    refine hb pa ar S2 I2 J2 P2 c w2 i2 bs (rv ++ [v2]) fr s2 t2 b2 m2 τ2 (K - 2) (pre ++ (6, nI q.1, hN A.ns q.2) :: cp (hN A.ns) a) ((8, nI q.1, hN A.ns q.2) :: post) hp2 (hx.cg (by simp only [List.append_assoc, List.cons_append, List.nil_append])) (by simp only [List.length_append, List.length_cons, List.length_nil] at * <;> omega) hwb (by rw [hm2]; exact Nat.le_trans (rm6_b (rmC_ge _) hlt hck (by omega) hev2) hmx) (fun v3 s3 t3 S3 I3 J3 P3 w3 b3 m3 τ3 i3 hi3 hev3 hm3 hp3 hvo3 hss3 htt3 => ?_) (fun e9 S9 I9 J9 P9 b8 m9 τ9 hev9 hm9 h9 hτ9 => k0 e9 S9 I9 J9 P9 b8 m9 τ9 (by rw [eE, ebd_ok hev2, if_neg (by omega)]; exact ebd_er hev9) (by rw [rm6_eb hlt hck (by omega) hev2 hev9, ← hm2]; exact hm9) h9 hτ9)
    obtain ⟨h3, hfr3, ⟨har3, hav3, hao3⟩, hT3, hth3, hs43, hrs3, htl3, hτ3, hK3⟩ := id hp3
    have eF : evT A (evC A (20 - dp)) dp ar (.inner 6 q u a (.inner k2 q2 u2 b9 .leaf)) s t = fin A (evC A (20 - dp)) q.2 [v2, v3] s3 t3 := by rw [eE, ebd_ok hev2, if_neg (by omega), ebd_ok hev3, if_pos hg]
    refine c_fin hA hO hd hC (g := q.1) (us := [v2, v3]) (rv := rv) (K := K - 2) (by rw [List.append_assoc] at h3; exact h3) hfr (by simp only [List.length_append, List.length_cons, List.length_nil] at * <;> omega) hck hx (at_pre (pre := (pre ++ (6, nI q.1, hN A.ns q.2) :: (cp (hN A.ns) a ++ cp (hN A.ns) b9))) (q := post) (by simp only [List.append_assoc, List.cons_append, List.nil_append]) (by simp only [List.length_append, List.length_cons, List.length_nil] at * <;> omega)) hqn (by show _ ≤ 3; simp only [List.length_append, List.length_cons, List.length_nil]; omega) (fun v hv => by rcases List.mem_cons.mp hv with rfl | hv; exact hvo2.up (by omega); rw [List.mem_singleton.mp hv]; exact hvo3) hT3 hth3 (by omega) (by simp only [List.length_append, List.length_cons, List.length_nil] at *; omega) (by omega) (by omega) (by omega) (by omega) (by rw [rm6_2 hlt hck hg hev2 hev3, ← hm2, ← hm3] at hmx; exact hmx) (fun v5 s5 t5 S5 I5 J5 P5 w5 b5 m5 τ5 hev5 hm5 h5 hT5 hvo5 hs5 hs45 ht5 ht5' hτ5 => ?_) (fun e9 S9 I9 J9 P9 b8 m9 τ9 hev9 hm9 h9 hτ9 => k0 e9 S9 I9 J9 P9 b8 m9 τ9 (eF.trans hev9) (by rw [rm6_2 hlt hck hg hev2 hev3, ← hm2, ← hm3]; exact hm9) h9 hτ9)
    exact k1 v5 s5 t5 S5 I5 J5 P5 w5 b5 m5 τ5 (i3 + 1) (by simp only [List.length_append, List.length_cons, List.length_nil] at * <;> omega) (eF.trans hev5) (by rw [rm6_2 hlt hck hg hev2 hev3, ← hm2, ← hm3]; exact hm5) ⟨h5, hfr, ⟨har, hav_l hav, fun v hv => (hao v hv).up (by omega)⟩, hT5, by omega, hs45, by simp only [List.length_append, List.length_cons, List.length_nil] at *; omega, by omega, by omega, hK⟩ hvo5 (by omega) ⟨by omega, by omega⟩
  · have hwa : wt pa (· ∈ A.ns) a := by rcases hwa with e | e; exact absurd e.1 (by omega); exact e.2
    have hwb : wt pa (· ∈ A.ns) b9 := by rcases hwb with e | e; exact absurd e.1 (by omega); exact e.2
    have hwc : wt pa (· ∈ A.ns) c9 := by rcases hwc with e | e; exact absurd e.1 (by omega); exact e.2
    have eE : evT A (evC A (20 - dp)) dp ar (.inner 6 q u a (.inner k2 q2 u2 b9 c9)) s t = ebd (evT A (evC A (20 - dp)) dp ar a (s + 1) t) fun v1 s1 t1 => if q.1 = 1 then fin A (evC A (20 - dp)) q.2 [v1] s1 t1 else ebd (evT A (evC A (20 - dp)) dp ar b9 s1 t1) fun v2 s2 t2 => if q.1 = 2 then fin A (evC A (20 - dp)) q.2 [v1, v2] s2 t2 else ebd (evT A (evC A (20 - dp)) dp ar c9 s2 t2) fun v3 s3 t3 => fin A (evC A (20 - dp)) q.2 [v1, v2, v3] s3 t3 := by rw [ev6 hlt, if_pos hck, if_neg (by omega)]
    refine ha pa ar S I1 J P c (nI i) (i + 1) bs rv fr (s + 1) t b m (τ + 1) (K - 2) (pre ++ [(6, nI q.1, hN A.ns q.2)]) (cp (hN A.ns) b9 ++ (cp (hN A.ns) c9 ++ ((8, nI q.1, hN A.ns q.2) :: post))) ⟨h1, hfr, ⟨har, hav, hao⟩, hT, hth, by omega, by omega, by omega, by omega, by omega⟩ (hx.cg (by simp only [List.append_assoc, List.cons_append, List.nil_append])) (by rw [List.length_append, hi]; rfl) hwa (Nat.le_trans (rm6_a (rmC_ge _) hlt hck (by omega)) hmx) (fun v2 s2 t2 S2 I2 J2 P2 w2 b2 m2 τ2 i2 hi2 hev2 hm2 hp2 hvo2 hss2 htt2 => ?_) (fun e9 S9 I9 J9 P9 b8 m9 τ9 hev9 hm9 h9 hτ9 => k0 e9 S9 I9 J9 P9 b8 m9 τ9 (by rw [eE]; exact ebd_er hev9) (by rw [rm6_ea hlt hck (by omega) hev9]; exact hm9) h9 hτ9)
    obtain ⟨h2, hfr2, ⟨har2, hav2, hao2⟩, hT2, hth2, hs42, hrs2, htl2, hτ2, hK2⟩ := id hp2
    refine hb pa ar S2 I2 J2 P2 c w2 i2 bs (rv ++ [v2]) fr s2 t2 b2 m2 τ2 (K - 2) (pre ++ (6, nI q.1, hN A.ns q.2) :: cp (hN A.ns) a) (cp (hN A.ns) c9 ++ ((8, nI q.1, hN A.ns q.2) :: post)) hp2 (hx.cg (by simp only [List.append_assoc, List.cons_append, List.nil_append])) (by simp only [List.length_append, List.length_cons, List.length_nil] at * <;> omega) hwb (by rw [hm2]; exact Nat.le_trans (rm6_b (rmC_ge _) hlt hck (by omega) hev2) hmx) (fun v3 s3 t3 S3 I3 J3 P3 w3 b3 m3 τ3 i3 hi3 hev3 hm3 hp3 hvo3 hss3 htt3 => ?_) (fun e9 S9 I9 J9 P9 b8 m9 τ9 hev9 hm9 h9 hτ9 => k0 e9 S9 I9 J9 P9 b8 m9 τ9 (by rw [eE, ebd_ok hev2, if_neg (by omega)]; exact ebd_er hev9) (by rw [rm6_eb hlt hck (by omega) hev2 hev9, ← hm2]; exact hm9) h9 hτ9)
    obtain ⟨h3, hfr3, ⟨har3, hav3, hao3⟩, hT3, hth3, hs43, hrs3, htl3, hτ3, hK3⟩ := id hp3
    refine hc pa ar S3 I3 J3 P3 c w3 i3 bs ((rv ++ [v2]) ++ [v3]) fr s3 t3 b3 m3 τ3 (K - 2) (pre ++ (6, nI q.1, hN A.ns q.2) :: (cp (hN A.ns) a ++ cp (hN A.ns) b9)) ((8, nI q.1, hN A.ns q.2) :: post) hp3 (hx.cg (by simp only [List.append_assoc, List.cons_append, List.nil_append])) (by simp only [List.length_append, List.length_cons, List.length_nil] at * <;> omega) hwc (by rw [hm3, hm2]; exact Nat.le_trans (rm6_c (rmC_ge _) hlt hck (by omega) hev2 hev3) hmx) (fun v4 s4 t4 S4 I4 J4 P4 w4 b4 m4 τ4 i4 hi4 hev4 hm4 hp4 hvo4 hss4 htt4 => ?_) (fun e9 S9 I9 J9 P9 b8 m9 τ9 hev9 hm9 h9 hτ9 => k0 e9 S9 I9 J9 P9 b8 m9 τ9 (by rw [eE, ebd_ok hev2, if_neg (by omega), ebd_ok hev3, if_neg (by omega)]; exact ebd_er hev9) (by rw [rm6_ec hlt hck (by omega) hev2 hev3 hev9, ← hm2, ← hm3]; exact hm9) h9 hτ9)
    obtain ⟨h4, hfr4, ⟨har4, hav4, hao4⟩, hT4, hth4, hs44, hrs4, htl4, hτ4, hK4⟩ := id hp4
    have eF : evT A (evC A (20 - dp)) dp ar (.inner 6 q u a (.inner k2 q2 u2 b9 c9)) s t = fin A (evC A (20 - dp)) q.2 [v2, v3, v4] s4 t4 := by rw [eE, ebd_ok hev2, if_neg (by omega), ebd_ok hev3, if_neg (by omega), ebd_ok hev4]
    refine c_fin hA hO hd hC (g := q.1) (us := [v2, v3, v4]) (rv := rv) (K := K - 2) (by rw [List.append_assoc, List.append_assoc] at h4; exact h4) hfr (by simp only [List.length_append, List.length_cons, List.length_nil] at * <;> omega) hck hx (at_pre (pre := (pre ++ (6, nI q.1, hN A.ns q.2) :: (cp (hN A.ns) a ++ (cp (hN A.ns) b9 ++ cp (hN A.ns) c9)))) (q := post) (by simp only [List.append_assoc, List.cons_append, List.nil_append]) (by simp only [List.length_append, List.length_cons, List.length_nil] at * <;> omega)) hqn (by show _ ≤ 3; simp only [List.length_append, List.length_cons, List.length_nil]; omega) (fun v hv => by rcases List.mem_cons.mp hv with rfl | hv; exact hvo2.up (by omega); rcases List.mem_cons.mp hv with rfl | hv; exact hvo3.up (by omega); rw [List.mem_singleton.mp hv]; exact hvo4) hT4 hth4 (by omega) (by simp only [List.length_append, List.length_cons, List.length_nil] at *; omega) (by omega) (by omega) (by omega) (by omega) (by rw [rm6_3 hlt hck (by omega) hev2 hev3 hev4, ← hm2, ← hm3, ← hm4] at hmx; exact hmx) (fun v5 s5 t5 S5 I5 J5 P5 w5 b5 m5 τ5 hev5 hm5 h5 hT5 hvo5 hs5 hs45 ht5 ht5' hτ5 => ?_) (fun e9 S9 I9 J9 P9 b8 m9 τ9 hev9 hm9 h9 hτ9 => k0 e9 S9 I9 J9 P9 b8 m9 τ9 (eF.trans hev9) (by rw [rm6_3 hlt hck (by omega) hev2 hev3 hev4, ← hm2, ← hm3, ← hm4]; exact hm9) h9 hτ9)
    exact k1 v5 s5 t5 S5 I5 J5 P5 w5 b5 m5 τ5 (i4 + 1) (by simp only [List.length_append, List.length_cons, List.length_nil] at * <;> omega) (eF.trans hev5) (by rw [rm6_3 hlt hck (by omega) hev2 hev3 hev4, ← hm2, ← hm3, ← hm4]; exact hm5) ⟨h5, hfr, ⟨har, hav_l hav, fun v hv => (hao v hv).up (by omega)⟩, hT5, by omega, hs45, by simp only [List.length_append, List.length_cons, List.length_nil] at *; omega, by omega, by omega, hK⟩ hvo5 (by omega) ⟨by omega, by omega⟩
theorem c_Tleaf {l : Launch} {E : pmE} {d : Nat} {Q : Option Value → pmS → pmI → pmJ → pmP → Prop} {c0 : Nat} {mk : Int32} {S0 : pmS} {I0 : pmI} {J0 : pmJ} {P0 : pmP} {b0 : Nat} {A : aS} {Z : Nat → Nat} {kx dp : Nat} : cT l E d Q c0 mk S0 I0 J0 P0 b0 A kx dp .leaf := fun pa ar S I J P c w i bs rv fr s t b m τ K pre post hp hx hi hw hmx k1 k0 => hw.elim
theorem c_Tall {l : Launch} {E : pmE} {d : Nat} {Q : Option Value → pmS → pmI → pmJ → pmP → Prop} {c0 : Nat} {mk : Int32} {S0 : pmS} {I0 : pmI} {J0 : pmJ} {P0 : pmP} {b0 : Nat} {A : aS} {Z : Nat → Nat} {kx dp : Nat} (hA : cA S0 I0 J0 P0 A Z b0) (hO : aO A) (hd : 9 ≤ d) (hC : dp < 20 → ∀ T, cT l E d Q c0 mk S0 I0 J0 P0 b0 A kx (dp + 1) T) : ∀ T, cT l E d Q c0 mk S0 I0 J0 P0 b0 A kx dp T
  | .leaf => c_Tleaf (Z := Z)
  | .inner k q u a .leaf => by
    have ha := c_Tall hA hO hd hC a
    intro pa ar S I J P c w i bs rv fr s t b m τ K pre post hp hx hi hw hmx k1 k0
    rcases id hw with rfl | rfl | ⟨rfl, _⟩ | ⟨rfl, _⟩ | ⟨rfl, _⟩ | ⟨rfl, _⟩
    · exact c_T2 (b9 := .leaf) (c9 := .leaf) (q2 := q) (u2 := u) (k2 := 0) hA hO hd pa ar S I J P c w i bs rv fr s t b m τ K pre post hp hx hi hw hmx k1 k0
    · exact c_T3 (b9 := .leaf) (c9 := .leaf) (q2 := q) (u2 := u) (k2 := 0) hA hO hd pa ar S I J P c w i bs rv fr s t b m τ K pre post hp hx hi hw hmx k1 k0
    · exact c_T4 (b9 := .leaf) (c9 := .leaf) (q2 := q) (u2 := u) (k2 := 0) hA hO hd pa ar S I J P c w i bs rv fr s t b m τ K pre post hp hx hi hw hmx k1 k0
    · exact c_T5 (b9 := .leaf) (c9 := .leaf) (q2 := q) (u2 := u) (k2 := 0) hA hO hd pa ar S I J P c w i bs rv fr s t b m τ K pre post hp hx hi hw hmx k1 k0
    · exact c_T7 (b9 := .leaf) (c9 := .leaf) (q2 := q) (u2 := u) (k2 := 0) hA hO hd ha pa ar S I J P c w i bs rv fr s t b m τ K pre post hp hx hi hw hmx k1 k0
    · exact c_T8 (b9 := .leaf) (c9 := .leaf) (q2 := q) (u2 := u) (k2 := 0) hA hO hd ha pa ar S I J P c w i bs rv fr s t b m τ K pre post hp hx hi hw hmx k1 k0
  | .inner k q u a (.inner k2 q2 u2 b9 c9) => by
    have ha := c_Tall hA hO hd hC a
    have hb := c_Tall hA hO hd hC b9
    have hc := c_Tall hA hO hd hC c9
    intro pa ar S I J P c w i bs rv fr s t b m τ K pre post hp hx hi hw hmx k1 k0
    rcases id hw with ⟨rfl, _⟩ | ⟨rfl, _⟩ | ⟨rfl, _⟩
    · exact c_T6 hA hO hd hC ha hb hc pa ar S I J P c w i bs rv fr s t b m τ K pre post hp hx hi hw hmx k1 k0
    · exact c_T9 hA hO hd ha hb pa ar S I J P c w i bs rv fr s t b m τ K pre post hp hx hi hw hmx k1 k0
    · exact c_T10 hA hO hd ha hb hc pa ar S I J P c w i bs rv fr s t b m τ K pre post hp hx hi hw hmx k1 k0
/-- the Machine works every EXPR out as the spec says -/
theorem c_Tev {l : Launch} {E : pmE} {d : Nat} {Q : Option Value → pmS → pmI → pmJ → pmP → Prop} {c0 : Nat} {mk : Int32} {S0 : pmS} {I0 : pmI} {J0 : pmJ} {P0 : pmP} {b0 : Nat} {A : aS} {Z : Nat → Nat} {kx : Nat} (hA : cA S0 I0 J0 P0 A Z b0) (hO : aO A) (hd : 9 ≤ d) : ∀ n dp, dp + n = 20 → ∀ T, cT l E d Q c0 mk S0 I0 J0 P0 b0 A kx dp T
  | 0, dp, h => c_Tall hA hO hd (fun h2 => absurd h2 (by omega))
  | n + 1, dp, h => c_Tall hA hO hd (fun _ => c_Tev hA hO hd n (dp + 1) (by omega))
