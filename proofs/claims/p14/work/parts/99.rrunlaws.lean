theorem rT.eq {I I' : pmI} {J J' : pmJ} {t : List tH} (h : rT I J t) (e0 : I' 47 30 = I 47 30) (e1 : I' 73 = I 73) (e2 : I' 74 = I 74) (e3 : J' 75 = J 75) : rT I' J' t := by
  unfold rT
  rw [e0, e1, e2, e3]
  exact h
/-- cells of the class, and of the law, are as they were -/
def oR (I : pmI) (J : pmJ) (I' : pmI) (J' : pmJ) : Prop := ∀ a, a < 47 ∨ 94 < a → I' a = I a ∧ J' a = J a
theorem oR.refl {I : pmI} {J : pmJ} : oR I J I J := fun _ _ => ⟨rfl, rfl⟩
theorem oR.trans {I I1 I2 : pmI} {J J1 J2 : pmJ} (h : oR I J I1 J1) (g : oR I1 J1 I2 J2) : oR I J I2 J2 := fun a ha => ⟨(g a ha).1.trans (h a ha).1, (g a ha).2.trans (h a ha).2⟩
theorem oR.u {I : pmI} {J : pmJ} {a k : Nat} {x : Int32} (ha : 47 ≤ a ∧ a ≤ 94) : oR I J (pm_u I a k x) J := fun b hb => ⟨pm_u_ne (by omega), rfl⟩
theorem frd.oR {kp : Nat} {I I' : pmI} {J J' : pmJ} (h : frd kp I I' J J') : oR I J I' J' := fun a ha => ⟨h.1 a (by omega) (by omega) (by omega) (by omega) (by omega) (by omega) (by omega) (by omega) (by omega), h.2.2.2.2.1 a (by omega) (by omega)⟩
theorem rF.oR {I I' : pmI} {J J' : pmJ} (h : rF I J I' J') : oR I J I' J' := fun a ha => h.1 a (by omega) (by omega) (by omega)
theorem kR.oR {I I' : pmI} {J J' : pmJ} (h : kR I J I' J') : oR I J I' J' := fun a ha => h.1 a (by omega) (by omega) (by omega) (by omega) (by omega) (by omega) (by omega)
theorem rA.frd {I I' : pmI} {J J' : pmJ} {A : aS} (h : rA I J A) (hO : aO A) (hF : frd A.sn.length I I' J J') : rA I' J' A := by
  obtain ⟨f1, f2, f3, f4, f5, f6⟩ := hF
  have e : ∀ a, (49 ≤ a ∧ a ≤ 54) ∨ a = 56 ∨ a = 58 ∨ a = 59 ∨ a = 61 ∨ a = 62 ∨ a = 71 → I' a = I a := fun a ha => f1 a (by omega) (by omega) (by omega) (by omega) (by omega) (by omega) (by omega) (by omega) (by omega)
  refine ⟨by rw [f2 3 (by decide) (by decide)]; exact h.n, fun j v hj => ?_, by rw [f2 27 (by decide) (by decide)]; exact h.r, fun j v hj => ?_, by rw [f2 10 (by decide) (by decide)]; exact h.k, fun s hs => ?_⟩
  · rw [f5 49 (by decide) (by decide), e 50 (by decide), e 51 (by decide), e 52 (by decide), e 53 (by decide), f5 54 (by decide) (by decide)]
    exact h.2.1 j v hj
  · rw [e 71 (by decide), f5 72 (by decide) (by decide)]
    exact h.rs j v hj
  · refine (h.sn hs).mv2 (fun a q1 q2 => ?_) (fun j _ => by rw [e 58 (by decide)]) (by rw [e 61 (by decide)]) (fun j _ => by rw [e 62 (by decide)]) (fun a k q1 q2 q3 => f4 a k q1 q2 (by omega)) (fun k q => f6 k (by omega)) (hO.2.2.2.2.1 s hs).2.1
    by_cases q : a = 55 ∨ a = 57 ∨ a = 60
    · exact f3 a s q (by omega)
    · rw [e a (by omega)]
theorem rT.frd {kp : Nat} {I I' : pmI} {J J' : pmJ} {t : List tH} (h : rT I J t) (hF : frd kp I I' J J') : rT I' J' t :=
  h.eq (hF.2.1 30 (by decide) (by decide)) (hF.1 73 (by decide) (by decide) (by decide) (by decide) (by decide) (by decide) (by decide) (by decide) (by decide)) (hF.1 74 (by decide) (by decide) (by decide) (by decide) (by decide) (by decide) (by decide) (by decide) (by decide)) (hF.2.2.2.2.1 75 (by decide) (by decide))
/-- what number() leaves as it was -/
theorem rNm.fr {ns ns' : List Int64} {kp m form : Nat} {dec : Int64} {pa : List Int64} {I I' : pmI} {J J' : pmJ} (h : rNm ns ns' kp m form dec pa I J I' J') : (∀ a, a ≠ 47 → (a < 49 ∨ 52 < a) → a ≠ 56 → a ≠ 58 → I' a = I a) ∧ (∀ k, k ≠ 3 → I' 47 k = I 47 k) ∧ (∀ a, a ≠ 47 → (a < 49 ∨ 52 < a) → a ≠ 70 → J' a = J a) ∧ (∀ j, j ≠ kp → I' 56 j = I 56 j) ∧ (∀ j, j < 3 * kp → I' 58 j = I 58 j) ∧ (∀ k, k < 64 * kp → J' 70 k = J 70 k) ∧ (form ≠ 0 → I' 56 kp = nI (ns'.idxOf dec)) ∧ (∀ (j : Nat) (v : Int64), pa[j]? = some v → I' 58 (3 * kp + j) = nI (ns'.idxOf v)) := by
  obtain ⟨I1, J1, hu, hv, I2, hp, x, hx, rfl⟩ := h
  refine ⟨fun a q1 q2 q3 q4 => ?_, fun k q => ?_, fun a q1 q2 q3 => ?_, fun j q => ?_, fun j q => ?_, fun k q => ?_, fun q => ?_, fun j v hj => ?_⟩
  · rw [pm_u_ne q3, hp.1 a q4]; exact (hu.1 a q1 q2).1
  · rw [pm_u_ne (by decide), hp.1 47 (by decide)]; exact hu.2.1 k q
  · rw [hv.1 a q3]; exact (hu.1 a q1 q2).2
  · rw [pm_u_eq, pm_up_ne q, hp.1 56 (by decide), (hu.1 56 (by decide) (by decide)).1]
  · rw [pm_u_ne (by decide), hp.2.1 j (Or.inl q), (hu.1 58 (by decide) (by decide)).1]
  · rw [hv.2.1 k (Or.inl q), (hu.1 70 (by decide) (by decide)).2]
  · rw [pm_u_eq, pm_up_eq]; exact hx q
  · rw [pm_u_ne (by decide)]; exact hp.2.2 j v (List.getElem?_eq_some_iff.mp hj).1 hj
theorem rA.rNm {I I' : pmI} {J J' : pmJ} {A : aS} (h : rA I J A) (hO : aO A) {ns' : List Int64} (hp : A.ns <+: ns') (hnd : ns'.Nodup) {m form : Nat} {dec : Int64} {pa : List Int64} (hN : rNm A.ns ns' A.sn.length m form dec pa I J I' J') : rA I' J' (A.nm ns') := by
  obtain ⟨f1, f2, f3, f4, f5, f6, -, -⟩ := hN.fr
  obtain ⟨I1, J1, hu, hv, I2, hq, x, hx, rfl⟩ := hN
  have e49 : J' 49 = J1 49 := hv.1 49 (by decide)
  have eI : ∀ a, a ≠ 56 → a ≠ 58 → pm_u I2 56 A.sn.length x a = I1 a := fun a q1 q2 => by rw [pm_u_ne q1, hq.1 a q2]
  refine ⟨by rw [eI 47 (by decide) (by decide)]; exact hu.2.2.2.1, fun j v hj => ?_, by rw [f2 27 (by decide)]; exact h.r, fun j v hj => ?_, by rw [f2 10 (by decide)]; exact h.k, fun s hs => ?_⟩
  · have hj : ns'[j]? = some v := hj
    rw [e49, eI 50 (by decide) (by decide), eI 51 (by decide) (by decide), eI 52 (by decide) (by decide), f1 53 (by decide) (by decide) (by decide) (by decide), f3 54 (by decide) (by decide) (by decide)]
    rcases Nat.lt_or_ge j A.ns.length with g | g
    · have hj1 : A.ns[j]? = some v := by
        obtain ⟨r, rfl⟩ := hp
        rw [List.getElem?_append_left g] at hj
        exact hj
      obtain ⟨q1, q2, q3, q4⟩ := hu.2.2.1 j g
      rw [q1, q2, q3, q4]
      exact h.2.1 j v hj1
    · obtain ⟨q1, q2, q3, q4⟩ := hu.2.2.2.2 j v g hj
      have hvn : v ∉ A.ns := fun q => by
        have g1 := nd_ix hnd hj
        rw [pre_ix hp q] at g1
        have := (ns_at q).2
        omega
      obtain ⟨z1, z2⟩ := hO.2.1 v hvn
      have z3 := hO.2.2.1 v z1
      refine ⟨q1, ?_, ?_, ?_, fun q => ?_⟩
      · rw [q2]; show nI 0 = nI (A.fm v); rw [z1]
      · rw [q3]; show -5 = eN (A.dc v); rw [z3]; rfl
      · rw [q4]; show nI 0 = nI (A.ed v); rw [z2]
      · have q : A.fm v = 1 := q
        omega
  · rw [f1 71 (by decide) (by decide) (by decide) (by decide), f3 72 (by decide) (by decide) (by decide)]
    exact h.rs j v hj
  · have hs : s < A.sn.length := hs
    refine snR.nm hO hs ((h.sn hs).mv2 (fun a q1 q2 => ?_) (fun j q => f5 j (by omega)) ?_ (fun j _ => ?_) (fun a k q1 q2 q3 => ?_) (fun k q => f6 k (by omega)) (hO.2.2.2.2.1 s hs).2.1) hp
    · by_cases q : a = 56
      · subst q; exact f4 s (by omega)
      · by_cases q' : a = 58
        · subst q'; exact f5 s (by omega)
        · rw [f1 a (by omega) (by omega) q q']
    · rw [f1 61 (by decide) (by decide) (by decide) (by decide)]
    · rw [f1 62 (by decide) (by decide) (by decide) (by decide)]
    · rw [f1 a (by omega) (by omega) (by omega) (by omega)]
theorem rT.rNm {ns ns' : List Int64} {kp m form : Nat} {dec : Int64} {pa : List Int64} {I I' : pmI} {J J' : pmJ} {t : List tH} (h : rT I J t) (hN : rNm ns ns' kp m form dec pa I J I' J') : rT I' J' t := by
  obtain ⟨f1, f2, f3, -⟩ := hN.fr
  exact h.eq (f2 30 (by decide)) (f1 73 (by decide) (by decide) (by decide) (by decide)) (f1 74 (by decide) (by decide) (by decide) (by decide)) (f3 75 (by decide) (by decide) (by decide))
theorem rNm.oR {ns ns' : List Int64} {kp m form : Nat} {dec : Int64} {pa : List Int64} {I I' : pmI} {J J' : pmJ} (hN : rNm ns ns' kp m form dec pa I J I' J') : oR I J I' J' := fun a ha => ⟨hN.fr.1 a (by omega) (by omega) (by omega) (by omega), hN.fr.2.2.1 a (by omega) (by omega) (by omega)⟩
/-- the nodes that were read, behind the numbering -/
theorem nT.rNm {tx : Nat → Nat} {n i kp m f N form : Nat} {pa ns ns' : List Int64} {dec : Int64} {I I' : pmI} {J J' : pmJ} {L : List dD} (h : nT tx n kp pa I J 0 m f N L) (hC : rC tx n I J i) (hi0 : tk_k tx n i = 0) (hne : ∀ t, tk_k tx n t ≠ 0 → t < i) (hN : rNm ns ns' kp m form dec pa I J I' J') (hmem : ∀ v, tkN (tk_k tx n) (tk_v tx n) v → v ∈ ns') {T : eX} (hp3 : pa.length ≤ 3) (hT : wt pa (· ∈ ns') T) (hL : L.map dPl = cp id T) : ny I' J' (crN ns' J') (64 * kp) (64 * kp + m) T N := by
  unfold nT at h
  rw [Nat.add_zero] at h
  obtain ⟨T', w1, w2, w3⟩ := nd_ny (Nm := (· ∈ ns')) (fun N v _ _ ⟨t, _, _, q1, q2⟩ => hmem v ⟨t, q1, q2⟩) f N L h
  have hu := (uq hp3 T T' [] [] hT w1 (by rw [List.append_nil, List.append_nil, ← hL, ← w3])).2 _ _ _ _ _ _ w2
  obtain ⟨f1, -⟩ := hN.fr
  obtain ⟨I1, J1, hur, hv, I2, hq, x, hx, rfl⟩ := hN
  have e1 : ∀ a, 63 ≤ a → a ≤ 69 → I1 a = I a := fun a q1 q2 => (hur.1 a (by omega) (by omega)).1
  have e70 : J1 70 = J 70 := (hur.1 70 (by decide) (by decide)).2
  have e79 : J1 79 = J 79 := (hur.1 79 (by decide) (by decide)).2
  refine ny.mv (fun a k q1 q2 _ _ => by rw [f1 a (by omega) (by omega) (by omega) (by omega)]) (fun k q1 q2 q3 => ?_) (fun k v q1 q2 q3 q4 => ?_) _ _ hu
  · have g := (hv.2.2 k q1 q2).2 (by
      rw [e1 63 (by decide) (by decide)]
      intro q
      rcases q3 with q3 | q3 | q3 <;> rw [q3] at q <;> exact absurd q (by decide))
    rw [g, e70]
  · obtain ⟨t, g1, g2, g3, g4⟩ := q4
    have ht := hne t (by rw [g3]; decide)
    exact (hv.2.2 k q1 q2).1 (by rw [e1 63 (by decide) (by decide)]; exact q3) t v (by omega) (by rw [e1 68 (by decide) (by decide)]; exact g2) (by rw [e79, (hC.2.2.2.1 t ht).2.2]; exact g4) (hmem v ⟨t, g3, g4⟩)
theorem nX.rNm {tx : Nat → Nat} {n i kp m form : Nat} {pa ns ns' : List Int64} {dec : Int64} {I I' : pmI} {J J' : pmJ} (h : nX tx n I (64 * kp) (64 * kp + m)) (hC : rC tx n I J i) (hne : ∀ t, tk_k tx n t ≠ 0 → t < i) (hN : rNm ns ns' kp m form dec pa I J I' J') (hmem : ∀ v, tkN (tk_k tx n) (tk_v tx n) v → v ∈ ns') (hl : ns'.length ≤ 40) : nY I' J' (64 * kp) (64 * kp + m) := by
  obtain ⟨f1, -⟩ := hN.fr
  obtain ⟨I1, J1, hur, hv, I2, hq, x, hx, rfl⟩ := hN
  have e1 : ∀ a, 63 ≤ a → a ≤ 69 → I1 a = I a := fun a q1 q2 => (hur.1 a (by omega) (by omega)).1
  have e79 : J1 79 = J 79 := (hur.1 79 (by decide) (by decide)).2
  refine ⟨h.1.mv (fun a q1 q2 k q3 => by rw [f1 a (by omega) (by omega) (by omega) (by omega)]), fun k q1 q2 q3 => ?_, h.2.2.mv (fun a q1 q2 k q3 => by rw [f1 a (by omega) (by omega) (by omega) (by omega)])⟩
  rw [f1 63 (by decide) (by decide) (by decide) (by decide)] at q3
  obtain ⟨t, t1, t2, t3⟩ := h.2.1 k q1 q2 q3
  have ht := hne t (by rw [t3]; decide)
  have hvn : tk_v tx n t ∈ ns' := hmem _ ⟨t, t3, rfl⟩
  refine ⟨ns'.idxOf (tk_v tx n t), by have := (ns_at hvn).2; omega, ?_⟩
  have g := (hv.2.2 k q1 q2).1 (by rw [e1 63 (by decide) (by decide)]; rcases q3 with q | q; exact Or.inl q; exact Or.inr (Or.inl q)) t _ t1 (by rw [e1 68 (by decide) (by decide)]; exact t2) (by rw [e79]; exact (hC.2.2.2.1 t ht).2.2) hvn
  exact g
