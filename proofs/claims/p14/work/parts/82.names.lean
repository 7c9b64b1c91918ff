theorem pre_ix' {ns ns' : List Int64} (h : ns <+: ns') {v : Int64} (hv : v ∈ ns) : ns'.idxOf v = ns.idxOf v := by
  obtain ⟨r, rfl⟩ := h
  rw [List.idxOf_append, if_pos hv]
theorem crN.up {J : pmJ} {ns ns' : List Int64} (hp : ns <+: ns') {N : Nat} {v : Int64} (hv : v ∈ ns) (h : crN ns J N v) : crN ns' J N v := by unfold crN hN at *; rw [h, pre_ix' hp hv]
theorem ny_ns {I : pmI} {J : pmJ} {pa ns ns' : List Int64} {lo hi : Nat} (hp : ns <+: ns') : ∀ (T : eX) (N : Nat), wt pa (· ∈ ns) T → ny I J (crN ns J) lo hi T N → ny I J (crN ns' J) lo hi T N
  | .leaf, _, hT, _ => hT.elim
  | .inner k q u a .leaf, N, hT, h => by
    rcases hT with rfl | rfl | ⟨rfl, t2, t3⟩ | ⟨rfl, t2, t3⟩ | ⟨rfl, t2⟩ | ⟨rfl, t2, t3⟩
    · obtain ⟨hb, e1, e2⟩ := ny2 h
      exact ⟨hb, Or.inl ⟨rfl, e1, e2⟩⟩
    · obtain ⟨hb, e1, e2⟩ := ny3 h
      exact ⟨hb, Or.inr (Or.inl ⟨rfl, e1, e2⟩)⟩
    · obtain ⟨hb, e1, e2⟩ := ny4 h
      exact ⟨hb, Or.inr (Or.inr (Or.inl ⟨Or.inl rfl, e1, e2.up hp t3⟩))⟩
    · obtain ⟨hb, e1, e2⟩ := ny5 h
      exact ⟨hb, Or.inr (Or.inr (Or.inl ⟨Or.inr rfl, e1, e2.up hp t3⟩))⟩
    · obtain ⟨hb, e1, c, e2, e3⟩ := ny7 h
      exact ⟨hb, Or.inr (Or.inr (Or.inr (Or.inl ⟨rfl, e1, c, e2, ny_ns hp a c t2 e3⟩)))⟩
    · obtain ⟨hb, e1, e4, c, e2, e3⟩ := ny8 h
      exact ⟨hb, Or.inr (Or.inr (Or.inr (Or.inr ⟨rfl, e1, e4.up hp t2, c, e2, ny_ns hp a c t3 e3⟩)))⟩
  | .inner k q u a (.inner k2 q2 u2 b c), N, hT, h => by
    rcases hT with ⟨rfl, t1, t2, ta, tb, tc⟩ | ⟨rfl, t1, t2, t3, t4⟩ | ⟨rfl, t2, t3, t4⟩
    · obtain ⟨hb, e1, e2, e3, e4, e5, e6⟩ := ny6 h
      refine ⟨hb, Or.inl ⟨rfl, e1, e2.up hp t1, e3, fun hq => ?_, fun hq => ?_, fun hq => ?_⟩⟩
      · obtain ⟨x, y, z⟩ := e4 hq
        exact ⟨x, y, ny_ns hp a x (by rcases ta with g | g; exact absurd g.1 (by omega); exact g.2) z⟩
      · obtain ⟨x, y, z⟩ := e5 hq
        exact ⟨x, y, ny_ns hp b x (by rcases tb with g | g; exact absurd g.1 (by omega); exact g.2) z⟩
      · obtain ⟨x, y, z⟩ := e6 hq
        exact ⟨x, y, ny_ns hp c x (by rcases tc with g | g; exact absurd g.1 (by omega); exact g.2) z⟩
    · obtain ⟨hb, e1, e2, ⟨x1, y1, z1⟩, x2, y2, z2⟩ := ny9 h
      exact ⟨hb, Or.inr (Or.inl ⟨rfl, e1, e2, ⟨x1, y1, ny_ns hp a _ t2 z1⟩, x2, y2, ny_ns hp b _ t3 z2⟩)⟩
    · obtain ⟨hb, e1, ⟨x1, y1, z1⟩, ⟨x2, y2, z2⟩, x3, y3, z3⟩ := ny10 h
      exact ⟨hb, Or.inr (Or.inr ⟨rfl, e1, ⟨x1, y1, ny_ns hp a _ t2 z1⟩, ⟨x2, y2, ny_ns hp b _ t3 z2⟩, x3, y3, ny_ns hp c _ t4 z3⟩)⟩
/-- the NAMES behind k TOKENS -/
def nmF (kd : Nat → Nat) (co : Nat → Int64) (ns : List Int64) : Nat → List Int64
  | 0 => ns
  | k + 1 => if kd k = 97 ∧ co k ∉ nmF kd co ns k then nmF kd co ns k ++ [co k] else nmF kd co ns k
section NMF
variable {kd : Nat → Nat} {co : Nat → Int64} {ns : List Int64}
theorem nmF_y {k : Nat} (h : kd k = 97 ∧ co k ∉ nmF kd co ns k) : nmF kd co ns (k + 1) = nmF kd co ns k ++ [co k] := if_pos h
theorem nmF_n {k : Nat} (h : ¬ (kd k = 97 ∧ co k ∉ nmF kd co ns k)) : nmF kd co ns (k + 1) = nmF kd co ns k := if_neg h
theorem nmF_s (k : Nat) : nmF kd co ns k <+: nmF kd co ns (k + 1) := by
  by_cases h : kd k = 97 ∧ co k ∉ nmF kd co ns k
  · rw [nmF_y h]; exact List.prefix_append _ _
  · rw [nmF_n h]; exact List.prefix_rfl
theorem nmF_mono (k : Nat) : ∀ j, nmF kd co ns k <+: nmF kd co ns (k + j)
  | 0 => List.prefix_rfl
  | j + 1 => (nmF_mono k j).trans (nmF_s (k + j))
theorem nmF_pre (k : Nat) : ns <+: nmF kd co ns k := by
  have := nmF_mono (kd := kd) (co := co) (ns := ns) 0 k
  rw [Nat.zero_add] at this
  exact this
theorem nmF_nd (h : ns.Nodup) : ∀ k, (nmF kd co ns k).Nodup
  | 0 => h
  | k + 1 => by
    by_cases h1 : kd k = 97 ∧ co k ∉ nmF kd co ns k
    · rw [nmF_y h1]
      refine List.nodup_append.mpr ⟨nmF_nd h k, by simp, fun a ha b hb => ?_⟩
      rw [List.mem_singleton.mp hb]
      exact fun e => h1.2 (e ▸ ha)
    · rw [nmF_n h1]; exact nmF_nd h k
theorem nmF_mem {v : Int64} : ∀ k, v ∈ nmF kd co ns k ↔ v ∈ ns ∨ ∃ j, j < k ∧ kd j = 97 ∧ co j = v
  | 0 => ⟨fun h => Or.inl h, fun h => by
    rcases h with h | ⟨j, h1, _⟩
    · exact h
    · exact absurd h1 (Nat.not_lt_zero _)⟩
  | k + 1 => by
    have ih := nmF_mem (v := v) k
    constructor
    · intro h
      by_cases h1 : kd k = 97 ∧ co k ∉ nmF kd co ns k
      · rw [nmF_y h1] at h
        rcases List.mem_append.mp h with h | h
        · rcases ih.mp h with h | ⟨j, g1, g2⟩
          · exact Or.inl h
          · exact Or.inr ⟨j, by omega, g2⟩
        · exact Or.inr ⟨k, by omega, h1.1, (List.mem_singleton.mp h).symm⟩
      · rw [nmF_n h1] at h
        rcases ih.mp h with h | ⟨j, g1, g2⟩
        · exact Or.inl h
        · exact Or.inr ⟨j, by omega, g2⟩
    · intro h
      have up : v ∈ nmF kd co ns k → v ∈ nmF kd co ns (k + 1) := fun h => (nmF_s k).subset h
      rcases h with h | ⟨j, g1, g2, g3⟩
      · exact up (ih.mpr (Or.inl h))
      · rcases Nat.lt_or_ge j k with g4 | g4
        · exact up (ih.mpr (Or.inr ⟨j, g4, g2, g3⟩))
        · have e : j = k := by omega
          subst e
          by_cases h1 : co j ∈ nmF kd co ns j
          · exact up (g3 ▸ h1)
          · rw [nmF_y ⟨g2, h1⟩]
            exact List.mem_append.mpr (Or.inr (by rw [g3]; exact List.mem_singleton.mpr rfl))
theorem nmF_end {e : Nat} (h : ∀ j, e ≤ j → kd j ≠ 97) : ∀ k, nmF kd co ns (e + k) = nmF kd co ns e
  | 0 => rfl
  | k + 1 => by
    rw [← nmF_end h k]
    exact nmF_n (fun q => h (e + k) (by omega) q.1)
theorem nmF_len (k : Nat) : (nmF kd co ns k).length ≤ ns.length + k := by
  induction k with
  | zero => exact Nat.le_refl _
  | succ k ih =>
    by_cases h : kd k = 97 ∧ co k ∉ nmF kd co ns k
    · rw [nmF_y h, List.length_append, List.length_singleton]; omega
    · rw [nmF_n h]; omega
end NMF
theorem pre_at {ns ns' : List Int64} (h : ns <+: ns') {j : Nat} {v : Int64} (hj : ns[j]? = some v) : ns'[j]? = some v := by
  obtain ⟨r, rfl⟩ := h
  exact ap_l hj
theorem pre_ix {ns ns' : List Int64} (h : ns <+: ns') {v : Int64} (hv : v ∈ ns) : ns'.idxOf v = ns.idxOf v := by
  obtain ⟨r, rfl⟩ := h
  rw [List.idxOf_append, if_pos hv]
theorem nd_ix {ns : List Int64} (h : ns.Nodup) {j : Nat} {v : Int64} (hj : ns[j]? = some v) : ns.idxOf v = j := by
  obtain ⟨h1, h2⟩ := List.getElem?_eq_some_iff.mp hj
  rw [← h2]
  exact h.idxOf_getElem j h1
/-- the state with these NAMES -/
def aS.nm (A : aS) (ns' : List Int64) : aS := (ns', A.2)
theorem aO.nm {A : aS} (h : aO A) {ns' : List Int64} (hp : A.ns <+: ns') (hn : ns'.Nodup) (hl : ns'.length ≤ 40) : aO (A.nm ns') := by
  obtain ⟨h1, h2, h3, h4, h5, h6⟩ := h
  refine ⟨⟨hn, hl⟩, fun v hv => h2 v (fun q => hv (hp.subset q)), h3, h4, fun s hs => ?_, h6⟩
  obtain ⟨g1, g2, g3, g4, g5, g6⟩ := h5 s hs
  exact ⟨g1, g2, fun q => hp.subset (g3 q), fun v hv => hp.subset (g4 v hv), fun q => wt.mono (fun v hv => hp.subset hv) _ (g5 q), g6⟩
theorem snC.nm {S : pmS} {I : pmI} {J : pmJ} {P : pmP} {A : aS} (hO : aO A) {z s : Nat} (hs : s < A.sn.length) (h : snC S I J P A.ns z (A.at s)) {ns' : List Int64} (hp : A.ns <+: ns') : snC S I J P ns' z (A.at s) := by
  obtain ⟨g1, g2, g3, g4, g5, g6⟩ := hO.2.2.2.2.1 s hs
  obtain ⟨h1, h3, h4, h5, p2, p3, p4, h6, h7, h8, h9, rm, L, h10, h11⟩ := h
  refine ⟨h1, h3, h4, h5, p2, p3, p4, h6, fun q => by rw [pre_ix hp (g3 q)]; exact h7 q, fun j v hj => by rw [pre_ix hp (g4 v (List.mem_of_getElem? hj))]; exact h8 j v hj, h9, rm, L, h10, fun q => ?_⟩
  rw [h11 q]
  congr 1
  exact cp_congr (Nm := (· ∈ A.ns)) (fun v hv => by unfold hN; rw [pre_ix hp hv]) _ (g5 q)
theorem snR.nm {I : pmI} {J : pmJ} {A : aS} (hO : aO A) {s : Nat} (hs : s < A.sn.length) (h : snR I J A.ns s (A.at s)) {ns' : List Int64} (hp : A.ns <+: ns') : snR I J ns' s (A.at s) := by
  obtain ⟨g1, g2, g3, g4, g5, g6⟩ := hO.2.2.2.2.1 s hs
  obtain ⟨h1, h2, h3, h4, h5, h6, h7⟩ := h
  refine ⟨h1, fun q => by rw [pre_ix hp (g3 q)]; exact h2 q, h3, fun j v hj => by rw [pre_ix hp (g4 v (List.mem_of_getElem? hj))]; exact h4 j v hj, h5, h6, fun q => ?_⟩
  obtain ⟨m, i1, i2, N, i3, i4⟩ := h7 q
  exact ⟨m, i1, i2, N, i3, ny_ns hp _ _ (g5 q) i4⟩
/-- NAMES ns' beyond ns have come; what is declared is as it was -/
def nUc (ns : List Int64) (I0 : pmI) (J0 : pmJ) (I : pmI) (J : pmJ) (ns' : List Int64) : Prop := (∀ a, a < 16 ∨ 20 < a → I a = I0 a ∧ J a = J0 a) ∧ (∀ k, k ≠ 4 → I 16 k = I0 16 k) ∧ (∀ j, j < ns.length → J 17 j = J0 17 j ∧ I 18 j = I0 18 j ∧ I 19 j = I0 19 j ∧ I 20 j = I0 20 j) ∧ I 16 4 = nI ns'.length ∧ ∀ (j : Nat) (v : Int64), ns.length ≤ j → ns'[j]? = some v → J 17 j = v ∧ I 18 j = nI 0 ∧ I 19 j = -5 ∧ I 20 j = nI 0
theorem nUc.refl {ns : List Int64} {I : pmI} {J : pmJ} (h : I 16 4 = nI ns.length) : nUc ns I J I J ns := ⟨fun _ _ => ⟨rfl, rfl⟩, fun _ _ => rfl, fun _ _ => ⟨rfl, rfl, rfl, rfl⟩, h, fun j v h1 h2 => absurd (List.getElem?_eq_some_iff.mp h2).1 (by omega)⟩
theorem nUc.add {ns ns' : List Int64} {I0 I : pmI} {J0 J : pmJ} (h : nUc ns I0 J0 I J ns') (hl : ns.length ≤ ns'.length) {v : Int64} : nUc ns I0 J0 (pm_u (pm_u (pm_u (pm_u I 18 ns'.length (nI 0)) 19 ns'.length (-5)) 20 ns'.length (nI 0)) 16 4 (nI (ns'.length + 1))) (pm_u J 17 ns'.length v) (ns' ++ [v]) := by
  obtain ⟨h1, h2, h3, h4, h5⟩ := h
  refine ⟨fun a ha => ⟨by rw [pm_u_ne (by omega), pm_u_ne (by omega), pm_u_ne (by omega), pm_u_ne (by omega)]; exact (h1 a ha).1, by rw [pm_u_ne (by omega)]; exact (h1 a ha).2⟩, fun k hk => by rw [pm_u_eq, pm_up_ne hk, pm_u_ne (by decide), pm_u_ne (by decide), pm_u_ne (by decide)]; exact h2 k hk, fun j hj => ?_, by rw [pm_u_eq, pm_up_eq, List.length_append]; rfl, fun j u hj hu => ?_⟩
  · have g := h3 j hj
    exact ⟨by (repeat (first | rw [pm_u_ne (by decide)] | rw [pm_u_eq, pm_up_ne (by omega)])); exact g.1, by (repeat (first | rw [pm_u_ne (by decide)] | rw [pm_u_eq, pm_up_ne (by omega)])); exact g.2.1, by (repeat (first | rw [pm_u_ne (by decide)] | rw [pm_u_eq, pm_up_ne (by omega)])); exact g.2.2.1, by (repeat (first | rw [pm_u_ne (by decide)] | rw [pm_u_eq, pm_up_ne (by omega)])); exact g.2.2.2⟩
  · rcases Nat.lt_trichotomy j ns'.length with g | g | g
    · rw [List.getElem?_append_left g] at hu
      have g2 := h5 j u hj hu
      exact ⟨by (repeat (first | rw [pm_u_ne (by decide)] | rw [pm_u_eq, pm_up_ne (by omega)])); exact g2.1, by (repeat (first | rw [pm_u_ne (by decide)] | rw [pm_u_eq, pm_up_ne (by omega)])); exact g2.2.1, by (repeat (first | rw [pm_u_ne (by decide)] | rw [pm_u_eq, pm_up_ne (by omega)])); exact g2.2.2.1, by (repeat (first | rw [pm_u_ne (by decide)] | rw [pm_u_eq, pm_up_ne (by omega)])); exact g2.2.2.2⟩
    · subst g
      rw [List.getElem?_append_right (Nat.le_refl _), Nat.sub_self] at hu
      cases hu
      exact ⟨by (repeat (first | rw [pm_u_ne (by decide)] | rw [pm_u_eq, pm_up_eq])), by (repeat (first | rw [pm_u_ne (by decide)] | rw [pm_u_eq, pm_up_eq])), by (repeat (first | rw [pm_u_ne (by decide)] | rw [pm_u_eq, pm_up_eq])), by (repeat (first | rw [pm_u_ne (by decide)] | rw [pm_u_eq, pm_up_eq]))⟩
    · rw [List.getElem?_eq_none (by rw [List.length_append, List.length_singleton]; omega)] at hu
      cases hu
/-- NAMES ns' beyond ns have come; what is declared is as it was -/
def nUr (ns : List Int64) (I0 : pmI) (J0 : pmJ) (I : pmI) (J : pmJ) (ns' : List Int64) : Prop := (∀ a, a ≠ 47 → a < 49 ∨ 52 < a → I a = I0 a ∧ J a = J0 a) ∧ (∀ k, k ≠ 3 → I 47 k = I0 47 k) ∧ (∀ j, j < ns.length → J 49 j = J0 49 j ∧ I 50 j = I0 50 j ∧ I 51 j = I0 51 j ∧ I 52 j = I0 52 j) ∧ I 47 3 = nI ns'.length ∧ ∀ (j : Nat) (v : Int64), ns.length ≤ j → ns'[j]? = some v → J 49 j = v ∧ I 50 j = nI 0 ∧ I 51 j = -5 ∧ I 52 j = nI 0
theorem nUr.refl {ns : List Int64} {I : pmI} {J : pmJ} (h : I 47 3 = nI ns.length) : nUr ns I J I J ns := ⟨fun _ _ _ => ⟨rfl, rfl⟩, fun _ _ => rfl, fun _ _ => ⟨rfl, rfl, rfl, rfl⟩, h, fun j v h1 h2 => absurd (List.getElem?_eq_some_iff.mp h2).1 (by omega)⟩
theorem nUr.add {ns ns' : List Int64} {I0 I : pmI} {J0 J : pmJ} (h : nUr ns I0 J0 I J ns') (hl : ns.length ≤ ns'.length) {v : Int64} : nUr ns I0 J0 (pm_u (pm_u (pm_u (pm_u I 50 ns'.length (nI 0)) 51 ns'.length (-5)) 52 ns'.length (nI 0)) 47 3 (nI (ns'.length + 1))) (pm_u J 49 ns'.length v) (ns' ++ [v]) := by
  obtain ⟨h1, h2, h3, h4, h5⟩ := h
  refine ⟨fun a h9 ha => ⟨by rw [pm_u_ne (by omega), pm_u_ne (by omega), pm_u_ne (by omega), pm_u_ne (by omega)]; exact (h1 a h9 ha).1, by rw [pm_u_ne (by omega)]; exact (h1 a h9 ha).2⟩, fun k hk => by rw [pm_u_eq, pm_up_ne hk, pm_u_ne (by decide), pm_u_ne (by decide), pm_u_ne (by decide)]; exact h2 k hk, fun j hj => ?_, by rw [pm_u_eq, pm_up_eq, List.length_append]; rfl, fun j u hj hu => ?_⟩
  · have g := h3 j hj
    exact ⟨by (repeat (first | rw [pm_u_ne (by decide)] | rw [pm_u_eq, pm_up_ne (by omega)])); exact g.1, by (repeat (first | rw [pm_u_ne (by decide)] | rw [pm_u_eq, pm_up_ne (by omega)])); exact g.2.1, by (repeat (first | rw [pm_u_ne (by decide)] | rw [pm_u_eq, pm_up_ne (by omega)])); exact g.2.2.1, by (repeat (first | rw [pm_u_ne (by decide)] | rw [pm_u_eq, pm_up_ne (by omega)])); exact g.2.2.2⟩
  · rcases Nat.lt_trichotomy j ns'.length with g | g | g
    · rw [List.getElem?_append_left g] at hu
      have g2 := h5 j u hj hu
      exact ⟨by (repeat (first | rw [pm_u_ne (by decide)] | rw [pm_u_eq, pm_up_ne (by omega)])); exact g2.1, by (repeat (first | rw [pm_u_ne (by decide)] | rw [pm_u_eq, pm_up_ne (by omega)])); exact g2.2.1, by (repeat (first | rw [pm_u_ne (by decide)] | rw [pm_u_eq, pm_up_ne (by omega)])); exact g2.2.2.1, by (repeat (first | rw [pm_u_ne (by decide)] | rw [pm_u_eq, pm_up_ne (by omega)])); exact g2.2.2.2⟩
    · subst g
      rw [List.getElem?_append_right (Nat.le_refl _), Nat.sub_self] at hu
      cases hu
      exact ⟨by (repeat (first | rw [pm_u_ne (by decide)] | rw [pm_u_eq, pm_up_eq])), by (repeat (first | rw [pm_u_ne (by decide)] | rw [pm_u_eq, pm_up_eq])), by (repeat (first | rw [pm_u_ne (by decide)] | rw [pm_u_eq, pm_up_eq])), by (repeat (first | rw [pm_u_ne (by decide)] | rw [pm_u_eq, pm_up_eq]))⟩
    · rw [List.getElem?_eq_none (by rw [List.length_append, List.length_singleton]; omega)] at hu
      cases hu
