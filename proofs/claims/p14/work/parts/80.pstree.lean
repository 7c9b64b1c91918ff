/-- a NAME among the TOKENS -/
def tkN (kd : Nat → Nat) (co : Nat → Int64) (v : Int64) : Prop := ∃ j, kd j = 97 ∧ co j = v
/-- code of an EXPR -/
def tw (kd : Nat → Nat) (co : Nat → Int64) (pa : List Int64) (L : List dD) : Prop := ∃ T, wt pa (tkN kd co) T ∧ L.map dPl = cp id T
section PST
variable {kd pl : Nat → Nat} {co : Nat → Int64} {pa : List Int64}
/-- code of so many EXPRS -/
def twN (kd : Nat → Nat) (co : Nat → Int64) (pa : List Int64) (g : Nat) (L : List dD) : Prop := (g = 0 ∧ L = []) ∨ (g = 1 ∧ ∃ T, wt pa (tkN kd co) T ∧ L.map dPl = cp id T) ∨ (g = 2 ∧ ∃ T1 T2, wt pa (tkN kd co) T1 ∧ wt pa (tkN kd co) T2 ∧ L.map dPl = cp id T1 ++ cp id T2)
theorem tw_op {a : Nat} {L1 L2 : List dD} {x p : Nat} (hx : lvl x ≤ 2) (h1 : tw kd co pa L1) (h2 : tw kd co pa L2) : tw kd co pa ((1, p, 0, 0) :: (L1 ++ (L2 ++ [(x, p, 0, 0)]))) := by
  obtain ⟨T1, a1, b1⟩ := h1
  obtain ⟨T2, a2, b2⟩ := h2
  refine ⟨.inner 9 (x, 0) () T1 (.inner 0 (0, 0) () T2 .leaf), Or.inr (Or.inl ⟨rfl, hx, a1, a2, rfl⟩), ?_⟩
  rw [cp9, List.map_cons, List.map_append, List.map_append, b1, b2]; rfl
theorem tw_dot {L1 : List dD} {p : Nat} {v : Int64} (hv : tkN kd co v) (h1 : tw kd co pa L1) : tw kd co pa ((1, p, 0, 0) :: (L1 ++ [(9, p, 0, v)])) := by
  obtain ⟨T1, a1, b1⟩ := h1
  refine ⟨.inner 8 (0, v) () T1 .leaf, Or.inr (Or.inr (Or.inr (Or.inr (Or.inr ⟨rfl, hv, a1⟩)))), ?_⟩
  rw [cp8, List.map_cons, List.map_append, b1]; rfl
theorem tw_neg {L1 : List dD} {p : Nat} (h1 : tw kd co pa L1) : tw kd co pa ((1, p, 0, 0) :: (L1 ++ [(10, p, 0, 0)])) := by
  obtain ⟨T1, a1, b1⟩ := h1
  refine ⟨.inner 7 (0, 0) () T1 .leaf, Or.inr (Or.inr (Or.inr (Or.inr (Or.inl ⟨rfl, a1⟩)))), ?_⟩
  rw [cp7, List.map_cons, List.map_append, b1]; rfl
theorem tw_if {L1 L2 L3 : List dD} {p : Nat} (h1 : tw kd co pa L1) (h2 : tw kd co pa L2) (h3 : tw kd co pa L3) : tw kd co pa ((1, p, 0, 0) :: (L1 ++ (11, p, nI (L2.length + 1), 0) :: (L2 ++ (12, p, nI L3.length, 0) :: L3))) := by
  obtain ⟨T1, a1, b1⟩ := h1
  obtain ⟨T2, a2, b2⟩ := h2
  obtain ⟨T3, a3, b3⟩ := h3
  refine ⟨.inner 10 (0, 0) () T1 (.inner 0 (0, 0) () T2 T3), Or.inr (Or.inr ⟨rfl, a1, a2, a3⟩), ?_⟩
  rw [cp10, List.map_cons, List.map_append, List.map_cons, List.map_append, List.map_cons, b1, ← b2, ← b3, List.length_map, List.length_map]; rfl
theorem tw_call {M L : List dD} {g p : Nat} {v : Int64} (hv : tkN kd co v) (hM : twN kd co pa g M) (h1 : tw kd co pa L) : tw kd co pa ((6, p, nI (g + 1), v) :: ((M ++ L) ++ [(8, p, nI (g + 1), v)])) := by
  obtain ⟨T, a1, b1⟩ := h1
  rcases hM with ⟨rfl, rfl⟩ | ⟨rfl, T1, a2, b2⟩ | ⟨rfl, T1, T2, a2, a3, b2⟩
  · refine ⟨.inner 6 (1, v) () T (.inner 0 (0, 0) () .leaf .leaf), Or.inl ⟨rfl, hv, by show 1 ≤ 3; decide, Or.inr ⟨by show 1 ≤ 1; decide, a1⟩, Or.inl ⟨by show 1 < 2; decide, rfl⟩, Or.inl ⟨by show 1 < 3; decide, rfl⟩⟩, ?_⟩
    rw [cp6, List.nil_append, List.map_cons, List.map_append, b1]; rfl
  · refine ⟨.inner 6 (2, v) () T1 (.inner 0 (0, 0) () T .leaf), Or.inl ⟨rfl, hv, by show 2 ≤ 3; decide, Or.inr ⟨by show 1 ≤ 2; decide, a2⟩, Or.inr ⟨by show 2 ≤ 2; decide, a1⟩, Or.inl ⟨by show 2 < 3; decide, rfl⟩⟩, ?_⟩
    rw [cp6, List.append_assoc, List.map_cons, List.map_append, List.map_append, b1, b2]; rfl
  · refine ⟨.inner 6 (3, v) () T1 (.inner 0 (0, 0) () T2 T), Or.inl ⟨rfl, hv, by show 3 ≤ 3; decide, Or.inr ⟨by show 1 ≤ 3; decide, a2⟩, Or.inr ⟨by show 2 ≤ 3; decide, a3⟩, Or.inr ⟨by show 3 ≤ 3; decide, a1⟩⟩, ?_⟩
    rw [cp6, List.append_assoc, List.map_cons, List.map_append, List.map_append, b1, b2, List.append_assoc]; rfl
theorem twN_up {M L : List dD} {g : Nat} (hg : g < 2) (hM : twN kd co pa g M) (h1 : tw kd co pa L) : twN kd co pa (g + 1) (M ++ L) := by
  obtain ⟨T, a1, b1⟩ := h1
  rcases hM with ⟨rfl, rfl⟩ | ⟨rfl, T1, a2, b2⟩ | ⟨rfl, _⟩
  · exact Or.inr (Or.inl ⟨rfl, T, a1, b1⟩)
  · exact Or.inr (Or.inr ⟨rfl, T1, T, a2, a1, by rw [List.map_append, b1, b2]⟩)
  · exact absurd hg (by decide)
theorem ps_tw : ∀ (f m a d : Nat) (acc : List dD) (k b : Nat) (L : List dD), (m ≤ 5 ∨ 11 ≤ m ∧ m ≤ 15) → ps kd pl co pa f m a d acc k = some (.ok (b, L)) →
    (m ≤ 5 → tw kd co pa L) ∧ (11 ≤ m → m ≤ 14 → tw kd co pa acc → tw kd co pa L) ∧ (m = 15 → tkN kd co (co (k / 4)) → k % 4 < 3 → twN kd co pa (k % 4) acc → tw kd co pa L) := by
  intro f
  induction f with
  | zero => intro m a d acc k b L hm h; cases h
  | succ f ih =>
    intro m a d acc k b L hmm h
    by_cases m0 : m = 0
    · subst m0
      refine ⟨fun _ => ?_, fun h => absurd h (by decide), fun h => absurd h (by decide)⟩
      rw [ps_0] at h
      obtain ⟨b1, L1, h1, h⟩ := pb_ok h
      have i1 := (ih _ _ _ _ _ _ _ (by omega) h1).1 (by omega)
      by_cases hq : kd b1 = 63
      · rw [if_pos hq] at h
        by_cases hd : 12 ≤ d
        · rw [if_pos hd] at h; cases h
        · rw [if_neg hd] at h
          obtain ⟨b2, L2, h2, h⟩ := pb_ok h
          have i2 := (ih _ _ _ _ _ _ _ (by omega) h2).1 (by omega)
          by_cases hc : kd b2 = 58
          · rw [if_pos hc] at h
            obtain ⟨b3, L3, h3, h⟩ := pb_ok h
            have i3 := (ih _ _ _ _ _ _ _ (by omega) h3).1 (by omega)
            cases h
            exact tw_if i1 i2 i3
          · rw [if_neg hc] at h; cases h
      · rw [if_neg hq] at h
        cases h
        exact i1
    · by_cases m3 : m ≤ 3
      · refine ⟨fun _ => ?_, fun h => absurd h (by omega), fun h => absurd h (by omega)⟩
        rw [ps_l f m a d acc k m0 m3] at h
        obtain ⟨b1, L1, h1, h⟩ := pb_ok h
        have i1 := (ih _ _ _ _ _ _ _ (by omega) h1).1 (by omega)
        exact (ih _ _ _ _ _ _ _ (by omega) h).2.1 (by omega) (by omega) i1
      · by_cases m4 : m = 4
        · subst m4
          refine ⟨fun _ => ?_, fun h => absurd h (by decide), fun h => absurd h (by decide)⟩
          rw [ps_4] at h
          by_cases hm : kd a = 45
          · rw [if_pos hm] at h
            by_cases hd : 12 ≤ d
            · rw [if_pos hd] at h; cases h
            · rw [if_neg hd] at h
              obtain ⟨b1, L1, h1, h⟩ := pb_ok h
              have i1 := (ih _ _ _ _ _ _ _ (by omega) h1).1 (by omega)
              cases h
              exact tw_neg i1
          · rw [if_neg hm] at h
            obtain ⟨b1, L1, h1, h⟩ := pb_ok h
            have i1 := (ih _ _ _ _ _ _ _ (by omega) h1).1 (by omega)
            exact (ih _ _ _ _ _ _ _ (by omega) h).2.1 (by omega) (by omega) i1
        · by_cases m5 : m = 5
          · subst m5
            refine ⟨fun _ => ?_, fun h => absurd h (by decide), fun h => absurd h (by decide)⟩
            rw [ps_5] at h
            by_cases k48 : kd a = 48
            · rw [if_pos k48] at h
              cases h
              exact ⟨.inner 2 (0, co a) () .leaf .leaf, Or.inl rfl, rfl⟩
            · rw [if_neg k48] at h
              by_cases k36 : kd a = 36
              · rw [if_pos k36] at h
                cases h
                exact ⟨.inner 3 (0, co a) () .leaf .leaf, Or.inr (Or.inl rfl), rfl⟩
              · rw [if_neg k36] at h
                by_cases k97 : kd a = 97
                · rw [if_pos k97] at h
                  have hn : tkN kd co (co a) := ⟨a, k97, rfl⟩
                  by_cases k40 : kd (a + 1) = 40
                  · rw [if_pos k40] at h
                    by_cases hd : 12 ≤ d
                    · rw [if_pos hd] at h; cases h
                    · rw [if_neg hd] at h
                      by_cases k41 : kd (a + 2) = 41
                      · rw [if_pos k41] at h
                        cases h
                        exact ⟨.inner 6 (0, co a) () .leaf (.inner 0 (0, 0) () .leaf .leaf), Or.inl ⟨rfl, hn, by show 0 ≤ 3; decide, Or.inl ⟨by show 0 < 1; decide, rfl⟩, Or.inl ⟨by show 0 < 2; decide, rfl⟩, Or.inl ⟨by show 0 < 3; decide, rfl⟩⟩, rfl⟩
                      · rw [if_neg k41] at h
                        refine (ih _ _ _ _ _ _ _ (by omega) h).2.2 rfl (by rw [show 4 * a / 4 = a by omega]; exact hn) (by omega) ?_
                        rw [show 4 * a % 4 = 0 by omega]
                        exact Or.inl ⟨rfl, rfl⟩
                  · rw [if_neg k40] at h
                    cases hs : ps_arg pa (co a) 0 with
                    | some i => rw [hs] at h; cases h; exact ⟨.inner 4 (i, co a) () .leaf .leaf, Or.inr (Or.inr (Or.inl ⟨rfl, hs, hn⟩)), rfl⟩
                    | none => rw [hs] at h; cases h; exact ⟨.inner 5 (0, co a) () .leaf .leaf, Or.inr (Or.inr (Or.inr (Or.inl ⟨rfl, hs, hn⟩))), rfl⟩
                · rw [if_neg k97] at h
                  by_cases k40 : kd a = 40
                  · rw [if_pos k40] at h
                    by_cases hd : 12 ≤ d
                    · rw [if_pos hd] at h; cases h
                    · rw [if_neg hd] at h
                      obtain ⟨b1, L1, h1, h⟩ := pb_ok h
                      have i1 := (ih _ _ _ _ _ _ _ (by omega) h1).1 (by omega)
                      by_cases k41 : kd b1 = 41
                      · rw [if_pos k41] at h
                        cases h
                        exact i1
                      · rw [if_neg k41] at h; cases h
                  · rw [if_neg k40] at h; cases h
          · by_cases m14 : m = 14
            · subst m14
              refine ⟨fun h => absurd h (by decide), fun _ _ hac => ?_, fun h => absurd h (by decide)⟩
              rw [ps_14] at h
              by_cases k46 : kd a = 46
              · rw [if_pos k46] at h
                by_cases k97 : kd (a + 1) = 97
                · rw [if_pos k97] at h
                  exact (ih _ _ _ _ _ _ _ (by omega) h).2.1 (by omega) (by omega) (tw_dot ⟨a + 1, k97, rfl⟩ hac)
                · rw [if_neg k97] at h; cases h
              · rw [if_neg k46] at h
                cases h
                exact hac
            · by_cases m15 : m = 15
              · subst m15
                refine ⟨fun h => absurd h (by decide), fun _ h => absurd h (by decide), fun _ hn hk hac => ?_⟩
                rw [ps_15] at h
                obtain ⟨b1, L1, h1, h⟩ := pb_ok h
                have i1 := (ih _ _ _ _ _ _ _ (by omega) h1).1 (by omega)
                by_cases hc : kd b1 = 44 ∧ k % 4 + 1 < 3
                · rw [if_pos hc] at h
                  have e1 : (k + 1) / 4 = k / 4 := by omega
                  have e2 : (k + 1) % 4 = k % 4 + 1 := by omega
                  refine (ih _ _ _ _ _ _ _ (by omega) h).2.2 rfl (by rw [e1]; exact hn) (by omega) ?_
                  rw [e2]
                  exact twN_up (by omega) hac i1
                · rw [if_neg hc] at h
                  by_cases k41 : kd b1 = 41
                  · rw [if_pos k41] at h
                    cases h
                    exact tw_call hn hac i1
                  · rw [if_neg k41] at h; cases h
              · by_cases mo : 11 ≤ m ∧ m ≤ 13
                · refine ⟨fun h => absurd h (by omega), fun _ _ hac => ?_, fun h => absurd h m15⟩
                  rw [ps_o f m a d acc k mo.1 mo.2] at h
                  by_cases hc : lvl (kd a) = m - 11 ∧ (m = 11 → k < 1)
                  · rw [if_pos hc] at h
                    obtain ⟨b1, L1, h1, h⟩ := pb_ok h
                    have i1 := (ih _ _ _ _ _ _ _ (by omega) h1).1 (by omega)
                    exact (ih _ _ _ _ _ _ _ (by omega) h).2.1 mo.1 (by omega) (tw_op (a := a) (by omega) hac i1)
                  · rw [if_neg hc] at h
                    cases h
                    exact hac
                · exact absurd hmm (by omega)
theorem rp_ok : ∀ (f a : Nat) (pa : List Int64) (b : Nat) (pb : List Int64), rp kd co f a pa = .ok (b, pb) → pa.length + f ≤ 3 → (∀ v ∈ pa, tkN kd co v) → pb.length ≤ 3 ∧ (∀ v ∈ pb, tkN kd co v) ∧ ps_G kd a b ∧ a ≤ b
  | 0, a, pa, b, pb, h, _, _ => nomatch h
  | f + 1, a, pa, b, pb, h, hl, hp => by
    unfold rp at h
    by_cases h1 : kd a = 97 ∧ ps_arg pa (co a) 0 = none
    · rw [if_pos h1] at h
      have g1 : ps_G kd a (a + 1) := ps_G.one (by rw [h1.1]; decide) (by rw [h1.1]; decide)
      have hp' : ∀ v ∈ pa ++ [co a], tkN kd co v := fun v hv => by
        rcases List.mem_append.mp hv with h2 | h2
        · exact hp v h2
        · rw [List.mem_singleton.mp h2]; exact ⟨a, h1.1, rfl⟩
      by_cases h2 : kd (a + 1) = 44 ∧ pa.length + 1 < 3
      · rw [if_pos h2] at h
        have g2 : ps_G kd (a + 1) (a + 2) := ps_G.one (by rw [h2.1]; decide) (by rw [h2.1]; decide)
        obtain ⟨i1, i2, i3, i4⟩ := rp_ok f (a + 2) _ b pb h (by rw [List.length_append, List.length_singleton]; omega) hp'
        exact ⟨i1, i2, (g1.tr g2).tr i3, by omega⟩
      · rw [if_neg h2] at h
        injection h with h
        injection h with h3 h4
        subst h3; subst h4
        exact ⟨by rw [List.length_append, List.length_singleton]; omega, hp', g1, by omega⟩
    · rw [if_neg h1] at h; cases h
/-- what a reading without FAULT gives -/
def rdO (kd : Nat → Nat) (co : Nat → Int64) (form : Nat) (dec : Int64) (pa : List Int64) (L : List dD) : Prop :=
  form ≤ 3 ∧ (form = 0 → dec = 0) ∧ (form ≠ 0 → kd 1 = 97 ∧ dec = co 1) ∧ pa.length ≤ 3 ∧ (∀ v ∈ pa, tkN kd co v) ∧ ((form ≤ 2 ∧ (form ≤ 1 → pa = []) ∧ tw kd co pa L) ∨ (form = 1 ∧ pa = [] ∧ L = [(7, 0, 0, 0)]) ∨ (form = 3 ∧ L = [])) ∧ ∃ e, kd e = 0 ∧ ps_G kd 0 e
theorem rx_ok {f a form : Nat} {dec : Int64} {r : Nat × Int64 × List Int64 × List dD} (h : rx kd pl co f pa a form dec = some (.ok r)) : ∃ L b, r = (form, dec, pa, L) ∧ tw kd co pa L ∧ kd b = 0 ∧ ps_G kd a b := by
  unfold rx at h
  rcases hps : ps kd pl co pa f 0 a 0 [] 0 with _ | (e | q)
  · rw [hps] at h; cases h
  · rw [hps] at h; cases h
  · rw [hps] at h
    dsimp only at h
    by_cases h0 : kd q.1 = 0
    · rw [if_pos h0] at h
      cases h
      exact ⟨q.2, q.1, rfl, (ps_tw f 0 a 0 [] 0 q.1 q.2 (by omega) hps).1 (by decide), h0, (ps_len f 0 a 0 [] 0 q.1 q.2 (by omega) hps).1⟩
    · rw [if_neg h0] at h; cases h
theorem rd_ok {f form : Nat} {dec : Int64} {pa : List Int64} {L : List dD} (h : rd kd pl co f = some (.ok (form, dec, pa, L))) : rdO kd co form dec pa L := by
  unfold rd at h
  have o1 : ∀ j k, kd j = k → k ≠ 0 → k ≠ 1 → ps_G kd j (j + 1) := fun j k h1 h2 h3 => ps_G.one (by rw [h1]; exact h2) (by rw [h1]; exact h3)
  by_cases h0 : kd 0 = 118
  · rw [if_pos h0] at h
    have g0 := o1 0 118 h0 (by decide) (by decide)
    by_cases h1 : kd 1 = 97
    · rw [if_pos h1] at h
      have g1 := g0.tr (o1 1 97 h1 (by decide) (by decide))
      by_cases h2 : kd 2 = 61
      · rw [if_pos h2] at h
        have g2 := g1.tr (o1 2 61 h2 (by decide) (by decide))
        obtain ⟨L', b, e, i1, i2, i3⟩ := rx_ok h
        cases e
        exact ⟨by decide, fun h => absurd h (by decide), fun _ => ⟨h1, rfl⟩, by decide, (fun v hv => nomatch hv), Or.inl ⟨by decide, fun _ => rfl, i1⟩, b, i2, g2.tr i3⟩
      · rw [if_neg h2] at h
        by_cases h3 : kd 2 = 0
        · rw [if_pos h3] at h
          cases h
          exact ⟨by decide, fun h => absurd h (by decide), fun _ => ⟨h1, rfl⟩, by decide, (fun v hv => nomatch hv), Or.inr (Or.inl ⟨rfl, rfl, rfl⟩), 2, h3, g1⟩
        · rw [if_neg h3] at h; cases h
    · rw [if_neg h1] at h; cases h
  · rw [if_neg h0] at h
    by_cases h0 : kd 0 = 100
    · rw [if_pos h0] at h
      have g0 := o1 0 100 h0 (by decide) (by decide)
      by_cases h1 : kd 1 = 97
      · rw [if_pos h1] at h
        have g1 := g0.tr (o1 1 97 h1 (by decide) (by decide))
        by_cases h2 : kd 2 = 40
        · rw [if_pos h2] at h
          have g2 := g1.tr (o1 2 40 h2 (by decide) (by decide))
          rcases hp : rpm kd co with e | ⟨b, pb⟩
          · rw [hp] at h; cases h
          · rw [hp, rdD_ok] at h
            have hpb : pb.length ≤ 3 ∧ (∀ v ∈ pb, tkN kd co v) ∧ ps_G kd 3 b := by
              unfold rpm at hp
              by_cases h3 : kd 3 = 41
              · rw [if_pos h3] at hp
                cases hp
                exact ⟨by decide, (fun v hv => nomatch hv), fun j h4 h5 => absurd h5 (by omega)⟩
              · rw [if_neg h3] at hp
                obtain ⟨i1, i2, i3, i4⟩ := rp_ok 3 3 [] b pb hp (by decide) (fun v hv => nomatch hv)
                exact ⟨i1, i2, i3⟩
            by_cases h4 : kd b = 41
            · rw [if_pos h4] at h
              by_cases h5 : kd (b + 1) = 61
              · rw [if_pos h5] at h
                obtain ⟨L', b', e, i1, i2, i3⟩ := rx_ok h
                cases e
                exact ⟨by decide, fun h => absurd h (by decide), fun _ => ⟨h1, rfl⟩, hpb.1, hpb.2.1, Or.inl ⟨by decide, fun h => absurd h (by decide), i1⟩, b', i2, (((g2.tr hpb.2.2).tr (o1 b 41 h4 (by decide) (by decide))).tr (o1 (b + 1) 61 h5 (by decide) (by decide))).tr i3⟩
              · rw [if_neg h5] at h; cases h
            · rw [if_neg h4] at h; cases h
        · rw [if_neg h2] at h; cases h
      · rw [if_neg h1] at h; cases h
    · rw [if_neg h0] at h
      by_cases h0 : kd 0 = 116
      · rw [if_pos h0] at h
        have g0 := o1 0 116 h0 (by decide) (by decide)
        by_cases h1 : kd 1 = 97
        · rw [if_pos h1] at h
          have g1 := g0.tr (o1 1 97 h1 (by decide) (by decide))
          by_cases h2 : kd 2 = 40
          · rw [if_pos h2] at h
            have g2 := g1.tr (o1 2 40 h2 (by decide) (by decide))
            rcases hp : rp kd co 3 3 [] with e | ⟨b, pb⟩
            · rw [hp] at h; cases h
            · rw [hp, rdT_ok] at h
              obtain ⟨i1, i2, i3, i4⟩ := rp_ok 3 3 [] b pb hp (by decide) (fun v hv => nomatch hv)
              by_cases h4 : kd b = 41
              · rw [if_pos h4] at h
                by_cases h5 : kd (b + 1) = 0
                · rw [if_pos h5] at h
                  cases h
                  exact ⟨by decide, fun h => absurd h (by decide), fun _ => ⟨h1, rfl⟩, i1, i2, Or.inr (Or.inr ⟨rfl, rfl⟩), b + 1, h5, (g2.tr i3).tr (o1 b 41 h4 (by decide) (by decide))⟩
                · rw [if_neg h5] at h; cases h
              · rw [if_neg h4] at h; cases h
          · rw [if_neg h2] at h; cases h
        · rw [if_neg h1] at h; cases h
      · rw [if_neg h0] at h
        obtain ⟨L', b, e, i1, i2, i3⟩ := rx_ok h
        cases e
        exact ⟨by decide, fun _ => rfl, fun h => absurd rfl h, by decide, (fun v hv => nomatch hv), Or.inl ⟨by decide, fun _ => rfl, i1⟩, b, i2, i3⟩
end PST
