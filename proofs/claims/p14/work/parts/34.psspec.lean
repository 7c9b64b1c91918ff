/-! reading TOKENS as an EXPR, by the document: what comes is the code of the EXPR, or the TOKEN that cannot stand where it is -/
abbrev pR : Type := Option (Except Nat (Nat × List dD))
def pb (r : pR) (g : Nat → List dD → pR) : pR := match r with
  | none => none
  | some (.error e) => some (.error e)
  | some (.ok q) => g q.1 q.2
theorem pb_ok {r : pR} {g : Nat → List dD → pR} {x : Nat × List dD} (h : pb r g = some (.ok x)) : ∃ b L, r = some (.ok (b, L)) ∧ g b L = some (.ok x) := by
  match r, h with
  | some (.ok (b, L)), h => exact ⟨b, L, rfl, h⟩
theorem pb_er {r : pR} {g : Nat → List dD → pR} {e : Nat} (h : pb r g = some (.error e)) : r = some (.error e) ∨ ∃ b L, r = some (.ok (b, L)) ∧ g b L = some (.error e) := by
  match r, h with
  | some (.error e'), h => exact Or.inl h
  | some (.ok (b, L)), h => exact Or.inr ⟨b, L, rfl, h⟩
theorem pb_so {r : pR} {g : Nat → List dD → pR} {x : Except Nat (Nat × List dD)} (h : pb r g = some x) : (∃ e, r = some (.error e) ∧ x = .error e) ∨ ∃ b L, r = some (.ok (b, L)) ∧ g b L = some x := by
  match r, h with
  | some (.error e'), h => exact Or.inl ⟨e', rfl, (Option.some.inj h).symm⟩
  | some (.ok (b, L)), h => exact Or.inr ⟨b, L, rfl, h⟩
theorem pb_nn {r : pR} {g : Nat → List dD → pR} (h : r ≠ none) (h2 : ∀ b L, r = some (.ok (b, L)) → g b L ≠ none) : pb r g ≠ none := by
  match r, h, h2 with
  | none, h, _ => exact absurd rfl h
  | some (.error e'), _, _ => exact fun q => nomatch q
  | some (.ok (b, L)), _, h2 => exact h2 b L rfl
/-- which ARGUMENT these letters are -/
def ps_arg : List Int64 → Int64 → Nat → Option Nat
  | [], _, _ => none
  | a :: t, v, i => if a = v then some i else ps_arg t v (i + 1)
/-- of which level an operator is: 0 TEST, 1 SUM, 2 PROD, 9 none -/
def lvl (k : Nat) : Nat := if k = 60 ∨ k = 61 then 0 else if k = 43 ∨ k = 45 then 1 else if k = 42 ∨ k = 47 ∨ k = 37 then 2 else 9
/-- m: 0 EXPR, 1 TEST, 2 SUM, 3 PROD, 4 FACT, 5 ATOM; 11, 12, 13 what follows a part of TEST, SUM, PROD; 14 the rest of . NAME; 15 the EXPRS of a call (k: 4 * its NAME's TOKEN + how many there were). d of ( - ? are open -/
def ps (kd pl : Nat → Nat) (co : Nat → Int64) (pa : List Int64) : Nat → Nat → Nat → Nat → List dD → Nat → pR
  | 0, _, _, _, _, _ => none
  | f + 1, m, a, d, acc, k =>
    if m = 0 then pb (ps kd pl co pa f 1 a d [] 0) fun b L =>
      if kd b = 63 then (if 12 ≤ d then some (.error b) else pb (ps kd pl co pa f 0 (b + 1) (d + 1) [] 0) fun c L2 =>
        if kd c = 58 then pb (ps kd pl co pa f 0 (c + 1) (d + 1) [] 0) fun e L3 => some (.ok (e, (1, pl b, 0, 0) :: (L ++ (11, pl b, nI (L2.length + 1), 0) :: (L2 ++ (12, pl b, nI L3.length, 0) :: L3))))
        else some (.error c))
      else some (.ok (b, L))
    else if m ≤ 3 then pb (ps kd pl co pa f (m + 1) a d [] 0) fun b L => ps kd pl co pa f (m + 10) b d L 0
    else if m = 4 then (if kd a = 45 then (if 12 ≤ d then some (.error a) else pb (ps kd pl co pa f 4 (a + 1) (d + 1) [] 0) fun b L => some (.ok (b, (1, pl a, 0, 0) :: (L ++ [(10, pl a, 0, 0)]))))
      else pb (ps kd pl co pa f 5 a d [] 0) fun b L => ps kd pl co pa f 14 b d L 0)
    else if m = 5 then
      (if kd a = 48 then some (.ok (a + 1, [(2, pl a, 0, co a)]))
      else if kd a = 36 then some (.ok (a + 1, [(3, pl a, (co a).toInt32, 0)]))
      else if kd a = 97 then
        (if kd (a + 1) = 40 then (if 12 ≤ d then some (.error (a + 1)) else if kd (a + 2) = 41 then some (.ok (a + 3, [(6, pl a, nI 0, co a), (8, pl a, nI 0, co a)])) else ps kd pl co pa f 15 (a + 2) (d + 1) [] (4 * a))
        else match ps_arg pa (co a) 0 with
          | some i => some (.ok (a + 1, [(4, pl a, nI i, 0)]))
          | none => some (.ok (a + 1, [(5, pl a, 0, co a)])))
      else if kd a = 40 then (if 12 ≤ d then some (.error a) else pb (ps kd pl co pa f 0 (a + 1) (d + 1) [] 0) fun b L => if kd b = 41 then some (.ok (b + 1, L)) else some (.error b))
      else some (.error a))
    else if m = 14 then (if kd a = 46 then (if kd (a + 1) = 97 then ps kd pl co pa f 14 (a + 2) d ((1, pl a, 0, 0) :: (acc ++ [(9, pl a, 0, co (a + 1))])) (k + 1) else some (.error (a + 1))) else some (.ok (a, acc)))
    else if m = 15 then pb (ps kd pl co pa f 0 a d [] 0) fun b L =>
      (if kd b = 44 ∧ k % 4 + 1 < 3 then ps kd pl co pa f 15 (b + 1) d (acc ++ L) (k + 1)
      else if kd b = 41 then some (.ok (b + 1, (6, pl (k / 4), nI (k % 4 + 1), co (k / 4)) :: ((acc ++ L) ++ [(8, pl (k / 4), nI (k % 4 + 1), co (k / 4))])))
      else some (.error b))
    else (if lvl (kd a) = m - 11 ∧ (m = 11 → k < 1) then pb (ps kd pl co pa f (m - 9) (a + 1) d [] 0) fun b L => ps kd pl co pa f m b d ((1, pl a, 0, 0) :: (acc ++ (L ++ [(kd a, pl a, 0, 0)]))) (k + 1)
      else some (.ok (a, acc)))
section PSL
variable {kd pl : Nat → Nat} {co : Nat → Int64} {pa : List Int64}
theorem ps_0 (f a d : Nat) (acc : List dD) (k : Nat) : ps kd pl co pa (f + 1) 0 a d acc k = pb (ps kd pl co pa f 1 a d [] 0) fun b L =>
      if kd b = 63 then (if 12 ≤ d then some (.error b) else pb (ps kd pl co pa f 0 (b + 1) (d + 1) [] 0) fun c L2 =>
        if kd c = 58 then pb (ps kd pl co pa f 0 (c + 1) (d + 1) [] 0) fun e L3 => some (.ok (e, (1, pl b, 0, 0) :: (L ++ (11, pl b, nI (L2.length + 1), 0) :: (L2 ++ (12, pl b, nI L3.length, 0) :: L3))))
        else some (.error c))
      else some (.ok (b, L)) := rfl
theorem ps_l (f m a d : Nat) (acc : List dD) (k : Nat) (h0 : m ≠ 0) (h3 : m ≤ 3) : ps kd pl co pa (f + 1) m a d acc k = pb (ps kd pl co pa f (m + 1) a d [] 0) fun b L => ps kd pl co pa f (m + 10) b d L 0 := by
  rw [ps, if_neg h0, if_pos h3]
theorem ps_4 (f a d : Nat) (acc : List dD) (k : Nat) : ps kd pl co pa (f + 1) 4 a d acc k = (if kd a = 45 then (if 12 ≤ d then some (.error a) else pb (ps kd pl co pa f 4 (a + 1) (d + 1) [] 0) fun b L => some (.ok (b, (1, pl a, 0, 0) :: (L ++ [(10, pl a, 0, 0)]))))
      else pb (ps kd pl co pa f 5 a d [] 0) fun b L => ps kd pl co pa f 14 b d L 0) := rfl
theorem ps_5 (f a d : Nat) (acc : List dD) (k : Nat) : ps kd pl co pa (f + 1) 5 a d acc k = (if kd a = 48 then some (.ok (a + 1, [(2, pl a, 0, co a)]))
      else if kd a = 36 then some (.ok (a + 1, [(3, pl a, (co a).toInt32, 0)]))
      else if kd a = 97 then
        (if kd (a + 1) = 40 then (if 12 ≤ d then some (.error (a + 1)) else if kd (a + 2) = 41 then some (.ok (a + 3, [(6, pl a, nI 0, co a), (8, pl a, nI 0, co a)])) else ps kd pl co pa f 15 (a + 2) (d + 1) [] (4 * a))
        else match ps_arg pa (co a) 0 with
          | some i => some (.ok (a + 1, [(4, pl a, nI i, 0)]))
          | none => some (.ok (a + 1, [(5, pl a, 0, co a)])))
      else if kd a = 40 then (if 12 ≤ d then some (.error a) else pb (ps kd pl co pa f 0 (a + 1) (d + 1) [] 0) fun b L => if kd b = 41 then some (.ok (b + 1, L)) else some (.error b))
      else some (.error a)) := rfl
theorem ps_14 (f a d : Nat) (acc : List dD) (k : Nat) : ps kd pl co pa (f + 1) 14 a d acc k = (if kd a = 46 then (if kd (a + 1) = 97 then ps kd pl co pa f 14 (a + 2) d ((1, pl a, 0, 0) :: (acc ++ [(9, pl a, 0, co (a + 1))])) (k + 1) else some (.error (a + 1))) else some (.ok (a, acc))) := rfl
theorem ps_15 (f a d : Nat) (acc : List dD) (k : Nat) : ps kd pl co pa (f + 1) 15 a d acc k = pb (ps kd pl co pa f 0 a d [] 0) fun b L =>
      (if kd b = 44 ∧ k % 4 + 1 < 3 then ps kd pl co pa f 15 (b + 1) d (acc ++ L) (k + 1)
      else if kd b = 41 then some (.ok (b + 1, (6, pl (k / 4), nI (k % 4 + 1), co (k / 4)) :: ((acc ++ L) ++ [(8, pl (k / 4), nI (k % 4 + 1), co (k / 4))])))
      else some (.error b)) := rfl
theorem ps_o (f m a d : Nat) (acc : List dD) (k : Nat) (h : 11 ≤ m) (h2 : m ≤ 13) : ps kd pl co pa (f + 1) m a d acc k = (if lvl (kd a) = m - 11 ∧ (m = 11 → k < 1) then pb (ps kd pl co pa f (m - 9) (a + 1) d [] 0) fun b L => ps kd pl co pa f m b d ((1, pl a, 0, 0) :: (acc ++ (L ++ [(kd a, pl a, 0, 0)]))) (k + 1)
      else some (.ok (a, acc))) := by
  rw [ps, if_neg (by omega), if_neg (by omega), if_neg (by omega), if_neg (by omega), if_neg (by omega), if_neg (by omega)]
/-- what was read are TOKENS, and brings two deeds each at most -/
def ps_G (kd : Nat → Nat) (a b : Nat) : Prop := ∀ j, a ≤ j → j < b → kd j ≠ 0 ∧ kd j ≠ 1
theorem ps_G.one {a : Nat} (h0 : kd a ≠ 0) (h1 : kd a ≠ 1) : ps_G kd a (a + 1) := fun j h2 h3 => by
  have e : j = a := by omega
  subst e
  exact ⟨h0, h1⟩
theorem ps_G.tr {a b c : Nat} (h : ps_G kd a b) (h2 : ps_G kd b c) : ps_G kd a c := fun j h3 h4 => by
  rcases Nat.lt_or_ge j b with h5 | h5
  · exact h j h3 h5
  · exact h2 j h5 h4
theorem lvl_c {k m : Nat} (h : lvl k = m - 11) (hm : 11 ≤ m) (hm2 : m ≤ 13) : k ≠ 0 ∧ k ≠ 1 := by
  unfold lvl at h
  refine ⟨fun e => ?_, fun e => ?_⟩ <;> (subst e; simp at h; omega)
theorem ps_len : ∀ (f m a d : Nat) (acc : List dD) (k b : Nat) (L : List dD), (m ≤ 5 ∨ 11 ≤ m ∧ m ≤ 15) → ps kd pl co pa f m a d acc k = some (.ok (b, L)) →
    ps_G kd a b ∧ (m ≤ 5 → a < b ∧ L.length ≤ 2 * (b - a)) ∧ (11 ≤ m → m ≤ 14 → a ≤ b ∧ L.length ≤ acc.length + 2 * (b - a)) ∧ (m = 15 → a < b ∧ L.length ≤ acc.length + 2 * (b - a) + 2) := by
  intro f
  induction f with
  | zero => intro m a d acc k b L hm h; cases h
  | succ f ih =>
    intro m a d acc k b L hmm h
    by_cases m0 : m = 0
    · subst m0
      rw [ps_0] at h
      obtain ⟨b1, L1, h1, h⟩ := pb_ok h
      have i1 := ih _ _ _ _ _ _ _ (by omega) h1
      have i1' := i1.2.1 (by omega)
      by_cases hq : kd b1 = 63
      · rw [if_pos hq] at h
        by_cases hd : 12 ≤ d
        · rw [if_pos hd] at h; cases h
        · rw [if_neg hd] at h
          obtain ⟨b2, L2, h2, h⟩ := pb_ok h
          have i2 := ih _ _ _ _ _ _ _ (by omega) h2
          have i2' := i2.2.1 (by omega)
          by_cases hc : kd b2 = 58
          · rw [if_pos hc] at h
            obtain ⟨b3, L3, h3, h⟩ := pb_ok h
            have i3 := ih _ _ _ _ _ _ _ (by omega) h3
            have i3' := i3.2.1 (by omega)
            cases h
            refine ⟨((i1.1.tr (ps_G.one (by rw [hq]; decide) (by rw [hq]; decide))).tr (i2.1.tr (ps_G.one (by rw [hc]; decide) (by rw [hc]; decide)))).tr i3.1, fun _ => ⟨by omega, ?_⟩, fun h => absurd h (by decide), fun h => absurd h (by decide)⟩
            simp only [List.length_cons, List.length_append]
            omega
          · rw [if_neg hc] at h; cases h
      · rw [if_neg hq] at h
        cases h
        exact ⟨i1.1, fun _ => i1', fun h => absurd h (by decide), fun h => absurd h (by decide)⟩
    · by_cases m3 : m ≤ 3
      · rw [ps_l f m a d acc k m0 m3] at h
        obtain ⟨b1, L1, h1, h⟩ := pb_ok h
        have i1 := ih _ _ _ _ _ _ _ (by omega) h1
        have i1' := i1.2.1 (by omega)
        have i2 := ih _ _ _ _ _ _ _ (by omega) h
        have i2' := i2.2.2.1 (by omega) (by omega)
        exact ⟨i1.1.tr i2.1, fun _ => ⟨by omega, by omega⟩, fun h => absurd h (by omega), fun h => absurd h (by omega)⟩
      · by_cases m4 : m = 4
        · subst m4
          rw [ps_4] at h
          by_cases hm : kd a = 45
          · rw [if_pos hm] at h
            by_cases hd : 12 ≤ d
            · rw [if_pos hd] at h; cases h
            · rw [if_neg hd] at h
              obtain ⟨b1, L1, h1, h⟩ := pb_ok h
              have i1 := ih _ _ _ _ _ _ _ (by omega) h1
              have i1' := i1.2.1 (by omega)
              cases h
              refine ⟨(ps_G.one (by rw [hm]; decide) (by rw [hm]; decide)).tr i1.1, fun _ => ⟨by omega, ?_⟩, fun h => absurd h (by decide), fun h => absurd h (by decide)⟩
              simp only [List.length_cons, List.length_append, List.length_nil]
              omega
          · rw [if_neg hm] at h
            obtain ⟨b1, L1, h1, h⟩ := pb_ok h
            have i1 := ih _ _ _ _ _ _ _ (by omega) h1
            have i1' := i1.2.1 (by omega)
            have i2 := ih _ _ _ _ _ _ _ (by omega) h
            have i2' := i2.2.2.1 (by omega) (by omega)
            exact ⟨i1.1.tr i2.1, fun _ => ⟨by omega, by omega⟩, fun h => absurd h (by decide), fun h => absurd h (by decide)⟩
        · by_cases m5 : m = 5
          · subst m5
            rw [ps_5] at h
            have fin1 : ∀ q : dD, kd a ≠ 0 → kd a ≠ 1 → some (Except.ok (a + 1, [q])) = (some (.ok (b, L)) : pR) → ps_G kd a b ∧ a < b ∧ L.length ≤ 2 * (b - a) := by
              intro q g0 g1 e
              cases e
              exact ⟨ps_G.one g0 g1, by omega, by show 1 ≤ _; omega⟩
            have close : ps_G kd a b ∧ a < b ∧ L.length ≤ 2 * (b - a) := by
              by_cases k48 : kd a = 48
              · rw [if_pos k48] at h
                exact fin1 _ (by rw [k48]; decide) (by rw [k48]; decide) h
              · rw [if_neg k48] at h
                by_cases k36 : kd a = 36
                · rw [if_pos k36] at h
                  exact fin1 _ (by rw [k36]; decide) (by rw [k36]; decide) h
                · rw [if_neg k36] at h
                  by_cases k97 : kd a = 97
                  · rw [if_pos k97] at h
                    have g1 : ps_G kd a (a + 1) := ps_G.one (by rw [k97]; decide) (by rw [k97]; decide)
                    by_cases k40 : kd (a + 1) = 40
                    · rw [if_pos k40] at h
                      have g2 : ps_G kd (a + 1) (a + 2) := ps_G.one (by rw [k40]; decide) (by rw [k40]; decide)
                      by_cases hd : 12 ≤ d
                      · rw [if_pos hd] at h; cases h
                      · rw [if_neg hd] at h
                        by_cases k41 : kd (a + 2) = 41
                        · rw [if_pos k41] at h
                          cases h
                          exact ⟨(g1.tr g2).tr (ps_G.one (by rw [k41]; decide) (by rw [k41]; decide)), by omega, by show 2 ≤ _; omega⟩
                        · rw [if_neg k41] at h
                          have i1 := ih _ _ _ _ _ _ _ (by omega) h
                          have i1' := i1.2.2.2 rfl
                          exact ⟨(g1.tr g2).tr i1.1, by omega, by have : ([] : List dD).length = 0 := rfl; omega⟩
                    · rw [if_neg k40] at h
                      cases hs : ps_arg pa (co a) 0 with
                      | some i => rw [hs] at h; exact fin1 _ (by rw [k97]; decide) (by rw [k97]; decide) h
                      | none => rw [hs] at h; exact fin1 _ (by rw [k97]; decide) (by rw [k97]; decide) h
                  · rw [if_neg k97] at h
                    by_cases k40 : kd a = 40
                    · rw [if_pos k40] at h
                      by_cases hd : 12 ≤ d
                      · rw [if_pos hd] at h; cases h
                      · rw [if_neg hd] at h
                        obtain ⟨b1, L1, h1, h⟩ := pb_ok h
                        have i1 := ih _ _ _ _ _ _ _ (by omega) h1
                        have i1' := i1.2.1 (by omega)
                        by_cases k41 : kd b1 = 41
                        · rw [if_pos k41] at h
                          cases h
                          exact ⟨((ps_G.one (by rw [k40]; decide) (by rw [k40]; decide)).tr i1.1).tr (ps_G.one (by rw [k41]; decide) (by rw [k41]; decide)), by omega, by omega⟩
                        · rw [if_neg k41] at h; cases h
                    · rw [if_neg k40] at h; cases h
            exact ⟨close.1, fun _ => close.2, fun h => absurd h (by decide), fun h => absurd h (by decide)⟩
          · by_cases m14 : m = 14
            · subst m14
              rw [ps_14] at h
              by_cases k46 : kd a = 46
              · rw [if_pos k46] at h
                by_cases k97 : kd (a + 1) = 97
                · rw [if_pos k97] at h
                  have i1 := ih _ _ _ _ _ _ _ (by omega) h
                  have i1' := i1.2.2.1 (by omega) (by omega)
                  simp only [List.length_cons, List.length_append, List.length_nil] at i1'
                  exact ⟨((ps_G.one (by rw [k46]; decide) (by rw [k46]; decide)).tr (ps_G.one (a := a + 1) (by rw [k97]; decide) (by rw [k97]; decide))).tr i1.1, fun h => absurd h (by decide), fun _ _ => ⟨by omega, by omega⟩, fun h => absurd h (by decide)⟩
                · rw [if_neg k97] at h; cases h
              · rw [if_neg k46] at h
                cases h
                exact ⟨fun j h1 h2 => absurd h1 (by omega), fun h => absurd h (by decide), fun _ _ => ⟨Nat.le_refl _, by omega⟩, fun h => absurd h (by decide)⟩
            · by_cases m15 : m = 15
              · subst m15
                rw [ps_15] at h
                obtain ⟨b1, L1, h1, h⟩ := pb_ok h
                have i1 := ih _ _ _ _ _ _ _ (by omega) h1
                have i1' := i1.2.1 (by omega)
                by_cases hc : kd b1 = 44 ∧ k % 4 + 1 < 3
                · rw [if_pos hc] at h
                  have i2 := ih _ _ _ _ _ _ _ (by omega) h
                  have i2' := i2.2.2.2 rfl
                  rw [List.length_append] at i2'
                  exact ⟨(i1.1.tr (ps_G.one (by rw [hc.1]; decide) (by rw [hc.1]; decide))).tr i2.1, fun h => absurd h (by decide), fun _ h => absurd h (by decide), fun _ => ⟨by omega, by omega⟩⟩
                · rw [if_neg hc] at h
                  by_cases k41 : kd b1 = 41
                  · rw [if_pos k41] at h
                    cases h
                    refine ⟨i1.1.tr (ps_G.one (by rw [k41]; decide) (by rw [k41]; decide)), fun h => absurd h (by decide), fun _ h => absurd h (by decide), fun _ => ⟨by omega, ?_⟩⟩
                    simp only [List.length_cons, List.length_append, List.length_nil]
                    omega
                  · rw [if_neg k41] at h; cases h
              · by_cases mo : 11 ≤ m ∧ m ≤ 13
                · rw [ps_o f m a d acc k mo.1 mo.2] at h
                  by_cases hc : lvl (kd a) = m - 11 ∧ (m = 11 → k < 1)
                  · rw [if_pos hc] at h
                    obtain ⟨b1, L1, h1, h⟩ := pb_ok h
                    have i1 := ih _ _ _ _ _ _ _ (by omega) h1
                    have i1' := i1.2.1 (by omega)
                    have i2 := ih _ _ _ _ _ _ _ (by omega) h
                    have i2' := i2.2.2.1 mo.1 (by omega)
                    simp only [List.length_cons, List.length_append, List.length_nil] at i2'
                    have hl := lvl_c hc.1 mo.1 mo.2
                    exact ⟨((ps_G.one hl.1 hl.2).tr i1.1).tr i2.1, fun h => absurd h (by omega), fun _ _ => ⟨by omega, by omega⟩, fun h => absurd h m15⟩
                  · rw [if_neg hc] at h
                    cases h
                    exact ⟨fun j h1 h2 => absurd h1 (by omega), fun h => absurd h (by omega), fun _ _ => ⟨Nat.le_refl _, by omega⟩, fun h => absurd h m15⟩
                · exact absurd hmm (by omega)
/-- with so much fuel it comes to an end -/
def ps_rk (m : Nat) : Nat := if m = 15 then 13 else if m = 0 then 12 else if m = 1 then 11 else if m = 2 then 10 else if m = 3 then 9 else if m = 4 then 8 else if m = 5 then 7 else 1
theorem ps_some {cnt : Nat} (hk : ∀ j, kd j ≠ 0 → j < cnt) : ∀ (f m a d : Nat) (acc : List dD) (k : Nat), (m ≤ 5 ∨ 11 ≤ m ∧ m ≤ 15) → a ≤ cnt → 16 * (cnt - a) + ps_rk m ≤ f → ps kd pl co pa f m a d acc k ≠ none := by
  have hG : ∀ {f m a d : Nat} {acc : List dD} {k b : Nat} {L : List dD}, (m ≤ 5 ∨ 11 ≤ m ∧ m ≤ 15) → a ≤ cnt → ps kd pl co pa f m a d acc k = some (.ok (b, L)) → a ≤ b ∧ b ≤ cnt ∧ (m ≤ 5 → a < b) := by
    intro f m a d acc k b L hm ha h
    have i1 := ps_len _ _ _ _ _ _ _ _ hm h
    have hab : a ≤ b ∧ (m ≤ 5 → a < b) := by
      rcases hm with h5 | ⟨h11, h15⟩
      · exact ⟨by have := (i1.2.1 h5).1; omega, fun _ => (i1.2.1 h5).1⟩
      · by_cases e : m = 15
        · exact ⟨by have := (i1.2.2.2 e).1; omega, fun h => absurd h (by omega)⟩
        · exact ⟨(i1.2.2.1 h11 (by omega)).1, fun h => absurd h (by omega)⟩
    refine ⟨hab.1, ?_, hab.2⟩
    rcases Nat.lt_or_ge a b with h1 | h1
    · have := hk (b - 1) (i1.1 (b - 1) (by omega) (by omega)).1
      omega
    · omega
  intro f
  induction f with
  | zero =>
    intro m a d acc k hm ha hf
    exfalso
    have h1 : 1 ≤ ps_rk m := by
      unfold ps_rk
      repeat (split; · decide)
      decide
    omega
  | succ f ih =>
    intro m a d acc k hm ha hf
    have nn : ∀ x : Except Nat (Nat × List dD), (some x : pR) ≠ none := fun x q => nomatch q
    have tok : ∀ j, kd j ≠ 0 → j + 1 ≤ cnt := fun j h => hk j h
    have r5 : ∀ m', m' ≤ 5 ∨ m' = 15 → ps_rk m' ≤ 13 := by
      intro m' _
      unfold ps_rk
      repeat (split; · decide)
      decide
    have rl : ∀ m', 11 ≤ m' → m' ≤ 14 → ps_rk m' = 1 := by
      intro m' h1 h2
      unfold ps_rk
      rw [if_neg (by omega), if_neg (by omega), if_neg (by omega), if_neg (by omega), if_neg (by omega), if_neg (by omega), if_neg (by omega)]
    by_cases m0 : m = 0
    · subst m0
      have e0 : ps_rk 0 = 12 := rfl
      have e1 : ps_rk 1 = 11 := rfl
      rw [ps_0]
      refine pb_nn (ih _ _ _ _ _ (by omega) ha (by omega)) fun b L h1 => ?_
      have g1 := hG (by omega) ha h1
      have g1' := g1.2.2 (by omega)
      by_cases hq : kd b = 63
      · rw [if_pos hq]
        have t1 := tok b (by rw [hq]; decide)
        by_cases hd : 12 ≤ d
        · rw [if_pos hd]; exact nn _
        · rw [if_neg hd]
          refine pb_nn (ih _ _ _ _ _ (by omega) (by omega) (by omega)) fun c L2 h2 => ?_
          have g2 := hG (by omega) (by omega) h2
          by_cases hc : kd c = 58
          · rw [if_pos hc]
            have t2 := tok c (by rw [hc]; decide)
            exact pb_nn (ih _ _ _ _ _ (by omega) (by omega) (by omega)) fun e L3 h3 => nn _
          · rw [if_neg hc]; exact nn _
      · rw [if_neg hq]; exact nn _
    · by_cases m3 : m ≤ 3
      · rw [ps_l f m a d acc k m0 m3]
        have e1 : ps_rk (m + 1) < ps_rk m := by
          rcases (show m = 1 ∨ m = 2 ∨ m = 3 by omega) with rfl | rfl | rfl <;> decide
        refine pb_nn (ih _ _ _ _ _ (by omega) ha (by omega)) fun b L h1 => ?_
        have g1 := hG (by omega) ha h1
        have g1' := g1.2.2 (by omega)
        have e2 := rl (m + 10) (by omega) (by omega)
        exact ih _ _ _ _ _ (by omega) (by omega) (by omega)
      · by_cases m4 : m = 4
        · subst m4
          have e0 : ps_rk 4 = 8 := rfl
          have e1 : ps_rk 5 = 7 := rfl
          have e2 := rl 14 (by omega) (by omega)
          rw [ps_4]
          by_cases hm' : kd a = 45
          · rw [if_pos hm']
            have t1 := tok a (by rw [hm']; decide)
            by_cases hd : 12 ≤ d
            · rw [if_pos hd]; exact nn _
            · rw [if_neg hd]
              exact pb_nn (ih _ _ _ _ _ (by omega) (by omega) (by omega)) fun b L h1 => nn _
          · rw [if_neg hm']
            refine pb_nn (ih _ _ _ _ _ (by omega) ha (by omega)) fun b L h1 => ?_
            have g1 := hG (by omega) ha h1
            have g1' := g1.2.2 (by omega)
            exact ih _ _ _ _ _ (by omega) (by omega) (by omega)
        · by_cases m5 : m = 5
          · subst m5
            have e0 : ps_rk 0 = 12 := rfl
            have e15 : ps_rk 15 = 13 := rfl
            rw [ps_5]
            by_cases k48 : kd a = 48
            · rw [if_pos k48]; exact nn _
            · rw [if_neg k48]
              by_cases k36 : kd a = 36
              · rw [if_pos k36]; exact nn _
              · rw [if_neg k36]
                by_cases k97 : kd a = 97
                · rw [if_pos k97]
                  by_cases k40 : kd (a + 1) = 40
                  · rw [if_pos k40]
                    have t1 := tok (a + 1) (by rw [k40]; decide)
                    by_cases hd : 12 ≤ d
                    · rw [if_pos hd]; exact nn _
                    · rw [if_neg hd]
                      by_cases k41 : kd (a + 2) = 41
                      · rw [if_pos k41]; exact nn _
                      · rw [if_neg k41]
                        exact ih _ _ _ _ _ (by omega) (by omega) (by omega)
                  · rw [if_neg k40]
                    cases hs : ps_arg pa (co a) 0 with
                    | some i => exact nn _
                    | none => exact nn _
                · rw [if_neg k97]
                  by_cases k40 : kd a = 40
                  · rw [if_pos k40]
                    have t1 := tok a (by rw [k40]; decide)
                    by_cases hd : 12 ≤ d
                    · rw [if_pos hd]; exact nn _
                    · rw [if_neg hd]
                      refine pb_nn (ih _ _ _ _ _ (by omega) (by omega) (by omega)) fun b L h1 => ?_
                      by_cases k41 : kd b = 41
                      · rw [if_pos k41]; exact nn _
                      · rw [if_neg k41]; exact nn _
                  · rw [if_neg k40]; exact nn _
          · by_cases m14 : m = 14
            · subst m14
              have e2 := rl 14 (by omega) (by omega)
              rw [ps_14]
              by_cases k46 : kd a = 46
              · rw [if_pos k46]
                by_cases k97 : kd (a + 1) = 97
                · rw [if_pos k97]
                  have t1 := tok (a + 1) (by rw [k97]; decide)
                  exact ih _ _ _ _ _ (by omega) (by omega) (by omega)
                · rw [if_neg k97]; exact nn _
              · rw [if_neg k46]; exact nn _
            · by_cases m15 : m = 15
              · subst m15
                have e0 : ps_rk 0 = 12 := rfl
                have e15 : ps_rk 15 = 13 := rfl
                rw [ps_15]
                refine pb_nn (ih _ _ _ _ _ (by omega) ha (by omega)) fun b L h1 => ?_
                have g1 := hG (by omega) ha h1
                have g1' := g1.2.2 (by omega)
                by_cases hc : kd b = 44 ∧ k % 4 + 1 < 3
                · rw [if_pos hc]
                  have t1 := tok b (by rw [hc.1]; decide)
                  exact ih _ _ _ _ _ (by omega) (by omega) (by omega)
                · rw [if_neg hc]
                  by_cases k41 : kd b = 41
                  · rw [if_pos k41]; exact nn _
                  · rw [if_neg k41]; exact nn _
              · have mo : 11 ≤ m ∧ m ≤ 13 := by omega
                have e2 := rl m mo.1 (by omega)
                rw [ps_o f m a d acc k mo.1 mo.2]
                by_cases hc : lvl (kd a) = m - 11 ∧ (m = 11 → k < 1)
                · rw [if_pos hc]
                  have hl := lvl_c hc.1 mo.1 mo.2
                  have t1 := tok a hl.1
                  have e3 := r5 (m - 9) (by omega)
                  refine pb_nn (ih _ _ _ _ _ (by omega) (by omega) (by omega)) fun b L h1 => ?_
                  have g1 := hG (by omega) (by omega) h1
                  exact ih _ _ _ _ _ (by omega) (by omega) (by omega)
                · rw [if_neg hc]; exact nn _
end PSL
