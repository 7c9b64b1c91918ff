/-- the NAMES that an EXPR uses: true where it is called -/
def us : eX → List (Bool × Int64)
  | .leaf => []
  | .inner k q _ a .leaf => if k = 5 then [(false, q.2)] else if k = 7 ∨ k = 8 then us a else []
  | .inner k q _ a (.inner _ _ _ b c) => (if k = 6 then [(true, q.2)] else []) ++ (us a ++ (us b ++ us c))
/-- is a NAME wanting that it uses -/
def lkU (A : aS) (u : Bool × Int64) : Bool := if u.1 = true then decide (A.fm u.2 ≠ 2 ∧ A.fm u.2 ≠ 3) else decide (A.fm u.2 ≠ 1)
def lkB (A : aS) (T : eX) : Bool := (us T).any (lkU A)
theorem lkB_t {A : aS} {T : eX} {u : Bool × Int64} (h : u ∈ us T) (hu : lkU A u = true) : lkB A T = true := List.any_eq_true.mpr ⟨u, h, hu⟩
theorem lkB_f {A : aS} {T : eX} (h : ∀ u ∈ us T, lkU A u = false) : lkB A T = false := by
  cases q : lkB A T with
  | false => rfl
  | true =>
    obtain ⟨u, h1, h2⟩ := List.any_eq_true.mp q
    rw [h u h1] at h2
    exact absurd h2 (by decide)
theorem lkU_c {A : aS} {v : Int64} (h : ¬ (A.fm v = 2 ∨ A.fm v = 3)) : lkU A (true, v) = true := by
  show decide (A.fm v ≠ 2 ∧ A.fm v ≠ 3) = true
  exact decide_eq_true ⟨fun e => h (Or.inl e), fun e => h (Or.inr e)⟩
theorem lkU_c0 {A : aS} {v : Int64} (h : A.fm v = 2 ∨ A.fm v = 3) : lkU A (true, v) = false := by
  show decide (A.fm v ≠ 2 ∧ A.fm v ≠ 3) = false
  exact decide_eq_false (fun q => h.elim q.1 q.2)
theorem lkU_v {A : aS} {v : Int64} (h : ¬ A.fm v = 1) : lkU A (false, v) = true := decide_eq_true h
theorem lkU_v0 {A : aS} {v : Int64} (h : A.fm v = 1) : lkU A (false, v) = false := decide_eq_false (fun q => q h)
/-- does it use this NAME -/
def usB (T : eX) (v : Int64) : Bool := (us T).any (fun u => decide (u.2 = v))
theorem usB_t {T : eX} {v : Int64} {c : Bool} (h : (c, v) ∈ us T) : usB T v = true := List.any_eq_true.mpr ⟨_, h, decide_eq_true rfl⟩
theorem usB_f {T : eX} {v : Int64} (h : ∀ c, (c, v) ∉ us T) : usB T v = false := by
  cases q : usB T v with
  | false => rfl
  | true =>
    obtain ⟨⟨c, u⟩, h1, h2⟩ := List.any_eq_true.mp q
    have e : u = v := of_decide_eq_true h2
    subst e
    exact absurd h1 (h c)
section USE
variable {pa : List Int64} {Nm : Int64 → Prop}
theorem us_nm : ∀ T, wt pa Nm T → ∀ u ∈ us T, Nm u.2 ∧ (u.1 = false → ps_arg pa u.2 0 = none)
  | .leaf, hT => hT.elim
  | .inner k q u a .leaf, hT => by
    intro x hx
    rcases hT with rfl | rfl | ⟨rfl, h2, h3⟩ | ⟨rfl, h2, h3⟩ | ⟨rfl, h2⟩ | ⟨rfl, h2, h3⟩
    · cases hx
    · cases hx
    · cases hx
    · rw [List.mem_singleton.mp hx]; exact ⟨h3, fun _ => h2⟩
    · exact us_nm a h2 x hx
    · exact us_nm a h3 x hx
  | .inner k q u a (.inner k2 q2 u2 b c), hT => by
    intro x hx
    rcases List.mem_append.mp hx with g | g
    · rcases hT with ⟨rfl, h2, h3, h4, h5, h6⟩ | ⟨rfl, h2, h3, h4, rfl⟩ | ⟨rfl, h2, h3, h4⟩
      · rw [List.mem_singleton.mp g]; exact ⟨h2, fun e => nomatch e⟩
      · cases g
      · cases g
    · have ga : x ∈ us a → a ≠ .leaf := fun e q => by rw [q] at e; cases e
      have gb : x ∈ us b → b ≠ .leaf := fun e q => by rw [q] at e; cases e
      have gc : x ∈ us c → c ≠ .leaf := fun e q => by rw [q] at e; cases e
      rcases List.mem_append.mp g with g1 | g2
      · clear g
        rcases hT with ⟨rfl, h2, h3, h4, h5, h6⟩ | ⟨rfl, h2, h3, h4, h5⟩ | ⟨rfl, h2, h3, h4⟩
        · rcases h4 with h4 | h4
          · exact absurd h4.2 (ga g1)
          · exact us_nm a h4.2 x g1
        · exact us_nm a h3 x g1
        · exact us_nm a h2 x g1
      · rcases List.mem_append.mp g2 with g3 | g4
        · rcases hT with ⟨rfl, h2, h3, h4, h5, h6⟩ | ⟨rfl, h2, h3, h4, h5⟩ | ⟨rfl, h2, h3, h4⟩
          · rcases h5 with h5 | h5
            · exact absurd h5.2 (gb g3)
            · exact us_nm b h5.2 x g3
          · exact us_nm b h4 x g3
          · exact us_nm b h3 x g3
        · rcases hT with ⟨rfl, h2, h3, h4, h5, h6⟩ | ⟨rfl, h2, h3, h4, h5⟩ | ⟨rfl, h2, h3, h4⟩
          · rcases h6 with h6 | h6
            · exact absurd h6.2 (gc g4)
            · exact us_nm c h6.2 x g4
          · exact absurd h5 (gc g4)
          · exact us_nm c h4 x g4
/-- the deeds that tell a use -/
def deU (h : Int64 → Int64) (u : Bool × Int64) : Nat × Int64 := (if u.1 = true then 6 else 5, h u.2)
/-- the code tells just the uses -/
theorem us_cp (h : Int64 → Int64) : ∀ T, wt pa Nm T → (∀ d ∈ cp h T, d.1 = 5 ∨ d.1 = 6 → ∃ u ∈ us T, deU h u = (d.1, d.2.2)) ∧ ∀ u ∈ us T, ∃ d ∈ cp h T, (d.1, d.2.2) = deU h u
  | .leaf, hT => hT.elim
  | .inner k q u a .leaf, hT => by
    rcases hT with rfl | rfl | ⟨rfl, h2, h3⟩ | ⟨rfl, h2, h3⟩ | ⟨rfl, h2⟩ | ⟨rfl, h2, h3⟩
    · refine ⟨fun d hd h5 => ?_, fun x hx => (by cases hx)⟩
      rw [List.mem_singleton.mp hd] at h5
      exact absurd h5 (show ¬ ((2 : Nat) = 5 ∨ (2 : Nat) = 6) by decide)
    · refine ⟨fun d hd h5 => ?_, fun x hx => (by cases hx)⟩
      rw [List.mem_singleton.mp hd] at h5
      exact absurd h5 (show ¬ ((3 : Nat) = 5 ∨ (3 : Nat) = 6) by decide)
    · refine ⟨fun d hd h5 => ?_, fun x hx => (by cases hx)⟩
      rw [List.mem_singleton.mp hd] at h5
      exact absurd h5 (show ¬ ((4 : Nat) = 5 ∨ (4 : Nat) = 6) by decide)
    · refine ⟨fun d hd _ => ⟨(false, q.2), List.mem_singleton.mpr rfl, ?_⟩, fun x hx => ⟨(5, 0, h q.2), List.mem_singleton.mpr rfl, ?_⟩⟩
      · rw [List.mem_singleton.mp hd]; rfl
      · rw [List.mem_singleton.mp hx]; rfl
    · obtain ⟨g1, g2⟩ := us_cp h a h2
      have e : cp h (.inner 7 q u a .leaf) = (1, 0, 0) :: (cp h a ++ [(10, 0, 0)]) := rfl
      rw [e]
      refine ⟨fun d hd h5 => ?_, fun x hx => ?_⟩
      · rcases List.mem_cons.mp hd with rfl | hd
        · exact absurd h5 (show ¬ ((1 : Nat) = 5 ∨ (1 : Nat) = 6) by decide)
        · rcases List.mem_append.mp hd with hd | hd
          · exact g1 d hd h5
          · rw [List.mem_singleton.mp hd] at h5
            exact absurd h5 (show ¬ ((10 : Nat) = 5 ∨ (10 : Nat) = 6) by decide)
      · obtain ⟨d, d1, d2⟩ := g2 x hx
        exact ⟨d, List.mem_cons_of_mem _ (List.mem_append_left _ d1), d2⟩
    · obtain ⟨g1, g2⟩ := us_cp h a h3
      have e : cp h (.inner 8 q u a .leaf) = (1, 0, 0) :: (cp h a ++ [(9, 0, h q.2)]) := rfl
      rw [e]
      refine ⟨fun d hd h5 => ?_, fun x hx => ?_⟩
      · rcases List.mem_cons.mp hd with rfl | hd
        · exact absurd h5 (show ¬ ((1 : Nat) = 5 ∨ (1 : Nat) = 6) by decide)
        · rcases List.mem_append.mp hd with hd | hd
          · exact g1 d hd h5
          · rw [List.mem_singleton.mp hd] at h5
            exact absurd h5 (show ¬ ((9 : Nat) = 5 ∨ (9 : Nat) = 6) by decide)
      · obtain ⟨d, d1, d2⟩ := g2 x hx
        exact ⟨d, List.mem_cons_of_mem _ (List.mem_append_left _ d1), d2⟩
  | .inner k q u a (.inner k2 q2 u2 b c), hT => by
    have none : ∀ T : eX, T = .leaf → (∀ d ∈ cp h T, d.1 = 5 ∨ d.1 = 6 → ∃ u ∈ us T, deU h u = (d.1, d.2.2)) ∧ ∀ u ∈ us T, ∃ d ∈ cp h T, (d.1, d.2.2) = deU h u := fun T e => by
      subst e
      exact ⟨fun d hd => (by cases hd), fun x hx => (by cases hx)⟩
    rcases hT with ⟨rfl, h2, h3, h4, h5, h6⟩ | ⟨rfl, h2, h3, h4, rfl⟩ | ⟨rfl, h2, h3, h4⟩
    · have ga := h4.elim (fun x => none a x.2) (fun x => us_cp h a x.2)
      have gb := h5.elim (fun x => none b x.2) (fun x => us_cp h b x.2)
      have gc := h6.elim (fun x => none c x.2) (fun x => us_cp h c x.2)
      have e : cp h (.inner 6 q u a (.inner k2 q2 u2 b c)) = (6, nI q.1, h q.2) :: (cp h a ++ (cp h b ++ (cp h c ++ [(8, nI q.1, h q.2)]))) := rfl
      have e2 : us (.inner 6 q u a (.inner k2 q2 u2 b c)) = [(true, q.2)] ++ (us a ++ (us b ++ us c)) := rfl
      rw [e, e2]
      refine ⟨fun d hd h5 => ?_, fun x hx => ?_⟩
      · rcases List.mem_cons.mp hd with rfl | hd
        · exact ⟨(true, q.2), List.mem_append_left _ (List.mem_singleton.mpr rfl), rfl⟩
        · rcases List.mem_append.mp hd with hd | hd
          · obtain ⟨x, x1, x2⟩ := ga.1 d hd h5
            exact ⟨x, List.mem_append_right _ (List.mem_append_left _ x1), x2⟩
          · rcases List.mem_append.mp hd with hd | hd
            · obtain ⟨x, x1, x2⟩ := gb.1 d hd h5
              exact ⟨x, List.mem_append_right _ (List.mem_append_right _ (List.mem_append_left _ x1)), x2⟩
            · rcases List.mem_append.mp hd with hd | hd
              · obtain ⟨x, x1, x2⟩ := gc.1 d hd h5
                exact ⟨x, List.mem_append_right _ (List.mem_append_right _ (List.mem_append_right _ x1)), x2⟩
              · rw [List.mem_singleton.mp hd] at h5
                exact absurd h5 (show ¬ ((8 : Nat) = 5 ∨ (8 : Nat) = 6) by decide)
      · rcases List.mem_append.mp hx with hx | hx
        · rw [List.mem_singleton.mp hx]
          exact ⟨_, List.mem_cons_self, rfl⟩
        · rcases List.mem_append.mp hx with hx | hx
          · obtain ⟨d, d1, d2⟩ := ga.2 x hx
            exact ⟨d, List.mem_cons_of_mem _ (List.mem_append_left _ d1), d2⟩
          · rcases List.mem_append.mp hx with hx | hx
            · obtain ⟨d, d1, d2⟩ := gb.2 x hx
              exact ⟨d, List.mem_cons_of_mem _ (List.mem_append_right _ (List.mem_append_left _ d1)), d2⟩
            · obtain ⟨d, d1, d2⟩ := gc.2 x hx
              exact ⟨d, List.mem_cons_of_mem _ (List.mem_append_right _ (List.mem_append_right _ (List.mem_append_left _ d1))), d2⟩
    · have ga := us_cp h a h3
      have gb := us_cp h b h4
      have e : cp h (.inner 9 q u a (.inner k2 q2 u2 b .leaf)) = (1, 0, 0) :: (cp h a ++ (cp h b ++ [(q.1, 0, 0)])) := rfl
      have e2 : us (.inner 9 q u a (.inner k2 q2 u2 b .leaf)) = us a ++ (us b ++ []) := rfl
      rw [e, e2]
      refine ⟨fun d hd h5 => ?_, fun x hx => ?_⟩
      · rcases List.mem_cons.mp hd with rfl | hd
        · exact absurd h5 (show ¬ ((1 : Nat) = 5 ∨ (1 : Nat) = 6) by decide)
        · rcases List.mem_append.mp hd with hd | hd
          · obtain ⟨x, x1, x2⟩ := ga.1 d hd h5
            exact ⟨x, List.mem_append_left _ x1, x2⟩
          · rcases List.mem_append.mp hd with hd | hd
            · obtain ⟨x, x1, x2⟩ := gb.1 d hd h5
              exact ⟨x, List.mem_append_right _ (List.mem_append_left _ x1), x2⟩
            · rw [List.mem_singleton.mp hd] at h5
              have h5 : q.1 = 5 ∨ q.1 = 6 := h5
              rcases h5 with e | e <;> rw [e] at h2 <;> exact absurd h2 (by decide)
      · rcases List.mem_append.mp hx with hx | hx
        · obtain ⟨d, d1, d2⟩ := ga.2 x hx
          exact ⟨d, List.mem_cons_of_mem _ (List.mem_append_left _ d1), d2⟩
        · rw [List.append_nil] at hx
          obtain ⟨d, d1, d2⟩ := gb.2 x hx
          exact ⟨d, List.mem_cons_of_mem _ (List.mem_append_right _ (List.mem_append_left _ d1)), d2⟩
    · have ga := us_cp h a h2
      have gb := us_cp h b h3
      have gc := us_cp h c h4
      have e : cp h (.inner 10 q u a (.inner k2 q2 u2 b c)) = (1, 0, 0) :: (cp h a ++ (11, nI ((cp h b).length + 1), 0) :: (cp h b ++ (12, nI (cp h c).length, 0) :: cp h c)) := rfl
      have e2 : us (.inner 10 q u a (.inner k2 q2 u2 b c)) = us a ++ (us b ++ us c) := rfl
      rw [e, e2]
      refine ⟨fun d hd h5 => ?_, fun x hx => ?_⟩
      · rcases List.mem_cons.mp hd with rfl | hd
        · exact absurd h5 (show ¬ ((1 : Nat) = 5 ∨ (1 : Nat) = 6) by decide)
        · rcases List.mem_append.mp hd with hd | hd
          · obtain ⟨x, x1, x2⟩ := ga.1 d hd h5
            exact ⟨x, List.mem_append_left _ x1, x2⟩
          · rcases List.mem_cons.mp hd with rfl | hd
            · exact absurd h5 (show ¬ ((11 : Nat) = 5 ∨ (11 : Nat) = 6) by decide)
            · rcases List.mem_append.mp hd with hd | hd
              · obtain ⟨x, x1, x2⟩ := gb.1 d hd h5
                exact ⟨x, List.mem_append_right _ (List.mem_append_left _ x1), x2⟩
              · rcases List.mem_cons.mp hd with rfl | hd
                · exact absurd h5 (show ¬ ((12 : Nat) = 5 ∨ (12 : Nat) = 6) by decide)
                · obtain ⟨x, x1, x2⟩ := gc.1 d hd h5
                  exact ⟨x, List.mem_append_right _ (List.mem_append_right _ x1), x2⟩
      · rcases List.mem_append.mp hx with hx | hx
        · obtain ⟨d, d1, d2⟩ := ga.2 x hx
          exact ⟨d, List.mem_cons_of_mem _ (List.mem_append_left _ d1), d2⟩
        · rcases List.mem_append.mp hx with hx | hx
          · obtain ⟨d, d1, d2⟩ := gb.2 x hx
            exact ⟨d, List.mem_cons_of_mem _ (List.mem_append_right _ (List.mem_cons_of_mem _ (List.mem_append_left _ d1))), d2⟩
          · obtain ⟨d, d1, d2⟩ := gc.2 x hx
            exact ⟨d, List.mem_cons_of_mem _ (List.mem_append_right _ (List.mem_cons_of_mem _ (List.mem_append_right _ (List.mem_cons_of_mem _ d1)))), d2⟩
end USE
/-- a node of the EXPR -/
def mM (I : pmI) (J : pmJ) (cr : Nat → Int64 → Prop) (lo hi : Nat) (pa : List Int64) (Nm : Int64 → Prop) (T : eX) (n : Nat) : Prop := ∃ T', ny I J cr lo hi T' n ∧ wt pa Nm T' ∧ ∀ u ∈ us T', u ∈ us T
section MM
variable {I : pmI} {J : pmJ} {cr : Nat → Int64 → Prop} {lo hi : Nat} {pa : List Int64} {Nm : Int64 → Prop} {T : eX}
theorem mM.bd {n : Nat} (h : mM I J cr lo hi pa Nm T n) : lo ≤ n ∧ n < hi := by
  obtain ⟨T', h1, -⟩ := h
  exact h1.bd
/-- its parts are nodes of the EXPR, or none -/
theorem mM.ch (hU : nU I lo hi) {n : Nat} (h : mM I J cr lo hi pa Nm T n) {a : Nat} (h1 : 64 ≤ a) (h2 : a ≤ 66) : I a n = -5 ∨ ∃ c, mM I J cr lo hi pa Nm T c ∧ I a n = nI c := by
  have hb := h.bd
  obtain ⟨u1, u2, u3, u4⟩ := hU n hb.1 hb.2
  obtain ⟨T', hn, hw, hs⟩ := h
  rcases (show a = 64 ∨ a = 65 ∨ a = 66 by omega) with ha | ha | ha
  all_goals
    match T', hn, hw, hs with
    | .leaf, hn, _, _ => exact hn.elim
    | .inner k q u a' .leaf, hn, hw, hs =>
      obtain ⟨-, hn⟩ := hn
      rcases hn with ⟨k1, k2, k3⟩ | ⟨k1, k2, k3⟩ | ⟨k1, k2, k3⟩ | ⟨k1, k2, c, k3, k4⟩ | ⟨k1, k2, k3, c, k4, k5⟩
      · rw [ha]; first | exact Or.inl (u1 (Or.inl k2)).1 | exact Or.inl (u1 (Or.inl k2)).2.1 | exact Or.inl (u1 (Or.inl k2)).2.2
      · rw [ha]; first | exact Or.inl (u1 (Or.inr (Or.inl k2))).1 | exact Or.inl (u1 (Or.inr (Or.inl k2))).2.1 | exact Or.inl (u1 (Or.inr (Or.inl k2))).2.2
      · rw [ha]; first | exact Or.inl (u1 (Or.inr (Or.inr k2))).1 | exact Or.inl (u1 (Or.inr (Or.inr k2))).2.1 | exact Or.inl (u1 (Or.inr (Or.inr k2))).2.2
      · subst k1
        rcases hw with h | h | h | h | h | h
        · exact absurd h (by decide)
        · exact absurd h (by decide)
        · exact absurd h.1 (by decide)
        · exact absurd h.1 (by decide)
        · rw [ha]; first | exact Or.inr ⟨c, ⟨a', k4, h.2, hs⟩, k3⟩ | exact Or.inl (u2 (Or.inl k2)).1 | exact Or.inl (u2 (Or.inl k2)).2
        · exact absurd h.1 (by decide)
      · subst k1
        rcases hw with h | h | h | h | h | h
        · exact absurd h (by decide)
        · exact absurd h (by decide)
        · exact absurd h.1 (by decide)
        · exact absurd h.1 (by decide)
        · exact absurd h.1 (by decide)
        · rw [ha]; first | exact Or.inr ⟨c, ⟨a', k5, h.2.2, hs⟩, k4⟩ | exact Or.inl (u2 (Or.inr k2)).1 | exact Or.inl (u2 (Or.inr k2)).2
    | .inner k q u a' (.inner k2' q2 u2' b' c'), hn, hw, hs =>
      have sa : ∀ x ∈ us a', x ∈ us T := fun x hx => hs x (List.mem_append_right _ (List.mem_append_left _ hx))
      have sb : ∀ x ∈ us b', x ∈ us T := fun x hx => hs x (List.mem_append_right _ (List.mem_append_right _ (List.mem_append_left _ hx)))
      have sc : ∀ x ∈ us c', x ∈ us T := fun x hx => hs x (List.mem_append_right _ (List.mem_append_right _ (List.mem_append_right _ hx)))
      obtain ⟨-, hn⟩ := hn
      rcases hn with ⟨k1, k2, k3, k4, k5, k6, k7⟩ | ⟨k1, k2, k3, ⟨c1, k4, k5⟩, c2, k6, k7⟩ | ⟨k1, k2, ⟨c1, k3, k4⟩, ⟨c2, k5, k6⟩, c3, k7, k8⟩
      · subst k1
        rcases hw with ⟨-, w2, w3, w4, w5, w6⟩ | h | h
        · obtain ⟨g, g1, g2, g3⟩ := u4 k2
          rw [k4] at g2
          have hg : q.1 = g := (nI_eq (by omega) (by omega)).mp g2
          rcases Nat.lt_or_ge a (64 + g) with ho | ho
          · right
            rw [ha] at ho ⊢
            first
              | (rcases w4 with w | w
                 · exact absurd w.1 (by omega)
                 · obtain ⟨c, e1, e2⟩ := k5 (by omega)
                   exact ⟨c, ⟨a', e2, w.2, sa⟩, e1⟩)
              | (rcases w5 with w | w
                 · exact absurd w.1 (by omega)
                 · obtain ⟨c, e1, e2⟩ := k6 (by omega)
                   exact ⟨c, ⟨b', e2, w.2, sb⟩, e1⟩)
              | (rcases w6 with w | w
                 · exact absurd w.1 (by omega)
                 · obtain ⟨c, e1, e2⟩ := k7 (by omega)
                   exact ⟨c, ⟨c', e2, w.2, sc⟩, e1⟩)
          · exact Or.inl (g3 a ho h2)
        · exact absurd h.1 (by decide)
        · exact absurd h.1 (by decide)
      · subst k1
        rcases hw with h | ⟨-, w2, w3, w4, w5⟩ | h
        · exact absurd h.1 (by decide)
        · rw [ha]; first | exact Or.inr ⟨c1, ⟨a', k5, w3, sa⟩, k4⟩ | exact Or.inr ⟨c2, ⟨b', k7, w4, sb⟩, k6⟩ | exact Or.inl (u3 k2)
        · exact absurd h.1 (by decide)
      · subst k1
        rcases hw with h | h | ⟨-, w2, w3, w4⟩
        · exact absurd h.1 (by decide)
        · exact absurd h.1 (by decide)
        · rw [ha]; first | exact Or.inr ⟨c1, ⟨a', k4, w2, sa⟩, k3⟩ | exact Or.inr ⟨c2, ⟨b', k6, w3, sb⟩, k5⟩ | exact Or.inr ⟨c3, ⟨c', k8, w4, sc⟩, k7⟩
/-- what a node that tells a NAME uses -/
theorem mM.us {n : Nat} (h : mM I J cr lo hi pa Nm T n) : (I 63 n = nI 3 → ∃ v, cr n v ∧ (true, v) ∈ us T) ∧ (I 63 n = nI 2 → ∃ v, cr n v ∧ Nm v ∧ ((false, v) ∈ us T ∨ ∃ j, ps_arg pa v 0 = some j)) := by
  obtain ⟨T', hn, hw, hs⟩ := h
  match T', hn, hw, hs with
  | .leaf, hn, _, _ => exact hn.elim
  | .inner k q u a' .leaf, hn, hw, hs =>
    obtain ⟨-, hn⟩ := hn
    have no3 : ∀ {x : Nat}, I 63 n = nI x → x ≠ 3 → x < 10 → ¬ I 63 n = nI 3 := fun {x} e1 e2 e3 e4 => e2 ((nI_eq (by omega) (by omega)).mp (e1.symm.trans e4))
    have no2 : ∀ {x : Nat}, I 63 n = nI x → x ≠ 2 → x < 10 → ¬ I 63 n = nI 2 := fun {x} e1 e2 e3 e4 => e2 ((nI_eq (by omega) (by omega)).mp (e1.symm.trans e4))
    rcases hn with ⟨k1, k2, k3⟩ | ⟨k1, k2, k3⟩ | ⟨k1, k2, k3⟩ | ⟨k1, k2, c, k3, k4⟩ | ⟨k1, k2, k3, c, k4, k5⟩
    · exact ⟨fun e => absurd e (no3 k2 (by decide) (by decide)), fun e => absurd e (no2 k2 (by decide) (by decide))⟩
    · exact ⟨fun e => absurd e (no3 k2 (by decide) (by decide)), fun e => absurd e (no2 k2 (by decide) (by decide))⟩
    · refine ⟨fun e => absurd e (no3 k2 (by decide) (by decide)), fun _ => ⟨q.2, k3, ?_⟩⟩
      rcases hw with h | h | h | h | h | h
      · rcases k1 with k1 | k1 <;> rw [k1] at h <;> exact absurd h (by decide)
      · rcases k1 with k1 | k1 <;> rw [k1] at h <;> exact absurd h (by decide)
      · exact ⟨h.2.2, Or.inr ⟨_, h.2.1⟩⟩
      · refine ⟨h.2.2, Or.inl (hs _ ?_)⟩
        obtain ⟨rfl, -⟩ := h
        exact List.mem_singleton.mpr rfl
      · rcases k1 with k1 | k1 <;> rw [k1] at h <;> exact absurd h.1 (by decide)
      · rcases k1 with k1 | k1 <;> rw [k1] at h <;> exact absurd h.1 (by decide)
    · exact ⟨fun e => absurd e (no3 k2 (by decide) (by decide)), fun e => absurd e (no2 k2 (by decide) (by decide))⟩
    · exact ⟨fun e => absurd e (no3 k2 (by decide) (by decide)), fun e => absurd e (no2 k2 (by decide) (by decide))⟩
  | .inner k q u a' (.inner k2' q2 u2' b' c'), hn, hw, hs =>
    obtain ⟨-, hn⟩ := hn
    have no2 : ∀ {x : Nat}, I 63 n = nI x → x ≠ 2 → x < 10 → ¬ I 63 n = nI 2 := fun {x} e1 e2 e3 e4 => e2 ((nI_eq (by omega) (by omega)).mp (e1.symm.trans e4))
    have no3 : ∀ {x : Nat}, I 63 n = nI x → x ≠ 3 → x < 10 → ¬ I 63 n = nI 3 := fun {x} e1 e2 e3 e4 => e2 ((nI_eq (by omega) (by omega)).mp (e1.symm.trans e4))
    rcases hn with ⟨k1, k2, k3, k4, k5, k6, k7⟩ | ⟨k1, k2, k3, k4, k5⟩ | ⟨k1, k2, k3, k4, k5⟩
    · subst k1
      exact ⟨fun _ => ⟨q.2, k3, hs _ (List.mem_append_left _ (List.mem_singleton.mpr rfl))⟩, fun e => absurd e (no2 k2 (by decide) (by decide))⟩
    · exact ⟨fun e => absurd e (no3 k2 (by decide) (by decide)), fun e => absurd e (no2 k2 (by decide) (by decide))⟩
    · exact ⟨fun e => absurd e (no3 k2 (by decide) (by decide)), fun e => absurd e (no2 k2 (by decide) (by decide))⟩
/-- every use has its node, where marks reach all parts -/
theorem us_node {mk : Nat → Prop} (hcl : ∀ n a c, mk n → lo ≤ n → n < hi → 64 ≤ a → a ≤ 66 → I a n = nI c → lo ≤ c → c < hi → mk c) : ∀ (T' : eX) (N : Nat), ny I J cr lo hi T' N → wt pa Nm T' → mk N → ∀ u ∈ us T', ∃ n, mk n ∧ (lo ≤ n ∧ n < hi) ∧ I 63 n = (if u.1 = true then nI 3 else nI 2) ∧ cr n u.2
  | .leaf, N, hn, _, _ => hn.elim
  | .inner k q u a' .leaf, N, hn, hw, hm => by
    intro x hx
    obtain ⟨hb, hn⟩ := hn
    rcases hn with ⟨k1, k2, k3⟩ | ⟨k1, k2, k3⟩ | ⟨k1, k2, k3⟩ | ⟨k1, k2, c, k3, k4⟩ | ⟨k1, k2, k3, c, k4, k5⟩
    · subst k1; cases hx
    · subst k1; cases hx
    · rcases k1 with rfl | rfl
      · cases hx
      · rw [List.mem_singleton.mp hx]
        exact ⟨N, hm, hb, k2, k3⟩
    · subst k1
      rcases hw with h | h | h | h | h | h
      · exact absurd h (by decide)
      · exact absurd h (by decide)
      · exact absurd h.1 (by decide)
      · exact absurd h.1 (by decide)
      · have hbc := k4.bd
        exact us_node hcl a' c k4 h.2 (hcl N 64 c hm hb.1 hb.2 (by decide) (by decide) k3 hbc.1 hbc.2) x hx
      · exact absurd h.1 (by decide)
    · subst k1
      rcases hw with h | h | h | h | h | h
      · exact absurd h (by decide)
      · exact absurd h (by decide)
      · exact absurd h.1 (by decide)
      · exact absurd h.1 (by decide)
      · exact absurd h.1 (by decide)
      · have hbc := k5.bd
        exact us_node hcl a' c k5 h.2.2 (hcl N 64 c hm hb.1 hb.2 (by decide) (by decide) k4 hbc.1 hbc.2) x hx
  | .inner k q u a' (.inner k2' q2 u2' b' c'), N, hn, hw, hm => by
    intro x hx
    obtain ⟨hb, hn⟩ := hn
    have go : ∀ (a c : Nat) (Ts : eX), 64 ≤ a → a ≤ 66 → I a N = nI c → ny I J cr lo hi Ts c → mk c := fun a c Ts g1 g2 g3 g4 => hcl N a c hm hb.1 hb.2 g1 g2 g3 g4.bd.1 g4.bd.2
    have lf : ∀ Ts : eX, x ∈ us Ts → Ts ≠ .leaf := fun Ts e q => by rw [q] at e; cases e
    rcases hn with ⟨k1, k2, k3, k4, k5, k6, k7⟩ | ⟨k1, k2, k3, ⟨c1, k4, k5⟩, c2, k6, k7⟩ | ⟨k1, k2, ⟨c1, k3, k4⟩, ⟨c2, k5, k6⟩, c3, k7, k8⟩
    · subst k1
      rcases hw with ⟨-, w2, w3, w4, w5, w6⟩ | h | h
      · rcases List.mem_append.mp hx with hx | hx
        · rw [List.mem_singleton.mp hx]
          exact ⟨N, hm, hb, k2, k3⟩
        · rcases List.mem_append.mp hx with hx | hx
          · rcases w4 with w | w
            · exact absurd w.2 (lf _ hx)
            · obtain ⟨c, e1, e2⟩ := k5 w.1
              exact us_node hcl a' c e2 w.2 (go 64 c _ (by decide) (by decide) e1 e2) x hx
          · rcases List.mem_append.mp hx with hx | hx
            · rcases w5 with w | w
              · exact absurd w.2 (lf _ hx)
              · obtain ⟨c, e1, e2⟩ := k6 w.1
                exact us_node hcl b' c e2 w.2 (go 65 c _ (by decide) (by decide) e1 e2) x hx
            · rcases w6 with w | w
              · exact absurd w.2 (lf _ hx)
              · obtain ⟨c, e1, e2⟩ := k7 w.1
                exact us_node hcl c' c e2 w.2 (go 66 c _ (by decide) (by decide) e1 e2) x hx
      · exact absurd h.1 (by decide)
      · exact absurd h.1 (by decide)
    · subst k1
      rcases hw with h | ⟨-, w2, w3, w4, w5⟩ | h
      · exact absurd h.1 (by decide)
      · rcases List.mem_append.mp hx with hx | hx
        · cases hx
        · rcases List.mem_append.mp hx with hx | hx
          · exact us_node hcl a' c1 k5 w3 (go 64 c1 _ (by decide) (by decide) k4 k5) x hx
          · rcases List.mem_append.mp hx with hx | hx
            · exact us_node hcl b' c2 k7 w4 (go 65 c2 _ (by decide) (by decide) k6 k7) x hx
            · exact absurd w5 (lf _ hx)
      · exact absurd h.1 (by decide)
    · subst k1
      rcases hw with h | h | ⟨-, w2, w3, w4⟩
      · exact absurd h.1 (by decide)
      · exact absurd h.1 (by decide)
      · rcases List.mem_append.mp hx with hx | hx
        · cases hx
        · rcases List.mem_append.mp hx with hx | hx
          · exact us_node hcl a' c1 k4 w2 (go 64 c1 _ (by decide) (by decide) k3 k4) x hx
          · rcases List.mem_append.mp hx with hx | hx
            · exact us_node hcl b' c2 k6 w3 (go 65 c2 _ (by decide) (by decide) k5 k6) x hx
            · exact us_node hcl c' c3 k8 w4 (go 66 c3 _ (by decide) (by decide) k7 k8) x hx
end MM
