/-- an EXPR's code has one reading; what a node stands for is told by it -/
theorem cp_hd {pa : List Int64} {Nm : Int64 → Prop} : ∀ T : eX, wt pa Nm T → ∃ x r, cp id T = x :: r ∧ 1 ≤ x.1 ∧ x.1 ≤ 6
  | .leaf, hT => hT.elim
  | .inner k q u a .leaf, hT => by
    rcases hT with rfl | rfl | ⟨rfl, _⟩ | ⟨rfl, _⟩ | ⟨rfl, _⟩ | ⟨rfl, _⟩
    · exact ⟨_, _, rfl, by show 1 ≤ 2; decide, by show 2 ≤ 6; decide⟩
    · exact ⟨_, _, rfl, by show 1 ≤ 3; decide, by show 3 ≤ 6; decide⟩
    · exact ⟨_, _, rfl, by show 1 ≤ 4; decide, by show 4 ≤ 6; decide⟩
    · exact ⟨_, _, rfl, by show 1 ≤ 5; decide, by show 5 ≤ 6; decide⟩
    · exact ⟨_, _, rfl, by show 1 ≤ 1; decide, by show 1 ≤ 6; decide⟩
    · exact ⟨_, _, rfl, by show 1 ≤ 1; decide, by show 1 ≤ 6; decide⟩
  | .inner k q u a (.inner k2 q2 u2 b c), hT => by
    rcases hT with ⟨rfl, _⟩ | ⟨rfl, _⟩ | ⟨rfl, _⟩
    · exact ⟨_, _, rfl, by show 1 ≤ 6; decide, by show 6 ≤ 6; decide⟩
    · exact ⟨_, _, rfl, by show 1 ≤ 1; decide, by show 1 ≤ 6; decide⟩
    · exact ⟨_, _, rfl, by show 1 ≤ 1; decide, by show 1 ≤ 6; decide⟩
theorem cp_no {pa : List Int64} {Nm : Int64 → Prop} {T : eX} (hT : wt pa Nm T) {x : dE} {r r' : List dE} (hx : 7 ≤ x.1) (h : x :: r = cp id T ++ r') : False := by
  obtain ⟨y, r1, h1, h2, h3⟩ := cp_hd T hT
  rw [h1] at h
  have e : x = y := by injection h
  rw [e] at hx
  omega
theorem dE_1 {x y : dE} {r r' : List dE} (h : x :: r = y :: r') : x.1 = y.1 := by injection h with h1 _; rw [h1]
theorem nI_3 {a b : Nat} (h : nI a = nI b) (ha : a ≤ 3) (hb : b ≤ 3) : a = b := (nI_eq (by omega) (by omega)).mp h
theorem op_7 {x : Nat} (h : lvl x ≤ 2) : 37 ≤ x := by have := lvl_op h; omega
def nyI (T T' : eX) : Prop := ∀ (I : pmI) (J : pmJ) (cr : Nat → Int64 → Prop) (lo hi N : Nat), ny I J cr lo hi T' N → ny I J cr lo hi T N
theorem uq_o {pa : List Int64} {Nm : Int64 → Prop} {a a' : eX} {i g : Nat} {R R' : List dE} (h1 : (g < i ∧ a = .leaf) ∨ (i ≤ g ∧ wt pa Nm a)) (h2 : (g < i ∧ a' = .leaf) ∨ (i ≤ g ∧ wt pa Nm a')) (h : cp id a ++ R = cp id a' ++ R') (ih : wt pa Nm a → wt pa Nm a' → R = R' ∧ nyI a a') : R = R' ∧ (i ≤ g → nyI a a') := by
  rcases h1 with ⟨g1, rfl⟩ | ⟨g1, h1⟩
  · rcases h2 with ⟨g2, rfl⟩ | ⟨g2, h2⟩
    · exact ⟨h, fun q => absurd q (by omega)⟩
    · exact absurd g2 (by omega)
  · rcases h2 with ⟨g2, rfl⟩ | ⟨g2, h2⟩
    · exact absurd g2 (by omega)
    · exact ⟨(ih h1 h2).1, fun _ => (ih h1 h2).2⟩
theorem uq {pa : List Int64} {Nm : Int64 → Prop} (hl : pa.length ≤ 3) : ∀ (T T' : eX) (r r' : List dE), wt pa Nm T → wt pa Nm T' → cp id T ++ r = cp id T' ++ r' → r = r' ∧ nyI T T'
  | .leaf, _, _, _, hT, _, _ => hT.elim
  | .inner k q u a .leaf, T', r, r', hT, hT', h => by
    rcases hT with rfl | rfl | ⟨rfl, t2, t3⟩ | ⟨rfl, t2, t3⟩ | ⟨rfl, t2⟩ | ⟨rfl, t2, t3⟩
    · match T', hT', h with
      | .inner k' q' u' a' .leaf, hT', h =>
        rcases hT' with rfl | rfl | ⟨rfl, w2, w3⟩ | ⟨rfl, w2, w3⟩ | ⟨rfl, w2⟩ | ⟨rfl, w2, w3⟩
        · have h : (2, 0, q.2) :: r = ((2, 0, q'.2) :: r' : List dE) := h
          injection h with h1 h2
          injection h1 with _ h1
          injection h1 with _ h1
          refine ⟨h2, fun I J cr lo hi N hn => ?_⟩
          obtain ⟨hb, e1, e2⟩ := ny2 hn
          exact ⟨hb, Or.inl ⟨rfl, e1, by rw [h1]; exact e2⟩⟩
        · exact absurd (dE_1 h) (by show ¬ 2 = 3; decide)
        · exact absurd (dE_1 h) (by show ¬ 2 = 4; decide)
        · exact absurd (dE_1 h) (by show ¬ 2 = 5; decide)
        · exact absurd (dE_1 h) (by show ¬ 2 = 1; decide)
        · exact absurd (dE_1 h) (by show ¬ 2 = 1; decide)
      | .inner k' q' u' a' (.inner k2 q2 u2 b' c'), hT', h =>
        rcases hT' with ⟨rfl, _⟩ | ⟨rfl, _⟩ | ⟨rfl, _⟩
        · exact absurd (dE_1 h) (by show ¬ 2 = 6; decide)
        · exact absurd (dE_1 h) (by show ¬ 2 = 1; decide)
        · exact absurd (dE_1 h) (by show ¬ 2 = 1; decide)
    · match T', hT', h with
      | .inner k' q' u' a' .leaf, hT', h =>
        rcases hT' with rfl | rfl | ⟨rfl, w2, w3⟩ | ⟨rfl, w2, w3⟩ | ⟨rfl, w2⟩ | ⟨rfl, w2, w3⟩
        · exact absurd (dE_1 h) (by show ¬ 3 = 2; decide)
        · have h : (3, q.2.toInt32, 0) :: r = ((3, q'.2.toInt32, 0) :: r' : List dE) := h
          injection h with h1 h2
          injection h1 with _ h1
          injection h1 with h1 _
          refine ⟨h2, fun I J cr lo hi N hn => ?_⟩
          obtain ⟨hb, e1, e2⟩ := ny3 hn
          exact ⟨hb, Or.inr (Or.inl ⟨rfl, e1, by rw [h1]; exact e2⟩)⟩
        · exact absurd (dE_1 h) (by show ¬ 3 = 4; decide)
        · exact absurd (dE_1 h) (by show ¬ 3 = 5; decide)
        · exact absurd (dE_1 h) (by show ¬ 3 = 1; decide)
        · exact absurd (dE_1 h) (by show ¬ 3 = 1; decide)
      | .inner k' q' u' a' (.inner k2 q2 u2 b' c'), hT', h =>
        rcases hT' with ⟨rfl, _⟩ | ⟨rfl, _⟩ | ⟨rfl, _⟩
        · exact absurd (dE_1 h) (by show ¬ 3 = 6; decide)
        · exact absurd (dE_1 h) (by show ¬ 3 = 1; decide)
        · exact absurd (dE_1 h) (by show ¬ 3 = 1; decide)
    · match T', hT', h with
      | .inner k' q' u' a' .leaf, hT', h =>
        rcases hT' with rfl | rfl | ⟨rfl, w2, w3⟩ | ⟨rfl, w2, w3⟩ | ⟨rfl, w2⟩ | ⟨rfl, w2, w3⟩
        · exact absurd (dE_1 h) (by show ¬ 4 = 2; decide)
        · exact absurd (dE_1 h) (by show ¬ 4 = 3; decide)
        · have h : (4, nI q.1, 0) :: r = ((4, nI q'.1, 0) :: r' : List dE) := h
          injection h with h1 h2
          injection h1 with _ h1
          injection h1 with h1 _
          have p1 := ps_arg_lt t2
          have p2 := ps_arg_lt w2
          refine ⟨h2, fun I J cr lo hi N hn => ?_⟩
          obtain ⟨hb, e1, e2⟩ := ny4 hn
          · have e3 : q.1 = q'.1 := (nI_eq (by omega) (by omega)).mp h1
            have e4 : q.2 = q'.2 := by
              have g1 := p1.2.2
              have g2 := p2.2.2
              rw [e3, g2] at g1
              exact (Option.some.inj g1).symm
            exact ⟨hb, Or.inr (Or.inr (Or.inl ⟨Or.inl rfl, e1, by rw [e4]; exact e2⟩))⟩
        · exact absurd (dE_1 h) (by show ¬ 4 = 5; decide)
        · exact absurd (dE_1 h) (by show ¬ 4 = 1; decide)
        · exact absurd (dE_1 h) (by show ¬ 4 = 1; decide)
      | .inner k' q' u' a' (.inner k2 q2 u2 b' c'), hT', h =>
        rcases hT' with ⟨rfl, _⟩ | ⟨rfl, _⟩ | ⟨rfl, _⟩
        · exact absurd (dE_1 h) (by show ¬ 4 = 6; decide)
        · exact absurd (dE_1 h) (by show ¬ 4 = 1; decide)
        · exact absurd (dE_1 h) (by show ¬ 4 = 1; decide)
    · match T', hT', h with
      | .inner k' q' u' a' .leaf, hT', h =>
        rcases hT' with rfl | rfl | ⟨rfl, w2, w3⟩ | ⟨rfl, w2, w3⟩ | ⟨rfl, w2⟩ | ⟨rfl, w2, w3⟩
        · exact absurd (dE_1 h) (by show ¬ 5 = 2; decide)
        · exact absurd (dE_1 h) (by show ¬ 5 = 3; decide)
        · exact absurd (dE_1 h) (by show ¬ 5 = 4; decide)
        · have h : (5, 0, q.2) :: r = ((5, 0, q'.2) :: r' : List dE) := h
          injection h with h1 h2
          injection h1 with _ h1
          injection h1 with _ h1
          refine ⟨h2, fun I J cr lo hi N hn => ?_⟩
          obtain ⟨hb, e1, e2⟩ := ny5 hn
          exact ⟨hb, Or.inr (Or.inr (Or.inl ⟨Or.inr rfl, e1, by rw [h1]; exact e2⟩))⟩
        · exact absurd (dE_1 h) (by show ¬ 5 = 1; decide)
        · exact absurd (dE_1 h) (by show ¬ 5 = 1; decide)
      | .inner k' q' u' a' (.inner k2 q2 u2 b' c'), hT', h =>
        rcases hT' with ⟨rfl, _⟩ | ⟨rfl, _⟩ | ⟨rfl, _⟩
        · exact absurd (dE_1 h) (by show ¬ 5 = 6; decide)
        · exact absurd (dE_1 h) (by show ¬ 5 = 1; decide)
        · exact absurd (dE_1 h) (by show ¬ 5 = 1; decide)
    · match T', hT', h with
      | .inner k' q' u' a' .leaf, hT', h =>
        rcases hT' with rfl | rfl | ⟨rfl, w2, w3⟩ | ⟨rfl, w2, w3⟩ | ⟨rfl, w2⟩ | ⟨rfl, w2, w3⟩
        · exact absurd (dE_1 h) (by show ¬ 1 = 2; decide)
        · exact absurd (dE_1 h) (by show ¬ 1 = 3; decide)
        · exact absurd (dE_1 h) (by show ¬ 1 = 4; decide)
        · exact absurd (dE_1 h) (by show ¬ 1 = 5; decide)
        · rw [cp7, cp7] at h
          simp only [List.cons_append, List.append_assoc, List.nil_append] at h
          injection h with _ h
          obtain ⟨g1, g2⟩ := uq hl a a' _ _ t2 w2 h
          injection g1 with _ g1
          refine ⟨g1, fun I J cr lo hi N hn => ?_⟩
          obtain ⟨hb, e1, c, e2, e3⟩ := ny7 hn
          exact ⟨hb, Or.inr (Or.inr (Or.inr (Or.inl ⟨rfl, e1, c, e2, g2 _ _ _ _ _ _ e3⟩)))⟩
        · rw [cp7, cp8] at h
          simp only [List.cons_append, List.append_assoc, List.nil_append] at h
          injection h with _ h
          exact absurd (dE_1 (uq hl a a' _ _ t2 w3 h).1) (by show ¬ 10 = 9; decide)
      | .inner k' q' u' a' (.inner k2 q2 u2 b' c'), hT', h =>
        rcases hT' with ⟨rfl, _⟩ | ⟨rfl, w1, w2, w3, w4⟩ | ⟨rfl, w2, w3, w4⟩
        · exact absurd (dE_1 h) (by show ¬ 1 = 6; decide)
        · rw [cp7, cp9] at h
          simp only [List.cons_append, List.append_assoc, List.nil_append] at h
          injection h with _ h
          exact (cp_no w3 (by show 7 ≤ 10; decide) (uq hl a a' _ _ t2 w2 h).1).elim
        · rw [cp7, cp10] at h
          simp only [List.cons_append, List.append_assoc, List.nil_append] at h
          injection h with _ h
          exact absurd (dE_1 (uq hl a a' _ _ t2 w2 h).1) (by show ¬ 10 = 11; decide)
    · match T', hT', h with
      | .inner k' q' u' a' .leaf, hT', h =>
        rcases hT' with rfl | rfl | ⟨rfl, w2, w3⟩ | ⟨rfl, w2, w3⟩ | ⟨rfl, w2⟩ | ⟨rfl, w2, w3⟩
        · exact absurd (dE_1 h) (by show ¬ 1 = 2; decide)
        · exact absurd (dE_1 h) (by show ¬ 1 = 3; decide)
        · exact absurd (dE_1 h) (by show ¬ 1 = 4; decide)
        · exact absurd (dE_1 h) (by show ¬ 1 = 5; decide)
        · rw [cp8, cp7] at h
          simp only [List.cons_append, List.append_assoc, List.nil_append] at h
          injection h with _ h
          exact absurd (dE_1 (uq hl a a' _ _ t3 w2 h).1) (by show ¬ 9 = 10; decide)
        · rw [cp8, cp8] at h
          simp only [List.cons_append, List.append_assoc, List.nil_append] at h
          injection h with _ h
          obtain ⟨g1, g2⟩ := uq hl a a' _ _ t3 w3 h
          injection g1 with g0 g1
          injection g0 with _ g0
          injection g0 with _ g0
          refine ⟨g1, fun I J cr lo hi N hn => ?_⟩
          obtain ⟨hb, e1, e4, c, e2, e3⟩ := ny8 hn
          have g0 : q.2 = q'.2 := g0
          exact ⟨hb, Or.inr (Or.inr (Or.inr (Or.inr ⟨rfl, e1, by rw [g0]; exact e4, c, e2, g2 _ _ _ _ _ _ e3⟩)))⟩
      | .inner k' q' u' a' (.inner k2 q2 u2 b' c'), hT', h =>
        rcases hT' with ⟨rfl, _⟩ | ⟨rfl, w1, w2, w3, w4⟩ | ⟨rfl, w2, w3, w4⟩
        · exact absurd (dE_1 h) (by show ¬ 1 = 6; decide)
        · rw [cp8, cp9] at h
          simp only [List.cons_append, List.append_assoc, List.nil_append] at h
          injection h with _ h
          exact (cp_no w3 (by show 7 ≤ 9; decide) (uq hl a a' _ _ t3 w2 h).1).elim
        · rw [cp8, cp10] at h
          simp only [List.cons_append, List.append_assoc, List.nil_append] at h
          injection h with _ h
          exact absurd (dE_1 (uq hl a a' _ _ t3 w2 h).1) (by show ¬ 9 = 11; decide)
  | .inner k q u a (.inner k2 q2 u2 b c), T', r, r', hT, hT', h => by
    rcases hT with ⟨rfl, t1, t2, ta, tb, tc⟩ | ⟨rfl, t1, t2, t3, t4⟩ | ⟨rfl, t2, t3, t4⟩
    · match T', hT', h with
      | .inner k' q' u' a' .leaf, hT', h =>
        rcases hT' with rfl | rfl | ⟨rfl, w2, w3⟩ | ⟨rfl, w2, w3⟩ | ⟨rfl, w2⟩ | ⟨rfl, w2, w3⟩
        · exact absurd (dE_1 h) (by show ¬ 6 = 2; decide)
        · exact absurd (dE_1 h) (by show ¬ 6 = 3; decide)
        · exact absurd (dE_1 h) (by show ¬ 6 = 4; decide)
        · exact absurd (dE_1 h) (by show ¬ 6 = 5; decide)
        · exact absurd (dE_1 h) (by show ¬ 6 = 1; decide)
        · exact absurd (dE_1 h) (by show ¬ 6 = 1; decide)
      | .inner k' q' u' a' (.inner k2' q2' u2' b' c'), hT', h =>
        rcases hT' with ⟨rfl, w1, w2, wa, wb, wc⟩ | ⟨rfl, _⟩ | ⟨rfl, _⟩
        · rw [cp6, cp6] at h
          simp only [List.cons_append, List.append_assoc, List.nil_append] at h
          injection h with h0 h
          injection h0 with _ h0
          injection h0 with h01 h02
          have e0 : q.1 = q'.1 := nI_3 h01 t2 w2
          have e02 : q.2 = q'.2 := h02
          rw [← e0] at wa wb wc
          obtain ⟨ga, na⟩ := uq_o ta wa h (fun x y => uq hl a a' _ _ x y h)
          obtain ⟨gb, nb⟩ := uq_o tb wb ga (fun x y => uq hl b b' _ _ x y ga)
          obtain ⟨gc, nc⟩ := uq_o tc wc gb (fun x y => uq hl c c' _ _ x y gb)
          injection gc with _ gc
          refine ⟨gc, fun I J cr lo hi N hn => ?_⟩
          obtain ⟨hb, e1, e2, e3, e4, e5, e6⟩ := ny6 hn
          refine ⟨hb, Or.inl ⟨rfl, e1, by rw [e02]; exact e2, by rw [e0]; exact e3, fun hq => ?_, fun hq => ?_, fun hq => ?_⟩⟩
          · obtain ⟨x, y, z⟩ := e4 (by omega)
            exact ⟨x, y, na hq _ _ _ _ _ _ z⟩
          · obtain ⟨x, y, z⟩ := e5 (by omega)
            exact ⟨x, y, nb hq _ _ _ _ _ _ z⟩
          · obtain ⟨x, y, z⟩ := e6 (by omega)
            exact ⟨x, y, nc hq _ _ _ _ _ _ z⟩
        · exact absurd (dE_1 h) (by show ¬ 6 = 1; decide)
        · exact absurd (dE_1 h) (by show ¬ 6 = 1; decide)
    · match T', hT', h with
      | .inner k' q' u' a' .leaf, hT', h =>
        rcases hT' with rfl | rfl | ⟨rfl, w2, w3⟩ | ⟨rfl, w2, w3⟩ | ⟨rfl, w2⟩ | ⟨rfl, w2, w3⟩
        · exact absurd (dE_1 h) (by show ¬ 1 = 2; decide)
        · exact absurd (dE_1 h) (by show ¬ 1 = 3; decide)
        · exact absurd (dE_1 h) (by show ¬ 1 = 4; decide)
        · exact absurd (dE_1 h) (by show ¬ 1 = 5; decide)
        · rw [cp9, cp7] at h
          simp only [List.cons_append, List.append_assoc, List.nil_append] at h
          injection h with _ h
          exact (cp_no t3 (by show 7 ≤ 10; decide) (uq hl a a' _ _ t2 w2 h).1.symm).elim
        · rw [cp9, cp8] at h
          simp only [List.cons_append, List.append_assoc, List.nil_append] at h
          injection h with _ h
          exact (cp_no t3 (by show 7 ≤ 9; decide) (uq hl a a' _ _ t2 w3 h).1.symm).elim
      | .inner k' q' u' a' (.inner k2' q2' u2' b' c'), hT', h =>
        rcases hT' with ⟨rfl, _⟩ | ⟨rfl, w1, w2, w3, w4⟩ | ⟨rfl, w2, w3, w4⟩
        · exact absurd (dE_1 h) (by show ¬ 1 = 6; decide)
        · rw [cp9, cp9] at h
          simp only [List.cons_append, List.append_assoc, List.nil_append] at h
          injection h with _ h
          obtain ⟨g1, g2⟩ := uq hl a a' _ _ t2 w2 h
          obtain ⟨g3, g4⟩ := uq hl b b' _ _ t3 w3 g1
          injection g3 with g0 g3
          injection g0 with g0 _
          have g0 : q.1 = q'.1 := g0
          refine ⟨g3, fun I J cr lo hi N hn => ?_⟩
          obtain ⟨hb, e1, e2, ⟨x1, y1, z1⟩, x2, y2, z2⟩ := ny9 hn
          exact ⟨hb, Or.inr (Or.inl ⟨rfl, e1, by rw [g0]; exact e2, ⟨x1, y1, g2 _ _ _ _ _ _ z1⟩, x2, y2, g4 _ _ _ _ _ _ z2⟩)⟩
        · rw [cp9, cp10] at h
          simp only [List.cons_append, List.append_assoc, List.nil_append] at h
          injection h with _ h
          exact (cp_no t3 (by show 7 ≤ 11; decide) (uq hl a a' _ _ t2 w2 h).1.symm).elim
    · match T', hT', h with
      | .inner k' q' u' a' .leaf, hT', h =>
        rcases hT' with rfl | rfl | ⟨rfl, w2, w3⟩ | ⟨rfl, w2, w3⟩ | ⟨rfl, w2⟩ | ⟨rfl, w2, w3⟩
        · exact absurd (dE_1 h) (by show ¬ 1 = 2; decide)
        · exact absurd (dE_1 h) (by show ¬ 1 = 3; decide)
        · exact absurd (dE_1 h) (by show ¬ 1 = 4; decide)
        · exact absurd (dE_1 h) (by show ¬ 1 = 5; decide)
        · rw [cp10, cp7] at h
          simp only [List.cons_append, List.append_assoc, List.nil_append] at h
          injection h with _ h
          exact absurd (dE_1 (uq hl a a' _ _ t2 w2 h).1) (by show ¬ 11 = 10; decide)
        · rw [cp10, cp8] at h
          simp only [List.cons_append, List.append_assoc, List.nil_append] at h
          injection h with _ h
          exact absurd (dE_1 (uq hl a a' _ _ t2 w3 h).1) (by show ¬ 11 = 9; decide)
      | .inner k' q' u' a' (.inner k2' q2' u2' b' c'), hT', h =>
        rcases hT' with ⟨rfl, _⟩ | ⟨rfl, w1, w2, w3, w4⟩ | ⟨rfl, w2, w3, w4⟩
        · exact absurd (dE_1 h) (by show ¬ 1 = 6; decide)
        · rw [cp10, cp9] at h
          simp only [List.cons_append, List.append_assoc, List.nil_append] at h
          injection h with _ h
          exact (cp_no w3 (by show 7 ≤ 11; decide) (uq hl a a' _ _ t2 w2 h).1).elim
        · rw [cp10, cp10] at h
          simp only [List.cons_append, List.append_assoc, List.nil_append] at h
          injection h with _ h
          obtain ⟨g1, g2⟩ := uq hl a a' _ _ t2 w2 h
          injection g1 with _ g1
          obtain ⟨g3, g4⟩ := uq hl b b' _ _ t3 w3 g1
          injection g3 with _ g3
          obtain ⟨g5, g6⟩ := uq hl c c' _ _ t4 w4 g3
          refine ⟨g5, fun I J cr lo hi N hn => ?_⟩
          obtain ⟨hb, e1, ⟨x1, y1, z1⟩, ⟨x2, y2, z2⟩, x3, y3, z3⟩ := ny10 hn
          exact ⟨hb, Or.inr (Or.inr ⟨rfl, e1, ⟨x1, y1, g2 _ _ _ _ _ _ z1⟩, ⟨x2, y2, g4 _ _ _ _ _ _ z2⟩, x3, y3, g6 _ _ _ _ _ _ z3⟩)⟩
