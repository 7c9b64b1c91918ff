/-- an EXPR as a tree: a kind, a label, parts. Kinds: 1 no EXPR, 2 NUMBER, 3 RESULT, 4 ARGUMENT, 5 VARIABLE, 6 call, 7 negation, 8 FIELD, 9 operator, 10 choice -/
abbrev eX : Type := Std.DTreeMap.Internal.Impl (Nat × Int64) (fun _ => Unit)
/-- a VALUE: its kind, its WHOLE or THING -/
abbrev vV : Type := Nat × Int64
/-- a THING: the SNIPPET of its TYPE, its VALUES -/
abbrev tH : Type := Nat × List vV
/-- a SNIPPET: form, declared NAME, parts, EXPR, edition, text -/
abbrev sN : Type := Nat × Int64 × List Int64 × eX × Nat × List Nat
/-- what stays: NAMES, forms, declarers, editions, VARIABLES, SNIPPETS, RESULTS, THINGS -/
abbrev aS : Type := List Int64 × (Int64 → Nat) × (Int64 → Option Nat) × (Int64 → Nat) × (Int64 → vV) × List sN × List vV × List tH
def aS.ns (A : aS) : List Int64 := A.1
def aS.fm (A : aS) : Int64 → Nat := A.2.1
def aS.dc (A : aS) : Int64 → Option Nat := A.2.2.1
def aS.ed (A : aS) : Int64 → Nat := A.2.2.2.1
def aS.va (A : aS) : Int64 → vV := A.2.2.2.2.1
def aS.sn (A : aS) : List sN := A.2.2.2.2.2.1
def aS.rs (A : aS) : List vV := A.2.2.2.2.2.2.1
def aS.th (A : aS) : List tH := A.2.2.2.2.2.2.2
def aS.at (A : aS) (s : Nat) : sN := A.sn.getD s (0, 0, [], .leaf, 0, [])
/-- the SNIPPET that declared a NAME -/
def aS.by (A : aS) (v : Int64) : Nat := (A.dc v).getD 0
def sN.form (x : sN) : Nat := x.1
def sN.dec (x : sN) : Int64 := x.2.1
def sN.pa (x : sN) : List Int64 := x.2.2.1
def sN.tr (x : sN) : eX := x.2.2.2.1
def sN.ed (x : sN) : Nat := x.2.2.2.2.1
def sN.tx (x : sN) : List Nat := x.2.2.2.2.2
abbrev evR : Type := Except Nat (vV × Nat × List tH)
def ebd (r : evR) (f : vV → Nat → List tH → evR) : evR := match r with
  | .error e => .error e
  | .ok (v, s, t) => f v s t
/-- what is wrong with a call: 0 nothing -/
def ckC (A : aS) (dp g : Nat) (v : Int64) : Nat :=
  if A.fm v = 2 ∨ A.fm v = 3 then (if (A.at (A.by v)).pa.length = g then (if A.fm v = 2 ∧ 20 ≤ dp then 9 else 0) else 5) else 1
def ckW (v : vV) : Nat := if v.1 = 1 then 0 else if v.1 = 0 then 2 else 3
def ckO (x : Nat) (l r : vV) : Nat :=
  if l.1 = 0 ∨ r.1 = 0 then 2 else if l.1 ≠ r.1 ∨ (l.1 = 2 ∧ x ≠ 61) then 3 else if r.2 = 0 ∧ (x = 47 ∨ x = 37) then 4 else 0
def opV (x : Nat) (l r : Int64) : Int64 :=
  if x = 43 then l + r else if x = 45 then l - r else if x = 42 then l * r else if x = 47 then l / r else if x = 37 then l - l / r * r else if x = 60 then (if l < r then 1 else 0) else (if l = r then 1 else 0)
/-- the THING that a VALUE is -/
def thO (t : List tH) (v : vV) : tH := t.getD v.2.toInt.toNat (0, [])
def ckF (A : aS) (t : List tH) (v : vV) (w : Int64) : Nat :=
  if v.1 = 2 then (if A.fm (A.at (thO t v).1).dec = 3 ∧ A.dc (A.at (thO t v).1).dec = some (thO t v).1 then (if ps_arg (A.at (thO t v).1).pa w 0 = none then 6 else 0) else 7) else if v.1 = 0 then 2 else 3
def fdV (A : aS) (t : List tH) (v : vV) (w : Int64) : vV := (thO t v).2.getD ((ps_arg (A.at (thO t v).1).pa w 0).getD 0) (0, 0)
/-- a call whose EXPRS have these VALUES -/
def fin (A : aS) (cl : Nat → List vV → Nat → List tH → evR) (w : Int64) (vs : List vV) (s : Nat) (t : List tH) : evR :=
  if A.fm w = 3 then .ok ((2, lN t.length), s, t ++ [(A.by w, vs)]) else cl (A.by w) vs s t
/-- an EXPR is worked out; cl: how a MEMBER is, dp MEMBERS are open, ar its ARGUMENTS, s STEPS so far, t THINGS so far -/
def evT (A : aS) (cl : Nat → List vV → Nat → List tH → evR) (dp : Nat) (ar : List vV) : eX → Nat → List tH → evR
  | .leaf, _, _ => .error 0
  | .inner k q _ a .leaf, s, t =>
    if k = 1 then .ok ((0, 0), s, t)
    else if 400 ≤ s then .error 8
    else if k = 2 then .ok ((1, q.2), s + 1, t)
    else if k = 3 then (if 1 ≤ q.2.toInt32.toInt ∧ q.2.toInt32.toInt ≤ (A.rs.length : Int) then .ok (A.rs.getD (q.2.toInt32.toInt.toNat - 1) (0, 0), s + 1, t) else .error 1)
    else if k = 4 then .ok (ar.getD q.1 (0, 0), s + 1, t)
    else if k = 5 then (if A.fm q.2 = 1 then .ok (A.va q.2, s + 1, t) else .error 1)
    else if k = 7 then ebd (evT A cl dp ar a (s + 1) t) fun v s1 t1 => if ckW v = 0 then .ok ((1, -v.2), s1, t1) else .error (ckW v)
    else ebd (evT A cl dp ar a (s + 1) t) fun v s1 t1 => if ckF A t1 v q.2 = 0 then .ok (fdV A t1 v q.2, s1, t1) else .error (ckF A t1 v q.2)
  | .inner k q _ a (.inner _ _ _ b c), s, t =>
    if 400 ≤ s then .error 8
    else if k = 6 then (if ckC A dp q.1 q.2 = 0 then (if q.1 = 0 then fin A cl q.2 [] (s + 1) t else ebd (evT A cl dp ar a (s + 1) t) fun v1 s1 t1 => if q.1 = 1 then fin A cl q.2 [v1] s1 t1 else ebd (evT A cl dp ar b s1 t1) fun v2 s2 t2 => if q.1 = 2 then fin A cl q.2 [v1, v2] s2 t2 else ebd (evT A cl dp ar c s2 t2) fun v3 s3 t3 => fin A cl q.2 [v1, v2, v3] s3 t3) else .error (ckC A dp q.1 q.2))
    else if k = 9 then ebd (evT A cl dp ar a (s + 1) t) fun v1 s1 t1 => ebd (evT A cl dp ar b s1 t1) fun v2 s2 t2 => if ckO q.1 v1 v2 = 0 then .ok ((1, opV q.1 v1.2 v2.2), s2, t2) else .error (ckO q.1 v1 v2)
    else ebd (evT A cl dp ar a (s + 1) t) fun v1 s1 t1 => if ckW v1 = 0 then (if v1.2 = 0 then evT A cl dp ar c s1 t1 else evT A cl dp ar b s1 t1) else .error (ckW v1)
/-- a MEMBER is worked out; so many more may be open -/
def evC (A : aS) : Nat → Nat → List vV → Nat → List tH → evR
  | 0 => fun _ _ _ _ => .error 0
  | k + 1 => fun s' vs s t => evT A (evC A k) (20 - k) vs (A.at s').tr s t
/-- a deed: its kind, count, core -/
abbrev dE : Type := Nat × Int32 × Int64
/-- the code of an EXPR; h: the core that a NAME has -/
def cp (h : Int64 → Int64) : eX → List dE
  | .leaf => []
  | .inner k q _ a .leaf =>
    if k = 1 then [(7, 0, 0)] else if k = 2 then [(2, 0, q.2)] else if k = 3 then [(3, q.2.toInt32, 0)] else if k = 4 then [(4, nI q.1, 0)] else if k = 5 then [(5, 0, h q.2)]
    else if k = 7 then (1, 0, 0) :: (cp h a ++ [(10, 0, 0)]) else (1, 0, 0) :: (cp h a ++ [(9, 0, h q.2)])
  | .inner k q _ a (.inner _ _ _ b c) =>
    if k = 6 then (6, nI q.1, h q.2) :: (cp h a ++ (cp h b ++ (cp h c ++ [(8, nI q.1, h q.2)])))
    else if k = 9 then (1, 0, 0) :: (cp h a ++ (cp h b ++ [(q.1, 0, 0)]))
    else (1, 0, 0) :: (cp h a ++ (11, nI ((cp h b).length + 1), 0) :: (cp h b ++ (12, nI (cp h c).length, 0) :: cp h c))
/-- an EXPR as the reading gives it: pa: what are ARGUMENTS, Nm: what are NAMES -/
def wt (pa : List Int64) (Nm : Int64 → Prop) : eX → Prop
  | .leaf => False
  | .inner k q _ a .leaf => k = 2 ∨ k = 3 ∨ (k = 4 ∧ ps_arg pa q.2 0 = some q.1 ∧ Nm q.2) ∨ (k = 5 ∧ ps_arg pa q.2 0 = none ∧ Nm q.2) ∨ (k = 7 ∧ wt pa Nm a) ∨ (k = 8 ∧ Nm q.2 ∧ wt pa Nm a)
  | .inner k q _ a (.inner _ _ _ b c) => (k = 6 ∧ Nm q.2 ∧ q.1 ≤ 3 ∧ ((q.1 < 1 ∧ a = .leaf) ∨ (1 ≤ q.1 ∧ wt pa Nm a)) ∧ ((q.1 < 2 ∧ b = .leaf) ∨ (2 ≤ q.1 ∧ wt pa Nm b)) ∧ ((q.1 < 3 ∧ c = .leaf) ∨ (3 ≤ q.1 ∧ wt pa Nm c))) ∨ (k = 9 ∧ lvl q.1 ≤ 2 ∧ wt pa Nm a ∧ wt pa Nm b ∧ c = .leaf) ∨ (k = 10 ∧ wt pa Nm a ∧ wt pa Nm b ∧ wt pa Nm c)
/-- node N of the reference stands for this EXPR -/
def ny (I : pmI) (J : pmJ) (cr : Nat → Int64 → Prop) (lo hi : Nat) : eX → Nat → Prop
  | .leaf, _ => False
  | .inner k q _ a .leaf, N => (lo ≤ N ∧ N < hi) ∧ ((k = 2 ∧ I 63 N = nI 0 ∧ J 70 N = q.2) ∨ (k = 3 ∧ I 63 N = nI 1 ∧ (J 70 N).toInt32 = q.2.toInt32) ∨ ((k = 4 ∨ k = 5) ∧ I 63 N = nI 2 ∧ cr N q.2) ∨ (k = 7 ∧ I 63 N = nI 4 ∧ ∃ c, I 64 N = nI c ∧ ny I J cr lo hi a c) ∨ (k = 8 ∧ I 63 N = nI 5 ∧ cr N q.2 ∧ ∃ c, I 64 N = nI c ∧ ny I J cr lo hi a c))
  | .inner k q _ a (.inner _ _ _ b c), N => (lo ≤ N ∧ N < hi) ∧ ((k = 6 ∧ I 63 N = nI 3 ∧ cr N q.2 ∧ I 69 N = nI q.1 ∧ (1 ≤ q.1 → ∃ c1, I 64 N = nI c1 ∧ ny I J cr lo hi a c1) ∧ (2 ≤ q.1 → ∃ c2, I 65 N = nI c2 ∧ ny I J cr lo hi b c2) ∧ (3 ≤ q.1 → ∃ c3, I 66 N = nI c3 ∧ ny I J cr lo hi c c3)) ∨ (k = 9 ∧ I 63 N = nI 6 ∧ J 70 N = (nI q.1).toInt64 ∧ (∃ c1, I 64 N = nI c1 ∧ ny I J cr lo hi a c1) ∧ ∃ c2, I 65 N = nI c2 ∧ ny I J cr lo hi b c2) ∨ (k = 10 ∧ I 63 N = nI 7 ∧ (∃ c1, I 64 N = nI c1 ∧ ny I J cr lo hi a c1) ∧ (∃ c2, I 65 N = nI c2 ∧ ny I J cr lo hi b c2) ∧ ∃ c3, I 66 N = nI c3 ∧ ny I J cr lo hi c c3))
def dPl (x : dD) : dE := (x.1, x.2.2.1, x.2.2.2)
theorem nd_ny {I : pmI} {J : pmJ} {cr : Nat → Int64 → Prop} {pa : List Int64} {Nm : Int64 → Prop} {lo hi : Nat} (hN : ∀ N v, lo ≤ N → N < hi → cr N v → Nm v) : ∀ (f N : Nat) (L : List dD), nd I J cr (fun v => ps_arg pa v 0) lo hi f N L → ∃ T, wt pa Nm T ∧ ny I J cr lo hi T N ∧ L.map dPl = cp id T
  | 0, N, L, h => h.elim
  | f + 1, N, L, h => by
    obtain ⟨hb, p, hp, h⟩ := h
    have nl : ∀ T, wt pa Nm T → ∃ k q u a r, T = .inner k q u a r := fun T hT => by
      cases T with
      | leaf => exact hT.elim
      | inner k q u a r => exact ⟨k, q, u, a, r, rfl⟩
    rcases h with ⟨v, h1, h2, h3⟩ | ⟨v, h1, h2, h3⟩ | ⟨v, q, h1, h2, h3, h4⟩ | ⟨v, g', M1, M2, M3, h1, h2, h3, h4, h5, h6, h7, h8⟩ | ⟨c, M, h1, h2, h3, h4⟩ | ⟨v, c, M, h1, h2, h3, h4, h5⟩ | ⟨x, c1, c2, M1, M2, h1, h2, h3, h4, h5, h6, h7, h8⟩ | ⟨c1, c2, c3, M1, M2, M3, h1, h2, h3, h4, h5, h6, h7, h8⟩
    · exact ⟨.inner 2 (0, v) () .leaf .leaf, Or.inl rfl, ⟨hb, Or.inl ⟨rfl, h1, h2⟩⟩, by rw [h3]; rfl⟩
    · exact ⟨.inner 3 (0, v) () .leaf .leaf, Or.inr (Or.inl rfl), ⟨hb, Or.inr (Or.inl ⟨rfl, h1, by rw [h2]⟩)⟩, by rw [h3]; rfl⟩
    · cases q with
      | none => exact ⟨.inner 5 (0, v) () .leaf .leaf, Or.inr (Or.inr (Or.inr (Or.inl ⟨rfl, h3, hN N v hb.1 hb.2 h2⟩))), ⟨hb, Or.inr (Or.inr (Or.inl ⟨Or.inr rfl, h1, h2⟩))⟩, by rw [h4]; rfl⟩
      | some j => exact ⟨.inner 4 (j, v) () .leaf .leaf, Or.inr (Or.inr (Or.inl ⟨rfl, h3, hN N v hb.1 hb.2 h2⟩)), ⟨hb, Or.inr (Or.inr (Or.inl ⟨Or.inl rfl, h1, h2⟩))⟩, by rw [h4]; rfl⟩
    · have e1 : ∃ T, ((g' < 1 ∧ T = .leaf) ∨ (1 ≤ g' ∧ wt pa Nm T)) ∧ (1 ≤ g' → ∃ c, I 64 N = nI c ∧ ny I J cr lo hi T c) ∧ M1.map dPl = cp id T := by
        rcases h5 with ⟨h5, rfl⟩ | ⟨h5, c, h9, h10⟩
        · exact ⟨.leaf, Or.inl ⟨h5, rfl⟩, fun h => absurd h (by omega), rfl⟩
        · obtain ⟨T, t1, t2, t3⟩ := nd_ny hN f c _ h10
          exact ⟨T, Or.inr ⟨h5, t1⟩, fun _ => ⟨c, h9, t2⟩, t3⟩
      have e2 : ∃ T, ((g' < 2 ∧ T = .leaf) ∨ (2 ≤ g' ∧ wt pa Nm T)) ∧ (2 ≤ g' → ∃ c, I 65 N = nI c ∧ ny I J cr lo hi T c) ∧ M2.map dPl = cp id T := by
        rcases h6 with ⟨h5, rfl⟩ | ⟨h5, c, h9, h10⟩
        · exact ⟨.leaf, Or.inl ⟨h5, rfl⟩, fun h => absurd h (by omega), rfl⟩
        · obtain ⟨T, t1, t2, t3⟩ := nd_ny hN f c _ h10
          exact ⟨T, Or.inr ⟨h5, t1⟩, fun _ => ⟨c, h9, t2⟩, t3⟩
      have e3 : ∃ T, ((g' < 3 ∧ T = .leaf) ∨ (3 ≤ g' ∧ wt pa Nm T)) ∧ (3 ≤ g' → ∃ c, I 66 N = nI c ∧ ny I J cr lo hi T c) ∧ M3.map dPl = cp id T := by
        rcases h7 with ⟨h5, rfl⟩ | ⟨h5, c, h9, h10⟩
        · exact ⟨.leaf, Or.inl ⟨h5, rfl⟩, fun h => absurd h (by omega), rfl⟩
        · obtain ⟨T, t1, t2, t3⟩ := nd_ny hN f c _ h10
          exact ⟨T, Or.inr ⟨h5, t1⟩, fun _ => ⟨c, h9, t2⟩, t3⟩
      obtain ⟨T1, a1, b1, d1⟩ := e1
      obtain ⟨T2, a2, b2, d2⟩ := e2
      obtain ⟨T3, a3, b3, d3⟩ := e3
      refine ⟨.inner 6 (g', v) () T1 (.inner 0 (0, 0) () T2 T3), Or.inl ⟨rfl, hN N v hb.1 hb.2 h2, h4, a1, a2, a3⟩, ⟨hb, Or.inl ⟨rfl, h1, h2, h3, b1, b2, b3⟩⟩, ?_⟩
      rw [h8]
      show _ = (6, nI g', v) :: (cp id T1 ++ (cp id T2 ++ (cp id T3 ++ [(8, nI g', v)])))
      rw [List.map_cons, List.map_append, List.map_append, List.map_append, d1, d2, d3]; rfl
    · obtain ⟨T, t1, t2, t3⟩ := nd_ny hN f c _ h3
      refine ⟨.inner 7 (0, 0) () T .leaf, Or.inr (Or.inr (Or.inr (Or.inr (Or.inl ⟨rfl, t1⟩)))), ⟨hb, Or.inr (Or.inr (Or.inr (Or.inl ⟨rfl, h1, c, h2, t2⟩)))⟩, ?_⟩
      rw [h4]
      show _ = (1, 0, 0) :: (cp id T ++ [(10, 0, 0)])
      rw [List.map_cons, List.map_append, t3]; rfl
    · obtain ⟨T, t1, t2, t3⟩ := nd_ny hN f c _ h4
      refine ⟨.inner 8 (0, v) () T .leaf, Or.inr (Or.inr (Or.inr (Or.inr (Or.inr ⟨rfl, hN N v hb.1 hb.2 h2, t1⟩)))), ⟨hb, Or.inr (Or.inr (Or.inr (Or.inr ⟨rfl, h1, h2, c, h3, t2⟩)))⟩, ?_⟩
      rw [h5]
      show _ = (1, 0, 0) :: (cp id T ++ [(9, 0, v)])
      rw [List.map_cons, List.map_append, t3]; rfl
    · obtain ⟨T1, t1, t2, t3⟩ := nd_ny hN f c1 _ h6
      obtain ⟨T2, u1, u2, u3⟩ := nd_ny hN f c2 _ h7
      refine ⟨.inner 9 (x, 0) () T1 (.inner 0 (0, 0) () T2 .leaf), Or.inr (Or.inl ⟨rfl, h3, t1, u1, rfl⟩), ⟨hb, Or.inr (Or.inl ⟨rfl, h1, h2, ⟨c1, h4, t2⟩, c2, h5, u2⟩)⟩, ?_⟩
      rw [h8]
      show _ = (1, 0, 0) :: (cp id T1 ++ (cp id T2 ++ [(x, 0, 0)]))
      rw [List.map_cons, List.map_append, List.map_append, t3, u3]; rfl
    · obtain ⟨T1, t1, t2, t3⟩ := nd_ny hN f c1 _ h5
      obtain ⟨T2, u1, u2, u3⟩ := nd_ny hN f c2 _ h6
      obtain ⟨T3, w1, w2, w3⟩ := nd_ny hN f c3 _ h7
      refine ⟨.inner 10 (0, 0) () T1 (.inner 0 (0, 0) () T2 T3), Or.inr (Or.inr ⟨rfl, t1, u1, w1⟩), ⟨hb, Or.inr (Or.inr ⟨rfl, h1, ⟨c1, h2, t2⟩, ⟨c2, h3, u2⟩, c3, h4, w2⟩)⟩, ?_⟩
      rw [h8]
      show _ = (1, 0, 0) :: (cp id T1 ++ (11, nI ((cp id T2).length + 1), 0) :: (cp id T2 ++ (12, nI (cp id T3).length, 0) :: cp id T3))
      rw [List.map_cons, List.map_append, List.map_cons, List.map_append, List.map_cons, t3, ← u3, ← w3, List.length_map, List.length_map]; rfl
theorem wt.mono {pa : List Int64} {Nm Nm' : Int64 → Prop} (h : ∀ v, Nm v → Nm' v) : ∀ T, wt pa Nm T → wt pa Nm' T
  | .leaf, hT => hT.elim
  | .inner k q u a .leaf, hT => by
    rcases hT with h1 | h1 | ⟨h1, h2, h3⟩ | ⟨h1, h2, h3⟩ | ⟨h1, h2⟩ | ⟨h1, h2, h3⟩
    · exact Or.inl h1
    · exact Or.inr (Or.inl h1)
    · exact Or.inr (Or.inr (Or.inl ⟨h1, h2, h _ h3⟩))
    · exact Or.inr (Or.inr (Or.inr (Or.inl ⟨h1, h2, h _ h3⟩)))
    · exact Or.inr (Or.inr (Or.inr (Or.inr (Or.inl ⟨h1, wt.mono h a h2⟩))))
    · exact Or.inr (Or.inr (Or.inr (Or.inr (Or.inr ⟨h1, h _ h2, wt.mono h a h3⟩))))
  | .inner k q u a (.inner k2 q2 u2 b c), hT => by
    rcases hT with ⟨h1, h2, h3, h4, h5, h6⟩ | ⟨h1, h2, h3, h4, h5⟩ | ⟨h1, h2, h3, h4⟩
    · exact Or.inl ⟨h1, h _ h2, h3, h4.imp id (fun x => ⟨x.1, wt.mono h a x.2⟩), h5.imp id (fun x => ⟨x.1, wt.mono h b x.2⟩), h6.imp id (fun x => ⟨x.1, wt.mono h c x.2⟩)⟩
    · exact Or.inr (Or.inl ⟨h1, h2, wt.mono h a h3, wt.mono h b h4, h5⟩)
    · exact Or.inr (Or.inr ⟨h1, wt.mono h a h2, wt.mono h b h3, wt.mono h c h4⟩)
/-- the code of an EXPR hangs on its NAMES' cores alone -/
theorem cp_congr {pa : List Int64} {Nm : Int64 → Prop} {h h' : Int64 → Int64} (hh : ∀ v, Nm v → h v = h' v) : ∀ T, wt pa Nm T → cp h T = cp h' T
  | .leaf, hT => hT.elim
  | .inner k q u a .leaf, hT => by
    rcases hT with rfl | rfl | ⟨rfl, h2, h3⟩ | ⟨rfl, h2, h3⟩ | ⟨rfl, h2⟩ | ⟨rfl, h2, h3⟩
    · rfl
    · rfl
    · rfl
    · show [((5 : Nat), (0 : Int32), h q.2)] = [(5, 0, h' q.2)]
      rw [hh _ h3]
    · show (1, 0, 0) :: (cp h a ++ [(10, 0, 0)]) = (1, 0, 0) :: (cp h' a ++ [(10, 0, 0)])
      rw [cp_congr hh a h2]
    · show (1, 0, 0) :: (cp h a ++ [(9, 0, h q.2)]) = (1, 0, 0) :: (cp h' a ++ [(9, 0, h' q.2)])
      rw [cp_congr hh a h3, hh _ h2]
  | .inner k q u a (.inner k2 q2 u2 b c), hT => by
    rcases hT with ⟨rfl, h2, h3, h4, h5, h6⟩ | ⟨rfl, h2, h3, h4, rfl⟩ | ⟨rfl, h2, h3, h4⟩
    · show (6, nI q.1, h q.2) :: (cp h a ++ (cp h b ++ (cp h c ++ [(8, nI q.1, h q.2)]))) = (6, nI q.1, h' q.2) :: (cp h' a ++ (cp h' b ++ (cp h' c ++ [(8, nI q.1, h' q.2)])))
      have e1 : cp h a = cp h' a := by
        rcases h4 with ⟨_, rfl⟩ | ⟨_, h4⟩
        · rfl
        · exact cp_congr hh a h4
      have e2 : cp h b = cp h' b := by
        rcases h5 with ⟨_, rfl⟩ | ⟨_, h4⟩
        · rfl
        · exact cp_congr hh b h4
      have e3 : cp h c = cp h' c := by
        rcases h6 with ⟨_, rfl⟩ | ⟨_, h4⟩
        · rfl
        · exact cp_congr hh c h4
      rw [hh _ h2, e1, e2, e3]
    · show (1, 0, 0) :: (cp h a ++ (cp h b ++ [(q.1, 0, 0)])) = (1, 0, 0) :: (cp h' a ++ (cp h' b ++ [(q.1, 0, 0)]))
      rw [cp_congr hh a h3, cp_congr hh b h4]
    · show (1, 0, 0) :: (cp h a ++ (11, nI ((cp h b).length + 1), 0) :: (cp h b ++ (12, nI (cp h c).length, 0) :: cp h c)) = (1, 0, 0) :: (cp h' a ++ (11, nI ((cp h' b).length + 1), 0) :: (cp h' b ++ (12, nI (cp h' c).length, 0) :: cp h' c))
      rw [cp_congr hh a h2, cp_congr hh b h3, cp_congr hh c h4]
/-- NAMES' cores are put in the place of their letters -/
def nuD (h : Int64 → Int64) (x : dE) : dE := if x.1 = 5 ∨ x.1 = 6 ∨ x.1 = 8 ∨ x.1 = 9 then (x.1, x.2.1, h x.2.2) else x
theorem nuD_op {h : Int64 → Int64} {x : Nat} (hx : lvl x ≤ 2) : nuD h (x, 0, 0) = (x, 0, 0) := by
  refine if_neg ?_
  intro hc
  have hc : x = 5 ∨ x = 6 ∨ x = 8 ∨ x = 9 := hc
  rcases hc with rfl | rfl | rfl | rfl <;> exact absurd hx (by decide)
theorem cp_nu {pa : List Int64} {Nm : Int64 → Prop} {h : Int64 → Int64} : ∀ T, wt pa Nm T → (cp id T).map (nuD h) = cp h T
  | .leaf, hT => hT.elim
  | .inner k q u a .leaf, hT => by
    rcases hT with rfl | rfl | ⟨rfl, h2, h3⟩ | ⟨rfl, h2, h3⟩ | ⟨rfl, h2⟩ | ⟨rfl, h2, h3⟩
    · rfl
    · rfl
    · rfl
    · rfl
    · show ((1, 0, 0) :: (cp id a ++ [(10, 0, 0)])).map (nuD h) = (1, 0, 0) :: (cp h a ++ [(10, 0, 0)])
      rw [List.map_cons, List.map_append, cp_nu a h2]; rfl
    · show ((1, 0, 0) :: (cp id a ++ [(9, 0, q.2)])).map (nuD h) = (1, 0, 0) :: (cp h a ++ [(9, 0, h q.2)])
      rw [List.map_cons, List.map_append, cp_nu a h3]; rfl
  | .inner k q u a (.inner k2 q2 u2 b c), hT => by
    rcases hT with ⟨rfl, h2, h3, h4, h5, h6⟩ | ⟨rfl, h2, h3, h4, rfl⟩ | ⟨rfl, h2, h3, h4⟩
    · show ((6, nI q.1, q.2) :: (cp id a ++ (cp id b ++ (cp id c ++ [(8, nI q.1, q.2)])))).map (nuD h) = (6, nI q.1, h q.2) :: (cp h a ++ (cp h b ++ (cp h c ++ [(8, nI q.1, h q.2)])))
      have e1 : (cp id a).map (nuD h) = cp h a := by
        rcases h4 with ⟨_, rfl⟩ | ⟨_, h4⟩
        · rfl
        · exact cp_nu a h4
      have e2 : (cp id b).map (nuD h) = cp h b := by
        rcases h5 with ⟨_, rfl⟩ | ⟨_, h4⟩
        · rfl
        · exact cp_nu b h4
      have e3 : (cp id c).map (nuD h) = cp h c := by
        rcases h6 with ⟨_, rfl⟩ | ⟨_, h4⟩
        · rfl
        · exact cp_nu c h4
      rw [List.map_cons, List.map_append, List.map_append, List.map_append, e1, e2, e3]; rfl
    · show ((1, 0, 0) :: (cp id a ++ (cp id b ++ [(q.1, 0, 0)]))).map (nuD h) = (1, 0, 0) :: (cp h a ++ (cp h b ++ [(q.1, 0, 0)]))
      rw [List.map_cons, List.map_append, List.map_append, cp_nu a h3, cp_nu b h4, List.map_cons, List.map_nil, nuD_op h2]; rfl
    · show ((1, 0, 0) :: (cp id a ++ (11, nI ((cp id b).length + 1), 0) :: (cp id b ++ (12, nI (cp id c).length, 0) :: cp id c))).map (nuD h) = (1, 0, 0) :: (cp h a ++ (11, nI ((cp h b).length + 1), 0) :: (cp h b ++ (12, nI (cp h c).length, 0) :: cp h c))
      rw [← cp_nu (h := h) a h2, ← cp_nu (h := h) b h3, ← cp_nu (h := h) c h4, List.length_map, List.length_map, List.map_cons, List.map_append, List.map_cons, List.map_append, List.map_cons]; rfl
theorem ny.bd {I : pmI} {J : pmJ} {cr : Nat → Int64 → Prop} {lo hi N : Nat} : ∀ {T : eX}, ny I J cr lo hi T N → lo ≤ N ∧ N < hi
  | .leaf, h => h.elim
  | .inner _ _ _ _ .leaf, h => h.1
  | .inner _ _ _ _ (.inner _ _ _ _ _), h => h.1
theorem ny.mv {I I' : pmI} {J J' : pmJ} {cr cr' : Nat → Int64 → Prop} {lo hi : Nat} (hI : ∀ a k, 63 ≤ a → a ≤ 69 → lo ≤ k → k < hi → I' a k = I a k) (hJ : ∀ k, lo ≤ k → k < hi → (I 63 k = nI 0 ∨ I 63 k = nI 1 ∨ I 63 k = nI 6) → J' 70 k = J 70 k) (hc : ∀ k v, lo ≤ k → k < hi → (I 63 k = nI 2 ∨ I 63 k = nI 3 ∨ I 63 k = nI 5) → cr k v → cr' k v) : ∀ (T : eX) (N : Nat), ny I J cr lo hi T N → ny I' J' cr' lo hi T N
  | .leaf, N, h => h.elim
  | .inner k q u a .leaf, N, h => by
    obtain ⟨hb, h⟩ := h
    have e : ∀ a, 63 ≤ a → a ≤ 69 → I' a N = I a N := fun a h1 h2 => hI a N h1 h2 hb.1 hb.2
    have e63 := e 63 (by decide) (by decide)
    refine ⟨hb, ?_⟩
    rcases h with ⟨h1, h2, h3⟩ | ⟨h1, h2, h3⟩ | ⟨h1, h2, h3⟩ | ⟨h1, h2, c, h3, h4⟩ | ⟨h1, h2, h3, c, h4, h5⟩
    · exact Or.inl ⟨h1, by rw [e63]; exact h2, by rw [hJ N hb.1 hb.2 (Or.inl h2)]; exact h3⟩
    · exact Or.inr (Or.inl ⟨h1, by rw [e63]; exact h2, by rw [hJ N hb.1 hb.2 (Or.inr (Or.inl h2))]; exact h3⟩)
    · exact Or.inr (Or.inr (Or.inl ⟨h1, by rw [e63]; exact h2, hc N _ hb.1 hb.2 (Or.inl h2) h3⟩))
    · exact Or.inr (Or.inr (Or.inr (Or.inl ⟨h1, by rw [e63]; exact h2, c, by rw [e 64 (by decide) (by decide)]; exact h3, ny.mv hI hJ hc a c h4⟩)))
    · exact Or.inr (Or.inr (Or.inr (Or.inr ⟨h1, by rw [e63]; exact h2, hc N _ hb.1 hb.2 (Or.inr (Or.inr h2)) h3, c, by rw [e 64 (by decide) (by decide)]; exact h4, ny.mv hI hJ hc a c h5⟩)))
  | .inner k q u a (.inner k2 q2 u2 b c), N, h => by
    obtain ⟨hb, h⟩ := h
    have e : ∀ a, 63 ≤ a → a ≤ 69 → I' a N = I a N := fun a h1 h2 => hI a N h1 h2 hb.1 hb.2
    have e63 := e 63 (by decide) (by decide)
    have g1 : (∃ c1, I 64 N = nI c1 ∧ ny I J cr lo hi a c1) → ∃ c1, I' 64 N = nI c1 ∧ ny I' J' cr' lo hi a c1 := fun ⟨x, h1, h2⟩ => ⟨x, by rw [e 64 (by decide) (by decide)]; exact h1, ny.mv hI hJ hc a x h2⟩
    have g2 : (∃ c1, I 65 N = nI c1 ∧ ny I J cr lo hi b c1) → ∃ c1, I' 65 N = nI c1 ∧ ny I' J' cr' lo hi b c1 := fun ⟨x, h1, h2⟩ => ⟨x, by rw [e 65 (by decide) (by decide)]; exact h1, ny.mv hI hJ hc b x h2⟩
    have g3 : (∃ c1, I 66 N = nI c1 ∧ ny I J cr lo hi c c1) → ∃ c1, I' 66 N = nI c1 ∧ ny I' J' cr' lo hi c c1 := fun ⟨x, h1, h2⟩ => ⟨x, by rw [e 66 (by decide) (by decide)]; exact h1, ny.mv hI hJ hc c x h2⟩
    refine ⟨hb, ?_⟩
    rcases h with ⟨h1, h2, h3, h4, h5, h6, h7⟩ | ⟨h1, h2, h3, h4, h5⟩ | ⟨h1, h2, h3, h4, h5⟩
    · exact Or.inl ⟨h1, by rw [e63]; exact h2, hc N _ hb.1 hb.2 (Or.inr (Or.inl h2)) h3, by rw [e 69 (by decide) (by decide)]; exact h4, fun h => g1 (h5 h), fun h => g2 (h6 h), fun h => g3 (h7 h)⟩
    · exact Or.inr (Or.inl ⟨h1, by rw [e63]; exact h2, by rw [hJ N hb.1 hb.2 (Or.inr (Or.inr h2))]; exact h3, g1 h4, g2 h5⟩)
    · exact Or.inr (Or.inr ⟨h1, by rw [e63]; exact h2, g1 h3, g2 h4, g3 h5⟩)
