/-- how a declarer is told -/
def eN (x : Option Nat) : Int32 := match x with | none => -5 | some s => nI s
/-- a Code in cell c, its rows behind it -/
def kC (S : pmS) (I : pmI) (J : pmJ) (P : pmP) (c rm : Nat) (L : List dE) : Prop :=
  (2 ≤ c ∧ c + 5 ≤ S.1) ∧ (S.2 c).1 = 4 ∧ S.2 (c + 1) = (100, rm) ∧ S.2 (c + 2) = (100, rm) ∧ S.2 (c + 3) = (100, rm) ∧ S.2 (c + 4) = (101, rm) ∧ P c 0 = some (c + 1) ∧ P c 1 = some (c + 2) ∧ P c 2 = some (c + 3) ∧ P c 3 = some (c + 4) ∧ (L.length ≤ rm ∧ rm ≤ 121) ∧ I c 4 = nI L.length ∧ ∀ (j : Nat) (x : dE), L[j]? = some x → I (c + 1) j = nI x.1 ∧ (x.1 ≠ 1 → I (c + 3) j = x.2.1 ∧ J (c + 4) j = x.2.2)
/-- the core of a NAME: its number -/
def hN (ns : List Int64) (v : Int64) : Int64 := lN (ns.idxOf v)
/-- a SNIPPET in cells z to z + 7: its text, its parts, itself, its Code -/
def snC (S : pmS) (I : pmI) (J : pmJ) (P : pmP) (ns : List Int64) (z : Nat) (x : sN) : Prop :=
  (95 ≤ z ∧ z + 8 ≤ S.1) ∧ (S.2 (z + 2)).1 = 9 ∧ S.2 z = (102, x.tx.length) ∧ S.2 (z + 1) = (100, x.pa.length) ∧ P (z + 2) 2 = some (z + 1) ∧ P (z + 2) 3 = some z ∧ P (z + 2) 4 = some (z + 3) ∧ I (z + 2) 0 = nI x.form ∧ (x.form ≠ 0 → I (z + 2) 1 = nI (ns.idxOf x.dec)) ∧ (∀ (j : Nat) (v : Int64), x.pa[j]? = some v → I (z + 1) j = nI (ns.idxOf v)) ∧ (x.tx.length ≤ 120 ∧ ∀ (j y : Nat), x.tx[j]? = some y → I z j = nI y) ∧ ∃ rm L, kC S I J P (z + 3) rm L ∧ (x.form = 2 → L = cp (hN ns) x.tr ++ [(13, 0, 0)])
/-- the THINGS, in cells b to b + 4, with room for m -/
def tC (S : pmS) (I : pmI) (J : pmJ) (P : pmP) (A : aS) (t : List tH) (b m : Nat) : Prop :=
  ((b = 22 ∨ 95 ≤ b) ∧ b + 5 ≤ S.1) ∧ (P 21 0 = some b ∧ P 21 1 = some (b + 1) ∧ P 21 2 = some (b + 2) ∧ P 21 3 = some (b + 3) ∧ P 21 4 = some (b + 4)) ∧ (S.2 b = (100, m) ∧ S.2 (b + 1) = (100, m) ∧ S.2 (b + 2) = (100, m) ∧ S.2 (b + 3) = (100, 3 * m) ∧ S.2 (b + 4) = (101, 3 * m)) ∧ (32 ≤ m ∧ m ≤ 32000) ∧ t.length ≤ m ∧ I 21 5 = nI t.length ∧ ∀ (j s : Nat) (vs : List vV), t[j]? = some (s, vs) → I b j = nI (A.ns.idxOf (A.at s).dec) ∧ I (b + 1) j = nI (A.at s).ed ∧ I (b + 2) j = nI vs.length ∧ ∀ (i : Nat) (v : vV), vs[i]? = some v → I (b + 3) (3 * j + i) = nI v.1 ∧ J (b + 4) (3 * j + i) = v.2
/-- what the class holds of NAMES, VARIABLES, RESULTS and SNIPPETS; Z: where a SNIPPET lies, b: where the THINGS lie -/
def cA (S : pmS) (I : pmI) (J : pmJ) (P : pmP) (A : aS) (Z : Nat → Nat) (b : Nat) : Prop :=
  I 16 4 = nI A.ns.length ∧ (∀ (j : Nat) (v : Int64), A.ns[j]? = some v → J 17 j = v ∧ I 18 j = nI (A.fm v) ∧ I 19 j = eN (A.dc v) ∧ I 20 j = nI (A.ed v) ∧ (A.fm v = 1 → I 28 j = nI (A.va v).1 ∧ J 29 j = (A.va v).2)) ∧ I 15 6 = nI A.rs.length ∧ (∀ (j : Nat) (v : vV), A.rs[j]? = some v → I 31 (j + 1) = nI v.1 ∧ J 32 (j + 1) = v.2) ∧ I 15 5 = nI A.sn.length ∧ ∀ s, s < A.sn.length → P 33 s = some (Z s + 2) ∧ snC S I J P A.ns (Z s) (A.at s) ∧ (Z s + 8 ≤ b ∨ b + 5 ≤ Z s)
/-- cells that the Machine leaves as they are -/
def mX (b0 a : Nat) : Prop := a ≠ 21 ∧ a ≠ 34 ∧ (a < 36 ∨ 41 < a) ∧ (a < b0 ∨ b0 + 5 ≤ a)
def mF (S0 : pmS) (I0 : pmI) (J0 : pmJ) (P0 : pmP) (b0 : Nat) (S : pmS) (I : pmI) (J : pmJ) (P : pmP) : Prop :=
  S0.1 ≤ S.1 ∧ (∀ a, a < S0.1 → S.2 a = S0.2 a) ∧ ∀ a, mX b0 a → a < S0.1 → I a = I0 a ∧ J a = J0 a ∧ P a = P0 a
/-- the Machine while it works: the code in cell c, now w, next i, base bs, the row, the callers, STEPS, THINGS -/
def mS (S0 : pmS) (I0 : pmI) (J0 : pmJ) (P0 : pmP) (b0 : Nat) (A : aS) (S : pmS) (I : pmI) (J : pmJ) (P : pmP) (c : Nat) (w : Int32) (i bs : Nat) (rv : List vV) (fr : List (Nat × Nat × Nat)) (s : Nat) (t : List tH) (b m : Nat) : Prop :=
  (sh_St S ∧ gr_St P ∧ mF S0 I0 J0 P0 b0 S I J P ∧ (95 ≤ S0.1 ∧ b0 + 5 ≤ S0.1 ∧ (b0 = 22 ∨ 95 ≤ b0)) ∧ (b = b0 ∨ S0.1 ≤ b) ∧ A.th <+: t) ∧ tC S I J P A t b m ∧ (P 34 6 = some c ∧ I 34 7 = w ∧ I 34 8 = nI i ∧ I 34 9 = nI bs ∧ I 34 10 = nI rv.length ∧ I 34 11 = nI fr.length ∧ I 34 13 = nI 1 ∧ I 41 4 = nI s ∧ I 41 0 = nI 0) ∧ (rv.length ≤ 401 ∧ fr.length ≤ 20 ∧ s ≤ 401) ∧ (∀ (j : Nat) (v : vV), rv[j]? = some v → I 36 j = nI v.1 ∧ J 37 j = v.2) ∧ ∀ (j : Nat) (x : Nat × Nat × Nat), fr[j]? = some x → P 38 j = some x.1 ∧ I 39 j = nI x.2.1 ∧ I 40 j = nI x.2.2
/-- behind a FAILURE e -/
def mE (S0 : pmS) (I0 : pmI) (J0 : pmJ) (P0 : pmP) (b0 : Nat) (A : aS) (S : pmS) (I : pmI) (J : pmJ) (P : pmP) (e b m : Nat) : Prop :=
  (sh_St S ∧ gr_St P ∧ mF S0 I0 J0 P0 b0 S I J P ∧ (95 ≤ S0.1 ∧ b0 + 5 ≤ S0.1 ∧ (b0 = 22 ∨ 95 ≤ b0)) ∧ (b = b0 ∨ S0.1 ≤ b)) ∧ I 34 13 = nI 0 ∧ I 41 0 = nI e ∧ ∃ t, A.th <+: t ∧ tC S I J P A t b m
/-- only cells of the Machine differ -/
def mU (I : pmI) (J : pmJ) (P : pmP) (I' : pmI) (J' : pmJ) (P' : pmP) : Prop := ∀ a, ¬ (a = 34 ∨ (36 ≤ a ∧ a ≤ 41)) → I' a = I a ∧ J' a = J a ∧ P' a = P a
theorem mU.refl {I : pmI} {J : pmJ} {P : pmP} : mU I J P I J P := fun _ _ => ⟨rfl, rfl, rfl⟩
theorem mU.uI {I I' : pmI} {J J' : pmJ} {P P' : pmP} {a k : Nat} {x : Int32} (h : mU I J P I' J' P') (ha : a = 34 ∨ (36 ≤ a ∧ a ≤ 41)) : mU I J P (pm_u I' a k x) J' P' := fun b hb => ⟨by rw [pm_u_ne (by intro e; subst e; exact hb ha)]; exact (h b hb).1, (h b hb).2⟩
theorem mU.uJ {I I' : pmI} {J J' : pmJ} {P P' : pmP} {a k : Nat} {x : Int64} (h : mU I J P I' J' P') (ha : a = 34 ∨ (36 ≤ a ∧ a ≤ 41)) : mU I J P I' (pm_u J' a k x) P' := fun b hb => ⟨(h b hb).1, by rw [pm_u_ne (by intro e; subst e; exact hb ha)]; exact (h b hb).2.1, (h b hb).2.2⟩
theorem mU.uP {I I' : pmI} {J J' : pmJ} {P P' : pmP} {a k : Nat} {x : Option Nat} (h : mU I J P I' J' P') (ha : a = 34 ∨ (36 ≤ a ∧ a ≤ 41)) : mU I J P I' J' (pm_u P' a k x) := fun b hb => ⟨(h b hb).1, (h b hb).2.1, by rw [pm_u_ne (by intro e; subst e; exact hb ha)]; exact (h b hb).2.2⟩
theorem tC.mv {S : pmS} {I I' : pmI} {J J' : pmJ} {P P' : pmP} {A : aS} {t : List tH} {b m : Nat} (h : tC S I J P A t b m) (hu : mU I J P I' J' P') : tC S I' J' P' A t b m := by
  obtain ⟨⟨hb, hb5⟩, h2, h3, h4, h5, h6, h7⟩ := h
  have e : ∀ k, k < 5 → I' (b + k) = I (b + k) ∧ J' (b + k) = J (b + k) ∧ P' (b + k) = P (b + k) := fun k hk => hu _ (by omega)
  have e21 := hu 21 (by decide)
  refine ⟨⟨hb, hb5⟩, by rw [e21.2.2]; exact h2, h3, h4, h5, by rw [e21.1]; exact h6, fun j s vs hj => ?_⟩
  have e0 := (e 0 (by decide)).1
  rw [Nat.add_zero] at e0
  rw [e0, (e 1 (by decide)).1, (e 2 (by decide)).1, (e 3 (by decide)).1, (e 4 (by decide)).2.1]
  exact h7 j s vs hj
theorem mF.mv {S0 : pmS} {I0 : pmI} {J0 : pmJ} {P0 : pmP} {b0 : Nat} {S : pmS} {I I' : pmI} {J J' : pmJ} {P P' : pmP} (h : mF S0 I0 J0 P0 b0 S I J P) (hu : mU I J P I' J' P') : mF S0 I0 J0 P0 b0 S I' J' P' := ⟨h.1, h.2.1, fun a h1 h2 => by
  have e := hu a (by have := h1.2.1; have := h1.2.2.1; omega)
  have e' := h.2.2 a h1 h2
  exact ⟨e.1.trans e'.1, e.2.1.trans e'.2.1, e.2.2.trans e'.2.2⟩⟩
section MV
variable {S0 : pmS} {I0 : pmI} {J0 : pmJ} {P0 : pmP} {b0 : Nat} {A : aS} {S : pmS} {I I' : pmI} {J J' : pmJ} {P P' : pmP} {c i bs s b m : Nat} {w : Int32} {rv : List vV} {fr : List (Nat × Nat × Nat)} {t : List tH}
theorem mS.mv {c' i' bs' s' : Nat} {w' : Int32} {rv' : List vV} {fr' : List (Nat × Nat × Nat)} (h : mS S0 I0 J0 P0 b0 A S I J P c w i bs rv fr s t b m) (hu : mU I J P I' J' P') (hP' : gr_St P') (h1 : P' 34 6 = some c' ∧ I' 34 7 = w' ∧ I' 34 8 = nI i' ∧ I' 34 9 = nI bs' ∧ I' 34 10 = nI rv'.length ∧ I' 34 11 = nI fr'.length ∧ I' 34 13 = nI 1 ∧ I' 41 4 = nI s' ∧ I' 41 0 = nI 0) (h2 : rv'.length ≤ 401 ∧ fr'.length ≤ 20 ∧ s' ≤ 401) (h3 : ∀ (j : Nat) (v : vV), rv'[j]? = some v → I' 36 j = nI v.1 ∧ J' 37 j = v.2) (h4 : ∀ (j : Nat) (x : Nat × Nat × Nat), fr'[j]? = some x → P' 38 j = some x.1 ∧ I' 39 j = nI x.2.1 ∧ I' 40 j = nI x.2.2) : mS S0 I0 J0 P0 b0 A S I' J' P' c' w' i' bs' rv' fr' s' t b m :=
  ⟨⟨h.1.1, hP', h.1.2.2.1.mv hu, h.1.2.2.2⟩, h.2.1.mv hu, h1, h2, h3, h4⟩
theorem mS.me (h : mS S0 I0 J0 P0 b0 A S I J P c w i bs rv fr s t b m) (hu : mU I J P I' J' P') (hP' : gr_St P') {e : Nat} (h1 : I' 34 13 = nI 0) (h2 : I' 41 0 = nI e) : mE S0 I0 J0 P0 b0 A S I' J' P' e b m :=
  ⟨⟨h.1.1, hP', h.1.2.2.1.mv hu, h.1.2.2.2.1, h.1.2.2.2.2.1⟩, h1, h2, t, h.1.2.2.2.2.2, h.2.1.mv hu⟩
/-- a Code of the start, as it is now -/
theorem kC.mv {S0 : pmS} {I0 : pmI} {J0 : pmJ} {P0 : pmP} {S : pmS} {I : pmI} {J : pmJ} {P : pmP} {c rm : Nat} {L : List dE} (h : kC S0 I0 J0 P0 c rm L) (hS : S0.1 ≤ S.1) (hs : ∀ a, a < S0.1 → S.2 a = S0.2 a) (hm : ∀ a, c ≤ a → a < c + 5 → I a = I0 a ∧ J a = J0 a ∧ P a = P0 a) : kC S I J P c rm L := by
  obtain ⟨⟨h1, h2⟩, h3, h4, h5, h6, h7, p0, p1, p2, p3, h8, h9, h10⟩ := h
  have e : ∀ k, k < 5 → I (c + k) = I0 (c + k) ∧ J (c + k) = J0 (c + k) ∧ P (c + k) = P0 (c + k) := fun k hk => hm _ (by omega) (by omega)
  have ec := hm c (by omega) (by omega)
  refine ⟨⟨h1, by omega⟩, by rw [hs c (by omega)]; exact h3, by rw [hs _ (by omega)]; exact h4, by rw [hs _ (by omega)]; exact h5, by rw [hs _ (by omega)]; exact h6, by rw [hs _ (by omega)]; exact h7, by rw [ec.2.2]; exact p0, by rw [ec.2.2]; exact p1, by rw [ec.2.2]; exact p2, by rw [ec.2.2]; exact p3, h8, by rw [ec.1]; exact h9, fun j x hj => ?_⟩
  rw [(e 1 (by decide)).1, (e 3 (by decide)).1, (e 4 (by decide)).2.1]
  exact h10 j x hj
theorem mS.code {rm : Nat} {L : List dE} (h : mS S0 I0 J0 P0 b0 A S I J P c w i bs rv fr s t b m) (hk : kC S0 I0 J0 P0 c rm L) (hX : ∀ a, c ≤ a → a < c + 5 → mX b0 a) : kC S I J P c rm L :=
  hk.mv h.1.2.2.1.1 h.1.2.2.1.2.1 (fun a h1 h2 => h.1.2.2.1.2.2 a (hX a h1 h2) (by have := hk.1.2; omega))
/-- the row's last VALUE -/
theorem mS.last {v : vV} (h : mS S0 I0 J0 P0 b0 A S I J P c w i bs (rv ++ [v]) fr s t b m) : I 34 10 - nI 1 = nI rv.length ∧ I 36 rv.length = nI v.1 ∧ J 37 rv.length = v.2 ∧ rv.length < 401 := by
  obtain ⟨-, -, ⟨-, -, -, -, h5, -⟩, ⟨h6, -⟩, h7, -⟩ := h
  have h8 := h7 rv.length v (by rw [List.getElem?_append_right (Nat.le_refl _), Nat.sub_self]; rfl)
  rw [List.length_append, List.length_singleton] at h5 h6
  exact ⟨by rw [h5]; exact nI_pred _, h8.1, h8.2, by omega⟩
theorem mS.last2 {v v' : vV} (h : mS S0 I0 J0 P0 b0 A S I J P c w i bs (rv ++ [v, v']) fr s t b m) : I 34 10 - nI 2 = nI rv.length ∧ I 36 rv.length = nI v.1 ∧ J 37 rv.length = v.2 ∧ rv.length < 400 := by
  obtain ⟨-, -, ⟨-, -, -, -, h5, -⟩, ⟨h6, -⟩, h7, -⟩ := h
  have h8 := h7 rv.length v (by rw [List.getElem?_append_right (Nat.le_refl _), Nat.sub_self]; rfl)
  rw [List.length_append] at h5 h6
  have e : ([v, v'] : List vV).length = 2 := rfl
  rw [e] at h5 h6
  refine ⟨?_, h8.1, h8.2, by omega⟩
  rw [h5, ← nI_add, Int32.add_sub_cancel]
end MV
