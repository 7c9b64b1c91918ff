/-- the core of a node with a NAME, behind the numbering -/
def crN (ns : List Int64) (J : pmJ) (N : Nat) (v : Int64) : Prop := J 70 N = hN ns v
/-- nodes of a block whose NAMES have numbers -/
def nY (I : pmI) (J : pmJ) (lo hi : Nat) : Prop := nW I lo hi ∧ (∀ k, lo ≤ k → k < hi → (I 63 k = nI 2 ∨ I 63 k = nI 3) → ∃ j : Nat, j < 40 ∧ J 70 k = lN j) ∧ nU I lo hi
theorem nY.mv {I I' : pmI} {J J' : pmJ} {lo hi : Nat} (h : nY I J lo hi) (e : ∀ a, 63 ≤ a → (a ≤ 66 ∨ a = 68 ∨ a = 69) → ∀ k, k < hi → I' a k = I a k) (ej : ∀ k, k < hi → J' 70 k = J 70 k) : nY I' J' lo hi := ⟨h.1.mv (fun a h1 h2 => e a (by omega) (by omega)), (fun k h1 h2 => by rw [e 63 (by decide) (by decide) k h2, ej k h2]; exact h.2.1 k h1 h2), h.2.2.mv (fun a h1 h2 => e a h1 (by omega))⟩
/-- SNIPPET s of the reference -/
def snR (I : pmI) (J : pmJ) (ns : List Int64) (s : Nat) (x : sN) : Prop :=
  I 55 s = nI x.form ∧ (x.form ≠ 0 → I 56 s = nI (ns.idxOf x.dec)) ∧ I 57 s = nI x.pa.length ∧ (∀ (j : Nat) (v : Int64), x.pa[j]? = some v → I 58 (3 * s + j) = nI (ns.idxOf v)) ∧ (x.form = 3 → I 59 s = nI x.ed) ∧ (I 61 s = nI x.tx.length ∧ x.tx.length ≤ 120 ∧ ∀ (j y : Nat), x.tx[j]? = some y → I 62 (120 * s + j) = nI y) ∧ (x.form = 2 → ∃ m, m ≤ 60 ∧ nY I J (64 * s) (64 * s + m) ∧ ∃ N, I 60 s = nI N ∧ ny I J (crN ns J) (64 * s) (64 * s + m) x.tr N)
/-- what the reference holds of NAMES, VARIABLES, RESULTS and SNIPPETS -/
def rA (I : pmI) (J : pmJ) (A : aS) : Prop :=
  I 47 3 = nI A.ns.length ∧ (∀ (j : Nat) (v : Int64), A.ns[j]? = some v → J 49 j = v ∧ I 50 j = nI (A.fm v) ∧ I 51 j = eN (A.dc v) ∧ I 52 j = nI (A.ed v) ∧ (A.fm v = 1 → I 53 j = nI (A.va v).1 ∧ J 54 j = (A.va v).2)) ∧ I 47 27 = nI A.rs.length ∧ (∀ (j : Nat) (v : vV), A.rs[j]? = some v → I 71 (j + 1) = nI v.1 ∧ J 72 (j + 1) = v.2) ∧ I 47 10 = nI A.sn.length ∧ ∀ s, s < A.sn.length → snR I J A.ns s (A.at s)
/-- the THINGS -/
def rT (I : pmI) (J : pmJ) (t : List tH) : Prop := I 47 30 = nI t.length ∧ ∀ (j s : Nat) (vs : List vV), t[j]? = some (s, vs) → I 73 j = nI s ∧ ∀ (i : Nat) (v : vV), vs[i]? = some v → I 74 (3 * j + i) = nI v.1 ∧ J 75 (3 * j + i) = v.2
/-- cells that the working out leaves as they are -/
def rF (I0 : pmI) (J0 : pmJ) (I : pmI) (J : pmJ) : Prop := (∀ a, a ≠ 47 → (a < 73 ∨ 76 < a) → (a < 87 ∨ 93 < a) → I a = I0 a ∧ J a = J0 a) ∧ ∀ k, k ≠ 30 → k ≠ 53 → k ≠ 54 → k ≠ 55 → k ≠ 59 → k ≠ 62 → I 47 k = I0 47 k
/-- only cells of frames, values and contexts differ -/
def rU (I : pmI) (J : pmJ) (I' : pmI) (J' : pmJ) : Prop := (∀ a, a ≠ 47 → a ≠ 76 → (a < 87 ∨ 93 < a) → I' a = I a ∧ J' a = J a) ∧ ∀ k, k ≠ 53 → k ≠ 54 → k ≠ 55 → k ≠ 59 → k ≠ 62 → I' 47 k = I 47 k
/-- the reference while it works: frames, values, contexts, STEPS, THINGS -/
def rS (I0 : pmI) (J0 : pmJ) (A : aS) (I : pmI) (J : pmJ) (fr : List (Nat × Nat)) (hv : List vV) (cx : List (Nat × List vV)) (s : Nat) (t : List tH) : Prop :=
  (rF I0 J0 I J ∧ A.th <+: t) ∧ rT I J t ∧ (I 47 53 = nI 0 ∧ I 47 54 = nI s ∧ I 47 55 = nI cx.length ∧ I 47 59 = nI fr.length ∧ I 47 62 = nI hv.length) ∧ (fr.length ≤ 899 ∧ hv.length ≤ 899 ∧ cx.length ≤ 20 ∧ s ≤ 400) ∧ (∀ (j : Nat) (x : Nat × Nat), fr[j]? = some x → I 90 j = nI x.1 ∧ I 91 j = nI x.2) ∧ (∀ (j : Nat) (v : vV), hv[j]? = some v → I 92 j = nI v.1 ∧ J 93 j = v.2) ∧ ∀ (k : Nat) (x : Nat × List vV), cx[k]? = some x → I 87 (k + 1) = nI x.1 ∧ x.2.length ≤ 3 ∧ ∀ (j : Nat) (v : vV), x.2[j]? = some v → I 88 (3 * (k + 1) + j) = nI v.1 ∧ J 89 (3 * (k + 1) + j) = v.2
/-- behind a FAILURE e -/
def rX (I0 : pmI) (J0 : pmJ) (A : aS) (I : pmI) (J : pmJ) (e : Nat) : Prop := rF I0 J0 I J ∧ I 47 53 = nI e ∧ ∃ t, A.th <+: t ∧ rT I J t ∧ t.length ≤ 16000
theorem rU.refl {I : pmI} {J : pmJ} : rU I J I J := ⟨fun _ _ _ _ => ⟨rfl, rfl⟩, fun _ _ _ _ _ _ => rfl⟩
theorem rU.uI {I I' : pmI} {J J' : pmJ} {a k : Nat} {x : Int32} (h : rU I J I' J') (ha : a = 76 ∨ (87 ≤ a ∧ a ≤ 93)) : rU I J (pm_u I' a k x) J' := ⟨fun b h1 h2 h3 => ⟨by rw [pm_u_ne (by omega)]; exact (h.1 b h1 h2 h3).1, (h.1 b h1 h2 h3).2⟩, fun j h1 h2 h3 h4 h5 => by rw [pm_u_ne (by omega)]; exact h.2 j h1 h2 h3 h4 h5⟩
theorem rU.uM {I I' : pmI} {J J' : pmJ} {k : Nat} {x : Int32} (h : rU I J I' J') (hk : k = 53 ∨ k = 54 ∨ k = 55 ∨ k = 59 ∨ k = 62) : rU I J (pm_u I' 47 k x) J' := ⟨fun b h1 h2 h3 => ⟨by rw [pm_u_ne h1]; exact (h.1 b h1 h2 h3).1, (h.1 b h1 h2 h3).2⟩, fun j h1 h2 h3 h4 h5 => by rw [pm_u_eq, pm_up_ne (by omega)]; exact h.2 j h1 h2 h3 h4 h5⟩
theorem rU.uJ {I I' : pmI} {J J' : pmJ} {a k : Nat} {x : Int64} (h : rU I J I' J') (ha : 87 ≤ a ∧ a ≤ 93) : rU I J I' (pm_u J' a k x) := ⟨fun b h1 h2 h3 => ⟨(h.1 b h1 h2 h3).1, by rw [pm_u_ne (by omega)]; exact (h.1 b h1 h2 h3).2⟩, h.2⟩
theorem rF.mv {I0 : pmI} {J0 : pmJ} {I I' : pmI} {J J' : pmJ} (h : rF I0 J0 I J) (hu : rU I J I' J') : rF I0 J0 I' J' := ⟨fun a h1 h2 h3 => by
  have e := hu.1 a h1 (by omega) h3
  have e' := h.1 a h1 h2 h3
  exact ⟨e.1.trans e'.1, e.2.trans e'.2⟩, fun k h1 h2 h3 h4 h5 h6 => (hu.2 k h2 h3 h4 h5 h6).trans (h.2 k h1 h2 h3 h4 h5 h6)⟩
theorem rF.refl {I : pmI} {J : pmJ} : rF I J I J := ⟨fun _ _ _ _ => ⟨rfl, rfl⟩, fun _ _ _ _ _ _ _ => rfl⟩
theorem rT.mv {I I' : pmI} {J J' : pmJ} {t : List tH} (h : rT I J t) (hu : rU I J I' J') : rT I' J' t := by
  unfold rT
  rw [hu.2 30 (by decide) (by decide) (by decide) (by decide) (by decide), (hu.1 73 (by decide) (by decide) (by decide)).1, (hu.1 74 (by decide) (by decide) (by decide)).1, (hu.1 75 (by decide) (by decide) (by decide)).2]
  exact h
section RS
variable {I0 : pmI} {J0 : pmJ} {A : aS} {I I' : pmI} {J J' : pmJ} {fr fr' : List (Nat × Nat)} {hv hv' : List vV} {cx cx' : List (Nat × List vV)} {s s' : Nat} {t : List tH}
theorem rS.f (h : rS I0 J0 A I J fr hv cx s t) : rF I0 J0 I J := h.1.1
theorem rS.tt (h : rS I0 J0 A I J fr hv cx s t) : rT I J t := h.2.1
theorem rS.fl (h : rS I0 J0 A I J fr hv cx s t) : I 47 53 = nI 0 := h.2.2.1.1
theorem rS.st (h : rS I0 J0 A I J fr hv cx s t) : I 47 54 = nI s := h.2.2.1.2.1
theorem rS.dp (h : rS I0 J0 A I J fr hv cx s t) : I 47 55 = nI cx.length := h.2.2.1.2.2.1
theorem rS.rn (h : rS I0 J0 A I J fr hv cx s t) : I 47 59 = nI fr.length := h.2.2.1.2.2.2.1
theorem rS.hi (h : rS I0 J0 A I J fr hv cx s t) : I 47 62 = nI hv.length := h.2.2.1.2.2.2.2
theorem rS.lm (h : rS I0 J0 A I J fr hv cx s t) : fr.length ≤ 899 ∧ hv.length ≤ 899 ∧ cx.length ≤ 20 ∧ s ≤ 400 := h.2.2.2.1
theorem rS.fm (h : rS I0 J0 A I J fr hv cx s t) : ∀ (j : Nat) (x : Nat × Nat), fr[j]? = some x → I 90 j = nI x.1 ∧ I 91 j = nI x.2 := h.2.2.2.2.1
theorem rS.vl (h : rS I0 J0 A I J fr hv cx s t) : ∀ (j : Nat) (v : vV), hv[j]? = some v → I 92 j = nI v.1 ∧ J 93 j = v.2 := h.2.2.2.2.2.1
theorem rS.ct (h : rS I0 J0 A I J fr hv cx s t) : ∀ (k : Nat) (x : Nat × List vV), cx[k]? = some x → I 87 (k + 1) = nI x.1 ∧ x.2.length ≤ 3 ∧ ∀ (j : Nat) (v : vV), x.2[j]? = some v → I 88 (3 * (k + 1) + j) = nI v.1 ∧ J 89 (3 * (k + 1) + j) = v.2 := h.2.2.2.2.2.2
theorem rS.mv (h : rS I0 J0 A I J fr hv cx s t) (hu : rU I J I' J') (h1 : I' 47 53 = nI 0 ∧ I' 47 54 = nI s' ∧ I' 47 55 = nI cx'.length ∧ I' 47 59 = nI fr'.length ∧ I' 47 62 = nI hv'.length) (h2 : fr'.length ≤ 899 ∧ hv'.length ≤ 899 ∧ cx'.length ≤ 20 ∧ s' ≤ 400) (h3 : ∀ (j : Nat) (x : Nat × Nat), fr'[j]? = some x → I' 90 j = nI x.1 ∧ I' 91 j = nI x.2) (h4 : ∀ (j : Nat) (v : vV), hv'[j]? = some v → I' 92 j = nI v.1 ∧ J' 93 j = v.2) (h5 : ∀ (k : Nat) (x : Nat × List vV), cx'[k]? = some x → I' 87 (k + 1) = nI x.1 ∧ x.2.length ≤ 3 ∧ ∀ (j : Nat) (v : vV), x.2[j]? = some v → I' 88 (3 * (k + 1) + j) = nI v.1 ∧ J' 89 (3 * (k + 1) + j) = v.2) : rS I0 J0 A I' J' fr' hv' cx' s' t :=
  ⟨⟨h.f.mv hu, h.1.2⟩, h.tt.mv hu, h1, h2, h3, h4, h5⟩
/-- the last frame, the last VALUE -/
theorem rS.top {x : Nat × Nat} (h : rS I0 J0 A I J (fr ++ [x]) hv cx s t) : I 47 59 - nI 1 = nI fr.length ∧ I 90 fr.length = nI x.1 ∧ I 91 fr.length = nI x.2 ∧ fr.length < 899 := by
  have h8 := h.fm fr.length x (by rw [List.getElem?_append_right (Nat.le_refl _), Nat.sub_self]; rfl)
  have h5 := h.rn
  have h6 := h.lm.1
  rw [List.length_append, List.length_singleton] at h5 h6
  exact ⟨by rw [h5]; exact nI_pred _, h8.1, h8.2, by omega⟩
theorem rS.last {v : vV} (h : rS I0 J0 A I J fr (hv ++ [v]) cx s t) : I 47 62 - nI 1 = nI hv.length ∧ I 92 hv.length = nI v.1 ∧ J 93 hv.length = v.2 ∧ hv.length < 899 := by
  have h8 := h.vl hv.length v (by rw [List.getElem?_append_right (Nat.le_refl _), Nat.sub_self]; rfl)
  have h5 := h.hi
  have h6 := h.lm.2.1
  rw [List.length_append, List.length_singleton] at h5 h6
  exact ⟨by rw [h5]; exact nI_pred _, h8.1, h8.2, by omega⟩
theorem rS.last2 {v v' : vV} (h : rS I0 J0 A I J fr (hv ++ [v, v']) cx s t) : I 47 62 - nI 2 = nI hv.length ∧ (I 92 hv.length = nI v.1 ∧ J 93 hv.length = v.2) ∧ I 47 62 - nI 1 = nI (hv.length + 1) ∧ (I 92 (hv.length + 1) = nI v'.1 ∧ J 93 (hv.length + 1) = v'.2) ∧ hv.length < 898 := by
  have h8 := h.vl hv.length v (by rw [List.getElem?_append_right (Nat.le_refl _), Nat.sub_self]; rfl)
  have h9 := h.vl (hv.length + 1) v' (by rw [List.getElem?_append_right (by omega), show hv.length + 1 - hv.length = 1 by omega]; rfl)
  have h5 := h.hi
  have h6 := h.lm.2.1
  rw [List.length_append] at h5 h6
  have e : ([v, v'] : List vV).length = 2 := rfl
  rw [e] at h5 h6
  exact ⟨by rw [h5, ← nI_add, Int32.add_sub_cancel], h8, by rw [h5]; exact nI_pred _, h9, by omega⟩
theorem rS.step (h : rS I0 J0 A I J fr hv cx s t) (hs : s < 400) : rS I0 J0 A (pm_u I 47 54 (nI (s + 1))) J fr hv cx (s + 1) t := h.mv (rU.refl.uM (by decide)) ⟨by (repeat (first | rw [pm_u_ne (by decide)] | rw [pm_u_eq, pm_up_ne (by decide)] | rw [pm_u_eq, pm_up_eq])) <;> first | exact h.fl | rfl, by (repeat (first | rw [pm_u_ne (by decide)] | rw [pm_u_eq, pm_up_ne (by decide)] | rw [pm_u_eq, pm_up_eq])) <;> first | exact h.st | rfl, by (repeat (first | rw [pm_u_ne (by decide)] | rw [pm_u_eq, pm_up_ne (by decide)] | rw [pm_u_eq, pm_up_eq])) <;> first | exact h.dp | rfl, by (repeat (first | rw [pm_u_ne (by decide)] | rw [pm_u_eq, pm_up_ne (by decide)] | rw [pm_u_eq, pm_up_eq])) <;> first | exact h.rn | rfl, by (repeat (first | rw [pm_u_ne (by decide)] | rw [pm_u_eq, pm_up_ne (by decide)] | rw [pm_u_eq, pm_up_eq])) <;> first | exact h.hi | rfl⟩ ⟨h.lm.1, h.lm.2.1, h.lm.2.2.1, by omega⟩ (fun j x hj => by rw [pm_u_ne (by decide), pm_u_ne (by decide)]; exact h.fm j x hj) (fun j v hj => by rw [pm_u_ne (by decide)]; exact h.vl j v hj) (fun k x hk => by rw [pm_u_ne (by decide), pm_u_ne (by decide)]; exact h.ct k x hk)
theorem rS.pop {us : List (Nat × Nat)} (h : rS I0 J0 A I J (fr ++ us) hv cx s t) : rS I0 J0 A (pm_u I 47 59 (nI fr.length)) J fr hv cx s t := by
  refine h.mv (rU.refl.uM (by decide)) ⟨by (repeat (first | rw [pm_u_ne (by decide)] | rw [pm_u_eq, pm_up_ne (by decide)] | rw [pm_u_eq, pm_up_eq])) <;> first | exact h.fl | rfl, by (repeat (first | rw [pm_u_ne (by decide)] | rw [pm_u_eq, pm_up_ne (by decide)] | rw [pm_u_eq, pm_up_eq])) <;> first | exact h.st | rfl, by (repeat (first | rw [pm_u_ne (by decide)] | rw [pm_u_eq, pm_up_ne (by decide)] | rw [pm_u_eq, pm_up_eq])) <;> first | exact h.dp | rfl, by (repeat (first | rw [pm_u_ne (by decide)] | rw [pm_u_eq, pm_up_ne (by decide)] | rw [pm_u_eq, pm_up_eq])) <;> first | exact h.rn | rfl, by (repeat (first | rw [pm_u_ne (by decide)] | rw [pm_u_eq, pm_up_ne (by decide)] | rw [pm_u_eq, pm_up_eq])) <;> first | exact h.hi | rfl⟩ ⟨?_, h.lm.2⟩ (fun j x hj => ?_) (fun j v hj => by rw [pm_u_ne (by decide)]; exact h.vl j v hj) (fun k x hk => by rw [pm_u_ne (by decide), pm_u_ne (by decide)]; exact h.ct k x hk)
  · have := h.lm.1; rw [List.length_append] at this; omega
  · rw [pm_u_ne (by decide), pm_u_ne (by decide)]
    refine h.fm j x ?_
    rw [List.getElem?_append_left (List.getElem?_eq_some_iff.mp hj).1]; exact hj
theorem rS.vpop {us : List vV} (h : rS I0 J0 A I J fr (hv ++ us) cx s t) : rS I0 J0 A (pm_u I 47 62 (nI hv.length)) J fr hv cx s t := by
  refine h.mv (rU.refl.uM (by decide)) ⟨by (repeat (first | rw [pm_u_ne (by decide)] | rw [pm_u_eq, pm_up_ne (by decide)] | rw [pm_u_eq, pm_up_eq])) <;> first | exact h.fl | rfl, by (repeat (first | rw [pm_u_ne (by decide)] | rw [pm_u_eq, pm_up_ne (by decide)] | rw [pm_u_eq, pm_up_eq])) <;> first | exact h.st | rfl, by (repeat (first | rw [pm_u_ne (by decide)] | rw [pm_u_eq, pm_up_ne (by decide)] | rw [pm_u_eq, pm_up_eq])) <;> first | exact h.dp | rfl, by (repeat (first | rw [pm_u_ne (by decide)] | rw [pm_u_eq, pm_up_ne (by decide)] | rw [pm_u_eq, pm_up_eq])) <;> first | exact h.rn | rfl, by (repeat (first | rw [pm_u_ne (by decide)] | rw [pm_u_eq, pm_up_ne (by decide)] | rw [pm_u_eq, pm_up_eq])) <;> first | exact h.hi | rfl⟩ ⟨h.lm.1, ?_, h.lm.2.2⟩ (fun j x hj => by rw [pm_u_ne (by decide), pm_u_ne (by decide)]; exact h.fm j x hj) (fun j v hj => ?_) (fun k x hk => by rw [pm_u_ne (by decide), pm_u_ne (by decide)]; exact h.ct k x hk)
  · have := h.lm.2.1; rw [List.length_append] at this; omega
  · rw [pm_u_ne (by decide)]
    refine h.vl j v ?_
    rw [List.getElem?_append_left (List.getElem?_eq_some_iff.mp hj).1]; exact hj
theorem rS.put {v : vV} (h : rS I0 J0 A I J fr hv cx s t) (hl : hv.length < 899) : rS I0 J0 A (pm_u (pm_u I 92 hv.length (nI v.1)) 47 62 (nI (hv.length + 1))) (pm_u J 93 hv.length v.2) fr (hv ++ [v]) cx s t := by
  refine h.mv ((rU.refl.uI (by decide)).uJ (by decide) |>.uM (by decide)) ⟨by (repeat (first | rw [pm_u_ne (by decide)] | rw [pm_u_eq, pm_up_ne (by decide)] | rw [pm_u_eq, pm_up_eq])) <;> first | exact h.fl | rfl, by (repeat (first | rw [pm_u_ne (by decide)] | rw [pm_u_eq, pm_up_ne (by decide)] | rw [pm_u_eq, pm_up_eq])) <;> first | exact h.st | rfl, by (repeat (first | rw [pm_u_ne (by decide)] | rw [pm_u_eq, pm_up_ne (by decide)] | rw [pm_u_eq, pm_up_eq])) <;> first | exact h.dp | rfl, by (repeat (first | rw [pm_u_ne (by decide)] | rw [pm_u_eq, pm_up_ne (by decide)] | rw [pm_u_eq, pm_up_eq])) <;> first | exact h.rn | rfl, by rw [pm_u_eq, pm_up_eq, List.length_append, List.length_singleton]⟩ ⟨h.lm.1, by rw [List.length_append, List.length_singleton]; omega, h.lm.2.2⟩ (fun j x hj => by rw [pm_u_ne (by decide), pm_u_ne (by decide), pm_u_ne (by decide), pm_u_ne (by decide)]; exact h.fm j x hj) (fun j u hj => ?_) (fun k x hk => by rw [pm_u_ne (by decide), pm_u_ne (by decide), pm_u_ne (by decide), pm_u_ne (by decide), pm_u_ne (by decide)]; exact h.ct k x hk)
  rw [pm_u_ne (by decide), pm_u_eq, pm_u_eq]
  rcases Nat.lt_trichotomy j hv.length with h1 | h1 | h1
  · rw [pm_up_ne (by omega), pm_up_ne (by omega)]
    rw [List.getElem?_append_left h1] at hj
    exact h.vl j u hj
  · subst h1
    rw [List.getElem?_append_right (Nat.le_refl _), Nat.sub_self] at hj
    cases hj
    exact ⟨pm_up_eq, pm_up_eq⟩
  · rw [List.getElem?_eq_none (by rw [List.length_append, List.length_singleton]; omega)] at hj
    cases hj
theorem rS.go {N : Nat} (h : rS I0 J0 A I J fr hv cx s t) (hl : fr.length < 899) : rS I0 J0 A (pm_u (pm_u (pm_u I 90 fr.length (nI N)) 91 fr.length (nI 0)) 47 59 (nI (fr.length + 1))) J (fr ++ [(N, 0)]) hv cx s t := by
  refine h.mv (((rU.refl.uI (by decide)).uI (by decide)).uM (by decide)) ⟨by (repeat (first | rw [pm_u_ne (by decide)] | rw [pm_u_eq, pm_up_ne (by decide)] | rw [pm_u_eq, pm_up_eq])) <;> first | exact h.fl | rfl, by (repeat (first | rw [pm_u_ne (by decide)] | rw [pm_u_eq, pm_up_ne (by decide)] | rw [pm_u_eq, pm_up_eq])) <;> first | exact h.st | rfl, by (repeat (first | rw [pm_u_ne (by decide)] | rw [pm_u_eq, pm_up_ne (by decide)] | rw [pm_u_eq, pm_up_eq])) <;> first | exact h.dp | rfl, by rw [pm_u_eq, pm_up_eq, List.length_append, List.length_singleton], by (repeat (first | rw [pm_u_ne (by decide)] | rw [pm_u_eq, pm_up_ne (by decide)] | rw [pm_u_eq, pm_up_eq])) <;> first | exact h.hi | rfl⟩ ⟨by rw [List.length_append, List.length_singleton]; omega, h.lm.2⟩ (fun j x hj => ?_) (fun j v hj => by rw [pm_u_ne (by decide), pm_u_ne (by decide), pm_u_ne (by decide)]; exact h.vl j v hj) (fun k x hk => by rw [pm_u_ne (by decide), pm_u_ne (by decide), pm_u_ne (by decide), pm_u_ne (by decide), pm_u_ne (by decide), pm_u_ne (by decide)]; exact h.ct k x hk)
  rw [pm_u_ne (a := 47) (b := 90) (by decide), pm_u_ne (a := 91) (b := 90) (by decide), pm_u_eq, pm_u_ne (a := 47) (b := 91) (by decide), pm_u_eq]
  rcases Nat.lt_trichotomy j fr.length with h1 | h1 | h1
  · rw [pm_up_ne (by omega), pm_up_ne (by omega), pm_u_ne (by decide)]
    rw [List.getElem?_append_left h1] at hj
    exact h.fm j x hj
  · subst h1
    rw [List.getElem?_append_right (Nat.le_refl _), Nat.sub_self] at hj
    cases hj
    exact ⟨pm_up_eq, pm_up_eq⟩
  · rw [List.getElem?_eq_none (by rw [List.length_append, List.length_singleton]; omega)] at hj
    cases hj
theorem rS.setF {N f g : Nat} (h : rS I0 J0 A I J (fr ++ [(N, f)]) hv cx s t) : rS I0 J0 A (pm_u I 91 fr.length (nI g)) J (fr ++ [(N, g)]) hv cx s t := by
  refine h.mv (rU.refl.uI (by decide)) ⟨by (repeat (first | rw [pm_u_ne (by decide)] | rw [pm_u_eq, pm_up_ne (by decide)] | rw [pm_u_eq, pm_up_eq])) <;> first | exact h.fl | rfl, by (repeat (first | rw [pm_u_ne (by decide)] | rw [pm_u_eq, pm_up_ne (by decide)] | rw [pm_u_eq, pm_up_eq])) <;> first | exact h.st | rfl, by (repeat (first | rw [pm_u_ne (by decide)] | rw [pm_u_eq, pm_up_ne (by decide)] | rw [pm_u_eq, pm_up_eq])) <;> first | exact h.dp | rfl, by rw [pm_u_ne (by decide), h.rn, List.length_append, List.length_append]; rfl, by (repeat (first | rw [pm_u_ne (by decide)] | rw [pm_u_eq, pm_up_ne (by decide)] | rw [pm_u_eq, pm_up_eq])) <;> first | exact h.hi | rfl⟩ ⟨by have := h.lm.1; rw [List.length_append, List.length_singleton] at this ⊢; exact this, h.lm.2⟩ (fun j x hj => ?_) (fun j v hj => by rw [pm_u_ne (by decide)]; exact h.vl j v hj) (fun k x hk => by rw [pm_u_ne (by decide), pm_u_ne (by decide)]; exact h.ct k x hk)
  rw [pm_u_ne (a := 91) (b := 90) (by decide), pm_u_eq]
  rcases Nat.lt_trichotomy j fr.length with h1 | h1 | h1
  · rw [pm_up_ne (by omega)]
    rw [List.getElem?_append_left h1] at hj
    exact h.fm j x (by rw [List.getElem?_append_left h1]; exact hj)
  · subst h1
    rw [List.getElem?_append_right (Nat.le_refl _), Nat.sub_self] at hj
    cases hj
    exact ⟨(h.top).2.1, pm_up_eq⟩
  · rw [List.getElem?_eq_none (by rw [List.length_append, List.length_singleton]; omega)] at hj
    cases hj
/-- the last VALUE is another one -/
theorem rS.setV {v u : vV} (h : rS I0 J0 A I J fr (hv ++ [v]) cx s t) : rS I0 J0 A (pm_u I 92 hv.length (nI u.1)) (pm_u J 93 hv.length u.2) fr (hv ++ [u]) cx s t := by
  refine h.mv ((rU.refl.uI (by decide)).uJ (by decide)) ⟨by (repeat (first | rw [pm_u_ne (by decide)] | rw [pm_u_eq, pm_up_ne (by decide)] | rw [pm_u_eq, pm_up_eq])) <;> first | exact h.fl | rfl, by (repeat (first | rw [pm_u_ne (by decide)] | rw [pm_u_eq, pm_up_ne (by decide)] | rw [pm_u_eq, pm_up_eq])) <;> first | exact h.st | rfl, by (repeat (first | rw [pm_u_ne (by decide)] | rw [pm_u_eq, pm_up_ne (by decide)] | rw [pm_u_eq, pm_up_eq])) <;> first | exact h.dp | rfl, by (repeat (first | rw [pm_u_ne (by decide)] | rw [pm_u_eq, pm_up_ne (by decide)] | rw [pm_u_eq, pm_up_eq])) <;> first | exact h.rn | rfl, by rw [pm_u_ne (by decide), h.hi, List.length_append, List.length_append]; rfl⟩ ⟨h.lm.1, by have := h.lm.2.1; rw [List.length_append, List.length_singleton] at this ⊢; exact this, h.lm.2.2⟩ (fun j x hj => by rw [pm_u_ne (by decide), pm_u_ne (by decide)]; exact h.fm j x hj) (fun j x hj => ?_) (fun k x hk => by rw [pm_u_ne (by decide), pm_u_ne (by decide), pm_u_ne (by decide)]; exact h.ct k x hk)
  rw [pm_u_eq, pm_u_eq]
  rcases Nat.lt_trichotomy j hv.length with h1 | h1 | h1
  · rw [pm_up_ne (by omega), pm_up_ne (by omega)]
    rw [List.getElem?_append_left h1] at hj
    exact h.vl j x (by rw [List.getElem?_append_left h1]; exact hj)
  · subst h1
    rw [List.getElem?_append_right (Nat.le_refl _), Nat.sub_self] at hj
    cases hj
    exact ⟨pm_up_eq, pm_up_eq⟩
  · rw [List.getElem?_eq_none (by rw [List.length_append, List.length_singleton]; omega)] at hj
    cases hj
theorem rS.leave {x : Nat × List vV} (h : rS I0 J0 A I J fr hv (cx ++ [x]) s t) : rS I0 J0 A (pm_u I 47 55 (nI cx.length)) J fr hv cx s t := by
  refine h.mv (rU.refl.uM (by decide)) ⟨by (repeat (first | rw [pm_u_ne (by decide)] | rw [pm_u_eq, pm_up_ne (by decide)] | rw [pm_u_eq, pm_up_eq])) <;> first | exact h.fl | rfl, by (repeat (first | rw [pm_u_ne (by decide)] | rw [pm_u_eq, pm_up_ne (by decide)] | rw [pm_u_eq, pm_up_eq])) <;> first | exact h.st | rfl, by (repeat (first | rw [pm_u_ne (by decide)] | rw [pm_u_eq, pm_up_ne (by decide)] | rw [pm_u_eq, pm_up_eq])) <;> first | exact h.dp | rfl, by (repeat (first | rw [pm_u_ne (by decide)] | rw [pm_u_eq, pm_up_ne (by decide)] | rw [pm_u_eq, pm_up_eq])) <;> first | exact h.rn | rfl, by (repeat (first | rw [pm_u_ne (by decide)] | rw [pm_u_eq, pm_up_ne (by decide)] | rw [pm_u_eq, pm_up_eq])) <;> first | exact h.hi | rfl⟩ ⟨h.lm.1, h.lm.2.1, by have := h.lm.2.2.1; rw [List.length_append, List.length_singleton] at this; omega, h.lm.2.2.2⟩ (fun j x hj => by rw [pm_u_ne (by decide), pm_u_ne (by decide)]; exact h.fm j x hj) (fun j v hj => by rw [pm_u_ne (by decide)]; exact h.vl j v hj) (fun k y hk => ?_)
  rw [pm_u_ne (by decide), pm_u_ne (by decide)]
  refine h.ct k y ?_
  rw [List.getElem?_append_left (List.getElem?_eq_some_iff.mp hk).1]; exact hk
theorem rS.fail (h : rS I0 J0 A I J fr hv cx s t) (ht : t.length ≤ 16000) {e : Nat} {x1 x2 x3 x4 : Int32} : rX I0 J0 A (pm_u (pm_u (pm_u (pm_u (pm_u I 47 53 (nI e)) 76 0 x1) 76 1 x2) 76 2 x3) 76 3 x4) J e := by
  have hu : rU I J (pm_u (pm_u (pm_u (pm_u (pm_u I 47 53 (nI e)) 76 0 x1) 76 1 x2) 76 2 x3) 76 3 x4) J := ((((rU.refl.uM (by decide)).uI (by decide)).uI (by decide)).uI (by decide)).uI (by decide)
  exact ⟨h.f.mv hu, by (repeat (first | rw [pm_u_ne (by decide)] | rw [pm_u_eq, pm_up_eq])), t, h.1.2, h.tt.mv hu, ht⟩
theorem rX.mv {e : Nat} (h : rX I0 J0 A I J e) {k : Nat} {x : Int32} (hk : k = 54 ∨ k = 55 ∨ k = 59 ∨ k = 62) : rX I0 J0 A (pm_u I 47 k x) J e := by
  have hu : rU I J (pm_u I 47 k x) J := rU.refl.uM (by omega)
  obtain ⟨h1, h2, t, h3, h4, h5⟩ := h
  exact ⟨h1.mv hu, by rw [pm_u_eq, pm_up_ne (by omega)]; exact h2, t, h3, h4.mv hu, h5⟩
end RS
