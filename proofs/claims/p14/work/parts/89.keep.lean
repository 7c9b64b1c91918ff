/-- SNIPPET x is KEPT, with the VALUE v; t: the THINGS -/
def aS.kp (A : aS) (x : sN) (v : vV) (t : List tH) : aS := (A.ns, (fun w => if x.form ≠ 0 ∧ w = x.dec then x.form else A.fm w), (fun w => if x.form ≠ 0 ∧ w = x.dec then some A.sn.length else A.dc w), (fun w => if x.form = 3 ∧ w = x.dec then x.ed else A.ed w), (fun w => if x.form = 1 ∧ w = x.dec then v else A.va w), A.sn ++ [x], (if x.form = 0 then A.rs ++ [v] else A.rs), t)
section KP
variable {A : aS} {x : sN} {v : vV} {t : List tH}
theorem kp_ns : (A.kp x v t).ns = A.ns := rfl
theorem kp_sn : (A.kp x v t).sn = A.sn ++ [x] := rfl
theorem kp_rs : (A.kp x v t).rs = if x.form = 0 then A.rs ++ [v] else A.rs := rfl
theorem kp_th : (A.kp x v t).th = t := rfl
theorem kp_fm (w : Int64) : (A.kp x v t).fm w = if x.form ≠ 0 ∧ w = x.dec then x.form else A.fm w := rfl
theorem kp_dc (w : Int64) : (A.kp x v t).dc w = if x.form ≠ 0 ∧ w = x.dec then some A.sn.length else A.dc w := rfl
theorem kp_ed (w : Int64) : (A.kp x v t).ed w = if x.form = 3 ∧ w = x.dec then x.ed else A.ed w := rfl
theorem kp_va (w : Int64) : (A.kp x v t).va w = if x.form = 1 ∧ w = x.dec then v else A.va w := rfl
theorem kp_at {s : Nat} (hs : s < A.sn.length) : (A.kp x v t).at s = A.at s := by
  show (A.sn ++ [x]).getD s _ = A.sn.getD s _
  rw [List.getD_eq_getElem?_getD, List.getD_eq_getElem?_getD, List.getElem?_append_left hs]
theorem kp_new : (A.kp x v t).at A.sn.length = x := by
  show (A.sn ++ [x]).getD A.sn.length _ = x
  rw [List.getD_eq_getElem?_getD, List.getElem?_append_right (Nat.le_refl _), Nat.sub_self]
  rfl
theorem kp_len : (A.kp x v t).sn.length = A.sn.length + 1 := by rw [kp_sn, List.length_append, List.length_singleton]
theorem kp_edle (hO : aO A) (hx6 : x.form = 3 → x.ed = A.ed x.dec + 1) (w : Int64) : A.ed w ≤ (A.kp x v t).ed w := by
  rw [kp_ed]
  by_cases e : x.form = 3 ∧ w = x.dec
  · rw [if_pos e, hx6 e.1, e.2]; omega
  · rw [if_neg e]; exact Nat.le_refl _
/-- what a SNIPPET must be to be KEPT -/
def kO (A : aS) (x : sN) (v : vV) (t : List tH) : Prop := A.sn.length < 40 ∧ x.form ≤ 3 ∧ x.pa.length ≤ 3 ∧ (x.form ≠ 0 → x.dec ∈ A.ns) ∧ (∀ u ∈ x.pa, u ∈ A.ns) ∧ (x.form = 2 → wt x.pa (· ∈ A.ns) x.tr) ∧ (x.form = 3 → x.ed = A.ed x.dec + 1) ∧ vO t.length v ∧ tO A t ∧ A.th <+: t ∧ t.length ≤ A.th.length + 400
theorem aO.kp (hO : aO A) (hk : kO A x v t) : aO (A.kp x v t) := by
  obtain ⟨k1, k2, k3, k4, k5, k6, k7, k8, k9, k10, k11⟩ := hk
  have hed := kp_edle (v := v) (t := t) hO k7
  obtain ⟨h1, h2, h3, h4, h5, h6, h7, h8, h9, h10, h11, h12, h13⟩ := hO
  have hln := k10.length_le
  refine ⟨h1, fun w hw => ?_, fun w hw => ?_, fun w hw => ?_, fun s hs => ?_, fun s s' hs hs' f f' hd he => ?_, fun w hw => ?_, fun w hw => ?_, fun j s vs hj => ?_, ?_, ?_, ?_, fun w => ?_⟩
  · rw [kp_ns] at hw
    rw [kp_fm, kp_ed, if_neg (fun (q : x.form ≠ 0 ∧ w = x.dec) => hw (q.2 ▸ k4 q.1)), if_neg (fun (q : x.form = 3 ∧ w = x.dec) => hw (q.2 ▸ k4 (by omega)))]
    exact h2 w hw
  · rw [kp_fm] at hw
    rw [kp_dc]
    by_cases e : x.form ≠ 0 ∧ w = x.dec
    · rw [if_pos e] at hw; exact absurd hw e.1
    · rw [if_neg e] at hw ⊢; exact h3 w hw
  · rw [kp_fm] at hw ⊢
    rw [kp_dc]
    by_cases e : x.form ≠ 0 ∧ w = x.dec
    · rw [if_pos e, if_pos e]
      exact ⟨A.sn.length, rfl, by rw [kp_len]; omega, by rw [kp_new], by rw [kp_new]; exact e.2.symm, fun q => by rw [kp_new, kp_ed, if_pos ⟨q, e.2⟩]⟩
    · rw [if_neg e] at hw ⊢
      rw [if_neg e]
      obtain ⟨s, g1, g2, g3, g4, g5⟩ := h4 w hw
      refine ⟨s, g1, by rw [kp_len]; omega, by rw [kp_at g2]; exact g3, by rw [kp_at g2]; exact g4, fun q => ?_⟩
      rw [kp_at g2, kp_ed, if_neg (fun z => e ⟨by omega, z.2⟩)]
      exact g5 q
  · rw [kp_len] at hs
    by_cases e : s < A.sn.length
    · obtain ⟨g1, g2, g3, g4, g5, g6⟩ := h5 s e
      unfold snO
      rw [kp_at e]
      exact ⟨g1, g2, g3, g4, g5, fun q => Nat.le_trans (g6 q) (hed _)⟩
    · have e' : s = A.sn.length := by omega
      subst e'
      unfold snO
      rw [kp_new]
      exact ⟨k2, k3, k4, k5, k6, fun q => by rw [kp_ed, if_pos ⟨q, rfl⟩]; exact Nat.le_refl _⟩
  · rw [kp_len] at hs hs'
    by_cases e : s < A.sn.length
    · by_cases e' : s' < A.sn.length
      · rw [kp_at e] at f hd he
        rw [kp_at e'] at f' hd he
        exact h6 s s' e e' f f' hd he
      · have q : s' = A.sn.length := by omega
        subst q
        rw [kp_at e] at f hd he
        rw [kp_new] at f' hd he
        have g := (h5 s e).2.2.2.2.2 f
        rw [hd] at g
        have := k7 f'
        omega
    · have q : s = A.sn.length := by omega
      subst q
      by_cases e' : s' < A.sn.length
      · rw [kp_new] at f hd he
        rw [kp_at e'] at f' hd he
        have g := (h5 s' e').2.2.2.2.2 f'
        rw [← hd] at g
        have := k7 f
        omega
      · omega
  · rw [kp_fm] at hw
    rw [kp_th, kp_va]
    by_cases e : x.form ≠ 0 ∧ w = x.dec
    · rw [if_pos e] at hw
      rw [if_pos ⟨hw, e.2⟩]
      exact k8
    · rw [if_neg e] at hw
      rw [if_neg (fun z => e ⟨by omega, z.2⟩)]
      exact (h7 w hw).up hln
  · rw [kp_rs] at hw
    rw [kp_th]
    by_cases e : x.form = 0
    · rw [if_pos e] at hw
      rcases List.mem_append.mp hw with q | q
      · exact (h8 w q).up hln
      · cases List.mem_singleton.mp q; exact k8
    · rw [if_neg e] at hw
      exact (h8 w hw).up hln
  · rw [kp_th] at hj
    obtain ⟨g1, g2, g3, g4⟩ := k9 j s vs hj
    rw [kp_len, kp_at g1]
    exact ⟨by omega, g2, g3, g4⟩
  · rw [kp_th, kp_len]; omega
  · rw [kp_len]; omega
  · rw [kp_rs, kp_len]
    by_cases e : x.form = 0
    · rw [if_pos e, List.length_append, List.length_singleton]; omega
    · rw [if_neg e]; omega
  · rw [kp_ed, kp_len]
    have g := h13 w
    by_cases e : x.form = 3 ∧ w = x.dec
    · rw [if_pos e, k7 e.1, ← e.2]; omega
    · rw [if_neg e]; omega
/-- rows of NAMES; rows of RESULTS -/
def nmR (A : aS) (f17 : Nat → Int64) (f18 f19 f20 f28 : Nat → Int32) (f29 : Nat → Int64) : Prop := ∀ (j : Nat) (v : Int64), A.ns[j]? = some v → f17 j = v ∧ f18 j = nI (A.fm v) ∧ f19 j = eN (A.dc v) ∧ f20 j = nI (A.ed v) ∧ (A.fm v = 1 → f28 j = nI (A.va v).1 ∧ f29 j = (A.va v).2)
theorem nmR.kp {f17 f29 g29 : Nat → Int64} {f18 f19 f20 f28 g18 g19 g20 g28 : Nat → Int32} (h : nmR A f17 f18 f19 f20 f28 f29) (hO : aO A) (hk : kO A x v t) (h18 : g18 = if x.form = 0 then f18 else va_up f18 (A.ns.idxOf x.dec) (nI x.form)) (h19 : g19 = if x.form = 0 then f19 else va_up f19 (A.ns.idxOf x.dec) (nI A.sn.length)) (h20 : g20 = if x.form = 3 then va_up f20 (A.ns.idxOf x.dec) (f20 (A.ns.idxOf x.dec) + nI 1) else f20) (h28 : g28 = if x.form = 1 then va_up f28 (A.ns.idxOf x.dec) (nI v.1) else f28) (h29 : g29 = if x.form = 1 then va_up f29 (A.ns.idxOf x.dec) v.2 else f29) : nmR (A.kp x v t) f17 g18 g19 g20 g28 g29 := by
  intro j u hj
  rw [kp_ns] at hj
  obtain ⟨e1, e2, e3, e4, e5⟩ := h j u hj
  have hjl := (List.getElem?_eq_some_iff.mp hj).1
  have hju : A.ns.idxOf u = j := nd_ix hO.1.1 hj
  subst h18 h19 h20 h28 h29
  rw [kp_fm, kp_dc, kp_ed, kp_va]
  by_cases hu : u = x.dec
  · subst hu
    rw [hju]
    refine ⟨e1, ?_, ?_, ?_, ?_⟩
    · by_cases f : x.form = 0
      · rw [if_pos f, if_neg (fun q => q.1 f)]; exact e2
      · rw [if_neg f, if_pos ⟨f, rfl⟩, pm_up_eq]
    · by_cases f : x.form = 0
      · rw [if_pos f, if_neg (fun q => q.1 f)]; exact e3
      · rw [if_neg f, if_pos ⟨f, rfl⟩, pm_up_eq]; rfl
    · by_cases f : x.form = 3
      · rw [if_pos f, if_pos ⟨f, rfl⟩, pm_up_eq, e4, hk.2.2.2.2.2.2.1 f]; exact nI_add _ 1
      · rw [if_neg f, if_neg (fun q => f q.1)]; exact e4
    · intro f
      by_cases f1 : x.form = 1
      · rw [if_pos f1, if_pos f1, if_pos ⟨f1, rfl⟩, pm_up_eq, pm_up_eq]; exact ⟨rfl, rfl⟩
      · rw [if_neg f1, if_neg f1, if_neg (fun q => f1 q.1)]
        by_cases f0 : x.form = 0
        · rw [if_neg (fun q => q.1 f0)] at f; exact e5 f
        · rw [if_pos ⟨f0, rfl⟩] at f; exact absurd f f1
  · have hne : x.form ≠ 0 → j ≠ A.ns.idxOf x.dec := fun f q => hu (by
      have g := (ns_at (hk.2.2.2.1 f)).1
      rw [← q, hj] at g
      exact Option.some.inj g)
    rw [if_neg (fun (q : x.form ≠ 0 ∧ u = x.dec) => hu q.2), if_neg (fun (q : x.form ≠ 0 ∧ u = x.dec) => hu q.2), if_neg (fun (q : x.form = 3 ∧ u = x.dec) => hu q.2), if_neg (fun (q : x.form = 1 ∧ u = x.dec) => hu q.2)]
    refine ⟨e1, ?_, ?_, ?_, fun f => ⟨?_, ?_⟩⟩
    · by_cases f : x.form = 0
      · rw [if_pos f]; exact e2
      · rw [if_neg f, pm_up_ne (hne f)]; exact e2
    · by_cases f : x.form = 0
      · rw [if_pos f]; exact e3
      · rw [if_neg f, pm_up_ne (hne f)]; exact e3
    · by_cases f : x.form = 3
      · rw [if_pos f, pm_up_ne (hne (by omega))]; exact e4
      · rw [if_neg f]; exact e4
    · by_cases f1 : x.form = 1
      · rw [if_pos f1, pm_up_ne (hne (by omega))]; exact (e5 f).1
      · rw [if_neg f1]; exact (e5 f).1
    · by_cases f1 : x.form = 1
      · rw [if_pos f1, pm_up_ne (hne (by omega))]; exact (e5 f).2
      · rw [if_neg f1]; exact (e5 f).2
def rsR (A : aS) (f31 : Nat → Int32) (f32 : Nat → Int64) : Prop := ∀ (j : Nat) (v : vV), A.rs[j]? = some v → f31 (j + 1) = nI v.1 ∧ f32 (j + 1) = v.2
theorem rsR.kp {f31 g31 : Nat → Int32} {f32 g32 : Nat → Int64} (h : rsR A f31 f32) (h31 : g31 = if x.form = 0 then va_up f31 (A.rs.length + 1) (nI v.1) else f31) (h32 : g32 = if x.form = 0 then va_up f32 (A.rs.length + 1) v.2 else f32) : rsR (A.kp x v t) g31 g32 := by
  intro j u hj
  subst h31 h32
  rw [kp_rs] at hj
  by_cases f : x.form = 0
  · rw [if_pos f] at hj
    rw [if_pos f, if_pos f]
    by_cases hjl : j < A.rs.length
    · rw [List.getElem?_append_left hjl] at hj
      rw [pm_up_ne (by omega), pm_up_ne (by omega)]
      exact h j u hj
    · rw [List.getElem?_append_right (by omega)] at hj
      have hz := (List.getElem?_eq_some_iff.mp hj).1
      rw [List.length_singleton] at hz
      have e : j = A.rs.length := by omega
      subst e
      rw [Nat.sub_self] at hj
      cases hj
      rw [pm_up_eq, pm_up_eq]
      exact ⟨rfl, rfl⟩
  · rw [if_neg f] at hj
    rw [if_neg f, if_neg f]
    exact h j u hj
end KP
