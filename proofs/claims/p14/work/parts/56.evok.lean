/-- a VALUE, among so many THINGS -/
def vO (m : Nat) (v : vV) : Prop := v.1 ≤ 2 ∧ (v.1 = 2 → ∃ j, j < m ∧ v.2 = lN j)
theorem vO.up {m m' : Nat} {v : vV} (h : vO m v) (hm : m ≤ m') : vO m' v := ⟨h.1, fun h2 => by obtain ⟨j, h3, h4⟩ := h.2 h2; exact ⟨j, by omega, h4⟩⟩
theorem vO_wh {m : Nat} {x : Int64} : vO m (1, x) := ⟨(by decide : (1 : Nat) ≤ 2), fun h => absurd h (by decide : ¬ (1 : Nat) = 2)⟩
theorem vO_no {m : Nat} : vO m (0, 0) := ⟨(by decide : (0 : Nat) ≤ 2), fun h => absurd h (by decide : ¬ (0 : Nat) = 2)⟩
/-- THINGS -/
def tO (A : aS) (t : List tH) : Prop := ∀ (j s : Nat) (vs : List vV), t[j]? = some (s, vs) → s < A.sn.length ∧ (A.at s).form = 3 ∧ vs.length = (A.at s).pa.length ∧ ∀ v ∈ vs, vO t.length v
def snO (A : aS) (s : Nat) : Prop := (A.at s).form ≤ 3 ∧ (A.at s).pa.length ≤ 3 ∧ ((A.at s).form ≠ 0 → (A.at s).dec ∈ A.ns) ∧ (∀ v ∈ (A.at s).pa, v ∈ A.ns) ∧ ((A.at s).form = 2 → wt (A.at s).pa (· ∈ A.ns) (A.at s).tr) ∧ ((A.at s).form = 3 → (A.at s).ed ≤ A.ed (A.at s).dec)
/-- what stays is as runs leave it -/
def aO (A : aS) : Prop :=
  (A.ns.Nodup ∧ A.ns.length ≤ 40) ∧ (∀ v, v ∉ A.ns → A.fm v = 0 ∧ A.ed v = 0) ∧ (∀ v, A.fm v = 0 → A.dc v = none) ∧
  (∀ v, A.fm v ≠ 0 → ∃ s, A.dc v = some s ∧ s < A.sn.length ∧ (A.at s).form = A.fm v ∧ (A.at s).dec = v ∧ (A.fm v = 3 → (A.at s).ed = A.ed v)) ∧
  (∀ s, s < A.sn.length → snO A s) ∧
  (∀ s s', s < A.sn.length → s' < A.sn.length → (A.at s).form = 3 → (A.at s').form = 3 → (A.at s).dec = (A.at s').dec → (A.at s).ed = (A.at s').ed → s = s') ∧
  (∀ v, A.fm v = 1 → vO A.th.length (A.va v)) ∧ (∀ v ∈ A.rs, vO A.th.length v) ∧ tO A A.th ∧ A.th.length ≤ 400 * A.sn.length ∧ A.sn.length ≤ 40 ∧ A.rs.length ≤ A.sn.length ∧ ∀ v, A.ed v ≤ A.sn.length
/-- what an outcome of the evaluation keeps -/
def eO (A : aS) (s : Nat) (t : List tH) (r : evR) : Prop := (∀ v s' t', r = .ok (v, s', t') → vO t'.length v ∧ tO A t' ∧ s ≤ s' ∧ s' ≤ 400 ∧ t.length ≤ t'.length ∧ t'.length + s ≤ t.length + s') ∧ ∀ e, r = .error e → 1 ≤ e ∧ e ≤ 9
theorem eO_err {A : aS} {s : Nat} {t : List tH} {e : Nat} (h : 1 ≤ e ∧ e ≤ 9) : eO A s t (.error e) := ⟨(fun _ _ _ h' => nomatch h'), fun _ h' => by cases h'; exact h⟩
theorem eO_ok {A : aS} {s : Nat} {t : List tH} {v : vV} {s' : Nat} (hv : vO t.length v) (ht : tO A t) (h1 : s ≤ s') (h2 : s' ≤ 400) : eO A s t (.ok (v, s', t)) := ⟨fun _ _ _ h' => by cases h'; exact ⟨hv, ht, h1, h2, Nat.le_refl _, by omega⟩, fun _ h' => nomatch h'⟩
theorem ebd_eO {A : aS} {s : Nat} {t : List tH} {r : evR} {f : vV → Nat → List tH → evR} (hr : eO A s t r) (hf : ∀ v s1 t1, r = .ok (v, s1, t1) → vO t1.length v → tO A t1 → s ≤ s1 → s1 ≤ 400 → t.length ≤ t1.length → eO A s1 t1 (f v s1 t1)) : eO A s t (ebd r f) := by
  rcases r with e | ⟨v, s1, t1⟩
  · exact eO_err (hr.2 e rfl)
  · obtain ⟨h1, h2, h3, h4, h5, h6⟩ := hr.1 v s1 t1 rfl
    have h := hf v s1 t1 rfl h1 h2 h3 h4 h5
    refine ⟨fun v' s' t' h' => ?_, fun e h' => h.2 e h'⟩
    obtain ⟨g1, g2, g3, g4, g5, g6⟩ := h.1 v' s' t' h'
    exact ⟨g1, g2, by omega, g4, by omega, by omega⟩
theorem eO.le {A : aS} {s s0 : Nat} {t : List tH} {r : evR} (h : eO A s t r) (hs : s0 ≤ s) : eO A s0 t r := ⟨fun v s' t' h' => by obtain ⟨g1, g2, g3, g4, g5, g6⟩ := h.1 v s' t' h'; exact ⟨g1, g2, by omega, g4, g5, by omega⟩, h.2⟩
theorem ckC_le {A : aS} {dp g : Nat} {v : Int64} : ckC A dp g v ≤ 9 := by unfold ckC; (repeat' split) <;> omega
theorem ckW_le {v : vV} : ckW v ≤ 3 := by unfold ckW; (repeat' split) <;> omega
theorem ckO_le {x : Nat} {l r : vV} : ckO x l r ≤ 4 := by unfold ckO; (repeat' split) <;> omega
theorem ckF_le {A : aS} {t : List tH} {v : vV} {w : Int64} : ckF A t v w ≤ 7 := by unfold ckF; (repeat' split) <;> omega
theorem ps_arg_lt {v : Int64} {j : Nat} : ∀ {pa : List Int64} {i : Nat}, ps_arg pa v i = some j → i ≤ j ∧ j < i + pa.length ∧ pa[j - i]? = some v
  | [], i, h => nomatch h
  | a :: t, i, h => by
    unfold ps_arg at h
    by_cases ha : a = v
    · rw [if_pos ha] at h
      cases h
      refine ⟨Nat.le_refl _, by rw [List.length_cons]; omega, ?_⟩
      rw [Nat.sub_self, ha]; rfl
    · rw [if_neg ha] at h
      obtain ⟨h1, h2, h3⟩ := ps_arg_lt h
      refine ⟨by omega, by rw [List.length_cons]; omega, ?_⟩
      rw [show j - i = (j - (i + 1)) + 1 by omega, List.getElem?_cons_succ]; exact h3
theorem thO_at {A : aS} {t : List tH} {v : vV} (ht : tO A t) (h2 : v.1 = 2) (hv : vO t.length v) (hb : t.length < 2 ^ 31) : ∃ j, j < t.length ∧ v.2 = lN j ∧ t[j]? = some (thO t v) := by
  obtain ⟨j, h3, h4⟩ := hv.2 h2
  refine ⟨j, h3, h4, ?_⟩
  have e : v.2.toInt.toNat = j := by rw [h4, lN_toInt (by omega)]; rfl
  unfold thO
  rw [e, List.getD_eq_getElem?_getD, List.getElem?_eq_getElem h3]; rfl
theorem ckF_ok {A : aS} {t : List tH} {v : vV} {w : Int64} (ht : tO A t) (hv : vO t.length v) (hb : t.length < 2 ^ 31) (h : ckF A t v w = 0) : ∃ j i, v.1 = 2 ∧ j < t.length ∧ v.2 = lN j ∧ t[j]? = some (thO t v) ∧ (A.fm (A.at (thO t v).1).dec = 3 ∧ A.dc (A.at (thO t v).1).dec = some (thO t v).1) ∧ ps_arg (A.at (thO t v).1).pa w 0 = some i ∧ (thO t v).2[i]? = some (fdV A t v w) := by
  unfold ckF at h
  by_cases h2 : v.1 = 2
  · rw [if_pos h2] at h
    by_cases h3 : A.fm (A.at (thO t v).1).dec = 3 ∧ A.dc (A.at (thO t v).1).dec = some (thO t v).1
    · rw [if_pos h3] at h
      obtain ⟨j, h4, h5, h6⟩ := thO_at ht h2 hv hb
      rcases hp : ps_arg (A.at (thO t v).1).pa w 0 with _ | i
      · rw [hp] at h; exact absurd h (by decide)
      · refine ⟨j, i, h2, h4, h5, h6, h3, rfl, ?_⟩
        obtain ⟨g1, g2, g3⟩ := ps_arg_lt hp
        obtain ⟨k1, k2, k3, k4⟩ := ht j (thO t v).1 (thO t v).2 h6
        have hi : i < (thO t v).2.length := by omega
        unfold fdV
        rw [hp, Option.getD_some, List.getD_eq_getElem?_getD, List.getElem?_eq_getElem hi]; rfl
    · rw [if_neg h3] at h; exact absurd h (by decide)
  · rw [if_neg h2] at h
    by_cases h3 : v.1 = 0
    · rw [if_pos h3] at h; exact absurd h (by decide)
    · rw [if_neg h3] at h; exact absurd h (by decide)
theorem ckC_ok {A : aS} {dp g : Nat} {w : Int64} (hA : aO A) (h : ckC A dp g w = 0) : (A.fm w = 2 ∧ dp < 20 ∨ A.fm w = 3) ∧ A.dc w = some (A.by w) ∧ A.by w < A.sn.length ∧ (A.at (A.by w)).form = A.fm w ∧ (A.at (A.by w)).dec = w ∧ (A.at (A.by w)).pa.length = g ∧ (A.fm w = 3 → (A.at (A.by w)).ed = A.ed w) := by
  unfold ckC at h
  by_cases h1 : A.fm w = 2 ∨ A.fm w = 3
  · rw [if_pos h1] at h
    by_cases h2 : (A.at (A.by w)).pa.length = g
    · rw [if_pos h2] at h
      by_cases h3 : A.fm w = 2 ∧ 20 ≤ dp
      · rw [if_pos h3] at h; exact absurd h (by decide)
      · obtain ⟨s, g1, g2, g3, g4, g5⟩ := hA.2.2.2.1 w (by omega)
        have e : A.by w = s := by unfold aS.by; rw [g1]; rfl
        rw [e] at h2 ⊢
        exact ⟨by omega, g1, g2, g3, g4, h2, g5⟩
    · rw [if_neg h2] at h; exact absurd h (by decide)
  · rw [if_neg h1] at h; exact absurd h (by decide)
theorem fin_eO {A : aS} {cl : Nat → List vV → Nat → List tH → evR} {dp g : Nat} {w : Int64} {vs : List vV} {s : Nat} {t : List tH} (hA : aO A) (hc : ckC A dp g w = 0) (hg : vs.length = g) (hv : ∀ v ∈ vs, vO t.length v) (ht : tO A t) (hs : (1 ≤ s ∧ s ≤ 400) ∧ A.th.length ≤ t.length ∧ t.length + (400 - s) < 2 ^ 31) (hcl : dp < 20 → ∀ s' vs s t, s' < A.sn.length → (A.at s').form = 2 → vs.length = (A.at s').pa.length → (∀ v ∈ vs, vO t.length v) → tO A t → A.th.length ≤ t.length → s ≤ 400 → t.length + (400 - s) < 2 ^ 31 → eO A s t (cl s' vs s t)) : eO A (s - 1) t (fin A cl w vs s t) := by
  obtain ⟨h1, h2, h3, h4, h5, h6, h7⟩ := ckC_ok hA hc
  unfold fin
  by_cases h8 : A.fm w = 3
  · rw [if_pos h8]
    refine ⟨fun v s' t' h' => ?_, fun _ h' => nomatch h'⟩
    cases h'
    rw [List.length_append]
    refine ⟨⟨Nat.le_refl _, fun _ => ⟨t.length, by rw [List.length_singleton]; omega, rfl⟩⟩, fun j s1 vs1 hj => ?_, by omega, by omega, by omega, by rw [List.length_singleton]; omega⟩
    rw [List.length_append]
    rcases Nat.lt_or_ge j t.length with hj2 | hj2
    · rw [List.getElem?_append_left hj2] at hj
      obtain ⟨k1, k2, k3, k4⟩ := ht j s1 vs1 hj
      exact ⟨k1, k2, k3, fun v hv' => (k4 v hv').up (by omega)⟩
    · rw [List.getElem?_append_right hj2] at hj
      have hj3 : j - t.length = 0 := by
        rcases Nat.eq_zero_or_pos (j - t.length) with h | h
        · exact h
        · rw [List.getElem?_eq_none (by rw [List.length_singleton]; exact h)] at hj; cases hj
      rw [hj3] at hj
      cases hj
      exact ⟨h3, by rw [h4]; exact h8, by omega, fun v hv' => (hv v hv').up (by omega)⟩
  · rw [if_neg h8]
    have h9 : A.fm w = 2 ∧ dp < 20 := by omega
    exact (hcl h9.2 _ _ _ _ h3 (by rw [h4]; exact h9.1) (by omega) hv ht hs.2.1 hs.1.2 hs.2.2).le (by omega)
theorem ev_ok {A : aS} {cl : Nat → List vV → Nat → List tH → evR} {dp : Nat} {ar : List vV} {pa : List Int64} (hA : aO A) (hcl : dp < 20 → ∀ s' vs s t, s' < A.sn.length → (A.at s').form = 2 → vs.length = (A.at s').pa.length → (∀ v ∈ vs, vO t.length v) → tO A t → A.th.length ≤ t.length → s ≤ 400 → t.length + (400 - s) < 2 ^ 31 → eO A s t (cl s' vs s t)) (hp : ar.length = pa.length) (hlen : ∀ v ∈ A.rs, vO A.th.length v) : ∀ (T : eX) (s : Nat) (t : List tH), wt pa (· ∈ A.ns) T → (∀ v ∈ ar, vO t.length v) → tO A t → A.th.length ≤ t.length → s ≤ 400 → t.length + (400 - s) < 2 ^ 31 → eO A s t (evT A cl dp ar T s t)
  | .leaf, s, t, hT, _, _, _, _, _ => hT.elim
  | .inner k q u a .leaf, s, t, hT, hv, ht, hth, hs, hb => by
    by_cases h4 : 400 ≤ s
    · have e : k ≠ 1 := by rcases hT with rfl | rfl | ⟨rfl, _⟩ | ⟨rfl, _⟩ | ⟨rfl, _⟩ | ⟨rfl, _⟩ <;> decide
      unfold evT
      rw [if_neg e, if_pos h4]
      exact eO_err (by decide)
    · rcases hT with rfl | rfl | ⟨rfl, h2, h3⟩ | ⟨rfl, h2, h3⟩ | ⟨rfl, h2⟩ | ⟨rfl, h2, h3⟩
      · show eO A s t (if 400 ≤ s then .error 8 else .ok ((1, q.2), s + 1, t))
        rw [if_neg h4]
        exact eO_ok vO_wh ht (by omega) (by omega)
      · show eO A s t (if 400 ≤ s then .error 8 else (if 1 ≤ q.2.toInt32.toInt ∧ q.2.toInt32.toInt ≤ (A.rs.length : Int) then .ok (A.rs.getD (q.2.toInt32.toInt.toNat - 1) (0, 0), s + 1, t) else .error 1))
        rw [if_neg h4]
        by_cases h5 : 1 ≤ q.2.toInt32.toInt ∧ q.2.toInt32.toInt ≤ (A.rs.length : Int)
        · rw [if_pos h5]
          refine eO_ok ?_ ht (by omega) (by omega)
          have hi : q.2.toInt32.toInt.toNat - 1 < A.rs.length := by omega
          rw [List.getD_eq_getElem?_getD, List.getElem?_eq_getElem hi]
          exact (hlen _ (List.getElem_mem hi)).up hth
        · rw [if_neg h5]; exact eO_err (by decide)
      · show eO A s t (if 400 ≤ s then .error 8 else .ok (ar.getD q.1 (0, 0), s + 1, t))
        rw [if_neg h4]
        refine eO_ok ?_ ht (by omega) (by omega)
        obtain ⟨g1, g2, g3⟩ := ps_arg_lt h2
        have hi : q.1 < ar.length := by omega
        rw [List.getD_eq_getElem?_getD, List.getElem?_eq_getElem hi]
        exact hv _ (List.getElem_mem hi)
      · show eO A s t (if 400 ≤ s then .error 8 else (if A.fm q.2 = 1 then .ok (A.va q.2, s + 1, t) else .error 1))
        rw [if_neg h4]
        by_cases h5 : A.fm q.2 = 1
        · rw [if_pos h5]
          exact eO_ok ((hA.2.2.2.2.2.2.1 q.2 h5).up hth) ht (by omega) (by omega)
        · rw [if_neg h5]; exact eO_err (by decide)
      · show eO A s t (if 400 ≤ s then .error 8 else ebd (evT A cl dp ar a (s + 1) t) fun v s1 t1 => if ckW v = 0 then .ok ((1, -v.2), s1, t1) else .error (ckW v))
        rw [if_neg h4]
        refine (ebd_eO (ev_ok hA hcl hp hlen a (s + 1) t h2 hv ht hth (by omega) (by omega)) fun v s1 t1 hr g1 g2 g3 g4 g5 => ?_).le (by omega)
        by_cases h5 : ckW v = 0
        · rw [if_pos h5]; exact eO_ok vO_wh g2 (Nat.le_refl _) g4
        · rw [if_neg h5]; exact eO_err (by have := ckW_le (v := v); omega)
      · show eO A s t (if 400 ≤ s then .error 8 else ebd (evT A cl dp ar a (s + 1) t) fun v s1 t1 => if ckF A t1 v q.2 = 0 then .ok (fdV A t1 v q.2, s1, t1) else .error (ckF A t1 v q.2))
        rw [if_neg h4]
        have hI := ev_ok hA hcl hp hlen a (s + 1) t h3 hv ht hth (by omega) (by omega)
        refine (ebd_eO hI fun v s1 t1 hr g1 g2 g3 g4 g5 => ?_).le (by omega)
        obtain ⟨-, -, -, -, -, g6⟩ := hI.1 v s1 t1 hr
        by_cases h5 : ckF A t1 v q.2 = 0
        · rw [if_pos h5]
          obtain ⟨j, i, k1, k2, k3, k4, k5, k6, k7⟩ := ckF_ok g2 g1 (by omega) h5
          exact eO_ok ((g2 j _ _ k4).2.2.2 _ (List.mem_of_getElem? k7)) g2 (Nat.le_refl _) g4
        · rw [if_neg h5]; exact eO_err (by have := ckF_le (A := A) (t := t1) (v := v) (w := q.2); omega)
  | .inner k q u a (.inner k2 q2 u2 b c), s, t, hT, hv, ht, hth, hs, hb => by
    by_cases h4 : 400 ≤ s
    · unfold evT
      rw [if_pos h4]
      exact eO_err (by decide)
    · rcases hT with ⟨rfl, h2, h3, ha, hB, hC⟩ | ⟨rfl, h2, h3, h5, rfl⟩ | ⟨rfl, h2, h3, h5⟩
      · show eO A s t (if 400 ≤ s then .error 8 else (if ckC A dp q.1 q.2 = 0 then (if q.1 = 0 then fin A cl q.2 [] (s + 1) t else ebd (evT A cl dp ar a (s + 1) t) fun v1 s1 t1 => if q.1 = 1 then fin A cl q.2 [v1] s1 t1 else ebd (evT A cl dp ar b s1 t1) fun v2 s2 t2 => if q.1 = 2 then fin A cl q.2 [v1, v2] s2 t2 else ebd (evT A cl dp ar c s2 t2) fun v3 s3 t3 => fin A cl q.2 [v1, v2, v3] s3 t3) else .error (ckC A dp q.1 q.2)))
        rw [if_neg h4]
        by_cases hk : ckC A dp q.1 q.2 = 0
        · rw [if_pos hk]
          by_cases q0 : q.1 = 0
          · rw [if_pos q0]
            exact fin_eO hA hk q0.symm (fun v hv => nomatch hv) ht ⟨⟨by omega, by omega⟩, hth, by omega⟩ hcl
          · rw [if_neg q0]
            have ha : wt pa (· ∈ A.ns) a := by rcases ha with h | h; exact absurd h.1 (by omega); exact h.2
            have hI := ev_ok hA hcl hp hlen a (s + 1) t ha hv ht hth (by omega) (by omega)
            have key : ∀ v1 s1 t1, evT A cl dp ar a (s + 1) t = .ok (v1, s1, t1) → eO A s t (if q.1 = 1 then fin A cl q.2 [v1] s1 t1 else ebd (evT A cl dp ar b s1 t1) fun v2 s2 t2 => if q.1 = 2 then fin A cl q.2 [v1, v2] s2 t2 else ebd (evT A cl dp ar c s2 t2) fun v3 s3 t3 => fin A cl q.2 [v1, v2, v3] s3 t3) := by
              intro v1 s1 t1 hr
              obtain ⟨g1, g2, g3, g4, g5, g6⟩ := hI.1 v1 s1 t1 hr
              have wid : ∀ {r : evR}, eO A (s1 - 1) t1 r → eO A s t r := fun h => ⟨fun v s' t' h' => by obtain ⟨x1, x2, x3, x4, x5, x6⟩ := h.1 v s' t' h'; exact ⟨x1, x2, by omega, x4, by omega, by omega⟩, h.2⟩
              by_cases q1 : q.1 = 1
              · rw [if_pos q1]
                refine wid (fin_eO hA hk (by rw [q1]; rfl) (fun v hv => ?_) g2 ⟨⟨by omega, g4⟩, by omega, by omega⟩ hcl)
                rw [List.mem_singleton.mp hv]; exact g1
              · rw [if_neg q1]
                have hB : wt pa (· ∈ A.ns) b := by rcases hB with h | h; exact absurd h.1 (by omega); exact h.2
                have hI2 := ev_ok hA hcl hp hlen b s1 t1 hB (fun v h => (hv v h).up g5) g2 (by omega) g4 (by omega)
                rcases hr2 : evT A cl dp ar b s1 t1 with e | ⟨v2, s2, t2⟩
                · exact eO_err (hI2.2 e hr2)
                · obtain ⟨k1, k2, k3, k4, k5, k6⟩ := hI2.1 v2 s2 t2 hr2
                  have wid2 : ∀ {r : evR}, eO A (s2 - 1) t2 r → eO A s t r := fun h => ⟨fun v s' t' h' => by obtain ⟨x1, x2, x3, x4, x5, x6⟩ := h.1 v s' t' h'; exact ⟨x1, x2, by omega, x4, by omega, by omega⟩, h.2⟩
                  show eO A s t (if q.1 = 2 then fin A cl q.2 [v1, v2] s2 t2 else ebd (evT A cl dp ar c s2 t2) fun v3 s3 t3 => fin A cl q.2 [v1, v2, v3] s3 t3)
                  by_cases q2 : q.1 = 2
                  · rw [if_pos q2]
                    refine wid2 (fin_eO hA hk (by rw [q2]; rfl) (fun v hv => ?_) k2 ⟨⟨by omega, k4⟩, by omega, by omega⟩ hcl)
                    rcases List.mem_cons.mp hv with rfl | hv
                    · exact g1.up k5
                    · rw [List.mem_singleton.mp hv]; exact k1
                  · rw [if_neg q2]
                    have hC : wt pa (· ∈ A.ns) c := by rcases hC with h | h; exact absurd h.1 (by omega); exact h.2
                    have hI3 := ev_ok hA hcl hp hlen c s2 t2 hC (fun v h => (hv v h).up (by omega)) k2 (by omega) k4 (by omega)
                    rcases hr3 : evT A cl dp ar c s2 t2 with e | ⟨v3, s3, t3⟩
                    · exact eO_err (hI3.2 e hr3)
                    · obtain ⟨m1, m2, m3, m4, m5, m6⟩ := hI3.1 v3 s3 t3 hr3
                      have wid3 : ∀ {r : evR}, eO A (s3 - 1) t3 r → eO A s t r := fun h => ⟨fun v s' t' h' => by obtain ⟨x1, x2, x3, x4, x5, x6⟩ := h.1 v s' t' h'; exact ⟨x1, x2, by omega, x4, by omega, by omega⟩, h.2⟩
                      refine wid3 (fin_eO hA hk (show 3 = q.1 by omega) (fun v hv => ?_) m2 ⟨⟨by omega, m4⟩, by omega, by omega⟩ hcl)
                      rcases List.mem_cons.mp hv with rfl | hv
                      · exact g1.up (by omega)
                      · rcases List.mem_cons.mp hv with rfl | hv
                        · exact k1.up m5
                        · rw [List.mem_singleton.mp hv]; exact m1
            rcases hr : evT A cl dp ar a (s + 1) t with e | ⟨v1, s1, t1⟩
            · exact eO_err (hI.2 e hr)
            · exact key v1 s1 t1 hr
        · rw [if_neg hk]; exact eO_err (by have := ckC_le (A := A) (dp := dp) (g := q.1) (v := q.2); omega)
      · show eO A s t (if 400 ≤ s then .error 8 else ebd (evT A cl dp ar a (s + 1) t) fun v1 s1 t1 => ebd (evT A cl dp ar b s1 t1) fun v2 s2 t2 => if ckO q.1 v1 v2 = 0 then .ok ((1, opV q.1 v1.2 v2.2), s2, t2) else .error (ckO q.1 v1 v2))
        rw [if_neg h4]
        have hI := ev_ok hA hcl hp hlen a (s + 1) t h3 hv ht hth (by omega) (by omega)
        refine (ebd_eO hI fun v1 s1 t1 hr g1 g2 g3 g4 g5 => ?_).le (by omega)
        obtain ⟨-, -, -, -, -, g6⟩ := hI.1 v1 s1 t1 hr
        refine ebd_eO (ev_ok hA hcl hp hlen b s1 t1 h5 (fun v h => (hv v h).up g5) g2 (by omega) g4 (by omega)) fun v2 s2 t2 hr2 k1 k2 k3 k4 k5 => ?_
        by_cases hk : ckO q.1 v1 v2 = 0
        · rw [if_pos hk]; exact eO_ok vO_wh k2 (Nat.le_refl _) k4
        · rw [if_neg hk]; exact eO_err (by have := ckO_le (x := q.1) (l := v1) (r := v2); omega)
      · show eO A s t (if 400 ≤ s then .error 8 else ebd (evT A cl dp ar a (s + 1) t) fun v1 s1 t1 => if ckW v1 = 0 then (if v1.2 = 0 then evT A cl dp ar c s1 t1 else evT A cl dp ar b s1 t1) else .error (ckW v1))
        rw [if_neg h4]
        have hI := ev_ok hA hcl hp hlen a (s + 1) t h2 hv ht hth (by omega) (by omega)
        refine (ebd_eO hI fun v1 s1 t1 hr g1 g2 g3 g4 g5 => ?_).le (by omega)
        obtain ⟨-, -, -, -, -, g6⟩ := hI.1 v1 s1 t1 hr
        by_cases hk : ckW v1 = 0
        · rw [if_pos hk]
          by_cases hz : v1.2 = 0
          · rw [if_pos hz]; exact ev_ok hA hcl hp hlen c s1 t1 h5 (fun v h => (hv v h).up g5) g2 (by omega) g4 (by omega)
          · rw [if_neg hz]; exact ev_ok hA hcl hp hlen b s1 t1 h3 (fun v h => (hv v h).up g5) g2 (by omega) g4 (by omega)
        · rw [if_neg hk]; exact eO_err (by have := ckW_le (v := v1); omega)
theorem evC_ok {A : aS} (hA : aO A) : ∀ (k s' : Nat) (vs : List vV) (s : Nat) (t : List tH), 1 ≤ k → k ≤ 20 → s' < A.sn.length → (A.at s').form = 2 → vs.length = (A.at s').pa.length → (∀ v ∈ vs, vO t.length v) → tO A t → A.th.length ≤ t.length → s ≤ 400 → t.length + (400 - s) < 2 ^ 31 → eO A s t (evC A k s' vs s t)
  | 0, s', vs, s, t, h, _, _, _, _, _, _, _, _, _ => absurd h (by decide)
  | k + 1, s', vs, s, t, _, h1, h2, h3, h4, h5, h6, h7, h8, h9 => by
    have hw := (hA.2.2.2.2.1 s' h2).2.2.2.2.1 h3
    refine ev_ok (cl := evC A k) hA (fun hd s' vs s t g2 g3 g4 g5 g6 g7 g8 g9 => ?_) h4 hA.2.2.2.2.2.2.2.1 _ s t hw h5 h6 h7 h8 h9
    exact evC_ok hA k s' vs s t (by omega) (by omega) g2 g3 g4 g5 g6 g7 g8 g9
/-- an EXPR at depth dp -/
theorem evD_ok {A : aS} (hA : aO A) {dp : Nat} (hdp : dp ≤ 20) {ar : List vV} {pa : List Int64} (hp : ar.length = pa.length) (T : eX) (s : Nat) (t : List tH) (hw : wt pa (· ∈ A.ns) T) (h5 : ∀ v ∈ ar, vO t.length v) (h6 : tO A t) (h7 : A.th.length ≤ t.length) (h8 : s ≤ 400) (h9 : t.length + (400 - s) < 2 ^ 31) : eO A s t (evT A (evC A (20 - dp)) dp ar T s t) :=
  ev_ok hA (fun hd s' vs s t g2 g3 g4 g5 g6 g7 g8 g9 => evC_ok hA (20 - dp) s' vs s t (by omega) (by omega) g2 g3 g4 g5 g6 g7 g8 g9) hp hA.2.2.2.2.2.2.2.1 T s t hw h5 h6 h7 h8 h9
