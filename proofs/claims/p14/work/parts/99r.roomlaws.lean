/-- the STEPS and THINGS behind an outcome: every THING took a STEP -/
def eL (s : Nat) (t : List tH) (r : evR) : Prop := ∀ v s' t', r = .ok (v, s', t') → s ≤ s' ∧ s' ≤ 400 ∧ t'.length + s ≤ t.length + s'
theorem ebd_some {r : evR} {f : vV → Nat → List tH → evR} {x : vV × Nat × List tH} (h : ebd r f = .ok x) : ∃ v s t, r = .ok (v, s, t) ∧ f v s t = .ok x := by
  rcases r with e | ⟨v, s, t⟩
  · exact nomatch h
  · exact ⟨v, s, t, rfl, h⟩
theorem fin_eL {A : aS} {cl : Nat → List vV → Nat → List tH → evR} (hc : ∀ s' vs s t, s ≤ 400 → eL s t (cl s' vs s t)) {w : Int64} {vs : List vV} {s : Nat} {t : List tH} (hs : s ≤ 400) {v : vV} {s' : Nat} {t' : List tH} (h : fin A cl w vs s t = .ok (v, s', t')) : s ≤ s' ∧ s' ≤ 400 ∧ t'.length + s ≤ t.length + 1 + s' := by
  unfold fin at h
  split at h
  · cases h
    exact ⟨Nat.le_refl _, hs, by rw [List.length_append]; exact Nat.le_refl _⟩
  · obtain ⟨h1, h2, h3⟩ := hc _ _ _ _ hs _ _ _ h
    exact ⟨h1, h2, by omega⟩
theorem ev_eL {A : aS} {cl : Nat → List vV → Nat → List tH → evR} {dp : Nat} {ar : List vV} (hc : ∀ s' vs s t, s ≤ 400 → eL s t (cl s' vs s t)) : ∀ (T : eX) (s : Nat) (t : List tH), s ≤ 400 → eL s t (evT A cl dp ar T s t)
  | .leaf, s, t, hs => fun v s' t' h => nomatch h
  | .inner k q u a .leaf, s, t, hs => by
    intro v s' t' h
    unfold evT at h
    split at h
    · cases h
      exact ⟨Nat.le_refl _, hs, Nat.le_refl _⟩
    · split at h
      · exact nomatch h
      · rename_i h4
        have ha := ev_eL (A := A) (dp := dp) (ar := ar) hc a (s + 1) t (by omega)
        have one : ∀ v1 : vV, (Except.ok (v1, s + 1, t) : evR) = .ok (v, s', t') → s ≤ s' ∧ s' ≤ 400 ∧ t'.length + s ≤ t.length + s' := fun v1 g => by
          cases g
          exact ⟨by omega, by omega, by omega⟩
        split at h
        · exact one _ h
        · split at h
          · split at h
            · exact one _ h
            · exact nomatch h
          · split at h
            · exact one _ h
            · split at h
              · split at h
                · exact one _ h
                · exact nomatch h
              · split at h
                · obtain ⟨v1, s1, t1, e1, h⟩ := ebd_some h
                  have g := ha _ _ _ e1
                  split at h
                  · cases h
                    exact ⟨by omega, by omega, by omega⟩
                  · exact nomatch h
                · obtain ⟨v1, s1, t1, e1, h⟩ := ebd_some h
                  have g := ha _ _ _ e1
                  split at h
                  · cases h
                    exact ⟨by omega, by omega, by omega⟩
                  · exact nomatch h
  | .inner k q u a (.inner k2 q2 u2 b c), s, t, hs => by
    intro v s' t' h
    unfold evT at h
    split at h
    · exact nomatch h
    · rename_i h4
      have ha := ev_eL (A := A) (dp := dp) (ar := ar) hc a (s + 1) t (by omega)
      have hb := ev_eL (A := A) (dp := dp) (ar := ar) hc b
      have hd := ev_eL (A := A) (dp := dp) (ar := ar) hc c
      split at h
      · split at h
        · split at h
          · obtain ⟨g1, g2, g3⟩ := fin_eL hc (by omega) h
            exact ⟨by omega, by omega, by omega⟩
          · obtain ⟨v1, s1, t1, e1, h⟩ := ebd_some h
            have g := ha _ _ _ e1
            split at h
            · obtain ⟨g1, g2, g3⟩ := fin_eL hc (by omega) h
              exact ⟨by omega, by omega, by omega⟩
            · obtain ⟨v2, s2, t2, e2, h⟩ := ebd_some h
              have g' := hb _ _ (by omega) _ _ _ e2
              split at h
              · obtain ⟨g1, g2, g3⟩ := fin_eL hc (by omega) h
                exact ⟨by omega, by omega, by omega⟩
              · obtain ⟨v3, s3, t3, e3, h⟩ := ebd_some h
                have g'' := hd _ _ (by omega) _ _ _ e3
                obtain ⟨g1, g2, g3⟩ := fin_eL hc (by omega) h
                exact ⟨by omega, by omega, by omega⟩
        · exact nomatch h
      · split at h
        · obtain ⟨v1, s1, t1, e1, h⟩ := ebd_some h
          have g := ha _ _ _ e1
          obtain ⟨v2, s2, t2, e2, h⟩ := ebd_some h
          have g' := hb _ _ (by omega) _ _ _ e2
          split at h
          · cases h
            exact ⟨by omega, by omega, by omega⟩
          · exact nomatch h
        · obtain ⟨v1, s1, t1, e1, h⟩ := ebd_some h
          have g := ha _ _ _ e1
          split at h
          · split at h
            · have g' := hd _ _ (by omega) _ _ _ h
              exact ⟨by omega, by omega, by omega⟩
            · have g' := hb _ _ (by omega) _ _ _ h
              exact ⟨by omega, by omega, by omega⟩
          · exact nomatch h
theorem evC_eL {A : aS} : ∀ (k s' : Nat) (vs : List vV) (s : Nat) (t : List tH), s ≤ 400 → eL s t (evC A k s' vs s t)
  | 0, s', vs, s, t, _ => fun v s'' t' h => nomatch h
  | k + 1, s', vs, s, t, hs => ev_eL (fun s1 vs1 s t hs => evC_eL k s1 vs1 s t hs) _ s t hs
theorem ebm_le {M m0 : Nat} {r : evR} {f : vV → Nat → List tH → Nat} (h0 : m0 ≤ M) (h : ∀ v s t, r = .ok (v, s, t) → f v s t ≤ M) : ebm m0 r f ≤ M := by
  rcases r with e | ⟨v, s, t⟩
  · exact h0
  · exact h v s t rfl
/-- the room behind stays below the greatest -/
def mL (clm : Nat → List vV → Nat → List tH → Nat → Nat) : Prop := ∀ s' vs s t m, s ≤ 400 → t.length + (400 - s) ≤ 16000 → m ≤ 32000 → clm s' vs s t m ≤ 32000
theorem finm_le {A : aS} {clm : Nat → List vV → Nat → List tH → Nat → Nat} (hc : mL clm) {w : Int64} {vs : List vV} {s : Nat} {t : List tH} {m : Nat} (hs : s ≤ 400) (ht : t.length + (400 - s) ≤ 16000) (hm : m ≤ 32000) : finm A clm w vs s t m ≤ 32000 := by
  unfold finm
  split
  · split <;> omega
  · exact hc _ _ _ _ _ hs ht hm
theorem rm_le {A : aS} {cl : Nat → List vV → Nat → List tH → evR} {clm : Nat → List vV → Nat → List tH → Nat → Nat} {dp : Nat} {ar : List vV} (hl : ∀ s' vs s t, s ≤ 400 → eL s t (cl s' vs s t)) (hc : mL clm) : ∀ (T : eX) (s : Nat) (t : List tH) (m : Nat), s ≤ 400 → t.length + (400 - s) ≤ 16000 → m ≤ 32000 → rmT A cl clm dp ar T s t m ≤ 32000
  | .leaf, s, t, m, _, _, hm => hm
  | .inner k q u a .leaf, s, t, m, hs, ht, hm => by
    unfold rmT
    split
    · exact hm
    · split
      · exact rm_le hl hc a (s + 1) t m (by omega) (by omega) hm
      · exact hm
  | .inner k q u a (.inner k2 q2 u2 b c), s, t, m, hs, ht, hm => by
    unfold rmT
    split
    · exact hm
    · rename_i h4
      have hA := ev_eL (A := A) (dp := dp) (ar := ar) hl a (s + 1) t (by omega)
      have hB := ev_eL (A := A) (dp := dp) (ar := ar) hl b
      have hC := ev_eL (A := A) (dp := dp) (ar := ar) hl c
      have ha := rm_le (A := A) (dp := dp) (ar := ar) hl hc a (s + 1) t m (by omega) (by omega) hm
      have hb := rm_le (A := A) (dp := dp) (ar := ar) hl hc b
      have hd := rm_le (A := A) (dp := dp) (ar := ar) hl hc c
      split
      · split
        · split
          · exact finm_le hc (by omega) (by omega) hm
          · refine ebm_le ha (fun v1 s1 t1 e1 => ?_)
            have g := hA _ _ _ e1
            split
            · exact finm_le hc (by omega) (by omega) ha
            · have hb1 := hb s1 t1 _ (by omega) (by omega) ha
              refine ebm_le hb1 (fun v2 s2 t2 e2 => ?_)
              have g' := hB _ _ (by omega) _ _ _ e2
              split
              · exact finm_le hc (by omega) (by omega) hb1
              · have hd1 := hd s2 t2 _ (by omega) (by omega) hb1
                refine ebm_le hd1 (fun v3 s3 t3 e3 => ?_)
                have g'' := hC _ _ (by omega) _ _ _ e3
                exact finm_le hc (by omega) (by omega) hd1
        · exact hm
      · split
        · refine ebm_le ha (fun v1 s1 t1 e1 => ?_)
          have g := hA _ _ _ e1
          exact hb s1 t1 _ (by omega) (by omega) ha
        · refine ebm_le ha (fun v1 s1 t1 e1 => ?_)
          have g := hA _ _ _ e1
          split
          · split
            · exact hd s1 t1 _ (by omega) (by omega) ha
            · exact hb s1 t1 _ (by omega) (by omega) ha
          · exact ha
theorem rmC_le {A : aS} : ∀ k, mL (rmC A k)
  | 0 => fun s' vs s t m _ _ hm => hm
  | k + 1 => fun s' vs s t m hs ht hm => rm_le (fun s1 vs1 s t hs => evC_eL k s1 vs1 s t hs) (rmC_le k) _ s t m hs ht hm
theorem rnR_le {A : aS} {tx : Nat → Nat} {n m : Nat} {r : rdV} {T : eX} (hO : aO A) (hm : m ≤ 32000) : rnR A tx n r T m ≤ 32000 := by
  have h1 := hO.2.2.2.2.2.2.2.2.2.1
  have h2 := hO.2.2.2.2.2.2.2.2.2.2.1
  unfold rnR
  split
  · exact hm
  · split
    · exact hm
    · split
      · exact hm
      · unfold rnM
        split
        · exact hm
        · exact rm_le (fun s1 vs1 s t hs => evC_eL 20 s1 vs1 s t hs) (rmC_le 20) _ 0 _ m (by decide) (by show A.th.length + _ ≤ _; omega) hm
theorem rnR_ge {A : aS} {tx : Nat → Nat} {n m : Nat} {r : rdV} {T : eX} : m ≤ rnR A tx n r T m := by
  unfold rnR
  split
  · exact Nat.le_refl _
  · split
    · exact Nat.le_refl _
    · split
      · exact Nat.le_refl _
      · unfold rnM
        split
        · exact Nat.le_refl _
        · exact rm_ge (fun s' vs s t m => rmC_ge 20 s' vs s t m) _ _ _ _
