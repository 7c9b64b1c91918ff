/-- with so much fuel the reading comes to an end -/
theorem rx_some {kd pl : Nat → Nat} {co : Nat → Int64} {cnt f a form : Nat} {pa : List Int64} {dec : Int64} (hk : ∀ j, kd j ≠ 0 → j < cnt) (ha : a ≤ cnt) (hf : 16 * cnt + 12 ≤ f) : rx kd pl co f pa a form dec ≠ none := by
  unfold rx
  have h := ps_some (pl := pl) (co := co) (pa := pa) hk f 0 a 0 [] 0 (by omega) ha (by have : ps_rk 0 = 12 := rfl; omega)
  rcases hps : ps kd pl co pa f 0 a 0 [] 0 with _ | (e | q)
  · exact absurd hps h
  · exact fun q => nomatch q
  · dsimp only
    split
    · exact fun q => nomatch q
    · exact fun q => nomatch q
theorem rd_some {kd pl : Nat → Nat} {co : Nat → Int64} {cnt f : Nat} (hk : ∀ j, kd j ≠ 0 → j < cnt) (hf : 16 * cnt + 12 ≤ f) : rd kd pl co f ≠ none := by
  have nn : ∀ x : Except Nat (Nat × Int64 × List Int64 × List dD), (some x : rR) ≠ none := fun x q => nomatch q
  unfold rd
  by_cases h1 : kd 0 = 118
  · rw [if_pos h1]
    by_cases h2 : kd 1 = 97
    · rw [if_pos h2]
      by_cases h3 : kd 2 = 61
      · rw [if_pos h3]
        have := hk 2 (by rw [h3]; decide)
        exact rx_some hk (by omega) hf
      · rw [if_neg h3]
        by_cases h4 : kd 2 = 0
        · rw [if_pos h4]; exact nn _
        · rw [if_neg h4]; exact nn _
    · rw [if_neg h2]; exact nn _
  · rw [if_neg h1]
    by_cases h5 : kd 0 = 100
    · rw [if_pos h5]
      by_cases h2 : kd 1 = 97
      · rw [if_pos h2]
        by_cases h3 : kd 2 = 40
        · rw [if_pos h3]
          rcases rpm kd co with e | ⟨b, pa⟩
          · exact nn _
          · rw [rdD_ok]
            by_cases h6 : kd b = 41
            · rw [if_pos h6]
              by_cases h7 : kd (b + 1) = 61
              · rw [if_pos h7]
                have := hk (b + 1) (by rw [h7]; decide)
                exact rx_some hk (by omega) hf
              · rw [if_neg h7]; exact nn _
            · rw [if_neg h6]; exact nn _
        · rw [if_neg h3]; exact nn _
      · rw [if_neg h2]; exact nn _
    · rw [if_neg h5]
      by_cases h8 : kd 0 = 116
      · rw [if_pos h8]
        by_cases h2 : kd 1 = 97
        · rw [if_pos h2]
          by_cases h3 : kd 2 = 40
          · rw [if_pos h3]
            rcases rp kd co 3 3 [] with e | ⟨b, pa⟩
            · exact nn _
            · rw [rdT_ok]
              by_cases h6 : kd b = 41
              · rw [if_pos h6]
                by_cases h7 : kd (b + 1) = 0
                · rw [if_pos h7]; exact nn _
                · rw [if_neg h7]; exact nn _
              · rw [if_neg h6]; exact nn _
          · rw [if_neg h3]; exact nn _
        · rw [if_neg h2]; exact nn _
      · rw [if_neg h8]
        exact rx_some hk (Nat.zero_le _) hf
/-- every text is read to an end -/
theorem rd_tx (tx : Nat → Nat) (n : Nat) : ∃ r, rd (tk_k tx n) (tk_p tx n) (tk_v tx n) (16 * 61 + 12) = some r := by
  have h := rd_some (kd := tk_k tx n) (pl := tk_p tx n) (co := tk_v tx n) (cnt := 61) (f := 16 * 61 + 12) (fun j hj => by
    rcases Nat.lt_or_ge j 61 with h1 | h1
    · exact h1
    · exfalso
      obtain ⟨k, rfl⟩ : ∃ k, j = 61 + k := ⟨j - 61, by omega⟩
      unfold tk_k at hj
      rw [if_neg (by rw [tk_p_on (tk_p_61 rfl) k]; omega)] at hj
      exact hj rfl) (Nat.le_refl _)
  rcases hr : rd (tk_k tx n) (tk_p tx n) (tk_v tx n) (16 * 61 + 12) with _ | r
  · exact absurd hr h
  · exact ⟨r, rfl⟩
