/-! THE TEXT and its TOKENS, by the document -/
def tx_ok (tx : Nat → Nat) (n : Nat) : Prop := n ≤ 120 ∧ ∀ j, j < n → 32 ≤ tx j ∧ tx j ≤ 126
theorem tx_ok.lt {tx : Nat → Nat} {n j : Nat} (h : tx_ok tx n) (hj : j < n) : tx j < 128 := by
  have := h.2 j hj
  omega
/-- the text stands in a row -/
def tX (I : pmI) (a : Nat) (tx : Nat → Nat) (n : Nat) : Prop := ∀ j, j < n → I a j = nI (tx j)
/-- behind blanks; k signs are left -/
def tk_ab (tx : Nat → Nat) : Nat → Nat → Nat
  | 0, p => p
  | k + 1, p => if tx p = 32 then tk_ab tx k (p + 1) else p
theorem tk_ab_t {tx : Nat → Nat} {k p : Nat} (h : tx p = 32) : tk_ab tx (k + 1) p = tk_ab tx k (p + 1) := if_pos h
theorem tk_ab_f {tx : Nat → Nat} {k p : Nat} (h : ¬ tx p = 32) : tk_ab tx (k + 1) p = p := if_neg h
theorem tk_ab_b (tx : Nat → Nat) : ∀ k p, p ≤ tk_ab tx k p ∧ tk_ab tx k p ≤ p + k
  | 0, p => ⟨Nat.le_refl _, Nat.le_refl _⟩
  | k + 1, p => by
    by_cases h : tx p = 32
    · rw [tk_ab_t h]
      have := tk_ab_b tx k (p + 1)
      omega
    · rw [tk_ab_f h]
      omega
/-- a row of letters: its end, its letters packed -/
def tk_sh (v : Int64) (b : Nat) : Int64 := v <<< ((nI 8).toInt64 &&& 63) ||| (nI b).toInt64
def tk_le (tx : Nat → Nat) : Nat → Nat → Nat
  | 0, p => p
  | k + 1, p => if 97 ≤ tx p ∧ tx p ≤ 122 then tk_le tx k (p + 1) else p
def tk_lc (tx : Nat → Nat) : Nat → Nat → Int64 → Int64
  | 0, _, v => v
  | k + 1, p, v => if 97 ≤ tx p ∧ tx p ≤ 122 then tk_lc tx k (p + 1) (tk_sh v (tx p)) else v
theorem tk_le_t {tx : Nat → Nat} {k p : Nat} (h : 97 ≤ tx p ∧ tx p ≤ 122) : tk_le tx (k + 1) p = tk_le tx k (p + 1) := if_pos h
theorem tk_le_f {tx : Nat → Nat} {k p : Nat} (h : ¬ (97 ≤ tx p ∧ tx p ≤ 122)) : tk_le tx (k + 1) p = p := if_neg h
theorem tk_lc_t {tx : Nat → Nat} {k p : Nat} {v : Int64} (h : 97 ≤ tx p ∧ tx p ≤ 122) : tk_lc tx (k + 1) p v = tk_lc tx k (p + 1) (tk_sh v (tx p)) := if_pos h
theorem tk_lc_f {tx : Nat → Nat} {k p : Nat} {v : Int64} (h : ¬ (97 ≤ tx p ∧ tx p ≤ 122)) : tk_lc tx (k + 1) p v = v := if_neg h
theorem tk_le_b (tx : Nat → Nat) : ∀ k p, p ≤ tk_le tx k p ∧ tk_le tx k p ≤ p + k
  | 0, p => ⟨Nat.le_refl _, Nat.le_refl _⟩
  | k + 1, p => by
    by_cases h : 97 ≤ tx p ∧ tx p ≤ 122
    · rw [tk_le_t h]
      have := tk_le_b tx k (p + 1)
      omega
    · rw [tk_le_f h]
      omega
/-- a row of digits: its end, what it counts -/
def tk_dg (v : Int64) (b : Nat) : Int64 := v * 10 + (nI b - nI 48).toInt64
def tk_de (tx : Nat → Nat) : Nat → Nat → Nat
  | 0, p => p
  | k + 1, p => if 48 ≤ tx p ∧ tx p ≤ 57 then tk_de tx k (p + 1) else p
def tk_dc (tx : Nat → Nat) : Nat → Nat → Int64 → Int64
  | 0, _, v => v
  | k + 1, p, v => if 48 ≤ tx p ∧ tx p ≤ 57 then tk_dc tx k (p + 1) (tk_dg v (tx p)) else v
theorem tk_de_t {tx : Nat → Nat} {k p : Nat} (h : 48 ≤ tx p ∧ tx p ≤ 57) : tk_de tx (k + 1) p = tk_de tx k (p + 1) := if_pos h
theorem tk_de_f {tx : Nat → Nat} {k p : Nat} (h : ¬ (48 ≤ tx p ∧ tx p ≤ 57)) : tk_de tx (k + 1) p = p := if_neg h
theorem tk_dc_t {tx : Nat → Nat} {k p : Nat} {v : Int64} (h : 48 ≤ tx p ∧ tx p ≤ 57) : tk_dc tx (k + 1) p v = tk_dc tx k (p + 1) (tk_dg v (tx p)) := if_pos h
theorem tk_dc_f {tx : Nat → Nat} {k p : Nat} {v : Int64} (h : ¬ (48 ≤ tx p ∧ tx p ≤ 57)) : tk_dc tx (k + 1) p v = v := if_neg h
theorem tk_de_b (tx : Nat → Nat) : ∀ k p, p ≤ tk_de tx k p ∧ tk_de tx k p ≤ p + k
  | 0, p => ⟨Nat.le_refl _, Nat.le_refl _⟩
  | k + 1, p => by
    by_cases h : 48 ≤ tx p ∧ tx p ≤ 57
    · rw [tk_de_t h]
      have := tk_de_b tx k (p + 1)
      omega
    · rw [tk_de_f h]
      omega
/-- kinds of TOKENS, as the class tells them: 0 the end, 1 none, 48 a NUMBER, 36 a RESULT, 97 a NAME, 118, 100, 116 the words; else the sign -/
def tk_word (v : Int64) : Nat := if v = 7758194 then 118 else if v = 6579558 then 100 else if v = 1954115685 then 116 else 97
def tk_sig (b : Nat) : Bool := b == 43 || b == 45 || b == 42 || b == 47 || b == 37 || b == 60 || b == 61 || b == 63 || b == 58 || b == 40 || b == 41 || b == 44 || b == 46
/-- the TOKEN that begins at p: its kind, its core, its end; b is its first sign -/
def tk_kind (tx : Nat → Nat) (n p : Nat) : Nat :=
  if 97 ≤ tx p ∧ tx p ≤ 122 then (if 8 < tk_le tx (n - p) p - p then 1 else tk_word (tk_lc tx (n - p) p 0))
  else if 48 ≤ tx p ∧ tx p ≤ 57 then (if 18 < tk_de tx (n - p) p - p then 1 else 48)
  else if tx p = 36 then (if tk_de tx (n - (p + 1)) (p + 1) = p + 1 ∨ 3 < tk_de tx (n - (p + 1)) (p + 1) - (p + 1) then 1 else 36)
  else if tk_sig (tx p) then tx p else 1
def tk_core (tx : Nat → Nat) (n p : Nat) : Int64 :=
  if 97 ≤ tx p ∧ tx p ≤ 122 then tk_lc tx (n - p) p 0
  else if 48 ≤ tx p ∧ tx p ≤ 57 then tk_dc tx (n - p) p 0
  else if tx p = 36 then tk_dc tx (n - (p + 1)) (p + 1) 0
  else 0
def tk_end (tx : Nat → Nat) (n p : Nat) : Nat :=
  if 97 ≤ tx p ∧ tx p ≤ 122 then tk_le tx (n - p) p
  else if 48 ≤ tx p ∧ tx p ≤ 57 then tk_de tx (n - p) p
  else if tx p = 36 then tk_de tx (n - (p + 1)) (p + 1)
  else p + 1
/-- where TOKEN i begins (n: there is none) -/
def tk_p (tx : Nat → Nat) (n : Nat) : Nat → Nat
  | 0 => tk_ab tx n 0
  | i + 1 => if tk_p tx n i < n then (if i < 60 then tk_ab tx (n - tk_end tx n (tk_p tx n i)) (tk_end tx n (tk_p tx n i)) else n) else n
def tk_k (tx : Nat → Nat) (n i : Nat) : Nat := if tk_p tx n i < n then (if i < 60 then tk_kind tx n (tk_p tx n i) else 1) else 0
def tk_v (tx : Nat → Nat) (n i : Nat) : Int64 := if tk_p tx n i < n then (if i < 60 then tk_core tx n (tk_p tx n i) else 0) else 0
theorem tk_end_b {tx : Nat → Nat} {n p : Nat} (h : p < n) : p < tk_end tx n p ∧ tk_end tx n p ≤ n := by
  unfold tk_end
  split
  · rename_i hl
    obtain ⟨k, hk⟩ : ∃ k, n - p = k + 1 := ⟨n - p - 1, by omega⟩
    rw [hk, tk_le_t hl]
    have := tk_le_b tx k (p + 1)
    omega
  · split
    · rename_i hl
      obtain ⟨k, hk⟩ : ∃ k, n - p = k + 1 := ⟨n - p - 1, by omega⟩
      rw [hk, tk_de_t hl]
      have := tk_de_b tx k (p + 1)
      omega
    · split
      · have := tk_de_b tx (n - (p + 1)) (p + 1)
        omega
      · omega
theorem tk_p_le {tx : Nat → Nat} {n : Nat} : ∀ i, tk_p tx n i ≤ n
  | 0 => by
    have := tk_ab_b tx n 0
    show tk_ab tx n 0 ≤ n
    omega
  | i + 1 => by
    show (if tk_p tx n i < n then (if i < 60 then tk_ab tx (n - tk_end tx n (tk_p tx n i)) (tk_end tx n (tk_p tx n i)) else n) else n) ≤ n
    split
    · rename_i h
      split
      · have h1 := tk_end_b (tx := tx) h
        have := tk_ab_b tx (n - tk_end tx n (tk_p tx n i)) (tk_end tx n (tk_p tx n i))
        omega
      · exact Nat.le_refl _
    · exact Nat.le_refl _
theorem tk_p_s {tx : Nat → Nat} {n i : Nat} (h : tk_p tx n i < n) (hi : i < 60) : tk_p tx n (i + 1) = tk_ab tx (n - tk_end tx n (tk_p tx n i)) (tk_end tx n (tk_p tx n i)) := by
  show (if tk_p tx n i < n then (if i < 60 then tk_ab tx (n - tk_end tx n (tk_p tx n i)) (tk_end tx n (tk_p tx n i)) else n) else n) = _
  rw [if_pos h, if_pos hi]
theorem tk_p_n {tx : Nat → Nat} {n i : Nat} (h : ¬ tk_p tx n i < n) : tk_p tx n (i + 1) = n := by
  show (if tk_p tx n i < n then (if i < 60 then tk_ab tx (n - tk_end tx n (tk_p tx n i)) (tk_end tx n (tk_p tx n i)) else n) else n) = _
  rw [if_neg h]
theorem tk_p_60 {tx : Nat → Nat} {n : Nat} : tk_p tx n 61 = n := by
  show (if tk_p tx n 60 < n then (if 60 < 60 then tk_ab tx (n - tk_end tx n (tk_p tx n 60)) (tk_end tx n (tk_p tx n 60)) else n) else n) = n
  split
  · rfl
  · rfl
theorem tk_p_on {tx : Nat → Nat} {n i : Nat} (h : tk_p tx n i = n) : ∀ j, tk_p tx n (i + j) = n
  | 0 => h
  | j + 1 => by
    have h1 := tk_p_on h j
    exact tk_p_n (i := i + j) (by rw [h1]; omega)
theorem tk_kind_ne {tx : Nat → Nat} {n p : Nat} : tk_kind tx n p ≠ 0 := by
  unfold tk_kind
  split
  · split
    · decide
    · unfold tk_word
      split
      · decide
      · split
        · decide
        · split <;> decide
  · split
    · split <;> decide
    · split
      · split <;> decide
      · split
        · rename_i h
          intro e
          rw [e] at h
          exact absurd h (by decide)
        · decide
theorem tk_p_61 {tx : Nat → Nat} {n i : Nat} (h : i = 61) : tk_p tx n i = n := h ▸ tk_p_60
theorem tk_k_i {tx : Nat → Nat} {n i : Nat} (h : tk_p tx n i < n) (hi : i < 60) : tk_k tx n i = tk_kind tx n (tk_p tx n i) := by unfold tk_k; rw [if_pos h, if_pos hi]
theorem tk_v_i {tx : Nat → Nat} {n i : Nat} (h : tk_p tx n i < n) (hi : i < 60) : tk_v tx n i = tk_core tx n (tk_p tx n i) := by unfold tk_v; rw [if_pos h, if_pos hi]
theorem tk_k_60 {tx : Nat → Nat} {n : Nat} (h : tk_p tx n 60 < n) : tk_k tx n 60 = 1 := by unfold tk_k; rw [if_pos h, if_neg (by decide)]
theorem tk_v_60 {tx : Nat → Nat} {n : Nat} (h : tk_p tx n 60 < n) : tk_v tx n 60 = 0 := by unfold tk_v; rw [if_pos h, if_neg (by decide)]
