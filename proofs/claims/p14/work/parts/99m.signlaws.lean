/-- THE TEXT behind signs() -/
def sg_tx (w : Int64) : Nat → (Nat → Nat) → Nat → (Nat → Nat)
  | 0, f, _ => f
  | j + 1, f, n => if by_t w j = 0 then sg_tx w j f n else sg_tx w j (va_up f n (by_t w j)) (n + 1)
theorem sg_tx_ok {w : Int64} : ∀ (j : Nat) (g : Nat → Int32) (f : Nat → Nat) (n : Nat), sg_all w j → (∀ i, i < n → g i = nI (f i)) → (∀ i, i < n → f i < 128) → (∀ i, i < n + sg_cnt w j → sg_put w j g n i = nI (sg_tx w j f n i)) ∧ ∀ i, i < n + sg_cnt w j → sg_tx w j f n i < 128
  | 0, g, f, n, _, h1, h2 => ⟨fun i hi => h1 i (by simpa [sg_cnt] using hi), fun i hi => h2 i (by simpa [sg_cnt] using hi)⟩
  | j + 1, g, f, n, ha, h1, h2 => by
    have ha' : sg_all w j := fun i hi => ha i (by omega)
    by_cases h : by_t w j = 0
    · have e1 : sg_put w (j + 1) g n = sg_put w j g n := if_pos h
      have e2 : sg_tx w (j + 1) f n = sg_tx w j f n := if_pos h
      have e3 : sg_cnt w (j + 1) = sg_cnt w j := sg_c0 h
      rw [e1, e2, e3]
      exact sg_tx_ok j g f n ha' h1 h2
    · have e1 : sg_put w (j + 1) g n = sg_put w j (va_up g n (nI (by_t w j))) (n + 1) := if_neg h
      have e2 : sg_tx w (j + 1) f n = sg_tx w j (va_up f n (by_t w j)) (n + 1) := if_neg h
      have e3 : n + sg_cnt w (j + 1) = n + 1 + sg_cnt w j := by
        have q : sg_cnt w (j + 1) = sg_cnt w j + 1 := sg_c1 h
        omega
      rw [e1, e2, e3]
      have hb : by_t w j < 128 := by
        rcases ha j (by omega) with q | q
        · omega
        · omega
      refine sg_tx_ok j _ _ (n + 1) ha' (fun i hi => ?_) (fun i hi => ?_)
      · by_cases q : i = n
        · subst q; rw [pm_up_eq, pm_up_eq]
        · rw [pm_up_ne q, pm_up_ne q]; exact h1 i (by omega)
      · by_cases q : i = n
        · subst q; rw [pm_up_eq]; exact hb
        · rw [pm_up_ne q]; exact h2 i (by omega)
theorem cI.signs {S : pmS} {I I' : pmI} {J : pmJ} {P : pmP} {A : aS} {Z : Nat → Nat} {b m : Nat} {tx : Nat → Nat} {n : Nat} {w : Int64} (h : cI S I J P A Z b m tx n) (h95 : 95 ≤ S.1) (ha : sg_all w 8) (hc : n + sg_cnt w 8 ≤ 120) (e3 : I' 3 = sg_put w 8 (I 3) n) (e2 : I' 2 5 = nI (n + sg_cnt w 8)) (e : ∀ a, a ≠ 3 → a ≠ 2 → I' a = I a) : cI S I' J P A Z b m (sg_tx w 8 tx n) (n + sg_cnt w 8) := by
  obtain ⟨h1, h2, h3, h4, h5, h6, h7, h8⟩ := h
  have hz : zF S I J P S I' J P := ⟨Nat.le_refl _, fun _ _ => rfl, fun a q _ => ⟨e a (by omega) (by omega), rfl, rfl⟩⟩
  have g := sg_tx_ok 8 (I 3) tx n ha h5 h8
  exact ⟨h1, h2.zF h95 hz, h3, h4.zF h95 hz, fun j hj => by rw [e3]; exact g.1 j hj, e2, hc, g.2⟩
theorem qI.signs {I I' : pmI} {J : pmJ} {A : aS} {tx : Nat → Nat} {n : Nat} {w : Int64} (h : qI I J A tx n) (h8 : ∀ j, j < n → tx j < 128) (ha : sg_all w 8) (e48 : I' 48 = sg_put w 8 (I 48) n) (e2 : I' 47 2 = nI (n + sg_cnt w 8)) (e : ∀ a, a ≠ 48 → a ≠ 47 → I' a = I a) (e47 : ∀ k, k ≠ 2 → k ≠ 0 → I' 47 k = I 47 k) : qI I' J A (sg_tx w 8 tx n) (n + sg_cnt w 8) :=
  ⟨h.1.mv' (fun a q1 q2 => ⟨e a (by omega) (by omega), rfl⟩) (e47 3 (by decide) (by decide)) (e47 27 (by decide) (by decide)) (e47 10 (by decide) (by decide)), h.2.1.eq (e47 30 (by decide) (by decide)) (e 73 (by decide) (by decide)) (e 74 (by decide) (by decide)) rfl, fun j hj => by rw [e48]; exact (sg_tx_ok 8 (I 48) tx n ha h.2.2.1 h8).1 j hj, e2⟩
