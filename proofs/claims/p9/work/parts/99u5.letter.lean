/-- k bytes of a NAME's letters, from the lowest on -/
def pkK (v : Int64) (k : Nat) : Prop := k ≤ 8 ∧ (∀ j, j < k → by_t v j ≠ 0) ∧ ∀ j, k ≤ j → j < 8 → by_t v j = 0
def gN (A : aS) : Prop := ∀ v ∈ A.ns, ∃ k, pkK v k
theorem sh_nat (v : Int64) {b : Nat} (hb : b < 256) : (tk_sh v b).toBitVec.toNat = v.toBitVec.toNat % 2 ^ 56 * 256 + b := by
  have h1 : (tk_sh v b).toBitVec = (v.toBitVec <<< (8 : Nat)) ||| BitVec.ofNat 64 b := by
    unfold tk_sh
    rw [show (nI b).toInt64 = lN b from nI_l (by omega)]
    show (v.toBitVec <<< (((nI (8 * 1)).toInt64 &&& 63).toBitVec.smod 64#64)) ||| (lN b).toBitVec = _
    rw [by_ss 1 (by decide)]
    rfl
  rw [h1, BitVec.toNat_or, BitVec.toNat_shiftLeft, BitVec.toNat_ofNat, Nat.mod_eq_of_lt (a := b) (by omega), Nat.shiftLeft_eq]
  have h2 : v.toBitVec.toNat * 2 ^ 8 % 2 ^ 64 = (v.toBitVec.toNat % 2 ^ 56) <<< 8 := by
    rw [Nat.shiftLeft_eq]
    omega
  rw [h2, ← Nat.shiftLeft_add_eq_or_of_lt (by omega), Nat.shiftLeft_eq]
theorem by_sh0 (v : Int64) {b : Nat} (hb : b < 256) : by_t (tk_sh v b) 0 = b := by
  unfold by_t
  rw [sh_nat v hb, show 2 ^ (8 * 0) = 1 from rfl]
  omega
theorem by_shS (v : Int64) {b j : Nat} (hb : b < 256) (hj : j < 7) : by_t (tk_sh v b) (j + 1) = by_t v j := by
  unfold by_t
  rw [sh_nat v hb]
  have hx := v.toBitVec.isLt
  rcases (show j = 0 ∨ j = 1 ∨ j = 2 ∨ j = 3 ∨ j = 4 ∨ j = 5 ∨ j = 6 by omega) with rfl | rfl | rfl | rfl | rfl | rfl | rfl <;> simp only [Nat.reduceMul, Nat.reduceAdd, Nat.reducePow] at hx ⊢ <;> omega
theorem pkK.sh {v : Int64} {k b : Nat} (h : pkK v k) (hk : k < 8) (h0 : 0 < b) (hb : b < 256) : pkK (tk_sh v b) (k + 1) := by
  refine ⟨by omega, fun j hj => ?_, fun j h1 h2 => ?_⟩
  · cases j with
    | zero => rw [by_sh0 v hb]; omega
    | succ j => rw [by_shS v hb (by omega)]; exact h.2.1 j (by omega)
  · obtain ⟨i, rfl⟩ : ∃ i, j = i + 1 := ⟨j - 1, by omega⟩
    rw [by_shS v hb (by omega)]
    exact h.2.2 i (by omega) (by omega)
theorem pkK_0 : pkK 0 0 := ⟨by decide, fun j h => absurd h (Nat.not_lt_zero _), fun j _ _ => by
  unfold by_t
  rw [show (0 : Int64).toBitVec.toNat = 0 from rfl, Nat.zero_div]⟩
theorem pkK_lc (tx : Nat → Nat) : ∀ (m p : Nat) (v : Int64) (k : Nat), pkK v k → tk_le tx m p - p + k ≤ 8 → ∃ k', pkK (tk_lc tx m p v) k'
  | 0, p, v, k, h, _ => ⟨k, h⟩
  | m + 1, p, v, k, h, hl => by
    by_cases q : 97 ≤ tx p ∧ tx p ≤ 122
    · rw [tk_le_t q] at hl
      rw [tk_lc_t q]
      have hb := tk_le_b tx m (p + 1)
      exact pkK_lc tx m (p + 1) _ (k + 1) (h.sh (by omega) (by omega) (by omega)) (by omega)
    · rw [tk_lc_f q]
      exact ⟨k, h⟩
theorem pkK_tk {tx : Nat → Nat} {n t : Nat} (h : tk_k tx n t = 97) : ∃ k, pkK (tk_v tx n t) k := by
  unfold tk_k at h
  unfold tk_v
  split at h
  · rename_i h1
    split at h
    · rename_i h2
      rw [if_pos h1, if_pos h2]
      unfold tk_kind at h
      unfold tk_core
      split at h
      · rename_i h3
        rw [if_pos h3]
        split at h
        · exact absurd h (by decide)
        · exact pkK_lc tx _ _ 0 0 pkK_0 (by omega)
      · rename_i h3
        exfalso
        split at h
        · split at h <;> exact absurd h (by decide)
        · split at h
          · split at h <;> exact absurd h (by decide)
          · split at h
            · omega
            · exact absurd h (by decide)
    · exact absurd h (by decide)
  · exact absurd h (by decide)
theorem gN_0 : gN aE := fun v hv => (by cases hv)
theorem gN_rnF {A : aS} {tx : Nat → Nat} {n : Nat} {r : rdV} {T : eX} (h : gN A) : gN (rnF A tx n r T).2.1 := by
  have hN : ∀ v ∈ rnN A tx n, ∃ k, pkK v k := fun v hv => by
    rcases (nmF_mem 62).mp hv with q | ⟨j, _, q, rfl⟩
    · exact h v q
    · exact pkK_tk q
  unfold rnF
  split
  · exact h
  · split
    · exact h
    · split
      · exact h
      · show gN (rnK _ _ _ _ _ _ _ _).2
        unfold rnK
        split
        · exact hN
        · unfold rnE
          split
          · exact hN
          · exact hN
/-- how many of the bytes are there -/
def kb (v : Int64) : Nat → Nat
  | 0 => 0
  | j + 1 => kb v j + (if by_t v j = 0 then 0 else 1)
theorem kb_eq {v : Int64} {k : Nat} (h : pkK v k) : ∀ j, j ≤ 8 → kb v j = min j k
  | 0, _ => (Nat.zero_min k).symm
  | j + 1, hj => by
    show kb v j + _ = _
    rw [kb_eq h j (by omega)]
    rcases Nat.lt_or_ge j k with q | q
    · rw [if_neg (h.2.1 j q)]; omega
    · rw [if_pos (h.2.2 j q (by omega))]; omega
/-- what letter() answers of a NAME -/
def ltX (v : Int64) (y : Int32) : Int32 := if 0 ≤ y.toInt ∧ y.toInt < (kb v 8 : Int) then nI (by_t v (kb v 8 - 1 - y.toInt.toNat)) else -5
theorem ltX_1 {v : Int64} {k t : Nat} (h : pkK v k) (ht : t < k) : ltX v (nI t) = nI (by_t v (k - 1 - t)) := by
  have h8 := h.1
  have e : kb v 8 = k := by rw [kb_eq h 8 (by decide)]; omega
  unfold ltX
  rw [e, nI_toInt (by omega), if_pos ⟨by omega, by omega⟩, Int.toNat_natCast]
theorem ltX_0 {v : Int64} {k : Nat} {y : Int32} (h : pkK v k) (hy : ¬ (0 ≤ y.toInt ∧ y.toInt < (k : Int))) : ltX v y = -5 := by
  have h8 := h.1
  have e : kb v 8 = k := by rw [kb_eq h 8 (by decide)]; omega
  unfold ltX
  rw [e]
  exact if_neg hy
theorem ix_cases9 {n : Nat} (hn : n < 2 ^ 31) (x : Int32) : (∃ j, j < n ∧ x = nI j) ∨ ¬ (0 ≤ x.toInt ∧ x.toInt < (n : Int)) := by
  by_cases h : 0 ≤ x.toInt ∧ x.toInt < (n : Int)
  · left
    have h0 : ¬ x < 0 := fun q => by
      rw [Int32.lt_iff_toInt_lt, show (0 : Int32).toInt = 0 by decide] at q
      omega
    obtain ⟨i, hi, rfl⟩ := nn_I h0
    rw [nI_toInt (by omega)] at h
    exact ⟨i, by omega, rfl⟩
  · exact Or.inr h
set_option maxRecDepth 20000 in
set_option maxHeartbeats 400000 in
theorem c_ltE_lp {l : Launch} {E : pmE} {d : Nat} {S : pmS} {I : pmI} {J : pmJ} {P : pmP} {Q : Option Value → pmS → pmI → pmJ → pmP → Prop} (hG : sh_St S) (hP : gr_St P) (hd : 1 ≤ d) {i k : Nat} {y : Int32} {v : Int64} (hi : i < 40) (hJ : J 17 i = v) (hv : pkK v k) (kx : Q (some (.int (ltX v y))) S I J P) : ∀ (j c : Nat), j < 8 → c = k - min (j + 1) k → (∀ t, t < c → y ≠ nI t) → pm_W l E yX2_letterOf cX2_letterOf 6 (some .int) d 0 0 21 [(4, .int (nI (8 * j))), (3, .int (nI c)), (0, .ref 16), (1, .int (nI i)), (2, .int y)] [] S I J P (pm_N E Q)
  | 0, c, hj, hc, hy => by
    have hbl := by_lt v 0
    have h8 := hv.1
    refine pw_iload dX2_letterOf_21 rfl ?_
    refine pw_if_lt (tgt := 61) dX2_letterOf_23 (by decide) (fun h => absurd h (nI_pos (by omega))) (fun h23 => ?_)
    refine pw_aload_n dX2_letterOf_26 rfl ?_
    refine pw_getR fX2_11 dX2_letterOf_27 (sh_lt hG (by decide)) (sh_tg hG 14 rfl) rfl (gr_at hP 20 rfl) ?_
    refine pw_iload_n dX2_letterOf_30 rfl ?_
    refine pw_laldN i dX2_letterOf_31 (sh_lt hG (by decide)) (sh_sh hG 15 rfl) (by decide) (rfl) (by omega) ?_
    refine pw_tj (z := v) hJ ?_
    refine pw_iload dX2_letterOf_32 rfl ?_
    refine pw_callSN (as := [_, _]) (kc' := 0) (ks' := 0) lX2_57 dX2_letterOf_34 rfl rfl (Nat.le_of_ble_eq_true rfl) (by omega) (Nat.le_of_ble_eq_true rfl) (Nat.zero_le _) (Nat.zero_le _) ?_
    refine c_X9_byteOf (j := 0) (by omega) ?_
    refine pw_istore (lv' := [(5, _), (4, _), (3, _), (0, _), (1, _), (2, _)]) dX2_letterOf_37 (by decide) rfl ?_
    refine pw_iload dX2_letterOf_39 rfl ?_
    refine pw_ifN_eq _ (tgt := 55) dX2_letterOf_41 (by decide) (rfl) (by omega) (fun h41 => ?_) (fun h41 => ?_)
    · refine pw_sub [1, 2, 3, 4, 5] rfl ?_
      refine pw_iinc (lv' := [(4, _), (3, _), (0, _), (1, _), (2, _)]) dX2_letterOf_55 rfl (by decide) rfl ?_
      refine pw_goto (tgt := 21) dX2_letterOf_58 (by decide) ?_
      refine pm_lvs (lv' := [(4, .int (-8)), (3, _), (0, _), (1, _), (2, _)]) (by rw [show nI (8 * 0) + Int32.ofInt (-8) = -8 from by decide]) ?_
      have hk0 : k = 0 := by
        rcases Nat.lt_or_ge 0 k with q | q
        · exact absurd h41 (hv.2.1 0 q)
        · omega
      rcases ix_cases9 (n := k) (by omega) y with ⟨t, ht, rfl⟩ | h0
      · exact absurd rfl (hy t (by omega))
      rw [ltX_0 hv h0] at kx
      refine pw_iload dX2_letterOf_21 rfl ?_
      refine pw_if_lt (tgt := 61) dX2_letterOf_23 (by decide) (fun h23 => ?_) (fun h => absurd (by decide) h)
      refine pw_bipush (v := -5) dX2_letterOf_61 (by decide) ?_
      exact pw_iret dX2_letterOf_63 rfl (kx)
    · have hjk : 0 < k := by
        rcases Nat.lt_or_ge 0 k with q | q
        · exact q
        · exact absurd (hv.2.2 _ q (by omega)) h41
      refine pw_iload_n dX2_letterOf_44 rfl ?_
      refine pw_iload_n dX2_letterOf_45 rfl ?_
      refine pw_icmp_ne (tgt := 52) dX2_letterOf_46 (by decide) (fun h46 => ?_) (fun h46 => ?_)
      · refine pw_iinc (lv' := [(3, _), (5, _), (4, _), (0, _), (1, _), (2, _)]) dX2_letterOf_52 rfl (by decide) rfl ?_
        refine pw_sub [2, 0, 3, 4, 5] rfl ?_
        refine pw_iinc (lv' := [(4, _), (3, _), (0, _), (1, _), (2, _)]) dX2_letterOf_55 rfl (by decide) rfl ?_
        refine pw_goto (tgt := 21) dX2_letterOf_58 (by decide) ?_
        refine pm_lvs (lv' := [(4, .int (-8)), (3, _), (0, _), (1, _), (2, _)]) (by rw [show nI (8 * 0) + Int32.ofInt (-8) = -8 from by decide]) ?_
        have hy2 : ∀ t, t < c + 1 → y ≠ nI t := (fun t ht => by
          rcases Nat.lt_or_ge t c with q | q
          · exact hy t q
          · rw [show t = c by omega]
            exact fun e => h46 e.symm)
        rcases ix_cases9 (n := k) (by omega) y with ⟨t, ht, rfl⟩ | h0
        · exact absurd rfl (hy2 t (by omega))
        rw [ltX_0 hv h0] at kx
        refine pw_iload dX2_letterOf_21 rfl ?_
        refine pw_if_lt (tgt := 61) dX2_letterOf_23 (by decide) (fun h23 => ?_) (fun h => absurd (by decide) h)
        refine pw_bipush (v := -5) dX2_letterOf_61 (by decide) ?_
        exact pw_iret dX2_letterOf_63 rfl (kx)
      · have hyc : nI c = y := h46
        rw [← hyc, ltX_1 hv (by omega), show k - 1 - c = 0 by omega] at kx
        refine pw_iload dX2_letterOf_49 rfl ?_
        exact pw_iret dX2_letterOf_51 rfl (kx)
  | j + 1, c, hj, hc, hy => by
    have hbl := by_lt v (j + 1)
    have h8 := hv.1
    have e8 : nI (8 * (j + 1)) + Int32.ofInt (-8) = nI (8 * j) := by
      rw [show nI (8 * (j + 1)) = nI (8 * j) + nI 8 by rw [nI_add, Nat.mul_succ], Int32.add_assoc, show nI 8 + Int32.ofInt (-8) = 0 by decide, Int32.add_zero]
    refine pw_iload dX2_letterOf_21 rfl ?_
    refine pw_if_lt (tgt := 61) dX2_letterOf_23 (by decide) (fun h => absurd h (nI_pos (by omega))) (fun h23 => ?_)
    refine pw_aload_n dX2_letterOf_26 rfl ?_
    refine pw_getR fX2_11 dX2_letterOf_27 (sh_lt hG (by decide)) (sh_tg hG 14 rfl) rfl (gr_at hP 20 rfl) ?_
    refine pw_iload_n dX2_letterOf_30 rfl ?_
    refine pw_laldN i dX2_letterOf_31 (sh_lt hG (by decide)) (sh_sh hG 15 rfl) (by decide) (rfl) (by omega) ?_
    refine pw_tj (z := v) hJ ?_
    refine pw_iload dX2_letterOf_32 rfl ?_
    refine pw_callSN (as := [_, _]) (kc' := 0) (ks' := 0) lX2_57 dX2_letterOf_34 rfl rfl (Nat.le_of_ble_eq_true rfl) (by omega) (Nat.le_of_ble_eq_true rfl) (Nat.zero_le _) (Nat.zero_le _) ?_
    refine c_X9_byteOf (j := (j + 1)) (by omega) ?_
    refine pw_istore (lv' := [(5, _), (4, _), (3, _), (0, _), (1, _), (2, _)]) dX2_letterOf_37 (by decide) rfl ?_
    refine pw_iload dX2_letterOf_39 rfl ?_
    refine pw_ifN_eq _ (tgt := 55) dX2_letterOf_41 (by decide) (rfl) (by omega) (fun h41 => ?_) (fun h41 => ?_)
    · refine pw_sub [1, 2, 3, 4, 5] rfl ?_
      refine pw_iinc (lv' := [(4, _), (3, _), (0, _), (1, _), (2, _)]) dX2_letterOf_55 rfl (by decide) rfl ?_
      refine pw_goto (tgt := 21) dX2_letterOf_58 (by decide) ?_
      refine pm_lvs (lv' := [(4, .int (nI (8 * j))), (3, _), (0, _), (1, _), (2, _)]) (by rw [show _ = _ from e8]) ?_
      have hjk : k ≤ j + 1 := by
        rcases Nat.lt_or_ge (j + 1) k with q | q
        · exact absurd h41 (hv.2.1 _ q)
        · exact q
      exact c_ltE_lp hG hP hd hi hJ hv kx j c (by omega) (by omega) hy
    · have hjk : (j + 1) < k := by
        rcases Nat.lt_or_ge (j + 1) k with q | q
        · exact q
        · exact absurd (hv.2.2 _ q (by omega)) h41
      refine pw_iload_n dX2_letterOf_44 rfl ?_
      refine pw_iload_n dX2_letterOf_45 rfl ?_
      refine pw_icmp_ne (tgt := 52) dX2_letterOf_46 (by decide) (fun h46 => ?_) (fun h46 => ?_)
      · refine pw_iinc (lv' := [(3, _), (5, _), (4, _), (0, _), (1, _), (2, _)]) dX2_letterOf_52 rfl (by decide) rfl ?_
        refine pw_sub [2, 0, 3, 4, 5] rfl ?_
        refine pw_iinc (lv' := [(4, _), (3, _), (0, _), (1, _), (2, _)]) dX2_letterOf_55 rfl (by decide) rfl ?_
        refine pw_goto (tgt := 21) dX2_letterOf_58 (by decide) ?_
        refine pm_lvs (lv' := [(4, .int (nI (8 * j))), (3, _), (0, _), (1, _), (2, _)]) (by rw [show _ = _ from e8]) ?_
        refine pm_lvs (lv' := [(4, _), (3, .int (nI (c + 1))), (0, _), (1, _), (2, _)]) (by rw [show nI c + Int32.ofInt 1 = nI (c + 1) from nI_add c 1]) ?_
        exact c_ltE_lp hG hP hd hi hJ hv kx j (c + 1) (by omega) (by omega) (fun t ht => by
            rcases Nat.lt_or_ge t c with q | q
            · exact hy t q
            · rw [show t = c by omega]
              exact fun e => h46 e.symm)
      · have hyc : nI c = y := h46
        rw [← hyc, ltX_1 hv (by omega), show k - 1 - c = (j + 1) by omega] at kx
        refine pw_iload dX2_letterOf_49 rfl ?_
        exact pw_iret dX2_letterOf_51 rfl (kx)
set_option maxRecDepth 20000 in
set_option maxHeartbeats 400000 in
theorem c_ltOfE {l : Launch} {E : pmE} {d : Nat} {S : pmS} {I : pmI} {J : pmJ} {P : pmP} {Q : Option Value → pmS → pmI → pmJ → pmP → Prop} (hG : sh_St S) (hP : gr_St P) (hd : 2 ≤ d) {n i k : Nat} {y : Int32} {v : Int64} (hn : I 16 4 = nI n) (hl : n ≤ 40) (hi : i < n) (hJ : J 17 i = v) (hv : pkK v k) (k0 : Q (some (.int (ltX v y))) S I J P) : pm_Met l E yX2_letterOf cX2_letterOf 6 (some .int) d 0 0 [.ref 16, .int (nI i), .int y] S I J P Q := by
  unfold pm_Met
  refine pm_lvs (lv' := [(0, _), (1, _), (2, _)]) rfl ?_
  refine pw_aload_n dX2_letterOf_0 rfl ?_
  refine pw_iload_n dX2_letterOf_1 rfl ?_
  refine pw_callV (as := [_]) (kc' := 0) (ks' := 0) lX2_51 dX2_letterOf_2 rfl rfl (sh_lt hG (by decide)) (sh_tg hG 14 rfl) (Nat.le_of_ble_eq_true rfl) (by omega) (Nat.le_of_ble_eq_true rfl) (Nat.zero_le _) (Nat.zero_le _) ?_
  refine n_has1 hG hP hn hl hi ?_
  refine pw_if_eq (tgt := 12) dX2_letterOf_5 (by decide) (fun h => absurd h (by decide)) (fun h5 => ?_)
  refine pw_iload_n dX2_letterOf_8 rfl ?_
  refine pw_if_ge (tgt := 15) dX2_letterOf_9 (by decide) (fun h9 => ?_) (fun h9 => ?_)
  · refine pw_iconst (v := nI 0) dX2_letterOf_15 (by decide) ?_
    refine pw_istore_n (lv' := [(3, _), (0, _), (1, _), (2, _)]) dX2_letterOf_16 (by decide) rfl ?_
    refine pw_bipush (v := nI 56) dX2_letterOf_17 (by decide) ?_
    refine pw_istore (lv' := [(4, _), (3, _), (0, _), (1, _), (2, _)]) dX2_letterOf_19 (by decide) rfl ?_
    refine pm_lvs (lv' := [(4, .int (nI (8 * 7))), (3, .int (nI 0)), (0, _), (1, _), (2, _)]) rfl ?_
    exact c_ltE_lp hG hP (by omega) (by omega) hJ hv k0 7 0 (by decide) (by have := hv.1; omega) (fun t ht => absurd ht (Nat.not_lt_zero _))
  · rw [ltX_0 hv (fun q => h9 (Int32.le_iff_toInt_le.mpr (by
      rw [show (0 : Int32).toInt = 0 by decide]
      exact q.1)))] at k0
    refine pw_bipush (v := -5) dX2_letterOf_12 (by decide) ?_
    exact pw_iret dX2_letterOf_14 rfl (k0)
set_option maxRecDepth 20000 in
set_option maxHeartbeats 400000 in
theorem c_letterE {l : Launch} {E : pmE} {d : Nat} {S : pmS} {I : pmI} {J : pmJ} {P : pmP} {Q : Option Value → pmS → pmI → pmJ → pmP → Prop} (hG : sh_St S) (hP : gr_St P) (hd : 3 ≤ d) {x y : Int32} {A : aS} {Z : Nat → Nat} {b : Nat} (hc : cA S I J P A Z b) (hO : aO A) (hg : gN A) (k : Q (some (.int (nmX A.ns (fun v => ltX v y) x))) S I J P) : pm_Met l E yX9_letter cX9_letter 3 (some .int) d 0 0 [.ref 2, .int x, .int y] S I J P Q := by
  unfold pm_Met
  refine pm_lvs (lv' := [(0, _), (1, _), (2, _)]) rfl ?_
  refine pw_aload_n dX9_letter_0 rfl ?_
  refine pw_getR fX9_32 dX9_letter_1 (sh_lt hG (by decide)) (sh_tg hG 0 rfl) rfl (gr_at hP 3 rfl) ?_
  refine pw_getR fX9_72 dX9_letter_4 (sh_lt hG (by decide)) (sh_tg hG 13 rfl) rfl (gr_at hP 15 rfl) ?_
  refine pw_iload_n dX9_letter_7 rfl ?_
  refine pw_callV (as := [_]) (kc' := 0) (ks' := 0) lX9_142 dX9_letter_8 rfl rfl (sh_lt hG (by decide)) (sh_tg hG 14 rfl) (Nat.le_of_ble_eq_true rfl) (by omega) (Nat.le_of_ble_eq_true rfl) (Nat.zero_le _) (Nat.zero_le _) ?_
  refine c_X2_has hG hP hc.n hO.1.2 (fun j hj e => ?_) (fun h0 => ?_)
  · subst e
    obtain ⟨v, hv⟩ : ∃ v, A.ns[j]? = some v := ⟨_, List.getElem?_eq_getElem hj⟩
    rw [nmX_1 hO.1.2 hv] at k
    obtain ⟨q, hq⟩ := hg v (List.mem_of_getElem? hv)
    refine pw_if_eq (tgt := 29) dX9_letter_11 (by decide) (fun h => absurd h (by decide)) (fun h11 => ?_)
    refine pw_aload_n dX9_letter_14 rfl ?_
    refine pw_getR fX9_32 dX9_letter_15 (sh_lt hG (by decide)) (sh_tg hG 0 rfl) rfl (gr_at hP 3 rfl) ?_
    refine pw_getR fX9_72 dX9_letter_18 (sh_lt hG (by decide)) (sh_tg hG 13 rfl) rfl (gr_at hP 15 rfl) ?_
    refine pw_iload_n dX9_letter_21 rfl ?_
    refine pw_iload_n dX9_letter_22 rfl ?_
    refine pw_callV (as := [_, _]) (kc' := 0) (ks' := 0) lX9_145 dX9_letter_23 rfl rfl (sh_lt hG (by decide)) (sh_tg hG 14 rfl) (Nat.le_of_ble_eq_true rfl) (by omega) (Nat.le_of_ble_eq_true rfl) (Nat.zero_le _) (Nat.zero_le _) ?_
    refine c_ltOfE hG hP (by omega) hc.n hO.1.2 hj (hc.2.1 j v hv).1 hq ?_
    refine pw_goto (tgt := 30) dX9_letter_26 (by decide) ?_
    exact pw_iret dX9_letter_30 rfl (k)
  · rw [nmX_0 hO.1.2 h0] at k
    refine pw_if_eq (tgt := 29) dX9_letter_11 (by decide) (fun h11 => ?_) (fun h => absurd (by decide) h)
    refine pw_iconst (v := -1) dX9_letter_29 (by decide) ?_
    exact pw_iret dX9_letter_30 rfl (k)
set_option maxRecDepth 20000 in
set_option maxHeartbeats 400000 in
theorem r_ltE_lp {l : Launch} {E : pmE} {d : Nat} {S : pmS} {I : pmI} {J : pmJ} {P : pmP} {Q : Option Value → pmS → pmI → pmJ → pmP → Prop} (hG : sh_St S) (hP : gr_St P) (hd : 1 ≤ d) {j q : Nat} {y : Int32} {v : Int64} (hj : j < 40) (hJ : J 49 j = v) (hv : pkK v q) (kx : Q (some (.int (ltX v y))) S I J P) : ∀ (m k : Nat), k + m = 8 → pm_W l E yX10_letter cX10_letter 5 (some .int) d 0 0 20 [(4, .int (nI k)), (3, .int (nI (kb v k))), (0, .ref 47), (1, .int (nI j)), (2, .int y)] [] S I J P (pm_N E Q)
  | 0, k, hk => by
    have h8 := hv.1
    have eq8 : kb v 8 = q := by rw [kb_eq hv 8 (by decide)]; omega
    have e : k = 8 := by omega
    subst e
    rw [eq8]
    rcases ix_cases9 (n := q) (by omega) y with ⟨t, ht, rfl⟩ | h0
    · rw [ltX_1 hv ht] at kx
      refine pw_iload dX10_letter_20 rfl ?_
      refine pw_bipush (v := nI 8) dX10_letter_22 (by decide) ?_
      refine pw_icmp_ge (tgt := 62) dX10_letter_24 (by decide) (fun h24 => ?_) (fun h => absurd (by decide) h)
      refine pw_iload_n dX10_letter_62 rfl ?_
      refine pw_iconst (v := nI 0) dX10_letter_63 (by decide) ?_
      refine pw_iload_n dX10_letter_64 rfl ?_
      refine pw_iconst (v := nI 1) dX10_letter_65 (by decide) ?_
      refine pw_isub dX10_letter_66 ?_
      refine pw_callS (as := [_, _, _]) (kc' := 0) (ks' := 0) lX10_160 dX10_letter_67 rfl rfl (Nat.le_of_ble_eq_true rfl) (by omega) (Nat.le_of_ble_eq_true rfl) (Nat.zero_le _) (Nat.zero_le _) ?_
      refine c_X10_in (fun _ _ => ?_) (fun z => absurd z ?_)
      rotate_left
      · intro z
        rcases z with z | z
        · rw [nI_ltI (by omega) (by omega)] at z; omega
        · rw [show nI q - nI 1 = nI (q - 1) from pk_sub (by omega), nI_ltI (by omega) (by omega)] at z; omega
      refine pw_if_eq (tgt := 96) dX10_letter_70 (by decide) (fun h => absurd h (by decide)) (fun h70 => ?_)
      refine pw_aload_n dX10_letter_73 rfl ?_
      refine pw_getR fX10_13 dX10_letter_74 (sh_lt hG (by decide)) (sh_tg hG 45 rfl) rfl (gr_at hP 41 rfl) ?_
      refine pw_iload_n dX10_letter_77 rfl ?_
      refine pw_laldN j dX10_letter_78 (sh_lt hG (by decide)) (sh_sh hG 47 rfl) (by decide) (rfl) (by omega) ?_
      refine pw_tj (z := v) hJ ?_
      refine pw_bipush (v := nI 8) dX10_letter_79 (by decide) ?_
      refine pw_iload_n dX10_letter_81 rfl ?_
      refine pw_iconst (v := nI 1) dX10_letter_82 (by decide) ?_
      refine pw_isub dX10_letter_83 ?_
      refine pw_iload_n dX10_letter_84 rfl ?_
      refine pw_isub dX10_letter_85 ?_
      refine pw_imul dX10_letter_86 ?_
      refine pw_ti (z := nI (8 * (q - 1 - t))) (by rw [show nI q - nI 1 = nI (q - 1) from pk_sub (by omega), show nI (q - 1) - nI t = nI (q - 1 - t) from pk_sub (by omega)]; exact (Int32.ofNat_mul 8 _).symm) ?_
      refine pw_lshr dX10_letter_87 ?_
      refine pw_ldc2 dX10_letter_88 kX10_158 ?_
      refine pw_land dX10_letter_91 ?_
      refine pw_tj (z := lN (by_t v (q - 1 - t))) (by_l v (by omega)) ?_
      refine pw_l2i dX10_letter_92 ?_
      refine pw_ti (z := nI (by_t v (q - 1 - t))) (lN_i _) ?_
      refine pw_goto (tgt := 98) dX10_letter_93 (by decide) ?_
      exact pw_iret dX10_letter_98 rfl (kx)
    · rw [ltX_0 hv h0] at kx
      refine pw_iload dX10_letter_20 rfl ?_
      refine pw_bipush (v := nI 8) dX10_letter_22 (by decide) ?_
      refine pw_icmp_ge (tgt := 62) dX10_letter_24 (by decide) (fun h24 => ?_) (fun h => absurd (by decide) h)
      refine pw_iload_n dX10_letter_62 rfl ?_
      refine pw_iconst (v := nI 0) dX10_letter_63 (by decide) ?_
      refine pw_iload_n dX10_letter_64 rfl ?_
      refine pw_iconst (v := nI 1) dX10_letter_65 (by decide) ?_
      refine pw_isub dX10_letter_66 ?_
      refine pw_callS (as := [_, _, _]) (kc' := 0) (ks' := 0) lX10_160 dX10_letter_67 rfl rfl (Nat.le_of_ble_eq_true rfl) (by omega) (Nat.le_of_ble_eq_true rfl) (Nat.zero_le _) (Nat.zero_le _) ?_
      refine c_X10_in (fun q1 q2 => absurd ?_ h0) (fun _ => ?_)
      · obtain ⟨i, hi, e⟩ := in_n1 (by omega) q1 q2
        rw [e, nI_toInt (by omega)]
        exact ⟨by omega, by omega⟩
      refine pw_if_eq (tgt := 96) dX10_letter_70 (by decide) (fun h70 => ?_) (fun h => absurd (by decide) h)
      refine pw_bipush (v := -5) dX10_letter_96 (by decide) ?_
      exact pw_iret dX10_letter_98 rfl (kx)
  | m + 1, k, hk => by
    have hbl := by_lt v k
    refine pw_iload dX10_letter_20 rfl ?_
    refine pw_bipush (v := nI 8) dX10_letter_22 (by decide) ?_
    refine pw_icmpN_ge _ _ (tgt := 62) dX10_letter_24 (by decide) (rfl) (rfl) (by omega) (by omega) (fun h24 => absurd h24 (by omega)) (fun h24 => ?_)
    refine pw_iload_n dX10_letter_27 rfl ?_
    refine pw_aload_n dX10_letter_28 rfl ?_
    refine pw_getR fX10_13 dX10_letter_29 (sh_lt hG (by decide)) (sh_tg hG 45 rfl) rfl (gr_at hP 41 rfl) ?_
    refine pw_iload_n dX10_letter_32 rfl ?_
    refine pw_laldN j dX10_letter_33 (sh_lt hG (by decide)) (sh_sh hG 47 rfl) (by decide) (rfl) (by omega) ?_
    refine pw_tj (z := v) hJ ?_
    refine pw_bipush (v := nI 8) dX10_letter_34 (by decide) ?_
    refine pw_iload dX10_letter_36 rfl ?_
    refine pw_imul dX10_letter_38 ?_
    refine pw_ti (z := nI (8 * k)) (Int32.ofNat_mul 8 _).symm ?_
    refine pw_lshr dX10_letter_39 ?_
    refine pw_ldc2 dX10_letter_40 kX10_158 ?_
    refine pw_land dX10_letter_43 ?_
    refine pw_tj (z := lN (by_t v k)) (by_l v (by omega)) ?_
    refine pw_lconst (v := 0) dX10_letter_44 (by decide) ?_
    refine pw_lif_eq (tgt := 53) dX10_letter_45 dX10_letter_46 (by decide) (fun h46 => ?_) (fun h46 => ?_)
    · refine pw_iconst (v := nI 0) dX10_letter_53 (by decide) ?_
      refine pw_iadd dX10_letter_54 ?_
      refine pw_ti (z := nI (kb v (k + 1))) (by rw [show kb v (k + 1) = kb v k + 0 from congrArg (kb v k + ·) (if_pos ((lN_eq (by omega) (by decide)).mp h46))]; exact nI_add _ 0) ?_
      refine pw_istore_n (lv' := [(3, _), (4, _), (0, _), (1, _), (2, _)]) dX10_letter_55 (by decide) rfl ?_
      refine pw_sub [1, 0, 2, 3, 4] rfl ?_
      refine pw_iinc (lv' := [(4, _), (3, _), (0, _), (1, _), (2, _)]) dX10_letter_56 rfl (by decide) rfl ?_
      refine pw_goto (tgt := 20) dX10_letter_59 (by decide) ?_
      refine pm_lvs (lv' := [(4, .int (nI (k + 1))), (3, _), (0, _), (1, _), (2, _)]) (by rw [show nI k + Int32.ofInt 1 = nI (k + 1) from nI_add k 1]) ?_
      exact r_ltE_lp hG hP hd hj hJ hv kx m (k + 1) (by omega)
    · refine pw_iconst (v := nI 1) dX10_letter_49 (by decide) ?_
      refine pw_goto (tgt := 54) dX10_letter_50 (by decide) ?_
      refine pw_iadd dX10_letter_54 ?_
      refine pw_ti (z := nI (kb v (k + 1))) (by rw [show kb v (k + 1) = kb v k + 1 from congrArg (kb v k + ·) (if_neg (fun z => h46 ((lN_eq (by omega) (by decide)).mpr z)))]; exact nI_add _ 1) ?_
      refine pw_istore_n (lv' := [(3, _), (4, _), (0, _), (1, _), (2, _)]) dX10_letter_55 (by decide) rfl ?_
      refine pw_sub [1, 0, 2, 3, 4] rfl ?_
      refine pw_iinc (lv' := [(4, _), (3, _), (0, _), (1, _), (2, _)]) dX10_letter_56 rfl (by decide) rfl ?_
      refine pw_goto (tgt := 20) dX10_letter_59 (by decide) ?_
      refine pm_lvs (lv' := [(4, .int (nI (k + 1))), (3, _), (0, _), (1, _), (2, _)]) (by rw [show nI k + Int32.ofInt 1 = nI (k + 1) from nI_add k 1]) ?_
      exact r_ltE_lp hG hP hd hj hJ hv kx m (k + 1) (by omega)
set_option maxRecDepth 20000 in
set_option maxHeartbeats 400000 in
theorem r_letterE {l : Launch} {E : pmE} {d : Nat} {S : pmS} {I : pmI} {J : pmJ} {P : pmP} {Q : Option Value → pmS → pmI → pmJ → pmP → Prop} (hG : sh_St S) (hP : gr_St P) (hd : 2 ≤ d) {x y : Int32} {A : aS} (hA : rA I J A) (hO : aO A) (hg : gN A) (k : Q (some (.int (nmX A.ns (fun v => ltX v y) x))) S (pm_u I 47 0 (nI 0)) J P) : pm_Met l E yX10_letter cX10_letter 5 (some .int) d 0 0 [.ref 47, .int x, .int y] S I J P Q := by
  unfold pm_Met
  refine pm_lvs (lv' := [(0, _), (1, _), (2, _)]) rfl ?_
  refine pw_aload_n dX10_letter_0 rfl ?_
  refine pw_iconst (v := nI 0) dX10_letter_1 (by decide) ?_
  refine pw_putI fX10_154 dX10_letter_2 (Or.inl rfl) (by decide) (sh_lt hG (by decide)) (sh_tg hG 45 rfl) rfl ?_
  refine pw_aload_n dX10_letter_5 rfl ?_
  refine pw_iload_n dX10_letter_6 rfl ?_
  refine pw_callV (as := [_]) (kc' := 0) (ks' := 0) lX10_360 dX10_letter_7 rfl rfl (sh_lt hG (by decide)) (sh_tg hG 45 rfl) (Nat.le_of_ble_eq_true rfl) (by omega) (Nat.le_of_ble_eq_true rfl) (Nat.zero_le _) (Nat.zero_le _) ?_
  refine c_X10_isName hG hP (by omega) (by rw [pm_u_eq, pm_up_ne (by decide)]; exact hA.n) hO.1.2 (fun j hj e => ?_) (fun h0 => ?_)
  · subst e
    obtain ⟨v, hv⟩ : ∃ v, A.ns[j]? = some v := ⟨_, List.getElem?_eq_getElem hj⟩
    rw [nmX_1 hO.1.2 hv] at k
    obtain ⟨q, hq⟩ := hg v (List.mem_of_getElem? hv)
    have hnl := hO.1.2
    refine pw_if_ne (tgt := 15) dX10_letter_10 (by decide) (fun h10 => ?_) (fun h => absurd h (by decide))
    refine pw_iconst (v := nI 0) dX10_letter_15 (by decide) ?_
    refine pw_istore_n (lv' := [(3, _), (0, _), (1, _), (2, _)]) dX10_letter_16 (by decide) rfl ?_
    refine pw_iconst (v := nI 0) dX10_letter_17 (by decide) ?_
    refine pw_istore (lv' := [(4, _), (3, _), (0, _), (1, _), (2, _)]) dX10_letter_18 (by decide) rfl ?_
    refine pm_lvs (lv' := [(4, .int (nI 0)), (3, .int (nI (kb v 0))), (0, _), (1, _), (2, _)]) rfl ?_
    exact r_ltE_lp hG hP (by omega) (by omega) (hA.2.1 j v hv).1 hq k 8 0 rfl
  · rw [nmX_0 hO.1.2 h0] at k
    refine pw_if_ne (tgt := 15) dX10_letter_10 (by decide) (fun h => absurd (by decide) h) (fun h10 => ?_)
    refine pw_iconst (v := -1) dX10_letter_13 (by decide) ?_
    exact pw_iret dX10_letter_14 rfl (k)
