theorem c_X0_aim {l : Launch} {E : pmE} {d : Nat} {S : pmS} {I : pmI} {J : pmJ} {P : pmP} {Q : Option Value → pmS → pmI → pmJ → pmP → Prop} (hG : sh_St S) (hP : gr_St P) (hd : 1 ≤ d) {A B : List dD} {x y : Nat} {c : Int32} {v : Int64} {i : Nat} (h : cd I J (A ++ (x, y, c, v) :: B)) (h2 : (A ++ (x, y, c, v) :: B).length ≤ 121) (hi : i = A.length) (k : ∀ I', cd I' J (A ++ (x, y, nI B.length, v) :: B) → frC I I' J J → Q none S I' J P) : pm_Met l E yX0_aimAtEnd cX0_aimAtEnd 2 none d 0 0 [.ref 9, .int (nI i)] S I J P Q := by
  unfold pm_Met
  refine pm_lvs (lv' := [(0, _), (1, _)]) rfl ?_
  refine pw_aload_n dX0_aimAtEnd_0 rfl ?_
  refine pw_iload_n dX0_aimAtEnd_1 rfl ?_
  refine pw_aload_n dX0_aimAtEnd_2 rfl ?_
  refine pw_getI fX0_25 dX0_aimAtEnd_3 (sh_lt hG (by decide)) (sh_tg hG 7 rfl) rfl ?_
  refine pw_iload_n dX0_aimAtEnd_6 rfl ?_
  refine pw_isub dX0_aimAtEnd_7 ?_
  refine pw_iconst (v := nI 1) dX0_aimAtEnd_8 (by decide) ?_
  refine pw_isub dX0_aimAtEnd_9 ?_
  have h3 : (A ++ (x, y, c, v) :: B).length = A.length + (B.length + 1) := List.length_append
  refine pw_ti (z := nI B.length) (by rw [h.1, h3, hi, pk_sub (by omega), show A.length + (B.length + 1) - A.length = B.length + 1 by omega, pk_sub (by omega)]; rfl) ?_
  refine pw_callV (as := [_, _]) (kc' := 0) (ks' := 0) lX0_42 dX0_aimAtEnd_10 rfl rfl (sh_lt hG (by decide)) (sh_tg hG 7 rfl) (Nat.le_of_ble_eq_true rfl) (by omega) (Nat.le_of_ble_eq_true rfl) (Nat.zero_le _) (Nat.zero_le _) ?_
  refine c_X0_setCount hG hP h h2 hi (fun I' hC hf => ?_)
  exact pw_vret dX0_aimAtEnd_13 rfl (k _ hC hf)
theorem c_X0_aimF {l : Launch} {E : pmE} {d : Nat} {S : pmS} {I : pmI} {J : pmJ} {P : pmP} {Q : Option Value → pmS → pmI → pmJ → pmP → Prop} (hG : sh_St S) (hP : gr_St P) (hd : 1 ≤ d) (hz : ∃ z, z ≤ 121 ∧ I 9 4 = nI z) {i : Nat} (hi : i < 2 ^ 31) (k : ∀ I', (∃ z, z ≤ 121 ∧ I' 9 4 = nI z) → frC I I' J J → Q none S I' J P) : pm_Met l E yX0_aimAtEnd cX0_aimAtEnd 2 none d 0 0 [.ref 9, .int (nI i)] S I J P Q := by
  unfold pm_Met
  refine pm_lvs (lv' := [(0, _), (1, _)]) rfl ?_
  refine pw_aload_n dX0_aimAtEnd_0 rfl ?_
  refine pw_iload_n dX0_aimAtEnd_1 rfl ?_
  refine pw_aload_n dX0_aimAtEnd_2 rfl ?_
  refine pw_getI fX0_25 dX0_aimAtEnd_3 (sh_lt hG (by decide)) (sh_tg hG 7 rfl) rfl ?_
  refine pw_iload_n dX0_aimAtEnd_6 rfl ?_
  refine pw_isub dX0_aimAtEnd_7 ?_
  refine pw_iconst (v := nI 1) dX0_aimAtEnd_8 (by decide) ?_
  refine pw_isub dX0_aimAtEnd_9 ?_
  refine pw_callV (as := [_, _]) (kc' := 0) (ks' := 0) lX0_42 dX0_aimAtEnd_10 rfl rfl (sh_lt hG (by decide)) (sh_tg hG 7 rfl) (Nat.le_of_ble_eq_true rfl) (by omega) (Nat.le_of_ble_eq_true rfl) (Nat.zero_le _) (Nat.zero_le _) ?_
  refine c_X0_setCountF hG hP hz hi (fun I' hC hf => ?_)
  exact pw_vret dX0_aimAtEnd_13 rfl (k _ hC hf)
/-- what a reading owes: this outcome -/
def rK (tx : Nat → Nat) (n cnt : Nat) (pa : List Int64) (Q : Option Value → pmS → pmI → pmJ → pmP → Prop) (S : pmS) (P : pmP) (I : pmI) (J : pmJ) (L0 : List dD) (op : Nat) (r : Except Nat (Nat × List dD)) : Prop :=
  (∀ b L I' J', r = .ok (b, L) → rs tx n cnt pa I' J' b op (L0 ++ L) → fr8 I I' J J' → Q none S I' J' P) ∧ (∀ e I' J', r = .error e → fs tx n cnt pa I' J' e → fr8 I I' J J' → Q none S I' J' P)
theorem rK.mv {tx : Nat → Nat} {n cnt : Nat} {pa : List Int64} {Q : Option Value → pmS → pmI → pmJ → pmP → Prop} {S : pmS} {P : pmP} {I I1 : pmI} {J J1 : pmJ} {L0 : List dD} {op : Nat} {r : Except Nat (Nat × List dD)} (h : rK tx n cnt pa Q S P I J L0 op r) (hf : fr8 I I1 J J1) : rK tx n cnt pa Q S P I1 J1 L0 op r := ⟨fun b L I' J' e hS hf' => h.1 b L I' J' e hS (hf.trans hf'), fun b I' J' e hS hf' => h.2 b I' J' e hS (hf.trans hf')⟩
def sX (l : Launch) (E : pmE) (S : pmS) (P : pmP) (tx : Nat → Nat) (n cnt : Nat) (pa : List Int64) (f : Nat) : Prop := ∀ (d a op : Nat) (L0 : List dD) (I : pmI) (J : pmJ) (Q : Option Value → pmS → pmI → pmJ → pmP → Prop) (r : Except Nat (Nat × List dD)), rs tx n cnt pa I J a op L0 → a ≤ cnt → (L0.length ≤ 2 * a ∧ a ≤ 60) → op ≤ 12 → 12 * (13 - op) + 12 ≤ d → ps (tk_k tx n) (tk_p tx n) (tk_v tx n) pa f 0 a op [] 0 = some r → rK tx n cnt pa Q S P I J L0 op r → pm_Met l E yX3_readExpr cX3_readExpr 2 none d 0 0 [.ref 8] S I J P Q
def sL (l : Launch) (E : pmE) (S : pmS) (P : pmP) (tx : Nat → Nat) (n cnt : Nat) (pa : List Int64) (f : Nat) (lv : Nat) : Prop := ∀ (d a op : Nat) (L0 : List dD) (I : pmI) (J : pmJ) (Q : Option Value → pmS → pmI → pmJ → pmP → Prop) (r : Except Nat (Nat × List dD)), rs tx n cnt pa I J a op L0 → a ≤ cnt → (L0.length ≤ 2 * a ∧ a ≤ 60) → op ≤ 12 → 12 * (13 - op) + (11 - lv) ≤ d → ps (tk_k tx n) (tk_p tx n) (tk_v tx n) pa f (lv + 1) a op [] 0 = some r → rK tx n cnt pa Q S P I J L0 op r → pm_Met l E yX3_readLevel cX3_readLevel 7 none d 0 0 [.ref 8, .int (nI lv)] S I J P Q
def sF (l : Launch) (E : pmE) (S : pmS) (P : pmP) (tx : Nat → Nat) (n cnt : Nat) (pa : List Int64) (f : Nat) : Prop := ∀ (d a op : Nat) (L0 : List dD) (I : pmI) (J : pmJ) (Q : Option Value → pmS → pmI → pmJ → pmP → Prop) (r : Except Nat (Nat × List dD)), rs tx n cnt pa I J a op L0 → a ≤ cnt → (L0.length ≤ 2 * a ∧ a ≤ 60) → op ≤ 12 → 12 * (13 - op) + 7 ≤ d → ps (tk_k tx n) (tk_p tx n) (tk_v tx n) pa f 4 a op [] 0 = some r → rK tx n cnt pa Q S P I J L0 op r → pm_Met l E yX3_readFact cX3_readFact 6 none d 0 0 [.ref 8] S I J P Q
def sA (l : Launch) (E : pmE) (S : pmS) (P : pmP) (tx : Nat → Nat) (n cnt : Nat) (pa : List Int64) (f : Nat) : Prop := ∀ (d a op : Nat) (L0 : List dD) (I : pmI) (J : pmJ) (Q : Option Value → pmS → pmI → pmJ → pmP → Prop) (r : Except Nat (Nat × List dD)), rs tx n cnt pa I J a op L0 → a ≤ cnt → (L0.length ≤ 2 * a ∧ a ≤ 60) → op ≤ 12 → 12 * (13 - op) + 5 ≤ d → ps (tk_k tx n) (tk_p tx n) (tk_v tx n) pa f 5 a op [] 0 = some r → rK tx n cnt pa Q S P I J L0 op r → pm_Met l E yX3_readAtom cX3_readAtom 4 none d 0 0 [.ref 8] S I J P Q
def sO (l : Launch) (E : pmE) (S : pmS) (P : pmP) (tx : Nat → Nat) (n cnt : Nat) (pa : List Int64) (f : Nat) (lv : Nat) : Prop := ∀ (d a op k : Nat) (L0 acc : List dD) (I : pmI) (J : pmJ) (Q : Option Value → pmS → pmI → pmJ → pmP → Prop) (r : Except Nat (Nat × List dD)), rs tx n cnt pa I J a op (L0 ++ acc) → a ≤ cnt → ((L0 ++ acc).length ≤ 2 * a ∧ a ≤ 60) → k ≤ a → op ≤ 12 → 12 * (13 - op) + (11 - lv) ≤ d → ps (tk_k tx n) (tk_p tx n) (tk_v tx n) pa f (lv + 11) a op acc k = some r → rK tx n cnt pa Q S P I J L0 op r → pm_W l E yX3_readLevel cX3_readLevel 7 none d 0 0 39 [(4, .int (nI k)), (3, .int (nI (if lv = 0 then 1 else 60))), (2, .int (nI L0.length)), (0, .ref 8), (1, .int (nI lv))] [] S I J P (pm_N E Q)
def sD (l : Launch) (E : pmE) (S : pmS) (P : pmP) (tx : Nat → Nat) (n cnt : Nat) (pa : List Int64) (f : Nat) : Prop := ∀ (d a op k : Nat) (L0 acc : List dD) (I : pmI) (J : pmJ) (Q : Option Value → pmS → pmI → pmJ → pmP → Prop) (r : Except Nat (Nat × List dD)), rs tx n cnt pa I J a op (L0 ++ acc) → a ≤ cnt → ((L0 ++ acc).length ≤ 2 * a ∧ a ≤ 60) → k ≤ a → op ≤ 12 → 12 * (13 - op) + 7 ≤ d → ps (tk_k tx n) (tk_p tx n) (tk_v tx n) pa f 14 a op acc k = some r → rK tx n cnt pa Q S P I J L0 op r → pm_W l E yX3_readFact cX3_readFact 6 none d 0 0 28 [(2, .int (nI k)), (1, .int (nI L0.length)), (0, .ref 8)] [] S I J P (pm_N E Q)
def sC (l : Launch) (E : pmE) (S : pmS) (P : pmP) (tx : Nat → Nat) (n cnt : Nat) (pa : List Int64) (f : Nat) : Prop := ∀ (d b op g nm : Nat) (L0 acc : List dD) (I : pmI) (J : pmJ) (Q : Option Value → pmS → pmI → pmJ → pmP → Prop) (r : Except Nat (Nat × List dD)), rs tx n cnt pa I J b (op + 1) (L0 ++ (6, tk_p tx n nm, 0, tk_v tx n nm) :: acc) → b ≤ cnt → (L0 ++ (6, tk_p tx n nm, 0, tk_v tx n nm) :: acc).length < 2 * b ∧ b ≤ 60 → 1 ≤ g → g ≤ 3 → op < 12 → 12 * (13 - op) + 3 ≤ d → (if tk_k tx n b = 44 ∧ g < 3 then ps (tk_k tx n) (tk_p tx n) (tk_v tx n) pa f 15 (b + 1) (op + 1) acc (4 * nm + g) else if tk_k tx n b = 41 then some (.ok (b + 1, (6, tk_p tx n nm, nI g, tk_v tx n nm) :: (acc ++ [(8, tk_p tx n nm, nI g, tk_v tx n nm)]))) else some (.error b)) = some r → rK tx n cnt pa Q S P I J L0 op r → pm_W l E yX3_readCall cX3_readCall 6 none d 0 0 48 [(5, .int (nI g)), (4, .int (nI L0.length)), (0, .ref 8), (1, .int (nI (tk_p tx n nm))), (2, .long (tk_v tx n nm))] [] S I J P (pm_N E Q)
theorem tk_60 {tx : Nat → Nat} {n a : Nat} (h0 : tk_k tx n a ≠ 0) (h1 : tk_k tx n a ≠ 1) : a < 60 := by
  rcases Nat.lt_or_ge a 60 with h | h
  · exact h
  · exfalso
    unfold tk_k at h0 h1
    split at h0
    · rw [if_pos (by assumption), if_neg (by omega)] at h1
      exact h1 rfl
    · exact h0 rfl
theorem tk_cnt {tx : Nat → Nat} {n cnt a : Nat} {I : pmI} {J : pmJ} (hC : tk_C tx n I J cnt) (h0 : tk_k tx n a ≠ 0) : a < cnt := by
  rcases Nat.lt_or_ge a cnt with h | h
  · exact h
  · exfalso
    obtain ⟨k, rfl⟩ : ∃ k, a = cnt + k := ⟨a - cnt, by omega⟩
    unfold tk_k at h0
    rw [if_neg (by rw [tk_p_on hC.2.2.1 k]; omega)] at h0
    exact h0 rfl
theorem ps_cnt {tx : Nat → Nat} {n cnt : Nat} {I : pmI} {J : pmJ} {pa : List Int64} (hC : tk_C tx n I J cnt) {f m a d k b : Nat} {acc L : List dD} (hm : m ≤ 5 ∨ 11 ≤ m ∧ m ≤ 15) (ha : a ≤ cnt) (h : ps (tk_k tx n) (tk_p tx n) (tk_v tx n) pa f m a d acc k = some (.ok (b, L))) : a ≤ b ∧ b ≤ cnt ∧ (m ≤ 5 → a < b ∧ L.length ≤ 2 * (b - a)) := by
  have i1 := ps_len _ _ _ _ _ _ _ _ hm h
  have hab : a ≤ b := by
    rcases hm with h5 | ⟨h11, h15⟩
    · have := (i1.2.1 h5).1; omega
    · by_cases e : m = 15
      · have := (i1.2.2.2 e).1; omega
      · exact (i1.2.2.1 h11 (by omega)).1
  refine ⟨hab, ?_, i1.2.1⟩
  rcases Nat.lt_or_ge a b with h1 | h1
  · have := tk_cnt hC (i1.1 (b - 1) (by omega) (by omega)).1
    omega
  · omega
theorem ps_60 {tx : Nat → Nat} {n : Nat} {pa : List Int64} {f m a d k b : Nat} {acc L : List dD} (hm : m ≤ 5) (h : ps (tk_k tx n) (tk_p tx n) (tk_v tx n) pa f m a d acc k = some (.ok (b, L))) : b ≤ 60 := by
  have i1 := ps_len _ _ _ _ _ _ _ _ (Or.inl hm) h
  have i2 := i1.2.1 hm
  have h9 := i1.1 (b - 1) (by omega) (by omega)
  have := tk_60 h9.1 h9.2
  omega
theorem tk_end0 {tx : Nat → Nat} {n cnt : Nat} {I : pmI} {J : pmJ} (h : tk_C tx n I J cnt) : tk_k tx n cnt = 0 := if_neg (by rw [h.2.2.1]; omega)
set_option maxRecDepth 20000 in
set_option maxHeartbeats 4000000 in
theorem t_X {l : Launch} {E : pmE} {S : pmS} {P : pmP} {tx : Nat → Nat} {n cnt : Nat} {pa : List Int64} {f : Nat} (hG : sh_St S) (hP : gr_St P) (hn9 : n ≤ 120) (hb : ∀ j, j < n → tx j < 128) (hL : sL l E S P tx n cnt pa f 0) (hX : sX l E S P tx n cnt pa f) : sX l E S P tx n cnt pa (f + 1) := by
  intro d a op L0 I J Q r hs ha hl ho hd hr k
  unfold pm_Met
  refine pm_lvs (lv' := [(0, _)]) rfl ?_
  rw [ps_0] at hr
  refine pw_aload_n dX3_readExpr_0 rfl ?_
  refine pw_getR fX3_14 dX3_readExpr_1 (sh_lt hG (by decide)) (sh_tg hG 6 rfl) rfl (gr_at hP 9 rfl) ?_
  refine pw_callV (as := []) (kc' := 0) (ks' := 0) lX3_122 dX3_readExpr_4 rfl rfl (sh_lt hG (by decide)) (sh_tg hG 7 rfl) (Nat.le_of_ble_eq_true rfl) (by omega) (Nat.le_of_ble_eq_true rfl) (Nat.zero_le _) (Nat.zero_le _) ?_
  unfold pm_Met
  refine pm_lvs (lv' := [(0, _)]) rfl ?_
  refine pw_aload_n dX0_size_0 rfl ?_
  refine pw_getI fX0_25 dX0_size_1 (sh_lt hG (by decide)) (sh_tg hG 7 rfl) rfl ?_
  refine pw_iret dX0_size_4 rfl ?_
  refine pw_ti (z := nI L0.length) hs.2.2.2.2.2.1 ?_
  refine pw_istore_n (lv' := [(1, _), (0, _)]) dX3_readExpr_7 (by decide) rfl ?_
  refine pw_aload_n dX3_readExpr_8 rfl ?_
  refine pw_iconst (v := nI 0) dX3_readExpr_9 (by decide) ?_
  refine pw_callV (as := [_]) (kc' := 0) (ks' := 0) lX3_126 dX3_readExpr_10 rfl rfl (sh_lt hG (by decide)) (sh_tg hG 6 rfl) (Nat.le_of_ble_eq_true rfl) (by omega) (Nat.le_of_ble_eq_true rfl) (Nat.zero_le _) (Nat.zero_le _) ?_
  rcases pb_so hr with ⟨e, h1, he⟩ | ⟨b, L, h1, hr⟩
  · refine hL _ _ _ _ _ _ _ _ hs ha hl ho (by omega) h1 ⟨(fun b L I' J' hh => nomatch hh), fun e' I' J' hh hF hff => ?_⟩
    cases hh
    refine pw_aload_n dX3_readExpr_13 rfl ?_
    refine pw_bipush (v := nI 63) dX3_readExpr_14 (by decide) ?_
    refine pw_callV (as := [_]) (kc' := 0) (ks' := 0) lX3_66 dX3_readExpr_16 rfl rfl (sh_lt hG (by decide)) (sh_tg hG 6 rfl) (Nat.le_of_ble_eq_true rfl) (by omega) (Nat.le_of_ble_eq_true rfl) (Nat.zero_le _) (Nat.zero_le _) ?_
    refine c_X3_isAt hG hP hF.1 hb (by omega) hF.2.2.1 (Nat.le_refl _) (c := 63) (by decide) (fun hq1 => absurd ((tk_end0 hF.1).symm.trans hq1) (by decide)) (fun _ => ?_)
    refine pw_if_eq (tgt := 27) dX3_readExpr_19 (by decide) (fun h19 => ?_) (fun h => absurd (by decide) h)
    exact pw_vret dX3_readExpr_27 rfl (k.2 e _ _ he hF hff)
  · have g1 := ps_cnt hs.1 (by omega) ha h1
    have g1' := g1.2.2 (by omega)
    refine hL _ _ _ _ _ _ _ _ hs ha hl ho (by omega) h1 ⟨fun b' L' I' J' hh hS hff => ?_, fun e' I' J' hh => nomatch hh⟩
    cases hh
    have hlen : (L0 ++ L).length ≤ 2 * b := by rw [List.length_append]; omega
    refine pw_aload_n dX3_readExpr_13 rfl ?_
    refine pw_bipush (v := nI 63) dX3_readExpr_14 (by decide) ?_
    refine pw_callV (as := [_]) (kc' := 0) (ks' := 0) lX3_66 dX3_readExpr_16 rfl rfl (sh_lt hG (by decide)) (sh_tg hG 6 rfl) (Nat.le_of_ble_eq_true rfl) (by omega) (Nat.le_of_ble_eq_true rfl) (Nat.zero_le _) (Nat.zero_le _) ?_
    refine c_X3_isAt hG hP hS.1 hb (by omega) hS.2.2.1 g1.2.1 (c := 63) (by decide) (fun hq1 => ?_) (fun hq0 => ?_)
    · rw [if_pos hq1] at hr
      have hb60 := tk_60 (tx := tx) (n := n) (a := b) (by rw [hq1]; decide) (by rw [hq1]; decide)
      have hbc := tk_cnt hS.1 (a := b) (by rw [hq1]; decide)
      refine pw_if_eq (tgt := 27) dX3_readExpr_19 (by decide) (fun h => absurd h (by decide)) (fun h19 => ?_)
      refine pw_aload_n dX3_readExpr_22 rfl ?_
      refine pw_iload_n dX3_readExpr_23 rfl ?_
      refine pw_callV (as := [_]) (kc' := 0) (ks' := 0) lX3_129 dX3_readExpr_24 rfl rfl (sh_lt hG (by decide)) (sh_tg hG 6 rfl) (Nat.le_of_ble_eq_true rfl) (by omega) (Nat.le_of_ble_eq_true rfl) (Nat.zero_le _) (Nat.zero_le _) ?_
      unfold pm_Met
      refine pm_lvs (lv' := [(0, _), (1, _)]) rfl ?_
      refine pw_aload_n dX3_readChoice_0 rfl ?_
      refine pw_getR fX3_24 dX3_readChoice_1 (sh_lt hG (by decide)) (sh_tg hG 6 rfl) rfl (gr_at hP 8 rfl) ?_
      refine pw_aload_n dX3_readChoice_4 rfl ?_
      refine pw_getI fX3_39 dX3_readChoice_5 (sh_lt hG (by decide)) (sh_tg hG 6 rfl) rfl ?_
      refine pw_ti (z := nI b) hS.2.2.1 ?_
      refine pw_callV (as := [_]) (kc' := 0) (ks' := 0) lX3_132 dX3_readChoice_8 rfl rfl (sh_lt hG (by decide)) (sh_tg hG 2 rfl) (Nat.le_of_ble_eq_true rfl) (by omega) (Nat.le_of_ble_eq_true rfl) (Nat.zero_le _) (Nat.zero_le _) ?_
      refine c_pl hG hP hS.1 g1.2.1 ?_
      refine pw_istore_n (lv' := [(2, _), (0, _), (1, _)]) dX3_readChoice_11 (by decide) rfl ?_
      refine pw_aload_n dX3_readChoice_12 rfl ?_
      refine pw_callV (as := []) (kc' := 0) (ks' := 0) lX3_135 dX3_readChoice_13 rfl rfl (sh_lt hG (by decide)) (sh_tg hG 6 rfl) (Nat.le_of_ble_eq_true rfl) (by omega) (Nat.le_of_ble_eq_true rfl) (Nat.zero_le _) (Nat.zero_le _) ?_
      refine c_X3_enter hG hP (by omega) hb hS g1.2.1 (by omega) ho (fun hlt I1 hS1 hf1 => ?_) (fun hge I1 hF hf1 => ?_)
      · rw [if_neg (by omega)] at hr
        have hff := hff.trans hf1
        refine pw_if_ne (tgt := 20) dX3_readChoice_16 (by decide) (fun hX3_readChoice_16 => ?_) (fun h => absurd h (by decide))
        refine pw_aload_n dX3_readChoice_20 rfl ?_
        refine pw_getR fX3_14 dX3_readChoice_21 (sh_lt hG (by decide)) (sh_tg hG 6 rfl) rfl (gr_at hP 9 rfl) ?_
        refine pw_iload_n dX3_readChoice_24 rfl ?_
        refine pw_iload_n dX3_readChoice_25 rfl ?_
        refine pw_callV (as := [_, _]) (kc' := 0) (ks' := 0) lX3_139 dX3_readChoice_26 rfl rfl (sh_lt hG (by decide)) (sh_tg hG 7 rfl) (Nat.le_of_ble_eq_true rfl) (by omega) (Nat.le_of_ble_eq_true rfl) (Nat.zero_le _) (Nat.zero_le _) ?_
        refine c_X0_begin hG hP (by omega) hS1.2.2.2.2.2 (by omega) rfl 0 0 (fun I2 J2 hc2 hf2 => ?_)
        have hS2 := hS1.cd' hc2 hf2
        have hff := hff.trans (fr8.code hf2)
        refine pw_aload_n dX3_readChoice_29 rfl ?_
        refine pw_getR fX3_14 dX3_readChoice_30 (sh_lt hG (by decide)) (sh_tg hG 6 rfl) rfl (gr_at hP 9 rfl) ?_
        refine pw_callV (as := []) (kc' := 0) (ks' := 0) lX3_122 dX3_readChoice_33 rfl rfl (sh_lt hG (by decide)) (sh_tg hG 7 rfl) (Nat.le_of_ble_eq_true rfl) (by omega) (Nat.le_of_ble_eq_true rfl) (Nat.zero_le _) (Nat.zero_le _) ?_
        unfold pm_Met
        refine pm_lvs (lv' := [(0, _)]) rfl ?_
        refine pw_aload_n dX0_size_0 rfl ?_
        refine pw_getI fX0_25 dX0_size_1 (sh_lt hG (by decide)) (sh_tg hG 7 rfl) rfl ?_
        refine pw_iret dX0_size_4 rfl ?_
        refine pw_ti (z := nI (L0 ++ (1, tk_p tx n b, 0, 0) :: L).length) hS2.2.2.2.2.2.1 ?_
        refine pw_istore_n (lv' := [(3, _), (2, _), (0, _), (1, _)]) dX3_readChoice_36 (by decide) rfl ?_
        refine pw_aload_n dX3_readChoice_37 rfl ?_
        refine pw_getR fX3_14 dX3_readChoice_38 (sh_lt hG (by decide)) (sh_tg hG 6 rfl) rfl (gr_at hP 9 rfl) ?_
        refine pw_bipush (v := nI 11) dX3_readChoice_41 (by decide) ?_
        refine pw_iload_n dX3_readChoice_43 rfl ?_
        refine pw_callV (as := [_, _]) (kc' := 0) (ks' := 0) lX3_73 dX3_readChoice_44 rfl rfl (sh_lt hG (by decide)) (sh_tg hG 7 rfl) (Nat.le_of_ble_eq_true rfl) (by omega) (Nat.le_of_ble_eq_true rfl) (Nat.zero_le _) (Nat.zero_le _) ?_
        unfold pm_Met
        refine pm_lvs (lv' := [(0, _), (1, _), (2, _)]) rfl ?_
        refine pw_aload_n dX0_add_0 rfl ?_
        refine pw_iload_n dX0_add_1 rfl ?_
        refine pw_iload_n dX0_add_2 rfl ?_
        refine pw_iconst (v := nI 0) dX0_add_3 (by decide) ?_
        refine pw_lconst (v := 0) dX0_add_4 (by decide) ?_
        refine pw_callV (as := [_, _, _, _]) (kc' := 0) (ks' := 0) lX0_32 dX0_add_5 rfl rfl (sh_lt hG (by decide)) (sh_tg hG 7 rfl) (Nat.le_of_ble_eq_true rfl) (by omega) (Nat.le_of_ble_eq_true rfl) (Nat.zero_le _) (Nat.zero_le _) ?_
        refine c_X0_addWith hG hP hS2.2.2.2.2.2 (by simp only [List.length_append, List.length_cons] at hlen ⊢; omega) (x := 11) (c := 0) (fun I3 J3 hc3 hf3 => ?_)
        have hS3 := hS2.cd' hc3 hf3
        have hff := hff.trans (fr8.code hf3)
        refine pw_vret dX0_add_8 rfl ?_
        rcases pb_so hr with ⟨e, h2, he⟩ | ⟨c, L2, h2, hr⟩
        · refine pw_aload_n dX3_readChoice_47 rfl ?_
          refine pw_callV (as := []) (kc' := 0) (ks' := 0) lX3_99 dX3_readChoice_48 rfl rfl (sh_lt hG (by decide)) (sh_tg hG 6 rfl) (Nat.le_of_ble_eq_true rfl) (by omega) (Nat.le_of_ble_eq_true rfl) (Nat.zero_le _) (Nat.zero_le _) ?_
          have hl3 : ((L0 ++ (1, tk_p tx n b, 0, 0) :: L) ++ [(11, tk_p tx n b, 0, 0)]).length ≤ 2 * (b + 1) := by simp only [List.length_append, List.length_cons, List.length_nil] at hlen ⊢; omega
          refine hX _ _ _ _ _ _ _ _ hS3 (by omega) ⟨hl3, by omega⟩ (by omega) (by omega) h2 ⟨(fun b' L' I' J' hh => nomatch hh), fun e' I' J' hh hF hff9 => ?_⟩
          cases hh
          have hff := hff.trans hff9
          refine pw_aload_n dX3_readChoice_51 rfl ?_
          refine pw_bipush (v := nI 58) dX3_readChoice_52 (by decide) ?_
          refine pw_callV (as := [_]) (kc' := 0) (ks' := 0) lX3_106 dX3_readChoice_54 rfl rfl (sh_lt hG (by decide)) (sh_tg hG 6 rfl) (Nat.le_of_ble_eq_true rfl) (by omega) (Nat.le_of_ble_eq_true rfl) (Nat.zero_le _) (Nat.zero_le _) ?_
          refine c_X3_expectF hG hP (by omega) hn9 hb hF (c := 58) (by decide) (by decide) (fun I9 h9 hf9 => ?_)
          have hF := h9
          have hff := hff.trans hf9
          refine pw_aload_n dX3_readChoice_57 rfl ?_
          refine pw_getR fX3_14 dX3_readChoice_58 (sh_lt hG (by decide)) (sh_tg hG 6 rfl) rfl (gr_at hP 9 rfl) ?_
          refine pw_callV (as := []) (kc' := 0) (ks' := 0) lX3_122 dX3_readChoice_61 rfl rfl (sh_lt hG (by decide)) (sh_tg hG 7 rfl) (Nat.le_of_ble_eq_true rfl) (by omega) (Nat.le_of_ble_eq_true rfl) (Nat.zero_le _) (Nat.zero_le _) ?_
          unfold pm_Met
          refine pm_lvs (lv' := [(0, _)]) rfl ?_
          refine pw_aload_n dX0_size_0 rfl ?_
          refine pw_getI fX0_25 dX0_size_1 (sh_lt hG (by decide)) (sh_tg hG 7 rfl) rfl ?_
          refine pw_iret dX0_size_4 rfl ?_
          obtain ⟨z61, hz61, hz62⟩ := hF.2.2.2.2
          refine pw_ti (z := nI z61) hz62 ?_
          refine pw_istore (lv' := [(4, _), (3, _), (2, _), (0, _), (1, _)]) dX3_readChoice_64 (by decide) rfl ?_
          refine pw_aload_n dX3_readChoice_66 rfl ?_
          refine pw_getR fX3_14 dX3_readChoice_67 (sh_lt hG (by decide)) (sh_tg hG 6 rfl) rfl (gr_at hP 9 rfl) ?_
          refine pw_bipush (v := nI 12) dX3_readChoice_70 (by decide) ?_
          refine pw_iload_n dX3_readChoice_72 rfl ?_
          refine pw_callV (as := [_, _]) (kc' := 0) (ks' := 0) lX3_73 dX3_readChoice_73 rfl rfl (sh_lt hG (by decide)) (sh_tg hG 7 rfl) (Nat.le_of_ble_eq_true rfl) (by omega) (Nat.le_of_ble_eq_true rfl) (Nat.zero_le _) (Nat.zero_le _) ?_
          unfold pm_Met
          refine pm_lvs (lv' := [(0, _), (1, _), (2, _)]) rfl ?_
          refine pw_aload_n dX0_add_0 rfl ?_
          refine pw_iload_n dX0_add_1 rfl ?_
          refine pw_iload_n dX0_add_2 rfl ?_
          refine pw_iconst (v := nI 0) dX0_add_3 (by decide) ?_
          refine pw_lconst (v := 0) dX0_add_4 (by decide) ?_
          refine pw_callV (as := [_, _, _, _]) (kc' := 0) (ks' := 0) lX0_32 dX0_add_5 rfl rfl (sh_lt hG (by decide)) (sh_tg hG 7 rfl) (Nat.le_of_ble_eq_true rfl) (by omega) (Nat.le_of_ble_eq_true rfl) (Nat.zero_le _) (Nat.zero_le _) ?_
          refine c_X0_addWithF hG hP hF.2.2.2.2 (fun I9 J9 hz9 hc9 => ?_)
          have hF := hF.cd' hz9 hc9
          have hff := hff.trans (fr8.code hc9)
          refine pw_vret dX0_add_8 rfl ?_
          refine pw_aload_n dX3_readChoice_76 rfl ?_
          refine pw_getR fX3_14 dX3_readChoice_77 (sh_lt hG (by decide)) (sh_tg hG 6 rfl) rfl (gr_at hP 9 rfl) ?_
          refine pw_iload_n dX3_readChoice_80 rfl ?_
          refine pw_callV (as := [_]) (kc' := 0) (ks' := 0) lX3_142 dX3_readChoice_81 rfl rfl (sh_lt hG (by decide)) (sh_tg hG 7 rfl) (Nat.le_of_ble_eq_true rfl) (by omega) (Nat.le_of_ble_eq_true rfl) (Nat.zero_le _) (Nat.zero_le _) ?_
          refine c_X0_aimF hG hP (by omega) hF.2.2.2.2 (by first | omega | (simp only [List.length_append, List.length_cons, List.length_nil] at *; omega)) (fun I9 hz9 hc9 => ?_)
          have hF := hF.cd' hz9 hc9
          have hff := hff.trans (fr8.code hc9)
          refine pw_aload_n dX3_readChoice_84 rfl ?_
          refine pw_callV (as := []) (kc' := 0) (ks' := 0) lX3_99 dX3_readChoice_85 rfl rfl (sh_lt hG (by decide)) (sh_tg hG 6 rfl) (Nat.le_of_ble_eq_true rfl) (by omega) (Nat.le_of_ble_eq_true rfl) (Nat.zero_le _) (Nat.zero_le _) ?_
          refine c_X3_readExprF hG hP (by omega) hn9 hb hF (fun I9 J9 h9 hf9 => ?_)
          have hF := h9
          have hff := hff.trans hf9
          refine pw_aload_n dX3_readChoice_88 rfl ?_
          refine pw_getR fX3_14 dX3_readChoice_89 (sh_lt hG (by decide)) (sh_tg hG 6 rfl) rfl (gr_at hP 9 rfl) ?_
          refine pw_iload dX3_readChoice_92 rfl ?_
          refine pw_callV (as := [_]) (kc' := 0) (ks' := 0) lX3_142 dX3_readChoice_94 rfl rfl (sh_lt hG (by decide)) (sh_tg hG 7 rfl) (Nat.le_of_ble_eq_true rfl) (by omega) (Nat.le_of_ble_eq_true rfl) (Nat.zero_le _) (Nat.zero_le _) ?_
          refine c_X0_aimF hG hP (by omega) hF.2.2.2.2 (by first | omega | (simp only [List.length_append, List.length_cons, List.length_nil] at *; omega)) (fun I9 hz9 hc9 => ?_)
          have hF := hF.cd' hz9 hc9
          have hff := hff.trans (fr8.code hc9)
          refine pw_aload_n dX3_readChoice_97 rfl ?_
          refine pw_dup dX3_readChoice_98 rfl ?_
          refine pw_getI fX3_42 dX3_readChoice_99 (sh_lt hG (by decide)) (sh_tg hG 6 rfl) rfl ?_
          refine pw_iconst (v := nI 1) dX3_readChoice_102 (by decide) ?_
          refine pw_isub dX3_readChoice_103 ?_
          refine pw_putI fX3_42 dX3_readChoice_104 (Or.inl rfl) (by decide) (sh_lt hG (by decide)) (sh_tg hG 6 rfl) rfl ?_
          refine pw_vret dX3_readChoice_107 rfl ?_
          exact pw_vret dX3_readExpr_27 rfl (k.2 _ _ _ he (hF.op' _) (hff.trans (fr8.put (by decide) (by decide))))
        · refine pw_aload_n dX3_readChoice_47 rfl ?_
          refine pw_callV (as := []) (kc' := 0) (ks' := 0) lX3_99 dX3_readChoice_48 rfl rfl (sh_lt hG (by decide)) (sh_tg hG 6 rfl) (Nat.le_of_ble_eq_true rfl) (by omega) (Nat.le_of_ble_eq_true rfl) (Nat.zero_le _) (Nat.zero_le _) ?_
          have hl3 : ((L0 ++ (1, tk_p tx n b, 0, 0) :: L) ++ [(11, tk_p tx n b, 0, 0)]).length ≤ 2 * (b + 1) := by simp only [List.length_append, List.length_cons, List.length_nil] at hlen ⊢; omega
          have g2 := ps_cnt hS3.1 (by omega) (by omega) h2
          have g2' := g2.2.2 (by omega)
          have g2c := ps_60 (by omega) h2
          refine hX _ _ _ _ _ _ _ _ hS3 (by omega) ⟨hl3, by omega⟩ (by omega) (by omega) h2 ⟨fun b' L' I' J' hh hS4 hff9 => ?_, fun e' I' J' hh => nomatch hh⟩
          cases hh
          have hff := hff.trans hff9
          have hl4 : (((L0 ++ (1, tk_p tx n b, 0, 0) :: L) ++ [(11, tk_p tx n b, 0, 0)]) ++ L2).length ≤ 2 * c := by rw [List.length_append]; omega
          refine pw_aload_n dX3_readChoice_51 rfl ?_
          refine pw_bipush (v := nI 58) dX3_readChoice_52 (by decide) ?_
          refine pw_callV (as := [_]) (kc' := 0) (ks' := 0) lX3_106 dX3_readChoice_54 rfl rfl (sh_lt hG (by decide)) (sh_tg hG 6 rfl) (Nat.le_of_ble_eq_true rfl) (by omega) (Nat.le_of_ble_eq_true rfl) (Nat.zero_le _) (Nat.zero_le _) ?_
          refine c_X3_expect hG hP (by omega) hb hS4 g2.2.1 (by omega) (c := 58) (by decide) (fun hq2 I5 hS5 hf5 => ?_) (fun hq2 I5 hF hf5 => ?_)
          · rw [if_pos hq2] at hr
            have hc60 := tk_60 (tx := tx) (n := n) (a := c) (by rw [hq2]; decide) (by rw [hq2]; decide)
            have hcc := tk_cnt hS5.1 (a := c) (by rw [hq2]; decide)
            have hff := hff.trans hf5
            refine pw_aload_n dX3_readChoice_57 rfl ?_
            refine pw_getR fX3_14 dX3_readChoice_58 (sh_lt hG (by decide)) (sh_tg hG 6 rfl) rfl (gr_at hP 9 rfl) ?_
            refine pw_callV (as := []) (kc' := 0) (ks' := 0) lX3_122 dX3_readChoice_61 rfl rfl (sh_lt hG (by decide)) (sh_tg hG 7 rfl) (Nat.le_of_ble_eq_true rfl) (by omega) (Nat.le_of_ble_eq_true rfl) (Nat.zero_le _) (Nat.zero_le _) ?_
            unfold pm_Met
            refine pm_lvs (lv' := [(0, _)]) rfl ?_
            refine pw_aload_n dX0_size_0 rfl ?_
            refine pw_getI fX0_25 dX0_size_1 (sh_lt hG (by decide)) (sh_tg hG 7 rfl) rfl ?_
            refine pw_iret dX0_size_4 rfl ?_
            refine pw_ti (z := nI (((L0 ++ (1, tk_p tx n b, 0, 0) :: L) ++ [(11, tk_p tx n b, 0, 0)]) ++ L2).length) hS5.2.2.2.2.2.1 ?_
            refine pw_istore (lv' := [(4, _), (3, _), (2, _), (0, _), (1, _)]) dX3_readChoice_64 (by decide) rfl ?_
            refine pw_aload_n dX3_readChoice_66 rfl ?_
            refine pw_getR fX3_14 dX3_readChoice_67 (sh_lt hG (by decide)) (sh_tg hG 6 rfl) rfl (gr_at hP 9 rfl) ?_
            refine pw_bipush (v := nI 12) dX3_readChoice_70 (by decide) ?_
            refine pw_iload_n dX3_readChoice_72 rfl ?_
            refine pw_callV (as := [_, _]) (kc' := 0) (ks' := 0) lX3_73 dX3_readChoice_73 rfl rfl (sh_lt hG (by decide)) (sh_tg hG 7 rfl) (Nat.le_of_ble_eq_true rfl) (by omega) (Nat.le_of_ble_eq_true rfl) (Nat.zero_le _) (Nat.zero_le _) ?_
            unfold pm_Met
            refine pm_lvs (lv' := [(0, _), (1, _), (2, _)]) rfl ?_
            refine pw_aload_n dX0_add_0 rfl ?_
            refine pw_iload_n dX0_add_1 rfl ?_
            refine pw_iload_n dX0_add_2 rfl ?_
            refine pw_iconst (v := nI 0) dX0_add_3 (by decide) ?_
            refine pw_lconst (v := 0) dX0_add_4 (by decide) ?_
            refine pw_callV (as := [_, _, _, _]) (kc' := 0) (ks' := 0) lX0_32 dX0_add_5 rfl rfl (sh_lt hG (by decide)) (sh_tg hG 7 rfl) (Nat.le_of_ble_eq_true rfl) (by omega) (Nat.le_of_ble_eq_true rfl) (Nat.zero_le _) (Nat.zero_le _) ?_
            refine c_X0_addWith hG hP hS5.2.2.2.2.2 (by omega) (x := 12) (c := 0) (fun I6 J6 hc6 hf6 => ?_)
            have hS6 := hS5.cd' hc6 hf6
            have hff := hff.trans (fr8.code hf6)
            rw [show ((L0 ++ (1, tk_p tx n b, 0, 0) :: L) ++ [(11, tk_p tx n b, 0, 0)]) ++ L2 ++ [(12, tk_p tx n b, 0, 0)] = (L0 ++ (1, tk_p tx n b, 0, 0) :: L) ++ (11, tk_p tx n b, 0, 0) :: (L2 ++ [(12, tk_p tx n b, 0, 0)]) by simp] at hS6
            refine pw_vret dX0_add_8 rfl ?_
            refine pw_aload_n dX3_readChoice_76 rfl ?_
            refine pw_getR fX3_14 dX3_readChoice_77 (sh_lt hG (by decide)) (sh_tg hG 6 rfl) rfl (gr_at hP 9 rfl) ?_
            refine pw_iload_n dX3_readChoice_80 rfl ?_
            refine pw_callV (as := [_]) (kc' := 0) (ks' := 0) lX3_142 dX3_readChoice_81 rfl rfl (sh_lt hG (by decide)) (sh_tg hG 7 rfl) (Nat.le_of_ble_eq_true rfl) (by omega) (Nat.le_of_ble_eq_true rfl) (Nat.zero_le _) (Nat.zero_le _) ?_
            refine c_X0_aim hG hP (by omega) hS6.2.2.2.2.2 (by simp only [List.length_append, List.length_cons, List.length_nil] at hl4 ⊢; omega) rfl (fun I7 hc7 hf7 => ?_)
            have hS7 := hS6.cd' hc7 hf7
            have hff := hff.trans (fr8.code hf7)
            refine pw_aload_n dX3_readChoice_84 rfl ?_
            refine pw_callV (as := []) (kc' := 0) (ks' := 0) lX3_99 dX3_readChoice_85 rfl rfl (sh_lt hG (by decide)) (sh_tg hG 6 rfl) (Nat.le_of_ble_eq_true rfl) (by omega) (Nat.le_of_ble_eq_true rfl) (Nat.zero_le _) (Nat.zero_le _) ?_
            have hl7 : ((L0 ++ (1, tk_p tx n b, 0, 0) :: L) ++ (11, tk_p tx n b, nI (L2 ++ [(12, tk_p tx n b, 0, 0)] : List dD).length, 0) :: (L2 ++ [(12, tk_p tx n b, 0, 0)])).length ≤ 2 * (c + 1) := by simp only [List.length_append, List.length_cons, List.length_nil] at hl4 ⊢; omega
            rcases pb_so hr with ⟨e, h3, he⟩ | ⟨e3, L3, h3, hr⟩
            · refine hX _ _ _ _ _ _ _ _ hS7 (by omega) ⟨hl7, by omega⟩ (by omega) (by omega) h3 ⟨(fun b' L' I' J' hh => nomatch hh), fun e' I' J' hh hF hff9 => ?_⟩
              cases hh
              have hff := hff.trans hff9
              refine pw_aload_n dX3_readChoice_88 rfl ?_
              refine pw_getR fX3_14 dX3_readChoice_89 (sh_lt hG (by decide)) (sh_tg hG 6 rfl) rfl (gr_at hP 9 rfl) ?_
              refine pw_iload dX3_readChoice_92 rfl ?_
              refine pw_callV (as := [_]) (kc' := 0) (ks' := 0) lX3_142 dX3_readChoice_94 rfl rfl (sh_lt hG (by decide)) (sh_tg hG 7 rfl) (Nat.le_of_ble_eq_true rfl) (by omega) (Nat.le_of_ble_eq_true rfl) (Nat.zero_le _) (Nat.zero_le _) ?_
              refine c_X0_aimF hG hP (by omega) hF.2.2.2.2 (by first | omega | (simp only [List.length_append, List.length_cons, List.length_nil] at *; omega)) (fun I9 hz9 hc9 => ?_)
              have hF := hF.cd' hz9 hc9
              have hff := hff.trans (fr8.code hc9)
              refine pw_aload_n dX3_readChoice_97 rfl ?_
              refine pw_dup dX3_readChoice_98 rfl ?_
              refine pw_getI fX3_42 dX3_readChoice_99 (sh_lt hG (by decide)) (sh_tg hG 6 rfl) rfl ?_
              refine pw_iconst (v := nI 1) dX3_readChoice_102 (by decide) ?_
              refine pw_isub dX3_readChoice_103 ?_
              refine pw_putI fX3_42 dX3_readChoice_104 (Or.inl rfl) (by decide) (sh_lt hG (by decide)) (sh_tg hG 6 rfl) rfl ?_
              refine pw_vret dX3_readChoice_107 rfl ?_
              exact pw_vret dX3_readExpr_27 rfl (k.2 _ _ _ he (hF.op' _) (hff.trans (fr8.put (by decide) (by decide))))
            · have g3 := ps_cnt hS7.1 (by omega) (by omega) h3
              have g3' := g3.2.2 (by omega)
              have g3c := ps_60 (by omega) h3
              refine hX _ _ _ _ _ _ _ _ hS7 (by omega) ⟨hl7, by omega⟩ (by omega) (by omega) h3 ⟨fun b' L' I' J' hh hS8 hff9 => ?_, fun e' I' J' hh => nomatch hh⟩
              cases hh
              have hff := hff.trans hff9
              rw [show ((L0 ++ (1, tk_p tx n b, 0, 0) :: L) ++ (11, tk_p tx n b, nI (L2 ++ [(12, tk_p tx n b, 0, 0)] : List dD).length, 0) :: (L2 ++ [(12, tk_p tx n b, 0, 0)])) ++ L3 = ((L0 ++ (1, tk_p tx n b, 0, 0) :: L) ++ (11, tk_p tx n b, nI (L2.length + 1), 0) :: L2) ++ (12, tk_p tx n b, 0, 0) :: L3 by simp] at hS8
              have hl8 : (((L0 ++ (1, tk_p tx n b, 0, 0) :: L) ++ (11, tk_p tx n b, nI (L2.length + 1), 0) :: L2) ++ (12, tk_p tx n b, 0, 0) :: L3).length ≤ 120 := by
                have he3 : e3 ≤ 60 := g3c
                simp only [List.length_append, List.length_cons, List.length_nil] at hl7 ⊢
                omega
              refine pw_aload_n dX3_readChoice_88 rfl ?_
              refine pw_getR fX3_14 dX3_readChoice_89 (sh_lt hG (by decide)) (sh_tg hG 6 rfl) rfl (gr_at hP 9 rfl) ?_
              refine pw_iload dX3_readChoice_92 rfl ?_
              refine pw_callV (as := [_]) (kc' := 0) (ks' := 0) lX3_142 dX3_readChoice_94 rfl rfl (sh_lt hG (by decide)) (sh_tg hG 7 rfl) (Nat.le_of_ble_eq_true rfl) (by omega) (Nat.le_of_ble_eq_true rfl) (Nat.zero_le _) (Nat.zero_le _) ?_
              refine c_X0_aim hG hP (by omega) hS8.2.2.2.2.2 (by omega) (by simp only [List.length_append, List.length_cons, List.length_nil]; omega) (fun I8 hc8 hf8 => ?_)
              have hS9 := hS8.cd' hc8 hf8
              have hff := hff.trans (fr8.code hf8)
              refine pw_aload_n dX3_readChoice_97 rfl ?_
              refine pw_dup dX3_readChoice_98 rfl ?_
              refine pw_getI fX3_42 dX3_readChoice_99 (sh_lt hG (by decide)) (sh_tg hG 6 rfl) rfl ?_
              refine pw_iconst (v := nI 1) dX3_readChoice_102 (by decide) ?_
              refine pw_isub dX3_readChoice_103 ?_
              refine pw_ti (z := nI op) (by rw [hS9.2.2.2.1]; exact nI_pred op) ?_
              refine pw_putI fX3_42 dX3_readChoice_104 (Or.inl rfl) (by decide) (sh_lt hG (by decide)) (sh_tg hG 6 rfl) rfl ?_
              refine pw_vret dX3_readChoice_107 rfl ?_
              exact pw_vret dX3_readExpr_27 rfl (k.1 _ _ _ _ (Option.some.inj hr).symm (by have h9 := hS9.op' op; rw [show ((L0 ++ (1, tk_p tx n b, 0, 0) :: L) ++ (11, tk_p tx n b, nI (L2.length + 1), 0) :: L2) ++ (12, tk_p tx n b, nI L3.length, 0) :: L3 = L0 ++ (1, tk_p tx n b, 0, 0) :: (L ++ (11, tk_p tx n b, nI (L2.length + 1), 0) :: (L2 ++ (12, tk_p tx n b, nI L3.length, 0) :: L3)) by simp] at h9; exact h9) (hff.trans (fr8.put (by decide) (by decide))))
          · rw [if_neg hq2] at hr
            have he : r = .error c := (Option.some.inj hr).symm
            have hff := hff.trans hf5
            refine pw_aload_n dX3_readChoice_57 rfl ?_
            refine pw_getR fX3_14 dX3_readChoice_58 (sh_lt hG (by decide)) (sh_tg hG 6 rfl) rfl (gr_at hP 9 rfl) ?_
            refine pw_callV (as := []) (kc' := 0) (ks' := 0) lX3_122 dX3_readChoice_61 rfl rfl (sh_lt hG (by decide)) (sh_tg hG 7 rfl) (Nat.le_of_ble_eq_true rfl) (by omega) (Nat.le_of_ble_eq_true rfl) (Nat.zero_le _) (Nat.zero_le _) ?_
            unfold pm_Met
            refine pm_lvs (lv' := [(0, _)]) rfl ?_
            refine pw_aload_n dX0_size_0 rfl ?_
            refine pw_getI fX0_25 dX0_size_1 (sh_lt hG (by decide)) (sh_tg hG 7 rfl) rfl ?_
            refine pw_iret dX0_size_4 rfl ?_
            obtain ⟨z61, hz61, hz62⟩ := hF.2.2.2.2
            refine pw_ti (z := nI z61) hz62 ?_
            refine pw_istore (lv' := [(4, _), (3, _), (2, _), (0, _), (1, _)]) dX3_readChoice_64 (by decide) rfl ?_
            refine pw_aload_n dX3_readChoice_66 rfl ?_
            refine pw_getR fX3_14 dX3_readChoice_67 (sh_lt hG (by decide)) (sh_tg hG 6 rfl) rfl (gr_at hP 9 rfl) ?_
            refine pw_bipush (v := nI 12) dX3_readChoice_70 (by decide) ?_
            refine pw_iload_n dX3_readChoice_72 rfl ?_
            refine pw_callV (as := [_, _]) (kc' := 0) (ks' := 0) lX3_73 dX3_readChoice_73 rfl rfl (sh_lt hG (by decide)) (sh_tg hG 7 rfl) (Nat.le_of_ble_eq_true rfl) (by omega) (Nat.le_of_ble_eq_true rfl) (Nat.zero_le _) (Nat.zero_le _) ?_
            unfold pm_Met
            refine pm_lvs (lv' := [(0, _), (1, _), (2, _)]) rfl ?_
            refine pw_aload_n dX0_add_0 rfl ?_
            refine pw_iload_n dX0_add_1 rfl ?_
            refine pw_iload_n dX0_add_2 rfl ?_
            refine pw_iconst (v := nI 0) dX0_add_3 (by decide) ?_
            refine pw_lconst (v := 0) dX0_add_4 (by decide) ?_
            refine pw_callV (as := [_, _, _, _]) (kc' := 0) (ks' := 0) lX0_32 dX0_add_5 rfl rfl (sh_lt hG (by decide)) (sh_tg hG 7 rfl) (Nat.le_of_ble_eq_true rfl) (by omega) (Nat.le_of_ble_eq_true rfl) (Nat.zero_le _) (Nat.zero_le _) ?_
            refine c_X0_addWithF hG hP hF.2.2.2.2 (fun I9 J9 hz9 hc9 => ?_)
            have hF := hF.cd' hz9 hc9
            have hff := hff.trans (fr8.code hc9)
            refine pw_vret dX0_add_8 rfl ?_
            refine pw_aload_n dX3_readChoice_76 rfl ?_
            refine pw_getR fX3_14 dX3_readChoice_77 (sh_lt hG (by decide)) (sh_tg hG 6 rfl) rfl (gr_at hP 9 rfl) ?_
            refine pw_iload_n dX3_readChoice_80 rfl ?_
            refine pw_callV (as := [_]) (kc' := 0) (ks' := 0) lX3_142 dX3_readChoice_81 rfl rfl (sh_lt hG (by decide)) (sh_tg hG 7 rfl) (Nat.le_of_ble_eq_true rfl) (by omega) (Nat.le_of_ble_eq_true rfl) (Nat.zero_le _) (Nat.zero_le _) ?_
            refine c_X0_aimF hG hP (by omega) hF.2.2.2.2 (by first | omega | (simp only [List.length_append, List.length_cons, List.length_nil] at *; omega)) (fun I9 hz9 hc9 => ?_)
            have hF := hF.cd' hz9 hc9
            have hff := hff.trans (fr8.code hc9)
            refine pw_aload_n dX3_readChoice_84 rfl ?_
            refine pw_callV (as := []) (kc' := 0) (ks' := 0) lX3_99 dX3_readChoice_85 rfl rfl (sh_lt hG (by decide)) (sh_tg hG 6 rfl) (Nat.le_of_ble_eq_true rfl) (by omega) (Nat.le_of_ble_eq_true rfl) (Nat.zero_le _) (Nat.zero_le _) ?_
            refine c_X3_readExprF hG hP (by omega) hn9 hb hF (fun I9 J9 h9 hf9 => ?_)
            have hF := h9
            have hff := hff.trans hf9
            refine pw_aload_n dX3_readChoice_88 rfl ?_
            refine pw_getR fX3_14 dX3_readChoice_89 (sh_lt hG (by decide)) (sh_tg hG 6 rfl) rfl (gr_at hP 9 rfl) ?_
            refine pw_iload dX3_readChoice_92 rfl ?_
            refine pw_callV (as := [_]) (kc' := 0) (ks' := 0) lX3_142 dX3_readChoice_94 rfl rfl (sh_lt hG (by decide)) (sh_tg hG 7 rfl) (Nat.le_of_ble_eq_true rfl) (by omega) (Nat.le_of_ble_eq_true rfl) (Nat.zero_le _) (Nat.zero_le _) ?_
            refine c_X0_aimF hG hP (by omega) hF.2.2.2.2 (by first | omega | (simp only [List.length_append, List.length_cons, List.length_nil] at *; omega)) (fun I9 hz9 hc9 => ?_)
            have hF := hF.cd' hz9 hc9
            have hff := hff.trans (fr8.code hc9)
            refine pw_aload_n dX3_readChoice_97 rfl ?_
            refine pw_dup dX3_readChoice_98 rfl ?_
            refine pw_getI fX3_42 dX3_readChoice_99 (sh_lt hG (by decide)) (sh_tg hG 6 rfl) rfl ?_
            refine pw_iconst (v := nI 1) dX3_readChoice_102 (by decide) ?_
            refine pw_isub dX3_readChoice_103 ?_
            refine pw_putI fX3_42 dX3_readChoice_104 (Or.inl rfl) (by decide) (sh_lt hG (by decide)) (sh_tg hG 6 rfl) rfl ?_
            refine pw_vret dX3_readChoice_107 rfl ?_
            exact pw_vret dX3_readExpr_27 rfl (k.2 _ _ _ he (hF.op' _) (hff.trans (fr8.put (by decide) (by decide))))
      · rw [if_pos hge] at hr
        refine pw_if_ne (tgt := 20) dX3_readChoice_16 (by decide) (fun h => absurd (by decide) h) (fun hX3_readChoice_16 => ?_)
        refine pw_vret dX3_readChoice_19 rfl ?_
        exact pw_vret dX3_readExpr_27 rfl (k.2 b _ _ (Option.some.inj hr).symm hF (hff.trans hf1))
    · rw [if_neg hq0] at hr
      refine pw_if_eq (tgt := 27) dX3_readExpr_19 (by decide) (fun h19 => ?_) (fun h => absurd (by decide) h)
      exact pw_vret dX3_readExpr_27 rfl (k.1 b L _ _ (Option.some.inj hr).symm hS hff)
