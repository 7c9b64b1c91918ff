/-- NAMES behind a TEXT's TOKENS -/
def rnN (A : aS) (tx : Nat → Nat) (n : Nat) : List Int64 := nmF (tk_k tx n) (tk_v tx n) A.ns 62
/-- the SNIPPET that comes -/
def rnX (A : aS) (form : Nat) (dec : Int64) (pa : List Int64) (T : eX) (tx : Nat → Nat) (n : Nat) : sN := (form, dec, pa, T, A.ed dec + 1, (List.range n).map tx)
/-- the answer of what is KEPT -/
def rnA (A : aS) (form : Nat) : Int32 := if form = 0 then nI (A.rs.length + 1) else nI 0
/-- a SNIPPET without a VALUE to work out -/
abbrev rn7 (form : Nat) (L : List dD) : Prop := ¬ (form ≤ 1 ∧ L ≠ [(7, 0, 0, 0)])
def rnE (A : aS) (form : Nat) (dec : Int64) (pa : List Int64) (T : eX) (tx : Nat → Nat) (n : Nat) (r : evR) : Int32 × aS := match r with
  | .error e => (-200 - nI e, A)
  | .ok (v, _, t) => (rnA A form, A.kp (rnX A form dec pa T tx n) v t)
/-- behind the reading and the numbering -/
def rnK (A : aS) (form : Nat) (dec : Int64) (pa : List Int64) (L : List dD) (T : eX) (tx : Nat → Nat) (n : Nat) : Int32 × aS :=
  if rn7 form L then (rnA A form, A.kp (rnX A form dec pa T tx n) (0, 0) A.th) else rnE A form dec pa T tx n (evT A (evC A 20) 0 [] T 0 A.th)
/-- the room for THINGS behind it -/
def rnM (A : aS) (form : Nat) (L : List dD) (T : eX) (m : Nat) : Nat := if rn7 form L then m else rmT A (evC A 20) (rmC A 20) 0 [] T 0 A.th m
/-- T is the tree of what was read -/
def rnT (A : aS) (form : Nat) (pa : List Int64) (L : List dD) (T : eX) : Prop := (form ≤ 2 ∧ (form ≤ 1 → pa = []) ∧ wt pa (· ∈ A.ns) T ∧ L.map dPl = cp id T) ∨ (form = 1 ∧ pa = [] ∧ L = [(7, 0, 0, 0)]) ∨ (form = 3 ∧ L = [])
theorem rn_kO {A : aS} {form n : Nat} {dec : Int64} {pa : List Int64} {L : List dD} {T : eX} {tx : Nat → Nat} {v : vV} {t : List tH} (hsl : A.sn.length < 40) (hf3 : form ≤ 3) (hp3 : pa.length ≤ 3) (hdn : form ≠ 0 → dec ∈ A.ns) (hpn : ∀ v ∈ pa, v ∈ A.ns) (hR : rnT A form pa L T) (hv : vO t.length v) (ht : tO A t) (hp : A.th <+: t) (hl : t.length ≤ A.th.length + 400) : kO A (rnX A form dec pa T tx n) v t := by
  refine ⟨hsl, hf3, hp3, hdn, hpn, fun q => ?_, fun _ => rfl, hv, ht, hp, hl⟩
  have q : form = 2 := q
  rcases hR with h | h | h
  · exact h.2.2.1
  · exact absurd h.1 (by omega)
  · exact absurd h.1 (by omega)
theorem rnT.lt {A : aS} {form : Nat} {pa : List Int64} {L : List dD} {T : eX} (h : rnT A form pa L T) : ∀ x ∈ L, x.1 < 128 := by
  intro x hx
  rcases h with h | h | h
  · exact cp_lt T h.2.2.1 (dPl x) (h.2.2.2 ▸ List.mem_map_of_mem hx)
  · rw [h.2.2] at hx
    cases List.mem_singleton.mp hx
    exact (by decide : (7 : Nat) < 128)
  · rw [h.2] at hx
    cases hx
theorem rnT.dn {A : aS} {form : Nat} {pa : List Int64} {L : List dD} {T : eX} (h : rnT A form pa L T) : ∀ x ∈ L, dN x.1 → x.2.2.2 ∈ A.ns := by
  intro x hx hd
  rcases h with h | h | h
  · exact cp_dn T h.2.2.1 (dPl x) (h.2.2.2 ▸ List.mem_map_of_mem hx) hd
  · rw [h.2.2] at hx
    cases List.mem_singleton.mp hx
    exact absurd hd (by show ¬ ((7 : Nat) = 5 ∨ (7 : Nat) = 6 ∨ (7 : Nat) = 8 ∨ (7 : Nat) = 9); decide)
  · rw [h.2] at hx
    cases hx
theorem rnT.n7 {A : aS} {form : Nat} {pa : List Int64} {L : List dD} {T : eX} (hw : wt pa (· ∈ A.ns) T) (hL : L.map dPl = cp id T) : L ≠ [(7, 0, 0, 0)] := by
  rintro rfl
  obtain ⟨x, r, h1, h2, h3⟩ := cp_hd T hw
  rw [h1] at hL
  have e : ((7, 0, 0) : dE) = x := (List.cons.inj hL).1
  subst e
  exact absurd h3 (by decide)
theorem rnT.cp {A : aS} {form : Nat} {pa : List Int64} {L : List dD} {T : eX} (hw : wt pa (· ∈ A.ns) T) (hL : L.map dPl = cp id T) : ((L ++ [(13, 0, 0, 0)]).map dPl).map (nuD (hN A.ns)) = cp (hN A.ns) T ++ [(13, 0, 0)] := by
  rw [List.map_append, List.map_append, hL, cp_nu T hw]
  rfl
theorem cA.b {S : pmS} {I : pmI} {J : pmJ} {P : pmP} {A : aS} {Z : Nat → Nat} {b b' s0 : Nat} (h : cA S I J P A Z b) (hz : ∀ s, s < A.sn.length → Z s + 8 ≤ s0) (hb : b' = b ∨ s0 ≤ b') : cA S I J P A Z b' := by
  rcases hb with rfl | hb
  · exact h
  · refine ⟨h.1, h.2.1, h.2.2.1, h.2.2.2.1, h.2.2.2.2.1, fun s hs => ?_⟩
    obtain ⟨g1, g2, g3⟩ := h.sn hs
    have := hz s hs
    exact ⟨g1, g2, by omega⟩
/-- the class behind the numbering -/
def rwS (S : pmS) (I : pmI) (J : pmJ) (P : pmP) (A : aS) (Z : Nat → Nat) (b m n : Nat) (tx : Nat → Nat) (form : Nat) (dec : Int64) (pa : List Int64) (L : List dD) : Prop := cA S I J P A Z b ∧ tC S I J P A A.th b m ∧ kC S I J P 9 121 (((L ++ [(13, 0, 0, 0)]).map dPl).map (nuD (hN A.ns))) ∧ I 8 4 = nI form ∧ (form ≠ 0 → J 8 5 = hN A.ns dec) ∧ I 8 3 = nI pa.length ∧ (∀ (j : Nat) (v : Int64), pa[j]? = some v → J 14 j = hN A.ns v) ∧ tX I 3 tx n ∧ I 2 5 = nI n ∧ I 41 0 = nI 0 ∧ I 41 4 = nI 0
set_option maxRecDepth 20000 in
set_option maxHeartbeats 800000 in
theorem c_rwf3 {l : Launch} {E : pmE} {d : Nat} {S : pmS} {I : pmI} {J : pmJ} {P : pmP} {Q : Option Value → pmS → pmI → pmJ → pmP → Prop} (hG : sh_St S) (hP : gr_St P) (hd : 14 ≤ d) {A : aS} {Z : Nat → Nat} {b m n form : Nat} {tx : Nat → Nat} {dec : Int64} {pa : List Int64} {L : List dD} {T : eX} (hb6 : b = 22 ∨ 96 ≤ b) (hO : aO A) (hsl : A.sn.length < 40) (hn : n ≤ 120) (hb8 : ∀ j, j < n → tx j < 128) (hf3 : form ≤ 3) (hp3 : pa.length ≤ 3) (hdn : form ≠ 0 → dec ∈ A.ns) (hpn : ∀ v ∈ pa, v ∈ A.ns) (hR : rnT A form pa L T) (hs : rwS S I J P A Z b m n tx form dec pa L) (hf2 : 2 ≤ form) (k : ∀ S' I' J' P' Z' b', sh_St S' → gr_St P' → (b' = 22 ∨ 96 ≤ b') → oF I J P I' J' P' → cA S' I' J' P' (rnK A form dec pa L T tx n).2 Z' b' → aO (rnK A form dec pa L T tx n).2 → tC S' I' J' P' (rnK A form dec pa L T tx n).2 (rnK A form dec pa L T tx n).2.th b' (rnM A form L T m) → Q (some (.int (rnK A form dec pa L T tx n).1)) S' I' J' P') : pm_W l E yX9_runWithoutFault cX9_runWithoutFault 2 (some .int) d (rnM A form L T m - m + 8) (18 * (rnM A form L T m - m) + 620) 36 [(1, .int (nI form)), (0, .ref 2)] [] S I J P (pm_N E Q) := by
  obtain ⟨hc, ht, h9, hf, hdc, h83, hpa, hTx, h25, h410, h414⟩ := hs
  have h96 := hG.1
  have hbd := ht.bd
  have h7 : rn7 form L := fun q => absurd q.1 (by omega)
  have hkO := rn_kO (dec := dec) (tx := tx) (n := n) hsl hf3 hp3 hdn hpn hR (vO_no (m := A.th.length)) hO.2.2.2.2.2.2.2.2.1 (List.prefix_refl _) (by omega)
  have eK : rnK A form dec pa L T tx n = (rnA A form, A.kp (rnX A form dec pa T tx n) (0, 0) A.th) := if_pos h7
  have eM : rnM A form L T m = m := if_pos h7
  rw [eK, eM] at k
  rw [eM]
  refine pw_iload_n dX9_runWithoutFault_36 rfl ?_
  refine pw_ifN_eq _ (tgt := 45) dX9_runWithoutFault_37 (by decide) (rfl) (by omega) (fun h37 => absurd h37 (by omega)) (fun h37 => ?_)
  refine pw_iload_n dX9_runWithoutFault_40 rfl ?_
  refine pw_iconst (v := nI 1) dX9_runWithoutFault_41 (by decide) ?_
  refine pw_icmpN_ne _ _ (tgt := 81) dX9_runWithoutFault_42 (by decide) (rfl) (rfl) (by omega) (by omega) (fun h42 => ?_) (fun h42 => absurd h42 (by omega))
  refine pw_more (by omega) (by omega) (c_tail2 (x := rnX A form dec pa T tx n) (v := (0, 0)) (t := A.th) hG hP (by omega) hc hO hkO ht h9 (fun q => ?_) hf hdc h83 hpa hTx h25 hn hb8 rfl hf2 (fun S' I' J' P' Z' a g1 g2 g3 g4 go g5 => ?_))
  · rcases hR with h | h | h
    · exact rnT.cp (form := form) h.2.2.1 h.2.2.2
    · exact absurd h.1 (by omega)
    · exact absurd h.1 (by have q : form = 2 := q; omega)
  · rw [show a = rnA A form from g5]
    exact k S' I' J' P' Z' b g1 g2 hb6 go g3 (hO.kp hkO) g4
set_option maxRecDepth 20000 in
set_option maxHeartbeats 800000 in
theorem c_rwf2 {l : Launch} {E : pmE} {d : Nat} {S : pmS} {I : pmI} {J : pmJ} {P : pmP} {Q : Option Value → pmS → pmI → pmJ → pmP → Prop} (hG : sh_St S) (hP : gr_St P) (hd : 14 ≤ d) {A : aS} {Z : Nat → Nat} {b m n form : Nat} {tx : Nat → Nat} {dec : Int64} {pa : List Int64} {L : List dD} {T : eX} (hb6 : b = 22 ∨ 96 ≤ b) (hO : aO A) (hsl : A.sn.length < 40) (hn : n ≤ 120) (hb8 : ∀ j, j < n → tx j < 128) (hf3 : form ≤ 3) (hp3 : pa.length ≤ 3) (hdn : form ≠ 0 → dec ∈ A.ns) (hpn : ∀ v ∈ pa, v ∈ A.ns) (hR : rnT A form pa L T) (hs : rwS S I J P A Z b m n tx form dec pa L) (hf1 : form = 1) (hL7 : L = [(7, 0, 0, 0)]) (hpe : pa = []) (k : ∀ S' I' J' P' Z' b', sh_St S' → gr_St P' → (b' = 22 ∨ 96 ≤ b') → oF I J P I' J' P' → cA S' I' J' P' (rnK A form dec pa L T tx n).2 Z' b' → aO (rnK A form dec pa L T tx n).2 → tC S' I' J' P' (rnK A form dec pa L T tx n).2 (rnK A form dec pa L T tx n).2.th b' (rnM A form L T m) → Q (some (.int (rnK A form dec pa L T tx n).1)) S' I' J' P') : pm_W l E yX9_runWithoutFault cX9_runWithoutFault 2 (some .int) d (rnM A form L T m - m + 8) (18 * (rnM A form L T m - m) + 620) 36 [(1, .int (nI form)), (0, .ref 2)] [] S I J P (pm_N E Q) := by
  obtain ⟨hc, ht, h9, hf, hdc, h83, hpa, hTx, h25, h410, h414⟩ := hs
  have h96 := hG.1
  have hbd := ht.bd
  have h7 : rn7 form L := fun q => q.2 hL7
  have hkO := rn_kO (dec := dec) (tx := tx) (n := n) hsl hf3 hp3 hdn hpn hR (vO_no (m := A.th.length)) hO.2.2.2.2.2.2.2.2.1 (List.prefix_refl _) (by omega)
  have eK : rnK A form dec pa L T tx n = (rnA A form, A.kp (rnX A form dec pa T tx n) (0, 0) A.th) := if_pos h7
  have eM : rnM A form L T m = m := if_pos h7
  rw [eK, eM] at k
  rw [eM]
  have h9' : kC S I J P 9 121 [(7, 0, 0), (13, 0, 0)] := by rw [hL7] at h9; exact h9
  have hth : A.th.length ≤ 15600 := by have := hO.2.2.2.2.2.2.2.2.2.1; omega
  refine pw_iload_n dX9_runWithoutFault_36 rfl ?_
  refine pw_ifN_eq _ (tgt := 45) dX9_runWithoutFault_37 (by decide) (rfl) (by omega) (fun h37 => absurd h37 (by omega)) (fun h37 => ?_)
  refine pw_iload_n dX9_runWithoutFault_40 rfl ?_
  refine pw_iconst (v := nI 1) dX9_runWithoutFault_41 (by decide) ?_
  refine pw_icmpN_ne _ _ (tgt := 81) dX9_runWithoutFault_42 (by decide) (rfl) (rfl) (by omega) (by omega) (fun h42 => absurd h42 (by omega)) (fun h42 => ?_)
  refine pw_aload_n dX9_runWithoutFault_45 rfl ?_
  refine pw_getR fX9_41 dX9_runWithoutFault_46 (sh_lt hG (by decide)) (sh_tg hG 0 rfl) rfl (gr_at hP 4 rfl) ?_
  refine pw_aload_n dX9_runWithoutFault_49 rfl ?_
  refine pw_getR fX9_25 dX9_runWithoutFault_50 (sh_lt hG (by decide)) (sh_tg hG 0 rfl) rfl (gr_at hP 2 rfl) ?_
  refine pw_callV (as := []) (kc' := 0) (ks' := 0) lX9_201 dX9_runWithoutFault_53 rfl rfl (sh_lt hG (by decide)) (sh_tg hG 6 rfl) (Nat.le_of_ble_eq_true rfl) (by omega) (Nat.le_of_ble_eq_true rfl) (Nat.zero_le _) (Nat.zero_le _) ?_
  unfold pm_Met
  refine pm_lvs (lv' := [(0, _)]) rfl ?_
  refine pw_aload_n dX3_code_0 rfl ?_
  refine pw_getR fX3_14 dX3_code_1 (sh_lt hG (by decide)) (sh_tg hG 6 rfl) rfl (gr_at hP 9 rfl) ?_
  refine pw_aret (r := some 9) dX3_code_4 rfl (by first | exact Or.inl ⟨_, rfl⟩ | exact Or.inr ⟨_, rfl⟩) ?_
  refine pw_callV (as := [_]) (kc' := 0) (ks' := 0) lX9_205 dX9_runWithoutFault_56 rfl rfl (sh_lt hG (by decide)) (sh_tg hG 32 rfl) (Nat.le_of_ble_eq_true rfl) (by omega) (Nat.le_of_ble_eq_true rfl) (Nat.zero_le _) (Nat.zero_le _) ?_
  refine c_X1_workN hG hP (by omega) ht h414 h410 hth ⟨⟨121, h9'⟩, Or.inl rfl, by omega⟩ (fun S1 I1 J1 P1 hw hv => ?_)
  obtain ⟨g1, g2, g3, g4, g5, g6⟩ := hw
  have hG := g1
  have hP := g2
  have hc1 := (hc.mv g3 ⟨by omega, hbd.2, hbd.1⟩)
  have ew : ∀ a, (a < 15 ∨ 41 < a) → a < b → I1 a = I a ∧ J1 a = J a ∧ P1 a = P a := fun a ha hab => g3.2.2 a ⟨by omega, by omega, by omega, by omega⟩ (by omega)
  have e2 := ew 2 (by decide) (by omega)
  have e3 := ew 3 (by decide) (by omega)
  have e8 := ew 8 (by decide) (by omega)
  have e14 := ew 14 (by decide) (by omega)
  have h91 := h9.mv g3.1 g3.2.1 (fun a h1 h2 => ew a (by omega) (by omega))
  refine pw_aload_n dX9_runWithoutFault_59 rfl ?_
  refine pw_getR fX9_41 dX9_runWithoutFault_60 (sh_lt hG (by decide)) (sh_tg hG 0 rfl) rfl (gr_at hP 4 rfl) ?_
  refine pw_callV (as := []) (kc' := 0) (ks' := 0) lX9_209 dX9_runWithoutFault_63 rfl rfl (sh_lt hG (by decide)) (sh_tg hG 32 rfl) (Nat.le_of_ble_eq_true rfl) (by omega) (Nat.le_of_ble_eq_true rfl) (Nat.zero_le _) (Nat.zero_le _) ?_
  unfold pm_Met
  refine pm_lvs (lv' := [(0, _)]) rfl ?_
  refine pw_aload_n dX1_failure_0 rfl ?_
  refine pw_getR fX1_31 dX1_failure_1 (sh_lt hG (by decide)) (sh_tg hG 32 rfl) rfl (gr_at hP 33 rfl) ?_
  refine pw_iconst (v := nI 0) dX1_failure_4 (by decide) ?_
  refine pw_ialdN 0 dX1_failure_5 (sh_lt hG (by decide)) (sh_sh hG 39 rfl) (by decide) (by decide) (by decide) ?_
  refine pw_iret dX1_failure_6 rfl ?_
  refine pw_ti (z := nI 0) g6 ?_
  refine pw_if_eq (tgt := 81) dX9_runWithoutFault_66 (by decide) (fun h66 => ?_) (fun h => absurd (by decide) h)
  refine pw_more (by omega) (by omega) (c_tail1 (x := rnX A form dec pa T tx n) (v := (0, 0)) (t := A.th) hG hP (by omega) hc1 hO hkO g5 h91 (fun q => absurd (show form = 2 from q) (by omega)) (by rw [e8.1]; exact hf) (fun q => by rw [e8.2.1]; exact hdc q) (by rw [e8.1]; exact h83) (fun j v hj => by rw [e14.2.1]; exact hpa j v hj) (fun j hj => by rw [e3.1]; exact hTx j hj) (by rw [e2.1]; exact h25) hn hb8 rfl (show form ≤ 1 by omega) hv (fun S' I' J' P' Z' a q1 q2 q3 q4 qo q5 => ?_))
  rw [show a = rnA A form from q5]
  exact k S' I' J' P' Z' b q1 q2 hb6 ((g3.oF h96 hb6).trans qo) q3 (hO.kp hkO) q4
set_option maxRecDepth 20000 in
set_option maxHeartbeats 800000 in
theorem c_rwf1 {l : Launch} {E : pmE} {d : Nat} {S : pmS} {I : pmI} {J : pmJ} {P : pmP} {Q : Option Value → pmS → pmI → pmJ → pmP → Prop} (hG : sh_St S) (hP : gr_St P) (hd : 14 ≤ d) {A : aS} {Z : Nat → Nat} {b m n form : Nat} {tx : Nat → Nat} {dec : Int64} {pa : List Int64} {L : List dD} {T : eX} (hb6 : b = 22 ∨ 96 ≤ b) (hO : aO A) (hsl : A.sn.length < 40) (hn : n ≤ 120) (hb8 : ∀ j, j < n → tx j < 128) (hf3 : form ≤ 3) (hp3 : pa.length ≤ 3) (hdn : form ≠ 0 → dec ∈ A.ns) (hpn : ∀ v ∈ pa, v ∈ A.ns) (hR : rnT A form pa L T) (hs : rwS S I J P A Z b m n tx form dec pa L) (hf1 : form ≤ 1) (hw : wt [] (· ∈ A.ns) T) (hLT : L.map dPl = cp id T) (k : ∀ S' I' J' P' Z' b', sh_St S' → gr_St P' → (b' = 22 ∨ 96 ≤ b') → oF I J P I' J' P' → cA S' I' J' P' (rnK A form dec pa L T tx n).2 Z' b' → aO (rnK A form dec pa L T tx n).2 → tC S' I' J' P' (rnK A form dec pa L T tx n).2 (rnK A form dec pa L T tx n).2.th b' (rnM A form L T m) → Q (some (.int (rnK A form dec pa L T tx n).1)) S' I' J' P') : pm_W l E yX9_runWithoutFault cX9_runWithoutFault 2 (some .int) d (rnM A form L T m - m + 8) (18 * (rnM A form L T m - m) + 620) 36 [(1, .int (nI form)), (0, .ref 2)] [] S I J P (pm_N E Q) := by
  obtain ⟨hc, ht, h9, hf, hdc, h83, hpa, hTx, h25, h410, h414⟩ := hs
  have h96 := hG.1
  have hbd := ht.bd
  have h7 : ¬ rn7 form L := fun q => q ⟨hf1, rnT.n7 (form := form) hw hLT⟩
  have eK : rnK A form dec pa L T tx n = rnE A form dec pa T tx n (evT A (evC A 20) 0 [] T 0 A.th) := if_neg h7
  have eM : rnM A form L T m = (rmT A (evC A 20) (rmC A 20) 0 [] T 0 A.th m) := if_neg h7
  rw [eK, eM] at k
  rw [eM]
  have h9' : kC S I J P 9 121 (cp (hN A.ns) T ++ [(13, 0, 0)]) := by rw [rnT.cp (form := form) hw hLT] at h9; exact h9
  have hth : A.th.length ≤ 15600 := by have := hO.2.2.2.2.2.2.2.2.2.1; omega
  have hZ : ∀ s, s < A.sn.length → Z s + 8 ≤ S.1 := fun s hs => (hc.sn hs).2.1.1.2
  have hEO := evD_ok hO (dp := 0) (by decide) (ar := []) (pa := []) rfl T 0 A.th hw (fun v hv => by cases hv) hO.2.2.2.2.2.2.2.2.1 (Nat.le_refl _) (by decide) (by omega)
  have go : pm_W l E yX9_runWithoutFault cX9_runWithoutFault 2 (some .int) d ((rmT A (evC A 20) (rmC A 20) 0 [] T 0 A.th m) - m + 8) (18 * ((rmT A (evC A 20) (rmC A 20) 0 [] T 0 A.th m) - m) + 620) 45 [(1, .int (nI form)), (0, .ref 2)] [] S I J P (pm_N E Q) := by
    refine pw_aload_n dX9_runWithoutFault_45 rfl ?_
    refine pw_getR fX9_41 dX9_runWithoutFault_46 (sh_lt hG (by decide)) (sh_tg hG 0 rfl) rfl (gr_at hP 4 rfl) ?_
    refine pw_aload_n dX9_runWithoutFault_49 rfl ?_
    refine pw_getR fX9_25 dX9_runWithoutFault_50 (sh_lt hG (by decide)) (sh_tg hG 0 rfl) rfl (gr_at hP 2 rfl) ?_
    refine pw_callV (as := []) (kc' := 0) (ks' := 0) lX9_201 dX9_runWithoutFault_53 rfl rfl (sh_lt hG (by decide)) (sh_tg hG 6 rfl) (Nat.le_of_ble_eq_true rfl) (by omega) (Nat.le_of_ble_eq_true rfl) (Nat.zero_le _) (Nat.zero_le _) ?_
    unfold pm_Met
    refine pm_lvs (lv' := [(0, _)]) rfl ?_
    refine pw_aload_n dX3_code_0 rfl ?_
    refine pw_getR fX3_14 dX3_code_1 (sh_lt hG (by decide)) (sh_tg hG 6 rfl) rfl (gr_at hP 9 rfl) ?_
    refine pw_aret (r := some 9) dX3_code_4 rfl (by first | exact Or.inl ⟨_, rfl⟩ | exact Or.inr ⟨_, rfl⟩) ?_
    refine pw_callV (as := [_]) (kc' := ((rmT A (evC A 20) (rmC A 20) 0 [] T 0 A.th m) - m)) (ks' := (18 * ((rmT A (evC A 20) (rmC A 20) 0 [] T 0 A.th m) - m))) lX9_205 dX9_runWithoutFault_56 rfl rfl (sh_lt hG (by decide)) (sh_tg hG 32 rfl) (Nat.le_of_ble_eq_true rfl) (by omega) (Nat.le_of_ble_eq_true rfl) (by omega) (by omega) ?_
    refine c_X1_work hG hP (by omega) hc hO ht h414 h410 hth ⟨⟨121, h9'⟩, Or.inl rfl, by omega⟩ hw (fun v s1 t1 S1 I1 J1 P1 b1 hev hwE hv hgd => ?_) (fun e S1 I1 J1 P1 b1 hev hwE => ?_)
    · obtain ⟨g1, g2, g3, g4, g5, g6⟩ := hwE
      have hG := g1
      have hP := g2
      have hc1 := (hc.mv g3 ⟨by omega, hbd.2, hbd.1⟩).b hZ g4
      have ew : ∀ a, (a < 15 ∨ 41 < a) → a < b → I1 a = I a ∧ J1 a = J a ∧ P1 a = P a := fun a ha hab => g3.2.2 a ⟨by omega, by omega, by omega, by omega⟩ (by omega)
      have e2 := ew 2 (by decide) (by omega)
      have e3 := ew 3 (by decide) (by omega)
      have e8 := ew 8 (by decide) (by omega)
      have e14 := ew 14 (by decide) (by omega)
      have h91 := h9.mv g3.1 g3.2.1 (fun a h1 h2 => ew a (by omega) (by omega))
      refine pw_aload_n dX9_runWithoutFault_59 rfl ?_
      refine pw_getR fX9_41 dX9_runWithoutFault_60 (sh_lt hG (by decide)) (sh_tg hG 0 rfl) rfl (gr_at hP 4 rfl) ?_
      refine pw_callV (as := []) (kc' := 0) (ks' := 0) lX9_209 dX9_runWithoutFault_63 rfl rfl (sh_lt hG (by decide)) (sh_tg hG 32 rfl) (Nat.le_of_ble_eq_true rfl) (by omega) (Nat.le_of_ble_eq_true rfl) (Nat.zero_le _) (Nat.zero_le _) ?_
      unfold pm_Met
      refine pm_lvs (lv' := [(0, _)]) rfl ?_
      refine pw_aload_n dX1_failure_0 rfl ?_
      refine pw_getR fX1_31 dX1_failure_1 (sh_lt hG (by decide)) (sh_tg hG 32 rfl) rfl (gr_at hP 33 rfl) ?_
      refine pw_iconst (v := nI 0) dX1_failure_4 (by decide) ?_
      refine pw_ialdN 0 dX1_failure_5 (sh_lt hG (by decide)) (sh_sh hG 39 rfl) (by decide) (by decide) (by decide) ?_
      refine pw_iret dX1_failure_6 rfl ?_
      refine pw_ti (z := nI 0) g6 ?_
      refine pw_if_eq (tgt := 81) dX9_runWithoutFault_66 (by decide) (fun h66 => ?_) (fun h => absurd (by decide) h)
      have hkO := rn_kO (dec := dec) (tx := tx) (n := n) hsl hf3 hp3 hdn hpn hR hgd.1 hgd.2.1 hgd.2.2.1 hgd.2.2.2
      have hbd1 := g5.bd
      refine pw_more (by omega) (by omega) (c_tail1 (x := rnX A form dec pa T tx n) (v := v) (t := t1) hG hP (by omega) hc1 hO hkO g5 h91 (fun q => absurd (show form = 2 from q) (by omega)) (by rw [e8.1]; exact hf) (fun q => by rw [e8.2.1]; exact hdc q) (by rw [e8.1]; exact h83) (fun j v hj => by rw [e14.2.1]; exact hpa j v hj) (fun j hj => by rw [e3.1]; exact hTx j hj) (by rw [e2.1]; exact h25) hn hb8 rfl hf1 hv (fun S' I' J' P' Z' a q1 q2 q3 q4 qo q5 => ?_))
      rw [hev] at k
      rw [show a = rnA A form from q5]
      exact k S' I' J' P' Z' b1 q1 q2 (by omega) ((g3.oF h96 hb6).trans qo) q3 (hO.kp hkO) q4
    · obtain ⟨g1, g2, g3, g4, g5, g6⟩ := hwE
      have he := hEO.2 e hev
      have hG := g1
      have hP := g2
      have hc1 := (hc.mv g3 ⟨by omega, hbd.2, hbd.1⟩).b hZ g4
      have ew : ∀ a, (a < 15 ∨ 41 < a) → a < b → I1 a = I a ∧ J1 a = J a ∧ P1 a = P a := fun a ha hab => g3.2.2 a ⟨by omega, by omega, by omega, by omega⟩ (by omega)
      have e2 := ew 2 (by decide) (by omega)
      have e3 := ew 3 (by decide) (by omega)
      have e8 := ew 8 (by decide) (by omega)
      have e14 := ew 14 (by decide) (by omega)
      have h91 := h9.mv g3.1 g3.2.1 (fun a h1 h2 => ew a (by omega) (by omega))
      refine pw_aload_n dX9_runWithoutFault_59 rfl ?_
      refine pw_getR fX9_41 dX9_runWithoutFault_60 (sh_lt hG (by decide)) (sh_tg hG 0 rfl) rfl (gr_at hP 4 rfl) ?_
      refine pw_callV (as := []) (kc' := 0) (ks' := 0) lX9_209 dX9_runWithoutFault_63 rfl rfl (sh_lt hG (by decide)) (sh_tg hG 32 rfl) (Nat.le_of_ble_eq_true rfl) (by omega) (Nat.le_of_ble_eq_true rfl) (Nat.zero_le _) (Nat.zero_le _) ?_
      unfold pm_Met
      refine pm_lvs (lv' := [(0, _)]) rfl ?_
      refine pw_aload_n dX1_failure_0 rfl ?_
      refine pw_getR fX1_31 dX1_failure_1 (sh_lt hG (by decide)) (sh_tg hG 32 rfl) rfl (gr_at hP 33 rfl) ?_
      refine pw_iconst (v := nI 0) dX1_failure_4 (by decide) ?_
      refine pw_ialdN 0 dX1_failure_5 (sh_lt hG (by decide)) (sh_sh hG 39 rfl) (by decide) (by decide) (by decide) ?_
      refine pw_iret dX1_failure_6 rfl ?_
      refine pw_ti (z := nI e) g6 ?_
      refine pw_ifN_eq _ (tgt := 81) dX9_runWithoutFault_66 (by decide) (rfl) (by omega) (fun h66 => absurd h66 (by omega)) (fun h66 => ?_)
      refine pw_sipush (v := -200) dX9_runWithoutFault_69 (by decide) ?_
      refine pw_aload_n dX9_runWithoutFault_72 rfl ?_
      refine pw_getR fX9_41 dX9_runWithoutFault_73 (sh_lt hG (by decide)) (sh_tg hG 0 rfl) rfl (gr_at hP 4 rfl) ?_
      refine pw_callV (as := []) (kc' := 0) (ks' := 0) lX9_209 dX9_runWithoutFault_76 rfl rfl (sh_lt hG (by decide)) (sh_tg hG 32 rfl) (Nat.le_of_ble_eq_true rfl) (by omega) (Nat.le_of_ble_eq_true rfl) (Nat.zero_le _) (Nat.zero_le _) ?_
      unfold pm_Met
      refine pm_lvs (lv' := [(0, _)]) rfl ?_
      refine pw_aload_n dX1_failure_0 rfl ?_
      refine pw_getR fX1_31 dX1_failure_1 (sh_lt hG (by decide)) (sh_tg hG 32 rfl) rfl (gr_at hP 33 rfl) ?_
      refine pw_iconst (v := nI 0) dX1_failure_4 (by decide) ?_
      refine pw_ialdN 0 dX1_failure_5 (sh_lt hG (by decide)) (sh_sh hG 39 rfl) (by decide) (by decide) (by decide) ?_
      refine pw_iret dX1_failure_6 rfl ?_
      refine pw_ti (z := nI e) g6 ?_
      refine pw_isub dX9_runWithoutFault_79 ?_
      exact pw_iret dX9_runWithoutFault_80 rfl (by
        rw [hev] at k
        exact k S1 I1 J1 P1 Z b1 hG hP (by omega) (g3.oF h96 hb6) hc1 hO g5)
  refine pw_iload_n dX9_runWithoutFault_36 rfl ?_
  refine pw_ifN_eq _ (tgt := 45) dX9_runWithoutFault_37 (by decide) (rfl) (by omega) (fun h37 => ?_) (fun h37 => ?_)
  · exact go
  · refine pw_iload_n dX9_runWithoutFault_40 rfl ?_
    refine pw_iconst (v := nI 1) dX9_runWithoutFault_41 (by decide) ?_
    refine pw_icmpN_ne _ _ (tgt := 81) dX9_runWithoutFault_42 (by decide) (rfl) (rfl) (by omega) (by omega) (fun h42 => absurd h42 (by omega)) (fun h42 => ?_)
    exact go
