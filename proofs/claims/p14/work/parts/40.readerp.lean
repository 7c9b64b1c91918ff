/-- the NAMES in the ( ) of def, type, from TOKEN a on -/
def rp (kd : Nat → Nat) (co : Nat → Int64) : Nat → Nat → List Int64 → Except Nat (Nat × List Int64)
  | 0, a, _ => .error a
  | f + 1, a, pa => if kd a = 97 ∧ ps_arg pa (co a) 0 = none then (if kd (a + 1) = 44 ∧ pa.length + 1 < 3 then rp kd co f (a + 2) (pa ++ [co a]) else .ok (a + 1, pa ++ [co a])) else .error a
abbrev rR : Type := Option (Except Nat (Nat × Int64 × List Int64 × List dD))
/-- an EXPR and then the END -/
def rx (kd pl : Nat → Nat) (co : Nat → Int64) (f : Nat) (pa : List Int64) (a form : Nat) (dec : Int64) : rR := match ps kd pl co pa f 0 a 0 [] 0 with
  | none => none
  | some (.error e) => some (.error e)
  | some (.ok q) => if kd q.1 = 0 then some (.ok (form, dec, pa, q.2)) else some (.error q.1)
def rpm (kd : Nat → Nat) (co : Nat → Int64) : Except Nat (Nat × List Int64) := if kd 3 = 41 then .ok (3, []) else rp kd co 3 3 []
def rdD (kd pl : Nat → Nat) (co : Nat → Int64) (f : Nat) : Except Nat (Nat × List Int64) → rR
  | .error e => some (.error e)
  | .ok q => if kd q.1 = 41 then (if kd (q.1 + 1) = 61 then rx kd pl co f q.2 (q.1 + 2) 2 (co 1) else some (.error (q.1 + 1))) else some (.error q.1)
def rdT (kd : Nat → Nat) (co : Nat → Int64) : Except Nat (Nat × List Int64) → rR
  | .error e => some (.error e)
  | .ok q => if kd q.1 = 41 then (if kd (q.1 + 1) = 0 then some (.ok (3, co 1, q.2, [])) else some (.error (q.1 + 1))) else some (.error q.1)
/-- THE TEXT as a SNIPPET: its FAULT's TOKEN, or its form, what it declares, its parts, its code -/
def rd (kd pl : Nat → Nat) (co : Nat → Int64) (f : Nat) : rR :=
  if kd 0 = 118 then (if kd 1 = 97 then (if kd 2 = 61 then rx kd pl co f [] 3 1 (co 1) else if kd 2 = 0 then some (.ok (1, co 1, [], [(7, 0, 0, 0)])) else some (.error 2)) else some (.error 1))
  else if kd 0 = 100 then (if kd 1 = 97 then (if kd 2 = 40 then rdD kd pl co f (rpm kd co) else some (.error 2)) else some (.error 1))
  else if kd 0 = 116 then (if kd 1 = 97 then (if kd 2 = 40 then rdT kd co (rp kd co 3 3 []) else some (.error 2)) else some (.error 1))
  else rx kd pl co f [] 0 0 0
/-- what the parts' reading leaves as it was -/
def frP (I I' : pmI) (J J' : pmJ) : Prop := (∀ a, a ≠ 8 → a ≠ 9 → a ≠ 10 → a ≠ 11 → a ≠ 12 → I' a = I a) ∧ I' 8 4 = I 8 4 ∧ I' 9 5 = I 9 5 ∧ ∀ a, a ≠ 13 → a ≠ 14 → J' a = J a
theorem fr8.pp {I I' : pmI} {J J' : pmJ} (h : fr8 I I' J J') : frP I I' J J' := ⟨h.1, h.2.2.1, h.2.2.2.1, fun a h1 _ => h.2.2.2.2 a h1⟩
theorem frP.trans {I I1 I2 : pmI} {J J1 J2 : pmJ} (h : frP I I1 J J1) (h' : frP I1 I2 J1 J2) : frP I I2 J J2 := ⟨fun a h1 h2 h3 h4 h5 => by rw [h'.1 a h1 h2 h3 h4 h5, h.1 a h1 h2 h3 h4 h5], by rw [h'.2.1, h.2.1], by rw [h'.2.2.1, h.2.2.1], fun a h1 h2 => by rw [h'.2.2.2 a h1 h2, h.2.2.2 a h1 h2]⟩
section RR
variable {tx : Nat → Nat} {n cnt : Nat} {pa : List Int64} {I I' : pmI} {J J' : pmJ} {a op e : Nat} {L L' : List dD}
theorem rdP.app (h : rdP I J pa) (h3 : pa.length < 3) {v : Int64} {x : Int32} : rdP (pm_u (pm_u I 8 3 (nI (pa.length + 1))) 8 6 x) (pm_u J 14 pa.length v) (pa ++ [v]) := by
  refine ⟨by rw [pm_u_eq, pm_up_ne (by decide), pm_u_eq, pm_up_eq, List.length_append]; rfl, by rw [List.length_append]; show pa.length + 1 ≤ 3; omega, fun j w hw => ?_⟩
  rw [pm_u_eq]
  rcases Nat.lt_trichotomy j pa.length with hj | hj | hj
  · rw [pm_up_ne (by omega)]
    rw [List.getElem?_append_left hj] at hw
    exact h.2.2 j w hw
  · subst hj
    rw [List.getElem?_append_right (Nat.le_refl _), Nat.sub_self] at hw
    cases hw
    exact pm_up_eq
  · rw [List.getElem?_eq_none (by rw [List.length_append]; show pa.length + 1 ≤ j; omega)] at hw
    cases hw
theorem frP.app {v : Int64} {x y : Int32} {k : Nat} : frP I (pm_u (pm_u I 8 3 x) 8 6 y) J (pm_u J 14 k v) := ⟨fun b h1 _ _ _ _ => by rw [pm_u_ne h1, pm_u_ne h1], by rw [pm_u_eq, pm_up_ne (by decide), pm_u_eq, pm_up_ne (by decide)], by rw [pm_u_ne (by decide), pm_u_ne (by decide)], fun b _ h2 => pm_u_ne h2⟩
theorem rs.part (h : rs tx n cnt pa I J a op L) (h3 : pa.length < 3) {v : Int64} : rs tx n cnt (pa ++ [v]) (pm_u (pm_u I 8 3 (nI (pa.length + 1))) 8 6 (nI (a + 1))) (pm_u J 14 pa.length v) (a + 1) op L := by
  refine ⟨h.1.mv (by rw [pm_u_ne (by decide), pm_u_ne (by decide)]) (by rw [pm_u_ne (by decide), pm_u_ne (by decide)]) (by rw [pm_u_ne (by decide), pm_u_ne (by decide)]) (pm_u_ne (by decide)), h.2.1.app h3, by rw [pm_u_eq, pm_up_eq], ?_, ?_, ?_⟩
  · rw [pm_u_eq, pm_up_ne (by decide), pm_u_eq, pm_up_ne (by decide)]; exact h.2.2.2.1
  · rw [pm_u_eq, pm_up_ne (by decide), pm_u_eq, pm_up_ne (by decide)]; exact h.2.2.2.2.1
  · have h9 := (h.2.2.2.2.2.p8 (k := 3) (x := nI (pa.length + 1))).p8 (k := 6) (x := nI (a + 1))
    exact ⟨h9.1, fun j q hq => by rw [pm_u_ne (a := 14) (b := 13) (by decide)]; exact h9.2 j q hq⟩
theorem rs.fm (h : rs tx n cnt pa I J a op L) (x : Int32) : rs tx n cnt pa (pm_u I 8 4 x) J a op L := by
  refine ⟨h.1.mv (pm_u_ne (by decide)) (pm_u_ne (by decide)) (pm_u_ne (by decide)) rfl, h.2.1.mv (by rw [pm_u_eq, pm_up_ne (by decide)]) rfl, ?_, ?_, ?_, h.2.2.2.2.2.p8⟩
  · rw [pm_u_eq, pm_up_ne (by decide)]; exact h.2.2.1
  · rw [pm_u_eq, pm_up_ne (by decide)]; exact h.2.2.2.1
  · rw [pm_u_eq, pm_up_ne (by decide)]; exact h.2.2.2.2.1
theorem rs.dc (h : rs tx n cnt pa I J a op L) (v : Int64) : rs tx n cnt pa I (pm_u J 8 5 v) a op L :=
  ⟨h.1.mv rfl rfl rfl (pm_u_ne (by decide)), h.2.1.mv rfl (pm_u_ne (by decide)), h.2.2.1, h.2.2.2.1, h.2.2.2.2.1, h.2.2.2.2.2.1, fun j q hq => by rw [pm_u_ne (by decide)]; exact h.2.2.2.2.2.2 j q hq⟩
theorem fs.dc (h : fs tx n cnt pa I J e) (v : Int64) : fs tx n cnt pa I (pm_u J 8 5 v) e :=
  ⟨h.1.mv rfl rfl rfl (pm_u_ne (by decide)), h.2.1.mv rfl (pm_u_ne (by decide)), h.2.2.1, h.2.2.2.1, h.2.2.2.2⟩
end RR
set_option maxRecDepth 20000 in
set_option maxHeartbeats 4000000 in
theorem c_X3_readPart {l : Launch} {E : pmE} {d : Nat} {S : pmS} {I : pmI} {J : pmJ} {P : pmP} {Q : Option Value → pmS → pmI → pmJ → pmP → Prop} (hG : sh_St S) (hP : gr_St P) (hd : 3 ≤ d) {tx : Nat → Nat} {n cnt : Nat} {pa : List Int64} (hb : ∀ j, j < n → tx j < 128) {a op : Nat} {L : List dD} (hs : rs tx n cnt pa I J a op L) (ha : a ≤ cnt) (hl : L.length ≤ 121) (h3 : pa.length < 3) (k1 : tk_k tx n a = 97 → ps_arg pa (tk_v tx n a) 0 = none → ∀ I' J', rs tx n cnt (pa ++ [tk_v tx n a]) I' J' (a + 1) op L → frP I I' J J' → Q none S I' J' P) (k0 : ¬ (tk_k tx n a = 97 ∧ ps_arg pa (tk_v tx n a) 0 = none) → ∀ I', fs tx n cnt pa I' J a → fr8 I I' J J → Q none S I' J P) : pm_Met l E yX3_readPart cX3_readPart 1 none d 0 0 [.ref 8] S I J P Q := by
  unfold pm_Met
  refine pm_lvs (lv' := [(0, _)]) rfl ?_
  refine pw_aload_n dX3_readPart_0 rfl ?_
  refine pw_bipush (v := nI 97) dX3_readPart_1 (by decide) ?_
  refine pw_callV (as := [_]) (kc' := 0) (ks' := 0) lX3_66 dX3_readPart_3 rfl rfl (sh_lt hG (by decide)) (sh_tg hG 6 rfl) (Nat.le_of_ble_eq_true rfl) (by omega) (Nat.le_of_ble_eq_true rfl) (Nat.zero_le _) (Nat.zero_le _) ?_
  refine c_X3_isAt hG hP hs.1 hb (by omega) hs.2.2.1 ha (c := 97) (by decide) (fun hq1 => ?_) (fun hq0 => ?_)
  · rcases hpa : ps_arg pa (tk_v tx n a) 0 with _ | i
    · refine pw_if_eq (tgt := 35) dX3_readPart_6 (by decide) (fun h => absurd h (by decide)) (fun h6 => ?_)
      refine pw_aload_n dX3_readPart_9 rfl ?_
      refine pw_aload_n dX3_readPart_10 rfl ?_
      refine pw_getR fX3_24 dX3_readPart_11 (sh_lt hG (by decide)) (sh_tg hG 6 rfl) rfl (gr_at hP 8 rfl) ?_
      refine pw_aload_n dX3_readPart_14 rfl ?_
      refine pw_getI fX3_39 dX3_readPart_15 (sh_lt hG (by decide)) (sh_tg hG 6 rfl) rfl ?_
      refine pw_ti (z := nI a) hs.2.2.1 ?_
      refine pw_callV (as := [_]) (kc' := 0) (ks' := 0) lX3_115 dX3_readPart_18 rfl rfl (sh_lt hG (by decide)) (sh_tg hG 2 rfl) (Nat.le_of_ble_eq_true rfl) (by omega) (Nat.le_of_ble_eq_true rfl) (Nat.zero_le _) (Nat.zero_le _) ?_
      refine c_co hG hP hs.1 ha ?_
      refine pw_callV (as := [_]) (kc' := 0) (ks' := 0) lX3_119 dX3_readPart_21 rfl rfl (sh_lt hG (by decide)) (sh_tg hG 6 rfl) (Nat.le_of_ble_eq_true rfl) (by omega) (Nat.le_of_ble_eq_true rfl) (Nat.zero_le _) (Nat.zero_le _) ?_
      refine c_X3_partOf hG hP hs.2.1 ?_
      refine pw_ti (z := -5) (by rw [hpa]) ?_
      refine pw_if_ge (tgt := 35) dX3_readPart_24 (by decide) (fun h => absurd h (by decide)) (fun h24 => ?_)
      refine pw_aload_n dX3_readPart_27 rfl ?_
      refine pw_getI fX3_31 dX3_readPart_28 (sh_lt hG (by decide)) (sh_tg hG 6 rfl) rfl ?_
      refine pw_iconst (v := nI 3) dX3_readPart_31 (by decide) ?_
      refine pw_icmpN_lt _ _ (tgt := 40) dX3_readPart_32 (by decide) (hs.2.1.1) (rfl) (by omega) (by omega) (fun h32 => ?_) (fun h32 => absurd h32 (by omega))
      refine pw_aload_n dX3_readPart_40 rfl ?_
      refine pw_getR fX3_20 dX3_readPart_41 (sh_lt hG (by decide)) (sh_tg hG 6 rfl) rfl (gr_at hP 10 rfl) ?_
      refine pw_aload_n dX3_readPart_44 rfl ?_
      refine pw_getI fX3_31 dX3_readPart_45 (sh_lt hG (by decide)) (sh_tg hG 6 rfl) rfl ?_
      refine pw_aload_n dX3_readPart_48 rfl ?_
      refine pw_getR fX3_24 dX3_readPart_49 (sh_lt hG (by decide)) (sh_tg hG 6 rfl) rfl (gr_at hP 8 rfl) ?_
      refine pw_aload_n dX3_readPart_52 rfl ?_
      refine pw_getI fX3_39 dX3_readPart_53 (sh_lt hG (by decide)) (sh_tg hG 6 rfl) rfl ?_
      refine pw_ti (z := nI a) hs.2.2.1 ?_
      refine pw_callV (as := [_]) (kc' := 0) (ks' := 0) lX3_115 dX3_readPart_56 rfl rfl (sh_lt hG (by decide)) (sh_tg hG 2 rfl) (Nat.le_of_ble_eq_true rfl) (by omega) (Nat.le_of_ble_eq_true rfl) (Nat.zero_le _) (Nat.zero_le _) ?_
      refine c_co hG hP hs.1 ha ?_
      refine pw_lastN pa.length dX3_readPart_59 (by decide) (sh_lt hG (by decide)) (sh_sh hG 12 rfl) (by decide) (hs.2.1.1) (by omega) ?_
      refine pw_aload_n dX3_readPart_60 rfl ?_
      refine pw_dup dX3_readPart_61 rfl ?_
      refine pw_getI fX3_31 dX3_readPart_62 (sh_lt hG (by decide)) (sh_tg hG 6 rfl) rfl ?_
      refine pw_iconst (v := nI 1) dX3_readPart_65 (by decide) ?_
      refine pw_iadd dX3_readPart_66 ?_
      refine pw_ti (z := nI (pa.length + 1)) (by rw [hs.2.1.1]; exact nI_add _ 1) ?_
      refine pw_putI fX3_31 dX3_readPart_67 (Or.inl rfl) (by decide) (sh_lt hG (by decide)) (sh_tg hG 6 rfl) rfl ?_
      refine pw_aload_n dX3_readPart_70 rfl ?_
      refine pw_dup dX3_readPart_71 rfl ?_
      refine pw_getI fX3_39 dX3_readPart_72 (sh_lt hG (by decide)) (sh_tg hG 6 rfl) rfl ?_
      refine pw_iconst (v := nI 1) dX3_readPart_75 (by decide) ?_
      refine pw_iadd dX3_readPart_76 ?_
      refine pw_ti (z := nI (a + 1)) (by rw [pm_u_eq, pm_up_ne (by decide), hs.2.2.1]; exact nI_add a 1) ?_
      refine pw_putI fX3_39 dX3_readPart_77 (Or.inl rfl) (by decide) (sh_lt hG (by decide)) (sh_tg hG 6 rfl) rfl ?_
      exact pw_vret dX3_readPart_80 rfl (k1 hq1 hpa _ _ (hs.part h3) frP.app)
    · have hi := ps_arg_s _ _ hpa
      have hi3 := hs.2.1.2.1
      refine pw_if_eq (tgt := 35) dX3_readPart_6 (by decide) (fun h => absurd h (by decide)) (fun h6 => ?_)
      refine pw_aload_n dX3_readPart_9 rfl ?_
      refine pw_aload_n dX3_readPart_10 rfl ?_
      refine pw_getR fX3_24 dX3_readPart_11 (sh_lt hG (by decide)) (sh_tg hG 6 rfl) rfl (gr_at hP 8 rfl) ?_
      refine pw_aload_n dX3_readPart_14 rfl ?_
      refine pw_getI fX3_39 dX3_readPart_15 (sh_lt hG (by decide)) (sh_tg hG 6 rfl) rfl ?_
      refine pw_ti (z := nI a) hs.2.2.1 ?_
      refine pw_callV (as := [_]) (kc' := 0) (ks' := 0) lX3_115 dX3_readPart_18 rfl rfl (sh_lt hG (by decide)) (sh_tg hG 2 rfl) (Nat.le_of_ble_eq_true rfl) (by omega) (Nat.le_of_ble_eq_true rfl) (Nat.zero_le _) (Nat.zero_le _) ?_
      refine c_co hG hP hs.1 ha ?_
      refine pw_callV (as := [_]) (kc' := 0) (ks' := 0) lX3_119 dX3_readPart_21 rfl rfl (sh_lt hG (by decide)) (sh_tg hG 6 rfl) (Nat.le_of_ble_eq_true rfl) (by omega) (Nat.le_of_ble_eq_true rfl) (Nat.zero_le _) (Nat.zero_le _) ?_
      refine c_X3_partOf hG hP hs.2.1 ?_
      refine pw_ti (z := nI i) (by rw [hpa]) ?_
      refine pw_if_ge (tgt := 35) dX3_readPart_24 (by decide) (fun h24 => ?_) (fun h => absurd (nI_pos' (by omega)) h)
      refine pw_aload_n dX3_readPart_35 rfl ?_
      refine pw_callV (as := []) (kc' := 0) (ks' := 0) lX3_70 dX3_readPart_36 rfl rfl (sh_lt hG (by decide)) (sh_tg hG 6 rfl) (Nat.le_of_ble_eq_true rfl) (by omega) (Nat.le_of_ble_eq_true rfl) (Nat.zero_le _) (Nat.zero_le _) ?_
      refine c_X3_refuse hG hP (by omega) hb hs ha hl (fun I' hF hf => ?_)
      exact pw_vret dX3_readPart_39 rfl (k0 (fun q => by rw [hpa] at q; cases q.2) _ hF hf)
  · refine pw_if_eq (tgt := 35) dX3_readPart_6 (by decide) (fun h6 => ?_) (fun h => absurd (by decide) h)
    refine pw_aload_n dX3_readPart_35 rfl ?_
    refine pw_callV (as := []) (kc' := 0) (ks' := 0) lX3_70 dX3_readPart_36 rfl rfl (sh_lt hG (by decide)) (sh_tg hG 6 rfl) (Nat.le_of_ble_eq_true rfl) (by omega) (Nat.le_of_ble_eq_true rfl) (Nat.zero_le _) (Nat.zero_le _) ?_
    refine c_X3_refuse hG hP (by omega) hb hs ha hl (fun I' hF hf => ?_)
    exact pw_vret dX3_readPart_39 rfl (k0 (fun q => hq0 q.1) _ hF hf)
set_option maxRecDepth 20000 in
set_option maxHeartbeats 4000000 in
theorem c_X3_readPartF {l : Launch} {E : pmE} {d : Nat} {S : pmS} {I : pmI} {J : pmJ} {P : pmP} {Q : Option Value → pmS → pmI → pmJ → pmP → Prop} (hG : sh_St S) (hP : gr_St P) (hd : 3 ≤ d) {tx : Nat → Nat} {n cnt : Nat} {pa : List Int64} (hn9 : n ≤ 120) (hb : ∀ j, j < n → tx j < 128) {e : Nat} (hs : fs tx n cnt pa I J e) (k : ∀ I', fs tx n cnt pa I' J e → fr8 I I' J J → Q none S I' J P) : pm_Met l E yX3_readPart cX3_readPart 1 none d 0 0 [.ref 8] S I J P Q := by
  unfold pm_Met
  refine pm_lvs (lv' := [(0, _)]) rfl ?_
  refine pw_aload_n dX3_readPart_0 rfl ?_
  refine pw_bipush (v := nI 97) dX3_readPart_1 (by decide) ?_
  refine pw_callV (as := [_]) (kc' := 0) (ks' := 0) lX3_66 dX3_readPart_3 rfl rfl (sh_lt hG (by decide)) (sh_tg hG 6 rfl) (Nat.le_of_ble_eq_true rfl) (by omega) (Nat.le_of_ble_eq_true rfl) (Nat.zero_le _) (Nat.zero_le _) ?_
  refine c_X3_isAt hG hP hs.1 hb (by omega) hs.2.2.1 (Nat.le_refl _) (c := 97) (by decide) (fun hq1 => absurd ((tk_end0 hs.1).symm.trans hq1) (by decide)) (fun _ => ?_)
  refine pw_if_eq (tgt := 35) dX3_readPart_6 (by decide) (fun h6 => ?_) (fun h => absurd (by decide) h)
  refine pw_aload_n dX3_readPart_35 rfl ?_
  refine pw_callV (as := []) (kc' := 0) (ks' := 0) lX3_70 dX3_readPart_36 rfl rfl (sh_lt hG (by decide)) (sh_tg hG 6 rfl) (Nat.le_of_ble_eq_true rfl) (by omega) (Nat.le_of_ble_eq_true rfl) (Nat.zero_le _) (Nat.zero_le _) ?_
  refine c_X3_refuseF hG hP (by omega) hn9 hb hs (fun I' hF hf => ?_)
  exact pw_vret dX3_readPart_39 rfl (k _ hF hf)
def rpK (tx : Nat → Nat) (n cnt : Nat) (Q : Option Value → pmS → pmI → pmJ → pmP → Prop) (S : pmS) (P : pmP) (I : pmI) (J : pmJ) (op : Nat) (L : List dD) (r : Except Nat (Nat × List Int64)) : Prop :=
  (∀ b pa I' J', r = .ok (b, pa) → rs tx n cnt pa I' J' b op L → b ≤ cnt → frP I I' J J' → Q none S I' J' P) ∧ (∀ e pa I' J', r = .error e → fs tx n cnt pa I' J' e → frP I I' J J' → Q none S I' J' P)
theorem rpK.mv {tx : Nat → Nat} {n cnt : Nat} {Q : Option Value → pmS → pmI → pmJ → pmP → Prop} {S : pmS} {P : pmP} {I I1 : pmI} {J J1 : pmJ} {op : Nat} {L : List dD} {r : Except Nat (Nat × List Int64)} (h : rpK tx n cnt Q S P I J op L r) (hf : frP I I1 J J1) : rpK tx n cnt Q S P I1 J1 op L r := ⟨fun b pa I' J' e hS hb hf' => h.1 b pa I' J' e hS hb (hf.trans hf'), fun b pa I' J' e hS hf' => h.2 b pa I' J' e hS (hf.trans hf')⟩
set_option maxRecDepth 20000 in
set_option maxHeartbeats 4000000 in
theorem c_X3_parts_lp {l : Launch} {E : pmE} {S : pmS} {P : pmP} {tx : Nat → Nat} {n cnt : Nat} (hG : sh_St S) (hP : gr_St P) (hn9 : n ≤ 120) (hb : ∀ j, j < n → tx j < 128) {d op : Nat} {L : List dD} (hd : 4 ≤ d) (hl : L.length ≤ 121) : ∀ (f b : Nat) (pa : List Int64) (I : pmI) (J : pmJ) (Q : Option Value → pmS → pmI → pmJ → pmP → Prop) (r : Except Nat (Nat × List Int64)), rs tx n cnt pa I J b op L → b ≤ cnt → pa.length + f = 3 → r = (if tk_k tx n b = 44 ∧ pa.length < 3 then rp (tk_k tx n) (tk_v tx n) f (b + 1) pa else .ok (b, pa)) → rpK tx n cnt Q S P I J op L r → pm_W l E yX3_readParts cX3_readParts 2 none d 0 0 6 [(1, .int (nI pa.length)), (0, .ref 8)] [] S I J P (pm_N E Q)
  | 0, b, pa, I, J, Q, r, hs, ha, h3, hr, k => by
    refine pw_iload_n dX3_readParts_6 rfl ?_
    refine pw_iconst (v := nI 3) dX3_readParts_7 (by decide) ?_
    refine pw_icmpN_ge _ _ (tgt := 40) dX3_readParts_8 (by decide) (rfl) (rfl) (by omega) (by omega) (fun h8 => ?_) (fun h8 => absurd h8 (by omega))
    exact pw_vret dX3_readParts_40 rfl (k.1 b pa _ _ (by rw [hr, if_neg (fun q => absurd q.2 (by omega))]) hs ha (fr8.pp fr8.refl))
  | f + 1, b, pa, I, J, Q, r, hs, ha, h3, hr, k => by
    have hcn := hs.1.2.1
    refine pw_iload_n dX3_readParts_6 rfl ?_
    refine pw_iconst (v := nI 3) dX3_readParts_7 (by decide) ?_
    refine pw_icmpN_ge _ _ (tgt := 40) dX3_readParts_8 (by decide) (rfl) (rfl) (by omega) (by omega) (fun h8 => absurd h8 (by omega)) (fun h8 => ?_)
    refine pw_aload_n dX3_readParts_11 rfl ?_
    refine pw_bipush (v := nI 44) dX3_readParts_12 (by decide) ?_
    refine pw_callV (as := [_]) (kc' := 0) (ks' := 0) lX3_66 dX3_readParts_14 rfl rfl (sh_lt hG (by decide)) (sh_tg hG 6 rfl) (Nat.le_of_ble_eq_true rfl) (by omega) (Nat.le_of_ble_eq_true rfl) (Nat.zero_le _) (Nat.zero_le _) ?_
    refine c_X3_isAt hG hP hs.1 hb (by omega) hs.2.2.1 ha (c := 44) (by decide) (fun hq1 => ?_) (fun hq0 => ?_)
    · rw [if_pos ⟨hq1, by omega⟩, rp] at hr
      have hbc := tk_cnt hs.1 (a := b) (by rw [hq1]; decide)
      have hS1 := hs.at' (b + 1)
      refine pw_if_eq (tgt := 40) dX3_readParts_17 (by decide) (fun h => absurd h (by decide)) (fun h17 => ?_)
      refine pw_aload_n dX3_readParts_20 rfl ?_
      refine pw_dup dX3_readParts_21 rfl ?_
      refine pw_getI fX3_39 dX3_readParts_22 (sh_lt hG (by decide)) (sh_tg hG 6 rfl) rfl ?_
      refine pw_iconst (v := nI 1) dX3_readParts_25 (by decide) ?_
      refine pw_iadd dX3_readParts_26 ?_
      refine pw_ti (z := nI (b + 1)) (by rw [hs.2.2.1]; exact nI_add (b) 1) ?_
      refine pw_putI fX3_39 dX3_readParts_27 (Or.inl rfl) (by decide) (sh_lt hG (by decide)) (sh_tg hG 6 rfl) rfl ?_
      refine pw_aload_n dX3_readParts_30 rfl ?_
      refine pw_callV (as := []) (kc' := 0) (ks' := 0) lX3_112 dX3_readParts_31 rfl rfl (sh_lt hG (by decide)) (sh_tg hG 6 rfl) (Nat.le_of_ble_eq_true rfl) (by omega) (Nat.le_of_ble_eq_true rfl) (Nat.zero_le _) (Nat.zero_le _) ?_
      refine c_X3_readPart hG hP (by omega) hb hS1 (by omega) hl (by omega) (fun hn hp I' J' hS2 hf2 => ?_) (fun hn I' hF hf2 => ?_)
      · rw [if_pos ⟨hn, hp⟩] at hr
        have hbc2 := tk_cnt hs.1 (a := b + 1) (by rw [hn]; decide)
        refine pw_iinc (lv' := [(1, _), (0, _)]) dX3_readParts_34 rfl (by decide) rfl ?_
        refine pw_goto (tgt := 6) dX3_readParts_37 (by decide) ?_
        refine pw_sub [0, 1] rfl ?_
        rw [show nI pa.length + Int32.ofInt 1 = nI (pa ++ [tk_v tx n (b + 1)]).length by rw [List.length_append]; exact nI_1 _]
        exact c_X3_parts_lp hG hP hn9 hb hd hl f (b + 1 + 1) (pa ++ [tk_v tx n (b + 1)]) I' J' Q r hS2 (by omega) (by rw [List.length_append]; show pa.length + 1 + f = 3; omega) (by rw [hr, List.length_append]; rfl) (k.mv ((fr8.pp (fr8.put (by decide) (by decide))).trans hf2))
      · rw [if_neg hn] at hr
        refine pw_iinc (lv' := [(1, _), (0, _)]) dX3_readParts_34 rfl (by decide) rfl ?_
        refine pw_goto (tgt := 6) dX3_readParts_37 (by decide) ?_
        refine pw_iload_n dX3_readParts_6 rfl ?_
        refine pw_iconst (v := nI 3) dX3_readParts_7 (by decide) ?_
        refine pw_icmp_ge (tgt := 40) dX3_readParts_8 (by decide) (fun h8 => ?_) (fun h8 => ?_)
        · exact pw_vret dX3_readParts_40 rfl (k.2 (b + 1) pa _ _ hr hF ((fr8.pp (fr8.put (by decide) (by decide))).trans hf2.pp))
        · refine pw_aload_n dX3_readParts_11 rfl ?_
          refine pw_bipush (v := nI 44) dX3_readParts_12 (by decide) ?_
          refine pw_callV (as := [_]) (kc' := 0) (ks' := 0) lX3_66 dX3_readParts_14 rfl rfl (sh_lt hG (by decide)) (sh_tg hG 6 rfl) (Nat.le_of_ble_eq_true rfl) (by omega) (Nat.le_of_ble_eq_true rfl) (Nat.zero_le _) (Nat.zero_le _) ?_
          refine c_X3_isAt hG hP hF.1 hb (by omega) hF.2.2.1 (Nat.le_refl _) (c := 44) (by decide) (fun hq1 => absurd ((tk_end0 hF.1).symm.trans hq1) (by decide)) (fun _ => ?_)
          refine pw_if_eq (tgt := 40) dX3_readParts_17 (by decide) (fun h17 => ?_) (fun h => absurd (by decide) h)
          exact pw_vret dX3_readParts_40 rfl (k.2 (b + 1) pa _ _ hr hF ((fr8.pp (fr8.put (by decide) (by decide))).trans hf2.pp))
    · rw [if_neg (fun q => hq0 q.1)] at hr
      refine pw_if_eq (tgt := 40) dX3_readParts_17 (by decide) (fun h17 => ?_) (fun h => absurd (by decide) h)
      exact pw_vret dX3_readParts_40 rfl (k.1 b pa _ _ hr hs ha (fr8.pp fr8.refl))
set_option maxRecDepth 20000 in
set_option maxHeartbeats 4000000 in
theorem c_X3_readParts {l : Launch} {E : pmE} {S : pmS} {P : pmP} {tx : Nat → Nat} {n cnt : Nat} (hG : sh_St S) (hP : gr_St P) (hn9 : n ≤ 120) (hb : ∀ j, j < n → tx j < 128) {d op a : Nat} {L : List dD} {I : pmI} {J : pmJ} {Q : Option Value → pmS → pmI → pmJ → pmP → Prop} (hd : 4 ≤ d) (hl : L.length ≤ 121) (hs : rs tx n cnt [] I J a op L) (ha : a ≤ cnt) (k : rpK tx n cnt Q S P I J op L (rp (tk_k tx n) (tk_v tx n) 3 a [])) : pm_Met l E yX3_readParts cX3_readParts 2 none d 0 0 [.ref 8] S I J P Q := by
  unfold pm_Met
  refine pm_lvs (lv' := [(0, _)]) rfl ?_
  rw [rp] at k
  refine pw_aload_n dX3_readParts_0 rfl ?_
  refine pw_callV (as := []) (kc' := 0) (ks' := 0) lX3_112 dX3_readParts_1 rfl rfl (sh_lt hG (by decide)) (sh_tg hG 6 rfl) (Nat.le_of_ble_eq_true rfl) (by omega) (Nat.le_of_ble_eq_true rfl) (Nat.zero_le _) (Nat.zero_le _) ?_
  refine c_X3_readPart hG hP (by omega) hb hs ha hl (by decide) (fun hn hp I' J' hS2 hf2 => ?_) (fun hn I' hF hf2 => ?_)
  · rw [if_pos ⟨hn, hp⟩] at k
    have hbc2 := tk_cnt hs.1 (a := a) (by rw [hn]; decide)
    refine pw_iconst (v := nI 1) dX3_readParts_4 (by decide) ?_
    refine pw_istore_n (lv' := [(1, _), (0, _)]) dX3_readParts_5 (by decide) rfl ?_
    exact c_X3_parts_lp hG hP hn9 hb hd hl 2 (a + 1) [tk_v tx n a] I' J' Q _ hS2 (by omega) rfl rfl (k.mv hf2)
  · rw [if_neg hn] at k
    refine pw_iconst (v := nI 1) dX3_readParts_4 (by decide) ?_
    refine pw_istore_n (lv' := [(1, _), (0, _)]) dX3_readParts_5 (by decide) rfl ?_
    refine pw_iload_n dX3_readParts_6 rfl ?_
    refine pw_iconst (v := nI 3) dX3_readParts_7 (by decide) ?_
    refine pw_icmp_ge (tgt := 40) dX3_readParts_8 (by decide) (fun h => absurd h (by decide)) (fun h8 => ?_)
    refine pw_aload_n dX3_readParts_11 rfl ?_
    refine pw_bipush (v := nI 44) dX3_readParts_12 (by decide) ?_
    refine pw_callV (as := [_]) (kc' := 0) (ks' := 0) lX3_66 dX3_readParts_14 rfl rfl (sh_lt hG (by decide)) (sh_tg hG 6 rfl) (Nat.le_of_ble_eq_true rfl) (by omega) (Nat.le_of_ble_eq_true rfl) (Nat.zero_le _) (Nat.zero_le _) ?_
    refine c_X3_isAt hG hP hF.1 hb (by omega) hF.2.2.1 (Nat.le_refl _) (c := 44) (by decide) (fun hq1 => absurd ((tk_end0 hF.1).symm.trans hq1) (by decide)) (fun _ => ?_)
    refine pw_if_eq (tgt := 40) dX3_readParts_17 (by decide) (fun h17 => ?_) (fun h => absurd (by decide) h)
    exact pw_vret dX3_readParts_40 rfl (k.2 a [] _ _ rfl hF hf2.pp)
set_option maxRecDepth 20000 in
set_option maxHeartbeats 4000000 in
theorem c_X3_readPartsF {l : Launch} {E : pmE} {d : Nat} {S : pmS} {I : pmI} {J : pmJ} {P : pmP} {Q : Option Value → pmS → pmI → pmJ → pmP → Prop} (hG : sh_St S) (hP : gr_St P) (hd : 4 ≤ d) {tx : Nat → Nat} {n cnt : Nat} {pa : List Int64} (hn9 : n ≤ 120) (hb : ∀ j, j < n → tx j < 128) {e : Nat} (hs : fs tx n cnt pa I J e) (k : ∀ I', fs tx n cnt pa I' J e → fr8 I I' J J → Q none S I' J P) : pm_Met l E yX3_readParts cX3_readParts 2 none d 0 0 [.ref 8] S I J P Q := by
  unfold pm_Met
  refine pm_lvs (lv' := [(0, _)]) rfl ?_
  refine pw_aload_n dX3_readParts_0 rfl ?_
  refine pw_callV (as := []) (kc' := 0) (ks' := 0) lX3_112 dX3_readParts_1 rfl rfl (sh_lt hG (by decide)) (sh_tg hG 6 rfl) (Nat.le_of_ble_eq_true rfl) (by omega) (Nat.le_of_ble_eq_true rfl) (Nat.zero_le _) (Nat.zero_le _) ?_
  refine c_X3_readPartF hG hP (by omega) hn9 hb hs (fun I' hF hf => ?_)
  refine pw_iconst (v := nI 1) dX3_readParts_4 (by decide) ?_
  refine pw_istore_n (lv' := [(1, _), (0, _)]) dX3_readParts_5 (by decide) rfl ?_
  refine pw_iload_n dX3_readParts_6 rfl ?_
  refine pw_iconst (v := nI 3) dX3_readParts_7 (by decide) ?_
  refine pw_icmp_ge (tgt := 40) dX3_readParts_8 (by decide) (fun h => absurd h (by decide)) (fun h8 => ?_)
  refine pw_aload_n dX3_readParts_11 rfl ?_
  refine pw_bipush (v := nI 44) dX3_readParts_12 (by decide) ?_
  refine pw_callV (as := [_]) (kc' := 0) (ks' := 0) lX3_66 dX3_readParts_14 rfl rfl (sh_lt hG (by decide)) (sh_tg hG 6 rfl) (Nat.le_of_ble_eq_true rfl) (by omega) (Nat.le_of_ble_eq_true rfl) (Nat.zero_le _) (Nat.zero_le _) ?_
  refine c_X3_isAt hG hP hF.1 hb (by omega) hF.2.2.1 (Nat.le_refl _) (c := 44) (by decide) (fun hq1 => absurd ((tk_end0 hF.1).symm.trans hq1) (by decide)) (fun _ => ?_)
  refine pw_if_eq (tgt := 40) dX3_readParts_17 (by decide) (fun h17 => ?_) (fun h => absurd (by decide) h)
  exact pw_vret dX3_readParts_40 rfl (k _ hF hf)
set_option maxRecDepth 20000 in
set_option maxHeartbeats 4000000 in
theorem rd_end {l : Launch} {E : pmE} {d : Nat} {S : pmS} {I : pmI} {J : pmJ} {P : pmP} {Q : Option Value → pmS → pmI → pmJ → pmP → Prop} (hG : sh_St S) (hP : gr_St P) {tx : Nat → Nat} {n cnt : Nat} {pa : List Int64} (hb : ∀ j, j < n → tx j < 128) {a op : Nat} {L : List dD} (hs : rs tx n cnt pa I J a op L) (ha : a ≤ cnt) (hd : 5 ≤ d) (hl : L.length ≤ 120) (k1 : tk_k tx n a = 0 → ∀ I' J', cd I' J' (L ++ [(13, 0, 0, 0)]) → fr8 I I' J J' → Q (some (.int (-5))) S I' J' P) (k0 : ¬ tk_k tx n a = 0 → ∀ I' J', fr8 I I' J J' → Q (some (.int (nI (tk_p tx n a)))) S I' J' P) : pm_W l E yX3_read cX3_read 1 (some .int) d 0 0 101 [(0, .ref 8)] [] S I J P (pm_N E Q) := by
  refine pw_aload_n dX3_read_101 rfl ?_
  refine pw_iconst (v := nI 0) dX3_read_102 (by decide) ?_
  refine pw_callV (as := [_]) (kc' := 0) (ks' := 0) lX3_66 dX3_read_103 rfl rfl (sh_lt hG (by decide)) (sh_tg hG 6 rfl) (Nat.le_of_ble_eq_true rfl) (by omega) (Nat.le_of_ble_eq_true rfl) (Nat.zero_le _) (Nat.zero_le _) ?_
  refine c_X3_isAt hG hP hs.1 hb (by omega) hs.2.2.1 ha (c := 0) (by decide) (fun hq1 => ?_) (fun hq0 => ?_)
  · refine pw_if_ne (tgt := 113) dX3_read_106 (by decide) (fun h106 => ?_) (fun h => absurd h (by decide))
    refine pw_aload_n dX3_read_113 rfl ?_
    refine pw_getR fX3_14 dX3_read_114 (sh_lt hG (by decide)) (sh_tg hG 6 rfl) rfl (gr_at hP 9 rfl) ?_
    refine pw_bipush (v := nI 13) dX3_read_117 (by decide) ?_
    refine pw_iconst (v := nI 0) dX3_read_119 (by decide) ?_
    refine pw_callV (as := [_, _]) (kc' := 0) (ks' := 0) lX3_73 dX3_read_120 rfl rfl (sh_lt hG (by decide)) (sh_tg hG 7 rfl) (Nat.le_of_ble_eq_true rfl) (by omega) (Nat.le_of_ble_eq_true rfl) (Nat.zero_le _) (Nat.zero_le _) ?_
    unfold pm_Met
    refine pm_lvs (lv' := [(0, _), (1, _), (2, _)]) rfl ?_
    refine pw_aload_n dX0_add_0 rfl ?_
    refine pw_iload_n dX0_add_1 rfl ?_
    refine pw_iload_n dX0_add_2 rfl ?_
    refine pw_iconst (v := nI 0) dX0_add_3 (by decide) ?_
    refine pw_lconst (v := 0) dX0_add_4 (by decide) ?_
    refine pw_callV (as := [_, _, _, _]) (kc' := 0) (ks' := 0) lX0_32 dX0_add_5 rfl rfl (sh_lt hG (by decide)) (sh_tg hG 7 rfl) (Nat.le_of_ble_eq_true rfl) (by omega) (Nat.le_of_ble_eq_true rfl) (Nat.zero_le _) (Nat.zero_le _) ?_
    refine c_X0_addWith hG hP hs.2.2.2.2.2 (by omega) (x := 13) (y := 0) (c := 0) (fun I2 J2 hc2 hf2 => ?_)
    have hS2 := hs.cd' hc2 hf2
    refine pw_vret dX0_add_8 rfl ?_
    refine pw_aload_n dX3_read_123 rfl ?_
    refine pw_getI fX3_45 dX3_read_124 (sh_lt hG (by decide)) (sh_tg hG 6 rfl) rfl ?_
    refine pw_ti (z := -5) hS2.2.2.2.2.1 ?_
    exact pw_iret dX3_read_127 rfl (k1 hq1 _ _ hc2 (fr8.code hf2))
  · refine pw_if_ne (tgt := 113) dX3_read_106 (by decide) (fun h => absurd (by decide) h) (fun h106 => ?_)
    refine pw_aload_n dX3_read_109 rfl ?_
    refine pw_callV (as := []) (kc' := 0) (ks' := 0) lX3_70 dX3_read_110 rfl rfl (sh_lt hG (by decide)) (sh_tg hG 6 rfl) (Nat.le_of_ble_eq_true rfl) (by omega) (Nat.le_of_ble_eq_true rfl) (Nat.zero_le _) (Nat.zero_le _) ?_
    refine c_X3_refuse hG hP (by omega) hb hs ha (by omega) (fun I' hF hf => ?_)
    refine pw_aload_n dX3_read_113 rfl ?_
    refine pw_getR fX3_14 dX3_read_114 (sh_lt hG (by decide)) (sh_tg hG 6 rfl) rfl (gr_at hP 9 rfl) ?_
    refine pw_bipush (v := nI 13) dX3_read_117 (by decide) ?_
    refine pw_iconst (v := nI 0) dX3_read_119 (by decide) ?_
    refine pw_callV (as := [_, _]) (kc' := 0) (ks' := 0) lX3_73 dX3_read_120 rfl rfl (sh_lt hG (by decide)) (sh_tg hG 7 rfl) (Nat.le_of_ble_eq_true rfl) (by omega) (Nat.le_of_ble_eq_true rfl) (Nat.zero_le _) (Nat.zero_le _) ?_
    unfold pm_Met
    refine pm_lvs (lv' := [(0, _), (1, _), (2, _)]) rfl ?_
    refine pw_aload_n dX0_add_0 rfl ?_
    refine pw_iload_n dX0_add_1 rfl ?_
    refine pw_iload_n dX0_add_2 rfl ?_
    refine pw_iconst (v := nI 0) dX0_add_3 (by decide) ?_
    refine pw_lconst (v := 0) dX0_add_4 (by decide) ?_
    refine pw_callV (as := [_, _, _, _]) (kc' := 0) (ks' := 0) lX0_32 dX0_add_5 rfl rfl (sh_lt hG (by decide)) (sh_tg hG 7 rfl) (Nat.le_of_ble_eq_true rfl) (by omega) (Nat.le_of_ble_eq_true rfl) (Nat.zero_le _) (Nat.zero_le _) ?_
    refine c_X0_addWithF hG hP hF.2.2.2.2 (fun I9 J9 hz9 hc9 => ?_)
    have hF := hF.cd' hz9 hc9
    refine pw_vret dX0_add_8 rfl ?_
    refine pw_aload_n dX3_read_123 rfl ?_
    refine pw_getI fX3_45 dX3_read_124 (sh_lt hG (by decide)) (sh_tg hG 6 rfl) rfl ?_
    refine pw_ti (z := nI (tk_p tx n a)) hF.2.2.2.1 ?_
    exact pw_iret dX3_read_127 rfl (k0 hq0 _ _ (hf.trans (fr8.code hc9)))
set_option maxRecDepth 20000 in
set_option maxHeartbeats 4000000 in
theorem rd_endF {l : Launch} {E : pmE} {d : Nat} {S : pmS} {I : pmI} {J : pmJ} {P : pmP} {Q : Option Value → pmS → pmI → pmJ → pmP → Prop} (hG : sh_St S) (hP : gr_St P) {tx : Nat → Nat} {n cnt : Nat} {pa : List Int64} (hn9 : n ≤ 120) (hb : ∀ j, j < n → tx j < 128) {e : Nat} (hs : fs tx n cnt pa I J e) (hd : 5 ≤ d) (k : ∀ I' J', fr8 I I' J J' → Q (some (.int (nI (tk_p tx n e)))) S I' J' P) : pm_W l E yX3_read cX3_read 1 (some .int) d 0 0 101 [(0, .ref 8)] [] S I J P (pm_N E Q) := by
  refine pw_aload_n dX3_read_101 rfl ?_
  refine pw_iconst (v := nI 0) dX3_read_102 (by decide) ?_
  refine pw_callV (as := [_]) (kc' := 0) (ks' := 0) lX3_66 dX3_read_103 rfl rfl (sh_lt hG (by decide)) (sh_tg hG 6 rfl) (Nat.le_of_ble_eq_true rfl) (by omega) (Nat.le_of_ble_eq_true rfl) (Nat.zero_le _) (Nat.zero_le _) ?_
  refine c_X3_isAt hG hP hs.1 hb (by omega) hs.2.2.1 (Nat.le_refl _) (c := 0) (by decide) (fun _ => ?_) (fun hq0 => absurd (tk_end0 hs.1) hq0)
  refine pw_if_ne (tgt := 113) dX3_read_106 (by decide) (fun h106 => ?_) (fun h => absurd h (by decide))
  refine pw_aload_n dX3_read_113 rfl ?_
  refine pw_getR fX3_14 dX3_read_114 (sh_lt hG (by decide)) (sh_tg hG 6 rfl) rfl (gr_at hP 9 rfl) ?_
  refine pw_bipush (v := nI 13) dX3_read_117 (by decide) ?_
  refine pw_iconst (v := nI 0) dX3_read_119 (by decide) ?_
  refine pw_callV (as := [_, _]) (kc' := 0) (ks' := 0) lX3_73 dX3_read_120 rfl rfl (sh_lt hG (by decide)) (sh_tg hG 7 rfl) (Nat.le_of_ble_eq_true rfl) (by omega) (Nat.le_of_ble_eq_true rfl) (Nat.zero_le _) (Nat.zero_le _) ?_
  unfold pm_Met
  refine pm_lvs (lv' := [(0, _), (1, _), (2, _)]) rfl ?_
  refine pw_aload_n dX0_add_0 rfl ?_
  refine pw_iload_n dX0_add_1 rfl ?_
  refine pw_iload_n dX0_add_2 rfl ?_
  refine pw_iconst (v := nI 0) dX0_add_3 (by decide) ?_
  refine pw_lconst (v := 0) dX0_add_4 (by decide) ?_
  refine pw_callV (as := [_, _, _, _]) (kc' := 0) (ks' := 0) lX0_32 dX0_add_5 rfl rfl (sh_lt hG (by decide)) (sh_tg hG 7 rfl) (Nat.le_of_ble_eq_true rfl) (by omega) (Nat.le_of_ble_eq_true rfl) (Nat.zero_le _) (Nat.zero_le _) ?_
  refine c_X0_addWithF hG hP hs.2.2.2.2 (fun I9 J9 hz9 hc9 => ?_)
  have hF := hs.cd' hz9 hc9
  refine pw_vret dX0_add_8 rfl ?_
  refine pw_aload_n dX3_read_123 rfl ?_
  refine pw_getI fX3_45 dX3_read_124 (sh_lt hG (by decide)) (sh_tg hG 6 rfl) rfl ?_
  refine pw_ti (z := nI (tk_p tx n e)) hF.2.2.2.1 ?_
  exact pw_iret dX3_read_127 rfl (k _ _ (fr8.code hc9))
