/-- the names in the ( ) of def, type -/
def rdP (I : pmI) (J : pmJ) (pa : List Int64) : Prop := I 8 3 = nI pa.length ∧ pa.length ≤ 3 ∧ ∀ j v, pa[j]? = some v → J 14 j = v
/-- the reader goes on at TOKEN a, op are open, this code is there -/
def rs (tx : Nat → Nat) (n cnt : Nat) (pa : List Int64) (I : pmI) (J : pmJ) (a op : Nat) (L : List dD) : Prop := tk_C tx n I J cnt ∧ rdP I J pa ∧ I 8 6 = nI a ∧ I 8 7 = nI op ∧ I 8 8 = -5 ∧ cd I J L
/-- TOKEN e was a FAULT -/
def fs (tx : Nat → Nat) (n cnt : Nat) (pa : List Int64) (I : pmI) (J : pmJ) (e : Nat) : Prop := tk_C tx n I J cnt ∧ rdP I J pa ∧ I 8 6 = nI cnt ∧ I 8 8 = nI (tk_p tx n e) ∧ ∃ z, z ≤ 121 ∧ I 9 4 = nI z
/-- what the reader leaves as it was -/
def fr8 (I I' : pmI) (J J' : pmJ) : Prop := (∀ a, a ≠ 8 → a ≠ 9 → a ≠ 10 → a ≠ 11 → a ≠ 12 → I' a = I a) ∧ I' 8 3 = I 8 3 ∧ I' 8 4 = I 8 4 ∧ I' 9 5 = I 9 5 ∧ ∀ a, a ≠ 13 → J' a = J a
theorem fr8.refl {I : pmI} {J : pmJ} : fr8 I I J J := ⟨fun _ _ _ _ _ _ => rfl, rfl, rfl, rfl, fun _ _ => rfl⟩
theorem fr8.trans {I I1 I2 : pmI} {J J1 J2 : pmJ} (h : fr8 I I1 J J1) (h' : fr8 I1 I2 J1 J2) : fr8 I I2 J J2 := ⟨fun a h1 h2 h3 h4 h5 => by rw [h'.1 a h1 h2 h3 h4 h5, h.1 a h1 h2 h3 h4 h5], by rw [h'.2.1, h.2.1], by rw [h'.2.2.1, h.2.2.1], by rw [h'.2.2.2.1, h.2.2.2.1], fun a ha => by rw [h'.2.2.2.2 a ha, h.2.2.2.2 a ha]⟩
theorem fr8.code {I I' : pmI} {J J' : pmJ} (h : frC I I' J J') : fr8 I I' J J' := ⟨fun a _ h2 h3 h4 h5 => h.1 a h2 h3 h4 h5, by rw [h.1 8 (by decide) (by decide) (by decide) (by decide)], by rw [h.1 8 (by decide) (by decide) (by decide) (by decide)], h.2.1, h.2.2⟩
theorem fr8.put {I : pmI} {J : pmJ} {k : Nat} {x : Int32} (hk : k ≠ 3) (hk4 : k ≠ 4) : fr8 I (pm_u I 8 k x) J J := ⟨fun a h1 _ _ _ _ => pm_u_ne h1, by rw [pm_u_eq, pm_up_ne (Ne.symm hk)], by rw [pm_u_eq, pm_up_ne (Ne.symm hk4)], by rw [pm_u_ne (by decide)], fun _ _ => rfl⟩
theorem tk_C.mv {tx : Nat → Nat} {n cnt : Nat} {I I' : pmI} {J J' : pmJ} (h : tk_C tx n I J cnt) (e4 : I' 4 = I 4) (e5 : I' 5 = I 5) (e6 : I' 6 = I 6) (e7 : J' 7 = J 7) : tk_C tx n I' J' cnt := ⟨by rw [e4]; exact h.1, h.2.1, h.2.2.1, h.2.2.2.1, fun j hj => by rw [e5, e6, e7]; exact h.2.2.2.2 j hj⟩
theorem rdP.mv {I I' : pmI} {J J' : pmJ} {pa : List Int64} (h : rdP I J pa) (e : I' 8 3 = I 8 3) (e2 : J' 14 = J 14) : rdP I' J' pa := ⟨by rw [e]; exact h.1, h.2.1, fun j v hv => by rw [e2]; exact h.2.2 j v hv⟩
theorem tk_C.fr {tx : Nat → Nat} {n cnt : Nat} {I I' : pmI} {J J' : pmJ} (h : tk_C tx n I J cnt) (hf : fr8 I I' J J') : tk_C tx n I' J' cnt := h.mv (hf.1 4 (by decide) (by decide) (by decide) (by decide) (by decide)) (hf.1 5 (by decide) (by decide) (by decide) (by decide) (by decide)) (hf.1 6 (by decide) (by decide) (by decide) (by decide) (by decide)) (hf.2.2.2.2 7 (by decide))
theorem rdP.fr {I I' : pmI} {J J' : pmJ} {pa : List Int64} (h : rdP I J pa) (hf : fr8 I I' J J') : rdP I' J' pa := h.mv hf.2.1 (hf.2.2.2.2 14 (by decide))
section RS
variable {tx : Nat → Nat} {n cnt : Nat} {pa : List Int64} {I I' : pmI} {J J' : pmJ} {a op e : Nat} {L L' : List dD}
theorem cd.p8 {k : Nat} {x : Int32} (h : cd I J L) : cd (pm_u I 8 k x) J L := ⟨by rw [pm_u_ne (by decide)]; exact h.1, fun j q hq => by rw [pm_u_ne (by decide), pm_u_ne (by decide), pm_u_ne (by decide)]; exact h.2 j q hq⟩
theorem rs.at' (h : rs tx n cnt pa I J a op L) (b : Nat) : rs tx n cnt pa (pm_u I 8 6 (nI b)) J b op L := ⟨h.1.fr (fr8.put (by decide) (by decide)), h.2.1.fr (fr8.put (by decide) (by decide)), by rw [pm_u_eq, pm_up_eq], by rw [pm_u_eq, pm_up_ne (by decide)]; exact h.2.2.2.1, by rw [pm_u_eq, pm_up_ne (by decide)]; exact h.2.2.2.2.1, h.2.2.2.2.2.p8⟩
theorem rs.op' (h : rs tx n cnt pa I J a op L) (b : Nat) : rs tx n cnt pa (pm_u I 8 7 (nI b)) J a b L := ⟨h.1.fr (fr8.put (by decide) (by decide)), h.2.1.fr (fr8.put (by decide) (by decide)), by rw [pm_u_eq, pm_up_ne (by decide)]; exact h.2.2.1, by rw [pm_u_eq, pm_up_eq], by rw [pm_u_eq, pm_up_ne (by decide)]; exact h.2.2.2.2.1, h.2.2.2.2.2.p8⟩
theorem rs.cd' (h : rs tx n cnt pa I J a op L) (hc : cd I' J' L') (hf : frC I I' J J') : rs tx n cnt pa I' J' a op L' := by
  have e : I' 8 = I 8 := hf.1 8 (by decide) (by decide) (by decide) (by decide)
  exact ⟨h.1.fr (fr8.code hf), h.2.1.fr (fr8.code hf), by rw [e]; exact h.2.2.1, by rw [e]; exact h.2.2.2.1, by rw [e]; exact h.2.2.2.2.1, hc⟩
theorem fs.cd' (h : fs tx n cnt pa I J e) (hc : ∃ z, z ≤ 121 ∧ I' 9 4 = nI z) (hf : frC I I' J J') : fs tx n cnt pa I' J' e := by
  have e8 : I' 8 = I 8 := hf.1 8 (by decide) (by decide) (by decide) (by decide)
  exact ⟨h.1.fr (fr8.code hf), h.2.1.fr (fr8.code hf), by rw [e8]; exact h.2.2.1, by rw [e8]; exact h.2.2.2.1, hc⟩
theorem fs.op' (h : fs tx n cnt pa I J e) (x : Int32) : fs tx n cnt pa (pm_u I 8 7 x) J e := ⟨h.1.fr (fr8.put (by decide) (by decide)), h.2.1.fr (fr8.put (by decide) (by decide)), by rw [pm_u_eq, pm_up_ne (by decide)]; exact h.2.2.1, by rw [pm_u_eq, pm_up_ne (by decide)]; exact h.2.2.2.1, by rw [pm_u_ne (by decide)]; exact h.2.2.2.2⟩
theorem rs.refuse (h : rs tx n cnt pa I J a op L) (hl : L.length ≤ 121) : fs tx n cnt pa (pm_u (pm_u I 8 8 (nI (tk_p tx n a))) 8 6 (nI cnt)) J a := by
  refine ⟨(h.1.fr (fr8.put (k := 8) (by decide) (by decide))).fr (fr8.put (by decide) (by decide)), (h.2.1.fr (fr8.put (k := 8) (by decide) (by decide))).fr (fr8.put (by decide) (by decide)), by rw [pm_u_eq, pm_up_eq], by rw [pm_u_eq, pm_up_ne (by decide), pm_u_eq, pm_up_eq], L.length, hl, ?_⟩
  rw [pm_u_ne (by decide), pm_u_ne (by decide)]
  exact h.2.2.2.2.2.1
theorem fs.again (h : fs tx n cnt pa I J e) : fs tx n cnt pa (pm_u I 8 6 (nI cnt)) J e := ⟨h.1.fr (fr8.put (by decide) (by decide)), h.2.1.fr (fr8.put (by decide) (by decide)), by rw [pm_u_eq, pm_up_eq], by rw [pm_u_eq, pm_up_ne (by decide)]; exact h.2.2.2.1, by rw [pm_u_ne (by decide)]; exact h.2.2.2.2⟩
end RS
theorem c_kd {l : Launch} {E : pmE} {d : Nat} {S : pmS} {I : pmI} {J : pmJ} {P : pmP} {Q : Option Value → pmS → pmI → pmJ → pmP → Prop} (hG : sh_St S) (hP : gr_St P) {tx : Nat → Nat} {n cnt : Nat} (hC : tk_C tx n I J cnt) {a : Nat} (ha : a ≤ cnt) (k : Q (some (.int (nI (tk_k tx n a)))) S I J P) : pm_Met l E yX7_kindAt cX7_kindAt 2 (some .int) d 0 0 [.ref 4, .int (nI a)] S I J P Q :=
  c_X7_kindAt hG hP hC.1 hC.2.1 ha (by rw [(hC.2.2.2.2 cnt (Nat.le_refl _)).1, show tk_k tx n cnt = 0 from if_neg (by rw [hC.2.2.1]; omega)]; rfl) (by rw [(hC.2.2.2.2 a ha).1]; exact k)
theorem c_pl {l : Launch} {E : pmE} {d : Nat} {S : pmS} {I : pmI} {J : pmJ} {P : pmP} {Q : Option Value → pmS → pmI → pmJ → pmP → Prop} (hG : sh_St S) (hP : gr_St P) {tx : Nat → Nat} {n cnt : Nat} (hC : tk_C tx n I J cnt) {a : Nat} (ha : a ≤ cnt) (k : Q (some (.int (nI (tk_p tx n a)))) S I J P) : pm_Met l E yX7_placeAt cX7_placeAt 2 (some .int) d 0 0 [.ref 4, .int (nI a)] S I J P Q :=
  c_X7_placeAt hG hP hC.1 hC.2.1 ha (by rw [(hC.2.2.2.2 a ha).2.1]; exact k)
theorem c_co {l : Launch} {E : pmE} {d : Nat} {S : pmS} {I : pmI} {J : pmJ} {P : pmP} {Q : Option Value → pmS → pmI → pmJ → pmP → Prop} (hG : sh_St S) (hP : gr_St P) {tx : Nat → Nat} {n cnt : Nat} (hC : tk_C tx n I J cnt) {a : Nat} (ha : a ≤ cnt) (k : Q (some (.long (tk_v tx n a))) S I J P) : pm_Met l E yX7_coreAt cX7_coreAt 2 (some .long) d 0 0 [.ref 4, .int (nI a)] S I J P Q :=
  c_X7_coreAt hG hP hC.1 hC.2.1 ha (by rw [(hC.2.2.2.2 cnt (Nat.le_refl _)).2.2, show tk_v tx n cnt = 0 from if_neg (by rw [hC.2.2.1]; omega)]) (by rw [(hC.2.2.2.2 a ha).2.2]; exact k)
set_option maxRecDepth 20000 in
set_option maxHeartbeats 4000000 in
theorem c_X3_isAt {l : Launch} {E : pmE} {d : Nat} {S : pmS} {I : pmI} {J : pmJ} {P : pmP} {Q : Option Value → pmS → pmI → pmJ → pmP → Prop} (hG : sh_St S) (hP : gr_St P) {tx : Nat → Nat} {n cnt : Nat} (hC : tk_C tx n I J cnt) (hb : ∀ j, j < n → tx j < 128) (hd : 2 ≤ d) {a : Nat} (hA : I 8 6 = nI a) (ha : a ≤ cnt) {c : Nat} (hc : c < 128) (k1 : tk_k tx n a = c → Q (some (.int (nI 1))) S I J P) (k0 : ¬ tk_k tx n a = c → Q (some (.int (nI 0))) S I J P) : pm_Met l E yX3_isAt cX3_isAt 2 (some .boolean) d 0 0 [.ref 8, .int (nI c)] S I J P Q := by
  unfold pm_Met
  refine pm_lvs (lv' := [(0, _), (1, _)]) rfl ?_
  refine pw_aload_n dX3_isAt_0 rfl ?_
  refine pw_getR fX3_24 dX3_isAt_1 (sh_lt hG (by decide)) (sh_tg hG 6 rfl) rfl (gr_at hP 8 rfl) ?_
  refine pw_aload_n dX3_isAt_4 rfl ?_
  refine pw_getI fX3_39 dX3_isAt_5 (sh_lt hG (by decide)) (sh_tg hG 6 rfl) rfl ?_
  refine pw_ti (z := nI a) hA ?_
  refine pw_callV (as := [_]) (kc' := 0) (ks' := 0) lX3_48 dX3_isAt_8 rfl rfl (sh_lt hG (by decide)) (sh_tg hG 2 rfl) (Nat.le_of_ble_eq_true rfl) (by omega) (Nat.le_of_ble_eq_true rfl) (Nat.zero_le _) (Nat.zero_le _) ?_
  refine c_kd hG hP hC ha ?_
  refine pw_iload_n dX3_isAt_11 rfl ?_
  have hkc := tk_k_c (tx := tx) (n := n) (i := a) hb
  refine pw_icmpN_ne _ _ (tgt := 19) dX3_isAt_12 (by decide) (rfl) (rfl) (by omega) (by omega) (fun h12 => ?_) (fun h12 => ?_)
  · refine pw_iconst (v := nI 0) dX3_isAt_19 (by decide) ?_
    exact pw_zret dX3_isAt_20 rfl (by decide) (k0 h12)
  · refine pw_iconst (v := nI 1) dX3_isAt_15 (by decide) ?_
    refine pw_goto (tgt := 20) dX3_isAt_16 (by decide) ?_
    exact pw_zret dX3_isAt_20 rfl (by decide) (k1 h12)

set_option maxRecDepth 20000 in
set_option maxHeartbeats 4000000 in
theorem c_X3_refuse {l : Launch} {E : pmE} {d : Nat} {S : pmS} {I : pmI} {J : pmJ} {P : pmP} {Q : Option Value → pmS → pmI → pmJ → pmP → Prop} (hG : sh_St S) (hP : gr_St P) (hd : 1 ≤ d) {tx : Nat → Nat} {n cnt : Nat} {pa : List Int64} (hb : ∀ j, j < n → tx j < 128) {a op : Nat} {L : List dD} (hs : rs tx n cnt pa I J a op L) (ha : a ≤ cnt) (hl : L.length ≤ 121) (k : ∀ I', fs tx n cnt pa I' J a → fr8 I I' J J → Q none S I' J P) : pm_Met l E yX3_refuse cX3_refuse 1 none d 0 0 [.ref 8] S I J P Q := by
  unfold pm_Met
  refine pm_lvs (lv' := [(0, _)]) rfl ?_
  refine pw_aload_n dX3_refuse_0 rfl ?_
  refine pw_getI fX3_45 dX3_refuse_1 (sh_lt hG (by decide)) (sh_tg hG 6 rfl) rfl ?_
  refine pw_ti (z := -5) hs.2.2.2.2.1 ?_
  refine pw_if_ge (tgt := 22) dX3_refuse_4 (by decide) (fun h => absurd h (by decide)) (fun h4 => ?_)
  refine pw_aload_n dX3_refuse_7 rfl ?_
  refine pw_aload_n dX3_refuse_8 rfl ?_
  refine pw_getR fX3_24 dX3_refuse_9 (sh_lt hG (by decide)) (sh_tg hG 6 rfl) rfl (gr_at hP 8 rfl) ?_
  refine pw_aload_n dX3_refuse_12 rfl ?_
  refine pw_getI fX3_39 dX3_refuse_13 (sh_lt hG (by decide)) (sh_tg hG 6 rfl) rfl ?_
  refine pw_ti (z := nI a) hs.2.2.1 ?_
  refine pw_callV (as := [_]) (kc' := 0) (ks' := 0) lX3_132 dX3_refuse_16 rfl rfl (sh_lt hG (by decide)) (sh_tg hG 2 rfl) (Nat.le_of_ble_eq_true rfl) (by omega) (Nat.le_of_ble_eq_true rfl) (Nat.zero_le _) (Nat.zero_le _) ?_
  refine c_pl hG hP hs.1 ha ?_
  refine pw_putI fX3_45 dX3_refuse_19 (Or.inl rfl) (by decide) (sh_lt hG (by decide)) (sh_tg hG 6 rfl) rfl ?_
  refine pw_aload_n dX3_refuse_22 rfl ?_
  refine pw_aload_n dX3_refuse_23 rfl ?_
  refine pw_getR fX3_24 dX3_refuse_24 (sh_lt hG (by decide)) (sh_tg hG 6 rfl) rfl (gr_at hP 8 rfl) ?_
  refine pw_callV (as := []) (kc' := 0) (ks' := 0) lX3_174 dX3_refuse_27 rfl rfl (sh_lt hG (by decide)) (sh_tg hG 2 rfl) (Nat.le_of_ble_eq_true rfl) (by omega) (Nat.le_of_ble_eq_true rfl) (Nat.zero_le _) (Nat.zero_le _) ?_
  unfold pm_Met
  refine pm_lvs (lv' := [(0, _)]) rfl ?_
  refine pw_aload_n dX7_size_0 rfl ?_
  refine pw_getI fX7_20 dX7_size_1 (sh_lt hG (by decide)) (sh_tg hG 2 rfl) rfl ?_
  refine pw_iret dX7_size_4 rfl ?_
  refine pw_ti (z := nI cnt) (by rw [pm_u_ne (by decide)]; exact hs.1.1) ?_
  refine pw_putI fX3_39 dX3_refuse_30 (Or.inl rfl) (by decide) (sh_lt hG (by decide)) (sh_tg hG 6 rfl) rfl ?_
  exact pw_vret dX3_refuse_33 rfl (k _ (hs.refuse hl) ((fr8.put (by decide) (by decide)).trans (fr8.put (by decide) (by decide))))

set_option maxRecDepth 20000 in
set_option maxHeartbeats 4000000 in
theorem c_X3_refuseF {l : Launch} {E : pmE} {d : Nat} {S : pmS} {I : pmI} {J : pmJ} {P : pmP} {Q : Option Value → pmS → pmI → pmJ → pmP → Prop} (hG : sh_St S) (hP : gr_St P) (hd : 1 ≤ d) {tx : Nat → Nat} {n cnt : Nat} {pa : List Int64} (hn9 : n ≤ 120) (hb : ∀ j, j < n → tx j < 128) {e : Nat} (hs : fs tx n cnt pa I J e) (k : ∀ I', fs tx n cnt pa I' J e → fr8 I I' J J → Q none S I' J P) : pm_Met l E yX3_refuse cX3_refuse 1 none d 0 0 [.ref 8] S I J P Q := by
  unfold pm_Met
  refine pm_lvs (lv' := [(0, _)]) rfl ?_
  refine pw_aload_n dX3_refuse_0 rfl ?_
  refine pw_getI fX3_45 dX3_refuse_1 (sh_lt hG (by decide)) (sh_tg hG 6 rfl) rfl ?_
  have hple := tk_p_le (tx := tx) (n := n) e
  refine pw_ti (z := nI (tk_p tx n e)) hs.2.2.2.1 ?_
  refine pw_if_ge (tgt := 22) dX3_refuse_4 (by decide) (fun h4 => ?_) (fun h => absurd (nI_pos' (by omega)) h)
  refine pw_aload_n dX3_refuse_22 rfl ?_
  refine pw_aload_n dX3_refuse_23 rfl ?_
  refine pw_getR fX3_24 dX3_refuse_24 (sh_lt hG (by decide)) (sh_tg hG 6 rfl) rfl (gr_at hP 8 rfl) ?_
  refine pw_callV (as := []) (kc' := 0) (ks' := 0) lX3_174 dX3_refuse_27 rfl rfl (sh_lt hG (by decide)) (sh_tg hG 2 rfl) (Nat.le_of_ble_eq_true rfl) (by omega) (Nat.le_of_ble_eq_true rfl) (Nat.zero_le _) (Nat.zero_le _) ?_
  unfold pm_Met
  refine pm_lvs (lv' := [(0, _)]) rfl ?_
  refine pw_aload_n dX7_size_0 rfl ?_
  refine pw_getI fX7_20 dX7_size_1 (sh_lt hG (by decide)) (sh_tg hG 2 rfl) rfl ?_
  refine pw_iret dX7_size_4 rfl ?_
  refine pw_ti (z := nI cnt) hs.1.1 ?_
  refine pw_putI fX3_39 dX3_refuse_30 (Or.inl rfl) (by decide) (sh_lt hG (by decide)) (sh_tg hG 6 rfl) rfl ?_
  exact pw_vret dX3_refuse_33 rfl (k _ hs.again (fr8.put (by decide) (by decide)))

set_option maxRecDepth 20000 in
set_option maxHeartbeats 4000000 in
theorem c_X3_expect {l : Launch} {E : pmE} {d : Nat} {S : pmS} {I : pmI} {J : pmJ} {P : pmP} {Q : Option Value → pmS → pmI → pmJ → pmP → Prop} (hG : sh_St S) (hP : gr_St P) (hd : 3 ≤ d) {tx : Nat → Nat} {n cnt : Nat} {pa : List Int64} (hb : ∀ j, j < n → tx j < 128) {a op : Nat} {L : List dD} (hs : rs tx n cnt pa I J a op L) (ha : a ≤ cnt) (hl : L.length ≤ 121) {c : Nat} (hc : c < 128) (k1 : tk_k tx n a = c → ∀ I', rs tx n cnt pa I' J (a + 1) op L → fr8 I I' J J → Q none S I' J P) (k0 : ¬ tk_k tx n a = c → ∀ I', fs tx n cnt pa I' J a → fr8 I I' J J → Q none S I' J P) : pm_Met l E yX3_expect cX3_expect 2 none d 0 0 [.ref 8, .int (nI c)] S I J P Q := by
  unfold pm_Met
  refine pm_lvs (lv' := [(0, _), (1, _)]) rfl ?_
  refine pw_aload_n dX3_expect_0 rfl ?_
  refine pw_iload_n dX3_expect_1 rfl ?_
  refine pw_callV (as := [_]) (kc' := 0) (ks' := 0) lX3_66 dX3_expect_2 rfl rfl (sh_lt hG (by decide)) (sh_tg hG 6 rfl) (Nat.le_of_ble_eq_true rfl) (by omega) (Nat.le_of_ble_eq_true rfl) (Nat.zero_le _) (Nat.zero_le _) ?_
  refine c_X3_isAt hG hP hs.1 hb (by omega) hs.2.2.1 ha hc (fun hq1 => ?_) (fun hq0 => ?_)
  · refine pw_if_eq (tgt := 21) dX3_expect_5 (by decide) (fun h => absurd h (by decide)) (fun h5 => ?_)
    refine pw_aload_n dX3_expect_8 rfl ?_
    refine pw_dup dX3_expect_9 rfl ?_
    refine pw_getI fX3_39 dX3_expect_10 (sh_lt hG (by decide)) (sh_tg hG 6 rfl) rfl ?_
    refine pw_iconst (v := nI 1) dX3_expect_13 (by decide) ?_
    refine pw_iadd dX3_expect_14 ?_
    refine pw_ti (z := nI (a + 1)) (by rw [hs.2.2.1]; exact nI_add a 1) ?_
    refine pw_putI fX3_39 dX3_expect_15 (Or.inl rfl) (by decide) (sh_lt hG (by decide)) (sh_tg hG 6 rfl) rfl ?_
    refine pw_goto (tgt := 25) dX3_expect_18 (by decide) ?_
    exact pw_vret dX3_expect_25 rfl (k1 hq1 _ (hs.at' (a + 1)) (fr8.put (by decide) (by decide)))
  · refine pw_if_eq (tgt := 21) dX3_expect_5 (by decide) (fun h5 => ?_) (fun h => absurd (by decide) h)
    refine pw_aload_n dX3_expect_21 rfl ?_
    refine pw_callV (as := []) (kc' := 0) (ks' := 0) lX3_70 dX3_expect_22 rfl rfl (sh_lt hG (by decide)) (sh_tg hG 6 rfl) (Nat.le_of_ble_eq_true rfl) (by omega) (Nat.le_of_ble_eq_true rfl) (Nat.zero_le _) (Nat.zero_le _) ?_
    refine c_X3_refuse hG hP (by omega) hb hs ha hl (fun I' hF hf => ?_)
    exact pw_vret dX3_expect_25 rfl (k0 hq0 _ hF hf)
set_option maxRecDepth 20000 in
set_option maxHeartbeats 4000000 in
theorem c_X3_expectF {l : Launch} {E : pmE} {d : Nat} {S : pmS} {I : pmI} {J : pmJ} {P : pmP} {Q : Option Value → pmS → pmI → pmJ → pmP → Prop} (hG : sh_St S) (hP : gr_St P) (hd : 3 ≤ d) {tx : Nat → Nat} {n cnt : Nat} {pa : List Int64} (hn9 : n ≤ 120) (hb : ∀ j, j < n → tx j < 128) {e : Nat} (hs : fs tx n cnt pa I J e) {c : Nat} (hc : c < 128) (hc0 : c ≠ 0) (k : ∀ I', fs tx n cnt pa I' J e → fr8 I I' J J → Q none S I' J P) : pm_Met l E yX3_expect cX3_expect 2 none d 0 0 [.ref 8, .int (nI c)] S I J P Q := by
  unfold pm_Met
  refine pm_lvs (lv' := [(0, _), (1, _)]) rfl ?_
  have hk0 : tk_k tx n cnt = 0 := if_neg (by rw [hs.1.2.2.1]; omega)
  refine pw_aload_n dX3_expect_0 rfl ?_
  refine pw_iload_n dX3_expect_1 rfl ?_
  refine pw_callV (as := [_]) (kc' := 0) (ks' := 0) lX3_66 dX3_expect_2 rfl rfl (sh_lt hG (by decide)) (sh_tg hG 6 rfl) (Nat.le_of_ble_eq_true rfl) (by omega) (Nat.le_of_ble_eq_true rfl) (Nat.zero_le _) (Nat.zero_le _) ?_
  refine c_X3_isAt hG hP hs.1 hb (by omega) hs.2.2.1 (Nat.le_refl _) hc (fun hq1 => absurd (hk0.symm.trans hq1).symm hc0) (fun hq0 => ?_)
  refine pw_if_eq (tgt := 21) dX3_expect_5 (by decide) (fun h5 => ?_) (fun h => absurd (by decide) h)
  refine pw_aload_n dX3_expect_21 rfl ?_
  refine pw_callV (as := []) (kc' := 0) (ks' := 0) lX3_70 dX3_expect_22 rfl rfl (sh_lt hG (by decide)) (sh_tg hG 6 rfl) (Nat.le_of_ble_eq_true rfl) (by omega) (Nat.le_of_ble_eq_true rfl) (Nat.zero_le _) (Nat.zero_le _) ?_
  refine c_X3_refuseF hG hP (by omega) hn9 hb hs (fun I' hF hf => ?_)
  exact pw_vret dX3_expect_25 rfl (k _ hF hf)
set_option maxRecDepth 20000 in
set_option maxHeartbeats 4000000 in
theorem c_X3_enter {l : Launch} {E : pmE} {d : Nat} {S : pmS} {I : pmI} {J : pmJ} {P : pmP} {Q : Option Value → pmS → pmI → pmJ → pmP → Prop} (hG : sh_St S) (hP : gr_St P) (hd : 3 ≤ d) {tx : Nat → Nat} {n cnt : Nat} {pa : List Int64} (hb : ∀ j, j < n → tx j < 128) {a op : Nat} {L : List dD} (hs : rs tx n cnt pa I J a op L) (ha : a ≤ cnt) (hl : L.length ≤ 121) (ho : op ≤ 12) (k1 : op < 12 → ∀ I', rs tx n cnt pa I' J (a + 1) (op + 1) L → fr8 I I' J J → Q (some (.int (nI 1))) S I' J P) (k0 : 12 ≤ op → ∀ I', fs tx n cnt pa I' J a → fr8 I I' J J → Q (some (.int (nI 0))) S I' J P) : pm_Met l E yX3_enter cX3_enter 1 (some .boolean) d 0 0 [.ref 8] S I J P Q := by
  unfold pm_Met
  refine pm_lvs (lv' := [(0, _)]) rfl ?_
  refine pw_aload_n dX3_enter_0 rfl ?_
  refine pw_getI fX3_42 dX3_enter_1 (sh_lt hG (by decide)) (sh_tg hG 6 rfl) rfl ?_
  refine pw_bipush (v := nI 12) dX3_enter_4 (by decide) ?_
  refine pw_icmpN_lt _ _ (tgt := 15) dX3_enter_6 (by decide) (hs.2.2.2.1) (rfl) (by omega) (by omega) (fun h6 => ?_) (fun h6 => ?_)
  · refine pw_aload_n dX3_enter_15 rfl ?_
    refine pw_dup dX3_enter_16 rfl ?_
    refine pw_getI fX3_42 dX3_enter_17 (sh_lt hG (by decide)) (sh_tg hG 6 rfl) rfl ?_
    refine pw_iconst (v := nI 1) dX3_enter_20 (by decide) ?_
    refine pw_iadd dX3_enter_21 ?_
    refine pw_ti (z := nI (op + 1)) (by rw [hs.2.2.2.1]; exact nI_add op 1) ?_
    refine pw_putI fX3_42 dX3_enter_22 (Or.inl rfl) (by decide) (sh_lt hG (by decide)) (sh_tg hG 6 rfl) rfl ?_
    refine pw_aload_n dX3_enter_25 rfl ?_
    refine pw_dup dX3_enter_26 rfl ?_
    refine pw_getI fX3_39 dX3_enter_27 (sh_lt hG (by decide)) (sh_tg hG 6 rfl) rfl ?_
    refine pw_iconst (v := nI 1) dX3_enter_30 (by decide) ?_
    refine pw_iadd dX3_enter_31 ?_
    refine pw_ti (z := nI (a + 1)) (by rw [pm_u_eq, pm_up_ne (by decide), hs.2.2.1]; exact nI_add a 1) ?_
    refine pw_putI fX3_39 dX3_enter_32 (Or.inl rfl) (by decide) (sh_lt hG (by decide)) (sh_tg hG 6 rfl) rfl ?_
    refine pw_iconst (v := nI 1) dX3_enter_35 (by decide) ?_
    exact pw_zret dX3_enter_36 rfl (by decide) (k1 h6 _ ((hs.op' (op + 1)).at' (a + 1)) ((fr8.put (by decide) (by decide)).trans (fr8.put (by decide) (by decide))))
  · refine pw_aload_n dX3_enter_9 rfl ?_
    refine pw_callV (as := []) (kc' := 0) (ks' := 0) lX3_70 dX3_enter_10 rfl rfl (sh_lt hG (by decide)) (sh_tg hG 6 rfl) (Nat.le_of_ble_eq_true rfl) (by omega) (Nat.le_of_ble_eq_true rfl) (Nat.zero_le _) (Nat.zero_le _) ?_
    refine c_X3_refuse hG hP (by omega) hb hs ha hl (fun I' hF hf => ?_)
    refine pw_iconst (v := nI 0) dX3_enter_13 (by decide) ?_
    exact pw_zret dX3_enter_14 rfl (by decide) (k0 h6 _ hF hf)
set_option maxRecDepth 20000 in
set_option maxHeartbeats 4000000 in
theorem c_X3_readName {l : Launch} {E : pmE} {d : Nat} {S : pmS} {I : pmI} {J : pmJ} {P : pmP} {Q : Option Value → pmS → pmI → pmJ → pmP → Prop} (hG : sh_St S) (hP : gr_St P) (hd : 4 ≤ d) {tx : Nat → Nat} {n cnt : Nat} {pa : List Int64} (hb : ∀ j, j < n → tx j < 128) {a op : Nat} {L : List dD} (hs : rs tx n cnt pa I J a op L) (ha : a ≤ cnt) (hl : L.length ≤ 121) (k1 : tk_k tx n a = 97 → ∀ I', rs tx n cnt pa I' J (a + 1) op L → fr8 I I' J J → Q (some (.long (tk_v tx n a))) S I' J P) (k0 : ¬ tk_k tx n a = 97 → ∀ I' v, fs tx n cnt pa I' J a → fr8 I I' J J → Q (some (.long v)) S I' J P) : pm_Met l E yX3_readName cX3_readName 3 (some .long) d 0 0 [.ref 8] S I J P Q := by
  unfold pm_Met
  refine pm_lvs (lv' := [(0, _)]) rfl ?_
  refine pw_aload_n dX3_readName_0 rfl ?_
  refine pw_getR fX3_24 dX3_readName_1 (sh_lt hG (by decide)) (sh_tg hG 6 rfl) rfl (gr_at hP 8 rfl) ?_
  refine pw_aload_n dX3_readName_4 rfl ?_
  refine pw_getI fX3_39 dX3_readName_5 (sh_lt hG (by decide)) (sh_tg hG 6 rfl) rfl ?_
  refine pw_ti (z := nI a) hs.2.2.1 ?_
  refine pw_callV (as := [_]) (kc' := 0) (ks' := 0) lX3_115 dX3_readName_8 rfl rfl (sh_lt hG (by decide)) (sh_tg hG 2 rfl) (Nat.le_of_ble_eq_true rfl) (by omega) (Nat.le_of_ble_eq_true rfl) (Nat.zero_le _) (Nat.zero_le _) ?_
  refine c_co hG hP hs.1 ha ?_
  refine pw_lstore_n (lv' := [(1, _), (0, _)]) dX3_readName_11 (by decide) rfl ?_
  refine pw_aload_n dX3_readName_12 rfl ?_
  refine pw_bipush (v := nI 97) dX3_readName_13 (by decide) ?_
  refine pw_callV (as := [_]) (kc' := 0) (ks' := 0) lX3_106 dX3_readName_15 rfl rfl (sh_lt hG (by decide)) (sh_tg hG 6 rfl) (Nat.le_of_ble_eq_true rfl) (by omega) (Nat.le_of_ble_eq_true rfl) (Nat.zero_le _) (Nat.zero_le _) ?_
  refine c_X3_expect hG hP (by omega) hb hs ha hl (c := 97) (by decide) (fun hq1 I' hS hf => ?_) (fun hq0 I' hF hf => ?_)
  · refine pw_lload_n dX3_readName_18 rfl ?_
    exact pw_lret dX3_readName_19 rfl (k1 hq1 _ hS hf)
  · refine pw_lload_n dX3_readName_18 rfl ?_
    exact pw_lret dX3_readName_19 rfl (k0 hq0 _ _ hF hf)
set_option maxRecDepth 20000 in
set_option maxHeartbeats 4000000 in
theorem c_X3_readNameF {l : Launch} {E : pmE} {d : Nat} {S : pmS} {I : pmI} {J : pmJ} {P : pmP} {Q : Option Value → pmS → pmI → pmJ → pmP → Prop} (hG : sh_St S) (hP : gr_St P) (hd : 4 ≤ d) {tx : Nat → Nat} {n cnt : Nat} {pa : List Int64} (hn9 : n ≤ 120) (hb : ∀ j, j < n → tx j < 128) {e : Nat} (hs : fs tx n cnt pa I J e) (k : ∀ I' v, fs tx n cnt pa I' J e → fr8 I I' J J → Q (some (.long v)) S I' J P) : pm_Met l E yX3_readName cX3_readName 3 (some .long) d 0 0 [.ref 8] S I J P Q := by
  unfold pm_Met
  refine pm_lvs (lv' := [(0, _)]) rfl ?_
  refine pw_aload_n dX3_readName_0 rfl ?_
  refine pw_getR fX3_24 dX3_readName_1 (sh_lt hG (by decide)) (sh_tg hG 6 rfl) rfl (gr_at hP 8 rfl) ?_
  refine pw_aload_n dX3_readName_4 rfl ?_
  refine pw_getI fX3_39 dX3_readName_5 (sh_lt hG (by decide)) (sh_tg hG 6 rfl) rfl ?_
  refine pw_ti (z := nI cnt) hs.2.2.1 ?_
  refine pw_callV (as := [_]) (kc' := 0) (ks' := 0) lX3_115 dX3_readName_8 rfl rfl (sh_lt hG (by decide)) (sh_tg hG 2 rfl) (Nat.le_of_ble_eq_true rfl) (by omega) (Nat.le_of_ble_eq_true rfl) (Nat.zero_le _) (Nat.zero_le _) ?_
  refine c_co hG hP hs.1 (Nat.le_refl _) ?_
  refine pw_lstore_n (lv' := [(1, _), (0, _)]) dX3_readName_11 (by decide) rfl ?_
  refine pw_aload_n dX3_readName_12 rfl ?_
  refine pw_bipush (v := nI 97) dX3_readName_13 (by decide) ?_
  refine pw_callV (as := [_]) (kc' := 0) (ks' := 0) lX3_106 dX3_readName_15 rfl rfl (sh_lt hG (by decide)) (sh_tg hG 6 rfl) (Nat.le_of_ble_eq_true rfl) (by omega) (Nat.le_of_ble_eq_true rfl) (Nat.zero_le _) (Nat.zero_le _) ?_
  refine c_X3_expectF hG hP (by omega) hn9 hb hs (c := 97) (by decide) (by decide) (fun I' hF hf => ?_)
  refine pw_lload_n dX3_readName_18 rfl ?_
  exact pw_lret dX3_readName_19 rfl (k _ _ hF hf)
theorem ps_arg_s {pa : List Int64} {v : Int64} : ∀ (i k : Nat), ps_arg pa v i = some k → i ≤ k ∧ k < i + pa.length := by
  induction pa with
  | nil => intro i k h; cases h
  | cons a t ih =>
    intro i k h
    unfold ps_arg at h
    split at h
    · cases h
      exact ⟨Nat.le_refl _, by show i < i + (t.length + 1); omega⟩
    · have := ih (i + 1) k h
      show i ≤ k ∧ k < i + (t.length + 1)
      omega
theorem drop_get {pa t : List Int64} {j : Nat} {x : Int64} (h : pa.drop j = x :: t) : pa[j]? = some x ∧ pa.drop (j + 1) = t ∧ j < pa.length := by
  have h1 : pa[j]? = (pa.drop j)[0]? := by rw [List.getElem?_drop]; rfl
  refine ⟨by rw [h1, h]; rfl, by rw [← List.tail_drop, h]; rfl, ?_⟩
  rcases Nat.lt_or_ge j pa.length with h2 | h2
  · exact h2
  · rw [List.drop_eq_nil_of_le h2] at h
    cases h
set_option maxRecDepth 20000 in
set_option maxHeartbeats 4000000 in
theorem c_X3_partOf_lp {l : Launch} {E : pmE} {d : Nat} {S : pmS} {I : pmI} {J : pmJ} {P : pmP} {Q : Option Value → pmS → pmI → pmJ → pmP → Prop} (hG : sh_St S) (hP : gr_St P) {pa : List Int64} (hs : rdP I J pa) {v : Int64} : ∀ (t : List Int64) (j : Nat), pa.drop j = t → j ≤ 3 → Q (some (.int (match ps_arg t v j with | some i => nI i | none => -5))) S I J P → pm_W l E yX3_partOf cX3_partOf 4 (some .int) d 0 0 2 [(3, .int (nI j)), (0, .ref 8), (1, .long v)] [] S I J P (pm_N E Q)
  | [], j, hj, hj3, kk => by
    have hle : pa.length ≤ j := List.drop_eq_nil_iff.mp hj
    have h3 := hs.2.1
    refine pw_iload_n dX3_partOf_2 rfl ?_
    refine pw_aload_n dX3_partOf_3 rfl ?_
    refine pw_getI fX3_31 dX3_partOf_4 (sh_lt hG (by decide)) (sh_tg hG 6 rfl) rfl ?_
    refine pw_icmpN_ge _ _ (tgt := 29) dX3_partOf_7 (by decide) (rfl) (hs.1) (by omega) (by omega) (fun h7 => ?_) (fun h7 => absurd h7 (by omega))
    refine pw_bipush (v := -5) dX3_partOf_29 (by decide) ?_
    exact pw_iret dX3_partOf_31 rfl (kk)
  | x :: t, j, hj, hj3, kk => by
    obtain ⟨g1, g2, g3⟩ := drop_get hj
    have h3 := hs.2.1
    unfold ps_arg at kk
    refine pw_iload_n dX3_partOf_2 rfl ?_
    refine pw_aload_n dX3_partOf_3 rfl ?_
    refine pw_getI fX3_31 dX3_partOf_4 (sh_lt hG (by decide)) (sh_tg hG 6 rfl) rfl ?_
    refine pw_icmpN_ge _ _ (tgt := 29) dX3_partOf_7 (by decide) (rfl) (hs.1) (by omega) (by omega) (fun h7 => absurd h7 (by omega)) (fun h7 => ?_)
    refine pw_aload_n dX3_partOf_10 rfl ?_
    refine pw_getR fX3_20 dX3_partOf_11 (sh_lt hG (by decide)) (sh_tg hG 6 rfl) rfl (gr_at hP 10 rfl) ?_
    refine pw_iload_n dX3_partOf_14 rfl ?_
    refine pw_laldN j dX3_partOf_15 (sh_lt hG (by decide)) (sh_sh hG 12 rfl) (by decide) (rfl) (by omega) ?_
    refine pw_tj (z := x) (hs.2.2 j x g1) ?_
    refine pw_lload_n dX3_partOf_16 rfl ?_
    refine pw_lif_ne (tgt := 23) dX3_partOf_17 dX3_partOf_18 (by decide) (fun h18 => ?_) (fun h18 => ?_)
    · refine pw_iinc (lv' := [(3, _), (0, _), (1, _)]) dX3_partOf_23 rfl (by decide) rfl ?_
      refine pw_goto (tgt := 2) dX3_partOf_26 (by decide) ?_
      refine pw_sub [0, 1, 2] rfl ?_
      rw [show nI j + Int32.ofInt 1 = nI (j + 1) from nI_1 j]
      rw [if_neg h18] at kk
      exact c_X3_partOf_lp hG hP hs t (j + 1) g2 (by omega) kk
    · refine pw_iload_n dX3_partOf_21 rfl ?_
      exact pw_iret dX3_partOf_22 rfl (by rw [if_pos h18] at kk; exact kk)
set_option maxRecDepth 20000 in
set_option maxHeartbeats 4000000 in
theorem c_X3_partOf {l : Launch} {E : pmE} {d : Nat} {S : pmS} {I : pmI} {J : pmJ} {P : pmP} {Q : Option Value → pmS → pmI → pmJ → pmP → Prop} (hG : sh_St S) (hP : gr_St P) {pa : List Int64} (hs : rdP I J pa) {v : Int64} (kk : Q (some (.int (match ps_arg pa v 0 with | some i => nI i | none => -5))) S I J P) : pm_Met l E yX3_partOf cX3_partOf 4 (some .int) d 0 0 [.ref 8, .long v] S I J P Q := by
  unfold pm_Met
  refine pm_lvs (lv' := [(0, _), (1, _)]) rfl ?_
  refine pw_iconst (v := nI 0) dX3_partOf_0 (by decide) ?_
  refine pw_istore_n (lv' := [(3, _), (0, _), (1, _)]) dX3_partOf_1 (by decide) rfl ?_
  refine pw_sub [0, 1, 2] rfl ?_
  exact c_X3_partOf_lp hG hP hs pa 0 rfl (by omega) kk
