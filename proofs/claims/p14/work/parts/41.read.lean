/-- what read() leaves as it was -/
def frR (I I' : pmI) (J J' : pmJ) : Prop := (∀ a, a ≠ 8 → a ≠ 9 → a ≠ 10 → a ≠ 11 → a ≠ 12 → I' a = I a) ∧ I' 9 5 = I 9 5 ∧ ∀ a, a ≠ 8 → a ≠ 13 → a ≠ 14 → J' a = J a
theorem frR.trans {I I1 I2 : pmI} {J J1 J2 : pmJ} (h : frR I I1 J J1) (h' : frR I1 I2 J1 J2) : frR I I2 J J2 := ⟨fun a h1 h2 h3 h4 h5 => by rw [h'.1 a h1 h2 h3 h4 h5, h.1 a h1 h2 h3 h4 h5], by rw [h'.2.1, h.2.1], fun a h1 h2 h3 => by rw [h'.2.2 a h1 h2 h3, h.2.2 a h1 h2 h3]⟩
theorem frP.rr {I I' : pmI} {J J' : pmJ} (h : frP I I' J J') : frR I I' J J' := ⟨h.1, h.2.2.1, fun a _ h1 h2 => h.2.2.2 a h1 h2⟩
theorem frR.fm {I : pmI} {J : pmJ} {x : Int32} : frR I (pm_u I 8 4 x) J J := ⟨fun a h _ _ _ _ => pm_u_ne h, by rw [pm_u_ne (by decide)], fun _ _ _ _ => rfl⟩
theorem frR.dc {I : pmI} {J : pmJ} {v : Int64} : frR I I J (pm_u J 8 5 v) := ⟨fun _ _ _ _ _ _ => rfl, rfl, fun a h _ _ => pm_u_ne h⟩
def rQ (I0 : pmI) (J0 : pmJ) (I : pmI) (J : pmJ) (form : Nat) (dec : Int64) : Prop := frR I0 I J0 J ∧ I 8 4 = nI form ∧ J 8 5 = dec
theorem rQ.pp {I0 I I' : pmI} {J0 J J' : pmJ} {form : Nat} {dec : Int64} (h : rQ I0 J0 I J form dec) (hf : frP I I' J J') : rQ I0 J0 I' J' form dec := ⟨h.1.trans hf.rr, by rw [hf.2.1]; exact h.2.1, by rw [hf.2.2.2 8 (by decide) (by decide)]; exact h.2.2⟩
theorem rs.init {tx : Nat → Nat} {n cnt : Nat} {I : pmI} {J : pmJ} (h : tk_C tx n I J cnt) : rs tx n cnt [] (pm_u (pm_u (pm_u (pm_u (pm_u I 9 4 (nI 0)) 8 3 (nI 0)) 8 6 (nI 0)) 8 7 (nI 0)) 8 8 (-5)) (pm_u J 8 5 0) 0 0 [] := by
  refine ⟨h.mv (by repeat rw [pm_u_ne (by decide)]) (by repeat rw [pm_u_ne (by decide)]) (by repeat rw [pm_u_ne (by decide)]) (pm_u_ne (by decide)), ⟨?_, by decide, fun j v hv => nomatch hv⟩, ?_, ?_, ?_, ?_, fun j q hq => nomatch hq⟩
  · rw [pm_u_eq, pm_up_ne (by decide), pm_u_eq, pm_up_ne (by decide), pm_u_eq, pm_up_ne (by decide), pm_u_eq, pm_up_eq]; rfl
  · rw [pm_u_eq, pm_up_ne (by decide), pm_u_eq, pm_up_ne (by decide), pm_u_eq, pm_up_eq]
  · rw [pm_u_eq, pm_up_ne (by decide), pm_u_eq, pm_up_eq]
  · rw [pm_u_eq, pm_up_eq]
  · rw [pm_u_ne (by decide), pm_u_ne (by decide), pm_u_ne (by decide), pm_u_ne (by decide), pm_u_eq, pm_up_eq]; rfl
theorem frR.init {I : pmI} {J : pmJ} : frR I (pm_u (pm_u (pm_u (pm_u (pm_u I 9 4 (nI 0)) 8 3 (nI 0)) 8 6 (nI 0)) 8 7 (nI 0)) 8 8 (-5)) J (pm_u J 8 5 0) :=
  ⟨fun a h8 h9 _ _ _ => by rw [pm_u_ne h8, pm_u_ne h8, pm_u_ne h8, pm_u_ne h8, pm_u_ne h9], by rw [pm_u_ne (by decide), pm_u_ne (by decide), pm_u_ne (by decide), pm_u_ne (by decide), pm_u_eq, pm_up_ne (by decide)], fun a h _ _ => pm_u_ne h⟩
theorem rdD_ok {kd pl : Nat → Nat} {co : Nat → Int64} {f b : Nat} {pa : List Int64} : rdD kd pl co f (.ok (b, pa)) = (if kd b = 41 then (if kd (b + 1) = 61 then rx kd pl co f pa (b + 2) 2 (co 1) else some (.error (b + 1))) else some (.error b)) := rfl
theorem rdT_ok {kd : Nat → Nat} {co : Nat → Int64} {b : Nat} {pa : List Int64} : rdT kd co (.ok (b, pa)) = (if kd b = 41 then (if kd (b + 1) = 0 then some (.ok (3, co 1, pa, [])) else some (.error (b + 1))) else some (.error b)) := rfl
theorem fs.rf {tx : Nat → Nat} {n cnt : Nat} {pa : List Int64} {I : pmI} {J : pmJ} {e : Nat} (_ : fs tx n cnt pa I J e) : fr8 I I J J := fr8.refl
theorem lk_rd : ∀ k, k < 128 → k ≠ 100 → k ≠ 116 → k ≠ 118 → Op.lookupswitch.offset [(100, 42), (116, 49), (118, 35)] 56 ((k : Nat) : Int) = 56 := by
  decide
set_option maxRecDepth 20000 in
set_option maxHeartbeats 4000000 in
theorem c_X3_read {l : Launch} {E : pmE} {d : Nat} {S : pmS} {I : pmI} {J : pmJ} {P : pmP} {Q : Option Value → pmS → pmI → pmJ → pmP → Prop} (hG : sh_St S) (hP : gr_St P) (hd : 180 ≤ d) {tx : Nat → Nat} {n cnt : Nat} (hn9 : n ≤ 120) (hb : ∀ j, j < n → tx j < 128) (hC : tk_C tx n I J cnt) {f : Nat} {r : Except Nat (Nat × Int64 × List Int64 × List dD)} (hr : rd (tk_k tx n) (tk_p tx n) (tk_v tx n) f = some r) (k1 : ∀ form dec pa L I' J', r = .ok (form, dec, pa, L) → I' 8 4 = nI form → J' 8 5 = dec → rdP I' J' pa → cd I' J' (L ++ [(13, 0, 0, 0)]) → L.length ≤ 120 → frR I I' J J' → Q (some (.int (-5))) S I' J' P) (k0 : ∀ e I' J', r = .error e → frR I I' J J' → Q (some (.int (nI (tk_p tx n e)))) S I' J' P) : pm_Met l E yX3_read cX3_read 1 (some .int) d 0 0 [.ref 8] S I J P Q := by
  unfold pm_Met
  refine pm_lvs (lv' := [(0, _)]) rfl ?_
  have hcn := hC.2.1
  have hkc := (tk_k_c (tx := tx) (n := n) (i := 0) hb).1
  have hS0 := rs.init hC
  have hR := frR.init (I := I) (J := J)
  unfold rd at hr
  refine pw_aload_n dX3_read_0 rfl ?_
  refine pw_getR fX3_14 dX3_read_1 (sh_lt hG (by decide)) (sh_tg hG 6 rfl) rfl (gr_at hP 9 rfl) ?_
  refine pw_callV (as := []) (kc' := 0) (ks' := 0) lX3_28 dX3_read_4 rfl rfl (sh_lt hG (by decide)) (sh_tg hG 7 rfl) (Nat.le_of_ble_eq_true rfl) (by omega) (Nat.le_of_ble_eq_true rfl) (Nat.zero_le _) (Nat.zero_le _) ?_
  unfold pm_Met
  refine pm_lvs (lv' := [(0, _)]) rfl ?_
  refine pw_aload_n dX0_clear_0 rfl ?_
  refine pw_iconst (v := nI 0) dX0_clear_1 (by decide) ?_
  refine pw_putI fX0_25 dX0_clear_2 (Or.inl rfl) (by decide) (sh_lt hG (by decide)) (sh_tg hG 7 rfl) rfl ?_
  refine pw_vret dX0_clear_5 rfl ?_
  refine pw_aload_n dX3_read_7 rfl ?_
  refine pw_iconst (v := nI 0) dX3_read_8 (by decide) ?_
  refine pw_putI fX3_31 dX3_read_9 (Or.inl rfl) (by decide) (sh_lt hG (by decide)) (sh_tg hG 6 rfl) rfl ?_
  refine pw_aload_n dX3_read_12 rfl ?_
  refine pw_lconst (v := 0) dX3_read_13 (by decide) ?_
  refine pw_putJ fX3_35 dX3_read_14 (Or.inl rfl) (by decide) (sh_lt hG (by decide)) (sh_tg hG 6 rfl) rfl ?_
  refine pw_aload_n dX3_read_17 rfl ?_
  refine pw_iconst (v := nI 0) dX3_read_18 (by decide) ?_
  refine pw_putI fX3_39 dX3_read_19 (Or.inl rfl) (by decide) (sh_lt hG (by decide)) (sh_tg hG 6 rfl) rfl ?_
  refine pw_aload_n dX3_read_22 rfl ?_
  refine pw_iconst (v := nI 0) dX3_read_23 (by decide) ?_
  refine pw_putI fX3_42 dX3_read_24 (Or.inl rfl) (by decide) (sh_lt hG (by decide)) (sh_tg hG 6 rfl) rfl ?_
  refine pw_aload_n dX3_read_27 rfl ?_
  refine pw_bipush (v := -5) dX3_read_28 (by decide) ?_
  refine pw_putI fX3_45 dX3_read_30 (Or.inl rfl) (by decide) (sh_lt hG (by decide)) (sh_tg hG 6 rfl) rfl ?_
  refine pw_aload_n dX3_read_33 rfl ?_
  refine pw_getR fX3_24 dX3_read_34 (sh_lt hG (by decide)) (sh_tg hG 6 rfl) rfl (gr_at hP 8 rfl) ?_
  refine pw_iconst (v := nI 0) dX3_read_37 (by decide) ?_
  refine pw_callV (as := [_]) (kc' := 0) (ks' := 0) lX3_48 dX3_read_38 rfl rfl (sh_lt hG (by decide)) (sh_tg hG 2 rfl) (Nat.le_of_ble_eq_true rfl) (by omega) (Nat.le_of_ble_eq_true rfl) (Nat.zero_le _) (Nat.zero_le _) ?_
  refine c_kd hG hP hS0.1 (Nat.zero_le _) ?_
  by_cases h118 : tk_k tx n 0 = 118
  · rw [if_pos h118] at hr
    have hcnt := tk_cnt hC (a := 0) (by rw [h118]; decide)
    refine pw_ti (z := nI 118) (by rw [h118]) ?_
    have hS1 := (hS0.fm (nI 1)).at' 1
    have hR := (hR.trans (frR.fm (x := nI 1))).trans (fr8.put (k := 6) (x := nI 1) (by decide) (by decide)).pp.rr
    refine pw_lookup (off := 35) (tgt := 76) dX3_read_41 (by decide) (by decide) (by decide) ?_
    refine pw_aload_n dX3_read_76 rfl ?_
    refine pw_callV (as := []) (kc' := 0) (ks' := 0) lX3_54 dX3_read_77 rfl rfl (sh_lt hG (by decide)) (sh_tg hG 6 rfl) (Nat.le_of_ble_eq_true rfl) (by omega) (Nat.le_of_ble_eq_true rfl) (Nat.zero_le _) (Nat.zero_le _) ?_
    unfold pm_Met
    refine pm_lvs (lv' := [(0, _)]) rfl ?_
    refine pw_aload_n dX3_readVariable_0 rfl ?_
    refine pw_iconst (v := nI 1) dX3_readVariable_1 (by decide) ?_
    refine pw_putI fX3_77 dX3_readVariable_2 (Or.inl rfl) (by decide) (sh_lt hG (by decide)) (sh_tg hG 6 rfl) rfl ?_
    refine pw_aload_n dX3_readVariable_5 rfl ?_
    refine pw_dup dX3_readVariable_6 rfl ?_
    refine pw_getI fX3_39 dX3_readVariable_7 (sh_lt hG (by decide)) (sh_tg hG 6 rfl) rfl ?_
    refine pw_iconst (v := nI 1) dX3_readVariable_10 (by decide) ?_
    refine pw_iadd dX3_readVariable_11 ?_
    refine pw_ti (z := nI 1) (by rw [(hS0.fm (nI 1)).2.2.1]; exact nI_add 0 1) ?_
    refine pw_putI fX3_39 dX3_readVariable_12 (Or.inl rfl) (by decide) (sh_lt hG (by decide)) (sh_tg hG 6 rfl) rfl ?_
    refine pw_aload_n dX3_readVariable_15 rfl ?_
    refine pw_aload_n dX3_readVariable_16 rfl ?_
    refine pw_callV (as := []) (kc' := 0) (ks' := 0) lX3_102 dX3_readVariable_17 rfl rfl (sh_lt hG (by decide)) (sh_tg hG 6 rfl) (Nat.le_of_ble_eq_true rfl) (by omega) (Nat.le_of_ble_eq_true rfl) (Nat.zero_le _) (Nat.zero_le _) ?_
    refine c_X3_readName hG hP (by omega) hb hS1 (by omega) (Nat.zero_le _) (fun hn1 I3 hS3 hf3 => ?_) (fun hn0 I3 v3 hF hf3 => ?_)
    · rw [if_pos hn1] at hr
      have hc1 := tk_cnt hC (a := 1) (by rw [hn1]; decide)
      have hS4 : rs tx n cnt [] I3 _ 2 0 [] := hS3.dc (tk_v tx n 1)
      have hQ : rQ I J I3 _ 1 (tk_v tx n 1) := ⟨(hR.trans hf3.pp.rr).trans (frR.dc (v := tk_v tx n 1)), by rw [hf3.2.2.1, pm_u_eq, pm_up_ne (by decide), pm_u_eq, pm_up_eq], by rw [pm_u_eq, pm_up_eq]⟩
      refine pw_putJ fX3_35 dX3_readVariable_20 (Or.inl rfl) (by decide) (sh_lt hG (by decide)) (sh_tg hG 6 rfl) rfl ?_
      refine pw_aload_n dX3_readVariable_23 rfl ?_
      refine pw_bipush (v := nI 61) dX3_readVariable_24 (by decide) ?_
      refine pw_callV (as := [_]) (kc' := 0) (ks' := 0) lX3_66 dX3_readVariable_26 rfl rfl (sh_lt hG (by decide)) (sh_tg hG 6 rfl) (Nat.le_of_ble_eq_true rfl) (by omega) (Nat.le_of_ble_eq_true rfl) (Nat.zero_le _) (Nat.zero_le _) ?_
      refine c_X3_isAt hG hP hS4.1 hb (by omega) hS4.2.2.1 (by omega) (c := 61) (by decide) (fun hq1 => ?_) (fun hq0 => ?_)
      · rw [if_pos hq1] at hr
        have hc2 := tk_cnt hC (a := 2) (by rw [hq1]; decide)
        have hS5 := hS4.at' 3
        have hQ5 := hQ.pp (fr8.put (k := 6) (x := nI 3) (by decide) (by decide)).pp
        refine pw_if_eq (tgt := 49) dX3_readVariable_29 (by decide) (fun h => absurd h (by decide)) (fun hX3_readVariable_29 => ?_)
        refine pw_aload_n dX3_readVariable_32 rfl ?_
        refine pw_dup dX3_readVariable_33 rfl ?_
        refine pw_getI fX3_39 dX3_readVariable_34 (sh_lt hG (by decide)) (sh_tg hG 6 rfl) rfl ?_
        refine pw_iconst (v := nI 1) dX3_readVariable_37 (by decide) ?_
        refine pw_iadd dX3_readVariable_38 ?_
        refine pw_ti (z := nI 3) (by rw [hS4.2.2.1]; exact nI_add 2 1) ?_
        refine pw_putI fX3_39 dX3_readVariable_39 (Or.inl rfl) (by decide) (sh_lt hG (by decide)) (sh_tg hG 6 rfl) rfl ?_
        refine pw_aload_n dX3_readVariable_42 rfl ?_
        refine pw_callV (as := []) (kc' := 0) (ks' := 0) lX3_99 dX3_readVariable_43 rfl rfl (sh_lt hG (by decide)) (sh_tg hG 6 rfl) (Nat.le_of_ble_eq_true rfl) (by omega) (Nat.le_of_ble_eq_true rfl) (Nat.zero_le _) (Nat.zero_le _) ?_
        unfold rx at hr
        have hX := (rd_all (l := l) (E := E) (cnt := cnt) (pa := []) hG hP hn9 hb f).1.1
        rcases hps : ps (tk_k tx n) (tk_p tx n) (tk_v tx n) [] f 0 (3) 0 [] 0 with _ | (e | ⟨b, L⟩)
        · rw [hps] at hr
          cases hr
        · rw [hps] at hr
          refine hX _ _ _ _ _ _ _ _ hS5 (by omega) ⟨Nat.zero_le _, by omega⟩ (by omega) (by omega) hps ⟨(fun b' L' I' J' hh => nomatch hh), fun e' I' J' hh hF hff => ?_⟩
          cases hh
          have hR := hQ5.1
          refine pw_goto (tgt := 59) dX3_readVariable_46 (by decide) ?_
          refine pw_vret dX3_readVariable_59 rfl ?_
          refine pw_goto (tgt := 101) dX3_read_80 (by decide) ?_
          exact rd_endF hG hP hn9 hb hF (by omega) (fun I' J' hf => k0 (e) I' J' ((Option.some.inj hr).symm) (hR.trans (hff.trans hf).pp.rr))
        · rw [hps] at hr
          dsimp only at hr
          have g1 := ps_cnt hS5.1 (by omega) (by omega) hps
          have g1' := g1.2.2 (by omega)
          have g1c := ps_60 (by omega) hps
          refine hX _ _ _ _ _ _ _ _ hS5 (by omega) ⟨Nat.zero_le _, by omega⟩ (by omega) (by omega) hps ⟨fun b' L' I' J' hh hS9 hff => ?_, (fun e' I' J' hh => nomatch hh)⟩
          cases hh
          have hQ9 := hQ5.pp hff.pp
          refine pw_goto (tgt := 59) dX3_readVariable_46 (by decide) ?_
          refine pw_vret dX3_readVariable_59 rfl ?_
          refine pw_goto (tgt := 101) dX3_read_80 (by decide) ?_
          exact rd_end hG hP hb hS9 (g1.2.1) (by omega) (show L.length ≤ 120 by omega) (fun hz I' J' hc hf => k1 1 (_) [] (L) I' J' (by rw [if_pos hz] at hr; exact (Option.some.inj hr).symm) (hQ9.pp hf.pp).2.1 (hQ9.pp hf.pp).2.2 (hS9.2.1.fr hf) hc (by omega) (hQ9.pp hf.pp).1) (fun hz I' J' hf => k0 (b) I' J' (by rw [if_neg hz] at hr; exact (Option.some.inj hr).symm) (hQ9.pp hf.pp).1)
      · rw [if_neg hq0] at hr
        refine pw_if_eq (tgt := 49) dX3_readVariable_29 (by decide) (fun hX3_readVariable_29 => ?_) (fun h => absurd (by decide) h)
        refine pw_aload_n dX3_readVariable_49 rfl ?_
        refine pw_getR fX3_14 dX3_readVariable_50 (sh_lt hG (by decide)) (sh_tg hG 6 rfl) rfl (gr_at hP 9 rfl) ?_
        refine pw_bipush (v := nI 7) dX3_readVariable_53 (by decide) ?_
        refine pw_iconst (v := nI 0) dX3_readVariable_55 (by decide) ?_
        refine pw_callV (as := [_, _]) (kc' := 0) (ks' := 0) lX3_73 dX3_readVariable_56 rfl rfl (sh_lt hG (by decide)) (sh_tg hG 7 rfl) (Nat.le_of_ble_eq_true rfl) (by omega) (Nat.le_of_ble_eq_true rfl) (Nat.zero_le _) (Nat.zero_le _) ?_
        unfold pm_Met
        refine pm_lvs (lv' := [(0, _), (1, _), (2, _)]) rfl ?_
        refine pw_aload_n dX0_add_0 rfl ?_
        refine pw_iload_n dX0_add_1 rfl ?_
        refine pw_iload_n dX0_add_2 rfl ?_
        refine pw_iconst (v := nI 0) dX0_add_3 (by decide) ?_
        refine pw_lconst (v := 0) dX0_add_4 (by decide) ?_
        refine pw_callV (as := [_, _, _, _]) (kc' := 0) (ks' := 0) lX0_32 dX0_add_5 rfl rfl (sh_lt hG (by decide)) (sh_tg hG 7 rfl) (Nat.le_of_ble_eq_true rfl) (by omega) (Nat.le_of_ble_eq_true rfl) (Nat.zero_le _) (Nat.zero_le _) ?_
        refine c_X0_addWith hG hP hS4.2.2.2.2.2 (by decide) (x := 7) (y := 0) (c := 0) (fun I5 J5 hc5 hf5 => ?_)
        have hS5 := hS4.cd' hc5 hf5
        have hQ5 := hQ.pp (fr8.code hf5).pp
        refine pw_vret dX0_add_8 rfl ?_
        refine pw_vret dX3_readVariable_59 rfl ?_
        refine pw_goto (tgt := 101) dX3_read_80 (by decide) ?_
        exact rd_end hG hP hb hS5 (by omega) (by omega) (by decide) (fun hz I' J' hc hf => k1 1 (_) [] ([(7, 0, 0, 0)]) I' J' (by rw [if_pos hz] at hr; exact (Option.some.inj hr).symm) (hQ5.pp hf.pp).2.1 (hQ5.pp hf.pp).2.2 (hS5.2.1.fr hf) hc (by decide) (hQ5.pp hf.pp).1) (fun hz I' J' hf => k0 (2) I' J' (by rw [if_neg hz] at hr; exact (Option.some.inj hr).symm) (hQ5.pp hf.pp).1)
    · rw [if_neg hn0] at hr
      have hR := (hR.trans hf3.pp.rr).trans (frR.dc (v := v3))
      have hF := hF.dc v3
      have hff := fr8.refl (I := I3) (J := pm_u (pm_u J 8 5 0) 8 5 v3)
      refine pw_putJ fX3_35 dX3_readVariable_20 (Or.inl rfl) (by decide) (sh_lt hG (by decide)) (sh_tg hG 6 rfl) rfl ?_
      refine pw_aload_n dX3_readVariable_23 rfl ?_
      refine pw_bipush (v := nI 61) dX3_readVariable_24 (by decide) ?_
      refine pw_callV (as := [_]) (kc' := 0) (ks' := 0) lX3_66 dX3_readVariable_26 rfl rfl (sh_lt hG (by decide)) (sh_tg hG 6 rfl) (Nat.le_of_ble_eq_true rfl) (by omega) (Nat.le_of_ble_eq_true rfl) (Nat.zero_le _) (Nat.zero_le _) ?_
      refine c_X3_isAt hG hP hF.1 hb (by omega) hF.2.2.1 (Nat.le_refl _) (c := 61) (by decide) (fun hq1 => absurd ((tk_end0 hF.1).symm.trans hq1) (by decide)) (fun _ => ?_)
      refine pw_if_eq (tgt := 49) dX3_readVariable_29 (by decide) (fun hX3_readVariable_29 => ?_) (fun h => absurd (by decide) h)
      refine pw_aload_n dX3_readVariable_49 rfl ?_
      refine pw_getR fX3_14 dX3_readVariable_50 (sh_lt hG (by decide)) (sh_tg hG 6 rfl) rfl (gr_at hP 9 rfl) ?_
      refine pw_bipush (v := nI 7) dX3_readVariable_53 (by decide) ?_
      refine pw_iconst (v := nI 0) dX3_readVariable_55 (by decide) ?_
      refine pw_callV (as := [_, _]) (kc' := 0) (ks' := 0) lX3_73 dX3_readVariable_56 rfl rfl (sh_lt hG (by decide)) (sh_tg hG 7 rfl) (Nat.le_of_ble_eq_true rfl) (by omega) (Nat.le_of_ble_eq_true rfl) (Nat.zero_le _) (Nat.zero_le _) ?_
      unfold pm_Met
      refine pm_lvs (lv' := [(0, _), (1, _), (2, _)]) rfl ?_
      refine pw_aload_n dX0_add_0 rfl ?_
      refine pw_iload_n dX0_add_1 rfl ?_
      refine pw_iload_n dX0_add_2 rfl ?_
      refine pw_iconst (v := nI 0) dX0_add_3 (by decide) ?_
      refine pw_lconst (v := 0) dX0_add_4 (by decide) ?_
      refine pw_callV (as := [_, _, _, _]) (kc' := 0) (ks' := 0) lX0_32 dX0_add_5 rfl rfl (sh_lt hG (by decide)) (sh_tg hG 7 rfl) (Nat.le_of_ble_eq_true rfl) (by omega) (Nat.le_of_ble_eq_true rfl) (Nat.zero_le _) (Nat.zero_le _) ?_
      refine c_X0_addWithF hG hP hF.2.2.2.2 (fun I9 J9 hz9 hc9 => ?_)
      have hF := hF.cd' hz9 hc9
      have hff := hff.trans (fr8.code hc9)
      refine pw_vret dX0_add_8 rfl ?_
      refine pw_vret dX3_readVariable_59 rfl ?_
      refine pw_goto (tgt := 101) dX3_read_80 (by decide) ?_
      exact rd_endF hG hP hn9 hb hF (by omega) (fun I' J' hf => k0 (1) I' J' ((Option.some.inj hr).symm) (hR.trans (hff.trans hf).pp.rr))
  · rw [if_neg h118] at hr
    by_cases h100 : tk_k tx n 0 = 100
    · rw [if_pos h100] at hr
      have hcnt := tk_cnt hC (a := 0) (by rw [h100]; decide)
      refine pw_ti (z := nI 100) (by rw [h100]) ?_
      have hS1 := (hS0.fm (nI 2)).at' 1
      have hR := (hR.trans (frR.fm (x := nI 2))).trans (fr8.put (k := 6) (x := nI 1) (by decide) (by decide)).pp.rr
      refine pw_lookup (off := 42) (tgt := 83) dX3_read_41 (by decide) (by decide) (by decide) ?_
      refine pw_aload_n dX3_read_83 rfl ?_
      refine pw_callV (as := []) (kc' := 0) (ks' := 0) lX3_57 dX3_read_84 rfl rfl (sh_lt hG (by decide)) (sh_tg hG 6 rfl) (Nat.le_of_ble_eq_true rfl) (by omega) (Nat.le_of_ble_eq_true rfl) (Nat.zero_le _) (Nat.zero_le _) ?_
      unfold pm_Met
      refine pm_lvs (lv' := [(0, _)]) rfl ?_
      refine pw_aload_n dX3_readMember_0 rfl ?_
      refine pw_iconst (v := nI 2) dX3_readMember_1 (by decide) ?_
      refine pw_putI fX3_77 dX3_readMember_2 (Or.inl rfl) (by decide) (sh_lt hG (by decide)) (sh_tg hG 6 rfl) rfl ?_
      refine pw_aload_n dX3_readMember_5 rfl ?_
      refine pw_dup dX3_readMember_6 rfl ?_
      refine pw_getI fX3_39 dX3_readMember_7 (sh_lt hG (by decide)) (sh_tg hG 6 rfl) rfl ?_
      refine pw_iconst (v := nI 1) dX3_readMember_10 (by decide) ?_
      refine pw_iadd dX3_readMember_11 ?_
      refine pw_ti (z := nI 1) (by rw [(hS0.fm (nI 2)).2.2.1]; exact nI_add 0 1) ?_
      refine pw_putI fX3_39 dX3_readMember_12 (Or.inl rfl) (by decide) (sh_lt hG (by decide)) (sh_tg hG 6 rfl) rfl ?_
      refine pw_aload_n dX3_readMember_15 rfl ?_
      refine pw_aload_n dX3_readMember_16 rfl ?_
      refine pw_callV (as := []) (kc' := 0) (ks' := 0) lX3_102 dX3_readMember_17 rfl rfl (sh_lt hG (by decide)) (sh_tg hG 6 rfl) (Nat.le_of_ble_eq_true rfl) (by omega) (Nat.le_of_ble_eq_true rfl) (Nat.zero_le _) (Nat.zero_le _) ?_
      refine c_X3_readName hG hP (by omega) hb hS1 (by omega) (Nat.zero_le _) (fun hn1 I3 hS3 hf3 => ?_) (fun hn0 I3 v3 hF hf3 => ?_)
      · rw [if_pos hn1] at hr
        have hc1 := tk_cnt hC (a := 1) (by rw [hn1]; decide)
        have hS4 : rs tx n cnt [] I3 _ 2 0 [] := hS3.dc (tk_v tx n 1)
        have hQ : rQ I J I3 _ 2 (tk_v tx n 1) := ⟨(hR.trans hf3.pp.rr).trans (frR.dc (v := tk_v tx n 1)), by rw [hf3.2.2.1, pm_u_eq, pm_up_ne (by decide), pm_u_eq, pm_up_eq], by rw [pm_u_eq, pm_up_eq]⟩
        refine pw_putJ fX3_35 dX3_readMember_20 (Or.inl rfl) (by decide) (sh_lt hG (by decide)) (sh_tg hG 6 rfl) rfl ?_
        refine pw_aload_n dX3_readMember_23 rfl ?_
        refine pw_bipush (v := nI 40) dX3_readMember_24 (by decide) ?_
        refine pw_callV (as := [_]) (kc' := 0) (ks' := 0) lX3_106 dX3_readMember_26 rfl rfl (sh_lt hG (by decide)) (sh_tg hG 6 rfl) (Nat.le_of_ble_eq_true rfl) (by omega) (Nat.le_of_ble_eq_true rfl) (Nat.zero_le _) (Nat.zero_le _) ?_
        refine c_X3_expect hG hP (by omega) hb hS4 (by omega) (Nat.zero_le _) (c := 40) (by decide) (fun hq1 I5 hS5 hf5 => ?_) (fun hq0 I5 hF hf5 => ?_)
        · rw [if_pos hq1] at hr
          have hc2 := tk_cnt hC (a := 2) (by rw [hq1]; decide)
          have hS5 : rs tx n cnt [] I5 _ 3 0 [] := hS5
          have hQ5 := hQ.pp hf5.pp
          refine pw_aload_n dX3_readMember_29 rfl ?_
          refine pw_bipush (v := nI 41) dX3_readMember_30 (by decide) ?_
          refine pw_callV (as := [_]) (kc' := 0) (ks' := 0) lX3_66 dX3_readMember_32 rfl rfl (sh_lt hG (by decide)) (sh_tg hG 6 rfl) (Nat.le_of_ble_eq_true rfl) (by omega) (Nat.le_of_ble_eq_true rfl) (Nat.zero_le _) (Nat.zero_le _) ?_
          refine c_X3_isAt hG hP hS5.1 hb (by omega) hS5.2.2.1 (by omega) (c := 41) (by decide) (fun hz1 => ?_) (fun hz0 => ?_)
          · rw [show rpm (tk_k tx n) (tk_v tx n) = .ok (3, []) from if_pos hz1] at hr
            refine pw_if_ne (tgt := 42) dX3_readMember_35 (by decide) (fun hX3_readMember_35 => ?_) (fun h => absurd h (by decide))
            rw [rdD_ok] at hr
            refine pw_aload_n dX3_readMember_42 rfl ?_
            refine pw_bipush (v := nI 41) dX3_readMember_43 (by decide) ?_
            refine pw_callV (as := [_]) (kc' := 0) (ks' := 0) lX3_106 dX3_readMember_45 rfl rfl (sh_lt hG (by decide)) (sh_tg hG 6 rfl) (Nat.le_of_ble_eq_true rfl) (by omega) (Nat.le_of_ble_eq_true rfl) (Nat.zero_le _) (Nat.zero_le _) ?_
            refine c_X3_expect hG hP (by omega) hb hS5 (by omega) (Nat.zero_le _) (c := 41) (by decide) (fun hp1 I7 hS7 hf7 => ?_) (fun hp0 I7 hF hf7 => ?_)
            · rw [if_pos hp1] at hr
              have hcb := tk_cnt hC (a := 3) (by rw [hp1]; decide)
              have hQ7 := hQ5.pp hf7.pp
              refine pw_aload_n dX3_readMember_48 rfl ?_
              refine pw_bipush (v := nI 61) dX3_readMember_49 (by decide) ?_
              refine pw_callV (as := [_]) (kc' := 0) (ks' := 0) lX3_106 dX3_readMember_51 rfl rfl (sh_lt hG (by decide)) (sh_tg hG 6 rfl) (Nat.le_of_ble_eq_true rfl) (by omega) (Nat.le_of_ble_eq_true rfl) (Nat.zero_le _) (Nat.zero_le _) ?_
              refine c_X3_expect hG hP (by omega) hb hS7 (by omega) (Nat.zero_le _) (c := 61) (by decide) (fun hp2 I8 hS8 hf8 => ?_) (fun hp2 I8 hF hf8 => ?_)
              · rw [if_pos hp2] at hr
                have hcb2 := tk_cnt hC (a := 3 + 1) (by rw [hp2]; decide)
                have hcb6 := tk_60 (tx := tx) (n := n) (a := 3 + 1) (by rw [hp2]; decide) (by rw [hp2]; decide)
                have hQ8 := hQ7.pp hf8.pp
                have hS8 : rs tx n cnt [] I8 _ (3 + 2) 0 [] := hS8
                refine pw_aload_n dX3_readMember_54 rfl ?_
                refine pw_callV (as := []) (kc' := 0) (ks' := 0) lX3_99 dX3_readMember_55 rfl rfl (sh_lt hG (by decide)) (sh_tg hG 6 rfl) (Nat.le_of_ble_eq_true rfl) (by omega) (Nat.le_of_ble_eq_true rfl) (Nat.zero_le _) (Nat.zero_le _) ?_
                unfold rx at hr
                have hX := (rd_all (l := l) (E := E) (cnt := cnt) (pa := []) hG hP hn9 hb f).1.1
                rcases hps : ps (tk_k tx n) (tk_p tx n) (tk_v tx n) [] f 0 (3 + 2) 0 [] 0 with _ | (e | ⟨b, L⟩)
                · rw [hps] at hr
                  cases hr
                · rw [hps] at hr
                  refine hX _ _ _ _ _ _ _ _ hS8 (by omega) ⟨Nat.zero_le _, by omega⟩ (by omega) (by omega) hps ⟨(fun b' L' I' J' hh => nomatch hh), fun e' I' J' hh hF hff => ?_⟩
                  cases hh
                  have hR := hQ8.1
                  refine pw_vret dX3_readMember_58 rfl ?_
                  refine pw_goto (tgt := 101) dX3_read_87 (by decide) ?_
                  exact rd_endF hG hP hn9 hb hF (by omega) (fun I' J' hf => k0 (e) I' J' ((Option.some.inj hr).symm) (hR.trans (hff.trans hf).pp.rr))
                · rw [hps] at hr
                  dsimp only at hr
                  have g1 := ps_cnt hS8.1 (by omega) (by omega) hps
                  have g1' := g1.2.2 (by omega)
                  have g1c := ps_60 (by omega) hps
                  refine hX _ _ _ _ _ _ _ _ hS8 (by omega) ⟨Nat.zero_le _, by omega⟩ (by omega) (by omega) hps ⟨fun b' L' I' J' hh hS9 hff => ?_, (fun e' I' J' hh => nomatch hh)⟩
                  cases hh
                  have hQ9 := hQ8.pp hff.pp
                  refine pw_vret dX3_readMember_58 rfl ?_
                  refine pw_goto (tgt := 101) dX3_read_87 (by decide) ?_
                  exact rd_end hG hP hb hS9 (g1.2.1) (by omega) (show L.length ≤ 120 by omega) (fun hz I' J' hc hf => k1 2 (_) [] (L) I' J' (by rw [if_pos hz] at hr; exact (Option.some.inj hr).symm) (hQ9.pp hf.pp).2.1 (hQ9.pp hf.pp).2.2 (hS9.2.1.fr hf) hc (by omega) (hQ9.pp hf.pp).1) (fun hz I' J' hf => k0 (b) I' J' (by rw [if_neg hz] at hr; exact (Option.some.inj hr).symm) (hQ9.pp hf.pp).1)
              · rw [if_neg hp2] at hr
                have hR := (hQ7.pp hf8.pp).1
                have hff := hF.rf
                refine pw_aload_n dX3_readMember_54 rfl ?_
                refine pw_callV (as := []) (kc' := 0) (ks' := 0) lX3_99 dX3_readMember_55 rfl rfl (sh_lt hG (by decide)) (sh_tg hG 6 rfl) (Nat.le_of_ble_eq_true rfl) (by omega) (Nat.le_of_ble_eq_true rfl) (Nat.zero_le _) (Nat.zero_le _) ?_
                refine c_X3_readExprF hG hP (by omega) hn9 hb hF (fun I9 J9 h9 hf9 => ?_)
                have hF := h9
                have hff := hff.trans hf9
                refine pw_vret dX3_readMember_58 rfl ?_
                refine pw_goto (tgt := 101) dX3_read_87 (by decide) ?_
                exact rd_endF hG hP hn9 hb hF (by omega) (fun I' J' hf => k0 (3 + 1) I' J' ((Option.some.inj hr).symm) (hR.trans (hff.trans hf).pp.rr))
            · rw [if_neg hp0] at hr
              have hR := (hQ5.pp hf7.pp).1
              have hff := hF.rf
              refine pw_aload_n dX3_readMember_48 rfl ?_
              refine pw_bipush (v := nI 61) dX3_readMember_49 (by decide) ?_
              refine pw_callV (as := [_]) (kc' := 0) (ks' := 0) lX3_106 dX3_readMember_51 rfl rfl (sh_lt hG (by decide)) (sh_tg hG 6 rfl) (Nat.le_of_ble_eq_true rfl) (by omega) (Nat.le_of_ble_eq_true rfl) (Nat.zero_le _) (Nat.zero_le _) ?_
              refine c_X3_expectF hG hP (by omega) hn9 hb hF (c := 61) (by decide) (by decide) (fun I9 h9 hf9 => ?_)
              have hF := h9
              have hff := hff.trans hf9
              refine pw_aload_n dX3_readMember_54 rfl ?_
              refine pw_callV (as := []) (kc' := 0) (ks' := 0) lX3_99 dX3_readMember_55 rfl rfl (sh_lt hG (by decide)) (sh_tg hG 6 rfl) (Nat.le_of_ble_eq_true rfl) (by omega) (Nat.le_of_ble_eq_true rfl) (Nat.zero_le _) (Nat.zero_le _) ?_
              refine c_X3_readExprF hG hP (by omega) hn9 hb hF (fun I9 J9 h9 hf9 => ?_)
              have hF := h9
              have hff := hff.trans hf9
              refine pw_vret dX3_readMember_58 rfl ?_
              refine pw_goto (tgt := 101) dX3_read_87 (by decide) ?_
              exact rd_endF hG hP hn9 hb hF (by omega) (fun I' J' hf => k0 (3) I' J' ((Option.some.inj hr).symm) (hR.trans (hff.trans hf).pp.rr))
          · rw [show rpm (tk_k tx n) (tk_v tx n) = rp (tk_k tx n) (tk_v tx n) 3 3 [] from if_neg hz0] at hr
            refine pw_if_ne (tgt := 42) dX3_readMember_35 (by decide) (fun h => absurd (by decide) h) (fun hX3_readMember_35 => ?_)
            refine pw_aload_n dX3_readMember_38 rfl ?_
            refine pw_callV (as := []) (kc' := 0) (ks' := 0) lX3_109 dX3_readMember_39 rfl rfl (sh_lt hG (by decide)) (sh_tg hG 6 rfl) (Nat.le_of_ble_eq_true rfl) (by omega) (Nat.le_of_ble_eq_true rfl) (Nat.zero_le _) (Nat.zero_le _) ?_
            refine c_X3_readParts hG hP hn9 hb (by omega) (Nat.zero_le _) hS5 (by omega) ⟨fun b pa I6 J6 hrp hS6 hb6 hf6 => ?_, fun e pa I6 J6 hrp hF hf6 => ?_⟩
            · have hQ6 := hQ5.pp hf6
              rw [hrp, rdD_ok] at hr
              refine pw_aload_n dX3_readMember_42 rfl ?_
              refine pw_bipush (v := nI 41) dX3_readMember_43 (by decide) ?_
              refine pw_callV (as := [_]) (kc' := 0) (ks' := 0) lX3_106 dX3_readMember_45 rfl rfl (sh_lt hG (by decide)) (sh_tg hG 6 rfl) (Nat.le_of_ble_eq_true rfl) (by omega) (Nat.le_of_ble_eq_true rfl) (Nat.zero_le _) (Nat.zero_le _) ?_
              refine c_X3_expect hG hP (by omega) hb hS6 (hb6) (Nat.zero_le _) (c := 41) (by decide) (fun hp1 I7 hS7 hf7 => ?_) (fun hp0 I7 hF hf7 => ?_)
              · rw [if_pos hp1] at hr
                have hcb := tk_cnt hC (a := b) (by rw [hp1]; decide)
                have hQ7 := hQ6.pp hf7.pp
                refine pw_aload_n dX3_readMember_48 rfl ?_
                refine pw_bipush (v := nI 61) dX3_readMember_49 (by decide) ?_
                refine pw_callV (as := [_]) (kc' := 0) (ks' := 0) lX3_106 dX3_readMember_51 rfl rfl (sh_lt hG (by decide)) (sh_tg hG 6 rfl) (Nat.le_of_ble_eq_true rfl) (by omega) (Nat.le_of_ble_eq_true rfl) (Nat.zero_le _) (Nat.zero_le _) ?_
                refine c_X3_expect hG hP (by omega) hb hS7 (by omega) (Nat.zero_le _) (c := 61) (by decide) (fun hp2 I8 hS8 hf8 => ?_) (fun hp2 I8 hF hf8 => ?_)
                · rw [if_pos hp2] at hr
                  have hcb2 := tk_cnt hC (a := b + 1) (by rw [hp2]; decide)
                  have hcb6 := tk_60 (tx := tx) (n := n) (a := b + 1) (by rw [hp2]; decide) (by rw [hp2]; decide)
                  have hQ8 := hQ7.pp hf8.pp
                  have hS8 : rs tx n cnt pa I8 _ (b + 2) 0 [] := hS8
                  refine pw_aload_n dX3_readMember_54 rfl ?_
                  refine pw_callV (as := []) (kc' := 0) (ks' := 0) lX3_99 dX3_readMember_55 rfl rfl (sh_lt hG (by decide)) (sh_tg hG 6 rfl) (Nat.le_of_ble_eq_true rfl) (by omega) (Nat.le_of_ble_eq_true rfl) (Nat.zero_le _) (Nat.zero_le _) ?_
                  unfold rx at hr
                  have hX := (rd_all (l := l) (E := E) (cnt := cnt) (pa := pa) hG hP hn9 hb f).1.1
                  rcases hps : ps (tk_k tx n) (tk_p tx n) (tk_v tx n) pa f 0 (b + 2) 0 [] 0 with _ | (e | ⟨b, L⟩)
                  · rw [hps] at hr
                    cases hr
                  · rw [hps] at hr
                    refine hX _ _ _ _ _ _ _ _ hS8 (by omega) ⟨Nat.zero_le _, by omega⟩ (by omega) (by omega) hps ⟨(fun b' L' I' J' hh => nomatch hh), fun e' I' J' hh hF hff => ?_⟩
                    cases hh
                    have hR := hQ8.1
                    refine pw_vret dX3_readMember_58 rfl ?_
                    refine pw_goto (tgt := 101) dX3_read_87 (by decide) ?_
                    exact rd_endF hG hP hn9 hb hF (by omega) (fun I' J' hf => k0 (e) I' J' ((Option.some.inj hr).symm) (hR.trans (hff.trans hf).pp.rr))
                  · rw [hps] at hr
                    dsimp only at hr
                    have g1 := ps_cnt hS8.1 (by omega) (by omega) hps
                    have g1' := g1.2.2 (by omega)
                    have g1c := ps_60 (by omega) hps
                    refine hX _ _ _ _ _ _ _ _ hS8 (by omega) ⟨Nat.zero_le _, by omega⟩ (by omega) (by omega) hps ⟨fun b' L' I' J' hh hS9 hff => ?_, (fun e' I' J' hh => nomatch hh)⟩
                    cases hh
                    have hQ9 := hQ8.pp hff.pp
                    refine pw_vret dX3_readMember_58 rfl ?_
                    refine pw_goto (tgt := 101) dX3_read_87 (by decide) ?_
                    exact rd_end hG hP hb hS9 (g1.2.1) (by omega) (show L.length ≤ 120 by omega) (fun hz I' J' hc hf => k1 2 (_) pa (L) I' J' (by rw [if_pos hz] at hr; exact (Option.some.inj hr).symm) (hQ9.pp hf.pp).2.1 (hQ9.pp hf.pp).2.2 (hS9.2.1.fr hf) hc (by omega) (hQ9.pp hf.pp).1) (fun hz I' J' hf => k0 (b) I' J' (by rw [if_neg hz] at hr; exact (Option.some.inj hr).symm) (hQ9.pp hf.pp).1)
                · rw [if_neg hp2] at hr
                  have hR := (hQ7.pp hf8.pp).1
                  have hff := hF.rf
                  refine pw_aload_n dX3_readMember_54 rfl ?_
                  refine pw_callV (as := []) (kc' := 0) (ks' := 0) lX3_99 dX3_readMember_55 rfl rfl (sh_lt hG (by decide)) (sh_tg hG 6 rfl) (Nat.le_of_ble_eq_true rfl) (by omega) (Nat.le_of_ble_eq_true rfl) (Nat.zero_le _) (Nat.zero_le _) ?_
                  refine c_X3_readExprF hG hP (by omega) hn9 hb hF (fun I9 J9 h9 hf9 => ?_)
                  have hF := h9
                  have hff := hff.trans hf9
                  refine pw_vret dX3_readMember_58 rfl ?_
                  refine pw_goto (tgt := 101) dX3_read_87 (by decide) ?_
                  exact rd_endF hG hP hn9 hb hF (by omega) (fun I' J' hf => k0 (b + 1) I' J' ((Option.some.inj hr).symm) (hR.trans (hff.trans hf).pp.rr))
              · rw [if_neg hp0] at hr
                have hR := (hQ6.pp hf7.pp).1
                have hff := hF.rf
                refine pw_aload_n dX3_readMember_48 rfl ?_
                refine pw_bipush (v := nI 61) dX3_readMember_49 (by decide) ?_
                refine pw_callV (as := [_]) (kc' := 0) (ks' := 0) lX3_106 dX3_readMember_51 rfl rfl (sh_lt hG (by decide)) (sh_tg hG 6 rfl) (Nat.le_of_ble_eq_true rfl) (by omega) (Nat.le_of_ble_eq_true rfl) (Nat.zero_le _) (Nat.zero_le _) ?_
                refine c_X3_expectF hG hP (by omega) hn9 hb hF (c := 61) (by decide) (by decide) (fun I9 h9 hf9 => ?_)
                have hF := h9
                have hff := hff.trans hf9
                refine pw_aload_n dX3_readMember_54 rfl ?_
                refine pw_callV (as := []) (kc' := 0) (ks' := 0) lX3_99 dX3_readMember_55 rfl rfl (sh_lt hG (by decide)) (sh_tg hG 6 rfl) (Nat.le_of_ble_eq_true rfl) (by omega) (Nat.le_of_ble_eq_true rfl) (Nat.zero_le _) (Nat.zero_le _) ?_
                refine c_X3_readExprF hG hP (by omega) hn9 hb hF (fun I9 J9 h9 hf9 => ?_)
                have hF := h9
                have hff := hff.trans hf9
                refine pw_vret dX3_readMember_58 rfl ?_
                refine pw_goto (tgt := 101) dX3_read_87 (by decide) ?_
                exact rd_endF hG hP hn9 hb hF (by omega) (fun I' J' hf => k0 (b) I' J' ((Option.some.inj hr).symm) (hR.trans (hff.trans hf).pp.rr))
            · have hR := (hQ5.pp hf6).1
              have hff : fr8 I6 I6 J6 J6 := fr8.refl
              rw [hrp] at hr
              refine pw_aload_n dX3_readMember_42 rfl ?_
              refine pw_bipush (v := nI 41) dX3_readMember_43 (by decide) ?_
              refine pw_callV (as := [_]) (kc' := 0) (ks' := 0) lX3_106 dX3_readMember_45 rfl rfl (sh_lt hG (by decide)) (sh_tg hG 6 rfl) (Nat.le_of_ble_eq_true rfl) (by omega) (Nat.le_of_ble_eq_true rfl) (Nat.zero_le _) (Nat.zero_le _) ?_
              refine c_X3_expectF hG hP (by omega) hn9 hb hF (c := 41) (by decide) (by decide) (fun I9 h9 hf9 => ?_)
              have hF := h9
              have hff := hff.trans hf9
              refine pw_aload_n dX3_readMember_48 rfl ?_
              refine pw_bipush (v := nI 61) dX3_readMember_49 (by decide) ?_
              refine pw_callV (as := [_]) (kc' := 0) (ks' := 0) lX3_106 dX3_readMember_51 rfl rfl (sh_lt hG (by decide)) (sh_tg hG 6 rfl) (Nat.le_of_ble_eq_true rfl) (by omega) (Nat.le_of_ble_eq_true rfl) (Nat.zero_le _) (Nat.zero_le _) ?_
              refine c_X3_expectF hG hP (by omega) hn9 hb hF (c := 61) (by decide) (by decide) (fun I9 h9 hf9 => ?_)
              have hF := h9
              have hff := hff.trans hf9
              refine pw_aload_n dX3_readMember_54 rfl ?_
              refine pw_callV (as := []) (kc' := 0) (ks' := 0) lX3_99 dX3_readMember_55 rfl rfl (sh_lt hG (by decide)) (sh_tg hG 6 rfl) (Nat.le_of_ble_eq_true rfl) (by omega) (Nat.le_of_ble_eq_true rfl) (Nat.zero_le _) (Nat.zero_le _) ?_
              refine c_X3_readExprF hG hP (by omega) hn9 hb hF (fun I9 J9 h9 hf9 => ?_)
              have hF := h9
              have hff := hff.trans hf9
              refine pw_vret dX3_readMember_58 rfl ?_
              refine pw_goto (tgt := 101) dX3_read_87 (by decide) ?_
              exact rd_endF hG hP hn9 hb hF (by omega) (fun I' J' hf => k0 (e) I' J' ((Option.some.inj hr).symm) (hR.trans (hff.trans hf).pp.rr))
        · rw [if_neg hq0] at hr
          have hR := (hQ.pp hf5.pp).1
          have hff := hF.rf
          refine pw_aload_n dX3_readMember_29 rfl ?_
          refine pw_bipush (v := nI 41) dX3_readMember_30 (by decide) ?_
          refine pw_callV (as := [_]) (kc' := 0) (ks' := 0) lX3_66 dX3_readMember_32 rfl rfl (sh_lt hG (by decide)) (sh_tg hG 6 rfl) (Nat.le_of_ble_eq_true rfl) (by omega) (Nat.le_of_ble_eq_true rfl) (Nat.zero_le _) (Nat.zero_le _) ?_
          refine c_X3_isAt hG hP hF.1 hb (by omega) hF.2.2.1 (Nat.le_refl _) (c := 41) (by decide) (fun hq1 => absurd ((tk_end0 hF.1).symm.trans hq1) (by decide)) (fun _ => ?_)
          refine pw_if_ne (tgt := 42) dX3_readMember_35 (by decide) (fun h => absurd (by decide) h) (fun hX3_readMember_35 => ?_)
          refine pw_aload_n dX3_readMember_38 rfl ?_
          refine pw_callV (as := []) (kc' := 0) (ks' := 0) lX3_109 dX3_readMember_39 rfl rfl (sh_lt hG (by decide)) (sh_tg hG 6 rfl) (Nat.le_of_ble_eq_true rfl) (by omega) (Nat.le_of_ble_eq_true rfl) (Nat.zero_le _) (Nat.zero_le _) ?_
          refine c_X3_readPartsF hG hP (by omega) hn9 hb hF (fun I9 h9 hf9 => ?_)
          have hF := h9
          have hff := hff.trans hf9
          refine pw_aload_n dX3_readMember_42 rfl ?_
          refine pw_bipush (v := nI 41) dX3_readMember_43 (by decide) ?_
          refine pw_callV (as := [_]) (kc' := 0) (ks' := 0) lX3_106 dX3_readMember_45 rfl rfl (sh_lt hG (by decide)) (sh_tg hG 6 rfl) (Nat.le_of_ble_eq_true rfl) (by omega) (Nat.le_of_ble_eq_true rfl) (Nat.zero_le _) (Nat.zero_le _) ?_
          refine c_X3_expectF hG hP (by omega) hn9 hb hF (c := 41) (by decide) (by decide) (fun I9 h9 hf9 => ?_)
          have hF := h9
          have hff := hff.trans hf9
          refine pw_aload_n dX3_readMember_48 rfl ?_
          refine pw_bipush (v := nI 61) dX3_readMember_49 (by decide) ?_
          refine pw_callV (as := [_]) (kc' := 0) (ks' := 0) lX3_106 dX3_readMember_51 rfl rfl (sh_lt hG (by decide)) (sh_tg hG 6 rfl) (Nat.le_of_ble_eq_true rfl) (by omega) (Nat.le_of_ble_eq_true rfl) (Nat.zero_le _) (Nat.zero_le _) ?_
          refine c_X3_expectF hG hP (by omega) hn9 hb hF (c := 61) (by decide) (by decide) (fun I9 h9 hf9 => ?_)
          have hF := h9
          have hff := hff.trans hf9
          refine pw_aload_n dX3_readMember_54 rfl ?_
          refine pw_callV (as := []) (kc' := 0) (ks' := 0) lX3_99 dX3_readMember_55 rfl rfl (sh_lt hG (by decide)) (sh_tg hG 6 rfl) (Nat.le_of_ble_eq_true rfl) (by omega) (Nat.le_of_ble_eq_true rfl) (Nat.zero_le _) (Nat.zero_le _) ?_
          refine c_X3_readExprF hG hP (by omega) hn9 hb hF (fun I9 J9 h9 hf9 => ?_)
          have hF := h9
          have hff := hff.trans hf9
          refine pw_vret dX3_readMember_58 rfl ?_
          refine pw_goto (tgt := 101) dX3_read_87 (by decide) ?_
          exact rd_endF hG hP hn9 hb hF (by omega) (fun I' J' hf => k0 (2) I' J' ((Option.some.inj hr).symm) (hR.trans (hff.trans hf).pp.rr))
      · rw [if_neg hn0] at hr
        have hR := (hR.trans hf3.pp.rr).trans (frR.dc (v := v3))
        have hF := hF.dc v3
        have hff := fr8.refl (I := I3) (J := pm_u (pm_u J 8 5 0) 8 5 v3)
        refine pw_putJ fX3_35 dX3_readMember_20 (Or.inl rfl) (by decide) (sh_lt hG (by decide)) (sh_tg hG 6 rfl) rfl ?_
        refine pw_aload_n dX3_readMember_23 rfl ?_
        refine pw_bipush (v := nI 40) dX3_readMember_24 (by decide) ?_
        refine pw_callV (as := [_]) (kc' := 0) (ks' := 0) lX3_106 dX3_readMember_26 rfl rfl (sh_lt hG (by decide)) (sh_tg hG 6 rfl) (Nat.le_of_ble_eq_true rfl) (by omega) (Nat.le_of_ble_eq_true rfl) (Nat.zero_le _) (Nat.zero_le _) ?_
        refine c_X3_expectF hG hP (by omega) hn9 hb hF (c := 40) (by decide) (by decide) (fun I9 h9 hf9 => ?_)
        have hF := h9
        have hff := hff.trans hf9
        refine pw_aload_n dX3_readMember_29 rfl ?_
        refine pw_bipush (v := nI 41) dX3_readMember_30 (by decide) ?_
        refine pw_callV (as := [_]) (kc' := 0) (ks' := 0) lX3_66 dX3_readMember_32 rfl rfl (sh_lt hG (by decide)) (sh_tg hG 6 rfl) (Nat.le_of_ble_eq_true rfl) (by omega) (Nat.le_of_ble_eq_true rfl) (Nat.zero_le _) (Nat.zero_le _) ?_
        refine c_X3_isAt hG hP hF.1 hb (by omega) hF.2.2.1 (Nat.le_refl _) (c := 41) (by decide) (fun hq1 => absurd ((tk_end0 hF.1).symm.trans hq1) (by decide)) (fun _ => ?_)
        refine pw_if_ne (tgt := 42) dX3_readMember_35 (by decide) (fun h => absurd (by decide) h) (fun hX3_readMember_35 => ?_)
        refine pw_aload_n dX3_readMember_38 rfl ?_
        refine pw_callV (as := []) (kc' := 0) (ks' := 0) lX3_109 dX3_readMember_39 rfl rfl (sh_lt hG (by decide)) (sh_tg hG 6 rfl) (Nat.le_of_ble_eq_true rfl) (by omega) (Nat.le_of_ble_eq_true rfl) (Nat.zero_le _) (Nat.zero_le _) ?_
        refine c_X3_readPartsF hG hP (by omega) hn9 hb hF (fun I9 h9 hf9 => ?_)
        have hF := h9
        have hff := hff.trans hf9
        refine pw_aload_n dX3_readMember_42 rfl ?_
        refine pw_bipush (v := nI 41) dX3_readMember_43 (by decide) ?_
        refine pw_callV (as := [_]) (kc' := 0) (ks' := 0) lX3_106 dX3_readMember_45 rfl rfl (sh_lt hG (by decide)) (sh_tg hG 6 rfl) (Nat.le_of_ble_eq_true rfl) (by omega) (Nat.le_of_ble_eq_true rfl) (Nat.zero_le _) (Nat.zero_le _) ?_
        refine c_X3_expectF hG hP (by omega) hn9 hb hF (c := 41) (by decide) (by decide) (fun I9 h9 hf9 => ?_)
        have hF := h9
        have hff := hff.trans hf9
        refine pw_aload_n dX3_readMember_48 rfl ?_
        refine pw_bipush (v := nI 61) dX3_readMember_49 (by decide) ?_
        refine pw_callV (as := [_]) (kc' := 0) (ks' := 0) lX3_106 dX3_readMember_51 rfl rfl (sh_lt hG (by decide)) (sh_tg hG 6 rfl) (Nat.le_of_ble_eq_true rfl) (by omega) (Nat.le_of_ble_eq_true rfl) (Nat.zero_le _) (Nat.zero_le _) ?_
        refine c_X3_expectF hG hP (by omega) hn9 hb hF (c := 61) (by decide) (by decide) (fun I9 h9 hf9 => ?_)
        have hF := h9
        have hff := hff.trans hf9
        refine pw_aload_n dX3_readMember_54 rfl ?_
        refine pw_callV (as := []) (kc' := 0) (ks' := 0) lX3_99 dX3_readMember_55 rfl rfl (sh_lt hG (by decide)) (sh_tg hG 6 rfl) (Nat.le_of_ble_eq_true rfl) (by omega) (Nat.le_of_ble_eq_true rfl) (Nat.zero_le _) (Nat.zero_le _) ?_
        refine c_X3_readExprF hG hP (by omega) hn9 hb hF (fun I9 J9 h9 hf9 => ?_)
        have hF := h9
        have hff := hff.trans hf9
        refine pw_vret dX3_readMember_58 rfl ?_
        refine pw_goto (tgt := 101) dX3_read_87 (by decide) ?_
        exact rd_endF hG hP hn9 hb hF (by omega) (fun I' J' hf => k0 (1) I' J' ((Option.some.inj hr).symm) (hR.trans (hff.trans hf).pp.rr))
    · rw [if_neg h100] at hr
      by_cases h116 : tk_k tx n 0 = 116
      · rw [if_pos h116] at hr
        have hcnt := tk_cnt hC (a := 0) (by rw [h116]; decide)
        refine pw_ti (z := nI 116) (by rw [h116]) ?_
        have hS1 := (hS0.fm (nI 3)).at' 1
        have hR := (hR.trans (frR.fm (x := nI 3))).trans (fr8.put (k := 6) (x := nI 1) (by decide) (by decide)).pp.rr
        refine pw_lookup (off := 49) (tgt := 90) dX3_read_41 (by decide) (by decide) (by decide) ?_
        refine pw_aload_n dX3_read_90 rfl ?_
        refine pw_callV (as := []) (kc' := 0) (ks' := 0) lX3_60 dX3_read_91 rfl rfl (sh_lt hG (by decide)) (sh_tg hG 6 rfl) (Nat.le_of_ble_eq_true rfl) (by omega) (Nat.le_of_ble_eq_true rfl) (Nat.zero_le _) (Nat.zero_le _) ?_
        unfold pm_Met
        refine pm_lvs (lv' := [(0, _)]) rfl ?_
        refine pw_aload_n dX3_readType_0 rfl ?_
        refine pw_iconst (v := nI 3) dX3_readType_1 (by decide) ?_
        refine pw_putI fX3_77 dX3_readType_2 (Or.inl rfl) (by decide) (sh_lt hG (by decide)) (sh_tg hG 6 rfl) rfl ?_
        refine pw_aload_n dX3_readType_5 rfl ?_
        refine pw_dup dX3_readType_6 rfl ?_
        refine pw_getI fX3_39 dX3_readType_7 (sh_lt hG (by decide)) (sh_tg hG 6 rfl) rfl ?_
        refine pw_iconst (v := nI 1) dX3_readType_10 (by decide) ?_
        refine pw_iadd dX3_readType_11 ?_
        refine pw_ti (z := nI 1) (by rw [(hS0.fm (nI 3)).2.2.1]; exact nI_add 0 1) ?_
        refine pw_putI fX3_39 dX3_readType_12 (Or.inl rfl) (by decide) (sh_lt hG (by decide)) (sh_tg hG 6 rfl) rfl ?_
        refine pw_aload_n dX3_readType_15 rfl ?_
        refine pw_aload_n dX3_readType_16 rfl ?_
        refine pw_callV (as := []) (kc' := 0) (ks' := 0) lX3_102 dX3_readType_17 rfl rfl (sh_lt hG (by decide)) (sh_tg hG 6 rfl) (Nat.le_of_ble_eq_true rfl) (by omega) (Nat.le_of_ble_eq_true rfl) (Nat.zero_le _) (Nat.zero_le _) ?_
        refine c_X3_readName hG hP (by omega) hb hS1 (by omega) (Nat.zero_le _) (fun hn1 I3 hS3 hf3 => ?_) (fun hn0 I3 v3 hF hf3 => ?_)
        · rw [if_pos hn1] at hr
          have hc1 := tk_cnt hC (a := 1) (by rw [hn1]; decide)
          have hS4 : rs tx n cnt [] I3 _ 2 0 [] := hS3.dc (tk_v tx n 1)
          have hQ : rQ I J I3 _ 3 (tk_v tx n 1) := ⟨(hR.trans hf3.pp.rr).trans (frR.dc (v := tk_v tx n 1)), by rw [hf3.2.2.1, pm_u_eq, pm_up_ne (by decide), pm_u_eq, pm_up_eq], by rw [pm_u_eq, pm_up_eq]⟩
          refine pw_putJ fX3_35 dX3_readType_20 (Or.inl rfl) (by decide) (sh_lt hG (by decide)) (sh_tg hG 6 rfl) rfl ?_
          refine pw_aload_n dX3_readType_23 rfl ?_
          refine pw_bipush (v := nI 40) dX3_readType_24 (by decide) ?_
          refine pw_callV (as := [_]) (kc' := 0) (ks' := 0) lX3_106 dX3_readType_26 rfl rfl (sh_lt hG (by decide)) (sh_tg hG 6 rfl) (Nat.le_of_ble_eq_true rfl) (by omega) (Nat.le_of_ble_eq_true rfl) (Nat.zero_le _) (Nat.zero_le _) ?_
          refine c_X3_expect hG hP (by omega) hb hS4 (by omega) (Nat.zero_le _) (c := 40) (by decide) (fun hq1 I5 hS5 hf5 => ?_) (fun hq0 I5 hF hf5 => ?_)
          · rw [if_pos hq1] at hr
            have hc2 := tk_cnt hC (a := 2) (by rw [hq1]; decide)
            have hS5 : rs tx n cnt [] I5 _ 3 0 [] := hS5
            have hQ5 := hQ.pp hf5.pp
            refine pw_aload_n dX3_readType_29 rfl ?_
            refine pw_callV (as := []) (kc' := 0) (ks' := 0) lX3_109 dX3_readType_30 rfl rfl (sh_lt hG (by decide)) (sh_tg hG 6 rfl) (Nat.le_of_ble_eq_true rfl) (by omega) (Nat.le_of_ble_eq_true rfl) (Nat.zero_le _) (Nat.zero_le _) ?_
            refine c_X3_readParts hG hP hn9 hb (by omega) (Nat.zero_le _) hS5 (by omega) ⟨fun b pa I6 J6 hrp hS6 hb6 hf6 => ?_, fun e pa I6 J6 hrp hF hf6 => ?_⟩
            · have hQ6 := hQ5.pp hf6
              rw [hrp, rdT_ok] at hr
              refine pw_aload_n dX3_readType_33 rfl ?_
              refine pw_bipush (v := nI 41) dX3_readType_34 (by decide) ?_
              refine pw_callV (as := [_]) (kc' := 0) (ks' := 0) lX3_106 dX3_readType_36 rfl rfl (sh_lt hG (by decide)) (sh_tg hG 6 rfl) (Nat.le_of_ble_eq_true rfl) (by omega) (Nat.le_of_ble_eq_true rfl) (Nat.zero_le _) (Nat.zero_le _) ?_
              refine c_X3_expect hG hP (by omega) hb hS6 (hb6) (Nat.zero_le _) (c := 41) (by decide) (fun hp1 I7 hS7 hf7 => ?_) (fun hp0 I7 hF hf7 => ?_)
              · rw [if_pos hp1] at hr
                have hcb := tk_cnt hC (a := b) (by rw [hp1]; decide)
                have hQ7 := hQ6.pp hf7.pp
                refine pw_vret dX3_readType_39 rfl ?_
                refine pw_goto (tgt := 101) dX3_read_94 (by decide) ?_
                exact rd_end hG hP hb hS7 (by omega) (by omega) (by decide) (fun hz I' J' hc hf => k1 3 (_) pa ([]) I' J' (by rw [if_pos hz] at hr; exact (Option.some.inj hr).symm) (hQ7.pp hf.pp).2.1 (hQ7.pp hf.pp).2.2 (hS7.2.1.fr hf) hc (by decide) (hQ7.pp hf.pp).1) (fun hz I' J' hf => k0 (b + 1) I' J' (by rw [if_neg hz] at hr; exact (Option.some.inj hr).symm) (hQ7.pp hf.pp).1)
              · rw [if_neg hp0] at hr
                have hR := (hQ6.pp hf7.pp).1
                have hff := hF.rf
                refine pw_vret dX3_readType_39 rfl ?_
                refine pw_goto (tgt := 101) dX3_read_94 (by decide) ?_
                exact rd_endF hG hP hn9 hb hF (by omega) (fun I' J' hf => k0 (b) I' J' ((Option.some.inj hr).symm) (hR.trans (hff.trans hf).pp.rr))
            · have hR := (hQ5.pp hf6).1
              have hff : fr8 I6 I6 J6 J6 := fr8.refl
              rw [hrp] at hr
              refine pw_aload_n dX3_readType_33 rfl ?_
              refine pw_bipush (v := nI 41) dX3_readType_34 (by decide) ?_
              refine pw_callV (as := [_]) (kc' := 0) (ks' := 0) lX3_106 dX3_readType_36 rfl rfl (sh_lt hG (by decide)) (sh_tg hG 6 rfl) (Nat.le_of_ble_eq_true rfl) (by omega) (Nat.le_of_ble_eq_true rfl) (Nat.zero_le _) (Nat.zero_le _) ?_
              refine c_X3_expectF hG hP (by omega) hn9 hb hF (c := 41) (by decide) (by decide) (fun I9 h9 hf9 => ?_)
              have hF := h9
              have hff := hff.trans hf9
              refine pw_vret dX3_readType_39 rfl ?_
              refine pw_goto (tgt := 101) dX3_read_94 (by decide) ?_
              exact rd_endF hG hP hn9 hb hF (by omega) (fun I' J' hf => k0 (e) I' J' ((Option.some.inj hr).symm) (hR.trans (hff.trans hf).pp.rr))
          · rw [if_neg hq0] at hr
            have hR := (hQ.pp hf5.pp).1
            have hff := hF.rf
            refine pw_aload_n dX3_readType_29 rfl ?_
            refine pw_callV (as := []) (kc' := 0) (ks' := 0) lX3_109 dX3_readType_30 rfl rfl (sh_lt hG (by decide)) (sh_tg hG 6 rfl) (Nat.le_of_ble_eq_true rfl) (by omega) (Nat.le_of_ble_eq_true rfl) (Nat.zero_le _) (Nat.zero_le _) ?_
            refine c_X3_readPartsF hG hP (by omega) hn9 hb hF (fun I9 h9 hf9 => ?_)
            have hF := h9
            have hff := hff.trans hf9
            refine pw_aload_n dX3_readType_33 rfl ?_
            refine pw_bipush (v := nI 41) dX3_readType_34 (by decide) ?_
            refine pw_callV (as := [_]) (kc' := 0) (ks' := 0) lX3_106 dX3_readType_36 rfl rfl (sh_lt hG (by decide)) (sh_tg hG 6 rfl) (Nat.le_of_ble_eq_true rfl) (by omega) (Nat.le_of_ble_eq_true rfl) (Nat.zero_le _) (Nat.zero_le _) ?_
            refine c_X3_expectF hG hP (by omega) hn9 hb hF (c := 41) (by decide) (by decide) (fun I9 h9 hf9 => ?_)
            have hF := h9
            have hff := hff.trans hf9
            refine pw_vret dX3_readType_39 rfl ?_
            refine pw_goto (tgt := 101) dX3_read_94 (by decide) ?_
            exact rd_endF hG hP hn9 hb hF (by omega) (fun I' J' hf => k0 (2) I' J' ((Option.some.inj hr).symm) (hR.trans (hff.trans hf).pp.rr))
        · rw [if_neg hn0] at hr
          have hR := (hR.trans hf3.pp.rr).trans (frR.dc (v := v3))
          have hF := hF.dc v3
          have hff := fr8.refl (I := I3) (J := pm_u (pm_u J 8 5 0) 8 5 v3)
          refine pw_putJ fX3_35 dX3_readType_20 (Or.inl rfl) (by decide) (sh_lt hG (by decide)) (sh_tg hG 6 rfl) rfl ?_
          refine pw_aload_n dX3_readType_23 rfl ?_
          refine pw_bipush (v := nI 40) dX3_readType_24 (by decide) ?_
          refine pw_callV (as := [_]) (kc' := 0) (ks' := 0) lX3_106 dX3_readType_26 rfl rfl (sh_lt hG (by decide)) (sh_tg hG 6 rfl) (Nat.le_of_ble_eq_true rfl) (by omega) (Nat.le_of_ble_eq_true rfl) (Nat.zero_le _) (Nat.zero_le _) ?_
          refine c_X3_expectF hG hP (by omega) hn9 hb hF (c := 40) (by decide) (by decide) (fun I9 h9 hf9 => ?_)
          have hF := h9
          have hff := hff.trans hf9
          refine pw_aload_n dX3_readType_29 rfl ?_
          refine pw_callV (as := []) (kc' := 0) (ks' := 0) lX3_109 dX3_readType_30 rfl rfl (sh_lt hG (by decide)) (sh_tg hG 6 rfl) (Nat.le_of_ble_eq_true rfl) (by omega) (Nat.le_of_ble_eq_true rfl) (Nat.zero_le _) (Nat.zero_le _) ?_
          refine c_X3_readPartsF hG hP (by omega) hn9 hb hF (fun I9 h9 hf9 => ?_)
          have hF := h9
          have hff := hff.trans hf9
          refine pw_aload_n dX3_readType_33 rfl ?_
          refine pw_bipush (v := nI 41) dX3_readType_34 (by decide) ?_
          refine pw_callV (as := [_]) (kc' := 0) (ks' := 0) lX3_106 dX3_readType_36 rfl rfl (sh_lt hG (by decide)) (sh_tg hG 6 rfl) (Nat.le_of_ble_eq_true rfl) (by omega) (Nat.le_of_ble_eq_true rfl) (Nat.zero_le _) (Nat.zero_le _) ?_
          refine c_X3_expectF hG hP (by omega) hn9 hb hF (c := 41) (by decide) (by decide) (fun I9 h9 hf9 => ?_)
          have hF := h9
          have hff := hff.trans hf9
          refine pw_vret dX3_readType_39 rfl ?_
          refine pw_goto (tgt := 101) dX3_read_94 (by decide) ?_
          exact rd_endF hG hP hn9 hb hF (by omega) (fun I' J' hf => k0 (1) I' J' ((Option.some.inj hr).symm) (hR.trans (hff.trans hf).pp.rr))
      · rw [if_neg h116] at hr
        have hS1 := hS0.fm (nI 0)
        have hQ1 : rQ I J _ _ 0 0 := ⟨hR.trans (frR.fm (x := nI 0)), by rw [pm_u_eq, pm_up_eq], by rw [pm_u_eq, pm_up_eq]⟩
        refine pw_lookup (off := 56) (tgt := 97) dX3_read_41 (by decide) (by rw [nI_toInt (by omega)]; exact lk_rd _ hkc h100 h116 h118) (by decide) ?_
        refine pw_aload_n dX3_read_97 rfl ?_
        refine pw_callV (as := []) (kc' := 0) (ks' := 0) lX3_63 dX3_read_98 rfl rfl (sh_lt hG (by decide)) (sh_tg hG 6 rfl) (Nat.le_of_ble_eq_true rfl) (by omega) (Nat.le_of_ble_eq_true rfl) (Nat.zero_le _) (Nat.zero_le _) ?_
        unfold pm_Met
        refine pm_lvs (lv' := [(0, _)]) rfl ?_
        refine pw_aload_n dX3_readAlone_0 rfl ?_
        refine pw_iconst (v := nI 0) dX3_readAlone_1 (by decide) ?_
        refine pw_putI fX3_77 dX3_readAlone_2 (Or.inl rfl) (by decide) (sh_lt hG (by decide)) (sh_tg hG 6 rfl) rfl ?_
        refine pw_aload_n dX3_readAlone_5 rfl ?_
        refine pw_callV (as := []) (kc' := 0) (ks' := 0) lX3_99 dX3_readAlone_6 rfl rfl (sh_lt hG (by decide)) (sh_tg hG 6 rfl) (Nat.le_of_ble_eq_true rfl) (by omega) (Nat.le_of_ble_eq_true rfl) (Nat.zero_le _) (Nat.zero_le _) ?_
        unfold rx at hr
        have hX := (rd_all (l := l) (E := E) (cnt := cnt) (pa := []) hG hP hn9 hb f).1.1
        rcases hps : ps (tk_k tx n) (tk_p tx n) (tk_v tx n) [] f 0 (0) 0 [] 0 with _ | (e | ⟨b, L⟩)
        · rw [hps] at hr
          cases hr
        · rw [hps] at hr
          refine hX _ _ _ _ _ _ _ _ hS1 (Nat.zero_le _) ⟨Nat.zero_le _, by omega⟩ (by omega) (by omega) hps ⟨(fun b' L' I' J' hh => nomatch hh), fun e' I' J' hh hF hff => ?_⟩
          cases hh
          have hR := hQ1.1
          refine pw_vret dX3_readAlone_9 rfl ?_
          exact rd_endF hG hP hn9 hb hF (by omega) (fun I' J' hf => k0 (e) I' J' ((Option.some.inj hr).symm) (hR.trans (hff.trans hf).pp.rr))
        · rw [hps] at hr
          dsimp only at hr
          have g1 := ps_cnt hS1.1 (by omega) (Nat.zero_le _) hps
          have g1' := g1.2.2 (by omega)
          have g1c := ps_60 (by omega) hps
          refine hX _ _ _ _ _ _ _ _ hS1 (Nat.zero_le _) ⟨Nat.zero_le _, by omega⟩ (by omega) (by omega) hps ⟨fun b' L' I' J' hh hS9 hff => ?_, (fun e' I' J' hh => nomatch hh)⟩
          cases hh
          have hQ9 := hQ1.pp hff.pp
          refine pw_vret dX3_readAlone_9 rfl ?_
          exact rd_end hG hP hb hS9 (g1.2.1) (by omega) (show L.length ≤ 120 by omega) (fun hz I' J' hc hf => k1 0 (_) [] (L) I' J' (by rw [if_pos hz] at hr; exact (Option.some.inj hr).symm) (hQ9.pp hf.pp).2.1 (hQ9.pp hf.pp).2.2 (hS9.2.1.fr hf) hc (by omega) (hQ9.pp hf.pp).1) (fun hz I' J' hf => k0 (b) I' J' (by rw [if_neg hz] at hr; exact (Option.some.inj hr).symm) (hQ9.pp hf.pp).1)
