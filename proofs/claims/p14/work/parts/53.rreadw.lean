theorem pT_nil {tx : Nat → Nat} {n i : Nat} {I : pmI} : pT tx n i I [] := ⟨by decide, fun j v hv => nomatch hv⟩
set_option maxRecDepth 20000 in
set_option maxHeartbeats 4000000 in
theorem rr_A {l : Launch} {E : pmE} {S : pmS} {P : pmP} {d : Nat} {Q : Option Value → pmS → pmI → pmJ → pmP → Prop} {tx : Nat → Nat} {n i kp T f : Nat} {I : pmI} {J : pmJ} {z : Int32} {r : Except Nat (Nat × Int64 × List Int64 × List dD)} (hG : sh_St S) (hP : gr_St P) (hb : ∀ j, j < n → tx j < 128) (hn9 : n ≤ 120) (hd : 8 ≤ d) (hs : qs tx n i kp I J 0 0 T 0) (hro : I 60 kp = -5) (hpar : I 57 kp = nI 0) (hsO : I 55 kp = nI 0) (hr : rx (tk_k tx n) (tk_p tx n) (tk_v tx n) f [] 0 0 0 = some r) (k1 : ∀ form dec pa L I' J', r = .ok (form, dec, pa, L) → rdN tx n i kp I' J' form dec pa L → frd kp I I' J J' → Q (some (.int (-1))) S I' J' P) (k0 : ∀ e I' J', r = .error e → frd kp I I' J J' → Q (some (.int (nI (tk_p tx n e)))) S I' J' P) : pm_W l E yX10_read cX10_read 3 (some .int) d 0 0 88 [(1, .int z), (0, .ref 47)] [] S I J P (pm_N E Q) := by
  have hkK := hs.2.1.1
  have hkp := hs.2.1.2
  have hi6 := hs.1.2.1
  refine pw_aload_n dX10_read_88 rfl ?_
  refine pw_getR fX10_32 dX10_read_89 (sh_lt hG (by decide)) (sh_tg hG 45 rfl) rfl (gr_at hP 47 rfl) ?_
  refine pw_aload_n dX10_read_92 rfl ?_
  refine pw_getI fX10_220 dX10_read_93 (sh_lt hG (by decide)) (sh_tg hG 45 rfl) rfl ?_
  refine pw_ialdN kp dX10_read_96 (sh_lt hG (by decide)) (sh_sh hG 53 rfl) (by decide) (by (repeat (first | rw [pm_u_ne (by decide)] | rw [pm_u_eq, pm_up_ne (by decide)])); exact hkK) (by omega) ?_
  refine pw_ti (z := nI 0) (by (repeat rw [pm_u_ne (by decide)]); exact hsO) ?_
  refine pw_if_ne (tgt := 107) dX10_read_97 (by decide) (fun h => absurd (by decide) h) (fun h97 => ?_)
  refine pw_aload_n dX10_read_100 rfl ?_
  refine pw_callV (as := []) (kc' := 0) (ks' := 0) lX10_266 dX10_read_101 rfl rfl (sh_lt hG (by decide)) (sh_tg hG 45 rfl) (Nat.le_of_ble_eq_true rfl) (by omega) (Nat.le_of_ble_eq_true rfl) (Nat.zero_le _) (Nat.zero_le _) ?_
  unfold rx at hr
  rcases hps : ps (tk_k tx n) (tk_p tx n) (tk_v tx n) [] f 0 (0) 0 [] 0 with _ | (e | ⟨b, L⟩)
  · rw [hps] at hr
    cases hr
  · rw [hps] at hr
    refine c_X10_readExpr hG hP hb (by omega) hn9 hs hps (fun b L N m' I1 J1 hh => nomatch hh) (fun e' x I1 J1 hh hF hf => ?_)
    cases hh
    have hR9 := (fq.rd (fq.refl (T := 0))).trans hf.rd
    have hple := tk_p_le (tx := tx) (n := n) (e)
    refine pw_goto (tgt := 256) dX10_read_104 (by decide) ?_
    refine pw_aload_n dX10_read_256 rfl ?_
    refine pw_iconst (v := nI 0) dX10_read_257 (by decide) ?_
    refine pw_callV (as := [_]) (kc' := 0) (ks' := 0) lX10_237 dX10_read_258 rfl rfl (sh_lt hG (by decide)) (sh_tg hG 45 rfl) (Nat.le_of_ble_eq_true rfl) (by omega) (Nat.le_of_ble_eq_true rfl) (Nat.zero_le _) (Nat.zero_le _) ?_
    refine c_X10_needF hG hP (by omega) (e := tk_p tx n (e)) (by rw [pm_u_ne (by decide)]; exact hF) (by omega) ?_
    refine pw_pop dX10_read_261 rfl ?_
    refine pw_aload_n dX10_read_262 rfl ?_
    refine pw_getI fX10_197 dX10_read_263 (sh_lt hG (by decide)) (sh_tg hG 45 rfl) rfl ?_
    refine pw_ti (z := nI (tk_p tx n (e))) (by rw [pm_u_eq, pm_up_eq]) ?_
    exact pw_iret dX10_read_266 rfl (k0 (e) _ _ ((Option.some.inj hr).symm) ((hR9.trans (frd.put (by omega))).trans (fq.rd (fq.put (T := 0) (by decide) (by decide)))))
  · rw [hps] at hr
    dsimp only at hr
    refine c_X10_readExpr hG hP hb (by omega) hn9 hs hps (fun b' L' N m' I1 J1 hh hs1 hn1 hm1 hf => ?_) (fun e' x I1 J1 hh => nomatch hh)
    cases hh
    have hR9 := (fq.rd (fq.refl (T := 0))).trans hf.rd
    have hso9 : I1 55 kp = nI 0 := by rw [hf.1 55 (by decide) (by decide) (by decide)]; exact hsO
    have hpa9 : I1 57 kp = nI ([] : List Int64).length := by rw [hf.1 57 (by decide) (by decide) (by decide)]; exact hpar
    have hpT9 : pT tx n i I1 [] := ((pT_nil (I := I))).mv (hf.1 86 (by decide) (by decide) (by decide))
    have hs9 := hs1.ot (b := 60) (j := kp) (by omega) (nI N)
    refine pw_goto (tgt := 256) dX10_read_104 (by decide) ?_
    refine pw_aload_n dX10_read_256 rfl ?_
    refine pw_iconst (v := nI 0) dX10_read_257 (by decide) ?_
    refine pw_callV (as := [_]) (kc' := 0) (ks' := 0) lX10_237 dX10_read_258 rfl rfl (sh_lt hG (by decide)) (sh_tg hG 45 rfl) (Nat.le_of_ble_eq_true rfl) (by omega) (Nat.le_of_ble_eq_true rfl) (Nat.zero_le _) (Nat.zero_le _) ?_
    refine c_X10_need hG hP (by omega) hs9 hb (c := 0) (by decide) (fun hz1 => ?_) (fun hz0 => ?_)
    · refine pw_pop dX10_read_261 rfl ?_
      refine pw_aload_n dX10_read_262 rfl ?_
      refine pw_getI fX10_197 dX10_read_263 (sh_lt hG (by decide)) (sh_tg hG 45 rfl) rfl ?_
      refine pw_ti (z := -1) (by rw [pm_u_eq, pm_up_ne (by decide), pm_u_ne (by decide)]; exact hs1.2.2.2.1) ?_
      exact pw_iret dX10_read_266 rfl (k1 0 0 [] L _ _ (by rw [if_pos ((rq0 hb).mp hz1)] at hr; exact (Option.some.inj hr).symm) (rdN_mk1 hs1 hso9 (Or.inl ⟨rfl, rfl⟩) hpa9 hpT9 (by decide) hn1) ((hR9.trans (frd.put (by omega))).trans (fq.rd (fq.put (T := 0) (by decide) (by decide)))))
    · refine pw_pop dX10_read_261 rfl ?_
      refine pw_aload_n dX10_read_262 rfl ?_
      refine pw_getI fX10_197 dX10_read_263 (sh_lt hG (by decide)) (sh_tg hG 45 rfl) rfl ?_
      refine pw_ti (z := nI (tk_p tx n b)) (by rw [pm_u_eq, pm_up_eq]) ?_
      exact pw_iret dX10_read_266 rfl (k0 b _ _ (by rw [if_neg (fun q => hz0 ((rq0 hb).mpr q))] at hr; exact (Option.some.inj hr).symm) ((hR9.trans (frd.put (by omega))).trans (fq.rd (fq.put (T := 0) (by decide) (by decide)))))
set_option maxRecDepth 20000 in
set_option maxHeartbeats 4000000 in
theorem rr_V {l : Launch} {E : pmE} {S : pmS} {P : pmP} {d : Nat} {Q : Option Value → pmS → pmI → pmJ → pmP → Prop} {tx : Nat → Nat} {n i kp T f : Nat} {I : pmI} {J : pmJ} {z : Int32} {r : Except Nat (Nat × Int64 × List Int64 × List dD)} (hG : sh_St S) (hP : gr_St P) (hb : ∀ j, j < n → tx j < 128) (hn9 : n ≤ 120) (hd : 8 ≤ d) (hs : qs tx n i kp I J 0 0 T 0) (hro : I 60 kp = -5) (hpar : I 57 kp = nI 0) (hsO : I 55 kp = nI 1) (h118 : tk_k tx n 0 = 118) (hr : (if tk_k tx n 1 = 97 then (if tk_k tx n 2 = 61 then rx (tk_k tx n) (tk_p tx n) (tk_v tx n) f [] 3 1 (tk_v tx n 1) else if tk_k tx n 2 = 0 then some (.ok (1, tk_v tx n 1, [], [(7, 0, 0, 0)])) else some (.error 2)) else some (.error 1)) = some r) (k1 : ∀ form dec pa L I' J', r = .ok (form, dec, pa, L) → rdN tx n i kp I' J' form dec pa L → frd kp I I' J J' → Q (some (.int (-1))) S I' J' P) (k0 : ∀ e I' J', r = .error e → frd kp I I' J J' → Q (some (.int (nI (tk_p tx n e)))) S I' J' P) : pm_W l E yX10_read cX10_read 3 (some .int) d 0 0 88 [(1, .int z), (0, .ref 47)] [] S I J P (pm_N E Q) := by
  have hkK := hs.2.1.1
  have hkp := hs.2.1.2
  have hi6 := hs.1.2.1
  have h0i := hs.lt (by rw [h118]; decide) (by rw [h118]; decide)
  have hs1 := hs.at' (b := 1) (by omega) (by omega)
  have hR1 : frd kp I (pm_u I 47 40 (nI 1)) J J := fq.rd (fq.put (T := 0) (by decide) (by decide))
  refine pw_aload_n dX10_read_88 rfl ?_
  refine pw_getR fX10_32 dX10_read_89 (sh_lt hG (by decide)) (sh_tg hG 45 rfl) rfl (gr_at hP 47 rfl) ?_
  refine pw_aload_n dX10_read_92 rfl ?_
  refine pw_getI fX10_220 dX10_read_93 (sh_lt hG (by decide)) (sh_tg hG 45 rfl) rfl ?_
  refine pw_ialdN kp dX10_read_96 (sh_lt hG (by decide)) (sh_sh hG 53 rfl) (by decide) (by (repeat (first | rw [pm_u_ne (by decide)] | rw [pm_u_eq, pm_up_ne (by decide)])); exact hkK) (by omega) ?_
  refine pw_ti (z := nI 1) (by (repeat rw [pm_u_ne (by decide)]); exact hsO) ?_
  refine pw_if_ne (tgt := 107) dX10_read_97 (by decide) (fun h97 => ?_) (fun h => absurd h (by decide))
  refine pw_aload_n dX10_read_107 rfl ?_
  refine pw_callV (as := []) (kc' := 0) (ks' := 0) lX10_207 dX10_read_108 rfl rfl (sh_lt hG (by decide)) (sh_tg hG 45 rfl) (Nat.le_of_ble_eq_true rfl) (by omega) (Nat.le_of_ble_eq_true rfl) (Nat.zero_le _) (Nat.zero_le _) ?_
  refine c_X10_next (a := 0) hG hP hs.2.2.1.1 ?_
  refine pw_aload_n dX10_read_111 rfl ?_
  refine pw_iconst (v := nI 1) dX10_read_112 (by decide) ?_
  refine pw_callV (as := [_]) (kc' := 0) (ks' := 0) lX10_237 dX10_read_113 rfl rfl (sh_lt hG (by decide)) (sh_tg hG 45 rfl) (Nat.le_of_ble_eq_true rfl) (by omega) (Nat.le_of_ble_eq_true rfl) (Nat.zero_le _) (Nat.zero_le _) ?_
  refine c_X10_need hG hP (by omega) hs1 hb (c := 1) (by decide) (fun hq1 => ?_) (fun hq0 => ?_)
  · have hn97 := (rq97 hb).mp hq1
    rw [if_pos hn97] at hr
    have hi1 := hs1.lt (by rw [hn97]; decide) (by rw [hn97]; decide)
    have hs2 : qs tx n i kp (pm_u (pm_u I 47 40 (nI 1)) 47 40 (nI 2)) J 2 0 T 0 := hs1.at' (b := 2) (by omega) (by omega)
    have hR2 : frd kp I (pm_u (pm_u I 47 40 (nI 1)) 47 40 (nI 2)) J J := hR1.trans (fq.rd (fq.put (T := 0) (by decide) (by decide)))
    have hkc := (rk_c (tk_k_c (tx := tx) (n := n) (i := 2) hb).1)
    by_cases h61 : tk_k tx n 2 = 61
    · rw [if_pos h61] at hr
      have hi2 := hs2.lt (by rw [h61]; decide) (by rw [h61]; decide)
      have hs3 := hs2.at' (b := 3) (by omega) (by omega)
      refine pw_pop dX10_read_116 rfl ?_
      refine pw_aload_n dX10_read_117 rfl ?_
      refine pw_getR fX10_32 dX10_read_118 (sh_lt hG (by decide)) (sh_tg hG 45 rfl) rfl (gr_at hP 47 rfl) ?_
      refine pw_aload_n dX10_read_121 rfl ?_
      refine pw_getI fX10_220 dX10_read_122 (sh_lt hG (by decide)) (sh_tg hG 45 rfl) rfl ?_
      refine pw_ialdN kp dX10_read_125 (sh_lt hG (by decide)) (sh_sh hG 53 rfl) (by decide) (by (repeat (first | rw [pm_u_ne (by decide)] | rw [pm_u_eq, pm_up_ne (by decide)])); exact hkK) (by omega) ?_
      refine pw_ti (z := nI 1) (by (repeat rw [pm_u_ne (by decide)]); exact hsO) ?_
      refine pw_iconst (v := nI 1) dX10_read_126 (by decide) ?_
      refine pw_icmp_le (tgt := 152) dX10_read_127 (by decide) (fun h127 => ?_) (fun h => absurd (by decide) h)
      refine pw_aload_n dX10_read_152 rfl ?_
      refine pw_getR fX10_32 dX10_read_153 (sh_lt hG (by decide)) (sh_tg hG 45 rfl) rfl (gr_at hP 47 rfl) ?_
      refine pw_aload_n dX10_read_156 rfl ?_
      refine pw_getI fX10_220 dX10_read_157 (sh_lt hG (by decide)) (sh_tg hG 45 rfl) rfl ?_
      refine pw_ialdN kp dX10_read_160 (sh_lt hG (by decide)) (sh_sh hG 53 rfl) (by decide) (by (repeat (first | rw [pm_u_ne (by decide)] | rw [pm_u_eq, pm_up_ne (by decide)])); exact hkK) (by omega) ?_
      refine pw_ti (z := nI 1) (by (repeat rw [pm_u_ne (by decide)]); exact hsO) ?_
      refine pw_iconst (v := nI 2) dX10_read_161 (by decide) ?_
      refine pw_icmp_ne (tgt := 172) dX10_read_162 (by decide) (fun h162 => ?_) (fun h => absurd h (by decide))
      refine pw_aload_n dX10_read_172 rfl ?_
      refine pw_getR fX10_32 dX10_read_173 (sh_lt hG (by decide)) (sh_tg hG 45 rfl) rfl (gr_at hP 47 rfl) ?_
      refine pw_aload_n dX10_read_176 rfl ?_
      refine pw_getI fX10_220 dX10_read_177 (sh_lt hG (by decide)) (sh_tg hG 45 rfl) rfl ?_
      refine pw_ialdN kp dX10_read_180 (sh_lt hG (by decide)) (sh_sh hG 53 rfl) (by decide) (by (repeat (first | rw [pm_u_ne (by decide)] | rw [pm_u_eq, pm_up_ne (by decide)])); exact hkK) (by omega) ?_
      refine pw_ti (z := nI 1) (by (repeat rw [pm_u_ne (by decide)]); exact hsO) ?_
      refine pw_iconst (v := nI 2) dX10_read_181 (by decide) ?_
      refine pw_icmp_eq (tgt := 214) dX10_read_182 (by decide) (fun h => absurd h (by decide)) (fun h182 => ?_)
      refine pw_aload_n dX10_read_185 rfl ?_
      refine pw_getR fX10_32 dX10_read_186 (sh_lt hG (by decide)) (sh_tg hG 45 rfl) rfl (gr_at hP 47 rfl) ?_
      refine pw_aload_n dX10_read_189 rfl ?_
      refine pw_getI fX10_220 dX10_read_190 (sh_lt hG (by decide)) (sh_tg hG 45 rfl) rfl ?_
      refine pw_ialdN kp dX10_read_193 (sh_lt hG (by decide)) (sh_sh hG 53 rfl) (by decide) (by (repeat (first | rw [pm_u_ne (by decide)] | rw [pm_u_eq, pm_up_ne (by decide)])); exact hkK) (by omega) ?_
      refine pw_ti (z := nI 1) (by (repeat rw [pm_u_ne (by decide)]); exact hsO) ?_
      refine pw_iconst (v := nI 1) dX10_read_194 (by decide) ?_
      refine pw_icmp_ne (tgt := 218) dX10_read_195 (by decide) (fun h => absurd (by decide) h) (fun h195 => ?_)
      refine pw_aload_n dX10_read_198 rfl ?_
      refine pw_getI fX10_197 dX10_read_199 (sh_lt hG (by decide)) (sh_tg hG 45 rfl) rfl ?_
      refine pw_if_ge (tgt := 218) dX10_read_202 (by decide) (fun h => absurd h (by rw [hs2.2.2.2.1]; decide)) (fun h202 => ?_)
      refine pw_aload_n dX10_read_205 rfl ?_
      refine pw_callV (as := []) (kc' := 0) (ks' := 0) lX10_200 dX10_read_206 rfl rfl (sh_lt hG (by decide)) (sh_tg hG 45 rfl) (Nat.le_of_ble_eq_true rfl) (by omega) (Nat.le_of_ble_eq_true rfl) (Nat.zero_le _) (Nat.zero_le _) ?_
      refine c_X10_tok hG hP hs2 ?_
      refine pw_ti (z := nI 61) (by rw [h61]; rfl) ?_
      refine pw_bipush (v := nI 61) dX10_read_209 (by decide) ?_
      refine pw_icmp_ne (tgt := 218) dX10_read_211 (by decide) (fun h => absurd (by decide) h) (fun h211 => ?_)
      refine pw_iconst (v := nI 1) dX10_read_214 (by decide) ?_
      refine pw_goto (tgt := 219) dX10_read_215 (by decide) ?_
      refine pw_istore_n (lv' := [(2, _), (1, _), (0, _)]) dX10_read_219 (by decide) rfl ?_
      refine pw_aload_n dX10_read_220 rfl ?_
      refine pw_getR fX10_32 dX10_read_221 (sh_lt hG (by decide)) (sh_tg hG 45 rfl) rfl (gr_at hP 47 rfl) ?_
      refine pw_aload_n dX10_read_224 rfl ?_
      refine pw_getI fX10_220 dX10_read_225 (sh_lt hG (by decide)) (sh_tg hG 45 rfl) rfl ?_
      refine pw_ialdN kp dX10_read_228 (sh_lt hG (by decide)) (sh_sh hG 53 rfl) (by decide) (by (repeat (first | rw [pm_u_ne (by decide)] | rw [pm_u_eq, pm_up_ne (by decide)])); exact hkK) (by omega) ?_
      refine pw_ti (z := nI 1) (by (repeat rw [pm_u_ne (by decide)]); exact hsO) ?_
      refine pw_iconst (v := nI 1) dX10_read_229 (by decide) ?_
      refine pw_icmp_ne (tgt := 241) dX10_read_230 (by decide) (fun h => absurd (by decide) h) (fun h230 => ?_)
      refine pw_iload_n dX10_read_233 rfl ?_
      refine pw_if_eq (tgt := 241) dX10_read_234 (by decide) (fun h => absurd h (by decide)) (fun h234 => ?_)
      refine pw_aload_n dX10_read_237 rfl ?_
      refine pw_callV (as := []) (kc' := 0) (ks' := 0) lX10_207 dX10_read_238 rfl rfl (sh_lt hG (by decide)) (sh_tg hG 45 rfl) (Nat.le_of_ble_eq_true rfl) (by omega) (Nat.le_of_ble_eq_true rfl) (Nat.zero_le _) (Nat.zero_le _) ?_
      refine c_X10_next (a := 2) hG hP hs2.2.2.1.1 ?_
      refine pw_iload_n dX10_read_241 rfl ?_
      refine pw_if_eq (tgt := 256) dX10_read_242 (by decide) (fun h => absurd h (by decide)) (fun h242 => ?_)
      refine pw_aload_n dX10_read_245 rfl ?_
      refine pw_getI fX10_197 dX10_read_246 (sh_lt hG (by decide)) (sh_tg hG 45 rfl) rfl ?_
      refine pw_if_ge (tgt := 256) dX10_read_249 (by decide) (fun h => absurd h (by rw [hs3.2.2.2.1]; decide)) (fun h249 => ?_)
      refine pw_aload_n dX10_read_252 rfl ?_
      refine pw_callV (as := []) (kc' := 0) (ks' := 0) lX10_266 dX10_read_253 rfl rfl (sh_lt hG (by decide)) (sh_tg hG 45 rfl) (Nat.le_of_ble_eq_true rfl) (by omega) (Nat.le_of_ble_eq_true rfl) (Nat.zero_le _) (Nat.zero_le _) ?_
      unfold rx at hr
      rcases hps : ps (tk_k tx n) (tk_p tx n) (tk_v tx n) [] f 0 (3) 0 [] 0 with _ | (e | ⟨b, L⟩)
      · rw [hps] at hr
        cases hr
      · rw [hps] at hr
        refine c_X10_readExpr hG hP hb (by omega) hn9 hs3 hps (fun b L N m' I1 J1 hh => nomatch hh) (fun e' x I1 J1 hh hF hf => ?_)
        cases hh
        have hR9 := (hR2.trans (fq.rd (fq.put (T := 0) (by decide) (by decide)))).trans hf.rd
        have hple := tk_p_le (tx := tx) (n := n) (e)
        refine pw_aload_n dX10_read_256 rfl ?_
        refine pw_iconst (v := nI 0) dX10_read_257 (by decide) ?_
        refine pw_callV (as := [_]) (kc' := 0) (ks' := 0) lX10_237 dX10_read_258 rfl rfl (sh_lt hG (by decide)) (sh_tg hG 45 rfl) (Nat.le_of_ble_eq_true rfl) (by omega) (Nat.le_of_ble_eq_true rfl) (Nat.zero_le _) (Nat.zero_le _) ?_
        refine c_X10_needF hG hP (by omega) (e := tk_p tx n (e)) (by rw [pm_u_ne (by decide)]; exact hF) (by omega) ?_
        refine pw_pop dX10_read_261 rfl ?_
        refine pw_aload_n dX10_read_262 rfl ?_
        refine pw_getI fX10_197 dX10_read_263 (sh_lt hG (by decide)) (sh_tg hG 45 rfl) rfl ?_
        refine pw_ti (z := nI (tk_p tx n (e))) (by rw [pm_u_eq, pm_up_eq]) ?_
        exact pw_iret dX10_read_266 rfl (k0 (e) _ _ ((Option.some.inj hr).symm) ((hR9.trans (frd.put (by omega))).trans (fq.rd (fq.put (T := 0) (by decide) (by decide)))))
      · rw [hps] at hr
        dsimp only at hr
        refine c_X10_readExpr hG hP hb (by omega) hn9 hs3 hps (fun b' L' N m' I1 J1 hh hs1 hn1 hm1 hf => ?_) (fun e' x I1 J1 hh => nomatch hh)
        cases hh
        have hR9 := (hR2.trans (fq.rd (fq.put (T := 0) (by decide) (by decide)))).trans hf.rd
        have hso9 : I1 55 kp = nI 1 := by rw [hf.1 55 (by decide) (by decide) (by decide)]; exact (by (repeat rw [pm_u_ne (by decide)]); exact hsO)
        have hpa9 : I1 57 kp = nI ([] : List Int64).length := by rw [hf.1 57 (by decide) (by decide) (by decide)]; exact (by (repeat rw [pm_u_ne (by decide)]); exact hpar)
        have hpT9 : pT tx n i I1 [] := ((pT_nil (I := pm_u (pm_u (pm_u I 47 40 (nI 1)) 47 40 (nI 2)) 47 40 (nI 3)))).mv (hf.1 86 (by decide) (by decide) (by decide))
        have hs9 := hs1.ot (b := 60) (j := kp) (by omega) (nI N)
        refine pw_aload_n dX10_read_256 rfl ?_
        refine pw_iconst (v := nI 0) dX10_read_257 (by decide) ?_
        refine pw_callV (as := [_]) (kc' := 0) (ks' := 0) lX10_237 dX10_read_258 rfl rfl (sh_lt hG (by decide)) (sh_tg hG 45 rfl) (Nat.le_of_ble_eq_true rfl) (by omega) (Nat.le_of_ble_eq_true rfl) (Nat.zero_le _) (Nat.zero_le _) ?_
        refine c_X10_need hG hP (by omega) hs9 hb (c := 0) (by decide) (fun hz1 => ?_) (fun hz0 => ?_)
        · refine pw_pop dX10_read_261 rfl ?_
          refine pw_aload_n dX10_read_262 rfl ?_
          refine pw_getI fX10_197 dX10_read_263 (sh_lt hG (by decide)) (sh_tg hG 45 rfl) rfl ?_
          refine pw_ti (z := -1) (by rw [pm_u_eq, pm_up_ne (by decide), pm_u_ne (by decide)]; exact hs1.2.2.2.1) ?_
          exact pw_iret dX10_read_266 rfl (k1 1 (tk_v tx n 1) [] L _ _ (by rw [if_pos ((rq0 hb).mp hz1)] at hr; exact (Option.some.inj hr).symm) (rdN_mk1 hs1 hso9 (Or.inr ⟨hi1, hn97, rfl⟩) hpa9 hpT9 (by decide) hn1) ((hR9.trans (frd.put (by omega))).trans (fq.rd (fq.put (T := 0) (by decide) (by decide)))))
        · refine pw_pop dX10_read_261 rfl ?_
          refine pw_aload_n dX10_read_262 rfl ?_
          refine pw_getI fX10_197 dX10_read_263 (sh_lt hG (by decide)) (sh_tg hG 45 rfl) rfl ?_
          refine pw_ti (z := nI (tk_p tx n b)) (by rw [pm_u_eq, pm_up_eq]) ?_
          exact pw_iret dX10_read_266 rfl (k0 b _ _ (by rw [if_neg (fun q => hz0 ((rq0 hb).mpr q))] at hr; exact (Option.some.inj hr).symm) ((hR9.trans (frd.put (by omega))).trans (fq.rd (fq.put (T := 0) (by decide) (by decide)))))
    · rw [if_neg h61] at hr
      refine pw_pop dX10_read_116 rfl ?_
      refine pw_aload_n dX10_read_117 rfl ?_
      refine pw_getR fX10_32 dX10_read_118 (sh_lt hG (by decide)) (sh_tg hG 45 rfl) rfl (gr_at hP 47 rfl) ?_
      refine pw_aload_n dX10_read_121 rfl ?_
      refine pw_getI fX10_220 dX10_read_122 (sh_lt hG (by decide)) (sh_tg hG 45 rfl) rfl ?_
      refine pw_ialdN kp dX10_read_125 (sh_lt hG (by decide)) (sh_sh hG 53 rfl) (by decide) (by (repeat (first | rw [pm_u_ne (by decide)] | rw [pm_u_eq, pm_up_ne (by decide)])); exact hkK) (by omega) ?_
      refine pw_ti (z := nI 1) (by (repeat rw [pm_u_ne (by decide)]); exact hsO) ?_
      refine pw_iconst (v := nI 1) dX10_read_126 (by decide) ?_
      refine pw_icmp_le (tgt := 152) dX10_read_127 (by decide) (fun h127 => ?_) (fun h => absurd (by decide) h)
      refine pw_aload_n dX10_read_152 rfl ?_
      refine pw_getR fX10_32 dX10_read_153 (sh_lt hG (by decide)) (sh_tg hG 45 rfl) rfl (gr_at hP 47 rfl) ?_
      refine pw_aload_n dX10_read_156 rfl ?_
      refine pw_getI fX10_220 dX10_read_157 (sh_lt hG (by decide)) (sh_tg hG 45 rfl) rfl ?_
      refine pw_ialdN kp dX10_read_160 (sh_lt hG (by decide)) (sh_sh hG 53 rfl) (by decide) (by (repeat (first | rw [pm_u_ne (by decide)] | rw [pm_u_eq, pm_up_ne (by decide)])); exact hkK) (by omega) ?_
      refine pw_ti (z := nI 1) (by (repeat rw [pm_u_ne (by decide)]); exact hsO) ?_
      refine pw_iconst (v := nI 2) dX10_read_161 (by decide) ?_
      refine pw_icmp_ne (tgt := 172) dX10_read_162 (by decide) (fun h162 => ?_) (fun h => absurd h (by decide))
      refine pw_aload_n dX10_read_172 rfl ?_
      refine pw_getR fX10_32 dX10_read_173 (sh_lt hG (by decide)) (sh_tg hG 45 rfl) rfl (gr_at hP 47 rfl) ?_
      refine pw_aload_n dX10_read_176 rfl ?_
      refine pw_getI fX10_220 dX10_read_177 (sh_lt hG (by decide)) (sh_tg hG 45 rfl) rfl ?_
      refine pw_ialdN kp dX10_read_180 (sh_lt hG (by decide)) (sh_sh hG 53 rfl) (by decide) (by (repeat (first | rw [pm_u_ne (by decide)] | rw [pm_u_eq, pm_up_ne (by decide)])); exact hkK) (by omega) ?_
      refine pw_ti (z := nI 1) (by (repeat rw [pm_u_ne (by decide)]); exact hsO) ?_
      refine pw_iconst (v := nI 2) dX10_read_181 (by decide) ?_
      refine pw_icmp_eq (tgt := 214) dX10_read_182 (by decide) (fun h => absurd h (by decide)) (fun h182 => ?_)
      refine pw_aload_n dX10_read_185 rfl ?_
      refine pw_getR fX10_32 dX10_read_186 (sh_lt hG (by decide)) (sh_tg hG 45 rfl) rfl (gr_at hP 47 rfl) ?_
      refine pw_aload_n dX10_read_189 rfl ?_
      refine pw_getI fX10_220 dX10_read_190 (sh_lt hG (by decide)) (sh_tg hG 45 rfl) rfl ?_
      refine pw_ialdN kp dX10_read_193 (sh_lt hG (by decide)) (sh_sh hG 53 rfl) (by decide) (by (repeat (first | rw [pm_u_ne (by decide)] | rw [pm_u_eq, pm_up_ne (by decide)])); exact hkK) (by omega) ?_
      refine pw_ti (z := nI 1) (by (repeat rw [pm_u_ne (by decide)]); exact hsO) ?_
      refine pw_iconst (v := nI 1) dX10_read_194 (by decide) ?_
      refine pw_icmp_ne (tgt := 218) dX10_read_195 (by decide) (fun h => absurd (by decide) h) (fun h195 => ?_)
      refine pw_aload_n dX10_read_198 rfl ?_
      refine pw_getI fX10_197 dX10_read_199 (sh_lt hG (by decide)) (sh_tg hG 45 rfl) rfl ?_
      refine pw_if_ge (tgt := 218) dX10_read_202 (by decide) (fun h => absurd h (by rw [hs2.2.2.2.1]; decide)) (fun h202 => ?_)
      refine pw_aload_n dX10_read_205 rfl ?_
      refine pw_callV (as := []) (kc' := 0) (ks' := 0) lX10_200 dX10_read_206 rfl rfl (sh_lt hG (by decide)) (sh_tg hG 45 rfl) (Nat.le_of_ble_eq_true rfl) (by omega) (Nat.le_of_ble_eq_true rfl) (Nat.zero_le _) (Nat.zero_le _) ?_
      refine c_X10_tok hG hP hs2 ?_
      refine pw_bipush (v := nI 61) dX10_read_209 (by decide) ?_
      refine pw_icmpN_ne _ _ (tgt := 218) dX10_read_211 (by decide) (rfl) (rfl) (by omega) (by omega) (fun h211 => ?_) (fun h211 => absurd h211 (fun q => h61 ((rq61 hb).mp q)))
      refine pw_iconst (v := nI 0) dX10_read_218 (by decide) ?_
      refine pw_istore_n (lv' := [(2, _), (1, _), (0, _)]) dX10_read_219 (by decide) rfl ?_
      refine pw_aload_n dX10_read_220 rfl ?_
      refine pw_getR fX10_32 dX10_read_221 (sh_lt hG (by decide)) (sh_tg hG 45 rfl) rfl (gr_at hP 47 rfl) ?_
      refine pw_aload_n dX10_read_224 rfl ?_
      refine pw_getI fX10_220 dX10_read_225 (sh_lt hG (by decide)) (sh_tg hG 45 rfl) rfl ?_
      refine pw_ialdN kp dX10_read_228 (sh_lt hG (by decide)) (sh_sh hG 53 rfl) (by decide) (by (repeat (first | rw [pm_u_ne (by decide)] | rw [pm_u_eq, pm_up_ne (by decide)])); exact hkK) (by omega) ?_
      refine pw_ti (z := nI 1) (by (repeat rw [pm_u_ne (by decide)]); exact hsO) ?_
      refine pw_iconst (v := nI 1) dX10_read_229 (by decide) ?_
      refine pw_icmp_ne (tgt := 241) dX10_read_230 (by decide) (fun h => absurd (by decide) h) (fun h230 => ?_)
      refine pw_iload_n dX10_read_233 rfl ?_
      refine pw_if_eq (tgt := 241) dX10_read_234 (by decide) (fun h234 => ?_) (fun h => absurd (by decide) h)
      refine pw_iload_n dX10_read_241 rfl ?_
      refine pw_if_eq (tgt := 256) dX10_read_242 (by decide) (fun h242 => ?_) (fun h => absurd (by decide) h)
      refine pw_aload_n dX10_read_256 rfl ?_
      refine pw_iconst (v := nI 0) dX10_read_257 (by decide) ?_
      refine pw_callV (as := [_]) (kc' := 0) (ks' := 0) lX10_237 dX10_read_258 rfl rfl (sh_lt hG (by decide)) (sh_tg hG 45 rfl) (Nat.le_of_ble_eq_true rfl) (by omega) (Nat.le_of_ble_eq_true rfl) (Nat.zero_le _) (Nat.zero_le _) ?_
      refine c_X10_need hG hP (by omega) hs2 hb (c := 0) (by decide) (fun hz1 => ?_) (fun hz0 => ?_)
      · refine pw_pop dX10_read_261 rfl ?_
        refine pw_aload_n dX10_read_262 rfl ?_
        refine pw_getI fX10_197 dX10_read_263 (sh_lt hG (by decide)) (sh_tg hG 45 rfl) rfl ?_
        refine pw_ti (z := -1) (by rw [pm_u_eq, pm_up_ne (by decide)]; exact hs2.2.2.2.1) ?_
        exact pw_iret dX10_read_266 rfl (k1 1 (tk_v tx n 1) [] [(7, 0, 0, 0)] _ _ (by rw [if_pos ((rq0 hb).mp hz1)] at hr; exact (Option.some.inj hr).symm) (rdN_mk2 hs2 (by (repeat rw [pm_u_ne (by decide)]); exact hsO) (Or.inr ⟨hi1, hn97, rfl⟩) (by (repeat rw [pm_u_ne (by decide)]); exact hpar) ⟨by decide, fun j v hv => nomatch hv⟩ (by (repeat rw [pm_u_ne (by decide)]); exact hro) (Or.inl ⟨rfl, rfl⟩)) (hR2.trans (fq.rd (fq.put (T := 0) (by decide) (by decide)))))
      · refine pw_pop dX10_read_261 rfl ?_
        refine pw_aload_n dX10_read_262 rfl ?_
        refine pw_getI fX10_197 dX10_read_263 (sh_lt hG (by decide)) (sh_tg hG 45 rfl) rfl ?_
        refine pw_ti (z := nI (tk_p tx n 2)) (by rw [pm_u_eq, pm_up_eq]) ?_
        exact pw_iret dX10_read_266 rfl (k0 2 _ _ (by rw [if_neg (fun q => hz0 ((rq0 hb).mpr q))] at hr; exact (Option.some.inj hr).symm) (hR2.trans (fq.rd (fq.put (T := 0) (by decide) (by decide)))))
  · rw [if_neg (fun q => hq0 ((rq97 hb).mpr q))] at hr
    have hple := tk_p_le (tx := tx) (n := n) (1)
    refine pw_pop dX10_read_116 rfl ?_
    refine pw_aload_n dX10_read_117 rfl ?_
    refine pw_getR fX10_32 dX10_read_118 (sh_lt hG (by decide)) (sh_tg hG 45 rfl) rfl (gr_at hP 47 rfl) ?_
    refine pw_aload_n dX10_read_121 rfl ?_
    refine pw_getI fX10_220 dX10_read_122 (sh_lt hG (by decide)) (sh_tg hG 45 rfl) rfl ?_
    refine pw_ialdN kp dX10_read_125 (sh_lt hG (by decide)) (sh_sh hG 53 rfl) (by decide) (by (repeat (first | rw [pm_u_ne (by decide)] | rw [pm_u_eq, pm_up_ne (by decide)])); exact hkK) (by omega) ?_
    refine pw_ti (z := nI 1) (by (repeat rw [pm_u_ne (by decide)]); exact hsO) ?_
    refine pw_iconst (v := nI 1) dX10_read_126 (by decide) ?_
    refine pw_icmp_le (tgt := 152) dX10_read_127 (by decide) (fun h127 => ?_) (fun h => absurd (by decide) h)
    refine pw_aload_n dX10_read_152 rfl ?_
    refine pw_getR fX10_32 dX10_read_153 (sh_lt hG (by decide)) (sh_tg hG 45 rfl) rfl (gr_at hP 47 rfl) ?_
    refine pw_aload_n dX10_read_156 rfl ?_
    refine pw_getI fX10_220 dX10_read_157 (sh_lt hG (by decide)) (sh_tg hG 45 rfl) rfl ?_
    refine pw_ialdN kp dX10_read_160 (sh_lt hG (by decide)) (sh_sh hG 53 rfl) (by decide) (by (repeat (first | rw [pm_u_ne (by decide)] | rw [pm_u_eq, pm_up_ne (by decide)])); exact hkK) (by omega) ?_
    refine pw_ti (z := nI 1) (by (repeat rw [pm_u_ne (by decide)]); exact hsO) ?_
    refine pw_iconst (v := nI 2) dX10_read_161 (by decide) ?_
    refine pw_icmp_ne (tgt := 172) dX10_read_162 (by decide) (fun h162 => ?_) (fun h => absurd h (by decide))
    refine pw_aload_n dX10_read_172 rfl ?_
    refine pw_getR fX10_32 dX10_read_173 (sh_lt hG (by decide)) (sh_tg hG 45 rfl) rfl (gr_at hP 47 rfl) ?_
    refine pw_aload_n dX10_read_176 rfl ?_
    refine pw_getI fX10_220 dX10_read_177 (sh_lt hG (by decide)) (sh_tg hG 45 rfl) rfl ?_
    refine pw_ialdN kp dX10_read_180 (sh_lt hG (by decide)) (sh_sh hG 53 rfl) (by decide) (by (repeat (first | rw [pm_u_ne (by decide)] | rw [pm_u_eq, pm_up_ne (by decide)])); exact hkK) (by omega) ?_
    refine pw_ti (z := nI 1) (by (repeat rw [pm_u_ne (by decide)]); exact hsO) ?_
    refine pw_iconst (v := nI 2) dX10_read_181 (by decide) ?_
    refine pw_icmp_eq (tgt := 214) dX10_read_182 (by decide) (fun h => absurd h (by decide)) (fun h182 => ?_)
    refine pw_aload_n dX10_read_185 rfl ?_
    refine pw_getR fX10_32 dX10_read_186 (sh_lt hG (by decide)) (sh_tg hG 45 rfl) rfl (gr_at hP 47 rfl) ?_
    refine pw_aload_n dX10_read_189 rfl ?_
    refine pw_getI fX10_220 dX10_read_190 (sh_lt hG (by decide)) (sh_tg hG 45 rfl) rfl ?_
    refine pw_ialdN kp dX10_read_193 (sh_lt hG (by decide)) (sh_sh hG 53 rfl) (by decide) (by (repeat (first | rw [pm_u_ne (by decide)] | rw [pm_u_eq, pm_up_ne (by decide)])); exact hkK) (by omega) ?_
    refine pw_ti (z := nI 1) (by (repeat rw [pm_u_ne (by decide)]); exact hsO) ?_
    refine pw_iconst (v := nI 1) dX10_read_194 (by decide) ?_
    refine pw_icmp_ne (tgt := 218) dX10_read_195 (by decide) (fun h => absurd (by decide) h) (fun h195 => ?_)
    refine pw_aload_n dX10_read_198 rfl ?_
    refine pw_getI fX10_197 dX10_read_199 (sh_lt hG (by decide)) (sh_tg hG 45 rfl) rfl ?_
    refine pw_ti (z := nI (tk_p tx n (1))) (by rw [pm_u_eq, pm_up_eq]) ?_
    refine pw_if_ge (tgt := 218) dX10_read_202 (by decide) (fun h202 => ?_) (fun h => absurd (nI_pos' (by omega)) h)
    refine pw_iconst (v := nI 0) dX10_read_218 (by decide) ?_
    refine pw_istore_n (lv' := [(2, _), (1, _), (0, _)]) dX10_read_219 (by decide) rfl ?_
    refine pw_aload_n dX10_read_220 rfl ?_
    refine pw_getR fX10_32 dX10_read_221 (sh_lt hG (by decide)) (sh_tg hG 45 rfl) rfl (gr_at hP 47 rfl) ?_
    refine pw_aload_n dX10_read_224 rfl ?_
    refine pw_getI fX10_220 dX10_read_225 (sh_lt hG (by decide)) (sh_tg hG 45 rfl) rfl ?_
    refine pw_ialdN kp dX10_read_228 (sh_lt hG (by decide)) (sh_sh hG 53 rfl) (by decide) (by (repeat (first | rw [pm_u_ne (by decide)] | rw [pm_u_eq, pm_up_ne (by decide)])); exact hkK) (by omega) ?_
    refine pw_ti (z := nI 1) (by (repeat rw [pm_u_ne (by decide)]); exact hsO) ?_
    refine pw_iconst (v := nI 1) dX10_read_229 (by decide) ?_
    refine pw_icmp_ne (tgt := 241) dX10_read_230 (by decide) (fun h => absurd (by decide) h) (fun h230 => ?_)
    refine pw_iload_n dX10_read_233 rfl ?_
    refine pw_if_eq (tgt := 241) dX10_read_234 (by decide) (fun h234 => ?_) (fun h => absurd (by decide) h)
    refine pw_iload_n dX10_read_241 rfl ?_
    refine pw_if_eq (tgt := 256) dX10_read_242 (by decide) (fun h242 => ?_) (fun h => absurd (by decide) h)
    refine pw_aload_n dX10_read_256 rfl ?_
    refine pw_iconst (v := nI 0) dX10_read_257 (by decide) ?_
    refine pw_callV (as := [_]) (kc' := 0) (ks' := 0) lX10_237 dX10_read_258 rfl rfl (sh_lt hG (by decide)) (sh_tg hG 45 rfl) (Nat.le_of_ble_eq_true rfl) (by omega) (Nat.le_of_ble_eq_true rfl) (Nat.zero_le _) (Nat.zero_le _) ?_
    refine c_X10_needF hG hP (by omega) (e := tk_p tx n (1)) (by rw [pm_u_eq, pm_up_eq]) (by omega) ?_
    refine pw_pop dX10_read_261 rfl ?_
    refine pw_aload_n dX10_read_262 rfl ?_
    refine pw_getI fX10_197 dX10_read_263 (sh_lt hG (by decide)) (sh_tg hG 45 rfl) rfl ?_
    refine pw_ti (z := nI (tk_p tx n (1))) (by rw [pm_u_eq, pm_up_eq]) ?_
    exact pw_iret dX10_read_266 rfl (k0 (1) _ _ ((Option.some.inj hr).symm) ((hR1.trans (fq.rd (fq.put (T := 0) (by decide) (by decide)))).trans (fq.rd (fq.put (T := 0) (by decide) (by decide)))))
set_option maxRecDepth 20000 in
set_option maxHeartbeats 4000000 in
theorem rr_D {l : Launch} {E : pmE} {S : pmS} {P : pmP} {d : Nat} {Q : Option Value → pmS → pmI → pmJ → pmP → Prop} {tx : Nat → Nat} {n i kp T f : Nat} {I : pmI} {J : pmJ} {z : Int32} {r : Except Nat (Nat × Int64 × List Int64 × List dD)} (hG : sh_St S) (hP : gr_St P) (hb : ∀ j, j < n → tx j < 128) (hn9 : n ≤ 120) (hd : 8 ≤ d) (hs : qs tx n i kp I J 0 0 T 0) (hro : I 60 kp = -5) (hpar : I 57 kp = nI 0) (hsO : I 55 kp = nI 2) (h100 : tk_k tx n 0 = 100) (hr : (if tk_k tx n 1 = 97 then (if tk_k tx n 2 = 40 then rdD (tk_k tx n) (tk_p tx n) (tk_v tx n) f (rpm (tk_k tx n) (tk_v tx n)) else some (.error 2)) else some (.error 1)) = some r) (k1 : ∀ form dec pa L I' J', r = .ok (form, dec, pa, L) → rdN tx n i kp I' J' form dec pa L → frd kp I I' J J' → Q (some (.int (-1))) S I' J' P) (k0 : ∀ e I' J', r = .error e → frd kp I I' J J' → Q (some (.int (nI (tk_p tx n e)))) S I' J' P) : pm_W l E yX10_read cX10_read 3 (some .int) d 0 0 88 [(1, .int z), (0, .ref 47)] [] S I J P (pm_N E Q) := by
  have hkK := hs.2.1.1
  have hkp := hs.2.1.2
  have hi6 := hs.1.2.1
  have h0i := hs.lt (by rw [h100]; decide) (by rw [h100]; decide)
  have hs1 := hs.at' (b := 1) (by omega) (by omega)
  have hR1 : frd kp I (pm_u I 47 40 (nI 1)) J J := fq.rd (fq.put (T := 0) (by decide) (by decide))
  refine pw_aload_n dX10_read_88 rfl ?_
  refine pw_getR fX10_32 dX10_read_89 (sh_lt hG (by decide)) (sh_tg hG 45 rfl) rfl (gr_at hP 47 rfl) ?_
  refine pw_aload_n dX10_read_92 rfl ?_
  refine pw_getI fX10_220 dX10_read_93 (sh_lt hG (by decide)) (sh_tg hG 45 rfl) rfl ?_
  refine pw_ialdN kp dX10_read_96 (sh_lt hG (by decide)) (sh_sh hG 53 rfl) (by decide) (by (repeat (first | rw [pm_u_ne (by decide)] | rw [pm_u_eq, pm_up_ne (by decide)])); exact hkK) (by omega) ?_
  refine pw_ti (z := nI 2) (by (repeat rw [pm_u_ne (by decide)]); exact hsO) ?_
  refine pw_if_ne (tgt := 107) dX10_read_97 (by decide) (fun h97 => ?_) (fun h => absurd h (by decide))
  refine pw_aload_n dX10_read_107 rfl ?_
  refine pw_callV (as := []) (kc' := 0) (ks' := 0) lX10_207 dX10_read_108 rfl rfl (sh_lt hG (by decide)) (sh_tg hG 45 rfl) (Nat.le_of_ble_eq_true rfl) (by omega) (Nat.le_of_ble_eq_true rfl) (Nat.zero_le _) (Nat.zero_le _) ?_
  refine c_X10_next (a := 0) hG hP hs.2.2.1.1 ?_
  refine pw_aload_n dX10_read_111 rfl ?_
  refine pw_iconst (v := nI 1) dX10_read_112 (by decide) ?_
  refine pw_callV (as := [_]) (kc' := 0) (ks' := 0) lX10_237 dX10_read_113 rfl rfl (sh_lt hG (by decide)) (sh_tg hG 45 rfl) (Nat.le_of_ble_eq_true rfl) (by omega) (Nat.le_of_ble_eq_true rfl) (Nat.zero_le _) (Nat.zero_le _) ?_
  refine c_X10_need hG hP (by omega) hs1 hb (c := 1) (by decide) (fun hq1 => ?_) (fun hq0 => ?_)
  · have hn97 := (rq97 hb).mp hq1
    rw [if_pos hn97] at hr
    have hi1 := hs1.lt (by rw [hn97]; decide) (by rw [hn97]; decide)
    have hs2 : qs tx n i kp (pm_u (pm_u I 47 40 (nI 1)) 47 40 (nI 2)) J 2 0 T 0 := hs1.at' (b := 2) (by omega) (by omega)
    have hR2 : frd kp I (pm_u (pm_u I 47 40 (nI 1)) 47 40 (nI 2)) J J := hR1.trans (fq.rd (fq.put (T := 0) (by decide) (by decide)))
    refine pw_pop dX10_read_116 rfl ?_
    refine pw_aload_n dX10_read_117 rfl ?_
    refine pw_getR fX10_32 dX10_read_118 (sh_lt hG (by decide)) (sh_tg hG 45 rfl) rfl (gr_at hP 47 rfl) ?_
    refine pw_aload_n dX10_read_121 rfl ?_
    refine pw_getI fX10_220 dX10_read_122 (sh_lt hG (by decide)) (sh_tg hG 45 rfl) rfl ?_
    refine pw_ialdN kp dX10_read_125 (sh_lt hG (by decide)) (sh_sh hG 53 rfl) (by decide) (by (repeat (first | rw [pm_u_ne (by decide)] | rw [pm_u_eq, pm_up_ne (by decide)])); exact hkK) (by omega) ?_
    refine pw_ti (z := nI 2) (by (repeat rw [pm_u_ne (by decide)]); exact hsO) ?_
    refine pw_iconst (v := nI 1) dX10_read_126 (by decide) ?_
    refine pw_icmp_le (tgt := 152) dX10_read_127 (by decide) (fun h => absurd h (by decide)) (fun h127 => ?_)
    refine pw_aload_n dX10_read_130 rfl ?_
    refine pw_aload_n dX10_read_131 rfl ?_
    refine pw_getR fX10_32 dX10_read_132 (sh_lt hG (by decide)) (sh_tg hG 45 rfl) rfl (gr_at hP 47 rfl) ?_
    refine pw_aload_n dX10_read_135 rfl ?_
    refine pw_getI fX10_220 dX10_read_136 (sh_lt hG (by decide)) (sh_tg hG 45 rfl) rfl ?_
    refine pw_ialdN kp dX10_read_139 (sh_lt hG (by decide)) (sh_sh hG 53 rfl) (by decide) (by (repeat (first | rw [pm_u_ne (by decide)] | rw [pm_u_eq, pm_up_ne (by decide)])); exact hkK) (by omega) ?_
    refine pw_ti (z := nI 2) (by (repeat rw [pm_u_ne (by decide)]); exact hsO) ?_
    refine pw_iconst (v := nI 3) dX10_read_140 (by decide) ?_
    refine pw_icmp_ne (tgt := 148) dX10_read_141 (by decide) (fun h141 => ?_) (fun h => absurd h (by decide))
    refine pw_iconst (v := nI 0) dX10_read_148 (by decide) ?_
    refine pw_callV (as := [_]) (kc' := 0) (ks' := 0) lX10_269 dX10_read_149 rfl rfl (sh_lt hG (by decide)) (sh_tg hG 45 rfl) (Nat.le_of_ble_eq_true rfl) (by omega) (Nat.le_of_ble_eq_true rfl) (Nat.zero_le _) (Nat.zero_le _) ?_
    refine c_X10_params0 hG hP hb hn9 (by omega) hs2 (fun h40 => ?_) (fun h40 => ⟨fun b pa I3 hq h41 hs3 hpT hpa hf3 => ?_, fun b pa I3 hq h41 hF hf3 => ?_, fun e I3 hq hF hf3 => ?_⟩)
    · rw [if_neg h40] at hr
      have hple := tk_p_le (tx := tx) (n := n) (2)
      refine pw_aload_n dX10_read_152 rfl ?_
      refine pw_getR fX10_32 dX10_read_153 (sh_lt hG (by decide)) (sh_tg hG 45 rfl) rfl (gr_at hP 47 rfl) ?_
      refine pw_aload_n dX10_read_156 rfl ?_
      refine pw_getI fX10_220 dX10_read_157 (sh_lt hG (by decide)) (sh_tg hG 45 rfl) rfl ?_
      refine pw_ialdN kp dX10_read_160 (sh_lt hG (by decide)) (sh_sh hG 53 rfl) (by decide) (by (repeat (first | rw [pm_u_ne (by decide)] | rw [pm_u_eq, pm_up_ne (by decide)])); exact hkK) (by omega) ?_
      refine pw_ti (z := nI 2) (by (repeat rw [pm_u_ne (by decide)]); exact hsO) ?_
      refine pw_iconst (v := nI 2) dX10_read_161 (by decide) ?_
      refine pw_icmp_ne (tgt := 172) dX10_read_162 (by decide) (fun h => absurd (by decide) h) (fun h162 => ?_)
      refine pw_aload_n dX10_read_165 rfl ?_
      refine pw_bipush (v := nI 61) dX10_read_166 (by decide) ?_
      refine pw_callV (as := [_]) (kc' := 0) (ks' := 0) lX10_237 dX10_read_168 rfl rfl (sh_lt hG (by decide)) (sh_tg hG 45 rfl) (Nat.le_of_ble_eq_true rfl) (by omega) (Nat.le_of_ble_eq_true rfl) (Nat.zero_le _) (Nat.zero_le _) ?_
      refine c_X10_needF hG hP (by omega) (e := tk_p tx n (2)) (by rw [pm_u_eq, pm_up_eq]) (by omega) ?_
      refine pw_pop dX10_read_171 rfl ?_
      refine pw_aload_n dX10_read_172 rfl ?_
      refine pw_getR fX10_32 dX10_read_173 (sh_lt hG (by decide)) (sh_tg hG 45 rfl) rfl (gr_at hP 47 rfl) ?_
      refine pw_aload_n dX10_read_176 rfl ?_
      refine pw_getI fX10_220 dX10_read_177 (sh_lt hG (by decide)) (sh_tg hG 45 rfl) rfl ?_
      refine pw_ialdN kp dX10_read_180 (sh_lt hG (by decide)) (sh_sh hG 53 rfl) (by decide) (by (repeat (first | rw [pm_u_ne (by decide)] | rw [pm_u_eq, pm_up_ne (by decide)])); exact hkK) (by omega) ?_
      refine pw_ti (z := nI 2) (by (repeat rw [pm_u_ne (by decide)]); exact hsO) ?_
      refine pw_iconst (v := nI 2) dX10_read_181 (by decide) ?_
      refine pw_icmp_eq (tgt := 214) dX10_read_182 (by decide) (fun h182 => ?_) (fun h => absurd (by decide) h)
      refine pw_iconst (v := nI 1) dX10_read_214 (by decide) ?_
      refine pw_goto (tgt := 219) dX10_read_215 (by decide) ?_
      refine pw_istore_n (lv' := [(2, _), (1, _), (0, _)]) dX10_read_219 (by decide) rfl ?_
      refine pw_aload_n dX10_read_220 rfl ?_
      refine pw_getR fX10_32 dX10_read_221 (sh_lt hG (by decide)) (sh_tg hG 45 rfl) rfl (gr_at hP 47 rfl) ?_
      refine pw_aload_n dX10_read_224 rfl ?_
      refine pw_getI fX10_220 dX10_read_225 (sh_lt hG (by decide)) (sh_tg hG 45 rfl) rfl ?_
      refine pw_ialdN kp dX10_read_228 (sh_lt hG (by decide)) (sh_sh hG 53 rfl) (by decide) (by (repeat (first | rw [pm_u_ne (by decide)] | rw [pm_u_eq, pm_up_ne (by decide)])); exact hkK) (by omega) ?_
      refine pw_ti (z := nI 2) (by (repeat rw [pm_u_ne (by decide)]); exact hsO) ?_
      refine pw_iconst (v := nI 1) dX10_read_229 (by decide) ?_
      refine pw_icmp_ne (tgt := 241) dX10_read_230 (by decide) (fun h230 => ?_) (fun h => absurd h (by decide))
      refine pw_iload_n dX10_read_241 rfl ?_
      refine pw_if_eq (tgt := 256) dX10_read_242 (by decide) (fun h => absurd h (by decide)) (fun h242 => ?_)
      refine pw_aload_n dX10_read_245 rfl ?_
      refine pw_getI fX10_197 dX10_read_246 (sh_lt hG (by decide)) (sh_tg hG 45 rfl) rfl ?_
      refine pw_ti (z := nI (tk_p tx n (2))) (by rw [pm_u_eq, pm_up_eq]) ?_
      refine pw_if_ge (tgt := 256) dX10_read_249 (by decide) (fun h249 => ?_) (fun h => absurd (nI_pos' (by omega)) h)
      refine pw_aload_n dX10_read_256 rfl ?_
      refine pw_iconst (v := nI 0) dX10_read_257 (by decide) ?_
      refine pw_callV (as := [_]) (kc' := 0) (ks' := 0) lX10_237 dX10_read_258 rfl rfl (sh_lt hG (by decide)) (sh_tg hG 45 rfl) (Nat.le_of_ble_eq_true rfl) (by omega) (Nat.le_of_ble_eq_true rfl) (Nat.zero_le _) (Nat.zero_le _) ?_
      refine c_X10_needF hG hP (by omega) (e := tk_p tx n (2)) (by rw [pm_u_eq, pm_up_eq]) (by omega) ?_
      refine pw_pop dX10_read_261 rfl ?_
      refine pw_aload_n dX10_read_262 rfl ?_
      refine pw_getI fX10_197 dX10_read_263 (sh_lt hG (by decide)) (sh_tg hG 45 rfl) rfl ?_
      refine pw_ti (z := nI (tk_p tx n (2))) (by rw [pm_u_eq, pm_up_eq]) ?_
      exact pw_iret dX10_read_266 rfl (k0 (2) _ _ ((Option.some.inj hr).symm) (((hR2.trans (fq.rd (fq.put (T := 0) (by decide) (by decide)))).trans (fq.rd (fq.put (T := 0) (by decide) (by decide)))).trans (fq.rd (fq.put (T := 0) (by decide) (by decide)))))
    · rw [if_pos h40, show rpm (tk_k tx n) (tk_v tx n) = .ok (b, pa) from hq, rdD_ok] at hr
      rw [if_pos h41] at hr
      have hR3 := hR2.trans (fp.rd (J := J) hf3)
      have hkK3 : I3 47 10 = nI kp := by rw [hf3.2.1 10 (by omega)]; exact (by (repeat (first | rw [pm_u_ne (by decide)] | rw [pm_u_eq, pm_up_ne (by decide)])); exact hkK)
      have hsO3 : I3 55 kp = nI 2 := by rw [hf3.1 55 (by decide) (by decide) (by decide)]; exact (by (repeat rw [pm_u_ne (by decide)]); exact hsO)
      refine pw_aload_n dX10_read_152 rfl ?_
      refine pw_getR fX10_32 dX10_read_153 (sh_lt hG (by decide)) (sh_tg hG 45 rfl) rfl (gr_at hP 47 rfl) ?_
      refine pw_aload_n dX10_read_156 rfl ?_
      refine pw_getI fX10_220 dX10_read_157 (sh_lt hG (by decide)) (sh_tg hG 45 rfl) rfl ?_
      refine pw_ialdN kp dX10_read_160 (sh_lt hG (by decide)) (sh_sh hG 53 rfl) (by decide) (by (repeat (first | rw [pm_u_ne (by decide)] | rw [pm_u_eq, pm_up_ne (by decide)])); exact hkK3) (by omega) ?_
      refine pw_ti (z := nI 2) (by (repeat rw [pm_u_ne (by decide)]); exact hsO3) ?_
      refine pw_iconst (v := nI 2) dX10_read_161 (by decide) ?_
      refine pw_icmp_ne (tgt := 172) dX10_read_162 (by decide) (fun h => absurd (by decide) h) (fun h162 => ?_)
      refine pw_aload_n dX10_read_165 rfl ?_
      refine pw_bipush (v := nI 61) dX10_read_166 (by decide) ?_
      refine pw_callV (as := [_]) (kc' := 0) (ks' := 0) lX10_237 dX10_read_168 rfl rfl (sh_lt hG (by decide)) (sh_tg hG 45 rfl) (Nat.le_of_ble_eq_true rfl) (by omega) (Nat.le_of_ble_eq_true rfl) (Nat.zero_le _) (Nat.zero_le _) ?_
      refine c_X10_need hG hP (by omega) hs3 hb (c := 61) (by decide) (fun he1 => ?_) (fun he0 => ?_)
      · have he1 := (rq61 hb).mp he1
        rw [if_pos he1] at hr
        have hil := hs3.lt (by rw [he1]; decide) (by rw [he1]; decide)
        have hs4 : qs tx n i kp (pm_u I3 47 40 (nI (b + 2))) J (b + 2) 0 T 0 := hs3.at' (b := b + 2) (by omega) (by omega)
        refine pw_pop dX10_read_171 rfl ?_
        refine pw_aload_n dX10_read_172 rfl ?_
        refine pw_getR fX10_32 dX10_read_173 (sh_lt hG (by decide)) (sh_tg hG 45 rfl) rfl (gr_at hP 47 rfl) ?_
        refine pw_aload_n dX10_read_176 rfl ?_
        refine pw_getI fX10_220 dX10_read_177 (sh_lt hG (by decide)) (sh_tg hG 45 rfl) rfl ?_
        refine pw_ialdN kp dX10_read_180 (sh_lt hG (by decide)) (sh_sh hG 53 rfl) (by decide) (by (repeat (first | rw [pm_u_ne (by decide)] | rw [pm_u_eq, pm_up_ne (by decide)])); exact hkK3) (by omega) ?_
        refine pw_ti (z := nI 2) (by (repeat rw [pm_u_ne (by decide)]); exact hsO3) ?_
        refine pw_iconst (v := nI 2) dX10_read_181 (by decide) ?_
        refine pw_icmp_eq (tgt := 214) dX10_read_182 (by decide) (fun h182 => ?_) (fun h => absurd (by decide) h)
        refine pw_iconst (v := nI 1) dX10_read_214 (by decide) ?_
        refine pw_goto (tgt := 219) dX10_read_215 (by decide) ?_
        refine pw_istore_n (lv' := [(2, _), (1, _), (0, _)]) dX10_read_219 (by decide) rfl ?_
        refine pw_aload_n dX10_read_220 rfl ?_
        refine pw_getR fX10_32 dX10_read_221 (sh_lt hG (by decide)) (sh_tg hG 45 rfl) rfl (gr_at hP 47 rfl) ?_
        refine pw_aload_n dX10_read_224 rfl ?_
        refine pw_getI fX10_220 dX10_read_225 (sh_lt hG (by decide)) (sh_tg hG 45 rfl) rfl ?_
        refine pw_ialdN kp dX10_read_228 (sh_lt hG (by decide)) (sh_sh hG 53 rfl) (by decide) (by (repeat (first | rw [pm_u_ne (by decide)] | rw [pm_u_eq, pm_up_ne (by decide)])); exact hkK3) (by omega) ?_
        refine pw_ti (z := nI 2) (by (repeat rw [pm_u_ne (by decide)]); exact hsO3) ?_
        refine pw_iconst (v := nI 1) dX10_read_229 (by decide) ?_
        refine pw_icmp_ne (tgt := 241) dX10_read_230 (by decide) (fun h230 => ?_) (fun h => absurd h (by decide))
        refine pw_iload_n dX10_read_241 rfl ?_
        refine pw_if_eq (tgt := 256) dX10_read_242 (by decide) (fun h => absurd h (by decide)) (fun h242 => ?_)
        refine pw_aload_n dX10_read_245 rfl ?_
        refine pw_getI fX10_197 dX10_read_246 (sh_lt hG (by decide)) (sh_tg hG 45 rfl) rfl ?_
        refine pw_if_ge (tgt := 256) dX10_read_249 (by decide) (fun h => absurd h (by rw [hs4.2.2.2.1]; decide)) (fun h249 => ?_)
        refine pw_aload_n dX10_read_252 rfl ?_
        refine pw_callV (as := []) (kc' := 0) (ks' := 0) lX10_266 dX10_read_253 rfl rfl (sh_lt hG (by decide)) (sh_tg hG 45 rfl) (Nat.le_of_ble_eq_true rfl) (by omega) (Nat.le_of_ble_eq_true rfl) (Nat.zero_le _) (Nat.zero_le _) ?_
        unfold rx at hr
        rcases hps : ps (tk_k tx n) (tk_p tx n) (tk_v tx n) pa f 0 (b + 2) 0 [] 0 with _ | (e | ⟨b, L⟩)
        · rw [hps] at hr
          cases hr
        · rw [hps] at hr
          refine c_X10_readExpr hG hP hb (by omega) hn9 hs4 hps (fun b L N m' I1 J1 hh => nomatch hh) (fun e' x I1 J1 hh hF hf => ?_)
          cases hh
          have hR9 := (hR3.trans (fq.rd (fq.put (T := 0) (by decide) (by decide)))).trans hf.rd
          have hple := tk_p_le (tx := tx) (n := n) (e)
          refine pw_aload_n dX10_read_256 rfl ?_
          refine pw_iconst (v := nI 0) dX10_read_257 (by decide) ?_
          refine pw_callV (as := [_]) (kc' := 0) (ks' := 0) lX10_237 dX10_read_258 rfl rfl (sh_lt hG (by decide)) (sh_tg hG 45 rfl) (Nat.le_of_ble_eq_true rfl) (by omega) (Nat.le_of_ble_eq_true rfl) (Nat.zero_le _) (Nat.zero_le _) ?_
          refine c_X10_needF hG hP (by omega) (e := tk_p tx n (e)) (by rw [pm_u_ne (by decide)]; exact hF) (by omega) ?_
          refine pw_pop dX10_read_261 rfl ?_
          refine pw_aload_n dX10_read_262 rfl ?_
          refine pw_getI fX10_197 dX10_read_263 (sh_lt hG (by decide)) (sh_tg hG 45 rfl) rfl ?_
          refine pw_ti (z := nI (tk_p tx n (e))) (by rw [pm_u_eq, pm_up_eq]) ?_
          exact pw_iret dX10_read_266 rfl (k0 (e) _ _ ((Option.some.inj hr).symm) ((hR9.trans (frd.put (by omega))).trans (fq.rd (fq.put (T := 0) (by decide) (by decide)))))
        · rw [hps] at hr
          dsimp only at hr
          refine c_X10_readExpr hG hP hb (by omega) hn9 hs4 hps (fun b' L' N m' I1 J1 hh hs1 hn1 hm1 hf => ?_) (fun e' x I1 J1 hh => nomatch hh)
          cases hh
          have hR9 := (hR3.trans (fq.rd (fq.put (T := 0) (by decide) (by decide)))).trans hf.rd
          have hso9 : I1 55 kp = nI 2 := by rw [hf.1 55 (by decide) (by decide) (by decide)]; exact (by (repeat rw [pm_u_ne (by decide)]); exact hsO3)
          have hpa9 : I1 57 kp = nI (pa : List Int64).length := by rw [hf.1 57 (by decide) (by decide) (by decide)]; exact (by (repeat rw [pm_u_ne (by decide)]); exact hpa)
          have hpT9 : pT tx n i I1 pa := (hpT.mv (I' := pm_u I3 47 40 (nI (b + 2))) (pm_u_ne (by decide))).mv (hf.1 86 (by decide) (by decide) (by decide))
          have hs9 := hs1.ot (b := 60) (j := kp) (by omega) (nI N)
          refine pw_aload_n dX10_read_256 rfl ?_
          refine pw_iconst (v := nI 0) dX10_read_257 (by decide) ?_
          refine pw_callV (as := [_]) (kc' := 0) (ks' := 0) lX10_237 dX10_read_258 rfl rfl (sh_lt hG (by decide)) (sh_tg hG 45 rfl) (Nat.le_of_ble_eq_true rfl) (by omega) (Nat.le_of_ble_eq_true rfl) (Nat.zero_le _) (Nat.zero_le _) ?_
          refine c_X10_need hG hP (by omega) hs9 hb (c := 0) (by decide) (fun hz1 => ?_) (fun hz0 => ?_)
          · refine pw_pop dX10_read_261 rfl ?_
            refine pw_aload_n dX10_read_262 rfl ?_
            refine pw_getI fX10_197 dX10_read_263 (sh_lt hG (by decide)) (sh_tg hG 45 rfl) rfl ?_
            refine pw_ti (z := -1) (by rw [pm_u_eq, pm_up_ne (by decide), pm_u_ne (by decide)]; exact hs1.2.2.2.1) ?_
            exact pw_iret dX10_read_266 rfl (k1 2 (tk_v tx n 1) pa L _ _ (by rw [if_pos ((rq0 hb).mp hz1)] at hr; exact (Option.some.inj hr).symm) (rdN_mk1 hs1 hso9 (Or.inr ⟨hi1, hn97, rfl⟩) hpa9 hpT9 (by decide) hn1) ((hR9.trans (frd.put (by omega))).trans (fq.rd (fq.put (T := 0) (by decide) (by decide)))))
          · refine pw_pop dX10_read_261 rfl ?_
            refine pw_aload_n dX10_read_262 rfl ?_
            refine pw_getI fX10_197 dX10_read_263 (sh_lt hG (by decide)) (sh_tg hG 45 rfl) rfl ?_
            refine pw_ti (z := nI (tk_p tx n b)) (by rw [pm_u_eq, pm_up_eq]) ?_
            exact pw_iret dX10_read_266 rfl (k0 b _ _ (by rw [if_neg (fun q => hz0 ((rq0 hb).mpr q))] at hr; exact (Option.some.inj hr).symm) ((hR9.trans (frd.put (by omega))).trans (fq.rd (fq.put (T := 0) (by decide) (by decide)))))
      · rw [if_neg (fun q => he0 ((rq61 hb).mpr q))] at hr
        have hple := tk_p_le (tx := tx) (n := n) (b + 1)
        refine pw_pop dX10_read_171 rfl ?_
        refine pw_aload_n dX10_read_172 rfl ?_
        refine pw_getR fX10_32 dX10_read_173 (sh_lt hG (by decide)) (sh_tg hG 45 rfl) rfl (gr_at hP 47 rfl) ?_
        refine pw_aload_n dX10_read_176 rfl ?_
        refine pw_getI fX10_220 dX10_read_177 (sh_lt hG (by decide)) (sh_tg hG 45 rfl) rfl ?_
        refine pw_ialdN kp dX10_read_180 (sh_lt hG (by decide)) (sh_sh hG 53 rfl) (by decide) (by (repeat (first | rw [pm_u_ne (by decide)] | rw [pm_u_eq, pm_up_ne (by decide)])); exact hkK3) (by omega) ?_
        refine pw_ti (z := nI 2) (by (repeat rw [pm_u_ne (by decide)]); exact hsO3) ?_
        refine pw_iconst (v := nI 2) dX10_read_181 (by decide) ?_
        refine pw_icmp_eq (tgt := 214) dX10_read_182 (by decide) (fun h182 => ?_) (fun h => absurd (by decide) h)
        refine pw_iconst (v := nI 1) dX10_read_214 (by decide) ?_
        refine pw_goto (tgt := 219) dX10_read_215 (by decide) ?_
        refine pw_istore_n (lv' := [(2, _), (1, _), (0, _)]) dX10_read_219 (by decide) rfl ?_
        refine pw_aload_n dX10_read_220 rfl ?_
        refine pw_getR fX10_32 dX10_read_221 (sh_lt hG (by decide)) (sh_tg hG 45 rfl) rfl (gr_at hP 47 rfl) ?_
        refine pw_aload_n dX10_read_224 rfl ?_
        refine pw_getI fX10_220 dX10_read_225 (sh_lt hG (by decide)) (sh_tg hG 45 rfl) rfl ?_
        refine pw_ialdN kp dX10_read_228 (sh_lt hG (by decide)) (sh_sh hG 53 rfl) (by decide) (by (repeat (first | rw [pm_u_ne (by decide)] | rw [pm_u_eq, pm_up_ne (by decide)])); exact hkK3) (by omega) ?_
        refine pw_ti (z := nI 2) (by (repeat rw [pm_u_ne (by decide)]); exact hsO3) ?_
        refine pw_iconst (v := nI 1) dX10_read_229 (by decide) ?_
        refine pw_icmp_ne (tgt := 241) dX10_read_230 (by decide) (fun h230 => ?_) (fun h => absurd h (by decide))
        refine pw_iload_n dX10_read_241 rfl ?_
        refine pw_if_eq (tgt := 256) dX10_read_242 (by decide) (fun h => absurd h (by decide)) (fun h242 => ?_)
        refine pw_aload_n dX10_read_245 rfl ?_
        refine pw_getI fX10_197 dX10_read_246 (sh_lt hG (by decide)) (sh_tg hG 45 rfl) rfl ?_
        refine pw_ti (z := nI (tk_p tx n (b + 1))) (by rw [pm_u_eq, pm_up_eq]) ?_
        refine pw_if_ge (tgt := 256) dX10_read_249 (by decide) (fun h249 => ?_) (fun h => absurd (nI_pos' (by omega)) h)
        refine pw_aload_n dX10_read_256 rfl ?_
        refine pw_iconst (v := nI 0) dX10_read_257 (by decide) ?_
        refine pw_callV (as := [_]) (kc' := 0) (ks' := 0) lX10_237 dX10_read_258 rfl rfl (sh_lt hG (by decide)) (sh_tg hG 45 rfl) (Nat.le_of_ble_eq_true rfl) (by omega) (Nat.le_of_ble_eq_true rfl) (Nat.zero_le _) (Nat.zero_le _) ?_
        refine c_X10_needF hG hP (by omega) (e := tk_p tx n (b + 1)) (by rw [pm_u_eq, pm_up_eq]) (by omega) ?_
        refine pw_pop dX10_read_261 rfl ?_
        refine pw_aload_n dX10_read_262 rfl ?_
        refine pw_getI fX10_197 dX10_read_263 (sh_lt hG (by decide)) (sh_tg hG 45 rfl) rfl ?_
        refine pw_ti (z := nI (tk_p tx n (b + 1))) (by rw [pm_u_eq, pm_up_eq]) ?_
        exact pw_iret dX10_read_266 rfl (k0 (b + 1) _ _ ((Option.some.inj hr).symm) ((hR3.trans (fq.rd (fq.put (T := 0) (by decide) (by decide)))).trans (fq.rd (fq.put (T := 0) (by decide) (by decide)))))
    · rw [if_pos h40, show rpm (tk_k tx n) (tk_v tx n) = .ok (b, pa) from hq, rdD_ok] at hr
      rw [if_neg h41] at hr
      have hR3 := hR2.trans (fp.rd (J := J) hf3)
      have hkK3 : I3 47 10 = nI kp := by rw [hf3.2.1 10 (by omega)]; exact (by (repeat (first | rw [pm_u_ne (by decide)] | rw [pm_u_eq, pm_up_ne (by decide)])); exact hkK)
      have hsO3 : I3 55 kp = nI 2 := by rw [hf3.1 55 (by decide) (by decide) (by decide)]; exact (by (repeat rw [pm_u_ne (by decide)]); exact hsO)
      have hple := tk_p_le (tx := tx) (n := n) (b)
      refine pw_aload_n dX10_read_152 rfl ?_
      refine pw_getR fX10_32 dX10_read_153 (sh_lt hG (by decide)) (sh_tg hG 45 rfl) rfl (gr_at hP 47 rfl) ?_
      refine pw_aload_n dX10_read_156 rfl ?_
      refine pw_getI fX10_220 dX10_read_157 (sh_lt hG (by decide)) (sh_tg hG 45 rfl) rfl ?_
      refine pw_ialdN kp dX10_read_160 (sh_lt hG (by decide)) (sh_sh hG 53 rfl) (by decide) (by (repeat (first | rw [pm_u_ne (by decide)] | rw [pm_u_eq, pm_up_ne (by decide)])); exact hkK3) (by omega) ?_
      refine pw_ti (z := nI 2) (by (repeat rw [pm_u_ne (by decide)]); exact hsO3) ?_
      refine pw_iconst (v := nI 2) dX10_read_161 (by decide) ?_
      refine pw_icmp_ne (tgt := 172) dX10_read_162 (by decide) (fun h => absurd (by decide) h) (fun h162 => ?_)
      refine pw_aload_n dX10_read_165 rfl ?_
      refine pw_bipush (v := nI 61) dX10_read_166 (by decide) ?_
      refine pw_callV (as := [_]) (kc' := 0) (ks' := 0) lX10_237 dX10_read_168 rfl rfl (sh_lt hG (by decide)) (sh_tg hG 45 rfl) (Nat.le_of_ble_eq_true rfl) (by omega) (Nat.le_of_ble_eq_true rfl) (Nat.zero_le _) (Nat.zero_le _) ?_
      refine c_X10_needF hG hP (by omega) (e := tk_p tx n (b)) (by first | exact hF | (rw [pm_u_eq, pm_up_eq])) (by omega) ?_
      refine pw_pop dX10_read_171 rfl ?_
      refine pw_aload_n dX10_read_172 rfl ?_
      refine pw_getR fX10_32 dX10_read_173 (sh_lt hG (by decide)) (sh_tg hG 45 rfl) rfl (gr_at hP 47 rfl) ?_
      refine pw_aload_n dX10_read_176 rfl ?_
      refine pw_getI fX10_220 dX10_read_177 (sh_lt hG (by decide)) (sh_tg hG 45 rfl) rfl ?_
      refine pw_ialdN kp dX10_read_180 (sh_lt hG (by decide)) (sh_sh hG 53 rfl) (by decide) (by (repeat (first | rw [pm_u_ne (by decide)] | rw [pm_u_eq, pm_up_ne (by decide)])); exact hkK3) (by omega) ?_
      refine pw_ti (z := nI 2) (by (repeat rw [pm_u_ne (by decide)]); exact hsO3) ?_
      refine pw_iconst (v := nI 2) dX10_read_181 (by decide) ?_
      refine pw_icmp_eq (tgt := 214) dX10_read_182 (by decide) (fun h182 => ?_) (fun h => absurd (by decide) h)
      refine pw_iconst (v := nI 1) dX10_read_214 (by decide) ?_
      refine pw_goto (tgt := 219) dX10_read_215 (by decide) ?_
      refine pw_istore_n (lv' := [(2, _), (1, _), (0, _)]) dX10_read_219 (by decide) rfl ?_
      refine pw_aload_n dX10_read_220 rfl ?_
      refine pw_getR fX10_32 dX10_read_221 (sh_lt hG (by decide)) (sh_tg hG 45 rfl) rfl (gr_at hP 47 rfl) ?_
      refine pw_aload_n dX10_read_224 rfl ?_
      refine pw_getI fX10_220 dX10_read_225 (sh_lt hG (by decide)) (sh_tg hG 45 rfl) rfl ?_
      refine pw_ialdN kp dX10_read_228 (sh_lt hG (by decide)) (sh_sh hG 53 rfl) (by decide) (by (repeat (first | rw [pm_u_ne (by decide)] | rw [pm_u_eq, pm_up_ne (by decide)])); exact hkK3) (by omega) ?_
      refine pw_ti (z := nI 2) (by (repeat rw [pm_u_ne (by decide)]); exact hsO3) ?_
      refine pw_iconst (v := nI 1) dX10_read_229 (by decide) ?_
      refine pw_icmp_ne (tgt := 241) dX10_read_230 (by decide) (fun h230 => ?_) (fun h => absurd h (by decide))
      refine pw_iload_n dX10_read_241 rfl ?_
      refine pw_if_eq (tgt := 256) dX10_read_242 (by decide) (fun h => absurd h (by decide)) (fun h242 => ?_)
      refine pw_aload_n dX10_read_245 rfl ?_
      refine pw_getI fX10_197 dX10_read_246 (sh_lt hG (by decide)) (sh_tg hG 45 rfl) rfl ?_
      refine pw_ti (z := nI (tk_p tx n (b))) (by first | exact hF | (rw [pm_u_eq, pm_up_eq])) ?_
      refine pw_if_ge (tgt := 256) dX10_read_249 (by decide) (fun h249 => ?_) (fun h => absurd (nI_pos' (by omega)) h)
      refine pw_aload_n dX10_read_256 rfl ?_
      refine pw_iconst (v := nI 0) dX10_read_257 (by decide) ?_
      refine pw_callV (as := [_]) (kc' := 0) (ks' := 0) lX10_237 dX10_read_258 rfl rfl (sh_lt hG (by decide)) (sh_tg hG 45 rfl) (Nat.le_of_ble_eq_true rfl) (by omega) (Nat.le_of_ble_eq_true rfl) (Nat.zero_le _) (Nat.zero_le _) ?_
      refine c_X10_needF hG hP (by omega) (e := tk_p tx n (b)) (by first | exact hF | (rw [pm_u_eq, pm_up_eq])) (by omega) ?_
      refine pw_pop dX10_read_261 rfl ?_
      refine pw_aload_n dX10_read_262 rfl ?_
      refine pw_getI fX10_197 dX10_read_263 (sh_lt hG (by decide)) (sh_tg hG 45 rfl) rfl ?_
      refine pw_ti (z := nI (tk_p tx n (b))) (by rw [pm_u_eq, pm_up_eq]) ?_
      exact pw_iret dX10_read_266 rfl (k0 (b) _ _ ((Option.some.inj hr).symm) ((hR3.trans (fq.rd (fq.put (T := 0) (by decide) (by decide)))).trans (fq.rd (fq.put (T := 0) (by decide) (by decide)))))
    · rw [if_pos h40, show rpm (tk_k tx n) (tk_v tx n) = .error e from hq] at hr
      have hR3 := hR2.trans (fp.rd (J := J) hf3)
      have hkK3 : I3 47 10 = nI kp := by rw [hf3.2.1 10 (by omega)]; exact (by (repeat (first | rw [pm_u_ne (by decide)] | rw [pm_u_eq, pm_up_ne (by decide)])); exact hkK)
      have hsO3 : I3 55 kp = nI 2 := by rw [hf3.1 55 (by decide) (by decide) (by decide)]; exact (by (repeat rw [pm_u_ne (by decide)]); exact hsO)
      have hple := tk_p_le (tx := tx) (n := n) (e)
      refine pw_aload_n dX10_read_152 rfl ?_
      refine pw_getR fX10_32 dX10_read_153 (sh_lt hG (by decide)) (sh_tg hG 45 rfl) rfl (gr_at hP 47 rfl) ?_
      refine pw_aload_n dX10_read_156 rfl ?_
      refine pw_getI fX10_220 dX10_read_157 (sh_lt hG (by decide)) (sh_tg hG 45 rfl) rfl ?_
      refine pw_ialdN kp dX10_read_160 (sh_lt hG (by decide)) (sh_sh hG 53 rfl) (by decide) (by (repeat (first | rw [pm_u_ne (by decide)] | rw [pm_u_eq, pm_up_ne (by decide)])); exact hkK3) (by omega) ?_
      refine pw_ti (z := nI 2) (by (repeat rw [pm_u_ne (by decide)]); exact hsO3) ?_
      refine pw_iconst (v := nI 2) dX10_read_161 (by decide) ?_
      refine pw_icmp_ne (tgt := 172) dX10_read_162 (by decide) (fun h => absurd (by decide) h) (fun h162 => ?_)
      refine pw_aload_n dX10_read_165 rfl ?_
      refine pw_bipush (v := nI 61) dX10_read_166 (by decide) ?_
      refine pw_callV (as := [_]) (kc' := 0) (ks' := 0) lX10_237 dX10_read_168 rfl rfl (sh_lt hG (by decide)) (sh_tg hG 45 rfl) (Nat.le_of_ble_eq_true rfl) (by omega) (Nat.le_of_ble_eq_true rfl) (Nat.zero_le _) (Nat.zero_le _) ?_
      refine c_X10_needF hG hP (by omega) (e := tk_p tx n (e)) (by first | exact hF | (rw [pm_u_eq, pm_up_eq])) (by omega) ?_
      refine pw_pop dX10_read_171 rfl ?_
      refine pw_aload_n dX10_read_172 rfl ?_
      refine pw_getR fX10_32 dX10_read_173 (sh_lt hG (by decide)) (sh_tg hG 45 rfl) rfl (gr_at hP 47 rfl) ?_
      refine pw_aload_n dX10_read_176 rfl ?_
      refine pw_getI fX10_220 dX10_read_177 (sh_lt hG (by decide)) (sh_tg hG 45 rfl) rfl ?_
      refine pw_ialdN kp dX10_read_180 (sh_lt hG (by decide)) (sh_sh hG 53 rfl) (by decide) (by (repeat (first | rw [pm_u_ne (by decide)] | rw [pm_u_eq, pm_up_ne (by decide)])); exact hkK3) (by omega) ?_
      refine pw_ti (z := nI 2) (by (repeat rw [pm_u_ne (by decide)]); exact hsO3) ?_
      refine pw_iconst (v := nI 2) dX10_read_181 (by decide) ?_
      refine pw_icmp_eq (tgt := 214) dX10_read_182 (by decide) (fun h182 => ?_) (fun h => absurd (by decide) h)
      refine pw_iconst (v := nI 1) dX10_read_214 (by decide) ?_
      refine pw_goto (tgt := 219) dX10_read_215 (by decide) ?_
      refine pw_istore_n (lv' := [(2, _), (1, _), (0, _)]) dX10_read_219 (by decide) rfl ?_
      refine pw_aload_n dX10_read_220 rfl ?_
      refine pw_getR fX10_32 dX10_read_221 (sh_lt hG (by decide)) (sh_tg hG 45 rfl) rfl (gr_at hP 47 rfl) ?_
      refine pw_aload_n dX10_read_224 rfl ?_
      refine pw_getI fX10_220 dX10_read_225 (sh_lt hG (by decide)) (sh_tg hG 45 rfl) rfl ?_
      refine pw_ialdN kp dX10_read_228 (sh_lt hG (by decide)) (sh_sh hG 53 rfl) (by decide) (by (repeat (first | rw [pm_u_ne (by decide)] | rw [pm_u_eq, pm_up_ne (by decide)])); exact hkK3) (by omega) ?_
      refine pw_ti (z := nI 2) (by (repeat rw [pm_u_ne (by decide)]); exact hsO3) ?_
      refine pw_iconst (v := nI 1) dX10_read_229 (by decide) ?_
      refine pw_icmp_ne (tgt := 241) dX10_read_230 (by decide) (fun h230 => ?_) (fun h => absurd h (by decide))
      refine pw_iload_n dX10_read_241 rfl ?_
      refine pw_if_eq (tgt := 256) dX10_read_242 (by decide) (fun h => absurd h (by decide)) (fun h242 => ?_)
      refine pw_aload_n dX10_read_245 rfl ?_
      refine pw_getI fX10_197 dX10_read_246 (sh_lt hG (by decide)) (sh_tg hG 45 rfl) rfl ?_
      refine pw_ti (z := nI (tk_p tx n (e))) (by first | exact hF | (rw [pm_u_eq, pm_up_eq])) ?_
      refine pw_if_ge (tgt := 256) dX10_read_249 (by decide) (fun h249 => ?_) (fun h => absurd (nI_pos' (by omega)) h)
      refine pw_aload_n dX10_read_256 rfl ?_
      refine pw_iconst (v := nI 0) dX10_read_257 (by decide) ?_
      refine pw_callV (as := [_]) (kc' := 0) (ks' := 0) lX10_237 dX10_read_258 rfl rfl (sh_lt hG (by decide)) (sh_tg hG 45 rfl) (Nat.le_of_ble_eq_true rfl) (by omega) (Nat.le_of_ble_eq_true rfl) (Nat.zero_le _) (Nat.zero_le _) ?_
      refine c_X10_needF hG hP (by omega) (e := tk_p tx n (e)) (by first | exact hF | (rw [pm_u_eq, pm_up_eq])) (by omega) ?_
      refine pw_pop dX10_read_261 rfl ?_
      refine pw_aload_n dX10_read_262 rfl ?_
      refine pw_getI fX10_197 dX10_read_263 (sh_lt hG (by decide)) (sh_tg hG 45 rfl) rfl ?_
      refine pw_ti (z := nI (tk_p tx n (e))) (by rw [pm_u_eq, pm_up_eq]) ?_
      exact pw_iret dX10_read_266 rfl (k0 (e) _ _ ((Option.some.inj hr).symm) ((hR3.trans (fq.rd (fq.put (T := 0) (by decide) (by decide)))).trans (fq.rd (fq.put (T := 0) (by decide) (by decide)))))
  · rw [if_neg (fun q => hq0 ((rq97 hb).mpr q))] at hr
    have hple := tk_p_le (tx := tx) (n := n) (1)
    refine pw_pop dX10_read_116 rfl ?_
    refine pw_aload_n dX10_read_117 rfl ?_
    refine pw_getR fX10_32 dX10_read_118 (sh_lt hG (by decide)) (sh_tg hG 45 rfl) rfl (gr_at hP 47 rfl) ?_
    refine pw_aload_n dX10_read_121 rfl ?_
    refine pw_getI fX10_220 dX10_read_122 (sh_lt hG (by decide)) (sh_tg hG 45 rfl) rfl ?_
    refine pw_ialdN kp dX10_read_125 (sh_lt hG (by decide)) (sh_sh hG 53 rfl) (by decide) (by (repeat (first | rw [pm_u_ne (by decide)] | rw [pm_u_eq, pm_up_ne (by decide)])); exact hkK) (by omega) ?_
    refine pw_ti (z := nI 2) (by (repeat rw [pm_u_ne (by decide)]); exact hsO) ?_
    refine pw_iconst (v := nI 1) dX10_read_126 (by decide) ?_
    refine pw_icmp_le (tgt := 152) dX10_read_127 (by decide) (fun h => absurd h (by decide)) (fun h127 => ?_)
    refine pw_aload_n dX10_read_130 rfl ?_
    refine pw_aload_n dX10_read_131 rfl ?_
    refine pw_getR fX10_32 dX10_read_132 (sh_lt hG (by decide)) (sh_tg hG 45 rfl) rfl (gr_at hP 47 rfl) ?_
    refine pw_aload_n dX10_read_135 rfl ?_
    refine pw_getI fX10_220 dX10_read_136 (sh_lt hG (by decide)) (sh_tg hG 45 rfl) rfl ?_
    refine pw_ialdN kp dX10_read_139 (sh_lt hG (by decide)) (sh_sh hG 53 rfl) (by decide) (by (repeat (first | rw [pm_u_ne (by decide)] | rw [pm_u_eq, pm_up_ne (by decide)])); exact hkK) (by omega) ?_
    refine pw_ti (z := nI 2) (by (repeat rw [pm_u_ne (by decide)]); exact hsO) ?_
    refine pw_iconst (v := nI 3) dX10_read_140 (by decide) ?_
    refine pw_icmp_ne (tgt := 148) dX10_read_141 (by decide) (fun h141 => ?_) (fun h => absurd h (by decide))
    refine pw_iconst (v := nI 0) dX10_read_148 (by decide) ?_
    refine pw_callV (as := [_]) (kc' := 0) (ks' := 0) lX10_269 dX10_read_149 rfl rfl (sh_lt hG (by decide)) (sh_tg hG 45 rfl) (Nat.le_of_ble_eq_true rfl) (by omega) (Nat.le_of_ble_eq_true rfl) (Nat.zero_le _) (Nat.zero_le _) ?_
    refine c_X10_paramsF hG hP (by omega) (e := tk_p tx n (1)) (by rw [pm_u_eq, pm_up_eq]) (by omega) ?_
    refine pw_aload_n dX10_read_152 rfl ?_
    refine pw_getR fX10_32 dX10_read_153 (sh_lt hG (by decide)) (sh_tg hG 45 rfl) rfl (gr_at hP 47 rfl) ?_
    refine pw_aload_n dX10_read_156 rfl ?_
    refine pw_getI fX10_220 dX10_read_157 (sh_lt hG (by decide)) (sh_tg hG 45 rfl) rfl ?_
    refine pw_ialdN kp dX10_read_160 (sh_lt hG (by decide)) (sh_sh hG 53 rfl) (by decide) (by (repeat (first | rw [pm_u_ne (by decide)] | rw [pm_u_eq, pm_up_ne (by decide)])); exact hkK) (by omega) ?_
    refine pw_ti (z := nI 2) (by (repeat rw [pm_u_ne (by decide)]); exact hsO) ?_
    refine pw_iconst (v := nI 2) dX10_read_161 (by decide) ?_
    refine pw_icmp_ne (tgt := 172) dX10_read_162 (by decide) (fun h => absurd (by decide) h) (fun h162 => ?_)
    refine pw_aload_n dX10_read_165 rfl ?_
    refine pw_bipush (v := nI 61) dX10_read_166 (by decide) ?_
    refine pw_callV (as := [_]) (kc' := 0) (ks' := 0) lX10_237 dX10_read_168 rfl rfl (sh_lt hG (by decide)) (sh_tg hG 45 rfl) (Nat.le_of_ble_eq_true rfl) (by omega) (Nat.le_of_ble_eq_true rfl) (Nat.zero_le _) (Nat.zero_le _) ?_
    refine c_X10_needF hG hP (by omega) (e := tk_p tx n (1)) (by rw [pm_u_eq, pm_up_eq]) (by omega) ?_
    refine pw_pop dX10_read_171 rfl ?_
    refine pw_aload_n dX10_read_172 rfl ?_
    refine pw_getR fX10_32 dX10_read_173 (sh_lt hG (by decide)) (sh_tg hG 45 rfl) rfl (gr_at hP 47 rfl) ?_
    refine pw_aload_n dX10_read_176 rfl ?_
    refine pw_getI fX10_220 dX10_read_177 (sh_lt hG (by decide)) (sh_tg hG 45 rfl) rfl ?_
    refine pw_ialdN kp dX10_read_180 (sh_lt hG (by decide)) (sh_sh hG 53 rfl) (by decide) (by (repeat (first | rw [pm_u_ne (by decide)] | rw [pm_u_eq, pm_up_ne (by decide)])); exact hkK) (by omega) ?_
    refine pw_ti (z := nI 2) (by (repeat rw [pm_u_ne (by decide)]); exact hsO) ?_
    refine pw_iconst (v := nI 2) dX10_read_181 (by decide) ?_
    refine pw_icmp_eq (tgt := 214) dX10_read_182 (by decide) (fun h182 => ?_) (fun h => absurd (by decide) h)
    refine pw_iconst (v := nI 1) dX10_read_214 (by decide) ?_
    refine pw_goto (tgt := 219) dX10_read_215 (by decide) ?_
    refine pw_istore_n (lv' := [(2, _), (1, _), (0, _)]) dX10_read_219 (by decide) rfl ?_
    refine pw_aload_n dX10_read_220 rfl ?_
    refine pw_getR fX10_32 dX10_read_221 (sh_lt hG (by decide)) (sh_tg hG 45 rfl) rfl (gr_at hP 47 rfl) ?_
    refine pw_aload_n dX10_read_224 rfl ?_
    refine pw_getI fX10_220 dX10_read_225 (sh_lt hG (by decide)) (sh_tg hG 45 rfl) rfl ?_
    refine pw_ialdN kp dX10_read_228 (sh_lt hG (by decide)) (sh_sh hG 53 rfl) (by decide) (by (repeat (first | rw [pm_u_ne (by decide)] | rw [pm_u_eq, pm_up_ne (by decide)])); exact hkK) (by omega) ?_
    refine pw_ti (z := nI 2) (by (repeat rw [pm_u_ne (by decide)]); exact hsO) ?_
    refine pw_iconst (v := nI 1) dX10_read_229 (by decide) ?_
    refine pw_icmp_ne (tgt := 241) dX10_read_230 (by decide) (fun h230 => ?_) (fun h => absurd h (by decide))
    refine pw_iload_n dX10_read_241 rfl ?_
    refine pw_if_eq (tgt := 256) dX10_read_242 (by decide) (fun h => absurd h (by decide)) (fun h242 => ?_)
    refine pw_aload_n dX10_read_245 rfl ?_
    refine pw_getI fX10_197 dX10_read_246 (sh_lt hG (by decide)) (sh_tg hG 45 rfl) rfl ?_
    refine pw_ti (z := nI (tk_p tx n (1))) (by rw [pm_u_eq, pm_up_eq]) ?_
    refine pw_if_ge (tgt := 256) dX10_read_249 (by decide) (fun h249 => ?_) (fun h => absurd (nI_pos' (by omega)) h)
    refine pw_aload_n dX10_read_256 rfl ?_
    refine pw_iconst (v := nI 0) dX10_read_257 (by decide) ?_
    refine pw_callV (as := [_]) (kc' := 0) (ks' := 0) lX10_237 dX10_read_258 rfl rfl (sh_lt hG (by decide)) (sh_tg hG 45 rfl) (Nat.le_of_ble_eq_true rfl) (by omega) (Nat.le_of_ble_eq_true rfl) (Nat.zero_le _) (Nat.zero_le _) ?_
    refine c_X10_needF hG hP (by omega) (e := tk_p tx n (1)) (by rw [pm_u_eq, pm_up_eq]) (by omega) ?_
    refine pw_pop dX10_read_261 rfl ?_
    refine pw_aload_n dX10_read_262 rfl ?_
    refine pw_getI fX10_197 dX10_read_263 (sh_lt hG (by decide)) (sh_tg hG 45 rfl) rfl ?_
    refine pw_ti (z := nI (tk_p tx n (1))) (by rw [pm_u_eq, pm_up_eq]) ?_
    exact pw_iret dX10_read_266 rfl (k0 (1) _ _ ((Option.some.inj hr).symm) ((((hR1.trans (fq.rd (fq.put (T := 0) (by decide) (by decide)))).trans (fq.rd (fq.put (T := 0) (by decide) (by decide)))).trans (fq.rd (fq.put (T := 0) (by decide) (by decide)))).trans (fq.rd (fq.put (T := 0) (by decide) (by decide)))))
set_option maxRecDepth 20000 in
set_option maxHeartbeats 4000000 in
theorem rr_T {l : Launch} {E : pmE} {S : pmS} {P : pmP} {d : Nat} {Q : Option Value → pmS → pmI → pmJ → pmP → Prop} {tx : Nat → Nat} {n i kp T f : Nat} {I : pmI} {J : pmJ} {z : Int32} {r : Except Nat (Nat × Int64 × List Int64 × List dD)} (hG : sh_St S) (hP : gr_St P) (hb : ∀ j, j < n → tx j < 128) (hn9 : n ≤ 120) (hd : 8 ≤ d) (hs : qs tx n i kp I J 0 0 T 0) (hro : I 60 kp = -5) (hpar : I 57 kp = nI 0) (hsO : I 55 kp = nI 3) (h116 : tk_k tx n 0 = 116) (hr : (if tk_k tx n 1 = 97 then (if tk_k tx n 2 = 40 then rdT (tk_k tx n) (tk_v tx n) (rp (tk_k tx n) (tk_v tx n) 3 3 []) else some (.error 2)) else some (.error 1)) = some r) (k1 : ∀ form dec pa L I' J', r = .ok (form, dec, pa, L) → rdN tx n i kp I' J' form dec pa L → frd kp I I' J J' → Q (some (.int (-1))) S I' J' P) (k0 : ∀ e I' J', r = .error e → frd kp I I' J J' → Q (some (.int (nI (tk_p tx n e)))) S I' J' P) : pm_W l E yX10_read cX10_read 3 (some .int) d 0 0 88 [(1, .int z), (0, .ref 47)] [] S I J P (pm_N E Q) := by
  have hkK := hs.2.1.1
  have hkp := hs.2.1.2
  have hi6 := hs.1.2.1
  have h0i := hs.lt (by rw [h116]; decide) (by rw [h116]; decide)
  have hs1 := hs.at' (b := 1) (by omega) (by omega)
  have hR1 : frd kp I (pm_u I 47 40 (nI 1)) J J := fq.rd (fq.put (T := 0) (by decide) (by decide))
  refine pw_aload_n dX10_read_88 rfl ?_
  refine pw_getR fX10_32 dX10_read_89 (sh_lt hG (by decide)) (sh_tg hG 45 rfl) rfl (gr_at hP 47 rfl) ?_
  refine pw_aload_n dX10_read_92 rfl ?_
  refine pw_getI fX10_220 dX10_read_93 (sh_lt hG (by decide)) (sh_tg hG 45 rfl) rfl ?_
  refine pw_ialdN kp dX10_read_96 (sh_lt hG (by decide)) (sh_sh hG 53 rfl) (by decide) (by (repeat (first | rw [pm_u_ne (by decide)] | rw [pm_u_eq, pm_up_ne (by decide)])); exact hkK) (by omega) ?_
  refine pw_ti (z := nI 3) (by (repeat rw [pm_u_ne (by decide)]); exact hsO) ?_
  refine pw_if_ne (tgt := 107) dX10_read_97 (by decide) (fun h97 => ?_) (fun h => absurd h (by decide))
  refine pw_aload_n dX10_read_107 rfl ?_
  refine pw_callV (as := []) (kc' := 0) (ks' := 0) lX10_207 dX10_read_108 rfl rfl (sh_lt hG (by decide)) (sh_tg hG 45 rfl) (Nat.le_of_ble_eq_true rfl) (by omega) (Nat.le_of_ble_eq_true rfl) (Nat.zero_le _) (Nat.zero_le _) ?_
  refine c_X10_next (a := 0) hG hP hs.2.2.1.1 ?_
  refine pw_aload_n dX10_read_111 rfl ?_
  refine pw_iconst (v := nI 1) dX10_read_112 (by decide) ?_
  refine pw_callV (as := [_]) (kc' := 0) (ks' := 0) lX10_237 dX10_read_113 rfl rfl (sh_lt hG (by decide)) (sh_tg hG 45 rfl) (Nat.le_of_ble_eq_true rfl) (by omega) (Nat.le_of_ble_eq_true rfl) (Nat.zero_le _) (Nat.zero_le _) ?_
  refine c_X10_need hG hP (by omega) hs1 hb (c := 1) (by decide) (fun hq1 => ?_) (fun hq0 => ?_)
  · have hn97 := (rq97 hb).mp hq1
    rw [if_pos hn97] at hr
    have hi1 := hs1.lt (by rw [hn97]; decide) (by rw [hn97]; decide)
    have hs2 : qs tx n i kp (pm_u (pm_u I 47 40 (nI 1)) 47 40 (nI 2)) J 2 0 T 0 := hs1.at' (b := 2) (by omega) (by omega)
    have hR2 : frd kp I (pm_u (pm_u I 47 40 (nI 1)) 47 40 (nI 2)) J J := hR1.trans (fq.rd (fq.put (T := 0) (by decide) (by decide)))
    refine pw_pop dX10_read_116 rfl ?_
    refine pw_aload_n dX10_read_117 rfl ?_
    refine pw_getR fX10_32 dX10_read_118 (sh_lt hG (by decide)) (sh_tg hG 45 rfl) rfl (gr_at hP 47 rfl) ?_
    refine pw_aload_n dX10_read_121 rfl ?_
    refine pw_getI fX10_220 dX10_read_122 (sh_lt hG (by decide)) (sh_tg hG 45 rfl) rfl ?_
    refine pw_ialdN kp dX10_read_125 (sh_lt hG (by decide)) (sh_sh hG 53 rfl) (by decide) (by (repeat (first | rw [pm_u_ne (by decide)] | rw [pm_u_eq, pm_up_ne (by decide)])); exact hkK) (by omega) ?_
    refine pw_ti (z := nI 3) (by (repeat rw [pm_u_ne (by decide)]); exact hsO) ?_
    refine pw_iconst (v := nI 1) dX10_read_126 (by decide) ?_
    refine pw_icmp_le (tgt := 152) dX10_read_127 (by decide) (fun h => absurd h (by decide)) (fun h127 => ?_)
    refine pw_aload_n dX10_read_130 rfl ?_
    refine pw_aload_n dX10_read_131 rfl ?_
    refine pw_getR fX10_32 dX10_read_132 (sh_lt hG (by decide)) (sh_tg hG 45 rfl) rfl (gr_at hP 47 rfl) ?_
    refine pw_aload_n dX10_read_135 rfl ?_
    refine pw_getI fX10_220 dX10_read_136 (sh_lt hG (by decide)) (sh_tg hG 45 rfl) rfl ?_
    refine pw_ialdN kp dX10_read_139 (sh_lt hG (by decide)) (sh_sh hG 53 rfl) (by decide) (by (repeat (first | rw [pm_u_ne (by decide)] | rw [pm_u_eq, pm_up_ne (by decide)])); exact hkK) (by omega) ?_
    refine pw_ti (z := nI 3) (by (repeat rw [pm_u_ne (by decide)]); exact hsO) ?_
    refine pw_iconst (v := nI 3) dX10_read_140 (by decide) ?_
    refine pw_icmp_ne (tgt := 148) dX10_read_141 (by decide) (fun h => absurd (by decide) h) (fun h141 => ?_)
    refine pw_iconst (v := nI 1) dX10_read_144 (by decide) ?_
    refine pw_goto (tgt := 149) dX10_read_145 (by decide) ?_
    refine pw_callV (as := [_]) (kc' := 0) (ks' := 0) lX10_269 dX10_read_149 rfl rfl (sh_lt hG (by decide)) (sh_tg hG 45 rfl) (Nat.le_of_ble_eq_true rfl) (by omega) (Nat.le_of_ble_eq_true rfl) (Nat.zero_le _) (Nat.zero_le _) ?_
    refine c_X10_params1 hG hP hb hn9 (by omega) hs2 (fun h40 => ?_) (fun h40 => ⟨fun b pa I3 hq h41 hs3 hpT hpa hf3 => ?_, fun b pa I3 hq h41 hF hf3 => ?_, fun e I3 hq hF hf3 => ?_⟩)
    · rw [if_neg h40] at hr
      have hple := tk_p_le (tx := tx) (n := n) (2)
      refine pw_aload_n dX10_read_152 rfl ?_
      refine pw_getR fX10_32 dX10_read_153 (sh_lt hG (by decide)) (sh_tg hG 45 rfl) rfl (gr_at hP 47 rfl) ?_
      refine pw_aload_n dX10_read_156 rfl ?_
      refine pw_getI fX10_220 dX10_read_157 (sh_lt hG (by decide)) (sh_tg hG 45 rfl) rfl ?_
      refine pw_ialdN kp dX10_read_160 (sh_lt hG (by decide)) (sh_sh hG 53 rfl) (by decide) (by (repeat (first | rw [pm_u_ne (by decide)] | rw [pm_u_eq, pm_up_ne (by decide)])); exact hkK) (by omega) ?_
      refine pw_ti (z := nI 3) (by (repeat rw [pm_u_ne (by decide)]); exact hsO) ?_
      refine pw_iconst (v := nI 2) dX10_read_161 (by decide) ?_
      refine pw_icmp_ne (tgt := 172) dX10_read_162 (by decide) (fun h162 => ?_) (fun h => absurd h (by decide))
      refine pw_aload_n dX10_read_172 rfl ?_
      refine pw_getR fX10_32 dX10_read_173 (sh_lt hG (by decide)) (sh_tg hG 45 rfl) rfl (gr_at hP 47 rfl) ?_
      refine pw_aload_n dX10_read_176 rfl ?_
      refine pw_getI fX10_220 dX10_read_177 (sh_lt hG (by decide)) (sh_tg hG 45 rfl) rfl ?_
      refine pw_ialdN kp dX10_read_180 (sh_lt hG (by decide)) (sh_sh hG 53 rfl) (by decide) (by (repeat (first | rw [pm_u_ne (by decide)] | rw [pm_u_eq, pm_up_ne (by decide)])); exact hkK) (by omega) ?_
      refine pw_ti (z := nI 3) (by (repeat rw [pm_u_ne (by decide)]); exact hsO) ?_
      refine pw_iconst (v := nI 2) dX10_read_181 (by decide) ?_
      refine pw_icmp_eq (tgt := 214) dX10_read_182 (by decide) (fun h => absurd h (by decide)) (fun h182 => ?_)
      refine pw_aload_n dX10_read_185 rfl ?_
      refine pw_getR fX10_32 dX10_read_186 (sh_lt hG (by decide)) (sh_tg hG 45 rfl) rfl (gr_at hP 47 rfl) ?_
      refine pw_aload_n dX10_read_189 rfl ?_
      refine pw_getI fX10_220 dX10_read_190 (sh_lt hG (by decide)) (sh_tg hG 45 rfl) rfl ?_
      refine pw_ialdN kp dX10_read_193 (sh_lt hG (by decide)) (sh_sh hG 53 rfl) (by decide) (by (repeat (first | rw [pm_u_ne (by decide)] | rw [pm_u_eq, pm_up_ne (by decide)])); exact hkK) (by omega) ?_
      refine pw_ti (z := nI 3) (by (repeat rw [pm_u_ne (by decide)]); exact hsO) ?_
      refine pw_iconst (v := nI 1) dX10_read_194 (by decide) ?_
      refine pw_icmp_ne (tgt := 218) dX10_read_195 (by decide) (fun h195 => ?_) (fun h => absurd h (by decide))
      refine pw_iconst (v := nI 0) dX10_read_218 (by decide) ?_
      refine pw_istore_n (lv' := [(2, _), (1, _), (0, _)]) dX10_read_219 (by decide) rfl ?_
      refine pw_aload_n dX10_read_220 rfl ?_
      refine pw_getR fX10_32 dX10_read_221 (sh_lt hG (by decide)) (sh_tg hG 45 rfl) rfl (gr_at hP 47 rfl) ?_
      refine pw_aload_n dX10_read_224 rfl ?_
      refine pw_getI fX10_220 dX10_read_225 (sh_lt hG (by decide)) (sh_tg hG 45 rfl) rfl ?_
      refine pw_ialdN kp dX10_read_228 (sh_lt hG (by decide)) (sh_sh hG 53 rfl) (by decide) (by (repeat (first | rw [pm_u_ne (by decide)] | rw [pm_u_eq, pm_up_ne (by decide)])); exact hkK) (by omega) ?_
      refine pw_ti (z := nI 3) (by (repeat rw [pm_u_ne (by decide)]); exact hsO) ?_
      refine pw_iconst (v := nI 1) dX10_read_229 (by decide) ?_
      refine pw_icmp_ne (tgt := 241) dX10_read_230 (by decide) (fun h230 => ?_) (fun h => absurd h (by decide))
      refine pw_iload_n dX10_read_241 rfl ?_
      refine pw_if_eq (tgt := 256) dX10_read_242 (by decide) (fun h242 => ?_) (fun h => absurd (by decide) h)
      refine pw_aload_n dX10_read_256 rfl ?_
      refine pw_iconst (v := nI 0) dX10_read_257 (by decide) ?_
      refine pw_callV (as := [_]) (kc' := 0) (ks' := 0) lX10_237 dX10_read_258 rfl rfl (sh_lt hG (by decide)) (sh_tg hG 45 rfl) (Nat.le_of_ble_eq_true rfl) (by omega) (Nat.le_of_ble_eq_true rfl) (Nat.zero_le _) (Nat.zero_le _) ?_
      refine c_X10_needF hG hP (by omega) (e := tk_p tx n (2)) (by rw [pm_u_eq, pm_up_eq]) (by omega) ?_
      refine pw_pop dX10_read_261 rfl ?_
      refine pw_aload_n dX10_read_262 rfl ?_
      refine pw_getI fX10_197 dX10_read_263 (sh_lt hG (by decide)) (sh_tg hG 45 rfl) rfl ?_
      refine pw_ti (z := nI (tk_p tx n (2))) (by rw [pm_u_eq, pm_up_eq]) ?_
      exact pw_iret dX10_read_266 rfl (k0 (2) _ _ ((Option.some.inj hr).symm) ((hR2.trans (fq.rd (fq.put (T := 0) (by decide) (by decide)))).trans (fq.rd (fq.put (T := 0) (by decide) (by decide)))))
    · rw [if_pos h40, show rp (tk_k tx n) (tk_v tx n) 3 3 [] = .ok (b, pa) from hq, rdT_ok] at hr
      rw [if_pos h41] at hr
      have hR3 := hR2.trans (fp.rd (J := J) hf3)
      have hkK3 : I3 47 10 = nI kp := by rw [hf3.2.1 10 (by omega)]; exact (by (repeat (first | rw [pm_u_ne (by decide)] | rw [pm_u_eq, pm_up_ne (by decide)])); exact hkK)
      have hsO3 : I3 55 kp = nI 3 := by rw [hf3.1 55 (by decide) (by decide) (by decide)]; exact (by (repeat rw [pm_u_ne (by decide)]); exact hsO)
      refine pw_aload_n dX10_read_152 rfl ?_
      refine pw_getR fX10_32 dX10_read_153 (sh_lt hG (by decide)) (sh_tg hG 45 rfl) rfl (gr_at hP 47 rfl) ?_
      refine pw_aload_n dX10_read_156 rfl ?_
      refine pw_getI fX10_220 dX10_read_157 (sh_lt hG (by decide)) (sh_tg hG 45 rfl) rfl ?_
      refine pw_ialdN kp dX10_read_160 (sh_lt hG (by decide)) (sh_sh hG 53 rfl) (by decide) (by (repeat (first | rw [pm_u_ne (by decide)] | rw [pm_u_eq, pm_up_ne (by decide)])); exact hkK3) (by omega) ?_
      refine pw_ti (z := nI 3) (by (repeat rw [pm_u_ne (by decide)]); exact hsO3) ?_
      refine pw_iconst (v := nI 2) dX10_read_161 (by decide) ?_
      refine pw_icmp_ne (tgt := 172) dX10_read_162 (by decide) (fun h162 => ?_) (fun h => absurd h (by decide))
      refine pw_aload_n dX10_read_172 rfl ?_
      refine pw_getR fX10_32 dX10_read_173 (sh_lt hG (by decide)) (sh_tg hG 45 rfl) rfl (gr_at hP 47 rfl) ?_
      refine pw_aload_n dX10_read_176 rfl ?_
      refine pw_getI fX10_220 dX10_read_177 (sh_lt hG (by decide)) (sh_tg hG 45 rfl) rfl ?_
      refine pw_ialdN kp dX10_read_180 (sh_lt hG (by decide)) (sh_sh hG 53 rfl) (by decide) (by (repeat (first | rw [pm_u_ne (by decide)] | rw [pm_u_eq, pm_up_ne (by decide)])); exact hkK3) (by omega) ?_
      refine pw_ti (z := nI 3) (by (repeat rw [pm_u_ne (by decide)]); exact hsO3) ?_
      refine pw_iconst (v := nI 2) dX10_read_181 (by decide) ?_
      refine pw_icmp_eq (tgt := 214) dX10_read_182 (by decide) (fun h => absurd h (by decide)) (fun h182 => ?_)
      refine pw_aload_n dX10_read_185 rfl ?_
      refine pw_getR fX10_32 dX10_read_186 (sh_lt hG (by decide)) (sh_tg hG 45 rfl) rfl (gr_at hP 47 rfl) ?_
      refine pw_aload_n dX10_read_189 rfl ?_
      refine pw_getI fX10_220 dX10_read_190 (sh_lt hG (by decide)) (sh_tg hG 45 rfl) rfl ?_
      refine pw_ialdN kp dX10_read_193 (sh_lt hG (by decide)) (sh_sh hG 53 rfl) (by decide) (by (repeat (first | rw [pm_u_ne (by decide)] | rw [pm_u_eq, pm_up_ne (by decide)])); exact hkK3) (by omega) ?_
      refine pw_ti (z := nI 3) (by (repeat rw [pm_u_ne (by decide)]); exact hsO3) ?_
      refine pw_iconst (v := nI 1) dX10_read_194 (by decide) ?_
      refine pw_icmp_ne (tgt := 218) dX10_read_195 (by decide) (fun h195 => ?_) (fun h => absurd h (by decide))
      refine pw_iconst (v := nI 0) dX10_read_218 (by decide) ?_
      refine pw_istore_n (lv' := [(2, _), (1, _), (0, _)]) dX10_read_219 (by decide) rfl ?_
      refine pw_aload_n dX10_read_220 rfl ?_
      refine pw_getR fX10_32 dX10_read_221 (sh_lt hG (by decide)) (sh_tg hG 45 rfl) rfl (gr_at hP 47 rfl) ?_
      refine pw_aload_n dX10_read_224 rfl ?_
      refine pw_getI fX10_220 dX10_read_225 (sh_lt hG (by decide)) (sh_tg hG 45 rfl) rfl ?_
      refine pw_ialdN kp dX10_read_228 (sh_lt hG (by decide)) (sh_sh hG 53 rfl) (by decide) (by (repeat (first | rw [pm_u_ne (by decide)] | rw [pm_u_eq, pm_up_ne (by decide)])); exact hkK3) (by omega) ?_
      refine pw_ti (z := nI 3) (by (repeat rw [pm_u_ne (by decide)]); exact hsO3) ?_
      refine pw_iconst (v := nI 1) dX10_read_229 (by decide) ?_
      refine pw_icmp_ne (tgt := 241) dX10_read_230 (by decide) (fun h230 => ?_) (fun h => absurd h (by decide))
      refine pw_iload_n dX10_read_241 rfl ?_
      refine pw_if_eq (tgt := 256) dX10_read_242 (by decide) (fun h242 => ?_) (fun h => absurd (by decide) h)
      refine pw_aload_n dX10_read_256 rfl ?_
      refine pw_iconst (v := nI 0) dX10_read_257 (by decide) ?_
      refine pw_callV (as := [_]) (kc' := 0) (ks' := 0) lX10_237 dX10_read_258 rfl rfl (sh_lt hG (by decide)) (sh_tg hG 45 rfl) (Nat.le_of_ble_eq_true rfl) (by omega) (Nat.le_of_ble_eq_true rfl) (Nat.zero_le _) (Nat.zero_le _) ?_
      refine c_X10_need hG hP (by omega) hs3 hb (c := 0) (by decide) (fun hz1 => ?_) (fun hz0 => ?_)
      · refine pw_pop dX10_read_261 rfl ?_
        refine pw_aload_n dX10_read_262 rfl ?_
        refine pw_getI fX10_197 dX10_read_263 (sh_lt hG (by decide)) (sh_tg hG 45 rfl) rfl ?_
        refine pw_ti (z := -1) (by rw [pm_u_eq, pm_up_ne (by decide)]; exact hs3.2.2.2.1) ?_
        exact pw_iret dX10_read_266 rfl (k1 3 (tk_v tx n 1) pa [] _ _ (by rw [if_pos ((rq0 hb).mp hz1)] at hr; exact (Option.some.inj hr).symm) (rdN_mk2 hs3 hsO3 (Or.inr ⟨hi1, hn97, rfl⟩) hpa hpT (by rw [hf3.1 60 (by decide) (by decide) (by decide)]; exact (by (repeat rw [pm_u_ne (by decide)]); exact hro)) (Or.inr ⟨rfl, rfl⟩)) (hR3.trans (fq.rd (fq.put (T := 0) (by decide) (by decide)))))
      · refine pw_pop dX10_read_261 rfl ?_
        refine pw_aload_n dX10_read_262 rfl ?_
        refine pw_getI fX10_197 dX10_read_263 (sh_lt hG (by decide)) (sh_tg hG 45 rfl) rfl ?_
        refine pw_ti (z := nI (tk_p tx n (b + 1))) (by rw [pm_u_eq, pm_up_eq]) ?_
        exact pw_iret dX10_read_266 rfl (k0 (b + 1) _ _ (by rw [if_neg (fun q => hz0 ((rq0 hb).mpr q))] at hr; exact (Option.some.inj hr).symm) (hR3.trans (fq.rd (fq.put (T := 0) (by decide) (by decide)))))
    · rw [if_pos h40, show rp (tk_k tx n) (tk_v tx n) 3 3 [] = .ok (b, pa) from hq, rdT_ok] at hr
      rw [if_neg h41] at hr
      have hR3 := hR2.trans (fp.rd (J := J) hf3)
      have hkK3 : I3 47 10 = nI kp := by rw [hf3.2.1 10 (by omega)]; exact (by (repeat (first | rw [pm_u_ne (by decide)] | rw [pm_u_eq, pm_up_ne (by decide)])); exact hkK)
      have hsO3 : I3 55 kp = nI 3 := by rw [hf3.1 55 (by decide) (by decide) (by decide)]; exact (by (repeat rw [pm_u_ne (by decide)]); exact hsO)
      have hple := tk_p_le (tx := tx) (n := n) (b)
      refine pw_aload_n dX10_read_152 rfl ?_
      refine pw_getR fX10_32 dX10_read_153 (sh_lt hG (by decide)) (sh_tg hG 45 rfl) rfl (gr_at hP 47 rfl) ?_
      refine pw_aload_n dX10_read_156 rfl ?_
      refine pw_getI fX10_220 dX10_read_157 (sh_lt hG (by decide)) (sh_tg hG 45 rfl) rfl ?_
      refine pw_ialdN kp dX10_read_160 (sh_lt hG (by decide)) (sh_sh hG 53 rfl) (by decide) (by (repeat (first | rw [pm_u_ne (by decide)] | rw [pm_u_eq, pm_up_ne (by decide)])); exact hkK3) (by omega) ?_
      refine pw_ti (z := nI 3) (by (repeat rw [pm_u_ne (by decide)]); exact hsO3) ?_
      refine pw_iconst (v := nI 2) dX10_read_161 (by decide) ?_
      refine pw_icmp_ne (tgt := 172) dX10_read_162 (by decide) (fun h162 => ?_) (fun h => absurd h (by decide))
      refine pw_aload_n dX10_read_172 rfl ?_
      refine pw_getR fX10_32 dX10_read_173 (sh_lt hG (by decide)) (sh_tg hG 45 rfl) rfl (gr_at hP 47 rfl) ?_
      refine pw_aload_n dX10_read_176 rfl ?_
      refine pw_getI fX10_220 dX10_read_177 (sh_lt hG (by decide)) (sh_tg hG 45 rfl) rfl ?_
      refine pw_ialdN kp dX10_read_180 (sh_lt hG (by decide)) (sh_sh hG 53 rfl) (by decide) (by (repeat (first | rw [pm_u_ne (by decide)] | rw [pm_u_eq, pm_up_ne (by decide)])); exact hkK3) (by omega) ?_
      refine pw_ti (z := nI 3) (by (repeat rw [pm_u_ne (by decide)]); exact hsO3) ?_
      refine pw_iconst (v := nI 2) dX10_read_181 (by decide) ?_
      refine pw_icmp_eq (tgt := 214) dX10_read_182 (by decide) (fun h => absurd h (by decide)) (fun h182 => ?_)
      refine pw_aload_n dX10_read_185 rfl ?_
      refine pw_getR fX10_32 dX10_read_186 (sh_lt hG (by decide)) (sh_tg hG 45 rfl) rfl (gr_at hP 47 rfl) ?_
      refine pw_aload_n dX10_read_189 rfl ?_
      refine pw_getI fX10_220 dX10_read_190 (sh_lt hG (by decide)) (sh_tg hG 45 rfl) rfl ?_
      refine pw_ialdN kp dX10_read_193 (sh_lt hG (by decide)) (sh_sh hG 53 rfl) (by decide) (by (repeat (first | rw [pm_u_ne (by decide)] | rw [pm_u_eq, pm_up_ne (by decide)])); exact hkK3) (by omega) ?_
      refine pw_ti (z := nI 3) (by (repeat rw [pm_u_ne (by decide)]); exact hsO3) ?_
      refine pw_iconst (v := nI 1) dX10_read_194 (by decide) ?_
      refine pw_icmp_ne (tgt := 218) dX10_read_195 (by decide) (fun h195 => ?_) (fun h => absurd h (by decide))
      refine pw_iconst (v := nI 0) dX10_read_218 (by decide) ?_
      refine pw_istore_n (lv' := [(2, _), (1, _), (0, _)]) dX10_read_219 (by decide) rfl ?_
      refine pw_aload_n dX10_read_220 rfl ?_
      refine pw_getR fX10_32 dX10_read_221 (sh_lt hG (by decide)) (sh_tg hG 45 rfl) rfl (gr_at hP 47 rfl) ?_
      refine pw_aload_n dX10_read_224 rfl ?_
      refine pw_getI fX10_220 dX10_read_225 (sh_lt hG (by decide)) (sh_tg hG 45 rfl) rfl ?_
      refine pw_ialdN kp dX10_read_228 (sh_lt hG (by decide)) (sh_sh hG 53 rfl) (by decide) (by (repeat (first | rw [pm_u_ne (by decide)] | rw [pm_u_eq, pm_up_ne (by decide)])); exact hkK3) (by omega) ?_
      refine pw_ti (z := nI 3) (by (repeat rw [pm_u_ne (by decide)]); exact hsO3) ?_
      refine pw_iconst (v := nI 1) dX10_read_229 (by decide) ?_
      refine pw_icmp_ne (tgt := 241) dX10_read_230 (by decide) (fun h230 => ?_) (fun h => absurd h (by decide))
      refine pw_iload_n dX10_read_241 rfl ?_
      refine pw_if_eq (tgt := 256) dX10_read_242 (by decide) (fun h242 => ?_) (fun h => absurd (by decide) h)
      refine pw_aload_n dX10_read_256 rfl ?_
      refine pw_iconst (v := nI 0) dX10_read_257 (by decide) ?_
      refine pw_callV (as := [_]) (kc' := 0) (ks' := 0) lX10_237 dX10_read_258 rfl rfl (sh_lt hG (by decide)) (sh_tg hG 45 rfl) (Nat.le_of_ble_eq_true rfl) (by omega) (Nat.le_of_ble_eq_true rfl) (Nat.zero_le _) (Nat.zero_le _) ?_
      refine c_X10_needF hG hP (by omega) (e := tk_p tx n (b)) (by first | exact hF | (rw [pm_u_eq, pm_up_eq])) (by omega) ?_
      refine pw_pop dX10_read_261 rfl ?_
      refine pw_aload_n dX10_read_262 rfl ?_
      refine pw_getI fX10_197 dX10_read_263 (sh_lt hG (by decide)) (sh_tg hG 45 rfl) rfl ?_
      refine pw_ti (z := nI (tk_p tx n (b))) (by rw [pm_u_eq, pm_up_eq]) ?_
      exact pw_iret dX10_read_266 rfl (k0 (b) _ _ ((Option.some.inj hr).symm) (hR3.trans (fq.rd (fq.put (T := 0) (by decide) (by decide)))))
    · rw [if_pos h40, show rp (tk_k tx n) (tk_v tx n) 3 3 [] = .error e from hq] at hr
      have hR3 := hR2.trans (fp.rd (J := J) hf3)
      have hkK3 : I3 47 10 = nI kp := by rw [hf3.2.1 10 (by omega)]; exact (by (repeat (first | rw [pm_u_ne (by decide)] | rw [pm_u_eq, pm_up_ne (by decide)])); exact hkK)
      have hsO3 : I3 55 kp = nI 3 := by rw [hf3.1 55 (by decide) (by decide) (by decide)]; exact (by (repeat rw [pm_u_ne (by decide)]); exact hsO)
      have hple := tk_p_le (tx := tx) (n := n) (e)
      refine pw_aload_n dX10_read_152 rfl ?_
      refine pw_getR fX10_32 dX10_read_153 (sh_lt hG (by decide)) (sh_tg hG 45 rfl) rfl (gr_at hP 47 rfl) ?_
      refine pw_aload_n dX10_read_156 rfl ?_
      refine pw_getI fX10_220 dX10_read_157 (sh_lt hG (by decide)) (sh_tg hG 45 rfl) rfl ?_
      refine pw_ialdN kp dX10_read_160 (sh_lt hG (by decide)) (sh_sh hG 53 rfl) (by decide) (by (repeat (first | rw [pm_u_ne (by decide)] | rw [pm_u_eq, pm_up_ne (by decide)])); exact hkK3) (by omega) ?_
      refine pw_ti (z := nI 3) (by (repeat rw [pm_u_ne (by decide)]); exact hsO3) ?_
      refine pw_iconst (v := nI 2) dX10_read_161 (by decide) ?_
      refine pw_icmp_ne (tgt := 172) dX10_read_162 (by decide) (fun h162 => ?_) (fun h => absurd h (by decide))
      refine pw_aload_n dX10_read_172 rfl ?_
      refine pw_getR fX10_32 dX10_read_173 (sh_lt hG (by decide)) (sh_tg hG 45 rfl) rfl (gr_at hP 47 rfl) ?_
      refine pw_aload_n dX10_read_176 rfl ?_
      refine pw_getI fX10_220 dX10_read_177 (sh_lt hG (by decide)) (sh_tg hG 45 rfl) rfl ?_
      refine pw_ialdN kp dX10_read_180 (sh_lt hG (by decide)) (sh_sh hG 53 rfl) (by decide) (by (repeat (first | rw [pm_u_ne (by decide)] | rw [pm_u_eq, pm_up_ne (by decide)])); exact hkK3) (by omega) ?_
      refine pw_ti (z := nI 3) (by (repeat rw [pm_u_ne (by decide)]); exact hsO3) ?_
      refine pw_iconst (v := nI 2) dX10_read_181 (by decide) ?_
      refine pw_icmp_eq (tgt := 214) dX10_read_182 (by decide) (fun h => absurd h (by decide)) (fun h182 => ?_)
      refine pw_aload_n dX10_read_185 rfl ?_
      refine pw_getR fX10_32 dX10_read_186 (sh_lt hG (by decide)) (sh_tg hG 45 rfl) rfl (gr_at hP 47 rfl) ?_
      refine pw_aload_n dX10_read_189 rfl ?_
      refine pw_getI fX10_220 dX10_read_190 (sh_lt hG (by decide)) (sh_tg hG 45 rfl) rfl ?_
      refine pw_ialdN kp dX10_read_193 (sh_lt hG (by decide)) (sh_sh hG 53 rfl) (by decide) (by (repeat (first | rw [pm_u_ne (by decide)] | rw [pm_u_eq, pm_up_ne (by decide)])); exact hkK3) (by omega) ?_
      refine pw_ti (z := nI 3) (by (repeat rw [pm_u_ne (by decide)]); exact hsO3) ?_
      refine pw_iconst (v := nI 1) dX10_read_194 (by decide) ?_
      refine pw_icmp_ne (tgt := 218) dX10_read_195 (by decide) (fun h195 => ?_) (fun h => absurd h (by decide))
      refine pw_iconst (v := nI 0) dX10_read_218 (by decide) ?_
      refine pw_istore_n (lv' := [(2, _), (1, _), (0, _)]) dX10_read_219 (by decide) rfl ?_
      refine pw_aload_n dX10_read_220 rfl ?_
      refine pw_getR fX10_32 dX10_read_221 (sh_lt hG (by decide)) (sh_tg hG 45 rfl) rfl (gr_at hP 47 rfl) ?_
      refine pw_aload_n dX10_read_224 rfl ?_
      refine pw_getI fX10_220 dX10_read_225 (sh_lt hG (by decide)) (sh_tg hG 45 rfl) rfl ?_
      refine pw_ialdN kp dX10_read_228 (sh_lt hG (by decide)) (sh_sh hG 53 rfl) (by decide) (by (repeat (first | rw [pm_u_ne (by decide)] | rw [pm_u_eq, pm_up_ne (by decide)])); exact hkK3) (by omega) ?_
      refine pw_ti (z := nI 3) (by (repeat rw [pm_u_ne (by decide)]); exact hsO3) ?_
      refine pw_iconst (v := nI 1) dX10_read_229 (by decide) ?_
      refine pw_icmp_ne (tgt := 241) dX10_read_230 (by decide) (fun h230 => ?_) (fun h => absurd h (by decide))
      refine pw_iload_n dX10_read_241 rfl ?_
      refine pw_if_eq (tgt := 256) dX10_read_242 (by decide) (fun h242 => ?_) (fun h => absurd (by decide) h)
      refine pw_aload_n dX10_read_256 rfl ?_
      refine pw_iconst (v := nI 0) dX10_read_257 (by decide) ?_
      refine pw_callV (as := [_]) (kc' := 0) (ks' := 0) lX10_237 dX10_read_258 rfl rfl (sh_lt hG (by decide)) (sh_tg hG 45 rfl) (Nat.le_of_ble_eq_true rfl) (by omega) (Nat.le_of_ble_eq_true rfl) (Nat.zero_le _) (Nat.zero_le _) ?_
      refine c_X10_needF hG hP (by omega) (e := tk_p tx n (e)) (by first | exact hF | (rw [pm_u_eq, pm_up_eq])) (by omega) ?_
      refine pw_pop dX10_read_261 rfl ?_
      refine pw_aload_n dX10_read_262 rfl ?_
      refine pw_getI fX10_197 dX10_read_263 (sh_lt hG (by decide)) (sh_tg hG 45 rfl) rfl ?_
      refine pw_ti (z := nI (tk_p tx n (e))) (by rw [pm_u_eq, pm_up_eq]) ?_
      exact pw_iret dX10_read_266 rfl (k0 (e) _ _ ((Option.some.inj hr).symm) (hR3.trans (fq.rd (fq.put (T := 0) (by decide) (by decide)))))
  · rw [if_neg (fun q => hq0 ((rq97 hb).mpr q))] at hr
    have hple := tk_p_le (tx := tx) (n := n) (1)
    refine pw_pop dX10_read_116 rfl ?_
    refine pw_aload_n dX10_read_117 rfl ?_
    refine pw_getR fX10_32 dX10_read_118 (sh_lt hG (by decide)) (sh_tg hG 45 rfl) rfl (gr_at hP 47 rfl) ?_
    refine pw_aload_n dX10_read_121 rfl ?_
    refine pw_getI fX10_220 dX10_read_122 (sh_lt hG (by decide)) (sh_tg hG 45 rfl) rfl ?_
    refine pw_ialdN kp dX10_read_125 (sh_lt hG (by decide)) (sh_sh hG 53 rfl) (by decide) (by (repeat (first | rw [pm_u_ne (by decide)] | rw [pm_u_eq, pm_up_ne (by decide)])); exact hkK) (by omega) ?_
    refine pw_ti (z := nI 3) (by (repeat rw [pm_u_ne (by decide)]); exact hsO) ?_
    refine pw_iconst (v := nI 1) dX10_read_126 (by decide) ?_
    refine pw_icmp_le (tgt := 152) dX10_read_127 (by decide) (fun h => absurd h (by decide)) (fun h127 => ?_)
    refine pw_aload_n dX10_read_130 rfl ?_
    refine pw_aload_n dX10_read_131 rfl ?_
    refine pw_getR fX10_32 dX10_read_132 (sh_lt hG (by decide)) (sh_tg hG 45 rfl) rfl (gr_at hP 47 rfl) ?_
    refine pw_aload_n dX10_read_135 rfl ?_
    refine pw_getI fX10_220 dX10_read_136 (sh_lt hG (by decide)) (sh_tg hG 45 rfl) rfl ?_
    refine pw_ialdN kp dX10_read_139 (sh_lt hG (by decide)) (sh_sh hG 53 rfl) (by decide) (by (repeat (first | rw [pm_u_ne (by decide)] | rw [pm_u_eq, pm_up_ne (by decide)])); exact hkK) (by omega) ?_
    refine pw_ti (z := nI 3) (by (repeat rw [pm_u_ne (by decide)]); exact hsO) ?_
    refine pw_iconst (v := nI 3) dX10_read_140 (by decide) ?_
    refine pw_icmp_ne (tgt := 148) dX10_read_141 (by decide) (fun h => absurd (by decide) h) (fun h141 => ?_)
    refine pw_iconst (v := nI 1) dX10_read_144 (by decide) ?_
    refine pw_goto (tgt := 149) dX10_read_145 (by decide) ?_
    refine pw_callV (as := [_]) (kc' := 0) (ks' := 0) lX10_269 dX10_read_149 rfl rfl (sh_lt hG (by decide)) (sh_tg hG 45 rfl) (Nat.le_of_ble_eq_true rfl) (by omega) (Nat.le_of_ble_eq_true rfl) (Nat.zero_le _) (Nat.zero_le _) ?_
    refine c_X10_paramsF hG hP (by omega) (e := tk_p tx n (1)) (by rw [pm_u_eq, pm_up_eq]) (by omega) ?_
    refine pw_aload_n dX10_read_152 rfl ?_
    refine pw_getR fX10_32 dX10_read_153 (sh_lt hG (by decide)) (sh_tg hG 45 rfl) rfl (gr_at hP 47 rfl) ?_
    refine pw_aload_n dX10_read_156 rfl ?_
    refine pw_getI fX10_220 dX10_read_157 (sh_lt hG (by decide)) (sh_tg hG 45 rfl) rfl ?_
    refine pw_ialdN kp dX10_read_160 (sh_lt hG (by decide)) (sh_sh hG 53 rfl) (by decide) (by (repeat (first | rw [pm_u_ne (by decide)] | rw [pm_u_eq, pm_up_ne (by decide)])); exact hkK) (by omega) ?_
    refine pw_ti (z := nI 3) (by (repeat rw [pm_u_ne (by decide)]); exact hsO) ?_
    refine pw_iconst (v := nI 2) dX10_read_161 (by decide) ?_
    refine pw_icmp_ne (tgt := 172) dX10_read_162 (by decide) (fun h162 => ?_) (fun h => absurd h (by decide))
    refine pw_aload_n dX10_read_172 rfl ?_
    refine pw_getR fX10_32 dX10_read_173 (sh_lt hG (by decide)) (sh_tg hG 45 rfl) rfl (gr_at hP 47 rfl) ?_
    refine pw_aload_n dX10_read_176 rfl ?_
    refine pw_getI fX10_220 dX10_read_177 (sh_lt hG (by decide)) (sh_tg hG 45 rfl) rfl ?_
    refine pw_ialdN kp dX10_read_180 (sh_lt hG (by decide)) (sh_sh hG 53 rfl) (by decide) (by (repeat (first | rw [pm_u_ne (by decide)] | rw [pm_u_eq, pm_up_ne (by decide)])); exact hkK) (by omega) ?_
    refine pw_ti (z := nI 3) (by (repeat rw [pm_u_ne (by decide)]); exact hsO) ?_
    refine pw_iconst (v := nI 2) dX10_read_181 (by decide) ?_
    refine pw_icmp_eq (tgt := 214) dX10_read_182 (by decide) (fun h => absurd h (by decide)) (fun h182 => ?_)
    refine pw_aload_n dX10_read_185 rfl ?_
    refine pw_getR fX10_32 dX10_read_186 (sh_lt hG (by decide)) (sh_tg hG 45 rfl) rfl (gr_at hP 47 rfl) ?_
    refine pw_aload_n dX10_read_189 rfl ?_
    refine pw_getI fX10_220 dX10_read_190 (sh_lt hG (by decide)) (sh_tg hG 45 rfl) rfl ?_
    refine pw_ialdN kp dX10_read_193 (sh_lt hG (by decide)) (sh_sh hG 53 rfl) (by decide) (by (repeat (first | rw [pm_u_ne (by decide)] | rw [pm_u_eq, pm_up_ne (by decide)])); exact hkK) (by omega) ?_
    refine pw_ti (z := nI 3) (by (repeat rw [pm_u_ne (by decide)]); exact hsO) ?_
    refine pw_iconst (v := nI 1) dX10_read_194 (by decide) ?_
    refine pw_icmp_ne (tgt := 218) dX10_read_195 (by decide) (fun h195 => ?_) (fun h => absurd h (by decide))
    refine pw_iconst (v := nI 0) dX10_read_218 (by decide) ?_
    refine pw_istore_n (lv' := [(2, _), (1, _), (0, _)]) dX10_read_219 (by decide) rfl ?_
    refine pw_aload_n dX10_read_220 rfl ?_
    refine pw_getR fX10_32 dX10_read_221 (sh_lt hG (by decide)) (sh_tg hG 45 rfl) rfl (gr_at hP 47 rfl) ?_
    refine pw_aload_n dX10_read_224 rfl ?_
    refine pw_getI fX10_220 dX10_read_225 (sh_lt hG (by decide)) (sh_tg hG 45 rfl) rfl ?_
    refine pw_ialdN kp dX10_read_228 (sh_lt hG (by decide)) (sh_sh hG 53 rfl) (by decide) (by (repeat (first | rw [pm_u_ne (by decide)] | rw [pm_u_eq, pm_up_ne (by decide)])); exact hkK) (by omega) ?_
    refine pw_ti (z := nI 3) (by (repeat rw [pm_u_ne (by decide)]); exact hsO) ?_
    refine pw_iconst (v := nI 1) dX10_read_229 (by decide) ?_
    refine pw_icmp_ne (tgt := 241) dX10_read_230 (by decide) (fun h230 => ?_) (fun h => absurd h (by decide))
    refine pw_iload_n dX10_read_241 rfl ?_
    refine pw_if_eq (tgt := 256) dX10_read_242 (by decide) (fun h242 => ?_) (fun h => absurd (by decide) h)
    refine pw_aload_n dX10_read_256 rfl ?_
    refine pw_iconst (v := nI 0) dX10_read_257 (by decide) ?_
    refine pw_callV (as := [_]) (kc' := 0) (ks' := 0) lX10_237 dX10_read_258 rfl rfl (sh_lt hG (by decide)) (sh_tg hG 45 rfl) (Nat.le_of_ble_eq_true rfl) (by omega) (Nat.le_of_ble_eq_true rfl) (Nat.zero_le _) (Nat.zero_le _) ?_
    refine c_X10_needF hG hP (by omega) (e := tk_p tx n (1)) (by rw [pm_u_eq, pm_up_eq]) (by omega) ?_
    refine pw_pop dX10_read_261 rfl ?_
    refine pw_aload_n dX10_read_262 rfl ?_
    refine pw_getI fX10_197 dX10_read_263 (sh_lt hG (by decide)) (sh_tg hG 45 rfl) rfl ?_
    refine pw_ti (z := nI (tk_p tx n (1))) (by rw [pm_u_eq, pm_up_eq]) ?_
    exact pw_iret dX10_read_266 rfl (k0 (1) _ _ ((Option.some.inj hr).symm) (((hR1.trans (fq.rd (fq.put (T := 0) (by decide) (by decide)))).trans (fq.rd (fq.put (T := 0) (by decide) (by decide)))).trans (fq.rd (fq.put (T := 0) (by decide) (by decide)))))
set_option maxRecDepth 20000 in
set_option maxHeartbeats 4000000 in
theorem c_X10_read {l : Launch} {E : pmE} {S : pmS} {P : pmP} {d : Nat} {Q : Option Value → pmS → pmI → pmJ → pmP → Prop} {I : pmI} {J : pmJ} (hG : sh_St S) (hP : gr_St P) (hd : 10 ≤ d) {tx : Nat → Nat} {n kp : Nat} (hT : tX I 48 tx n) (hsz : I 47 2 = nI n) (hn9 : n ≤ 120) (hb : ∀ j, j < n → tx j < 128) (hkp : I 47 10 = nI kp ∧ kp ≤ 39) {f : Nat} {r : Except Nat (Nat × Int64 × List Int64 × List dD)} (hr : rd (tk_k tx n) (tk_p tx n) (tk_v tx n) f = some r) (k1 : ∀ form dec pa L i I' J', r = .ok (form, dec, pa, L) → rdN tx n i kp I' J' form dec pa L → frd kp I I' J J' → Q (some (.int (-1))) S I' J' P) (k0 : ∀ e I' J', r = .error e → frd kp I I' J J' → Q (some (.int (nI (tk_p tx n e)))) S I' J' P) : pm_Met l E yX10_read cX10_read 3 (some .int) d 0 0 [.ref 47] S I J P Q := by
  unfold pm_Met
  refine pm_lvs (lv' := [(0, _)]) rfl ?_
  unfold rd at hr
  refine pw_aload_n dX10_read_0 rfl ?_
  refine pw_callV (as := []) (kc' := 0) (ks' := 0) lX10_263 dX10_read_1 rfl rfl (sh_lt hG (by decide)) (sh_tg hG 45 rfl) (Nat.le_of_ble_eq_true rfl) (by omega) (Nat.le_of_ble_eq_true rfl) (Nat.zero_le _) (Nat.zero_le _) ?_
  refine c_X10_cut hG hP hT hsz hn9 hb (by omega) (fun i I0 J0 hC hf0 => ?_)
  have hkp0 : I0 47 10 = nI kp ∧ kp ≤ 39 := ⟨by rw [hf0.2.1 10 (by decide)]; exact hkp.1, hkp.2⟩
  have hk39 := hkp.2
  obtain ⟨T, hs⟩ := rd_qs hC hkp0
  have hkc := (rk_c (tk_k_c (tx := tx) (n := n) (i := 0) hb).1)
  have hR0 : frd kp I (pm_u (pm_u (pm_u (pm_u (pm_u (pm_u I0 47 40 (nI 0)) 47 41 (-1)) 47 42 (nI 0)) 47 43 (nI 0)) 57 kp (nI 0)) 60 kp (-5)) J J0 := (((((hf0.rd.trans (fq.rd (fq.put (T := 0) (k := 40) (x := nI 0) (by decide) (by decide)))).trans (fq.rd (fq.put (T := 0) (k := 41) (x := -1) (by decide) (by decide)))).trans (fq.rd (fq.put (T := 0) (k := 42) (x := nI 0) (by decide) (by decide)))).trans (fq.rd (fq.put (T := 0) (k := 43) (x := nI 0) (by decide) (by decide)))).trans (frd.put (by omega))).trans (frd.put (by omega))
  refine pw_aload_n dX10_read_4 rfl ?_
  refine pw_iconst (v := nI 0) dX10_read_5 (by decide) ?_
  refine pw_putI fX10_194 dX10_read_6 (Or.inl rfl) (by decide) (sh_lt hG (by decide)) (sh_tg hG 45 rfl) rfl ?_
  refine pw_aload_n dX10_read_9 rfl ?_
  refine pw_iconst (v := -1) dX10_read_10 (by decide) ?_
  refine pw_putI fX10_197 dX10_read_11 (Or.inl rfl) (by decide) (sh_lt hG (by decide)) (sh_tg hG 45 rfl) rfl ?_
  refine pw_aload_n dX10_read_14 rfl ?_
  refine pw_iconst (v := nI 0) dX10_read_15 (by decide) ?_
  refine pw_putI fX10_210 dX10_read_16 (Or.inl rfl) (by decide) (sh_lt hG (by decide)) (sh_tg hG 45 rfl) rfl ?_
  refine pw_aload_n dX10_read_19 rfl ?_
  refine pw_iconst (v := nI 0) dX10_read_20 (by decide) ?_
  refine pw_putI fX10_223 dX10_read_21 (Or.inl rfl) (by decide) (sh_lt hG (by decide)) (sh_tg hG 45 rfl) rfl ?_
  refine pw_aload_n dX10_read_24 rfl ?_
  refine pw_getR fX10_38 dX10_read_25 (sh_lt hG (by decide)) (sh_tg hG 45 rfl) rfl (gr_at hP 49 rfl) ?_
  refine pw_aload_n dX10_read_28 rfl ?_
  refine pw_getI fX10_220 dX10_read_29 (sh_lt hG (by decide)) (sh_tg hG 45 rfl) rfl ?_
  refine pw_iconst (v := nI 0) dX10_read_32 (by decide) ?_
  refine pw_iastN kp dX10_read_33 (by decide) (sh_lt hG (by decide)) (sh_sh hG 55 rfl) (by decide) (by (repeat (first | rw [pm_u_ne (by decide)] | rw [pm_u_eq, pm_up_ne (by decide)])); exact hkp0.1) (by omega) ?_
  refine pw_aload_n dX10_read_34 rfl ?_
  refine pw_getR fX10_47 dX10_read_35 (sh_lt hG (by decide)) (sh_tg hG 45 rfl) rfl (gr_at hP 52 rfl) ?_
  refine pw_aload_n dX10_read_38 rfl ?_
  refine pw_getI fX10_220 dX10_read_39 (sh_lt hG (by decide)) (sh_tg hG 45 rfl) rfl ?_
  refine pw_bipush (v := -5) dX10_read_42 (by decide) ?_
  refine pw_iastN kp dX10_read_44 (by decide) (sh_lt hG (by decide)) (sh_sh hG 58 rfl) (by decide) (by (repeat (first | rw [pm_u_ne (by decide)] | rw [pm_u_eq, pm_up_ne (by decide)])); exact hkp0.1) (by omega) ?_
  refine pw_aload_n dX10_read_45 rfl ?_
  refine pw_callV (as := []) (kc' := 0) (ks' := 0) lX10_200 dX10_read_46 rfl rfl (sh_lt hG (by decide)) (sh_tg hG 45 rfl) (Nat.le_of_ble_eq_true rfl) (by omega) (Nat.le_of_ble_eq_true rfl) (Nat.zero_le _) (Nat.zero_le _) ?_
  refine c_X10_tok hG hP hs ?_
  by_cases h118 : tk_k tx n 0 = 118
  · rw [if_pos h118] at hr
    have hR := hR0.trans (frd.put (b := 55) (x := nI 1) (J := J0) (by omega))
    have hs' := hs.ot (b := 55) (j := kp) (by omega) (nI 1)
    refine pw_ti (z := nI 4) (by rw [h118]; rfl) ?_
    refine pw_istore_n (lv' := [(1, _), (0, _)]) dX10_read_49 (by decide) rfl ?_
    refine pw_aload_n dX10_read_50 rfl ?_
    refine pw_getR fX10_32 dX10_read_51 (sh_lt hG (by decide)) (sh_tg hG 45 rfl) rfl (gr_at hP 47 rfl) ?_
    refine pw_aload_n dX10_read_54 rfl ?_
    refine pw_getI fX10_220 dX10_read_55 (sh_lt hG (by decide)) (sh_tg hG 45 rfl) rfl ?_
    refine pw_iload_n dX10_read_58 rfl ?_
    refine pw_iconst (v := nI 4) dX10_read_59 (by decide) ?_
    refine pw_icmp_ne (tgt := 67) dX10_read_60 (by decide) (fun h => absurd (by decide) h) (fun h60 => ?_)
    refine pw_iconst (v := nI 1) dX10_read_63 (by decide) ?_
    refine pw_goto (tgt := 87) dX10_read_64 (by decide) ?_
    refine pw_iastN kp dX10_read_87 (by decide) (sh_lt hG (by decide)) (sh_sh hG 53 rfl) (by decide) (by (repeat (first | rw [pm_u_ne (by decide)] | rw [pm_u_eq, pm_up_ne (by decide)])); exact hkp0.1) (by omega) ?_
    refine pw_sub [0, 1] rfl ?_
    exact rr_V (f := f) hG hP hb hn9 (by omega) hs' (by rw [pm_u_ne (by decide), pm_u_eq, pm_up_eq]) (by rw [pm_u_ne (by decide), pm_u_ne (by decide), pm_u_eq, pm_up_eq]) (by rw [pm_u_eq, pm_up_eq]) h118 hr (fun form dec pa L I' J' h1 h2 h3 => k1 form dec pa L i I' J' h1 h2 (hR.trans h3)) (fun e I' J' h1 h2 => k0 e I' J' h1 (hR.trans h2))
  · rw [if_neg h118] at hr
    by_cases h100 : tk_k tx n 0 = 100
    · rw [if_pos h100] at hr
      have hR := hR0.trans (frd.put (b := 55) (x := nI 2) (J := J0) (by omega))
      have hs' := hs.ot (b := 55) (j := kp) (by omega) (nI 2)
      refine pw_ti (z := nI 5) (by rw [h100]; rfl) ?_
      refine pw_istore_n (lv' := [(1, _), (0, _)]) dX10_read_49 (by decide) rfl ?_
      refine pw_aload_n dX10_read_50 rfl ?_
      refine pw_getR fX10_32 dX10_read_51 (sh_lt hG (by decide)) (sh_tg hG 45 rfl) rfl (gr_at hP 47 rfl) ?_
      refine pw_aload_n dX10_read_54 rfl ?_
      refine pw_getI fX10_220 dX10_read_55 (sh_lt hG (by decide)) (sh_tg hG 45 rfl) rfl ?_
      refine pw_iload_n dX10_read_58 rfl ?_
      refine pw_iconst (v := nI 4) dX10_read_59 (by decide) ?_
      refine pw_icmp_ne (tgt := 67) dX10_read_60 (by decide) (fun h60 => ?_) (fun h => absurd h (by decide))
      refine pw_iload_n dX10_read_67 rfl ?_
      refine pw_iconst (v := nI 5) dX10_read_68 (by decide) ?_
      refine pw_icmp_ne (tgt := 76) dX10_read_69 (by decide) (fun h => absurd (by decide) h) (fun h69 => ?_)
      refine pw_iconst (v := nI 2) dX10_read_72 (by decide) ?_
      refine pw_goto (tgt := 87) dX10_read_73 (by decide) ?_
      refine pw_iastN kp dX10_read_87 (by decide) (sh_lt hG (by decide)) (sh_sh hG 53 rfl) (by decide) (by (repeat (first | rw [pm_u_ne (by decide)] | rw [pm_u_eq, pm_up_ne (by decide)])); exact hkp0.1) (by omega) ?_
      refine pw_sub [0, 1] rfl ?_
      exact rr_D (f := f) hG hP hb hn9 (by omega) hs' (by rw [pm_u_ne (by decide), pm_u_eq, pm_up_eq]) (by rw [pm_u_ne (by decide), pm_u_ne (by decide), pm_u_eq, pm_up_eq]) (by rw [pm_u_eq, pm_up_eq]) h100 hr (fun form dec pa L I' J' h1 h2 h3 => k1 form dec pa L i I' J' h1 h2 (hR.trans h3)) (fun e I' J' h1 h2 => k0 e I' J' h1 (hR.trans h2))
    · rw [if_neg h100] at hr
      by_cases h116 : tk_k tx n 0 = 116
      · rw [if_pos h116] at hr
        have hR := hR0.trans (frd.put (b := 55) (x := nI 3) (J := J0) (by omega))
        have hs' := hs.ot (b := 55) (j := kp) (by omega) (nI 3)
        refine pw_ti (z := nI 6) (by rw [h116]; rfl) ?_
        refine pw_istore_n (lv' := [(1, _), (0, _)]) dX10_read_49 (by decide) rfl ?_
        refine pw_aload_n dX10_read_50 rfl ?_
        refine pw_getR fX10_32 dX10_read_51 (sh_lt hG (by decide)) (sh_tg hG 45 rfl) rfl (gr_at hP 47 rfl) ?_
        refine pw_aload_n dX10_read_54 rfl ?_
        refine pw_getI fX10_220 dX10_read_55 (sh_lt hG (by decide)) (sh_tg hG 45 rfl) rfl ?_
        refine pw_iload_n dX10_read_58 rfl ?_
        refine pw_iconst (v := nI 4) dX10_read_59 (by decide) ?_
        refine pw_icmp_ne (tgt := 67) dX10_read_60 (by decide) (fun h60 => ?_) (fun h => absurd h (by decide))
        refine pw_iload_n dX10_read_67 rfl ?_
        refine pw_iconst (v := nI 5) dX10_read_68 (by decide) ?_
        refine pw_icmp_ne (tgt := 76) dX10_read_69 (by decide) (fun h69 => ?_) (fun h => absurd h (by decide))
        refine pw_iload_n dX10_read_76 rfl ?_
        refine pw_bipush (v := nI 6) dX10_read_77 (by decide) ?_
        refine pw_icmp_ne (tgt := 86) dX10_read_79 (by decide) (fun h => absurd (by decide) h) (fun h79 => ?_)
        refine pw_iconst (v := nI 3) dX10_read_82 (by decide) ?_
        refine pw_goto (tgt := 87) dX10_read_83 (by decide) ?_
        refine pw_iastN kp dX10_read_87 (by decide) (sh_lt hG (by decide)) (sh_sh hG 53 rfl) (by decide) (by (repeat (first | rw [pm_u_ne (by decide)] | rw [pm_u_eq, pm_up_ne (by decide)])); exact hkp0.1) (by omega) ?_
        refine pw_sub [0, 1] rfl ?_
        exact rr_T (f := f) hG hP hb hn9 (by omega) hs' (by rw [pm_u_ne (by decide), pm_u_eq, pm_up_eq]) (by rw [pm_u_ne (by decide), pm_u_ne (by decide), pm_u_eq, pm_up_eq]) (by rw [pm_u_eq, pm_up_eq]) h116 hr (fun form dec pa L I' J' h1 h2 h3 => k1 form dec pa L i I' J' h1 h2 (hR.trans h3)) (fun e I' J' h1 h2 => k0 e I' J' h1 (hR.trans h2))
      · rw [if_neg h116] at hr
        have hR := hR0.trans (frd.put (b := 55) (x := nI 0) (J := J0) (by omega))
        have hs' := hs.ot (b := 55) (j := kp) (by omega) (nI 0)
        refine pw_istore_n (lv' := [(1, _), (0, _)]) dX10_read_49 (by decide) rfl ?_
        refine pw_aload_n dX10_read_50 rfl ?_
        refine pw_getR fX10_32 dX10_read_51 (sh_lt hG (by decide)) (sh_tg hG 45 rfl) rfl (gr_at hP 47 rfl) ?_
        refine pw_aload_n dX10_read_54 rfl ?_
        refine pw_getI fX10_220 dX10_read_55 (sh_lt hG (by decide)) (sh_tg hG 45 rfl) rfl ?_
        refine pw_iload_n dX10_read_58 rfl ?_
        refine pw_iconst (v := nI 4) dX10_read_59 (by decide) ?_
        refine pw_icmpN_ne _ _ (tgt := 67) dX10_read_60 (by decide) (rfl) (rfl) (by omega) (by omega) (fun h60 => ?_) (fun h60 => absurd h60 (fun q => h118 ((rq118 hb).mp q)))
        refine pw_iload_n dX10_read_67 rfl ?_
        refine pw_iconst (v := nI 5) dX10_read_68 (by decide) ?_
        refine pw_icmpN_ne _ _ (tgt := 76) dX10_read_69 (by decide) (rfl) (rfl) (by omega) (by omega) (fun h69 => ?_) (fun h69 => absurd h69 (fun q => h100 ((rq100 hb).mp q)))
        refine pw_iload_n dX10_read_76 rfl ?_
        refine pw_bipush (v := nI 6) dX10_read_77 (by decide) ?_
        refine pw_icmpN_ne _ _ (tgt := 86) dX10_read_79 (by decide) (rfl) (rfl) (by omega) (by omega) (fun h79 => ?_) (fun h79 => absurd h79 (fun q => h116 ((rq116 hb).mp q)))
        refine pw_iconst (v := nI 0) dX10_read_86 (by decide) ?_
        refine pw_iastN kp dX10_read_87 (by decide) (sh_lt hG (by decide)) (sh_sh hG 53 rfl) (by decide) (by (repeat (first | rw [pm_u_ne (by decide)] | rw [pm_u_eq, pm_up_ne (by decide)])); exact hkp0.1) (by omega) ?_
        refine pw_sub [0, 1] rfl ?_
        exact rr_A (f := f) hG hP hb hn9 (by omega) hs' (by rw [pm_u_ne (by decide), pm_u_eq, pm_up_eq]) (by rw [pm_u_ne (by decide), pm_u_ne (by decide), pm_u_eq, pm_up_eq]) (by rw [pm_u_eq, pm_up_eq]) hr (fun form dec pa L I' J' h1 h2 h3 => k1 form dec pa L i I' J' h1 h2 (hR.trans h3)) (fun e I' J' h1 h2 => k0 e I' J' h1 (hR.trans h2))
