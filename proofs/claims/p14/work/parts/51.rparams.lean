set_option maxRecDepth 20000 in
set_option maxHeartbeats 4000000 in
theorem rp_lp {l : Launch} {E : pmE} {S : pmS} {P : pmP} {tx : Nat → Nat} {n i kp d : Nat} {Q : Option Value → pmS → pmI → pmJ → pmP → Prop} (hG : sh_St S) (hP : gr_St P) (hb : ∀ j, j < n → tx j < 128) (hn9 : n ≤ 120) (hd : 4 ≤ d) {T m : Nat} {J : pmJ} {z1 : Int32} : ∀ (f a : Nat) (pa : List Int64) (I : pmI), qs tx n i kp I J a 1 T m → pT tx n i I pa → pa.length + f + 1 = 3 → pK tx n i kp Q S P I J T m (rp (tk_k tx n) (tk_v tx n) (f + 1) a pa) → pm_W l E yX10_readParams cX10_readParams 5 none d 0 0 47 [(3, .int (nI 1)), (2, .int (nI pa.length)), (0, .ref 47), (1, .int z1)] [] S I J P (pm_N E Q)
  | 0, a, pa, I, hs, hpT, h3, k => by
    have hkp := hs.2.1
    have hi6 := hs.1.2.1
    have hai := hs.2.2.1.2
    have hma := hs.2.2.2.2.2.2.1.2
    have hkc := (rk_c (tk_k_c (tx := tx) (n := n) (i := a) hb).1)
    have hple := tk_p_le (tx := tx) (n := n) a
    rw [rp] at k
    by_cases h97 : tk_k tx n a = 97
    · have hal := hs.lt (by rw [h97]; decide) (by rw [h97]; decide)
      refine pw_iload_n dX10_readParams_47 rfl ?_
      refine pw_if_eq (tgt := 176) dX10_readParams_48 (by decide) (fun h => absurd h (by decide)) (fun h48 => ?_)
      refine pw_aload_n dX10_readParams_51 rfl ?_
      refine pw_getI fX10_197 dX10_readParams_52 (sh_lt hG (by decide)) (sh_tg hG 45 rfl) rfl ?_
      refine pw_if_ge (tgt := 176) dX10_readParams_55 (by decide) (fun h => absurd h (by rw [hs.2.2.2.1]; decide)) (fun h55 => ?_)
      refine pw_aload_n dX10_readParams_58 rfl ?_
      refine pw_callV (as := []) (kc' := 0) (ks' := 0) lX10_200 dX10_readParams_59 rfl rfl (sh_lt hG (by decide)) (sh_tg hG 45 rfl) (Nat.le_of_ble_eq_true rfl) (by omega) (Nat.le_of_ble_eq_true rfl) (Nat.zero_le _) (Nat.zero_le _) ?_
      refine c_X10_tok hG hP hs ?_
      refine pw_ti (z := nI 1) (by rw [h97]; rfl) ?_
      refine pw_iconst (v := nI 1) dX10_readParams_62 (by decide) ?_
      refine pw_icmp_eq (tgt := 70) dX10_readParams_63 (by decide) (fun h63 => ?_) (fun h => absurd (by decide) h)
      refine pw_iconst (v := nI 0) dX10_readParams_70 (by decide) ?_
      refine pw_istore (lv' := [(4, _), (3, _), (2, _), (0, _), (1, _)]) dX10_readParams_71 (by decide) rfl ?_
      refine pw_sub [0, 1, 2, 3, 4] rfl ?_
      refine rp_in hG hP hb hn9 hd hs hal hpT pa 0 rfl (by omega) (fun hn j' => ?_) (fun hn j' => ?_)
      · rw [if_pos ⟨h97, hn⟩] at k
        have hs2 := (hs.ot (b := 86) (j := pa.length) (by omega) (nI a)).at' (b := a + 1) (by omega) (by omega)
        have hpT2 := (hpT.app (by omega) hal h97).mv (I' := pm_u (pm_u I 86 pa.length (nI a)) 47 40 (nI (a + 1))) (pm_u_ne (by decide))
        have hf2 : fp kp I (pm_u (pm_u I 86 pa.length (nI a)) 47 40 (nI (a + 1))) := fp.tok.trans (fp.put (by decide) (by decide))
        have hkc2 := (rk_c (tk_k_c (tx := tx) (n := n) (i := a + 1) hb).1)
        have hlen : nI pa.length + Int32.ofInt 1 = nI (pa ++ [tk_v tx n a]).length := by rw [List.length_append]; exact nI_1 _
        by_cases hcm : tk_k tx n (a + 1) = 44
        · have hal2 := hs2.lt (by rw [hcm]; decide) (by rw [hcm]; decide)
          refine pw_aload_n dX10_readParams_121 rfl ?_
          refine pw_getI fX10_197 dX10_readParams_122 (sh_lt hG (by decide)) (sh_tg hG 45 rfl) rfl ?_
          refine pw_if_ge (tgt := 47) dX10_readParams_125 (by decide) (fun h => absurd h (by rw [hs.2.2.2.1]; decide)) (fun h125 => ?_)
          refine pw_aload_n dX10_readParams_128 rfl ?_
          refine pw_getR fX10_126 dX10_readParams_129 (sh_lt hG (by decide)) (sh_tg hG 45 rfl) rfl (gr_at hP 78 rfl) ?_
          refine pw_iload_n dX10_readParams_132 rfl ?_
          refine pw_aload_n dX10_readParams_133 rfl ?_
          refine pw_getI fX10_194 dX10_readParams_134 (sh_lt hG (by decide)) (sh_tg hG 45 rfl) rfl ?_
          refine pw_ti (z := nI a) hs.2.2.1.1 ?_
          refine pw_iastN pa.length dX10_readParams_137 (by decide) (sh_lt hG (by decide)) (sh_sh hG 84 rfl) (by decide) (rfl) (by omega) ?_
          refine pw_iinc (lv' := [(2, _), (4, _), (3, _), (0, _), (1, _)]) dX10_readParams_138 rfl (by decide) rfl ?_
          refine pw_aload_n dX10_readParams_141 rfl ?_
          refine pw_callV (as := []) (kc' := 0) (ks' := 0) lX10_207 dX10_readParams_142 rfl rfl (sh_lt hG (by decide)) (sh_tg hG 45 rfl) (Nat.le_of_ble_eq_true rfl) (by omega) (Nat.le_of_ble_eq_true rfl) (Nat.zero_le _) (Nat.zero_le _) ?_
          refine c_X10_next (a := a) hG hP (by rw [pm_u_ne (by decide)]; exact hs.2.2.1.1) ?_
          refine pw_aload_n dX10_readParams_145 rfl ?_
          refine pw_callV (as := []) (kc' := 0) (ks' := 0) lX10_200 dX10_readParams_146 rfl rfl (sh_lt hG (by decide)) (sh_tg hG 45 rfl) (Nat.le_of_ble_eq_true rfl) (by omega) (Nat.le_of_ble_eq_true rfl) (Nat.zero_le _) (Nat.zero_le _) ?_
          refine c_X10_tok hG hP hs2 ?_
          refine pw_ti (z := nI 44) (by rw [hcm]; rfl) ?_
          refine pw_bipush (v := nI 44) dX10_readParams_149 (by decide) ?_
          refine pw_icmp_ne (tgt := 163) dX10_readParams_151 (by decide) (fun h => absurd (by decide) h) (fun h151 => ?_)
          refine pw_iload_n dX10_readParams_154 rfl ?_
          refine pw_iconst (v := nI 3) dX10_readParams_155 (by decide) ?_
          refine pw_icmpN_ge _ _ (tgt := 163) dX10_readParams_156 (by decide) (nI_1 _) (rfl) (by omega) (by omega) (fun h156 => ?_) (fun h156 => ?_)
          · refine pw_iconst (v := nI 0) dX10_readParams_163 (by decide) ?_
            refine pw_istore_n (lv' := [(3, _), (2, _), (4, _), (0, _), (1, _)]) dX10_readParams_164 (by decide) rfl ?_
            refine pw_iload_n dX10_readParams_165 rfl ?_
            refine pw_if_eq (tgt := 47) dX10_readParams_166 (by decide) (fun h166 => ?_) (fun h => absurd (by decide) h)
            refine pw_iload_n dX10_readParams_47 rfl ?_
            refine pw_if_eq (tgt := 176) dX10_readParams_48 (by decide) (fun h48 => ?_) (fun h => absurd (by decide) h)
            refine pw_sub [0, 1, 3, 4] rfl ?_
            rw [if_neg (fun q => absurd q.2 (by omega))] at k
            rw [hlen]
            exact rp_end hG hP hb hn9 hd hs2 hpT2 (k.mv hf2)
          · refine pw_iconst (v := nI 1) dX10_readParams_159 (by decide) ?_
            refine pw_goto (tgt := 164) dX10_readParams_160 (by decide) ?_
            refine pw_istore_n (lv' := [(3, _), (2, _), (4, _), (0, _), (1, _)]) dX10_readParams_164 (by decide) rfl ?_
            refine pw_iload_n dX10_readParams_165 rfl ?_
            refine pw_if_eq (tgt := 47) dX10_readParams_166 (by decide) (fun h => absurd h (by decide)) (fun h166 => ?_)
            refine pw_aload_n dX10_readParams_169 rfl ?_
            refine pw_callV (as := []) (kc' := 0) (ks' := 0) lX10_207 dX10_readParams_170 rfl rfl (sh_lt hG (by decide)) (sh_tg hG 45 rfl) (Nat.le_of_ble_eq_true rfl) (by omega) (Nat.le_of_ble_eq_true rfl) (Nat.zero_le _) (Nat.zero_le _) ?_
            refine c_X10_next (a := a + 1) hG hP hs2.2.2.1.1 ?_
            refine pw_goto (tgt := 47) dX10_readParams_173 (by decide) ?_
            refine pw_sub [0, 1, 3, 4] rfl ?_
            exact absurd h156 (by omega)
        · refine pw_aload_n dX10_readParams_121 rfl ?_
          refine pw_getI fX10_197 dX10_readParams_122 (sh_lt hG (by decide)) (sh_tg hG 45 rfl) rfl ?_
          refine pw_if_ge (tgt := 47) dX10_readParams_125 (by decide) (fun h => absurd h (by rw [hs.2.2.2.1]; decide)) (fun h125 => ?_)
          refine pw_aload_n dX10_readParams_128 rfl ?_
          refine pw_getR fX10_126 dX10_readParams_129 (sh_lt hG (by decide)) (sh_tg hG 45 rfl) rfl (gr_at hP 78 rfl) ?_
          refine pw_iload_n dX10_readParams_132 rfl ?_
          refine pw_aload_n dX10_readParams_133 rfl ?_
          refine pw_getI fX10_194 dX10_readParams_134 (sh_lt hG (by decide)) (sh_tg hG 45 rfl) rfl ?_
          refine pw_ti (z := nI a) hs.2.2.1.1 ?_
          refine pw_iastN pa.length dX10_readParams_137 (by decide) (sh_lt hG (by decide)) (sh_sh hG 84 rfl) (by decide) (rfl) (by omega) ?_
          refine pw_iinc (lv' := [(2, _), (4, _), (3, _), (0, _), (1, _)]) dX10_readParams_138 rfl (by decide) rfl ?_
          refine pw_aload_n dX10_readParams_141 rfl ?_
          refine pw_callV (as := []) (kc' := 0) (ks' := 0) lX10_207 dX10_readParams_142 rfl rfl (sh_lt hG (by decide)) (sh_tg hG 45 rfl) (Nat.le_of_ble_eq_true rfl) (by omega) (Nat.le_of_ble_eq_true rfl) (Nat.zero_le _) (Nat.zero_le _) ?_
          refine c_X10_next (a := a) hG hP (by rw [pm_u_ne (by decide)]; exact hs.2.2.1.1) ?_
          refine pw_aload_n dX10_readParams_145 rfl ?_
          refine pw_callV (as := []) (kc' := 0) (ks' := 0) lX10_200 dX10_readParams_146 rfl rfl (sh_lt hG (by decide)) (sh_tg hG 45 rfl) (Nat.le_of_ble_eq_true rfl) (by omega) (Nat.le_of_ble_eq_true rfl) (Nat.zero_le _) (Nat.zero_le _) ?_
          refine c_X10_tok hG hP hs2 ?_
          refine pw_bipush (v := nI 44) dX10_readParams_149 (by decide) ?_
          refine pw_icmpN_ne _ _ (tgt := 163) dX10_readParams_151 (by decide) (rfl) (rfl) (by omega) (by omega) (fun h151 => ?_) (fun h151 => absurd h151 (fun q => hcm ((rq44 hb).mp q)))
          refine pw_iconst (v := nI 0) dX10_readParams_163 (by decide) ?_
          refine pw_istore_n (lv' := [(3, _), (2, _), (4, _), (0, _), (1, _)]) dX10_readParams_164 (by decide) rfl ?_
          refine pw_iload_n dX10_readParams_165 rfl ?_
          refine pw_if_eq (tgt := 47) dX10_readParams_166 (by decide) (fun h166 => ?_) (fun h => absurd (by decide) h)
          refine pw_iload_n dX10_readParams_47 rfl ?_
          refine pw_if_eq (tgt := 176) dX10_readParams_48 (by decide) (fun h48 => ?_) (fun h => absurd (by decide) h)
          refine pw_sub [0, 1, 3, 4] rfl ?_
          rw [if_neg (fun q => hcm q.1)] at k
          rw [hlen]
          exact rp_end hG hP hb hn9 hd hs2 hpT2 (k.mv hf2)
      · rw [if_neg (fun q => hn q.2)] at k
        refine pw_aload_n dX10_readParams_121 rfl ?_
        refine pw_getI fX10_197 dX10_readParams_122 (sh_lt hG (by decide)) (sh_tg hG 45 rfl) rfl ?_
        refine pw_ti (z := nI (tk_p tx n a)) (by rw [pm_u_eq, pm_up_eq]) ?_
        refine pw_if_ge (tgt := 47) dX10_readParams_125 (by decide) (fun h125 => ?_) (fun h => absurd (nI_pos' (by omega)) h)
        refine pw_sub [1, 2, 3, 4] rfl ?_
        exact rp_endF hG hP hb hn9 hd (by rw [pm_u_eq, pm_up_ne (by decide)]; exact hkp) (by rw [pm_u_eq, pm_up_eq]) (k.mv (fp.put (by decide) (by decide)))
    · rw [if_neg (fun q => h97 q.1)] at k
      refine pw_iload_n dX10_readParams_47 rfl ?_
      refine pw_if_eq (tgt := 176) dX10_readParams_48 (by decide) (fun h => absurd h (by decide)) (fun h48 => ?_)
      refine pw_aload_n dX10_readParams_51 rfl ?_
      refine pw_getI fX10_197 dX10_readParams_52 (sh_lt hG (by decide)) (sh_tg hG 45 rfl) rfl ?_
      refine pw_if_ge (tgt := 176) dX10_readParams_55 (by decide) (fun h => absurd h (by rw [hs.2.2.2.1]; decide)) (fun h55 => ?_)
      refine pw_aload_n dX10_readParams_58 rfl ?_
      refine pw_callV (as := []) (kc' := 0) (ks' := 0) lX10_200 dX10_readParams_59 rfl rfl (sh_lt hG (by decide)) (sh_tg hG 45 rfl) (Nat.le_of_ble_eq_true rfl) (by omega) (Nat.le_of_ble_eq_true rfl) (Nat.zero_le _) (Nat.zero_le _) ?_
      refine c_X10_tok hG hP hs ?_
      refine pw_iconst (v := nI 1) dX10_readParams_62 (by decide) ?_
      refine pw_icmpN_eq _ _ (tgt := 70) dX10_readParams_63 (by decide) (rfl) (rfl) (by omega) (by omega) (fun h63 => absurd h63 (fun q => h97 ((rq97 hb).mp q))) (fun h63 => ?_)
      refine pw_aload_n dX10_readParams_66 rfl ?_
      refine pw_callV (as := []) (kc' := 0) (ks' := 0) lX10_204 dX10_readParams_67 rfl rfl (sh_lt hG (by decide)) (sh_tg hG 45 rfl) (Nat.le_of_ble_eq_true rfl) (by omega) (Nat.le_of_ble_eq_true rfl) (Nat.zero_le _) (Nat.zero_le _) ?_
      refine c_X10_wrong hG hP hs ?_
      refine pw_iconst (v := nI 0) dX10_readParams_70 (by decide) ?_
      refine pw_istore (lv' := [(4, _), (3, _), (2, _), (0, _), (1, _)]) dX10_readParams_71 (by decide) rfl ?_
      refine pw_iload dX10_readParams_73 rfl ?_
      refine pw_iload_n dX10_readParams_75 rfl ?_
      refine pw_icmp_ge (tgt := 121) dX10_readParams_76 (by decide) (fun h76 => ?_) (fun h76 => ?_)
      · refine pw_aload_n dX10_readParams_121 rfl ?_
        refine pw_getI fX10_197 dX10_readParams_122 (sh_lt hG (by decide)) (sh_tg hG 45 rfl) rfl ?_
        refine pw_ti (z := nI (tk_p tx n a)) (by rw [pm_u_eq, pm_up_eq]) ?_
        refine pw_if_ge (tgt := 47) dX10_readParams_125 (by decide) (fun h125 => ?_) (fun h => absurd (nI_pos' (by omega)) h)
        refine pw_sub [1, 2, 3, 4] rfl ?_
        exact rp_endF hG hP hb hn9 hd (by rw [pm_u_eq, pm_up_ne (by decide)]; exact hkp) (by rw [pm_u_eq, pm_up_eq]) (k.mv (fp.put (by decide) (by decide)))
      · refine pw_aload_n dX10_readParams_79 rfl ?_
        refine pw_getI fX10_197 dX10_readParams_80 (sh_lt hG (by decide)) (sh_tg hG 45 rfl) rfl ?_
        refine pw_ti (z := nI (tk_p tx n a)) (by rw [pm_u_eq, pm_up_eq]) ?_
        refine pw_if_ge (tgt := 121) dX10_readParams_83 (by decide) (fun h83 => ?_) (fun h => absurd (nI_pos' (by omega)) h)
        refine pw_aload_n dX10_readParams_121 rfl ?_
        refine pw_getI fX10_197 dX10_readParams_122 (sh_lt hG (by decide)) (sh_tg hG 45 rfl) rfl ?_
        refine pw_ti (z := nI (tk_p tx n a)) (by rw [pm_u_eq, pm_up_eq]) ?_
        refine pw_if_ge (tgt := 47) dX10_readParams_125 (by decide) (fun h125 => ?_) (fun h => absurd (nI_pos' (by omega)) h)
        refine pw_sub [1, 2, 3, 4] rfl ?_
        exact rp_endF hG hP hb hn9 hd (by rw [pm_u_eq, pm_up_ne (by decide)]; exact hkp) (by rw [pm_u_eq, pm_up_eq]) (k.mv (fp.put (by decide) (by decide)))
  | f + 1, a, pa, I, hs, hpT, h3, k => by
    have hkp := hs.2.1
    have hi6 := hs.1.2.1
    have hai := hs.2.2.1.2
    have hma := hs.2.2.2.2.2.2.1.2
    have hkc := (rk_c (tk_k_c (tx := tx) (n := n) (i := a) hb).1)
    have hple := tk_p_le (tx := tx) (n := n) a
    rw [rp] at k
    by_cases h97 : tk_k tx n a = 97
    · have hal := hs.lt (by rw [h97]; decide) (by rw [h97]; decide)
      refine pw_iload_n dX10_readParams_47 rfl ?_
      refine pw_if_eq (tgt := 176) dX10_readParams_48 (by decide) (fun h => absurd h (by decide)) (fun h48 => ?_)
      refine pw_aload_n dX10_readParams_51 rfl ?_
      refine pw_getI fX10_197 dX10_readParams_52 (sh_lt hG (by decide)) (sh_tg hG 45 rfl) rfl ?_
      refine pw_if_ge (tgt := 176) dX10_readParams_55 (by decide) (fun h => absurd h (by rw [hs.2.2.2.1]; decide)) (fun h55 => ?_)
      refine pw_aload_n dX10_readParams_58 rfl ?_
      refine pw_callV (as := []) (kc' := 0) (ks' := 0) lX10_200 dX10_readParams_59 rfl rfl (sh_lt hG (by decide)) (sh_tg hG 45 rfl) (Nat.le_of_ble_eq_true rfl) (by omega) (Nat.le_of_ble_eq_true rfl) (Nat.zero_le _) (Nat.zero_le _) ?_
      refine c_X10_tok hG hP hs ?_
      refine pw_ti (z := nI 1) (by rw [h97]; rfl) ?_
      refine pw_iconst (v := nI 1) dX10_readParams_62 (by decide) ?_
      refine pw_icmp_eq (tgt := 70) dX10_readParams_63 (by decide) (fun h63 => ?_) (fun h => absurd (by decide) h)
      refine pw_iconst (v := nI 0) dX10_readParams_70 (by decide) ?_
      refine pw_istore (lv' := [(4, _), (3, _), (2, _), (0, _), (1, _)]) dX10_readParams_71 (by decide) rfl ?_
      refine pw_sub [0, 1, 2, 3, 4] rfl ?_
      refine rp_in hG hP hb hn9 hd hs hal hpT pa 0 rfl (by omega) (fun hn j' => ?_) (fun hn j' => ?_)
      · rw [if_pos ⟨h97, hn⟩] at k
        have hs2 := (hs.ot (b := 86) (j := pa.length) (by omega) (nI a)).at' (b := a + 1) (by omega) (by omega)
        have hpT2 := (hpT.app (by omega) hal h97).mv (I' := pm_u (pm_u I 86 pa.length (nI a)) 47 40 (nI (a + 1))) (pm_u_ne (by decide))
        have hf2 : fp kp I (pm_u (pm_u I 86 pa.length (nI a)) 47 40 (nI (a + 1))) := fp.tok.trans (fp.put (by decide) (by decide))
        have hkc2 := (rk_c (tk_k_c (tx := tx) (n := n) (i := a + 1) hb).1)
        have hlen : nI pa.length + Int32.ofInt 1 = nI (pa ++ [tk_v tx n a]).length := by rw [List.length_append]; exact nI_1 _
        by_cases hcm : tk_k tx n (a + 1) = 44
        · have hal2 := hs2.lt (by rw [hcm]; decide) (by rw [hcm]; decide)
          refine pw_aload_n dX10_readParams_121 rfl ?_
          refine pw_getI fX10_197 dX10_readParams_122 (sh_lt hG (by decide)) (sh_tg hG 45 rfl) rfl ?_
          refine pw_if_ge (tgt := 47) dX10_readParams_125 (by decide) (fun h => absurd h (by rw [hs.2.2.2.1]; decide)) (fun h125 => ?_)
          refine pw_aload_n dX10_readParams_128 rfl ?_
          refine pw_getR fX10_126 dX10_readParams_129 (sh_lt hG (by decide)) (sh_tg hG 45 rfl) rfl (gr_at hP 78 rfl) ?_
          refine pw_iload_n dX10_readParams_132 rfl ?_
          refine pw_aload_n dX10_readParams_133 rfl ?_
          refine pw_getI fX10_194 dX10_readParams_134 (sh_lt hG (by decide)) (sh_tg hG 45 rfl) rfl ?_
          refine pw_ti (z := nI a) hs.2.2.1.1 ?_
          refine pw_iastN pa.length dX10_readParams_137 (by decide) (sh_lt hG (by decide)) (sh_sh hG 84 rfl) (by decide) (rfl) (by omega) ?_
          refine pw_iinc (lv' := [(2, _), (4, _), (3, _), (0, _), (1, _)]) dX10_readParams_138 rfl (by decide) rfl ?_
          refine pw_aload_n dX10_readParams_141 rfl ?_
          refine pw_callV (as := []) (kc' := 0) (ks' := 0) lX10_207 dX10_readParams_142 rfl rfl (sh_lt hG (by decide)) (sh_tg hG 45 rfl) (Nat.le_of_ble_eq_true rfl) (by omega) (Nat.le_of_ble_eq_true rfl) (Nat.zero_le _) (Nat.zero_le _) ?_
          refine c_X10_next (a := a) hG hP (by rw [pm_u_ne (by decide)]; exact hs.2.2.1.1) ?_
          refine pw_aload_n dX10_readParams_145 rfl ?_
          refine pw_callV (as := []) (kc' := 0) (ks' := 0) lX10_200 dX10_readParams_146 rfl rfl (sh_lt hG (by decide)) (sh_tg hG 45 rfl) (Nat.le_of_ble_eq_true rfl) (by omega) (Nat.le_of_ble_eq_true rfl) (Nat.zero_le _) (Nat.zero_le _) ?_
          refine c_X10_tok hG hP hs2 ?_
          refine pw_ti (z := nI 44) (by rw [hcm]; rfl) ?_
          refine pw_bipush (v := nI 44) dX10_readParams_149 (by decide) ?_
          refine pw_icmp_ne (tgt := 163) dX10_readParams_151 (by decide) (fun h => absurd (by decide) h) (fun h151 => ?_)
          refine pw_iload_n dX10_readParams_154 rfl ?_
          refine pw_iconst (v := nI 3) dX10_readParams_155 (by decide) ?_
          refine pw_icmpN_ge _ _ (tgt := 163) dX10_readParams_156 (by decide) (nI_1 _) (rfl) (by omega) (by omega) (fun h156 => ?_) (fun h156 => ?_)
          · refine pw_iconst (v := nI 0) dX10_readParams_163 (by decide) ?_
            refine pw_istore_n (lv' := [(3, _), (2, _), (4, _), (0, _), (1, _)]) dX10_readParams_164 (by decide) rfl ?_
            refine pw_iload_n dX10_readParams_165 rfl ?_
            refine pw_if_eq (tgt := 47) dX10_readParams_166 (by decide) (fun h166 => ?_) (fun h => absurd (by decide) h)
            refine pw_iload_n dX10_readParams_47 rfl ?_
            refine pw_if_eq (tgt := 176) dX10_readParams_48 (by decide) (fun h48 => ?_) (fun h => absurd (by decide) h)
            refine pw_sub [0, 1, 3, 4] rfl ?_
            rw [if_neg (fun q => absurd q.2 (by omega))] at k
            rw [hlen]
            exact rp_end hG hP hb hn9 hd hs2 hpT2 (k.mv hf2)
          · refine pw_iconst (v := nI 1) dX10_readParams_159 (by decide) ?_
            refine pw_goto (tgt := 164) dX10_readParams_160 (by decide) ?_
            refine pw_istore_n (lv' := [(3, _), (2, _), (4, _), (0, _), (1, _)]) dX10_readParams_164 (by decide) rfl ?_
            refine pw_iload_n dX10_readParams_165 rfl ?_
            refine pw_if_eq (tgt := 47) dX10_readParams_166 (by decide) (fun h => absurd h (by decide)) (fun h166 => ?_)
            refine pw_aload_n dX10_readParams_169 rfl ?_
            refine pw_callV (as := []) (kc' := 0) (ks' := 0) lX10_207 dX10_readParams_170 rfl rfl (sh_lt hG (by decide)) (sh_tg hG 45 rfl) (Nat.le_of_ble_eq_true rfl) (by omega) (Nat.le_of_ble_eq_true rfl) (Nat.zero_le _) (Nat.zero_le _) ?_
            refine c_X10_next (a := a + 1) hG hP hs2.2.2.1.1 ?_
            refine pw_goto (tgt := 47) dX10_readParams_173 (by decide) ?_
            refine pw_sub [0, 1, 3, 4] rfl ?_
            rw [if_pos ⟨hcm, h156⟩] at k
            rw [hlen]
            exact rp_lp hG hP hb hn9 hd f (a + 1 + 1) (pa ++ [tk_v tx n a]) _ (hs2.at' (b := a + 1 + 1) (by omega) (by omega)) (hpT2.mv (pm_u_ne (by decide))) (by rw [List.length_append]; show pa.length + 1 + f + 1 = 3; omega) (k.mv (hf2.trans (fp.put (by decide) (by decide))))
        · refine pw_aload_n dX10_readParams_121 rfl ?_
          refine pw_getI fX10_197 dX10_readParams_122 (sh_lt hG (by decide)) (sh_tg hG 45 rfl) rfl ?_
          refine pw_if_ge (tgt := 47) dX10_readParams_125 (by decide) (fun h => absurd h (by rw [hs.2.2.2.1]; decide)) (fun h125 => ?_)
          refine pw_aload_n dX10_readParams_128 rfl ?_
          refine pw_getR fX10_126 dX10_readParams_129 (sh_lt hG (by decide)) (sh_tg hG 45 rfl) rfl (gr_at hP 78 rfl) ?_
          refine pw_iload_n dX10_readParams_132 rfl ?_
          refine pw_aload_n dX10_readParams_133 rfl ?_
          refine pw_getI fX10_194 dX10_readParams_134 (sh_lt hG (by decide)) (sh_tg hG 45 rfl) rfl ?_
          refine pw_ti (z := nI a) hs.2.2.1.1 ?_
          refine pw_iastN pa.length dX10_readParams_137 (by decide) (sh_lt hG (by decide)) (sh_sh hG 84 rfl) (by decide) (rfl) (by omega) ?_
          refine pw_iinc (lv' := [(2, _), (4, _), (3, _), (0, _), (1, _)]) dX10_readParams_138 rfl (by decide) rfl ?_
          refine pw_aload_n dX10_readParams_141 rfl ?_
          refine pw_callV (as := []) (kc' := 0) (ks' := 0) lX10_207 dX10_readParams_142 rfl rfl (sh_lt hG (by decide)) (sh_tg hG 45 rfl) (Nat.le_of_ble_eq_true rfl) (by omega) (Nat.le_of_ble_eq_true rfl) (Nat.zero_le _) (Nat.zero_le _) ?_
          refine c_X10_next (a := a) hG hP (by rw [pm_u_ne (by decide)]; exact hs.2.2.1.1) ?_
          refine pw_aload_n dX10_readParams_145 rfl ?_
          refine pw_callV (as := []) (kc' := 0) (ks' := 0) lX10_200 dX10_readParams_146 rfl rfl (sh_lt hG (by decide)) (sh_tg hG 45 rfl) (Nat.le_of_ble_eq_true rfl) (by omega) (Nat.le_of_ble_eq_true rfl) (Nat.zero_le _) (Nat.zero_le _) ?_
          refine c_X10_tok hG hP hs2 ?_
          refine pw_bipush (v := nI 44) dX10_readParams_149 (by decide) ?_
          refine pw_icmpN_ne _ _ (tgt := 163) dX10_readParams_151 (by decide) (rfl) (rfl) (by omega) (by omega) (fun h151 => ?_) (fun h151 => absurd h151 (fun q => hcm ((rq44 hb).mp q)))
          refine pw_iconst (v := nI 0) dX10_readParams_163 (by decide) ?_
          refine pw_istore_n (lv' := [(3, _), (2, _), (4, _), (0, _), (1, _)]) dX10_readParams_164 (by decide) rfl ?_
          refine pw_iload_n dX10_readParams_165 rfl ?_
          refine pw_if_eq (tgt := 47) dX10_readParams_166 (by decide) (fun h166 => ?_) (fun h => absurd (by decide) h)
          refine pw_iload_n dX10_readParams_47 rfl ?_
          refine pw_if_eq (tgt := 176) dX10_readParams_48 (by decide) (fun h48 => ?_) (fun h => absurd (by decide) h)
          refine pw_sub [0, 1, 3, 4] rfl ?_
          rw [if_neg (fun q => hcm q.1)] at k
          rw [hlen]
          exact rp_end hG hP hb hn9 hd hs2 hpT2 (k.mv hf2)
      · rw [if_neg (fun q => hn q.2)] at k
        refine pw_aload_n dX10_readParams_121 rfl ?_
        refine pw_getI fX10_197 dX10_readParams_122 (sh_lt hG (by decide)) (sh_tg hG 45 rfl) rfl ?_
        refine pw_ti (z := nI (tk_p tx n a)) (by rw [pm_u_eq, pm_up_eq]) ?_
        refine pw_if_ge (tgt := 47) dX10_readParams_125 (by decide) (fun h125 => ?_) (fun h => absurd (nI_pos' (by omega)) h)
        refine pw_sub [1, 2, 3, 4] rfl ?_
        exact rp_endF hG hP hb hn9 hd (by rw [pm_u_eq, pm_up_ne (by decide)]; exact hkp) (by rw [pm_u_eq, pm_up_eq]) (k.mv (fp.put (by decide) (by decide)))
    · rw [if_neg (fun q => h97 q.1)] at k
      refine pw_iload_n dX10_readParams_47 rfl ?_
      refine pw_if_eq (tgt := 176) dX10_readParams_48 (by decide) (fun h => absurd h (by decide)) (fun h48 => ?_)
      refine pw_aload_n dX10_readParams_51 rfl ?_
      refine pw_getI fX10_197 dX10_readParams_52 (sh_lt hG (by decide)) (sh_tg hG 45 rfl) rfl ?_
      refine pw_if_ge (tgt := 176) dX10_readParams_55 (by decide) (fun h => absurd h (by rw [hs.2.2.2.1]; decide)) (fun h55 => ?_)
      refine pw_aload_n dX10_readParams_58 rfl ?_
      refine pw_callV (as := []) (kc' := 0) (ks' := 0) lX10_200 dX10_readParams_59 rfl rfl (sh_lt hG (by decide)) (sh_tg hG 45 rfl) (Nat.le_of_ble_eq_true rfl) (by omega) (Nat.le_of_ble_eq_true rfl) (Nat.zero_le _) (Nat.zero_le _) ?_
      refine c_X10_tok hG hP hs ?_
      refine pw_iconst (v := nI 1) dX10_readParams_62 (by decide) ?_
      refine pw_icmpN_eq _ _ (tgt := 70) dX10_readParams_63 (by decide) (rfl) (rfl) (by omega) (by omega) (fun h63 => absurd h63 (fun q => h97 ((rq97 hb).mp q))) (fun h63 => ?_)
      refine pw_aload_n dX10_readParams_66 rfl ?_
      refine pw_callV (as := []) (kc' := 0) (ks' := 0) lX10_204 dX10_readParams_67 rfl rfl (sh_lt hG (by decide)) (sh_tg hG 45 rfl) (Nat.le_of_ble_eq_true rfl) (by omega) (Nat.le_of_ble_eq_true rfl) (Nat.zero_le _) (Nat.zero_le _) ?_
      refine c_X10_wrong hG hP hs ?_
      refine pw_iconst (v := nI 0) dX10_readParams_70 (by decide) ?_
      refine pw_istore (lv' := [(4, _), (3, _), (2, _), (0, _), (1, _)]) dX10_readParams_71 (by decide) rfl ?_
      refine pw_iload dX10_readParams_73 rfl ?_
      refine pw_iload_n dX10_readParams_75 rfl ?_
      refine pw_icmp_ge (tgt := 121) dX10_readParams_76 (by decide) (fun h76 => ?_) (fun h76 => ?_)
      · refine pw_aload_n dX10_readParams_121 rfl ?_
        refine pw_getI fX10_197 dX10_readParams_122 (sh_lt hG (by decide)) (sh_tg hG 45 rfl) rfl ?_
        refine pw_ti (z := nI (tk_p tx n a)) (by rw [pm_u_eq, pm_up_eq]) ?_
        refine pw_if_ge (tgt := 47) dX10_readParams_125 (by decide) (fun h125 => ?_) (fun h => absurd (nI_pos' (by omega)) h)
        refine pw_sub [1, 2, 3, 4] rfl ?_
        exact rp_endF hG hP hb hn9 hd (by rw [pm_u_eq, pm_up_ne (by decide)]; exact hkp) (by rw [pm_u_eq, pm_up_eq]) (k.mv (fp.put (by decide) (by decide)))
      · refine pw_aload_n dX10_readParams_79 rfl ?_
        refine pw_getI fX10_197 dX10_readParams_80 (sh_lt hG (by decide)) (sh_tg hG 45 rfl) rfl ?_
        refine pw_ti (z := nI (tk_p tx n a)) (by rw [pm_u_eq, pm_up_eq]) ?_
        refine pw_if_ge (tgt := 121) dX10_readParams_83 (by decide) (fun h83 => ?_) (fun h => absurd (nI_pos' (by omega)) h)
        refine pw_aload_n dX10_readParams_121 rfl ?_
        refine pw_getI fX10_197 dX10_readParams_122 (sh_lt hG (by decide)) (sh_tg hG 45 rfl) rfl ?_
        refine pw_ti (z := nI (tk_p tx n a)) (by rw [pm_u_eq, pm_up_eq]) ?_
        refine pw_if_ge (tgt := 47) dX10_readParams_125 (by decide) (fun h125 => ?_) (fun h => absurd (nI_pos' (by omega)) h)
        refine pw_sub [1, 2, 3, 4] rfl ?_
        exact rp_endF hG hP hb hn9 hd (by rw [pm_u_eq, pm_up_ne (by decide)]; exact hkp) (by rw [pm_u_eq, pm_up_eq]) (k.mv (fp.put (by decide) (by decide)))
set_option maxRecDepth 20000 in
set_option maxHeartbeats 4000000 in
theorem c_X10_params0 {l : Launch} {E : pmE} {S : pmS} {P : pmP} {tx : Nat → Nat} {n i kp d : Nat} {Q : Option Value → pmS → pmI → pmJ → pmP → Prop} (hG : sh_St S) (hP : gr_St P) (hb : ∀ j, j < n → tx j < 128) (hn9 : n ≤ 120) (hd : 4 ≤ d) {a T m : Nat} {I : pmI} {J : pmJ} (hs : qs tx n i kp I J a 0 T m) (k0 : ¬ tk_k tx n a = 40 → Q none S (pm_u I 47 41 (nI (tk_p tx n a))) J P) (k1 : tk_k tx n a = 40 → pK tx n i kp Q S P I J T m (if tk_k tx n (a + 1) = 41 then .ok (a + 1, []) else rp (tk_k tx n) (tk_v tx n) 3 (a + 1) [])) : pm_Met l E yX10_readParams cX10_readParams 5 none d 0 0 [.ref 47, .int (nI 0)] S I J P Q := by
  unfold pm_Met
  refine pm_lvs (lv' := [(0, _), (1, _)]) rfl ?_
  have hi6 := hs.1.2.1
  have hai := hs.2.2.1.2
  have hma := hs.2.2.2.2.2.2.1.2
  have hkc := (rk_c (tk_k_c (tx := tx) (n := n) (i := a) hb).1)
  by_cases h40 : tk_k tx n a = 40
  · have k := k1 h40
    have hal := hs.lt (by rw [h40]; decide) (by rw [h40]; decide)
    have hs1 := (hs.op' 1).at' (b := a + 1) (by omega) (by omega)
    have hf1 : fp kp I (pm_u (pm_u I 47 42 (nI 1)) 47 40 (nI (a + 1))) := (fp.put (by decide) (by decide)).trans (fp.put (by decide) (by decide))
    have hpT : pT tx n i (pm_u (pm_u I 47 42 (nI 1)) 47 40 (nI (a + 1))) [] := ⟨by decide, fun j v hv => nomatch hv⟩
    have hkc2 := (rk_c (tk_k_c (tx := tx) (n := n) (i := a + 1) hb).1)
    by_cases h41 : tk_k tx n (a + 1) = 41
    · rw [if_pos h41] at k
      refine pw_aload_n dX10_readParams_0 rfl ?_
      refine pw_getI fX10_197 dX10_readParams_1 (sh_lt hG (by decide)) (sh_tg hG 45 rfl) rfl ?_
      refine pw_if_ge (tgt := 16) dX10_readParams_4 (by decide) (fun h => absurd h (by rw [hs.2.2.2.1]; decide)) (fun h4 => ?_)
      refine pw_aload_n dX10_readParams_7 rfl ?_
      refine pw_callV (as := []) (kc' := 0) (ks' := 0) lX10_200 dX10_readParams_8 rfl rfl (sh_lt hG (by decide)) (sh_tg hG 45 rfl) (Nat.le_of_ble_eq_true rfl) (by omega) (Nat.le_of_ble_eq_true rfl) (Nat.zero_le _) (Nat.zero_le _) ?_
      refine c_X10_tok hG hP hs ?_
      refine pw_ti (z := nI 40) (by rw [h40]; rfl) ?_
      refine pw_bipush (v := nI 40) dX10_readParams_11 (by decide) ?_
      refine pw_icmp_eq (tgt := 21) dX10_readParams_13 (by decide) (fun h13 => ?_) (fun h => absurd (by decide) h)
      refine pw_aload_n dX10_readParams_21 rfl ?_
      refine pw_callV (as := []) (kc' := 0) (ks' := 0) lX10_233 dX10_readParams_22 rfl rfl (sh_lt hG (by decide)) (sh_tg hG 45 rfl) (Nat.le_of_ble_eq_true rfl) (by omega) (Nat.le_of_ble_eq_true rfl) (Nat.zero_le _) (Nat.zero_le _) ?_
      refine c_X10_opens hG hP (by omega) hs (by omega) (fun _ => ?_) (fun q => absurd q (by omega))
      refine pw_pop dX10_readParams_25 rfl ?_
      refine pw_iconst (v := nI 0) dX10_readParams_26 (by decide) ?_
      refine pw_istore_n (lv' := [(2, _), (0, _), (1, _)]) dX10_readParams_27 (by decide) rfl ?_
      refine pw_iload_n dX10_readParams_28 rfl ?_
      refine pw_if_ne (tgt := 41) dX10_readParams_29 (by decide) (fun h => absurd (by decide) h) (fun h29 => ?_)
      refine pw_aload_n dX10_readParams_32 rfl ?_
      refine pw_callV (as := []) (kc' := 0) (ks' := 0) lX10_200 dX10_readParams_33 rfl rfl (sh_lt hG (by decide)) (sh_tg hG 45 rfl) (Nat.le_of_ble_eq_true rfl) (by omega) (Nat.le_of_ble_eq_true rfl) (Nat.zero_le _) (Nat.zero_le _) ?_
      refine c_X10_tok hG hP hs1 ?_
      refine pw_ti (z := nI 41) (by rw [h41]; rfl) ?_
      refine pw_bipush (v := nI 41) dX10_readParams_36 (by decide) ?_
      refine pw_icmp_eq (tgt := 45) dX10_readParams_38 (by decide) (fun h38 => ?_) (fun h => absurd (by decide) h)
      refine pw_iconst (v := nI 0) dX10_readParams_45 (by decide) ?_
      refine pw_istore_n (lv' := [(3, _), (2, _), (0, _), (1, _)]) dX10_readParams_46 (by decide) rfl ?_
      refine pw_iload_n dX10_readParams_47 rfl ?_
      refine pw_if_eq (tgt := 176) dX10_readParams_48 (by decide) (fun h48 => ?_) (fun h => absurd (by decide) h)
      refine pw_sub [0, 1, 2, 3] rfl ?_
      exact rp_end (pa := []) hG hP hb hn9 hd hs1 hpT (k.mv hf1)
    · rw [if_neg h41] at k
      refine pw_aload_n dX10_readParams_0 rfl ?_
      refine pw_getI fX10_197 dX10_readParams_1 (sh_lt hG (by decide)) (sh_tg hG 45 rfl) rfl ?_
      refine pw_if_ge (tgt := 16) dX10_readParams_4 (by decide) (fun h => absurd h (by rw [hs.2.2.2.1]; decide)) (fun h4 => ?_)
      refine pw_aload_n dX10_readParams_7 rfl ?_
      refine pw_callV (as := []) (kc' := 0) (ks' := 0) lX10_200 dX10_readParams_8 rfl rfl (sh_lt hG (by decide)) (sh_tg hG 45 rfl) (Nat.le_of_ble_eq_true rfl) (by omega) (Nat.le_of_ble_eq_true rfl) (Nat.zero_le _) (Nat.zero_le _) ?_
      refine c_X10_tok hG hP hs ?_
      refine pw_ti (z := nI 40) (by rw [h40]; rfl) ?_
      refine pw_bipush (v := nI 40) dX10_readParams_11 (by decide) ?_
      refine pw_icmp_eq (tgt := 21) dX10_readParams_13 (by decide) (fun h13 => ?_) (fun h => absurd (by decide) h)
      refine pw_aload_n dX10_readParams_21 rfl ?_
      refine pw_callV (as := []) (kc' := 0) (ks' := 0) lX10_233 dX10_readParams_22 rfl rfl (sh_lt hG (by decide)) (sh_tg hG 45 rfl) (Nat.le_of_ble_eq_true rfl) (by omega) (Nat.le_of_ble_eq_true rfl) (Nat.zero_le _) (Nat.zero_le _) ?_
      refine c_X10_opens hG hP (by omega) hs (by omega) (fun _ => ?_) (fun q => absurd q (by omega))
      refine pw_pop dX10_readParams_25 rfl ?_
      refine pw_iconst (v := nI 0) dX10_readParams_26 (by decide) ?_
      refine pw_istore_n (lv' := [(2, _), (0, _), (1, _)]) dX10_readParams_27 (by decide) rfl ?_
      refine pw_iload_n dX10_readParams_28 rfl ?_
      refine pw_if_ne (tgt := 41) dX10_readParams_29 (by decide) (fun h => absurd (by decide) h) (fun h29 => ?_)
      refine pw_aload_n dX10_readParams_32 rfl ?_
      refine pw_callV (as := []) (kc' := 0) (ks' := 0) lX10_200 dX10_readParams_33 rfl rfl (sh_lt hG (by decide)) (sh_tg hG 45 rfl) (Nat.le_of_ble_eq_true rfl) (by omega) (Nat.le_of_ble_eq_true rfl) (Nat.zero_le _) (Nat.zero_le _) ?_
      refine c_X10_tok hG hP hs1 ?_
      refine pw_bipush (v := nI 41) dX10_readParams_36 (by decide) ?_
      refine pw_icmpN_eq _ _ (tgt := 45) dX10_readParams_38 (by decide) (rfl) (rfl) (by omega) (by omega) (fun h38 => absurd h38 (fun q => h41 ((rq41 hb).mp q))) (fun h38 => ?_)
      refine pw_iconst (v := nI 1) dX10_readParams_41 (by decide) ?_
      refine pw_goto (tgt := 46) dX10_readParams_42 (by decide) ?_
      refine pw_istore_n (lv' := [(3, _), (2, _), (0, _), (1, _)]) dX10_readParams_46 (by decide) rfl ?_
      refine pw_sub [0, 1, 2, 3] rfl ?_
      exact rp_lp hG hP hb hn9 hd 2 (a + 1) [] _ hs1 hpT rfl (k.mv hf1)
  · refine pw_aload_n dX10_readParams_0 rfl ?_
    refine pw_getI fX10_197 dX10_readParams_1 (sh_lt hG (by decide)) (sh_tg hG 45 rfl) rfl ?_
    refine pw_if_ge (tgt := 16) dX10_readParams_4 (by decide) (fun h => absurd h (by rw [hs.2.2.2.1]; decide)) (fun h4 => ?_)
    refine pw_aload_n dX10_readParams_7 rfl ?_
    refine pw_callV (as := []) (kc' := 0) (ks' := 0) lX10_200 dX10_readParams_8 rfl rfl (sh_lt hG (by decide)) (sh_tg hG 45 rfl) (Nat.le_of_ble_eq_true rfl) (by omega) (Nat.le_of_ble_eq_true rfl) (Nat.zero_le _) (Nat.zero_le _) ?_
    refine c_X10_tok hG hP hs ?_
    refine pw_bipush (v := nI 40) dX10_readParams_11 (by decide) ?_
    refine pw_icmpN_eq _ _ (tgt := 21) dX10_readParams_13 (by decide) (rfl) (rfl) (by omega) (by omega) (fun h13 => absurd h13 (fun q => h40 ((rq40 hb).mp q))) (fun h13 => ?_)
    refine pw_aload_n dX10_readParams_16 rfl ?_
    refine pw_callV (as := []) (kc' := 0) (ks' := 0) lX10_204 dX10_readParams_17 rfl rfl (sh_lt hG (by decide)) (sh_tg hG 45 rfl) (Nat.le_of_ble_eq_true rfl) (by omega) (Nat.le_of_ble_eq_true rfl) (Nat.zero_le _) (Nat.zero_le _) ?_
    refine c_X10_wrong hG hP hs ?_
    exact pw_vret dX10_readParams_20 rfl (k0 h40)
set_option maxRecDepth 20000 in
set_option maxHeartbeats 4000000 in
theorem c_X10_params1 {l : Launch} {E : pmE} {S : pmS} {P : pmP} {tx : Nat → Nat} {n i kp d : Nat} {Q : Option Value → pmS → pmI → pmJ → pmP → Prop} (hG : sh_St S) (hP : gr_St P) (hb : ∀ j, j < n → tx j < 128) (hn9 : n ≤ 120) (hd : 4 ≤ d) {a T m : Nat} {I : pmI} {J : pmJ} (hs : qs tx n i kp I J a 0 T m) (k0 : ¬ tk_k tx n a = 40 → Q none S (pm_u I 47 41 (nI (tk_p tx n a))) J P) (k1 : tk_k tx n a = 40 → pK tx n i kp Q S P I J T m (rp (tk_k tx n) (tk_v tx n) 3 (a + 1) [])) : pm_Met l E yX10_readParams cX10_readParams 5 none d 0 0 [.ref 47, .int (nI 1)] S I J P Q := by
  unfold pm_Met
  refine pm_lvs (lv' := [(0, _), (1, _)]) rfl ?_
  have hi6 := hs.1.2.1
  have hai := hs.2.2.1.2
  have hma := hs.2.2.2.2.2.2.1.2
  have hkc := (rk_c (tk_k_c (tx := tx) (n := n) (i := a) hb).1)
  by_cases h40 : tk_k tx n a = 40
  · have k := k1 h40
    have hal := hs.lt (by rw [h40]; decide) (by rw [h40]; decide)
    have hs1 := (hs.op' 1).at' (b := a + 1) (by omega) (by omega)
    have hf1 : fp kp I (pm_u (pm_u I 47 42 (nI 1)) 47 40 (nI (a + 1))) := (fp.put (by decide) (by decide)).trans (fp.put (by decide) (by decide))
    have hpT : pT tx n i (pm_u (pm_u I 47 42 (nI 1)) 47 40 (nI (a + 1))) [] := ⟨by decide, fun j v hv => nomatch hv⟩
    have hkc2 := (rk_c (tk_k_c (tx := tx) (n := n) (i := a + 1) hb).1)
    refine pw_aload_n dX10_readParams_0 rfl ?_
    refine pw_getI fX10_197 dX10_readParams_1 (sh_lt hG (by decide)) (sh_tg hG 45 rfl) rfl ?_
    refine pw_if_ge (tgt := 16) dX10_readParams_4 (by decide) (fun h => absurd h (by rw [hs.2.2.2.1]; decide)) (fun h4 => ?_)
    refine pw_aload_n dX10_readParams_7 rfl ?_
    refine pw_callV (as := []) (kc' := 0) (ks' := 0) lX10_200 dX10_readParams_8 rfl rfl (sh_lt hG (by decide)) (sh_tg hG 45 rfl) (Nat.le_of_ble_eq_true rfl) (by omega) (Nat.le_of_ble_eq_true rfl) (Nat.zero_le _) (Nat.zero_le _) ?_
    refine c_X10_tok hG hP hs ?_
    refine pw_ti (z := nI 40) (by rw [h40]; rfl) ?_
    refine pw_bipush (v := nI 40) dX10_readParams_11 (by decide) ?_
    refine pw_icmp_eq (tgt := 21) dX10_readParams_13 (by decide) (fun h13 => ?_) (fun h => absurd (by decide) h)
    refine pw_aload_n dX10_readParams_21 rfl ?_
    refine pw_callV (as := []) (kc' := 0) (ks' := 0) lX10_233 dX10_readParams_22 rfl rfl (sh_lt hG (by decide)) (sh_tg hG 45 rfl) (Nat.le_of_ble_eq_true rfl) (by omega) (Nat.le_of_ble_eq_true rfl) (Nat.zero_le _) (Nat.zero_le _) ?_
    refine c_X10_opens hG hP (by omega) hs (by omega) (fun _ => ?_) (fun q => absurd q (by omega))
    refine pw_pop dX10_readParams_25 rfl ?_
    refine pw_iconst (v := nI 0) dX10_readParams_26 (by decide) ?_
    refine pw_istore_n (lv' := [(2, _), (0, _), (1, _)]) dX10_readParams_27 (by decide) rfl ?_
    refine pw_iload_n dX10_readParams_28 rfl ?_
    refine pw_if_ne (tgt := 41) dX10_readParams_29 (by decide) (fun h29 => ?_) (fun h => absurd h (by decide))
    refine pw_iconst (v := nI 1) dX10_readParams_41 (by decide) ?_
    refine pw_goto (tgt := 46) dX10_readParams_42 (by decide) ?_
    refine pw_istore_n (lv' := [(3, _), (2, _), (0, _), (1, _)]) dX10_readParams_46 (by decide) rfl ?_
    refine pw_sub [0, 1, 2, 3] rfl ?_
    exact rp_lp hG hP hb hn9 hd 2 (a + 1) [] _ hs1 hpT rfl (k.mv hf1)
  · refine pw_aload_n dX10_readParams_0 rfl ?_
    refine pw_getI fX10_197 dX10_readParams_1 (sh_lt hG (by decide)) (sh_tg hG 45 rfl) rfl ?_
    refine pw_if_ge (tgt := 16) dX10_readParams_4 (by decide) (fun h => absurd h (by rw [hs.2.2.2.1]; decide)) (fun h4 => ?_)
    refine pw_aload_n dX10_readParams_7 rfl ?_
    refine pw_callV (as := []) (kc' := 0) (ks' := 0) lX10_200 dX10_readParams_8 rfl rfl (sh_lt hG (by decide)) (sh_tg hG 45 rfl) (Nat.le_of_ble_eq_true rfl) (by omega) (Nat.le_of_ble_eq_true rfl) (Nat.zero_le _) (Nat.zero_le _) ?_
    refine c_X10_tok hG hP hs ?_
    refine pw_bipush (v := nI 40) dX10_readParams_11 (by decide) ?_
    refine pw_icmpN_eq _ _ (tgt := 21) dX10_readParams_13 (by decide) (rfl) (rfl) (by omega) (by omega) (fun h13 => absurd h13 (fun q => h40 ((rq40 hb).mp q))) (fun h13 => ?_)
    refine pw_aload_n dX10_readParams_16 rfl ?_
    refine pw_callV (as := []) (kc' := 0) (ks' := 0) lX10_204 dX10_readParams_17 rfl rfl (sh_lt hG (by decide)) (sh_tg hG 45 rfl) (Nat.le_of_ble_eq_true rfl) (by omega) (Nat.le_of_ble_eq_true rfl) (Nat.zero_le _) (Nat.zero_le _) ?_
    refine c_X10_wrong hG hP hs ?_
    exact pw_vret dX10_readParams_20 rfl (k0 h40)
set_option maxRecDepth 20000 in
set_option maxHeartbeats 4000000 in
theorem c_X10_paramsF {l : Launch} {E : pmE} {d : Nat} {S : pmS} {I : pmI} {J : pmJ} {P : pmP} {Q : Option Value → pmS → pmI → pmJ → pmP → Prop} (hG : sh_St S) (hP : gr_St P) (hd : 2 ≤ d) {s : Int32} {e : Nat} (hF : I 47 41 = nI e) (he : e < 2 ^ 31) (k : Q none S (pm_u I 47 41 (nI e)) J P) : pm_Met l E yX10_readParams cX10_readParams 5 none d 0 0 [.ref 47, .int s] S I J P Q := by
  unfold pm_Met
  refine pm_lvs (lv' := [(0, _), (1, _)]) rfl ?_
  refine pw_aload_n dX10_readParams_0 rfl ?_
  refine pw_getI fX10_197 dX10_readParams_1 (sh_lt hG (by decide)) (sh_tg hG 45 rfl) rfl ?_
  refine pw_if_ge (tgt := 16) dX10_readParams_4 (by decide) (fun h4 => ?_) (fun h => absurd (by rw [hF]; exact nI_pos' he) h)
  refine pw_aload_n dX10_readParams_16 rfl ?_
  refine pw_callV (as := []) (kc' := 0) (ks' := 0) lX10_204 dX10_readParams_17 rfl rfl (sh_lt hG (by decide)) (sh_tg hG 45 rfl) (Nat.le_of_ble_eq_true rfl) (by omega) (Nat.le_of_ble_eq_true rfl) (Nat.zero_le _) (Nat.zero_le _) ?_
  refine c_X10_wrongF hG hP hF he ?_
  exact pw_vret dX10_readParams_20 rfl (k)

