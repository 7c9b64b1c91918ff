set_option maxRecDepth 20000 in
set_option maxHeartbeats 400000 in
theorem r_us_lp {l : Launch} {E : pmE} {d : Nat} {S : pmS} {I : pmI} {J : pmJ} {P : pmP} {Q : Option Value → pmS → pmI → pmJ → pmP → Prop} (hG : sh_St S) (hP : gr_St P) (hd : 2 ≤ d) {x y z : Int32} {I1 : pmI} {s m pl : Nat} (h : mkS I1 m I) (hY : nY I1 J (64 * s) (64 * s + m)) (hm : m ≤ 60) (hs : s ≤ 39) (hp : I 57 s = nI pl) (hpl : pl ≤ 3) (kx : ∀ u, pm_W l E yX10_user cX10_user 7 (some .int) d 0 0 140 [(6, .int (nI 64)), (5, .int u), (4, .int (nI s)), (3, .int z), (0, .ref 47), (1, .int x), (2, .int y)] [] S I J P (pm_N E Q)) : ∀ (q k : Nat) (u : Int32), k + q = 64 → pm_W l E yX10_user cX10_user 7 (some .int) d 0 0 69 [(6, .int (nI k)), (5, .int u), (4, .int (nI s)), (3, .int z), (0, .ref 47), (1, .int x), (2, .int y)] [] S I J P (pm_N E Q)
  | 0, k, u, hk => by
    have e : k = 64 := by omega
    subst e
    refine pw_iload dX10_user_69 rfl ?_
    refine pw_bipush (v := nI 64) dX10_user_71 (by decide) ?_
    refine pw_icmp_ge (tgt := 140) dX10_user_73 (by decide) (fun h73 => ?_) (fun h => absurd (by decide) h)
    exact kx _
  | q + 1, k, u, hk => by
    refine pw_iload dX10_user_69 rfl ?_
    refine pw_bipush (v := nI 64) dX10_user_71 (by decide) ?_
    refine pw_icmpN_ge _ _ (tgt := 140) dX10_user_73 (by decide) (rfl) (rfl) (by omega) (by omega) (fun h73 => absurd h73 (by omega)) (fun h73 => ?_)
    refine pw_iload dX10_user_76 rfl ?_
    refine pw_if_ne (tgt := 127) dX10_user_78 (by decide) (fun h78 => ?_) (fun h78 => ?_)
    · refine pw_iconst (v := nI 1) dX10_user_127 (by decide) ?_
      refine pw_goto (tgt := 132) dX10_user_128 (by decide) ?_
      refine pw_istore (lv' := [(5, _), (6, _), (4, _), (3, _), (0, _), (1, _), (2, _)]) dX10_user_132 (by decide) rfl ?_
      refine pw_sub [1, 0, 2, 3, 4, 5, 6] rfl ?_
      refine pw_iinc (lv' := [(6, _), (5, _), (4, _), (3, _), (0, _), (1, _), (2, _)]) dX10_user_134 rfl (by decide) rfl ?_
      refine pw_goto (tgt := 69) dX10_user_137 (by decide) ?_
      refine pm_lvs (lv' := [(6, .int (nI (k + 1))), (5, _), (4, _), (3, _), (0, _), (1, _), (2, _)]) (by rw [show nI k + Int32.ofInt 1 = nI (k + 1) from nI_add k 1]) ?_
      exact r_us_lp hG hP hd h hY hm hs hp hpl kx q (k + 1) _ (by omega)
    · refine pw_aload_n dX10_user_81 rfl ?_
      refine pw_getR fX10_150 dX10_user_82 (sh_lt hG (by decide)) (sh_tg hG 45 rfl) rfl (gr_at hP 86 rfl) ?_
      refine pw_iload dX10_user_85 rfl ?_
      refine pw_zaldN k dX10_user_87 (sh_lt hG (by decide)) (sh_sh hG 92 rfl) (by decide) (rfl) (by omega) ?_
      refine pw_if_eq (tgt := 131) dX10_user_88 (by decide) (fun h88 => ?_) (fun h88 => ?_)
      · refine pw_iconst (v := nI 0) dX10_user_131 (by decide) ?_
        refine pw_istore (lv' := [(5, _), (6, _), (4, _), (3, _), (0, _), (1, _), (2, _)]) dX10_user_132 (by decide) rfl ?_
        refine pw_sub [1, 0, 2, 3, 4, 5, 6] rfl ?_
        refine pw_iinc (lv' := [(6, _), (5, _), (4, _), (3, _), (0, _), (1, _), (2, _)]) dX10_user_134 rfl (by decide) rfl ?_
        refine pw_goto (tgt := 69) dX10_user_137 (by decide) ?_
        refine pm_lvs (lv' := [(6, .int (nI (k + 1))), (5, _), (4, _), (3, _), (0, _), (1, _), (2, _)]) (by rw [show nI k + Int32.ofInt 1 = nI (k + 1) from nI_add k 1]) ?_
        exact r_us_lp hG hP hd h hY hm hs hp hpl kx q (k + 1) _ (by omega)
      · refine pw_aload_n dX10_user_91 rfl ?_
        refine pw_iload dX10_user_92 rfl ?_
        refine pw_bipush (v := nI 64) dX10_user_94 (by decide) ?_
        refine pw_iload dX10_user_96 rfl ?_
        refine pw_imul dX10_user_98 ?_
        refine pw_iload dX10_user_99 rfl ?_
        refine pw_iadd dX10_user_101 ?_
        refine pw_ti (z := nI (64 * s + k)) (by rw [show nI 64 * nI s = nI (64 * s) from (Int32.ofNat_mul 64 _).symm]; exact nI_add _ _) ?_
        refine pw_callV (as := [_, _]) (kc' := 0) (ks' := 0) lX10_369 dX10_user_102 rfl rfl (sh_lt hG (by decide)) (sh_tg hG 45 rfl) (Nat.le_of_ble_eq_true rfl) (by omega) (Nat.le_of_ble_eq_true rfl) (Nat.zero_le _) (Nat.zero_le _) ?_
        refine r_tells hG hP (by omega) hs hp hpl (by omega) (fun hk9 => ?_) ?_
        · refine pw_if_eq (tgt := 131) dX10_user_105 (by decide) (fun h => absurd h (by decide)) (fun h105 => ?_)
          refine pw_aload_n dX10_user_108 rfl ?_
          refine pw_getR fX10_77 dX10_user_109 (sh_lt hG (by decide)) (sh_tg hG 45 rfl) rfl (gr_at hP 62 rfl) ?_
          refine pw_bipush (v := nI 64) dX10_user_112 (by decide) ?_
          refine pw_iload dX10_user_114 rfl ?_
          refine pw_imul dX10_user_116 ?_
          refine pw_iload dX10_user_117 rfl ?_
          refine pw_iadd dX10_user_119 ?_
          refine pw_ti (z := nI (64 * s + k)) (by rw [show nI 64 * nI s = nI (64 * s) from (Int32.ofNat_mul 64 _).symm]; exact nI_add _ _) ?_
          refine pw_laldN (64 * s + k) dX10_user_120 (sh_lt hG (by decide)) (sh_sh hG 68 rfl) (by decide) (rfl) (by omega) ?_
          refine pw_iload_n dX10_user_121 rfl ?_
          refine pw_i2l dX10_user_122 ?_
          refine pw_lif_ne (tgt := 131) dX10_user_123 dX10_user_124 (by decide) (fun h124 => ?_) (fun h124 => ?_)
          · refine pw_iconst (v := nI 0) dX10_user_131 (by decide) ?_
            refine pw_istore (lv' := [(5, _), (6, _), (4, _), (3, _), (0, _), (1, _), (2, _)]) dX10_user_132 (by decide) rfl ?_
            refine pw_sub [1, 0, 2, 3, 4, 5, 6] rfl ?_
            refine pw_iinc (lv' := [(6, _), (5, _), (4, _), (3, _), (0, _), (1, _), (2, _)]) dX10_user_134 rfl (by decide) rfl ?_
            refine pw_goto (tgt := 69) dX10_user_137 (by decide) ?_
            refine pm_lvs (lv' := [(6, .int (nI (k + 1))), (5, _), (4, _), (3, _), (0, _), (1, _), (2, _)]) (by rw [show nI k + Int32.ofInt 1 = nI (k + 1) from nI_add k 1]) ?_
            exact r_us_lp hG hP hd h hY hm hs hp hpl kx q (k + 1) _ (by omega)
          · refine pw_iconst (v := nI 1) dX10_user_127 (by decide) ?_
            refine pw_goto (tgt := 132) dX10_user_128 (by decide) ?_
            refine pw_istore (lv' := [(5, _), (6, _), (4, _), (3, _), (0, _), (1, _), (2, _)]) dX10_user_132 (by decide) rfl ?_
            refine pw_sub [1, 0, 2, 3, 4, 5, 6] rfl ?_
            refine pw_iinc (lv' := [(6, _), (5, _), (4, _), (3, _), (0, _), (1, _), (2, _)]) dX10_user_134 rfl (by decide) rfl ?_
            refine pw_goto (tgt := 69) dX10_user_137 (by decide) ?_
            refine pm_lvs (lv' := [(6, .int (nI (k + 1))), (5, _), (4, _), (3, _), (0, _), (1, _), (2, _)]) (by rw [show nI k + Int32.ofInt 1 = nI (k + 1) from nI_add k 1]) ?_
            exact r_us_lp hG hP hd h hY hm hs hp hpl kx q (k + 1) _ (by omega)
        · refine pw_if_eq (tgt := 131) dX10_user_105 (by decide) (fun h105 => ?_) (fun h => absurd (by decide) h)
          refine pw_iconst (v := nI 0) dX10_user_131 (by decide) ?_
          refine pw_istore (lv' := [(5, _), (6, _), (4, _), (3, _), (0, _), (1, _), (2, _)]) dX10_user_132 (by decide) rfl ?_
          refine pw_sub [1, 0, 2, 3, 4, 5, 6] rfl ?_
          refine pw_iinc (lv' := [(6, _), (5, _), (4, _), (3, _), (0, _), (1, _), (2, _)]) dX10_user_134 rfl (by decide) rfl ?_
          refine pw_goto (tgt := 69) dX10_user_137 (by decide) ?_
          refine pm_lvs (lv' := [(6, .int (nI (k + 1))), (5, _), (4, _), (3, _), (0, _), (1, _), (2, _)]) (by rw [show nI k + Int32.ofInt 1 = nI (k + 1) from nI_add k 1]) ?_
          exact r_us_lp hG hP hd h hY hm hs hp hpl kx q (k + 1) _ (by omega)
set_option maxRecDepth 20000 in
set_option maxHeartbeats 400000 in
theorem r_uo_lp {l : Launch} {E : pmE} {d : Nat} {S : pmS} {J : pmJ} {P : pmP} {Q : Option Value → pmS → pmI → pmJ → pmP → Prop} (hG : sh_St S) (hP : gr_St P) (hd : 4 ≤ d) {x y : Int32} {A : aS} {I0 : pmI} (hA0 : rA I0 J A) (hO : aO A) (kx : ∀ a I', qF I0 I' → Q (some (.int a)) S I' J P) : ∀ (q s : Nat) (z : Int32) (I : pmI), s + q = A.sn.length → qF I0 I → pm_W l E yX10_user cX10_user 7 (some .int) d 0 0 20 [(4, .int (nI s)), (3, .int z), (0, .ref 47), (1, .int x), (2, .int y)] [] S I J P (pm_N E Q)
  | 0, s, z, I, hk, f => by
    have hsl := hO.2.2.2.2.2.2.2.2.2.2.1
    have hA := f.rA hA0
    refine pw_iload dX10_user_20 rfl ?_
    refine pw_aload_n dX10_user_22 rfl ?_
    refine pw_getI fX10_220 dX10_user_23 (sh_lt hG (by decide)) (sh_tg hG 45 rfl) rfl ?_
    refine pw_icmpN_ge _ _ (tgt := 171) dX10_user_26 (by decide) (rfl) (hA.k) (by omega) (by omega) (fun h26 => ?_) (fun h26 => absurd h26 (by omega))
    refine pw_bipush (v := -5) dX10_user_171 (by decide) ?_
    exact pw_iret dX10_user_173 rfl (kx _ _ f)
  | q + 1, s, z, I, hk, f => by
    have hsl := hO.2.2.2.2.2.2.2.2.2.2.1
    have hA := f.rA hA0
    have hs : s < A.sn.length := by omega
    have hx := hA.sn hs
    have hxO := hO.2.2.2.2.1 s hs
    have hf3 := hxO.1
    have hnl := hO.1.2
    refine pw_iload dX10_user_20 rfl ?_
    refine pw_aload_n dX10_user_22 rfl ?_
    refine pw_getI fX10_220 dX10_user_23 (sh_lt hG (by decide)) (sh_tg hG 45 rfl) rfl ?_
    refine pw_icmpN_ge _ _ (tgt := 171) dX10_user_26 (by decide) (rfl) (hA.k) (by omega) (by omega) (fun h26 => absurd h26 (by omega)) (fun h26 => ?_)
    refine pw_aload_n dX10_user_29 rfl ?_
    refine pw_getR fX10_32 dX10_user_30 (sh_lt hG (by decide)) (sh_tg hG 45 rfl) rfl (gr_at hP 47 rfl) ?_
    refine pw_iload dX10_user_33 rfl ?_
    refine pw_ialdN s dX10_user_35 (sh_lt hG (by decide)) (sh_sh hG 53 rfl) (by decide) (rfl) (by omega) ?_
    refine pw_iconst (v := nI 2) dX10_user_36 (by decide) ?_
    refine pw_icmpN_ne _ _ (tgt := 165) dX10_user_37 (by decide) (hx.1) (rfl) (by omega) (by omega) (fun h37 => ?_) (fun h37 => ?_)
    · refine pw_sub [0, 1, 2, 3, 4] rfl ?_
      refine pw_iinc (lv' := [(4, _), (3, _), (0, _), (1, _), (2, _)]) dX10_user_165 rfl (by decide) rfl ?_
      refine pw_goto (tgt := 20) dX10_user_168 (by decide) ?_
      refine pm_lvs (lv' := [(4, .int (nI (s + 1))), (3, _), (0, _), (1, _), (2, _)]) (by rw [show nI s + Int32.ofInt 1 = nI (s + 1) from nI_add s 1]) ?_
      exact r_uo_lp hG hP hd hA0 hO kx q (s + 1) _ _ (by omega) (f)
    · refine pw_aload_n dX10_user_40 rfl ?_
      refine pw_getR fX10_20 dX10_user_41 (sh_lt hG (by decide)) (sh_tg hG 45 rfl) rfl (gr_at hP 43 rfl) ?_
      refine pw_aload_n dX10_user_44 rfl ?_
      refine pw_getR fX10_35 dX10_user_45 (sh_lt hG (by decide)) (sh_tg hG 45 rfl) rfl (gr_at hP 48 rfl) ?_
      refine pw_iload dX10_user_48 rfl ?_
      have hdn := (ns_at (hxO.2.2.1 (by omega))).2
      refine pw_ialdN s dX10_user_50 (sh_lt hG (by decide)) (sh_sh hG 54 rfl) (by decide) (rfl) (by omega) ?_
      refine pw_ti (z := nI (A.ns.idxOf (A.at s).dec)) (hx.2.1 (by omega)) ?_
      refine pw_ialdN (A.ns.idxOf (A.at s).dec) dX10_user_51 (sh_lt hG (by decide)) (sh_sh hG 49 rfl) (by decide) (rfl) (by omega) ?_
      refine pw_iload dX10_user_52 rfl ?_
      refine pw_icmp_ne (tgt := 165) dX10_user_54 (by decide) (fun h54 => ?_) (fun h54 => ?_)
      · refine pw_sub [0, 1, 2, 3, 4] rfl ?_
        refine pw_iinc (lv' := [(4, _), (3, _), (0, _), (1, _), (2, _)]) dX10_user_165 rfl (by decide) rfl ?_
        refine pw_goto (tgt := 20) dX10_user_168 (by decide) ?_
        refine pm_lvs (lv' := [(4, .int (nI (s + 1))), (3, _), (0, _), (1, _), (2, _)]) (by rw [show nI s + Int32.ofInt 1 = nI (s + 1) from nI_add s 1]) ?_
        exact r_uo_lp hG hP hd hA0 hO kx q (s + 1) _ _ (by omega) (f)
      · have h2' : (A.at s).form = 2 := by omega
        obtain ⟨m, hm6, hY, N, hN, hny⟩ := hx.2.2.2.2.2.2 h2'
        refine pw_aload_n dX10_user_57 rfl ?_
        refine pw_iload dX10_user_58 rfl ?_
        refine pw_callV (as := [_]) (kc' := 0) (ks' := 0) lX10_366 dX10_user_60 rfl rfl (sh_lt hG (by decide)) (sh_tg hG 45 rfl) (Nat.le_of_ble_eq_true rfl) (by omega) (Nat.le_of_ble_eq_true rfl) (Nat.zero_le _) (Nat.zero_le _) ?_
        refine r_reach hG hP (by omega) (by omega) hm6 hY.1 hN hny.bd (fun I2 h2 => ?_)
        refine pw_iconst (v := nI 0) dX10_user_63 (by decide) ?_
        refine pw_istore (lv' := [(5, _), (4, _), (3, _), (0, _), (1, _), (2, _)]) dX10_user_64 (by decide) rfl ?_
        refine pw_iconst (v := nI 0) dX10_user_66 (by decide) ?_
        refine pw_istore (lv' := [(6, _), (5, _), (4, _), (3, _), (0, _), (1, _), (2, _)]) dX10_user_67 (by decide) rfl ?_
        have f2 := f.trans (qF.mk h2)
        refine pm_lvs (lv' := [(6, .int (nI 0)), (5, _), (4, _), (3, _), (0, _), (1, _), (2, _)]) rfl ?_
        refine r_us_lp hG hP (by omega) h2 hY hm6 (by omega) (by rw [h2.1 57 (by decide)]; exact hx.2.2.1) hxO.2.1 (fun u => ?_) 64 0 _ rfl
        refine pw_iload dX10_user_140 rfl ?_
        refine pw_if_eq (tgt := 152) dX10_user_142 (by decide) (fun h142 => ?_) (fun h142 => ?_)
        · refine pw_iload_n dX10_user_152 rfl ?_
          refine pw_iload dX10_user_153 rfl ?_
          refine pw_if_eq (tgt := 162) dX10_user_155 (by decide) (fun h155 => ?_) (fun h155 => ?_)
          · refine pw_iconst (v := nI 0) dX10_user_162 (by decide) ?_
            refine pw_isub dX10_user_163 ?_
            refine pw_istore_n (lv' := [(3, _), (6, _), (5, _), (4, _), (0, _), (1, _), (2, _)]) dX10_user_164 (by decide) rfl ?_
            refine pw_sub [3, 0, 4, 5, 6] rfl ?_
            refine pw_iinc (lv' := [(4, _), (3, _), (0, _), (1, _), (2, _)]) dX10_user_165 rfl (by decide) rfl ?_
            refine pw_goto (tgt := 20) dX10_user_168 (by decide) ?_
            refine pm_lvs (lv' := [(4, .int (nI (s + 1))), (3, _), (0, _), (1, _), (2, _)]) (by rw [show nI s + Int32.ofInt 1 = nI (s + 1) from nI_add s 1]) ?_
            exact r_uo_lp hG hP hd hA0 hO kx q (s + 1) _ _ (by omega) (f2)
          · refine pw_iconst (v := nI 1) dX10_user_158 (by decide) ?_
            refine pw_goto (tgt := 163) dX10_user_159 (by decide) ?_
            refine pw_isub dX10_user_163 ?_
            refine pw_istore_n (lv' := [(3, _), (6, _), (5, _), (4, _), (0, _), (1, _), (2, _)]) dX10_user_164 (by decide) rfl ?_
            refine pw_sub [3, 0, 4, 5, 6] rfl ?_
            refine pw_iinc (lv' := [(4, _), (3, _), (0, _), (1, _), (2, _)]) dX10_user_165 rfl (by decide) rfl ?_
            refine pw_goto (tgt := 20) dX10_user_168 (by decide) ?_
            refine pm_lvs (lv' := [(4, .int (nI (s + 1))), (3, _), (0, _), (1, _), (2, _)]) (by rw [show nI s + Int32.ofInt 1 = nI (s + 1) from nI_add s 1]) ?_
            exact r_uo_lp hG hP hd hA0 hO kx q (s + 1) _ _ (by omega) (f2)
        · refine pw_iload_n dX10_user_145 rfl ?_
          refine pw_if_ne (tgt := 152) dX10_user_146 (by decide) (fun h146 => ?_) (fun h146 => ?_)
          · refine pw_iload_n dX10_user_152 rfl ?_
            refine pw_iload dX10_user_153 rfl ?_
            refine pw_if_eq (tgt := 162) dX10_user_155 (by decide) (fun h155 => ?_) (fun h155 => ?_)
            · refine pw_iconst (v := nI 0) dX10_user_162 (by decide) ?_
              refine pw_isub dX10_user_163 ?_
              refine pw_istore_n (lv' := [(3, _), (6, _), (5, _), (4, _), (0, _), (1, _), (2, _)]) dX10_user_164 (by decide) rfl ?_
              refine pw_sub [3, 0, 4, 5, 6] rfl ?_
              refine pw_iinc (lv' := [(4, _), (3, _), (0, _), (1, _), (2, _)]) dX10_user_165 rfl (by decide) rfl ?_
              refine pw_goto (tgt := 20) dX10_user_168 (by decide) ?_
              refine pm_lvs (lv' := [(4, .int (nI (s + 1))), (3, _), (0, _), (1, _), (2, _)]) (by rw [show nI s + Int32.ofInt 1 = nI (s + 1) from nI_add s 1]) ?_
              exact r_uo_lp hG hP hd hA0 hO kx q (s + 1) _ _ (by omega) (f2)
            · refine pw_iconst (v := nI 1) dX10_user_158 (by decide) ?_
              refine pw_goto (tgt := 163) dX10_user_159 (by decide) ?_
              refine pw_isub dX10_user_163 ?_
              refine pw_istore_n (lv' := [(3, _), (6, _), (5, _), (4, _), (0, _), (1, _), (2, _)]) dX10_user_164 (by decide) rfl ?_
              refine pw_sub [3, 0, 4, 5, 6] rfl ?_
              refine pw_iinc (lv' := [(4, _), (3, _), (0, _), (1, _), (2, _)]) dX10_user_165 rfl (by decide) rfl ?_
              refine pw_goto (tgt := 20) dX10_user_168 (by decide) ?_
              refine pm_lvs (lv' := [(4, .int (nI (s + 1))), (3, _), (0, _), (1, _), (2, _)]) (by rw [show nI s + Int32.ofInt 1 = nI (s + 1) from nI_add s 1]) ?_
              exact r_uo_lp hG hP hd hA0 hO kx q (s + 1) _ _ (by omega) (f2)
          · refine pw_iload dX10_user_149 rfl ?_
            exact pw_iret dX10_user_151 rfl (kx _ _ f2)
set_option maxRecDepth 20000 in
set_option maxHeartbeats 400000 in
theorem r_user {l : Launch} {E : pmE} {d : Nat} {S : pmS} {I : pmI} {J : pmJ} {P : pmP} {Q : Option Value → pmS → pmI → pmJ → pmP → Prop} (hG : sh_St S) (hP : gr_St P) (hd : 4 ≤ d) {x y : Int32} {A : aS} (hA : rA I J A) (hO : aO A) (k : ∀ a I', qF I I' → Q (some (.int a)) S I' J P) : pm_Met l E yX10_user cX10_user 7 (some .int) d 0 0 [.ref 47, .int x, .int y] S I J P Q := by
  unfold pm_Met
  refine pm_lvs (lv' := [(0, _), (1, _), (2, _)]) rfl ?_
  refine pw_aload_n dX10_user_0 rfl ?_
  refine pw_iconst (v := nI 0) dX10_user_1 (by decide) ?_
  refine pw_putI fX10_154 dX10_user_2 (Or.inl rfl) (by decide) (sh_lt hG (by decide)) (sh_tg hG 45 rfl) rfl ?_
  refine pw_aload_n dX10_user_5 rfl ?_
  refine pw_iload_n dX10_user_6 rfl ?_
  refine pw_callV (as := [_]) (kc' := 0) (ks' := 0) lX10_360 dX10_user_7 rfl rfl (sh_lt hG (by decide)) (sh_tg hG 45 rfl) (Nat.le_of_ble_eq_true rfl) (by omega) (Nat.le_of_ble_eq_true rfl) (Nat.zero_le _) (Nat.zero_le _) ?_
  refine c_X10_isName hG hP (by omega) (by rw [pm_u_eq, pm_up_ne (by decide)]; exact hA.n) hO.1.2 (fun j hj e => ?_) (fun _ => ?_)
  · refine pw_if_ne (tgt := 15) dX10_user_10 (by decide) (fun h10 => ?_) (fun h => absurd h (by decide))
    refine pw_iload_n dX10_user_15 rfl ?_
    refine pw_istore_n (lv' := [(3, _), (0, _), (1, _), (2, _)]) dX10_user_16 (by decide) rfl ?_
    refine pw_iconst (v := nI 0) dX10_user_17 (by decide) ?_
    refine pw_istore (lv' := [(4, _), (3, _), (0, _), (1, _), (2, _)]) dX10_user_18 (by decide) rfl ?_
    refine pm_lvs (lv' := [(4, .int (nI 0)), (3, _), (0, _), (1, _), (2, _)]) rfl ?_
    exact r_uo_lp hG hP hd (qF.th.rA hA) hO (fun a I' f => k a I' (qF.th.trans f)) A.sn.length 0 _ _ (Nat.zero_add _) qF.refl
  · refine pw_if_ne (tgt := 15) dX10_user_10 (by decide) (fun h => absurd (by decide) h) (fun h10 => ?_)
    refine pw_iconst (v := -1) dX10_user_13 (by decide) ?_
    exact pw_iret dX10_user_14 rfl (k _ _ qF.th)
set_option maxRecDepth 20000 in
set_option maxHeartbeats 400000 in
theorem r_cw_lp {l : Launch} {E : pmE} {d : Nat} {S : pmS} {J : pmJ} {P : pmP} {Q : Option Value → pmS → pmI → pmJ → pmP → Prop} (hG : sh_St S) (hP : gr_St P) (hd : 5 ≤ d) {y : Int32} {A : aS} {I0 : pmI} (hA0 : rA I0 J A) (hO : aO A) (kx : ∀ a I', qF I0 I' → Q (some (.int a)) S I' J P) : ∀ (q s : Nat) (z : Int32) (I : pmI), s + q = A.sn.length → qF I0 I → pm_W l E yX10_count cX10_count 4 (some .int) d 0 0 74 [(3, .int (nI s)), (2, .int z), (0, .ref 47), (1, .int y)] [] S I J P (pm_N E Q)
  | 0, s, z, I, hk, f => by
    have hsl := hO.2.2.2.2.2.2.2.2.2.2.1
    have hA := f.rA hA0
    refine pw_iload_n dX10_count_74 rfl ?_
    refine pw_aload_n dX10_count_75 rfl ?_
    refine pw_getI fX10_220 dX10_count_76 (sh_lt hG (by decide)) (sh_tg hG 45 rfl) rfl ?_
    refine pw_icmpN_ge _ _ (tgt := 105) dX10_count_79 (by decide) (rfl) (hA.k) (by omega) (by omega) (fun h79 => ?_) (fun h79 => absurd h79 (by omega))
    refine pw_iload_n dX10_count_105 rfl ?_
    exact pw_iret dX10_count_106 rfl (kx _ _ f)
  | q + 1, s, z, I, hk, f => by
    have hsl := hO.2.2.2.2.2.2.2.2.2.2.1
    have hA := f.rA hA0
    refine pw_iload_n dX10_count_74 rfl ?_
    refine pw_aload_n dX10_count_75 rfl ?_
    refine pw_getI fX10_220 dX10_count_76 (sh_lt hG (by decide)) (sh_tg hG 45 rfl) rfl ?_
    refine pw_icmpN_ge _ _ (tgt := 105) dX10_count_79 (by decide) (rfl) (hA.k) (by omega) (by omega) (fun h79 => absurd h79 (by omega)) (fun h79 => ?_)
    refine pw_iload_n dX10_count_82 rfl ?_
    refine pw_aload_n dX10_count_83 rfl ?_
    refine pw_iload_n dX10_count_84 rfl ?_
    refine pw_callV (as := [_]) (kc' := 0) (ks' := 0) lX10_373 dX10_count_85 rfl rfl (sh_lt hG (by decide)) (sh_tg hG 45 rfl) (Nat.le_of_ble_eq_true rfl) (by omega) (Nat.le_of_ble_eq_true rfl) (Nat.zero_le _) (Nat.zero_le _) ?_
    refine r_state hG hP (by omega) hA hO (fun a1 I2 f2 => ?_)
    refine pw_iconst (v := nI 1) dX10_count_88 (by decide) ?_
    refine pw_icmp_ne (tgt := 96) dX10_count_89 (by decide) (fun h89 => ?_) (fun h89 => ?_)
    · refine pw_iconst (v := nI 0) dX10_count_96 (by decide) ?_
      refine pw_iadd dX10_count_97 ?_
      refine pw_istore_n (lv' := [(2, _), (3, _), (0, _), (1, _)]) dX10_count_98 (by decide) rfl ?_
      refine pw_sub [1, 0, 2, 3] rfl ?_
      refine pw_iinc (lv' := [(3, _), (2, _), (0, _), (1, _)]) dX10_count_99 rfl (by decide) rfl ?_
      refine pw_goto (tgt := 74) dX10_count_102 (by decide) ?_
      refine pm_lvs (lv' := [(3, .int (nI (s + 1))), (2, _), (0, _), (1, _)]) (by rw [show nI s + Int32.ofInt 1 = nI (s + 1) from nI_add s 1]) ?_
      exact r_cw_lp hG hP hd hA0 hO kx q (s + 1) _ _ (by omega) (f.trans f2)
    · refine pw_iconst (v := nI 1) dX10_count_92 (by decide) ?_
      refine pw_goto (tgt := 97) dX10_count_93 (by decide) ?_
      refine pw_iadd dX10_count_97 ?_
      refine pw_istore_n (lv' := [(2, _), (3, _), (0, _), (1, _)]) dX10_count_98 (by decide) rfl ?_
      refine pw_sub [1, 0, 2, 3] rfl ?_
      refine pw_iinc (lv' := [(3, _), (2, _), (0, _), (1, _)]) dX10_count_99 rfl (by decide) rfl ?_
      refine pw_goto (tgt := 74) dX10_count_102 (by decide) ?_
      refine pm_lvs (lv' := [(3, .int (nI (s + 1))), (2, _), (0, _), (1, _)]) (by rw [show nI s + Int32.ofInt 1 = nI (s + 1) from nI_add s 1]) ?_
      exact r_cw_lp hG hP hd hA0 hO kx q (s + 1) _ _ (by omega) (f.trans f2)
set_option maxRecDepth 20000 in
set_option maxHeartbeats 400000 in
theorem r_count {l : Launch} {E : pmE} {d : Nat} {S : pmS} {I : pmI} {J : pmJ} {P : pmP} {Q : Option Value → pmS → pmI → pmJ → pmP → Prop} (hG : sh_St S) (hP : gr_St P) (hd : 6 ≤ d) {y : Int32} {A : aS} (hA : rA I J A) (hO : aO A) (hRT : rT I J A.th) (k : ∀ a I', qF I I' → Q (some (.int a)) S I' J P) : pm_Met l E yX10_count cX10_count 4 (some .int) d 0 0 [.ref 47, .int y] S I J P Q := by
  unfold pm_Met
  have hA1 : rA (pm_u I 47 0 (nI 0)) J A := qF.th.rA hA
  have hRT1 : rT (pm_u I 47 0 (nI 0)) J A.th := hRT.eq (by rw [pm_u_eq, pm_up_ne (by decide)]) (pm_u_ne (by decide)) (pm_u_ne (by decide)) rfl
  refine pm_lvs (lv' := [(0, _), (1, _)]) rfl ?_
  by_cases hsw : y = 0 ∨ y = 1 ∨ y = 2 ∨ y = 3 ∨ y = 4 ∨ y = 5 ∨ y = 6
  · rcases hsw with rfl | rfl | rfl | rfl | rfl | rfl | rfl
    · refine pw_aload_n dX10_count_0 rfl ?_
      refine pw_iconst (v := nI 0) dX10_count_1 (by decide) ?_
      refine pw_putI fX10_154 dX10_count_2 (Or.inl rfl) (by decide) (sh_lt hG (by decide)) (sh_tg hG 45 rfl) rfl ?_
      refine pw_iconst (v := nI 0) dX10_count_5 (by decide) ?_
      refine pw_istore_n (lv' := [(2, _), (0, _), (1, _)]) dX10_count_6 (by decide) rfl ?_
      refine pw_iload_n dX10_count_7 rfl ?_
      refine pw_tableIn (off := 44) (tgt := 52) dX10_count_8 (by decide) (by decide) (by decide) (by decide) ?_
      refine pw_aload_n dX10_count_52 rfl ?_
      refine pw_getI fX10_220 dX10_count_53 (sh_lt hG (by decide)) (sh_tg hG 45 rfl) rfl ?_
      exact pw_iret dX10_count_56 rfl (k _ _ qF.th)
    · refine pw_aload_n dX10_count_0 rfl ?_
      refine pw_iconst (v := nI 0) dX10_count_1 (by decide) ?_
      refine pw_putI fX10_154 dX10_count_2 (Or.inl rfl) (by decide) (sh_lt hG (by decide)) (sh_tg hG 45 rfl) rfl ?_
      refine pw_iconst (v := nI 0) dX10_count_5 (by decide) ?_
      refine pw_istore_n (lv' := [(2, _), (0, _), (1, _)]) dX10_count_6 (by decide) rfl ?_
      refine pw_iload_n dX10_count_7 rfl ?_
      refine pw_tableIn (off := 49) (tgt := 57) dX10_count_8 (by decide) (by decide) (by decide) (by decide) ?_
      refine pw_aload_n dX10_count_57 rfl ?_
      refine pw_getI fX10_305 dX10_count_58 (sh_lt hG (by decide)) (sh_tg hG 45 rfl) rfl ?_
      exact pw_iret dX10_count_61 rfl (k _ _ qF.th)
    · refine pw_aload_n dX10_count_0 rfl ?_
      refine pw_iconst (v := nI 0) dX10_count_1 (by decide) ?_
      refine pw_putI fX10_154 dX10_count_2 (Or.inl rfl) (by decide) (sh_lt hG (by decide)) (sh_tg hG 45 rfl) rfl ?_
      refine pw_iconst (v := nI 0) dX10_count_5 (by decide) ?_
      refine pw_istore_n (lv' := [(2, _), (0, _), (1, _)]) dX10_count_6 (by decide) rfl ?_
      refine pw_iload_n dX10_count_7 rfl ?_
      refine pw_tableIn (off := 54) (tgt := 62) dX10_count_8 (by decide) (by decide) (by decide) (by decide) ?_
      refine pw_aload_n dX10_count_62 rfl ?_
      refine pw_getI fX10_273 dX10_count_63 (sh_lt hG (by decide)) (sh_tg hG 45 rfl) rfl ?_
      exact pw_iret dX10_count_66 rfl (k _ _ qF.th)
    · refine pw_aload_n dX10_count_0 rfl ?_
      refine pw_iconst (v := nI 0) dX10_count_1 (by decide) ?_
      refine pw_putI fX10_154 dX10_count_2 (Or.inl rfl) (by decide) (sh_lt hG (by decide)) (sh_tg hG 45 rfl) rfl ?_
      refine pw_iconst (v := nI 0) dX10_count_5 (by decide) ?_
      refine pw_istore_n (lv' := [(2, _), (0, _), (1, _)]) dX10_count_6 (by decide) rfl ?_
      refine pw_iload_n dX10_count_7 rfl ?_
      refine pw_tableIn (off := 59) (tgt := 67) dX10_count_8 (by decide) (by decide) (by decide) (by decide) ?_
      refine pw_aload_n dX10_count_67 rfl ?_
      refine pw_getI fX10_164 dX10_count_68 (sh_lt hG (by decide)) (sh_tg hG 45 rfl) rfl ?_
      exact pw_iret dX10_count_71 rfl (k _ _ qF.th)
    · refine pw_aload_n dX10_count_0 rfl ?_
      refine pw_iconst (v := nI 0) dX10_count_1 (by decide) ?_
      refine pw_putI fX10_154 dX10_count_2 (Or.inl rfl) (by decide) (sh_lt hG (by decide)) (sh_tg hG 45 rfl) rfl ?_
      refine pw_iconst (v := nI 0) dX10_count_5 (by decide) ?_
      refine pw_istore_n (lv' := [(2, _), (0, _), (1, _)]) dX10_count_6 (by decide) rfl ?_
      refine pw_iload_n dX10_count_7 rfl ?_
      refine pw_tableIn (off := 64) (tgt := 72) dX10_count_8 (by decide) (by decide) (by decide) (by decide) ?_
      refine pw_iconst (v := nI 0) dX10_count_72 (by decide) ?_
      refine pw_istore_n (lv' := [(3, _), (2, _), (0, _), (1, _)]) dX10_count_73 (by decide) rfl ?_
      refine pm_lvs (lv' := [(3, .int (nI 0)), (2, _), (0, _), (1, _)]) rfl ?_
      exact r_cw_lp hG hP (by omega) hA1 hO (fun a I' f => k a I' (qF.th.trans f)) A.sn.length 0 _ _ (Nat.zero_add _) qF.refl
    · refine pw_aload_n dX10_count_0 rfl ?_
      refine pw_iconst (v := nI 0) dX10_count_1 (by decide) ?_
      refine pw_putI fX10_154 dX10_count_2 (Or.inl rfl) (by decide) (sh_lt hG (by decide)) (sh_tg hG 45 rfl) rfl ?_
      refine pw_iconst (v := nI 0) dX10_count_5 (by decide) ?_
      refine pw_istore_n (lv' := [(2, _), (0, _), (1, _)]) dX10_count_6 (by decide) rfl ?_
      refine pw_iload_n dX10_count_7 rfl ?_
      refine pw_tableIn (off := 99) (tgt := 107) dX10_count_8 (by decide) (by decide) (by decide) (by decide) ?_
      refine pw_iconst (v := nI 1) dX10_count_107 (by decide) ?_
      refine pw_istore_n (lv' := [(3, _), (2, _), (0, _), (1, _)]) dX10_count_108 (by decide) rfl ?_
      refine pm_lvs (lv' := [(3, .int (nI 1)), (2, _), (0, _), (1, _)]) rfl ?_
      exact r_co_lp hG hP (by omega) hA1 hO hRT1 (fun a => k a _ qF.th) A.rs.length 1 _ (by decide) (by omega)
    · refine pw_aload_n dX10_count_0 rfl ?_
      refine pw_iconst (v := nI 0) dX10_count_1 (by decide) ?_
      refine pw_putI fX10_154 dX10_count_2 (Or.inl rfl) (by decide) (sh_lt hG (by decide)) (sh_tg hG 45 rfl) rfl ?_
      refine pw_iconst (v := nI 0) dX10_count_5 (by decide) ?_
      refine pw_istore_n (lv' := [(2, _), (0, _), (1, _)]) dX10_count_6 (by decide) rfl ?_
      refine pw_iload_n dX10_count_7 rfl ?_
      refine pw_tableIn (off := 149) (tgt := 157) dX10_count_8 (by decide) (by decide) (by decide) (by decide) ?_
      refine pw_aload_n dX10_count_157 rfl ?_
      refine pw_getI fX10_354 dX10_count_158 (sh_lt hG (by decide)) (sh_tg hG 45 rfl) rfl ?_
      exact pw_iret dX10_count_161 rfl (k _ _ qF.th)
  · have q := sw_out hsw
    refine pw_aload_n dX10_count_0 rfl ?_
    refine pw_iconst (v := nI 0) dX10_count_1 (by decide) ?_
    refine pw_putI fX10_154 dX10_count_2 (Or.inl rfl) (by decide) (sh_lt hG (by decide)) (sh_tg hG 45 rfl) rfl ?_
    refine pw_iconst (v := nI 0) dX10_count_5 (by decide) ?_
    refine pw_istore_n (lv' := [(2, _), (0, _), (1, _)]) dX10_count_6 (by decide) rfl ?_
    refine pw_iload_n dX10_count_7 rfl ?_
    refine pw_tableOut (tgt := 162) dX10_count_8 q (by decide) ?_
    refine pw_bipush (v := -2) dX10_count_162 (by decide) ?_
    exact pw_iret dX10_count_164 rfl (k _ _ qF.th)
