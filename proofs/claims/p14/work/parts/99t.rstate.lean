/-- only marks and the word of what was thrown differ -/
def qF (I I' : pmI) : Prop := (∀ a, a ≠ 47 → a ≠ 94 → I' a = I a) ∧ ∀ k, k ≠ 0 → I' 47 k = I 47 k
theorem qF.refl {I : pmI} : qF I I := ⟨fun _ _ _ => rfl, fun _ _ => rfl⟩
theorem qF.trans {I I1 I2 : pmI} (h : qF I I1) (h' : qF I1 I2) : qF I I2 := ⟨fun a q1 q2 => by rw [h'.1 a q1 q2, h.1 a q1 q2], fun k q => by rw [h'.2 k q, h.2 k q]⟩
theorem qF.th {I : pmI} {x : Int32} : qF I (pm_u I 47 0 x) := ⟨fun a q1 _ => pm_u_ne q1, fun k q => by rw [pm_u_eq, pm_up_ne q]⟩
theorem qF.mk {I I' : pmI} {m : Nat} (h : mkS I m I') : qF I I' := ⟨fun a _ q => h.1 a q, fun k _ => by rw [h.1 47 (by decide)]⟩
theorem qF.rA {I I' : pmI} {J : pmJ} {A : aS} (f : qF I I') (h : rA I J A) : rA I' J A := h.mv' (fun a q1 q2 => ⟨f.1 a (by omega) (by omega), rfl⟩) (f.2 3 (by decide)) (f.2 27 (by decide)) (f.2 10 (by decide))
theorem qF.qI {I I' : pmI} {J : pmJ} {A : aS} {tx : Nat → Nat} {n : Nat} (f : qF I I') (h : qI I J A tx n) : qI I' J A tx n :=
  ⟨f.rA h.1, h.2.1.eq (f.2 30 (by decide)) (f.1 73 (by decide) (by decide)) (f.1 74 (by decide) (by decide)) rfl, fun j hj => by rw [f.1 48 (by decide) (by decide)]; exact h.2.2.1 j hj, by rw [f.2 2 (by decide)]; exact h.2.2.2⟩
theorem qF.oR {I I' : pmI} {J : pmJ} (f : qF I I') : oR I J I' J := fun a ha => ⟨f.1 a (by omega) (by omega), rfl⟩
set_option maxRecDepth 20000 in
set_option maxHeartbeats 400000 in
theorem r_ag_lp {l : Launch} {E : pmE} {d : Nat} {S : pmS} {I : pmI} {J : pmJ} {P : pmP} {Q : Option Value → pmS → pmI → pmJ → pmP → Prop} (hG : sh_St S) (hP : gr_St P) {s pl : Nat} {x : Int32} (hs : s ≤ 39) (hp : I 57 s = nI pl) (hpl : pl ≤ 3) (kx : ∀ a, Q (some (.int a)) S I J P) : ∀ (m k : Nat), k + m = pl → pm_W l E yX10_argumentOf cX10_argumentOf 4 (some .int) d 0 0 2 [(3, .int (nI k)), (0, .ref 47), (1, .int (nI s)), (2, .int x)] [] S I J P (pm_N E Q)
  | 0, k, hk => by
    refine pw_iload_n dX10_argumentOf_2 rfl ?_
    refine pw_aload_n dX10_argumentOf_3 rfl ?_
    refine pw_getR fX10_38 dX10_argumentOf_4 (sh_lt hG (by decide)) (sh_tg hG 45 rfl) rfl (gr_at hP 49 rfl) ?_
    refine pw_iload_n dX10_argumentOf_7 rfl ?_
    refine pw_ialdN s dX10_argumentOf_8 (sh_lt hG (by decide)) (sh_sh hG 55 rfl) (by decide) (rfl) (by omega) ?_
    refine pw_icmpN_ge _ _ (tgt := 34) dX10_argumentOf_9 (by decide) (rfl) (hp) (by omega) (by omega) (fun h9 => ?_) (fun h9 => absurd h9 (by omega))
    refine pw_iconst (v := -1) dX10_argumentOf_34 (by decide) ?_
    exact pw_iret dX10_argumentOf_35 rfl (kx _)
  | m + 1, k, hk => by
    refine pw_iload_n dX10_argumentOf_2 rfl ?_
    refine pw_aload_n dX10_argumentOf_3 rfl ?_
    refine pw_getR fX10_38 dX10_argumentOf_4 (sh_lt hG (by decide)) (sh_tg hG 45 rfl) rfl (gr_at hP 49 rfl) ?_
    refine pw_iload_n dX10_argumentOf_7 rfl ?_
    refine pw_ialdN s dX10_argumentOf_8 (sh_lt hG (by decide)) (sh_sh hG 55 rfl) (by decide) (rfl) (by omega) ?_
    refine pw_icmpN_ge _ _ (tgt := 34) dX10_argumentOf_9 (by decide) (rfl) (hp) (by omega) (by omega) (fun h9 => absurd h9 (by omega)) (fun h9 => ?_)
    refine pw_aload_n dX10_argumentOf_12 rfl ?_
    refine pw_getR fX10_41 dX10_argumentOf_13 (sh_lt hG (by decide)) (sh_tg hG 45 rfl) rfl (gr_at hP 50 rfl) ?_
    refine pw_iconst (v := nI 3) dX10_argumentOf_16 (by decide) ?_
    refine pw_iload_n dX10_argumentOf_17 rfl ?_
    refine pw_imul dX10_argumentOf_18 ?_
    refine pw_iload_n dX10_argumentOf_19 rfl ?_
    refine pw_iadd dX10_argumentOf_20 ?_
    refine pw_ti (z := nI (3 * s + k)) (by rw [show nI 3 * nI s = nI (3 * s) from (Int32.ofNat_mul 3 _).symm]; exact nI_add _ _) ?_
    refine pw_ialdN (3 * s + k) dX10_argumentOf_21 (sh_lt hG (by decide)) (sh_sh hG 56 rfl) (by decide) (rfl) (by omega) ?_
    refine pw_iload_n dX10_argumentOf_22 rfl ?_
    refine pw_icmp_ne (tgt := 28) dX10_argumentOf_23 (by decide) (fun h23 => ?_) (fun h23 => ?_)
    · refine pw_iinc (lv' := [(3, _), (0, _), (1, _), (2, _)]) dX10_argumentOf_28 rfl (by decide) rfl ?_
      refine pw_goto (tgt := 2) dX10_argumentOf_31 (by decide) ?_
      refine pm_lvs (lv' := [(3, .int (nI (k + 1))), (0, _), (1, _), (2, _)]) (by rw [show nI k + Int32.ofInt 1 = nI (k + 1) from nI_add k 1]) ?_
      exact r_ag_lp hG hP hs hp hpl kx m (k + 1) (by omega)
    · refine pw_iload_n dX10_argumentOf_26 rfl ?_
      exact pw_iret dX10_argumentOf_27 rfl (kx _)
set_option maxRecDepth 20000 in
set_option maxHeartbeats 400000 in
theorem r_argX {l : Launch} {E : pmE} {d : Nat} {S : pmS} {I : pmI} {J : pmJ} {P : pmP} {Q : Option Value → pmS → pmI → pmJ → pmP → Prop} (hG : sh_St S) (hP : gr_St P) {s pl : Nat} {x : Int32} (hs : s ≤ 39) (hp : I 57 s = nI pl) (hpl : pl ≤ 3) (k : ∀ a, Q (some (.int a)) S I J P) : pm_Met l E yX10_argumentOf cX10_argumentOf 4 (some .int) d 0 0 [.ref 47, .int (nI s), .int x] S I J P Q := by
  unfold pm_Met
  refine pm_lvs (lv' := [(0, _), (1, _), (2, _)]) rfl ?_
  refine pw_iconst (v := nI 0) dX10_argumentOf_0 (by decide) ?_
  refine pw_istore_n (lv' := [(3, _), (0, _), (1, _), (2, _)]) dX10_argumentOf_1 (by decide) rfl ?_
  exact r_ag_lp hG hP hs hp hpl k pl 0 (Nat.zero_add _)
set_option maxRecDepth 20000 in
set_option maxHeartbeats 400000 in
theorem r_tells {l : Launch} {E : pmE} {d : Nat} {S : pmS} {I : pmI} {J : pmJ} {P : pmP} {Q : Option Value → pmS → pmI → pmJ → pmP → Prop} (hG : sh_St S) (hP : gr_St P) (hd : 1 ≤ d) {s pl n : Nat} (hs : s ≤ 39) (hp : I 57 s = nI pl) (hpl : pl ≤ 3) (hn : n < 64 * s + 64) (k1 : (I 63 n = nI 2 ∨ I 63 n = nI 3) → Q (some (.int (nI 1))) S I J P) (k0 : Q (some (.int (nI 0))) S I J P) : pm_Met l E yX10_tells cX10_tells 3 (some .boolean) d 0 0 [.ref 47, .int (nI s), .int (nI n)] S I J P Q := by
  unfold pm_Met
  refine pm_lvs (lv' := [(0, _), (1, _), (2, _)]) rfl ?_
  refine pw_aload_n dX10_tells_0 rfl ?_
  refine pw_getR fX10_56 dX10_tells_1 (sh_lt hG (by decide)) (sh_tg hG 45 rfl) rfl (gr_at hP 55 rfl) ?_
  refine pw_iload_n dX10_tells_4 rfl ?_
  refine pw_ialdN n dX10_tells_5 (sh_lt hG (by decide)) (sh_sh hG 61 rfl) (by decide) (rfl) (by omega) ?_
  refine pw_iconst (v := nI 3) dX10_tells_6 (by decide) ?_
  refine pw_icmp_eq (tgt := 35) dX10_tells_7 (by decide) (fun h7 => ?_) (fun h7 => ?_)
  · refine pw_iconst (v := nI 1) dX10_tells_35 (by decide) ?_
    refine pw_goto (tgt := 40) dX10_tells_36 (by decide) ?_
    exact pw_zret dX10_tells_40 rfl (by decide) (k1 (Or.inr h7))
  · refine pw_aload_n dX10_tells_10 rfl ?_
    refine pw_getR fX10_56 dX10_tells_11 (sh_lt hG (by decide)) (sh_tg hG 45 rfl) rfl (gr_at hP 55 rfl) ?_
    refine pw_iload_n dX10_tells_14 rfl ?_
    refine pw_ialdN n dX10_tells_15 (sh_lt hG (by decide)) (sh_sh hG 61 rfl) (by decide) (rfl) (by omega) ?_
    refine pw_iconst (v := nI 2) dX10_tells_16 (by decide) ?_
    refine pw_icmp_ne (tgt := 39) dX10_tells_17 (by decide) (fun h17 => ?_) (fun h17 => ?_)
    · refine pw_iconst (v := nI 0) dX10_tells_39 (by decide) ?_
      exact pw_zret dX10_tells_40 rfl (by decide) (k0)
    · refine pw_aload_n dX10_tells_20 rfl ?_
      refine pw_iload_n dX10_tells_21 rfl ?_
      refine pw_aload_n dX10_tells_22 rfl ?_
      refine pw_getR fX10_77 dX10_tells_23 (sh_lt hG (by decide)) (sh_tg hG 45 rfl) rfl (gr_at hP 62 rfl) ?_
      refine pw_iload_n dX10_tells_26 rfl ?_
      refine pw_laldN n dX10_tells_27 (sh_lt hG (by decide)) (sh_sh hG 68 rfl) (by decide) (rfl) (by omega) ?_
      refine pw_l2i dX10_tells_28 ?_
      refine pw_callV (as := [_, _]) (kc' := 0) (ks' := 0) lX10_291 dX10_tells_29 rfl rfl (sh_lt hG (by decide)) (sh_tg hG 45 rfl) (Nat.le_of_ble_eq_true rfl) (by omega) (Nat.le_of_ble_eq_true rfl) (Nat.zero_le _) (Nat.zero_le _) ?_
      refine r_argX hG hP hs hp hpl (fun a => ?_)
      refine pw_if_ge (tgt := 39) dX10_tells_32 (by decide) (fun h32 => ?_) (fun h32 => ?_)
      · refine pw_iconst (v := nI 0) dX10_tells_39 (by decide) ?_
        exact pw_zret dX10_tells_40 rfl (by decide) (k0)
      · refine pw_iconst (v := nI 1) dX10_tells_35 (by decide) ?_
        refine pw_goto (tgt := 40) dX10_tells_36 (by decide) ?_
        exact pw_zret dX10_tells_40 rfl (by decide) (k1 (Or.inl h17))
set_option maxRecDepth 20000 in
set_option maxHeartbeats 400000 in
theorem r_st_lp {l : Launch} {E : pmE} {d : Nat} {S : pmS} {I : pmI} {J : pmJ} {P : pmP} {Q : Option Value → pmS → pmI → pmJ → pmP → Prop} (hG : sh_St S) (hP : gr_St P) (hd : 2 ≤ d) {I1 : pmI} {s m pl : Nat} (h : mkS I1 m I) (hY : nY I1 J (64 * s) (64 * s + m)) (hm : m ≤ 60) (hs : s ≤ 39) (hp : I 57 s = nI pl) (hpl : pl ≤ 3) (kx : ∀ a, Q (some (.int a)) S I J P) : ∀ (q k : Nat) (w : Int32), k + q = 64 → pm_W l E yX10_state cX10_state 6 (some .int) d 0 0 68 [(3, .int (nI k)), (2, .int w), (0, .ref 47), (1, .int (nI s))] [] S I J P (pm_N E Q)
  | 0, k, w, hk => by
    refine pw_iload_n dX10_state_68 rfl ?_
    refine pw_bipush (v := nI 64) dX10_state_69 (by decide) ?_
    refine pw_icmpN_ge _ _ (tgt := 158) dX10_state_71 (by decide) (rfl) (rfl) (by omega) (by omega) (fun h71 => ?_) (fun h71 => absurd h71 (by omega))
    refine pw_iload_n dX10_state_158 rfl ?_
    refine pw_if_eq (tgt := 166) dX10_state_159 (by decide) (fun h159 => ?_) (fun h159 => ?_)
    · refine pw_iconst (v := nI 0) dX10_state_166 (by decide) ?_
      exact pw_iret dX10_state_167 rfl (kx _)
    · refine pw_iconst (v := nI 1) dX10_state_162 (by decide) ?_
      refine pw_goto (tgt := 167) dX10_state_163 (by decide) ?_
      exact pw_iret dX10_state_167 rfl (kx _)
  | q + 1, k, w, hk => by
    refine pw_iload_n dX10_state_68 rfl ?_
    refine pw_bipush (v := nI 64) dX10_state_69 (by decide) ?_
    refine pw_icmpN_ge _ _ (tgt := 158) dX10_state_71 (by decide) (rfl) (rfl) (by omega) (by omega) (fun h71 => absurd h71 (by omega)) (fun h71 => ?_)
    refine pw_bipush (v := nI 64) dX10_state_74 (by decide) ?_
    refine pw_iload_n dX10_state_76 rfl ?_
    refine pw_imul dX10_state_77 ?_
    refine pw_iload_n dX10_state_78 rfl ?_
    refine pw_iadd dX10_state_79 ?_
    refine pw_ti (z := nI (64 * s + k)) (by rw [show nI 64 * nI s = nI (64 * s) from (Int32.ofNat_mul 64 _).symm]; exact nI_add _ _) ?_
    refine pw_istore (lv' := [(4, _), (3, _), (2, _), (0, _), (1, _)]) dX10_state_80 (by decide) rfl ?_
    refine pw_aload_n dX10_state_82 rfl ?_
    refine pw_getR fX10_150 dX10_state_83 (sh_lt hG (by decide)) (sh_tg hG 45 rfl) rfl (gr_at hP 86 rfl) ?_
    refine pw_iload_n dX10_state_86 rfl ?_
    refine pw_zaldN k dX10_state_87 (sh_lt hG (by decide)) (sh_sh hG 92 rfl) (by decide) (rfl) (by omega) ?_
    refine pw_if_eq (tgt := 152) dX10_state_88 (by decide) (fun h88 => ?_) (fun h88 => ?_)
    · refine pw_sub [1, 2, 3, 4] rfl ?_
      refine pw_iinc (lv' := [(3, _), (2, _), (0, _), (1, _)]) dX10_state_152 rfl (by decide) rfl ?_
      refine pw_goto (tgt := 68) dX10_state_155 (by decide) ?_
      refine pm_lvs (lv' := [(3, .int (nI (k + 1))), (2, _), (0, _), (1, _)]) (by rw [show nI k + Int32.ofInt 1 = nI (k + 1) from nI_add k 1]) ?_
      exact r_st_lp hG hP hd h hY hm hs hp hpl kx q (k + 1) _ (by omega)
    · refine pw_aload_n dX10_state_91 rfl ?_
      refine pw_iload_n dX10_state_92 rfl ?_
      refine pw_iload dX10_state_93 rfl ?_
      refine pw_callV (as := [_, _]) (kc' := 0) (ks' := 0) lX10_369 dX10_state_95 rfl rfl (sh_lt hG (by decide)) (sh_tg hG 45 rfl) (Nat.le_of_ble_eq_true rfl) (by omega) (Nat.le_of_ble_eq_true rfl) (Nat.zero_le _) (Nat.zero_le _) ?_
      refine r_tells hG hP (by omega) hs hp hpl (by omega) (fun hk9 => ?_) ?_
      · have hkm : k < m := (h.2 k (by omega)).resolve_left (fun q9 => h88 q9)
        rw [h.1 63 (by decide)] at hk9
        obtain ⟨j, hj, ej⟩ := hY.2.1 (64 * s + k) (by omega) (by omega) hk9
        refine pw_if_eq (tgt := 152) dX10_state_98 (by decide) (fun h => absurd h (by decide)) (fun h98 => ?_)
        refine pw_aload_n dX10_state_101 rfl ?_
        refine pw_getR fX10_17 dX10_state_102 (sh_lt hG (by decide)) (sh_tg hG 45 rfl) rfl (gr_at hP 42 rfl) ?_
        refine pw_aload_n dX10_state_105 rfl ?_
        refine pw_getR fX10_77 dX10_state_106 (sh_lt hG (by decide)) (sh_tg hG 45 rfl) rfl (gr_at hP 62 rfl) ?_
        refine pw_iload dX10_state_109 rfl ?_
        refine pw_laldN (64 * s + k) dX10_state_111 (sh_lt hG (by decide)) (sh_sh hG 68 rfl) (by decide) (rfl) (by omega) ?_
        refine pw_l2i dX10_state_112 ?_
        refine pw_ti (z := nI j) (by rw [ej]; exact lN_i _) ?_
        refine pw_ialdN j dX10_state_113 (sh_lt hG (by decide)) (sh_sh hG 48 rfl) (by decide) (rfl) (by omega) ?_
        refine pw_istore (lv' := [(5, _), (4, _), (3, _), (2, _), (0, _), (1, _)]) dX10_state_114 (by decide) rfl ?_
        refine pw_iload_n dX10_state_116 rfl ?_
        refine pw_if_ne (tgt := 146) dX10_state_117 (by decide) (fun h117 => ?_) (fun h117 => ?_)
        · refine pw_iconst (v := nI 1) dX10_state_146 (by decide) ?_
          refine pw_goto (tgt := 151) dX10_state_147 (by decide) ?_
          refine pw_istore_n (lv' := [(2, _), (5, _), (4, _), (3, _), (0, _), (1, _)]) dX10_state_151 (by decide) rfl ?_
          refine pw_sub [3, 0, 4, 5] rfl ?_
          refine pw_iinc (lv' := [(3, _), (2, _), (0, _), (1, _)]) dX10_state_152 rfl (by decide) rfl ?_
          refine pw_goto (tgt := 68) dX10_state_155 (by decide) ?_
          refine pm_lvs (lv' := [(3, .int (nI (k + 1))), (2, _), (0, _), (1, _)]) (by rw [show nI k + Int32.ofInt 1 = nI (k + 1) from nI_add k 1]) ?_
          exact r_st_lp hG hP hd h hY hm hs hp hpl kx q (k + 1) _ (by omega)
        · refine pw_aload_n dX10_state_120 rfl ?_
          refine pw_getR fX10_56 dX10_state_121 (sh_lt hG (by decide)) (sh_tg hG 45 rfl) rfl (gr_at hP 55 rfl) ?_
          refine pw_iload dX10_state_124 rfl ?_
          refine pw_ialdN (64 * s + k) dX10_state_126 (sh_lt hG (by decide)) (sh_sh hG 61 rfl) (by decide) (rfl) (by omega) ?_
          refine pw_iconst (v := nI 3) dX10_state_127 (by decide) ?_
          refine pw_icmp_ne (tgt := 140) dX10_state_128 (by decide) (fun h128 => ?_) (fun h128 => ?_)
          · refine pw_iload dX10_state_140 rfl ?_
            refine pw_iconst (v := nI 1) dX10_state_142 (by decide) ?_
            refine pw_icmp_eq (tgt := 150) dX10_state_143 (by decide) (fun h143 => ?_) (fun h143 => ?_)
            · refine pw_iconst (v := nI 0) dX10_state_150 (by decide) ?_
              refine pw_istore_n (lv' := [(2, _), (5, _), (4, _), (3, _), (0, _), (1, _)]) dX10_state_151 (by decide) rfl ?_
              refine pw_sub [3, 0, 4, 5] rfl ?_
              refine pw_iinc (lv' := [(3, _), (2, _), (0, _), (1, _)]) dX10_state_152 rfl (by decide) rfl ?_
              refine pw_goto (tgt := 68) dX10_state_155 (by decide) ?_
              refine pm_lvs (lv' := [(3, .int (nI (k + 1))), (2, _), (0, _), (1, _)]) (by rw [show nI k + Int32.ofInt 1 = nI (k + 1) from nI_add k 1]) ?_
              exact r_st_lp hG hP hd h hY hm hs hp hpl kx q (k + 1) _ (by omega)
            · refine pw_iconst (v := nI 1) dX10_state_146 (by decide) ?_
              refine pw_goto (tgt := 151) dX10_state_147 (by decide) ?_
              refine pw_istore_n (lv' := [(2, _), (5, _), (4, _), (3, _), (0, _), (1, _)]) dX10_state_151 (by decide) rfl ?_
              refine pw_sub [3, 0, 4, 5] rfl ?_
              refine pw_iinc (lv' := [(3, _), (2, _), (0, _), (1, _)]) dX10_state_152 rfl (by decide) rfl ?_
              refine pw_goto (tgt := 68) dX10_state_155 (by decide) ?_
              refine pm_lvs (lv' := [(3, .int (nI (k + 1))), (2, _), (0, _), (1, _)]) (by rw [show nI k + Int32.ofInt 1 = nI (k + 1) from nI_add k 1]) ?_
              exact r_st_lp hG hP hd h hY hm hs hp hpl kx q (k + 1) _ (by omega)
          · refine pw_iload dX10_state_131 rfl ?_
            refine pw_iconst (v := nI 2) dX10_state_133 (by decide) ?_
            refine pw_icmp_ge (tgt := 150) dX10_state_134 (by decide) (fun h134 => ?_) (fun h134 => ?_)
            · refine pw_iconst (v := nI 0) dX10_state_150 (by decide) ?_
              refine pw_istore_n (lv' := [(2, _), (5, _), (4, _), (3, _), (0, _), (1, _)]) dX10_state_151 (by decide) rfl ?_
              refine pw_sub [3, 0, 4, 5] rfl ?_
              refine pw_iinc (lv' := [(3, _), (2, _), (0, _), (1, _)]) dX10_state_152 rfl (by decide) rfl ?_
              refine pw_goto (tgt := 68) dX10_state_155 (by decide) ?_
              refine pm_lvs (lv' := [(3, .int (nI (k + 1))), (2, _), (0, _), (1, _)]) (by rw [show nI k + Int32.ofInt 1 = nI (k + 1) from nI_add k 1]) ?_
              exact r_st_lp hG hP hd h hY hm hs hp hpl kx q (k + 1) _ (by omega)
            · refine pw_goto (tgt := 146) dX10_state_137 (by decide) ?_
              refine pw_iconst (v := nI 1) dX10_state_146 (by decide) ?_
              refine pw_goto (tgt := 151) dX10_state_147 (by decide) ?_
              refine pw_istore_n (lv' := [(2, _), (5, _), (4, _), (3, _), (0, _), (1, _)]) dX10_state_151 (by decide) rfl ?_
              refine pw_sub [3, 0, 4, 5] rfl ?_
              refine pw_iinc (lv' := [(3, _), (2, _), (0, _), (1, _)]) dX10_state_152 rfl (by decide) rfl ?_
              refine pw_goto (tgt := 68) dX10_state_155 (by decide) ?_
              refine pm_lvs (lv' := [(3, .int (nI (k + 1))), (2, _), (0, _), (1, _)]) (by rw [show nI k + Int32.ofInt 1 = nI (k + 1) from nI_add k 1]) ?_
              exact r_st_lp hG hP hd h hY hm hs hp hpl kx q (k + 1) _ (by omega)
      · refine pw_if_eq (tgt := 152) dX10_state_98 (by decide) (fun h98 => ?_) (fun h => absurd (by decide) h)
        refine pw_sub [1, 2, 3, 4] rfl ?_
        refine pw_iinc (lv' := [(3, _), (2, _), (0, _), (1, _)]) dX10_state_152 rfl (by decide) rfl ?_
        refine pw_goto (tgt := 68) dX10_state_155 (by decide) ?_
        refine pm_lvs (lv' := [(3, .int (nI (k + 1))), (2, _), (0, _), (1, _)]) (by rw [show nI k + Int32.ofInt 1 = nI (k + 1) from nI_add k 1]) ?_
        exact r_st_lp hG hP hd h hY hm hs hp hpl kx q (k + 1) _ (by omega)
set_option maxRecDepth 20000 in
set_option maxHeartbeats 400000 in
theorem r_state {l : Launch} {E : pmE} {d : Nat} {S : pmS} {I : pmI} {J : pmJ} {P : pmP} {Q : Option Value → pmS → pmI → pmJ → pmP → Prop} (hG : sh_St S) (hP : gr_St P) (hd : 4 ≤ d) {x : Int32} {A : aS} (hA : rA I J A) (hO : aO A) (k : ∀ a I', qF I I' → Q (some (.int a)) S I' J P) : pm_Met l E yX10_state cX10_state 6 (some .int) d 0 0 [.ref 47, .int x] S I J P Q := by
  unfold pm_Met
  have hsl := hO.2.2.2.2.2.2.2.2.2.2.1
  refine pm_lvs (lv' := [(0, _), (1, _)]) rfl ?_
  refine pw_aload_n dX10_state_0 rfl ?_
  refine pw_iconst (v := nI 0) dX10_state_1 (by decide) ?_
  refine pw_putI fX10_154 dX10_state_2 (Or.inl rfl) (by decide) (sh_lt hG (by decide)) (sh_tg hG 45 rfl) rfl ?_
  refine pw_iload_n dX10_state_5 rfl ?_
  refine pw_iconst (v := nI 0) dX10_state_6 (by decide) ?_
  refine pw_aload_n dX10_state_7 rfl ?_
  refine pw_getI fX10_220 dX10_state_8 (sh_lt hG (by decide)) (sh_tg hG 45 rfl) rfl ?_
  refine pw_ti (z := nI A.sn.length) (by rw [pm_u_eq, pm_up_ne (by decide)]; exact hA.k) ?_
  refine pw_iconst (v := nI 1) dX10_state_11 (by decide) ?_
  refine pw_isub dX10_state_12 ?_
  refine pw_callS (as := [_, _, _]) (kc' := 0) (ks' := 0) lX10_160 dX10_state_13 rfl rfl (Nat.le_of_ble_eq_true rfl) (by omega) (Nat.le_of_ble_eq_true rfl) (Nat.zero_le _) (Nat.zero_le _) ?_
  refine c_X10_in (fun q1 q2 => ?_) (fun _ => ?_)
  · obtain ⟨s, hs, rfl⟩ := in_n1 (by omega) q1 q2
    obtain ⟨I1, hI1⟩ : ∃ I9, I9 = pm_u I 47 0 (nI 0) := ⟨_, rfl⟩
    rw [← hI1]
    have f1 : qF I I1 := by rw [hI1]; exact qF.th
    have hA1 := f1.rA hA
    have hx := hA1.sn hs
    have hxO := hO.2.2.2.2.1 s hs
    have hf3 := hxO.1
    have hnl := hO.1.2
    refine pw_if_ne (tgt := 21) dX10_state_16 (by decide) (fun h16 => ?_) (fun h => absurd h (by decide))
    refine pw_aload_n dX10_state_21 rfl ?_
    refine pw_getR fX10_32 dX10_state_22 (sh_lt hG (by decide)) (sh_tg hG 45 rfl) rfl (gr_at hP 47 rfl) ?_
    refine pw_iload_n dX10_state_25 rfl ?_
    refine pw_ialdN s dX10_state_26 (sh_lt hG (by decide)) (sh_sh hG 53 rfl) (by decide) (rfl) (by omega) ?_
    refine pw_ifN_le _ (tgt := 47) dX10_state_27 (by decide) (hx.1) (by omega) (fun h27 => ?_) (fun h27 => ?_)
    · refine pw_aload_n dX10_state_47 rfl ?_
      refine pw_getR fX10_32 dX10_state_48 (sh_lt hG (by decide)) (sh_tg hG 45 rfl) rfl (gr_at hP 47 rfl) ?_
      refine pw_iload_n dX10_state_51 rfl ?_
      refine pw_ialdN s dX10_state_52 (sh_lt hG (by decide)) (sh_sh hG 53 rfl) (by decide) (rfl) (by omega) ?_
      refine pw_iconst (v := nI 2) dX10_state_53 (by decide) ?_
      refine pw_icmpN_eq _ _ (tgt := 59) dX10_state_54 (by decide) (hx.1) (rfl) (by omega) (by omega) (fun h54 => ?_) (fun h54 => ?_)
      · have h54' : (A.at s).form = 2 := by omega
        obtain ⟨m, hm6, hY, N, hN, hny⟩ := hx.2.2.2.2.2.2 h54'
        refine pw_aload_n dX10_state_59 rfl ?_
        refine pw_iload_n dX10_state_60 rfl ?_
        refine pw_callV (as := [_]) (kc' := 0) (ks' := 0) lX10_366 dX10_state_61 rfl rfl (sh_lt hG (by decide)) (sh_tg hG 45 rfl) (Nat.le_of_ble_eq_true rfl) (by omega) (Nat.le_of_ble_eq_true rfl) (Nat.zero_le _) (Nat.zero_le _) ?_
        refine r_reach hG hP (by omega) (by omega) hm6 hY.1 hN hny.bd (fun I2 h2 => ?_)
        refine pw_iconst (v := nI 0) dX10_state_64 (by decide) ?_
        refine pw_istore_n (lv' := [(2, _), (0, _), (1, _)]) dX10_state_65 (by decide) rfl ?_
        refine pw_iconst (v := nI 0) dX10_state_66 (by decide) ?_
        refine pw_istore_n (lv' := [(3, _), (2, _), (0, _), (1, _)]) dX10_state_67 (by decide) rfl ?_
        refine pm_lvs (lv' := [(3, .int (nI 0)), (2, _), (0, _), (1, _)]) rfl ?_
        exact r_st_lp hG hP (by omega) h2 hY hm6 (by omega) (by rw [h2.1 57 (by decide)]; exact hx.2.2.1) hxO.2.1 (fun a => k a I2 (f1.trans (qF.mk h2))) 64 0 _ rfl
      · refine pw_iconst (v := nI 0) dX10_state_57 (by decide) ?_
        exact pw_iret dX10_state_58 rfl (k _ _ f1)
    · refine pw_aload_n dX10_state_30 rfl ?_
      refine pw_getR fX10_20 dX10_state_31 (sh_lt hG (by decide)) (sh_tg hG 45 rfl) rfl (gr_at hP 43 rfl) ?_
      refine pw_aload_n dX10_state_34 rfl ?_
      refine pw_getR fX10_35 dX10_state_35 (sh_lt hG (by decide)) (sh_tg hG 45 rfl) rfl (gr_at hP 48 rfl) ?_
      refine pw_iload_n dX10_state_38 rfl ?_
      have hdn := (ns_at (hxO.2.2.1 (by omega))).2
      refine pw_ialdN s dX10_state_39 (sh_lt hG (by decide)) (sh_sh hG 54 rfl) (by decide) (rfl) (by omega) ?_
      refine pw_ti (z := nI (A.ns.idxOf (A.at s).dec)) (hx.2.1 (by omega)) ?_
      refine pw_ialdN (A.ns.idxOf (A.at s).dec) dX10_state_40 (sh_lt hG (by decide)) (sh_sh hG 49 rfl) (by decide) (rfl) (by omega) ?_
      refine pw_iload_n dX10_state_41 rfl ?_
      refine pw_icmp_eq (tgt := 47) dX10_state_42 (by decide) (fun h42 => ?_) (fun h42 => ?_)
      · refine pw_aload_n dX10_state_47 rfl ?_
        refine pw_getR fX10_32 dX10_state_48 (sh_lt hG (by decide)) (sh_tg hG 45 rfl) rfl (gr_at hP 47 rfl) ?_
        refine pw_iload_n dX10_state_51 rfl ?_
        refine pw_ialdN s dX10_state_52 (sh_lt hG (by decide)) (sh_sh hG 53 rfl) (by decide) (rfl) (by omega) ?_
        refine pw_iconst (v := nI 2) dX10_state_53 (by decide) ?_
        refine pw_icmpN_eq _ _ (tgt := 59) dX10_state_54 (by decide) (hx.1) (rfl) (by omega) (by omega) (fun h54 => ?_) (fun h54 => ?_)
        · have h54' : (A.at s).form = 2 := by omega
          obtain ⟨m, hm6, hY, N, hN, hny⟩ := hx.2.2.2.2.2.2 h54'
          refine pw_aload_n dX10_state_59 rfl ?_
          refine pw_iload_n dX10_state_60 rfl ?_
          refine pw_callV (as := [_]) (kc' := 0) (ks' := 0) lX10_366 dX10_state_61 rfl rfl (sh_lt hG (by decide)) (sh_tg hG 45 rfl) (Nat.le_of_ble_eq_true rfl) (by omega) (Nat.le_of_ble_eq_true rfl) (Nat.zero_le _) (Nat.zero_le _) ?_
          refine r_reach hG hP (by omega) (by omega) hm6 hY.1 hN hny.bd (fun I2 h2 => ?_)
          refine pw_iconst (v := nI 0) dX10_state_64 (by decide) ?_
          refine pw_istore_n (lv' := [(2, _), (0, _), (1, _)]) dX10_state_65 (by decide) rfl ?_
          refine pw_iconst (v := nI 0) dX10_state_66 (by decide) ?_
          refine pw_istore_n (lv' := [(3, _), (2, _), (0, _), (1, _)]) dX10_state_67 (by decide) rfl ?_
          refine pm_lvs (lv' := [(3, .int (nI 0)), (2, _), (0, _), (1, _)]) rfl ?_
          exact r_st_lp hG hP (by omega) h2 hY hm6 (by omega) (by rw [h2.1 57 (by decide)]; exact hx.2.2.1) hxO.2.1 (fun a => k a I2 (f1.trans (qF.mk h2))) 64 0 _ rfl
        · refine pw_iconst (v := nI 0) dX10_state_57 (by decide) ?_
          exact pw_iret dX10_state_58 rfl (k _ _ f1)
      · refine pw_iconst (v := nI 2) dX10_state_45 (by decide) ?_
        exact pw_iret dX10_state_46 rfl (k _ _ f1)
  · refine pw_if_ne (tgt := 21) dX10_state_16 (by decide) (fun h => absurd (by decide) h) (fun h16 => ?_)
    refine pw_iconst (v := -1) dX10_state_19 (by decide) ?_
    exact pw_iret dX10_state_20 rfl (k _ _ qF.th)
