set_option maxRecDepth 20000 in
set_option maxHeartbeats 4000000 in
theorem c_X10_wrongF {l : Launch} {E : pmE} {d : Nat} {S : pmS} {I : pmI} {J : pmJ} {P : pmP} {Q : Option Value → pmS → pmI → pmJ → pmP → Prop} (hG : sh_St S) (hP : gr_St P) {e : Nat} (hF : I 47 41 = nI e) (he : e < 2 ^ 31) (k : Q none S (pm_u I 47 41 (nI e)) J P) : pm_Met l E yX10_wrong cX10_wrong 1 none d 0 0 [.ref 47] S I J P Q := by
  unfold pm_Met
  refine pm_lvs (lv' := [(0, _)]) rfl ?_
  refine pw_aload_n dX10_wrong_0 rfl ?_
  refine pw_aload_n dX10_wrong_1 rfl ?_
  refine pw_getI fX10_197 dX10_wrong_2 (sh_lt hG (by decide)) (sh_tg hG 45 rfl) rfl ?_
  refine pw_if_ge (tgt := 20) dX10_wrong_5 (by decide) (fun h5 => ?_) (fun h => absurd (by rw [hF]; exact nI_pos' he) h)
  refine pw_aload_n dX10_wrong_20 rfl ?_
  refine pw_getI fX10_197 dX10_wrong_21 (sh_lt hG (by decide)) (sh_tg hG 45 rfl) rfl ?_
  refine pw_ti (z := nI e) hF ?_
  refine pw_putI fX10_197 dX10_wrong_24 (Or.inl rfl) (by decide) (sh_lt hG (by decide)) (sh_tg hG 45 rfl) rfl ?_
  exact pw_vret dX10_wrong_27 rfl (k)

set_option maxRecDepth 20000 in
set_option maxHeartbeats 4000000 in
theorem c_X10_needF {l : Launch} {E : pmE} {d : Nat} {S : pmS} {I : pmI} {J : pmJ} {P : pmP} {Q : Option Value → pmS → pmI → pmJ → pmP → Prop} (hG : sh_St S) (hP : gr_St P) (hd : 2 ≤ d) {c : Int32} {e : Nat} (hF : I 47 41 = nI e) (he : e < 2 ^ 31) (k : Q (some (.int (nI 0))) S (pm_u I 47 41 (nI e)) J P) : pm_Met l E yX10_need cX10_need 2 (some .boolean) d 0 0 [.ref 47, .int c] S I J P Q := by
  unfold pm_Met
  refine pm_lvs (lv' := [(0, _), (1, _)]) rfl ?_
  refine pw_aload_n dX10_need_0 rfl ?_
  refine pw_getI fX10_197 dX10_need_1 (sh_lt hG (by decide)) (sh_tg hG 45 rfl) rfl ?_
  refine pw_if_ge (tgt := 15) dX10_need_4 (by decide) (fun h4 => ?_) (fun h => absurd (by rw [hF]; exact nI_pos' he) h)
  refine pw_aload_n dX10_need_15 rfl ?_
  refine pw_callV (as := []) (kc' := 0) (ks' := 0) lX10_204 dX10_need_16 rfl rfl (sh_lt hG (by decide)) (sh_tg hG 45 rfl) (Nat.le_of_ble_eq_true rfl) (by omega) (Nat.le_of_ble_eq_true rfl) (Nat.zero_le _) (Nat.zero_le _) ?_
  refine c_X10_wrongF hG hP hF he ?_
  refine pw_iconst (v := nI 0) dX10_need_19 (by decide) ?_
  exact pw_zret dX10_need_20 rfl (by decide) (k)

/-- what readParams() leaves as it was -/
def fp (kp : Nat) (I I' : pmI) : Prop := (∀ a, a ≠ 47 → a ≠ 57 → a ≠ 86 → I' a = I a) ∧ (∀ k, (k < 40 ∨ 45 < k) → I' 47 k = I 47 k) ∧ ∀ j, j ≠ kp → I' 57 j = I 57 j
theorem fp.refl {kp : Nat} {I : pmI} : fp kp I I := ⟨fun _ _ _ _ => rfl, fun _ _ => rfl, fun _ _ => rfl⟩
theorem fp.trans {kp : Nat} {I I1 I2 : pmI} (h : fp kp I I1) (h' : fp kp I1 I2) : fp kp I I2 := ⟨fun a h1 h2 h3 => by rw [h'.1 a h1 h2 h3, h.1 a h1 h2 h3], fun k hk => by rw [h'.2.1 k hk, h.2.1 k hk], fun j hj => by rw [h'.2.2 j hj, h.2.2 j hj]⟩
theorem fp.put {kp k : Nat} {I : pmI} {x : Int32} (h : 40 ≤ k) (h2 : k ≤ 45) : fp kp I (pm_u I 47 k x) := ⟨fun a h1 _ _ => pm_u_ne h1, fun j hj => by rw [pm_u_eq, pm_up_ne (by omega)], fun j _ => by rw [pm_u_ne (by decide)]⟩
theorem fp.tok {kp k : Nat} {I : pmI} {x : Int32} : fp kp I (pm_u I 86 k x) := ⟨fun a _ _ h => pm_u_ne h, fun j _ => by rw [pm_u_ne (by decide)], fun j _ => by rw [pm_u_ne (by decide)]⟩
theorem fp.par {kp : Nat} {I : pmI} {x : Int32} : fp kp I (pm_u I 57 kp x) := ⟨fun a _ h _ => pm_u_ne h, fun j _ => by rw [pm_u_ne (by decide)], fun j hj => by rw [pm_u_eq, pm_up_ne hj]⟩
theorem qs.ot {tx : Nat → Nat} {n i kp : Nat} {I : pmI} {J : pmJ} {a op T m : Nat} (h : qs tx n i kp I J a op T m) {b j : Nat} (hb : b = 57 ∨ b = 86 ∨ b = 60 ∨ b = 55) (x : Int32) : qs tx n i kp (pm_u I b j x) J a op T m := by
  have e : ∀ c, c ≠ b → pm_u I b j x c = I c := fun c hc => pm_u_ne hc
  refine ⟨⟨by rw [e 47 (by omega)]; exact h.1.1, h.1.2.1, h.1.2.2.1, h.1.2.2.2.1, fun k hk => by rw [e 77 (by omega), e 78 (by omega)]; exact h.1.2.2.2.2 k hk⟩, by rw [e 47 (by omega)]; exact h.2.1, by rw [e 47 (by omega)]; exact h.2.2.1, by rw [e 47 (by omega)]; exact h.2.2.2.1, by rw [e 47 (by omega)]; exact h.2.2.2.2.1, by rw [e 47 (by omega)]; exact h.2.2.2.2.2.1, by rw [e 47 (by omega)]; exact h.2.2.2.2.2.2.1, h.2.2.2.2.2.2.2.mv (fun a h3 h4 k _ => by rw [e a (by omega)])⟩
/-- the TOKENS of the parts that were read -/
def pT (tx : Nat → Nat) (n i : Nat) (I : pmI) (pa : List Int64) : Prop := pa.length ≤ 3 ∧ ∀ j v, pa[j]? = some v → ∃ t, t < i ∧ I 86 j = nI t ∧ tk_k tx n t = 97 ∧ tk_v tx n t = v
theorem pT.app {tx : Nat → Nat} {n i : Nat} {I : pmI} {pa : List Int64} (h : pT tx n i I pa) (h3 : pa.length < 3) {t : Nat} (ht : t < i) (hk : tk_k tx n t = 97) : pT tx n i (pm_u I 86 pa.length (nI t)) (pa ++ [tk_v tx n t]) := by
  refine ⟨by rw [List.length_append]; show pa.length + 1 ≤ 3; omega, fun j v hv => ?_⟩
  rw [pm_u_eq]
  rcases Nat.lt_trichotomy j pa.length with hj | hj | hj
  · rw [pm_up_ne (by omega)]
    rw [List.getElem?_append_left hj] at hv
    exact h.2 j v hv
  · subst hj
    rw [List.getElem?_append_right (Nat.le_refl _), Nat.sub_self] at hv
    cases hv
    exact ⟨t, ht, pm_up_eq, hk, rfl⟩
  · rw [List.getElem?_eq_none (by rw [List.length_append]; show pa.length + 1 ≤ j; omega)] at hv
    cases hv
theorem pT.mv {tx : Nat → Nat} {n i : Nat} {I I' : pmI} {pa : List Int64} (h : pT tx n i I pa) (e : I' 86 = I 86) : pT tx n i I' pa := ⟨h.1, fun j v hv => by rw [e]; exact h.2 j v hv⟩
set_option maxRecDepth 20000 in
set_option maxHeartbeats 4000000 in
theorem rp_in {l : Launch} {E : pmE} {S : pmS} {P : pmP} {tx : Nat → Nat} {n i kp d : Nat} {Q : Option Value → pmS → pmI → pmJ → pmP → Prop} (hG : sh_St S) (hP : gr_St P) (hb : ∀ j, j < n → tx j < 128) (hn9 : n ≤ 120) (hd : 4 ≤ d) {a op T m : Nat} {I : pmI} {J : pmJ} {z1 z3 : Int32} {pa : List Int64} (hs : qs tx n i kp I J a op T m) (ha : a < i) (hpT : pT tx n i I pa) : ∀ (t : List Int64) (j : Nat), pa.drop j = t → j ≤ 3 → (ps_arg t (tk_v tx n a) j = none → ∀ j', pm_W l E yX10_readParams cX10_readParams 5 none d 0 0 121 [(4, .int (nI j')), (3, .int z3), (2, .int (nI pa.length)), (0, .ref 47), (1, .int z1)] [] S I J P (pm_N E Q)) → (ps_arg t (tk_v tx n a) j ≠ none → ∀ j', pm_W l E yX10_readParams cX10_readParams 5 none d 0 0 121 [(4, .int (nI j')), (3, .int z3), (2, .int (nI pa.length)), (0, .ref 47), (1, .int z1)] [] S (pm_u I 47 41 (nI (tk_p tx n a))) J P (pm_N E Q)) → pm_W l E yX10_readParams cX10_readParams 5 none d 0 0 73 [(4, .int (nI j)), (3, .int z3), (2, .int (nI pa.length)), (0, .ref 47), (1, .int z1)] [] S I J P (pm_N E Q)
  | [], j, hj, hj3, k1, k0 => by
    have hle : pa.length ≤ j := List.drop_eq_nil_iff.mp hj
    have h3 := hpT.1
    refine pw_iload dX10_readParams_73 rfl ?_
    refine pw_iload_n dX10_readParams_75 rfl ?_
    refine pw_icmpN_ge _ _ (tgt := 121) dX10_readParams_76 (by decide) (rfl) (rfl) (by omega) (by omega) (fun h76 => ?_) (fun h76 => absurd h76 (by omega))
    exact k1 rfl j
  | x :: t, j, hj, hj3, k1, k0 => by
    obtain ⟨g1, g2, g3⟩ := drop_get hj
    have h3 := hpT.1
    have hi6 := hs.1.2.1
    obtain ⟨q, hq1, hq2, hq3, hq4⟩ := hpT.2 j x g1
    have hva := (hs.1.2.2.2.1 a ha).2.2
    have hvq := (hs.1.2.2.2.1 q hq1).2.2
    have hple := tk_p_le (tx := tx) (n := n) a
    unfold ps_arg at k1 k0
    refine pw_iload dX10_readParams_73 rfl ?_
    refine pw_iload_n dX10_readParams_75 rfl ?_
    refine pw_icmpN_ge _ _ (tgt := 121) dX10_readParams_76 (by decide) (rfl) (rfl) (by omega) (by omega) (fun h76 => absurd h76 (by omega)) (fun h76 => ?_)
    refine pw_aload_n dX10_readParams_79 rfl ?_
    refine pw_getI fX10_197 dX10_readParams_80 (sh_lt hG (by decide)) (sh_tg hG 45 rfl) rfl ?_
    refine pw_if_ge (tgt := 121) dX10_readParams_83 (by decide) (fun h => absurd h (by rw [hs.2.2.2.1]; decide)) (fun h83 => ?_)
    refine pw_aload_n dX10_readParams_86 rfl ?_
    refine pw_getR fX10_105 dX10_readParams_87 (sh_lt hG (by decide)) (sh_tg hG 45 rfl) rfl (gr_at hP 71 rfl) ?_
    refine pw_aload_n dX10_readParams_90 rfl ?_
    refine pw_getR fX10_126 dX10_readParams_91 (sh_lt hG (by decide)) (sh_tg hG 45 rfl) rfl (gr_at hP 78 rfl) ?_
    refine pw_iload dX10_readParams_94 rfl ?_
    refine pw_ialdN j dX10_readParams_96 (sh_lt hG (by decide)) (sh_sh hG 84 rfl) (by decide) (rfl) (by omega) ?_
    refine pw_ti (z := nI q) hq2 ?_
    refine pw_laldN q dX10_readParams_97 (sh_lt hG (by decide)) (sh_sh hG 77 rfl) (by decide) (rfl) (by omega) ?_
    refine pw_tj (z := x) (by rw [hvq, hq4]) ?_
    refine pw_aload_n dX10_readParams_98 rfl ?_
    refine pw_getR fX10_105 dX10_readParams_99 (sh_lt hG (by decide)) (sh_tg hG 45 rfl) rfl (gr_at hP 71 rfl) ?_
    refine pw_aload_n dX10_readParams_102 rfl ?_
    refine pw_getI fX10_194 dX10_readParams_103 (sh_lt hG (by decide)) (sh_tg hG 45 rfl) rfl ?_
    refine pw_ti (z := nI a) hs.2.2.1.1 ?_
    refine pw_laldN a dX10_readParams_106 (sh_lt hG (by decide)) (sh_sh hG 77 rfl) (by decide) (rfl) (by omega) ?_
    refine pw_tj (z := tk_v tx n a) hva ?_
    refine pw_lif_ne (tgt := 115) dX10_readParams_107 dX10_readParams_108 (by decide) (fun h108 => ?_) (fun h108 => ?_)
    · rw [if_neg h108] at k1 k0
      refine pw_iinc (lv' := [(4, _), (3, _), (2, _), (0, _), (1, _)]) dX10_readParams_115 rfl (by decide) rfl ?_
      refine pw_goto (tgt := 73) dX10_readParams_118 (by decide) ?_
      refine pw_sub [0, 1, 2, 3, 4] rfl ?_
      rw [show nI j + Int32.ofInt 1 = nI (j + 1) from nI_1 j]
      exact rp_in hG hP hb hn9 hd hs ha hpT t (j + 1) g2 (by omega) k1 k0
    · rw [if_pos h108] at k0
      refine pw_aload_n dX10_readParams_111 rfl ?_
      refine pw_callV (as := []) (kc' := 0) (ks' := 0) lX10_204 dX10_readParams_112 rfl rfl (sh_lt hG (by decide)) (sh_tg hG 45 rfl) (Nat.le_of_ble_eq_true rfl) (by omega) (Nat.le_of_ble_eq_true rfl) (Nat.zero_le _) (Nat.zero_le _) ?_
      refine c_X10_wrong hG hP hs ?_
      refine pw_iinc (lv' := [(4, _), (3, _), (2, _), (0, _), (1, _)]) dX10_readParams_115 rfl (by decide) rfl ?_
      refine pw_goto (tgt := 73) dX10_readParams_118 (by decide) ?_
      refine pw_iload dX10_readParams_73 rfl ?_
      refine pw_iload_n dX10_readParams_75 rfl ?_
      refine pw_icmp_ge (tgt := 121) dX10_readParams_76 (by decide) (fun h76 => ?_) (fun h76 => ?_)
      · refine pw_sub [0, 1, 2, 3, 4] rfl ?_
        rw [show nI j + Int32.ofInt 1 = nI (j + 1) from nI_1 j]
        exact k0 (fun q => nomatch q) (j + 1)
      · refine pw_aload_n dX10_readParams_79 rfl ?_
        refine pw_getI fX10_197 dX10_readParams_80 (sh_lt hG (by decide)) (sh_tg hG 45 rfl) rfl ?_
        refine pw_ti (z := nI (tk_p tx n a)) (by rw [pm_u_eq, pm_up_eq]) ?_
        refine pw_if_ge (tgt := 121) dX10_readParams_83 (by decide) (fun h83 => ?_) (fun h => absurd (nI_pos' (by omega)) h)
        refine pw_sub [0, 1, 2, 3, 4] rfl ?_
        rw [show nI j + Int32.ofInt 1 = nI (j + 1) from nI_1 j]
        exact k0 (fun q => nomatch q) (j + 1)
/-- what readParams() owes -/
def pK (tx : Nat → Nat) (n i kp : Nat) (Q : Option Value → pmS → pmI → pmJ → pmP → Prop) (S : pmS) (P : pmP) (I : pmI) (J : pmJ) (T m : Nat) (r : Except Nat (Nat × List Int64)) : Prop :=
  (∀ b pa I', r = .ok (b, pa) → tk_k tx n b = 41 → qs tx n i kp I' J (b + 1) 0 T m → pT tx n i I' pa → I' 57 kp = nI pa.length → fp kp I I' → Q none S I' J P) ∧ (∀ b pa I', r = .ok (b, pa) → ¬ tk_k tx n b = 41 → I' 47 41 = nI (tk_p tx n b) → fp kp I I' → Q none S I' J P) ∧ (∀ e I', r = .error e → I' 47 41 = nI (tk_p tx n e) → fp kp I I' → Q none S I' J P)
theorem pK.mv {tx : Nat → Nat} {n i kp : Nat} {Q : Option Value → pmS → pmI → pmJ → pmP → Prop} {S : pmS} {P : pmP} {I I1 : pmI} {J : pmJ} {T m : Nat} {r : Except Nat (Nat × List Int64)} (h : pK tx n i kp Q S P I J T m r) (hf : fp kp I I1) : pK tx n i kp Q S P I1 J T m r := ⟨fun b pa I' h1 h2 h3 h4 h5 h6 => h.1 b pa I' h1 h2 h3 h4 h5 (hf.trans h6), fun b pa I' h1 h2 h3 h4 => h.2.1 b pa I' h1 h2 h3 (hf.trans h4), fun e I' h1 h2 h3 => h.2.2 e I' h1 h2 (hf.trans h3)⟩
set_option maxRecDepth 20000 in
set_option maxHeartbeats 4000000 in
theorem rp_end {l : Launch} {E : pmE} {S : pmS} {P : pmP} {tx : Nat → Nat} {n i kp d : Nat} {Q : Option Value → pmS → pmI → pmJ → pmP → Prop} (hG : sh_St S) (hP : gr_St P) (hb : ∀ j, j < n → tx j < 128) (hn9 : n ≤ 120) (hd : 4 ≤ d) {b T m : Nat} {I : pmI} {J : pmJ} {z1 z3 : Int32} {pa : List Int64} (hs : qs tx n i kp I J b 1 T m) (hpT : pT tx n i I pa) (k : pK tx n i kp Q S P I J T m (.ok (b, pa))) : pm_W l E yX10_readParams cX10_readParams 5 none d 0 0 176 [(3, .int z3), (2, .int (nI pa.length)), (0, .ref 47), (1, .int z1)] [] S I J P (pm_N E Q) := by
  have hkp := hs.2.1
  have hbi := hs.2.2.1.2
  have hmb := hs.2.2.2.2.2.2.1.2
  have hs1 := (hs.ot (b := 57) (j := kp) (by omega) (nI pa.length)).op' 0
  refine pw_aload_n dX10_readParams_176 rfl ?_
  refine pw_getR fX10_38 dX10_readParams_177 (sh_lt hG (by decide)) (sh_tg hG 45 rfl) rfl (gr_at hP 49 rfl) ?_
  refine pw_aload_n dX10_readParams_180 rfl ?_
  refine pw_getI fX10_220 dX10_readParams_181 (sh_lt hG (by decide)) (sh_tg hG 45 rfl) rfl ?_
  refine pw_iload_n dX10_readParams_184 rfl ?_
  refine pw_iastN kp dX10_readParams_185 (by decide) (sh_lt hG (by decide)) (sh_sh hG 55 rfl) (by decide) (hkp.1) (by omega) ?_
  refine pw_aload_n dX10_readParams_186 rfl ?_
  refine pw_dup dX10_readParams_187 rfl ?_
  refine pw_getI fX10_210 dX10_readParams_188 (sh_lt hG (by decide)) (sh_tg hG 45 rfl) rfl ?_
  refine pw_iconst (v := nI 1) dX10_readParams_191 (by decide) ?_
  refine pw_isub dX10_readParams_192 ?_
  refine pw_ti (z := nI 0) (by rw [(hs.ot (b := 57) (j := kp) (by omega) (nI pa.length)).2.2.2.2.1]; rfl) ?_
  refine pw_putI fX10_210 dX10_readParams_193 (Or.inl rfl) (by decide) (sh_lt hG (by decide)) (sh_tg hG 45 rfl) rfl ?_
  refine pw_aload_n dX10_readParams_196 rfl ?_
  refine pw_bipush (v := nI 41) dX10_readParams_197 (by decide) ?_
  refine pw_callV (as := [_]) (kc' := 0) (ks' := 0) lX10_237 dX10_readParams_199 rfl rfl (sh_lt hG (by decide)) (sh_tg hG 45 rfl) (Nat.le_of_ble_eq_true rfl) (by omega) (Nat.le_of_ble_eq_true rfl) (Nat.zero_le _) (Nat.zero_le _) ?_
  refine c_X10_need hG hP (by omega) hs1 hb (c := 41) (by decide) (fun hz1 => ?_) (fun hz0 => ?_)
  · have hz1 := (rq41 hb).mp hz1
    have hbl := hs.lt (by rw [hz1]; decide) (by rw [hz1]; decide)
    refine pw_pop dX10_readParams_202 rfl ?_
    exact pw_vret dX10_readParams_203 rfl (k.1 b pa _ rfl hz1 (hs1.at' (b := b + 1) (by omega) (by omega)) (hpT.mv (by rw [pm_u_ne (by decide), pm_u_ne (by decide), pm_u_ne (by decide)])) (by rw [pm_u_ne (by decide), pm_u_ne (by decide), pm_u_eq, pm_up_eq]) (((fp.par (kp := kp) (I := I) (x := nI pa.length)).trans (fp.put (k := 42) (x := nI 0) (by decide) (by decide))).trans (fp.put (by decide) (by decide))))
  · refine pw_pop dX10_readParams_202 rfl ?_
    exact pw_vret dX10_readParams_203 rfl (k.2.1 b pa _ rfl (fun q => hz0 ((rq41 hb).mpr q)) (by rw [pm_u_eq, pm_up_eq]) (((fp.par (kp := kp) (I := I) (x := nI pa.length)).trans (fp.put (k := 42) (x := nI 0) (by decide) (by decide))).trans (fp.put (by decide) (by decide))))
set_option maxRecDepth 20000 in
set_option maxHeartbeats 4000000 in
theorem rp_endF {l : Launch} {E : pmE} {S : pmS} {P : pmP} {tx : Nat → Nat} {n i kp d : Nat} {Q : Option Value → pmS → pmI → pmJ → pmP → Prop} (hG : sh_St S) (hP : gr_St P) (hb : ∀ j, j < n → tx j < 128) (hn9 : n ≤ 120) (hd : 4 ≤ d) {e T m : Nat} {I : pmI} {J : pmJ} {z1 z2 z3 : Int32} (hkp : I 47 10 = nI kp ∧ kp ≤ 39) (hF : I 47 41 = nI (tk_p tx n e)) (k : pK tx n i kp Q S P I J T m (.error e)) : pm_W l E yX10_readParams cX10_readParams 5 none d 0 0 47 [(3, .int z3), (2, .int z2), (0, .ref 47), (1, .int z1)] [] S I J P (pm_N E Q) := by
  have hple := tk_p_le (tx := tx) (n := n) e
  refine pw_iload_n dX10_readParams_47 rfl ?_
  refine pw_if_eq (tgt := 176) dX10_readParams_48 (by decide) (fun h48 => ?_) (fun h48 => ?_)
  · refine pw_aload_n dX10_readParams_176 rfl ?_
    refine pw_getR fX10_38 dX10_readParams_177 (sh_lt hG (by decide)) (sh_tg hG 45 rfl) rfl (gr_at hP 49 rfl) ?_
    refine pw_aload_n dX10_readParams_180 rfl ?_
    refine pw_getI fX10_220 dX10_readParams_181 (sh_lt hG (by decide)) (sh_tg hG 45 rfl) rfl ?_
    refine pw_iload_n dX10_readParams_184 rfl ?_
    refine pw_iastN kp dX10_readParams_185 (by decide) (sh_lt hG (by decide)) (sh_sh hG 55 rfl) (by decide) (hkp.1) (by omega) ?_
    refine pw_aload_n dX10_readParams_186 rfl ?_
    refine pw_dup dX10_readParams_187 rfl ?_
    refine pw_getI fX10_210 dX10_readParams_188 (sh_lt hG (by decide)) (sh_tg hG 45 rfl) rfl ?_
    refine pw_iconst (v := nI 1) dX10_readParams_191 (by decide) ?_
    refine pw_isub dX10_readParams_192 ?_
    refine pw_putI fX10_210 dX10_readParams_193 (Or.inl rfl) (by decide) (sh_lt hG (by decide)) (sh_tg hG 45 rfl) rfl ?_
    refine pw_aload_n dX10_readParams_196 rfl ?_
    refine pw_bipush (v := nI 41) dX10_readParams_197 (by decide) ?_
    refine pw_callV (as := [_]) (kc' := 0) (ks' := 0) lX10_237 dX10_readParams_199 rfl rfl (sh_lt hG (by decide)) (sh_tg hG 45 rfl) (Nat.le_of_ble_eq_true rfl) (by omega) (Nat.le_of_ble_eq_true rfl) (Nat.zero_le _) (Nat.zero_le _) ?_
    refine c_X10_needF hG hP (by omega) (e := tk_p tx n e) (by rw [pm_u_eq, pm_up_ne (by decide), pm_u_ne (by decide)]; exact hF) (by omega) ?_
    refine pw_pop dX10_readParams_202 rfl ?_
    exact pw_vret dX10_readParams_203 rfl (k.2.2 e _ rfl (by rw [pm_u_eq, pm_up_eq]) ((fp.par.trans (fp.put (by decide) (by decide))).trans (fp.put (by decide) (by decide))))
  · refine pw_aload_n dX10_readParams_51 rfl ?_
    refine pw_getI fX10_197 dX10_readParams_52 (sh_lt hG (by decide)) (sh_tg hG 45 rfl) rfl ?_
    refine pw_ti (z := nI (tk_p tx n e)) hF ?_
    refine pw_if_ge (tgt := 176) dX10_readParams_55 (by decide) (fun h55 => ?_) (fun h => absurd (nI_pos' (by omega)) h)
    refine pw_aload_n dX10_readParams_176 rfl ?_
    refine pw_getR fX10_38 dX10_readParams_177 (sh_lt hG (by decide)) (sh_tg hG 45 rfl) rfl (gr_at hP 49 rfl) ?_
    refine pw_aload_n dX10_readParams_180 rfl ?_
    refine pw_getI fX10_220 dX10_readParams_181 (sh_lt hG (by decide)) (sh_tg hG 45 rfl) rfl ?_
    refine pw_iload_n dX10_readParams_184 rfl ?_
    refine pw_iastN kp dX10_readParams_185 (by decide) (sh_lt hG (by decide)) (sh_sh hG 55 rfl) (by decide) (hkp.1) (by omega) ?_
    refine pw_aload_n dX10_readParams_186 rfl ?_
    refine pw_dup dX10_readParams_187 rfl ?_
    refine pw_getI fX10_210 dX10_readParams_188 (sh_lt hG (by decide)) (sh_tg hG 45 rfl) rfl ?_
    refine pw_iconst (v := nI 1) dX10_readParams_191 (by decide) ?_
    refine pw_isub dX10_readParams_192 ?_
    refine pw_putI fX10_210 dX10_readParams_193 (Or.inl rfl) (by decide) (sh_lt hG (by decide)) (sh_tg hG 45 rfl) rfl ?_
    refine pw_aload_n dX10_readParams_196 rfl ?_
    refine pw_bipush (v := nI 41) dX10_readParams_197 (by decide) ?_
    refine pw_callV (as := [_]) (kc' := 0) (ks' := 0) lX10_237 dX10_readParams_199 rfl rfl (sh_lt hG (by decide)) (sh_tg hG 45 rfl) (Nat.le_of_ble_eq_true rfl) (by omega) (Nat.le_of_ble_eq_true rfl) (Nat.zero_le _) (Nat.zero_le _) ?_
    refine c_X10_needF hG hP (by omega) (e := tk_p tx n e) (by rw [pm_u_eq, pm_up_ne (by decide), pm_u_ne (by decide)]; exact hF) (by omega) ?_
    refine pw_pop dX10_readParams_202 rfl ?_
    exact pw_vret dX10_readParams_203 rfl (k.2.2 e _ rfl (by rw [pm_u_eq, pm_up_eq]) ((fp.par.trans (fp.put (by decide) (by decide))).trans (fp.put (by decide) (by decide))))
