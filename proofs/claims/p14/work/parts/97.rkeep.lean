theorem snR.mv2 {I I' : pmI} {J J' : pmJ} {ns : List Int64} {s : Nat} {x : sN} (h : snR I J ns s x) (e : ∀ a, 55 ≤ a → a ≤ 60 → I' a s = I a s) (e58 : ∀ j, j < 3 * s + 3 → I' 58 j = I 58 j) (e61 : I' 61 s = I 61 s) (e62 : ∀ j, j < 120 * s + 120 → I' 62 j = I 62 j) (en : ∀ a k, 63 ≤ a → a ≤ 69 → k < 64 * s + 64 → I' a k = I a k) (ej : ∀ k, k < 64 * s + 64 → J' 70 k = J 70 k) (hp3 : x.pa.length ≤ 3) : snR I' J' ns s x := by
  obtain ⟨h1, h2, h3, h4, h5, ⟨h6, h7, h8⟩, h9⟩ := h
  refine ⟨by rw [e 55 (by decide) (by decide)]; exact h1, fun q => by rw [e 56 (by decide) (by decide)]; exact h2 q, by rw [e 57 (by decide) (by decide)]; exact h3, fun j v hj => ?_, fun q => by rw [e 59 (by decide) (by decide)]; exact h5 q, ⟨by rw [e61]; exact h6, h7, fun j y hj => ?_⟩, fun q => ?_⟩
  · have hjl := (List.getElem?_eq_some_iff.mp hj).1
    rw [e58 (3 * s + j) (by omega)]
    exact h4 j v hj
  · have hjl := (List.getElem?_eq_some_iff.mp hj).1
    rw [e62 (120 * s + j) (by omega)]
    exact h8 j y hj
  · obtain ⟨m, g1, g2, N, g3, g4⟩ := h9 q
    refine ⟨m, g1, g2.mv (fun a q1 q2 k q3 => en a k (by omega) (by omega) (by omega)) (fun k q3 => ej k (by omega)), N, by rw [e 60 (by decide) (by decide)]; exact g3, ?_⟩
    exact ny.mv (fun a k q1 q2 q3 q4 => en a k q1 q2 (by omega)) (fun k q1 q2 _ => ej k (by omega)) (fun k v q1 q2 _ q4 => by unfold crN at q4 ⊢; rw [ej k (by omega)]; exact q4) _ _ g4
/-- what keep() of the reference leaves as it was -/
def kR (I : pmI) (J : pmJ) (I' : pmI) (J' : pmJ) : Prop := (∀ a, a ≠ 47 → (a < 50 ∨ 54 < a) → a ≠ 59 → a ≠ 61 → a ≠ 62 → a ≠ 71 → a ≠ 72 → I' a = I a ∧ J' a = J a) ∧ ∀ k, k ≠ 10 → k ≠ 27 → I' 47 k = I 47 k
theorem rA.kp {I I' : pmI} {J J' : pmJ} {A : aS} {x : sN} {v : vV} {t : List tH} (h : rA I J A) (hO : aO A) (hk : kO A x v t) (hF : kR I J I' J') (hx : snR I' J' A.ns A.sn.length x) (h50 : I' 50 = if x.form = 0 then I 50 else va_up (I 50) (A.ns.idxOf x.dec) (nI x.form)) (h51 : I' 51 = if x.form = 0 then I 51 else va_up (I 51) (A.ns.idxOf x.dec) (nI A.sn.length)) (h52 : I' 52 = if x.form = 3 then va_up (I 52) (A.ns.idxOf x.dec) (I 52 (A.ns.idxOf x.dec) + nI 1) else I 52) (h53 : I' 53 = if x.form = 1 then va_up (I 53) (A.ns.idxOf x.dec) (nI v.1) else I 53) (h54 : J' 54 = if x.form = 1 then va_up (J 54) (A.ns.idxOf x.dec) v.2 else J 54) (h71 : I' 71 = if x.form = 0 then va_up (I 71) (A.rs.length + 1) (nI v.1) else I 71) (h72 : J' 72 = if x.form = 0 then va_up (J 72) (A.rs.length + 1) v.2 else J 72) (h10 : I' 47 10 = nI (A.sn.length + 1)) (h27 : I' 47 27 = if x.form = 0 then nI (A.rs.length + 1) else I 47 27) (h59 : ∀ j, j ≠ A.sn.length → I' 59 j = I 59 j) (h61 : ∀ j, j ≠ A.sn.length → I' 61 j = I 61 j) (h62 : ∀ j, j < 120 * A.sn.length → I' 62 j = I 62 j) : rA I' J' (A.kp x v t) := by
  refine ⟨by rw [kp_ns, hF.2 3 (by decide) (by decide)]; exact h.n, ?_, ?_, rsR.kp h.rs h71 h72, by rw [kp_len]; exact h10, fun s hs => ?_⟩
  · rw [(hF.1 49 (by decide) (by decide) (by decide) (by decide) (by decide) (by decide) (by decide)).2]
    exact nmR.kp h.2.1 hO hk h50 h51 h52 h53 h54
  · rw [h27, kp_rs]
    by_cases f : x.form = 0
    · rw [if_pos f, if_pos f, List.length_append, List.length_singleton]
    · rw [if_neg f, if_neg f]; exact h.r
  · rw [kp_len] at hs
    by_cases e : s < A.sn.length
    · rw [kp_at e, kp_ns]
      refine (h.sn e).mv2 (fun a q1 q2 => ?_) (fun j _ => ?_) (h61 s (by omega)) (fun j hj => h62 j (by omega)) (fun a k q1 q2 _ => ?_) (fun k _ => ?_) (hO.2.2.2.2.1 s e).2.1
      · by_cases q : a = 59
        · subst q; exact h59 s (by omega)
        · rw [(hF.1 a (by omega) (by omega) (by omega) (by omega) (by omega) (by omega) (by omega)).1]
      · rw [(hF.1 58 (by decide) (by decide) (by decide) (by decide) (by decide) (by decide) (by decide)).1]
      · rw [(hF.1 a (by omega) (by omega) (by omega) (by omega) (by omega) (by omega) (by omega)).1]
      · rw [(hF.1 70 (by decide) (by decide) (by decide) (by decide) (by decide) (by decide) (by decide)).2]
    · have e' : s = A.sn.length := by omega
      subst e'
      rw [kp_new, kp_ns]
      exact hx
set_option maxRecDepth 20000 in
set_option maxHeartbeats 800000 in
theorem r_txt_lp {l : Launch} {E : pmE} {d : Nat} {S : pmS} {J : pmJ} {P : pmP} {Q : Option Value → pmS → pmI → pmJ → pmP → Prop} (hG : sh_St S) (hP : gr_St P) {I1 : pmI} {kp n : Nat} {tx : Nat → Nat} (hkp : I1 47 10 = nI kp) (hk9 : kp ≤ 39) (hT : tX I1 48 tx n) (hsz : I1 47 2 = nI n) (hn : n ≤ 120) {x1 x2 : Int32} (kx : ∀ I', (∀ a, a ≠ 62 → I' a = I1 a) → (∀ j, j < 120 * kp → I' 62 j = I1 62 j) → (∀ j, j < n → I' 62 (120 * kp + j) = nI (tx j)) → pm_W l E yX10_keep cX10_keep 4 (some .int) d 0 0 228 [(3, .int (nI n)), (2, .int x2), (1, .int x1), (0, .ref 47)] [] S I' J P (pm_N E Q)) : ∀ (m k : Nat) (I : pmI), k + m = n → (∀ a, a ≠ 62 → I a = I1 a) → (∀ j, j < 120 * kp → I 62 j = I1 62 j) → (∀ j, j < k → I 62 (120 * kp + j) = nI (tx j)) → pm_W l E yX10_keep cX10_keep 4 (some .int) d 0 0 194 [(3, .int (nI k)), (2, .int x2), (1, .int x1), (0, .ref 47)] [] S I J P (pm_N E Q)
  | 0, k, I, hk, h1, h2, h3 => by
    refine pw_iload_n dX10_keep_194 rfl ?_
    refine pw_aload_n dX10_keep_195 rfl ?_
    refine pw_getI fX10_164 dX10_keep_196 (sh_lt hG (by decide)) (sh_tg hG 45 rfl) rfl ?_
    refine pw_ti (z := nI n) (by rw [h1 47 (by decide)]; exact hsz) ?_
    refine pw_icmpN_ge _ _ (tgt := 228) dX10_keep_199 (by decide) (rfl) (rfl) (by omega) (by omega) (fun h199 => ?_) (fun h199 => absurd h199 (by omega))
    have e : k = n := by omega
    subst e
    exact kx I h1 h2 h3
  | m + 1, k, I, hk, h1, h2, h3 => by
    refine pw_iload_n dX10_keep_194 rfl ?_
    refine pw_aload_n dX10_keep_195 rfl ?_
    refine pw_getI fX10_164 dX10_keep_196 (sh_lt hG (by decide)) (sh_tg hG 45 rfl) rfl ?_
    refine pw_ti (z := nI n) (by rw [h1 47 (by decide)]; exact hsz) ?_
    refine pw_icmpN_ge _ _ (tgt := 228) dX10_keep_199 (by decide) (rfl) (rfl) (by omega) (by omega) (fun h199 => absurd h199 (by omega)) (fun h199 => ?_)
    refine pw_aload_n dX10_keep_202 rfl ?_
    refine pw_getR fX10_53 dX10_keep_203 (sh_lt hG (by decide)) (sh_tg hG 45 rfl) rfl (gr_at hP 54 rfl) ?_
    refine pw_bipush (v := nI 120) dX10_keep_206 (by decide) ?_
    refine pw_aload_n dX10_keep_208 rfl ?_
    refine pw_getI fX10_220 dX10_keep_209 (sh_lt hG (by decide)) (sh_tg hG 45 rfl) rfl ?_
    refine pw_imul dX10_keep_212 ?_
    refine pw_iload_n dX10_keep_213 rfl ?_
    refine pw_iadd dX10_keep_214 ?_
    refine pw_ti (z := nI (120 * kp + k)) (by rw [h1 47 (by decide), hkp, show nI 120 * nI kp = nI (120 * kp) from (Int32.ofNat_mul 120 _).symm]; exact nI_add _ _) ?_
    refine pw_aload_n dX10_keep_215 rfl ?_
    refine pw_getR fX10_7 dX10_keep_216 (sh_lt hG (by decide)) (sh_tg hG 45 rfl) rfl (gr_at hP 40 rfl) ?_
    refine pw_iload_n dX10_keep_219 rfl ?_
    refine pw_ialdN k dX10_keep_220 (sh_lt hG (by decide)) (sh_sh hG 46 rfl) (by decide) (rfl) (by omega) ?_
    refine pw_ti (z := nI (tx k)) (by rw [h1 48 (by decide)]; exact hT k (by omega)) ?_
    refine pw_iastN (120 * kp + k) dX10_keep_221 (by decide) (sh_lt hG (by decide)) (sh_sh hG 60 rfl) (by decide) (rfl) (by omega) ?_
    refine pw_iinc (lv' := [(3, _), (2, _), (1, _), (0, _)]) dX10_keep_222 rfl (by decide) rfl ?_
    refine pw_goto (tgt := 194) dX10_keep_225 (by decide) ?_
    refine pm_lvs (lv' := [(3, .int (nI (k + 1))), (2, _), (1, _), (0, _)]) (by rw [show nI k + Int32.ofInt 1 = nI (k + 1) from nI_add k 1]) ?_
    refine r_txt_lp hG hP hkp hk9 hT hsz hn kx m (k + 1) _ (by omega) (fun a ha => by rw [pm_u_ne ha]; exact h1 a ha) (fun j hj => by rw [pm_u_eq, pm_up_ne (by omega)]; exact h2 j hj) (fun j hj => ?_)
    rw [pm_u_eq]
    by_cases e : j = k
    · subst e; exact pm_up_eq
    · rw [pm_up_ne (by omega)]; exact h3 j (by omega)
set_option maxRecDepth 20000 in
set_option maxHeartbeats 800000 in
theorem r_keep_t {l : Launch} {E : pmE} {d : Nat} {S : pmS} {I : pmI} {J : pmJ} {P : pmP} {Q : Option Value → pmS → pmI → pmJ → pmP → Prop} (hG : sh_St S) (hP : gr_St P) {kp n form : Nat} {tx : Nat → Nat} (hkp : I 47 10 = nI kp) (hk9 : kp ≤ 39) (hT : tX I 48 tx n) (hsz : I 47 2 = nI n) (hn : n ≤ 120) (hf3 : form ≤ 3) {x1 : Int32} (k : ∀ I', (∀ a, a ≠ 47 → a ≠ 61 → a ≠ 62 → I' a = I a) → (∀ k, k ≠ 10 → I' 47 k = I 47 k) → I' 47 10 = nI (kp + 1) → I' 61 = va_up (I 61) kp (nI n) → (∀ j, j < 120 * kp → I' 62 j = I 62 j) → (∀ j, j < n → I' 62 (120 * kp + j) = nI (tx j)) → Q (some (.int (if form = 0 then I 47 27 else nI 0))) S I' J P) : pm_W l E yX10_keep cX10_keep 4 (some .int) d 0 0 179 [(2, .int (nI form)), (1, .int x1), (0, .ref 47)] [] S I J P (pm_N E Q) := by
  refine pw_aload_n dX10_keep_179 rfl ?_
  refine pw_getR fX10_50 dX10_keep_180 (sh_lt hG (by decide)) (sh_tg hG 45 rfl) rfl (gr_at hP 53 rfl) ?_
  refine pw_aload_n dX10_keep_183 rfl ?_
  refine pw_getI fX10_220 dX10_keep_184 (sh_lt hG (by decide)) (sh_tg hG 45 rfl) rfl ?_
  refine pw_aload_n dX10_keep_187 rfl ?_
  refine pw_getI fX10_164 dX10_keep_188 (sh_lt hG (by decide)) (sh_tg hG 45 rfl) rfl ?_
  refine pw_ti (z := nI n) hsz ?_
  refine pw_iastN kp dX10_keep_191 (by decide) (sh_lt hG (by decide)) (sh_sh hG 59 rfl) (by decide) (hkp) (by omega) ?_
  refine pw_iconst (v := nI 0) dX10_keep_192 (by decide) ?_
  refine pw_istore_n (lv' := [(3, _), (2, _), (1, _), (0, _)]) dX10_keep_193 (by decide) rfl ?_
  refine pm_lvs (lv' := [(3, .int (nI 0)), (2, _), (1, _), (0, _)]) rfl ?_
  refine r_txt_lp hG hP (kp := kp) (n := n) (tx := tx) (by rw [pm_u_ne (by decide)]; exact hkp) hk9 (fun j hj => by rw [pm_u_ne (by decide)]; exact hT j hj) (by rw [pm_u_ne (by decide)]; exact hsz) hn (fun I2 h1 h2 h3 => ?_) n 0 _ (Nat.zero_add _) (fun _ _ => rfl) (fun _ _ => rfl) (fun j hj => absurd hj (by omega))
  have h1 : ∀ a, a ≠ 62 → I2 a = pm_u I 61 kp (nI n) a := h1
  have h2 : ∀ j, j < 120 * kp → I2 62 j = pm_u I 61 kp (nI n) 62 j := h2
  have e47 : I2 47 = I 47 := by rw [h1 47 (by decide), pm_u_ne (by decide)]
  refine pw_aload_n dX10_keep_228 rfl ?_
  refine pw_dup dX10_keep_229 rfl ?_
  refine pw_getI fX10_220 dX10_keep_230 (sh_lt hG (by decide)) (sh_tg hG 45 rfl) rfl ?_
  refine pw_iconst (v := nI 1) dX10_keep_233 (by decide) ?_
  refine pw_iadd dX10_keep_234 ?_
  refine pw_ti (z := nI (kp + 1)) (by rw [e47, hkp]; exact nI_add _ 1) ?_
  refine pw_putI fX10_220 dX10_keep_235 (Or.inl rfl) (by decide) (sh_lt hG (by decide)) (sh_tg hG 45 rfl) rfl ?_
  refine pw_iload_n dX10_keep_238 rfl ?_
  refine pw_ifN_ne _ (tgt := 249) dX10_keep_239 (by decide) (rfl) (by omega) (fun h239 => ?_) (fun h239 => ?_)
  · refine pw_iconst (v := nI 0) dX10_keep_249 (by decide) ?_
    exact pw_iret dX10_keep_250 rfl (by
      have g := k (pm_u I2 47 10 (nI (kp + 1))) (fun a q1 q2 q3 => by rw [pm_u_ne q1, h1 a q3, pm_u_ne q2]) (fun j q => by rw [pm_u_eq, pm_up_ne q, e47]) (by rw [pm_u_eq, pm_up_eq]) (by rw [pm_u_ne (by decide), h1 61 (by decide), pm_u_eq]) (fun j hj => by rw [pm_u_ne (by decide), h2 j hj, pm_u_ne (by decide)]) (fun j hj => by rw [pm_u_ne (by decide)]; exact h3 j hj)
      rw [if_neg h239] at g
      exact g)
  · refine pw_aload_n dX10_keep_242 rfl ?_
    refine pw_getI fX10_305 dX10_keep_243 (sh_lt hG (by decide)) (sh_tg hG 45 rfl) rfl ?_
    refine pw_goto (tgt := 250) dX10_keep_246 (by decide) ?_
    exact pw_iret dX10_keep_250 rfl (by
      have g := k (pm_u I2 47 10 (nI (kp + 1))) (fun a q1 q2 q3 => by rw [pm_u_ne q1, h1 a q3, pm_u_ne q2]) (fun j q => by rw [pm_u_eq, pm_up_ne q, e47]) (by rw [pm_u_eq, pm_up_eq]) (by rw [pm_u_ne (by decide), h1 61 (by decide), pm_u_eq]) (fun j hj => by rw [pm_u_ne (by decide), h2 j hj, pm_u_ne (by decide)]) (fun j hj => by rw [pm_u_ne (by decide)]; exact h3 j hj)
      rw [if_pos h239] at g
      rw [pm_u_eq, pm_up_ne (by decide), e47]
      exact g)
