/-- a row of VALUES us is laid into cells ca, cb from B on, i of them so far -/
def lpU (ca cb B : Nat) (I : pmI) (J : pmJ) (I' : pmI) (J' : pmJ) (us : List vV) (i : Nat) : Prop := (∀ a, a ≠ ca → I' a = I a) ∧ (∀ j, (j < B ∨ B + 3 ≤ j) → I' ca j = I ca j) ∧ (∀ a, a ≠ cb → J' a = J a) ∧ (∀ j, (j < B ∨ B + 3 ≤ j) → J' cb j = J cb j) ∧ ∀ (k : Nat) (v : vV), k < i → us[k]? = some v → I' ca (B + k) = nI v.1 ∧ J' cb (B + k) = v.2
theorem lpU.refl {ca cb B : Nat} {I : pmI} {J : pmJ} {us : List vV} : lpU ca cb B I J I J us 0 := ⟨fun _ _ => rfl, fun _ _ => rfl, fun _ _ => rfl, fun _ _ => rfl, fun k v h => absurd h (Nat.not_lt_zero _)⟩
theorem lpU.step {ca cb B i : Nat} {I I' : pmI} {J J' : pmJ} {us : List vV} {v : vV} (h : lpU ca cb B I J I' J' us i) (hv : us[i]? = some v) (hi : i < 3) : lpU ca cb B I J (pm_u I' ca (B + i) (nI v.1)) (pm_u J' cb (B + i) v.2) us (i + 1) := by
  refine ⟨fun a ha => by rw [pm_u_ne ha]; exact h.1 a ha, fun j hj => by rw [pm_u_eq, pm_up_ne (by omega)]; exact h.2.1 j hj, fun a ha => by rw [pm_u_ne ha]; exact h.2.2.1 a ha, fun j hj => by rw [pm_u_eq, pm_up_ne (by omega)]; exact h.2.2.2.1 j hj, fun k u hk hu => ?_⟩
  rw [pm_u_eq, pm_u_eq]
  by_cases e : k = i
  · subst e
    rw [hv] at hu
    cases hu
    exact ⟨pm_up_eq, pm_up_eq⟩
  · rw [pm_up_ne (by omega), pm_up_ne (by omega)]
    exact h.2.2.2.2 k u (by omega) hu
section RC2
variable {I0 : pmI} {J0 : pmJ} {A : aS} {I I' : pmI} {J J' : pmJ} {fr : List (Nat × Nat)} {hv us : List vV} {cx : List (Nat × List vV)} {s s' N f : Nat} {t : List tH}
/-- a MEMBER begins: its context is laid -/
theorem rS.enter (h : rS I0 J0 A I J fr (hv ++ us) cx s t) (hc : cx.length < 20) (hu3 : us.length ≤ 3) (hl : lpU 88 89 (3 * (cx.length + 1)) (pm_u (pm_u (pm_u I 47 62 (nI hv.length)) 47 55 (nI (cx.length + 1))) 87 (cx.length + 1) (nI s')) J I' J' us us.length) : rS I0 J0 A I' J' fr hv (cx ++ [(s', us)]) s t := by
  have hu : rU I J I' J' := by
    refine ⟨fun a h1 h2 h3 => ⟨by rw [hl.1 a (by omega), pm_u_ne (by omega), pm_u_ne h1, pm_u_ne h1], hl.2.2.1 a (by omega)⟩, fun k h1 h2 h3 h4 h5 => by rw [hl.1 47 (by decide), pm_u_ne (by decide), pm_u_eq, pm_up_ne h3, pm_u_eq, pm_up_ne h5]⟩
  have e47 : ∀ k, k ≠ 55 → k ≠ 62 → I' 47 k = I 47 k := fun k h1 h2 => by rw [hl.1 47 (by decide), pm_u_ne (by decide), pm_u_eq, pm_up_ne h1, pm_u_eq, pm_up_ne h2]
  have eI : ∀ a, a ≠ 47 → a ≠ 87 → a ≠ 88 → I' a = I a := fun a h1 h2 h3 => by rw [hl.1 a h3, pm_u_ne h2, pm_u_ne h1, pm_u_ne h1]
  refine h.mv hu ⟨by rw [e47 53 (by decide) (by decide)]; exact h.fl, by rw [e47 54 (by decide) (by decide)]; exact h.st, by rw [hl.1 47 (by decide), pm_u_ne (by decide), pm_u_eq, pm_up_eq, List.length_append]; rfl, by rw [e47 59 (by decide) (by decide)]; exact h.rn, by rw [hl.1 47 (by decide), pm_u_ne (by decide), pm_u_eq, pm_up_ne (by decide), pm_u_eq, pm_up_eq]⟩ ⟨h.lm.1, by have := h.lm.2.1; rw [List.length_append] at this; omega, by rw [List.length_append, List.length_singleton]; omega, h.lm.2.2.2⟩ (fun j x hj => by rw [eI 90 (by decide) (by decide) (by decide), eI 91 (by decide) (by decide) (by decide)]; exact h.fm j x hj) (fun j v hj => by rw [eI 92 (by decide) (by decide) (by decide), hl.2.2.1 93 (by decide)]; exact h.vl j v (ap_l hj)) (fun k x hk => ?_)
  rcases Nat.lt_trichotomy k cx.length with h1 | h1 | h1
  · rw [List.getElem?_append_left h1] at hk
    obtain ⟨g1, g2, g3⟩ := h.ct k x hk
    refine ⟨by rw [hl.1 87 (by decide), pm_u_eq, pm_up_ne (by omega), pm_u_ne (by decide), pm_u_ne (by decide)]; exact g1, g2, fun j v hj => ?_⟩
    have hjl := (List.getElem?_eq_some_iff.mp hj).1
    rw [hl.2.1 _ (by omega), hl.2.2.2.1 _ (by omega), pm_u_ne (by decide), pm_u_ne (by decide), pm_u_ne (by decide)]
    exact g3 j v hj
  · subst h1
    rw [List.getElem?_append_right (Nat.le_refl _), Nat.sub_self] at hk
    cases hk
    exact ⟨by rw [hl.1 87 (by decide), pm_u_eq, pm_up_eq], hu3, fun j v hj => hl.2.2.2.2 j v (List.getElem?_eq_some_iff.mp hj).1 hj⟩
  · rw [List.getElem?_eq_none (by rw [List.length_append, List.length_singleton]; omega)] at hk
    cases hk
/-- a new THING's VALUES are laid -/
theorem rS.made (h : rS I0 J0 A I J fr (hv ++ us) cx s t) (hl : lpU 74 75 (3 * t.length) (pm_u (pm_u I 47 62 (nI hv.length)) 73 t.length (nI s')) J I' J' us us.length) (hv3 : ∀ q ∈ t, q.2.length ≤ 3) : rS I0 J0 A I' J' fr hv cx s t ∧ I' 73 t.length = nI s' ∧ ∀ (k : Nat) (v : vV), us[k]? = some v → I' 74 (3 * t.length + k) = nI v.1 ∧ J' 75 (3 * t.length + k) = v.2 := by
  have e47 : ∀ k, k ≠ 62 → I' 47 k = I 47 k := fun k h1 => by rw [hl.1 47 (by decide), pm_u_ne (by decide), pm_u_eq, pm_up_ne h1]
  have eI : ∀ a, a ≠ 47 → a ≠ 73 → a ≠ 74 → I' a = I a := fun a h1 h2 h3 => by rw [hl.1 a h3, pm_u_ne h2, pm_u_ne h1]
  refine ⟨⟨⟨⟨fun a h1 h2 h3 => ?_, fun k h1 h2 h3 h4 h5 h6 => ?_⟩, h.1.2⟩, ⟨by rw [e47 30 (by decide)]; exact h.tt.1, fun j s1 vs hj => ?_⟩, ⟨by rw [e47 53 (by decide)]; exact h.fl, by rw [e47 54 (by decide)]; exact h.st, by rw [e47 55 (by decide)]; exact h.dp, by rw [e47 59 (by decide)]; exact h.rn, by rw [hl.1 47 (by decide), pm_u_ne (by decide), pm_u_eq, pm_up_eq]⟩, ⟨h.lm.1, by have := h.lm.2.1; rw [List.length_append] at this; omega, h.lm.2.2⟩, fun j x hj => by rw [eI 90 (by decide) (by decide) (by decide), eI 91 (by decide) (by decide) (by decide)]; exact h.fm j x hj, fun j v hj => by rw [eI 92 (by decide) (by decide) (by decide), hl.2.2.1 93 (by decide)]; exact h.vl j v (ap_l hj), fun k x hk => by rw [eI 87 (by decide) (by decide) (by decide), eI 88 (by decide) (by decide) (by decide), hl.2.2.1 89 (by decide)]; exact h.ct k x hk⟩, by rw [hl.1 73 (by decide), pm_u_eq, pm_up_eq], fun k v hk => hl.2.2.2.2 k v (List.getElem?_eq_some_iff.mp hk).1 hk⟩
  · have e := h.f.1 a h1 h2 h3
    rw [eI a h1 (by omega) (by omega), hl.2.2.1 a (by omega)]; exact e
  · rw [e47 k h6]; exact h.f.2 k h1 h2 h3 h4 h5 h6
  · have hjl := (List.getElem?_eq_some_iff.mp hj).1
    have hvs : vs.length ≤ 3 := hv3 (s1, vs) (List.mem_of_getElem? hj)
    obtain ⟨g1, g2⟩ := h.tt.2 j s1 vs hj
    refine ⟨by rw [hl.1 73 (by decide), pm_u_eq, pm_up_ne (by omega), pm_u_ne (by decide)]; exact g1, fun i v hi => ?_⟩
    have hil := (List.getElem?_eq_some_iff.mp hi).1
    rw [hl.2.1 _ (by omega), hl.2.2.2.1 _ (by omega), pm_u_ne (by decide), pm_u_ne (by decide)]
    exact g2 i v hi
theorem rS.thing {v : vV} (h : rS I0 J0 A I J fr hv cx s t) (h73 : I 73 t.length = nI s') (hf : ∀ (k : Nat) (v : vV), us[k]? = some v → I 74 (3 * t.length + k) = nI v.1 ∧ J 75 (3 * t.length + k) = v.2) : rS I0 J0 A (pm_u I 47 30 (nI (t.length + 1))) J fr hv cx s (t ++ [(s', us)]) := by
  have e : ∀ a, a ≠ 47 → pm_u I 47 30 (nI (t.length + 1)) a = I a := fun a ha => pm_u_ne ha
  have e47 : ∀ k, k ≠ 30 → pm_u I 47 30 (nI (t.length + 1)) 47 k = I 47 k := fun k hk => by rw [pm_u_eq, pm_up_ne hk]
  refine ⟨⟨⟨fun a h1 h2 h3 => by rw [e a h1]; exact h.f.1 a h1 h2 h3, fun k h1 h2 h3 h4 h5 h6 => by rw [e47 k h1]; exact h.f.2 k h1 h2 h3 h4 h5 h6⟩, h.1.2.trans (List.prefix_append _ _)⟩, ⟨by rw [pm_u_eq, pm_up_eq, List.length_append]; rfl, fun j s1 vs hj => ?_⟩, ⟨by rw [e47 53 (by decide)]; exact h.fl, by rw [e47 54 (by decide)]; exact h.st, by rw [e47 55 (by decide)]; exact h.dp, by rw [e47 59 (by decide)]; exact h.rn, by rw [e47 62 (by decide)]; exact h.hi⟩, h.lm, fun j x hj => by rw [e 90 (by decide), e 91 (by decide)]; exact h.fm j x hj, fun j v hj => by rw [e 92 (by decide)]; exact h.vl j v hj, fun k x hk => by rw [e 87 (by decide), e 88 (by decide)]; exact h.ct k x hk⟩
  rw [e 73 (by decide), e 74 (by decide)]
  rcases Nat.lt_trichotomy j t.length with h1 | h1 | h1
  · rw [List.getElem?_append_left h1] at hj
    exact h.tt.2 j s1 vs hj
  · subst h1
    rw [List.getElem?_append_right (Nat.le_refl _), Nat.sub_self] at hj
    cases hj
    exact ⟨h73, hf⟩
  · rw [List.getElem?_eq_none (by rw [List.length_append, List.length_singleton]; omega)] at hj
    cases hj
end RC2
set_option maxRecDepth 20000 in
set_option maxHeartbeats 4000000 in
theorem cl_fld {l : Launch} {E : pmE} {d : Nat} {S : pmS} {P : pmP} {Q : Option Value → pmS → pmI → pmJ → pmP → Prop} (hG : sh_St S) (hP : gr_St P) {N B n0 h0 : Nat} {us : List vV} {x2 x3 x4 : Int32} {I1 : pmI} {J1 : pmJ} (hNb : N < 2624) (hu3 : us.length ≤ 3) (hB : B = 3 * n0 ∧ n0 ≤ 16000) (hh : h0 ≤ 890) (k : ∀ I' J', lpU 74 75 B I1 J1 I' J' us us.length → pm_W l E yX10_calls cX10_calls 6 none d 0 0 232 [(5, .int (nI us.length)), (4, .int x4), (3, .int x3), (2, .int x2), (0, .ref 47), (1, .int (nI N))] [] S I' J' P (pm_N E Q)) : ∀ (n i9 : Nat) (I : pmI) (J : pmJ), i9 + n = us.length → lpU 74 75 B I1 J1 I J us i9 → I 69 N = nI us.length → I 47 30 = nI n0 → I 47 62 = nI h0 → (∀ (i : Nat) (v : vV), us[i]? = some v → I 92 (h0 + i) = nI v.1 ∧ J 93 (h0 + i) = v.2) → pm_W l E yX10_calls cX10_calls 6 none d 0 0 163 [(5, .int (nI i9)), (4, .int x4), (3, .int x3), (2, .int x2), (0, .ref 47), (1, .int (nI N))] [] S I J P (pm_N E Q)
  | 0, i9, I, J, hi9, hlp, h69, hn, hh0, hus => by
    refine pw_iload dX10_calls_163 rfl ?_
    refine pw_aload_n dX10_calls_165 rfl ?_
    refine pw_getR fX10_74 dX10_calls_166 (sh_lt hG (by decide)) (sh_tg hG 45 rfl) rfl (gr_at hP 61 rfl) ?_
    refine pw_iload_n dX10_calls_169 rfl ?_
    refine pw_ialdN N dX10_calls_170 (sh_lt hG (by decide)) (sh_sh hG 67 rfl) (by decide) (rfl) (by omega) ?_
    refine pw_ti (z := nI us.length) h69 ?_
    refine pw_icmpN_ge _ _ (tgt := 232) dX10_calls_171 (by decide) (rfl) (rfl) (by omega) (by omega) (fun h171 => ?_) (fun h171 => absurd h171 (by omega))
    have e9 : i9 = us.length := by omega
    subst e9
    exact k I J hlp
  | n + 1, i9, I, J, hi9, hlp, h69, hn, hh0, hus => by
    have hil : i9 < us.length := by omega
    obtain ⟨v, hv⟩ : ∃ v, us[i9]? = some v := ⟨_, List.getElem?_eq_getElem hil⟩
    have hr := hus i9 v hv
    refine pw_iload dX10_calls_163 rfl ?_
    refine pw_aload_n dX10_calls_165 rfl ?_
    refine pw_getR fX10_74 dX10_calls_166 (sh_lt hG (by decide)) (sh_tg hG 45 rfl) rfl (gr_at hP 61 rfl) ?_
    refine pw_iload_n dX10_calls_169 rfl ?_
    refine pw_ialdN N dX10_calls_170 (sh_lt hG (by decide)) (sh_sh hG 67 rfl) (by decide) (rfl) (by omega) ?_
    refine pw_ti (z := nI us.length) h69 ?_
    refine pw_icmpN_ge _ _ (tgt := 232) dX10_calls_171 (by decide) (rfl) (rfl) (by omega) (by omega) (fun h171 => absurd h171 (by omega)) (fun h171 => ?_)
    refine pw_aload_n dX10_calls_174 rfl ?_
    refine pw_getR fX10_90 dX10_calls_175 (sh_lt hG (by decide)) (sh_tg hG 45 rfl) rfl (gr_at hP 66 rfl) ?_
    refine pw_iconst (v := nI 3) dX10_calls_178 (by decide) ?_
    refine pw_aload_n dX10_calls_179 rfl ?_
    refine pw_getI fX10_317 dX10_calls_180 (sh_lt hG (by decide)) (sh_tg hG 45 rfl) rfl ?_
    refine pw_imul dX10_calls_183 ?_
    refine pw_iload dX10_calls_184 rfl ?_
    refine pw_iadd dX10_calls_186 ?_
    refine pw_ti (z := nI (B + i9)) (by rw [hn, show nI 3 * nI n0 = nI (3 * n0) from (Int32.ofNat_mul 3 _).symm, nI_add, hB.1]) ?_
    refine pw_aload_n dX10_calls_187 rfl ?_
    refine pw_getR fX10_144 dX10_calls_188 (sh_lt hG (by decide)) (sh_tg hG 45 rfl) rfl (gr_at hP 84 rfl) ?_
    refine pw_aload_n dX10_calls_191 rfl ?_
    refine pw_getI fX10_279 dX10_calls_192 (sh_lt hG (by decide)) (sh_tg hG 45 rfl) rfl ?_
    refine pw_iload dX10_calls_195 rfl ?_
    refine pw_iadd dX10_calls_197 ?_
    refine pw_ti (z := nI (h0 + i9)) (by rw [hh0]; exact nI_add _ _) ?_
    refine pw_ialdN (h0 + i9) dX10_calls_198 (sh_lt hG (by decide)) (sh_sh hG 90 rfl) (by decide) (rfl) (by omega) ?_
    refine pw_ti (z := nI v.1) hr.1 ?_
    refine pw_iastN (B + i9) dX10_calls_199 (by decide) (sh_lt hG (by decide)) (sh_sh hG 72 rfl) (by decide) (rfl) (by omega) ?_
    refine pw_aload_n dX10_calls_200 rfl ?_
    refine pw_getR fX10_93 dX10_calls_201 (sh_lt hG (by decide)) (sh_tg hG 45 rfl) rfl (gr_at hP 67 rfl) ?_
    refine pw_iconst (v := nI 3) dX10_calls_204 (by decide) ?_
    refine pw_aload_n dX10_calls_205 rfl ?_
    refine pw_getI fX10_317 dX10_calls_206 (sh_lt hG (by decide)) (sh_tg hG 45 rfl) rfl ?_
    refine pw_imul dX10_calls_209 ?_
    refine pw_iload dX10_calls_210 rfl ?_
    refine pw_iadd dX10_calls_212 ?_
    refine pw_ti (z := nI (B + i9)) (by rw [pm_u_ne (by decide), hn, show nI 3 * nI n0 = nI (3 * n0) from (Int32.ofNat_mul 3 _).symm, nI_add, hB.1]) ?_
    refine pw_aload_n dX10_calls_213 rfl ?_
    refine pw_getR fX10_147 dX10_calls_214 (sh_lt hG (by decide)) (sh_tg hG 45 rfl) rfl (gr_at hP 85 rfl) ?_
    refine pw_aload_n dX10_calls_217 rfl ?_
    refine pw_getI fX10_279 dX10_calls_218 (sh_lt hG (by decide)) (sh_tg hG 45 rfl) rfl ?_
    refine pw_iload dX10_calls_221 rfl ?_
    refine pw_iadd dX10_calls_223 ?_
    refine pw_ti (z := nI (h0 + i9)) (by rw [pm_u_ne (by decide), hh0]; exact nI_add _ _) ?_
    refine pw_laldN (h0 + i9) dX10_calls_224 (sh_lt hG (by decide)) (sh_sh hG 91 rfl) (by decide) (rfl) (by omega) ?_
    refine pw_tj (z := v.2) hr.2 ?_
    refine pw_lastN (B + i9) dX10_calls_225 (by decide) (sh_lt hG (by decide)) (sh_sh hG 73 rfl) (by decide) (rfl) (by omega) ?_
    refine pw_iinc (lv' := [(5, _), (4, _), (3, _), (2, _), (0, _), (1, _)]) dX10_calls_226 rfl (by decide) rfl ?_
    refine pw_goto (tgt := 163) dX10_calls_229 (by decide) ?_
    refine pm_lvs (lv' := [(5, .int (nI (i9 + 1))), (4, _), (3, _), (2, _), (0, _), (1, _)]) (by rw [show nI i9 + Int32.ofInt 1 = nI (i9 + 1) from nI_add i9 1]) ?_
    exact cl_fld hG hP hNb hu3 hB hh k n (i9 + 1) _ _ (by omega) (hlp.step hv (by omega)) (by rw [pm_u_ne (by decide)]; exact h69) (by rw [pm_u_ne (by decide)]; exact hn) (by rw [pm_u_ne (by decide)]; exact hh0) (fun i u hu => by rw [pm_u_ne (by decide), pm_u_ne (by decide)]; exact hus i u hu)
set_option maxRecDepth 20000 in
set_option maxHeartbeats 4000000 in
theorem cl_arg {l : Launch} {E : pmE} {d : Nat} {S : pmS} {P : pmP} {Q : Option Value → pmS → pmI → pmJ → pmP → Prop} (hG : sh_St S) (hP : gr_St P) {N B n0 h0 : Nat} {us : List vV} {x2 x3 x4 : Int32} {I1 : pmI} {J1 : pmJ} (hNb : N < 2624) (hu3 : us.length ≤ 3) (hB : B = 3 * n0 ∧ n0 ≤ 20) (hh : h0 ≤ 890) (k : ∀ I' J', lpU 88 89 B I1 J1 I' J' us us.length → pm_W l E yX10_calls cX10_calls 6 none d 0 0 388 [(5, .int (nI us.length)), (4, .int x4), (3, .int x3), (2, .int x2), (0, .ref 47), (1, .int (nI N))] [] S I' J' P (pm_N E Q)) : ∀ (n i9 : Nat) (I : pmI) (J : pmJ), i9 + n = us.length → lpU 88 89 B I1 J1 I J us i9 → I 69 N = nI us.length → I 47 55 = nI n0 → I 47 62 = nI h0 → (∀ (i : Nat) (v : vV), us[i]? = some v → I 92 (h0 + i) = nI v.1 ∧ J 93 (h0 + i) = v.2) → pm_W l E yX10_calls cX10_calls 6 none d 0 0 319 [(5, .int (nI i9)), (4, .int x4), (3, .int x3), (2, .int x2), (0, .ref 47), (1, .int (nI N))] [] S I J P (pm_N E Q)
  | 0, i9, I, J, hi9, hlp, h69, hn, hh0, hus => by
    refine pw_iload dX10_calls_319 rfl ?_
    refine pw_aload_n dX10_calls_321 rfl ?_
    refine pw_getR fX10_74 dX10_calls_322 (sh_lt hG (by decide)) (sh_tg hG 45 rfl) rfl (gr_at hP 61 rfl) ?_
    refine pw_iload_n dX10_calls_325 rfl ?_
    refine pw_ialdN N dX10_calls_326 (sh_lt hG (by decide)) (sh_sh hG 67 rfl) (by decide) (rfl) (by omega) ?_
    refine pw_ti (z := nI us.length) h69 ?_
    refine pw_icmpN_ge _ _ (tgt := 388) dX10_calls_327 (by decide) (rfl) (rfl) (by omega) (by omega) (fun h327 => ?_) (fun h327 => absurd h327 (by omega))
    have e9 : i9 = us.length := by omega
    subst e9
    exact k I J hlp
  | n + 1, i9, I, J, hi9, hlp, h69, hn, hh0, hus => by
    have hil : i9 < us.length := by omega
    obtain ⟨v, hv⟩ : ∃ v, us[i9]? = some v := ⟨_, List.getElem?_eq_getElem hil⟩
    have hr := hus i9 v hv
    refine pw_iload dX10_calls_319 rfl ?_
    refine pw_aload_n dX10_calls_321 rfl ?_
    refine pw_getR fX10_74 dX10_calls_322 (sh_lt hG (by decide)) (sh_tg hG 45 rfl) rfl (gr_at hP 61 rfl) ?_
    refine pw_iload_n dX10_calls_325 rfl ?_
    refine pw_ialdN N dX10_calls_326 (sh_lt hG (by decide)) (sh_sh hG 67 rfl) (by decide) (rfl) (by omega) ?_
    refine pw_ti (z := nI us.length) h69 ?_
    refine pw_icmpN_ge _ _ (tgt := 388) dX10_calls_327 (by decide) (rfl) (rfl) (by omega) (by omega) (fun h327 => absurd h327 (by omega)) (fun h327 => ?_)
    refine pw_aload_n dX10_calls_330 rfl ?_
    refine pw_getR fX10_132 dX10_calls_331 (sh_lt hG (by decide)) (sh_tg hG 45 rfl) rfl (gr_at hP 80 rfl) ?_
    refine pw_iconst (v := nI 3) dX10_calls_334 (by decide) ?_
    refine pw_aload_n dX10_calls_335 rfl ?_
    refine pw_getI fX10_288 dX10_calls_336 (sh_lt hG (by decide)) (sh_tg hG 45 rfl) rfl ?_
    refine pw_imul dX10_calls_339 ?_
    refine pw_iload dX10_calls_340 rfl ?_
    refine pw_iadd dX10_calls_342 ?_
    refine pw_ti (z := nI (B + i9)) (by rw [hn, show nI 3 * nI n0 = nI (3 * n0) from (Int32.ofNat_mul 3 _).symm, nI_add, hB.1]) ?_
    refine pw_aload_n dX10_calls_343 rfl ?_
    refine pw_getR fX10_144 dX10_calls_344 (sh_lt hG (by decide)) (sh_tg hG 45 rfl) rfl (gr_at hP 84 rfl) ?_
    refine pw_aload_n dX10_calls_347 rfl ?_
    refine pw_getI fX10_279 dX10_calls_348 (sh_lt hG (by decide)) (sh_tg hG 45 rfl) rfl ?_
    refine pw_iload dX10_calls_351 rfl ?_
    refine pw_iadd dX10_calls_353 ?_
    refine pw_ti (z := nI (h0 + i9)) (by rw [hh0]; exact nI_add _ _) ?_
    refine pw_ialdN (h0 + i9) dX10_calls_354 (sh_lt hG (by decide)) (sh_sh hG 90 rfl) (by decide) (rfl) (by omega) ?_
    refine pw_ti (z := nI v.1) hr.1 ?_
    refine pw_iastN (B + i9) dX10_calls_355 (by decide) (sh_lt hG (by decide)) (sh_sh hG 86 rfl) (by decide) (rfl) (by omega) ?_
    refine pw_aload_n dX10_calls_356 rfl ?_
    refine pw_getR fX10_135 dX10_calls_357 (sh_lt hG (by decide)) (sh_tg hG 45 rfl) rfl (gr_at hP 81 rfl) ?_
    refine pw_iconst (v := nI 3) dX10_calls_360 (by decide) ?_
    refine pw_aload_n dX10_calls_361 rfl ?_
    refine pw_getI fX10_288 dX10_calls_362 (sh_lt hG (by decide)) (sh_tg hG 45 rfl) rfl ?_
    refine pw_imul dX10_calls_365 ?_
    refine pw_iload dX10_calls_366 rfl ?_
    refine pw_iadd dX10_calls_368 ?_
    refine pw_ti (z := nI (B + i9)) (by rw [pm_u_ne (by decide), hn, show nI 3 * nI n0 = nI (3 * n0) from (Int32.ofNat_mul 3 _).symm, nI_add, hB.1]) ?_
    refine pw_aload_n dX10_calls_369 rfl ?_
    refine pw_getR fX10_147 dX10_calls_370 (sh_lt hG (by decide)) (sh_tg hG 45 rfl) rfl (gr_at hP 85 rfl) ?_
    refine pw_aload_n dX10_calls_373 rfl ?_
    refine pw_getI fX10_279 dX10_calls_374 (sh_lt hG (by decide)) (sh_tg hG 45 rfl) rfl ?_
    refine pw_iload dX10_calls_377 rfl ?_
    refine pw_iadd dX10_calls_379 ?_
    refine pw_ti (z := nI (h0 + i9)) (by rw [pm_u_ne (by decide), hh0]; exact nI_add _ _) ?_
    refine pw_laldN (h0 + i9) dX10_calls_380 (sh_lt hG (by decide)) (sh_sh hG 91 rfl) (by decide) (rfl) (by omega) ?_
    refine pw_tj (z := v.2) hr.2 ?_
    refine pw_lastN (B + i9) dX10_calls_381 (by decide) (sh_lt hG (by decide)) (sh_sh hG 87 rfl) (by decide) (rfl) (by omega) ?_
    refine pw_iinc (lv' := [(5, _), (4, _), (3, _), (2, _), (0, _), (1, _)]) dX10_calls_382 rfl (by decide) rfl ?_
    refine pw_goto (tgt := 319) dX10_calls_385 (by decide) ?_
    refine pm_lvs (lv' := [(5, .int (nI (i9 + 1))), (4, _), (3, _), (2, _), (0, _), (1, _)]) (by rw [show nI i9 + Int32.ofInt 1 = nI (i9 + 1) from nI_add i9 1]) ?_
    exact cl_arg hG hP hNb hu3 hB hh k n (i9 + 1) _ _ (by omega) (hlp.step hv (by omega)) (by rw [pm_u_ne (by decide)]; exact h69) (by rw [pm_u_ne (by decide)]; exact hn) (by rw [pm_u_ne (by decide)]; exact hh0) (fun i u hu => by rw [pm_u_ne (by decide), pm_u_ne (by decide)]; exact hus i u hu)
set_option maxRecDepth 20000 in
set_option maxHeartbeats 4000000 in
theorem r_arg0 {l : Launch} {E : pmE} {d : Nat} {S : pmS} {I : pmI} {J : pmJ} {P : pmP} {Q : Option Value → pmS → pmI → pmJ → pmP → Prop} {I0 : pmI} {J0 : pmJ} {A : aS} {fr : List (Nat × Nat)} {hv : List vV} {cx : List (Nat × List vV)} {s : Nat} {t : List tH} {N : Nat} {f : Nat}  (hG : sh_St S) (hP : gr_St P) (h : rS I0 J0 A I J (fr ++ [(N, f + 1)]) hv cx s t) (hd : 2 ≤ d) (hNb : N < 2624) (ht : t.length ≤ 16000) (hA : rA I0 J0 A) (hO : aO A) {w9 : Int64} {g : Nat} (hg : g ≤ 3) (hw9 : w9 ∈ A.ns) (hv70 : J0 70 N = hN A.ns w9) (hnm : I0 69 N = nI g) (hf5 : f ≤ 5) (hfe : f = 0) (hlt : 0 < g) (hfl : fr.length < 898) {c9 : Nat} (hc9 : I0 64 N = nI c9) (k : ∀ I', rS I0 J0 A I' J ((fr ++ [(N, f + 2)]) ++ [(c9, 0)]) hv cx s t → Q none S I' J P) : pm_Met l E yX10_calls cX10_calls 6 none d 0 0 [.ref 47, .int (nI N)] S I J P Q := by
  unfold pm_Met
  have htp := h.top.2.2.2
  refine pm_lvs (lv' := [(0, _), (1, _)]) rfl ?_
  refine pw_aload_n dX10_calls_0 rfl ?_
  refine pw_getI fX10_282 dX10_calls_1 (sh_lt hG (by decide)) (sh_tg hG 45 rfl) rfl ?_
  refine pw_iconst (v := nI 1) dX10_calls_4 (by decide) ?_
  refine pw_isub dX10_calls_5 ?_
  refine pw_ti (z := nI fr.length) h.top.1 ?_
  refine pw_istore_n (lv' := [(2, _), (0, _), (1, _)]) dX10_calls_6 (by decide) rfl ?_
  refine pw_aload_n dX10_calls_7 rfl ?_
  refine pw_getR fX10_141 dX10_calls_8 (sh_lt hG (by decide)) (sh_tg hG 45 rfl) rfl (gr_at hP 83 rfl) ?_
  refine pw_iload_n dX10_calls_11 rfl ?_
  refine pw_ialdN fr.length dX10_calls_12 (sh_lt hG (by decide)) (sh_sh hG 89 rfl) (by decide) (rfl) (by omega) ?_
  refine pw_iconst (v := nI 1) dX10_calls_13 (by decide) ?_
  refine pw_isub dX10_calls_14 ?_
  refine pw_ti (z := nI f) (by rw [h.top.2.2.1]; exact nI_pred f) ?_
  refine pw_istore_n (lv' := [(3, _), (2, _), (0, _), (1, _)]) dX10_calls_15 (by decide) rfl ?_
  refine pw_aload_n dX10_calls_16 rfl ?_
  refine pw_getR fX10_77 dX10_calls_17 (sh_lt hG (by decide)) (sh_tg hG 45 rfl) rfl (gr_at hP 62 rfl) ?_
  refine pw_iload_n dX10_calls_20 rfl ?_
  refine pw_laldN N dX10_calls_21 (sh_lt hG (by decide)) (sh_sh hG 68 rfl) (by decide) (rfl) (by omega) ?_
  refine pw_tj (z := hN A.ns w9) (h.nov hv70) ?_
  refine pw_l2i dX10_calls_22 ?_
  refine pw_ti (z := nI (A.ns.idxOf w9)) (lN_i _) ?_
  refine pw_istore (lv' := [(4, _), (3, _), (2, _), (0, _), (1, _)]) dX10_calls_23 (by decide) rfl ?_
  refine pw_iload_n dX10_calls_25 rfl ?_
  refine pw_aload_n dX10_calls_26 rfl ?_
  refine pw_getR fX10_74 dX10_calls_27 (sh_lt hG (by decide)) (sh_tg hG 45 rfl) rfl (gr_at hP 61 rfl) ?_
  refine pw_iload_n dX10_calls_30 rfl ?_
  refine pw_ialdN N dX10_calls_31 (sh_lt hG (by decide)) (sh_sh hG 67 rfl) (by decide) (rfl) (by omega) ?_
  refine pw_ti (z := nI g) (h.nod hnm (by decide) (by decide)) ?_
  refine pw_icmpN_ge _ _ (tgt := 85) dX10_calls_32 (by decide) (rfl) (rfl) (by omega) (by omega) (fun h32 => absurd h32 (by omega)) (fun h32 => ?_)
  refine pw_aload_n dX10_calls_35 rfl ?_
  refine pw_getR fX10_141 dX10_calls_36 (sh_lt hG (by decide)) (sh_tg hG 45 rfl) rfl (gr_at hP 83 rfl) ?_
  refine pw_iload_n dX10_calls_39 rfl ?_
  refine pw_dup2 dX10_calls_40 rfl rfl ?_
  refine pw_ialdN fr.length dX10_calls_41 (sh_lt hG (by decide)) (sh_sh hG 89 rfl) (by decide) (rfl) (by omega) ?_
  refine pw_iconst (v := nI 1) dX10_calls_42 (by decide) ?_
  refine pw_iadd dX10_calls_43 ?_
  refine pw_ti (z := nI (f + 2)) (by rw [h.top.2.2.1]; exact nI_add (f + 1) 1) ?_
  refine pw_iastN fr.length dX10_calls_44 (by decide) (sh_lt hG (by decide)) (sh_sh hG 89 rfl) (by decide) (rfl) (by omega) ?_
  refine pw_aload_n dX10_calls_45 rfl ?_
  refine pw_iload_n dX10_calls_46 rfl ?_
  refine pw_ifN_ne _ (tgt := 59) dX10_calls_47 (by decide) (rfl) (by omega) (fun h47 => absurd h47 (by omega)) (fun h47 => ?_)
  refine pw_aload_n dX10_calls_50 rfl ?_
  refine pw_getR fX10_59 dX10_calls_51 (sh_lt hG (by decide)) (sh_tg hG 45 rfl) rfl (gr_at hP 56 rfl) ?_
  refine pw_iload_n dX10_calls_54 rfl ?_
  refine pw_ialdN N dX10_calls_55 (sh_lt hG (by decide)) (sh_sh hG 62 rfl) (by decide) (rfl) (by omega) ?_
  refine pw_ti (z := nI c9) ((h.setF (g := f + 2)).nod hc9 (by decide) (by decide)) ?_
  refine pw_goto (tgt := 79) dX10_calls_56 (by decide) ?_
  refine pw_callV (as := [_]) (kc' := 0) (ks' := 0) lX10_314 dX10_calls_79 rfl rfl (sh_lt hG (by decide)) (sh_tg hG 45 rfl) (Nat.le_of_ble_eq_true rfl) (by omega) (Nat.le_of_ble_eq_true rfl) (Nat.zero_le _) (Nat.zero_le _) ?_
  refine r_go hG hP (h.setF (g := f + 2)) (by rw [List.length_append]; show fr.length + 1 < 899; omega) (fun I3 h3 => ?_)
  refine pw_goto (tgt := 404) dX10_calls_82 (by decide) ?_
  exact pw_vret dX10_calls_404 rfl (k _ h3)
set_option maxRecDepth 20000 in
set_option maxHeartbeats 4000000 in
theorem r_arg1 {l : Launch} {E : pmE} {d : Nat} {S : pmS} {I : pmI} {J : pmJ} {P : pmP} {Q : Option Value → pmS → pmI → pmJ → pmP → Prop} {I0 : pmI} {J0 : pmJ} {A : aS} {fr : List (Nat × Nat)} {hv : List vV} {cx : List (Nat × List vV)} {s : Nat} {t : List tH} {N : Nat} {f : Nat}  (hG : sh_St S) (hP : gr_St P) (h : rS I0 J0 A I J (fr ++ [(N, f + 1)]) hv cx s t) (hd : 2 ≤ d) (hNb : N < 2624) (ht : t.length ≤ 16000) (hA : rA I0 J0 A) (hO : aO A) {w9 : Int64} {g : Nat} (hg : g ≤ 3) (hw9 : w9 ∈ A.ns) (hv70 : J0 70 N = hN A.ns w9) (hnm : I0 69 N = nI g) (hf5 : f ≤ 5) (hfe : f = 1) (hlt : 1 < g) (hfl : fr.length < 898) {c9 : Nat} (hc9 : I0 65 N = nI c9) (k : ∀ I', rS I0 J0 A I' J ((fr ++ [(N, f + 2)]) ++ [(c9, 0)]) hv cx s t → Q none S I' J P) : pm_Met l E yX10_calls cX10_calls 6 none d 0 0 [.ref 47, .int (nI N)] S I J P Q := by
  unfold pm_Met
  have htp := h.top.2.2.2
  refine pm_lvs (lv' := [(0, _), (1, _)]) rfl ?_
  refine pw_aload_n dX10_calls_0 rfl ?_
  refine pw_getI fX10_282 dX10_calls_1 (sh_lt hG (by decide)) (sh_tg hG 45 rfl) rfl ?_
  refine pw_iconst (v := nI 1) dX10_calls_4 (by decide) ?_
  refine pw_isub dX10_calls_5 ?_
  refine pw_ti (z := nI fr.length) h.top.1 ?_
  refine pw_istore_n (lv' := [(2, _), (0, _), (1, _)]) dX10_calls_6 (by decide) rfl ?_
  refine pw_aload_n dX10_calls_7 rfl ?_
  refine pw_getR fX10_141 dX10_calls_8 (sh_lt hG (by decide)) (sh_tg hG 45 rfl) rfl (gr_at hP 83 rfl) ?_
  refine pw_iload_n dX10_calls_11 rfl ?_
  refine pw_ialdN fr.length dX10_calls_12 (sh_lt hG (by decide)) (sh_sh hG 89 rfl) (by decide) (rfl) (by omega) ?_
  refine pw_iconst (v := nI 1) dX10_calls_13 (by decide) ?_
  refine pw_isub dX10_calls_14 ?_
  refine pw_ti (z := nI f) (by rw [h.top.2.2.1]; exact nI_pred f) ?_
  refine pw_istore_n (lv' := [(3, _), (2, _), (0, _), (1, _)]) dX10_calls_15 (by decide) rfl ?_
  refine pw_aload_n dX10_calls_16 rfl ?_
  refine pw_getR fX10_77 dX10_calls_17 (sh_lt hG (by decide)) (sh_tg hG 45 rfl) rfl (gr_at hP 62 rfl) ?_
  refine pw_iload_n dX10_calls_20 rfl ?_
  refine pw_laldN N dX10_calls_21 (sh_lt hG (by decide)) (sh_sh hG 68 rfl) (by decide) (rfl) (by omega) ?_
  refine pw_tj (z := hN A.ns w9) (h.nov hv70) ?_
  refine pw_l2i dX10_calls_22 ?_
  refine pw_ti (z := nI (A.ns.idxOf w9)) (lN_i _) ?_
  refine pw_istore (lv' := [(4, _), (3, _), (2, _), (0, _), (1, _)]) dX10_calls_23 (by decide) rfl ?_
  refine pw_iload_n dX10_calls_25 rfl ?_
  refine pw_aload_n dX10_calls_26 rfl ?_
  refine pw_getR fX10_74 dX10_calls_27 (sh_lt hG (by decide)) (sh_tg hG 45 rfl) rfl (gr_at hP 61 rfl) ?_
  refine pw_iload_n dX10_calls_30 rfl ?_
  refine pw_ialdN N dX10_calls_31 (sh_lt hG (by decide)) (sh_sh hG 67 rfl) (by decide) (rfl) (by omega) ?_
  refine pw_ti (z := nI g) (h.nod hnm (by decide) (by decide)) ?_
  refine pw_icmpN_ge _ _ (tgt := 85) dX10_calls_32 (by decide) (rfl) (rfl) (by omega) (by omega) (fun h32 => absurd h32 (by omega)) (fun h32 => ?_)
  refine pw_aload_n dX10_calls_35 rfl ?_
  refine pw_getR fX10_141 dX10_calls_36 (sh_lt hG (by decide)) (sh_tg hG 45 rfl) rfl (gr_at hP 83 rfl) ?_
  refine pw_iload_n dX10_calls_39 rfl ?_
  refine pw_dup2 dX10_calls_40 rfl rfl ?_
  refine pw_ialdN fr.length dX10_calls_41 (sh_lt hG (by decide)) (sh_sh hG 89 rfl) (by decide) (rfl) (by omega) ?_
  refine pw_iconst (v := nI 1) dX10_calls_42 (by decide) ?_
  refine pw_iadd dX10_calls_43 ?_
  refine pw_ti (z := nI (f + 2)) (by rw [h.top.2.2.1]; exact nI_add (f + 1) 1) ?_
  refine pw_iastN fr.length dX10_calls_44 (by decide) (sh_lt hG (by decide)) (sh_sh hG 89 rfl) (by decide) (rfl) (by omega) ?_
  refine pw_aload_n dX10_calls_45 rfl ?_
  refine pw_iload_n dX10_calls_46 rfl ?_
  refine pw_ifN_ne _ (tgt := 59) dX10_calls_47 (by decide) (rfl) (by omega) (fun h47 => ?_) (fun h47 => absurd h47 (by omega))
  refine pw_iload_n dX10_calls_59 rfl ?_
  refine pw_iconst (v := nI 1) dX10_calls_60 (by decide) ?_
  refine pw_icmpN_ne _ _ (tgt := 73) dX10_calls_61 (by decide) (rfl) (rfl) (by omega) (by omega) (fun h61 => absurd h61 (by omega)) (fun h61 => ?_)
  refine pw_aload_n dX10_calls_64 rfl ?_
  refine pw_getR fX10_62 dX10_calls_65 (sh_lt hG (by decide)) (sh_tg hG 45 rfl) rfl (gr_at hP 57 rfl) ?_
  refine pw_iload_n dX10_calls_68 rfl ?_
  refine pw_ialdN N dX10_calls_69 (sh_lt hG (by decide)) (sh_sh hG 63 rfl) (by decide) (rfl) (by omega) ?_
  refine pw_ti (z := nI c9) ((h.setF (g := f + 2)).nod hc9 (by decide) (by decide)) ?_
  refine pw_goto (tgt := 79) dX10_calls_70 (by decide) ?_
  refine pw_callV (as := [_]) (kc' := 0) (ks' := 0) lX10_314 dX10_calls_79 rfl rfl (sh_lt hG (by decide)) (sh_tg hG 45 rfl) (Nat.le_of_ble_eq_true rfl) (by omega) (Nat.le_of_ble_eq_true rfl) (Nat.zero_le _) (Nat.zero_le _) ?_
  refine r_go hG hP (h.setF (g := f + 2)) (by rw [List.length_append]; show fr.length + 1 < 899; omega) (fun I3 h3 => ?_)
  refine pw_goto (tgt := 404) dX10_calls_82 (by decide) ?_
  exact pw_vret dX10_calls_404 rfl (k _ h3)
set_option maxRecDepth 20000 in
set_option maxHeartbeats 4000000 in
theorem r_arg2 {l : Launch} {E : pmE} {d : Nat} {S : pmS} {I : pmI} {J : pmJ} {P : pmP} {Q : Option Value → pmS → pmI → pmJ → pmP → Prop} {I0 : pmI} {J0 : pmJ} {A : aS} {fr : List (Nat × Nat)} {hv : List vV} {cx : List (Nat × List vV)} {s : Nat} {t : List tH} {N : Nat} {f : Nat}  (hG : sh_St S) (hP : gr_St P) (h : rS I0 J0 A I J (fr ++ [(N, f + 1)]) hv cx s t) (hd : 2 ≤ d) (hNb : N < 2624) (ht : t.length ≤ 16000) (hA : rA I0 J0 A) (hO : aO A) {w9 : Int64} {g : Nat} (hg : g ≤ 3) (hw9 : w9 ∈ A.ns) (hv70 : J0 70 N = hN A.ns w9) (hnm : I0 69 N = nI g) (hf5 : f ≤ 5) (hfe : f = 2) (hlt : 2 < g) (hfl : fr.length < 898) {c9 : Nat} (hc9 : I0 66 N = nI c9) (k : ∀ I', rS I0 J0 A I' J ((fr ++ [(N, f + 2)]) ++ [(c9, 0)]) hv cx s t → Q none S I' J P) : pm_Met l E yX10_calls cX10_calls 6 none d 0 0 [.ref 47, .int (nI N)] S I J P Q := by
  unfold pm_Met
  have htp := h.top.2.2.2
  refine pm_lvs (lv' := [(0, _), (1, _)]) rfl ?_
  refine pw_aload_n dX10_calls_0 rfl ?_
  refine pw_getI fX10_282 dX10_calls_1 (sh_lt hG (by decide)) (sh_tg hG 45 rfl) rfl ?_
  refine pw_iconst (v := nI 1) dX10_calls_4 (by decide) ?_
  refine pw_isub dX10_calls_5 ?_
  refine pw_ti (z := nI fr.length) h.top.1 ?_
  refine pw_istore_n (lv' := [(2, _), (0, _), (1, _)]) dX10_calls_6 (by decide) rfl ?_
  refine pw_aload_n dX10_calls_7 rfl ?_
  refine pw_getR fX10_141 dX10_calls_8 (sh_lt hG (by decide)) (sh_tg hG 45 rfl) rfl (gr_at hP 83 rfl) ?_
  refine pw_iload_n dX10_calls_11 rfl ?_
  refine pw_ialdN fr.length dX10_calls_12 (sh_lt hG (by decide)) (sh_sh hG 89 rfl) (by decide) (rfl) (by omega) ?_
  refine pw_iconst (v := nI 1) dX10_calls_13 (by decide) ?_
  refine pw_isub dX10_calls_14 ?_
  refine pw_ti (z := nI f) (by rw [h.top.2.2.1]; exact nI_pred f) ?_
  refine pw_istore_n (lv' := [(3, _), (2, _), (0, _), (1, _)]) dX10_calls_15 (by decide) rfl ?_
  refine pw_aload_n dX10_calls_16 rfl ?_
  refine pw_getR fX10_77 dX10_calls_17 (sh_lt hG (by decide)) (sh_tg hG 45 rfl) rfl (gr_at hP 62 rfl) ?_
  refine pw_iload_n dX10_calls_20 rfl ?_
  refine pw_laldN N dX10_calls_21 (sh_lt hG (by decide)) (sh_sh hG 68 rfl) (by decide) (rfl) (by omega) ?_
  refine pw_tj (z := hN A.ns w9) (h.nov hv70) ?_
  refine pw_l2i dX10_calls_22 ?_
  refine pw_ti (z := nI (A.ns.idxOf w9)) (lN_i _) ?_
  refine pw_istore (lv' := [(4, _), (3, _), (2, _), (0, _), (1, _)]) dX10_calls_23 (by decide) rfl ?_
  refine pw_iload_n dX10_calls_25 rfl ?_
  refine pw_aload_n dX10_calls_26 rfl ?_
  refine pw_getR fX10_74 dX10_calls_27 (sh_lt hG (by decide)) (sh_tg hG 45 rfl) rfl (gr_at hP 61 rfl) ?_
  refine pw_iload_n dX10_calls_30 rfl ?_
  refine pw_ialdN N dX10_calls_31 (sh_lt hG (by decide)) (sh_sh hG 67 rfl) (by decide) (rfl) (by omega) ?_
  refine pw_ti (z := nI g) (h.nod hnm (by decide) (by decide)) ?_
  refine pw_icmpN_ge _ _ (tgt := 85) dX10_calls_32 (by decide) (rfl) (rfl) (by omega) (by omega) (fun h32 => absurd h32 (by omega)) (fun h32 => ?_)
  refine pw_aload_n dX10_calls_35 rfl ?_
  refine pw_getR fX10_141 dX10_calls_36 (sh_lt hG (by decide)) (sh_tg hG 45 rfl) rfl (gr_at hP 83 rfl) ?_
  refine pw_iload_n dX10_calls_39 rfl ?_
  refine pw_dup2 dX10_calls_40 rfl rfl ?_
  refine pw_ialdN fr.length dX10_calls_41 (sh_lt hG (by decide)) (sh_sh hG 89 rfl) (by decide) (rfl) (by omega) ?_
  refine pw_iconst (v := nI 1) dX10_calls_42 (by decide) ?_
  refine pw_iadd dX10_calls_43 ?_
  refine pw_ti (z := nI (f + 2)) (by rw [h.top.2.2.1]; exact nI_add (f + 1) 1) ?_
  refine pw_iastN fr.length dX10_calls_44 (by decide) (sh_lt hG (by decide)) (sh_sh hG 89 rfl) (by decide) (rfl) (by omega) ?_
  refine pw_aload_n dX10_calls_45 rfl ?_
  refine pw_iload_n dX10_calls_46 rfl ?_
  refine pw_ifN_ne _ (tgt := 59) dX10_calls_47 (by decide) (rfl) (by omega) (fun h47 => ?_) (fun h47 => absurd h47 (by omega))
  refine pw_iload_n dX10_calls_59 rfl ?_
  refine pw_iconst (v := nI 1) dX10_calls_60 (by decide) ?_
  refine pw_icmpN_ne _ _ (tgt := 73) dX10_calls_61 (by decide) (rfl) (rfl) (by omega) (by omega) (fun h61 => ?_) (fun h61 => absurd h61 (by omega))
  refine pw_aload_n dX10_calls_73 rfl ?_
  refine pw_getR fX10_65 dX10_calls_74 (sh_lt hG (by decide)) (sh_tg hG 45 rfl) rfl (gr_at hP 58 rfl) ?_
  refine pw_iload_n dX10_calls_77 rfl ?_
  refine pw_ialdN N dX10_calls_78 (sh_lt hG (by decide)) (sh_sh hG 64 rfl) (by decide) (rfl) (by omega) ?_
  refine pw_ti (z := nI c9) ((h.setF (g := f + 2)).nod hc9 (by decide) (by decide)) ?_
  refine pw_callV (as := [_]) (kc' := 0) (ks' := 0) lX10_314 dX10_calls_79 rfl rfl (sh_lt hG (by decide)) (sh_tg hG 45 rfl) (Nat.le_of_ble_eq_true rfl) (by omega) (Nat.le_of_ble_eq_true rfl) (Nat.zero_le _) (Nat.zero_le _) ?_
  refine r_go hG hP (h.setF (g := f + 2)) (by rw [List.length_append]; show fr.length + 1 < 899; omega) (fun I3 h3 => ?_)
  refine pw_goto (tgt := 404) dX10_calls_82 (by decide) ?_
  exact pw_vret dX10_calls_404 rfl (k _ h3)
set_option maxRecDepth 20000 in
set_option maxHeartbeats 4000000 in
theorem r_back {l : Launch} {E : pmE} {d : Nat} {S : pmS} {I : pmI} {J : pmJ} {P : pmP} {Q : Option Value → pmS → pmI → pmJ → pmP → Prop} {I0 : pmI} {J0 : pmJ} {A : aS} {fr : List (Nat × Nat)} {hv : List vV} {cx : List (Nat × List vV)} {s : Nat} {t : List tH} {N : Nat} {f : Nat} {x9 : Nat × List vV} (hG : sh_St S) (hP : gr_St P) (h : rS I0 J0 A I J (fr ++ [(N, f + 1)]) hv (cx ++ [x9]) s t) (hd : 2 ≤ d) (hNb : N < 2624) (ht : t.length ≤ 16000) (hA : rA I0 J0 A) (hO : aO A) {w9 : Int64} {g : Nat} (hg : g ≤ 3) (hw9 : w9 ∈ A.ns) (hv70 : J0 70 N = hN A.ns w9) (hnm : I0 69 N = nI g) (hf5 : f ≤ 5) (hfe : f = g + 1) (k : ∀ I', rS I0 J0 A I' J fr hv cx s t → Q none S I' J P) : pm_Met l E yX10_calls cX10_calls 6 none d 0 0 [.ref 47, .int (nI N)] S I J P Q := by
  unfold pm_Met
  have htp := h.top.2.2.2
  refine pm_lvs (lv' := [(0, _), (1, _)]) rfl ?_
  refine pw_aload_n dX10_calls_0 rfl ?_
  refine pw_getI fX10_282 dX10_calls_1 (sh_lt hG (by decide)) (sh_tg hG 45 rfl) rfl ?_
  refine pw_iconst (v := nI 1) dX10_calls_4 (by decide) ?_
  refine pw_isub dX10_calls_5 ?_
  refine pw_ti (z := nI fr.length) h.top.1 ?_
  refine pw_istore_n (lv' := [(2, _), (0, _), (1, _)]) dX10_calls_6 (by decide) rfl ?_
  refine pw_aload_n dX10_calls_7 rfl ?_
  refine pw_getR fX10_141 dX10_calls_8 (sh_lt hG (by decide)) (sh_tg hG 45 rfl) rfl (gr_at hP 83 rfl) ?_
  refine pw_iload_n dX10_calls_11 rfl ?_
  refine pw_ialdN fr.length dX10_calls_12 (sh_lt hG (by decide)) (sh_sh hG 89 rfl) (by decide) (rfl) (by omega) ?_
  refine pw_iconst (v := nI 1) dX10_calls_13 (by decide) ?_
  refine pw_isub dX10_calls_14 ?_
  refine pw_ti (z := nI f) (by rw [h.top.2.2.1]; exact nI_pred f) ?_
  refine pw_istore_n (lv' := [(3, _), (2, _), (0, _), (1, _)]) dX10_calls_15 (by decide) rfl ?_
  refine pw_aload_n dX10_calls_16 rfl ?_
  refine pw_getR fX10_77 dX10_calls_17 (sh_lt hG (by decide)) (sh_tg hG 45 rfl) rfl (gr_at hP 62 rfl) ?_
  refine pw_iload_n dX10_calls_20 rfl ?_
  refine pw_laldN N dX10_calls_21 (sh_lt hG (by decide)) (sh_sh hG 68 rfl) (by decide) (rfl) (by omega) ?_
  refine pw_tj (z := hN A.ns w9) (h.nov hv70) ?_
  refine pw_l2i dX10_calls_22 ?_
  refine pw_ti (z := nI (A.ns.idxOf w9)) (lN_i _) ?_
  refine pw_istore (lv' := [(4, _), (3, _), (2, _), (0, _), (1, _)]) dX10_calls_23 (by decide) rfl ?_
  refine pw_iload_n dX10_calls_25 rfl ?_
  refine pw_aload_n dX10_calls_26 rfl ?_
  refine pw_getR fX10_74 dX10_calls_27 (sh_lt hG (by decide)) (sh_tg hG 45 rfl) rfl (gr_at hP 61 rfl) ?_
  refine pw_iload_n dX10_calls_30 rfl ?_
  refine pw_ialdN N dX10_calls_31 (sh_lt hG (by decide)) (sh_sh hG 67 rfl) (by decide) (rfl) (by omega) ?_
  refine pw_ti (z := nI g) (h.nod hnm (by decide) (by decide)) ?_
  refine pw_icmpN_ge _ _ (tgt := 85) dX10_calls_32 (by decide) (rfl) (rfl) (by omega) (by omega) (fun h32 => ?_) (fun h32 => absurd h32 (by omega))
  refine pw_iload_n dX10_calls_85 rfl ?_
  refine pw_aload_n dX10_calls_86 rfl ?_
  refine pw_getR fX10_74 dX10_calls_87 (sh_lt hG (by decide)) (sh_tg hG 45 rfl) rfl (gr_at hP 61 rfl) ?_
  refine pw_iload_n dX10_calls_90 rfl ?_
  refine pw_ialdN N dX10_calls_91 (sh_lt hG (by decide)) (sh_sh hG 67 rfl) (by decide) (rfl) (by omega) ?_
  refine pw_ti (z := nI g) (h.nod hnm (by decide) (by decide)) ?_
  refine pw_icmpN_le _ _ (tgt := 118) dX10_calls_92 (by decide) (rfl) (rfl) (by omega) (by omega) (fun h92 => absurd h92 (by omega)) (fun h92 => ?_)
  refine pw_aload_n dX10_calls_95 rfl ?_
  refine pw_dup dX10_calls_96 rfl ?_
  refine pw_getI fX10_288 dX10_calls_97 (sh_lt hG (by decide)) (sh_tg hG 45 rfl) rfl ?_
  refine pw_iconst (v := nI 1) dX10_calls_100 (by decide) ?_
  refine pw_isub dX10_calls_101 ?_
  refine pw_ti (z := nI cx.length) (by rw [h.dp, List.length_append]; exact nI_pred _) ?_
  refine pw_putI fX10_288 dX10_calls_102 (Or.inl rfl) (by decide) (sh_lt hG (by decide)) (sh_tg hG 45 rfl) rfl ?_
  refine pw_aload_n dX10_calls_105 rfl ?_
  refine pw_dup dX10_calls_106 rfl ?_
  refine pw_getI fX10_282 dX10_calls_107 (sh_lt hG (by decide)) (sh_tg hG 45 rfl) rfl ?_
  refine pw_iconst (v := nI 1) dX10_calls_110 (by decide) ?_
  refine pw_isub dX10_calls_111 ?_
  refine pw_ti (z := nI fr.length) (h.leave).top.1 ?_
  refine pw_putI fX10_282 dX10_calls_112 (Or.inl rfl) (by decide) (sh_lt hG (by decide)) (sh_tg hG 45 rfl) rfl ?_
  refine pw_goto (tgt := 404) dX10_calls_115 (by decide) ?_
  exact pw_vret dX10_calls_404 rfl (k _ (h.leave).pop)
set_option maxRecDepth 20000 in
set_option maxHeartbeats 4000000 in
theorem r_put9 {l : Launch} {E : pmE} {d : Nat} {S : pmS} {I : pmI} {J : pmJ} {P : pmP} {Q : Option Value → pmS → pmI → pmJ → pmP → Prop} {I0 : pmI} {J0 : pmJ} {A : aS} {fr : List (Nat × Nat)} {hv : List vV} {cx : List (Nat × List vV)} {s : Nat} {t : List tH} (hG : sh_St S) (hP : gr_St P) (h : rS I0 J0 A I J fr hv cx s t) {v : vV} (hl : hv.length < 899) (k : ∀ I' J', rS I0 J0 A I' J' fr (hv ++ [v]) cx s t → (I' 73 = I 73 ∧ I' 74 = I 74 ∧ J' 75 = J 75) → Q none S I' J' P) : pm_Met l E yX10_put cX10_put 4 none d 0 0 [.ref 47, .int (nI v.1), .long v.2] S I J P Q := by
  unfold pm_Met
  refine pm_lvs (lv' := [(0, _), (1, _), (2, _)]) rfl ?_
  refine pw_aload_n dX10_put_0 rfl ?_
  refine pw_getR fX10_144 dX10_put_1 (sh_lt hG (by decide)) (sh_tg hG 45 rfl) rfl (gr_at hP 84 rfl) ?_
  refine pw_aload_n dX10_put_4 rfl ?_
  refine pw_getI fX10_279 dX10_put_5 (sh_lt hG (by decide)) (sh_tg hG 45 rfl) rfl ?_
  refine pw_iload_n dX10_put_8 rfl ?_
  refine pw_iastN hv.length dX10_put_9 (by decide) (sh_lt hG (by decide)) (sh_sh hG 90 rfl) (by decide) (h.hi) (by omega) ?_
  refine pw_aload_n dX10_put_10 rfl ?_
  refine pw_getR fX10_147 dX10_put_11 (sh_lt hG (by decide)) (sh_tg hG 45 rfl) rfl (gr_at hP 85 rfl) ?_
  refine pw_aload_n dX10_put_14 rfl ?_
  refine pw_getI fX10_279 dX10_put_15 (sh_lt hG (by decide)) (sh_tg hG 45 rfl) rfl ?_
  refine pw_lload_n dX10_put_18 rfl ?_
  refine pw_lastN hv.length dX10_put_19 (by decide) (sh_lt hG (by decide)) (sh_sh hG 91 rfl) (by decide) (by rw [pm_u_ne (by decide)]; exact h.hi) (by omega) ?_
  refine pw_aload_n dX10_put_20 rfl ?_
  refine pw_dup dX10_put_21 rfl ?_
  refine pw_getI fX10_279 dX10_put_22 (sh_lt hG (by decide)) (sh_tg hG 45 rfl) rfl ?_
  refine pw_iconst (v := nI 1) dX10_put_25 (by decide) ?_
  refine pw_iadd dX10_put_26 ?_
  refine pw_ti (z := nI (hv.length + 1)) (by rw [pm_u_ne (by decide), h.hi]; exact nI_add _ 1) ?_
  refine pw_putI fX10_279 dX10_put_27 (Or.inl rfl) (by decide) (sh_lt hG (by decide)) (sh_tg hG 45 rfl) rfl ?_
  exact pw_vret dX10_put_30 rfl (k _ _ (h.put hl) ⟨by rw [pm_u_ne (by decide), pm_u_ne (by decide)], by rw [pm_u_ne (by decide), pm_u_ne (by decide)], by rw [pm_u_ne (by decide)]⟩)

set_option maxRecDepth 20000 in
set_option maxHeartbeats 4000000 in
theorem r_type {l : Launch} {E : pmE} {d : Nat} {S : pmS} {I : pmI} {J : pmJ} {P : pmP} {Q : Option Value → pmS → pmI → pmJ → pmP → Prop} {I0 : pmI} {J0 : pmJ} {A : aS} {fr : List (Nat × Nat)} {hv : List vV} {cx : List (Nat × List vV)} {s : Nat} {t : List tH} {N : Nat} {f : Nat} {us : List vV} (hG : sh_St S) (hP : gr_St P) (h : rS I0 J0 A I J (fr ++ [(N, f + 1)]) (hv ++ us) cx s t) (hd : 2 ≤ d) (hNb : N < 2624) (ht : t.length ≤ 16000) (hA : rA I0 J0 A) (hO : aO A) {w9 : Int64} {g : Nat} (hg : g ≤ 3) (hw9 : w9 ∈ A.ns) (hv70 : J0 70 N = hN A.ns w9) (hnm : I0 69 N = nI g) (hf5 : f ≤ 5) (hfe : f = g) (hus9 : us.length = g) (hfm : A.fm w9 = 3) {s' : Nat} (hdc : A.dc w9 = some s') (hv3 : ∀ q ∈ t, q.2.length ≤ 3) (hhl : hv.length < 890) (k : ∀ I' J', rS I0 J0 A I' J' fr (hv ++ [(2, lN t.length)]) cx s (t ++ [(s', us)]) → Q none S I' J' P) : pm_Met l E yX10_calls cX10_calls 6 none d 0 0 [.ref 47, .int (nI N)] S I J P Q := by
  unfold pm_Met
  have htp := h.top.2.2.2
  have hA2 := h.a hA
  have hat2 := (ns_at hw9).2
  have hn4 := hO.1.2
  have hk4 := hO.k
  have hf3 := fm_le hO w9
  have hnv := hA2.nm hw9
  have hlm := h.lm.2.1
  rw [List.length_append] at hlm
  refine pm_lvs (lv' := [(0, _), (1, _)]) rfl ?_
  refine pw_aload_n dX10_calls_0 rfl ?_
  refine pw_getI fX10_282 dX10_calls_1 (sh_lt hG (by decide)) (sh_tg hG 45 rfl) rfl ?_
  refine pw_iconst (v := nI 1) dX10_calls_4 (by decide) ?_
  refine pw_isub dX10_calls_5 ?_
  refine pw_ti (z := nI fr.length) h.top.1 ?_
  refine pw_istore_n (lv' := [(2, _), (0, _), (1, _)]) dX10_calls_6 (by decide) rfl ?_
  refine pw_aload_n dX10_calls_7 rfl ?_
  refine pw_getR fX10_141 dX10_calls_8 (sh_lt hG (by decide)) (sh_tg hG 45 rfl) rfl (gr_at hP 83 rfl) ?_
  refine pw_iload_n dX10_calls_11 rfl ?_
  refine pw_ialdN fr.length dX10_calls_12 (sh_lt hG (by decide)) (sh_sh hG 89 rfl) (by decide) (rfl) (by omega) ?_
  refine pw_iconst (v := nI 1) dX10_calls_13 (by decide) ?_
  refine pw_isub dX10_calls_14 ?_
  refine pw_ti (z := nI f) (by rw [h.top.2.2.1]; exact nI_pred f) ?_
  refine pw_istore_n (lv' := [(3, _), (2, _), (0, _), (1, _)]) dX10_calls_15 (by decide) rfl ?_
  refine pw_aload_n dX10_calls_16 rfl ?_
  refine pw_getR fX10_77 dX10_calls_17 (sh_lt hG (by decide)) (sh_tg hG 45 rfl) rfl (gr_at hP 62 rfl) ?_
  refine pw_iload_n dX10_calls_20 rfl ?_
  refine pw_laldN N dX10_calls_21 (sh_lt hG (by decide)) (sh_sh hG 68 rfl) (by decide) (rfl) (by omega) ?_
  refine pw_tj (z := hN A.ns w9) (h.nov hv70) ?_
  refine pw_l2i dX10_calls_22 ?_
  refine pw_ti (z := nI (A.ns.idxOf w9)) (lN_i _) ?_
  refine pw_istore (lv' := [(4, _), (3, _), (2, _), (0, _), (1, _)]) dX10_calls_23 (by decide) rfl ?_
  refine pw_iload_n dX10_calls_25 rfl ?_
  refine pw_aload_n dX10_calls_26 rfl ?_
  refine pw_getR fX10_74 dX10_calls_27 (sh_lt hG (by decide)) (sh_tg hG 45 rfl) rfl (gr_at hP 61 rfl) ?_
  refine pw_iload_n dX10_calls_30 rfl ?_
  refine pw_ialdN N dX10_calls_31 (sh_lt hG (by decide)) (sh_sh hG 67 rfl) (by decide) (rfl) (by omega) ?_
  refine pw_ti (z := nI g) (h.nod hnm (by decide) (by decide)) ?_
  refine pw_icmpN_ge _ _ (tgt := 85) dX10_calls_32 (by decide) (rfl) (rfl) (by omega) (by omega) (fun h32 => ?_) (fun h32 => absurd h32 (by omega))
  refine pw_iload_n dX10_calls_85 rfl ?_
  refine pw_aload_n dX10_calls_86 rfl ?_
  refine pw_getR fX10_74 dX10_calls_87 (sh_lt hG (by decide)) (sh_tg hG 45 rfl) rfl (gr_at hP 61 rfl) ?_
  refine pw_iload_n dX10_calls_90 rfl ?_
  refine pw_ialdN N dX10_calls_91 (sh_lt hG (by decide)) (sh_sh hG 67 rfl) (by decide) (rfl) (by omega) ?_
  refine pw_ti (z := nI g) (h.nod hnm (by decide) (by decide)) ?_
  refine pw_icmpN_le _ _ (tgt := 118) dX10_calls_92 (by decide) (rfl) (rfl) (by omega) (by omega) (fun h92 => ?_) (fun h92 => absurd h92 (by omega))
  refine pw_aload_n dX10_calls_118 rfl ?_
  refine pw_getR fX10_17 dX10_calls_119 (sh_lt hG (by decide)) (sh_tg hG 45 rfl) rfl (gr_at hP 42 rfl) ?_
  refine pw_iload dX10_calls_122 rfl ?_
  refine pw_ialdN (A.ns.idxOf w9) dX10_calls_124 (sh_lt hG (by decide)) (sh_sh hG 48 rfl) (by decide) (rfl) (by omega) ?_
  refine pw_ti (z := nI (A.fm w9)) hnv.2.1 ?_
  refine pw_iconst (v := nI 3) dX10_calls_125 (by decide) ?_
  refine pw_icmpN_ne _ _ (tgt := 265) dX10_calls_126 (by decide) (rfl) (rfl) (by omega) (by omega) (fun h126 => absurd h126 (by omega)) (fun h126 => ?_)
  refine pw_aload_n dX10_calls_129 rfl ?_
  refine pw_dup dX10_calls_130 rfl ?_
  refine pw_getI fX10_279 dX10_calls_131 (sh_lt hG (by decide)) (sh_tg hG 45 rfl) rfl ?_
  refine pw_aload_n dX10_calls_134 rfl ?_
  refine pw_getR fX10_74 dX10_calls_135 (sh_lt hG (by decide)) (sh_tg hG 45 rfl) rfl (gr_at hP 61 rfl) ?_
  refine pw_iload_n dX10_calls_138 rfl ?_
  refine pw_ialdN N dX10_calls_139 (sh_lt hG (by decide)) (sh_sh hG 67 rfl) (by decide) (rfl) (by omega) ?_
  refine pw_ti (z := nI g) (h.nod hnm (by decide) (by decide)) ?_
  refine pw_isub dX10_calls_140 ?_
  refine pw_ti (z := nI hv.length) (by rw [h.hi, List.length_append, hus9, ← nI_add, Int32.add_sub_cancel]) ?_
  refine pw_putI fX10_279 dX10_calls_141 (Or.inl rfl) (by decide) (sh_lt hG (by decide)) (sh_tg hG 45 rfl) rfl ?_
  refine pw_aload_n dX10_calls_144 rfl ?_
  refine pw_getR fX10_86 dX10_calls_145 (sh_lt hG (by decide)) (sh_tg hG 45 rfl) rfl (gr_at hP 65 rfl) ?_
  refine pw_aload_n dX10_calls_148 rfl ?_
  refine pw_getI fX10_317 dX10_calls_149 (sh_lt hG (by decide)) (sh_tg hG 45 rfl) rfl ?_
  refine pw_aload_n dX10_calls_152 rfl ?_
  refine pw_getR fX10_20 dX10_calls_153 (sh_lt hG (by decide)) (sh_tg hG 45 rfl) rfl (gr_at hP 43 rfl) ?_
  refine pw_iload dX10_calls_156 rfl ?_
  refine pw_ialdN (A.ns.idxOf w9) dX10_calls_158 (sh_lt hG (by decide)) (sh_sh hG 49 rfl) (by decide) (rfl) (by omega) ?_
  refine pw_ti (z := nI s') (by rw [pm_u_ne (by decide), hnv.2.2.1, hdc]; rfl) ?_
  refine pw_iastN t.length dX10_calls_159 (by decide) (sh_lt hG (by decide)) (sh_sh hG 71 rfl) (by decide) (by rw [pm_u_eq, pm_up_ne (by decide)]; exact h.tt.1) (by omega) ?_
  refine pw_iconst (v := nI 0) dX10_calls_160 (by decide) ?_
  refine pw_istore (lv' := [(5, _), (4, _), (3, _), (2, _), (0, _), (1, _)]) dX10_calls_161 (by decide) rfl ?_
  refine pm_lvs (lv' := [(5, .int (nI 0)), (4, _), (3, _), (2, _), (0, _), (1, _)]) rfl ?_
  refine cl_fld hG hP hNb (n0 := t.length) (h0 := hv.length) (B := 3 * t.length) (by omega) ⟨rfl, ht⟩ (by omega) (fun I5 J5 hl5 => ?_) us.length 0 _ _ (Nat.zero_add _) lpU.refl (by rw [pm_u_ne (by decide), pm_u_ne (by decide), hus9]; exact h.nod hnm (by decide) (by decide)) (by rw [pm_u_ne (by decide), pm_u_eq, pm_up_ne (by decide)]; exact h.tt.1) (by rw [pm_u_ne (by decide), pm_u_eq, pm_up_eq]) (fun i v hi => by rw [pm_u_ne (by decide), pm_u_ne (by decide)]; exact h.vl _ v (ap_at hi))
  obtain ⟨h5, h73, h74⟩ := h.made hl5 hv3
  refine pw_aload_n dX10_calls_232 rfl ?_
  refine pw_iconst (v := nI 2) dX10_calls_233 (by decide) ?_
  refine pw_aload_n dX10_calls_234 rfl ?_
  refine pw_getI fX10_317 dX10_calls_235 (sh_lt hG (by decide)) (sh_tg hG 45 rfl) rfl ?_
  refine pw_i2l dX10_calls_238 ?_
  refine pw_tj (z := lN t.length) (by rw [h5.tt.1]; exact nI_l (by omega)) ?_
  refine pw_callV (as := [_, _]) (kc' := 0) (ks' := 0) lX10_295 dX10_calls_239 rfl rfl (sh_lt hG (by decide)) (sh_tg hG 45 rfl) (Nat.le_of_ble_eq_true rfl) (by omega) (Nat.le_of_ble_eq_true rfl) (Nat.zero_le _) (Nat.zero_le _) ?_
  refine r_put9 hG hP h5 (v := (2, lN t.length)) (by omega) (fun I6 J6 h6 hq6 => ?_)
  refine pw_aload_n dX10_calls_242 rfl ?_
  refine pw_dup dX10_calls_243 rfl ?_
  refine pw_getI fX10_317 dX10_calls_244 (sh_lt hG (by decide)) (sh_tg hG 45 rfl) rfl ?_
  refine pw_iconst (v := nI 1) dX10_calls_247 (by decide) ?_
  refine pw_iadd dX10_calls_248 ?_
  refine pw_ti (z := nI (t.length + 1)) (by rw [h6.tt.1]; exact nI_add _ 1) ?_
  refine pw_putI fX10_317 dX10_calls_249 (Or.inl rfl) (by decide) (sh_lt hG (by decide)) (sh_tg hG 45 rfl) rfl ?_
  refine pw_aload_n dX10_calls_252 rfl ?_
  refine pw_dup dX10_calls_253 rfl ?_
  refine pw_getI fX10_282 dX10_calls_254 (sh_lt hG (by decide)) (sh_tg hG 45 rfl) rfl ?_
  refine pw_iconst (v := nI 1) dX10_calls_257 (by decide) ?_
  refine pw_isub dX10_calls_258 ?_
  have h7 := h6.thing (v := (0, 0)) (s' := s') (us := us) (by rw [hq6.1]; exact h73) (fun k v hk => by rw [hq6.2.1, hq6.2.2]; exact h74 k v hk)
  refine pw_ti (z := nI fr.length) h7.top.1 ?_
  refine pw_putI fX10_282 dX10_calls_259 (Or.inl rfl) (by decide) (sh_lt hG (by decide)) (sh_tg hG 45 rfl) rfl ?_
  refine pw_goto (tgt := 404) dX10_calls_262 (by decide) ?_
  exact pw_vret dX10_calls_404 rfl (k _ _ h7.pop)
set_option maxRecDepth 20000 in
set_option maxHeartbeats 4000000 in
theorem r_mem {l : Launch} {E : pmE} {d : Nat} {S : pmS} {I : pmI} {J : pmJ} {P : pmP} {Q : Option Value → pmS → pmI → pmJ → pmP → Prop} {I0 : pmI} {J0 : pmJ} {A : aS} {fr : List (Nat × Nat)} {hv : List vV} {cx : List (Nat × List vV)} {s : Nat} {t : List tH} {N : Nat} {f : Nat} {us : List vV} (hG : sh_St S) (hP : gr_St P) (h : rS I0 J0 A I J (fr ++ [(N, f + 1)]) (hv ++ us) cx s t) (hd : 2 ≤ d) (hNb : N < 2624) (ht : t.length ≤ 16000) (hA : rA I0 J0 A) (hO : aO A) {w9 : Int64} {g : Nat} (hg : g ≤ 3) (hw9 : w9 ∈ A.ns) (hv70 : J0 70 N = hN A.ns w9) (hnm : I0 69 N = nI g) (hf5 : f ≤ 5) (hfe : f = g) (hus9 : us.length = g) (hfm : A.fm w9 = 2) {s' : Nat} (hs' : s' < A.sn.length) (hfo : (A.at s').form = 2) (hdc : A.dc w9 = some s') (hcl : cx.length < 20) (hhl : hv.length < 890) (hfl : fr.length < 898) (k : ∀ Nr mr I' J', mr ≤ 60 → ny I0 J0 (crN A.ns J0) (64 * s') (64 * s' + mr) (A.at s').tr Nr → rS I0 J0 A I' J' ((fr ++ [(N, f + 2)]) ++ [(Nr, 0)]) hv (cx ++ [(s', us)]) s t → Q none S I' J' P) : pm_Met l E yX10_calls cX10_calls 6 none d 0 0 [.ref 47, .int (nI N)] S I J P Q := by
  unfold pm_Met
  have htp := h.top.2.2.2
  have hA2 := h.a hA
  have hat2 := (ns_at hw9).2
  have hn4 := hO.1.2
  have hk4 := hO.k
  have hf3 := fm_le hO w9
  have hnv := hA2.nm hw9
  have hlm := h.lm.2.1
  rw [List.length_append] at hlm
  refine pm_lvs (lv' := [(0, _), (1, _)]) rfl ?_
  refine pw_aload_n dX10_calls_0 rfl ?_
  refine pw_getI fX10_282 dX10_calls_1 (sh_lt hG (by decide)) (sh_tg hG 45 rfl) rfl ?_
  refine pw_iconst (v := nI 1) dX10_calls_4 (by decide) ?_
  refine pw_isub dX10_calls_5 ?_
  refine pw_ti (z := nI fr.length) h.top.1 ?_
  refine pw_istore_n (lv' := [(2, _), (0, _), (1, _)]) dX10_calls_6 (by decide) rfl ?_
  refine pw_aload_n dX10_calls_7 rfl ?_
  refine pw_getR fX10_141 dX10_calls_8 (sh_lt hG (by decide)) (sh_tg hG 45 rfl) rfl (gr_at hP 83 rfl) ?_
  refine pw_iload_n dX10_calls_11 rfl ?_
  refine pw_ialdN fr.length dX10_calls_12 (sh_lt hG (by decide)) (sh_sh hG 89 rfl) (by decide) (rfl) (by omega) ?_
  refine pw_iconst (v := nI 1) dX10_calls_13 (by decide) ?_
  refine pw_isub dX10_calls_14 ?_
  refine pw_ti (z := nI f) (by rw [h.top.2.2.1]; exact nI_pred f) ?_
  refine pw_istore_n (lv' := [(3, _), (2, _), (0, _), (1, _)]) dX10_calls_15 (by decide) rfl ?_
  refine pw_aload_n dX10_calls_16 rfl ?_
  refine pw_getR fX10_77 dX10_calls_17 (sh_lt hG (by decide)) (sh_tg hG 45 rfl) rfl (gr_at hP 62 rfl) ?_
  refine pw_iload_n dX10_calls_20 rfl ?_
  refine pw_laldN N dX10_calls_21 (sh_lt hG (by decide)) (sh_sh hG 68 rfl) (by decide) (rfl) (by omega) ?_
  refine pw_tj (z := hN A.ns w9) (h.nov hv70) ?_
  refine pw_l2i dX10_calls_22 ?_
  refine pw_ti (z := nI (A.ns.idxOf w9)) (lN_i _) ?_
  refine pw_istore (lv' := [(4, _), (3, _), (2, _), (0, _), (1, _)]) dX10_calls_23 (by decide) rfl ?_
  refine pw_iload_n dX10_calls_25 rfl ?_
  refine pw_aload_n dX10_calls_26 rfl ?_
  refine pw_getR fX10_74 dX10_calls_27 (sh_lt hG (by decide)) (sh_tg hG 45 rfl) rfl (gr_at hP 61 rfl) ?_
  refine pw_iload_n dX10_calls_30 rfl ?_
  refine pw_ialdN N dX10_calls_31 (sh_lt hG (by decide)) (sh_sh hG 67 rfl) (by decide) (rfl) (by omega) ?_
  refine pw_ti (z := nI g) (h.nod hnm (by decide) (by decide)) ?_
  refine pw_icmpN_ge _ _ (tgt := 85) dX10_calls_32 (by decide) (rfl) (rfl) (by omega) (by omega) (fun h32 => ?_) (fun h32 => absurd h32 (by omega))
  refine pw_iload_n dX10_calls_85 rfl ?_
  refine pw_aload_n dX10_calls_86 rfl ?_
  refine pw_getR fX10_74 dX10_calls_87 (sh_lt hG (by decide)) (sh_tg hG 45 rfl) rfl (gr_at hP 61 rfl) ?_
  refine pw_iload_n dX10_calls_90 rfl ?_
  refine pw_ialdN N dX10_calls_91 (sh_lt hG (by decide)) (sh_sh hG 67 rfl) (by decide) (rfl) (by omega) ?_
  refine pw_ti (z := nI g) (h.nod hnm (by decide) (by decide)) ?_
  refine pw_icmpN_le _ _ (tgt := 118) dX10_calls_92 (by decide) (rfl) (rfl) (by omega) (by omega) (fun h92 => ?_) (fun h92 => absurd h92 (by omega))
  refine pw_aload_n dX10_calls_118 rfl ?_
  refine pw_getR fX10_17 dX10_calls_119 (sh_lt hG (by decide)) (sh_tg hG 45 rfl) rfl (gr_at hP 42 rfl) ?_
  refine pw_iload dX10_calls_122 rfl ?_
  refine pw_ialdN (A.ns.idxOf w9) dX10_calls_124 (sh_lt hG (by decide)) (sh_sh hG 48 rfl) (by decide) (rfl) (by omega) ?_
  refine pw_ti (z := nI (A.fm w9)) hnv.2.1 ?_
  refine pw_iconst (v := nI 3) dX10_calls_125 (by decide) ?_
  refine pw_icmpN_ne _ _ (tgt := 265) dX10_calls_126 (by decide) (rfl) (rfl) (by omega) (by omega) (fun h126 => ?_) (fun h126 => absurd h126 (by omega))
  refine pw_aload_n dX10_calls_265 rfl ?_
  refine pw_getR fX10_141 dX10_calls_266 (sh_lt hG (by decide)) (sh_tg hG 45 rfl) rfl (gr_at hP 83 rfl) ?_
  refine pw_iload_n dX10_calls_269 rfl ?_
  refine pw_dup2 dX10_calls_270 rfl rfl ?_
  refine pw_ialdN fr.length dX10_calls_271 (sh_lt hG (by decide)) (sh_sh hG 89 rfl) (by decide) (rfl) (by omega) ?_
  refine pw_iconst (v := nI 1) dX10_calls_272 (by decide) ?_
  refine pw_iadd dX10_calls_273 ?_
  refine pw_ti (z := nI (f + 2)) (by rw [h.top.2.2.1]; exact nI_add (f + 1) 1) ?_
  refine pw_iastN fr.length dX10_calls_274 (by decide) (sh_lt hG (by decide)) (sh_sh hG 89 rfl) (by decide) (rfl) (by omega) ?_
  have h2 := (h.setF (g := f + 2))
  refine pw_aload_n dX10_calls_275 rfl ?_
  refine pw_dup dX10_calls_276 rfl ?_
  refine pw_getI fX10_279 dX10_calls_277 (sh_lt hG (by decide)) (sh_tg hG 45 rfl) rfl ?_
  refine pw_aload_n dX10_calls_280 rfl ?_
  refine pw_getR fX10_74 dX10_calls_281 (sh_lt hG (by decide)) (sh_tg hG 45 rfl) rfl (gr_at hP 61 rfl) ?_
  refine pw_iload_n dX10_calls_284 rfl ?_
  refine pw_ialdN N dX10_calls_285 (sh_lt hG (by decide)) (sh_sh hG 67 rfl) (by decide) (rfl) (by omega) ?_
  refine pw_ti (z := nI g) (h2.nod hnm (by decide) (by decide)) ?_
  refine pw_isub dX10_calls_286 ?_
  refine pw_ti (z := nI hv.length) (by rw [h2.hi, List.length_append, hus9, ← nI_add, Int32.add_sub_cancel]) ?_
  refine pw_putI fX10_279 dX10_calls_287 (Or.inl rfl) (by decide) (sh_lt hG (by decide)) (sh_tg hG 45 rfl) rfl ?_
  refine pw_aload_n dX10_calls_290 rfl ?_
  refine pw_dup dX10_calls_291 rfl ?_
  refine pw_getI fX10_288 dX10_calls_292 (sh_lt hG (by decide)) (sh_tg hG 45 rfl) rfl ?_
  refine pw_iconst (v := nI 1) dX10_calls_295 (by decide) ?_
  refine pw_iadd dX10_calls_296 ?_
  refine pw_ti (z := nI (cx.length + 1)) (by rw [pm_u_eq, pm_up_ne (by decide), h2.dp]; exact nI_add _ 1) ?_
  refine pw_putI fX10_288 dX10_calls_297 (Or.inl rfl) (by decide) (sh_lt hG (by decide)) (sh_tg hG 45 rfl) rfl ?_
  refine pw_aload_n dX10_calls_300 rfl ?_
  refine pw_getR fX10_129 dX10_calls_301 (sh_lt hG (by decide)) (sh_tg hG 45 rfl) rfl (gr_at hP 79 rfl) ?_
  refine pw_aload_n dX10_calls_304 rfl ?_
  refine pw_getI fX10_288 dX10_calls_305 (sh_lt hG (by decide)) (sh_tg hG 45 rfl) rfl ?_
  refine pw_aload_n dX10_calls_308 rfl ?_
  refine pw_getR fX10_20 dX10_calls_309 (sh_lt hG (by decide)) (sh_tg hG 45 rfl) rfl (gr_at hP 43 rfl) ?_
  refine pw_iload dX10_calls_312 rfl ?_
  refine pw_ialdN (A.ns.idxOf w9) dX10_calls_314 (sh_lt hG (by decide)) (sh_sh hG 49 rfl) (by decide) (rfl) (by omega) ?_
  refine pw_ti (z := nI s') (by rw [pm_u_ne (by decide), pm_u_ne (by decide), pm_u_ne (by decide), hnv.2.2.1, hdc]; rfl) ?_
  refine pw_iastN (cx.length + 1) dX10_calls_315 (by decide) (sh_lt hG (by decide)) (sh_sh hG 85 rfl) (by decide) (by rw [pm_u_eq, pm_up_eq]) (by omega) ?_
  refine pw_iconst (v := nI 0) dX10_calls_316 (by decide) ?_
  refine pw_istore (lv' := [(5, _), (4, _), (3, _), (2, _), (0, _), (1, _)]) dX10_calls_317 (by decide) rfl ?_
  refine pm_lvs (lv' := [(5, .int (nI 0)), (4, _), (3, _), (2, _), (0, _), (1, _)]) rfl ?_
  refine cl_arg hG hP hNb (n0 := cx.length + 1) (h0 := hv.length) (B := 3 * (cx.length + 1)) (by omega) ⟨rfl, by omega⟩ (by omega) (fun I5 J5 hl5 => ?_) us.length 0 _ _ (Nat.zero_add _) lpU.refl (by rw [pm_u_ne (by decide), pm_u_ne (by decide), pm_u_ne (by decide), hus9]; exact h2.nod hnm (by decide) (by decide)) (by rw [pm_u_ne (by decide), pm_u_eq, pm_up_eq]) (by rw [pm_u_ne (by decide), pm_u_eq, pm_up_ne (by decide), pm_u_eq, pm_up_eq]) (fun i v hi => by rw [pm_u_ne (by decide), pm_u_ne (by decide), pm_u_ne (by decide)]; exact h2.vl _ v (ap_at hi))
  have h5 := h2.enter hcl (by omega) hl5
  have hA5 := h5.a hA
  have hnv5 := hA5.nm hw9
  obtain ⟨mr, hmr, g7, Nr, hNr0, g8⟩ := (hA.sn hs').2.2.2.2.2.2 hfo
  have hNr := h5.nod hNr0 (by decide) (by decide)
  refine pw_aload_n dX10_calls_388 rfl ?_
  refine pw_aload_n dX10_calls_389 rfl ?_
  refine pw_getR fX10_47 dX10_calls_390 (sh_lt hG (by decide)) (sh_tg hG 45 rfl) rfl (gr_at hP 52 rfl) ?_
  refine pw_aload_n dX10_calls_393 rfl ?_
  refine pw_getR fX10_20 dX10_calls_394 (sh_lt hG (by decide)) (sh_tg hG 45 rfl) rfl (gr_at hP 43 rfl) ?_
  refine pw_iload dX10_calls_397 rfl ?_
  refine pw_ialdN (A.ns.idxOf w9) dX10_calls_399 (sh_lt hG (by decide)) (sh_sh hG 49 rfl) (by decide) (rfl) (by omega) ?_
  refine pw_ti (z := nI s') (by rw [hnv5.2.2.1, hdc]; rfl) ?_
  refine pw_ialdN s' dX10_calls_400 (sh_lt hG (by decide)) (sh_sh hG 58 rfl) (by decide) (rfl) (by omega) ?_
  refine pw_ti (z := nI Nr) hNr ?_
  refine pw_callV (as := [_]) (kc' := 0) (ks' := 0) lX10_314 dX10_calls_401 rfl rfl (sh_lt hG (by decide)) (sh_tg hG 45 rfl) (Nat.le_of_ble_eq_true rfl) (by omega) (Nat.le_of_ble_eq_true rfl) (Nat.zero_le _) (Nat.zero_le _) ?_
  refine r_go hG hP h5 (by rw [List.length_append]; show fr.length + 1 < 899; omega) (fun I6 h6 => ?_)
  exact pw_vret dX10_calls_404 rfl (k Nr mr _ _ hmr g8 h6)
