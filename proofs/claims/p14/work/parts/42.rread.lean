/-- the parts of the nodes from lo to hi are none, or nodes from lo to hi -/
def nW (I : pmI) (lo hi : Nat) : Prop := (∀ k, lo ≤ k → k < hi → ∀ a, 64 ≤ a → a ≤ 66 → I a k = -5 ∨ ∃ c, lo ≤ c ∧ c < hi ∧ I a k = nI c) ∧ ∀ k, lo ≤ k → k < hi → ∃ t, t ≤ 61 ∧ I 68 k = nI t
/-- the parts that a node doesn't use are none -/
def nU (I : pmI) (lo hi : Nat) : Prop := ∀ k, lo ≤ k → k < hi → ((I 63 k = nI 0 ∨ I 63 k = nI 1 ∨ I 63 k = nI 2) → I 64 k = -5 ∧ I 65 k = -5 ∧ I 66 k = -5) ∧ ((I 63 k = nI 4 ∨ I 63 k = nI 5) → I 65 k = -5 ∧ I 66 k = -5) ∧ (I 63 k = nI 6 → I 66 k = -5) ∧ (I 63 k = nI 3 → ∃ g, g ≤ 3 ∧ I 69 k = nI g ∧ ∀ a, 64 + g ≤ a → a ≤ 66 → I a k = -5)
/-- and those that tell a NAME have a NAME's TOKEN -/
def nX (tx : Nat → Nat) (n : Nat) (I : pmI) (lo hi : Nat) : Prop := nW I lo hi ∧ (∀ k, lo ≤ k → k < hi → (I 63 k = nI 2 ∨ I 63 k = nI 3) → ∃ t, t ≤ 61 ∧ I 68 k = nI t ∧ tk_k tx n t = 97) ∧ nU I lo hi
/-- the reference's reader is at TOKEN a (i is its last one), op are open, T frames, m nodes of SNIPPET kp -/
def qs (tx : Nat → Nat) (n i kp : Nat) (I : pmI) (J : pmJ) (a op T m : Nat) : Prop := rC tx n I J i ∧ (I 47 10 = nI kp ∧ kp ≤ 39) ∧ (I 47 40 = nI a ∧ a ≤ i) ∧ I 47 41 = -1 ∧ I 47 42 = nI op ∧ (I 47 45 = nI T ∧ T < 2 ^ 32) ∧ (I 47 43 = nI m ∧ m ≤ a) ∧ nX tx n I (64 * kp) (64 * kp + m)
/-- what the reading of a part leaves as it was: all but the frames from T on, the nodes from K on -/
def fq (T K : Nat) (I I' : pmI) (J J' : pmJ) : Prop := (∀ a, a ≠ 47 → (a < 63 ∨ 69 < a) → (a < 80 ∨ 85 < a) → I' a = I a) ∧ (∀ k, (k < 40 ∨ 45 < k) → I' 47 k = I 47 k) ∧ (∀ a j, 80 ≤ a → a ≤ 85 → j < T → I' a j = I a j) ∧ (∀ a k, 63 ≤ a → a ≤ 69 → k < K → I' a k = I a k) ∧ (∀ a, a ≠ 70 → J' a = J a) ∧ ∀ k, k < K → J' 70 k = J 70 k
theorem fq.refl {T K : Nat} {I : pmI} {J : pmJ} : fq T K I I J J := ⟨fun _ _ _ _ => rfl, fun _ _ => rfl, fun _ _ _ _ _ => rfl, fun _ _ _ _ _ => rfl, fun _ _ => rfl, fun _ _ => rfl⟩
theorem fq.trans {T K T' K' : Nat} {I I1 I2 : pmI} {J J1 J2 : pmJ} (h : fq T K I I1 J J1) (h' : fq T' K' I1 I2 J1 J2) (hT : T ≤ T') (hK : K ≤ K') : fq T K I I2 J J2 :=
  ⟨fun a h1 h2 h3 => by rw [h'.1 a h1 h2 h3, h.1 a h1 h2 h3], fun k hk => by rw [h'.2.1 k hk, h.2.1 k hk], fun a j h1 h2 h3 => by rw [h'.2.2.1 a j h1 h2 (by omega), h.2.2.1 a j h1 h2 h3], fun a k h1 h2 h3 => by rw [h'.2.2.2.1 a k h1 h2 (by omega), h.2.2.2.1 a k h1 h2 h3], fun a ha => by rw [h'.2.2.2.2.1 a ha, h.2.2.2.2.1 a ha], fun k hk => by rw [h'.2.2.2.2.2 k (by omega), h.2.2.2.2.2 k hk]⟩
theorem fq.le {T K T' K' : Nat} {I I' : pmI} {J J' : pmJ} (h : fq T' K' I I' J J') (hT : T ≤ T') (hK : K ≤ K') : fq T K I I' J J' := fq.trans fq.refl h hT hK
theorem fq.put {T K k : Nat} {I : pmI} {J : pmJ} {x : Int32} (h : 40 ≤ k) (h2 : k ≤ 45) : fq T K I (pm_u I 47 k x) J J :=
  ⟨fun a h1 _ _ => pm_u_ne h1, fun j hj => by rw [pm_u_eq, pm_up_ne (by omega)], fun a j h1 h2 _ => by rw [pm_u_ne (by omega)], fun a j h1 h2 _ => by rw [pm_u_ne (by omega)], fun _ _ => rfl, fun _ _ => rfl⟩
theorem fq.frm {T K a j : Nat} {I : pmI} {J : pmJ} {x : Int32} (h : 80 ≤ a) (h2 : a ≤ 85) (hj : T ≤ j) : fq T K I (pm_u I a j x) J J :=
  ⟨fun b _ _ h3 => pm_u_ne (by omega), fun k _ => by rw [pm_u_ne (by omega)], fun b k h1 h2 hk => by
    by_cases e : b = a
    · subst e; rw [pm_u_eq, pm_up_ne (by omega)]
    · rw [pm_u_ne e], fun b k h1 h2 _ => by rw [pm_u_ne (by omega)], fun _ _ => rfl, fun _ _ => rfl⟩
theorem fq.nod {T K a j : Nat} {I : pmI} {J : pmJ} {x : Int32} (h : 63 ≤ a) (h2 : a ≤ 69) (hj : K ≤ j) : fq T K I (pm_u I a j x) J J :=
  ⟨fun b _ h3 _ => pm_u_ne (by omega), fun k _ => by rw [pm_u_ne (by omega)], fun b k h1 h2 hk => by rw [pm_u_ne (by omega)], fun b k h1 h2 hk => by
    by_cases e : b = a
    · subst e; rw [pm_u_eq, pm_up_ne (by omega)]
    · rw [pm_u_ne e], fun _ _ => rfl, fun _ _ => rfl⟩
theorem fq.nov {T K j : Nat} {I : pmI} {J : pmJ} {v : Int64} (hj : K ≤ j) : fq T K I I J (pm_u J 70 j v) :=
  ⟨fun _ _ _ _ => rfl, fun _ _ => rfl, fun _ _ _ _ _ => rfl, fun _ _ _ _ _ => rfl, fun a ha => pm_u_ne ha, fun k hk => by rw [pm_u_eq, pm_up_ne (by omega)]⟩
section QS
variable {tx : Nat → Nat} {n i kp : Nat} {I I' : pmI} {J J' : pmJ} {a op T m K : Nat}
theorem rC.fq' (h : rC tx n I J i) (hf : fq T K I I' J J') : rC tx n I' J' i :=
  ⟨by rw [hf.2.1 36 (by omega)]; exact h.1, h.2.1, h.2.2.1, fun j hj => by rw [hf.2.2.2.2.1 79 (by decide)]; exact h.2.2.2.1 j hj, fun j hj => by rw [hf.1 77 (by decide) (by decide) (by decide), hf.1 78 (by decide) (by decide) (by decide)]; exact h.2.2.2.2 j hj⟩
theorem nW.mv {lo hi : Nat} (h : nW I lo hi) (e : ∀ a, 64 ≤ a → (a ≤ 66 ∨ a = 68) → ∀ k, k < hi → I' a k = I a k) : nW I' lo hi := ⟨fun k h1 h2 a h3 h4 => by rw [e a h3 (Or.inl h4) k h2]; exact h.1 k h1 h2 a h3 h4, fun k h1 h2 => by rw [e 68 (by decide) (Or.inr rfl) k h2]; exact h.2 k h1 h2⟩
theorem nU.mv {lo hi : Nat} (h : nU I lo hi) (e : ∀ a, 63 ≤ a → (a ≤ 66 ∨ a = 69) → ∀ k, k < hi → I' a k = I a k) : nU I' lo hi := by
  intro k h1 h2
  obtain ⟨g1, g2, g3, g4⟩ := h k h1 h2
  rw [e 63 (by decide) (by decide) k h2, e 64 (by decide) (by decide) k h2, e 65 (by decide) (by decide) k h2, e 66 (by decide) (by decide) k h2, e 69 (by decide) (by decide) k h2]
  refine ⟨g1, g2, g3, fun q => ?_⟩
  obtain ⟨g, y1, y2, y3⟩ := g4 q
  exact ⟨g, y1, y2, fun a a1 a2 => by rw [e a (by omega) (by omega) k h2]; exact y3 a a1 a2⟩
theorem nX.mv {lo hi : Nat} (h : nX tx n I lo hi) (e : ∀ a, 63 ≤ a → (a ≤ 66 ∨ a = 68 ∨ a = 69) → ∀ k, k < hi → I' a k = I a k) : nX tx n I' lo hi := ⟨h.1.mv (fun a h1 h2 => e a (by omega) (by omega)), (fun k h1 h2 => by rw [e 63 (by decide) (by decide) k h2, e 68 (by decide) (by decide) k h2]; exact h.2.1 k h1 h2), h.2.2.mv (fun a h1 h2 => e a h1 (by omega))⟩
theorem qs.at' (h : qs tx n i kp I J a op T m) {b : Nat} (hb : b ≤ i) (hm : m ≤ b) : qs tx n i kp (pm_u I 47 40 (nI b)) J b op T m := by
  refine ⟨h.1.fq' (fq.put (T := 0) (K := 0) (by decide) (by decide)), ⟨?_, h.2.1.2⟩, ⟨by rw [pm_u_eq, pm_up_eq], hb⟩, ?_, ?_, ⟨?_, h.2.2.2.2.2.1.2⟩, ⟨?_, hm⟩, h.2.2.2.2.2.2.2.mv (fun a h1 h2 k _ => by rw [pm_u_ne (by omega)])⟩ <;> rw [pm_u_eq, pm_up_ne (by decide)]
  · exact h.2.1.1
  · exact h.2.2.2.1
  · exact h.2.2.2.2.1
  · exact h.2.2.2.2.2.1.1
  · exact h.2.2.2.2.2.2.1.1
theorem qs.op' (h : qs tx n i kp I J a op T m) (b : Nat) : qs tx n i kp (pm_u I 47 42 (nI b)) J a b T m := by
  refine ⟨h.1.fq' (fq.put (T := 0) (K := 0) (by decide) (by decide)), ⟨?_, h.2.1.2⟩, ⟨?_, h.2.2.1.2⟩, ?_, by rw [pm_u_eq, pm_up_eq], ⟨?_, h.2.2.2.2.2.1.2⟩, ⟨?_, h.2.2.2.2.2.2.1.2⟩, h.2.2.2.2.2.2.2.mv (fun a h1 h2 k _ => by rw [pm_u_ne (by omega)])⟩ <;> rw [pm_u_eq, pm_up_ne (by decide)]
  · exact h.2.1.1
  · exact h.2.2.1.1
  · exact h.2.2.2.1
  · exact h.2.2.2.2.2.1.1
  · exact h.2.2.2.2.2.2.1.1
theorem qs.tp' (h : qs tx n i kp I J a op T m) {b : Nat} (hb : b ≤ 300) : qs tx n i kp (pm_u I 47 45 (nI b)) J a op b m := by
  refine ⟨h.1.fq' (fq.put (T := 0) (K := 0) (by decide) (by decide)), ⟨?_, h.2.1.2⟩, ⟨?_, h.2.2.1.2⟩, ?_, ?_, ⟨by rw [pm_u_eq, pm_up_eq], by omega⟩, ⟨?_, h.2.2.2.2.2.2.1.2⟩, h.2.2.2.2.2.2.2.mv (fun a h1 h2 k _ => by rw [pm_u_ne (by omega)])⟩ <;> rw [pm_u_eq, pm_up_ne (by decide)]
  · exact h.2.1.1
  · exact h.2.2.1.1
  · exact h.2.2.2.1
  · exact h.2.2.2.2.1
  · exact h.2.2.2.2.2.2.1.1
theorem qs.re' (h : qs tx n i kp I J a op T m) (x : Int32) : qs tx n i kp (pm_u I 47 44 x) J a op T m := by
  refine ⟨h.1.fq' (fq.put (T := 0) (K := 0) (by decide) (by decide)), ⟨?_, h.2.1.2⟩, ⟨?_, h.2.2.1.2⟩, ?_, ?_, ⟨?_, h.2.2.2.2.2.1.2⟩, ⟨?_, h.2.2.2.2.2.2.1.2⟩, h.2.2.2.2.2.2.2.mv (fun a h1 h2 k _ => by rw [pm_u_ne (by omega)])⟩ <;> rw [pm_u_eq, pm_up_ne (by decide)]
  · exact h.2.1.1
  · exact h.2.2.1.1
  · exact h.2.2.2.1
  · exact h.2.2.2.2.1
  · exact h.2.2.2.2.2.1.1
  · exact h.2.2.2.2.2.2.1.1
theorem qs.fr' (h : qs tx n i kp I J a op T m) {b j : Nat} (h1 : 80 ≤ b) (h2 : b ≤ 85) (x : Int32) : qs tx n i kp (pm_u I b j x) J a op T m := by
  have e : pm_u I b j x 47 = I 47 := pm_u_ne (by omega)
  exact ⟨h.1.fq' (fq.frm (T := 0) (K := 0) h1 h2 (Nat.zero_le _)), by rw [e]; exact h.2.1, by rw [e]; exact h.2.2.1, by rw [e]; exact h.2.2.2.1, by rw [e]; exact h.2.2.2.2.1, by rw [e]; exact h.2.2.2.2.2.1, by rw [e]; exact h.2.2.2.2.2.2.1, h.2.2.2.2.2.2.2.mv (fun a h3 h4 k _ => by rw [pm_u_ne (by omega)])⟩
end QS
set_option maxRecDepth 20000 in
set_option maxHeartbeats 4000000 in
theorem c_X10_tok {l : Launch} {E : pmE} {d : Nat} {S : pmS} {I : pmI} {J : pmJ} {P : pmP} {Q : Option Value → pmS → pmI → pmJ → pmP → Prop} (hG : sh_St S) (hP : gr_St P) {tx : Nat → Nat} {n i kp a op m : Nat} {T : Nat} (hs : qs tx n i kp I J a op T m) (k : Q (some (.int (nI (rk (tk_k tx n a))))) S I J P) : pm_Met l E yX10_tok cX10_tok 1 (some .int) d 0 0 [.ref 47] S I J P Q := by
  unfold pm_Met
  refine pm_lvs (lv' := [(0, _)]) rfl ?_
  refine pw_aload_n dX10_tok_0 rfl ?_
  refine pw_getR fX10_99 dX10_tok_1 (sh_lt hG (by decide)) (sh_tg hG 45 rfl) rfl (gr_at hP 69 rfl) ?_
  refine pw_aload_n dX10_tok_4 rfl ?_
  refine pw_getI fX10_194 dX10_tok_5 (sh_lt hG (by decide)) (sh_tg hG 45 rfl) rfl ?_
  have hi6 := hs.1.2.1
  have hai := hs.2.2.1.2
  refine pw_ti (z := nI a) hs.2.2.1.1 ?_
  refine pw_ialdN a dX10_tok_8 (sh_lt hG (by decide)) (sh_sh hG 75 rfl) (by decide) (rfl) (by omega) ?_
  refine pw_ti (z := nI (rk (tk_k tx n a))) (hs.1.2.2.2.2 a hs.2.2.1.2).1 ?_
  exact pw_iret dX10_tok_9 rfl (k)

set_option maxRecDepth 20000 in
set_option maxHeartbeats 4000000 in
theorem c_X10_wrong {l : Launch} {E : pmE} {d : Nat} {S : pmS} {I : pmI} {J : pmJ} {P : pmP} {Q : Option Value → pmS → pmI → pmJ → pmP → Prop} (hG : sh_St S) (hP : gr_St P) {tx : Nat → Nat} {n i kp a op m : Nat} {T : Nat} (hs : qs tx n i kp I J a op T m) (k : Q none S (pm_u I 47 41 (nI (tk_p tx n a))) J P) : pm_Met l E yX10_wrong cX10_wrong 1 none d 0 0 [.ref 47] S I J P Q := by
  unfold pm_Met
  refine pm_lvs (lv' := [(0, _)]) rfl ?_
  refine pw_aload_n dX10_wrong_0 rfl ?_
  refine pw_aload_n dX10_wrong_1 rfl ?_
  refine pw_getI fX10_197 dX10_wrong_2 (sh_lt hG (by decide)) (sh_tg hG 45 rfl) rfl ?_
  refine pw_if_ge (tgt := 20) dX10_wrong_5 (by decide) (fun h => absurd h (by rw [hs.2.2.2.1]; decide)) (fun h5 => ?_)
  refine pw_aload_n dX10_wrong_8 rfl ?_
  refine pw_getR fX10_102 dX10_wrong_9 (sh_lt hG (by decide)) (sh_tg hG 45 rfl) rfl (gr_at hP 70 rfl) ?_
  refine pw_aload_n dX10_wrong_12 rfl ?_
  refine pw_getI fX10_194 dX10_wrong_13 (sh_lt hG (by decide)) (sh_tg hG 45 rfl) rfl ?_
  have hi6 := hs.1.2.1
  have hai := hs.2.2.1.2
  refine pw_ti (z := nI a) hs.2.2.1.1 ?_
  refine pw_ialdN a dX10_wrong_16 (sh_lt hG (by decide)) (sh_sh hG 76 rfl) (by decide) (rfl) (by omega) ?_
  refine pw_ti (z := nI (tk_p tx n a)) (hs.1.2.2.2.2 a hs.2.2.1.2).2 ?_
  refine pw_goto (tgt := 24) dX10_wrong_17 (by decide) ?_
  refine pw_putI fX10_197 dX10_wrong_24 (Or.inl rfl) (by decide) (sh_lt hG (by decide)) (sh_tg hG 45 rfl) rfl ?_
  exact pw_vret dX10_wrong_27 rfl (k)

set_option maxRecDepth 20000 in
set_option maxHeartbeats 4000000 in
theorem c_X10_next {l : Launch} {E : pmE} {d : Nat} {S : pmS} {I : pmI} {J : pmJ} {P : pmP} {Q : Option Value → pmS → pmI → pmJ → pmP → Prop} (hG : sh_St S) (hP : gr_St P) {a : Nat} (hA : I 47 40 = nI a) (k : Q none S (pm_u I 47 40 (nI (a + 1))) J P) : pm_Met l E yX10_next cX10_next 1 none d 0 0 [.ref 47] S I J P Q := by
  unfold pm_Met
  refine pm_lvs (lv' := [(0, _)]) rfl ?_
  refine pw_aload_n dX10_next_0 rfl ?_
  refine pw_dup dX10_next_1 rfl ?_
  refine pw_getI fX10_194 dX10_next_2 (sh_lt hG (by decide)) (sh_tg hG 45 rfl) rfl ?_
  refine pw_iconst (v := nI 1) dX10_next_5 (by decide) ?_
  refine pw_iadd dX10_next_6 ?_
  refine pw_ti (z := nI (a + 1)) (by rw [hA]; exact nI_add a 1) ?_
  refine pw_putI fX10_194 dX10_next_7 (Or.inl rfl) (by decide) (sh_lt hG (by decide)) (sh_tg hG 45 rfl) rfl ?_
  exact pw_vret dX10_next_10 rfl (k)

theorem rk_c {k : Nat} (h : k < 128) : rk k < 128 := by
  unfold rk
  repeat (split; · decide)
  exact h
theorem qs.lt {tx : Nat → Nat} {n i kp : Nat} {I : pmI} {J : pmJ} {a op T m : Nat} (h : qs tx n i kp I J a op T m) (h0 : tk_k tx n a ≠ 0) (h1 : tk_k tx n a ≠ 1) : a < i := by
  rcases Nat.lt_or_ge a i with h2 | h2
  · exact h2
  · have e : a = i := by have := h.2.2.1.2; omega
    subst e
    rcases h.1.2.2.1 with h3 | h3
    · exact absurd h3 h0
    · exact absurd h3 h1
set_option maxRecDepth 20000 in
set_option maxHeartbeats 4000000 in
theorem c_X10_need {l : Launch} {E : pmE} {d : Nat} {S : pmS} {I : pmI} {J : pmJ} {P : pmP} {Q : Option Value → pmS → pmI → pmJ → pmP → Prop} (hG : sh_St S) (hP : gr_St P) (hd : 2 ≤ d) {tx : Nat → Nat} {n i kp a op m : Nat} {T : Nat} (hs : qs tx n i kp I J a op T m) (hb : ∀ j, j < n → tx j < 128) {c : Nat} (hc : c < 128) (k1 : rk (tk_k tx n a) = c → Q (some (.int (nI 1))) S (pm_u I 47 40 (nI (a + 1))) J P) (k0 : ¬ rk (tk_k tx n a) = c → Q (some (.int (nI 0))) S (pm_u I 47 41 (nI (tk_p tx n a))) J P) : pm_Met l E yX10_need cX10_need 2 (some .boolean) d 0 0 [.ref 47, .int (nI c)] S I J P Q := by
  unfold pm_Met
  refine pm_lvs (lv' := [(0, _), (1, _)]) rfl ?_
  refine pw_aload_n dX10_need_0 rfl ?_
  refine pw_getI fX10_197 dX10_need_1 (sh_lt hG (by decide)) (sh_tg hG 45 rfl) rfl ?_
  refine pw_if_ge (tgt := 15) dX10_need_4 (by decide) (fun h => absurd h (by rw [hs.2.2.2.1]; decide)) (fun h4 => ?_)
  refine pw_aload_n dX10_need_7 rfl ?_
  refine pw_callV (as := []) (kc' := 0) (ks' := 0) lX10_200 dX10_need_8 rfl rfl (sh_lt hG (by decide)) (sh_tg hG 45 rfl) (Nat.le_of_ble_eq_true rfl) (by omega) (Nat.le_of_ble_eq_true rfl) (Nat.zero_le _) (Nat.zero_le _) ?_
  refine c_X10_tok hG hP hs ?_
  refine pw_iload_n dX10_need_11 rfl ?_
  have hkc := rk_c (tk_k_c (tx := tx) (n := n) (i := a) hb).1
  refine pw_icmpN_eq _ _ (tgt := 21) dX10_need_12 (by decide) (rfl) (rfl) (by omega) (by omega) (fun h12 => ?_) (fun h12 => ?_)
  · refine pw_aload_n dX10_need_21 rfl ?_
    refine pw_callV (as := []) (kc' := 0) (ks' := 0) lX10_207 dX10_need_22 rfl rfl (sh_lt hG (by decide)) (sh_tg hG 45 rfl) (Nat.le_of_ble_eq_true rfl) (by omega) (Nat.le_of_ble_eq_true rfl) (Nat.zero_le _) (Nat.zero_le _) ?_
    refine c_X10_next hG hP hs.2.2.1.1 ?_
    refine pw_iconst (v := nI 1) dX10_need_25 (by decide) ?_
    exact pw_zret dX10_need_26 rfl (by decide) (k1 h12)
  · refine pw_aload_n dX10_need_15 rfl ?_
    refine pw_callV (as := []) (kc' := 0) (ks' := 0) lX10_204 dX10_need_16 rfl rfl (sh_lt hG (by decide)) (sh_tg hG 45 rfl) (Nat.le_of_ble_eq_true rfl) (by omega) (Nat.le_of_ble_eq_true rfl) (Nat.zero_le _) (Nat.zero_le _) ?_
    refine c_X10_wrong hG hP hs ?_
    refine pw_iconst (v := nI 0) dX10_need_19 (by decide) ?_
    exact pw_zret dX10_need_20 rfl (by decide) (k0 h12)

set_option maxRecDepth 20000 in
set_option maxHeartbeats 4000000 in
theorem c_X10_opens {l : Launch} {E : pmE} {d : Nat} {S : pmS} {I : pmI} {J : pmJ} {P : pmP} {Q : Option Value → pmS → pmI → pmJ → pmP → Prop} (hG : sh_St S) (hP : gr_St P) (hd : 2 ≤ d) {tx : Nat → Nat} {n i kp a op m : Nat} {T : Nat} (hs : qs tx n i kp I J a op T m) (ho : op ≤ 12) (k1 : op < 12 → Q (some (.int (nI 1))) S (pm_u (pm_u I 47 42 (nI (op + 1))) 47 40 (nI (a + 1))) J P) (k0 : 12 ≤ op → Q (some (.int (nI 0))) S (pm_u I 47 41 (nI (tk_p tx n a))) J P) : pm_Met l E yX10_opens cX10_opens 1 (some .boolean) d 0 0 [.ref 47] S I J P Q := by
  unfold pm_Met
  refine pm_lvs (lv' := [(0, _)]) rfl ?_
  refine pw_aload_n dX10_opens_0 rfl ?_
  refine pw_getI fX10_210 dX10_opens_1 (sh_lt hG (by decide)) (sh_tg hG 45 rfl) rfl ?_
  refine pw_bipush (v := nI 12) dX10_opens_4 (by decide) ?_
  refine pw_icmpN_ne _ _ (tgt := 15) dX10_opens_6 (by decide) (hs.2.2.2.2.1) (rfl) (by omega) (by omega) (fun h6 => ?_) (fun h6 => ?_)
  · refine pw_aload_n dX10_opens_15 rfl ?_
    refine pw_dup dX10_opens_16 rfl ?_
    refine pw_getI fX10_210 dX10_opens_17 (sh_lt hG (by decide)) (sh_tg hG 45 rfl) rfl ?_
    refine pw_iconst (v := nI 1) dX10_opens_20 (by decide) ?_
    refine pw_iadd dX10_opens_21 ?_
    refine pw_ti (z := nI (op + 1)) (by rw [hs.2.2.2.2.1]; exact nI_add op 1) ?_
    refine pw_putI fX10_210 dX10_opens_22 (Or.inl rfl) (by decide) (sh_lt hG (by decide)) (sh_tg hG 45 rfl) rfl ?_
    refine pw_aload_n dX10_opens_25 rfl ?_
    refine pw_callV (as := []) (kc' := 0) (ks' := 0) lX10_207 dX10_opens_26 rfl rfl (sh_lt hG (by decide)) (sh_tg hG 45 rfl) (Nat.le_of_ble_eq_true rfl) (by omega) (Nat.le_of_ble_eq_true rfl) (Nat.zero_le _) (Nat.zero_le _) ?_
    refine c_X10_next (a := a) hG hP (by rw [pm_u_eq, pm_up_ne (by decide)]; exact hs.2.2.1.1) ?_
    refine pw_iconst (v := nI 1) dX10_opens_29 (by decide) ?_
    exact pw_zret dX10_opens_30 rfl (by decide) (k1 (by omega))
  · refine pw_aload_n dX10_opens_9 rfl ?_
    refine pw_callV (as := []) (kc' := 0) (ks' := 0) lX10_204 dX10_opens_10 rfl rfl (sh_lt hG (by decide)) (sh_tg hG 45 rfl) (Nat.le_of_ble_eq_true rfl) (by omega) (Nat.le_of_ble_eq_true rfl) (Nat.zero_le _) (Nat.zero_le _) ?_
    refine c_X10_wrong hG hP hs ?_
    refine pw_iconst (v := nI 0) dX10_opens_13 (by decide) ?_
    exact pw_zret dX10_opens_14 rfl (by decide) (k0 (by omega))

set_option maxRecDepth 20000 in
set_option maxHeartbeats 4000000 in
theorem c_X10_push {l : Launch} {E : pmE} {d : Nat} {S : pmS} {I : pmI} {J : pmJ} {P : pmP} {Q : Option Value → pmS → pmI → pmJ → pmP → Prop} (hG : sh_St S) (hP : gr_St P) {T : Nat} (hT : I 47 45 = nI T) (hT2 : T < 400) {x : Int32} (k : Q none S (pm_u (pm_u (pm_u I 80 T x) 81 T (nI 0)) 47 45 (nI (T + 1))) J P) : pm_Met l E yX10_push cX10_push 2 none d 0 0 [.ref 47, .int x] S I J P Q := by
  unfold pm_Met
  refine pm_lvs (lv' := [(0, _), (1, _)]) rfl ?_
  refine pw_aload_n dX10_push_0 rfl ?_
  refine pw_getR fX10_108 dX10_push_1 (sh_lt hG (by decide)) (sh_tg hG 45 rfl) rfl (gr_at hP 72 rfl) ?_
  refine pw_aload_n dX10_push_4 rfl ?_
  refine pw_getI fX10_213 dX10_push_5 (sh_lt hG (by decide)) (sh_tg hG 45 rfl) rfl ?_
  refine pw_iload_n dX10_push_8 rfl ?_
  refine pw_iastN T dX10_push_9 (by decide) (sh_lt hG (by decide)) (sh_sh hG 78 rfl) (by decide) (hT) (by omega) ?_
  refine pw_aload_n dX10_push_10 rfl ?_
  refine pw_getR fX10_111 dX10_push_11 (sh_lt hG (by decide)) (sh_tg hG 45 rfl) rfl (gr_at hP 73 rfl) ?_
  refine pw_aload_n dX10_push_14 rfl ?_
  refine pw_getI fX10_213 dX10_push_15 (sh_lt hG (by decide)) (sh_tg hG 45 rfl) rfl ?_
  refine pw_iconst (v := nI 0) dX10_push_18 (by decide) ?_
  refine pw_iastN T dX10_push_19 (by decide) (sh_lt hG (by decide)) (sh_sh hG 79 rfl) (by decide) (by rw [pm_u_ne (by decide)]; exact hT) (by omega) ?_
  refine pw_aload_n dX10_push_20 rfl ?_
  refine pw_dup dX10_push_21 rfl ?_
  refine pw_getI fX10_213 dX10_push_22 (sh_lt hG (by decide)) (sh_tg hG 45 rfl) rfl ?_
  refine pw_iconst (v := nI 1) dX10_push_25 (by decide) ?_
  refine pw_iadd dX10_push_26 ?_
  refine pw_ti (z := nI (T + 1)) (by rw [pm_u_ne (by decide), pm_u_ne (by decide), hT]; exact nI_add T 1) ?_
  refine pw_putI fX10_213 dX10_push_27 (Or.inl rfl) (by decide) (sh_lt hG (by decide)) (sh_tg hG 45 rfl) rfl ?_
  exact pw_vret dX10_push_30 rfl (k)

/-- behind then(s, k): frame T is in state s, frame T + 1 is a new one of kind k -/
def thn (tx : Nat → Nat) (n i kp : Nat) (I I' : pmI) (J : pmJ) (a op T m s k : Nat) : Prop := qs tx n i kp I' J a op (T + 2) m ∧ (I' 80 (T + 1) = nI k ∧ I' 81 (T + 1) = nI 0) ∧ (I' 81 T = nI s ∧ I' 80 T = I 80 T) ∧ (∀ b, 82 ≤ b → b ≤ 85 → I' b = I b) ∧ I' 47 44 = I 47 44 ∧ fq T (64 * kp + m) I I' J J
theorem thn_ok {tx : Nat → Nat} {n i kp : Nat} {I : pmI} {J : pmJ} {a op T m s k : Nat} (h : qs tx n i kp I J a op (T + 1) m) (hT : T + 2 ≤ 300) : thn tx n i kp I (pm_u (pm_u (pm_u (pm_u I 81 T (nI s)) 80 (T + 1) (nI k)) 81 (T + 1) (nI 0)) 47 45 (nI (T + 1 + 1))) J a op T m s k := by
  refine ⟨((((h.fr' (by decide) (by decide) (nI s)).fr' (by decide) (by decide) (nI k)).fr' (by decide) (by decide) (nI 0)).tp' hT), ⟨?_, ?_⟩, ⟨?_, ?_⟩, fun b h1 h2 => ?_, ?_, ?_⟩
  · rw [pm_u_ne (by decide), pm_u_ne (by decide), pm_u_eq, pm_up_eq]
  · rw [pm_u_ne (by decide), pm_u_eq, pm_up_eq]
  · rw [pm_u_ne (by decide), pm_u_eq, pm_up_ne (by omega), pm_u_ne (by decide), pm_u_eq, pm_up_eq]
  · rw [pm_u_ne (by decide), pm_u_ne (by decide), pm_u_eq, pm_up_ne (by omega), pm_u_ne (by decide)]
  · rw [pm_u_ne (by omega), pm_u_ne (by omega), pm_u_ne (by omega), pm_u_ne (by omega)]
  · rw [pm_u_eq, pm_up_ne (by decide), pm_u_ne (by decide), pm_u_ne (by decide), pm_u_ne (by decide)]
  · exact (((fq.frm (by decide) (by decide) (Nat.le_refl _)).trans (fq.frm (T := T) (by decide) (by decide) (by omega)) (Nat.le_refl _) (Nat.le_refl _)).trans (fq.frm (T := T) (by decide) (by decide) (by omega)) (Nat.le_refl _) (Nat.le_refl _)).trans (fq.put (T := T) (by decide) (by decide)) (Nat.le_refl _) (Nat.le_refl _)
set_option maxRecDepth 20000 in
set_option maxHeartbeats 4000000 in
theorem c_X10_then {l : Launch} {E : pmE} {d : Nat} {S : pmS} {I : pmI} {J : pmJ} {P : pmP} {Q : Option Value → pmS → pmI → pmJ → pmP → Prop} (hG : sh_St S) (hP : gr_St P) (hd : 1 ≤ d) {tx : Nat → Nat} {n i kp a op m : Nat} {T : Nat} (hs : qs tx n i kp I J a op (T + 1) m) (hT : T + 2 ≤ 300) {s k : Nat} (kk : ∀ I', thn tx n i kp I I' J a op T m s k → Q none S I' J P) : pm_Met l E yX10_then cX10_then 3 none d 0 0 [.ref 47, .int (nI s), .int (nI k)] S I J P Q := by
  unfold pm_Met
  refine pm_lvs (lv' := [(0, _), (1, _), (2, _)]) rfl ?_
  refine pw_aload_n dX10_then_0 rfl ?_
  refine pw_getR fX10_111 dX10_then_1 (sh_lt hG (by decide)) (sh_tg hG 45 rfl) rfl (gr_at hP 73 rfl) ?_
  refine pw_aload_n dX10_then_4 rfl ?_
  refine pw_getI fX10_213 dX10_then_5 (sh_lt hG (by decide)) (sh_tg hG 45 rfl) rfl ?_
  refine pw_iconst (v := nI 1) dX10_then_8 (by decide) ?_
  refine pw_isub dX10_then_9 ?_
  refine pw_ti (z := nI T) (by rw [hs.2.2.2.2.2.1.1]; exact nI_pred T) ?_
  refine pw_iload_n dX10_then_10 rfl ?_
  refine pw_iastN T dX10_then_11 (by decide) (sh_lt hG (by decide)) (sh_sh hG 79 rfl) (by decide) (rfl) (by omega) ?_
  refine pw_aload_n dX10_then_12 rfl ?_
  refine pw_iload_n dX10_then_13 rfl ?_
  refine pw_callV (as := [_]) (kc' := 0) (ks' := 0) lX10_216 dX10_then_14 rfl rfl (sh_lt hG (by decide)) (sh_tg hG 45 rfl) (Nat.le_of_ble_eq_true rfl) (by omega) (Nat.le_of_ble_eq_true rfl) (Nat.zero_le _) (Nat.zero_le _) ?_
  refine c_X10_push hG hP (T := T + 1) (by rw [pm_u_ne (by decide)]; exact hs.2.2.2.2.2.1.1) (by omega) ?_
  exact pw_vret dX10_then_17 rfl (kk _ (thn_ok hs hT))

/-- what node() does -/
def ndI (I : pmI) (k m : Nat) (x t p l r c : Int32) : pmI := pm_u (pm_u (pm_u (pm_u (pm_u (pm_u (pm_u (pm_u I 47 43 (nI (m + 1))) 63 k x) 68 k t) 67 k p) 64 k l) 65 k r) 66 k c) 69 k (nI 0)
theorem ndI_fq {T K k m : Nat} {I : pmI} {J : pmJ} {x t p l r c : Int32} {v : Int64} (h : K ≤ k) : fq T K I (ndI I k m x t p l r c) J (pm_u J 70 k v) := by
  unfold ndI
  refine fq.trans ?_ (fq.nov (T := T) h) (Nat.le_refl _) (Nat.le_refl _)
  refine fq.trans ?_ (fq.nod (T := T) (by decide) (by decide) h) (Nat.le_refl _) (Nat.le_refl _)
  refine fq.trans ?_ (fq.nod (T := T) (by decide) (by decide) h) (Nat.le_refl _) (Nat.le_refl _)
  refine fq.trans ?_ (fq.nod (T := T) (by decide) (by decide) h) (Nat.le_refl _) (Nat.le_refl _)
  refine fq.trans ?_ (fq.nod (T := T) (by decide) (by decide) h) (Nat.le_refl _) (Nat.le_refl _)
  refine fq.trans ?_ (fq.nod (T := T) (by decide) (by decide) h) (Nat.le_refl _) (Nat.le_refl _)
  refine fq.trans ?_ (fq.nod (T := T) (by decide) (by decide) h) (Nat.le_refl _) (Nat.le_refl _)
  refine fq.trans ?_ (fq.nod (T := T) (by decide) (by decide) h) (Nat.le_refl _) (Nat.le_refl _)
  exact fq.put (by decide) (by decide)
theorem ndI_at {k m : Nat} {I : pmI} {x t p l r c : Int32} : ndI I k m x t p l r c 63 k = x ∧ ndI I k m x t p l r c 68 k = t ∧ ndI I k m x t p l r c 67 k = p ∧ ndI I k m x t p l r c 64 k = l ∧ ndI I k m x t p l r c 65 k = r ∧ ndI I k m x t p l r c 66 k = c ∧ ndI I k m x t p l r c 69 k = nI 0 := by
  unfold ndI
  refine ⟨?_, ?_, ?_, ?_, ?_, ?_, ?_⟩
  · rw [pm_u_ne (by decide), pm_u_ne (by decide), pm_u_ne (by decide), pm_u_ne (by decide), pm_u_ne (by decide), pm_u_ne (by decide), pm_u_eq, pm_up_eq]
  · rw [pm_u_ne (by decide), pm_u_ne (by decide), pm_u_ne (by decide), pm_u_ne (by decide), pm_u_ne (by decide), pm_u_eq, pm_up_eq]
  · rw [pm_u_ne (by decide), pm_u_ne (by decide), pm_u_ne (by decide), pm_u_ne (by decide), pm_u_eq, pm_up_eq]
  · rw [pm_u_ne (by decide), pm_u_ne (by decide), pm_u_ne (by decide), pm_u_eq, pm_up_eq]
  · rw [pm_u_ne (by decide), pm_u_ne (by decide), pm_u_eq, pm_up_eq]
  · rw [pm_u_ne (by decide), pm_u_eq, pm_up_eq]
  · rw [pm_u_eq, pm_up_eq]
theorem ndI_47 {k m : Nat} {I : pmI} {x t p l r c : Int32} : ndI I k m x t p l r c 47 = va_up (I 47) 43 (nI (m + 1)) := by
  unfold ndI
  rw [pm_u_ne (by decide), pm_u_ne (by decide), pm_u_ne (by decide), pm_u_ne (by decide), pm_u_ne (by decide), pm_u_ne (by decide), pm_u_ne (by decide), pm_u_eq]
def nch (lo hi : Nat) (x : Int32) : Prop := x = -5 ∨ ∃ c, lo ≤ c ∧ c < hi ∧ x = nI c
theorem nch.mono {lo hi hi' : Nat} {x : Int32} (h : nch lo hi x) (h2 : hi ≤ hi') : nch lo hi' x := by
  rcases h with h | ⟨c, h3, h4, h5⟩
  · exact Or.inl h
  · exact Or.inr ⟨c, h3, by omega, h5⟩
theorem qs.node {tx : Nat → Nat} {n i kp : Nat} {I : pmI} {J : pmJ} {a op T m : Nat} (h : qs tx n i kp I J a op T m) (hm : m < a) {x t p l r c : Int32} {v : Int64} (hl : nch (64 * kp) (64 * kp + m) l) (hr : nch (64 * kp) (64 * kp + m) r) (hc : nch (64 * kp) (64 * kp + m) c) (ht9 : ∃ t', t' ≤ 61 ∧ t = nI t' := by exact ⟨_, by omega, rfl⟩) (hq : (x = nI 2 ∨ x = nI 3) → ∃ t', t' ≤ 61 ∧ t = nI t' ∧ tk_k tx n t' = 97 := by first | exact fun q => absurd q (by decide) | exact fun _ => ⟨_, by omega, rfl, by assumption⟩) (hu : ((x = nI 0 ∨ x = nI 1 ∨ x = nI 2) → l = -5 ∧ r = -5 ∧ c = -5) ∧ ((x = nI 4 ∨ x = nI 5) → r = -5 ∧ c = -5) ∧ (x = nI 6 → c = -5) ∧ (x = nI 3 → l = -5 ∧ r = -5 ∧ c = -5) := by exact ⟨(by first | exact fun q => absurd q (by decide) | exact fun _ => ⟨rfl, rfl, rfl⟩), (by first | exact fun q => absurd q (by decide) | exact fun _ => ⟨rfl, rfl⟩), (by first | exact fun q => absurd q (by decide) | exact fun _ => rfl), (by first | exact fun q => absurd q (by decide) | exact fun _ => ⟨rfl, rfl, rfl⟩)⟩) : qs tx n i kp (ndI I (64 * kp + m) m x t p l r c) (pm_u J 70 (64 * kp + m) v) a op T (m + 1) := by
  have hf := ndI_fq (T := T) (K := 64 * kp + m) (I := I) (J := J) (m := m) (x := x) (t := t) (p := p) (l := l) (r := r) (c := c) (v := v) (Nat.le_refl _)
  refine ⟨h.1.fq' hf, ⟨?_, h.2.1.2⟩, ⟨?_, h.2.2.1.2⟩, ?_, ?_, ⟨?_, h.2.2.2.2.2.1.2⟩, ⟨by rw [ndI_47, pm_up_eq], by omega⟩, ⟨fun k h1 h2 b h3 h4 => ?_, fun k h1 h2 => ?_⟩, fun k h1 h2 h63 => ?_, fun k h1 h2 => ?_⟩
  · rw [ndI_47, pm_up_ne (by decide)]; exact h.2.1.1
  · rw [ndI_47, pm_up_ne (by decide)]; exact h.2.2.1.1
  · rw [ndI_47, pm_up_ne (by decide)]; exact h.2.2.2.1
  · rw [ndI_47, pm_up_ne (by decide)]; exact h.2.2.2.2.1
  · rw [ndI_47, pm_up_ne (by decide)]; exact h.2.2.2.2.2.1.1
  · by_cases e : k = 64 * kp + m
    · subst e
      have ha := ndI_at (k := 64 * kp + m) (m := m) (I := I) (x := x) (t := t) (p := p) (l := l) (r := r) (c := c)
      rcases (show b = 64 ∨ b = 65 ∨ b = 66 by omega) with rfl | rfl | rfl
      · rw [ha.2.2.2.1]; exact hl.mono (by omega)
      · rw [ha.2.2.2.2.1]; exact hr.mono (by omega)
      · rw [ha.2.2.2.2.2.1]; exact hc.mono (by omega)
    · rw [hf.2.2.2.1 b k (by omega) (by omega) (by omega)]
      exact nch.mono (h.2.2.2.2.2.2.2.1.1 k h1 (by omega) b h3 h4) (by omega)
  · by_cases e : k = 64 * kp + m
    · subst e
      rw [(ndI_at (k := 64 * kp + m) (m := m) (I := I) (x := x) (t := t) (p := p) (l := l) (r := r) (c := c)).2.1]; exact ht9
    · rw [hf.2.2.2.1 68 k (by decide) (by decide) (by omega)]
      exact h.2.2.2.2.2.2.2.1.2 k h1 (by omega)
  · by_cases e : k = 64 * kp + m
    · subst e
      have ha := ndI_at (k := 64 * kp + m) (m := m) (I := I) (x := x) (t := t) (p := p) (l := l) (r := r) (c := c)
      rw [ha.1] at h63
      rw [ha.2.1]; exact hq h63
    · rw [hf.2.2.2.1 63 k (by decide) (by decide) (by omega)] at h63
      rw [hf.2.2.2.1 68 k (by decide) (by decide) (by omega)]
      exact h.2.2.2.2.2.2.2.2.1 k h1 (by omega) h63
  · by_cases e : k = 64 * kp + m
    · subst e
      have ha := ndI_at (k := 64 * kp + m) (m := m) (I := I) (x := x) (t := t) (p := p) (l := l) (r := r) (c := c)
      rw [ha.1, ha.2.2.2.1, ha.2.2.2.2.1, ha.2.2.2.2.2.1, ha.2.2.2.2.2.2]
      refine ⟨hu.1, hu.2.1, hu.2.2.1, fun q => ⟨0, by decide, rfl, fun b b1 b2 => ?_⟩⟩
      obtain ⟨q1, q2, q3⟩ := hu.2.2.2 q
      rcases (show b = 64 ∨ b = 65 ∨ b = 66 by omega) with rfl | rfl | rfl
      · rw [ha.2.2.2.1]; exact q1
      · rw [ha.2.2.2.2.1]; exact q2
      · rw [ha.2.2.2.2.2.1]; exact q3
    · have g := h.2.2.2.2.2.2.2.2.2 k h1 (by omega)
      rw [hf.2.2.2.1 63 k (by decide) (by decide) (by omega), hf.2.2.2.1 64 k (by decide) (by decide) (by omega), hf.2.2.2.1 65 k (by decide) (by decide) (by omega), hf.2.2.2.1 66 k (by decide) (by decide) (by omega), hf.2.2.2.1 69 k (by decide) (by decide) (by omega)]
      refine ⟨g.1, g.2.1, g.2.2.1, fun q => ?_⟩
      obtain ⟨g', y1, y2, y3⟩ := g.2.2.2 q
      exact ⟨g', y1, y2, fun b b1 b2 => by rw [hf.2.2.2.1 b k (by omega) (by omega) (by omega)]; exact y3 b b1 b2⟩
set_option maxRecDepth 20000 in
set_option maxHeartbeats 4000000 in
theorem c_X10_node {l : Launch} {E : pmE} {d : Nat} {S : pmS} {I : pmI} {J : pmJ} {P : pmP} {Q : Option Value → pmS → pmI → pmJ → pmP → Prop} (hG : sh_St S) (hP : gr_St P) {tx : Nat → Nat} {n i kp a op m : Nat} {T : Nat} (hs : qs tx n i kp I J a op T m) {t : Nat} (ht : t ≤ i) (hm : m ≤ 60) {x u r c : Int32} (k : Q (some (.int (nI (64 * kp + m)))) S (ndI I (64 * kp + m) m x (nI t) (nI (tk_p tx n t)) u r c) (pm_u J 70 (64 * kp + m) (J 79 t)) P) : pm_Met l E yX10_node cX10_node 7 (some .int) d 0 0 [.ref 47, .int x, .int (nI t), .int u, .int r, .int c] S I J P Q := by
  unfold pm_Met
  refine pm_lvs (lv' := [(0, _), (1, _), (2, _), (3, _), (4, _), (5, _)]) rfl ?_
  refine pw_bipush (v := nI 64) dX10_node_0 (by decide) ?_
  refine pw_aload_n dX10_node_2 rfl ?_
  refine pw_getI fX10_220 dX10_node_3 (sh_lt hG (by decide)) (sh_tg hG 45 rfl) rfl ?_
  refine pw_imul dX10_node_6 ?_
  refine pw_aload_n dX10_node_7 rfl ?_
  refine pw_getI fX10_223 dX10_node_8 (sh_lt hG (by decide)) (sh_tg hG 45 rfl) rfl ?_
  refine pw_iadd dX10_node_11 ?_
  have hi6 := hs.1.2.1
  have hk9 := hs.2.1.2
  refine pw_ti (z := nI (64 * kp + m)) (by rw [hs.2.1.1, hs.2.2.2.2.2.2.1.1, show nI 64 * nI kp = nI (64 * kp) from (Int32.ofNat_mul 64 kp).symm, nI_add]) ?_
  refine pw_istore (lv' := [(6, _), (0, _), (1, _), (2, _), (3, _), (4, _), (5, _)]) dX10_node_12 (by decide) rfl ?_
  refine pw_aload_n dX10_node_14 rfl ?_
  refine pw_dup dX10_node_15 rfl ?_
  refine pw_getI fX10_223 dX10_node_16 (sh_lt hG (by decide)) (sh_tg hG 45 rfl) rfl ?_
  refine pw_iconst (v := nI 1) dX10_node_19 (by decide) ?_
  refine pw_iadd dX10_node_20 ?_
  refine pw_ti (z := nI (m + 1)) (by rw [hs.2.2.2.2.2.2.1.1]; exact nI_add m 1) ?_
  refine pw_putI fX10_223 dX10_node_21 (Or.inl rfl) (by decide) (sh_lt hG (by decide)) (sh_tg hG 45 rfl) rfl ?_
  refine pw_aload_n dX10_node_24 rfl ?_
  refine pw_getR fX10_56 dX10_node_25 (sh_lt hG (by decide)) (sh_tg hG 45 rfl) rfl (gr_at hP 55 rfl) ?_
  refine pw_iload dX10_node_28 rfl ?_
  refine pw_iload_n dX10_node_30 rfl ?_
  refine pw_iastN (64 * kp + m) dX10_node_31 (by decide) (sh_lt hG (by decide)) (sh_sh hG 61 rfl) (by decide) (rfl) (by omega) ?_
  refine pw_aload_n dX10_node_32 rfl ?_
  refine pw_getR fX10_71 dX10_node_33 (sh_lt hG (by decide)) (sh_tg hG 45 rfl) rfl (gr_at hP 60 rfl) ?_
  refine pw_iload dX10_node_36 rfl ?_
  refine pw_iload_n dX10_node_38 rfl ?_
  refine pw_iastN (64 * kp + m) dX10_node_39 (by decide) (sh_lt hG (by decide)) (sh_sh hG 66 rfl) (by decide) (rfl) (by omega) ?_
  refine pw_aload_n dX10_node_40 rfl ?_
  refine pw_getR fX10_68 dX10_node_41 (sh_lt hG (by decide)) (sh_tg hG 45 rfl) rfl (gr_at hP 59 rfl) ?_
  refine pw_iload dX10_node_44 rfl ?_
  refine pw_aload_n dX10_node_46 rfl ?_
  refine pw_getR fX10_102 dX10_node_47 (sh_lt hG (by decide)) (sh_tg hG 45 rfl) rfl (gr_at hP 70 rfl) ?_
  refine pw_iload_n dX10_node_50 rfl ?_
  refine pw_ialdN t dX10_node_51 (sh_lt hG (by decide)) (sh_sh hG 76 rfl) (by decide) (rfl) (by omega) ?_
  refine pw_ti (z := nI (tk_p tx n t)) (by rw [pm_u_ne (by decide), pm_u_ne (by decide), pm_u_ne (by decide)]; exact (hs.1.2.2.2.2 t ht).2) ?_
  refine pw_iastN (64 * kp + m) dX10_node_52 (by decide) (sh_lt hG (by decide)) (sh_sh hG 65 rfl) (by decide) (rfl) (by omega) ?_
  refine pw_aload_n dX10_node_53 rfl ?_
  refine pw_getR fX10_59 dX10_node_54 (sh_lt hG (by decide)) (sh_tg hG 45 rfl) rfl (gr_at hP 56 rfl) ?_
  refine pw_iload dX10_node_57 rfl ?_
  refine pw_iload_n dX10_node_59 rfl ?_
  refine pw_iastN (64 * kp + m) dX10_node_60 (by decide) (sh_lt hG (by decide)) (sh_sh hG 62 rfl) (by decide) (rfl) (by omega) ?_
  refine pw_aload_n dX10_node_61 rfl ?_
  refine pw_getR fX10_62 dX10_node_62 (sh_lt hG (by decide)) (sh_tg hG 45 rfl) rfl (gr_at hP 57 rfl) ?_
  refine pw_iload dX10_node_65 rfl ?_
  refine pw_iload dX10_node_67 rfl ?_
  refine pw_iastN (64 * kp + m) dX10_node_69 (by decide) (sh_lt hG (by decide)) (sh_sh hG 63 rfl) (by decide) (rfl) (by omega) ?_
  refine pw_aload_n dX10_node_70 rfl ?_
  refine pw_getR fX10_65 dX10_node_71 (sh_lt hG (by decide)) (sh_tg hG 45 rfl) rfl (gr_at hP 58 rfl) ?_
  refine pw_iload dX10_node_74 rfl ?_
  refine pw_iload dX10_node_76 rfl ?_
  refine pw_iastN (64 * kp + m) dX10_node_78 (by decide) (sh_lt hG (by decide)) (sh_sh hG 64 rfl) (by decide) (rfl) (by omega) ?_
  refine pw_aload_n dX10_node_79 rfl ?_
  refine pw_getR fX10_74 dX10_node_80 (sh_lt hG (by decide)) (sh_tg hG 45 rfl) rfl (gr_at hP 61 rfl) ?_
  refine pw_iload dX10_node_83 rfl ?_
  refine pw_iconst (v := nI 0) dX10_node_85 (by decide) ?_
  refine pw_iastN (64 * kp + m) dX10_node_86 (by decide) (sh_lt hG (by decide)) (sh_sh hG 67 rfl) (by decide) (rfl) (by omega) ?_
  refine pw_aload_n dX10_node_87 rfl ?_
  refine pw_getR fX10_77 dX10_node_88 (sh_lt hG (by decide)) (sh_tg hG 45 rfl) rfl (gr_at hP 62 rfl) ?_
  refine pw_iload dX10_node_91 rfl ?_
  refine pw_aload_n dX10_node_93 rfl ?_
  refine pw_getR fX10_105 dX10_node_94 (sh_lt hG (by decide)) (sh_tg hG 45 rfl) rfl (gr_at hP 71 rfl) ?_
  refine pw_iload_n dX10_node_97 rfl ?_
  refine pw_laldN t dX10_node_98 (sh_lt hG (by decide)) (sh_sh hG 77 rfl) (by decide) (rfl) (by omega) ?_
  refine pw_lastN (64 * kp + m) dX10_node_99 (by decide) (sh_lt hG (by decide)) (sh_sh hG 68 rfl) (by decide) (rfl) (by omega) ?_
  refine pw_iload dX10_node_100 rfl ?_
  exact pw_iret dX10_node_102 rfl (k)

