theorem pm_Wk {l : Launch} {E : pmE} {y : MethodName} {cc : ByteArray} {nL : Nat} {ret : Option FieldType} {d kc ks d' kc' ks' pc : Nat} {lv : List (Nat × Value)} {st : List Value} {S : pmS} {I : pmI} {J : pmJ} {P : pmP} {Q : pm_Z} (h1 : d ≤ d') (h2 : kc ≤ kc') (h3 : ks ≤ ks') (k : pm_W l E y cc nL ret d kc ks pc lv st S I J P Q) : pm_W l E y cc nL ret d' kc' ks' pc lv st S I J P Q := by
  intro p e R s m args below meth c H locs cells slots mc ms ls C hr hl0 hR hv
  exact k p e R s m args below meth c H locs cells slots mc ms ls C (by omega) hl0 hR hv
theorem lw_and31 (x : Int32) : ∃ j, j < 32 ∧ x &&& nI 31 = nI j := by
  refine ⟨x.toBitVec.toNat &&& 31, Nat.lt_succ_of_le Nat.and_le_right, ?_⟩
  apply Int32.toBitVec_inj.mp
  apply BitVec.eq_of_toNat_eq
  have h1 : (nI 31).toBitVec.toNat = 31 := by decide
  rw [Int32.toBitVec_and, BitVec.toNat_and, h1]
  have h2 : x.toBitVec.toNat &&& 31 ≤ 31 := Nat.and_le_right
  show x.toBitVec.toNat &&& 31 = (Int32.ofNat (x.toBitVec.toNat &&& 31)).toBitVec.toNat
  rw [Int32.toBitVec_ofNat', BitVec.toNat_ofNat, Nat.mod_eq_of_lt (by omega)]
theorem lw_cmp {L i : Nat} (hL : L ≤ 1536) (hi : i ≤ 1600) : nI L - nI 3 < nI i ↔ L < i + 3 := by
  rw [Int32.lt_iff_toInt_lt, pk_sub_toInt (by omega) (by omega), nI_toInt (by omega)]
  omega
/-- class and reference between calls -/
def LI (S : pmS) (I : pmI) (J : pmJ) (P : pmP) (A : aS) (Z : Nat → Nat) (b m : Nat) (tx : Nat → Nat) (n : Nat) : Prop := sh_St S ∧ gr_St P ∧ cI S I J P A Z b m tx n ∧ qI I J A tx n
section LWS
variable {S : pmS} {I I' : pmI} {J J' : pmJ} {P P' : pmP} {A : aS} {Z : Nat → Nat} {b m : Nat} {tx : Nat → Nat} {n : Nat}
theorem cI.oR (h : cI S I J P A Z b m tx n) (h95 : 95 ≤ S.1) (o : oR I J I' J') : cI S I' J' P A Z b m tx n := by
  obtain ⟨h1, h2, h3, h4, h5, h6, h7⟩ := h
  have hz : zF S I J P S I' J' P := ⟨Nat.le_refl _, fun _ _ => rfl, fun a q _ => ⟨(o a (by omega)).1, (o a (by omega)).2, rfl⟩⟩
  exact ⟨h1, h2.zF h95 hz, h3, h4.zF h95 hz, fun j hj => by rw [(o 3 (by omega)).1]; exact h5 j hj, by rw [(o 2 (by omega)).1]; exact h6, h7⟩
theorem cI.new (h : cI S I J P A Z b m tx n) (h95 : 95 ≤ S.1) : cI (pm_new S 300 0) I J P A Z b m tx n := by
  obtain ⟨h1, h2, h3, h4, h5⟩ := h
  have hz : zF S I J P (pm_new S 300 0) I J P := ⟨Nat.le_succ _, fun a ha => by
    show va_up S.2 S.1 (300, 0) a = S.2 a
    rw [pm_up_ne (by omega)], fun a _ _ => ⟨rfl, rfl, rfl⟩⟩
  exact ⟨h1, h2.zF h95 hz, h3, h4.zF h95 hz, h5⟩
theorem cI.out (h : cI S I J P A Z b m tx n) (hG : sh_St S) (e : ∀ c, c ≠ 95 → J' c = J c) : cI S I J' P A Z b m tx n := by
  obtain ⟨h1, h2, h3, h4, h5⟩ := h
  have s95 : S.2 95 = (101, 1) := sh_sh hG 93 rfl
  refine ⟨h1, ?_, h3, ?_, h5⟩
  · obtain ⟨c1, c2, c3, c4, c5, c6⟩ := h2
    refine ⟨c1, fun j v hj => by rw [e 17 (by decide), e 29 (by decide)]; exact c2 j v hj, c3, fun j v hj => by rw [e 32 (by decide)]; exact c4 j v hj, c5, fun s hs => ?_⟩
    obtain ⟨d1, d2, d3⟩ := c6 s hs
    refine ⟨d1, d2.mv (Nat.le_refl _) (fun _ _ => rfl) (fun a q1 q2 => ⟨rfl, e a ?_, rfl⟩), d3⟩
    have z1 := d2.1.1
    have z2 := d2.a0
    intro q
    have z3 : Z s = 95 := by omega
    rw [z3, s95] at z2
    exact absurd (congrArg Prod.fst z2) (show ¬ (101 : Nat) = 102 by decide)
  · obtain ⟨t1, t2, t3, t4, t5, t6, t7⟩ := h4
    refine ⟨t1, t2, t3, t4, t5, t6, fun j s vs hj => ?_⟩
    obtain ⟨w1, w2, w3, w4⟩ := t7 j s vs hj
    exact ⟨w1, w2, w3, fun i v hi => by rw [e (b + 4) (by omega)]; exact w4 i v hi⟩
theorem qI.e2 (h : qI I J A tx n) (eI : ∀ a, 47 ≤ a → a ≤ 94 → I' a = I a) (eJ : ∀ a, 47 ≤ a → a ≤ 94 → J' a = J a) : qI I' J' A tx n :=
  ⟨h.1.mv' (fun a q1 q2 => ⟨eI a (by omega) (by omega), eJ a (by omega) (by omega)⟩) (by rw [eI 47 (by decide) (by decide)]) (by rw [eI 47 (by decide) (by decide)]) (by rw [eI 47 (by decide) (by decide)]), h.2.1.eq (by rw [eI 47 (by decide) (by decide)]) (eI 73 (by decide) (by decide)) (eI 74 (by decide) (by decide)) (eJ 75 (by decide) (by decide)), fun j hj => by rw [eI 48 (by decide) (by decide)]; exact h.2.2.1 j hj, by rw [eI 47 (by decide) (by decide)]; exact h.2.2.2⟩
theorem qI.oF (h : qI I J A tx n) (o : oF I J P I' J' P') : qI I' J' A tx n := h.e2 (fun a q1 q2 => (o a (by omega)).1) (fun a q1 q2 => (o a (by omega)).2.1)
/-- the reference set the word of what it threw -/
theorem LI.th (h : LI S I J P A Z b m tx n) (x : Int32) : LI S (pm_u I 47 0 x) J P A Z b m tx n := ⟨h.1, h.2.1, h.2.2.1.oR (by have := h.1.1; omega) (oR.u (by decide)), h.2.2.2.u47 (by decide) (by decide) (by decide) (by decide) (by decide)⟩
theorem LI.qF (h : LI S I J P A Z b m tx n) (f : qF I I') : LI S I' J P A Z b m tx n := ⟨h.1, h.2.1, h.2.2.1.oR (by have := h.1.1; omega) f.oR, f.qI h.2.2.2⟩
theorem LI.out {S' : pmS} (h : LI S I J P A Z b m tx n) (hS : S' = S ∨ S' = pm_new S 300 0) (e : ∀ c, c ≠ 95 → J' c = J c) : LI S' I J' P A Z b m tx n := by
  obtain ⟨h1, h2, h3, h4⟩ := h
  have g4 : qI I J' A tx n := h4.e2 (fun _ _ _ => rfl) (fun a _ q => e a (by omega))
  have g3 := h3.out h1 e
  rcases hS with rfl | rfl
  · exact ⟨h1, h2, g3, g4⟩
  · exact ⟨h1.new 300 0, h2, g3.new (by have := h1.1; omega), g4⟩
end LWS
