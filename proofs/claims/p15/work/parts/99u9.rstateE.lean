theorem ps_arg_n {v : Int64} : ∀ (pa : List Int64) (i : Nat), ps_arg pa v i = none → v ∉ pa
  | [], i, _ => fun h => (by cases h)
  | x :: xs, i, h => by
    intro hv
    unfold ps_arg at h
    split at h
    · exact nomatch h
    · rename_i hne
      rcases List.mem_cons.mp hv with e | e
      · first | exact hne e.symm | exact hne e
      · exact ps_arg_n xs (i + 1) h e
theorem hN_inj {ns : List Int64} {v u : Int64} (hv : v ∈ ns) (hu : u ∈ ns) (hl : ns.length ≤ 40) (h : hN ns v = hN ns u) : v = u := by
  refine (eq_i32 hv hu hl).mp ?_
  have h1 := (ns_at hv).2
  have h2 := (ns_at hu).2
  unfold hN at h
  rw [(lN_eq (by omega) (by omega)).mp h]
theorem eN_some {A : aS} (hO : aO A) {v : Int64} {s : Nat} (hs : s < 2 ^ 31) (h : eN (A.dc v) = nI s) : A.dc v = some s := by
  cases e : A.dc v with
  | none =>
    rw [e] at h
    exact absurd (show nI s = -5 from h.symm) (nI_n5 hs)
  | some t =>
    rw [e] at h
    have hz : A.fm v ≠ 0 := fun z => by
      have := hO.2.2.1 v z
      rw [e] at this
      exact nomatch this
    obtain ⟨s', z1, z2, -⟩ := hO.2.2.2.1 v hz
    have hsl := hO.2.2.2.2.2.2.2.2.2.2.1
    rw [e] at z1
    have z3 : t = s' := Option.some.inj z1
    have z4 : t = s := (nI_eq (by omega) (by omega)).mp h
    rw [z4]
theorem ix_casesE {n : Nat} (hn : n < 2 ^ 31) (x : Int32) : (∃ j, j < n ∧ x = nI j) ∨ ¬ (0 ≤ x.toInt ∧ x.toInt < (n : Int)) := by
  by_cases h : 0 ≤ x.toInt ∧ x.toInt < (n : Int)
  · left
    have h0 : ¬ x < 0 := fun q => by
      rw [Int32.lt_iff_toInt_lt, show (0 : Int32).toInt = 0 by decide] at q
      omega
    obtain ⟨i, hi, rfl⟩ := nn_I h0
    rw [nI_toInt (by omega)] at h
    exact ⟨i, by omega, rfl⟩
  · exact Or.inr h
/-- the state of SNIPPET s -/
def stV (A : aS) (s : Nat) : Nat := if (A.at s).form ≠ 0 ∧ A.dc (A.at s).dec ≠ some s then 2 else if (A.at s).form = 2 ∧ lkB A (A.at s).tr = true then 1 else 0
def stX (A : aS) (x : Int32) : Int32 := if 0 ≤ x.toInt ∧ x.toInt < (A.sn.length : Int) then nI (stV A x.toInt.toNat) else -1
theorem stX_1 {A : aS} {s : Nat} (hl : A.sn.length ≤ 40) (hs : s < A.sn.length) : stX A (nI s) = nI (stV A s) := by
  unfold stX
  rw [nI_toInt (by omega), if_pos ⟨by omega, by omega⟩, Int.toNat_natCast]
/-- nothing is wanting at node k -/
def okK (A : aS) (pa : List Int64) (s : Nat) (I : pmI) (J : pmJ) (k : Nat) : Prop := I 94 k ≠ nI 0 → ∀ v, v ∈ A.ns → J 70 (64 * s + k) = hN A.ns v → (I 63 (64 * s + k) = nI 3 → A.fm v = 2 ∨ A.fm v = 3) ∧ (I 63 (64 * s + k) = nI 2 → ps_arg pa v 0 = none → A.fm v = 1)
/-- the NAME is not told at node k -/
def noK (ns pa : List Int64) (s : Nat) (v : Int64) (I : pmI) (J : pmJ) (k : Nat) : Prop := I 94 k ≠ nI 0 → J 70 (64 * s + k) = hN ns v → ¬ I 63 (64 * s + k) = nI 3 ∧ (I 63 (64 * s + k) = nI 2 → ps_arg pa v 0 ≠ none)
/-- SNIPPET s, reached -/
def rcE (A : aS) (s m : Nat) (I1 : pmI) (I : pmI) (J : pmJ) : Prop := mkE I1 s (mM I1 J (crN A.ns J) (64 * s) (64 * s + m) (A.at s).pa (· ∈ A.ns) (A.at s).tr) I ∧ clE I1 s (mM I1 J (crN A.ns J) (64 * s) (64 * s + m) (A.at s).pa (· ∈ A.ns) (A.at s).tr) I ∧ ∃ N, ny I1 J (crN A.ns J) (64 * s) (64 * s + m) (A.at s).tr N ∧ I 94 (N - 64 * s) ≠ nI 0
section RCS
variable {A : aS} {s m : Nat} {I1 I : pmI} {J : pmJ}
/-- each use has its marked node -/
theorem rcE.use (hU : nU I1 (64 * s) (64 * s + m)) (hm : m ≤ 60) (hs : s ≤ 39) (h : rcE A s m I1 I J) (hw : wt (A.at s).pa (· ∈ A.ns) (A.at s).tr) : ∀ u ∈ us (A.at s).tr, ∃ k, k < 64 ∧ I 94 k ≠ nI 0 ∧ I 63 (64 * s + k) = (if u.1 = true then nI 3 else nI 2) ∧ J 70 (64 * s + k) = hN A.ns u.2 := by
  obtain ⟨h1, h2, N, h3, h4⟩ := h
  intro u hu
  have hMN : mM I1 J (crN A.ns J) (64 * s) (64 * s + m) (A.at s).pa (· ∈ A.ns) (A.at s).tr N := ⟨(A.at s).tr, h3, hw, fun _ q => q⟩
  obtain ⟨n, ⟨n1, n2⟩, n3, n4, n5⟩ := us_node (mk := fun n => mM I1 J (crN A.ns J) (64 * s) (64 * s + m) (A.at s).pa (· ∈ A.ns) (A.at s).tr n ∧ I 94 (n - 64 * s) ≠ nI 0) (fun n a c hn b1 b2 a1 a2 e c1 c2 => by
    rcases hn.1.ch hU a1 a2 with q | ⟨c', q1, q2⟩
    · rw [q] at e
      exact absurd e.symm (nI_n5 (by omega))
    · have hb := q1.bd
      have ec : c = c' := (nI_eq (by omega) (by omega)).mp (e.symm.trans q2)
      subst ec
      refine ⟨q1, h2 (n - 64 * s) (by omega) hn.2 a a1 a2 c q1 ?_⟩
      rw [show 64 * s + (n - 64 * s) = n by omega]
      exact e) (A.at s).tr N h3 hw ⟨hMN, h4⟩ u hu
  refine ⟨n - 64 * s, by omega, n2, ?_, ?_⟩
  · rw [show 64 * s + (n - 64 * s) = n by omega, h1.1 63 (by decide)]
    exact n4
  · rw [show 64 * s + (n - 64 * s) = n by omega]
    exact n5
theorem rcE.lk (hU : nU I1 (64 * s) (64 * s + m)) (hm : m ≤ 60) (hs : s ≤ 39) (h : rcE A s m I1 I J) (hw : wt (A.at s).pa (· ∈ A.ns) (A.at s).tr) (hk : ∀ k, k < 64 → okK A (A.at s).pa s I J k) : lkB A (A.at s).tr = false := by
  refine lkB_f (fun u hu => ?_)
  obtain ⟨k, k1, k2, k3, k4⟩ := h.use hU hm hs hw u hu
  have hn := us_nm _ hw u hu
  have g := hk k k1 k2 u.2 hn.1 k4
  obtain ⟨c, v⟩ := u
  cases c with
  | true => exact lkU_c0 (g.1 k3)
  | false => exact lkU_v0 (g.2 k3 (hn.2 rfl))
theorem rcE.no {v : Int64} (hU : nU I1 (64 * s) (64 * s + m)) (hm : m ≤ 60) (hs : s ≤ 39) (h : rcE A s m I1 I J) (hw : wt (A.at s).pa (· ∈ A.ns) (A.at s).tr) (hk : ∀ k, k < 64 → noK A.ns (A.at s).pa s v I J k) : usB (A.at s).tr v = false := by
  refine usB_f (fun c hu => ?_)
  obtain ⟨k, k1, k2, k3, k4⟩ := h.use hU hm hs hw (c, v) hu
  have hn := us_nm _ hw (c, v) hu
  have g := hk k k1 k2 k4
  cases c with
  | true => exact g.1 k3
  | false => exact g.2 k3 (hn.2 rfl)
end RCS
set_option maxRecDepth 20000 in
set_option maxHeartbeats 400000 in
theorem r_agE_lp {l : Launch} {E : pmE} {d : Nat} {S : pmS} {I : pmI} {J : pmJ} {P : pmP} {Q : Option Value → pmS → pmI → pmJ → pmP → Prop} (hG : sh_St S) (hP : gr_St P) {s pl : Nat} {x : Int32} (hs : s ≤ 39) (hp : I 57 s = nI pl) (hpl : pl ≤ 3) (k1 : ∀ j, j < pl → I 58 (3 * s + j) = x → Q (some (.int (nI j))) S I J P) (k0 : (∀ j, j < pl → I 58 (3 * s + j) ≠ x) → Q (some (.int (-1))) S I J P) : ∀ (m k : Nat), k + m = pl → (∀ j, j < k → I 58 (3 * s + j) ≠ x) → pm_W l E yX10_argumentOf cX10_argumentOf 4 (some .int) d 0 0 2 [(3, .int (nI k)), (0, .ref 47), (1, .int (nI s)), (2, .int x)] [] S I J P (pm_N E Q)
  | 0, k, hk, hn => by
    refine pw_iload_n dX10_argumentOf_2 rfl ?_
    refine pw_aload_n dX10_argumentOf_3 rfl ?_
    refine pw_getR fX10_38 dX10_argumentOf_4 (sh_lt hG (by decide)) (sh_tg hG 45 rfl) rfl (gr_at hP 49 rfl) ?_
    refine pw_iload_n dX10_argumentOf_7 rfl ?_
    refine pw_ialdN s dX10_argumentOf_8 (sh_lt hG (by decide)) (sh_sh hG 55 rfl) (by decide) (rfl) (by omega) ?_
    refine pw_icmpN_ge _ _ (tgt := 34) dX10_argumentOf_9 (by decide) (rfl) (hp) (by omega) (by omega) (fun h9 => ?_) (fun h9 => absurd h9 (by omega))
    refine pw_iconst (v := -1) dX10_argumentOf_34 (by decide) ?_
    exact pw_iret dX10_argumentOf_35 rfl (k0 (fun j hj => hn j (by omega)))
  | m + 1, k, hk, hn => by
    refine pw_iload_n dX10_argumentOf_2 rfl ?_
    refine pw_aload_n dX10_argumentOf_3 rfl ?_
    refine pw_getR fX10_38 dX10_argumentOf_4 (sh_lt hG (by decide)) (sh_tg hG 45 rfl) rfl (gr_at hP 49 rfl) ?_
    refine pw_iload_n dX10_argumentOf_7 rfl ?_
    refine pw_ialdN s dX10_argumentOf_8 (sh_lt hG (by decide)) (sh_sh hG 55 rfl) (by decide) (rfl) (by omega) ?_
    refine pw_icmpN_ge _ _ (tgt := 34) dX10_argumentOf_9 (by decide) (rfl) (hp) (by omega) (by omega) (fun h9 => absurd h9 (by omega)) (fun h9 => ?_)
    refine pw_aload_n dX10_argumentOf_12 rfl ?_
    refine pw_getR fX10_41 dX10_argumentOf_13 (sh_lt hG (by decide)) (sh_tg hG 45 rfl) rfl (gr_at hP 50 rfl) ?_
    refine pw_iconst (v := nI 3) dX10_argumentOf_16 (by decide) ?_
    refine pw_iload_n dX10_argumentOf_17 rfl ?_
    refine pw_imul dX10_argumentOf_18 ?_
    refine pw_iload_n dX10_argumentOf_19 rfl ?_
    refine pw_iadd dX10_argumentOf_20 ?_
    refine pw_ti (z := nI (3 * s + k)) (by rw [show nI 3 * nI s = nI (3 * s) from (Int32.ofNat_mul 3 _).symm]; exact nI_add _ _) ?_
    refine pw_ialdN (3 * s + k) dX10_argumentOf_21 (sh_lt hG (by decide)) (sh_sh hG 56 rfl) (by decide) (rfl) (by omega) ?_
    refine pw_iload_n dX10_argumentOf_22 rfl ?_
    refine pw_icmp_ne (tgt := 28) dX10_argumentOf_23 (by decide) (fun h23 => ?_) (fun h23 => ?_)
    · refine pw_iinc (lv' := [(3, _), (0, _), (1, _), (2, _)]) dX10_argumentOf_28 rfl (by decide) rfl ?_
      refine pw_goto (tgt := 2) dX10_argumentOf_31 (by decide) ?_
      refine pm_lvs (lv' := [(3, .int (nI (k + 1))), (0, _), (1, _), (2, _)]) (by rw [show nI k + Int32.ofInt 1 = nI (k + 1) from nI_add k 1]) ?_
      exact r_agE_lp hG hP hs hp hpl k1 k0 m (k + 1) (by omega) (fun j hj => by
        rcases Nat.lt_or_ge j k with q | q
        · exact hn j q
        · rw [show j = k by omega]; exact h23)
    · refine pw_iload_n dX10_argumentOf_26 rfl ?_
      exact pw_iret dX10_argumentOf_27 rfl (k1 k (by omega) h23)
set_option maxRecDepth 20000 in
set_option maxHeartbeats 400000 in
theorem r_argE {l : Launch} {E : pmE} {d : Nat} {S : pmS} {I : pmI} {J : pmJ} {P : pmP} {Q : Option Value → pmS → pmI → pmJ → pmP → Prop} (hG : sh_St S) (hP : gr_St P) {s pl : Nat} {x : Int32} (hs : s ≤ 39) (hp : I 57 s = nI pl) (hpl : pl ≤ 3) (k1 : ∀ j, j < pl → I 58 (3 * s + j) = x → Q (some (.int (nI j))) S I J P) (k0 : (∀ j, j < pl → I 58 (3 * s + j) ≠ x) → Q (some (.int (-1))) S I J P) : pm_Met l E yX10_argumentOf cX10_argumentOf 4 (some .int) d 0 0 [.ref 47, .int (nI s), .int x] S I J P Q := by
  unfold pm_Met
  refine pm_lvs (lv' := [(0, _), (1, _), (2, _)]) rfl ?_
  refine pw_iconst (v := nI 0) dX10_argumentOf_0 (by decide) ?_
  refine pw_istore_n (lv' := [(3, _), (0, _), (1, _), (2, _)]) dX10_argumentOf_1 (by decide) rfl ?_
  exact r_agE_lp hG hP hs hp hpl k1 k0 pl 0 (Nat.zero_add _) (fun j hj => absurd hj (Nat.not_lt_zero _))
set_option maxRecDepth 20000 in
set_option maxHeartbeats 400000 in
theorem r_tellsE {l : Launch} {E : pmE} {d : Nat} {S : pmS} {I : pmI} {J : pmJ} {P : pmP} {Q : Option Value → pmS → pmI → pmJ → pmP → Prop} (hG : sh_St S) (hP : gr_St P) (hd : 1 ≤ d) {s pl n : Nat} (hs : s ≤ 39) (hp : I 57 s = nI pl) (hpl : pl ≤ 3) (hn : n < 64 * s + 64) (k1 : (I 63 n = nI 3 ∨ (I 63 n = nI 2 ∧ ∀ j, j < pl → I 58 (3 * s + j) ≠ (J 70 n).toInt32)) → Q (some (.int (nI 1))) S I J P) (k0 : ¬ I 63 n = nI 3 → (I 63 n = nI 2 → ∃ j, j < pl ∧ I 58 (3 * s + j) = (J 70 n).toInt32) → Q (some (.int (nI 0))) S I J P) : pm_Met l E yX10_tells cX10_tells 3 (some .boolean) d 0 0 [.ref 47, .int (nI s), .int (nI n)] S I J P Q := by
  unfold pm_Met
  refine pm_lvs (lv' := [(0, _), (1, _), (2, _)]) rfl ?_
  refine pw_aload_n dX10_tells_0 rfl ?_
  refine pw_getR fX10_56 dX10_tells_1 (sh_lt hG (by decide)) (sh_tg hG 45 rfl) rfl (gr_at hP 55 rfl) ?_
  refine pw_iload_n dX10_tells_4 rfl ?_
  refine pw_ialdN n dX10_tells_5 (sh_lt hG (by decide)) (sh_sh hG 61 rfl) (by decide) (rfl) (by omega) ?_
  refine pw_iconst (v := nI 3) dX10_tells_6 (by decide) ?_
  refine pw_icmp_eq (tgt := 35) dX10_tells_7 (by decide) (fun h7 => ?_) (fun h7 => ?_)
  · refine pw_iconst (v := nI 1) dX10_tells_35 (by decide) ?_
    refine pw_goto (tgt := 40) dX10_tells_36 (by decide) ?_
    exact pw_zret dX10_tells_40 rfl (by decide) (k1 (Or.inl h7))
  · refine pw_aload_n dX10_tells_10 rfl ?_
    refine pw_getR fX10_56 dX10_tells_11 (sh_lt hG (by decide)) (sh_tg hG 45 rfl) rfl (gr_at hP 55 rfl) ?_
    refine pw_iload_n dX10_tells_14 rfl ?_
    refine pw_ialdN n dX10_tells_15 (sh_lt hG (by decide)) (sh_sh hG 61 rfl) (by decide) (rfl) (by omega) ?_
    refine pw_iconst (v := nI 2) dX10_tells_16 (by decide) ?_
    refine pw_icmp_ne (tgt := 39) dX10_tells_17 (by decide) (fun h17 => ?_) (fun h17 => ?_)
    · refine pw_iconst (v := nI 0) dX10_tells_39 (by decide) ?_
      exact pw_zret dX10_tells_40 rfl (by decide) (k0 h7 (fun e => absurd e h17))
    · refine pw_aload_n dX10_tells_20 rfl ?_
      refine pw_iload_n dX10_tells_21 rfl ?_
      refine pw_aload_n dX10_tells_22 rfl ?_
      refine pw_getR fX10_77 dX10_tells_23 (sh_lt hG (by decide)) (sh_tg hG 45 rfl) rfl (gr_at hP 62 rfl) ?_
      refine pw_iload_n dX10_tells_26 rfl ?_
      refine pw_laldN n dX10_tells_27 (sh_lt hG (by decide)) (sh_sh hG 68 rfl) (by decide) (rfl) (by omega) ?_
      refine pw_l2i dX10_tells_28 ?_
      refine pw_callV (as := [_, _]) (kc' := 0) (ks' := 0) lX10_291 dX10_tells_29 rfl rfl (sh_lt hG (by decide)) (sh_tg hG 45 rfl) (Nat.le_of_ble_eq_true rfl) (by omega) (Nat.le_of_ble_eq_true rfl) (Nat.zero_le _) (Nat.zero_le _) ?_
      refine r_argE hG hP hs hp hpl (fun j hj e => ?_) (fun hno => ?_)
      · refine pw_ifN_ge _ (tgt := 39) dX10_tells_32 (by decide) (rfl) (by omega) (fun h32 => ?_) (fun h32 => absurd h32 (by omega))
        refine pw_iconst (v := nI 0) dX10_tells_39 (by decide) ?_
        exact pw_zret dX10_tells_40 rfl (by decide) (k0 h7 (fun _ => ⟨j, hj, e⟩))
      · refine pw_if_ge (tgt := 39) dX10_tells_32 (by decide) (fun h => absurd h (by decide)) (fun h32 => ?_)
        refine pw_iconst (v := nI 1) dX10_tells_35 (by decide) ?_
        refine pw_goto (tgt := 40) dX10_tells_36 (by decide) ?_
        exact pw_zret dX10_tells_40 rfl (by decide) (k1 (Or.inr ⟨h17, hno⟩))
set_option maxRecDepth 20000 in
set_option maxHeartbeats 400000 in
theorem r_stE_lp {l : Launch} {E : pmE} {d : Nat} {S : pmS} {I : pmI} {J : pmJ} {P : pmP} {Q : Option Value → pmS → pmI → pmJ → pmP → Prop} (hG : sh_St S) (hP : gr_St P) (hd : 2 ≤ d) {I1 : pmI} {A : aS} {s m : Nat} (hO : aO A) (hA : rA I J A) (hU : nU I1 (64 * s) (64 * s + m)) (hm : m ≤ 60) (hsA : s < A.sn.length) (hf2 : (A.at s).form = 2) (h : rcE A s m I1 I J) (kx : Q (some (.int (nI (if lkB A (A.at s).tr = true then 1 else 0)))) S I J P) : ∀ (q k : Nat) (w : Int32), k + q = 64 → ((w = nI 0 ∧ ∀ j, j < k → okK A (A.at s).pa s I J j) ∨ (w = nI 1 ∧ lkB A (A.at s).tr = true)) → pm_W l E yX10_state cX10_state 6 (some .int) d 0 0 68 [(3, .int (nI k)), (2, .int w), (0, .ref 47), (1, .int (nI s))] [] S I J P (pm_N E Q)
  | 0, k, w, hk, hi => by
    have hsl := hO.2.2.2.2.2.2.2.2.2.2.1
    have hnl := hO.1.2
    have hxO := hO.2.2.2.2.1 s hsA
    have hp3 := hxO.2.1
    have hx := hA.sn hsA
    have hw := hxO.2.2.2.2.1 hf2
    have hs : s ≤ 39 := by omega
    rcases hi with ⟨rfl, hi⟩ | ⟨rfl, hi⟩
    · rw [h.lk hU hm hs hw (fun j hj => hi j (by omega)), if_neg (by decide)] at kx
      refine pw_iload_n dX10_state_68 rfl ?_
      refine pw_bipush (v := nI 64) dX10_state_69 (by decide) ?_
      refine pw_icmpN_ge _ _ (tgt := 158) dX10_state_71 (by decide) (rfl) (rfl) (by omega) (by omega) (fun h71 => ?_) (fun h71 => absurd h71 (by omega))
      refine pw_iload_n dX10_state_158 rfl ?_
      refine pw_if_eq (tgt := 166) dX10_state_159 (by decide) (fun h159 => ?_) (fun h => absurd (by decide) h)
      refine pw_iconst (v := nI 0) dX10_state_166 (by decide) ?_
      exact pw_iret dX10_state_167 rfl (kx)
    · rw [if_pos hi] at kx
      refine pw_iload_n dX10_state_68 rfl ?_
      refine pw_bipush (v := nI 64) dX10_state_69 (by decide) ?_
      refine pw_icmpN_ge _ _ (tgt := 158) dX10_state_71 (by decide) (rfl) (rfl) (by omega) (by omega) (fun h71 => ?_) (fun h71 => absurd h71 (by omega))
      refine pw_iload_n dX10_state_158 rfl ?_
      refine pw_if_eq (tgt := 166) dX10_state_159 (by decide) (fun h => absurd h (by decide)) (fun h159 => ?_)
      refine pw_iconst (v := nI 1) dX10_state_162 (by decide) ?_
      refine pw_goto (tgt := 167) dX10_state_163 (by decide) ?_
      exact pw_iret dX10_state_167 rfl (kx)
  | q + 1, k, w, hk, hi => by
    have hsl := hO.2.2.2.2.2.2.2.2.2.2.1
    have hnl := hO.1.2
    have hxO := hO.2.2.2.2.1 s hsA
    have hp3 := hxO.2.1
    have hx := hA.sn hsA
    have hw := hxO.2.2.2.2.1 hf2
    have hs : s ≤ 39 := by omega
    refine pw_iload_n dX10_state_68 rfl ?_
    refine pw_bipush (v := nI 64) dX10_state_69 (by decide) ?_
    refine pw_icmpN_ge _ _ (tgt := 158) dX10_state_71 (by decide) (rfl) (rfl) (by omega) (by omega) (fun h71 => absurd h71 (by omega)) (fun h71 => ?_)
    refine pw_bipush (v := nI 64) dX10_state_74 (by decide) ?_
    refine pw_iload_n dX10_state_76 rfl ?_
    refine pw_imul dX10_state_77 ?_
    refine pw_iload_n dX10_state_78 rfl ?_
    refine pw_iadd dX10_state_79 ?_
    refine pw_ti (z := nI (64 * s + k)) (by rw [show nI 64 * nI s = nI (64 * s) from (Int32.ofNat_mul 64 _).symm]; exact nI_add _ _) ?_
    refine pw_istore (lv' := [(4, _), (3, _), (2, _), (0, _), (1, _)]) dX10_state_80 (by decide) rfl ?_
    refine pw_aload_n dX10_state_82 rfl ?_
    refine pw_getR fX10_150 dX10_state_83 (sh_lt hG (by decide)) (sh_tg hG 45 rfl) rfl (gr_at hP 86 rfl) ?_
    refine pw_iload_n dX10_state_86 rfl ?_
    refine pw_zaldN k dX10_state_87 (sh_lt hG (by decide)) (sh_sh hG 92 rfl) (by decide) (rfl) (by omega) ?_
    refine pw_if_eq (tgt := 152) dX10_state_88 (by decide) (fun h88 => ?_) (fun h88 => ?_)
    · refine pw_sub [1, 2, 3, 4] rfl ?_
      refine pw_iinc (lv' := [(3, _), (2, _), (0, _), (1, _)]) dX10_state_152 rfl (by decide) rfl ?_
      refine pw_goto (tgt := 68) dX10_state_155 (by decide) ?_
      refine pm_lvs (lv' := [(3, .int (nI (k + 1))), (2, _), (0, _), (1, _)]) (by rw [show nI k + Int32.ofInt 1 = nI (k + 1) from nI_add k 1]) ?_
      exact r_stE_lp hG hP hd hO hA hU hm hsA hf2 h kx q (k + 1) _ (by omega) (hi.imp (fun z => ⟨z.1, fun j hj => by
        rcases Nat.lt_or_ge j k with q9 | q9
        · exact z.2 j q9
        · rw [show j = k by omega]; exact fun z9 => absurd h88 z9⟩) id)
    · refine pw_aload_n dX10_state_91 rfl ?_
      refine pw_iload_n dX10_state_92 rfl ?_
      refine pw_iload dX10_state_93 rfl ?_
      refine pw_callV (as := [_, _]) (kc' := 0) (ks' := 0) lX10_369 dX10_state_95 rfl rfl (sh_lt hG (by decide)) (sh_tg hG 45 rfl) (Nat.le_of_ble_eq_true rfl) (by omega) (Nat.le_of_ble_eq_true rfl) (Nat.zero_le _) (Nat.zero_le _) ?_
      refine r_tellsE hG hP (by omega) hs hx.2.2.1 hp3 (by omega) (fun ht => ?_) (fun hn3 hn2 => ?_)
      · have hMk := (h.1.2 k (by omega)).resolve_left (fun q9 => h88 q9)
        have hus := hMk.us
        rw [← h.1.1 63 (by decide)] at hus
        obtain ⟨v, hv70, hvn, hcase⟩ : ∃ v, J 70 (64 * s + k) = hN A.ns v ∧ v ∈ A.ns ∧ ((I 63 (64 * s + k) = nI 3 ∧ (true, v) ∈ us (A.at s).tr) ∨ (I 63 (64 * s + k) = nI 2 ∧ (false, v) ∈ us (A.at s).tr)) := by
          rcases ht with ht | ⟨ht, hno⟩
          · obtain ⟨v, v1, v2⟩ := hus.1 ht
            exact ⟨v, v1, (us_nm _ hw _ v2).1, Or.inl ⟨ht, v2⟩⟩
          · obtain ⟨v, v1, v2, v3⟩ := hus.2 ht
            refine ⟨v, v1, v2, Or.inr ⟨ht, ?_⟩⟩
            rcases v3 with v3 | ⟨j, v3⟩
            · exact v3
            · have g := ps_arg_lt v3
              rw [Nat.sub_zero] at g
              exfalso
              refine hno j (by omega) ?_
              rw [hx.2.2.2.1 j v g.2.2, show J 70 (64 * s + k) = hN A.ns v from v1]
              exact (lN_i _).symm
        have hnm := hA.nm hvn
        have hvl := (ns_at hvn).2
        have huni : ∀ u, u ∈ A.ns → J 70 (64 * s + k) = hN A.ns u → u = v := fun u hu e => hN_inj hu hvn hnl (e.symm.trans hv70)
        have hf3 : A.fm v ≤ 3 := by
          by_cases z : A.fm v = 0
          · omega
          · obtain ⟨s', z1, z2, z3, -⟩ := hO.2.2.2.1 v z
            have := (hO.2.2.2.2.1 s' z2).1
            omega
        refine pw_if_eq (tgt := 152) dX10_state_98 (by decide) (fun h => absurd h (by decide)) (fun h98 => ?_)
        refine pw_aload_n dX10_state_101 rfl ?_
        refine pw_getR fX10_17 dX10_state_102 (sh_lt hG (by decide)) (sh_tg hG 45 rfl) rfl (gr_at hP 42 rfl) ?_
        refine pw_aload_n dX10_state_105 rfl ?_
        refine pw_getR fX10_77 dX10_state_106 (sh_lt hG (by decide)) (sh_tg hG 45 rfl) rfl (gr_at hP 62 rfl) ?_
        refine pw_iload dX10_state_109 rfl ?_
        refine pw_laldN (64 * s + k) dX10_state_111 (sh_lt hG (by decide)) (sh_sh hG 68 rfl) (by decide) (rfl) (by omega) ?_
        refine pw_l2i dX10_state_112 ?_
        refine pw_ti (z := nI (A.ns.idxOf v)) (by rw [hv70]; exact lN_i _) ?_
        refine pw_ialdN (A.ns.idxOf v) dX10_state_113 (sh_lt hG (by decide)) (sh_sh hG 48 rfl) (by decide) (rfl) (by omega) ?_
        refine pw_ti (z := nI (A.fm v)) hnm.2.1 ?_
        refine pw_istore (lv' := [(5, _), (4, _), (3, _), (2, _), (0, _), (1, _)]) dX10_state_114 (by decide) rfl ?_
        refine pw_iload_n dX10_state_116 rfl ?_
        refine pw_if_ne (tgt := 146) dX10_state_117 (by decide) (fun h117 => ?_) (fun h117 => ?_)
        · refine pw_iconst (v := nI 1) dX10_state_146 (by decide) ?_
          refine pw_goto (tgt := 151) dX10_state_147 (by decide) ?_
          refine pw_istore_n (lv' := [(2, _), (5, _), (4, _), (3, _), (0, _), (1, _)]) dX10_state_151 (by decide) rfl ?_
          refine pw_sub [3, 0, 4, 5] rfl ?_
          refine pw_iinc (lv' := [(3, _), (2, _), (0, _), (1, _)]) dX10_state_152 rfl (by decide) rfl ?_
          refine pw_goto (tgt := 68) dX10_state_155 (by decide) ?_
          refine pm_lvs (lv' := [(3, .int (nI (k + 1))), (2, _), (0, _), (1, _)]) (by rw [show nI k + Int32.ofInt 1 = nI (k + 1) from nI_add k 1]) ?_
          exact r_stE_lp hG hP hd hO hA hU hm hsA hf2 h kx q (k + 1) _ (by omega) (hi.elim (fun z => absurd z.1 h117) (fun z => Or.inr ⟨rfl, z.2⟩))
        · refine pw_aload_n dX10_state_120 rfl ?_
          refine pw_getR fX10_56 dX10_state_121 (sh_lt hG (by decide)) (sh_tg hG 45 rfl) rfl (gr_at hP 55 rfl) ?_
          refine pw_iload dX10_state_124 rfl ?_
          refine pw_ialdN (64 * s + k) dX10_state_126 (sh_lt hG (by decide)) (sh_sh hG 61 rfl) (by decide) (rfl) (by omega) ?_
          refine pw_iconst (v := nI 3) dX10_state_127 (by decide) ?_
          refine pw_icmp_ne (tgt := 140) dX10_state_128 (by decide) (fun h128 => ?_) (fun h128 => ?_)
          · refine pw_iload dX10_state_140 rfl ?_
            refine pw_iconst (v := nI 1) dX10_state_142 (by decide) ?_
            refine pw_icmpN_eq _ _ (tgt := 150) dX10_state_143 (by decide) (rfl) (rfl) (by omega) (by omega) (fun h143 => ?_) (fun h143 => ?_)
            · refine pw_iconst (v := nI 0) dX10_state_150 (by decide) ?_
              refine pw_istore_n (lv' := [(2, _), (5, _), (4, _), (3, _), (0, _), (1, _)]) dX10_state_151 (by decide) rfl ?_
              refine pw_sub [3, 0, 4, 5] rfl ?_
              refine pw_iinc (lv' := [(3, _), (2, _), (0, _), (1, _)]) dX10_state_152 rfl (by decide) rfl ?_
              refine pw_goto (tgt := 68) dX10_state_155 (by decide) ?_
              refine pm_lvs (lv' := [(3, .int (nI (k + 1))), (2, _), (0, _), (1, _)]) (by rw [show nI k + Int32.ofInt 1 = nI (k + 1) from nI_add k 1]) ?_
              exact r_stE_lp hG hP hd hO hA hU hm hsA hf2 h kx q (k + 1) _ (by omega) ((Or.inl ⟨rfl, fun j hj => by
                rcases hi with z | z
                · rcases Nat.lt_or_ge j k with q9 | q9
                  · exact z.2 j q9
                  · rw [show j = k by omega]; exact (fun _ u hu e => by
                      rw [huni u hu e]
                      exact ⟨fun z => absurd z h128, fun _ _ => by omega⟩)
                · exact absurd (h117.symm.trans z.1) (by decide)⟩))
            · refine pw_iconst (v := nI 1) dX10_state_146 (by decide) ?_
              refine pw_goto (tgt := 151) dX10_state_147 (by decide) ?_
              refine pw_istore_n (lv' := [(2, _), (5, _), (4, _), (3, _), (0, _), (1, _)]) dX10_state_151 (by decide) rfl ?_
              refine pw_sub [3, 0, 4, 5] rfl ?_
              refine pw_iinc (lv' := [(3, _), (2, _), (0, _), (1, _)]) dX10_state_152 rfl (by decide) rfl ?_
              refine pw_goto (tgt := 68) dX10_state_155 (by decide) ?_
              refine pm_lvs (lv' := [(3, .int (nI (k + 1))), (2, _), (0, _), (1, _)]) (by rw [show nI k + Int32.ofInt 1 = nI (k + 1) from nI_add k 1]) ?_
              exact r_stE_lp hG hP hd hO hA hU hm hsA hf2 h kx q (k + 1) _ (by omega) (Or.inr ⟨rfl, by
                rcases hcase with z | z
                · exact absurd z.1 h128
                · exact lkB_t z.2 (lkU_v (by omega))⟩)
          · refine pw_iload dX10_state_131 rfl ?_
            refine pw_iconst (v := nI 2) dX10_state_133 (by decide) ?_
            refine pw_icmpN_ge _ _ (tgt := 150) dX10_state_134 (by decide) (rfl) (rfl) (by omega) (by omega) (fun h134 => ?_) (fun h134 => ?_)
            · refine pw_iconst (v := nI 0) dX10_state_150 (by decide) ?_
              refine pw_istore_n (lv' := [(2, _), (5, _), (4, _), (3, _), (0, _), (1, _)]) dX10_state_151 (by decide) rfl ?_
              refine pw_sub [3, 0, 4, 5] rfl ?_
              refine pw_iinc (lv' := [(3, _), (2, _), (0, _), (1, _)]) dX10_state_152 rfl (by decide) rfl ?_
              refine pw_goto (tgt := 68) dX10_state_155 (by decide) ?_
              refine pm_lvs (lv' := [(3, .int (nI (k + 1))), (2, _), (0, _), (1, _)]) (by rw [show nI k + Int32.ofInt 1 = nI (k + 1) from nI_add k 1]) ?_
              exact r_stE_lp hG hP hd hO hA hU hm hsA hf2 h kx q (k + 1) _ (by omega) ((Or.inl ⟨rfl, fun j hj => by
                rcases hi with z | z
                · rcases Nat.lt_or_ge j k with q9 | q9
                  · exact z.2 j q9
                  · rw [show j = k by omega]; exact (fun _ u hu e => by
                      rw [huni u hu e]
                      exact ⟨fun _ => by omega, fun z => absurd (h128.symm.trans z) (by decide)⟩)
                · exact absurd (h117.symm.trans z.1) (by decide)⟩))
            · refine pw_goto (tgt := 146) dX10_state_137 (by decide) ?_
              refine pw_iconst (v := nI 1) dX10_state_146 (by decide) ?_
              refine pw_goto (tgt := 151) dX10_state_147 (by decide) ?_
              refine pw_istore_n (lv' := [(2, _), (5, _), (4, _), (3, _), (0, _), (1, _)]) dX10_state_151 (by decide) rfl ?_
              refine pw_sub [3, 0, 4, 5] rfl ?_
              refine pw_iinc (lv' := [(3, _), (2, _), (0, _), (1, _)]) dX10_state_152 rfl (by decide) rfl ?_
              refine pw_goto (tgt := 68) dX10_state_155 (by decide) ?_
              refine pm_lvs (lv' := [(3, .int (nI (k + 1))), (2, _), (0, _), (1, _)]) (by rw [show nI k + Int32.ofInt 1 = nI (k + 1) from nI_add k 1]) ?_
              exact r_stE_lp hG hP hd hO hA hU hm hsA hf2 h kx q (k + 1) _ (by omega) (Or.inr ⟨rfl, by
                rcases hcase with z | z
                · exact lkB_t z.2 (lkU_c (by omega))
                · exact absurd (h128.symm.trans z.1) (by decide)⟩)
      · have hok : ∀ v, v ∈ A.ns → J 70 (64 * s + k) = hN A.ns v → ¬ (I 63 (64 * s + k) = nI 2 ∧ ps_arg (A.at s).pa v 0 = none) := fun v hv e ⟨z1, z2⟩ => by
          obtain ⟨j, j1, j2⟩ := hn2 z1
          obtain ⟨u, hu⟩ : ∃ u, (A.at s).pa[j]? = some u := ⟨_, List.getElem?_eq_getElem j1⟩
          rw [hx.2.2.2.1 j u hu, e, show (hN A.ns v).toInt32 = nI (A.ns.idxOf v) from lN_i _] at j2
          have huv := (eq_i32 (hxO.2.2.2.1 u (List.mem_of_getElem? hu)) hv hnl).mp j2
          rw [huv] at hu
          exact ps_arg_n _ _ z2 (List.mem_of_getElem? hu)
        refine pw_if_eq (tgt := 152) dX10_state_98 (by decide) (fun h98 => ?_) (fun h => absurd (by decide) h)
        refine pw_sub [1, 2, 3, 4] rfl ?_
        refine pw_iinc (lv' := [(3, _), (2, _), (0, _), (1, _)]) dX10_state_152 rfl (by decide) rfl ?_
        refine pw_goto (tgt := 68) dX10_state_155 (by decide) ?_
        refine pm_lvs (lv' := [(3, .int (nI (k + 1))), (2, _), (0, _), (1, _)]) (by rw [show nI k + Int32.ofInt 1 = nI (k + 1) from nI_add k 1]) ?_
        exact r_stE_lp hG hP hd hO hA hU hm hsA hf2 h kx q (k + 1) _ (by omega) (hi.imp (fun z => ⟨z.1, fun j hj => by
          rcases Nat.lt_or_ge j k with q9 | q9
          · exact z.2 j q9
          · rw [show j = k by omega]; exact fun _ u hu e => ⟨fun z9 => absurd z9 hn3, fun z9 z8 => absurd ⟨z9, z8⟩ (hok u hu e)⟩⟩) id)
theorem nU.e {I I' : pmI} {lo hi : Nat} (h : nU I lo hi) (e : ∀ a, 63 ≤ a → a ≤ 69 → I' a = I a) : nU I' lo hi := by
  intro k h1 h2
  rw [e 63 (by decide) (by decide), e 64 (by decide) (by decide), e 65 (by decide) (by decide), e 66 (by decide) (by decide), e 69 (by decide) (by decide)]
  obtain ⟨g1, g2, g3, g4⟩ := h k h1 h2
  refine ⟨g1, g2, g3, fun q => ?_⟩
  obtain ⟨g, y1, y2, y3⟩ := g4 q
  exact ⟨g, y1, y2, fun a a1 a2 => by rw [e a (by omega) (by omega)]; exact y3 a a1 a2⟩
theorem hME_mM {I : pmI} {J : pmJ} {A : aS} {s m : Nat} (hU : nU I (64 * s) (64 * s + m)) (hm : m ≤ 60) : hME I s (mM I J (crN A.ns J) (64 * s) (64 * s + m) (A.at s).pa (· ∈ A.ns) (A.at s).tr) := fun n h => ⟨⟨h.bd.1, by have := h.bd.2; omega⟩, fun a a1 a2 => h.ch hU a1 a2⟩
set_option maxRecDepth 20000 in
set_option maxHeartbeats 400000 in
theorem r_stateE {l : Launch} {E : pmE} {d : Nat} {S : pmS} {I : pmI} {J : pmJ} {P : pmP} {Q : Option Value → pmS → pmI → pmJ → pmP → Prop} (hG : sh_St S) (hP : gr_St P) (hd : 4 ≤ d) {x : Int32} {A : aS} (hA : rA I J A) (hO : aO A) (hgU : ∀ s, s < A.sn.length → (A.at s).form = 2 → ∃ m, m ≤ 60 ∧ nU I (64 * s) (64 * s + m) ∧ ∃ N, I 60 s = nI N ∧ ny I J (crN A.ns J) (64 * s) (64 * s + m) (A.at s).tr N) (k : ∀ I', qF I I' → Q (some (.int (stX A x))) S I' J P) : pm_Met l E yX10_state cX10_state 6 (some .int) d 0 0 [.ref 47, .int x] S I J P Q := by
  unfold pm_Met
  have hsl := hO.2.2.2.2.2.2.2.2.2.2.1
  refine pm_lvs (lv' := [(0, _), (1, _)]) rfl ?_
  rcases ix_casesE (n := A.sn.length) (by omega) x with ⟨s, hs, rfl⟩ | h0
  · refine pw_aload_n dX10_state_0 rfl ?_
    refine pw_iconst (v := nI 0) dX10_state_1 (by decide) ?_
    refine pw_putI fX10_154 dX10_state_2 (Or.inl rfl) (by decide) (sh_lt hG (by decide)) (sh_tg hG 45 rfl) rfl ?_
    refine pw_iload_n dX10_state_5 rfl ?_
    refine pw_iconst (v := nI 0) dX10_state_6 (by decide) ?_
    refine pw_aload_n dX10_state_7 rfl ?_
    refine pw_getI fX10_220 dX10_state_8 (sh_lt hG (by decide)) (sh_tg hG 45 rfl) rfl ?_
    refine pw_ti (z := nI A.sn.length) (by rw [pm_u_eq, pm_up_ne (by decide)]; exact hA.k) ?_
    refine pw_iconst (v := nI 1) dX10_state_11 (by decide) ?_
    refine pw_isub dX10_state_12 ?_
    refine pw_callS (as := [_, _, _]) (kc' := 0) (ks' := 0) lX10_160 dX10_state_13 rfl rfl (Nat.le_of_ble_eq_true rfl) (by omega) (Nat.le_of_ble_eq_true rfl) (Nat.zero_le _) (Nat.zero_le _) ?_
    refine c_X10_in (fun _ _ => ?_) (fun q => absurd q ?_)
    rotate_left
    · intro q
      rcases q with q | q
      · rw [nI_ltI (by omega) (by omega)] at q; omega
      · rw [show nI A.sn.length - nI 1 = nI (A.sn.length - 1) from pk_sub (by omega), nI_ltI (by omega) (by omega)] at q; omega
    obtain ⟨I1, hI1⟩ : ∃ I9, I9 = pm_u I 47 0 (nI 0) := ⟨_, rfl⟩
    rw [← hI1]
    have f1 : qF I I1 := by rw [hI1]; exact qF.th
    have hA1 := f1.rA hA
    have hx := hA1.sn hs
    have hxO := hO.2.2.2.2.1 s hs
    have hf3 := hxO.1
    have hnl := hO.1.2
    rw [stX_1 hsl hs] at k
    refine pw_if_ne (tgt := 21) dX10_state_16 (by decide) (fun h16 => ?_) (fun h => absurd h (by decide))
    refine pw_aload_n dX10_state_21 rfl ?_
    refine pw_getR fX10_32 dX10_state_22 (sh_lt hG (by decide)) (sh_tg hG 45 rfl) rfl (gr_at hP 47 rfl) ?_
    refine pw_iload_n dX10_state_25 rfl ?_
    refine pw_ialdN s dX10_state_26 (sh_lt hG (by decide)) (sh_sh hG 53 rfl) (by decide) (rfl) (by omega) ?_
    refine pw_ifN_le _ (tgt := 47) dX10_state_27 (by decide) (hx.1) (by omega) (fun h27 => ?_) (fun h27 => ?_)
    · have hnr : ¬ ((A.at s).form ≠ 0 ∧ A.dc (A.at s).dec ≠ some s) := fun z => absurd z.1 (by omega)
      refine pw_aload_n dX10_state_47 rfl ?_
      refine pw_getR fX10_32 dX10_state_48 (sh_lt hG (by decide)) (sh_tg hG 45 rfl) rfl (gr_at hP 47 rfl) ?_
      refine pw_iload_n dX10_state_51 rfl ?_
      refine pw_ialdN s dX10_state_52 (sh_lt hG (by decide)) (sh_sh hG 53 rfl) (by decide) (rfl) (by omega) ?_
      refine pw_iconst (v := nI 2) dX10_state_53 (by decide) ?_
      refine pw_icmpN_eq _ _ (tgt := 59) dX10_state_54 (by decide) (hx.1) (rfl) (by omega) (by omega) (fun h54 => ?_) (fun h54 => ?_)
      · have h2' : (A.at s).form = 2 := by omega
        obtain ⟨m, hm6, hU0, N, hN0, hny0⟩ := hgU s hs h2'
        have e7 : ∀ a, 55 ≤ a → a ≤ 70 → I1 a = I a := fun a a1 a2 => f1.1 a (by omega) (by omega)
        have hU : nU I1 (64 * s) (64 * s + m) := hU0.e (fun a a1 a2 => e7 a (by omega) (by omega))
        have hN : I1 60 s = nI N := by rw [e7 60 (by decide) (by decide)]; exact hN0
        have hny : ny I1 J (crN A.ns J) (64 * s) (64 * s + m) (A.at s).tr N := ny.mv (fun a k a1 a2 _ _ => by rw [e7 a (by omega) (by omega)]) (fun _ _ _ _ => rfl) (fun _ _ _ _ _ z => z) _ _ hny0
        have hw := hxO.2.2.2.2.1 h2'
        rw [show stV A s = (if lkB A (A.at s).tr = true then 1 else 0) by
          unfold stV
          rw [if_neg hnr]
          by_cases z : lkB A (A.at s).tr = true
          · rw [if_pos ⟨h2', z⟩, if_pos z]
          · rw [if_neg (fun y => z y.2), if_neg z]] at k
        refine pw_aload_n dX10_state_59 rfl ?_
        refine pw_iload_n dX10_state_60 rfl ?_
        refine pw_callV (as := [_]) (kc' := 0) (ks' := 0) lX10_366 dX10_state_61 rfl rfl (sh_lt hG (by decide)) (sh_tg hG 45 rfl) (Nat.le_of_ble_eq_true rfl) (by omega) (Nat.le_of_ble_eq_true rfl) (Nat.zero_le _) (Nat.zero_le _) ?_
        refine r_reachE hG hP (by omega) (by omega) (hME_mM (A := A) hU hm6) hN ⟨(A.at s).tr, hny, hw, fun _ z => z⟩ (fun I2 h2 h3 h4 => ?_)
        refine pw_iconst (v := nI 0) dX10_state_64 (by decide) ?_
        refine pw_istore_n (lv' := [(2, _), (0, _), (1, _)]) dX10_state_65 (by decide) rfl ?_
        refine pw_iconst (v := nI 0) dX10_state_66 (by decide) ?_
        refine pw_istore_n (lv' := [(3, _), (2, _), (0, _), (1, _)]) dX10_state_67 (by decide) rfl ?_
        refine pm_lvs (lv' := [(3, .int (nI 0)), (2, .int (nI 0)), (0, _), (1, _)]) rfl ?_
        have f2 : qF I1 I2 := ⟨fun a _ z => h2.1 a z, fun k _ => by rw [h2.1 47 (by decide)]⟩
        exact r_stE_lp hG hP (by omega) hO (f2.rA hA1) hU hm6 hs h2' ⟨h2, h4, N, hny, h3⟩ (k I2 (f1.trans f2)) 64 0 _ rfl (Or.inl ⟨rfl, fun j hj => absurd hj (Nat.not_lt_zero _)⟩)
      · rw [show stV A s = 0 from (if_neg hnr).trans (if_neg (fun z => absurd z.1 (by omega)))] at k
        refine pw_iconst (v := nI 0) dX10_state_57 (by decide) ?_
        exact pw_iret dX10_state_58 rfl (k _ f1)
    · refine pw_aload_n dX10_state_30 rfl ?_
      refine pw_getR fX10_20 dX10_state_31 (sh_lt hG (by decide)) (sh_tg hG 45 rfl) rfl (gr_at hP 43 rfl) ?_
      refine pw_aload_n dX10_state_34 rfl ?_
      refine pw_getR fX10_35 dX10_state_35 (sh_lt hG (by decide)) (sh_tg hG 45 rfl) rfl (gr_at hP 48 rfl) ?_
      refine pw_iload_n dX10_state_38 rfl ?_
      have hdm := hxO.2.2.1 (by omega)
      have hdn := (ns_at hdm).2
      have hby := (hA1.nm hdm).2.2.1
      refine pw_ialdN s dX10_state_39 (sh_lt hG (by decide)) (sh_sh hG 54 rfl) (by decide) (rfl) (by omega) ?_
      refine pw_ti (z := nI (A.ns.idxOf (A.at s).dec)) (hx.2.1 (by omega)) ?_
      refine pw_ialdN (A.ns.idxOf (A.at s).dec) dX10_state_40 (sh_lt hG (by decide)) (sh_sh hG 49 rfl) (by decide) (rfl) (by omega) ?_
      refine pw_ti (z := eN (A.dc (A.at s).dec)) hby ?_
      refine pw_iload_n dX10_state_41 rfl ?_
      refine pw_icmp_eq (tgt := 47) dX10_state_42 (by decide) (fun h42 => ?_) (fun h42 => ?_)
      · have hnr : ¬ ((A.at s).form ≠ 0 ∧ A.dc (A.at s).dec ≠ some s) := fun z => z.2 (eN_some hO (by omega) h42)
        refine pw_aload_n dX10_state_47 rfl ?_
        refine pw_getR fX10_32 dX10_state_48 (sh_lt hG (by decide)) (sh_tg hG 45 rfl) rfl (gr_at hP 47 rfl) ?_
        refine pw_iload_n dX10_state_51 rfl ?_
        refine pw_ialdN s dX10_state_52 (sh_lt hG (by decide)) (sh_sh hG 53 rfl) (by decide) (rfl) (by omega) ?_
        refine pw_iconst (v := nI 2) dX10_state_53 (by decide) ?_
        refine pw_icmpN_eq _ _ (tgt := 59) dX10_state_54 (by decide) (hx.1) (rfl) (by omega) (by omega) (fun h54 => ?_) (fun h54 => ?_)
        · have h2' : (A.at s).form = 2 := by omega
          obtain ⟨m, hm6, hU0, N, hN0, hny0⟩ := hgU s hs h2'
          have e7 : ∀ a, 55 ≤ a → a ≤ 70 → I1 a = I a := fun a a1 a2 => f1.1 a (by omega) (by omega)
          have hU : nU I1 (64 * s) (64 * s + m) := hU0.e (fun a a1 a2 => e7 a (by omega) (by omega))
          have hN : I1 60 s = nI N := by rw [e7 60 (by decide) (by decide)]; exact hN0
          have hny : ny I1 J (crN A.ns J) (64 * s) (64 * s + m) (A.at s).tr N := ny.mv (fun a k a1 a2 _ _ => by rw [e7 a (by omega) (by omega)]) (fun _ _ _ _ => rfl) (fun _ _ _ _ _ z => z) _ _ hny0
          have hw := hxO.2.2.2.2.1 h2'
          rw [show stV A s = (if lkB A (A.at s).tr = true then 1 else 0) by
            unfold stV
            rw [if_neg hnr]
            by_cases z : lkB A (A.at s).tr = true
            · rw [if_pos ⟨h2', z⟩, if_pos z]
            · rw [if_neg (fun y => z y.2), if_neg z]] at k
          refine pw_aload_n dX10_state_59 rfl ?_
          refine pw_iload_n dX10_state_60 rfl ?_
          refine pw_callV (as := [_]) (kc' := 0) (ks' := 0) lX10_366 dX10_state_61 rfl rfl (sh_lt hG (by decide)) (sh_tg hG 45 rfl) (Nat.le_of_ble_eq_true rfl) (by omega) (Nat.le_of_ble_eq_true rfl) (Nat.zero_le _) (Nat.zero_le _) ?_
          refine r_reachE hG hP (by omega) (by omega) (hME_mM (A := A) hU hm6) hN ⟨(A.at s).tr, hny, hw, fun _ z => z⟩ (fun I2 h2 h3 h4 => ?_)
          refine pw_iconst (v := nI 0) dX10_state_64 (by decide) ?_
          refine pw_istore_n (lv' := [(2, _), (0, _), (1, _)]) dX10_state_65 (by decide) rfl ?_
          refine pw_iconst (v := nI 0) dX10_state_66 (by decide) ?_
          refine pw_istore_n (lv' := [(3, _), (2, _), (0, _), (1, _)]) dX10_state_67 (by decide) rfl ?_
          refine pm_lvs (lv' := [(3, .int (nI 0)), (2, .int (nI 0)), (0, _), (1, _)]) rfl ?_
          have f2 : qF I1 I2 := ⟨fun a _ z => h2.1 a z, fun k _ => by rw [h2.1 47 (by decide)]⟩
          exact r_stE_lp hG hP (by omega) hO (f2.rA hA1) hU hm6 hs h2' ⟨h2, h4, N, hny, h3⟩ (k I2 (f1.trans f2)) 64 0 _ rfl (Or.inl ⟨rfl, fun j hj => absurd hj (Nat.not_lt_zero _)⟩)
        · rw [show stV A s = 0 from (if_neg hnr).trans (if_neg (fun z => absurd z.1 (by omega)))] at k
          refine pw_iconst (v := nI 0) dX10_state_57 (by decide) ?_
          exact pw_iret dX10_state_58 rfl (k _ f1)
      · rw [show stV A s = 2 from if_pos ⟨by omega, fun e => h42 (by rw [e]; rfl)⟩] at k
        refine pw_iconst (v := nI 2) dX10_state_45 (by decide) ?_
        exact pw_iret dX10_state_46 rfl (k _ f1)
  · refine pw_aload_n dX10_state_0 rfl ?_
    refine pw_iconst (v := nI 0) dX10_state_1 (by decide) ?_
    refine pw_putI fX10_154 dX10_state_2 (Or.inl rfl) (by decide) (sh_lt hG (by decide)) (sh_tg hG 45 rfl) rfl ?_
    refine pw_iload_n dX10_state_5 rfl ?_
    refine pw_iconst (v := nI 0) dX10_state_6 (by decide) ?_
    refine pw_aload_n dX10_state_7 rfl ?_
    refine pw_getI fX10_220 dX10_state_8 (sh_lt hG (by decide)) (sh_tg hG 45 rfl) rfl ?_
    refine pw_ti (z := nI A.sn.length) (by rw [pm_u_eq, pm_up_ne (by decide)]; exact hA.k) ?_
    refine pw_iconst (v := nI 1) dX10_state_11 (by decide) ?_
    refine pw_isub dX10_state_12 ?_
    refine pw_callS (as := [_, _, _]) (kc' := 0) (ks' := 0) lX10_160 dX10_state_13 rfl rfl (Nat.le_of_ble_eq_true rfl) (by omega) (Nat.le_of_ble_eq_true rfl) (Nat.zero_le _) (Nat.zero_le _) ?_
    refine c_X10_in (fun q1 q2 => absurd ?_ h0) (fun _ => ?_)
    · obtain ⟨i, hi, e⟩ := in_n1 (by omega) q1 q2
      rw [e, nI_toInt (by omega)]
      exact ⟨by omega, by omega⟩
    rw [show stX A x = -1 from if_neg h0] at k
    refine pw_if_ne (tgt := 21) dX10_state_16 (by decide) (fun h => absurd (by decide) h) (fun h16 => ?_)
    refine pw_iconst (v := -1) dX10_state_19 (by decide) ?_
    exact pw_iret dX10_state_20 rfl (k _ qF.th)
