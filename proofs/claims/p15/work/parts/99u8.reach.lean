/-- what is marked is of M -/
def mkE (I1 : pmI) (s : Nat) (M : Nat → Prop) (I : pmI) : Prop := (∀ a, a ≠ 94 → I a = I1 a) ∧ ∀ j, j < 64 → I 94 j = nI 0 ∨ M (64 * s + j)
/-- the parts of node p are marked -/
def chd (I1 : pmI) (s : Nat) (M : Nat → Prop) (I : pmI) (p : Nat) : Prop := ∀ a, 64 ≤ a → a ≤ 66 → ∀ c, M c → I1 a (64 * s + p) = nI c → I 94 (c - 64 * s) ≠ nI 0
def clE (I1 : pmI) (s : Nat) (M : Nat → Prop) (I : pmI) : Prop := ∀ p, p < 64 → I 94 p ≠ nI 0 → chd I1 s M I p
/-- M holds the parts of its nodes -/
def hME (I1 : pmI) (s : Nat) (M : Nat → Prop) : Prop := ∀ n, M n → (64 * s ≤ n ∧ n < 64 * s + 64) ∧ ∀ a, 64 ≤ a → a ≤ 66 → I1 a n = -5 ∨ ∃ c, M c ∧ I1 a n = nI c
/-- one mark was set -/
def mks (I1 : pmI) (s : Nat) (M : Nat → Prop) (x : Int32) (I I' : pmI) : Prop := mkE I1 s M I' ∧ (∀ j, I 94 j ≠ nI 0 → I' 94 j ≠ nI 0) ∧ (∀ c, M c → x = nI c → I' 94 (c - 64 * s) ≠ nI 0) ∧ ∀ j, I' 94 j ≠ nI 0 → I 94 j ≠ nI 0 ∨ ∃ c, M c ∧ x = nI c ∧ j = c - 64 * s
/-- within a round that began with the marks of Ia: the parts of those from b on are marked -/
def rcI (I1 : pmI) (s : Nat) (M : Nat → Prop) (Ia I : pmI) (b : Nat) : Prop := mkE I1 s M I ∧ (∀ j, Ia 94 j ≠ nI 0 → I 94 j ≠ nI 0) ∧ (∀ p, b ≤ p → p < 64 → Ia 94 p ≠ nI 0 → chd I1 s M I p) ∧ (clE I1 s M Ia → ∀ q, I 94 q ≠ nI 0 → Ia 94 q ≠ nI 0)
section RCE
variable {I1 Ia I I2 I3 I4 : pmI} {s : Nat} {M : Nat → Prop}
theorem mks.no (hM : hME I1 s M) (hs : s ≤ 40) (h : mkE I1 s M I) : mks I1 s M (-5) I I := ⟨h, fun _ q => q, fun c hc e => absurd e.symm (nI_n5 (by have := (hM c hc).1; omega)), fun j q => Or.inl q⟩
theorem mks.yes (hM : hME I1 s M) (hs : s ≤ 40) (h : mkE I1 s M I) {c : Nat} (hc : M c) : mks I1 s M (nI c) I (pm_u I 94 (c - 64 * s) (nI 1)) := by
  have hb := (hM c hc).1
  refine ⟨⟨fun a ha => by rw [pm_u_ne ha]; exact h.1 a ha, fun j hj => ?_⟩, fun j q => ?_, fun c' hc' e => ?_, fun j q => ?_⟩
  · by_cases e : j = c - 64 * s
    · exact Or.inr (by rw [e, show 64 * s + (c - 64 * s) = c by omega]; exact hc)
    · rw [pm_u_eq, pm_up_ne e]; exact h.2 j hj
  · rw [pm_u_eq]
    by_cases e : j = c - 64 * s
    · subst e; rw [pm_up_eq]; decide
    · rw [pm_up_ne e]; exact q
  · have hb' := (hM c' hc').1
    have e2 : c = c' := (nI_eq (by omega) (by omega)).mp e
    subst e2
    rw [pm_u_eq, pm_up_eq]; decide
  · rw [pm_u_eq] at q
    by_cases e : j = c - 64 * s
    · exact Or.inr ⟨c, hc, rfl, e⟩
    · rw [pm_up_ne e] at q; exact Or.inl q
theorem rcI.skip {j : Nat} (h : rcI I1 s M Ia I (j + 1)) (h0 : I 94 j = nI 0) : rcI I1 s M Ia I j := by
  refine ⟨h.1, h.2.1, fun p h1 h2 h3 => ?_, h.2.2.2⟩
  rcases Nat.lt_or_ge j p with q | q
  · exact h.2.2.1 p (by omega) h2 h3
  · have e : p = j := by omega
    subst e
    exact absurd h0 (h.2.1 p h3)
theorem rcI.step (hM : hME I1 s M) {j : Nat} (hj : j < 64) (h : rcI I1 s M Ia I (j + 1)) (hm : I 94 j ≠ nI 0) (g1 : mks I1 s M (I1 64 (64 * s + j)) I I2) (g2 : mks I1 s M (I1 65 (64 * s + j)) I2 I3) (g3 : mks I1 s M (I1 66 (64 * s + j)) I3 I4) : rcI I1 s M Ia I4 j := by
  have hMj : M (64 * s + j) := (h.1.2 j hj).resolve_left hm
  have m4 : ∀ q, I 94 q ≠ nI 0 → I4 94 q ≠ nI 0 := fun q z => g3.2.1 q (g2.2.1 q (g1.2.1 q z))
  refine ⟨g3.1, fun q z => m4 q (h.2.1 q z), fun p h1 h2 h3 => ?_, fun hcl q z => ?_⟩
  · rcases Nat.lt_or_ge j p with z | z
    · exact fun a a1 a2 c hc e => m4 _ (h.2.2.1 p (by omega) h2 h3 a a1 a2 c hc e)
    · have e : p = j := by omega
      subst e
      intro a a1 a2 c hc e
      rcases (show a = 64 ∨ a = 65 ∨ a = 66 by omega) with rfl | rfl | rfl
      · exact g3.2.1 _ (g2.2.1 _ (g1.2.2.1 c hc e))
      · exact g3.2.1 _ (g2.2.2.1 c hc e)
      · exact g3.2.2.1 c hc e
  · have hjl := h.2.2.2 hcl
    have cj := hcl j hj (hjl j hm)
    have one : ∀ a, 64 ≤ a → a ≤ 66 → (∃ c, M c ∧ I1 a (64 * s + j) = nI c ∧ q = c - 64 * s) → Ia 94 q ≠ nI 0 := fun a a1 a2 ⟨c, c1, c2, c3⟩ => by
      rw [c3]
      exact cj a a1 a2 c c1 c2
    rcases g3.2.2.2 q z with z | z
    · rcases g2.2.2.2 q z with z | z
      · rcases g1.2.2.2 q z with z | z
        · exact hjl q z
        · exact one 64 (by decide) (by decide) z
      · exact one 65 (by decide) (by decide) z
    · exact one 66 (by decide) (by decide) z
end RCE
/-- how many are not marked -/
def um (f : Nat → Int32) : Nat → Nat
  | 0 => 0
  | n + 1 => um f n + (if f n = nI 0 then 1 else 0)
theorem um_mono {f g : Nat → Int32} (h : ∀ j, f j ≠ nI 0 → g j ≠ nI 0) : ∀ n, um g n ≤ um f n
  | 0 => Nat.le_refl _
  | n + 1 => by
    have ih := um_mono h n
    show um g n + _ ≤ um f n + _
    by_cases q : g n = nI 0
    · by_cases z : f n = nI 0
      · rw [if_pos q, if_pos z]; omega
      · exact absurd q (h n z)
    · rw [if_neg q]; omega
theorem um_lt {f g : Nat → Int32} (h : ∀ j, f j ≠ nI 0 → g j ≠ nI 0) {j : Nat} (h1 : f j = nI 0) (h2 : g j ≠ nI 0) : ∀ n, j < n → um g n < um f n
  | 0, hn => absurd hn (Nat.not_lt_zero _)
  | n + 1, hn => by
    show um g n + _ < um f n + _
    rcases Nat.lt_or_ge j n with q | q
    · have ih := um_lt h h1 h2 n q
      by_cases z : g n = nI 0
      · by_cases y : f n = nI 0
        · rw [if_pos z, if_pos y]; omega
        · exact absurd z (h n y)
      · rw [if_neg z]; omega
    · have e : j = n := by omega
      subst e
      have ih := um_mono h j
      rw [if_neg h2, if_pos h1]; omega
theorem um_le (f : Nat → Int32) : ∀ n, um f n ≤ n
  | 0 => Nat.le_refl _
  | n + 1 => by
    have ih := um_le f n
    show um f n + _ ≤ _
    split <;> omega
theorem um_lt0 {f : Nat → Int32} {j : Nat} (h : f j ≠ nI 0) : ∀ n, j < n → um f n < n
  | 0, hn => absurd hn (Nat.not_lt_zero _)
  | n + 1, hn => by
    show um f n + _ < _
    rcases Nat.lt_or_ge j n with q | q
    · have ih := um_lt0 h n q
      split <;> omega
    · have e : j = n := by omega
      subst e
      have := um_le f j
      rw [if_neg h]; omega
/-- behind t rounds -/
def oI (I1 : pmI) (s : Nat) (M : Nat → Prop) (r t : Nat) (I : pmI) : Prop := mkE I1 s M I ∧ I 94 r ≠ nI 0 ∧ (clE I1 s M I ∨ um (I 94) 64 + t ≤ 63)
theorem oI.next {I1 I I' : pmI} {s : Nat} {M : Nat → Prop} {r t : Nat} (hM : hME I1 s M) (h : oI I1 s M r t I) (g : rcI I1 s M I I' 0) : oI I1 s M r (t + 1) I' := by
  refine ⟨g.1, g.2.1 r h.2.1, ?_⟩
  by_cases q : ∀ j, j < 64 → I' 94 j ≠ nI 0 → I 94 j ≠ nI 0
  · exact Or.inl (fun p hp hm => g.2.2.1 p (Nat.zero_le _) hp (q p hp hm))
  · rcases h.2.2 with z | z
    · exact absurd (fun j _ hj => g.2.2.2 z j hj) q
    · right
      have hex : ∃ j, j < 64 ∧ I' 94 j ≠ nI 0 ∧ I 94 j = nI 0 := by
        apply Classical.byContradiction
        intro hn
        exact q (fun j h1 h2 h3 => hn ⟨j, h1, h2, h3⟩)
      obtain ⟨j, j1, j2, j3⟩ := hex
      have := um_lt g.2.1 j3 j2 64 j1
      omega
set_option maxRecDepth 20000 in
set_option maxHeartbeats 400000 in
theorem r_markE {l : Launch} {E : pmE} {d : Nat} {S : pmS} {I : pmI} {J : pmJ} {P : pmP} {Q : Option Value → pmS → pmI → pmJ → pmP → Prop} (hG : sh_St S) (hP : gr_St P) {I1 : pmI} {s : Nat} {M : Nat → Prop} {x : Int32} (hs : s ≤ 40) (hM : hME I1 s M) (h : mkE I1 s M I) (hx : x = -5 ∨ ∃ c, M c ∧ x = nI c) (k : ∀ I', mks I1 s M x I I' → Q none S I' J P) : pm_Met l E yX10_mark cX10_mark 3 none d 0 0 [.ref 47, .int (nI s), .int x] S I J P Q := by
  unfold pm_Met
  refine pm_lvs (lv' := [(0, _), (1, _), (2, _)]) rfl ?_
  rcases hx with rfl | ⟨c, hc, rfl⟩
  · refine pw_iload_n dX10_mark_0 rfl ?_
    refine pw_bipush (v := -5) dX10_mark_1 (by decide) ?_
    refine pw_icmp_eq (tgt := 18) dX10_mark_3 (by decide) (fun h3 => ?_) (fun h => absurd (rfl) h)
    exact pw_vret dX10_mark_18 rfl (k _ (mks.no hM hs h))
  · have hb := (hM c hc).1
    refine pw_iload_n dX10_mark_0 rfl ?_
    refine pw_bipush (v := -5) dX10_mark_1 (by decide) ?_
    refine pw_icmp_eq (tgt := 18) dX10_mark_3 (by decide) (fun h => absurd h (nI_n5 (by omega))) (fun h3 => ?_)
    refine pw_aload_n dX10_mark_6 rfl ?_
    refine pw_getR fX10_150 dX10_mark_7 (sh_lt hG (by decide)) (sh_tg hG 45 rfl) rfl (gr_at hP 86 rfl) ?_
    refine pw_iload_n dX10_mark_10 rfl ?_
    refine pw_bipush (v := nI 64) dX10_mark_11 (by decide) ?_
    refine pw_iload_n dX10_mark_13 rfl ?_
    refine pw_imul dX10_mark_14 ?_
    refine pw_isub dX10_mark_15 ?_
    refine pw_ti (z := nI (c - 64 * s)) (by rw [show nI 64 * nI s = nI (64 * s) from (Int32.ofNat_mul 64 _).symm, show nI c = nI (c - 64 * s) + nI (64 * s) by rw [nI_add, show c - 64 * s + 64 * s = c by omega], Int32.add_sub_cancel]) ?_
    refine pw_iconst (v := nI 1) dX10_mark_16 (by decide) ?_
    refine pw_zastN (c - 64 * s) dX10_mark_17 (by decide) (sh_lt hG (by decide)) (sh_sh hG 92 rfl) (by decide) (rfl) (by omega) (by decide) ?_
    exact pw_vret dX10_mark_18 rfl (k _ (mks.yes hM hs h hc))
set_option maxRecDepth 20000 in
set_option maxHeartbeats 400000 in
theorem r_rc1E {l : Launch} {E : pmE} {d : Nat} {S : pmS} {J : pmJ} {P : pmP} {Q : Option Value → pmS → pmI → pmJ → pmP → Prop} (hG : sh_St S) (hP : gr_St P) (hd : 1 ≤ d) {I1 Ia : pmI} {s : Nat} {M : Nat → Prop} (hs : s ≤ 39) (hM : hME I1 s M) {x2 : Int32} (kx : ∀ I', rcI I1 s M Ia I' 0 → pm_W l E yX10_reach cX10_reach 5 none d 0 0 112 [(3, .int (-1)), (2, .int x2), (0, .ref 47), (1, .int (nI s))] [] S I' J P (pm_N E Q)) : ∀ (j : Nat) (I : pmI), j < 64 → rcI I1 s M Ia I (j + 1) → pm_W l E yX10_reach cX10_reach 5 none d 0 0 49 [(3, .int (nI j)), (2, .int x2), (0, .ref 47), (1, .int (nI s))] [] S I J P (pm_N E Q)
  | 0, I, hj, h => by
    refine pw_iload_n dX10_reach_49 rfl ?_
    refine pw_if_lt (tgt := 112) dX10_reach_50 (by decide) (fun h => absurd h (nI_pos (by omega))) (fun h50 => ?_)
    refine pw_bipush (v := nI 64) dX10_reach_53 (by decide) ?_
    refine pw_iload_n dX10_reach_55 rfl ?_
    refine pw_imul dX10_reach_56 ?_
    refine pw_iload_n dX10_reach_57 rfl ?_
    refine pw_iadd dX10_reach_58 ?_
    refine pw_ti (z := nI (64 * s + 0)) (by rw [show nI 64 * nI s = nI (64 * s) from (Int32.ofNat_mul 64 _).symm]; exact nI_add _ _) ?_
    refine pw_istore (lv' := [(4, _), (3, _), (2, _), (0, _), (1, _)]) dX10_reach_59 (by decide) rfl ?_
    refine pw_aload_n dX10_reach_61 rfl ?_
    refine pw_getR fX10_150 dX10_reach_62 (sh_lt hG (by decide)) (sh_tg hG 45 rfl) rfl (gr_at hP 86 rfl) ?_
    refine pw_iload_n dX10_reach_65 rfl ?_
    refine pw_zaldN 0 dX10_reach_66 (sh_lt hG (by decide)) (sh_sh hG 92 rfl) (by decide) (rfl) (by omega) ?_
    refine pw_if_eq (tgt := 106) dX10_reach_67 (by decide) (fun h67 => ?_) (fun h67 => ?_)
    · refine pw_sub [1, 2, 3, 4] rfl ?_
      refine pw_iinc (lv' := [(3, _), (2, _), (0, _), (1, _)]) dX10_reach_106 rfl (by decide) rfl ?_
      refine pw_goto (tgt := 49) dX10_reach_109 (by decide) ?_
      refine pm_lvs (lv' := [(3, .int (-1)), (2, _), (0, _), (1, _)]) (by rw [show nI 0 + Int32.ofInt (-1) = -1 from by decide]) ?_
      refine pw_iload_n dX10_reach_49 rfl ?_
      refine pw_if_lt (tgt := 112) dX10_reach_50 (by decide) (fun h50 => ?_) (fun h => absurd (by decide) h)
      exact kx _ (h.skip h67)
    · have hMj := (h.1.2 0 (by omega)).resolve_left (fun q => h67 q)
      refine pw_aload_n dX10_reach_70 rfl ?_
      refine pw_iload_n dX10_reach_71 rfl ?_
      refine pw_aload_n dX10_reach_72 rfl ?_
      refine pw_getR fX10_59 dX10_reach_73 (sh_lt hG (by decide)) (sh_tg hG 45 rfl) rfl (gr_at hP 56 rfl) ?_
      refine pw_iload dX10_reach_76 rfl ?_
      refine pw_ialdN (64 * s + 0) dX10_reach_78 (sh_lt hG (by decide)) (sh_sh hG 62 rfl) (by decide) (rfl) (by omega) ?_
      refine pw_callV (as := [_, _]) (kc' := 0) (ks' := 0) lX10_363 dX10_reach_79 rfl rfl (sh_lt hG (by decide)) (sh_tg hG 45 rfl) (Nat.le_of_ble_eq_true rfl) (by omega) (Nat.le_of_ble_eq_true rfl) (Nat.zero_le _) (Nat.zero_le _) ?_
      refine r_markE hG hP (by omega) hM h.1 (by rw [h.1.1 64 (by decide)]; exact (hM _ hMj).2 64 (by decide) (by decide)) (fun I2 g2 => ?_)
      rw [h.1.1 64 (by decide)] at g2
      refine pw_aload_n dX10_reach_82 rfl ?_
      refine pw_iload_n dX10_reach_83 rfl ?_
      refine pw_aload_n dX10_reach_84 rfl ?_
      refine pw_getR fX10_62 dX10_reach_85 (sh_lt hG (by decide)) (sh_tg hG 45 rfl) rfl (gr_at hP 57 rfl) ?_
      refine pw_iload dX10_reach_88 rfl ?_
      refine pw_ialdN (64 * s + 0) dX10_reach_90 (sh_lt hG (by decide)) (sh_sh hG 63 rfl) (by decide) (rfl) (by omega) ?_
      refine pw_callV (as := [_, _]) (kc' := 0) (ks' := 0) lX10_363 dX10_reach_91 rfl rfl (sh_lt hG (by decide)) (sh_tg hG 45 rfl) (Nat.le_of_ble_eq_true rfl) (by omega) (Nat.le_of_ble_eq_true rfl) (Nat.zero_le _) (Nat.zero_le _) ?_
      refine r_markE hG hP (by omega) hM g2.1 (by rw [g2.1.1 65 (by decide)]; exact (hM _ hMj).2 65 (by decide) (by decide)) (fun I3 g3 => ?_)
      rw [g2.1.1 65 (by decide)] at g3
      refine pw_aload_n dX10_reach_94 rfl ?_
      refine pw_iload_n dX10_reach_95 rfl ?_
      refine pw_aload_n dX10_reach_96 rfl ?_
      refine pw_getR fX10_65 dX10_reach_97 (sh_lt hG (by decide)) (sh_tg hG 45 rfl) rfl (gr_at hP 58 rfl) ?_
      refine pw_iload dX10_reach_100 rfl ?_
      refine pw_ialdN (64 * s + 0) dX10_reach_102 (sh_lt hG (by decide)) (sh_sh hG 64 rfl) (by decide) (rfl) (by omega) ?_
      refine pw_callV (as := [_, _]) (kc' := 0) (ks' := 0) lX10_363 dX10_reach_103 rfl rfl (sh_lt hG (by decide)) (sh_tg hG 45 rfl) (Nat.le_of_ble_eq_true rfl) (by omega) (Nat.le_of_ble_eq_true rfl) (Nat.zero_le _) (Nat.zero_le _) ?_
      refine r_markE hG hP (by omega) hM g3.1 (by rw [g3.1.1 66 (by decide)]; exact (hM _ hMj).2 66 (by decide) (by decide)) (fun I4 g4 => ?_)
      rw [g3.1.1 66 (by decide)] at g4
      refine pw_sub [1, 2, 3, 4] rfl ?_
      refine pw_iinc (lv' := [(3, _), (2, _), (0, _), (1, _)]) dX10_reach_106 rfl (by decide) rfl ?_
      refine pw_goto (tgt := 49) dX10_reach_109 (by decide) ?_
      refine pm_lvs (lv' := [(3, .int (-1)), (2, _), (0, _), (1, _)]) (by rw [show nI 0 + Int32.ofInt (-1) = -1 from by decide]) ?_
      refine pw_iload_n dX10_reach_49 rfl ?_
      refine pw_if_lt (tgt := 112) dX10_reach_50 (by decide) (fun h50 => ?_) (fun h => absurd (by decide) h)
      exact kx _ (h.step hM (by omega) (fun q => h67 q) g2 g3 g4)
  | j + 1, I, hj, h => by
    have e1 : nI (j + 1) + Int32.ofInt (-1) = nI j := by
      rw [show nI (j + 1) = nI j + nI 1 by rw [nI_add], Int32.add_assoc, show nI 1 + Int32.ofInt (-1) = 0 by decide, Int32.add_zero]
    refine pw_iload_n dX10_reach_49 rfl ?_
    refine pw_if_lt (tgt := 112) dX10_reach_50 (by decide) (fun h => absurd h (nI_pos (by omega))) (fun h50 => ?_)
    refine pw_bipush (v := nI 64) dX10_reach_53 (by decide) ?_
    refine pw_iload_n dX10_reach_55 rfl ?_
    refine pw_imul dX10_reach_56 ?_
    refine pw_iload_n dX10_reach_57 rfl ?_
    refine pw_iadd dX10_reach_58 ?_
    refine pw_ti (z := nI (64 * s + (j + 1))) (by rw [show nI 64 * nI s = nI (64 * s) from (Int32.ofNat_mul 64 _).symm]; exact nI_add _ _) ?_
    refine pw_istore (lv' := [(4, _), (3, _), (2, _), (0, _), (1, _)]) dX10_reach_59 (by decide) rfl ?_
    refine pw_aload_n dX10_reach_61 rfl ?_
    refine pw_getR fX10_150 dX10_reach_62 (sh_lt hG (by decide)) (sh_tg hG 45 rfl) rfl (gr_at hP 86 rfl) ?_
    refine pw_iload_n dX10_reach_65 rfl ?_
    refine pw_zaldN (j + 1) dX10_reach_66 (sh_lt hG (by decide)) (sh_sh hG 92 rfl) (by decide) (rfl) (by omega) ?_
    refine pw_if_eq (tgt := 106) dX10_reach_67 (by decide) (fun h67 => ?_) (fun h67 => ?_)
    · refine pw_sub [1, 2, 3, 4] rfl ?_
      refine pw_iinc (lv' := [(3, _), (2, _), (0, _), (1, _)]) dX10_reach_106 rfl (by decide) rfl ?_
      refine pw_goto (tgt := 49) dX10_reach_109 (by decide) ?_
      refine pm_lvs (lv' := [(3, .int (nI j)), (2, _), (0, _), (1, _)]) (by rw [show _ = _ from e1]) ?_
      exact r_rc1E hG hP hd hs hM kx j _ (by omega) (h.skip h67)
    · have hMj := (h.1.2 (j + 1) (by omega)).resolve_left (fun q => h67 q)
      refine pw_aload_n dX10_reach_70 rfl ?_
      refine pw_iload_n dX10_reach_71 rfl ?_
      refine pw_aload_n dX10_reach_72 rfl ?_
      refine pw_getR fX10_59 dX10_reach_73 (sh_lt hG (by decide)) (sh_tg hG 45 rfl) rfl (gr_at hP 56 rfl) ?_
      refine pw_iload dX10_reach_76 rfl ?_
      refine pw_ialdN (64 * s + (j + 1)) dX10_reach_78 (sh_lt hG (by decide)) (sh_sh hG 62 rfl) (by decide) (rfl) (by omega) ?_
      refine pw_callV (as := [_, _]) (kc' := 0) (ks' := 0) lX10_363 dX10_reach_79 rfl rfl (sh_lt hG (by decide)) (sh_tg hG 45 rfl) (Nat.le_of_ble_eq_true rfl) (by omega) (Nat.le_of_ble_eq_true rfl) (Nat.zero_le _) (Nat.zero_le _) ?_
      refine r_markE hG hP (by omega) hM h.1 (by rw [h.1.1 64 (by decide)]; exact (hM _ hMj).2 64 (by decide) (by decide)) (fun I2 g2 => ?_)
      rw [h.1.1 64 (by decide)] at g2
      refine pw_aload_n dX10_reach_82 rfl ?_
      refine pw_iload_n dX10_reach_83 rfl ?_
      refine pw_aload_n dX10_reach_84 rfl ?_
      refine pw_getR fX10_62 dX10_reach_85 (sh_lt hG (by decide)) (sh_tg hG 45 rfl) rfl (gr_at hP 57 rfl) ?_
      refine pw_iload dX10_reach_88 rfl ?_
      refine pw_ialdN (64 * s + (j + 1)) dX10_reach_90 (sh_lt hG (by decide)) (sh_sh hG 63 rfl) (by decide) (rfl) (by omega) ?_
      refine pw_callV (as := [_, _]) (kc' := 0) (ks' := 0) lX10_363 dX10_reach_91 rfl rfl (sh_lt hG (by decide)) (sh_tg hG 45 rfl) (Nat.le_of_ble_eq_true rfl) (by omega) (Nat.le_of_ble_eq_true rfl) (Nat.zero_le _) (Nat.zero_le _) ?_
      refine r_markE hG hP (by omega) hM g2.1 (by rw [g2.1.1 65 (by decide)]; exact (hM _ hMj).2 65 (by decide) (by decide)) (fun I3 g3 => ?_)
      rw [g2.1.1 65 (by decide)] at g3
      refine pw_aload_n dX10_reach_94 rfl ?_
      refine pw_iload_n dX10_reach_95 rfl ?_
      refine pw_aload_n dX10_reach_96 rfl ?_
      refine pw_getR fX10_65 dX10_reach_97 (sh_lt hG (by decide)) (sh_tg hG 45 rfl) rfl (gr_at hP 58 rfl) ?_
      refine pw_iload dX10_reach_100 rfl ?_
      refine pw_ialdN (64 * s + (j + 1)) dX10_reach_102 (sh_lt hG (by decide)) (sh_sh hG 64 rfl) (by decide) (rfl) (by omega) ?_
      refine pw_callV (as := [_, _]) (kc' := 0) (ks' := 0) lX10_363 dX10_reach_103 rfl rfl (sh_lt hG (by decide)) (sh_tg hG 45 rfl) (Nat.le_of_ble_eq_true rfl) (by omega) (Nat.le_of_ble_eq_true rfl) (Nat.zero_le _) (Nat.zero_le _) ?_
      refine r_markE hG hP (by omega) hM g3.1 (by rw [g3.1.1 66 (by decide)]; exact (hM _ hMj).2 66 (by decide) (by decide)) (fun I4 g4 => ?_)
      rw [g3.1.1 66 (by decide)] at g4
      refine pw_sub [1, 2, 3, 4] rfl ?_
      refine pw_iinc (lv' := [(3, _), (2, _), (0, _), (1, _)]) dX10_reach_106 rfl (by decide) rfl ?_
      refine pw_goto (tgt := 49) dX10_reach_109 (by decide) ?_
      refine pm_lvs (lv' := [(3, .int (nI j)), (2, _), (0, _), (1, _)]) (by rw [show _ = _ from e1]) ?_
      exact r_rc1E hG hP hd hs hM kx j _ (by omega) (h.step hM (by omega) (fun q => h67 q) g2 g3 g4)
set_option maxRecDepth 20000 in
set_option maxHeartbeats 400000 in
theorem r_rc2E {l : Launch} {E : pmE} {d : Nat} {S : pmS} {J : pmJ} {P : pmP} {Q : Option Value → pmS → pmI → pmJ → pmP → Prop} (hG : sh_St S) (hP : gr_St P) (hd : 1 ≤ d) {I1 : pmI} {s r : Nat} {M : Nat → Prop} (hs : s ≤ 39) (hM : hME I1 s M) (kx : ∀ I', mkE I1 s M I' → I' 94 r ≠ nI 0 → clE I1 s M I' → Q none S I' J P) : ∀ (q k : Nat) (I : pmI), k + q = 64 → oI I1 s M r k I → pm_W l E yX10_reach cX10_reach 5 none d 0 0 40 [(2, .int (nI k)), (0, .ref 47), (1, .int (nI s))] [] S I J P (pm_N E Q)
  | 0, k, I, hk, h => by
    have e : k = 64 := by omega
    subst e
    have hc : clE I1 s M I := h.2.2.elim id (fun q => absurd q (by omega))
    refine pw_iload_n dX10_reach_40 rfl ?_
    refine pw_bipush (v := nI 64) dX10_reach_41 (by decide) ?_
    refine pw_icmp_ge (tgt := 118) dX10_reach_43 (by decide) (fun h43 => ?_) (fun h => absurd (by decide) h)
    exact pw_vret dX10_reach_118 rfl (kx I h.1 h.2.1 hc)
  | q + 1, k, I, hk, h => by
    refine pw_iload_n dX10_reach_40 rfl ?_
    refine pw_bipush (v := nI 64) dX10_reach_41 (by decide) ?_
    refine pw_icmpN_ge _ _ (tgt := 118) dX10_reach_43 (by decide) (rfl) (rfl) (by omega) (by omega) (fun h43 => absurd h43 (by omega)) (fun h43 => ?_)
    refine pw_bipush (v := nI 63) dX10_reach_46 (by decide) ?_
    refine pw_istore_n (lv' := [(3, _), (2, _), (0, _), (1, _)]) dX10_reach_48 (by decide) rfl ?_
    refine pm_lvs (lv' := [(3, .int (nI 63)), (2, _), (0, _), (1, _)]) rfl ?_
    refine r_rc1E hG hP hd hs hM (Ia := I) (fun I2 g => ?_) 63 I (by decide) ⟨h.1, fun _ z => z, fun p h1 h2 => absurd h2 (by omega), fun _ _ z => z⟩
    refine pw_sub [1, 2, 3] rfl ?_
    refine pw_iinc (lv' := [(2, _), (0, _), (1, _)]) dX10_reach_112 rfl (by decide) rfl ?_
    refine pw_goto (tgt := 40) dX10_reach_115 (by decide) ?_
    refine pm_lvs (lv' := [(2, .int (nI (k + 1))), (0, _), (1, _)]) (by rw [show nI k + Int32.ofInt 1 = nI (k + 1) from nI_add k 1]) ?_
    exact r_rc2E hG hP hd hs hM kx q (k + 1) I2 (by omega) (h.next hM g)
set_option maxRecDepth 20000 in
set_option maxHeartbeats 400000 in
theorem r_reachE {l : Launch} {E : pmE} {d : Nat} {S : pmS} {I : pmI} {J : pmJ} {P : pmP} {Q : Option Value → pmS → pmI → pmJ → pmP → Prop} (hG : sh_St S) (hP : gr_St P) (hd : 2 ≤ d) {s N : Nat} {M : Nat → Prop} (hs : s ≤ 39) (hM : hME I s M) (hN : I 60 s = nI N) (hMN : M N) (k : ∀ I', mkE I s M I' → I' 94 (N - 64 * s) ≠ nI 0 → clE I s M I' → Q none S I' J P) : pm_Met l E yX10_reach cX10_reach 5 none d 0 0 [.ref 47, .int (nI s)] S I J P Q := by
  unfold pm_Met
  have hN1 := (hM N hMN).1
  refine pm_lvs (lv' := [(0, _), (1, _)]) rfl ?_
  refine pw_iconst (v := nI 0) dX10_reach_0 (by decide) ?_
  refine pw_istore_n (lv' := [(2, _), (0, _), (1, _)]) dX10_reach_1 (by decide) rfl ?_
  refine pm_lvs (lv' := [(2, .int (nI 0)), (0, _), (1, _)]) rfl ?_
  refine r_rc0 hG hP (I1 := I) (fun I1 h1 => ?_) 64 0 I rfl (fun _ _ => rfl) (fun j hj => absurd hj (by omega))
  refine pw_aload_n dX10_reach_21 rfl ?_
  refine pw_getR fX10_150 dX10_reach_22 (sh_lt hG (by decide)) (sh_tg hG 45 rfl) rfl (gr_at hP 86 rfl) ?_
  refine pw_aload_n dX10_reach_25 rfl ?_
  refine pw_getR fX10_47 dX10_reach_26 (sh_lt hG (by decide)) (sh_tg hG 45 rfl) rfl (gr_at hP 52 rfl) ?_
  refine pw_iload_n dX10_reach_29 rfl ?_
  refine pw_ialdN s dX10_reach_30 (sh_lt hG (by decide)) (sh_sh hG 58 rfl) (by decide) (rfl) (by omega) ?_
  refine pw_bipush (v := nI 64) dX10_reach_31 (by decide) ?_
  refine pw_iload_n dX10_reach_33 rfl ?_
  refine pw_imul dX10_reach_34 ?_
  refine pw_isub dX10_reach_35 ?_
  refine pw_ti (z := nI (N - 64 * s)) (by rw [h1.1 60 (by decide), hN, show nI 64 * nI s = nI (64 * s) from (Int32.ofNat_mul 64 _).symm, show nI N = nI (N - 64 * s) + nI (64 * s) by rw [nI_add, show N - 64 * s + 64 * s = N by omega], Int32.add_sub_cancel]) ?_
  refine pw_iconst (v := nI 1) dX10_reach_36 (by decide) ?_
  refine pw_zastN (N - 64 * s) dX10_reach_37 (by decide) (sh_lt hG (by decide)) (sh_sh hG 92 rfl) (by decide) (rfl) (by omega) (by decide) ?_
  refine pw_iconst (v := nI 0) dX10_reach_38 (by decide) ?_
  refine pw_istore_n (lv' := [(2, _), (0, _), (1, _)]) dX10_reach_39 (by decide) rfl ?_
  have h0 : mkE I s M I1 := ⟨h1.1, fun j hj => (h1.2 j hj).imp id (fun q => absurd q (Nat.not_lt_zero _))⟩
  have g := mks.yes hM (by omega) h0 hMN
  have gr : pm_u I1 94 (N - 64 * s) (nI 1) 94 (N - 64 * s) ≠ nI 0 := g.2.2.1 N hMN rfl
  refine pm_lvs (lv' := [(2, .int (nI 0)), (0, _), (1, _)]) rfl ?_
  exact r_rc2E (r := N - 64 * s) hG hP (by omega) hs hM k 64 0 _ rfl ⟨g.1, gr, Or.inr (Nat.le_of_lt_succ (um_lt0 (f := pm_u I1 94 (N - 64 * s) (nI 1) 94) gr 64 (by omega)))⟩
