/-- what is marked lies in the block of m nodes -/
def mkS (I1 : pmI) (m : Nat) (I : pmI) : Prop := (∀ a, a ≠ 94 → I a = I1 a) ∧ ∀ j, j < 64 → I 94 j = nI 0 ∨ j < m
theorem mkS.u {I1 I : pmI} {m j : Nat} {x : Int32} (h : mkS I1 m I) (hj : j < m) : mkS I1 m (pm_u I 94 j x) := ⟨fun a ha => by rw [pm_u_ne ha]; exact h.1 a ha, fun i hi => by
  by_cases e : i = j
  · exact Or.inr (by omega)
  · rw [pm_u_eq, pm_up_ne e]; exact h.2 i hi⟩
set_option maxRecDepth 20000 in
set_option maxHeartbeats 400000 in
theorem r_mark {l : Launch} {E : pmE} {d : Nat} {S : pmS} {I : pmI} {J : pmJ} {P : pmP} {Q : Option Value → pmS → pmI → pmJ → pmP → Prop} (hG : sh_St S) (hP : gr_St P) {I1 : pmI} {s m : Nat} {x : Int32} (hs : s ≤ 40) (hm : m ≤ 60) (h : mkS I1 m I) (hx : x = -5 ∨ ∃ c, 64 * s ≤ c ∧ c < 64 * s + m ∧ x = nI c) (k : ∀ I', mkS I1 m I' → Q none S I' J P) : pm_Met l E yX10_mark cX10_mark 3 none d 0 0 [.ref 47, .int (nI s), .int x] S I J P Q := by
  unfold pm_Met
  refine pm_lvs (lv' := [(0, _), (1, _), (2, _)]) rfl ?_
  rcases hx with rfl | ⟨c, c1, c2, rfl⟩
  · refine pw_iload_n dX10_mark_0 rfl ?_
    refine pw_bipush (v := -5) dX10_mark_1 (by decide) ?_
    refine pw_icmp_eq (tgt := 18) dX10_mark_3 (by decide) (fun h3 => ?_) (fun h => absurd (rfl) h)
    exact pw_vret dX10_mark_18 rfl (k _ h)
  · refine pw_iload_n dX10_mark_0 rfl ?_
    refine pw_bipush (v := -5) dX10_mark_1 (by decide) ?_
    refine pw_icmp_eq (tgt := 18) dX10_mark_3 (by decide) (fun h => absurd h (nI_n5 (by omega))) (fun h3 => ?_)
    refine pw_aload_n dX10_mark_6 rfl ?_
    refine pw_getR fX10_150 dX10_mark_7 (sh_lt hG (by decide)) (sh_tg hG 45 rfl) rfl (gr_at hP 86 rfl) ?_
    refine pw_iload_n dX10_mark_10 rfl ?_
    refine pw_bipush (v := nI 64) dX10_mark_11 (by decide) ?_
    refine pw_iload_n dX10_mark_13 rfl ?_
    refine pw_imul dX10_mark_14 ?_
    refine pw_isub dX10_mark_15 ?_
    refine pw_ti (z := nI (c - 64 * s)) (by rw [show nI 64 * nI s = nI (64 * s) from (Int32.ofNat_mul 64 _).symm, show nI c = nI (c - 64 * s) + nI (64 * s) by rw [nI_add, show c - 64 * s + 64 * s = c by omega], Int32.add_sub_cancel]) ?_
    refine pw_iconst (v := nI 1) dX10_mark_16 (by decide) ?_
    refine pw_zastN (c - 64 * s) dX10_mark_17 (by decide) (sh_lt hG (by decide)) (sh_sh hG 92 rfl) (by decide) (rfl) (by omega) (by decide) ?_
    exact pw_vret dX10_mark_18 rfl (k _ (h.u (by omega)))
