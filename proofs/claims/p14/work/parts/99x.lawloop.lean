set_option maxRecDepth 20000 in
set_option maxHeartbeats 400000 in
theorem lw_switch {l : Launch} {E : pmE} {d : Nat} {S : pmS} {I : pmI} {J : pmJ} {P : pmP} {Q : Option Value → pmS → pmI → pmJ → pmP → Prop} {A : aS} {Z : Nat → Nat} {b m n L i kc ks : Nat} {tx : Nat → Nat} {xs : Nat → Int32} (hl : l.stackTraces = false) (hX : pm_X E L xs) (hL : L ≤ 1536) (hd : 200 ≤ d) (hi3 : i + 3 ≤ L) (hs : LI S I J P A Z b m tx n) (hg : gT A) (kx : ∀ S I J P A Z b m tx n, LI S I J P A Z b m tx n → gT A → pm_W l E yL_law cL_law 8 (some .boolean) d (kc + (32000 - m)) (ks + 18 * (32000 - m)) 655 [(4, .int (nI i)), (3, .ref 95), (2, .ref 47), (1, .ref 2), (0, .ref 0)] [] S I J P (pm_N E Q)) : ∀ j, j < 32 → pm_W l E yL_law cL_law 8 (some .boolean) d (kc + (32000 - m) + 8) (ks + 18 * (32000 - m) + 620) 39 [(4, .int (nI i)), (3, .ref 95), (2, .ref 47), (1, .ref 2), (0, .ref 0)] [.int (nI j)] S I J P (pm_N E Q)
  | 0, _ => pw_tableIn (off := 81) (tgt := 120) dL_law_39 (by decide) (by decide) (by decide) (by decide) (lw_c0 hl hX hL hd hi3 hs hg kx)
  | 1, _ => pw_tableIn (off := 138) (tgt := 177) dL_law_39 (by decide) (by decide) (by decide) (by decide) (lw_c1 hl hX hL hd hi3 hs hg kx)
  | 2, _ => pw_tableIn (off := 151) (tgt := 190) dL_law_39 (by decide) (by decide) (by decide) (by decide) (lw_c2 hl hX hL hd hi3 hs hg kx)
  | 3, _ => pw_tableIn (off := 176) (tgt := 215) dL_law_39 (by decide) (by decide) (by decide) (by decide) (lw_c3 hl hX hL hd hi3 hs hg kx)
  | 4, _ => pw_tableIn (off := 201) (tgt := 240) dL_law_39 (by decide) (by decide) (by decide) (by decide) (lw_c4 hl hX hL hd hi3 hs hg kx)
  | 5, _ => pw_tableIn (off := 229) (tgt := 268) dL_law_39 (by decide) (by decide) (by decide) (by decide) (lw_c5 hl hX hL hd hi3 hs hg kx)
  | 6, _ => pw_tableIn (off := 266) (tgt := 305) dL_law_39 (by decide) (by decide) (by decide) (by decide) (lw_c6 hl hX hL hd hi3 hs hg kx)
  | 7, _ => pw_tableIn (off := 323) (tgt := 362) dL_law_39 (by decide) (by decide) (by decide) (by decide) (lw_c7 hl hX hL hd hi3 hs hg kx)
  | 8, _ => pw_tableIn (off := 360) (tgt := 399) dL_law_39 (by decide) (by decide) (by decide) (by decide) (lw_c8 hl hX hL hd hi3 hs hg kx)
  | 9, _ => pw_tableIn (off := 385) (tgt := 424) dL_law_39 (by decide) (by decide) (by decide) (by decide) (lw_c9 hl hX hL hd hi3 hs hg kx)
  | 10, _ => pw_tableIn (off := 410) (tgt := 449) dL_law_39 (by decide) (by decide) (by decide) (by decide) (lw_c10 hl hX hL hd hi3 hs hg kx)
  | 11, _ => pw_tableIn (off := 435) (tgt := 474) dL_law_39 (by decide) (by decide) (by decide) (by decide) (lw_c11 hl hX hL hd hi3 hs hg kx)
  | 12, _ => pw_tableIn (off := 460) (tgt := 499) dL_law_39 (by decide) (by decide) (by decide) (by decide) (lw_c12 hl hX hL hd hi3 hs hg kx)
  | 13, _ => pw_tableIn (off := 528) (tgt := 567) dL_law_39 (by decide) (by decide) (by decide) (by decide) (lw_c13 hl hX hL hd hi3 hs hg kx)
  | 14, _ => pw_tableIn (off := 565) (tgt := 604) dL_law_39 (by decide) (by decide) (by decide) (by decide) (lw_c14 hl hX hL hd hi3 hs hg kx)
  | 15, _ => pw_tableIn (off := 590) (tgt := 629) dL_law_39 (by decide) (by decide) (by decide) (by decide) (lw_c15 hl hX hL hd hi3 hs hg kx)
  | 16, _ => pw_tableIn (off := 603) (tgt := 642) dL_law_39 (by decide) (by decide) (by decide) (by decide) (lw_c16 hl hX hL hd hi3 hs hg kx)
  | j + 17, h => pw_tableOut (tgt := 655) dL_law_39 (Or.inr (by rw [nI_toInt (by omega)]; omega)) (by decide) (pm_Wk (Nat.le_refl _) (by omega) (by omega) (kx _ _ _ _ _ _ _ m _ _ hs hg))
set_option maxRecDepth 20000 in
set_option maxHeartbeats 400000 in
theorem lw_exit {S : pmS} {I : pmI} {J : pmJ} {P : pmP} {kc ks i : Nat} {l : Launch} {E : pmE} {d : Nat} {Q : Option Value → pmS → pmI → pmJ → pmP → Prop} {L : Nat} {xs : Nat → Int32} (hX : pm_X E L xs) (hL : L ≤ 1536) (hi : i ≤ 1600) (h3 : L < i + 3) (k : ∀ S I J P, Q (some (.int (nI 1))) S I J P) : pm_W l E yL_law cL_law 8 (some .boolean) d (kc) (ks) 23 [(4, .int (nI i)), (3, .ref 95), (2, .ref 47), (1, .ref 2), (0, .ref 0)] [] S I J P (pm_N E Q) := by
  refine pw_iload dL_law_23 rfl ?_
  refine pw_aload_n dL_law_25 rfl ?_
  refine pw_slen hX dL_law_26 ?_
  refine pw_iconst (v := nI 3) dL_law_27 (by decide) ?_
  refine pw_isub dL_law_28 ?_
  refine pw_icmp_gt (tgt := 661) dL_law_29 (by decide) (fun h29 => ?_) (fun h => absurd ((lw_cmp hL hi).mpr h3) h)
  refine pw_iconst (v := nI 1) dL_law_661 (by decide) ?_
  exact pw_zret dL_law_662 rfl (by decide) (k _ _ _ _)
set_option maxRecDepth 20000 in
set_option maxHeartbeats 400000 in
theorem lw_loop {l : Launch} {E : pmE} {d : Nat} {Q : Option Value → pmS → pmI → pmJ → pmP → Prop} {L : Nat} {xs : Nat → Int32} (hl : l.stackTraces = false) (hX : pm_X E L xs) (hL : L ≤ 1536) (hd : 200 ≤ d) (k : ∀ S I J P, Q (some (.int (nI 1))) S I J P) : ∀ (r i : Nat) (S : pmS) (I : pmI) (J : pmJ) (P : pmP) (A : aS) (Z : Nat → Nat) (b m : Nat) (tx : Nat → Nat) (n : Nat), L < i + 3 * r + 3 → i ≤ 1600 → LI S I J P A Z b m tx n → gT A → pm_W l E yL_law cL_law 8 (some .boolean) d (8 * r + (32000 - m)) (620 * r + 18 * (32000 - m)) 23 [(4, .int (nI i)), (3, .ref 95), (2, .ref 47), (1, .ref 2), (0, .ref 0)] [] S I J P (pm_N E Q)
  | 0, i, S, I, J, P, A, Z, b, m, tx, n, hr, hi, hs, hg => lw_exit hX hL hi (by omega) k
  | r + 1, i, S, I, J, P, A, Z, b, m, tx, n, hr, hi, hs, hg => by
    rcases Nat.lt_or_ge L (i + 3) with h3 | h3
    · exact lw_exit hX hL hi h3 k
    have hG := hs.1
    refine pm_Wk (Nat.le_refl _) (show 8 * r + (32000 - m) + 8 ≤ _ by omega) (show 620 * r + 18 * (32000 - m) + 620 ≤ _ by omega) ?_
    refine pw_iload dL_law_23 rfl ?_
    refine pw_aload_n dL_law_25 rfl ?_
    refine pw_slen hX dL_law_26 ?_
    refine pw_iconst (v := nI 3) dL_law_27 (by decide) ?_
    refine pw_isub dL_law_28 ?_
    refine pw_icmp_gt (tgt := 661) dL_law_29 (by decide) (fun h => absurd h (fun h => absurd ((lw_cmp hL hi).mp h) (by omega))) (fun h29 => ?_)
    refine pw_aload_n dL_law_32 rfl ?_
    refine pw_iload dL_law_33 rfl ?_
    refine pw_sld i hX dL_law_35 (by omega) (rfl) (by omega) ?_
    refine pw_bipush (v := nI 31) dL_law_36 (by decide) ?_
    refine pw_iand dL_law_38 ?_
    obtain ⟨j, hj, e⟩ := lw_and31 (xs i)
    refine pw_ti (z := nI j) e ?_
    refine lw_switch hl hX hL hd h3 hs hg (fun S1 I1 J1 P1 A1 Z1 b1 m1 tx1 n1 hs1 hg1 => ?_) j hj
    refine pw_iinc (lv' := [(4, _), (3, _), (2, _), (1, _), (0, _)]) dL_law_655 rfl (by decide) rfl ?_
    refine pw_goto (tgt := 23) dL_law_658 (by decide) ?_
    refine pm_lvs (lv' := [(4, .int (nI (i + 3))), (3, _), (2, _), (1, _), (0, _)]) (by rw [show nI i + Int32.ofInt 3 = nI (i + 3) from nI_add i 3]) ?_
    exact lw_loop hl hX hL hd k r (i + 3) S1 I1 J1 P1 A1 Z1 b1 m1 tx1 n1 (by omega) (by omega) hs1 hg1
