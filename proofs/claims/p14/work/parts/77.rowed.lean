section LRS
variable (l : Launch) (E : pmE) (d : Nat) (Q : Option Value → pmS → pmI → pmJ → pmP → Prop) (S : pmS) (P : pmP) (I0 : pmI) (J0 : pmJ) (A : aS)
/-- the head of workOut's loop -/
def LR (I : pmI) (J : pmJ) : Prop := pm_W l E yX10_workOut cX10_workOut 2 none d 0 0 48 [(0, .ref 47)] [] S I J P (pm_N E Q)
/-- behind begins(), goesOn(), calls() -/
def RQ (pc N : Nat) (v : Option Value) (S' : pmS) (I : pmI) (J : pmJ) (P' : pmP) : Prop := pm_W l E yX10_workOut cX10_workOut 2 none d 0 0 pc [(1, .int (nI N)), (0, .ref 47)] (pm_ps v []) S' I J P' (pm_N E Q)
def CQ (N : Nat) (x2 x3 : Int32) (v : Option Value) (S' : pmS) (I : pmI) (J : pmJ) (P' : pmP) : Prop := pm_W l E yX10_goesOn cX10_goesOn 4 none (d - 1) 0 0 57 [(3, .int x3), (2, .int x2), (0, .ref 47), (1, .int (nI N))] (pm_ps v []) S' I J P' (pm_N E (RQ l E d Q 101 N))
/-- an EXPR is worked out as the spec says -/
def rE (dp : Nat) (T : eX) : Prop := ∀ (pa : List Int64) (ar : List vV) (cx : List (Nat × List vV)) (I : pmI) (J : pmJ) (fr : List (Nat × Nat)) (hv : List vV) (s : Nat) (t : List tH) (N lo hi : Nat), rS I0 J0 A I J (fr ++ [(N, 0)]) hv cx s t → cx.length = dp → rctx A cx pa ar → (∀ v ∈ ar, vO t.length v) → tO A t → A.th.length ≤ t.length → fr.length ≤ s → hv.length ≤ s → t.length ≤ 15600 + s → ny I0 J0 (crN A.ns J0) lo hi T N → hi ≤ 2624 → wt pa (· ∈ A.ns) T →
  (∀ (v : vV) (s' : Nat) (t' : List tH) (I' : pmI) (J' : pmJ), evT A (evC A (20 - dp)) dp ar T s t = .ok (v, s', t') → rS I0 J0 A I' J' fr (hv ++ [v]) cx s' t' → tO A t' → vO t'.length v → s + 1 ≤ s' ∧ s' ≤ 400 → t.length ≤ t'.length ∧ t'.length + s ≤ t.length + s' → LR l E d Q S P I' J') →
  (∀ (e : Nat) (I' : pmI) (J' : pmJ), evT A (evC A (20 - dp)) dp ar T s t = .error e → rX I0 J0 A I' J' e → LR l E d Q S P I' J') → LR l E d Q S P I J
end LRS
set_option maxRecDepth 20000 in
set_option maxHeartbeats 4000000 in
theorem RQ_of {l : Launch} {E : pmE} {d : Nat} {Q : Option Value → pmS → pmI → pmJ → pmP → Prop} {S : pmS} {P : pmP} {I : pmI} {J : pmJ} {N pc : Nat} (hpc : pc = 93 ∨ pc = 101) (k : LR l E d Q S P I J) : RQ l E d Q pc N none S I J P := by
  unfold LR at k
  rcases hpc with rfl | rfl
  · show pm_W l E yX10_workOut cX10_workOut 2 none d 0 0 93 [(1, .int (nI N)), (0, .ref 47)] [] S I J P (pm_N E Q)
    refine pw_goto (tgt := 101) dX10_workOut_93 (by decide) ?_
    refine pw_goto (tgt := 48) dX10_workOut_101 (by decide) ?_
    refine pw_sub [1] rfl ?_
    exact k
  · show pm_W l E yX10_workOut cX10_workOut 2 none d 0 0 101 [(1, .int (nI N)), (0, .ref 47)] [] S I J P (pm_N E Q)
    refine pw_goto (tgt := 48) dX10_workOut_101 (by decide) ?_
    refine pw_sub [1] rfl ?_
    exact k
set_option maxRecDepth 20000 in
set_option maxHeartbeats 4000000 in
theorem LR_b {l : Launch} {E : pmE} {d : Nat} {Q : Option Value → pmS → pmI → pmJ → pmP → Prop} {S : pmS} {P : pmP} {I : pmI} {J : pmJ} {I0 : pmI} {J0 : pmJ} {A : aS} {fr : List (Nat × Nat)} {hv : List vV} {cx : List (Nat × List vV)} {s : Nat} {t : List tH} {N : Nat} (hG : sh_St S) (hP : gr_St P) (hd : 2 ≤ d) (h : rS I0 J0 A I J (fr ++ [(N, 0)]) hv cx s t) (k : pm_Met l E yX10_begins cX10_begins 4 none (d - 1) 0 0 [.ref 47, .int (nI N)] S I J P (RQ l E d Q 93 N)) : LR l E d Q S P I J := by
  unfold LR
  have hfl0 := h.fl
  have htp := h.top.2.2.2
  have hrn : I 47 59 = nI (fr.length + 1) := by rw [h.rn, List.length_append]; rfl
  refine pw_aload_n dX10_workOut_48 rfl ?_
  refine pw_getI fX10_282 dX10_workOut_49 (sh_lt hG (by decide)) (sh_tg hG 45 rfl) rfl ?_
  refine pw_ifN_le _ (tgt := 104) dX10_workOut_52 (by decide) (hrn) (by omega) (fun h52 => absurd h52 (by omega)) (fun h52 => ?_)
  refine pw_aload_n dX10_workOut_55 rfl ?_
  refine pw_getI fX10_285 dX10_workOut_56 (sh_lt hG (by decide)) (sh_tg hG 45 rfl) rfl ?_
  refine pw_if_ne (tgt := 104) dX10_workOut_59 (by decide) (fun h => absurd (by rw [hfl0]; decide) h) (fun h59 => ?_)
  refine pw_aload_n dX10_workOut_62 rfl ?_
  refine pw_getR fX10_138 dX10_workOut_63 (sh_lt hG (by decide)) (sh_tg hG 45 rfl) rfl (gr_at hP 82 rfl) ?_
  refine pw_aload_n dX10_workOut_66 rfl ?_
  refine pw_getI fX10_282 dX10_workOut_67 (sh_lt hG (by decide)) (sh_tg hG 45 rfl) rfl ?_
  refine pw_iconst (v := nI 1) dX10_workOut_70 (by decide) ?_
  refine pw_isub dX10_workOut_71 ?_
  refine pw_ti (z := nI fr.length) h.top.1 ?_
  refine pw_ialdN fr.length dX10_workOut_72 (sh_lt hG (by decide)) (sh_sh hG 88 rfl) (by decide) (rfl) (by omega) ?_
  refine pw_ti (z := nI N) h.top.2.1 ?_
  refine pw_istore_n (lv' := [(1, _), (0, _)]) dX10_workOut_73 (by decide) rfl ?_
  refine pw_aload_n dX10_workOut_74 rfl ?_
  refine pw_getR fX10_141 dX10_workOut_75 (sh_lt hG (by decide)) (sh_tg hG 45 rfl) rfl (gr_at hP 83 rfl) ?_
  refine pw_aload_n dX10_workOut_78 rfl ?_
  refine pw_getI fX10_282 dX10_workOut_79 (sh_lt hG (by decide)) (sh_tg hG 45 rfl) rfl ?_
  refine pw_iconst (v := nI 1) dX10_workOut_82 (by decide) ?_
  refine pw_isub dX10_workOut_83 ?_
  refine pw_ti (z := nI fr.length) h.top.1 ?_
  refine pw_ialdN fr.length dX10_workOut_84 (sh_lt hG (by decide)) (sh_sh hG 89 rfl) (by decide) (rfl) (by omega) ?_
  refine pw_ti (z := nI 0) h.top.2.2.1 ?_
  refine pw_ifN_ne _ (tgt := 96) dX10_workOut_85 (by decide) (rfl) (by omega) (fun h85 => absurd h85 (by omega)) (fun h85 => ?_)
  refine pw_aload_n dX10_workOut_88 rfl ?_
  refine pw_iload_n dX10_workOut_89 rfl ?_
  refine pw_callV (as := [_]) (kc' := 0) (ks' := 0) lX10_336 dX10_workOut_90 rfl rfl (sh_lt hG (by decide)) (sh_tg hG 45 rfl) (Nat.le_of_ble_eq_true rfl) (by omega) (Nat.le_of_ble_eq_true rfl) (Nat.zero_le _) (Nat.zero_le _) ?_
  exact k
set_option maxRecDepth 20000 in
set_option maxHeartbeats 4000000 in
theorem LR_g {l : Launch} {E : pmE} {d : Nat} {Q : Option Value → pmS → pmI → pmJ → pmP → Prop} {S : pmS} {P : pmP} {I : pmI} {J : pmJ} {I0 : pmI} {J0 : pmJ} {A : aS} {fr : List (Nat × Nat)} {hv : List vV} {cx : List (Nat × List vV)} {s : Nat} {t : List tH} {N f : Nat} (hG : sh_St S) (hP : gr_St P) (hd : 2 ≤ d) (h : rS I0 J0 A I J (fr ++ [(N, f)]) hv cx s t) (hf : 1 ≤ f ∧ f ≤ 9) (k : pm_Met l E yX10_goesOn cX10_goesOn 4 none (d - 1) 0 0 [.ref 47, .int (nI N)] S I J P (RQ l E d Q 101 N)) : LR l E d Q S P I J := by
  unfold LR
  have hfl0 := h.fl
  have htp := h.top.2.2.2
  have hrn : I 47 59 = nI (fr.length + 1) := by rw [h.rn, List.length_append]; rfl
  refine pw_aload_n dX10_workOut_48 rfl ?_
  refine pw_getI fX10_282 dX10_workOut_49 (sh_lt hG (by decide)) (sh_tg hG 45 rfl) rfl ?_
  refine pw_ifN_le _ (tgt := 104) dX10_workOut_52 (by decide) (hrn) (by omega) (fun h52 => absurd h52 (by omega)) (fun h52 => ?_)
  refine pw_aload_n dX10_workOut_55 rfl ?_
  refine pw_getI fX10_285 dX10_workOut_56 (sh_lt hG (by decide)) (sh_tg hG 45 rfl) rfl ?_
  refine pw_if_ne (tgt := 104) dX10_workOut_59 (by decide) (fun h => absurd (by rw [hfl0]; decide) h) (fun h59 => ?_)
  refine pw_aload_n dX10_workOut_62 rfl ?_
  refine pw_getR fX10_138 dX10_workOut_63 (sh_lt hG (by decide)) (sh_tg hG 45 rfl) rfl (gr_at hP 82 rfl) ?_
  refine pw_aload_n dX10_workOut_66 rfl ?_
  refine pw_getI fX10_282 dX10_workOut_67 (sh_lt hG (by decide)) (sh_tg hG 45 rfl) rfl ?_
  refine pw_iconst (v := nI 1) dX10_workOut_70 (by decide) ?_
  refine pw_isub dX10_workOut_71 ?_
  refine pw_ti (z := nI fr.length) h.top.1 ?_
  refine pw_ialdN fr.length dX10_workOut_72 (sh_lt hG (by decide)) (sh_sh hG 88 rfl) (by decide) (rfl) (by omega) ?_
  refine pw_ti (z := nI N) h.top.2.1 ?_
  refine pw_istore_n (lv' := [(1, _), (0, _)]) dX10_workOut_73 (by decide) rfl ?_
  refine pw_aload_n dX10_workOut_74 rfl ?_
  refine pw_getR fX10_141 dX10_workOut_75 (sh_lt hG (by decide)) (sh_tg hG 45 rfl) rfl (gr_at hP 83 rfl) ?_
  refine pw_aload_n dX10_workOut_78 rfl ?_
  refine pw_getI fX10_282 dX10_workOut_79 (sh_lt hG (by decide)) (sh_tg hG 45 rfl) rfl ?_
  refine pw_iconst (v := nI 1) dX10_workOut_82 (by decide) ?_
  refine pw_isub dX10_workOut_83 ?_
  refine pw_ti (z := nI fr.length) h.top.1 ?_
  refine pw_ialdN fr.length dX10_workOut_84 (sh_lt hG (by decide)) (sh_sh hG 89 rfl) (by decide) (rfl) (by omega) ?_
  refine pw_ti (z := nI f) h.top.2.2.1 ?_
  refine pw_ifN_ne _ (tgt := 96) dX10_workOut_85 (by decide) (rfl) (by omega) (fun h85 => ?_) (fun h85 => absurd h85 (by omega))
  refine pw_aload_n dX10_workOut_96 rfl ?_
  refine pw_iload_n dX10_workOut_97 rfl ?_
  refine pw_callV (as := [_]) (kc' := 0) (ks' := 0) lX10_339 dX10_workOut_98 rfl rfl (sh_lt hG (by decide)) (sh_tg hG 45 rfl) (Nat.le_of_ble_eq_true rfl) (by omega) (Nat.le_of_ble_eq_true rfl) (Nat.zero_le _) (Nat.zero_le _) ?_
  exact k
set_option maxRecDepth 20000 in
set_option maxHeartbeats 4000000 in
theorem CQ_of {l : Launch} {E : pmE} {d : Nat} {Q : Option Value → pmS → pmI → pmJ → pmP → Prop} {S : pmS} {P : pmP} {I : pmI} {J : pmJ} {N : Nat} {x2 x3 : Int32} (k : LR l E d Q S P I J) : CQ l E d Q N x2 x3 none S I J P := by
  show pm_W l E yX10_goesOn cX10_goesOn 4 none (d - 1) 0 0 57 [(3, .int x3), (2, .int x2), (0, .ref 47), (1, .int (nI N))] [] S I J P (pm_N E (RQ l E d Q 101 N))
  refine pw_goto (tgt := 255) dX10_goesOn_57 (by decide) ?_
  exact pw_vret dX10_goesOn_255 rfl (RQ_of (Or.inr rfl) k)
set_option maxRecDepth 20000 in
set_option maxHeartbeats 4000000 in
theorem LR_c {l : Launch} {E : pmE} {d : Nat} {Q : Option Value → pmS → pmI → pmJ → pmP → Prop} {S : pmS} {P : pmP} {I : pmI} {J : pmJ} {I0 : pmI} {J0 : pmJ} {A : aS} {fr : List (Nat × Nat)} {hv : List vV} {cx : List (Nat × List vV)} {s : Nat} {t : List tH} {N : Nat} {f : Nat} (hG : sh_St S) (hP : gr_St P) (hd : 3 ≤ d) (h : rS I0 J0 A I J (fr ++ [(N, f + 1)]) hv cx s t) (hf : f ≤ 8) (hNb : N < 2624) (hk : I0 63 N = nI 3) (k : ∀ x2 x3, pm_Met l E yX10_calls cX10_calls 6 none (d - 1 - 1) 0 0 [.ref 47, .int (nI N)] S I J P (CQ l E d Q N x2 x3)) : LR l E d Q S P I J := by
  refine LR_g hG hP (by omega) h (by omega) ?_
  unfold pm_Met
  have htp := h.top.2.2.2
  refine pm_lvs (lv' := [(0, _), (1, _)]) rfl ?_
  refine pw_aload_n dX10_goesOn_0 rfl ?_
  refine pw_getI fX10_282 dX10_goesOn_1 (sh_lt hG (by decide)) (sh_tg hG 45 rfl) rfl ?_
  refine pw_iconst (v := nI 1) dX10_goesOn_4 (by decide) ?_
  refine pw_isub dX10_goesOn_5 ?_
  refine pw_ti (z := nI fr.length) h.top.1 ?_
  refine pw_istore_n (lv' := [(2, _), (0, _), (1, _)]) dX10_goesOn_6 (by decide) rfl ?_
  refine pw_aload_n dX10_goesOn_7 rfl ?_
  refine pw_getI fX10_279 dX10_goesOn_8 (sh_lt hG (by decide)) (sh_tg hG 45 rfl) rfl ?_
  refine pw_iconst (v := nI 1) dX10_goesOn_11 (by decide) ?_
  refine pw_isub dX10_goesOn_12 ?_
  refine pw_istore_n (lv' := [(3, _), (2, _), (0, _), (1, _)]) dX10_goesOn_13 (by decide) rfl ?_
  refine pw_aload_n dX10_goesOn_14 rfl ?_
  refine pw_getR fX10_56 dX10_goesOn_15 (sh_lt hG (by decide)) (sh_tg hG 45 rfl) rfl (gr_at hP 55 rfl) ?_
  refine pw_iload_n dX10_goesOn_18 rfl ?_
  refine pw_ialdN N dX10_goesOn_19 (sh_lt hG (by decide)) (sh_sh hG 61 rfl) (by decide) (rfl) (by omega) ?_
  refine pw_ti (z := nI 3) (h.nod hk (by decide) (by decide)) ?_
  refine pw_tableIn (off := 32) (tgt := 52) dX10_goesOn_20 (by decide) (by decide) (by decide) (by decide) ?_
  refine pw_aload_n dX10_goesOn_52 rfl ?_
  refine pw_iload_n dX10_goesOn_53 rfl ?_
  refine pw_callV (as := [_]) (kc' := 0) (ks' := 0) lX10_327 dX10_goesOn_54 rfl rfl (sh_lt hG (by decide)) (sh_tg hG 45 rfl) (Nat.le_of_ble_eq_true rfl) (by omega) (Nat.le_of_ble_eq_true rfl) (Nat.zero_le _) (Nat.zero_le _) ?_
  exact k _ _
theorem ny2 {I : pmI} {J : pmJ} {cr : Nat → Int64 → Prop} {lo hi N : Nat} {q : Nat × Int64} {u : Unit} {a : eX} (h : ny I J cr lo hi (.inner 2 q u a .leaf) N) : (lo ≤ N ∧ N < hi) ∧ I 63 N = nI 0 ∧ J 70 N = q.2 := by
  obtain ⟨hb, h⟩ := h
  refine ⟨hb, ?_⟩
  rcases h with ⟨e, h⟩ | ⟨e, h⟩ | ⟨e, h⟩ | ⟨e, h⟩ | ⟨e, h⟩
  · exact h
  · exact absurd e (by decide)
  · exact absurd e (by decide)
  · exact absurd e (by decide)
  · exact absurd e (by decide)
theorem ny3 {I : pmI} {J : pmJ} {cr : Nat → Int64 → Prop} {lo hi N : Nat} {q : Nat × Int64} {u : Unit} {a : eX} (h : ny I J cr lo hi (.inner 3 q u a .leaf) N) : (lo ≤ N ∧ N < hi) ∧ I 63 N = nI 1 ∧ (J 70 N).toInt32 = q.2.toInt32 := by
  obtain ⟨hb, h⟩ := h
  refine ⟨hb, ?_⟩
  rcases h with ⟨e, h⟩ | ⟨e, h⟩ | ⟨e, h⟩ | ⟨e, h⟩ | ⟨e, h⟩
  · exact absurd e (by decide)
  · exact h
  · exact absurd e (by decide)
  · exact absurd e (by decide)
  · exact absurd e (by decide)
theorem ny4 {I : pmI} {J : pmJ} {cr : Nat → Int64 → Prop} {lo hi N : Nat} {q : Nat × Int64} {u : Unit} {a : eX} (h : ny I J cr lo hi (.inner 4 q u a .leaf) N) : (lo ≤ N ∧ N < hi) ∧ I 63 N = nI 2 ∧ cr N q.2 := by
  obtain ⟨hb, h⟩ := h
  refine ⟨hb, ?_⟩
  rcases h with ⟨e, h⟩ | ⟨e, h⟩ | ⟨e, h⟩ | ⟨e, h⟩ | ⟨e, h⟩
  · exact absurd e (by decide)
  · exact absurd e (by decide)
  · exact h
  · exact absurd e (by decide)
  · exact absurd e (by decide)
theorem ny5 {I : pmI} {J : pmJ} {cr : Nat → Int64 → Prop} {lo hi N : Nat} {q : Nat × Int64} {u : Unit} {a : eX} (h : ny I J cr lo hi (.inner 5 q u a .leaf) N) : (lo ≤ N ∧ N < hi) ∧ I 63 N = nI 2 ∧ cr N q.2 := by
  obtain ⟨hb, h⟩ := h
  refine ⟨hb, ?_⟩
  rcases h with ⟨e, h⟩ | ⟨e, h⟩ | ⟨e, h⟩ | ⟨e, h⟩ | ⟨e, h⟩
  · exact absurd e (by decide)
  · exact absurd e (by decide)
  · exact h
  · exact absurd e (by decide)
  · exact absurd e (by decide)
theorem ny7 {I : pmI} {J : pmJ} {cr : Nat → Int64 → Prop} {lo hi N : Nat} {q : Nat × Int64} {u : Unit} {a : eX} (h : ny I J cr lo hi (.inner 7 q u a .leaf) N) : (lo ≤ N ∧ N < hi) ∧ I 63 N = nI 4 ∧ ∃ c, I 64 N = nI c ∧ ny I J cr lo hi a c := by
  obtain ⟨hb, h⟩ := h
  refine ⟨hb, ?_⟩
  rcases h with ⟨e, h⟩ | ⟨e, h⟩ | ⟨e, h⟩ | ⟨e, h⟩ | ⟨e, h⟩
  · exact absurd e (by decide)
  · exact absurd e (by decide)
  · exact absurd e (by decide)
  · exact h
  · exact absurd e (by decide)
theorem ny8 {I : pmI} {J : pmJ} {cr : Nat → Int64 → Prop} {lo hi N : Nat} {q : Nat × Int64} {u : Unit} {a : eX} (h : ny I J cr lo hi (.inner 8 q u a .leaf) N) : (lo ≤ N ∧ N < hi) ∧ I 63 N = nI 5 ∧ cr N q.2 ∧ ∃ c, I 64 N = nI c ∧ ny I J cr lo hi a c := by
  obtain ⟨hb, h⟩ := h
  refine ⟨hb, ?_⟩
  rcases h with ⟨e, h⟩ | ⟨e, h⟩ | ⟨e, h⟩ | ⟨e, h⟩ | ⟨e, h⟩
  · exact absurd e (by decide)
  · exact absurd e (by decide)
  · exact absurd e (by decide)
  · exact absurd e (by decide)
  · exact h
theorem ny6 {I : pmI} {J : pmJ} {cr : Nat → Int64 → Prop} {lo hi N : Nat} {k2 : Nat} {q q2 : Nat × Int64} {u u2 : Unit} {a b c : eX} (h : ny I J cr lo hi (.inner 6 q u a (.inner k2 q2 u2 b c)) N) : (lo ≤ N ∧ N < hi) ∧ I 63 N = nI 3 ∧ cr N q.2 ∧ I 69 N = nI q.1 ∧ (1 ≤ q.1 → ∃ c1, I 64 N = nI c1 ∧ ny I J cr lo hi a c1) ∧ (2 ≤ q.1 → ∃ c2, I 65 N = nI c2 ∧ ny I J cr lo hi b c2) ∧ (3 ≤ q.1 → ∃ c3, I 66 N = nI c3 ∧ ny I J cr lo hi c c3) := by
  obtain ⟨hb, h⟩ := h
  refine ⟨hb, ?_⟩
  rcases h with ⟨e, h⟩ | ⟨e, h⟩ | ⟨e, h⟩
  · exact h
  · exact absurd e (by decide)
  · exact absurd e (by decide)
theorem ny9 {I : pmI} {J : pmJ} {cr : Nat → Int64 → Prop} {lo hi N : Nat} {k2 : Nat} {q q2 : Nat × Int64} {u u2 : Unit} {a b c : eX} (h : ny I J cr lo hi (.inner 9 q u a (.inner k2 q2 u2 b c)) N) : (lo ≤ N ∧ N < hi) ∧ I 63 N = nI 6 ∧ J 70 N = (nI q.1).toInt64 ∧ (∃ c1, I 64 N = nI c1 ∧ ny I J cr lo hi a c1) ∧ ∃ c2, I 65 N = nI c2 ∧ ny I J cr lo hi b c2 := by
  obtain ⟨hb, h⟩ := h
  refine ⟨hb, ?_⟩
  rcases h with ⟨e, h⟩ | ⟨e, h⟩ | ⟨e, h⟩
  · exact absurd e (by decide)
  · exact h
  · exact absurd e (by decide)
theorem ny10 {I : pmI} {J : pmJ} {cr : Nat → Int64 → Prop} {lo hi N : Nat} {k2 : Nat} {q q2 : Nat × Int64} {u u2 : Unit} {a b c : eX} (h : ny I J cr lo hi (.inner 10 q u a (.inner k2 q2 u2 b c)) N) : (lo ≤ N ∧ N < hi) ∧ I 63 N = nI 7 ∧ (∃ c1, I 64 N = nI c1 ∧ ny I J cr lo hi a c1) ∧ (∃ c2, I 65 N = nI c2 ∧ ny I J cr lo hi b c2) ∧ ∃ c3, I 66 N = nI c3 ∧ ny I J cr lo hi c c3 := by
  obtain ⟨hb, h⟩ := h
  refine ⟨hb, ?_⟩
  rcases h with ⟨e, h⟩ | ⟨e, h⟩ | ⟨e, h⟩
  · exact absurd e (by decide)
  · exact absurd e (by decide)
  · exact h
