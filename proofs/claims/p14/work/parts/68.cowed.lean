/-- what comes of a part's outcome, for the room -/
def ebm (m0 : Nat) (r : evR) (f : vV → Nat → List tH → Nat) : Nat := match r with
  | .error _ => m0
  | .ok (v, s, t) => f v s t
def finm (A : aS) (clm : Nat → List vV → Nat → List tH → Nat → Nat) (w : Int64) (vs : List vV) (s : Nat) (t : List tH) (m : Nat) : Nat :=
  if A.fm w = 3 then (if t.length < m then m else 2 * m) else clm (A.by w) vs s t m
/-- the room of the class's THINGS behind an EXPR, m being that ahead of it -/
def rmT (A : aS) (cl : Nat → List vV → Nat → List tH → evR) (clm : Nat → List vV → Nat → List tH → Nat → Nat) (dp : Nat) (ar : List vV) : eX → Nat → List tH → Nat → Nat
  | .leaf, _, _, m => m
  | .inner k _ _ a .leaf, s, t, m => if 400 ≤ s then m else if k = 7 ∨ k = 8 then rmT A cl clm dp ar a (s + 1) t m else m
  | .inner k q _ a (.inner _ _ _ b c), s, t, m =>
    if 400 ≤ s then m
    else if k = 6 then (if ckC A dp q.1 q.2 = 0 then (if q.1 = 0 then finm A clm q.2 [] (s + 1) t m else ebm (rmT A cl clm dp ar a (s + 1) t m) (evT A cl dp ar a (s + 1) t) fun v1 s1 t1 => if q.1 = 1 then finm A clm q.2 [v1] s1 t1 (rmT A cl clm dp ar a (s + 1) t m) else ebm (rmT A cl clm dp ar b s1 t1 (rmT A cl clm dp ar a (s + 1) t m)) (evT A cl dp ar b s1 t1) fun v2 s2 t2 => if q.1 = 2 then finm A clm q.2 [v1, v2] s2 t2 (rmT A cl clm dp ar b s1 t1 (rmT A cl clm dp ar a (s + 1) t m)) else ebm (rmT A cl clm dp ar c s2 t2 (rmT A cl clm dp ar b s1 t1 (rmT A cl clm dp ar a (s + 1) t m))) (evT A cl dp ar c s2 t2) fun v3 s3 t3 => finm A clm q.2 [v1, v2, v3] s3 t3 (rmT A cl clm dp ar c s2 t2 (rmT A cl clm dp ar b s1 t1 (rmT A cl clm dp ar a (s + 1) t m)))) else m)
    else if k = 9 then ebm (rmT A cl clm dp ar a (s + 1) t m) (evT A cl dp ar a (s + 1) t) fun v1 s1 t1 => rmT A cl clm dp ar b s1 t1 (rmT A cl clm dp ar a (s + 1) t m)
    else ebm (rmT A cl clm dp ar a (s + 1) t m) (evT A cl dp ar a (s + 1) t) fun v1 s1 t1 => if ckW v1 = 0 then (if v1.2 = 0 then rmT A cl clm dp ar c s1 t1 (rmT A cl clm dp ar a (s + 1) t m) else rmT A cl clm dp ar b s1 t1 (rmT A cl clm dp ar a (s + 1) t m)) else rmT A cl clm dp ar a (s + 1) t m
def rmC (A : aS) : Nat → Nat → List vV → Nat → List tH → Nat → Nat
  | 0 => fun _ _ _ _ m => m
  | k + 1 => fun s' vs s t m => rmT A (evC A k) (rmC A k) (20 - k) vs (A.at s').tr s t m
abbrev rmX (A : aS) (dp : Nat) (ar : List vV) (T : eX) (s : Nat) (t : List tH) (m : Nat) : Nat := rmT A (evC A (20 - dp)) (rmC A (20 - dp)) dp ar T s t m
theorem ebm_ge {m m0 : Nat} {r : evR} {f : vV → Nat → List tH → Nat} (h0 : m ≤ m0) (h : ∀ v s t, m ≤ f v s t) : m ≤ ebm m0 r f := by
  rcases r with e | ⟨v, s, t⟩
  · exact h0
  · exact h v s t
theorem ebm_ok {m0 : Nat} {r : evR} {f : vV → Nat → List tH → Nat} {v : vV} {s' : Nat} {t' : List tH} (h : r = .ok (v, s', t')) : ebm m0 r f = f v s' t' := by rw [h]; rfl
theorem ebm_er {m0 : Nat} {r : evR} {f : vV → Nat → List tH → Nat} {e : Nat} (h : r = .error e) : ebm m0 r f = m0 := by rw [h]; rfl
theorem finm_ge {A : aS} {clm : Nat → List vV → Nat → List tH → Nat → Nat} (hc : ∀ s' vs s t m, m ≤ clm s' vs s t m) {w : Int64} {vs : List vV} {s : Nat} {t : List tH} {m : Nat} : m ≤ finm A clm w vs s t m := by
  unfold finm
  split
  · split <;> omega
  · exact hc _ _ _ _ _
theorem rm_ge {A : aS} {cl : Nat → List vV → Nat → List tH → evR} {clm : Nat → List vV → Nat → List tH → Nat → Nat} {dp : Nat} {ar : List vV} (hc : ∀ s' vs s t m, m ≤ clm s' vs s t m) : ∀ (T : eX) (s : Nat) (t : List tH) (m : Nat), m ≤ rmT A cl clm dp ar T s t m
  | .leaf, s, t, m => Nat.le_refl _
  | .inner k q u a .leaf, s, t, m => by
    unfold rmT
    split
    · exact Nat.le_refl _
    · split
      · exact rm_ge hc a (s + 1) t m
      · exact Nat.le_refl _
  | .inner k q u a (.inner k2 q2 u2 b c), s, t, m => by
    have ha := rm_ge (A := A) (cl := cl) (dp := dp) (ar := ar) hc a (s + 1) t m
    have hb : ∀ s1 t1, m ≤ rmT A cl clm dp ar b s1 t1 (rmT A cl clm dp ar a (s + 1) t m) := fun s1 t1 => Nat.le_trans ha (rm_ge hc b s1 t1 _)
    have hd : ∀ s1 t1, m ≤ rmT A cl clm dp ar c s1 t1 (rmT A cl clm dp ar a (s + 1) t m) := fun s1 t1 => Nat.le_trans ha (rm_ge hc c s1 t1 _)
    have he : ∀ s1 t1 s2 t2, m ≤ rmT A cl clm dp ar c s2 t2 (rmT A cl clm dp ar b s1 t1 (rmT A cl clm dp ar a (s + 1) t m)) := fun s1 t1 s2 t2 => Nat.le_trans (hb s1 t1) (rm_ge hc c s2 t2 _)
    unfold rmT
    split
    · exact Nat.le_refl _
    · split
      · split
        · split
          · exact finm_ge hc
          · refine ebm_ge ha (fun v1 s1 t1 => ?_)
            split
            · exact Nat.le_trans ha (finm_ge hc)
            · refine ebm_ge (hb s1 t1) (fun v2 s2 t2 => ?_)
              split
              · exact Nat.le_trans (hb s1 t1) (finm_ge hc)
              · exact ebm_ge (he s1 t1 s2 t2) (fun v3 s3 t3 => Nat.le_trans (he s1 t1 s2 t2) (finm_ge hc))
        · exact Nat.le_refl _
      · split
        · exact ebm_ge ha (fun v1 s1 t1 => hb s1 t1)
        · refine ebm_ge ha (fun v1 s1 t1 => ?_)
          split
          · split
            · exact hd s1 t1
            · exact hb s1 t1
          · exact ha
theorem rmC_ge {A : aS} : ∀ (k s' : Nat) (vs : List vV) (s : Nat) (t : List tH) (m : Nat), m ≤ rmC A k s' vs s t m
  | 0, _, _, _, _, _ => Nat.le_refl _
  | k + 1, s', vs, s, t, m => rm_ge (rmC_ge k) _ s t m
theorem rmX_ge {A : aS} {dp : Nat} {ar : List vV} (T : eX) (s : Nat) (t : List tH) (m : Nat) : m ≤ rmX A dp ar T s t m := rm_ge (rmC_ge _) T s t m
theorem rmC_step {A : aS} {dp s' : Nat} {vs : List vV} {s : Nat} {t : List tH} {m : Nat} (h : dp < 20) : rmC A (20 - dp) s' vs s t m = rmX A (dp + 1) vs (A.at s').tr s t m := by
  unfold rmX
  obtain ⟨k, hk⟩ : ∃ k, 20 - dp = k + 1 := ⟨19 - dp, by omega⟩
  rw [hk, show 20 - (dp + 1) = k by omega, show dp + 1 = 20 - k by omega]
  rfl
section CE
variable (l : Launch) (E : pmE) (d : Nat) (Q : Option Value → pmS → pmI → pmJ → pmP → Prop) (c0 : Nat) (mk : Int32) (S0 : pmS) (I0 : pmI) (J0 : pmJ) (P0 : pmP) (b0 : Nat) (A : aS) (kx : Nat)
/-- the head of work's loop, τ turns done -/
def LW (τ kc ks : Nat) (S : pmS) (I : pmI) (J : pmJ) (P : pmP) : Prop := pm_W l E yX1_work cX1_work 4 none d kc ks 43 [(3, .int (nI τ)), (2, .int mk), (0, .ref 34), (1, .ref c0)] [] S I J P (pm_N E Q)
/-- behind doNext in the loop -/
def LQ (τ kc ks : Nat) (v : Option Value) (S : pmS) (I : pmI) (J : pmJ) (P : pmP) : Prop := pm_W l E yX1_work cX1_work 4 none d kc ks 61 [(3, .int (nI τ)), (2, .int mk), (0, .ref 34), (1, .ref c0)] (pm_ps v []) S I J P (pm_N E Q)
/-- the loop's head with what is left for the growth of the THINGS' rows -/
def LH2 (m τ : Nat) (S : pmS) (I : pmI) (J : pmJ) (P : pmP) : Prop := LW l E d Q c0 mk τ (kx - m) (18 * (kx - m)) S I J P
/-- the Machine is about to work an EXPR out, at depth dp, with ARGUMENTS ar -/
def cP (dp : Nat) (pa : List Int64) (ar : List vV) (S : pmS) (I : pmI) (J : pmJ) (P : pmP) (c : Nat) (w : Int32) (i bs : Nat) (rv : List vV) (fr : List (Nat × Nat × Nat)) (s : Nat) (t : List tH) (b m τ K : Nat) : Prop := mS S0 I0 J0 P0 b0 A S I J P c w i bs rv fr s t b m ∧ fr.length = dp ∧ (ar.length = pa.length ∧ (∀ (j : Nat) (v : vV), ar[j]? = some v → rv[bs + j]? = some v) ∧ ∀ v ∈ ar, vO t.length v) ∧ tO A t ∧ A.th.length ≤ t.length ∧ s ≤ 400 ∧ rv.length ≤ s ∧ t.length ≤ 15600 + s ∧ τ + 1200 ≤ K + 3 * s ∧ K ≤ 9000
/-- it does, as the spec says -/
def cT (dp : Nat) (T : eX) : Prop := ∀ (pa : List Int64) (ar : List vV) (S : pmS) (I : pmI) (J : pmJ) (P : pmP) (c : Nat) (w : Int32) (i bs : Nat) (rv : List vV) (fr : List (Nat × Nat × Nat)) (s : Nat) (t : List tH) (b m τ K : Nat) (pre post : List dE), cP S0 I0 J0 P0 b0 A dp pa ar S I J P c w i bs rv fr s t b m τ K → kX S0 I0 J0 P0 b0 c (pre ++ (cp (hN A.ns) T ++ post)) → i = pre.length → wt pa (· ∈ A.ns) T → rmT A (evC A (20 - dp)) (rmC A (20 - dp)) dp ar T s t m ≤ kx →
  (∀ (v : vV) (s' : Nat) (t' : List tH) (S' : pmS) (I' : pmI) (J' : pmJ) (P' : pmP) (w' : Int32) (b' m' τ' i' : Nat), i' = i + (cp (hN A.ns) T).length → evT A (evC A (20 - dp)) dp ar T s t = .ok (v, s', t') → m' = rmT A (evC A (20 - dp)) (rmC A (20 - dp)) dp ar T s t m → cP S0 I0 J0 P0 b0 A dp pa ar S' I' J' P' c w' i' bs (rv ++ [v]) fr s' t' b' m' τ' K → vO t'.length v → s + 1 ≤ s' → t.length ≤ t'.length ∧ t'.length + s ≤ t.length + s' → LH2 l E d Q c0 mk kx m' τ' S' I' J' P') →
  (∀ (e : Nat) (S' : pmS) (I' : pmI) (J' : pmJ) (P' : pmP) (b' m' τ' : Nat), evT A (evC A (20 - dp)) dp ar T s t = .error e → m' = rmT A (evC A (20 - dp)) (rmC A (20 - dp)) dp ar T s t m → mE S0 I0 J0 P0 b0 A S' I' J' P' e b' m' → τ' ≤ 9999 → LH2 l E d Q c0 mk kx m' τ' S' I' J' P') → LH2 l E d Q c0 mk kx m τ S I J P
end CE
set_option maxRecDepth 20000 in
set_option maxHeartbeats 4000000 in
theorem LQ_of {l : Launch} {E : pmE} {d : Nat} {Q : Option Value → pmS → pmI → pmJ → pmP → Prop} {c0 : Nat} {mk : Int32} {S : pmS} {I : pmI} {J : pmJ} {P : pmP} {τ kc ks : Nat} (hG : sh_St S) (hP : gr_St P) (k : LW l E d Q c0 mk (τ + 1) kc ks S I J P) : LQ l E d Q c0 mk τ kc ks none S I J P := by
  show pm_W l E yX1_work cX1_work 4 none d kc ks 61 [(3, .int (nI τ)), (2, .int mk), (0, .ref 34), (1, .ref c0)] [] S I J P (pm_N E Q)
  refine pw_iinc (lv' := [(3, _), (2, _), (0, _), (1, _)]) dX1_work_61 rfl (by decide) rfl ?_
  refine pw_goto (tgt := 43) dX1_work_64 (by decide) ?_
  refine pm_lvs (lv' := [(3, .int (nI (τ + 1))), (2, _), (0, _), (1, _)]) (by rw [show nI τ + Int32.ofInt 1 = nI (τ + 1) from nI_add τ 1]) ?_
  exact k
set_option maxRecDepth 20000 in
set_option maxHeartbeats 4000000 in
theorem LW_turn {l : Launch} {E : pmE} {d : Nat} {Q : Option Value → pmS → pmI → pmJ → pmP → Prop} {c0 : Nat} {mk : Int32} {S : pmS} {I : pmI} {J : pmJ} {P : pmP} {τ kc ks : Nat} {kc' ks' : Nat} (hG : sh_St S) (hP : gr_St P) (hd : 1 ≤ d) (hτ : τ < 10000) (hw : I 34 13 = nI 1) (h1 : kc' ≤ kc) (h2 : ks' ≤ ks) (k : pm_Met l E yX1_doNext cX1_doNext 2 none (d - 1) kc' ks' [.ref 34] S I J P (LQ l E d Q c0 mk τ (kc - kc') (ks - ks'))) : LW l E d Q c0 mk τ kc ks S I J P := by
  unfold LW
  refine pw_iload_n dX1_work_43 rfl ?_
  refine pw_sipush (v := nI 10000) dX1_work_44 (by decide) ?_
  refine pw_icmpN_ge _ _ (tgt := 67) dX1_work_47 (by decide) (rfl) (rfl) (by omega) (by omega) (fun h47 => absurd h47 (by omega)) (fun h47 => ?_)
  refine pw_aload_n dX1_work_50 rfl ?_
  refine pw_getI fX1_88 dX1_work_51 (sh_lt hG (by decide)) (sh_tg hG 32 rfl) rfl ?_
  refine pw_if_eq (tgt := 67) dX1_work_54 (by decide) (fun h => absurd h (by rw [hw]; decide)) (fun h54 => ?_)
  refine pw_aload_n dX1_work_57 rfl ?_
  refine pw_callV (as := []) (kc' := kc') (ks' := ks') lX1_92 dX1_work_58 rfl rfl (sh_lt hG (by decide)) (sh_tg hG 32 rfl) (Nat.le_of_ble_eq_true rfl) (by omega) (Nat.le_of_ble_eq_true rfl) h1 h2 ?_
  exact k
theorem kX.cg {S0 : pmS} {I0 : pmI} {J0 : pmJ} {P0 : pmP} {b0 c : Nat} {L L' : List dE} (h : kX S0 I0 J0 P0 b0 c L) (e : L = L') : kX S0 I0 J0 P0 b0 c L' := e ▸ h
theorem at_pre {α : Type} {L pre q : List α} {x : α} {i : Nat} (hL : L = pre ++ x :: q) (hi : i = pre.length) : L[i]? = some x := by
  subst hL hi
  rw [List.getElem?_append_right (Nat.le_refl _), Nat.sub_self]; rfl
theorem evC_step {A : aS} {dp s' : Nat} {vs : List vV} {s : Nat} {t : List tH} (h : dp < 20) : evC A (20 - dp) s' vs s t = evT A (evC A (20 - (dp + 1))) (dp + 1) vs (A.at s').tr s t := by
  obtain ⟨k, hk⟩ : ∃ k, 20 - dp = k + 1 := ⟨19 - dp, by omega⟩
  rw [hk, show 20 - (dp + 1) = k by omega, show dp + 1 = 20 - k by omega]
  rfl
theorem tO.v3 {A : aS} (hO : aO A) {t : List tH} (h : tO A t) : ∀ q ∈ t, q.2.length ≤ 3 := by
  intro q hq
  obtain ⟨j, hj⟩ := List.mem_iff_getElem?.mp hq
  obtain ⟨h1, h2, h3, h4⟩ := h j q.1 q.2 hj
  have := (hO.2.2.2.2.1 q.1 h1).2.1
  omega
theorem ap_l {α : Type} {rv us : List α} {j : Nat} {v : α} (h : rv[j]? = some v) : (rv ++ us)[j]? = some v := by
  rw [List.getElem?_append_left (List.getElem?_eq_some_iff.mp h).1]; exact h
theorem hav_l {ar rv us : List vV} {bs : Nat} (h : ∀ (j : Nat) (v : vV), ar[j]? = some v → rv[bs + j]? = some v) : ∀ (j : Nat) (v : vV), ar[j]? = some v → (rv ++ us)[bs + j]? = some v := fun j v hj => ap_l (h j v hj)
theorem kX_sn {S0 : pmS} {I0 : pmI} {J0 : pmJ} {P0 : pmP} {b0 : Nat} {A : aS} {Z : Nat → Nat} (hA : cA S0 I0 J0 P0 A Z b0) {s : Nat} (hs : s < A.sn.length) (hf : (A.at s).form = 2) : kX S0 I0 J0 P0 b0 (Z s + 3) (cp (hN A.ns) (A.at s).tr ++ [(13, 0, 0)]) := by
  obtain ⟨h1, h2, h3⟩ := hA.sn hs
  have h4 := h2.1
  obtain ⟨rm, L, g1, g2⟩ := h2.cd
  rw [g2 hf] at g1
  exact ⟨⟨rm, g1⟩, by omega, by omega⟩
section CPE
variable {h : Int64 → Int64} {q q2 : Nat × Int64} {u u2 : Unit} {k2 : Nat} {a b c : eX}
theorem cp7 : cp h (.inner 7 q u a .leaf) = (1, 0, 0) :: (cp h a ++ [(10, 0, 0)]) := rfl
theorem cp8 : cp h (.inner 8 q u a .leaf) = (1, 0, 0) :: (cp h a ++ [(9, 0, h q.2)]) := rfl
theorem cp6 : cp h (.inner 6 q u a (.inner k2 q2 u2 b c)) = (6, nI q.1, h q.2) :: (cp h a ++ (cp h b ++ (cp h c ++ [(8, nI q.1, h q.2)]))) := rfl
theorem cp9 : cp h (.inner 9 q u a (.inner k2 q2 u2 b c)) = (1, 0, 0) :: (cp h a ++ (cp h b ++ [(q.1, 0, 0)])) := rfl
theorem cp10 : cp h (.inner 10 q u a (.inner k2 q2 u2 b c)) = (1, 0, 0) :: (cp h a ++ (11, nI ((cp h b).length + 1), 0) :: (cp h b ++ (12, nI (cp h c).length, 0) :: cp h c)) := rfl
end CPE
section EV
variable {A : aS} {cl : Nat → List vV → Nat → List tH → evR} {dp : Nat} {ar : List vV} {q q2 : Nat × Int64} {u u2 : Unit} {k2 : Nat} {a b c : eX} {s : Nat} {t : List tH}
theorem ev2 (h : s < 400) : evT A cl dp ar (.inner 2 q u a .leaf) s t = (.ok ((1, q.2), s + 1, t)) := by
  show ((if 400 ≤ s then .error 8 else (.ok ((1, q.2), s + 1, t))) : evR) = _
  rw [if_neg (by omega)]
theorem ev2_8 (h : 400 ≤ s) : evT A cl dp ar (.inner 2 q u a .leaf) s t = .error 8 := by
  show ((if 400 ≤ s then .error 8 else (.ok ((1, q.2), s + 1, t))) : evR) = _
  rw [if_pos h]
theorem ev3 (h : s < 400) : evT A cl dp ar (.inner 3 q u a .leaf) s t = (if 1 ≤ q.2.toInt32.toInt ∧ q.2.toInt32.toInt ≤ (A.rs.length : Int) then .ok (A.rs.getD (q.2.toInt32.toInt.toNat - 1) (0, 0), s + 1, t) else .error 1) := by
  show ((if 400 ≤ s then .error 8 else (if 1 ≤ q.2.toInt32.toInt ∧ q.2.toInt32.toInt ≤ (A.rs.length : Int) then .ok (A.rs.getD (q.2.toInt32.toInt.toNat - 1) (0, 0), s + 1, t) else .error 1)) : evR) = _
  rw [if_neg (by omega)]
theorem ev3_8 (h : 400 ≤ s) : evT A cl dp ar (.inner 3 q u a .leaf) s t = .error 8 := by
  show ((if 400 ≤ s then .error 8 else (if 1 ≤ q.2.toInt32.toInt ∧ q.2.toInt32.toInt ≤ (A.rs.length : Int) then .ok (A.rs.getD (q.2.toInt32.toInt.toNat - 1) (0, 0), s + 1, t) else .error 1)) : evR) = _
  rw [if_pos h]
theorem ev4 (h : s < 400) : evT A cl dp ar (.inner 4 q u a .leaf) s t = (.ok (ar.getD q.1 (0, 0), s + 1, t)) := by
  show ((if 400 ≤ s then .error 8 else (.ok (ar.getD q.1 (0, 0), s + 1, t))) : evR) = _
  rw [if_neg (by omega)]
theorem ev4_8 (h : 400 ≤ s) : evT A cl dp ar (.inner 4 q u a .leaf) s t = .error 8 := by
  show ((if 400 ≤ s then .error 8 else (.ok (ar.getD q.1 (0, 0), s + 1, t))) : evR) = _
  rw [if_pos h]
theorem ev5 (h : s < 400) : evT A cl dp ar (.inner 5 q u a .leaf) s t = (if A.fm q.2 = 1 then .ok (A.va q.2, s + 1, t) else .error 1) := by
  show ((if 400 ≤ s then .error 8 else (if A.fm q.2 = 1 then .ok (A.va q.2, s + 1, t) else .error 1)) : evR) = _
  rw [if_neg (by omega)]
theorem ev5_8 (h : 400 ≤ s) : evT A cl dp ar (.inner 5 q u a .leaf) s t = .error 8 := by
  show ((if 400 ≤ s then .error 8 else (if A.fm q.2 = 1 then .ok (A.va q.2, s + 1, t) else .error 1)) : evR) = _
  rw [if_pos h]
theorem ev7 (h : s < 400) : evT A cl dp ar (.inner 7 q u a .leaf) s t = (ebd (evT A cl dp ar a (s + 1) t) fun v s1 t1 => if ckW v = 0 then .ok ((1, -v.2), s1, t1) else .error (ckW v)) := by
  show ((if 400 ≤ s then .error 8 else (ebd (evT A cl dp ar a (s + 1) t) fun v s1 t1 => if ckW v = 0 then .ok ((1, -v.2), s1, t1) else .error (ckW v))) : evR) = _
  rw [if_neg (by omega)]
theorem ev7_8 (h : 400 ≤ s) : evT A cl dp ar (.inner 7 q u a .leaf) s t = .error 8 := by
  show ((if 400 ≤ s then .error 8 else (ebd (evT A cl dp ar a (s + 1) t) fun v s1 t1 => if ckW v = 0 then .ok ((1, -v.2), s1, t1) else .error (ckW v))) : evR) = _
  rw [if_pos h]
theorem ev8 (h : s < 400) : evT A cl dp ar (.inner 8 q u a .leaf) s t = (ebd (evT A cl dp ar a (s + 1) t) fun v s1 t1 => if ckF A t1 v q.2 = 0 then .ok (fdV A t1 v q.2, s1, t1) else .error (ckF A t1 v q.2)) := by
  show ((if 400 ≤ s then .error 8 else (ebd (evT A cl dp ar a (s + 1) t) fun v s1 t1 => if ckF A t1 v q.2 = 0 then .ok (fdV A t1 v q.2, s1, t1) else .error (ckF A t1 v q.2))) : evR) = _
  rw [if_neg (by omega)]
theorem ev8_8 (h : 400 ≤ s) : evT A cl dp ar (.inner 8 q u a .leaf) s t = .error 8 := by
  show ((if 400 ≤ s then .error 8 else (ebd (evT A cl dp ar a (s + 1) t) fun v s1 t1 => if ckF A t1 v q.2 = 0 then .ok (fdV A t1 v q.2, s1, t1) else .error (ckF A t1 v q.2))) : evR) = _
  rw [if_pos h]
theorem ev6 (h : s < 400) : evT A cl dp ar (.inner 6 q u a (.inner k2 q2 u2 b c)) s t = (if ckC A dp q.1 q.2 = 0 then (if q.1 = 0 then fin A cl q.2 [] (s + 1) t else ebd (evT A cl dp ar a (s + 1) t) fun v1 s1 t1 => if q.1 = 1 then fin A cl q.2 [v1] s1 t1 else ebd (evT A cl dp ar b s1 t1) fun v2 s2 t2 => if q.1 = 2 then fin A cl q.2 [v1, v2] s2 t2 else ebd (evT A cl dp ar c s2 t2) fun v3 s3 t3 => fin A cl q.2 [v1, v2, v3] s3 t3) else .error (ckC A dp q.1 q.2)) := by
  show ((if 400 ≤ s then .error 8 else (if ckC A dp q.1 q.2 = 0 then (if q.1 = 0 then fin A cl q.2 [] (s + 1) t else ebd (evT A cl dp ar a (s + 1) t) fun v1 s1 t1 => if q.1 = 1 then fin A cl q.2 [v1] s1 t1 else ebd (evT A cl dp ar b s1 t1) fun v2 s2 t2 => if q.1 = 2 then fin A cl q.2 [v1, v2] s2 t2 else ebd (evT A cl dp ar c s2 t2) fun v3 s3 t3 => fin A cl q.2 [v1, v2, v3] s3 t3) else .error (ckC A dp q.1 q.2))) : evR) = _
  rw [if_neg (by omega)]
theorem ev6_8 (h : 400 ≤ s) : evT A cl dp ar (.inner 6 q u a (.inner k2 q2 u2 b c)) s t = .error 8 := by
  show ((if 400 ≤ s then .error 8 else (if ckC A dp q.1 q.2 = 0 then (if q.1 = 0 then fin A cl q.2 [] (s + 1) t else ebd (evT A cl dp ar a (s + 1) t) fun v1 s1 t1 => if q.1 = 1 then fin A cl q.2 [v1] s1 t1 else ebd (evT A cl dp ar b s1 t1) fun v2 s2 t2 => if q.1 = 2 then fin A cl q.2 [v1, v2] s2 t2 else ebd (evT A cl dp ar c s2 t2) fun v3 s3 t3 => fin A cl q.2 [v1, v2, v3] s3 t3) else .error (ckC A dp q.1 q.2))) : evR) = _
  rw [if_pos h]
theorem ev9 (h : s < 400) : evT A cl dp ar (.inner 9 q u a (.inner k2 q2 u2 b c)) s t = (ebd (evT A cl dp ar a (s + 1) t) fun v1 s1 t1 => ebd (evT A cl dp ar b s1 t1) fun v2 s2 t2 => if ckO q.1 v1 v2 = 0 then .ok ((1, opV q.1 v1.2 v2.2), s2, t2) else .error (ckO q.1 v1 v2)) := by
  show ((if 400 ≤ s then .error 8 else (ebd (evT A cl dp ar a (s + 1) t) fun v1 s1 t1 => ebd (evT A cl dp ar b s1 t1) fun v2 s2 t2 => if ckO q.1 v1 v2 = 0 then .ok ((1, opV q.1 v1.2 v2.2), s2, t2) else .error (ckO q.1 v1 v2))) : evR) = _
  rw [if_neg (by omega)]
theorem ev9_8 (h : 400 ≤ s) : evT A cl dp ar (.inner 9 q u a (.inner k2 q2 u2 b c)) s t = .error 8 := by
  show ((if 400 ≤ s then .error 8 else (ebd (evT A cl dp ar a (s + 1) t) fun v1 s1 t1 => ebd (evT A cl dp ar b s1 t1) fun v2 s2 t2 => if ckO q.1 v1 v2 = 0 then .ok ((1, opV q.1 v1.2 v2.2), s2, t2) else .error (ckO q.1 v1 v2))) : evR) = _
  rw [if_pos h]
theorem ev10 (h : s < 400) : evT A cl dp ar (.inner 10 q u a (.inner k2 q2 u2 b c)) s t = (ebd (evT A cl dp ar a (s + 1) t) fun v1 s1 t1 => if ckW v1 = 0 then (if v1.2 = 0 then evT A cl dp ar c s1 t1 else evT A cl dp ar b s1 t1) else .error (ckW v1)) := by
  show ((if 400 ≤ s then .error 8 else (ebd (evT A cl dp ar a (s + 1) t) fun v1 s1 t1 => if ckW v1 = 0 then (if v1.2 = 0 then evT A cl dp ar c s1 t1 else evT A cl dp ar b s1 t1) else .error (ckW v1))) : evR) = _
  rw [if_neg (by omega)]
theorem ev10_8 (h : 400 ≤ s) : evT A cl dp ar (.inner 10 q u a (.inner k2 q2 u2 b c)) s t = .error 8 := by
  show ((if 400 ≤ s then .error 8 else (ebd (evT A cl dp ar a (s + 1) t) fun v1 s1 t1 => if ckW v1 = 0 then (if v1.2 = 0 then evT A cl dp ar c s1 t1 else evT A cl dp ar b s1 t1) else .error (ckW v1))) : evR) = _
  rw [if_pos h]
theorem rm7 {clm : Nat → List vV → Nat → List tH → Nat → Nat} {m : Nat} (h : s < 400) : rmT A cl clm dp ar (.inner 7 q u a .leaf) s t m = (rmT A cl clm dp ar a (s + 1) t m) := by
  show (if 400 ≤ s then m else (rmT A cl clm dp ar a (s + 1) t m)) = _
  rw [if_neg (by omega)]
theorem rm7_8 {clm : Nat → List vV → Nat → List tH → Nat → Nat} {m : Nat} (h : 400 ≤ s) : rmT A cl clm dp ar (.inner 7 q u a .leaf) s t m = m := by
  show (if 400 ≤ s then m else (rmT A cl clm dp ar a (s + 1) t m)) = _
  rw [if_pos h]
theorem rm8 {clm : Nat → List vV → Nat → List tH → Nat → Nat} {m : Nat} (h : s < 400) : rmT A cl clm dp ar (.inner 8 q u a .leaf) s t m = (rmT A cl clm dp ar a (s + 1) t m) := by
  show (if 400 ≤ s then m else (rmT A cl clm dp ar a (s + 1) t m)) = _
  rw [if_neg (by omega)]
theorem rm8_8 {clm : Nat → List vV → Nat → List tH → Nat → Nat} {m : Nat} (h : 400 ≤ s) : rmT A cl clm dp ar (.inner 8 q u a .leaf) s t m = m := by
  show (if 400 ≤ s then m else (rmT A cl clm dp ar a (s + 1) t m)) = _
  rw [if_pos h]
theorem rm2 {clm : Nat → List vV → Nat → List tH → Nat → Nat} {m : Nat} (h : s < 400) : rmT A cl clm dp ar (.inner 2 q u a .leaf) s t m = (m) := by
  show (if 400 ≤ s then m else (m)) = _
  rw [if_neg (by omega)]
theorem rm2_8 {clm : Nat → List vV → Nat → List tH → Nat → Nat} {m : Nat} (h : 400 ≤ s) : rmT A cl clm dp ar (.inner 2 q u a .leaf) s t m = m := by
  show (if 400 ≤ s then m else (m)) = _
  rw [if_pos h]
theorem rm3 {clm : Nat → List vV → Nat → List tH → Nat → Nat} {m : Nat} (h : s < 400) : rmT A cl clm dp ar (.inner 3 q u a .leaf) s t m = (m) := by
  show (if 400 ≤ s then m else (m)) = _
  rw [if_neg (by omega)]
theorem rm3_8 {clm : Nat → List vV → Nat → List tH → Nat → Nat} {m : Nat} (h : 400 ≤ s) : rmT A cl clm dp ar (.inner 3 q u a .leaf) s t m = m := by
  show (if 400 ≤ s then m else (m)) = _
  rw [if_pos h]
theorem rm4 {clm : Nat → List vV → Nat → List tH → Nat → Nat} {m : Nat} (h : s < 400) : rmT A cl clm dp ar (.inner 4 q u a .leaf) s t m = (m) := by
  show (if 400 ≤ s then m else (m)) = _
  rw [if_neg (by omega)]
theorem rm4_8 {clm : Nat → List vV → Nat → List tH → Nat → Nat} {m : Nat} (h : 400 ≤ s) : rmT A cl clm dp ar (.inner 4 q u a .leaf) s t m = m := by
  show (if 400 ≤ s then m else (m)) = _
  rw [if_pos h]
theorem rm5 {clm : Nat → List vV → Nat → List tH → Nat → Nat} {m : Nat} (h : s < 400) : rmT A cl clm dp ar (.inner 5 q u a .leaf) s t m = (m) := by
  show (if 400 ≤ s then m else (m)) = _
  rw [if_neg (by omega)]
theorem rm5_8 {clm : Nat → List vV → Nat → List tH → Nat → Nat} {m : Nat} (h : 400 ≤ s) : rmT A cl clm dp ar (.inner 5 q u a .leaf) s t m = m := by
  show (if 400 ≤ s then m else (m)) = _
  rw [if_pos h]
theorem rm6 {clm : Nat → List vV → Nat → List tH → Nat → Nat} {m : Nat} (h : s < 400) : rmT A cl clm dp ar (.inner 6 q u a (.inner k2 q2 u2 b c)) s t m = (if ckC A dp q.1 q.2 = 0 then (if q.1 = 0 then finm A clm q.2 [] (s + 1) t m else ebm (rmT A cl clm dp ar a (s + 1) t m) (evT A cl dp ar a (s + 1) t) fun v1 s1 t1 => if q.1 = 1 then finm A clm q.2 [v1] s1 t1 (rmT A cl clm dp ar a (s + 1) t m) else ebm (rmT A cl clm dp ar b s1 t1 (rmT A cl clm dp ar a (s + 1) t m)) (evT A cl dp ar b s1 t1) fun v2 s2 t2 => if q.1 = 2 then finm A clm q.2 [v1, v2] s2 t2 (rmT A cl clm dp ar b s1 t1 (rmT A cl clm dp ar a (s + 1) t m)) else ebm (rmT A cl clm dp ar c s2 t2 (rmT A cl clm dp ar b s1 t1 (rmT A cl clm dp ar a (s + 1) t m))) (evT A cl dp ar c s2 t2) fun v3 s3 t3 => finm A clm q.2 [v1, v2, v3] s3 t3 (rmT A cl clm dp ar c s2 t2 (rmT A cl clm dp ar b s1 t1 (rmT A cl clm dp ar a (s + 1) t m)))) else m) := by
  show (if 400 ≤ s then m else (if ckC A dp q.1 q.2 = 0 then (if q.1 = 0 then finm A clm q.2 [] (s + 1) t m else ebm (rmT A cl clm dp ar a (s + 1) t m) (evT A cl dp ar a (s + 1) t) fun v1 s1 t1 => if q.1 = 1 then finm A clm q.2 [v1] s1 t1 (rmT A cl clm dp ar a (s + 1) t m) else ebm (rmT A cl clm dp ar b s1 t1 (rmT A cl clm dp ar a (s + 1) t m)) (evT A cl dp ar b s1 t1) fun v2 s2 t2 => if q.1 = 2 then finm A clm q.2 [v1, v2] s2 t2 (rmT A cl clm dp ar b s1 t1 (rmT A cl clm dp ar a (s + 1) t m)) else ebm (rmT A cl clm dp ar c s2 t2 (rmT A cl clm dp ar b s1 t1 (rmT A cl clm dp ar a (s + 1) t m))) (evT A cl dp ar c s2 t2) fun v3 s3 t3 => finm A clm q.2 [v1, v2, v3] s3 t3 (rmT A cl clm dp ar c s2 t2 (rmT A cl clm dp ar b s1 t1 (rmT A cl clm dp ar a (s + 1) t m)))) else m)) = _
  rw [if_neg (by omega)]
theorem rm6_8 {clm : Nat → List vV → Nat → List tH → Nat → Nat} {m : Nat} (h : 400 ≤ s) : rmT A cl clm dp ar (.inner 6 q u a (.inner k2 q2 u2 b c)) s t m = m := by
  show (if 400 ≤ s then m else (if ckC A dp q.1 q.2 = 0 then (if q.1 = 0 then finm A clm q.2 [] (s + 1) t m else ebm (rmT A cl clm dp ar a (s + 1) t m) (evT A cl dp ar a (s + 1) t) fun v1 s1 t1 => if q.1 = 1 then finm A clm q.2 [v1] s1 t1 (rmT A cl clm dp ar a (s + 1) t m) else ebm (rmT A cl clm dp ar b s1 t1 (rmT A cl clm dp ar a (s + 1) t m)) (evT A cl dp ar b s1 t1) fun v2 s2 t2 => if q.1 = 2 then finm A clm q.2 [v1, v2] s2 t2 (rmT A cl clm dp ar b s1 t1 (rmT A cl clm dp ar a (s + 1) t m)) else ebm (rmT A cl clm dp ar c s2 t2 (rmT A cl clm dp ar b s1 t1 (rmT A cl clm dp ar a (s + 1) t m))) (evT A cl dp ar c s2 t2) fun v3 s3 t3 => finm A clm q.2 [v1, v2, v3] s3 t3 (rmT A cl clm dp ar c s2 t2 (rmT A cl clm dp ar b s1 t1 (rmT A cl clm dp ar a (s + 1) t m)))) else m)) = _
  rw [if_pos h]
theorem rm9 {clm : Nat → List vV → Nat → List tH → Nat → Nat} {m : Nat} (h : s < 400) : rmT A cl clm dp ar (.inner 9 q u a (.inner k2 q2 u2 b c)) s t m = (ebm (rmT A cl clm dp ar a (s + 1) t m) (evT A cl dp ar a (s + 1) t) fun v1 s1 t1 => rmT A cl clm dp ar b s1 t1 (rmT A cl clm dp ar a (s + 1) t m)) := by
  show (if 400 ≤ s then m else (ebm (rmT A cl clm dp ar a (s + 1) t m) (evT A cl dp ar a (s + 1) t) fun v1 s1 t1 => rmT A cl clm dp ar b s1 t1 (rmT A cl clm dp ar a (s + 1) t m))) = _
  rw [if_neg (by omega)]
theorem rm9_8 {clm : Nat → List vV → Nat → List tH → Nat → Nat} {m : Nat} (h : 400 ≤ s) : rmT A cl clm dp ar (.inner 9 q u a (.inner k2 q2 u2 b c)) s t m = m := by
  show (if 400 ≤ s then m else (ebm (rmT A cl clm dp ar a (s + 1) t m) (evT A cl dp ar a (s + 1) t) fun v1 s1 t1 => rmT A cl clm dp ar b s1 t1 (rmT A cl clm dp ar a (s + 1) t m))) = _
  rw [if_pos h]
theorem rm10 {clm : Nat → List vV → Nat → List tH → Nat → Nat} {m : Nat} (h : s < 400) : rmT A cl clm dp ar (.inner 10 q u a (.inner k2 q2 u2 b c)) s t m = (ebm (rmT A cl clm dp ar a (s + 1) t m) (evT A cl dp ar a (s + 1) t) fun v1 s1 t1 => if ckW v1 = 0 then (if v1.2 = 0 then rmT A cl clm dp ar c s1 t1 (rmT A cl clm dp ar a (s + 1) t m) else rmT A cl clm dp ar b s1 t1 (rmT A cl clm dp ar a (s + 1) t m)) else rmT A cl clm dp ar a (s + 1) t m) := by
  show (if 400 ≤ s then m else (ebm (rmT A cl clm dp ar a (s + 1) t m) (evT A cl dp ar a (s + 1) t) fun v1 s1 t1 => if ckW v1 = 0 then (if v1.2 = 0 then rmT A cl clm dp ar c s1 t1 (rmT A cl clm dp ar a (s + 1) t m) else rmT A cl clm dp ar b s1 t1 (rmT A cl clm dp ar a (s + 1) t m)) else rmT A cl clm dp ar a (s + 1) t m)) = _
  rw [if_neg (by omega)]
theorem rm10_8 {clm : Nat → List vV → Nat → List tH → Nat → Nat} {m : Nat} (h : 400 ≤ s) : rmT A cl clm dp ar (.inner 10 q u a (.inner k2 q2 u2 b c)) s t m = m := by
  show (if 400 ≤ s then m else (ebm (rmT A cl clm dp ar a (s + 1) t m) (evT A cl dp ar a (s + 1) t) fun v1 s1 t1 => if ckW v1 = 0 then (if v1.2 = 0 then rmT A cl clm dp ar c s1 t1 (rmT A cl clm dp ar a (s + 1) t m) else rmT A cl clm dp ar b s1 t1 (rmT A cl clm dp ar a (s + 1) t m)) else rmT A cl clm dp ar a (s + 1) t m)) = _
  rw [if_pos h]
theorem ebd_ok {r : evR} {f : vV → Nat → List tH → evR} {v : vV} {s' : Nat} {t' : List tH} (h : r = .ok (v, s', t')) : ebd r f = f v s' t' := by rw [h]; rfl
theorem ebd_er {r : evR} {f : vV → Nat → List tH → evR} {e : Nat} (h : r = .error e) : ebd r f = .error e := by rw [h]; rfl
end EV
