/-! methods that throw, methods that catch -/
section PQ
variable {l : Launch} {E : pmE} {y : MethodName} {cc : ByteArray} {nL : Nat} {ret : Option FieldType} {d kc ks pc : Nat} {lv : List (Nat × Value)} {st : List Value} {S : pmS} {I : pmI} {J : pmJ} {P : pmP} {Q : Option Value → pmS → pmI → pmJ → pmP → Prop} {QX : String → pmS → pmI → pmJ → pmP → Prop}
def pm_XC (E : pmE) (QX : String → pmS → pmI → pmJ → pmP → Prop) : String → State → State → Prop := fun C _ t => ∃ S I J P, QX C S I J P ∧ pm_R E S I J P t.heap
/-- it returns with Q, or throws an object of a class with QX; its code has no handlers -/
def pm_NX (E : pmE) (Q : Option Value → pmS → pmI → pmJ → pmP → Prop) (QX : String → pmS → pmI → pmJ → pmP → Prop) : pm_Z := fun below args s c mc ms t => (∀ x ∈ c.exceptionTable.toList, False) → vx_MQ below (pm_Q E Q) (pm_XC E QX) args s mc ms (fun a => E.B0 ≤ a) t
/-- its code has these handlers; it returns with Q -/
def pm_NT (E : pmE) (tb : List ExceptionTableEntry) (Q : Option Value → pmS → pmI → pmJ → pmP → Prop) : pm_Z := fun below args s c mc ms t => c.exceptionTable.toList = tb → MQ below (pm_Q E Q) args s mc ms (fun a => E.B0 ≤ a) t
theorem pm_wmono {p : Program} {e : Env} {R : Room} {s : State} {m : MethodId} {args : Array Value} {below : List Frame} {meth : Method} {c : Code} {H : Heap} {locs : List Loc} {cells slots : Nat} {Z Z' : State → Prop} {g : JFrame} (h : ∀ t, Z t → Z' t) (k : W p l e R s m args below meth c H locs cells slots Z g) : W p l e R s m args below meth c H locs cells slots Z' g := by
  intro T hT X
  obtain ⟨t, a, b⟩ := k T hT X
  exact ⟨t, a, h t b⟩
theorem pw_X (k : pm_W l E y cc nL ret d kc ks pc lv st S I J P (pm_N E Q)) : pm_W l E y cc nL ret d kc ks pc lv st S I J P (pm_NX E Q QX) := by
  intro p e R s m args below meth c H locs cells slots mc ms ls C hr hl0 hR hv
  exact pm_wmono (fun t h _ => h) (vx_ret (XC := pm_XC E QX) (Qc := pm_Q E Q) (free := fun a => E.B0 ≤ a) (k p e R s m args below meth c H locs cells slots mc ms ls C hr hl0 hR hv))
theorem pw_T {tb : List ExceptionTableEntry} (k : pm_W l E y cc nL ret d kc ks pc lv st S I J P (pm_N E Q)) : pm_W l E y cc nL ret d kc ks pc lv st S I J P (pm_NT E tb Q) := by
  intro p e R s m args below meth c H locs cells slots mc ms ls C hr hl0 hR hv
  exact pm_wmono (fun t h _ => h) (k p e R s m args below meth c H locs cells slots mc ms ls C hr hl0 hR hv)
theorem pm_pushX {H H' : Heap} (hA : pm_A E) (hR : pm_R E S I J P H) (hz : H'.size = H.size + 1) (ho : ∀ q, q < H.size → H'[q]? = H[q]?) : pm_R E (pm_new S 300 0) I J P H' := by
  refine hR.push hA hz ho ?_
  unfold pm_at
  have e6 : ((S.1 + 1, va_up S.2 S.1 (300, 0)) : pmS).2 S.1 = (300, 0) := if_pos rfl
  rw [e6, if_neg (by decide), if_neg (by decide)]
  trivial
theorem pm_word {p : Program} {s : State} {m : MethodId} {args : Array Value} {meth : Method} {c : Code} (C : pm_C E y cc nL ret p s m args meth c) (w : Cond) (h : w ∈ pm_tbl ∨ w ∈ pm_nest) : w.before args s = true := by
  rcases h with h | h
  · exact C.2.2.2.2.2.2.1 w h
  · have h7 := pm_nest_ok w h
    exact va_Nw.use (by revert h7; cases w <;> intro h7 <;> first | rfl | (simp [pm_isNest] at h7)) (C.2.2.2.2.2.2.2.1.2.1 w h)
theorem pm_K.zU {U : State} {H : Heap} (h : pm_K E U) (hR : pm_R E S I J P H) : vx_Zq Bundle.tN "UNASSIGNED_STACK" Bundle.steD (fun a => E.B0 ≤ a) U H := h.2.2.2.2.2.2.1.kept (fun a _ hn => hR.2.2.2.2 a (Nat.lt_of_not_le hn))
theorem pm_K.zN {U : State} {H : Heap} (h : pm_K E U) (hR : pm_R E S I J P H) : vx_Zq Bundle.tN "SUPPRESSED_SENTINEL" Bundle.listD (fun a => E.B0 ≤ a) U H := h.2.2.2.2.2.2.2.1.kept (fun a _ hn => hR.2.2.2.2 a (Nat.lt_of_not_le hn))
theorem pm_mix (L : List Cond) (ps : List Nat) (hp : L.filter goodWord = ps.filterMap (fun i => lw_tbl[i]?)) (h2 : (L.filter (fun w => !goodWord w)).all (fun w => pm_nest.contains w) = true) : ∀ w ∈ L, w ∈ pm_tbl ∨ w ∈ pm_nest := by
  intro w hw
  cases hg : goodWord w with
  | true =>
    have h1 : w ∈ L.filter goodWord := List.mem_filter.mpr ⟨hw, hg⟩
    rw [hp] at h1
    obtain ⟨i, -, hi⟩ := List.mem_filterMap.mp h1
    exact Or.inl (pm_tbl_in (List.mem_of_getElem? hi) hg)
  | false =>
    have h1 := List.all_eq_true.mp h2 w (List.mem_filter.mpr ⟨hw, by rw [hg]; rfl⟩)
    exact Or.inr (List.contains_iff_mem.mp h1)
theorem pw_throw0 {ik ic : Nat} {cls : String} {names : List String} (hl : l.stackTraces = false) (hcls : Bundle.fit cls = true) (hnames : ∀ n ∈ names, Bundle.fit n = true)
    (hw : ∀ w ∈ Cond.classLink y.cls ik cls :: Cond.initialized cls :: vx_at0 y.cls ic cls names, w ∈ pm_tbl ∨ w ∈ pm_nest)
    (hot : ∀ w ∈ Cond.classLink y.cls ik cls :: Cond.initialized cls :: vx_at0 y.cls ic cls names, vx_ot w = true)
    (d0 : decode cc pc = .ok (.new ik, 3)) (d3 : decode cc (pc + 3) = .ok (.dup, 1)) (d4 : decode cc (pc + 4) = .ok (.invokespecial ic, 3)) (d7 : decode cc (pc + 7) = .ok (.athrow, 1))
    (hn : names.length ≤ 4) (hd : 8 ≤ d) (hkc : 1 ≤ kc) (hks : 6 ≤ ks) (k : QX cls (pm_new S 300 0) I J P) : pm_W l E y cc nL ret d kc ks pc lv [] S I J P (pm_NX E Q QX) := by
  intro p e R s m args below meth c H locs cells slots mc ms ls C hr hl0 hR hv
  obtain ⟨hx, hb, hml, hret, hlk, hown, hts, hK, hnm⟩ := id C
  have hA := hK.2.2.2.2.1
  have hwd := fun w h => pm_word C w (hw w h)
  by_cases htab : ∀ x ∈ c.exceptionTable.toList, False
  · refine pm_wmono (Z := vx_MQ below (pm_Q E Q) (pm_XC E QX) args s mc ms (fun a => E.B0 ≤ a)) (fun t h _ => h) ?_
    exact px_throw0 hx hb hl (own := y.cls) (cls := cls) (names := names) (A := fun a => E.B0 ≤ a) hown hcls hnames (hwd _ List.mem_cons_self) (hwd _ (List.mem_cons_of_mem _ List.mem_cons_self)) (fun w h => hwd w (List.mem_cons_of_mem _ (List.mem_cons_of_mem _ h))) hot (hK.zU hR) (hK.zN hR) (hv.1.trans hml.symm) d0 d3 d4 d7 (fun x h => (htab x h).elim) (by omega) (by show 0 + (13 * (names.length + 1) + 42) ≤ R.locals; omega) (by omega) (by omega) hlk (fun t ha hz hq => ⟨pm_new S 300 0, I, J, P, k, pm_pushX hA hR hz hq⟩) hl0 (by omega) (by omega)
  · intro T hT X
    exact ⟨_, Steps.refl _, fun h => absurd h htab⟩
theorem pw_throwN {ik ic : Nat} (hl : l.stackTraces = false)
    (hw : ∀ w ∈ Cond.classLink y.cls ik Bundle.nN :: Cond.initialized Bundle.nN :: px_atN y.cls ic, w ∈ pm_tbl ∨ w ∈ pm_nest)
    (hot : ∀ w ∈ Cond.classLink y.cls ik Bundle.nN :: Cond.initialized Bundle.nN :: px_atN y.cls ic, vx_ot w = true)
    (d0 : decode cc pc = .ok (.new ik, 3)) (d3 : decode cc (pc + 3) = .ok (.dup, 1)) (d4 : decode cc (pc + 4) = .ok (.invokespecial ic, 3)) (d7 : decode cc (pc + 7) = .ok (.athrow, 1))
    (hd : 8 ≤ d) (hkc : 1 ≤ kc) (hks : 8 ≤ ks) (k : QX Bundle.nN (pm_new S 300 0) I J P) : pm_W l E y cc nL ret d kc ks pc lv [] S I J P (pm_NX E Q QX) := by
  intro p e R s m args below meth c H locs cells slots mc ms ls C hr hl0 hR hv
  obtain ⟨hx, hb, hml, hret, hlk, hown, hts, hK, hnm⟩ := id C
  have hA := hK.2.2.2.2.1
  have hwd := fun w h => pm_word C w (hw w h)
  by_cases htab : ∀ x ∈ c.exceptionTable.toList, False
  · refine pm_wmono (Z := vx_MQ below (pm_Q E Q) (pm_XC E QX) args s mc ms (fun a => E.B0 ≤ a)) (fun t h _ => h) ?_
    exact px_throwN hx hb hl (own := y.cls) (A := fun a => E.B0 ≤ a) hown (hwd _ List.mem_cons_self) (hwd _ (List.mem_cons_of_mem _ List.mem_cons_self)) (fun w h => hwd w (List.mem_cons_of_mem _ (List.mem_cons_of_mem _ h))) hot (hK.zU hR) (hK.zN hR) (hv.1.trans hml.symm) d0 d3 d4 d7 (fun x h => (htab x h).elim) (by omega) (by show 0 + 95 ≤ R.locals; omega) (by omega) (by omega) hlk (fun t ha hz hq => ⟨pm_new S 300 0, I, J, P, k, pm_pushX hA hR hz hq⟩) hl0 (by omega) (by omega)
  · intro T hT X
    exact ⟨_, Steps.refl _, fun h => absurd h htab⟩
/-- the contract of a method that returns or throws -/
def pm_MetX (l : Launch) (E : pmE) (y : MethodName) (cc : ByteArray) (nL : Nat) (ret : Option FieldType) (d kc ks : Nat) (as : List Value) (S : pmS) (I : pmI) (J : pmJ) (P : pmP) (Q : Option Value → pmS → pmI → pmJ → pmP → Prop) (QX : String → pmS → pmI → pmJ → pmP → Prop) : Prop :=
  pm_W l E y cc nL ret d kc ks 0 (lv_args 0 as) [] S I J P (pm_NX E Q QX)
theorem pm_MetX.met {as : List Value} (hp : plainName y.cls = true) (hlen : (lg_sl as).length ≤ nL) (h : pm_MetX l E y cc nL ret d kc ks as S I J P Q QX) : vx_Met l y (Cond.code y cc nL ret :: pm_tbl) (pm_rm d kc ks) (pm_Pre E as S I J P) (pm_Q E Q) (pm_XC E QX) kc ks (fun a => E.B0 ≤ a) := by
  refine vx_ofW (cc := cc) (maxL := nL) (ret := ret) hp rfl ?_
  intro p e s m args below meth c s₁ B hml htab hv
  obtain ⟨rfl, hR, hK⟩ := hv
  have hts := atoms_spec (ws := Cond.code y cc nL ret :: pm_tbl) B.pre
  rw [lg_entry_eq]
  have hl := lv_entry (as.map (pm_v E.ad)) (n := nL) (by rw [pm_sl_len]; exact hlen)
  rw [pm_lv_args] at hl
  refine pm_wmono (Z := pm_NX E Q QX below _ s c kc ks) (fun t h => h htab) ?_
  exact h p e _ s m _ below meth c s.heap [] 0 0 kc ks _ ⟨B.exec, B.bytes, hml, B.returns, B.notSynchronized, findClass_of_methodNamed B.named, fun w hw => hts w (List.mem_cons_of_mem _ hw), hK, (name_of_methodNamed B.named B.method).1⟩ ⟨Nat.le_refl d, Nat.le_refl (64 * d), Nat.le_refl kc, Nat.le_refl ks, by omega, by omega⟩ (fun q hq => by cases hq) hR hl
/-- the contract of a method with handlers of its own -/
def pm_MetT (l : Launch) (E : pmE) (y : MethodName) (cc : ByteArray) (nL : Nat) (ret : Option FieldType) (hh : List (Nat × Nat × Nat × Nat)) (d kc ks : Nat) (as : List Value) (S : pmS) (I : pmI) (J : pmJ) (P : pmP) (Q : Option Value → pmS → pmI → pmJ → pmP → Prop) : Prop :=
  pm_W l E y cc nL ret d kc ks 0 (lv_args 0 as) [] S I J P (pm_NT E (tableOf hh) Q)
theorem pm_MetT.met {as : List Value} {hh : List (Nat × Nat × Nat × Nat)} (hp : plainName y.cls = true) (hlen : (lg_sl as).length ≤ nL) (h : pm_MetT l E y cc nL ret hh d kc ks as S I J P Q) : Met l y (Cond.codeWith y cc nL ret hh :: pm_tbl) (pm_rm d kc ks) (pm_Pre E as S I J P) (pm_Q E Q) kc ks (fun a => E.B0 ≤ a) := by
  refine va_MetW (cc := cc) (maxL := nL) (ret := ret) (hh := hh) hp rfl ?_
  intro p e s m args below meth c s₁ B hml hv
  obtain ⟨rfl, hR, hK⟩ := hv
  have hts := atoms_spec (ws := Cond.codeWith y cc nL ret hh :: pm_tbl) B.pre
  have htab := vx_table (x := y) B (hts _ List.mem_cons_self)
  rw [lg_entry_eq]
  have hl := lv_entry (as.map (pm_v E.ad)) (n := nL) (by rw [pm_sl_len]; exact hlen)
  rw [pm_lv_args] at hl
  refine pm_wmono (Z := pm_NT E (tableOf hh) Q below _ s c kc ks) (fun t h => h htab) ?_
  exact h p e _ s m _ below meth c s.heap [] 0 0 kc ks _ ⟨B.exec, B.bytes, hml, B.returns, B.notSynchronized, findClass_of_methodNamed B.named, fun w hw => hts w (List.mem_cons_of_mem _ hw), hK, (name_of_methodNamed B.named B.method).1⟩ ⟨Nat.le_refl d, Nat.le_refl (64 * d), Nat.le_refl kc, Nat.le_refl ks, by omega, by omega⟩ (fun q hq => by cases hq) hR hl
/-- an object of class C, thrown at pc, is taken by the table's row whose handler stands at hp -/
def pm_CT (own : String) (tb : List ExceptionTableEntry) (pc : Nat) (C : String) (hp : Nat) : Prop :=
  ∃ (pre : List ExceptionTableEntry) (x : ExceptionTableEntry) (suf : List ExceptionTableEntry), tb = pre ++ x :: suf ∧
    (∀ z ∈ pre, covers z pc = false ∨ (z.catchType ≠ 0 ∧ ∃ nm : String, Cond.classLink own z.catchType nm ∈ pm_tbl ∧ C = "java/lang/ClassCastException" ∧ nm = "java/lang/NullPointerException")) ∧
    covers x pc = true ∧ x.catchType ≠ 0 ∧ (∃ nm : String, Cond.classLink own x.catchType nm ∈ pm_tbl ∧ (Cond.castable C nm ∈ pm_tbl ∨ Cond.castable C nm ∈ pm_nest)) ∧ x.handlerPc = hp
theorem pw_callVT {idx ci n nL' b kc' ks' : Nat} {y' : MethodName} {cc' : ByteArray} {ret' : Option FieldType} {as stk : List Value} {tb : List ExceptionTableEntry} {Cs : List String} {hp : String → Nat} {j ln : Nat} {lv' : List (Nat × Value)} (hL : pm_LV y.cls idx ci y' cc' nL' ret' n) (hd : decode cc pc = .ok (.invokevirtual idx, 3)) (hstk : stk = as.reverse ++ .ref b :: st) (hn : as.length = n) (hb : b < S.1) (hs : (S.2 b).1 = ci) (hlen : (lg_sl (.ref b :: as)).length ≤ nL') (hdp : 1 ≤ d) (hw : (st.map fun v => v.category).sum ≤ 8) (hkc : kc' ≤ kc) (hks : ks' ≤ ks)
    (hct : ∀ C ∈ Cs, pm_CT y.cls tb pc C (hp C) ∧ ((∃ k : Fin 4, (k : Nat) = j ∧ decode cc (hp C) = .ok (.astore_n k, 1) ∧ ln = 1) ∨ (decode cc (hp C) = .ok (.astore j, 2) ∧ ln = 2))) (hj : j < nL) (hlv : lv.filter (fun q => !(q.1 == j) && !(q.1 + 1 == j && q.2.category == 2)) = lv')
    (kk : pm_MetX l E y' cc' nL' ret' (d - 1) kc' ks' (.ref b :: as) S I J P (fun v S' I' J' P' => pm_W l E y cc nL ret d (kc - kc') (ks - ks') (pc + 3) lv (pm_ps v st) S' I' J' P' (pm_NT E tb Q)) (fun C S' I' J' P' => C ∈ Cs ∧ pm_W l E y cc nL ret d (kc - kc') (ks - ks') (hp C + ln) lv' [] S' I' J' P' (pm_NT E tb Q))) : pm_W l E y cc nL ret d kc ks pc lv stk S I J P (pm_NT E tb Q) := by
  intro p e R s m args below meth c H locs cells slots mc ms ls C hr hl0 hR hv
  obtain ⟨hx, hbb, hml, hret, hlk, hown, hts, hK, hnm⟩ := id C
  obtain ⟨⟨Tt, N, hc⟩, hci, hw1, hw2, hw3, hw4, hw5, hdd, hpl, hnl⟩ := hL
  by_cases htab : c.exceptionTable.toList = tb
  · have hM := pm_MetX.met hpl hlen kk
    have hrun := vx_runV (p := p) (e := e) (R := R) (s := s) (m := m) (args := args) (below := below) (meth := meth) (c := c) (H := H) (locs := locs) (cells := cells) (slots := slots) (C := y'.cls) (n := n) (b := E.ad b) (As := as.map (pm_v E.ad)) (rest := st.map (pm_v E.ad)) (g := F0 m pc ls (stk.map (pm_v E.ad))) ⟨hx, hbb, hml, hown, hts⟩ hM ⟨callB_of n hts (pm_goodIn hw5) rfl rfl rfl (hts _ hw4) (hts _ hw1) hdd ⟨by show d - 1 + 1 ≤ R.frames; omega, by show 8 + (nL' + 11) + 64 * (d - 1) ≤ R.locals; omega⟩, hts _ hw2, hts _ hw3⟩ ⟨pm_Pre.blind, pm_recv hK hR hb hs hci hc, fun U hU hW => ⟨rfl, by rw [hU]; exact hR, hK.warm hW⟩⟩ rfl (by rw [List.length_map]; exact hn) hv.1 (by show stk.map (pm_v E.ad) = _; rw [hstk, List.map_append, List.map_reverse]; rfl) (by rw [pm_cats]; show 2 * 0 + _ ≤ 8; omega) hd (by omega)
    intro T hT X
    rcases hrun T hT X with ⟨v, st₀, t, T', L, h0, X', hL', e1, e2, ⟨v', S', I', J', P', hv', hq, hR'⟩, stp⟩ | ⟨q, st₀, t, T', L, Cx, ce, h0, X', hL', e1, e2, ⟨S', I', J', P', ⟨hC, hq⟩, hR'⟩, hce, hcv, hcl, stp⟩
    · cases hv'
      obtain ⟨t2, a1, b1⟩ := hq p e R s m args below meth c T'.heap (locs ++ L) (cells + kc') (slots + ks') mc ms ls C (by omega) (fun z hz => by
        rcases List.mem_append.mp hz with h | h
        · exact hl0 z h
        · exact hL' z h) (by rw [e1]; exact hR') hv T' rfl X'
      refine ⟨t2, stp t2 ?_, b1⟩
      have e3 : (pm_ps v' st).map (pm_v E.ad) = (v'.map (pm_v E.ad)).toList ++ st.map (pm_v E.ad) := by cases v' <;> rfl
      rw [e3] at a1
      exact a1
    · obtain ⟨⟨pre, x, suf, hsp, hpass, hxc, hx0, ⟨nm, hln, hca⟩, hhp⟩, hdst⟩ := hct Cx hC
      have hwk : vx_W p l e R s m args below meth c T'.heap (locs ++ L) (cells + kc') (slots + ks') (pm_NT E tb Q below args s c mc ms) (F0 m pc ls (st.map (pm_v E.ad))) q := by
        refine vx_catch (own := y.cls) (name := nm) (E := Cx) (ce := ce) hown pre x suf (htab.trans hsp) (fun z hz => ?_) hxc hx0 (hts _ hln) (pm_word C _ hca) (by rw [e1]; exact hce) hcv hcl ?_
        · rcases hpass z hz with h | ⟨h1, nm', h2, h3, h4⟩
          · exact Or.inl h
          · subst h3; subst h4
            exact Or.inr ⟨h1, _, hts _ h2, hK.2.2.2.2.2.2.2.2.1⟩
        · rw [hhp]
          have hgo : ∀ ls' : Array Slot, lv_has ls' nL ((j, Value.ref q) :: (pm_lv E.ad lv).filter (fun q => !(q.1 == j) && !(q.1 + 1 == j && q.2.category == 2))) → W p l e R s m args below meth c T'.heap (locs ++ L) (cells + kc') (slots + ks') (pm_NT E tb Q below args s c mc ms) (F0 m (hp Cx + ln) ls' []) := by
            intro ls' hv'
            refine hq p e R s m args below meth c T'.heap (locs ++ L) (cells + kc') (slots + ks') mc ms ls' C (by omega) (fun z hz => by
              rcases List.mem_append.mp hz with h | h
              · exact hl0 z h
              · exact hL' z h) (by rw [e1]; exact hR') ?_
            subst hlv
            refine ⟨hv'.1, hv'.2.1, fun z hz => hv'.2.2 z (List.mem_cons_of_mem _ ?_)⟩
            have e4 := pm_st1_map E.ad j (.int 0) lv
            simp only [pm_st1] at e4
            have e5 : (pm_lv E.ad lv).filter (fun q => !(q.1 == j) && !(q.1 + 1 == j && q.2.category == 2)) = pm_lv E.ad (lv.filter (fun q => !(q.1 == j) && !(q.1 + 1 == j && q.2.category == 2))) := (List.cons.inj e4).2
            rw [e5]
            exact hz
          rcases hdst with ⟨k, hk, hdst, hln⟩ | ⟨hdst, hln⟩
          · subst hln
            exact lv_astore_n hx hbb hdst hk hv hj rfl hgo
          · subst hln
            exact lv_astore hx hbb hdst hv hj rfl hgo
      obtain ⟨t2, a1, b1⟩ := hwk T' rfl X'
      exact ⟨t2, stp.trans a1, b1⟩
  · intro T hT X
    exact ⟨_, Steps.refl _, fun h => absurd h htab⟩
/-- a static method with handlers, as an instruction of class own names it -/
def pm_LSW (own : String) (idx : Nat) (y : MethodName) (cc : ByteArray) (nL : Nat) (ret : Option FieldType) (hh : List (Nat × Nat × Nat × Nat)) (n : Nat) : Prop :=
  Cond.methodLink own idx y ∈ pm_tbl ∧ Cond.static y ∈ pm_tbl ∧ Cond.initialized y.cls ∈ pm_tbl ∧ Cond.codeWith y cc nL ret hh ∈ pm_tbl ∧
  (y.cls ≠ "java/lang/invoke/MethodHandle" ∧ y.cls ≠ "java/lang/invoke/VarHandle" ∧ (parseMethodDescriptor y.desc).map (fun d => d.parameters.length) = some n) ∧ plainName y.cls = true ∧ nL ≤ 45
theorem pw_callSW {Z : pm_Z} {idx n nL' kc' ks' : Nat} {y' : MethodName} {cc' : ByteArray} {ret' : Option FieldType} {hh : List (Nat × Nat × Nat × Nat)} {as stk : List Value} (hL : pm_LSW y.cls idx y' cc' nL' ret' hh n) (hd : decode cc pc = .ok (.invokestatic idx, 3)) (hstk : stk = as.reverse ++ st) (hn : as.length = n) (hlen : (lg_sl as).length ≤ nL') (hdp : 1 ≤ d) (hw : (st.map fun v => v.category).sum ≤ 8) (hkc : kc' ≤ kc) (hks : ks' ≤ ks)
    (kk : pm_MetT l E y' cc' nL' ret' hh (d - 1) kc' ks' as S I J P (fun v S' I' J' P' => pm_W l E y cc nL ret d (kc - kc') (ks - ks') (pc + 3) lv (pm_ps v st) S' I' J' P' Z)) : pm_W l E y cc nL ret d kc ks pc lv stk S I J P Z := by
  intro p e R s m args below meth c H locs cells slots mc ms ls C hr hl0 hR hv
  obtain ⟨hx, hbb, hml, hret, hlk, hown, hts, hK, hnm⟩ := id C
  obtain ⟨hw1, hw2, hw4, hw5, hdd, hpl, hnl⟩ := hL
  have hM := pm_MetT.met hpl hlen kk
  have hG : GoodIn pm_tbl (va_wsS y.cls idx y' (Cond.codeWith y' cc' nL' ret' hh :: pm_tbl)) := by
    intro x hx9
    have h1 : x ∈ pm_tbl := by
      unfold va_wsS at hx9
      rcases List.mem_append.mp hx9 with h | h
      · simp only [List.mem_cons, List.not_mem_nil, or_false] at h
        rcases h with rfl | rfl | rfl
        · exact hw1
        · exact hw2
        · exact hw4
      · rcases List.mem_cons.mp h with rfl | h2
        · exact hw5
        · exact h2
    exact ⟨h1, good_of_word (List.mem_filter.mp h1).2⟩
  refine pm_back (vx_runSW (n := n) (As := as.map (pm_v E.ad)) ⟨hx, hbb, hml, hown, hts⟩ hM (vx_cwSW n hts hG rfl rfl rfl hdd ⟨by show d - 1 + 1 ≤ R.frames; omega, by show 8 + (nL' + 11) + 64 * (d - 1) ≤ R.locals; omega⟩) ⟨pm_Pre.blind, fun U hU hW => ⟨rfl, by rw [hU]; exact hR, hK.warm hW⟩⟩ rfl (by rw [List.length_map]; exact hn) hv.1 ?_ ?_ hd (by omega)) C hr hl0 hv hkc hks (fun v S' I' J' P' h => h)
  · show stk.map (pm_v E.ad) = _
    rw [hstk, List.map_append, List.map_reverse]
  · rw [pm_cats]; show 2 * 0 + _ ≤ 8; omega
end PQ
