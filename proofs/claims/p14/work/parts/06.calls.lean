section PX
variable {l : Launch} {E : pmE} {y : MethodName} {cc : ByteArray} {nL : Nat} {ret : Option FieldType} {d kc ks pc : Nat} {lv : List (Nat × Value)} {st : List Value} {S : pmS} {I : pmI} {J : pmJ} {P : pmP} {Q : pm_Z}
theorem pw_aast {a b n t ci : Nat} {i : Int32} (hd : decode cc pc = .ok (.aastore, 1)) (ha2 : 2 ≤ a) (ha : a < S.1) (hs : S.2 a = (t, n)) (ht : (t = 104 ∧ ci = 4) ∨ (t = 105 ∧ ci = 9)) (hi : vp_in i n) (hb0 : b < S.1) (hbs : (S.2 b).1 = ci)
    (kk : pm_W l E y cc nL ret d kc ks (pc + 1) lv st S I J (pm_u P a i.toNatClampNeg (some b)) Q) : pm_W l E y cc nL ret d kc ks pc lv (.ref b :: .int i :: .ref a :: st) S I J P Q := by
  intro p e R s m args below meth c H locs cells slots mc ms ls C hr hl0 hR hv
  obtain ⟨hx, hb, hml, hret, hlk, hown, hts, hK, hnm⟩ := id C
  have h0 : ¬ i < 0 := fun q => hi (Or.inl q)
  have hlt : i.toNatClampNeg < n := Nat.not_le.mp fun q => hi (Or.inr q)
  have hgo : ∀ H' : Heap, H'[E.ad a]? = some ((arrV (E.cA t) n (pm_val E.ad t I J P a)).setSlot i.toNatClampNeg (.ref (E.ad b))) → H'.size = H.size → (∀ q, q ≠ E.ad a → H'[q]? = H[q]?) → W p l e R s m args below meth c H' (locs ++ [⟨E.ad a, i.toNatClampNeg⟩]) cells slots (Q below args s c mc ms) (F0 m (pc + 1) ls (st.map (pm_v E.ad))) := by
    intro H' e1 e2 e3
    refine kk p e R s m args below meth c H' _ cells slots mc ms ls C hr (pm_locs hK.2.2.2.2.1 ha2 hl0) (hR.store hK.2.2.2.2.1 ha2 ha hs (by omega) (by omega) e1 e2 e3 (fun j => ?_) (fun _ _ => rfl) (fun _ _ => rfl) (fun _ h => pm_u_ne h)) hv
    exact pm_valP (x := some b) (by rcases ht with ⟨rfl, -⟩ | ⟨rfl, -⟩ <;> rfl) j
  rcases ht with ⟨rfl, rfl⟩ | ⟨rfl, rfl⟩
  · obtain ⟨cell, q1, q2, q3, q4⟩ := hR.obj hb0 hbs (by decide) (r := (RX0, TX0, 6)) rfl
    have hcls := (hK.1.1 4 (RX0, TX0, 6) rfl).2
    obtain ⟨kA, comp, k1, k2, k3, -⟩ := (pm_tyAt hK 4 rfl).2
    have hcomp : comp = E.D.1 4 := Option.some.inj (k3.symm.trans hcls.1)
    subst hcomp
    obtain ⟨kC, hkC, -⟩ := hcls.2
    exact W.aast hx hb (hR.arr ha hs (by decide) (by decide)) (fun q h => by cases h) (fun h => by cases h) k1 k2 rfl hkC ⟨h0, by rw [arrV_size]; exact hlt⟩ q1 (fun q h => by rw [q3] at h; cases h) (by rw [q2]; exact hkC) (by rw [q2]; exact va_assign hcls) rfl rfl hd hgo
  · obtain ⟨cell, q1, q2, q3, q4⟩ := hR.obj hb0 hbs (by decide) (r := (RX5, TX5, 5)) rfl
    have hcls := (hK.1.1 9 (RX5, TX5, 5) rfl).2
    obtain ⟨kA, comp, k1, k2, k3, -⟩ := (pm_tyAt hK 5 rfl).2
    have hcomp : comp = E.D.1 9 := Option.some.inj (k3.symm.trans hcls.1)
    subst hcomp
    obtain ⟨kC, hkC, -⟩ := hcls.2
    exact W.aast hx hb (hR.arr ha hs (by decide) (by decide)) (fun q h => by cases h) (fun h => by cases h) k1 k2 rfl hkC ⟨h0, by rw [arrV_size]; exact hlt⟩ q1 (fun q h => by rw [q3] at h; cases h) (by rw [q2]; exact hkC) (by rw [q2]; exact va_assign hcls) rfl rfl hd hgo
theorem pw_anewa {t idx : Nat} {Cn : String} {n : Int32} {N : Nat} (hd : decode cc pc = .ok (.anewarray idx, 3)) (ht : (Cn = "SnippetShell$Code" ∧ t = 104) ∨ (Cn = "SnippetShell$Snippet" ∧ t = 105)) (hw : Cond.classLink y.cls idx Cn ∈ pm_tbl) (hn : ¬ n < 0) (hN : n.toNatClampNeg = N) (hM : N ≤ 60000000) (hkc : 1 ≤ kc) (hks : N ≤ ks)
    (kk : (∀ k, P S.1 k = none) → pm_W l E y cc nL ret d (kc - 1) (ks - N) (pc + 3) lv (.ref S.1 :: st) (pm_new S t N) I J P Q) : pm_W l E y cc nL ret d kc ks pc lv (.int n :: st) S I J P Q := by
  intro p e R s m args below meth c H locs cells slots mc ms ls C hr hl0 hR hv
  obtain ⟨hx, hb, hml, hret, hlk, hown, hts, hK, hnm⟩ := id C
  have hA := hK.2.2.2.2.1
  have hao : va_AO Cn s := by rcases ht with ⟨rfl, -⟩ | ⟨rfl, -⟩; exact hK.2.2.1; exact hK.2.2.2.1
  subst hN
  refine W.anew hx hb hown (hts _ hw) (va_AO.use hao) rfl hd rfl hn (by omega) (by omega) (by omega) fun cA kA comp f1 f2 f3 f4 => ?_
  generalize hH1 : H.push ({ cls := cA, slots := Array.replicate n.toNatClampNeg .null, vm := .none } : Cell) = H1
  have z1 : H1.size = H.size + 1 := by rw [← hH1, Array.size_push]
  have e1 : H1[H.size]? = some (arrV cA n.toNatClampNeg (fun _ => .null)) := by rw [← hH1, Array.getElem?_push_size, ← arrV_new]
  have o1 : ∀ q : Nat, q < H.size → H1[q]? = H[q]? := fun q hq => by rw [← hH1, Array.getElem?_push, if_neg (Nat.ne_of_lt hq)]
  have hk := kk (fun k => (hR.2.2.2.1 _ (Nat.le_refl _) k).2.2) p e R s m args below meth c H1 locs (cells + 1) (slots + n.toNatClampNeg) mc ms ls C (by omega) hl0 (hR.push hA z1 o1 ?_) hv
  · have he : pm_v E.ad (.ref S.1) = .ref H.size := by show Value.ref (E.ad S.1) = _; rw [hA.next hR]
    rw [List.map_cons, he] at hk
    exact hk
  · unfold pm_at
    have e6 : ((S.1 + 1, va_up S.2 S.1 (t, n.toNatClampNeg)) : pmS).2 S.1 = (t, n.toNatClampNeg) := if_pos rfl
    rw [e6, if_neg (show ¬ t < 100 by omega), if_pos (show t < 200 by omega), hA.next hR, e1]
    have ec : cA = E.cA t := by
      rcases ht with ⟨rfl, rfl⟩ | ⟨rfl, rfl⟩
      · obtain ⟨_, _, -, -, -, h4⟩ := (pm_tyAt hK 4 rfl).2
        exact Option.some.inj (f1.symm.trans h4)
      · obtain ⟨_, _, -, -, -, h4⟩ := (pm_tyAt hK 5 rfl).2
        exact Option.some.inj (f1.symm.trans h4)
    subst ec
    congr 2
    funext k
    rw [hR.fresh]
    rcases ht with ⟨-, rfl⟩ | ⟨-, rfl⟩ <;> rfl
/-- a class that an instruction makes: its place in vwCl, its fields -/
def pm_NL (own : String) (idx ci N : Nat) : Prop := ∃ (C : String) (T : u_T) (ty : Nat → FieldType), vwCl[ci]? = some (C, T, N) ∧ ci < 100 ∧ (∀ w ∈ u_ws C T N, w ∈ pm_tbl) ∧ (∀ j, j < N → parseFieldDescriptor (T j).2.2.1 = some (ty j)) ∧ Cond.classLink own idx C ∈ pm_tbl ∧ Cond.instantiable C N ∈ pm_tbl ∧ Cond.initialized C ∈ pm_tbl ∧ ∀ j, j < N → defaultValue (ty j) = if pm_fk ci j = 0 then .int 0 else if pm_fk ci j = 1 then .long 0 else .null
theorem pw_new {idx ci N : Nat} (hN : pm_NL y.cls idx ci N) (hd : decode cc pc = .ok (.new idx, 3)) (hkc : 1 ≤ kc) (hks : N ≤ ks)
    (kk : (∀ k, I S.1 k = 0) → (∀ k, J S.1 k = 0) → (∀ k, P S.1 k = none) → pm_W l E y cc nL ret d (kc - 1) (ks - N) (pc + 3) lv (.ref S.1 :: st) (pm_new S ci N) I J P Q) : pm_W l E y cc nL ret d kc ks pc lv st S I J P Q := by
  intro p e R s m args below meth c H locs cells slots mc ms ls C hr hl0 hR hv
  obtain ⟨hx, hb, hml, hret, hlk, hown, hts, hK, hnm⟩ := id C
  have hA := hK.2.2.2.2.1
  obtain ⟨Cn, T, ty, hc, hci, hin, hty, hw1, hw2, hw3, hdv⟩ := hN
  have hKn := hK.1.1 ci _ hc
  refine W.newcK hx hb hown (hts _ hw1) (hts _ hw2) (hts _ hw3) rfl hd (by omega) (by omega) hKn.2.1 rfl fun H1 kC hkC e1 z1 o1 => ?_
  have hk := kk (fun k => (hR.2.2.2.1 _ (Nat.le_refl _) k).1) (fun k => (hR.2.2.2.1 _ (Nat.le_refl _) k).2.1) (fun k => (hR.2.2.2.1 _ (Nat.le_refl _) k).2.2) p e R s m args below meth c H1 locs (cells + 1) (slots + N) mc ms ls C (by omega) hl0 (hR.push hA z1 o1 ?_) hv
  · have he : pm_v E.ad (.ref S.1) = .ref H.size := by show Value.ref (E.ad S.1) = _; rw [hA.next hR]
    rw [List.map_cons, he] at hk
    exact hk
  · unfold pm_at
    have e6 : ((S.1 + 1, va_up S.2 S.1 (ci, N)) : pmS).2 S.1 = (ci, N) := if_pos rfl
    rw [e6, if_pos hci]
    refine ⟨_, hc, ?_⟩
    rw [hA.next hR]
    exact (u_born ty hts hin hKn hkC e1 hty).to (fun j hj => by rw [hR.fresh]; exact hdv j hj)
theorem pw_objInit {idx a : Nat} (hd : decode cc pc = .ok (.invokespecial idx, 3)) (hw1 : Cond.methodLink y.cls idx objectInit ∈ pm_tbl) (hw2 : Cond.instanceMethod objectInit ∈ pm_tbl) (hw3 : Cond.code objectInit ⟨#[0xb1]⟩ 1 none ∈ pm_tbl) (hdp : 1 ≤ d) (hw : (st.map fun v => v.category).sum ≤ 40)
    (kk : pm_W l E y cc nL ret d kc ks (pc + 3) lv st S I J P Q) : pm_W l E y cc nL ret d kc ks pc lv (.ref a :: st) S I J P Q := by
  intro p e R s m args below meth c H locs cells slots mc ms ls C hr hl0 hR hv
  obtain ⟨hx, hb, hml, hret, hlk, hown, hts, hK, hnm⟩ := id C
  refine W.objInit hx hb hown (hts _ hw1) (hts _ hw2) (hts _ hw3) rfl (by rw [hml]; exact hv.1) rfl hd (by omega) ?_ (kk p e R s m args below meth c H locs cells slots mc ms ls C hr hl0 hR hv)
  have h1 : ((st.map (pm_v E.ad)).map fun v => v.category).sum = (st.map fun v => v.category).sum := by
    rw [List.map_map]; congr 2; funext v; exact pm_v_cat _ v
  have h2 : (F0 m pc ls (((.ref a : Value) :: st).map (pm_v E.ad))).monitorRoom = 0 := rfl
  rw [h1, h2]
  omega
theorem pw_ldc {idx : Nat} {v : Int32} (hd : decode cc pc = .ok (.ldc idx, 2)) (hw : Cond.constant y.cls idx v ∈ pm_tbl) (kk : pm_W l E y cc nL ret d kc ks (pc + 2) lv (.int v :: st) S I J P Q) : pm_W l E y cc nL ret d kc ks pc lv st S I J P Q := by
  intro p e R s m args below meth c H locs cells slots mc ms ls C hr hl0 hR hv
  obtain ⟨hx, hb, hml, hret, hlk, hown, hts, hK, hnm⟩ := id C
  exact W.ldc hx hb hown (hts _ hw) rfl hd (kk p e R s m args below meth c H locs cells slots mc ms ls C hr hl0 hR hv)
theorem pw_ldc2 {idx : Nat} {v : Int64} (hd : decode cc pc = .ok (.ldc2_w idx, 3)) (hw : Cond.constantLong y.cls idx v ∈ pm_tbl) (kk : pm_W l E y cc nL ret d kc ks (pc + 3) lv (.long v :: st) S I J P Q) : pm_W l E y cc nL ret d kc ks pc lv st S I J P Q := by
  intro p e R s m args below meth c H locs cells slots mc ms ls C hr hl0 hR hv
  obtain ⟨hx, hb, hml, hret, hlk, hown, hts, hK, hnm⟩ := id C
  exact W.ldc2 hx hb hown (hts _ hw) rfl hd (kk p e R s m args below meth c H locs cells slots mc ms ls C hr hl0 hR hv)
/-! a method's contract, and calls of it -/
/-- what a call leaves on the stack -/
def pm_ps (v : Option Value) (st : List Value) : List Value := match v with
  | some x => x :: st
  | none => st
def pm_Met (l : Launch) (E : pmE) (y : MethodName) (cc : ByteArray) (nL : Nat) (ret : Option FieldType) (d kc ks : Nat) (as : List Value) (S : pmS) (I : pmI) (J : pmJ) (P : pmP) (Q : Option Value → pmS → pmI → pmJ → pmP → Prop) : Prop :=
  pm_W l E y cc nL ret d kc ks 0 (lv_args 0 as) [] S I J P (pm_N E Q)
theorem pm_lv_args (ad : Nat → Nat) (as : List Value) : ∀ i, lv_args i (as.map (pm_v ad)) = pm_lv ad (lv_args i as) := by
  induction as with
  | nil => intro i; rfl
  | cons v t ih =>
    intro i
    show (i, pm_v ad v) :: lv_args (if (pm_v ad v).category = 2 then i + 2 else i + 1) (t.map (pm_v ad)) = (i, pm_v ad v) :: pm_lv ad (lv_args (if v.category = 2 then i + 2 else i + 1) t)
    rw [pm_v_cat, ih]
theorem pm_sl_len (ad : Nat → Nat) (as : List Value) : (lg_sl (as.map (pm_v ad))).length = (lg_sl as).length := by
  induction as with
  | nil => rfl
  | cons v t ih =>
    have e : ∀ (w : Value) (u : List Value), lg_sl (w :: u) = (if w.category = 2 then [Slot.val w, .second] else [.val w]) ++ lg_sl u := fun w u => rfl
    rw [List.map_cons, e, e, List.length_append, List.length_append, ih, pm_v_cat]
    by_cases h : v.category = 2
    · rw [if_pos h, if_pos h]; rfl
    · rw [if_neg h, if_neg h]; rfl
def pm_rm (d kc ks : Nat) : Room := { frames := d, cells := kc, slots := ks, locals := 64 * d }
def pm_Pre (E : pmE) (as : List Value) (S : pmS) (I : pmI) (J : pmJ) (P : pmP) : Array Value → State → Prop := fun v U => v = (as.map (pm_v E.ad)).toArray ∧ pm_R E S I J P U.heap ∧ pm_K E U
theorem pm_Met.met {Q : Option Value → pmS → pmI → pmJ → pmP → Prop} {as : List Value} (hp : plainName y.cls = true) (hlen : (lg_sl as).length ≤ nL) (h : pm_Met l E y cc nL ret d kc ks as S I J P Q) : Met l y (Cond.code y cc nL ret :: pm_tbl) (pm_rm d kc ks) (pm_Pre E as S I J P) (pm_Q E Q) kc ks (fun a => E.B0 ≤ a) := by
  refine Met.ofW (cc := cc) (maxL := nL) (ret := ret) hp rfl ?_
  intro p e s m args below meth c s₁ B hml hv
  obtain ⟨rfl, hR, hK⟩ := hv
  have hts := atoms_spec (ws := Cond.code y cc nL ret :: pm_tbl) B.pre
  rw [lg_entry_eq]
  have hl := lv_entry (as.map (pm_v E.ad)) (n := nL) (by rw [pm_sl_len]; exact hlen)
  rw [pm_lv_args] at hl
  exact h p e _ s m _ below meth c s.heap [] 0 0 kc ks _ ⟨B.exec, B.bytes, hml, B.returns, B.notSynchronized, findClass_of_methodNamed B.named, fun w hw => hts w (List.mem_cons_of_mem _ hw), hK, (name_of_methodNamed B.named B.method).1⟩ ⟨Nat.le_refl d, Nat.le_refl (64 * d), Nat.le_refl kc, Nat.le_refl ks, by omega, by omega⟩ (fun q hq => by cases hq) hR hl
theorem pm_Pre.blind {as : List Value} : FrameBlind (pm_Pre E as S I J P) := fun a U g mk q => ⟨q.1, q.2.1, q.2.2.calling⟩
theorem pm_goodIn {w : Cond} (h : w ∈ pm_tbl) : GoodIn pm_tbl (w :: pm_tbl) := by
  intro x hx
  have h1 : x ∈ pm_tbl := by
    rcases List.mem_cons.mp hx with rfl | h2
    · exact h
    · exact h2
  exact ⟨h1, good_of_word (List.mem_filter.mp h1).2⟩
theorem pm_cats (ad : Nat → Nat) (st : List Value) : ((st.map (pm_v ad)).map fun v => v.category).sum = (st.map fun v => v.category).sum := by
  rw [List.map_map]; congr 2; funext v; exact pm_v_cat _ v
/-- behind a call: the caller goes on with what came back -/
theorem pm_back {p : Program} {e : Env} {R : Room} {s : State} {m : MethodId} {args : Array Value} {below : List Frame} {meth : Method} {c : Code} {H : Heap} {locs : List Loc} {cells slots mc ms kc' ks' : Nat} {ls : Array Slot} {st0 : List Value} {as : Array Value} {Q' : Option Value → pmS → pmI → pmJ → pmP → Prop}
    (hr : va_Run p l e R s m args below meth c H locs cells slots kc' ks' (F0 m pc ls st0) (st.map (pm_v E.ad)) (pm_Q E Q' as) (fun a => E.B0 ≤ a)) (C : pm_C E y cc nL ret p s m args meth c) (hrm : d ≤ R.frames ∧ 64 * d ≤ R.locals ∧ mc ≤ R.cells ∧ ms ≤ R.slots ∧ cells + kc ≤ mc ∧ slots + ks ≤ ms) (hl0 : ∀ q ∈ locs, E.B0 ≤ q.base) (hv : lv_has ls nL (pm_lv E.ad lv)) (hkc : kc' ≤ kc) (hks : ks' ≤ ks)
    (kk : ∀ v S' I' J' P', Q' v S' I' J' P' → pm_W l E y cc nL ret d (kc - kc') (ks - ks') (pc + 3) lv (pm_ps v st) S' I' J' P' Q) : W p l e R s m args below meth c H locs cells slots (Q below args s c mc ms) (F0 m pc ls st0) := by
  intro T hT X
  obtain ⟨v, st₀, t, T', L, h0, X', hL, e1, e2, ⟨v', S', I', J', P', hv', hq, hR'⟩, stp⟩ := hr T hT X
  cases hv'
  have hk := kk v' S' I' J' P' hq p e R s m args below meth c T'.heap (locs ++ L) (cells + kc') (slots + ks') mc ms ls C (by omega) (fun q hq => by
    rcases List.mem_append.mp hq with h | h
    · exact hl0 q h
    · exact hL q h) (by rw [e1]; exact hR') hv T' rfl X'
  obtain ⟨t2, a1, b1⟩ := hk
  refine ⟨t2, stp t2 ?_, b1⟩
  have e3 : (pm_ps v' st).map (pm_v E.ad) = (v'.map (pm_v E.ad)).toList ++ st.map (pm_v E.ad) := by cases v' <;> rfl
  rw [e3] at a1
  exact a1
/-- an instance method of class ci, as an instruction of class own names it -/
def pm_LV (own : String) (idx ci : Nat) (y : MethodName) (cc : ByteArray) (nL : Nat) (ret : Option FieldType) (n : Nat) : Prop :=
  (∃ (T : u_T) (N : Nat), vwCl[ci]? = some (y.cls, T, N)) ∧ ci < 100 ∧ Cond.methodLink own idx y ∈ pm_tbl ∧ Cond.instanceMethod y ∈ pm_tbl ∧ Cond.selects y.cls y y ∈ pm_tbl ∧ Cond.initialized y.cls ∈ pm_tbl ∧ Cond.code y cc nL ret ∈ pm_tbl ∧
  (y.cls ≠ "java/lang/invoke/MethodHandle" ∧ y.cls ≠ "java/lang/invoke/VarHandle" ∧ (parseMethodDescriptor y.desc).map (fun d => d.parameters.length) = some n) ∧ plainName y.cls = true ∧ nL ≤ 45
theorem pm_recv {s : State} {H : Heap} (hK : pm_K E s) (hR : pm_R E S I J P H) {b ci : Nat} (hb : b < S.1) (hs : (S.2 b).1 = ci) (hci : ci < 100) {r : vw_C} (hc : vwCl[ci]? = some r) : ∃ cell : Cell, H[E.ad b]? = some cell ∧ cell.vm.isStatics = false ∧ s.vm.findClass r.1 = some cell.cls := by
  obtain ⟨cell, q1, q2, q3, q4⟩ := hR.obj hb hs hci hc
  exact ⟨cell, q1, by rw [q3]; rfl, by rw [q2]; exact (hK.1.1 ci _ hc).2.1⟩
theorem pw_callV {idx ci n nL' b kc' ks' : Nat} {y' : MethodName} {cc' : ByteArray} {ret' : Option FieldType} {as stk : List Value} (hL : pm_LV y.cls idx ci y' cc' nL' ret' n) (hd : decode cc pc = .ok (.invokevirtual idx, 3)) (hstk : stk = as.reverse ++ .ref b :: st) (hn : as.length = n) (hb : b < S.1) (hs : (S.2 b).1 = ci) (hlen : (lg_sl (.ref b :: as)).length ≤ nL') (hdp : 1 ≤ d) (hw : (st.map fun v => v.category).sum ≤ 8) (hkc : kc' ≤ kc) (hks : ks' ≤ ks)
    (kk : pm_Met l E y' cc' nL' ret' (d - 1) kc' ks' (.ref b :: as) S I J P (fun v S' I' J' P' => pm_W l E y cc nL ret d (kc - kc') (ks - ks') (pc + 3) lv (pm_ps v st) S' I' J' P' Q)) : pm_W l E y cc nL ret d kc ks pc lv stk S I J P Q := by
  intro p e R s m args below meth c H locs cells slots mc ms ls C hr hl0 hR hv
  obtain ⟨hx, hbb, hml, hret, hlk, hown, hts, hK, hnm⟩ := id C
  obtain ⟨⟨T, N, hc⟩, hci, hw1, hw2, hw3, hw4, hw5, hdd, hpl, hnl⟩ := hL
  have hM := pm_Met.met hpl hlen kk
  refine pm_back (va_runV (C := y'.cls) (n := n) (b := E.ad b) (As := as.map (pm_v E.ad)) ⟨hx, hbb, hml, hown, hts⟩ hM ⟨callB_of n hts (pm_goodIn hw5) rfl rfl rfl (hts _ hw4) (hts _ hw1) hdd ⟨by show d - 1 + 1 ≤ R.frames; omega, by show 8 + (nL' + 11) + 64 * (d - 1) ≤ R.locals; omega⟩, hts _ hw2, hts _ hw3⟩ ⟨pm_Pre.blind, pm_recv hK hR hb hs hci hc, fun U hU hW => ⟨rfl, by rw [hU]; exact hR, hK.warm hW⟩⟩ rfl (by rw [List.length_map]; exact hn) hv.1 ?_ ?_ hd (by omega)) C hr hl0 hv hkc hks (fun v S' I' J' P' h => h)
  · show stk.map (pm_v E.ad) = _
    rw [hstk, List.map_append, List.map_reverse]; rfl
  · rw [pm_cats]; show 2 * 0 + _ ≤ 8; omega
/-- a static method, as an instruction of class own names it -/
def pm_LS (own : String) (idx : Nat) (y : MethodName) (cc : ByteArray) (nL : Nat) (ret : Option FieldType) (n : Nat) : Prop :=
  Cond.methodLink own idx y ∈ pm_tbl ∧ Cond.static y ∈ pm_tbl ∧ Cond.initialized y.cls ∈ pm_tbl ∧ Cond.code y cc nL ret ∈ pm_tbl ∧
  (y.cls ≠ "java/lang/invoke/MethodHandle" ∧ y.cls ≠ "java/lang/invoke/VarHandle" ∧ (parseMethodDescriptor y.desc).map (fun d => d.parameters.length) = some n) ∧ plainName y.cls = true ∧ nL ≤ 45
theorem pw_callS {idx n nL' kc' ks' : Nat} {y' : MethodName} {cc' : ByteArray} {ret' : Option FieldType} {as stk : List Value} (hL : pm_LS y.cls idx y' cc' nL' ret' n) (hd : decode cc pc = .ok (.invokestatic idx, 3)) (hstk : stk = as.reverse ++ st) (hn : as.length = n) (hlen : (lg_sl as).length ≤ nL') (hdp : 1 ≤ d) (hw : (st.map fun v => v.category).sum ≤ 8) (hkc : kc' ≤ kc) (hks : ks' ≤ ks)
    (kk : pm_Met l E y' cc' nL' ret' (d - 1) kc' ks' as S I J P (fun v S' I' J' P' => pm_W l E y cc nL ret d (kc - kc') (ks - ks') (pc + 3) lv (pm_ps v st) S' I' J' P' Q)) : pm_W l E y cc nL ret d kc ks pc lv stk S I J P Q := by
  intro p e R s m args below meth c H locs cells slots mc ms ls C hr hl0 hR hv
  obtain ⟨hx, hbb, hml, hret, hlk, hown, hts, hK, hnm⟩ := id C
  obtain ⟨hw1, hw2, hw4, hw5, hdd, hpl, hnl⟩ := hL
  have hM := pm_Met.met hpl hlen kk
  refine pm_back (va_runS (n := n) (As := as.map (pm_v E.ad)) ⟨hx, hbb, hml, hown, hts⟩ hM ⟨callB_of n hts (pm_goodIn hw5) rfl rfl rfl (hts _ hw4) (hts _ hw1) hdd ⟨by show d - 1 + 1 ≤ R.frames; omega, by show 8 + (nL' + 11) + 64 * (d - 1) ≤ R.locals; omega⟩, hts _ hw2⟩ ⟨pm_Pre.blind, fun U hU hW => ⟨rfl, by rw [hU]; exact hR, hK.warm hW⟩⟩ rfl (by rw [List.length_map]; exact hn) hv.1 ?_ ?_ hd (by omega)) C hr hl0 hv hkc hks (fun v S' I' J' P' h => h)
  · show stk.map (pm_v E.ad) = _
    rw [hstk, List.map_append, List.map_reverse]
  · rw [pm_cats]; show 2 * 0 + _ ≤ 8; omega
/-- a constructor, as an instruction of class own names it -/
def pm_LI (own : String) (idx : Nat) (y : MethodName) (cc : ByteArray) (nL n : Nat) : Prop :=
  Cond.methodLink own idx y ∈ pm_tbl ∧ Cond.instanceMethod y ∈ pm_tbl ∧ Cond.initialized y.cls ∈ pm_tbl ∧ Cond.code y cc nL none ∈ pm_tbl ∧ y.name = "<init>" ∧
  (y.cls ≠ "java/lang/invoke/MethodHandle" ∧ y.cls ≠ "java/lang/invoke/VarHandle" ∧ (parseMethodDescriptor y.desc).map (fun d => d.parameters.length) = some n) ∧ plainName y.cls = true ∧ nL ≤ 45
theorem pw_callI {idx n nL' b kc' ks' : Nat} {y' : MethodName} {cc' : ByteArray} {as stk : List Value} (hL : pm_LI y.cls idx y' cc' nL' n) (hd : decode cc pc = .ok (.invokespecial idx, 3)) (hstk : stk = as.reverse ++ .ref b :: st) (hn : as.length = n) (hlen : (lg_sl (.ref b :: as)).length ≤ nL') (hdp : 1 ≤ d) (hw : (st.map fun v => v.category).sum ≤ 8) (hkc : kc' ≤ kc) (hks : ks' ≤ ks)
    (kk : pm_Met l E y' cc' nL' none (d - 1) kc' ks' (.ref b :: as) S I J P (fun v S' I' J' P' => pm_W l E y cc nL ret d (kc - kc') (ks - ks') (pc + 3) lv (pm_ps v st) S' I' J' P' Q)) : pm_W l E y cc nL ret d kc ks pc lv stk S I J P Q := by
  intro p e R s m args below meth c H locs cells slots mc ms ls C hr hl0 hR hv
  obtain ⟨hx, hbb, hml, hret, hlk, hown, hts, hK, hnm⟩ := id C
  obtain ⟨hw1, hw2, hw4, hw5, hini, hdd, hpl, hnl⟩ := hL
  have hM := pm_Met.met hpl hlen kk
  refine pm_back (va_runI (n := n) (b := E.ad b) (As := as.map (pm_v E.ad)) ⟨hx, hbb, hml, hown, hts⟩ hM ⟨callB_of n hts (pm_goodIn hw5) rfl rfl rfl (hts _ hw4) (hts _ hw1) hdd ⟨by show d - 1 + 1 ≤ R.frames; omega, by show 8 + (nL' + 11) + 64 * (d - 1) ≤ R.locals; omega⟩, hini, hts _ hw2⟩ ⟨pm_Pre.blind, fun U hU hW => ⟨rfl, by rw [hU]; exact hR, hK.warm hW⟩⟩ rfl (by rw [List.length_map]; exact hn) hv.1 ?_ ?_ hd (by omega)) C hr hl0 hv hkc hks (fun v S' I' J' P' h => h)
  · show stk.map (pm_v E.ad) = _
    rw [hstk, List.map_append, List.map_reverse]; rfl
  · rw [pm_cats]; show 2 * 0 + _ ≤ 8; omega
/-- a nest mate's private constructor, a nest mate's private static method -/
def pm_LIN (own : String) (idx : Nat) (y : MethodName) (host : String) (cc : ByteArray) (nL n : Nat) : Prop :=
  Cond.methodLinkNest own idx y host ∈ pm_nest ∧ Cond.instanceMethod y ∈ pm_tbl ∧ Cond.initialized y.cls ∈ pm_tbl ∧ Cond.code y cc nL none ∈ pm_tbl ∧ y.name = "<init>" ∧
  (y.cls ≠ "java/lang/invoke/MethodHandle" ∧ y.cls ≠ "java/lang/invoke/VarHandle" ∧ (parseMethodDescriptor y.desc).map (fun d => d.parameters.length) = some n) ∧ plainName y.cls = true ∧ nL ≤ 45
theorem pw_callIN {idx n nL' b kc' ks' : Nat} {y' : MethodName} {host : String} {cc' : ByteArray} {as stk : List Value} (hL : pm_LIN y.cls idx y' host cc' nL' n) (hd : decode cc pc = .ok (.invokespecial idx, 3)) (hstk : stk = as.reverse ++ .ref b :: st) (hn : as.length = n) (hlen : (lg_sl (.ref b :: as)).length ≤ nL') (hdp : 1 ≤ d) (hw : (st.map fun v => v.category).sum ≤ 8) (hkc : kc' ≤ kc) (hks : ks' ≤ ks)
    (kk : pm_Met l E y' cc' nL' none (d - 1) kc' ks' (.ref b :: as) S I J P (fun v S' I' J' P' => pm_W l E y cc nL ret d (kc - kc') (ks - ks') (pc + 3) lv (pm_ps v st) S' I' J' P' Q)) : pm_W l E y cc nL ret d kc ks pc lv stk S I J P Q := by
  intro p e R s m args below meth c H locs cells slots mc ms ls C hr hl0 hR hv
  obtain ⟨hx, hbb, hml, hret, hlk, hown, hts, hK, hnm⟩ := id C
  obtain ⟨hw1, hw2, hw4, hw5, hini, hdd, hpl, hnl⟩ := hL
  have hM := pm_Met.met hpl hlen kk
  refine pm_back (va_runIN (n := n) (b := E.ad b) (As := as.map (pm_v E.ad)) ⟨hx, hbb, hml, hown, hts⟩ hM ⟨va_cnB n hts (pm_goodIn hw5) rfl rfl rfl (hK.2.1 _ hw1) (hts _ hw4) hdd ⟨by show d - 1 + 1 ≤ R.frames; omega, by show 8 + (nL' + 11) + 64 * (d - 1) ≤ R.locals; omega⟩, hini, hts _ hw2⟩ ⟨pm_Pre.blind, fun U hU hW => ⟨rfl, by rw [hU]; exact hR, hK.warm hW⟩⟩ rfl (by rw [List.length_map]; exact hn) hv.1 ?_ ?_ hd (by omega)) C hr hl0 hv hkc hks (fun v S' I' J' P' h => h)
  · show stk.map (pm_v E.ad) = _
    rw [hstk, List.map_append, List.map_reverse]; rfl
  · rw [pm_cats]; show 2 * 0 + _ ≤ 8; omega
def pm_LSN (own : String) (idx : Nat) (y : MethodName) (host : String) (cc : ByteArray) (nL : Nat) (ret : Option FieldType) (n : Nat) : Prop :=
  Cond.methodLinkNest own idx y host ∈ pm_nest ∧ Cond.static y ∈ pm_tbl ∧ Cond.initialized y.cls ∈ pm_tbl ∧ Cond.code y cc nL ret ∈ pm_tbl ∧
  (y.cls ≠ "java/lang/invoke/MethodHandle" ∧ y.cls ≠ "java/lang/invoke/VarHandle" ∧ (parseMethodDescriptor y.desc).map (fun d => d.parameters.length) = some n) ∧ plainName y.cls = true ∧ nL ≤ 45
theorem pw_callSN {idx n nL' kc' ks' : Nat} {y' : MethodName} {host : String} {cc' : ByteArray} {ret' : Option FieldType} {as stk : List Value} (hL : pm_LSN y.cls idx y' host cc' nL' ret' n) (hd : decode cc pc = .ok (.invokestatic idx, 3)) (hstk : stk = as.reverse ++ st) (hn : as.length = n) (hlen : (lg_sl as).length ≤ nL') (hdp : 1 ≤ d) (hw : (st.map fun v => v.category).sum ≤ 8) (hkc : kc' ≤ kc) (hks : ks' ≤ ks)
    (kk : pm_Met l E y' cc' nL' ret' (d - 1) kc' ks' as S I J P (fun v S' I' J' P' => pm_W l E y cc nL ret d (kc - kc') (ks - ks') (pc + 3) lv (pm_ps v st) S' I' J' P' Q)) : pm_W l E y cc nL ret d kc ks pc lv stk S I J P Q := by
  intro p e R s m args below meth c H locs cells slots mc ms ls C hr hl0 hR hv
  obtain ⟨hx, hbb, hml, hret, hlk, hown, hts, hK, hnm⟩ := id C
  obtain ⟨hw1, hw2, hw4, hw5, hdd, hpl, hnl⟩ := hL
  have hM := pm_Met.met hpl hlen kk
  refine pm_back (va_runSN (n := n) (As := as.map (pm_v E.ad)) ⟨hx, hbb, hml, hown, hts⟩ hM ⟨va_cnB n hts (pm_goodIn hw5) rfl rfl rfl (hK.2.1 _ hw1) (hts _ hw4) hdd ⟨by show d - 1 + 1 ≤ R.frames; omega, by show 8 + (nL' + 11) + 64 * (d - 1) ≤ R.locals; omega⟩, hts _ hw2, trivial⟩ ⟨pm_Pre.blind, fun U hU hW => ⟨rfl, by rw [hU]; exact hR, hK.warm hW⟩⟩ rfl (by rw [List.length_map]; exact hn) hv.1 ?_ ?_ hd (by omega)) C hr hl0 hv hkc hks (fun v S' I' J' P' h => h)
  · show stk.map (pm_v E.ad) = _
    rw [hstk, List.map_append, List.map_reverse]
  · rw [pm_cats]; show 2 * 0 + _ ≤ 8; omega
end PX
