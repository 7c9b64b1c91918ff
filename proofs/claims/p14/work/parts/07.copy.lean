section PY
variable {l : Launch} {E : pmE} {y : MethodName} {cc : ByteArray} {nL : Nat} {ret : Option FieldType} {d kc ks pc : Nat} {lv : List (Nat × Value)} {st : List Value} {S : pmS} {I : pmI} {J : pmJ} {P : pmP} {Q : pm_Z}
theorem pm_nn {z : Int32} (hz : ¬ z < 0) : z.toInt = (z.toNatClampNeg : Int) := by
  have hz0 : (0 : Int) ≤ z.toInt := by
    have := Int32.not_lt.mp hz
    simpa using Int32.le_iff_toInt_le.mp this
  show z.toInt = ((z.toInt.toNat : Nat) : Int)
  omega
def pm_LC (own : String) (idx : Nat) : Prop := Cond.methodLink own idx arraycopyName ∈ pm_tbl ∧ Cond.native arraycopyName ∈ pm_tbl ∧ Cond.static arraycopyName ∈ pm_tbl ∧ Cond.initialized "java/lang/System" ∈ pm_tbl
theorem pw_copyG {α : Type} (mk : α → Value) {idx a0 a t n0 n1 : Nat} {ty : FieldType} {sp dp n : Int32} {f g : Nat → α} {I' : pmI} {J' : pmJ} (hL : pm_LC y.cls idx) (hd : decode cc pc = .ok (.invokestatic idx, 3)) (q0 : Nat) (hq0 : (pm_tys E)[q0]? = some (E.cA t, ty)) (hprim : refKind ty = false) (ht1 : 100 ≤ t) (ht2 : t < 200) (ha0 : a0 < S.1) (ha2 : 2 ≤ a) (ha : a < S.1) (hs0 : S.2 a0 = (t, n0)) (hs : S.2 a = (t, n1))
    (hf : ∀ ad, pm_val ad t I J P a0 = fun j => mk (f j)) (hg : ∀ ad, pm_val ad t I J P a = fun j => mk (g j)) (h1 : ¬ sp < 0) (h2 : ¬ dp < 0) (h3 : ¬ n < 0) (h4 : sp.toNatClampNeg + n.toNatClampNeg ≤ n0) (h5 : dp.toNatClampNeg + n.toNatClampNeg ≤ n1) (hfit : ∀ i, i < n.toNatClampNeg → fits ty (mk (f (sp.toNatClampNeg + i))) = true) (hnr : ∀ x q, mk x ≠ .ref q) (hdp : 1 ≤ d) (hw : (st.map fun v => v.category).sum ≤ 8)
    (hval : ∀ ad j, pm_val ad t I' J' P a j = mk (va_cpy f g sp.toNatClampNeg dp.toNatClampNeg n.toNatClampNeg j)) (hI : ∀ b, b ≠ a → I' b = I b) (hJ : ∀ b, b ≠ a → J' b = J b)
    (kk : pm_W l E y cc nL ret d kc ks (pc + 3) lv st S I' J' P Q) : pm_W l E y cc nL ret d kc ks pc lv (.int n :: .int dp :: .ref a :: .int sp :: .ref a0 :: st) S I J P Q := by
  intro p e R s m args below meth c H locs cells slots mc ms ls C hr hl0 hR hv
  obtain ⟨hx, hb, hml, hret, hlk, hown, hts, hK, hnm⟩ := id C
  obtain ⟨hw1, hw2, hw3, hw4⟩ := hL
  have hA := hK.2.2.2.2.1
  have hc0 := hR.arr ha0 hs0 ht1 ht2
  have hc1 := hR.arr ha hs ht1 ht2
  rw [hf] at hc0
  rw [hg] at hc1
  intro T hT X
  obtain ⟨-, k0, hk0, cm0, hkk0⟩ := (pm_tyAt hK q0 hq0).1 n0 (fun j => mk (f j))
  obtain ⟨-, k1, hk1, cm1, hkk1⟩ := (pm_tyAt hK q0 hq0).1 n1 (fun j => mk (g j))
  have hnw : nativeFrameWords "java/lang/System" "arraycopy" 5 ≤ 40 := by decide
  obtain ⟨vm', X', step⟩ := X.arraycopy hx hown (hts _ hw1) (hts _ hw2) (hts _ hw3) (hts _ hw4) (src := E.ad a0) (dst := E.ad a) (cs := arrV (E.cA t) n0 (fun j => mk (f j))) (cd := arrV (E.cA t) n1 (fun j => mk (g j))) (srcPos := sp) (destPos := dp) (n := n) (by rw [hT]; exact hc0) (by rw [hT]; exact hc1)
    (fun _ h => by cases h) (fun _ h => by cases h) (fun h => by cases h) (fun h => by cases h) hk0 hk1 hkk0 hkk1 (by simp [hprim]) h1 h2 h3
    (by rw [pm_nn h1, pm_nn h3, arrV_size]; omega)
    (by rw [pm_nn h2, pm_nn h3, arrV_size]; omega)
    (fun vm₁ _ i hi => by
      have e : (arrV (E.cA t) n0 (fun j => mk (f j))).slots.getD (sp.toNatClampNeg + i) .null = mk (f (sp.toNatClampNeg + i)) := by
        rw [Array.getD_eq_getD_getElem?, arrV_read _ _ (by omega)]
        rfl
      refine ⟨?_, ?_⟩
      · rw [e]
        exact hfit i hi
      · rw [e]
        have h9 := hnr (f (sp.toNatClampNeg + i))
        revert h9
        generalize mk (f (sp.toNatClampNeg + i)) = v
        intro h9
        cases v <;> first | exact True.intro | exact absurd rfl (h9 _))
    (g := F0 m pc ls (.int n :: .int dp :: .ref (E.ad a) :: .int sp :: .ref (E.ad a0) :: st.map (pm_v E.ad))) rfl (by rw [hml]; exact hv.1) (rest := st.map (pm_v E.ad)) rfl (by rw [hb]; exact hd) (by omega) (by rw [pm_cats]; show 2 * 0 + _ + _ ≤ _; omega)
  have e1 : copied (arrV (E.cA t) n0 (fun j => mk (f j))) (arrV (E.cA t) n1 (fun j => mk (g j))) sp dp n = arrV (E.cA t) n1 (fun j => mk (va_cpy f g sp.toNatClampNeg dp.toNatClampNeg n.toNatClampNeg j)) := va_copied mk (E.cA t) (E.cA t) f g h4
  rw [e1] at X' step
  have hl : E.ad a < H.size := (Array.getElem?_eq_some_iff.mp hc1).1
  generalize hcell : arrV (E.cA t) n1 (fun j => mk (va_cpy f g sp.toNatClampNeg dp.toNatClampNeg n.toNatClampNeg j)) = cl at X' step
  have hheap : ((T.setVm vm').setCell (E.ad a) cl).heap = H.setIfInBounds (E.ad a) cl := by rw [← hT]; rfl
  have hRn : pm_R E S I' J' P (H.setIfInBounds (E.ad a) cl) := by
    refine hR.set hA ha2 ha (by simp) (fun q hq => by simp [Array.getElem?_setIfInBounds, Ne.symm hq]) ?_ hI hJ (fun _ _ => rfl)
    unfold pm_at
    rw [hs, if_neg (show ¬ t < 100 by omega), if_pos ht2, Array.getElem?_setIfInBounds_self_of_lt hl, ← hcell]
    congr 2
    funext j
    exact (hval E.ad j).symm
  obtain ⟨t2, a1, b1⟩ := kk p e R s m args below meth c _ _ cells slots mc ms ls C hr (fun q hq => by
    rcases List.mem_append.mp hq with h | h
    · exact hl0 q h
    · obtain ⟨z, -, hz⟩ := List.mem_map.mp h
      rw [← hz]
      exact hA.ge ha2) hRn hv _ hheap X'
  exact ⟨t2, step t2 a1, b1⟩
theorem pw_copyI {idx a0 a t n0 n1 : Nat} {sp dp n : Int32} (hL : pm_LC y.cls idx) (hd : decode cc pc = .ok (.invokestatic idx, 3)) (ht : t = 100 ∨ (t = 102 ∧ ∀ i, i < n.toNatClampNeg → fits .byte (.int (I a0 (sp.toNatClampNeg + i))) = true)) (ha0 : a0 < S.1) (ha2 : 2 ≤ a) (ha : a < S.1) (hs0 : S.2 a0 = (t, n0)) (hs : S.2 a = (t, n1))
    (h1 : ¬ sp < 0) (h2 : ¬ dp < 0) (h3 : ¬ n < 0) (h4 : sp.toNatClampNeg + n.toNatClampNeg ≤ n0) (h5 : dp.toNatClampNeg + n.toNatClampNeg ≤ n1) (hdp : 1 ≤ d) (hw : (st.map fun v => v.category).sum ≤ 8)
    (kk : pm_W l E y cc nL ret d kc ks (pc + 3) lv st S (va_up I a (va_cpy (I a0) (I a) sp.toNatClampNeg dp.toNatClampNeg n.toNatClampNeg)) J P Q) : pm_W l E y cc nL ret d kc ks pc lv (.int n :: .int dp :: .ref a :: .int sp :: .ref a0 :: st) S I J P Q := by
  have hv : ∀ (ad : Nat → Nat) (I : pmI) (b : Nat), pm_val ad t I J P b = fun j => Value.int (I b j) := fun ad I b => by rcases ht with rfl | ⟨rfl, -⟩ <;> exact funext fun j => rfl
  rcases ht with rfl | ⟨rfl, hfb⟩
  · exact pw_copyG Value.int hL hd 0 rfl rfl (by decide) (by decide) ha0 ha2 ha hs0 hs (fun ad => hv ad I a0) (fun ad => hv ad I a) h1 h2 h3 h4 h5 (fun i hi => rfl) (fun _ _ h => by cases h) hdp hw (fun ad j => by rw [hv]; show Value.int (va_up I a _ a j) = _; rw [pm_up_eq]) (fun _ h => if_neg h) (fun _ _ => rfl) kk
  · exact pw_copyG Value.int hL hd 2 rfl rfl (by decide) (by decide) ha0 ha2 ha hs0 hs (fun ad => hv ad I a0) (fun ad => hv ad I a) h1 h2 h3 h4 h5 hfb (fun _ _ h => by cases h) hdp hw (fun ad j => by rw [hv]; show Value.int (va_up I a _ a j) = _; rw [pm_up_eq]) (fun _ h => if_neg h) (fun _ _ => rfl) kk
theorem pw_copyJ {idx a0 a n0 n1 : Nat} {sp dp n : Int32} (hL : pm_LC y.cls idx) (hd : decode cc pc = .ok (.invokestatic idx, 3)) (ha0 : a0 < S.1) (ha2 : 2 ≤ a) (ha : a < S.1) (hs0 : S.2 a0 = (101, n0)) (hs : S.2 a = (101, n1))
    (h1 : ¬ sp < 0) (h2 : ¬ dp < 0) (h3 : ¬ n < 0) (h4 : sp.toNatClampNeg + n.toNatClampNeg ≤ n0) (h5 : dp.toNatClampNeg + n.toNatClampNeg ≤ n1) (hdp : 1 ≤ d) (hw : (st.map fun v => v.category).sum ≤ 8)
    (kk : pm_W l E y cc nL ret d kc ks (pc + 3) lv st S I (va_up J a (va_cpy (J a0) (J a) sp.toNatClampNeg dp.toNatClampNeg n.toNatClampNeg)) P Q) : pm_W l E y cc nL ret d kc ks pc lv (.int n :: .int dp :: .ref a :: .int sp :: .ref a0 :: st) S I J P Q := by
  have hv : ∀ (ad : Nat → Nat) (J : pmJ) (b : Nat), pm_val ad 101 I J P b = fun j => Value.long (J b j) := fun ad J b => funext fun j => rfl
  exact pw_copyG Value.long hL hd 1 rfl rfl (by decide) (by decide) ha0 ha2 ha hs0 hs (fun ad => hv ad J a0) (fun ad => hv ad J a) h1 h2 h3 h4 h5 (fun i hi => rfl) (fun _ _ h => by cases h) hdp hw (fun ad j => by rw [hv]; show Value.long (va_up J a _ a j) = _; rw [pm_up_eq]) (fun _ _ => rfl) (fun _ h => if_neg h) kk
end PY
