theorem lc_310 : Cond.methodLink RJ7 310 ⟨"[B", "clone", "()Ljava/lang/Object;"⟩ ∈ pm_tbl := pm_in1 939 (by decide +kernel) (by decide +kernel)
theorem lc_s : Cond.sameMethod "[B" "java/lang/Object" "clone" "()Ljava/lang/Object;" ∈ pm_tbl := pm_in1 940 (by decide +kernel) (by decide +kernel)
theorem lc_n : Cond.native ⟨"java/lang/Object", "clone", "()Ljava/lang/Object;"⟩ ∈ pm_tbl := pm_in1 833 (by decide +kernel) (by decide +kernel)
theorem lc_i : Cond.instanceMethod ⟨"java/lang/Object", "clone", "()Ljava/lang/Object;"⟩ ∈ pm_tbl := pm_in1 834 (by decide +kernel) (by decide +kernel)
theorem lc_l : Cond.selects "[B" ⟨"[B", "clone", "()Ljava/lang/Object;"⟩ ⟨"java/lang/Object", "clone", "()Ljava/lang/Object;"⟩ ∈ pm_tbl := pm_in1 941 (by decide +kernel) (by decide +kernel)
theorem lc_311 : Cond.classLink RJ7 311 "[B" ∈ pm_tbl := pm_in1 943 (by decide +kernel) (by decide +kernel)
theorem lc_c : Cond.castable "[B" "java/lang/Cloneable" ∈ pm_nest := by decide +kernel
section PCL
variable {l : Launch} {E : pmE} {y : MethodName} {cc : ByteArray} {nL : Nat} {ret : Option FieldType} {d kc ks pc : Nat} {lv : List (Nat × Value)} {st : List Value} {S : pmS} {I : pmI} {J : pmJ} {P : pmP} {Q : pm_Z}
theorem pw_castB {a n idx : Nat} (hL : Cond.classLink y.cls idx "[B" ∈ pm_tbl) (hd : decode cc pc = .ok (.checkcast idx, 3)) (ha : a < S.1) (hs : S.2 a = (102, n)) (kk : pm_W l E y cc nL ret d kc ks (pc + 3) lv (.ref a :: st) S I J P Q) : pm_W l E y cc nL ret d kc ks pc lv (.ref a :: st) S I J P Q := by
  intro p e R s m args below meth c H locs cells slots mc ms ls C hr hl0 hR hv
  obtain ⟨hx, hb, hml, hret, hlk, hown, hts, hK, hnm⟩ := id C
  have hc0 := hR.arr ha hs (by decide) (by decide)
  have hnm2 : s.vm.findClass "[B" = some (E.cA 102) := (pm_tyAt hK (t := 102) 2 rfl).2
  intro T hT X
  obtain ⟨vm', X', stp⟩ := X.checkcastYes hx hown (hts _ hL) (by rw [hT]; exact hc0) rfl hnm2 (va_asg _ _) (g := F0 m pc ls (.ref (E.ad a) :: st.map (pm_v E.ad))) rfl rfl (by rw [hb]; exact hd)
  obtain ⟨t, a1, b1⟩ := kk p e R s m args below meth c H locs cells slots mc ms ls C hr hl0 hR hv (T.setVm vm') hT X'
  exact ⟨t, stp t a1, b1⟩
theorem pm_R.pushI {H H' : Heap} (hA : pm_A E) (hR : pm_R E S I J P H) {t n : Nat} {I' : pmI} (hI : ∀ b, b ≠ S.1 → I' b = I b) (hz : H'.size = H.size + 1) (ho : ∀ q, q < H.size → H'[q]? = H[q]?) (hat : pm_at E (S.1 + 1, va_up S.2 S.1 (t, n)) I' J P S.1 H') : pm_R E (S.1 + 1, va_up S.2 S.1 (t, n)) I' J P H' := by
  refine ⟨?_, ?_, fun b hb => ?_, fun b hb k => ?_, fun q hq => ?_⟩
  · show H'.size + 2 = E.B0 + (S.1 + 1)
    have h1 := hR.1
    omega
  · show 2 ≤ S.1 + 1
    have h1 := hR.2.1
    omega
  · have hb' : b < S.1 + 1 := hb
    by_cases hbn : b = S.1
    · subst hbn; exact hat
    · have hlt : b < S.1 := by omega
      have h1 := (hR.2.2.1 b hlt).kept (H' := H') (I' := I') (J' := J) (P' := P) (ho _ (hA.lt hR hlt)) (fun t j => by unfold pm_val; rw [hI b hbn])
      unfold pm_at at h1 ⊢
      have e : ((S.1 + 1, va_up S.2 S.1 (t, n)) : pmS).2 b = S.2 b := if_neg hbn
      rw [e]
      exact h1
  · have h : S.1 + 1 ≤ b := hb
    rw [hI b (by omega)]
    exact hR.2.2.2.1 b (by omega) k
  · have h1 := hR.1
    have h2 := hR.2.1
    rw [ho q (by omega)]
    exact hR.2.2.2.2 q hq
theorem pw_cloneB {a n idx : Nat} (hL : Cond.methodLink y.cls idx ⟨"[B", "clone", "()Ljava/lang/Object;"⟩ ∈ pm_tbl) (hd : decode cc pc = .ok (.invokevirtual idx, 3)) (ha : a < S.1) (hs : S.2 a = (102, n)) (hfb : ∀ i, i < n → fits .byte (.int (I a i)) = true) (hdp : 1 ≤ d) (hkc : 1 ≤ kc) (hks : n ≤ ks) (hw : (st.map fun v => v.category).sum ≤ 8)
    (kk : pm_W l E y cc nL ret d (kc - 1) (ks - n) (pc + 3) lv (.ref S.1 :: st) (pm_new S 102 n) (va_up I S.1 (I a)) J P Q) : pm_W l E y cc nL ret d kc ks pc lv (.ref a :: st) S I J P Q := by
  intro p e R s m args below meth c H locs cells slots mc ms ls C hr hl0 hR hv
  obtain ⟨hx, hb, hml, hret, hlk, hown, hts, hK, hnm⟩ := id C
  have hA := hK.2.2.2.2.1
  have hc0 : H[E.ad a]? = some (arrV (E.cA 102) n (fun j => Value.int (I a j))) := hR.arr ha hs (by decide) (by decide)
  have hty := pm_tyAt hK (t := 102) 2 rfl
  obtain ⟨-, kS, hkS, compS, hkindS⟩ := hty.1 n (fun j => Value.int (I a j))
  obtain ⟨c0, t0', f1, f2, f3⟩ := Cond.castable_spec (va_Nw.use (A := args) rfl (hK.2.1 _ lc_c))
  have hnm2 : s.vm.findClass "[B" = some (E.cA 102) := hty.2
  cases hnm2.symm.trans f1
  intro T hT X
  obtain ⟨-, kA, hkA, comp, hkind⟩ := State.isArrayOf_alike X.warmed.alike (hty.1 n (fun j => Value.int (I a j)))
  obtain ⟨vm', X', stp⟩ := X.cloneArray hx hown (hts _ hL) (hts _ lc_s) (hts _ lc_n) (hts _ lc_i) (hts _ lc_l) (a := E.ad a) (cell := arrV (E.cA 102) n (fun j => Value.int (I a j))) (by rw [hT]; exact hc0) (fun k h => by cases h) (fun h => by cases h) hnm2 f2 f3
    (fun i v hv => by
      have hk' : T.vm.classes[E.cA 102]? = some kA := hkA
      have hf := va_fit hfb i v hv
      show T.fitsSlot (E.cA 102) .none i v = true
      simpa [State.fitsSlot, State.slotType?, hk', hkind] using hf)
    (g := F0 m pc ls (.ref (E.ad a) :: st.map (pm_v E.ad))) rfl (by rw [hml]; exact hv.1) rfl (by rw [hb]; exact hd) (by omega) (by rw [pm_cats]; show 2 * 0 + _ + 14 ≤ _; omega) (by omega) (by rw [arrV_size]; omega) (hloader := Vm.clonesLoader_of_array hkS hkindS)
  rw [arrV_size] at X'
  generalize hH1 : H.push (arrV (E.cA 102) n (fun j => Value.int (I a j))) = H1
  have z1 : H1.size = H.size + 1 := by rw [← hH1, Array.size_push]
  have e1 : H1[H.size]? = some (arrV (E.cA 102) n (fun j => Value.int (I a j))) := by rw [← hH1, Array.getElem?_push_size]
  have o1 : ∀ q : Nat, q < H.size → H1[q]? = H[q]? := fun q hq => by rw [← hH1, Array.getElem?_push, if_neg (Nat.ne_of_lt hq)]
  have hRn : pm_R E (pm_new S 102 n) (va_up I S.1 (I a)) J P H1 := by
    refine hR.pushI hA (fun b hb => if_neg hb) z1 o1 ?_
    unfold pm_at
    have e6 : ((S.1 + 1, va_up S.2 S.1 (102, n)) : pmS).2 S.1 = (102, n) := if_pos rfl
    rw [e6, if_neg (show ¬ 102 < 100 by omega), if_pos (show 102 < 200 by omega), hA.next hR, e1]
    congr 2
    funext j
    show Value.int (I a j) = Value.int (va_up I S.1 (I a) S.1 j)
    rw [pm_up_eq]
  obtain ⟨t, b1, b2⟩ := kk p e R s m args below meth c H1 locs (cells + 1) (slots + n) mc ms ls C (by omega) hl0 hRn hv ((T.setVm vm').pushCell (arrV (E.cA 102) n (fun j => Value.int (I a j)))) (by rw [← hH1, ← hT]; rfl) X'
  refine ⟨t, stp t ?_, b2⟩
  rw [hT]
  have he : pm_v E.ad (.ref S.1) = .ref H.size := by show Value.ref (E.ad S.1) = _; rw [hA.next hR]
  rw [List.map_cons, he] at b1
  exact b1
end PCL
theorem fit_b {x : Nat} (h : x < 128) : fits .byte (.int (nI x)) = true := by
  have : ∀ q : Fin 128, fits .byte (.int (nI q.1)) = true := by decide +kernel
  exact this ⟨x, h⟩
set_option maxRecDepth 20000 in
set_option maxHeartbeats 4000000 in
theorem cp_B {l : Launch} {E : pmE} {d : Nat} {S : pmS} {I : pmI} {J : pmJ} {P : pmP} {Q : Option Value → pmS → pmI → pmJ → pmP → Prop} {a n0 n : Nat} (hd : 2 ≤ d) (ha : a < S.1) (hs2 : 2 ≤ S.1) (hs : S.2 a = (102, n0)) (hn : n ≤ n0) (hN : n0 ≤ 120) (hfb : ∀ j, j < n → fits .byte (.int (I a j)) = true) (k : ∀ I', (∀ b, b ≠ S.1 → I' b = I b) → (∀ j, j < n → I' S.1 j = I a j) → Q (some (.ref S.1)) (pm_new S 102 n) I' J P) : pm_Met l E yJ7_copyOf_9075b cJ7_copyOf_9075b 3 (some (.array .byte)) d 1 n [.ref a, .int (nI n)] S I J P Q := by
  unfold pm_Met
  refine pm_lvs (lv' := [(0, _), (1, _)]) rfl ?_
  refine pw_iload_n dJ7_copyOf_9075b_0 rfl ?_
  refine pw_aload_n dJ7_copyOf_9075b_1 rfl ?_
  refine pw_alen dJ7_copyOf_9075b_2 ha hs (by decide) (by decide) ?_
  refine pw_icmpN_ne _ _ (tgt := 14) dJ7_copyOf_9075b_3 (by decide) rfl rfl (by omega) (by omega) (fun hne => ?_) (fun heq => ?_)
  · refine pw_iload_n dJ7_copyOf_9075b_14 rfl ?_
    refine pw_newa (t := 102) (N := n) dJ7_copyOf_9075b_15 (by decide) ar_byte (nI_pos (by omega)) (nI_clamp (by omega)) (by omega) (Nat.le_refl _) (Nat.le_refl _) (fun hI hJ => ?_)
    refine pw_astore_n (lv' := [(2, _), (0, _), (1, _)]) dJ7_copyOf_9075b_17 (by decide) rfl ?_
    refine pw_aload_n dJ7_copyOf_9075b_18 rfl ?_
    refine pw_iconst (v := nI 0) dJ7_copyOf_9075b_19 (by decide) ?_
    refine pw_aload_n dJ7_copyOf_9075b_20 rfl ?_
    refine pw_iconst (v := nI 0) dJ7_copyOf_9075b_21 (by decide) ?_
    refine pw_aload_n dJ7_copyOf_9075b_22 rfl ?_
    have hsn : (pm_new S 102 n).2 a = (102, n0) := by rw [pn_ne (by omega)]; exact hs
    have han : a < (pm_new S 102 n).1 := by rw [pn_1]; omega
    refine pw_alen dJ7_copyOf_9075b_23 han hsn (by decide) (by decide) ?_
    refine pw_iload_n dJ7_copyOf_9075b_24 rfl ?_
    refine pw_min lm_304 dJ7_copyOf_9075b_25 (by omega) (Nat.le_of_ble_eq_true rfl) ?_
    refine pw_ti (z := nI n) (by rw [show Int32.ofNat n0 = nI n0 from rfl, min_nI (by omega) (by omega), Nat.min_eq_right (by omega)]) ?_
    refine pw_copyI acJ7_150 dJ7_copyOf_9075b_28 (Or.inr ⟨rfl, fun i hi => ?_⟩) han hs2 (by rw [pn_1]; omega) hsn pn_eq (nI_pos (by decide)) (nI_pos (by decide)) (nI_pos (by omega)) (by rw [nI_clamp (by decide), nI_clamp (by omega)]; omega) (by rw [nI_clamp (by decide), nI_clamp (by omega)]; omega) (by omega) (Nat.le_of_ble_eq_true rfl) ?_
    · rw [nI_clamp (by omega)] at hi
      rw [nI_clamp (by decide), Nat.zero_add]
      exact hfb i hi
    refine pw_aload_n dJ7_copyOf_9075b_31 rfl ?_
    exact pw_aret (r := some S.1) dJ7_copyOf_9075b_32 rfl (by first | exact Or.inl ⟨_, rfl⟩ | exact Or.inr ⟨_, rfl⟩) (k _ (fun b hb => pm_up_ne hb) (fun j hj => by
      rw [pm_up_eq, nI_clamp (by decide), nI_clamp (by omega)]
      unfold va_cpy
      rw [if_pos (by omega)]
      congr 1
      omega))
  · have en : n = n0 := by omega
    subst en
    refine pw_aload_n dJ7_copyOf_9075b_6 rfl ?_
    refine pw_cloneB lc_310 dJ7_copyOf_9075b_7 ha hs hfb (by omega) (Nat.le_refl _) (Nat.le_refl _) (Nat.le_of_ble_eq_true rfl) ?_
    refine pw_castB lc_311 dJ7_copyOf_9075b_10 (by rw [pn_1]; omega) pn_eq ?_
    exact pw_aret (r := some S.1) dJ7_copyOf_9075b_13 rfl (by first | exact Or.inl ⟨_, rfl⟩ | exact Or.inr ⟨_, rfl⟩) (k _ (fun b hb => pm_up_ne hb) (fun j hj => by rw [pm_up_eq]))
