/-! the literal of single signs: a String that was there at the start, number 0, its bytes number 1 -/
section PYS
variable {l : Launch} {E : pmE} {y : MethodName} {cc : ByteArray} {nL : Nat} {ret : Option FieldType} {d kc ks pc : Nat} {lv : List (Nat × Value)} {st : List Value} {S : pmS} {I : pmI} {J : pmJ} {P : pmP} {Q : pm_Z}
def pm_Y (E : pmE) : Prop := pm_Str (E.ad 0) (E.ad 1) (fun a => E.B0 ≤ a) E.s0 E.H0
theorem pm_Y.at {U : State} {H : Heap} (h : pm_Y E) (hK : pm_K E U) (hR : pm_R E S I J P H) : pm_Str (E.ad 0) (E.ad 1) (fun a => E.B0 ≤ a) U H := (h.moved hK.2.2.2.2.2.1).kept (fun a _ hn => hR.2.2.2.2 a (Nat.lt_of_not_le hn))
theorem pw_ycoder {idx : Nat} (hY : pm_Y E) (hl : Cond.fieldLink y.cls idx "java/lang/String" "coder" "B" ∈ pm_tbl) (hd : decode cc pc = .ok (.getfield idx, 3))
    (kk : pm_W l E y cc nL ret d kc ks (pc + 3) lv (.int 0 :: st) S I J P Q) : pm_W l E y cc nL ret d kc ks pc lv (.ref 0 :: st) S I J P Q := by
  intro p e R s m args below meth c H locs cells slots mc ms ls C hr hl0 hR hv
  obtain ⟨hx, hb, hml, hret, hlk, hown, hts, hK, hnm⟩ := id C
  obtain ⟨cf, k, i, f, cell, h1, h2, h3, h4, h5, h6⟩ := (hY.at hK hR).2.1
  exact W.getf hx hb hown (hts _ hl) h1 h2 h3 h4 (v := .int 0) h5 rfl rfl hd (kk p e R s m args below meth c H locs cells slots mc ms ls C hr hl0 hR hv)
theorem pw_yvalue {idx : Nat} (hY : pm_Y E) (hl : Cond.fieldLink y.cls idx "java/lang/String" "value" "[B" ∈ pm_tbl) (hd : decode cc pc = .ok (.getfield idx, 3))
    (kk : pm_W l E y cc nL ret d kc ks (pc + 3) lv (.ref 1 :: st) S I J P Q) : pm_W l E y cc nL ret d kc ks pc lv (.ref 0 :: st) S I J P Q := by
  intro p e R s m args below meth c H locs cells slots mc ms ls C hr hl0 hR hv
  obtain ⟨hx, hb, hml, hret, hlk, hown, hts, hK, hnm⟩ := id C
  obtain ⟨cf, k, i, f, cell, h1, h2, h3, h4, h5, h6⟩ := (hY.at hK hR).2.2.1
  exact W.getf hx hb hown (hts _ hl) h1 h2 h3 h4 (v := .ref (E.ad 1)) h5 rfl rfl hd (kk p e R s m args below meth c H locs cells slots mc ms ls C hr hl0 hR hv)
theorem pw_ystat {idx : Nat} (hY : pm_Y E) (hl : Cond.fieldLink y.cls idx "java/lang/String" "COMPACT_STRINGS" "Z" ∈ pm_tbl) (hd : decode cc pc = .ok (.getstatic idx, 3))
    (kk : pm_W l E y cc nL ret d kc ks (pc + 3) lv (.int 1 :: st) S I J P Q) : pm_W l E y cc nL ret d kc ks pc lv st S I J P Q := by
  intro p e R s m args below meth c H locs cells slots mc ms ls C hr hl0 hR hv
  obtain ⟨hx, hb, hml, hret, hlk, hown, hts, hK, hnm⟩ := id C
  obtain ⟨cf, kf, fi, f, a, cell, h1, h2, h3, h4, h5, h6, h7, h8⟩ := (hY.at hK hR).2.2.2.2
  exact W.gets hx hb hown (hts _ hl) h1 h2 h3 h4 h5 (fun e => by rw [e] at h6; cases h6) h7 rfl hd (kk p e R s m args below meth c H locs cells slots mc ms ls C hr hl0 hR hv)
theorem pw_ylen (hY : pm_Y E) (hd : decode cc pc = .ok (.arraylength, 1))
    (kk : pm_W l E y cc nL ret d kc ks (pc + 1) lv (.int (nI 13) :: st) S I J P Q) : pm_W l E y cc nL ret d kc ks pc lv (.ref 1 :: st) S I J P Q := by
  intro p e R s m args below meth c H locs cells slots mc ms ls C hr hl0 hR hv
  obtain ⟨hx, hb, hml, hret, hlk, hown, hts, hK, hnm⟩ := id C
  obtain ⟨cell, h1, h2, h3, h4, h5, h6, h7⟩ := (hY.at hK hR).2.2.2.1
  exact W.alen (n := nI 13) hx hb h1 h2 (by rw [h5]; rfl) rfl rfl hd (kk p e R s m args below meth c H locs cells slots mc ms ls C hr hl0 hR hv)
theorem pw_ybld {j : Nat} (hY : pm_Y E) (hd : decode cc pc = .ok (.baload, 1)) (hj : j < 13)
    (kk : pm_W l E y cc nL ret d kc ks (pc + 1) lv (.int (pm_lit.getD j 0) :: st) S I J P Q) : pm_W l E y cc nL ret d kc ks pc lv (.int (nI j) :: .ref 1 :: st) S I J P Q := by
  intro p e R s m args below meth c H locs cells slots mc ms ls C hr hl0 hR hv
  obtain ⟨hx, hb, hml, hret, hlk, hown, hts, hK, hnm⟩ := id C
  obtain ⟨cell, h1, h2, h3, h4, h5, h6, h7⟩ := (hY.at hK hR).2.2.2.1
  have hin0 : vp_in (nI j) 13 := vp_in_nI hj (by decide)
  have hlt : (nI j).toNatClampNeg < 13 := Nat.not_le.mp fun q => hin0 (Or.inr q)
  have hin : ¬ ((nI j) < 0 ∨ cell.slots.size ≤ (nI j).toNatClampNeg) := by
    intro q
    rcases q with q | q
    · exact hin0 (Or.inl q)
    · omega
  exact W.bald (v := .int (pm_lit.getD j 0)) hx hb h1 h2 h3 hin (by rw [nI_clamp (by omega)]; exact h6 j hj) rfl rfl hd (kk p e R s m args below meth c H locs cells slots mc ms ls C hr hl0 hR hv)
/-- a method of String, as an instruction of class own names it -/
def pm_LY (own : String) (idx : Nat) (y : MethodName) (cc : ByteArray) (nL : Nat) (ret : Option FieldType) (n : Nat) : Prop :=
  y.cls = "java/lang/String" ∧ Cond.methodLink own idx y ∈ pm_tbl ∧ Cond.instanceMethod y ∈ pm_tbl ∧ Cond.selects y.cls y y ∈ pm_tbl ∧ Cond.initialized y.cls ∈ pm_tbl ∧ Cond.code y cc nL ret ∈ pm_tbl ∧
  (y.cls ≠ "java/lang/invoke/MethodHandle" ∧ y.cls ≠ "java/lang/invoke/VarHandle" ∧ (parseMethodDescriptor y.desc).map (fun d => d.parameters.length) = some n) ∧ plainName y.cls = true ∧ nL ≤ 45
theorem pw_ycall {idx n nL' kc' ks' : Nat} {y' : MethodName} {cc' : ByteArray} {ret' : Option FieldType} {as stk : List Value} (hY : pm_Y E) (hL : pm_LY y.cls idx y' cc' nL' ret' n) (hd : decode cc pc = .ok (.invokevirtual idx, 3)) (hstk : stk = as.reverse ++ .ref 0 :: st) (hn : as.length = n) (hlen : (lg_sl (.ref 0 :: as)).length ≤ nL') (hdp : 1 ≤ d) (hw : (st.map fun v => v.category).sum ≤ 8) (hkc : kc' ≤ kc) (hks : ks' ≤ ks)
    (kk : pm_Met l E y' cc' nL' ret' (d - 1) kc' ks' (.ref 0 :: as) S I J P (fun v S' I' J' P' => pm_W l E y cc nL ret d (kc - kc') (ks - ks') (pc + 3) lv (pm_ps v st) S' I' J' P' Q)) : pm_W l E y cc nL ret d kc ks pc lv stk S I J P Q := by
  intro p e R s m args below meth c H locs cells slots mc ms ls C hr hl0 hR hv
  obtain ⟨hx, hbb, hml, hret, hlk, hown, hts, hK, hnm⟩ := id C
  obtain ⟨hcl, hw1, hw2, hw3, hw4, hw5, hdd, hpl, hnl⟩ := hL
  have hM := pm_Met.met hpl hlen kk
  have hrecv : ∃ cell : Cell, H[E.ad 0]? = some cell ∧ cell.vm.isStatics = false ∧ s.vm.findClass y'.cls = some cell.cls := by
    obtain ⟨cell, h1, h2, h3, h4⟩ := (hY.at hK hR).1
    exact ⟨cell, h1, h2, by rw [hcl]; exact h3⟩
  refine pm_back (va_runV (C := y'.cls) (n := n) (b := E.ad 0) (As := as.map (pm_v E.ad)) ⟨hx, hbb, hml, hown, hts⟩ hM ⟨callB_of n hts (pm_goodIn hw5) rfl rfl rfl (hts _ hw4) (hts _ hw1) hdd ⟨by show d - 1 + 1 ≤ R.frames; omega, by show 8 + (nL' + 11) + 64 * (d - 1) ≤ R.locals; omega⟩, hts _ hw2, hts _ hw3⟩ ⟨pm_Pre.blind, hrecv, fun U hU hW => ⟨rfl, by rw [hU]; exact hR, hK.warm hW⟩⟩ rfl (by rw [List.length_map]; exact hn) hv.1 ?_ ?_ hd (by omega)) C hr hl0 hv hkc hks (fun v S' I' J' P' h => h)
  · show stk.map (pm_v E.ad) = _
    rw [hstk, List.map_append, List.map_reverse]; rfl
  · rw [pm_cats]; show 2 * 0 + _ ≤ 8; omega
/-- Math.max, Math.min of ints -/
def pm_LM (own : String) (idx : Nat) (nm : MethodName) (cd : ByteArray) : Prop := Cond.methodLink own idx nm ∈ pm_tbl ∧ Cond.static nm ∈ pm_tbl ∧ Cond.initialized "java/lang/Math" ∈ pm_tbl ∧ Cond.code nm cd 2 (some .int) ∈ pm_tbl
theorem pw_max {idx : Nat} {a b : Int32} (hL : pm_LM y.cls idx Lib.Math.max.name Lib.Math.max.code) (hd : decode cc pc = .ok (.invokestatic idx, 3)) (hdp : 1 ≤ d) (hw : (st.map fun v => v.category).sum ≤ 8)
    (kk : pm_W l E y cc nL ret d kc ks (pc + 3) lv (.int (if a < b then b else a) :: st) S I J P Q) : pm_W l E y cc nL ret d kc ks pc lv (.int b :: .int a :: st) S I J P Q := by
  intro p e R s m args below meth c H locs cells slots mc ms ls C hr hl0 hR hv
  obtain ⟨hx, hb, hml, hret, hlk, hown, hts, hK, hnm⟩ := id C
  exact va_mmax hx hb (hml.trans hv.1.symm) hown (hts _ hL.1) (hts _ hL.2.1) (hts _ hL.2.2.1) (hts _ hL.2.2.2) (by omega) (by rw [pm_cats]; omega) (by omega) (by omega) hd (kk p e R s m args below meth c H locs cells slots mc ms ls C hr hl0 hR hv)
theorem pw_min {idx : Nat} {a b : Int32} (hL : pm_LM y.cls idx Lib.Math.min.name Lib.Math.min.code) (hd : decode cc pc = .ok (.invokestatic idx, 3)) (hdp : 1 ≤ d) (hw : (st.map fun v => v.category).sum ≤ 8)
    (kk : pm_W l E y cc nL ret d kc ks (pc + 3) lv (.int (if b < a then b else a) :: st) S I J P Q) : pm_W l E y cc nL ret d kc ks pc lv (.int b :: .int a :: st) S I J P Q := by
  intro p e R s m args below meth c H locs cells slots mc ms ls C hr hl0 hR hv
  obtain ⟨hx, hb, hml, hret, hlk, hown, hts, hK, hnm⟩ := id C
  exact va_mmin hx hb (hml.trans hv.1.symm) hown (hts _ hL.1) (hts _ hL.2.1) (hts _ hL.2.2.1) (hts _ hL.2.2.2) (by omega) (by rw [pm_cats]; omega) (by omega) (by omega) hd (kk p e R s m args below meth c H locs cells slots mc ms ls C hr hl0 hR hv)
theorem pw_ishr {x z : Int32} (hd : decode cc pc = .ok (.ishr, 1)) (k : pm_W l E y cc nL ret d kc ks (pc + 1) lv (.int (x >>> (z &&& 31)) :: st) S I J P Q) : pm_W l E y cc nL ret d kc ks pc lv (.int z :: .int x :: st) S I J P Q := by
  intro p e R s m args below meth c H locs cells slots mc ms ls C hr hl0 hR hv
  exact lv_ishr C.1 C.2.1 hd (k p e R s m args below meth c H locs cells slots mc ms ls C hr hl0 hR hv)
theorem pw_bret {x : Int32} {Q : Option Value → pmS → pmI → pmJ → pmP → Prop} (hd : decode cc pc = .ok (.ireturn, 1)) (hrt : ret = some .byte) (hz : narrow .byte (.int x) = .int x) (k : Q (some (.int x)) S I J P) : pm_W l E y cc nL ret d kc ks pc lv [.int x] S I J P (pm_N E Q) := by
  intro p e R s m args below meth c H locs cells slots mc ms ls C hr hl0 hR hv
  obtain ⟨hx, hb, hml, hret, hlk, hown, hts, hK, hnm⟩ := id C
  subst hrt
  refine W.widen (k := mc) (n := ms) (by omega) (by omega) ?_
  exact W.zret hx hb hret hz (fun t ht hW => ⟨some (.int x), S, I, J, P, rfl, k, by rw [ht]; exact hR⟩) hl0 hd
end PYS

theorem dJ0_indexOf_0f7a4_0 : decode cJ0_indexOf_0f7a4 0 = .ok (.aload_n 0, 1) := by decide +kernel
theorem dJ0_indexOf_0f7a4_1 : decode cJ0_indexOf_0f7a4 1 = .ok (.iload_n 1, 1) := by decide +kernel
theorem dJ0_indexOf_0f7a4_2 : decode cJ0_indexOf_0f7a4 2 = .ok (.iconst 0, 1) := by decide +kernel
theorem dJ0_indexOf_0f7a4_3 : decode cJ0_indexOf_0f7a4 3 = .ok (.invokevirtual 633, 3) := by decide +kernel
theorem dJ0_indexOf_0f7a4_6 : decode cJ0_indexOf_0f7a4 6 = .ok (.ireturn, 1) := by decide +kernel
theorem dJ0_indexOf_7cf53_0 : decode cJ0_indexOf_7cf53 0 = .ok (.aload_n 0, 1) := by decide +kernel
theorem dJ0_indexOf_7cf53_1 : decode cJ0_indexOf_7cf53 1 = .ok (.invokevirtual 492, 3) := by decide +kernel
theorem dJ0_indexOf_7cf53_4 : decode cJ0_indexOf_7cf53 4 = .ok (.ifCond .eq 19, 3) := by decide +kernel
theorem dJ0_indexOf_7cf53_7 : decode cJ0_indexOf_7cf53 7 = .ok (.aload_n 0, 1) := by decide +kernel
theorem dJ0_indexOf_7cf53_8 : decode cJ0_indexOf_7cf53 8 = .ok (.getfield 9, 3) := by decide +kernel
theorem dJ0_indexOf_7cf53_11 : decode cJ0_indexOf_7cf53 11 = .ok (.iload_n 1, 1) := by decide +kernel
theorem dJ0_indexOf_7cf53_12 : decode cJ0_indexOf_7cf53 12 = .ok (.iload_n 2, 1) := by decide +kernel
theorem dJ0_indexOf_7cf53_13 : decode cJ0_indexOf_7cf53 13 = .ok (.aload_n 0, 1) := by decide +kernel
theorem dJ0_indexOf_7cf53_14 : decode cJ0_indexOf_7cf53 14 = .ok (.invokevirtual 505, 3) := by decide +kernel
theorem dJ0_indexOf_7cf53_17 : decode cJ0_indexOf_7cf53 17 = .ok (.invokestatic 637, 3) := by decide +kernel
theorem dJ0_indexOf_7cf53_20 : decode cJ0_indexOf_7cf53 20 = .ok (.goto 16, 3) := by decide +kernel
theorem dJ0_indexOf_7cf53_23 : decode cJ0_indexOf_7cf53 23 = .ok (.aload_n 0, 1) := by decide +kernel
theorem dJ0_indexOf_7cf53_24 : decode cJ0_indexOf_7cf53 24 = .ok (.getfield 9, 3) := by decide +kernel
theorem dJ0_indexOf_7cf53_27 : decode cJ0_indexOf_7cf53 27 = .ok (.iload_n 1, 1) := by decide +kernel
theorem dJ0_indexOf_7cf53_28 : decode cJ0_indexOf_7cf53 28 = .ok (.iload_n 2, 1) := by decide +kernel
theorem dJ0_indexOf_7cf53_29 : decode cJ0_indexOf_7cf53 29 = .ok (.aload_n 0, 1) := by decide +kernel
theorem dJ0_indexOf_7cf53_30 : decode cJ0_indexOf_7cf53 30 = .ok (.invokevirtual 505, 3) := by decide +kernel
theorem dJ0_indexOf_7cf53_33 : decode cJ0_indexOf_7cf53 33 = .ok (.invokestatic 640, 3) := by decide +kernel
theorem dJ0_indexOf_7cf53_36 : decode cJ0_indexOf_7cf53 36 = .ok (.ireturn, 1) := by decide +kernel
theorem dJ0_isLatin1_aae02_0 : decode cJ0_isLatin1_aae02 0 = .ok (.getstatic 38, 3) := by decide +kernel
theorem dJ0_isLatin1_aae02_3 : decode cJ0_isLatin1_aae02 3 = .ok (.ifCond .eq 14, 3) := by decide +kernel
theorem dJ0_isLatin1_aae02_6 : decode cJ0_isLatin1_aae02 6 = .ok (.aload_n 0, 1) := by decide +kernel
theorem dJ0_isLatin1_aae02_7 : decode cJ0_isLatin1_aae02 7 = .ok (.getfield 15, 3) := by decide +kernel
theorem dJ0_isLatin1_aae02_10 : decode cJ0_isLatin1_aae02 10 = .ok (.ifCond .ne 7, 3) := by decide +kernel
theorem dJ0_isLatin1_aae02_13 : decode cJ0_isLatin1_aae02 13 = .ok (.iconst 1, 1) := by decide +kernel
theorem dJ0_isLatin1_aae02_14 : decode cJ0_isLatin1_aae02 14 = .ok (.goto 4, 3) := by decide +kernel
theorem dJ0_isLatin1_aae02_17 : decode cJ0_isLatin1_aae02 17 = .ok (.iconst 0, 1) := by decide +kernel
theorem dJ0_isLatin1_aae02_18 : decode cJ0_isLatin1_aae02 18 = .ok (.ireturn, 1) := by decide +kernel
theorem dJ0_coder_7d493_0 : decode cJ0_coder_7d493 0 = .ok (.getstatic 38, 3) := by decide +kernel
theorem dJ0_coder_7d493_3 : decode cJ0_coder_7d493 3 = .ok (.ifCond .eq 10, 3) := by decide +kernel
theorem dJ0_coder_7d493_6 : decode cJ0_coder_7d493 6 = .ok (.aload_n 0, 1) := by decide +kernel
theorem dJ0_coder_7d493_7 : decode cJ0_coder_7d493 7 = .ok (.getfield 15, 3) := by decide +kernel
theorem dJ0_coder_7d493_10 : decode cJ0_coder_7d493 10 = .ok (.goto 4, 3) := by decide +kernel
theorem dJ0_coder_7d493_13 : decode cJ0_coder_7d493 13 = .ok (.iconst 1, 1) := by decide +kernel
theorem dJ0_coder_7d493_14 : decode cJ0_coder_7d493 14 = .ok (.ireturn, 1) := by decide +kernel
theorem dJ0_length_8abf5_0 : decode cJ0_length_8abf5 0 = .ok (.aload_n 0, 1) := by decide +kernel
theorem dJ0_length_8abf5_1 : decode cJ0_length_8abf5 1 = .ok (.getfield 9, 3) := by decide +kernel
theorem dJ0_length_8abf5_4 : decode cJ0_length_8abf5 4 = .ok (.arraylength, 1) := by decide +kernel
theorem dJ0_length_8abf5_5 : decode cJ0_length_8abf5 5 = .ok (.aload_n 0, 1) := by decide +kernel
theorem dJ0_length_8abf5_6 : decode cJ0_length_8abf5 6 = .ok (.invokevirtual 335, 3) := by decide +kernel
theorem dJ0_length_8abf5_9 : decode cJ0_length_8abf5 9 = .ok (.ishr, 1) := by decide +kernel
theorem dJ0_length_8abf5_10 : decode cJ0_length_8abf5 10 = .ok (.ireturn, 1) := by decide +kernel
theorem dJ1_canEncode_9a6ad_0 : decode cJ1_canEncode_9a6ad 0 = .ok (.iload_n 0, 1) := by decide +kernel
theorem dJ1_canEncode_9a6ad_1 : decode cJ1_canEncode_9a6ad 1 = .ok (.ifCond .lt 14, 3) := by decide +kernel
theorem dJ1_canEncode_9a6ad_4 : decode cJ1_canEncode_9a6ad 4 = .ok (.iload_n 0, 1) := by decide +kernel
theorem dJ1_canEncode_9a6ad_5 : decode cJ1_canEncode_9a6ad 5 = .ok (.sipush 255, 3) := by decide +kernel
theorem dJ1_canEncode_9a6ad_8 : decode cJ1_canEncode_9a6ad 8 = .ok (.if_icmp .gt 7, 3) := by decide +kernel
theorem dJ1_canEncode_9a6ad_11 : decode cJ1_canEncode_9a6ad 11 = .ok (.iconst 1, 1) := by decide +kernel
theorem dJ1_canEncode_9a6ad_12 : decode cJ1_canEncode_9a6ad 12 = .ok (.goto 4, 3) := by decide +kernel
theorem dJ1_canEncode_9a6ad_15 : decode cJ1_canEncode_9a6ad 15 = .ok (.iconst 0, 1) := by decide +kernel
theorem dJ1_canEncode_9a6ad_16 : decode cJ1_canEncode_9a6ad 16 = .ok (.ireturn, 1) := by decide +kernel
theorem dJ1_indexOf_4cfef_0 : decode cJ1_indexOf_4cfef 0 = .ok (.iload_n 1, 1) := by decide +kernel
theorem dJ1_indexOf_4cfef_1 : decode cJ1_indexOf_4cfef 1 = .ok (.invokestatic 88, 3) := by decide +kernel
theorem dJ1_indexOf_4cfef_4 : decode cJ1_indexOf_4cfef 4 = .ok (.ifCond .ne 5, 3) := by decide +kernel
theorem dJ1_indexOf_4cfef_7 : decode cJ1_indexOf_4cfef 7 = .ok (.iconst (-1), 1) := by decide +kernel
theorem dJ1_indexOf_4cfef_8 : decode cJ1_indexOf_4cfef 8 = .ok (.ireturn, 1) := by decide +kernel
theorem dJ1_indexOf_4cfef_9 : decode cJ1_indexOf_4cfef 9 = .ok (.iload_n 2, 1) := by decide +kernel
theorem dJ1_indexOf_4cfef_10 : decode cJ1_indexOf_4cfef 10 = .ok (.iconst 0, 1) := by decide +kernel
theorem dJ1_indexOf_4cfef_11 : decode cJ1_indexOf_4cfef 11 = .ok (.invokestatic 92, 3) := by decide +kernel
theorem dJ1_indexOf_4cfef_14 : decode cJ1_indexOf_4cfef 14 = .ok (.istore_n 2, 1) := by decide +kernel
theorem dJ1_indexOf_4cfef_15 : decode cJ1_indexOf_4cfef 15 = .ok (.iload_n 3, 1) := by decide +kernel
theorem dJ1_indexOf_4cfef_16 : decode cJ1_indexOf_4cfef 16 = .ok (.aload_n 0, 1) := by decide +kernel
theorem dJ1_indexOf_4cfef_17 : decode cJ1_indexOf_4cfef 17 = .ok (.arraylength, 1) := by decide +kernel
theorem dJ1_indexOf_4cfef_18 : decode cJ1_indexOf_4cfef 18 = .ok (.invokestatic 38, 3) := by decide +kernel
theorem dJ1_indexOf_4cfef_21 : decode cJ1_indexOf_4cfef 21 = .ok (.istore_n 3, 1) := by decide +kernel
theorem dJ1_indexOf_4cfef_22 : decode cJ1_indexOf_4cfef 22 = .ok (.iload_n 2, 1) := by decide +kernel
theorem dJ1_indexOf_4cfef_23 : decode cJ1_indexOf_4cfef 23 = .ok (.iload_n 3, 1) := by decide +kernel
theorem dJ1_indexOf_4cfef_24 : decode cJ1_indexOf_4cfef 24 = .ok (.if_icmp .lt 5, 3) := by decide +kernel
theorem dJ1_indexOf_4cfef_27 : decode cJ1_indexOf_4cfef 27 = .ok (.iconst (-1), 1) := by decide +kernel
theorem dJ1_indexOf_4cfef_28 : decode cJ1_indexOf_4cfef 28 = .ok (.ireturn, 1) := by decide +kernel
theorem dJ1_indexOf_4cfef_29 : decode cJ1_indexOf_4cfef 29 = .ok (.aload_n 0, 1) := by decide +kernel
theorem dJ1_indexOf_4cfef_30 : decode cJ1_indexOf_4cfef 30 = .ok (.iload_n 1, 1) := by decide +kernel
theorem dJ1_indexOf_4cfef_31 : decode cJ1_indexOf_4cfef 31 = .ok (.iload_n 2, 1) := by decide +kernel
theorem dJ1_indexOf_4cfef_32 : decode cJ1_indexOf_4cfef 32 = .ok (.iload_n 3, 1) := by decide +kernel
theorem dJ1_indexOf_4cfef_33 : decode cJ1_indexOf_4cfef 33 = .ok (.invokestatic 95, 3) := by decide +kernel
theorem dJ1_indexOf_4cfef_36 : decode cJ1_indexOf_4cfef 36 = .ok (.ireturn, 1) := by decide +kernel
theorem dJ1_indexOfChar_4cfef_0 : decode cJ1_indexOfChar_4cfef 0 = .ok (.iload_n 1, 1) := by decide +kernel
theorem dJ1_indexOfChar_4cfef_1 : decode cJ1_indexOfChar_4cfef 1 = .ok (.i2b, 1) := by decide +kernel
theorem dJ1_indexOfChar_4cfef_2 : decode cJ1_indexOfChar_4cfef 2 = .ok (.istore 4, 2) := by decide +kernel
theorem dJ1_indexOfChar_4cfef_4 : decode cJ1_indexOfChar_4cfef 4 = .ok (.iload_n 2, 1) := by decide +kernel
theorem dJ1_indexOfChar_4cfef_5 : decode cJ1_indexOfChar_4cfef 5 = .ok (.istore 5, 2) := by decide +kernel
theorem dJ1_indexOfChar_4cfef_7 : decode cJ1_indexOfChar_4cfef 7 = .ok (.iload 5, 2) := by decide +kernel
theorem dJ1_indexOfChar_4cfef_9 : decode cJ1_indexOfChar_4cfef 9 = .ok (.iload_n 3, 1) := by decide +kernel
theorem dJ1_indexOfChar_4cfef_10 : decode cJ1_indexOfChar_4cfef 10 = .ok (.if_icmp .ge 21, 3) := by decide +kernel
theorem dJ1_indexOfChar_4cfef_13 : decode cJ1_indexOfChar_4cfef 13 = .ok (.aload_n 0, 1) := by decide +kernel
theorem dJ1_indexOfChar_4cfef_14 : decode cJ1_indexOfChar_4cfef 14 = .ok (.iload 5, 2) := by decide +kernel
theorem dJ1_indexOfChar_4cfef_16 : decode cJ1_indexOfChar_4cfef 16 = .ok (.baload, 1) := by decide +kernel
theorem dJ1_indexOfChar_4cfef_17 : decode cJ1_indexOfChar_4cfef 17 = .ok (.iload 4, 2) := by decide +kernel
theorem dJ1_indexOfChar_4cfef_19 : decode cJ1_indexOfChar_4cfef 19 = .ok (.if_icmp .ne 6, 3) := by decide +kernel
theorem dJ1_indexOfChar_4cfef_22 : decode cJ1_indexOfChar_4cfef 22 = .ok (.iload 5, 2) := by decide +kernel
theorem dJ1_indexOfChar_4cfef_24 : decode cJ1_indexOfChar_4cfef 24 = .ok (.ireturn, 1) := by decide +kernel
theorem dJ1_indexOfChar_4cfef_25 : decode cJ1_indexOfChar_4cfef 25 = .ok (.iinc 5 1, 3) := by decide +kernel
theorem dJ1_indexOfChar_4cfef_28 : decode cJ1_indexOfChar_4cfef 28 = .ok (.goto (-21), 3) := by decide +kernel
theorem dJ1_indexOfChar_4cfef_31 : decode cJ1_indexOfChar_4cfef 31 = .ok (.iconst (-1), 1) := by decide +kernel
theorem dJ1_indexOfChar_4cfef_32 : decode cJ1_indexOfChar_4cfef 32 = .ok (.ireturn, 1) := by decide +kernel
theorem fy_9 : Cond.fieldLink "java/lang/String" 9 "java/lang/String" "value" "[B" ∈ pm_tbl := pm_in1 1761 (by decide +kernel) (by decide +kernel)
theorem fy_15 : Cond.fieldLink "java/lang/String" 15 "java/lang/String" "coder" "B" ∈ pm_tbl := pm_in1 1760 (by decide +kernel) (by decide +kernel)
theorem fy_38 : Cond.fieldLink "java/lang/String" 38 "java/lang/String" "COMPACT_STRINGS" "Z" ∈ pm_tbl := pm_in1 445 (by decide +kernel) (by decide +kernel)
theorem ly_51 : pm_LY RX7 51 yJ0_indexOf_0f7a4 cJ0_indexOf_0f7a4 2 (some .int) 1 := ⟨rfl, pm_in1 433 (by decide +kernel) (by decide +kernel), pm_in1 434 (by decide +kernel) (by decide +kernel), pm_in1 435 (by decide +kernel) (by decide +kernel), pm_in1 102 (by decide +kernel) (by decide +kernel), pm_in1 436 (by decide +kernel) (by decide +kernel), ⟨by decide, by decide, by decide +kernel⟩, by decide +kernel, by decide⟩
theorem ly_633 : pm_LY RJ0 633 yJ0_indexOf_7cf53 cJ0_indexOf_7cf53 3 (some .int) 2 := ⟨rfl, pm_in1 437 (by decide +kernel) (by decide +kernel), pm_in1 438 (by decide +kernel) (by decide +kernel), pm_in1 439 (by decide +kernel) (by decide +kernel), pm_in1 102 (by decide +kernel) (by decide +kernel), pm_in1 440 (by decide +kernel) (by decide +kernel), ⟨by decide, by decide, by decide +kernel⟩, by decide +kernel, by decide⟩
theorem ly_492 : pm_LY RJ0 492 yJ0_isLatin1_aae02 cJ0_isLatin1_aae02 1 (some .boolean) 0 := ⟨rfl, pm_in1 441 (by decide +kernel) (by decide +kernel), pm_in1 442 (by decide +kernel) (by decide +kernel), pm_in1 443 (by decide +kernel) (by decide +kernel), pm_in1 102 (by decide +kernel) (by decide +kernel), pm_in1 444 (by decide +kernel) (by decide +kernel), ⟨by decide, by decide, by decide +kernel⟩, by decide +kernel, by decide⟩
theorem ly_335 : pm_LY RJ0 335 yJ0_coder_7d493 cJ0_coder_7d493 1 (some .byte) 0 := ⟨rfl, pm_in1 451 (by decide +kernel) (by decide +kernel), pm_in1 452 (by decide +kernel) (by decide +kernel), pm_in1 453 (by decide +kernel) (by decide +kernel), pm_in1 102 (by decide +kernel) (by decide +kernel), pm_in1 454 (by decide +kernel) (by decide +kernel), ⟨by decide, by decide, by decide +kernel⟩, by decide +kernel, by decide⟩
theorem ly_505 : pm_LY RJ0 505 yJ0_length_8abf5 cJ0_length_8abf5 1 (some .int) 0 := ⟨rfl, pm_in1 447 (by decide +kernel) (by decide +kernel), pm_in1 448 (by decide +kernel) (by decide +kernel), pm_in1 449 (by decide +kernel) (by decide +kernel), pm_in1 102 (by decide +kernel) (by decide +kernel), pm_in1 450 (by decide +kernel) (by decide +kernel), ⟨by decide, by decide, by decide +kernel⟩, by decide +kernel, by decide⟩
theorem ly_637 : pm_LS RJ0 637 yJ1_indexOf_4cfef cJ1_indexOf_4cfef 4 (some .int) 4 := ⟨pm_in1 455 (by decide +kernel) (by decide +kernel), pm_in1 456 (by decide +kernel) (by decide +kernel), pm_in1 103 (by decide +kernel) (by decide +kernel), pm_in1 457 (by decide +kernel) (by decide +kernel), ⟨by decide, by decide, by decide +kernel⟩, by decide +kernel, by decide⟩
theorem ly_88 : pm_LS RJ1 88 yJ1_canEncode_9a6ad cJ1_canEncode_9a6ad 1 (some .boolean) 1 := ⟨pm_in1 458 (by decide +kernel) (by decide +kernel), pm_in1 459 (by decide +kernel) (by decide +kernel), pm_in1 103 (by decide +kernel) (by decide +kernel), pm_in1 460 (by decide +kernel) (by decide +kernel), ⟨by decide, by decide, by decide +kernel⟩, by decide +kernel, by decide⟩
theorem ly_95 : pm_LS RJ1 95 yJ1_indexOfChar_4cfef cJ1_indexOfChar_4cfef 6 (some .int) 4 := ⟨pm_in1 467 (by decide +kernel) (by decide +kernel), pm_in1 468 (by decide +kernel) (by decide +kernel), pm_in1 103 (by decide +kernel) (by decide +kernel), pm_in1 469 (by decide +kernel) (by decide +kernel), ⟨by decide, by decide, by decide +kernel⟩, by decide +kernel, by decide⟩
theorem lm_92 : pm_LM RJ1 92 Lib.Math.max.name Lib.Math.max.code := ⟨pm_in1 461 (by decide +kernel) (by decide +kernel), pm_in1 462 (by decide +kernel) (by decide +kernel), pm_in1 104 (by decide +kernel) (by decide +kernel), pm_in1 463 (by decide +kernel) (by decide +kernel)⟩
theorem lm_38 : pm_LM RJ1 38 Lib.Math.min.name Lib.Math.min.code := ⟨pm_in1 464 (by decide +kernel) (by decide +kernel), pm_in1 465 (by decide +kernel) (by decide +kernel), pm_in1 104 (by decide +kernel) (by decide +kernel), pm_in1 466 (by decide +kernel) (by decide +kernel)⟩
set_option maxRecDepth 20000 in
set_option maxHeartbeats 4000000 in
theorem c_isLatin1 {l : Launch} {E : pmE} {d : Nat} {S : pmS} {I : pmI} {J : pmJ} {P : pmP} {Q : Option Value → pmS → pmI → pmJ → pmP → Prop} (hY : pm_Y E) (k : Q (some (.int (nI 1))) S I J P) : pm_Met l E yJ0_isLatin1_aae02 cJ0_isLatin1_aae02 1 (some .boolean) d 0 0 [.ref 0] S I J P Q := by
  unfold pm_Met
  refine pm_lvs (lv' := [(0, _)]) rfl ?_
  refine pw_ystat hY fy_38 dJ0_isLatin1_aae02_0 ?_
  refine pw_if_eq (tgt := 17) dJ0_isLatin1_aae02_3 (by decide) (fun h => absurd h (by decide)) (fun _ => ?_)
  refine pw_aload_n dJ0_isLatin1_aae02_6 rfl ?_
  refine pw_ycoder hY fy_15 dJ0_isLatin1_aae02_7 ?_
  refine pw_if_ne (tgt := 17) dJ0_isLatin1_aae02_10 (by decide) (fun h => absurd (by decide) h) (fun _ => ?_)
  refine pw_iconst (v := nI 1) dJ0_isLatin1_aae02_13 (by decide) ?_
  refine pw_goto (tgt := 18) dJ0_isLatin1_aae02_14 (by decide) ?_
  exact pw_zret dJ0_isLatin1_aae02_18 rfl (by decide) k
set_option maxRecDepth 20000 in
set_option maxHeartbeats 4000000 in
theorem c_coder {l : Launch} {E : pmE} {d : Nat} {S : pmS} {I : pmI} {J : pmJ} {P : pmP} {Q : Option Value → pmS → pmI → pmJ → pmP → Prop} (hY : pm_Y E) (k : Q (some (.int 0)) S I J P) : pm_Met l E yJ0_coder_7d493 cJ0_coder_7d493 1 (some .byte) d 0 0 [.ref 0] S I J P Q := by
  unfold pm_Met
  refine pm_lvs (lv' := [(0, _)]) rfl ?_
  refine pw_ystat hY fy_38 dJ0_coder_7d493_0 ?_
  refine pw_if_eq (tgt := 13) dJ0_coder_7d493_3 (by decide) (fun h => absurd h (by decide)) (fun _ => ?_)
  refine pw_aload_n dJ0_coder_7d493_6 rfl ?_
  refine pw_ycoder hY fy_15 dJ0_coder_7d493_7 ?_
  refine pw_goto (tgt := 14) dJ0_coder_7d493_10 (by decide) ?_
  exact pw_bret dJ0_coder_7d493_14 rfl (by decide) k
set_option maxRecDepth 20000 in
set_option maxHeartbeats 4000000 in
theorem c_slength {l : Launch} {E : pmE} {d : Nat} {S : pmS} {I : pmI} {J : pmJ} {P : pmP} {Q : Option Value → pmS → pmI → pmJ → pmP → Prop} (hY : pm_Y E) (hd : 2 ≤ d) (k : Q (some (.int (nI 13))) S I J P) : pm_Met l E yJ0_length_8abf5 cJ0_length_8abf5 1 (some .int) d 0 0 [.ref 0] S I J P Q := by
  unfold pm_Met
  refine pm_lvs (lv' := [(0, _)]) rfl ?_
  refine pw_aload_n dJ0_length_8abf5_0 rfl ?_
  refine pw_yvalue hY fy_9 dJ0_length_8abf5_1 ?_
  refine pw_ylen hY dJ0_length_8abf5_4 ?_
  refine pw_aload_n dJ0_length_8abf5_5 rfl ?_
  refine pw_ycall (as := []) (kc' := 0) (ks' := 0) hY ly_335 dJ0_length_8abf5_6 rfl rfl (Nat.le_of_ble_eq_true rfl) (by omega) (Nat.le_of_ble_eq_true rfl) (Nat.zero_le _) (Nat.zero_le _) ?_
  refine c_coder hY ?_
  refine pw_ishr dJ0_length_8abf5_9 ?_
  refine pw_ti (z := nI 13) (by decide) ?_
  exact pw_iret dJ0_length_8abf5_10 rfl k
set_option maxRecDepth 20000 in
set_option maxHeartbeats 4000000 in
theorem c_canEncode {l : Launch} {E : pmE} {d : Nat} {S : pmS} {I : pmI} {J : pmJ} {P : pmP} {Q : Option Value → pmS → pmI → pmJ → pmP → Prop} (hY : pm_Y E) {b : Nat} (hb : b < 128) (k : Q (some (.int (nI 1))) S I J P) : pm_Met l E yJ1_canEncode_9a6ad cJ1_canEncode_9a6ad 1 (some .boolean) d 0 0 [.int (nI b)] S I J P Q := by
  unfold pm_Met
  refine pm_lvs (lv' := [(0, _)]) rfl ?_
  refine pw_iload_n dJ1_canEncode_9a6ad_0 rfl ?_
  refine pw_if_lt (tgt := 15) dJ1_canEncode_9a6ad_1 (by decide) (fun h => absurd h (nI_pos (by omega))) (fun _ => ?_)
  refine pw_iload_n dJ1_canEncode_9a6ad_4 rfl ?_
  refine pw_sipush (v := nI 255) dJ1_canEncode_9a6ad_5 (by decide) ?_
  refine pw_icmpN_gt _ _ (tgt := 15) dJ1_canEncode_9a6ad_8 (by decide) rfl rfl (by omega) (by omega) (fun h => absurd h (by omega)) (fun _ => ?_)
  refine pw_iconst (v := nI 1) dJ1_canEncode_9a6ad_11 (by decide) ?_
  refine pw_goto (tgt := 16) dJ1_canEncode_9a6ad_12 (by decide) ?_
  exact pw_zret dJ1_canEncode_9a6ad_16 rfl (by decide) k
set_option maxRecDepth 20000 in
set_option maxHeartbeats 4000000 in
theorem c_ixChar_lp {l : Launch} {E : pmE} {d : Nat} {S : pmS} {I : pmI} {J : pmJ} {P : pmP} {Q : Option Value → pmS → pmI → pmJ → pmP → Prop} (hY : pm_Y E) {b : Nat} (hb : b < 128) (k : ∀ r : Int32, ((r = -1 ∧ ∀ j, j < 13 → ¬ pm_lit.getD j 0 = nI b) ∨ ∃ j, j < 13 ∧ r = nI j ∧ pm_lit.getD j 0 = nI b) → Q (some (.int r)) S I J P) : ∀ (t j : Nat), j + t = 13 → (∀ i, i < j → ¬ pm_lit.getD i 0 = nI b) → pm_W l E yJ1_indexOfChar_4cfef cJ1_indexOfChar_4cfef 6 (some .int) d 0 0 7 [(5, .int (nI j)), (4, .int (nI b)), (0, .ref 1), (1, .int (nI b)), (2, .int (nI 0)), (3, .int (nI 13))] [] S I J P (pm_N E Q)
  | 0, j, hj, hn => by
    refine pw_iload dJ1_indexOfChar_4cfef_7 rfl ?_
    refine pw_iload_n dJ1_indexOfChar_4cfef_9 rfl ?_
    refine pw_icmpN_ge _ _ (tgt := 31) dJ1_indexOfChar_4cfef_10 (by decide) rfl rfl (by omega) (by omega) (fun _ => ?_) (fun h => absurd h (by omega))
    refine pw_iconst (v := -1) dJ1_indexOfChar_4cfef_31 (by decide) ?_
    exact pw_iret dJ1_indexOfChar_4cfef_32 rfl (k _ (Or.inl ⟨rfl, fun i hi => hn i (by omega)⟩))
  | t + 1, j, hj, hn => by
    refine pw_iload dJ1_indexOfChar_4cfef_7 rfl ?_
    refine pw_iload_n dJ1_indexOfChar_4cfef_9 rfl ?_
    refine pw_icmpN_ge _ _ (tgt := 31) dJ1_indexOfChar_4cfef_10 (by decide) rfl rfl (by omega) (by omega) (fun h => absurd h (by omega)) (fun _ => ?_)
    refine pw_aload_n dJ1_indexOfChar_4cfef_13 rfl ?_
    refine pw_iload dJ1_indexOfChar_4cfef_14 rfl ?_
    refine pw_ybld hY dJ1_indexOfChar_4cfef_16 (by omega) ?_
    refine pw_iload dJ1_indexOfChar_4cfef_17 rfl ?_
    refine pw_icmp_ne (tgt := 25) dJ1_indexOfChar_4cfef_19 (by decide) (fun hx => ?_) (fun hx => ?_)
    · refine pw_iinc (lv' := [(5, _), (4, _), (0, _), (1, _), (2, _), (3, _)]) dJ1_indexOfChar_4cfef_25 rfl (by decide) rfl ?_
      refine pw_goto (tgt := 7) dJ1_indexOfChar_4cfef_28 (by decide) ?_
      rw [show nI j + Int32.ofInt 1 = nI (j + 1) from nI_1 j]
      refine c_ixChar_lp hY hb k t (j + 1) (by omega) (fun i hi => ?_)
      rcases Nat.lt_or_ge i j with h | h
      · exact hn i h
      · have e : i = j := by omega
        subst e
        exact hx
    · refine pw_iload dJ1_indexOfChar_4cfef_22 rfl ?_
      exact pw_iret dJ1_indexOfChar_4cfef_24 rfl (k _ (Or.inr ⟨j, by omega, rfl, hx⟩))
theorem ix_b {b : Nat} (hb : b < 128) : (nI b).toInt8.toInt32 = nI b := by
  have h : ∀ b : Fin 128, (nI b.val).toInt8.toInt32 = nI b.val := by decide +kernel
  exact h ⟨b, hb⟩
theorem ix_c {b : Nat} (hb : b < 128) : ((nI b).toUInt32 % 65536).toInt32 = nI b := by
  have h : ∀ b : Fin 128, ((nI b.val).toUInt32 % 65536).toInt32 = nI b.val := by decide +kernel
  exact h ⟨b, hb⟩
set_option maxRecDepth 20000 in
set_option maxHeartbeats 4000000 in
theorem c_ixChar {l : Launch} {E : pmE} {d : Nat} {S : pmS} {I : pmI} {J : pmJ} {P : pmP} {Q : Option Value → pmS → pmI → pmJ → pmP → Prop} (hY : pm_Y E) {b : Nat} (hb : b < 128) (k : ∀ r : Int32, ((r = -1 ∧ ∀ j, j < 13 → ¬ pm_lit.getD j 0 = nI b) ∨ ∃ j, j < 13 ∧ r = nI j ∧ pm_lit.getD j 0 = nI b) → Q (some (.int r)) S I J P) : pm_Met l E yJ1_indexOfChar_4cfef cJ1_indexOfChar_4cfef 6 (some .int) d 0 0 [.ref 1, .int (nI b), .int (nI 0), .int (nI 13)] S I J P Q := by
  unfold pm_Met
  refine pm_lvs (lv' := [(0, _), (1, _), (2, _), (3, _)]) rfl ?_
  refine pw_iload_n dJ1_indexOfChar_4cfef_0 rfl ?_
  refine pw_i2b dJ1_indexOfChar_4cfef_1 ?_
  refine pw_ti (z := nI b) (ix_b hb) ?_
  refine pw_istore (lv' := [(4, _), (0, _), (1, _), (2, _), (3, _)]) dJ1_indexOfChar_4cfef_2 (by decide) rfl ?_
  refine pw_iload_n dJ1_indexOfChar_4cfef_4 rfl ?_
  refine pw_istore (lv' := [(5, _), (4, _), (0, _), (1, _), (2, _), (3, _)]) dJ1_indexOfChar_4cfef_5 (by decide) rfl ?_
  exact c_ixChar_lp hY hb k 13 0 (by omega) (fun i hi => absurd hi (Nat.not_lt_zero i))
set_option maxRecDepth 20000 in
set_option maxHeartbeats 4000000 in
theorem c_ixLatin {l : Launch} {E : pmE} {d : Nat} {S : pmS} {I : pmI} {J : pmJ} {P : pmP} {Q : Option Value → pmS → pmI → pmJ → pmP → Prop} (hY : pm_Y E) {b : Nat} (hb : b < 128) (hd : 3 ≤ d) (k : ∀ r : Int32, ((r = -1 ∧ ∀ j, j < 13 → ¬ pm_lit.getD j 0 = nI b) ∨ ∃ j, j < 13 ∧ r = nI j ∧ pm_lit.getD j 0 = nI b) → Q (some (.int r)) S I J P) : pm_Met l E yJ1_indexOf_4cfef cJ1_indexOf_4cfef 4 (some .int) d 0 0 [.ref 1, .int (nI b), .int (nI 0), .int (nI 13)] S I J P Q := by
  unfold pm_Met
  refine pm_lvs (lv' := [(0, _), (1, _), (2, _), (3, _)]) rfl ?_
  refine pw_iload_n dJ1_indexOf_4cfef_0 rfl ?_
  refine pw_callS (as := [_]) (kc' := 0) (ks' := 0) ly_88 dJ1_indexOf_4cfef_1 rfl rfl (Nat.le_of_ble_eq_true rfl) (by omega) (Nat.le_of_ble_eq_true rfl) (Nat.zero_le _) (Nat.zero_le _) ?_
  refine c_canEncode hY hb ?_
  refine pw_if_ne (tgt := 9) dJ1_indexOf_4cfef_4 (by decide) (fun _ => ?_) (fun h => absurd h (by decide))
  refine pw_iload_n dJ1_indexOf_4cfef_9 rfl ?_
  refine pw_iconst (v := nI 0) dJ1_indexOf_4cfef_10 (by decide) ?_
  refine pw_max lm_92 dJ1_indexOf_4cfef_11 (by omega) (Nat.le_of_ble_eq_true rfl) ?_
  refine pw_ti (z := nI 0) (by decide) ?_
  refine pw_istore_n (lv' := [(2, _), (0, _), (1, _), (3, _)]) dJ1_indexOf_4cfef_14 (by decide) rfl ?_
  refine pw_iload_n dJ1_indexOf_4cfef_15 rfl ?_
  refine pw_aload_n dJ1_indexOf_4cfef_16 rfl ?_
  refine pw_ylen hY dJ1_indexOf_4cfef_17 ?_
  refine pw_min lm_38 dJ1_indexOf_4cfef_18 (by omega) (Nat.le_of_ble_eq_true rfl) ?_
  refine pw_ti (z := nI 13) (by decide) ?_
  refine pw_istore_n (lv' := [(3, _), (2, _), (0, _), (1, _)]) dJ1_indexOf_4cfef_21 (by decide) rfl ?_
  refine pw_iload_n dJ1_indexOf_4cfef_22 rfl ?_
  refine pw_iload_n dJ1_indexOf_4cfef_23 rfl ?_
  refine pw_icmp_lt (tgt := 29) dJ1_indexOf_4cfef_24 (by decide) (fun _ => ?_) (fun h => absurd (by decide) h)
  refine pw_aload_n dJ1_indexOf_4cfef_29 rfl ?_
  refine pw_iload_n dJ1_indexOf_4cfef_30 rfl ?_
  refine pw_iload_n dJ1_indexOf_4cfef_31 rfl ?_
  refine pw_iload_n dJ1_indexOf_4cfef_32 rfl ?_
  refine pw_callS (as := [_, _, _, _]) (kc' := 0) (ks' := 0) ly_95 dJ1_indexOf_4cfef_33 rfl rfl (Nat.le_of_ble_eq_true rfl) (by omega) (Nat.le_of_ble_eq_true rfl) (Nat.zero_le _) (Nat.zero_le _) ?_
  refine c_ixChar hY hb (fun r hr => ?_)
  exact pw_iret dJ1_indexOf_4cfef_36 rfl (k r hr)
set_option maxRecDepth 20000 in
set_option maxHeartbeats 4000000 in
theorem c_ix2 {l : Launch} {E : pmE} {d : Nat} {S : pmS} {I : pmI} {J : pmJ} {P : pmP} {Q : Option Value → pmS → pmI → pmJ → pmP → Prop} (hY : pm_Y E) {b : Nat} (hb : b < 128) (hd : 5 ≤ d) (k : ∀ r : Int32, ((r = -1 ∧ ∀ j, j < 13 → ¬ pm_lit.getD j 0 = nI b) ∨ ∃ j, j < 13 ∧ r = nI j ∧ pm_lit.getD j 0 = nI b) → Q (some (.int r)) S I J P) : pm_Met l E yJ0_indexOf_7cf53 cJ0_indexOf_7cf53 3 (some .int) d 0 0 [.ref 0, .int (nI b), .int (nI 0)] S I J P Q := by
  unfold pm_Met
  refine pm_lvs (lv' := [(0, _), (1, _), (2, _)]) rfl ?_
  refine pw_aload_n dJ0_indexOf_7cf53_0 rfl ?_
  refine pw_ycall (as := []) (kc' := 0) (ks' := 0) hY ly_492 dJ0_indexOf_7cf53_1 rfl rfl (Nat.le_of_ble_eq_true rfl) (by omega) (Nat.le_of_ble_eq_true rfl) (Nat.zero_le _) (Nat.zero_le _) ?_
  refine c_isLatin1 hY ?_
  refine pw_if_eq (tgt := 23) dJ0_indexOf_7cf53_4 (by decide) (fun h => absurd h (by decide)) (fun _ => ?_)
  refine pw_aload_n dJ0_indexOf_7cf53_7 rfl ?_
  refine pw_yvalue hY fy_9 dJ0_indexOf_7cf53_8 ?_
  refine pw_iload_n dJ0_indexOf_7cf53_11 rfl ?_
  refine pw_iload_n dJ0_indexOf_7cf53_12 rfl ?_
  refine pw_aload_n dJ0_indexOf_7cf53_13 rfl ?_
  refine pw_ycall (as := []) (kc' := 0) (ks' := 0) hY ly_505 dJ0_indexOf_7cf53_14 rfl rfl (Nat.le_of_ble_eq_true rfl) (by omega) (Nat.le_of_ble_eq_true rfl) (Nat.zero_le _) (Nat.zero_le _) ?_
  refine c_slength hY (by omega) ?_
  refine pw_callS (as := [_, _, _, _]) (kc' := 0) (ks' := 0) ly_637 dJ0_indexOf_7cf53_17 rfl rfl (Nat.le_of_ble_eq_true rfl) (by omega) (Nat.le_of_ble_eq_true rfl) (Nat.zero_le _) (Nat.zero_le _) ?_
  refine c_ixLatin hY hb (by omega) (fun r hr => ?_)
  refine pw_goto (tgt := 36) dJ0_indexOf_7cf53_20 (by decide) ?_
  exact pw_iret dJ0_indexOf_7cf53_36 rfl (k r hr)
set_option maxRecDepth 20000 in
set_option maxHeartbeats 4000000 in
theorem c_ix1 {l : Launch} {E : pmE} {d : Nat} {S : pmS} {I : pmI} {J : pmJ} {P : pmP} {Q : Option Value → pmS → pmI → pmJ → pmP → Prop} (hY : pm_Y E) {b : Nat} (hb : b < 128) (hd : 7 ≤ d) (k : ∀ r : Int32, ((r = -1 ∧ ∀ j, j < 13 → ¬ pm_lit.getD j 0 = nI b) ∨ ∃ j, j < 13 ∧ r = nI j ∧ pm_lit.getD j 0 = nI b) → Q (some (.int r)) S I J P) : pm_Met l E yJ0_indexOf_0f7a4 cJ0_indexOf_0f7a4 2 (some .int) d 0 0 [.ref 0, .int (nI b)] S I J P Q := by
  unfold pm_Met
  refine pm_lvs (lv' := [(0, _), (1, _)]) rfl ?_
  refine pw_aload_n dJ0_indexOf_0f7a4_0 rfl ?_
  refine pw_iload_n dJ0_indexOf_0f7a4_1 rfl ?_
  refine pw_iconst (v := nI 0) dJ0_indexOf_0f7a4_2 (by decide) ?_
  refine pw_ycall (as := [_, _]) (kc' := 0) (ks' := 0) hY ly_633 dJ0_indexOf_0f7a4_3 rfl rfl (Nat.le_of_ble_eq_true rfl) (by omega) (Nat.le_of_ble_eq_true rfl) (Nat.zero_le _) (Nat.zero_le _) ?_
  refine c_ix2 hY hb (by omega) (fun r hr => ?_)
  exact pw_iret dJ0_indexOf_0f7a4_6 rfl (k r hr)
/-- two old numbers, and new ones from B0 on -/
def yy_ad (a0 a1 B0 : Nat) : Nat → Nat
  | 0 => a0
  | 1 => a1
  | a + 2 => B0 + a
def yy_S : pmS := (2, fun _ => (200, 0))
theorem yy_R {D : va_G} {cA : Nat → ClassId} {a0 a1 : Nat} {s : State} {H : Heap} (hs : s.heap = H) : pm_R (D, cA, yy_ad a0 a1 H.size, s, H.size) yy_S (fun _ _ => 0) (fun _ _ => 0) (fun _ _ => none) H := by
  refine ⟨rfl, Nat.le_refl 2, fun a ha => ?_, fun a _ k => ⟨rfl, rfl, rfl⟩, fun q _ => by rw [← hs]⟩
  unfold pm_at
  rw [if_neg (show ¬ (yy_S.2 a).1 < 100 from (by decide : ¬ (200 : Nat) < 100)), if_neg (show ¬ (yy_S.2 a).1 < 200 from (by decide : ¬ (200 : Nat) < 200))]
  trivial
set_option maxRecDepth 20000 in
set_option maxHeartbeats 4000000 in
theorem pw_ixof {l : Launch} {E : pmE} {d kc ks : Nat} {lv : List (Nat × Value)} {st : List Value} {S : pmS} {I : pmI} {J : pmJ} {P : pmP} {Z : pm_Z} {b : Nat} (hb : b < 128) (hd : 12 ≤ d) (hk4 : lv.lookup 4 = some (.int (nI b))) (hw : (st.map fun v => v.category).sum ≤ 8)
    (k : ∀ r : Int32, ((r = -1 ∧ ∀ j, j < 13 → ¬ pm_lit.getD j 0 = nI b) ∨ ∃ j, j < 13 ∧ r = nI j ∧ pm_lit.getD j 0 = nI b) → pm_W l E yX7_cutOne cX7_cutOne 5 (some .int) d kc ks 83 lv (.int r :: st) S I J P Z) : pm_W l E yX7_cutOne cX7_cutOne 5 (some .int) d kc ks 75 lv st S I J P Z := by
  intro p e R s m args below meth c H locs cells slots mc ms ls C hr hl0 hR hv
  obtain ⟨hx, hbb, hml, hret, hlk, hown, hts, hK, hnm⟩ := id C
  obtain ⟨sa, va, z4, z5⟩ := hK.2.2.2.2.2.2.2.2.2
  have hBH : E.B0 ≤ H.size := by
    have h1 := hR.1
    have h2 := hR.2.1
    omega
  have hq : ∀ a : Nat, a < E.H0.size → ¬ E.B0 ≤ a → H[a]? = E.H0[a]? := fun a _ hn => hR.2.2.2.2 a (Nat.lt_of_not_le hn)
  have hN : ∀ q : Nat, H.size ≤ q → E.B0 ≤ q := fun q h => Nat.le_trans hBH h
  obtain ⟨s9, hs9⟩ : ∃ z : State, z = { s with heap := H } := ⟨_, rfl⟩
  have hv9 : s9.vm = s.vm := by rw [hs9]
  have hh9 : s9.heap = H := by rw [hs9]
  have z6 : pm_Str sa va (fun a => H.size ≤ a) s H := (z5.kept hq).narrow hN
  have hsa : sa < H.size := by
    obtain ⟨cell, h1, -⟩ := z6.1
    exact (Array.getElem?_eq_some_iff.mp h1).1
  have hva : va < H.size := by
    obtain ⟨cell, h1, -⟩ := z6.2.2.2.1
    exact (Array.getElem?_eq_some_iff.mp h1).1
  have hK9 : pm_K (E.D, E.cA, yy_ad sa va H.size, s9, H.size) s := by
    refine ⟨hK.1, hK.2.1, hK.2.2.1, hK.2.2.2.1, ⟨hsa, hva, fun a => rfl⟩, ?_, ?_, ?_, hK.2.2.2.2.2.2.2.2.1, sa, va, z4, ?_⟩
    · show s9.vm.Alike s.vm
      rw [hv9]
      exact Vm.Alike.refl _
    · show vx_Zq Bundle.tN "UNASSIGNED_STACK" Bundle.steD (fun a => H.size ≤ a) s s9.heap
      rw [hh9]
      exact (hK.zU hR).narrow hN
    · show vx_Zq Bundle.tN "SUPPRESSED_SENTINEL" Bundle.listD (fun a => H.size ≤ a) s s9.heap
      rw [hh9]
      exact (hK.zN hR).narrow hN
    · show pm_Str sa va (fun a => H.size ≤ a) s s9.heap
      rw [hh9]
      exact z6
  have hY9 : pm_Y (E.D, E.cA, yy_ad sa va H.size, s9, H.size) := by
    show pm_Str sa va (fun a => H.size ≤ a) s9 s9.heap
    rw [hh9]
    exact z6.moved (by rw [hv9]; exact Vm.Alike.refl _)
  have hR9 : pm_R (E.D, E.cA, yy_ad sa va H.size, s9, H.size) yy_S (fun _ _ => 0) (fun _ _ => 0) (fun _ _ => none) H := yy_R hh9
  have hMM : pm_Met l (E.D, E.cA, yy_ad sa va H.size, s9, H.size) yJ0_indexOf_0f7a4 cJ0_indexOf_0f7a4 2 (some .int) (d - 1) 0 0 [.ref 0, .int (nI b)] yy_S (fun _ _ => 0) (fun _ _ => 0) (fun _ _ => none) (fun v S' _ _ _ => ∃ r : Int32, v = some (.int r) ∧ S' = yy_S ∧ ((r = -1 ∧ ∀ j, j < 13 → ¬ pm_lit.getD j 0 = nI b) ∨ ∃ j, j < 13 ∧ r = nI j ∧ pm_lit.getD j 0 = nI b)) := c_ix1 hY9 hb (by omega) (fun r h => ⟨r, rfl, rfl, h⟩)
  obtain ⟨hcl, hw1, hw2, hw3, hw4, hw5, hdd, hpl, hnl⟩ := ly_51
  have hM := pm_Met.met hpl (Nat.le_of_ble_eq_true rfl) hMM
  have hrecv : ∃ cell : Cell, H[sa]? = some cell ∧ cell.vm.isStatics = false ∧ s.vm.findClass yJ0_indexOf_0f7a4.cls = some cell.cls := by
    obtain ⟨cell, h1, h2, h3, h4⟩ := z6.1
    exact ⟨cell, h1, h2, h3⟩
  refine va_ldcS hx hbb hown z4 dX7_cutOne_75 ?_
  refine lv_iload hx hbb dX7_cutOne_77 (pm_look hv hk4) ?_
  refine lv_i2c hx hbb dX7_cutOne_79 rfl ?_
  rw [show (((nI b).toUInt32 % 65536).toInt32) = nI b from ix_c hb]
  have hrun := va_runV (l := l) (p := p) (e := e) (R := R) (s := s) (m := m) (args := args) (below := below) (meth := meth) (c := c) (H := H) (locs := locs) (cells := cells) (slots := slots) (C := yJ0_indexOf_0f7a4.cls) (n := 1) (b := sa) (As := [.int (nI b)]) (rest := st.map (pm_v E.ad)) (g := F0 m 80 ls (.int (nI b) :: .ref sa :: st.map (pm_v E.ad))) ⟨hx, hbb, hml, hown, hts⟩ hM ⟨callB_of 1 hts (pm_goodIn hw5) rfl rfl rfl (hts _ hw4) (hts _ hw1) hdd ⟨by show d - 1 + 1 ≤ R.frames; omega, by show 8 + (2 + 11) + 64 * (d - 1) ≤ R.locals; omega⟩, hts _ hw2, hts _ hw3⟩ ⟨pm_Pre.blind, hrecv, fun U hU hW => ⟨rfl, by rw [hU]; exact hR9, hK9.warm hW⟩⟩ rfl rfl hv.1 rfl (by rw [pm_cats]; show 2 * 0 + _ ≤ 8; omega) dX7_cutOne_80 (by omega)
  intro T hT X
  obtain ⟨v, st₀, t, T', L, h0, X', hL, e1, e2, ⟨v', S', I', J', P', hv', ⟨r, hr1, hr2, hgood⟩, hR'⟩, stp⟩ := hrun T hT X
  subst hr1
  subst hr2
  cases hv'
  have hTH : T'.heap = H := by
    rw [e1]
    have z1 : t.heap.size = H.size := by
      have h7 : t.heap.size + 2 = H.size + 2 := hR'.1
      omega
    refine Array.ext_getElem? fun i => ?_
    rcases Nat.lt_or_ge i H.size with h | h
    · have h9 := hR'.2.2.2.2 i h
      rw [h9]
      show s9.heap[i]? = H[i]?
      rw [hh9]
    · rw [Array.getElem?_eq_none (by omega), Array.getElem?_eq_none (by omega)]
  obtain ⟨t2, a1, b1⟩ := k r hgood p e R s m args below meth c H (locs ++ L) cells slots mc ms ls C (by omega) (fun q hq => by
    rcases List.mem_append.mp hq with h | h
    · exact hl0 q h
    · exact hN _ (hL q h)) hR hv T' hTH X'
  exact ⟨t2, stp t2 a1, b1⟩
