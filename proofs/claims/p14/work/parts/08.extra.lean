section PZ
variable {l : Launch} {E : pmE} {y : MethodName} {cc : ByteArray} {nL : Nat} {ret : Option FieldType} {d kc ks pc : Nat} {lv : List (Nat × Value)} {st : List Value} {S : pmS} {I : pmI} {J : pmJ} {P : pmP} {Q : pm_Z}
theorem pw_lrem {x z : Int64} (hd : decode cc pc = .ok (.lrem, 1)) (hz : ¬ z = 0) (k : pm_W l E y cc nL ret d kc ks (pc + 1) lv (.long (x - x / z * z) :: st) S I J P Q) : pm_W l E y cc nL ret d kc ks pc lv (.long z :: .long x :: st) S I J P Q := by
  intro p e R s m args below meth c H locs cells slots mc ms ls C hr hl0 hR hv
  exact lv_lrem C.1 C.2.1 hd hz (k p e R s m args below meth c H locs cells slots mc ms ls C hr hl0 hR hv)
theorem pw_lif_eq {x z : Int64} {off : Int} {tgt : Nat} (hd : decode cc pc = .ok (.lcmp, 1)) (hd2 : decode cc (pc + 1) = .ok (.ifCond .eq off, 3)) (ht : ((pc + 1 : Nat) : Int) + off = (tgt : Int)) (kt : x = z → pm_W l E y cc nL ret d kc ks tgt lv st S I J P Q) (kf : ¬ x = z → pm_W l E y cc nL ret d kc ks (pc + 1 + 3) lv st S I J P Q) : pm_W l E y cc nL ret d kc ks pc lv (.long z :: .long x :: st) S I J P Q :=
  pw_lcmp hd (pw_if_eq hd2 ht (fun h => kt ((lg_cmp_eq x z).mp h)) (fun h => kf (fun h2 => h ((lg_cmp_eq x z).mpr h2))))
theorem pw_lif_ne {x z : Int64} {off : Int} {tgt : Nat} (hd : decode cc pc = .ok (.lcmp, 1)) (hd2 : decode cc (pc + 1) = .ok (.ifCond .ne off, 3)) (ht : ((pc + 1 : Nat) : Int) + off = (tgt : Int)) (kt : ¬ x = z → pm_W l E y cc nL ret d kc ks tgt lv st S I J P Q) (kf : x = z → pm_W l E y cc nL ret d kc ks (pc + 1 + 3) lv st S I J P Q) : pm_W l E y cc nL ret d kc ks pc lv (.long z :: .long x :: st) S I J P Q :=
  pw_lcmp hd (pw_if_ne hd2 ht (fun h => kt ((not_congr (lg_cmp_eq x z)).mp h)) (fun h => kf ((lg_cmp_eq x z).mp h)))
theorem pw_lif_lt {x z : Int64} {off : Int} {tgt : Nat} (hd : decode cc pc = .ok (.lcmp, 1)) (hd2 : decode cc (pc + 1) = .ok (.ifCond .lt off, 3)) (ht : ((pc + 1 : Nat) : Int) + off = (tgt : Int)) (kt : x < z → pm_W l E y cc nL ret d kc ks tgt lv st S I J P Q) (kf : ¬ x < z → pm_W l E y cc nL ret d kc ks (pc + 1 + 3) lv st S I J P Q) : pm_W l E y cc nL ret d kc ks pc lv (.long z :: .long x :: st) S I J P Q :=
  pw_lcmp hd (pw_if_lt hd2 ht (fun h => kt ((lg_cmp_lt x z).mp h)) (fun h => kf (fun h2 => h ((lg_cmp_lt x z).mpr h2))))
theorem pw_lif_ge {x z : Int64} {off : Int} {tgt : Nat} (hd : decode cc pc = .ok (.lcmp, 1)) (hd2 : decode cc (pc + 1) = .ok (.ifCond .ge off, 3)) (ht : ((pc + 1 : Nat) : Int) + off = (tgt : Int)) (kt : z ≤ x → pm_W l E y cc nL ret d kc ks tgt lv st S I J P Q) (kf : ¬ z ≤ x → pm_W l E y cc nL ret d kc ks (pc + 1 + 3) lv st S I J P Q) : pm_W l E y cc nL ret d kc ks pc lv (.long z :: .long x :: st) S I J P Q :=
  pw_lcmp hd (pw_if_ge hd2 ht (fun h => kt ((lg_cmp_ge x z).mp h)) (fun h => kf (fun h2 => h ((lg_cmp_ge x z).mpr h2))))
theorem pw_lif_gt {x z : Int64} {off : Int} {tgt : Nat} (hd : decode cc pc = .ok (.lcmp, 1)) (hd2 : decode cc (pc + 1) = .ok (.ifCond .gt off, 3)) (ht : ((pc + 1 : Nat) : Int) + off = (tgt : Int)) (kt : z < x → pm_W l E y cc nL ret d kc ks tgt lv st S I J P Q) (kf : ¬ z < x → pm_W l E y cc nL ret d kc ks (pc + 1 + 3) lv st S I J P Q) : pm_W l E y cc nL ret d kc ks pc lv (.long z :: .long x :: st) S I J P Q :=
  pw_lcmp hd (pw_if_gt hd2 ht (fun h => kt ((lg_cmp_gt x z).mp h)) (fun h => kf (fun h2 => h ((lg_cmp_gt x z).mpr h2))))
theorem pw_lif_le {x z : Int64} {off : Int} {tgt : Nat} (hd : decode cc pc = .ok (.lcmp, 1)) (hd2 : decode cc (pc + 1) = .ok (.ifCond .le off, 3)) (ht : ((pc + 1 : Nat) : Int) + off = (tgt : Int)) (kt : x ≤ z → pm_W l E y cc nL ret d kc ks tgt lv st S I J P Q) (kf : ¬ x ≤ z → pm_W l E y cc nL ret d kc ks (pc + 1 + 3) lv st S I J P Q) : pm_W l E y cc nL ret d kc ks pc lv (.long z :: .long x :: st) S I J P Q :=
  pw_lcmp hd (pw_if_le hd2 ht (fun h => kt ((lg_cmp_le x z).mp h)) (fun h => kf (fun h2 => h ((lg_cmp_le x z).mpr h2))))
end PZ
/-- an index by a number of ours -/
theorem pm_ix {i : Int32} {k n : Nat} (hi : i = nI k) (h : k < n) (hn : n < 2 ^ 31) : vp_in i n := by rw [hi]; exact vp_in_nI h hn
section PN
variable {l : Launch} {E : pmE} {y : MethodName} {cc : ByteArray} {nL : Nat} {ret : Option FieldType} {d kc ks pc : Nat} {lv : List (Nat × Value)} {st : List Value} {S : pmS} {I : pmI} {J : pmJ} {P : pmP} {Q : pm_Z}
theorem pw_ialdN {a n : Nat} {i : Int32} (q : Nat) (hd : decode cc pc = .ok (.iaload, 1)) (ha : a < S.1) (hs : S.2 a = (100, n)) (hn : n < 2 ^ 31) (hi : i = nI q) (hq : q < n) (kk : pm_W l E y cc nL ret d kc ks (pc + 1) lv (.int (I a q) :: st) S I J P Q) : pm_W l E y cc nL ret d kc ks pc lv (.int i :: .ref a :: st) S I J P Q :=
  pw_iald hd ha hs (pm_ix hi hq hn) (by rw [hi, nI_clamp (by omega)]; exact kk)
theorem pw_baldN {a n : Nat} {i : Int32} (q : Nat) (hd : decode cc pc = .ok (.baload, 1)) (ha : a < S.1) (hs : S.2 a = (102, n)) (hn : n < 2 ^ 31) (hi : i = nI q) (hq : q < n) (kk : pm_W l E y cc nL ret d kc ks (pc + 1) lv (.int (I a q) :: st) S I J P Q) : pm_W l E y cc nL ret d kc ks pc lv (.int i :: .ref a :: st) S I J P Q :=
  pw_bald hd ha hs (pm_ix hi hq hn) (by rw [hi, nI_clamp (by omega)]; exact kk)
theorem pw_zaldN {a n : Nat} {i : Int32} (q : Nat) (hd : decode cc pc = .ok (.baload, 1)) (ha : a < S.1) (hs : S.2 a = (103, n)) (hn : n < 2 ^ 31) (hi : i = nI q) (hq : q < n) (kk : pm_W l E y cc nL ret d kc ks (pc + 1) lv (.int (I a q) :: st) S I J P Q) : pm_W l E y cc nL ret d kc ks pc lv (.int i :: .ref a :: st) S I J P Q :=
  pw_zald hd ha hs (pm_ix hi hq hn) (by rw [hi, nI_clamp (by omega)]; exact kk)
theorem pw_laldN {a n : Nat} {i : Int32} (q : Nat) (hd : decode cc pc = .ok (.laload, 1)) (ha : a < S.1) (hs : S.2 a = (101, n)) (hn : n < 2 ^ 31) (hi : i = nI q) (hq : q < n) (kk : pm_W l E y cc nL ret d kc ks (pc + 1) lv (.long (J a q) :: st) S I J P Q) : pm_W l E y cc nL ret d kc ks pc lv (.int i :: .ref a :: st) S I J P Q :=
  pw_lald hd ha hs (pm_ix hi hq hn) (by rw [hi, nI_clamp (by omega)]; exact kk)
theorem pw_aaldN {a n t : Nat} {i : Int32} {r : Option Nat} (q : Nat) (hd : decode cc pc = .ok (.aaload, 1)) (ha : a < S.1) (hs : S.2 a = (t, n)) (ht : t = 104 ∨ t = 105) (hn : n < 2 ^ 31) (hi : i = nI q) (hq : q < n) (hp : P a q = r) (kk : pm_W l E y cc nL ret d kc ks (pc + 1) lv (va_rf r :: st) S I J P Q) : pm_W l E y cc nL ret d kc ks pc lv (.int i :: .ref a :: st) S I J P Q :=
  pw_aald hd ha hs ht (pm_ix hi hq hn) (by rw [hi, nI_clamp (by omega)]; exact hp) kk
theorem pw_iastN {a n : Nat} {i : Int32} {x : Int32} (q : Nat) (hd : decode cc pc = .ok (.iastore, 1)) (ha2 : 2 ≤ a) (ha : a < S.1) (hs : S.2 a = (100, n)) (hn : n < 2 ^ 31) (hi : i = nI q) (hq : q < n) (kk : pm_W l E y cc nL ret d kc ks (pc + 1) lv st S (pm_u I a q x) J P Q) : pm_W l E y cc nL ret d kc ks pc lv (.int x :: .int i :: .ref a :: st) S I J P Q :=
  pw_iast hd ha2 ha hs (pm_ix hi hq hn) (by rw [hi, nI_clamp (by omega)]; exact kk)
theorem pw_lastN {a n : Nat} {i : Int32} {x : Int64} (q : Nat) (hd : decode cc pc = .ok (.lastore, 1)) (ha2 : 2 ≤ a) (ha : a < S.1) (hs : S.2 a = (101, n)) (hn : n < 2 ^ 31) (hi : i = nI q) (hq : q < n) (kk : pm_W l E y cc nL ret d kc ks (pc + 1) lv st S I (pm_u J a q x) P Q) : pm_W l E y cc nL ret d kc ks pc lv (.long x :: .int i :: .ref a :: st) S I J P Q :=
  pw_last hd ha2 ha hs (pm_ix hi hq hn) (by rw [hi, nI_clamp (by omega)]; exact kk)
theorem pw_bastN {a n : Nat} {i x z : Int32} (q : Nat) (hd : decode cc pc = .ok (.bastore, 1)) (ha2 : 2 ≤ a) (ha : a < S.1) (hs : S.2 a = (102, n)) (hn : n < 2 ^ 31) (hi : i = nI q) (hq : q < n) (hz : narrow .byte (.int x) = .int z) (kk : pm_W l E y cc nL ret d kc ks (pc + 1) lv st S (pm_u I a q z) J P Q) : pm_W l E y cc nL ret d kc ks pc lv (.int x :: .int i :: .ref a :: st) S I J P Q :=
  pw_bast hd ha2 ha hs (pm_ix hi hq hn) hz (by rw [hi, nI_clamp (by omega)]; exact kk)
theorem pw_zastN {a n : Nat} {i x : Int32} (q : Nat) (hd : decode cc pc = .ok (.bastore, 1)) (ha2 : 2 ≤ a) (ha : a < S.1) (hs : S.2 a = (103, n)) (hn : n < 2 ^ 31) (hi : i = nI q) (hq : q < n) (hz : x = 0 ∨ x = 1) (kk : pm_W l E y cc nL ret d kc ks (pc + 1) lv st S (pm_u I a q x) J P Q) : pm_W l E y cc nL ret d kc ks pc lv (.int x :: .int i :: .ref a :: st) S I J P Q :=
  pw_zast hd ha2 ha hs (pm_ix hi hq hn) hz (by rw [hi, nI_clamp (by omega)]; exact kk)
theorem pw_aastN {a b n t ci : Nat} {i : Int32} (q : Nat) (hd : decode cc pc = .ok (.aastore, 1)) (ha2 : 2 ≤ a) (ha : a < S.1) (hs : S.2 a = (t, n)) (ht : (t = 104 ∧ ci = 4) ∨ (t = 105 ∧ ci = 9)) (hn : n < 2 ^ 31) (hi : i = nI q) (hq : q < n) (hb0 : b < S.1) (hbs : (S.2 b).1 = ci) (kk : pm_W l E y cc nL ret d kc ks (pc + 1) lv st S I J (pm_u P a q (some b)) Q) : pm_W l E y cc nL ret d kc ks pc lv (.ref b :: .int i :: .ref a :: st) S I J P Q :=
  pw_aast hd ha2 ha hs ht (pm_ix hi hq hn) hb0 hbs (by rw [hi, nI_clamp (by omega)]; exact kk)
/-- a number on top may be put in another form -/
theorem pw_ti {x z : Int32} (h : x = z) (k : pm_W l E y cc nL ret d kc ks pc lv (.int z :: st) S I J P Q) : pm_W l E y cc nL ret d kc ks pc lv (.int x :: st) S I J P Q := h ▸ k
theorem pw_tj {x z : Int64} (h : x = z) (k : pm_W l E y cc nL ret d kc ks pc lv (.long z :: st) S I J P Q) : pm_W l E y cc nL ret d kc ks pc lv (.long x :: st) S I J P Q := h ▸ k
end PN
section PB
variable {l : Launch} {E : pmE} {y : MethodName} {cc : ByteArray} {nL : Nat} {ret : Option FieldType} {d kc ks pc : Nat} {lv : List (Nat × Value)} {st : List Value} {S : pmS} {I : pmI} {J : pmJ} {P : pmP} {Q : pm_Z}
theorem pw_icmpN_eq {x z : Int32} (a b : Nat) {off : Int} {tgt : Nat} (hd : decode cc pc = .ok (.if_icmp .eq off, 3)) (ht : (pc : Int) + off = (tgt : Int)) (hx : x = nI a) (hz : z = nI b) (ha : a < 2 ^ 31) (hb : b < 2 ^ 31) (kt : a = b → pm_W l E y cc nL ret d kc ks tgt lv st S I J P Q) (kf : ¬ a = b → pm_W l E y cc nL ret d kc ks (pc + 3) lv st S I J P Q) : pm_W l E y cc nL ret d kc ks pc lv (.int z :: .int x :: st) S I J P Q := by
  subst hx hz
  exact pw_icmp_eq hd ht (fun h => kt ((nI_eq ha hb).mp h)) (fun h => kf (fun h2 => h ((nI_eq ha hb).mpr h2)))
theorem pw_icmpN_ne {x z : Int32} (a b : Nat) {off : Int} {tgt : Nat} (hd : decode cc pc = .ok (.if_icmp .ne off, 3)) (ht : (pc : Int) + off = (tgt : Int)) (hx : x = nI a) (hz : z = nI b) (ha : a < 2 ^ 31) (hb : b < 2 ^ 31) (kt : ¬ a = b → pm_W l E y cc nL ret d kc ks tgt lv st S I J P Q) (kf : a = b → pm_W l E y cc nL ret d kc ks (pc + 3) lv st S I J P Q) : pm_W l E y cc nL ret d kc ks pc lv (.int z :: .int x :: st) S I J P Q := by
  subst hx hz
  exact pw_icmp_ne hd ht (fun h => kt (fun h2 => h ((nI_eq ha hb).mpr h2))) (fun h => kf ((nI_eq ha hb).mp h))
theorem pw_icmpN_lt {x z : Int32} (a b : Nat) {off : Int} {tgt : Nat} (hd : decode cc pc = .ok (.if_icmp .lt off, 3)) (ht : (pc : Int) + off = (tgt : Int)) (hx : x = nI a) (hz : z = nI b) (ha : a < 2 ^ 31) (hb : b < 2 ^ 31) (kt : a < b → pm_W l E y cc nL ret d kc ks tgt lv st S I J P Q) (kf : b ≤ a → pm_W l E y cc nL ret d kc ks (pc + 3) lv st S I J P Q) : pm_W l E y cc nL ret d kc ks pc lv (.int z :: .int x :: st) S I J P Q := by
  subst hx hz
  exact pw_icmp_lt hd ht (fun h => kt ((nI_ltI ha hb).mp h)) (fun h => kf (Nat.le_of_not_lt fun h2 => h ((nI_ltI ha hb).mpr h2)))
theorem pw_icmpN_ge {x z : Int32} (a b : Nat) {off : Int} {tgt : Nat} (hd : decode cc pc = .ok (.if_icmp .ge off, 3)) (ht : (pc : Int) + off = (tgt : Int)) (hx : x = nI a) (hz : z = nI b) (ha : a < 2 ^ 31) (hb : b < 2 ^ 31) (kt : b ≤ a → pm_W l E y cc nL ret d kc ks tgt lv st S I J P Q) (kf : a < b → pm_W l E y cc nL ret d kc ks (pc + 3) lv st S I J P Q) : pm_W l E y cc nL ret d kc ks pc lv (.int z :: .int x :: st) S I J P Q := by
  subst hx hz
  exact pw_icmp_ge hd ht (fun h => kt ((nI_leI hb ha).mp h)) (fun h => kf (Nat.lt_of_not_le fun h2 => h ((nI_leI hb ha).mpr h2)))
theorem pw_icmpN_gt {x z : Int32} (a b : Nat) {off : Int} {tgt : Nat} (hd : decode cc pc = .ok (.if_icmp .gt off, 3)) (ht : (pc : Int) + off = (tgt : Int)) (hx : x = nI a) (hz : z = nI b) (ha : a < 2 ^ 31) (hb : b < 2 ^ 31) (kt : b < a → pm_W l E y cc nL ret d kc ks tgt lv st S I J P Q) (kf : a ≤ b → pm_W l E y cc nL ret d kc ks (pc + 3) lv st S I J P Q) : pm_W l E y cc nL ret d kc ks pc lv (.int z :: .int x :: st) S I J P Q := by
  subst hx hz
  exact pw_icmp_gt hd ht (fun h => kt ((nI_ltI hb ha).mp h)) (fun h => kf (Nat.le_of_not_lt fun h2 => h ((nI_ltI hb ha).mpr h2)))
theorem pw_icmpN_le {x z : Int32} (a b : Nat) {off : Int} {tgt : Nat} (hd : decode cc pc = .ok (.if_icmp .le off, 3)) (ht : (pc : Int) + off = (tgt : Int)) (hx : x = nI a) (hz : z = nI b) (ha : a < 2 ^ 31) (hb : b < 2 ^ 31) (kt : a ≤ b → pm_W l E y cc nL ret d kc ks tgt lv st S I J P Q) (kf : b < a → pm_W l E y cc nL ret d kc ks (pc + 3) lv st S I J P Q) : pm_W l E y cc nL ret d kc ks pc lv (.int z :: .int x :: st) S I J P Q := by
  subst hx hz
  exact pw_icmp_le hd ht (fun h => kt ((nI_leI ha hb).mp h)) (fun h => kf (Nat.lt_of_not_le fun h2 => h ((nI_leI ha hb).mpr h2)))
theorem pw_ifN_eq {x : Int32} (a : Nat) {off : Int} {tgt : Nat} (hd : decode cc pc = .ok (.ifCond .eq off, 3)) (ht : (pc : Int) + off = (tgt : Int)) (hx : x = nI a) (ha : a < 2 ^ 31) (kt : a = 0 → pm_W l E y cc nL ret d kc ks tgt lv st S I J P Q) (kf : ¬ a = 0 → pm_W l E y cc nL ret d kc ks (pc + 3) lv st S I J P Q) : pm_W l E y cc nL ret d kc ks pc lv (.int x :: st) S I J P Q := by
  subst hx
  have h0 : 0 < 2 ^ 31 := by decide
  exact pw_if_eq hd ht (fun h => kt ((nI_eq ha h0).mp h)) (fun h => kf (fun h2 => h ((nI_eq ha h0).mpr h2)))
theorem pw_ifN_ne {x : Int32} (a : Nat) {off : Int} {tgt : Nat} (hd : decode cc pc = .ok (.ifCond .ne off, 3)) (ht : (pc : Int) + off = (tgt : Int)) (hx : x = nI a) (ha : a < 2 ^ 31) (kt : ¬ a = 0 → pm_W l E y cc nL ret d kc ks tgt lv st S I J P Q) (kf : a = 0 → pm_W l E y cc nL ret d kc ks (pc + 3) lv st S I J P Q) : pm_W l E y cc nL ret d kc ks pc lv (.int x :: st) S I J P Q := by
  subst hx
  have h0 : 0 < 2 ^ 31 := by decide
  exact pw_if_ne hd ht (fun h => kt (fun h2 => h ((nI_eq ha h0).mpr h2))) (fun h => kf ((nI_eq ha h0).mp h))
theorem pw_ifN_lt {x : Int32} (a : Nat) {off : Int} {tgt : Nat} (hd : decode cc pc = .ok (.ifCond .lt off, 3)) (ht : (pc : Int) + off = (tgt : Int)) (hx : x = nI a) (ha : a < 2 ^ 31) (kt : a < 0 → pm_W l E y cc nL ret d kc ks tgt lv st S I J P Q) (kf : 0 ≤ a → pm_W l E y cc nL ret d kc ks (pc + 3) lv st S I J P Q) : pm_W l E y cc nL ret d kc ks pc lv (.int x :: st) S I J P Q := by
  subst hx
  have h0 : 0 < 2 ^ 31 := by decide
  exact pw_if_lt hd ht (fun h => kt ((nI_ltI ha h0).mp h)) (fun h => kf (Nat.le_of_not_lt fun h2 => h ((nI_ltI ha h0).mpr h2)))
theorem pw_ifN_ge {x : Int32} (a : Nat) {off : Int} {tgt : Nat} (hd : decode cc pc = .ok (.ifCond .ge off, 3)) (ht : (pc : Int) + off = (tgt : Int)) (hx : x = nI a) (ha : a < 2 ^ 31) (kt : 0 ≤ a → pm_W l E y cc nL ret d kc ks tgt lv st S I J P Q) (kf : a < 0 → pm_W l E y cc nL ret d kc ks (pc + 3) lv st S I J P Q) : pm_W l E y cc nL ret d kc ks pc lv (.int x :: st) S I J P Q := by
  subst hx
  have h0 : 0 < 2 ^ 31 := by decide
  exact pw_if_ge hd ht (fun h => kt ((nI_leI h0 ha).mp h)) (fun h => kf (Nat.lt_of_not_le fun h2 => h ((nI_leI h0 ha).mpr h2)))
theorem pw_ifN_gt {x : Int32} (a : Nat) {off : Int} {tgt : Nat} (hd : decode cc pc = .ok (.ifCond .gt off, 3)) (ht : (pc : Int) + off = (tgt : Int)) (hx : x = nI a) (ha : a < 2 ^ 31) (kt : 0 < a → pm_W l E y cc nL ret d kc ks tgt lv st S I J P Q) (kf : a ≤ 0 → pm_W l E y cc nL ret d kc ks (pc + 3) lv st S I J P Q) : pm_W l E y cc nL ret d kc ks pc lv (.int x :: st) S I J P Q := by
  subst hx
  have h0 : 0 < 2 ^ 31 := by decide
  exact pw_if_gt hd ht (fun h => kt ((nI_ltI h0 ha).mp h)) (fun h => kf (Nat.le_of_not_lt fun h2 => h ((nI_ltI h0 ha).mpr h2)))
theorem pw_ifN_le {x : Int32} (a : Nat) {off : Int} {tgt : Nat} (hd : decode cc pc = .ok (.ifCond .le off, 3)) (ht : (pc : Int) + off = (tgt : Int)) (hx : x = nI a) (ha : a < 2 ^ 31) (kt : a ≤ 0 → pm_W l E y cc nL ret d kc ks tgt lv st S I J P Q) (kf : 0 < a → pm_W l E y cc nL ret d kc ks (pc + 3) lv st S I J P Q) : pm_W l E y cc nL ret d kc ks pc lv (.int x :: st) S I J P Q := by
  subst hx
  have h0 : 0 < 2 ^ 31 := by decide
  exact pw_if_le hd ht (fun h => kt ((nI_leI ha h0).mp h)) (fun h => kf (Nat.lt_of_not_le fun h2 => h ((nI_leI ha h0).mpr h2)))
end PB
/-! the script: cell 0, of tag 200 -/
section PS
variable {l : Launch} {E : pmE} {y : MethodName} {cc : ByteArray} {nL : Nat} {ret : Option FieldType} {d kc ks pc : Nat} {lv : List (Nat × Value)} {st : List Value} {S : pmS} {I : pmI} {J : pmJ} {P : pmP} {Q : pm_Z}
def pm_X (E : pmE) (L : Nat) (xs : Nat → Int32) : Prop := ∃ scr : Cell, E.H0[E.ad 0]? = some scr ∧ scr.slots.size = L ∧ (∀ j, j < L → scr.slots[j]? = some (.int (xs j))) ∧ E.s0.isArrayOf scr .int ∧ scr.vm ≠ .unknown
theorem pw_slen {L : Nat} {xs : Nat → Int32} (hX : pm_X E L xs) (hd : decode cc pc = .ok (.arraylength, 1))
    (kk : pm_W l E y cc nL ret d kc ks (pc + 1) lv (.int (nI L) :: st) S I J P Q) : pm_W l E y cc nL ret d kc ks pc lv (.ref 0 :: st) S I J P Q := by
  intro p e R s m args below meth c H locs cells slots mc ms ls C hr hl0 hR hv
  obtain ⟨hx, hb, hml, hret, hlk, hown, hts, hK, hnm⟩ := id C
  obtain ⟨scr, h1, h2, h3, h4, h5⟩ := hX
  exact W.alen (n := nI L) hx hb (by rw [hR.2.2.2.2 _ hK.2.2.2.2.1.1]; exact h1) (State.isArrayOf_alike hK.2.2.2.2.2.1 h4) (by rw [h2]; rfl) rfl rfl hd (kk p e R s m args below meth c H locs cells slots mc ms ls C hr hl0 hR hv)
theorem pw_sld {L : Nat} {xs : Nat → Int32} {i : Int32} (q : Nat) (hX : pm_X E L xs) (hd : decode cc pc = .ok (.iaload, 1)) (hL : L < 2 ^ 31) (hi : i = nI q) (hq : q < L)
    (kk : pm_W l E y cc nL ret d kc ks (pc + 1) lv (.int (xs q) :: st) S I J P Q) : pm_W l E y cc nL ret d kc ks pc lv (.int i :: .ref 0 :: st) S I J P Q := by
  intro p e R s m args below meth c H locs cells slots mc ms ls C hr hl0 hR hv
  obtain ⟨hx, hb, hml, hret, hlk, hown, hts, hK, hnm⟩ := id C
  subst hi
  obtain ⟨scr, h1, h2, h3, h4, h5⟩ := hX
  exact W.iald (v := .int (xs q)) hx hb (by rw [hR.2.2.2.2 _ hK.2.2.2.2.1.1]; exact h1) (State.isArrayOf_alike hK.2.2.2.2.2.1 h4) h5 (by rw [h2]; exact vp_in_nI hq hL) (by rw [nI_clamp (by omega)]; exact h3 q hq) rfl rfl hd (kk p e R s m args below meth c H locs cells slots mc ms ls C hr hl0 hR hv)
end PS
