/-- does SNIPPET s, a MEMBER that stands, use the NAME -/
def uB (A : aS) (s : Nat) (v : Int64) : Bool := decide ((A.at s).form = 2 ∧ A.dc (A.at s).dec = some s) && usB (A.at s).tr v
/-- the SNIPPET that user() answers: m are left from s on, c used it -/
def usF (A : aS) (v : Int64) (y : Int32) : Nat → Nat → Nat → Int32
  | 0, _, _ => -5
  | m + 1, s, c => if uB A s v = true then (if y = nI c then nI s else usF A v y m (s + 1) (c + 1)) else usF A v y m (s + 1) c
theorem uB_t {A : aS} {s : Nat} {v : Int64} (h1 : (A.at s).form = 2) (h2 : A.dc (A.at s).dec = some s) (h3 : usB (A.at s).tr v = true) : uB A s v = true := by
  unfold uB
  rw [decide_eq_true ⟨h1, h2⟩, h3]
  rfl
theorem uB_f {A : aS} {s : Nat} {v : Int64} (h : ¬ ((A.at s).form = 2 ∧ A.dc (A.at s).dec = some s)) : ¬ uB A s v = true := by
  unfold uB
  rw [decide_eq_false h]
  exact fun q => nomatch q
theorem uB_f2 {A : aS} {s : Nat} {v : Int64} (h3 : ¬ usB (A.at s).tr v = true) : ¬ uB A s v = true := fun q => h3 ((Bool.and_eq_true _ _ ▸ q).2)
theorem usF_n {A : aS} {v : Int64} {y : Int32} {m s c : Nat} (h : ¬ uB A s v = true) : usF A v y (m + 1) s c = usF A v y m (s + 1) c := if_neg h
theorem usF_r {A : aS} {v : Int64} {y : Int32} {m s c : Nat} (h : uB A s v = true) (e : y = nI c) : usF A v y (m + 1) s c = nI s := (if_pos h).trans (if_pos e)
theorem usF_g {A : aS} {v : Int64} {y : Int32} {m s c : Nat} (h : uB A s v = true) (e : ¬ y = nI c) : usF A v y (m + 1) s c = usF A v y m (s + 1) (c + 1) := (if_pos h).trans (if_neg e)
theorem i_sub0 {y z : Int32} (h : y - z = 0) : y = z := by
  have e := Int32.sub_add_cancel y z
  rw [h, Int32.zero_add] at e
  exact e.symm
set_option maxRecDepth 20000 in
set_option maxHeartbeats 400000 in
theorem c_us0_lp {l : Launch} {E : pmE} {d : Nat} {S : pmS} {I : pmI} {J : pmJ} {P : pmP} {Q : Option Value → pmS → pmI → pmJ → pmP → Prop} (hG : sh_St S) (hP : gr_St P) (hd : 2 ≤ d) {ns : List Int64} {z : Nat} {y : sN} {x1 : Int32} (hx : snC S I J P ns z y) (hf : y.form ≠ 2) (hf3 : y.form ≤ 3) (kx : Q (some (.int (nI 0))) S I J P) {rm : Nat} {L : List dE} (hk : kC S I J P (z + 3) rm L) : ∀ (m k : Nat), k + m = L.length → pm_W l E yX5_usesName cX5_usesName 4 (some .boolean) d 0 0 2 [(2, .int (nI k)), (0, .ref (z + 2)), (1, .int x1)] [] S I J P (pm_N E Q)
  | 0, k, hkm => by
    have hrr := hk.rr
    refine pw_iload_n dX5_usesName_2 rfl ?_
    refine pw_aload_n dX5_usesName_3 rfl ?_
    refine pw_getR fX5_26 dX5_usesName_4 (by have := hx.1.2; omega) hx.tg rfl hx.p4 ?_
    refine pw_callV (as := []) (kc' := 0) (ks' := 0) lX5_30 dX5_usesName_7 rfl rfl (by have := hk.1.2; omega) hk.2.1 (Nat.le_of_ble_eq_true rfl) (by omega) (Nat.le_of_ble_eq_true rfl) (Nat.zero_le _) (Nat.zero_le _) ?_
    unfold pm_Met
    refine pm_lvs (lv' := [(0, _)]) rfl ?_
    refine pw_aload_n dX0_size_0 rfl ?_
    refine pw_getI fX0_25 dX0_size_1 (by have := hk.1.2; omega) hk.2.1 rfl ?_
    refine pw_iret dX0_size_4 rfl ?_
    refine pw_icmpN_ge _ _ (tgt := 67) dX5_usesName_10 (by decide) (rfl) (hk.sz) (by omega) (by omega) (fun h10 => ?_) (fun h10 => absurd h10 (by omega))
    refine pw_iconst (v := nI 0) dX5_usesName_67 (by decide) ?_
    exact pw_zret dX5_usesName_68 rfl (by decide) (kx)
  | m + 1, k, hkm => by
    have hrr := hk.rr
    refine pw_iload_n dX5_usesName_2 rfl ?_
    refine pw_aload_n dX5_usesName_3 rfl ?_
    refine pw_getR fX5_26 dX5_usesName_4 (by have := hx.1.2; omega) hx.tg rfl hx.p4 ?_
    refine pw_callV (as := []) (kc' := 0) (ks' := 0) lX5_30 dX5_usesName_7 rfl rfl (by have := hk.1.2; omega) hk.2.1 (Nat.le_of_ble_eq_true rfl) (by omega) (Nat.le_of_ble_eq_true rfl) (Nat.zero_le _) (Nat.zero_le _) ?_
    unfold pm_Met
    refine pm_lvs (lv' := [(0, _)]) rfl ?_
    refine pw_aload_n dX0_size_0 rfl ?_
    refine pw_getI fX0_25 dX0_size_1 (by have := hk.1.2; omega) hk.2.1 rfl ?_
    refine pw_iret dX0_size_4 rfl ?_
    refine pw_icmpN_ge _ _ (tgt := 67) dX5_usesName_10 (by decide) (rfl) (hk.sz) (by omega) (by omega) (fun h10 => absurd h10 (by omega)) (fun h10 => ?_)
    refine pw_aload_n dX5_usesName_13 rfl ?_
    refine pw_getR fX5_26 dX5_usesName_14 (by have := hx.1.2; omega) hx.tg rfl hx.p4 ?_
    refine pw_iload_n dX5_usesName_17 rfl ?_
    refine pw_callV (as := [_]) (kc' := 0) (ks' := 0) lX5_36 dX5_usesName_18 rfl rfl (by have := hk.1.2; omega) hk.2.1 (Nat.le_of_ble_eq_true rfl) (by omega) (Nat.le_of_ble_eq_true rfl) (Nat.zero_le _) (Nat.zero_le _) ?_
    refine k_deedX hk (fun a1 => ?_)
    refine pw_istore_n (lv' := [(3, _), (2, _), (0, _), (1, _)]) dX5_usesName_21 (by decide) rfl ?_
    refine pw_iload_n dX5_usesName_22 rfl ?_
    refine pw_iconst (v := nI 5) dX5_usesName_23 (by decide) ?_
    refine pw_icmp_eq (tgt := 33) dX5_usesName_24 (by decide) (fun h24 => ?_) (fun h24 => ?_)
    · refine pw_aload_n dX5_usesName_33 rfl ?_
      refine pw_getR fX5_26 dX5_usesName_34 (by have := hx.1.2; omega) hx.tg rfl hx.p4 ?_
      refine pw_iload_n dX5_usesName_37 rfl ?_
      refine pw_callV (as := [_]) (kc' := 0) (ks' := 0) lX5_40 dX5_usesName_38 rfl rfl (by have := hk.1.2; omega) hk.2.1 (Nat.le_of_ble_eq_true rfl) (by omega) (Nat.le_of_ble_eq_true rfl) (Nat.zero_le _) (Nat.zero_le _) ?_
      refine k_coreX hk (fun a2 => ?_)
      refine pw_iload_n dX5_usesName_41 rfl ?_
      refine pw_i2l dX5_usesName_42 ?_
      refine pw_lif_ne (tgt := 61) dX5_usesName_43 dX5_usesName_44 (by decide) (fun h44 => ?_) (fun h44 => ?_)
      · refine pw_sub [1, 2, 3] rfl ?_
        refine pw_iinc (lv' := [(2, _), (0, _), (1, _)]) dX5_usesName_61 rfl (by decide) rfl ?_
        refine pw_goto (tgt := 2) dX5_usesName_64 (by decide) ?_
        refine pm_lvs (lv' := [(2, .int (nI (k + 1))), (0, _), (1, _)]) (by rw [show nI k + Int32.ofInt 1 = nI (k + 1) from nI_add k 1]) ?_
        exact c_us0_lp hG hP hd hx hf hf3 kx hk m (k + 1) (by omega)
      · refine pw_aload_n dX5_usesName_47 rfl ?_
        refine pw_getI fX5_9 dX5_usesName_48 (by have := hx.1.2; omega) hx.tg rfl ?_
        refine pw_iconst (v := nI 2) dX5_usesName_51 (by decide) ?_
        refine pw_icmpN_ne _ _ (tgt := 59) dX5_usesName_52 (by decide) (hx.fm) (rfl) (by omega) (by omega) (fun h52 => ?_) (fun h52 => absurd h52 (by omega))
        refine pw_iconst (v := nI 0) dX5_usesName_59 (by decide) ?_
        exact pw_zret dX5_usesName_60 rfl (by decide) (kx)
    · refine pw_iload_n dX5_usesName_27 rfl ?_
      refine pw_bipush (v := nI 6) dX5_usesName_28 (by decide) ?_
      refine pw_icmp_ne (tgt := 61) dX5_usesName_30 (by decide) (fun h30 => ?_) (fun h30 => ?_)
      · refine pw_sub [1, 2, 3] rfl ?_
        refine pw_iinc (lv' := [(2, _), (0, _), (1, _)]) dX5_usesName_61 rfl (by decide) rfl ?_
        refine pw_goto (tgt := 2) dX5_usesName_64 (by decide) ?_
        refine pm_lvs (lv' := [(2, .int (nI (k + 1))), (0, _), (1, _)]) (by rw [show nI k + Int32.ofInt 1 = nI (k + 1) from nI_add k 1]) ?_
        exact c_us0_lp hG hP hd hx hf hf3 kx hk m (k + 1) (by omega)
      · refine pw_aload_n dX5_usesName_33 rfl ?_
        refine pw_getR fX5_26 dX5_usesName_34 (by have := hx.1.2; omega) hx.tg rfl hx.p4 ?_
        refine pw_iload_n dX5_usesName_37 rfl ?_
        refine pw_callV (as := [_]) (kc' := 0) (ks' := 0) lX5_40 dX5_usesName_38 rfl rfl (by have := hk.1.2; omega) hk.2.1 (Nat.le_of_ble_eq_true rfl) (by omega) (Nat.le_of_ble_eq_true rfl) (Nat.zero_le _) (Nat.zero_le _) ?_
        refine k_coreX hk (fun a2 => ?_)
        refine pw_iload_n dX5_usesName_41 rfl ?_
        refine pw_i2l dX5_usesName_42 ?_
        refine pw_lif_ne (tgt := 61) dX5_usesName_43 dX5_usesName_44 (by decide) (fun h44 => ?_) (fun h44 => ?_)
        · refine pw_sub [1, 2, 3] rfl ?_
          refine pw_iinc (lv' := [(2, _), (0, _), (1, _)]) dX5_usesName_61 rfl (by decide) rfl ?_
          refine pw_goto (tgt := 2) dX5_usesName_64 (by decide) ?_
          refine pm_lvs (lv' := [(2, .int (nI (k + 1))), (0, _), (1, _)]) (by rw [show nI k + Int32.ofInt 1 = nI (k + 1) from nI_add k 1]) ?_
          exact c_us0_lp hG hP hd hx hf hf3 kx hk m (k + 1) (by omega)
        · refine pw_aload_n dX5_usesName_47 rfl ?_
          refine pw_getI fX5_9 dX5_usesName_48 (by have := hx.1.2; omega) hx.tg rfl ?_
          refine pw_iconst (v := nI 2) dX5_usesName_51 (by decide) ?_
          refine pw_icmpN_ne _ _ (tgt := 59) dX5_usesName_52 (by decide) (hx.fm) (rfl) (by omega) (by omega) (fun h52 => ?_) (fun h52 => absurd h52 (by omega))
          refine pw_iconst (v := nI 0) dX5_usesName_59 (by decide) ?_
          exact pw_zret dX5_usesName_60 rfl (by decide) (kx)
set_option maxRecDepth 20000 in
set_option maxHeartbeats 400000 in
theorem c_us0 {l : Launch} {E : pmE} {d : Nat} {S : pmS} {I : pmI} {J : pmJ} {P : pmP} {Q : Option Value → pmS → pmI → pmJ → pmP → Prop} (hG : sh_St S) (hP : gr_St P) (hd : 2 ≤ d) {ns : List Int64} {z : Nat} {y : sN} {x1 : Int32} (hx : snC S I J P ns z y) (hf : y.form ≠ 2) (hf3 : y.form ≤ 3) (k : Q (some (.int (nI 0))) S I J P) : pm_Met l E yX5_usesName cX5_usesName 4 (some .boolean) d 0 0 [.ref (z + 2), .int x1] S I J P Q := by
  unfold pm_Met
  obtain ⟨rm, L, hk, -⟩ := hx.cd
  refine pm_lvs (lv' := [(0, _), (1, _)]) rfl ?_
  refine pw_iconst (v := nI 0) dX5_usesName_0 (by decide) ?_
  refine pw_istore_n (lv' := [(2, _), (0, _), (1, _)]) dX5_usesName_1 (by decide) rfl ?_
  exact c_us0_lp hG hP hd hx hf hf3 k hk L.length 0 (Nat.zero_add _)
set_option maxRecDepth 20000 in
set_option maxHeartbeats 400000 in
theorem c_usE_lp {l : Launch} {E : pmE} {d : Nat} {S : pmS} {I : pmI} {J : pmJ} {P : pmP} {Q : Option Value → pmS → pmI → pmJ → pmP → Prop} (hG : sh_St S) (hP : gr_St P) (hd : 2 ≤ d) {A : aS} {Z : Nat → Nat} {b : Nat} (hc : cA S I J P A Z b) (hO : aO A) {z : Nat} {y : sN} {w : Int64} (hwn : w ∈ A.ns) (hx : snC S I J P A.ns z y) (hf : y.form = 2) (hw : wt y.pa (· ∈ A.ns) y.tr) (kx : Q (some (.int (nI (if usB y.tr w = true then 1 else 0)))) S I J P) {rm : Nat} (hk : kC S I J P (z + 3) rm (cp (hN A.ns) y.tr ++ [(13, 0, 0)])) : ∀ (m k : Nat), k + m = (cp (hN A.ns) y.tr ++ [(13, 0, 0)]).length → (∀ i x, i < k → (cp (hN A.ns) y.tr ++ [(13, 0, 0)])[i]? = some x → x.1 = 5 ∨ x.1 = 6 → x.2.2 ≠ hN A.ns w) → pm_W l E yX5_usesName cX5_usesName 4 (some .boolean) d 0 0 2 [(2, .int (nI k)), (0, .ref (z + 2)), (1, .int (nI (A.ns.idxOf w)))] [] S I J P (pm_N E Q)
  | 0, k, hkm, hi => by
    have hrr := hk.rr
    have hno : usB y.tr w = false := usB_f (fun c hu => by
      obtain ⟨x, x1, x2⟩ := (us_cp (hN A.ns) y.tr hw).2 (c, w) hu
      obtain ⟨i, hi1, hi2⟩ := List.mem_iff_getElem.mp x1
      have e1 : x.1 = (if c = true then 6 else 5) := congrArg Prod.fst x2
      have e2 : x.2.2 = hN A.ns w := congrArg Prod.snd x2
      refine hi i x (by rw [List.length_append] at hkm; omega) (by rw [List.getElem?_append_left hi1, List.getElem?_eq_getElem hi1, hi2]) (by cases c <;> rw [e1] <;> simp) e2)
    rw [hno, if_neg (by decide)] at kx
    refine pw_iload_n dX5_usesName_2 rfl ?_
    refine pw_aload_n dX5_usesName_3 rfl ?_
    refine pw_getR fX5_26 dX5_usesName_4 (by have := hx.1.2; omega) hx.tg rfl hx.p4 ?_
    refine pw_callV (as := []) (kc' := 0) (ks' := 0) lX5_30 dX5_usesName_7 rfl rfl (by have := hk.1.2; omega) hk.2.1 (Nat.le_of_ble_eq_true rfl) (by omega) (Nat.le_of_ble_eq_true rfl) (Nat.zero_le _) (Nat.zero_le _) ?_
    unfold pm_Met
    refine pm_lvs (lv' := [(0, _)]) rfl ?_
    refine pw_aload_n dX0_size_0 rfl ?_
    refine pw_getI fX0_25 dX0_size_1 (by have := hk.1.2; omega) hk.2.1 rfl ?_
    refine pw_iret dX0_size_4 rfl ?_
    refine pw_icmpN_ge _ _ (tgt := 67) dX5_usesName_10 (by decide) (rfl) (hk.sz) (by omega) (by omega) (fun h10 => ?_) (fun h10 => absurd h10 (by omega))
    refine pw_iconst (v := nI 0) dX5_usesName_67 (by decide) ?_
    exact pw_zret dX5_usesName_68 rfl (by decide) (kx)
  | m + 1, k, hkm, hi => by
    have hrr := hk.rr
    have hnl := hO.1.2
    have hwl := (ns_at hwn).2
    obtain ⟨x, hq⟩ : ∃ x, (cp (hN A.ns) y.tr ++ [(13, 0, 0)])[k]? = some x := ⟨_, List.getElem?_eq_getElem (by omega)⟩
    have hxm := List.mem_of_getElem? hq
    have hx13 : x.1 < 2 ^ 31 := dE_lt hw hxm
    by_cases h56 : x.1 = 5 ∨ x.1 = 6
    · have hxc : x ∈ cp (hN A.ns) y.tr := by
        rcases List.mem_append.mp hxm with q9 | q9
        · exact q9
        · rw [List.mem_singleton.mp q9] at h56
          exact absurd h56 (show ¬ ((13 : Nat) = 5 ∨ (13 : Nat) = 6) by decide)
      obtain ⟨⟨c, v⟩, u1, u2⟩ := (us_cp (hN A.ns) y.tr hw).1 x hxc h56
      have hvn := (us_nm _ hw _ u1).1
      have e2 : hN A.ns v = x.2.2 := congrArg Prod.snd u2
      have e1 : (if c = true then 6 else 5) = x.1 := congrArg Prod.fst u2
      have huni : ∀ u, u ∈ A.ns → x.2.2 = hN A.ns u → u = v := fun u hu e => hN_inj hu hvn hnl (e.symm.trans e2.symm)
      refine pw_iload_n dX5_usesName_2 rfl ?_
      refine pw_aload_n dX5_usesName_3 rfl ?_
      refine pw_getR fX5_26 dX5_usesName_4 (by have := hx.1.2; omega) hx.tg rfl hx.p4 ?_
      refine pw_callV (as := []) (kc' := 0) (ks' := 0) lX5_30 dX5_usesName_7 rfl rfl (by have := hk.1.2; omega) hk.2.1 (Nat.le_of_ble_eq_true rfl) (by omega) (Nat.le_of_ble_eq_true rfl) (Nat.zero_le _) (Nat.zero_le _) ?_
      unfold pm_Met
      refine pm_lvs (lv' := [(0, _)]) rfl ?_
      refine pw_aload_n dX0_size_0 rfl ?_
      refine pw_getI fX0_25 dX0_size_1 (by have := hk.1.2; omega) hk.2.1 rfl ?_
      refine pw_iret dX0_size_4 rfl ?_
      refine pw_icmpN_ge _ _ (tgt := 67) dX5_usesName_10 (by decide) (rfl) (hk.sz) (by omega) (by omega) (fun h10 => absurd h10 (by omega)) (fun h10 => ?_)
      refine pw_aload_n dX5_usesName_13 rfl ?_
      refine pw_getR fX5_26 dX5_usesName_14 (by have := hx.1.2; omega) hx.tg rfl hx.p4 ?_
      refine pw_iload_n dX5_usesName_17 rfl ?_
      refine pw_callV (as := [_]) (kc' := 0) (ks' := 0) lX5_36 dX5_usesName_18 rfl rfl (by have := hk.1.2; omega) hk.2.1 (Nat.le_of_ble_eq_true rfl) (by omega) (Nat.le_of_ble_eq_true rfl) (Nat.zero_le _) (Nat.zero_le _) ?_
      refine k_deed hk hq ?_
      refine pw_istore_n (lv' := [(3, _), (2, _), (0, _), (1, _)]) dX5_usesName_21 (by decide) rfl ?_
      refine pw_iload_n dX5_usesName_22 rfl ?_
      refine pw_iconst (v := nI 5) dX5_usesName_23 (by decide) ?_
      refine pw_icmpN_eq _ _ (tgt := 33) dX5_usesName_24 (by decide) (rfl) (rfl) (by omega) (by omega) (fun h24 => ?_) (fun h24 => ?_)
      · refine pw_aload_n dX5_usesName_33 rfl ?_
        refine pw_getR fX5_26 dX5_usesName_34 (by have := hx.1.2; omega) hx.tg rfl hx.p4 ?_
        refine pw_iload_n dX5_usesName_37 rfl ?_
        refine pw_callV (as := [_]) (kc' := 0) (ks' := 0) lX5_40 dX5_usesName_38 rfl rfl (by have := hk.1.2; omega) hk.2.1 (Nat.le_of_ble_eq_true rfl) (by omega) (Nat.le_of_ble_eq_true rfl) (Nat.zero_le _) (Nat.zero_le _) ?_
        refine k_core hk hq (by omega) ?_
        refine pw_tj (z := hN A.ns v) e2.symm ?_
        refine pw_iload_n dX5_usesName_41 rfl ?_
        refine pw_i2l dX5_usesName_42 ?_
        refine pw_tj (z := hN A.ns w) (nI_l (by omega)) ?_
        refine pw_lif_ne (tgt := 61) dX5_usesName_43 dX5_usesName_44 (by decide) (fun h44 => ?_) (fun h44 => ?_)
        · refine pw_sub [1, 2, 3] rfl ?_
          refine pw_iinc (lv' := [(2, _), (0, _), (1, _)]) dX5_usesName_61 rfl (by decide) rfl ?_
          refine pw_goto (tgt := 2) dX5_usesName_64 (by decide) ?_
          refine pm_lvs (lv' := [(2, .int (nI (k + 1))), (0, _), (1, _)]) (by rw [show nI k + Int32.ofInt 1 = nI (k + 1) from nI_add k 1]) ?_
          exact c_usE_lp hG hP hd hc hO hwn hx hf hw kx hk m (k + 1) (by omega) (fun i x' h1 h2 h3 => by
            rcases Nat.lt_or_ge i k with q9 | q9
            · exact hi i x' q9 h2 h3
            · have e9 : i = k := by omega
              rw [e9, hq] at h2
              cases h2
              exact (by rw [← e2]; exact h44))
        · have hus : usB y.tr w = true := by
            have e9 : v = w := hN_inj hvn hwn hnl h44
            rw [e9] at u1
            exact usB_t u1
          rw [if_pos hus] at kx
          refine pw_aload_n dX5_usesName_47 rfl ?_
          refine pw_getI fX5_9 dX5_usesName_48 (by have := hx.1.2; omega) hx.tg rfl ?_
          refine pw_iconst (v := nI 2) dX5_usesName_51 (by decide) ?_
          refine pw_icmpN_ne _ _ (tgt := 59) dX5_usesName_52 (by decide) (hx.fm) (rfl) (by omega) (by omega) (fun h52 => absurd h52 (by omega)) (fun h52 => ?_)
          refine pw_iconst (v := nI 1) dX5_usesName_55 (by decide) ?_
          refine pw_goto (tgt := 60) dX5_usesName_56 (by decide) ?_
          exact pw_zret dX5_usesName_60 rfl (by decide) (kx)
      · refine pw_iload_n dX5_usesName_27 rfl ?_
        refine pw_bipush (v := nI 6) dX5_usesName_28 (by decide) ?_
        refine pw_icmpN_ne _ _ (tgt := 61) dX5_usesName_30 (by decide) (rfl) (rfl) (by omega) (by omega) (fun h30 => absurd h30 (by omega)) (fun h30 => ?_)
        refine pw_aload_n dX5_usesName_33 rfl ?_
        refine pw_getR fX5_26 dX5_usesName_34 (by have := hx.1.2; omega) hx.tg rfl hx.p4 ?_
        refine pw_iload_n dX5_usesName_37 rfl ?_
        refine pw_callV (as := [_]) (kc' := 0) (ks' := 0) lX5_40 dX5_usesName_38 rfl rfl (by have := hk.1.2; omega) hk.2.1 (Nat.le_of_ble_eq_true rfl) (by omega) (Nat.le_of_ble_eq_true rfl) (Nat.zero_le _) (Nat.zero_le _) ?_
        refine k_core hk hq (by omega) ?_
        refine pw_tj (z := hN A.ns v) e2.symm ?_
        refine pw_iload_n dX5_usesName_41 rfl ?_
        refine pw_i2l dX5_usesName_42 ?_
        refine pw_tj (z := hN A.ns w) (nI_l (by omega)) ?_
        refine pw_lif_ne (tgt := 61) dX5_usesName_43 dX5_usesName_44 (by decide) (fun h44 => ?_) (fun h44 => ?_)
        · refine pw_sub [1, 2, 3] rfl ?_
          refine pw_iinc (lv' := [(2, _), (0, _), (1, _)]) dX5_usesName_61 rfl (by decide) rfl ?_
          refine pw_goto (tgt := 2) dX5_usesName_64 (by decide) ?_
          refine pm_lvs (lv' := [(2, .int (nI (k + 1))), (0, _), (1, _)]) (by rw [show nI k + Int32.ofInt 1 = nI (k + 1) from nI_add k 1]) ?_
          exact c_usE_lp hG hP hd hc hO hwn hx hf hw kx hk m (k + 1) (by omega) (fun i x' h1 h2 h3 => by
            rcases Nat.lt_or_ge i k with q9 | q9
            · exact hi i x' q9 h2 h3
            · have e9 : i = k := by omega
              rw [e9, hq] at h2
              cases h2
              exact (by rw [← e2]; exact h44))
        · have hus : usB y.tr w = true := by
            have e9 : v = w := hN_inj hvn hwn hnl h44
            rw [e9] at u1
            exact usB_t u1
          rw [if_pos hus] at kx
          refine pw_aload_n dX5_usesName_47 rfl ?_
          refine pw_getI fX5_9 dX5_usesName_48 (by have := hx.1.2; omega) hx.tg rfl ?_
          refine pw_iconst (v := nI 2) dX5_usesName_51 (by decide) ?_
          refine pw_icmpN_ne _ _ (tgt := 59) dX5_usesName_52 (by decide) (hx.fm) (rfl) (by omega) (by omega) (fun h52 => absurd h52 (by omega)) (fun h52 => ?_)
          refine pw_iconst (v := nI 1) dX5_usesName_55 (by decide) ?_
          refine pw_goto (tgt := 60) dX5_usesName_56 (by decide) ?_
          exact pw_zret dX5_usesName_60 rfl (by decide) (kx)
    · refine pw_iload_n dX5_usesName_2 rfl ?_
      refine pw_aload_n dX5_usesName_3 rfl ?_
      refine pw_getR fX5_26 dX5_usesName_4 (by have := hx.1.2; omega) hx.tg rfl hx.p4 ?_
      refine pw_callV (as := []) (kc' := 0) (ks' := 0) lX5_30 dX5_usesName_7 rfl rfl (by have := hk.1.2; omega) hk.2.1 (Nat.le_of_ble_eq_true rfl) (by omega) (Nat.le_of_ble_eq_true rfl) (Nat.zero_le _) (Nat.zero_le _) ?_
      unfold pm_Met
      refine pm_lvs (lv' := [(0, _)]) rfl ?_
      refine pw_aload_n dX0_size_0 rfl ?_
      refine pw_getI fX0_25 dX0_size_1 (by have := hk.1.2; omega) hk.2.1 rfl ?_
      refine pw_iret dX0_size_4 rfl ?_
      refine pw_icmpN_ge _ _ (tgt := 67) dX5_usesName_10 (by decide) (rfl) (hk.sz) (by omega) (by omega) (fun h10 => absurd h10 (by omega)) (fun h10 => ?_)
      refine pw_aload_n dX5_usesName_13 rfl ?_
      refine pw_getR fX5_26 dX5_usesName_14 (by have := hx.1.2; omega) hx.tg rfl hx.p4 ?_
      refine pw_iload_n dX5_usesName_17 rfl ?_
      refine pw_callV (as := [_]) (kc' := 0) (ks' := 0) lX5_36 dX5_usesName_18 rfl rfl (by have := hk.1.2; omega) hk.2.1 (Nat.le_of_ble_eq_true rfl) (by omega) (Nat.le_of_ble_eq_true rfl) (Nat.zero_le _) (Nat.zero_le _) ?_
      refine k_deed hk hq ?_
      refine pw_istore_n (lv' := [(3, _), (2, _), (0, _), (1, _)]) dX5_usesName_21 (by decide) rfl ?_
      refine pw_iload_n dX5_usesName_22 rfl ?_
      refine pw_iconst (v := nI 5) dX5_usesName_23 (by decide) ?_
      refine pw_icmpN_eq _ _ (tgt := 33) dX5_usesName_24 (by decide) (rfl) (rfl) (by omega) (by omega) (fun h24 => absurd h24 (by omega)) (fun h24 => ?_)
      refine pw_iload_n dX5_usesName_27 rfl ?_
      refine pw_bipush (v := nI 6) dX5_usesName_28 (by decide) ?_
      refine pw_icmpN_ne _ _ (tgt := 61) dX5_usesName_30 (by decide) (rfl) (rfl) (by omega) (by omega) (fun h30 => ?_) (fun h30 => absurd h30 (by omega))
      refine pw_sub [1, 2, 3] rfl ?_
      refine pw_iinc (lv' := [(2, _), (0, _), (1, _)]) dX5_usesName_61 rfl (by decide) rfl ?_
      refine pw_goto (tgt := 2) dX5_usesName_64 (by decide) ?_
      refine pm_lvs (lv' := [(2, .int (nI (k + 1))), (0, _), (1, _)]) (by rw [show nI k + Int32.ofInt 1 = nI (k + 1) from nI_add k 1]) ?_
      exact c_usE_lp hG hP hd hc hO hwn hx hf hw kx hk m (k + 1) (by omega) (fun i x' h1 h2 h3 => by
        rcases Nat.lt_or_ge i k with q9 | q9
        · exact hi i x' q9 h2 h3
        · have e9 : i = k := by omega
          rw [e9, hq] at h2
          cases h2
          exact absurd h3 h56)
set_option maxRecDepth 20000 in
set_option maxHeartbeats 400000 in
theorem c_usE {l : Launch} {E : pmE} {d : Nat} {S : pmS} {I : pmI} {J : pmJ} {P : pmP} {Q : Option Value → pmS → pmI → pmJ → pmP → Prop} (hG : sh_St S) (hP : gr_St P) (hd : 2 ≤ d) {A : aS} {Z : Nat → Nat} {b : Nat} (hc : cA S I J P A Z b) (hO : aO A) {z : Nat} {y : sN} {w : Int64} (hwn : w ∈ A.ns) (hx : snC S I J P A.ns z y) (hf : y.form = 2) (hw : wt y.pa (· ∈ A.ns) y.tr) (k : Q (some (.int (nI (if usB y.tr w = true then 1 else 0)))) S I J P) : pm_Met l E yX5_usesName cX5_usesName 4 (some .boolean) d 0 0 [.ref (z + 2), .int (nI (A.ns.idxOf w))] S I J P Q := by
  unfold pm_Met
  obtain ⟨rm, L, hk, hL⟩ := hx.cd
  rw [hL hf] at hk
  refine pm_lvs (lv' := [(0, _), (1, _)]) rfl ?_
  refine pw_iconst (v := nI 0) dX5_usesName_0 (by decide) ?_
  refine pw_istore_n (lv' := [(2, _), (0, _), (1, _)]) dX5_usesName_1 (by decide) rfl ?_
  exact c_usE_lp hG hP hd hc hO hwn hx hf hw k hk _ 0 (Nat.zero_add _) (fun i x h => absurd h (Nat.not_lt_zero _))
set_option maxRecDepth 20000 in
set_option maxHeartbeats 400000 in
theorem c_uoE_lp {l : Launch} {E : pmE} {d : Nat} {S : pmS} {I : pmI} {J : pmJ} {P : pmP} {Q : Option Value → pmS → pmI → pmJ → pmP → Prop} (hG : sh_St S) (hP : gr_St P) (hd : 4 ≤ d) {y : Int32} {w : Int64} {A : aS} {Z : Nat → Nat} {b : Nat} (hc : cA S I J P A Z b) (hO : aO A) (hwn : w ∈ A.ns) : ∀ (m s c : Nat), s + m = A.sn.length → c ≤ s → Q (some (.int (usF A w y m s c))) S I J P → pm_W l E yX4_userOf cX4_userOf 5 (some .int) d 0 0 5 [(4, .int (nI s)), (3, .int (nI c)), (0, .ref 15), (1, .int (nI (A.ns.idxOf w))), (2, .int y)] [] S I J P (pm_N E Q)
  | 0, s, c, hk, hcs, kx => by
    have hsl := hO.2.2.2.2.2.2.2.2.2.2.1
    refine pw_iload dX4_userOf_5 rfl ?_
    refine pw_aload_n dX4_userOf_7 rfl ?_
    refine pw_getI fX4_49 dX4_userOf_8 (sh_lt hG (by decide)) (sh_tg hG 13 rfl) rfl ?_
    refine pw_icmpN_ge _ _ (tgt := 63) dX4_userOf_11 (by decide) (rfl) (hc.k) (by omega) (by omega) (fun h11 => ?_) (fun h11 => absurd h11 (by omega))
    refine pw_bipush (v := -5) dX4_userOf_63 (by decide) ?_
    exact pw_iret dX4_userOf_65 rfl (kx)
  | m + 1, s, c, hk, hcs, kx => by
    have hsl := hO.2.2.2.2.2.2.2.2.2.2.1
    have hs : s < A.sn.length := by omega
    have hxO := hO.2.2.2.2.1 s hs
    have hf3 := hxO.1
    by_cases hr : (A.at s).form ≠ 0 ∧ A.dc (A.at s).dec ≠ some s
    · rw [usF_n (uB_f (fun z => hr.2 z.2))] at kx
      refine pw_iload dX4_userOf_5 rfl ?_
      refine pw_aload_n dX4_userOf_7 rfl ?_
      refine pw_getI fX4_49 dX4_userOf_8 (sh_lt hG (by decide)) (sh_tg hG 13 rfl) rfl ?_
      refine pw_icmpN_ge _ _ (tgt := 63) dX4_userOf_11 (by decide) (rfl) (hc.k) (by omega) (by omega) (fun h11 => absurd h11 (by omega)) (fun h11 => ?_)
      refine pw_aload_n dX4_userOf_14 rfl ?_
      refine pw_iload dX4_userOf_15 rfl ?_
      refine pw_callV (as := [_]) (kc' := 0) (ks' := 0) lX4_82 dX4_userOf_17 rfl rfl (sh_lt hG (by decide)) (sh_tg hG 13 rfl) (Nat.le_of_ble_eq_true rfl) (by omega) (Nat.le_of_ble_eq_true rfl) (Nat.zero_le _) (Nat.zero_le _) ?_
      refine c_hasSn1 hG hP hc hO hs ?_
      refine pw_if_eq (tgt := 57) dX4_userOf_20 (by decide) (fun h => absurd h (by decide)) (fun h20 => ?_)
      refine pw_aload_n dX4_userOf_23 rfl ?_
      refine pw_iload dX4_userOf_24 rfl ?_
      refine pw_callV (as := [_]) (kc' := 0) (ks' := 0) lX4_96 dX4_userOf_26 rfl rfl (sh_lt hG (by decide)) (sh_tg hG 13 rfl) (Nat.le_of_ble_eq_true rfl) (by omega) (Nat.le_of_ble_eq_true rfl) (Nat.zero_le _) (Nat.zero_le _) ?_
      refine c_isReplE hG hP (by omega) hc hO hs ?_
      rw [if_pos hr]
      refine pw_if_ne (tgt := 57) dX4_userOf_29 (by decide) (fun h29 => ?_) (fun h => absurd h (by decide))
      refine pw_sub [0, 1, 2, 3, 4] rfl ?_
      refine pw_iinc (lv' := [(4, _), (3, _), (0, _), (1, _), (2, _)]) dX4_userOf_57 rfl (by decide) rfl ?_
      refine pw_goto (tgt := 5) dX4_userOf_60 (by decide) ?_
      refine pm_lvs (lv' := [(4, .int (nI (s + 1))), (3, .int (nI (c))), (0, _), (1, _), (2, _)]) (by rw [show nI s + Int32.ofInt 1 = nI (s + 1) from nI_add s 1]) ?_
      exact c_uoE_lp hG hP hd hc hO hwn m (s + 1) (c) (by omega) (by omega) kx
    · by_cases h2 : (A.at s).form = 2
      · have hw := hxO.2.2.2.2.1 h2
        have hdc : A.dc (A.at s).dec = some s := Classical.byContradiction (fun z => hr ⟨by omega, z⟩)
        by_cases hu : usB (A.at s).tr w = true
        · have hb := uB_t h2 hdc hu
          refine pw_iload dX4_userOf_5 rfl ?_
          refine pw_aload_n dX4_userOf_7 rfl ?_
          refine pw_getI fX4_49 dX4_userOf_8 (sh_lt hG (by decide)) (sh_tg hG 13 rfl) rfl ?_
          refine pw_icmpN_ge _ _ (tgt := 63) dX4_userOf_11 (by decide) (rfl) (hc.k) (by omega) (by omega) (fun h11 => absurd h11 (by omega)) (fun h11 => ?_)
          refine pw_aload_n dX4_userOf_14 rfl ?_
          refine pw_iload dX4_userOf_15 rfl ?_
          refine pw_callV (as := [_]) (kc' := 0) (ks' := 0) lX4_82 dX4_userOf_17 rfl rfl (sh_lt hG (by decide)) (sh_tg hG 13 rfl) (Nat.le_of_ble_eq_true rfl) (by omega) (Nat.le_of_ble_eq_true rfl) (Nat.zero_le _) (Nat.zero_le _) ?_
          refine c_hasSn1 hG hP hc hO hs ?_
          refine pw_if_eq (tgt := 57) dX4_userOf_20 (by decide) (fun h => absurd h (by decide)) (fun h20 => ?_)
          refine pw_aload_n dX4_userOf_23 rfl ?_
          refine pw_iload dX4_userOf_24 rfl ?_
          refine pw_callV (as := [_]) (kc' := 0) (ks' := 0) lX4_96 dX4_userOf_26 rfl rfl (sh_lt hG (by decide)) (sh_tg hG 13 rfl) (Nat.le_of_ble_eq_true rfl) (by omega) (Nat.le_of_ble_eq_true rfl) (Nat.zero_le _) (Nat.zero_le _) ?_
          refine c_isReplE hG hP (by omega) hc hO hs ?_
          rw [if_neg hr]
          refine pw_if_ne (tgt := 57) dX4_userOf_29 (by decide) (fun h => absurd (by decide) h) (fun h29 => ?_)
          refine pw_aload_n dX4_userOf_32 rfl ?_
          refine pw_getR fX4_39 dX4_userOf_33 (sh_lt hG (by decide)) (sh_tg hG 13 rfl) rfl (gr_at hP 19 rfl) ?_
          refine pw_iload dX4_userOf_36 rfl ?_
          refine pw_aaldN (r := some (Z s + 2)) s dX4_userOf_38 (sh_lt hG (by decide)) (sh_sh hG 31 rfl) (by decide) (by decide) (rfl) (by omega) (hc.sn hs).1 ?_
          refine pw_iload_n dX4_userOf_39 rfl ?_
          refine pw_callV (as := [_]) (kc' := 0) (ks' := 0) lX4_103 dX4_userOf_40 rfl rfl (by have := (hc.sn hs).2.1.1.2; omega) (hc.sn hs).2.1.tg (Nat.le_of_ble_eq_true rfl) (by omega) (Nat.le_of_ble_eq_true rfl) (Nat.zero_le _) (Nat.zero_le _) ?_
          refine c_usE hG hP (by omega) hc hO hwn (hc.sn hs).2.1 h2 hw ?_
          rw [if_pos hu]
          refine pw_if_eq (tgt := 57) dX4_userOf_43 (by decide) (fun h => absurd h (by decide)) (fun h43 => ?_)
          refine pw_iload_n dX4_userOf_46 rfl ?_
          refine pw_iload_n dX4_userOf_47 rfl ?_
          refine pw_icmp_ne (tgt := 54) dX4_userOf_48 (by decide) (fun h48 => ?_) (fun h48 => ?_)
          · rw [usF_g hb (fun e => h48 e.symm)] at kx
            refine pw_iinc (lv' := [(3, _), (4, _), (0, _), (1, _), (2, _)]) dX4_userOf_54 rfl (by decide) rfl ?_
            refine pw_sub [1, 0, 2, 3, 4] rfl ?_
            refine pw_iinc (lv' := [(4, _), (3, _), (0, _), (1, _), (2, _)]) dX4_userOf_57 rfl (by decide) rfl ?_
            refine pw_goto (tgt := 5) dX4_userOf_60 (by decide) ?_
            refine pm_lvs (lv' := [(4, .int (nI (s + 1))), (3, .int (nI (c + 1))), (0, _), (1, _), (2, _)]) (by rw [show nI s + Int32.ofInt 1 = nI (s + 1) from nI_add s 1]; rw [show nI c + Int32.ofInt 1 = nI (c + 1) from nI_add c 1]) ?_
            exact c_uoE_lp hG hP hd hc hO hwn m (s + 1) (c + 1) (by omega) (by omega) kx
          · rw [usF_r hb h48.symm] at kx
            refine pw_iload dX4_userOf_51 rfl ?_
            exact pw_iret dX4_userOf_53 rfl (kx)
        · rw [usF_n (uB_f2 hu)] at kx
          refine pw_iload dX4_userOf_5 rfl ?_
          refine pw_aload_n dX4_userOf_7 rfl ?_
          refine pw_getI fX4_49 dX4_userOf_8 (sh_lt hG (by decide)) (sh_tg hG 13 rfl) rfl ?_
          refine pw_icmpN_ge _ _ (tgt := 63) dX4_userOf_11 (by decide) (rfl) (hc.k) (by omega) (by omega) (fun h11 => absurd h11 (by omega)) (fun h11 => ?_)
          refine pw_aload_n dX4_userOf_14 rfl ?_
          refine pw_iload dX4_userOf_15 rfl ?_
          refine pw_callV (as := [_]) (kc' := 0) (ks' := 0) lX4_82 dX4_userOf_17 rfl rfl (sh_lt hG (by decide)) (sh_tg hG 13 rfl) (Nat.le_of_ble_eq_true rfl) (by omega) (Nat.le_of_ble_eq_true rfl) (Nat.zero_le _) (Nat.zero_le _) ?_
          refine c_hasSn1 hG hP hc hO hs ?_
          refine pw_if_eq (tgt := 57) dX4_userOf_20 (by decide) (fun h => absurd h (by decide)) (fun h20 => ?_)
          refine pw_aload_n dX4_userOf_23 rfl ?_
          refine pw_iload dX4_userOf_24 rfl ?_
          refine pw_callV (as := [_]) (kc' := 0) (ks' := 0) lX4_96 dX4_userOf_26 rfl rfl (sh_lt hG (by decide)) (sh_tg hG 13 rfl) (Nat.le_of_ble_eq_true rfl) (by omega) (Nat.le_of_ble_eq_true rfl) (Nat.zero_le _) (Nat.zero_le _) ?_
          refine c_isReplE hG hP (by omega) hc hO hs ?_
          rw [if_neg hr]
          refine pw_if_ne (tgt := 57) dX4_userOf_29 (by decide) (fun h => absurd (by decide) h) (fun h29 => ?_)
          refine pw_aload_n dX4_userOf_32 rfl ?_
          refine pw_getR fX4_39 dX4_userOf_33 (sh_lt hG (by decide)) (sh_tg hG 13 rfl) rfl (gr_at hP 19 rfl) ?_
          refine pw_iload dX4_userOf_36 rfl ?_
          refine pw_aaldN (r := some (Z s + 2)) s dX4_userOf_38 (sh_lt hG (by decide)) (sh_sh hG 31 rfl) (by decide) (by decide) (rfl) (by omega) (hc.sn hs).1 ?_
          refine pw_iload_n dX4_userOf_39 rfl ?_
          refine pw_callV (as := [_]) (kc' := 0) (ks' := 0) lX4_103 dX4_userOf_40 rfl rfl (by have := (hc.sn hs).2.1.1.2; omega) (hc.sn hs).2.1.tg (Nat.le_of_ble_eq_true rfl) (by omega) (Nat.le_of_ble_eq_true rfl) (Nat.zero_le _) (Nat.zero_le _) ?_
          refine c_usE hG hP (by omega) hc hO hwn (hc.sn hs).2.1 h2 hw ?_
          rw [if_neg hu]
          refine pw_if_eq (tgt := 57) dX4_userOf_43 (by decide) (fun h43 => ?_) (fun h => absurd (by decide) h)
          refine pw_sub [0, 1, 2, 3, 4] rfl ?_
          refine pw_iinc (lv' := [(4, _), (3, _), (0, _), (1, _), (2, _)]) dX4_userOf_57 rfl (by decide) rfl ?_
          refine pw_goto (tgt := 5) dX4_userOf_60 (by decide) ?_
          refine pm_lvs (lv' := [(4, .int (nI (s + 1))), (3, .int (nI (c))), (0, _), (1, _), (2, _)]) (by rw [show nI s + Int32.ofInt 1 = nI (s + 1) from nI_add s 1]) ?_
          exact c_uoE_lp hG hP hd hc hO hwn m (s + 1) (c) (by omega) (by omega) kx
      · rw [usF_n (uB_f (fun z => h2 z.1))] at kx
        refine pw_iload dX4_userOf_5 rfl ?_
        refine pw_aload_n dX4_userOf_7 rfl ?_
        refine pw_getI fX4_49 dX4_userOf_8 (sh_lt hG (by decide)) (sh_tg hG 13 rfl) rfl ?_
        refine pw_icmpN_ge _ _ (tgt := 63) dX4_userOf_11 (by decide) (rfl) (hc.k) (by omega) (by omega) (fun h11 => absurd h11 (by omega)) (fun h11 => ?_)
        refine pw_aload_n dX4_userOf_14 rfl ?_
        refine pw_iload dX4_userOf_15 rfl ?_
        refine pw_callV (as := [_]) (kc' := 0) (ks' := 0) lX4_82 dX4_userOf_17 rfl rfl (sh_lt hG (by decide)) (sh_tg hG 13 rfl) (Nat.le_of_ble_eq_true rfl) (by omega) (Nat.le_of_ble_eq_true rfl) (Nat.zero_le _) (Nat.zero_le _) ?_
        refine c_hasSn1 hG hP hc hO hs ?_
        refine pw_if_eq (tgt := 57) dX4_userOf_20 (by decide) (fun h => absurd h (by decide)) (fun h20 => ?_)
        refine pw_aload_n dX4_userOf_23 rfl ?_
        refine pw_iload dX4_userOf_24 rfl ?_
        refine pw_callV (as := [_]) (kc' := 0) (ks' := 0) lX4_96 dX4_userOf_26 rfl rfl (sh_lt hG (by decide)) (sh_tg hG 13 rfl) (Nat.le_of_ble_eq_true rfl) (by omega) (Nat.le_of_ble_eq_true rfl) (Nat.zero_le _) (Nat.zero_le _) ?_
        refine c_isReplE hG hP (by omega) hc hO hs ?_
        rw [if_neg hr]
        refine pw_if_ne (tgt := 57) dX4_userOf_29 (by decide) (fun h => absurd (by decide) h) (fun h29 => ?_)
        refine pw_aload_n dX4_userOf_32 rfl ?_
        refine pw_getR fX4_39 dX4_userOf_33 (sh_lt hG (by decide)) (sh_tg hG 13 rfl) rfl (gr_at hP 19 rfl) ?_
        refine pw_iload dX4_userOf_36 rfl ?_
        refine pw_aaldN (r := some (Z s + 2)) s dX4_userOf_38 (sh_lt hG (by decide)) (sh_sh hG 31 rfl) (by decide) (by decide) (rfl) (by omega) (hc.sn hs).1 ?_
        refine pw_iload_n dX4_userOf_39 rfl ?_
        refine pw_callV (as := [_]) (kc' := 0) (ks' := 0) lX4_103 dX4_userOf_40 rfl rfl (by have := (hc.sn hs).2.1.1.2; omega) (hc.sn hs).2.1.tg (Nat.le_of_ble_eq_true rfl) (by omega) (Nat.le_of_ble_eq_true rfl) (Nat.zero_le _) (Nat.zero_le _) ?_
        refine c_us0 hG hP (by omega) (hc.sn hs).2.1 h2 hf3 ?_
        refine pw_if_eq (tgt := 57) dX4_userOf_43 (by decide) (fun h43 => ?_) (fun h => absurd (by decide) h)
        refine pw_sub [0, 1, 2, 3, 4] rfl ?_
        refine pw_iinc (lv' := [(4, _), (3, _), (0, _), (1, _), (2, _)]) dX4_userOf_57 rfl (by decide) rfl ?_
        refine pw_goto (tgt := 5) dX4_userOf_60 (by decide) ?_
        refine pm_lvs (lv' := [(4, .int (nI (s + 1))), (3, .int (nI (c))), (0, _), (1, _), (2, _)]) (by rw [show nI s + Int32.ofInt 1 = nI (s + 1) from nI_add s 1]) ?_
        exact c_uoE_lp hG hP hd hc hO hwn m (s + 1) (c) (by omega) (by omega) kx
set_option maxRecDepth 20000 in
set_option maxHeartbeats 400000 in
theorem c_userOfE {l : Launch} {E : pmE} {d : Nat} {S : pmS} {I : pmI} {J : pmJ} {P : pmP} {Q : Option Value → pmS → pmI → pmJ → pmP → Prop} (hG : sh_St S) (hP : gr_St P) (hd : 4 ≤ d) {y : Int32} {w : Int64} {A : aS} {Z : Nat → Nat} {b : Nat} (hc : cA S I J P A Z b) (hO : aO A) (hwn : w ∈ A.ns) (k : Q (some (.int (usF A w y A.sn.length 0 0))) S I J P) : pm_Met l E yX4_userOf cX4_userOf 5 (some .int) d 0 0 [.ref 15, .int (nI (A.ns.idxOf w)), .int y] S I J P Q := by
  unfold pm_Met
  refine pm_lvs (lv' := [(0, _), (1, _), (2, _)]) rfl ?_
  refine pw_iconst (v := nI 0) dX4_userOf_0 (by decide) ?_
  refine pw_istore_n (lv' := [(3, _), (0, _), (1, _), (2, _)]) dX4_userOf_1 (by decide) rfl ?_
  refine pw_iconst (v := nI 0) dX4_userOf_2 (by decide) ?_
  refine pw_istore (lv' := [(4, _), (3, _), (0, _), (1, _), (2, _)]) dX4_userOf_3 (by decide) rfl ?_
  refine pm_lvs (lv' := [(4, .int (nI 0)), (3, .int (nI 0)), (0, _), (1, _), (2, _)]) rfl ?_
  exact c_uoE_lp hG hP hd hc hO hwn A.sn.length 0 0 (Nat.zero_add _) (Nat.le_refl _) k
set_option maxRecDepth 20000 in
set_option maxHeartbeats 400000 in
theorem c_userE {l : Launch} {E : pmE} {d : Nat} {S : pmS} {I : pmI} {J : pmJ} {P : pmP} {Q : Option Value → pmS → pmI → pmJ → pmP → Prop} (hG : sh_St S) (hP : gr_St P) (hd : 5 ≤ d) {x y : Int32} {A : aS} {Z : Nat → Nat} {b : Nat} (hc : cA S I J P A Z b) (hO : aO A) (k : Q (some (.int (nmX A.ns (fun v => usF A v y A.sn.length 0 0) x))) S I J P) : pm_Met l E yX9_user cX9_user 3 (some .int) d 0 0 [.ref 2, .int x, .int y] S I J P Q := by
  unfold pm_Met
  refine pm_lvs (lv' := [(0, _), (1, _), (2, _)]) rfl ?_
  refine pw_aload_n dX9_user_0 rfl ?_
  refine pw_getR fX9_32 dX9_user_1 (sh_lt hG (by decide)) (sh_tg hG 0 rfl) rfl (gr_at hP 3 rfl) ?_
  refine pw_getR fX9_72 dX9_user_4 (sh_lt hG (by decide)) (sh_tg hG 13 rfl) rfl (gr_at hP 15 rfl) ?_
  refine pw_iload_n dX9_user_7 rfl ?_
  refine pw_callV (as := [_]) (kc' := 0) (ks' := 0) lX9_142 dX9_user_8 rfl rfl (sh_lt hG (by decide)) (sh_tg hG 14 rfl) (Nat.le_of_ble_eq_true rfl) (by omega) (Nat.le_of_ble_eq_true rfl) (Nat.zero_le _) (Nat.zero_le _) ?_
  refine c_X2_has hG hP hc.n hO.1.2 (fun j hj e => ?_) (fun h0 => ?_)
  · subst e
    obtain ⟨v, hv⟩ : ∃ v, A.ns[j]? = some v := ⟨_, List.getElem?_eq_getElem hj⟩
    rw [nmX_1 hO.1.2 hv] at k
    have hix := nd_ix hO.1.1 hv
    have hvn := List.mem_of_getElem? hv
    rw [← hix]
    refine pw_if_eq (tgt := 26) dX9_user_11 (by decide) (fun h => absurd h (by decide)) (fun h11 => ?_)
    refine pw_aload_n dX9_user_14 rfl ?_
    refine pw_getR fX9_32 dX9_user_15 (sh_lt hG (by decide)) (sh_tg hG 0 rfl) rfl (gr_at hP 3 rfl) ?_
    refine pw_iload_n dX9_user_18 rfl ?_
    refine pw_iload_n dX9_user_19 rfl ?_
    refine pw_callV (as := [_, _]) (kc' := 0) (ks' := 0) lX9_167 dX9_user_20 rfl rfl (sh_lt hG (by decide)) (sh_tg hG 13 rfl) (Nat.le_of_ble_eq_true rfl) (by omega) (Nat.le_of_ble_eq_true rfl) (Nat.zero_le _) (Nat.zero_le _) ?_
    refine c_userOfE hG hP (by omega) hc hO hvn ?_
    refine pw_goto (tgt := 27) dX9_user_23 (by decide) ?_
    exact pw_iret dX9_user_27 rfl (k)
  · rw [nmX_0 hO.1.2 h0] at k
    refine pw_if_eq (tgt := 26) dX9_user_11 (by decide) (fun h11 => ?_) (fun h => absurd (by decide) h)
    refine pw_iconst (v := -1) dX9_user_26 (by decide) ?_
    exact pw_iret dX9_user_27 rfl (k)
set_option maxRecDepth 20000 in
set_option maxHeartbeats 400000 in
theorem r_usE_lp {l : Launch} {E : pmE} {d : Nat} {S : pmS} {I : pmI} {J : pmJ} {P : pmP} {Q : Option Value → pmS → pmI → pmJ → pmP → Prop} (hG : sh_St S) (hP : gr_St P) (hd : 2 ≤ d) {y z : Int32} {w : Int64} {I1 : pmI} {A : aS} {s m : Nat} (hO : aO A) (hA : rA I J A) (hU : nU I1 (64 * s) (64 * s + m)) (hm : m ≤ 60) (hsA : s < A.sn.length) (hf2 : (A.at s).form = 2) (h : rcE A s m I1 I J) (hwn : w ∈ A.ns) (kx : pm_W l E yX10_user cX10_user 7 (some .int) d 0 0 140 [(6, .int (nI 64)), (5, .int (nI (if usB (A.at s).tr w = true then 1 else 0))), (4, .int (nI s)), (3, .int z), (0, .ref 47), (1, .int (nI (A.ns.idxOf w))), (2, .int y)] [] S I J P (pm_N E Q)) : ∀ (q k : Nat) (u : Int32), k + q = 64 → ((u = nI 0 ∧ ∀ j, j < k → noK A.ns (A.at s).pa s w I J j) ∨ (u = nI 1 ∧ usB (A.at s).tr w = true)) → pm_W l E yX10_user cX10_user 7 (some .int) d 0 0 69 [(6, .int (nI k)), (5, .int u), (4, .int (nI s)), (3, .int z), (0, .ref 47), (1, .int (nI (A.ns.idxOf w))), (2, .int y)] [] S I J P (pm_N E Q)
  | 0, k, u, hk, hi => by
    have hsl := hO.2.2.2.2.2.2.2.2.2.2.1
    have hnl := hO.1.2
    have hxO := hO.2.2.2.2.1 s hsA
    have hp3 := hxO.2.1
    have hx := hA.sn hsA
    have hw := hxO.2.2.2.2.1 hf2
    have hs : s ≤ 39 := by omega
    have e : k = 64 := by omega
    subst e
    rcases hi with ⟨rfl, hi⟩ | ⟨rfl, hi⟩
    · rw [h.no hU hm hs hw (fun j hj => hi j hj), if_neg (by decide)] at kx
      refine pw_iload dX10_user_69 rfl ?_
      refine pw_bipush (v := nI 64) dX10_user_71 (by decide) ?_
      refine pw_icmp_ge (tgt := 140) dX10_user_73 (by decide) (fun h73 => ?_) (fun h => absurd (by decide) h)
      exact kx
    · rw [if_pos hi] at kx
      refine pw_iload dX10_user_69 rfl ?_
      refine pw_bipush (v := nI 64) dX10_user_71 (by decide) ?_
      refine pw_icmp_ge (tgt := 140) dX10_user_73 (by decide) (fun h73 => ?_) (fun h => absurd (by decide) h)
      exact kx
  | q + 1, k, u, hk, hi => by
    have hsl := hO.2.2.2.2.2.2.2.2.2.2.1
    have hnl := hO.1.2
    have hxO := hO.2.2.2.2.1 s hsA
    have hp3 := hxO.2.1
    have hx := hA.sn hsA
    have hw := hxO.2.2.2.2.1 hf2
    have hs : s ≤ 39 := by omega
    refine pw_iload dX10_user_69 rfl ?_
    refine pw_bipush (v := nI 64) dX10_user_71 (by decide) ?_
    refine pw_icmpN_ge _ _ (tgt := 140) dX10_user_73 (by decide) (rfl) (rfl) (by omega) (by omega) (fun h73 => absurd h73 (by omega)) (fun h73 => ?_)
    refine pw_iload dX10_user_76 rfl ?_
    refine pw_if_ne (tgt := 127) dX10_user_78 (by decide) (fun h78 => ?_) (fun h78 => ?_)
    · refine pw_iconst (v := nI 1) dX10_user_127 (by decide) ?_
      refine pw_goto (tgt := 132) dX10_user_128 (by decide) ?_
      refine pw_istore (lv' := [(5, _), (6, _), (4, _), (3, _), (0, _), (1, _), (2, _)]) dX10_user_132 (by decide) rfl ?_
      refine pw_sub [1, 0, 2, 3, 4, 5, 6] rfl ?_
      refine pw_iinc (lv' := [(6, _), (5, _), (4, _), (3, _), (0, _), (1, _), (2, _)]) dX10_user_134 rfl (by decide) rfl ?_
      refine pw_goto (tgt := 69) dX10_user_137 (by decide) ?_
      refine pm_lvs (lv' := [(6, .int (nI (k + 1))), (5, _), (4, _), (3, _), (0, _), (1, _), (2, _)]) (by rw [show nI k + Int32.ofInt 1 = nI (k + 1) from nI_add k 1]) ?_
      exact r_usE_lp hG hP hd hO hA hU hm hsA hf2 h hwn kx q (k + 1) _ (by omega) (hi.elim (fun z9 => absurd z9.1 h78) (fun z9 => Or.inr ⟨rfl, z9.2⟩))
    · refine pw_aload_n dX10_user_81 rfl ?_
      refine pw_getR fX10_150 dX10_user_82 (sh_lt hG (by decide)) (sh_tg hG 45 rfl) rfl (gr_at hP 86 rfl) ?_
      refine pw_iload dX10_user_85 rfl ?_
      refine pw_zaldN k dX10_user_87 (sh_lt hG (by decide)) (sh_sh hG 92 rfl) (by decide) (rfl) (by omega) ?_
      refine pw_if_eq (tgt := 131) dX10_user_88 (by decide) (fun h88 => ?_) (fun h88 => ?_)
      · refine pw_iconst (v := nI 0) dX10_user_131 (by decide) ?_
        refine pw_istore (lv' := [(5, _), (6, _), (4, _), (3, _), (0, _), (1, _), (2, _)]) dX10_user_132 (by decide) rfl ?_
        refine pw_sub [1, 0, 2, 3, 4, 5, 6] rfl ?_
        refine pw_iinc (lv' := [(6, _), (5, _), (4, _), (3, _), (0, _), (1, _), (2, _)]) dX10_user_134 rfl (by decide) rfl ?_
        refine pw_goto (tgt := 69) dX10_user_137 (by decide) ?_
        refine pm_lvs (lv' := [(6, .int (nI (k + 1))), (5, _), (4, _), (3, _), (0, _), (1, _), (2, _)]) (by rw [show nI k + Int32.ofInt 1 = nI (k + 1) from nI_add k 1]) ?_
        exact r_usE_lp hG hP hd hO hA hU hm hsA hf2 h hwn kx q (k + 1) _ (by omega) (Or.inl ⟨rfl, fun j hj => by
          rcases hi with z9 | z9
          · rcases Nat.lt_or_ge j k with q9 | q9
            · exact z9.2 j q9
            · rw [show j = k by omega]; exact (fun z8 => absurd h88 z8)
          · exact absurd (h78.symm.trans z9.1) (by decide)⟩)
      · refine pw_aload_n dX10_user_91 rfl ?_
        refine pw_iload dX10_user_92 rfl ?_
        refine pw_bipush (v := nI 64) dX10_user_94 (by decide) ?_
        refine pw_iload dX10_user_96 rfl ?_
        refine pw_imul dX10_user_98 ?_
        refine pw_iload dX10_user_99 rfl ?_
        refine pw_iadd dX10_user_101 ?_
        refine pw_ti (z := nI (64 * s + k)) (by rw [show nI 64 * nI s = nI (64 * s) from (Int32.ofNat_mul 64 _).symm]; exact nI_add _ _) ?_
        refine pw_callV (as := [_, _]) (kc' := 0) (ks' := 0) lX10_369 dX10_user_102 rfl rfl (sh_lt hG (by decide)) (sh_tg hG 45 rfl) (Nat.le_of_ble_eq_true rfl) (by omega) (Nat.le_of_ble_eq_true rfl) (Nat.zero_le _) (Nat.zero_le _) ?_
        refine r_tellsE hG hP (by omega) hs hx.2.2.1 hp3 (by omega) (fun ht => ?_) (fun hn3 hn2 => ?_)
        · have hMk := (h.1.2 k (by omega)).resolve_left (fun q9 => h88 q9)
          have hus := hMk.us
          rw [← h.1.1 63 (by decide)] at hus
          obtain ⟨v, hv70, hvn, hcase⟩ : ∃ v, J 70 (64 * s + k) = hN A.ns v ∧ v ∈ A.ns ∧ ((I 63 (64 * s + k) = nI 3 ∧ (true, v) ∈ us (A.at s).tr) ∨ (I 63 (64 * s + k) = nI 2 ∧ (false, v) ∈ us (A.at s).tr)) := by
            rcases ht with ht | ⟨ht, hno⟩
            · obtain ⟨v, v1, v2⟩ := hus.1 ht
              exact ⟨v, v1, (us_nm _ hw _ v2).1, Or.inl ⟨ht, v2⟩⟩
            · obtain ⟨v, v1, v2, v3⟩ := hus.2 ht
              refine ⟨v, v1, v2, Or.inr ⟨ht, ?_⟩⟩
              rcases v3 with v3 | ⟨j, v3⟩
              · exact v3
              · have g := ps_arg_lt v3
                rw [Nat.sub_zero] at g
                exfalso
                refine hno j (by omega) ?_
                rw [hx.2.2.2.1 j v g.2.2, show J 70 (64 * s + k) = hN A.ns v from v1]
                exact (lN_i _).symm
          refine pw_if_eq (tgt := 131) dX10_user_105 (by decide) (fun h => absurd h (by decide)) (fun h105 => ?_)
          refine pw_aload_n dX10_user_108 rfl ?_
          refine pw_getR fX10_77 dX10_user_109 (sh_lt hG (by decide)) (sh_tg hG 45 rfl) rfl (gr_at hP 62 rfl) ?_
          refine pw_bipush (v := nI 64) dX10_user_112 (by decide) ?_
          refine pw_iload dX10_user_114 rfl ?_
          refine pw_imul dX10_user_116 ?_
          refine pw_iload dX10_user_117 rfl ?_
          refine pw_iadd dX10_user_119 ?_
          refine pw_ti (z := nI (64 * s + k)) (by rw [show nI 64 * nI s = nI (64 * s) from (Int32.ofNat_mul 64 _).symm]; exact nI_add _ _) ?_
          refine pw_laldN (64 * s + k) dX10_user_120 (sh_lt hG (by decide)) (sh_sh hG 68 rfl) (by decide) (rfl) (by omega) ?_
          refine pw_iload_n dX10_user_121 rfl ?_
          refine pw_i2l dX10_user_122 ?_
          refine pw_tj (z := hN A.ns w) (nI_l (by have := (ns_at hwn).2; omega)) ?_
          refine pw_lif_ne (tgt := 131) dX10_user_123 dX10_user_124 (by decide) (fun h124 => ?_) (fun h124 => ?_)
          · refine pw_iconst (v := nI 0) dX10_user_131 (by decide) ?_
            refine pw_istore (lv' := [(5, _), (6, _), (4, _), (3, _), (0, _), (1, _), (2, _)]) dX10_user_132 (by decide) rfl ?_
            refine pw_sub [1, 0, 2, 3, 4, 5, 6] rfl ?_
            refine pw_iinc (lv' := [(6, _), (5, _), (4, _), (3, _), (0, _), (1, _), (2, _)]) dX10_user_134 rfl (by decide) rfl ?_
            refine pw_goto (tgt := 69) dX10_user_137 (by decide) ?_
            refine pm_lvs (lv' := [(6, .int (nI (k + 1))), (5, _), (4, _), (3, _), (0, _), (1, _), (2, _)]) (by rw [show nI k + Int32.ofInt 1 = nI (k + 1) from nI_add k 1]) ?_
            exact r_usE_lp hG hP hd hO hA hU hm hsA hf2 h hwn kx q (k + 1) _ (by omega) (Or.inl ⟨rfl, fun j hj => by
              rcases hi with z9 | z9
              · rcases Nat.lt_or_ge j k with q9 | q9
                · exact z9.2 j q9
                · rw [show j = k by omega]; exact (fun _ z8 => absurd z8 h124)
              · exact absurd (h78.symm.trans z9.1) (by decide)⟩)
          · have evw : v = w := hN_inj hvn hwn hnl (hv70.symm.trans h124)
            have hub : usB (A.at s).tr w = true := by
              rw [← evw]
              rcases hcase with z9 | z9
              · exact usB_t z9.2
              · exact usB_t z9.2
            refine pw_iconst (v := nI 1) dX10_user_127 (by decide) ?_
            refine pw_goto (tgt := 132) dX10_user_128 (by decide) ?_
            refine pw_istore (lv' := [(5, _), (6, _), (4, _), (3, _), (0, _), (1, _), (2, _)]) dX10_user_132 (by decide) rfl ?_
            refine pw_sub [1, 0, 2, 3, 4, 5, 6] rfl ?_
            refine pw_iinc (lv' := [(6, _), (5, _), (4, _), (3, _), (0, _), (1, _), (2, _)]) dX10_user_134 rfl (by decide) rfl ?_
            refine pw_goto (tgt := 69) dX10_user_137 (by decide) ?_
            refine pm_lvs (lv' := [(6, .int (nI (k + 1))), (5, _), (4, _), (3, _), (0, _), (1, _), (2, _)]) (by rw [show nI k + Int32.ofInt 1 = nI (k + 1) from nI_add k 1]) ?_
            exact r_usE_lp hG hP hd hO hA hU hm hsA hf2 h hwn kx q (k + 1) _ (by omega) (Or.inr ⟨rfl, hub⟩)
        · have hok : ∀ v, v ∈ A.ns → J 70 (64 * s + k) = hN A.ns v → ¬ (I 63 (64 * s + k) = nI 2 ∧ ps_arg (A.at s).pa v 0 = none) := fun v hv e ⟨z1, z2⟩ => by
            obtain ⟨j, j1, j2⟩ := hn2 z1
            obtain ⟨u, hu⟩ : ∃ u, (A.at s).pa[j]? = some u := ⟨_, List.getElem?_eq_getElem j1⟩
            rw [hx.2.2.2.1 j u hu, e, show (hN A.ns v).toInt32 = nI (A.ns.idxOf v) from lN_i _] at j2
            have huv := (eq_i32 (hxO.2.2.2.1 u (List.mem_of_getElem? hu)) hv hnl).mp j2
            rw [huv] at hu
            exact ps_arg_n _ _ z2 (List.mem_of_getElem? hu)
          refine pw_if_eq (tgt := 131) dX10_user_105 (by decide) (fun h105 => ?_) (fun h => absurd (by decide) h)
          refine pw_iconst (v := nI 0) dX10_user_131 (by decide) ?_
          refine pw_istore (lv' := [(5, _), (6, _), (4, _), (3, _), (0, _), (1, _), (2, _)]) dX10_user_132 (by decide) rfl ?_
          refine pw_sub [1, 0, 2, 3, 4, 5, 6] rfl ?_
          refine pw_iinc (lv' := [(6, _), (5, _), (4, _), (3, _), (0, _), (1, _), (2, _)]) dX10_user_134 rfl (by decide) rfl ?_
          refine pw_goto (tgt := 69) dX10_user_137 (by decide) ?_
          refine pm_lvs (lv' := [(6, .int (nI (k + 1))), (5, _), (4, _), (3, _), (0, _), (1, _), (2, _)]) (by rw [show nI k + Int32.ofInt 1 = nI (k + 1) from nI_add k 1]) ?_
          exact r_usE_lp hG hP hd hO hA hU hm hsA hf2 h hwn kx q (k + 1) _ (by omega) (Or.inl ⟨rfl, fun j hj => by
            rcases hi with z9 | z9
            · rcases Nat.lt_or_ge j k with q9 | q9
              · exact z9.2 j q9
              · rw [show j = k by omega]; exact (fun _ z8 => ⟨hn3, fun z6 z5 => hok w hwn z8 ⟨z6, z5⟩⟩)
            · exact absurd (h78.symm.trans z9.1) (by decide)⟩)
theorem i_ss {a b c : Int32} : a - b - c = a - (b + c) := by
  rw [Int32.sub_eq_add_neg, Int32.sub_eq_add_neg, Int32.sub_eq_add_neg, Int32.neg_add, Int32.sub_eq_add_neg, Int32.add_assoc]
set_option maxRecDepth 20000 in
set_option maxHeartbeats 400000 in
theorem r_uoE_lp {l : Launch} {E : pmE} {d : Nat} {S : pmS} {J : pmJ} {P : pmP} {Q : Option Value → pmS → pmI → pmJ → pmP → Prop} (hG : sh_St S) (hP : gr_St P) (hd : 4 ≤ d) {y : Int32} {w : Int64} {A : aS} {I0 : pmI} (hA0 : rA I0 J A) (hO : aO A) (hwn : w ∈ A.ns) (hgU : ∀ s, s < A.sn.length → (A.at s).form = 2 → ∃ m, m ≤ 60 ∧ nU I0 (64 * s) (64 * s + m) ∧ ∃ N, I0 60 s = nI N ∧ ny I0 J (crN A.ns J) (64 * s) (64 * s + m) (A.at s).tr N) : ∀ (q s c : Nat) (z : Int32) (I : pmI), s + q = A.sn.length → c ≤ s → z = y - nI c → qF I0 I → (∀ I', qF I0 I' → Q (some (.int (usF A w y q s c))) S I' J P) → pm_W l E yX10_user cX10_user 7 (some .int) d 0 0 20 [(4, .int (nI s)), (3, .int z), (0, .ref 47), (1, .int (nI (A.ns.idxOf w))), (2, .int y)] [] S I J P (pm_N E Q)
  | 0, s, c, z, I, hk, hcs, hz, f, kx => by
    have hsl := hO.2.2.2.2.2.2.2.2.2.2.1
    have hA := f.rA hA0
    refine pw_iload dX10_user_20 rfl ?_
    refine pw_aload_n dX10_user_22 rfl ?_
    refine pw_getI fX10_220 dX10_user_23 (sh_lt hG (by decide)) (sh_tg hG 45 rfl) rfl ?_
    refine pw_icmpN_ge _ _ (tgt := 171) dX10_user_26 (by decide) (rfl) (hA.k) (by omega) (by omega) (fun h26 => ?_) (fun h26 => absurd h26 (by omega))
    refine pw_bipush (v := -5) dX10_user_171 (by decide) ?_
    exact pw_iret dX10_user_173 rfl (kx _ f)
  | q + 1, s, c, z, I, hk, hcs, hz, f, kx => by
    have hsl := hO.2.2.2.2.2.2.2.2.2.2.1
    have hA := f.rA hA0
    have hs : s < A.sn.length := by omega
    have hx := hA.sn hs
    have hxO := hO.2.2.2.2.1 s hs
    have hf3 := hxO.1
    have hnl := hO.1.2
    refine pw_iload dX10_user_20 rfl ?_
    refine pw_aload_n dX10_user_22 rfl ?_
    refine pw_getI fX10_220 dX10_user_23 (sh_lt hG (by decide)) (sh_tg hG 45 rfl) rfl ?_
    refine pw_icmpN_ge _ _ (tgt := 171) dX10_user_26 (by decide) (rfl) (hA.k) (by omega) (by omega) (fun h26 => absurd h26 (by omega)) (fun h26 => ?_)
    refine pw_aload_n dX10_user_29 rfl ?_
    refine pw_getR fX10_32 dX10_user_30 (sh_lt hG (by decide)) (sh_tg hG 45 rfl) rfl (gr_at hP 47 rfl) ?_
    refine pw_iload dX10_user_33 rfl ?_
    refine pw_ialdN s dX10_user_35 (sh_lt hG (by decide)) (sh_sh hG 53 rfl) (by decide) (rfl) (by omega) ?_
    refine pw_iconst (v := nI 2) dX10_user_36 (by decide) ?_
    refine pw_icmpN_ne _ _ (tgt := 165) dX10_user_37 (by decide) (hx.1) (rfl) (by omega) (by omega) (fun h37 => ?_) (fun h37 => ?_)
    · have kx : ∀ I', qF I0 I' → Q (some (.int (usF A w y q (s + 1) c))) S I' J P := fun I' f' => by
        have := kx I' f'
        rw [usF_n (uB_f (fun z9 => absurd z9.1 (by omega)))] at this
        exact this
      refine pw_sub [0, 1, 2, 3, 4] rfl ?_
      refine pw_iinc (lv' := [(4, _), (3, _), (0, _), (1, _), (2, _)]) dX10_user_165 rfl (by decide) rfl ?_
      refine pw_goto (tgt := 20) dX10_user_168 (by decide) ?_
      refine pm_lvs (lv' := [(4, .int (nI (s + 1))), (3, _), (0, _), (1, _), (2, _)]) (by rw [show nI s + Int32.ofInt 1 = nI (s + 1) from nI_add s 1]) ?_
      exact r_uoE_lp hG hP hd hA0 hO hwn hgU q (s + 1) (c) _ _ (by omega) (by omega) (hz) (f) kx
    · refine pw_aload_n dX10_user_40 rfl ?_
      refine pw_getR fX10_20 dX10_user_41 (sh_lt hG (by decide)) (sh_tg hG 45 rfl) rfl (gr_at hP 43 rfl) ?_
      refine pw_aload_n dX10_user_44 rfl ?_
      refine pw_getR fX10_35 dX10_user_45 (sh_lt hG (by decide)) (sh_tg hG 45 rfl) rfl (gr_at hP 48 rfl) ?_
      refine pw_iload dX10_user_48 rfl ?_
      have hdm := hxO.2.2.1 (by omega)
      have hdn := (ns_at hdm).2
      have hby := (hA.nm hdm).2.2.1
      refine pw_ialdN s dX10_user_50 (sh_lt hG (by decide)) (sh_sh hG 54 rfl) (by decide) (rfl) (by omega) ?_
      refine pw_ti (z := nI (A.ns.idxOf (A.at s).dec)) (hx.2.1 (by omega)) ?_
      refine pw_ialdN (A.ns.idxOf (A.at s).dec) dX10_user_51 (sh_lt hG (by decide)) (sh_sh hG 49 rfl) (by decide) (rfl) (by omega) ?_
      refine pw_ti (z := eN (A.dc (A.at s).dec)) hby ?_
      refine pw_iload dX10_user_52 rfl ?_
      refine pw_icmp_ne (tgt := 165) dX10_user_54 (by decide) (fun h54 => ?_) (fun h54 => ?_)
      · have kx : ∀ I', qF I0 I' → Q (some (.int (usF A w y q (s + 1) c))) S I' J P := fun I' f' => by
          have := kx I' f'
          rw [usF_n (uB_f (fun z9 => h54 (by rw [z9.2]; rfl)))] at this
          exact this
        refine pw_sub [0, 1, 2, 3, 4] rfl ?_
        refine pw_iinc (lv' := [(4, _), (3, _), (0, _), (1, _), (2, _)]) dX10_user_165 rfl (by decide) rfl ?_
        refine pw_goto (tgt := 20) dX10_user_168 (by decide) ?_
        refine pm_lvs (lv' := [(4, .int (nI (s + 1))), (3, _), (0, _), (1, _), (2, _)]) (by rw [show nI s + Int32.ofInt 1 = nI (s + 1) from nI_add s 1]) ?_
        exact r_uoE_lp hG hP hd hA0 hO hwn hgU q (s + 1) (c) _ _ (by omega) (by omega) (hz) (f) kx
      · have h2' : (A.at s).form = 2 := by omega
        have hdc : A.dc (A.at s).dec = some s := eN_some hO (by omega) h54
        obtain ⟨m, hm6, hU0, N, hN0, hny0⟩ := hgU s hs h2'
        have e7 : ∀ a, 55 ≤ a → a ≤ 70 → I a = I0 a := fun a a1 a2 => f.1 a (by omega) (by omega)
        have hU : nU I (64 * s) (64 * s + m) := hU0.e (fun a a1 a2 => e7 a (by omega) (by omega))
        have hN : I 60 s = nI N := by rw [e7 60 (by decide) (by decide)]; exact hN0
        have hny : ny I J (crN A.ns J) (64 * s) (64 * s + m) (A.at s).tr N := ny.mv (fun a k a1 a2 _ _ => by rw [e7 a (by omega) (by omega)]) (fun _ _ _ _ => rfl) (fun _ _ _ _ _ z9 => z9) _ _ hny0
        have hw := hxO.2.2.2.2.1 h2'
        refine pw_aload_n dX10_user_57 rfl ?_
        refine pw_iload dX10_user_58 rfl ?_
        refine pw_callV (as := [_]) (kc' := 0) (ks' := 0) lX10_366 dX10_user_60 rfl rfl (sh_lt hG (by decide)) (sh_tg hG 45 rfl) (Nat.le_of_ble_eq_true rfl) (by omega) (Nat.le_of_ble_eq_true rfl) (Nat.zero_le _) (Nat.zero_le _) ?_
        refine r_reachE hG hP (by omega) (by omega) (hME_mM (A := A) hU hm6) hN ⟨(A.at s).tr, hny, hw, fun _ z9 => z9⟩ (fun I2 h2 h3 h4 => ?_)
        refine pw_iconst (v := nI 0) dX10_user_63 (by decide) ?_
        refine pw_istore (lv' := [(5, _), (4, _), (3, _), (0, _), (1, _), (2, _)]) dX10_user_64 (by decide) rfl ?_
        refine pw_iconst (v := nI 0) dX10_user_66 (by decide) ?_
        refine pw_istore (lv' := [(6, _), (5, _), (4, _), (3, _), (0, _), (1, _), (2, _)]) dX10_user_67 (by decide) rfl ?_
        have g2 : qF I I2 := ⟨fun a _ z9 => h2.1 a z9, fun k _ => by rw [h2.1 47 (by decide)]⟩
        have f2 := f.trans g2
        refine pm_lvs (lv' := [(6, .int (nI 0)), (5, .int (nI 0)), (4, _), (3, _), (0, _), (1, _), (2, _)]) rfl ?_
        refine r_usE_lp hG hP (by omega) hO (g2.rA hA) hU hm6 hs h2' ⟨h2, h4, N, hny, h3⟩ hwn ?_ 64 0 _ rfl (Or.inl ⟨rfl, fun j hj => absurd hj (Nat.not_lt_zero _)⟩)
        by_cases hu : usB (A.at s).tr w = true
        · rw [if_pos hu]
          have hb := uB_t h2' hdc hu
          refine pw_iload dX10_user_140 rfl ?_
          refine pw_if_eq (tgt := 152) dX10_user_142 (by decide) (fun h => absurd h (by decide)) (fun h142 => ?_)
          refine pw_iload_n dX10_user_145 rfl ?_
          refine pw_if_ne (tgt := 152) dX10_user_146 (by decide) (fun h146 => ?_) (fun h146 => ?_)
          · have kx : ∀ I', qF I0 I' → Q (some (.int (usF A w y q (s + 1) (c + 1)))) S I' J P := fun I' f' => by
              have := kx I' f'
              rw [usF_g hb (fun e => h146 (by rw [hz, e, Int32.sub_self]))] at this
              exact this
            refine pw_iload_n dX10_user_152 rfl ?_
            refine pw_iload dX10_user_153 rfl ?_
            refine pw_if_eq (tgt := 162) dX10_user_155 (by decide) (fun h => absurd h (by decide)) (fun h155 => ?_)
            refine pw_iconst (v := nI 1) dX10_user_158 (by decide) ?_
            refine pw_goto (tgt := 163) dX10_user_159 (by decide) ?_
            refine pw_isub dX10_user_163 ?_
            refine pw_istore_n (lv' := [(3, _), (6, _), (5, _), (4, _), (0, _), (1, _), (2, _)]) dX10_user_164 (by decide) rfl ?_
            refine pw_sub [3, 0, 4, 5, 6] rfl ?_
            refine pw_iinc (lv' := [(4, _), (3, _), (0, _), (1, _), (2, _)]) dX10_user_165 rfl (by decide) rfl ?_
            refine pw_goto (tgt := 20) dX10_user_168 (by decide) ?_
            refine pm_lvs (lv' := [(4, .int (nI (s + 1))), (3, _), (0, _), (1, _), (2, _)]) (by rw [show nI s + Int32.ofInt 1 = nI (s + 1) from nI_add s 1]) ?_
            exact r_uoE_lp hG hP hd hA0 hO hwn hgU q (s + 1) (c + 1) _ _ (by omega) (by omega) (by rw [hz, ← nI_add c 1, i_ss]) (f2) kx
          · have kx := kx I2 f2
            rw [usF_r hb (i_sub0 (hz.symm.trans h146))] at kx
            refine pw_iload dX10_user_149 rfl ?_
            exact pw_iret dX10_user_151 rfl (kx)
        · rw [if_neg hu]
          have kx : ∀ I', qF I0 I' → Q (some (.int (usF A w y q (s + 1) c))) S I' J P := fun I' f' => by
            have := kx I' f'
            rw [usF_n (uB_f2 hu)] at this
            exact this
          refine pw_iload dX10_user_140 rfl ?_
          refine pw_if_eq (tgt := 152) dX10_user_142 (by decide) (fun h142 => ?_) (fun h => absurd (by decide) h)
          refine pw_iload_n dX10_user_152 rfl ?_
          refine pw_iload dX10_user_153 rfl ?_
          refine pw_if_eq (tgt := 162) dX10_user_155 (by decide) (fun h155 => ?_) (fun h => absurd (by decide) h)
          refine pw_iconst (v := nI 0) dX10_user_162 (by decide) ?_
          refine pw_isub dX10_user_163 ?_
          refine pw_istore_n (lv' := [(3, _), (6, _), (5, _), (4, _), (0, _), (1, _), (2, _)]) dX10_user_164 (by decide) rfl ?_
          refine pw_sub [3, 0, 4, 5, 6] rfl ?_
          refine pw_iinc (lv' := [(4, _), (3, _), (0, _), (1, _), (2, _)]) dX10_user_165 rfl (by decide) rfl ?_
          refine pw_goto (tgt := 20) dX10_user_168 (by decide) ?_
          refine pm_lvs (lv' := [(4, .int (nI (s + 1))), (3, _), (0, _), (1, _), (2, _)]) (by rw [show nI s + Int32.ofInt 1 = nI (s + 1) from nI_add s 1]) ?_
          exact r_uoE_lp hG hP hd hA0 hO hwn hgU q (s + 1) (c) _ _ (by omega) (by omega) (by rw [hz]; exact Int32.sub_zero _) (f2) kx
set_option maxRecDepth 20000 in
set_option maxHeartbeats 400000 in
theorem r_userE {l : Launch} {E : pmE} {d : Nat} {S : pmS} {I : pmI} {J : pmJ} {P : pmP} {Q : Option Value → pmS → pmI → pmJ → pmP → Prop} (hG : sh_St S) (hP : gr_St P) (hd : 4 ≤ d) {x y : Int32} {A : aS} (hA : rA I J A) (hO : aO A) (hgU : ∀ s, s < A.sn.length → (A.at s).form = 2 → ∃ m, m ≤ 60 ∧ nU I (64 * s) (64 * s + m) ∧ ∃ N, I 60 s = nI N ∧ ny I J (crN A.ns J) (64 * s) (64 * s + m) (A.at s).tr N) (k : ∀ I', qF I I' → Q (some (.int (nmX A.ns (fun v => usF A v y A.sn.length 0 0) x))) S I' J P) : pm_Met l E yX10_user cX10_user 7 (some .int) d 0 0 [.ref 47, .int x, .int y] S I J P Q := by
  unfold pm_Met
  refine pm_lvs (lv' := [(0, _), (1, _), (2, _)]) rfl ?_
  refine pw_aload_n dX10_user_0 rfl ?_
  refine pw_iconst (v := nI 0) dX10_user_1 (by decide) ?_
  refine pw_putI fX10_154 dX10_user_2 (Or.inl rfl) (by decide) (sh_lt hG (by decide)) (sh_tg hG 45 rfl) rfl ?_
  refine pw_aload_n dX10_user_5 rfl ?_
  refine pw_iload_n dX10_user_6 rfl ?_
  refine pw_callV (as := [_]) (kc' := 0) (ks' := 0) lX10_360 dX10_user_7 rfl rfl (sh_lt hG (by decide)) (sh_tg hG 45 rfl) (Nat.le_of_ble_eq_true rfl) (by omega) (Nat.le_of_ble_eq_true rfl) (Nat.zero_le _) (Nat.zero_le _) ?_
  refine c_X10_isName hG hP (by omega) (by rw [pm_u_eq, pm_up_ne (by decide)]; exact hA.n) hO.1.2 (fun j hj e => ?_) (fun h0 => ?_)
  · subst e
    obtain ⟨v, hv⟩ : ∃ v, A.ns[j]? = some v := ⟨_, List.getElem?_eq_getElem hj⟩
    rw [nmX_1 hO.1.2 hv] at k
    have hix := nd_ix hO.1.1 hv
    have hvn := List.mem_of_getElem? hv
    rw [← hix]
    have e7 : ∀ a, 55 ≤ a → a ≤ 70 → pm_u I 47 0 (nI 0) a = I a := fun a a1 a2 => pm_u_ne (by omega)
    have hgU1 : ∀ s, s < A.sn.length → (A.at s).form = 2 → ∃ m, m ≤ 60 ∧ nU (pm_u I 47 0 (nI 0)) (64 * s) (64 * s + m) ∧ ∃ N, pm_u I 47 0 (nI 0) 60 s = nI N ∧ ny (pm_u I 47 0 (nI 0)) J (crN A.ns J) (64 * s) (64 * s + m) (A.at s).tr N := fun s hs hf => by
      obtain ⟨m, m1, m2, N, m3, m4⟩ := hgU s hs hf
      exact ⟨m, m1, m2.e (fun a a1 a2 => e7 a (by omega) (by omega)), N, by rw [e7 60 (by decide) (by decide)]; exact m3, ny.mv (fun a k a1 a2 _ _ => by rw [e7 a (by omega) (by omega)]) (fun _ _ _ _ => rfl) (fun _ _ _ _ _ z9 => z9) _ _ m4⟩
    refine pw_if_ne (tgt := 15) dX10_user_10 (by decide) (fun h10 => ?_) (fun h => absurd h (by decide))
    refine pw_iload_n dX10_user_15 rfl ?_
    refine pw_istore_n (lv' := [(3, _), (0, _), (1, _), (2, _)]) dX10_user_16 (by decide) rfl ?_
    refine pw_iconst (v := nI 0) dX10_user_17 (by decide) ?_
    refine pw_istore (lv' := [(4, _), (3, _), (0, _), (1, _), (2, _)]) dX10_user_18 (by decide) rfl ?_
    refine pm_lvs (lv' := [(4, .int (nI 0)), (3, .int y), (0, _), (1, _), (2, _)]) rfl ?_
    exact r_uoE_lp hG hP hd (qF.th.rA hA) hO hvn hgU1 A.sn.length 0 0 _ _ (Nat.zero_add _) (Nat.le_refl _) (Int32.sub_zero y).symm qF.refl (fun I' f => k I' (qF.th.trans f))
  · rw [nmX_0 hO.1.2 h0] at k
    refine pw_if_ne (tgt := 15) dX10_user_10 (by decide) (fun h => absurd (by decide) h) (fun h10 => ?_)
    refine pw_iconst (v := -1) dX10_user_13 (by decide) ?_
    exact pw_iret dX10_user_14 rfl (k _ qF.th)
