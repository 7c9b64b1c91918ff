set_option maxRecDepth 20000 in
theorem wx_N : ∀ w ∈ Cond.classLink yX9_whole.cls 108 Bundle.nN :: Cond.initialized Bundle.nN :: px_atN yX9_whole.cls 110, w ∈ pm_tbl ∨ w ∈ pm_nest := pm_mix _ [1252, 114, 1253, 111, 1214, 1156, 1170, 1173, 1175, 1148, 1149, 124, 125, 1150, 1155, 1171, 1180, 1208, 1181, 1209, 1182, 1210, 1151, 1153, 1211, 1199, 1161, 1162, 1176, 1183, 1167, 1168, 1139, 1140, 1141, 1142, 1142, 1143, 1144, 1145, 1145, 1146, 1147, 1148, 114, 1138, 1207, 1160, 1191, 1193, 1197, 1178, 1212, 1187] (by decide +kernel) (by decide +kernel)
set_option maxRecDepth 20000 in
theorem wy_N : ∀ w ∈ Cond.classLink yX9_whole.cls 108 Bundle.nN :: Cond.initialized Bundle.nN :: px_atN yX9_whole.cls 110, vx_ot w = true := by decide +kernel
set_option maxRecDepth 20000 in
theorem wx_C : ∀ w ∈ Cond.classLink yX9_whole.cls 105 "java/lang/ClassCastException" :: Cond.initialized "java/lang/ClassCastException" :: vx_at0 yX9_whole.cls 107 "java/lang/ClassCastException" ["java/lang/RuntimeException", "java/lang/Exception"], w ∈ pm_tbl ∨ w ∈ pm_nest := pm_mix _ [1247, 115, 111, 1214, 1156, 1170, 1173, 1175, 1148, 1149, 124, 125, 1150, 1155, 1171, 1180, 1208, 1181, 1209, 1182, 1210, 1151, 1153, 1211, 1249, 1250, 1251, 1142, 1142, 1143, 1144, 1145, 1145, 1146, 1147, 1148, 1248, 1217, 1237, 1159, 1231, 1232, 1234, 1230, 1178, 1212, 1229] (by decide +kernel) (by decide +kernel)
set_option maxRecDepth 20000 in
theorem wy_C : ∀ w ∈ Cond.classLink yX9_whole.cls 105 "java/lang/ClassCastException" :: Cond.initialized "java/lang/ClassCastException" :: vx_at0 yX9_whole.cls 107 "java/lang/ClassCastException" ["java/lang/RuntimeException", "java/lang/Exception"], vx_ot w = true := by decide +kernel
set_option maxRecDepth 20000 in
theorem wx_A : ∀ w ∈ Cond.classLink yX9_text.cls 164 "java/lang/ArrayIndexOutOfBoundsException" :: Cond.initialized "java/lang/ArrayIndexOutOfBoundsException" :: vx_at0 yX9_text.cls 166 "java/lang/ArrayIndexOutOfBoundsException" ["java/lang/IndexOutOfBoundsException", "java/lang/RuntimeException", "java/lang/Exception"], w ∈ pm_tbl ∨ w ∈ pm_nest := pm_mix _ [1288, 117, 111, 1214, 1156, 1170, 1173, 1175, 1148, 1149, 124, 125, 1150, 1155, 1171, 1180, 1208, 1181, 1209, 1182, 1210, 1151, 1153, 1211, 1290, 1291, 1292, 1293, 1293, 1294, 1295, 1142, 1142, 1143, 1144, 1145, 1145, 1146, 1147, 1148, 1289, 1258, 1275, 1158, 1267, 1268, 1270, 1266, 1178, 1212, 1265] (by decide +kernel) (by decide +kernel)
set_option maxRecDepth 20000 in
theorem wy_A : ∀ w ∈ Cond.classLink yX9_text.cls 164 "java/lang/ArrayIndexOutOfBoundsException" :: Cond.initialized "java/lang/ArrayIndexOutOfBoundsException" :: vx_at0 yX9_text.cls 166 "java/lang/ArrayIndexOutOfBoundsException" ["java/lang/IndexOutOfBoundsException", "java/lang/RuntimeException", "java/lang/Exception"], vx_ot w = true := by decide +kernel
theorem cl_13 : Cond.classLink RL 13 "java/lang/NullPointerException" ∈ pm_tbl := pm_in1 1137 (by decide +kernel) (by decide +kernel)
theorem cl_15 : Cond.classLink RL 15 "java/lang/ClassCastException" ∈ pm_tbl := pm_in1 1216 (by decide +kernel) (by decide +kernel)
theorem cl_21 : Cond.classLink RL 21 "java/lang/ArrayIndexOutOfBoundsException" ∈ pm_tbl := pm_in1 1257 (by decide +kernel) (by decide +kernel)
theorem lL_48 : pm_LSW RL 48 yL_whole cL_whole 4 (some .int) [(0, 8, 11, 13), (0, 8, 14, 15)] 3 := ⟨pm_in1 1134 (by decide +kernel) (by decide +kernel), pm_in1 1135 (by decide +kernel) (by decide +kernel), pm_in1 91 (by decide +kernel) (by decide +kernel), pm_in1 1136 (by decide +kernel) (by decide +kernel), ⟨by decide, by decide, by decide +kernel⟩, by decide +kernel, by decide⟩
theorem lL_82 : pm_LSW RL 82 yL_text cL_text 5 (some .int) [(0, 10, 13, 21)] 4 := ⟨pm_in1 1254 (by decide +kernel) (by decide +kernel), pm_in1 1255 (by decide +kernel) (by decide +kernel), pm_in1 91 (by decide +kernel) (by decide +kernel), pm_in1 1256 (by decide +kernel) (by decide +kernel), ⟨by decide, by decide, by decide +kernel⟩, by decide +kernel, by decide⟩
theorem ct_N : pm_CT yL_whole.cls (tableOf [(0, 8, 11, 13), (0, 8, 14, 15)]) 4 "java/lang/NullPointerException" 11 := ⟨[], _, _, rfl, (fun z hz => nomatch hz), by decide, by decide, ⟨_, cl_13, Or.inr (by decide +kernel)⟩, rfl⟩
theorem ct_C : pm_CT yL_whole.cls (tableOf [(0, 8, 11, 13), (0, 8, 14, 15)]) 4 "java/lang/ClassCastException" 14 := ⟨[_], _, _, rfl, (fun z hz => by
  cases List.mem_singleton.mp hz
  exact Or.inr ⟨by decide, _, cl_13, rfl, rfl⟩), by decide, by decide, ⟨_, cl_15, Or.inr (by decide +kernel)⟩, rfl⟩
theorem ct_A : pm_CT yL_text.cls (tableOf [(0, 10, 13, 21)]) 5 "java/lang/ArrayIndexOutOfBoundsException" 13 := ⟨[], _, _, rfl, (fun z hz => nomatch hz), by decide, by decide, ⟨_, cl_21, Or.inr (by decide +kernel)⟩, rfl⟩
set_option maxRecDepth 20000 in
set_option maxHeartbeats 400000 in
theorem c_whole {l : Launch} {E : pmE} {d : Nat} {S : pmS} {I : pmI} {J : pmJ} {P : pmP} {Q : Option Value → pmS → pmI → pmJ → pmP → Prop} {QX : String → pmS → pmI → pmJ → pmP → Prop} {kc ks : Nat} (hl : l.stackTraces = false) (hG : sh_St S) (hP : gr_St P) (hd : 90 ≤ d) (hkc : 1 ≤ kc) (hks : 8 ≤ ks) {x : Int32} (k : ∀ v, Q (some (.long v)) S I J P) (kN : QX "java/lang/NullPointerException" (pm_new S 300 0) I J P) (kC : QX "java/lang/ClassCastException" (pm_new S 300 0) I J P) : pm_MetX l E yX9_whole cX9_whole 3 (some .long) d kc ks [.ref 2, .int x] S I J P Q QX := by
  unfold pm_MetX
  refine pm_lvs (lv' := [(0, _), (1, _)]) rfl ?_
  refine pw_aload_n dX9_whole_0 rfl ?_
  refine pw_iload_n dX9_whole_1 rfl ?_
  refine pw_callV (as := [_]) (kc' := 0) (ks' := 0) lX9_102 dX9_whole_2 rfl rfl (sh_lt hG (by decide)) (sh_tg hG 0 rfl) (Nat.le_of_ble_eq_true rfl) (by omega) (Nat.le_of_ble_eq_true rfl) (Nat.zero_le _) (Nat.zero_le _) ?_
  refine c_kind hG hP (by omega) (fun a => ?_)
  refine pw_istore_n (lv' := [(2, _), (0, _), (1, _)]) dX9_whole_5 (by decide) rfl ?_
  refine pw_iload_n dX9_whole_6 rfl ?_
  refine pw_iconst (v := nI 2) dX9_whole_7 (by decide) ?_
  refine pw_icmp_ne (tgt := 19) dX9_whole_8 (by decide) (fun h8 => ?_) (fun h8 => ?_)
  · refine pw_iload_n dX9_whole_19 rfl ?_
    refine pw_iconst (v := nI 1) dX9_whole_20 (by decide) ?_
    refine pw_icmp_eq (tgt := 32) dX9_whole_21 (by decide) (fun h21 => ?_) (fun h21 => ?_)
    · refine pw_X ?_
      refine pw_aload_n dX9_whole_32 rfl ?_
      refine pw_getR fX9_32 dX9_whole_33 (sh_lt hG (by decide)) (sh_tg hG 0 rfl) rfl (gr_at hP 3 rfl) ?_
      refine pw_getR fX9_93 dX9_whole_36 (sh_lt hG (by decide)) (sh_tg hG 13 rfl) rfl (gr_at hP 18 rfl) ?_
      refine pw_iload_n dX9_whole_39 rfl ?_
      refine pw_callV (as := [_]) (kc' := 0) (ks' := 0) lX9_111 dX9_whole_40 rfl rfl (sh_lt hG (by decide)) (sh_tg hG 28 rfl) (Nat.le_of_ble_eq_true rfl) (by omega) (Nat.le_of_ble_eq_true rfl) (Nat.zero_le _) (Nat.zero_le _) ?_
      refine v_core30X hG hP (fun v => ?_)
      exact pw_lret dX9_whole_43 rfl (k _)
    · exact pw_throwN hl wx_N wy_N dX9_whole_24 dX9_whole_27 dX9_whole_28 dX9_whole_31 (by omega) (by omega) (by omega) kN
  · exact pw_throw0 hl (by decide) (by decide) wx_C wy_C dX9_whole_11 dX9_whole_14 dX9_whole_15 dX9_whole_18 (by decide) (by omega) (by omega) (by omega) kC
set_option maxRecDepth 20000 in
set_option maxHeartbeats 400000 in
theorem c_signAt {l : Launch} {E : pmE} {d : Nat} {S : pmS} {I : pmI} {J : pmJ} {P : pmP} {Q : Option Value → pmS → pmI → pmJ → pmP → Prop} {ns : List Int64} {z : Nat} {y : sN} {x : Int32} (hx : snC S I J P ns z y) (k : ∀ a, Q (some (.int a)) S I J P) : pm_Met l E yX5_signAt cX5_signAt 2 (some .int) d 0 0 [.ref (z + 2), .int x] S I J P Q := by
  unfold pm_Met
  refine pm_lvs (lv' := [(0, _), (1, _)]) rfl ?_
  refine pw_iload_n dX5_signAt_0 rfl ?_
  refine pw_if_lt (tgt := 22) dX5_signAt_1 (by decide) (fun h1 => ?_) (fun h1 => ?_)
  · refine pw_bipush (v := -5) dX5_signAt_22 (by decide) ?_
    exact pw_iret dX5_signAt_24 rfl (k _)
  · obtain ⟨i, hi, rfl⟩ := nn_I h1
    have htl := hx.tx'.1
    refine pw_iload_n dX5_signAt_4 rfl ?_
    refine pw_aload_n dX5_signAt_5 rfl ?_
    refine pw_getR fX5_22 dX5_signAt_6 (by have := hx.1.2; omega) hx.tg rfl hx.p3 ?_
    refine pw_alen dX5_signAt_9 (by have := hx.1.2; omega) hx.a0 (by decide) (by decide) ?_
    refine pw_icmpN_ge _ _ (tgt := 22) dX5_signAt_10 (by decide) (rfl) (rfl) (by omega) (by omega) (fun h10 => ?_) (fun h10 => ?_)
    · refine pw_bipush (v := -5) dX5_signAt_22 (by decide) ?_
      exact pw_iret dX5_signAt_24 rfl (k _)
    · refine pw_aload_n dX5_signAt_13 rfl ?_
      refine pw_getR fX5_22 dX5_signAt_14 (by have := hx.1.2; omega) hx.tg rfl hx.p3 ?_
      refine pw_iload_n dX5_signAt_17 rfl ?_
      refine pw_baldN i dX5_signAt_18 (by have := hx.1.2; omega) hx.a0 (by omega) (rfl) (by omega) ?_
      refine pw_goto (tgt := 24) dX5_signAt_19 (by decide) ?_
      exact pw_iret dX5_signAt_24 rfl (k _)
set_option maxRecDepth 20000 in
set_option maxHeartbeats 400000 in
theorem c_signOf {l : Launch} {E : pmE} {d : Nat} {S : pmS} {I : pmI} {J : pmJ} {P : pmP} {Q : Option Value → pmS → pmI → pmJ → pmP → Prop} (hG : sh_St S) (hP : gr_St P) (hd : 2 ≤ d) {x x2 : Int32} {A : aS} {Z : Nat → Nat} {b : Nat} (hc : cA S I J P A Z b) (hO : aO A) (k : ∀ a, Q (some (.int a)) S I J P) : pm_Met l E yX4_signOf cX4_signOf 3 (some .int) d 0 0 [.ref 15, .int x, .int x2] S I J P Q := by
  unfold pm_Met
  refine pm_lvs (lv' := [(0, _), (1, _), (2, _)]) rfl ?_
  refine pw_aload_n dX4_signOf_0 rfl ?_
  refine pw_iload_n dX4_signOf_1 rfl ?_
  refine pw_callV (as := [_]) (kc' := 0) (ks' := 0) lX4_82 dX4_signOf_2 rfl rfl (sh_lt hG (by decide)) (sh_tg hG 13 rfl) (Nat.le_of_ble_eq_true rfl) (by omega) (Nat.le_of_ble_eq_true rfl) (Nat.zero_le _) (Nat.zero_le _) ?_
  refine c_hasSn hG hP hc hO (fun i hs e => ?_) ?_
  · subst e
    have hsl := hO.2.2.2.2.2.2.2.2.2.2.1
    refine pw_if_eq (tgt := 21) dX4_signOf_5 (by decide) (fun h => absurd h (by decide)) (fun h5 => ?_)
    refine pw_aload_n dX4_signOf_8 rfl ?_
    refine pw_getR fX4_39 dX4_signOf_9 (sh_lt hG (by decide)) (sh_tg hG 13 rfl) rfl (gr_at hP 19 rfl) ?_
    refine pw_iload_n dX4_signOf_12 rfl ?_
    refine pw_aaldN (r := some (Z i + 2)) i dX4_signOf_13 (sh_lt hG (by decide)) (sh_sh hG 31 rfl) (by decide) (by decide) (rfl) (by omega) (hc.sn hs).1 ?_
    refine pw_iload_n dX4_signOf_14 rfl ?_
    refine pw_callV (as := [_]) (kc' := 0) (ks' := 0) lX4_93 dX4_signOf_15 rfl rfl (by have := (hc.sn hs).2.1.1.2; omega) (hc.sn hs).2.1.tg (Nat.le_of_ble_eq_true rfl) (by omega) (Nat.le_of_ble_eq_true rfl) (Nat.zero_le _) (Nat.zero_le _) ?_
    refine c_signAt (hc.sn hs).2.1 (fun a => ?_)
    refine pw_goto (tgt := 23) dX4_signOf_18 (by decide) ?_
    exact pw_iret dX4_signOf_23 rfl (k _)
  · refine pw_if_eq (tgt := 21) dX4_signOf_5 (by decide) (fun h5 => ?_) (fun h => absurd (by decide) h)
    refine pw_bipush (v := -5) dX4_signOf_21 (by decide) ?_
    exact pw_iret dX4_signOf_23 rfl (k _)
set_option maxRecDepth 20000 in
set_option maxHeartbeats 400000 in
theorem c_text {l : Launch} {E : pmE} {d : Nat} {S : pmS} {I : pmI} {J : pmJ} {P : pmP} {Q : Option Value → pmS → pmI → pmJ → pmP → Prop} {QX : String → pmS → pmI → pmJ → pmP → Prop} {kc ks : Nat} (hl : l.stackTraces = false) (hG : sh_St S) (hP : gr_St P) (hd : 90 ≤ d) (hkc : 1 ≤ kc) (hks : 8 ≤ ks) {x x2 : Int32} {A : aS} {Z : Nat → Nat} {b : Nat} (hc : cA S I J P A Z b) (hO : aO A) (k : ∀ v, Q (some (.int v)) S I J P) (kA : QX "java/lang/ArrayIndexOutOfBoundsException" (pm_new S 300 0) I J P) : pm_MetX l E yX9_text cX9_text 4 (some .int) d kc ks [.ref 2, .int x, .int x2] S I J P Q QX := by
  unfold pm_MetX
  refine pm_lvs (lv' := [(0, _), (1, _), (2, _)]) rfl ?_
  refine pw_aload_n dX9_text_0 rfl ?_
  refine pw_getR fX9_32 dX9_text_1 (sh_lt hG (by decide)) (sh_tg hG 0 rfl) rfl (gr_at hP 3 rfl) ?_
  refine pw_iload_n dX9_text_4 rfl ?_
  refine pw_iload_n dX9_text_5 rfl ?_
  refine pw_callV (as := [_, _]) (kc' := 0) (ks' := 0) lX9_161 dX9_text_6 rfl rfl (sh_lt hG (by decide)) (sh_tg hG 13 rfl) (Nat.le_of_ble_eq_true rfl) (by omega) (Nat.le_of_ble_eq_true rfl) (Nat.zero_le _) (Nat.zero_le _) ?_
  refine c_signOf hG hP (by omega) hc hO (fun a => ?_)
  refine pw_istore_n (lv' := [(3, _), (0, _), (1, _), (2, _)]) dX9_text_9 (by decide) rfl ?_
  refine pw_iload_n dX9_text_10 rfl ?_
  refine pw_bipush (v := -5) dX9_text_11 (by decide) ?_
  refine pw_icmp_ne (tgt := 24) dX9_text_13 (by decide) (fun h13 => ?_) (fun h13 => ?_)
  · refine pw_X ?_
    refine pw_iload_n dX9_text_24 rfl ?_
    exact pw_iret dX9_text_25 rfl (k _)
  · exact pw_throw0 hl (by decide) (by decide) wx_A wy_A dX9_text_16 dX9_text_19 dX9_text_20 dX9_text_23 (by decide) (by omega) (by omega) (by omega) kA
def hpW (C : String) : Nat := if C = "java/lang/NullPointerException" then 11 else 14
theorem hpW_N : hpW "java/lang/NullPointerException" = 11 := if_pos rfl
theorem hpW_C : hpW "java/lang/ClassCastException" = 14 := if_neg (by decide)
set_option maxRecDepth 20000 in
set_option maxHeartbeats 400000 in
theorem f_L_whole {l : Launch} {E : pmE} {d : Nat} {S : pmS} {I : pmI} {J : pmJ} {P : pmP} {Q : Option Value → pmS → pmI → pmJ → pmP → Prop} {kc ks : Nat} (hl : l.stackTraces = false) (hG : sh_St S) (hP : gr_St P) (hd : 100 ≤ d) (hkc : 1 ≤ kc) (hks : 8 ≤ ks) {x : Int32} (k : ∀ a S' J', (S' = S ∨ S' = pm_new S 300 0) → (∀ b, b ≠ 95 → J' b = J b) → Q (some (.int a)) S' I J' P) : pm_MetT l E yL_whole cL_whole 4 (some .int) [(0, 8, 11, 13), (0, 8, 14, 15)] d kc ks [.ref 2, .int x, .ref 95] S I J P Q := by
  unfold pm_MetT
  refine pm_lvs (lv' := [(0, _), (1, _), (2, _)]) rfl ?_
  refine pw_aload_n dL_whole_0 rfl ?_
  refine pw_iconst (v := nI 0) dL_whole_1 (by decide) ?_
  refine pw_aload_n dL_whole_2 rfl ?_
  refine pw_iload_n dL_whole_3 rfl ?_
  refine pw_callVT (as := [_]) (kc' := 1) (ks' := 8) (Cs := ["java/lang/NullPointerException", "java/lang/ClassCastException"]) (hp := hpW) (j := 3) (ln := 1) (lv' := [(0, _), (1, _), (2, _)]) lL_7 dL_whole_4 rfl rfl (sh_lt hG (by decide)) (sh_tg hG 0 rfl) (Nat.le_of_ble_eq_true rfl) (by omega) (Nat.le_of_ble_eq_true rfl) (by omega) (by omega) (fun C hC => ?_) (by decide) rfl ?_
  · rcases List.mem_cons.mp hC with rfl | hC
    · rw [hpW_N]
      exact ⟨ct_N, Or.inl ⟨3, rfl, dL_whole_11, rfl⟩⟩
    · cases List.mem_singleton.mp hC
      rw [hpW_C]
      exact ⟨ct_C, Or.inl ⟨3, rfl, dL_whole_14, rfl⟩⟩
  refine c_whole hl hG hP (by omega) (by omega) (by omega) (fun v => ?_) ⟨List.mem_cons_self, ?_⟩ ⟨List.mem_cons_of_mem _ (List.mem_singleton.mpr rfl), ?_⟩
  · refine pw_T ?_
    refine pw_lastN 0 dL_whole_7 (by decide) (sh_lt hG (by decide)) (sh_sh hG 93 rfl) (by decide) (by decide) (by decide) ?_
    refine pw_goto (tgt := 17) dL_whole_8 (by decide) ?_
    refine pw_iconst (v := nI 0) dL_whole_17 (by decide) ?_
    exact pw_iret dL_whole_18 rfl (k _ _ _ (Or.inl rfl) (fun b hb => pm_u_ne hb))
  · rw [hpW_N]
    refine pw_T ?_
    refine pw_iconst (v := nI 1) dL_whole_12 (by decide) ?_
    exact pw_iret dL_whole_13 rfl (k _ _ _ (Or.inr rfl) (fun b hb => rfl))
  · rw [hpW_C]
    refine pw_T ?_
    refine pw_iconst (v := nI 2) dL_whole_15 (by decide) ?_
    exact pw_iret dL_whole_16 rfl (k _ _ _ (Or.inr rfl) (fun b hb => rfl))
set_option maxRecDepth 20000 in
set_option maxHeartbeats 400000 in
theorem f_L_text {l : Launch} {E : pmE} {d : Nat} {S : pmS} {I : pmI} {J : pmJ} {P : pmP} {Q : Option Value → pmS → pmI → pmJ → pmP → Prop} {kc ks : Nat} (hl : l.stackTraces = false) (hG : sh_St S) (hP : gr_St P) (hd : 100 ≤ d) (hkc : 1 ≤ kc) (hks : 8 ≤ ks) {x x2 : Int32} {A : aS} {Z : Nat → Nat} {b : Nat} (hc : cA S I J P A Z b) (hO : aO A) (k : ∀ a S' J', (S' = S ∨ S' = pm_new S 300 0) → (∀ b, b ≠ 95 → J' b = J b) → Q (some (.int a)) S' I J' P) : pm_MetT l E yL_text cL_text 5 (some .int) [(0, 10, 13, 21)] d kc ks [.ref 2, .int x, .int x2, .ref 95] S I J P Q := by
  unfold pm_MetT
  refine pm_lvs (lv' := [(0, _), (1, _), (2, _), (3, _)]) rfl ?_
  refine pw_aload_n dL_text_0 rfl ?_
  refine pw_iconst (v := nI 0) dL_text_1 (by decide) ?_
  refine pw_aload_n dL_text_2 rfl ?_
  refine pw_iload_n dL_text_3 rfl ?_
  refine pw_iload_n dL_text_4 rfl ?_
  refine pw_callVT (as := [_, _]) (kc' := 1) (ks' := 8) (Cs := ["java/lang/ArrayIndexOutOfBoundsException"]) (hp := fun _ => 13) (j := 4) (ln := 2) (lv' := [(0, _), (1, _), (2, _), (3, _)]) lL_17 dL_text_5 rfl rfl (sh_lt hG (by decide)) (sh_tg hG 0 rfl) (Nat.le_of_ble_eq_true rfl) (by omega) (Nat.le_of_ble_eq_true rfl) (by omega) (by omega) (fun C hC => ?_) (by decide) rfl ?_
  · cases List.mem_singleton.mp hC
    exact ⟨ct_A, Or.inr ⟨dL_text_13, rfl⟩⟩
  refine c_text hl hG hP (by omega) (by omega) (by omega) hc hO (fun v => ?_) ⟨List.mem_singleton.mpr rfl, ?_⟩
  · refine pw_T ?_
    refine pw_i2l dL_text_8 ?_
    refine pw_lastN 0 dL_text_9 (by decide) (sh_lt hG (by decide)) (sh_sh hG 93 rfl) (by decide) (by decide) (by decide) ?_
    refine pw_goto (tgt := 17) dL_text_10 (by decide) ?_
    refine pw_iconst (v := nI 0) dL_text_17 (by decide) ?_
    exact pw_iret dL_text_18 rfl (k _ _ _ (Or.inl rfl) (fun b hb => pm_u_ne hb))
  · refine pw_T ?_
    refine pw_iconst (v := nI 1) dL_text_15 (by decide) ?_
    exact pw_iret dL_text_16 rfl (k _ _ _ (Or.inr rfl) (fun b hb => rfl))
