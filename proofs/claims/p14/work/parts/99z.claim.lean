theorem inJ0 : ∀ w ∈ u_ws RJ0 TJ0 2, w ∈ pm_tbl := pm_in_r _ [1239, 1241] (by decide +kernel) (by decide +kernel)
theorem inJx00060 : ∀ w ∈ u_ws RJx00060 TJx00060 6, w ∈ pm_tbl := pm_in_r _ [1265, 1266, 1267, 1268, 1269, 1270] (by decide +kernel) (by decide +kernel)
theorem inJx3273f : ∀ w ∈ u_ws RJx3273f TJx3273f 6, w ∈ pm_tbl := pm_in_r _ [1229, 1230, 1231, 1232, 1233, 1234] (by decide +kernel) (by decide +kernel)
theorem inJx5d777 : ∀ w ∈ u_ws RJx5d777 TJx5d777 8, w ∈ pm_tbl := pm_in_r _ [1187, 1189, 1191, 1193, 1195, 1197, 1183, 1185] (by decide +kernel) (by decide +kernel)
theorem en_known {s : State} {args : Array Value} (hts : ∀ w ∈ pm_tbl, w.before args s = true) : ∃ D : va_G, ∀ (c : Nat) (q : vw_C), vwCl[c]? = some q → u_Kn s q.1 q.2.1 q.2.2 (D.1 c) (D.2 c) := by
  obtain ⟨c0, i0, h0⟩ := u_known (C := RJ0) (T := TJ0) (N := 2) (n := 4) hts inJ0 (hts (.instantiable RJ0 4) (pm_in1 1238 (by decide +kernel) (by decide +kernel)))
  obtain ⟨c1, i1, h1⟩ := u_known (C := RJx00060) (T := TJx00060) (N := 6) (n := 6) hts inJx00060 (hts (.instantiable RJx00060 6) (pm_in1 1258 (by decide +kernel) (by decide +kernel)))
  obtain ⟨c2, i2, h2⟩ := u_known (C := RJx3273f) (T := TJx3273f) (N := 6) (n := 6) hts inJx3273f (hts (.instantiable RJx3273f 6) (pm_in1 1217 (by decide +kernel) (by decide +kernel)))
  obtain ⟨c3, i3, h3⟩ := u_known (C := RJx5d777) (T := TJx5d777) (N := 8) (n := 8) hts inJx5d777 (hts (.instantiable RJx5d777 8) (pm_in1 1138 (by decide +kernel) (by decide +kernel)))
  obtain ⟨c4, i4, h4⟩ := u_known (C := RX0) (T := TX0) (N := 6) (n := 6) hts inX0 (hts (.instantiable RX0 6) (pm_in1 155 (by decide +kernel) (by decide +kernel)))
  obtain ⟨c5, i5, h5⟩ := u_known (C := RX1) (T := TX1) (N := 14) (n := 14) hts inX1 (hts (.instantiable RX1 14) (pm_in1 305 (by decide +kernel) (by decide +kernel)))
  obtain ⟨c6, i6, h6⟩ := u_known (C := RX2) (T := TX2) (N := 5) (n := 5) hts inX2 (hts (.instantiable RX2 5) (pm_in1 214 (by decide +kernel) (by decide +kernel)))
  obtain ⟨c7, i7, h7⟩ := u_known (C := RX3) (T := TX3) (N := 9) (n := 9) hts inX3 (hts (.instantiable RX3 9) (pm_in1 149 (by decide +kernel) (by decide +kernel)))
  obtain ⟨c8, i8, h8⟩ := u_known (C := RX4) (T := TX4) (N := 7) (n := 7) hts inX4 (hts (.instantiable RX4 7) (pm_in1 208 (by decide +kernel) (by decide +kernel)))
  obtain ⟨c9, i9, h9⟩ := u_known (C := RX5) (T := TX5) (N := 5) (n := 5) hts inX5 (hts (.instantiable RX5 5) (pm_in1 949 (by decide +kernel) (by decide +kernel)))
  obtain ⟨c10, i10, h10⟩ := u_known (C := RX6) (T := TX6) (N := 6) (n := 6) hts inX6 (hts (.instantiable RX6 6) (pm_in1 236 (by decide +kernel) (by decide +kernel)))
  obtain ⟨c11, i11, h11⟩ := u_known (C := RX7) (T := TX7) (N := 4) (n := 4) hts inX7 (hts (.instantiable RX7 4) (pm_in1 127 (by decide +kernel) (by decide +kernel)))
  obtain ⟨c12, i12, h12⟩ := u_known (C := RX8) (T := TX8) (N := 2) (n := 2) hts inX8 (hts (.instantiable RX8 2) (pm_in1 261 (by decide +kernel) (by decide +kernel)))
  obtain ⟨c13, i13, h13⟩ := u_known (C := RX9) (T := TX9) (N := 6) (n := 6) hts inX9 (hts (.instantiable RX9 6) (pm_in1 119 (by decide +kernel) (by decide +kernel)))
  obtain ⟨c14, i14, h14⟩ := u_known (C := RX10) (T := TX10) (N := 66) (n := 66) hts inX10 (hts (.instantiable RX10 66) (pm_in1 1297 (by decide +kernel) (by decide +kernel)))
  refine ⟨(fun k => [c0, c1, c2, c3, c4, c5, c6, c7, c8, c9, c10, c11, c12, c13, c14].getD k c0, fun k => [i0, i1, i2, i3, i4, i5, i6, i7, i8, i9, i10, i11, i12, i13, i14].getD k i0), fun c q hq => ?_⟩
  match c, hq with
  | 0, hq => cases hq; exact h0
  | 1, hq => cases hq; exact h1
  | 2, hq => cases hq; exact h2
  | 3, hq => cases hq; exact h3
  | 4, hq => cases hq; exact h4
  | 5, hq => cases hq; exact h5
  | 6, hq => cases hq; exact h6
  | 7, hq => cases hq; exact h7
  | 8, hq => cases hq; exact h8
  | 9, hq => cases hq; exact h9
  | 10, hq => cases hq; exact h10
  | 11, hq => cases hq; exact h11
  | 12, hq => cases hq; exact h12
  | 13, hq => cases hq; exact h13
  | 14, hq => cases hq; exact h14
  | n + 15, hq => exact absurd hq (by simp [vwCl])
theorem en_arr {s : State} {args : Array Value} {ty : FieldType} (h : (Cond.arrayClass ty).before args s = true) : ∃ cA : ClassId, ArrOfT s cA ty ∧ s.vm.findClass ("[" ++ ty.toString) = some cA := by
  obtain ⟨c, k, comp, h1, h2, h3⟩ := Cond.arrayClass_spec h
  exact ⟨c, fun n z => ⟨fun k h => (by cases h), k, h2, comp, h3⟩, h1⟩
theorem en_over {s : State} {args : Array Value} {C : String} (h : (Cond.arrayOver (.object C)).before args s = true) : ∃ cA : ClassId, ArrOfT s cA (.object C) ∧ va_RA s cA (.object C) := by
  obtain ⟨comp, c, k, h1, h2, h3, h4, h5⟩ := Cond.arrayOver_spec h
  exact ⟨c, fun n z => ⟨fun k h => (by cases h), k, h3, comp, h4⟩, k, comp, h3, h4, h1, h5⟩
theorem en_K {s : State} {args : Array Value} (hts : ∀ w ∈ pm_tbl, w.before args s = true) (hO1 : (Cond.arrayOver (.object "SnippetShell$Code")).before args s = true) (hO2 : (Cond.arrayOver (.object "SnippetShell$Snippet")).before args s = true) : ∃ (D : va_G) (cA : Nat → ClassId), ∀ (ad : Nat → Nat) (s0 : State) (B0 : Nat), va_K D vwCl (pm_tys (D, cA, ad, s0, B0)) s := by
  obtain ⟨D, hD⟩ := en_known hts
  obtain ⟨a0, p0, q0⟩ := en_arr (hts _ ar_int)
  obtain ⟨a1, p1, q1⟩ := en_arr (hts _ ar_long)
  obtain ⟨a2, p2, q2⟩ := en_arr (hts _ ar_byte)
  obtain ⟨a3, p3, q3⟩ := en_arr (hts _ ar_boolean)
  obtain ⟨a4, p4, q4⟩ := en_over hO1
  obtain ⟨a5, p5, q5⟩ := en_over hO2
  refine ⟨D, fun k => if k = 100 then a0 else if k = 101 then a1 else if k = 102 then a2 else if k = 103 then a3 else if k = 104 then a4 else a5, fun ad s0 B0 => ⟨hD, fun k q hq => ?_⟩⟩
  match k, hq with
  | 0, hq => cases hq; exact ⟨p0, q0⟩
  | 1, hq => cases hq; exact ⟨p1, q1⟩
  | 2, hq => cases hq; exact ⟨p2, q2⟩
  | 3, hq => cases hq; exact ⟨p3, q3⟩
  | 4, hq => cases hq; exact ⟨p4, q4⟩
  | 5, hq => cases hq; exact ⟨p5, q5⟩
  | n + 6, hq => exact absurd hq (by simp [pm_tys])
theorem en_nest : ∀ w ∈ pm_nest, w ∈ lw_tbl := by
  intro w hw
  have h : pm_nest = ([128, 209, 215, 237, 836, 846, 942, 1039, 1169, 1200, 1201, 1202, 1203, 1204, 1205, 1206, 1215, 1236, 1272, 1273, 1274] : List Nat).filterMap (fun i => lw_tbl[i]?) := by decide +kernel
  rw [h] at hw
  obtain ⟨i, -, hi⟩ := List.mem_filterMap.mp hw
  exact List.mem_of_getElem? hi
/-! THE CLAIM OUT OF ONE WALK OF THE LAW'S BODY. Your part is whole_start (and what it stands on); all else here is the same for every law, but numbers. -/
def R_law : String := "SnippetShellLaw"
def lw_P (b : Addr) (xs : List Int32) (args : Array Value) (s : State) : Prop := args = #[.ref b] ∧ s.IntsAt b xs ∧ xs.length ≤ 1536 ∧ (Jvm.Cond.and given_1 narrow_1).before args s = true
def lw_Q (_ : Array Value) (s : State) (o : Outcome) (t : State) : Prop := o = .returned (some (.int 1)) ∧ Framed s o t [] 603072 7262314
def lw_Z (below : List Frame) (a : Array Value) (s : State) : State → Prop := fun t => ∃ o, t.status = .running ∧ Ended t below o ∧ lw_Q a s o t
/-- the law's own end, with 1 on the stack, nothing written that was there before, its room as the claim has it -/
theorem lw_ret {p : Program} {l : Launch} {e : Env} {s : State} {m : MethodId} {below : List Frame} {meth : Method} {c : Code} {b : Nat} (hx : p.tables.exec = Jvm.exec) (hb : c.code = code) (hr : meth.sig.returnType = ret) (hlocks : meth.locks = false) {pc : Nat} {H : Heap} {ls : Array Slot} (hdg : decode code pc = .ok (.ireturn, 1)) : W p l e room_1 s m #[Value.ref b] below meth c H [] 603072 7262314 (lw_Z below #[Value.ref b] s) (F0 m pc ls [.int 1]) := by
  intro T hT X
  obtain ⟨fs, hret, hrun, hended, hW, hframe⟩ := X.leave (v := some (.int 1)) (hlocks := hlocks) (fun h => by rw [hr] at h; cases h)
  have hmeth' : T.vm.method? m = some meth := X.method'
  refine ⟨T.setFrames fs, ?_, .returned (some (.int 1)), hrun, hended, rfl, ⟨_, rfl⟩, hW, hframe⟩
  jvm_step X.here [X.here.top, hx, hb, hdg, hmeth', hr, ret, narrow_b1]
  (try refine ⟨rfl, ?_⟩); (try refine ⟨rfl, ?_⟩)
  first | (intro acts; rw [hret _ acts rfl rfl rfl]) | rw [hret _ _ rfl rfl rfl]
  exact Steps.refl _
/-- what holds at the law's entry: the machine, the code, the tables' words (any of lw_tbl by 'hts w (by decide +kernel)'), the script of L ints xs at the cell b, what the Statement gives of the start (any of its parts by flat_of_before) -/
def lw_At (p : Program) (s : State) (m : MethodId) (meth : Method) (c : Code) (b L : Nat) (xs : Nat → Int32) : Prop :=
  p.tables.exec = Jvm.exec ∧ c.code = code ∧ meth.sig.returnType = ret ∧ c.maxLocals = 8 ∧ s.vm.findClass R_law = some m.cls ∧ (∀ w ∈ lw_tbl, w.before #[Value.ref b] s = true) ∧ va_X b L xs s s.heap ∧ b < s.heap.size ∧ meth.locks = false ∧ (Jvm.Cond.and given_1 narrow_1).before #[Value.ref b] s = true
set_option maxRecDepth 20000 in
theorem en_el : ∀ j, j < 13 → Cond.eq (.elem (.field (Term.string "SnippetShell$Tokens" 49) "java/lang/String" "value" "[B") (.int (Int32.ofNat j))) (.int (([pm_lit].getD 0 []).getD j 0)) ∈ flatC (Jvm.Cond.and given_1 narrow_1) := by decide +kernel
/-- the numbers of the machine at the law's entry -/
def en_ad (b B0 : Nat) : Nat → Nat
  | 0 => b
  | 1 => b
  | a + 2 => B0 + a
theorem en_R {D : va_G} {cA : Nat → ClassId} {b : Nat} {s : State} : pm_R (D, cA, en_ad b s.heap.size, s, s.heap.size) pS0 (fun _ _ => 0) (fun _ _ => 0) (fun _ _ => none) s.heap := by
  refine ⟨rfl, Nat.le_refl 2, fun a ha => ?_, fun a _ k => ⟨rfl, rfl, rfl⟩, fun q _ => rfl⟩
  unfold pm_at
  rw [if_neg (show ¬ (pS0.2 a).1 < 100 from (by decide : ¬ (200 : Nat) < 100)), if_neg (show ¬ (pS0.2 a).1 < 200 from (by decide : ¬ (200 : Nat) < 200))]
  trivial
set_option maxRecDepth 20000 in
theorem whole_start {p : Program} {e : Env} {s : State} {m : MethodId} {below : List Frame} {meth : Method} {c : Code} (l : Launch) (hl : l.stackTraces = false) {b L : Nat} {xs : Nat → Int32} (hL : L ≤ 1536) (hnm : meth.name = "law") (C0 : lw_At p s m meth c b L xs) : W p l e room_1 s m #[Value.ref b] below meth c s.heap [] 0 0 (lw_Z below #[Value.ref b] s) (entryFrame m ([Value.ref b] : List Value).toArray 8) := by
  obtain ⟨hx, hb, hr, hml, hown, hts, hX, hbl, hlocks, hgv⟩ := id C0
  have hfl := flat_of_before _ hgv
  have hts' : ∀ w ∈ pm_tbl, w.before #[Value.ref b] s = true := fun w hw => hts w (List.mem_filter.mp hw).1
  have hO1 : (Cond.arrayOver (.object "SnippetShell$Code")).before #[Value.ref b] s = true := hts _ (List.mem_of_getElem? (i := 313) (by decide +kernel))
  have hO2 : (Cond.arrayOver (.object "SnippetShell$Snippet")).before #[Value.ref b] s = true := hts _ (List.mem_of_getElem? (i := 274) (by decide +kernel))
  obtain ⟨D, cA, hK⟩ := en_K hts' hO1 hO2
  obtain ⟨scr, x1, x2, x3, x4, x5⟩ := hX
  have hA : ∀ a : Nat, a < s.heap.size → ¬ (fun a => s.heap.size ≤ a) a := fun a h => Nat.not_le.mpr h
  have hini : (Cond.initialized Bundle.tN).before #[Value.ref b] s = true := hts _ (List.mem_of_getElem? (i := 111) (by decide +kernel))
  have hZU : vx_Zq Bundle.tN "UNASSIGNED_STACK" Bundle.steD (fun a => s.heap.size ≤ a) s s.heap := vx_Zqof (hts _ (List.mem_of_getElem? (i := 1152) (by decide +kernel))) hini (hfl _ (by decide +kernel)) hA
  have hZN : vx_Zq Bundle.tN "SUPPRESSED_SENTINEL" Bundle.listD (fun a => s.heap.size ≤ a) s s.heap := vx_Zqof (hts _ (List.mem_of_getElem? (i := 1154) (by decide +kernel))) hini (hfl _ (by decide +kernel)) hA
  have hNc : va_Nc "java/lang/ClassCastException" "java/lang/NullPointerException" s := va_Nc.of (args := #[Value.ref b]) (hfl _ (by decide +kernel))
  obtain ⟨adK, adV, hS, hev⟩ := vk_Sof (args := #[Value.ref b]) (s := s) (N := 1) (tm := fun _ => Term.string "SnippetShell$Tokens" 49) (len := [13]) (byt := [pm_lit]) (A := fun a => s.heap.size ≤ a) (fun i hi => by
      obtain rfl : i = 0 := by omega
      decide) (fun i hi => hfl _ (by decide +kernel)) (fun i hi => hfl _ (by decide +kernel)) (fun i hi => hfl _ (by decide +kernel)) (fun i hi => by
      obtain rfl : i = 0 := by omega
      exact hfl _ (by decide +kernel)) (fun i hi => by
      obtain rfl : i = 0 := by omega
      exact fun j hj => hfl _ (en_el j hj)) (fun i j hi hj hij => absurd (show i = j by omega) hij) hA
  have hLit : pm_Lit (D, cA, en_ad b s.heap.size, s, s.heap.size) s := ⟨adK 0, adV 0, vk_R.of (A := #[Value.ref b]) (hts _ (List.mem_of_getElem? (i := 432) (by decide +kernel))) (hev 0 (by decide)), (hS.1 0 (by decide)).1, (hS.1 0 (by decide)).2.1, (hS.1 0 (by decide)).2.2.1, (hS.1 0 (by decide)).2.2.2, va_Zof (hts _ (List.mem_of_getElem? (i := 446) (by decide +kernel))) (hts _ (List.mem_of_getElem? (i := 102) (by decide +kernel))) (va_eqt (hfl _ (by decide +kernel))) hA⟩
  have hKK : pm_K (D, cA, en_ad b s.heap.size, s, s.heap.size) s := by
    refine ⟨hK _ _ _, fun w hw => ?_, va_AO.of hO1, va_AO.of hO2, ⟨hbl, hbl, fun a => rfl⟩, Vm.Alike.refl _, hZU, hZN, hNc, hLit⟩
    have h7 := pm_nest_ok w hw
    exact va_Nw.of (by revert h7; cases w <;> intro h7 <;> first | rfl | (simp [pm_isNest] at h7)) (hts w (en_nest w hw))
  have hXX : pm_X (D, cA, en_ad b s.heap.size, s, s.heap.size) L xs := ⟨scr, x1, x4, x5, x2, x3⟩
  have hk : ∀ S I J P, (fun (v : Option Value) (_ : pmS) (_ : pmI) (_ : pmJ) (_ : pmP) => v = some (.int (nI 1))) (some (.int (nI 1))) S I J P := fun _ _ _ _ => rfl
  have hgo := lw_begin (l := l) (E := (D, cA, en_ad b s.heap.size, s, s.heap.size)) (Q := fun v _ _ _ _ => v = some (.int (nI 1))) (fun S P hG hP hT => lw_loop hl hXX hL (by decide) hk 512 0 S _ _ P aE (fun _ => 0) 22 32 (fun _ => 0) 0 (by omega) (by decide) (LI_0 hG hP hT) gT_0)
  rw [lg_entry_eq]
  have hv := lv_entry ([.ref b]) (n := 8) (Nat.le_of_ble_eq_true rfl)
  have hW := hgo p e room_1 s m #[Value.ref b] below meth c s.heap [] 0 0 603072 7262314 _ ⟨hx, hb, hml, hr, hlocks, hown, hts', hKK, hnm⟩ ⟨by decide, by decide, by decide, by decide, by decide, by decide⟩ (fun q hq => nomatch hq) en_R hv
  refine pm_wmono (fun tt h => ?_) hW
  obtain ⟨o, hrun, hend, ⟨v, S', I', J', P', ho, hq, -⟩, Ls, hF, hfree⟩ := h
  subst hq
  refine ⟨o, hrun, hend, ho, hF.1, hF.2.1, hF.2.2.weaken (fun y hy hlt => absurd (hfree y hy) (Nat.not_le.mpr hlt)) (Nat.le_refl _) (Nat.le_refl _)⟩
set_option maxHeartbeats 4000000 in
theorem lw_walk (l : Launch) (hl9 : l.stackTraces = false) (b : Addr) (xs : List Int32) : MetFree l x (headSpec (Jvm.Cond.code x code maxLocals ret :: tables_1) room_1) (lw_P b xs) (fun _ _ _ _ _ => True) lw_Q := by
  refine MetFree.of_bodyS (code := code) (maxLocals := maxLocals) (ret := ret) (by decide) ?_ ?_
  · intro args s m h hn
    obtain ⟨meth, c, h1, h2, h3, h4, h5, h6, -, -⟩ := Cond.code_spec hn (atoms_spec (ws := Jvm.Cond.code x code maxLocals ret :: tables_1) h _ List.mem_cons_self)
    exact ⟨meth, c, h1, h2, h3, h4, h5, h6⟩
  · intro p e s m args below meth c s₁ B hml0 hP _
    obtain ⟨rfl, hx, hbd, hgv⟩ := hP
    obtain ⟨scr, harrAt, hlist, hof, hsmall⟩ := hx
    obtain ⟨hcb, hkn, -, -⟩ := State.arrayAt?_spec harrAt
    have hown : s.vm.findClass R_law = some m.cls := findClass_of_methodNamed B.named
    have hts0 : ∀ c ∈ (Jvm.Cond.code x code maxLocals ret :: tables_1), c.before #[Value.ref b] s = true := atoms_spec (ws := Jvm.Cond.code x code maxLocals ret :: tables_1) B.pre
    have hts : ∀ w ∈ lw_tbl, w.before #[Value.ref b] s = true := k2_hts_sels lw_privs (fun w hw => hts0 w (List.mem_cons_of_mem _ hw)) lw_privs_ok
    have hml : c.maxLocals = 8 := B.maxLocals_eq (hts0 _ List.mem_cons_self)
    have X₀ : Stand p l e room_1 s m #[Value.ref b] below meth c s₁ [] 0 0 := Stand.of_body B
    have hh0 : s₁.heap = s.heap := by rw [B.state]; rfl
    have hsz : scr.slots.size = xs.length := by rw [← Array.length_toList, hlist, List.length_map]
    have hval : ∀ j : Nat, j < xs.length → scr.slots[j]? = some (.int (xs.getD j 0)) := fun j hj => by
      rw [← Array.getElem?_toList, hlist]
      simp [hj]
    have hbl : b < s.heap.size := (Array.getElem?_eq_some_iff.mp hcb).1
    have hX : va_X b xs.length (fun j => xs.getD j 0) s s.heap := ⟨scr, hcb, hof, hkn, hsz, hval⟩
    have K : W p l e room_1 s m #[Value.ref b] below meth c s₁.heap [] 0 0 (lw_Z below #[Value.ref b] s) (entryFrame m ([Value.ref b] : List Value).toArray 8) := by
      rw [hh0]
      exact whole_start l hl9 hbd (name_of_methodNamed B.named B.method).1 ⟨B.exec, B.bytes, B.returns, hml, hown, hts, hX, hbl, B.notSynchronized, hgv⟩
    obtain ⟨t, a1, o, b1, b2, b3⟩ := K s₁ rfl X₀
    exact ⟨t, o, a1, b1, b2, b3⟩
theorem lw_pre_spec {args : Array Value} {s : State} (h : (Jvm.Cond.and given_1 narrow_1).before args s = true) (hr : rest_1_c.before args s = true) : ∃ (b : Addr) (xs : List Int32), lw_P b xs args s := by
  have hs := flat_of_before _ h
  have hq := flat_of_before _ hr
  have hc : (Cond.count 1).before args s = true := hs _ (by decide +kernel)
  have harr : (Cond.arrayOf (.arg 0) .int).before args s = true := hs _ (by decide +kernel)
  have hle : (Cond.le (.length (.arg 0)) (.int 1536)).before args s = true := hs _ (by decide +kernel)
  have hlen : (Cond.isInt (.length (.arg 0))).before args s = true := hq _ (by decide +kernel)
  have hall : (Cond.all (.arg 0) (.isInt (.elem (.arg 0) (.index 0)))).before args s = true := hq _ (by decide +kernel)
  obtain ⟨b, xs, hb, hx⟩ := State.ints_of_pre rfl harr hlen hall
  have hsm : xs.length < 2 ^ 31 := hx.choose_spec.2.2.2
  have hev : (Term.length (.arg 0)).eval args s none [] s = some (.int xs.length.toInt32) := hx.length_eval hb
  have hv := Cond.le_ints hev (show (Term.int 1536).eval args s none [] s = some (.int 1536) from rfl)
  have hd : xs.length.toInt32 ≤ 1536 := by
    simpa [Cond.before, Cond.holds, hv] using hle
  have hN : xs.length ≤ 1536 := (Int32.ofNat_le_ofNat hsm (by decide)).mp (show Int32.ofNat xs.length ≤ Int32.ofNat 1536 from hd)
  exact ⟨b, xs, Cond.one_arg hc (show args[0]? = some (.ref b) from hb), hx, hN, h⟩
theorem lw_comes (l : Launch) (hl9 : l.stackTraces = false) : Comes l x (Jvm.Cond.code x code maxLocals ret :: tables_1) room_1 (fun tb e args s => Calls_1 tb e args s ∧ rest_1 tb e args s ∧ Pre_1 tb e args s)
    (fun _ _ args s o t => lw_Q args s o t) := by
  intro p e ha hc hk s m args below hf hfit hheap happ hpre
  obtain ⟨b, xs, hP⟩ := lw_pre_spec hpre.2.2 hpre.2.1
  obtain ⟨k, o, h1, h2, h3, hQ⟩ := lw_walk l hl9 b xs p e ha hc hk s m args below hf ((Spec.applies_iff_loose hf).mp happ).1 hP trivial
  exact ⟨k, o, h1, h2, h3, hQ⟩
theorem lw_frame {s t : State} {o : Outcome} {args : Array Value} (h : Framed s o t [] 603072 7262314) :
    Framed s o t (fieldLocs frame_1_writes args s ++ arrayLocs frame_1_arrays args s ++ staticLocs frame_1_statics s) 603072 7262314 := h
theorem lw_limb (L : Cond) (hL : ∀ (args : Array Value) (s t : State), L.after args s (.returned (some (.int 1))) t = true) :
    ArmFor flags0 classFile x code maxLocals ret World_1 tables_1 room_1 Calls_1 rest_1 Pre_1
      (fun tb e a s o t => postC L tb e a s o t ∧ Framed s o t (fieldLocs frame_1_writes a s ++ arrayLocs frame_1_arrays a s ++ staticLocs frame_1_statics s) 603072 7262314) := by
  intro l hfl _ _ p e ha hc hk s m args below hf hfit hheap happ hpre
  obtain ⟨k, o, h1, h2, h3, rfl, hF⟩ := lw_comes l (by unfold Launch.stackTraces; rw [hfl]; decide) p e ha hc hk s m args below hf hfit hheap happ hpre
  exact ⟨k, _, h1, h2, h3, hL args s _, lw_frame hF⟩
theorem i_vc : Claimed_1_1 ∧ Claimed_1_2 := ⟨lw_limb limb_1_1 (fun args s t => by simp [limb_1_1, Cond.after, Cond.holds, Cond.value]), lw_limb limb_1_2 (fun args s t => Cond.after_iff.mpr (by
  first | (rw [show limb_1_2 = Cond.eq .result (.int 1) from rfl, Cond.eq_ints (x := 1) (y := 1) rfl rfl]; simp; done) | (simp [limb_1_2, Cond.value, Term.eval]; done)))⟩
