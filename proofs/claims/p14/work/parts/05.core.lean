/-! THE MEMORY OF A RUN: cells by number. S: how many, and of each its tag (a class's place in vwCl, or 100 .. 105 for arrays, 200 the script) and length; I, J, P: what its ints, longs and references hold. -/
abbrev pmS : Type := Nat × (Nat → Nat × Nat)
abbrev pmI : Type := Nat → Nat → Int32
abbrev pmJ : Type := Nat → Nat → Int64
abbrev pmP : Type := Nat → Nat → Option Nat
/-- the machine's own numbers: class numbers and slots, array classes, addresses, the state at the start, the first new address -/
abbrev pmE : Type := va_G × (Nat → ClassId) × (Nat → Nat) × State × Nat
abbrev pmE.D (E : pmE) : va_G := E.1
abbrev pmE.cA (E : pmE) : Nat → ClassId := E.2.1
abbrev pmE.ad (E : pmE) : Nat → Nat := E.2.2.1
abbrev pmE.s0 (E : pmE) : State := E.2.2.2.1
abbrev pmE.H0 (E : pmE) : Heap := E.2.2.2.1.heap
abbrev pmE.B0 (E : pmE) : Nat := E.2.2.2.2
def pm_u {α : Type} (f : Nat → Nat → α) (a k : Nat) (x : α) : Nat → Nat → α := va_up f a (va_up (f a) k x)
theorem pm_u_ne {α : Type} {f : Nat → Nat → α} {a k b : Nat} {x : α} (h : b ≠ a) : pm_u f a k x b = f b := if_neg h
theorem pm_u_eq {α : Type} {f : Nat → Nat → α} {a k : Nat} {x : α} : pm_u f a k x a = va_up (f a) k x := if_pos rfl
theorem pm_up_ne {α : Type} {f : Nat → α} {k j : Nat} {x : α} (h : j ≠ k) : va_up f k x j = f j := if_neg h
theorem pm_up_eq {α : Type} {f : Nat → α} {k : Nat} {x : α} : va_up f k x k = x := if_pos rfl
def pm_v (ad : Nat → Nat) (v : Value) : Value := match v with
  | .ref a => .ref (ad a)
  | .int x => .int x
  | .long x => .long x
  | .float x => .float x
  | .double x => .double x
  | .null => .null
  | .retAddr x => .retAddr x
theorem pm_v_cat (ad : Nat → Nat) (v : Value) : (pm_v ad v).category = v.category := by cases v <;> rfl
theorem pm_v_rf (ad : Nat → Nat) (r : Option Nat) : pm_v ad (va_rf r) = va_rf (r.map ad) := by cases r <;> rfl
/-- which of I, J, P holds place k of a cell of tag t -/
def pm_fk (t k : Nat) : Nat := match t with
  | 0 => (match k with | 1 => 0 | _ => 2)
  | 1 => (match k with | 4 => 0 | _ => 2)
  | 2 => (match k with | 4 => 0 | _ => 2)
  | 3 => (match k with | 4 => 0 | 6 => 0 | _ => 2)
  | 4 => (match k with | 4 => 0 | 5 => 0 | _ => 2)
  | 5 => (match k with | 7 => 0 | 8 => 0 | 9 => 0 | 10 => 0 | 11 => 0 | 12 => 0 | 13 => 0 | _ => 2)
  | 6 => (match k with | 4 => 0 | _ => 2)
  | 7 => (match k with | 3 => 0 | 4 => 0 | 5 => 1 | 6 => 0 | 7 => 0 | 8 => 0 | _ => 2)
  | 8 => (match k with | 5 => 0 | 6 => 0 | _ => 2)
  | 9 => (match k with | 0 => 0 | 1 => 0 | _ => 2)
  | 10 => (match k with | 5 => 0 | _ => 2)
  | 11 => (match k with | 3 => 0 | _ => 2)
  | 12 => 2
  | 13 => (match k with | 5 => 0 | _ => 2)
  | 14 => (match k with | 0 => 0 | 2 => 0 | 3 => 0 | 10 => 0 | 27 => 0 | 30 => 0 | 34 => 0 | 36 => 0 | 40 => 0 | 41 => 0 | 42 => 0 | 43 => 0 | 44 => 0 | 45 => 0 | 53 => 0 | 54 => 0 | 55 => 0 | 59 => 0 | 62 => 0 | _ => 2)
  | 101 => 1
  | 104 => 2
  | 105 => 2
  | _ => 0
/-- links to a nest mate's private members -/
def pm_nest : List Cond := [.methodLinkNest "SnippetShell" 15 ⟨"SnippetShell$Tokens", "<init>", "()V"⟩ "SnippetShell", .methodLinkNest "SnippetShell" 31 ⟨"SnippetShell$Shelf", "<init>", "()V"⟩ "SnippetShell", .methodLinkNest "SnippetShell$Shelf" 11 ⟨"SnippetShell$Names", "<init>", "()V"⟩ "SnippetShell", .methodLinkNest "SnippetShell$Shelf" 20 ⟨"SnippetShell$Things", "<init>", "()V"⟩ "SnippetShell", .castable "[I" "java/lang/Cloneable", .castable "[J" "java/lang/Cloneable", .castable "[B" "java/lang/Cloneable", .methodLinkNest "SnippetShell$Names" 57 ⟨"SnippetShell", "byteOf", "(JI)I"⟩ "SnippetShell", .declares ⟨"java/lang/Throwable", "fillInStackTrace", "()Ljava/lang/Throwable;"⟩, .castable "java/lang/NullPointerException" "java/lang/NullPointerException", .declares ⟨"java/lang/RuntimeException", "<init>", "()V"⟩, .declares ⟨"java/lang/RuntimeException", "<init>", "(Ljava/lang/String;)V"⟩, .declares ⟨"java/lang/Exception", "<init>", "()V"⟩, .declares ⟨"java/lang/Exception", "<init>", "(Ljava/lang/String;)V"⟩, .declares ⟨"java/lang/Throwable", "<init>", "()V"⟩, .declares ⟨"java/lang/Throwable", "<init>", "(Ljava/lang/String;)V"⟩, .castable "java/lang/RuntimeException" "java/lang/Throwable", .castable "java/lang/ClassCastException" "java/lang/ClassCastException", .castable "java/lang/ArrayIndexOutOfBoundsException" "java/lang/ArrayIndexOutOfBoundsException", .declares ⟨"java/lang/IndexOutOfBoundsException", "<init>", "()V"⟩, .declares ⟨"java/lang/IndexOutOfBoundsException", "<init>", "(Ljava/lang/String;)V"⟩]
def pm_isNest : Cond → Bool
  | .methodLinkNest _ _ _ _ => true
  | .fieldLinkNest _ _ _ _ _ _ => true
  | .declares _ => true
  | .castable _ _ => true
  | _ => false
theorem pm_nest_ok : ∀ w ∈ pm_nest, pm_isNest w = true := by decide +kernel
def pm_val (ad : Nat → Nat) (t : Nat) (I : pmI) (J : pmJ) (P : pmP) (a k : Nat) : Value :=
  if pm_fk t k = 0 then .int (I a k) else if pm_fk t k = 1 then .long (J a k) else va_rf ((P a k).map ad)
def pm_at (E : pmE) (S : pmS) (I : pmI) (J : pmJ) (P : pmP) (a : Nat) (H : Heap) : Prop :=
  if (S.2 a).1 < 100 then ∃ r : vw_C, vwCl[(S.2 a).1]? = some r ∧ t_OB (E.ad a) (E.D.1 (S.2 a).1) r.2.2 (E.D.2 (S.2 a).1) H (pm_val E.ad (S.2 a).1 I J P a)
  else if (S.2 a).1 < 200 then H[E.ad a]? = some (arrV (E.cA (S.2 a).1) (S.2 a).2 (pm_val E.ad (S.2 a).1 I J P a))
  else True
/-- the heap holds the memory; new cells stand one behind the other from B0 on -/
def pm_R (E : pmE) (S : pmS) (I : pmI) (J : pmJ) (P : pmP) (H : Heap) : Prop :=
  H.size + 2 = E.B0 + S.1 ∧ 2 ≤ S.1 ∧ (∀ a, a < S.1 → pm_at E S I J P a H) ∧ (∀ a, S.1 ≤ a → ∀ k, I a k = 0 ∧ J a k = 0 ∧ P a k = none) ∧ ∀ q, q < E.B0 → H[q]? = E.H0[q]?
def pm_A (E : pmE) : Prop := E.ad 0 < E.B0 ∧ E.ad 1 < E.B0 ∧ ∀ a, E.ad (a + 2) = E.B0 + a
theorem pm_A.inj {E : pmE} (h : pm_A E) {a b : Nat} (ha : 2 ≤ a) (he : E.ad b = E.ad a) : b = a := by
  obtain ⟨h0, h1, h2⟩ := h
  obtain ⟨a', rfl⟩ : ∃ a', a = a' + 2 := ⟨a - 2, by omega⟩
  rw [h2] at he
  match b, he with
  | 0, he => exact absurd he (by omega)
  | 1, he => exact absurd he (by omega)
  | b' + 2, he => rw [h2] at he; omega
theorem pm_A.ge {E : pmE} (h : pm_A E) {a : Nat} (ha : 2 ≤ a) : E.B0 ≤ E.ad a := by
  obtain ⟨a', rfl⟩ : ∃ a', a = a' + 2 := ⟨a - 2, by omega⟩
  rw [h.2.2]; omega
theorem pm_A.lt {E : pmE} (h : pm_A E) {S : pmS} {I : pmI} {J : pmJ} {P : pmP} {H : Heap} (hR : pm_R E S I J P H) {a : Nat} (ha : a < S.1) : E.ad a < H.size := by
  obtain ⟨h0, h1, h2⟩ := h
  obtain ⟨q1, q2, -⟩ := hR
  match a, ha with
  | 0, _ => omega
  | 1, _ => omega
  | a' + 2, ha => rw [h2]; omega
theorem pm_A.next {E : pmE} (h : pm_A E) {S : pmS} {I : pmI} {J : pmJ} {P : pmP} {H : Heap} (hR : pm_R E S I J P H) : E.ad S.1 = H.size := by
  obtain ⟨q1, q2, -⟩ := hR
  obtain ⟨n, hn⟩ : ∃ n, S.1 = n + 2 := ⟨S.1 - 2, by omega⟩
  rw [hn, h.2.2]; omega
def pm_tys (E : pmE) : List (ClassId × FieldType) := [(E.cA 100, .int), (E.cA 101, .long), (E.cA 102, .byte), (E.cA 103, .boolean), (E.cA 104, .object "SnippetShell$Code"), (E.cA 105, .object "SnippetShell$Snippet")]
/-- the text of single signs, as a literal of the class: its bytes -/
def pm_lit : List Int32 := [43, 45, 42, 47, 37, 60, 61, 63, 58, 40, 41, 44, 46]
/-- a String of these bytes at sa, its bytes' array at va, among what was there at the start -/
def pm_Str (sa va : Nat) (A : Nat → Prop) (U : State) (H : Heap) : Prop := va_O "java/lang/String" sa A U H ∧ va_OF "java/lang/String" "coder" "B" (.int 0) sa A U H ∧ va_OF "java/lang/String" "value" "[B" (.ref va) sa A U H ∧ va_T .byte va 13 (fun j => .int (pm_lit.getD j 0)) A U H ∧ va_Z "java/lang/String" "COMPACT_STRINGS" "Z" (.int 1) A U H
theorem pm_Str.moved {sa va : Nat} {A : Nat → Prop} {u U : State} {H : Heap} (hvm : u.vm.Alike U.vm) (h : pm_Str sa va A u H) : pm_Str sa va A U H := ⟨h.1.moved hvm, h.2.1.moved hvm, h.2.2.1.moved hvm, h.2.2.2.1.moved hvm, h.2.2.2.2.moved hvm⟩
theorem pm_Str.kept {sa va : Nat} {A : Nat → Prop} {U : State} {H H1 : Heap} (h : pm_Str sa va A U H) (hq : ∀ a : Nat, a < H.size → ¬ A a → H1[a]? = H[a]?) : pm_Str sa va A U H1 := ⟨h.1.kept hq, h.2.1.kept hq, h.2.2.1.kept hq, h.2.2.2.1.kept hq, h.2.2.2.2.kept hq⟩
theorem pm_Str.narrow {sa va : Nat} {A B : Nat → Prop} {U : State} {H : Heap} (h : pm_Str sa va A U H) (hAB : ∀ q, B q → A q) : pm_Str sa va B U H := ⟨h.1.narrow hAB, h.2.1.narrow hAB, h.2.2.1.narrow hAB, h.2.2.2.1.narrow hAB, h.2.2.2.2.narrow hAB⟩
def pm_Lit (E : pmE) (U : State) : Prop := ∃ sa va : Nat, vk_R "SnippetShell$Tokens" 49 "+-*/%<=?:(),." sa U ∧ pm_Str sa va (fun a => E.B0 ≤ a) U E.H0
/-- what the machine's tables say, at any state of the run -/
def pm_K (E : pmE) (U : State) : Prop := va_K E.D vwCl (pm_tys E) U ∧ (∀ w ∈ pm_nest, va_Nw w U) ∧ va_AO "SnippetShell$Code" U ∧ va_AO "SnippetShell$Snippet" U ∧ pm_A E ∧ E.s0.vm.Alike U.vm ∧ vx_Zq Bundle.tN "UNASSIGNED_STACK" Bundle.steD (fun a => E.B0 ≤ a) U E.H0 ∧ vx_Zq Bundle.tN "SUPPRESSED_SENTINEL" Bundle.listD (fun a => E.B0 ≤ a) U E.H0 ∧ va_Nc "java/lang/ClassCastException" "java/lang/NullPointerException" U ∧ pm_Lit E U
theorem pm_K.warm {E : pmE} {s U : State} (hW : s.WarmedH U.vm) (h : pm_K E s) : pm_K E U := by
  obtain ⟨h1, h2, h3, h4, h5, h8, z1, z2, z3, sa, va, z4, z5⟩ := h
  refine ⟨va_K.moved hW.alike h1, fun w hw => ?_, va_AO.moved hW.alike h3, va_AO.moved hW.alike h4, h5, h8.trans hW.alike, vx_Zq.moved hW.alike z1, vx_Zq.moved hW.alike z2, va_Nc.moved hW.alike z3, sa, va, vk_R.warm hW z4, z5.moved hW.alike⟩
  have h6 := h2 w hw
  have h7 := pm_nest_ok w hw
  cases w <;> first | exact va_Nw.warmF hW h6 | exact va_Nw.warmM hW h6 | exact va_Nw.warmD hW h6 | exact va_Nw.warmC hW h6 | (simp [pm_isNest] at h7)
theorem pm_K.calling {E : pmE} {U : State} {g : JFrame} {mk : MethodId} {a : Array Value} (h : pm_K E U) : pm_K E (U.calling g mk a) := by
  obtain ⟨h1, h2, h3, h4, h5, h8, z1, z2, z3, sa, va, z4, z5⟩ := h
  have e : (U.calling g mk a).vm = U.vm := rfl
  refine ⟨va_K.moved (by rw [e]; exact Vm.Alike.refl _) h1, fun w hw => ?_, va_AO.moved (by rw [e]; exact Vm.Alike.refl _) h3, va_AO.moved (by rw [e]; exact Vm.Alike.refl _) h4, h5, by rw [e]; exact h8, vx_Zq.moved (by rw [e]; exact Vm.Alike.refl _) z1, vx_Zq.moved (by rw [e]; exact Vm.Alike.refl _) z2, va_Nc.moved (by rw [e]; exact Vm.Alike.refl _) z3, sa, va, vk_R.same e z4, z5.moved (by rw [e]; exact Vm.Alike.refl _)⟩
  have h7 := pm_nest_ok w hw
  exact va_Nw.same (by revert h7; cases w <;> intro h7 <;> first | rfl | (simp [pm_isNest] at h7)) e.symm (h2 w hw)
/-- a method's frame: its code, its class, the words -/
def pm_C (E : pmE) (y : MethodName) (cc : ByteArray) (nL : Nat) (ret : Option FieldType) (p : Program) (s : State) (m : MethodId) (args : Array Value) (meth : Method) (c : Code) : Prop :=
  p.tables.exec = Jvm.exec ∧ c.code = cc ∧ c.maxLocals = nL ∧ meth.sig.returnType = ret ∧ meth.locks = false ∧ s.vm.findClass y.cls = some m.cls ∧ (∀ w ∈ pm_tbl, w.before args s = true) ∧ pm_K E s ∧ meth.name = y.name
def pm_Q (E : pmE) (Q : Option Value → pmS → pmI → pmJ → pmP → Prop) : Array Value → State → Outcome → State → Prop := fun _ _ o t =>
  ∃ v S I J P, o = .returned (v.map (pm_v E.ad)) ∧ Q v S I J P ∧ pm_R E S I J P t.heap
def pm_lv (ad : Nat → Nat) (lv : List (Nat × Value)) : List (Nat × Value) := lv.map fun q => (q.1, pm_v ad q.2)
/-- how a run may end: by the caller's frames, the arguments, the state at its begin, its code, cells and slots -/
abbrev pm_Z : Type := List Frame → Array Value → State → Code → Nat → Nat → State → Prop
/-- it ends by returning, with Q -/
def pm_N (E : pmE) (Q : Option Value → pmS → pmI → pmJ → pmP → Prop) : pm_Z := fun below args s _ mc ms => MQ below (pm_Q E Q) args s mc ms (fun a => E.B0 ≤ a)
/-- THE JUDGEMENT: from this place, with these locals, stack and memory, the method ends as Q says; d: how many calls deep it may go, kc, ks: cells and slots that may still be made -/
def pm_W (l : Launch) (E : pmE) (y : MethodName) (cc : ByteArray) (nL : Nat) (ret : Option FieldType) (d kc ks pc : Nat) (lv : List (Nat × Value)) (st : List Value) (S : pmS) (I : pmI) (J : pmJ) (P : pmP) (Q : pm_Z) : Prop :=
  ∀ (p : Program) (e : Env) (R : Room) (s : State) (m : MethodId) (args : Array Value) (below : List Frame) (meth : Method) (c : Code) (H : Heap) (locs : List Loc) (cells slots mc ms : Nat) (ls : Array Slot),
    pm_C E y cc nL ret p s m args meth c → (d ≤ R.frames ∧ 64 * d ≤ R.locals ∧ mc ≤ R.cells ∧ ms ≤ R.slots ∧ cells + kc ≤ mc ∧ slots + ks ≤ ms) → (∀ q ∈ locs, E.B0 ≤ q.base) → pm_R E S I J P H → lv_has ls nL (pm_lv E.ad lv) →
    W p l e R s m args below meth c H locs cells slots (Q below args s c mc ms) (F0 m pc ls (st.map (pm_v E.ad)))
section PW
variable {l : Launch} {E : pmE} {y : MethodName} {cc : ByteArray} {nL : Nat} {ret : Option FieldType} {d kc ks pc : Nat} {lv : List (Nat × Value)} {st : List Value} {S : pmS} {I : pmI} {J : pmJ} {P : pmP} {Q : pm_Z}
theorem pm_look {ad : Nat → Nat} {ls : Array Slot} {i : Nat} {v : Value} (h : lv_has ls nL (pm_lv ad lv)) (hl : lv.lookup i = some v) : ls[i]? = some (.val (pm_v ad v)) := by
  refine h.2.2 (i, pm_v ad v) (List.mem_map.mpr ⟨(i, v), ?_, rfl⟩)
  clear h
  induction lv with
  | nil => cases hl
  | cons q t ih =>
    obtain ⟨j, w⟩ := q
    rw [List.lookup_cons] at hl
    by_cases hj : i == j
    · simp only [hj, if_true] at hl
      cases hl
      cases (beq_iff_eq.mp hj)
      exact List.mem_cons_self
    · simp only [hj] at hl
      exact List.mem_cons_of_mem _ (ih hl)
/-- locals behind a store of one word, of two -/
def pm_st1 (i : Nat) (v : Value) (lv : List (Nat × Value)) : List (Nat × Value) := (i, v) :: lv.filter (fun q => !(q.1 == i) && !(q.1 + 1 == i && q.2.category == 2))
def pm_st2 (i : Nat) (v : Value) (lv : List (Nat × Value)) : List (Nat × Value) := (i, v) :: lv.filter (fun q => !(q.1 == i) && (!(q.1 == i + 1) && !(q.1 + 1 == i && q.2.category == 2)))
theorem pm_st1_map (ad : Nat → Nat) (i : Nat) (v : Value) (lv : List (Nat × Value)) : (i, pm_v ad v) :: (pm_lv ad lv).filter (fun q => !(q.1 == i) && !(q.1 + 1 == i && q.2.category == 2)) = pm_lv ad (pm_st1 i v lv) := by
  simp only [pm_lv, pm_st1, List.map_cons, List.filter_map]
  congr 2
  refine congrArg (fun f => List.filter f lv) (funext fun q => ?_)
  simp [Function.comp, pm_v_cat]
theorem pm_st2_map (ad : Nat → Nat) (i : Nat) (v : Value) (lv : List (Nat × Value)) : (i, pm_v ad v) :: (pm_lv ad lv).filter (fun q => !(q.1 == i) && (!(q.1 == i + 1) && !(q.1 + 1 == i && q.2.category == 2))) = pm_lv ad (pm_st2 i v lv) := by
  simp only [pm_lv, pm_st2, List.map_cons, List.filter_map]
  congr 2
  refine congrArg (fun f => List.filter f lv) (funext fun q => ?_)
  simp [Function.comp, pm_v_cat]
theorem pm_look_mem {ad : Nat → Nat} {lv : List (Nat × Value)} {i : Nat} {v : Value} (hl : lv.lookup i = some v) : (i, pm_v ad v) ∈ pm_lv ad lv := by
  refine List.mem_map.mpr ⟨(i, v), ?_, rfl⟩
  induction lv with
  | nil => cases hl
  | cons q t ih =>
    obtain ⟨j, w⟩ := q
    rw [List.lookup_cons] at hl
    by_cases hj : i == j
    · simp only [hj, if_true] at hl
      cases hl
      cases (beq_iff_eq.mp hj)
      exact List.mem_cons_self
    · simp only [hj] at hl
      exact List.mem_cons_of_mem _ (ih hl)
theorem pw_iadd {x z : Int32} (hd : decode cc pc = .ok (.iadd, 1)) (k : pm_W l E y cc nL ret d kc ks (pc + 1) lv (.int (x + z) :: st) S I J P Q) : pm_W l E y cc nL ret d kc ks pc lv (.int z :: .int x :: st) S I J P Q := by
  intro p e R s m args below meth c H locs cells slots mc ms ls C hr hl0 hR hv
  exact lv_iadd C.1 C.2.1 hd (k p e R s m args below meth c H locs cells slots mc ms ls C hr hl0 hR hv)
theorem pw_isub {x z : Int32} (hd : decode cc pc = .ok (.isub, 1)) (k : pm_W l E y cc nL ret d kc ks (pc + 1) lv (.int (x - z) :: st) S I J P Q) : pm_W l E y cc nL ret d kc ks pc lv (.int z :: .int x :: st) S I J P Q := by
  intro p e R s m args below meth c H locs cells slots mc ms ls C hr hl0 hR hv
  exact lv_isub C.1 C.2.1 hd (k p e R s m args below meth c H locs cells slots mc ms ls C hr hl0 hR hv)
theorem pw_imul {x z : Int32} (hd : decode cc pc = .ok (.imul, 1)) (k : pm_W l E y cc nL ret d kc ks (pc + 1) lv (.int (x * z) :: st) S I J P Q) : pm_W l E y cc nL ret d kc ks pc lv (.int z :: .int x :: st) S I J P Q := by
  intro p e R s m args below meth c H locs cells slots mc ms ls C hr hl0 hR hv
  exact lv_imul C.1 C.2.1 hd (k p e R s m args below meth c H locs cells slots mc ms ls C hr hl0 hR hv)
theorem pw_iand {x z : Int32} (hd : decode cc pc = .ok (.iand, 1)) (k : pm_W l E y cc nL ret d kc ks (pc + 1) lv (.int (x &&& z) :: st) S I J P Q) : pm_W l E y cc nL ret d kc ks pc lv (.int z :: .int x :: st) S I J P Q := by
  intro p e R s m args below meth c H locs cells slots mc ms ls C hr hl0 hR hv
  exact lv_iand C.1 C.2.1 hd (k p e R s m args below meth c H locs cells slots mc ms ls C hr hl0 hR hv)
theorem pw_ior {x z : Int32} (hd : decode cc pc = .ok (.ior, 1)) (k : pm_W l E y cc nL ret d kc ks (pc + 1) lv (.int (x ||| z) :: st) S I J P Q) : pm_W l E y cc nL ret d kc ks pc lv (.int z :: .int x :: st) S I J P Q := by
  intro p e R s m args below meth c H locs cells slots mc ms ls C hr hl0 hR hv
  exact lv_ior C.1 C.2.1 hd (k p e R s m args below meth c H locs cells slots mc ms ls C hr hl0 hR hv)
theorem pw_ixor {x z : Int32} (hd : decode cc pc = .ok (.ixor, 1)) (k : pm_W l E y cc nL ret d kc ks (pc + 1) lv (.int (x ^^^ z) :: st) S I J P Q) : pm_W l E y cc nL ret d kc ks pc lv (.int z :: .int x :: st) S I J P Q := by
  intro p e R s m args below meth c H locs cells slots mc ms ls C hr hl0 hR hv
  exact lv_ixor C.1 C.2.1 hd (k p e R s m args below meth c H locs cells slots mc ms ls C hr hl0 hR hv)
theorem pw_ladd {x z : Int64} (hd : decode cc pc = .ok (.ladd, 1)) (k : pm_W l E y cc nL ret d kc ks (pc + 1) lv (.long (x + z) :: st) S I J P Q) : pm_W l E y cc nL ret d kc ks pc lv (.long z :: .long x :: st) S I J P Q := by
  intro p e R s m args below meth c H locs cells slots mc ms ls C hr hl0 hR hv
  exact lv_ladd C.1 C.2.1 hd (k p e R s m args below meth c H locs cells slots mc ms ls C hr hl0 hR hv)
theorem pw_lsub {x z : Int64} (hd : decode cc pc = .ok (.lsub, 1)) (k : pm_W l E y cc nL ret d kc ks (pc + 1) lv (.long (x - z) :: st) S I J P Q) : pm_W l E y cc nL ret d kc ks pc lv (.long z :: .long x :: st) S I J P Q := by
  intro p e R s m args below meth c H locs cells slots mc ms ls C hr hl0 hR hv
  exact lv_lsub C.1 C.2.1 hd (k p e R s m args below meth c H locs cells slots mc ms ls C hr hl0 hR hv)
theorem pw_lmul {x z : Int64} (hd : decode cc pc = .ok (.lmul, 1)) (k : pm_W l E y cc nL ret d kc ks (pc + 1) lv (.long (x * z) :: st) S I J P Q) : pm_W l E y cc nL ret d kc ks pc lv (.long z :: .long x :: st) S I J P Q := by
  intro p e R s m args below meth c H locs cells slots mc ms ls C hr hl0 hR hv
  exact lv_lmul C.1 C.2.1 hd (k p e R s m args below meth c H locs cells slots mc ms ls C hr hl0 hR hv)
theorem pw_land {x z : Int64} (hd : decode cc pc = .ok (.land, 1)) (k : pm_W l E y cc nL ret d kc ks (pc + 1) lv (.long (x &&& z) :: st) S I J P Q) : pm_W l E y cc nL ret d kc ks pc lv (.long z :: .long x :: st) S I J P Q := by
  intro p e R s m args below meth c H locs cells slots mc ms ls C hr hl0 hR hv
  exact lv_land C.1 C.2.1 hd (k p e R s m args below meth c H locs cells slots mc ms ls C hr hl0 hR hv)
theorem pw_lor {x z : Int64} (hd : decode cc pc = .ok (.lor, 1)) (k : pm_W l E y cc nL ret d kc ks (pc + 1) lv (.long (x ||| z) :: st) S I J P Q) : pm_W l E y cc nL ret d kc ks pc lv (.long z :: .long x :: st) S I J P Q := by
  intro p e R s m args below meth c H locs cells slots mc ms ls C hr hl0 hR hv
  exact lv_lor C.1 C.2.1 hd (k p e R s m args below meth c H locs cells slots mc ms ls C hr hl0 hR hv)
theorem pw_lxor {x z : Int64} (hd : decode cc pc = .ok (.lxor, 1)) (k : pm_W l E y cc nL ret d kc ks (pc + 1) lv (.long (x ^^^ z) :: st) S I J P Q) : pm_W l E y cc nL ret d kc ks pc lv (.long z :: .long x :: st) S I J P Q := by
  intro p e R s m args below meth c H locs cells slots mc ms ls C hr hl0 hR hv
  exact lv_lxor C.1 C.2.1 hd (k p e R s m args below meth c H locs cells slots mc ms ls C hr hl0 hR hv)
theorem pw_iconst {n : Int} {v : Int32} (hd : decode cc pc = .ok (.iconst n, 1)) (hv0 : Int32.ofInt n = v) (k : pm_W l E y cc nL ret d kc ks (pc + 1) lv (.int v :: st) S I J P Q) : pm_W l E y cc nL ret d kc ks pc lv (st) S I J P Q := by
  intro p e R s m args below meth c H locs cells slots mc ms ls C hr hl0 hR hv
  exact lv_iconst C.1 C.2.1 hd hv0 (k p e R s m args below meth c H locs cells slots mc ms ls C hr hl0 hR hv)
theorem pw_bipush {n : Int} {v : Int32} (hd : decode cc pc = .ok (.bipush n, 2)) (hv0 : (Int8.ofInt n).toInt32 = v) (k : pm_W l E y cc nL ret d kc ks (pc + 2) lv (.int v :: st) S I J P Q) : pm_W l E y cc nL ret d kc ks pc lv (st) S I J P Q := by
  intro p e R s m args below meth c H locs cells slots mc ms ls C hr hl0 hR hv
  exact lv_bipush C.1 C.2.1 hd hv0 (k p e R s m args below meth c H locs cells slots mc ms ls C hr hl0 hR hv)
theorem pw_sipush {n : Int} {v : Int32} (hd : decode cc pc = .ok (.sipush n, 3)) (hv0 : (Int16.ofInt n).toInt32 = v) (k : pm_W l E y cc nL ret d kc ks (pc + 3) lv (.int v :: st) S I J P Q) : pm_W l E y cc nL ret d kc ks pc lv (st) S I J P Q := by
  intro p e R s m args below meth c H locs cells slots mc ms ls C hr hl0 hR hv
  exact lv_sipush C.1 C.2.1 hd hv0 (k p e R s m args below meth c H locs cells slots mc ms ls C hr hl0 hR hv)
theorem pw_lconst {n : Fin 2} {v : Int64} (hd : decode cc pc = .ok (.lconst n, 1)) (hv0 : Int64.ofNat (n : Nat) = v) (k : pm_W l E y cc nL ret d kc ks (pc + 1) lv (.long v :: st) S I J P Q) : pm_W l E y cc nL ret d kc ks pc lv (st) S I J P Q := by
  intro p e R s m args below meth c H locs cells slots mc ms ls C hr hl0 hR hv
  exact lv_lconst C.1 C.2.1 hd hv0 (k p e R s m args below meth c H locs cells slots mc ms ls C hr hl0 hR hv)
theorem pw_null  (hd : decode cc pc = .ok (.aconst_null, 1)) (k : pm_W l E y cc nL ret d kc ks (pc + 1) lv (.null :: st) S I J P Q) : pm_W l E y cc nL ret d kc ks pc lv (st) S I J P Q := by
  intro p e R s m args below meth c H locs cells slots mc ms ls C hr hl0 hR hv
  exact lv_null C.1 C.2.1 hd (k p e R s m args below meth c H locs cells slots mc ms ls C hr hl0 hR hv)
theorem pw_iload_n {j : Fin 4} {x : Int32} (hd : decode cc pc = .ok (.iload_n j, 1)) (hk : lv.lookup (j : Nat) = some (.int x)) (k : pm_W l E y cc nL ret d kc ks (pc + 1) lv (.int x :: st) S I J P Q) : pm_W l E y cc nL ret d kc ks pc lv (st) S I J P Q := by
  intro p e R s m args below meth c H locs cells slots mc ms ls C hr hl0 hR hv
  exact lv_iload_n C.1 C.2.1 hd rfl (pm_look hv hk) (k p e R s m args below meth c H locs cells slots mc ms ls C hr hl0 hR hv)
theorem pw_iload {j : Nat} {x : Int32} (hd : decode cc pc = .ok (.iload j, 2)) (hk : lv.lookup j = some (.int x)) (k : pm_W l E y cc nL ret d kc ks (pc + 2) lv (.int x :: st) S I J P Q) : pm_W l E y cc nL ret d kc ks pc lv (st) S I J P Q := by
  intro p e R s m args below meth c H locs cells slots mc ms ls C hr hl0 hR hv
  exact lv_iload C.1 C.2.1 hd (pm_look hv hk) (k p e R s m args below meth c H locs cells slots mc ms ls C hr hl0 hR hv)
theorem pw_lload_n {j : Fin 4} {x : Int64} (hd : decode cc pc = .ok (.lload_n j, 1)) (hk : lv.lookup (j : Nat) = some (.long x)) (k : pm_W l E y cc nL ret d kc ks (pc + 1) lv (.long x :: st) S I J P Q) : pm_W l E y cc nL ret d kc ks pc lv (st) S I J P Q := by
  intro p e R s m args below meth c H locs cells slots mc ms ls C hr hl0 hR hv
  exact lv_lload_n C.1 C.2.1 hd rfl (pm_look hv hk) (k p e R s m args below meth c H locs cells slots mc ms ls C hr hl0 hR hv)
theorem pw_lload {j : Nat} {x : Int64} (hd : decode cc pc = .ok (.lload j, 2)) (hk : lv.lookup j = some (.long x)) (k : pm_W l E y cc nL ret d kc ks (pc + 2) lv (.long x :: st) S I J P Q) : pm_W l E y cc nL ret d kc ks pc lv (st) S I J P Q := by
  intro p e R s m args below meth c H locs cells slots mc ms ls C hr hl0 hR hv
  exact lv_lload C.1 C.2.1 hd (pm_look hv hk) (k p e R s m args below meth c H locs cells slots mc ms ls C hr hl0 hR hv)
theorem pw_aload_n {j : Fin 4} {x : Nat} (hd : decode cc pc = .ok (.aload_n j, 1)) (hk : lv.lookup (j : Nat) = some (.ref x)) (k : pm_W l E y cc nL ret d kc ks (pc + 1) lv (.ref x :: st) S I J P Q) : pm_W l E y cc nL ret d kc ks pc lv (st) S I J P Q := by
  intro p e R s m args below meth c H locs cells slots mc ms ls C hr hl0 hR hv
  exact lv_aload_n C.1 C.2.1 hd rfl (pm_look hv hk) (k p e R s m args below meth c H locs cells slots mc ms ls C hr hl0 hR hv)
theorem pw_aload {j : Nat} {x : Nat} (hd : decode cc pc = .ok (.aload j, 2)) (hk : lv.lookup j = some (.ref x)) (k : pm_W l E y cc nL ret d kc ks (pc + 2) lv (.ref x :: st) S I J P Q) : pm_W l E y cc nL ret d kc ks pc lv (st) S I J P Q := by
  intro p e R s m args below meth c H locs cells slots mc ms ls C hr hl0 hR hv
  exact lv_aload C.1 C.2.1 hd (pm_look hv hk) (k p e R s m args below meth c H locs cells slots mc ms ls C hr hl0 hR hv)
theorem pw_aload_nN {j : Fin 4} (hd : decode cc pc = .ok (.aload_n j, 1)) (hk : lv.lookup (j : Nat) = some .null) (k : pm_W l E y cc nL ret d kc ks (pc + 1) lv (.null :: st) S I J P Q) : pm_W l E y cc nL ret d kc ks pc lv (st) S I J P Q := by
  intro p e R s m args below meth c H locs cells slots mc ms ls C hr hl0 hR hv
  exact lv_aload_nN C.1 C.2.1 hd rfl (pm_look hv hk) (k p e R s m args below meth c H locs cells slots mc ms ls C hr hl0 hR hv)
theorem pw_istore_n {j : Fin 4} {x : Int32} (hd : decode cc pc = .ok (.istore_n j, 1)) (hn : (j : Nat) < nL) {lv' : List (Nat × Value)} (he : pm_st1 j (.int x) lv = lv') (k : pm_W l E y cc nL ret d kc ks (pc + 1) lv' st S I J P Q) : pm_W l E y cc nL ret d kc ks pc lv (.int x :: st) S I J P Q := by
  intro p e R s m args below meth c H locs cells slots mc ms ls C hr hl0 hR hv
  subst he
  exact lv_istore_n C.1 C.2.1 hd rfl hv hn (pm_st1_map E.ad _ (.int x) lv) (fun ls' hv' => k p e R s m args below meth c H locs cells slots mc ms ls' C hr hl0 hR hv')
theorem pw_istore {j : Nat} {x : Int32} (hd : decode cc pc = .ok (.istore j, 2)) (hn : j < nL) {lv' : List (Nat × Value)} (he : pm_st1 j (.int x) lv = lv') (k : pm_W l E y cc nL ret d kc ks (pc + 2) lv' st S I J P Q) : pm_W l E y cc nL ret d kc ks pc lv (.int x :: st) S I J P Q := by
  intro p e R s m args below meth c H locs cells slots mc ms ls C hr hl0 hR hv
  subst he
  exact lv_istore C.1 C.2.1 hd hv hn (pm_st1_map E.ad _ (.int x) lv) (fun ls' hv' => k p e R s m args below meth c H locs cells slots mc ms ls' C hr hl0 hR hv')
theorem pw_astore_n {j : Fin 4} {x : Nat} (hd : decode cc pc = .ok (.astore_n j, 1)) (hn : (j : Nat) < nL) {lv' : List (Nat × Value)} (he : pm_st1 j (.ref x) lv = lv') (k : pm_W l E y cc nL ret d kc ks (pc + 1) lv' st S I J P Q) : pm_W l E y cc nL ret d kc ks pc lv (.ref x :: st) S I J P Q := by
  intro p e R s m args below meth c H locs cells slots mc ms ls C hr hl0 hR hv
  subst he
  exact lv_astore_n C.1 C.2.1 hd rfl hv hn (pm_st1_map E.ad _ (.ref x) lv) (fun ls' hv' => k p e R s m args below meth c H locs cells slots mc ms ls' C hr hl0 hR hv')
theorem pw_astore {j : Nat} {x : Nat} (hd : decode cc pc = .ok (.astore j, 2)) (hn : j < nL) {lv' : List (Nat × Value)} (he : pm_st1 j (.ref x) lv = lv') (k : pm_W l E y cc nL ret d kc ks (pc + 2) lv' st S I J P Q) : pm_W l E y cc nL ret d kc ks pc lv (.ref x :: st) S I J P Q := by
  intro p e R s m args below meth c H locs cells slots mc ms ls C hr hl0 hR hv
  subst he
  exact lv_astore C.1 C.2.1 hd hv hn (pm_st1_map E.ad _ (.ref x) lv) (fun ls' hv' => k p e R s m args below meth c H locs cells slots mc ms ls' C hr hl0 hR hv')
theorem pw_lstore_n {j : Fin 4} {x : Int64} (hd : decode cc pc = .ok (.lstore_n j, 1)) (hn : (j : Nat) + 1 < nL) {lv' : List (Nat × Value)} (he : pm_st2 j (.long x) lv = lv') (k : pm_W l E y cc nL ret d kc ks (pc + 1) lv' st S I J P Q) : pm_W l E y cc nL ret d kc ks pc lv (.long x :: st) S I J P Q := by
  intro p e R s m args below meth c H locs cells slots mc ms ls C hr hl0 hR hv
  subst he
  exact lv_lstore_n C.1 C.2.1 hd rfl hv hn (pm_st2_map E.ad _ (.long x) lv) (fun ls' hv' => k p e R s m args below meth c H locs cells slots mc ms ls' C hr hl0 hR hv')
theorem pw_lstore {j : Nat} {x : Int64} (hd : decode cc pc = .ok (.lstore j, 2)) (hn : j + 1 < nL) {lv' : List (Nat × Value)} (he : pm_st2 j (.long x) lv = lv') (k : pm_W l E y cc nL ret d kc ks (pc + 2) lv' st S I J P Q) : pm_W l E y cc nL ret d kc ks pc lv (.long x :: st) S I J P Q := by
  intro p e R s m args below meth c H locs cells slots mc ms ls C hr hl0 hR hv
  subst he
  exact lv_lstore C.1 C.2.1 hd hv hn (pm_st2_map E.ad _ (.long x) lv) (fun ls' hv' => k p e R s m args below meth c H locs cells slots mc ms ls' C hr hl0 hR hv')
theorem pw_astore_nN {j : Fin 4} (hd : decode cc pc = .ok (.astore_n j, 1)) (hn : (j : Nat) < nL) {lv' : List (Nat × Value)} (he : pm_st1 j (.null) lv = lv') (k : pm_W l E y cc nL ret d kc ks (pc + 1) lv' st S I J P Q) : pm_W l E y cc nL ret d kc ks pc lv (.null :: st) S I J P Q := by
  intro p e R s m args below meth c H locs cells slots mc ms ls C hr hl0 hR hv
  subst he
  exact lv_astore_nN C.1 C.2.1 hd rfl hv hn (pm_st1_map E.ad _ (.null) lv) (fun ls' hv' => k p e R s m args below meth c H locs cells slots mc ms ls' C hr hl0 hR hv')
theorem pw_ldiv {x z : Int64} (hd : decode cc pc = .ok (.ldiv, 1)) (hz : ¬ z = 0) (k : pm_W l E y cc nL ret d kc ks (pc + 1) lv (.long (x / z) :: st) S I J P Q) : pm_W l E y cc nL ret d kc ks pc lv (.long z :: .long x :: st) S I J P Q := by
  intro p e R s m args below meth c H locs cells slots mc ms ls C hr hl0 hR hv
  exact lv_ldiv C.1 C.2.1 hd hz (k p e R s m args below meth c H locs cells slots mc ms ls C hr hl0 hR hv)
theorem pw_lneg {x : Int64} (hd : decode cc pc = .ok (.lneg, 1)) (k : pm_W l E y cc nL ret d kc ks (pc + 1) lv (.long (-x) :: st) S I J P Q) : pm_W l E y cc nL ret d kc ks pc lv (.long x :: st) S I J P Q := by
  intro p e R s m args below meth c H locs cells slots mc ms ls C hr hl0 hR hv
  exact lv_lneg C.1 C.2.1 hd (k p e R s m args below meth c H locs cells slots mc ms ls C hr hl0 hR hv)
theorem pw_ineg {x : Int32} (hd : decode cc pc = .ok (.ineg, 1)) (k : pm_W l E y cc nL ret d kc ks (pc + 1) lv (.int (-x) :: st) S I J P Q) : pm_W l E y cc nL ret d kc ks pc lv (.int x :: st) S I J P Q := by
  intro p e R s m args below meth c H locs cells slots mc ms ls C hr hl0 hR hv
  exact lv_ineg C.1 C.2.1 hd (k p e R s m args below meth c H locs cells slots mc ms ls C hr hl0 hR hv)
theorem pw_i2l {x : Int32} (hd : decode cc pc = .ok (.i2l, 1)) (k : pm_W l E y cc nL ret d kc ks (pc + 1) lv (.long x.toInt64 :: st) S I J P Q) : pm_W l E y cc nL ret d kc ks pc lv (.int x :: st) S I J P Q := by
  intro p e R s m args below meth c H locs cells slots mc ms ls C hr hl0 hR hv
  exact lv_i2l C.1 C.2.1 hd rfl (k p e R s m args below meth c H locs cells slots mc ms ls C hr hl0 hR hv)
theorem pw_l2i {x : Int64} (hd : decode cc pc = .ok (.l2i, 1)) (k : pm_W l E y cc nL ret d kc ks (pc + 1) lv (.int x.toInt32 :: st) S I J P Q) : pm_W l E y cc nL ret d kc ks pc lv (.long x :: st) S I J P Q := by
  intro p e R s m args below meth c H locs cells slots mc ms ls C hr hl0 hR hv
  exact lv_l2i C.1 C.2.1 hd rfl (k p e R s m args below meth c H locs cells slots mc ms ls C hr hl0 hR hv)
theorem pw_i2b {x : Int32} (hd : decode cc pc = .ok (.i2b, 1)) (k : pm_W l E y cc nL ret d kc ks (pc + 1) lv (.int x.toInt8.toInt32 :: st) S I J P Q) : pm_W l E y cc nL ret d kc ks pc lv (.int x :: st) S I J P Q := by
  intro p e R s m args below meth c H locs cells slots mc ms ls C hr hl0 hR hv
  exact lv_i2b C.1 C.2.1 hd rfl (k p e R s m args below meth c H locs cells slots mc ms ls C hr hl0 hR hv)
theorem pw_i2c {x : Int32} (hd : decode cc pc = .ok (.i2c, 1)) (k : pm_W l E y cc nL ret d kc ks (pc + 1) lv (.int (x.toUInt32 % 65536).toInt32 :: st) S I J P Q) : pm_W l E y cc nL ret d kc ks pc lv (.int x :: st) S I J P Q := by
  intro p e R s m args below meth c H locs cells slots mc ms ls C hr hl0 hR hv
  exact lv_i2c C.1 C.2.1 hd rfl (k p e R s m args below meth c H locs cells slots mc ms ls C hr hl0 hR hv)
theorem pw_lushr {x : Int64} {z : Int32} (hd : decode cc pc = .ok (.lushr, 1)) (k : pm_W l E y cc nL ret d kc ks (pc + 1) lv (.long (x.toUInt64 >>> (z.toInt64.toUInt64 &&& Int64.toUInt64 63)).toInt64 :: st) S I J P Q) : pm_W l E y cc nL ret d kc ks pc lv (.int z :: .long x :: st) S I J P Q := by
  intro p e R s m args below meth c H locs cells slots mc ms ls C hr hl0 hR hv
  exact lv_lushr C.1 C.2.1 hd rfl (k p e R s m args below meth c H locs cells slots mc ms ls C hr hl0 hR hv)
theorem pw_lshl {x : Int64} {z : Int32} (hd : decode cc pc = .ok (.lshl, 1)) (k : pm_W l E y cc nL ret d kc ks (pc + 1) lv (.long (x <<< (z.toInt64 &&& 63)) :: st) S I J P Q) : pm_W l E y cc nL ret d kc ks pc lv (.int z :: .long x :: st) S I J P Q := by
  intro p e R s m args below meth c H locs cells slots mc ms ls C hr hl0 hR hv
  exact lv_lshl C.1 C.2.1 hd rfl (k p e R s m args below meth c H locs cells slots mc ms ls C hr hl0 hR hv)
theorem pw_lshr {x : Int64} {z : Int32} (hd : decode cc pc = .ok (.lshr, 1)) (k : pm_W l E y cc nL ret d kc ks (pc + 1) lv (.long (x >>> (z.toInt64 &&& 63)) :: st) S I J P Q) : pm_W l E y cc nL ret d kc ks pc lv (.int z :: .long x :: st) S I J P Q := by
  intro p e R s m args below meth c H locs cells slots mc ms ls C hr hl0 hR hv
  exact lv_lshr C.1 C.2.1 hd rfl (k p e R s m args below meth c H locs cells slots mc ms ls C hr hl0 hR hv)
theorem pw_lcmp {x z : Int64} (hd : decode cc pc = .ok (.lcmp, 1)) (k : pm_W l E y cc nL ret d kc ks (pc + 1) lv (.int (lg_cmp x z) :: st) S I J P Q) : pm_W l E y cc nL ret d kc ks pc lv (.long z :: .long x :: st) S I J P Q := by
  intro p e R s m args below meth c H locs cells slots mc ms ls C hr hl0 hR hv
  exact W.lcmp C.1 C.2.1 hd (k p e R s m args below meth c H locs cells slots mc ms ls C hr hl0 hR hv)
theorem pw_dup {v : Value} (hd : decode cc pc = .ok (.dup, 1)) (hc : v.category = 1) (k : pm_W l E y cc nL ret d kc ks (pc + 1) lv (v :: v :: st) S I J P Q) : pm_W l E y cc nL ret d kc ks pc lv (v :: st) S I J P Q := by
  intro p e R s m args below meth c H locs cells slots mc ms ls C hr hl0 hR hv
  exact lv_dup C.1 C.2.1 hd ((pm_v_cat _ _).trans hc) (k p e R s m args below meth c H locs cells slots mc ms ls C hr hl0 hR hv)
theorem pw_pop {v : Value} (hd : decode cc pc = .ok (.pop, 1)) (hc : v.category = 1) (k : pm_W l E y cc nL ret d kc ks (pc + 1) lv (st) S I J P Q) : pm_W l E y cc nL ret d kc ks pc lv (v :: st) S I J P Q := by
  intro p e R s m args below meth c H locs cells slots mc ms ls C hr hl0 hR hv
  exact lv_pop C.1 C.2.1 hd ((pm_v_cat _ _).trans hc) (k p e R s m args below meth c H locs cells slots mc ms ls C hr hl0 hR hv)
theorem pw_dup2 {v w : Value} (hd : decode cc pc = .ok (.dup2, 1)) (hc : v.category = 1) (hc2 : w.category = 1) (k : pm_W l E y cc nL ret d kc ks (pc + 1) lv (v :: w :: v :: w :: st) S I J P Q) : pm_W l E y cc nL ret d kc ks pc lv (v :: w :: st) S I J P Q := by
  intro p e R s m args below meth c H locs cells slots mc ms ls C hr hl0 hR hv
  exact lv_dup2_11 C.1 C.2.1 hd ((pm_v_cat _ _).trans hc) ((pm_v_cat _ _).trans hc2) (k p e R s m args below meth c H locs cells slots mc ms ls C hr hl0 hR hv)
theorem pw_dup_x1 {v w : Value} (hd : decode cc pc = .ok (.dup_x1, 1)) (hc : v.category = 1) (hc2 : w.category = 1) (k : pm_W l E y cc nL ret d kc ks (pc + 1) lv (v :: w :: v :: st) S I J P Q) : pm_W l E y cc nL ret d kc ks pc lv (v :: w :: st) S I J P Q := by
  intro p e R s m args below meth c H locs cells slots mc ms ls C hr hl0 hR hv
  exact lv_dup_x1 C.1 C.2.1 hd ((pm_v_cat _ _).trans hc) ((pm_v_cat _ _).trans hc2) (k p e R s m args below meth c H locs cells slots mc ms ls C hr hl0 hR hv)
theorem pw_iinc {j : Nat} {n : Int} {x : Int32} (hd : decode cc pc = .ok (.iinc j n, 3)) (hk : lv.lookup j = some (.int x)) (hn : j < nL) {lv' : List (Nat × Value)} (he : pm_st1 j (.int (x + Int32.ofInt n)) lv = lv') (k : pm_W l E y cc nL ret d kc ks (pc + 3) lv' st S I J P Q) : pm_W l E y cc nL ret d kc ks pc lv st S I J P Q := by
  intro p e R s m args below meth c H locs cells slots mc ms ls C hr hl0 hR hv
  subst he
  have hm : ((j, Value.int x) : Nat × Value) ∈ pm_lv E.ad lv := pm_look_mem hk
  obtain ⟨q, hq⟩ := List.getElem?_of_mem hm
  exact lv_iinc C.1 C.2.1 hd hv hq rfl hn (pm_st1_map E.ad _ (.int (x + Int32.ofInt n)) lv) (fun ls' hv' => k p e R s m args below meth c H locs cells slots mc ms ls' C hr hl0 hR hv')
theorem pw_if_eq {x : Int32} {off : Int} {tgt : Nat} (hd : decode cc pc = .ok (.ifCond .eq off, 3)) (ht : (pc : Int) + off = (tgt : Int)) (kt : x = 0 → pm_W l E y cc nL ret d kc ks tgt lv st S I J P Q) (kf : ¬ x = 0 → pm_W l E y cc nL ret d kc ks (pc + 3) lv st S I J P Q) : pm_W l E y cc nL ret d kc ks pc lv (.int x :: st) S I J P Q := by
  intro p e R s m args below meth c H locs cells slots mc ms ls C hr hl0 hR hv
  exact lv_if_eq C.1 C.2.1 hd ht (fun h => kt h p e R s m args below meth c H locs cells slots mc ms ls C hr hl0 hR hv) (fun h => kf h p e R s m args below meth c H locs cells slots mc ms ls C hr hl0 hR hv)
theorem pw_if_ne {x : Int32} {off : Int} {tgt : Nat} (hd : decode cc pc = .ok (.ifCond .ne off, 3)) (ht : (pc : Int) + off = (tgt : Int)) (kt : ¬ x = 0 → pm_W l E y cc nL ret d kc ks tgt lv st S I J P Q) (kf : x = 0 → pm_W l E y cc nL ret d kc ks (pc + 3) lv st S I J P Q) : pm_W l E y cc nL ret d kc ks pc lv (.int x :: st) S I J P Q := by
  intro p e R s m args below meth c H locs cells slots mc ms ls C hr hl0 hR hv
  exact lv_if_ne C.1 C.2.1 hd ht (fun h => kt h p e R s m args below meth c H locs cells slots mc ms ls C hr hl0 hR hv) (fun h => kf h p e R s m args below meth c H locs cells slots mc ms ls C hr hl0 hR hv)
theorem pw_if_lt {x : Int32} {off : Int} {tgt : Nat} (hd : decode cc pc = .ok (.ifCond .lt off, 3)) (ht : (pc : Int) + off = (tgt : Int)) (kt : x < 0 → pm_W l E y cc nL ret d kc ks tgt lv st S I J P Q) (kf : ¬ x < 0 → pm_W l E y cc nL ret d kc ks (pc + 3) lv st S I J P Q) : pm_W l E y cc nL ret d kc ks pc lv (.int x :: st) S I J P Q := by
  intro p e R s m args below meth c H locs cells slots mc ms ls C hr hl0 hR hv
  exact lv_if_lt C.1 C.2.1 hd ht (fun h => kt h p e R s m args below meth c H locs cells slots mc ms ls C hr hl0 hR hv) (fun h => kf h p e R s m args below meth c H locs cells slots mc ms ls C hr hl0 hR hv)
theorem pw_if_ge {x : Int32} {off : Int} {tgt : Nat} (hd : decode cc pc = .ok (.ifCond .ge off, 3)) (ht : (pc : Int) + off = (tgt : Int)) (kt : 0 ≤ x → pm_W l E y cc nL ret d kc ks tgt lv st S I J P Q) (kf : ¬ 0 ≤ x → pm_W l E y cc nL ret d kc ks (pc + 3) lv st S I J P Q) : pm_W l E y cc nL ret d kc ks pc lv (.int x :: st) S I J P Q := by
  intro p e R s m args below meth c H locs cells slots mc ms ls C hr hl0 hR hv
  exact lv_if_ge C.1 C.2.1 hd ht (fun h => kt h p e R s m args below meth c H locs cells slots mc ms ls C hr hl0 hR hv) (fun h => kf h p e R s m args below meth c H locs cells slots mc ms ls C hr hl0 hR hv)
theorem pw_if_gt {x : Int32} {off : Int} {tgt : Nat} (hd : decode cc pc = .ok (.ifCond .gt off, 3)) (ht : (pc : Int) + off = (tgt : Int)) (kt : 0 < x → pm_W l E y cc nL ret d kc ks tgt lv st S I J P Q) (kf : ¬ 0 < x → pm_W l E y cc nL ret d kc ks (pc + 3) lv st S I J P Q) : pm_W l E y cc nL ret d kc ks pc lv (.int x :: st) S I J P Q := by
  intro p e R s m args below meth c H locs cells slots mc ms ls C hr hl0 hR hv
  exact lv_if_gt C.1 C.2.1 hd ht (fun h => kt h p e R s m args below meth c H locs cells slots mc ms ls C hr hl0 hR hv) (fun h => kf h p e R s m args below meth c H locs cells slots mc ms ls C hr hl0 hR hv)
theorem pw_if_le {x : Int32} {off : Int} {tgt : Nat} (hd : decode cc pc = .ok (.ifCond .le off, 3)) (ht : (pc : Int) + off = (tgt : Int)) (kt : x ≤ 0 → pm_W l E y cc nL ret d kc ks tgt lv st S I J P Q) (kf : ¬ x ≤ 0 → pm_W l E y cc nL ret d kc ks (pc + 3) lv st S I J P Q) : pm_W l E y cc nL ret d kc ks pc lv (.int x :: st) S I J P Q := by
  intro p e R s m args below meth c H locs cells slots mc ms ls C hr hl0 hR hv
  exact lv_if_le C.1 C.2.1 hd ht (fun h => kt h p e R s m args below meth c H locs cells slots mc ms ls C hr hl0 hR hv) (fun h => kf h p e R s m args below meth c H locs cells slots mc ms ls C hr hl0 hR hv)
theorem pw_icmp_eq {x z : Int32} {off : Int} {tgt : Nat} (hd : decode cc pc = .ok (.if_icmp .eq off, 3)) (ht : (pc : Int) + off = (tgt : Int)) (kt : x = z → pm_W l E y cc nL ret d kc ks tgt lv st S I J P Q) (kf : ¬ x = z → pm_W l E y cc nL ret d kc ks (pc + 3) lv st S I J P Q) : pm_W l E y cc nL ret d kc ks pc lv (.int z :: .int x :: st) S I J P Q := by
  intro p e R s m args below meth c H locs cells slots mc ms ls C hr hl0 hR hv
  exact lv_icmp_eq C.1 C.2.1 hd ht (fun h => kt h p e R s m args below meth c H locs cells slots mc ms ls C hr hl0 hR hv) (fun h => kf h p e R s m args below meth c H locs cells slots mc ms ls C hr hl0 hR hv)
theorem pw_icmp_ne {x z : Int32} {off : Int} {tgt : Nat} (hd : decode cc pc = .ok (.if_icmp .ne off, 3)) (ht : (pc : Int) + off = (tgt : Int)) (kt : ¬ x = z → pm_W l E y cc nL ret d kc ks tgt lv st S I J P Q) (kf : x = z → pm_W l E y cc nL ret d kc ks (pc + 3) lv st S I J P Q) : pm_W l E y cc nL ret d kc ks pc lv (.int z :: .int x :: st) S I J P Q := by
  intro p e R s m args below meth c H locs cells slots mc ms ls C hr hl0 hR hv
  exact lv_icmp_ne C.1 C.2.1 hd ht (fun h => kt h p e R s m args below meth c H locs cells slots mc ms ls C hr hl0 hR hv) (fun h => kf h p e R s m args below meth c H locs cells slots mc ms ls C hr hl0 hR hv)
theorem pw_icmp_lt {x z : Int32} {off : Int} {tgt : Nat} (hd : decode cc pc = .ok (.if_icmp .lt off, 3)) (ht : (pc : Int) + off = (tgt : Int)) (kt : x < z → pm_W l E y cc nL ret d kc ks tgt lv st S I J P Q) (kf : ¬ x < z → pm_W l E y cc nL ret d kc ks (pc + 3) lv st S I J P Q) : pm_W l E y cc nL ret d kc ks pc lv (.int z :: .int x :: st) S I J P Q := by
  intro p e R s m args below meth c H locs cells slots mc ms ls C hr hl0 hR hv
  exact lv_icmp_lt C.1 C.2.1 hd ht (fun h => kt h p e R s m args below meth c H locs cells slots mc ms ls C hr hl0 hR hv) (fun h => kf h p e R s m args below meth c H locs cells slots mc ms ls C hr hl0 hR hv)
theorem pw_icmp_ge {x z : Int32} {off : Int} {tgt : Nat} (hd : decode cc pc = .ok (.if_icmp .ge off, 3)) (ht : (pc : Int) + off = (tgt : Int)) (kt : z ≤ x → pm_W l E y cc nL ret d kc ks tgt lv st S I J P Q) (kf : ¬ z ≤ x → pm_W l E y cc nL ret d kc ks (pc + 3) lv st S I J P Q) : pm_W l E y cc nL ret d kc ks pc lv (.int z :: .int x :: st) S I J P Q := by
  intro p e R s m args below meth c H locs cells slots mc ms ls C hr hl0 hR hv
  exact lv_icmp_ge C.1 C.2.1 hd ht (fun h => kt h p e R s m args below meth c H locs cells slots mc ms ls C hr hl0 hR hv) (fun h => kf h p e R s m args below meth c H locs cells slots mc ms ls C hr hl0 hR hv)
theorem pw_icmp_gt {x z : Int32} {off : Int} {tgt : Nat} (hd : decode cc pc = .ok (.if_icmp .gt off, 3)) (ht : (pc : Int) + off = (tgt : Int)) (kt : z < x → pm_W l E y cc nL ret d kc ks tgt lv st S I J P Q) (kf : ¬ z < x → pm_W l E y cc nL ret d kc ks (pc + 3) lv st S I J P Q) : pm_W l E y cc nL ret d kc ks pc lv (.int z :: .int x :: st) S I J P Q := by
  intro p e R s m args below meth c H locs cells slots mc ms ls C hr hl0 hR hv
  exact lv_icmp_gt C.1 C.2.1 hd ht (fun h => kt h p e R s m args below meth c H locs cells slots mc ms ls C hr hl0 hR hv) (fun h => kf h p e R s m args below meth c H locs cells slots mc ms ls C hr hl0 hR hv)
theorem pw_icmp_le {x z : Int32} {off : Int} {tgt : Nat} (hd : decode cc pc = .ok (.if_icmp .le off, 3)) (ht : (pc : Int) + off = (tgt : Int)) (kt : x ≤ z → pm_W l E y cc nL ret d kc ks tgt lv st S I J P Q) (kf : ¬ x ≤ z → pm_W l E y cc nL ret d kc ks (pc + 3) lv st S I J P Q) : pm_W l E y cc nL ret d kc ks pc lv (.int z :: .int x :: st) S I J P Q := by
  intro p e R s m args below meth c H locs cells slots mc ms ls C hr hl0 hR hv
  exact lv_icmp_le C.1 C.2.1 hd ht (fun h => kt h p e R s m args below meth c H locs cells slots mc ms ls C hr hl0 hR hv) (fun h => kf h p e R s m args below meth c H locs cells slots mc ms ls C hr hl0 hR hv)
theorem pw_goto {off : Int} {tgt : Nat} (hd : decode cc pc = .ok (.goto off, 3)) (ht : (pc : Int) + off = (tgt : Int)) (k : pm_W l E y cc nL ret d kc ks tgt lv st S I J P Q) : pm_W l E y cc nL ret d kc ks pc lv st S I J P Q := by
  intro p e R s m args below meth c H locs cells slots mc ms ls C hr hl0 hR hv
  exact lv_goto C.1 C.2.1 hd ht (k p e R s m args below meth c H locs cells slots mc ms ls C hr hl0 hR hv)
theorem pw_ifnonnull {x : Nat} {off : Int} {tgt : Nat} (hd : decode cc pc = .ok (.ifnonnull off, 3)) (ht : (pc : Int) + off = (tgt : Int)) (k : pm_W l E y cc nL ret d kc ks tgt lv st S I J P Q) : pm_W l E y cc nL ret d kc ks pc lv (.ref x :: st) S I J P Q := by
  intro p e R s m args below meth c H locs cells slots mc ms ls C hr hl0 hR hv
  exact lv_ifnonnull C.1 C.2.1 hd ht (k p e R s m args below meth c H locs cells slots mc ms ls C hr hl0 hR hv)
theorem pw_ifnonnullN {off : Int} (hd : decode cc pc = .ok (.ifnonnull off, 3)) (k : pm_W l E y cc nL ret d kc ks (pc + 3) lv st S I J P Q) : pm_W l E y cc nL ret d kc ks pc lv (.null :: st) S I J P Q := by
  intro p e R s m args below meth c H locs cells slots mc ms ls C hr hl0 hR hv
  exact lv_ifnonnullN C.1 C.2.1 hd (k p e R s m args below meth c H locs cells slots mc ms ls C hr hl0 hR hv)
theorem pw_ifnull {x : Nat} {off : Int} (hd : decode cc pc = .ok (.ifnull off, 3)) (k : pm_W l E y cc nL ret d kc ks (pc + 3) lv st S I J P Q) : pm_W l E y cc nL ret d kc ks pc lv (.ref x :: st) S I J P Q := by
  intro p e R s m args below meth c H locs cells slots mc ms ls C hr hl0 hR hv
  exact lv_ifnull C.1 C.2.1 hd (k p e R s m args below meth c H locs cells slots mc ms ls C hr hl0 hR hv)
theorem pw_ifnullN {off : Int} {tgt : Nat} (hd : decode cc pc = .ok (.ifnull off, 3)) (ht : (pc : Int) + off = (tgt : Int)) (k : pm_W l E y cc nL ret d kc ks tgt lv st S I J P Q) : pm_W l E y cc nL ret d kc ks pc lv (.null :: st) S I J P Q := by
  intro p e R s m args below meth c H locs cells slots mc ms ls C hr hl0 hR hv
  exact lv_ifnullN C.1 C.2.1 hd ht (k p e R s m args below meth c H locs cells slots mc ms ls C hr hl0 hR hv)
theorem pw_lookup {dflt : Int} {ps : Array (Int × Int)} {len : Nat} {x : Int32} {off : Int} {tgt : Nat} (hd : decode cc pc = .ok (.lookupswitch dflt ps, len)) (hp : (ps.toList.zip (ps.toList.drop 1)).all (fun (a, next) => a.1 < next.1) = true) (ho : Op.lookupswitch.offset ps.toList dflt x.toInt = off) (ht : (pc : Int) + off = (tgt : Int)) (k : pm_W l E y cc nL ret d kc ks tgt lv st S I J P Q) : pm_W l E y cc nL ret d kc ks pc lv (.int x :: st) S I J P Q := by
  intro p e R s m args below meth c H locs cells slots mc ms ls C hr hl0 hR hv
  exact lv_lookup C.1 C.2.1 hd hp ho ht (k p e R s m args below meth c H locs cells slots mc ms ls C hr hl0 hR hv)
theorem pw_tableOut {dflt lo hi : Int} {offs : Array Int} {len : Nat} {x : Int32} {tgt : Nat} (hd : decode cc pc = .ok (.tableswitch dflt lo hi offs, len)) (h : x.toInt < lo ∨ hi < x.toInt) (ht : (pc : Int) + dflt = (tgt : Int)) (k : pm_W l E y cc nL ret d kc ks tgt lv st S I J P Q) : pm_W l E y cc nL ret d kc ks pc lv (.int x :: st) S I J P Q := by
  intro p e R s m args below meth c H locs cells slots mc ms ls C hr hl0 hR hv
  exact lv_tableOut C.1 C.2.1 hd h ht (k p e R s m args below meth c H locs cells slots mc ms ls C hr hl0 hR hv)
theorem pw_tableIn {dflt lo hi : Int} {offs : Array Int} {len : Nat} {x : Int32} {off : Int} {tgt : Nat} (hd : decode cc pc = .ok (.tableswitch dflt lo hi offs, len)) (h1 : ¬ x.toInt < lo) (h2 : ¬ hi < x.toInt) (ho : offs[(x.toInt - lo).toNat]? = some off) (ht : (pc : Int) + off = (tgt : Int)) (k : pm_W l E y cc nL ret d kc ks tgt lv st S I J P Q) : pm_W l E y cc nL ret d kc ks pc lv (.int x :: st) S I J P Q := by
  intro p e R s m args below meth c H locs cells slots mc ms ls C hr hl0 hR hv
  exact lv_tableIn C.1 C.2.1 hd h1 h2 ho ht (k p e R s m args below meth c H locs cells slots mc ms ls C hr hl0 hR hv)
theorem pm_R.obj {E : pmE} {S : pmS} {I : pmI} {J : pmJ} {P : pmP} {H : Heap} (h : pm_R E S I J P H) {a ci : Nat} (ha : a < S.1) (hs : (S.2 a).1 = ci) (hci : ci < 100) {r : vw_C} (hr : vwCl[ci]? = some r) : t_OB (E.ad a) (E.D.1 ci) r.2.2 (E.D.2 ci) H (pm_val E.ad ci I J P a) := by
  have h1 := h.2.2.1 a ha
  unfold pm_at at h1
  rw [hs, if_pos hci] at h1
  obtain ⟨r', h2, h3⟩ := h1
  cases h2.symm.trans hr
  exact h3
theorem pm_R.arr {E : pmE} {S : pmS} {I : pmI} {J : pmJ} {P : pmP} {H : Heap} (h : pm_R E S I J P H) {a t n : Nat} (ha : a < S.1) (hs : S.2 a = (t, n)) (h1 : 100 ≤ t) (h2 : t < 200) : H[E.ad a]? = some (arrV (E.cA t) n (pm_val E.ad t I J P a)) := by
  have h3 := h.2.2.1 a ha
  unfold pm_at at h3
  rw [hs, if_neg (show ¬ t < 100 by omega), if_pos h2] at h3
  exact h3
theorem pm_at.kept {E : pmE} {S : pmS} {I I' : pmI} {J J' : pmJ} {P P' : pmP} {H H' : Heap} {b : Nat} (h : pm_at E S I J P b H) (hq : H'[E.ad b]? = H[E.ad b]?) (hv : ∀ t j, pm_val E.ad t I' J' P' b j = pm_val E.ad t I J P b j) : pm_at E S I' J' P' b H' := by
  have e : ∀ t, pm_val E.ad t I' J' P' b = pm_val E.ad t I J P b := fun t => funext (hv t)
  unfold pm_at at h ⊢
  rw [e, hq]
  by_cases h1 : (S.2 b).1 < 100
  · rw [if_pos h1] at h ⊢
    obtain ⟨r, hr, h2⟩ := h
    exact ⟨r, hr, h2.kept hq⟩
  · rw [if_neg h1] at h ⊢
    exact h
theorem pm_R.set {E : pmE} {S : pmS} {I I' : pmI} {J J' : pmJ} {P P' : pmP} {H H' : Heap} (hA : pm_A E) (hR : pm_R E S I J P H) {a : Nat} (ha : 2 ≤ a) (hl : a < S.1) (hz : H'.size = H.size) (ho : ∀ q, q ≠ E.ad a → H'[q]? = H[q]?) (hat : pm_at E S I' J' P' a H') (hI : ∀ b, b ≠ a → I' b = I b) (hJ : ∀ b, b ≠ a → J' b = J b) (hP : ∀ b, b ≠ a → P' b = P b) : pm_R E S I' J' P' H' := by
  refine ⟨by rw [hz]; exact hR.1, hR.2.1, fun b hb => ?_, fun b hb k => ?_, fun q hq => ?_⟩
  · by_cases hba : b = a
    · subst hba; exact hat
    · exact (hR.2.2.1 b hb).kept (ho _ fun h => hba (hA.inj ha h)) (fun t j => by unfold pm_val; rw [hI b hba, hJ b hba, hP b hba])
  · have hba : b ≠ a := by omega
    rw [hI b hba, hJ b hba, hP b hba]
    exact hR.2.2.2.1 b hb k
  · have hge := hA.ge ha
    rw [ho q (by omega)]
    exact hR.2.2.2.2 q hq
theorem pm_R.push {E : pmE} {S : pmS} {I : pmI} {J : pmJ} {P : pmP} {H H' : Heap} (hA : pm_A E) (hR : pm_R E S I J P H) {t n : Nat} (hz : H'.size = H.size + 1) (ho : ∀ q, q < H.size → H'[q]? = H[q]?) (hat : pm_at E (S.1 + 1, va_up S.2 S.1 (t, n)) I J P S.1 H') : pm_R E (S.1 + 1, va_up S.2 S.1 (t, n)) I J P H' := by
  refine ⟨?_, ?_, fun b hb => ?_, fun b hb k => hR.2.2.2.1 b (by have h : S.1 + 1 ≤ b := hb; omega) k, fun q hq => ?_⟩
  · show H'.size + 2 = E.B0 + (S.1 + 1)
    have h1 := hR.1
    omega
  · show 2 ≤ S.1 + 1
    have h1 := hR.2.1
    omega
  · have hb' : b < S.1 + 1 := hb
    by_cases hbn : b = S.1
    · subst hbn; exact hat
    · have hlt : b < S.1 := by omega
      have h1 := (hR.2.2.1 b hlt).kept (H' := H') (ho _ (hA.lt hR hlt)) (fun _ _ => rfl)
      unfold pm_at at h1 ⊢
      have e : ((S.1 + 1, va_up S.2 S.1 (t, n)) : pmS).2 b = S.2 b := if_neg hbn
      rw [e]
      exact h1
  · have h1 := hR.1
    have h2 := hR.2.1
    rw [ho q (by omega)]
    exact hR.2.2.2.2 q hq
/-- a field, as an instruction of class own names it: class ci of vwCl, its place k, final or not, its type -/
def pm_FL (own : String) (idx ci k : Nat) (fin : Bool) (t : FieldType) : Prop :=
  ∃ (C : String) (T : u_T) (N : Nat) (ty : Nat → FieldType), vwCl[ci]? = some (C, T, N) ∧ ci < 100 ∧ k < N ∧ (∀ w ∈ u_ws C T N, w ∈ pm_tbl) ∧ (∀ j, j < N → parseFieldDescriptor (T j).2.2.1 = some (ty j)) ∧ (∀ a, a < N → ∀ b, b < N → a ≠ b → (T a).2.1 ≠ (T b).2.1) ∧ Cond.fieldLink own idx (T k).1 (T k).2.1 (T k).2.2.1 ∈ pm_tbl ∧ (T k).2.2.2 = fin ∧ ty k = t ∧ (T k).1 = C
theorem pw_getV {a idx ci k : Nat} {fin : Bool} {t : FieldType} {v : Value} (hF : pm_FL y.cls idx ci k fin t) (hd : decode cc pc = .ok (.getfield idx, 3)) (ha : a < S.1) (hs : (S.2 a).1 = ci) (hval : ∀ ad, pm_val ad ci I J P a k = pm_v ad v)
    (kk : pm_W l E y cc nL ret d kc ks (pc + 3) lv (v :: st) S I J P Q) : pm_W l E y cc nL ret d kc ks pc lv (.ref a :: st) S I J P Q := by
  intro p e R s m args below meth c H locs cells slots mc ms ls C hr hl0 hR hv
  obtain ⟨hx, hb, hml, hret, hlk, hown, hts, hK, hnm⟩ := id C
  obtain ⟨Cn, T, N, ty, hc, hci, hk, hin, hty, hne, hlink, hfin, htk, hdecl⟩ := hF
  obtain ⟨cell, q1, q2, q3, q4⟩ := hR.obj ha hs hci hc
  obtain ⟨hS, hfc, kC, hkC, hkind⟩ := hK.1.1 ci _ hc
  obtain ⟨cf, kf, fi, f, hi, hsl⟩ := hS k hk
  refine W.getf (v := pm_v E.ad v) hx hb hown (hts _ hlink) hi (u_facts hfc hkC (u_lays hts hin hk) hi).1 q1 (by rw [q3]; exact fun h => by cases h) ?_ rfl rfl hd (kk p e R s m args below meth c H locs cells slots mc ms ls C hr hl0 hR hv)
  rw [hsl, q4 k hk, hval]
theorem pw_getI {a idx ci k : Nat} {fin : Bool} {t : FieldType} (hF : pm_FL y.cls idx ci k fin t) (hd : decode cc pc = .ok (.getfield idx, 3)) (ha : a < S.1) (hs : (S.2 a).1 = ci) (hk : pm_fk ci k = 0)
    (kk : pm_W l E y cc nL ret d kc ks (pc + 3) lv (.int (I a k) :: st) S I J P Q) : pm_W l E y cc nL ret d kc ks pc lv (.ref a :: st) S I J P Q :=
  pw_getV hF hd ha hs (fun ad => by unfold pm_val; rw [if_pos hk]; rfl) kk
theorem pw_getJ {a idx ci k : Nat} {fin : Bool} {t : FieldType} (hF : pm_FL y.cls idx ci k fin t) (hd : decode cc pc = .ok (.getfield idx, 3)) (ha : a < S.1) (hs : (S.2 a).1 = ci) (hk : pm_fk ci k = 1)
    (kk : pm_W l E y cc nL ret d kc ks (pc + 3) lv (.long (J a k) :: st) S I J P Q) : pm_W l E y cc nL ret d kc ks pc lv (.ref a :: st) S I J P Q :=
  pw_getV hF hd ha hs (fun ad => by unfold pm_val; rw [if_neg (by omega), if_pos hk]; rfl) kk
theorem pw_getP {a idx ci k : Nat} {fin : Bool} {t : FieldType} {r : Option Nat} (hF : pm_FL y.cls idx ci k fin t) (hd : decode cc pc = .ok (.getfield idx, 3)) (ha : a < S.1) (hs : (S.2 a).1 = ci) (hk : pm_fk ci k = 2) (hp : P a k = r)
    (kk : pm_W l E y cc nL ret d kc ks (pc + 3) lv (va_rf r :: st) S I J P Q) : pm_W l E y cc nL ret d kc ks pc lv (.ref a :: st) S I J P Q :=
  pw_getV hF hd ha hs (fun ad => by unfold pm_val; rw [if_neg (by omega), if_neg (by omega), hp, pm_v_rf]) kk
theorem pw_getR {a b idx ci k : Nat} {fin : Bool} {t : FieldType} (hF : pm_FL y.cls idx ci k fin t) (hd : decode cc pc = .ok (.getfield idx, 3)) (ha : a < S.1) (hs : (S.2 a).1 = ci) (hk : pm_fk ci k = 2) (hp : P a k = some b)
    (kk : pm_W l E y cc nL ret d kc ks (pc + 3) lv (.ref b :: st) S I J P Q) : pm_W l E y cc nL ret d kc ks pc lv (.ref a :: st) S I J P Q :=
  pw_getP hF hd ha hs hk hp kk
theorem pw_putV {a idx ci k : Nat} {fin : Bool} {t : FieldType} {v : Value} {I' : pmI} {J' : pmJ} {P' : pmP} (hF : pm_FL y.cls idx ci k fin t) (hd : decode cc pc = .ok (.putfield idx, 3)) (hf : fin = false ∨ (y.name = "<init>" ∧ ∃ r, vwCl[ci]? = some r ∧ r.1 = y.cls)) (ha2 : 2 ≤ a) (ha : a < S.1) (hs : (S.2 a).1 = ci) (hn : ∀ ad, narrow t (pm_v ad v) = pm_v ad v) (hfit : ∀ ad, fits t (pm_v ad v) = true)
    (hval : ∀ ad j, updV (pm_val ad ci I J P a) k (pm_v ad v) j = pm_val ad ci I' J' P' a j) (hI : ∀ b, b ≠ a → I' b = I b) (hJ : ∀ b, b ≠ a → J' b = J b) (hP : ∀ b, b ≠ a → P' b = P b)
    (kk : pm_W l E y cc nL ret d kc ks (pc + 3) lv st S I' J' P' Q) : pm_W l E y cc nL ret d kc ks pc lv (v :: .ref a :: st) S I J P Q := by
  intro p e R s m args below meth c H locs cells slots mc ms ls C hr hl0 hR hv
  obtain ⟨hx, hb, hml, hret, hlk, hown, hts, hK, hnm⟩ := id C
  obtain ⟨Cn, T, N, ty, hc, hci, hk, hin, hty, hne, hlink, hfin, htk, hdecl⟩ := hF
  obtain ⟨cell, q1, q2, q3, q4⟩ := hR.obj ha hs hci hc
  have hap := va_apart (own := y.cls) hts hin ty hty hne hK.1 hc
  obtain ⟨hS, hfc, kC, hkC, hkind⟩ := hK.1.1 ci _ hc
  obtain ⟨cf, kf, fi, f, hi, hsl⟩ := hS k hk
  have hlay := hts _ (hin _ (u_in_lay hk))
  have hst := (u_facts hfc hkC (u_lays hts hin hk) hi).1
  have hd0 : parseFieldDescriptor (T k).2.2.1 = some t := by rw [hty k hk, htk]
  have hend : ∀ H' : Heap, H'[E.ad a]? = some (cell.setSlot f.slot (pm_v E.ad v)) → H'.size = H.size → (∀ q, q ≠ E.ad a → H'[q]? = H[q]?) → W p l e R s m args below meth c H' (locs ++ [⟨E.ad a, f.slot⟩]) cells slots (Q below args s c mc ms) (F0 m (pc + 3) ls (st.map (pm_v E.ad))) := by
    intro H' e1 e2 e3
    rw [hsl] at e1
    refine kk p e R s m args below meth c H' _ cells slots mc ms ls C hr (fun q hq => ?_) (hR.set hK.2.2.2.2.1 ha2 ha e2 e3 ?_ hI hJ hP) hv
    · rcases List.mem_append.mp hq with h | h
      · exact hl0 q h
      · cases List.mem_singleton.mp h
        exact hK.2.2.2.2.1.ge ha2
    · unfold pm_at
      rw [hs, if_pos hci]
      exact ⟨_, hc, t_OB.to (V := updV (pm_val E.ad ci I J P a) k (pm_v E.ad v)) ⟨_, e1, q2, q3, t_set q4 hap hk (pm_v E.ad v)⟩ (fun j _ => hval E.ad j)⟩
  cases hfin' : (T k).2.2.2 with
  | false =>
    unfold u_lay at hlay
    rw [if_neg (by rw [hfin']; decide)] at hlay
    have h6 := u_store hfc hkC hkind hlay hi hd0 (hn E.ad) (hfit E.ad)
    exact W.putK hx hb (f := f) ⟨hown, hts _ hlink, ⟨_, _, _, hi⟩, hst⟩ (by rw [q2]; exact h6) q1 q3 (by rw [hsl]; exact k2_hasslot (q4 k hk)) rfl rfl hd hend
  | true =>
    unfold u_lay at hlay
    rw [if_pos hfin'] at hlay
    obtain ⟨hin2, r, hr1, hr2⟩ := hf.resolve_left (by rw [← hfin, hfin']; decide)
    cases hr1.symm.trans hc
    have hcf : m.cls = cf := by
      obtain ⟨_, _, c', _, _, _, -, -, hf', -, -, -, hown2, -⟩ := Cond.laysFinal_spec hlay
      have e1 : c' = cf := by have := hi.symm.trans hf'; simp at this; exact this.1.symm
      rw [hdecl] at hown2
      have hr2' : Cn = y.cls := hr2
      rw [hr2'] at hown2
      rw [← e1]; exact Option.some.inj (hown.symm.trans hown2)
    have h6 := u_fits hfc hkC hkind (Or.inr hlay) hi hd0 (hn E.ad) (hfit E.ad)
    exact W.putFinK hx hb hown (hts _ hlink) hi hst hcf (hnm.trans hin2) (by rw [q2]; exact h6) q1 q3 (by rw [hsl]; exact k2_hasslot (q4 k hk)) rfl rfl hd hend
theorem pm_valI {ad : Nat → Nat} {t : Nat} {I : pmI} {J : pmJ} {P : pmP} {a k : Nat} {x : Int32} (hk : pm_fk t k = 0) (j : Nat) : updV (pm_val ad t I J P a) k (.int x) j = pm_val ad t (pm_u I a k x) J P a j := by
  unfold updV pm_val
  rw [pm_u_eq]
  by_cases h : j = k
  · subst h; rw [if_pos rfl, if_pos hk, pm_up_eq]
  · rw [if_neg h, pm_up_ne h]
theorem pm_valJ {ad : Nat → Nat} {t : Nat} {I : pmI} {J : pmJ} {P : pmP} {a k : Nat} {x : Int64} (hk : pm_fk t k = 1) (j : Nat) : updV (pm_val ad t I J P a) k (.long x) j = pm_val ad t I (pm_u J a k x) P a j := by
  unfold updV pm_val
  rw [pm_u_eq]
  by_cases h : j = k
  · subst h; rw [if_pos rfl, if_neg (by omega), if_pos hk, pm_up_eq]
  · rw [if_neg h, pm_up_ne h]
theorem pm_valP {ad : Nat → Nat} {t : Nat} {I : pmI} {J : pmJ} {P : pmP} {a k : Nat} {x : Option Nat} (hk : pm_fk t k = 2) (j : Nat) : updV (pm_val ad t I J P a) k (va_rf (x.map ad)) j = pm_val ad t I J (pm_u P a k x) a j := by
  unfold updV pm_val
  rw [pm_u_eq]
  by_cases h : j = k
  · subst h; rw [if_pos rfl, if_neg (by omega), if_neg (by omega), pm_up_eq]
  · rw [if_neg h, pm_up_ne h]
theorem pw_putI {a idx ci k : Nat} {fin : Bool} {x : Int32} (hF : pm_FL y.cls idx ci k fin .int) (hd : decode cc pc = .ok (.putfield idx, 3)) (hf : fin = false ∨ (y.name = "<init>" ∧ ∃ r, vwCl[ci]? = some r ∧ r.1 = y.cls)) (ha2 : 2 ≤ a) (ha : a < S.1) (hs : (S.2 a).1 = ci) (hk : pm_fk ci k = 0)
    (kk : pm_W l E y cc nL ret d kc ks (pc + 3) lv st S (pm_u I a k x) J P Q) : pm_W l E y cc nL ret d kc ks pc lv (.int x :: .ref a :: st) S I J P Q :=
  pw_putV hF hd hf ha2 ha hs (fun _ => rfl) (fun _ => rfl) (fun _ j => pm_valI hk j) (fun _ h => pm_u_ne h) (fun _ _ => rfl) (fun _ _ => rfl) kk
theorem pw_putZ {a idx ci k : Nat} {fin : Bool} {x : Int32} (hF : pm_FL y.cls idx ci k fin .boolean) (hd : decode cc pc = .ok (.putfield idx, 3)) (hf : fin = false ∨ (y.name = "<init>" ∧ ∃ r, vwCl[ci]? = some r ∧ r.1 = y.cls)) (hz : x = 0 ∨ x = 1) (ha2 : 2 ≤ a) (ha : a < S.1) (hs : (S.2 a).1 = ci) (hk : pm_fk ci k = 0)
    (kk : pm_W l E y cc nL ret d kc ks (pc + 3) lv st S (pm_u I a k x) J P Q) : pm_W l E y cc nL ret d kc ks pc lv (.int x :: .ref a :: st) S I J P Q :=
  pw_putV hF hd hf ha2 ha hs (fun _ => by rcases hz with rfl | rfl <;> rfl) (fun _ => by rcases hz with rfl | rfl <;> rfl) (fun _ j => pm_valI hk j) (fun _ h => pm_u_ne h) (fun _ _ => rfl) (fun _ _ => rfl) kk
theorem pw_putJ {a idx ci k : Nat} {fin : Bool} {x : Int64} (hF : pm_FL y.cls idx ci k fin .long) (hd : decode cc pc = .ok (.putfield idx, 3)) (hf : fin = false ∨ (y.name = "<init>" ∧ ∃ r, vwCl[ci]? = some r ∧ r.1 = y.cls)) (ha2 : 2 ≤ a) (ha : a < S.1) (hs : (S.2 a).1 = ci) (hk : pm_fk ci k = 1)
    (kk : pm_W l E y cc nL ret d kc ks (pc + 3) lv st S I (pm_u J a k x) P Q) : pm_W l E y cc nL ret d kc ks pc lv (.long x :: .ref a :: st) S I J P Q :=
  pw_putV hF hd hf ha2 ha hs (fun _ => rfl) (fun _ => rfl) (fun _ j => pm_valJ hk j) (fun _ _ => rfl) (fun _ h => pm_u_ne h) (fun _ _ => rfl) kk
theorem pw_putP {a b idx ci k : Nat} {fin : Bool} {t : FieldType} (hF : pm_FL y.cls idx ci k fin t) (hd : decode cc pc = .ok (.putfield idx, 3)) (ht : t.isReference = true) (hf : fin = false ∨ (y.name = "<init>" ∧ ∃ r, vwCl[ci]? = some r ∧ r.1 = y.cls)) (ha2 : 2 ≤ a) (ha : a < S.1) (hs : (S.2 a).1 = ci) (hk : pm_fk ci k = 2)
    (kk : pm_W l E y cc nL ret d kc ks (pc + 3) lv st S I J (pm_u P a k (some b)) Q) : pm_W l E y cc nL ret d kc ks pc lv (.ref b :: .ref a :: st) S I J P Q :=
  pw_putV hF hd hf ha2 ha hs (fun _ => by cases t <;> first | rfl | cases ht) (fun _ => by cases t <;> first | rfl | cases ht) (fun ad j => pm_valP (x := some b) hk j) (fun _ _ => rfl) (fun _ _ => rfl) (fun _ h => pm_u_ne h) kk
theorem pw_iret {Q : Option Value → pmS → pmI → pmJ → pmP → Prop} {x : Int32} (hd : decode cc pc = .ok (.ireturn, 1)) (hrt : ret = some .int) (k : Q (some (.int x)) S I J P) : pm_W l E y cc nL ret d kc ks pc lv [.int x] S I J P (pm_N E Q) := by
  intro p e R s m args below meth c H locs cells slots mc ms ls C hr hl0 hR hv
  obtain ⟨hx, hb, hml, hret, hlk, hown, hts, hK, hnm⟩ := id C
  subst hrt
  refine W.widen (k := mc) (n := ms) (by omega) (by omega) ?_
  exact W.iret hx hb hret (fun t ht hW => ⟨some (.int x), S, I, J, P, rfl, k, by rw [ht]; exact hR⟩) hl0 hd
theorem pw_zret {Q : Option Value → pmS → pmI → pmJ → pmP → Prop} {x : Int32} (hd : decode cc pc = .ok (.ireturn, 1)) (hrt : ret = some .boolean) (hz : x = 0 ∨ x = 1) (k : Q (some (.int x)) S I J P) : pm_W l E y cc nL ret d kc ks pc lv [.int x] S I J P (pm_N E Q) := by
  intro p e R s m args below meth c H locs cells slots mc ms ls C hr hl0 hR hv
  obtain ⟨hx, hb, hml, hret, hlk, hown, hts, hK, hnm⟩ := id C
  subst hrt
  refine W.widen (k := mc) (n := ms) (by omega) (by omega) ?_
  exact W.zret hx hb hret (by rcases hz with rfl | rfl <;> rfl) (fun t ht hW => ⟨some (.int x), S, I, J, P, rfl, k, by rw [ht]; exact hR⟩) hl0 hd
theorem pw_lret {Q : Option Value → pmS → pmI → pmJ → pmP → Prop} {x : Int64} (hd : decode cc pc = .ok (.lreturn, 1)) (hrt : ret = some .long) (k : Q (some (.long x)) S I J P) : pm_W l E y cc nL ret d kc ks pc lv [.long x] S I J P (pm_N E Q) := by
  intro p e R s m args below meth c H locs cells slots mc ms ls C hr hl0 hR hv
  obtain ⟨hx, hb, hml, hret, hlk, hown, hts, hK, hnm⟩ := id C
  subst hrt
  refine W.widen (k := mc) (n := ms) (by omega) (by omega) ?_
  exact W.lret hx hb hret (fun t ht hW => ⟨some (.long x), S, I, J, P, rfl, k, by rw [ht]; exact hR⟩) hl0 hd
theorem pw_vret {Q : Option Value → pmS → pmI → pmJ → pmP → Prop} (hd : decode cc pc = .ok (.return_, 1)) (hrt : ret = none) (k : Q none S I J P) : pm_W l E y cc nL ret d kc ks pc lv [] S I J P (pm_N E Q) := by
  intro p e R s m args below meth c H locs cells slots mc ms ls C hr hl0 hR hv
  obtain ⟨hx, hb, hml, hret, hlk, hown, hts, hK, hnm⟩ := id C
  subst hrt
  refine W.widen (k := mc) (n := ms) (by omega) (by omega) ?_
  exact W.vret hx hb hret (fun t ht hW => ⟨none, S, I, J, P, rfl, k, by rw [ht]; exact hR⟩) hl0 hd
theorem pw_aret {Q : Option Value → pmS → pmI → pmJ → pmP → Prop} {r : Option Nat} {rt : FieldType} (hd : decode cc pc = .ok (.areturn, 1)) (hrt : ret = some rt) (hrt2 : (∃ n, rt = .object n) ∨ ∃ t, rt = .array t) (k : Q (some (va_rf r)) S I J P) : pm_W l E y cc nL ret d kc ks pc lv [va_rf r] S I J P (pm_N E Q) := by
  intro p e R s m args below meth c H locs cells slots mc ms ls C hr hl0 hR hv
  obtain ⟨hx, hb, hml, hret, hlk, hown, hts, hK, hnm⟩ := id C
  subst hrt
  refine W.widen (k := mc) (n := ms) (by omega) (by omega) ?_
  refine W.eq (g2 := F0 m pc ls [pm_v E.ad (va_rf r)]) rfl ?_
  exact W.aret hx hb hret hrt2 (by cases r with | none => exact Or.inl rfl | some a => exact Or.inr ⟨_, rfl⟩) (fun t ht hW => ⟨some (va_rf r), S, I, J, P, rfl, k, by rw [ht]; exact hR⟩) hl0 hd
/-! arrays -/
theorem pm_tyAt {E : pmE} {s : State} (hK : pm_K E s) {t : Nat} {ty : FieldType} (q0 : Nat) (h : (pm_tys E)[q0]? = some (E.cA t, ty)) : ArrOfT s (E.cA t) ty ∧ va_RA s (E.cA t) ty := hK.1.2 q0 _ h
theorem pw_alen {a t n : Nat} (hd : decode cc pc = .ok (.arraylength, 1)) (ha : a < S.1) (hs : S.2 a = (t, n)) (h1 : 100 ≤ t) (h2 : t < 106)
    (kk : pm_W l E y cc nL ret d kc ks (pc + 1) lv (.int (Int32.ofNat n) :: st) S I J P Q) : pm_W l E y cc nL ret d kc ks pc lv (.ref a :: st) S I J P Q := by
  intro p e R s m args below meth c H locs cells slots mc ms ls C hr hl0 hR hv
  obtain ⟨hx, hb, hml, hret, hlk, hown, hts, hK, hnm⟩ := id C
  have hc := hR.arr ha hs h1 (by omega)
  have hk := kk p e R s m args below meth c H locs cells slots mc ms ls C hr hl0 hR hv
  have hz : (arrV (E.cA t) n (pm_val E.ad t I J P a)).slots.size.toInt32 = Int32.ofNat n := by rw [arrV_size]
  rcases (show t = 100 ∨ t = 101 ∨ t = 102 ∨ t = 103 ∨ t = 104 ∨ t = 105 by omega) with rfl | rfl | rfl | rfl | rfl | rfl
  · exact W.alen hx hb hc ((pm_tyAt hK 0 rfl).1 _ _) hz rfl rfl hd hk
  · exact W.alen hx hb hc ((pm_tyAt hK 1 rfl).1 _ _) hz rfl rfl hd hk
  · exact W.alen hx hb hc ((pm_tyAt hK 2 rfl).1 _ _) hz rfl rfl hd hk
  · exact W.alen hx hb hc ((pm_tyAt hK 3 rfl).1 _ _) hz rfl rfl hd hk
  · exact W.alen hx hb hc ((pm_tyAt hK 4 rfl).1 _ _) hz rfl rfl hd hk
  · exact W.alen hx hb hc ((pm_tyAt hK 5 rfl).1 _ _) hz rfl rfl hd hk
theorem pm_inr {cA : ClassId} {n : Nat} {f : Nat → Value} {i : Int32} (h : vp_in i n) : ¬ (i < 0 ∨ (arrV cA n f).slots.size ≤ i.toNatClampNeg) := by rw [arrV_size]; exact h
theorem pm_inv {cA : ClassId} {n : Nat} {f : Nat → Value} {i : Int32} (h : vp_in i n) {v : Value} (hv : f i.toNatClampNeg = v) : (arrV cA n f).slots[i.toNatClampNeg]? = some v := by
  rw [arrV_read _ _ (Nat.not_le.mp fun q => h (Or.inr q)), hv]
theorem pm_valI0 {ad : Nat → Nat} {t : Nat} {I : pmI} {J : pmJ} {P : pmP} {a k : Nat} (hk : pm_fk t k = 0) : pm_val ad t I J P a k = .int (I a k) := if_pos hk
theorem pm_valJ0 {ad : Nat → Nat} {t : Nat} {I : pmI} {J : pmJ} {P : pmP} {a k : Nat} (hk : pm_fk t k = 1) : pm_val ad t I J P a k = .long (J a k) := by unfold pm_val; rw [if_neg (by omega), if_pos hk]
theorem pm_valP0 {ad : Nat → Nat} {t : Nat} {I : pmI} {J : pmJ} {P : pmP} {a k : Nat} (hk : pm_fk t k = 2) : pm_val ad t I J P a k = va_rf ((P a k).map ad) := by unfold pm_val; rw [if_neg (by omega), if_neg (by omega)]
theorem pw_iald {a n : Nat} {i : Int32} (hd : decode cc pc = .ok (.iaload, 1)) (ha : a < S.1) (hs : S.2 a = (100, n)) (hi : vp_in i n)
    (kk : pm_W l E y cc nL ret d kc ks (pc + 1) lv (.int (I a i.toNatClampNeg) :: st) S I J P Q) : pm_W l E y cc nL ret d kc ks pc lv (.int i :: .ref a :: st) S I J P Q := by
  intro p e R s m args below meth c H locs cells slots mc ms ls C hr hl0 hR hv
  obtain ⟨hx, hb, hml, hret, hlk, hown, hts, hK, hnm⟩ := id C
  exact W.iald hx hb (hR.arr ha hs (by decide) (by decide)) ((pm_tyAt hK 0 rfl).1 _ _) (fun q => by cases q) (pm_inr hi) (pm_inv hi (pm_valI0 rfl)) rfl rfl hd (kk p e R s m args below meth c H locs cells slots mc ms ls C hr hl0 hR hv)
theorem pw_bald {a n : Nat} {i : Int32} (hd : decode cc pc = .ok (.baload, 1)) (ha : a < S.1) (hs : S.2 a = (102, n)) (hi : vp_in i n)
    (kk : pm_W l E y cc nL ret d kc ks (pc + 1) lv (.int (I a i.toNatClampNeg) :: st) S I J P Q) : pm_W l E y cc nL ret d kc ks pc lv (.int i :: .ref a :: st) S I J P Q := by
  intro p e R s m args below meth c H locs cells slots mc ms ls C hr hl0 hR hv
  obtain ⟨hx, hb, hml, hret, hlk, hown, hts, hK, hnm⟩ := id C
  exact W.bald hx hb (hR.arr ha hs (by decide) (by decide)) ((pm_tyAt hK 2 rfl).1 _ _) (fun q => by cases q) (pm_inr hi) (pm_inv hi (pm_valI0 rfl)) rfl rfl hd (kk p e R s m args below meth c H locs cells slots mc ms ls C hr hl0 hR hv)
theorem pw_zald {a n : Nat} {i : Int32} (hd : decode cc pc = .ok (.baload, 1)) (ha : a < S.1) (hs : S.2 a = (103, n)) (hi : vp_in i n)
    (kk : pm_W l E y cc nL ret d kc ks (pc + 1) lv (.int (I a i.toNatClampNeg) :: st) S I J P Q) : pm_W l E y cc nL ret d kc ks pc lv (.int i :: .ref a :: st) S I J P Q := by
  intro p e R s m args below meth c H locs cells slots mc ms ls C hr hl0 hR hv
  obtain ⟨hx, hb, hml, hret, hlk, hown, hts, hK, hnm⟩ := id C
  exact W.zald hx hb (hR.arr ha hs (by decide) (by decide)) ((pm_tyAt hK 3 rfl).1 _ _) (fun q => by cases q) (pm_inr hi) (pm_inv hi (pm_valI0 rfl)) rfl rfl hd (kk p e R s m args below meth c H locs cells slots mc ms ls C hr hl0 hR hv)
theorem pw_lald {a n : Nat} {i : Int32} (hd : decode cc pc = .ok (.laload, 1)) (ha : a < S.1) (hs : S.2 a = (101, n)) (hi : vp_in i n)
    (kk : pm_W l E y cc nL ret d kc ks (pc + 1) lv (.long (J a i.toNatClampNeg) :: st) S I J P Q) : pm_W l E y cc nL ret d kc ks pc lv (.int i :: .ref a :: st) S I J P Q := by
  intro p e R s m args below meth c H locs cells slots mc ms ls C hr hl0 hR hv
  obtain ⟨hx, hb, hml, hret, hlk, hown, hts, hK, hnm⟩ := id C
  exact W.lald hx hb (hR.arr ha hs (by decide) (by decide)) ((pm_tyAt hK 1 rfl).1 _ _) (fun q => by cases q) (pm_inr hi) (pm_inv hi (pm_valJ0 rfl)) rfl rfl hd (kk p e R s m args below meth c H locs cells slots mc ms ls C hr hl0 hR hv)
theorem pw_aald {a n t : Nat} {i : Int32} {r : Option Nat} (hd : decode cc pc = .ok (.aaload, 1)) (ha : a < S.1) (hs : S.2 a = (t, n)) (ht : t = 104 ∨ t = 105) (hi : vp_in i n) (hp : P a i.toNatClampNeg = r)
    (kk : pm_W l E y cc nL ret d kc ks (pc + 1) lv (va_rf r :: st) S I J P Q) : pm_W l E y cc nL ret d kc ks pc lv (.int i :: .ref a :: st) S I J P Q := by
  intro p e R s m args below meth c H locs cells slots mc ms ls C hr hl0 hR hv
  obtain ⟨hx, hb, hml, hret, hlk, hown, hts, hK, hnm⟩ := id C
  have hk := kk p e R s m args below meth c H locs cells slots mc ms ls C hr hl0 hR hv
  rcases ht with rfl | rfl
  · exact W.aald (v := pm_v E.ad (va_rf r)) hx hb (hR.arr ha hs (by decide) (by decide)) ((pm_tyAt hK 4 rfl).1 _ _) rfl (fun q => by cases q) (pm_inr hi) (pm_inv hi (by rw [pm_valP0 rfl, hp, pm_v_rf])) rfl rfl hd hk
  · exact W.aald (v := pm_v E.ad (va_rf r)) hx hb (hR.arr ha hs (by decide) (by decide)) ((pm_tyAt hK 5 rfl).1 _ _) rfl (fun q => by cases q) (pm_inr hi) (pm_inv hi (by rw [pm_valP0 rfl, hp, pm_v_rf])) rfl rfl hd hk
theorem pm_R.store {E : pmE} {S : pmS} {I I' : pmI} {J J' : pmJ} {P P' : pmP} {H H' : Heap} (hA : pm_A E) (hR : pm_R E S I J P H) {a t n k : Nat} {v : Value} (ha2 : 2 ≤ a) (ha : a < S.1) (hs : S.2 a = (t, n)) (h1 : 100 ≤ t) (h2 : t < 200)
    (e1 : H'[E.ad a]? = some ((arrV (E.cA t) n (pm_val E.ad t I J P a)).setSlot k v)) (e2 : H'.size = H.size) (e3 : ∀ q, q ≠ E.ad a → H'[q]? = H[q]?) (hval : ∀ j, updV (pm_val E.ad t I J P a) k v j = pm_val E.ad t I' J' P' a j)
    (hI : ∀ b, b ≠ a → I' b = I b) (hJ : ∀ b, b ≠ a → J' b = J b) (hP : ∀ b, b ≠ a → P' b = P b) : pm_R E S I' J' P' H' := by
  refine hR.set hA ha2 ha e2 e3 ?_ hI hJ hP
  unfold pm_at
  rw [hs, if_neg (show ¬ t < 100 by omega), if_pos h2, e1, arrV_store]
  congr 2
  exact funext hval
theorem pm_locs {E : pmE} {locs : List Loc} {a k : Nat} (hA : pm_A E) (ha2 : 2 ≤ a) (hl0 : ∀ q ∈ locs, E.B0 ≤ q.base) : ∀ q ∈ locs ++ [(⟨E.ad a, k⟩ : Loc)], E.B0 ≤ q.base := by
  intro q hq
  rcases List.mem_append.mp hq with h | h
  · exact hl0 q h
  · cases List.mem_singleton.mp h
    exact hA.ge ha2
theorem pw_iast {a n : Nat} {i x : Int32} (hd : decode cc pc = .ok (.iastore, 1)) (ha2 : 2 ≤ a) (ha : a < S.1) (hs : S.2 a = (100, n)) (hi : vp_in i n)
    (kk : pm_W l E y cc nL ret d kc ks (pc + 1) lv st S (pm_u I a i.toNatClampNeg x) J P Q) : pm_W l E y cc nL ret d kc ks pc lv (.int x :: .int i :: .ref a :: st) S I J P Q := by
  intro p e R s m args below meth c H locs cells slots mc ms ls C hr hl0 hR hv
  obtain ⟨hx, hb, hml, hret, hlk, hown, hts, hK, hnm⟩ := id C
  exact W.iast hx hb (hR.arr ha hs (by decide) (by decide)) ((pm_tyAt hK 0 rfl).1 _ _) (fun q => by cases q) (pm_inr hi) rfl rfl hd (fun H' e1 e2 e3 => kk p e R s m args below meth c H' _ cells slots mc ms ls C hr (pm_locs hK.2.2.2.2.1 ha2 hl0) (hR.store hK.2.2.2.2.1 ha2 ha hs (by decide) (by decide) e1 e2 e3 (pm_valI rfl) (fun _ h => pm_u_ne h) (fun _ _ => rfl) (fun _ _ => rfl)) hv)
theorem pw_last {a n : Nat} {i : Int32} {x : Int64} (hd : decode cc pc = .ok (.lastore, 1)) (ha2 : 2 ≤ a) (ha : a < S.1) (hs : S.2 a = (101, n)) (hi : vp_in i n)
    (kk : pm_W l E y cc nL ret d kc ks (pc + 1) lv st S I (pm_u J a i.toNatClampNeg x) P Q) : pm_W l E y cc nL ret d kc ks pc lv (.long x :: .int i :: .ref a :: st) S I J P Q := by
  intro p e R s m args below meth c H locs cells slots mc ms ls C hr hl0 hR hv
  obtain ⟨hx, hb, hml, hret, hlk, hown, hts, hK, hnm⟩ := id C
  exact W.last hx hb (hR.arr ha hs (by decide) (by decide)) ((pm_tyAt hK 1 rfl).1 _ _) (fun q => by cases q) (pm_inr hi) rfl rfl hd (fun H' e1 e2 e3 => kk p e R s m args below meth c H' _ cells slots mc ms ls C hr (pm_locs hK.2.2.2.2.1 ha2 hl0) (hR.store hK.2.2.2.2.1 ha2 ha hs (by decide) (by decide) e1 e2 e3 (pm_valJ rfl) (fun _ _ => rfl) (fun _ h => pm_u_ne h) (fun _ _ => rfl)) hv)
theorem pw_bast {a n : Nat} {i x z : Int32} (hd : decode cc pc = .ok (.bastore, 1)) (ha2 : 2 ≤ a) (ha : a < S.1) (hs : S.2 a = (102, n)) (hi : vp_in i n) (hz : narrow .byte (.int x) = .int z)
    (kk : pm_W l E y cc nL ret d kc ks (pc + 1) lv st S (pm_u I a i.toNatClampNeg z) J P Q) : pm_W l E y cc nL ret d kc ks pc lv (.int x :: .int i :: .ref a :: st) S I J P Q := by
  intro p e R s m args below meth c H locs cells slots mc ms ls C hr hl0 hR hv
  obtain ⟨hx, hb, hml, hret, hlk, hown, hts, hK, hnm⟩ := id C
  exact W.bast hx hb (hR.arr ha hs (by decide) (by decide)) ((pm_tyAt hK 2 rfl).1 _ _) (fun q => by cases q) (pm_inr hi) rfl rfl hd (fun H' e1 e2 e3 => kk p e R s m args below meth c H' _ cells slots mc ms ls C hr (pm_locs hK.2.2.2.2.1 ha2 hl0) (hR.store hK.2.2.2.2.1 ha2 ha hs (by decide) (by decide) (by rw [e1, hz]) e2 e3 (pm_valI rfl) (fun _ h => pm_u_ne h) (fun _ _ => rfl) (fun _ _ => rfl)) hv)
theorem pw_zast {a n : Nat} {i x : Int32} (hd : decode cc pc = .ok (.bastore, 1)) (ha2 : 2 ≤ a) (ha : a < S.1) (hs : S.2 a = (103, n)) (hi : vp_in i n) (hz : x = 0 ∨ x = 1)
    (kk : pm_W l E y cc nL ret d kc ks (pc + 1) lv st S (pm_u I a i.toNatClampNeg x) J P Q) : pm_W l E y cc nL ret d kc ks pc lv (.int x :: .int i :: .ref a :: st) S I J P Q := by
  intro p e R s m args below meth c H locs cells slots mc ms ls C hr hl0 hR hv
  obtain ⟨hx, hb, hml, hret, hlk, hown, hts, hK, hnm⟩ := id C
  have hz' : narrow .boolean (.int x) = .int x := by rcases hz with rfl | rfl <;> rfl
  exact W.zast hx hb (hR.arr ha hs (by decide) (by decide)) ((pm_tyAt hK 3 rfl).1 _ _) (fun q => by cases q) (pm_inr hi) rfl rfl hd (fun H' e1 e2 e3 => kk p e R s m args below meth c H' _ cells slots mc ms ls C hr (pm_locs hK.2.2.2.2.1 ha2 hl0) (hR.store hK.2.2.2.2.1 ha2 ha hs (by decide) (by decide) (by rw [e1, hz']) e2 e3 (pm_valI rfl) (fun _ h => pm_u_ne h) (fun _ _ => rfl) (fun _ _ => rfl)) hv)
/-! new arrays and objects -/
def pm_new (S : pmS) (t n : Nat) : pmS := (S.1 + 1, va_up S.2 S.1 (t, n))
theorem pm_R.fresh {E : pmE} {S : pmS} {I : pmI} {J : pmJ} {P : pmP} {H : Heap} (hR : pm_R E S I J P H) (ad : Nat → Nat) (t k : Nat) : pm_val ad t I J P S.1 k = if pm_fk t k = 0 then .int 0 else if pm_fk t k = 1 then .long 0 else .null := by
  obtain ⟨h1, h2, h3⟩ := hR.2.2.2.1 S.1 (Nat.le_refl _) k
  unfold pm_val
  rw [h1, h2, h3]
  rfl
theorem pw_newa {t : Nat} {at0 : ArrayType} {n : Int32} {N : Nat} (hd : decode cc pc = .ok (.newarray at0, 2)) (ht : (at0 = .int ∧ t = 100) ∨ (at0 = .long ∧ t = 101) ∨ (at0 = .byte ∧ t = 102) ∨ (at0 = .boolean ∧ t = 103)) (hw : Cond.arrayClass (newarray.typeOf at0) ∈ pm_tbl) (hn : ¬ n < 0) (hN : n.toNatClampNeg = N) (hM : N ≤ 60000000) (hkc : 1 ≤ kc) (hks : N ≤ ks)
    (kk : (∀ k, I S.1 k = 0) → (∀ k, J S.1 k = 0) → pm_W l E y cc nL ret d (kc - 1) (ks - N) (pc + 2) lv (.ref S.1 :: st) (pm_new S t N) I J P Q) : pm_W l E y cc nL ret d kc ks pc lv (.int n :: st) S I J P Q := by
  intro p e R s m args below meth c H locs cells slots mc ms ls C hr hl0 hR hv
  obtain ⟨hx, hb, hml, hret, hlk, hown, hts, hK, hnm⟩ := id C
  have hA := hK.2.2.2.2.1
  have hgo : ∀ (H' : Heap) (cA : ClassId), H'[H.size]? = some (arrV cA N (fun _ => defaultValue (newarray.typeOf at0))) → H'.size = H.size + 1 → (∀ q, q < H.size → H'[q]? = H[q]?) → ArrOfT s cA (newarray.typeOf at0) → s.vm.findClass ("[" ++ (newarray.typeOf at0).toString) = some cA →
      W p l e R s m args below meth c H' locs (cells + 1) (slots + N) (Q below args s c mc ms) (F0 m (pc + 2) ls (.ref H.size :: st.map (pm_v E.ad))) := by
    intro H' cA e1 e2 e3 e4 e5
    have hk := kk (fun k => (hR.2.2.2.1 _ (Nat.le_refl _) k).1) (fun k => (hR.2.2.2.1 _ (Nat.le_refl _) k).2.1) p e R s m args below meth c H' locs (cells + 1) (slots + N) mc ms ls C (by omega) hl0 (hR.push hA e2 e3 ?_) hv
    · have he : pm_v E.ad (.ref S.1) = .ref H.size := by show Value.ref (E.ad S.1) = _; rw [hA.next hR]
      rw [List.map_cons, he] at hk
      exact hk
    · have hat : H'[E.ad S.1]? = some (arrV (E.cA t) N (pm_val E.ad t I J P S.1)) := by
        rw [hA.next hR, e1]
        have ec : cA = E.cA t := by
          rcases ht with ⟨rfl, rfl⟩ | ⟨rfl, rfl⟩ | ⟨rfl, rfl⟩ | ⟨rfl, rfl⟩
          · exact Option.some.inj (e5.symm.trans (pm_tyAt hK 0 rfl).2)
          · exact Option.some.inj (e5.symm.trans (pm_tyAt hK 1 rfl).2)
          · exact Option.some.inj (e5.symm.trans (pm_tyAt hK 2 rfl).2)
          · exact Option.some.inj (e5.symm.trans (pm_tyAt hK 3 rfl).2)
        subst ec
        congr 2
        funext k
        rw [hR.fresh]
        rcases ht with ⟨rfl, rfl⟩ | ⟨rfl, rfl⟩ | ⟨rfl, rfl⟩ | ⟨rfl, rfl⟩ <;> rfl
      unfold pm_at
      have e6 : ((S.1 + 1, va_up S.2 S.1 (t, N)) : pmS).2 S.1 = (t, N) := if_pos rfl
      rw [e6, if_neg (show ¬ t < 100 by omega), if_pos (show t < 200 by omega)]
      exact hat
  refine va_newaK hx hb (hts _ hw) rfl hd rfl hn hN ?_ (by omega) (by omega) rfl hgo
  have hb8 : componentBytes (newarray.typeOf at0) ≤ 8 := by rcases ht with ⟨rfl, -⟩ | ⟨rfl, -⟩ | ⟨rfl, -⟩ | ⟨rfl, -⟩ <;> decide
  calc N * componentBytes (newarray.typeOf at0) ≤ N * 8 := Nat.mul_le_mul_left _ hb8
    _ ≤ 536870912 := by omega
end PW
