def pm_tbl : List Cond := lw_tbl.filter goodWord
theorem pm_tbl_in {w : Cond} (h : w ∈ lw_tbl) (hg : goodWord w = true) : w ∈ pm_tbl := List.mem_filter.mpr ⟨h, hg⟩
theorem pm_in1 (i : Nat) {w : Cond} (h : lw_tbl[i]? = some w) (hg : goodWord w = true) : w ∈ pm_tbl := pm_tbl_in (List.mem_of_getElem? h) hg
theorem pm_in_r (ws : List Cond) (ps : List Nat) (hp : ws = ps.filterMap (fun i => lw_tbl[i]?)) (h : ws.all goodWord = true) : ∀ w ∈ ws, w ∈ pm_tbl := by
  intro w hw
  have h1 := List.all_eq_true.mp h w hw
  rw [hp] at hw
  obtain ⟨i, -, hi⟩ := List.mem_filterMap.mp hw
  exact pm_tbl_in (List.mem_of_getElem? hi) h1
theorem pm_T1 {w : Cond} (j : Nat) (h : tables_1_1[j]? = some w) (hg : goodWord w = true) : w ∈ pm_tbl := pm_tbl_in (show w ∈ k2_sels lw_privs ++ (tables_1_1 ++ (tables_1_2 ++ (tables_1_3 ++ (tables_1_4 ++ (tables_1_5 ++ (tables_1_6 ++ (tables_1_7))))))) from List.mem_append_right _ (List.mem_append_left _ (List.mem_of_getElem? h))) hg
theorem pm_T2 {w : Cond} (j : Nat) (h : tables_1_2[j]? = some w) (hg : goodWord w = true) : w ∈ pm_tbl := pm_tbl_in (show w ∈ k2_sels lw_privs ++ (tables_1_1 ++ (tables_1_2 ++ (tables_1_3 ++ (tables_1_4 ++ (tables_1_5 ++ (tables_1_6 ++ (tables_1_7))))))) from List.mem_append_right _ (List.mem_append_right _ (List.mem_append_left _ (List.mem_of_getElem? h)))) hg
theorem pm_T3 {w : Cond} (j : Nat) (h : tables_1_3[j]? = some w) (hg : goodWord w = true) : w ∈ pm_tbl := pm_tbl_in (show w ∈ k2_sels lw_privs ++ (tables_1_1 ++ (tables_1_2 ++ (tables_1_3 ++ (tables_1_4 ++ (tables_1_5 ++ (tables_1_6 ++ (tables_1_7))))))) from List.mem_append_right _ (List.mem_append_right _ (List.mem_append_right _ (List.mem_append_left _ (List.mem_of_getElem? h))))) hg
theorem pm_T4 {w : Cond} (j : Nat) (h : tables_1_4[j]? = some w) (hg : goodWord w = true) : w ∈ pm_tbl := pm_tbl_in (show w ∈ k2_sels lw_privs ++ (tables_1_1 ++ (tables_1_2 ++ (tables_1_3 ++ (tables_1_4 ++ (tables_1_5 ++ (tables_1_6 ++ (tables_1_7))))))) from List.mem_append_right _ (List.mem_append_right _ (List.mem_append_right _ (List.mem_append_right _ (List.mem_append_left _ (List.mem_of_getElem? h)))))) hg
theorem pm_T5 {w : Cond} (j : Nat) (h : tables_1_5[j]? = some w) (hg : goodWord w = true) : w ∈ pm_tbl := pm_tbl_in (show w ∈ k2_sels lw_privs ++ (tables_1_1 ++ (tables_1_2 ++ (tables_1_3 ++ (tables_1_4 ++ (tables_1_5 ++ (tables_1_6 ++ (tables_1_7))))))) from List.mem_append_right _ (List.mem_append_right _ (List.mem_append_right _ (List.mem_append_right _ (List.mem_append_right _ (List.mem_append_left _ (List.mem_of_getElem? h))))))) hg
theorem pm_T6 {w : Cond} (j : Nat) (h : tables_1_6[j]? = some w) (hg : goodWord w = true) : w ∈ pm_tbl := pm_tbl_in (show w ∈ k2_sels lw_privs ++ (tables_1_1 ++ (tables_1_2 ++ (tables_1_3 ++ (tables_1_4 ++ (tables_1_5 ++ (tables_1_6 ++ (tables_1_7))))))) from List.mem_append_right _ (List.mem_append_right _ (List.mem_append_right _ (List.mem_append_right _ (List.mem_append_right _ (List.mem_append_right _ (List.mem_append_left _ (List.mem_of_getElem? h)))))))) hg
theorem pm_T7 {w : Cond} (j : Nat) (h : tables_1_7[j]? = some w) (hg : goodWord w = true) : w ∈ pm_tbl := pm_tbl_in (show w ∈ k2_sels lw_privs ++ (tables_1_1 ++ (tables_1_2 ++ (tables_1_3 ++ (tables_1_4 ++ (tables_1_5 ++ (tables_1_6 ++ (tables_1_7))))))) from List.mem_append_right _ (List.mem_append_right _ (List.mem_append_right _ (List.mem_append_right _ (List.mem_append_right _ (List.mem_append_right _ (List.mem_append_right _ (List.mem_of_getElem? h)))))))) hg
set_option maxRecDepth 20000 in
theorem mw0 : (.selects "SnippetShell" ⟨"SnippetShell", "addSign", "(I)V"⟩ ⟨"SnippetShell", "addSign", "(I)V"⟩ : Cond) ∈ pm_tbl := pm_in1 0 (by rfl) (by decide +kernel)
set_option maxRecDepth 20000 in
theorem mw1 : (.selects "SnippetShell$Tokens" ⟨"SnippetShell$Tokens", "cutOne", "([BII)I"⟩ ⟨"SnippetShell$Tokens", "cutOne", "([BII)I"⟩ : Cond) ∈ pm_tbl := pm_in1 1 (by rfl) (by decide +kernel)
set_option maxRecDepth 20000 in
theorem mw2 : (.selects "SnippetShell$Tokens" ⟨"SnippetShell$Tokens", "put", "(IIJ)V"⟩ ⟨"SnippetShell$Tokens", "put", "(IIJ)V"⟩ : Cond) ∈ pm_tbl := pm_in1 2 (by rfl) (by decide +kernel)
set_option maxRecDepth 20000 in
theorem mw3 : (.selects "SnippetShell$Tokens" ⟨"SnippetShell$Tokens", "cutLetters", "([BII)I"⟩ ⟨"SnippetShell$Tokens", "cutLetters", "([BII)I"⟩ : Cond) ∈ pm_tbl := pm_in1 3 (by rfl) (by decide +kernel)
set_option maxRecDepth 20000 in
theorem mw4 : (.selects "SnippetShell$Tokens" ⟨"SnippetShell$Tokens", "cutDigits", "([BIII)I"⟩ ⟨"SnippetShell$Tokens", "cutDigits", "([BIII)I"⟩ : Cond) ∈ pm_tbl := pm_in1 4 (by rfl) (by decide +kernel)
set_option maxRecDepth 20000 in
theorem mw5 : (.selects "SnippetShell$Reader" ⟨"SnippetShell$Reader", "readVariable", "()V"⟩ ⟨"SnippetShell$Reader", "readVariable", "()V"⟩ : Cond) ∈ pm_tbl := pm_in1 5 (by rfl) (by decide +kernel)
set_option maxRecDepth 20000 in
theorem mw6 : (.selects "SnippetShell$Reader" ⟨"SnippetShell$Reader", "readName", "()J"⟩ ⟨"SnippetShell$Reader", "readName", "()J"⟩ : Cond) ∈ pm_tbl := pm_in1 6 (by rfl) (by decide +kernel)
set_option maxRecDepth 20000 in
theorem mw7 : (.selects "SnippetShell$Reader" ⟨"SnippetShell$Reader", "expect", "(I)V"⟩ ⟨"SnippetShell$Reader", "expect", "(I)V"⟩ : Cond) ∈ pm_tbl := pm_in1 7 (by rfl) (by decide +kernel)
set_option maxRecDepth 20000 in
theorem mw8 : (.selects "SnippetShell$Reader" ⟨"SnippetShell$Reader", "isAt", "(I)Z"⟩ ⟨"SnippetShell$Reader", "isAt", "(I)Z"⟩ : Cond) ∈ pm_tbl := pm_in1 8 (by rfl) (by decide +kernel)
set_option maxRecDepth 20000 in
theorem mw9 : (.selects "SnippetShell$Reader" ⟨"SnippetShell$Reader", "refuse", "()V"⟩ ⟨"SnippetShell$Reader", "refuse", "()V"⟩ : Cond) ∈ pm_tbl := pm_in1 9 (by rfl) (by decide +kernel)
set_option maxRecDepth 20000 in
theorem mw10 : (.selects "SnippetShell$Reader" ⟨"SnippetShell$Reader", "readExpr", "()V"⟩ ⟨"SnippetShell$Reader", "readExpr", "()V"⟩ : Cond) ∈ pm_tbl := pm_in1 10 (by rfl) (by decide +kernel)
set_option maxRecDepth 20000 in
theorem mw11 : (.selects "SnippetShell$Reader" ⟨"SnippetShell$Reader", "readLevel", "(I)V"⟩ ⟨"SnippetShell$Reader", "readLevel", "(I)V"⟩ : Cond) ∈ pm_tbl := pm_in1 11 (by rfl) (by decide +kernel)
set_option maxRecDepth 20000 in
theorem mw12 : (.selects "SnippetShell$Reader" ⟨"SnippetShell$Reader", "readFact", "()V"⟩ ⟨"SnippetShell$Reader", "readFact", "()V"⟩ : Cond) ∈ pm_tbl := pm_in1 12 (by rfl) (by decide +kernel)
set_option maxRecDepth 20000 in
theorem mw13 : (.selects "SnippetShell$Reader" ⟨"SnippetShell$Reader", "readNegation", "()V"⟩ ⟨"SnippetShell$Reader", "readNegation", "()V"⟩ : Cond) ∈ pm_tbl := pm_in1 13 (by rfl) (by decide +kernel)
set_option maxRecDepth 20000 in
theorem mw14 : (.selects "SnippetShell$Reader" ⟨"SnippetShell$Reader", "enter", "()Z"⟩ ⟨"SnippetShell$Reader", "enter", "()Z"⟩ : Cond) ∈ pm_tbl := pm_in1 14 (by rfl) (by decide +kernel)
set_option maxRecDepth 20000 in
theorem mw15 : (.selects "SnippetShell$Reader" ⟨"SnippetShell$Reader", "readAtom", "()V"⟩ ⟨"SnippetShell$Reader", "readAtom", "()V"⟩ : Cond) ∈ pm_tbl := pm_in1 15 (by rfl) (by decide +kernel)
set_option maxRecDepth 20000 in
theorem mw16 : (.selects "SnippetShell$Reader" ⟨"SnippetShell$Reader", "readNamed", "(IJ)V"⟩ ⟨"SnippetShell$Reader", "readNamed", "(IJ)V"⟩ : Cond) ∈ pm_tbl := pm_in1 16 (by rfl) (by decide +kernel)
set_option maxRecDepth 20000 in
theorem mw17 : (.selects "SnippetShell$Reader" ⟨"SnippetShell$Reader", "partOf", "(J)I"⟩ ⟨"SnippetShell$Reader", "partOf", "(J)I"⟩ : Cond) ∈ pm_tbl := pm_in1 17 (by rfl) (by decide +kernel)
set_option maxRecDepth 20000 in
theorem mw18 : (.selects "SnippetShell$Reader" ⟨"SnippetShell$Reader", "readCall", "(IJ)V"⟩ ⟨"SnippetShell$Reader", "readCall", "(IJ)V"⟩ : Cond) ∈ pm_tbl := pm_in1 18 (by rfl) (by decide +kernel)
set_option maxRecDepth 20000 in
theorem mw19 : (.selects "SnippetShell$Reader" ⟨"SnippetShell$Reader", "readInner", "()V"⟩ ⟨"SnippetShell$Reader", "readInner", "()V"⟩ : Cond) ∈ pm_tbl := pm_in1 19 (by rfl) (by decide +kernel)
set_option maxRecDepth 20000 in
theorem mw20 : (.selects "SnippetShell$Reader" ⟨"SnippetShell$Reader", "readChoice", "(I)V"⟩ ⟨"SnippetShell$Reader", "readChoice", "(I)V"⟩ : Cond) ∈ pm_tbl := pm_in1 20 (by rfl) (by decide +kernel)
set_option maxRecDepth 20000 in
theorem mw21 : (.selects "SnippetShell$Reader" ⟨"SnippetShell$Reader", "readMember", "()V"⟩ ⟨"SnippetShell$Reader", "readMember", "()V"⟩ : Cond) ∈ pm_tbl := pm_in1 21 (by rfl) (by decide +kernel)
set_option maxRecDepth 20000 in
theorem mw22 : (.selects "SnippetShell$Reader" ⟨"SnippetShell$Reader", "readParts", "()V"⟩ ⟨"SnippetShell$Reader", "readParts", "()V"⟩ : Cond) ∈ pm_tbl := pm_in1 22 (by rfl) (by decide +kernel)
set_option maxRecDepth 20000 in
theorem mw23 : (.selects "SnippetShell$Reader" ⟨"SnippetShell$Reader", "readPart", "()V"⟩ ⟨"SnippetShell$Reader", "readPart", "()V"⟩ : Cond) ∈ pm_tbl := pm_in1 23 (by rfl) (by decide +kernel)
set_option maxRecDepth 20000 in
theorem mw24 : (.selects "SnippetShell$Reader" ⟨"SnippetShell$Reader", "readType", "()V"⟩ ⟨"SnippetShell$Reader", "readType", "()V"⟩ : Cond) ∈ pm_tbl := pm_in1 24 (by rfl) (by decide +kernel)
set_option maxRecDepth 20000 in
theorem mw25 : (.selects "SnippetShell$Reader" ⟨"SnippetShell$Reader", "readAlone", "()V"⟩ ⟨"SnippetShell$Reader", "readAlone", "()V"⟩ : Cond) ∈ pm_tbl := pm_in1 25 (by rfl) (by decide +kernel)
set_option maxRecDepth 20000 in
theorem mw26 : (.selects "SnippetShell$Names" ⟨"SnippetShell$Names", "addNew", "(J)V"⟩ ⟨"SnippetShell$Names", "addNew", "(J)V"⟩ : Cond) ∈ pm_tbl := pm_in1 26 (by rfl) (by decide +kernel)
set_option maxRecDepth 20000 in
theorem mw27 : (.selects "SnippetShell" ⟨"SnippetShell", "runWithoutFault", "()I"⟩ ⟨"SnippetShell", "runWithoutFault", "()I"⟩ : Cond) ∈ pm_tbl := pm_in1 27 (by rfl) (by decide +kernel)
set_option maxRecDepth 20000 in
theorem mw28 : (.selects "SnippetShell$Machine" ⟨"SnippetShell$Machine", "doNext", "()V"⟩ ⟨"SnippetShell$Machine", "doNext", "()V"⟩ : Cond) ∈ pm_tbl := pm_in1 28 (by rfl) (by decide +kernel)
set_option maxRecDepth 20000 in
theorem mw29 : (.selects "SnippetShell$Machine" ⟨"SnippetShell$Machine", "takeStep", "()Z"⟩ ⟨"SnippetShell$Machine", "takeStep", "()Z"⟩ : Cond) ∈ pm_tbl := pm_in1 29 (by rfl) (by decide +kernel)
set_option maxRecDepth 20000 in
theorem mw30 : (.selects "SnippetShell$Machine" ⟨"SnippetShell$Machine", "fail", "(I)V"⟩ ⟨"SnippetShell$Machine", "fail", "(I)V"⟩ : Cond) ∈ pm_tbl := pm_in1 30 (by rfl) (by decide +kernel)
set_option maxRecDepth 20000 in
theorem mw31 : (.selects "SnippetShell$Machine" ⟨"SnippetShell$Machine", "push", "(IJ)V"⟩ ⟨"SnippetShell$Machine", "push", "(IJ)V"⟩ : Cond) ∈ pm_tbl := pm_in1 31 (by rfl) (by decide +kernel)
set_option maxRecDepth 20000 in
theorem mw32 : (.selects "SnippetShell$Machine" ⟨"SnippetShell$Machine", "pushResult", "(I)V"⟩ ⟨"SnippetShell$Machine", "pushResult", "(I)V"⟩ : Cond) ∈ pm_tbl := pm_in1 32 (by rfl) (by decide +kernel)
set_option maxRecDepth 20000 in
theorem mw33 : (.selects "SnippetShell$Machine" ⟨"SnippetShell$Machine", "pushFrom", "(LSnippetShell$Values;I)V"⟩ ⟨"SnippetShell$Machine", "pushFrom", "(LSnippetShell$Values;I)V"⟩ : Cond) ∈ pm_tbl := pm_in1 33 (by rfl) (by decide +kernel)
set_option maxRecDepth 20000 in
theorem mw34 : (.selects "SnippetShell$Machine" ⟨"SnippetShell$Machine", "pushVariable", "(I)V"⟩ ⟨"SnippetShell$Machine", "pushVariable", "(I)V"⟩ : Cond) ∈ pm_tbl := pm_in1 34 (by rfl) (by decide +kernel)
set_option maxRecDepth 20000 in
theorem mw35 : (.selects "SnippetShell$Machine" ⟨"SnippetShell$Machine", "openCall", "(II)V"⟩ ⟨"SnippetShell$Machine", "openCall", "(II)V"⟩ : Cond) ∈ pm_tbl := pm_in1 35 (by rfl) (by decide +kernel)
set_option maxRecDepth 20000 in
theorem mw36 : (.selects "SnippetShell$Machine" ⟨"SnippetShell$Machine", "call", "(II)V"⟩ ⟨"SnippetShell$Machine", "call", "(II)V"⟩ : Cond) ∈ pm_tbl := pm_in1 36 (by rfl) (by decide +kernel)
set_option maxRecDepth 20000 in
theorem mw37 : (.selects "SnippetShell$Things" ⟨"SnippetShell$Things", "doubleRoom", "()V"⟩ ⟨"SnippetShell$Things", "doubleRoom", "()V"⟩ : Cond) ∈ pm_tbl := pm_in1 37 (by rfl) (by decide +kernel)
set_option maxRecDepth 20000 in
theorem mw38 : (.selects "SnippetShell$Machine" ⟨"SnippetShell$Machine", "enterMember", "(LSnippetShell$Code;I)V"⟩ ⟨"SnippetShell$Machine", "enterMember", "(LSnippetShell$Code;I)V"⟩ : Cond) ∈ pm_tbl := pm_in1 38 (by rfl) (by decide +kernel)
set_option maxRecDepth 20000 in
theorem mw39 : (.selects "SnippetShell$Machine" ⟨"SnippetShell$Machine", "takeField", "(J)V"⟩ ⟨"SnippetShell$Machine", "takeField", "(J)V"⟩ : Cond) ∈ pm_tbl := pm_in1 39 (by rfl) (by decide +kernel)
set_option maxRecDepth 20000 in
theorem mw40 : (.selects "SnippetShell$Things" ⟨"SnippetShell$Things", "has", "(I)Z"⟩ ⟨"SnippetShell$Things", "has", "(I)Z"⟩ : Cond) ∈ pm_tbl := pm_in1 40 (by rfl) (by decide +kernel)
set_option maxRecDepth 20000 in
theorem mw41 : (.selects "SnippetShell$Things" ⟨"SnippetShell$Things", "hasField", "(II)Z"⟩ ⟨"SnippetShell$Things", "hasField", "(II)Z"⟩ : Cond) ∈ pm_tbl := pm_in1 41 (by rfl) (by decide +kernel)
set_option maxRecDepth 20000 in
theorem mw42 : (.selects "SnippetShell$Machine" ⟨"SnippetShell$Machine", "negate", "()V"⟩ ⟨"SnippetShell$Machine", "negate", "()V"⟩ : Cond) ∈ pm_tbl := pm_in1 42 (by rfl) (by decide +kernel)
set_option maxRecDepth 20000 in
theorem mw43 : (.selects "SnippetShell$Machine" ⟨"SnippetShell$Machine", "isWholeAhead", "()Z"⟩ ⟨"SnippetShell$Machine", "isWholeAhead", "()Z"⟩ : Cond) ∈ pm_tbl := pm_in1 43 (by rfl) (by decide +kernel)
set_option maxRecDepth 20000 in
theorem mw44 : (.selects "SnippetShell$Machine" ⟨"SnippetShell$Machine", "branch", "(I)V"⟩ ⟨"SnippetShell$Machine", "branch", "(I)V"⟩ : Cond) ∈ pm_tbl := pm_in1 44 (by rfl) (by decide +kernel)
set_option maxRecDepth 20000 in
theorem mw45 : (.selects "SnippetShell$Machine" ⟨"SnippetShell$Machine", "leaveMember", "()V"⟩ ⟨"SnippetShell$Machine", "leaveMember", "()V"⟩ : Cond) ∈ pm_tbl := pm_in1 45 (by rfl) (by decide +kernel)
set_option maxRecDepth 20000 in
theorem mw46 : (.selects "SnippetShell$Machine" ⟨"SnippetShell$Machine", "operate", "(I)V"⟩ ⟨"SnippetShell$Machine", "operate", "(I)V"⟩ : Cond) ∈ pm_tbl := pm_in1 46 (by rfl) (by decide +kernel)
set_option maxRecDepth 20000 in
theorem mw47 : (.selects "SnippetShell$Shelf" ⟨"SnippetShell$Shelf", "isReplaced", "(I)Z"⟩ ⟨"SnippetShell$Shelf", "isReplaced", "(I)Z"⟩ : Cond) ∈ pm_tbl := pm_in1 47 (by rfl) (by decide +kernel)
set_option maxRecDepth 20000 in
theorem mw50 : (.selects "SnippetShellModel" ⟨"SnippetShellModel", "read", "()I"⟩ ⟨"SnippetShellModel", "read", "()I"⟩ : Cond) ∈ pm_tbl := pm_in1 50 (by rfl) (by decide +kernel)
set_option maxRecDepth 20000 in
theorem mw51 : (.selects "SnippetShellModel" ⟨"SnippetShellModel", "cut", "()V"⟩ ⟨"SnippetShellModel", "cut", "()V"⟩ : Cond) ∈ pm_tbl := pm_in1 51 (by rfl) (by decide +kernel)
set_option maxRecDepth 20000 in
theorem mw52 : (.selects "SnippetShellModel" ⟨"SnippetShellModel", "isLetter", "(I)Z"⟩ ⟨"SnippetShellModel", "isLetter", "(I)Z"⟩ : Cond) ∈ pm_tbl := pm_in1 52 (by rfl) (by decide +kernel)
set_option maxRecDepth 20000 in
theorem mw53 : (.selects "SnippetShellModel" ⟨"SnippetShellModel", "isDigit", "(I)Z"⟩ ⟨"SnippetShellModel", "isDigit", "(I)Z"⟩ : Cond) ∈ pm_tbl := pm_in1 53 (by rfl) (by decide +kernel)
set_option maxRecDepth 20000 in
theorem mw54 : (.selects "SnippetShellModel" ⟨"SnippetShellModel", "tok", "()I"⟩ ⟨"SnippetShellModel", "tok", "()I"⟩ : Cond) ∈ pm_tbl := pm_in1 54 (by rfl) (by decide +kernel)
set_option maxRecDepth 20000 in
theorem mw55 : (.selects "SnippetShellModel" ⟨"SnippetShellModel", "readExpr", "()V"⟩ ⟨"SnippetShellModel", "readExpr", "()V"⟩ : Cond) ∈ pm_tbl := pm_in1 55 (by rfl) (by decide +kernel)
set_option maxRecDepth 20000 in
theorem mw56 : (.selects "SnippetShellModel" ⟨"SnippetShellModel", "push", "(I)V"⟩ ⟨"SnippetShellModel", "push", "(I)V"⟩ : Cond) ∈ pm_tbl := pm_in1 56 (by rfl) (by decide +kernel)
set_option maxRecDepth 20000 in
theorem mw57 : (.selects "SnippetShellModel" ⟨"SnippetShellModel", "expr", "(I)V"⟩ ⟨"SnippetShellModel", "expr", "(I)V"⟩ : Cond) ∈ pm_tbl := pm_in1 57 (by rfl) (by decide +kernel)
set_option maxRecDepth 20000 in
theorem mw58 : (.selects "SnippetShellModel" ⟨"SnippetShellModel", "then", "(II)V"⟩ ⟨"SnippetShellModel", "then", "(II)V"⟩ : Cond) ∈ pm_tbl := pm_in1 58 (by rfl) (by decide +kernel)
set_option maxRecDepth 20000 in
theorem mw59 : (.selects "SnippetShellModel" ⟨"SnippetShellModel", "opens", "()Z"⟩ ⟨"SnippetShellModel", "opens", "()Z"⟩ : Cond) ∈ pm_tbl := pm_in1 59 (by rfl) (by decide +kernel)
set_option maxRecDepth 20000 in
theorem mw60 : (.selects "SnippetShellModel" ⟨"SnippetShellModel", "wrong", "()V"⟩ ⟨"SnippetShellModel", "wrong", "()V"⟩ : Cond) ∈ pm_tbl := pm_in1 60 (by rfl) (by decide +kernel)
set_option maxRecDepth 20000 in
theorem mw61 : (.selects "SnippetShellModel" ⟨"SnippetShellModel", "next", "()V"⟩ ⟨"SnippetShellModel", "next", "()V"⟩ : Cond) ∈ pm_tbl := pm_in1 61 (by rfl) (by decide +kernel)
set_option maxRecDepth 20000 in
theorem mw62 : (.selects "SnippetShellModel" ⟨"SnippetShellModel", "need", "(I)Z"⟩ ⟨"SnippetShellModel", "need", "(I)Z"⟩ : Cond) ∈ pm_tbl := pm_in1 62 (by rfl) (by decide +kernel)
set_option maxRecDepth 20000 in
theorem mw63 : (.selects "SnippetShellModel" ⟨"SnippetShellModel", "node", "(IIIII)I"⟩ ⟨"SnippetShellModel", "node", "(IIIII)I"⟩ : Cond) ∈ pm_tbl := pm_in1 63 (by rfl) (by decide +kernel)
set_option maxRecDepth 20000 in
theorem mw64 : (.selects "SnippetShellModel" ⟨"SnippetShellModel", "row", "(IIZZ)V"⟩ ⟨"SnippetShellModel", "row", "(IIZZ)V"⟩ : Cond) ∈ pm_tbl := pm_in1 64 (by rfl) (by decide +kernel)
set_option maxRecDepth 20000 in
theorem mw65 : (.selects "SnippetShellModel" ⟨"SnippetShellModel", "fact", "(I)V"⟩ ⟨"SnippetShellModel", "fact", "(I)V"⟩ : Cond) ∈ pm_tbl := pm_in1 65 (by rfl) (by decide +kernel)
set_option maxRecDepth 20000 in
theorem mw66 : (.selects "SnippetShellModel" ⟨"SnippetShellModel", "atom", "(I)V"⟩ ⟨"SnippetShellModel", "atom", "(I)V"⟩ : Cond) ∈ pm_tbl := pm_in1 66 (by rfl) (by decide +kernel)
set_option maxRecDepth 20000 in
theorem mw67 : (.selects "SnippetShellModel" ⟨"SnippetShellModel", "begin", "(I)V"⟩ ⟨"SnippetShellModel", "begin", "(I)V"⟩ : Cond) ∈ pm_tbl := pm_in1 67 (by rfl) (by decide +kernel)
set_option maxRecDepth 20000 in
theorem mw68 : (.selects "SnippetShellModel" ⟨"SnippetShellModel", "argument", "(I)V"⟩ ⟨"SnippetShellModel", "argument", "(I)V"⟩ : Cond) ∈ pm_tbl := pm_in1 68 (by rfl) (by decide +kernel)
set_option maxRecDepth 20000 in
theorem mw69 : (.selects "SnippetShellModel" ⟨"SnippetShellModel", "readParams", "(Z)V"⟩ ⟨"SnippetShellModel", "readParams", "(Z)V"⟩ : Cond) ∈ pm_tbl := pm_in1 69 (by rfl) (by decide +kernel)
set_option maxRecDepth 20000 in
theorem mw70 : (.selects "SnippetShellModel" ⟨"SnippetShellModel", "hasRoom", "()Z"⟩ ⟨"SnippetShellModel", "hasRoom", "()Z"⟩ : Cond) ∈ pm_tbl := pm_in1 70 (by rfl) (by decide +kernel)
set_option maxRecDepth 20000 in
theorem mw71 : (.selects "SnippetShellModel" ⟨"SnippetShellModel", "nameOf", "(J)I"⟩ ⟨"SnippetShellModel", "nameOf", "(J)I"⟩ : Cond) ∈ pm_tbl := pm_in1 71 (by rfl) (by decide +kernel)
set_option maxRecDepth 20000 in
theorem mw72 : (.selects "SnippetShellModel" ⟨"SnippetShellModel", "number", "()V"⟩ ⟨"SnippetShellModel", "number", "()V"⟩ : Cond) ∈ pm_tbl := pm_in1 72 (by rfl) (by decide +kernel)
set_option maxRecDepth 20000 in
theorem mw73 : (.selects "SnippetShellModel" ⟨"SnippetShellModel", "workOut", "()V"⟩ ⟨"SnippetShellModel", "workOut", "()V"⟩ : Cond) ∈ pm_tbl := pm_in1 73 (by rfl) (by decide +kernel)
set_option maxRecDepth 20000 in
theorem mw74 : (.selects "SnippetShellModel" ⟨"SnippetShellModel", "go", "(I)V"⟩ ⟨"SnippetShellModel", "go", "(I)V"⟩ : Cond) ∈ pm_tbl := pm_in1 74 (by rfl) (by decide +kernel)
set_option maxRecDepth 20000 in
theorem mw75 : (.selects "SnippetShellModel" ⟨"SnippetShellModel", "begins", "(I)V"⟩ ⟨"SnippetShellModel", "begins", "(I)V"⟩ : Cond) ∈ pm_tbl := pm_in1 75 (by rfl) (by decide +kernel)
set_option maxRecDepth 20000 in
theorem mw76 : (.selects "SnippetShellModel" ⟨"SnippetShellModel", "fail", "(II)V"⟩ ⟨"SnippetShellModel", "fail", "(II)V"⟩ : Cond) ∈ pm_tbl := pm_in1 76 (by rfl) (by decide +kernel)
set_option maxRecDepth 20000 in
theorem mw77 : (.selects "SnippetShellModel" ⟨"SnippetShellModel", "put", "(IJ)V"⟩ ⟨"SnippetShellModel", "put", "(IJ)V"⟩ : Cond) ∈ pm_tbl := pm_in1 77 (by rfl) (by decide +kernel)
set_option maxRecDepth 20000 in
theorem mw78 : (.selects "SnippetShellModel" ⟨"SnippetShellModel", "named", "(I)V"⟩ ⟨"SnippetShellModel", "named", "(I)V"⟩ : Cond) ∈ pm_tbl := pm_in1 78 (by rfl) (by decide +kernel)
set_option maxRecDepth 20000 in
theorem mw79 : (.selects "SnippetShellModel" ⟨"SnippetShellModel", "argumentOf", "(II)I"⟩ ⟨"SnippetShellModel", "argumentOf", "(II)I"⟩ : Cond) ∈ pm_tbl := pm_in1 79 (by rfl) (by decide +kernel)
set_option maxRecDepth 20000 in
theorem mw80 : (.selects "SnippetShellModel" ⟨"SnippetShellModel", "isCalled", "(I)Z"⟩ ⟨"SnippetShellModel", "isCalled", "(I)Z"⟩ : Cond) ∈ pm_tbl := pm_in1 80 (by rfl) (by decide +kernel)
set_option maxRecDepth 20000 in
theorem mw81 : (.selects "SnippetShellModel" ⟨"SnippetShellModel", "goesOn", "(I)V"⟩ ⟨"SnippetShellModel", "goesOn", "(I)V"⟩ : Cond) ∈ pm_tbl := pm_in1 81 (by rfl) (by decide +kernel)
set_option maxRecDepth 20000 in
theorem mw82 : (.selects "SnippetShellModel" ⟨"SnippetShellModel", "calls", "(I)V"⟩ ⟨"SnippetShellModel", "calls", "(I)V"⟩ : Cond) ∈ pm_tbl := pm_in1 82 (by rfl) (by decide +kernel)
set_option maxRecDepth 20000 in
theorem mw83 : (.selects "SnippetShellModel" ⟨"SnippetShellModel", "dots", "(I)V"⟩ ⟨"SnippetShellModel", "dots", "(I)V"⟩ : Cond) ∈ pm_tbl := pm_in1 83 (by rfl) (by decide +kernel)
set_option maxRecDepth 20000 in
theorem mw84 : (.selects "SnippetShellModel" ⟨"SnippetShellModel", "isOld", "(I)Z"⟩ ⟨"SnippetShellModel", "isOld", "(I)Z"⟩ : Cond) ∈ pm_tbl := pm_in1 84 (by rfl) (by decide +kernel)
set_option maxRecDepth 20000 in
theorem mw85 : (.selects "SnippetShellModel" ⟨"SnippetShellModel", "operates", "(I)V"⟩ ⟨"SnippetShellModel", "operates", "(I)V"⟩ : Cond) ∈ pm_tbl := pm_in1 85 (by rfl) (by decide +kernel)
set_option maxRecDepth 20000 in
theorem mw86 : (.selects "SnippetShellModel" ⟨"SnippetShellModel", "keep", "()I"⟩ ⟨"SnippetShellModel", "keep", "()I"⟩ : Cond) ∈ pm_tbl := pm_in1 86 (by rfl) (by decide +kernel)
set_option maxRecDepth 20000 in
theorem mw87 : (.selects "SnippetShellModel" ⟨"SnippetShellModel", "isName", "(I)Z"⟩ ⟨"SnippetShellModel", "isName", "(I)Z"⟩ : Cond) ∈ pm_tbl := pm_in1 87 (by rfl) (by decide +kernel)
set_option maxRecDepth 20000 in
theorem mw88 : (.selects "SnippetShellModel" ⟨"SnippetShellModel", "reach", "(I)V"⟩ ⟨"SnippetShellModel", "reach", "(I)V"⟩ : Cond) ∈ pm_tbl := pm_in1 88 (by rfl) (by decide +kernel)
set_option maxRecDepth 20000 in
theorem mw89 : (.selects "SnippetShellModel" ⟨"SnippetShellModel", "mark", "(II)V"⟩ ⟨"SnippetShellModel", "mark", "(II)V"⟩ : Cond) ∈ pm_tbl := pm_in1 89 (by rfl) (by decide +kernel)
set_option maxRecDepth 20000 in
theorem mw90 : (.selects "SnippetShellModel" ⟨"SnippetShellModel", "tells", "(II)Z"⟩ ⟨"SnippetShellModel", "tells", "(II)Z"⟩ : Cond) ∈ pm_tbl := pm_in1 90 (by rfl) (by decide +kernel)
set_option maxRecDepth 20000 in
theorem mw92 : (.initialized "SnippetShell" : Cond) ∈ pm_tbl := pm_T1 1 (by rfl) (by decide +kernel)
set_option maxRecDepth 20000 in
theorem mw93 : (.initialized "SnippetShell$Tokens" : Cond) ∈ pm_tbl := pm_T1 2 (by rfl) (by decide +kernel)
set_option maxRecDepth 20000 in
theorem mw94 : (.initialized "SnippetShell$Reader" : Cond) ∈ pm_tbl := pm_T1 3 (by rfl) (by decide +kernel)
set_option maxRecDepth 20000 in
theorem mw95 : (.initialized "SnippetShell$Code" : Cond) ∈ pm_tbl := pm_T1 4 (by rfl) (by decide +kernel)
set_option maxRecDepth 20000 in
theorem mw96 : (.initialized "SnippetShell$Shelf" : Cond) ∈ pm_tbl := pm_T1 5 (by rfl) (by decide +kernel)
set_option maxRecDepth 20000 in
theorem mw97 : (.initialized "SnippetShell$Names" : Cond) ∈ pm_tbl := pm_T1 6 (by rfl) (by decide +kernel)
set_option maxRecDepth 20000 in
theorem mw98 : (.initialized "SnippetShell$Things" : Cond) ∈ pm_tbl := pm_T1 7 (by rfl) (by decide +kernel)
set_option maxRecDepth 20000 in
theorem mw99 : (.initialized "SnippetShell$Values" : Cond) ∈ pm_tbl := pm_T1 8 (by rfl) (by decide +kernel)
set_option maxRecDepth 20000 in
theorem mw100 : (.initialized "SnippetShell$Machine" : Cond) ∈ pm_tbl := pm_T1 9 (by rfl) (by decide +kernel)
set_option maxRecDepth 20000 in
theorem mw101 : (.initialized "SnippetShellModel" : Cond) ∈ pm_tbl := pm_T1 10 (by rfl) (by decide +kernel)
set_option maxRecDepth 20000 in
theorem mw108 : (.initialized "java/lang/System" : Cond) ∈ pm_tbl := pm_T1 17 (by rfl) (by decide +kernel)
set_option maxRecDepth 20000 in
theorem mw109 : (.initialized "java/util/Arrays" : Cond) ∈ pm_tbl := pm_T1 18 (by rfl) (by decide +kernel)
set_option maxRecDepth 20000 in
theorem mw110 : (.initialized "SnippetShell$Snippet" : Cond) ∈ pm_tbl := pm_T1 19 (by rfl) (by decide +kernel)
set_option maxRecDepth 20000 in
theorem mw118 : (.classLink "SnippetShellLaw" 8 "SnippetShell" : Cond) ∈ pm_tbl := pm_T1 27 (by rfl) (by decide +kernel)
set_option maxRecDepth 20000 in
theorem mw119 : (.instantiable "SnippetShell" 6 : Cond) ∈ pm_tbl := pm_T1 28 (by rfl) (by decide +kernel)
set_option maxRecDepth 20000 in
theorem mw120 : (.methodLink "SnippetShellLaw" 23 ⟨"SnippetShell", "<init>", "()V"⟩ : Cond) ∈ pm_tbl := pm_T1 29 (by rfl) (by decide +kernel)
set_option maxRecDepth 20000 in
theorem mw121 : (.instanceMethod ⟨"SnippetShell", "<init>", "()V"⟩ : Cond) ∈ pm_tbl := pm_T1 30 (by rfl) (by decide +kernel)
set_option maxRecDepth 20000 in
theorem mw122 : (.code ⟨"SnippetShell", "<init>", "()V"⟩ prog_1_method_1_code 1 none : Cond) ∈ pm_tbl := pm_T1 31 (by rfl) (by decide +kernel)
set_option maxRecDepth 20000 in
theorem mw123 : (.methodLink "SnippetShell" 1 ⟨"java/lang/Object", "<init>", "()V"⟩ : Cond) ∈ pm_tbl := pm_T1 32 (by rfl) (by decide +kernel)
set_option maxRecDepth 20000 in
theorem mw124 : (.instanceMethod ⟨"java/lang/Object", "<init>", "()V"⟩ : Cond) ∈ pm_tbl := pm_T1 33 (by rfl) (by decide +kernel)
set_option maxRecDepth 20000 in
theorem mw125 : (.code ⟨"java/lang/Object", "<init>", "()V"⟩ object_method_1_code 1 none : Cond) ∈ pm_tbl := pm_T1 34 (by rfl) (by decide +kernel)
set_option maxRecDepth 20000 in
theorem mw126 : (.classLink "SnippetShell" 13 "SnippetShell$Tokens" : Cond) ∈ pm_tbl := pm_T1 35 (by rfl) (by decide +kernel)
set_option maxRecDepth 20000 in
theorem mw127 : (.instantiable "SnippetShell$Tokens" 4 : Cond) ∈ pm_tbl := pm_T1 36 (by rfl) (by decide +kernel)
set_option maxRecDepth 20000 in
theorem mw129 : (.instanceMethod ⟨"SnippetShell$Tokens", "<init>", "()V"⟩ : Cond) ∈ pm_tbl := pm_T1 38 (by rfl) (by decide +kernel)
set_option maxRecDepth 20000 in
theorem mw130 : (.code ⟨"SnippetShell$Tokens", "<init>", "()V"⟩ prog_9_method_1_code 1 none : Cond) ∈ pm_tbl := pm_T1 39 (by rfl) (by decide +kernel)
set_option maxRecDepth 20000 in
theorem mw131 : (.methodLink "SnippetShell$Tokens" 1 ⟨"java/lang/Object", "<init>", "()V"⟩ : Cond) ∈ pm_tbl := pm_T1 40 (by rfl) (by decide +kernel)
set_option maxRecDepth 20000 in
theorem mw132 : (.fieldLink "SnippetShell$Tokens" 9 "SnippetShell$Tokens" "kinds" "[I" : Cond) ∈ pm_tbl := pm_T1 41 (by rfl) (by decide +kernel)
set_option maxRecDepth 20000 in
theorem mw133 : (.fieldLink "SnippetShell$Tokens" 13 "SnippetShell$Tokens" "places" "[I" : Cond) ∈ pm_tbl := pm_T1 42 (by rfl) (by decide +kernel)
set_option maxRecDepth 20000 in
theorem mw134 : (.fieldLink "SnippetShell$Tokens" 16 "SnippetShell$Tokens" "cores" "[J" : Cond) ∈ pm_tbl := pm_T1 43 (by rfl) (by decide +kernel)
set_option maxRecDepth 20000 in
theorem mw135 : (.fieldLink "SnippetShell$Tokens" 20 "SnippetShell$Tokens" "count" "I" : Cond) ∈ pm_tbl := pm_T1 44 (by rfl) (by decide +kernel)
set_option maxRecDepth 20000 in
theorem mw145 : (.arrayClass .byte : Cond) ∈ pm_tbl := pm_T1 54 (by rfl) (by decide +kernel)
set_option maxRecDepth 20000 in
theorem mw146 : (.arrayClass .int : Cond) ∈ pm_tbl := pm_T1 55 (by rfl) (by decide +kernel)
set_option maxRecDepth 20000 in
theorem mw147 : (.arrayClass .long : Cond) ∈ pm_tbl := pm_T1 56 (by rfl) (by decide +kernel)
set_option maxRecDepth 20000 in
theorem mw148 : (.classLink "SnippetShell" 20 "SnippetShell$Reader" : Cond) ∈ pm_tbl := pm_T1 57 (by rfl) (by decide +kernel)
set_option maxRecDepth 20000 in
theorem mw149 : (.instantiable "SnippetShell$Reader" 9 : Cond) ∈ pm_tbl := pm_T1 58 (by rfl) (by decide +kernel)
set_option maxRecDepth 20000 in
theorem mw150 : (.methodLink "SnippetShell" 22 ⟨"SnippetShell$Reader", "<init>", "(LSnippetShell$Tokens;)V"⟩ : Cond) ∈ pm_tbl := pm_T1 59 (by rfl) (by decide +kernel)
set_option maxRecDepth 20000 in
theorem mw151 : (.instanceMethod ⟨"SnippetShell$Reader", "<init>", "(LSnippetShell$Tokens;)V"⟩ : Cond) ∈ pm_tbl := pm_T1 60 (by rfl) (by decide +kernel)
set_option maxRecDepth 20000 in
theorem mw152 : (.code ⟨"SnippetShell$Reader", "<init>", "(LSnippetShell$Tokens;)V"⟩ prog_5_method_1_code 2 none : Cond) ∈ pm_tbl := pm_T1 61 (by rfl) (by decide +kernel)
set_option maxRecDepth 20000 in
theorem mw153 : (.methodLink "SnippetShell$Reader" 3 ⟨"java/lang/Object", "<init>", "()V"⟩ : Cond) ∈ pm_tbl := pm_T1 62 (by rfl) (by decide +kernel)
set_option maxRecDepth 20000 in
theorem mw154 : (.classLink "SnippetShell$Reader" 9 "SnippetShell$Code" : Cond) ∈ pm_tbl := pm_T1 63 (by rfl) (by decide +kernel)
set_option maxRecDepth 20000 in
theorem mw155 : (.instantiable "SnippetShell$Code" 6 : Cond) ∈ pm_tbl := pm_T1 64 (by rfl) (by decide +kernel)
set_option maxRecDepth 20000 in
theorem mw156 : (.methodLink "SnippetShell$Reader" 11 ⟨"SnippetShell$Code", "<init>", "(I)V"⟩ : Cond) ∈ pm_tbl := pm_T1 65 (by rfl) (by decide +kernel)
set_option maxRecDepth 20000 in
theorem mw157 : (.instanceMethod ⟨"SnippetShell$Code", "<init>", "(I)V"⟩ : Cond) ∈ pm_tbl := pm_T1 66 (by rfl) (by decide +kernel)
set_option maxRecDepth 20000 in
theorem mw158 : (.code ⟨"SnippetShell$Code", "<init>", "(I)V"⟩ prog_2_method_1_code 2 none : Cond) ∈ pm_tbl := pm_T1 67 (by rfl) (by decide +kernel)
set_option maxRecDepth 20000 in
theorem mw159 : (.methodLink "SnippetShell$Code" 3 ⟨"java/lang/Object", "<init>", "()V"⟩ : Cond) ∈ pm_tbl := pm_T1 68 (by rfl) (by decide +kernel)
set_option maxRecDepth 20000 in
theorem mw160 : (.fieldLink "SnippetShell$Code" 9 "SnippetShell$Code" "deeds" "[I" : Cond) ∈ pm_tbl := pm_T1 69 (by rfl) (by decide +kernel)
set_option maxRecDepth 20000 in
theorem mw161 : (.fieldLink "SnippetShell$Code" 15 "SnippetShell$Code" "places" "[I" : Cond) ∈ pm_tbl := pm_T1 70 (by rfl) (by decide +kernel)
set_option maxRecDepth 20000 in
theorem mw162 : (.fieldLink "SnippetShell$Code" 18 "SnippetShell$Code" "counts" "[I" : Cond) ∈ pm_tbl := pm_T1 71 (by rfl) (by decide +kernel)
set_option maxRecDepth 20000 in
theorem mw163 : (.fieldLink "SnippetShell$Code" 21 "SnippetShell$Code" "cores" "[J" : Cond) ∈ pm_tbl := pm_T1 72 (by rfl) (by decide +kernel)
set_option maxRecDepth 20000 in
theorem mw164 : (.fieldLink "SnippetShell$Code" 25 "SnippetShell$Code" "size" "I" : Cond) ∈ pm_tbl := pm_T1 73 (by rfl) (by decide +kernel)
set_option maxRecDepth 20000 in
theorem mw165 : (.fieldLink "SnippetShell$Code" 29 "SnippetShell$Code" "owner" "I" : Cond) ∈ pm_tbl := pm_T1 74 (by rfl) (by decide +kernel)
set_option maxRecDepth 20000 in
theorem mw179 : (.fieldLink "SnippetShell$Reader" 24 "SnippetShell$Reader" "tokens" "LSnippetShell$Tokens;" : Cond) ∈ pm_tbl := pm_T1 88 (by rfl) (by decide +kernel)
set_option maxRecDepth 20000 in
theorem mw180 : (.fieldLink "SnippetShell$Reader" 14 "SnippetShell$Reader" "code" "LSnippetShell$Code;" : Cond) ∈ pm_tbl := pm_T1 89 (by rfl) (by decide +kernel)
set_option maxRecDepth 20000 in
theorem mw181 : (.fieldLink "SnippetShell$Reader" 20 "SnippetShell$Reader" "parts" "[J" : Cond) ∈ pm_tbl := pm_T1 90 (by rfl) (by decide +kernel)
set_option maxRecDepth 20000 in
theorem mw182 : (.fieldLink "SnippetShell$Reader" 31 "SnippetShell$Reader" "partCount" "I" : Cond) ∈ pm_tbl := pm_T1 91 (by rfl) (by decide +kernel)
set_option maxRecDepth 20000 in
theorem mw183 : (.fieldLink "SnippetShell$Reader" 77 "SnippetShell$Reader" "form" "I" : Cond) ∈ pm_tbl := pm_T1 92 (by rfl) (by decide +kernel)
set_option maxRecDepth 20000 in
theorem mw184 : (.fieldLink "SnippetShell$Reader" 35 "SnippetShell$Reader" "declared" "J" : Cond) ∈ pm_tbl := pm_T1 93 (by rfl) (by decide +kernel)
set_option maxRecDepth 20000 in
theorem mw185 : (.fieldLink "SnippetShell$Reader" 39 "SnippetShell$Reader" "at" "I" : Cond) ∈ pm_tbl := pm_T1 94 (by rfl) (by decide +kernel)
set_option maxRecDepth 20000 in
theorem mw186 : (.fieldLink "SnippetShell$Reader" 42 "SnippetShell$Reader" "open" "I" : Cond) ∈ pm_tbl := pm_T1 95 (by rfl) (by decide +kernel)
set_option maxRecDepth 20000 in
theorem mw187 : (.fieldLink "SnippetShell$Reader" 45 "SnippetShell$Reader" "fault" "I" : Cond) ∈ pm_tbl := pm_T1 96 (by rfl) (by decide +kernel)
set_option maxRecDepth 20000 in
theorem mw207 : (.classLink "SnippetShell" 29 "SnippetShell$Shelf" : Cond) ∈ pm_tbl := pm_T1 116 (by rfl) (by decide +kernel)
set_option maxRecDepth 20000 in
theorem mw208 : (.instantiable "SnippetShell$Shelf" 7 : Cond) ∈ pm_tbl := pm_T1 117 (by rfl) (by decide +kernel)
set_option maxRecDepth 20000 in
theorem mw210 : (.instanceMethod ⟨"SnippetShell$Shelf", "<init>", "()V"⟩ : Cond) ∈ pm_tbl := pm_T1 119 (by rfl) (by decide +kernel)
set_option maxRecDepth 20000 in
theorem mw211 : (.code ⟨"SnippetShell$Shelf", "<init>", "()V"⟩ prog_6_method_1_code 1 none : Cond) ∈ pm_tbl := pm_T1 120 (by rfl) (by decide +kernel)
set_option maxRecDepth 20000 in
theorem mw212 : (.methodLink "SnippetShell$Shelf" 3 ⟨"java/lang/Object", "<init>", "()V"⟩ : Cond) ∈ pm_tbl := pm_T1 121 (by rfl) (by decide +kernel)
set_option maxRecDepth 20000 in
theorem mw213 : (.classLink "SnippetShell$Shelf" 9 "SnippetShell$Names" : Cond) ∈ pm_tbl := pm_T1 122 (by rfl) (by decide +kernel)
set_option maxRecDepth 20000 in
theorem mw214 : (.instantiable "SnippetShell$Names" 5 : Cond) ∈ pm_tbl := pm_T1 123 (by rfl) (by decide +kernel)
set_option maxRecDepth 20000 in
theorem mw216 : (.instanceMethod ⟨"SnippetShell$Names", "<init>", "()V"⟩ : Cond) ∈ pm_tbl := pm_T1 125 (by rfl) (by decide +kernel)
set_option maxRecDepth 20000 in
theorem mw217 : (.code ⟨"SnippetShell$Names", "<init>", "()V"⟩ prog_4_method_1_code 1 none : Cond) ∈ pm_tbl := pm_T1 126 (by rfl) (by decide +kernel)
set_option maxRecDepth 20000 in
theorem mw218 : (.methodLink "SnippetShell$Names" 3 ⟨"java/lang/Object", "<init>", "()V"⟩ : Cond) ∈ pm_tbl := pm_T1 127 (by rfl) (by decide +kernel)
set_option maxRecDepth 20000 in
theorem mw219 : (.fieldLink "SnippetShell$Names" 11 "SnippetShell$Names" "letters" "[J" : Cond) ∈ pm_tbl := pm_T1 128 (by rfl) (by decide +kernel)
set_option maxRecDepth 20000 in
theorem mw220 : (.fieldLink "SnippetShell$Names" 15 "SnippetShell$Names" "forms" "[I" : Cond) ∈ pm_tbl := pm_T1 129 (by rfl) (by decide +kernel)
set_option maxRecDepth 20000 in
theorem mw221 : (.fieldLink "SnippetShell$Names" 19 "SnippetShell$Names" "declarers" "[I" : Cond) ∈ pm_tbl := pm_T1 130 (by rfl) (by decide +kernel)
set_option maxRecDepth 20000 in
theorem mw222 : (.fieldLink "SnippetShell$Names" 22 "SnippetShell$Names" "editions" "[I" : Cond) ∈ pm_tbl := pm_T1 131 (by rfl) (by decide +kernel)
set_option maxRecDepth 20000 in
theorem mw223 : (.fieldLink "SnippetShell$Names" 25 "SnippetShell$Names" "count" "I" : Cond) ∈ pm_tbl := pm_T1 132 (by rfl) (by decide +kernel)
set_option maxRecDepth 20000 in
theorem mw235 : (.classLink "SnippetShell$Shelf" 18 "SnippetShell$Things" : Cond) ∈ pm_tbl := pm_T1 144 (by rfl) (by decide +kernel)
set_option maxRecDepth 20000 in
theorem mw236 : (.instantiable "SnippetShell$Things" 6 : Cond) ∈ pm_tbl := pm_T1 145 (by rfl) (by decide +kernel)
set_option maxRecDepth 20000 in
theorem mw238 : (.instanceMethod ⟨"SnippetShell$Things", "<init>", "()V"⟩ : Cond) ∈ pm_tbl := pm_T1 147 (by rfl) (by decide +kernel)
set_option maxRecDepth 20000 in
theorem mw239 : (.code ⟨"SnippetShell$Things", "<init>", "()V"⟩ prog_8_method_1_code 1 none : Cond) ∈ pm_tbl := pm_T1 148 (by rfl) (by decide +kernel)
set_option maxRecDepth 20000 in
theorem mw240 : (.methodLink "SnippetShell$Things" 3 ⟨"java/lang/Object", "<init>", "()V"⟩ : Cond) ∈ pm_tbl := pm_T1 149 (by rfl) (by decide +kernel)
set_option maxRecDepth 20000 in
theorem mw241 : (.fieldLink "SnippetShell$Things" 11 "SnippetShell$Things" "types" "[I" : Cond) ∈ pm_tbl := pm_T1 150 (by rfl) (by decide +kernel)
set_option maxRecDepth 20000 in
theorem mw242 : (.fieldLink "SnippetShell$Things" 15 "SnippetShell$Things" "editions" "[I" : Cond) ∈ pm_tbl := pm_T1 151 (by rfl) (by decide +kernel)
set_option maxRecDepth 20000 in
theorem mw243 : (.fieldLink "SnippetShell$Things" 18 "SnippetShell$Things" "sizes" "[I" : Cond) ∈ pm_tbl := pm_T1 152 (by rfl) (by decide +kernel)
set_option maxRecDepth 20000 in
theorem mw244 : (.fieldLink "SnippetShell$Things" 21 "SnippetShell$Things" "fieldKinds" "[I" : Cond) ∈ pm_tbl := pm_T1 153 (by rfl) (by decide +kernel)
set_option maxRecDepth 20000 in
theorem mw245 : (.fieldLink "SnippetShell$Things" 24 "SnippetShell$Things" "fieldCores" "[J" : Cond) ∈ pm_tbl := pm_T1 154 (by rfl) (by decide +kernel)
set_option maxRecDepth 20000 in
theorem mw246 : (.fieldLink "SnippetShell$Things" 28 "SnippetShell$Things" "count" "I" : Cond) ∈ pm_tbl := pm_T1 155 (by rfl) (by decide +kernel)
set_option maxRecDepth 20000 in
theorem mw260 : (.classLink "SnippetShell$Shelf" 25 "SnippetShell$Values" : Cond) ∈ pm_tbl := pm_T1 169 (by rfl) (by decide +kernel)
set_option maxRecDepth 20000 in
theorem mw261 : (.instantiable "SnippetShell$Values" 2 : Cond) ∈ pm_tbl := pm_T1 170 (by rfl) (by decide +kernel)
set_option maxRecDepth 20000 in
theorem mw262 : (.methodLink "SnippetShell$Shelf" 27 ⟨"SnippetShell$Values", "<init>", "(I)V"⟩ : Cond) ∈ pm_tbl := pm_T1 171 (by rfl) (by decide +kernel)
set_option maxRecDepth 20000 in
theorem mw263 : (.instanceMethod ⟨"SnippetShell$Values", "<init>", "(I)V"⟩ : Cond) ∈ pm_tbl := pm_T1 172 (by rfl) (by decide +kernel)
set_option maxRecDepth 20000 in
theorem mw264 : (.code ⟨"SnippetShell$Values", "<init>", "(I)V"⟩ prog_10_method_1_code 2 none : Cond) ∈ pm_tbl := pm_T1 173 (by rfl) (by decide +kernel)
set_option maxRecDepth 20000 in
theorem mw265 : (.methodLink "SnippetShell$Values" 1 ⟨"java/lang/Object", "<init>", "()V"⟩ : Cond) ∈ pm_tbl := pm_T1 174 (by rfl) (by decide +kernel)
set_option maxRecDepth 20000 in
theorem mw266 : (.fieldLink "SnippetShell$Values" 7 "SnippetShell$Values" "kinds" "[I" : Cond) ∈ pm_tbl := pm_T1 175 (by rfl) (by decide +kernel)
set_option maxRecDepth 20000 in
theorem mw267 : (.fieldLink "SnippetShell$Values" 13 "SnippetShell$Values" "cores" "[J" : Cond) ∈ pm_tbl := pm_T1 176 (by rfl) (by decide +kernel)
set_option maxRecDepth 20000 in
theorem mw273 : (.classLink "SnippetShell$Shelf" 37 "SnippetShell$Snippet" : Cond) ∈ pm_tbl := pm_T1 182 (by rfl) (by decide +kernel)
set_option maxRecDepth 20000 in
theorem mw275 : (.fieldLink "SnippetShell$Shelf" 12 "SnippetShell$Shelf" "names" "LSnippetShell$Names;" : Cond) ∈ pm_tbl := pm_T1 184 (by rfl) (by decide +kernel)
set_option maxRecDepth 20000 in
theorem mw276 : (.fieldLink "SnippetShell" 72 "SnippetShell$Shelf" "names" "LSnippetShell$Names;" : Cond) ∈ pm_tbl := pm_T1 185 (by rfl) (by decide +kernel)
set_option maxRecDepth 20000 in
theorem mw277 : (.fieldLink "SnippetShell$Machine" 172 "SnippetShell$Shelf" "names" "LSnippetShell$Names;" : Cond) ∈ pm_tbl := pm_T1 186 (by rfl) (by decide +kernel)
set_option maxRecDepth 20000 in
theorem mw278 : (.fieldLink "SnippetShell$Shelf" 21 "SnippetShell$Shelf" "things" "LSnippetShell$Things;" : Cond) ∈ pm_tbl := pm_T1 187 (by rfl) (by decide +kernel)
set_option maxRecDepth 20000 in
theorem mw279 : (.fieldLink "SnippetShell" 115 "SnippetShell$Shelf" "things" "LSnippetShell$Things;" : Cond) ∈ pm_tbl := pm_T1 188 (by rfl) (by decide +kernel)
set_option maxRecDepth 20000 in
theorem mw280 : (.fieldLink "SnippetShell$Machine" 67 "SnippetShell$Shelf" "things" "LSnippetShell$Things;" : Cond) ∈ pm_tbl := pm_T1 189 (by rfl) (by decide +kernel)
set_option maxRecDepth 20000 in
theorem mw281 : (.fieldLink "SnippetShell$Shelf" 30 "SnippetShell$Shelf" "variables" "LSnippetShell$Values;" : Cond) ∈ pm_tbl := pm_T1 190 (by rfl) (by decide +kernel)
set_option maxRecDepth 20000 in
theorem mw282 : (.fieldLink "SnippetShell$Machine" 183 "SnippetShell$Shelf" "variables" "LSnippetShell$Values;" : Cond) ∈ pm_tbl := pm_T1 191 (by rfl) (by decide +kernel)
set_option maxRecDepth 20000 in
theorem mw283 : (.fieldLink "SnippetShell$Shelf" 34 "SnippetShell$Shelf" "results" "LSnippetShell$Values;" : Cond) ∈ pm_tbl := pm_T1 192 (by rfl) (by decide +kernel)
set_option maxRecDepth 20000 in
theorem mw284 : (.fieldLink "SnippetShell" 93 "SnippetShell$Shelf" "results" "LSnippetShell$Values;" : Cond) ∈ pm_tbl := pm_T1 193 (by rfl) (by decide +kernel)
set_option maxRecDepth 20000 in
theorem mw285 : (.fieldLink "SnippetShell$Machine" 169 "SnippetShell$Shelf" "results" "LSnippetShell$Values;" : Cond) ∈ pm_tbl := pm_T1 194 (by rfl) (by decide +kernel)
set_option maxRecDepth 20000 in
theorem mw286 : (.fieldLink "SnippetShell$Shelf" 39 "SnippetShell$Shelf" "snippets" "[LSnippetShell$Snippet;" : Cond) ∈ pm_tbl := pm_T1 195 (by rfl) (by decide +kernel)
set_option maxRecDepth 20000 in
theorem mw287 : (.fieldLink "SnippetShell$Shelf" 49 "SnippetShell$Shelf" "kept" "I" : Cond) ∈ pm_tbl := pm_T1 196 (by rfl) (by decide +kernel)
set_option maxRecDepth 20000 in
theorem mw288 : (.fieldLink "SnippetShell$Shelf" 53 "SnippetShell$Shelf" "resultCount" "I" : Cond) ∈ pm_tbl := pm_T1 197 (by rfl) (by decide +kernel)
set_option maxRecDepth 20000 in
theorem mw304 : (.classLink "SnippetShell" 36 "SnippetShell$Machine" : Cond) ∈ pm_tbl := pm_T1 213 (by rfl) (by decide +kernel)
set_option maxRecDepth 20000 in
theorem mw305 : (.instantiable "SnippetShell$Machine" 14 : Cond) ∈ pm_tbl := pm_T1 214 (by rfl) (by decide +kernel)
set_option maxRecDepth 20000 in
theorem mw306 : (.methodLink "SnippetShell" 38 ⟨"SnippetShell$Machine", "<init>", "(LSnippetShell$Shelf;)V"⟩ : Cond) ∈ pm_tbl := pm_T1 215 (by rfl) (by decide +kernel)
set_option maxRecDepth 20000 in
theorem mw307 : (.instanceMethod ⟨"SnippetShell$Machine", "<init>", "(LSnippetShell$Shelf;)V"⟩ : Cond) ∈ pm_tbl := pm_T1 216 (by rfl) (by decide +kernel)
set_option maxRecDepth 20000 in
theorem mw308 : (.code ⟨"SnippetShell$Machine", "<init>", "(LSnippetShell$Shelf;)V"⟩ prog_3_method_1_code 2 none : Cond) ∈ pm_tbl := pm_T1 217 (by rfl) (by decide +kernel)
set_option maxRecDepth 20000 in
theorem mw309 : (.methodLink "SnippetShell$Machine" 1 ⟨"java/lang/Object", "<init>", "()V"⟩ : Cond) ∈ pm_tbl := pm_T1 218 (by rfl) (by decide +kernel)
set_option maxRecDepth 20000 in
theorem mw310 : (.classLink "SnippetShell$Machine" 7 "SnippetShell$Values" : Cond) ∈ pm_tbl := pm_T1 219 (by rfl) (by decide +kernel)
set_option maxRecDepth 20000 in
theorem mw311 : (.methodLink "SnippetShell$Machine" 11 ⟨"SnippetShell$Values", "<init>", "(I)V"⟩ : Cond) ∈ pm_tbl := pm_T1 220 (by rfl) (by decide +kernel)
set_option maxRecDepth 20000 in
theorem mw312 : (.classLink "SnippetShell$Machine" 18 "SnippetShell$Code" : Cond) ∈ pm_tbl := pm_T1 221 (by rfl) (by decide +kernel)
set_option maxRecDepth 20000 in
theorem mw314 : (.methodLink "SnippetShell$Machine" 34 ⟨"SnippetShell$Code", "<init>", "(I)V"⟩ : Cond) ∈ pm_tbl := pm_T1 223 (by rfl) (by decide +kernel)
set_option maxRecDepth 20000 in
theorem mw315 : (.fieldLink "SnippetShell$Machine" 39 "SnippetShell$Machine" "shelf" "LSnippetShell$Shelf;" : Cond) ∈ pm_tbl := pm_T1 224 (by rfl) (by decide +kernel)
set_option maxRecDepth 20000 in
theorem mw316 : (.fieldLink "SnippetShell$Machine" 14 "SnippetShell$Machine" "row" "LSnippetShell$Values;" : Cond) ∈ pm_tbl := pm_T1 225 (by rfl) (by decide +kernel)
set_option maxRecDepth 20000 in
theorem mw317 : (.fieldLink "SnippetShell$Machine" 20 "SnippetShell$Machine" "callers" "[LSnippetShell$Code;" : Cond) ∈ pm_tbl := pm_T1 226 (by rfl) (by decide +kernel)
set_option maxRecDepth 20000 in
theorem mw318 : (.fieldLink "SnippetShell$Machine" 24 "SnippetShell$Machine" "returns" "[I" : Cond) ∈ pm_tbl := pm_T1 227 (by rfl) (by decide +kernel)
set_option maxRecDepth 20000 in
theorem mw319 : (.fieldLink "SnippetShell$Machine" 28 "SnippetShell$Machine" "bases" "[I" : Cond) ∈ pm_tbl := pm_T1 228 (by rfl) (by decide +kernel)
set_option maxRecDepth 20000 in
theorem mw320 : (.fieldLink "SnippetShell$Machine" 31 "SnippetShell$Machine" "report" "[I" : Cond) ∈ pm_tbl := pm_T1 229 (by rfl) (by decide +kernel)
set_option maxRecDepth 20000 in
theorem mw321 : (.fieldLink "SnippetShell$Machine" 35 "SnippetShell$Machine" "code" "LSnippetShell$Code;" : Cond) ∈ pm_tbl := pm_T1 230 (by rfl) (by decide +kernel)
set_option maxRecDepth 20000 in
theorem mw322 : (.fieldLink "SnippetShell$Machine" 101 "SnippetShell$Machine" "now" "I" : Cond) ∈ pm_tbl := pm_T1 231 (by rfl) (by decide +kernel)
set_option maxRecDepth 20000 in
theorem mw323 : (.fieldLink "SnippetShell$Machine" 79 "SnippetShell$Machine" "next" "I" : Cond) ∈ pm_tbl := pm_T1 232 (by rfl) (by decide +kernel)
set_option maxRecDepth 20000 in
theorem mw324 : (.fieldLink "SnippetShell$Machine" 82 "SnippetShell$Machine" "base" "I" : Cond) ∈ pm_tbl := pm_T1 233 (by rfl) (by decide +kernel)
set_option maxRecDepth 20000 in
theorem mw325 : (.fieldLink "SnippetShell$Machine" 56 "SnippetShell$Machine" "top" "I" : Cond) ∈ pm_tbl := pm_T1 234 (by rfl) (by decide +kernel)
set_option maxRecDepth 20000 in
theorem mw326 : (.fieldLink "SnippetShell$Machine" 85 "SnippetShell$Machine" "members" "I" : Cond) ∈ pm_tbl := pm_T1 235 (by rfl) (by decide +kernel)
set_option maxRecDepth 20000 in
theorem mw327 : (.fieldLink "SnippetShell$Machine" 46 "SnippetShell$Machine" "stepsInAll" "I" : Cond) ∈ pm_tbl := pm_T1 236 (by rfl) (by decide +kernel)
set_option maxRecDepth 20000 in
theorem mw328 : (.fieldLink "SnippetShell$Machine" 88 "SnippetShell$Machine" "working" "Z" : Cond) ∈ pm_tbl := pm_T1 237 (by rfl) (by decide +kernel)
set_option maxRecDepth 20000 in
theorem mw358 : (.fieldLink "SnippetShell" 9 "SnippetShell" "signs" "[B" : Cond) ∈ pm_tbl := pm_T2 27 (by rfl) (by decide +kernel)
set_option maxRecDepth 20000 in
theorem mw359 : (.fieldLink "SnippetShell" 16 "SnippetShell" "tokens" "LSnippetShell$Tokens;" : Cond) ∈ pm_tbl := pm_T2 28 (by rfl) (by decide +kernel)
set_option maxRecDepth 20000 in
theorem mw360 : (.fieldLink "SnippetShell" 25 "SnippetShell" "reader" "LSnippetShell$Reader;" : Cond) ∈ pm_tbl := pm_T2 29 (by rfl) (by decide +kernel)
set_option maxRecDepth 20000 in
theorem mw361 : (.fieldLink "SnippetShell" 32 "SnippetShell" "shelf" "LSnippetShell$Shelf;" : Cond) ∈ pm_tbl := pm_T2 30 (by rfl) (by decide +kernel)
set_option maxRecDepth 20000 in
theorem mw362 : (.fieldLink "SnippetShell" 41 "SnippetShell" "machine" "LSnippetShell$Machine;" : Cond) ∈ pm_tbl := pm_T2 31 (by rfl) (by decide +kernel)
set_option maxRecDepth 20000 in
theorem mw363 : (.fieldLink "SnippetShell" 49 "SnippetShell" "length" "I" : Cond) ∈ pm_tbl := pm_T2 32 (by rfl) (by decide +kernel)
set_option maxRecDepth 20000 in
theorem mw377 : (.methodLink "SnippetShellLaw" 29 ⟨"SnippetShell", "signs", "(J)I"⟩ : Cond) ∈ pm_tbl := pm_T2 46 (by rfl) (by decide +kernel)
set_option maxRecDepth 20000 in
theorem mw378 : (.instanceMethod ⟨"SnippetShell", "signs", "(J)I"⟩ : Cond) ∈ pm_tbl := pm_T2 47 (by rfl) (by decide +kernel)
set_option maxRecDepth 20000 in
theorem mw379 : (.selects "SnippetShell" ⟨"SnippetShell", "signs", "(J)I"⟩ ⟨"SnippetShell", "signs", "(J)I"⟩ : Cond) ∈ pm_tbl := pm_T2 48 (by rfl) (by decide +kernel)
set_option maxRecDepth 20000 in
theorem mw380 : (.code ⟨"SnippetShell", "signs", "(J)I"⟩ prog_1_method_2_code 6 (some .int) : Cond) ∈ pm_tbl := pm_T2 49 (by rfl) (by decide +kernel)
set_option maxRecDepth 20000 in
theorem mw381 : (.methodLink "SnippetShell" 45 ⟨"SnippetShell", "byteOf", "(JI)I"⟩ : Cond) ∈ pm_tbl := pm_T2 50 (by rfl) (by decide +kernel)
set_option maxRecDepth 20000 in
theorem mw382 : (.static ⟨"SnippetShell", "byteOf", "(JI)I"⟩ : Cond) ∈ pm_tbl := pm_T2 51 (by rfl) (by decide +kernel)
set_option maxRecDepth 20000 in
theorem mw383 : (.code ⟨"SnippetShell", "byteOf", "(JI)I"⟩ prog_1_method_19_code 3 (some .int) : Cond) ∈ pm_tbl := pm_T2 52 (by rfl) (by decide +kernel)
set_option maxRecDepth 20000 in
theorem mw384 : (.methodLink "SnippetShell" 53 ⟨"SnippetShell", "addSign", "(I)V"⟩ : Cond) ∈ pm_tbl := pm_T2 53 (by rfl) (by decide +kernel)
set_option maxRecDepth 20000 in
theorem mw386 : (.instanceMethod ⟨"SnippetShell", "addSign", "(I)V"⟩ : Cond) ∈ pm_tbl := pm_T2 55 (by rfl) (by decide +kernel)
set_option maxRecDepth 20000 in
theorem mw387 : (.code ⟨"SnippetShell", "addSign", "(I)V"⟩ prog_1_method_20_code 2 none : Cond) ∈ pm_tbl := pm_T2 56 (by rfl) (by decide +kernel)
set_option maxRecDepth 20000 in
theorem mw388 : (.methodLink "SnippetShellLaw" 34 ⟨"SnippetShell", "run", "()I"⟩ : Cond) ∈ pm_tbl := pm_T2 57 (by rfl) (by decide +kernel)
set_option maxRecDepth 20000 in
theorem mw389 : (.instanceMethod ⟨"SnippetShell", "run", "()I"⟩ : Cond) ∈ pm_tbl := pm_T2 58 (by rfl) (by decide +kernel)
set_option maxRecDepth 20000 in
theorem mw390 : (.selects "SnippetShell" ⟨"SnippetShell", "run", "()I"⟩ ⟨"SnippetShell", "run", "()I"⟩ : Cond) ∈ pm_tbl := pm_T2 59 (by rfl) (by decide +kernel)
set_option maxRecDepth 20000 in
theorem mw391 : (.code ⟨"SnippetShell", "run", "()I"⟩ prog_1_method_3_code 3 (some .int) : Cond) ∈ pm_tbl := pm_T2 60 (by rfl) (by decide +kernel)
set_option maxRecDepth 20000 in
theorem mw392 : (.methodLink "SnippetShell" 57 ⟨"SnippetShell$Shelf", "isFull", "()Z"⟩ : Cond) ∈ pm_tbl := pm_T2 61 (by rfl) (by decide +kernel)
set_option maxRecDepth 20000 in
theorem mw393 : (.instanceMethod ⟨"SnippetShell$Shelf", "isFull", "()Z"⟩ : Cond) ∈ pm_tbl := pm_T2 62 (by rfl) (by decide +kernel)
set_option maxRecDepth 20000 in
theorem mw394 : (.selects "SnippetShell$Shelf" ⟨"SnippetShell$Shelf", "isFull", "()Z"⟩ ⟨"SnippetShell$Shelf", "isFull", "()Z"⟩ : Cond) ∈ pm_tbl := pm_T2 63 (by rfl) (by decide +kernel)
set_option maxRecDepth 20000 in
theorem mw395 : (.code ⟨"SnippetShell$Shelf", "isFull", "()Z"⟩ prog_6_method_3_code 1 (some .boolean) : Cond) ∈ pm_tbl := pm_T2 64 (by rfl) (by decide +kernel)
set_option maxRecDepth 20000 in
theorem mw396 : (.methodLink "SnippetShell" 61 ⟨"SnippetShell$Tokens", "cut", "([BI)V"⟩ : Cond) ∈ pm_tbl := pm_T2 65 (by rfl) (by decide +kernel)
set_option maxRecDepth 20000 in
theorem mw397 : (.instanceMethod ⟨"SnippetShell$Tokens", "cut", "([BI)V"⟩ : Cond) ∈ pm_tbl := pm_T2 66 (by rfl) (by decide +kernel)
set_option maxRecDepth 20000 in
theorem mw398 : (.selects "SnippetShell$Tokens" ⟨"SnippetShell$Tokens", "cut", "([BI)V"⟩ ⟨"SnippetShell$Tokens", "cut", "([BI)V"⟩ : Cond) ∈ pm_tbl := pm_T2 67 (by rfl) (by decide +kernel)
set_option maxRecDepth 20000 in
theorem mw399 : (.code ⟨"SnippetShell$Tokens", "cut", "([BI)V"⟩ prog_9_method_2_code 6 none : Cond) ∈ pm_tbl := pm_T2 68 (by rfl) (by decide +kernel)
set_option maxRecDepth 20000 in
theorem mw400 : (.methodLink "SnippetShell$Tokens" 24 ⟨"SnippetShell$Tokens", "afterBlanks", "([BII)I"⟩ : Cond) ∈ pm_tbl := pm_T2 69 (by rfl) (by decide +kernel)
set_option maxRecDepth 20000 in
theorem mw401 : (.static ⟨"SnippetShell$Tokens", "afterBlanks", "([BII)I"⟩ : Cond) ∈ pm_tbl := pm_T2 70 (by rfl) (by decide +kernel)
set_option maxRecDepth 20000 in
theorem mw402 : (.code ⟨"SnippetShell$Tokens", "afterBlanks", "([BII)I"⟩ prog_9_method_7_code 4 (some .int) : Cond) ∈ pm_tbl := pm_T2 71 (by rfl) (by decide +kernel)
set_option maxRecDepth 20000 in
theorem mw403 : (.methodLink "SnippetShell$Tokens" 28 ⟨"SnippetShell$Tokens", "cutOne", "([BII)I"⟩ : Cond) ∈ pm_tbl := pm_T2 72 (by rfl) (by decide +kernel)
set_option maxRecDepth 20000 in
theorem mw405 : (.instanceMethod ⟨"SnippetShell$Tokens", "cutOne", "([BII)I"⟩ : Cond) ∈ pm_tbl := pm_T2 74 (by rfl) (by decide +kernel)
set_option maxRecDepth 20000 in
theorem mw406 : (.code ⟨"SnippetShell$Tokens", "cutOne", "([BII)I"⟩ prog_9_method_8_code 5 (some .int) : Cond) ∈ pm_tbl := pm_T2 75 (by rfl) (by decide +kernel)
set_option maxRecDepth 20000 in
theorem mw407 : (.methodLink "SnippetShell$Tokens" 31 ⟨"SnippetShell$Tokens", "put", "(IIJ)V"⟩ : Cond) ∈ pm_tbl := pm_T2 76 (by rfl) (by decide +kernel)
set_option maxRecDepth 20000 in
theorem mw409 : (.instanceMethod ⟨"SnippetShell$Tokens", "put", "(IIJ)V"⟩ : Cond) ∈ pm_tbl := pm_T2 78 (by rfl) (by decide +kernel)
set_option maxRecDepth 20000 in
theorem mw410 : (.code ⟨"SnippetShell$Tokens", "put", "(IIJ)V"⟩ prog_9_method_14_code 5 none : Cond) ∈ pm_tbl := pm_T2 79 (by rfl) (by decide +kernel)
set_option maxRecDepth 20000 in
theorem mw411 : (.methodLink "SnippetShell$Tokens" 35 ⟨"SnippetShell$Tokens", "isLetter", "(I)Z"⟩ : Cond) ∈ pm_tbl := pm_T2 80 (by rfl) (by decide +kernel)
set_option maxRecDepth 20000 in
theorem mw412 : (.static ⟨"SnippetShell$Tokens", "isLetter", "(I)Z"⟩ : Cond) ∈ pm_tbl := pm_T2 81 (by rfl) (by decide +kernel)
set_option maxRecDepth 20000 in
theorem mw413 : (.code ⟨"SnippetShell$Tokens", "isLetter", "(I)Z"⟩ prog_9_method_12_code 1 (some .boolean) : Cond) ∈ pm_tbl := pm_T2 82 (by rfl) (by decide +kernel)
set_option maxRecDepth 20000 in
theorem mw414 : (.methodLink "SnippetShell$Tokens" 39 ⟨"SnippetShell$Tokens", "cutLetters", "([BII)I"⟩ : Cond) ∈ pm_tbl := pm_T2 83 (by rfl) (by decide +kernel)
set_option maxRecDepth 20000 in
theorem mw416 : (.instanceMethod ⟨"SnippetShell$Tokens", "cutLetters", "([BII)I"⟩ : Cond) ∈ pm_tbl := pm_T2 85 (by rfl) (by decide +kernel)
set_option maxRecDepth 20000 in
theorem mw417 : (.code ⟨"SnippetShell$Tokens", "cutLetters", "([BII)I"⟩ prog_9_method_9_code 7 (some .int) : Cond) ∈ pm_tbl := pm_T2 86 (by rfl) (by decide +kernel)
set_option maxRecDepth 20000 in
theorem mw418 : (.methodLink "SnippetShell$Tokens" 57 ⟨"SnippetShell$Tokens", "wordKind", "(J)I"⟩ : Cond) ∈ pm_tbl := pm_T2 87 (by rfl) (by decide +kernel)
set_option maxRecDepth 20000 in
theorem mw419 : (.static ⟨"SnippetShell$Tokens", "wordKind", "(J)I"⟩ : Cond) ∈ pm_tbl := pm_T2 88 (by rfl) (by decide +kernel)
set_option maxRecDepth 20000 in
theorem mw420 : (.code ⟨"SnippetShell$Tokens", "wordKind", "(J)I"⟩ prog_9_method_11_code 2 (some .int) : Cond) ∈ pm_tbl := pm_T2 89 (by rfl) (by decide +kernel)
set_option maxRecDepth 20000 in
theorem mw421 : (.constantLong "SnippetShell$Tokens" 63 (7758194 : Int64) : Cond) ∈ pm_tbl := pm_T2 90 (by rfl) (by decide +kernel)
set_option maxRecDepth 20000 in
theorem mw422 : (.constantLong "SnippetShell$Tokens" 65 (6579558 : Int64) : Cond) ∈ pm_tbl := pm_T2 91 (by rfl) (by decide +kernel)
set_option maxRecDepth 20000 in
theorem mw423 : (.constantLong "SnippetShell$Tokens" 67 (1954115685 : Int64) : Cond) ∈ pm_tbl := pm_T2 92 (by rfl) (by decide +kernel)
set_option maxRecDepth 20000 in
theorem mw424 : (.methodLink "SnippetShell$Tokens" 42 ⟨"SnippetShell$Tokens", "isDigit", "(I)Z"⟩ : Cond) ∈ pm_tbl := pm_T2 93 (by rfl) (by decide +kernel)
set_option maxRecDepth 20000 in
theorem mw425 : (.static ⟨"SnippetShell$Tokens", "isDigit", "(I)Z"⟩ : Cond) ∈ pm_tbl := pm_T2 94 (by rfl) (by decide +kernel)
set_option maxRecDepth 20000 in
theorem mw426 : (.code ⟨"SnippetShell$Tokens", "isDigit", "(I)Z"⟩ prog_9_method_13_code 1 (some .boolean) : Cond) ∈ pm_tbl := pm_T2 95 (by rfl) (by decide +kernel)
set_option maxRecDepth 20000 in
theorem mw427 : (.methodLink "SnippetShell$Tokens" 45 ⟨"SnippetShell$Tokens", "cutDigits", "([BIII)I"⟩ : Cond) ∈ pm_tbl := pm_T2 96 (by rfl) (by decide +kernel)
set_option maxRecDepth 20000 in
theorem mw429 : (.instanceMethod ⟨"SnippetShell$Tokens", "cutDigits", "([BIII)I"⟩ : Cond) ∈ pm_tbl := pm_T2 98 (by rfl) (by decide +kernel)
set_option maxRecDepth 20000 in
theorem mw430 : (.code ⟨"SnippetShell$Tokens", "cutDigits", "([BIII)I"⟩ prog_9_method_10_code 10 (some .int) : Cond) ∈ pm_tbl := pm_T2 99 (by rfl) (by decide +kernel)
set_option maxRecDepth 20000 in
theorem mw431 : (.constantLong "SnippetShell$Tokens" 61 (10 : Int64) : Cond) ∈ pm_tbl := pm_T2 100 (by rfl) (by decide +kernel)
set_option maxRecDepth 20000 in
theorem mw519 : (.methodLink "SnippetShell" 65 ⟨"SnippetShell$Reader", "read", "()I"⟩ : Cond) ∈ pm_tbl := pm_T2 188 (by rfl) (by decide +kernel)
set_option maxRecDepth 20000 in
theorem mw520 : (.instanceMethod ⟨"SnippetShell$Reader", "read", "()I"⟩ : Cond) ∈ pm_tbl := pm_T2 189 (by rfl) (by decide +kernel)
set_option maxRecDepth 20000 in
theorem mw521 : (.selects "SnippetShell$Reader" ⟨"SnippetShell$Reader", "read", "()I"⟩ ⟨"SnippetShell$Reader", "read", "()I"⟩ : Cond) ∈ pm_tbl := pm_T2 190 (by rfl) (by decide +kernel)
set_option maxRecDepth 20000 in
theorem mw522 : (.code ⟨"SnippetShell$Reader", "read", "()I"⟩ prog_5_method_2_code 1 (some .int) : Cond) ∈ pm_tbl := pm_T2 191 (by rfl) (by decide +kernel)
set_option maxRecDepth 20000 in
theorem mw523 : (.methodLink "SnippetShell$Reader" 28 ⟨"SnippetShell$Code", "clear", "()V"⟩ : Cond) ∈ pm_tbl := pm_T2 192 (by rfl) (by decide +kernel)
set_option maxRecDepth 20000 in
theorem mw524 : (.instanceMethod ⟨"SnippetShell$Code", "clear", "()V"⟩ : Cond) ∈ pm_tbl := pm_T2 193 (by rfl) (by decide +kernel)
set_option maxRecDepth 20000 in
theorem mw525 : (.selects "SnippetShell$Code" ⟨"SnippetShell$Code", "clear", "()V"⟩ ⟨"SnippetShell$Code", "clear", "()V"⟩ : Cond) ∈ pm_tbl := pm_T2 194 (by rfl) (by decide +kernel)
set_option maxRecDepth 20000 in
theorem mw526 : (.code ⟨"SnippetShell$Code", "clear", "()V"⟩ prog_2_method_2_code 1 none : Cond) ∈ pm_tbl := pm_T2 195 (by rfl) (by decide +kernel)
set_option maxRecDepth 20000 in
theorem mw527 : (.methodLink "SnippetShell$Reader" 48 ⟨"SnippetShell$Tokens", "kindAt", "(I)I"⟩ : Cond) ∈ pm_tbl := pm_T2 196 (by rfl) (by decide +kernel)
set_option maxRecDepth 20000 in
theorem mw528 : (.instanceMethod ⟨"SnippetShell$Tokens", "kindAt", "(I)I"⟩ : Cond) ∈ pm_tbl := pm_T2 197 (by rfl) (by decide +kernel)
set_option maxRecDepth 20000 in
theorem mw529 : (.selects "SnippetShell$Tokens" ⟨"SnippetShell$Tokens", "kindAt", "(I)I"⟩ ⟨"SnippetShell$Tokens", "kindAt", "(I)I"⟩ : Cond) ∈ pm_tbl := pm_T2 198 (by rfl) (by decide +kernel)
set_option maxRecDepth 20000 in
theorem mw530 : (.code ⟨"SnippetShell$Tokens", "kindAt", "(I)I"⟩ prog_9_method_4_code 2 (some .int) : Cond) ∈ pm_tbl := pm_T2 199 (by rfl) (by decide +kernel)
set_option maxRecDepth 20000 in
theorem mw531 : (.methodLink "SnippetShell$Reader" 54 ⟨"SnippetShell$Reader", "readVariable", "()V"⟩ : Cond) ∈ pm_tbl := pm_T2 200 (by rfl) (by decide +kernel)
set_option maxRecDepth 20000 in
theorem mw533 : (.instanceMethod ⟨"SnippetShell$Reader", "readVariable", "()V"⟩ : Cond) ∈ pm_tbl := pm_T2 202 (by rfl) (by decide +kernel)
set_option maxRecDepth 20000 in
theorem mw534 : (.code ⟨"SnippetShell$Reader", "readVariable", "()V"⟩ prog_5_method_8_code 1 none : Cond) ∈ pm_tbl := pm_T2 203 (by rfl) (by decide +kernel)
set_option maxRecDepth 20000 in
theorem mw535 : (.methodLink "SnippetShell$Reader" 102 ⟨"SnippetShell$Reader", "readName", "()J"⟩ : Cond) ∈ pm_tbl := pm_T2 204 (by rfl) (by decide +kernel)
set_option maxRecDepth 20000 in
theorem mw537 : (.instanceMethod ⟨"SnippetShell$Reader", "readName", "()J"⟩ : Cond) ∈ pm_tbl := pm_T2 206 (by rfl) (by decide +kernel)
set_option maxRecDepth 20000 in
theorem mw538 : (.code ⟨"SnippetShell$Reader", "readName", "()J"⟩ prog_5_method_23_code 3 (some .long) : Cond) ∈ pm_tbl := pm_T2 207 (by rfl) (by decide +kernel)
set_option maxRecDepth 20000 in
theorem mw539 : (.methodLink "SnippetShell$Reader" 115 ⟨"SnippetShell$Tokens", "coreAt", "(I)J"⟩ : Cond) ∈ pm_tbl := pm_T2 208 (by rfl) (by decide +kernel)
set_option maxRecDepth 20000 in
theorem mw540 : (.instanceMethod ⟨"SnippetShell$Tokens", "coreAt", "(I)J"⟩ : Cond) ∈ pm_tbl := pm_T2 209 (by rfl) (by decide +kernel)
set_option maxRecDepth 20000 in
theorem mw541 : (.selects "SnippetShell$Tokens" ⟨"SnippetShell$Tokens", "coreAt", "(I)J"⟩ ⟨"SnippetShell$Tokens", "coreAt", "(I)J"⟩ : Cond) ∈ pm_tbl := pm_T2 210 (by rfl) (by decide +kernel)
set_option maxRecDepth 20000 in
theorem mw542 : (.code ⟨"SnippetShell$Tokens", "coreAt", "(I)J"⟩ prog_9_method_6_code 2 (some .long) : Cond) ∈ pm_tbl := pm_T2 211 (by rfl) (by decide +kernel)
set_option maxRecDepth 20000 in
theorem mw543 : (.methodLink "SnippetShell$Reader" 106 ⟨"SnippetShell$Reader", "expect", "(I)V"⟩ : Cond) ∈ pm_tbl := pm_T2 212 (by rfl) (by decide +kernel)
set_option maxRecDepth 20000 in
theorem mw545 : (.instanceMethod ⟨"SnippetShell$Reader", "expect", "(I)V"⟩ : Cond) ∈ pm_tbl := pm_T2 214 (by rfl) (by decide +kernel)
set_option maxRecDepth 20000 in
theorem mw546 : (.code ⟨"SnippetShell$Reader", "expect", "(I)V"⟩ prog_5_method_26_code 2 none : Cond) ∈ pm_tbl := pm_T2 215 (by rfl) (by decide +kernel)
set_option maxRecDepth 20000 in
theorem mw547 : (.methodLink "SnippetShell$Reader" 66 ⟨"SnippetShell$Reader", "isAt", "(I)Z"⟩ : Cond) ∈ pm_tbl := pm_T2 216 (by rfl) (by decide +kernel)
set_option maxRecDepth 20000 in
theorem mw549 : (.instanceMethod ⟨"SnippetShell$Reader", "isAt", "(I)Z"⟩ : Cond) ∈ pm_tbl := pm_T2 218 (by rfl) (by decide +kernel)
set_option maxRecDepth 20000 in
theorem mw550 : (.code ⟨"SnippetShell$Reader", "isAt", "(I)Z"⟩ prog_5_method_25_code 2 (some .boolean) : Cond) ∈ pm_tbl := pm_T2 219 (by rfl) (by decide +kernel)
set_option maxRecDepth 20000 in
theorem mw551 : (.methodLink "SnippetShell$Reader" 70 ⟨"SnippetShell$Reader", "refuse", "()V"⟩ : Cond) ∈ pm_tbl := pm_T2 220 (by rfl) (by decide +kernel)
set_option maxRecDepth 20000 in
theorem mw553 : (.instanceMethod ⟨"SnippetShell$Reader", "refuse", "()V"⟩ : Cond) ∈ pm_tbl := pm_T2 222 (by rfl) (by decide +kernel)
set_option maxRecDepth 20000 in
theorem mw554 : (.code ⟨"SnippetShell$Reader", "refuse", "()V"⟩ prog_5_method_28_code 1 none : Cond) ∈ pm_tbl := pm_T2 223 (by rfl) (by decide +kernel)
set_option maxRecDepth 20000 in
theorem mw555 : (.methodLink "SnippetShell$Reader" 132 ⟨"SnippetShell$Tokens", "placeAt", "(I)I"⟩ : Cond) ∈ pm_tbl := pm_T2 224 (by rfl) (by decide +kernel)
set_option maxRecDepth 20000 in
theorem mw556 : (.instanceMethod ⟨"SnippetShell$Tokens", "placeAt", "(I)I"⟩ : Cond) ∈ pm_tbl := pm_T2 225 (by rfl) (by decide +kernel)
set_option maxRecDepth 20000 in
theorem mw557 : (.selects "SnippetShell$Tokens" ⟨"SnippetShell$Tokens", "placeAt", "(I)I"⟩ ⟨"SnippetShell$Tokens", "placeAt", "(I)I"⟩ : Cond) ∈ pm_tbl := pm_T2 226 (by rfl) (by decide +kernel)
set_option maxRecDepth 20000 in
theorem mw558 : (.code ⟨"SnippetShell$Tokens", "placeAt", "(I)I"⟩ prog_9_method_5_code 2 (some .int) : Cond) ∈ pm_tbl := pm_T2 227 (by rfl) (by decide +kernel)
set_option maxRecDepth 20000 in
theorem mw559 : (.methodLink "SnippetShell$Reader" 174 ⟨"SnippetShell$Tokens", "size", "()I"⟩ : Cond) ∈ pm_tbl := pm_T2 228 (by rfl) (by decide +kernel)
set_option maxRecDepth 20000 in
theorem mw560 : (.instanceMethod ⟨"SnippetShell$Tokens", "size", "()I"⟩ : Cond) ∈ pm_tbl := pm_T2 229 (by rfl) (by decide +kernel)
set_option maxRecDepth 20000 in
theorem mw561 : (.selects "SnippetShell$Tokens" ⟨"SnippetShell$Tokens", "size", "()I"⟩ ⟨"SnippetShell$Tokens", "size", "()I"⟩ : Cond) ∈ pm_tbl := pm_T2 230 (by rfl) (by decide +kernel)
set_option maxRecDepth 20000 in
theorem mw562 : (.code ⟨"SnippetShell$Tokens", "size", "()I"⟩ prog_9_method_3_code 1 (some .int) : Cond) ∈ pm_tbl := pm_T2 231 (by rfl) (by decide +kernel)
set_option maxRecDepth 20000 in
theorem mw563 : (.methodLink "SnippetShell$Reader" 99 ⟨"SnippetShell$Reader", "readExpr", "()V"⟩ : Cond) ∈ pm_tbl := pm_T2 232 (by rfl) (by decide +kernel)
set_option maxRecDepth 20000 in
theorem mw565 : (.instanceMethod ⟨"SnippetShell$Reader", "readExpr", "()V"⟩ : Cond) ∈ pm_tbl := pm_T2 234 (by rfl) (by decide +kernel)
set_option maxRecDepth 20000 in
theorem mw566 : (.code ⟨"SnippetShell$Reader", "readExpr", "()V"⟩ prog_5_method_13_code 2 none : Cond) ∈ pm_tbl := pm_T2 235 (by rfl) (by decide +kernel)
set_option maxRecDepth 20000 in
theorem mw567 : (.methodLink "SnippetShell$Reader" 122 ⟨"SnippetShell$Code", "size", "()I"⟩ : Cond) ∈ pm_tbl := pm_T2 236 (by rfl) (by decide +kernel)
set_option maxRecDepth 20000 in
theorem mw568 : (.instanceMethod ⟨"SnippetShell$Code", "size", "()I"⟩ : Cond) ∈ pm_tbl := pm_T2 237 (by rfl) (by decide +kernel)
set_option maxRecDepth 20000 in
theorem mw569 : (.selects "SnippetShell$Code" ⟨"SnippetShell$Code", "size", "()I"⟩ ⟨"SnippetShell$Code", "size", "()I"⟩ : Cond) ∈ pm_tbl := pm_T2 238 (by rfl) (by decide +kernel)
set_option maxRecDepth 20000 in
theorem mw570 : (.code ⟨"SnippetShell$Code", "size", "()I"⟩ prog_2_method_3_code 1 (some .int) : Cond) ∈ pm_tbl := pm_T2 239 (by rfl) (by decide +kernel)
set_option maxRecDepth 20000 in
theorem mw571 : (.methodLink "SnippetShell$Reader" 126 ⟨"SnippetShell$Reader", "readLevel", "(I)V"⟩ : Cond) ∈ pm_tbl := pm_T3 0 (by rfl) (by decide +kernel)
set_option maxRecDepth 20000 in
theorem mw573 : (.instanceMethod ⟨"SnippetShell$Reader", "readLevel", "(I)V"⟩ : Cond) ∈ pm_tbl := pm_T3 2 (by rfl) (by decide +kernel)
set_option maxRecDepth 20000 in
theorem mw574 : (.code ⟨"SnippetShell$Reader", "readLevel", "(I)V"⟩ prog_5_method_15_code 7 none : Cond) ∈ pm_tbl := pm_T3 3 (by rfl) (by decide +kernel)
set_option maxRecDepth 20000 in
theorem mw575 : (.methodLink "SnippetShell$Reader" 145 ⟨"SnippetShell$Reader", "readFact", "()V"⟩ : Cond) ∈ pm_tbl := pm_T3 4 (by rfl) (by decide +kernel)
set_option maxRecDepth 20000 in
theorem mw577 : (.instanceMethod ⟨"SnippetShell$Reader", "readFact", "()V"⟩ : Cond) ∈ pm_tbl := pm_T3 6 (by rfl) (by decide +kernel)
set_option maxRecDepth 20000 in
theorem mw578 : (.code ⟨"SnippetShell$Reader", "readFact", "()V"⟩ prog_5_method_17_code 6 none : Cond) ∈ pm_tbl := pm_T3 7 (by rfl) (by decide +kernel)
set_option maxRecDepth 20000 in
theorem mw579 : (.methodLink "SnippetShell$Reader" 151 ⟨"SnippetShell$Reader", "readNegation", "()V"⟩ : Cond) ∈ pm_tbl := pm_T3 8 (by rfl) (by decide +kernel)
set_option maxRecDepth 20000 in
theorem mw581 : (.instanceMethod ⟨"SnippetShell$Reader", "readNegation", "()V"⟩ : Cond) ∈ pm_tbl := pm_T3 10 (by rfl) (by decide +kernel)
set_option maxRecDepth 20000 in
theorem mw582 : (.code ⟨"SnippetShell$Reader", "readNegation", "()V"⟩ prog_5_method_18_code 2 none : Cond) ∈ pm_tbl := pm_T3 11 (by rfl) (by decide +kernel)
set_option maxRecDepth 20000 in
theorem mw583 : (.methodLink "SnippetShell$Reader" 135 ⟨"SnippetShell$Reader", "enter", "()Z"⟩ : Cond) ∈ pm_tbl := pm_T3 12 (by rfl) (by decide +kernel)
set_option maxRecDepth 20000 in
theorem mw585 : (.instanceMethod ⟨"SnippetShell$Reader", "enter", "()Z"⟩ : Cond) ∈ pm_tbl := pm_T3 14 (by rfl) (by decide +kernel)
set_option maxRecDepth 20000 in
theorem mw586 : (.code ⟨"SnippetShell$Reader", "enter", "()Z"⟩ prog_5_method_27_code 1 (some .boolean) : Cond) ∈ pm_tbl := pm_T3 15 (by rfl) (by decide +kernel)
set_option maxRecDepth 20000 in
theorem mw587 : (.methodLink "SnippetShell$Reader" 73 ⟨"SnippetShell$Code", "add", "(II)V"⟩ : Cond) ∈ pm_tbl := pm_T3 16 (by rfl) (by decide +kernel)
set_option maxRecDepth 20000 in
theorem mw588 : (.instanceMethod ⟨"SnippetShell$Code", "add", "(II)V"⟩ : Cond) ∈ pm_tbl := pm_T3 17 (by rfl) (by decide +kernel)
set_option maxRecDepth 20000 in
theorem mw589 : (.selects "SnippetShell$Code" ⟨"SnippetShell$Code", "add", "(II)V"⟩ ⟨"SnippetShell$Code", "add", "(II)V"⟩ : Cond) ∈ pm_tbl := pm_T3 18 (by rfl) (by decide +kernel)
set_option maxRecDepth 20000 in
theorem mw590 : (.code ⟨"SnippetShell$Code", "add", "(II)V"⟩ prog_2_method_9_code 3 none : Cond) ∈ pm_tbl := pm_T3 19 (by rfl) (by decide +kernel)
set_option maxRecDepth 20000 in
theorem mw591 : (.methodLink "SnippetShell$Code" 32 ⟨"SnippetShell$Code", "addWith", "(IIIJ)V"⟩ : Cond) ∈ pm_tbl := pm_T3 20 (by rfl) (by decide +kernel)
set_option maxRecDepth 20000 in
theorem mw592 : (.instanceMethod ⟨"SnippetShell$Code", "addWith", "(IIIJ)V"⟩ : Cond) ∈ pm_tbl := pm_T3 21 (by rfl) (by decide +kernel)
set_option maxRecDepth 20000 in
theorem mw593 : (.selects "SnippetShell$Code" ⟨"SnippetShell$Code", "addWith", "(IIIJ)V"⟩ ⟨"SnippetShell$Code", "addWith", "(IIIJ)V"⟩ : Cond) ∈ pm_tbl := pm_T3 22 (by rfl) (by decide +kernel)
set_option maxRecDepth 20000 in
theorem mw594 : (.code ⟨"SnippetShell$Code", "addWith", "(IIIJ)V"⟩ prog_2_method_10_code 6 none : Cond) ∈ pm_tbl := pm_T3 23 (by rfl) (by decide +kernel)
set_option maxRecDepth 20000 in
theorem mw595 : (.methodLink "SnippetShell$Reader" 154 ⟨"SnippetShell$Reader", "readAtom", "()V"⟩ : Cond) ∈ pm_tbl := pm_T3 24 (by rfl) (by decide +kernel)
set_option maxRecDepth 20000 in
theorem mw597 : (.instanceMethod ⟨"SnippetShell$Reader", "readAtom", "()V"⟩ : Cond) ∈ pm_tbl := pm_T3 26 (by rfl) (by decide +kernel)
set_option maxRecDepth 20000 in
theorem mw598 : (.code ⟨"SnippetShell$Reader", "readAtom", "()V"⟩ prog_5_method_19_code 4 none : Cond) ∈ pm_tbl := pm_T3 27 (by rfl) (by decide +kernel)
set_option maxRecDepth 20000 in
theorem mw599 : (.methodLink "SnippetShell$Reader" 157 ⟨"SnippetShell$Code", "addWith", "(IIIJ)V"⟩ : Cond) ∈ pm_tbl := pm_T3 28 (by rfl) (by decide +kernel)
set_option maxRecDepth 20000 in
theorem mw600 : (.methodLink "SnippetShell$Reader" 161 ⟨"SnippetShell$Reader", "readNamed", "(IJ)V"⟩ : Cond) ∈ pm_tbl := pm_T3 29 (by rfl) (by decide +kernel)
set_option maxRecDepth 20000 in
theorem mw602 : (.instanceMethod ⟨"SnippetShell$Reader", "readNamed", "(IJ)V"⟩ : Cond) ∈ pm_tbl := pm_T3 31 (by rfl) (by decide +kernel)
set_option maxRecDepth 20000 in
theorem mw603 : (.code ⟨"SnippetShell$Reader", "readNamed", "(IJ)V"⟩ prog_5_method_21_code 5 none : Cond) ∈ pm_tbl := pm_T3 32 (by rfl) (by decide +kernel)
set_option maxRecDepth 20000 in
theorem mw604 : (.methodLink "SnippetShell$Reader" 119 ⟨"SnippetShell$Reader", "partOf", "(J)I"⟩ : Cond) ∈ pm_tbl := pm_T3 33 (by rfl) (by decide +kernel)
set_option maxRecDepth 20000 in
theorem mw606 : (.instanceMethod ⟨"SnippetShell$Reader", "partOf", "(J)I"⟩ : Cond) ∈ pm_tbl := pm_T3 35 (by rfl) (by decide +kernel)
set_option maxRecDepth 20000 in
theorem mw607 : (.code ⟨"SnippetShell$Reader", "partOf", "(J)I"⟩ prog_5_method_24_code 4 (some .int) : Cond) ∈ pm_tbl := pm_T3 36 (by rfl) (by decide +kernel)
set_option maxRecDepth 20000 in
theorem mw608 : (.methodLink "SnippetShell$Reader" 168 ⟨"SnippetShell$Reader", "readCall", "(IJ)V"⟩ : Cond) ∈ pm_tbl := pm_T3 37 (by rfl) (by decide +kernel)
set_option maxRecDepth 20000 in
theorem mw610 : (.instanceMethod ⟨"SnippetShell$Reader", "readCall", "(IJ)V"⟩ : Cond) ∈ pm_tbl := pm_T3 39 (by rfl) (by decide +kernel)
set_option maxRecDepth 20000 in
theorem mw611 : (.code ⟨"SnippetShell$Reader", "readCall", "(IJ)V"⟩ prog_5_method_22_code 6 none : Cond) ∈ pm_tbl := pm_T3 40 (by rfl) (by decide +kernel)
set_option maxRecDepth 20000 in
theorem mw612 : (.methodLink "SnippetShell$Reader" 171 ⟨"SnippetShell$Code", "setCount", "(II)V"⟩ : Cond) ∈ pm_tbl := pm_T3 41 (by rfl) (by decide +kernel)
set_option maxRecDepth 20000 in
theorem mw613 : (.instanceMethod ⟨"SnippetShell$Code", "setCount", "(II)V"⟩ : Cond) ∈ pm_tbl := pm_T3 42 (by rfl) (by decide +kernel)
set_option maxRecDepth 20000 in
theorem mw614 : (.selects "SnippetShell$Code" ⟨"SnippetShell$Code", "setCount", "(II)V"⟩ ⟨"SnippetShell$Code", "setCount", "(II)V"⟩ : Cond) ∈ pm_tbl := pm_T3 43 (by rfl) (by decide +kernel)
set_option maxRecDepth 20000 in
theorem mw615 : (.code ⟨"SnippetShell$Code", "setCount", "(II)V"⟩ prog_2_method_12_code 3 none : Cond) ∈ pm_tbl := pm_T3 44 (by rfl) (by decide +kernel)
set_option maxRecDepth 20000 in
theorem mw616 : (.methodLink "SnippetShell$Reader" 165 ⟨"SnippetShell$Reader", "readInner", "()V"⟩ : Cond) ∈ pm_tbl := pm_T3 45 (by rfl) (by decide +kernel)
set_option maxRecDepth 20000 in
theorem mw618 : (.instanceMethod ⟨"SnippetShell$Reader", "readInner", "()V"⟩ : Cond) ∈ pm_tbl := pm_T3 47 (by rfl) (by decide +kernel)
set_option maxRecDepth 20000 in
theorem mw619 : (.code ⟨"SnippetShell$Reader", "readInner", "()V"⟩ prog_5_method_20_code 1 none : Cond) ∈ pm_tbl := pm_T3 48 (by rfl) (by decide +kernel)
set_option maxRecDepth 20000 in
theorem mw620 : (.methodLink "SnippetShell$Reader" 139 ⟨"SnippetShell$Code", "beginAhead", "(II)V"⟩ : Cond) ∈ pm_tbl := pm_T3 49 (by rfl) (by decide +kernel)
set_option maxRecDepth 20000 in
theorem mw621 : (.instanceMethod ⟨"SnippetShell$Code", "beginAhead", "(II)V"⟩ : Cond) ∈ pm_tbl := pm_T3 50 (by rfl) (by decide +kernel)
set_option maxRecDepth 20000 in
theorem mw622 : (.selects "SnippetShell$Code" ⟨"SnippetShell$Code", "beginAhead", "(II)V"⟩ ⟨"SnippetShell$Code", "beginAhead", "(II)V"⟩ : Cond) ∈ pm_tbl := pm_T3 51 (by rfl) (by decide +kernel)
set_option maxRecDepth 20000 in
theorem mw623 : (.code ⟨"SnippetShell$Code", "beginAhead", "(II)V"⟩ prog_2_method_11_code 4 none : Cond) ∈ pm_tbl := pm_T3 52 (by rfl) (by decide +kernel)
set_option maxRecDepth 20000 in
theorem mw624 : (.methodLink "SnippetShell$Code" 36 ⟨"java/lang/System", "arraycopy", "(Ljava/lang/Object;ILjava/lang/Object;II)V"⟩ : Cond) ∈ pm_tbl := pm_T3 53 (by rfl) (by decide +kernel)
set_option maxRecDepth 20000 in
theorem mw625 : (.static ⟨"java/lang/System", "arraycopy", "(Ljava/lang/Object;ILjava/lang/Object;II)V"⟩ : Cond) ∈ pm_tbl := pm_T3 54 (by rfl) (by decide +kernel)
set_option maxRecDepth 20000 in
theorem mw626 : (.native ⟨"java/lang/System", "arraycopy", "(Ljava/lang/Object;ILjava/lang/Object;II)V"⟩ : Cond) ∈ pm_tbl := pm_T3 55 (by rfl) (by decide +kernel)
set_option maxRecDepth 20000 in
theorem mw627 : (.methodLink "SnippetShell$Reader" 148 ⟨"SnippetShell$Reader", "levelOf", "(I)I"⟩ : Cond) ∈ pm_tbl := pm_T3 56 (by rfl) (by decide +kernel)
set_option maxRecDepth 20000 in
theorem mw628 : (.static ⟨"SnippetShell$Reader", "levelOf", "(I)I"⟩ : Cond) ∈ pm_tbl := pm_T3 57 (by rfl) (by decide +kernel)
set_option maxRecDepth 20000 in
theorem mw629 : (.code ⟨"SnippetShell$Reader", "levelOf", "(I)I"⟩ prog_5_method_16_code 1 (some .int) : Cond) ∈ pm_tbl := pm_T3 58 (by rfl) (by decide +kernel)
set_option maxRecDepth 20000 in
theorem mw630 : (.methodLink "SnippetShell$Reader" 129 ⟨"SnippetShell$Reader", "readChoice", "(I)V"⟩ : Cond) ∈ pm_tbl := pm_T3 59 (by rfl) (by decide +kernel)
set_option maxRecDepth 20000 in
theorem mw632 : (.instanceMethod ⟨"SnippetShell$Reader", "readChoice", "(I)V"⟩ : Cond) ∈ pm_tbl := pm_T3 61 (by rfl) (by decide +kernel)
set_option maxRecDepth 20000 in
theorem mw633 : (.code ⟨"SnippetShell$Reader", "readChoice", "(I)V"⟩ prog_5_method_14_code 5 none : Cond) ∈ pm_tbl := pm_T3 62 (by rfl) (by decide +kernel)
set_option maxRecDepth 20000 in
theorem mw634 : (.methodLink "SnippetShell$Reader" 142 ⟨"SnippetShell$Code", "aimAtEnd", "(I)V"⟩ : Cond) ∈ pm_tbl := pm_T3 63 (by rfl) (by decide +kernel)
set_option maxRecDepth 20000 in
theorem mw635 : (.instanceMethod ⟨"SnippetShell$Code", "aimAtEnd", "(I)V"⟩ : Cond) ∈ pm_tbl := pm_T3 64 (by rfl) (by decide +kernel)
set_option maxRecDepth 20000 in
theorem mw636 : (.selects "SnippetShell$Code" ⟨"SnippetShell$Code", "aimAtEnd", "(I)V"⟩ ⟨"SnippetShell$Code", "aimAtEnd", "(I)V"⟩ : Cond) ∈ pm_tbl := pm_T3 65 (by rfl) (by decide +kernel)
set_option maxRecDepth 20000 in
theorem mw637 : (.code ⟨"SnippetShell$Code", "aimAtEnd", "(I)V"⟩ prog_2_method_13_code 2 none : Cond) ∈ pm_tbl := pm_T3 66 (by rfl) (by decide +kernel)
set_option maxRecDepth 20000 in
theorem mw638 : (.methodLink "SnippetShell$Code" 42 ⟨"SnippetShell$Code", "setCount", "(II)V"⟩ : Cond) ∈ pm_tbl := pm_T3 67 (by rfl) (by decide +kernel)
set_option maxRecDepth 20000 in
theorem mw639 : (.methodLink "SnippetShell$Reader" 57 ⟨"SnippetShell$Reader", "readMember", "()V"⟩ : Cond) ∈ pm_tbl := pm_T3 68 (by rfl) (by decide +kernel)
set_option maxRecDepth 20000 in
theorem mw641 : (.instanceMethod ⟨"SnippetShell$Reader", "readMember", "()V"⟩ : Cond) ∈ pm_tbl := pm_T3 70 (by rfl) (by decide +kernel)
set_option maxRecDepth 20000 in
theorem mw642 : (.code ⟨"SnippetShell$Reader", "readMember", "()V"⟩ prog_5_method_9_code 1 none : Cond) ∈ pm_tbl := pm_T3 71 (by rfl) (by decide +kernel)
set_option maxRecDepth 20000 in
theorem mw643 : (.methodLink "SnippetShell$Reader" 109 ⟨"SnippetShell$Reader", "readParts", "()V"⟩ : Cond) ∈ pm_tbl := pm_T3 72 (by rfl) (by decide +kernel)
set_option maxRecDepth 20000 in
theorem mw645 : (.instanceMethod ⟨"SnippetShell$Reader", "readParts", "()V"⟩ : Cond) ∈ pm_tbl := pm_T3 74 (by rfl) (by decide +kernel)
set_option maxRecDepth 20000 in
theorem mw646 : (.code ⟨"SnippetShell$Reader", "readParts", "()V"⟩ prog_5_method_11_code 2 none : Cond) ∈ pm_tbl := pm_T3 75 (by rfl) (by decide +kernel)
set_option maxRecDepth 20000 in
theorem mw647 : (.methodLink "SnippetShell$Reader" 112 ⟨"SnippetShell$Reader", "readPart", "()V"⟩ : Cond) ∈ pm_tbl := pm_T3 76 (by rfl) (by decide +kernel)
set_option maxRecDepth 20000 in
theorem mw649 : (.instanceMethod ⟨"SnippetShell$Reader", "readPart", "()V"⟩ : Cond) ∈ pm_tbl := pm_T3 78 (by rfl) (by decide +kernel)
set_option maxRecDepth 20000 in
theorem mw650 : (.code ⟨"SnippetShell$Reader", "readPart", "()V"⟩ prog_5_method_12_code 1 none : Cond) ∈ pm_tbl := pm_T3 79 (by rfl) (by decide +kernel)
set_option maxRecDepth 20000 in
theorem mw651 : (.methodLink "SnippetShell$Reader" 60 ⟨"SnippetShell$Reader", "readType", "()V"⟩ : Cond) ∈ pm_tbl := pm_T3 80 (by rfl) (by decide +kernel)
set_option maxRecDepth 20000 in
theorem mw653 : (.instanceMethod ⟨"SnippetShell$Reader", "readType", "()V"⟩ : Cond) ∈ pm_tbl := pm_T3 82 (by rfl) (by decide +kernel)
set_option maxRecDepth 20000 in
theorem mw654 : (.code ⟨"SnippetShell$Reader", "readType", "()V"⟩ prog_5_method_10_code 1 none : Cond) ∈ pm_tbl := pm_T3 83 (by rfl) (by decide +kernel)
set_option maxRecDepth 20000 in
theorem mw655 : (.methodLink "SnippetShell$Reader" 63 ⟨"SnippetShell$Reader", "readAlone", "()V"⟩ : Cond) ∈ pm_tbl := pm_T3 84 (by rfl) (by decide +kernel)
set_option maxRecDepth 20000 in
theorem mw657 : (.instanceMethod ⟨"SnippetShell$Reader", "readAlone", "()V"⟩ : Cond) ∈ pm_tbl := pm_T3 86 (by rfl) (by decide +kernel)
set_option maxRecDepth 20000 in
theorem mw658 : (.code ⟨"SnippetShell$Reader", "readAlone", "()V"⟩ prog_5_method_7_code 1 none : Cond) ∈ pm_tbl := pm_T3 87 (by rfl) (by decide +kernel)
set_option maxRecDepth 20000 in
theorem mw659 : (.methodLink "SnippetShell" 69 ⟨"SnippetShell$Machine", "forgetReport", "()V"⟩ : Cond) ∈ pm_tbl := pm_T3 88 (by rfl) (by decide +kernel)
set_option maxRecDepth 20000 in
theorem mw660 : (.instanceMethod ⟨"SnippetShell$Machine", "forgetReport", "()V"⟩ : Cond) ∈ pm_tbl := pm_T3 89 (by rfl) (by decide +kernel)
set_option maxRecDepth 20000 in
theorem mw661 : (.selects "SnippetShell$Machine" ⟨"SnippetShell$Machine", "forgetReport", "()V"⟩ ⟨"SnippetShell$Machine", "forgetReport", "()V"⟩ : Cond) ∈ pm_tbl := pm_T3 90 (by rfl) (by decide +kernel)
set_option maxRecDepth 20000 in
theorem mw662 : (.code ⟨"SnippetShell$Machine", "forgetReport", "()V"⟩ prog_3_method_3_code 1 none : Cond) ∈ pm_tbl := pm_T3 91 (by rfl) (by decide +kernel)
set_option maxRecDepth 20000 in
theorem mw663 : (.methodLink "SnippetShell$Machine" 50 ⟨"java/util/Arrays", "fill", "([II)V"⟩ : Cond) ∈ pm_tbl := pm_T3 92 (by rfl) (by decide +kernel)
set_option maxRecDepth 20000 in
theorem mw664 : (.static ⟨"java/util/Arrays", "fill", "([II)V"⟩ : Cond) ∈ pm_tbl := pm_T3 93 (by rfl) (by decide +kernel)
set_option maxRecDepth 20000 in
theorem mw665 : (.code ⟨"java/util/Arrays", "fill", "([II)V"⟩ prog_27_method_103_code 4 none : Cond) ∈ pm_tbl := pm_T3 94 (by rfl) (by decide +kernel)
set_option maxRecDepth 20000 in
theorem mw666 : (.methodLink "SnippetShell" 76 ⟨"SnippetShell$Names", "takeAll", "(LSnippetShell$Tokens;)Z"⟩ : Cond) ∈ pm_tbl := pm_T3 95 (by rfl) (by decide +kernel)
set_option maxRecDepth 20000 in
theorem mw667 : (.instanceMethod ⟨"SnippetShell$Names", "takeAll", "(LSnippetShell$Tokens;)Z"⟩ : Cond) ∈ pm_tbl := pm_T3 96 (by rfl) (by decide +kernel)
set_option maxRecDepth 20000 in
theorem mw668 : (.selects "SnippetShell$Names" ⟨"SnippetShell$Names", "takeAll", "(LSnippetShell$Tokens;)Z"⟩ ⟨"SnippetShell$Names", "takeAll", "(LSnippetShell$Tokens;)Z"⟩ : Cond) ∈ pm_tbl := pm_T3 97 (by rfl) (by decide +kernel)
set_option maxRecDepth 20000 in
theorem mw669 : (.code ⟨"SnippetShell$Names", "takeAll", "(LSnippetShell$Tokens;)Z"⟩ prog_4_method_6_code 4 (some .boolean) : Cond) ∈ pm_tbl := pm_T3 98 (by rfl) (by decide +kernel)
set_option maxRecDepth 20000 in
theorem mw670 : (.methodLink "SnippetShell$Names" 29 ⟨"SnippetShell$Tokens", "size", "()I"⟩ : Cond) ∈ pm_tbl := pm_T3 99 (by rfl) (by decide +kernel)
set_option maxRecDepth 20000 in
theorem mw671 : (.methodLink "SnippetShell$Names" 35 ⟨"SnippetShell$Tokens", "kindAt", "(I)I"⟩ : Cond) ∈ pm_tbl := pm_T3 100 (by rfl) (by decide +kernel)
set_option maxRecDepth 20000 in
theorem mw672 : (.methodLink "SnippetShell$Names" 39 ⟨"SnippetShell$Tokens", "coreAt", "(I)J"⟩ : Cond) ∈ pm_tbl := pm_T3 101 (by rfl) (by decide +kernel)
set_option maxRecDepth 20000 in
theorem mw673 : (.methodLink "SnippetShell$Names" 43 ⟨"SnippetShell$Names", "find", "(J)I"⟩ : Cond) ∈ pm_tbl := pm_T3 102 (by rfl) (by decide +kernel)
set_option maxRecDepth 20000 in
theorem mw674 : (.instanceMethod ⟨"SnippetShell$Names", "find", "(J)I"⟩ : Cond) ∈ pm_tbl := pm_T3 103 (by rfl) (by decide +kernel)
set_option maxRecDepth 20000 in
theorem mw675 : (.selects "SnippetShell$Names" ⟨"SnippetShell$Names", "find", "(J)I"⟩ ⟨"SnippetShell$Names", "find", "(J)I"⟩ : Cond) ∈ pm_tbl := pm_T3 104 (by rfl) (by decide +kernel)
set_option maxRecDepth 20000 in
theorem mw676 : (.code ⟨"SnippetShell$Names", "find", "(J)I"⟩ prog_4_method_5_code 4 (some .int) : Cond) ∈ pm_tbl := pm_T3 105 (by rfl) (by decide +kernel)
set_option maxRecDepth 20000 in
theorem mw677 : (.methodLink "SnippetShell$Names" 47 ⟨"SnippetShell$Names", "addNew", "(J)V"⟩ : Cond) ∈ pm_tbl := pm_T3 106 (by rfl) (by decide +kernel)
set_option maxRecDepth 20000 in
theorem mw679 : (.instanceMethod ⟨"SnippetShell$Names", "addNew", "(J)V"⟩ : Cond) ∈ pm_tbl := pm_T3 108 (by rfl) (by decide +kernel)
set_option maxRecDepth 20000 in
theorem mw680 : (.code ⟨"SnippetShell$Names", "addNew", "(J)V"⟩ prog_4_method_12_code 3 none : Cond) ∈ pm_tbl := pm_T3 109 (by rfl) (by decide +kernel)
set_option maxRecDepth 20000 in
theorem mw681 : (.methodLink "SnippetShell" 82 ⟨"SnippetShell", "runWithoutFault", "()I"⟩ : Cond) ∈ pm_tbl := pm_T3 110 (by rfl) (by decide +kernel)
set_option maxRecDepth 20000 in
theorem mw683 : (.instanceMethod ⟨"SnippetShell", "runWithoutFault", "()I"⟩ : Cond) ∈ pm_tbl := pm_T3 112 (by rfl) (by decide +kernel)
set_option maxRecDepth 20000 in
theorem mw684 : (.code ⟨"SnippetShell", "runWithoutFault", "()I"⟩ prog_1_method_21_code 2 (some .int) : Cond) ∈ pm_tbl := pm_T3 113 (by rfl) (by decide +kernel)
set_option maxRecDepth 20000 in
theorem mw685 : (.methodLink "SnippetShell" 170 ⟨"SnippetShell$Shelf", "keptCount", "()I"⟩ : Cond) ∈ pm_tbl := pm_T3 114 (by rfl) (by decide +kernel)
set_option maxRecDepth 20000 in
theorem mw686 : (.instanceMethod ⟨"SnippetShell$Shelf", "keptCount", "()I"⟩ : Cond) ∈ pm_tbl := pm_T3 115 (by rfl) (by decide +kernel)
set_option maxRecDepth 20000 in
theorem mw687 : (.selects "SnippetShell$Shelf" ⟨"SnippetShell$Shelf", "keptCount", "()I"⟩ ⟨"SnippetShell$Shelf", "keptCount", "()I"⟩ : Cond) ∈ pm_tbl := pm_T3 116 (by rfl) (by decide +kernel)
set_option maxRecDepth 20000 in
theorem mw688 : (.code ⟨"SnippetShell$Shelf", "keptCount", "()I"⟩ prog_6_method_4_code 1 (some .int) : Cond) ∈ pm_tbl := pm_T3 117 (by rfl) (by decide +kernel)
set_option maxRecDepth 20000 in
theorem mw689 : (.methodLink "SnippetShell" 192 ⟨"SnippetShell$Reader", "numberNames", "(LSnippetShell$Names;I)V"⟩ : Cond) ∈ pm_tbl := pm_T3 118 (by rfl) (by decide +kernel)
set_option maxRecDepth 20000 in
theorem mw690 : (.instanceMethod ⟨"SnippetShell$Reader", "numberNames", "(LSnippetShell$Names;I)V"⟩ : Cond) ∈ pm_tbl := pm_T3 119 (by rfl) (by decide +kernel)
set_option maxRecDepth 20000 in
theorem mw691 : (.selects "SnippetShell$Reader" ⟨"SnippetShell$Reader", "numberNames", "(LSnippetShell$Names;I)V"⟩ ⟨"SnippetShell$Reader", "numberNames", "(LSnippetShell$Names;I)V"⟩ : Cond) ∈ pm_tbl := pm_T3 120 (by rfl) (by decide +kernel)
set_option maxRecDepth 20000 in
theorem mw692 : (.code ⟨"SnippetShell$Reader", "numberNames", "(LSnippetShell$Names;I)V"⟩ prog_5_method_5_code 4 none : Cond) ∈ pm_tbl := pm_T3 121 (by rfl) (by decide +kernel)
set_option maxRecDepth 20000 in
theorem mw693 : (.methodLink "SnippetShell$Reader" 80 ⟨"SnippetShell$Code", "numberNames", "(LSnippetShell$Names;I)V"⟩ : Cond) ∈ pm_tbl := pm_T3 122 (by rfl) (by decide +kernel)
set_option maxRecDepth 20000 in
theorem mw694 : (.instanceMethod ⟨"SnippetShell$Code", "numberNames", "(LSnippetShell$Names;I)V"⟩ : Cond) ∈ pm_tbl := pm_T3 123 (by rfl) (by decide +kernel)
set_option maxRecDepth 20000 in
theorem mw695 : (.selects "SnippetShell$Code" ⟨"SnippetShell$Code", "numberNames", "(LSnippetShell$Names;I)V"⟩ ⟨"SnippetShell$Code", "numberNames", "(LSnippetShell$Names;I)V"⟩ : Cond) ∈ pm_tbl := pm_T3 124 (by rfl) (by decide +kernel)
set_option maxRecDepth 20000 in
theorem mw696 : (.code ⟨"SnippetShell$Code", "numberNames", "(LSnippetShell$Names;I)V"⟩ prog_2_method_14_code 4 none : Cond) ∈ pm_tbl := pm_T3 125 (by rfl) (by decide +kernel)
set_option maxRecDepth 20000 in
theorem mw697 : (.methodLink "SnippetShell$Code" 46 ⟨"SnippetShell$Names", "find", "(J)I"⟩ : Cond) ∈ pm_tbl := pm_T3 126 (by rfl) (by decide +kernel)
set_option maxRecDepth 20000 in
theorem mw698 : (.methodLink "SnippetShell$Reader" 84 ⟨"SnippetShell$Names", "find", "(J)I"⟩ : Cond) ∈ pm_tbl := pm_T3 127 (by rfl) (by decide +kernel)
set_option maxRecDepth 20000 in
theorem mw699 : (.methodLink "SnippetShell" 196 ⟨"SnippetShell$Reader", "form", "()I"⟩ : Cond) ∈ pm_tbl := pm_T3 128 (by rfl) (by decide +kernel)
set_option maxRecDepth 20000 in
theorem mw700 : (.instanceMethod ⟨"SnippetShell$Reader", "form", "()I"⟩ : Cond) ∈ pm_tbl := pm_T3 129 (by rfl) (by decide +kernel)
set_option maxRecDepth 20000 in
theorem mw701 : (.selects "SnippetShell$Reader" ⟨"SnippetShell$Reader", "form", "()I"⟩ ⟨"SnippetShell$Reader", "form", "()I"⟩ : Cond) ∈ pm_tbl := pm_T3 130 (by rfl) (by decide +kernel)
set_option maxRecDepth 20000 in
theorem mw702 : (.code ⟨"SnippetShell$Reader", "form", "()I"⟩ prog_5_method_3_code 1 (some .int) : Cond) ∈ pm_tbl := pm_T3 131 (by rfl) (by decide +kernel)
set_option maxRecDepth 20000 in
theorem mw703 : (.methodLink "SnippetShell" 201 ⟨"SnippetShell$Reader", "code", "()LSnippetShell$Code;"⟩ : Cond) ∈ pm_tbl := pm_T3 132 (by rfl) (by decide +kernel)
set_option maxRecDepth 20000 in
theorem mw704 : (.instanceMethod ⟨"SnippetShell$Reader", "code", "()LSnippetShell$Code;"⟩ : Cond) ∈ pm_tbl := pm_T3 133 (by rfl) (by decide +kernel)
set_option maxRecDepth 20000 in
theorem mw705 : (.selects "SnippetShell$Reader" ⟨"SnippetShell$Reader", "code", "()LSnippetShell$Code;"⟩ ⟨"SnippetShell$Reader", "code", "()LSnippetShell$Code;"⟩ : Cond) ∈ pm_tbl := pm_T3 134 (by rfl) (by decide +kernel)
set_option maxRecDepth 20000 in
theorem mw706 : (.code ⟨"SnippetShell$Reader", "code", "()LSnippetShell$Code;"⟩ prog_5_method_4_code 1 (some (.object "SnippetShell$Code")) : Cond) ∈ pm_tbl := pm_T3 135 (by rfl) (by decide +kernel)
set_option maxRecDepth 20000 in
theorem mw707 : (.methodLink "SnippetShell" 205 ⟨"SnippetShell$Machine", "work", "(LSnippetShell$Code;)V"⟩ : Cond) ∈ pm_tbl := pm_T3 136 (by rfl) (by decide +kernel)
set_option maxRecDepth 20000 in
theorem mw708 : (.instanceMethod ⟨"SnippetShell$Machine", "work", "(LSnippetShell$Code;)V"⟩ : Cond) ∈ pm_tbl := pm_T3 137 (by rfl) (by decide +kernel)
set_option maxRecDepth 20000 in
theorem mw709 : (.selects "SnippetShell$Machine" ⟨"SnippetShell$Machine", "work", "(LSnippetShell$Code;)V"⟩ ⟨"SnippetShell$Machine", "work", "(LSnippetShell$Code;)V"⟩ : Cond) ∈ pm_tbl := pm_T3 138 (by rfl) (by decide +kernel)
set_option maxRecDepth 20000 in
theorem mw710 : (.code ⟨"SnippetShell$Machine", "work", "(LSnippetShell$Code;)V"⟩ prog_3_method_9_code 4 none : Cond) ∈ pm_tbl := pm_T3 139 (by rfl) (by decide +kernel)
set_option maxRecDepth 20000 in
theorem mw711 : (.methodLink "SnippetShell$Machine" 73 ⟨"SnippetShell$Things", "size", "()I"⟩ : Cond) ∈ pm_tbl := pm_T3 140 (by rfl) (by decide +kernel)
set_option maxRecDepth 20000 in
theorem mw712 : (.instanceMethod ⟨"SnippetShell$Things", "size", "()I"⟩ : Cond) ∈ pm_tbl := pm_T3 141 (by rfl) (by decide +kernel)
set_option maxRecDepth 20000 in
theorem mw713 : (.selects "SnippetShell$Things" ⟨"SnippetShell$Things", "size", "()I"⟩ ⟨"SnippetShell$Things", "size", "()I"⟩ : Cond) ∈ pm_tbl := pm_T3 142 (by rfl) (by decide +kernel)
set_option maxRecDepth 20000 in
theorem mw714 : (.code ⟨"SnippetShell$Things", "size", "()I"⟩ prog_8_method_2_code 1 (some .int) : Cond) ∈ pm_tbl := pm_T3 143 (by rfl) (by decide +kernel)
set_option maxRecDepth 20000 in
theorem mw715 : (.methodLink "SnippetShell$Machine" 92 ⟨"SnippetShell$Machine", "doNext", "()V"⟩ : Cond) ∈ pm_tbl := pm_T3 144 (by rfl) (by decide +kernel)
set_option maxRecDepth 20000 in
theorem mw717 : (.instanceMethod ⟨"SnippetShell$Machine", "doNext", "()V"⟩ : Cond) ∈ pm_tbl := pm_T3 146 (by rfl) (by decide +kernel)
set_option maxRecDepth 20000 in
theorem mw718 : (.code ⟨"SnippetShell$Machine", "doNext", "()V"⟩ prog_3_method_10_code 2 none : Cond) ∈ pm_tbl := pm_T3 147 (by rfl) (by decide +kernel)
set_option maxRecDepth 20000 in
theorem mw719 : (.methodLink "SnippetShell$Machine" 104 ⟨"SnippetShell$Code", "deedAt", "(I)I"⟩ : Cond) ∈ pm_tbl := pm_T3 148 (by rfl) (by decide +kernel)
set_option maxRecDepth 20000 in
theorem mw720 : (.instanceMethod ⟨"SnippetShell$Code", "deedAt", "(I)I"⟩ : Cond) ∈ pm_tbl := pm_T3 149 (by rfl) (by decide +kernel)
set_option maxRecDepth 20000 in
theorem mw721 : (.selects "SnippetShell$Code" ⟨"SnippetShell$Code", "deedAt", "(I)I"⟩ ⟨"SnippetShell$Code", "deedAt", "(I)I"⟩ : Cond) ∈ pm_tbl := pm_T3 150 (by rfl) (by decide +kernel)
set_option maxRecDepth 20000 in
theorem mw722 : (.code ⟨"SnippetShell$Code", "deedAt", "(I)I"⟩ prog_2_method_5_code 2 (some .int) : Cond) ∈ pm_tbl := pm_T3 151 (by rfl) (by decide +kernel)
set_option maxRecDepth 20000 in
theorem mw723 : (.methodLink "SnippetShell$Machine" 107 ⟨"SnippetShell$Machine", "takeStep", "()Z"⟩ : Cond) ∈ pm_tbl := pm_T3 152 (by rfl) (by decide +kernel)
set_option maxRecDepth 20000 in
theorem mw725 : (.instanceMethod ⟨"SnippetShell$Machine", "takeStep", "()Z"⟩ : Cond) ∈ pm_tbl := pm_T3 154 (by rfl) (by decide +kernel)
set_option maxRecDepth 20000 in
theorem mw726 : (.code ⟨"SnippetShell$Machine", "takeStep", "()Z"⟩ prog_3_method_11_code 1 (some .boolean) : Cond) ∈ pm_tbl := pm_T3 155 (by rfl) (by decide +kernel)
set_option maxRecDepth 20000 in
theorem mw727 : (.methodLink "SnippetShell$Machine" 152 ⟨"SnippetShell$Machine", "fail", "(I)V"⟩ : Cond) ∈ pm_tbl := pm_T3 156 (by rfl) (by decide +kernel)
set_option maxRecDepth 20000 in
theorem mw729 : (.instanceMethod ⟨"SnippetShell$Machine", "fail", "(I)V"⟩ : Cond) ∈ pm_tbl := pm_T3 158 (by rfl) (by decide +kernel)
set_option maxRecDepth 20000 in
theorem mw730 : (.code ⟨"SnippetShell$Machine", "fail", "(I)V"⟩ prog_3_method_12_code 2 none : Cond) ∈ pm_tbl := pm_T3 159 (by rfl) (by decide +kernel)
set_option maxRecDepth 20000 in
theorem mw731 : (.methodLink "SnippetShell$Machine" 155 ⟨"SnippetShell$Code", "owner", "()I"⟩ : Cond) ∈ pm_tbl := pm_T3 160 (by rfl) (by decide +kernel)
set_option maxRecDepth 20000 in
theorem mw732 : (.instanceMethod ⟨"SnippetShell$Code", "owner", "()I"⟩ : Cond) ∈ pm_tbl := pm_T3 161 (by rfl) (by decide +kernel)
set_option maxRecDepth 20000 in
theorem mw733 : (.selects "SnippetShell$Code" ⟨"SnippetShell$Code", "owner", "()I"⟩ ⟨"SnippetShell$Code", "owner", "()I"⟩ : Cond) ∈ pm_tbl := pm_T3 162 (by rfl) (by decide +kernel)
set_option maxRecDepth 20000 in
theorem mw734 : (.code ⟨"SnippetShell$Code", "owner", "()I"⟩ prog_2_method_4_code 1 (some .int) : Cond) ∈ pm_tbl := pm_T3 163 (by rfl) (by decide +kernel)
set_option maxRecDepth 20000 in
theorem mw735 : (.methodLink "SnippetShell$Machine" 158 ⟨"SnippetShell$Code", "placeAt", "(I)I"⟩ : Cond) ∈ pm_tbl := pm_T3 164 (by rfl) (by decide +kernel)
set_option maxRecDepth 20000 in
theorem mw736 : (.instanceMethod ⟨"SnippetShell$Code", "placeAt", "(I)I"⟩ : Cond) ∈ pm_tbl := pm_T3 165 (by rfl) (by decide +kernel)
set_option maxRecDepth 20000 in
theorem mw737 : (.selects "SnippetShell$Code" ⟨"SnippetShell$Code", "placeAt", "(I)I"⟩ ⟨"SnippetShell$Code", "placeAt", "(I)I"⟩ : Cond) ∈ pm_tbl := pm_T3 166 (by rfl) (by decide +kernel)
set_option maxRecDepth 20000 in
theorem mw738 : (.code ⟨"SnippetShell$Code", "placeAt", "(I)I"⟩ prog_2_method_6_code 2 (some .int) : Cond) ∈ pm_tbl := pm_T3 167 (by rfl) (by decide +kernel)
set_option maxRecDepth 20000 in
theorem mw739 : (.methodLink "SnippetShell$Machine" 111 ⟨"SnippetShell$Code", "coreAt", "(I)J"⟩ : Cond) ∈ pm_tbl := pm_T3 168 (by rfl) (by decide +kernel)
set_option maxRecDepth 20000 in
theorem mw740 : (.instanceMethod ⟨"SnippetShell$Code", "coreAt", "(I)J"⟩ : Cond) ∈ pm_tbl := pm_T3 169 (by rfl) (by decide +kernel)
set_option maxRecDepth 20000 in
theorem mw741 : (.selects "SnippetShell$Code" ⟨"SnippetShell$Code", "coreAt", "(I)J"⟩ ⟨"SnippetShell$Code", "coreAt", "(I)J"⟩ : Cond) ∈ pm_tbl := pm_T3 170 (by rfl) (by decide +kernel)
set_option maxRecDepth 20000 in
theorem mw742 : (.code ⟨"SnippetShell$Code", "coreAt", "(I)J"⟩ prog_2_method_8_code 2 (some .long) : Cond) ∈ pm_tbl := pm_T3 171 (by rfl) (by decide +kernel)
set_option maxRecDepth 20000 in
theorem mw743 : (.methodLink "SnippetShell$Machine" 112 ⟨"SnippetShell$Machine", "push", "(IJ)V"⟩ : Cond) ∈ pm_tbl := pm_T3 172 (by rfl) (by decide +kernel)
set_option maxRecDepth 20000 in
theorem mw745 : (.instanceMethod ⟨"SnippetShell$Machine", "push", "(IJ)V"⟩ : Cond) ∈ pm_tbl := pm_T3 174 (by rfl) (by decide +kernel)
set_option maxRecDepth 20000 in
theorem mw746 : (.code ⟨"SnippetShell$Machine", "push", "(IJ)V"⟩ prog_3_method_13_code 4 none : Cond) ∈ pm_tbl := pm_T3 175 (by rfl) (by decide +kernel)
set_option maxRecDepth 20000 in
theorem mw747 : (.methodLink "SnippetShell$Machine" 161 ⟨"SnippetShell$Values", "put", "(IIJ)V"⟩ : Cond) ∈ pm_tbl := pm_T3 176 (by rfl) (by decide +kernel)
set_option maxRecDepth 20000 in
theorem mw748 : (.instanceMethod ⟨"SnippetShell$Values", "put", "(IIJ)V"⟩ : Cond) ∈ pm_tbl := pm_T3 177 (by rfl) (by decide +kernel)
set_option maxRecDepth 20000 in
theorem mw749 : (.selects "SnippetShell$Values" ⟨"SnippetShell$Values", "put", "(IIJ)V"⟩ ⟨"SnippetShell$Values", "put", "(IIJ)V"⟩ : Cond) ∈ pm_tbl := pm_T3 178 (by rfl) (by decide +kernel)
set_option maxRecDepth 20000 in
theorem mw750 : (.code ⟨"SnippetShell$Values", "put", "(IIJ)V"⟩ prog_10_method_4_code 5 none : Cond) ∈ pm_tbl := pm_T3 179 (by rfl) (by decide +kernel)
set_option maxRecDepth 20000 in
theorem mw751 : (.methodLink "SnippetShell$Machine" 116 ⟨"SnippetShell$Code", "countAt", "(I)I"⟩ : Cond) ∈ pm_tbl := pm_T3 180 (by rfl) (by decide +kernel)
set_option maxRecDepth 20000 in
theorem mw752 : (.instanceMethod ⟨"SnippetShell$Code", "countAt", "(I)I"⟩ : Cond) ∈ pm_tbl := pm_T3 181 (by rfl) (by decide +kernel)
set_option maxRecDepth 20000 in
theorem mw753 : (.selects "SnippetShell$Code" ⟨"SnippetShell$Code", "countAt", "(I)I"⟩ ⟨"SnippetShell$Code", "countAt", "(I)I"⟩ : Cond) ∈ pm_tbl := pm_T3 182 (by rfl) (by decide +kernel)
set_option maxRecDepth 20000 in
theorem mw754 : (.code ⟨"SnippetShell$Code", "countAt", "(I)I"⟩ prog_2_method_7_code 2 (some .int) : Cond) ∈ pm_tbl := pm_T3 183 (by rfl) (by decide +kernel)
set_option maxRecDepth 20000 in
theorem mw755 : (.methodLink "SnippetShell$Machine" 119 ⟨"SnippetShell$Machine", "pushResult", "(I)V"⟩ : Cond) ∈ pm_tbl := pm_T3 184 (by rfl) (by decide +kernel)
set_option maxRecDepth 20000 in
theorem mw757 : (.instanceMethod ⟨"SnippetShell$Machine", "pushResult", "(I)V"⟩ : Cond) ∈ pm_tbl := pm_T3 186 (by rfl) (by decide +kernel)
set_option maxRecDepth 20000 in
theorem mw758 : (.code ⟨"SnippetShell$Machine", "pushResult", "(I)V"⟩ prog_3_method_15_code 2 none : Cond) ∈ pm_tbl := pm_T3 187 (by rfl) (by decide +kernel)
set_option maxRecDepth 20000 in
theorem mw759 : (.methodLink "SnippetShell$Machine" 165 ⟨"SnippetShell$Shelf", "hasResult", "(J)Z"⟩ : Cond) ∈ pm_tbl := pm_T3 188 (by rfl) (by decide +kernel)
set_option maxRecDepth 20000 in
theorem mw760 : (.instanceMethod ⟨"SnippetShell$Shelf", "hasResult", "(J)Z"⟩ : Cond) ∈ pm_tbl := pm_T3 189 (by rfl) (by decide +kernel)
set_option maxRecDepth 20000 in
theorem mw761 : (.selects "SnippetShell$Shelf" ⟨"SnippetShell$Shelf", "hasResult", "(J)Z"⟩ ⟨"SnippetShell$Shelf", "hasResult", "(J)Z"⟩ : Cond) ∈ pm_tbl := pm_T3 190 (by rfl) (by decide +kernel)
set_option maxRecDepth 20000 in
theorem mw762 : (.code ⟨"SnippetShell$Shelf", "hasResult", "(J)Z"⟩ prog_6_method_7_code 3 (some .boolean) : Cond) ∈ pm_tbl := pm_T3 191 (by rfl) (by decide +kernel)
set_option maxRecDepth 20000 in
theorem mw763 : (.methodLink "SnippetShell$Machine" 122 ⟨"SnippetShell$Machine", "pushFrom", "(LSnippetShell$Values;I)V"⟩ : Cond) ∈ pm_tbl := pm_T3 192 (by rfl) (by decide +kernel)
set_option maxRecDepth 20000 in
theorem mw765 : (.instanceMethod ⟨"SnippetShell$Machine", "pushFrom", "(LSnippetShell$Values;I)V"⟩ : Cond) ∈ pm_tbl := pm_T3 194 (by rfl) (by decide +kernel)
set_option maxRecDepth 20000 in
theorem mw766 : (.code ⟨"SnippetShell$Machine", "pushFrom", "(LSnippetShell$Values;I)V"⟩ prog_3_method_14_code 3 none : Cond) ∈ pm_tbl := pm_T3 195 (by rfl) (by decide +kernel)
set_option maxRecDepth 20000 in
theorem mw767 : (.methodLink "SnippetShell$Machine" 59 ⟨"SnippetShell$Values", "kindAt", "(I)I"⟩ : Cond) ∈ pm_tbl := pm_T3 196 (by rfl) (by decide +kernel)
set_option maxRecDepth 20000 in
theorem mw768 : (.instanceMethod ⟨"SnippetShell$Values", "kindAt", "(I)I"⟩ : Cond) ∈ pm_tbl := pm_T3 197 (by rfl) (by decide +kernel)
set_option maxRecDepth 20000 in
theorem mw769 : (.selects "SnippetShell$Values" ⟨"SnippetShell$Values", "kindAt", "(I)I"⟩ ⟨"SnippetShell$Values", "kindAt", "(I)I"⟩ : Cond) ∈ pm_tbl := pm_T3 198 (by rfl) (by decide +kernel)
set_option maxRecDepth 20000 in
theorem mw770 : (.code ⟨"SnippetShell$Values", "kindAt", "(I)I"⟩ prog_10_method_2_code 2 (some .int) : Cond) ∈ pm_tbl := pm_T3 199 (by rfl) (by decide +kernel)
set_option maxRecDepth 20000 in
theorem mw771 : (.methodLink "SnippetShell$Machine" 63 ⟨"SnippetShell$Values", "coreAt", "(I)J"⟩ : Cond) ∈ pm_tbl := pm_T3 200 (by rfl) (by decide +kernel)
set_option maxRecDepth 20000 in
theorem mw772 : (.instanceMethod ⟨"SnippetShell$Values", "coreAt", "(I)J"⟩ : Cond) ∈ pm_tbl := pm_T3 201 (by rfl) (by decide +kernel)
set_option maxRecDepth 20000 in
theorem mw773 : (.selects "SnippetShell$Values" ⟨"SnippetShell$Values", "coreAt", "(I)J"⟩ ⟨"SnippetShell$Values", "coreAt", "(I)J"⟩ : Cond) ∈ pm_tbl := pm_T3 202 (by rfl) (by decide +kernel)
set_option maxRecDepth 20000 in
theorem mw774 : (.code ⟨"SnippetShell$Values", "coreAt", "(I)J"⟩ prog_10_method_3_code 2 (some .long) : Cond) ∈ pm_tbl := pm_T3 203 (by rfl) (by decide +kernel)
set_option maxRecDepth 20000 in
theorem mw775 : (.methodLink "SnippetShell$Machine" 126 ⟨"SnippetShell$Machine", "pushVariable", "(I)V"⟩ : Cond) ∈ pm_tbl := pm_T3 204 (by rfl) (by decide +kernel)
set_option maxRecDepth 20000 in
theorem mw777 : (.instanceMethod ⟨"SnippetShell$Machine", "pushVariable", "(I)V"⟩ : Cond) ∈ pm_tbl := pm_T3 206 (by rfl) (by decide +kernel)
set_option maxRecDepth 20000 in
theorem mw778 : (.code ⟨"SnippetShell$Machine", "pushVariable", "(I)V"⟩ prog_3_method_16_code 2 none : Cond) ∈ pm_tbl := pm_T3 207 (by rfl) (by decide +kernel)
set_option maxRecDepth 20000 in
theorem mw779 : (.methodLink "SnippetShell$Machine" 176 ⟨"SnippetShell$Names", "formOf", "(I)I"⟩ : Cond) ∈ pm_tbl := pm_T3 208 (by rfl) (by decide +kernel)
set_option maxRecDepth 20000 in
theorem mw780 : (.instanceMethod ⟨"SnippetShell$Names", "formOf", "(I)I"⟩ : Cond) ∈ pm_tbl := pm_T3 209 (by rfl) (by decide +kernel)
set_option maxRecDepth 20000 in
theorem mw781 : (.selects "SnippetShell$Names" ⟨"SnippetShell$Names", "formOf", "(I)I"⟩ ⟨"SnippetShell$Names", "formOf", "(I)I"⟩ : Cond) ∈ pm_tbl := pm_T3 210 (by rfl) (by decide +kernel)
set_option maxRecDepth 20000 in
theorem mw782 : (.code ⟨"SnippetShell$Names", "formOf", "(I)I"⟩ prog_4_method_8_code 2 (some .int) : Cond) ∈ pm_tbl := pm_T3 211 (by rfl) (by decide +kernel)
set_option maxRecDepth 20000 in
theorem mw783 : (.methodLink "SnippetShell$Names" 51 ⟨"SnippetShell$Names", "has", "(I)Z"⟩ : Cond) ∈ pm_tbl := pm_T3 212 (by rfl) (by decide +kernel)
set_option maxRecDepth 20000 in
theorem mw784 : (.instanceMethod ⟨"SnippetShell$Names", "has", "(I)Z"⟩ : Cond) ∈ pm_tbl := pm_T3 213 (by rfl) (by decide +kernel)
set_option maxRecDepth 20000 in
theorem mw785 : (.selects "SnippetShell$Names" ⟨"SnippetShell$Names", "has", "(I)Z"⟩ ⟨"SnippetShell$Names", "has", "(I)Z"⟩ : Cond) ∈ pm_tbl := pm_T3 214 (by rfl) (by decide +kernel)
set_option maxRecDepth 20000 in
theorem mw786 : (.code ⟨"SnippetShell$Names", "has", "(I)Z"⟩ prog_4_method_4_code 2 (some .boolean) : Cond) ∈ pm_tbl := pm_T3 215 (by rfl) (by decide +kernel)
set_option maxRecDepth 20000 in
theorem mw787 : (.methodLink "SnippetShell$Machine" 129 ⟨"SnippetShell$Machine", "openCall", "(II)V"⟩ : Cond) ∈ pm_tbl := pm_T3 216 (by rfl) (by decide +kernel)
set_option maxRecDepth 20000 in
theorem mw789 : (.instanceMethod ⟨"SnippetShell$Machine", "openCall", "(II)V"⟩ : Cond) ∈ pm_tbl := pm_T3 218 (by rfl) (by decide +kernel)
set_option maxRecDepth 20000 in
theorem mw790 : (.code ⟨"SnippetShell$Machine", "openCall", "(II)V"⟩ prog_3_method_17_code 4 none : Cond) ∈ pm_tbl := pm_T3 219 (by rfl) (by decide +kernel)
set_option maxRecDepth 20000 in
theorem mw791 : (.methodLink "SnippetShell$Machine" 186 ⟨"SnippetShell$Shelf", "callable", "(I)LSnippetShell$Snippet;"⟩ : Cond) ∈ pm_tbl := pm_T3 220 (by rfl) (by decide +kernel)
set_option maxRecDepth 20000 in
theorem mw792 : (.instanceMethod ⟨"SnippetShell$Shelf", "callable", "(I)LSnippetShell$Snippet;"⟩ : Cond) ∈ pm_tbl := pm_T3 221 (by rfl) (by decide +kernel)
set_option maxRecDepth 20000 in
theorem mw793 : (.selects "SnippetShell$Shelf" ⟨"SnippetShell$Shelf", "callable", "(I)LSnippetShell$Snippet;"⟩ ⟨"SnippetShell$Shelf", "callable", "(I)LSnippetShell$Snippet;"⟩ : Cond) ∈ pm_tbl := pm_T3 222 (by rfl) (by decide +kernel)
set_option maxRecDepth 20000 in
theorem mw794 : (.code ⟨"SnippetShell$Shelf", "callable", "(I)LSnippetShell$Snippet;"⟩ prog_6_method_9_code 5 (some (.object "SnippetShell$Snippet")) : Cond) ∈ pm_tbl := pm_T3 223 (by rfl) (by decide +kernel)
set_option maxRecDepth 20000 in
theorem mw795 : (.methodLink "SnippetShell$Shelf" 75 ⟨"SnippetShell$Names", "formOf", "(I)I"⟩ : Cond) ∈ pm_tbl := pm_T3 224 (by rfl) (by decide +kernel)
set_option maxRecDepth 20000 in
theorem mw796 : (.methodLink "SnippetShell$Shelf" 79 ⟨"SnippetShell$Names", "declarerOf", "(I)I"⟩ : Cond) ∈ pm_tbl := pm_T3 225 (by rfl) (by decide +kernel)
set_option maxRecDepth 20000 in
theorem mw797 : (.instanceMethod ⟨"SnippetShell$Names", "declarerOf", "(I)I"⟩ : Cond) ∈ pm_tbl := pm_T3 226 (by rfl) (by decide +kernel)
set_option maxRecDepth 20000 in
theorem mw798 : (.selects "SnippetShell$Names" ⟨"SnippetShell$Names", "declarerOf", "(I)I"⟩ ⟨"SnippetShell$Names", "declarerOf", "(I)I"⟩ : Cond) ∈ pm_tbl := pm_T3 227 (by rfl) (by decide +kernel)
set_option maxRecDepth 20000 in
theorem mw799 : (.code ⟨"SnippetShell$Names", "declarerOf", "(I)I"⟩ prog_4_method_9_code 2 (some .int) : Cond) ∈ pm_tbl := pm_T3 228 (by rfl) (by decide +kernel)
set_option maxRecDepth 20000 in
theorem mw800 : (.methodLink "SnippetShell$Shelf" 82 ⟨"SnippetShell$Shelf", "hasSnippet", "(I)Z"⟩ : Cond) ∈ pm_tbl := pm_T3 229 (by rfl) (by decide +kernel)
set_option maxRecDepth 20000 in
theorem mw801 : (.instanceMethod ⟨"SnippetShell$Shelf", "hasSnippet", "(I)Z"⟩ : Cond) ∈ pm_tbl := pm_T3 230 (by rfl) (by decide +kernel)
set_option maxRecDepth 20000 in
theorem mw802 : (.selects "SnippetShell$Shelf" ⟨"SnippetShell$Shelf", "hasSnippet", "(I)Z"⟩ ⟨"SnippetShell$Shelf", "hasSnippet", "(I)Z"⟩ : Cond) ∈ pm_tbl := pm_T3 231 (by rfl) (by decide +kernel)
set_option maxRecDepth 20000 in
theorem mw803 : (.code ⟨"SnippetShell$Shelf", "hasSnippet", "(I)Z"⟩ prog_6_method_6_code 2 (some .boolean) : Cond) ∈ pm_tbl := pm_T3 232 (by rfl) (by decide +kernel)
set_option maxRecDepth 20000 in
theorem mw804 : (.methodLink "SnippetShell$Machine" 190 ⟨"SnippetShell$Snippet", "size", "()I"⟩ : Cond) ∈ pm_tbl := pm_T3 233 (by rfl) (by decide +kernel)
set_option maxRecDepth 20000 in
theorem mw805 : (.instanceMethod ⟨"SnippetShell$Snippet", "size", "()I"⟩ : Cond) ∈ pm_tbl := pm_T3 234 (by rfl) (by decide +kernel)
set_option maxRecDepth 20000 in
theorem mw806 : (.selects "SnippetShell$Snippet" ⟨"SnippetShell$Snippet", "size", "()I"⟩ ⟨"SnippetShell$Snippet", "size", "()I"⟩ : Cond) ∈ pm_tbl := pm_T3 235 (by rfl) (by decide +kernel)
set_option maxRecDepth 20000 in
theorem mw807 : (.code ⟨"SnippetShell$Snippet", "size", "()I"⟩ prog_7_method_5_code 1 (some .int) : Cond) ∈ pm_tbl := pm_T3 236 (by rfl) (by decide +kernel)
set_option maxRecDepth 20000 in
theorem mw808 : (.methodLink "SnippetShell$Machine" 191 ⟨"SnippetShell$Snippet", "form", "()I"⟩ : Cond) ∈ pm_tbl := pm_T3 237 (by rfl) (by decide +kernel)
set_option maxRecDepth 20000 in
theorem mw809 : (.instanceMethod ⟨"SnippetShell$Snippet", "form", "()I"⟩ : Cond) ∈ pm_tbl := pm_T3 238 (by rfl) (by decide +kernel)
set_option maxRecDepth 20000 in
theorem mw810 : (.selects "SnippetShell$Snippet" ⟨"SnippetShell$Snippet", "form", "()I"⟩ ⟨"SnippetShell$Snippet", "form", "()I"⟩ : Cond) ∈ pm_tbl := pm_T3 239 (by rfl) (by decide +kernel)
set_option maxRecDepth 20000 in
theorem mw811 : (.code ⟨"SnippetShell$Snippet", "form", "()I"⟩ prog_7_method_2_code 1 (some .int) : Cond) ∈ pm_tbl := pm_T4 0 (by rfl) (by decide +kernel)
set_option maxRecDepth 20000 in
theorem mw812 : (.methodLink "SnippetShell$Machine" 133 ⟨"SnippetShell$Machine", "call", "(II)V"⟩ : Cond) ∈ pm_tbl := pm_T4 1 (by rfl) (by decide +kernel)
set_option maxRecDepth 20000 in
theorem mw814 : (.instanceMethod ⟨"SnippetShell$Machine", "call", "(II)V"⟩ : Cond) ∈ pm_tbl := pm_T4 3 (by rfl) (by decide +kernel)
set_option maxRecDepth 20000 in
theorem mw815 : (.code ⟨"SnippetShell$Machine", "call", "(II)V"⟩ prog_3_method_18_code 6 none : Cond) ∈ pm_tbl := pm_T4 4 (by rfl) (by decide +kernel)
set_option maxRecDepth 20000 in
theorem mw816 : (.methodLink "SnippetShell$Machine" 194 ⟨"SnippetShell$Names", "editionOf", "(I)I"⟩ : Cond) ∈ pm_tbl := pm_T4 5 (by rfl) (by decide +kernel)
set_option maxRecDepth 20000 in
theorem mw817 : (.instanceMethod ⟨"SnippetShell$Names", "editionOf", "(I)I"⟩ : Cond) ∈ pm_tbl := pm_T4 6 (by rfl) (by decide +kernel)
set_option maxRecDepth 20000 in
theorem mw818 : (.selects "SnippetShell$Names" ⟨"SnippetShell$Names", "editionOf", "(I)I"⟩ ⟨"SnippetShell$Names", "editionOf", "(I)I"⟩ : Cond) ∈ pm_tbl := pm_T4 7 (by rfl) (by decide +kernel)
set_option maxRecDepth 20000 in
theorem mw819 : (.code ⟨"SnippetShell$Names", "editionOf", "(I)I"⟩ prog_4_method_10_code 2 (some .int) : Cond) ∈ pm_tbl := pm_T4 8 (by rfl) (by decide +kernel)
set_option maxRecDepth 20000 in
theorem mw820 : (.methodLink "SnippetShell$Machine" 197 ⟨"SnippetShell$Things", "make", "(IILSnippetShell$Values;II)I"⟩ : Cond) ∈ pm_tbl := pm_T4 9 (by rfl) (by decide +kernel)
set_option maxRecDepth 20000 in
theorem mw821 : (.instanceMethod ⟨"SnippetShell$Things", "make", "(IILSnippetShell$Values;II)I"⟩ : Cond) ∈ pm_tbl := pm_T4 10 (by rfl) (by decide +kernel)
set_option maxRecDepth 20000 in
theorem mw822 : (.selects "SnippetShell$Things" ⟨"SnippetShell$Things", "make", "(IILSnippetShell$Values;II)I"⟩ ⟨"SnippetShell$Things", "make", "(IILSnippetShell$Values;II)I"⟩ : Cond) ∈ pm_tbl := pm_T4 11 (by rfl) (by decide +kernel)
set_option maxRecDepth 20000 in
theorem mw823 : (.code ⟨"SnippetShell$Things", "make", "(IILSnippetShell$Values;II)I"⟩ prog_8_method_4_code 7 (some .int) : Cond) ∈ pm_tbl := pm_T4 12 (by rfl) (by decide +kernel)
set_option maxRecDepth 20000 in
theorem mw824 : (.methodLink "SnippetShell$Things" 32 ⟨"SnippetShell$Things", "doubleRoom", "()V"⟩ : Cond) ∈ pm_tbl := pm_T4 13 (by rfl) (by decide +kernel)
set_option maxRecDepth 20000 in
theorem mw826 : (.instanceMethod ⟨"SnippetShell$Things", "doubleRoom", "()V"⟩ : Cond) ∈ pm_tbl := pm_T4 15 (by rfl) (by decide +kernel)
set_option maxRecDepth 20000 in
theorem mw827 : (.code ⟨"SnippetShell$Things", "doubleRoom", "()V"⟩ prog_8_method_12_code 1 none : Cond) ∈ pm_tbl := pm_T4 16 (by rfl) (by decide +kernel)
set_option maxRecDepth 20000 in
theorem mw828 : (.methodLink "SnippetShell$Things" 53 ⟨"java/util/Arrays", "copyOf", "([II)[I"⟩ : Cond) ∈ pm_tbl := pm_T4 17 (by rfl) (by decide +kernel)
set_option maxRecDepth 20000 in
theorem mw829 : (.static ⟨"java/util/Arrays", "copyOf", "([II)[I"⟩ : Cond) ∈ pm_tbl := pm_T4 18 (by rfl) (by decide +kernel)
set_option maxRecDepth 20000 in
theorem mw830 : (.code ⟨"java/util/Arrays", "copyOf", "([II)[I"⟩ prog_27_method_123_code 3 (some (.array .int)) : Cond) ∈ pm_tbl := pm_T4 19 (by rfl) (by decide +kernel)
set_option maxRecDepth 20000 in
theorem mw839 : (.methodLink "java/util/Arrays" 150 ⟨"java/lang/System", "arraycopy", "(Ljava/lang/Object;ILjava/lang/Object;II)V"⟩ : Cond) ∈ pm_tbl := pm_T4 28 (by rfl) (by decide +kernel)
set_option maxRecDepth 20000 in
theorem mw840 : (.methodLink "SnippetShell$Things" 59 ⟨"java/util/Arrays", "copyOf", "([JI)[J"⟩ : Cond) ∈ pm_tbl := pm_T4 29 (by rfl) (by decide +kernel)
set_option maxRecDepth 20000 in
theorem mw841 : (.static ⟨"java/util/Arrays", "copyOf", "([JI)[J"⟩ : Cond) ∈ pm_tbl := pm_T4 30 (by rfl) (by decide +kernel)
set_option maxRecDepth 20000 in
theorem mw842 : (.code ⟨"java/util/Arrays", "copyOf", "([JI)[J"⟩ prog_27_method_124_code 3 (some (.array .long)) : Cond) ∈ pm_tbl := pm_T4 31 (by rfl) (by decide +kernel)
set_option maxRecDepth 20000 in
theorem mw848 : (.methodLink "SnippetShell$Things" 35 ⟨"SnippetShell$Values", "kindAt", "(I)I"⟩ : Cond) ∈ pm_tbl := pm_T4 37 (by rfl) (by decide +kernel)
set_option maxRecDepth 20000 in
theorem mw849 : (.methodLink "SnippetShell$Things" 41 ⟨"SnippetShell$Values", "coreAt", "(I)J"⟩ : Cond) ∈ pm_tbl := pm_T4 38 (by rfl) (by decide +kernel)
set_option maxRecDepth 20000 in
theorem mw850 : (.methodLink "SnippetShell$Machine" 201 ⟨"SnippetShell$Snippet", "code", "()LSnippetShell$Code;"⟩ : Cond) ∈ pm_tbl := pm_T4 39 (by rfl) (by decide +kernel)
set_option maxRecDepth 20000 in
theorem mw851 : (.instanceMethod ⟨"SnippetShell$Snippet", "code", "()LSnippetShell$Code;"⟩ : Cond) ∈ pm_tbl := pm_T4 40 (by rfl) (by decide +kernel)
set_option maxRecDepth 20000 in
theorem mw852 : (.selects "SnippetShell$Snippet" ⟨"SnippetShell$Snippet", "code", "()LSnippetShell$Code;"⟩ ⟨"SnippetShell$Snippet", "code", "()LSnippetShell$Code;"⟩ : Cond) ∈ pm_tbl := pm_T4 41 (by rfl) (by decide +kernel)
set_option maxRecDepth 20000 in
theorem mw853 : (.code ⟨"SnippetShell$Snippet", "code", "()LSnippetShell$Code;"⟩ prog_7_method_4_code 1 (some (.object "SnippetShell$Code")) : Cond) ∈ pm_tbl := pm_T4 42 (by rfl) (by decide +kernel)
set_option maxRecDepth 20000 in
theorem mw854 : (.methodLink "SnippetShell$Machine" 204 ⟨"SnippetShell$Machine", "enterMember", "(LSnippetShell$Code;I)V"⟩ : Cond) ∈ pm_tbl := pm_T4 43 (by rfl) (by decide +kernel)
set_option maxRecDepth 20000 in
theorem mw856 : (.instanceMethod ⟨"SnippetShell$Machine", "enterMember", "(LSnippetShell$Code;I)V"⟩ : Cond) ∈ pm_tbl := pm_T4 45 (by rfl) (by decide +kernel)
set_option maxRecDepth 20000 in
theorem mw857 : (.code ⟨"SnippetShell$Machine", "enterMember", "(LSnippetShell$Code;I)V"⟩ prog_3_method_19_code 3 none : Cond) ∈ pm_tbl := pm_T4 46 (by rfl) (by decide +kernel)
set_option maxRecDepth 20000 in
theorem mw858 : (.methodLink "SnippetShell$Machine" 136 ⟨"SnippetShell$Machine", "takeField", "(J)V"⟩ : Cond) ∈ pm_tbl := pm_T4 47 (by rfl) (by decide +kernel)
set_option maxRecDepth 20000 in
theorem mw860 : (.instanceMethod ⟨"SnippetShell$Machine", "takeField", "(J)V"⟩ : Cond) ∈ pm_tbl := pm_T4 49 (by rfl) (by decide +kernel)
set_option maxRecDepth 20000 in
theorem mw861 : (.code ⟨"SnippetShell$Machine", "takeField", "(J)V"⟩ prog_3_method_21_code 7 none : Cond) ∈ pm_tbl := pm_T4 50 (by rfl) (by decide +kernel)
set_option maxRecDepth 20000 in
theorem mw862 : (.methodLink "SnippetShell$Machine" 208 ⟨"SnippetShell$Machine", "valueKind", "()I"⟩ : Cond) ∈ pm_tbl := pm_T4 51 (by rfl) (by decide +kernel)
set_option maxRecDepth 20000 in
theorem mw863 : (.instanceMethod ⟨"SnippetShell$Machine", "valueKind", "()I"⟩ : Cond) ∈ pm_tbl := pm_T4 52 (by rfl) (by decide +kernel)
set_option maxRecDepth 20000 in
theorem mw864 : (.selects "SnippetShell$Machine" ⟨"SnippetShell$Machine", "valueKind", "()I"⟩ ⟨"SnippetShell$Machine", "valueKind", "()I"⟩ : Cond) ∈ pm_tbl := pm_T4 53 (by rfl) (by decide +kernel)
set_option maxRecDepth 20000 in
theorem mw865 : (.code ⟨"SnippetShell$Machine", "valueKind", "()I"⟩ prog_3_method_7_code 1 (some .int) : Cond) ∈ pm_tbl := pm_T4 54 (by rfl) (by decide +kernel)
set_option maxRecDepth 20000 in
theorem mw866 : (.methodLink "SnippetShell$Machine" 211 ⟨"SnippetShell$Machine", "valueCore", "()J"⟩ : Cond) ∈ pm_tbl := pm_T4 55 (by rfl) (by decide +kernel)
set_option maxRecDepth 20000 in
theorem mw867 : (.instanceMethod ⟨"SnippetShell$Machine", "valueCore", "()J"⟩ : Cond) ∈ pm_tbl := pm_T4 56 (by rfl) (by decide +kernel)
set_option maxRecDepth 20000 in
theorem mw868 : (.selects "SnippetShell$Machine" ⟨"SnippetShell$Machine", "valueCore", "()J"⟩ ⟨"SnippetShell$Machine", "valueCore", "()J"⟩ : Cond) ∈ pm_tbl := pm_T4 57 (by rfl) (by decide +kernel)
set_option maxRecDepth 20000 in
theorem mw869 : (.code ⟨"SnippetShell$Machine", "valueCore", "()J"⟩ prog_3_method_8_code 1 (some .long) : Cond) ∈ pm_tbl := pm_T4 58 (by rfl) (by decide +kernel)
set_option maxRecDepth 20000 in
theorem mw870 : (.methodLink "SnippetShell$Machine" 215 ⟨"SnippetShell$Things", "typeOf", "(I)I"⟩ : Cond) ∈ pm_tbl := pm_T4 59 (by rfl) (by decide +kernel)
set_option maxRecDepth 20000 in
theorem mw871 : (.instanceMethod ⟨"SnippetShell$Things", "typeOf", "(I)I"⟩ : Cond) ∈ pm_tbl := pm_T4 60 (by rfl) (by decide +kernel)
set_option maxRecDepth 20000 in
theorem mw872 : (.selects "SnippetShell$Things" ⟨"SnippetShell$Things", "typeOf", "(I)I"⟩ ⟨"SnippetShell$Things", "typeOf", "(I)I"⟩ : Cond) ∈ pm_tbl := pm_T4 61 (by rfl) (by decide +kernel)
set_option maxRecDepth 20000 in
theorem mw873 : (.code ⟨"SnippetShell$Things", "typeOf", "(I)I"⟩ prog_8_method_5_code 2 (some .int) : Cond) ∈ pm_tbl := pm_T4 62 (by rfl) (by decide +kernel)
set_option maxRecDepth 20000 in
theorem mw874 : (.methodLink "SnippetShell$Things" 45 ⟨"SnippetShell$Things", "has", "(I)Z"⟩ : Cond) ∈ pm_tbl := pm_T4 63 (by rfl) (by decide +kernel)
set_option maxRecDepth 20000 in
theorem mw876 : (.instanceMethod ⟨"SnippetShell$Things", "has", "(I)Z"⟩ : Cond) ∈ pm_tbl := pm_T4 65 (by rfl) (by decide +kernel)
set_option maxRecDepth 20000 in
theorem mw877 : (.code ⟨"SnippetShell$Things", "has", "(I)Z"⟩ prog_8_method_10_code 2 (some .boolean) : Cond) ∈ pm_tbl := pm_T4 66 (by rfl) (by decide +kernel)
set_option maxRecDepth 20000 in
theorem mw878 : (.methodLink "SnippetShell$Machine" 218 ⟨"SnippetShell$Shelf", "isOld", "(I)Z"⟩ : Cond) ∈ pm_tbl := pm_T4 67 (by rfl) (by decide +kernel)
set_option maxRecDepth 20000 in
theorem mw879 : (.instanceMethod ⟨"SnippetShell$Shelf", "isOld", "(I)Z"⟩ : Cond) ∈ pm_tbl := pm_T4 68 (by rfl) (by decide +kernel)
set_option maxRecDepth 20000 in
theorem mw880 : (.selects "SnippetShell$Shelf" ⟨"SnippetShell$Shelf", "isOld", "(I)Z"⟩ ⟨"SnippetShell$Shelf", "isOld", "(I)Z"⟩ : Cond) ∈ pm_tbl := pm_T4 69 (by rfl) (by decide +kernel)
set_option maxRecDepth 20000 in
theorem mw881 : (.code ⟨"SnippetShell$Shelf", "isOld", "(I)Z"⟩ prog_6_method_10_code 3 (some .boolean) : Cond) ∈ pm_tbl := pm_T4 70 (by rfl) (by decide +kernel)
set_option maxRecDepth 20000 in
theorem mw882 : (.methodLink "SnippetShell$Shelf" 86 ⟨"SnippetShell$Things", "typeOf", "(I)I"⟩ : Cond) ∈ pm_tbl := pm_T4 71 (by rfl) (by decide +kernel)
set_option maxRecDepth 20000 in
theorem mw883 : (.methodLink "SnippetShell$Shelf" 89 ⟨"SnippetShell$Names", "editionOf", "(I)I"⟩ : Cond) ∈ pm_tbl := pm_T4 72 (by rfl) (by decide +kernel)
set_option maxRecDepth 20000 in
theorem mw884 : (.methodLink "SnippetShell$Shelf" 92 ⟨"SnippetShell$Things", "editionOf", "(I)I"⟩ : Cond) ∈ pm_tbl := pm_T4 73 (by rfl) (by decide +kernel)
set_option maxRecDepth 20000 in
theorem mw885 : (.instanceMethod ⟨"SnippetShell$Things", "editionOf", "(I)I"⟩ : Cond) ∈ pm_tbl := pm_T4 74 (by rfl) (by decide +kernel)
set_option maxRecDepth 20000 in
theorem mw886 : (.selects "SnippetShell$Things" ⟨"SnippetShell$Things", "editionOf", "(I)I"⟩ ⟨"SnippetShell$Things", "editionOf", "(I)I"⟩ : Cond) ∈ pm_tbl := pm_T4 75 (by rfl) (by decide +kernel)
set_option maxRecDepth 20000 in
theorem mw887 : (.code ⟨"SnippetShell$Things", "editionOf", "(I)I"⟩ prog_8_method_6_code 2 (some .int) : Cond) ∈ pm_tbl := pm_T4 76 (by rfl) (by decide +kernel)
set_option maxRecDepth 20000 in
theorem mw888 : (.methodLink "SnippetShell$Machine" 222 ⟨"SnippetShell$Snippet", "partOf", "(J)I"⟩ : Cond) ∈ pm_tbl := pm_T4 77 (by rfl) (by decide +kernel)
set_option maxRecDepth 20000 in
theorem mw889 : (.instanceMethod ⟨"SnippetShell$Snippet", "partOf", "(J)I"⟩ : Cond) ∈ pm_tbl := pm_T4 78 (by rfl) (by decide +kernel)
set_option maxRecDepth 20000 in
theorem mw890 : (.selects "SnippetShell$Snippet" ⟨"SnippetShell$Snippet", "partOf", "(J)I"⟩ ⟨"SnippetShell$Snippet", "partOf", "(J)I"⟩ : Cond) ∈ pm_tbl := pm_T4 79 (by rfl) (by decide +kernel)
set_option maxRecDepth 20000 in
theorem mw891 : (.code ⟨"SnippetShell$Snippet", "partOf", "(J)I"⟩ prog_7_method_6_code 4 (some .int) : Cond) ∈ pm_tbl := pm_T4 80 (by rfl) (by decide +kernel)
set_option maxRecDepth 20000 in
theorem mw892 : (.methodLink "SnippetShell$Machine" 226 ⟨"SnippetShell$Things", "fieldKind", "(II)I"⟩ : Cond) ∈ pm_tbl := pm_T4 81 (by rfl) (by decide +kernel)
set_option maxRecDepth 20000 in
theorem mw893 : (.instanceMethod ⟨"SnippetShell$Things", "fieldKind", "(II)I"⟩ : Cond) ∈ pm_tbl := pm_T4 82 (by rfl) (by decide +kernel)
set_option maxRecDepth 20000 in
theorem mw894 : (.selects "SnippetShell$Things" ⟨"SnippetShell$Things", "fieldKind", "(II)I"⟩ ⟨"SnippetShell$Things", "fieldKind", "(II)I"⟩ : Cond) ∈ pm_tbl := pm_T4 83 (by rfl) (by decide +kernel)
set_option maxRecDepth 20000 in
theorem mw895 : (.code ⟨"SnippetShell$Things", "fieldKind", "(II)I"⟩ prog_8_method_8_code 3 (some .int) : Cond) ∈ pm_tbl := pm_T4 84 (by rfl) (by decide +kernel)
set_option maxRecDepth 20000 in
theorem mw896 : (.methodLink "SnippetShell$Things" 49 ⟨"SnippetShell$Things", "hasField", "(II)Z"⟩ : Cond) ∈ pm_tbl := pm_T4 85 (by rfl) (by decide +kernel)
set_option maxRecDepth 20000 in
theorem mw898 : (.instanceMethod ⟨"SnippetShell$Things", "hasField", "(II)Z"⟩ : Cond) ∈ pm_tbl := pm_T4 87 (by rfl) (by decide +kernel)
set_option maxRecDepth 20000 in
theorem mw899 : (.code ⟨"SnippetShell$Things", "hasField", "(II)Z"⟩ prog_8_method_11_code 3 (some .boolean) : Cond) ∈ pm_tbl := pm_T4 88 (by rfl) (by decide +kernel)
set_option maxRecDepth 20000 in
theorem mw900 : (.methodLink "SnippetShell$Machine" 230 ⟨"SnippetShell$Things", "fieldCore", "(II)J"⟩ : Cond) ∈ pm_tbl := pm_T4 89 (by rfl) (by decide +kernel)
set_option maxRecDepth 20000 in
theorem mw901 : (.instanceMethod ⟨"SnippetShell$Things", "fieldCore", "(II)J"⟩ : Cond) ∈ pm_tbl := pm_T4 90 (by rfl) (by decide +kernel)
set_option maxRecDepth 20000 in
theorem mw902 : (.selects "SnippetShell$Things" ⟨"SnippetShell$Things", "fieldCore", "(II)J"⟩ ⟨"SnippetShell$Things", "fieldCore", "(II)J"⟩ : Cond) ∈ pm_tbl := pm_T4 91 (by rfl) (by decide +kernel)
set_option maxRecDepth 20000 in
theorem mw903 : (.code ⟨"SnippetShell$Things", "fieldCore", "(II)J"⟩ prog_8_method_9_code 3 (some .long) : Cond) ∈ pm_tbl := pm_T4 92 (by rfl) (by decide +kernel)
set_option maxRecDepth 20000 in
theorem mw904 : (.methodLink "SnippetShell$Machine" 140 ⟨"SnippetShell$Machine", "negate", "()V"⟩ : Cond) ∈ pm_tbl := pm_T4 93 (by rfl) (by decide +kernel)
set_option maxRecDepth 20000 in
theorem mw906 : (.instanceMethod ⟨"SnippetShell$Machine", "negate", "()V"⟩ : Cond) ∈ pm_tbl := pm_T4 95 (by rfl) (by decide +kernel)
set_option maxRecDepth 20000 in
theorem mw907 : (.code ⟨"SnippetShell$Machine", "negate", "()V"⟩ prog_3_method_22_code 3 none : Cond) ∈ pm_tbl := pm_T4 96 (by rfl) (by decide +kernel)
set_option maxRecDepth 20000 in
theorem mw908 : (.methodLink "SnippetShell$Machine" 234 ⟨"SnippetShell$Machine", "isWholeAhead", "()Z"⟩ : Cond) ∈ pm_tbl := pm_T4 97 (by rfl) (by decide +kernel)
set_option maxRecDepth 20000 in
theorem mw910 : (.instanceMethod ⟨"SnippetShell$Machine", "isWholeAhead", "()Z"⟩ : Cond) ∈ pm_tbl := pm_T4 99 (by rfl) (by decide +kernel)
set_option maxRecDepth 20000 in
theorem mw911 : (.code ⟨"SnippetShell$Machine", "isWholeAhead", "()Z"⟩ prog_3_method_24_code 2 (some .boolean) : Cond) ∈ pm_tbl := pm_T4 100 (by rfl) (by decide +kernel)
set_option maxRecDepth 20000 in
theorem mw912 : (.methodLink "SnippetShell$Machine" 143 ⟨"SnippetShell$Machine", "branch", "(I)V"⟩ : Cond) ∈ pm_tbl := pm_T4 101 (by rfl) (by decide +kernel)
set_option maxRecDepth 20000 in
theorem mw914 : (.instanceMethod ⟨"SnippetShell$Machine", "branch", "(I)V"⟩ : Cond) ∈ pm_tbl := pm_T4 103 (by rfl) (by decide +kernel)
set_option maxRecDepth 20000 in
theorem mw915 : (.code ⟨"SnippetShell$Machine", "branch", "(I)V"⟩ prog_3_method_23_code 2 none : Cond) ∈ pm_tbl := pm_T4 104 (by rfl) (by decide +kernel)
set_option maxRecDepth 20000 in
theorem mw916 : (.methodLink "SnippetShell$Machine" 146 ⟨"SnippetShell$Machine", "leaveMember", "()V"⟩ : Cond) ∈ pm_tbl := pm_T4 105 (by rfl) (by decide +kernel)
set_option maxRecDepth 20000 in
theorem mw918 : (.instanceMethod ⟨"SnippetShell$Machine", "leaveMember", "()V"⟩ : Cond) ∈ pm_tbl := pm_T4 107 (by rfl) (by decide +kernel)
set_option maxRecDepth 20000 in
theorem mw919 : (.code ⟨"SnippetShell$Machine", "leaveMember", "()V"⟩ prog_3_method_20_code 4 none : Cond) ∈ pm_tbl := pm_T4 108 (by rfl) (by decide +kernel)
set_option maxRecDepth 20000 in
theorem mw920 : (.methodLink "SnippetShell$Machine" 149 ⟨"SnippetShell$Machine", "operate", "(I)V"⟩ : Cond) ∈ pm_tbl := pm_T4 109 (by rfl) (by decide +kernel)
set_option maxRecDepth 20000 in
theorem mw922 : (.instanceMethod ⟨"SnippetShell$Machine", "operate", "(I)V"⟩ : Cond) ∈ pm_tbl := pm_T4 111 (by rfl) (by decide +kernel)
set_option maxRecDepth 20000 in
theorem mw923 : (.code ⟨"SnippetShell$Machine", "operate", "(I)V"⟩ prog_3_method_25_code 8 none : Cond) ∈ pm_tbl := pm_T4 112 (by rfl) (by decide +kernel)
set_option maxRecDepth 20000 in
theorem mw924 : (.methodLink "SnippetShell$Machine" 237 ⟨"SnippetShell$Machine", "worked", "(IJJ)J"⟩ : Cond) ∈ pm_tbl := pm_T4 113 (by rfl) (by decide +kernel)
set_option maxRecDepth 20000 in
theorem mw925 : (.static ⟨"SnippetShell$Machine", "worked", "(IJJ)J"⟩ : Cond) ∈ pm_tbl := pm_T4 114 (by rfl) (by decide +kernel)
set_option maxRecDepth 20000 in
theorem mw926 : (.code ⟨"SnippetShell$Machine", "worked", "(IJJ)J"⟩ prog_3_method_26_code 5 (some .long) : Cond) ∈ pm_tbl := pm_T4 115 (by rfl) (by decide +kernel)
set_option maxRecDepth 20000 in
theorem mw927 : (.methodLink "SnippetShell$Machine" 95 ⟨"SnippetShell$Machine", "failure", "()I"⟩ : Cond) ∈ pm_tbl := pm_T4 116 (by rfl) (by decide +kernel)
set_option maxRecDepth 20000 in
theorem mw928 : (.instanceMethod ⟨"SnippetShell$Machine", "failure", "()I"⟩ : Cond) ∈ pm_tbl := pm_T4 117 (by rfl) (by decide +kernel)
set_option maxRecDepth 20000 in
theorem mw929 : (.selects "SnippetShell$Machine" ⟨"SnippetShell$Machine", "failure", "()I"⟩ ⟨"SnippetShell$Machine", "failure", "()I"⟩ : Cond) ∈ pm_tbl := pm_T4 118 (by rfl) (by decide +kernel)
set_option maxRecDepth 20000 in
theorem mw930 : (.code ⟨"SnippetShell$Machine", "failure", "()I"⟩ prog_3_method_5_code 1 (some .int) : Cond) ∈ pm_tbl := pm_T4 119 (by rfl) (by decide +kernel)
set_option maxRecDepth 20000 in
theorem mw931 : (.methodLink "SnippetShell$Machine" 98 ⟨"SnippetShell$Things", "dropFrom", "(I)V"⟩ : Cond) ∈ pm_tbl := pm_T4 120 (by rfl) (by decide +kernel)
set_option maxRecDepth 20000 in
theorem mw932 : (.instanceMethod ⟨"SnippetShell$Things", "dropFrom", "(I)V"⟩ : Cond) ∈ pm_tbl := pm_T4 121 (by rfl) (by decide +kernel)
set_option maxRecDepth 20000 in
theorem mw933 : (.selects "SnippetShell$Things" ⟨"SnippetShell$Things", "dropFrom", "(I)V"⟩ ⟨"SnippetShell$Things", "dropFrom", "(I)V"⟩ : Cond) ∈ pm_tbl := pm_T4 122 (by rfl) (by decide +kernel)
set_option maxRecDepth 20000 in
theorem mw934 : (.code ⟨"SnippetShell$Things", "dropFrom", "(I)V"⟩ prog_8_method_3_code 2 none : Cond) ∈ pm_tbl := pm_T4 123 (by rfl) (by decide +kernel)
set_option maxRecDepth 20000 in
theorem mw935 : (.methodLink "SnippetShell" 209 ⟨"SnippetShell$Machine", "failure", "()I"⟩ : Cond) ∈ pm_tbl := pm_T4 124 (by rfl) (by decide +kernel)
set_option maxRecDepth 20000 in
theorem mw936 : (.methodLink "SnippetShell" 212 ⟨"java/util/Arrays", "copyOf", "([BI)[B"⟩ : Cond) ∈ pm_tbl := pm_T4 125 (by rfl) (by decide +kernel)
set_option maxRecDepth 20000 in
theorem mw937 : (.static ⟨"java/util/Arrays", "copyOf", "([BI)[B"⟩ : Cond) ∈ pm_tbl := pm_T4 126 (by rfl) (by decide +kernel)
set_option maxRecDepth 20000 in
theorem mw938 : (.code ⟨"java/util/Arrays", "copyOf", "([BI)[B"⟩ prog_27_method_121_code 3 (some (.array .byte)) : Cond) ∈ pm_tbl := pm_T4 127 (by rfl) (by decide +kernel)
set_option maxRecDepth 20000 in
theorem mw944 : (.methodLink "SnippetShell" 218 ⟨"SnippetShell$Reader", "snippet", "([B)LSnippetShell$Snippet;"⟩ : Cond) ∈ pm_tbl := pm_T4 133 (by rfl) (by decide +kernel)
set_option maxRecDepth 20000 in
theorem mw945 : (.instanceMethod ⟨"SnippetShell$Reader", "snippet", "([B)LSnippetShell$Snippet;"⟩ : Cond) ∈ pm_tbl := pm_T4 134 (by rfl) (by decide +kernel)
set_option maxRecDepth 20000 in
theorem mw946 : (.selects "SnippetShell$Reader" ⟨"SnippetShell$Reader", "snippet", "([B)LSnippetShell$Snippet;"⟩ ⟨"SnippetShell$Reader", "snippet", "([B)LSnippetShell$Snippet;"⟩ : Cond) ∈ pm_tbl := pm_T4 135 (by rfl) (by decide +kernel)
set_option maxRecDepth 20000 in
theorem mw947 : (.code ⟨"SnippetShell$Reader", "snippet", "([B)LSnippetShell$Snippet;"⟩ prog_5_method_6_code 4 (some (.object "SnippetShell$Snippet")) : Cond) ∈ pm_tbl := pm_T4 136 (by rfl) (by decide +kernel)
set_option maxRecDepth 20000 in
theorem mw948 : (.classLink "SnippetShell$Reader" 90 "SnippetShell$Snippet" : Cond) ∈ pm_tbl := pm_T4 137 (by rfl) (by decide +kernel)
set_option maxRecDepth 20000 in
theorem mw949 : (.instantiable "SnippetShell$Snippet" 5 : Cond) ∈ pm_tbl := pm_T4 138 (by rfl) (by decide +kernel)
set_option maxRecDepth 20000 in
theorem mw950 : (.methodLink "SnippetShell$Reader" 92 ⟨"SnippetShell$Code", "copy", "()LSnippetShell$Code;"⟩ : Cond) ∈ pm_tbl := pm_T4 139 (by rfl) (by decide +kernel)
set_option maxRecDepth 20000 in
theorem mw951 : (.instanceMethod ⟨"SnippetShell$Code", "copy", "()LSnippetShell$Code;"⟩ : Cond) ∈ pm_tbl := pm_T4 140 (by rfl) (by decide +kernel)
set_option maxRecDepth 20000 in
theorem mw952 : (.selects "SnippetShell$Code" ⟨"SnippetShell$Code", "copy", "()LSnippetShell$Code;"⟩ ⟨"SnippetShell$Code", "copy", "()LSnippetShell$Code;"⟩ : Cond) ∈ pm_tbl := pm_T4 141 (by rfl) (by decide +kernel)
set_option maxRecDepth 20000 in
theorem mw953 : (.code ⟨"SnippetShell$Code", "copy", "()LSnippetShell$Code;"⟩ prog_2_method_15_code 2 (some (.object "SnippetShell$Code")) : Cond) ∈ pm_tbl := pm_T4 142 (by rfl) (by decide +kernel)
set_option maxRecDepth 20000 in
theorem mw954 : (.classLink "SnippetShell$Code" 10 "SnippetShell$Code" : Cond) ∈ pm_tbl := pm_T4 143 (by rfl) (by decide +kernel)
set_option maxRecDepth 20000 in
theorem mw955 : (.methodLink "SnippetShell$Code" 52 ⟨"SnippetShell$Code", "<init>", "(I)V"⟩ : Cond) ∈ pm_tbl := pm_T4 144 (by rfl) (by decide +kernel)
set_option maxRecDepth 20000 in
theorem mw956 : (.methodLink "SnippetShell$Reader" 96 ⟨"SnippetShell$Snippet", "<init>", "(II[I[BLSnippetShell$Code;)V"⟩ : Cond) ∈ pm_tbl := pm_T4 145 (by rfl) (by decide +kernel)
set_option maxRecDepth 20000 in
theorem mw957 : (.instanceMethod ⟨"SnippetShell$Snippet", "<init>", "(II[I[BLSnippetShell$Code;)V"⟩ : Cond) ∈ pm_tbl := pm_T4 146 (by rfl) (by decide +kernel)
set_option maxRecDepth 20000 in
theorem mw958 : (.code ⟨"SnippetShell$Snippet", "<init>", "(II[I[BLSnippetShell$Code;)V"⟩ prog_7_method_1_code 6 none : Cond) ∈ pm_tbl := pm_T4 147 (by rfl) (by decide +kernel)
set_option maxRecDepth 20000 in
theorem mw959 : (.methodLink "SnippetShell$Snippet" 3 ⟨"java/lang/Object", "<init>", "()V"⟩ : Cond) ∈ pm_tbl := pm_T4 148 (by rfl) (by decide +kernel)
set_option maxRecDepth 20000 in
theorem mw960 : (.fieldLink "SnippetShell$Snippet" 9 "SnippetShell$Snippet" "form" "I" : Cond) ∈ pm_tbl := pm_T4 149 (by rfl) (by decide +kernel)
set_option maxRecDepth 20000 in
theorem mw961 : (.fieldLink "SnippetShell$Snippet" 15 "SnippetShell$Snippet" "declared" "I" : Cond) ∈ pm_tbl := pm_T4 150 (by rfl) (by decide +kernel)
set_option maxRecDepth 20000 in
theorem mw962 : (.fieldLink "SnippetShell$Snippet" 18 "SnippetShell$Snippet" "parts" "[I" : Cond) ∈ pm_tbl := pm_T4 151 (by rfl) (by decide +kernel)
set_option maxRecDepth 20000 in
theorem mw963 : (.fieldLink "SnippetShell$Snippet" 22 "SnippetShell$Snippet" "signs" "[B" : Cond) ∈ pm_tbl := pm_T4 152 (by rfl) (by decide +kernel)
set_option maxRecDepth 20000 in
theorem mw964 : (.fieldLink "SnippetShell$Snippet" 26 "SnippetShell$Snippet" "code" "LSnippetShell$Code;" : Cond) ∈ pm_tbl := pm_T4 153 (by rfl) (by decide +kernel)
set_option maxRecDepth 20000 in
theorem mw976 : (.methodLink "SnippetShell" 222 ⟨"SnippetShell$Machine", "valueKind", "()I"⟩ : Cond) ∈ pm_tbl := pm_T4 165 (by rfl) (by decide +kernel)
set_option maxRecDepth 20000 in
theorem mw977 : (.methodLink "SnippetShell" 225 ⟨"SnippetShell$Machine", "valueCore", "()J"⟩ : Cond) ∈ pm_tbl := pm_T4 166 (by rfl) (by decide +kernel)
set_option maxRecDepth 20000 in
theorem mw978 : (.methodLink "SnippetShell" 229 ⟨"SnippetShell$Shelf", "keep", "(LSnippetShell$Snippet;IJ)V"⟩ : Cond) ∈ pm_tbl := pm_T4 167 (by rfl) (by decide +kernel)
set_option maxRecDepth 20000 in
theorem mw979 : (.instanceMethod ⟨"SnippetShell$Shelf", "keep", "(LSnippetShell$Snippet;IJ)V"⟩ : Cond) ∈ pm_tbl := pm_T4 168 (by rfl) (by decide +kernel)
set_option maxRecDepth 20000 in
theorem mw980 : (.selects "SnippetShell$Shelf" ⟨"SnippetShell$Shelf", "keep", "(LSnippetShell$Snippet;IJ)V"⟩ ⟨"SnippetShell$Shelf", "keep", "(LSnippetShell$Snippet;IJ)V"⟩ : Cond) ∈ pm_tbl := pm_T4 169 (by rfl) (by decide +kernel)
set_option maxRecDepth 20000 in
theorem mw981 : (.code ⟨"SnippetShell$Shelf", "keep", "(LSnippetShell$Snippet;IJ)V"⟩ prog_6_method_8_code 5 none : Cond) ∈ pm_tbl := pm_T4 170 (by rfl) (by decide +kernel)
set_option maxRecDepth 20000 in
theorem mw982 : (.methodLink "SnippetShell$Shelf" 56 ⟨"SnippetShell$Shelf", "isFull", "()Z"⟩ : Cond) ∈ pm_tbl := pm_T4 171 (by rfl) (by decide +kernel)
set_option maxRecDepth 20000 in
theorem mw983 : (.methodLink "SnippetShell$Shelf" 60 ⟨"SnippetShell$Snippet", "form", "()I"⟩ : Cond) ∈ pm_tbl := pm_T4 172 (by rfl) (by decide +kernel)
set_option maxRecDepth 20000 in
theorem mw984 : (.methodLink "SnippetShell$Shelf" 64 ⟨"SnippetShell$Values", "put", "(IIJ)V"⟩ : Cond) ∈ pm_tbl := pm_T4 173 (by rfl) (by decide +kernel)
set_option maxRecDepth 20000 in
theorem mw985 : (.methodLink "SnippetShell$Shelf" 68 ⟨"SnippetShell$Snippet", "declared", "()I"⟩ : Cond) ∈ pm_tbl := pm_T4 174 (by rfl) (by decide +kernel)
set_option maxRecDepth 20000 in
theorem mw986 : (.instanceMethod ⟨"SnippetShell$Snippet", "declared", "()I"⟩ : Cond) ∈ pm_tbl := pm_T4 175 (by rfl) (by decide +kernel)
set_option maxRecDepth 20000 in
theorem mw987 : (.selects "SnippetShell$Snippet" ⟨"SnippetShell$Snippet", "declared", "()I"⟩ ⟨"SnippetShell$Snippet", "declared", "()I"⟩ : Cond) ∈ pm_tbl := pm_T4 176 (by rfl) (by decide +kernel)
set_option maxRecDepth 20000 in
theorem mw988 : (.code ⟨"SnippetShell$Snippet", "declared", "()I"⟩ prog_7_method_3_code 1 (some .int) : Cond) ∈ pm_tbl := pm_T4 177 (by rfl) (by decide +kernel)
set_option maxRecDepth 20000 in
theorem mw989 : (.methodLink "SnippetShell$Shelf" 71 ⟨"SnippetShell$Names", "declare", "(III)V"⟩ : Cond) ∈ pm_tbl := pm_T4 178 (by rfl) (by decide +kernel)
set_option maxRecDepth 20000 in
theorem mw990 : (.instanceMethod ⟨"SnippetShell$Names", "declare", "(III)V"⟩ : Cond) ∈ pm_tbl := pm_T4 179 (by rfl) (by decide +kernel)
set_option maxRecDepth 20000 in
theorem mw991 : (.selects "SnippetShell$Names" ⟨"SnippetShell$Names", "declare", "(III)V"⟩ ⟨"SnippetShell$Names", "declare", "(III)V"⟩ : Cond) ∈ pm_tbl := pm_T4 180 (by rfl) (by decide +kernel)
set_option maxRecDepth 20000 in
theorem mw992 : (.code ⟨"SnippetShell$Names", "declare", "(III)V"⟩ prog_4_method_7_code 4 none : Cond) ∈ pm_tbl := pm_T4 181 (by rfl) (by decide +kernel)
set_option maxRecDepth 20000 in
theorem mw993 : (.methodLink "SnippetShell" 173 ⟨"SnippetShell$Shelf", "resultCount", "()I"⟩ : Cond) ∈ pm_tbl := pm_T4 182 (by rfl) (by decide +kernel)
set_option maxRecDepth 20000 in
theorem mw994 : (.instanceMethod ⟨"SnippetShell$Shelf", "resultCount", "()I"⟩ : Cond) ∈ pm_tbl := pm_T4 183 (by rfl) (by decide +kernel)
set_option maxRecDepth 20000 in
theorem mw995 : (.selects "SnippetShell$Shelf" ⟨"SnippetShell$Shelf", "resultCount", "()I"⟩ ⟨"SnippetShell$Shelf", "resultCount", "()I"⟩ : Cond) ∈ pm_tbl := pm_T4 184 (by rfl) (by decide +kernel)
set_option maxRecDepth 20000 in
theorem mw996 : (.code ⟨"SnippetShell$Shelf", "resultCount", "()I"⟩ prog_6_method_5_code 1 (some .int) : Cond) ∈ pm_tbl := pm_T4 185 (by rfl) (by decide +kernel)
set_option maxRecDepth 20000 in
theorem mw997 : (.methodLink "SnippetShellLaw" 39 ⟨"SnippetShell", "thrown", "(I)I"⟩ : Cond) ∈ pm_tbl := pm_T4 186 (by rfl) (by decide +kernel)
set_option maxRecDepth 20000 in
theorem mw998 : (.instanceMethod ⟨"SnippetShell", "thrown", "(I)I"⟩ : Cond) ∈ pm_tbl := pm_T4 187 (by rfl) (by decide +kernel)
set_option maxRecDepth 20000 in
theorem mw999 : (.selects "SnippetShell" ⟨"SnippetShell", "thrown", "(I)I"⟩ ⟨"SnippetShell", "thrown", "(I)I"⟩ : Cond) ∈ pm_tbl := pm_T4 188 (by rfl) (by decide +kernel)
set_option maxRecDepth 20000 in
theorem mw1000 : (.code ⟨"SnippetShell", "thrown", "(I)I"⟩ prog_1_method_4_code 2 (some .int) : Cond) ∈ pm_tbl := pm_T4 189 (by rfl) (by decide +kernel)
set_option maxRecDepth 20000 in
theorem mw1001 : (.methodLink "SnippetShell" 85 ⟨"SnippetShell$Machine", "reported", "(I)I"⟩ : Cond) ∈ pm_tbl := pm_T4 190 (by rfl) (by decide +kernel)
set_option maxRecDepth 20000 in
theorem mw1002 : (.instanceMethod ⟨"SnippetShell$Machine", "reported", "(I)I"⟩ : Cond) ∈ pm_tbl := pm_T4 191 (by rfl) (by decide +kernel)
set_option maxRecDepth 20000 in
theorem mw1003 : (.selects "SnippetShell$Machine" ⟨"SnippetShell$Machine", "reported", "(I)I"⟩ ⟨"SnippetShell$Machine", "reported", "(I)I"⟩ : Cond) ∈ pm_tbl := pm_T4 192 (by rfl) (by decide +kernel)
set_option maxRecDepth 20000 in
theorem mw1004 : (.code ⟨"SnippetShell$Machine", "reported", "(I)I"⟩ prog_3_method_4_code 2 (some .int) : Cond) ∈ pm_tbl := pm_T4 193 (by rfl) (by decide +kernel)
set_option maxRecDepth 20000 in
theorem mw1005 : (.methodLink "SnippetShellLaw" 44 ⟨"SnippetShell", "kind", "(I)I"⟩ : Cond) ∈ pm_tbl := pm_T4 194 (by rfl) (by decide +kernel)
set_option maxRecDepth 20000 in
theorem mw1006 : (.instanceMethod ⟨"SnippetShell", "kind", "(I)I"⟩ : Cond) ∈ pm_tbl := pm_T4 195 (by rfl) (by decide +kernel)
set_option maxRecDepth 20000 in
theorem mw1007 : (.selects "SnippetShell" ⟨"SnippetShell", "kind", "(I)I"⟩ ⟨"SnippetShell", "kind", "(I)I"⟩ : Cond) ∈ pm_tbl := pm_T4 196 (by rfl) (by decide +kernel)
set_option maxRecDepth 20000 in
theorem mw1008 : (.code ⟨"SnippetShell", "kind", "(I)I"⟩ prog_1_method_5_code 2 (some .int) : Cond) ∈ pm_tbl := pm_T4 197 (by rfl) (by decide +kernel)
set_option maxRecDepth 20000 in
theorem mw1009 : (.methodLink "SnippetShell" 89 ⟨"SnippetShell$Shelf", "hasResult", "(J)Z"⟩ : Cond) ∈ pm_tbl := pm_T4 198 (by rfl) (by decide +kernel)
set_option maxRecDepth 20000 in
theorem mw1010 : (.methodLink "SnippetShell" 97 ⟨"SnippetShell$Values", "kindAt", "(I)I"⟩ : Cond) ∈ pm_tbl := pm_T4 199 (by rfl) (by decide +kernel)
set_option maxRecDepth 20000 in
theorem mw1011 : (.methodLink "SnippetShellLaw" 54 ⟨"SnippetShell", "thing", "(II)I"⟩ : Cond) ∈ pm_tbl := pm_T4 200 (by rfl) (by decide +kernel)
set_option maxRecDepth 20000 in
theorem mw1012 : (.instanceMethod ⟨"SnippetShell", "thing", "(II)I"⟩ : Cond) ∈ pm_tbl := pm_T4 201 (by rfl) (by decide +kernel)
set_option maxRecDepth 20000 in
theorem mw1013 : (.selects "SnippetShell" ⟨"SnippetShell", "thing", "(II)I"⟩ ⟨"SnippetShell", "thing", "(II)I"⟩ : Cond) ∈ pm_tbl := pm_T4 202 (by rfl) (by decide +kernel)
set_option maxRecDepth 20000 in
theorem mw1014 : (.code ⟨"SnippetShell", "thing", "(II)I"⟩ prog_1_method_7_code 4 (some .int) : Cond) ∈ pm_tbl := pm_T4 203 (by rfl) (by decide +kernel)
set_option maxRecDepth 20000 in
theorem mw1015 : (.methodLink "SnippetShell" 102 ⟨"SnippetShell", "kind", "(I)I"⟩ : Cond) ∈ pm_tbl := pm_T4 204 (by rfl) (by decide +kernel)
set_option maxRecDepth 20000 in
theorem mw1016 : (.methodLink "SnippetShell" 111 ⟨"SnippetShell$Values", "coreAt", "(I)J"⟩ : Cond) ∈ pm_tbl := pm_T4 205 (by rfl) (by decide +kernel)
set_option maxRecDepth 20000 in
theorem mw1017 : (.methodLink "SnippetShell" 119 ⟨"SnippetShell$Things", "typeOf", "(I)I"⟩ : Cond) ∈ pm_tbl := pm_T4 206 (by rfl) (by decide +kernel)
set_option maxRecDepth 20000 in
theorem mw1018 : (.methodLink "SnippetShell" 124 ⟨"SnippetShell$Things", "editionOf", "(I)I"⟩ : Cond) ∈ pm_tbl := pm_T4 207 (by rfl) (by decide +kernel)
set_option maxRecDepth 20000 in
theorem mw1019 : (.methodLink "SnippetShell" 127 ⟨"SnippetShell$Things", "sizeOf", "(I)I"⟩ : Cond) ∈ pm_tbl := pm_T4 208 (by rfl) (by decide +kernel)
set_option maxRecDepth 20000 in
theorem mw1020 : (.instanceMethod ⟨"SnippetShell$Things", "sizeOf", "(I)I"⟩ : Cond) ∈ pm_tbl := pm_T4 209 (by rfl) (by decide +kernel)
set_option maxRecDepth 20000 in
theorem mw1021 : (.selects "SnippetShell$Things" ⟨"SnippetShell$Things", "sizeOf", "(I)I"⟩ ⟨"SnippetShell$Things", "sizeOf", "(I)I"⟩ : Cond) ∈ pm_tbl := pm_T4 210 (by rfl) (by decide +kernel)
set_option maxRecDepth 20000 in
theorem mw1022 : (.code ⟨"SnippetShell$Things", "sizeOf", "(I)I"⟩ prog_8_method_7_code 2 (some .int) : Cond) ∈ pm_tbl := pm_T4 211 (by rfl) (by decide +kernel)
set_option maxRecDepth 20000 in
theorem mw1023 : (.methodLink "SnippetShell" 130 ⟨"SnippetShell$Shelf", "isOld", "(I)Z"⟩ : Cond) ∈ pm_tbl := pm_T4 212 (by rfl) (by decide +kernel)
set_option maxRecDepth 20000 in
theorem mw1024 : (.methodLink "SnippetShell" 134 ⟨"SnippetShell$Things", "fieldKind", "(II)I"⟩ : Cond) ∈ pm_tbl := pm_T4 213 (by rfl) (by decide +kernel)
set_option maxRecDepth 20000 in
theorem mw1025 : (.methodLink "SnippetShellLaw" 58 ⟨"SnippetShell", "name", "(J)I"⟩ : Cond) ∈ pm_tbl := pm_T4 214 (by rfl) (by decide +kernel)
set_option maxRecDepth 20000 in
theorem mw1026 : (.instanceMethod ⟨"SnippetShell", "name", "(J)I"⟩ : Cond) ∈ pm_tbl := pm_T4 215 (by rfl) (by decide +kernel)
set_option maxRecDepth 20000 in
theorem mw1027 : (.selects "SnippetShell" ⟨"SnippetShell", "name", "(J)I"⟩ ⟨"SnippetShell", "name", "(J)I"⟩ : Cond) ∈ pm_tbl := pm_T4 216 (by rfl) (by decide +kernel)
set_option maxRecDepth 20000 in
theorem mw1028 : (.code ⟨"SnippetShell", "name", "(J)I"⟩ prog_1_method_8_code 3 (some .int) : Cond) ∈ pm_tbl := pm_T4 217 (by rfl) (by decide +kernel)
set_option maxRecDepth 20000 in
theorem mw1029 : (.methodLink "SnippetShell" 138 ⟨"SnippetShell$Names", "find", "(J)I"⟩ : Cond) ∈ pm_tbl := pm_T4 218 (by rfl) (by decide +kernel)
set_option maxRecDepth 20000 in
theorem mw1030 : (.methodLink "SnippetShellLaw" 62 ⟨"SnippetShell", "letter", "(II)I"⟩ : Cond) ∈ pm_tbl := pm_T4 219 (by rfl) (by decide +kernel)
set_option maxRecDepth 20000 in
theorem mw1031 : (.instanceMethod ⟨"SnippetShell", "letter", "(II)I"⟩ : Cond) ∈ pm_tbl := pm_T4 220 (by rfl) (by decide +kernel)
set_option maxRecDepth 20000 in
theorem mw1032 : (.selects "SnippetShell" ⟨"SnippetShell", "letter", "(II)I"⟩ ⟨"SnippetShell", "letter", "(II)I"⟩ : Cond) ∈ pm_tbl := pm_T4 221 (by rfl) (by decide +kernel)
set_option maxRecDepth 20000 in
theorem mw1033 : (.code ⟨"SnippetShell", "letter", "(II)I"⟩ prog_1_method_9_code 3 (some .int) : Cond) ∈ pm_tbl := pm_T4 222 (by rfl) (by decide +kernel)
set_option maxRecDepth 20000 in
theorem mw1034 : (.methodLink "SnippetShell" 142 ⟨"SnippetShell$Names", "has", "(I)Z"⟩ : Cond) ∈ pm_tbl := pm_T4 223 (by rfl) (by decide +kernel)
set_option maxRecDepth 20000 in
theorem mw1035 : (.methodLink "SnippetShell" 145 ⟨"SnippetShell$Names", "letterOf", "(II)I"⟩ : Cond) ∈ pm_tbl := pm_T4 224 (by rfl) (by decide +kernel)
set_option maxRecDepth 20000 in
theorem mw1036 : (.instanceMethod ⟨"SnippetShell$Names", "letterOf", "(II)I"⟩ : Cond) ∈ pm_tbl := pm_T4 225 (by rfl) (by decide +kernel)
set_option maxRecDepth 20000 in
theorem mw1037 : (.selects "SnippetShell$Names" ⟨"SnippetShell$Names", "letterOf", "(II)I"⟩ ⟨"SnippetShell$Names", "letterOf", "(II)I"⟩ : Cond) ∈ pm_tbl := pm_T4 226 (by rfl) (by decide +kernel)
set_option maxRecDepth 20000 in
theorem mw1038 : (.code ⟨"SnippetShell$Names", "letterOf", "(II)I"⟩ prog_4_method_11_code 6 (some .int) : Cond) ∈ pm_tbl := pm_T4 227 (by rfl) (by decide +kernel)
set_option maxRecDepth 20000 in
theorem mw1040 : (.methodLink "SnippetShellLaw" 66 ⟨"SnippetShell", "what", "(I)I"⟩ : Cond) ∈ pm_tbl := pm_T4 229 (by rfl) (by decide +kernel)
set_option maxRecDepth 20000 in
theorem mw1041 : (.instanceMethod ⟨"SnippetShell", "what", "(I)I"⟩ : Cond) ∈ pm_tbl := pm_T4 230 (by rfl) (by decide +kernel)
set_option maxRecDepth 20000 in
theorem mw1042 : (.selects "SnippetShell" ⟨"SnippetShell", "what", "(I)I"⟩ ⟨"SnippetShell", "what", "(I)I"⟩ : Cond) ∈ pm_tbl := pm_T4 231 (by rfl) (by decide +kernel)
set_option maxRecDepth 20000 in
theorem mw1043 : (.code ⟨"SnippetShell", "what", "(I)I"⟩ prog_1_method_10_code 2 (some .int) : Cond) ∈ pm_tbl := pm_T4 232 (by rfl) (by decide +kernel)
set_option maxRecDepth 20000 in
theorem mw1044 : (.methodLink "SnippetShell" 148 ⟨"SnippetShell$Names", "formOf", "(I)I"⟩ : Cond) ∈ pm_tbl := pm_T4 233 (by rfl) (by decide +kernel)
set_option maxRecDepth 20000 in
theorem mw1045 : (.methodLink "SnippetShellLaw" 70 ⟨"SnippetShell", "by", "(I)I"⟩ : Cond) ∈ pm_tbl := pm_T4 234 (by rfl) (by decide +kernel)
set_option maxRecDepth 20000 in
theorem mw1046 : (.instanceMethod ⟨"SnippetShell", "by", "(I)I"⟩ : Cond) ∈ pm_tbl := pm_T4 235 (by rfl) (by decide +kernel)
set_option maxRecDepth 20000 in
theorem mw1047 : (.selects "SnippetShell" ⟨"SnippetShell", "by", "(I)I"⟩ ⟨"SnippetShell", "by", "(I)I"⟩ : Cond) ∈ pm_tbl := pm_T4 236 (by rfl) (by decide +kernel)
set_option maxRecDepth 20000 in
theorem mw1048 : (.code ⟨"SnippetShell", "by", "(I)I"⟩ prog_1_method_11_code 2 (some .int) : Cond) ∈ pm_tbl := pm_T4 237 (by rfl) (by decide +kernel)
set_option maxRecDepth 20000 in
theorem mw1049 : (.methodLink "SnippetShell" 151 ⟨"SnippetShell$Names", "declarerOf", "(I)I"⟩ : Cond) ∈ pm_tbl := pm_T4 238 (by rfl) (by decide +kernel)
set_option maxRecDepth 20000 in
theorem mw1050 : (.methodLink "SnippetShellLaw" 74 ⟨"SnippetShell", "edition", "(I)I"⟩ : Cond) ∈ pm_tbl := pm_T4 239 (by rfl) (by decide +kernel)
set_option maxRecDepth 20000 in
theorem mw1051 : (.instanceMethod ⟨"SnippetShell", "edition", "(I)I"⟩ : Cond) ∈ pm_tbl := pm_T5 0 (by rfl) (by decide +kernel)
set_option maxRecDepth 20000 in
theorem mw1052 : (.selects "SnippetShell" ⟨"SnippetShell", "edition", "(I)I"⟩ ⟨"SnippetShell", "edition", "(I)I"⟩ : Cond) ∈ pm_tbl := pm_T5 1 (by rfl) (by decide +kernel)
set_option maxRecDepth 20000 in
theorem mw1053 : (.code ⟨"SnippetShell", "edition", "(I)I"⟩ prog_1_method_12_code 2 (some .int) : Cond) ∈ pm_tbl := pm_T5 2 (by rfl) (by decide +kernel)
set_option maxRecDepth 20000 in
theorem mw1054 : (.methodLink "SnippetShell" 154 ⟨"SnippetShell$Names", "editionOf", "(I)I"⟩ : Cond) ∈ pm_tbl := pm_T5 3 (by rfl) (by decide +kernel)
set_option maxRecDepth 20000 in
theorem mw1055 : (.methodLink "SnippetShellLaw" 78 ⟨"SnippetShell", "state", "(I)I"⟩ : Cond) ∈ pm_tbl := pm_T5 4 (by rfl) (by decide +kernel)
set_option maxRecDepth 20000 in
theorem mw1056 : (.instanceMethod ⟨"SnippetShell", "state", "(I)I"⟩ : Cond) ∈ pm_tbl := pm_T5 5 (by rfl) (by decide +kernel)
set_option maxRecDepth 20000 in
theorem mw1057 : (.selects "SnippetShell" ⟨"SnippetShell", "state", "(I)I"⟩ ⟨"SnippetShell", "state", "(I)I"⟩ : Cond) ∈ pm_tbl := pm_T5 6 (by rfl) (by decide +kernel)
set_option maxRecDepth 20000 in
theorem mw1058 : (.code ⟨"SnippetShell", "state", "(I)I"⟩ prog_1_method_13_code 2 (some .int) : Cond) ∈ pm_tbl := pm_T5 7 (by rfl) (by decide +kernel)
set_option maxRecDepth 20000 in
theorem mw1059 : (.methodLink "SnippetShell" 155 ⟨"SnippetShell$Shelf", "hasSnippet", "(I)Z"⟩ : Cond) ∈ pm_tbl := pm_T5 8 (by rfl) (by decide +kernel)
set_option maxRecDepth 20000 in
theorem mw1060 : (.methodLink "SnippetShell" 158 ⟨"SnippetShell$Shelf", "stateOf", "(I)I"⟩ : Cond) ∈ pm_tbl := pm_T5 9 (by rfl) (by decide +kernel)
set_option maxRecDepth 20000 in
theorem mw1061 : (.instanceMethod ⟨"SnippetShell$Shelf", "stateOf", "(I)I"⟩ : Cond) ∈ pm_tbl := pm_T5 10 (by rfl) (by decide +kernel)
set_option maxRecDepth 20000 in
theorem mw1062 : (.selects "SnippetShell$Shelf" ⟨"SnippetShell$Shelf", "stateOf", "(I)I"⟩ ⟨"SnippetShell$Shelf", "stateOf", "(I)I"⟩ : Cond) ∈ pm_tbl := pm_T5 11 (by rfl) (by decide +kernel)
set_option maxRecDepth 20000 in
theorem mw1063 : (.code ⟨"SnippetShell$Shelf", "stateOf", "(I)I"⟩ prog_6_method_12_code 2 (some .int) : Cond) ∈ pm_tbl := pm_T5 12 (by rfl) (by decide +kernel)
set_option maxRecDepth 20000 in
theorem mw1064 : (.methodLink "SnippetShell$Shelf" 96 ⟨"SnippetShell$Shelf", "isReplaced", "(I)Z"⟩ : Cond) ∈ pm_tbl := pm_T5 13 (by rfl) (by decide +kernel)
set_option maxRecDepth 20000 in
theorem mw1066 : (.instanceMethod ⟨"SnippetShell$Shelf", "isReplaced", "(I)Z"⟩ : Cond) ∈ pm_tbl := pm_T5 15 (by rfl) (by decide +kernel)
set_option maxRecDepth 20000 in
theorem mw1067 : (.code ⟨"SnippetShell$Shelf", "isReplaced", "(I)Z"⟩ prog_6_method_16_code 2 (some .boolean) : Cond) ∈ pm_tbl := pm_T5 16 (by rfl) (by decide +kernel)
set_option maxRecDepth 20000 in
theorem mw1068 : (.methodLink "SnippetShell$Shelf" 99 ⟨"SnippetShell$Snippet", "lacksName", "(LSnippetShell$Names;)Z"⟩ : Cond) ∈ pm_tbl := pm_T5 17 (by rfl) (by decide +kernel)
set_option maxRecDepth 20000 in
theorem mw1069 : (.instanceMethod ⟨"SnippetShell$Snippet", "lacksName", "(LSnippetShell$Names;)Z"⟩ : Cond) ∈ pm_tbl := pm_T5 18 (by rfl) (by decide +kernel)
set_option maxRecDepth 20000 in
theorem mw1070 : (.selects "SnippetShell$Snippet" ⟨"SnippetShell$Snippet", "lacksName", "(LSnippetShell$Names;)Z"⟩ ⟨"SnippetShell$Snippet", "lacksName", "(LSnippetShell$Names;)Z"⟩ : Cond) ∈ pm_tbl := pm_T5 19 (by rfl) (by decide +kernel)
set_option maxRecDepth 20000 in
theorem mw1071 : (.code ⟨"SnippetShell$Snippet", "lacksName", "(LSnippetShell$Names;)Z"⟩ prog_7_method_9_code 4 (some .boolean) : Cond) ∈ pm_tbl := pm_T5 20 (by rfl) (by decide +kernel)
set_option maxRecDepth 20000 in
theorem mw1072 : (.methodLink "SnippetShell$Snippet" 30 ⟨"SnippetShell$Code", "size", "()I"⟩ : Cond) ∈ pm_tbl := pm_T5 21 (by rfl) (by decide +kernel)
set_option maxRecDepth 20000 in
theorem mw1073 : (.methodLink "SnippetShell$Snippet" 40 ⟨"SnippetShell$Code", "coreAt", "(I)J"⟩ : Cond) ∈ pm_tbl := pm_T5 22 (by rfl) (by decide +kernel)
set_option maxRecDepth 20000 in
theorem mw1074 : (.methodLink "SnippetShell$Snippet" 44 ⟨"SnippetShell$Names", "formOf", "(I)I"⟩ : Cond) ∈ pm_tbl := pm_T5 23 (by rfl) (by decide +kernel)
set_option maxRecDepth 20000 in
theorem mw1075 : (.methodLink "SnippetShell$Snippet" 36 ⟨"SnippetShell$Code", "deedAt", "(I)I"⟩ : Cond) ∈ pm_tbl := pm_T5 24 (by rfl) (by decide +kernel)
set_option maxRecDepth 20000 in
theorem mw1076 : (.methodLink "SnippetShellLaw" 88 ⟨"SnippetShell", "user", "(II)I"⟩ : Cond) ∈ pm_tbl := pm_T5 25 (by rfl) (by decide +kernel)
set_option maxRecDepth 20000 in
theorem mw1077 : (.instanceMethod ⟨"SnippetShell", "user", "(II)I"⟩ : Cond) ∈ pm_tbl := pm_T5 26 (by rfl) (by decide +kernel)
set_option maxRecDepth 20000 in
theorem mw1078 : (.selects "SnippetShell" ⟨"SnippetShell", "user", "(II)I"⟩ ⟨"SnippetShell", "user", "(II)I"⟩ : Cond) ∈ pm_tbl := pm_T5 27 (by rfl) (by decide +kernel)
set_option maxRecDepth 20000 in
theorem mw1079 : (.code ⟨"SnippetShell", "user", "(II)I"⟩ prog_1_method_15_code 3 (some .int) : Cond) ∈ pm_tbl := pm_T5 28 (by rfl) (by decide +kernel)
set_option maxRecDepth 20000 in
theorem mw1080 : (.methodLink "SnippetShell" 167 ⟨"SnippetShell$Shelf", "userOf", "(II)I"⟩ : Cond) ∈ pm_tbl := pm_T5 29 (by rfl) (by decide +kernel)
set_option maxRecDepth 20000 in
theorem mw1081 : (.instanceMethod ⟨"SnippetShell$Shelf", "userOf", "(II)I"⟩ : Cond) ∈ pm_tbl := pm_T5 30 (by rfl) (by decide +kernel)
set_option maxRecDepth 20000 in
theorem mw1082 : (.selects "SnippetShell$Shelf" ⟨"SnippetShell$Shelf", "userOf", "(II)I"⟩ ⟨"SnippetShell$Shelf", "userOf", "(II)I"⟩ : Cond) ∈ pm_tbl := pm_T5 31 (by rfl) (by decide +kernel)
set_option maxRecDepth 20000 in
theorem mw1083 : (.code ⟨"SnippetShell$Shelf", "userOf", "(II)I"⟩ prog_6_method_13_code 5 (some .int) : Cond) ∈ pm_tbl := pm_T5 32 (by rfl) (by decide +kernel)
set_option maxRecDepth 20000 in
theorem mw1084 : (.methodLink "SnippetShell$Shelf" 103 ⟨"SnippetShell$Snippet", "usesName", "(I)Z"⟩ : Cond) ∈ pm_tbl := pm_T5 33 (by rfl) (by decide +kernel)
set_option maxRecDepth 20000 in
theorem mw1085 : (.instanceMethod ⟨"SnippetShell$Snippet", "usesName", "(I)Z"⟩ : Cond) ∈ pm_tbl := pm_T5 34 (by rfl) (by decide +kernel)
set_option maxRecDepth 20000 in
theorem mw1086 : (.selects "SnippetShell$Snippet" ⟨"SnippetShell$Snippet", "usesName", "(I)Z"⟩ ⟨"SnippetShell$Snippet", "usesName", "(I)Z"⟩ : Cond) ∈ pm_tbl := pm_T5 35 (by rfl) (by decide +kernel)
set_option maxRecDepth 20000 in
theorem mw1087 : (.code ⟨"SnippetShell$Snippet", "usesName", "(I)Z"⟩ prog_7_method_8_code 4 (some .boolean) : Cond) ∈ pm_tbl := pm_T5 36 (by rfl) (by decide +kernel)
set_option maxRecDepth 20000 in
theorem mw1088 : (.methodLink "SnippetShellLaw" 92 ⟨"SnippetShell", "count", "(I)I"⟩ : Cond) ∈ pm_tbl := pm_T5 37 (by rfl) (by decide +kernel)
set_option maxRecDepth 20000 in
theorem mw1089 : (.instanceMethod ⟨"SnippetShell", "count", "(I)I"⟩ : Cond) ∈ pm_tbl := pm_T5 38 (by rfl) (by decide +kernel)
set_option maxRecDepth 20000 in
theorem mw1090 : (.selects "SnippetShell" ⟨"SnippetShell", "count", "(I)I"⟩ ⟨"SnippetShell", "count", "(I)I"⟩ : Cond) ∈ pm_tbl := pm_T5 39 (by rfl) (by decide +kernel)
set_option maxRecDepth 20000 in
theorem mw1091 : (.code ⟨"SnippetShell", "count", "(I)I"⟩ prog_1_method_16_code 2 (some .int) : Cond) ∈ pm_tbl := pm_T5 40 (by rfl) (by decide +kernel)
set_option maxRecDepth 20000 in
theorem mw1092 : (.methodLink "SnippetShell" 176 ⟨"SnippetShell$Names", "size", "()I"⟩ : Cond) ∈ pm_tbl := pm_T5 41 (by rfl) (by decide +kernel)
set_option maxRecDepth 20000 in
theorem mw1093 : (.instanceMethod ⟨"SnippetShell$Names", "size", "()I"⟩ : Cond) ∈ pm_tbl := pm_T5 42 (by rfl) (by decide +kernel)
set_option maxRecDepth 20000 in
theorem mw1094 : (.selects "SnippetShell$Names" ⟨"SnippetShell$Names", "size", "()I"⟩ ⟨"SnippetShell$Names", "size", "()I"⟩ : Cond) ∈ pm_tbl := pm_T5 43 (by rfl) (by decide +kernel)
set_option maxRecDepth 20000 in
theorem mw1095 : (.code ⟨"SnippetShell$Names", "size", "()I"⟩ prog_4_method_3_code 1 (some .int) : Cond) ∈ pm_tbl := pm_T5 44 (by rfl) (by decide +kernel)
set_option maxRecDepth 20000 in
theorem mw1096 : (.methodLink "SnippetShell" 179 ⟨"SnippetShell$Shelf", "countWaiting", "()I"⟩ : Cond) ∈ pm_tbl := pm_T5 45 (by rfl) (by decide +kernel)
set_option maxRecDepth 20000 in
theorem mw1097 : (.instanceMethod ⟨"SnippetShell$Shelf", "countWaiting", "()I"⟩ : Cond) ∈ pm_tbl := pm_T5 46 (by rfl) (by decide +kernel)
set_option maxRecDepth 20000 in
theorem mw1098 : (.selects "SnippetShell$Shelf" ⟨"SnippetShell$Shelf", "countWaiting", "()I"⟩ ⟨"SnippetShell$Shelf", "countWaiting", "()I"⟩ : Cond) ∈ pm_tbl := pm_T5 47 (by rfl) (by decide +kernel)
set_option maxRecDepth 20000 in
theorem mw1099 : (.code ⟨"SnippetShell$Shelf", "countWaiting", "()I"⟩ prog_6_method_14_code 3 (some .int) : Cond) ∈ pm_tbl := pm_T5 48 (by rfl) (by decide +kernel)
set_option maxRecDepth 20000 in
theorem mw1100 : (.methodLink "SnippetShell$Shelf" 106 ⟨"SnippetShell$Shelf", "stateOf", "(I)I"⟩ : Cond) ∈ pm_tbl := pm_T5 49 (by rfl) (by decide +kernel)
set_option maxRecDepth 20000 in
theorem mw1101 : (.methodLink "SnippetShell" 182 ⟨"SnippetShell$Shelf", "countOldResults", "()I"⟩ : Cond) ∈ pm_tbl := pm_T5 50 (by rfl) (by decide +kernel)
set_option maxRecDepth 20000 in
theorem mw1102 : (.instanceMethod ⟨"SnippetShell$Shelf", "countOldResults", "()I"⟩ : Cond) ∈ pm_tbl := pm_T5 51 (by rfl) (by decide +kernel)
set_option maxRecDepth 20000 in
theorem mw1103 : (.selects "SnippetShell$Shelf" ⟨"SnippetShell$Shelf", "countOldResults", "()I"⟩ ⟨"SnippetShell$Shelf", "countOldResults", "()I"⟩ : Cond) ∈ pm_tbl := pm_T5 52 (by rfl) (by decide +kernel)
set_option maxRecDepth 20000 in
theorem mw1104 : (.code ⟨"SnippetShell$Shelf", "countOldResults", "()I"⟩ prog_6_method_15_code 3 (some .int) : Cond) ∈ pm_tbl := pm_T5 53 (by rfl) (by decide +kernel)
set_option maxRecDepth 20000 in
theorem mw1105 : (.methodLink "SnippetShell$Shelf" 109 ⟨"SnippetShell$Values", "kindAt", "(I)I"⟩ : Cond) ∈ pm_tbl := pm_T5 54 (by rfl) (by decide +kernel)
set_option maxRecDepth 20000 in
theorem mw1106 : (.methodLink "SnippetShell$Shelf" 112 ⟨"SnippetShell$Values", "coreAt", "(I)J"⟩ : Cond) ∈ pm_tbl := pm_T5 55 (by rfl) (by decide +kernel)
set_option maxRecDepth 20000 in
theorem mw1107 : (.methodLink "SnippetShell$Shelf" 116 ⟨"SnippetShell$Shelf", "isOld", "(I)Z"⟩ : Cond) ∈ pm_tbl := pm_T5 56 (by rfl) (by decide +kernel)
set_option maxRecDepth 20000 in
theorem mw1108 : (.methodLink "SnippetShell" 185 ⟨"SnippetShell$Machine", "stepsInAll", "()I"⟩ : Cond) ∈ pm_tbl := pm_T5 57 (by rfl) (by decide +kernel)
set_option maxRecDepth 20000 in
theorem mw1109 : (.instanceMethod ⟨"SnippetShell$Machine", "stepsInAll", "()I"⟩ : Cond) ∈ pm_tbl := pm_T5 58 (by rfl) (by decide +kernel)
set_option maxRecDepth 20000 in
theorem mw1110 : (.selects "SnippetShell$Machine" ⟨"SnippetShell$Machine", "stepsInAll", "()I"⟩ ⟨"SnippetShell$Machine", "stepsInAll", "()I"⟩ : Cond) ∈ pm_tbl := pm_T5 59 (by rfl) (by decide +kernel)
set_option maxRecDepth 20000 in
theorem mw1111 : (.code ⟨"SnippetShell$Machine", "stepsInAll", "()I"⟩ prog_3_method_6_code 1 (some .int) : Cond) ∈ pm_tbl := pm_T5 60 (by rfl) (by decide +kernel)
set_option maxRecDepth 20000 in
theorem mw1112 : (.methodLink "SnippetShellLaw" 96 ⟨"SnippetShell", "erase", "()I"⟩ : Cond) ∈ pm_tbl := pm_T5 61 (by rfl) (by decide +kernel)
set_option maxRecDepth 20000 in
theorem mw1113 : (.instanceMethod ⟨"SnippetShell", "erase", "()I"⟩ : Cond) ∈ pm_tbl := pm_T5 62 (by rfl) (by decide +kernel)
set_option maxRecDepth 20000 in
theorem mw1114 : (.selects "SnippetShell" ⟨"SnippetShell", "erase", "()I"⟩ ⟨"SnippetShell", "erase", "()I"⟩ : Cond) ∈ pm_tbl := pm_T5 63 (by rfl) (by decide +kernel)
set_option maxRecDepth 20000 in
theorem mw1115 : (.code ⟨"SnippetShell", "erase", "()I"⟩ prog_1_method_17_code 2 (some .int) : Cond) ∈ pm_tbl := pm_T5 64 (by rfl) (by decide +kernel)
set_option maxRecDepth 20000 in
theorem mw1116 : (.methodLink "SnippetShellLaw" 100 ⟨"SnippetShell", "reset", "()I"⟩ : Cond) ∈ pm_tbl := pm_T5 65 (by rfl) (by decide +kernel)
set_option maxRecDepth 20000 in
theorem mw1117 : (.instanceMethod ⟨"SnippetShell", "reset", "()I"⟩ : Cond) ∈ pm_tbl := pm_T5 66 (by rfl) (by decide +kernel)
set_option maxRecDepth 20000 in
theorem mw1118 : (.selects "SnippetShell" ⟨"SnippetShell", "reset", "()I"⟩ ⟨"SnippetShell", "reset", "()I"⟩ : Cond) ∈ pm_tbl := pm_T5 67 (by rfl) (by decide +kernel)
set_option maxRecDepth 20000 in
theorem mw1119 : (.code ⟨"SnippetShell", "reset", "()I"⟩ prog_1_method_18_code 2 (some .int) : Cond) ∈ pm_tbl := pm_T5 68 (by rfl) (by decide +kernel)
set_option maxRecDepth 20000 in
theorem mw1120 : (.methodLink "SnippetShell" 188 ⟨"SnippetShell$Shelf", "clear", "()V"⟩ : Cond) ∈ pm_tbl := pm_T5 69 (by rfl) (by decide +kernel)
set_option maxRecDepth 20000 in
theorem mw1121 : (.instanceMethod ⟨"SnippetShell$Shelf", "clear", "()V"⟩ : Cond) ∈ pm_tbl := pm_T5 70 (by rfl) (by decide +kernel)
set_option maxRecDepth 20000 in
theorem mw1122 : (.selects "SnippetShell$Shelf" ⟨"SnippetShell$Shelf", "clear", "()V"⟩ ⟨"SnippetShell$Shelf", "clear", "()V"⟩ : Cond) ∈ pm_tbl := pm_T5 71 (by rfl) (by decide +kernel)
set_option maxRecDepth 20000 in
theorem mw1123 : (.code ⟨"SnippetShell$Shelf", "clear", "()V"⟩ prog_6_method_2_code 1 none : Cond) ∈ pm_tbl := pm_T5 72 (by rfl) (by decide +kernel)
set_option maxRecDepth 20000 in
theorem mw1124 : (.methodLink "SnippetShell$Shelf" 43 ⟨"SnippetShell$Names", "clear", "()V"⟩ : Cond) ∈ pm_tbl := pm_T5 73 (by rfl) (by decide +kernel)
set_option maxRecDepth 20000 in
theorem mw1125 : (.instanceMethod ⟨"SnippetShell$Names", "clear", "()V"⟩ : Cond) ∈ pm_tbl := pm_T5 74 (by rfl) (by decide +kernel)
set_option maxRecDepth 20000 in
theorem mw1126 : (.selects "SnippetShell$Names" ⟨"SnippetShell$Names", "clear", "()V"⟩ ⟨"SnippetShell$Names", "clear", "()V"⟩ : Cond) ∈ pm_tbl := pm_T5 75 (by rfl) (by decide +kernel)
set_option maxRecDepth 20000 in
theorem mw1127 : (.code ⟨"SnippetShell$Names", "clear", "()V"⟩ prog_4_method_2_code 1 none : Cond) ∈ pm_tbl := pm_T5 76 (by rfl) (by decide +kernel)
set_option maxRecDepth 20000 in
theorem mw1128 : (.methodLink "SnippetShell$Shelf" 46 ⟨"SnippetShell$Things", "dropFrom", "(I)V"⟩ : Cond) ∈ pm_tbl := pm_T5 77 (by rfl) (by decide +kernel)
set_option maxRecDepth 20000 in
theorem mw1129 : (.methodLink "SnippetShell" 191 ⟨"SnippetShell$Machine", "clear", "()V"⟩ : Cond) ∈ pm_tbl := pm_T5 78 (by rfl) (by decide +kernel)
set_option maxRecDepth 20000 in
theorem mw1130 : (.instanceMethod ⟨"SnippetShell$Machine", "clear", "()V"⟩ : Cond) ∈ pm_tbl := pm_T5 79 (by rfl) (by decide +kernel)
set_option maxRecDepth 20000 in
theorem mw1131 : (.selects "SnippetShell$Machine" ⟨"SnippetShell$Machine", "clear", "()V"⟩ ⟨"SnippetShell$Machine", "clear", "()V"⟩ : Cond) ∈ pm_tbl := pm_T5 80 (by rfl) (by decide +kernel)
set_option maxRecDepth 20000 in
theorem mw1132 : (.code ⟨"SnippetShell$Machine", "clear", "()V"⟩ prog_3_method_2_code 1 none : Cond) ∈ pm_tbl := pm_T5 81 (by rfl) (by decide +kernel)
set_option maxRecDepth 20000 in
theorem mw1133 : (.methodLink "SnippetShell$Machine" 43 ⟨"SnippetShell$Machine", "forgetReport", "()V"⟩ : Cond) ∈ pm_tbl := pm_T5 82 (by rfl) (by decide +kernel)
set_option maxRecDepth 20000 in
theorem mw1243 : (.methodLink "SnippetShellLaw" 7 ⟨"SnippetShell", "whole", "(I)J"⟩ : Cond) ∈ pm_tbl := pm_T5 192 (by rfl) (by decide +kernel)
set_option maxRecDepth 20000 in
theorem mw1244 : (.instanceMethod ⟨"SnippetShell", "whole", "(I)J"⟩ : Cond) ∈ pm_tbl := pm_T5 193 (by rfl) (by decide +kernel)
set_option maxRecDepth 20000 in
theorem mw1245 : (.selects "SnippetShell" ⟨"SnippetShell", "whole", "(I)J"⟩ ⟨"SnippetShell", "whole", "(I)J"⟩ : Cond) ∈ pm_tbl := pm_T5 194 (by rfl) (by decide +kernel)
set_option maxRecDepth 20000 in
theorem mw1246 : (.code ⟨"SnippetShell", "whole", "(I)J"⟩ prog_1_method_6_code 3 (some .long) : Cond) ∈ pm_tbl := pm_T5 195 (by rfl) (by decide +kernel)
set_option maxRecDepth 20000 in
theorem mw1276 : (.methodLink "SnippetShellLaw" 17 ⟨"SnippetShell", "text", "(II)I"⟩ : Cond) ∈ pm_tbl := pm_T5 225 (by rfl) (by decide +kernel)
set_option maxRecDepth 20000 in
theorem mw1277 : (.instanceMethod ⟨"SnippetShell", "text", "(II)I"⟩ : Cond) ∈ pm_tbl := pm_T5 226 (by rfl) (by decide +kernel)
set_option maxRecDepth 20000 in
theorem mw1278 : (.selects "SnippetShell" ⟨"SnippetShell", "text", "(II)I"⟩ ⟨"SnippetShell", "text", "(II)I"⟩ : Cond) ∈ pm_tbl := pm_T5 227 (by rfl) (by decide +kernel)
set_option maxRecDepth 20000 in
theorem mw1279 : (.code ⟨"SnippetShell", "text", "(II)I"⟩ prog_1_method_14_code 4 (some .int) : Cond) ∈ pm_tbl := pm_T5 228 (by rfl) (by decide +kernel)
set_option maxRecDepth 20000 in
theorem mw1280 : (.methodLink "SnippetShell" 161 ⟨"SnippetShell$Shelf", "signOf", "(II)I"⟩ : Cond) ∈ pm_tbl := pm_T5 229 (by rfl) (by decide +kernel)
set_option maxRecDepth 20000 in
theorem mw1281 : (.instanceMethod ⟨"SnippetShell$Shelf", "signOf", "(II)I"⟩ : Cond) ∈ pm_tbl := pm_T5 230 (by rfl) (by decide +kernel)
set_option maxRecDepth 20000 in
theorem mw1282 : (.selects "SnippetShell$Shelf" ⟨"SnippetShell$Shelf", "signOf", "(II)I"⟩ ⟨"SnippetShell$Shelf", "signOf", "(II)I"⟩ : Cond) ∈ pm_tbl := pm_T5 231 (by rfl) (by decide +kernel)
set_option maxRecDepth 20000 in
theorem mw1283 : (.code ⟨"SnippetShell$Shelf", "signOf", "(II)I"⟩ prog_6_method_11_code 3 (some .int) : Cond) ∈ pm_tbl := pm_T5 232 (by rfl) (by decide +kernel)
set_option maxRecDepth 20000 in
theorem mw1284 : (.methodLink "SnippetShell$Shelf" 93 ⟨"SnippetShell$Snippet", "signAt", "(I)I"⟩ : Cond) ∈ pm_tbl := pm_T5 233 (by rfl) (by decide +kernel)
set_option maxRecDepth 20000 in
theorem mw1285 : (.instanceMethod ⟨"SnippetShell$Snippet", "signAt", "(I)I"⟩ : Cond) ∈ pm_tbl := pm_T5 234 (by rfl) (by decide +kernel)
set_option maxRecDepth 20000 in
theorem mw1286 : (.selects "SnippetShell$Snippet" ⟨"SnippetShell$Snippet", "signAt", "(I)I"⟩ ⟨"SnippetShell$Snippet", "signAt", "(I)I"⟩ : Cond) ∈ pm_tbl := pm_T5 235 (by rfl) (by decide +kernel)
set_option maxRecDepth 20000 in
theorem mw1287 : (.code ⟨"SnippetShell$Snippet", "signAt", "(I)I"⟩ prog_7_method_7_code 2 (some .int) : Cond) ∈ pm_tbl := pm_T5 236 (by rfl) (by decide +kernel)
set_option maxRecDepth 20000 in
theorem mw1296 : (.classLink "SnippetShellLaw" 24 "SnippetShellModel" : Cond) ∈ pm_tbl := pm_T6 5 (by rfl) (by decide +kernel)
set_option maxRecDepth 20000 in
theorem mw1297 : (.instantiable "SnippetShellModel" 66 : Cond) ∈ pm_tbl := pm_T6 6 (by rfl) (by decide +kernel)
set_option maxRecDepth 20000 in
theorem mw1298 : (.methodLink "SnippetShellLaw" 26 ⟨"SnippetShellModel", "<init>", "()V"⟩ : Cond) ∈ pm_tbl := pm_T6 7 (by rfl) (by decide +kernel)
set_option maxRecDepth 20000 in
theorem mw1299 : (.instanceMethod ⟨"SnippetShellModel", "<init>", "()V"⟩ : Cond) ∈ pm_tbl := pm_T6 8 (by rfl) (by decide +kernel)
set_option maxRecDepth 20000 in
theorem mw1300 : (.code ⟨"SnippetShellModel", "<init>", "()V"⟩ prog_12_method_1_code 1 none : Cond) ∈ pm_tbl := pm_T6 9 (by rfl) (by decide +kernel)
set_option maxRecDepth 20000 in
theorem mw1301 : (.methodLink "SnippetShellModel" 1 ⟨"java/lang/Object", "<init>", "()V"⟩ : Cond) ∈ pm_tbl := pm_T6 10 (by rfl) (by decide +kernel)
set_option maxRecDepth 20000 in
theorem mw1302 : (.constant "SnippetShellModel" 89 (49500 : Int32) : Cond) ∈ pm_tbl := pm_T6 11 (by rfl) (by decide +kernel)
set_option maxRecDepth 20000 in
theorem mw1303 : (.fieldLink "SnippetShellModel" 154 "SnippetShellModel" "thrown" "I" : Cond) ∈ pm_tbl := pm_T6 12 (by rfl) (by decide +kernel)
set_option maxRecDepth 20000 in
theorem mw1304 : (.fieldLink "SnippetShellModel" 7 "SnippetShellModel" "text" "[I" : Cond) ∈ pm_tbl := pm_T6 13 (by rfl) (by decide +kernel)
set_option maxRecDepth 20000 in
theorem mw1305 : (.fieldLink "SnippetShellModel" 164 "SnippetShellModel" "size" "I" : Cond) ∈ pm_tbl := pm_T6 14 (by rfl) (by decide +kernel)
set_option maxRecDepth 20000 in
theorem mw1306 : (.fieldLink "SnippetShellModel" 273 "SnippetShellModel" "names" "I" : Cond) ∈ pm_tbl := pm_T6 15 (by rfl) (by decide +kernel)
set_option maxRecDepth 20000 in
theorem mw1307 : (.fieldLink "SnippetShellModel" 13 "SnippetShellModel" "letters" "[J" : Cond) ∈ pm_tbl := pm_T6 16 (by rfl) (by decide +kernel)
set_option maxRecDepth 20000 in
theorem mw1308 : (.fieldLink "SnippetShellModel" 17 "SnippetShellModel" "what" "[I" : Cond) ∈ pm_tbl := pm_T6 17 (by rfl) (by decide +kernel)
set_option maxRecDepth 20000 in
theorem mw1309 : (.fieldLink "SnippetShellModel" 20 "SnippetShellModel" "by" "[I" : Cond) ∈ pm_tbl := pm_T6 18 (by rfl) (by decide +kernel)
set_option maxRecDepth 20000 in
theorem mw1310 : (.fieldLink "SnippetShellModel" 23 "SnippetShellModel" "editions" "[I" : Cond) ∈ pm_tbl := pm_T6 19 (by rfl) (by decide +kernel)
set_option maxRecDepth 20000 in
theorem mw1311 : (.fieldLink "SnippetShellModel" 26 "SnippetShellModel" "varKind" "[I" : Cond) ∈ pm_tbl := pm_T6 20 (by rfl) (by decide +kernel)
set_option maxRecDepth 20000 in
theorem mw1312 : (.fieldLink "SnippetShellModel" 29 "SnippetShellModel" "varValue" "[J" : Cond) ∈ pm_tbl := pm_T6 21 (by rfl) (by decide +kernel)
set_option maxRecDepth 20000 in
theorem mw1313 : (.fieldLink "SnippetShellModel" 220 "SnippetShellModel" "kept" "I" : Cond) ∈ pm_tbl := pm_T6 22 (by rfl) (by decide +kernel)
set_option maxRecDepth 20000 in
theorem mw1314 : (.fieldLink "SnippetShellModel" 32 "SnippetShellModel" "sort" "[I" : Cond) ∈ pm_tbl := pm_T6 23 (by rfl) (by decide +kernel)
set_option maxRecDepth 20000 in
theorem mw1315 : (.fieldLink "SnippetShellModel" 35 "SnippetShellModel" "declares" "[I" : Cond) ∈ pm_tbl := pm_T6 24 (by rfl) (by decide +kernel)
set_option maxRecDepth 20000 in
theorem mw1316 : (.fieldLink "SnippetShellModel" 38 "SnippetShellModel" "params" "[I" : Cond) ∈ pm_tbl := pm_T6 25 (by rfl) (by decide +kernel)
set_option maxRecDepth 20000 in
theorem mw1317 : (.fieldLink "SnippetShellModel" 41 "SnippetShellModel" "param" "[I" : Cond) ∈ pm_tbl := pm_T6 26 (by rfl) (by decide +kernel)
set_option maxRecDepth 20000 in
theorem mw1318 : (.fieldLink "SnippetShellModel" 44 "SnippetShellModel" "edition" "[I" : Cond) ∈ pm_tbl := pm_T6 27 (by rfl) (by decide +kernel)
set_option maxRecDepth 20000 in
theorem mw1319 : (.fieldLink "SnippetShellModel" 47 "SnippetShellModel" "root" "[I" : Cond) ∈ pm_tbl := pm_T6 28 (by rfl) (by decide +kernel)
set_option maxRecDepth 20000 in
theorem mw1320 : (.fieldLink "SnippetShellModel" 50 "SnippetShellModel" "textSize" "[I" : Cond) ∈ pm_tbl := pm_T6 29 (by rfl) (by decide +kernel)
set_option maxRecDepth 20000 in
theorem mw1321 : (.fieldLink "SnippetShellModel" 53 "SnippetShellModel" "texts" "[I" : Cond) ∈ pm_tbl := pm_T6 30 (by rfl) (by decide +kernel)
set_option maxRecDepth 20000 in
theorem mw1322 : (.fieldLink "SnippetShellModel" 56 "SnippetShellModel" "nk" "[I" : Cond) ∈ pm_tbl := pm_T6 31 (by rfl) (by decide +kernel)
set_option maxRecDepth 20000 in
theorem mw1323 : (.fieldLink "SnippetShellModel" 59 "SnippetShellModel" "nl" "[I" : Cond) ∈ pm_tbl := pm_T6 32 (by rfl) (by decide +kernel)
set_option maxRecDepth 20000 in
theorem mw1324 : (.fieldLink "SnippetShellModel" 62 "SnippetShellModel" "nr" "[I" : Cond) ∈ pm_tbl := pm_T6 33 (by rfl) (by decide +kernel)
set_option maxRecDepth 20000 in
theorem mw1325 : (.fieldLink "SnippetShellModel" 65 "SnippetShellModel" "nc" "[I" : Cond) ∈ pm_tbl := pm_T6 34 (by rfl) (by decide +kernel)
set_option maxRecDepth 20000 in
theorem mw1326 : (.fieldLink "SnippetShellModel" 68 "SnippetShellModel" "np" "[I" : Cond) ∈ pm_tbl := pm_T6 35 (by rfl) (by decide +kernel)
set_option maxRecDepth 20000 in
theorem mw1327 : (.fieldLink "SnippetShellModel" 71 "SnippetShellModel" "nt" "[I" : Cond) ∈ pm_tbl := pm_T6 36 (by rfl) (by decide +kernel)
set_option maxRecDepth 20000 in
theorem mw1328 : (.fieldLink "SnippetShellModel" 74 "SnippetShellModel" "nm" "[I" : Cond) ∈ pm_tbl := pm_T6 37 (by rfl) (by decide +kernel)
set_option maxRecDepth 20000 in
theorem mw1329 : (.fieldLink "SnippetShellModel" 77 "SnippetShellModel" "nv" "[J" : Cond) ∈ pm_tbl := pm_T6 38 (by rfl) (by decide +kernel)
set_option maxRecDepth 20000 in
theorem mw1330 : (.fieldLink "SnippetShellModel" 305 "SnippetShellModel" "results" "I" : Cond) ∈ pm_tbl := pm_T6 39 (by rfl) (by decide +kernel)
set_option maxRecDepth 20000 in
theorem mw1331 : (.fieldLink "SnippetShellModel" 80 "SnippetShellModel" "resKind" "[I" : Cond) ∈ pm_tbl := pm_T6 40 (by rfl) (by decide +kernel)
set_option maxRecDepth 20000 in
theorem mw1332 : (.fieldLink "SnippetShellModel" 83 "SnippetShellModel" "resValue" "[J" : Cond) ∈ pm_tbl := pm_T6 41 (by rfl) (by decide +kernel)
set_option maxRecDepth 20000 in
theorem mw1333 : (.fieldLink "SnippetShellModel" 317 "SnippetShellModel" "things" "I" : Cond) ∈ pm_tbl := pm_T6 42 (by rfl) (by decide +kernel)
set_option maxRecDepth 20000 in
theorem mw1334 : (.fieldLink "SnippetShellModel" 86 "SnippetShellModel" "ofSnippet" "[I" : Cond) ∈ pm_tbl := pm_T6 43 (by rfl) (by decide +kernel)
set_option maxRecDepth 20000 in
theorem mw1335 : (.fieldLink "SnippetShellModel" 90 "SnippetShellModel" "fieldKind" "[I" : Cond) ∈ pm_tbl := pm_T6 44 (by rfl) (by decide +kernel)
set_option maxRecDepth 20000 in
theorem mw1336 : (.fieldLink "SnippetShellModel" 93 "SnippetShellModel" "fieldValue" "[J" : Cond) ∈ pm_tbl := pm_T6 45 (by rfl) (by decide +kernel)
set_option maxRecDepth 20000 in
theorem mw1337 : (.fieldLink "SnippetShellModel" 354 "SnippetShellModel" "stepsAll" "I" : Cond) ∈ pm_tbl := pm_T6 46 (by rfl) (by decide +kernel)
set_option maxRecDepth 20000 in
theorem mw1338 : (.fieldLink "SnippetShellModel" 96 "SnippetShellModel" "told" "[I" : Cond) ∈ pm_tbl := pm_T6 47 (by rfl) (by decide +kernel)
set_option maxRecDepth 20000 in
theorem mw1339 : (.fieldLink "SnippetShellModel" 167 "SnippetShellModel" "tokens" "I" : Cond) ∈ pm_tbl := pm_T6 48 (by rfl) (by decide +kernel)
set_option maxRecDepth 20000 in
theorem mw1340 : (.fieldLink "SnippetShellModel" 99 "SnippetShellModel" "tk" "[I" : Cond) ∈ pm_tbl := pm_T6 49 (by rfl) (by decide +kernel)
set_option maxRecDepth 20000 in
theorem mw1341 : (.fieldLink "SnippetShellModel" 102 "SnippetShellModel" "tp" "[I" : Cond) ∈ pm_tbl := pm_T6 50 (by rfl) (by decide +kernel)
set_option maxRecDepth 20000 in
theorem mw1342 : (.fieldLink "SnippetShellModel" 105 "SnippetShellModel" "tv" "[J" : Cond) ∈ pm_tbl := pm_T6 51 (by rfl) (by decide +kernel)
set_option maxRecDepth 20000 in
theorem mw1343 : (.fieldLink "SnippetShellModel" 194 "SnippetShellModel" "at" "I" : Cond) ∈ pm_tbl := pm_T6 52 (by rfl) (by decide +kernel)
set_option maxRecDepth 20000 in
theorem mw1344 : (.fieldLink "SnippetShellModel" 197 "SnippetShellModel" "fault" "I" : Cond) ∈ pm_tbl := pm_T6 53 (by rfl) (by decide +kernel)
set_option maxRecDepth 20000 in
theorem mw1345 : (.fieldLink "SnippetShellModel" 210 "SnippetShellModel" "open" "I" : Cond) ∈ pm_tbl := pm_T6 54 (by rfl) (by decide +kernel)
set_option maxRecDepth 20000 in
theorem mw1346 : (.fieldLink "SnippetShellModel" 223 "SnippetShellModel" "nodes" "I" : Cond) ∈ pm_tbl := pm_T6 55 (by rfl) (by decide +kernel)
set_option maxRecDepth 20000 in
theorem mw1347 : (.fieldLink "SnippetShellModel" 230 "SnippetShellModel" "res" "I" : Cond) ∈ pm_tbl := pm_T6 56 (by rfl) (by decide +kernel)
set_option maxRecDepth 20000 in
theorem mw1348 : (.fieldLink "SnippetShellModel" 213 "SnippetShellModel" "top" "I" : Cond) ∈ pm_tbl := pm_T6 57 (by rfl) (by decide +kernel)
set_option maxRecDepth 20000 in
theorem mw1349 : (.fieldLink "SnippetShellModel" 108 "SnippetShellModel" "ek" "[I" : Cond) ∈ pm_tbl := pm_T6 58 (by rfl) (by decide +kernel)
set_option maxRecDepth 20000 in
theorem mw1350 : (.fieldLink "SnippetShellModel" 111 "SnippetShellModel" "es" "[I" : Cond) ∈ pm_tbl := pm_T6 59 (by rfl) (by decide +kernel)
set_option maxRecDepth 20000 in
theorem mw1351 : (.fieldLink "SnippetShellModel" 114 "SnippetShellModel" "ea" "[I" : Cond) ∈ pm_tbl := pm_T6 60 (by rfl) (by decide +kernel)
set_option maxRecDepth 20000 in
theorem mw1352 : (.fieldLink "SnippetShellModel" 117 "SnippetShellModel" "eb" "[I" : Cond) ∈ pm_tbl := pm_T6 61 (by rfl) (by decide +kernel)
set_option maxRecDepth 20000 in
theorem mw1353 : (.fieldLink "SnippetShellModel" 120 "SnippetShellModel" "ec" "[I" : Cond) ∈ pm_tbl := pm_T6 62 (by rfl) (by decide +kernel)
set_option maxRecDepth 20000 in
theorem mw1354 : (.fieldLink "SnippetShellModel" 123 "SnippetShellModel" "ed" "[I" : Cond) ∈ pm_tbl := pm_T6 63 (by rfl) (by decide +kernel)
set_option maxRecDepth 20000 in
theorem mw1355 : (.fieldLink "SnippetShellModel" 126 "SnippetShellModel" "paramToken" "[I" : Cond) ∈ pm_tbl := pm_T6 64 (by rfl) (by decide +kernel)
set_option maxRecDepth 20000 in
theorem mw1356 : (.fieldLink "SnippetShellModel" 285 "SnippetShellModel" "failure" "I" : Cond) ∈ pm_tbl := pm_T6 65 (by rfl) (by decide +kernel)
set_option maxRecDepth 20000 in
theorem mw1357 : (.fieldLink "SnippetShellModel" 302 "SnippetShellModel" "steps" "I" : Cond) ∈ pm_tbl := pm_T6 66 (by rfl) (by decide +kernel)
set_option maxRecDepth 20000 in
theorem mw1358 : (.fieldLink "SnippetShellModel" 288 "SnippetShellModel" "deep" "I" : Cond) ∈ pm_tbl := pm_T6 67 (by rfl) (by decide +kernel)
set_option maxRecDepth 20000 in
theorem mw1359 : (.fieldLink "SnippetShellModel" 129 "SnippetShellModel" "inSnippet" "[I" : Cond) ∈ pm_tbl := pm_T6 68 (by rfl) (by decide +kernel)
set_option maxRecDepth 20000 in
theorem mw1360 : (.fieldLink "SnippetShellModel" 132 "SnippetShellModel" "argKind" "[I" : Cond) ∈ pm_tbl := pm_T6 69 (by rfl) (by decide +kernel)
set_option maxRecDepth 20000 in
theorem mw1361 : (.fieldLink "SnippetShellModel" 135 "SnippetShellModel" "argValue" "[J" : Cond) ∈ pm_tbl := pm_T6 70 (by rfl) (by decide +kernel)
set_option maxRecDepth 20000 in
theorem mw1362 : (.fieldLink "SnippetShellModel" 282 "SnippetShellModel" "running" "I" : Cond) ∈ pm_tbl := pm_T6 71 (by rfl) (by decide +kernel)
set_option maxRecDepth 20000 in
theorem mw1363 : (.fieldLink "SnippetShellModel" 138 "SnippetShellModel" "fn" "[I" : Cond) ∈ pm_tbl := pm_T6 72 (by rfl) (by decide +kernel)
set_option maxRecDepth 20000 in
theorem mw1364 : (.fieldLink "SnippetShellModel" 141 "SnippetShellModel" "fs" "[I" : Cond) ∈ pm_tbl := pm_T6 73 (by rfl) (by decide +kernel)
set_option maxRecDepth 20000 in
theorem mw1365 : (.fieldLink "SnippetShellModel" 279 "SnippetShellModel" "high" "I" : Cond) ∈ pm_tbl := pm_T6 74 (by rfl) (by decide +kernel)
set_option maxRecDepth 20000 in
theorem mw1366 : (.fieldLink "SnippetShellModel" 144 "SnippetShellModel" "vk" "[I" : Cond) ∈ pm_tbl := pm_T6 75 (by rfl) (by decide +kernel)
set_option maxRecDepth 20000 in
theorem mw1367 : (.fieldLink "SnippetShellModel" 147 "SnippetShellModel" "vv" "[J" : Cond) ∈ pm_tbl := pm_T6 76 (by rfl) (by decide +kernel)
set_option maxRecDepth 20000 in
theorem mw1368 : (.fieldLink "SnippetShellModel" 150 "SnippetShellModel" "reached" "[Z" : Cond) ∈ pm_tbl := pm_T6 77 (by rfl) (by decide +kernel)
set_option maxRecDepth 20000 in
theorem mw1502 : (.arrayClass .boolean : Cond) ∈ pm_tbl := pm_T6 211 (by rfl) (by decide +kernel)
set_option maxRecDepth 20000 in
theorem mw1503 : (.methodLink "SnippetShellLaw" 86 ⟨"SnippetShellModel", "thrown", "()I"⟩ : Cond) ∈ pm_tbl := pm_T6 212 (by rfl) (by decide +kernel)
set_option maxRecDepth 20000 in
theorem mw1504 : (.instanceMethod ⟨"SnippetShellModel", "thrown", "()I"⟩ : Cond) ∈ pm_tbl := pm_T6 213 (by rfl) (by decide +kernel)
set_option maxRecDepth 20000 in
theorem mw1505 : (.selects "SnippetShellModel" ⟨"SnippetShellModel", "thrown", "()I"⟩ ⟨"SnippetShellModel", "thrown", "()I"⟩ : Cond) ∈ pm_tbl := pm_T6 214 (by rfl) (by decide +kernel)
set_option maxRecDepth 20000 in
theorem mw1506 : (.code ⟨"SnippetShellModel", "thrown", "()I"⟩ prog_12_method_2_code 1 (some .int) : Cond) ∈ pm_tbl := pm_T6 215 (by rfl) (by decide +kernel)
set_option maxRecDepth 20000 in
theorem mw1507 : (.methodLink "SnippetShellLaw" 33 ⟨"SnippetShellModel", "signs", "(J)I"⟩ : Cond) ∈ pm_tbl := pm_T6 216 (by rfl) (by decide +kernel)
set_option maxRecDepth 20000 in
theorem mw1508 : (.instanceMethod ⟨"SnippetShellModel", "signs", "(J)I"⟩ : Cond) ∈ pm_tbl := pm_T6 217 (by rfl) (by decide +kernel)
set_option maxRecDepth 20000 in
theorem mw1509 : (.selects "SnippetShellModel" ⟨"SnippetShellModel", "signs", "(J)I"⟩ ⟨"SnippetShellModel", "signs", "(J)I"⟩ : Cond) ∈ pm_tbl := pm_T6 218 (by rfl) (by decide +kernel)
set_option maxRecDepth 20000 in
theorem mw1510 : (.code ⟨"SnippetShellModel", "signs", "(J)I"⟩ prog_12_method_4_code 7 (some .int) : Cond) ∈ pm_tbl := pm_T6 219 (by rfl) (by decide +kernel)
set_option maxRecDepth 20000 in
theorem mw1511 : (.constantLong "SnippetShellModel" 158 (255 : Int64) : Cond) ∈ pm_tbl := pm_T6 220 (by rfl) (by decide +kernel)
set_option maxRecDepth 20000 in
theorem mw1512 : (.methodLink "SnippetShellModel" 160 ⟨"SnippetShellModel", "in", "(III)Z"⟩ : Cond) ∈ pm_tbl := pm_T6 221 (by rfl) (by decide +kernel)
set_option maxRecDepth 20000 in
theorem mw1513 : (.static ⟨"SnippetShellModel", "in", "(III)Z"⟩ : Cond) ∈ pm_tbl := pm_T6 222 (by rfl) (by decide +kernel)
set_option maxRecDepth 20000 in
theorem mw1514 : (.code ⟨"SnippetShellModel", "in", "(III)Z"⟩ prog_12_method_3_code 3 (some .boolean) : Cond) ∈ pm_tbl := pm_T6 223 (by rfl) (by decide +kernel)
set_option maxRecDepth 20000 in
theorem mw1515 : (.methodLink "SnippetShellLaw" 38 ⟨"SnippetShellModel", "run", "()I"⟩ : Cond) ∈ pm_tbl := pm_T6 224 (by rfl) (by decide +kernel)
set_option maxRecDepth 20000 in
theorem mw1516 : (.instanceMethod ⟨"SnippetShellModel", "run", "()I"⟩ : Cond) ∈ pm_tbl := pm_T6 225 (by rfl) (by decide +kernel)
set_option maxRecDepth 20000 in
theorem mw1517 : (.selects "SnippetShellModel" ⟨"SnippetShellModel", "run", "()I"⟩ ⟨"SnippetShellModel", "run", "()I"⟩ : Cond) ∈ pm_tbl := pm_T6 226 (by rfl) (by decide +kernel)
set_option maxRecDepth 20000 in
theorem mw1518 : (.code ⟨"SnippetShellModel", "run", "()I"⟩ prog_12_method_45_code 4 (some .int) : Cond) ∈ pm_tbl := pm_T6 227 (by rfl) (by decide +kernel)
set_option maxRecDepth 20000 in
theorem mw1519 : (.methodLink "SnippetShellModel" 342 ⟨"SnippetShellModel", "read", "()I"⟩ : Cond) ∈ pm_tbl := pm_T6 228 (by rfl) (by decide +kernel)
set_option maxRecDepth 20000 in
theorem mw1521 : (.instanceMethod ⟨"SnippetShellModel", "read", "()I"⟩ : Cond) ∈ pm_tbl := pm_T6 230 (by rfl) (by decide +kernel)
set_option maxRecDepth 20000 in
theorem mw1522 : (.code ⟨"SnippetShellModel", "read", "()I"⟩ prog_12_method_26_code 3 (some .int) : Cond) ∈ pm_tbl := pm_T6 231 (by rfl) (by decide +kernel)
set_option maxRecDepth 20000 in
theorem mw1523 : (.methodLink "SnippetShellModel" 263 ⟨"SnippetShellModel", "cut", "()V"⟩ : Cond) ∈ pm_tbl := pm_T6 232 (by rfl) (by decide +kernel)
set_option maxRecDepth 20000 in
theorem mw1525 : (.instanceMethod ⟨"SnippetShellModel", "cut", "()V"⟩ : Cond) ∈ pm_tbl := pm_T6 234 (by rfl) (by decide +kernel)
set_option maxRecDepth 20000 in
theorem mw1526 : (.code ⟨"SnippetShellModel", "cut", "()V"⟩ prog_12_method_8_code 6 none : Cond) ∈ pm_tbl := pm_T6 235 (by rfl) (by decide +kernel)
set_option maxRecDepth 20000 in
theorem mw1527 : (.methodLink "SnippetShellModel" 170 ⟨"SnippetShellModel", "isLetter", "(I)Z"⟩ : Cond) ∈ pm_tbl := pm_T6 236 (by rfl) (by decide +kernel)
set_option maxRecDepth 20000 in
theorem mw1529 : (.instanceMethod ⟨"SnippetShellModel", "isLetter", "(I)Z"⟩ : Cond) ∈ pm_tbl := pm_T6 238 (by rfl) (by decide +kernel)
set_option maxRecDepth 20000 in
theorem mw1530 : (.code ⟨"SnippetShellModel", "isLetter", "(I)Z"⟩ prog_12_method_5_code 2 (some .boolean) : Cond) ∈ pm_tbl := pm_T6 239 (by rfl) (by decide +kernel)
set_option maxRecDepth 20000 in
theorem mw1531 : (.methodLink "SnippetShellModel" 174 ⟨"SnippetShellModel", "word", "(J)I"⟩ : Cond) ∈ pm_tbl := pm_T7 0 (by rfl) (by decide +kernel)
set_option maxRecDepth 20000 in
theorem mw1532 : (.static ⟨"SnippetShellModel", "word", "(J)I"⟩ : Cond) ∈ pm_tbl := pm_T7 1 (by rfl) (by decide +kernel)
set_option maxRecDepth 20000 in
theorem mw1533 : (.code ⟨"SnippetShellModel", "word", "(J)I"⟩ prog_12_method_9_code 2 (some .int) : Cond) ∈ pm_tbl := pm_T7 2 (by rfl) (by decide +kernel)
set_option maxRecDepth 20000 in
theorem mw1534 : (.constantLong "SnippetShellModel" 188 (7758194 : Int64) : Cond) ∈ pm_tbl := pm_T7 3 (by rfl) (by decide +kernel)
set_option maxRecDepth 20000 in
theorem mw1535 : (.constantLong "SnippetShellModel" 190 (6579558 : Int64) : Cond) ∈ pm_tbl := pm_T7 4 (by rfl) (by decide +kernel)
set_option maxRecDepth 20000 in
theorem mw1536 : (.constantLong "SnippetShellModel" 192 (1954115685 : Int64) : Cond) ∈ pm_tbl := pm_T7 5 (by rfl) (by decide +kernel)
set_option maxRecDepth 20000 in
theorem mw1537 : (.methodLink "SnippetShellModel" 178 ⟨"SnippetShellModel", "isDigit", "(I)Z"⟩ : Cond) ∈ pm_tbl := pm_T7 6 (by rfl) (by decide +kernel)
set_option maxRecDepth 20000 in
theorem mw1539 : (.instanceMethod ⟨"SnippetShellModel", "isDigit", "(I)Z"⟩ : Cond) ∈ pm_tbl := pm_T7 8 (by rfl) (by decide +kernel)
set_option maxRecDepth 20000 in
theorem mw1540 : (.code ⟨"SnippetShellModel", "isDigit", "(I)Z"⟩ prog_12_method_6_code 2 (some .boolean) : Cond) ∈ pm_tbl := pm_T7 9 (by rfl) (by decide +kernel)
set_option maxRecDepth 20000 in
theorem mw1541 : (.constantLong "SnippetShellModel" 181 (10 : Int64) : Cond) ∈ pm_tbl := pm_T7 10 (by rfl) (by decide +kernel)
set_option maxRecDepth 20000 in
theorem mw1542 : (.constantLong "SnippetShellModel" 183 (48 : Int64) : Cond) ∈ pm_tbl := pm_T7 11 (by rfl) (by decide +kernel)
set_option maxRecDepth 20000 in
theorem mw1543 : (.methodLink "SnippetShellModel" 185 ⟨"SnippetShellModel", "isSign", "(I)Z"⟩ : Cond) ∈ pm_tbl := pm_T7 12 (by rfl) (by decide +kernel)
set_option maxRecDepth 20000 in
theorem mw1544 : (.static ⟨"SnippetShellModel", "isSign", "(I)Z"⟩ : Cond) ∈ pm_tbl := pm_T7 13 (by rfl) (by decide +kernel)
set_option maxRecDepth 20000 in
theorem mw1545 : (.code ⟨"SnippetShellModel", "isSign", "(I)Z"⟩ prog_12_method_7_code 1 (some .boolean) : Cond) ∈ pm_tbl := pm_T7 14 (by rfl) (by decide +kernel)
set_option maxRecDepth 20000 in
theorem mw1546 : (.methodLink "SnippetShellModel" 200 ⟨"SnippetShellModel", "tok", "()I"⟩ : Cond) ∈ pm_tbl := pm_T7 15 (by rfl) (by decide +kernel)
set_option maxRecDepth 20000 in
theorem mw1548 : (.instanceMethod ⟨"SnippetShellModel", "tok", "()I"⟩ : Cond) ∈ pm_tbl := pm_T7 17 (by rfl) (by decide +kernel)
set_option maxRecDepth 20000 in
theorem mw1549 : (.code ⟨"SnippetShellModel", "tok", "()I"⟩ prog_12_method_10_code 1 (some .int) : Cond) ∈ pm_tbl := pm_T7 18 (by rfl) (by decide +kernel)
set_option maxRecDepth 20000 in
theorem mw1550 : (.methodLink "SnippetShellModel" 266 ⟨"SnippetShellModel", "readExpr", "()V"⟩ : Cond) ∈ pm_tbl := pm_T7 19 (by rfl) (by decide +kernel)
set_option maxRecDepth 20000 in
theorem mw1552 : (.instanceMethod ⟨"SnippetShellModel", "readExpr", "()V"⟩ : Cond) ∈ pm_tbl := pm_T7 21 (by rfl) (by decide +kernel)
set_option maxRecDepth 20000 in
theorem mw1553 : (.code ⟨"SnippetShellModel", "readExpr", "()V"⟩ prog_12_method_24_code 2 none : Cond) ∈ pm_tbl := pm_T7 22 (by rfl) (by decide +kernel)
set_option maxRecDepth 20000 in
theorem mw1554 : (.methodLink "SnippetShellModel" 216 ⟨"SnippetShellModel", "push", "(I)V"⟩ : Cond) ∈ pm_tbl := pm_T7 23 (by rfl) (by decide +kernel)
set_option maxRecDepth 20000 in
theorem mw1556 : (.instanceMethod ⟨"SnippetShellModel", "push", "(I)V"⟩ : Cond) ∈ pm_tbl := pm_T7 25 (by rfl) (by decide +kernel)
set_option maxRecDepth 20000 in
theorem mw1557 : (.code ⟨"SnippetShellModel", "push", "(I)V"⟩ prog_12_method_15_code 2 none : Cond) ∈ pm_tbl := pm_T7 26 (by rfl) (by decide +kernel)
set_option maxRecDepth 20000 in
theorem mw1558 : (.methodLink "SnippetShellModel" 250 ⟨"SnippetShellModel", "expr", "(I)V"⟩ : Cond) ∈ pm_tbl := pm_T7 27 (by rfl) (by decide +kernel)
set_option maxRecDepth 20000 in
theorem mw1560 : (.instanceMethod ⟨"SnippetShellModel", "expr", "(I)V"⟩ : Cond) ∈ pm_tbl := pm_T7 29 (by rfl) (by decide +kernel)
set_option maxRecDepth 20000 in
theorem mw1561 : (.code ⟨"SnippetShellModel", "expr", "(I)V"⟩ prog_12_method_18_code 2 none : Cond) ∈ pm_tbl := pm_T7 30 (by rfl) (by decide +kernel)
set_option maxRecDepth 20000 in
theorem mw1562 : (.methodLink "SnippetShellModel" 226 ⟨"SnippetShellModel", "then", "(II)V"⟩ : Cond) ∈ pm_tbl := pm_T7 31 (by rfl) (by decide +kernel)
set_option maxRecDepth 20000 in
theorem mw1564 : (.instanceMethod ⟨"SnippetShellModel", "then", "(II)V"⟩ : Cond) ∈ pm_tbl := pm_T7 33 (by rfl) (by decide +kernel)
set_option maxRecDepth 20000 in
theorem mw1565 : (.code ⟨"SnippetShellModel", "then", "(II)V"⟩ prog_12_method_16_code 3 none : Cond) ∈ pm_tbl := pm_T7 34 (by rfl) (by decide +kernel)
set_option maxRecDepth 20000 in
theorem mw1566 : (.methodLink "SnippetShellModel" 233 ⟨"SnippetShellModel", "opens", "()Z"⟩ : Cond) ∈ pm_tbl := pm_T7 35 (by rfl) (by decide +kernel)
set_option maxRecDepth 20000 in
theorem mw1568 : (.instanceMethod ⟨"SnippetShellModel", "opens", "()Z"⟩ : Cond) ∈ pm_tbl := pm_T7 37 (by rfl) (by decide +kernel)
set_option maxRecDepth 20000 in
theorem mw1569 : (.code ⟨"SnippetShellModel", "opens", "()Z"⟩ prog_12_method_14_code 1 (some .boolean) : Cond) ∈ pm_tbl := pm_T7 38 (by rfl) (by decide +kernel)
set_option maxRecDepth 20000 in
theorem mw1570 : (.methodLink "SnippetShellModel" 204 ⟨"SnippetShellModel", "wrong", "()V"⟩ : Cond) ∈ pm_tbl := pm_T7 39 (by rfl) (by decide +kernel)
set_option maxRecDepth 20000 in
theorem mw1572 : (.instanceMethod ⟨"SnippetShellModel", "wrong", "()V"⟩ : Cond) ∈ pm_tbl := pm_T7 41 (by rfl) (by decide +kernel)
set_option maxRecDepth 20000 in
theorem mw1573 : (.code ⟨"SnippetShellModel", "wrong", "()V"⟩ prog_12_method_11_code 1 none : Cond) ∈ pm_tbl := pm_T7 42 (by rfl) (by decide +kernel)
set_option maxRecDepth 20000 in
theorem mw1574 : (.methodLink "SnippetShellModel" 207 ⟨"SnippetShellModel", "next", "()V"⟩ : Cond) ∈ pm_tbl := pm_T7 43 (by rfl) (by decide +kernel)
set_option maxRecDepth 20000 in
theorem mw1576 : (.instanceMethod ⟨"SnippetShellModel", "next", "()V"⟩ : Cond) ∈ pm_tbl := pm_T7 45 (by rfl) (by decide +kernel)
set_option maxRecDepth 20000 in
theorem mw1577 : (.code ⟨"SnippetShellModel", "next", "()V"⟩ prog_12_method_12_code 1 none : Cond) ∈ pm_tbl := pm_T7 46 (by rfl) (by decide +kernel)
set_option maxRecDepth 20000 in
theorem mw1578 : (.methodLink "SnippetShellModel" 237 ⟨"SnippetShellModel", "need", "(I)Z"⟩ : Cond) ∈ pm_tbl := pm_T7 47 (by rfl) (by decide +kernel)
set_option maxRecDepth 20000 in
theorem mw1580 : (.instanceMethod ⟨"SnippetShellModel", "need", "(I)Z"⟩ : Cond) ∈ pm_tbl := pm_T7 49 (by rfl) (by decide +kernel)
set_option maxRecDepth 20000 in
theorem mw1581 : (.code ⟨"SnippetShellModel", "need", "(I)Z"⟩ prog_12_method_13_code 2 (some .boolean) : Cond) ∈ pm_tbl := pm_T7 50 (by rfl) (by decide +kernel)
set_option maxRecDepth 20000 in
theorem mw1582 : (.methodLink "SnippetShellModel" 240 ⟨"SnippetShellModel", "node", "(IIIII)I"⟩ : Cond) ∈ pm_tbl := pm_T7 51 (by rfl) (by decide +kernel)
set_option maxRecDepth 20000 in
theorem mw1584 : (.instanceMethod ⟨"SnippetShellModel", "node", "(IIIII)I"⟩ : Cond) ∈ pm_tbl := pm_T7 53 (by rfl) (by decide +kernel)
set_option maxRecDepth 20000 in
theorem mw1585 : (.code ⟨"SnippetShellModel", "node", "(IIIII)I"⟩ prog_12_method_17_code 7 (some .int) : Cond) ∈ pm_tbl := pm_T7 54 (by rfl) (by decide +kernel)
set_option maxRecDepth 20000 in
theorem mw1586 : (.methodLink "SnippetShellModel" 253 ⟨"SnippetShellModel", "row", "(IIZZ)V"⟩ : Cond) ∈ pm_tbl := pm_T7 55 (by rfl) (by decide +kernel)
set_option maxRecDepth 20000 in
theorem mw1588 : (.instanceMethod ⟨"SnippetShellModel", "row", "(IIZZ)V"⟩ : Cond) ∈ pm_tbl := pm_T7 57 (by rfl) (by decide +kernel)
set_option maxRecDepth 20000 in
theorem mw1589 : (.code ⟨"SnippetShellModel", "row", "(IIZZ)V"⟩ prog_12_method_19_code 5 none : Cond) ∈ pm_tbl := pm_T7 58 (by rfl) (by decide +kernel)
set_option maxRecDepth 20000 in
theorem mw1590 : (.methodLink "SnippetShellModel" 257 ⟨"SnippetShellModel", "fact", "(I)V"⟩ : Cond) ∈ pm_tbl := pm_T7 59 (by rfl) (by decide +kernel)
set_option maxRecDepth 20000 in
theorem mw1592 : (.instanceMethod ⟨"SnippetShellModel", "fact", "(I)V"⟩ : Cond) ∈ pm_tbl := pm_T7 61 (by rfl) (by decide +kernel)
set_option maxRecDepth 20000 in
theorem mw1593 : (.code ⟨"SnippetShellModel", "fact", "(I)V"⟩ prog_12_method_20_code 4 none : Cond) ∈ pm_tbl := pm_T7 62 (by rfl) (by decide +kernel)
set_option maxRecDepth 20000 in
theorem mw1594 : (.methodLink "SnippetShellModel" 260 ⟨"SnippetShellModel", "atom", "(I)V"⟩ : Cond) ∈ pm_tbl := pm_T7 63 (by rfl) (by decide +kernel)
set_option maxRecDepth 20000 in
theorem mw1596 : (.instanceMethod ⟨"SnippetShellModel", "atom", "(I)V"⟩ : Cond) ∈ pm_tbl := pm_T7 65 (by rfl) (by decide +kernel)
set_option maxRecDepth 20000 in
theorem mw1597 : (.code ⟨"SnippetShellModel", "atom", "(I)V"⟩ prog_12_method_21_code 2 none : Cond) ∈ pm_tbl := pm_T7 66 (by rfl) (by decide +kernel)
set_option maxRecDepth 20000 in
theorem mw1598 : (.methodLink "SnippetShellModel" 244 ⟨"SnippetShellModel", "begin", "(I)V"⟩ : Cond) ∈ pm_tbl := pm_T7 67 (by rfl) (by decide +kernel)
set_option maxRecDepth 20000 in
theorem mw1600 : (.instanceMethod ⟨"SnippetShellModel", "begin", "(I)V"⟩ : Cond) ∈ pm_tbl := pm_T7 69 (by rfl) (by decide +kernel)
set_option maxRecDepth 20000 in
theorem mw1601 : (.code ⟨"SnippetShellModel", "begin", "(I)V"⟩ prog_12_method_22_code 4 none : Cond) ∈ pm_tbl := pm_T7 70 (by rfl) (by decide +kernel)
set_option maxRecDepth 20000 in
theorem mw1602 : (.methodLink "SnippetShellModel" 247 ⟨"SnippetShellModel", "argument", "(I)V"⟩ : Cond) ∈ pm_tbl := pm_T7 71 (by rfl) (by decide +kernel)
set_option maxRecDepth 20000 in
theorem mw1604 : (.instanceMethod ⟨"SnippetShellModel", "argument", "(I)V"⟩ : Cond) ∈ pm_tbl := pm_T7 73 (by rfl) (by decide +kernel)
set_option maxRecDepth 20000 in
theorem mw1605 : (.code ⟨"SnippetShellModel", "argument", "(I)V"⟩ prog_12_method_23_code 3 none : Cond) ∈ pm_tbl := pm_T7 74 (by rfl) (by decide +kernel)
set_option maxRecDepth 20000 in
theorem mw1606 : (.methodLink "SnippetShellModel" 269 ⟨"SnippetShellModel", "readParams", "(Z)V"⟩ : Cond) ∈ pm_tbl := pm_T7 75 (by rfl) (by decide +kernel)
set_option maxRecDepth 20000 in
theorem mw1608 : (.instanceMethod ⟨"SnippetShellModel", "readParams", "(Z)V"⟩ : Cond) ∈ pm_tbl := pm_T7 77 (by rfl) (by decide +kernel)
set_option maxRecDepth 20000 in
theorem mw1609 : (.code ⟨"SnippetShellModel", "readParams", "(Z)V"⟩ prog_12_method_25_code 5 none : Cond) ∈ pm_tbl := pm_T7 78 (by rfl) (by decide +kernel)
set_option maxRecDepth 20000 in
theorem mw1610 : (.methodLink "SnippetShellModel" 345 ⟨"SnippetShellModel", "hasRoom", "()Z"⟩ : Cond) ∈ pm_tbl := pm_T7 79 (by rfl) (by decide +kernel)
set_option maxRecDepth 20000 in
theorem mw1612 : (.instanceMethod ⟨"SnippetShellModel", "hasRoom", "()Z"⟩ : Cond) ∈ pm_tbl := pm_T7 81 (by rfl) (by decide +kernel)
set_option maxRecDepth 20000 in
theorem mw1613 : (.code ⟨"SnippetShellModel", "hasRoom", "()Z"⟩ prog_12_method_28_code 5 (some .boolean) : Cond) ∈ pm_tbl := pm_T7 82 (by rfl) (by decide +kernel)
set_option maxRecDepth 20000 in
theorem mw1614 : (.methodLink "SnippetShellModel" 276 ⟨"SnippetShellModel", "nameOf", "(J)I"⟩ : Cond) ∈ pm_tbl := pm_T7 83 (by rfl) (by decide +kernel)
set_option maxRecDepth 20000 in
theorem mw1616 : (.instanceMethod ⟨"SnippetShellModel", "nameOf", "(J)I"⟩ : Cond) ∈ pm_tbl := pm_T7 85 (by rfl) (by decide +kernel)
set_option maxRecDepth 20000 in
theorem mw1617 : (.code ⟨"SnippetShellModel", "nameOf", "(J)I"⟩ prog_12_method_27_code 4 (some .int) : Cond) ∈ pm_tbl := pm_T7 86 (by rfl) (by decide +kernel)
set_option maxRecDepth 20000 in
theorem mw1618 : (.methodLink "SnippetShellModel" 348 ⟨"SnippetShellModel", "number", "()V"⟩ : Cond) ∈ pm_tbl := pm_T7 87 (by rfl) (by decide +kernel)
set_option maxRecDepth 20000 in
theorem mw1620 : (.instanceMethod ⟨"SnippetShellModel", "number", "()V"⟩ : Cond) ∈ pm_tbl := pm_T7 89 (by rfl) (by decide +kernel)
set_option maxRecDepth 20000 in
theorem mw1621 : (.code ⟨"SnippetShellModel", "number", "()V"⟩ prog_12_method_29_code 2 none : Cond) ∈ pm_tbl := pm_T7 90 (by rfl) (by decide +kernel)
set_option maxRecDepth 20000 in
theorem mw1622 : (.methodLink "SnippetShellModel" 351 ⟨"SnippetShellModel", "workOut", "()V"⟩ : Cond) ∈ pm_tbl := pm_T7 91 (by rfl) (by decide +kernel)
set_option maxRecDepth 20000 in
theorem mw1624 : (.instanceMethod ⟨"SnippetShellModel", "workOut", "()V"⟩ : Cond) ∈ pm_tbl := pm_T7 93 (by rfl) (by decide +kernel)
set_option maxRecDepth 20000 in
theorem mw1625 : (.code ⟨"SnippetShellModel", "workOut", "()V"⟩ prog_12_method_43_code 2 none : Cond) ∈ pm_tbl := pm_T7 94 (by rfl) (by decide +kernel)
set_option maxRecDepth 20000 in
theorem mw1626 : (.methodLink "SnippetShellModel" 314 ⟨"SnippetShellModel", "go", "(I)V"⟩ : Cond) ∈ pm_tbl := pm_T7 95 (by rfl) (by decide +kernel)
set_option maxRecDepth 20000 in
theorem mw1628 : (.instanceMethod ⟨"SnippetShellModel", "go", "(I)V"⟩ : Cond) ∈ pm_tbl := pm_T7 97 (by rfl) (by decide +kernel)
set_option maxRecDepth 20000 in
theorem mw1629 : (.code ⟨"SnippetShellModel", "go", "(I)V"⟩ prog_12_method_31_code 2 none : Cond) ∈ pm_tbl := pm_T7 98 (by rfl) (by decide +kernel)
set_option maxRecDepth 20000 in
theorem mw1630 : (.methodLink "SnippetShellModel" 336 ⟨"SnippetShellModel", "begins", "(I)V"⟩ : Cond) ∈ pm_tbl := pm_T7 99 (by rfl) (by decide +kernel)
set_option maxRecDepth 20000 in
theorem mw1632 : (.instanceMethod ⟨"SnippetShellModel", "begins", "(I)V"⟩ : Cond) ∈ pm_tbl := pm_T7 101 (by rfl) (by decide +kernel)
set_option maxRecDepth 20000 in
theorem mw1633 : (.code ⟨"SnippetShellModel", "begins", "(I)V"⟩ prog_12_method_36_code 4 none : Cond) ∈ pm_tbl := pm_T7 102 (by rfl) (by decide +kernel)
set_option maxRecDepth 20000 in
theorem mw1634 : (.methodLink "SnippetShellModel" 299 ⟨"SnippetShellModel", "fail", "(II)V"⟩ : Cond) ∈ pm_tbl := pm_T7 103 (by rfl) (by decide +kernel)
set_option maxRecDepth 20000 in
theorem mw1636 : (.instanceMethod ⟨"SnippetShellModel", "fail", "(II)V"⟩ : Cond) ∈ pm_tbl := pm_T7 105 (by rfl) (by decide +kernel)
set_option maxRecDepth 20000 in
theorem mw1637 : (.code ⟨"SnippetShellModel", "fail", "(II)V"⟩ prog_12_method_32_code 3 none : Cond) ∈ pm_tbl := pm_T7 106 (by rfl) (by decide +kernel)
set_option maxRecDepth 20000 in
theorem mw1638 : (.methodLink "SnippetShellModel" 295 ⟨"SnippetShellModel", "put", "(IJ)V"⟩ : Cond) ∈ pm_tbl := pm_T7 107 (by rfl) (by decide +kernel)
set_option maxRecDepth 20000 in
theorem mw1640 : (.instanceMethod ⟨"SnippetShellModel", "put", "(IJ)V"⟩ : Cond) ∈ pm_tbl := pm_T7 109 (by rfl) (by decide +kernel)
set_option maxRecDepth 20000 in
theorem mw1641 : (.code ⟨"SnippetShellModel", "put", "(IJ)V"⟩ prog_12_method_30_code 4 none : Cond) ∈ pm_tbl := pm_T7 110 (by rfl) (by decide +kernel)
set_option maxRecDepth 20000 in
theorem mw1642 : (.methodLink "SnippetShellModel" 308 ⟨"SnippetShellModel", "named", "(I)V"⟩ : Cond) ∈ pm_tbl := pm_T7 111 (by rfl) (by decide +kernel)
set_option maxRecDepth 20000 in
theorem mw1644 : (.instanceMethod ⟨"SnippetShellModel", "named", "(I)V"⟩ : Cond) ∈ pm_tbl := pm_T7 113 (by rfl) (by decide +kernel)
set_option maxRecDepth 20000 in
theorem mw1645 : (.code ⟨"SnippetShellModel", "named", "(I)V"⟩ prog_12_method_35_code 4 none : Cond) ∈ pm_tbl := pm_T7 114 (by rfl) (by decide +kernel)
set_option maxRecDepth 20000 in
theorem mw1646 : (.methodLink "SnippetShellModel" 291 ⟨"SnippetShellModel", "argumentOf", "(II)I"⟩ : Cond) ∈ pm_tbl := pm_T7 115 (by rfl) (by decide +kernel)
set_option maxRecDepth 20000 in
theorem mw1648 : (.instanceMethod ⟨"SnippetShellModel", "argumentOf", "(II)I"⟩ : Cond) ∈ pm_tbl := pm_T7 117 (by rfl) (by decide +kernel)
set_option maxRecDepth 20000 in
theorem mw1649 : (.code ⟨"SnippetShellModel", "argumentOf", "(II)I"⟩ prog_12_method_33_code 4 (some .int) : Cond) ∈ pm_tbl := pm_T7 118 (by rfl) (by decide +kernel)
set_option maxRecDepth 20000 in
theorem mw1650 : (.methodLink "SnippetShellModel" 311 ⟨"SnippetShellModel", "isCalled", "(I)Z"⟩ : Cond) ∈ pm_tbl := pm_T7 119 (by rfl) (by decide +kernel)
set_option maxRecDepth 20000 in
theorem mw1652 : (.instanceMethod ⟨"SnippetShellModel", "isCalled", "(I)Z"⟩ : Cond) ∈ pm_tbl := pm_T7 121 (by rfl) (by decide +kernel)
set_option maxRecDepth 20000 in
theorem mw1653 : (.code ⟨"SnippetShellModel", "isCalled", "(I)Z"⟩ prog_12_method_34_code 2 (some .boolean) : Cond) ∈ pm_tbl := pm_T7 122 (by rfl) (by decide +kernel)
set_option maxRecDepth 20000 in
theorem mw1654 : (.methodLink "SnippetShellModel" 339 ⟨"SnippetShellModel", "goesOn", "(I)V"⟩ : Cond) ∈ pm_tbl := pm_T7 123 (by rfl) (by decide +kernel)
set_option maxRecDepth 20000 in
theorem mw1656 : (.instanceMethod ⟨"SnippetShellModel", "goesOn", "(I)V"⟩ : Cond) ∈ pm_tbl := pm_T7 125 (by rfl) (by decide +kernel)
set_option maxRecDepth 20000 in
theorem mw1657 : (.code ⟨"SnippetShellModel", "goesOn", "(I)V"⟩ prog_12_method_42_code 4 none : Cond) ∈ pm_tbl := pm_T7 126 (by rfl) (by decide +kernel)
set_option maxRecDepth 20000 in
theorem mw1658 : (.methodLink "SnippetShellModel" 327 ⟨"SnippetShellModel", "calls", "(I)V"⟩ : Cond) ∈ pm_tbl := pm_T7 127 (by rfl) (by decide +kernel)
set_option maxRecDepth 20000 in
theorem mw1660 : (.instanceMethod ⟨"SnippetShellModel", "calls", "(I)V"⟩ : Cond) ∈ pm_tbl := pm_T7 129 (by rfl) (by decide +kernel)
set_option maxRecDepth 20000 in
theorem mw1661 : (.code ⟨"SnippetShellModel", "calls", "(I)V"⟩ prog_12_method_37_code 6 none : Cond) ∈ pm_tbl := pm_T7 130 (by rfl) (by decide +kernel)
set_option maxRecDepth 20000 in
theorem mw1662 : (.methodLink "SnippetShellModel" 330 ⟨"SnippetShellModel", "dots", "(I)V"⟩ : Cond) ∈ pm_tbl := pm_T7 131 (by rfl) (by decide +kernel)
set_option maxRecDepth 20000 in
theorem mw1664 : (.instanceMethod ⟨"SnippetShellModel", "dots", "(I)V"⟩ : Cond) ∈ pm_tbl := pm_T7 133 (by rfl) (by decide +kernel)
set_option maxRecDepth 20000 in
theorem mw1665 : (.code ⟨"SnippetShellModel", "dots", "(I)V"⟩ prog_12_method_39_code 5 none : Cond) ∈ pm_tbl := pm_T7 134 (by rfl) (by decide +kernel)
set_option maxRecDepth 20000 in
theorem mw1666 : (.methodLink "SnippetShellModel" 320 ⟨"SnippetShellModel", "isOld", "(I)Z"⟩ : Cond) ∈ pm_tbl := pm_T7 135 (by rfl) (by decide +kernel)
set_option maxRecDepth 20000 in
theorem mw1668 : (.instanceMethod ⟨"SnippetShellModel", "isOld", "(I)Z"⟩ : Cond) ∈ pm_tbl := pm_T7 137 (by rfl) (by decide +kernel)
set_option maxRecDepth 20000 in
theorem mw1669 : (.code ⟨"SnippetShellModel", "isOld", "(I)Z"⟩ prog_12_method_38_code 4 (some .boolean) : Cond) ∈ pm_tbl := pm_T7 138 (by rfl) (by decide +kernel)
set_option maxRecDepth 20000 in
theorem mw1670 : (.methodLink "SnippetShellModel" 333 ⟨"SnippetShellModel", "operates", "(I)V"⟩ : Cond) ∈ pm_tbl := pm_T7 139 (by rfl) (by decide +kernel)
set_option maxRecDepth 20000 in
theorem mw1672 : (.instanceMethod ⟨"SnippetShellModel", "operates", "(I)V"⟩ : Cond) ∈ pm_tbl := pm_T7 141 (by rfl) (by decide +kernel)
set_option maxRecDepth 20000 in
theorem mw1673 : (.code ⟨"SnippetShellModel", "operates", "(I)V"⟩ prog_12_method_41_code 8 none : Cond) ∈ pm_tbl := pm_T7 142 (by rfl) (by decide +kernel)
set_option maxRecDepth 20000 in
theorem mw1674 : (.methodLink "SnippetShellModel" 323 ⟨"SnippetShellModel", "reckon", "(IJJ)J"⟩ : Cond) ∈ pm_tbl := pm_T7 143 (by rfl) (by decide +kernel)
set_option maxRecDepth 20000 in
theorem mw1675 : (.static ⟨"SnippetShellModel", "reckon", "(IJJ)J"⟩ : Cond) ∈ pm_tbl := pm_T7 144 (by rfl) (by decide +kernel)
set_option maxRecDepth 20000 in
theorem mw1676 : (.code ⟨"SnippetShellModel", "reckon", "(IJJ)J"⟩ prog_12_method_40_code 5 (some .long) : Cond) ∈ pm_tbl := pm_T7 145 (by rfl) (by decide +kernel)
set_option maxRecDepth 20000 in
theorem mw1677 : (.methodLink "SnippetShellModel" 357 ⟨"SnippetShellModel", "keep", "()I"⟩ : Cond) ∈ pm_tbl := pm_T7 146 (by rfl) (by decide +kernel)
set_option maxRecDepth 20000 in
theorem mw1679 : (.instanceMethod ⟨"SnippetShellModel", "keep", "()I"⟩ : Cond) ∈ pm_tbl := pm_T7 148 (by rfl) (by decide +kernel)
set_option maxRecDepth 20000 in
theorem mw1680 : (.code ⟨"SnippetShellModel", "keep", "()I"⟩ prog_12_method_44_code 4 (some .int) : Cond) ∈ pm_tbl := pm_T7 149 (by rfl) (by decide +kernel)
set_option maxRecDepth 20000 in
theorem mw1681 : (.methodLink "SnippetShellLaw" 43 ⟨"SnippetShellModel", "thrown", "(I)I"⟩ : Cond) ∈ pm_tbl := pm_T7 150 (by rfl) (by decide +kernel)
set_option maxRecDepth 20000 in
theorem mw1682 : (.instanceMethod ⟨"SnippetShellModel", "thrown", "(I)I"⟩ : Cond) ∈ pm_tbl := pm_T7 151 (by rfl) (by decide +kernel)
set_option maxRecDepth 20000 in
theorem mw1683 : (.selects "SnippetShellModel" ⟨"SnippetShellModel", "thrown", "(I)I"⟩ ⟨"SnippetShellModel", "thrown", "(I)I"⟩ : Cond) ∈ pm_tbl := pm_T7 152 (by rfl) (by decide +kernel)
set_option maxRecDepth 20000 in
theorem mw1684 : (.code ⟨"SnippetShellModel", "thrown", "(I)I"⟩ prog_12_method_46_code 2 (some .int) : Cond) ∈ pm_tbl := pm_T7 153 (by rfl) (by decide +kernel)
set_option maxRecDepth 20000 in
theorem mw1685 : (.methodLink "SnippetShellLaw" 47 ⟨"SnippetShellModel", "kind", "(I)I"⟩ : Cond) ∈ pm_tbl := pm_T7 154 (by rfl) (by decide +kernel)
set_option maxRecDepth 20000 in
theorem mw1686 : (.instanceMethod ⟨"SnippetShellModel", "kind", "(I)I"⟩ : Cond) ∈ pm_tbl := pm_T7 155 (by rfl) (by decide +kernel)
set_option maxRecDepth 20000 in
theorem mw1687 : (.selects "SnippetShellModel" ⟨"SnippetShellModel", "kind", "(I)I"⟩ ⟨"SnippetShellModel", "kind", "(I)I"⟩ : Cond) ∈ pm_tbl := pm_T7 156 (by rfl) (by decide +kernel)
set_option maxRecDepth 20000 in
theorem mw1688 : (.code ⟨"SnippetShellModel", "kind", "(I)I"⟩ prog_12_method_47_code 2 (some .int) : Cond) ∈ pm_tbl := pm_T7 157 (by rfl) (by decide +kernel)
set_option maxRecDepth 20000 in
theorem mw1689 : (.methodLink "SnippetShellLaw" 53 ⟨"SnippetShellModel", "whole", "(I)J"⟩ : Cond) ∈ pm_tbl := pm_T7 158 (by rfl) (by decide +kernel)
set_option maxRecDepth 20000 in
theorem mw1690 : (.instanceMethod ⟨"SnippetShellModel", "whole", "(I)J"⟩ : Cond) ∈ pm_tbl := pm_T7 159 (by rfl) (by decide +kernel)
set_option maxRecDepth 20000 in
theorem mw1691 : (.selects "SnippetShellModel" ⟨"SnippetShellModel", "whole", "(I)J"⟩ ⟨"SnippetShellModel", "whole", "(I)J"⟩ : Cond) ∈ pm_tbl := pm_T7 160 (by rfl) (by decide +kernel)
set_option maxRecDepth 20000 in
theorem mw1692 : (.code ⟨"SnippetShellModel", "whole", "(I)J"⟩ prog_12_method_48_code 2 (some .long) : Cond) ∈ pm_tbl := pm_T7 161 (by rfl) (by decide +kernel)
set_option maxRecDepth 20000 in
theorem mw1693 : (.methodLink "SnippetShellLaw" 57 ⟨"SnippetShellModel", "thing", "(II)I"⟩ : Cond) ∈ pm_tbl := pm_T7 162 (by rfl) (by decide +kernel)
set_option maxRecDepth 20000 in
theorem mw1694 : (.instanceMethod ⟨"SnippetShellModel", "thing", "(II)I"⟩ : Cond) ∈ pm_tbl := pm_T7 163 (by rfl) (by decide +kernel)
set_option maxRecDepth 20000 in
theorem mw1695 : (.selects "SnippetShellModel" ⟨"SnippetShellModel", "thing", "(II)I"⟩ ⟨"SnippetShellModel", "thing", "(II)I"⟩ : Cond) ∈ pm_tbl := pm_T7 164 (by rfl) (by decide +kernel)
set_option maxRecDepth 20000 in
theorem mw1696 : (.code ⟨"SnippetShellModel", "thing", "(II)I"⟩ prog_12_method_49_code 5 (some .int) : Cond) ∈ pm_tbl := pm_T7 165 (by rfl) (by decide +kernel)
set_option maxRecDepth 20000 in
theorem mw1697 : (.methodLink "SnippetShellLaw" 61 ⟨"SnippetShellModel", "name", "(J)I"⟩ : Cond) ∈ pm_tbl := pm_T7 166 (by rfl) (by decide +kernel)
set_option maxRecDepth 20000 in
theorem mw1698 : (.instanceMethod ⟨"SnippetShellModel", "name", "(J)I"⟩ : Cond) ∈ pm_tbl := pm_T7 167 (by rfl) (by decide +kernel)
set_option maxRecDepth 20000 in
theorem mw1699 : (.selects "SnippetShellModel" ⟨"SnippetShellModel", "name", "(J)I"⟩ ⟨"SnippetShellModel", "name", "(J)I"⟩ : Cond) ∈ pm_tbl := pm_T7 168 (by rfl) (by decide +kernel)
set_option maxRecDepth 20000 in
theorem mw1700 : (.code ⟨"SnippetShellModel", "name", "(J)I"⟩ prog_12_method_50_code 6 (some .int) : Cond) ∈ pm_tbl := pm_T7 169 (by rfl) (by decide +kernel)
set_option maxRecDepth 20000 in
theorem mw1701 : (.methodLink "SnippetShellLaw" 65 ⟨"SnippetShellModel", "letter", "(II)I"⟩ : Cond) ∈ pm_tbl := pm_T7 170 (by rfl) (by decide +kernel)
set_option maxRecDepth 20000 in
theorem mw1702 : (.instanceMethod ⟨"SnippetShellModel", "letter", "(II)I"⟩ : Cond) ∈ pm_tbl := pm_T7 171 (by rfl) (by decide +kernel)
set_option maxRecDepth 20000 in
theorem mw1703 : (.selects "SnippetShellModel" ⟨"SnippetShellModel", "letter", "(II)I"⟩ ⟨"SnippetShellModel", "letter", "(II)I"⟩ : Cond) ∈ pm_tbl := pm_T7 172 (by rfl) (by decide +kernel)
set_option maxRecDepth 20000 in
theorem mw1704 : (.code ⟨"SnippetShellModel", "letter", "(II)I"⟩ prog_12_method_52_code 5 (some .int) : Cond) ∈ pm_tbl := pm_T7 173 (by rfl) (by decide +kernel)
set_option maxRecDepth 20000 in
theorem mw1705 : (.methodLink "SnippetShellModel" 360 ⟨"SnippetShellModel", "isName", "(I)Z"⟩ : Cond) ∈ pm_tbl := pm_T7 174 (by rfl) (by decide +kernel)
set_option maxRecDepth 20000 in
theorem mw1707 : (.instanceMethod ⟨"SnippetShellModel", "isName", "(I)Z"⟩ : Cond) ∈ pm_tbl := pm_T7 176 (by rfl) (by decide +kernel)
set_option maxRecDepth 20000 in
theorem mw1708 : (.code ⟨"SnippetShellModel", "isName", "(I)Z"⟩ prog_12_method_51_code 2 (some .boolean) : Cond) ∈ pm_tbl := pm_T7 177 (by rfl) (by decide +kernel)
set_option maxRecDepth 20000 in
theorem mw1709 : (.methodLink "SnippetShellLaw" 69 ⟨"SnippetShellModel", "what", "(I)I"⟩ : Cond) ∈ pm_tbl := pm_T7 178 (by rfl) (by decide +kernel)
set_option maxRecDepth 20000 in
theorem mw1710 : (.instanceMethod ⟨"SnippetShellModel", "what", "(I)I"⟩ : Cond) ∈ pm_tbl := pm_T7 179 (by rfl) (by decide +kernel)
set_option maxRecDepth 20000 in
theorem mw1711 : (.selects "SnippetShellModel" ⟨"SnippetShellModel", "what", "(I)I"⟩ ⟨"SnippetShellModel", "what", "(I)I"⟩ : Cond) ∈ pm_tbl := pm_T7 180 (by rfl) (by decide +kernel)
set_option maxRecDepth 20000 in
theorem mw1712 : (.code ⟨"SnippetShellModel", "what", "(I)I"⟩ prog_12_method_53_code 2 (some .int) : Cond) ∈ pm_tbl := pm_T7 181 (by rfl) (by decide +kernel)
set_option maxRecDepth 20000 in
theorem mw1713 : (.methodLink "SnippetShellLaw" 73 ⟨"SnippetShellModel", "by", "(I)I"⟩ : Cond) ∈ pm_tbl := pm_T7 182 (by rfl) (by decide +kernel)
set_option maxRecDepth 20000 in
theorem mw1714 : (.instanceMethod ⟨"SnippetShellModel", "by", "(I)I"⟩ : Cond) ∈ pm_tbl := pm_T7 183 (by rfl) (by decide +kernel)
set_option maxRecDepth 20000 in
theorem mw1715 : (.selects "SnippetShellModel" ⟨"SnippetShellModel", "by", "(I)I"⟩ ⟨"SnippetShellModel", "by", "(I)I"⟩ : Cond) ∈ pm_tbl := pm_T7 184 (by rfl) (by decide +kernel)
set_option maxRecDepth 20000 in
theorem mw1716 : (.code ⟨"SnippetShellModel", "by", "(I)I"⟩ prog_12_method_54_code 2 (some .int) : Cond) ∈ pm_tbl := pm_T7 185 (by rfl) (by decide +kernel)
set_option maxRecDepth 20000 in
theorem mw1717 : (.methodLink "SnippetShellLaw" 77 ⟨"SnippetShellModel", "edition", "(I)I"⟩ : Cond) ∈ pm_tbl := pm_T7 186 (by rfl) (by decide +kernel)
set_option maxRecDepth 20000 in
theorem mw1718 : (.instanceMethod ⟨"SnippetShellModel", "edition", "(I)I"⟩ : Cond) ∈ pm_tbl := pm_T7 187 (by rfl) (by decide +kernel)
set_option maxRecDepth 20000 in
theorem mw1719 : (.selects "SnippetShellModel" ⟨"SnippetShellModel", "edition", "(I)I"⟩ ⟨"SnippetShellModel", "edition", "(I)I"⟩ : Cond) ∈ pm_tbl := pm_T7 188 (by rfl) (by decide +kernel)
set_option maxRecDepth 20000 in
theorem mw1720 : (.code ⟨"SnippetShellModel", "edition", "(I)I"⟩ prog_12_method_55_code 2 (some .int) : Cond) ∈ pm_tbl := pm_T7 189 (by rfl) (by decide +kernel)
set_option maxRecDepth 20000 in
theorem mw1721 : (.methodLink "SnippetShellLaw" 81 ⟨"SnippetShellModel", "state", "(I)I"⟩ : Cond) ∈ pm_tbl := pm_T7 190 (by rfl) (by decide +kernel)
set_option maxRecDepth 20000 in
theorem mw1722 : (.instanceMethod ⟨"SnippetShellModel", "state", "(I)I"⟩ : Cond) ∈ pm_tbl := pm_T7 191 (by rfl) (by decide +kernel)
set_option maxRecDepth 20000 in
theorem mw1723 : (.selects "SnippetShellModel" ⟨"SnippetShellModel", "state", "(I)I"⟩ ⟨"SnippetShellModel", "state", "(I)I"⟩ : Cond) ∈ pm_tbl := pm_T7 192 (by rfl) (by decide +kernel)
set_option maxRecDepth 20000 in
theorem mw1724 : (.code ⟨"SnippetShellModel", "state", "(I)I"⟩ prog_12_method_60_code 6 (some .int) : Cond) ∈ pm_tbl := pm_T7 193 (by rfl) (by decide +kernel)
set_option maxRecDepth 20000 in
theorem mw1725 : (.methodLink "SnippetShellModel" 366 ⟨"SnippetShellModel", "reach", "(I)V"⟩ : Cond) ∈ pm_tbl := pm_T7 194 (by rfl) (by decide +kernel)
set_option maxRecDepth 20000 in
theorem mw1727 : (.instanceMethod ⟨"SnippetShellModel", "reach", "(I)V"⟩ : Cond) ∈ pm_tbl := pm_T7 196 (by rfl) (by decide +kernel)
set_option maxRecDepth 20000 in
theorem mw1728 : (.code ⟨"SnippetShellModel", "reach", "(I)V"⟩ prog_12_method_58_code 5 none : Cond) ∈ pm_tbl := pm_T7 197 (by rfl) (by decide +kernel)
set_option maxRecDepth 20000 in
theorem mw1729 : (.methodLink "SnippetShellModel" 363 ⟨"SnippetShellModel", "mark", "(II)V"⟩ : Cond) ∈ pm_tbl := pm_T7 198 (by rfl) (by decide +kernel)
set_option maxRecDepth 20000 in
theorem mw1731 : (.instanceMethod ⟨"SnippetShellModel", "mark", "(II)V"⟩ : Cond) ∈ pm_tbl := pm_T7 200 (by rfl) (by decide +kernel)
set_option maxRecDepth 20000 in
theorem mw1732 : (.code ⟨"SnippetShellModel", "mark", "(II)V"⟩ prog_12_method_59_code 3 none : Cond) ∈ pm_tbl := pm_T7 201 (by rfl) (by decide +kernel)
set_option maxRecDepth 20000 in
theorem mw1733 : (.methodLink "SnippetShellModel" 369 ⟨"SnippetShellModel", "tells", "(II)Z"⟩ : Cond) ∈ pm_tbl := pm_T7 202 (by rfl) (by decide +kernel)
set_option maxRecDepth 20000 in
theorem mw1735 : (.instanceMethod ⟨"SnippetShellModel", "tells", "(II)Z"⟩ : Cond) ∈ pm_tbl := pm_T7 204 (by rfl) (by decide +kernel)
set_option maxRecDepth 20000 in
theorem mw1736 : (.code ⟨"SnippetShellModel", "tells", "(II)Z"⟩ prog_12_method_56_code 3 (some .boolean) : Cond) ∈ pm_tbl := pm_T7 205 (by rfl) (by decide +kernel)
set_option maxRecDepth 20000 in
theorem mw1737 : (.methodLink "SnippetShellLaw" 85 ⟨"SnippetShellModel", "text", "(II)I"⟩ : Cond) ∈ pm_tbl := pm_T7 206 (by rfl) (by decide +kernel)
set_option maxRecDepth 20000 in
theorem mw1738 : (.instanceMethod ⟨"SnippetShellModel", "text", "(II)I"⟩ : Cond) ∈ pm_tbl := pm_T7 207 (by rfl) (by decide +kernel)
set_option maxRecDepth 20000 in
theorem mw1739 : (.selects "SnippetShellModel" ⟨"SnippetShellModel", "text", "(II)I"⟩ ⟨"SnippetShellModel", "text", "(II)I"⟩ : Cond) ∈ pm_tbl := pm_T7 208 (by rfl) (by decide +kernel)
set_option maxRecDepth 20000 in
theorem mw1740 : (.code ⟨"SnippetShellModel", "text", "(II)I"⟩ prog_12_method_61_code 3 (some .int) : Cond) ∈ pm_tbl := pm_T7 209 (by rfl) (by decide +kernel)
set_option maxRecDepth 20000 in
theorem mw1741 : (.methodLink "SnippetShellLaw" 91 ⟨"SnippetShellModel", "user", "(II)I"⟩ : Cond) ∈ pm_tbl := pm_T7 210 (by rfl) (by decide +kernel)
set_option maxRecDepth 20000 in
theorem mw1742 : (.instanceMethod ⟨"SnippetShellModel", "user", "(II)I"⟩ : Cond) ∈ pm_tbl := pm_T7 211 (by rfl) (by decide +kernel)
set_option maxRecDepth 20000 in
theorem mw1743 : (.selects "SnippetShellModel" ⟨"SnippetShellModel", "user", "(II)I"⟩ ⟨"SnippetShellModel", "user", "(II)I"⟩ : Cond) ∈ pm_tbl := pm_T7 212 (by rfl) (by decide +kernel)
set_option maxRecDepth 20000 in
theorem mw1744 : (.code ⟨"SnippetShellModel", "user", "(II)I"⟩ prog_12_method_62_code 7 (some .int) : Cond) ∈ pm_tbl := pm_T7 213 (by rfl) (by decide +kernel)
set_option maxRecDepth 20000 in
theorem mw1745 : (.methodLink "SnippetShellLaw" 95 ⟨"SnippetShellModel", "count", "(I)I"⟩ : Cond) ∈ pm_tbl := pm_T7 214 (by rfl) (by decide +kernel)
set_option maxRecDepth 20000 in
theorem mw1746 : (.instanceMethod ⟨"SnippetShellModel", "count", "(I)I"⟩ : Cond) ∈ pm_tbl := pm_T7 215 (by rfl) (by decide +kernel)
set_option maxRecDepth 20000 in
theorem mw1747 : (.selects "SnippetShellModel" ⟨"SnippetShellModel", "count", "(I)I"⟩ ⟨"SnippetShellModel", "count", "(I)I"⟩ : Cond) ∈ pm_tbl := pm_T7 216 (by rfl) (by decide +kernel)
set_option maxRecDepth 20000 in
theorem mw1748 : (.code ⟨"SnippetShellModel", "count", "(I)I"⟩ prog_12_method_63_code 4 (some .int) : Cond) ∈ pm_tbl := pm_T7 217 (by rfl) (by decide +kernel)
set_option maxRecDepth 20000 in
theorem mw1749 : (.methodLink "SnippetShellModel" 373 ⟨"SnippetShellModel", "state", "(I)I"⟩ : Cond) ∈ pm_tbl := pm_T7 218 (by rfl) (by decide +kernel)
set_option maxRecDepth 20000 in
theorem mw1750 : (.methodLink "SnippetShellLaw" 99 ⟨"SnippetShellModel", "erase", "()I"⟩ : Cond) ∈ pm_tbl := pm_T7 219 (by rfl) (by decide +kernel)
set_option maxRecDepth 20000 in
theorem mw1751 : (.instanceMethod ⟨"SnippetShellModel", "erase", "()I"⟩ : Cond) ∈ pm_tbl := pm_T7 220 (by rfl) (by decide +kernel)
set_option maxRecDepth 20000 in
theorem mw1752 : (.selects "SnippetShellModel" ⟨"SnippetShellModel", "erase", "()I"⟩ ⟨"SnippetShellModel", "erase", "()I"⟩ : Cond) ∈ pm_tbl := pm_T7 221 (by rfl) (by decide +kernel)
set_option maxRecDepth 20000 in
theorem mw1753 : (.code ⟨"SnippetShellModel", "erase", "()I"⟩ prog_12_method_64_code 2 (some .int) : Cond) ∈ pm_tbl := pm_T7 222 (by rfl) (by decide +kernel)
set_option maxRecDepth 20000 in
theorem mw1754 : (.methodLink "SnippetShellLaw" 103 ⟨"SnippetShellModel", "reset", "()I"⟩ : Cond) ∈ pm_tbl := pm_T7 223 (by rfl) (by decide +kernel)
set_option maxRecDepth 20000 in
theorem mw1755 : (.instanceMethod ⟨"SnippetShellModel", "reset", "()I"⟩ : Cond) ∈ pm_tbl := pm_T7 224 (by rfl) (by decide +kernel)
set_option maxRecDepth 20000 in
theorem mw1756 : (.selects "SnippetShellModel" ⟨"SnippetShellModel", "reset", "()I"⟩ ⟨"SnippetShellModel", "reset", "()I"⟩ : Cond) ∈ pm_tbl := pm_T7 225 (by rfl) (by decide +kernel)
set_option maxRecDepth 20000 in
theorem mw1757 : (.code ⟨"SnippetShellModel", "reset", "()I"⟩ prog_12_method_65_code 3 (some .int) : Cond) ∈ pm_tbl := pm_T7 226 (by rfl) (by decide +kernel)
set_option maxRecDepth 20000 in
theorem mw1758 : (.constantLong "SnippetShellLaw" 27 (4294967295 : Int64) : Cond) ∈ pm_tbl := pm_T7 227 (by rfl) (by decide +kernel)
theorem inX0 : ∀ w ∈ u_ws RX0 TX0 6, w ∈ pm_tbl := pm_in_r _ [166, 168, 170, 172, 174, 176] (by decide +kernel) (by decide +kernel)
theorem inX1 : ∀ w ∈ u_ws RX1 TX1 14, w ∈ pm_tbl := pm_in_r _ [329, 331, 333, 335, 337, 339, 341, 343, 345, 347, 349, 351, 353, 355] (by decide +kernel) (by decide +kernel)
theorem inX2 : ∀ w ∈ u_ws RX2 TX2 5, w ∈ pm_tbl := pm_in_r _ [224, 226, 228, 230, 232] (by decide +kernel) (by decide +kernel)
theorem inX3 : ∀ w ∈ u_ws RX3 TX3 9, w ∈ pm_tbl := pm_in_r _ [188, 190, 192, 194, 196, 198, 200, 202, 204] (by decide +kernel) (by decide +kernel)
theorem inX4 : ∀ w ∈ u_ws RX4 TX4 7, w ∈ pm_tbl := pm_in_r _ [289, 291, 293, 295, 297, 299, 301] (by decide +kernel) (by decide +kernel)
theorem inX5 : ∀ w ∈ u_ws RX5 TX5 5, w ∈ pm_tbl := pm_in_r _ [965, 967, 969, 971, 973] (by decide +kernel) (by decide +kernel)
theorem inX6 : ∀ w ∈ u_ws RX6 TX6 6, w ∈ pm_tbl := pm_in_r _ [247, 249, 251, 253, 255, 257] (by decide +kernel) (by decide +kernel)
theorem inX7 : ∀ w ∈ u_ws RX7 TX7 4, w ∈ pm_tbl := pm_in_r _ [136, 138, 140, 142] (by decide +kernel) (by decide +kernel)
theorem inX8 : ∀ w ∈ u_ws RX8 TX8 2, w ∈ pm_tbl := pm_in_r _ [268, 270] (by decide +kernel) (by decide +kernel)
theorem inX9 : ∀ w ∈ u_ws RX9 TX9 6, w ∈ pm_tbl := pm_in_r _ [364, 366, 368, 370, 372, 374] (by decide +kernel) (by decide +kernel)
theorem inX10 : ∀ w ∈ u_ws RX10 TX10 66, w ∈ pm_tbl := pm_in_r _ [1369, 1371, 1373, 1375, 1377, 1379, 1381, 1383, 1385, 1387, 1389, 1391, 1393, 1395, 1397, 1399, 1401, 1403, 1405, 1407, 1409, 1411, 1413, 1415, 1417, 1419, 1421, 1423, 1425, 1427, 1429, 1431, 1433, 1435, 1437, 1439, 1441, 1443, 1445, 1447, 1449, 1451, 1453, 1455, 1457, 1459, 1461, 1463, 1465, 1467, 1469, 1471, 1473, 1475, 1477, 1479, 1481, 1483, 1485, 1487, 1489, 1491, 1493, 1495, 1497, 1499] (by decide +kernel) (by decide +kernel)
