/-! THE CLAIM OUT OF ONE WALK OF THE LAW'S BODY. Your part is whole_start (and what it stands on); all else here is the same for every law, but numbers. -/
def R_law : String := "DocumentSpannerLaw"
def lw_P (b : Addr) (xs : List Int32) (args : Array Value) (s : State) : Prop := args = #[.ref b] ∧ s.IntsAt b xs ∧ xs.length ≤ 6 ∧ (Jvm.Cond.and given_1 narrow_1).before args s = true
def lw_Q (_ : Array Value) (s : State) (o : Outcome) (t : State) : Prop := o = .returned (some (.int 1)) ∧ Framed s o t [] 600006 7301992
def lw_Z (below : List Frame) (a : Array Value) (s : State) : State → Prop := fun t => ∃ o, t.status = .running ∧ Ended t below o ∧ lw_Q a s o t
/-- the law's own end, with 1 on the stack, nothing written that was there before, its room as the claim has it -/
theorem lw_ret {p : Program} {l : Launch} {e : Env} {s : State} {m : MethodId} {below : List Frame} {meth : Method} {c : Code} {b : Nat} (hx : p.tables.exec = Jvm.exec) (hb : c.code = code) (hr : meth.sig.returnType = ret) (hlocks : meth.locks = false) {pc : Nat} {H : Heap} {ls : Array Slot} (hdg : decode code pc = .ok (.ireturn, 1)) : W p l e room_1 s m #[Value.ref b] below meth c H [] 600006 7301992 (lw_Z below #[Value.ref b] s) (F0 m pc ls [.int 1]) := by
  intro T hT X
  obtain ⟨fs, hret, hrun, hended, hW, hframe⟩ := X.leave (v := some (.int 1)) (hlocks := hlocks) (fun h => by rw [hr] at h; cases h)
  have hmeth' : T.vm.method? m = some meth := X.method'
  refine ⟨T.setFrames fs, ?_, .returned (some (.int 1)), hrun, hended, rfl, ⟨_, rfl⟩, hW, hframe⟩
  jvm_step X.here [X.here.top, hx, hb, hdg, hmeth', hr, ret, narrow_b1]
  (try refine ⟨rfl, ?_⟩); (try refine ⟨rfl, ?_⟩)
  first | (intro acts; rw [hret _ acts rfl rfl rfl]) | rw [hret _ _ rfl rfl rfl]
  exact Steps.refl _
/-- what holds at the law's entry: the machine, the code, the tables' words (any of lw_tbl by 'hts w (by decide +kernel)'), the script of L ints xs at the cell b, what the Statement gives of the start (any of its parts by flat_of_before) -/
def lw_At (p : Program) (s : State) (m : MethodId) (meth : Method) (c : Code) (b L : Nat) (xs : Nat → Int32) : Prop :=
  p.tables.exec = Jvm.exec ∧ c.code = code ∧ meth.sig.returnType = ret ∧ c.maxLocals = 7 ∧ s.vm.findClass R_law = some m.cls ∧ (∀ w ∈ lw_tbl, w.before #[Value.ref b] s = true) ∧ va_X b L xs s s.heap ∧ b < s.heap.size ∧ meth.locks = false ∧ (Jvm.Cond.and given_1 narrow_1).before #[Value.ref b] s = true
theorem goodMix {big : List Cond} (ws kn : List Cond) (ps : List Nat) (un : List Cond) (h1 : ws.all (fun w => decide (w ∈ kn ++ un)) = true) (hk : kn = ps.filterMap (fun i => big[i]?)) (hu : un.all (fun w => decide (w ∈ big)) = true) (hg : ws.all goodWord = true) : GoodIn big ws := by
  intro w hw
  have a := List.all_eq_true.mp h1 w hw
  have b := List.all_eq_true.mp hg w hw
  refine ⟨?_, good_of_word b⟩
  rcases List.mem_append.mp (of_decide_eq_true a) with h | h
  · rw [hk] at h
    obtain ⟨i, -, hi⟩ := List.mem_filterMap.mp h
    first | exact List.mem_of_getElem? hi | exact List.getElem?_mem hi
  · exact of_decide_eq_true (List.all_eq_true.mp hu w h)
theorem in_J0 : ∀ w ∈ wsJ00, w ∈ lw_tbl := by decide +kernel
theorem in_Jx00060 : ∀ w ∈ wsJx000600, w ∈ lw_tbl := by decide +kernel
theorem in_X1 : ∀ w ∈ wsX10, w ∈ lw_tbl := by decide +kernel
theorem in_X2 : ∀ w ∈ wsX20, w ∈ lw_tbl := by decide +kernel
theorem in_X4 : ∀ w ∈ wsX40, w ∈ lw_tbl := by decide +kernel
theorem in_X5 : ∀ w ∈ wsX50, w ∈ lw_tbl := by decide +kernel
theorem in_X6 : ∀ w ∈ wsX60, w ∈ lw_tbl := by decide +kernel
theorem in_X7 : ∀ w ∈ wsX70, w ∈ lw_tbl := by decide +kernel
theorem in_X8 : ∀ w ∈ wsX80, w ∈ lw_tbl := by decide +kernel
theorem in_X10 : ∀ w ∈ wsX100, w ∈ lw_tbl := by decide +kernel
theorem in_X11 : ∀ w ∈ wsX110, w ∈ lw_tbl := by decide +kernel
theorem in_at74 : ∀ w ∈ (vx_atS RX10 74 iae ["java/lang/RuntimeException", "java/lang/Exception"]).filter goodWord, w ∈ lw_tbl := by decide +kernel
theorem in_at84 : ∀ w ∈ (vx_atS RX10 84 ise ["java/lang/RuntimeException", "java/lang/Exception"]).filter goodWord, w ∈ lw_tbl := by decide +kernel
theorem in_at95 : ∀ w ∈ (vx_atS RX10 95 iob ["java/lang/RuntimeException", "java/lang/Exception"]).filter goodWord, w ∈ lw_tbl := by decide +kernel
set_option maxRecDepth 20000 in
theorem ggk_law_L_appendLetter : GoodIn lw_tbl wk_L_appendLetter := goodIn_ca (goodIn_ca (goodIn_ca (goodIn_r _ [286, 287, 289, 290, 291, 72, 292, 293, 82, 209, 145, 137, 256, 258, 0, 259, 141, 215] (by decide +kernel) (by decide +kernel)) (goodIn_sub (in_X10) (by decide +kernel))) (goodIn_sub (in_X8) (by decide +kernel))) (goodIn_sub (in_at74) (by decide +kernel))
set_option maxRecDepth 20000 in
theorem gk_law_L_appendLetter : GoodIn lw_tbl (va_wsS RL 137 yL_appendLetter wk_L_appendLetter) := goodIn_app (goodIn_r _ [284, 285, 71] (by decide +kernel) (by decide +kernel)) ggk_law_L_appendLetter
set_option maxRecDepth 20000 in
theorem ggk_law_X11_appendLetter : GoodIn lw_tbl wk_X11_appendLetter := goodIn_ca (goodIn_r _ [1250, 1098, 1103, 1102, 1251, 1252, 78, 1253, 1254, 1256, 28, 1257, 1109, 1111] (by decide +kernel) (by decide +kernel)) (goodIn_sub (in_X11) (by decide +kernel))
set_option maxRecDepth 20000 in
theorem gk_law_X11_appendLetter : GoodIn lw_tbl (wsV RL 142 RX11 yX11_appendLetter wk_X11_appendLetter) := goodIn_app (goodIn_r _ [1247, 1248, 1249, 78] (by decide +kernel) (by decide +kernel)) ggk_law_X11_appendLetter
set_option maxRecDepth 20000 in
theorem ggk_law_X11_thrown : GoodIn lw_tbl wk_X11_thrown := goodIn_ca (goodIn_r _ [1246, 1098] (by decide +kernel) (by decide +kernel)) (goodIn_sub (in_X11) (by decide +kernel))
set_option maxRecDepth 20000 in
theorem gk_law_X11_thrown : GoodIn lw_tbl (wsV RL 143 RX11 yX11_thrown wk_X11_thrown) := goodIn_app (goodIn_r _ [1243, 1244, 1245, 78] (by decide +kernel) (by decide +kernel)) ggk_law_X11_thrown
set_option maxRecDepth 20000 in
theorem ggk_law_X10_clearDocument : GoodIn lw_tbl wk_X10_clearDocument := goodIn_ca (goodIn_ca (goodIn_r _ [255, 209, 145, 256, 258, 0, 72, 259, 141, 215] (by decide +kernel) (by decide +kernel)) (goodIn_sub (in_X10) (by decide +kernel))) (goodIn_sub (in_X8) (by decide +kernel))
set_option maxRecDepth 20000 in
theorem gk_law_X10_clearDocument : GoodIn lw_tbl (wsV RL 146 RX10 yX10_clearDocument wk_X10_clearDocument) := goodIn_app (goodIn_r _ [252, 253, 254, 72] (by decide +kernel) (by decide +kernel)) ggk_law_X10_clearDocument
set_option maxRecDepth 20000 in
theorem ggk_law_X11_clearDocument : GoodIn lw_tbl wk_X11_clearDocument := goodIn_ca (goodIn_r _ [1261, 1098, 1103, 1254, 1256, 28, 78, 1257, 1109, 1111] (by decide +kernel) (by decide +kernel)) (goodIn_sub (in_X11) (by decide +kernel))
set_option maxRecDepth 20000 in
theorem gk_law_X11_clearDocument : GoodIn lw_tbl (wsV RL 149 RX11 yX11_clearDocument wk_X11_clearDocument) := goodIn_app (goodIn_r _ [1258, 1259, 1260, 78] (by decide +kernel) (by decide +kernel)) ggk_law_X11_clearDocument
set_option maxRecDepth 20000 in
theorem ggk_law_L_letter : GoodIn lw_tbl wk_L_letter := goodIn_ca (goodIn_ca (goodIn_ca (goodIn_r _ [381, 382, 406, 407, 408, 72, 409, 410, 84, 209, 145] (by decide +kernel) (by decide +kernel)) (goodIn_sub (in_X10) (by decide +kernel))) (goodIn_sub (in_X8) (by decide +kernel))) (goodIn_sub (in_at95) (by decide +kernel))
set_option maxRecDepth 20000 in
theorem gk_law_L_letter : GoodIn lw_tbl (va_wsS RL 150 yL_letter wk_L_letter) := goodIn_app (goodIn_r _ [379, 380, 71] (by decide +kernel) (by decide +kernel)) ggk_law_L_letter
set_option maxRecDepth 20000 in
theorem ggk_law_X11_letter : GoodIn lw_tbl wk_X11_letter := goodIn_ca (goodIn_r _ [1265, 1103, 1098, 1251, 1252, 78, 1253] (by decide +kernel) (by decide +kernel)) (goodIn_sub (in_X11) (by decide +kernel))
set_option maxRecDepth 20000 in
theorem gk_law_X11_letter : GoodIn lw_tbl (wsV RL 152 RX11 yX11_letter wk_X11_letter) := goodIn_app (goodIn_r _ [1262, 1263, 1264, 78] (by decide +kernel) (by decide +kernel)) ggk_law_X11_letter
set_option maxRecDepth 20000 in
theorem ggk_law_L_appendCharacter : GoodIn lw_tbl wk_L_appendCharacter := goodIn_ca (goodIn_ca (goodIn_r _ [425, 287, 426, 427, 428, 72, 429, 293, 82, 213, 212] (by decide +kernel) (by decide +kernel)) (goodIn_sub (in_X10) (by decide +kernel))) (goodIn_sub (in_at74) (by decide +kernel))
set_option maxRecDepth 20000 in
theorem gk_law_L_appendCharacter : GoodIn lw_tbl (va_wsS RL 153 yL_appendCharacter wk_L_appendCharacter) := goodIn_app (goodIn_r _ [423, 424, 71] (by decide +kernel) (by decide +kernel)) ggk_law_L_appendCharacter
set_option maxRecDepth 20000 in
theorem ggk_law_X11_appendCharacter : GoodIn lw_tbl wk_X11_appendCharacter := goodIn_ca (goodIn_r _ [1269, 1098, 1105, 1104, 1251, 1252, 78, 1253] (by decide +kernel) (by decide +kernel)) (goodIn_sub (in_X11) (by decide +kernel))
set_option maxRecDepth 20000 in
theorem gk_law_X11_appendCharacter : GoodIn lw_tbl (wsV RL 155 RX11 yX11_appendCharacter wk_X11_appendCharacter) := goodIn_app (goodIn_r _ [1266, 1267, 1268, 78] (by decide +kernel) (by decide +kernel)) ggk_law_X11_appendCharacter
set_option maxRecDepth 20000 in
theorem ggk_law_L_parse : GoodIn lw_tbl wk_L_parse := goodIn_ca (goodIn_ca (goodIn_ca (goodIn_ca (goodIn_ca (goodMix _ [.codeWith yL_parse cL_parse 3 (some .int) [(0, 8, 11, 13)], .methodLink RL 25 yX10_parse, .instanceMethod yX10_parse, .selects RX10 yX10_parse yX10_parse, .initialized RX10, .code yX10_parse cX10_parse 2 (some .int), .fieldLink RX10 27 "DocumentSpanner" "bufferLength" "I", .fieldLink RX10 23 "DocumentSpanner" "buffer" "[I", .fieldLink RX10 31 "DocumentSpanner" "faultPosition" "I", .fieldLink RX10 12 "DocumentSpanner" "state" "LDocumentSpanner$State;", .classLink RX10 112 RX2, .instantiable RX2 6, .initialized RX2, .methodLink RX10 114 yX2_init, .instanceMethod yX2_init, .fieldLink RX10 121 "DocumentSpanner$State" "formula" "LDocumentSpanner$Formula;", .methodLink RX10 104 yX9_firstFault, .static yX9_firstFault, .initialized RX9, .code yX9_firstFault cX9_firstFault 8 (some .int), .arrayClass .int, .methodLink RX9 19 yX9_isVariable, .static yX9_isVariable, .code yX9_isVariable cX9_isVariable 1 (some .boolean), .code yX2_init cX2_init 3 none, .methodLink RX2 3 objectInit, .instanceMethod objectInit, .code objectInit ⟨#[0xb1]⟩ 1 none, .arrayClass .long, .fieldLink RX2 9 "DocumentSpanner$FormulaReader" "markers" "[J", .fieldLink RX2 15 "DocumentSpanner$FormulaReader" "at" "I", .fieldLink RX2 19 "DocumentSpanner$FormulaReader" "sequential" "Z", .fieldLink RX2 23 "DocumentSpanner$FormulaReader" "functional" "Z", .methodLink RX2 26 Lib.Math.min.name, .static Lib.Math.min.name, .initialized "java/lang/Math", .methodLink RX2 32 Lib.Math.max.name, .static Lib.Math.max.name, .fieldLink RX2 41 "DocumentSpanner$FormulaReader" "text" "[I", .fieldLink RX2 45 "DocumentSpanner$FormulaReader" "follow" "[J", .methodLink RX2 35 yJ7_copyOf_59c91, .static yJ7_copyOf_59c91, .initialized RJ7, .code yJ7_copyOf_59c91 cJ7_copyOf_59c91 3 (some (.array .int)), .methodLink RJ7 304 Lib.Math.min.name, .methodLink RJ7 150 arraycopyName, .native arraycopyName, .static arraycopyName, .initialized "java/lang/System", .methodLink RX10 117 yX2_read, .instanceMethod yX2_read, .selects RX2 yX2_read yX2_read, .code yX2_read cX2_read 3 (some (.object "DocumentSpanner$Formula")), .fieldLink RX2 52 "DocumentSpanner$Part" "last" "J", .classLink RX2 62 RX1, .instantiable RX1 8, .initialized RX1, .methodLink RX2 64 yX1_init, .instanceMethod yX1_init, .methodLink RX2 48 yX2_readFormula, .instanceMethod yX2_readFormula, .selects RX2 yX2_readFormula yX2_readFormula, .code yX2_readFormula cX2_readFormula 5 (some (.object "DocumentSpanner$Part")), .methodLink RX2 71 yX2_readSequence, .instanceMethod yX2_readSequence, .selects RX2 yX2_readSequence yX2_readSequence, .code yX2_readSequence cX2_readSequence 5 (some (.object "DocumentSpanner$Part")), .methodLink RX2 67 yX5_ofNothing, .static yX5_ofNothing, .initialized RX5, .code yX5_ofNothing cX5_ofNothing 0 (some (.object "DocumentSpanner$Part")), .classLink RX5 8 RX5, .instantiable RX5 4, .methodLink RX5 24 yX5_init, .instanceMethod yX5_init, .code yX5_init cX5_init 7 none, .methodLink RX5 1 objectInit, .fieldLink RX5 7 "DocumentSpanner$Part" "nullable" "Z", .fieldLink RX5 13 "DocumentSpanner$Part" "first" "J", .fieldLink RX5 17 "DocumentSpanner$Part" "last" "J", .fieldLink RX5 20 "DocumentSpanner$Part" "mentioned" "I", .methodLink RX2 58 yX2_link, .instanceMethod yX2_link, .selects RX2 yX2_link yX2_link, .code yX2_link cX2_link 6 none, .code yX1_init cX1_init 9 none, .methodLink RX1 1 objectInit, .fieldLink RX1 7 "DocumentSpanner$Formula" "text" "[I", .fieldLink RX1 13 "DocumentSpanner$Formula" "follow" "[J", .fieldLink RX1 17 "DocumentSpanner$Formula" "markers" "[J", .fieldLink RX1 20 "DocumentSpanner$Part" "mentioned" "I", .fieldLink RX1 26 "DocumentSpanner$Formula" "mentioned" "I", .fieldLink RX1 27 "DocumentSpanner$Formula" "kind" "I", .fieldLink RX1 30 "DocumentSpanner$Formula" "accept" "J", .fieldLink RX1 34 "DocumentSpanner$Part" "nullable" "Z", .fieldLink RX1 38 "DocumentSpanner$Part" "first" "J", .fieldLink RX1 41 "DocumentSpanner$Formula" "first" "J", .fieldLink RX1 42 "DocumentSpanner$Formula" "allMarkers" "J"] [434, 435, 436, 437, 72, 438, 213, 212, 214, 209, 458, 459, 88, 460, 461, 147, 439, 440, 87, 441, 134, 445, 446, 447, 462, 463, 103, 104, 196, 484, 485, 486, 487, 464, 465, 89, 467, 468, 482, 483, 470, 471, 90, 472, 480, 481, 274, 273, 91, 501, 502, 503, 504, 525, 586, 587, 93, 588, 589, 505, 507, 2, 508, 538, 540, 3, 541, 509, 510, 92, 511, 512, 513, 514, 515, 516, 517, 518, 521, 524, 527, 564, 566, 9, 567, 590, 591, 592, 593, 598, 526, 602, 605, 596, 519, 522, 594, 600] [.code Lib.Math.min.name Lib.Math.min.code 2 (some .int), .code Lib.Math.max.name Lib.Math.max.code 2 (some .int)] (by decide +kernel) (by decide +kernel) (by decide +kernel) (by decide +kernel)) (goodIn_sub (in_X1) (by decide +kernel))) (goodIn_sub (in_X10) (by decide +kernel))) (goodIn_sub (in_X2) (by decide +kernel))) (goodIn_sub (in_X5) (by decide +kernel))) (goodIn_sub (in_X8) (by decide +kernel))
set_option maxRecDepth 20000 in
theorem gk_law_L_parse : GoodIn lw_tbl (va_wsS RL 156 yL_parse wk_L_parse) := goodIn_app (goodIn_r _ [432, 433, 71] (by decide +kernel) (by decide +kernel)) ggk_law_L_parse
set_option maxRecDepth 20000 in
theorem ggk_law_X11_parse : GoodIn lw_tbl wk_X11_parse := goodIn_ca (goodIn_r _ [1273, 1098, 1105, 1106, 1104, 1107, 1284, 274, 273, 91, 1108, 1274, 1276, 29, 78, 1277, 134] (by decide +kernel) (by decide +kernel)) (goodIn_sub (in_X11) (by decide +kernel))
set_option maxRecDepth 20000 in
theorem gk_law_X11_parse : GoodIn lw_tbl (wsV RL 159 RX11 yX11_parse wk_X11_parse) := goodIn_app (goodIn_r _ [1270, 1271, 1272, 78] (by decide +kernel) (by decide +kernel)) ggk_law_X11_parse
set_option maxRecDepth 20000 in
theorem ggk_law_X10_errorPosition : GoodIn lw_tbl wk_X10_errorPosition := goodIn_ca (goodIn_r _ [263, 214] (by decide +kernel) (by decide +kernel)) (goodIn_sub (in_X10) (by decide +kernel))
set_option maxRecDepth 20000 in
theorem gk_law_X10_errorPosition : GoodIn lw_tbl (wsV RL 160 RX10 yX10_errorPosition wk_X10_errorPosition) := goodIn_app (goodIn_r _ [260, 261, 262, 72] (by decide +kernel) (by decide +kernel)) ggk_law_X10_errorPosition
set_option maxRecDepth 20000 in
theorem ggk_law_X11_errorPosition : GoodIn lw_tbl wk_X11_errorPosition := goodIn_ca (goodIn_r _ [1292, 1098, 1106] (by decide +kernel) (by decide +kernel)) (goodIn_sub (in_X11) (by decide +kernel))
set_option maxRecDepth 20000 in
theorem gk_law_X11_errorPosition : GoodIn lw_tbl (wsV RL 163 RX11 yX11_errorPosition wk_X11_errorPosition) := goodIn_app (goodIn_r _ [1289, 1290, 1291, 78] (by decide +kernel) (by decide +kernel)) ggk_law_X11_errorPosition
set_option maxRecDepth 20000 in
theorem ggk_law_L_formulaVariables : GoodIn lw_tbl wk_L_formulaVariables := goodIn_ca (goodIn_ca (goodIn_ca (goodIn_r _ [626, 288, 627, 628, 629, 72, 630, 631, 633, 10, 634, 209, 147, 363, 83] (by decide +kernel) (by decide +kernel)) (goodIn_sub (in_X10) (by decide +kernel))) (goodIn_sub (in_X8) (by decide +kernel))) (goodIn_sub (in_at84) (by decide +kernel))
set_option maxRecDepth 20000 in
theorem gk_law_L_formulaVariables : GoodIn lw_tbl (va_wsS RL 164 yL_formulaVariables wk_L_formulaVariables) := goodIn_app (goodIn_r _ [624, 625, 71] (by decide +kernel) (by decide +kernel)) ggk_law_L_formulaVariables
set_option maxRecDepth 20000 in
theorem ggk_law_X11_formulaVariables : GoodIn lw_tbl wk_X11_formulaVariables := goodIn_ca (goodIn_r _ [1296, 1108, 1098] (by decide +kernel) (by decide +kernel)) (goodIn_sub (in_X11) (by decide +kernel))
set_option maxRecDepth 20000 in
theorem gk_law_X11_formulaVariables : GoodIn lw_tbl (wsV RL 166 RX11 yX11_formulaVariables wk_X11_formulaVariables) := goodIn_app (goodIn_r _ [1293, 1294, 1295, 78] (by decide +kernel) (by decide +kernel)) ggk_law_X11_formulaVariables
set_option maxRecDepth 20000 in
theorem ggk_law_L_formulaKind : GoodIn lw_tbl wk_L_formulaKind := goodIn_ca (goodIn_ca (goodIn_ca (goodIn_r _ [638, 288, 639, 640, 641, 72, 642, 631, 633, 10, 634, 209, 147, 363, 83] (by decide +kernel) (by decide +kernel)) (goodIn_sub (in_X10) (by decide +kernel))) (goodIn_sub (in_X8) (by decide +kernel))) (goodIn_sub (in_at84) (by decide +kernel))
set_option maxRecDepth 20000 in
theorem gk_law_L_formulaKind : GoodIn lw_tbl (va_wsS RL 167 yL_formulaKind wk_L_formulaKind) := goodIn_app (goodIn_r _ [636, 637, 71] (by decide +kernel) (by decide +kernel)) ggk_law_L_formulaKind
set_option maxRecDepth 20000 in
theorem ggk_law_X11_formulaKind : GoodIn lw_tbl wk_X11_formulaKind := goodIn_ca (goodIn_r _ [1324, 1108, 1098] (by decide +kernel) (by decide +kernel)) (goodIn_sub (in_X11) (by decide +kernel))
set_option maxRecDepth 20000 in
theorem gk_law_X11_formulaKind : GoodIn lw_tbl (wsV RL 169 RX11 yX11_formulaKind wk_X11_formulaKind) := goodIn_app (goodIn_r _ [1321, 1322, 1323, 78] (by decide +kernel) (by decide +kernel)) ggk_law_X11_formulaKind
set_option maxRecDepth 20000 in
theorem ggk_law_L_extract : GoodIn lw_tbl wk_L_extract := goodIn_ca (goodIn_ca (goodIn_ca (goodIn_ca (goodIn_r _ [645, 382, 288, 646, 647, 648, 72, 649, 650, 651, 652, 410, 84, 631, 633, 10, 634, 209, 147, 363, 83] (by decide +kernel) (by decide +kernel)) (goodIn_sub (in_X10) (by decide +kernel))) (goodIn_sub (in_X8) (by decide +kernel))) (goodIn_sub (in_at84) (by decide +kernel))) (goodIn_sub (in_at95) (by decide +kernel))
set_option maxRecDepth 20000 in
theorem gk_law_L_extract : GoodIn lw_tbl (va_wsS RL 170 yL_extract wk_L_extract) := goodIn_app (goodIn_r _ [643, 644, 71] (by decide +kernel) (by decide +kernel)) ggk_law_L_extract
set_option maxRecDepth 20000 in
theorem ggk_law_X11_extract : GoodIn lw_tbl wk_X11_extract := goodIn_ca (goodIn_r _ [1328, 1098, 1108, 1329, 1330, 78, 1331, 1251, 1252, 1253] (by decide +kernel) (by decide +kernel)) (goodIn_sub (in_X11) (by decide +kernel))
set_option maxRecDepth 20000 in
theorem gk_law_X11_extract : GoodIn lw_tbl (wsV RL 172 RX11 yX11_extract wk_X11_extract) := goodIn_app (goodIn_r _ [1325, 1326, 1327, 78] (by decide +kernel) (by decide +kernel)) ggk_law_X11_extract
set_option maxRecDepth 20000 in
theorem ggk_law_L_size : GoodIn lw_tbl wk_L_size := goodIn_ca (goodIn_ca (goodIn_ca (goodIn_ca (goodIn_r _ [752, 382, 288, 753, 754, 755, 72, 756, 757, 759, 19, 760, 209, 141, 363, 83, 650, 651, 652, 410, 84] (by decide +kernel) (by decide +kernel)) (goodIn_sub (in_X10) (by decide +kernel))) (goodIn_sub (in_X8) (by decide +kernel))) (goodIn_sub (in_at84) (by decide +kernel))) (goodIn_sub (in_at95) (by decide +kernel))
set_option maxRecDepth 20000 in
theorem gk_law_L_size : GoodIn lw_tbl (va_wsS RL 173 yL_size wk_L_size) := goodIn_app (goodIn_r _ [750, 751, 71] (by decide +kernel) (by decide +kernel)) ggk_law_L_size
set_option maxRecDepth 20000 in
theorem ggk_law_X11_size : GoodIn lw_tbl wk_X11_size := goodIn_ca (goodIn_r _ [1417, 1098, 1418, 1420, 54, 78, 1421, 1109, 1329, 1330, 1331, 1251, 1252, 1253] (by decide +kernel) (by decide +kernel)) (goodIn_sub (in_X11) (by decide +kernel))
set_option maxRecDepth 20000 in
theorem gk_law_X11_size : GoodIn lw_tbl (wsV RL 175 RX11 yX11_size wk_X11_size) := goodIn_app (goodIn_r _ [1414, 1415, 1416, 78] (by decide +kernel) (by decide +kernel)) ggk_law_X11_size
set_option maxRecDepth 20000 in
theorem ggk_law_L_start : GoodIn lw_tbl wk_L_start := goodIn_ca (goodIn_ca (goodIn_ca (goodIn_ca (goodIn_r _ [764, 382, 288, 765, 766, 767, 72, 768, 769, 771, 20, 772, 757, 759, 19, 760, 209, 141, 363, 83, 650, 651, 652, 410, 84] (by decide +kernel) (by decide +kernel)) (goodIn_sub (in_X10) (by decide +kernel))) (goodIn_sub (in_X8) (by decide +kernel))) (goodIn_sub (in_at84) (by decide +kernel))) (goodIn_sub (in_at95) (by decide +kernel))
set_option maxRecDepth 20000 in
theorem gk_law_L_start : GoodIn lw_tbl (va_wsS RL 176 yL_start wk_L_start) := goodIn_app (goodIn_r _ [762, 763, 71] (by decide +kernel) (by decide +kernel)) ggk_law_L_start
set_option maxRecDepth 20000 in
theorem ggk_law_X11_start : GoodIn lw_tbl wk_X11_start := goodIn_ca (goodIn_r _ [1425, 1098, 1426, 1428, 55, 78, 1429, 1418, 1420, 54, 1421, 1109, 1329, 1330, 1331, 1251, 1252, 1253] (by decide +kernel) (by decide +kernel)) (goodIn_sub (in_X11) (by decide +kernel))
set_option maxRecDepth 20000 in
theorem gk_law_X11_start : GoodIn lw_tbl (wsV RL 179 RX11 yX11_start wk_X11_start) := goodIn_app (goodIn_r _ [1422, 1423, 1424, 78] (by decide +kernel) (by decide +kernel)) ggk_law_X11_start
set_option maxRecDepth 20000 in
theorem ggk_law_L_end : GoodIn lw_tbl wk_L_end := goodIn_ca (goodIn_ca (goodIn_ca (goodIn_ca (goodIn_r _ [792, 382, 288, 793, 794, 795, 72, 796, 769, 771, 20, 772, 757, 759, 19, 760, 209, 141, 363, 83, 650, 651, 652, 410, 84] (by decide +kernel) (by decide +kernel)) (goodIn_sub (in_X10) (by decide +kernel))) (goodIn_sub (in_X8) (by decide +kernel))) (goodIn_sub (in_at84) (by decide +kernel))) (goodIn_sub (in_at95) (by decide +kernel))
set_option maxRecDepth 20000 in
theorem gk_law_L_end : GoodIn lw_tbl (va_wsS RL 180 yL_end wk_L_end) := goodIn_app (goodIn_r _ [790, 791, 71] (by decide +kernel) (by decide +kernel)) ggk_law_L_end
set_option maxRecDepth 20000 in
theorem ggk_law_X11_end : GoodIn lw_tbl wk_X11_end := goodIn_ca (goodIn_r _ [1443, 1098, 1426, 1428, 55, 78, 1429, 1418, 1420, 54, 1421, 1109, 1329, 1330, 1331, 1251, 1252, 1253] (by decide +kernel) (by decide +kernel)) (goodIn_sub (in_X11) (by decide +kernel))
set_option maxRecDepth 20000 in
theorem gk_law_X11_end : GoodIn lw_tbl (wsV RL 182 RX11 yX11_end wk_X11_end) := goodIn_app (goodIn_r _ [1440, 1441, 1442, 78] (by decide +kernel) (by decide +kernel)) ggk_law_X11_end
set_option maxRecDepth 20000 in
theorem ggk_law_L_domain : GoodIn lw_tbl wk_L_domain := goodIn_ca (goodIn_ca (goodIn_ca (goodIn_ca (goodIn_r _ [804, 382, 288, 805, 806, 807, 72, 808, 757, 759, 19, 760, 209, 141, 363, 83, 650, 651, 652, 410, 84] (by decide +kernel) (by decide +kernel)) (goodIn_sub (in_X10) (by decide +kernel))) (goodIn_sub (in_X8) (by decide +kernel))) (goodIn_sub (in_at84) (by decide +kernel))) (goodIn_sub (in_at95) (by decide +kernel))
set_option maxRecDepth 20000 in
theorem gk_law_L_domain : GoodIn lw_tbl (va_wsS RL 183 yL_domain wk_L_domain) := goodIn_app (goodIn_r _ [802, 803, 71] (by decide +kernel) (by decide +kernel)) ggk_law_L_domain
set_option maxRecDepth 20000 in
theorem ggk_law_X11_domain : GoodIn lw_tbl wk_X11_domain := goodIn_ca (goodIn_r _ [1447, 1098, 1418, 1420, 54, 78, 1421, 1109, 1329, 1330, 1331, 1251, 1252, 1253] (by decide +kernel) (by decide +kernel)) (goodIn_sub (in_X11) (by decide +kernel))
set_option maxRecDepth 20000 in
theorem gk_law_X11_domain : GoodIn lw_tbl (wsV RL 185 RX11 yX11_domain wk_X11_domain) := goodIn_app (goodIn_r _ [1444, 1445, 1446, 78] (by decide +kernel) (by decide +kernel)) ggk_law_X11_domain
set_option maxRecDepth 20000 in
theorem ggk_law_L_clear : GoodIn lw_tbl wk_L_clear := goodIn_ca (goodIn_ca (goodIn_ca (goodIn_r _ [815, 382, 816, 817, 818, 72, 819, 209, 141, 650, 651, 652, 410, 84, 746, 748, 18, 749, 215] (by decide +kernel) (by decide +kernel)) (goodIn_sub (in_X10) (by decide +kernel))) (goodIn_sub (in_X8) (by decide +kernel))) (goodIn_sub (in_at95) (by decide +kernel))
set_option maxRecDepth 20000 in
theorem gk_law_L_clear : GoodIn lw_tbl (va_wsS RL 186 yL_clear wk_L_clear) := goodIn_app (goodIn_r _ [813, 814, 71] (by decide +kernel) (by decide +kernel)) ggk_law_L_clear
set_option maxRecDepth 20000 in
theorem ggk_law_X11_clear : GoodIn lw_tbl wk_X11_clear := goodIn_ca (goodIn_r _ [1451, 1098, 1109, 1111, 1329, 1330, 78, 1331, 1251, 1252, 1253] (by decide +kernel) (by decide +kernel)) (goodIn_sub (in_X11) (by decide +kernel))
set_option maxRecDepth 20000 in
theorem gk_law_X11_clear : GoodIn lw_tbl (wsV RL 188 RX11 yX11_clear wk_X11_clear) := goodIn_app (goodIn_r _ [1448, 1449, 1450, 78] (by decide +kernel) (by decide +kernel)) ggk_law_X11_clear
set_option maxRecDepth 20000 in
theorem ggk_law_L_union : GoodIn lw_tbl wk_L_union := goodIn_ca (goodIn_ca (goodIn_ca (goodIn_ca (goodIn_r _ [822, 382, 288, 823, 824, 825, 72, 826, 827, 828, 829, 650, 651, 652, 410, 84, 757, 759, 19, 760, 209, 141, 363, 83] (by decide +kernel) (by decide +kernel)) (goodIn_sub (in_X10) (by decide +kernel))) (goodIn_sub (in_X8) (by decide +kernel))) (goodIn_sub (in_at84) (by decide +kernel))) (goodIn_sub (in_at95) (by decide +kernel))
set_option maxRecDepth 20000 in
theorem gk_law_L_union : GoodIn lw_tbl (va_wsS RL 189 yL_union wk_L_union) := goodIn_app (goodIn_r _ [820, 821, 71] (by decide +kernel) (by decide +kernel)) ggk_law_L_union
set_option maxRecDepth 20000 in
theorem ggk_law_X11_union : GoodIn lw_tbl wk_X11_union := goodIn_ca (goodIn_r _ [1455, 1098, 1456, 1458, 57, 78, 1459, 1109, 1329, 1330, 1331, 1251, 1252, 1253] (by decide +kernel) (by decide +kernel)) (goodIn_sub (in_X11) (by decide +kernel))
set_option maxRecDepth 20000 in
theorem gk_law_X11_union : GoodIn lw_tbl (wsV RL 191 RX11 yX11_union wk_X11_union) := goodIn_app (goodIn_r _ [1452, 1453, 1454, 78] (by decide +kernel) (by decide +kernel)) ggk_law_X11_union
set_option maxRecDepth 20000 in
theorem ggk_law_L_join : GoodIn lw_tbl wk_L_join := goodIn_ca (goodIn_ca (goodIn_ca (goodIn_ca (goodIn_r _ [833, 382, 288, 834, 835, 836, 72, 837, 827, 828, 829, 650, 651, 652, 410, 84, 757, 759, 19, 760, 209, 141, 363, 83] (by decide +kernel) (by decide +kernel)) (goodIn_sub (in_X10) (by decide +kernel))) (goodIn_sub (in_X8) (by decide +kernel))) (goodIn_sub (in_at84) (by decide +kernel))) (goodIn_sub (in_at95) (by decide +kernel))
set_option maxRecDepth 20000 in
theorem gk_law_L_join : GoodIn lw_tbl (va_wsS RL 192 yL_join wk_L_join) := goodIn_app (goodIn_r _ [831, 832, 71] (by decide +kernel) (by decide +kernel)) ggk_law_L_join
set_option maxRecDepth 20000 in
theorem ggk_law_X11_join : GoodIn lw_tbl wk_X11_join := goodIn_ca (goodIn_r _ [1467, 1098, 1456, 1458, 57, 78, 1459, 1109, 1329, 1330, 1331, 1251, 1252, 1253] (by decide +kernel) (by decide +kernel)) (goodIn_sub (in_X11) (by decide +kernel))
set_option maxRecDepth 20000 in
theorem gk_law_X11_join : GoodIn lw_tbl (wsV RL 194 RX11 yX11_join wk_X11_join) := goodIn_app (goodIn_r _ [1464, 1465, 1466, 78] (by decide +kernel) (by decide +kernel)) ggk_law_X11_join
set_option maxRecDepth 20000 in
theorem ggk_law_L_minus : GoodIn lw_tbl wk_L_minus := goodIn_ca (goodIn_ca (goodIn_ca (goodIn_ca (goodIn_r _ [847, 382, 288, 848, 849, 850, 72, 851, 827, 828, 829, 650, 651, 652, 410, 84, 757, 759, 19, 760, 209, 141, 363, 83] (by decide +kernel) (by decide +kernel)) (goodIn_sub (in_X10) (by decide +kernel))) (goodIn_sub (in_X8) (by decide +kernel))) (goodIn_sub (in_at84) (by decide +kernel))) (goodIn_sub (in_at95) (by decide +kernel))
set_option maxRecDepth 20000 in
theorem gk_law_L_minus : GoodIn lw_tbl (va_wsS RL 195 yL_minus wk_L_minus) := goodIn_app (goodIn_r _ [845, 846, 71] (by decide +kernel) (by decide +kernel)) ggk_law_L_minus
set_option maxRecDepth 20000 in
theorem ggk_law_X11_minus : GoodIn lw_tbl wk_X11_minus := goodIn_ca (goodIn_r _ [1479, 1098, 1456, 1458, 57, 78, 1459, 1109, 1329, 1330, 1331, 1251, 1252, 1253] (by decide +kernel) (by decide +kernel)) (goodIn_sub (in_X11) (by decide +kernel))
set_option maxRecDepth 20000 in
theorem gk_law_X11_minus : GoodIn lw_tbl (wsV RL 197 RX11 yX11_minus wk_X11_minus) := goodIn_app (goodIn_r _ [1476, 1477, 1478, 78] (by decide +kernel) (by decide +kernel)) ggk_law_X11_minus
set_option maxRecDepth 20000 in
theorem ggk_law_L_antijoin : GoodIn lw_tbl wk_L_antijoin := goodIn_ca (goodIn_ca (goodIn_ca (goodIn_ca (goodIn_r _ [858, 382, 288, 859, 860, 861, 72, 862, 827, 828, 829, 650, 651, 652, 410, 84, 757, 759, 19, 760, 209, 141, 363, 83] (by decide +kernel) (by decide +kernel)) (goodIn_sub (in_X10) (by decide +kernel))) (goodIn_sub (in_X8) (by decide +kernel))) (goodIn_sub (in_at84) (by decide +kernel))) (goodIn_sub (in_at95) (by decide +kernel))
set_option maxRecDepth 20000 in
theorem gk_law_L_antijoin : GoodIn lw_tbl (va_wsS RL 198 yL_antijoin wk_L_antijoin) := goodIn_app (goodIn_r _ [856, 857, 71] (by decide +kernel) (by decide +kernel)) ggk_law_L_antijoin
set_option maxRecDepth 20000 in
theorem ggk_law_X11_antijoin : GoodIn lw_tbl wk_X11_antijoin := goodIn_ca (goodIn_r _ [1487, 1098, 1456, 1458, 57, 78, 1459, 1109, 1329, 1330, 1331, 1251, 1252, 1253] (by decide +kernel) (by decide +kernel)) (goodIn_sub (in_X11) (by decide +kernel))
set_option maxRecDepth 20000 in
theorem gk_law_X11_antijoin : GoodIn lw_tbl (wsV RL 200 RX11 yX11_antijoin wk_X11_antijoin) := goodIn_app (goodIn_r _ [1484, 1485, 1486, 78] (by decide +kernel) (by decide +kernel)) ggk_law_X11_antijoin
set_option maxRecDepth 20000 in
theorem ggk_law_L_project : GoodIn lw_tbl wk_L_project := goodIn_ca (goodIn_ca (goodIn_ca (goodIn_ca (goodIn_ca (goodIn_r _ [868, 382, 287, 288, 869, 870, 871, 72, 872, 293, 82, 650, 651, 652, 410, 84, 757, 759, 19, 760, 209, 141, 363, 83] (by decide +kernel) (by decide +kernel)) (goodIn_sub (in_X10) (by decide +kernel))) (goodIn_sub (in_X8) (by decide +kernel))) (goodIn_sub (in_at74) (by decide +kernel))) (goodIn_sub (in_at84) (by decide +kernel))) (goodIn_sub (in_at95) (by decide +kernel))
set_option maxRecDepth 20000 in
theorem gk_law_L_project : GoodIn lw_tbl (va_wsS RL 201 yL_project wk_L_project) := goodIn_app (goodIn_r _ [866, 867, 71] (by decide +kernel) (by decide +kernel)) ggk_law_L_project
set_option maxRecDepth 20000 in
theorem ggk_law_X11_project : GoodIn lw_tbl wk_X11_project := goodIn_ca (goodIn_r _ [1491, 1098, 1109, 1329, 1330, 78, 1331, 1251, 1252, 1253] (by decide +kernel) (by decide +kernel)) (goodIn_sub (in_X11) (by decide +kernel))
set_option maxRecDepth 20000 in
theorem gk_law_X11_project : GoodIn lw_tbl (wsV RL 203 RX11 yX11_project wk_X11_project) := goodIn_app (goodIn_r _ [1488, 1489, 1490, 78] (by decide +kernel) (by decide +kernel)) ggk_law_X11_project
set_option maxRecDepth 20000 in
theorem ggk_law_L_exchange : GoodIn lw_tbl wk_L_exchange := goodIn_ca (goodIn_ca (goodIn_ca (goodIn_ca (goodIn_r _ [879, 382, 288, 880, 881, 882, 72, 883, 884, 885, 886, 650, 651, 652, 410, 84, 777, 778, 779, 757, 759, 19, 760, 209, 141, 363, 83] (by decide +kernel) (by decide +kernel)) (goodIn_sub (in_X10) (by decide +kernel))) (goodIn_sub (in_X8) (by decide +kernel))) (goodIn_sub (in_at84) (by decide +kernel))) (goodIn_sub (in_at95) (by decide +kernel))
set_option maxRecDepth 20000 in
theorem gk_law_L_exchange : GoodIn lw_tbl (va_wsS RL 204 yL_exchange wk_L_exchange) := goodIn_app (goodIn_r _ [877, 878, 71] (by decide +kernel) (by decide +kernel)) ggk_law_L_exchange
set_option maxRecDepth 20000 in
theorem ggk_law_X11_exchange : GoodIn lw_tbl wk_X11_exchange := goodIn_ca (goodIn_r _ [1495, 1098, 1496, 1498, 61, 78, 1499, 1109, 1329, 1330, 1331, 1251, 1252, 1253, 1430, 1431, 1432] (by decide +kernel) (by decide +kernel)) (goodIn_sub (in_X11) (by decide +kernel))
set_option maxRecDepth 20000 in
theorem gk_law_X11_exchange : GoodIn lw_tbl (wsV RL 207 RX11 yX11_exchange wk_X11_exchange) := goodIn_app (goodIn_r _ [1492, 1493, 1494, 78] (by decide +kernel) (by decide +kernel)) ggk_law_X11_exchange
set_option maxRecDepth 20000 in
theorem ggk_law_L_selectEqual : GoodIn lw_tbl wk_L_selectEqual := goodIn_ca (goodIn_ca (goodIn_ca (goodIn_ca (goodIn_r _ [892, 382, 288, 893, 894, 895, 72, 896, 884, 885, 886, 650, 651, 652, 410, 84, 777, 778, 779, 757, 759, 19, 760, 209, 141, 363, 83] (by decide +kernel) (by decide +kernel)) (goodIn_sub (in_X10) (by decide +kernel))) (goodIn_sub (in_X8) (by decide +kernel))) (goodIn_sub (in_at84) (by decide +kernel))) (goodIn_sub (in_at95) (by decide +kernel))
set_option maxRecDepth 20000 in
theorem gk_law_L_selectEqual : GoodIn lw_tbl (va_wsS RL 208 yL_selectEqual wk_L_selectEqual) := goodIn_app (goodIn_r _ [890, 891, 71] (by decide +kernel) (by decide +kernel)) ggk_law_L_selectEqual
set_option maxRecDepth 20000 in
theorem ggk_law_X11_selectEqual : GoodIn lw_tbl wk_X11_selectEqual := goodIn_ca (goodIn_r _ [1503, 1098, 1496, 1498, 61, 78, 1499, 1109, 1329, 1330, 1331, 1251, 1252, 1253, 1430, 1431, 1432] (by decide +kernel) (by decide +kernel)) (goodIn_sub (in_X11) (by decide +kernel))
set_option maxRecDepth 20000 in
theorem gk_law_X11_selectEqual : GoodIn lw_tbl (wsV RL 210 RX11 yX11_selectEqual wk_X11_selectEqual) := goodIn_app (goodIn_r _ [1500, 1501, 1502, 78] (by decide +kernel) (by decide +kernel)) ggk_law_X11_selectEqual
set_option maxRecDepth 20000 in
theorem ggk_law_L_selectLength : GoodIn lw_tbl wk_L_selectLength := goodIn_ca (goodIn_ca (goodIn_ca (goodIn_ca (goodIn_r _ [911, 382, 288, 912, 913, 914, 72, 915, 884, 885, 886, 650, 651, 652, 410, 84, 777, 778, 779, 757, 759, 19, 760, 209, 141, 363, 83] (by decide +kernel) (by decide +kernel)) (goodIn_sub (in_X10) (by decide +kernel))) (goodIn_sub (in_X8) (by decide +kernel))) (goodIn_sub (in_at84) (by decide +kernel))) (goodIn_sub (in_at95) (by decide +kernel))
set_option maxRecDepth 20000 in
theorem gk_law_L_selectLength : GoodIn lw_tbl (va_wsS RL 211 yL_selectLength wk_L_selectLength) := goodIn_app (goodIn_r _ [909, 910, 71] (by decide +kernel) (by decide +kernel)) ggk_law_L_selectLength
set_option maxRecDepth 20000 in
theorem ggk_law_X11_selectLength : GoodIn lw_tbl wk_X11_selectLength := goodIn_ca (goodIn_r _ [1511, 1098, 1496, 1498, 61, 78, 1499, 1109, 1329, 1330, 1331, 1251, 1252, 1253, 1430, 1431, 1432] (by decide +kernel) (by decide +kernel)) (goodIn_sub (in_X11) (by decide +kernel))
set_option maxRecDepth 20000 in
theorem gk_law_X11_selectLength : GoodIn lw_tbl (wsV RL 214 RX11 yX11_selectLength wk_X11_selectLength) := goodIn_app (goodIn_r _ [1508, 1509, 1510, 78] (by decide +kernel) (by decide +kernel)) ggk_law_X11_selectLength
set_option maxRecDepth 20000 in
theorem ggk_law_L_selectRelation : GoodIn lw_tbl wk_L_selectRelation := goodIn_ca (goodIn_ca (goodIn_ca (goodIn_ca (goodIn_ca (goodIn_r _ [918, 382, 287, 288, 919, 920, 921, 72, 922, 293, 82, 884, 885, 886, 650, 651, 652, 410, 84, 777, 778, 779, 757, 759, 19, 760, 209, 141, 363, 83] (by decide +kernel) (by decide +kernel)) (goodIn_sub (in_X10) (by decide +kernel))) (goodIn_sub (in_X8) (by decide +kernel))) (goodIn_sub (in_at74) (by decide +kernel))) (goodIn_sub (in_at84) (by decide +kernel))) (goodIn_sub (in_at95) (by decide +kernel))
set_option maxRecDepth 20000 in
theorem gk_law_L_selectRelation : GoodIn lw_tbl (va_wsS RL 215 yL_selectRelation wk_L_selectRelation) := goodIn_app (goodIn_r _ [916, 917, 71] (by decide +kernel) (by decide +kernel)) ggk_law_L_selectRelation
set_option maxRecDepth 20000 in
theorem ggk_law_X11_selectRelation : GoodIn lw_tbl wk_X11_selectRelation := goodIn_ca (goodIn_r _ [1515, 1098, 1496, 1498, 61, 78, 1499, 1109, 1329, 1330, 1331, 1251, 1252, 1253, 1430, 1431, 1432] (by decide +kernel) (by decide +kernel)) (goodIn_sub (in_X11) (by decide +kernel))
set_option maxRecDepth 20000 in
theorem gk_law_X11_selectRelation : GoodIn lw_tbl (wsV RL 217 RX11 yX11_selectRelation wk_X11_selectRelation) := goodIn_app (goodIn_r _ [1512, 1513, 1514, 78] (by decide +kernel) (by decide +kernel)) ggk_law_X11_selectRelation
set_option maxRecDepth 20000 in
theorem ggk_law_L_contained : GoodIn lw_tbl wk_L_contained := goodIn_ca (goodIn_ca (goodIn_ca (goodIn_ca (goodIn_r _ [929, 382, 288, 930, 931, 932, 72, 933, 650, 651, 652, 410, 84, 757, 759, 19, 760, 209, 141, 363, 83] (by decide +kernel) (by decide +kernel)) (goodIn_sub (in_X10) (by decide +kernel))) (goodIn_sub (in_X8) (by decide +kernel))) (goodIn_sub (in_at84) (by decide +kernel))) (goodIn_sub (in_at95) (by decide +kernel))
set_option maxRecDepth 20000 in
theorem gk_law_L_contained : GoodIn lw_tbl (va_wsS RL 218 yL_contained wk_L_contained) := goodIn_app (goodIn_r _ [927, 928, 71] (by decide +kernel) (by decide +kernel)) ggk_law_L_contained
set_option maxRecDepth 20000 in
theorem ggk_law_X11_contained : GoodIn lw_tbl wk_X11_contained := goodIn_ca (goodIn_r _ [1523, 1098, 1109, 1329, 1330, 78, 1331, 1251, 1252, 1253] (by decide +kernel) (by decide +kernel)) (goodIn_sub (in_X11) (by decide +kernel))
set_option maxRecDepth 20000 in
theorem gk_law_X11_contained : GoodIn lw_tbl (wsV RL 221 RX11 yX11_contained wk_X11_contained) := goodIn_app (goodIn_r _ [1520, 1521, 1522, 78] (by decide +kernel) (by decide +kernel)) ggk_law_X11_contained
set_option maxRecDepth 20000 in
theorem ggk_law_L_disjoint : GoodIn lw_tbl wk_L_disjoint := goodIn_ca (goodIn_ca (goodIn_ca (goodIn_ca (goodIn_r _ [936, 382, 288, 937, 938, 939, 72, 940, 757, 759, 19, 760, 209, 141, 363, 83, 650, 651, 652, 410, 84] (by decide +kernel) (by decide +kernel)) (goodIn_sub (in_X10) (by decide +kernel))) (goodIn_sub (in_X8) (by decide +kernel))) (goodIn_sub (in_at84) (by decide +kernel))) (goodIn_sub (in_at95) (by decide +kernel))
set_option maxRecDepth 20000 in
theorem gk_law_L_disjoint : GoodIn lw_tbl (va_wsS RL 222 yL_disjoint wk_L_disjoint) := goodIn_app (goodIn_r _ [934, 935, 71] (by decide +kernel) (by decide +kernel)) ggk_law_L_disjoint
set_option maxRecDepth 20000 in
theorem ggk_law_X11_disjoint : GoodIn lw_tbl wk_X11_disjoint := goodIn_ca (goodIn_r _ [1527, 1098, 1418, 1420, 54, 78, 1421, 1109, 1329, 1330, 1331, 1251, 1252, 1253] (by decide +kernel) (by decide +kernel)) (goodIn_sub (in_X11) (by decide +kernel))
set_option maxRecDepth 20000 in
theorem gk_law_X11_disjoint : GoodIn lw_tbl (wsV RL 224 RX11 yX11_disjoint wk_X11_disjoint) := goodIn_app (goodIn_r _ [1524, 1525, 1526, 78] (by decide +kernel) (by decide +kernel)) ggk_law_X11_disjoint
set_option maxRecDepth 20000 in
theorem ggk_law_L_extractSplit : GoodIn lw_tbl wk_L_extractSplit := goodIn_ca (goodIn_ca (goodIn_ca (goodIn_ca (goodIn_r _ [943, 382, 288, 944, 945, 946, 72, 947, 650, 651, 652, 410, 84, 757, 759, 19, 760, 209, 141, 363, 83] (by decide +kernel) (by decide +kernel)) (goodIn_sub (in_X10) (by decide +kernel))) (goodIn_sub (in_X8) (by decide +kernel))) (goodIn_sub (in_at84) (by decide +kernel))) (goodIn_sub (in_at95) (by decide +kernel))
set_option maxRecDepth 20000 in
theorem gk_law_L_extractSplit : GoodIn lw_tbl (va_wsS RL 225 yL_extractSplit wk_L_extractSplit) := goodIn_app (goodIn_r _ [941, 942, 71] (by decide +kernel) (by decide +kernel)) ggk_law_L_extractSplit
set_option maxRecDepth 20000 in
theorem ggk_law_X11_extractSplit : GoodIn lw_tbl wk_X11_extractSplit := goodIn_ca (goodIn_r _ [1535, 1098, 1109, 1329, 1330, 78, 1331, 1251, 1252, 1253] (by decide +kernel) (by decide +kernel)) (goodIn_sub (in_X11) (by decide +kernel))
set_option maxRecDepth 20000 in
theorem gk_law_X11_extractSplit : GoodIn lw_tbl (wsV RL 227 RX11 yX11_extractSplit wk_X11_extractSplit) := goodIn_app (goodIn_r _ [1532, 1533, 1534, 78] (by decide +kernel) (by decide +kernel)) ggk_law_X11_extractSplit
set_option maxRecDepth 20000 in
theorem ggk_law_L_splitCorrect : GoodIn lw_tbl wk_L_splitCorrect := goodIn_ca (goodIn_ca (goodIn_ca (goodIn_ca (goodIn_r _ [955, 382, 288, 956, 957, 958, 72, 959, 757, 759, 19, 760, 209, 141, 363, 83, 650, 651, 652, 410, 84] (by decide +kernel) (by decide +kernel)) (goodIn_sub (in_X10) (by decide +kernel))) (goodIn_sub (in_X8) (by decide +kernel))) (goodIn_sub (in_at84) (by decide +kernel))) (goodIn_sub (in_at95) (by decide +kernel))
set_option maxRecDepth 20000 in
theorem gk_law_L_splitCorrect : GoodIn lw_tbl (va_wsS RL 228 yL_splitCorrect wk_L_splitCorrect) := goodIn_app (goodIn_r _ [953, 954, 71] (by decide +kernel) (by decide +kernel)) ggk_law_L_splitCorrect
set_option maxRecDepth 20000 in
theorem ggk_law_X11_splitCorrect : GoodIn lw_tbl wk_X11_splitCorrect := goodIn_ca (goodIn_r _ [1543, 1098, 1109, 1329, 1330, 78, 1331, 1251, 1252, 1253] (by decide +kernel) (by decide +kernel)) (goodIn_sub (in_X11) (by decide +kernel))
set_option maxRecDepth 20000 in
theorem gk_law_X11_splitCorrect : GoodIn lw_tbl (wsV RL 230 RX11 yX11_splitCorrect wk_X11_splitCorrect) := goodIn_app (goodIn_r _ [1540, 1541, 1542, 78] (by decide +kernel) (by decide +kernel)) ggk_law_X11_splitCorrect
set_option maxRecDepth 20000 in
theorem ggk_law_L_openCursor : GoodIn lw_tbl wk_L_openCursor := goodIn_ca (goodIn_ca (goodIn_ca (goodIn_ca (goodIn_r _ [973, 382, 288, 974, 975, 976, 72, 977, 757, 759, 19, 760, 209, 141, 363, 83, 650, 651, 652, 410, 84] (by decide +kernel) (by decide +kernel)) (goodIn_sub (in_X10) (by decide +kernel))) (goodIn_sub (in_X8) (by decide +kernel))) (goodIn_sub (in_at84) (by decide +kernel))) (goodIn_sub (in_at95) (by decide +kernel))
set_option maxRecDepth 20000 in
theorem gk_law_L_openCursor : GoodIn lw_tbl (va_wsS RL 231 yL_openCursor wk_L_openCursor) := goodIn_app (goodIn_r _ [971, 972, 71] (by decide +kernel) (by decide +kernel)) ggk_law_L_openCursor
set_option maxRecDepth 20000 in
theorem ggk_law_X11_openCursor : GoodIn lw_tbl wk_X11_openCursor := goodIn_ca (goodIn_r _ [1547, 1098, 1418, 1420, 54, 78, 1421, 1109, 1329, 1330, 1331, 1251, 1252, 1253] (by decide +kernel) (by decide +kernel)) (goodIn_sub (in_X11) (by decide +kernel))
set_option maxRecDepth 20000 in
theorem gk_law_X11_openCursor : GoodIn lw_tbl (wsV RL 233 RX11 yX11_openCursor wk_X11_openCursor) := goodIn_app (goodIn_r _ [1544, 1545, 1546, 78] (by decide +kernel) (by decide +kernel)) ggk_law_X11_openCursor
set_option maxRecDepth 20000 in
theorem ggk_law_L_cursorRow : GoodIn lw_tbl wk_L_cursorRow := goodIn_ca (goodIn_ca (goodIn_r _ [980, 288, 981, 982, 983, 72, 984, 985, 987, 24, 988, 215, 363, 83] (by decide +kernel) (by decide +kernel)) (goodIn_sub (in_X10) (by decide +kernel))) (goodIn_sub (in_at84) (by decide +kernel))
set_option maxRecDepth 20000 in
theorem gk_law_L_cursorRow : GoodIn lw_tbl (va_wsS RL 234 yL_cursorRow wk_L_cursorRow) := goodIn_app (goodIn_r _ [978, 979, 71] (by decide +kernel) (by decide +kernel)) ggk_law_L_cursorRow
set_option maxRecDepth 20000 in
theorem ggk_law_X11_cursorRow : GoodIn lw_tbl wk_X11_cursorRow := goodIn_ca (goodIn_r _ [1551, 1111, 1098] (by decide +kernel) (by decide +kernel)) (goodIn_sub (in_X11) (by decide +kernel))
set_option maxRecDepth 20000 in
theorem gk_law_X11_cursorRow : GoodIn lw_tbl (wsV RL 236 RX11 yX11_cursorRow wk_X11_cursorRow) := goodIn_app (goodIn_r _ [1548, 1549, 1550, 78] (by decide +kernel) (by decide +kernel)) ggk_law_X11_cursorRow
set_option maxRecDepth 20000 in
theorem ggk_law_L_advance : GoodIn lw_tbl wk_L_advance := goodIn_ca (goodIn_ca (goodIn_ca (goodIn_r _ [996, 287, 288, 997, 998, 999, 72, 1000, 293, 82, 985, 987, 24, 988, 215, 363, 83] (by decide +kernel) (by decide +kernel)) (goodIn_sub (in_X10) (by decide +kernel))) (goodIn_sub (in_at74) (by decide +kernel))) (goodIn_sub (in_at84) (by decide +kernel))
set_option maxRecDepth 20000 in
theorem gk_law_L_advance : GoodIn lw_tbl (va_wsS RL 237 yL_advance wk_L_advance) := goodIn_app (goodIn_r _ [994, 995, 71] (by decide +kernel) (by decide +kernel)) ggk_law_L_advance
set_option maxRecDepth 20000 in
theorem ggk_law_X11_advance : GoodIn lw_tbl wk_X11_advance := goodIn_ca (goodIn_r _ [1559, 1111, 1098] (by decide +kernel) (by decide +kernel)) (goodIn_sub (in_X11) (by decide +kernel))
set_option maxRecDepth 20000 in
theorem gk_law_X11_advance : GoodIn lw_tbl (wsV RL 239 RX11 yX11_advance wk_X11_advance) := goodIn_app (goodIn_r _ [1556, 1557, 1558, 78] (by decide +kernel) (by decide +kernel)) ggk_law_X11_advance
set_option maxRecDepth 20000 in
theorem ggk_law_L_skipTo : GoodIn lw_tbl wk_L_skipTo := goodIn_ca (goodIn_ca (goodIn_r _ [1004, 288, 1005, 1006, 1007, 72, 1008, 985, 987, 24, 988, 215, 363, 83] (by decide +kernel) (by decide +kernel)) (goodIn_sub (in_X10) (by decide +kernel))) (goodIn_sub (in_at84) (by decide +kernel))
set_option maxRecDepth 20000 in
theorem gk_law_L_skipTo : GoodIn lw_tbl (va_wsS RL 240 yL_skipTo wk_L_skipTo) := goodIn_app (goodIn_r _ [1002, 1003, 71] (by decide +kernel) (by decide +kernel)) ggk_law_L_skipTo
set_option maxRecDepth 20000 in
theorem ggk_law_X11_skipTo : GoodIn lw_tbl wk_X11_skipTo := goodIn_ca (goodIn_r _ [1564, 1111, 1098] (by decide +kernel) (by decide +kernel)) (goodIn_sub (in_X11) (by decide +kernel))
set_option maxRecDepth 20000 in
theorem gk_law_X11_skipTo : GoodIn lw_tbl (wsV RL 242 RX11 yX11_skipTo wk_X11_skipTo) := goodIn_app (goodIn_r _ [1561, 1562, 1563, 78] (by decide +kernel) (by decide +kernel)) ggk_law_X11_skipTo
set_option maxRecDepth 20000 in
theorem ggk_law_L_setWeight : GoodIn lw_tbl wk_L_setWeight := goodIn_ca (goodIn_ca (goodIn_ca (goodIn_r _ [1014, 382, 1015, 1016, 1017, 72, 1018, 209, 143, 777, 778, 779, 410, 84] (by decide +kernel) (by decide +kernel)) (goodIn_sub (in_X10) (by decide +kernel))) (goodIn_sub (in_X8) (by decide +kernel))) (goodIn_sub (in_at95) (by decide +kernel))
set_option maxRecDepth 20000 in
theorem gk_law_L_setWeight : GoodIn lw_tbl (va_wsS RL 243 yL_setWeight wk_L_setWeight) := goodIn_app (goodIn_r _ [1012, 1013, 71] (by decide +kernel) (by decide +kernel)) ggk_law_L_setWeight
set_option maxRecDepth 20000 in
theorem ggk_law_X11_setWeight : GoodIn lw_tbl wk_X11_setWeight := goodIn_ca (goodIn_r _ [1568, 1098, 1113, 1430, 1431, 78, 1432, 1251, 1252, 1253] (by decide +kernel) (by decide +kernel)) (goodIn_sub (in_X11) (by decide +kernel))
set_option maxRecDepth 20000 in
theorem gk_law_X11_setWeight : GoodIn lw_tbl (wsV RL 245 RX11 yX11_setWeight wk_X11_setWeight) := goodIn_app (goodIn_r _ [1565, 1566, 1567, 78] (by decide +kernel) (by decide +kernel)) ggk_law_X11_setWeight
set_option maxRecDepth 20000 in
theorem ggk_law_L_score : GoodIn lw_tbl wk_L_score := goodIn_ca (goodIn_ca (goodIn_ca (goodIn_ca (goodIn_r _ [1021, 382, 288, 1036, 1037, 1038, 72, 1039, 757, 759, 19, 760, 209, 141, 363, 83, 650, 651, 652, 410, 84] (by decide +kernel) (by decide +kernel)) (goodIn_sub (in_X10) (by decide +kernel))) (goodIn_sub (in_X8) (by decide +kernel))) (goodIn_sub (in_at84) (by decide +kernel))) (goodIn_sub (in_at95) (by decide +kernel))
set_option maxRecDepth 20000 in
theorem gk_law_L_score : GoodIn lw_tbl (va_wsS RL 246 yL_score wk_L_score) := goodIn_app (goodIn_r _ [1019, 1020, 71] (by decide +kernel) (by decide +kernel)) ggk_law_L_score
set_option maxRecDepth 20000 in
theorem ggk_law_X11_score : GoodIn lw_tbl wk_X11_score := goodIn_ca (goodIn_r _ [1572, 1098, 1418, 1420, 54, 78, 1421, 1109, 1329, 1330, 1331, 1251, 1252, 1253] (by decide +kernel) (by decide +kernel)) (goodIn_sub (in_X11) (by decide +kernel))
set_option maxRecDepth 20000 in
theorem gk_law_X11_score : GoodIn lw_tbl (wsV RL 248 RX11 yX11_score wk_X11_score) := goodIn_app (goodIn_r _ [1569, 1570, 1571, 78] (by decide +kernel) (by decide +kernel)) ggk_law_X11_score
set_option maxRecDepth 20000 in
theorem ggk_law_L_classes : GoodIn lw_tbl wk_L_classes := goodIn_ca (goodIn_ca (goodIn_ca (goodIn_ca (goodIn_r _ [1052, 382, 288, 1053, 1054, 1055, 72, 1056, 757, 759, 19, 760, 209, 141, 363, 83, 650, 651, 652, 410, 84] (by decide +kernel) (by decide +kernel)) (goodIn_sub (in_X10) (by decide +kernel))) (goodIn_sub (in_X8) (by decide +kernel))) (goodIn_sub (in_at84) (by decide +kernel))) (goodIn_sub (in_at95) (by decide +kernel))
set_option maxRecDepth 20000 in
theorem gk_law_L_classes : GoodIn lw_tbl (va_wsS RL 249 yL_classes wk_L_classes) := goodIn_app (goodIn_r _ [1050, 1051, 71] (by decide +kernel) (by decide +kernel)) ggk_law_L_classes
set_option maxRecDepth 20000 in
theorem ggk_law_X11_classes : GoodIn lw_tbl wk_X11_classes := goodIn_ca (goodIn_r _ [1584, 1098, 1418, 1420, 54, 78, 1421, 1109, 1329, 1330, 1331, 1251, 1252, 1253] (by decide +kernel) (by decide +kernel)) (goodIn_sub (in_X11) (by decide +kernel))
set_option maxRecDepth 20000 in
theorem gk_law_X11_classes : GoodIn lw_tbl (wsV RL 251 RX11 yX11_classes wk_X11_classes) := goodIn_app (goodIn_r _ [1581, 1582, 1583, 78] (by decide +kernel) (by decide +kernel)) ggk_law_X11_classes
set_option maxRecDepth 20000 in
theorem ggk_law_L_rank : GoodIn lw_tbl wk_L_rank := goodIn_ca (goodIn_ca (goodIn_ca (goodIn_ca (goodIn_r _ [1063, 382, 288, 1064, 1065, 1066, 72, 1067, 757, 759, 19, 760, 209, 141, 363, 83, 650, 651, 652, 410, 84] (by decide +kernel) (by decide +kernel)) (goodIn_sub (in_X10) (by decide +kernel))) (goodIn_sub (in_X8) (by decide +kernel))) (goodIn_sub (in_at84) (by decide +kernel))) (goodIn_sub (in_at95) (by decide +kernel))
set_option maxRecDepth 20000 in
theorem gk_law_L_rank : GoodIn lw_tbl (va_wsS RL 252 yL_rank wk_L_rank) := goodIn_app (goodIn_r _ [1061, 1062, 71] (by decide +kernel) (by decide +kernel)) ggk_law_L_rank
set_option maxRecDepth 20000 in
theorem ggk_law_X11_rank : GoodIn lw_tbl wk_X11_rank := goodIn_ca (goodIn_r _ [1597, 1098, 1418, 1420, 54, 78, 1421, 1109, 1329, 1330, 1331, 1251, 1252, 1253] (by decide +kernel) (by decide +kernel)) (goodIn_sub (in_X11) (by decide +kernel))
set_option maxRecDepth 20000 in
theorem gk_law_X11_rank : GoodIn lw_tbl (wsV RL 254 RX11 yX11_rank wk_X11_rank) := goodIn_app (goodIn_r _ [1594, 1595, 1596, 78] (by decide +kernel) (by decide +kernel)) ggk_law_X11_rank
set_option maxRecDepth 20000 in
theorem ggk_law_L_best : GoodIn lw_tbl wk_L_best := goodIn_ca (goodIn_ca (goodIn_ca (goodIn_ca (goodIn_r _ [1071, 382, 288, 1072, 1073, 1074, 72, 1075, 757, 759, 19, 760, 209, 141, 363, 83, 650, 651, 652, 410, 84] (by decide +kernel) (by decide +kernel)) (goodIn_sub (in_X10) (by decide +kernel))) (goodIn_sub (in_X8) (by decide +kernel))) (goodIn_sub (in_at84) (by decide +kernel))) (goodIn_sub (in_at95) (by decide +kernel))
set_option maxRecDepth 20000 in
theorem gk_law_L_best : GoodIn lw_tbl (va_wsS RL 255 yL_best wk_L_best) := goodIn_app (goodIn_r _ [1069, 1070, 71] (by decide +kernel) (by decide +kernel)) ggk_law_L_best
set_option maxRecDepth 20000 in
theorem ggk_law_X11_best : GoodIn lw_tbl wk_X11_best := goodIn_ca (goodIn_r _ [1601, 1098, 1418, 1420, 54, 78, 1421, 1109, 1329, 1330, 1331, 1251, 1252, 1253] (by decide +kernel) (by decide +kernel)) (goodIn_sub (in_X11) (by decide +kernel))
set_option maxRecDepth 20000 in
theorem gk_law_X11_best : GoodIn lw_tbl (wsV RL 257 RX11 yX11_best wk_X11_best) := goodIn_app (goodIn_r _ [1598, 1599, 1600, 78] (by decide +kernel) (by decide +kernel)) ggk_law_X11_best
set_option maxRecDepth 20000 in
theorem ggk_law_L_total : GoodIn lw_tbl wk_L_total := goodIn_ca (goodIn_ca (goodIn_ca (goodIn_ca (goodIn_r _ [1078, 382, 288, 1079, 1080, 1081, 72, 1082, 757, 759, 19, 760, 209, 141, 363, 83, 650, 651, 652, 410, 84] (by decide +kernel) (by decide +kernel)) (goodIn_sub (in_X10) (by decide +kernel))) (goodIn_sub (in_X8) (by decide +kernel))) (goodIn_sub (in_at84) (by decide +kernel))) (goodIn_sub (in_at95) (by decide +kernel))
set_option maxRecDepth 20000 in
theorem gk_law_L_total : GoodIn lw_tbl (va_wsS RL 258 yL_total wk_L_total) := goodIn_app (goodIn_r _ [1076, 1077, 71] (by decide +kernel) (by decide +kernel)) ggk_law_L_total
set_option maxRecDepth 20000 in
theorem ggk_law_X11_total : GoodIn lw_tbl wk_X11_total := goodIn_ca (goodIn_r _ [1605, 1098, 1418, 1420, 54, 78, 1421, 1109, 1329, 1330, 1331, 1251, 1252, 1253] (by decide +kernel) (by decide +kernel)) (goodIn_sub (in_X11) (by decide +kernel))
set_option maxRecDepth 20000 in
theorem gk_law_X11_total : GoodIn lw_tbl (wsV RL 260 RX11 yX11_total wk_X11_total) := goodIn_app (goodIn_r _ [1602, 1603, 1604, 78] (by decide +kernel) (by decide +kernel)) ggk_law_X11_total
set_option maxRecDepth 20000 in
theorem ggk_law_X10_save : GoodIn lw_tbl wk_X10_save := goodIn_ca (goodIn_ca (goodIn_r _ [267, 210, 209, 211, 268, 269, 270, 73, 271, 136, 272, 274, 273, 91, 142, 144, 146, 140, 280, 281, 282, 283] (by decide +kernel) (by decide +kernel)) (goodIn_sub (in_X10) (by decide +kernel))) (goodIn_sub (in_X8) (by decide +kernel))
set_option maxRecDepth 20000 in
theorem gk_law_X10_save : GoodIn lw_tbl (wsV RL 261 RX10 yX10_save wk_X10_save) := goodIn_app (goodIn_r _ [264, 265, 266, 72] (by decide +kernel) (by decide +kernel)) ggk_law_X10_save
set_option maxRecDepth 20000 in
theorem ggk_law_X11_save : GoodIn lw_tbl wk_X11_save := goodIn_ca (goodIn_r _ [1609, 1098, 1102, 1115, 1284, 274, 273, 91, 1103, 1116, 1107, 1117, 1108, 1118, 1109, 1119, 1110, 1120, 1113, 1121, 1114, 1610, 1612, 70, 78, 1613] (by decide +kernel) (by decide +kernel)) (goodIn_sub (in_X11) (by decide +kernel))
set_option maxRecDepth 20000 in
theorem gk_law_X11_save : GoodIn lw_tbl (wsV RL 264 RX11 yX11_save wk_X11_save) := goodIn_app (goodIn_r _ [1606, 1607, 1608, 78] (by decide +kernel) (by decide +kernel)) ggk_law_X11_save
set_option maxRecDepth 20000 in
theorem ggk_law_L_restore : GoodIn lw_tbl wk_L_restore := goodIn_ca (goodIn_ca (goodIn_r _ [1085, 288, 1086, 1087, 1088, 72, 1089, 211, 363, 83] (by decide +kernel) (by decide +kernel)) (goodIn_sub (in_X10) (by decide +kernel))) (goodIn_sub (in_at84) (by decide +kernel))
set_option maxRecDepth 20000 in
theorem gk_law_L_restore : GoodIn lw_tbl (va_wsS RL 265 yL_restore wk_L_restore) := goodIn_app (goodIn_r _ [1083, 1084, 71] (by decide +kernel) (by decide +kernel)) ggk_law_L_restore
set_option maxRecDepth 20000 in
theorem ggk_law_X11_restore : GoodIn lw_tbl wk_X11_restore := goodIn_ca (goodIn_r _ [1617, 1114, 1098] (by decide +kernel) (by decide +kernel)) (goodIn_sub (in_X11) (by decide +kernel))
set_option maxRecDepth 20000 in
theorem gk_law_X11_restore : GoodIn lw_tbl (wsV RL 267 RX11 yX11_restore wk_X11_restore) := goodIn_app (goodIn_r _ [1614, 1615, 1616, 78] (by decide +kernel) (by decide +kernel)) ggk_law_X11_restore
set_option maxRecDepth 20000 in
theorem ggk_law_X10_init : GoodIn lw_tbl wk_X10_init := goodIn_ca (goodIn_ca (goodIn_ca (goodIn_ca (goodIn_ca (goodIn_r _ [101, 102, 103, 104, 105, 106, 73, 107, 108, 209, 210, 211, 134, 212, 213, 214, 215, 216, 161, 162, 76, 164, 217, 197, 113, 75, 115, 218, 199, 200, 77, 202, 219, 220, 221, 222, 109, 110, 136, 111, 138, 135, 140, 142, 144, 146, 116, 74, 118, 121, 123, 125, 119, 120, 165, 166, 167, 196, 171, 172, 169, 173, 174, 175, 176, 177, 178, 203, 205] (by decide +kernel) (by decide +kernel)) (goodIn_sub (in_X10) (by decide +kernel))) (goodIn_sub (in_X4) (by decide +kernel))) (goodIn_sub (in_X6) (by decide +kernel))) (goodIn_sub (in_X7) (by decide +kernel))) (goodIn_sub (in_X8) (by decide +kernel))
theorem gk_law_X10_init : GoodIn lw_tbl wk_X10_init := ggk_law_X10_init
set_option maxRecDepth 20000 in
theorem ggk_law_X11_init : GoodIn lw_tbl wk_X11_init := goodIn_ca (goodIn_r _ [1095, 1096, 103, 104, 134, 1099, 1100, 1101, 1102, 1104, 1106, 1107, 1108, 1109, 1110, 1111, 1113, 1115, 1117, 1119, 1120, 1121, 1125, 1126, 1127, 1128, 1131, 1132, 135, 1133, 1134, 1135, 1136, 1137, 1138, 1097, 1141, 1142, 1144, 196, 1145] (by decide +kernel) (by decide +kernel)) (goodIn_sub (in_X11) (by decide +kernel))
theorem gk_law_X11_init : GoodIn lw_tbl wk_X11_init := ggk_law_X11_init
