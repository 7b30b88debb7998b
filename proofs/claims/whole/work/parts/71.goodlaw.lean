set_option maxRecDepth 20000 in
theorem ggL_law_X10_init : GoodIn wsL_law wsX10_init := sorry
set_option maxRecDepth 20000 in
theorem gL_law_X10_init : GoodIn wsL_law (wsX10_init) := ggL_law_X10_init
set_option maxRecDepth 20000 in
theorem ggL_law_X11_init : GoodIn wsL_law wsX11_init := sorry
set_option maxRecDepth 20000 in
theorem gL_law_X11_init : GoodIn wsL_law (wsX11_init) := ggL_law_X11_init
set_option maxRecDepth 20000 in
theorem ggL_law_L_appendLetter : GoodIn wsL_law wsL_appendLetter := sorry
set_option maxRecDepth 20000 in
theorem gL_law_L_appendLetter : GoodIn wsL_law (va_wsS RL 137 yL_appendLetter wsL_appendLetter) := goodIn_app (goodIn_of _ (by decide +kernel)) ggL_law_L_appendLetter
set_option maxRecDepth 20000 in
theorem ggL_law_X11_appendLetter : GoodIn wsL_law wsX11_appendLetter := sorry
set_option maxRecDepth 20000 in
theorem gL_law_X11_appendLetter : GoodIn wsL_law (wsV RL 142 RX11 yX11_appendLetter wsX11_appendLetter) := goodIn_app (goodIn_of _ (by decide +kernel)) ggL_law_X11_appendLetter
set_option maxRecDepth 20000 in
theorem ggL_law_X11_thrown : GoodIn wsL_law wsX11_thrown := sorry
set_option maxRecDepth 20000 in
theorem gL_law_X11_thrown : GoodIn wsL_law (wsV RL 143 RX11 yX11_thrown wsX11_thrown) := goodIn_app (goodIn_of _ (by decide +kernel)) ggL_law_X11_thrown
set_option maxRecDepth 20000 in
theorem ggL_law_X10_clearDocument : GoodIn wsL_law wsX10_clearDocument := sorry
set_option maxRecDepth 20000 in
theorem gL_law_X10_clearDocument : GoodIn wsL_law (wsV RL 146 RX10 yX10_clearDocument wsX10_clearDocument) := goodIn_app (goodIn_of _ (by decide +kernel)) ggL_law_X10_clearDocument
set_option maxRecDepth 20000 in
theorem ggL_law_X11_clearDocument : GoodIn wsL_law wsX11_clearDocument := sorry
set_option maxRecDepth 20000 in
theorem gL_law_X11_clearDocument : GoodIn wsL_law (wsV RL 149 RX11 yX11_clearDocument wsX11_clearDocument) := goodIn_app (goodIn_of _ (by decide +kernel)) ggL_law_X11_clearDocument
set_option maxRecDepth 20000 in
theorem ggL_law_L_letter : GoodIn wsL_law wsL_letter := sorry
set_option maxRecDepth 20000 in
theorem gL_law_L_letter : GoodIn wsL_law (va_wsS RL 150 yL_letter wsL_letter) := goodIn_app (goodIn_of _ (by decide +kernel)) ggL_law_L_letter
set_option maxRecDepth 20000 in
theorem ggL_law_X11_letter : GoodIn wsL_law wsX11_letter := sorry
set_option maxRecDepth 20000 in
theorem gL_law_X11_letter : GoodIn wsL_law (wsV RL 152 RX11 yX11_letter wsX11_letter) := goodIn_app (goodIn_of _ (by decide +kernel)) ggL_law_X11_letter
set_option maxRecDepth 20000 in
theorem ggL_law_L_appendCharacter : GoodIn wsL_law wsL_appendCharacter := sorry
set_option maxRecDepth 20000 in
theorem gL_law_L_appendCharacter : GoodIn wsL_law (va_wsS RL 153 yL_appendCharacter wsL_appendCharacter) := goodIn_app (goodIn_of _ (by decide +kernel)) ggL_law_L_appendCharacter
set_option maxRecDepth 20000 in
theorem ggL_law_X11_appendCharacter : GoodIn wsL_law wsX11_appendCharacter := sorry
set_option maxRecDepth 20000 in
theorem gL_law_X11_appendCharacter : GoodIn wsL_law (wsV RL 155 RX11 yX11_appendCharacter wsX11_appendCharacter) := goodIn_app (goodIn_of _ (by decide +kernel)) ggL_law_X11_appendCharacter
set_option maxRecDepth 20000 in
theorem ggL_law_L_parse : GoodIn wsL_law wsL_parse := sorry
set_option maxRecDepth 20000 in
theorem gL_law_L_parse : GoodIn wsL_law (va_wsS RL 156 yL_parse wsL_parse) := goodIn_app (goodIn_of _ (by decide +kernel)) ggL_law_L_parse
set_option maxRecDepth 20000 in
theorem ggL_law_X11_parse : GoodIn wsL_law wsX11_parse := sorry
set_option maxRecDepth 20000 in
theorem gL_law_X11_parse : GoodIn wsL_law (wsV RL 159 RX11 yX11_parse wsX11_parse) := goodIn_app (goodIn_of _ (by decide +kernel)) ggL_law_X11_parse
set_option maxRecDepth 20000 in
theorem ggL_law_X10_errorPosition : GoodIn wsL_law wsX10_errorPosition := sorry
set_option maxRecDepth 20000 in
theorem gL_law_X10_errorPosition : GoodIn wsL_law (wsV RL 160 RX10 yX10_errorPosition wsX10_errorPosition) := goodIn_app (goodIn_of _ (by decide +kernel)) ggL_law_X10_errorPosition
set_option maxRecDepth 20000 in
theorem ggL_law_X11_errorPosition : GoodIn wsL_law wsX11_errorPosition := sorry
set_option maxRecDepth 20000 in
theorem gL_law_X11_errorPosition : GoodIn wsL_law (wsV RL 163 RX11 yX11_errorPosition wsX11_errorPosition) := goodIn_app (goodIn_of _ (by decide +kernel)) ggL_law_X11_errorPosition
set_option maxRecDepth 20000 in
theorem ggL_law_L_formulaVariables : GoodIn wsL_law wsL_formulaVariables := sorry
set_option maxRecDepth 20000 in
theorem gL_law_L_formulaVariables : GoodIn wsL_law (va_wsS RL 164 yL_formulaVariables wsL_formulaVariables) := goodIn_app (goodIn_of _ (by decide +kernel)) ggL_law_L_formulaVariables
set_option maxRecDepth 20000 in
theorem ggL_law_X11_formulaVariables : GoodIn wsL_law wsX11_formulaVariables := sorry
set_option maxRecDepth 20000 in
theorem gL_law_X11_formulaVariables : GoodIn wsL_law (wsV RL 166 RX11 yX11_formulaVariables wsX11_formulaVariables) := goodIn_app (goodIn_of _ (by decide +kernel)) ggL_law_X11_formulaVariables
set_option maxRecDepth 20000 in
theorem ggL_law_L_formulaKind : GoodIn wsL_law wsL_formulaKind := sorry
set_option maxRecDepth 20000 in
theorem gL_law_L_formulaKind : GoodIn wsL_law (va_wsS RL 167 yL_formulaKind wsL_formulaKind) := goodIn_app (goodIn_of _ (by decide +kernel)) ggL_law_L_formulaKind
set_option maxRecDepth 20000 in
theorem ggL_law_X11_formulaKind : GoodIn wsL_law wsX11_formulaKind := sorry
set_option maxRecDepth 20000 in
theorem gL_law_X11_formulaKind : GoodIn wsL_law (wsV RL 169 RX11 yX11_formulaKind wsX11_formulaKind) := goodIn_app (goodIn_of _ (by decide +kernel)) ggL_law_X11_formulaKind
set_option maxRecDepth 20000 in
theorem ggL_law_L_extract : GoodIn wsL_law wsL_extract := sorry
set_option maxRecDepth 20000 in
theorem gL_law_L_extract : GoodIn wsL_law (va_wsS RL 170 yL_extract wsL_extract) := goodIn_app (goodIn_of _ (by decide +kernel)) ggL_law_L_extract
set_option maxRecDepth 20000 in
theorem ggL_law_X11_extract : GoodIn wsL_law wsX11_extract := sorry
set_option maxRecDepth 20000 in
theorem gL_law_X11_extract : GoodIn wsL_law (wsV RL 172 RX11 yX11_extract wsX11_extract) := goodIn_app (goodIn_of _ (by decide +kernel)) ggL_law_X11_extract
set_option maxRecDepth 20000 in
theorem ggL_law_L_size : GoodIn wsL_law wsL_size := sorry
set_option maxRecDepth 20000 in
theorem gL_law_L_size : GoodIn wsL_law (va_wsS RL 173 yL_size wsL_size) := goodIn_app (goodIn_of _ (by decide +kernel)) ggL_law_L_size
set_option maxRecDepth 20000 in
theorem ggL_law_X11_size : GoodIn wsL_law wsX11_size := sorry
set_option maxRecDepth 20000 in
theorem gL_law_X11_size : GoodIn wsL_law (wsV RL 175 RX11 yX11_size wsX11_size) := goodIn_app (goodIn_of _ (by decide +kernel)) ggL_law_X11_size
set_option maxRecDepth 20000 in
theorem ggL_law_L_start : GoodIn wsL_law wsL_start := sorry
set_option maxRecDepth 20000 in
theorem gL_law_L_start : GoodIn wsL_law (va_wsS RL 176 yL_start wsL_start) := goodIn_app (goodIn_of _ (by decide +kernel)) ggL_law_L_start
set_option maxRecDepth 20000 in
theorem ggL_law_X11_start : GoodIn wsL_law wsX11_start := sorry
set_option maxRecDepth 20000 in
theorem gL_law_X11_start : GoodIn wsL_law (wsV RL 179 RX11 yX11_start wsX11_start) := goodIn_app (goodIn_of _ (by decide +kernel)) ggL_law_X11_start
set_option maxRecDepth 20000 in
theorem ggL_law_L_end : GoodIn wsL_law wsL_end := sorry
set_option maxRecDepth 20000 in
theorem gL_law_L_end : GoodIn wsL_law (va_wsS RL 180 yL_end wsL_end) := goodIn_app (goodIn_of _ (by decide +kernel)) ggL_law_L_end
set_option maxRecDepth 20000 in
theorem ggL_law_X11_end : GoodIn wsL_law wsX11_end := sorry
set_option maxRecDepth 20000 in
theorem gL_law_X11_end : GoodIn wsL_law (wsV RL 182 RX11 yX11_end wsX11_end) := goodIn_app (goodIn_of _ (by decide +kernel)) ggL_law_X11_end
set_option maxRecDepth 20000 in
theorem ggL_law_L_domain : GoodIn wsL_law wsL_domain := sorry
set_option maxRecDepth 20000 in
theorem gL_law_L_domain : GoodIn wsL_law (va_wsS RL 183 yL_domain wsL_domain) := goodIn_app (goodIn_of _ (by decide +kernel)) ggL_law_L_domain
set_option maxRecDepth 20000 in
theorem ggL_law_X11_domain : GoodIn wsL_law wsX11_domain := sorry
set_option maxRecDepth 20000 in
theorem gL_law_X11_domain : GoodIn wsL_law (wsV RL 185 RX11 yX11_domain wsX11_domain) := goodIn_app (goodIn_of _ (by decide +kernel)) ggL_law_X11_domain
set_option maxRecDepth 20000 in
theorem ggL_law_L_clear : GoodIn wsL_law wsL_clear := sorry
set_option maxRecDepth 20000 in
theorem gL_law_L_clear : GoodIn wsL_law (va_wsS RL 186 yL_clear wsL_clear) := goodIn_app (goodIn_of _ (by decide +kernel)) ggL_law_L_clear
set_option maxRecDepth 20000 in
theorem ggL_law_X11_clear : GoodIn wsL_law wsX11_clear := sorry
set_option maxRecDepth 20000 in
theorem gL_law_X11_clear : GoodIn wsL_law (wsV RL 188 RX11 yX11_clear wsX11_clear) := goodIn_app (goodIn_of _ (by decide +kernel)) ggL_law_X11_clear
set_option maxRecDepth 20000 in
theorem ggL_law_L_union : GoodIn wsL_law wsL_union := sorry
set_option maxRecDepth 20000 in
theorem gL_law_L_union : GoodIn wsL_law (va_wsS RL 189 yL_union wsL_union) := goodIn_app (goodIn_of _ (by decide +kernel)) ggL_law_L_union
set_option maxRecDepth 20000 in
theorem ggL_law_X11_union : GoodIn wsL_law wsX11_union := sorry
set_option maxRecDepth 20000 in
theorem gL_law_X11_union : GoodIn wsL_law (wsV RL 191 RX11 yX11_union wsX11_union) := goodIn_app (goodIn_of _ (by decide +kernel)) ggL_law_X11_union
set_option maxRecDepth 20000 in
theorem ggL_law_L_join : GoodIn wsL_law wsL_join := sorry
set_option maxRecDepth 20000 in
theorem gL_law_L_join : GoodIn wsL_law (va_wsS RL 192 yL_join wsL_join) := goodIn_app (goodIn_of _ (by decide +kernel)) ggL_law_L_join
set_option maxRecDepth 20000 in
theorem ggL_law_X11_join : GoodIn wsL_law wsX11_join := sorry
set_option maxRecDepth 20000 in
theorem gL_law_X11_join : GoodIn wsL_law (wsV RL 194 RX11 yX11_join wsX11_join) := goodIn_app (goodIn_of _ (by decide +kernel)) ggL_law_X11_join
set_option maxRecDepth 20000 in
theorem ggL_law_L_minus : GoodIn wsL_law wsL_minus := sorry
set_option maxRecDepth 20000 in
theorem gL_law_L_minus : GoodIn wsL_law (va_wsS RL 195 yL_minus wsL_minus) := goodIn_app (goodIn_of _ (by decide +kernel)) ggL_law_L_minus
set_option maxRecDepth 20000 in
theorem ggL_law_X11_minus : GoodIn wsL_law wsX11_minus := sorry
set_option maxRecDepth 20000 in
theorem gL_law_X11_minus : GoodIn wsL_law (wsV RL 197 RX11 yX11_minus wsX11_minus) := goodIn_app (goodIn_of _ (by decide +kernel)) ggL_law_X11_minus
set_option maxRecDepth 20000 in
theorem ggL_law_L_antijoin : GoodIn wsL_law wsL_antijoin := sorry
set_option maxRecDepth 20000 in
theorem gL_law_L_antijoin : GoodIn wsL_law (va_wsS RL 198 yL_antijoin wsL_antijoin) := goodIn_app (goodIn_of _ (by decide +kernel)) ggL_law_L_antijoin
set_option maxRecDepth 20000 in
theorem ggL_law_X11_antijoin : GoodIn wsL_law wsX11_antijoin := sorry
set_option maxRecDepth 20000 in
theorem gL_law_X11_antijoin : GoodIn wsL_law (wsV RL 200 RX11 yX11_antijoin wsX11_antijoin) := goodIn_app (goodIn_of _ (by decide +kernel)) ggL_law_X11_antijoin
set_option maxRecDepth 20000 in
theorem ggL_law_L_project : GoodIn wsL_law wsL_project := sorry
set_option maxRecDepth 20000 in
theorem gL_law_L_project : GoodIn wsL_law (va_wsS RL 201 yL_project wsL_project) := goodIn_app (goodIn_of _ (by decide +kernel)) ggL_law_L_project
set_option maxRecDepth 20000 in
theorem ggL_law_X11_project : GoodIn wsL_law wsX11_project := sorry
set_option maxRecDepth 20000 in
theorem gL_law_X11_project : GoodIn wsL_law (wsV RL 203 RX11 yX11_project wsX11_project) := goodIn_app (goodIn_of _ (by decide +kernel)) ggL_law_X11_project
set_option maxRecDepth 20000 in
theorem ggL_law_L_exchange : GoodIn wsL_law wsL_exchange := sorry
set_option maxRecDepth 20000 in
theorem gL_law_L_exchange : GoodIn wsL_law (va_wsS RL 204 yL_exchange wsL_exchange) := goodIn_app (goodIn_of _ (by decide +kernel)) ggL_law_L_exchange
set_option maxRecDepth 20000 in
theorem ggL_law_X11_exchange : GoodIn wsL_law wsX11_exchange := sorry
set_option maxRecDepth 20000 in
theorem gL_law_X11_exchange : GoodIn wsL_law (wsV RL 207 RX11 yX11_exchange wsX11_exchange) := goodIn_app (goodIn_of _ (by decide +kernel)) ggL_law_X11_exchange
set_option maxRecDepth 20000 in
theorem ggL_law_L_selectEqual : GoodIn wsL_law wsL_selectEqual := sorry
set_option maxRecDepth 20000 in
theorem gL_law_L_selectEqual : GoodIn wsL_law (va_wsS RL 208 yL_selectEqual wsL_selectEqual) := goodIn_app (goodIn_of _ (by decide +kernel)) ggL_law_L_selectEqual
set_option maxRecDepth 20000 in
theorem ggL_law_X11_selectEqual : GoodIn wsL_law wsX11_selectEqual := sorry
set_option maxRecDepth 20000 in
theorem gL_law_X11_selectEqual : GoodIn wsL_law (wsV RL 210 RX11 yX11_selectEqual wsX11_selectEqual) := goodIn_app (goodIn_of _ (by decide +kernel)) ggL_law_X11_selectEqual
set_option maxRecDepth 20000 in
theorem ggL_law_L_selectLength : GoodIn wsL_law wsL_selectLength := sorry
set_option maxRecDepth 20000 in
theorem gL_law_L_selectLength : GoodIn wsL_law (va_wsS RL 211 yL_selectLength wsL_selectLength) := goodIn_app (goodIn_of _ (by decide +kernel)) ggL_law_L_selectLength
set_option maxRecDepth 20000 in
theorem ggL_law_X11_selectLength : GoodIn wsL_law wsX11_selectLength := sorry
set_option maxRecDepth 20000 in
theorem gL_law_X11_selectLength : GoodIn wsL_law (wsV RL 214 RX11 yX11_selectLength wsX11_selectLength) := goodIn_app (goodIn_of _ (by decide +kernel)) ggL_law_X11_selectLength
set_option maxRecDepth 20000 in
theorem ggL_law_L_selectRelation : GoodIn wsL_law wsL_selectRelation := sorry
set_option maxRecDepth 20000 in
theorem gL_law_L_selectRelation : GoodIn wsL_law (va_wsS RL 215 yL_selectRelation wsL_selectRelation) := goodIn_app (goodIn_of _ (by decide +kernel)) ggL_law_L_selectRelation
set_option maxRecDepth 20000 in
theorem ggL_law_X11_selectRelation : GoodIn wsL_law wsX11_selectRelation := sorry
set_option maxRecDepth 20000 in
theorem gL_law_X11_selectRelation : GoodIn wsL_law (wsV RL 217 RX11 yX11_selectRelation wsX11_selectRelation) := goodIn_app (goodIn_of _ (by decide +kernel)) ggL_law_X11_selectRelation
set_option maxRecDepth 20000 in
theorem ggL_law_L_contained : GoodIn wsL_law wsL_contained := sorry
set_option maxRecDepth 20000 in
theorem gL_law_L_contained : GoodIn wsL_law (va_wsS RL 218 yL_contained wsL_contained) := goodIn_app (goodIn_of _ (by decide +kernel)) ggL_law_L_contained
set_option maxRecDepth 20000 in
theorem ggL_law_X11_contained : GoodIn wsL_law wsX11_contained := sorry
set_option maxRecDepth 20000 in
theorem gL_law_X11_contained : GoodIn wsL_law (wsV RL 221 RX11 yX11_contained wsX11_contained) := goodIn_app (goodIn_of _ (by decide +kernel)) ggL_law_X11_contained
set_option maxRecDepth 20000 in
theorem ggL_law_L_disjoint : GoodIn wsL_law wsL_disjoint := sorry
set_option maxRecDepth 20000 in
theorem gL_law_L_disjoint : GoodIn wsL_law (va_wsS RL 222 yL_disjoint wsL_disjoint) := goodIn_app (goodIn_of _ (by decide +kernel)) ggL_law_L_disjoint
set_option maxRecDepth 20000 in
theorem ggL_law_X11_disjoint : GoodIn wsL_law wsX11_disjoint := sorry
set_option maxRecDepth 20000 in
theorem gL_law_X11_disjoint : GoodIn wsL_law (wsV RL 224 RX11 yX11_disjoint wsX11_disjoint) := goodIn_app (goodIn_of _ (by decide +kernel)) ggL_law_X11_disjoint
set_option maxRecDepth 20000 in
theorem ggL_law_L_extractSplit : GoodIn wsL_law wsL_extractSplit := sorry
set_option maxRecDepth 20000 in
theorem gL_law_L_extractSplit : GoodIn wsL_law (va_wsS RL 225 yL_extractSplit wsL_extractSplit) := goodIn_app (goodIn_of _ (by decide +kernel)) ggL_law_L_extractSplit
set_option maxRecDepth 20000 in
theorem ggL_law_X11_extractSplit : GoodIn wsL_law wsX11_extractSplit := sorry
set_option maxRecDepth 20000 in
theorem gL_law_X11_extractSplit : GoodIn wsL_law (wsV RL 227 RX11 yX11_extractSplit wsX11_extractSplit) := goodIn_app (goodIn_of _ (by decide +kernel)) ggL_law_X11_extractSplit
set_option maxRecDepth 20000 in
theorem ggL_law_L_splitCorrect : GoodIn wsL_law wsL_splitCorrect := sorry
set_option maxRecDepth 20000 in
theorem gL_law_L_splitCorrect : GoodIn wsL_law (va_wsS RL 228 yL_splitCorrect wsL_splitCorrect) := goodIn_app (goodIn_of _ (by decide +kernel)) ggL_law_L_splitCorrect
set_option maxRecDepth 20000 in
theorem ggL_law_X11_splitCorrect : GoodIn wsL_law wsX11_splitCorrect := sorry
set_option maxRecDepth 20000 in
theorem gL_law_X11_splitCorrect : GoodIn wsL_law (wsV RL 230 RX11 yX11_splitCorrect wsX11_splitCorrect) := goodIn_app (goodIn_of _ (by decide +kernel)) ggL_law_X11_splitCorrect
set_option maxRecDepth 20000 in
theorem ggL_law_L_openCursor : GoodIn wsL_law wsL_openCursor := sorry
set_option maxRecDepth 20000 in
theorem gL_law_L_openCursor : GoodIn wsL_law (va_wsS RL 231 yL_openCursor wsL_openCursor) := goodIn_app (goodIn_of _ (by decide +kernel)) ggL_law_L_openCursor
set_option maxRecDepth 20000 in
theorem ggL_law_X11_openCursor : GoodIn wsL_law wsX11_openCursor := sorry
set_option maxRecDepth 20000 in
theorem gL_law_X11_openCursor : GoodIn wsL_law (wsV RL 233 RX11 yX11_openCursor wsX11_openCursor) := goodIn_app (goodIn_of _ (by decide +kernel)) ggL_law_X11_openCursor
set_option maxRecDepth 20000 in
theorem ggL_law_L_cursorRow : GoodIn wsL_law wsL_cursorRow := sorry
set_option maxRecDepth 20000 in
theorem gL_law_L_cursorRow : GoodIn wsL_law (va_wsS RL 234 yL_cursorRow wsL_cursorRow) := goodIn_app (goodIn_of _ (by decide +kernel)) ggL_law_L_cursorRow
set_option maxRecDepth 20000 in
theorem ggL_law_X11_cursorRow : GoodIn wsL_law wsX11_cursorRow := sorry
set_option maxRecDepth 20000 in
theorem gL_law_X11_cursorRow : GoodIn wsL_law (wsV RL 236 RX11 yX11_cursorRow wsX11_cursorRow) := goodIn_app (goodIn_of _ (by decide +kernel)) ggL_law_X11_cursorRow
set_option maxRecDepth 20000 in
theorem ggL_law_L_advance : GoodIn wsL_law wsL_advance := sorry
set_option maxRecDepth 20000 in
theorem gL_law_L_advance : GoodIn wsL_law (va_wsS RL 237 yL_advance wsL_advance) := goodIn_app (goodIn_of _ (by decide +kernel)) ggL_law_L_advance
set_option maxRecDepth 20000 in
theorem ggL_law_X11_advance : GoodIn wsL_law wsX11_advance := sorry
set_option maxRecDepth 20000 in
theorem gL_law_X11_advance : GoodIn wsL_law (wsV RL 239 RX11 yX11_advance wsX11_advance) := goodIn_app (goodIn_of _ (by decide +kernel)) ggL_law_X11_advance
set_option maxRecDepth 20000 in
theorem ggL_law_L_skipTo : GoodIn wsL_law wsL_skipTo := sorry
set_option maxRecDepth 20000 in
theorem gL_law_L_skipTo : GoodIn wsL_law (va_wsS RL 240 yL_skipTo wsL_skipTo) := goodIn_app (goodIn_of _ (by decide +kernel)) ggL_law_L_skipTo
set_option maxRecDepth 20000 in
theorem ggL_law_X11_skipTo : GoodIn wsL_law wsX11_skipTo := sorry
set_option maxRecDepth 20000 in
theorem gL_law_X11_skipTo : GoodIn wsL_law (wsV RL 242 RX11 yX11_skipTo wsX11_skipTo) := goodIn_app (goodIn_of _ (by decide +kernel)) ggL_law_X11_skipTo
set_option maxRecDepth 20000 in
theorem ggL_law_L_setWeight : GoodIn wsL_law wsL_setWeight := sorry
set_option maxRecDepth 20000 in
theorem gL_law_L_setWeight : GoodIn wsL_law (va_wsS RL 243 yL_setWeight wsL_setWeight) := goodIn_app (goodIn_of _ (by decide +kernel)) ggL_law_L_setWeight
set_option maxRecDepth 20000 in
theorem ggL_law_X11_setWeight : GoodIn wsL_law wsX11_setWeight := sorry
set_option maxRecDepth 20000 in
theorem gL_law_X11_setWeight : GoodIn wsL_law (wsV RL 245 RX11 yX11_setWeight wsX11_setWeight) := goodIn_app (goodIn_of _ (by decide +kernel)) ggL_law_X11_setWeight
set_option maxRecDepth 20000 in
theorem ggL_law_L_score : GoodIn wsL_law wsL_score := sorry
set_option maxRecDepth 20000 in
theorem gL_law_L_score : GoodIn wsL_law (va_wsS RL 246 yL_score wsL_score) := goodIn_app (goodIn_of _ (by decide +kernel)) ggL_law_L_score
set_option maxRecDepth 20000 in
theorem ggL_law_X11_score : GoodIn wsL_law wsX11_score := sorry
set_option maxRecDepth 20000 in
theorem gL_law_X11_score : GoodIn wsL_law (wsV RL 248 RX11 yX11_score wsX11_score) := goodIn_app (goodIn_of _ (by decide +kernel)) ggL_law_X11_score
set_option maxRecDepth 20000 in
theorem ggL_law_L_classes : GoodIn wsL_law wsL_classes := sorry
set_option maxRecDepth 20000 in
theorem gL_law_L_classes : GoodIn wsL_law (va_wsS RL 249 yL_classes wsL_classes) := goodIn_app (goodIn_of _ (by decide +kernel)) ggL_law_L_classes
set_option maxRecDepth 20000 in
theorem ggL_law_X11_classes : GoodIn wsL_law wsX11_classes := sorry
set_option maxRecDepth 20000 in
theorem gL_law_X11_classes : GoodIn wsL_law (wsV RL 251 RX11 yX11_classes wsX11_classes) := goodIn_app (goodIn_of _ (by decide +kernel)) ggL_law_X11_classes
set_option maxRecDepth 20000 in
theorem ggL_law_L_rank : GoodIn wsL_law wsL_rank := sorry
set_option maxRecDepth 20000 in
theorem gL_law_L_rank : GoodIn wsL_law (va_wsS RL 252 yL_rank wsL_rank) := goodIn_app (goodIn_of _ (by decide +kernel)) ggL_law_L_rank
set_option maxRecDepth 20000 in
theorem ggL_law_X11_rank : GoodIn wsL_law wsX11_rank := sorry
set_option maxRecDepth 20000 in
theorem gL_law_X11_rank : GoodIn wsL_law (wsV RL 254 RX11 yX11_rank wsX11_rank) := goodIn_app (goodIn_of _ (by decide +kernel)) ggL_law_X11_rank
set_option maxRecDepth 20000 in
theorem ggL_law_L_best : GoodIn wsL_law wsL_best := sorry
set_option maxRecDepth 20000 in
theorem gL_law_L_best : GoodIn wsL_law (va_wsS RL 255 yL_best wsL_best) := goodIn_app (goodIn_of _ (by decide +kernel)) ggL_law_L_best
set_option maxRecDepth 20000 in
theorem ggL_law_X11_best : GoodIn wsL_law wsX11_best := sorry
set_option maxRecDepth 20000 in
theorem gL_law_X11_best : GoodIn wsL_law (wsV RL 257 RX11 yX11_best wsX11_best) := goodIn_app (goodIn_of _ (by decide +kernel)) ggL_law_X11_best
set_option maxRecDepth 20000 in
theorem ggL_law_L_total : GoodIn wsL_law wsL_total := sorry
set_option maxRecDepth 20000 in
theorem gL_law_L_total : GoodIn wsL_law (va_wsS RL 258 yL_total wsL_total) := goodIn_app (goodIn_of _ (by decide +kernel)) ggL_law_L_total
set_option maxRecDepth 20000 in
theorem ggL_law_X11_total : GoodIn wsL_law wsX11_total := sorry
set_option maxRecDepth 20000 in
theorem gL_law_X11_total : GoodIn wsL_law (wsV RL 260 RX11 yX11_total wsX11_total) := goodIn_app (goodIn_of _ (by decide +kernel)) ggL_law_X11_total
set_option maxRecDepth 20000 in
theorem ggL_law_X10_save : GoodIn wsL_law wsX10_save := sorry
set_option maxRecDepth 20000 in
theorem gL_law_X10_save : GoodIn wsL_law (wsV RL 261 RX10 yX10_save wsX10_save) := goodIn_app (goodIn_of _ (by decide +kernel)) ggL_law_X10_save
set_option maxRecDepth 20000 in
theorem ggL_law_X11_save : GoodIn wsL_law wsX11_save := sorry
set_option maxRecDepth 20000 in
theorem gL_law_X11_save : GoodIn wsL_law (wsV RL 264 RX11 yX11_save wsX11_save) := goodIn_app (goodIn_of _ (by decide +kernel)) ggL_law_X11_save
set_option maxRecDepth 20000 in
theorem ggL_law_L_restore : GoodIn wsL_law wsL_restore := sorry
set_option maxRecDepth 20000 in
theorem gL_law_L_restore : GoodIn wsL_law (va_wsS RL 265 yL_restore wsL_restore) := goodIn_app (goodIn_of _ (by decide +kernel)) ggL_law_L_restore
set_option maxRecDepth 20000 in
theorem ggL_law_X11_restore : GoodIn wsL_law wsX11_restore := sorry
set_option maxRecDepth 20000 in
theorem gL_law_X11_restore : GoodIn wsL_law (wsV RL 267 RX11 yX11_restore wsX11_restore) := goodIn_app (goodIn_of _ (by decide +kernel)) ggL_law_X11_restore
