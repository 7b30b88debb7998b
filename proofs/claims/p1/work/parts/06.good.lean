set_option maxRecDepth 20000 in
theorem ggX2_init_J7_copyOf_59c91 : GoodIn wsX2_init wsJ7_copyOf_59c91 := goodIn_r _ [21, 22, 23, 24, 25, 26, 27, 28, 29, 10, 11, 12, 30, 31, 32, 33] (by decide +kernel) (by decide +kernel)
set_option maxRecDepth 20000 in
theorem gX2_init_J7_copyOf_59c91 : GoodIn wsX2_init (va_wsS RX2 35 yJ7_copyOf_59c91 wsJ7_copyOf_59c91) := goodIn_app (goodIn_of _ (by decide +kernel)) ggX2_init_J7_copyOf_59c91
set_option maxRecDepth 20000 in
theorem ggX2_read_X2_readFormula : GoodIn wsX2_read wsX2_readFormula := goodIn_ca (goodIn_r _ [14, 2, 15, 16, 4, 17, 18, 19, 20, 21, 22, 23, 24, 25, 26, 27, 28, 29, 30, 31, 32, 33, 34, 35, 13, 36, 37, 38, 39, 40, 41, 42, 43, 44, 45, 46, 47, 48, 49, 50, 51, 52, 53, 54, 10, 11, 12, 55, 3, 56, 57, 1, 9, 58, 59, 60, 61, 62, 8, 63, 64, 65, 66, 67, 68, 69, 70, 71, 72, 73, 74, 75, 76, 77, 78, 79, 80, 81, 82, 83, 84, 85, 86, 87, 88, 89, 109, 110, 111, 112, 113, 114, 105, 106, 107, 108] (by decide +kernel) (by decide +kernel)) (goodIn_sub (fun _ h => List.mem_cons_of_mem _ (List.mem_append_right _ h)) (by decide +kernel))
set_option maxRecDepth 20000 in
theorem gX2_read_X2_readFormula : GoodIn wsX2_read (wsV RX2 48 RX2 yX2_readFormula wsX2_readFormula) := goodIn_app (goodIn_of _ (by decide +kernel)) ggX2_read_X2_readFormula
set_option maxRecDepth 20000 in
theorem ggX2_read_X2_link : GoodIn wsX2_read wsX2_link := goodIn_ca (goodIn_r _ [62, 8, 109, 110, 111, 112, 113, 114] (by decide +kernel) (by decide +kernel)) (goodIn_sub (fun _ h => List.mem_cons_of_mem _ (List.mem_append_right _ h)) (by decide +kernel))
set_option maxRecDepth 20000 in
theorem gX2_read_X2_link : GoodIn wsX2_read (wsV RX2 58 RX2 yX2_link wsX2_link) := goodIn_app (goodIn_of _ (by decide +kernel)) ggX2_read_X2_link
set_option maxRecDepth 20000 in
theorem ggX2_read_X1_init : GoodIn wsX2_read wsX1_init := goodIn_ca (goodIn_r _ [92, 93, 27, 28, 94, 95, 96, 97, 98, 99, 100, 101, 102, 103, 104, 115, 116, 117, 118, 119, 120, 121, 122, 105, 106, 107, 108] (by decide +kernel) (by decide +kernel)) (goodIn_sub (fun _ h => List.mem_cons_of_mem _ (List.mem_append_right _ h)) (by decide +kernel))
set_option maxRecDepth 20000 in
theorem ggX2_readFormula_X2_readSequence : GoodIn wsX2_readFormula wsX2_readSequence := goodIn_ca (goodIn_r _ [71, 1, 3, 48, 51, 50, 5, 6, 7, 8, 9, 10, 11, 12, 13, 14, 15, 16, 17, 18, 19, 20, 72, 73, 74, 24, 75, 25, 26, 27, 28, 2, 76, 77, 36, 78, 79, 80, 81, 54, 55, 56, 57, 58, 82, 83, 84, 85, 33, 34, 35, 37, 38, 39, 40, 41, 42, 43, 44, 45, 46, 47, 49, 52, 53, 59, 0, 4, 21, 22, 23, 29, 30, 31, 32, 60, 61, 62, 63, 64, 65, 66, 67, 68, 69, 70, 86, 87, 88, 89, 90, 91, 92, 93, 94, 95] (by decide +kernel) (by decide +kernel)) (goodIn_sub (fun _ h => List.mem_cons_of_mem _ (List.mem_append_right _ h)) (by decide +kernel))
set_option maxRecDepth 20000 in
theorem gX2_readFormula_X2_readSequence : GoodIn wsX2_readFormula (wsV RX2 71 RX2 yX2_readSequence wsX2_readSequence) := goodIn_app (goodIn_of _ (by decide +kernel)) ggX2_readFormula_X2_readSequence
set_option maxRecDepth 20000 in
theorem ggX2_readSequence_X5_ofNothing : GoodIn wsX2_readSequence wsX5_ofNothing := goodIn_r _ [9, 10, 11, 8, 12, 13, 14, 15, 16, 17, 18, 19, 20, 21, 92, 93, 94, 95] (by decide +kernel) (by decide +kernel)
set_option maxRecDepth 20000 in
theorem gX2_readSequence_X5_ofNothing : GoodIn wsX2_readSequence (va_wsS RX2 67 yX5_ofNothing wsX5_ofNothing) := goodIn_app (goodIn_of _ (by decide +kernel)) ggX2_readSequence_X5_ofNothing
set_option maxRecDepth 20000 in
theorem ggX4_init_X0_init : GoodIn wsX4_init wsX0_init := goodIn_r _ [5, 6, 7, 8] (by decide +kernel) (by decide +kernel)
set_option maxRecDepth 20000 in
theorem ggX5_ofNothing_X5_init : GoodIn wsX5_ofNothing wsX5_init := goodIn_r _ [6, 7, 8, 9, 10, 11, 12, 13, 14, 15, 16, 17] (by decide +kernel) (by decide +kernel)
set_option maxRecDepth 20000 in
theorem ggX7_init_X0_init : GoodIn wsX7_init wsX0_init := goodIn_r _ [7, 8, 9, 10] (by decide +kernel) (by decide +kernel)
set_option maxRecDepth 20000 in
theorem ggX8_init_X7_init : GoodIn wsX8_init wsX7_init := goodIn_r _ [16, 4, 17, 18, 19, 20, 21, 22, 23, 2, 3, 30, 31, 32] (by decide +kernel) (by decide +kernel)
set_option maxRecDepth 20000 in
theorem ggX9_firstFault_X9_isVariable : GoodIn wsX9_firstFault wsX9_isVariable := goodIn_r _ [8] (by decide +kernel) (by decide +kernel)
set_option maxRecDepth 20000 in
theorem gX9_firstFault_X9_isVariable : GoodIn wsX9_firstFault (va_wsS RX9 19 yX9_isVariable wsX9_isVariable) := goodIn_app (goodIn_of _ (by decide +kernel)) ggX9_firstFault_X9_isVariable
set_option maxRecDepth 20000 in
theorem ggX10_init_X8_init : GoodIn wsX10_init wsX8_init := goodIn_ca (goodIn_r _ [33, 34, 2, 3, 10, 35, 36, 37, 38, 39, 40, 41, 42, 21, 22, 43, 44, 45, 46, 47, 48, 49, 50, 51, 69, 70, 71, 72, 73, 74, 97, 98, 99] (by decide +kernel) (by decide +kernel)) (goodIn_sub (fun _ h => List.mem_cons_of_mem _ (List.mem_append_right _ h)) (by decide +kernel))
set_option maxRecDepth 20000 in
theorem ggX10_init_X6_init : GoodIn wsX10_init wsX6_init := goodIn_r _ [53, 54, 2, 3, 55, 56, 57, 58, 59, 10, 60, 61, 62, 63, 64, 65, 89, 90, 91, 92, 93, 94, 95, 96] (by decide +kernel) (by decide +kernel)
set_option maxRecDepth 20000 in
theorem ggX10_init_X7_init : GoodIn wsX10_init wsX7_init := goodIn_r _ [44, 10, 45, 46, 47, 48, 49, 50, 51, 2, 3, 97, 98, 99] (by decide +kernel) (by decide +kernel)
set_option maxRecDepth 20000 in
theorem ggX10_init_X4_init : GoodIn wsX10_init wsX4_init := goodIn_r _ [67, 56, 68, 48, 49, 50, 51, 2, 3, 100] (by decide +kernel) (by decide +kernel)
set_option maxRecDepth 20000 in
theorem ggX10_appendLetter_X10_emptyAllSlots : GoodIn wsX10_appendLetter wsX10_emptyAllSlots := goodIn_ca (goodIn_r _ [12, 5, 13, 14, 15, 16, 17, 18, 19, 20, 21, 22, 23, 24, 25, 26, 27, 28, 29, 30, 31, 32, 33, 34] (by decide +kernel) (by decide +kernel)) (goodIn_sub (fun _ h => List.mem_cons_of_mem _ (List.mem_append_right _ h)) (by decide +kernel))
set_option maxRecDepth 20000 in
theorem gX10_appendLetter_X10_emptyAllSlots : GoodIn wsX10_appendLetter (wsV RX10 88 RX10 yX10_emptyAllSlots wsX10_emptyAllSlots) := goodIn_app (goodIn_of _ (by decide +kernel)) ggX10_appendLetter_X10_emptyAllSlots
set_option maxRecDepth 20000 in
theorem ggX10_clearDocument_X10_emptyAllSlots : GoodIn wsX10_clearDocument wsX10_emptyAllSlots := goodIn_ca (goodIn_r _ [7, 1, 8, 9, 10, 11, 12, 13, 14, 15, 16, 17, 18, 19, 20, 21, 22, 23, 24, 25, 26, 27, 28, 29] (by decide +kernel) (by decide +kernel)) (goodIn_sub (fun _ h => List.mem_cons_of_mem _ (List.mem_append_right _ h)) (by decide +kernel))
set_option maxRecDepth 20000 in
theorem gX10_clearDocument_X10_emptyAllSlots : GoodIn wsX10_clearDocument (wsV RX10 88 RX10 yX10_emptyAllSlots wsX10_emptyAllSlots) := goodIn_app (goodIn_of _ (by decide +kernel)) ggX10_clearDocument_X10_emptyAllSlots
set_option maxRecDepth 20000 in
theorem ggX10_parse_X9_firstFault : GoodIn wsX10_parse wsX9_firstFault := goodIn_ca (goodIn_r _ [14, 15, 16, 17, 13, 18, 19, 20, 21, 22, 23, 24, 25, 26, 27, 28, 29, 30] (by decide +kernel) (by decide +kernel)) (goodIn_sub (fun _ h => List.mem_cons_of_mem _ (List.mem_append_right _ h)) (by decide +kernel))
set_option maxRecDepth 20000 in
theorem gX10_parse_X9_firstFault : GoodIn wsX10_parse (va_wsS RX10 104 yX9_firstFault wsX9_firstFault) := goodIn_app (goodIn_of _ (by decide +kernel)) ggX10_parse_X9_firstFault
set_option maxRecDepth 20000 in
theorem ggX10_parse_X2_init : GoodIn wsX10_parse wsX2_init := goodIn_r _ [33, 34, 35, 36, 37, 38, 39, 40, 41, 42, 43, 44, 45, 46, 47, 48, 49, 50, 51, 52, 53, 54, 55, 56, 57, 58, 59, 60, 15, 61, 62, 63, 64, 65, 172, 173, 174, 175, 176, 177] (by decide +kernel) (by decide +kernel)
set_option maxRecDepth 20000 in
theorem ggX10_parse_X2_read : GoodIn wsX10_parse wsX2_read := goodIn_ca (goodIn_r _ [69, 70, 49, 40, 41, 71, 72, 73, 50, 38, 74, 75, 76, 9, 77, 39, 78, 79, 80, 81, 82, 83, 84, 85, 86, 87, 88, 35, 36, 89, 90, 91, 92, 93, 94, 95, 96, 97, 98, 99, 100, 101, 102, 103, 104, 105, 20, 13, 21, 106, 107, 108, 109, 110, 111, 112, 113, 114, 115, 116, 117, 118, 119, 120, 121, 122, 123, 124, 125, 23, 24, 126, 127, 128, 129, 130, 131, 132, 133, 134, 135, 29, 30, 136, 137, 138, 139, 140, 141, 142, 143, 144, 145, 146, 147, 148, 149, 150, 151, 152, 153, 154, 155, 156, 157, 184, 185, 186, 187, 172, 173, 174, 175, 176, 177, 188, 189, 190, 191, 192, 193, 194, 195] (by decide +kernel) (by decide +kernel)) (goodIn_sub (fun _ h => List.mem_cons_of_mem _ (List.mem_append_right _ h)) (by decide +kernel))
set_option maxRecDepth 20000 in
theorem gX10_parse_X2_read : GoodIn wsX10_parse (wsV RX10 117 RX2 yX2_read wsX2_read) := goodIn_app (goodIn_of _ (by decide +kernel)) ggX10_parse_X2_read
set_option maxRecDepth 20000 in
theorem ggX10_formulaVariables_X10_currentFormula : GoodIn wsX10_formulaVariables wsX10_currentFormula := goodIn_ca (goodIn_r _ [6, 7, 8, 9, 10, 19, 20, 21, 22, 23, 24, 25, 26, 27, 28, 29, 30, 31, 32, 33, 34, 35, 36, 37, 38] (by decide +kernel) (by decide +kernel)) (goodIn_sub (fun _ h => List.mem_cons_of_mem _ (List.mem_append_right _ h)) (by decide +kernel))
set_option maxRecDepth 20000 in
theorem gX10_formulaVariables_X10_currentFormula : GoodIn wsX10_formulaVariables (wsV RX10 125 RX10 yX10_currentFormula wsX10_currentFormula) := goodIn_app (goodIn_of _ (by decide +kernel)) ggX10_formulaVariables_X10_currentFormula
set_option maxRecDepth 20000 in
theorem ggX10_formulaKind_X10_currentFormula : GoodIn wsX10_formulaKind wsX10_currentFormula := goodIn_ca (goodIn_r _ [6, 7, 8, 9, 10, 19, 20, 21, 22, 23, 24, 25, 26, 27, 28, 29, 30, 31, 32, 33, 34, 35, 36, 37, 38] (by decide +kernel) (by decide +kernel)) (goodIn_sub (fun _ h => List.mem_cons_of_mem _ (List.mem_append_right _ h)) (by decide +kernel))
set_option maxRecDepth 20000 in
theorem gX10_formulaKind_X10_currentFormula : GoodIn wsX10_formulaKind (wsV RX10 125 RX10 yX10_currentFormula wsX10_currentFormula) := goodIn_app (goodIn_of _ (by decide +kernel)) ggX10_formulaKind_X10_currentFormula
set_option maxRecDepth 20000 in
theorem ggX10_extract_X10_checkSlot : GoodIn wsX10_extract wsX10_checkSlot := goodIn_ca (goodIn_r _ [9, 10, 11] (by decide +kernel) (by decide +kernel)) (goodIn_sub (fun _ h => List.mem_cons_of_mem _ (List.mem_append_left _ (List.mem_append_left _ (List.mem_append_right _ h)))) (by decide +kernel))
set_option maxRecDepth 20000 in
theorem gX10_extract_X10_checkSlot : GoodIn wsX10_extract (va_wsS RX10 138 yX10_checkSlot wsX10_checkSlot) := goodIn_app (goodIn_of _ (by decide +kernel)) ggX10_extract_X10_checkSlot
set_option maxRecDepth 20000 in
theorem ggX10_extract_X10_currentFormula : GoodIn wsX10_extract wsX10_currentFormula := goodIn_ca (goodIn_r _ [15, 16, 17, 3, 18, 148, 149, 150, 151, 152, 153, 154, 155, 156, 157, 158, 159, 160, 161, 162, 163, 164, 165, 166, 167] (by decide +kernel) (by decide +kernel)) (goodIn_sub (fun _ h => List.mem_cons_of_mem _ (List.mem_append_left _ (List.mem_append_right _ h))) (by decide +kernel))
set_option maxRecDepth 20000 in
theorem gX10_extract_X10_currentFormula : GoodIn wsX10_extract (wsV RX10 125 RX10 yX10_currentFormula wsX10_currentFormula) := goodIn_app (goodIn_of _ (by decide +kernel)) ggX10_extract_X10_currentFormula
set_option maxRecDepth 20000 in
theorem ggX10_size_X10_tableIn : GoodIn wsX10_size wsX10_tableIn := goodIn_ca (goodIn_ca (goodIn_ca (goodIn_r _ [6, 7, 8, 9, 10, 11, 12, 13, 5, 14, 15, 16, 20, 21, 22, 23, 24, 25, 26, 27, 28, 29, 30, 31, 32, 33, 34, 35, 36, 37, 38, 39] (by decide +kernel) (by decide +kernel)) (goodIn_sub (fun _ h => List.mem_cons_of_mem _ (List.mem_append_left _ (List.mem_append_left _ (List.mem_append_right _ h)))) (by decide +kernel))) (goodIn_sub (fun _ h => List.mem_cons_of_mem _ (List.mem_append_left _ (List.mem_append_right _ h))) (by decide +kernel))) (goodIn_sub (fun _ h => List.mem_cons_of_mem _ (List.mem_append_right _ h)) (by decide +kernel))
set_option maxRecDepth 20000 in
theorem gX10_size_X10_tableIn : GoodIn wsX10_size (wsV RX10 153 RX10 yX10_tableIn wsX10_tableIn) := goodIn_app (goodIn_of _ (by decide +kernel)) ggX10_size_X10_tableIn
set_option maxRecDepth 20000 in
theorem ggX10_start_X10_spanAt : GoodIn wsX10_start wsX10_spanAt := goodIn_ca (goodIn_ca (goodIn_ca (goodIn_r _ [5, 6, 7, 8, 9, 4, 10, 11, 12, 13, 14, 15, 16, 17, 18, 19, 20, 21, 22, 23, 24, 25, 26, 27, 28, 29, 30, 31, 32, 33, 34, 39, 40, 41, 42, 43, 44, 45, 46, 47, 48, 49, 50, 51, 52, 53, 54, 55, 56, 57, 58, 59, 60, 61] (by decide +kernel) (by decide +kernel)) (goodIn_sub (fun _ h => List.mem_cons_of_mem _ (List.mem_append_left _ (List.mem_append_left _ (List.mem_append_right _ h)))) (by decide +kernel))) (goodIn_sub (fun _ h => List.mem_cons_of_mem _ (List.mem_append_left _ (List.mem_append_right _ h))) (by decide +kernel))) (goodIn_sub (fun _ h => List.mem_cons_of_mem _ (List.mem_append_right _ h)) (by decide +kernel))
set_option maxRecDepth 20000 in
theorem gX10_start_X10_spanAt : GoodIn wsX10_start (wsV RX10 160 RX10 yX10_spanAt wsX10_spanAt) := goodIn_app (goodIn_of _ (by decide +kernel)) ggX10_start_X10_spanAt
set_option maxRecDepth 20000 in
theorem ggX10_end_X10_spanAt : GoodIn wsX10_end wsX10_spanAt := goodIn_ca (goodIn_ca (goodIn_ca (goodIn_r _ [5, 6, 7, 8, 9, 4, 10, 11, 12, 13, 14, 15, 16, 17, 18, 19, 20, 21, 22, 23, 24, 25, 26, 27, 28, 29, 30, 31, 32, 33, 34, 39, 40, 41, 42, 43, 44, 45, 46, 47, 48, 49, 50, 51, 52, 53, 54, 55, 56, 57, 58, 59, 60, 61] (by decide +kernel) (by decide +kernel)) (goodIn_sub (fun _ h => List.mem_cons_of_mem _ (List.mem_append_left _ (List.mem_append_left _ (List.mem_append_right _ h)))) (by decide +kernel))) (goodIn_sub (fun _ h => List.mem_cons_of_mem _ (List.mem_append_left _ (List.mem_append_right _ h))) (by decide +kernel))) (goodIn_sub (fun _ h => List.mem_cons_of_mem _ (List.mem_append_right _ h)) (by decide +kernel))
set_option maxRecDepth 20000 in
theorem gX10_end_X10_spanAt : GoodIn wsX10_end (wsV RX10 160 RX10 yX10_spanAt wsX10_spanAt) := goodIn_app (goodIn_of _ (by decide +kernel)) ggX10_end_X10_spanAt
set_option maxRecDepth 20000 in
theorem ggX10_domain_X10_tableIn : GoodIn wsX10_domain wsX10_tableIn := goodIn_ca (goodIn_ca (goodIn_ca (goodIn_r _ [7, 8, 9, 10, 11, 12, 13, 14, 6, 15, 16, 17, 31, 32, 33, 34, 35, 36, 37, 38, 39, 40, 41, 42, 43, 44, 45, 46, 47, 48, 49, 50] (by decide +kernel) (by decide +kernel)) (goodIn_sub (fun _ h => List.mem_cons_of_mem _ (List.mem_append_left _ (List.mem_append_left _ (List.mem_append_right _ h)))) (by decide +kernel))) (goodIn_sub (fun _ h => List.mem_cons_of_mem _ (List.mem_append_left _ (List.mem_append_right _ h))) (by decide +kernel))) (goodIn_sub (fun _ h => List.mem_cons_of_mem _ (List.mem_append_right _ h)) (by decide +kernel))
set_option maxRecDepth 20000 in
theorem gX10_domain_X10_tableIn : GoodIn wsX10_domain (wsV RX10 153 RX10 yX10_tableIn wsX10_tableIn) := goodIn_app (goodIn_of _ (by decide +kernel)) ggX10_domain_X10_tableIn
set_option maxRecDepth 20000 in
theorem ggX10_clear_X10_checkSlot : GoodIn wsX10_clear wsX10_checkSlot := goodIn_ca (goodIn_r _ [8, 9, 10] (by decide +kernel) (by decide +kernel)) (goodIn_sub (fun _ h => List.mem_cons_of_mem _ (List.mem_append_right _ h)) (by decide +kernel))
set_option maxRecDepth 20000 in
theorem gX10_clear_X10_checkSlot : GoodIn wsX10_clear (va_wsS RX10 138 yX10_checkSlot wsX10_checkSlot) := goodIn_app (goodIn_of _ (by decide +kernel)) ggX10_clear_X10_checkSlot
set_option maxRecDepth 20000 in
theorem ggX10_clear_X10_leaveSlot : GoodIn wsX10_clear wsX10_leaveSlot := goodIn_r _ [14, 15, 16, 17, 18, 19, 20, 21, 22, 23, 24, 25, 26, 27, 28, 29] (by decide +kernel) (by decide +kernel)
set_option maxRecDepth 20000 in
theorem gX10_clear_X10_leaveSlot : GoodIn wsX10_clear (wsV RX10 182 RX10 yX10_leaveSlot wsX10_leaveSlot) := goodIn_app (goodIn_of _ (by decide +kernel)) ggX10_clear_X10_leaveSlot
set_option maxRecDepth 20000 in
theorem ggX10_spanAt_X10_tableIn : GoodIn wsX10_spanAt wsX10_tableIn := goodIn_ca (goodIn_ca (goodIn_ca (goodIn_r _ [6, 7, 8, 9, 10, 11, 12, 13, 5, 14, 15, 16, 34, 35, 36, 37, 38, 39, 40, 41, 42, 43, 44, 45, 46, 47, 48, 49, 50, 51, 52, 53] (by decide +kernel) (by decide +kernel)) (goodIn_sub (fun _ h => List.mem_cons_of_mem _ (List.mem_append_left _ (List.mem_append_left _ (List.mem_append_right _ h)))) (by decide +kernel))) (goodIn_sub (fun _ h => List.mem_cons_of_mem _ (List.mem_append_left _ (List.mem_append_right _ h))) (by decide +kernel))) (goodIn_sub (fun _ h => List.mem_cons_of_mem _ (List.mem_append_right _ h)) (by decide +kernel))
set_option maxRecDepth 20000 in
theorem gX10_spanAt_X10_tableIn : GoodIn wsX10_spanAt (wsV RX10 153 RX10 yX10_tableIn wsX10_tableIn) := goodIn_app (goodIn_of _ (by decide +kernel)) ggX10_spanAt_X10_tableIn
set_option maxRecDepth 20000 in
theorem ggX10_tableIn_X10_checkSlot : GoodIn wsX10_tableIn wsX10_checkSlot := goodIn_ca (goodIn_r _ [9, 10, 11] (by decide +kernel) (by decide +kernel)) (goodIn_sub (fun _ h => List.mem_cons_of_mem _ (List.mem_append_right _ h)) (by decide +kernel))
set_option maxRecDepth 20000 in
theorem gX10_tableIn_X10_checkSlot : GoodIn wsX10_tableIn (va_wsS RX10 138 yX10_checkSlot wsX10_checkSlot) := goodIn_app (goodIn_of _ (by decide +kernel)) ggX10_tableIn_X10_checkSlot
set_option maxRecDepth 20000 in
theorem ggX10_union_X10_checkSlots : GoodIn wsX10_union wsX10_checkSlots := goodIn_ca (goodIn_r _ [7, 8, 9, 6, 10, 11, 12] (by decide +kernel) (by decide +kernel)) (goodIn_sub (fun _ h => List.mem_cons_of_mem _ (List.mem_append_left _ (List.mem_append_right _ h))) (by decide +kernel))
set_option maxRecDepth 20000 in
theorem gX10_union_X10_checkSlots : GoodIn wsX10_union (va_wsS RX10 213 yX10_checkSlots wsX10_checkSlots) := goodIn_app (goodIn_of _ (by decide +kernel)) ggX10_union_X10_checkSlots
set_option maxRecDepth 20000 in
theorem ggX10_union_X10_tableIn : GoodIn wsX10_union wsX10_tableIn := goodIn_ca (goodIn_ca (goodIn_ca (goodIn_r _ [16, 17, 18, 19, 20, 21, 8, 9, 6, 10, 11, 12, 52, 53, 54, 55, 56, 57, 58, 59, 60, 61, 62, 63, 64, 65, 69, 70, 71, 72, 73, 74] (by decide +kernel) (by decide +kernel)) (goodIn_sub (fun _ h => List.mem_cons_of_mem _ (List.mem_append_left _ (List.mem_append_left _ (List.mem_append_right _ h)))) (by decide +kernel))) (goodIn_sub (fun _ h => List.mem_cons_of_mem _ (List.mem_append_right _ h)) (by decide +kernel))) (goodIn_sub (fun _ h => List.mem_cons_of_mem _ (List.mem_append_left _ (List.mem_append_right _ h))) (by decide +kernel))
set_option maxRecDepth 20000 in
theorem gX10_union_X10_tableIn : GoodIn wsX10_union (wsV RX10 153 RX10 yX10_tableIn wsX10_tableIn) := goodIn_app (goodIn_of _ (by decide +kernel)) ggX10_union_X10_tableIn
set_option maxRecDepth 20000 in
theorem ggX10_join_X10_checkSlots : GoodIn wsX10_join wsX10_checkSlots := goodIn_ca (goodIn_r _ [8, 9, 10, 7, 11, 12, 13] (by decide +kernel) (by decide +kernel)) (goodIn_sub (fun _ h => List.mem_cons_of_mem _ (List.mem_append_left _ (List.mem_append_right _ h))) (by decide +kernel))
set_option maxRecDepth 20000 in
theorem gX10_join_X10_checkSlots : GoodIn wsX10_join (va_wsS RX10 213 yX10_checkSlots wsX10_checkSlots) := goodIn_app (goodIn_of _ (by decide +kernel)) ggX10_join_X10_checkSlots
set_option maxRecDepth 20000 in
theorem ggX10_join_X10_tableIn : GoodIn wsX10_join wsX10_tableIn := goodIn_ca (goodIn_ca (goodIn_ca (goodIn_r _ [17, 18, 19, 20, 21, 22, 9, 10, 7, 11, 12, 13, 64, 65, 66, 67, 68, 69, 70, 71, 72, 73, 74, 75, 76, 77, 81, 82, 83, 84, 85, 86] (by decide +kernel) (by decide +kernel)) (goodIn_sub (fun _ h => List.mem_cons_of_mem _ (List.mem_append_left _ (List.mem_append_left _ (List.mem_append_right _ h)))) (by decide +kernel))) (goodIn_sub (fun _ h => List.mem_cons_of_mem _ (List.mem_append_right _ h)) (by decide +kernel))) (goodIn_sub (fun _ h => List.mem_cons_of_mem _ (List.mem_append_left _ (List.mem_append_right _ h))) (by decide +kernel))
set_option maxRecDepth 20000 in
theorem gX10_join_X10_tableIn : GoodIn wsX10_join (wsV RX10 153 RX10 yX10_tableIn wsX10_tableIn) := goodIn_app (goodIn_of _ (by decide +kernel)) ggX10_join_X10_tableIn
set_option maxRecDepth 20000 in
theorem ggX10_minus_X10_checkSlots : GoodIn wsX10_minus wsX10_checkSlots := goodIn_ca (goodIn_r _ [7, 8, 9, 6, 10, 11, 12] (by decide +kernel) (by decide +kernel)) (goodIn_sub (fun _ h => List.mem_cons_of_mem _ (List.mem_append_left _ (List.mem_append_right _ h))) (by decide +kernel))
set_option maxRecDepth 20000 in
theorem gX10_minus_X10_checkSlots : GoodIn wsX10_minus (va_wsS RX10 213 yX10_checkSlots wsX10_checkSlots) := goodIn_app (goodIn_of _ (by decide +kernel)) ggX10_minus_X10_checkSlots
set_option maxRecDepth 20000 in
theorem ggX10_minus_X10_tableIn : GoodIn wsX10_minus wsX10_tableIn := goodIn_ca (goodIn_ca (goodIn_ca (goodIn_r _ [16, 17, 18, 19, 20, 21, 8, 9, 6, 10, 11, 12, 60, 61, 62, 63, 64, 65, 66, 67, 68, 69, 70, 71, 72, 73, 77, 78, 79, 80, 81, 82] (by decide +kernel) (by decide +kernel)) (goodIn_sub (fun _ h => List.mem_cons_of_mem _ (List.mem_append_left _ (List.mem_append_left _ (List.mem_append_right _ h)))) (by decide +kernel))) (goodIn_sub (fun _ h => List.mem_cons_of_mem _ (List.mem_append_right _ h)) (by decide +kernel))) (goodIn_sub (fun _ h => List.mem_cons_of_mem _ (List.mem_append_left _ (List.mem_append_right _ h))) (by decide +kernel))
set_option maxRecDepth 20000 in
theorem gX10_minus_X10_tableIn : GoodIn wsX10_minus (wsV RX10 153 RX10 yX10_tableIn wsX10_tableIn) := goodIn_app (goodIn_of _ (by decide +kernel)) ggX10_minus_X10_tableIn
set_option maxRecDepth 20000 in
theorem ggX10_antijoin_X10_checkSlots : GoodIn wsX10_antijoin wsX10_checkSlots := goodIn_ca (goodIn_r _ [7, 8, 9, 6, 10, 11, 12] (by decide +kernel) (by decide +kernel)) (goodIn_sub (fun _ h => List.mem_cons_of_mem _ (List.mem_append_left _ (List.mem_append_right _ h))) (by decide +kernel))
set_option maxRecDepth 20000 in
theorem gX10_antijoin_X10_checkSlots : GoodIn wsX10_antijoin (va_wsS RX10 213 yX10_checkSlots wsX10_checkSlots) := goodIn_app (goodIn_of _ (by decide +kernel)) ggX10_antijoin_X10_checkSlots
set_option maxRecDepth 20000 in
theorem ggX10_antijoin_X10_tableIn : GoodIn wsX10_antijoin wsX10_tableIn := goodIn_ca (goodIn_ca (goodIn_ca (goodIn_r _ [16, 17, 18, 19, 20, 21, 8, 9, 6, 10, 11, 12, 63, 64, 65, 66, 67, 68, 69, 70, 71, 72, 73, 74, 75, 76, 80, 81, 82, 83, 84, 85] (by decide +kernel) (by decide +kernel)) (goodIn_sub (fun _ h => List.mem_cons_of_mem _ (List.mem_append_left _ (List.mem_append_left _ (List.mem_append_right _ h)))) (by decide +kernel))) (goodIn_sub (fun _ h => List.mem_cons_of_mem _ (List.mem_append_right _ h)) (by decide +kernel))) (goodIn_sub (fun _ h => List.mem_cons_of_mem _ (List.mem_append_left _ (List.mem_append_right _ h))) (by decide +kernel))
set_option maxRecDepth 20000 in
theorem gX10_antijoin_X10_tableIn : GoodIn wsX10_antijoin (wsV RX10 153 RX10 yX10_tableIn wsX10_tableIn) := goodIn_app (goodIn_of _ (by decide +kernel)) ggX10_antijoin_X10_tableIn
set_option maxRecDepth 20000 in
theorem ggX10_checkSlots_X10_checkSlot : GoodIn wsX10_checkSlots wsX10_checkSlot := goodIn_ca (goodIn_r _ [4, 5, 6] (by decide +kernel) (by decide +kernel)) (goodIn_sub (fun _ h => List.mem_cons_of_mem _ (List.mem_append_right _ h)) (by decide +kernel))
set_option maxRecDepth 20000 in
theorem gX10_checkSlots_X10_checkSlot : GoodIn wsX10_checkSlots (va_wsS RX10 138 yX10_checkSlot wsX10_checkSlot) := goodIn_app (goodIn_of _ (by decide +kernel)) ggX10_checkSlots_X10_checkSlot
set_option maxRecDepth 20000 in
theorem ggX10_project_X10_checkSlot : GoodIn wsX10_project wsX10_checkSlot := goodIn_ca (goodIn_r _ [9, 10, 11] (by decide +kernel) (by decide +kernel)) (goodIn_sub (fun _ h => List.mem_cons_of_mem _ (List.mem_append_left _ (List.mem_append_right _ h))) (by decide +kernel))
set_option maxRecDepth 20000 in
theorem gX10_project_X10_checkSlot : GoodIn wsX10_project (va_wsS RX10 138 yX10_checkSlot wsX10_checkSlot) := goodIn_app (goodIn_of _ (by decide +kernel)) ggX10_project_X10_checkSlot
set_option maxRecDepth 20000 in
theorem ggX10_project_X10_tableIn : GoodIn wsX10_project wsX10_tableIn := goodIn_ca (goodIn_ca (goodIn_ca (goodIn_r _ [15, 16, 17, 18, 19, 20, 6, 7, 8, 9, 10, 11, 62, 63, 64, 65, 66, 67, 68, 69, 70, 71, 72, 73, 74, 75, 79, 80, 81, 82, 83, 84] (by decide +kernel) (by decide +kernel)) (goodIn_sub (fun _ h => List.mem_cons_of_mem _ (List.mem_append_left _ (List.mem_append_left _ (List.mem_append_right _ h)))) (by decide +kernel))) (goodIn_sub (fun _ h => List.mem_cons_of_mem _ (List.mem_append_right _ h)) (by decide +kernel))) (goodIn_sub (fun _ h => List.mem_cons_of_mem _ (List.mem_append_left _ (List.mem_append_right _ h))) (by decide +kernel))
set_option maxRecDepth 20000 in
theorem gX10_project_X10_tableIn : GoodIn wsX10_project (wsV RX10 153 RX10 yX10_tableIn wsX10_tableIn) := goodIn_app (goodIn_of _ (by decide +kernel)) ggX10_project_X10_tableIn
set_option maxRecDepth 20000 in
theorem ggX10_exchange_X10_checkSelection : GoodIn wsX10_exchange wsX10_checkSelection := goodIn_ca (goodIn_r _ [7, 8, 9, 6, 10, 11, 12, 13, 14, 15] (by decide +kernel) (by decide +kernel)) (goodIn_sub (fun _ h => List.mem_cons_of_mem _ (List.mem_append_left _ (List.mem_append_right _ h))) (by decide +kernel))
set_option maxRecDepth 20000 in
theorem gX10_exchange_X10_checkSelection : GoodIn wsX10_exchange (va_wsS RX10 241 yX10_checkSelection wsX10_checkSelection) := goodIn_app (goodIn_of _ (by decide +kernel)) ggX10_exchange_X10_checkSelection
set_option maxRecDepth 20000 in
theorem ggX10_exchange_X10_tableIn : GoodIn wsX10_exchange wsX10_tableIn := goodIn_ca (goodIn_ca (goodIn_ca (goodIn_r _ [19, 20, 21, 22, 23, 24, 8, 9, 6, 10, 11, 12, 69, 70, 71, 72, 73, 74, 75, 76, 77, 78, 79, 80, 81, 82, 86, 87, 88, 89, 90, 91] (by decide +kernel) (by decide +kernel)) (goodIn_sub (fun _ h => List.mem_cons_of_mem _ (List.mem_append_left _ (List.mem_append_left _ (List.mem_append_right _ h)))) (by decide +kernel))) (goodIn_sub (fun _ h => List.mem_cons_of_mem _ (List.mem_append_right _ h)) (by decide +kernel))) (goodIn_sub (fun _ h => List.mem_cons_of_mem _ (List.mem_append_left _ (List.mem_append_right _ h))) (by decide +kernel))
set_option maxRecDepth 20000 in
theorem gX10_exchange_X10_tableIn : GoodIn wsX10_exchange (wsV RX10 153 RX10 yX10_tableIn wsX10_tableIn) := goodIn_app (goodIn_of _ (by decide +kernel)) ggX10_exchange_X10_tableIn
set_option maxRecDepth 20000 in
theorem ggX10_selectEqual_X10_checkSelection : GoodIn wsX10_selectEqual wsX10_checkSelection := goodIn_ca (goodIn_r _ [7, 8, 9, 6, 10, 11, 12, 13, 14, 15] (by decide +kernel) (by decide +kernel)) (goodIn_sub (fun _ h => List.mem_cons_of_mem _ (List.mem_append_left _ (List.mem_append_right _ h))) (by decide +kernel))
set_option maxRecDepth 20000 in
theorem gX10_selectEqual_X10_checkSelection : GoodIn wsX10_selectEqual (va_wsS RX10 241 yX10_checkSelection wsX10_checkSelection) := goodIn_app (goodIn_of _ (by decide +kernel)) ggX10_selectEqual_X10_checkSelection
set_option maxRecDepth 20000 in
theorem ggX10_selectEqual_X10_tableIn : GoodIn wsX10_selectEqual wsX10_tableIn := goodIn_ca (goodIn_ca (goodIn_ca (goodIn_r _ [19, 20, 21, 22, 23, 24, 8, 9, 6, 10, 11, 12, 88, 89, 90, 91, 92, 93, 94, 95, 96, 97, 98, 99, 100, 101, 105, 106, 107, 108, 109, 110] (by decide +kernel) (by decide +kernel)) (goodIn_sub (fun _ h => List.mem_cons_of_mem _ (List.mem_append_left _ (List.mem_append_left _ (List.mem_append_right _ h)))) (by decide +kernel))) (goodIn_sub (fun _ h => List.mem_cons_of_mem _ (List.mem_append_right _ h)) (by decide +kernel))) (goodIn_sub (fun _ h => List.mem_cons_of_mem _ (List.mem_append_left _ (List.mem_append_right _ h))) (by decide +kernel))
set_option maxRecDepth 20000 in
theorem gX10_selectEqual_X10_tableIn : GoodIn wsX10_selectEqual (wsV RX10 153 RX10 yX10_tableIn wsX10_tableIn) := goodIn_app (goodIn_of _ (by decide +kernel)) ggX10_selectEqual_X10_tableIn
set_option maxRecDepth 20000 in
theorem ggX10_selectLength_X10_checkSelection : GoodIn wsX10_selectLength wsX10_checkSelection := goodIn_ca (goodIn_r _ [7, 8, 9, 6, 10, 11, 12, 13, 14, 15] (by decide +kernel) (by decide +kernel)) (goodIn_sub (fun _ h => List.mem_cons_of_mem _ (List.mem_append_left _ (List.mem_append_right _ h))) (by decide +kernel))
set_option maxRecDepth 20000 in
theorem gX10_selectLength_X10_checkSelection : GoodIn wsX10_selectLength (va_wsS RX10 241 yX10_checkSelection wsX10_checkSelection) := goodIn_app (goodIn_of _ (by decide +kernel)) ggX10_selectLength_X10_checkSelection
set_option maxRecDepth 20000 in
theorem ggX10_selectLength_X10_tableIn : GoodIn wsX10_selectLength wsX10_tableIn := goodIn_ca (goodIn_ca (goodIn_ca (goodIn_r _ [19, 20, 21, 22, 23, 24, 8, 9, 6, 10, 11, 12, 77, 78, 79, 80, 81, 82, 83, 84, 85, 86, 87, 88, 89, 90, 94, 95, 96, 97, 98, 99] (by decide +kernel) (by decide +kernel)) (goodIn_sub (fun _ h => List.mem_cons_of_mem _ (List.mem_append_left _ (List.mem_append_left _ (List.mem_append_right _ h)))) (by decide +kernel))) (goodIn_sub (fun _ h => List.mem_cons_of_mem _ (List.mem_append_right _ h)) (by decide +kernel))) (goodIn_sub (fun _ h => List.mem_cons_of_mem _ (List.mem_append_left _ (List.mem_append_right _ h))) (by decide +kernel))
set_option maxRecDepth 20000 in
theorem gX10_selectLength_X10_tableIn : GoodIn wsX10_selectLength (wsV RX10 153 RX10 yX10_tableIn wsX10_tableIn) := goodIn_app (goodIn_of _ (by decide +kernel)) ggX10_selectLength_X10_tableIn
set_option maxRecDepth 20000 in
theorem ggX10_selectRelation_X10_checkSelection : GoodIn wsX10_selectRelation wsX10_checkSelection := goodIn_ca (goodIn_r _ [9, 10, 11, 8, 12, 13, 14, 15, 16, 17] (by decide +kernel) (by decide +kernel)) (goodIn_sub (fun _ h => List.mem_cons_of_mem _ (List.mem_append_left _ (List.mem_append_right _ h))) (by decide +kernel))
set_option maxRecDepth 20000 in
theorem gX10_selectRelation_X10_checkSelection : GoodIn wsX10_selectRelation (va_wsS RX10 241 yX10_checkSelection wsX10_checkSelection) := goodIn_app (goodIn_of _ (by decide +kernel)) ggX10_selectRelation_X10_checkSelection
set_option maxRecDepth 20000 in
theorem ggX10_selectRelation_X10_tableIn : GoodIn wsX10_selectRelation wsX10_tableIn := goodIn_ca (goodIn_ca (goodIn_ca (goodIn_r _ [21, 22, 23, 24, 25, 26, 10, 11, 8, 12, 13, 14, 83, 84, 85, 86, 87, 88, 89, 90, 91, 92, 93, 94, 95, 96, 100, 101, 102, 103, 104, 105] (by decide +kernel) (by decide +kernel)) (goodIn_sub (fun _ h => List.mem_cons_of_mem _ (List.mem_append_left _ (List.mem_append_left _ (List.mem_append_right _ h)))) (by decide +kernel))) (goodIn_sub (fun _ h => List.mem_cons_of_mem _ (List.mem_append_right _ h)) (by decide +kernel))) (goodIn_sub (fun _ h => List.mem_cons_of_mem _ (List.mem_append_left _ (List.mem_append_right _ h))) (by decide +kernel))
set_option maxRecDepth 20000 in
theorem gX10_selectRelation_X10_tableIn : GoodIn wsX10_selectRelation (wsV RX10 153 RX10 yX10_tableIn wsX10_tableIn) := goodIn_app (goodIn_of _ (by decide +kernel)) ggX10_selectRelation_X10_tableIn
set_option maxRecDepth 20000 in
theorem ggX10_checkSelection_X10_checkSlot : GoodIn wsX10_checkSelection wsX10_checkSlot := goodIn_ca (goodIn_r _ [4, 5, 6] (by decide +kernel) (by decide +kernel)) (goodIn_sub (fun _ h => List.mem_cons_of_mem _ (List.mem_append_right _ h)) (by decide +kernel))
set_option maxRecDepth 20000 in
theorem gX10_checkSelection_X10_checkSlot : GoodIn wsX10_checkSelection (va_wsS RX10 138 yX10_checkSlot wsX10_checkSlot) := goodIn_app (goodIn_of _ (by decide +kernel)) ggX10_checkSelection_X10_checkSlot
set_option maxRecDepth 20000 in
theorem ggX10_checkSelection_X10_checkVariable : GoodIn wsX10_checkSelection wsX10_checkVariable := goodIn_ca (goodIn_r _ [9, 5, 6] (by decide +kernel) (by decide +kernel)) (goodIn_sub (fun _ h => List.mem_cons_of_mem _ (List.mem_append_right _ h)) (by decide +kernel))
set_option maxRecDepth 20000 in
theorem gX10_checkSelection_X10_checkVariable : GoodIn wsX10_checkSelection (va_wsS RX10 189 yX10_checkVariable wsX10_checkVariable) := goodIn_app (goodIn_of _ (by decide +kernel)) ggX10_checkSelection_X10_checkVariable
set_option maxRecDepth 20000 in
theorem ggX10_contained_X10_checkSlot : GoodIn wsX10_contained wsX10_checkSlot := goodIn_ca (goodIn_r _ [6, 7, 8] (by decide +kernel) (by decide +kernel)) (goodIn_sub (fun _ h => List.mem_cons_of_mem _ (List.mem_append_left _ (List.mem_append_right _ h))) (by decide +kernel))
set_option maxRecDepth 20000 in
theorem gX10_contained_X10_checkSlot : GoodIn wsX10_contained (va_wsS RX10 138 yX10_checkSlot wsX10_checkSlot) := goodIn_app (goodIn_of _ (by decide +kernel)) ggX10_contained_X10_checkSlot
set_option maxRecDepth 20000 in
theorem ggX10_contained_X10_tableIn : GoodIn wsX10_contained wsX10_tableIn := goodIn_ca (goodIn_ca (goodIn_ca (goodIn_r _ [12, 13, 14, 15, 16, 17, 3, 4, 5, 6, 7, 8, 32, 33, 34, 35, 36, 37, 38, 39, 40, 41, 42, 43, 44, 45, 46, 47, 48, 49, 50, 51] (by decide +kernel) (by decide +kernel)) (goodIn_sub (fun _ h => List.mem_cons_of_mem _ (List.mem_append_left _ (List.mem_append_left _ (List.mem_append_right _ h)))) (by decide +kernel))) (goodIn_sub (fun _ h => List.mem_cons_of_mem _ (List.mem_append_right _ h)) (by decide +kernel))) (goodIn_sub (fun _ h => List.mem_cons_of_mem _ (List.mem_append_left _ (List.mem_append_right _ h))) (by decide +kernel))
set_option maxRecDepth 20000 in
theorem gX10_contained_X10_tableIn : GoodIn wsX10_contained (wsV RX10 153 RX10 yX10_tableIn wsX10_tableIn) := goodIn_app (goodIn_of _ (by decide +kernel)) ggX10_contained_X10_tableIn
set_option maxRecDepth 20000 in
theorem ggX10_disjoint_X10_tableIn : GoodIn wsX10_disjoint wsX10_tableIn := goodIn_ca (goodIn_ca (goodIn_ca (goodIn_r _ [7, 8, 9, 10, 11, 12, 13, 14, 6, 15, 16, 17, 36, 37, 38, 39, 40, 41, 42, 43, 44, 45, 46, 47, 48, 49, 50, 51, 52, 53, 54, 55] (by decide +kernel) (by decide +kernel)) (goodIn_sub (fun _ h => List.mem_cons_of_mem _ (List.mem_append_left _ (List.mem_append_left _ (List.mem_append_right _ h)))) (by decide +kernel))) (goodIn_sub (fun _ h => List.mem_cons_of_mem _ (List.mem_append_left _ (List.mem_append_right _ h))) (by decide +kernel))) (goodIn_sub (fun _ h => List.mem_cons_of_mem _ (List.mem_append_right _ h)) (by decide +kernel))
set_option maxRecDepth 20000 in
theorem gX10_disjoint_X10_tableIn : GoodIn wsX10_disjoint (wsV RX10 153 RX10 yX10_tableIn wsX10_tableIn) := goodIn_app (goodIn_of _ (by decide +kernel)) ggX10_disjoint_X10_tableIn
set_option maxRecDepth 20000 in
theorem ggX10_extractSplit_X10_checkSlot : GoodIn wsX10_extractSplit wsX10_checkSlot := goodIn_ca (goodIn_r _ [5, 6, 7] (by decide +kernel) (by decide +kernel)) (goodIn_sub (fun _ h => List.mem_cons_of_mem _ (List.mem_append_left _ (List.mem_append_left _ (List.mem_append_right _ h)))) (by decide +kernel))
set_option maxRecDepth 20000 in
theorem gX10_extractSplit_X10_checkSlot : GoodIn wsX10_extractSplit (va_wsS RX10 138 yX10_checkSlot wsX10_checkSlot) := goodIn_app (goodIn_of _ (by decide +kernel)) ggX10_extractSplit_X10_checkSlot
set_option maxRecDepth 20000 in
theorem ggX10_extractSplit_X10_tableIn : GoodIn wsX10_extractSplit wsX10_tableIn := goodIn_ca (goodIn_ca (goodIn_ca (goodIn_r _ [11, 12, 13, 14, 15, 16, 2, 3, 4, 5, 6, 7, 169, 170, 171, 172, 173, 174, 175, 176, 177, 178, 179, 180, 181, 182, 183, 184, 185, 186, 187, 188] (by decide +kernel) (by decide +kernel)) (goodIn_sub (fun _ h => List.mem_cons_of_mem _ (List.mem_append_left _ (List.mem_append_right _ h))) (by decide +kernel))) (goodIn_sub (fun _ h => List.mem_cons_of_mem _ (List.mem_append_right _ h)) (by decide +kernel))) (goodIn_sub (fun _ h => List.mem_cons_of_mem _ (List.mem_append_left _ (List.mem_append_left _ (List.mem_append_right _ h)))) (by decide +kernel))
set_option maxRecDepth 20000 in
theorem gX10_extractSplit_X10_tableIn : GoodIn wsX10_extractSplit (wsV RX10 153 RX10 yX10_tableIn wsX10_tableIn) := goodIn_app (goodIn_of _ (by decide +kernel)) ggX10_extractSplit_X10_tableIn
set_option maxRecDepth 20000 in
theorem ggX10_splitCorrect_X10_tableIn : GoodIn wsX10_splitCorrect wsX10_tableIn := goodIn_ca (goodIn_ca (goodIn_ca (goodIn_r _ [11, 12, 13, 4, 14, 15, 16, 17, 10, 18, 19, 20, 165, 166, 167, 168, 169, 170, 171, 172, 173, 174, 175, 176, 177, 178, 179, 180, 181, 182, 183, 184] (by decide +kernel) (by decide +kernel)) (goodIn_sub (fun _ h => List.mem_cons_of_mem _ (List.mem_append_left _ (List.mem_append_left _ (List.mem_append_right _ h)))) (by decide +kernel))) (goodIn_sub (fun _ h => List.mem_cons_of_mem _ (List.mem_append_left _ (List.mem_append_right _ h))) (by decide +kernel))) (goodIn_sub (fun _ h => List.mem_cons_of_mem _ (List.mem_append_right _ h)) (by decide +kernel))
set_option maxRecDepth 20000 in
theorem gX10_splitCorrect_X10_tableIn : GoodIn wsX10_splitCorrect (wsV RX10 153 RX10 yX10_tableIn wsX10_tableIn) := goodIn_app (goodIn_of _ (by decide +kernel)) ggX10_splitCorrect_X10_tableIn
set_option maxRecDepth 20000 in
theorem ggX10_openCursor_X10_tableIn : GoodIn wsX10_openCursor wsX10_tableIn := goodIn_ca (goodIn_ca (goodIn_ca (goodIn_r _ [8, 9, 10, 11, 12, 13, 14, 15, 7, 16, 17, 18, 19, 20, 21, 22, 23, 24, 25, 26, 27, 28, 29, 30, 31, 32, 36, 37, 38, 39, 40, 41] (by decide +kernel) (by decide +kernel)) (goodIn_sub (fun _ h => List.mem_cons_of_mem _ (List.mem_append_left _ (List.mem_append_left _ (List.mem_append_right _ h)))) (by decide +kernel))) (goodIn_sub (fun _ h => List.mem_cons_of_mem _ (List.mem_append_left _ (List.mem_append_right _ h))) (by decide +kernel))) (goodIn_sub (fun _ h => List.mem_cons_of_mem _ (List.mem_append_right _ h)) (by decide +kernel))
set_option maxRecDepth 20000 in
theorem gX10_openCursor_X10_tableIn : GoodIn wsX10_openCursor (wsV RX10 153 RX10 yX10_tableIn wsX10_tableIn) := goodIn_app (goodIn_of _ (by decide +kernel)) ggX10_openCursor_X10_tableIn
set_option maxRecDepth 20000 in
theorem ggX10_cursorRow_X10_cursorTable : GoodIn wsX10_cursorRow wsX10_cursorTable := goodIn_ca (goodIn_ca (goodIn_ca (goodIn_r _ [5, 6, 7, 8, 9, 10, 11, 4, 12, 13, 14, 15, 16, 17, 18, 19, 20, 27, 28, 29, 30, 31, 32, 33, 34, 35, 36, 37, 38, 39, 40, 41, 42, 43, 44, 45, 46] (by decide +kernel) (by decide +kernel)) (goodIn_sub (fun _ h => List.mem_cons_of_mem _ (List.mem_append_left _ (List.mem_append_left _ (List.mem_append_right _ h)))) (by decide +kernel))) (goodIn_sub (fun _ h => List.mem_cons_of_mem _ (List.mem_append_left _ (List.mem_append_right _ h))) (by decide +kernel))) (goodIn_sub (fun _ h => List.mem_cons_of_mem _ (List.mem_append_right _ h)) (by decide +kernel))
set_option maxRecDepth 20000 in
theorem gX10_cursorRow_X10_cursorTable : GoodIn wsX10_cursorRow (wsV RX10 278 RX10 yX10_cursorTable wsX10_cursorTable) := goodIn_app (goodIn_of _ (by decide +kernel)) ggX10_cursorRow_X10_cursorTable
set_option maxRecDepth 20000 in
theorem ggX10_advance_X10_cursorTable : GoodIn wsX10_advance wsX10_cursorTable := goodIn_ca (goodIn_ca (goodIn_ca (goodIn_r _ [9, 10, 11, 12, 13, 14, 15, 8, 16, 17, 18, 19, 20, 21, 22, 23, 24, 32, 33, 34, 35, 36, 37, 38, 39, 40, 41, 42, 43, 44, 45, 46, 47, 48, 49, 50, 51] (by decide +kernel) (by decide +kernel)) (goodIn_sub (fun _ h => List.mem_cons_of_mem _ (List.mem_append_left _ (List.mem_append_left _ (List.mem_append_right _ h)))) (by decide +kernel))) (goodIn_sub (fun _ h => List.mem_cons_of_mem _ (List.mem_append_left _ (List.mem_append_right _ h))) (by decide +kernel))) (goodIn_sub (fun _ h => List.mem_cons_of_mem _ (List.mem_append_right _ h)) (by decide +kernel))
set_option maxRecDepth 20000 in
theorem gX10_advance_X10_cursorTable : GoodIn wsX10_advance (wsV RX10 278 RX10 yX10_cursorTable wsX10_cursorTable) := goodIn_app (goodIn_of _ (by decide +kernel)) ggX10_advance_X10_cursorTable
set_option maxRecDepth 20000 in
theorem ggX10_skipTo_X10_cursorTable : GoodIn wsX10_skipTo wsX10_cursorTable := goodIn_ca (goodIn_ca (goodIn_ca (goodIn_r _ [8, 9, 10, 11, 12, 13, 14, 7, 15, 16, 17, 18, 19, 20, 21, 22, 23, 42, 43, 44, 45, 46, 47, 48, 49, 50, 51, 52, 53, 54, 55, 59, 60, 61, 62, 63, 64] (by decide +kernel) (by decide +kernel)) (goodIn_sub (fun _ h => List.mem_cons_of_mem _ (List.mem_append_left _ (List.mem_append_right _ h))) (by decide +kernel))) (goodIn_sub (fun _ h => List.mem_cons_of_mem _ (List.mem_append_left _ (List.mem_append_left _ (List.mem_append_right _ h)))) (by decide +kernel))) (goodIn_sub (fun _ h => List.mem_cons_of_mem _ (List.mem_append_right _ h)) (by decide +kernel))
set_option maxRecDepth 20000 in
theorem gX10_skipTo_X10_cursorTable : GoodIn wsX10_skipTo (wsV RX10 278 RX10 yX10_cursorTable wsX10_cursorTable) := goodIn_app (goodIn_of _ (by decide +kernel)) ggX10_skipTo_X10_cursorTable
set_option maxRecDepth 20000 in
theorem ggX10_setWeight_X10_checkVariable : GoodIn wsX10_setWeight wsX10_checkVariable := goodIn_ca (goodIn_r _ [6, 7, 8] (by decide +kernel) (by decide +kernel)) (goodIn_sub (fun _ h => List.mem_cons_of_mem _ (List.mem_append_right _ h)) (by decide +kernel))
set_option maxRecDepth 20000 in
theorem gX10_setWeight_X10_checkVariable : GoodIn wsX10_setWeight (va_wsS RX10 189 yX10_checkVariable wsX10_checkVariable) := goodIn_app (goodIn_of _ (by decide +kernel)) ggX10_setWeight_X10_checkVariable
set_option maxRecDepth 20000 in
theorem ggX10_score_X10_tableIn : GoodIn wsX10_score wsX10_tableIn := goodIn_ca (goodIn_ca (goodIn_ca (goodIn_r _ [6, 7, 8, 9, 10, 11, 12, 13, 5, 14, 15, 16, 52, 53, 54, 55, 56, 57, 58, 59, 60, 61, 62, 63, 64, 65, 66, 67, 68, 69, 70, 71] (by decide +kernel) (by decide +kernel)) (goodIn_sub (fun _ h => List.mem_cons_of_mem _ (List.mem_append_left _ (List.mem_append_left _ (List.mem_append_left _ (List.mem_append_right _ h))))) (by decide +kernel))) (goodIn_sub (fun _ h => List.mem_cons_of_mem _ (List.mem_append_left _ (List.mem_append_left _ (List.mem_append_right _ h)))) (by decide +kernel))) (goodIn_sub (fun _ h => List.mem_cons_of_mem _ (List.mem_append_left _ (List.mem_append_right _ h))) (by decide +kernel))
set_option maxRecDepth 20000 in
theorem gX10_score_X10_tableIn : GoodIn wsX10_score (wsV RX10 153 RX10 yX10_tableIn wsX10_tableIn) := goodIn_app (goodIn_of _ (by decide +kernel)) ggX10_score_X10_tableIn
set_option maxRecDepth 20000 in
theorem ggX10_classes_X10_tableIn : GoodIn wsX10_classes wsX10_tableIn := goodIn_ca (goodIn_ca (goodIn_ca (goodIn_r _ [7, 8, 9, 10, 11, 12, 13, 14, 6, 15, 16, 17, 72, 73, 74, 75, 76, 77, 78, 79, 80, 81, 82, 83, 84, 85, 89, 90, 91, 92, 93, 94] (by decide +kernel) (by decide +kernel)) (goodIn_sub (fun _ h => List.mem_cons_of_mem _ (List.mem_append_left _ (List.mem_append_left _ (List.mem_append_left _ (List.mem_append_right _ h))))) (by decide +kernel))) (goodIn_sub (fun _ h => List.mem_cons_of_mem _ (List.mem_append_left _ (List.mem_append_left _ (List.mem_append_right _ h)))) (by decide +kernel))) (goodIn_sub (fun _ h => List.mem_cons_of_mem _ (List.mem_append_left _ (List.mem_append_right _ h))) (by decide +kernel))
set_option maxRecDepth 20000 in
theorem gX10_classes_X10_tableIn : GoodIn wsX10_classes (wsV RX10 153 RX10 yX10_tableIn wsX10_tableIn) := goodIn_app (goodIn_of _ (by decide +kernel)) ggX10_classes_X10_tableIn
set_option maxRecDepth 20000 in
theorem ggX10_rank_X10_tableIn : GoodIn wsX10_rank wsX10_tableIn := goodIn_ca (goodIn_ca (goodIn_ca (goodIn_r _ [8, 9, 10, 11, 12, 13, 14, 15, 7, 16, 17, 18, 76, 77, 78, 79, 80, 81, 82, 83, 84, 85, 86, 87, 88, 89, 93, 94, 95, 96, 97, 98] (by decide +kernel) (by decide +kernel)) (goodIn_sub (fun _ h => List.mem_cons_of_mem _ (List.mem_append_left _ (List.mem_append_left _ (List.mem_append_left _ (List.mem_append_right _ h))))) (by decide +kernel))) (goodIn_sub (fun _ h => List.mem_cons_of_mem _ (List.mem_append_left _ (List.mem_append_left _ (List.mem_append_right _ h)))) (by decide +kernel))) (goodIn_sub (fun _ h => List.mem_cons_of_mem _ (List.mem_append_left _ (List.mem_append_right _ h))) (by decide +kernel))
set_option maxRecDepth 20000 in
theorem gX10_rank_X10_tableIn : GoodIn wsX10_rank (wsV RX10 153 RX10 yX10_tableIn wsX10_tableIn) := goodIn_app (goodIn_of _ (by decide +kernel)) ggX10_rank_X10_tableIn
set_option maxRecDepth 20000 in
theorem ggX10_best_X10_tableIn : GoodIn wsX10_best wsX10_tableIn := goodIn_ca (goodIn_ca (goodIn_ca (goodIn_r _ [9, 10, 11, 12, 13, 14, 15, 16, 8, 17, 18, 19, 75, 76, 77, 78, 79, 80, 81, 82, 83, 84, 85, 86, 87, 88, 92, 93, 94, 95, 96, 97] (by decide +kernel) (by decide +kernel)) (goodIn_sub (fun _ h => List.mem_cons_of_mem _ (List.mem_append_left _ (List.mem_append_left _ (List.mem_append_left _ (List.mem_append_right _ h))))) (by decide +kernel))) (goodIn_sub (fun _ h => List.mem_cons_of_mem _ (List.mem_append_left _ (List.mem_append_left _ (List.mem_append_right _ h)))) (by decide +kernel))) (goodIn_sub (fun _ h => List.mem_cons_of_mem _ (List.mem_append_left _ (List.mem_append_right _ h))) (by decide +kernel))
set_option maxRecDepth 20000 in
theorem gX10_best_X10_tableIn : GoodIn wsX10_best (wsV RX10 153 RX10 yX10_tableIn wsX10_tableIn) := goodIn_app (goodIn_of _ (by decide +kernel)) ggX10_best_X10_tableIn
set_option maxRecDepth 20000 in
theorem ggX10_total_X10_tableIn : GoodIn wsX10_total wsX10_tableIn := goodIn_ca (goodIn_ca (goodIn_ca (goodIn_r _ [7, 8, 9, 10, 11, 12, 13, 14, 6, 15, 16, 17, 49, 50, 51, 52, 53, 54, 55, 56, 57, 58, 59, 60, 61, 62, 63, 64, 65, 66, 67, 68] (by decide +kernel) (by decide +kernel)) (goodIn_sub (fun _ h => List.mem_cons_of_mem _ (List.mem_append_left _ (List.mem_append_left _ (List.mem_append_left _ (List.mem_append_right _ h))))) (by decide +kernel))) (goodIn_sub (fun _ h => List.mem_cons_of_mem _ (List.mem_append_left _ (List.mem_append_left _ (List.mem_append_right _ h)))) (by decide +kernel))) (goodIn_sub (fun _ h => List.mem_cons_of_mem _ (List.mem_append_left _ (List.mem_append_right _ h))) (by decide +kernel))
set_option maxRecDepth 20000 in
theorem gX10_total_X10_tableIn : GoodIn wsX10_total (wsV RX10 153 RX10 yX10_tableIn wsX10_tableIn) := goodIn_app (goodIn_of _ (by decide +kernel)) ggX10_total_X10_tableIn
set_option maxRecDepth 20000 in
theorem ggX10_save_X8_copyFrom : GoodIn wsX10_save wsX8_copyFrom := goodIn_ca (goodIn_r _ [8, 9, 10, 11, 12, 13, 14, 15, 16, 17, 18, 19, 20, 21, 22, 23, 24, 25, 26, 27, 46, 47, 48, 49, 50, 51, 52, 53, 54] (by decide +kernel) (by decide +kernel)) (goodIn_sub (fun _ h => List.mem_cons_of_mem _ (List.mem_append_right _ h)) (by decide +kernel))
set_option maxRecDepth 20000 in
theorem gX10_save_X8_copyFrom : GoodIn wsX10_save (wsV RX10 314 RX8 yX8_copyFrom wsX8_copyFrom) := goodIn_app (goodIn_of _ (by decide +kernel)) ggX10_save_X8_copyFrom
set_option maxRecDepth 20000 in
theorem ggX10_save_X8_countTables : GoodIn wsX10_save wsX8_countTables := goodIn_ca (goodIn_r _ [31, 17, 46, 47, 48, 49, 50, 51] (by decide +kernel) (by decide +kernel)) (goodIn_sub (fun _ h => List.mem_cons_of_mem _ (List.mem_append_right _ h)) (by decide +kernel))
set_option maxRecDepth 20000 in
theorem gX10_save_X8_countTables : GoodIn wsX10_save (wsV RX10 317 RX8 yX8_countTables wsX8_countTables) := goodIn_app (goodIn_of _ (by decide +kernel)) ggX10_save_X8_countTables
set_option maxRecDepth 20000 in
theorem ggX11_isSlot_X11_in : GoodIn wsX11_isSlot wsX11_in := goodIn_r _ [4] (by decide +kernel) (by decide +kernel)
set_option maxRecDepth 20000 in
theorem gX11_isSlot_X11_in : GoodIn wsX11_isSlot (va_wsS RX11 118 yX11_in wsX11_in) := goodIn_app (goodIn_of _ (by decide +kernel)) ggX11_isSlot_X11_in
set_option maxRecDepth 20000 in
theorem ggX11_isVariable_X11_in : GoodIn wsX11_isVariable wsX11_in := goodIn_r _ [4] (by decide +kernel) (by decide +kernel)
set_option maxRecDepth 20000 in
theorem gX11_isVariable_X11_in : GoodIn wsX11_isVariable (va_wsS RX11 118 yX11_in wsX11_in) := goodIn_app (goodIn_of _ (by decide +kernel)) ggX11_isVariable_X11_in
set_option maxRecDepth 20000 in
theorem ggX11_appendLetter_X11_in : GoodIn wsX11_appendLetter wsX11_in := goodIn_r _ [7] (by decide +kernel) (by decide +kernel)
set_option maxRecDepth 20000 in
theorem gX11_appendLetter_X11_in : GoodIn wsX11_appendLetter (va_wsS RX11 118 yX11_in wsX11_in) := goodIn_app (goodIn_of _ (by decide +kernel)) ggX11_appendLetter_X11_in
set_option maxRecDepth 20000 in
theorem ggX11_appendLetter_X11_emptySlots : GoodIn wsX11_appendLetter wsX11_emptySlots := goodIn_ca (goodIn_r _ [11, 12, 13, 14, 15, 16, 17, 18, 19, 20, 21, 22, 23, 24, 25, 26, 27, 28, 29, 30, 31, 32, 33, 34, 35, 36, 37, 38, 39, 40, 41, 42, 43, 44, 45, 46, 47, 48, 49, 50, 51, 52, 53, 54, 55, 56, 57, 58, 59, 60, 61] (by decide +kernel) (by decide +kernel)) (goodIn_sub (fun _ h => List.mem_cons_of_mem _ (List.mem_append_right _ h)) (by decide +kernel))
set_option maxRecDepth 20000 in
theorem gX11_appendLetter_X11_emptySlots : GoodIn wsX11_appendLetter (wsV RX11 125 RX11 yX11_emptySlots wsX11_emptySlots) := goodIn_app (goodIn_of _ (by decide +kernel)) ggX11_appendLetter_X11_emptySlots
set_option maxRecDepth 20000 in
theorem ggX11_clearDocument_X11_emptySlots : GoodIn wsX11_clearDocument wsX11_emptySlots := goodIn_ca (goodIn_r _ [7, 8, 9, 10, 11, 12, 13, 14, 15, 16, 17, 18, 19, 20, 21, 22, 23, 24, 25, 26, 27, 28, 29, 30, 31, 32, 33, 34, 35, 36, 37, 38, 39, 40, 41, 42, 43, 44, 45, 46, 47, 48, 49, 50, 51, 52, 53, 54, 55, 56, 57] (by decide +kernel) (by decide +kernel)) (goodIn_sub (fun _ h => List.mem_cons_of_mem _ (List.mem_append_right _ h)) (by decide +kernel))
set_option maxRecDepth 20000 in
theorem gX11_clearDocument_X11_emptySlots : GoodIn wsX11_clearDocument (wsV RX11 125 RX11 yX11_emptySlots wsX11_emptySlots) := goodIn_app (goodIn_of _ (by decide +kernel)) ggX11_clearDocument_X11_emptySlots
set_option maxRecDepth 20000 in
theorem ggX11_letter_X11_in : GoodIn wsX11_letter wsX11_in := goodIn_r _ [7] (by decide +kernel) (by decide +kernel)
set_option maxRecDepth 20000 in
theorem gX11_letter_X11_in : GoodIn wsX11_letter (va_wsS RX11 118 yX11_in wsX11_in) := goodIn_app (goodIn_of _ (by decide +kernel)) ggX11_letter_X11_in
set_option maxRecDepth 20000 in
theorem ggX11_appendCharacter_X11_in : GoodIn wsX11_appendCharacter wsX11_in := goodIn_r _ [7] (by decide +kernel) (by decide +kernel)
set_option maxRecDepth 20000 in
theorem gX11_appendCharacter_X11_in : GoodIn wsX11_appendCharacter (va_wsS RX11 118 yX11_in wsX11_in) := goodIn_app (goodIn_of _ (by decide +kernel)) ggX11_appendCharacter_X11_in
set_option maxRecDepth 20000 in
theorem ggX11_parse_X11_faultOf : GoodIn wsX11_parse wsX11_faultOf := goodIn_ca (goodIn_r _ [15, 16, 2, 4, 17, 18, 14, 19, 20, 21, 22, 23, 24, 25, 30, 31, 32, 33, 34, 35, 36, 37, 38, 39, 40, 41, 42, 43, 44, 45, 46, 47, 48, 49, 50, 51, 52, 53, 54, 55, 56, 57, 58, 59, 60, 61, 62, 63, 64, 65, 66, 67, 68, 69, 70, 71, 72, 73, 74, 75, 76, 77] (by decide +kernel) (by decide +kernel)) (goodIn_sub (fun _ h => List.mem_cons_of_mem _ (List.mem_append_right _ h)) (by decide +kernel))
set_option maxRecDepth 20000 in
theorem gX11_parse_X11_faultOf : GoodIn wsX11_parse (wsV RX11 138 RX11 yX11_faultOf wsX11_faultOf) := goodIn_app (goodIn_of _ (by decide +kernel)) ggX11_parse_X11_faultOf
set_option maxRecDepth 20000 in
theorem ggX11_extract_X11_isSlot : GoodIn wsX11_extract wsX11_isSlot := goodIn_r _ [7, 8, 9, 6, 10] (by decide +kernel) (by decide +kernel)
set_option maxRecDepth 20000 in
theorem gX11_extract_X11_isSlot : GoodIn wsX11_extract (va_wsS RX11 258 yX11_isSlot wsX11_isSlot) := goodIn_app (goodIn_of _ (by decide +kernel)) ggX11_extract_X11_isSlot
set_option maxRecDepth 20000 in
theorem ggX11_unreadable_X11_isSlot : GoodIn wsX11_unreadable wsX11_isSlot := goodIn_r _ [5, 6, 7, 4, 8] (by decide +kernel) (by decide +kernel)
set_option maxRecDepth 20000 in
theorem gX11_unreadable_X11_isSlot : GoodIn wsX11_unreadable (va_wsS RX11 258 yX11_isSlot wsX11_isSlot) := goodIn_app (goodIn_of _ (by decide +kernel)) ggX11_unreadable_X11_isSlot
set_option maxRecDepth 20000 in
theorem ggX11_size_X11_unreadable : GoodIn wsX11_size wsX11_unreadable := goodIn_ca (goodIn_r _ [7, 2, 8, 9, 6, 10, 11, 12, 13, 14, 15, 16, 17, 18, 19, 20, 21, 22, 23, 24, 25, 26, 27, 28, 29, 30, 31, 32, 33, 34, 35, 36, 37, 38, 39, 40, 41, 42, 43, 44, 45, 46, 47, 48, 49, 50, 51, 52, 53, 54, 55, 56, 57, 58, 59, 60, 61] (by decide +kernel) (by decide +kernel)) (goodIn_sub (fun _ h => List.mem_cons_of_mem _ (List.mem_append_right _ h)) (by decide +kernel))
set_option maxRecDepth 20000 in
theorem gX11_size_X11_unreadable : GoodIn wsX11_size (wsV RX11 270 RX11 yX11_unreadable wsX11_unreadable) := goodIn_app (goodIn_of _ (by decide +kernel)) ggX11_size_X11_unreadable
set_option maxRecDepth 20000 in
theorem ggX11_spanAt_X11_unreadable : GoodIn wsX11_spanAt wsX11_unreadable := goodIn_ca (goodIn_r _ [7, 2, 8, 9, 6, 10, 11, 12, 13, 25, 26, 27, 28, 29, 30, 31, 32, 33, 34, 35, 36, 37, 38, 39, 40, 41, 42, 43, 44, 45, 46, 47, 48, 49, 50, 51, 52, 53, 54, 55, 56, 57, 58, 59, 60, 61, 62, 63, 64, 65, 66, 67, 68, 69, 70, 71, 72] (by decide +kernel) (by decide +kernel)) (goodIn_sub (fun _ h => List.mem_cons_of_mem _ (List.mem_append_right _ h)) (by decide +kernel))
set_option maxRecDepth 20000 in
theorem gX11_spanAt_X11_unreadable : GoodIn wsX11_spanAt (wsV RX11 270 RX11 yX11_unreadable wsX11_unreadable) := goodIn_app (goodIn_of _ (by decide +kernel)) ggX11_spanAt_X11_unreadable
set_option maxRecDepth 20000 in
theorem ggX11_start_X11_spanAt : GoodIn wsX11_start wsX11_spanAt := goodIn_ca (goodIn_r _ [7, 1, 8, 9, 10, 11, 6, 12, 13, 14, 15, 16, 17, 18, 19, 20, 21, 22, 23, 24, 25, 26, 27, 28, 29, 30, 31, 32, 33, 34, 35, 36, 37, 38, 39, 40, 41, 42, 43, 44, 45, 46, 47, 48, 49, 50, 51, 52, 53, 54, 55, 56, 57, 58, 59, 60, 61, 62, 63, 64, 65, 66, 67, 68, 69, 70, 71, 72, 73, 74, 75, 76, 77] (by decide +kernel) (by decide +kernel)) (goodIn_sub (fun _ h => List.mem_cons_of_mem _ (List.mem_append_right _ h)) (by decide +kernel))
set_option maxRecDepth 20000 in
theorem gX11_start_X11_spanAt : GoodIn wsX11_start (wsV RX11 282 RX11 yX11_spanAt wsX11_spanAt) := goodIn_app (goodIn_of _ (by decide +kernel)) ggX11_start_X11_spanAt
set_option maxRecDepth 20000 in
theorem ggX11_end_X11_spanAt : GoodIn wsX11_end wsX11_spanAt := goodIn_ca (goodIn_r _ [7, 1, 8, 9, 10, 11, 6, 12, 13, 14, 15, 16, 17, 18, 19, 20, 21, 22, 23, 24, 25, 26, 27, 28, 29, 30, 31, 32, 33, 34, 35, 36, 37, 38, 39, 40, 41, 42, 43, 44, 45, 46, 47, 48, 49, 50, 51, 52, 53, 54, 55, 56, 57, 58, 59, 60, 61, 62, 63, 64, 65, 66, 67, 68, 69, 70, 71, 72, 73, 74, 75, 76, 77] (by decide +kernel) (by decide +kernel)) (goodIn_sub (fun _ h => List.mem_cons_of_mem _ (List.mem_append_right _ h)) (by decide +kernel))
set_option maxRecDepth 20000 in
theorem gX11_end_X11_spanAt : GoodIn wsX11_end (wsV RX11 282 RX11 yX11_spanAt wsX11_spanAt) := goodIn_app (goodIn_of _ (by decide +kernel)) ggX11_end_X11_spanAt
set_option maxRecDepth 20000 in
theorem ggX11_domain_X11_unreadable : GoodIn wsX11_domain wsX11_unreadable := goodIn_ca (goodIn_r _ [7, 2, 8, 9, 6, 10, 11, 12, 13, 22, 23, 24, 25, 26, 27, 28, 29, 30, 31, 32, 33, 34, 35, 36, 37, 38, 39, 40, 41, 42, 43, 44, 45, 46, 47, 48, 49, 50, 51, 52, 53, 54, 55, 56, 57, 58, 59, 60, 61, 62, 63, 64, 65, 66, 67, 68, 69] (by decide +kernel) (by decide +kernel)) (goodIn_sub (fun _ h => List.mem_cons_of_mem _ (List.mem_append_right _ h)) (by decide +kernel))
set_option maxRecDepth 20000 in
theorem gX11_domain_X11_unreadable : GoodIn wsX11_domain (wsV RX11 270 RX11 yX11_unreadable wsX11_unreadable) := goodIn_app (goodIn_of _ (by decide +kernel)) ggX11_domain_X11_unreadable
set_option maxRecDepth 20000 in
theorem ggX11_clear_X11_isSlot : GoodIn wsX11_clear wsX11_isSlot := goodIn_r _ [7, 8, 9, 6, 10] (by decide +kernel) (by decide +kernel)
set_option maxRecDepth 20000 in
theorem gX11_clear_X11_isSlot : GoodIn wsX11_clear (va_wsS RX11 258 yX11_isSlot wsX11_isSlot) := goodIn_app (goodIn_of _ (by decide +kernel)) ggX11_clear_X11_isSlot
set_option maxRecDepth 20000 in
theorem ggX11_unfit_X11_isSlot : GoodIn wsX11_unfit wsX11_isSlot := goodIn_r _ [5, 6, 7, 4, 8] (by decide +kernel) (by decide +kernel)
set_option maxRecDepth 20000 in
theorem gX11_unfit_X11_isSlot : GoodIn wsX11_unfit (va_wsS RX11 258 yX11_isSlot wsX11_isSlot) := goodIn_app (goodIn_of _ (by decide +kernel)) ggX11_unfit_X11_isSlot
set_option maxRecDepth 20000 in
theorem ggX11_union_X11_unfit : GoodIn wsX11_union wsX11_unfit := goodIn_ca (goodIn_r _ [6, 7, 8, 9, 5, 10, 11, 12, 13, 48, 49, 50, 51, 52, 53, 54, 55, 56, 57, 58, 59, 60, 61, 62, 63, 64, 65, 66, 67, 68, 69, 70, 71, 72, 73, 74, 75, 76, 77, 78, 79, 80, 81, 82, 83, 84, 85, 86, 87, 88, 89, 90, 91, 92, 93, 94, 95] (by decide +kernel) (by decide +kernel)) (goodIn_sub (fun _ h => List.mem_cons_of_mem _ (List.mem_append_right _ h)) (by decide +kernel))
set_option maxRecDepth 20000 in
theorem gX11_union_X11_unfit : GoodIn wsX11_union (wsV RX11 285 RX11 yX11_unfit wsX11_unfit) := goodIn_app (goodIn_of _ (by decide +kernel)) ggX11_union_X11_unfit
set_option maxRecDepth 20000 in
theorem ggX11_join_X11_unfit : GoodIn wsX11_join wsX11_unfit := goodIn_ca (goodIn_r _ [7, 2, 8, 9, 6, 10, 11, 12, 13, 58, 59, 60, 61, 62, 63, 64, 65, 66, 67, 68, 69, 70, 71, 72, 73, 74, 75, 76, 77, 78, 79, 80, 81, 82, 83, 84, 85, 86, 87, 88, 89, 90, 91, 92, 93, 94, 95, 96, 97, 98, 99, 100, 101, 102, 103, 104, 105] (by decide +kernel) (by decide +kernel)) (goodIn_sub (fun _ h => List.mem_cons_of_mem _ (List.mem_append_right _ h)) (by decide +kernel))
set_option maxRecDepth 20000 in
theorem gX11_join_X11_unfit : GoodIn wsX11_join (wsV RX11 285 RX11 yX11_unfit wsX11_unfit) := goodIn_app (goodIn_of _ (by decide +kernel)) ggX11_join_X11_unfit
set_option maxRecDepth 20000 in
theorem ggX11_minus_X11_unfit : GoodIn wsX11_minus wsX11_unfit := goodIn_ca (goodIn_r _ [7, 2, 8, 9, 6, 10, 11, 12, 13, 52, 53, 54, 55, 56, 57, 58, 59, 60, 61, 62, 63, 64, 65, 66, 67, 68, 69, 70, 71, 72, 73, 74, 75, 76, 77, 78, 79, 80, 81, 82, 83, 84, 85, 86, 87, 88, 89, 90, 91, 92, 93, 94, 95, 96, 97, 98, 99] (by decide +kernel) (by decide +kernel)) (goodIn_sub (fun _ h => List.mem_cons_of_mem _ (List.mem_append_right _ h)) (by decide +kernel))
set_option maxRecDepth 20000 in
theorem gX11_minus_X11_unfit : GoodIn wsX11_minus (wsV RX11 285 RX11 yX11_unfit wsX11_unfit) := goodIn_app (goodIn_of _ (by decide +kernel)) ggX11_minus_X11_unfit
set_option maxRecDepth 20000 in
theorem ggX11_antijoin_X11_unfit : GoodIn wsX11_antijoin wsX11_unfit := goodIn_ca (goodIn_r _ [7, 2, 8, 9, 6, 10, 11, 12, 13, 58, 59, 60, 61, 62, 63, 64, 65, 66, 67, 68, 69, 70, 71, 72, 73, 74, 75, 76, 77, 78, 79, 80, 81, 82, 83, 84, 85, 86, 87, 88, 89, 90, 91, 92, 93, 94, 95, 96, 97, 98, 99, 100, 101, 102, 103, 104, 105] (by decide +kernel) (by decide +kernel)) (goodIn_sub (fun _ h => List.mem_cons_of_mem _ (List.mem_append_right _ h)) (by decide +kernel))
set_option maxRecDepth 20000 in
theorem gX11_antijoin_X11_unfit : GoodIn wsX11_antijoin (wsV RX11 285 RX11 yX11_unfit wsX11_unfit) := goodIn_app (goodIn_of _ (by decide +kernel)) ggX11_antijoin_X11_unfit
set_option maxRecDepth 20000 in
theorem ggX11_project_X11_isSlot : GoodIn wsX11_project wsX11_isSlot := goodIn_r _ [6, 7, 8, 5, 9] (by decide +kernel) (by decide +kernel)
set_option maxRecDepth 20000 in
theorem gX11_project_X11_isSlot : GoodIn wsX11_project (va_wsS RX11 258 yX11_isSlot wsX11_isSlot) := goodIn_app (goodIn_of _ (by decide +kernel)) ggX11_project_X11_isSlot
set_option maxRecDepth 20000 in
theorem ggX11_project_X11_in : GoodIn wsX11_project wsX11_in := goodIn_r _ [9] (by decide +kernel) (by decide +kernel)
set_option maxRecDepth 20000 in
theorem gX11_project_X11_in : GoodIn wsX11_project (va_wsS RX11 118 yX11_in wsX11_in) := goodIn_app (goodIn_of _ (by decide +kernel)) ggX11_project_X11_in
set_option maxRecDepth 20000 in
theorem ggX11_unfitPair_X11_isSlot : GoodIn wsX11_unfitPair wsX11_isSlot := goodIn_r _ [5, 6, 7, 4, 8] (by decide +kernel) (by decide +kernel)
set_option maxRecDepth 20000 in
theorem gX11_unfitPair_X11_isSlot : GoodIn wsX11_unfitPair (va_wsS RX11 258 yX11_isSlot wsX11_isSlot) := goodIn_app (goodIn_of _ (by decide +kernel)) ggX11_unfitPair_X11_isSlot
set_option maxRecDepth 20000 in
theorem ggX11_unfitPair_X11_isVariable : GoodIn wsX11_unfitPair wsX11_isVariable := goodIn_r _ [11, 6, 7, 4, 8] (by decide +kernel) (by decide +kernel)
set_option maxRecDepth 20000 in
theorem gX11_unfitPair_X11_isVariable : GoodIn wsX11_unfitPair (va_wsS RX11 273 yX11_isVariable wsX11_isVariable) := goodIn_app (goodIn_of _ (by decide +kernel)) ggX11_unfitPair_X11_isVariable
set_option maxRecDepth 20000 in
theorem ggX11_exchange_X11_unfitPair : GoodIn wsX11_exchange wsX11_unfitPair := goodIn_ca (goodIn_r _ [7, 2, 8, 9, 6, 10, 11, 12, 13, 14, 15, 16, 50, 51, 52, 53, 54, 55, 56, 57, 58, 59, 60, 61, 62, 63, 64, 65, 66, 67, 68, 69, 70, 71, 72, 73, 74, 75, 76, 77, 78, 79, 80, 81, 82, 83, 84, 85, 86, 87, 88, 89, 90, 91, 92, 93, 94, 95, 96, 97] (by decide +kernel) (by decide +kernel)) (goodIn_sub (fun _ h => List.mem_cons_of_mem _ (List.mem_append_right _ h)) (by decide +kernel))
set_option maxRecDepth 20000 in
theorem gX11_exchange_X11_unfitPair : GoodIn wsX11_exchange (wsV RX11 307 RX11 yX11_unfitPair wsX11_unfitPair) := goodIn_app (goodIn_of _ (by decide +kernel)) ggX11_exchange_X11_unfitPair
set_option maxRecDepth 20000 in
theorem ggX11_selectEqual_X11_unfitPair : GoodIn wsX11_selectEqual wsX11_unfitPair := goodIn_ca (goodIn_r _ [7, 2, 8, 9, 6, 10, 11, 12, 13, 14, 15, 16, 61, 62, 63, 64, 65, 66, 67, 68, 69, 70, 71, 72, 73, 74, 75, 76, 77, 78, 79, 80, 81, 82, 83, 84, 85, 86, 87, 88, 89, 90, 91, 92, 93, 94, 95, 96, 97, 98, 99, 100, 101, 102, 103, 104, 105, 106, 107, 108] (by decide +kernel) (by decide +kernel)) (goodIn_sub (fun _ h => List.mem_cons_of_mem _ (List.mem_append_right _ h)) (by decide +kernel))
set_option maxRecDepth 20000 in
theorem gX11_selectEqual_X11_unfitPair : GoodIn wsX11_selectEqual (wsV RX11 307 RX11 yX11_unfitPair wsX11_unfitPair) := goodIn_app (goodIn_of _ (by decide +kernel)) ggX11_selectEqual_X11_unfitPair
set_option maxRecDepth 20000 in
theorem ggX11_selectLength_X11_unfitPair : GoodIn wsX11_selectLength wsX11_unfitPair := goodIn_ca (goodIn_r _ [9, 2, 10, 11, 8, 12, 13, 14, 15, 16, 17, 18, 56, 57, 58, 59, 60, 61, 62, 63, 64, 65, 66, 67, 68, 69, 70, 71, 72, 73, 74, 75, 76, 77, 78, 79, 80, 81, 82, 83, 84, 85, 86, 87, 88, 89, 90, 91, 92, 93, 94, 95, 96, 97, 98, 99, 100, 101, 102, 103] (by decide +kernel) (by decide +kernel)) (goodIn_sub (fun _ h => List.mem_cons_of_mem _ (List.mem_append_right _ h)) (by decide +kernel))
set_option maxRecDepth 20000 in
theorem gX11_selectLength_X11_unfitPair : GoodIn wsX11_selectLength (wsV RX11 307 RX11 yX11_unfitPair wsX11_unfitPair) := goodIn_app (goodIn_of _ (by decide +kernel)) ggX11_selectLength_X11_unfitPair
set_option maxRecDepth 20000 in
theorem ggX11_selectRelation_X11_unfitPair : GoodIn wsX11_selectRelation wsX11_unfitPair := goodIn_ca (goodIn_r _ [7, 2, 8, 9, 6, 10, 11, 12, 13, 14, 15, 16, 60, 61, 62, 63, 64, 65, 66, 67, 68, 69, 70, 71, 72, 73, 74, 75, 76, 77, 78, 79, 80, 81, 82, 83, 84, 85, 86, 87, 88, 89, 90, 91, 92, 93, 94, 95, 96, 97, 98, 99, 100, 101, 102, 103, 104, 105, 106, 107] (by decide +kernel) (by decide +kernel)) (goodIn_sub (fun _ h => List.mem_cons_of_mem _ (List.mem_append_right _ h)) (by decide +kernel))
set_option maxRecDepth 20000 in
theorem gX11_selectRelation_X11_unfitPair : GoodIn wsX11_selectRelation (wsV RX11 307 RX11 yX11_unfitPair wsX11_unfitPair) := goodIn_app (goodIn_of _ (by decide +kernel)) ggX11_selectRelation_X11_unfitPair
set_option maxRecDepth 20000 in
theorem ggX11_selectRelation_X11_in : GoodIn wsX11_selectRelation wsX11_in := goodIn_r _ [13] (by decide +kernel) (by decide +kernel)
set_option maxRecDepth 20000 in
theorem gX11_selectRelation_X11_in : GoodIn wsX11_selectRelation (va_wsS RX11 118 yX11_in wsX11_in) := goodIn_app (goodIn_of _ (by decide +kernel)) ggX11_selectRelation_X11_in
set_option maxRecDepth 20000 in
theorem ggX11_contained_X11_isSlot : GoodIn wsX11_contained wsX11_isSlot := goodIn_r _ [6, 7, 8, 5, 9] (by decide +kernel) (by decide +kernel)
set_option maxRecDepth 20000 in
theorem gX11_contained_X11_isSlot : GoodIn wsX11_contained (va_wsS RX11 258 yX11_isSlot wsX11_isSlot) := goodIn_app (goodIn_of _ (by decide +kernel)) ggX11_contained_X11_isSlot
set_option maxRecDepth 20000 in
theorem ggX11_disjoint_X11_unreadable : GoodIn wsX11_disjoint wsX11_unreadable := goodIn_ca (goodIn_r _ [9, 10, 11, 12, 8, 13, 14, 15, 16, 29, 30, 31, 32, 33, 34, 35, 36, 37, 38, 39, 40, 41, 42, 43, 44, 45, 46, 47, 48, 49, 50, 51, 52, 53, 54, 55, 56, 57, 58, 59, 60, 61, 62, 63, 64, 65, 66, 67, 68, 69, 70, 71, 72, 73, 74, 75, 76] (by decide +kernel) (by decide +kernel)) (goodIn_sub (fun _ h => List.mem_cons_of_mem _ (List.mem_append_right _ h)) (by decide +kernel))
set_option maxRecDepth 20000 in
theorem gX11_disjoint_X11_unreadable : GoodIn wsX11_disjoint (wsV RX11 270 RX11 yX11_unreadable wsX11_unreadable) := goodIn_app (goodIn_of _ (by decide +kernel)) ggX11_disjoint_X11_unreadable
set_option maxRecDepth 20000 in
theorem ggX11_extractSplit_X11_isSlot : GoodIn wsX11_extractSplit wsX11_isSlot := goodIn_r _ [7, 8, 9, 6, 10] (by decide +kernel) (by decide +kernel)
set_option maxRecDepth 20000 in
theorem gX11_extractSplit_X11_isSlot : GoodIn wsX11_extractSplit (va_wsS RX11 258 yX11_isSlot wsX11_isSlot) := goodIn_app (goodIn_of _ (by decide +kernel)) ggX11_extractSplit_X11_isSlot
set_option maxRecDepth 20000 in
theorem ggX11_splitCorrect_X11_isSlot : GoodIn wsX11_splitCorrect wsX11_isSlot := goodIn_r _ [16, 17, 18, 15, 19] (by decide +kernel) (by decide +kernel)
set_option maxRecDepth 20000 in
theorem gX11_splitCorrect_X11_isSlot : GoodIn wsX11_splitCorrect (va_wsS RX11 258 yX11_isSlot wsX11_isSlot) := goodIn_app (goodIn_of _ (by decide +kernel)) ggX11_splitCorrect_X11_isSlot
set_option maxRecDepth 20000 in
theorem ggX11_openCursor_X11_unreadable : GoodIn wsX11_openCursor wsX11_unreadable := goodIn_ca (goodIn_r _ [9, 4, 10, 11, 8, 12, 13, 14, 15, 16, 17, 18, 19, 20, 21, 22, 23, 24, 25, 26, 27, 28, 29, 30, 31, 32, 33, 34, 35, 36, 37, 38, 39, 40, 41, 42, 43, 44, 45, 46, 47, 48, 49, 50, 51, 52, 53, 54, 55, 56, 57, 58, 59, 60, 61, 62, 63] (by decide +kernel) (by decide +kernel)) (goodIn_sub (fun _ h => List.mem_cons_of_mem _ (List.mem_append_right _ h)) (by decide +kernel))
set_option maxRecDepth 20000 in
theorem gX11_openCursor_X11_unreadable : GoodIn wsX11_openCursor (wsV RX11 270 RX11 yX11_unreadable wsX11_unreadable) := goodIn_app (goodIn_of _ (by decide +kernel)) ggX11_openCursor_X11_unreadable
set_option maxRecDepth 20000 in
theorem ggX11_setWeight_X11_isVariable : GoodIn wsX11_setWeight wsX11_isVariable := goodIn_r _ [6, 7, 8, 5, 9] (by decide +kernel) (by decide +kernel)
set_option maxRecDepth 20000 in
theorem gX11_setWeight_X11_isVariable : GoodIn wsX11_setWeight (va_wsS RX11 273 yX11_isVariable wsX11_isVariable) := goodIn_app (goodIn_of _ (by decide +kernel)) ggX11_setWeight_X11_isVariable
set_option maxRecDepth 20000 in
theorem ggX11_score_X11_unreadable : GoodIn wsX11_score wsX11_unreadable := goodIn_ca (goodIn_r _ [8, 2, 9, 10, 7, 11, 12, 13, 14, 37, 38, 39, 40, 41, 42, 43, 44, 45, 46, 47, 48, 49, 50, 51, 52, 53, 54, 55, 56, 57, 58, 59, 60, 61, 62, 63, 64, 65, 66, 67, 68, 69, 70, 71, 72, 73, 74, 75, 76, 77, 78, 79, 80, 81, 82, 83, 84] (by decide +kernel) (by decide +kernel)) (goodIn_sub (fun _ h => List.mem_cons_of_mem _ (List.mem_append_right _ h)) (by decide +kernel))
set_option maxRecDepth 20000 in
theorem gX11_score_X11_unreadable : GoodIn wsX11_score (wsV RX11 270 RX11 yX11_unreadable wsX11_unreadable) := goodIn_app (goodIn_of _ (by decide +kernel)) ggX11_score_X11_unreadable
set_option maxRecDepth 20000 in
theorem ggX11_classes_X11_unreadable : GoodIn wsX11_classes wsX11_unreadable := goodIn_ca (goodIn_r _ [7, 8, 9, 10, 6, 11, 12, 13, 14, 43, 44, 45, 46, 47, 48, 49, 50, 51, 52, 53, 54, 55, 56, 57, 58, 59, 60, 61, 62, 63, 64, 65, 66, 67, 68, 69, 70, 71, 72, 73, 74, 75, 76, 77, 78, 79, 80, 81, 82, 83, 84, 85, 86, 87, 88, 89, 90] (by decide +kernel) (by decide +kernel)) (goodIn_sub (fun _ h => List.mem_cons_of_mem _ (List.mem_append_right _ h)) (by decide +kernel))
set_option maxRecDepth 20000 in
theorem gX11_classes_X11_unreadable : GoodIn wsX11_classes (wsV RX11 270 RX11 yX11_unreadable wsX11_unreadable) := goodIn_app (goodIn_of _ (by decide +kernel)) ggX11_classes_X11_unreadable
set_option maxRecDepth 20000 in
theorem ggX11_rank_X11_unreadable : GoodIn wsX11_rank wsX11_unreadable := goodIn_ca (goodIn_r _ [8, 2, 9, 10, 7, 11, 12, 13, 14, 42, 43, 44, 45, 46, 47, 48, 49, 50, 51, 52, 53, 54, 55, 56, 57, 58, 59, 60, 61, 62, 63, 64, 65, 66, 67, 68, 69, 70, 71, 72, 73, 74, 75, 76, 77, 78, 79, 80, 81, 82, 83, 84, 85, 86, 87, 88, 89] (by decide +kernel) (by decide +kernel)) (goodIn_sub (fun _ h => List.mem_cons_of_mem _ (List.mem_append_right _ h)) (by decide +kernel))
set_option maxRecDepth 20000 in
theorem gX11_rank_X11_unreadable : GoodIn wsX11_rank (wsV RX11 270 RX11 yX11_unreadable wsX11_unreadable) := goodIn_app (goodIn_of _ (by decide +kernel)) ggX11_rank_X11_unreadable
set_option maxRecDepth 20000 in
theorem ggX11_best_X11_unreadable : GoodIn wsX11_best wsX11_unreadable := goodIn_ca (goodIn_r _ [8, 2, 9, 10, 7, 11, 12, 13, 14, 38, 39, 40, 41, 42, 43, 44, 45, 46, 47, 48, 49, 50, 51, 52, 53, 54, 55, 56, 57, 58, 59, 60, 61, 62, 63, 64, 65, 66, 67, 68, 69, 70, 71, 72, 73, 74, 75, 76, 77, 78, 79, 80, 81, 82, 83, 84, 85] (by decide +kernel) (by decide +kernel)) (goodIn_sub (fun _ h => List.mem_cons_of_mem _ (List.mem_append_right _ h)) (by decide +kernel))
set_option maxRecDepth 20000 in
theorem gX11_best_X11_unreadable : GoodIn wsX11_best (wsV RX11 270 RX11 yX11_unreadable wsX11_unreadable) := goodIn_app (goodIn_of _ (by decide +kernel)) ggX11_best_X11_unreadable
set_option maxRecDepth 20000 in
theorem ggX11_total_X11_unreadable : GoodIn wsX11_total wsX11_unreadable := goodIn_ca (goodIn_r _ [8, 2, 9, 10, 7, 11, 12, 13, 14, 33, 34, 35, 36, 37, 38, 39, 40, 41, 42, 43, 44, 45, 46, 47, 48, 49, 50, 51, 52, 53, 54, 55, 56, 57, 58, 59, 60, 61, 62, 63, 64, 65, 66, 67, 68, 69, 70, 71, 72, 73, 74, 75, 76, 77, 78, 79, 80] (by decide +kernel) (by decide +kernel)) (goodIn_sub (fun _ h => List.mem_cons_of_mem _ (List.mem_append_right _ h)) (by decide +kernel))
set_option maxRecDepth 20000 in
theorem gX11_total_X11_unreadable : GoodIn wsX11_total (wsV RX11 270 RX11 yX11_unreadable wsX11_unreadable) := goodIn_app (goodIn_of _ (by decide +kernel)) ggX11_total_X11_unreadable
set_option maxRecDepth 20000 in
theorem ggX11_save_X11_tablesThere : GoodIn wsX11_save wsX11_tablesThere := goodIn_ca (goodIn_r _ [25, 14, 26, 27, 28, 29, 30, 31, 32, 33, 34, 35, 36, 37, 38, 39, 40, 41, 42, 43, 44, 45, 46, 47, 48, 49, 50, 51, 52, 53, 54, 55, 56, 57, 58, 59, 60, 61, 62, 63, 64, 65, 66, 67, 68, 69, 70, 71, 72, 73] (by decide +kernel) (by decide +kernel)) (goodIn_sub (fun _ h => List.mem_cons_of_mem _ (List.mem_append_right _ h)) (by decide +kernel))
set_option maxRecDepth 20000 in
theorem gX11_save_X11_tablesThere : GoodIn wsX11_save (wsV RX11 359 RX11 yX11_tablesThere wsX11_tablesThere) := goodIn_app (goodIn_of _ (by decide +kernel)) ggX11_save_X11_tablesThere
set_option maxRecDepth 20000 in
theorem ggL_appendLetter_X10_appendLetter : GoodIn wsL_appendLetter wsX10_appendLetter := goodIn_ca (goodIn_ca (goodIn_ca (goodIn_r _ [7, 8, 9, 10, 11, 12, 13, 14, 15, 16, 17, 6, 18, 19, 20, 21, 22, 23, 24, 25, 26, 27, 28, 29, 30, 31, 32, 33, 34, 35, 36, 37, 38, 39, 40] (by decide +kernel) (by decide +kernel)) (goodIn_sub (fun _ h => List.mem_cons_of_mem _ (List.mem_append_left _ (List.mem_append_right _ h))) (by decide +kernel))) (goodIn_sub (fun _ h => List.mem_cons_of_mem _ (List.mem_append_right _ h)) (by decide +kernel))) (goodIn_sub (fun _ h => List.mem_cons_of_mem _ (List.mem_append_left _ (List.mem_append_left _ (List.mem_append_right _ h)))) (by decide +kernel))
set_option maxRecDepth 20000 in
theorem gL_appendLetter_X10_appendLetter : GoodIn wsL_appendLetter (wsV RL 7 RX10 yX10_appendLetter wsX10_appendLetter) := goodIn_app (goodIn_of _ (by decide +kernel)) ggL_appendLetter_X10_appendLetter
set_option maxRecDepth 20000 in
theorem ggL_letter_X10_letter : GoodIn wsL_letter wsX10_letter := goodIn_ca (goodIn_ca (goodIn_r _ [6, 7, 8, 9, 10, 11, 12, 13, 14, 15, 16, 17, 18, 19, 20, 21, 22, 23, 24, 25, 26, 27, 28, 29, 30, 31] (by decide +kernel) (by decide +kernel)) (goodIn_sub (fun _ h => List.mem_cons_of_mem _ (List.mem_append_right _ h)) (by decide +kernel))) (goodIn_sub (fun _ h => List.mem_cons_of_mem _ (List.mem_append_left _ (List.mem_append_right _ h))) (by decide +kernel))
set_option maxRecDepth 20000 in
theorem gL_letter_X10_letter : GoodIn wsL_letter (wsV RL 17 RX10 yX10_letter wsX10_letter) := goodIn_app (goodIn_of _ (by decide +kernel)) ggL_letter_X10_letter
set_option maxRecDepth 20000 in
theorem ggL_appendCharacter_X10_appendCharacter : GoodIn wsL_appendCharacter wsX10_appendCharacter := goodIn_ca (goodIn_ca (goodIn_ca (goodIn_r _ [7, 8, 9, 10, 11, 12, 13, 14, 15, 16, 17, 18, 19, 20, 21, 22, 23, 24, 25, 26, 27] (by decide +kernel) (by decide +kernel)) (goodIn_sub (fun _ h => List.mem_cons_of_mem _ (List.mem_append_left _ (List.mem_append_right _ h))) (by decide +kernel))) (goodIn_sub (fun _ h => List.mem_cons_of_mem _ (List.mem_append_right _ h)) (by decide +kernel))) (goodIn_sub (fun _ h => List.mem_cons_of_mem _ (List.mem_append_left _ (List.mem_append_left _ (List.mem_append_right _ h)))) (by decide +kernel))
set_option maxRecDepth 20000 in
theorem gL_appendCharacter_X10_appendCharacter : GoodIn wsL_appendCharacter (wsV RL 22 RX10 yX10_appendCharacter wsX10_appendCharacter) := goodIn_app (goodIn_of _ (by decide +kernel)) ggL_appendCharacter_X10_appendCharacter
set_option maxRecDepth 20000 in
theorem ggL_parse_X10_parse : GoodIn wsL_parse wsX10_parse := goodIn_ca (goodIn_ca (goodIn_r _ [6, 7, 8, 9, 10, 11, 12, 13, 14, 15, 16, 17, 18, 19, 20, 21, 22, 23, 24, 25, 26, 27, 28, 29, 30, 31, 32, 33, 34, 35, 36, 37, 38, 39, 40, 41, 42, 43, 44, 45, 46, 47, 48, 49, 50, 51, 52, 53, 54, 55, 56, 57, 58, 59, 60, 61, 62, 63, 64, 65, 66, 67, 68, 69, 70, 71, 72, 73, 74, 75, 76, 77, 78, 79, 80, 81, 82, 83, 84, 85, 86, 87, 88, 89, 90, 91, 92, 93, 94, 95, 96, 97, 98, 99, 100, 101, 102, 103, 104, 105, 106, 107, 108, 109, 110, 111, 112, 113, 114, 115, 116, 117, 118, 119, 120, 121, 122, 123, 124, 125, 126, 127, 128, 129, 130, 131, 132, 133, 134, 135, 136, 137, 138, 139, 140, 141, 142, 143, 144, 145, 146, 147, 148, 149, 150, 151, 152, 153, 154, 155, 156, 157, 158, 159, 160, 161, 162, 163, 164, 165, 166, 167, 168, 169, 170, 171, 172, 173, 174, 175, 176, 177, 178, 179, 180, 181, 182, 183, 184, 185, 186, 187, 188, 189, 190, 191, 192, 193, 194, 195, 196, 197, 198, 199, 200, 201] (by decide +kernel) (by decide +kernel)) (goodIn_sub (fun _ h => List.mem_cons_of_mem _ (List.mem_append_right _ h)) (by decide +kernel))) (goodIn_sub (fun _ h => List.mem_cons_of_mem _ (List.mem_append_left _ (List.mem_append_right _ h))) (by decide +kernel))
set_option maxRecDepth 20000 in
theorem gL_parse_X10_parse : GoodIn wsL_parse (wsV RL 25 RX10 yX10_parse wsX10_parse) := goodIn_app (goodIn_of _ (by decide +kernel)) ggL_parse_X10_parse
set_option maxRecDepth 20000 in
theorem ggL_formulaVariables_X10_formulaVariables : GoodIn wsL_formulaVariables wsX10_formulaVariables := goodIn_ca (goodIn_r _ [6, 7, 8, 9, 10, 5, 11, 12, 13, 14, 15, 16, 17, 18, 19, 20, 21, 22, 23, 24, 25, 26, 27, 28, 29, 30, 31, 32, 33, 34, 35, 36, 37, 38, 39, 40, 41, 42, 43] (by decide +kernel) (by decide +kernel)) (goodIn_sub (fun _ h => List.mem_cons_of_mem _ (List.mem_append_right _ h)) (by decide +kernel))
set_option maxRecDepth 20000 in
theorem gL_formulaVariables_X10_formulaVariables : GoodIn wsL_formulaVariables (wsV RL 29 RX10 yX10_formulaVariables wsX10_formulaVariables) := goodIn_app (goodIn_of _ (by decide +kernel)) ggL_formulaVariables_X10_formulaVariables
set_option maxRecDepth 20000 in
theorem ggL_formulaKind_X10_formulaKind : GoodIn wsL_formulaKind wsX10_formulaKind := goodIn_ca (goodIn_r _ [6, 7, 8, 9, 10, 5, 11, 12, 13, 14, 15, 16, 17, 18, 19, 20, 21, 22, 23, 24, 25, 26, 27, 28, 29, 30, 31, 32, 33, 34, 35, 36, 37, 38, 39, 40, 41, 42, 43] (by decide +kernel) (by decide +kernel)) (goodIn_sub (fun _ h => List.mem_cons_of_mem _ (List.mem_append_right _ h)) (by decide +kernel))
set_option maxRecDepth 20000 in
theorem gL_formulaKind_X10_formulaKind : GoodIn wsL_formulaKind (wsV RL 32 RX10 yX10_formulaKind wsX10_formulaKind) := goodIn_app (goodIn_of _ (by decide +kernel)) ggL_formulaKind_X10_formulaKind
set_option maxRecDepth 20000 in
theorem ggL_extract_X10_extract : GoodIn wsL_extract wsX10_extract := goodIn_ca (goodIn_ca (goodIn_ca (goodIn_r _ [7, 8, 9, 10, 11, 12, 13, 14, 6, 15, 16, 17, 18, 19, 20, 21, 22, 23, 24, 25, 26, 27, 28, 29, 30, 31, 32, 33, 34, 35, 36, 37, 38, 39, 40, 41, 42, 43, 44, 45, 46, 47, 48, 49, 50, 51, 52, 53, 54, 55, 56, 57, 58, 59, 60, 61, 62, 63, 64, 65, 66, 67, 68, 69, 70, 71, 72, 73, 74, 75, 76, 77, 78, 79, 80, 81, 82, 83, 84, 85, 86, 87, 88, 89, 90, 91, 92, 93, 94, 95, 96, 97, 98, 99, 100, 101, 102, 103, 104, 105, 106, 107, 108, 109, 110, 111, 112, 113, 114, 115, 116, 117, 118, 119, 120, 121, 122, 123, 124, 125, 126, 127, 128, 129, 130, 131, 132, 133, 134, 135, 136, 137, 138, 139, 140, 141, 142, 143, 144, 145, 146, 147, 148, 149, 150, 151, 152, 153, 154, 155, 156, 157, 158, 159, 160, 161, 162, 163, 164, 165, 166, 167, 168, 169, 170, 171, 172, 173, 174, 175, 176, 177, 178, 179, 180, 181, 182, 183, 184, 185, 186, 187, 188, 189, 190, 191, 192, 193] (by decide +kernel) (by decide +kernel)) (goodIn_sub (fun _ h => List.mem_cons_of_mem _ (List.mem_append_left _ (List.mem_append_right _ h))) (by decide +kernel))) (goodIn_sub (fun _ h => List.mem_cons_of_mem _ (List.mem_append_right _ h)) (by decide +kernel))) (goodIn_sub (fun _ h => List.mem_cons_of_mem _ (List.mem_append_left _ (List.mem_append_left _ (List.mem_append_right _ h)))) (by decide +kernel))
set_option maxRecDepth 20000 in
theorem gL_extract_X10_extract : GoodIn wsL_extract (wsV RL 35 RX10 yX10_extract wsX10_extract) := goodIn_app (goodIn_of _ (by decide +kernel)) ggL_extract_X10_extract
set_option maxRecDepth 20000 in
theorem ggL_size_X10_size : GoodIn wsL_size wsX10_size := goodIn_ca (goodIn_ca (goodIn_ca (goodIn_r _ [7, 8, 9, 10, 11, 6, 12, 13, 14, 15, 16, 17, 18, 19, 20, 21, 22, 23, 24, 25, 26, 27, 28, 29, 30, 31, 32, 33, 34, 35, 36, 37, 38, 39, 40, 41, 42, 43, 44, 45] (by decide +kernel) (by decide +kernel)) (goodIn_sub (fun _ h => List.mem_cons_of_mem _ (List.mem_append_left _ (List.mem_append_left _ (List.mem_append_right _ h)))) (by decide +kernel))) (goodIn_sub (fun _ h => List.mem_cons_of_mem _ (List.mem_append_left _ (List.mem_append_right _ h))) (by decide +kernel))) (goodIn_sub (fun _ h => List.mem_cons_of_mem _ (List.mem_append_right _ h)) (by decide +kernel))
set_option maxRecDepth 20000 in
theorem gL_size_X10_size : GoodIn wsL_size (wsV RL 38 RX10 yX10_size wsX10_size) := goodIn_app (goodIn_of _ (by decide +kernel)) ggL_size_X10_size
set_option maxRecDepth 20000 in
theorem ggL_start_X10_start : GoodIn wsL_start wsX10_start := goodIn_ca (goodIn_ca (goodIn_ca (goodIn_r _ [7, 8, 9, 10, 6, 11, 12, 13, 14, 15, 16, 17, 18, 19, 20, 21, 22, 23, 24, 25, 26, 27, 28, 29, 30, 31, 32, 33, 34, 35, 36, 37, 38, 39, 40, 41, 42, 43, 44, 45, 46, 47, 48, 49, 50, 51, 52, 53, 54, 55, 56, 57, 58, 59, 60, 61, 62, 63, 64, 65, 66, 67] (by decide +kernel) (by decide +kernel)) (goodIn_sub (fun _ h => List.mem_cons_of_mem _ (List.mem_append_left _ (List.mem_append_left _ (List.mem_append_right _ h)))) (by decide +kernel))) (goodIn_sub (fun _ h => List.mem_cons_of_mem _ (List.mem_append_left _ (List.mem_append_right _ h))) (by decide +kernel))) (goodIn_sub (fun _ h => List.mem_cons_of_mem _ (List.mem_append_right _ h)) (by decide +kernel))
set_option maxRecDepth 20000 in
theorem gL_start_X10_start : GoodIn wsL_start (wsV RL 41 RX10 yX10_start wsX10_start) := goodIn_app (goodIn_of _ (by decide +kernel)) ggL_start_X10_start
set_option maxRecDepth 20000 in
theorem ggL_end_X10_end : GoodIn wsL_end wsX10_end := goodIn_ca (goodIn_ca (goodIn_ca (goodIn_r _ [7, 8, 9, 10, 6, 11, 12, 13, 14, 15, 16, 17, 18, 19, 20, 21, 22, 23, 24, 25, 26, 27, 28, 29, 30, 31, 32, 33, 34, 35, 36, 37, 38, 39, 40, 41, 42, 43, 44, 45, 46, 47, 48, 49, 50, 51, 52, 53, 54, 55, 56, 57, 58, 59, 60, 61, 62, 63, 64, 65, 66, 67] (by decide +kernel) (by decide +kernel)) (goodIn_sub (fun _ h => List.mem_cons_of_mem _ (List.mem_append_left _ (List.mem_append_left _ (List.mem_append_right _ h)))) (by decide +kernel))) (goodIn_sub (fun _ h => List.mem_cons_of_mem _ (List.mem_append_left _ (List.mem_append_right _ h))) (by decide +kernel))) (goodIn_sub (fun _ h => List.mem_cons_of_mem _ (List.mem_append_right _ h)) (by decide +kernel))
set_option maxRecDepth 20000 in
theorem gL_end_X10_end : GoodIn wsL_end (wsV RL 45 RX10 yX10_end wsX10_end) := goodIn_app (goodIn_of _ (by decide +kernel)) ggL_end_X10_end
set_option maxRecDepth 20000 in
theorem ggL_domain_X10_domain : GoodIn wsL_domain wsX10_domain := goodIn_ca (goodIn_ca (goodIn_ca (goodIn_r _ [7, 8, 9, 10, 11, 12, 6, 13, 14, 15, 16, 17, 18, 19, 20, 21, 22, 23, 24, 25, 26, 27, 28, 29, 30, 31, 32, 33, 34, 35, 36, 37, 38, 39, 40, 41, 42, 43, 44, 45, 46, 47, 48, 49, 50, 51, 52, 53, 54, 55, 56] (by decide +kernel) (by decide +kernel)) (goodIn_sub (fun _ h => List.mem_cons_of_mem _ (List.mem_append_left _ (List.mem_append_left _ (List.mem_append_right _ h)))) (by decide +kernel))) (goodIn_sub (fun _ h => List.mem_cons_of_mem _ (List.mem_append_left _ (List.mem_append_right _ h))) (by decide +kernel))) (goodIn_sub (fun _ h => List.mem_cons_of_mem _ (List.mem_append_right _ h)) (by decide +kernel))
set_option maxRecDepth 20000 in
theorem gL_domain_X10_domain : GoodIn wsL_domain (wsV RL 48 RX10 yX10_domain wsX10_domain) := goodIn_app (goodIn_of _ (by decide +kernel)) ggL_domain_X10_domain
set_option maxRecDepth 20000 in
theorem ggL_clear_X10_clear : GoodIn wsL_clear wsX10_clear := goodIn_ca (goodIn_ca (goodIn_r _ [6, 7, 8, 9, 10, 11, 12, 5, 13, 14, 15, 16, 17, 18, 19, 20, 21, 22, 23, 24, 25, 26, 27, 28, 29, 30, 31, 32, 33, 34, 35, 36, 37, 38, 39, 40, 41, 42, 43] (by decide +kernel) (by decide +kernel)) (goodIn_sub (fun _ h => List.mem_cons_of_mem _ (List.mem_append_left _ (List.mem_append_right _ h))) (by decide +kernel))) (goodIn_sub (fun _ h => List.mem_cons_of_mem _ (List.mem_append_right _ h)) (by decide +kernel))
set_option maxRecDepth 20000 in
theorem gL_clear_X10_clear : GoodIn wsL_clear (wsV RL 51 RX10 yX10_clear wsX10_clear) := goodIn_app (goodIn_of _ (by decide +kernel)) ggL_clear_X10_clear
set_option maxRecDepth 20000 in
theorem ggL_union_X10_union : GoodIn wsL_union wsX10_union := goodIn_ca (goodIn_ca (goodIn_ca (goodIn_r _ [7, 8, 9, 10, 11, 12, 6, 13, 14, 15, 16, 17, 18, 19, 20, 21, 22, 23, 24, 25, 26, 27, 28, 29, 30, 31, 32, 33, 34, 35, 36, 37, 38, 39, 40, 41, 42, 43, 44, 45, 46, 47, 48, 49, 50, 51, 52, 53, 54, 55, 56, 57, 58, 59, 60, 61, 62, 63, 64, 65, 66, 67, 68, 69, 70, 71, 72, 73, 74, 75, 76, 77, 78, 79, 80] (by decide +kernel) (by decide +kernel)) (goodIn_sub (fun _ h => List.mem_cons_of_mem _ (List.mem_append_left _ (List.mem_append_left _ (List.mem_append_right _ h)))) (by decide +kernel))) (goodIn_sub (fun _ h => List.mem_cons_of_mem _ (List.mem_append_left _ (List.mem_append_right _ h))) (by decide +kernel))) (goodIn_sub (fun _ h => List.mem_cons_of_mem _ (List.mem_append_right _ h)) (by decide +kernel))
set_option maxRecDepth 20000 in
theorem gL_union_X10_union : GoodIn wsL_union (wsV RL 54 RX10 yX10_union wsX10_union) := goodIn_app (goodIn_of _ (by decide +kernel)) ggL_union_X10_union
set_option maxRecDepth 20000 in
theorem ggL_join_X10_join : GoodIn wsL_join wsX10_join := goodIn_ca (goodIn_ca (goodIn_ca (goodIn_r _ [7, 8, 9, 10, 11, 12, 13, 6, 14, 15, 16, 17, 18, 19, 20, 21, 22, 23, 24, 25, 26, 27, 28, 29, 30, 31, 32, 33, 34, 35, 36, 37, 38, 39, 40, 41, 42, 43, 44, 45, 46, 47, 48, 49, 50, 51, 52, 53, 54, 55, 56, 57, 58, 59, 60, 61, 62, 63, 64, 65, 66, 67, 68, 69, 70, 71, 72, 73, 74, 75, 76, 77, 78, 79, 80, 81, 82, 83, 84, 85, 86, 87, 88, 89, 90, 91, 92] (by decide +kernel) (by decide +kernel)) (goodIn_sub (fun _ h => List.mem_cons_of_mem _ (List.mem_append_left _ (List.mem_append_left _ (List.mem_append_right _ h)))) (by decide +kernel))) (goodIn_sub (fun _ h => List.mem_cons_of_mem _ (List.mem_append_left _ (List.mem_append_right _ h))) (by decide +kernel))) (goodIn_sub (fun _ h => List.mem_cons_of_mem _ (List.mem_append_right _ h)) (by decide +kernel))
set_option maxRecDepth 20000 in
theorem gL_join_X10_join : GoodIn wsL_join (wsV RL 57 RX10 yX10_join wsX10_join) := goodIn_app (goodIn_of _ (by decide +kernel)) ggL_join_X10_join
set_option maxRecDepth 20000 in
theorem ggL_minus_X10_minus : GoodIn wsL_minus wsX10_minus := goodIn_ca (goodIn_ca (goodIn_ca (goodIn_r _ [7, 8, 9, 10, 11, 12, 6, 13, 14, 15, 16, 17, 18, 19, 20, 21, 22, 23, 24, 25, 26, 27, 28, 29, 30, 31, 32, 33, 34, 35, 36, 37, 38, 39, 40, 41, 42, 43, 44, 45, 46, 47, 48, 49, 50, 51, 52, 53, 54, 55, 56, 57, 58, 59, 60, 61, 62, 63, 64, 65, 66, 67, 68, 69, 70, 71, 72, 73, 74, 75, 76, 77, 78, 79, 80, 81, 82, 83, 84, 85, 86, 87, 88] (by decide +kernel) (by decide +kernel)) (goodIn_sub (fun _ h => List.mem_cons_of_mem _ (List.mem_append_left _ (List.mem_append_left _ (List.mem_append_right _ h)))) (by decide +kernel))) (goodIn_sub (fun _ h => List.mem_cons_of_mem _ (List.mem_append_left _ (List.mem_append_right _ h))) (by decide +kernel))) (goodIn_sub (fun _ h => List.mem_cons_of_mem _ (List.mem_append_right _ h)) (by decide +kernel))
set_option maxRecDepth 20000 in
theorem gL_minus_X10_minus : GoodIn wsL_minus (wsV RL 60 RX10 yX10_minus wsX10_minus) := goodIn_app (goodIn_of _ (by decide +kernel)) ggL_minus_X10_minus
set_option maxRecDepth 20000 in
theorem ggL_antijoin_X10_antijoin : GoodIn wsL_antijoin wsX10_antijoin := goodIn_ca (goodIn_ca (goodIn_ca (goodIn_r _ [7, 8, 9, 10, 11, 12, 6, 13, 14, 15, 16, 17, 18, 19, 20, 21, 22, 23, 24, 25, 26, 27, 28, 29, 30, 31, 32, 33, 34, 35, 36, 37, 38, 39, 40, 41, 42, 43, 44, 45, 46, 47, 48, 49, 50, 51, 52, 53, 54, 55, 56, 57, 58, 59, 60, 61, 62, 63, 64, 65, 66, 67, 68, 69, 70, 71, 72, 73, 74, 75, 76, 77, 78, 79, 80, 81, 82, 83, 84, 85, 86, 87, 88, 89, 90, 91] (by decide +kernel) (by decide +kernel)) (goodIn_sub (fun _ h => List.mem_cons_of_mem _ (List.mem_append_left _ (List.mem_append_left _ (List.mem_append_right _ h)))) (by decide +kernel))) (goodIn_sub (fun _ h => List.mem_cons_of_mem _ (List.mem_append_left _ (List.mem_append_right _ h))) (by decide +kernel))) (goodIn_sub (fun _ h => List.mem_cons_of_mem _ (List.mem_append_right _ h)) (by decide +kernel))
set_option maxRecDepth 20000 in
theorem gL_antijoin_X10_antijoin : GoodIn wsL_antijoin (wsV RL 63 RX10 yX10_antijoin wsX10_antijoin) := goodIn_app (goodIn_of _ (by decide +kernel)) ggL_antijoin_X10_antijoin
set_option maxRecDepth 20000 in
theorem ggL_project_X10_project : GoodIn wsL_project wsX10_project := goodIn_ca (goodIn_ca (goodIn_ca (goodIn_ca (goodIn_r _ [8, 9, 10, 11, 12, 13, 14, 15, 7, 16, 17, 18, 19, 20, 21, 22, 23, 24, 25, 26, 27, 28, 29, 30, 31, 32, 33, 34, 35, 36, 37, 38, 39, 40, 41, 42, 43, 44, 45, 46, 47, 48, 49, 50, 51, 52, 53, 54, 55, 56, 57, 58, 59, 60, 61, 62, 63, 64, 65, 66, 67, 68, 69, 70, 71, 72, 73, 74, 75, 76, 77, 78, 79, 80, 81, 82, 83, 84, 85, 86, 87, 88, 89, 90, 91] (by decide +kernel) (by decide +kernel)) (goodIn_sub (fun _ h => List.mem_cons_of_mem _ (List.mem_append_left _ (List.mem_append_left _ (List.mem_append_right _ h)))) (by decide +kernel))) (goodIn_sub (fun _ h => List.mem_cons_of_mem _ (List.mem_append_left _ (List.mem_append_left _ (List.mem_append_left _ (List.mem_append_right _ h))))) (by decide +kernel))) (goodIn_sub (fun _ h => List.mem_cons_of_mem _ (List.mem_append_left _ (List.mem_append_right _ h))) (by decide +kernel))) (goodIn_sub (fun _ h => List.mem_cons_of_mem _ (List.mem_append_right _ h)) (by decide +kernel))
set_option maxRecDepth 20000 in
theorem gL_project_X10_project : GoodIn wsL_project (wsV RL 66 RX10 yX10_project wsX10_project) := goodIn_app (goodIn_of _ (by decide +kernel)) ggL_project_X10_project
set_option maxRecDepth 20000 in
theorem ggL_exchange_X10_exchange : GoodIn wsL_exchange wsX10_exchange := goodIn_ca (goodIn_ca (goodIn_ca (goodIn_r _ [7, 8, 9, 10, 11, 12, 6, 13, 14, 15, 16, 17, 18, 19, 20, 21, 22, 23, 24, 25, 26, 27, 28, 29, 30, 31, 32, 33, 34, 35, 36, 37, 38, 39, 40, 41, 42, 43, 44, 45, 46, 47, 48, 49, 50, 51, 52, 53, 54, 55, 56, 57, 58, 59, 60, 61, 62, 63, 64, 65, 66, 67, 68, 69, 70, 71, 72, 73, 74, 75, 76, 77, 78, 79, 80, 81, 82, 83, 84, 85, 86, 87, 88, 89, 90, 91, 92, 93, 94, 95, 96, 97] (by decide +kernel) (by decide +kernel)) (goodIn_sub (fun _ h => List.mem_cons_of_mem _ (List.mem_append_left _ (List.mem_append_left _ (List.mem_append_right _ h)))) (by decide +kernel))) (goodIn_sub (fun _ h => List.mem_cons_of_mem _ (List.mem_append_left _ (List.mem_append_right _ h))) (by decide +kernel))) (goodIn_sub (fun _ h => List.mem_cons_of_mem _ (List.mem_append_right _ h)) (by decide +kernel))
set_option maxRecDepth 20000 in
theorem gL_exchange_X10_exchange : GoodIn wsL_exchange (wsV RL 69 RX10 yX10_exchange wsX10_exchange) := goodIn_app (goodIn_of _ (by decide +kernel)) ggL_exchange_X10_exchange
set_option maxRecDepth 20000 in
theorem ggL_selectEqual_X10_selectEqual : GoodIn wsL_selectEqual wsX10_selectEqual := goodIn_ca (goodIn_ca (goodIn_ca (goodIn_r _ [7, 8, 9, 10, 11, 12, 6, 13, 14, 15, 16, 17, 18, 19, 20, 21, 22, 23, 24, 25, 26, 27, 28, 29, 30, 31, 32, 33, 34, 35, 36, 37, 38, 39, 40, 41, 42, 43, 44, 45, 46, 47, 48, 49, 50, 51, 52, 53, 54, 55, 56, 57, 58, 59, 60, 61, 62, 63, 64, 65, 66, 67, 68, 69, 70, 71, 72, 73, 74, 75, 76, 77, 78, 79, 80, 81, 82, 83, 84, 85, 86, 87, 88, 89, 90, 91, 92, 93, 94, 95, 96, 97, 98, 99, 100, 101, 102, 103, 104, 105, 106, 107, 108, 109, 110, 111, 112, 113, 114, 115, 116] (by decide +kernel) (by decide +kernel)) (goodIn_sub (fun _ h => List.mem_cons_of_mem _ (List.mem_append_left _ (List.mem_append_left _ (List.mem_append_right _ h)))) (by decide +kernel))) (goodIn_sub (fun _ h => List.mem_cons_of_mem _ (List.mem_append_left _ (List.mem_append_right _ h))) (by decide +kernel))) (goodIn_sub (fun _ h => List.mem_cons_of_mem _ (List.mem_append_right _ h)) (by decide +kernel))
set_option maxRecDepth 20000 in
theorem gL_selectEqual_X10_selectEqual : GoodIn wsL_selectEqual (wsV RL 73 RX10 yX10_selectEqual wsX10_selectEqual) := goodIn_app (goodIn_of _ (by decide +kernel)) ggL_selectEqual_X10_selectEqual
set_option maxRecDepth 20000 in
theorem ggL_selectLength_X10_selectLength : GoodIn wsL_selectLength wsX10_selectLength := goodIn_ca (goodIn_ca (goodIn_ca (goodIn_r _ [7, 8, 9, 10, 11, 12, 6, 13, 14, 15, 16, 17, 18, 19, 20, 21, 22, 23, 24, 25, 26, 27, 28, 29, 30, 31, 32, 33, 34, 35, 36, 37, 38, 39, 40, 41, 42, 43, 44, 45, 46, 47, 48, 49, 50, 51, 52, 53, 54, 55, 56, 57, 58, 59, 60, 61, 62, 63, 64, 65, 66, 67, 68, 69, 70, 71, 72, 73, 74, 75, 76, 77, 78, 79, 80, 81, 82, 83, 84, 85, 86, 87, 88, 89, 90, 91, 92, 93, 94, 95, 96, 97, 98, 99, 100, 101, 102, 103, 104, 105] (by decide +kernel) (by decide +kernel)) (goodIn_sub (fun _ h => List.mem_cons_of_mem _ (List.mem_append_left _ (List.mem_append_left _ (List.mem_append_right _ h)))) (by decide +kernel))) (goodIn_sub (fun _ h => List.mem_cons_of_mem _ (List.mem_append_left _ (List.mem_append_right _ h))) (by decide +kernel))) (goodIn_sub (fun _ h => List.mem_cons_of_mem _ (List.mem_append_right _ h)) (by decide +kernel))
set_option maxRecDepth 20000 in
theorem gL_selectLength_X10_selectLength : GoodIn wsL_selectLength (wsV RL 76 RX10 yX10_selectLength wsX10_selectLength) := goodIn_app (goodIn_of _ (by decide +kernel)) ggL_selectLength_X10_selectLength
set_option maxRecDepth 20000 in
theorem ggL_selectRelation_X10_selectRelation : GoodIn wsL_selectRelation wsX10_selectRelation := goodIn_ca (goodIn_ca (goodIn_ca (goodIn_ca (goodIn_r _ [8, 9, 10, 11, 12, 13, 14, 15, 7, 16, 17, 18, 19, 20, 21, 22, 23, 24, 25, 26, 27, 28, 29, 30, 31, 32, 33, 34, 35, 36, 37, 38, 39, 40, 41, 42, 43, 44, 45, 46, 47, 48, 49, 50, 51, 52, 53, 54, 55, 56, 57, 58, 59, 60, 61, 62, 63, 64, 65, 66, 67, 68, 69, 70, 71, 72, 73, 74, 75, 76, 77, 78, 79, 80, 81, 82, 83, 84, 85, 86, 87, 88, 89, 90, 91, 92, 93, 94, 95, 96, 97, 98, 99, 100, 101, 102, 103, 104, 105, 106, 107, 108, 109, 110, 111, 112] (by decide +kernel) (by decide +kernel)) (goodIn_sub (fun _ h => List.mem_cons_of_mem _ (List.mem_append_left _ (List.mem_append_left _ (List.mem_append_right _ h)))) (by decide +kernel))) (goodIn_sub (fun _ h => List.mem_cons_of_mem _ (List.mem_append_left _ (List.mem_append_left _ (List.mem_append_left _ (List.mem_append_right _ h))))) (by decide +kernel))) (goodIn_sub (fun _ h => List.mem_cons_of_mem _ (List.mem_append_left _ (List.mem_append_right _ h))) (by decide +kernel))) (goodIn_sub (fun _ h => List.mem_cons_of_mem _ (List.mem_append_right _ h)) (by decide +kernel))
set_option maxRecDepth 20000 in
theorem gL_selectRelation_X10_selectRelation : GoodIn wsL_selectRelation (wsV RL 80 RX10 yX10_selectRelation wsX10_selectRelation) := goodIn_app (goodIn_of _ (by decide +kernel)) ggL_selectRelation_X10_selectRelation
set_option maxRecDepth 20000 in
theorem ggL_contained_X10_contained : GoodIn wsL_contained wsX10_contained := goodIn_ca (goodIn_ca (goodIn_ca (goodIn_r _ [7, 8, 9, 10, 11, 6, 12, 13, 14, 15, 16, 17, 18, 19, 20, 21, 22, 23, 24, 25, 26, 27, 28, 29, 30, 31, 32, 33, 34, 35, 36, 37, 38, 39, 40, 41, 42, 43, 44, 45, 46, 47, 48, 49, 50, 51, 52, 53, 54, 55, 56, 57] (by decide +kernel) (by decide +kernel)) (goodIn_sub (fun _ h => List.mem_cons_of_mem _ (List.mem_append_left _ (List.mem_append_left _ (List.mem_append_right _ h)))) (by decide +kernel))) (goodIn_sub (fun _ h => List.mem_cons_of_mem _ (List.mem_append_left _ (List.mem_append_right _ h))) (by decide +kernel))) (goodIn_sub (fun _ h => List.mem_cons_of_mem _ (List.mem_append_right _ h)) (by decide +kernel))
set_option maxRecDepth 20000 in
theorem gL_contained_X10_contained : GoodIn wsL_contained (wsV RL 83 RX10 yX10_contained wsX10_contained) := goodIn_app (goodIn_of _ (by decide +kernel)) ggL_contained_X10_contained
set_option maxRecDepth 20000 in
theorem ggL_disjoint_X10_disjoint : GoodIn wsL_disjoint wsX10_disjoint := goodIn_ca (goodIn_ca (goodIn_ca (goodIn_r _ [7, 8, 9, 10, 11, 12, 6, 13, 14, 15, 16, 17, 18, 19, 20, 21, 22, 23, 24, 25, 26, 27, 28, 29, 30, 31, 32, 33, 34, 35, 36, 37, 38, 39, 40, 41, 42, 43, 44, 45, 46, 47, 48, 49, 50, 51, 52, 53, 54, 55, 56, 57, 58, 59, 60, 61] (by decide +kernel) (by decide +kernel)) (goodIn_sub (fun _ h => List.mem_cons_of_mem _ (List.mem_append_left _ (List.mem_append_left _ (List.mem_append_right _ h)))) (by decide +kernel))) (goodIn_sub (fun _ h => List.mem_cons_of_mem _ (List.mem_append_left _ (List.mem_append_right _ h))) (by decide +kernel))) (goodIn_sub (fun _ h => List.mem_cons_of_mem _ (List.mem_append_right _ h)) (by decide +kernel))
set_option maxRecDepth 20000 in
theorem gL_disjoint_X10_disjoint : GoodIn wsL_disjoint (wsV RL 87 RX10 yX10_disjoint wsX10_disjoint) := goodIn_app (goodIn_of _ (by decide +kernel)) ggL_disjoint_X10_disjoint
set_option maxRecDepth 20000 in
theorem ggL_extractSplit_X10_extractSplit : GoodIn wsL_extractSplit wsX10_extractSplit := goodIn_ca (goodIn_ca (goodIn_ca (goodIn_r _ [7, 8, 9, 10, 6, 11, 12, 13, 14, 15, 16, 17, 18, 19, 20, 21, 22, 23, 24, 25, 26, 27, 28, 29, 30, 31, 32, 33, 34, 35, 36, 37, 38, 39, 40, 41, 42, 43, 44, 45, 46, 47, 48, 49, 50, 51, 52, 53, 54, 55, 56, 57, 58, 59, 60, 61, 62, 63, 64, 65, 66, 67, 68, 69, 70, 71, 72, 73, 74, 75, 76, 77, 78, 79, 80, 81, 82, 83, 84, 85, 86, 87, 88, 89, 90, 91, 92, 93, 94, 95, 96, 97, 98, 99, 100, 101, 102, 103, 104, 105, 106, 107, 108, 109, 110, 111, 112, 113, 114, 115, 116, 117, 118, 119, 120, 121, 122, 123, 124, 125, 126, 127, 128, 129, 130, 131, 132, 133, 134, 135, 136, 137, 138, 139, 140, 141, 142, 143, 144, 145, 146, 147, 148, 149, 150, 151, 152, 153, 154, 155, 156, 157, 158, 159, 160, 161, 162, 163, 164, 165, 166, 167, 168, 169, 170, 171, 172, 173, 174, 175, 176, 177, 178, 179, 180, 181, 182, 183, 184, 185, 186, 187, 188, 189, 190, 191, 192, 193, 194, 195, 196, 197, 198, 199, 200, 201, 202, 203, 204, 205, 206, 207, 208, 209, 210, 211, 212, 213, 214] (by decide +kernel) (by decide +kernel)) (goodIn_sub (fun _ h => List.mem_cons_of_mem _ (List.mem_append_left _ (List.mem_append_right _ h))) (by decide +kernel))) (goodIn_sub (fun _ h => List.mem_cons_of_mem _ (List.mem_append_left _ (List.mem_append_left _ (List.mem_append_right _ h)))) (by decide +kernel))) (goodIn_sub (fun _ h => List.mem_cons_of_mem _ (List.mem_append_right _ h)) (by decide +kernel))
set_option maxRecDepth 20000 in
theorem gL_extractSplit_X10_extractSplit : GoodIn wsL_extractSplit (wsV RL 91 RX10 yX10_extractSplit wsX10_extractSplit) := goodIn_app (goodIn_of _ (by decide +kernel)) ggL_extractSplit_X10_extractSplit
set_option maxRecDepth 20000 in
theorem ggL_splitCorrect_X10_splitCorrect : GoodIn wsL_splitCorrect wsX10_splitCorrect := goodIn_ca (goodIn_ca (goodIn_ca (goodIn_r _ [7, 8, 9, 10, 11, 12, 13, 14, 15, 16, 6, 17, 18, 19, 20, 21, 22, 23, 24, 25, 26, 27, 28, 29, 30, 31, 32, 33, 34, 35, 36, 37, 38, 39, 40, 41, 42, 43, 44, 45, 46, 47, 48, 49, 50, 51, 52, 53, 54, 55, 56, 57, 58, 59, 60, 61, 62, 63, 64, 65, 66, 67, 68, 69, 70, 71, 72, 73, 74, 75, 76, 77, 78, 79, 80, 81, 82, 83, 84, 85, 86, 87, 88, 89, 90, 91, 92, 93, 94, 95, 96, 97, 98, 99, 100, 101, 102, 103, 104, 105, 106, 107, 108, 109, 110, 111, 112, 113, 114, 115, 116, 117, 118, 119, 120, 121, 122, 123, 124, 125, 126, 127, 128, 129, 130, 131, 132, 133, 134, 135, 136, 137, 138, 139, 140, 141, 142, 143, 144, 145, 146, 147, 148, 149, 150, 151, 152, 153, 154, 155, 156, 157, 158, 159, 160, 161, 162, 163, 164, 165, 166, 167, 168, 169, 170, 171, 172, 173, 174, 175, 176, 177, 178, 179, 180, 181, 182, 183, 184, 185, 186, 187, 188, 189, 190, 191, 192, 193, 194, 195, 196, 197, 198, 199, 200, 201, 202, 203, 204, 205, 206, 207, 208, 209, 210] (by decide +kernel) (by decide +kernel)) (goodIn_sub (fun _ h => List.mem_cons_of_mem _ (List.mem_append_left _ (List.mem_append_left _ (List.mem_append_right _ h)))) (by decide +kernel))) (goodIn_sub (fun _ h => List.mem_cons_of_mem _ (List.mem_append_left _ (List.mem_append_right _ h))) (by decide +kernel))) (goodIn_sub (fun _ h => List.mem_cons_of_mem _ (List.mem_append_right _ h)) (by decide +kernel))
set_option maxRecDepth 20000 in
theorem gL_splitCorrect_X10_splitCorrect : GoodIn wsL_splitCorrect (wsV RL 95 RX10 yX10_splitCorrect wsX10_splitCorrect) := goodIn_app (goodIn_of _ (by decide +kernel)) ggL_splitCorrect_X10_splitCorrect
set_option maxRecDepth 20000 in
theorem ggL_openCursor_X10_openCursor : GoodIn wsL_openCursor wsX10_openCursor := goodIn_ca (goodIn_ca (goodIn_ca (goodIn_r _ [7, 8, 9, 10, 11, 12, 13, 6, 14, 15, 16, 17, 18, 19, 20, 21, 22, 23, 24, 25, 26, 27, 28, 29, 30, 31, 32, 33, 34, 35, 36, 37, 38, 39, 40, 41, 42, 43, 44, 45, 46, 47] (by decide +kernel) (by decide +kernel)) (goodIn_sub (fun _ h => List.mem_cons_of_mem _ (List.mem_append_left _ (List.mem_append_left _ (List.mem_append_right _ h)))) (by decide +kernel))) (goodIn_sub (fun _ h => List.mem_cons_of_mem _ (List.mem_append_left _ (List.mem_append_right _ h))) (by decide +kernel))) (goodIn_sub (fun _ h => List.mem_cons_of_mem _ (List.mem_append_right _ h)) (by decide +kernel))
set_option maxRecDepth 20000 in
theorem gL_openCursor_X10_openCursor : GoodIn wsL_openCursor (wsV RL 98 RX10 yX10_openCursor wsX10_openCursor) := goodIn_app (goodIn_of _ (by decide +kernel)) ggL_openCursor_X10_openCursor
set_option maxRecDepth 20000 in
theorem ggL_cursorRow_X10_cursorRow : GoodIn wsL_cursorRow wsX10_cursorRow := goodIn_ca (goodIn_ca (goodIn_ca (goodIn_r _ [6, 7, 8, 9, 5, 10, 11, 12, 13, 14, 15, 16, 17, 18, 19, 20, 21, 22, 23, 24, 25, 26, 27, 28, 29, 30, 31, 32, 33, 34, 35, 36, 37, 38, 39, 40, 41, 42, 43, 44, 45, 46, 47, 48, 49, 50, 51, 52, 53, 54] (by decide +kernel) (by decide +kernel)) (goodIn_sub (fun _ h => List.mem_cons_of_mem _ (List.mem_append_left _ (List.mem_append_right _ h))) (by decide +kernel))) (goodIn_sub (fun _ h => List.mem_cons_of_mem _ (List.mem_append_left _ (List.mem_append_left _ (List.mem_append_right _ h)))) (by decide +kernel))) (goodIn_sub (fun _ h => List.mem_cons_of_mem _ (List.mem_append_right _ h)) (by decide +kernel))
set_option maxRecDepth 20000 in
theorem gL_cursorRow_X10_cursorRow : GoodIn wsL_cursorRow (wsV RL 101 RX10 yX10_cursorRow wsX10_cursorRow) := goodIn_app (goodIn_of _ (by decide +kernel)) ggL_cursorRow_X10_cursorRow
set_option maxRecDepth 20000 in
theorem ggL_advance_X10_advance : GoodIn wsL_advance wsX10_advance := goodIn_ca (goodIn_ca (goodIn_ca (goodIn_ca (goodIn_r _ [7, 8, 9, 10, 11, 12, 13, 14, 6, 15, 16, 17, 18, 19, 20, 21, 22, 23, 24, 25, 26, 27, 28, 29, 30, 31, 32, 33, 34, 35, 36, 37, 38, 39, 40, 41, 42, 43, 44, 45, 46, 47, 48, 49, 50, 51, 52, 53, 54, 55, 56, 57] (by decide +kernel) (by decide +kernel)) (goodIn_sub (fun _ h => List.mem_cons_of_mem _ (List.mem_append_left _ (List.mem_append_left _ (List.mem_append_right _ h)))) (by decide +kernel))) (goodIn_sub (fun _ h => List.mem_cons_of_mem _ (List.mem_append_left _ (List.mem_append_right _ h))) (by decide +kernel))) (goodIn_sub (fun _ h => List.mem_cons_of_mem _ (List.mem_append_left _ (List.mem_append_left _ (List.mem_append_left _ (List.mem_append_right _ h))))) (by decide +kernel))) (goodIn_sub (fun _ h => List.mem_cons_of_mem _ (List.mem_append_right _ h)) (by decide +kernel))
set_option maxRecDepth 20000 in
theorem gL_advance_X10_advance : GoodIn wsL_advance (wsV RL 104 RX10 yX10_advance wsX10_advance) := goodIn_app (goodIn_of _ (by decide +kernel)) ggL_advance_X10_advance
set_option maxRecDepth 20000 in
theorem ggL_skipTo_X10_skipTo : GoodIn wsL_skipTo wsX10_skipTo := goodIn_ca (goodIn_ca (goodIn_ca (goodIn_r _ [6, 7, 8, 9, 10, 11, 12, 5, 13, 14, 15, 16, 17, 18, 19, 20, 21, 22, 23, 24, 25, 26, 27, 28, 29, 30, 31, 32, 33, 34, 35, 36, 37, 38, 39, 40, 41, 42, 43, 44, 45, 46, 47, 48, 49, 50, 51, 52, 53, 54, 55, 56, 57, 58, 59, 60, 61, 62, 63, 64, 65, 66, 67, 68, 69] (by decide +kernel) (by decide +kernel)) (goodIn_sub (fun _ h => List.mem_cons_of_mem _ (List.mem_append_left _ (List.mem_append_left _ (List.mem_append_right _ h)))) (by decide +kernel))) (goodIn_sub (fun _ h => List.mem_cons_of_mem _ (List.mem_append_left _ (List.mem_append_right _ h))) (by decide +kernel))) (goodIn_sub (fun _ h => List.mem_cons_of_mem _ (List.mem_append_right _ h)) (by decide +kernel))
set_option maxRecDepth 20000 in
theorem gL_skipTo_X10_skipTo : GoodIn wsL_skipTo (wsV RL 107 RX10 yX10_skipTo wsX10_skipTo) := goodIn_app (goodIn_of _ (by decide +kernel)) ggL_skipTo_X10_skipTo
set_option maxRecDepth 20000 in
theorem ggL_setWeight_X10_setWeight : GoodIn wsL_setWeight wsX10_setWeight := goodIn_ca (goodIn_ca (goodIn_r _ [6, 7, 8, 9, 10, 5, 11, 12, 13, 14, 15, 16, 17, 18, 19, 20, 21, 22, 23, 24, 25, 26, 27, 28, 29, 30, 31, 32, 33] (by decide +kernel) (by decide +kernel)) (goodIn_sub (fun _ h => List.mem_cons_of_mem _ (List.mem_append_left _ (List.mem_append_right _ h))) (by decide +kernel))) (goodIn_sub (fun _ h => List.mem_cons_of_mem _ (List.mem_append_right _ h)) (by decide +kernel))
set_option maxRecDepth 20000 in
theorem gL_setWeight_X10_setWeight : GoodIn wsL_setWeight (wsV RL 110 RX10 yX10_setWeight wsX10_setWeight) := goodIn_app (goodIn_of _ (by decide +kernel)) ggL_setWeight_X10_setWeight
set_option maxRecDepth 20000 in
theorem ggL_score_X10_score : GoodIn wsL_score wsX10_score := goodIn_ca (goodIn_ca (goodIn_ca (goodIn_ca (goodIn_r _ [8, 9, 10, 11, 12, 7, 13, 14, 15, 16, 17, 18, 19, 20, 21, 22, 23, 24, 25, 26, 27, 28, 29, 30, 31, 32, 33, 34, 35, 36, 37, 38, 39, 40, 41, 42, 43, 44, 45, 46, 47, 48, 49, 50, 51, 52, 53, 54, 55, 56, 57, 58, 59, 60, 61, 62, 63, 64, 65, 66, 67, 68, 69, 70, 71, 72, 73, 74, 75, 76, 77, 78] (by decide +kernel) (by decide +kernel)) (goodIn_sub (fun _ h => List.mem_cons_of_mem _ (List.mem_append_left _ (List.mem_append_left _ (List.mem_append_left _ (List.mem_append_right _ h))))) (by decide +kernel))) (goodIn_sub (fun _ h => List.mem_cons_of_mem _ (List.mem_append_left _ (List.mem_append_left _ (List.mem_append_right _ h)))) (by decide +kernel))) (goodIn_sub (fun _ h => List.mem_cons_of_mem _ (List.mem_append_left _ (List.mem_append_right _ h))) (by decide +kernel))) (goodIn_sub (fun _ h => List.mem_cons_of_mem _ (List.mem_append_right _ h)) (by decide +kernel))
set_option maxRecDepth 20000 in
theorem gL_score_X10_score : GoodIn wsL_score (wsV RL 113 RX10 yX10_score wsX10_score) := goodIn_app (goodIn_of _ (by decide +kernel)) ggL_score_X10_score
set_option maxRecDepth 20000 in
theorem ggL_classes_X10_classes : GoodIn wsL_classes wsX10_classes := goodIn_ca (goodIn_ca (goodIn_ca (goodIn_ca (goodIn_r _ [8, 9, 10, 11, 12, 13, 7, 14, 15, 16, 17, 18, 19, 20, 21, 22, 23, 24, 25, 26, 27, 28, 29, 30, 31, 32, 33, 34, 35, 36, 37, 38, 39, 40, 41, 42, 43, 44, 45, 46, 47, 48, 49, 50, 51, 52, 53, 54, 55, 56, 57, 58, 59, 60, 61, 62, 63, 64, 65, 66, 67, 68, 69, 70, 71, 72, 73, 74, 75, 76, 77, 78, 79, 80, 81, 82, 83, 84, 85, 86, 87, 88, 89, 90, 91, 92, 93, 94, 95, 96, 97, 98, 99, 100, 101] (by decide +kernel) (by decide +kernel)) (goodIn_sub (fun _ h => List.mem_cons_of_mem _ (List.mem_append_left _ (List.mem_append_left _ (List.mem_append_left _ (List.mem_append_right _ h))))) (by decide +kernel))) (goodIn_sub (fun _ h => List.mem_cons_of_mem _ (List.mem_append_left _ (List.mem_append_left _ (List.mem_append_right _ h)))) (by decide +kernel))) (goodIn_sub (fun _ h => List.mem_cons_of_mem _ (List.mem_append_left _ (List.mem_append_right _ h))) (by decide +kernel))) (goodIn_sub (fun _ h => List.mem_cons_of_mem _ (List.mem_append_right _ h)) (by decide +kernel))
set_option maxRecDepth 20000 in
theorem gL_classes_X10_classes : GoodIn wsL_classes (wsV RL 118 RX10 yX10_classes wsX10_classes) := goodIn_app (goodIn_of _ (by decide +kernel)) ggL_classes_X10_classes
set_option maxRecDepth 20000 in
theorem ggL_rank_X10_rank : GoodIn wsL_rank wsX10_rank := goodIn_ca (goodIn_ca (goodIn_ca (goodIn_ca (goodIn_r _ [8, 9, 10, 11, 12, 13, 14, 7, 15, 16, 17, 18, 19, 20, 21, 22, 23, 24, 25, 26, 27, 28, 29, 30, 31, 32, 33, 34, 35, 36, 37, 38, 39, 40, 41, 42, 43, 44, 45, 46, 47, 48, 49, 50, 51, 52, 53, 54, 55, 56, 57, 58, 59, 60, 61, 62, 63, 64, 65, 66, 67, 68, 69, 70, 71, 72, 73, 74, 75, 76, 77, 78, 79, 80, 81, 82, 83, 84, 85, 86, 87, 88, 89, 90, 91, 92, 93, 94, 95, 96, 97, 98, 99, 100, 101, 102, 103, 104, 105] (by decide +kernel) (by decide +kernel)) (goodIn_sub (fun _ h => List.mem_cons_of_mem _ (List.mem_append_left _ (List.mem_append_left _ (List.mem_append_left _ (List.mem_append_right _ h))))) (by decide +kernel))) (goodIn_sub (fun _ h => List.mem_cons_of_mem _ (List.mem_append_left _ (List.mem_append_left _ (List.mem_append_right _ h)))) (by decide +kernel))) (goodIn_sub (fun _ h => List.mem_cons_of_mem _ (List.mem_append_left _ (List.mem_append_right _ h))) (by decide +kernel))) (goodIn_sub (fun _ h => List.mem_cons_of_mem _ (List.mem_append_right _ h)) (by decide +kernel))
set_option maxRecDepth 20000 in
theorem gL_rank_X10_rank : GoodIn wsL_rank (wsV RL 121 RX10 yX10_rank wsX10_rank) := goodIn_app (goodIn_of _ (by decide +kernel)) ggL_rank_X10_rank
set_option maxRecDepth 20000 in
theorem ggL_best_X10_best : GoodIn wsL_best wsX10_best := goodIn_ca (goodIn_ca (goodIn_ca (goodIn_ca (goodIn_r _ [8, 9, 10, 11, 12, 13, 14, 15, 7, 16, 17, 18, 19, 20, 21, 22, 23, 24, 25, 26, 27, 28, 29, 30, 31, 32, 33, 34, 35, 36, 37, 38, 39, 40, 41, 42, 43, 44, 45, 46, 47, 48, 49, 50, 51, 52, 53, 54, 55, 56, 57, 58, 59, 60, 61, 62, 63, 64, 65, 66, 67, 68, 69, 70, 71, 72, 73, 74, 75, 76, 77, 78, 79, 80, 81, 82, 83, 84, 85, 86, 87, 88, 89, 90, 91, 92, 93, 94, 95, 96, 97, 98, 99, 100, 101, 102, 103, 104] (by decide +kernel) (by decide +kernel)) (goodIn_sub (fun _ h => List.mem_cons_of_mem _ (List.mem_append_left _ (List.mem_append_left _ (List.mem_append_left _ (List.mem_append_right _ h))))) (by decide +kernel))) (goodIn_sub (fun _ h => List.mem_cons_of_mem _ (List.mem_append_left _ (List.mem_append_left _ (List.mem_append_right _ h)))) (by decide +kernel))) (goodIn_sub (fun _ h => List.mem_cons_of_mem _ (List.mem_append_left _ (List.mem_append_right _ h))) (by decide +kernel))) (goodIn_sub (fun _ h => List.mem_cons_of_mem _ (List.mem_append_right _ h)) (by decide +kernel))
set_option maxRecDepth 20000 in
theorem gL_best_X10_best : GoodIn wsL_best (wsV RL 124 RX10 yX10_best wsX10_best) := goodIn_app (goodIn_of _ (by decide +kernel)) ggL_best_X10_best
set_option maxRecDepth 20000 in
theorem ggL_total_X10_total : GoodIn wsL_total wsX10_total := goodIn_ca (goodIn_ca (goodIn_ca (goodIn_ca (goodIn_r _ [8, 9, 10, 11, 12, 13, 7, 14, 15, 16, 17, 18, 19, 20, 21, 22, 23, 24, 25, 26, 27, 28, 29, 30, 31, 32, 33, 34, 35, 36, 37, 38, 39, 40, 41, 42, 43, 44, 45, 46, 47, 48, 49, 50, 51, 52, 53, 54, 55, 56, 57, 58, 59, 60, 61, 62, 63, 64, 65, 66, 67, 68, 69, 70, 71, 72, 73, 74, 75] (by decide +kernel) (by decide +kernel)) (goodIn_sub (fun _ h => List.mem_cons_of_mem _ (List.mem_append_left _ (List.mem_append_left _ (List.mem_append_left _ (List.mem_append_right _ h))))) (by decide +kernel))) (goodIn_sub (fun _ h => List.mem_cons_of_mem _ (List.mem_append_left _ (List.mem_append_left _ (List.mem_append_right _ h)))) (by decide +kernel))) (goodIn_sub (fun _ h => List.mem_cons_of_mem _ (List.mem_append_left _ (List.mem_append_right _ h))) (by decide +kernel))) (goodIn_sub (fun _ h => List.mem_cons_of_mem _ (List.mem_append_right _ h)) (by decide +kernel))
set_option maxRecDepth 20000 in
theorem gL_total_X10_total : GoodIn wsL_total (wsV RL 127 RX10 yX10_total wsX10_total) := goodIn_app (goodIn_of _ (by decide +kernel)) ggL_total_X10_total
set_option maxRecDepth 20000 in
theorem ggL_restore_X10_restore : GoodIn wsL_restore wsX10_restore := goodIn_ca (goodIn_ca (goodIn_r _ [6, 7, 8, 9, 10, 11, 12, 13, 14, 15, 16, 17, 18, 19, 20, 21, 22, 23, 24, 25, 26, 27, 28, 29, 30, 31, 32, 33, 34, 35, 36, 37, 38, 39, 40, 41, 42, 43, 44, 45, 46, 47, 48, 49, 50, 51, 52, 53, 54, 55, 56, 57, 58, 59, 60, 61, 62, 63] (by decide +kernel) (by decide +kernel)) (goodIn_sub (fun _ h => List.mem_cons_of_mem _ (List.mem_append_right _ h)) (by decide +kernel))) (goodIn_sub (fun _ h => List.mem_cons_of_mem _ (List.mem_append_left _ (List.mem_append_right _ h))) (by decide +kernel))
set_option maxRecDepth 20000 in
theorem gL_restore_X10_restore : GoodIn wsL_restore (wsV RL 130 RX10 yX10_restore wsX10_restore) := goodIn_app (goodIn_of _ (by decide +kernel)) ggL_restore_X10_restore
