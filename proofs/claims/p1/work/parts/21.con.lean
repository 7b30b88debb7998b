def wk_X10_formulaVariables : List Cond := .code yX10_formulaVariables cX10_formulaVariables 1 (some .int) :: (([.methodLink RX10 125 yX10_currentFormula, .instanceMethod yX10_currentFormula, .selects RX10 yX10_currentFormula yX10_currentFormula, .initialized RX10, .code yX10_currentFormula cX10_currentFormula 2 (some (.object "DocumentSpanner$Formula")), .fieldLink RX10 12 "DocumentSpanner" "state" "LDocumentSpanner$State;", .fieldLink RX10 121 "DocumentSpanner$State" "formula" "LDocumentSpanner$Formula;", .classLink RX10 80 ise, .initialized ise] : List Cond) ++ wsX100 ++ wsX80 ++ (vx_atS RX10 84 ise ["java/lang/RuntimeException", "java/lang/Exception"]).filter goodWord)
set_option maxRecDepth 20000 in
theorem ggk_X10_formulaVariables_X10_currentFormula : GoodIn wk_X10_formulaVariables wk_X10_currentFormula := goodIn_ca (goodIn_ca (goodIn_ca (goodIn_r _ [5, 6, 7, 8, 9] (by decide +kernel) (by decide +kernel)) (goodIn_sub (fun _ h => List.mem_cons_of_mem _ (List.mem_append_left _ (List.mem_append_left _ (List.mem_append_right _ h)))) (by decide +kernel))) (goodIn_sub (fun _ h => List.mem_cons_of_mem _ (List.mem_append_left _ (List.mem_append_right _ h))) (by decide +kernel))) (goodIn_sub (fun _ h => List.mem_cons_of_mem _ (List.mem_append_right _ h)) (by decide +kernel))
set_option maxRecDepth 20000 in
theorem gk_X10_formulaVariables_X10_currentFormula : GoodIn wk_X10_formulaVariables (wsV RX10 125 RX10 yX10_currentFormula wk_X10_currentFormula) := goodIn_app (goodIn_r _ [1, 2, 3, 4] (by decide +kernel) (by decide +kernel)) ggk_X10_formulaVariables_X10_currentFormula
set_option maxHeartbeats 4000000 in
set_option maxRecDepth 100000 in
theorem k_X10_formulaVariables (l : Launch) (htr : l.stackTraces = false) (D : va_G) (cI cJ cZ : ClassId) (x : Nat) (st : Nat) (kp : Nat) (bf : Nat) (o1 : Nat) (o2 : Nat) (o3 : Nat) (o4 : Nat) (o5 : Nat) (o6 : Nat) (lt : Nat) (tb : Nat) (fl : Nat) (wt : Nat) (sz : Nat) : vx_Met l yX10_formulaVariables wk_X10_formulaVariables ({ frames := 7, cells := 1, slots := 6, locals := 103 }) (xPc D cI cJ cZ [.ref x] [(x, .inr (9, [.ref st, .ref kp, .int 0, .ref bf, .int 0, .int (-1), .int (-1), .int 0, .ref o1, .ref o2, .ref o3, .ref o4, .ref o5, .ref o6])), (st, .inr (8, [.ref lt, .ref tb, .ref fl, .ref wt, .int 0, .null]))] sz) (va_Qi (fun (r : Int32) (u : Unit) => False) (fun (u : Unit) (t : State) => va_P D vwCl ([] : va_W) t.heap ∧ va_D (va_A [(x, .inr (9, [.ref st, .ref kp, .int 0, .ref bf, .int 0, .int (-1), .int (-1), .int 0, .ref o1, .ref o2, .ref o3, .ref o4, .ref o5, .ref o6])), (st, .inr (8, [.ref lt, .ref tb, .ref fl, .ref wt, .int 0, .null]))] sz) ([] : va_W)) (va_A [(x, .inr (9, [.ref st, .ref kp, .int 0, .ref bf, .int 0, .int (-1), .int (-1), .int 0, .ref o1, .ref o2, .ref o3, .ref o4, .ref o5, .ref o6])), (st, .inr (8, [.ref lt, .ref tb, .ref fl, .ref wt, .int 0, .null]))] sz)) (vx_X (fun _ : Unit => True) (fun (E : String) (_ : Unit) (_ : State) => (E = ise)) (va_A [(x, .inr (9, [.ref st, .ref kp, .int 0, .ref bf, .int 0, .int (-1), .int (-1), .int 0, .ref o1, .ref o2, .ref o3, .ref o4, .ref o5, .ref o6])), (st, .inr (8, [.ref lt, .ref tb, .ref fl, .ref wt, .int 0, .null]))] sz)) 1 6 (va_A [(x, .inr (9, [.ref st, .ref kp, .int 0, .ref bf, .int 0, .int (-1), .int (-1), .int 0, .ref o1, .ref o2, .ref o3, .ref o4, .ref o5, .ref o6])), (st, .inr (8, [.ref lt, .ref tb, .ref fl, .ref wt, .int 0, .null]))] sz) := by
  refine vx_ofW (cc := cX10_formulaVariables) (maxL := 1) (ret := (some .int)) (by decide) rfl ?_
  intro p e s m args below meth c s₁ B hml htab hv
  obtain ⟨rfl, hsz, hP, hK, hD0, hE, hV⟩ := hv
  have hx := B.exec
  have hb := B.bytes
  have hr := B.returns
  have hts := atoms_spec (ws := wk_X10_formulaVariables) B.pre
  have hown : s.vm.findClass RX10 = some m.cls := findClass_of_methodNamed B.named
  have hlocks := B.notSynchronized
  subst hsz
  have hD := hD0.self (sz := s.heap.size)
  generalize hAe : va_A [(x, .inr (9, [.ref st, .ref kp, .int 0, .ref bf, .int 0, .int (-1), .int (-1), .int 0, .ref o1, .ref o2, .ref o3, .ref o4, .ref o5, .ref o6])), (st, .inr (8, [.ref lt, .ref tb, .ref fl, .ref wt, .int 0, .null]))] s.heap.size = A at hD hE ⊢
  have hA : ∀ q : Nat, s.heap.size ≤ q → A q := fun q h => by rw [← hAe]; exact Or.inr h
  have hS : va_S A s.heap s.heap [] := va_S.rf
  have hP : va_P D vwCl [(x, .inr (9, [.ref st, .ref kp, .int 0, .ref bf, .int 0, .int (-1), .int (-1), .int 0, .ref o1, .ref o2, .ref o3, .ref o4, .ref o5, .ref o6])), (st, .inr (8, [.ref lt, .ref tb, .ref fl, .ref wt, .int 0, .null]))] s.heap := hP
  have hl := lv_entry ([.ref x]) (n := 1) (Nat.le_of_ble_eq_true rfl)
  rw [lg_entry_eq]
  generalize (lg_sl ([.ref x]) ++ List.replicate (1 - (lg_sl ([.ref x])).length) Slot.unset).toArray = ls at hl ⊢
  have hl : lv_has ls 1 [(0, .ref x)] := hl
  refine lv_aload_n hx hb dX10_formulaVariables_0 rfl (lv_at hl 0 rfl) ?_
  have hPc := hP.sub (ws' := [(x, .inr (9, [.ref st, .ref kp, .int 0, .ref bf, .int 0, .int (-1), .int (-1), .int 0, .ref o1, .ref o2, .ref o3, .ref o4, .ref o5, .ref o6])), (st, .inr (8, [.ref lt, .ref tb, .ref fl, .ref wt, .int 0, .null]))]) [0, 1] rfl
  have hDc := hD.sub (ws' := [(x, .inr (9, [.ref st, .ref kp, .int 0, .ref bf, .int 0, .int (-1), .int (-1), .int 0, .ref o1, .ref o2, .ref o3, .ref o4, .ref o5, .ref o6])), (st, .inr (8, [.ref lt, .ref tb, .ref fl, .ref wt, .int 0, .null]))]) [0, 1] (by decide) rfl
  have hFc := va_free (wc := [(x, .inr (9, [.ref st, .ref kp, .int 0, .ref bf, .int 0, .int (-1), .int (-1), .int 0, .ref o1, .ref o2, .ref o3, .ref o4, .ref o5, .ref o6])), (st, .inr (8, [.ref lt, .ref tb, .ref fl, .ref wt, .int 0, .null]))]) hD hS hA [0, 1] rfl
  refine vx_callq (vx_runV (As := []) (rest := []) ⟨hx, hb, hml, hown, hts⟩ (k_X10_currentFormula l htr D cI cJ cZ x st kp bf o1 o2 o3 o4 o5 o6 lt tb fl wt s.heap.size) (cwV 0 hts gk_X10_formulaVariables_X10_currentFormula rfl rfl rfl (by decide +kernel) ⟨Nat.le_of_ble_eq_true rfl, Nat.le_of_ble_eq_true rfl⟩) ⟨xPc_blind, va_recv hK hP (ci := 9) (q0 := 0) rfl rfl, xPc_pre hPc hK hDc hE hS hFc hV⟩ rfl rfl hl.1 rfl (lv_room (Nat.le_of_ble_eq_true rfl)) dX10_formulaVariables_1 ⟨Nat.le_of_ble_eq_true rfl, Nat.le_of_ble_eq_true rfl⟩) hS (fun q _ h => hFc q h) hFc (fun q _ h => hFc q h) (fun E ce q9 u t H_1 locs ht hvm hpx hBX hz1 hk1 hS hq9 hcv hcl => ?_) (fun r u t H_1 locs ht hvm hw hB hz1 hk1 hS => ?_)
  · rcases hBX with rfl
    exact vx_out (fun x hx => (htab x hx).elim) hlocks hq9 hcv hcl (fun t ht hW => ⟨(), trivial, rfl, hS.F ht⟩) hS.2.2 (Nat.le_of_ble_eq_true rfl) (Nat.le_of_ble_eq_true rfl)
  · exact hw.elim
def wk_X10_formulaKind : List Cond := .code yX10_formulaKind cX10_formulaKind 1 (some .int) :: (([.methodLink RX10 125 yX10_currentFormula, .instanceMethod yX10_currentFormula, .selects RX10 yX10_currentFormula yX10_currentFormula, .initialized RX10, .code yX10_currentFormula cX10_currentFormula 2 (some (.object "DocumentSpanner$Formula")), .fieldLink RX10 12 "DocumentSpanner" "state" "LDocumentSpanner$State;", .fieldLink RX10 121 "DocumentSpanner$State" "formula" "LDocumentSpanner$Formula;", .classLink RX10 80 ise, .initialized ise] : List Cond) ++ wsX100 ++ wsX80 ++ (vx_atS RX10 84 ise ["java/lang/RuntimeException", "java/lang/Exception"]).filter goodWord)
set_option maxRecDepth 20000 in
theorem ggk_X10_formulaKind_X10_currentFormula : GoodIn wk_X10_formulaKind wk_X10_currentFormula := goodIn_ca (goodIn_ca (goodIn_ca (goodIn_r _ [5, 6, 7, 8, 9] (by decide +kernel) (by decide +kernel)) (goodIn_sub (fun _ h => List.mem_cons_of_mem _ (List.mem_append_left _ (List.mem_append_left _ (List.mem_append_right _ h)))) (by decide +kernel))) (goodIn_sub (fun _ h => List.mem_cons_of_mem _ (List.mem_append_left _ (List.mem_append_right _ h))) (by decide +kernel))) (goodIn_sub (fun _ h => List.mem_cons_of_mem _ (List.mem_append_right _ h)) (by decide +kernel))
set_option maxRecDepth 20000 in
theorem gk_X10_formulaKind_X10_currentFormula : GoodIn wk_X10_formulaKind (wsV RX10 125 RX10 yX10_currentFormula wk_X10_currentFormula) := goodIn_app (goodIn_r _ [1, 2, 3, 4] (by decide +kernel) (by decide +kernel)) ggk_X10_formulaKind_X10_currentFormula
set_option maxHeartbeats 4000000 in
set_option maxRecDepth 100000 in
theorem k_X10_formulaKind (l : Launch) (htr : l.stackTraces = false) (D : va_G) (cI cJ cZ : ClassId) (x : Nat) (st : Nat) (kp : Nat) (bf : Nat) (o1 : Nat) (o2 : Nat) (o3 : Nat) (o4 : Nat) (o5 : Nat) (o6 : Nat) (lt : Nat) (tb : Nat) (fl : Nat) (wt : Nat) (sz : Nat) : vx_Met l yX10_formulaKind wk_X10_formulaKind ({ frames := 7, cells := 1, slots := 6, locals := 103 }) (xPc D cI cJ cZ [.ref x] [(x, .inr (9, [.ref st, .ref kp, .int 0, .ref bf, .int 0, .int (-1), .int (-1), .int 0, .ref o1, .ref o2, .ref o3, .ref o4, .ref o5, .ref o6])), (st, .inr (8, [.ref lt, .ref tb, .ref fl, .ref wt, .int 0, .null]))] sz) (va_Qi (fun (r : Int32) (u : Unit) => False) (fun (u : Unit) (t : State) => va_P D vwCl ([] : va_W) t.heap ∧ va_D (va_A [(x, .inr (9, [.ref st, .ref kp, .int 0, .ref bf, .int 0, .int (-1), .int (-1), .int 0, .ref o1, .ref o2, .ref o3, .ref o4, .ref o5, .ref o6])), (st, .inr (8, [.ref lt, .ref tb, .ref fl, .ref wt, .int 0, .null]))] sz) ([] : va_W)) (va_A [(x, .inr (9, [.ref st, .ref kp, .int 0, .ref bf, .int 0, .int (-1), .int (-1), .int 0, .ref o1, .ref o2, .ref o3, .ref o4, .ref o5, .ref o6])), (st, .inr (8, [.ref lt, .ref tb, .ref fl, .ref wt, .int 0, .null]))] sz)) (vx_X (fun _ : Unit => True) (fun (E : String) (_ : Unit) (_ : State) => (E = ise)) (va_A [(x, .inr (9, [.ref st, .ref kp, .int 0, .ref bf, .int 0, .int (-1), .int (-1), .int 0, .ref o1, .ref o2, .ref o3, .ref o4, .ref o5, .ref o6])), (st, .inr (8, [.ref lt, .ref tb, .ref fl, .ref wt, .int 0, .null]))] sz)) 1 6 (va_A [(x, .inr (9, [.ref st, .ref kp, .int 0, .ref bf, .int 0, .int (-1), .int (-1), .int 0, .ref o1, .ref o2, .ref o3, .ref o4, .ref o5, .ref o6])), (st, .inr (8, [.ref lt, .ref tb, .ref fl, .ref wt, .int 0, .null]))] sz) := by
  refine vx_ofW (cc := cX10_formulaKind) (maxL := 1) (ret := (some .int)) (by decide) rfl ?_
  intro p e s m args below meth c s₁ B hml htab hv
  obtain ⟨rfl, hsz, hP, hK, hD0, hE, hV⟩ := hv
  have hx := B.exec
  have hb := B.bytes
  have hr := B.returns
  have hts := atoms_spec (ws := wk_X10_formulaKind) B.pre
  have hown : s.vm.findClass RX10 = some m.cls := findClass_of_methodNamed B.named
  have hlocks := B.notSynchronized
  subst hsz
  have hD := hD0.self (sz := s.heap.size)
  generalize hAe : va_A [(x, .inr (9, [.ref st, .ref kp, .int 0, .ref bf, .int 0, .int (-1), .int (-1), .int 0, .ref o1, .ref o2, .ref o3, .ref o4, .ref o5, .ref o6])), (st, .inr (8, [.ref lt, .ref tb, .ref fl, .ref wt, .int 0, .null]))] s.heap.size = A at hD hE ⊢
  have hA : ∀ q : Nat, s.heap.size ≤ q → A q := fun q h => by rw [← hAe]; exact Or.inr h
  have hS : va_S A s.heap s.heap [] := va_S.rf
  have hP : va_P D vwCl [(x, .inr (9, [.ref st, .ref kp, .int 0, .ref bf, .int 0, .int (-1), .int (-1), .int 0, .ref o1, .ref o2, .ref o3, .ref o4, .ref o5, .ref o6])), (st, .inr (8, [.ref lt, .ref tb, .ref fl, .ref wt, .int 0, .null]))] s.heap := hP
  have hl := lv_entry ([.ref x]) (n := 1) (Nat.le_of_ble_eq_true rfl)
  rw [lg_entry_eq]
  generalize (lg_sl ([.ref x]) ++ List.replicate (1 - (lg_sl ([.ref x])).length) Slot.unset).toArray = ls at hl ⊢
  have hl : lv_has ls 1 [(0, .ref x)] := hl
  refine lv_aload_n hx hb dX10_formulaKind_0 rfl (lv_at hl 0 rfl) ?_
  have hPc := hP.sub (ws' := [(x, .inr (9, [.ref st, .ref kp, .int 0, .ref bf, .int 0, .int (-1), .int (-1), .int 0, .ref o1, .ref o2, .ref o3, .ref o4, .ref o5, .ref o6])), (st, .inr (8, [.ref lt, .ref tb, .ref fl, .ref wt, .int 0, .null]))]) [0, 1] rfl
  have hDc := hD.sub (ws' := [(x, .inr (9, [.ref st, .ref kp, .int 0, .ref bf, .int 0, .int (-1), .int (-1), .int 0, .ref o1, .ref o2, .ref o3, .ref o4, .ref o5, .ref o6])), (st, .inr (8, [.ref lt, .ref tb, .ref fl, .ref wt, .int 0, .null]))]) [0, 1] (by decide) rfl
  have hFc := va_free (wc := [(x, .inr (9, [.ref st, .ref kp, .int 0, .ref bf, .int 0, .int (-1), .int (-1), .int 0, .ref o1, .ref o2, .ref o3, .ref o4, .ref o5, .ref o6])), (st, .inr (8, [.ref lt, .ref tb, .ref fl, .ref wt, .int 0, .null]))]) hD hS hA [0, 1] rfl
  refine vx_callq (vx_runV (As := []) (rest := []) ⟨hx, hb, hml, hown, hts⟩ (k_X10_currentFormula l htr D cI cJ cZ x st kp bf o1 o2 o3 o4 o5 o6 lt tb fl wt s.heap.size) (cwV 0 hts gk_X10_formulaKind_X10_currentFormula rfl rfl rfl (by decide +kernel) ⟨Nat.le_of_ble_eq_true rfl, Nat.le_of_ble_eq_true rfl⟩) ⟨xPc_blind, va_recv hK hP (ci := 9) (q0 := 0) rfl rfl, xPc_pre hPc hK hDc hE hS hFc hV⟩ rfl rfl hl.1 rfl (lv_room (Nat.le_of_ble_eq_true rfl)) dX10_formulaKind_1 ⟨Nat.le_of_ble_eq_true rfl, Nat.le_of_ble_eq_true rfl⟩) hS (fun q _ h => hFc q h) hFc (fun q _ h => hFc q h) (fun E ce q9 u t H_1 locs ht hvm hpx hBX hz1 hk1 hS hq9 hcv hcl => ?_) (fun r u t H_1 locs ht hvm hw hB hz1 hk1 hS => ?_)
  · rcases hBX with rfl
    exact vx_out (fun x hx => (htab x hx).elim) hlocks hq9 hcv hcl (fun t ht hW => ⟨(), trivial, rfl, hS.F ht⟩) hS.2.2 (Nat.le_of_ble_eq_true rfl) (Nat.le_of_ble_eq_true rfl)
  · exact hw.elim
def wk_X10_extract : List Cond := .code yX10_extract cX10_extract 3 (some .int) :: (([.methodLink RX10 138 yX10_checkSlot, .static yX10_checkSlot, .initialized RX10, .code yX10_checkSlot cX10_checkSlot 1 none, .classLink RX10 91 iob, .initialized iob, .methodLink RX10 125 yX10_currentFormula, .instanceMethod yX10_currentFormula, .selects RX10 yX10_currentFormula yX10_currentFormula, .code yX10_currentFormula cX10_currentFormula 2 (some (.object "DocumentSpanner$Formula")), .fieldLink RX10 12 "DocumentSpanner" "state" "LDocumentSpanner$State;", .fieldLink RX10 121 "DocumentSpanner$State" "formula" "LDocumentSpanner$Formula;", .classLink RX10 80 ise, .initialized ise] : List Cond) ++ wsX100 ++ wsX80 ++ (vx_atS RX10 84 ise ["java/lang/RuntimeException", "java/lang/Exception"]).filter goodWord ++ (vx_atS RX10 95 iob ["java/lang/RuntimeException", "java/lang/Exception"]).filter goodWord)
set_option maxRecDepth 20000 in
theorem ggk_X10_extract_X10_checkSlot : GoodIn wk_X10_extract wk_X10_checkSlot := goodIn_ca (goodIn_r _ [4, 5, 6] (by decide +kernel) (by decide +kernel)) (goodIn_sub (fun _ h => List.mem_cons_of_mem _ (List.mem_append_right _ h)) (by decide +kernel))
set_option maxRecDepth 20000 in
theorem gk_X10_extract_X10_checkSlot : GoodIn wk_X10_extract (va_wsS RX10 138 yX10_checkSlot wk_X10_checkSlot) := goodIn_app (goodIn_r _ [1, 2, 3] (by decide +kernel) (by decide +kernel)) ggk_X10_extract_X10_checkSlot
set_option maxRecDepth 20000 in
theorem ggk_X10_extract_X10_currentFormula : GoodIn wk_X10_extract wk_X10_currentFormula := goodIn_ca (goodIn_ca (goodIn_ca (goodIn_r _ [10, 11, 12, 13, 14] (by decide +kernel) (by decide +kernel)) (goodIn_sub (fun _ h => List.mem_cons_of_mem _ (List.mem_append_left _ (List.mem_append_left _ (List.mem_append_left _ (List.mem_append_right _ h))))) (by decide +kernel))) (goodIn_sub (fun _ h => List.mem_cons_of_mem _ (List.mem_append_left _ (List.mem_append_left _ (List.mem_append_right _ h)))) (by decide +kernel))) (goodIn_sub (fun _ h => List.mem_cons_of_mem _ (List.mem_append_left _ (List.mem_append_right _ h))) (by decide +kernel))
set_option maxRecDepth 20000 in
theorem gk_X10_extract_X10_currentFormula : GoodIn wk_X10_extract (wsV RX10 125 RX10 yX10_currentFormula wk_X10_currentFormula) := goodIn_app (goodIn_r _ [7, 8, 9, 3] (by decide +kernel) (by decide +kernel)) ggk_X10_extract_X10_currentFormula
set_option maxHeartbeats 4000000 in
set_option maxRecDepth 100000 in
theorem k_X10_extract (l : Launch) (htr : l.stackTraces = false) (D : va_G) (cI cJ cZ : ClassId) (x : Nat) (st : Nat) (kp : Nat) (bf : Nat) (o1 : Nat) (o2 : Nat) (o3 : Nat) (o4 : Nat) (o5 : Nat) (o6 : Nat) (lt : Nat) (tb : Nat) (fl : Nat) (wt : Nat) (a0 : Int32) (sz : Nat) : vx_Met l yX10_extract wk_X10_extract ({ frames := 7, cells := 2, slots := 12, locals := 103 }) (xPc D cI cJ cZ [.ref x, .int a0] [(x, .inr (9, [.ref st, .ref kp, .int 0, .ref bf, .int 0, .int (-1), .int (-1), .int 0, .ref o1, .ref o2, .ref o3, .ref o4, .ref o5, .ref o6])), (st, .inr (8, [.ref lt, .ref tb, .ref fl, .ref wt, .int 0, .null]))] sz) (va_Qi (fun (r : Int32) (u : Unit) => False) (fun (u : Unit) (t : State) => va_P D vwCl ([] : va_W) t.heap ∧ va_D (va_A [(x, .inr (9, [.ref st, .ref kp, .int 0, .ref bf, .int 0, .int (-1), .int (-1), .int 0, .ref o1, .ref o2, .ref o3, .ref o4, .ref o5, .ref o6])), (st, .inr (8, [.ref lt, .ref tb, .ref fl, .ref wt, .int 0, .null]))] sz) ([] : va_W)) (va_A [(x, .inr (9, [.ref st, .ref kp, .int 0, .ref bf, .int 0, .int (-1), .int (-1), .int 0, .ref o1, .ref o2, .ref o3, .ref o4, .ref o5, .ref o6])), (st, .inr (8, [.ref lt, .ref tb, .ref fl, .ref wt, .int 0, .null]))] sz)) (vx_X (fun _ : Unit => True) (fun (E : String) (_ : Unit) (_ : State) => (E = iob ∧ a0.toInt < 0) ∨ (E = iob ∧ 0 ≤ a0.toInt ∧ 6 ≤ a0.toInt) ∨ (E = ise ∧ 0 ≤ a0.toInt ∧ a0.toInt < 6)) (va_A [(x, .inr (9, [.ref st, .ref kp, .int 0, .ref bf, .int 0, .int (-1), .int (-1), .int 0, .ref o1, .ref o2, .ref o3, .ref o4, .ref o5, .ref o6])), (st, .inr (8, [.ref lt, .ref tb, .ref fl, .ref wt, .int 0, .null]))] sz)) 2 12 (va_A [(x, .inr (9, [.ref st, .ref kp, .int 0, .ref bf, .int 0, .int (-1), .int (-1), .int 0, .ref o1, .ref o2, .ref o3, .ref o4, .ref o5, .ref o6])), (st, .inr (8, [.ref lt, .ref tb, .ref fl, .ref wt, .int 0, .null]))] sz) := by
  refine vx_ofW (cc := cX10_extract) (maxL := 3) (ret := (some .int)) (by decide) rfl ?_
  intro p e s m args below meth c s₁ B hml htab hv
  obtain ⟨rfl, hsz, hP, hK, hD0, hE, hV⟩ := hv
  have hx := B.exec
  have hb := B.bytes
  have hr := B.returns
  have hts := atoms_spec (ws := wk_X10_extract) B.pre
  have hown : s.vm.findClass RX10 = some m.cls := findClass_of_methodNamed B.named
  have hlocks := B.notSynchronized
  subst hsz
  have hD := hD0.self (sz := s.heap.size)
  generalize hAe : va_A [(x, .inr (9, [.ref st, .ref kp, .int 0, .ref bf, .int 0, .int (-1), .int (-1), .int 0, .ref o1, .ref o2, .ref o3, .ref o4, .ref o5, .ref o6])), (st, .inr (8, [.ref lt, .ref tb, .ref fl, .ref wt, .int 0, .null]))] s.heap.size = A at hD hE ⊢
  have hA : ∀ q : Nat, s.heap.size ≤ q → A q := fun q h => by rw [← hAe]; exact Or.inr h
  have hS : va_S A s.heap s.heap [] := va_S.rf
  have hP : va_P D vwCl [(x, .inr (9, [.ref st, .ref kp, .int 0, .ref bf, .int 0, .int (-1), .int (-1), .int 0, .ref o1, .ref o2, .ref o3, .ref o4, .ref o5, .ref o6])), (st, .inr (8, [.ref lt, .ref tb, .ref fl, .ref wt, .int 0, .null]))] s.heap := hP
  have hl := lv_entry ([.ref x, .int a0]) (n := 3) (Nat.le_of_ble_eq_true rfl)
  rw [lg_entry_eq]
  generalize (lg_sl ([.ref x, .int a0]) ++ List.replicate (3 - (lg_sl ([.ref x, .int a0])).length) Slot.unset).toArray = ls at hl ⊢
  have hl : lv_has ls 3 [(0, .ref x), (1, .int a0)] := hl
  refine lv_iload_n hx hb dX10_extract_0 rfl (lv_at hl 1 rfl) ?_
  have hPc := hP.sub (ws' := []) [] rfl
  have hDc := hD.sub (ws' := []) [] (by decide) rfl
  have hFc := va_free (wc := []) hD hS hA [] rfl
  refine vx_callv (vx_runS (As := [.int a0]) (rest := []) ⟨hx, hb, hml, hown, hts⟩ (k_X10_checkSlot l htr D cI cJ cZ a0 s.heap.size) (va_cwS 1 hts gk_X10_extract_X10_checkSlot rfl rfl rfl (by decide +kernel) ⟨Nat.le_of_ble_eq_true rfl, Nat.le_of_ble_eq_true rfl⟩) ⟨xPc_blind, xPc_pre hPc hK hDc hE hS hFc hV⟩ rfl rfl hl.1 rfl (lv_room (Nat.le_of_ble_eq_true rfl)) dX10_extract_1 ⟨Nat.le_of_ble_eq_true rfl, Nat.le_of_ble_eq_true rfl⟩) hS (fun q _ h => hFc q h) hFc (fun q _ h => hFc q h) (fun E ce q9 u t H_1 locs ht hvm hpx hBX hz1 hk1 hS hq9 hcv hcl => ?_) (fun u t H_1 locs ht hvm hw hB hz1 hk1 hS => ?_)
  · rcases hBX with ⟨rfl, e_0⟩ | ⟨rfl, e_0, e_1⟩
    · have c_2 : a0.toInt < 0 := e_0
      exact vx_out (fun x hx => (htab x hx).elim) hlocks hq9 hcv hcl (fun t ht hW => ⟨(), trivial, Or.inl ⟨rfl, c_2⟩, hS.F ht⟩) hS.2.2 (Nat.le_of_ble_eq_true rfl) (Nat.le_of_ble_eq_true rfl)
    · have c_3 : 0 ≤ a0.toInt := e_0
      have c_4 : 6 ≤ a0.toInt := e_1
      exact vx_out (fun x hx => (htab x hx).elim) hlocks hq9 hcv hcl (fun t ht hW => ⟨(), trivial, Or.inr (Or.inl ⟨rfl, c_3, c_4⟩), hS.F ht⟩) hS.2.2 (Nat.le_of_ble_eq_true rfl) (Nat.le_of_ble_eq_true rfl)
  · rcases hw with ⟨e_0, e_1⟩
    have c_5 : 0 ≤ a0.toInt := e_0
    have c_6 : a0.toInt < 6 := e_1
    obtain ⟨hP1, hD1⟩ := hB
    rw [ht] at hP1
    obtain ⟨hP, hD⟩ := va_join (wr := [(x, .inr (9, [.ref st, .ref kp, .int 0, .ref bf, .int 0, .int (-1), .int (-1), .int 0, .ref o1, .ref o2, .ref o3, .ref o4, .ref o5, .ref o6])), (st, .inr (8, [.ref lt, .ref tb, .ref fl, .ref wt, .int 0, .null]))]) (w1 := []) hP hD [] [0, 1] rfl rfl (by decide) (by decide) hk1 hFc hP1 hD1
    have hP : va_P D vwCl [(x, .inr (9, [.ref st, .ref kp, .int 0, .ref bf, .int 0, .int (-1), .int (-1), .int 0, .ref o1, .ref o2, .ref o3, .ref o4, .ref o5, .ref o6])), (st, .inr (8, [.ref lt, .ref tb, .ref fl, .ref wt, .int 0, .null]))] H_1 := hP
    have hD : va_D A [(x, .inr (9, [.ref st, .ref kp, .int 0, .ref bf, .int 0, .int (-1), .int (-1), .int 0, .ref o1, .ref o2, .ref o3, .ref o4, .ref o5, .ref o6])), (st, .inr (8, [.ref lt, .ref tb, .ref fl, .ref wt, .int 0, .null]))] := hD
    refine W.widen (k := 1) (n := 6) (Nat.le_of_ble_eq_true rfl) (Nat.le_of_ble_eq_true rfl) ?_
    refine lv_aload_n hx hb dX10_extract_4 rfl (lv_at hl 0 rfl) ?_
    have hPc := hP.sub (ws' := [(x, .inr (9, [.ref st, .ref kp, .int 0, .ref bf, .int 0, .int (-1), .int (-1), .int 0, .ref o1, .ref o2, .ref o3, .ref o4, .ref o5, .ref o6])), (st, .inr (8, [.ref lt, .ref tb, .ref fl, .ref wt, .int 0, .null]))]) [0, 1] rfl
    have hDc := hD.sub (ws' := [(x, .inr (9, [.ref st, .ref kp, .int 0, .ref bf, .int 0, .int (-1), .int (-1), .int 0, .ref o1, .ref o2, .ref o3, .ref o4, .ref o5, .ref o6])), (st, .inr (8, [.ref lt, .ref tb, .ref fl, .ref wt, .int 0, .null]))]) [0, 1] (by decide) rfl
    have hFc := va_free (wc := [(x, .inr (9, [.ref st, .ref kp, .int 0, .ref bf, .int 0, .int (-1), .int (-1), .int 0, .ref o1, .ref o2, .ref o3, .ref o4, .ref o5, .ref o6])), (st, .inr (8, [.ref lt, .ref tb, .ref fl, .ref wt, .int 0, .null]))]) hD hS hA [0, 1] rfl
    refine vx_callq (vx_runV (As := []) (rest := []) ⟨hx, hb, hml, hown, hts⟩ (k_X10_currentFormula l htr D cI cJ cZ x st kp bf o1 o2 o3 o4 o5 o6 lt tb fl wt H_1.size) (cwV 0 hts gk_X10_extract_X10_currentFormula rfl rfl rfl (by decide +kernel) ⟨Nat.le_of_ble_eq_true rfl, Nat.le_of_ble_eq_true rfl⟩) ⟨xPc_blind, va_recv hK hP (ci := 9) (q0 := 0) rfl rfl, xPc_pre hPc hK hDc hE hS hFc hV⟩ rfl rfl hl.1 rfl (lv_room (Nat.le_of_ble_eq_true rfl)) dX10_extract_5 ⟨Nat.le_of_ble_eq_true rfl, Nat.le_of_ble_eq_true rfl⟩) hS (fun q _ h => hFc q h) hFc (fun q _ h => hFc q h) (fun E ce q9 u t H_7 locs ht hvm hpx hBX hz1 hk1 hS hq9 hcv hcl => ?_) (fun r u t H_7 locs ht hvm hw hB hz1 hk1 hS => ?_)
    · rcases hBX with rfl
      exact vx_out (fun x hx => (htab x hx).elim) hlocks hq9 hcv hcl (fun t ht hW => ⟨(), trivial, Or.inr (Or.inr ⟨rfl, c_5, c_6⟩), hS.F ht⟩) hS.2.2 (Nat.le_of_ble_eq_true rfl) (Nat.le_of_ble_eq_true rfl)
    · exact hw.elim
def wk_X10_size : List Cond := .code yX10_size cX10_size 2 (some .int) :: (([.methodLink RX10 153 yX10_tableIn, .instanceMethod yX10_tableIn, .selects RX10 yX10_tableIn yX10_tableIn, .initialized RX10, .code yX10_tableIn cX10_tableIn 2 (some (.object "DocumentSpanner$SortedInts")), .fieldLink RX10 12 "DocumentSpanner" "state" "LDocumentSpanner$State;", .fieldLink RX10 96 "DocumentSpanner$State" "filled" "[Z", .classLink RX10 80 ise, .initialized ise, .methodLink RX10 138 yX10_checkSlot, .static yX10_checkSlot, .code yX10_checkSlot cX10_checkSlot 1 none, .classLink RX10 91 iob, .initialized iob] : List Cond) ++ wsX100 ++ wsX80 ++ (vx_atS RX10 84 ise ["java/lang/RuntimeException", "java/lang/Exception"]).filter goodWord ++ (vx_atS RX10 95 iob ["java/lang/RuntimeException", "java/lang/Exception"]).filter goodWord)
set_option maxRecDepth 20000 in
theorem ggk_X10_size_X10_tableIn : GoodIn wk_X10_size wk_X10_tableIn := goodIn_ca (goodIn_ca (goodIn_ca (goodIn_ca (goodIn_r _ [5, 6, 7, 8, 9, 10, 11, 4, 12, 13, 14] (by decide +kernel) (by decide +kernel)) (goodIn_sub (fun _ h => List.mem_cons_of_mem _ (List.mem_append_left _ (List.mem_append_left _ (List.mem_append_left _ (List.mem_append_right _ h))))) (by decide +kernel))) (goodIn_sub (fun _ h => List.mem_cons_of_mem _ (List.mem_append_left _ (List.mem_append_left _ (List.mem_append_right _ h)))) (by decide +kernel))) (goodIn_sub (fun _ h => List.mem_cons_of_mem _ (List.mem_append_left _ (List.mem_append_right _ h))) (by decide +kernel))) (goodIn_sub (fun _ h => List.mem_cons_of_mem _ (List.mem_append_right _ h)) (by decide +kernel))
set_option maxRecDepth 20000 in
theorem gk_X10_size_X10_tableIn : GoodIn wk_X10_size (wsV RX10 153 RX10 yX10_tableIn wk_X10_tableIn) := goodIn_app (goodIn_r _ [1, 2, 3, 4] (by decide +kernel) (by decide +kernel)) ggk_X10_size_X10_tableIn
set_option maxHeartbeats 4000000 in
set_option maxRecDepth 100000 in
theorem k_X10_size (l : Launch) (htr : l.stackTraces = false) (D : va_G) (cI cJ cZ : ClassId) (x : Nat) (st : Nat) (kp : Nat) (bf : Nat) (o1 : Nat) (o2 : Nat) (o3 : Nat) (o4 : Nat) (o5 : Nat) (o6 : Nat) (lt : Nat) (tb : Nat) (fl : Nat) (wt : Nat) (a0 : Int32) (sz : Nat) : vx_Met l yX10_size wk_X10_size ({ frames := 8, cells := 2, slots := 12, locals := 123 }) (xPc D cI cJ cZ [.ref x, .int a0] [(x, .inr (9, [.ref st, .ref kp, .int 0, .ref bf, .int 0, .int (-1), .int (-1), .int 0, .ref o1, .ref o2, .ref o3, .ref o4, .ref o5, .ref o6])), (st, .inr (8, [.ref lt, .ref tb, .ref fl, .ref wt, .int 0, .null])), (fl, .inl (cZ, 6, .inl (fun _ => 0)))] sz) (va_Qi (fun (r : Int32) (u : Unit) => False) (fun (u : Unit) (t : State) => va_P D vwCl ([] : va_W) t.heap ∧ va_D (va_A [(x, .inr (9, [.ref st, .ref kp, .int 0, .ref bf, .int 0, .int (-1), .int (-1), .int 0, .ref o1, .ref o2, .ref o3, .ref o4, .ref o5, .ref o6])), (st, .inr (8, [.ref lt, .ref tb, .ref fl, .ref wt, .int 0, .null])), (fl, .inl (cZ, 6, .inl (fun _ => 0)))] sz) ([] : va_W)) (va_A [(x, .inr (9, [.ref st, .ref kp, .int 0, .ref bf, .int 0, .int (-1), .int (-1), .int 0, .ref o1, .ref o2, .ref o3, .ref o4, .ref o5, .ref o6])), (st, .inr (8, [.ref lt, .ref tb, .ref fl, .ref wt, .int 0, .null])), (fl, .inl (cZ, 6, .inl (fun _ => 0)))] sz)) (vx_X (fun _ : Unit => True) (fun (E : String) (_ : Unit) (_ : State) => (E = iob ∧ a0.toInt < 0) ∨ (E = iob ∧ 0 ≤ a0.toInt ∧ 6 ≤ a0.toInt) ∨ (E = ise ∧ 0 ≤ a0.toInt ∧ a0.toInt < 6)) (va_A [(x, .inr (9, [.ref st, .ref kp, .int 0, .ref bf, .int 0, .int (-1), .int (-1), .int 0, .ref o1, .ref o2, .ref o3, .ref o4, .ref o5, .ref o6])), (st, .inr (8, [.ref lt, .ref tb, .ref fl, .ref wt, .int 0, .null])), (fl, .inl (cZ, 6, .inl (fun _ => 0)))] sz)) 2 12 (va_A [(x, .inr (9, [.ref st, .ref kp, .int 0, .ref bf, .int 0, .int (-1), .int (-1), .int 0, .ref o1, .ref o2, .ref o3, .ref o4, .ref o5, .ref o6])), (st, .inr (8, [.ref lt, .ref tb, .ref fl, .ref wt, .int 0, .null])), (fl, .inl (cZ, 6, .inl (fun _ => 0)))] sz) := by
  refine vx_ofW (cc := cX10_size) (maxL := 2) (ret := (some .int)) (by decide) rfl ?_
  intro p e s m args below meth c s₁ B hml htab hv
  obtain ⟨rfl, hsz, hP, hK, hD0, hE, hV⟩ := hv
  have hx := B.exec
  have hb := B.bytes
  have hr := B.returns
  have hts := atoms_spec (ws := wk_X10_size) B.pre
  have hown : s.vm.findClass RX10 = some m.cls := findClass_of_methodNamed B.named
  have hlocks := B.notSynchronized
  subst hsz
  have hD := hD0.self (sz := s.heap.size)
  generalize hAe : va_A [(x, .inr (9, [.ref st, .ref kp, .int 0, .ref bf, .int 0, .int (-1), .int (-1), .int 0, .ref o1, .ref o2, .ref o3, .ref o4, .ref o5, .ref o6])), (st, .inr (8, [.ref lt, .ref tb, .ref fl, .ref wt, .int 0, .null])), (fl, .inl (cZ, 6, .inl (fun _ => 0)))] s.heap.size = A at hD hE ⊢
  have hA : ∀ q : Nat, s.heap.size ≤ q → A q := fun q h => by rw [← hAe]; exact Or.inr h
  have hS : va_S A s.heap s.heap [] := va_S.rf
  have hP : va_P D vwCl [(x, .inr (9, [.ref st, .ref kp, .int 0, .ref bf, .int 0, .int (-1), .int (-1), .int 0, .ref o1, .ref o2, .ref o3, .ref o4, .ref o5, .ref o6])), (st, .inr (8, [.ref lt, .ref tb, .ref fl, .ref wt, .int 0, .null])), (fl, .inl (cZ, 6, .inl (fun _ => 0)))] s.heap := hP
  have hl := lv_entry ([.ref x, .int a0]) (n := 2) (Nat.le_of_ble_eq_true rfl)
  rw [lg_entry_eq]
  generalize (lg_sl ([.ref x, .int a0]) ++ List.replicate (2 - (lg_sl ([.ref x, .int a0])).length) Slot.unset).toArray = ls at hl ⊢
  have hl : lv_has ls 2 [(0, .ref x), (1, .int a0)] := hl
  refine lv_aload_n hx hb dX10_size_0 rfl (lv_at hl 0 rfl) ?_
  refine lv_iload_n hx hb dX10_size_1 rfl (lv_at hl 1 rfl) ?_
  have hPc := hP.sub (ws' := [(x, .inr (9, [.ref st, .ref kp, .int 0, .ref bf, .int 0, .int (-1), .int (-1), .int 0, .ref o1, .ref o2, .ref o3, .ref o4, .ref o5, .ref o6])), (st, .inr (8, [.ref lt, .ref tb, .ref fl, .ref wt, .int 0, .null])), (fl, .inl (cZ, 6, .inl (fun _ => 0)))]) [0, 1, 2] rfl
  have hDc := hD.sub (ws' := [(x, .inr (9, [.ref st, .ref kp, .int 0, .ref bf, .int 0, .int (-1), .int (-1), .int 0, .ref o1, .ref o2, .ref o3, .ref o4, .ref o5, .ref o6])), (st, .inr (8, [.ref lt, .ref tb, .ref fl, .ref wt, .int 0, .null])), (fl, .inl (cZ, 6, .inl (fun _ => 0)))]) [0, 1, 2] (by decide) rfl
  have hFc := va_free (wc := [(x, .inr (9, [.ref st, .ref kp, .int 0, .ref bf, .int 0, .int (-1), .int (-1), .int 0, .ref o1, .ref o2, .ref o3, .ref o4, .ref o5, .ref o6])), (st, .inr (8, [.ref lt, .ref tb, .ref fl, .ref wt, .int 0, .null])), (fl, .inl (cZ, 6, .inl (fun _ => 0)))]) hD hS hA [0, 1, 2] rfl
  refine vx_callq (vx_runV (As := [.int a0]) (rest := []) ⟨hx, hb, hml, hown, hts⟩ (k_X10_tableIn l htr D cI cJ cZ x st kp bf o1 o2 o3 o4 o5 o6 lt tb fl wt a0 s.heap.size) (cwV 1 hts gk_X10_size_X10_tableIn rfl rfl rfl (by decide +kernel) ⟨Nat.le_of_ble_eq_true rfl, Nat.le_of_ble_eq_true rfl⟩) ⟨xPc_blind, va_recv hK hP (ci := 9) (q0 := 0) rfl rfl, xPc_pre hPc hK hDc hE hS hFc hV⟩ rfl rfl hl.1 rfl (lv_room (Nat.le_of_ble_eq_true rfl)) dX10_size_2 ⟨Nat.le_of_ble_eq_true rfl, Nat.le_of_ble_eq_true rfl⟩) hS (fun q _ h => hFc q h) hFc (fun q _ h => hFc q h) (fun E ce q9 u t H_1 locs ht hvm hpx hBX hz1 hk1 hS hq9 hcv hcl => ?_) (fun r u t H_1 locs ht hvm hw hB hz1 hk1 hS => ?_)
  · rcases hBX with ⟨rfl, e_0⟩ | ⟨rfl, e_0, e_1⟩ | ⟨rfl, e_0, e_1⟩
    · have c_2 : a0.toInt < 0 := e_0
      exact vx_out (fun x hx => (htab x hx).elim) hlocks hq9 hcv hcl (fun t ht hW => ⟨(), trivial, Or.inl ⟨rfl, c_2⟩, hS.F ht⟩) hS.2.2 (Nat.le_of_ble_eq_true rfl) (Nat.le_of_ble_eq_true rfl)
    · have c_3 : 0 ≤ a0.toInt := e_0
      have c_4 : 6 ≤ a0.toInt := e_1
      exact vx_out (fun x hx => (htab x hx).elim) hlocks hq9 hcv hcl (fun t ht hW => ⟨(), trivial, Or.inr (Or.inl ⟨rfl, c_3, c_4⟩), hS.F ht⟩) hS.2.2 (Nat.le_of_ble_eq_true rfl) (Nat.le_of_ble_eq_true rfl)
    · have c_5 : 0 ≤ a0.toInt := e_0
      have c_6 : a0.toInt < 6 := e_1
      exact vx_out (fun x hx => (htab x hx).elim) hlocks hq9 hcv hcl (fun t ht hW => ⟨(), trivial, Or.inr (Or.inr ⟨rfl, c_5, c_6⟩), hS.F ht⟩) hS.2.2 (Nat.le_of_ble_eq_true rfl) (Nat.le_of_ble_eq_true rfl)
  · exact hw.elim
def wk_X10_spanAt : List Cond := .code yX10_spanAt cX10_spanAt 5 (some .int) :: (([.methodLink RX10 153 yX10_tableIn, .instanceMethod yX10_tableIn, .selects RX10 yX10_tableIn yX10_tableIn, .initialized RX10, .code yX10_tableIn cX10_tableIn 2 (some (.object "DocumentSpanner$SortedInts")), .fieldLink RX10 12 "DocumentSpanner" "state" "LDocumentSpanner$State;", .fieldLink RX10 96 "DocumentSpanner$State" "filled" "[Z", .classLink RX10 80 ise, .initialized ise, .methodLink RX10 138 yX10_checkSlot, .static yX10_checkSlot, .code yX10_checkSlot cX10_checkSlot 1 none, .classLink RX10 91 iob, .initialized iob] : List Cond) ++ wsX100 ++ wsX80 ++ (vx_atS RX10 84 ise ["java/lang/RuntimeException", "java/lang/Exception"]).filter goodWord ++ (vx_atS RX10 95 iob ["java/lang/RuntimeException", "java/lang/Exception"]).filter goodWord)
set_option maxRecDepth 20000 in
theorem ggk_X10_spanAt_X10_tableIn : GoodIn wk_X10_spanAt wk_X10_tableIn := goodIn_ca (goodIn_ca (goodIn_ca (goodIn_ca (goodIn_r _ [5, 6, 7, 8, 9, 10, 11, 4, 12, 13, 14] (by decide +kernel) (by decide +kernel)) (goodIn_sub (fun _ h => List.mem_cons_of_mem _ (List.mem_append_left _ (List.mem_append_left _ (List.mem_append_left _ (List.mem_append_right _ h))))) (by decide +kernel))) (goodIn_sub (fun _ h => List.mem_cons_of_mem _ (List.mem_append_left _ (List.mem_append_left _ (List.mem_append_right _ h)))) (by decide +kernel))) (goodIn_sub (fun _ h => List.mem_cons_of_mem _ (List.mem_append_left _ (List.mem_append_right _ h))) (by decide +kernel))) (goodIn_sub (fun _ h => List.mem_cons_of_mem _ (List.mem_append_right _ h)) (by decide +kernel))
set_option maxRecDepth 20000 in
theorem gk_X10_spanAt_X10_tableIn : GoodIn wk_X10_spanAt (wsV RX10 153 RX10 yX10_tableIn wk_X10_tableIn) := goodIn_app (goodIn_r _ [1, 2, 3, 4] (by decide +kernel) (by decide +kernel)) ggk_X10_spanAt_X10_tableIn
set_option maxHeartbeats 4000000 in
set_option maxRecDepth 100000 in
theorem k_X10_spanAt (l : Launch) (htr : l.stackTraces = false) (D : va_G) (cI cJ cZ : ClassId) (x : Nat) (st : Nat) (kp : Nat) (bf : Nat) (o1 : Nat) (o2 : Nat) (o3 : Nat) (o4 : Nat) (o5 : Nat) (o6 : Nat) (lt : Nat) (tb : Nat) (fl : Nat) (wt : Nat) (a0 : Int32) (a1 : Int32) (a2 : Int32) (sz : Nat) : vx_Met l yX10_spanAt wk_X10_spanAt ({ frames := 8, cells := 2, slots := 12, locals := 123 }) (xPc D cI cJ cZ [.ref x, .int a0, .int a1, .int a2] [(x, .inr (9, [.ref st, .ref kp, .int 0, .ref bf, .int 0, .int (-1), .int (-1), .int 0, .ref o1, .ref o2, .ref o3, .ref o4, .ref o5, .ref o6])), (st, .inr (8, [.ref lt, .ref tb, .ref fl, .ref wt, .int 0, .null])), (fl, .inl (cZ, 6, .inl (fun _ => 0)))] sz) (va_Qi (fun (r : Int32) (u : Unit) => False) (fun (u : Unit) (t : State) => va_P D vwCl ([] : va_W) t.heap ∧ va_D (va_A [(x, .inr (9, [.ref st, .ref kp, .int 0, .ref bf, .int 0, .int (-1), .int (-1), .int 0, .ref o1, .ref o2, .ref o3, .ref o4, .ref o5, .ref o6])), (st, .inr (8, [.ref lt, .ref tb, .ref fl, .ref wt, .int 0, .null])), (fl, .inl (cZ, 6, .inl (fun _ => 0)))] sz) ([] : va_W)) (va_A [(x, .inr (9, [.ref st, .ref kp, .int 0, .ref bf, .int 0, .int (-1), .int (-1), .int 0, .ref o1, .ref o2, .ref o3, .ref o4, .ref o5, .ref o6])), (st, .inr (8, [.ref lt, .ref tb, .ref fl, .ref wt, .int 0, .null])), (fl, .inl (cZ, 6, .inl (fun _ => 0)))] sz)) (vx_X (fun _ : Unit => True) (fun (E : String) (_ : Unit) (_ : State) => (E = iob ∧ a0.toInt < 0) ∨ (E = iob ∧ 0 ≤ a0.toInt ∧ 6 ≤ a0.toInt) ∨ (E = ise ∧ 0 ≤ a0.toInt ∧ a0.toInt < 6)) (va_A [(x, .inr (9, [.ref st, .ref kp, .int 0, .ref bf, .int 0, .int (-1), .int (-1), .int 0, .ref o1, .ref o2, .ref o3, .ref o4, .ref o5, .ref o6])), (st, .inr (8, [.ref lt, .ref tb, .ref fl, .ref wt, .int 0, .null])), (fl, .inl (cZ, 6, .inl (fun _ => 0)))] sz)) 2 12 (va_A [(x, .inr (9, [.ref st, .ref kp, .int 0, .ref bf, .int 0, .int (-1), .int (-1), .int 0, .ref o1, .ref o2, .ref o3, .ref o4, .ref o5, .ref o6])), (st, .inr (8, [.ref lt, .ref tb, .ref fl, .ref wt, .int 0, .null])), (fl, .inl (cZ, 6, .inl (fun _ => 0)))] sz) := by
  refine vx_ofW (cc := cX10_spanAt) (maxL := 5) (ret := (some .int)) (by decide) rfl ?_
  intro p e s m args below meth c s₁ B hml htab hv
  obtain ⟨rfl, hsz, hP, hK, hD0, hE, hV⟩ := hv
  have hx := B.exec
  have hb := B.bytes
  have hr := B.returns
  have hts := atoms_spec (ws := wk_X10_spanAt) B.pre
  have hown : s.vm.findClass RX10 = some m.cls := findClass_of_methodNamed B.named
  have hlocks := B.notSynchronized
  subst hsz
  have hD := hD0.self (sz := s.heap.size)
  generalize hAe : va_A [(x, .inr (9, [.ref st, .ref kp, .int 0, .ref bf, .int 0, .int (-1), .int (-1), .int 0, .ref o1, .ref o2, .ref o3, .ref o4, .ref o5, .ref o6])), (st, .inr (8, [.ref lt, .ref tb, .ref fl, .ref wt, .int 0, .null])), (fl, .inl (cZ, 6, .inl (fun _ => 0)))] s.heap.size = A at hD hE ⊢
  have hA : ∀ q : Nat, s.heap.size ≤ q → A q := fun q h => by rw [← hAe]; exact Or.inr h
  have hS : va_S A s.heap s.heap [] := va_S.rf
  have hP : va_P D vwCl [(x, .inr (9, [.ref st, .ref kp, .int 0, .ref bf, .int 0, .int (-1), .int (-1), .int 0, .ref o1, .ref o2, .ref o3, .ref o4, .ref o5, .ref o6])), (st, .inr (8, [.ref lt, .ref tb, .ref fl, .ref wt, .int 0, .null])), (fl, .inl (cZ, 6, .inl (fun _ => 0)))] s.heap := hP
  have hl := lv_entry ([.ref x, .int a0, .int a1, .int a2]) (n := 5) (Nat.le_of_ble_eq_true rfl)
  rw [lg_entry_eq]
  generalize (lg_sl ([.ref x, .int a0, .int a1, .int a2]) ++ List.replicate (5 - (lg_sl ([.ref x, .int a0, .int a1, .int a2])).length) Slot.unset).toArray = ls at hl ⊢
  have hl : lv_has ls 5 [(0, .ref x), (1, .int a0), (2, .int a1), (3, .int a2)] := hl
  refine lv_aload_n hx hb dX10_spanAt_0 rfl (lv_at hl 0 rfl) ?_
  refine lv_iload_n hx hb dX10_spanAt_1 rfl (lv_at hl 1 rfl) ?_
  have hPc := hP.sub (ws' := [(x, .inr (9, [.ref st, .ref kp, .int 0, .ref bf, .int 0, .int (-1), .int (-1), .int 0, .ref o1, .ref o2, .ref o3, .ref o4, .ref o5, .ref o6])), (st, .inr (8, [.ref lt, .ref tb, .ref fl, .ref wt, .int 0, .null])), (fl, .inl (cZ, 6, .inl (fun _ => 0)))]) [0, 1, 2] rfl
  have hDc := hD.sub (ws' := [(x, .inr (9, [.ref st, .ref kp, .int 0, .ref bf, .int 0, .int (-1), .int (-1), .int 0, .ref o1, .ref o2, .ref o3, .ref o4, .ref o5, .ref o6])), (st, .inr (8, [.ref lt, .ref tb, .ref fl, .ref wt, .int 0, .null])), (fl, .inl (cZ, 6, .inl (fun _ => 0)))]) [0, 1, 2] (by decide) rfl
  have hFc := va_free (wc := [(x, .inr (9, [.ref st, .ref kp, .int 0, .ref bf, .int 0, .int (-1), .int (-1), .int 0, .ref o1, .ref o2, .ref o3, .ref o4, .ref o5, .ref o6])), (st, .inr (8, [.ref lt, .ref tb, .ref fl, .ref wt, .int 0, .null])), (fl, .inl (cZ, 6, .inl (fun _ => 0)))]) hD hS hA [0, 1, 2] rfl
  refine vx_callq (vx_runV (As := [.int a0]) (rest := []) ⟨hx, hb, hml, hown, hts⟩ (k_X10_tableIn l htr D cI cJ cZ x st kp bf o1 o2 o3 o4 o5 o6 lt tb fl wt a0 s.heap.size) (cwV 1 hts gk_X10_spanAt_X10_tableIn rfl rfl rfl (by decide +kernel) ⟨Nat.le_of_ble_eq_true rfl, Nat.le_of_ble_eq_true rfl⟩) ⟨xPc_blind, va_recv hK hP (ci := 9) (q0 := 0) rfl rfl, xPc_pre hPc hK hDc hE hS hFc hV⟩ rfl rfl hl.1 rfl (lv_room (Nat.le_of_ble_eq_true rfl)) dX10_spanAt_2 ⟨Nat.le_of_ble_eq_true rfl, Nat.le_of_ble_eq_true rfl⟩) hS (fun q _ h => hFc q h) hFc (fun q _ h => hFc q h) (fun E ce q9 u t H_1 locs ht hvm hpx hBX hz1 hk1 hS hq9 hcv hcl => ?_) (fun r u t H_1 locs ht hvm hw hB hz1 hk1 hS => ?_)
  · rcases hBX with ⟨rfl, e_0⟩ | ⟨rfl, e_0, e_1⟩ | ⟨rfl, e_0, e_1⟩
    · have c_2 : a0.toInt < 0 := e_0
      exact vx_out (fun x hx => (htab x hx).elim) hlocks hq9 hcv hcl (fun t ht hW => ⟨(), trivial, Or.inl ⟨rfl, c_2⟩, hS.F ht⟩) hS.2.2 (Nat.le_of_ble_eq_true rfl) (Nat.le_of_ble_eq_true rfl)
    · have c_3 : 0 ≤ a0.toInt := e_0
      have c_4 : 6 ≤ a0.toInt := e_1
      exact vx_out (fun x hx => (htab x hx).elim) hlocks hq9 hcv hcl (fun t ht hW => ⟨(), trivial, Or.inr (Or.inl ⟨rfl, c_3, c_4⟩), hS.F ht⟩) hS.2.2 (Nat.le_of_ble_eq_true rfl) (Nat.le_of_ble_eq_true rfl)
    · have c_5 : 0 ≤ a0.toInt := e_0
      have c_6 : a0.toInt < 6 := e_1
      exact vx_out (fun x hx => (htab x hx).elim) hlocks hq9 hcv hcl (fun t ht hW => ⟨(), trivial, Or.inr (Or.inr ⟨rfl, c_5, c_6⟩), hS.F ht⟩) hS.2.2 (Nat.le_of_ble_eq_true rfl) (Nat.le_of_ble_eq_true rfl)
  · exact hw.elim
def wk_X10_start : List Cond := .code yX10_start cX10_start 4 (some .int) :: (([.methodLink RX10 160 yX10_spanAt, .instanceMethod yX10_spanAt, .selects RX10 yX10_spanAt yX10_spanAt, .initialized RX10, .code yX10_spanAt cX10_spanAt 5 (some .int), .methodLink RX10 153 yX10_tableIn, .instanceMethod yX10_tableIn, .selects RX10 yX10_tableIn yX10_tableIn, .code yX10_tableIn cX10_tableIn 2 (some (.object "DocumentSpanner$SortedInts")), .fieldLink RX10 12 "DocumentSpanner" "state" "LDocumentSpanner$State;", .fieldLink RX10 96 "DocumentSpanner$State" "filled" "[Z", .classLink RX10 80 ise, .initialized ise, .methodLink RX10 138 yX10_checkSlot, .static yX10_checkSlot, .code yX10_checkSlot cX10_checkSlot 1 none, .classLink RX10 91 iob, .initialized iob] : List Cond) ++ wsX100 ++ wsX80 ++ (vx_atS RX10 84 ise ["java/lang/RuntimeException", "java/lang/Exception"]).filter goodWord ++ (vx_atS RX10 95 iob ["java/lang/RuntimeException", "java/lang/Exception"]).filter goodWord)
set_option maxRecDepth 20000 in
theorem ggk_X10_start_X10_spanAt : GoodIn wk_X10_start wk_X10_spanAt := goodIn_ca (goodIn_ca (goodIn_ca (goodIn_ca (goodIn_r _ [5, 6, 7, 8, 4, 9, 10, 11, 12, 13, 14, 15, 16, 17, 18] (by decide +kernel) (by decide +kernel)) (goodIn_sub (fun _ h => List.mem_cons_of_mem _ (List.mem_append_left _ (List.mem_append_left _ (List.mem_append_left _ (List.mem_append_right _ h))))) (by decide +kernel))) (goodIn_sub (fun _ h => List.mem_cons_of_mem _ (List.mem_append_left _ (List.mem_append_left _ (List.mem_append_right _ h)))) (by decide +kernel))) (goodIn_sub (fun _ h => List.mem_cons_of_mem _ (List.mem_append_left _ (List.mem_append_right _ h))) (by decide +kernel))) (goodIn_sub (fun _ h => List.mem_cons_of_mem _ (List.mem_append_right _ h)) (by decide +kernel))
set_option maxRecDepth 20000 in
theorem gk_X10_start_X10_spanAt : GoodIn wk_X10_start (wsV RX10 160 RX10 yX10_spanAt wk_X10_spanAt) := goodIn_app (goodIn_r _ [1, 2, 3, 4] (by decide +kernel) (by decide +kernel)) ggk_X10_start_X10_spanAt
set_option maxHeartbeats 4000000 in
set_option maxRecDepth 100000 in
theorem k_X10_start (l : Launch) (htr : l.stackTraces = false) (D : va_G) (cI cJ cZ : ClassId) (x : Nat) (st : Nat) (kp : Nat) (bf : Nat) (o1 : Nat) (o2 : Nat) (o3 : Nat) (o4 : Nat) (o5 : Nat) (o6 : Nat) (lt : Nat) (tb : Nat) (fl : Nat) (wt : Nat) (a0 : Int32) (a1 : Int32) (a2 : Int32) (sz : Nat) : vx_Met l yX10_start wk_X10_start ({ frames := 9, cells := 2, slots := 12, locals := 147 }) (xPc D cI cJ cZ [.ref x, .int a0, .int a1, .int a2] [(x, .inr (9, [.ref st, .ref kp, .int 0, .ref bf, .int 0, .int (-1), .int (-1), .int 0, .ref o1, .ref o2, .ref o3, .ref o4, .ref o5, .ref o6])), (st, .inr (8, [.ref lt, .ref tb, .ref fl, .ref wt, .int 0, .null])), (fl, .inl (cZ, 6, .inl (fun _ => 0)))] sz) (va_Qi (fun (r : Int32) (u : Unit) => False) (fun (u : Unit) (t : State) => va_P D vwCl ([] : va_W) t.heap ∧ va_D (va_A [(x, .inr (9, [.ref st, .ref kp, .int 0, .ref bf, .int 0, .int (-1), .int (-1), .int 0, .ref o1, .ref o2, .ref o3, .ref o4, .ref o5, .ref o6])), (st, .inr (8, [.ref lt, .ref tb, .ref fl, .ref wt, .int 0, .null])), (fl, .inl (cZ, 6, .inl (fun _ => 0)))] sz) ([] : va_W)) (va_A [(x, .inr (9, [.ref st, .ref kp, .int 0, .ref bf, .int 0, .int (-1), .int (-1), .int 0, .ref o1, .ref o2, .ref o3, .ref o4, .ref o5, .ref o6])), (st, .inr (8, [.ref lt, .ref tb, .ref fl, .ref wt, .int 0, .null])), (fl, .inl (cZ, 6, .inl (fun _ => 0)))] sz)) (vx_X (fun _ : Unit => True) (fun (E : String) (_ : Unit) (_ : State) => (E = iob ∧ a0.toInt < 0) ∨ (E = iob ∧ 0 ≤ a0.toInt ∧ 6 ≤ a0.toInt) ∨ (E = ise ∧ 0 ≤ a0.toInt ∧ a0.toInt < 6)) (va_A [(x, .inr (9, [.ref st, .ref kp, .int 0, .ref bf, .int 0, .int (-1), .int (-1), .int 0, .ref o1, .ref o2, .ref o3, .ref o4, .ref o5, .ref o6])), (st, .inr (8, [.ref lt, .ref tb, .ref fl, .ref wt, .int 0, .null])), (fl, .inl (cZ, 6, .inl (fun _ => 0)))] sz)) 2 12 (va_A [(x, .inr (9, [.ref st, .ref kp, .int 0, .ref bf, .int 0, .int (-1), .int (-1), .int 0, .ref o1, .ref o2, .ref o3, .ref o4, .ref o5, .ref o6])), (st, .inr (8, [.ref lt, .ref tb, .ref fl, .ref wt, .int 0, .null])), (fl, .inl (cZ, 6, .inl (fun _ => 0)))] sz) := by
  refine vx_ofW (cc := cX10_start) (maxL := 4) (ret := (some .int)) (by decide) rfl ?_
  intro p e s m args below meth c s₁ B hml htab hv
  obtain ⟨rfl, hsz, hP, hK, hD0, hE, hV⟩ := hv
  have hx := B.exec
  have hb := B.bytes
  have hr := B.returns
  have hts := atoms_spec (ws := wk_X10_start) B.pre
  have hown : s.vm.findClass RX10 = some m.cls := findClass_of_methodNamed B.named
  have hlocks := B.notSynchronized
  subst hsz
  have hD := hD0.self (sz := s.heap.size)
  generalize hAe : va_A [(x, .inr (9, [.ref st, .ref kp, .int 0, .ref bf, .int 0, .int (-1), .int (-1), .int 0, .ref o1, .ref o2, .ref o3, .ref o4, .ref o5, .ref o6])), (st, .inr (8, [.ref lt, .ref tb, .ref fl, .ref wt, .int 0, .null])), (fl, .inl (cZ, 6, .inl (fun _ => 0)))] s.heap.size = A at hD hE ⊢
  have hA : ∀ q : Nat, s.heap.size ≤ q → A q := fun q h => by rw [← hAe]; exact Or.inr h
  have hS : va_S A s.heap s.heap [] := va_S.rf
  have hP : va_P D vwCl [(x, .inr (9, [.ref st, .ref kp, .int 0, .ref bf, .int 0, .int (-1), .int (-1), .int 0, .ref o1, .ref o2, .ref o3, .ref o4, .ref o5, .ref o6])), (st, .inr (8, [.ref lt, .ref tb, .ref fl, .ref wt, .int 0, .null])), (fl, .inl (cZ, 6, .inl (fun _ => 0)))] s.heap := hP
  have hl := lv_entry ([.ref x, .int a0, .int a1, .int a2]) (n := 4) (Nat.le_of_ble_eq_true rfl)
  rw [lg_entry_eq]
  generalize (lg_sl ([.ref x, .int a0, .int a1, .int a2]) ++ List.replicate (4 - (lg_sl ([.ref x, .int a0, .int a1, .int a2])).length) Slot.unset).toArray = ls at hl ⊢
  have hl : lv_has ls 4 [(0, .ref x), (1, .int a0), (2, .int a1), (3, .int a2)] := hl
  refine lv_aload_n hx hb dX10_start_0 rfl (lv_at hl 0 rfl) ?_
  refine lv_iload_n hx hb dX10_start_1 rfl (lv_at hl 1 rfl) ?_
  refine lv_iload_n hx hb dX10_start_2 rfl (lv_at hl 2 rfl) ?_
  refine lv_iload_n hx hb dX10_start_3 rfl (lv_at hl 3 rfl) ?_
  have hPc := hP.sub (ws' := [(x, .inr (9, [.ref st, .ref kp, .int 0, .ref bf, .int 0, .int (-1), .int (-1), .int 0, .ref o1, .ref o2, .ref o3, .ref o4, .ref o5, .ref o6])), (st, .inr (8, [.ref lt, .ref tb, .ref fl, .ref wt, .int 0, .null])), (fl, .inl (cZ, 6, .inl (fun _ => 0)))]) [0, 1, 2] rfl
  have hDc := hD.sub (ws' := [(x, .inr (9, [.ref st, .ref kp, .int 0, .ref bf, .int 0, .int (-1), .int (-1), .int 0, .ref o1, .ref o2, .ref o3, .ref o4, .ref o5, .ref o6])), (st, .inr (8, [.ref lt, .ref tb, .ref fl, .ref wt, .int 0, .null])), (fl, .inl (cZ, 6, .inl (fun _ => 0)))]) [0, 1, 2] (by decide) rfl
  have hFc := va_free (wc := [(x, .inr (9, [.ref st, .ref kp, .int 0, .ref bf, .int 0, .int (-1), .int (-1), .int 0, .ref o1, .ref o2, .ref o3, .ref o4, .ref o5, .ref o6])), (st, .inr (8, [.ref lt, .ref tb, .ref fl, .ref wt, .int 0, .null])), (fl, .inl (cZ, 6, .inl (fun _ => 0)))]) hD hS hA [0, 1, 2] rfl
  refine vx_calli (vx_runV (As := [.int a0, .int a1, .int a2]) (rest := []) ⟨hx, hb, hml, hown, hts⟩ (k_X10_spanAt l htr D cI cJ cZ x st kp bf o1 o2 o3 o4 o5 o6 lt tb fl wt a0 a1 a2 s.heap.size) (cwV 3 hts gk_X10_start_X10_spanAt rfl rfl rfl (by decide +kernel) ⟨Nat.le_of_ble_eq_true rfl, Nat.le_of_ble_eq_true rfl⟩) ⟨xPc_blind, va_recv hK hP (ci := 9) (q0 := 0) rfl rfl, xPc_pre hPc hK hDc hE hS hFc hV⟩ rfl rfl hl.1 rfl (lv_room (Nat.le_of_ble_eq_true rfl)) dX10_start_4 ⟨Nat.le_of_ble_eq_true rfl, Nat.le_of_ble_eq_true rfl⟩) hS (fun q _ h => hFc q h) hFc (fun q _ h => hFc q h) (fun E ce q9 u t H_1 locs ht hvm hpx hBX hz1 hk1 hS hq9 hcv hcl => ?_) (fun r u t H_1 locs ht hvm hw hB hz1 hk1 hS => ?_)
  · rcases hBX with ⟨rfl, e_0⟩ | ⟨rfl, e_0, e_1⟩ | ⟨rfl, e_0, e_1⟩
    · have c_2 : a0.toInt < 0 := e_0
      exact vx_out (fun x hx => (htab x hx).elim) hlocks hq9 hcv hcl (fun t ht hW => ⟨(), trivial, Or.inl ⟨rfl, c_2⟩, hS.F ht⟩) hS.2.2 (Nat.le_of_ble_eq_true rfl) (Nat.le_of_ble_eq_true rfl)
    · have c_3 : 0 ≤ a0.toInt := e_0
      have c_4 : 6 ≤ a0.toInt := e_1
      exact vx_out (fun x hx => (htab x hx).elim) hlocks hq9 hcv hcl (fun t ht hW => ⟨(), trivial, Or.inr (Or.inl ⟨rfl, c_3, c_4⟩), hS.F ht⟩) hS.2.2 (Nat.le_of_ble_eq_true rfl) (Nat.le_of_ble_eq_true rfl)
    · have c_5 : 0 ≤ a0.toInt := e_0
      have c_6 : a0.toInt < 6 := e_1
      exact vx_out (fun x hx => (htab x hx).elim) hlocks hq9 hcv hcl (fun t ht hW => ⟨(), trivial, Or.inr (Or.inr ⟨rfl, c_5, c_6⟩), hS.F ht⟩) hS.2.2 (Nat.le_of_ble_eq_true rfl) (Nat.le_of_ble_eq_true rfl)
  · exact hw.elim
def wk_X10_end : List Cond := .code yX10_end cX10_end 4 (some .int) :: (([.methodLink RX10 160 yX10_spanAt, .instanceMethod yX10_spanAt, .selects RX10 yX10_spanAt yX10_spanAt, .initialized RX10, .code yX10_spanAt cX10_spanAt 5 (some .int), .methodLink RX10 153 yX10_tableIn, .instanceMethod yX10_tableIn, .selects RX10 yX10_tableIn yX10_tableIn, .code yX10_tableIn cX10_tableIn 2 (some (.object "DocumentSpanner$SortedInts")), .fieldLink RX10 12 "DocumentSpanner" "state" "LDocumentSpanner$State;", .fieldLink RX10 96 "DocumentSpanner$State" "filled" "[Z", .classLink RX10 80 ise, .initialized ise, .methodLink RX10 138 yX10_checkSlot, .static yX10_checkSlot, .code yX10_checkSlot cX10_checkSlot 1 none, .classLink RX10 91 iob, .initialized iob] : List Cond) ++ wsX100 ++ wsX80 ++ (vx_atS RX10 84 ise ["java/lang/RuntimeException", "java/lang/Exception"]).filter goodWord ++ (vx_atS RX10 95 iob ["java/lang/RuntimeException", "java/lang/Exception"]).filter goodWord)
set_option maxRecDepth 20000 in
theorem ggk_X10_end_X10_spanAt : GoodIn wk_X10_end wk_X10_spanAt := goodIn_ca (goodIn_ca (goodIn_ca (goodIn_ca (goodIn_r _ [5, 6, 7, 8, 4, 9, 10, 11, 12, 13, 14, 15, 16, 17, 18] (by decide +kernel) (by decide +kernel)) (goodIn_sub (fun _ h => List.mem_cons_of_mem _ (List.mem_append_left _ (List.mem_append_left _ (List.mem_append_left _ (List.mem_append_right _ h))))) (by decide +kernel))) (goodIn_sub (fun _ h => List.mem_cons_of_mem _ (List.mem_append_left _ (List.mem_append_left _ (List.mem_append_right _ h)))) (by decide +kernel))) (goodIn_sub (fun _ h => List.mem_cons_of_mem _ (List.mem_append_left _ (List.mem_append_right _ h))) (by decide +kernel))) (goodIn_sub (fun _ h => List.mem_cons_of_mem _ (List.mem_append_right _ h)) (by decide +kernel))
set_option maxRecDepth 20000 in
theorem gk_X10_end_X10_spanAt : GoodIn wk_X10_end (wsV RX10 160 RX10 yX10_spanAt wk_X10_spanAt) := goodIn_app (goodIn_r _ [1, 2, 3, 4] (by decide +kernel) (by decide +kernel)) ggk_X10_end_X10_spanAt
set_option maxHeartbeats 4000000 in
set_option maxRecDepth 100000 in
theorem k_X10_end (l : Launch) (htr : l.stackTraces = false) (D : va_G) (cI cJ cZ : ClassId) (x : Nat) (st : Nat) (kp : Nat) (bf : Nat) (o1 : Nat) (o2 : Nat) (o3 : Nat) (o4 : Nat) (o5 : Nat) (o6 : Nat) (lt : Nat) (tb : Nat) (fl : Nat) (wt : Nat) (a0 : Int32) (a1 : Int32) (a2 : Int32) (sz : Nat) : vx_Met l yX10_end wk_X10_end ({ frames := 9, cells := 2, slots := 12, locals := 147 }) (xPc D cI cJ cZ [.ref x, .int a0, .int a1, .int a2] [(x, .inr (9, [.ref st, .ref kp, .int 0, .ref bf, .int 0, .int (-1), .int (-1), .int 0, .ref o1, .ref o2, .ref o3, .ref o4, .ref o5, .ref o6])), (st, .inr (8, [.ref lt, .ref tb, .ref fl, .ref wt, .int 0, .null])), (fl, .inl (cZ, 6, .inl (fun _ => 0)))] sz) (va_Qi (fun (r : Int32) (u : Unit) => False) (fun (u : Unit) (t : State) => va_P D vwCl ([] : va_W) t.heap ∧ va_D (va_A [(x, .inr (9, [.ref st, .ref kp, .int 0, .ref bf, .int 0, .int (-1), .int (-1), .int 0, .ref o1, .ref o2, .ref o3, .ref o4, .ref o5, .ref o6])), (st, .inr (8, [.ref lt, .ref tb, .ref fl, .ref wt, .int 0, .null])), (fl, .inl (cZ, 6, .inl (fun _ => 0)))] sz) ([] : va_W)) (va_A [(x, .inr (9, [.ref st, .ref kp, .int 0, .ref bf, .int 0, .int (-1), .int (-1), .int 0, .ref o1, .ref o2, .ref o3, .ref o4, .ref o5, .ref o6])), (st, .inr (8, [.ref lt, .ref tb, .ref fl, .ref wt, .int 0, .null])), (fl, .inl (cZ, 6, .inl (fun _ => 0)))] sz)) (vx_X (fun _ : Unit => True) (fun (E : String) (_ : Unit) (_ : State) => (E = iob ∧ a0.toInt < 0) ∨ (E = iob ∧ 0 ≤ a0.toInt ∧ 6 ≤ a0.toInt) ∨ (E = ise ∧ 0 ≤ a0.toInt ∧ a0.toInt < 6)) (va_A [(x, .inr (9, [.ref st, .ref kp, .int 0, .ref bf, .int 0, .int (-1), .int (-1), .int 0, .ref o1, .ref o2, .ref o3, .ref o4, .ref o5, .ref o6])), (st, .inr (8, [.ref lt, .ref tb, .ref fl, .ref wt, .int 0, .null])), (fl, .inl (cZ, 6, .inl (fun _ => 0)))] sz)) 2 12 (va_A [(x, .inr (9, [.ref st, .ref kp, .int 0, .ref bf, .int 0, .int (-1), .int (-1), .int 0, .ref o1, .ref o2, .ref o3, .ref o4, .ref o5, .ref o6])), (st, .inr (8, [.ref lt, .ref tb, .ref fl, .ref wt, .int 0, .null])), (fl, .inl (cZ, 6, .inl (fun _ => 0)))] sz) := by
  refine vx_ofW (cc := cX10_end) (maxL := 4) (ret := (some .int)) (by decide) rfl ?_
  intro p e s m args below meth c s₁ B hml htab hv
  obtain ⟨rfl, hsz, hP, hK, hD0, hE, hV⟩ := hv
  have hx := B.exec
  have hb := B.bytes
  have hr := B.returns
  have hts := atoms_spec (ws := wk_X10_end) B.pre
  have hown : s.vm.findClass RX10 = some m.cls := findClass_of_methodNamed B.named
  have hlocks := B.notSynchronized
  subst hsz
  have hD := hD0.self (sz := s.heap.size)
  generalize hAe : va_A [(x, .inr (9, [.ref st, .ref kp, .int 0, .ref bf, .int 0, .int (-1), .int (-1), .int 0, .ref o1, .ref o2, .ref o3, .ref o4, .ref o5, .ref o6])), (st, .inr (8, [.ref lt, .ref tb, .ref fl, .ref wt, .int 0, .null])), (fl, .inl (cZ, 6, .inl (fun _ => 0)))] s.heap.size = A at hD hE ⊢
  have hA : ∀ q : Nat, s.heap.size ≤ q → A q := fun q h => by rw [← hAe]; exact Or.inr h
  have hS : va_S A s.heap s.heap [] := va_S.rf
  have hP : va_P D vwCl [(x, .inr (9, [.ref st, .ref kp, .int 0, .ref bf, .int 0, .int (-1), .int (-1), .int 0, .ref o1, .ref o2, .ref o3, .ref o4, .ref o5, .ref o6])), (st, .inr (8, [.ref lt, .ref tb, .ref fl, .ref wt, .int 0, .null])), (fl, .inl (cZ, 6, .inl (fun _ => 0)))] s.heap := hP
  have hl := lv_entry ([.ref x, .int a0, .int a1, .int a2]) (n := 4) (Nat.le_of_ble_eq_true rfl)
  rw [lg_entry_eq]
  generalize (lg_sl ([.ref x, .int a0, .int a1, .int a2]) ++ List.replicate (4 - (lg_sl ([.ref x, .int a0, .int a1, .int a2])).length) Slot.unset).toArray = ls at hl ⊢
  have hl : lv_has ls 4 [(0, .ref x), (1, .int a0), (2, .int a1), (3, .int a2)] := hl
  refine lv_aload_n hx hb dX10_end_0 rfl (lv_at hl 0 rfl) ?_
  refine lv_iload_n hx hb dX10_end_1 rfl (lv_at hl 1 rfl) ?_
  refine lv_iload_n hx hb dX10_end_2 rfl (lv_at hl 2 rfl) ?_
  refine lv_iload_n hx hb dX10_end_3 rfl (lv_at hl 3 rfl) ?_
  have hPc := hP.sub (ws' := [(x, .inr (9, [.ref st, .ref kp, .int 0, .ref bf, .int 0, .int (-1), .int (-1), .int 0, .ref o1, .ref o2, .ref o3, .ref o4, .ref o5, .ref o6])), (st, .inr (8, [.ref lt, .ref tb, .ref fl, .ref wt, .int 0, .null])), (fl, .inl (cZ, 6, .inl (fun _ => 0)))]) [0, 1, 2] rfl
  have hDc := hD.sub (ws' := [(x, .inr (9, [.ref st, .ref kp, .int 0, .ref bf, .int 0, .int (-1), .int (-1), .int 0, .ref o1, .ref o2, .ref o3, .ref o4, .ref o5, .ref o6])), (st, .inr (8, [.ref lt, .ref tb, .ref fl, .ref wt, .int 0, .null])), (fl, .inl (cZ, 6, .inl (fun _ => 0)))]) [0, 1, 2] (by decide) rfl
  have hFc := va_free (wc := [(x, .inr (9, [.ref st, .ref kp, .int 0, .ref bf, .int 0, .int (-1), .int (-1), .int 0, .ref o1, .ref o2, .ref o3, .ref o4, .ref o5, .ref o6])), (st, .inr (8, [.ref lt, .ref tb, .ref fl, .ref wt, .int 0, .null])), (fl, .inl (cZ, 6, .inl (fun _ => 0)))]) hD hS hA [0, 1, 2] rfl
  refine vx_calli (vx_runV (As := [.int a0, .int a1, .int a2]) (rest := []) ⟨hx, hb, hml, hown, hts⟩ (k_X10_spanAt l htr D cI cJ cZ x st kp bf o1 o2 o3 o4 o5 o6 lt tb fl wt a0 a1 a2 s.heap.size) (cwV 3 hts gk_X10_end_X10_spanAt rfl rfl rfl (by decide +kernel) ⟨Nat.le_of_ble_eq_true rfl, Nat.le_of_ble_eq_true rfl⟩) ⟨xPc_blind, va_recv hK hP (ci := 9) (q0 := 0) rfl rfl, xPc_pre hPc hK hDc hE hS hFc hV⟩ rfl rfl hl.1 rfl (lv_room (Nat.le_of_ble_eq_true rfl)) dX10_end_4 ⟨Nat.le_of_ble_eq_true rfl, Nat.le_of_ble_eq_true rfl⟩) hS (fun q _ h => hFc q h) hFc (fun q _ h => hFc q h) (fun E ce q9 u t H_1 locs ht hvm hpx hBX hz1 hk1 hS hq9 hcv hcl => ?_) (fun r u t H_1 locs ht hvm hw hB hz1 hk1 hS => ?_)
  · rcases hBX with ⟨rfl, e_0⟩ | ⟨rfl, e_0, e_1⟩ | ⟨rfl, e_0, e_1⟩
    · have c_2 : a0.toInt < 0 := e_0
      exact vx_out (fun x hx => (htab x hx).elim) hlocks hq9 hcv hcl (fun t ht hW => ⟨(), trivial, Or.inl ⟨rfl, c_2⟩, hS.F ht⟩) hS.2.2 (Nat.le_of_ble_eq_true rfl) (Nat.le_of_ble_eq_true rfl)
    · have c_3 : 0 ≤ a0.toInt := e_0
      have c_4 : 6 ≤ a0.toInt := e_1
      exact vx_out (fun x hx => (htab x hx).elim) hlocks hq9 hcv hcl (fun t ht hW => ⟨(), trivial, Or.inr (Or.inl ⟨rfl, c_3, c_4⟩), hS.F ht⟩) hS.2.2 (Nat.le_of_ble_eq_true rfl) (Nat.le_of_ble_eq_true rfl)
    · have c_5 : 0 ≤ a0.toInt := e_0
      have c_6 : a0.toInt < 6 := e_1
      exact vx_out (fun x hx => (htab x hx).elim) hlocks hq9 hcv hcl (fun t ht hW => ⟨(), trivial, Or.inr (Or.inr ⟨rfl, c_5, c_6⟩), hS.F ht⟩) hS.2.2 (Nat.le_of_ble_eq_true rfl) (Nat.le_of_ble_eq_true rfl)
  · exact hw.elim
def wk_X10_domain : List Cond := .code yX10_domain cX10_domain 5 (some .int) :: (([.methodLink RX10 153 yX10_tableIn, .instanceMethod yX10_tableIn, .selects RX10 yX10_tableIn yX10_tableIn, .initialized RX10, .code yX10_tableIn cX10_tableIn 2 (some (.object "DocumentSpanner$SortedInts")), .fieldLink RX10 12 "DocumentSpanner" "state" "LDocumentSpanner$State;", .fieldLink RX10 96 "DocumentSpanner$State" "filled" "[Z", .classLink RX10 80 ise, .initialized ise, .methodLink RX10 138 yX10_checkSlot, .static yX10_checkSlot, .code yX10_checkSlot cX10_checkSlot 1 none, .classLink RX10 91 iob, .initialized iob] : List Cond) ++ wsX100 ++ wsX80 ++ (vx_atS RX10 84 ise ["java/lang/RuntimeException", "java/lang/Exception"]).filter goodWord ++ (vx_atS RX10 95 iob ["java/lang/RuntimeException", "java/lang/Exception"]).filter goodWord)
set_option maxRecDepth 20000 in
theorem ggk_X10_domain_X10_tableIn : GoodIn wk_X10_domain wk_X10_tableIn := goodIn_ca (goodIn_ca (goodIn_ca (goodIn_ca (goodIn_r _ [5, 6, 7, 8, 9, 10, 11, 4, 12, 13, 14] (by decide +kernel) (by decide +kernel)) (goodIn_sub (fun _ h => List.mem_cons_of_mem _ (List.mem_append_left _ (List.mem_append_left _ (List.mem_append_left _ (List.mem_append_right _ h))))) (by decide +kernel))) (goodIn_sub (fun _ h => List.mem_cons_of_mem _ (List.mem_append_left _ (List.mem_append_left _ (List.mem_append_right _ h)))) (by decide +kernel))) (goodIn_sub (fun _ h => List.mem_cons_of_mem _ (List.mem_append_left _ (List.mem_append_right _ h))) (by decide +kernel))) (goodIn_sub (fun _ h => List.mem_cons_of_mem _ (List.mem_append_right _ h)) (by decide +kernel))
set_option maxRecDepth 20000 in
theorem gk_X10_domain_X10_tableIn : GoodIn wk_X10_domain (wsV RX10 153 RX10 yX10_tableIn wk_X10_tableIn) := goodIn_app (goodIn_r _ [1, 2, 3, 4] (by decide +kernel) (by decide +kernel)) ggk_X10_domain_X10_tableIn
set_option maxHeartbeats 4000000 in
set_option maxRecDepth 100000 in
theorem k_X10_domain (l : Launch) (htr : l.stackTraces = false) (D : va_G) (cI cJ cZ : ClassId) (x : Nat) (st : Nat) (kp : Nat) (bf : Nat) (o1 : Nat) (o2 : Nat) (o3 : Nat) (o4 : Nat) (o5 : Nat) (o6 : Nat) (lt : Nat) (tb : Nat) (fl : Nat) (wt : Nat) (a0 : Int32) (sz : Nat) : vx_Met l yX10_domain wk_X10_domain ({ frames := 8, cells := 2, slots := 12, locals := 123 }) (xPc D cI cJ cZ [.ref x, .int a0] [(x, .inr (9, [.ref st, .ref kp, .int 0, .ref bf, .int 0, .int (-1), .int (-1), .int 0, .ref o1, .ref o2, .ref o3, .ref o4, .ref o5, .ref o6])), (st, .inr (8, [.ref lt, .ref tb, .ref fl, .ref wt, .int 0, .null])), (fl, .inl (cZ, 6, .inl (fun _ => 0)))] sz) (va_Qi (fun (r : Int32) (u : Unit) => False) (fun (u : Unit) (t : State) => va_P D vwCl ([] : va_W) t.heap ∧ va_D (va_A [(x, .inr (9, [.ref st, .ref kp, .int 0, .ref bf, .int 0, .int (-1), .int (-1), .int 0, .ref o1, .ref o2, .ref o3, .ref o4, .ref o5, .ref o6])), (st, .inr (8, [.ref lt, .ref tb, .ref fl, .ref wt, .int 0, .null])), (fl, .inl (cZ, 6, .inl (fun _ => 0)))] sz) ([] : va_W)) (va_A [(x, .inr (9, [.ref st, .ref kp, .int 0, .ref bf, .int 0, .int (-1), .int (-1), .int 0, .ref o1, .ref o2, .ref o3, .ref o4, .ref o5, .ref o6])), (st, .inr (8, [.ref lt, .ref tb, .ref fl, .ref wt, .int 0, .null])), (fl, .inl (cZ, 6, .inl (fun _ => 0)))] sz)) (vx_X (fun _ : Unit => True) (fun (E : String) (_ : Unit) (_ : State) => (E = iob ∧ a0.toInt < 0) ∨ (E = iob ∧ 0 ≤ a0.toInt ∧ 6 ≤ a0.toInt) ∨ (E = ise ∧ 0 ≤ a0.toInt ∧ a0.toInt < 6)) (va_A [(x, .inr (9, [.ref st, .ref kp, .int 0, .ref bf, .int 0, .int (-1), .int (-1), .int 0, .ref o1, .ref o2, .ref o3, .ref o4, .ref o5, .ref o6])), (st, .inr (8, [.ref lt, .ref tb, .ref fl, .ref wt, .int 0, .null])), (fl, .inl (cZ, 6, .inl (fun _ => 0)))] sz)) 2 12 (va_A [(x, .inr (9, [.ref st, .ref kp, .int 0, .ref bf, .int 0, .int (-1), .int (-1), .int 0, .ref o1, .ref o2, .ref o3, .ref o4, .ref o5, .ref o6])), (st, .inr (8, [.ref lt, .ref tb, .ref fl, .ref wt, .int 0, .null])), (fl, .inl (cZ, 6, .inl (fun _ => 0)))] sz) := by
  refine vx_ofW (cc := cX10_domain) (maxL := 5) (ret := (some .int)) (by decide) rfl ?_
  intro p e s m args below meth c s₁ B hml htab hv
  obtain ⟨rfl, hsz, hP, hK, hD0, hE, hV⟩ := hv
  have hx := B.exec
  have hb := B.bytes
  have hr := B.returns
  have hts := atoms_spec (ws := wk_X10_domain) B.pre
  have hown : s.vm.findClass RX10 = some m.cls := findClass_of_methodNamed B.named
  have hlocks := B.notSynchronized
  subst hsz
  have hD := hD0.self (sz := s.heap.size)
  generalize hAe : va_A [(x, .inr (9, [.ref st, .ref kp, .int 0, .ref bf, .int 0, .int (-1), .int (-1), .int 0, .ref o1, .ref o2, .ref o3, .ref o4, .ref o5, .ref o6])), (st, .inr (8, [.ref lt, .ref tb, .ref fl, .ref wt, .int 0, .null])), (fl, .inl (cZ, 6, .inl (fun _ => 0)))] s.heap.size = A at hD hE ⊢
  have hA : ∀ q : Nat, s.heap.size ≤ q → A q := fun q h => by rw [← hAe]; exact Or.inr h
  have hS : va_S A s.heap s.heap [] := va_S.rf
  have hP : va_P D vwCl [(x, .inr (9, [.ref st, .ref kp, .int 0, .ref bf, .int 0, .int (-1), .int (-1), .int 0, .ref o1, .ref o2, .ref o3, .ref o4, .ref o5, .ref o6])), (st, .inr (8, [.ref lt, .ref tb, .ref fl, .ref wt, .int 0, .null])), (fl, .inl (cZ, 6, .inl (fun _ => 0)))] s.heap := hP
  have hl := lv_entry ([.ref x, .int a0]) (n := 5) (Nat.le_of_ble_eq_true rfl)
  rw [lg_entry_eq]
  generalize (lg_sl ([.ref x, .int a0]) ++ List.replicate (5 - (lg_sl ([.ref x, .int a0])).length) Slot.unset).toArray = ls at hl ⊢
  have hl : lv_has ls 5 [(0, .ref x), (1, .int a0)] := hl
  refine lv_aload_n hx hb dX10_domain_0 rfl (lv_at hl 0 rfl) ?_
  refine lv_iload_n hx hb dX10_domain_1 rfl (lv_at hl 1 rfl) ?_
  have hPc := hP.sub (ws' := [(x, .inr (9, [.ref st, .ref kp, .int 0, .ref bf, .int 0, .int (-1), .int (-1), .int 0, .ref o1, .ref o2, .ref o3, .ref o4, .ref o5, .ref o6])), (st, .inr (8, [.ref lt, .ref tb, .ref fl, .ref wt, .int 0, .null])), (fl, .inl (cZ, 6, .inl (fun _ => 0)))]) [0, 1, 2] rfl
  have hDc := hD.sub (ws' := [(x, .inr (9, [.ref st, .ref kp, .int 0, .ref bf, .int 0, .int (-1), .int (-1), .int 0, .ref o1, .ref o2, .ref o3, .ref o4, .ref o5, .ref o6])), (st, .inr (8, [.ref lt, .ref tb, .ref fl, .ref wt, .int 0, .null])), (fl, .inl (cZ, 6, .inl (fun _ => 0)))]) [0, 1, 2] (by decide) rfl
  have hFc := va_free (wc := [(x, .inr (9, [.ref st, .ref kp, .int 0, .ref bf, .int 0, .int (-1), .int (-1), .int 0, .ref o1, .ref o2, .ref o3, .ref o4, .ref o5, .ref o6])), (st, .inr (8, [.ref lt, .ref tb, .ref fl, .ref wt, .int 0, .null])), (fl, .inl (cZ, 6, .inl (fun _ => 0)))]) hD hS hA [0, 1, 2] rfl
  refine vx_callq (vx_runV (As := [.int a0]) (rest := []) ⟨hx, hb, hml, hown, hts⟩ (k_X10_tableIn l htr D cI cJ cZ x st kp bf o1 o2 o3 o4 o5 o6 lt tb fl wt a0 s.heap.size) (cwV 1 hts gk_X10_domain_X10_tableIn rfl rfl rfl (by decide +kernel) ⟨Nat.le_of_ble_eq_true rfl, Nat.le_of_ble_eq_true rfl⟩) ⟨xPc_blind, va_recv hK hP (ci := 9) (q0 := 0) rfl rfl, xPc_pre hPc hK hDc hE hS hFc hV⟩ rfl rfl hl.1 rfl (lv_room (Nat.le_of_ble_eq_true rfl)) dX10_domain_2 ⟨Nat.le_of_ble_eq_true rfl, Nat.le_of_ble_eq_true rfl⟩) hS (fun q _ h => hFc q h) hFc (fun q _ h => hFc q h) (fun E ce q9 u t H_1 locs ht hvm hpx hBX hz1 hk1 hS hq9 hcv hcl => ?_) (fun r u t H_1 locs ht hvm hw hB hz1 hk1 hS => ?_)
  · rcases hBX with ⟨rfl, e_0⟩ | ⟨rfl, e_0, e_1⟩ | ⟨rfl, e_0, e_1⟩
    · have c_2 : a0.toInt < 0 := e_0
      exact vx_out (fun x hx => (htab x hx).elim) hlocks hq9 hcv hcl (fun t ht hW => ⟨(), trivial, Or.inl ⟨rfl, c_2⟩, hS.F ht⟩) hS.2.2 (Nat.le_of_ble_eq_true rfl) (Nat.le_of_ble_eq_true rfl)
    · have c_3 : 0 ≤ a0.toInt := e_0
      have c_4 : 6 ≤ a0.toInt := e_1
      exact vx_out (fun x hx => (htab x hx).elim) hlocks hq9 hcv hcl (fun t ht hW => ⟨(), trivial, Or.inr (Or.inl ⟨rfl, c_3, c_4⟩), hS.F ht⟩) hS.2.2 (Nat.le_of_ble_eq_true rfl) (Nat.le_of_ble_eq_true rfl)
    · have c_5 : 0 ≤ a0.toInt := e_0
      have c_6 : a0.toInt < 6 := e_1
      exact vx_out (fun x hx => (htab x hx).elim) hlocks hq9 hcv hcl (fun t ht hW => ⟨(), trivial, Or.inr (Or.inr ⟨rfl, c_5, c_6⟩), hS.F ht⟩) hS.2.2 (Nat.le_of_ble_eq_true rfl) (Nat.le_of_ble_eq_true rfl)
  · exact hw.elim
def wk_X10_leaveSlot : List Cond := .code yX10_leaveSlot cX10_leaveSlot 2 none :: (([.fieldLink RX10 34 "DocumentSpanner" "cursorSlot" "I"] : List Cond) ++ wsX100)
set_option maxHeartbeats 4000000 in
set_option maxRecDepth 100000 in
theorem k_X10_leaveSlot (l : Launch) (htr : l.stackTraces = false) (D : va_G) (cI cJ cZ : ClassId) (x : Nat) (st : Nat) (kp : Nat) (bf : Nat) (o1 : Nat) (o2 : Nat) (o3 : Nat) (o4 : Nat) (o5 : Nat) (o6 : Nat) (a0 : Int32) (sz : Nat) : Met l yX10_leaveSlot wk_X10_leaveSlot ({ frames := 0, cells := 0, slots := 0, locals := 0 }) (xPc D cI cJ cZ [.ref x, .int a0] [(x, .inr (9, [.ref st, .ref kp, .int 0, .ref bf, .int 0, .int (-1), .int (-1), .int 0, .ref o1, .ref o2, .ref o3, .ref o4, .ref o5, .ref o6]))] sz) (va_Qv (fun (u : Unit) => ((-1) ≠ a0.toInt) ∨ ((-1) = a0.toInt)) (fun (u : Unit) (t : State) => va_P D vwCl ([(x, .inr (9, [.ref st, .ref kp, .int 0, .ref bf, .int 0, .int (-1), .int (-1), .int 0, .ref o1, .ref o2, .ref o3, .ref o4, .ref o5, .ref o6]))] : va_W) t.heap ∧ va_D (va_A [(x, .inr (9, [.ref st, .ref kp, .int 0, .ref bf, .int 0, .int (-1), .int (-1), .int 0, .ref o1, .ref o2, .ref o3, .ref o4, .ref o5, .ref o6]))] sz) ([(x, .inr (9, [.ref st, .ref kp, .int 0, .ref bf, .int 0, .int (-1), .int (-1), .int 0, .ref o1, .ref o2, .ref o3, .ref o4, .ref o5, .ref o6]))] : va_W)) (va_A [(x, .inr (9, [.ref st, .ref kp, .int 0, .ref bf, .int 0, .int (-1), .int (-1), .int 0, .ref o1, .ref o2, .ref o3, .ref o4, .ref o5, .ref o6]))] sz)) 0 0 (va_A [(x, .inr (9, [.ref st, .ref kp, .int 0, .ref bf, .int 0, .int (-1), .int (-1), .int 0, .ref o1, .ref o2, .ref o3, .ref o4, .ref o5, .ref o6]))] sz) := by
  refine Met.ofW (cc := cX10_leaveSlot) (maxL := 2) (ret := none) (by decide) rfl ?_
  intro p e s m args below meth c s₁ B hml hv
  obtain ⟨rfl, hsz, hP, hK, hD0, hE, hV⟩ := hv
  have hx := B.exec
  have hb := B.bytes
  have hr := B.returns
  have hts := atoms_spec (ws := wk_X10_leaveSlot) B.pre
  have hown : s.vm.findClass RX10 = some m.cls := findClass_of_methodNamed B.named
  have hlocks := B.notSynchronized
  have i_X10 : ∀ w ∈ wsX100, w ∈ wk_X10_leaveSlot := fun _ h => List.mem_cons_of_mem _ (List.mem_append_right _ h)
  have w_1 := hts (.fieldLink RX10 34 "DocumentSpanner" "cursorSlot" "I") (List.mem_of_getElem? (i := 1) rfl)
  subst hsz
  have hD := hD0.self (sz := s.heap.size)
  generalize hAe : va_A [(x, .inr (9, [.ref st, .ref kp, .int 0, .ref bf, .int 0, .int (-1), .int (-1), .int 0, .ref o1, .ref o2, .ref o3, .ref o4, .ref o5, .ref o6]))] s.heap.size = A at hD hE ⊢
  have hA : ∀ q : Nat, s.heap.size ≤ q → A q := fun q h => by rw [← hAe]; exact Or.inr h
  have hS : va_S A s.heap s.heap [] := va_S.rf
  have hP : va_P D vwCl [(x, .inr (9, [.ref st, .ref kp, .int 0, .ref bf, .int 0, .int (-1), .int (-1), .int 0, .ref o1, .ref o2, .ref o3, .ref o4, .ref o5, .ref o6]))] s.heap := hP
  have hl := lv_entry ([.ref x, .int a0]) (n := 2) (Nat.le_of_ble_eq_true rfl)
  rw [lg_entry_eq]
  generalize (lg_sl ([.ref x, .int a0]) ++ List.replicate (2 - (lg_sl ([.ref x, .int a0])).length) Slot.unset).toArray = ls at hl ⊢
  have hl : lv_has ls 2 [(0, .ref x), (1, .int a0)] := hl
  refine lv_aload_n hx hb dX10_leaveSlot_0 rfl (lv_at hl 0 rfl) ?_
  refine va_get (D := D) (ci := 9) (v := .int (-1)) (C := RX10) (T := TX10) (N := 14) hx hb hts i_X10 hown hK hP 0 rfl rfl 6 (by decide) w_1 (fun _ h9 => h9) rfl dX10_leaveSlot_1 ?_
  refine lv_iload_n hx hb dX10_leaveSlot_4 rfl (lv_at hl 1 rfl) ?_
  refine lv_icmp_ne (tgt := 13) hx hb dX10_leaveSlot_5 (by decide) (fun c_1 => ?_) (fun c_1 => ?_)
  · have c_1 : (-1) ≠ a0.toInt := xne c_1
    have hP9 := hP.sub (ws' := [(x, .inr (9, [.ref st, .ref kp, .int 0, .ref bf, .int 0, .int (-1), .int (-1), .int 0, .ref o1, .ref o2, .ref o3, .ref o4, .ref o5, .ref o6]))]) [0] rfl
    have hD9 := hD.sub (ws' := [(x, .inr (9, [.ref st, .ref kp, .int 0, .ref bf, .int 0, .int (-1), .int (-1), .int 0, .ref o1, .ref o2, .ref o3, .ref o4, .ref o5, .ref o6]))]) [0] (by decide) rfl
    refine W.widen (k := 0) (n := 0) (Nat.le_of_ble_eq_true rfl) (Nat.le_of_ble_eq_true rfl) ?_
    exact W.vret hx hb hr (fun t ht hW => ⟨⟨(), rfl, Or.inl c_1, by rw [ht]; exact hP9, hD9⟩, hS.F ht⟩) hS.2.2 dX10_leaveSlot_13
  · have c_1 : (-1) = a0.toInt := xeq c_1
    refine lv_aload_n hx hb dX10_leaveSlot_8 rfl (lv_at hl 0 rfl) ?_
    refine lv_iconst (v := (-1)) hx hb dX10_leaveSlot_9 (by decide) ?_
    refine va_put (D := D) (ci := 9) (v := .int (-1)) (ty := .int) (C := RX10) (T := TX10) (N := 14) hx hb hts i_X10 tyX10 tyX10_ok nmX10 hown hK hP hD hS 0 rfl rfl 6 (by decide) w_1 (fun _ h9 => h9) rfl (by decide +kernel) rfl rfl (Nat.le_of_ble_eq_true rfl) dX10_leaveSlot_10 (fun H_2 locs hP hD hS => ?_)
    have hP : va_P D vwCl [(x, .inr (9, [.ref st, .ref kp, .int 0, .ref bf, .int 0, .int (-1), .int (-1), .int 0, .ref o1, .ref o2, .ref o3, .ref o4, .ref o5, .ref o6]))] H_2 := hP
    have hD : va_D A [(x, .inr (9, [.ref st, .ref kp, .int 0, .ref bf, .int 0, .int (-1), .int (-1), .int 0, .ref o1, .ref o2, .ref o3, .ref o4, .ref o5, .ref o6]))] := hD
    have hP9 := hP.sub (ws' := [(x, .inr (9, [.ref st, .ref kp, .int 0, .ref bf, .int 0, .int (-1), .int (-1), .int 0, .ref o1, .ref o2, .ref o3, .ref o4, .ref o5, .ref o6]))]) [0] rfl
    have hD9 := hD.sub (ws' := [(x, .inr (9, [.ref st, .ref kp, .int 0, .ref bf, .int 0, .int (-1), .int (-1), .int 0, .ref o1, .ref o2, .ref o3, .ref o4, .ref o5, .ref o6]))]) [0] (by decide) rfl
    refine W.widen (k := 0) (n := 0) (Nat.le_of_ble_eq_true rfl) (Nat.le_of_ble_eq_true rfl) ?_
    exact W.vret hx hb hr (fun t ht hW => ⟨⟨(), rfl, Or.inr c_1, by rw [ht]; exact hP9, hD9⟩, hS.F ht⟩) hS.2.2 dX10_leaveSlot_13
def wk_X10_clear : List Cond := .code yX10_clear cX10_clear 3 (some .int) :: (([.fieldLink RX10 12 "DocumentSpanner" "state" "LDocumentSpanner$State;", .fieldLink RX10 96 "DocumentSpanner$State" "filled" "[Z", .methodLink RX10 138 yX10_checkSlot, .static yX10_checkSlot, .initialized RX10, .code yX10_checkSlot cX10_checkSlot 1 none, .classLink RX10 91 iob, .initialized iob, .methodLink RX10 182 yX10_leaveSlot, .instanceMethod yX10_leaveSlot, .selects RX10 yX10_leaveSlot yX10_leaveSlot, .code yX10_leaveSlot cX10_leaveSlot 2 none, .fieldLink RX10 34 "DocumentSpanner" "cursorSlot" "I"] : List Cond) ++ wsX100 ++ wsX80 ++ (vx_atS RX10 95 iob ["java/lang/RuntimeException", "java/lang/Exception"]).filter goodWord)
set_option maxRecDepth 20000 in
theorem ggk_X10_clear_X10_checkSlot : GoodIn wk_X10_clear wk_X10_checkSlot := goodIn_ca (goodIn_r _ [6, 7, 8] (by decide +kernel) (by decide +kernel)) (goodIn_sub (fun _ h => List.mem_cons_of_mem _ (List.mem_append_right _ h)) (by decide +kernel))
set_option maxRecDepth 20000 in
theorem gk_X10_clear_X10_checkSlot : GoodIn wk_X10_clear (va_wsS RX10 138 yX10_checkSlot wk_X10_checkSlot) := goodIn_app (goodIn_r _ [3, 4, 5] (by decide +kernel) (by decide +kernel)) ggk_X10_clear_X10_checkSlot
set_option maxRecDepth 20000 in
theorem ggk_X10_clear_X10_leaveSlot : GoodIn wk_X10_clear wk_X10_leaveSlot := goodIn_ca (goodIn_r _ [12, 13] (by decide +kernel) (by decide +kernel)) (goodIn_sub (fun _ h => List.mem_cons_of_mem _ (List.mem_append_left _ (List.mem_append_left _ (List.mem_append_right _ h)))) (by decide +kernel))
set_option maxRecDepth 20000 in
theorem gk_X10_clear_X10_leaveSlot : GoodIn wk_X10_clear (wsV RX10 182 RX10 yX10_leaveSlot wk_X10_leaveSlot) := goodIn_app (goodIn_r _ [9, 10, 11, 5] (by decide +kernel) (by decide +kernel)) ggk_X10_clear_X10_leaveSlot
set_option maxHeartbeats 4000000 in
set_option maxRecDepth 100000 in
theorem k_X10_clear (l : Launch) (htr : l.stackTraces = false) (D : va_G) (cI cJ cZ : ClassId) (x : Nat) (st : Nat) (kp : Nat) (bf : Nat) (o1 : Nat) (o2 : Nat) (o3 : Nat) (o4 : Nat) (o5 : Nat) (o6 : Nat) (lt : Nat) (tb : Nat) (fl : Nat) (wt : Nat) (a0 : Int32) (sz : Nat) : vx_Met l yX10_clear wk_X10_clear ({ frames := 7, cells := 1, slots := 6, locals := 102 }) (xPc D cI cJ cZ [.ref x, .int a0] [(x, .inr (9, [.ref st, .ref kp, .int 0, .ref bf, .int 0, .int (-1), .int (-1), .int 0, .ref o1, .ref o2, .ref o3, .ref o4, .ref o5, .ref o6])), (st, .inr (8, [.ref lt, .ref tb, .ref fl, .ref wt, .int 0, .null])), (fl, .inl (cZ, 6, .inl (fun _ => 0)))] sz) (va_Qi (fun (r : Int32) (u : Unit) => (r = (-1) ∧ 0 ≤ a0.toInt ∧ a0.toInt < 6 ∧ (-1) ≠ a0.toInt)) (fun (u : Unit) (t : State) => va_P D vwCl ([] : va_W) t.heap ∧ va_D (va_A [(x, .inr (9, [.ref st, .ref kp, .int 0, .ref bf, .int 0, .int (-1), .int (-1), .int 0, .ref o1, .ref o2, .ref o3, .ref o4, .ref o5, .ref o6])), (st, .inr (8, [.ref lt, .ref tb, .ref fl, .ref wt, .int 0, .null])), (fl, .inl (cZ, 6, .inl (fun _ => 0)))] sz) ([] : va_W)) (va_A [(x, .inr (9, [.ref st, .ref kp, .int 0, .ref bf, .int 0, .int (-1), .int (-1), .int 0, .ref o1, .ref o2, .ref o3, .ref o4, .ref o5, .ref o6])), (st, .inr (8, [.ref lt, .ref tb, .ref fl, .ref wt, .int 0, .null])), (fl, .inl (cZ, 6, .inl (fun _ => 0)))] sz)) (vx_X (fun _ : Unit => True) (fun (E : String) (_ : Unit) (_ : State) => (E = iob ∧ a0.toInt < 0) ∨ (E = iob ∧ 0 ≤ a0.toInt ∧ 6 ≤ a0.toInt)) (va_A [(x, .inr (9, [.ref st, .ref kp, .int 0, .ref bf, .int 0, .int (-1), .int (-1), .int 0, .ref o1, .ref o2, .ref o3, .ref o4, .ref o5, .ref o6])), (st, .inr (8, [.ref lt, .ref tb, .ref fl, .ref wt, .int 0, .null])), (fl, .inl (cZ, 6, .inl (fun _ => 0)))] sz)) 1 6 (va_A [(x, .inr (9, [.ref st, .ref kp, .int 0, .ref bf, .int 0, .int (-1), .int (-1), .int 0, .ref o1, .ref o2, .ref o3, .ref o4, .ref o5, .ref o6])), (st, .inr (8, [.ref lt, .ref tb, .ref fl, .ref wt, .int 0, .null])), (fl, .inl (cZ, 6, .inl (fun _ => 0)))] sz) := by
  refine vx_ofW (cc := cX10_clear) (maxL := 3) (ret := (some .int)) (by decide) rfl ?_
  intro p e s m args below meth c s₁ B hml htab hv
  obtain ⟨rfl, hsz, hP, hK, hD0, hE, hV⟩ := hv
  have hx := B.exec
  have hb := B.bytes
  have hr := B.returns
  have hts := atoms_spec (ws := wk_X10_clear) B.pre
  have hown : s.vm.findClass RX10 = some m.cls := findClass_of_methodNamed B.named
  have hlocks := B.notSynchronized
  have i_X10 : ∀ w ∈ wsX100, w ∈ wk_X10_clear := fun _ h => List.mem_cons_of_mem _ (List.mem_append_left _ (List.mem_append_left _ (List.mem_append_right _ h)))
  have i_X8 : ∀ w ∈ wsX80, w ∈ wk_X10_clear := fun _ h => List.mem_cons_of_mem _ (List.mem_append_left _ (List.mem_append_right _ h))
  have w_1 := hts (.fieldLink RX10 12 "DocumentSpanner" "state" "LDocumentSpanner$State;") (List.mem_of_getElem? (i := 1) rfl)
  have w_2 := hts (.fieldLink RX10 96 "DocumentSpanner$State" "filled" "[Z") (List.mem_of_getElem? (i := 2) rfl)
  subst hsz
  have hD := hD0.self (sz := s.heap.size)
  generalize hAe : va_A [(x, .inr (9, [.ref st, .ref kp, .int 0, .ref bf, .int 0, .int (-1), .int (-1), .int 0, .ref o1, .ref o2, .ref o3, .ref o4, .ref o5, .ref o6])), (st, .inr (8, [.ref lt, .ref tb, .ref fl, .ref wt, .int 0, .null])), (fl, .inl (cZ, 6, .inl (fun _ => 0)))] s.heap.size = A at hD hE ⊢
  have hA : ∀ q : Nat, s.heap.size ≤ q → A q := fun q h => by rw [← hAe]; exact Or.inr h
  have hS : va_S A s.heap s.heap [] := va_S.rf
  have hP : va_P D vwCl [(x, .inr (9, [.ref st, .ref kp, .int 0, .ref bf, .int 0, .int (-1), .int (-1), .int 0, .ref o1, .ref o2, .ref o3, .ref o4, .ref o5, .ref o6])), (st, .inr (8, [.ref lt, .ref tb, .ref fl, .ref wt, .int 0, .null])), (fl, .inl (cZ, 6, .inl (fun _ => 0)))] s.heap := hP
  have hl := lv_entry ([.ref x, .int a0]) (n := 3) (Nat.le_of_ble_eq_true rfl)
  rw [lg_entry_eq]
  generalize (lg_sl ([.ref x, .int a0]) ++ List.replicate (3 - (lg_sl ([.ref x, .int a0])).length) Slot.unset).toArray = ls at hl ⊢
  have hl : lv_has ls 3 [(0, .ref x), (1, .int a0)] := hl
  refine lv_iload_n hx hb dX10_clear_0 rfl (lv_at hl 1 rfl) ?_
  have hPc := hP.sub (ws' := []) [] rfl
  have hDc := hD.sub (ws' := []) [] (by decide) rfl
  have hFc := va_free (wc := []) hD hS hA [] rfl
  refine vx_callv (vx_runS (As := [.int a0]) (rest := []) ⟨hx, hb, hml, hown, hts⟩ (k_X10_checkSlot l htr D cI cJ cZ a0 s.heap.size) (va_cwS 1 hts gk_X10_clear_X10_checkSlot rfl rfl rfl (by decide +kernel) ⟨Nat.le_of_ble_eq_true rfl, Nat.le_of_ble_eq_true rfl⟩) ⟨xPc_blind, xPc_pre hPc hK hDc hE hS hFc hV⟩ rfl rfl hl.1 rfl (lv_room (Nat.le_of_ble_eq_true rfl)) dX10_clear_1 ⟨Nat.le_of_ble_eq_true rfl, Nat.le_of_ble_eq_true rfl⟩) hS (fun q _ h => hFc q h) hFc (fun q _ h => hFc q h) (fun E ce q9 u t H_1 locs ht hvm hpx hBX hz1 hk1 hS hq9 hcv hcl => ?_) (fun u t H_1 locs ht hvm hw hB hz1 hk1 hS => ?_)
  · rcases hBX with ⟨rfl, e_0⟩ | ⟨rfl, e_0, e_1⟩
    · have c_2 : a0.toInt < 0 := e_0
      exact vx_out (fun x hx => (htab x hx).elim) hlocks hq9 hcv hcl (fun t ht hW => ⟨(), trivial, Or.inl ⟨rfl, c_2⟩, hS.F ht⟩) hS.2.2 (Nat.le_of_ble_eq_true rfl) (Nat.le_of_ble_eq_true rfl)
    · have c_3 : 0 ≤ a0.toInt := e_0
      have c_4 : 6 ≤ a0.toInt := e_1
      exact vx_out (fun x hx => (htab x hx).elim) hlocks hq9 hcv hcl (fun t ht hW => ⟨(), trivial, Or.inr ⟨rfl, c_3, c_4⟩, hS.F ht⟩) hS.2.2 (Nat.le_of_ble_eq_true rfl) (Nat.le_of_ble_eq_true rfl)
  · rcases hw with ⟨e_0, e_1⟩
    have c_5 : 0 ≤ a0.toInt := e_0
    have c_6 : a0.toInt < 6 := e_1
    obtain ⟨hP1, hD1⟩ := hB
    rw [ht] at hP1
    obtain ⟨hP, hD⟩ := va_join (wr := [(x, .inr (9, [.ref st, .ref kp, .int 0, .ref bf, .int 0, .int (-1), .int (-1), .int 0, .ref o1, .ref o2, .ref o3, .ref o4, .ref o5, .ref o6])), (st, .inr (8, [.ref lt, .ref tb, .ref fl, .ref wt, .int 0, .null])), (fl, .inl (cZ, 6, .inl (fun _ => 0)))]) (w1 := []) hP hD [] [0, 1, 2] rfl rfl (by decide) (by decide) hk1 hFc hP1 hD1
    have hP : va_P D vwCl [(x, .inr (9, [.ref st, .ref kp, .int 0, .ref bf, .int 0, .int (-1), .int (-1), .int 0, .ref o1, .ref o2, .ref o3, .ref o4, .ref o5, .ref o6])), (st, .inr (8, [.ref lt, .ref tb, .ref fl, .ref wt, .int 0, .null])), (fl, .inl (cZ, 6, .inl (fun _ => 0)))] H_1 := hP
    have hD : va_D A [(x, .inr (9, [.ref st, .ref kp, .int 0, .ref bf, .int 0, .int (-1), .int (-1), .int 0, .ref o1, .ref o2, .ref o3, .ref o4, .ref o5, .ref o6])), (st, .inr (8, [.ref lt, .ref tb, .ref fl, .ref wt, .int 0, .null])), (fl, .inl (cZ, 6, .inl (fun _ => 0)))] := hD
    refine W.widen (k := 1) (n := 6) (Nat.le_of_ble_eq_true rfl) (Nat.le_of_ble_eq_true rfl) ?_
    refine lv_aload_n hx hb dX10_clear_4 rfl (lv_at hl 0 rfl) ?_
    refine va_get (D := D) (ci := 9) (v := .ref st) (C := RX10) (T := TX10) (N := 14) hx hb hts i_X10 hown hK hP 0 rfl rfl 0 (by decide) w_1 (fun _ h9 => h9) rfl dX10_clear_5 ?_
    refine va_get (D := D) (ci := 8) (v := .ref fl) (C := RX8) (T := TX8) (N := 6) hx hb hts i_X8 hown hK hP 1 rfl rfl 2 (by decide) w_2 (fun _ h9 => h9) rfl dX10_clear_8 ?_
    refine lv_iload_n hx hb dX10_clear_11 rfl (lv_at hl 1 rfl) ?_
    refine va_zald hx hb hK hP 2 2 rfl rfl (i := a0) (vp_in_iff.mpr ⟨by omega, by omega⟩) dX10_clear_12 ?_
    refine W.eq (g2 := F0 m 13 ls [.int 0]) rfl ?_
    refine lv_if_eq (tgt := 31) hx hb dX10_clear_13 (by decide) (fun _ => ?_) (fun h9 => absurd h9 (by decide))
    refine lv_iconst (v := (-1)) hx hb dX10_clear_31 (by decide) ?_
    refine lv_istore_n (lv' := [(2, .int (-1)), (0, .ref x), (1, .int a0)]) hx hb dX10_clear_32 rfl hl (by decide) rfl (fun ls hl => ?_)
    refine lv_aload_n hx hb dX10_clear_33 rfl (lv_at hl 1 rfl) ?_
    refine va_get (D := D) (ci := 9) (v := .ref st) (C := RX10) (T := TX10) (N := 14) hx hb hts i_X10 hown hK hP 0 rfl rfl 0 (by decide) w_1 (fun _ h9 => h9) rfl dX10_clear_34 ?_
    refine va_get (D := D) (ci := 8) (v := .ref fl) (C := RX8) (T := TX8) (N := 6) hx hb hts i_X8 hown hK hP 1 rfl rfl 2 (by decide) w_2 (fun _ h9 => h9) rfl dX10_clear_37 ?_
    refine lv_iload_n hx hb dX10_clear_40 rfl (lv_at hl 2 rfl) ?_
    refine lv_iconst (v := 0) hx hb dX10_clear_41 (by decide) ?_
    refine va_zast hx hb hK hP hD hS 2 2 rfl rfl (i := a0) (x := 0) (vp_in_iff.mpr ⟨by omega, by omega⟩) dX10_clear_42 (fun H_7 locs hP hD hS => ?_)
    have hP : va_P D vwCl [(x, .inr (9, [.ref st, .ref kp, .int 0, .ref bf, .int 0, .int (-1), .int (-1), .int 0, .ref o1, .ref o2, .ref o3, .ref o4, .ref o5, .ref o6])), (st, .inr (8, [.ref lt, .ref tb, .ref fl, .ref wt, .int 0, .null])), (fl, .inl (cZ, 6, .inl (upd (fun _ => 0) ((a0 : Int32).toNatClampNeg) (vp_nar .boolean 0))))] H_7 := hP
    have hD : va_D A [(x, .inr (9, [.ref st, .ref kp, .int 0, .ref bf, .int 0, .int (-1), .int (-1), .int 0, .ref o1, .ref o2, .ref o3, .ref o4, .ref o5, .ref o6])), (st, .inr (8, [.ref lt, .ref tb, .ref fl, .ref wt, .int 0, .null])), (fl, .inl (cZ, 6, .inl (upd (fun _ => 0) ((a0 : Int32).toNatClampNeg) (vp_nar .boolean 0))))] := hD
    rw [xUpdZ] at hP hD
    have hP : va_P D vwCl [(x, .inr (9, [.ref st, .ref kp, .int 0, .ref bf, .int 0, .int (-1), .int (-1), .int 0, .ref o1, .ref o2, .ref o3, .ref o4, .ref o5, .ref o6])), (st, .inr (8, [.ref lt, .ref tb, .ref fl, .ref wt, .int 0, .null])), (fl, .inl (cZ, 6, .inl (fun _ => 0)))] H_7 := hP
    have hD : va_D A [(x, .inr (9, [.ref st, .ref kp, .int 0, .ref bf, .int 0, .int (-1), .int (-1), .int 0, .ref o1, .ref o2, .ref o3, .ref o4, .ref o5, .ref o6])), (st, .inr (8, [.ref lt, .ref tb, .ref fl, .ref wt, .int 0, .null])), (fl, .inl (cZ, 6, .inl (fun _ => 0)))] := hD
    refine lv_aload_n hx hb dX10_clear_43 rfl (lv_at hl 1 rfl) ?_
    refine lv_iload_n hx hb dX10_clear_44 rfl (lv_at hl 2 rfl) ?_
    have hPc := hP.sub (ws' := [(x, .inr (9, [.ref st, .ref kp, .int 0, .ref bf, .int 0, .int (-1), .int (-1), .int 0, .ref o1, .ref o2, .ref o3, .ref o4, .ref o5, .ref o6]))]) [0] rfl
    have hDc := hD.sub (ws' := [(x, .inr (9, [.ref st, .ref kp, .int 0, .ref bf, .int 0, .int (-1), .int (-1), .int 0, .ref o1, .ref o2, .ref o3, .ref o4, .ref o5, .ref o6]))]) [0] (by decide) rfl
    have hFc := va_free (wc := [(x, .inr (9, [.ref st, .ref kp, .int 0, .ref bf, .int 0, .int (-1), .int (-1), .int 0, .ref o1, .ref o2, .ref o3, .ref o4, .ref o5, .ref o6]))]) hD hS hA [0] rfl
    refine va_callv (va_runV (As := [.int a0]) (rest := []) ⟨hx, hb, hml, hown, hts⟩ (k_X10_leaveSlot l htr D cI cJ cZ x st kp bf o1 o2 o3 o4 o5 o6 a0 H_7.size) (cwV 1 hts gk_X10_clear_X10_leaveSlot rfl rfl rfl (by decide +kernel) ⟨Nat.le_of_ble_eq_true rfl, Nat.le_of_ble_eq_true rfl⟩) ⟨xPc_blind, va_recv hK hP (ci := 9) (q0 := 0) rfl rfl, xPc_pre hPc hK hDc hE hS hFc hV⟩ rfl rfl hl.1 rfl (lv_room (Nat.le_of_ble_eq_true rfl)) dX10_clear_45 ⟨Nat.le_of_ble_eq_true rfl, Nat.le_of_ble_eq_true rfl⟩) hS (fun q _ h => hFc q h) hFc (fun u t H_8 locs ht hvm hw hB hz1 hk1 hS => ?_)
    rcases hw with e_0 | e_0
    · have c_9 : (-1) ≠ a0.toInt := e_0
      obtain ⟨hP1, hD1⟩ := hB
      rw [ht] at hP1
      obtain ⟨hP, hD⟩ := va_join (wr := [(st, .inr (8, [.ref lt, .ref tb, .ref fl, .ref wt, .int 0, .null])), (fl, .inl (cZ, 6, .inl (fun _ => 0)))]) (w1 := [(x, .inr (9, [.ref st, .ref kp, .int 0, .ref bf, .int 0, .int (-1), .int (-1), .int 0, .ref o1, .ref o2, .ref o3, .ref o4, .ref o5, .ref o6]))]) hP hD [0] [1, 2] rfl rfl (by decide) (by decide) hk1 hFc hP1 hD1
      have hP : va_P D vwCl [(st, .inr (8, [.ref lt, .ref tb, .ref fl, .ref wt, .int 0, .null])), (fl, .inl (cZ, 6, .inl (fun _ => 0))), (x, .inr (9, [.ref st, .ref kp, .int 0, .ref bf, .int 0, .int (-1), .int (-1), .int 0, .ref o1, .ref o2, .ref o3, .ref o4, .ref o5, .ref o6]))] H_8 := hP
      have hD : va_D A [(st, .inr (8, [.ref lt, .ref tb, .ref fl, .ref wt, .int 0, .null])), (fl, .inl (cZ, 6, .inl (fun _ => 0))), (x, .inr (9, [.ref st, .ref kp, .int 0, .ref bf, .int 0, .int (-1), .int (-1), .int 0, .ref o1, .ref o2, .ref o3, .ref o4, .ref o5, .ref o6]))] := hD
      refine W.widen (k := 1) (n := 6) (Nat.le_of_ble_eq_true rfl) (Nat.le_of_ble_eq_true rfl) ?_
      refine lv_iload_n hx hb dX10_clear_48 rfl (lv_at hl 0 rfl) ?_
      have hP9 := hP.sub (ws' := []) [] rfl
      have hD9 := hD.sub (ws' := []) [] (by decide) rfl
      refine W.widen (k := 1) (n := 6) (Nat.le_of_ble_eq_true rfl) (Nat.le_of_ble_eq_true rfl) ?_
      exact vx_ret (W.iret (v := (-1)) hx hb hr (fun t ht hW => ⟨⟨(-1), (), rfl, ⟨rfl, c_5, c_6, c_9⟩, by rw [ht]; exact hP9, hD9⟩, hS.F ht⟩) hS.2.2 dX10_clear_49)
    · have c_10 : (-1) = a0.toInt := e_0
      exfalso; omega
def wk_X10_union : List Cond := .code yX10_union cX10_union 7 (some .int) :: (([.methodLink RX10 213 yX10_checkSlots, .static yX10_checkSlots, .initialized RX10, .code yX10_checkSlots cX10_checkSlots 3 none, .methodLink RX10 138 yX10_checkSlot, .static yX10_checkSlot, .code yX10_checkSlot cX10_checkSlot 1 none, .classLink RX10 91 iob, .initialized iob, .methodLink RX10 153 yX10_tableIn, .instanceMethod yX10_tableIn, .selects RX10 yX10_tableIn yX10_tableIn, .code yX10_tableIn cX10_tableIn 2 (some (.object "DocumentSpanner$SortedInts")), .fieldLink RX10 12 "DocumentSpanner" "state" "LDocumentSpanner$State;", .fieldLink RX10 96 "DocumentSpanner$State" "filled" "[Z", .classLink RX10 80 ise, .initialized ise] : List Cond) ++ wsX100 ++ wsX80 ++ (vx_atS RX10 84 ise ["java/lang/RuntimeException", "java/lang/Exception"]).filter goodWord ++ (vx_atS RX10 95 iob ["java/lang/RuntimeException", "java/lang/Exception"]).filter goodWord)
set_option maxRecDepth 20000 in
theorem ggk_X10_union_X10_checkSlots : GoodIn wk_X10_union wk_X10_checkSlots := goodIn_ca (goodIn_r _ [4, 5, 6, 3, 7, 8, 9] (by decide +kernel) (by decide +kernel)) (goodIn_sub (fun _ h => List.mem_cons_of_mem _ (List.mem_append_right _ h)) (by decide +kernel))
set_option maxRecDepth 20000 in
theorem gk_X10_union_X10_checkSlots : GoodIn wk_X10_union (va_wsS RX10 213 yX10_checkSlots wk_X10_checkSlots) := goodIn_app (goodIn_r _ [1, 2, 3] (by decide +kernel) (by decide +kernel)) ggk_X10_union_X10_checkSlots
set_option maxRecDepth 20000 in
theorem ggk_X10_union_X10_tableIn : GoodIn wk_X10_union wk_X10_tableIn := goodIn_ca (goodIn_ca (goodIn_ca (goodIn_ca (goodIn_r _ [13, 14, 15, 16, 17, 5, 6, 3, 7, 8, 9] (by decide +kernel) (by decide +kernel)) (goodIn_sub (fun _ h => List.mem_cons_of_mem _ (List.mem_append_left _ (List.mem_append_left _ (List.mem_append_left _ (List.mem_append_right _ h))))) (by decide +kernel))) (goodIn_sub (fun _ h => List.mem_cons_of_mem _ (List.mem_append_left _ (List.mem_append_left _ (List.mem_append_right _ h)))) (by decide +kernel))) (goodIn_sub (fun _ h => List.mem_cons_of_mem _ (List.mem_append_left _ (List.mem_append_right _ h))) (by decide +kernel))) (goodIn_sub (fun _ h => List.mem_cons_of_mem _ (List.mem_append_right _ h)) (by decide +kernel))
set_option maxRecDepth 20000 in
theorem gk_X10_union_X10_tableIn : GoodIn wk_X10_union (wsV RX10 153 RX10 yX10_tableIn wk_X10_tableIn) := goodIn_app (goodIn_r _ [10, 11, 12, 3] (by decide +kernel) (by decide +kernel)) ggk_X10_union_X10_tableIn
set_option maxHeartbeats 4000000 in
set_option maxRecDepth 100000 in
theorem k_X10_union (l : Launch) (htr : l.stackTraces = false) (D : va_G) (cI cJ cZ : ClassId) (x : Nat) (st : Nat) (kp : Nat) (bf : Nat) (o1 : Nat) (o2 : Nat) (o3 : Nat) (o4 : Nat) (o5 : Nat) (o6 : Nat) (lt : Nat) (tb : Nat) (fl : Nat) (wt : Nat) (a0 : Int32) (a1 : Int32) (a2 : Int32) (sz : Nat) : vx_Met l yX10_union wk_X10_union ({ frames := 8, cells := 5, slots := 30, locals := 124 }) (xPc D cI cJ cZ [.ref x, .int a0, .int a1, .int a2] [(x, .inr (9, [.ref st, .ref kp, .int 0, .ref bf, .int 0, .int (-1), .int (-1), .int 0, .ref o1, .ref o2, .ref o3, .ref o4, .ref o5, .ref o6])), (st, .inr (8, [.ref lt, .ref tb, .ref fl, .ref wt, .int 0, .null])), (fl, .inl (cZ, 6, .inl (fun _ => 0)))] sz) (va_Qi (fun (r : Int32) (u : Unit) => False) (fun (u : Unit) (t : State) => va_P D vwCl ([] : va_W) t.heap ∧ va_D (va_A [(x, .inr (9, [.ref st, .ref kp, .int 0, .ref bf, .int 0, .int (-1), .int (-1), .int 0, .ref o1, .ref o2, .ref o3, .ref o4, .ref o5, .ref o6])), (st, .inr (8, [.ref lt, .ref tb, .ref fl, .ref wt, .int 0, .null])), (fl, .inl (cZ, 6, .inl (fun _ => 0)))] sz) ([] : va_W)) (va_A [(x, .inr (9, [.ref st, .ref kp, .int 0, .ref bf, .int 0, .int (-1), .int (-1), .int 0, .ref o1, .ref o2, .ref o3, .ref o4, .ref o5, .ref o6])), (st, .inr (8, [.ref lt, .ref tb, .ref fl, .ref wt, .int 0, .null])), (fl, .inl (cZ, 6, .inl (fun _ => 0)))] sz)) (vx_X (fun _ : Unit => True) (fun (E : String) (_ : Unit) (_ : State) => (E = iob ∧ a0.toInt < 0) ∨ (E = iob ∧ 0 ≤ a0.toInt ∧ 6 ≤ a0.toInt) ∨ (E = iob ∧ 0 ≤ a0.toInt ∧ a0.toInt < 6 ∧ a1.toInt < 0) ∨ (E = iob ∧ 0 ≤ a0.toInt ∧ a0.toInt < 6 ∧ 0 ≤ a1.toInt ∧ 6 ≤ a1.toInt) ∨ (E = iob ∧ 0 ≤ a0.toInt ∧ a0.toInt < 6 ∧ 0 ≤ a1.toInt ∧ a1.toInt < 6 ∧ a2.toInt < 0) ∨ (E = iob ∧ 0 ≤ a0.toInt ∧ a0.toInt < 6 ∧ 0 ≤ a1.toInt ∧ a1.toInt < 6 ∧ 0 ≤ a2.toInt ∧ 6 ≤ a2.toInt) ∨ (E = ise ∧ 0 ≤ a0.toInt ∧ a0.toInt < 6 ∧ 0 ≤ a1.toInt ∧ a1.toInt < 6 ∧ 0 ≤ a2.toInt ∧ a2.toInt < 6 ∧ 0 ≤ a0.toInt ∧ a0.toInt < 6)) (va_A [(x, .inr (9, [.ref st, .ref kp, .int 0, .ref bf, .int 0, .int (-1), .int (-1), .int 0, .ref o1, .ref o2, .ref o3, .ref o4, .ref o5, .ref o6])), (st, .inr (8, [.ref lt, .ref tb, .ref fl, .ref wt, .int 0, .null])), (fl, .inl (cZ, 6, .inl (fun _ => 0)))] sz)) 5 30 (va_A [(x, .inr (9, [.ref st, .ref kp, .int 0, .ref bf, .int 0, .int (-1), .int (-1), .int 0, .ref o1, .ref o2, .ref o3, .ref o4, .ref o5, .ref o6])), (st, .inr (8, [.ref lt, .ref tb, .ref fl, .ref wt, .int 0, .null])), (fl, .inl (cZ, 6, .inl (fun _ => 0)))] sz) := by
  refine vx_ofW (cc := cX10_union) (maxL := 7) (ret := (some .int)) (by decide) rfl ?_
  intro p e s m args below meth c s₁ B hml htab hv
  obtain ⟨rfl, hsz, hP, hK, hD0, hE, hV⟩ := hv
  have hx := B.exec
  have hb := B.bytes
  have hr := B.returns
  have hts := atoms_spec (ws := wk_X10_union) B.pre
  have hown : s.vm.findClass RX10 = some m.cls := findClass_of_methodNamed B.named
  have hlocks := B.notSynchronized
  subst hsz
  have hD := hD0.self (sz := s.heap.size)
  generalize hAe : va_A [(x, .inr (9, [.ref st, .ref kp, .int 0, .ref bf, .int 0, .int (-1), .int (-1), .int 0, .ref o1, .ref o2, .ref o3, .ref o4, .ref o5, .ref o6])), (st, .inr (8, [.ref lt, .ref tb, .ref fl, .ref wt, .int 0, .null])), (fl, .inl (cZ, 6, .inl (fun _ => 0)))] s.heap.size = A at hD hE ⊢
  have hA : ∀ q : Nat, s.heap.size ≤ q → A q := fun q h => by rw [← hAe]; exact Or.inr h
  have hS : va_S A s.heap s.heap [] := va_S.rf
  have hP : va_P D vwCl [(x, .inr (9, [.ref st, .ref kp, .int 0, .ref bf, .int 0, .int (-1), .int (-1), .int 0, .ref o1, .ref o2, .ref o3, .ref o4, .ref o5, .ref o6])), (st, .inr (8, [.ref lt, .ref tb, .ref fl, .ref wt, .int 0, .null])), (fl, .inl (cZ, 6, .inl (fun _ => 0)))] s.heap := hP
  have hl := lv_entry ([.ref x, .int a0, .int a1, .int a2]) (n := 7) (Nat.le_of_ble_eq_true rfl)
  rw [lg_entry_eq]
  generalize (lg_sl ([.ref x, .int a0, .int a1, .int a2]) ++ List.replicate (7 - (lg_sl ([.ref x, .int a0, .int a1, .int a2])).length) Slot.unset).toArray = ls at hl ⊢
  have hl : lv_has ls 7 [(0, .ref x), (1, .int a0), (2, .int a1), (3, .int a2)] := hl
  refine lv_iload_n hx hb dX10_union_0 rfl (lv_at hl 1 rfl) ?_
  refine lv_iload_n hx hb dX10_union_1 rfl (lv_at hl 2 rfl) ?_
  refine lv_iload_n hx hb dX10_union_2 rfl (lv_at hl 3 rfl) ?_
  have hPc := hP.sub (ws' := []) [] rfl
  have hDc := hD.sub (ws' := []) [] (by decide) rfl
  have hFc := va_free (wc := []) hD hS hA [] rfl
  refine vx_callv (vx_runS (As := [.int a0, .int a1, .int a2]) (rest := []) ⟨hx, hb, hml, hown, hts⟩ (k_X10_checkSlots l htr D cI cJ cZ a0 a1 a2 s.heap.size) (va_cwS 3 hts gk_X10_union_X10_checkSlots rfl rfl rfl (by decide +kernel) ⟨Nat.le_of_ble_eq_true rfl, Nat.le_of_ble_eq_true rfl⟩) ⟨xPc_blind, xPc_pre hPc hK hDc hE hS hFc hV⟩ rfl rfl hl.1 rfl (lv_room (Nat.le_of_ble_eq_true rfl)) dX10_union_3 ⟨Nat.le_of_ble_eq_true rfl, Nat.le_of_ble_eq_true rfl⟩) hS (fun q _ h => hFc q h) hFc (fun q _ h => hFc q h) (fun E ce q9 u t H_1 locs ht hvm hpx hBX hz1 hk1 hS hq9 hcv hcl => ?_) (fun u t H_1 locs ht hvm hw hB hz1 hk1 hS => ?_)
  · rcases hBX with ⟨rfl, e_0⟩ | ⟨rfl, e_0, e_1⟩ | ⟨rfl, e_0, e_1, e_2⟩ | ⟨rfl, e_0, e_1, e_2, e_3⟩ | ⟨rfl, e_0, e_1, e_2, e_3, e_4⟩ | ⟨rfl, e_0, e_1, e_2, e_3, e_4, e_5⟩
    · have c_2 : a0.toInt < 0 := e_0
      exact vx_out (fun x hx => (htab x hx).elim) hlocks hq9 hcv hcl (fun t ht hW => ⟨(), trivial, Or.inl ⟨rfl, c_2⟩, hS.F ht⟩) hS.2.2 (Nat.le_of_ble_eq_true rfl) (Nat.le_of_ble_eq_true rfl)
    · have c_3 : 0 ≤ a0.toInt := e_0
      have c_4 : 6 ≤ a0.toInt := e_1
      exact vx_out (fun x hx => (htab x hx).elim) hlocks hq9 hcv hcl (fun t ht hW => ⟨(), trivial, Or.inr (Or.inl ⟨rfl, c_3, c_4⟩), hS.F ht⟩) hS.2.2 (Nat.le_of_ble_eq_true rfl) (Nat.le_of_ble_eq_true rfl)
    · have c_5 : 0 ≤ a0.toInt := e_0
      have c_6 : a0.toInt < 6 := e_1
      have c_7 : a1.toInt < 0 := e_2
      exact vx_out (fun x hx => (htab x hx).elim) hlocks hq9 hcv hcl (fun t ht hW => ⟨(), trivial, Or.inr (Or.inr (Or.inl ⟨rfl, c_5, c_6, c_7⟩)), hS.F ht⟩) hS.2.2 (Nat.le_of_ble_eq_true rfl) (Nat.le_of_ble_eq_true rfl)
    · have c_8 : 0 ≤ a0.toInt := e_0
      have c_9 : a0.toInt < 6 := e_1
      have c_10 : 0 ≤ a1.toInt := e_2
      have c_11 : 6 ≤ a1.toInt := e_3
      exact vx_out (fun x hx => (htab x hx).elim) hlocks hq9 hcv hcl (fun t ht hW => ⟨(), trivial, Or.inr (Or.inr (Or.inr (Or.inl ⟨rfl, c_8, c_9, c_10, c_11⟩))), hS.F ht⟩) hS.2.2 (Nat.le_of_ble_eq_true rfl) (Nat.le_of_ble_eq_true rfl)
    · have c_12 : 0 ≤ a0.toInt := e_0
      have c_13 : a0.toInt < 6 := e_1
      have c_14 : 0 ≤ a1.toInt := e_2
      have c_15 : a1.toInt < 6 := e_3
      have c_16 : a2.toInt < 0 := e_4
      exact vx_out (fun x hx => (htab x hx).elim) hlocks hq9 hcv hcl (fun t ht hW => ⟨(), trivial, Or.inr (Or.inr (Or.inr (Or.inr (Or.inl ⟨rfl, c_12, c_13, c_14, c_15, c_16⟩)))), hS.F ht⟩) hS.2.2 (Nat.le_of_ble_eq_true rfl) (Nat.le_of_ble_eq_true rfl)
    · have c_17 : 0 ≤ a0.toInt := e_0
      have c_18 : a0.toInt < 6 := e_1
      have c_19 : 0 ≤ a1.toInt := e_2
      have c_20 : a1.toInt < 6 := e_3
      have c_21 : 0 ≤ a2.toInt := e_4
      have c_22 : 6 ≤ a2.toInt := e_5
      exact vx_out (fun x hx => (htab x hx).elim) hlocks hq9 hcv hcl (fun t ht hW => ⟨(), trivial, Or.inr (Or.inr (Or.inr (Or.inr (Or.inr (Or.inl ⟨rfl, c_17, c_18, c_19, c_20, c_21, c_22⟩))))), hS.F ht⟩) hS.2.2 (Nat.le_of_ble_eq_true rfl) (Nat.le_of_ble_eq_true rfl)
  · rcases hw with ⟨e_0, e_1, e_2, e_3, e_4, e_5⟩
    have c_23 : 0 ≤ a0.toInt := e_0
    have c_24 : a0.toInt < 6 := e_1
    have c_25 : 0 ≤ a1.toInt := e_2
    have c_26 : a1.toInt < 6 := e_3
    have c_27 : 0 ≤ a2.toInt := e_4
    have c_28 : a2.toInt < 6 := e_5
    obtain ⟨hP1, hD1⟩ := hB
    rw [ht] at hP1
    obtain ⟨hP, hD⟩ := va_join (wr := [(x, .inr (9, [.ref st, .ref kp, .int 0, .ref bf, .int 0, .int (-1), .int (-1), .int 0, .ref o1, .ref o2, .ref o3, .ref o4, .ref o5, .ref o6])), (st, .inr (8, [.ref lt, .ref tb, .ref fl, .ref wt, .int 0, .null])), (fl, .inl (cZ, 6, .inl (fun _ => 0)))]) (w1 := []) hP hD [] [0, 1, 2] rfl rfl (by decide) (by decide) hk1 hFc hP1 hD1
    have hP : va_P D vwCl [(x, .inr (9, [.ref st, .ref kp, .int 0, .ref bf, .int 0, .int (-1), .int (-1), .int 0, .ref o1, .ref o2, .ref o3, .ref o4, .ref o5, .ref o6])), (st, .inr (8, [.ref lt, .ref tb, .ref fl, .ref wt, .int 0, .null])), (fl, .inl (cZ, 6, .inl (fun _ => 0)))] H_1 := hP
    have hD : va_D A [(x, .inr (9, [.ref st, .ref kp, .int 0, .ref bf, .int 0, .int (-1), .int (-1), .int 0, .ref o1, .ref o2, .ref o3, .ref o4, .ref o5, .ref o6])), (st, .inr (8, [.ref lt, .ref tb, .ref fl, .ref wt, .int 0, .null])), (fl, .inl (cZ, 6, .inl (fun _ => 0)))] := hD
    refine W.widen (k := 3) (n := 18) (Nat.le_of_ble_eq_true rfl) (Nat.le_of_ble_eq_true rfl) ?_
    refine lv_aload_n hx hb dX10_union_6 rfl (lv_at hl 0 rfl) ?_
    refine lv_iload_n hx hb dX10_union_7 rfl (lv_at hl 1 rfl) ?_
    have hPc := hP.sub (ws' := [(x, .inr (9, [.ref st, .ref kp, .int 0, .ref bf, .int 0, .int (-1), .int (-1), .int 0, .ref o1, .ref o2, .ref o3, .ref o4, .ref o5, .ref o6])), (st, .inr (8, [.ref lt, .ref tb, .ref fl, .ref wt, .int 0, .null])), (fl, .inl (cZ, 6, .inl (fun _ => 0)))]) [0, 1, 2] rfl
    have hDc := hD.sub (ws' := [(x, .inr (9, [.ref st, .ref kp, .int 0, .ref bf, .int 0, .int (-1), .int (-1), .int 0, .ref o1, .ref o2, .ref o3, .ref o4, .ref o5, .ref o6])), (st, .inr (8, [.ref lt, .ref tb, .ref fl, .ref wt, .int 0, .null])), (fl, .inl (cZ, 6, .inl (fun _ => 0)))]) [0, 1, 2] (by decide) rfl
    have hFc := va_free (wc := [(x, .inr (9, [.ref st, .ref kp, .int 0, .ref bf, .int 0, .int (-1), .int (-1), .int 0, .ref o1, .ref o2, .ref o3, .ref o4, .ref o5, .ref o6])), (st, .inr (8, [.ref lt, .ref tb, .ref fl, .ref wt, .int 0, .null])), (fl, .inl (cZ, 6, .inl (fun _ => 0)))]) hD hS hA [0, 1, 2] rfl
    refine vx_callq (vx_runV (As := [.int a0]) (rest := []) ⟨hx, hb, hml, hown, hts⟩ (k_X10_tableIn l htr D cI cJ cZ x st kp bf o1 o2 o3 o4 o5 o6 lt tb fl wt a0 H_1.size) (cwV 1 hts gk_X10_union_X10_tableIn rfl rfl rfl (by decide +kernel) ⟨Nat.le_of_ble_eq_true rfl, Nat.le_of_ble_eq_true rfl⟩) ⟨xPc_blind, va_recv hK hP (ci := 9) (q0 := 0) rfl rfl, xPc_pre hPc hK hDc hE hS hFc hV⟩ rfl rfl hl.1 rfl (lv_room (Nat.le_of_ble_eq_true rfl)) dX10_union_8 ⟨Nat.le_of_ble_eq_true rfl, Nat.le_of_ble_eq_true rfl⟩) hS (fun q _ h => hFc q h) hFc (fun q _ h => hFc q h) (fun E ce q9 u t H_29 locs ht hvm hpx hBX hz1 hk1 hS hq9 hcv hcl => ?_) (fun r u t H_29 locs ht hvm hw hB hz1 hk1 hS => ?_)
    · rcases hBX with ⟨rfl, e_0⟩ | ⟨rfl, e_0, e_1⟩ | ⟨rfl, e_0, e_1⟩
      · have c_30 : a0.toInt < 0 := e_0
        exfalso; omega
      · have c_31 : 0 ≤ a0.toInt := e_0
        have c_32 : 6 ≤ a0.toInt := e_1
        exfalso; omega
      · have c_33 : 0 ≤ a0.toInt := e_0
        have c_34 : a0.toInt < 6 := e_1
        exact vx_out (fun x hx => (htab x hx).elim) hlocks hq9 hcv hcl (fun t ht hW => ⟨(), trivial, Or.inr (Or.inr (Or.inr (Or.inr (Or.inr (Or.inr ⟨rfl, c_23, c_24, c_25, c_26, c_27, c_28, c_33, c_34⟩))))), hS.F ht⟩) hS.2.2 (Nat.le_of_ble_eq_true rfl) (Nat.le_of_ble_eq_true rfl)
    · exact hw.elim
def wk_X10_join : List Cond := .code yX10_join cX10_join 7 (some .int) :: (([.methodLink RX10 213 yX10_checkSlots, .static yX10_checkSlots, .initialized RX10, .code yX10_checkSlots cX10_checkSlots 3 none, .methodLink RX10 138 yX10_checkSlot, .static yX10_checkSlot, .code yX10_checkSlot cX10_checkSlot 1 none, .classLink RX10 91 iob, .initialized iob, .methodLink RX10 153 yX10_tableIn, .instanceMethod yX10_tableIn, .selects RX10 yX10_tableIn yX10_tableIn, .code yX10_tableIn cX10_tableIn 2 (some (.object "DocumentSpanner$SortedInts")), .fieldLink RX10 12 "DocumentSpanner" "state" "LDocumentSpanner$State;", .fieldLink RX10 96 "DocumentSpanner$State" "filled" "[Z", .classLink RX10 80 ise, .initialized ise] : List Cond) ++ wsX100 ++ wsX80 ++ (vx_atS RX10 84 ise ["java/lang/RuntimeException", "java/lang/Exception"]).filter goodWord ++ (vx_atS RX10 95 iob ["java/lang/RuntimeException", "java/lang/Exception"]).filter goodWord)
set_option maxRecDepth 20000 in
theorem ggk_X10_join_X10_checkSlots : GoodIn wk_X10_join wk_X10_checkSlots := goodIn_ca (goodIn_r _ [4, 5, 6, 3, 7, 8, 9] (by decide +kernel) (by decide +kernel)) (goodIn_sub (fun _ h => List.mem_cons_of_mem _ (List.mem_append_right _ h)) (by decide +kernel))
set_option maxRecDepth 20000 in
theorem gk_X10_join_X10_checkSlots : GoodIn wk_X10_join (va_wsS RX10 213 yX10_checkSlots wk_X10_checkSlots) := goodIn_app (goodIn_r _ [1, 2, 3] (by decide +kernel) (by decide +kernel)) ggk_X10_join_X10_checkSlots
set_option maxRecDepth 20000 in
theorem ggk_X10_join_X10_tableIn : GoodIn wk_X10_join wk_X10_tableIn := goodIn_ca (goodIn_ca (goodIn_ca (goodIn_ca (goodIn_r _ [13, 14, 15, 16, 17, 5, 6, 3, 7, 8, 9] (by decide +kernel) (by decide +kernel)) (goodIn_sub (fun _ h => List.mem_cons_of_mem _ (List.mem_append_left _ (List.mem_append_left _ (List.mem_append_left _ (List.mem_append_right _ h))))) (by decide +kernel))) (goodIn_sub (fun _ h => List.mem_cons_of_mem _ (List.mem_append_left _ (List.mem_append_left _ (List.mem_append_right _ h)))) (by decide +kernel))) (goodIn_sub (fun _ h => List.mem_cons_of_mem _ (List.mem_append_left _ (List.mem_append_right _ h))) (by decide +kernel))) (goodIn_sub (fun _ h => List.mem_cons_of_mem _ (List.mem_append_right _ h)) (by decide +kernel))
set_option maxRecDepth 20000 in
theorem gk_X10_join_X10_tableIn : GoodIn wk_X10_join (wsV RX10 153 RX10 yX10_tableIn wk_X10_tableIn) := goodIn_app (goodIn_r _ [10, 11, 12, 3] (by decide +kernel) (by decide +kernel)) ggk_X10_join_X10_tableIn
set_option maxHeartbeats 4000000 in
set_option maxRecDepth 100000 in
theorem k_X10_join (l : Launch) (htr : l.stackTraces = false) (D : va_G) (cI cJ cZ : ClassId) (x : Nat) (st : Nat) (kp : Nat) (bf : Nat) (o1 : Nat) (o2 : Nat) (o3 : Nat) (o4 : Nat) (o5 : Nat) (o6 : Nat) (lt : Nat) (tb : Nat) (fl : Nat) (wt : Nat) (a0 : Int32) (a1 : Int32) (a2 : Int32) (sz : Nat) : vx_Met l yX10_join wk_X10_join ({ frames := 8, cells := 5, slots := 30, locals := 124 }) (xPc D cI cJ cZ [.ref x, .int a0, .int a1, .int a2] [(x, .inr (9, [.ref st, .ref kp, .int 0, .ref bf, .int 0, .int (-1), .int (-1), .int 0, .ref o1, .ref o2, .ref o3, .ref o4, .ref o5, .ref o6])), (st, .inr (8, [.ref lt, .ref tb, .ref fl, .ref wt, .int 0, .null])), (fl, .inl (cZ, 6, .inl (fun _ => 0)))] sz) (va_Qi (fun (r : Int32) (u : Unit) => False) (fun (u : Unit) (t : State) => va_P D vwCl ([] : va_W) t.heap ∧ va_D (va_A [(x, .inr (9, [.ref st, .ref kp, .int 0, .ref bf, .int 0, .int (-1), .int (-1), .int 0, .ref o1, .ref o2, .ref o3, .ref o4, .ref o5, .ref o6])), (st, .inr (8, [.ref lt, .ref tb, .ref fl, .ref wt, .int 0, .null])), (fl, .inl (cZ, 6, .inl (fun _ => 0)))] sz) ([] : va_W)) (va_A [(x, .inr (9, [.ref st, .ref kp, .int 0, .ref bf, .int 0, .int (-1), .int (-1), .int 0, .ref o1, .ref o2, .ref o3, .ref o4, .ref o5, .ref o6])), (st, .inr (8, [.ref lt, .ref tb, .ref fl, .ref wt, .int 0, .null])), (fl, .inl (cZ, 6, .inl (fun _ => 0)))] sz)) (vx_X (fun _ : Unit => True) (fun (E : String) (_ : Unit) (_ : State) => (E = iob ∧ a0.toInt < 0) ∨ (E = iob ∧ 0 ≤ a0.toInt ∧ 6 ≤ a0.toInt) ∨ (E = iob ∧ 0 ≤ a0.toInt ∧ a0.toInt < 6 ∧ a1.toInt < 0) ∨ (E = iob ∧ 0 ≤ a0.toInt ∧ a0.toInt < 6 ∧ 0 ≤ a1.toInt ∧ 6 ≤ a1.toInt) ∨ (E = iob ∧ 0 ≤ a0.toInt ∧ a0.toInt < 6 ∧ 0 ≤ a1.toInt ∧ a1.toInt < 6 ∧ a2.toInt < 0) ∨ (E = iob ∧ 0 ≤ a0.toInt ∧ a0.toInt < 6 ∧ 0 ≤ a1.toInt ∧ a1.toInt < 6 ∧ 0 ≤ a2.toInt ∧ 6 ≤ a2.toInt) ∨ (E = ise ∧ 0 ≤ a0.toInt ∧ a0.toInt < 6 ∧ 0 ≤ a1.toInt ∧ a1.toInt < 6 ∧ 0 ≤ a2.toInt ∧ a2.toInt < 6 ∧ 0 ≤ a0.toInt ∧ a0.toInt < 6)) (va_A [(x, .inr (9, [.ref st, .ref kp, .int 0, .ref bf, .int 0, .int (-1), .int (-1), .int 0, .ref o1, .ref o2, .ref o3, .ref o4, .ref o5, .ref o6])), (st, .inr (8, [.ref lt, .ref tb, .ref fl, .ref wt, .int 0, .null])), (fl, .inl (cZ, 6, .inl (fun _ => 0)))] sz)) 5 30 (va_A [(x, .inr (9, [.ref st, .ref kp, .int 0, .ref bf, .int 0, .int (-1), .int (-1), .int 0, .ref o1, .ref o2, .ref o3, .ref o4, .ref o5, .ref o6])), (st, .inr (8, [.ref lt, .ref tb, .ref fl, .ref wt, .int 0, .null])), (fl, .inl (cZ, 6, .inl (fun _ => 0)))] sz) := by
  refine vx_ofW (cc := cX10_join) (maxL := 7) (ret := (some .int)) (by decide) rfl ?_
  intro p e s m args below meth c s₁ B hml htab hv
  obtain ⟨rfl, hsz, hP, hK, hD0, hE, hV⟩ := hv
  have hx := B.exec
  have hb := B.bytes
  have hr := B.returns
  have hts := atoms_spec (ws := wk_X10_join) B.pre
  have hown : s.vm.findClass RX10 = some m.cls := findClass_of_methodNamed B.named
  have hlocks := B.notSynchronized
  subst hsz
  have hD := hD0.self (sz := s.heap.size)
  generalize hAe : va_A [(x, .inr (9, [.ref st, .ref kp, .int 0, .ref bf, .int 0, .int (-1), .int (-1), .int 0, .ref o1, .ref o2, .ref o3, .ref o4, .ref o5, .ref o6])), (st, .inr (8, [.ref lt, .ref tb, .ref fl, .ref wt, .int 0, .null])), (fl, .inl (cZ, 6, .inl (fun _ => 0)))] s.heap.size = A at hD hE ⊢
  have hA : ∀ q : Nat, s.heap.size ≤ q → A q := fun q h => by rw [← hAe]; exact Or.inr h
  have hS : va_S A s.heap s.heap [] := va_S.rf
  have hP : va_P D vwCl [(x, .inr (9, [.ref st, .ref kp, .int 0, .ref bf, .int 0, .int (-1), .int (-1), .int 0, .ref o1, .ref o2, .ref o3, .ref o4, .ref o5, .ref o6])), (st, .inr (8, [.ref lt, .ref tb, .ref fl, .ref wt, .int 0, .null])), (fl, .inl (cZ, 6, .inl (fun _ => 0)))] s.heap := hP
  have hl := lv_entry ([.ref x, .int a0, .int a1, .int a2]) (n := 7) (Nat.le_of_ble_eq_true rfl)
  rw [lg_entry_eq]
  generalize (lg_sl ([.ref x, .int a0, .int a1, .int a2]) ++ List.replicate (7 - (lg_sl ([.ref x, .int a0, .int a1, .int a2])).length) Slot.unset).toArray = ls at hl ⊢
  have hl : lv_has ls 7 [(0, .ref x), (1, .int a0), (2, .int a1), (3, .int a2)] := hl
  refine lv_iload_n hx hb dX10_join_0 rfl (lv_at hl 1 rfl) ?_
  refine lv_iload_n hx hb dX10_join_1 rfl (lv_at hl 2 rfl) ?_
  refine lv_iload_n hx hb dX10_join_2 rfl (lv_at hl 3 rfl) ?_
  have hPc := hP.sub (ws' := []) [] rfl
  have hDc := hD.sub (ws' := []) [] (by decide) rfl
  have hFc := va_free (wc := []) hD hS hA [] rfl
  refine vx_callv (vx_runS (As := [.int a0, .int a1, .int a2]) (rest := []) ⟨hx, hb, hml, hown, hts⟩ (k_X10_checkSlots l htr D cI cJ cZ a0 a1 a2 s.heap.size) (va_cwS 3 hts gk_X10_join_X10_checkSlots rfl rfl rfl (by decide +kernel) ⟨Nat.le_of_ble_eq_true rfl, Nat.le_of_ble_eq_true rfl⟩) ⟨xPc_blind, xPc_pre hPc hK hDc hE hS hFc hV⟩ rfl rfl hl.1 rfl (lv_room (Nat.le_of_ble_eq_true rfl)) dX10_join_3 ⟨Nat.le_of_ble_eq_true rfl, Nat.le_of_ble_eq_true rfl⟩) hS (fun q _ h => hFc q h) hFc (fun q _ h => hFc q h) (fun E ce q9 u t H_1 locs ht hvm hpx hBX hz1 hk1 hS hq9 hcv hcl => ?_) (fun u t H_1 locs ht hvm hw hB hz1 hk1 hS => ?_)
  · rcases hBX with ⟨rfl, e_0⟩ | ⟨rfl, e_0, e_1⟩ | ⟨rfl, e_0, e_1, e_2⟩ | ⟨rfl, e_0, e_1, e_2, e_3⟩ | ⟨rfl, e_0, e_1, e_2, e_3, e_4⟩ | ⟨rfl, e_0, e_1, e_2, e_3, e_4, e_5⟩
    · have c_2 : a0.toInt < 0 := e_0
      exact vx_out (fun x hx => (htab x hx).elim) hlocks hq9 hcv hcl (fun t ht hW => ⟨(), trivial, Or.inl ⟨rfl, c_2⟩, hS.F ht⟩) hS.2.2 (Nat.le_of_ble_eq_true rfl) (Nat.le_of_ble_eq_true rfl)
    · have c_3 : 0 ≤ a0.toInt := e_0
      have c_4 : 6 ≤ a0.toInt := e_1
      exact vx_out (fun x hx => (htab x hx).elim) hlocks hq9 hcv hcl (fun t ht hW => ⟨(), trivial, Or.inr (Or.inl ⟨rfl, c_3, c_4⟩), hS.F ht⟩) hS.2.2 (Nat.le_of_ble_eq_true rfl) (Nat.le_of_ble_eq_true rfl)
    · have c_5 : 0 ≤ a0.toInt := e_0
      have c_6 : a0.toInt < 6 := e_1
      have c_7 : a1.toInt < 0 := e_2
      exact vx_out (fun x hx => (htab x hx).elim) hlocks hq9 hcv hcl (fun t ht hW => ⟨(), trivial, Or.inr (Or.inr (Or.inl ⟨rfl, c_5, c_6, c_7⟩)), hS.F ht⟩) hS.2.2 (Nat.le_of_ble_eq_true rfl) (Nat.le_of_ble_eq_true rfl)
    · have c_8 : 0 ≤ a0.toInt := e_0
      have c_9 : a0.toInt < 6 := e_1
      have c_10 : 0 ≤ a1.toInt := e_2
      have c_11 : 6 ≤ a1.toInt := e_3
      exact vx_out (fun x hx => (htab x hx).elim) hlocks hq9 hcv hcl (fun t ht hW => ⟨(), trivial, Or.inr (Or.inr (Or.inr (Or.inl ⟨rfl, c_8, c_9, c_10, c_11⟩))), hS.F ht⟩) hS.2.2 (Nat.le_of_ble_eq_true rfl) (Nat.le_of_ble_eq_true rfl)
    · have c_12 : 0 ≤ a0.toInt := e_0
      have c_13 : a0.toInt < 6 := e_1
      have c_14 : 0 ≤ a1.toInt := e_2
      have c_15 : a1.toInt < 6 := e_3
      have c_16 : a2.toInt < 0 := e_4
      exact vx_out (fun x hx => (htab x hx).elim) hlocks hq9 hcv hcl (fun t ht hW => ⟨(), trivial, Or.inr (Or.inr (Or.inr (Or.inr (Or.inl ⟨rfl, c_12, c_13, c_14, c_15, c_16⟩)))), hS.F ht⟩) hS.2.2 (Nat.le_of_ble_eq_true rfl) (Nat.le_of_ble_eq_true rfl)
    · have c_17 : 0 ≤ a0.toInt := e_0
      have c_18 : a0.toInt < 6 := e_1
      have c_19 : 0 ≤ a1.toInt := e_2
      have c_20 : a1.toInt < 6 := e_3
      have c_21 : 0 ≤ a2.toInt := e_4
      have c_22 : 6 ≤ a2.toInt := e_5
      exact vx_out (fun x hx => (htab x hx).elim) hlocks hq9 hcv hcl (fun t ht hW => ⟨(), trivial, Or.inr (Or.inr (Or.inr (Or.inr (Or.inr (Or.inl ⟨rfl, c_17, c_18, c_19, c_20, c_21, c_22⟩))))), hS.F ht⟩) hS.2.2 (Nat.le_of_ble_eq_true rfl) (Nat.le_of_ble_eq_true rfl)
  · rcases hw with ⟨e_0, e_1, e_2, e_3, e_4, e_5⟩
    have c_23 : 0 ≤ a0.toInt := e_0
    have c_24 : a0.toInt < 6 := e_1
    have c_25 : 0 ≤ a1.toInt := e_2
    have c_26 : a1.toInt < 6 := e_3
    have c_27 : 0 ≤ a2.toInt := e_4
    have c_28 : a2.toInt < 6 := e_5
    obtain ⟨hP1, hD1⟩ := hB
    rw [ht] at hP1
    obtain ⟨hP, hD⟩ := va_join (wr := [(x, .inr (9, [.ref st, .ref kp, .int 0, .ref bf, .int 0, .int (-1), .int (-1), .int 0, .ref o1, .ref o2, .ref o3, .ref o4, .ref o5, .ref o6])), (st, .inr (8, [.ref lt, .ref tb, .ref fl, .ref wt, .int 0, .null])), (fl, .inl (cZ, 6, .inl (fun _ => 0)))]) (w1 := []) hP hD [] [0, 1, 2] rfl rfl (by decide) (by decide) hk1 hFc hP1 hD1
    have hP : va_P D vwCl [(x, .inr (9, [.ref st, .ref kp, .int 0, .ref bf, .int 0, .int (-1), .int (-1), .int 0, .ref o1, .ref o2, .ref o3, .ref o4, .ref o5, .ref o6])), (st, .inr (8, [.ref lt, .ref tb, .ref fl, .ref wt, .int 0, .null])), (fl, .inl (cZ, 6, .inl (fun _ => 0)))] H_1 := hP
    have hD : va_D A [(x, .inr (9, [.ref st, .ref kp, .int 0, .ref bf, .int 0, .int (-1), .int (-1), .int 0, .ref o1, .ref o2, .ref o3, .ref o4, .ref o5, .ref o6])), (st, .inr (8, [.ref lt, .ref tb, .ref fl, .ref wt, .int 0, .null])), (fl, .inl (cZ, 6, .inl (fun _ => 0)))] := hD
    refine W.widen (k := 3) (n := 18) (Nat.le_of_ble_eq_true rfl) (Nat.le_of_ble_eq_true rfl) ?_
    refine lv_aload_n hx hb dX10_join_6 rfl (lv_at hl 0 rfl) ?_
    refine lv_iload_n hx hb dX10_join_7 rfl (lv_at hl 1 rfl) ?_
    have hPc := hP.sub (ws' := [(x, .inr (9, [.ref st, .ref kp, .int 0, .ref bf, .int 0, .int (-1), .int (-1), .int 0, .ref o1, .ref o2, .ref o3, .ref o4, .ref o5, .ref o6])), (st, .inr (8, [.ref lt, .ref tb, .ref fl, .ref wt, .int 0, .null])), (fl, .inl (cZ, 6, .inl (fun _ => 0)))]) [0, 1, 2] rfl
    have hDc := hD.sub (ws' := [(x, .inr (9, [.ref st, .ref kp, .int 0, .ref bf, .int 0, .int (-1), .int (-1), .int 0, .ref o1, .ref o2, .ref o3, .ref o4, .ref o5, .ref o6])), (st, .inr (8, [.ref lt, .ref tb, .ref fl, .ref wt, .int 0, .null])), (fl, .inl (cZ, 6, .inl (fun _ => 0)))]) [0, 1, 2] (by decide) rfl
    have hFc := va_free (wc := [(x, .inr (9, [.ref st, .ref kp, .int 0, .ref bf, .int 0, .int (-1), .int (-1), .int 0, .ref o1, .ref o2, .ref o3, .ref o4, .ref o5, .ref o6])), (st, .inr (8, [.ref lt, .ref tb, .ref fl, .ref wt, .int 0, .null])), (fl, .inl (cZ, 6, .inl (fun _ => 0)))]) hD hS hA [0, 1, 2] rfl
    refine vx_callq (vx_runV (As := [.int a0]) (rest := []) ⟨hx, hb, hml, hown, hts⟩ (k_X10_tableIn l htr D cI cJ cZ x st kp bf o1 o2 o3 o4 o5 o6 lt tb fl wt a0 H_1.size) (cwV 1 hts gk_X10_join_X10_tableIn rfl rfl rfl (by decide +kernel) ⟨Nat.le_of_ble_eq_true rfl, Nat.le_of_ble_eq_true rfl⟩) ⟨xPc_blind, va_recv hK hP (ci := 9) (q0 := 0) rfl rfl, xPc_pre hPc hK hDc hE hS hFc hV⟩ rfl rfl hl.1 rfl (lv_room (Nat.le_of_ble_eq_true rfl)) dX10_join_8 ⟨Nat.le_of_ble_eq_true rfl, Nat.le_of_ble_eq_true rfl⟩) hS (fun q _ h => hFc q h) hFc (fun q _ h => hFc q h) (fun E ce q9 u t H_29 locs ht hvm hpx hBX hz1 hk1 hS hq9 hcv hcl => ?_) (fun r u t H_29 locs ht hvm hw hB hz1 hk1 hS => ?_)
    · rcases hBX with ⟨rfl, e_0⟩ | ⟨rfl, e_0, e_1⟩ | ⟨rfl, e_0, e_1⟩
      · have c_30 : a0.toInt < 0 := e_0
        exfalso; omega
      · have c_31 : 0 ≤ a0.toInt := e_0
        have c_32 : 6 ≤ a0.toInt := e_1
        exfalso; omega
      · have c_33 : 0 ≤ a0.toInt := e_0
        have c_34 : a0.toInt < 6 := e_1
        exact vx_out (fun x hx => (htab x hx).elim) hlocks hq9 hcv hcl (fun t ht hW => ⟨(), trivial, Or.inr (Or.inr (Or.inr (Or.inr (Or.inr (Or.inr ⟨rfl, c_23, c_24, c_25, c_26, c_27, c_28, c_33, c_34⟩))))), hS.F ht⟩) hS.2.2 (Nat.le_of_ble_eq_true rfl) (Nat.le_of_ble_eq_true rfl)
    · exact hw.elim
def wk_X10_minus : List Cond := .code yX10_minus cX10_minus 7 (some .int) :: (([.methodLink RX10 213 yX10_checkSlots, .static yX10_checkSlots, .initialized RX10, .code yX10_checkSlots cX10_checkSlots 3 none, .methodLink RX10 138 yX10_checkSlot, .static yX10_checkSlot, .code yX10_checkSlot cX10_checkSlot 1 none, .classLink RX10 91 iob, .initialized iob, .methodLink RX10 153 yX10_tableIn, .instanceMethod yX10_tableIn, .selects RX10 yX10_tableIn yX10_tableIn, .code yX10_tableIn cX10_tableIn 2 (some (.object "DocumentSpanner$SortedInts")), .fieldLink RX10 12 "DocumentSpanner" "state" "LDocumentSpanner$State;", .fieldLink RX10 96 "DocumentSpanner$State" "filled" "[Z", .classLink RX10 80 ise, .initialized ise] : List Cond) ++ wsX100 ++ wsX80 ++ (vx_atS RX10 84 ise ["java/lang/RuntimeException", "java/lang/Exception"]).filter goodWord ++ (vx_atS RX10 95 iob ["java/lang/RuntimeException", "java/lang/Exception"]).filter goodWord)
set_option maxRecDepth 20000 in
theorem ggk_X10_minus_X10_checkSlots : GoodIn wk_X10_minus wk_X10_checkSlots := goodIn_ca (goodIn_r _ [4, 5, 6, 3, 7, 8, 9] (by decide +kernel) (by decide +kernel)) (goodIn_sub (fun _ h => List.mem_cons_of_mem _ (List.mem_append_right _ h)) (by decide +kernel))
set_option maxRecDepth 20000 in
theorem gk_X10_minus_X10_checkSlots : GoodIn wk_X10_minus (va_wsS RX10 213 yX10_checkSlots wk_X10_checkSlots) := goodIn_app (goodIn_r _ [1, 2, 3] (by decide +kernel) (by decide +kernel)) ggk_X10_minus_X10_checkSlots
set_option maxRecDepth 20000 in
theorem ggk_X10_minus_X10_tableIn : GoodIn wk_X10_minus wk_X10_tableIn := goodIn_ca (goodIn_ca (goodIn_ca (goodIn_ca (goodIn_r _ [13, 14, 15, 16, 17, 5, 6, 3, 7, 8, 9] (by decide +kernel) (by decide +kernel)) (goodIn_sub (fun _ h => List.mem_cons_of_mem _ (List.mem_append_left _ (List.mem_append_left _ (List.mem_append_left _ (List.mem_append_right _ h))))) (by decide +kernel))) (goodIn_sub (fun _ h => List.mem_cons_of_mem _ (List.mem_append_left _ (List.mem_append_left _ (List.mem_append_right _ h)))) (by decide +kernel))) (goodIn_sub (fun _ h => List.mem_cons_of_mem _ (List.mem_append_left _ (List.mem_append_right _ h))) (by decide +kernel))) (goodIn_sub (fun _ h => List.mem_cons_of_mem _ (List.mem_append_right _ h)) (by decide +kernel))
set_option maxRecDepth 20000 in
theorem gk_X10_minus_X10_tableIn : GoodIn wk_X10_minus (wsV RX10 153 RX10 yX10_tableIn wk_X10_tableIn) := goodIn_app (goodIn_r _ [10, 11, 12, 3] (by decide +kernel) (by decide +kernel)) ggk_X10_minus_X10_tableIn
set_option maxHeartbeats 4000000 in
set_option maxRecDepth 100000 in
theorem k_X10_minus (l : Launch) (htr : l.stackTraces = false) (D : va_G) (cI cJ cZ : ClassId) (x : Nat) (st : Nat) (kp : Nat) (bf : Nat) (o1 : Nat) (o2 : Nat) (o3 : Nat) (o4 : Nat) (o5 : Nat) (o6 : Nat) (lt : Nat) (tb : Nat) (fl : Nat) (wt : Nat) (a0 : Int32) (a1 : Int32) (a2 : Int32) (sz : Nat) : vx_Met l yX10_minus wk_X10_minus ({ frames := 8, cells := 5, slots := 30, locals := 124 }) (xPc D cI cJ cZ [.ref x, .int a0, .int a1, .int a2] [(x, .inr (9, [.ref st, .ref kp, .int 0, .ref bf, .int 0, .int (-1), .int (-1), .int 0, .ref o1, .ref o2, .ref o3, .ref o4, .ref o5, .ref o6])), (st, .inr (8, [.ref lt, .ref tb, .ref fl, .ref wt, .int 0, .null])), (fl, .inl (cZ, 6, .inl (fun _ => 0)))] sz) (va_Qi (fun (r : Int32) (u : Unit) => False) (fun (u : Unit) (t : State) => va_P D vwCl ([] : va_W) t.heap ∧ va_D (va_A [(x, .inr (9, [.ref st, .ref kp, .int 0, .ref bf, .int 0, .int (-1), .int (-1), .int 0, .ref o1, .ref o2, .ref o3, .ref o4, .ref o5, .ref o6])), (st, .inr (8, [.ref lt, .ref tb, .ref fl, .ref wt, .int 0, .null])), (fl, .inl (cZ, 6, .inl (fun _ => 0)))] sz) ([] : va_W)) (va_A [(x, .inr (9, [.ref st, .ref kp, .int 0, .ref bf, .int 0, .int (-1), .int (-1), .int 0, .ref o1, .ref o2, .ref o3, .ref o4, .ref o5, .ref o6])), (st, .inr (8, [.ref lt, .ref tb, .ref fl, .ref wt, .int 0, .null])), (fl, .inl (cZ, 6, .inl (fun _ => 0)))] sz)) (vx_X (fun _ : Unit => True) (fun (E : String) (_ : Unit) (_ : State) => (E = iob ∧ a0.toInt < 0) ∨ (E = iob ∧ 0 ≤ a0.toInt ∧ 6 ≤ a0.toInt) ∨ (E = iob ∧ 0 ≤ a0.toInt ∧ a0.toInt < 6 ∧ a1.toInt < 0) ∨ (E = iob ∧ 0 ≤ a0.toInt ∧ a0.toInt < 6 ∧ 0 ≤ a1.toInt ∧ 6 ≤ a1.toInt) ∨ (E = iob ∧ 0 ≤ a0.toInt ∧ a0.toInt < 6 ∧ 0 ≤ a1.toInt ∧ a1.toInt < 6 ∧ a2.toInt < 0) ∨ (E = iob ∧ 0 ≤ a0.toInt ∧ a0.toInt < 6 ∧ 0 ≤ a1.toInt ∧ a1.toInt < 6 ∧ 0 ≤ a2.toInt ∧ 6 ≤ a2.toInt) ∨ (E = ise ∧ 0 ≤ a0.toInt ∧ a0.toInt < 6 ∧ 0 ≤ a1.toInt ∧ a1.toInt < 6 ∧ 0 ≤ a2.toInt ∧ a2.toInt < 6 ∧ 0 ≤ a0.toInt ∧ a0.toInt < 6)) (va_A [(x, .inr (9, [.ref st, .ref kp, .int 0, .ref bf, .int 0, .int (-1), .int (-1), .int 0, .ref o1, .ref o2, .ref o3, .ref o4, .ref o5, .ref o6])), (st, .inr (8, [.ref lt, .ref tb, .ref fl, .ref wt, .int 0, .null])), (fl, .inl (cZ, 6, .inl (fun _ => 0)))] sz)) 5 30 (va_A [(x, .inr (9, [.ref st, .ref kp, .int 0, .ref bf, .int 0, .int (-1), .int (-1), .int 0, .ref o1, .ref o2, .ref o3, .ref o4, .ref o5, .ref o6])), (st, .inr (8, [.ref lt, .ref tb, .ref fl, .ref wt, .int 0, .null])), (fl, .inl (cZ, 6, .inl (fun _ => 0)))] sz) := by
  refine vx_ofW (cc := cX10_minus) (maxL := 7) (ret := (some .int)) (by decide) rfl ?_
  intro p e s m args below meth c s₁ B hml htab hv
  obtain ⟨rfl, hsz, hP, hK, hD0, hE, hV⟩ := hv
  have hx := B.exec
  have hb := B.bytes
  have hr := B.returns
  have hts := atoms_spec (ws := wk_X10_minus) B.pre
  have hown : s.vm.findClass RX10 = some m.cls := findClass_of_methodNamed B.named
  have hlocks := B.notSynchronized
  subst hsz
  have hD := hD0.self (sz := s.heap.size)
  generalize hAe : va_A [(x, .inr (9, [.ref st, .ref kp, .int 0, .ref bf, .int 0, .int (-1), .int (-1), .int 0, .ref o1, .ref o2, .ref o3, .ref o4, .ref o5, .ref o6])), (st, .inr (8, [.ref lt, .ref tb, .ref fl, .ref wt, .int 0, .null])), (fl, .inl (cZ, 6, .inl (fun _ => 0)))] s.heap.size = A at hD hE ⊢
  have hA : ∀ q : Nat, s.heap.size ≤ q → A q := fun q h => by rw [← hAe]; exact Or.inr h
  have hS : va_S A s.heap s.heap [] := va_S.rf
  have hP : va_P D vwCl [(x, .inr (9, [.ref st, .ref kp, .int 0, .ref bf, .int 0, .int (-1), .int (-1), .int 0, .ref o1, .ref o2, .ref o3, .ref o4, .ref o5, .ref o6])), (st, .inr (8, [.ref lt, .ref tb, .ref fl, .ref wt, .int 0, .null])), (fl, .inl (cZ, 6, .inl (fun _ => 0)))] s.heap := hP
  have hl := lv_entry ([.ref x, .int a0, .int a1, .int a2]) (n := 7) (Nat.le_of_ble_eq_true rfl)
  rw [lg_entry_eq]
  generalize (lg_sl ([.ref x, .int a0, .int a1, .int a2]) ++ List.replicate (7 - (lg_sl ([.ref x, .int a0, .int a1, .int a2])).length) Slot.unset).toArray = ls at hl ⊢
  have hl : lv_has ls 7 [(0, .ref x), (1, .int a0), (2, .int a1), (3, .int a2)] := hl
  refine lv_iload_n hx hb dX10_minus_0 rfl (lv_at hl 1 rfl) ?_
  refine lv_iload_n hx hb dX10_minus_1 rfl (lv_at hl 2 rfl) ?_
  refine lv_iload_n hx hb dX10_minus_2 rfl (lv_at hl 3 rfl) ?_
  have hPc := hP.sub (ws' := []) [] rfl
  have hDc := hD.sub (ws' := []) [] (by decide) rfl
  have hFc := va_free (wc := []) hD hS hA [] rfl
  refine vx_callv (vx_runS (As := [.int a0, .int a1, .int a2]) (rest := []) ⟨hx, hb, hml, hown, hts⟩ (k_X10_checkSlots l htr D cI cJ cZ a0 a1 a2 s.heap.size) (va_cwS 3 hts gk_X10_minus_X10_checkSlots rfl rfl rfl (by decide +kernel) ⟨Nat.le_of_ble_eq_true rfl, Nat.le_of_ble_eq_true rfl⟩) ⟨xPc_blind, xPc_pre hPc hK hDc hE hS hFc hV⟩ rfl rfl hl.1 rfl (lv_room (Nat.le_of_ble_eq_true rfl)) dX10_minus_3 ⟨Nat.le_of_ble_eq_true rfl, Nat.le_of_ble_eq_true rfl⟩) hS (fun q _ h => hFc q h) hFc (fun q _ h => hFc q h) (fun E ce q9 u t H_1 locs ht hvm hpx hBX hz1 hk1 hS hq9 hcv hcl => ?_) (fun u t H_1 locs ht hvm hw hB hz1 hk1 hS => ?_)
  · rcases hBX with ⟨rfl, e_0⟩ | ⟨rfl, e_0, e_1⟩ | ⟨rfl, e_0, e_1, e_2⟩ | ⟨rfl, e_0, e_1, e_2, e_3⟩ | ⟨rfl, e_0, e_1, e_2, e_3, e_4⟩ | ⟨rfl, e_0, e_1, e_2, e_3, e_4, e_5⟩
    · have c_2 : a0.toInt < 0 := e_0
      exact vx_out (fun x hx => (htab x hx).elim) hlocks hq9 hcv hcl (fun t ht hW => ⟨(), trivial, Or.inl ⟨rfl, c_2⟩, hS.F ht⟩) hS.2.2 (Nat.le_of_ble_eq_true rfl) (Nat.le_of_ble_eq_true rfl)
    · have c_3 : 0 ≤ a0.toInt := e_0
      have c_4 : 6 ≤ a0.toInt := e_1
      exact vx_out (fun x hx => (htab x hx).elim) hlocks hq9 hcv hcl (fun t ht hW => ⟨(), trivial, Or.inr (Or.inl ⟨rfl, c_3, c_4⟩), hS.F ht⟩) hS.2.2 (Nat.le_of_ble_eq_true rfl) (Nat.le_of_ble_eq_true rfl)
    · have c_5 : 0 ≤ a0.toInt := e_0
      have c_6 : a0.toInt < 6 := e_1
      have c_7 : a1.toInt < 0 := e_2
      exact vx_out (fun x hx => (htab x hx).elim) hlocks hq9 hcv hcl (fun t ht hW => ⟨(), trivial, Or.inr (Or.inr (Or.inl ⟨rfl, c_5, c_6, c_7⟩)), hS.F ht⟩) hS.2.2 (Nat.le_of_ble_eq_true rfl) (Nat.le_of_ble_eq_true rfl)
    · have c_8 : 0 ≤ a0.toInt := e_0
      have c_9 : a0.toInt < 6 := e_1
      have c_10 : 0 ≤ a1.toInt := e_2
      have c_11 : 6 ≤ a1.toInt := e_3
      exact vx_out (fun x hx => (htab x hx).elim) hlocks hq9 hcv hcl (fun t ht hW => ⟨(), trivial, Or.inr (Or.inr (Or.inr (Or.inl ⟨rfl, c_8, c_9, c_10, c_11⟩))), hS.F ht⟩) hS.2.2 (Nat.le_of_ble_eq_true rfl) (Nat.le_of_ble_eq_true rfl)
    · have c_12 : 0 ≤ a0.toInt := e_0
      have c_13 : a0.toInt < 6 := e_1
      have c_14 : 0 ≤ a1.toInt := e_2
      have c_15 : a1.toInt < 6 := e_3
      have c_16 : a2.toInt < 0 := e_4
      exact vx_out (fun x hx => (htab x hx).elim) hlocks hq9 hcv hcl (fun t ht hW => ⟨(), trivial, Or.inr (Or.inr (Or.inr (Or.inr (Or.inl ⟨rfl, c_12, c_13, c_14, c_15, c_16⟩)))), hS.F ht⟩) hS.2.2 (Nat.le_of_ble_eq_true rfl) (Nat.le_of_ble_eq_true rfl)
    · have c_17 : 0 ≤ a0.toInt := e_0
      have c_18 : a0.toInt < 6 := e_1
      have c_19 : 0 ≤ a1.toInt := e_2
      have c_20 : a1.toInt < 6 := e_3
      have c_21 : 0 ≤ a2.toInt := e_4
      have c_22 : 6 ≤ a2.toInt := e_5
      exact vx_out (fun x hx => (htab x hx).elim) hlocks hq9 hcv hcl (fun t ht hW => ⟨(), trivial, Or.inr (Or.inr (Or.inr (Or.inr (Or.inr (Or.inl ⟨rfl, c_17, c_18, c_19, c_20, c_21, c_22⟩))))), hS.F ht⟩) hS.2.2 (Nat.le_of_ble_eq_true rfl) (Nat.le_of_ble_eq_true rfl)
  · rcases hw with ⟨e_0, e_1, e_2, e_3, e_4, e_5⟩
    have c_23 : 0 ≤ a0.toInt := e_0
    have c_24 : a0.toInt < 6 := e_1
    have c_25 : 0 ≤ a1.toInt := e_2
    have c_26 : a1.toInt < 6 := e_3
    have c_27 : 0 ≤ a2.toInt := e_4
    have c_28 : a2.toInt < 6 := e_5
    obtain ⟨hP1, hD1⟩ := hB
    rw [ht] at hP1
    obtain ⟨hP, hD⟩ := va_join (wr := [(x, .inr (9, [.ref st, .ref kp, .int 0, .ref bf, .int 0, .int (-1), .int (-1), .int 0, .ref o1, .ref o2, .ref o3, .ref o4, .ref o5, .ref o6])), (st, .inr (8, [.ref lt, .ref tb, .ref fl, .ref wt, .int 0, .null])), (fl, .inl (cZ, 6, .inl (fun _ => 0)))]) (w1 := []) hP hD [] [0, 1, 2] rfl rfl (by decide) (by decide) hk1 hFc hP1 hD1
    have hP : va_P D vwCl [(x, .inr (9, [.ref st, .ref kp, .int 0, .ref bf, .int 0, .int (-1), .int (-1), .int 0, .ref o1, .ref o2, .ref o3, .ref o4, .ref o5, .ref o6])), (st, .inr (8, [.ref lt, .ref tb, .ref fl, .ref wt, .int 0, .null])), (fl, .inl (cZ, 6, .inl (fun _ => 0)))] H_1 := hP
    have hD : va_D A [(x, .inr (9, [.ref st, .ref kp, .int 0, .ref bf, .int 0, .int (-1), .int (-1), .int 0, .ref o1, .ref o2, .ref o3, .ref o4, .ref o5, .ref o6])), (st, .inr (8, [.ref lt, .ref tb, .ref fl, .ref wt, .int 0, .null])), (fl, .inl (cZ, 6, .inl (fun _ => 0)))] := hD
    refine W.widen (k := 3) (n := 18) (Nat.le_of_ble_eq_true rfl) (Nat.le_of_ble_eq_true rfl) ?_
    refine lv_aload_n hx hb dX10_minus_6 rfl (lv_at hl 0 rfl) ?_
    refine lv_iload_n hx hb dX10_minus_7 rfl (lv_at hl 1 rfl) ?_
    have hPc := hP.sub (ws' := [(x, .inr (9, [.ref st, .ref kp, .int 0, .ref bf, .int 0, .int (-1), .int (-1), .int 0, .ref o1, .ref o2, .ref o3, .ref o4, .ref o5, .ref o6])), (st, .inr (8, [.ref lt, .ref tb, .ref fl, .ref wt, .int 0, .null])), (fl, .inl (cZ, 6, .inl (fun _ => 0)))]) [0, 1, 2] rfl
    have hDc := hD.sub (ws' := [(x, .inr (9, [.ref st, .ref kp, .int 0, .ref bf, .int 0, .int (-1), .int (-1), .int 0, .ref o1, .ref o2, .ref o3, .ref o4, .ref o5, .ref o6])), (st, .inr (8, [.ref lt, .ref tb, .ref fl, .ref wt, .int 0, .null])), (fl, .inl (cZ, 6, .inl (fun _ => 0)))]) [0, 1, 2] (by decide) rfl
    have hFc := va_free (wc := [(x, .inr (9, [.ref st, .ref kp, .int 0, .ref bf, .int 0, .int (-1), .int (-1), .int 0, .ref o1, .ref o2, .ref o3, .ref o4, .ref o5, .ref o6])), (st, .inr (8, [.ref lt, .ref tb, .ref fl, .ref wt, .int 0, .null])), (fl, .inl (cZ, 6, .inl (fun _ => 0)))]) hD hS hA [0, 1, 2] rfl
    refine vx_callq (vx_runV (As := [.int a0]) (rest := []) ⟨hx, hb, hml, hown, hts⟩ (k_X10_tableIn l htr D cI cJ cZ x st kp bf o1 o2 o3 o4 o5 o6 lt tb fl wt a0 H_1.size) (cwV 1 hts gk_X10_minus_X10_tableIn rfl rfl rfl (by decide +kernel) ⟨Nat.le_of_ble_eq_true rfl, Nat.le_of_ble_eq_true rfl⟩) ⟨xPc_blind, va_recv hK hP (ci := 9) (q0 := 0) rfl rfl, xPc_pre hPc hK hDc hE hS hFc hV⟩ rfl rfl hl.1 rfl (lv_room (Nat.le_of_ble_eq_true rfl)) dX10_minus_8 ⟨Nat.le_of_ble_eq_true rfl, Nat.le_of_ble_eq_true rfl⟩) hS (fun q _ h => hFc q h) hFc (fun q _ h => hFc q h) (fun E ce q9 u t H_29 locs ht hvm hpx hBX hz1 hk1 hS hq9 hcv hcl => ?_) (fun r u t H_29 locs ht hvm hw hB hz1 hk1 hS => ?_)
    · rcases hBX with ⟨rfl, e_0⟩ | ⟨rfl, e_0, e_1⟩ | ⟨rfl, e_0, e_1⟩
      · have c_30 : a0.toInt < 0 := e_0
        exfalso; omega
      · have c_31 : 0 ≤ a0.toInt := e_0
        have c_32 : 6 ≤ a0.toInt := e_1
        exfalso; omega
      · have c_33 : 0 ≤ a0.toInt := e_0
        have c_34 : a0.toInt < 6 := e_1
        exact vx_out (fun x hx => (htab x hx).elim) hlocks hq9 hcv hcl (fun t ht hW => ⟨(), trivial, Or.inr (Or.inr (Or.inr (Or.inr (Or.inr (Or.inr ⟨rfl, c_23, c_24, c_25, c_26, c_27, c_28, c_33, c_34⟩))))), hS.F ht⟩) hS.2.2 (Nat.le_of_ble_eq_true rfl) (Nat.le_of_ble_eq_true rfl)
    · exact hw.elim
def wk_X10_antijoin : List Cond := .code yX10_antijoin cX10_antijoin 7 (some .int) :: (([.methodLink RX10 213 yX10_checkSlots, .static yX10_checkSlots, .initialized RX10, .code yX10_checkSlots cX10_checkSlots 3 none, .methodLink RX10 138 yX10_checkSlot, .static yX10_checkSlot, .code yX10_checkSlot cX10_checkSlot 1 none, .classLink RX10 91 iob, .initialized iob, .methodLink RX10 153 yX10_tableIn, .instanceMethod yX10_tableIn, .selects RX10 yX10_tableIn yX10_tableIn, .code yX10_tableIn cX10_tableIn 2 (some (.object "DocumentSpanner$SortedInts")), .fieldLink RX10 12 "DocumentSpanner" "state" "LDocumentSpanner$State;", .fieldLink RX10 96 "DocumentSpanner$State" "filled" "[Z", .classLink RX10 80 ise, .initialized ise] : List Cond) ++ wsX100 ++ wsX80 ++ (vx_atS RX10 84 ise ["java/lang/RuntimeException", "java/lang/Exception"]).filter goodWord ++ (vx_atS RX10 95 iob ["java/lang/RuntimeException", "java/lang/Exception"]).filter goodWord)
set_option maxRecDepth 20000 in
theorem ggk_X10_antijoin_X10_checkSlots : GoodIn wk_X10_antijoin wk_X10_checkSlots := goodIn_ca (goodIn_r _ [4, 5, 6, 3, 7, 8, 9] (by decide +kernel) (by decide +kernel)) (goodIn_sub (fun _ h => List.mem_cons_of_mem _ (List.mem_append_right _ h)) (by decide +kernel))
set_option maxRecDepth 20000 in
theorem gk_X10_antijoin_X10_checkSlots : GoodIn wk_X10_antijoin (va_wsS RX10 213 yX10_checkSlots wk_X10_checkSlots) := goodIn_app (goodIn_r _ [1, 2, 3] (by decide +kernel) (by decide +kernel)) ggk_X10_antijoin_X10_checkSlots
set_option maxRecDepth 20000 in
theorem ggk_X10_antijoin_X10_tableIn : GoodIn wk_X10_antijoin wk_X10_tableIn := goodIn_ca (goodIn_ca (goodIn_ca (goodIn_ca (goodIn_r _ [13, 14, 15, 16, 17, 5, 6, 3, 7, 8, 9] (by decide +kernel) (by decide +kernel)) (goodIn_sub (fun _ h => List.mem_cons_of_mem _ (List.mem_append_left _ (List.mem_append_left _ (List.mem_append_left _ (List.mem_append_right _ h))))) (by decide +kernel))) (goodIn_sub (fun _ h => List.mem_cons_of_mem _ (List.mem_append_left _ (List.mem_append_left _ (List.mem_append_right _ h)))) (by decide +kernel))) (goodIn_sub (fun _ h => List.mem_cons_of_mem _ (List.mem_append_left _ (List.mem_append_right _ h))) (by decide +kernel))) (goodIn_sub (fun _ h => List.mem_cons_of_mem _ (List.mem_append_right _ h)) (by decide +kernel))
set_option maxRecDepth 20000 in
theorem gk_X10_antijoin_X10_tableIn : GoodIn wk_X10_antijoin (wsV RX10 153 RX10 yX10_tableIn wk_X10_tableIn) := goodIn_app (goodIn_r _ [10, 11, 12, 3] (by decide +kernel) (by decide +kernel)) ggk_X10_antijoin_X10_tableIn
set_option maxHeartbeats 4000000 in
set_option maxRecDepth 100000 in
theorem k_X10_antijoin (l : Launch) (htr : l.stackTraces = false) (D : va_G) (cI cJ cZ : ClassId) (x : Nat) (st : Nat) (kp : Nat) (bf : Nat) (o1 : Nat) (o2 : Nat) (o3 : Nat) (o4 : Nat) (o5 : Nat) (o6 : Nat) (lt : Nat) (tb : Nat) (fl : Nat) (wt : Nat) (a0 : Int32) (a1 : Int32) (a2 : Int32) (sz : Nat) : vx_Met l yX10_antijoin wk_X10_antijoin ({ frames := 8, cells := 5, slots := 30, locals := 124 }) (xPc D cI cJ cZ [.ref x, .int a0, .int a1, .int a2] [(x, .inr (9, [.ref st, .ref kp, .int 0, .ref bf, .int 0, .int (-1), .int (-1), .int 0, .ref o1, .ref o2, .ref o3, .ref o4, .ref o5, .ref o6])), (st, .inr (8, [.ref lt, .ref tb, .ref fl, .ref wt, .int 0, .null])), (fl, .inl (cZ, 6, .inl (fun _ => 0)))] sz) (va_Qi (fun (r : Int32) (u : Unit) => False) (fun (u : Unit) (t : State) => va_P D vwCl ([] : va_W) t.heap ∧ va_D (va_A [(x, .inr (9, [.ref st, .ref kp, .int 0, .ref bf, .int 0, .int (-1), .int (-1), .int 0, .ref o1, .ref o2, .ref o3, .ref o4, .ref o5, .ref o6])), (st, .inr (8, [.ref lt, .ref tb, .ref fl, .ref wt, .int 0, .null])), (fl, .inl (cZ, 6, .inl (fun _ => 0)))] sz) ([] : va_W)) (va_A [(x, .inr (9, [.ref st, .ref kp, .int 0, .ref bf, .int 0, .int (-1), .int (-1), .int 0, .ref o1, .ref o2, .ref o3, .ref o4, .ref o5, .ref o6])), (st, .inr (8, [.ref lt, .ref tb, .ref fl, .ref wt, .int 0, .null])), (fl, .inl (cZ, 6, .inl (fun _ => 0)))] sz)) (vx_X (fun _ : Unit => True) (fun (E : String) (_ : Unit) (_ : State) => (E = iob ∧ a0.toInt < 0) ∨ (E = iob ∧ 0 ≤ a0.toInt ∧ 6 ≤ a0.toInt) ∨ (E = iob ∧ 0 ≤ a0.toInt ∧ a0.toInt < 6 ∧ a1.toInt < 0) ∨ (E = iob ∧ 0 ≤ a0.toInt ∧ a0.toInt < 6 ∧ 0 ≤ a1.toInt ∧ 6 ≤ a1.toInt) ∨ (E = iob ∧ 0 ≤ a0.toInt ∧ a0.toInt < 6 ∧ 0 ≤ a1.toInt ∧ a1.toInt < 6 ∧ a2.toInt < 0) ∨ (E = iob ∧ 0 ≤ a0.toInt ∧ a0.toInt < 6 ∧ 0 ≤ a1.toInt ∧ a1.toInt < 6 ∧ 0 ≤ a2.toInt ∧ 6 ≤ a2.toInt) ∨ (E = ise ∧ 0 ≤ a0.toInt ∧ a0.toInt < 6 ∧ 0 ≤ a1.toInt ∧ a1.toInt < 6 ∧ 0 ≤ a2.toInt ∧ a2.toInt < 6 ∧ 0 ≤ a0.toInt ∧ a0.toInt < 6)) (va_A [(x, .inr (9, [.ref st, .ref kp, .int 0, .ref bf, .int 0, .int (-1), .int (-1), .int 0, .ref o1, .ref o2, .ref o3, .ref o4, .ref o5, .ref o6])), (st, .inr (8, [.ref lt, .ref tb, .ref fl, .ref wt, .int 0, .null])), (fl, .inl (cZ, 6, .inl (fun _ => 0)))] sz)) 5 30 (va_A [(x, .inr (9, [.ref st, .ref kp, .int 0, .ref bf, .int 0, .int (-1), .int (-1), .int 0, .ref o1, .ref o2, .ref o3, .ref o4, .ref o5, .ref o6])), (st, .inr (8, [.ref lt, .ref tb, .ref fl, .ref wt, .int 0, .null])), (fl, .inl (cZ, 6, .inl (fun _ => 0)))] sz) := by
  refine vx_ofW (cc := cX10_antijoin) (maxL := 7) (ret := (some .int)) (by decide) rfl ?_
  intro p e s m args below meth c s₁ B hml htab hv
  obtain ⟨rfl, hsz, hP, hK, hD0, hE, hV⟩ := hv
  have hx := B.exec
  have hb := B.bytes
  have hr := B.returns
  have hts := atoms_spec (ws := wk_X10_antijoin) B.pre
  have hown : s.vm.findClass RX10 = some m.cls := findClass_of_methodNamed B.named
  have hlocks := B.notSynchronized
  subst hsz
  have hD := hD0.self (sz := s.heap.size)
  generalize hAe : va_A [(x, .inr (9, [.ref st, .ref kp, .int 0, .ref bf, .int 0, .int (-1), .int (-1), .int 0, .ref o1, .ref o2, .ref o3, .ref o4, .ref o5, .ref o6])), (st, .inr (8, [.ref lt, .ref tb, .ref fl, .ref wt, .int 0, .null])), (fl, .inl (cZ, 6, .inl (fun _ => 0)))] s.heap.size = A at hD hE ⊢
  have hA : ∀ q : Nat, s.heap.size ≤ q → A q := fun q h => by rw [← hAe]; exact Or.inr h
  have hS : va_S A s.heap s.heap [] := va_S.rf
  have hP : va_P D vwCl [(x, .inr (9, [.ref st, .ref kp, .int 0, .ref bf, .int 0, .int (-1), .int (-1), .int 0, .ref o1, .ref o2, .ref o3, .ref o4, .ref o5, .ref o6])), (st, .inr (8, [.ref lt, .ref tb, .ref fl, .ref wt, .int 0, .null])), (fl, .inl (cZ, 6, .inl (fun _ => 0)))] s.heap := hP
  have hl := lv_entry ([.ref x, .int a0, .int a1, .int a2]) (n := 7) (Nat.le_of_ble_eq_true rfl)
  rw [lg_entry_eq]
  generalize (lg_sl ([.ref x, .int a0, .int a1, .int a2]) ++ List.replicate (7 - (lg_sl ([.ref x, .int a0, .int a1, .int a2])).length) Slot.unset).toArray = ls at hl ⊢
  have hl : lv_has ls 7 [(0, .ref x), (1, .int a0), (2, .int a1), (3, .int a2)] := hl
  refine lv_iload_n hx hb dX10_antijoin_0 rfl (lv_at hl 1 rfl) ?_
  refine lv_iload_n hx hb dX10_antijoin_1 rfl (lv_at hl 2 rfl) ?_
  refine lv_iload_n hx hb dX10_antijoin_2 rfl (lv_at hl 3 rfl) ?_
  have hPc := hP.sub (ws' := []) [] rfl
  have hDc := hD.sub (ws' := []) [] (by decide) rfl
  have hFc := va_free (wc := []) hD hS hA [] rfl
  refine vx_callv (vx_runS (As := [.int a0, .int a1, .int a2]) (rest := []) ⟨hx, hb, hml, hown, hts⟩ (k_X10_checkSlots l htr D cI cJ cZ a0 a1 a2 s.heap.size) (va_cwS 3 hts gk_X10_antijoin_X10_checkSlots rfl rfl rfl (by decide +kernel) ⟨Nat.le_of_ble_eq_true rfl, Nat.le_of_ble_eq_true rfl⟩) ⟨xPc_blind, xPc_pre hPc hK hDc hE hS hFc hV⟩ rfl rfl hl.1 rfl (lv_room (Nat.le_of_ble_eq_true rfl)) dX10_antijoin_3 ⟨Nat.le_of_ble_eq_true rfl, Nat.le_of_ble_eq_true rfl⟩) hS (fun q _ h => hFc q h) hFc (fun q _ h => hFc q h) (fun E ce q9 u t H_1 locs ht hvm hpx hBX hz1 hk1 hS hq9 hcv hcl => ?_) (fun u t H_1 locs ht hvm hw hB hz1 hk1 hS => ?_)
  · rcases hBX with ⟨rfl, e_0⟩ | ⟨rfl, e_0, e_1⟩ | ⟨rfl, e_0, e_1, e_2⟩ | ⟨rfl, e_0, e_1, e_2, e_3⟩ | ⟨rfl, e_0, e_1, e_2, e_3, e_4⟩ | ⟨rfl, e_0, e_1, e_2, e_3, e_4, e_5⟩
    · have c_2 : a0.toInt < 0 := e_0
      exact vx_out (fun x hx => (htab x hx).elim) hlocks hq9 hcv hcl (fun t ht hW => ⟨(), trivial, Or.inl ⟨rfl, c_2⟩, hS.F ht⟩) hS.2.2 (Nat.le_of_ble_eq_true rfl) (Nat.le_of_ble_eq_true rfl)
    · have c_3 : 0 ≤ a0.toInt := e_0
      have c_4 : 6 ≤ a0.toInt := e_1
      exact vx_out (fun x hx => (htab x hx).elim) hlocks hq9 hcv hcl (fun t ht hW => ⟨(), trivial, Or.inr (Or.inl ⟨rfl, c_3, c_4⟩), hS.F ht⟩) hS.2.2 (Nat.le_of_ble_eq_true rfl) (Nat.le_of_ble_eq_true rfl)
    · have c_5 : 0 ≤ a0.toInt := e_0
      have c_6 : a0.toInt < 6 := e_1
      have c_7 : a1.toInt < 0 := e_2
      exact vx_out (fun x hx => (htab x hx).elim) hlocks hq9 hcv hcl (fun t ht hW => ⟨(), trivial, Or.inr (Or.inr (Or.inl ⟨rfl, c_5, c_6, c_7⟩)), hS.F ht⟩) hS.2.2 (Nat.le_of_ble_eq_true rfl) (Nat.le_of_ble_eq_true rfl)
    · have c_8 : 0 ≤ a0.toInt := e_0
      have c_9 : a0.toInt < 6 := e_1
      have c_10 : 0 ≤ a1.toInt := e_2
      have c_11 : 6 ≤ a1.toInt := e_3
      exact vx_out (fun x hx => (htab x hx).elim) hlocks hq9 hcv hcl (fun t ht hW => ⟨(), trivial, Or.inr (Or.inr (Or.inr (Or.inl ⟨rfl, c_8, c_9, c_10, c_11⟩))), hS.F ht⟩) hS.2.2 (Nat.le_of_ble_eq_true rfl) (Nat.le_of_ble_eq_true rfl)
    · have c_12 : 0 ≤ a0.toInt := e_0
      have c_13 : a0.toInt < 6 := e_1
      have c_14 : 0 ≤ a1.toInt := e_2
      have c_15 : a1.toInt < 6 := e_3
      have c_16 : a2.toInt < 0 := e_4
      exact vx_out (fun x hx => (htab x hx).elim) hlocks hq9 hcv hcl (fun t ht hW => ⟨(), trivial, Or.inr (Or.inr (Or.inr (Or.inr (Or.inl ⟨rfl, c_12, c_13, c_14, c_15, c_16⟩)))), hS.F ht⟩) hS.2.2 (Nat.le_of_ble_eq_true rfl) (Nat.le_of_ble_eq_true rfl)
    · have c_17 : 0 ≤ a0.toInt := e_0
      have c_18 : a0.toInt < 6 := e_1
      have c_19 : 0 ≤ a1.toInt := e_2
      have c_20 : a1.toInt < 6 := e_3
      have c_21 : 0 ≤ a2.toInt := e_4
      have c_22 : 6 ≤ a2.toInt := e_5
      exact vx_out (fun x hx => (htab x hx).elim) hlocks hq9 hcv hcl (fun t ht hW => ⟨(), trivial, Or.inr (Or.inr (Or.inr (Or.inr (Or.inr (Or.inl ⟨rfl, c_17, c_18, c_19, c_20, c_21, c_22⟩))))), hS.F ht⟩) hS.2.2 (Nat.le_of_ble_eq_true rfl) (Nat.le_of_ble_eq_true rfl)
  · rcases hw with ⟨e_0, e_1, e_2, e_3, e_4, e_5⟩
    have c_23 : 0 ≤ a0.toInt := e_0
    have c_24 : a0.toInt < 6 := e_1
    have c_25 : 0 ≤ a1.toInt := e_2
    have c_26 : a1.toInt < 6 := e_3
    have c_27 : 0 ≤ a2.toInt := e_4
    have c_28 : a2.toInt < 6 := e_5
    obtain ⟨hP1, hD1⟩ := hB
    rw [ht] at hP1
    obtain ⟨hP, hD⟩ := va_join (wr := [(x, .inr (9, [.ref st, .ref kp, .int 0, .ref bf, .int 0, .int (-1), .int (-1), .int 0, .ref o1, .ref o2, .ref o3, .ref o4, .ref o5, .ref o6])), (st, .inr (8, [.ref lt, .ref tb, .ref fl, .ref wt, .int 0, .null])), (fl, .inl (cZ, 6, .inl (fun _ => 0)))]) (w1 := []) hP hD [] [0, 1, 2] rfl rfl (by decide) (by decide) hk1 hFc hP1 hD1
    have hP : va_P D vwCl [(x, .inr (9, [.ref st, .ref kp, .int 0, .ref bf, .int 0, .int (-1), .int (-1), .int 0, .ref o1, .ref o2, .ref o3, .ref o4, .ref o5, .ref o6])), (st, .inr (8, [.ref lt, .ref tb, .ref fl, .ref wt, .int 0, .null])), (fl, .inl (cZ, 6, .inl (fun _ => 0)))] H_1 := hP
    have hD : va_D A [(x, .inr (9, [.ref st, .ref kp, .int 0, .ref bf, .int 0, .int (-1), .int (-1), .int 0, .ref o1, .ref o2, .ref o3, .ref o4, .ref o5, .ref o6])), (st, .inr (8, [.ref lt, .ref tb, .ref fl, .ref wt, .int 0, .null])), (fl, .inl (cZ, 6, .inl (fun _ => 0)))] := hD
    refine W.widen (k := 3) (n := 18) (Nat.le_of_ble_eq_true rfl) (Nat.le_of_ble_eq_true rfl) ?_
    refine lv_aload_n hx hb dX10_antijoin_6 rfl (lv_at hl 0 rfl) ?_
    refine lv_iload_n hx hb dX10_antijoin_7 rfl (lv_at hl 1 rfl) ?_
    have hPc := hP.sub (ws' := [(x, .inr (9, [.ref st, .ref kp, .int 0, .ref bf, .int 0, .int (-1), .int (-1), .int 0, .ref o1, .ref o2, .ref o3, .ref o4, .ref o5, .ref o6])), (st, .inr (8, [.ref lt, .ref tb, .ref fl, .ref wt, .int 0, .null])), (fl, .inl (cZ, 6, .inl (fun _ => 0)))]) [0, 1, 2] rfl
    have hDc := hD.sub (ws' := [(x, .inr (9, [.ref st, .ref kp, .int 0, .ref bf, .int 0, .int (-1), .int (-1), .int 0, .ref o1, .ref o2, .ref o3, .ref o4, .ref o5, .ref o6])), (st, .inr (8, [.ref lt, .ref tb, .ref fl, .ref wt, .int 0, .null])), (fl, .inl (cZ, 6, .inl (fun _ => 0)))]) [0, 1, 2] (by decide) rfl
    have hFc := va_free (wc := [(x, .inr (9, [.ref st, .ref kp, .int 0, .ref bf, .int 0, .int (-1), .int (-1), .int 0, .ref o1, .ref o2, .ref o3, .ref o4, .ref o5, .ref o6])), (st, .inr (8, [.ref lt, .ref tb, .ref fl, .ref wt, .int 0, .null])), (fl, .inl (cZ, 6, .inl (fun _ => 0)))]) hD hS hA [0, 1, 2] rfl
    refine vx_callq (vx_runV (As := [.int a0]) (rest := []) ⟨hx, hb, hml, hown, hts⟩ (k_X10_tableIn l htr D cI cJ cZ x st kp bf o1 o2 o3 o4 o5 o6 lt tb fl wt a0 H_1.size) (cwV 1 hts gk_X10_antijoin_X10_tableIn rfl rfl rfl (by decide +kernel) ⟨Nat.le_of_ble_eq_true rfl, Nat.le_of_ble_eq_true rfl⟩) ⟨xPc_blind, va_recv hK hP (ci := 9) (q0 := 0) rfl rfl, xPc_pre hPc hK hDc hE hS hFc hV⟩ rfl rfl hl.1 rfl (lv_room (Nat.le_of_ble_eq_true rfl)) dX10_antijoin_8 ⟨Nat.le_of_ble_eq_true rfl, Nat.le_of_ble_eq_true rfl⟩) hS (fun q _ h => hFc q h) hFc (fun q _ h => hFc q h) (fun E ce q9 u t H_29 locs ht hvm hpx hBX hz1 hk1 hS hq9 hcv hcl => ?_) (fun r u t H_29 locs ht hvm hw hB hz1 hk1 hS => ?_)
    · rcases hBX with ⟨rfl, e_0⟩ | ⟨rfl, e_0, e_1⟩ | ⟨rfl, e_0, e_1⟩
      · have c_30 : a0.toInt < 0 := e_0
        exfalso; omega
      · have c_31 : 0 ≤ a0.toInt := e_0
        have c_32 : 6 ≤ a0.toInt := e_1
        exfalso; omega
      · have c_33 : 0 ≤ a0.toInt := e_0
        have c_34 : a0.toInt < 6 := e_1
        exact vx_out (fun x hx => (htab x hx).elim) hlocks hq9 hcv hcl (fun t ht hW => ⟨(), trivial, Or.inr (Or.inr (Or.inr (Or.inr (Or.inr (Or.inr ⟨rfl, c_23, c_24, c_25, c_26, c_27, c_28, c_33, c_34⟩))))), hS.F ht⟩) hS.2.2 (Nat.le_of_ble_eq_true rfl) (Nat.le_of_ble_eq_true rfl)
    · exact hw.elim
def wk_X10_project : List Cond := .code yX10_project cX10_project 7 (some .int) :: (([.classLink RX10 70 iae, .initialized iae, .methodLink RX10 138 yX10_checkSlot, .static yX10_checkSlot, .initialized RX10, .code yX10_checkSlot cX10_checkSlot 1 none, .classLink RX10 91 iob, .initialized iob, .methodLink RX10 153 yX10_tableIn, .instanceMethod yX10_tableIn, .selects RX10 yX10_tableIn yX10_tableIn, .code yX10_tableIn cX10_tableIn 2 (some (.object "DocumentSpanner$SortedInts")), .fieldLink RX10 12 "DocumentSpanner" "state" "LDocumentSpanner$State;", .fieldLink RX10 96 "DocumentSpanner$State" "filled" "[Z", .classLink RX10 80 ise, .initialized ise] : List Cond) ++ wsX100 ++ wsX80 ++ (vx_atS RX10 74 iae ["java/lang/RuntimeException", "java/lang/Exception"]).filter goodWord ++ (vx_atS RX10 84 ise ["java/lang/RuntimeException", "java/lang/Exception"]).filter goodWord ++ (vx_atS RX10 95 iob ["java/lang/RuntimeException", "java/lang/Exception"]).filter goodWord)
set_option maxRecDepth 20000 in
theorem ggk_X10_project_X10_checkSlot : GoodIn wk_X10_project wk_X10_checkSlot := goodIn_ca (goodIn_r _ [6, 7, 8] (by decide +kernel) (by decide +kernel)) (goodIn_sub (fun _ h => List.mem_cons_of_mem _ (List.mem_append_right _ h)) (by decide +kernel))
set_option maxRecDepth 20000 in
theorem gk_X10_project_X10_checkSlot : GoodIn wk_X10_project (va_wsS RX10 138 yX10_checkSlot wk_X10_checkSlot) := goodIn_app (goodIn_r _ [3, 4, 5] (by decide +kernel) (by decide +kernel)) ggk_X10_project_X10_checkSlot
set_option maxRecDepth 20000 in
theorem ggk_X10_project_X10_tableIn : GoodIn wk_X10_project wk_X10_tableIn := goodIn_ca (goodIn_ca (goodIn_ca (goodIn_ca (goodIn_r _ [12, 13, 14, 15, 16, 3, 4, 5, 6, 7, 8] (by decide +kernel) (by decide +kernel)) (goodIn_sub (fun _ h => List.mem_cons_of_mem _ (List.mem_append_left _ (List.mem_append_left _ (List.mem_append_left _ (List.mem_append_left _ (List.mem_append_right _ h)))))) (by decide +kernel))) (goodIn_sub (fun _ h => List.mem_cons_of_mem _ (List.mem_append_left _ (List.mem_append_left _ (List.mem_append_left _ (List.mem_append_right _ h))))) (by decide +kernel))) (goodIn_sub (fun _ h => List.mem_cons_of_mem _ (List.mem_append_left _ (List.mem_append_right _ h))) (by decide +kernel))) (goodIn_sub (fun _ h => List.mem_cons_of_mem _ (List.mem_append_right _ h)) (by decide +kernel))
set_option maxRecDepth 20000 in
theorem gk_X10_project_X10_tableIn : GoodIn wk_X10_project (wsV RX10 153 RX10 yX10_tableIn wk_X10_tableIn) := goodIn_app (goodIn_r _ [9, 10, 11, 5] (by decide +kernel) (by decide +kernel)) ggk_X10_project_X10_tableIn
set_option maxHeartbeats 4000000 in
set_option maxRecDepth 100000 in
theorem k_X10_project (l : Launch) (htr : l.stackTraces = false) (D : va_G) (cI cJ cZ : ClassId) (x : Nat) (st : Nat) (kp : Nat) (bf : Nat) (o1 : Nat) (o2 : Nat) (o3 : Nat) (o4 : Nat) (o5 : Nat) (o6 : Nat) (lt : Nat) (tb : Nat) (fl : Nat) (wt : Nat) (a0 : Int32) (a1 : Int32) (a2 : Int32) (sz : Nat) : vx_Met l yX10_project wk_X10_project ({ frames := 8, cells := 4, slots := 24, locals := 123 }) (xPc D cI cJ cZ [.ref x, .int a0, .int a1, .int a2] [(x, .inr (9, [.ref st, .ref kp, .int 0, .ref bf, .int 0, .int (-1), .int (-1), .int 0, .ref o1, .ref o2, .ref o3, .ref o4, .ref o5, .ref o6])), (st, .inr (8, [.ref lt, .ref tb, .ref fl, .ref wt, .int 0, .null])), (fl, .inl (cZ, 6, .inl (fun _ => 0)))] sz) (va_Qi (fun (r : Int32) (u : Unit) => False) (fun (u : Unit) (t : State) => va_P D vwCl ([] : va_W) t.heap ∧ va_D (va_A [(x, .inr (9, [.ref st, .ref kp, .int 0, .ref bf, .int 0, .int (-1), .int (-1), .int 0, .ref o1, .ref o2, .ref o3, .ref o4, .ref o5, .ref o6])), (st, .inr (8, [.ref lt, .ref tb, .ref fl, .ref wt, .int 0, .null])), (fl, .inl (cZ, 6, .inl (fun _ => 0)))] sz) ([] : va_W)) (va_A [(x, .inr (9, [.ref st, .ref kp, .int 0, .ref bf, .int 0, .int (-1), .int (-1), .int 0, .ref o1, .ref o2, .ref o3, .ref o4, .ref o5, .ref o6])), (st, .inr (8, [.ref lt, .ref tb, .ref fl, .ref wt, .int 0, .null])), (fl, .inl (cZ, 6, .inl (fun _ => 0)))] sz)) (vx_X (fun _ : Unit => True) (fun (E : String) (_ : Unit) (_ : State) => (E = iob ∧ a0.toInt < 0) ∨ (E = iob ∧ 0 ≤ a0.toInt ∧ 6 ≤ a0.toInt) ∨ (E = iob ∧ 0 ≤ a0.toInt ∧ a0.toInt < 6 ∧ a2.toInt < 0) ∨ (E = iob ∧ 0 ≤ a0.toInt ∧ a0.toInt < 6 ∧ 0 ≤ a2.toInt ∧ 6 ≤ a2.toInt) ∨ (E = iae ∧ 0 ≤ a0.toInt ∧ a0.toInt < 6 ∧ 0 ≤ a2.toInt ∧ a2.toInt < 6 ∧ a1.toInt < 0) ∨ (E = ise ∧ 0 ≤ a0.toInt ∧ a0.toInt < 6 ∧ 0 ≤ a2.toInt ∧ a2.toInt < 6 ∧ 0 ≤ a1.toInt ∧ a1.toInt < 8 ∧ 0 ≤ a0.toInt ∧ a0.toInt < 6) ∨ (E = iae ∧ 0 ≤ a0.toInt ∧ a0.toInt < 6 ∧ 0 ≤ a2.toInt ∧ a2.toInt < 6 ∧ 0 ≤ a1.toInt ∧ 8 ≤ a1.toInt)) (va_A [(x, .inr (9, [.ref st, .ref kp, .int 0, .ref bf, .int 0, .int (-1), .int (-1), .int 0, .ref o1, .ref o2, .ref o3, .ref o4, .ref o5, .ref o6])), (st, .inr (8, [.ref lt, .ref tb, .ref fl, .ref wt, .int 0, .null])), (fl, .inl (cZ, 6, .inl (fun _ => 0)))] sz)) 4 24 (va_A [(x, .inr (9, [.ref st, .ref kp, .int 0, .ref bf, .int 0, .int (-1), .int (-1), .int 0, .ref o1, .ref o2, .ref o3, .ref o4, .ref o5, .ref o6])), (st, .inr (8, [.ref lt, .ref tb, .ref fl, .ref wt, .int 0, .null])), (fl, .inl (cZ, 6, .inl (fun _ => 0)))] sz) := by
  refine vx_ofW (cc := cX10_project) (maxL := 7) (ret := (some .int)) (by decide) rfl ?_
  intro p e s m args below meth c s₁ B hml htab hv
  obtain ⟨rfl, hsz, hP, hK, hD0, hE, hV⟩ := hv
  have hx := B.exec
  have hb := B.bytes
  have hr := B.returns
  have hts := atoms_spec (ws := wk_X10_project) B.pre
  have hown : s.vm.findClass RX10 = some m.cls := findClass_of_methodNamed B.named
  have hlocks := B.notSynchronized
  have w_1 := hts (.classLink RX10 70 iae) (List.mem_of_getElem? (i := 1) rfl)
  have w_2 := hts (.initialized iae) (List.mem_of_getElem? (i := 2) rfl)
  have w_3 := xat_74 (fun w h => hts w (List.mem_cons_of_mem _ (List.mem_append_left _ (List.mem_append_left _ (List.mem_append_right _ h))))) hV
  subst hsz
  have hD := hD0.self (sz := s.heap.size)
  generalize hAe : va_A [(x, .inr (9, [.ref st, .ref kp, .int 0, .ref bf, .int 0, .int (-1), .int (-1), .int 0, .ref o1, .ref o2, .ref o3, .ref o4, .ref o5, .ref o6])), (st, .inr (8, [.ref lt, .ref tb, .ref fl, .ref wt, .int 0, .null])), (fl, .inl (cZ, 6, .inl (fun _ => 0)))] s.heap.size = A at hD hE ⊢
  have hA : ∀ q : Nat, s.heap.size ≤ q → A q := fun q h => by rw [← hAe]; exact Or.inr h
  have hS : va_S A s.heap s.heap [] := va_S.rf
  have hP : va_P D vwCl [(x, .inr (9, [.ref st, .ref kp, .int 0, .ref bf, .int 0, .int (-1), .int (-1), .int 0, .ref o1, .ref o2, .ref o3, .ref o4, .ref o5, .ref o6])), (st, .inr (8, [.ref lt, .ref tb, .ref fl, .ref wt, .int 0, .null])), (fl, .inl (cZ, 6, .inl (fun _ => 0)))] s.heap := hP
  have hl := lv_entry ([.ref x, .int a0, .int a1, .int a2]) (n := 7) (Nat.le_of_ble_eq_true rfl)
  rw [lg_entry_eq]
  generalize (lg_sl ([.ref x, .int a0, .int a1, .int a2]) ++ List.replicate (7 - (lg_sl ([.ref x, .int a0, .int a1, .int a2])).length) Slot.unset).toArray = ls at hl ⊢
  have hl : lv_has ls 7 [(0, .ref x), (1, .int a0), (2, .int a1), (3, .int a2)] := hl
  refine lv_iload_n hx hb dX10_project_0 rfl (lv_at hl 1 rfl) ?_
  have hPc := hP.sub (ws' := []) [] rfl
  have hDc := hD.sub (ws' := []) [] (by decide) rfl
  have hFc := va_free (wc := []) hD hS hA [] rfl
  refine vx_callv (vx_runS (As := [.int a0]) (rest := []) ⟨hx, hb, hml, hown, hts⟩ (k_X10_checkSlot l htr D cI cJ cZ a0 s.heap.size) (va_cwS 1 hts gk_X10_project_X10_checkSlot rfl rfl rfl (by decide +kernel) ⟨Nat.le_of_ble_eq_true rfl, Nat.le_of_ble_eq_true rfl⟩) ⟨xPc_blind, xPc_pre hPc hK hDc hE hS hFc hV⟩ rfl rfl hl.1 rfl (lv_room (Nat.le_of_ble_eq_true rfl)) dX10_project_1 ⟨Nat.le_of_ble_eq_true rfl, Nat.le_of_ble_eq_true rfl⟩) hS (fun q _ h => hFc q h) hFc (fun q _ h => hFc q h) (fun E ce q9 u t H_1 locs ht hvm hpx hBX hz1 hk1 hS hq9 hcv hcl => ?_) (fun u t H_1 locs ht hvm hw hB hz1 hk1 hS => ?_)
  · rcases hBX with ⟨rfl, e_0⟩ | ⟨rfl, e_0, e_1⟩
    · have c_2 : a0.toInt < 0 := e_0
      exact vx_out (fun x hx => (htab x hx).elim) hlocks hq9 hcv hcl (fun t ht hW => ⟨(), trivial, Or.inl ⟨rfl, c_2⟩, hS.F ht⟩) hS.2.2 (Nat.le_of_ble_eq_true rfl) (Nat.le_of_ble_eq_true rfl)
    · have c_3 : 0 ≤ a0.toInt := e_0
      have c_4 : 6 ≤ a0.toInt := e_1
      exact vx_out (fun x hx => (htab x hx).elim) hlocks hq9 hcv hcl (fun t ht hW => ⟨(), trivial, Or.inr (Or.inl ⟨rfl, c_3, c_4⟩), hS.F ht⟩) hS.2.2 (Nat.le_of_ble_eq_true rfl) (Nat.le_of_ble_eq_true rfl)
  · rcases hw with ⟨e_0, e_1⟩
    have c_5 : 0 ≤ a0.toInt := e_0
    have c_6 : a0.toInt < 6 := e_1
    obtain ⟨hP1, hD1⟩ := hB
    rw [ht] at hP1
    obtain ⟨hP, hD⟩ := va_join (wr := [(x, .inr (9, [.ref st, .ref kp, .int 0, .ref bf, .int 0, .int (-1), .int (-1), .int 0, .ref o1, .ref o2, .ref o3, .ref o4, .ref o5, .ref o6])), (st, .inr (8, [.ref lt, .ref tb, .ref fl, .ref wt, .int 0, .null])), (fl, .inl (cZ, 6, .inl (fun _ => 0)))]) (w1 := []) hP hD [] [0, 1, 2] rfl rfl (by decide) (by decide) hk1 hFc hP1 hD1
    have hP : va_P D vwCl [(x, .inr (9, [.ref st, .ref kp, .int 0, .ref bf, .int 0, .int (-1), .int (-1), .int 0, .ref o1, .ref o2, .ref o3, .ref o4, .ref o5, .ref o6])), (st, .inr (8, [.ref lt, .ref tb, .ref fl, .ref wt, .int 0, .null])), (fl, .inl (cZ, 6, .inl (fun _ => 0)))] H_1 := hP
    have hD : va_D A [(x, .inr (9, [.ref st, .ref kp, .int 0, .ref bf, .int 0, .int (-1), .int (-1), .int 0, .ref o1, .ref o2, .ref o3, .ref o4, .ref o5, .ref o6])), (st, .inr (8, [.ref lt, .ref tb, .ref fl, .ref wt, .int 0, .null])), (fl, .inl (cZ, 6, .inl (fun _ => 0)))] := hD
    refine W.widen (k := 1) (n := 6) (Nat.le_of_ble_eq_true rfl) (Nat.le_of_ble_eq_true rfl) ?_
    refine lv_iload_n hx hb dX10_project_4 rfl (lv_at hl 3 rfl) ?_
    have hPc := hP.sub (ws' := []) [] rfl
    have hDc := hD.sub (ws' := []) [] (by decide) rfl
    have hFc := va_free (wc := []) hD hS hA [] rfl
    refine vx_callv (vx_runS (As := [.int a2]) (rest := []) ⟨hx, hb, hml, hown, hts⟩ (k_X10_checkSlot l htr D cI cJ cZ a2 H_1.size) (va_cwS 1 hts gk_X10_project_X10_checkSlot rfl rfl rfl (by decide +kernel) ⟨Nat.le_of_ble_eq_true rfl, Nat.le_of_ble_eq_true rfl⟩) ⟨xPc_blind, xPc_pre hPc hK hDc hE hS hFc hV⟩ rfl rfl hl.1 rfl (lv_room (Nat.le_of_ble_eq_true rfl)) dX10_project_5 ⟨Nat.le_of_ble_eq_true rfl, Nat.le_of_ble_eq_true rfl⟩) hS (fun q _ h => hFc q h) hFc (fun q _ h => hFc q h) (fun E ce q9 u t H_7 locs ht hvm hpx hBX hz1 hk1 hS hq9 hcv hcl => ?_) (fun u t H_7 locs ht hvm hw hB hz1 hk1 hS => ?_)
    · rcases hBX with ⟨rfl, e_0⟩ | ⟨rfl, e_0, e_1⟩
      · have c_8 : a2.toInt < 0 := e_0
        exact vx_out (fun x hx => (htab x hx).elim) hlocks hq9 hcv hcl (fun t ht hW => ⟨(), trivial, Or.inr (Or.inr (Or.inl ⟨rfl, c_5, c_6, c_8⟩)), hS.F ht⟩) hS.2.2 (Nat.le_of_ble_eq_true rfl) (Nat.le_of_ble_eq_true rfl)
      · have c_9 : 0 ≤ a2.toInt := e_0
        have c_10 : 6 ≤ a2.toInt := e_1
        exact vx_out (fun x hx => (htab x hx).elim) hlocks hq9 hcv hcl (fun t ht hW => ⟨(), trivial, Or.inr (Or.inr (Or.inr (Or.inl ⟨rfl, c_5, c_6, c_9, c_10⟩))), hS.F ht⟩) hS.2.2 (Nat.le_of_ble_eq_true rfl) (Nat.le_of_ble_eq_true rfl)
    · rcases hw with ⟨e_0, e_1⟩
      have c_11 : 0 ≤ a2.toInt := e_0
      have c_12 : a2.toInt < 6 := e_1
      obtain ⟨hP1, hD1⟩ := hB
      rw [ht] at hP1
      obtain ⟨hP, hD⟩ := va_join (wr := [(x, .inr (9, [.ref st, .ref kp, .int 0, .ref bf, .int 0, .int (-1), .int (-1), .int 0, .ref o1, .ref o2, .ref o3, .ref o4, .ref o5, .ref o6])), (st, .inr (8, [.ref lt, .ref tb, .ref fl, .ref wt, .int 0, .null])), (fl, .inl (cZ, 6, .inl (fun _ => 0)))]) (w1 := []) hP hD [] [0, 1, 2] rfl rfl (by decide) (by decide) hk1 hFc hP1 hD1
      have hP : va_P D vwCl [(x, .inr (9, [.ref st, .ref kp, .int 0, .ref bf, .int 0, .int (-1), .int (-1), .int 0, .ref o1, .ref o2, .ref o3, .ref o4, .ref o5, .ref o6])), (st, .inr (8, [.ref lt, .ref tb, .ref fl, .ref wt, .int 0, .null])), (fl, .inl (cZ, 6, .inl (fun _ => 0)))] H_7 := hP
      have hD : va_D A [(x, .inr (9, [.ref st, .ref kp, .int 0, .ref bf, .int 0, .int (-1), .int (-1), .int 0, .ref o1, .ref o2, .ref o3, .ref o4, .ref o5, .ref o6])), (st, .inr (8, [.ref lt, .ref tb, .ref fl, .ref wt, .int 0, .null])), (fl, .inl (cZ, 6, .inl (fun _ => 0)))] := hD
      refine W.widen (k := 2) (n := 12) (Nat.le_of_ble_eq_true rfl) (Nat.le_of_ble_eq_true rfl) ?_
      refine lv_iload_n hx hb dX10_project_8 rfl (lv_at hl 2 rfl) ?_
      refine lv_if_lt (tgt := 18) hx hb dX10_project_9 (by decide) (fun c_13 => ?_) (fun c_13 => ?_)
      · have c_13 : a1.toInt < 0 := xlt c_13
        obtain ⟨sa, hstr⟩ := hV.1 (236, "a set of variables is 0 to 7") (by decide)
        exact vx_throwS (names := ["java/lang/RuntimeException", "java/lang/Exception"]) hx hb htr hown (by decide +kernel) (by decide +kernel) w_1 w_2 hstr w_3 xgood_70_74 hE.1 hE.2 hS (hl.1.trans hml.symm) dX10_project_18 dX10_project_21 dX10_project_22 dX10_project_24 dX10_project_27 (fun x hx => (htab x hx).elim) (Nat.le_of_ble_eq_true rfl) (Nat.le_of_ble_eq_true rfl) (Nat.le_of_ble_eq_true rfl) (Nat.le_of_ble_eq_true rfl) hlocks (fun t h1 h2 h3 => ⟨(), trivial, Or.inr (Or.inr (Or.inr (Or.inr (Or.inl ⟨rfl, c_5, c_6, c_11, c_12, c_13⟩)))), xF hS h2 h3⟩) hS.2.2 (Nat.le_of_ble_eq_true rfl) (Nat.le_of_ble_eq_true rfl)
      · have c_13 : 0 ≤ a1.toInt := xnlt c_13
        refine lv_iload_n hx hb dX10_project_12 rfl (lv_at hl 2 rfl) ?_
        refine lv_bipush (v := 8) hx hb dX10_project_13 (by decide) ?_
        refine lv_icmp_lt (tgt := 28) hx hb dX10_project_15 (by decide) (fun c_14 => ?_) (fun c_14 => ?_)
        · have c_14 : a1.toInt < 8 := xlt c_14
          refine lv_aload_n hx hb dX10_project_28 rfl (lv_at hl 0 rfl) ?_
          refine lv_iload_n hx hb dX10_project_29 rfl (lv_at hl 1 rfl) ?_
          have hPc := hP.sub (ws' := [(x, .inr (9, [.ref st, .ref kp, .int 0, .ref bf, .int 0, .int (-1), .int (-1), .int 0, .ref o1, .ref o2, .ref o3, .ref o4, .ref o5, .ref o6])), (st, .inr (8, [.ref lt, .ref tb, .ref fl, .ref wt, .int 0, .null])), (fl, .inl (cZ, 6, .inl (fun _ => 0)))]) [0, 1, 2] rfl
          have hDc := hD.sub (ws' := [(x, .inr (9, [.ref st, .ref kp, .int 0, .ref bf, .int 0, .int (-1), .int (-1), .int 0, .ref o1, .ref o2, .ref o3, .ref o4, .ref o5, .ref o6])), (st, .inr (8, [.ref lt, .ref tb, .ref fl, .ref wt, .int 0, .null])), (fl, .inl (cZ, 6, .inl (fun _ => 0)))]) [0, 1, 2] (by decide) rfl
          have hFc := va_free (wc := [(x, .inr (9, [.ref st, .ref kp, .int 0, .ref bf, .int 0, .int (-1), .int (-1), .int 0, .ref o1, .ref o2, .ref o3, .ref o4, .ref o5, .ref o6])), (st, .inr (8, [.ref lt, .ref tb, .ref fl, .ref wt, .int 0, .null])), (fl, .inl (cZ, 6, .inl (fun _ => 0)))]) hD hS hA [0, 1, 2] rfl
          refine vx_callq (vx_runV (As := [.int a0]) (rest := []) ⟨hx, hb, hml, hown, hts⟩ (k_X10_tableIn l htr D cI cJ cZ x st kp bf o1 o2 o3 o4 o5 o6 lt tb fl wt a0 H_7.size) (cwV 1 hts gk_X10_project_X10_tableIn rfl rfl rfl (by decide +kernel) ⟨Nat.le_of_ble_eq_true rfl, Nat.le_of_ble_eq_true rfl⟩) ⟨xPc_blind, va_recv hK hP (ci := 9) (q0 := 0) rfl rfl, xPc_pre hPc hK hDc hE hS hFc hV⟩ rfl rfl hl.1 rfl (lv_room (Nat.le_of_ble_eq_true rfl)) dX10_project_30 ⟨Nat.le_of_ble_eq_true rfl, Nat.le_of_ble_eq_true rfl⟩) hS (fun q _ h => hFc q h) hFc (fun q _ h => hFc q h) (fun E ce q9 u t H_15 locs ht hvm hpx hBX hz1 hk1 hS hq9 hcv hcl => ?_) (fun r u t H_15 locs ht hvm hw hB hz1 hk1 hS => ?_)
          · rcases hBX with ⟨rfl, e_0⟩ | ⟨rfl, e_0, e_1⟩ | ⟨rfl, e_0, e_1⟩
            · have c_16 : a0.toInt < 0 := e_0
              exfalso; omega
            · have c_17 : 0 ≤ a0.toInt := e_0
              have c_18 : 6 ≤ a0.toInt := e_1
              exfalso; omega
            · have c_19 : 0 ≤ a0.toInt := e_0
              have c_20 : a0.toInt < 6 := e_1
              exact vx_out (fun x hx => (htab x hx).elim) hlocks hq9 hcv hcl (fun t ht hW => ⟨(), trivial, Or.inr (Or.inr (Or.inr (Or.inr (Or.inr (Or.inl ⟨rfl, c_5, c_6, c_11, c_12, c_13, c_14, c_19, c_20⟩))))), hS.F ht⟩) hS.2.2 (Nat.le_of_ble_eq_true rfl) (Nat.le_of_ble_eq_true rfl)
          · exact hw.elim
        · have c_14 : 8 ≤ a1.toInt := xnlt c_14
          obtain ⟨sa, hstr⟩ := hV.1 (236, "a set of variables is 0 to 7") (by decide)
          exact vx_throwS (names := ["java/lang/RuntimeException", "java/lang/Exception"]) hx hb htr hown (by decide +kernel) (by decide +kernel) w_1 w_2 hstr w_3 xgood_70_74 hE.1 hE.2 hS (hl.1.trans hml.symm) dX10_project_18 dX10_project_21 dX10_project_22 dX10_project_24 dX10_project_27 (fun x hx => (htab x hx).elim) (Nat.le_of_ble_eq_true rfl) (Nat.le_of_ble_eq_true rfl) (Nat.le_of_ble_eq_true rfl) (Nat.le_of_ble_eq_true rfl) hlocks (fun t h1 h2 h3 => ⟨(), trivial, Or.inr (Or.inr (Or.inr (Or.inr (Or.inr (Or.inr ⟨rfl, c_5, c_6, c_11, c_12, c_13, c_14⟩))))), xF hS h2 h3⟩) hS.2.2 (Nat.le_of_ble_eq_true rfl) (Nat.le_of_ble_eq_true rfl)
