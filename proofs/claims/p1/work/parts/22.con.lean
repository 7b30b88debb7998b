def wk_X10_exchange : List Cond := .code yX10_exchange cX10_exchange 7 (some .int) :: (([.methodLink RX10 241 yX10_checkSelection, .static yX10_checkSelection, .initialized RX10, .code yX10_checkSelection cX10_checkSelection 4 none, .methodLink RX10 138 yX10_checkSlot, .static yX10_checkSlot, .code yX10_checkSlot cX10_checkSlot 1 none, .classLink RX10 91 iob, .initialized iob, .methodLink RX10 189 yX10_checkVariable, .static yX10_checkVariable, .code yX10_checkVariable cX10_checkVariable 1 none, .methodLink RX10 153 yX10_tableIn, .instanceMethod yX10_tableIn, .selects RX10 yX10_tableIn yX10_tableIn, .code yX10_tableIn cX10_tableIn 2 (some (.object "DocumentSpanner$SortedInts")), .fieldLink RX10 12 "DocumentSpanner" "state" "LDocumentSpanner$State;", .fieldLink RX10 96 "DocumentSpanner$State" "filled" "[Z", .classLink RX10 80 ise, .initialized ise] : List Cond) ++ wsX100 ++ wsX80 ++ (vx_atS RX10 84 ise ["java/lang/RuntimeException", "java/lang/Exception"]).filter goodWord ++ (vx_atS RX10 95 iob ["java/lang/RuntimeException", "java/lang/Exception"]).filter goodWord)
set_option maxRecDepth 20000 in
theorem ggk_X10_exchange_X10_checkSelection : GoodIn wk_X10_exchange wk_X10_checkSelection := goodIn_ca (goodIn_r _ [4, 5, 6, 3, 7, 8, 9, 10, 11, 12] (by decide +kernel) (by decide +kernel)) (goodIn_sub (fun _ h => List.mem_cons_of_mem _ (List.mem_append_right _ h)) (by decide +kernel))
set_option maxRecDepth 20000 in
theorem gk_X10_exchange_X10_checkSelection : GoodIn wk_X10_exchange (va_wsS RX10 241 yX10_checkSelection wk_X10_checkSelection) := goodIn_app (goodIn_r _ [1, 2, 3] (by decide +kernel) (by decide +kernel)) ggk_X10_exchange_X10_checkSelection
set_option maxRecDepth 20000 in
theorem ggk_X10_exchange_X10_tableIn : GoodIn wk_X10_exchange wk_X10_tableIn := goodIn_ca (goodIn_ca (goodIn_ca (goodIn_ca (goodIn_r _ [16, 17, 18, 19, 20, 5, 6, 3, 7, 8, 9] (by decide +kernel) (by decide +kernel)) (goodIn_sub (fun _ h => List.mem_cons_of_mem _ (List.mem_append_left _ (List.mem_append_left _ (List.mem_append_left _ (List.mem_append_right _ h))))) (by decide +kernel))) (goodIn_sub (fun _ h => List.mem_cons_of_mem _ (List.mem_append_left _ (List.mem_append_left _ (List.mem_append_right _ h)))) (by decide +kernel))) (goodIn_sub (fun _ h => List.mem_cons_of_mem _ (List.mem_append_left _ (List.mem_append_right _ h))) (by decide +kernel))) (goodIn_sub (fun _ h => List.mem_cons_of_mem _ (List.mem_append_right _ h)) (by decide +kernel))
set_option maxRecDepth 20000 in
theorem gk_X10_exchange_X10_tableIn : GoodIn wk_X10_exchange (wsV RX10 153 RX10 yX10_tableIn wk_X10_tableIn) := goodIn_app (goodIn_r _ [13, 14, 15, 3] (by decide +kernel) (by decide +kernel)) ggk_X10_exchange_X10_tableIn
set_option maxHeartbeats 4000000 in
set_option maxRecDepth 100000 in
theorem k_X10_exchange (l : Launch) (htr : l.stackTraces = false) (D : va_G) (cI cJ cZ : ClassId) (x : Nat) (st : Nat) (kp : Nat) (bf : Nat) (o1 : Nat) (o2 : Nat) (o3 : Nat) (o4 : Nat) (o5 : Nat) (o6 : Nat) (lt : Nat) (tb : Nat) (fl : Nat) (wt : Nat) (a0 : Int32) (a1 : Int32) (a2 : Int32) (a3 : Int32) (sz : Nat) : vx_Met l yX10_exchange wk_X10_exchange ({ frames := 8, cells := 6, slots := 36, locals := 125 }) (xPc D cI cJ cZ [.ref x, .int a0, .int a1, .int a2, .int a3] [(x, .inr (9, [.ref st, .ref kp, .int 0, .ref bf, .int 0, .int (-1), .int (-1), .int 0, .ref o1, .ref o2, .ref o3, .ref o4, .ref o5, .ref o6])), (st, .inr (8, [.ref lt, .ref tb, .ref fl, .ref wt, .int 0, .null])), (fl, .inl (cZ, 6, .inl (fun _ => 0)))] sz) (va_Qi (fun (r : Int32) (u : Unit) => False) (fun (u : Unit) (t : State) => va_P D vwCl ([] : va_W) t.heap ∧ va_D (va_A [(x, .inr (9, [.ref st, .ref kp, .int 0, .ref bf, .int 0, .int (-1), .int (-1), .int 0, .ref o1, .ref o2, .ref o3, .ref o4, .ref o5, .ref o6])), (st, .inr (8, [.ref lt, .ref tb, .ref fl, .ref wt, .int 0, .null])), (fl, .inl (cZ, 6, .inl (fun _ => 0)))] sz) ([] : va_W)) (va_A [(x, .inr (9, [.ref st, .ref kp, .int 0, .ref bf, .int 0, .int (-1), .int (-1), .int 0, .ref o1, .ref o2, .ref o3, .ref o4, .ref o5, .ref o6])), (st, .inr (8, [.ref lt, .ref tb, .ref fl, .ref wt, .int 0, .null])), (fl, .inl (cZ, 6, .inl (fun _ => 0)))] sz)) (vx_X (fun _ : Unit => True) (fun (E : String) (_ : Unit) (_ : State) => (E = iob ∧ a0.toInt < 0) ∨ (E = iob ∧ 0 ≤ a0.toInt ∧ 6 ≤ a0.toInt) ∨ (E = iob ∧ 0 ≤ a0.toInt ∧ a0.toInt < 6 ∧ a3.toInt < 0) ∨ (E = iob ∧ 0 ≤ a0.toInt ∧ a0.toInt < 6 ∧ 0 ≤ a3.toInt ∧ 6 ≤ a3.toInt) ∨ (E = iob ∧ 0 ≤ a0.toInt ∧ a0.toInt < 6 ∧ 0 ≤ a3.toInt ∧ a3.toInt < 6 ∧ a1.toInt < 0) ∨ (E = iob ∧ 0 ≤ a0.toInt ∧ a0.toInt < 6 ∧ 0 ≤ a3.toInt ∧ a3.toInt < 6 ∧ 0 ≤ a1.toInt ∧ 3 ≤ a1.toInt) ∨ (E = iob ∧ 0 ≤ a0.toInt ∧ a0.toInt < 6 ∧ 0 ≤ a3.toInt ∧ a3.toInt < 6 ∧ 0 ≤ a1.toInt ∧ a1.toInt < 3 ∧ a2.toInt < 0) ∨ (E = iob ∧ 0 ≤ a0.toInt ∧ a0.toInt < 6 ∧ 0 ≤ a3.toInt ∧ a3.toInt < 6 ∧ 0 ≤ a1.toInt ∧ a1.toInt < 3 ∧ 0 ≤ a2.toInt ∧ 3 ≤ a2.toInt) ∨ (E = ise ∧ 0 ≤ a0.toInt ∧ a0.toInt < 6 ∧ 0 ≤ a3.toInt ∧ a3.toInt < 6 ∧ 0 ≤ a1.toInt ∧ a1.toInt < 3 ∧ 0 ≤ a2.toInt ∧ a2.toInt < 3 ∧ 0 ≤ a0.toInt ∧ a0.toInt < 6)) (va_A [(x, .inr (9, [.ref st, .ref kp, .int 0, .ref bf, .int 0, .int (-1), .int (-1), .int 0, .ref o1, .ref o2, .ref o3, .ref o4, .ref o5, .ref o6])), (st, .inr (8, [.ref lt, .ref tb, .ref fl, .ref wt, .int 0, .null])), (fl, .inl (cZ, 6, .inl (fun _ => 0)))] sz)) 6 36 (va_A [(x, .inr (9, [.ref st, .ref kp, .int 0, .ref bf, .int 0, .int (-1), .int (-1), .int 0, .ref o1, .ref o2, .ref o3, .ref o4, .ref o5, .ref o6])), (st, .inr (8, [.ref lt, .ref tb, .ref fl, .ref wt, .int 0, .null])), (fl, .inl (cZ, 6, .inl (fun _ => 0)))] sz) := by
  refine vx_ofW (cc := cX10_exchange) (maxL := 7) (ret := (some .int)) (by decide) rfl ?_
  intro p e s m args below meth c s₁ B hml htab hv
  obtain ⟨rfl, hsz, hP, hK, hD0, hE, hV⟩ := hv
  have hx := B.exec
  have hb := B.bytes
  have hr := B.returns
  have hts := atoms_spec (ws := wk_X10_exchange) B.pre
  have hown : s.vm.findClass RX10 = some m.cls := findClass_of_methodNamed B.named
  have hlocks := B.notSynchronized
  subst hsz
  have hD := hD0.self (sz := s.heap.size)
  generalize hAe : va_A [(x, .inr (9, [.ref st, .ref kp, .int 0, .ref bf, .int 0, .int (-1), .int (-1), .int 0, .ref o1, .ref o2, .ref o3, .ref o4, .ref o5, .ref o6])), (st, .inr (8, [.ref lt, .ref tb, .ref fl, .ref wt, .int 0, .null])), (fl, .inl (cZ, 6, .inl (fun _ => 0)))] s.heap.size = A at hD hE ⊢
  have hA : ∀ q : Nat, s.heap.size ≤ q → A q := fun q h => by rw [← hAe]; exact Or.inr h
  have hS : va_S A s.heap s.heap [] := va_S.rf
  have hP : va_P D vwCl [(x, .inr (9, [.ref st, .ref kp, .int 0, .ref bf, .int 0, .int (-1), .int (-1), .int 0, .ref o1, .ref o2, .ref o3, .ref o4, .ref o5, .ref o6])), (st, .inr (8, [.ref lt, .ref tb, .ref fl, .ref wt, .int 0, .null])), (fl, .inl (cZ, 6, .inl (fun _ => 0)))] s.heap := hP
  have hl := lv_entry ([.ref x, .int a0, .int a1, .int a2, .int a3]) (n := 7) (Nat.le_of_ble_eq_true rfl)
  rw [lg_entry_eq]
  generalize (lg_sl ([.ref x, .int a0, .int a1, .int a2, .int a3]) ++ List.replicate (7 - (lg_sl ([.ref x, .int a0, .int a1, .int a2, .int a3])).length) Slot.unset).toArray = ls at hl ⊢
  have hl : lv_has ls 7 [(0, .ref x), (1, .int a0), (2, .int a1), (3, .int a2), (4, .int a3)] := hl
  refine lv_iload_n hx hb dX10_exchange_0 rfl (lv_at hl 1 rfl) ?_
  refine lv_iload_n hx hb dX10_exchange_1 rfl (lv_at hl 2 rfl) ?_
  refine lv_iload_n hx hb dX10_exchange_2 rfl (lv_at hl 3 rfl) ?_
  refine lv_iload hx hb dX10_exchange_3 (lv_at hl 4 rfl) ?_
  have hPc := hP.sub (ws' := []) [] rfl
  have hDc := hD.sub (ws' := []) [] (by decide) rfl
  have hFc := va_free (wc := []) hD hS hA [] rfl
  refine vx_callv (vx_runS (As := [.int a0, .int a1, .int a2, .int a3]) (rest := []) ⟨hx, hb, hml, hown, hts⟩ (k_X10_checkSelection l htr D cI cJ cZ a0 a1 a2 a3 s.heap.size) (va_cwS 4 hts gk_X10_exchange_X10_checkSelection rfl rfl rfl (by decide +kernel) ⟨Nat.le_of_ble_eq_true rfl, Nat.le_of_ble_eq_true rfl⟩) ⟨xPc_blind, xPc_pre hPc hK hDc hE hS hFc hV⟩ rfl rfl hl.1 rfl (lv_room (Nat.le_of_ble_eq_true rfl)) dX10_exchange_5 ⟨Nat.le_of_ble_eq_true rfl, Nat.le_of_ble_eq_true rfl⟩) hS (fun q _ h => hFc q h) hFc (fun q _ h => hFc q h) (fun E ce q9 u t H_1 locs ht hvm hpx hBX hz1 hk1 hS hq9 hcv hcl => ?_) (fun u t H_1 locs ht hvm hw hB hz1 hk1 hS => ?_)
  · rcases hBX with ⟨rfl, e_0⟩ | ⟨rfl, e_0, e_1⟩ | ⟨rfl, e_0, e_1, e_2⟩ | ⟨rfl, e_0, e_1, e_2, e_3⟩ | ⟨rfl, e_0, e_1, e_2, e_3, e_4⟩ | ⟨rfl, e_0, e_1, e_2, e_3, e_4, e_5⟩ | ⟨rfl, e_0, e_1, e_2, e_3, e_4, e_5, e_6⟩ | ⟨rfl, e_0, e_1, e_2, e_3, e_4, e_5, e_6, e_7⟩
    · have c_2 : a0.toInt < 0 := e_0
      exact vx_out (fun x hx => (htab x hx).elim) hlocks hq9 hcv hcl (fun t ht hW => ⟨(), trivial, Or.inl ⟨rfl, c_2⟩, hS.F ht⟩) hS.2.2 (Nat.le_of_ble_eq_true rfl) (Nat.le_of_ble_eq_true rfl)
    · have c_3 : 0 ≤ a0.toInt := e_0
      have c_4 : 6 ≤ a0.toInt := e_1
      exact vx_out (fun x hx => (htab x hx).elim) hlocks hq9 hcv hcl (fun t ht hW => ⟨(), trivial, Or.inr (Or.inl ⟨rfl, c_3, c_4⟩), hS.F ht⟩) hS.2.2 (Nat.le_of_ble_eq_true rfl) (Nat.le_of_ble_eq_true rfl)
    · have c_5 : 0 ≤ a0.toInt := e_0
      have c_6 : a0.toInt < 6 := e_1
      have c_7 : a3.toInt < 0 := e_2
      exact vx_out (fun x hx => (htab x hx).elim) hlocks hq9 hcv hcl (fun t ht hW => ⟨(), trivial, Or.inr (Or.inr (Or.inl ⟨rfl, c_5, c_6, c_7⟩)), hS.F ht⟩) hS.2.2 (Nat.le_of_ble_eq_true rfl) (Nat.le_of_ble_eq_true rfl)
    · have c_8 : 0 ≤ a0.toInt := e_0
      have c_9 : a0.toInt < 6 := e_1
      have c_10 : 0 ≤ a3.toInt := e_2
      have c_11 : 6 ≤ a3.toInt := e_3
      exact vx_out (fun x hx => (htab x hx).elim) hlocks hq9 hcv hcl (fun t ht hW => ⟨(), trivial, Or.inr (Or.inr (Or.inr (Or.inl ⟨rfl, c_8, c_9, c_10, c_11⟩))), hS.F ht⟩) hS.2.2 (Nat.le_of_ble_eq_true rfl) (Nat.le_of_ble_eq_true rfl)
    · have c_12 : 0 ≤ a0.toInt := e_0
      have c_13 : a0.toInt < 6 := e_1
      have c_14 : 0 ≤ a3.toInt := e_2
      have c_15 : a3.toInt < 6 := e_3
      have c_16 : a1.toInt < 0 := e_4
      exact vx_out (fun x hx => (htab x hx).elim) hlocks hq9 hcv hcl (fun t ht hW => ⟨(), trivial, Or.inr (Or.inr (Or.inr (Or.inr (Or.inl ⟨rfl, c_12, c_13, c_14, c_15, c_16⟩)))), hS.F ht⟩) hS.2.2 (Nat.le_of_ble_eq_true rfl) (Nat.le_of_ble_eq_true rfl)
    · have c_17 : 0 ≤ a0.toInt := e_0
      have c_18 : a0.toInt < 6 := e_1
      have c_19 : 0 ≤ a3.toInt := e_2
      have c_20 : a3.toInt < 6 := e_3
      have c_21 : 0 ≤ a1.toInt := e_4
      have c_22 : 3 ≤ a1.toInt := e_5
      exact vx_out (fun x hx => (htab x hx).elim) hlocks hq9 hcv hcl (fun t ht hW => ⟨(), trivial, Or.inr (Or.inr (Or.inr (Or.inr (Or.inr (Or.inl ⟨rfl, c_17, c_18, c_19, c_20, c_21, c_22⟩))))), hS.F ht⟩) hS.2.2 (Nat.le_of_ble_eq_true rfl) (Nat.le_of_ble_eq_true rfl)
    · have c_23 : 0 ≤ a0.toInt := e_0
      have c_24 : a0.toInt < 6 := e_1
      have c_25 : 0 ≤ a3.toInt := e_2
      have c_26 : a3.toInt < 6 := e_3
      have c_27 : 0 ≤ a1.toInt := e_4
      have c_28 : a1.toInt < 3 := e_5
      have c_29 : a2.toInt < 0 := e_6
      exact vx_out (fun x hx => (htab x hx).elim) hlocks hq9 hcv hcl (fun t ht hW => ⟨(), trivial, Or.inr (Or.inr (Or.inr (Or.inr (Or.inr (Or.inr (Or.inl ⟨rfl, c_23, c_24, c_25, c_26, c_27, c_28, c_29⟩)))))), hS.F ht⟩) hS.2.2 (Nat.le_of_ble_eq_true rfl) (Nat.le_of_ble_eq_true rfl)
    · have c_30 : 0 ≤ a0.toInt := e_0
      have c_31 : a0.toInt < 6 := e_1
      have c_32 : 0 ≤ a3.toInt := e_2
      have c_33 : a3.toInt < 6 := e_3
      have c_34 : 0 ≤ a1.toInt := e_4
      have c_35 : a1.toInt < 3 := e_5
      have c_36 : 0 ≤ a2.toInt := e_6
      have c_37 : 3 ≤ a2.toInt := e_7
      exact vx_out (fun x hx => (htab x hx).elim) hlocks hq9 hcv hcl (fun t ht hW => ⟨(), trivial, Or.inr (Or.inr (Or.inr (Or.inr (Or.inr (Or.inr (Or.inr (Or.inl ⟨rfl, c_30, c_31, c_32, c_33, c_34, c_35, c_36, c_37⟩))))))), hS.F ht⟩) hS.2.2 (Nat.le_of_ble_eq_true rfl) (Nat.le_of_ble_eq_true rfl)
  · rcases hw with ⟨e_0, e_1, e_2, e_3, e_4, e_5, e_6, e_7⟩
    have c_38 : 0 ≤ a0.toInt := e_0
    have c_39 : a0.toInt < 6 := e_1
    have c_40 : 0 ≤ a3.toInt := e_2
    have c_41 : a3.toInt < 6 := e_3
    have c_42 : 0 ≤ a1.toInt := e_4
    have c_43 : a1.toInt < 3 := e_5
    have c_44 : 0 ≤ a2.toInt := e_6
    have c_45 : a2.toInt < 3 := e_7
    obtain ⟨hP1, hD1⟩ := hB
    rw [ht] at hP1
    obtain ⟨hP, hD⟩ := va_join (wr := [(x, .inr (9, [.ref st, .ref kp, .int 0, .ref bf, .int 0, .int (-1), .int (-1), .int 0, .ref o1, .ref o2, .ref o3, .ref o4, .ref o5, .ref o6])), (st, .inr (8, [.ref lt, .ref tb, .ref fl, .ref wt, .int 0, .null])), (fl, .inl (cZ, 6, .inl (fun _ => 0)))]) (w1 := []) hP hD [] [0, 1, 2] rfl rfl (by decide) (by decide) hk1 hFc hP1 hD1
    have hP : va_P D vwCl [(x, .inr (9, [.ref st, .ref kp, .int 0, .ref bf, .int 0, .int (-1), .int (-1), .int 0, .ref o1, .ref o2, .ref o3, .ref o4, .ref o5, .ref o6])), (st, .inr (8, [.ref lt, .ref tb, .ref fl, .ref wt, .int 0, .null])), (fl, .inl (cZ, 6, .inl (fun _ => 0)))] H_1 := hP
    have hD : va_D A [(x, .inr (9, [.ref st, .ref kp, .int 0, .ref bf, .int 0, .int (-1), .int (-1), .int 0, .ref o1, .ref o2, .ref o3, .ref o4, .ref o5, .ref o6])), (st, .inr (8, [.ref lt, .ref tb, .ref fl, .ref wt, .int 0, .null])), (fl, .inl (cZ, 6, .inl (fun _ => 0)))] := hD
    refine W.widen (k := 4) (n := 24) (Nat.le_of_ble_eq_true rfl) (Nat.le_of_ble_eq_true rfl) ?_
    refine lv_aload_n hx hb dX10_exchange_8 rfl (lv_at hl 0 rfl) ?_
    refine lv_iload_n hx hb dX10_exchange_9 rfl (lv_at hl 1 rfl) ?_
    have hPc := hP.sub (ws' := [(x, .inr (9, [.ref st, .ref kp, .int 0, .ref bf, .int 0, .int (-1), .int (-1), .int 0, .ref o1, .ref o2, .ref o3, .ref o4, .ref o5, .ref o6])), (st, .inr (8, [.ref lt, .ref tb, .ref fl, .ref wt, .int 0, .null])), (fl, .inl (cZ, 6, .inl (fun _ => 0)))]) [0, 1, 2] rfl
    have hDc := hD.sub (ws' := [(x, .inr (9, [.ref st, .ref kp, .int 0, .ref bf, .int 0, .int (-1), .int (-1), .int 0, .ref o1, .ref o2, .ref o3, .ref o4, .ref o5, .ref o6])), (st, .inr (8, [.ref lt, .ref tb, .ref fl, .ref wt, .int 0, .null])), (fl, .inl (cZ, 6, .inl (fun _ => 0)))]) [0, 1, 2] (by decide) rfl
    have hFc := va_free (wc := [(x, .inr (9, [.ref st, .ref kp, .int 0, .ref bf, .int 0, .int (-1), .int (-1), .int 0, .ref o1, .ref o2, .ref o3, .ref o4, .ref o5, .ref o6])), (st, .inr (8, [.ref lt, .ref tb, .ref fl, .ref wt, .int 0, .null])), (fl, .inl (cZ, 6, .inl (fun _ => 0)))]) hD hS hA [0, 1, 2] rfl
    refine vx_callq (vx_runV (As := [.int a0]) (rest := []) ⟨hx, hb, hml, hown, hts⟩ (k_X10_tableIn l htr D cI cJ cZ x st kp bf o1 o2 o3 o4 o5 o6 lt tb fl wt a0 H_1.size) (cwV 1 hts gk_X10_exchange_X10_tableIn rfl rfl rfl (by decide +kernel) ⟨Nat.le_of_ble_eq_true rfl, Nat.le_of_ble_eq_true rfl⟩) ⟨xPc_blind, va_recv hK hP (ci := 9) (q0 := 0) rfl rfl, xPc_pre hPc hK hDc hE hS hFc hV⟩ rfl rfl hl.1 rfl (lv_room (Nat.le_of_ble_eq_true rfl)) dX10_exchange_10 ⟨Nat.le_of_ble_eq_true rfl, Nat.le_of_ble_eq_true rfl⟩) hS (fun q _ h => hFc q h) hFc (fun q _ h => hFc q h) (fun E ce q9 u t H_46 locs ht hvm hpx hBX hz1 hk1 hS hq9 hcv hcl => ?_) (fun r u t H_46 locs ht hvm hw hB hz1 hk1 hS => ?_)
    · rcases hBX with ⟨rfl, e_0⟩ | ⟨rfl, e_0, e_1⟩ | ⟨rfl, e_0, e_1⟩
      · have c_47 : a0.toInt < 0 := e_0
        exfalso; omega
      · have c_48 : 0 ≤ a0.toInt := e_0
        have c_49 : 6 ≤ a0.toInt := e_1
        exfalso; omega
      · have c_50 : 0 ≤ a0.toInt := e_0
        have c_51 : a0.toInt < 6 := e_1
        exact vx_out (fun x hx => (htab x hx).elim) hlocks hq9 hcv hcl (fun t ht hW => ⟨(), trivial, Or.inr (Or.inr (Or.inr (Or.inr (Or.inr (Or.inr (Or.inr (Or.inr ⟨rfl, c_38, c_39, c_40, c_41, c_42, c_43, c_44, c_45, c_50, c_51⟩))))))), hS.F ht⟩) hS.2.2 (Nat.le_of_ble_eq_true rfl) (Nat.le_of_ble_eq_true rfl)
    · exact hw.elim
def wk_X10_selectEqual : List Cond := .code yX10_selectEqual cX10_selectEqual 8 (some .int) :: (([.methodLink RX10 241 yX10_checkSelection, .static yX10_checkSelection, .initialized RX10, .code yX10_checkSelection cX10_checkSelection 4 none, .methodLink RX10 138 yX10_checkSlot, .static yX10_checkSlot, .code yX10_checkSlot cX10_checkSlot 1 none, .classLink RX10 91 iob, .initialized iob, .methodLink RX10 189 yX10_checkVariable, .static yX10_checkVariable, .code yX10_checkVariable cX10_checkVariable 1 none, .methodLink RX10 153 yX10_tableIn, .instanceMethod yX10_tableIn, .selects RX10 yX10_tableIn yX10_tableIn, .code yX10_tableIn cX10_tableIn 2 (some (.object "DocumentSpanner$SortedInts")), .fieldLink RX10 12 "DocumentSpanner" "state" "LDocumentSpanner$State;", .fieldLink RX10 96 "DocumentSpanner$State" "filled" "[Z", .classLink RX10 80 ise, .initialized ise] : List Cond) ++ wsX100 ++ wsX80 ++ (vx_atS RX10 84 ise ["java/lang/RuntimeException", "java/lang/Exception"]).filter goodWord ++ (vx_atS RX10 95 iob ["java/lang/RuntimeException", "java/lang/Exception"]).filter goodWord)
set_option maxRecDepth 20000 in
theorem ggk_X10_selectEqual_X10_checkSelection : GoodIn wk_X10_selectEqual wk_X10_checkSelection := goodIn_ca (goodIn_r _ [4, 5, 6, 3, 7, 8, 9, 10, 11, 12] (by decide +kernel) (by decide +kernel)) (goodIn_sub (fun _ h => List.mem_cons_of_mem _ (List.mem_append_right _ h)) (by decide +kernel))
set_option maxRecDepth 20000 in
theorem gk_X10_selectEqual_X10_checkSelection : GoodIn wk_X10_selectEqual (va_wsS RX10 241 yX10_checkSelection wk_X10_checkSelection) := goodIn_app (goodIn_r _ [1, 2, 3] (by decide +kernel) (by decide +kernel)) ggk_X10_selectEqual_X10_checkSelection
set_option maxRecDepth 20000 in
theorem ggk_X10_selectEqual_X10_tableIn : GoodIn wk_X10_selectEqual wk_X10_tableIn := goodIn_ca (goodIn_ca (goodIn_ca (goodIn_ca (goodIn_r _ [16, 17, 18, 19, 20, 5, 6, 3, 7, 8, 9] (by decide +kernel) (by decide +kernel)) (goodIn_sub (fun _ h => List.mem_cons_of_mem _ (List.mem_append_left _ (List.mem_append_left _ (List.mem_append_left _ (List.mem_append_right _ h))))) (by decide +kernel))) (goodIn_sub (fun _ h => List.mem_cons_of_mem _ (List.mem_append_left _ (List.mem_append_left _ (List.mem_append_right _ h)))) (by decide +kernel))) (goodIn_sub (fun _ h => List.mem_cons_of_mem _ (List.mem_append_left _ (List.mem_append_right _ h))) (by decide +kernel))) (goodIn_sub (fun _ h => List.mem_cons_of_mem _ (List.mem_append_right _ h)) (by decide +kernel))
set_option maxRecDepth 20000 in
theorem gk_X10_selectEqual_X10_tableIn : GoodIn wk_X10_selectEqual (wsV RX10 153 RX10 yX10_tableIn wk_X10_tableIn) := goodIn_app (goodIn_r _ [13, 14, 15, 3] (by decide +kernel) (by decide +kernel)) ggk_X10_selectEqual_X10_tableIn
set_option maxHeartbeats 4000000 in
set_option maxRecDepth 100000 in
theorem k_X10_selectEqual (l : Launch) (htr : l.stackTraces = false) (D : va_G) (cI cJ cZ : ClassId) (x : Nat) (st : Nat) (kp : Nat) (bf : Nat) (o1 : Nat) (o2 : Nat) (o3 : Nat) (o4 : Nat) (o5 : Nat) (o6 : Nat) (lt : Nat) (tb : Nat) (fl : Nat) (wt : Nat) (a0 : Int32) (a1 : Int32) (a2 : Int32) (a3 : Int32) (sz : Nat) : vx_Met l yX10_selectEqual wk_X10_selectEqual ({ frames := 8, cells := 6, slots := 36, locals := 125 }) (xPc D cI cJ cZ [.ref x, .int a0, .int a1, .int a2, .int a3] [(x, .inr (9, [.ref st, .ref kp, .int 0, .ref bf, .int 0, .int (-1), .int (-1), .int 0, .ref o1, .ref o2, .ref o3, .ref o4, .ref o5, .ref o6])), (st, .inr (8, [.ref lt, .ref tb, .ref fl, .ref wt, .int 0, .null])), (fl, .inl (cZ, 6, .inl (fun _ => 0)))] sz) (va_Qi (fun (r : Int32) (u : Unit) => False) (fun (u : Unit) (t : State) => va_P D vwCl ([] : va_W) t.heap ∧ va_D (va_A [(x, .inr (9, [.ref st, .ref kp, .int 0, .ref bf, .int 0, .int (-1), .int (-1), .int 0, .ref o1, .ref o2, .ref o3, .ref o4, .ref o5, .ref o6])), (st, .inr (8, [.ref lt, .ref tb, .ref fl, .ref wt, .int 0, .null])), (fl, .inl (cZ, 6, .inl (fun _ => 0)))] sz) ([] : va_W)) (va_A [(x, .inr (9, [.ref st, .ref kp, .int 0, .ref bf, .int 0, .int (-1), .int (-1), .int 0, .ref o1, .ref o2, .ref o3, .ref o4, .ref o5, .ref o6])), (st, .inr (8, [.ref lt, .ref tb, .ref fl, .ref wt, .int 0, .null])), (fl, .inl (cZ, 6, .inl (fun _ => 0)))] sz)) (vx_X (fun _ : Unit => True) (fun (E : String) (_ : Unit) (_ : State) => (E = iob ∧ a0.toInt < 0) ∨ (E = iob ∧ 0 ≤ a0.toInt ∧ 6 ≤ a0.toInt) ∨ (E = iob ∧ 0 ≤ a0.toInt ∧ a0.toInt < 6 ∧ a3.toInt < 0) ∨ (E = iob ∧ 0 ≤ a0.toInt ∧ a0.toInt < 6 ∧ 0 ≤ a3.toInt ∧ 6 ≤ a3.toInt) ∨ (E = iob ∧ 0 ≤ a0.toInt ∧ a0.toInt < 6 ∧ 0 ≤ a3.toInt ∧ a3.toInt < 6 ∧ a1.toInt < 0) ∨ (E = iob ∧ 0 ≤ a0.toInt ∧ a0.toInt < 6 ∧ 0 ≤ a3.toInt ∧ a3.toInt < 6 ∧ 0 ≤ a1.toInt ∧ 3 ≤ a1.toInt) ∨ (E = iob ∧ 0 ≤ a0.toInt ∧ a0.toInt < 6 ∧ 0 ≤ a3.toInt ∧ a3.toInt < 6 ∧ 0 ≤ a1.toInt ∧ a1.toInt < 3 ∧ a2.toInt < 0) ∨ (E = iob ∧ 0 ≤ a0.toInt ∧ a0.toInt < 6 ∧ 0 ≤ a3.toInt ∧ a3.toInt < 6 ∧ 0 ≤ a1.toInt ∧ a1.toInt < 3 ∧ 0 ≤ a2.toInt ∧ 3 ≤ a2.toInt) ∨ (E = ise ∧ 0 ≤ a0.toInt ∧ a0.toInt < 6 ∧ 0 ≤ a3.toInt ∧ a3.toInt < 6 ∧ 0 ≤ a1.toInt ∧ a1.toInt < 3 ∧ 0 ≤ a2.toInt ∧ a2.toInt < 3 ∧ 0 ≤ a0.toInt ∧ a0.toInt < 6)) (va_A [(x, .inr (9, [.ref st, .ref kp, .int 0, .ref bf, .int 0, .int (-1), .int (-1), .int 0, .ref o1, .ref o2, .ref o3, .ref o4, .ref o5, .ref o6])), (st, .inr (8, [.ref lt, .ref tb, .ref fl, .ref wt, .int 0, .null])), (fl, .inl (cZ, 6, .inl (fun _ => 0)))] sz)) 6 36 (va_A [(x, .inr (9, [.ref st, .ref kp, .int 0, .ref bf, .int 0, .int (-1), .int (-1), .int 0, .ref o1, .ref o2, .ref o3, .ref o4, .ref o5, .ref o6])), (st, .inr (8, [.ref lt, .ref tb, .ref fl, .ref wt, .int 0, .null])), (fl, .inl (cZ, 6, .inl (fun _ => 0)))] sz) := by
  refine vx_ofW (cc := cX10_selectEqual) (maxL := 8) (ret := (some .int)) (by decide) rfl ?_
  intro p e s m args below meth c s₁ B hml htab hv
  obtain ⟨rfl, hsz, hP, hK, hD0, hE, hV⟩ := hv
  have hx := B.exec
  have hb := B.bytes
  have hr := B.returns
  have hts := atoms_spec (ws := wk_X10_selectEqual) B.pre
  have hown : s.vm.findClass RX10 = some m.cls := findClass_of_methodNamed B.named
  have hlocks := B.notSynchronized
  subst hsz
  have hD := hD0.self (sz := s.heap.size)
  generalize hAe : va_A [(x, .inr (9, [.ref st, .ref kp, .int 0, .ref bf, .int 0, .int (-1), .int (-1), .int 0, .ref o1, .ref o2, .ref o3, .ref o4, .ref o5, .ref o6])), (st, .inr (8, [.ref lt, .ref tb, .ref fl, .ref wt, .int 0, .null])), (fl, .inl (cZ, 6, .inl (fun _ => 0)))] s.heap.size = A at hD hE ⊢
  have hA : ∀ q : Nat, s.heap.size ≤ q → A q := fun q h => by rw [← hAe]; exact Or.inr h
  have hS : va_S A s.heap s.heap [] := va_S.rf
  have hP : va_P D vwCl [(x, .inr (9, [.ref st, .ref kp, .int 0, .ref bf, .int 0, .int (-1), .int (-1), .int 0, .ref o1, .ref o2, .ref o3, .ref o4, .ref o5, .ref o6])), (st, .inr (8, [.ref lt, .ref tb, .ref fl, .ref wt, .int 0, .null])), (fl, .inl (cZ, 6, .inl (fun _ => 0)))] s.heap := hP
  have hl := lv_entry ([.ref x, .int a0, .int a1, .int a2, .int a3]) (n := 8) (Nat.le_of_ble_eq_true rfl)
  rw [lg_entry_eq]
  generalize (lg_sl ([.ref x, .int a0, .int a1, .int a2, .int a3]) ++ List.replicate (8 - (lg_sl ([.ref x, .int a0, .int a1, .int a2, .int a3])).length) Slot.unset).toArray = ls at hl ⊢
  have hl : lv_has ls 8 [(0, .ref x), (1, .int a0), (2, .int a1), (3, .int a2), (4, .int a3)] := hl
  refine lv_iload_n hx hb dX10_selectEqual_0 rfl (lv_at hl 1 rfl) ?_
  refine lv_iload_n hx hb dX10_selectEqual_1 rfl (lv_at hl 2 rfl) ?_
  refine lv_iload_n hx hb dX10_selectEqual_2 rfl (lv_at hl 3 rfl) ?_
  refine lv_iload hx hb dX10_selectEqual_3 (lv_at hl 4 rfl) ?_
  have hPc := hP.sub (ws' := []) [] rfl
  have hDc := hD.sub (ws' := []) [] (by decide) rfl
  have hFc := va_free (wc := []) hD hS hA [] rfl
  refine vx_callv (vx_runS (As := [.int a0, .int a1, .int a2, .int a3]) (rest := []) ⟨hx, hb, hml, hown, hts⟩ (k_X10_checkSelection l htr D cI cJ cZ a0 a1 a2 a3 s.heap.size) (va_cwS 4 hts gk_X10_selectEqual_X10_checkSelection rfl rfl rfl (by decide +kernel) ⟨Nat.le_of_ble_eq_true rfl, Nat.le_of_ble_eq_true rfl⟩) ⟨xPc_blind, xPc_pre hPc hK hDc hE hS hFc hV⟩ rfl rfl hl.1 rfl (lv_room (Nat.le_of_ble_eq_true rfl)) dX10_selectEqual_5 ⟨Nat.le_of_ble_eq_true rfl, Nat.le_of_ble_eq_true rfl⟩) hS (fun q _ h => hFc q h) hFc (fun q _ h => hFc q h) (fun E ce q9 u t H_1 locs ht hvm hpx hBX hz1 hk1 hS hq9 hcv hcl => ?_) (fun u t H_1 locs ht hvm hw hB hz1 hk1 hS => ?_)
  · rcases hBX with ⟨rfl, e_0⟩ | ⟨rfl, e_0, e_1⟩ | ⟨rfl, e_0, e_1, e_2⟩ | ⟨rfl, e_0, e_1, e_2, e_3⟩ | ⟨rfl, e_0, e_1, e_2, e_3, e_4⟩ | ⟨rfl, e_0, e_1, e_2, e_3, e_4, e_5⟩ | ⟨rfl, e_0, e_1, e_2, e_3, e_4, e_5, e_6⟩ | ⟨rfl, e_0, e_1, e_2, e_3, e_4, e_5, e_6, e_7⟩
    · have c_2 : a0.toInt < 0 := e_0
      exact vx_out (fun x hx => (htab x hx).elim) hlocks hq9 hcv hcl (fun t ht hW => ⟨(), trivial, Or.inl ⟨rfl, c_2⟩, hS.F ht⟩) hS.2.2 (Nat.le_of_ble_eq_true rfl) (Nat.le_of_ble_eq_true rfl)
    · have c_3 : 0 ≤ a0.toInt := e_0
      have c_4 : 6 ≤ a0.toInt := e_1
      exact vx_out (fun x hx => (htab x hx).elim) hlocks hq9 hcv hcl (fun t ht hW => ⟨(), trivial, Or.inr (Or.inl ⟨rfl, c_3, c_4⟩), hS.F ht⟩) hS.2.2 (Nat.le_of_ble_eq_true rfl) (Nat.le_of_ble_eq_true rfl)
    · have c_5 : 0 ≤ a0.toInt := e_0
      have c_6 : a0.toInt < 6 := e_1
      have c_7 : a3.toInt < 0 := e_2
      exact vx_out (fun x hx => (htab x hx).elim) hlocks hq9 hcv hcl (fun t ht hW => ⟨(), trivial, Or.inr (Or.inr (Or.inl ⟨rfl, c_5, c_6, c_7⟩)), hS.F ht⟩) hS.2.2 (Nat.le_of_ble_eq_true rfl) (Nat.le_of_ble_eq_true rfl)
    · have c_8 : 0 ≤ a0.toInt := e_0
      have c_9 : a0.toInt < 6 := e_1
      have c_10 : 0 ≤ a3.toInt := e_2
      have c_11 : 6 ≤ a3.toInt := e_3
      exact vx_out (fun x hx => (htab x hx).elim) hlocks hq9 hcv hcl (fun t ht hW => ⟨(), trivial, Or.inr (Or.inr (Or.inr (Or.inl ⟨rfl, c_8, c_9, c_10, c_11⟩))), hS.F ht⟩) hS.2.2 (Nat.le_of_ble_eq_true rfl) (Nat.le_of_ble_eq_true rfl)
    · have c_12 : 0 ≤ a0.toInt := e_0
      have c_13 : a0.toInt < 6 := e_1
      have c_14 : 0 ≤ a3.toInt := e_2
      have c_15 : a3.toInt < 6 := e_3
      have c_16 : a1.toInt < 0 := e_4
      exact vx_out (fun x hx => (htab x hx).elim) hlocks hq9 hcv hcl (fun t ht hW => ⟨(), trivial, Or.inr (Or.inr (Or.inr (Or.inr (Or.inl ⟨rfl, c_12, c_13, c_14, c_15, c_16⟩)))), hS.F ht⟩) hS.2.2 (Nat.le_of_ble_eq_true rfl) (Nat.le_of_ble_eq_true rfl)
    · have c_17 : 0 ≤ a0.toInt := e_0
      have c_18 : a0.toInt < 6 := e_1
      have c_19 : 0 ≤ a3.toInt := e_2
      have c_20 : a3.toInt < 6 := e_3
      have c_21 : 0 ≤ a1.toInt := e_4
      have c_22 : 3 ≤ a1.toInt := e_5
      exact vx_out (fun x hx => (htab x hx).elim) hlocks hq9 hcv hcl (fun t ht hW => ⟨(), trivial, Or.inr (Or.inr (Or.inr (Or.inr (Or.inr (Or.inl ⟨rfl, c_17, c_18, c_19, c_20, c_21, c_22⟩))))), hS.F ht⟩) hS.2.2 (Nat.le_of_ble_eq_true rfl) (Nat.le_of_ble_eq_true rfl)
    · have c_23 : 0 ≤ a0.toInt := e_0
      have c_24 : a0.toInt < 6 := e_1
      have c_25 : 0 ≤ a3.toInt := e_2
      have c_26 : a3.toInt < 6 := e_3
      have c_27 : 0 ≤ a1.toInt := e_4
      have c_28 : a1.toInt < 3 := e_5
      have c_29 : a2.toInt < 0 := e_6
      exact vx_out (fun x hx => (htab x hx).elim) hlocks hq9 hcv hcl (fun t ht hW => ⟨(), trivial, Or.inr (Or.inr (Or.inr (Or.inr (Or.inr (Or.inr (Or.inl ⟨rfl, c_23, c_24, c_25, c_26, c_27, c_28, c_29⟩)))))), hS.F ht⟩) hS.2.2 (Nat.le_of_ble_eq_true rfl) (Nat.le_of_ble_eq_true rfl)
    · have c_30 : 0 ≤ a0.toInt := e_0
      have c_31 : a0.toInt < 6 := e_1
      have c_32 : 0 ≤ a3.toInt := e_2
      have c_33 : a3.toInt < 6 := e_3
      have c_34 : 0 ≤ a1.toInt := e_4
      have c_35 : a1.toInt < 3 := e_5
      have c_36 : 0 ≤ a2.toInt := e_6
      have c_37 : 3 ≤ a2.toInt := e_7
      exact vx_out (fun x hx => (htab x hx).elim) hlocks hq9 hcv hcl (fun t ht hW => ⟨(), trivial, Or.inr (Or.inr (Or.inr (Or.inr (Or.inr (Or.inr (Or.inr (Or.inl ⟨rfl, c_30, c_31, c_32, c_33, c_34, c_35, c_36, c_37⟩))))))), hS.F ht⟩) hS.2.2 (Nat.le_of_ble_eq_true rfl) (Nat.le_of_ble_eq_true rfl)
  · rcases hw with ⟨e_0, e_1, e_2, e_3, e_4, e_5, e_6, e_7⟩
    have c_38 : 0 ≤ a0.toInt := e_0
    have c_39 : a0.toInt < 6 := e_1
    have c_40 : 0 ≤ a3.toInt := e_2
    have c_41 : a3.toInt < 6 := e_3
    have c_42 : 0 ≤ a1.toInt := e_4
    have c_43 : a1.toInt < 3 := e_5
    have c_44 : 0 ≤ a2.toInt := e_6
    have c_45 : a2.toInt < 3 := e_7
    obtain ⟨hP1, hD1⟩ := hB
    rw [ht] at hP1
    obtain ⟨hP, hD⟩ := va_join (wr := [(x, .inr (9, [.ref st, .ref kp, .int 0, .ref bf, .int 0, .int (-1), .int (-1), .int 0, .ref o1, .ref o2, .ref o3, .ref o4, .ref o5, .ref o6])), (st, .inr (8, [.ref lt, .ref tb, .ref fl, .ref wt, .int 0, .null])), (fl, .inl (cZ, 6, .inl (fun _ => 0)))]) (w1 := []) hP hD [] [0, 1, 2] rfl rfl (by decide) (by decide) hk1 hFc hP1 hD1
    have hP : va_P D vwCl [(x, .inr (9, [.ref st, .ref kp, .int 0, .ref bf, .int 0, .int (-1), .int (-1), .int 0, .ref o1, .ref o2, .ref o3, .ref o4, .ref o5, .ref o6])), (st, .inr (8, [.ref lt, .ref tb, .ref fl, .ref wt, .int 0, .null])), (fl, .inl (cZ, 6, .inl (fun _ => 0)))] H_1 := hP
    have hD : va_D A [(x, .inr (9, [.ref st, .ref kp, .int 0, .ref bf, .int 0, .int (-1), .int (-1), .int 0, .ref o1, .ref o2, .ref o3, .ref o4, .ref o5, .ref o6])), (st, .inr (8, [.ref lt, .ref tb, .ref fl, .ref wt, .int 0, .null])), (fl, .inl (cZ, 6, .inl (fun _ => 0)))] := hD
    refine W.widen (k := 4) (n := 24) (Nat.le_of_ble_eq_true rfl) (Nat.le_of_ble_eq_true rfl) ?_
    refine lv_aload_n hx hb dX10_selectEqual_8 rfl (lv_at hl 0 rfl) ?_
    refine lv_iload_n hx hb dX10_selectEqual_9 rfl (lv_at hl 1 rfl) ?_
    have hPc := hP.sub (ws' := [(x, .inr (9, [.ref st, .ref kp, .int 0, .ref bf, .int 0, .int (-1), .int (-1), .int 0, .ref o1, .ref o2, .ref o3, .ref o4, .ref o5, .ref o6])), (st, .inr (8, [.ref lt, .ref tb, .ref fl, .ref wt, .int 0, .null])), (fl, .inl (cZ, 6, .inl (fun _ => 0)))]) [0, 1, 2] rfl
    have hDc := hD.sub (ws' := [(x, .inr (9, [.ref st, .ref kp, .int 0, .ref bf, .int 0, .int (-1), .int (-1), .int 0, .ref o1, .ref o2, .ref o3, .ref o4, .ref o5, .ref o6])), (st, .inr (8, [.ref lt, .ref tb, .ref fl, .ref wt, .int 0, .null])), (fl, .inl (cZ, 6, .inl (fun _ => 0)))]) [0, 1, 2] (by decide) rfl
    have hFc := va_free (wc := [(x, .inr (9, [.ref st, .ref kp, .int 0, .ref bf, .int 0, .int (-1), .int (-1), .int 0, .ref o1, .ref o2, .ref o3, .ref o4, .ref o5, .ref o6])), (st, .inr (8, [.ref lt, .ref tb, .ref fl, .ref wt, .int 0, .null])), (fl, .inl (cZ, 6, .inl (fun _ => 0)))]) hD hS hA [0, 1, 2] rfl
    refine vx_callq (vx_runV (As := [.int a0]) (rest := []) ⟨hx, hb, hml, hown, hts⟩ (k_X10_tableIn l htr D cI cJ cZ x st kp bf o1 o2 o3 o4 o5 o6 lt tb fl wt a0 H_1.size) (cwV 1 hts gk_X10_selectEqual_X10_tableIn rfl rfl rfl (by decide +kernel) ⟨Nat.le_of_ble_eq_true rfl, Nat.le_of_ble_eq_true rfl⟩) ⟨xPc_blind, va_recv hK hP (ci := 9) (q0 := 0) rfl rfl, xPc_pre hPc hK hDc hE hS hFc hV⟩ rfl rfl hl.1 rfl (lv_room (Nat.le_of_ble_eq_true rfl)) dX10_selectEqual_10 ⟨Nat.le_of_ble_eq_true rfl, Nat.le_of_ble_eq_true rfl⟩) hS (fun q _ h => hFc q h) hFc (fun q _ h => hFc q h) (fun E ce q9 u t H_46 locs ht hvm hpx hBX hz1 hk1 hS hq9 hcv hcl => ?_) (fun r u t H_46 locs ht hvm hw hB hz1 hk1 hS => ?_)
    · rcases hBX with ⟨rfl, e_0⟩ | ⟨rfl, e_0, e_1⟩ | ⟨rfl, e_0, e_1⟩
      · have c_47 : a0.toInt < 0 := e_0
        exfalso; omega
      · have c_48 : 0 ≤ a0.toInt := e_0
        have c_49 : 6 ≤ a0.toInt := e_1
        exfalso; omega
      · have c_50 : 0 ≤ a0.toInt := e_0
        have c_51 : a0.toInt < 6 := e_1
        exact vx_out (fun x hx => (htab x hx).elim) hlocks hq9 hcv hcl (fun t ht hW => ⟨(), trivial, Or.inr (Or.inr (Or.inr (Or.inr (Or.inr (Or.inr (Or.inr (Or.inr ⟨rfl, c_38, c_39, c_40, c_41, c_42, c_43, c_44, c_45, c_50, c_51⟩))))))), hS.F ht⟩) hS.2.2 (Nat.le_of_ble_eq_true rfl) (Nat.le_of_ble_eq_true rfl)
    · exact hw.elim
def wk_X10_selectLength : List Cond := .code yX10_selectLength cX10_selectLength 10 (some .int) :: (([.methodLink RX10 241 yX10_checkSelection, .static yX10_checkSelection, .initialized RX10, .code yX10_checkSelection cX10_checkSelection 4 none, .methodLink RX10 138 yX10_checkSlot, .static yX10_checkSlot, .code yX10_checkSlot cX10_checkSlot 1 none, .classLink RX10 91 iob, .initialized iob, .methodLink RX10 189 yX10_checkVariable, .static yX10_checkVariable, .code yX10_checkVariable cX10_checkVariable 1 none, .methodLink RX10 153 yX10_tableIn, .instanceMethod yX10_tableIn, .selects RX10 yX10_tableIn yX10_tableIn, .code yX10_tableIn cX10_tableIn 2 (some (.object "DocumentSpanner$SortedInts")), .fieldLink RX10 12 "DocumentSpanner" "state" "LDocumentSpanner$State;", .fieldLink RX10 96 "DocumentSpanner$State" "filled" "[Z", .classLink RX10 80 ise, .initialized ise] : List Cond) ++ wsX100 ++ wsX80 ++ (vx_atS RX10 84 ise ["java/lang/RuntimeException", "java/lang/Exception"]).filter goodWord ++ (vx_atS RX10 95 iob ["java/lang/RuntimeException", "java/lang/Exception"]).filter goodWord)
set_option maxRecDepth 20000 in
theorem ggk_X10_selectLength_X10_checkSelection : GoodIn wk_X10_selectLength wk_X10_checkSelection := goodIn_ca (goodIn_r _ [4, 5, 6, 3, 7, 8, 9, 10, 11, 12] (by decide +kernel) (by decide +kernel)) (goodIn_sub (fun _ h => List.mem_cons_of_mem _ (List.mem_append_right _ h)) (by decide +kernel))
set_option maxRecDepth 20000 in
theorem gk_X10_selectLength_X10_checkSelection : GoodIn wk_X10_selectLength (va_wsS RX10 241 yX10_checkSelection wk_X10_checkSelection) := goodIn_app (goodIn_r _ [1, 2, 3] (by decide +kernel) (by decide +kernel)) ggk_X10_selectLength_X10_checkSelection
set_option maxRecDepth 20000 in
theorem ggk_X10_selectLength_X10_tableIn : GoodIn wk_X10_selectLength wk_X10_tableIn := goodIn_ca (goodIn_ca (goodIn_ca (goodIn_ca (goodIn_r _ [16, 17, 18, 19, 20, 5, 6, 3, 7, 8, 9] (by decide +kernel) (by decide +kernel)) (goodIn_sub (fun _ h => List.mem_cons_of_mem _ (List.mem_append_left _ (List.mem_append_left _ (List.mem_append_left _ (List.mem_append_right _ h))))) (by decide +kernel))) (goodIn_sub (fun _ h => List.mem_cons_of_mem _ (List.mem_append_left _ (List.mem_append_left _ (List.mem_append_right _ h)))) (by decide +kernel))) (goodIn_sub (fun _ h => List.mem_cons_of_mem _ (List.mem_append_left _ (List.mem_append_right _ h))) (by decide +kernel))) (goodIn_sub (fun _ h => List.mem_cons_of_mem _ (List.mem_append_right _ h)) (by decide +kernel))
set_option maxRecDepth 20000 in
theorem gk_X10_selectLength_X10_tableIn : GoodIn wk_X10_selectLength (wsV RX10 153 RX10 yX10_tableIn wk_X10_tableIn) := goodIn_app (goodIn_r _ [13, 14, 15, 3] (by decide +kernel) (by decide +kernel)) ggk_X10_selectLength_X10_tableIn
set_option maxHeartbeats 4000000 in
set_option maxRecDepth 100000 in
theorem k_X10_selectLength (l : Launch) (htr : l.stackTraces = false) (D : va_G) (cI cJ cZ : ClassId) (x : Nat) (st : Nat) (kp : Nat) (bf : Nat) (o1 : Nat) (o2 : Nat) (o3 : Nat) (o4 : Nat) (o5 : Nat) (o6 : Nat) (lt : Nat) (tb : Nat) (fl : Nat) (wt : Nat) (a0 : Int32) (a1 : Int32) (a2 : Int32) (a3 : Int32) (a4 : Int32) (sz : Nat) : vx_Met l yX10_selectLength wk_X10_selectLength ({ frames := 8, cells := 6, slots := 36, locals := 125 }) (xPc D cI cJ cZ [.ref x, .int a0, .int a1, .int a2, .int a3, .int a4] [(x, .inr (9, [.ref st, .ref kp, .int 0, .ref bf, .int 0, .int (-1), .int (-1), .int 0, .ref o1, .ref o2, .ref o3, .ref o4, .ref o5, .ref o6])), (st, .inr (8, [.ref lt, .ref tb, .ref fl, .ref wt, .int 0, .null])), (fl, .inl (cZ, 6, .inl (fun _ => 0)))] sz) (va_Qi (fun (r : Int32) (u : Unit) => False) (fun (u : Unit) (t : State) => va_P D vwCl ([] : va_W) t.heap ∧ va_D (va_A [(x, .inr (9, [.ref st, .ref kp, .int 0, .ref bf, .int 0, .int (-1), .int (-1), .int 0, .ref o1, .ref o2, .ref o3, .ref o4, .ref o5, .ref o6])), (st, .inr (8, [.ref lt, .ref tb, .ref fl, .ref wt, .int 0, .null])), (fl, .inl (cZ, 6, .inl (fun _ => 0)))] sz) ([] : va_W)) (va_A [(x, .inr (9, [.ref st, .ref kp, .int 0, .ref bf, .int 0, .int (-1), .int (-1), .int 0, .ref o1, .ref o2, .ref o3, .ref o4, .ref o5, .ref o6])), (st, .inr (8, [.ref lt, .ref tb, .ref fl, .ref wt, .int 0, .null])), (fl, .inl (cZ, 6, .inl (fun _ => 0)))] sz)) (vx_X (fun _ : Unit => True) (fun (E : String) (_ : Unit) (_ : State) => (E = iob ∧ a0.toInt < 0) ∨ (E = iob ∧ 0 ≤ a0.toInt ∧ 6 ≤ a0.toInt) ∨ (E = iob ∧ 0 ≤ a0.toInt ∧ a0.toInt < 6 ∧ a4.toInt < 0) ∨ (E = iob ∧ 0 ≤ a0.toInt ∧ a0.toInt < 6 ∧ 0 ≤ a4.toInt ∧ 6 ≤ a4.toInt) ∨ (E = iob ∧ 0 ≤ a0.toInt ∧ a0.toInt < 6 ∧ 0 ≤ a4.toInt ∧ a4.toInt < 6 ∧ a1.toInt < 0) ∨ (E = iob ∧ 0 ≤ a0.toInt ∧ a0.toInt < 6 ∧ 0 ≤ a4.toInt ∧ a4.toInt < 6 ∧ 0 ≤ a1.toInt ∧ 3 ≤ a1.toInt) ∨ (E = ise ∧ 0 ≤ a0.toInt ∧ a0.toInt < 6 ∧ 0 ≤ a4.toInt ∧ a4.toInt < 6 ∧ 0 ≤ a1.toInt ∧ a1.toInt < 3 ∧ 0 ≤ a1.toInt ∧ a1.toInt < 3 ∧ 0 ≤ a0.toInt ∧ a0.toInt < 6)) (va_A [(x, .inr (9, [.ref st, .ref kp, .int 0, .ref bf, .int 0, .int (-1), .int (-1), .int 0, .ref o1, .ref o2, .ref o3, .ref o4, .ref o5, .ref o6])), (st, .inr (8, [.ref lt, .ref tb, .ref fl, .ref wt, .int 0, .null])), (fl, .inl (cZ, 6, .inl (fun _ => 0)))] sz)) 6 36 (va_A [(x, .inr (9, [.ref st, .ref kp, .int 0, .ref bf, .int 0, .int (-1), .int (-1), .int 0, .ref o1, .ref o2, .ref o3, .ref o4, .ref o5, .ref o6])), (st, .inr (8, [.ref lt, .ref tb, .ref fl, .ref wt, .int 0, .null])), (fl, .inl (cZ, 6, .inl (fun _ => 0)))] sz) := by
  refine vx_ofW (cc := cX10_selectLength) (maxL := 10) (ret := (some .int)) (by decide) rfl ?_
  intro p e s m args below meth c s₁ B hml htab hv
  obtain ⟨rfl, hsz, hP, hK, hD0, hE, hV⟩ := hv
  have hx := B.exec
  have hb := B.bytes
  have hr := B.returns
  have hts := atoms_spec (ws := wk_X10_selectLength) B.pre
  have hown : s.vm.findClass RX10 = some m.cls := findClass_of_methodNamed B.named
  have hlocks := B.notSynchronized
  subst hsz
  have hD := hD0.self (sz := s.heap.size)
  generalize hAe : va_A [(x, .inr (9, [.ref st, .ref kp, .int 0, .ref bf, .int 0, .int (-1), .int (-1), .int 0, .ref o1, .ref o2, .ref o3, .ref o4, .ref o5, .ref o6])), (st, .inr (8, [.ref lt, .ref tb, .ref fl, .ref wt, .int 0, .null])), (fl, .inl (cZ, 6, .inl (fun _ => 0)))] s.heap.size = A at hD hE ⊢
  have hA : ∀ q : Nat, s.heap.size ≤ q → A q := fun q h => by rw [← hAe]; exact Or.inr h
  have hS : va_S A s.heap s.heap [] := va_S.rf
  have hP : va_P D vwCl [(x, .inr (9, [.ref st, .ref kp, .int 0, .ref bf, .int 0, .int (-1), .int (-1), .int 0, .ref o1, .ref o2, .ref o3, .ref o4, .ref o5, .ref o6])), (st, .inr (8, [.ref lt, .ref tb, .ref fl, .ref wt, .int 0, .null])), (fl, .inl (cZ, 6, .inl (fun _ => 0)))] s.heap := hP
  have hl := lv_entry ([.ref x, .int a0, .int a1, .int a2, .int a3, .int a4]) (n := 10) (Nat.le_of_ble_eq_true rfl)
  rw [lg_entry_eq]
  generalize (lg_sl ([.ref x, .int a0, .int a1, .int a2, .int a3, .int a4]) ++ List.replicate (10 - (lg_sl ([.ref x, .int a0, .int a1, .int a2, .int a3, .int a4])).length) Slot.unset).toArray = ls at hl ⊢
  have hl : lv_has ls 10 [(0, .ref x), (1, .int a0), (2, .int a1), (3, .int a2), (4, .int a3), (5, .int a4)] := hl
  refine lv_iload_n hx hb dX10_selectLength_0 rfl (lv_at hl 1 rfl) ?_
  refine lv_iload_n hx hb dX10_selectLength_1 rfl (lv_at hl 2 rfl) ?_
  refine lv_iload_n hx hb dX10_selectLength_2 rfl (lv_at hl 2 rfl) ?_
  refine lv_iload hx hb dX10_selectLength_3 (lv_at hl 5 rfl) ?_
  have hPc := hP.sub (ws' := []) [] rfl
  have hDc := hD.sub (ws' := []) [] (by decide) rfl
  have hFc := va_free (wc := []) hD hS hA [] rfl
  refine vx_callv (vx_runS (As := [.int a0, .int a1, .int a1, .int a4]) (rest := []) ⟨hx, hb, hml, hown, hts⟩ (k_X10_checkSelection l htr D cI cJ cZ a0 a1 a1 a4 s.heap.size) (va_cwS 4 hts gk_X10_selectLength_X10_checkSelection rfl rfl rfl (by decide +kernel) ⟨Nat.le_of_ble_eq_true rfl, Nat.le_of_ble_eq_true rfl⟩) ⟨xPc_blind, xPc_pre hPc hK hDc hE hS hFc hV⟩ rfl rfl hl.1 rfl (lv_room (Nat.le_of_ble_eq_true rfl)) dX10_selectLength_5 ⟨Nat.le_of_ble_eq_true rfl, Nat.le_of_ble_eq_true rfl⟩) hS (fun q _ h => hFc q h) hFc (fun q _ h => hFc q h) (fun E ce q9 u t H_1 locs ht hvm hpx hBX hz1 hk1 hS hq9 hcv hcl => ?_) (fun u t H_1 locs ht hvm hw hB hz1 hk1 hS => ?_)
  · rcases hBX with ⟨rfl, e_0⟩ | ⟨rfl, e_0, e_1⟩ | ⟨rfl, e_0, e_1, e_2⟩ | ⟨rfl, e_0, e_1, e_2, e_3⟩ | ⟨rfl, e_0, e_1, e_2, e_3, e_4⟩ | ⟨rfl, e_0, e_1, e_2, e_3, e_4, e_5⟩ | ⟨rfl, e_0, e_1, e_2, e_3, e_4, e_5, e_6⟩ | ⟨rfl, e_0, e_1, e_2, e_3, e_4, e_5, e_6, e_7⟩
    · have c_2 : a0.toInt < 0 := e_0
      exact vx_out (fun x hx => (htab x hx).elim) hlocks hq9 hcv hcl (fun t ht hW => ⟨(), trivial, Or.inl ⟨rfl, c_2⟩, hS.F ht⟩) hS.2.2 (Nat.le_of_ble_eq_true rfl) (Nat.le_of_ble_eq_true rfl)
    · have c_3 : 0 ≤ a0.toInt := e_0
      have c_4 : 6 ≤ a0.toInt := e_1
      exact vx_out (fun x hx => (htab x hx).elim) hlocks hq9 hcv hcl (fun t ht hW => ⟨(), trivial, Or.inr (Or.inl ⟨rfl, c_3, c_4⟩), hS.F ht⟩) hS.2.2 (Nat.le_of_ble_eq_true rfl) (Nat.le_of_ble_eq_true rfl)
    · have c_5 : 0 ≤ a0.toInt := e_0
      have c_6 : a0.toInt < 6 := e_1
      have c_7 : a4.toInt < 0 := e_2
      exact vx_out (fun x hx => (htab x hx).elim) hlocks hq9 hcv hcl (fun t ht hW => ⟨(), trivial, Or.inr (Or.inr (Or.inl ⟨rfl, c_5, c_6, c_7⟩)), hS.F ht⟩) hS.2.2 (Nat.le_of_ble_eq_true rfl) (Nat.le_of_ble_eq_true rfl)
    · have c_8 : 0 ≤ a0.toInt := e_0
      have c_9 : a0.toInt < 6 := e_1
      have c_10 : 0 ≤ a4.toInt := e_2
      have c_11 : 6 ≤ a4.toInt := e_3
      exact vx_out (fun x hx => (htab x hx).elim) hlocks hq9 hcv hcl (fun t ht hW => ⟨(), trivial, Or.inr (Or.inr (Or.inr (Or.inl ⟨rfl, c_8, c_9, c_10, c_11⟩))), hS.F ht⟩) hS.2.2 (Nat.le_of_ble_eq_true rfl) (Nat.le_of_ble_eq_true rfl)
    · have c_12 : 0 ≤ a0.toInt := e_0
      have c_13 : a0.toInt < 6 := e_1
      have c_14 : 0 ≤ a4.toInt := e_2
      have c_15 : a4.toInt < 6 := e_3
      have c_16 : a1.toInt < 0 := e_4
      exact vx_out (fun x hx => (htab x hx).elim) hlocks hq9 hcv hcl (fun t ht hW => ⟨(), trivial, Or.inr (Or.inr (Or.inr (Or.inr (Or.inl ⟨rfl, c_12, c_13, c_14, c_15, c_16⟩)))), hS.F ht⟩) hS.2.2 (Nat.le_of_ble_eq_true rfl) (Nat.le_of_ble_eq_true rfl)
    · have c_17 : 0 ≤ a0.toInt := e_0
      have c_18 : a0.toInt < 6 := e_1
      have c_19 : 0 ≤ a4.toInt := e_2
      have c_20 : a4.toInt < 6 := e_3
      have c_21 : 0 ≤ a1.toInt := e_4
      have c_22 : 3 ≤ a1.toInt := e_5
      exact vx_out (fun x hx => (htab x hx).elim) hlocks hq9 hcv hcl (fun t ht hW => ⟨(), trivial, Or.inr (Or.inr (Or.inr (Or.inr (Or.inr (Or.inl ⟨rfl, c_17, c_18, c_19, c_20, c_21, c_22⟩))))), hS.F ht⟩) hS.2.2 (Nat.le_of_ble_eq_true rfl) (Nat.le_of_ble_eq_true rfl)
    · have c_23 : 0 ≤ a0.toInt := e_0
      have c_24 : a0.toInt < 6 := e_1
      have c_25 : 0 ≤ a4.toInt := e_2
      have c_26 : a4.toInt < 6 := e_3
      have c_27 : 0 ≤ a1.toInt := e_4
      have c_28 : a1.toInt < 3 := e_5
      have c_29 : a1.toInt < 0 := e_6
      exfalso; omega
    · have c_30 : 0 ≤ a0.toInt := e_0
      have c_31 : a0.toInt < 6 := e_1
      have c_32 : 0 ≤ a4.toInt := e_2
      have c_33 : a4.toInt < 6 := e_3
      have c_34 : 0 ≤ a1.toInt := e_4
      have c_35 : a1.toInt < 3 := e_5
      have c_36 : 0 ≤ a1.toInt := e_6
      have c_37 : 3 ≤ a1.toInt := e_7
      exfalso; omega
  · rcases hw with ⟨e_0, e_1, e_2, e_3, e_4, e_5, e_6, e_7⟩
    have c_38 : 0 ≤ a0.toInt := e_0
    have c_39 : a0.toInt < 6 := e_1
    have c_40 : 0 ≤ a4.toInt := e_2
    have c_41 : a4.toInt < 6 := e_3
    have c_42 : 0 ≤ a1.toInt := e_4
    have c_43 : a1.toInt < 3 := e_5
    have c_44 : 0 ≤ a1.toInt := e_6
    have c_45 : a1.toInt < 3 := e_7
    obtain ⟨hP1, hD1⟩ := hB
    rw [ht] at hP1
    obtain ⟨hP, hD⟩ := va_join (wr := [(x, .inr (9, [.ref st, .ref kp, .int 0, .ref bf, .int 0, .int (-1), .int (-1), .int 0, .ref o1, .ref o2, .ref o3, .ref o4, .ref o5, .ref o6])), (st, .inr (8, [.ref lt, .ref tb, .ref fl, .ref wt, .int 0, .null])), (fl, .inl (cZ, 6, .inl (fun _ => 0)))]) (w1 := []) hP hD [] [0, 1, 2] rfl rfl (by decide) (by decide) hk1 hFc hP1 hD1
    have hP : va_P D vwCl [(x, .inr (9, [.ref st, .ref kp, .int 0, .ref bf, .int 0, .int (-1), .int (-1), .int 0, .ref o1, .ref o2, .ref o3, .ref o4, .ref o5, .ref o6])), (st, .inr (8, [.ref lt, .ref tb, .ref fl, .ref wt, .int 0, .null])), (fl, .inl (cZ, 6, .inl (fun _ => 0)))] H_1 := hP
    have hD : va_D A [(x, .inr (9, [.ref st, .ref kp, .int 0, .ref bf, .int 0, .int (-1), .int (-1), .int 0, .ref o1, .ref o2, .ref o3, .ref o4, .ref o5, .ref o6])), (st, .inr (8, [.ref lt, .ref tb, .ref fl, .ref wt, .int 0, .null])), (fl, .inl (cZ, 6, .inl (fun _ => 0)))] := hD
    refine W.widen (k := 4) (n := 24) (Nat.le_of_ble_eq_true rfl) (Nat.le_of_ble_eq_true rfl) ?_
    refine lv_aload_n hx hb dX10_selectLength_8 rfl (lv_at hl 0 rfl) ?_
    refine lv_iload_n hx hb dX10_selectLength_9 rfl (lv_at hl 1 rfl) ?_
    have hPc := hP.sub (ws' := [(x, .inr (9, [.ref st, .ref kp, .int 0, .ref bf, .int 0, .int (-1), .int (-1), .int 0, .ref o1, .ref o2, .ref o3, .ref o4, .ref o5, .ref o6])), (st, .inr (8, [.ref lt, .ref tb, .ref fl, .ref wt, .int 0, .null])), (fl, .inl (cZ, 6, .inl (fun _ => 0)))]) [0, 1, 2] rfl
    have hDc := hD.sub (ws' := [(x, .inr (9, [.ref st, .ref kp, .int 0, .ref bf, .int 0, .int (-1), .int (-1), .int 0, .ref o1, .ref o2, .ref o3, .ref o4, .ref o5, .ref o6])), (st, .inr (8, [.ref lt, .ref tb, .ref fl, .ref wt, .int 0, .null])), (fl, .inl (cZ, 6, .inl (fun _ => 0)))]) [0, 1, 2] (by decide) rfl
    have hFc := va_free (wc := [(x, .inr (9, [.ref st, .ref kp, .int 0, .ref bf, .int 0, .int (-1), .int (-1), .int 0, .ref o1, .ref o2, .ref o3, .ref o4, .ref o5, .ref o6])), (st, .inr (8, [.ref lt, .ref tb, .ref fl, .ref wt, .int 0, .null])), (fl, .inl (cZ, 6, .inl (fun _ => 0)))]) hD hS hA [0, 1, 2] rfl
    refine vx_callq (vx_runV (As := [.int a0]) (rest := []) ⟨hx, hb, hml, hown, hts⟩ (k_X10_tableIn l htr D cI cJ cZ x st kp bf o1 o2 o3 o4 o5 o6 lt tb fl wt a0 H_1.size) (cwV 1 hts gk_X10_selectLength_X10_tableIn rfl rfl rfl (by decide +kernel) ⟨Nat.le_of_ble_eq_true rfl, Nat.le_of_ble_eq_true rfl⟩) ⟨xPc_blind, va_recv hK hP (ci := 9) (q0 := 0) rfl rfl, xPc_pre hPc hK hDc hE hS hFc hV⟩ rfl rfl hl.1 rfl (lv_room (Nat.le_of_ble_eq_true rfl)) dX10_selectLength_10 ⟨Nat.le_of_ble_eq_true rfl, Nat.le_of_ble_eq_true rfl⟩) hS (fun q _ h => hFc q h) hFc (fun q _ h => hFc q h) (fun E ce q9 u t H_46 locs ht hvm hpx hBX hz1 hk1 hS hq9 hcv hcl => ?_) (fun r u t H_46 locs ht hvm hw hB hz1 hk1 hS => ?_)
    · rcases hBX with ⟨rfl, e_0⟩ | ⟨rfl, e_0, e_1⟩ | ⟨rfl, e_0, e_1⟩
      · have c_47 : a0.toInt < 0 := e_0
        exfalso; omega
      · have c_48 : 0 ≤ a0.toInt := e_0
        have c_49 : 6 ≤ a0.toInt := e_1
        exfalso; omega
      · have c_50 : 0 ≤ a0.toInt := e_0
        have c_51 : a0.toInt < 6 := e_1
        exact vx_out (fun x hx => (htab x hx).elim) hlocks hq9 hcv hcl (fun t ht hW => ⟨(), trivial, Or.inr (Or.inr (Or.inr (Or.inr (Or.inr (Or.inr ⟨rfl, c_38, c_39, c_40, c_41, c_42, c_43, c_44, c_45, c_50, c_51⟩))))), hS.F ht⟩) hS.2.2 (Nat.le_of_ble_eq_true rfl) (Nat.le_of_ble_eq_true rfl)
    · exact hw.elim
def wk_X10_selectRelation : List Cond := .code yX10_selectRelation cX10_selectRelation 9 (some .int) :: (([.classLink RX10 70 iae, .initialized iae, .methodLink RX10 241 yX10_checkSelection, .static yX10_checkSelection, .initialized RX10, .code yX10_checkSelection cX10_checkSelection 4 none, .methodLink RX10 138 yX10_checkSlot, .static yX10_checkSlot, .code yX10_checkSlot cX10_checkSlot 1 none, .classLink RX10 91 iob, .initialized iob, .methodLink RX10 189 yX10_checkVariable, .static yX10_checkVariable, .code yX10_checkVariable cX10_checkVariable 1 none, .methodLink RX10 153 yX10_tableIn, .instanceMethod yX10_tableIn, .selects RX10 yX10_tableIn yX10_tableIn, .code yX10_tableIn cX10_tableIn 2 (some (.object "DocumentSpanner$SortedInts")), .fieldLink RX10 12 "DocumentSpanner" "state" "LDocumentSpanner$State;", .fieldLink RX10 96 "DocumentSpanner$State" "filled" "[Z", .classLink RX10 80 ise, .initialized ise] : List Cond) ++ wsX100 ++ wsX80 ++ (vx_atS RX10 74 iae ["java/lang/RuntimeException", "java/lang/Exception"]).filter goodWord ++ (vx_atS RX10 84 ise ["java/lang/RuntimeException", "java/lang/Exception"]).filter goodWord ++ (vx_atS RX10 95 iob ["java/lang/RuntimeException", "java/lang/Exception"]).filter goodWord)
set_option maxRecDepth 20000 in
theorem ggk_X10_selectRelation_X10_checkSelection : GoodIn wk_X10_selectRelation wk_X10_checkSelection := goodIn_ca (goodIn_r _ [6, 7, 8, 5, 9, 10, 11, 12, 13, 14] (by decide +kernel) (by decide +kernel)) (goodIn_sub (fun _ h => List.mem_cons_of_mem _ (List.mem_append_right _ h)) (by decide +kernel))
set_option maxRecDepth 20000 in
theorem gk_X10_selectRelation_X10_checkSelection : GoodIn wk_X10_selectRelation (va_wsS RX10 241 yX10_checkSelection wk_X10_checkSelection) := goodIn_app (goodIn_r _ [3, 4, 5] (by decide +kernel) (by decide +kernel)) ggk_X10_selectRelation_X10_checkSelection
set_option maxRecDepth 20000 in
theorem ggk_X10_selectRelation_X10_tableIn : GoodIn wk_X10_selectRelation wk_X10_tableIn := goodIn_ca (goodIn_ca (goodIn_ca (goodIn_ca (goodIn_r _ [18, 19, 20, 21, 22, 7, 8, 5, 9, 10, 11] (by decide +kernel) (by decide +kernel)) (goodIn_sub (fun _ h => List.mem_cons_of_mem _ (List.mem_append_left _ (List.mem_append_left _ (List.mem_append_left _ (List.mem_append_left _ (List.mem_append_right _ h)))))) (by decide +kernel))) (goodIn_sub (fun _ h => List.mem_cons_of_mem _ (List.mem_append_left _ (List.mem_append_left _ (List.mem_append_left _ (List.mem_append_right _ h))))) (by decide +kernel))) (goodIn_sub (fun _ h => List.mem_cons_of_mem _ (List.mem_append_left _ (List.mem_append_right _ h))) (by decide +kernel))) (goodIn_sub (fun _ h => List.mem_cons_of_mem _ (List.mem_append_right _ h)) (by decide +kernel))
set_option maxRecDepth 20000 in
theorem gk_X10_selectRelation_X10_tableIn : GoodIn wk_X10_selectRelation (wsV RX10 153 RX10 yX10_tableIn wk_X10_tableIn) := goodIn_app (goodIn_r _ [15, 16, 17, 5] (by decide +kernel) (by decide +kernel)) ggk_X10_selectRelation_X10_tableIn
set_option maxHeartbeats 4000000 in
set_option maxRecDepth 100000 in
theorem k_X10_selectRelation (l : Launch) (htr : l.stackTraces = false) (D : va_G) (cI cJ cZ : ClassId) (x : Nat) (st : Nat) (kp : Nat) (bf : Nat) (o1 : Nat) (o2 : Nat) (o3 : Nat) (o4 : Nat) (o5 : Nat) (o6 : Nat) (lt : Nat) (tb : Nat) (fl : Nat) (wt : Nat) (a0 : Int32) (a1 : Int32) (a2 : Int32) (a3 : Int32) (a4 : Int32) (sz : Nat) : vx_Met l yX10_selectRelation wk_X10_selectRelation ({ frames := 8, cells := 6, slots := 36, locals := 125 }) (xPc D cI cJ cZ [.ref x, .int a0, .int a1, .int a2, .int a3, .int a4] [(x, .inr (9, [.ref st, .ref kp, .int 0, .ref bf, .int 0, .int (-1), .int (-1), .int 0, .ref o1, .ref o2, .ref o3, .ref o4, .ref o5, .ref o6])), (st, .inr (8, [.ref lt, .ref tb, .ref fl, .ref wt, .int 0, .null])), (fl, .inl (cZ, 6, .inl (fun _ => 0)))] sz) (va_Qi (fun (r : Int32) (u : Unit) => False) (fun (u : Unit) (t : State) => va_P D vwCl ([] : va_W) t.heap ∧ va_D (va_A [(x, .inr (9, [.ref st, .ref kp, .int 0, .ref bf, .int 0, .int (-1), .int (-1), .int 0, .ref o1, .ref o2, .ref o3, .ref o4, .ref o5, .ref o6])), (st, .inr (8, [.ref lt, .ref tb, .ref fl, .ref wt, .int 0, .null])), (fl, .inl (cZ, 6, .inl (fun _ => 0)))] sz) ([] : va_W)) (va_A [(x, .inr (9, [.ref st, .ref kp, .int 0, .ref bf, .int 0, .int (-1), .int (-1), .int 0, .ref o1, .ref o2, .ref o3, .ref o4, .ref o5, .ref o6])), (st, .inr (8, [.ref lt, .ref tb, .ref fl, .ref wt, .int 0, .null])), (fl, .inl (cZ, 6, .inl (fun _ => 0)))] sz)) (vx_X (fun _ : Unit => True) (fun (E : String) (_ : Unit) (_ : State) => (E = iob ∧ a0.toInt < 0) ∨ (E = iob ∧ 0 ≤ a0.toInt ∧ 6 ≤ a0.toInt) ∨ (E = iob ∧ 0 ≤ a0.toInt ∧ a0.toInt < 6 ∧ a4.toInt < 0) ∨ (E = iob ∧ 0 ≤ a0.toInt ∧ a0.toInt < 6 ∧ 0 ≤ a4.toInt ∧ 6 ≤ a4.toInt) ∨ (E = iob ∧ 0 ≤ a0.toInt ∧ a0.toInt < 6 ∧ 0 ≤ a4.toInt ∧ a4.toInt < 6 ∧ a1.toInt < 0) ∨ (E = iob ∧ 0 ≤ a0.toInt ∧ a0.toInt < 6 ∧ 0 ≤ a4.toInt ∧ a4.toInt < 6 ∧ 0 ≤ a1.toInt ∧ 3 ≤ a1.toInt) ∨ (E = iob ∧ 0 ≤ a0.toInt ∧ a0.toInt < 6 ∧ 0 ≤ a4.toInt ∧ a4.toInt < 6 ∧ 0 ≤ a1.toInt ∧ a1.toInt < 3 ∧ a2.toInt < 0) ∨ (E = iob ∧ 0 ≤ a0.toInt ∧ a0.toInt < 6 ∧ 0 ≤ a4.toInt ∧ a4.toInt < 6 ∧ 0 ≤ a1.toInt ∧ a1.toInt < 3 ∧ 0 ≤ a2.toInt ∧ 3 ≤ a2.toInt) ∨ (E = iae ∧ 0 ≤ a0.toInt ∧ a0.toInt < 6 ∧ 0 ≤ a4.toInt ∧ a4.toInt < 6 ∧ 0 ≤ a1.toInt ∧ a1.toInt < 3 ∧ 0 ≤ a2.toInt ∧ a2.toInt < 3 ∧ a3.toInt < 0) ∨ (E = ise ∧ 0 ≤ a0.toInt ∧ a0.toInt < 6 ∧ 0 ≤ a4.toInt ∧ a4.toInt < 6 ∧ 0 ≤ a1.toInt ∧ a1.toInt < 3 ∧ 0 ≤ a2.toInt ∧ a2.toInt < 3 ∧ 0 ≤ a3.toInt ∧ a3.toInt < 4 ∧ 0 ≤ a0.toInt ∧ a0.toInt < 6) ∨ (E = iae ∧ 0 ≤ a0.toInt ∧ a0.toInt < 6 ∧ 0 ≤ a4.toInt ∧ a4.toInt < 6 ∧ 0 ≤ a1.toInt ∧ a1.toInt < 3 ∧ 0 ≤ a2.toInt ∧ a2.toInt < 3 ∧ 0 ≤ a3.toInt ∧ 4 ≤ a3.toInt)) (va_A [(x, .inr (9, [.ref st, .ref kp, .int 0, .ref bf, .int 0, .int (-1), .int (-1), .int 0, .ref o1, .ref o2, .ref o3, .ref o4, .ref o5, .ref o6])), (st, .inr (8, [.ref lt, .ref tb, .ref fl, .ref wt, .int 0, .null])), (fl, .inl (cZ, 6, .inl (fun _ => 0)))] sz)) 6 36 (va_A [(x, .inr (9, [.ref st, .ref kp, .int 0, .ref bf, .int 0, .int (-1), .int (-1), .int 0, .ref o1, .ref o2, .ref o3, .ref o4, .ref o5, .ref o6])), (st, .inr (8, [.ref lt, .ref tb, .ref fl, .ref wt, .int 0, .null])), (fl, .inl (cZ, 6, .inl (fun _ => 0)))] sz) := by
  refine vx_ofW (cc := cX10_selectRelation) (maxL := 9) (ret := (some .int)) (by decide) rfl ?_
  intro p e s m args below meth c s₁ B hml htab hv
  obtain ⟨rfl, hsz, hP, hK, hD0, hE, hV⟩ := hv
  have hx := B.exec
  have hb := B.bytes
  have hr := B.returns
  have hts := atoms_spec (ws := wk_X10_selectRelation) B.pre
  have hown : s.vm.findClass RX10 = some m.cls := findClass_of_methodNamed B.named
  have hlocks := B.notSynchronized
  have w_1 := hts (.classLink RX10 70 iae) (List.mem_of_getElem? (i := 1) rfl)
  have w_2 := hts (.initialized iae) (List.mem_of_getElem? (i := 2) rfl)
  have w_3 := xat_74 (fun w h => hts w (List.mem_cons_of_mem _ (List.mem_append_left _ (List.mem_append_left _ (List.mem_append_right _ h))))) hV
  subst hsz
  have hD := hD0.self (sz := s.heap.size)
  generalize hAe : va_A [(x, .inr (9, [.ref st, .ref kp, .int 0, .ref bf, .int 0, .int (-1), .int (-1), .int 0, .ref o1, .ref o2, .ref o3, .ref o4, .ref o5, .ref o6])), (st, .inr (8, [.ref lt, .ref tb, .ref fl, .ref wt, .int 0, .null])), (fl, .inl (cZ, 6, .inl (fun _ => 0)))] s.heap.size = A at hD hE ⊢
  have hA : ∀ q : Nat, s.heap.size ≤ q → A q := fun q h => by rw [← hAe]; exact Or.inr h
  have hS : va_S A s.heap s.heap [] := va_S.rf
  have hP : va_P D vwCl [(x, .inr (9, [.ref st, .ref kp, .int 0, .ref bf, .int 0, .int (-1), .int (-1), .int 0, .ref o1, .ref o2, .ref o3, .ref o4, .ref o5, .ref o6])), (st, .inr (8, [.ref lt, .ref tb, .ref fl, .ref wt, .int 0, .null])), (fl, .inl (cZ, 6, .inl (fun _ => 0)))] s.heap := hP
  have hl := lv_entry ([.ref x, .int a0, .int a1, .int a2, .int a3, .int a4]) (n := 9) (Nat.le_of_ble_eq_true rfl)
  rw [lg_entry_eq]
  generalize (lg_sl ([.ref x, .int a0, .int a1, .int a2, .int a3, .int a4]) ++ List.replicate (9 - (lg_sl ([.ref x, .int a0, .int a1, .int a2, .int a3, .int a4])).length) Slot.unset).toArray = ls at hl ⊢
  have hl : lv_has ls 9 [(0, .ref x), (1, .int a0), (2, .int a1), (3, .int a2), (4, .int a3), (5, .int a4)] := hl
  refine lv_iload_n hx hb dX10_selectRelation_0 rfl (lv_at hl 1 rfl) ?_
  refine lv_iload_n hx hb dX10_selectRelation_1 rfl (lv_at hl 2 rfl) ?_
  refine lv_iload_n hx hb dX10_selectRelation_2 rfl (lv_at hl 3 rfl) ?_
  refine lv_iload hx hb dX10_selectRelation_3 (lv_at hl 5 rfl) ?_
  have hPc := hP.sub (ws' := []) [] rfl
  have hDc := hD.sub (ws' := []) [] (by decide) rfl
  have hFc := va_free (wc := []) hD hS hA [] rfl
  refine vx_callv (vx_runS (As := [.int a0, .int a1, .int a2, .int a4]) (rest := []) ⟨hx, hb, hml, hown, hts⟩ (k_X10_checkSelection l htr D cI cJ cZ a0 a1 a2 a4 s.heap.size) (va_cwS 4 hts gk_X10_selectRelation_X10_checkSelection rfl rfl rfl (by decide +kernel) ⟨Nat.le_of_ble_eq_true rfl, Nat.le_of_ble_eq_true rfl⟩) ⟨xPc_blind, xPc_pre hPc hK hDc hE hS hFc hV⟩ rfl rfl hl.1 rfl (lv_room (Nat.le_of_ble_eq_true rfl)) dX10_selectRelation_5 ⟨Nat.le_of_ble_eq_true rfl, Nat.le_of_ble_eq_true rfl⟩) hS (fun q _ h => hFc q h) hFc (fun q _ h => hFc q h) (fun E ce q9 u t H_1 locs ht hvm hpx hBX hz1 hk1 hS hq9 hcv hcl => ?_) (fun u t H_1 locs ht hvm hw hB hz1 hk1 hS => ?_)
  · rcases hBX with ⟨rfl, e_0⟩ | ⟨rfl, e_0, e_1⟩ | ⟨rfl, e_0, e_1, e_2⟩ | ⟨rfl, e_0, e_1, e_2, e_3⟩ | ⟨rfl, e_0, e_1, e_2, e_3, e_4⟩ | ⟨rfl, e_0, e_1, e_2, e_3, e_4, e_5⟩ | ⟨rfl, e_0, e_1, e_2, e_3, e_4, e_5, e_6⟩ | ⟨rfl, e_0, e_1, e_2, e_3, e_4, e_5, e_6, e_7⟩
    · have c_2 : a0.toInt < 0 := e_0
      exact vx_out (fun x hx => (htab x hx).elim) hlocks hq9 hcv hcl (fun t ht hW => ⟨(), trivial, Or.inl ⟨rfl, c_2⟩, hS.F ht⟩) hS.2.2 (Nat.le_of_ble_eq_true rfl) (Nat.le_of_ble_eq_true rfl)
    · have c_3 : 0 ≤ a0.toInt := e_0
      have c_4 : 6 ≤ a0.toInt := e_1
      exact vx_out (fun x hx => (htab x hx).elim) hlocks hq9 hcv hcl (fun t ht hW => ⟨(), trivial, Or.inr (Or.inl ⟨rfl, c_3, c_4⟩), hS.F ht⟩) hS.2.2 (Nat.le_of_ble_eq_true rfl) (Nat.le_of_ble_eq_true rfl)
    · have c_5 : 0 ≤ a0.toInt := e_0
      have c_6 : a0.toInt < 6 := e_1
      have c_7 : a4.toInt < 0 := e_2
      exact vx_out (fun x hx => (htab x hx).elim) hlocks hq9 hcv hcl (fun t ht hW => ⟨(), trivial, Or.inr (Or.inr (Or.inl ⟨rfl, c_5, c_6, c_7⟩)), hS.F ht⟩) hS.2.2 (Nat.le_of_ble_eq_true rfl) (Nat.le_of_ble_eq_true rfl)
    · have c_8 : 0 ≤ a0.toInt := e_0
      have c_9 : a0.toInt < 6 := e_1
      have c_10 : 0 ≤ a4.toInt := e_2
      have c_11 : 6 ≤ a4.toInt := e_3
      exact vx_out (fun x hx => (htab x hx).elim) hlocks hq9 hcv hcl (fun t ht hW => ⟨(), trivial, Or.inr (Or.inr (Or.inr (Or.inl ⟨rfl, c_8, c_9, c_10, c_11⟩))), hS.F ht⟩) hS.2.2 (Nat.le_of_ble_eq_true rfl) (Nat.le_of_ble_eq_true rfl)
    · have c_12 : 0 ≤ a0.toInt := e_0
      have c_13 : a0.toInt < 6 := e_1
      have c_14 : 0 ≤ a4.toInt := e_2
      have c_15 : a4.toInt < 6 := e_3
      have c_16 : a1.toInt < 0 := e_4
      exact vx_out (fun x hx => (htab x hx).elim) hlocks hq9 hcv hcl (fun t ht hW => ⟨(), trivial, Or.inr (Or.inr (Or.inr (Or.inr (Or.inl ⟨rfl, c_12, c_13, c_14, c_15, c_16⟩)))), hS.F ht⟩) hS.2.2 (Nat.le_of_ble_eq_true rfl) (Nat.le_of_ble_eq_true rfl)
    · have c_17 : 0 ≤ a0.toInt := e_0
      have c_18 : a0.toInt < 6 := e_1
      have c_19 : 0 ≤ a4.toInt := e_2
      have c_20 : a4.toInt < 6 := e_3
      have c_21 : 0 ≤ a1.toInt := e_4
      have c_22 : 3 ≤ a1.toInt := e_5
      exact vx_out (fun x hx => (htab x hx).elim) hlocks hq9 hcv hcl (fun t ht hW => ⟨(), trivial, Or.inr (Or.inr (Or.inr (Or.inr (Or.inr (Or.inl ⟨rfl, c_17, c_18, c_19, c_20, c_21, c_22⟩))))), hS.F ht⟩) hS.2.2 (Nat.le_of_ble_eq_true rfl) (Nat.le_of_ble_eq_true rfl)
    · have c_23 : 0 ≤ a0.toInt := e_0
      have c_24 : a0.toInt < 6 := e_1
      have c_25 : 0 ≤ a4.toInt := e_2
      have c_26 : a4.toInt < 6 := e_3
      have c_27 : 0 ≤ a1.toInt := e_4
      have c_28 : a1.toInt < 3 := e_5
      have c_29 : a2.toInt < 0 := e_6
      exact vx_out (fun x hx => (htab x hx).elim) hlocks hq9 hcv hcl (fun t ht hW => ⟨(), trivial, Or.inr (Or.inr (Or.inr (Or.inr (Or.inr (Or.inr (Or.inl ⟨rfl, c_23, c_24, c_25, c_26, c_27, c_28, c_29⟩)))))), hS.F ht⟩) hS.2.2 (Nat.le_of_ble_eq_true rfl) (Nat.le_of_ble_eq_true rfl)
    · have c_30 : 0 ≤ a0.toInt := e_0
      have c_31 : a0.toInt < 6 := e_1
      have c_32 : 0 ≤ a4.toInt := e_2
      have c_33 : a4.toInt < 6 := e_3
      have c_34 : 0 ≤ a1.toInt := e_4
      have c_35 : a1.toInt < 3 := e_5
      have c_36 : 0 ≤ a2.toInt := e_6
      have c_37 : 3 ≤ a2.toInt := e_7
      exact vx_out (fun x hx => (htab x hx).elim) hlocks hq9 hcv hcl (fun t ht hW => ⟨(), trivial, Or.inr (Or.inr (Or.inr (Or.inr (Or.inr (Or.inr (Or.inr (Or.inl ⟨rfl, c_30, c_31, c_32, c_33, c_34, c_35, c_36, c_37⟩))))))), hS.F ht⟩) hS.2.2 (Nat.le_of_ble_eq_true rfl) (Nat.le_of_ble_eq_true rfl)
  · rcases hw with ⟨e_0, e_1, e_2, e_3, e_4, e_5, e_6, e_7⟩
    have c_38 : 0 ≤ a0.toInt := e_0
    have c_39 : a0.toInt < 6 := e_1
    have c_40 : 0 ≤ a4.toInt := e_2
    have c_41 : a4.toInt < 6 := e_3
    have c_42 : 0 ≤ a1.toInt := e_4
    have c_43 : a1.toInt < 3 := e_5
    have c_44 : 0 ≤ a2.toInt := e_6
    have c_45 : a2.toInt < 3 := e_7
    obtain ⟨hP1, hD1⟩ := hB
    rw [ht] at hP1
    obtain ⟨hP, hD⟩ := va_join (wr := [(x, .inr (9, [.ref st, .ref kp, .int 0, .ref bf, .int 0, .int (-1), .int (-1), .int 0, .ref o1, .ref o2, .ref o3, .ref o4, .ref o5, .ref o6])), (st, .inr (8, [.ref lt, .ref tb, .ref fl, .ref wt, .int 0, .null])), (fl, .inl (cZ, 6, .inl (fun _ => 0)))]) (w1 := []) hP hD [] [0, 1, 2] rfl rfl (by decide) (by decide) hk1 hFc hP1 hD1
    have hP : va_P D vwCl [(x, .inr (9, [.ref st, .ref kp, .int 0, .ref bf, .int 0, .int (-1), .int (-1), .int 0, .ref o1, .ref o2, .ref o3, .ref o4, .ref o5, .ref o6])), (st, .inr (8, [.ref lt, .ref tb, .ref fl, .ref wt, .int 0, .null])), (fl, .inl (cZ, 6, .inl (fun _ => 0)))] H_1 := hP
    have hD : va_D A [(x, .inr (9, [.ref st, .ref kp, .int 0, .ref bf, .int 0, .int (-1), .int (-1), .int 0, .ref o1, .ref o2, .ref o3, .ref o4, .ref o5, .ref o6])), (st, .inr (8, [.ref lt, .ref tb, .ref fl, .ref wt, .int 0, .null])), (fl, .inl (cZ, 6, .inl (fun _ => 0)))] := hD
    refine W.widen (k := 4) (n := 24) (Nat.le_of_ble_eq_true rfl) (Nat.le_of_ble_eq_true rfl) ?_
    refine lv_iload hx hb dX10_selectRelation_8 (lv_at hl 4 rfl) ?_
    refine lv_if_lt (tgt := 19) hx hb dX10_selectRelation_10 (by decide) (fun c_46 => ?_) (fun c_46 => ?_)
    · have c_46 : a3.toInt < 0 := xlt c_46
      obtain ⟨sa, hstr⟩ := hV.1 (258, "a relation is 0 to 3") (by decide)
      exact vx_throwSW (names := ["java/lang/RuntimeException", "java/lang/Exception"]) hx hb htr hown (by decide +kernel) (by decide +kernel) w_1 w_2 hstr w_3 xgood_70_74 hE.1 hE.2 hS (hl.1.trans hml.symm) dX10_selectRelation_19 dX10_selectRelation_22 dX10_selectRelation_23 dX10_selectRelation_26 dX10_selectRelation_29 (fun x hx => (htab x hx).elim) (Nat.le_of_ble_eq_true rfl) (Nat.le_of_ble_eq_true rfl) (Nat.le_of_ble_eq_true rfl) (Nat.le_of_ble_eq_true rfl) hlocks (fun t h1 h2 h3 => ⟨(), trivial, Or.inr (Or.inr (Or.inr (Or.inr (Or.inr (Or.inr (Or.inr (Or.inr (Or.inl ⟨rfl, c_38, c_39, c_40, c_41, c_42, c_43, c_44, c_45, c_46⟩)))))))), xF hS h2 h3⟩) hS.2.2 (Nat.le_of_ble_eq_true rfl) (Nat.le_of_ble_eq_true rfl)
    · have c_46 : 0 ≤ a3.toInt := xnlt c_46
      refine lv_iload hx hb dX10_selectRelation_13 (lv_at hl 4 rfl) ?_
      refine lv_iconst (v := 4) hx hb dX10_selectRelation_15 (by decide) ?_
      refine lv_icmp_lt (tgt := 30) hx hb dX10_selectRelation_16 (by decide) (fun c_47 => ?_) (fun c_47 => ?_)
      · have c_47 : a3.toInt < 4 := xlt c_47
        refine lv_aload_n hx hb dX10_selectRelation_30 rfl (lv_at hl 0 rfl) ?_
        refine lv_iload_n hx hb dX10_selectRelation_31 rfl (lv_at hl 1 rfl) ?_
        have hPc := hP.sub (ws' := [(x, .inr (9, [.ref st, .ref kp, .int 0, .ref bf, .int 0, .int (-1), .int (-1), .int 0, .ref o1, .ref o2, .ref o3, .ref o4, .ref o5, .ref o6])), (st, .inr (8, [.ref lt, .ref tb, .ref fl, .ref wt, .int 0, .null])), (fl, .inl (cZ, 6, .inl (fun _ => 0)))]) [0, 1, 2] rfl
        have hDc := hD.sub (ws' := [(x, .inr (9, [.ref st, .ref kp, .int 0, .ref bf, .int 0, .int (-1), .int (-1), .int 0, .ref o1, .ref o2, .ref o3, .ref o4, .ref o5, .ref o6])), (st, .inr (8, [.ref lt, .ref tb, .ref fl, .ref wt, .int 0, .null])), (fl, .inl (cZ, 6, .inl (fun _ => 0)))]) [0, 1, 2] (by decide) rfl
        have hFc := va_free (wc := [(x, .inr (9, [.ref st, .ref kp, .int 0, .ref bf, .int 0, .int (-1), .int (-1), .int 0, .ref o1, .ref o2, .ref o3, .ref o4, .ref o5, .ref o6])), (st, .inr (8, [.ref lt, .ref tb, .ref fl, .ref wt, .int 0, .null])), (fl, .inl (cZ, 6, .inl (fun _ => 0)))]) hD hS hA [0, 1, 2] rfl
        refine vx_callq (vx_runV (As := [.int a0]) (rest := []) ⟨hx, hb, hml, hown, hts⟩ (k_X10_tableIn l htr D cI cJ cZ x st kp bf o1 o2 o3 o4 o5 o6 lt tb fl wt a0 H_1.size) (cwV 1 hts gk_X10_selectRelation_X10_tableIn rfl rfl rfl (by decide +kernel) ⟨Nat.le_of_ble_eq_true rfl, Nat.le_of_ble_eq_true rfl⟩) ⟨xPc_blind, va_recv hK hP (ci := 9) (q0 := 0) rfl rfl, xPc_pre hPc hK hDc hE hS hFc hV⟩ rfl rfl hl.1 rfl (lv_room (Nat.le_of_ble_eq_true rfl)) dX10_selectRelation_32 ⟨Nat.le_of_ble_eq_true rfl, Nat.le_of_ble_eq_true rfl⟩) hS (fun q _ h => hFc q h) hFc (fun q _ h => hFc q h) (fun E ce q9 u t H_48 locs ht hvm hpx hBX hz1 hk1 hS hq9 hcv hcl => ?_) (fun r u t H_48 locs ht hvm hw hB hz1 hk1 hS => ?_)
        · rcases hBX with ⟨rfl, e_0⟩ | ⟨rfl, e_0, e_1⟩ | ⟨rfl, e_0, e_1⟩
          · have c_49 : a0.toInt < 0 := e_0
            exfalso; omega
          · have c_50 : 0 ≤ a0.toInt := e_0
            have c_51 : 6 ≤ a0.toInt := e_1
            exfalso; omega
          · have c_52 : 0 ≤ a0.toInt := e_0
            have c_53 : a0.toInt < 6 := e_1
            exact vx_out (fun x hx => (htab x hx).elim) hlocks hq9 hcv hcl (fun t ht hW => ⟨(), trivial, Or.inr (Or.inr (Or.inr (Or.inr (Or.inr (Or.inr (Or.inr (Or.inr (Or.inr (Or.inl ⟨rfl, c_38, c_39, c_40, c_41, c_42, c_43, c_44, c_45, c_46, c_47, c_52, c_53⟩))))))))), hS.F ht⟩) hS.2.2 (Nat.le_of_ble_eq_true rfl) (Nat.le_of_ble_eq_true rfl)
        · exact hw.elim
      · have c_47 : 4 ≤ a3.toInt := xnlt c_47
        obtain ⟨sa, hstr⟩ := hV.1 (258, "a relation is 0 to 3") (by decide)
        exact vx_throwSW (names := ["java/lang/RuntimeException", "java/lang/Exception"]) hx hb htr hown (by decide +kernel) (by decide +kernel) w_1 w_2 hstr w_3 xgood_70_74 hE.1 hE.2 hS (hl.1.trans hml.symm) dX10_selectRelation_19 dX10_selectRelation_22 dX10_selectRelation_23 dX10_selectRelation_26 dX10_selectRelation_29 (fun x hx => (htab x hx).elim) (Nat.le_of_ble_eq_true rfl) (Nat.le_of_ble_eq_true rfl) (Nat.le_of_ble_eq_true rfl) (Nat.le_of_ble_eq_true rfl) hlocks (fun t h1 h2 h3 => ⟨(), trivial, Or.inr (Or.inr (Or.inr (Or.inr (Or.inr (Or.inr (Or.inr (Or.inr (Or.inr (Or.inr ⟨rfl, c_38, c_39, c_40, c_41, c_42, c_43, c_44, c_45, c_46, c_47⟩))))))))), xF hS h2 h3⟩) hS.2.2 (Nat.le_of_ble_eq_true rfl) (Nat.le_of_ble_eq_true rfl)
def wk_X10_contained : List Cond := .code yX10_contained cX10_contained 6 (some .boolean) :: (([.methodLink RX10 138 yX10_checkSlot, .static yX10_checkSlot, .initialized RX10, .code yX10_checkSlot cX10_checkSlot 1 none, .classLink RX10 91 iob, .initialized iob, .methodLink RX10 153 yX10_tableIn, .instanceMethod yX10_tableIn, .selects RX10 yX10_tableIn yX10_tableIn, .code yX10_tableIn cX10_tableIn 2 (some (.object "DocumentSpanner$SortedInts")), .fieldLink RX10 12 "DocumentSpanner" "state" "LDocumentSpanner$State;", .fieldLink RX10 96 "DocumentSpanner$State" "filled" "[Z", .classLink RX10 80 ise, .initialized ise] : List Cond) ++ wsX100 ++ wsX80 ++ (vx_atS RX10 84 ise ["java/lang/RuntimeException", "java/lang/Exception"]).filter goodWord ++ (vx_atS RX10 95 iob ["java/lang/RuntimeException", "java/lang/Exception"]).filter goodWord)
set_option maxRecDepth 20000 in
theorem ggk_X10_contained_X10_checkSlot : GoodIn wk_X10_contained wk_X10_checkSlot := goodIn_ca (goodIn_r _ [4, 5, 6] (by decide +kernel) (by decide +kernel)) (goodIn_sub (fun _ h => List.mem_cons_of_mem _ (List.mem_append_right _ h)) (by decide +kernel))
set_option maxRecDepth 20000 in
theorem gk_X10_contained_X10_checkSlot : GoodIn wk_X10_contained (va_wsS RX10 138 yX10_checkSlot wk_X10_checkSlot) := goodIn_app (goodIn_r _ [1, 2, 3] (by decide +kernel) (by decide +kernel)) ggk_X10_contained_X10_checkSlot
set_option maxRecDepth 20000 in
theorem ggk_X10_contained_X10_tableIn : GoodIn wk_X10_contained wk_X10_tableIn := goodIn_ca (goodIn_ca (goodIn_ca (goodIn_ca (goodIn_r _ [10, 11, 12, 13, 14, 1, 2, 3, 4, 5, 6] (by decide +kernel) (by decide +kernel)) (goodIn_sub (fun _ h => List.mem_cons_of_mem _ (List.mem_append_left _ (List.mem_append_left _ (List.mem_append_left _ (List.mem_append_right _ h))))) (by decide +kernel))) (goodIn_sub (fun _ h => List.mem_cons_of_mem _ (List.mem_append_left _ (List.mem_append_left _ (List.mem_append_right _ h)))) (by decide +kernel))) (goodIn_sub (fun _ h => List.mem_cons_of_mem _ (List.mem_append_left _ (List.mem_append_right _ h))) (by decide +kernel))) (goodIn_sub (fun _ h => List.mem_cons_of_mem _ (List.mem_append_right _ h)) (by decide +kernel))
set_option maxRecDepth 20000 in
theorem gk_X10_contained_X10_tableIn : GoodIn wk_X10_contained (wsV RX10 153 RX10 yX10_tableIn wk_X10_tableIn) := goodIn_app (goodIn_r _ [7, 8, 9, 3] (by decide +kernel) (by decide +kernel)) ggk_X10_contained_X10_tableIn
set_option maxHeartbeats 4000000 in
set_option maxRecDepth 100000 in
theorem k_X10_contained (l : Launch) (htr : l.stackTraces = false) (D : va_G) (cI cJ cZ : ClassId) (x : Nat) (st : Nat) (kp : Nat) (bf : Nat) (o1 : Nat) (o2 : Nat) (o3 : Nat) (o4 : Nat) (o5 : Nat) (o6 : Nat) (lt : Nat) (tb : Nat) (fl : Nat) (wt : Nat) (a0 : Int32) (a1 : Int32) (sz : Nat) : vx_Met l yX10_contained wk_X10_contained ({ frames := 8, cells := 4, slots := 24, locals := 123 }) (xPc D cI cJ cZ [.ref x, .int a0, .int a1] [(x, .inr (9, [.ref st, .ref kp, .int 0, .ref bf, .int 0, .int (-1), .int (-1), .int 0, .ref o1, .ref o2, .ref o3, .ref o4, .ref o5, .ref o6])), (st, .inr (8, [.ref lt, .ref tb, .ref fl, .ref wt, .int 0, .null])), (fl, .inl (cZ, 6, .inl (fun _ => 0)))] sz) (va_Qi (fun (r : Int32) (u : Unit) => False) (fun (u : Unit) (t : State) => va_P D vwCl ([] : va_W) t.heap ∧ va_D (va_A [(x, .inr (9, [.ref st, .ref kp, .int 0, .ref bf, .int 0, .int (-1), .int (-1), .int 0, .ref o1, .ref o2, .ref o3, .ref o4, .ref o5, .ref o6])), (st, .inr (8, [.ref lt, .ref tb, .ref fl, .ref wt, .int 0, .null])), (fl, .inl (cZ, 6, .inl (fun _ => 0)))] sz) ([] : va_W)) (va_A [(x, .inr (9, [.ref st, .ref kp, .int 0, .ref bf, .int 0, .int (-1), .int (-1), .int 0, .ref o1, .ref o2, .ref o3, .ref o4, .ref o5, .ref o6])), (st, .inr (8, [.ref lt, .ref tb, .ref fl, .ref wt, .int 0, .null])), (fl, .inl (cZ, 6, .inl (fun _ => 0)))] sz)) (vx_X (fun _ : Unit => True) (fun (E : String) (_ : Unit) (_ : State) => (E = iob ∧ a0.toInt < 0) ∨ (E = iob ∧ 0 ≤ a0.toInt ∧ 6 ≤ a0.toInt) ∨ (E = iob ∧ 0 ≤ a0.toInt ∧ a0.toInt < 6 ∧ a1.toInt < 0) ∨ (E = iob ∧ 0 ≤ a0.toInt ∧ a0.toInt < 6 ∧ 0 ≤ a1.toInt ∧ 6 ≤ a1.toInt) ∨ (E = ise ∧ 0 ≤ a0.toInt ∧ a0.toInt < 6 ∧ 0 ≤ a1.toInt ∧ a1.toInt < 6 ∧ 0 ≤ a0.toInt ∧ a0.toInt < 6)) (va_A [(x, .inr (9, [.ref st, .ref kp, .int 0, .ref bf, .int 0, .int (-1), .int (-1), .int 0, .ref o1, .ref o2, .ref o3, .ref o4, .ref o5, .ref o6])), (st, .inr (8, [.ref lt, .ref tb, .ref fl, .ref wt, .int 0, .null])), (fl, .inl (cZ, 6, .inl (fun _ => 0)))] sz)) 4 24 (va_A [(x, .inr (9, [.ref st, .ref kp, .int 0, .ref bf, .int 0, .int (-1), .int (-1), .int 0, .ref o1, .ref o2, .ref o3, .ref o4, .ref o5, .ref o6])), (st, .inr (8, [.ref lt, .ref tb, .ref fl, .ref wt, .int 0, .null])), (fl, .inl (cZ, 6, .inl (fun _ => 0)))] sz) := by
  refine vx_ofW (cc := cX10_contained) (maxL := 6) (ret := (some .boolean)) (by decide) rfl ?_
  intro p e s m args below meth c s₁ B hml htab hv
  obtain ⟨rfl, hsz, hP, hK, hD0, hE, hV⟩ := hv
  have hx := B.exec
  have hb := B.bytes
  have hr := B.returns
  have hts := atoms_spec (ws := wk_X10_contained) B.pre
  have hown : s.vm.findClass RX10 = some m.cls := findClass_of_methodNamed B.named
  have hlocks := B.notSynchronized
  subst hsz
  have hD := hD0.self (sz := s.heap.size)
  generalize hAe : va_A [(x, .inr (9, [.ref st, .ref kp, .int 0, .ref bf, .int 0, .int (-1), .int (-1), .int 0, .ref o1, .ref o2, .ref o3, .ref o4, .ref o5, .ref o6])), (st, .inr (8, [.ref lt, .ref tb, .ref fl, .ref wt, .int 0, .null])), (fl, .inl (cZ, 6, .inl (fun _ => 0)))] s.heap.size = A at hD hE ⊢
  have hA : ∀ q : Nat, s.heap.size ≤ q → A q := fun q h => by rw [← hAe]; exact Or.inr h
  have hS : va_S A s.heap s.heap [] := va_S.rf
  have hP : va_P D vwCl [(x, .inr (9, [.ref st, .ref kp, .int 0, .ref bf, .int 0, .int (-1), .int (-1), .int 0, .ref o1, .ref o2, .ref o3, .ref o4, .ref o5, .ref o6])), (st, .inr (8, [.ref lt, .ref tb, .ref fl, .ref wt, .int 0, .null])), (fl, .inl (cZ, 6, .inl (fun _ => 0)))] s.heap := hP
  have hl := lv_entry ([.ref x, .int a0, .int a1]) (n := 6) (Nat.le_of_ble_eq_true rfl)
  rw [lg_entry_eq]
  generalize (lg_sl ([.ref x, .int a0, .int a1]) ++ List.replicate (6 - (lg_sl ([.ref x, .int a0, .int a1])).length) Slot.unset).toArray = ls at hl ⊢
  have hl : lv_has ls 6 [(0, .ref x), (1, .int a0), (2, .int a1)] := hl
  refine lv_iload_n hx hb dX10_contained_0 rfl (lv_at hl 1 rfl) ?_
  have hPc := hP.sub (ws' := []) [] rfl
  have hDc := hD.sub (ws' := []) [] (by decide) rfl
  have hFc := va_free (wc := []) hD hS hA [] rfl
  refine vx_callv (vx_runS (As := [.int a0]) (rest := []) ⟨hx, hb, hml, hown, hts⟩ (k_X10_checkSlot l htr D cI cJ cZ a0 s.heap.size) (va_cwS 1 hts gk_X10_contained_X10_checkSlot rfl rfl rfl (by decide +kernel) ⟨Nat.le_of_ble_eq_true rfl, Nat.le_of_ble_eq_true rfl⟩) ⟨xPc_blind, xPc_pre hPc hK hDc hE hS hFc hV⟩ rfl rfl hl.1 rfl (lv_room (Nat.le_of_ble_eq_true rfl)) dX10_contained_1 ⟨Nat.le_of_ble_eq_true rfl, Nat.le_of_ble_eq_true rfl⟩) hS (fun q _ h => hFc q h) hFc (fun q _ h => hFc q h) (fun E ce q9 u t H_1 locs ht hvm hpx hBX hz1 hk1 hS hq9 hcv hcl => ?_) (fun u t H_1 locs ht hvm hw hB hz1 hk1 hS => ?_)
  · rcases hBX with ⟨rfl, e_0⟩ | ⟨rfl, e_0, e_1⟩
    · have c_2 : a0.toInt < 0 := e_0
      exact vx_out (fun x hx => (htab x hx).elim) hlocks hq9 hcv hcl (fun t ht hW => ⟨(), trivial, Or.inl ⟨rfl, c_2⟩, hS.F ht⟩) hS.2.2 (Nat.le_of_ble_eq_true rfl) (Nat.le_of_ble_eq_true rfl)
    · have c_3 : 0 ≤ a0.toInt := e_0
      have c_4 : 6 ≤ a0.toInt := e_1
      exact vx_out (fun x hx => (htab x hx).elim) hlocks hq9 hcv hcl (fun t ht hW => ⟨(), trivial, Or.inr (Or.inl ⟨rfl, c_3, c_4⟩), hS.F ht⟩) hS.2.2 (Nat.le_of_ble_eq_true rfl) (Nat.le_of_ble_eq_true rfl)
  · rcases hw with ⟨e_0, e_1⟩
    have c_5 : 0 ≤ a0.toInt := e_0
    have c_6 : a0.toInt < 6 := e_1
    obtain ⟨hP1, hD1⟩ := hB
    rw [ht] at hP1
    obtain ⟨hP, hD⟩ := va_join (wr := [(x, .inr (9, [.ref st, .ref kp, .int 0, .ref bf, .int 0, .int (-1), .int (-1), .int 0, .ref o1, .ref o2, .ref o3, .ref o4, .ref o5, .ref o6])), (st, .inr (8, [.ref lt, .ref tb, .ref fl, .ref wt, .int 0, .null])), (fl, .inl (cZ, 6, .inl (fun _ => 0)))]) (w1 := []) hP hD [] [0, 1, 2] rfl rfl (by decide) (by decide) hk1 hFc hP1 hD1
    have hP : va_P D vwCl [(x, .inr (9, [.ref st, .ref kp, .int 0, .ref bf, .int 0, .int (-1), .int (-1), .int 0, .ref o1, .ref o2, .ref o3, .ref o4, .ref o5, .ref o6])), (st, .inr (8, [.ref lt, .ref tb, .ref fl, .ref wt, .int 0, .null])), (fl, .inl (cZ, 6, .inl (fun _ => 0)))] H_1 := hP
    have hD : va_D A [(x, .inr (9, [.ref st, .ref kp, .int 0, .ref bf, .int 0, .int (-1), .int (-1), .int 0, .ref o1, .ref o2, .ref o3, .ref o4, .ref o5, .ref o6])), (st, .inr (8, [.ref lt, .ref tb, .ref fl, .ref wt, .int 0, .null])), (fl, .inl (cZ, 6, .inl (fun _ => 0)))] := hD
    refine W.widen (k := 1) (n := 6) (Nat.le_of_ble_eq_true rfl) (Nat.le_of_ble_eq_true rfl) ?_
    refine lv_iload_n hx hb dX10_contained_4 rfl (lv_at hl 2 rfl) ?_
    have hPc := hP.sub (ws' := []) [] rfl
    have hDc := hD.sub (ws' := []) [] (by decide) rfl
    have hFc := va_free (wc := []) hD hS hA [] rfl
    refine vx_callv (vx_runS (As := [.int a1]) (rest := []) ⟨hx, hb, hml, hown, hts⟩ (k_X10_checkSlot l htr D cI cJ cZ a1 H_1.size) (va_cwS 1 hts gk_X10_contained_X10_checkSlot rfl rfl rfl (by decide +kernel) ⟨Nat.le_of_ble_eq_true rfl, Nat.le_of_ble_eq_true rfl⟩) ⟨xPc_blind, xPc_pre hPc hK hDc hE hS hFc hV⟩ rfl rfl hl.1 rfl (lv_room (Nat.le_of_ble_eq_true rfl)) dX10_contained_5 ⟨Nat.le_of_ble_eq_true rfl, Nat.le_of_ble_eq_true rfl⟩) hS (fun q _ h => hFc q h) hFc (fun q _ h => hFc q h) (fun E ce q9 u t H_7 locs ht hvm hpx hBX hz1 hk1 hS hq9 hcv hcl => ?_) (fun u t H_7 locs ht hvm hw hB hz1 hk1 hS => ?_)
    · rcases hBX with ⟨rfl, e_0⟩ | ⟨rfl, e_0, e_1⟩
      · have c_8 : a1.toInt < 0 := e_0
        exact vx_out (fun x hx => (htab x hx).elim) hlocks hq9 hcv hcl (fun t ht hW => ⟨(), trivial, Or.inr (Or.inr (Or.inl ⟨rfl, c_5, c_6, c_8⟩)), hS.F ht⟩) hS.2.2 (Nat.le_of_ble_eq_true rfl) (Nat.le_of_ble_eq_true rfl)
      · have c_9 : 0 ≤ a1.toInt := e_0
        have c_10 : 6 ≤ a1.toInt := e_1
        exact vx_out (fun x hx => (htab x hx).elim) hlocks hq9 hcv hcl (fun t ht hW => ⟨(), trivial, Or.inr (Or.inr (Or.inr (Or.inl ⟨rfl, c_5, c_6, c_9, c_10⟩))), hS.F ht⟩) hS.2.2 (Nat.le_of_ble_eq_true rfl) (Nat.le_of_ble_eq_true rfl)
    · rcases hw with ⟨e_0, e_1⟩
      have c_11 : 0 ≤ a1.toInt := e_0
      have c_12 : a1.toInt < 6 := e_1
      obtain ⟨hP1, hD1⟩ := hB
      rw [ht] at hP1
      obtain ⟨hP, hD⟩ := va_join (wr := [(x, .inr (9, [.ref st, .ref kp, .int 0, .ref bf, .int 0, .int (-1), .int (-1), .int 0, .ref o1, .ref o2, .ref o3, .ref o4, .ref o5, .ref o6])), (st, .inr (8, [.ref lt, .ref tb, .ref fl, .ref wt, .int 0, .null])), (fl, .inl (cZ, 6, .inl (fun _ => 0)))]) (w1 := []) hP hD [] [0, 1, 2] rfl rfl (by decide) (by decide) hk1 hFc hP1 hD1
      have hP : va_P D vwCl [(x, .inr (9, [.ref st, .ref kp, .int 0, .ref bf, .int 0, .int (-1), .int (-1), .int 0, .ref o1, .ref o2, .ref o3, .ref o4, .ref o5, .ref o6])), (st, .inr (8, [.ref lt, .ref tb, .ref fl, .ref wt, .int 0, .null])), (fl, .inl (cZ, 6, .inl (fun _ => 0)))] H_7 := hP
      have hD : va_D A [(x, .inr (9, [.ref st, .ref kp, .int 0, .ref bf, .int 0, .int (-1), .int (-1), .int 0, .ref o1, .ref o2, .ref o3, .ref o4, .ref o5, .ref o6])), (st, .inr (8, [.ref lt, .ref tb, .ref fl, .ref wt, .int 0, .null])), (fl, .inl (cZ, 6, .inl (fun _ => 0)))] := hD
      refine W.widen (k := 2) (n := 12) (Nat.le_of_ble_eq_true rfl) (Nat.le_of_ble_eq_true rfl) ?_
      refine lv_aload_n hx hb dX10_contained_8 rfl (lv_at hl 0 rfl) ?_
      refine lv_iload_n hx hb dX10_contained_9 rfl (lv_at hl 1 rfl) ?_
      have hPc := hP.sub (ws' := [(x, .inr (9, [.ref st, .ref kp, .int 0, .ref bf, .int 0, .int (-1), .int (-1), .int 0, .ref o1, .ref o2, .ref o3, .ref o4, .ref o5, .ref o6])), (st, .inr (8, [.ref lt, .ref tb, .ref fl, .ref wt, .int 0, .null])), (fl, .inl (cZ, 6, .inl (fun _ => 0)))]) [0, 1, 2] rfl
      have hDc := hD.sub (ws' := [(x, .inr (9, [.ref st, .ref kp, .int 0, .ref bf, .int 0, .int (-1), .int (-1), .int 0, .ref o1, .ref o2, .ref o3, .ref o4, .ref o5, .ref o6])), (st, .inr (8, [.ref lt, .ref tb, .ref fl, .ref wt, .int 0, .null])), (fl, .inl (cZ, 6, .inl (fun _ => 0)))]) [0, 1, 2] (by decide) rfl
      have hFc := va_free (wc := [(x, .inr (9, [.ref st, .ref kp, .int 0, .ref bf, .int 0, .int (-1), .int (-1), .int 0, .ref o1, .ref o2, .ref o3, .ref o4, .ref o5, .ref o6])), (st, .inr (8, [.ref lt, .ref tb, .ref fl, .ref wt, .int 0, .null])), (fl, .inl (cZ, 6, .inl (fun _ => 0)))]) hD hS hA [0, 1, 2] rfl
      refine vx_callq (vx_runV (As := [.int a0]) (rest := []) ⟨hx, hb, hml, hown, hts⟩ (k_X10_tableIn l htr D cI cJ cZ x st kp bf o1 o2 o3 o4 o5 o6 lt tb fl wt a0 H_7.size) (cwV 1 hts gk_X10_contained_X10_tableIn rfl rfl rfl (by decide +kernel) ⟨Nat.le_of_ble_eq_true rfl, Nat.le_of_ble_eq_true rfl⟩) ⟨xPc_blind, va_recv hK hP (ci := 9) (q0 := 0) rfl rfl, xPc_pre hPc hK hDc hE hS hFc hV⟩ rfl rfl hl.1 rfl (lv_room (Nat.le_of_ble_eq_true rfl)) dX10_contained_10 ⟨Nat.le_of_ble_eq_true rfl, Nat.le_of_ble_eq_true rfl⟩) hS (fun q _ h => hFc q h) hFc (fun q _ h => hFc q h) (fun E ce q9 u t H_13 locs ht hvm hpx hBX hz1 hk1 hS hq9 hcv hcl => ?_) (fun r u t H_13 locs ht hvm hw hB hz1 hk1 hS => ?_)
      · rcases hBX with ⟨rfl, e_0⟩ | ⟨rfl, e_0, e_1⟩ | ⟨rfl, e_0, e_1⟩
        · have c_14 : a0.toInt < 0 := e_0
          exfalso; omega
        · have c_15 : 0 ≤ a0.toInt := e_0
          have c_16 : 6 ≤ a0.toInt := e_1
          exfalso; omega
        · have c_17 : 0 ≤ a0.toInt := e_0
          have c_18 : a0.toInt < 6 := e_1
          exact vx_out (fun x hx => (htab x hx).elim) hlocks hq9 hcv hcl (fun t ht hW => ⟨(), trivial, Or.inr (Or.inr (Or.inr (Or.inr ⟨rfl, c_5, c_6, c_11, c_12, c_17, c_18⟩))), hS.F ht⟩) hS.2.2 (Nat.le_of_ble_eq_true rfl) (Nat.le_of_ble_eq_true rfl)
      · exact hw.elim
def wk_X10_disjoint : List Cond := .code yX10_disjoint cX10_disjoint 6 (some .boolean) :: (([.methodLink RX10 153 yX10_tableIn, .instanceMethod yX10_tableIn, .selects RX10 yX10_tableIn yX10_tableIn, .initialized RX10, .code yX10_tableIn cX10_tableIn 2 (some (.object "DocumentSpanner$SortedInts")), .fieldLink RX10 12 "DocumentSpanner" "state" "LDocumentSpanner$State;", .fieldLink RX10 96 "DocumentSpanner$State" "filled" "[Z", .classLink RX10 80 ise, .initialized ise, .methodLink RX10 138 yX10_checkSlot, .static yX10_checkSlot, .code yX10_checkSlot cX10_checkSlot 1 none, .classLink RX10 91 iob, .initialized iob] : List Cond) ++ wsX100 ++ wsX80 ++ (vx_atS RX10 84 ise ["java/lang/RuntimeException", "java/lang/Exception"]).filter goodWord ++ (vx_atS RX10 95 iob ["java/lang/RuntimeException", "java/lang/Exception"]).filter goodWord)
set_option maxRecDepth 20000 in
theorem ggk_X10_disjoint_X10_tableIn : GoodIn wk_X10_disjoint wk_X10_tableIn := goodIn_ca (goodIn_ca (goodIn_ca (goodIn_ca (goodIn_r _ [5, 6, 7, 8, 9, 10, 11, 4, 12, 13, 14] (by decide +kernel) (by decide +kernel)) (goodIn_sub (fun _ h => List.mem_cons_of_mem _ (List.mem_append_left _ (List.mem_append_left _ (List.mem_append_left _ (List.mem_append_right _ h))))) (by decide +kernel))) (goodIn_sub (fun _ h => List.mem_cons_of_mem _ (List.mem_append_left _ (List.mem_append_left _ (List.mem_append_right _ h)))) (by decide +kernel))) (goodIn_sub (fun _ h => List.mem_cons_of_mem _ (List.mem_append_left _ (List.mem_append_right _ h))) (by decide +kernel))) (goodIn_sub (fun _ h => List.mem_cons_of_mem _ (List.mem_append_right _ h)) (by decide +kernel))
set_option maxRecDepth 20000 in
theorem gk_X10_disjoint_X10_tableIn : GoodIn wk_X10_disjoint (wsV RX10 153 RX10 yX10_tableIn wk_X10_tableIn) := goodIn_app (goodIn_r _ [1, 2, 3, 4] (by decide +kernel) (by decide +kernel)) ggk_X10_disjoint_X10_tableIn
set_option maxHeartbeats 4000000 in
set_option maxRecDepth 100000 in
theorem k_X10_disjoint (l : Launch) (htr : l.stackTraces = false) (D : va_G) (cI cJ cZ : ClassId) (x : Nat) (st : Nat) (kp : Nat) (bf : Nat) (o1 : Nat) (o2 : Nat) (o3 : Nat) (o4 : Nat) (o5 : Nat) (o6 : Nat) (lt : Nat) (tb : Nat) (fl : Nat) (wt : Nat) (a0 : Int32) (sz : Nat) : vx_Met l yX10_disjoint wk_X10_disjoint ({ frames := 8, cells := 2, slots := 12, locals := 123 }) (xPc D cI cJ cZ [.ref x, .int a0] [(x, .inr (9, [.ref st, .ref kp, .int 0, .ref bf, .int 0, .int (-1), .int (-1), .int 0, .ref o1, .ref o2, .ref o3, .ref o4, .ref o5, .ref o6])), (st, .inr (8, [.ref lt, .ref tb, .ref fl, .ref wt, .int 0, .null])), (fl, .inl (cZ, 6, .inl (fun _ => 0)))] sz) (va_Qi (fun (r : Int32) (u : Unit) => False) (fun (u : Unit) (t : State) => va_P D vwCl ([] : va_W) t.heap ∧ va_D (va_A [(x, .inr (9, [.ref st, .ref kp, .int 0, .ref bf, .int 0, .int (-1), .int (-1), .int 0, .ref o1, .ref o2, .ref o3, .ref o4, .ref o5, .ref o6])), (st, .inr (8, [.ref lt, .ref tb, .ref fl, .ref wt, .int 0, .null])), (fl, .inl (cZ, 6, .inl (fun _ => 0)))] sz) ([] : va_W)) (va_A [(x, .inr (9, [.ref st, .ref kp, .int 0, .ref bf, .int 0, .int (-1), .int (-1), .int 0, .ref o1, .ref o2, .ref o3, .ref o4, .ref o5, .ref o6])), (st, .inr (8, [.ref lt, .ref tb, .ref fl, .ref wt, .int 0, .null])), (fl, .inl (cZ, 6, .inl (fun _ => 0)))] sz)) (vx_X (fun _ : Unit => True) (fun (E : String) (_ : Unit) (_ : State) => (E = iob ∧ a0.toInt < 0) ∨ (E = iob ∧ 0 ≤ a0.toInt ∧ 6 ≤ a0.toInt) ∨ (E = ise ∧ 0 ≤ a0.toInt ∧ a0.toInt < 6)) (va_A [(x, .inr (9, [.ref st, .ref kp, .int 0, .ref bf, .int 0, .int (-1), .int (-1), .int 0, .ref o1, .ref o2, .ref o3, .ref o4, .ref o5, .ref o6])), (st, .inr (8, [.ref lt, .ref tb, .ref fl, .ref wt, .int 0, .null])), (fl, .inl (cZ, 6, .inl (fun _ => 0)))] sz)) 2 12 (va_A [(x, .inr (9, [.ref st, .ref kp, .int 0, .ref bf, .int 0, .int (-1), .int (-1), .int 0, .ref o1, .ref o2, .ref o3, .ref o4, .ref o5, .ref o6])), (st, .inr (8, [.ref lt, .ref tb, .ref fl, .ref wt, .int 0, .null])), (fl, .inl (cZ, 6, .inl (fun _ => 0)))] sz) := by
  refine vx_ofW (cc := cX10_disjoint) (maxL := 6) (ret := (some .boolean)) (by decide) rfl ?_
  intro p e s m args below meth c s₁ B hml htab hv
  obtain ⟨rfl, hsz, hP, hK, hD0, hE, hV⟩ := hv
  have hx := B.exec
  have hb := B.bytes
  have hr := B.returns
  have hts := atoms_spec (ws := wk_X10_disjoint) B.pre
  have hown : s.vm.findClass RX10 = some m.cls := findClass_of_methodNamed B.named
  have hlocks := B.notSynchronized
  subst hsz
  have hD := hD0.self (sz := s.heap.size)
  generalize hAe : va_A [(x, .inr (9, [.ref st, .ref kp, .int 0, .ref bf, .int 0, .int (-1), .int (-1), .int 0, .ref o1, .ref o2, .ref o3, .ref o4, .ref o5, .ref o6])), (st, .inr (8, [.ref lt, .ref tb, .ref fl, .ref wt, .int 0, .null])), (fl, .inl (cZ, 6, .inl (fun _ => 0)))] s.heap.size = A at hD hE ⊢
  have hA : ∀ q : Nat, s.heap.size ≤ q → A q := fun q h => by rw [← hAe]; exact Or.inr h
  have hS : va_S A s.heap s.heap [] := va_S.rf
  have hP : va_P D vwCl [(x, .inr (9, [.ref st, .ref kp, .int 0, .ref bf, .int 0, .int (-1), .int (-1), .int 0, .ref o1, .ref o2, .ref o3, .ref o4, .ref o5, .ref o6])), (st, .inr (8, [.ref lt, .ref tb, .ref fl, .ref wt, .int 0, .null])), (fl, .inl (cZ, 6, .inl (fun _ => 0)))] s.heap := hP
  have hl := lv_entry ([.ref x, .int a0]) (n := 6) (Nat.le_of_ble_eq_true rfl)
  rw [lg_entry_eq]
  generalize (lg_sl ([.ref x, .int a0]) ++ List.replicate (6 - (lg_sl ([.ref x, .int a0])).length) Slot.unset).toArray = ls at hl ⊢
  have hl : lv_has ls 6 [(0, .ref x), (1, .int a0)] := hl
  refine lv_aload_n hx hb dX10_disjoint_0 rfl (lv_at hl 0 rfl) ?_
  refine lv_iload_n hx hb dX10_disjoint_1 rfl (lv_at hl 1 rfl) ?_
  have hPc := hP.sub (ws' := [(x, .inr (9, [.ref st, .ref kp, .int 0, .ref bf, .int 0, .int (-1), .int (-1), .int 0, .ref o1, .ref o2, .ref o3, .ref o4, .ref o5, .ref o6])), (st, .inr (8, [.ref lt, .ref tb, .ref fl, .ref wt, .int 0, .null])), (fl, .inl (cZ, 6, .inl (fun _ => 0)))]) [0, 1, 2] rfl
  have hDc := hD.sub (ws' := [(x, .inr (9, [.ref st, .ref kp, .int 0, .ref bf, .int 0, .int (-1), .int (-1), .int 0, .ref o1, .ref o2, .ref o3, .ref o4, .ref o5, .ref o6])), (st, .inr (8, [.ref lt, .ref tb, .ref fl, .ref wt, .int 0, .null])), (fl, .inl (cZ, 6, .inl (fun _ => 0)))]) [0, 1, 2] (by decide) rfl
  have hFc := va_free (wc := [(x, .inr (9, [.ref st, .ref kp, .int 0, .ref bf, .int 0, .int (-1), .int (-1), .int 0, .ref o1, .ref o2, .ref o3, .ref o4, .ref o5, .ref o6])), (st, .inr (8, [.ref lt, .ref tb, .ref fl, .ref wt, .int 0, .null])), (fl, .inl (cZ, 6, .inl (fun _ => 0)))]) hD hS hA [0, 1, 2] rfl
  refine vx_callq (vx_runV (As := [.int a0]) (rest := []) ⟨hx, hb, hml, hown, hts⟩ (k_X10_tableIn l htr D cI cJ cZ x st kp bf o1 o2 o3 o4 o5 o6 lt tb fl wt a0 s.heap.size) (cwV 1 hts gk_X10_disjoint_X10_tableIn rfl rfl rfl (by decide +kernel) ⟨Nat.le_of_ble_eq_true rfl, Nat.le_of_ble_eq_true rfl⟩) ⟨xPc_blind, va_recv hK hP (ci := 9) (q0 := 0) rfl rfl, xPc_pre hPc hK hDc hE hS hFc hV⟩ rfl rfl hl.1 rfl (lv_room (Nat.le_of_ble_eq_true rfl)) dX10_disjoint_2 ⟨Nat.le_of_ble_eq_true rfl, Nat.le_of_ble_eq_true rfl⟩) hS (fun q _ h => hFc q h) hFc (fun q _ h => hFc q h) (fun E ce q9 u t H_1 locs ht hvm hpx hBX hz1 hk1 hS hq9 hcv hcl => ?_) (fun r u t H_1 locs ht hvm hw hB hz1 hk1 hS => ?_)
  · rcases hBX with ⟨rfl, e_0⟩ | ⟨rfl, e_0, e_1⟩ | ⟨rfl, e_0, e_1⟩
    · have c_2 : a0.toInt < 0 := e_0
      exact vx_out (fun x hx => (htab x hx).elim) hlocks hq9 hcv hcl (fun t ht hW => ⟨(), trivial, Or.inl ⟨rfl, c_2⟩, hS.F ht⟩) hS.2.2 (Nat.le_of_ble_eq_true rfl) (Nat.le_of_ble_eq_true rfl)
    · have c_3 : 0 ≤ a0.toInt := e_0
      have c_4 : 6 ≤ a0.toInt := e_1
      exact vx_out (fun x hx => (htab x hx).elim) hlocks hq9 hcv hcl (fun t ht hW => ⟨(), trivial, Or.inr (Or.inl ⟨rfl, c_3, c_4⟩), hS.F ht⟩) hS.2.2 (Nat.le_of_ble_eq_true rfl) (Nat.le_of_ble_eq_true rfl)
    · have c_5 : 0 ≤ a0.toInt := e_0
      have c_6 : a0.toInt < 6 := e_1
      exact vx_out (fun x hx => (htab x hx).elim) hlocks hq9 hcv hcl (fun t ht hW => ⟨(), trivial, Or.inr (Or.inr ⟨rfl, c_5, c_6⟩), hS.F ht⟩) hS.2.2 (Nat.le_of_ble_eq_true rfl) (Nat.le_of_ble_eq_true rfl)
  · exact hw.elim
def wk_X10_extractSplit : List Cond := .code yX10_extractSplit cX10_extractSplit 5 (some .int) :: (([.methodLink RX10 138 yX10_checkSlot, .static yX10_checkSlot, .initialized RX10, .code yX10_checkSlot cX10_checkSlot 1 none, .classLink RX10 91 iob, .initialized iob, .methodLink RX10 153 yX10_tableIn, .instanceMethod yX10_tableIn, .selects RX10 yX10_tableIn yX10_tableIn, .code yX10_tableIn cX10_tableIn 2 (some (.object "DocumentSpanner$SortedInts")), .fieldLink RX10 12 "DocumentSpanner" "state" "LDocumentSpanner$State;", .fieldLink RX10 96 "DocumentSpanner$State" "filled" "[Z", .classLink RX10 80 ise, .initialized ise] : List Cond) ++ wsX100 ++ wsX80 ++ (vx_atS RX10 84 ise ["java/lang/RuntimeException", "java/lang/Exception"]).filter goodWord ++ (vx_atS RX10 95 iob ["java/lang/RuntimeException", "java/lang/Exception"]).filter goodWord)
set_option maxRecDepth 20000 in
theorem ggk_X10_extractSplit_X10_checkSlot : GoodIn wk_X10_extractSplit wk_X10_checkSlot := goodIn_ca (goodIn_r _ [4, 5, 6] (by decide +kernel) (by decide +kernel)) (goodIn_sub (fun _ h => List.mem_cons_of_mem _ (List.mem_append_right _ h)) (by decide +kernel))
set_option maxRecDepth 20000 in
theorem gk_X10_extractSplit_X10_checkSlot : GoodIn wk_X10_extractSplit (va_wsS RX10 138 yX10_checkSlot wk_X10_checkSlot) := goodIn_app (goodIn_r _ [1, 2, 3] (by decide +kernel) (by decide +kernel)) ggk_X10_extractSplit_X10_checkSlot
set_option maxRecDepth 20000 in
theorem ggk_X10_extractSplit_X10_tableIn : GoodIn wk_X10_extractSplit wk_X10_tableIn := goodIn_ca (goodIn_ca (goodIn_ca (goodIn_ca (goodIn_r _ [10, 11, 12, 13, 14, 1, 2, 3, 4, 5, 6] (by decide +kernel) (by decide +kernel)) (goodIn_sub (fun _ h => List.mem_cons_of_mem _ (List.mem_append_left _ (List.mem_append_left _ (List.mem_append_left _ (List.mem_append_right _ h))))) (by decide +kernel))) (goodIn_sub (fun _ h => List.mem_cons_of_mem _ (List.mem_append_left _ (List.mem_append_left _ (List.mem_append_right _ h)))) (by decide +kernel))) (goodIn_sub (fun _ h => List.mem_cons_of_mem _ (List.mem_append_left _ (List.mem_append_right _ h))) (by decide +kernel))) (goodIn_sub (fun _ h => List.mem_cons_of_mem _ (List.mem_append_right _ h)) (by decide +kernel))
set_option maxRecDepth 20000 in
theorem gk_X10_extractSplit_X10_tableIn : GoodIn wk_X10_extractSplit (wsV RX10 153 RX10 yX10_tableIn wk_X10_tableIn) := goodIn_app (goodIn_r _ [7, 8, 9, 3] (by decide +kernel) (by decide +kernel)) ggk_X10_extractSplit_X10_tableIn
set_option maxHeartbeats 4000000 in
set_option maxRecDepth 100000 in
theorem k_X10_extractSplit (l : Launch) (htr : l.stackTraces = false) (D : va_G) (cI cJ cZ : ClassId) (x : Nat) (st : Nat) (kp : Nat) (bf : Nat) (o1 : Nat) (o2 : Nat) (o3 : Nat) (o4 : Nat) (o5 : Nat) (o6 : Nat) (lt : Nat) (tb : Nat) (fl : Nat) (wt : Nat) (a0 : Int32) (a1 : Int32) (sz : Nat) : vx_Met l yX10_extractSplit wk_X10_extractSplit ({ frames := 8, cells := 4, slots := 24, locals := 123 }) (xPc D cI cJ cZ [.ref x, .int a0, .int a1] [(x, .inr (9, [.ref st, .ref kp, .int 0, .ref bf, .int 0, .int (-1), .int (-1), .int 0, .ref o1, .ref o2, .ref o3, .ref o4, .ref o5, .ref o6])), (st, .inr (8, [.ref lt, .ref tb, .ref fl, .ref wt, .int 0, .null])), (fl, .inl (cZ, 6, .inl (fun _ => 0)))] sz) (va_Qi (fun (r : Int32) (u : Unit) => False) (fun (u : Unit) (t : State) => va_P D vwCl ([] : va_W) t.heap ∧ va_D (va_A [(x, .inr (9, [.ref st, .ref kp, .int 0, .ref bf, .int 0, .int (-1), .int (-1), .int 0, .ref o1, .ref o2, .ref o3, .ref o4, .ref o5, .ref o6])), (st, .inr (8, [.ref lt, .ref tb, .ref fl, .ref wt, .int 0, .null])), (fl, .inl (cZ, 6, .inl (fun _ => 0)))] sz) ([] : va_W)) (va_A [(x, .inr (9, [.ref st, .ref kp, .int 0, .ref bf, .int 0, .int (-1), .int (-1), .int 0, .ref o1, .ref o2, .ref o3, .ref o4, .ref o5, .ref o6])), (st, .inr (8, [.ref lt, .ref tb, .ref fl, .ref wt, .int 0, .null])), (fl, .inl (cZ, 6, .inl (fun _ => 0)))] sz)) (vx_X (fun _ : Unit => True) (fun (E : String) (_ : Unit) (_ : State) => (E = iob ∧ a0.toInt < 0) ∨ (E = iob ∧ 0 ≤ a0.toInt ∧ 6 ≤ a0.toInt) ∨ (E = iob ∧ 0 ≤ a0.toInt ∧ a0.toInt < 6 ∧ a1.toInt < 0) ∨ (E = iob ∧ 0 ≤ a0.toInt ∧ a0.toInt < 6 ∧ 0 ≤ a1.toInt ∧ 6 ≤ a1.toInt) ∨ (E = ise ∧ 0 ≤ a0.toInt ∧ a0.toInt < 6 ∧ 0 ≤ a1.toInt ∧ a1.toInt < 6 ∧ 0 ≤ a0.toInt ∧ a0.toInt < 6)) (va_A [(x, .inr (9, [.ref st, .ref kp, .int 0, .ref bf, .int 0, .int (-1), .int (-1), .int 0, .ref o1, .ref o2, .ref o3, .ref o4, .ref o5, .ref o6])), (st, .inr (8, [.ref lt, .ref tb, .ref fl, .ref wt, .int 0, .null])), (fl, .inl (cZ, 6, .inl (fun _ => 0)))] sz)) 4 24 (va_A [(x, .inr (9, [.ref st, .ref kp, .int 0, .ref bf, .int 0, .int (-1), .int (-1), .int 0, .ref o1, .ref o2, .ref o3, .ref o4, .ref o5, .ref o6])), (st, .inr (8, [.ref lt, .ref tb, .ref fl, .ref wt, .int 0, .null])), (fl, .inl (cZ, 6, .inl (fun _ => 0)))] sz) := by
  refine vx_ofW (cc := cX10_extractSplit) (maxL := 5) (ret := (some .int)) (by decide) rfl ?_
  intro p e s m args below meth c s₁ B hml htab hv
  obtain ⟨rfl, hsz, hP, hK, hD0, hE, hV⟩ := hv
  have hx := B.exec
  have hb := B.bytes
  have hr := B.returns
  have hts := atoms_spec (ws := wk_X10_extractSplit) B.pre
  have hown : s.vm.findClass RX10 = some m.cls := findClass_of_methodNamed B.named
  have hlocks := B.notSynchronized
  subst hsz
  have hD := hD0.self (sz := s.heap.size)
  generalize hAe : va_A [(x, .inr (9, [.ref st, .ref kp, .int 0, .ref bf, .int 0, .int (-1), .int (-1), .int 0, .ref o1, .ref o2, .ref o3, .ref o4, .ref o5, .ref o6])), (st, .inr (8, [.ref lt, .ref tb, .ref fl, .ref wt, .int 0, .null])), (fl, .inl (cZ, 6, .inl (fun _ => 0)))] s.heap.size = A at hD hE ⊢
  have hA : ∀ q : Nat, s.heap.size ≤ q → A q := fun q h => by rw [← hAe]; exact Or.inr h
  have hS : va_S A s.heap s.heap [] := va_S.rf
  have hP : va_P D vwCl [(x, .inr (9, [.ref st, .ref kp, .int 0, .ref bf, .int 0, .int (-1), .int (-1), .int 0, .ref o1, .ref o2, .ref o3, .ref o4, .ref o5, .ref o6])), (st, .inr (8, [.ref lt, .ref tb, .ref fl, .ref wt, .int 0, .null])), (fl, .inl (cZ, 6, .inl (fun _ => 0)))] s.heap := hP
  have hl := lv_entry ([.ref x, .int a0, .int a1]) (n := 5) (Nat.le_of_ble_eq_true rfl)
  rw [lg_entry_eq]
  generalize (lg_sl ([.ref x, .int a0, .int a1]) ++ List.replicate (5 - (lg_sl ([.ref x, .int a0, .int a1])).length) Slot.unset).toArray = ls at hl ⊢
  have hl : lv_has ls 5 [(0, .ref x), (1, .int a0), (2, .int a1)] := hl
  refine lv_iload_n hx hb dX10_extractSplit_0 rfl (lv_at hl 1 rfl) ?_
  have hPc := hP.sub (ws' := []) [] rfl
  have hDc := hD.sub (ws' := []) [] (by decide) rfl
  have hFc := va_free (wc := []) hD hS hA [] rfl
  refine vx_callv (vx_runS (As := [.int a0]) (rest := []) ⟨hx, hb, hml, hown, hts⟩ (k_X10_checkSlot l htr D cI cJ cZ a0 s.heap.size) (va_cwS 1 hts gk_X10_extractSplit_X10_checkSlot rfl rfl rfl (by decide +kernel) ⟨Nat.le_of_ble_eq_true rfl, Nat.le_of_ble_eq_true rfl⟩) ⟨xPc_blind, xPc_pre hPc hK hDc hE hS hFc hV⟩ rfl rfl hl.1 rfl (lv_room (Nat.le_of_ble_eq_true rfl)) dX10_extractSplit_1 ⟨Nat.le_of_ble_eq_true rfl, Nat.le_of_ble_eq_true rfl⟩) hS (fun q _ h => hFc q h) hFc (fun q _ h => hFc q h) (fun E ce q9 u t H_1 locs ht hvm hpx hBX hz1 hk1 hS hq9 hcv hcl => ?_) (fun u t H_1 locs ht hvm hw hB hz1 hk1 hS => ?_)
  · rcases hBX with ⟨rfl, e_0⟩ | ⟨rfl, e_0, e_1⟩
    · have c_2 : a0.toInt < 0 := e_0
      exact vx_out (fun x hx => (htab x hx).elim) hlocks hq9 hcv hcl (fun t ht hW => ⟨(), trivial, Or.inl ⟨rfl, c_2⟩, hS.F ht⟩) hS.2.2 (Nat.le_of_ble_eq_true rfl) (Nat.le_of_ble_eq_true rfl)
    · have c_3 : 0 ≤ a0.toInt := e_0
      have c_4 : 6 ≤ a0.toInt := e_1
      exact vx_out (fun x hx => (htab x hx).elim) hlocks hq9 hcv hcl (fun t ht hW => ⟨(), trivial, Or.inr (Or.inl ⟨rfl, c_3, c_4⟩), hS.F ht⟩) hS.2.2 (Nat.le_of_ble_eq_true rfl) (Nat.le_of_ble_eq_true rfl)
  · rcases hw with ⟨e_0, e_1⟩
    have c_5 : 0 ≤ a0.toInt := e_0
    have c_6 : a0.toInt < 6 := e_1
    obtain ⟨hP1, hD1⟩ := hB
    rw [ht] at hP1
    obtain ⟨hP, hD⟩ := va_join (wr := [(x, .inr (9, [.ref st, .ref kp, .int 0, .ref bf, .int 0, .int (-1), .int (-1), .int 0, .ref o1, .ref o2, .ref o3, .ref o4, .ref o5, .ref o6])), (st, .inr (8, [.ref lt, .ref tb, .ref fl, .ref wt, .int 0, .null])), (fl, .inl (cZ, 6, .inl (fun _ => 0)))]) (w1 := []) hP hD [] [0, 1, 2] rfl rfl (by decide) (by decide) hk1 hFc hP1 hD1
    have hP : va_P D vwCl [(x, .inr (9, [.ref st, .ref kp, .int 0, .ref bf, .int 0, .int (-1), .int (-1), .int 0, .ref o1, .ref o2, .ref o3, .ref o4, .ref o5, .ref o6])), (st, .inr (8, [.ref lt, .ref tb, .ref fl, .ref wt, .int 0, .null])), (fl, .inl (cZ, 6, .inl (fun _ => 0)))] H_1 := hP
    have hD : va_D A [(x, .inr (9, [.ref st, .ref kp, .int 0, .ref bf, .int 0, .int (-1), .int (-1), .int 0, .ref o1, .ref o2, .ref o3, .ref o4, .ref o5, .ref o6])), (st, .inr (8, [.ref lt, .ref tb, .ref fl, .ref wt, .int 0, .null])), (fl, .inl (cZ, 6, .inl (fun _ => 0)))] := hD
    refine W.widen (k := 1) (n := 6) (Nat.le_of_ble_eq_true rfl) (Nat.le_of_ble_eq_true rfl) ?_
    refine lv_iload_n hx hb dX10_extractSplit_4 rfl (lv_at hl 2 rfl) ?_
    have hPc := hP.sub (ws' := []) [] rfl
    have hDc := hD.sub (ws' := []) [] (by decide) rfl
    have hFc := va_free (wc := []) hD hS hA [] rfl
    refine vx_callv (vx_runS (As := [.int a1]) (rest := []) ⟨hx, hb, hml, hown, hts⟩ (k_X10_checkSlot l htr D cI cJ cZ a1 H_1.size) (va_cwS 1 hts gk_X10_extractSplit_X10_checkSlot rfl rfl rfl (by decide +kernel) ⟨Nat.le_of_ble_eq_true rfl, Nat.le_of_ble_eq_true rfl⟩) ⟨xPc_blind, xPc_pre hPc hK hDc hE hS hFc hV⟩ rfl rfl hl.1 rfl (lv_room (Nat.le_of_ble_eq_true rfl)) dX10_extractSplit_5 ⟨Nat.le_of_ble_eq_true rfl, Nat.le_of_ble_eq_true rfl⟩) hS (fun q _ h => hFc q h) hFc (fun q _ h => hFc q h) (fun E ce q9 u t H_7 locs ht hvm hpx hBX hz1 hk1 hS hq9 hcv hcl => ?_) (fun u t H_7 locs ht hvm hw hB hz1 hk1 hS => ?_)
    · rcases hBX with ⟨rfl, e_0⟩ | ⟨rfl, e_0, e_1⟩
      · have c_8 : a1.toInt < 0 := e_0
        exact vx_out (fun x hx => (htab x hx).elim) hlocks hq9 hcv hcl (fun t ht hW => ⟨(), trivial, Or.inr (Or.inr (Or.inl ⟨rfl, c_5, c_6, c_8⟩)), hS.F ht⟩) hS.2.2 (Nat.le_of_ble_eq_true rfl) (Nat.le_of_ble_eq_true rfl)
      · have c_9 : 0 ≤ a1.toInt := e_0
        have c_10 : 6 ≤ a1.toInt := e_1
        exact vx_out (fun x hx => (htab x hx).elim) hlocks hq9 hcv hcl (fun t ht hW => ⟨(), trivial, Or.inr (Or.inr (Or.inr (Or.inl ⟨rfl, c_5, c_6, c_9, c_10⟩))), hS.F ht⟩) hS.2.2 (Nat.le_of_ble_eq_true rfl) (Nat.le_of_ble_eq_true rfl)
    · rcases hw with ⟨e_0, e_1⟩
      have c_11 : 0 ≤ a1.toInt := e_0
      have c_12 : a1.toInt < 6 := e_1
      obtain ⟨hP1, hD1⟩ := hB
      rw [ht] at hP1
      obtain ⟨hP, hD⟩ := va_join (wr := [(x, .inr (9, [.ref st, .ref kp, .int 0, .ref bf, .int 0, .int (-1), .int (-1), .int 0, .ref o1, .ref o2, .ref o3, .ref o4, .ref o5, .ref o6])), (st, .inr (8, [.ref lt, .ref tb, .ref fl, .ref wt, .int 0, .null])), (fl, .inl (cZ, 6, .inl (fun _ => 0)))]) (w1 := []) hP hD [] [0, 1, 2] rfl rfl (by decide) (by decide) hk1 hFc hP1 hD1
      have hP : va_P D vwCl [(x, .inr (9, [.ref st, .ref kp, .int 0, .ref bf, .int 0, .int (-1), .int (-1), .int 0, .ref o1, .ref o2, .ref o3, .ref o4, .ref o5, .ref o6])), (st, .inr (8, [.ref lt, .ref tb, .ref fl, .ref wt, .int 0, .null])), (fl, .inl (cZ, 6, .inl (fun _ => 0)))] H_7 := hP
      have hD : va_D A [(x, .inr (9, [.ref st, .ref kp, .int 0, .ref bf, .int 0, .int (-1), .int (-1), .int 0, .ref o1, .ref o2, .ref o3, .ref o4, .ref o5, .ref o6])), (st, .inr (8, [.ref lt, .ref tb, .ref fl, .ref wt, .int 0, .null])), (fl, .inl (cZ, 6, .inl (fun _ => 0)))] := hD
      refine W.widen (k := 2) (n := 12) (Nat.le_of_ble_eq_true rfl) (Nat.le_of_ble_eq_true rfl) ?_
      refine lv_aload_n hx hb dX10_extractSplit_8 rfl (lv_at hl 0 rfl) ?_
      refine lv_iload_n hx hb dX10_extractSplit_9 rfl (lv_at hl 1 rfl) ?_
      have hPc := hP.sub (ws' := [(x, .inr (9, [.ref st, .ref kp, .int 0, .ref bf, .int 0, .int (-1), .int (-1), .int 0, .ref o1, .ref o2, .ref o3, .ref o4, .ref o5, .ref o6])), (st, .inr (8, [.ref lt, .ref tb, .ref fl, .ref wt, .int 0, .null])), (fl, .inl (cZ, 6, .inl (fun _ => 0)))]) [0, 1, 2] rfl
      have hDc := hD.sub (ws' := [(x, .inr (9, [.ref st, .ref kp, .int 0, .ref bf, .int 0, .int (-1), .int (-1), .int 0, .ref o1, .ref o2, .ref o3, .ref o4, .ref o5, .ref o6])), (st, .inr (8, [.ref lt, .ref tb, .ref fl, .ref wt, .int 0, .null])), (fl, .inl (cZ, 6, .inl (fun _ => 0)))]) [0, 1, 2] (by decide) rfl
      have hFc := va_free (wc := [(x, .inr (9, [.ref st, .ref kp, .int 0, .ref bf, .int 0, .int (-1), .int (-1), .int 0, .ref o1, .ref o2, .ref o3, .ref o4, .ref o5, .ref o6])), (st, .inr (8, [.ref lt, .ref tb, .ref fl, .ref wt, .int 0, .null])), (fl, .inl (cZ, 6, .inl (fun _ => 0)))]) hD hS hA [0, 1, 2] rfl
      refine vx_callq (vx_runV (As := [.int a0]) (rest := []) ⟨hx, hb, hml, hown, hts⟩ (k_X10_tableIn l htr D cI cJ cZ x st kp bf o1 o2 o3 o4 o5 o6 lt tb fl wt a0 H_7.size) (cwV 1 hts gk_X10_extractSplit_X10_tableIn rfl rfl rfl (by decide +kernel) ⟨Nat.le_of_ble_eq_true rfl, Nat.le_of_ble_eq_true rfl⟩) ⟨xPc_blind, va_recv hK hP (ci := 9) (q0 := 0) rfl rfl, xPc_pre hPc hK hDc hE hS hFc hV⟩ rfl rfl hl.1 rfl (lv_room (Nat.le_of_ble_eq_true rfl)) dX10_extractSplit_10 ⟨Nat.le_of_ble_eq_true rfl, Nat.le_of_ble_eq_true rfl⟩) hS (fun q _ h => hFc q h) hFc (fun q _ h => hFc q h) (fun E ce q9 u t H_13 locs ht hvm hpx hBX hz1 hk1 hS hq9 hcv hcl => ?_) (fun r u t H_13 locs ht hvm hw hB hz1 hk1 hS => ?_)
      · rcases hBX with ⟨rfl, e_0⟩ | ⟨rfl, e_0, e_1⟩ | ⟨rfl, e_0, e_1⟩
        · have c_14 : a0.toInt < 0 := e_0
          exfalso; omega
        · have c_15 : 0 ≤ a0.toInt := e_0
          have c_16 : 6 ≤ a0.toInt := e_1
          exfalso; omega
        · have c_17 : 0 ≤ a0.toInt := e_0
          have c_18 : a0.toInt < 6 := e_1
          exact vx_out (fun x hx => (htab x hx).elim) hlocks hq9 hcv hcl (fun t ht hW => ⟨(), trivial, Or.inr (Or.inr (Or.inr (Or.inr ⟨rfl, c_5, c_6, c_11, c_12, c_17, c_18⟩))), hS.F ht⟩) hS.2.2 (Nat.le_of_ble_eq_true rfl) (Nat.le_of_ble_eq_true rfl)
      · exact hw.elim
def wk_X10_splitCorrect : List Cond := .code yX10_splitCorrect cX10_splitCorrect 4 (some .boolean) :: (([.methodLink RX10 153 yX10_tableIn, .instanceMethod yX10_tableIn, .selects RX10 yX10_tableIn yX10_tableIn, .initialized RX10, .code yX10_tableIn cX10_tableIn 2 (some (.object "DocumentSpanner$SortedInts")), .fieldLink RX10 12 "DocumentSpanner" "state" "LDocumentSpanner$State;", .fieldLink RX10 96 "DocumentSpanner$State" "filled" "[Z", .classLink RX10 80 ise, .initialized ise, .methodLink RX10 138 yX10_checkSlot, .static yX10_checkSlot, .code yX10_checkSlot cX10_checkSlot 1 none, .classLink RX10 91 iob, .initialized iob] : List Cond) ++ wsX100 ++ wsX80 ++ (vx_atS RX10 84 ise ["java/lang/RuntimeException", "java/lang/Exception"]).filter goodWord ++ (vx_atS RX10 95 iob ["java/lang/RuntimeException", "java/lang/Exception"]).filter goodWord)
set_option maxRecDepth 20000 in
theorem ggk_X10_splitCorrect_X10_tableIn : GoodIn wk_X10_splitCorrect wk_X10_tableIn := goodIn_ca (goodIn_ca (goodIn_ca (goodIn_ca (goodIn_r _ [5, 6, 7, 8, 9, 10, 11, 4, 12, 13, 14] (by decide +kernel) (by decide +kernel)) (goodIn_sub (fun _ h => List.mem_cons_of_mem _ (List.mem_append_left _ (List.mem_append_left _ (List.mem_append_left _ (List.mem_append_right _ h))))) (by decide +kernel))) (goodIn_sub (fun _ h => List.mem_cons_of_mem _ (List.mem_append_left _ (List.mem_append_left _ (List.mem_append_right _ h)))) (by decide +kernel))) (goodIn_sub (fun _ h => List.mem_cons_of_mem _ (List.mem_append_left _ (List.mem_append_right _ h))) (by decide +kernel))) (goodIn_sub (fun _ h => List.mem_cons_of_mem _ (List.mem_append_right _ h)) (by decide +kernel))
set_option maxRecDepth 20000 in
theorem gk_X10_splitCorrect_X10_tableIn : GoodIn wk_X10_splitCorrect (wsV RX10 153 RX10 yX10_tableIn wk_X10_tableIn) := goodIn_app (goodIn_r _ [1, 2, 3, 4] (by decide +kernel) (by decide +kernel)) ggk_X10_splitCorrect_X10_tableIn
set_option maxHeartbeats 4000000 in
set_option maxRecDepth 100000 in
theorem k_X10_splitCorrect (l : Launch) (htr : l.stackTraces = false) (D : va_G) (cI cJ cZ : ClassId) (x : Nat) (st : Nat) (kp : Nat) (bf : Nat) (o1 : Nat) (o2 : Nat) (o3 : Nat) (o4 : Nat) (o5 : Nat) (o6 : Nat) (lt : Nat) (tb : Nat) (fl : Nat) (wt : Nat) (a0 : Int32) (sz : Nat) : vx_Met l yX10_splitCorrect wk_X10_splitCorrect ({ frames := 8, cells := 2, slots := 12, locals := 123 }) (xPc D cI cJ cZ [.ref x, .int a0] [(x, .inr (9, [.ref st, .ref kp, .int 0, .ref bf, .int 0, .int (-1), .int (-1), .int 0, .ref o1, .ref o2, .ref o3, .ref o4, .ref o5, .ref o6])), (st, .inr (8, [.ref lt, .ref tb, .ref fl, .ref wt, .int 0, .null])), (fl, .inl (cZ, 6, .inl (fun _ => 0)))] sz) (va_Qi (fun (r : Int32) (u : Unit) => False) (fun (u : Unit) (t : State) => va_P D vwCl ([] : va_W) t.heap ∧ va_D (va_A [(x, .inr (9, [.ref st, .ref kp, .int 0, .ref bf, .int 0, .int (-1), .int (-1), .int 0, .ref o1, .ref o2, .ref o3, .ref o4, .ref o5, .ref o6])), (st, .inr (8, [.ref lt, .ref tb, .ref fl, .ref wt, .int 0, .null])), (fl, .inl (cZ, 6, .inl (fun _ => 0)))] sz) ([] : va_W)) (va_A [(x, .inr (9, [.ref st, .ref kp, .int 0, .ref bf, .int 0, .int (-1), .int (-1), .int 0, .ref o1, .ref o2, .ref o3, .ref o4, .ref o5, .ref o6])), (st, .inr (8, [.ref lt, .ref tb, .ref fl, .ref wt, .int 0, .null])), (fl, .inl (cZ, 6, .inl (fun _ => 0)))] sz)) (vx_X (fun _ : Unit => True) (fun (E : String) (_ : Unit) (_ : State) => (E = iob ∧ a0.toInt < 0) ∨ (E = iob ∧ 0 ≤ a0.toInt ∧ 6 ≤ a0.toInt) ∨ (E = ise ∧ 0 ≤ a0.toInt ∧ a0.toInt < 6)) (va_A [(x, .inr (9, [.ref st, .ref kp, .int 0, .ref bf, .int 0, .int (-1), .int (-1), .int 0, .ref o1, .ref o2, .ref o3, .ref o4, .ref o5, .ref o6])), (st, .inr (8, [.ref lt, .ref tb, .ref fl, .ref wt, .int 0, .null])), (fl, .inl (cZ, 6, .inl (fun _ => 0)))] sz)) 2 12 (va_A [(x, .inr (9, [.ref st, .ref kp, .int 0, .ref bf, .int 0, .int (-1), .int (-1), .int 0, .ref o1, .ref o2, .ref o3, .ref o4, .ref o5, .ref o6])), (st, .inr (8, [.ref lt, .ref tb, .ref fl, .ref wt, .int 0, .null])), (fl, .inl (cZ, 6, .inl (fun _ => 0)))] sz) := by
  refine vx_ofW (cc := cX10_splitCorrect) (maxL := 4) (ret := (some .boolean)) (by decide) rfl ?_
  intro p e s m args below meth c s₁ B hml htab hv
  obtain ⟨rfl, hsz, hP, hK, hD0, hE, hV⟩ := hv
  have hx := B.exec
  have hb := B.bytes
  have hr := B.returns
  have hts := atoms_spec (ws := wk_X10_splitCorrect) B.pre
  have hown : s.vm.findClass RX10 = some m.cls := findClass_of_methodNamed B.named
  have hlocks := B.notSynchronized
  subst hsz
  have hD := hD0.self (sz := s.heap.size)
  generalize hAe : va_A [(x, .inr (9, [.ref st, .ref kp, .int 0, .ref bf, .int 0, .int (-1), .int (-1), .int 0, .ref o1, .ref o2, .ref o3, .ref o4, .ref o5, .ref o6])), (st, .inr (8, [.ref lt, .ref tb, .ref fl, .ref wt, .int 0, .null])), (fl, .inl (cZ, 6, .inl (fun _ => 0)))] s.heap.size = A at hD hE ⊢
  have hA : ∀ q : Nat, s.heap.size ≤ q → A q := fun q h => by rw [← hAe]; exact Or.inr h
  have hS : va_S A s.heap s.heap [] := va_S.rf
  have hP : va_P D vwCl [(x, .inr (9, [.ref st, .ref kp, .int 0, .ref bf, .int 0, .int (-1), .int (-1), .int 0, .ref o1, .ref o2, .ref o3, .ref o4, .ref o5, .ref o6])), (st, .inr (8, [.ref lt, .ref tb, .ref fl, .ref wt, .int 0, .null])), (fl, .inl (cZ, 6, .inl (fun _ => 0)))] s.heap := hP
  have hl := lv_entry ([.ref x, .int a0]) (n := 4) (Nat.le_of_ble_eq_true rfl)
  rw [lg_entry_eq]
  generalize (lg_sl ([.ref x, .int a0]) ++ List.replicate (4 - (lg_sl ([.ref x, .int a0])).length) Slot.unset).toArray = ls at hl ⊢
  have hl : lv_has ls 4 [(0, .ref x), (1, .int a0)] := hl
  refine lv_aload_n hx hb dX10_splitCorrect_0 rfl (lv_at hl 0 rfl) ?_
  refine lv_iload_n hx hb dX10_splitCorrect_1 rfl (lv_at hl 1 rfl) ?_
  have hPc := hP.sub (ws' := [(x, .inr (9, [.ref st, .ref kp, .int 0, .ref bf, .int 0, .int (-1), .int (-1), .int 0, .ref o1, .ref o2, .ref o3, .ref o4, .ref o5, .ref o6])), (st, .inr (8, [.ref lt, .ref tb, .ref fl, .ref wt, .int 0, .null])), (fl, .inl (cZ, 6, .inl (fun _ => 0)))]) [0, 1, 2] rfl
  have hDc := hD.sub (ws' := [(x, .inr (9, [.ref st, .ref kp, .int 0, .ref bf, .int 0, .int (-1), .int (-1), .int 0, .ref o1, .ref o2, .ref o3, .ref o4, .ref o5, .ref o6])), (st, .inr (8, [.ref lt, .ref tb, .ref fl, .ref wt, .int 0, .null])), (fl, .inl (cZ, 6, .inl (fun _ => 0)))]) [0, 1, 2] (by decide) rfl
  have hFc := va_free (wc := [(x, .inr (9, [.ref st, .ref kp, .int 0, .ref bf, .int 0, .int (-1), .int (-1), .int 0, .ref o1, .ref o2, .ref o3, .ref o4, .ref o5, .ref o6])), (st, .inr (8, [.ref lt, .ref tb, .ref fl, .ref wt, .int 0, .null])), (fl, .inl (cZ, 6, .inl (fun _ => 0)))]) hD hS hA [0, 1, 2] rfl
  refine vx_callq (vx_runV (As := [.int a0]) (rest := []) ⟨hx, hb, hml, hown, hts⟩ (k_X10_tableIn l htr D cI cJ cZ x st kp bf o1 o2 o3 o4 o5 o6 lt tb fl wt a0 s.heap.size) (cwV 1 hts gk_X10_splitCorrect_X10_tableIn rfl rfl rfl (by decide +kernel) ⟨Nat.le_of_ble_eq_true rfl, Nat.le_of_ble_eq_true rfl⟩) ⟨xPc_blind, va_recv hK hP (ci := 9) (q0 := 0) rfl rfl, xPc_pre hPc hK hDc hE hS hFc hV⟩ rfl rfl hl.1 rfl (lv_room (Nat.le_of_ble_eq_true rfl)) dX10_splitCorrect_2 ⟨Nat.le_of_ble_eq_true rfl, Nat.le_of_ble_eq_true rfl⟩) hS (fun q _ h => hFc q h) hFc (fun q _ h => hFc q h) (fun E ce q9 u t H_1 locs ht hvm hpx hBX hz1 hk1 hS hq9 hcv hcl => ?_) (fun r u t H_1 locs ht hvm hw hB hz1 hk1 hS => ?_)
  · rcases hBX with ⟨rfl, e_0⟩ | ⟨rfl, e_0, e_1⟩ | ⟨rfl, e_0, e_1⟩
    · have c_2 : a0.toInt < 0 := e_0
      exact vx_out (fun x hx => (htab x hx).elim) hlocks hq9 hcv hcl (fun t ht hW => ⟨(), trivial, Or.inl ⟨rfl, c_2⟩, hS.F ht⟩) hS.2.2 (Nat.le_of_ble_eq_true rfl) (Nat.le_of_ble_eq_true rfl)
    · have c_3 : 0 ≤ a0.toInt := e_0
      have c_4 : 6 ≤ a0.toInt := e_1
      exact vx_out (fun x hx => (htab x hx).elim) hlocks hq9 hcv hcl (fun t ht hW => ⟨(), trivial, Or.inr (Or.inl ⟨rfl, c_3, c_4⟩), hS.F ht⟩) hS.2.2 (Nat.le_of_ble_eq_true rfl) (Nat.le_of_ble_eq_true rfl)
    · have c_5 : 0 ≤ a0.toInt := e_0
      have c_6 : a0.toInt < 6 := e_1
      exact vx_out (fun x hx => (htab x hx).elim) hlocks hq9 hcv hcl (fun t ht hW => ⟨(), trivial, Or.inr (Or.inr ⟨rfl, c_5, c_6⟩), hS.F ht⟩) hS.2.2 (Nat.le_of_ble_eq_true rfl) (Nat.le_of_ble_eq_true rfl)
  · exact hw.elim
def wk_X10_openCursor : List Cond := .code yX10_openCursor cX10_openCursor 3 (some .int) :: (([.methodLink RX10 153 yX10_tableIn, .instanceMethod yX10_tableIn, .selects RX10 yX10_tableIn yX10_tableIn, .initialized RX10, .code yX10_tableIn cX10_tableIn 2 (some (.object "DocumentSpanner$SortedInts")), .fieldLink RX10 12 "DocumentSpanner" "state" "LDocumentSpanner$State;", .fieldLink RX10 96 "DocumentSpanner$State" "filled" "[Z", .classLink RX10 80 ise, .initialized ise, .methodLink RX10 138 yX10_checkSlot, .static yX10_checkSlot, .code yX10_checkSlot cX10_checkSlot 1 none, .classLink RX10 91 iob, .initialized iob] : List Cond) ++ wsX100 ++ wsX80 ++ (vx_atS RX10 84 ise ["java/lang/RuntimeException", "java/lang/Exception"]).filter goodWord ++ (vx_atS RX10 95 iob ["java/lang/RuntimeException", "java/lang/Exception"]).filter goodWord)
set_option maxRecDepth 20000 in
theorem ggk_X10_openCursor_X10_tableIn : GoodIn wk_X10_openCursor wk_X10_tableIn := goodIn_ca (goodIn_ca (goodIn_ca (goodIn_ca (goodIn_r _ [5, 6, 7, 8, 9, 10, 11, 4, 12, 13, 14] (by decide +kernel) (by decide +kernel)) (goodIn_sub (fun _ h => List.mem_cons_of_mem _ (List.mem_append_left _ (List.mem_append_left _ (List.mem_append_left _ (List.mem_append_right _ h))))) (by decide +kernel))) (goodIn_sub (fun _ h => List.mem_cons_of_mem _ (List.mem_append_left _ (List.mem_append_left _ (List.mem_append_right _ h)))) (by decide +kernel))) (goodIn_sub (fun _ h => List.mem_cons_of_mem _ (List.mem_append_left _ (List.mem_append_right _ h))) (by decide +kernel))) (goodIn_sub (fun _ h => List.mem_cons_of_mem _ (List.mem_append_right _ h)) (by decide +kernel))
set_option maxRecDepth 20000 in
theorem gk_X10_openCursor_X10_tableIn : GoodIn wk_X10_openCursor (wsV RX10 153 RX10 yX10_tableIn wk_X10_tableIn) := goodIn_app (goodIn_r _ [1, 2, 3, 4] (by decide +kernel) (by decide +kernel)) ggk_X10_openCursor_X10_tableIn
set_option maxHeartbeats 4000000 in
set_option maxRecDepth 100000 in
theorem k_X10_openCursor (l : Launch) (htr : l.stackTraces = false) (D : va_G) (cI cJ cZ : ClassId) (x : Nat) (st : Nat) (kp : Nat) (bf : Nat) (o1 : Nat) (o2 : Nat) (o3 : Nat) (o4 : Nat) (o5 : Nat) (o6 : Nat) (lt : Nat) (tb : Nat) (fl : Nat) (wt : Nat) (a0 : Int32) (sz : Nat) : vx_Met l yX10_openCursor wk_X10_openCursor ({ frames := 8, cells := 2, slots := 12, locals := 123 }) (xPc D cI cJ cZ [.ref x, .int a0] [(x, .inr (9, [.ref st, .ref kp, .int 0, .ref bf, .int 0, .int (-1), .int (-1), .int 0, .ref o1, .ref o2, .ref o3, .ref o4, .ref o5, .ref o6])), (st, .inr (8, [.ref lt, .ref tb, .ref fl, .ref wt, .int 0, .null])), (fl, .inl (cZ, 6, .inl (fun _ => 0)))] sz) (va_Qi (fun (r : Int32) (u : Unit) => False) (fun (u : Unit) (t : State) => va_P D vwCl ([] : va_W) t.heap ∧ va_D (va_A [(x, .inr (9, [.ref st, .ref kp, .int 0, .ref bf, .int 0, .int (-1), .int (-1), .int 0, .ref o1, .ref o2, .ref o3, .ref o4, .ref o5, .ref o6])), (st, .inr (8, [.ref lt, .ref tb, .ref fl, .ref wt, .int 0, .null])), (fl, .inl (cZ, 6, .inl (fun _ => 0)))] sz) ([] : va_W)) (va_A [(x, .inr (9, [.ref st, .ref kp, .int 0, .ref bf, .int 0, .int (-1), .int (-1), .int 0, .ref o1, .ref o2, .ref o3, .ref o4, .ref o5, .ref o6])), (st, .inr (8, [.ref lt, .ref tb, .ref fl, .ref wt, .int 0, .null])), (fl, .inl (cZ, 6, .inl (fun _ => 0)))] sz)) (vx_X (fun _ : Unit => True) (fun (E : String) (_ : Unit) (_ : State) => (E = iob ∧ a0.toInt < 0) ∨ (E = iob ∧ 0 ≤ a0.toInt ∧ 6 ≤ a0.toInt) ∨ (E = ise ∧ 0 ≤ a0.toInt ∧ a0.toInt < 6)) (va_A [(x, .inr (9, [.ref st, .ref kp, .int 0, .ref bf, .int 0, .int (-1), .int (-1), .int 0, .ref o1, .ref o2, .ref o3, .ref o4, .ref o5, .ref o6])), (st, .inr (8, [.ref lt, .ref tb, .ref fl, .ref wt, .int 0, .null])), (fl, .inl (cZ, 6, .inl (fun _ => 0)))] sz)) 2 12 (va_A [(x, .inr (9, [.ref st, .ref kp, .int 0, .ref bf, .int 0, .int (-1), .int (-1), .int 0, .ref o1, .ref o2, .ref o3, .ref o4, .ref o5, .ref o6])), (st, .inr (8, [.ref lt, .ref tb, .ref fl, .ref wt, .int 0, .null])), (fl, .inl (cZ, 6, .inl (fun _ => 0)))] sz) := by
  refine vx_ofW (cc := cX10_openCursor) (maxL := 3) (ret := (some .int)) (by decide) rfl ?_
  intro p e s m args below meth c s₁ B hml htab hv
  obtain ⟨rfl, hsz, hP, hK, hD0, hE, hV⟩ := hv
  have hx := B.exec
  have hb := B.bytes
  have hr := B.returns
  have hts := atoms_spec (ws := wk_X10_openCursor) B.pre
  have hown : s.vm.findClass RX10 = some m.cls := findClass_of_methodNamed B.named
  have hlocks := B.notSynchronized
  subst hsz
  have hD := hD0.self (sz := s.heap.size)
  generalize hAe : va_A [(x, .inr (9, [.ref st, .ref kp, .int 0, .ref bf, .int 0, .int (-1), .int (-1), .int 0, .ref o1, .ref o2, .ref o3, .ref o4, .ref o5, .ref o6])), (st, .inr (8, [.ref lt, .ref tb, .ref fl, .ref wt, .int 0, .null])), (fl, .inl (cZ, 6, .inl (fun _ => 0)))] s.heap.size = A at hD hE ⊢
  have hA : ∀ q : Nat, s.heap.size ≤ q → A q := fun q h => by rw [← hAe]; exact Or.inr h
  have hS : va_S A s.heap s.heap [] := va_S.rf
  have hP : va_P D vwCl [(x, .inr (9, [.ref st, .ref kp, .int 0, .ref bf, .int 0, .int (-1), .int (-1), .int 0, .ref o1, .ref o2, .ref o3, .ref o4, .ref o5, .ref o6])), (st, .inr (8, [.ref lt, .ref tb, .ref fl, .ref wt, .int 0, .null])), (fl, .inl (cZ, 6, .inl (fun _ => 0)))] s.heap := hP
  have hl := lv_entry ([.ref x, .int a0]) (n := 3) (Nat.le_of_ble_eq_true rfl)
  rw [lg_entry_eq]
  generalize (lg_sl ([.ref x, .int a0]) ++ List.replicate (3 - (lg_sl ([.ref x, .int a0])).length) Slot.unset).toArray = ls at hl ⊢
  have hl : lv_has ls 3 [(0, .ref x), (1, .int a0)] := hl
  refine lv_aload_n hx hb dX10_openCursor_0 rfl (lv_at hl 0 rfl) ?_
  refine lv_iload_n hx hb dX10_openCursor_1 rfl (lv_at hl 1 rfl) ?_
  have hPc := hP.sub (ws' := [(x, .inr (9, [.ref st, .ref kp, .int 0, .ref bf, .int 0, .int (-1), .int (-1), .int 0, .ref o1, .ref o2, .ref o3, .ref o4, .ref o5, .ref o6])), (st, .inr (8, [.ref lt, .ref tb, .ref fl, .ref wt, .int 0, .null])), (fl, .inl (cZ, 6, .inl (fun _ => 0)))]) [0, 1, 2] rfl
  have hDc := hD.sub (ws' := [(x, .inr (9, [.ref st, .ref kp, .int 0, .ref bf, .int 0, .int (-1), .int (-1), .int 0, .ref o1, .ref o2, .ref o3, .ref o4, .ref o5, .ref o6])), (st, .inr (8, [.ref lt, .ref tb, .ref fl, .ref wt, .int 0, .null])), (fl, .inl (cZ, 6, .inl (fun _ => 0)))]) [0, 1, 2] (by decide) rfl
  have hFc := va_free (wc := [(x, .inr (9, [.ref st, .ref kp, .int 0, .ref bf, .int 0, .int (-1), .int (-1), .int 0, .ref o1, .ref o2, .ref o3, .ref o4, .ref o5, .ref o6])), (st, .inr (8, [.ref lt, .ref tb, .ref fl, .ref wt, .int 0, .null])), (fl, .inl (cZ, 6, .inl (fun _ => 0)))]) hD hS hA [0, 1, 2] rfl
  refine vx_callq (vx_runV (As := [.int a0]) (rest := []) ⟨hx, hb, hml, hown, hts⟩ (k_X10_tableIn l htr D cI cJ cZ x st kp bf o1 o2 o3 o4 o5 o6 lt tb fl wt a0 s.heap.size) (cwV 1 hts gk_X10_openCursor_X10_tableIn rfl rfl rfl (by decide +kernel) ⟨Nat.le_of_ble_eq_true rfl, Nat.le_of_ble_eq_true rfl⟩) ⟨xPc_blind, va_recv hK hP (ci := 9) (q0 := 0) rfl rfl, xPc_pre hPc hK hDc hE hS hFc hV⟩ rfl rfl hl.1 rfl (lv_room (Nat.le_of_ble_eq_true rfl)) dX10_openCursor_2 ⟨Nat.le_of_ble_eq_true rfl, Nat.le_of_ble_eq_true rfl⟩) hS (fun q _ h => hFc q h) hFc (fun q _ h => hFc q h) (fun E ce q9 u t H_1 locs ht hvm hpx hBX hz1 hk1 hS hq9 hcv hcl => ?_) (fun r u t H_1 locs ht hvm hw hB hz1 hk1 hS => ?_)
  · rcases hBX with ⟨rfl, e_0⟩ | ⟨rfl, e_0, e_1⟩ | ⟨rfl, e_0, e_1⟩
    · have c_2 : a0.toInt < 0 := e_0
      exact vx_out (fun x hx => (htab x hx).elim) hlocks hq9 hcv hcl (fun t ht hW => ⟨(), trivial, Or.inl ⟨rfl, c_2⟩, hS.F ht⟩) hS.2.2 (Nat.le_of_ble_eq_true rfl) (Nat.le_of_ble_eq_true rfl)
    · have c_3 : 0 ≤ a0.toInt := e_0
      have c_4 : 6 ≤ a0.toInt := e_1
      exact vx_out (fun x hx => (htab x hx).elim) hlocks hq9 hcv hcl (fun t ht hW => ⟨(), trivial, Or.inr (Or.inl ⟨rfl, c_3, c_4⟩), hS.F ht⟩) hS.2.2 (Nat.le_of_ble_eq_true rfl) (Nat.le_of_ble_eq_true rfl)
    · have c_5 : 0 ≤ a0.toInt := e_0
      have c_6 : a0.toInt < 6 := e_1
      exact vx_out (fun x hx => (htab x hx).elim) hlocks hq9 hcv hcl (fun t ht hW => ⟨(), trivial, Or.inr (Or.inr ⟨rfl, c_5, c_6⟩), hS.F ht⟩) hS.2.2 (Nat.le_of_ble_eq_true rfl) (Nat.le_of_ble_eq_true rfl)
  · exact hw.elim
def wk_X10_cursorRow : List Cond := .code yX10_cursorRow cX10_cursorRow 1 (some .int) :: (([.methodLink RX10 278 yX10_cursorTable, .instanceMethod yX10_cursorTable, .selects RX10 yX10_cursorTable yX10_cursorTable, .initialized RX10, .code yX10_cursorTable cX10_cursorTable 1 (some (.object "DocumentSpanner$SortedInts")), .fieldLink RX10 34 "DocumentSpanner" "cursorSlot" "I", .classLink RX10 80 ise, .initialized ise] : List Cond) ++ wsX100 ++ (vx_atS RX10 84 ise ["java/lang/RuntimeException", "java/lang/Exception"]).filter goodWord)
set_option maxRecDepth 20000 in
theorem ggk_X10_cursorRow_X10_cursorTable : GoodIn wk_X10_cursorRow wk_X10_cursorTable := goodIn_ca (goodIn_ca (goodIn_r _ [5, 6, 7, 8] (by decide +kernel) (by decide +kernel)) (goodIn_sub (fun _ h => List.mem_cons_of_mem _ (List.mem_append_left _ (List.mem_append_right _ h))) (by decide +kernel))) (goodIn_sub (fun _ h => List.mem_cons_of_mem _ (List.mem_append_right _ h)) (by decide +kernel))
set_option maxRecDepth 20000 in
theorem gk_X10_cursorRow_X10_cursorTable : GoodIn wk_X10_cursorRow (wsV RX10 278 RX10 yX10_cursorTable wk_X10_cursorTable) := goodIn_app (goodIn_r _ [1, 2, 3, 4] (by decide +kernel) (by decide +kernel)) ggk_X10_cursorRow_X10_cursorTable
set_option maxHeartbeats 4000000 in
set_option maxRecDepth 100000 in
theorem k_X10_cursorRow (l : Launch) (htr : l.stackTraces = false) (D : va_G) (cI cJ cZ : ClassId) (x : Nat) (st : Nat) (kp : Nat) (bf : Nat) (o1 : Nat) (o2 : Nat) (o3 : Nat) (o4 : Nat) (o5 : Nat) (o6 : Nat) (sz : Nat) : vx_Met l yX10_cursorRow wk_X10_cursorRow ({ frames := 7, cells := 1, slots := 6, locals := 102 }) (xPc D cI cJ cZ [.ref x] [(x, .inr (9, [.ref st, .ref kp, .int 0, .ref bf, .int 0, .int (-1), .int (-1), .int 0, .ref o1, .ref o2, .ref o3, .ref o4, .ref o5, .ref o6]))] sz) (va_Qi (fun (r : Int32) (u : Unit) => False) (fun (u : Unit) (t : State) => va_P D vwCl ([] : va_W) t.heap ∧ va_D (va_A [(x, .inr (9, [.ref st, .ref kp, .int 0, .ref bf, .int 0, .int (-1), .int (-1), .int 0, .ref o1, .ref o2, .ref o3, .ref o4, .ref o5, .ref o6]))] sz) ([] : va_W)) (va_A [(x, .inr (9, [.ref st, .ref kp, .int 0, .ref bf, .int 0, .int (-1), .int (-1), .int 0, .ref o1, .ref o2, .ref o3, .ref o4, .ref o5, .ref o6]))] sz)) (vx_X (fun _ : Unit => True) (fun (E : String) (_ : Unit) (_ : State) => (E = ise)) (va_A [(x, .inr (9, [.ref st, .ref kp, .int 0, .ref bf, .int 0, .int (-1), .int (-1), .int 0, .ref o1, .ref o2, .ref o3, .ref o4, .ref o5, .ref o6]))] sz)) 1 6 (va_A [(x, .inr (9, [.ref st, .ref kp, .int 0, .ref bf, .int 0, .int (-1), .int (-1), .int 0, .ref o1, .ref o2, .ref o3, .ref o4, .ref o5, .ref o6]))] sz) := by
  refine vx_ofW (cc := cX10_cursorRow) (maxL := 1) (ret := (some .int)) (by decide) rfl ?_
  intro p e s m args below meth c s₁ B hml htab hv
  obtain ⟨rfl, hsz, hP, hK, hD0, hE, hV⟩ := hv
  have hx := B.exec
  have hb := B.bytes
  have hr := B.returns
  have hts := atoms_spec (ws := wk_X10_cursorRow) B.pre
  have hown : s.vm.findClass RX10 = some m.cls := findClass_of_methodNamed B.named
  have hlocks := B.notSynchronized
  subst hsz
  have hD := hD0.self (sz := s.heap.size)
  generalize hAe : va_A [(x, .inr (9, [.ref st, .ref kp, .int 0, .ref bf, .int 0, .int (-1), .int (-1), .int 0, .ref o1, .ref o2, .ref o3, .ref o4, .ref o5, .ref o6]))] s.heap.size = A at hD hE ⊢
  have hA : ∀ q : Nat, s.heap.size ≤ q → A q := fun q h => by rw [← hAe]; exact Or.inr h
  have hS : va_S A s.heap s.heap [] := va_S.rf
  have hP : va_P D vwCl [(x, .inr (9, [.ref st, .ref kp, .int 0, .ref bf, .int 0, .int (-1), .int (-1), .int 0, .ref o1, .ref o2, .ref o3, .ref o4, .ref o5, .ref o6]))] s.heap := hP
  have hl := lv_entry ([.ref x]) (n := 1) (Nat.le_of_ble_eq_true rfl)
  rw [lg_entry_eq]
  generalize (lg_sl ([.ref x]) ++ List.replicate (1 - (lg_sl ([.ref x])).length) Slot.unset).toArray = ls at hl ⊢
  have hl : lv_has ls 1 [(0, .ref x)] := hl
  refine lv_aload_n hx hb dX10_cursorRow_0 rfl (lv_at hl 0 rfl) ?_
  refine lv_aload_n hx hb dX10_cursorRow_1 rfl (lv_at hl 0 rfl) ?_
  have hPc := hP.sub (ws' := [(x, .inr (9, [.ref st, .ref kp, .int 0, .ref bf, .int 0, .int (-1), .int (-1), .int 0, .ref o1, .ref o2, .ref o3, .ref o4, .ref o5, .ref o6]))]) [0] rfl
  have hDc := hD.sub (ws' := [(x, .inr (9, [.ref st, .ref kp, .int 0, .ref bf, .int 0, .int (-1), .int (-1), .int 0, .ref o1, .ref o2, .ref o3, .ref o4, .ref o5, .ref o6]))]) [0] (by decide) rfl
  have hFc := va_free (wc := [(x, .inr (9, [.ref st, .ref kp, .int 0, .ref bf, .int 0, .int (-1), .int (-1), .int 0, .ref o1, .ref o2, .ref o3, .ref o4, .ref o5, .ref o6]))]) hD hS hA [0] rfl
  refine vx_callq (vx_runV (As := []) (rest := [.ref x]) ⟨hx, hb, hml, hown, hts⟩ (k_X10_cursorTable l htr D cI cJ cZ x st kp bf o1 o2 o3 o4 o5 o6 s.heap.size) (cwV 0 hts gk_X10_cursorRow_X10_cursorTable rfl rfl rfl (by decide +kernel) ⟨Nat.le_of_ble_eq_true rfl, Nat.le_of_ble_eq_true rfl⟩) ⟨xPc_blind, va_recv hK hP (ci := 9) (q0 := 0) rfl rfl, xPc_pre hPc hK hDc hE hS hFc hV⟩ rfl rfl hl.1 rfl (lv_room (Nat.le_of_ble_eq_true rfl)) dX10_cursorRow_2 ⟨Nat.le_of_ble_eq_true rfl, Nat.le_of_ble_eq_true rfl⟩) hS (fun q _ h => hFc q h) hFc (fun q _ h => hFc q h) (fun E ce q9 u t H_1 locs ht hvm hpx hBX hz1 hk1 hS hq9 hcv hcl => ?_) (fun r u t H_1 locs ht hvm hw hB hz1 hk1 hS => ?_)
  · rcases hBX with rfl
    exact vx_out (fun x hx => (htab x hx).elim) hlocks hq9 hcv hcl (fun t ht hW => ⟨(), trivial, rfl, hS.F ht⟩) hS.2.2 (Nat.le_of_ble_eq_true rfl) (Nat.le_of_ble_eq_true rfl)
  · exact hw.elim
def wk_X10_advance : List Cond := .code yX10_advance cX10_advance 3 (some .int) :: (([.classLink RX10 70 iae, .initialized iae, .methodLink RX10 278 yX10_cursorTable, .instanceMethod yX10_cursorTable, .selects RX10 yX10_cursorTable yX10_cursorTable, .initialized RX10, .code yX10_cursorTable cX10_cursorTable 1 (some (.object "DocumentSpanner$SortedInts")), .fieldLink RX10 34 "DocumentSpanner" "cursorSlot" "I", .classLink RX10 80 ise, .initialized ise] : List Cond) ++ wsX100 ++ (vx_atS RX10 74 iae ["java/lang/RuntimeException", "java/lang/Exception"]).filter goodWord ++ (vx_atS RX10 84 ise ["java/lang/RuntimeException", "java/lang/Exception"]).filter goodWord)
set_option maxRecDepth 20000 in
theorem ggk_X10_advance_X10_cursorTable : GoodIn wk_X10_advance wk_X10_cursorTable := goodIn_ca (goodIn_ca (goodIn_r _ [7, 8, 9, 10] (by decide +kernel) (by decide +kernel)) (goodIn_sub (fun _ h => List.mem_cons_of_mem _ (List.mem_append_left _ (List.mem_append_left _ (List.mem_append_right _ h)))) (by decide +kernel))) (goodIn_sub (fun _ h => List.mem_cons_of_mem _ (List.mem_append_right _ h)) (by decide +kernel))
set_option maxRecDepth 20000 in
theorem gk_X10_advance_X10_cursorTable : GoodIn wk_X10_advance (wsV RX10 278 RX10 yX10_cursorTable wk_X10_cursorTable) := goodIn_app (goodIn_r _ [3, 4, 5, 6] (by decide +kernel) (by decide +kernel)) ggk_X10_advance_X10_cursorTable
set_option maxHeartbeats 4000000 in
set_option maxRecDepth 100000 in
theorem k_X10_advance (l : Launch) (htr : l.stackTraces = false) (D : va_G) (cI cJ cZ : ClassId) (x : Nat) (st : Nat) (kp : Nat) (bf : Nat) (o1 : Nat) (o2 : Nat) (o3 : Nat) (o4 : Nat) (o5 : Nat) (o6 : Nat) (a0 : Int32) (sz : Nat) : vx_Met l yX10_advance wk_X10_advance ({ frames := 7, cells := 1, slots := 6, locals := 102 }) (xPc D cI cJ cZ [.ref x, .int a0] [(x, .inr (9, [.ref st, .ref kp, .int 0, .ref bf, .int 0, .int (-1), .int (-1), .int 0, .ref o1, .ref o2, .ref o3, .ref o4, .ref o5, .ref o6]))] sz) (va_Qi (fun (r : Int32) (u : Unit) => False) (fun (u : Unit) (t : State) => va_P D vwCl ([] : va_W) t.heap ∧ va_D (va_A [(x, .inr (9, [.ref st, .ref kp, .int 0, .ref bf, .int 0, .int (-1), .int (-1), .int 0, .ref o1, .ref o2, .ref o3, .ref o4, .ref o5, .ref o6]))] sz) ([] : va_W)) (va_A [(x, .inr (9, [.ref st, .ref kp, .int 0, .ref bf, .int 0, .int (-1), .int (-1), .int 0, .ref o1, .ref o2, .ref o3, .ref o4, .ref o5, .ref o6]))] sz)) (vx_X (fun _ : Unit => True) (fun (E : String) (_ : Unit) (_ : State) => (E = ise ∧ 0 ≤ a0.toInt) ∨ (E = iae ∧ a0.toInt < 0)) (va_A [(x, .inr (9, [.ref st, .ref kp, .int 0, .ref bf, .int 0, .int (-1), .int (-1), .int 0, .ref o1, .ref o2, .ref o3, .ref o4, .ref o5, .ref o6]))] sz)) 1 6 (va_A [(x, .inr (9, [.ref st, .ref kp, .int 0, .ref bf, .int 0, .int (-1), .int (-1), .int 0, .ref o1, .ref o2, .ref o3, .ref o4, .ref o5, .ref o6]))] sz) := by
  refine vx_ofW (cc := cX10_advance) (maxL := 3) (ret := (some .int)) (by decide) rfl ?_
  intro p e s m args below meth c s₁ B hml htab hv
  obtain ⟨rfl, hsz, hP, hK, hD0, hE, hV⟩ := hv
  have hx := B.exec
  have hb := B.bytes
  have hr := B.returns
  have hts := atoms_spec (ws := wk_X10_advance) B.pre
  have hown : s.vm.findClass RX10 = some m.cls := findClass_of_methodNamed B.named
  have hlocks := B.notSynchronized
  have w_1 := hts (.classLink RX10 70 iae) (List.mem_of_getElem? (i := 1) rfl)
  have w_2 := hts (.initialized iae) (List.mem_of_getElem? (i := 2) rfl)
  have w_3 := xat_74 (fun w h => hts w (List.mem_cons_of_mem _ (List.mem_append_left _ (List.mem_append_right _ h)))) hV
  subst hsz
  have hD := hD0.self (sz := s.heap.size)
  generalize hAe : va_A [(x, .inr (9, [.ref st, .ref kp, .int 0, .ref bf, .int 0, .int (-1), .int (-1), .int 0, .ref o1, .ref o2, .ref o3, .ref o4, .ref o5, .ref o6]))] s.heap.size = A at hD hE ⊢
  have hA : ∀ q : Nat, s.heap.size ≤ q → A q := fun q h => by rw [← hAe]; exact Or.inr h
  have hS : va_S A s.heap s.heap [] := va_S.rf
  have hP : va_P D vwCl [(x, .inr (9, [.ref st, .ref kp, .int 0, .ref bf, .int 0, .int (-1), .int (-1), .int 0, .ref o1, .ref o2, .ref o3, .ref o4, .ref o5, .ref o6]))] s.heap := hP
  have hl := lv_entry ([.ref x, .int a0]) (n := 3) (Nat.le_of_ble_eq_true rfl)
  rw [lg_entry_eq]
  generalize (lg_sl ([.ref x, .int a0]) ++ List.replicate (3 - (lg_sl ([.ref x, .int a0])).length) Slot.unset).toArray = ls at hl ⊢
  have hl : lv_has ls 3 [(0, .ref x), (1, .int a0)] := hl
  refine lv_iload_n hx hb dX10_advance_0 rfl (lv_at hl 1 rfl) ?_
  refine lv_if_ge (tgt := 15) hx hb dX10_advance_1 (by decide) (fun c_1 => ?_) (fun c_1 => ?_)
  · have c_1 : 0 ≤ a0.toInt := xle c_1
    refine lv_aload_n hx hb dX10_advance_15 rfl (lv_at hl 0 rfl) ?_
    have hPc := hP.sub (ws' := [(x, .inr (9, [.ref st, .ref kp, .int 0, .ref bf, .int 0, .int (-1), .int (-1), .int 0, .ref o1, .ref o2, .ref o3, .ref o4, .ref o5, .ref o6]))]) [0] rfl
    have hDc := hD.sub (ws' := [(x, .inr (9, [.ref st, .ref kp, .int 0, .ref bf, .int 0, .int (-1), .int (-1), .int 0, .ref o1, .ref o2, .ref o3, .ref o4, .ref o5, .ref o6]))]) [0] (by decide) rfl
    have hFc := va_free (wc := [(x, .inr (9, [.ref st, .ref kp, .int 0, .ref bf, .int 0, .int (-1), .int (-1), .int 0, .ref o1, .ref o2, .ref o3, .ref o4, .ref o5, .ref o6]))]) hD hS hA [0] rfl
    refine vx_callq (vx_runV (As := []) (rest := []) ⟨hx, hb, hml, hown, hts⟩ (k_X10_cursorTable l htr D cI cJ cZ x st kp bf o1 o2 o3 o4 o5 o6 s.heap.size) (cwV 0 hts gk_X10_advance_X10_cursorTable rfl rfl rfl (by decide +kernel) ⟨Nat.le_of_ble_eq_true rfl, Nat.le_of_ble_eq_true rfl⟩) ⟨xPc_blind, va_recv hK hP (ci := 9) (q0 := 0) rfl rfl, xPc_pre hPc hK hDc hE hS hFc hV⟩ rfl rfl hl.1 rfl (lv_room (Nat.le_of_ble_eq_true rfl)) dX10_advance_16 ⟨Nat.le_of_ble_eq_true rfl, Nat.le_of_ble_eq_true rfl⟩) hS (fun q _ h => hFc q h) hFc (fun q _ h => hFc q h) (fun E ce q9 u t H_2 locs ht hvm hpx hBX hz1 hk1 hS hq9 hcv hcl => ?_) (fun r u t H_2 locs ht hvm hw hB hz1 hk1 hS => ?_)
    · rcases hBX with rfl
      exact vx_out (fun x hx => (htab x hx).elim) hlocks hq9 hcv hcl (fun t ht hW => ⟨(), trivial, Or.inl ⟨rfl, c_1⟩, hS.F ht⟩) hS.2.2 (Nat.le_of_ble_eq_true rfl) (Nat.le_of_ble_eq_true rfl)
    · exact hw.elim
  · have c_1 : a0.toInt < 0 := xnle c_1
    obtain ⟨sa, hstr⟩ := hV.1 (286, "the number of rows is negative") (by decide)
    exact vx_throwSW (names := ["java/lang/RuntimeException", "java/lang/Exception"]) hx hb htr hown (by decide +kernel) (by decide +kernel) w_1 w_2 hstr w_3 xgood_70_74 hE.1 hE.2 hS (hl.1.trans hml.symm) dX10_advance_4 dX10_advance_7 dX10_advance_8 dX10_advance_11 dX10_advance_14 (fun x hx => (htab x hx).elim) (Nat.le_of_ble_eq_true rfl) (Nat.le_of_ble_eq_true rfl) (Nat.le_of_ble_eq_true rfl) (Nat.le_of_ble_eq_true rfl) hlocks (fun t h1 h2 h3 => ⟨(), trivial, Or.inr ⟨rfl, c_1⟩, xF hS h2 h3⟩) hS.2.2 (Nat.le_of_ble_eq_true rfl) (Nat.le_of_ble_eq_true rfl)
def wk_X10_skipTo : List Cond := .code yX10_skipTo cX10_skipTo 4 (some .int) :: (([.methodLink RX10 278 yX10_cursorTable, .instanceMethod yX10_cursorTable, .selects RX10 yX10_cursorTable yX10_cursorTable, .initialized RX10, .code yX10_cursorTable cX10_cursorTable 1 (some (.object "DocumentSpanner$SortedInts")), .fieldLink RX10 34 "DocumentSpanner" "cursorSlot" "I", .classLink RX10 80 ise, .initialized ise] : List Cond) ++ wsX100 ++ (vx_atS RX10 84 ise ["java/lang/RuntimeException", "java/lang/Exception"]).filter goodWord)
set_option maxRecDepth 20000 in
theorem ggk_X10_skipTo_X10_cursorTable : GoodIn wk_X10_skipTo wk_X10_cursorTable := goodIn_ca (goodIn_ca (goodIn_r _ [5, 6, 7, 8] (by decide +kernel) (by decide +kernel)) (goodIn_sub (fun _ h => List.mem_cons_of_mem _ (List.mem_append_left _ (List.mem_append_right _ h))) (by decide +kernel))) (goodIn_sub (fun _ h => List.mem_cons_of_mem _ (List.mem_append_right _ h)) (by decide +kernel))
set_option maxRecDepth 20000 in
theorem gk_X10_skipTo_X10_cursorTable : GoodIn wk_X10_skipTo (wsV RX10 278 RX10 yX10_cursorTable wk_X10_cursorTable) := goodIn_app (goodIn_r _ [1, 2, 3, 4] (by decide +kernel) (by decide +kernel)) ggk_X10_skipTo_X10_cursorTable
set_option maxHeartbeats 4000000 in
set_option maxRecDepth 100000 in
theorem k_X10_skipTo (l : Launch) (htr : l.stackTraces = false) (D : va_G) (cI cJ cZ : ClassId) (x : Nat) (st : Nat) (kp : Nat) (bf : Nat) (o1 : Nat) (o2 : Nat) (o3 : Nat) (o4 : Nat) (o5 : Nat) (o6 : Nat) (a0 : Int32) (sz : Nat) : vx_Met l yX10_skipTo wk_X10_skipTo ({ frames := 7, cells := 1, slots := 6, locals := 102 }) (xPc D cI cJ cZ [.ref x, .int a0] [(x, .inr (9, [.ref st, .ref kp, .int 0, .ref bf, .int 0, .int (-1), .int (-1), .int 0, .ref o1, .ref o2, .ref o3, .ref o4, .ref o5, .ref o6]))] sz) (va_Qi (fun (r : Int32) (u : Unit) => False) (fun (u : Unit) (t : State) => va_P D vwCl ([] : va_W) t.heap ∧ va_D (va_A [(x, .inr (9, [.ref st, .ref kp, .int 0, .ref bf, .int 0, .int (-1), .int (-1), .int 0, .ref o1, .ref o2, .ref o3, .ref o4, .ref o5, .ref o6]))] sz) ([] : va_W)) (va_A [(x, .inr (9, [.ref st, .ref kp, .int 0, .ref bf, .int 0, .int (-1), .int (-1), .int 0, .ref o1, .ref o2, .ref o3, .ref o4, .ref o5, .ref o6]))] sz)) (vx_X (fun _ : Unit => True) (fun (E : String) (_ : Unit) (_ : State) => (E = ise)) (va_A [(x, .inr (9, [.ref st, .ref kp, .int 0, .ref bf, .int 0, .int (-1), .int (-1), .int 0, .ref o1, .ref o2, .ref o3, .ref o4, .ref o5, .ref o6]))] sz)) 1 6 (va_A [(x, .inr (9, [.ref st, .ref kp, .int 0, .ref bf, .int 0, .int (-1), .int (-1), .int 0, .ref o1, .ref o2, .ref o3, .ref o4, .ref o5, .ref o6]))] sz) := by
  refine vx_ofW (cc := cX10_skipTo) (maxL := 4) (ret := (some .int)) (by decide) rfl ?_
  intro p e s m args below meth c s₁ B hml htab hv
  obtain ⟨rfl, hsz, hP, hK, hD0, hE, hV⟩ := hv
  have hx := B.exec
  have hb := B.bytes
  have hr := B.returns
  have hts := atoms_spec (ws := wk_X10_skipTo) B.pre
  have hown : s.vm.findClass RX10 = some m.cls := findClass_of_methodNamed B.named
  have hlocks := B.notSynchronized
  subst hsz
  have hD := hD0.self (sz := s.heap.size)
  generalize hAe : va_A [(x, .inr (9, [.ref st, .ref kp, .int 0, .ref bf, .int 0, .int (-1), .int (-1), .int 0, .ref o1, .ref o2, .ref o3, .ref o4, .ref o5, .ref o6]))] s.heap.size = A at hD hE ⊢
  have hA : ∀ q : Nat, s.heap.size ≤ q → A q := fun q h => by rw [← hAe]; exact Or.inr h
  have hS : va_S A s.heap s.heap [] := va_S.rf
  have hP : va_P D vwCl [(x, .inr (9, [.ref st, .ref kp, .int 0, .ref bf, .int 0, .int (-1), .int (-1), .int 0, .ref o1, .ref o2, .ref o3, .ref o4, .ref o5, .ref o6]))] s.heap := hP
  have hl := lv_entry ([.ref x, .int a0]) (n := 4) (Nat.le_of_ble_eq_true rfl)
  rw [lg_entry_eq]
  generalize (lg_sl ([.ref x, .int a0]) ++ List.replicate (4 - (lg_sl ([.ref x, .int a0])).length) Slot.unset).toArray = ls at hl ⊢
  have hl : lv_has ls 4 [(0, .ref x), (1, .int a0)] := hl
  refine lv_aload_n hx hb dX10_skipTo_0 rfl (lv_at hl 0 rfl) ?_
  have hPc := hP.sub (ws' := [(x, .inr (9, [.ref st, .ref kp, .int 0, .ref bf, .int 0, .int (-1), .int (-1), .int 0, .ref o1, .ref o2, .ref o3, .ref o4, .ref o5, .ref o6]))]) [0] rfl
  have hDc := hD.sub (ws' := [(x, .inr (9, [.ref st, .ref kp, .int 0, .ref bf, .int 0, .int (-1), .int (-1), .int 0, .ref o1, .ref o2, .ref o3, .ref o4, .ref o5, .ref o6]))]) [0] (by decide) rfl
  have hFc := va_free (wc := [(x, .inr (9, [.ref st, .ref kp, .int 0, .ref bf, .int 0, .int (-1), .int (-1), .int 0, .ref o1, .ref o2, .ref o3, .ref o4, .ref o5, .ref o6]))]) hD hS hA [0] rfl
  refine vx_callq (vx_runV (As := []) (rest := []) ⟨hx, hb, hml, hown, hts⟩ (k_X10_cursorTable l htr D cI cJ cZ x st kp bf o1 o2 o3 o4 o5 o6 s.heap.size) (cwV 0 hts gk_X10_skipTo_X10_cursorTable rfl rfl rfl (by decide +kernel) ⟨Nat.le_of_ble_eq_true rfl, Nat.le_of_ble_eq_true rfl⟩) ⟨xPc_blind, va_recv hK hP (ci := 9) (q0 := 0) rfl rfl, xPc_pre hPc hK hDc hE hS hFc hV⟩ rfl rfl hl.1 rfl (lv_room (Nat.le_of_ble_eq_true rfl)) dX10_skipTo_1 ⟨Nat.le_of_ble_eq_true rfl, Nat.le_of_ble_eq_true rfl⟩) hS (fun q _ h => hFc q h) hFc (fun q _ h => hFc q h) (fun E ce q9 u t H_1 locs ht hvm hpx hBX hz1 hk1 hS hq9 hcv hcl => ?_) (fun r u t H_1 locs ht hvm hw hB hz1 hk1 hS => ?_)
  · rcases hBX with rfl
    exact vx_out (fun x hx => (htab x hx).elim) hlocks hq9 hcv hcl (fun t ht hW => ⟨(), trivial, rfl, hS.F ht⟩) hS.2.2 (Nat.le_of_ble_eq_true rfl) (Nat.le_of_ble_eq_true rfl)
  · exact hw.elim
def wk_X10_setWeight : List Cond := .code yX10_setWeight cX10_setWeight 4 (some .int) :: (([.fieldLink RX10 12 "DocumentSpanner" "state" "LDocumentSpanner$State;", .fieldLink RX10 293 "DocumentSpanner$State" "weights" "[I", .methodLink RX10 189 yX10_checkVariable, .static yX10_checkVariable, .initialized RX10, .code yX10_checkVariable cX10_checkVariable 1 none, .classLink RX10 91 iob, .initialized iob] : List Cond) ++ wsX100 ++ wsX80 ++ (vx_atS RX10 95 iob ["java/lang/RuntimeException", "java/lang/Exception"]).filter goodWord)
set_option maxRecDepth 20000 in
theorem ggk_X10_setWeight_X10_checkVariable : GoodIn wk_X10_setWeight wk_X10_checkVariable := goodIn_ca (goodIn_r _ [6, 7, 8] (by decide +kernel) (by decide +kernel)) (goodIn_sub (fun _ h => List.mem_cons_of_mem _ (List.mem_append_right _ h)) (by decide +kernel))
set_option maxRecDepth 20000 in
theorem gk_X10_setWeight_X10_checkVariable : GoodIn wk_X10_setWeight (va_wsS RX10 189 yX10_checkVariable wk_X10_checkVariable) := goodIn_app (goodIn_r _ [3, 4, 5] (by decide +kernel) (by decide +kernel)) ggk_X10_setWeight_X10_checkVariable
set_option maxHeartbeats 4000000 in
set_option maxRecDepth 100000 in
theorem k_X10_setWeight (l : Launch) (htr : l.stackTraces = false) (D : va_G) (cI cJ cZ : ClassId) (x : Nat) (st : Nat) (kp : Nat) (bf : Nat) (o1 : Nat) (o2 : Nat) (o3 : Nat) (o4 : Nat) (o5 : Nat) (o6 : Nat) (lt : Nat) (tb : Nat) (fl : Nat) (wt : Nat) (a0 : Int32) (a1 : Int32) (sz : Nat) : vx_Met l yX10_setWeight wk_X10_setWeight ({ frames := 7, cells := 1, slots := 6, locals := 102 }) (xPc D cI cJ cZ [.ref x, .int a0, .int a1] [(x, .inr (9, [.ref st, .ref kp, .int 0, .ref bf, .int 0, .int (-1), .int (-1), .int 0, .ref o1, .ref o2, .ref o3, .ref o4, .ref o5, .ref o6])), (st, .inr (8, [.ref lt, .ref tb, .ref fl, .ref wt, .int 0, .null])), (wt, .inl (cI, 3, .inl (fun _ => 1)))] sz) (va_Qi (fun (r : Int32) (u : Unit) => (r = 1 ∧ 0 ≤ a0.toInt ∧ a0.toInt < 3)) (fun (u : Unit) (t : State) => va_P D vwCl ([] : va_W) t.heap ∧ va_D (va_A [(x, .inr (9, [.ref st, .ref kp, .int 0, .ref bf, .int 0, .int (-1), .int (-1), .int 0, .ref o1, .ref o2, .ref o3, .ref o4, .ref o5, .ref o6])), (st, .inr (8, [.ref lt, .ref tb, .ref fl, .ref wt, .int 0, .null])), (wt, .inl (cI, 3, .inl (fun _ => 1)))] sz) ([] : va_W)) (va_A [(x, .inr (9, [.ref st, .ref kp, .int 0, .ref bf, .int 0, .int (-1), .int (-1), .int 0, .ref o1, .ref o2, .ref o3, .ref o4, .ref o5, .ref o6])), (st, .inr (8, [.ref lt, .ref tb, .ref fl, .ref wt, .int 0, .null])), (wt, .inl (cI, 3, .inl (fun _ => 1)))] sz)) (vx_X (fun _ : Unit => True) (fun (E : String) (_ : Unit) (_ : State) => (E = iob ∧ a0.toInt < 0) ∨ (E = iob ∧ 0 ≤ a0.toInt ∧ 3 ≤ a0.toInt)) (va_A [(x, .inr (9, [.ref st, .ref kp, .int 0, .ref bf, .int 0, .int (-1), .int (-1), .int 0, .ref o1, .ref o2, .ref o3, .ref o4, .ref o5, .ref o6])), (st, .inr (8, [.ref lt, .ref tb, .ref fl, .ref wt, .int 0, .null])), (wt, .inl (cI, 3, .inl (fun _ => 1)))] sz)) 1 6 (va_A [(x, .inr (9, [.ref st, .ref kp, .int 0, .ref bf, .int 0, .int (-1), .int (-1), .int 0, .ref o1, .ref o2, .ref o3, .ref o4, .ref o5, .ref o6])), (st, .inr (8, [.ref lt, .ref tb, .ref fl, .ref wt, .int 0, .null])), (wt, .inl (cI, 3, .inl (fun _ => 1)))] sz) := by
  refine vx_ofW (cc := cX10_setWeight) (maxL := 4) (ret := (some .int)) (by decide) rfl ?_
  intro p e s m args below meth c s₁ B hml htab hv
  obtain ⟨rfl, hsz, hP, hK, hD0, hE, hV⟩ := hv
  have hx := B.exec
  have hb := B.bytes
  have hr := B.returns
  have hts := atoms_spec (ws := wk_X10_setWeight) B.pre
  have hown : s.vm.findClass RX10 = some m.cls := findClass_of_methodNamed B.named
  have hlocks := B.notSynchronized
  have i_X10 : ∀ w ∈ wsX100, w ∈ wk_X10_setWeight := fun _ h => List.mem_cons_of_mem _ (List.mem_append_left _ (List.mem_append_left _ (List.mem_append_right _ h)))
  have i_X8 : ∀ w ∈ wsX80, w ∈ wk_X10_setWeight := fun _ h => List.mem_cons_of_mem _ (List.mem_append_left _ (List.mem_append_right _ h))
  have w_1 := hts (.fieldLink RX10 12 "DocumentSpanner" "state" "LDocumentSpanner$State;") (List.mem_of_getElem? (i := 1) rfl)
  have w_2 := hts (.fieldLink RX10 293 "DocumentSpanner$State" "weights" "[I") (List.mem_of_getElem? (i := 2) rfl)
  subst hsz
  have hD := hD0.self (sz := s.heap.size)
  generalize hAe : va_A [(x, .inr (9, [.ref st, .ref kp, .int 0, .ref bf, .int 0, .int (-1), .int (-1), .int 0, .ref o1, .ref o2, .ref o3, .ref o4, .ref o5, .ref o6])), (st, .inr (8, [.ref lt, .ref tb, .ref fl, .ref wt, .int 0, .null])), (wt, .inl (cI, 3, .inl (fun _ => 1)))] s.heap.size = A at hD hE ⊢
  have hA : ∀ q : Nat, s.heap.size ≤ q → A q := fun q h => by rw [← hAe]; exact Or.inr h
  have hS : va_S A s.heap s.heap [] := va_S.rf
  have hP : va_P D vwCl [(x, .inr (9, [.ref st, .ref kp, .int 0, .ref bf, .int 0, .int (-1), .int (-1), .int 0, .ref o1, .ref o2, .ref o3, .ref o4, .ref o5, .ref o6])), (st, .inr (8, [.ref lt, .ref tb, .ref fl, .ref wt, .int 0, .null])), (wt, .inl (cI, 3, .inl (fun _ => 1)))] s.heap := hP
  have hl := lv_entry ([.ref x, .int a0, .int a1]) (n := 4) (Nat.le_of_ble_eq_true rfl)
  rw [lg_entry_eq]
  generalize (lg_sl ([.ref x, .int a0, .int a1]) ++ List.replicate (4 - (lg_sl ([.ref x, .int a0, .int a1])).length) Slot.unset).toArray = ls at hl ⊢
  have hl : lv_has ls 4 [(0, .ref x), (1, .int a0), (2, .int a1)] := hl
  refine lv_iload_n hx hb dX10_setWeight_0 rfl (lv_at hl 1 rfl) ?_
  have hPc := hP.sub (ws' := []) [] rfl
  have hDc := hD.sub (ws' := []) [] (by decide) rfl
  have hFc := va_free (wc := []) hD hS hA [] rfl
  refine vx_callv (vx_runS (As := [.int a0]) (rest := []) ⟨hx, hb, hml, hown, hts⟩ (k_X10_checkVariable l htr D cI cJ cZ a0 s.heap.size) (va_cwS 1 hts gk_X10_setWeight_X10_checkVariable rfl rfl rfl (by decide +kernel) ⟨Nat.le_of_ble_eq_true rfl, Nat.le_of_ble_eq_true rfl⟩) ⟨xPc_blind, xPc_pre hPc hK hDc hE hS hFc hV⟩ rfl rfl hl.1 rfl (lv_room (Nat.le_of_ble_eq_true rfl)) dX10_setWeight_1 ⟨Nat.le_of_ble_eq_true rfl, Nat.le_of_ble_eq_true rfl⟩) hS (fun q _ h => hFc q h) hFc (fun q _ h => hFc q h) (fun E ce q9 u t H_1 locs ht hvm hpx hBX hz1 hk1 hS hq9 hcv hcl => ?_) (fun u t H_1 locs ht hvm hw hB hz1 hk1 hS => ?_)
  · rcases hBX with ⟨rfl, e_0⟩ | ⟨rfl, e_0, e_1⟩
    · have c_2 : a0.toInt < 0 := e_0
      exact vx_out (fun x hx => (htab x hx).elim) hlocks hq9 hcv hcl (fun t ht hW => ⟨(), trivial, Or.inl ⟨rfl, c_2⟩, hS.F ht⟩) hS.2.2 (Nat.le_of_ble_eq_true rfl) (Nat.le_of_ble_eq_true rfl)
    · have c_3 : 0 ≤ a0.toInt := e_0
      have c_4 : 3 ≤ a0.toInt := e_1
      exact vx_out (fun x hx => (htab x hx).elim) hlocks hq9 hcv hcl (fun t ht hW => ⟨(), trivial, Or.inr ⟨rfl, c_3, c_4⟩, hS.F ht⟩) hS.2.2 (Nat.le_of_ble_eq_true rfl) (Nat.le_of_ble_eq_true rfl)
  · rcases hw with ⟨e_0, e_1⟩
    have c_5 : 0 ≤ a0.toInt := e_0
    have c_6 : a0.toInt < 3 := e_1
    obtain ⟨hP1, hD1⟩ := hB
    rw [ht] at hP1
    obtain ⟨hP, hD⟩ := va_join (wr := [(x, .inr (9, [.ref st, .ref kp, .int 0, .ref bf, .int 0, .int (-1), .int (-1), .int 0, .ref o1, .ref o2, .ref o3, .ref o4, .ref o5, .ref o6])), (st, .inr (8, [.ref lt, .ref tb, .ref fl, .ref wt, .int 0, .null])), (wt, .inl (cI, 3, .inl (fun _ => 1)))]) (w1 := []) hP hD [] [0, 1, 2] rfl rfl (by decide) (by decide) hk1 hFc hP1 hD1
    have hP : va_P D vwCl [(x, .inr (9, [.ref st, .ref kp, .int 0, .ref bf, .int 0, .int (-1), .int (-1), .int 0, .ref o1, .ref o2, .ref o3, .ref o4, .ref o5, .ref o6])), (st, .inr (8, [.ref lt, .ref tb, .ref fl, .ref wt, .int 0, .null])), (wt, .inl (cI, 3, .inl (fun _ => 1)))] H_1 := hP
    have hD : va_D A [(x, .inr (9, [.ref st, .ref kp, .int 0, .ref bf, .int 0, .int (-1), .int (-1), .int 0, .ref o1, .ref o2, .ref o3, .ref o4, .ref o5, .ref o6])), (st, .inr (8, [.ref lt, .ref tb, .ref fl, .ref wt, .int 0, .null])), (wt, .inl (cI, 3, .inl (fun _ => 1)))] := hD
    refine W.widen (k := 1) (n := 6) (Nat.le_of_ble_eq_true rfl) (Nat.le_of_ble_eq_true rfl) ?_
    refine lv_aload_n hx hb dX10_setWeight_4 rfl (lv_at hl 0 rfl) ?_
    refine va_get (D := D) (ci := 9) (v := .ref st) (C := RX10) (T := TX10) (N := 14) hx hb hts i_X10 hown hK hP 0 rfl rfl 0 (by decide) w_1 (fun _ h9 => h9) rfl dX10_setWeight_5 ?_
    refine va_get (D := D) (ci := 8) (v := .ref wt) (C := RX8) (T := TX8) (N := 6) hx hb hts i_X8 hown hK hP 1 rfl rfl 3 (by decide) w_2 (fun _ h9 => h9) rfl dX10_setWeight_8 ?_
    refine lv_iload_n hx hb dX10_setWeight_11 rfl (lv_at hl 1 rfl) ?_
    refine va_iald hx hb hK hP 2 0 rfl rfl (i := a0) (vp_in_iff.mpr ⟨by omega, by omega⟩) dX10_setWeight_12 ?_
    refine W.eq (g2 := F0 m 13 ls [.int 1]) rfl ?_
    refine lv_istore_n (lv' := [(3, .int 1), (0, .ref x), (1, .int a0), (2, .int a1)]) hx hb dX10_setWeight_13 rfl hl (by decide) rfl (fun ls hl => ?_)
    refine lv_aload_n hx hb dX10_setWeight_14 rfl (lv_at hl 1 rfl) ?_
    refine va_get (D := D) (ci := 9) (v := .ref st) (C := RX10) (T := TX10) (N := 14) hx hb hts i_X10 hown hK hP 0 rfl rfl 0 (by decide) w_1 (fun _ h9 => h9) rfl dX10_setWeight_15 ?_
    refine va_get (D := D) (ci := 8) (v := .ref wt) (C := RX8) (T := TX8) (N := 6) hx hb hts i_X8 hown hK hP 1 rfl rfl 3 (by decide) w_2 (fun _ h9 => h9) rfl dX10_setWeight_18 ?_
    refine lv_iload_n hx hb dX10_setWeight_21 rfl (lv_at hl 2 rfl) ?_
    refine lv_iload_n hx hb dX10_setWeight_22 rfl (lv_at hl 3 rfl) ?_
    refine va_iast hx hb hK hP hD hS 2 0 rfl rfl (i := a0) (x := a1) (vp_in_iff.mpr ⟨by omega, by omega⟩) dX10_setWeight_23 (fun H_7 locs hP hD hS => ?_)
    have hP : va_P D vwCl [(x, .inr (9, [.ref st, .ref kp, .int 0, .ref bf, .int 0, .int (-1), .int (-1), .int 0, .ref o1, .ref o2, .ref o3, .ref o4, .ref o5, .ref o6])), (st, .inr (8, [.ref lt, .ref tb, .ref fl, .ref wt, .int 0, .null])), (wt, .inl (cI, 3, .inl (upd (fun _ => 1) ((a0 : Int32).toNatClampNeg) a1)))] H_7 := hP
    have hD : va_D A [(x, .inr (9, [.ref st, .ref kp, .int 0, .ref bf, .int 0, .int (-1), .int (-1), .int 0, .ref o1, .ref o2, .ref o3, .ref o4, .ref o5, .ref o6])), (st, .inr (8, [.ref lt, .ref tb, .ref fl, .ref wt, .int 0, .null])), (wt, .inl (cI, 3, .inl (upd (fun _ => 1) ((a0 : Int32).toNatClampNeg) a1)))] := hD
    refine lv_iload_n hx hb dX10_setWeight_24 rfl (lv_at hl 0 rfl) ?_
    have hP9 := hP.sub (ws' := []) [] rfl
    have hD9 := hD.sub (ws' := []) [] (by decide) rfl
    refine W.widen (k := 1) (n := 6) (Nat.le_of_ble_eq_true rfl) (Nat.le_of_ble_eq_true rfl) ?_
    exact vx_ret (W.iret (v := 1) hx hb hr (fun t ht hW => ⟨⟨1, (), rfl, ⟨rfl, c_5, c_6⟩, by rw [ht]; exact hP9, hD9⟩, hS.F ht⟩) hS.2.2 dX10_setWeight_25)
def wk_X10_score : List Cond := .code yX10_score cX10_score 4 (some .int) :: (([.methodLink RX10 153 yX10_tableIn, .instanceMethod yX10_tableIn, .selects RX10 yX10_tableIn yX10_tableIn, .initialized RX10, .code yX10_tableIn cX10_tableIn 2 (some (.object "DocumentSpanner$SortedInts")), .fieldLink RX10 12 "DocumentSpanner" "state" "LDocumentSpanner$State;", .fieldLink RX10 96 "DocumentSpanner$State" "filled" "[Z", .classLink RX10 80 ise, .initialized ise, .methodLink RX10 138 yX10_checkSlot, .static yX10_checkSlot, .code yX10_checkSlot cX10_checkSlot 1 none, .classLink RX10 91 iob, .initialized iob] : List Cond) ++ wsX100 ++ wsX80 ++ (vx_atS RX10 84 ise ["java/lang/RuntimeException", "java/lang/Exception"]).filter goodWord ++ (vx_atS RX10 95 iob ["java/lang/RuntimeException", "java/lang/Exception"]).filter goodWord)
set_option maxRecDepth 20000 in
theorem ggk_X10_score_X10_tableIn : GoodIn wk_X10_score wk_X10_tableIn := goodIn_ca (goodIn_ca (goodIn_ca (goodIn_ca (goodIn_r _ [5, 6, 7, 8, 9, 10, 11, 4, 12, 13, 14] (by decide +kernel) (by decide +kernel)) (goodIn_sub (fun _ h => List.mem_cons_of_mem _ (List.mem_append_left _ (List.mem_append_left _ (List.mem_append_left _ (List.mem_append_right _ h))))) (by decide +kernel))) (goodIn_sub (fun _ h => List.mem_cons_of_mem _ (List.mem_append_left _ (List.mem_append_left _ (List.mem_append_right _ h)))) (by decide +kernel))) (goodIn_sub (fun _ h => List.mem_cons_of_mem _ (List.mem_append_left _ (List.mem_append_right _ h))) (by decide +kernel))) (goodIn_sub (fun _ h => List.mem_cons_of_mem _ (List.mem_append_right _ h)) (by decide +kernel))
set_option maxRecDepth 20000 in
theorem gk_X10_score_X10_tableIn : GoodIn wk_X10_score (wsV RX10 153 RX10 yX10_tableIn wk_X10_tableIn) := goodIn_app (goodIn_r _ [1, 2, 3, 4] (by decide +kernel) (by decide +kernel)) ggk_X10_score_X10_tableIn
set_option maxHeartbeats 4000000 in
set_option maxRecDepth 100000 in
theorem k_X10_score (l : Launch) (htr : l.stackTraces = false) (D : va_G) (cI cJ cZ : ClassId) (x : Nat) (st : Nat) (kp : Nat) (bf : Nat) (o1 : Nat) (o2 : Nat) (o3 : Nat) (o4 : Nat) (o5 : Nat) (o6 : Nat) (lt : Nat) (tb : Nat) (fl : Nat) (wt : Nat) (a0 : Int32) (a1 : Int32) (sz : Nat) : vx_Met l yX10_score wk_X10_score ({ frames := 8, cells := 2, slots := 12, locals := 123 }) (xPc D cI cJ cZ [.ref x, .int a0, .int a1] [(x, .inr (9, [.ref st, .ref kp, .int 0, .ref bf, .int 0, .int (-1), .int (-1), .int 0, .ref o1, .ref o2, .ref o3, .ref o4, .ref o5, .ref o6])), (st, .inr (8, [.ref lt, .ref tb, .ref fl, .ref wt, .int 0, .null])), (fl, .inl (cZ, 6, .inl (fun _ => 0)))] sz) (va_Qi (fun (r : Int32) (u : Unit) => False) (fun (u : Unit) (t : State) => va_P D vwCl ([] : va_W) t.heap ∧ va_D (va_A [(x, .inr (9, [.ref st, .ref kp, .int 0, .ref bf, .int 0, .int (-1), .int (-1), .int 0, .ref o1, .ref o2, .ref o3, .ref o4, .ref o5, .ref o6])), (st, .inr (8, [.ref lt, .ref tb, .ref fl, .ref wt, .int 0, .null])), (fl, .inl (cZ, 6, .inl (fun _ => 0)))] sz) ([] : va_W)) (va_A [(x, .inr (9, [.ref st, .ref kp, .int 0, .ref bf, .int 0, .int (-1), .int (-1), .int 0, .ref o1, .ref o2, .ref o3, .ref o4, .ref o5, .ref o6])), (st, .inr (8, [.ref lt, .ref tb, .ref fl, .ref wt, .int 0, .null])), (fl, .inl (cZ, 6, .inl (fun _ => 0)))] sz)) (vx_X (fun _ : Unit => True) (fun (E : String) (_ : Unit) (_ : State) => (E = iob ∧ a0.toInt < 0) ∨ (E = iob ∧ 0 ≤ a0.toInt ∧ 6 ≤ a0.toInt) ∨ (E = ise ∧ 0 ≤ a0.toInt ∧ a0.toInt < 6)) (va_A [(x, .inr (9, [.ref st, .ref kp, .int 0, .ref bf, .int 0, .int (-1), .int (-1), .int 0, .ref o1, .ref o2, .ref o3, .ref o4, .ref o5, .ref o6])), (st, .inr (8, [.ref lt, .ref tb, .ref fl, .ref wt, .int 0, .null])), (fl, .inl (cZ, 6, .inl (fun _ => 0)))] sz)) 2 12 (va_A [(x, .inr (9, [.ref st, .ref kp, .int 0, .ref bf, .int 0, .int (-1), .int (-1), .int 0, .ref o1, .ref o2, .ref o3, .ref o4, .ref o5, .ref o6])), (st, .inr (8, [.ref lt, .ref tb, .ref fl, .ref wt, .int 0, .null])), (fl, .inl (cZ, 6, .inl (fun _ => 0)))] sz) := by
  refine vx_ofW (cc := cX10_score) (maxL := 4) (ret := (some .int)) (by decide) rfl ?_
  intro p e s m args below meth c s₁ B hml htab hv
  obtain ⟨rfl, hsz, hP, hK, hD0, hE, hV⟩ := hv
  have hx := B.exec
  have hb := B.bytes
  have hr := B.returns
  have hts := atoms_spec (ws := wk_X10_score) B.pre
  have hown : s.vm.findClass RX10 = some m.cls := findClass_of_methodNamed B.named
  have hlocks := B.notSynchronized
  subst hsz
  have hD := hD0.self (sz := s.heap.size)
  generalize hAe : va_A [(x, .inr (9, [.ref st, .ref kp, .int 0, .ref bf, .int 0, .int (-1), .int (-1), .int 0, .ref o1, .ref o2, .ref o3, .ref o4, .ref o5, .ref o6])), (st, .inr (8, [.ref lt, .ref tb, .ref fl, .ref wt, .int 0, .null])), (fl, .inl (cZ, 6, .inl (fun _ => 0)))] s.heap.size = A at hD hE ⊢
  have hA : ∀ q : Nat, s.heap.size ≤ q → A q := fun q h => by rw [← hAe]; exact Or.inr h
  have hS : va_S A s.heap s.heap [] := va_S.rf
  have hP : va_P D vwCl [(x, .inr (9, [.ref st, .ref kp, .int 0, .ref bf, .int 0, .int (-1), .int (-1), .int 0, .ref o1, .ref o2, .ref o3, .ref o4, .ref o5, .ref o6])), (st, .inr (8, [.ref lt, .ref tb, .ref fl, .ref wt, .int 0, .null])), (fl, .inl (cZ, 6, .inl (fun _ => 0)))] s.heap := hP
  have hl := lv_entry ([.ref x, .int a0, .int a1]) (n := 4) (Nat.le_of_ble_eq_true rfl)
  rw [lg_entry_eq]
  generalize (lg_sl ([.ref x, .int a0, .int a1]) ++ List.replicate (4 - (lg_sl ([.ref x, .int a0, .int a1])).length) Slot.unset).toArray = ls at hl ⊢
  have hl : lv_has ls 4 [(0, .ref x), (1, .int a0), (2, .int a1)] := hl
  refine lv_aload_n hx hb dX10_score_0 rfl (lv_at hl 0 rfl) ?_
  refine lv_iload_n hx hb dX10_score_1 rfl (lv_at hl 1 rfl) ?_
  have hPc := hP.sub (ws' := [(x, .inr (9, [.ref st, .ref kp, .int 0, .ref bf, .int 0, .int (-1), .int (-1), .int 0, .ref o1, .ref o2, .ref o3, .ref o4, .ref o5, .ref o6])), (st, .inr (8, [.ref lt, .ref tb, .ref fl, .ref wt, .int 0, .null])), (fl, .inl (cZ, 6, .inl (fun _ => 0)))]) [0, 1, 2] rfl
  have hDc := hD.sub (ws' := [(x, .inr (9, [.ref st, .ref kp, .int 0, .ref bf, .int 0, .int (-1), .int (-1), .int 0, .ref o1, .ref o2, .ref o3, .ref o4, .ref o5, .ref o6])), (st, .inr (8, [.ref lt, .ref tb, .ref fl, .ref wt, .int 0, .null])), (fl, .inl (cZ, 6, .inl (fun _ => 0)))]) [0, 1, 2] (by decide) rfl
  have hFc := va_free (wc := [(x, .inr (9, [.ref st, .ref kp, .int 0, .ref bf, .int 0, .int (-1), .int (-1), .int 0, .ref o1, .ref o2, .ref o3, .ref o4, .ref o5, .ref o6])), (st, .inr (8, [.ref lt, .ref tb, .ref fl, .ref wt, .int 0, .null])), (fl, .inl (cZ, 6, .inl (fun _ => 0)))]) hD hS hA [0, 1, 2] rfl
  refine vx_callq (vx_runV (As := [.int a0]) (rest := []) ⟨hx, hb, hml, hown, hts⟩ (k_X10_tableIn l htr D cI cJ cZ x st kp bf o1 o2 o3 o4 o5 o6 lt tb fl wt a0 s.heap.size) (cwV 1 hts gk_X10_score_X10_tableIn rfl rfl rfl (by decide +kernel) ⟨Nat.le_of_ble_eq_true rfl, Nat.le_of_ble_eq_true rfl⟩) ⟨xPc_blind, va_recv hK hP (ci := 9) (q0 := 0) rfl rfl, xPc_pre hPc hK hDc hE hS hFc hV⟩ rfl rfl hl.1 rfl (lv_room (Nat.le_of_ble_eq_true rfl)) dX10_score_2 ⟨Nat.le_of_ble_eq_true rfl, Nat.le_of_ble_eq_true rfl⟩) hS (fun q _ h => hFc q h) hFc (fun q _ h => hFc q h) (fun E ce q9 u t H_1 locs ht hvm hpx hBX hz1 hk1 hS hq9 hcv hcl => ?_) (fun r u t H_1 locs ht hvm hw hB hz1 hk1 hS => ?_)
  · rcases hBX with ⟨rfl, e_0⟩ | ⟨rfl, e_0, e_1⟩ | ⟨rfl, e_0, e_1⟩
    · have c_2 : a0.toInt < 0 := e_0
      exact vx_out (fun x hx => (htab x hx).elim) hlocks hq9 hcv hcl (fun t ht hW => ⟨(), trivial, Or.inl ⟨rfl, c_2⟩, hS.F ht⟩) hS.2.2 (Nat.le_of_ble_eq_true rfl) (Nat.le_of_ble_eq_true rfl)
    · have c_3 : 0 ≤ a0.toInt := e_0
      have c_4 : 6 ≤ a0.toInt := e_1
      exact vx_out (fun x hx => (htab x hx).elim) hlocks hq9 hcv hcl (fun t ht hW => ⟨(), trivial, Or.inr (Or.inl ⟨rfl, c_3, c_4⟩), hS.F ht⟩) hS.2.2 (Nat.le_of_ble_eq_true rfl) (Nat.le_of_ble_eq_true rfl)
    · have c_5 : 0 ≤ a0.toInt := e_0
      have c_6 : a0.toInt < 6 := e_1
      exact vx_out (fun x hx => (htab x hx).elim) hlocks hq9 hcv hcl (fun t ht hW => ⟨(), trivial, Or.inr (Or.inr ⟨rfl, c_5, c_6⟩), hS.F ht⟩) hS.2.2 (Nat.le_of_ble_eq_true rfl) (Nat.le_of_ble_eq_true rfl)
  · exact hw.elim
def wk_X10_rank : List Cond := .code yX10_rank cX10_rank 4 (some .int) :: (([.methodLink RX10 153 yX10_tableIn, .instanceMethod yX10_tableIn, .selects RX10 yX10_tableIn yX10_tableIn, .initialized RX10, .code yX10_tableIn cX10_tableIn 2 (some (.object "DocumentSpanner$SortedInts")), .fieldLink RX10 12 "DocumentSpanner" "state" "LDocumentSpanner$State;", .fieldLink RX10 96 "DocumentSpanner$State" "filled" "[Z", .classLink RX10 80 ise, .initialized ise, .methodLink RX10 138 yX10_checkSlot, .static yX10_checkSlot, .code yX10_checkSlot cX10_checkSlot 1 none, .classLink RX10 91 iob, .initialized iob] : List Cond) ++ wsX100 ++ wsX80 ++ (vx_atS RX10 84 ise ["java/lang/RuntimeException", "java/lang/Exception"]).filter goodWord ++ (vx_atS RX10 95 iob ["java/lang/RuntimeException", "java/lang/Exception"]).filter goodWord)
set_option maxRecDepth 20000 in
theorem ggk_X10_rank_X10_tableIn : GoodIn wk_X10_rank wk_X10_tableIn := goodIn_ca (goodIn_ca (goodIn_ca (goodIn_ca (goodIn_r _ [5, 6, 7, 8, 9, 10, 11, 4, 12, 13, 14] (by decide +kernel) (by decide +kernel)) (goodIn_sub (fun _ h => List.mem_cons_of_mem _ (List.mem_append_left _ (List.mem_append_left _ (List.mem_append_left _ (List.mem_append_right _ h))))) (by decide +kernel))) (goodIn_sub (fun _ h => List.mem_cons_of_mem _ (List.mem_append_left _ (List.mem_append_left _ (List.mem_append_right _ h)))) (by decide +kernel))) (goodIn_sub (fun _ h => List.mem_cons_of_mem _ (List.mem_append_left _ (List.mem_append_right _ h))) (by decide +kernel))) (goodIn_sub (fun _ h => List.mem_cons_of_mem _ (List.mem_append_right _ h)) (by decide +kernel))
set_option maxRecDepth 20000 in
theorem gk_X10_rank_X10_tableIn : GoodIn wk_X10_rank (wsV RX10 153 RX10 yX10_tableIn wk_X10_tableIn) := goodIn_app (goodIn_r _ [1, 2, 3, 4] (by decide +kernel) (by decide +kernel)) ggk_X10_rank_X10_tableIn
set_option maxHeartbeats 4000000 in
set_option maxRecDepth 100000 in
theorem k_X10_rank (l : Launch) (htr : l.stackTraces = false) (D : va_G) (cI cJ cZ : ClassId) (x : Nat) (st : Nat) (kp : Nat) (bf : Nat) (o1 : Nat) (o2 : Nat) (o3 : Nat) (o4 : Nat) (o5 : Nat) (o6 : Nat) (lt : Nat) (tb : Nat) (fl : Nat) (wt : Nat) (a0 : Int32) (a1 : Int32) (sz : Nat) : vx_Met l yX10_rank wk_X10_rank ({ frames := 8, cells := 2, slots := 12, locals := 123 }) (xPc D cI cJ cZ [.ref x, .int a0, .int a1] [(x, .inr (9, [.ref st, .ref kp, .int 0, .ref bf, .int 0, .int (-1), .int (-1), .int 0, .ref o1, .ref o2, .ref o3, .ref o4, .ref o5, .ref o6])), (st, .inr (8, [.ref lt, .ref tb, .ref fl, .ref wt, .int 0, .null])), (fl, .inl (cZ, 6, .inl (fun _ => 0)))] sz) (va_Qi (fun (r : Int32) (u : Unit) => False) (fun (u : Unit) (t : State) => va_P D vwCl ([] : va_W) t.heap ∧ va_D (va_A [(x, .inr (9, [.ref st, .ref kp, .int 0, .ref bf, .int 0, .int (-1), .int (-1), .int 0, .ref o1, .ref o2, .ref o3, .ref o4, .ref o5, .ref o6])), (st, .inr (8, [.ref lt, .ref tb, .ref fl, .ref wt, .int 0, .null])), (fl, .inl (cZ, 6, .inl (fun _ => 0)))] sz) ([] : va_W)) (va_A [(x, .inr (9, [.ref st, .ref kp, .int 0, .ref bf, .int 0, .int (-1), .int (-1), .int 0, .ref o1, .ref o2, .ref o3, .ref o4, .ref o5, .ref o6])), (st, .inr (8, [.ref lt, .ref tb, .ref fl, .ref wt, .int 0, .null])), (fl, .inl (cZ, 6, .inl (fun _ => 0)))] sz)) (vx_X (fun _ : Unit => True) (fun (E : String) (_ : Unit) (_ : State) => (E = iob ∧ a0.toInt < 0) ∨ (E = iob ∧ 0 ≤ a0.toInt ∧ 6 ≤ a0.toInt) ∨ (E = ise ∧ 0 ≤ a0.toInt ∧ a0.toInt < 6)) (va_A [(x, .inr (9, [.ref st, .ref kp, .int 0, .ref bf, .int 0, .int (-1), .int (-1), .int 0, .ref o1, .ref o2, .ref o3, .ref o4, .ref o5, .ref o6])), (st, .inr (8, [.ref lt, .ref tb, .ref fl, .ref wt, .int 0, .null])), (fl, .inl (cZ, 6, .inl (fun _ => 0)))] sz)) 2 12 (va_A [(x, .inr (9, [.ref st, .ref kp, .int 0, .ref bf, .int 0, .int (-1), .int (-1), .int 0, .ref o1, .ref o2, .ref o3, .ref o4, .ref o5, .ref o6])), (st, .inr (8, [.ref lt, .ref tb, .ref fl, .ref wt, .int 0, .null])), (fl, .inl (cZ, 6, .inl (fun _ => 0)))] sz) := by
  refine vx_ofW (cc := cX10_rank) (maxL := 4) (ret := (some .int)) (by decide) rfl ?_
  intro p e s m args below meth c s₁ B hml htab hv
  obtain ⟨rfl, hsz, hP, hK, hD0, hE, hV⟩ := hv
  have hx := B.exec
  have hb := B.bytes
  have hr := B.returns
  have hts := atoms_spec (ws := wk_X10_rank) B.pre
  have hown : s.vm.findClass RX10 = some m.cls := findClass_of_methodNamed B.named
  have hlocks := B.notSynchronized
  subst hsz
  have hD := hD0.self (sz := s.heap.size)
  generalize hAe : va_A [(x, .inr (9, [.ref st, .ref kp, .int 0, .ref bf, .int 0, .int (-1), .int (-1), .int 0, .ref o1, .ref o2, .ref o3, .ref o4, .ref o5, .ref o6])), (st, .inr (8, [.ref lt, .ref tb, .ref fl, .ref wt, .int 0, .null])), (fl, .inl (cZ, 6, .inl (fun _ => 0)))] s.heap.size = A at hD hE ⊢
  have hA : ∀ q : Nat, s.heap.size ≤ q → A q := fun q h => by rw [← hAe]; exact Or.inr h
  have hS : va_S A s.heap s.heap [] := va_S.rf
  have hP : va_P D vwCl [(x, .inr (9, [.ref st, .ref kp, .int 0, .ref bf, .int 0, .int (-1), .int (-1), .int 0, .ref o1, .ref o2, .ref o3, .ref o4, .ref o5, .ref o6])), (st, .inr (8, [.ref lt, .ref tb, .ref fl, .ref wt, .int 0, .null])), (fl, .inl (cZ, 6, .inl (fun _ => 0)))] s.heap := hP
  have hl := lv_entry ([.ref x, .int a0, .int a1]) (n := 4) (Nat.le_of_ble_eq_true rfl)
  rw [lg_entry_eq]
  generalize (lg_sl ([.ref x, .int a0, .int a1]) ++ List.replicate (4 - (lg_sl ([.ref x, .int a0, .int a1])).length) Slot.unset).toArray = ls at hl ⊢
  have hl : lv_has ls 4 [(0, .ref x), (1, .int a0), (2, .int a1)] := hl
  refine lv_aload_n hx hb dX10_rank_0 rfl (lv_at hl 0 rfl) ?_
  refine lv_iload_n hx hb dX10_rank_1 rfl (lv_at hl 1 rfl) ?_
  have hPc := hP.sub (ws' := [(x, .inr (9, [.ref st, .ref kp, .int 0, .ref bf, .int 0, .int (-1), .int (-1), .int 0, .ref o1, .ref o2, .ref o3, .ref o4, .ref o5, .ref o6])), (st, .inr (8, [.ref lt, .ref tb, .ref fl, .ref wt, .int 0, .null])), (fl, .inl (cZ, 6, .inl (fun _ => 0)))]) [0, 1, 2] rfl
  have hDc := hD.sub (ws' := [(x, .inr (9, [.ref st, .ref kp, .int 0, .ref bf, .int 0, .int (-1), .int (-1), .int 0, .ref o1, .ref o2, .ref o3, .ref o4, .ref o5, .ref o6])), (st, .inr (8, [.ref lt, .ref tb, .ref fl, .ref wt, .int 0, .null])), (fl, .inl (cZ, 6, .inl (fun _ => 0)))]) [0, 1, 2] (by decide) rfl
  have hFc := va_free (wc := [(x, .inr (9, [.ref st, .ref kp, .int 0, .ref bf, .int 0, .int (-1), .int (-1), .int 0, .ref o1, .ref o2, .ref o3, .ref o4, .ref o5, .ref o6])), (st, .inr (8, [.ref lt, .ref tb, .ref fl, .ref wt, .int 0, .null])), (fl, .inl (cZ, 6, .inl (fun _ => 0)))]) hD hS hA [0, 1, 2] rfl
  refine vx_callq (vx_runV (As := [.int a0]) (rest := []) ⟨hx, hb, hml, hown, hts⟩ (k_X10_tableIn l htr D cI cJ cZ x st kp bf o1 o2 o3 o4 o5 o6 lt tb fl wt a0 s.heap.size) (cwV 1 hts gk_X10_rank_X10_tableIn rfl rfl rfl (by decide +kernel) ⟨Nat.le_of_ble_eq_true rfl, Nat.le_of_ble_eq_true rfl⟩) ⟨xPc_blind, va_recv hK hP (ci := 9) (q0 := 0) rfl rfl, xPc_pre hPc hK hDc hE hS hFc hV⟩ rfl rfl hl.1 rfl (lv_room (Nat.le_of_ble_eq_true rfl)) dX10_rank_2 ⟨Nat.le_of_ble_eq_true rfl, Nat.le_of_ble_eq_true rfl⟩) hS (fun q _ h => hFc q h) hFc (fun q _ h => hFc q h) (fun E ce q9 u t H_1 locs ht hvm hpx hBX hz1 hk1 hS hq9 hcv hcl => ?_) (fun r u t H_1 locs ht hvm hw hB hz1 hk1 hS => ?_)
  · rcases hBX with ⟨rfl, e_0⟩ | ⟨rfl, e_0, e_1⟩ | ⟨rfl, e_0, e_1⟩
    · have c_2 : a0.toInt < 0 := e_0
      exact vx_out (fun x hx => (htab x hx).elim) hlocks hq9 hcv hcl (fun t ht hW => ⟨(), trivial, Or.inl ⟨rfl, c_2⟩, hS.F ht⟩) hS.2.2 (Nat.le_of_ble_eq_true rfl) (Nat.le_of_ble_eq_true rfl)
    · have c_3 : 0 ≤ a0.toInt := e_0
      have c_4 : 6 ≤ a0.toInt := e_1
      exact vx_out (fun x hx => (htab x hx).elim) hlocks hq9 hcv hcl (fun t ht hW => ⟨(), trivial, Or.inr (Or.inl ⟨rfl, c_3, c_4⟩), hS.F ht⟩) hS.2.2 (Nat.le_of_ble_eq_true rfl) (Nat.le_of_ble_eq_true rfl)
    · have c_5 : 0 ≤ a0.toInt := e_0
      have c_6 : a0.toInt < 6 := e_1
      exact vx_out (fun x hx => (htab x hx).elim) hlocks hq9 hcv hcl (fun t ht hW => ⟨(), trivial, Or.inr (Or.inr ⟨rfl, c_5, c_6⟩), hS.F ht⟩) hS.2.2 (Nat.le_of_ble_eq_true rfl) (Nat.le_of_ble_eq_true rfl)
  · exact hw.elim
def wk_X10_best : List Cond := .code yX10_best cX10_best 7 (some .int) :: (([.methodLink RX10 153 yX10_tableIn, .instanceMethod yX10_tableIn, .selects RX10 yX10_tableIn yX10_tableIn, .initialized RX10, .code yX10_tableIn cX10_tableIn 2 (some (.object "DocumentSpanner$SortedInts")), .fieldLink RX10 12 "DocumentSpanner" "state" "LDocumentSpanner$State;", .fieldLink RX10 96 "DocumentSpanner$State" "filled" "[Z", .classLink RX10 80 ise, .initialized ise, .methodLink RX10 138 yX10_checkSlot, .static yX10_checkSlot, .code yX10_checkSlot cX10_checkSlot 1 none, .classLink RX10 91 iob, .initialized iob] : List Cond) ++ wsX100 ++ wsX80 ++ (vx_atS RX10 84 ise ["java/lang/RuntimeException", "java/lang/Exception"]).filter goodWord ++ (vx_atS RX10 95 iob ["java/lang/RuntimeException", "java/lang/Exception"]).filter goodWord)
set_option maxRecDepth 20000 in
theorem ggk_X10_best_X10_tableIn : GoodIn wk_X10_best wk_X10_tableIn := goodIn_ca (goodIn_ca (goodIn_ca (goodIn_ca (goodIn_r _ [5, 6, 7, 8, 9, 10, 11, 4, 12, 13, 14] (by decide +kernel) (by decide +kernel)) (goodIn_sub (fun _ h => List.mem_cons_of_mem _ (List.mem_append_left _ (List.mem_append_left _ (List.mem_append_left _ (List.mem_append_right _ h))))) (by decide +kernel))) (goodIn_sub (fun _ h => List.mem_cons_of_mem _ (List.mem_append_left _ (List.mem_append_left _ (List.mem_append_right _ h)))) (by decide +kernel))) (goodIn_sub (fun _ h => List.mem_cons_of_mem _ (List.mem_append_left _ (List.mem_append_right _ h))) (by decide +kernel))) (goodIn_sub (fun _ h => List.mem_cons_of_mem _ (List.mem_append_right _ h)) (by decide +kernel))
set_option maxRecDepth 20000 in
theorem gk_X10_best_X10_tableIn : GoodIn wk_X10_best (wsV RX10 153 RX10 yX10_tableIn wk_X10_tableIn) := goodIn_app (goodIn_r _ [1, 2, 3, 4] (by decide +kernel) (by decide +kernel)) ggk_X10_best_X10_tableIn
set_option maxHeartbeats 4000000 in
set_option maxRecDepth 100000 in
theorem k_X10_best (l : Launch) (htr : l.stackTraces = false) (D : va_G) (cI cJ cZ : ClassId) (x : Nat) (st : Nat) (kp : Nat) (bf : Nat) (o1 : Nat) (o2 : Nat) (o3 : Nat) (o4 : Nat) (o5 : Nat) (o6 : Nat) (lt : Nat) (tb : Nat) (fl : Nat) (wt : Nat) (a0 : Int32) (a1 : Int32) (sz : Nat) : vx_Met l yX10_best wk_X10_best ({ frames := 8, cells := 2, slots := 12, locals := 123 }) (xPc D cI cJ cZ [.ref x, .int a0, .int a1] [(x, .inr (9, [.ref st, .ref kp, .int 0, .ref bf, .int 0, .int (-1), .int (-1), .int 0, .ref o1, .ref o2, .ref o3, .ref o4, .ref o5, .ref o6])), (st, .inr (8, [.ref lt, .ref tb, .ref fl, .ref wt, .int 0, .null])), (fl, .inl (cZ, 6, .inl (fun _ => 0)))] sz) (va_Qi (fun (r : Int32) (u : Unit) => False) (fun (u : Unit) (t : State) => va_P D vwCl ([] : va_W) t.heap ∧ va_D (va_A [(x, .inr (9, [.ref st, .ref kp, .int 0, .ref bf, .int 0, .int (-1), .int (-1), .int 0, .ref o1, .ref o2, .ref o3, .ref o4, .ref o5, .ref o6])), (st, .inr (8, [.ref lt, .ref tb, .ref fl, .ref wt, .int 0, .null])), (fl, .inl (cZ, 6, .inl (fun _ => 0)))] sz) ([] : va_W)) (va_A [(x, .inr (9, [.ref st, .ref kp, .int 0, .ref bf, .int 0, .int (-1), .int (-1), .int 0, .ref o1, .ref o2, .ref o3, .ref o4, .ref o5, .ref o6])), (st, .inr (8, [.ref lt, .ref tb, .ref fl, .ref wt, .int 0, .null])), (fl, .inl (cZ, 6, .inl (fun _ => 0)))] sz)) (vx_X (fun _ : Unit => True) (fun (E : String) (_ : Unit) (_ : State) => (E = iob ∧ a0.toInt < 0) ∨ (E = iob ∧ 0 ≤ a0.toInt ∧ 6 ≤ a0.toInt) ∨ (E = ise ∧ 0 ≤ a0.toInt ∧ a0.toInt < 6)) (va_A [(x, .inr (9, [.ref st, .ref kp, .int 0, .ref bf, .int 0, .int (-1), .int (-1), .int 0, .ref o1, .ref o2, .ref o3, .ref o4, .ref o5, .ref o6])), (st, .inr (8, [.ref lt, .ref tb, .ref fl, .ref wt, .int 0, .null])), (fl, .inl (cZ, 6, .inl (fun _ => 0)))] sz)) 2 12 (va_A [(x, .inr (9, [.ref st, .ref kp, .int 0, .ref bf, .int 0, .int (-1), .int (-1), .int 0, .ref o1, .ref o2, .ref o3, .ref o4, .ref o5, .ref o6])), (st, .inr (8, [.ref lt, .ref tb, .ref fl, .ref wt, .int 0, .null])), (fl, .inl (cZ, 6, .inl (fun _ => 0)))] sz) := by
  refine vx_ofW (cc := cX10_best) (maxL := 7) (ret := (some .int)) (by decide) rfl ?_
  intro p e s m args below meth c s₁ B hml htab hv
  obtain ⟨rfl, hsz, hP, hK, hD0, hE, hV⟩ := hv
  have hx := B.exec
  have hb := B.bytes
  have hr := B.returns
  have hts := atoms_spec (ws := wk_X10_best) B.pre
  have hown : s.vm.findClass RX10 = some m.cls := findClass_of_methodNamed B.named
  have hlocks := B.notSynchronized
  subst hsz
  have hD := hD0.self (sz := s.heap.size)
  generalize hAe : va_A [(x, .inr (9, [.ref st, .ref kp, .int 0, .ref bf, .int 0, .int (-1), .int (-1), .int 0, .ref o1, .ref o2, .ref o3, .ref o4, .ref o5, .ref o6])), (st, .inr (8, [.ref lt, .ref tb, .ref fl, .ref wt, .int 0, .null])), (fl, .inl (cZ, 6, .inl (fun _ => 0)))] s.heap.size = A at hD hE ⊢
  have hA : ∀ q : Nat, s.heap.size ≤ q → A q := fun q h => by rw [← hAe]; exact Or.inr h
  have hS : va_S A s.heap s.heap [] := va_S.rf
  have hP : va_P D vwCl [(x, .inr (9, [.ref st, .ref kp, .int 0, .ref bf, .int 0, .int (-1), .int (-1), .int 0, .ref o1, .ref o2, .ref o3, .ref o4, .ref o5, .ref o6])), (st, .inr (8, [.ref lt, .ref tb, .ref fl, .ref wt, .int 0, .null])), (fl, .inl (cZ, 6, .inl (fun _ => 0)))] s.heap := hP
  have hl := lv_entry ([.ref x, .int a0, .int a1]) (n := 7) (Nat.le_of_ble_eq_true rfl)
  rw [lg_entry_eq]
  generalize (lg_sl ([.ref x, .int a0, .int a1]) ++ List.replicate (7 - (lg_sl ([.ref x, .int a0, .int a1])).length) Slot.unset).toArray = ls at hl ⊢
  have hl : lv_has ls 7 [(0, .ref x), (1, .int a0), (2, .int a1)] := hl
  refine lv_aload_n hx hb dX10_best_0 rfl (lv_at hl 0 rfl) ?_
  refine lv_iload_n hx hb dX10_best_1 rfl (lv_at hl 1 rfl) ?_
  have hPc := hP.sub (ws' := [(x, .inr (9, [.ref st, .ref kp, .int 0, .ref bf, .int 0, .int (-1), .int (-1), .int 0, .ref o1, .ref o2, .ref o3, .ref o4, .ref o5, .ref o6])), (st, .inr (8, [.ref lt, .ref tb, .ref fl, .ref wt, .int 0, .null])), (fl, .inl (cZ, 6, .inl (fun _ => 0)))]) [0, 1, 2] rfl
  have hDc := hD.sub (ws' := [(x, .inr (9, [.ref st, .ref kp, .int 0, .ref bf, .int 0, .int (-1), .int (-1), .int 0, .ref o1, .ref o2, .ref o3, .ref o4, .ref o5, .ref o6])), (st, .inr (8, [.ref lt, .ref tb, .ref fl, .ref wt, .int 0, .null])), (fl, .inl (cZ, 6, .inl (fun _ => 0)))]) [0, 1, 2] (by decide) rfl
  have hFc := va_free (wc := [(x, .inr (9, [.ref st, .ref kp, .int 0, .ref bf, .int 0, .int (-1), .int (-1), .int 0, .ref o1, .ref o2, .ref o3, .ref o4, .ref o5, .ref o6])), (st, .inr (8, [.ref lt, .ref tb, .ref fl, .ref wt, .int 0, .null])), (fl, .inl (cZ, 6, .inl (fun _ => 0)))]) hD hS hA [0, 1, 2] rfl
  refine vx_callq (vx_runV (As := [.int a0]) (rest := []) ⟨hx, hb, hml, hown, hts⟩ (k_X10_tableIn l htr D cI cJ cZ x st kp bf o1 o2 o3 o4 o5 o6 lt tb fl wt a0 s.heap.size) (cwV 1 hts gk_X10_best_X10_tableIn rfl rfl rfl (by decide +kernel) ⟨Nat.le_of_ble_eq_true rfl, Nat.le_of_ble_eq_true rfl⟩) ⟨xPc_blind, va_recv hK hP (ci := 9) (q0 := 0) rfl rfl, xPc_pre hPc hK hDc hE hS hFc hV⟩ rfl rfl hl.1 rfl (lv_room (Nat.le_of_ble_eq_true rfl)) dX10_best_2 ⟨Nat.le_of_ble_eq_true rfl, Nat.le_of_ble_eq_true rfl⟩) hS (fun q _ h => hFc q h) hFc (fun q _ h => hFc q h) (fun E ce q9 u t H_1 locs ht hvm hpx hBX hz1 hk1 hS hq9 hcv hcl => ?_) (fun r u t H_1 locs ht hvm hw hB hz1 hk1 hS => ?_)
  · rcases hBX with ⟨rfl, e_0⟩ | ⟨rfl, e_0, e_1⟩ | ⟨rfl, e_0, e_1⟩
    · have c_2 : a0.toInt < 0 := e_0
      exact vx_out (fun x hx => (htab x hx).elim) hlocks hq9 hcv hcl (fun t ht hW => ⟨(), trivial, Or.inl ⟨rfl, c_2⟩, hS.F ht⟩) hS.2.2 (Nat.le_of_ble_eq_true rfl) (Nat.le_of_ble_eq_true rfl)
    · have c_3 : 0 ≤ a0.toInt := e_0
      have c_4 : 6 ≤ a0.toInt := e_1
      exact vx_out (fun x hx => (htab x hx).elim) hlocks hq9 hcv hcl (fun t ht hW => ⟨(), trivial, Or.inr (Or.inl ⟨rfl, c_3, c_4⟩), hS.F ht⟩) hS.2.2 (Nat.le_of_ble_eq_true rfl) (Nat.le_of_ble_eq_true rfl)
    · have c_5 : 0 ≤ a0.toInt := e_0
      have c_6 : a0.toInt < 6 := e_1
      exact vx_out (fun x hx => (htab x hx).elim) hlocks hq9 hcv hcl (fun t ht hW => ⟨(), trivial, Or.inr (Or.inr ⟨rfl, c_5, c_6⟩), hS.F ht⟩) hS.2.2 (Nat.le_of_ble_eq_true rfl) (Nat.le_of_ble_eq_true rfl)
  · exact hw.elim
def wk_X10_classes : List Cond := .code yX10_classes cX10_classes 2 (some .int) :: (([.methodLink RX10 153 yX10_tableIn, .instanceMethod yX10_tableIn, .selects RX10 yX10_tableIn yX10_tableIn, .initialized RX10, .code yX10_tableIn cX10_tableIn 2 (some (.object "DocumentSpanner$SortedInts")), .fieldLink RX10 12 "DocumentSpanner" "state" "LDocumentSpanner$State;", .fieldLink RX10 96 "DocumentSpanner$State" "filled" "[Z", .classLink RX10 80 ise, .initialized ise, .methodLink RX10 138 yX10_checkSlot, .static yX10_checkSlot, .code yX10_checkSlot cX10_checkSlot 1 none, .classLink RX10 91 iob, .initialized iob] : List Cond) ++ wsX100 ++ wsX80 ++ (vx_atS RX10 84 ise ["java/lang/RuntimeException", "java/lang/Exception"]).filter goodWord ++ (vx_atS RX10 95 iob ["java/lang/RuntimeException", "java/lang/Exception"]).filter goodWord)
set_option maxRecDepth 20000 in
theorem ggk_X10_classes_X10_tableIn : GoodIn wk_X10_classes wk_X10_tableIn := goodIn_ca (goodIn_ca (goodIn_ca (goodIn_ca (goodIn_r _ [5, 6, 7, 8, 9, 10, 11, 4, 12, 13, 14] (by decide +kernel) (by decide +kernel)) (goodIn_sub (fun _ h => List.mem_cons_of_mem _ (List.mem_append_left _ (List.mem_append_left _ (List.mem_append_left _ (List.mem_append_right _ h))))) (by decide +kernel))) (goodIn_sub (fun _ h => List.mem_cons_of_mem _ (List.mem_append_left _ (List.mem_append_left _ (List.mem_append_right _ h)))) (by decide +kernel))) (goodIn_sub (fun _ h => List.mem_cons_of_mem _ (List.mem_append_left _ (List.mem_append_right _ h))) (by decide +kernel))) (goodIn_sub (fun _ h => List.mem_cons_of_mem _ (List.mem_append_right _ h)) (by decide +kernel))
set_option maxRecDepth 20000 in
theorem gk_X10_classes_X10_tableIn : GoodIn wk_X10_classes (wsV RX10 153 RX10 yX10_tableIn wk_X10_tableIn) := goodIn_app (goodIn_r _ [1, 2, 3, 4] (by decide +kernel) (by decide +kernel)) ggk_X10_classes_X10_tableIn
set_option maxHeartbeats 4000000 in
set_option maxRecDepth 100000 in
theorem k_X10_classes (l : Launch) (htr : l.stackTraces = false) (D : va_G) (cI cJ cZ : ClassId) (x : Nat) (st : Nat) (kp : Nat) (bf : Nat) (o1 : Nat) (o2 : Nat) (o3 : Nat) (o4 : Nat) (o5 : Nat) (o6 : Nat) (lt : Nat) (tb : Nat) (fl : Nat) (wt : Nat) (a0 : Int32) (sz : Nat) : vx_Met l yX10_classes wk_X10_classes ({ frames := 8, cells := 2, slots := 12, locals := 123 }) (xPc D cI cJ cZ [.ref x, .int a0] [(x, .inr (9, [.ref st, .ref kp, .int 0, .ref bf, .int 0, .int (-1), .int (-1), .int 0, .ref o1, .ref o2, .ref o3, .ref o4, .ref o5, .ref o6])), (st, .inr (8, [.ref lt, .ref tb, .ref fl, .ref wt, .int 0, .null])), (fl, .inl (cZ, 6, .inl (fun _ => 0)))] sz) (va_Qi (fun (r : Int32) (u : Unit) => False) (fun (u : Unit) (t : State) => va_P D vwCl ([] : va_W) t.heap ∧ va_D (va_A [(x, .inr (9, [.ref st, .ref kp, .int 0, .ref bf, .int 0, .int (-1), .int (-1), .int 0, .ref o1, .ref o2, .ref o3, .ref o4, .ref o5, .ref o6])), (st, .inr (8, [.ref lt, .ref tb, .ref fl, .ref wt, .int 0, .null])), (fl, .inl (cZ, 6, .inl (fun _ => 0)))] sz) ([] : va_W)) (va_A [(x, .inr (9, [.ref st, .ref kp, .int 0, .ref bf, .int 0, .int (-1), .int (-1), .int 0, .ref o1, .ref o2, .ref o3, .ref o4, .ref o5, .ref o6])), (st, .inr (8, [.ref lt, .ref tb, .ref fl, .ref wt, .int 0, .null])), (fl, .inl (cZ, 6, .inl (fun _ => 0)))] sz)) (vx_X (fun _ : Unit => True) (fun (E : String) (_ : Unit) (_ : State) => (E = iob ∧ a0.toInt < 0) ∨ (E = iob ∧ 0 ≤ a0.toInt ∧ 6 ≤ a0.toInt) ∨ (E = ise ∧ 0 ≤ a0.toInt ∧ a0.toInt < 6)) (va_A [(x, .inr (9, [.ref st, .ref kp, .int 0, .ref bf, .int 0, .int (-1), .int (-1), .int 0, .ref o1, .ref o2, .ref o3, .ref o4, .ref o5, .ref o6])), (st, .inr (8, [.ref lt, .ref tb, .ref fl, .ref wt, .int 0, .null])), (fl, .inl (cZ, 6, .inl (fun _ => 0)))] sz)) 2 12 (va_A [(x, .inr (9, [.ref st, .ref kp, .int 0, .ref bf, .int 0, .int (-1), .int (-1), .int 0, .ref o1, .ref o2, .ref o3, .ref o4, .ref o5, .ref o6])), (st, .inr (8, [.ref lt, .ref tb, .ref fl, .ref wt, .int 0, .null])), (fl, .inl (cZ, 6, .inl (fun _ => 0)))] sz) := by
  refine vx_ofW (cc := cX10_classes) (maxL := 2) (ret := (some .int)) (by decide) rfl ?_
  intro p e s m args below meth c s₁ B hml htab hv
  obtain ⟨rfl, hsz, hP, hK, hD0, hE, hV⟩ := hv
  have hx := B.exec
  have hb := B.bytes
  have hr := B.returns
  have hts := atoms_spec (ws := wk_X10_classes) B.pre
  have hown : s.vm.findClass RX10 = some m.cls := findClass_of_methodNamed B.named
  have hlocks := B.notSynchronized
  subst hsz
  have hD := hD0.self (sz := s.heap.size)
  generalize hAe : va_A [(x, .inr (9, [.ref st, .ref kp, .int 0, .ref bf, .int 0, .int (-1), .int (-1), .int 0, .ref o1, .ref o2, .ref o3, .ref o4, .ref o5, .ref o6])), (st, .inr (8, [.ref lt, .ref tb, .ref fl, .ref wt, .int 0, .null])), (fl, .inl (cZ, 6, .inl (fun _ => 0)))] s.heap.size = A at hD hE ⊢
  have hA : ∀ q : Nat, s.heap.size ≤ q → A q := fun q h => by rw [← hAe]; exact Or.inr h
  have hS : va_S A s.heap s.heap [] := va_S.rf
  have hP : va_P D vwCl [(x, .inr (9, [.ref st, .ref kp, .int 0, .ref bf, .int 0, .int (-1), .int (-1), .int 0, .ref o1, .ref o2, .ref o3, .ref o4, .ref o5, .ref o6])), (st, .inr (8, [.ref lt, .ref tb, .ref fl, .ref wt, .int 0, .null])), (fl, .inl (cZ, 6, .inl (fun _ => 0)))] s.heap := hP
  have hl := lv_entry ([.ref x, .int a0]) (n := 2) (Nat.le_of_ble_eq_true rfl)
  rw [lg_entry_eq]
  generalize (lg_sl ([.ref x, .int a0]) ++ List.replicate (2 - (lg_sl ([.ref x, .int a0])).length) Slot.unset).toArray = ls at hl ⊢
  have hl : lv_has ls 2 [(0, .ref x), (1, .int a0)] := hl
  refine lv_aload_n hx hb dX10_classes_0 rfl (lv_at hl 0 rfl) ?_
  refine lv_aload_n hx hb dX10_classes_1 rfl (lv_at hl 0 rfl) ?_
  refine lv_iload_n hx hb dX10_classes_2 rfl (lv_at hl 1 rfl) ?_
  have hPc := hP.sub (ws' := [(x, .inr (9, [.ref st, .ref kp, .int 0, .ref bf, .int 0, .int (-1), .int (-1), .int 0, .ref o1, .ref o2, .ref o3, .ref o4, .ref o5, .ref o6])), (st, .inr (8, [.ref lt, .ref tb, .ref fl, .ref wt, .int 0, .null])), (fl, .inl (cZ, 6, .inl (fun _ => 0)))]) [0, 1, 2] rfl
  have hDc := hD.sub (ws' := [(x, .inr (9, [.ref st, .ref kp, .int 0, .ref bf, .int 0, .int (-1), .int (-1), .int 0, .ref o1, .ref o2, .ref o3, .ref o4, .ref o5, .ref o6])), (st, .inr (8, [.ref lt, .ref tb, .ref fl, .ref wt, .int 0, .null])), (fl, .inl (cZ, 6, .inl (fun _ => 0)))]) [0, 1, 2] (by decide) rfl
  have hFc := va_free (wc := [(x, .inr (9, [.ref st, .ref kp, .int 0, .ref bf, .int 0, .int (-1), .int (-1), .int 0, .ref o1, .ref o2, .ref o3, .ref o4, .ref o5, .ref o6])), (st, .inr (8, [.ref lt, .ref tb, .ref fl, .ref wt, .int 0, .null])), (fl, .inl (cZ, 6, .inl (fun _ => 0)))]) hD hS hA [0, 1, 2] rfl
  refine vx_callq (vx_runV (As := [.int a0]) (rest := [.ref x]) ⟨hx, hb, hml, hown, hts⟩ (k_X10_tableIn l htr D cI cJ cZ x st kp bf o1 o2 o3 o4 o5 o6 lt tb fl wt a0 s.heap.size) (cwV 1 hts gk_X10_classes_X10_tableIn rfl rfl rfl (by decide +kernel) ⟨Nat.le_of_ble_eq_true rfl, Nat.le_of_ble_eq_true rfl⟩) ⟨xPc_blind, va_recv hK hP (ci := 9) (q0 := 0) rfl rfl, xPc_pre hPc hK hDc hE hS hFc hV⟩ rfl rfl hl.1 rfl (lv_room (Nat.le_of_ble_eq_true rfl)) dX10_classes_3 ⟨Nat.le_of_ble_eq_true rfl, Nat.le_of_ble_eq_true rfl⟩) hS (fun q _ h => hFc q h) hFc (fun q _ h => hFc q h) (fun E ce q9 u t H_1 locs ht hvm hpx hBX hz1 hk1 hS hq9 hcv hcl => ?_) (fun r u t H_1 locs ht hvm hw hB hz1 hk1 hS => ?_)
  · rcases hBX with ⟨rfl, e_0⟩ | ⟨rfl, e_0, e_1⟩ | ⟨rfl, e_0, e_1⟩
    · have c_2 : a0.toInt < 0 := e_0
      exact vx_out (fun x hx => (htab x hx).elim) hlocks hq9 hcv hcl (fun t ht hW => ⟨(), trivial, Or.inl ⟨rfl, c_2⟩, hS.F ht⟩) hS.2.2 (Nat.le_of_ble_eq_true rfl) (Nat.le_of_ble_eq_true rfl)
    · have c_3 : 0 ≤ a0.toInt := e_0
      have c_4 : 6 ≤ a0.toInt := e_1
      exact vx_out (fun x hx => (htab x hx).elim) hlocks hq9 hcv hcl (fun t ht hW => ⟨(), trivial, Or.inr (Or.inl ⟨rfl, c_3, c_4⟩), hS.F ht⟩) hS.2.2 (Nat.le_of_ble_eq_true rfl) (Nat.le_of_ble_eq_true rfl)
    · have c_5 : 0 ≤ a0.toInt := e_0
      have c_6 : a0.toInt < 6 := e_1
      exact vx_out (fun x hx => (htab x hx).elim) hlocks hq9 hcv hcl (fun t ht hW => ⟨(), trivial, Or.inr (Or.inr ⟨rfl, c_5, c_6⟩), hS.F ht⟩) hS.2.2 (Nat.le_of_ble_eq_true rfl) (Nat.le_of_ble_eq_true rfl)
  · exact hw.elim
def wk_X10_total : List Cond := .code yX10_total cX10_total 5 (some .int) :: (([.methodLink RX10 153 yX10_tableIn, .instanceMethod yX10_tableIn, .selects RX10 yX10_tableIn yX10_tableIn, .initialized RX10, .code yX10_tableIn cX10_tableIn 2 (some (.object "DocumentSpanner$SortedInts")), .fieldLink RX10 12 "DocumentSpanner" "state" "LDocumentSpanner$State;", .fieldLink RX10 96 "DocumentSpanner$State" "filled" "[Z", .classLink RX10 80 ise, .initialized ise, .methodLink RX10 138 yX10_checkSlot, .static yX10_checkSlot, .code yX10_checkSlot cX10_checkSlot 1 none, .classLink RX10 91 iob, .initialized iob] : List Cond) ++ wsX100 ++ wsX80 ++ (vx_atS RX10 84 ise ["java/lang/RuntimeException", "java/lang/Exception"]).filter goodWord ++ (vx_atS RX10 95 iob ["java/lang/RuntimeException", "java/lang/Exception"]).filter goodWord)
set_option maxRecDepth 20000 in
theorem ggk_X10_total_X10_tableIn : GoodIn wk_X10_total wk_X10_tableIn := goodIn_ca (goodIn_ca (goodIn_ca (goodIn_ca (goodIn_r _ [5, 6, 7, 8, 9, 10, 11, 4, 12, 13, 14] (by decide +kernel) (by decide +kernel)) (goodIn_sub (fun _ h => List.mem_cons_of_mem _ (List.mem_append_left _ (List.mem_append_left _ (List.mem_append_left _ (List.mem_append_right _ h))))) (by decide +kernel))) (goodIn_sub (fun _ h => List.mem_cons_of_mem _ (List.mem_append_left _ (List.mem_append_left _ (List.mem_append_right _ h)))) (by decide +kernel))) (goodIn_sub (fun _ h => List.mem_cons_of_mem _ (List.mem_append_left _ (List.mem_append_right _ h))) (by decide +kernel))) (goodIn_sub (fun _ h => List.mem_cons_of_mem _ (List.mem_append_right _ h)) (by decide +kernel))
set_option maxRecDepth 20000 in
theorem gk_X10_total_X10_tableIn : GoodIn wk_X10_total (wsV RX10 153 RX10 yX10_tableIn wk_X10_tableIn) := goodIn_app (goodIn_r _ [1, 2, 3, 4] (by decide +kernel) (by decide +kernel)) ggk_X10_total_X10_tableIn
set_option maxHeartbeats 4000000 in
set_option maxRecDepth 100000 in
theorem k_X10_total (l : Launch) (htr : l.stackTraces = false) (D : va_G) (cI cJ cZ : ClassId) (x : Nat) (st : Nat) (kp : Nat) (bf : Nat) (o1 : Nat) (o2 : Nat) (o3 : Nat) (o4 : Nat) (o5 : Nat) (o6 : Nat) (lt : Nat) (tb : Nat) (fl : Nat) (wt : Nat) (a0 : Int32) (sz : Nat) : vx_Met l yX10_total wk_X10_total ({ frames := 8, cells := 2, slots := 12, locals := 123 }) (xPc D cI cJ cZ [.ref x, .int a0] [(x, .inr (9, [.ref st, .ref kp, .int 0, .ref bf, .int 0, .int (-1), .int (-1), .int 0, .ref o1, .ref o2, .ref o3, .ref o4, .ref o5, .ref o6])), (st, .inr (8, [.ref lt, .ref tb, .ref fl, .ref wt, .int 0, .null])), (fl, .inl (cZ, 6, .inl (fun _ => 0)))] sz) (va_Qi (fun (r : Int32) (u : Unit) => False) (fun (u : Unit) (t : State) => va_P D vwCl ([] : va_W) t.heap ∧ va_D (va_A [(x, .inr (9, [.ref st, .ref kp, .int 0, .ref bf, .int 0, .int (-1), .int (-1), .int 0, .ref o1, .ref o2, .ref o3, .ref o4, .ref o5, .ref o6])), (st, .inr (8, [.ref lt, .ref tb, .ref fl, .ref wt, .int 0, .null])), (fl, .inl (cZ, 6, .inl (fun _ => 0)))] sz) ([] : va_W)) (va_A [(x, .inr (9, [.ref st, .ref kp, .int 0, .ref bf, .int 0, .int (-1), .int (-1), .int 0, .ref o1, .ref o2, .ref o3, .ref o4, .ref o5, .ref o6])), (st, .inr (8, [.ref lt, .ref tb, .ref fl, .ref wt, .int 0, .null])), (fl, .inl (cZ, 6, .inl (fun _ => 0)))] sz)) (vx_X (fun _ : Unit => True) (fun (E : String) (_ : Unit) (_ : State) => (E = iob ∧ a0.toInt < 0) ∨ (E = iob ∧ 0 ≤ a0.toInt ∧ 6 ≤ a0.toInt) ∨ (E = ise ∧ 0 ≤ a0.toInt ∧ a0.toInt < 6)) (va_A [(x, .inr (9, [.ref st, .ref kp, .int 0, .ref bf, .int 0, .int (-1), .int (-1), .int 0, .ref o1, .ref o2, .ref o3, .ref o4, .ref o5, .ref o6])), (st, .inr (8, [.ref lt, .ref tb, .ref fl, .ref wt, .int 0, .null])), (fl, .inl (cZ, 6, .inl (fun _ => 0)))] sz)) 2 12 (va_A [(x, .inr (9, [.ref st, .ref kp, .int 0, .ref bf, .int 0, .int (-1), .int (-1), .int 0, .ref o1, .ref o2, .ref o3, .ref o4, .ref o5, .ref o6])), (st, .inr (8, [.ref lt, .ref tb, .ref fl, .ref wt, .int 0, .null])), (fl, .inl (cZ, 6, .inl (fun _ => 0)))] sz) := by
  refine vx_ofW (cc := cX10_total) (maxL := 5) (ret := (some .int)) (by decide) rfl ?_
  intro p e s m args below meth c s₁ B hml htab hv
  obtain ⟨rfl, hsz, hP, hK, hD0, hE, hV⟩ := hv
  have hx := B.exec
  have hb := B.bytes
  have hr := B.returns
  have hts := atoms_spec (ws := wk_X10_total) B.pre
  have hown : s.vm.findClass RX10 = some m.cls := findClass_of_methodNamed B.named
  have hlocks := B.notSynchronized
  subst hsz
  have hD := hD0.self (sz := s.heap.size)
  generalize hAe : va_A [(x, .inr (9, [.ref st, .ref kp, .int 0, .ref bf, .int 0, .int (-1), .int (-1), .int 0, .ref o1, .ref o2, .ref o3, .ref o4, .ref o5, .ref o6])), (st, .inr (8, [.ref lt, .ref tb, .ref fl, .ref wt, .int 0, .null])), (fl, .inl (cZ, 6, .inl (fun _ => 0)))] s.heap.size = A at hD hE ⊢
  have hA : ∀ q : Nat, s.heap.size ≤ q → A q := fun q h => by rw [← hAe]; exact Or.inr h
  have hS : va_S A s.heap s.heap [] := va_S.rf
  have hP : va_P D vwCl [(x, .inr (9, [.ref st, .ref kp, .int 0, .ref bf, .int 0, .int (-1), .int (-1), .int 0, .ref o1, .ref o2, .ref o3, .ref o4, .ref o5, .ref o6])), (st, .inr (8, [.ref lt, .ref tb, .ref fl, .ref wt, .int 0, .null])), (fl, .inl (cZ, 6, .inl (fun _ => 0)))] s.heap := hP
  have hl := lv_entry ([.ref x, .int a0]) (n := 5) (Nat.le_of_ble_eq_true rfl)
  rw [lg_entry_eq]
  generalize (lg_sl ([.ref x, .int a0]) ++ List.replicate (5 - (lg_sl ([.ref x, .int a0])).length) Slot.unset).toArray = ls at hl ⊢
  have hl : lv_has ls 5 [(0, .ref x), (1, .int a0)] := hl
  refine lv_aload_n hx hb dX10_total_0 rfl (lv_at hl 0 rfl) ?_
  refine lv_iload_n hx hb dX10_total_1 rfl (lv_at hl 1 rfl) ?_
  have hPc := hP.sub (ws' := [(x, .inr (9, [.ref st, .ref kp, .int 0, .ref bf, .int 0, .int (-1), .int (-1), .int 0, .ref o1, .ref o2, .ref o3, .ref o4, .ref o5, .ref o6])), (st, .inr (8, [.ref lt, .ref tb, .ref fl, .ref wt, .int 0, .null])), (fl, .inl (cZ, 6, .inl (fun _ => 0)))]) [0, 1, 2] rfl
  have hDc := hD.sub (ws' := [(x, .inr (9, [.ref st, .ref kp, .int 0, .ref bf, .int 0, .int (-1), .int (-1), .int 0, .ref o1, .ref o2, .ref o3, .ref o4, .ref o5, .ref o6])), (st, .inr (8, [.ref lt, .ref tb, .ref fl, .ref wt, .int 0, .null])), (fl, .inl (cZ, 6, .inl (fun _ => 0)))]) [0, 1, 2] (by decide) rfl
  have hFc := va_free (wc := [(x, .inr (9, [.ref st, .ref kp, .int 0, .ref bf, .int 0, .int (-1), .int (-1), .int 0, .ref o1, .ref o2, .ref o3, .ref o4, .ref o5, .ref o6])), (st, .inr (8, [.ref lt, .ref tb, .ref fl, .ref wt, .int 0, .null])), (fl, .inl (cZ, 6, .inl (fun _ => 0)))]) hD hS hA [0, 1, 2] rfl
  refine vx_callq (vx_runV (As := [.int a0]) (rest := []) ⟨hx, hb, hml, hown, hts⟩ (k_X10_tableIn l htr D cI cJ cZ x st kp bf o1 o2 o3 o4 o5 o6 lt tb fl wt a0 s.heap.size) (cwV 1 hts gk_X10_total_X10_tableIn rfl rfl rfl (by decide +kernel) ⟨Nat.le_of_ble_eq_true rfl, Nat.le_of_ble_eq_true rfl⟩) ⟨xPc_blind, va_recv hK hP (ci := 9) (q0 := 0) rfl rfl, xPc_pre hPc hK hDc hE hS hFc hV⟩ rfl rfl hl.1 rfl (lv_room (Nat.le_of_ble_eq_true rfl)) dX10_total_2 ⟨Nat.le_of_ble_eq_true rfl, Nat.le_of_ble_eq_true rfl⟩) hS (fun q _ h => hFc q h) hFc (fun q _ h => hFc q h) (fun E ce q9 u t H_1 locs ht hvm hpx hBX hz1 hk1 hS hq9 hcv hcl => ?_) (fun r u t H_1 locs ht hvm hw hB hz1 hk1 hS => ?_)
  · rcases hBX with ⟨rfl, e_0⟩ | ⟨rfl, e_0, e_1⟩ | ⟨rfl, e_0, e_1⟩
    · have c_2 : a0.toInt < 0 := e_0
      exact vx_out (fun x hx => (htab x hx).elim) hlocks hq9 hcv hcl (fun t ht hW => ⟨(), trivial, Or.inl ⟨rfl, c_2⟩, hS.F ht⟩) hS.2.2 (Nat.le_of_ble_eq_true rfl) (Nat.le_of_ble_eq_true rfl)
    · have c_3 : 0 ≤ a0.toInt := e_0
      have c_4 : 6 ≤ a0.toInt := e_1
      exact vx_out (fun x hx => (htab x hx).elim) hlocks hq9 hcv hcl (fun t ht hW => ⟨(), trivial, Or.inr (Or.inl ⟨rfl, c_3, c_4⟩), hS.F ht⟩) hS.2.2 (Nat.le_of_ble_eq_true rfl) (Nat.le_of_ble_eq_true rfl)
    · have c_5 : 0 ≤ a0.toInt := e_0
      have c_6 : a0.toInt < 6 := e_1
      exact vx_out (fun x hx => (htab x hx).elim) hlocks hq9 hcv hcl (fun t ht hW => ⟨(), trivial, Or.inr (Or.inr ⟨rfl, c_5, c_6⟩), hS.F ht⟩) hS.2.2 (Nat.le_of_ble_eq_true rfl) (Nat.le_of_ble_eq_true rfl)
  · exact hw.elim
def wk_X10_restore : List Cond := .code yX10_restore cX10_restore 1 (some .int) :: (([.fieldLink RX10 19 "DocumentSpanner" "isKept" "Z", .classLink RX10 80 ise, .initialized ise] : List Cond) ++ wsX100 ++ (vx_atS RX10 84 ise ["java/lang/RuntimeException", "java/lang/Exception"]).filter goodWord)
set_option maxHeartbeats 4000000 in
set_option maxRecDepth 100000 in
theorem k_X10_restore (l : Launch) (htr : l.stackTraces = false) (D : va_G) (cI cJ cZ : ClassId) (x : Nat) (st : Nat) (kp : Nat) (bf : Nat) (o1 : Nat) (o2 : Nat) (o3 : Nat) (o4 : Nat) (o5 : Nat) (o6 : Nat) (sz : Nat) : vx_Met l yX10_restore wk_X10_restore ({ frames := 6, cells := 1, slots := 6, locals := 82 }) (xPc D cI cJ cZ [.ref x] [(x, .inr (9, [.ref st, .ref kp, .int 0, .ref bf, .int 0, .int (-1), .int (-1), .int 0, .ref o1, .ref o2, .ref o3, .ref o4, .ref o5, .ref o6]))] sz) (va_Qi (fun (r : Int32) (u : Unit) => False) (fun (u : Unit) (t : State) => va_P D vwCl ([] : va_W) t.heap ∧ va_D (va_A [(x, .inr (9, [.ref st, .ref kp, .int 0, .ref bf, .int 0, .int (-1), .int (-1), .int 0, .ref o1, .ref o2, .ref o3, .ref o4, .ref o5, .ref o6]))] sz) ([] : va_W)) (va_A [(x, .inr (9, [.ref st, .ref kp, .int 0, .ref bf, .int 0, .int (-1), .int (-1), .int 0, .ref o1, .ref o2, .ref o3, .ref o4, .ref o5, .ref o6]))] sz)) (vx_X (fun _ : Unit => True) (fun (E : String) (_ : Unit) (_ : State) => (E = ise)) (va_A [(x, .inr (9, [.ref st, .ref kp, .int 0, .ref bf, .int 0, .int (-1), .int (-1), .int 0, .ref o1, .ref o2, .ref o3, .ref o4, .ref o5, .ref o6]))] sz)) 1 6 (va_A [(x, .inr (9, [.ref st, .ref kp, .int 0, .ref bf, .int 0, .int (-1), .int (-1), .int 0, .ref o1, .ref o2, .ref o3, .ref o4, .ref o5, .ref o6]))] sz) := by
  refine vx_ofW (cc := cX10_restore) (maxL := 1) (ret := (some .int)) (by decide) rfl ?_
  intro p e s m args below meth c s₁ B hml htab hv
  obtain ⟨rfl, hsz, hP, hK, hD0, hE, hV⟩ := hv
  have hx := B.exec
  have hb := B.bytes
  have hr := B.returns
  have hts := atoms_spec (ws := wk_X10_restore) B.pre
  have hown : s.vm.findClass RX10 = some m.cls := findClass_of_methodNamed B.named
  have hlocks := B.notSynchronized
  have i_X10 : ∀ w ∈ wsX100, w ∈ wk_X10_restore := fun _ h => List.mem_cons_of_mem _ (List.mem_append_left _ (List.mem_append_right _ h))
  have w_1 := hts (.fieldLink RX10 19 "DocumentSpanner" "isKept" "Z") (List.mem_of_getElem? (i := 1) rfl)
  have w_2 := hts (.classLink RX10 80 ise) (List.mem_of_getElem? (i := 2) rfl)
  have w_3 := hts (.initialized ise) (List.mem_of_getElem? (i := 3) rfl)
  have w_4 := xat_84 (fun w h => hts w (List.mem_cons_of_mem _ (List.mem_append_right _ h))) hV
  subst hsz
  have hD := hD0.self (sz := s.heap.size)
  generalize hAe : va_A [(x, .inr (9, [.ref st, .ref kp, .int 0, .ref bf, .int 0, .int (-1), .int (-1), .int 0, .ref o1, .ref o2, .ref o3, .ref o4, .ref o5, .ref o6]))] s.heap.size = A at hD hE ⊢
  have hA : ∀ q : Nat, s.heap.size ≤ q → A q := fun q h => by rw [← hAe]; exact Or.inr h
  have hS : va_S A s.heap s.heap [] := va_S.rf
  have hP : va_P D vwCl [(x, .inr (9, [.ref st, .ref kp, .int 0, .ref bf, .int 0, .int (-1), .int (-1), .int 0, .ref o1, .ref o2, .ref o3, .ref o4, .ref o5, .ref o6]))] s.heap := hP
  have hl := lv_entry ([.ref x]) (n := 1) (Nat.le_of_ble_eq_true rfl)
  rw [lg_entry_eq]
  generalize (lg_sl ([.ref x]) ++ List.replicate (1 - (lg_sl ([.ref x])).length) Slot.unset).toArray = ls at hl ⊢
  have hl : lv_has ls 1 [(0, .ref x)] := hl
  refine lv_aload_n hx hb dX10_restore_0 rfl (lv_at hl 0 rfl) ?_
  refine va_get (D := D) (ci := 9) (v := .int 0) (C := RX10) (T := TX10) (N := 14) hx hb hts i_X10 hown hK hP 0 rfl rfl 2 (by decide) w_1 (fun _ h9 => h9) rfl dX10_restore_1 ?_
  refine lv_if_ne (tgt := 18) hx hb dX10_restore_4 (by decide) (fun h9 => absurd h9 (by decide)) (fun _ => ?_)
  obtain ⟨sa, hstr⟩ := hV.1 (321, "nothing was saved") (by decide)
  exact vx_throwSW (names := ["java/lang/RuntimeException", "java/lang/Exception"]) hx hb htr hown (by decide +kernel) (by decide +kernel) w_2 w_3 hstr w_4 xgood_80_84 hE.1 hE.2 hS (hl.1.trans hml.symm) dX10_restore_7 dX10_restore_10 dX10_restore_11 dX10_restore_14 dX10_restore_17 (fun x hx => (htab x hx).elim) (Nat.le_of_ble_eq_true rfl) (Nat.le_of_ble_eq_true rfl) (Nat.le_of_ble_eq_true rfl) (Nat.le_of_ble_eq_true rfl) hlocks (fun t h1 h2 h3 => ⟨(), trivial, rfl, xF hS h2 h3⟩) hS.2.2 (Nat.le_of_ble_eq_true rfl) (Nat.le_of_ble_eq_true rfl)
