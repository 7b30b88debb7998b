def wk_L_selectEqual : List Cond := .codeWith yL_selectEqual cL_selectEqual 7 (some .int) [(0, 14, 17, 20), (0, 14, 21, 15)] :: (([.classLink RL 20 iob, .classLink RL 15 ise, .methodLink RL 73 yX10_selectEqual, .instanceMethod yX10_selectEqual, .selects RX10 yX10_selectEqual yX10_selectEqual, .initialized RX10, .code yX10_selectEqual cX10_selectEqual 8 (some .int), .methodLink RX10 241 yX10_checkSelection, .static yX10_checkSelection, .code yX10_checkSelection cX10_checkSelection 4 none, .methodLink RX10 138 yX10_checkSlot, .static yX10_checkSlot, .code yX10_checkSlot cX10_checkSlot 1 none, .classLink RX10 91 iob, .initialized iob, .methodLink RX10 189 yX10_checkVariable, .static yX10_checkVariable, .code yX10_checkVariable cX10_checkVariable 1 none, .methodLink RX10 153 yX10_tableIn, .instanceMethod yX10_tableIn, .selects RX10 yX10_tableIn yX10_tableIn, .code yX10_tableIn cX10_tableIn 2 (some (.object "DocumentSpanner$SortedInts")), .fieldLink RX10 12 "DocumentSpanner" "state" "LDocumentSpanner$State;", .fieldLink RX10 96 "DocumentSpanner$State" "filled" "[Z", .classLink RX10 80 ise, .initialized ise] : List Cond) ++ wsX100 ++ wsX80 ++ (vx_atS RX10 84 ise ["java/lang/RuntimeException", "java/lang/Exception"]).filter goodWord ++ (vx_atS RX10 95 iob ["java/lang/RuntimeException", "java/lang/Exception"]).filter goodWord)
set_option maxRecDepth 20000 in
theorem ggk_L_selectEqual_X10_selectEqual : GoodIn wk_L_selectEqual wk_X10_selectEqual := goodIn_ca (goodIn_ca (goodIn_ca (goodIn_ca (goodIn_r _ [7, 8, 9, 6, 10, 11, 12, 13, 14, 15, 16, 17, 18, 19, 20, 21, 22, 23, 24, 25, 26] (by decide +kernel) (by decide +kernel)) (goodIn_sub (fun _ h => List.mem_cons_of_mem _ (List.mem_append_left _ (List.mem_append_left _ (List.mem_append_left _ (List.mem_append_right _ h))))) (by decide +kernel))) (goodIn_sub (fun _ h => List.mem_cons_of_mem _ (List.mem_append_left _ (List.mem_append_left _ (List.mem_append_right _ h)))) (by decide +kernel))) (goodIn_sub (fun _ h => List.mem_cons_of_mem _ (List.mem_append_left _ (List.mem_append_right _ h))) (by decide +kernel))) (goodIn_sub (fun _ h => List.mem_cons_of_mem _ (List.mem_append_right _ h)) (by decide +kernel))
set_option maxRecDepth 20000 in
theorem gk_L_selectEqual_X10_selectEqual : GoodIn wk_L_selectEqual (wsV RL 73 RX10 yX10_selectEqual wk_X10_selectEqual) := goodIn_app (goodIn_r _ [3, 4, 5, 6] (by decide +kernel) (by decide +kernel)) ggk_L_selectEqual_X10_selectEqual
set_option maxHeartbeats 4000000 in
set_option maxRecDepth 100000 in
theorem k_L_selectEqual (l : Launch) (htr : l.stackTraces = false) (D : va_G) (cI cJ cZ : ClassId) (x : Nat) (st : Nat) (kp : Nat) (bf : Nat) (o1 : Nat) (o2 : Nat) (o3 : Nat) (o4 : Nat) (o5 : Nat) (o6 : Nat) (lt : Nat) (tb : Nat) (fl : Nat) (wt : Nat) (ou : Nat) (a0 : Int32) (a1 : Int32) (a2 : Int32) (a3 : Int32) (sz : Nat) : vx_Met l yL_selectEqual wk_L_selectEqual ({ frames := 9, cells := 6, slots := 36, locals := 152 }) (xPc D cI cJ cZ [.ref x, .int a0, .int a1, .int a2, .int a3, .ref ou] [(x, .inr (9, [.ref st, .ref kp, .int 0, .ref bf, .int 0, .int (-1), .int (-1), .int 0, .ref o1, .ref o2, .ref o3, .ref o4, .ref o5, .ref o6])), (st, .inr (8, [.ref lt, .ref tb, .ref fl, .ref wt, .int 0, .null])), (fl, .inl (cZ, 6, .inl (fun _ => 0))), (ou, .inl (cJ, 1, .inr (.inl (fun _ => 0))))] sz) (va_Qi (fun (r : Int32) (u : Unit) => (r = 1 ∧ a0.toInt < 0) ∨ (r = 1 ∧ 0 ≤ a0.toInt ∧ 6 ≤ a0.toInt) ∨ (r = 1 ∧ 0 ≤ a0.toInt ∧ a0.toInt < 6 ∧ a3.toInt < 0) ∨ (r = 1 ∧ 0 ≤ a0.toInt ∧ a0.toInt < 6 ∧ 0 ≤ a3.toInt ∧ 6 ≤ a3.toInt) ∨ (r = 1 ∧ 0 ≤ a0.toInt ∧ a0.toInt < 6 ∧ 0 ≤ a3.toInt ∧ a3.toInt < 6 ∧ a1.toInt < 0) ∨ (r = 1 ∧ 0 ≤ a0.toInt ∧ a0.toInt < 6 ∧ 0 ≤ a3.toInt ∧ a3.toInt < 6 ∧ 0 ≤ a1.toInt ∧ 3 ≤ a1.toInt) ∨ (r = 1 ∧ 0 ≤ a0.toInt ∧ a0.toInt < 6 ∧ 0 ≤ a3.toInt ∧ a3.toInt < 6 ∧ 0 ≤ a1.toInt ∧ a1.toInt < 3 ∧ a2.toInt < 0) ∨ (r = 1 ∧ 0 ≤ a0.toInt ∧ a0.toInt < 6 ∧ 0 ≤ a3.toInt ∧ a3.toInt < 6 ∧ 0 ≤ a1.toInt ∧ a1.toInt < 3 ∧ 0 ≤ a2.toInt ∧ 3 ≤ a2.toInt) ∨ (r = 2 ∧ 0 ≤ a0.toInt ∧ a0.toInt < 6 ∧ 0 ≤ a3.toInt ∧ a3.toInt < 6 ∧ 0 ≤ a1.toInt ∧ a1.toInt < 3 ∧ 0 ≤ a2.toInt ∧ a2.toInt < 3 ∧ 0 ≤ a0.toInt ∧ a0.toInt < 6)) (fun (u : Unit) (t : State) => va_P D vwCl ([] : va_W) t.heap ∧ va_D (va_A [(x, .inr (9, [.ref st, .ref kp, .int 0, .ref bf, .int 0, .int (-1), .int (-1), .int 0, .ref o1, .ref o2, .ref o3, .ref o4, .ref o5, .ref o6])), (st, .inr (8, [.ref lt, .ref tb, .ref fl, .ref wt, .int 0, .null])), (fl, .inl (cZ, 6, .inl (fun _ => 0))), (ou, .inl (cJ, 1, .inr (.inl (fun _ => 0))))] sz) ([] : va_W)) (va_A [(x, .inr (9, [.ref st, .ref kp, .int 0, .ref bf, .int 0, .int (-1), .int (-1), .int 0, .ref o1, .ref o2, .ref o3, .ref o4, .ref o5, .ref o6])), (st, .inr (8, [.ref lt, .ref tb, .ref fl, .ref wt, .int 0, .null])), (fl, .inl (cZ, 6, .inl (fun _ => 0))), (ou, .inl (cJ, 1, .inr (.inl (fun _ => 0))))] sz)) (vx_X (fun _ : Unit => True) (fun (E : String) (_ : Unit) (_ : State) => False) (va_A [(x, .inr (9, [.ref st, .ref kp, .int 0, .ref bf, .int 0, .int (-1), .int (-1), .int 0, .ref o1, .ref o2, .ref o3, .ref o4, .ref o5, .ref o6])), (st, .inr (8, [.ref lt, .ref tb, .ref fl, .ref wt, .int 0, .null])), (fl, .inl (cZ, 6, .inl (fun _ => 0))), (ou, .inl (cJ, 1, .inr (.inl (fun _ => 0))))] sz)) 6 36 (va_A [(x, .inr (9, [.ref st, .ref kp, .int 0, .ref bf, .int 0, .int (-1), .int (-1), .int 0, .ref o1, .ref o2, .ref o3, .ref o4, .ref o5, .ref o6])), (st, .inr (8, [.ref lt, .ref tb, .ref fl, .ref wt, .int 0, .null])), (fl, .inl (cZ, 6, .inl (fun _ => 0))), (ou, .inl (cJ, 1, .inr (.inl (fun _ => 0))))] sz) := by
  refine vx_ofWH (cc := cL_selectEqual) (maxL := 7) (ret := (some .int)) (by decide) rfl ?_
  intro p e s m args below meth c s₁ B hml hv
  obtain ⟨rfl, hsz, hP, hK, hD0, hE, hV⟩ := hv
  have hx := B.exec
  have hb := B.bytes
  have hr := B.returns
  have hts := atoms_spec (ws := wk_L_selectEqual) B.pre
  have hown : s.vm.findClass RL = some m.cls := findClass_of_methodNamed B.named
  have hlocks := B.notSynchronized
  have htab : c.exceptionTable.toList = tableOf [(0, 14, 17, 20), (0, 14, 21, 15)] := vx_table (x := yL_selectEqual) B (hts _ List.mem_cons_self)
  have w_1 := hts (.classLink RL 20 iob) (List.mem_of_getElem? (i := 1) rfl)
  have w_2 := hts (.classLink RL 15 ise) (List.mem_of_getElem? (i := 2) rfl)
  subst hsz
  have hD := hD0.self (sz := s.heap.size)
  generalize hAe : va_A [(x, .inr (9, [.ref st, .ref kp, .int 0, .ref bf, .int 0, .int (-1), .int (-1), .int 0, .ref o1, .ref o2, .ref o3, .ref o4, .ref o5, .ref o6])), (st, .inr (8, [.ref lt, .ref tb, .ref fl, .ref wt, .int 0, .null])), (fl, .inl (cZ, 6, .inl (fun _ => 0))), (ou, .inl (cJ, 1, .inr (.inl (fun _ => 0))))] s.heap.size = A at hD hE ⊢
  have hA : ∀ q : Nat, s.heap.size ≤ q → A q := fun q h => by rw [← hAe]; exact Or.inr h
  have hS : va_S A s.heap s.heap [] := va_S.rf
  have hP : va_P D vwCl [(x, .inr (9, [.ref st, .ref kp, .int 0, .ref bf, .int 0, .int (-1), .int (-1), .int 0, .ref o1, .ref o2, .ref o3, .ref o4, .ref o5, .ref o6])), (st, .inr (8, [.ref lt, .ref tb, .ref fl, .ref wt, .int 0, .null])), (fl, .inl (cZ, 6, .inl (fun _ => 0))), (ou, .inl (cJ, 1, .inr (.inl (fun _ => 0))))] s.heap := hP
  have hl := lv_entry ([.ref x, .int a0, .int a1, .int a2, .int a3, .ref ou]) (n := 7) (Nat.le_of_ble_eq_true rfl)
  rw [lg_entry_eq]
  generalize (lg_sl ([.ref x, .int a0, .int a1, .int a2, .int a3, .ref ou]) ++ List.replicate (7 - (lg_sl ([.ref x, .int a0, .int a1, .int a2, .int a3, .ref ou])).length) Slot.unset).toArray = ls at hl ⊢
  have hl : lv_has ls 7 [(0, .ref x), (1, .int a0), (2, .int a1), (3, .int a2), (4, .int a3), (5, .ref ou)] := hl
  refine lv_aload hx hb dL_selectEqual_0 (lv_at hl 5 rfl) ?_
  refine lv_iconst (v := 0) hx hb dL_selectEqual_2 (by decide) ?_
  refine lv_aload_n hx hb dL_selectEqual_3 rfl (lv_at hl 0 rfl) ?_
  refine lv_iload_n hx hb dL_selectEqual_4 rfl (lv_at hl 1 rfl) ?_
  refine lv_iload_n hx hb dL_selectEqual_5 rfl (lv_at hl 2 rfl) ?_
  refine lv_iload_n hx hb dL_selectEqual_6 rfl (lv_at hl 3 rfl) ?_
  refine lv_iload hx hb dL_selectEqual_7 (lv_at hl 4 rfl) ?_
  have hPc := hP.sub (ws' := [(x, .inr (9, [.ref st, .ref kp, .int 0, .ref bf, .int 0, .int (-1), .int (-1), .int 0, .ref o1, .ref o2, .ref o3, .ref o4, .ref o5, .ref o6])), (st, .inr (8, [.ref lt, .ref tb, .ref fl, .ref wt, .int 0, .null])), (fl, .inl (cZ, 6, .inl (fun _ => 0)))]) [0, 1, 2] rfl
  have hDc := hD.sub (ws' := [(x, .inr (9, [.ref st, .ref kp, .int 0, .ref bf, .int 0, .int (-1), .int (-1), .int 0, .ref o1, .ref o2, .ref o3, .ref o4, .ref o5, .ref o6])), (st, .inr (8, [.ref lt, .ref tb, .ref fl, .ref wt, .int 0, .null])), (fl, .inl (cZ, 6, .inl (fun _ => 0)))]) [0, 1, 2] (by decide) rfl
  have hFc := va_free (wc := [(x, .inr (9, [.ref st, .ref kp, .int 0, .ref bf, .int 0, .int (-1), .int (-1), .int 0, .ref o1, .ref o2, .ref o3, .ref o4, .ref o5, .ref o6])), (st, .inr (8, [.ref lt, .ref tb, .ref fl, .ref wt, .int 0, .null])), (fl, .inl (cZ, 6, .inl (fun _ => 0)))]) hD hS hA [0, 1, 2] rfl
  refine vx_calli (vx_runV (As := [.int a0, .int a1, .int a2, .int a3]) (rest := [.int 0, .ref ou]) ⟨hx, hb, hml, hown, hts⟩ (k_X10_selectEqual l htr D cI cJ cZ x st kp bf o1 o2 o3 o4 o5 o6 lt tb fl wt a0 a1 a2 a3 s.heap.size) (cwV 4 hts gk_L_selectEqual_X10_selectEqual rfl rfl rfl (by decide +kernel) ⟨Nat.le_of_ble_eq_true rfl, Nat.le_of_ble_eq_true rfl⟩) ⟨xPc_blind, va_recv hK hP (ci := 9) (q0 := 0) rfl rfl, xPc_pre hPc hK hDc hE hS hFc hV⟩ rfl rfl hl.1 rfl (lv_room (Nat.le_of_ble_eq_true rfl)) dL_selectEqual_9 ⟨Nat.le_of_ble_eq_true rfl, Nat.le_of_ble_eq_true rfl⟩) hS (fun q _ h => hFc q h) hFc (fun q _ h => hFc q h) (fun E ce q9 u t H_1 locs ht hvm hpx hBX hz1 hk1 hS hq9 hcv hcl => ?_) (fun r u t H_1 locs ht hvm hw hB hz1 hk1 hS => ?_)
  · rcases hBX with ⟨rfl, e_0⟩ | ⟨rfl, e_0, e_1⟩ | ⟨rfl, e_0, e_1, e_2⟩ | ⟨rfl, e_0, e_1, e_2, e_3⟩ | ⟨rfl, e_0, e_1, e_2, e_3, e_4⟩ | ⟨rfl, e_0, e_1, e_2, e_3, e_4, e_5⟩ | ⟨rfl, e_0, e_1, e_2, e_3, e_4, e_5, e_6⟩ | ⟨rfl, e_0, e_1, e_2, e_3, e_4, e_5, e_6, e_7⟩ | ⟨rfl, e_0, e_1, e_2, e_3, e_4, e_5, e_6, e_7, e_8, e_9⟩
    · have c_2 : a0.toInt < 0 := e_0
      refine vx_catch hown (tableOf []) ⟨0, 14, 17, 20⟩ (tableOf [(0, 14, 21, 15)]) (by rw [htab]; rfl) (xpass0) (by decide) (by decide) w_1 (va_Nw.use rfl hV.2.2.2.2.2.1.2.2) hq9 hcv hcl ?_
      have hP : va_P D vwCl [] H_1 := fun k q h => by simp at h
      have hD : va_D A [] := ⟨fun i j p q h => by simp at h, fun k q h => by simp at h⟩
      refine W.widen (k := 6) (n := 36) (Nat.le_of_ble_eq_true rfl) (Nat.le_of_ble_eq_true rfl) ?_
      refine lv_astore (lv' := [(6, .ref q9), (0, .ref x), (1, .int a0), (2, .int a1), (3, .int a2), (4, .int a3), (5, .ref ou)]) hx hb dL_selectEqual_17 hl (by decide) rfl (fun ls hl => ?_)
      refine lv_iconst (v := 1) hx hb dL_selectEqual_19 (by decide) ?_
      have hP9 := hP.sub (ws' := []) [] rfl
      have hD9 := hD.sub (ws' := []) [] (by decide) rfl
      refine W.widen (k := 6) (n := 36) (Nat.le_of_ble_eq_true rfl) (Nat.le_of_ble_eq_true rfl) ?_
      exact vx_ret (W.iret (v := 1) hx hb hr (fun t ht hW => ⟨⟨1, (), rfl, Or.inl ⟨rfl, c_2⟩, by rw [ht]; exact hP9, hD9⟩, hS.F ht⟩) hS.2.2 dL_selectEqual_20)
    · have c_3 : 0 ≤ a0.toInt := e_0
      have c_4 : 6 ≤ a0.toInt := e_1
      refine vx_catch hown (tableOf []) ⟨0, 14, 17, 20⟩ (tableOf [(0, 14, 21, 15)]) (by rw [htab]; rfl) (xpass0) (by decide) (by decide) w_1 (va_Nw.use rfl hV.2.2.2.2.2.1.2.2) hq9 hcv hcl ?_
      have hP : va_P D vwCl [] H_1 := fun k q h => by simp at h
      have hD : va_D A [] := ⟨fun i j p q h => by simp at h, fun k q h => by simp at h⟩
      refine W.widen (k := 6) (n := 36) (Nat.le_of_ble_eq_true rfl) (Nat.le_of_ble_eq_true rfl) ?_
      refine lv_astore (lv' := [(6, .ref q9), (0, .ref x), (1, .int a0), (2, .int a1), (3, .int a2), (4, .int a3), (5, .ref ou)]) hx hb dL_selectEqual_17 hl (by decide) rfl (fun ls hl => ?_)
      refine lv_iconst (v := 1) hx hb dL_selectEqual_19 (by decide) ?_
      have hP9 := hP.sub (ws' := []) [] rfl
      have hD9 := hD.sub (ws' := []) [] (by decide) rfl
      refine W.widen (k := 6) (n := 36) (Nat.le_of_ble_eq_true rfl) (Nat.le_of_ble_eq_true rfl) ?_
      exact vx_ret (W.iret (v := 1) hx hb hr (fun t ht hW => ⟨⟨1, (), rfl, Or.inr (Or.inl ⟨rfl, c_3, c_4⟩), by rw [ht]; exact hP9, hD9⟩, hS.F ht⟩) hS.2.2 dL_selectEqual_20)
    · have c_5 : 0 ≤ a0.toInt := e_0
      have c_6 : a0.toInt < 6 := e_1
      have c_7 : a3.toInt < 0 := e_2
      refine vx_catch hown (tableOf []) ⟨0, 14, 17, 20⟩ (tableOf [(0, 14, 21, 15)]) (by rw [htab]; rfl) (xpass0) (by decide) (by decide) w_1 (va_Nw.use rfl hV.2.2.2.2.2.1.2.2) hq9 hcv hcl ?_
      have hP : va_P D vwCl [] H_1 := fun k q h => by simp at h
      have hD : va_D A [] := ⟨fun i j p q h => by simp at h, fun k q h => by simp at h⟩
      refine W.widen (k := 6) (n := 36) (Nat.le_of_ble_eq_true rfl) (Nat.le_of_ble_eq_true rfl) ?_
      refine lv_astore (lv' := [(6, .ref q9), (0, .ref x), (1, .int a0), (2, .int a1), (3, .int a2), (4, .int a3), (5, .ref ou)]) hx hb dL_selectEqual_17 hl (by decide) rfl (fun ls hl => ?_)
      refine lv_iconst (v := 1) hx hb dL_selectEqual_19 (by decide) ?_
      have hP9 := hP.sub (ws' := []) [] rfl
      have hD9 := hD.sub (ws' := []) [] (by decide) rfl
      refine W.widen (k := 6) (n := 36) (Nat.le_of_ble_eq_true rfl) (Nat.le_of_ble_eq_true rfl) ?_
      exact vx_ret (W.iret (v := 1) hx hb hr (fun t ht hW => ⟨⟨1, (), rfl, Or.inr (Or.inr (Or.inl ⟨rfl, c_5, c_6, c_7⟩)), by rw [ht]; exact hP9, hD9⟩, hS.F ht⟩) hS.2.2 dL_selectEqual_20)
    · have c_8 : 0 ≤ a0.toInt := e_0
      have c_9 : a0.toInt < 6 := e_1
      have c_10 : 0 ≤ a3.toInt := e_2
      have c_11 : 6 ≤ a3.toInt := e_3
      refine vx_catch hown (tableOf []) ⟨0, 14, 17, 20⟩ (tableOf [(0, 14, 21, 15)]) (by rw [htab]; rfl) (xpass0) (by decide) (by decide) w_1 (va_Nw.use rfl hV.2.2.2.2.2.1.2.2) hq9 hcv hcl ?_
      have hP : va_P D vwCl [] H_1 := fun k q h => by simp at h
      have hD : va_D A [] := ⟨fun i j p q h => by simp at h, fun k q h => by simp at h⟩
      refine W.widen (k := 6) (n := 36) (Nat.le_of_ble_eq_true rfl) (Nat.le_of_ble_eq_true rfl) ?_
      refine lv_astore (lv' := [(6, .ref q9), (0, .ref x), (1, .int a0), (2, .int a1), (3, .int a2), (4, .int a3), (5, .ref ou)]) hx hb dL_selectEqual_17 hl (by decide) rfl (fun ls hl => ?_)
      refine lv_iconst (v := 1) hx hb dL_selectEqual_19 (by decide) ?_
      have hP9 := hP.sub (ws' := []) [] rfl
      have hD9 := hD.sub (ws' := []) [] (by decide) rfl
      refine W.widen (k := 6) (n := 36) (Nat.le_of_ble_eq_true rfl) (Nat.le_of_ble_eq_true rfl) ?_
      exact vx_ret (W.iret (v := 1) hx hb hr (fun t ht hW => ⟨⟨1, (), rfl, Or.inr (Or.inr (Or.inr (Or.inl ⟨rfl, c_8, c_9, c_10, c_11⟩))), by rw [ht]; exact hP9, hD9⟩, hS.F ht⟩) hS.2.2 dL_selectEqual_20)
    · have c_12 : 0 ≤ a0.toInt := e_0
      have c_13 : a0.toInt < 6 := e_1
      have c_14 : 0 ≤ a3.toInt := e_2
      have c_15 : a3.toInt < 6 := e_3
      have c_16 : a1.toInt < 0 := e_4
      refine vx_catch hown (tableOf []) ⟨0, 14, 17, 20⟩ (tableOf [(0, 14, 21, 15)]) (by rw [htab]; rfl) (xpass0) (by decide) (by decide) w_1 (va_Nw.use rfl hV.2.2.2.2.2.1.2.2) hq9 hcv hcl ?_
      have hP : va_P D vwCl [] H_1 := fun k q h => by simp at h
      have hD : va_D A [] := ⟨fun i j p q h => by simp at h, fun k q h => by simp at h⟩
      refine W.widen (k := 6) (n := 36) (Nat.le_of_ble_eq_true rfl) (Nat.le_of_ble_eq_true rfl) ?_
      refine lv_astore (lv' := [(6, .ref q9), (0, .ref x), (1, .int a0), (2, .int a1), (3, .int a2), (4, .int a3), (5, .ref ou)]) hx hb dL_selectEqual_17 hl (by decide) rfl (fun ls hl => ?_)
      refine lv_iconst (v := 1) hx hb dL_selectEqual_19 (by decide) ?_
      have hP9 := hP.sub (ws' := []) [] rfl
      have hD9 := hD.sub (ws' := []) [] (by decide) rfl
      refine W.widen (k := 6) (n := 36) (Nat.le_of_ble_eq_true rfl) (Nat.le_of_ble_eq_true rfl) ?_
      exact vx_ret (W.iret (v := 1) hx hb hr (fun t ht hW => ⟨⟨1, (), rfl, Or.inr (Or.inr (Or.inr (Or.inr (Or.inl ⟨rfl, c_12, c_13, c_14, c_15, c_16⟩)))), by rw [ht]; exact hP9, hD9⟩, hS.F ht⟩) hS.2.2 dL_selectEqual_20)
    · have c_17 : 0 ≤ a0.toInt := e_0
      have c_18 : a0.toInt < 6 := e_1
      have c_19 : 0 ≤ a3.toInt := e_2
      have c_20 : a3.toInt < 6 := e_3
      have c_21 : 0 ≤ a1.toInt := e_4
      have c_22 : 3 ≤ a1.toInt := e_5
      refine vx_catch hown (tableOf []) ⟨0, 14, 17, 20⟩ (tableOf [(0, 14, 21, 15)]) (by rw [htab]; rfl) (xpass0) (by decide) (by decide) w_1 (va_Nw.use rfl hV.2.2.2.2.2.1.2.2) hq9 hcv hcl ?_
      have hP : va_P D vwCl [] H_1 := fun k q h => by simp at h
      have hD : va_D A [] := ⟨fun i j p q h => by simp at h, fun k q h => by simp at h⟩
      refine W.widen (k := 6) (n := 36) (Nat.le_of_ble_eq_true rfl) (Nat.le_of_ble_eq_true rfl) ?_
      refine lv_astore (lv' := [(6, .ref q9), (0, .ref x), (1, .int a0), (2, .int a1), (3, .int a2), (4, .int a3), (5, .ref ou)]) hx hb dL_selectEqual_17 hl (by decide) rfl (fun ls hl => ?_)
      refine lv_iconst (v := 1) hx hb dL_selectEqual_19 (by decide) ?_
      have hP9 := hP.sub (ws' := []) [] rfl
      have hD9 := hD.sub (ws' := []) [] (by decide) rfl
      refine W.widen (k := 6) (n := 36) (Nat.le_of_ble_eq_true rfl) (Nat.le_of_ble_eq_true rfl) ?_
      exact vx_ret (W.iret (v := 1) hx hb hr (fun t ht hW => ⟨⟨1, (), rfl, Or.inr (Or.inr (Or.inr (Or.inr (Or.inr (Or.inl ⟨rfl, c_17, c_18, c_19, c_20, c_21, c_22⟩))))), by rw [ht]; exact hP9, hD9⟩, hS.F ht⟩) hS.2.2 dL_selectEqual_20)
    · have c_23 : 0 ≤ a0.toInt := e_0
      have c_24 : a0.toInt < 6 := e_1
      have c_25 : 0 ≤ a3.toInt := e_2
      have c_26 : a3.toInt < 6 := e_3
      have c_27 : 0 ≤ a1.toInt := e_4
      have c_28 : a1.toInt < 3 := e_5
      have c_29 : a2.toInt < 0 := e_6
      refine vx_catch hown (tableOf []) ⟨0, 14, 17, 20⟩ (tableOf [(0, 14, 21, 15)]) (by rw [htab]; rfl) (xpass0) (by decide) (by decide) w_1 (va_Nw.use rfl hV.2.2.2.2.2.1.2.2) hq9 hcv hcl ?_
      have hP : va_P D vwCl [] H_1 := fun k q h => by simp at h
      have hD : va_D A [] := ⟨fun i j p q h => by simp at h, fun k q h => by simp at h⟩
      refine W.widen (k := 6) (n := 36) (Nat.le_of_ble_eq_true rfl) (Nat.le_of_ble_eq_true rfl) ?_
      refine lv_astore (lv' := [(6, .ref q9), (0, .ref x), (1, .int a0), (2, .int a1), (3, .int a2), (4, .int a3), (5, .ref ou)]) hx hb dL_selectEqual_17 hl (by decide) rfl (fun ls hl => ?_)
      refine lv_iconst (v := 1) hx hb dL_selectEqual_19 (by decide) ?_
      have hP9 := hP.sub (ws' := []) [] rfl
      have hD9 := hD.sub (ws' := []) [] (by decide) rfl
      refine W.widen (k := 6) (n := 36) (Nat.le_of_ble_eq_true rfl) (Nat.le_of_ble_eq_true rfl) ?_
      exact vx_ret (W.iret (v := 1) hx hb hr (fun t ht hW => ⟨⟨1, (), rfl, Or.inr (Or.inr (Or.inr (Or.inr (Or.inr (Or.inr (Or.inl ⟨rfl, c_23, c_24, c_25, c_26, c_27, c_28, c_29⟩)))))), by rw [ht]; exact hP9, hD9⟩, hS.F ht⟩) hS.2.2 dL_selectEqual_20)
    · have c_30 : 0 ≤ a0.toInt := e_0
      have c_31 : a0.toInt < 6 := e_1
      have c_32 : 0 ≤ a3.toInt := e_2
      have c_33 : a3.toInt < 6 := e_3
      have c_34 : 0 ≤ a1.toInt := e_4
      have c_35 : a1.toInt < 3 := e_5
      have c_36 : 0 ≤ a2.toInt := e_6
      have c_37 : 3 ≤ a2.toInt := e_7
      refine vx_catch hown (tableOf []) ⟨0, 14, 17, 20⟩ (tableOf [(0, 14, 21, 15)]) (by rw [htab]; rfl) (xpass0) (by decide) (by decide) w_1 (va_Nw.use rfl hV.2.2.2.2.2.1.2.2) hq9 hcv hcl ?_
      have hP : va_P D vwCl [] H_1 := fun k q h => by simp at h
      have hD : va_D A [] := ⟨fun i j p q h => by simp at h, fun k q h => by simp at h⟩
      refine W.widen (k := 6) (n := 36) (Nat.le_of_ble_eq_true rfl) (Nat.le_of_ble_eq_true rfl) ?_
      refine lv_astore (lv' := [(6, .ref q9), (0, .ref x), (1, .int a0), (2, .int a1), (3, .int a2), (4, .int a3), (5, .ref ou)]) hx hb dL_selectEqual_17 hl (by decide) rfl (fun ls hl => ?_)
      refine lv_iconst (v := 1) hx hb dL_selectEqual_19 (by decide) ?_
      have hP9 := hP.sub (ws' := []) [] rfl
      have hD9 := hD.sub (ws' := []) [] (by decide) rfl
      refine W.widen (k := 6) (n := 36) (Nat.le_of_ble_eq_true rfl) (Nat.le_of_ble_eq_true rfl) ?_
      exact vx_ret (W.iret (v := 1) hx hb hr (fun t ht hW => ⟨⟨1, (), rfl, Or.inr (Or.inr (Or.inr (Or.inr (Or.inr (Or.inr (Or.inr (Or.inl ⟨rfl, c_30, c_31, c_32, c_33, c_34, c_35, c_36, c_37⟩))))))), by rw [ht]; exact hP9, hD9⟩, hS.F ht⟩) hS.2.2 dL_selectEqual_20)
    · have c_38 : 0 ≤ a0.toInt := e_0
      have c_39 : a0.toInt < 6 := e_1
      have c_40 : 0 ≤ a3.toInt := e_2
      have c_41 : a3.toInt < 6 := e_3
      have c_42 : 0 ≤ a1.toInt := e_4
      have c_43 : a1.toInt < 3 := e_5
      have c_44 : 0 ≤ a2.toInt := e_6
      have c_45 : a2.toInt < 3 := e_7
      have c_46 : 0 ≤ a0.toInt := e_8
      have c_47 : a0.toInt < 6 := e_9
      refine vx_catch hown (tableOf [(0, 14, 17, 20)]) ⟨0, 14, 21, 15⟩ (tableOf []) (by rw [htab]; rfl) (xpass1 (Or.inr ⟨by decide, iob, w_1, hV.2.2.2.2.2.2.1.1⟩)) (by decide) (by decide) w_2 (va_Nw.use rfl hV.2.2.2.2.2.1.2.1) hq9 hcv hcl ?_
      have hP : va_P D vwCl [] H_1 := fun k q h => by simp at h
      have hD : va_D A [] := ⟨fun i j p q h => by simp at h, fun k q h => by simp at h⟩
      refine W.widen (k := 6) (n := 36) (Nat.le_of_ble_eq_true rfl) (Nat.le_of_ble_eq_true rfl) ?_
      refine lv_astore (lv' := [(6, .ref q9), (0, .ref x), (1, .int a0), (2, .int a1), (3, .int a2), (4, .int a3), (5, .ref ou)]) hx hb dL_selectEqual_21 hl (by decide) rfl (fun ls hl => ?_)
      refine lv_iconst (v := 2) hx hb dL_selectEqual_23 (by decide) ?_
      have hP9 := hP.sub (ws' := []) [] rfl
      have hD9 := hD.sub (ws' := []) [] (by decide) rfl
      refine W.widen (k := 6) (n := 36) (Nat.le_of_ble_eq_true rfl) (Nat.le_of_ble_eq_true rfl) ?_
      exact vx_ret (W.iret (v := 2) hx hb hr (fun t ht hW => ⟨⟨2, (), rfl, Or.inr (Or.inr (Or.inr (Or.inr (Or.inr (Or.inr (Or.inr (Or.inr ⟨rfl, c_38, c_39, c_40, c_41, c_42, c_43, c_44, c_45, c_46, c_47⟩))))))), by rw [ht]; exact hP9, hD9⟩, hS.F ht⟩) hS.2.2 dL_selectEqual_24)
  · exact hw.elim
def wk_L_selectLength : List Cond := .codeWith yL_selectLength cL_selectLength 8 (some .int) [(0, 16, 19, 20), (0, 16, 23, 15)] :: (([.classLink RL 20 iob, .classLink RL 15 ise, .methodLink RL 76 yX10_selectLength, .instanceMethod yX10_selectLength, .selects RX10 yX10_selectLength yX10_selectLength, .initialized RX10, .code yX10_selectLength cX10_selectLength 10 (some .int), .methodLink RX10 241 yX10_checkSelection, .static yX10_checkSelection, .code yX10_checkSelection cX10_checkSelection 4 none, .methodLink RX10 138 yX10_checkSlot, .static yX10_checkSlot, .code yX10_checkSlot cX10_checkSlot 1 none, .classLink RX10 91 iob, .initialized iob, .methodLink RX10 189 yX10_checkVariable, .static yX10_checkVariable, .code yX10_checkVariable cX10_checkVariable 1 none, .methodLink RX10 153 yX10_tableIn, .instanceMethod yX10_tableIn, .selects RX10 yX10_tableIn yX10_tableIn, .code yX10_tableIn cX10_tableIn 2 (some (.object "DocumentSpanner$SortedInts")), .fieldLink RX10 12 "DocumentSpanner" "state" "LDocumentSpanner$State;", .fieldLink RX10 96 "DocumentSpanner$State" "filled" "[Z", .classLink RX10 80 ise, .initialized ise] : List Cond) ++ wsX100 ++ wsX80 ++ (vx_atS RX10 84 ise ["java/lang/RuntimeException", "java/lang/Exception"]).filter goodWord ++ (vx_atS RX10 95 iob ["java/lang/RuntimeException", "java/lang/Exception"]).filter goodWord)
set_option maxRecDepth 20000 in
theorem ggk_L_selectLength_X10_selectLength : GoodIn wk_L_selectLength wk_X10_selectLength := goodIn_ca (goodIn_ca (goodIn_ca (goodIn_ca (goodIn_r _ [7, 8, 9, 6, 10, 11, 12, 13, 14, 15, 16, 17, 18, 19, 20, 21, 22, 23, 24, 25, 26] (by decide +kernel) (by decide +kernel)) (goodIn_sub (fun _ h => List.mem_cons_of_mem _ (List.mem_append_left _ (List.mem_append_left _ (List.mem_append_left _ (List.mem_append_right _ h))))) (by decide +kernel))) (goodIn_sub (fun _ h => List.mem_cons_of_mem _ (List.mem_append_left _ (List.mem_append_left _ (List.mem_append_right _ h)))) (by decide +kernel))) (goodIn_sub (fun _ h => List.mem_cons_of_mem _ (List.mem_append_left _ (List.mem_append_right _ h))) (by decide +kernel))) (goodIn_sub (fun _ h => List.mem_cons_of_mem _ (List.mem_append_right _ h)) (by decide +kernel))
set_option maxRecDepth 20000 in
theorem gk_L_selectLength_X10_selectLength : GoodIn wk_L_selectLength (wsV RL 76 RX10 yX10_selectLength wk_X10_selectLength) := goodIn_app (goodIn_r _ [3, 4, 5, 6] (by decide +kernel) (by decide +kernel)) ggk_L_selectLength_X10_selectLength
set_option maxHeartbeats 4000000 in
set_option maxRecDepth 100000 in
theorem k_L_selectLength (l : Launch) (htr : l.stackTraces = false) (D : va_G) (cI cJ cZ : ClassId) (x : Nat) (st : Nat) (kp : Nat) (bf : Nat) (o1 : Nat) (o2 : Nat) (o3 : Nat) (o4 : Nat) (o5 : Nat) (o6 : Nat) (lt : Nat) (tb : Nat) (fl : Nat) (wt : Nat) (ou : Nat) (a0 : Int32) (a1 : Int32) (a2 : Int32) (a3 : Int32) (a4 : Int32) (sz : Nat) : vx_Met l yL_selectLength wk_L_selectLength ({ frames := 9, cells := 6, slots := 36, locals := 154 }) (xPc D cI cJ cZ [.ref x, .int a0, .int a1, .int a2, .int a3, .int a4, .ref ou] [(x, .inr (9, [.ref st, .ref kp, .int 0, .ref bf, .int 0, .int (-1), .int (-1), .int 0, .ref o1, .ref o2, .ref o3, .ref o4, .ref o5, .ref o6])), (st, .inr (8, [.ref lt, .ref tb, .ref fl, .ref wt, .int 0, .null])), (fl, .inl (cZ, 6, .inl (fun _ => 0))), (ou, .inl (cJ, 1, .inr (.inl (fun _ => 0))))] sz) (va_Qi (fun (r : Int32) (u : Unit) => (r = 1 ∧ a0.toInt < 0) ∨ (r = 1 ∧ 0 ≤ a0.toInt ∧ 6 ≤ a0.toInt) ∨ (r = 1 ∧ 0 ≤ a0.toInt ∧ a0.toInt < 6 ∧ a4.toInt < 0) ∨ (r = 1 ∧ 0 ≤ a0.toInt ∧ a0.toInt < 6 ∧ 0 ≤ a4.toInt ∧ 6 ≤ a4.toInt) ∨ (r = 1 ∧ 0 ≤ a0.toInt ∧ a0.toInt < 6 ∧ 0 ≤ a4.toInt ∧ a4.toInt < 6 ∧ a1.toInt < 0) ∨ (r = 1 ∧ 0 ≤ a0.toInt ∧ a0.toInt < 6 ∧ 0 ≤ a4.toInt ∧ a4.toInt < 6 ∧ 0 ≤ a1.toInt ∧ 3 ≤ a1.toInt) ∨ (r = 2 ∧ 0 ≤ a0.toInt ∧ a0.toInt < 6 ∧ 0 ≤ a4.toInt ∧ a4.toInt < 6 ∧ 0 ≤ a1.toInt ∧ a1.toInt < 3 ∧ 0 ≤ a1.toInt ∧ a1.toInt < 3 ∧ 0 ≤ a0.toInt ∧ a0.toInt < 6)) (fun (u : Unit) (t : State) => va_P D vwCl ([] : va_W) t.heap ∧ va_D (va_A [(x, .inr (9, [.ref st, .ref kp, .int 0, .ref bf, .int 0, .int (-1), .int (-1), .int 0, .ref o1, .ref o2, .ref o3, .ref o4, .ref o5, .ref o6])), (st, .inr (8, [.ref lt, .ref tb, .ref fl, .ref wt, .int 0, .null])), (fl, .inl (cZ, 6, .inl (fun _ => 0))), (ou, .inl (cJ, 1, .inr (.inl (fun _ => 0))))] sz) ([] : va_W)) (va_A [(x, .inr (9, [.ref st, .ref kp, .int 0, .ref bf, .int 0, .int (-1), .int (-1), .int 0, .ref o1, .ref o2, .ref o3, .ref o4, .ref o5, .ref o6])), (st, .inr (8, [.ref lt, .ref tb, .ref fl, .ref wt, .int 0, .null])), (fl, .inl (cZ, 6, .inl (fun _ => 0))), (ou, .inl (cJ, 1, .inr (.inl (fun _ => 0))))] sz)) (vx_X (fun _ : Unit => True) (fun (E : String) (_ : Unit) (_ : State) => False) (va_A [(x, .inr (9, [.ref st, .ref kp, .int 0, .ref bf, .int 0, .int (-1), .int (-1), .int 0, .ref o1, .ref o2, .ref o3, .ref o4, .ref o5, .ref o6])), (st, .inr (8, [.ref lt, .ref tb, .ref fl, .ref wt, .int 0, .null])), (fl, .inl (cZ, 6, .inl (fun _ => 0))), (ou, .inl (cJ, 1, .inr (.inl (fun _ => 0))))] sz)) 6 36 (va_A [(x, .inr (9, [.ref st, .ref kp, .int 0, .ref bf, .int 0, .int (-1), .int (-1), .int 0, .ref o1, .ref o2, .ref o3, .ref o4, .ref o5, .ref o6])), (st, .inr (8, [.ref lt, .ref tb, .ref fl, .ref wt, .int 0, .null])), (fl, .inl (cZ, 6, .inl (fun _ => 0))), (ou, .inl (cJ, 1, .inr (.inl (fun _ => 0))))] sz) := by
  refine vx_ofWH (cc := cL_selectLength) (maxL := 8) (ret := (some .int)) (by decide) rfl ?_
  intro p e s m args below meth c s₁ B hml hv
  obtain ⟨rfl, hsz, hP, hK, hD0, hE, hV⟩ := hv
  have hx := B.exec
  have hb := B.bytes
  have hr := B.returns
  have hts := atoms_spec (ws := wk_L_selectLength) B.pre
  have hown : s.vm.findClass RL = some m.cls := findClass_of_methodNamed B.named
  have hlocks := B.notSynchronized
  have htab : c.exceptionTable.toList = tableOf [(0, 16, 19, 20), (0, 16, 23, 15)] := vx_table (x := yL_selectLength) B (hts _ List.mem_cons_self)
  have w_1 := hts (.classLink RL 20 iob) (List.mem_of_getElem? (i := 1) rfl)
  have w_2 := hts (.classLink RL 15 ise) (List.mem_of_getElem? (i := 2) rfl)
  subst hsz
  have hD := hD0.self (sz := s.heap.size)
  generalize hAe : va_A [(x, .inr (9, [.ref st, .ref kp, .int 0, .ref bf, .int 0, .int (-1), .int (-1), .int 0, .ref o1, .ref o2, .ref o3, .ref o4, .ref o5, .ref o6])), (st, .inr (8, [.ref lt, .ref tb, .ref fl, .ref wt, .int 0, .null])), (fl, .inl (cZ, 6, .inl (fun _ => 0))), (ou, .inl (cJ, 1, .inr (.inl (fun _ => 0))))] s.heap.size = A at hD hE ⊢
  have hA : ∀ q : Nat, s.heap.size ≤ q → A q := fun q h => by rw [← hAe]; exact Or.inr h
  have hS : va_S A s.heap s.heap [] := va_S.rf
  have hP : va_P D vwCl [(x, .inr (9, [.ref st, .ref kp, .int 0, .ref bf, .int 0, .int (-1), .int (-1), .int 0, .ref o1, .ref o2, .ref o3, .ref o4, .ref o5, .ref o6])), (st, .inr (8, [.ref lt, .ref tb, .ref fl, .ref wt, .int 0, .null])), (fl, .inl (cZ, 6, .inl (fun _ => 0))), (ou, .inl (cJ, 1, .inr (.inl (fun _ => 0))))] s.heap := hP
  have hl := lv_entry ([.ref x, .int a0, .int a1, .int a2, .int a3, .int a4, .ref ou]) (n := 8) (Nat.le_of_ble_eq_true rfl)
  rw [lg_entry_eq]
  generalize (lg_sl ([.ref x, .int a0, .int a1, .int a2, .int a3, .int a4, .ref ou]) ++ List.replicate (8 - (lg_sl ([.ref x, .int a0, .int a1, .int a2, .int a3, .int a4, .ref ou])).length) Slot.unset).toArray = ls at hl ⊢
  have hl : lv_has ls 8 [(0, .ref x), (1, .int a0), (2, .int a1), (3, .int a2), (4, .int a3), (5, .int a4), (6, .ref ou)] := hl
  refine lv_aload hx hb dL_selectLength_0 (lv_at hl 6 rfl) ?_
  refine lv_iconst (v := 0) hx hb dL_selectLength_2 (by decide) ?_
  refine lv_aload_n hx hb dL_selectLength_3 rfl (lv_at hl 0 rfl) ?_
  refine lv_iload_n hx hb dL_selectLength_4 rfl (lv_at hl 1 rfl) ?_
  refine lv_iload_n hx hb dL_selectLength_5 rfl (lv_at hl 2 rfl) ?_
  refine lv_iload_n hx hb dL_selectLength_6 rfl (lv_at hl 3 rfl) ?_
  refine lv_iload hx hb dL_selectLength_7 (lv_at hl 4 rfl) ?_
  refine lv_iload hx hb dL_selectLength_9 (lv_at hl 5 rfl) ?_
  have hPc := hP.sub (ws' := [(x, .inr (9, [.ref st, .ref kp, .int 0, .ref bf, .int 0, .int (-1), .int (-1), .int 0, .ref o1, .ref o2, .ref o3, .ref o4, .ref o5, .ref o6])), (st, .inr (8, [.ref lt, .ref tb, .ref fl, .ref wt, .int 0, .null])), (fl, .inl (cZ, 6, .inl (fun _ => 0)))]) [0, 1, 2] rfl
  have hDc := hD.sub (ws' := [(x, .inr (9, [.ref st, .ref kp, .int 0, .ref bf, .int 0, .int (-1), .int (-1), .int 0, .ref o1, .ref o2, .ref o3, .ref o4, .ref o5, .ref o6])), (st, .inr (8, [.ref lt, .ref tb, .ref fl, .ref wt, .int 0, .null])), (fl, .inl (cZ, 6, .inl (fun _ => 0)))]) [0, 1, 2] (by decide) rfl
  have hFc := va_free (wc := [(x, .inr (9, [.ref st, .ref kp, .int 0, .ref bf, .int 0, .int (-1), .int (-1), .int 0, .ref o1, .ref o2, .ref o3, .ref o4, .ref o5, .ref o6])), (st, .inr (8, [.ref lt, .ref tb, .ref fl, .ref wt, .int 0, .null])), (fl, .inl (cZ, 6, .inl (fun _ => 0)))]) hD hS hA [0, 1, 2] rfl
  refine vx_calli (vx_runV (As := [.int a0, .int a1, .int a2, .int a3, .int a4]) (rest := [.int 0, .ref ou]) ⟨hx, hb, hml, hown, hts⟩ (k_X10_selectLength l htr D cI cJ cZ x st kp bf o1 o2 o3 o4 o5 o6 lt tb fl wt a0 a1 a2 a3 a4 s.heap.size) (cwV 5 hts gk_L_selectLength_X10_selectLength rfl rfl rfl (by decide +kernel) ⟨Nat.le_of_ble_eq_true rfl, Nat.le_of_ble_eq_true rfl⟩) ⟨xPc_blind, va_recv hK hP (ci := 9) (q0 := 0) rfl rfl, xPc_pre hPc hK hDc hE hS hFc hV⟩ rfl rfl hl.1 rfl (lv_room (Nat.le_of_ble_eq_true rfl)) dL_selectLength_11 ⟨Nat.le_of_ble_eq_true rfl, Nat.le_of_ble_eq_true rfl⟩) hS (fun q _ h => hFc q h) hFc (fun q _ h => hFc q h) (fun E ce q9 u t H_1 locs ht hvm hpx hBX hz1 hk1 hS hq9 hcv hcl => ?_) (fun r u t H_1 locs ht hvm hw hB hz1 hk1 hS => ?_)
  · rcases hBX with ⟨rfl, e_0⟩ | ⟨rfl, e_0, e_1⟩ | ⟨rfl, e_0, e_1, e_2⟩ | ⟨rfl, e_0, e_1, e_2, e_3⟩ | ⟨rfl, e_0, e_1, e_2, e_3, e_4⟩ | ⟨rfl, e_0, e_1, e_2, e_3, e_4, e_5⟩ | ⟨rfl, e_0, e_1, e_2, e_3, e_4, e_5, e_6, e_7, e_8, e_9⟩
    · have c_2 : a0.toInt < 0 := e_0
      refine vx_catch hown (tableOf []) ⟨0, 16, 19, 20⟩ (tableOf [(0, 16, 23, 15)]) (by rw [htab]; rfl) (xpass0) (by decide) (by decide) w_1 (va_Nw.use rfl hV.2.2.2.2.2.1.2.2) hq9 hcv hcl ?_
      have hP : va_P D vwCl [] H_1 := fun k q h => by simp at h
      have hD : va_D A [] := ⟨fun i j p q h => by simp at h, fun k q h => by simp at h⟩
      refine W.widen (k := 6) (n := 36) (Nat.le_of_ble_eq_true rfl) (Nat.le_of_ble_eq_true rfl) ?_
      refine lv_astore (lv' := [(7, .ref q9), (0, .ref x), (1, .int a0), (2, .int a1), (3, .int a2), (4, .int a3), (5, .int a4), (6, .ref ou)]) hx hb dL_selectLength_19 hl (by decide) rfl (fun ls hl => ?_)
      refine lv_iconst (v := 1) hx hb dL_selectLength_21 (by decide) ?_
      have hP9 := hP.sub (ws' := []) [] rfl
      have hD9 := hD.sub (ws' := []) [] (by decide) rfl
      refine W.widen (k := 6) (n := 36) (Nat.le_of_ble_eq_true rfl) (Nat.le_of_ble_eq_true rfl) ?_
      exact vx_ret (W.iret (v := 1) hx hb hr (fun t ht hW => ⟨⟨1, (), rfl, Or.inl ⟨rfl, c_2⟩, by rw [ht]; exact hP9, hD9⟩, hS.F ht⟩) hS.2.2 dL_selectLength_22)
    · have c_3 : 0 ≤ a0.toInt := e_0
      have c_4 : 6 ≤ a0.toInt := e_1
      refine vx_catch hown (tableOf []) ⟨0, 16, 19, 20⟩ (tableOf [(0, 16, 23, 15)]) (by rw [htab]; rfl) (xpass0) (by decide) (by decide) w_1 (va_Nw.use rfl hV.2.2.2.2.2.1.2.2) hq9 hcv hcl ?_
      have hP : va_P D vwCl [] H_1 := fun k q h => by simp at h
      have hD : va_D A [] := ⟨fun i j p q h => by simp at h, fun k q h => by simp at h⟩
      refine W.widen (k := 6) (n := 36) (Nat.le_of_ble_eq_true rfl) (Nat.le_of_ble_eq_true rfl) ?_
      refine lv_astore (lv' := [(7, .ref q9), (0, .ref x), (1, .int a0), (2, .int a1), (3, .int a2), (4, .int a3), (5, .int a4), (6, .ref ou)]) hx hb dL_selectLength_19 hl (by decide) rfl (fun ls hl => ?_)
      refine lv_iconst (v := 1) hx hb dL_selectLength_21 (by decide) ?_
      have hP9 := hP.sub (ws' := []) [] rfl
      have hD9 := hD.sub (ws' := []) [] (by decide) rfl
      refine W.widen (k := 6) (n := 36) (Nat.le_of_ble_eq_true rfl) (Nat.le_of_ble_eq_true rfl) ?_
      exact vx_ret (W.iret (v := 1) hx hb hr (fun t ht hW => ⟨⟨1, (), rfl, Or.inr (Or.inl ⟨rfl, c_3, c_4⟩), by rw [ht]; exact hP9, hD9⟩, hS.F ht⟩) hS.2.2 dL_selectLength_22)
    · have c_5 : 0 ≤ a0.toInt := e_0
      have c_6 : a0.toInt < 6 := e_1
      have c_7 : a4.toInt < 0 := e_2
      refine vx_catch hown (tableOf []) ⟨0, 16, 19, 20⟩ (tableOf [(0, 16, 23, 15)]) (by rw [htab]; rfl) (xpass0) (by decide) (by decide) w_1 (va_Nw.use rfl hV.2.2.2.2.2.1.2.2) hq9 hcv hcl ?_
      have hP : va_P D vwCl [] H_1 := fun k q h => by simp at h
      have hD : va_D A [] := ⟨fun i j p q h => by simp at h, fun k q h => by simp at h⟩
      refine W.widen (k := 6) (n := 36) (Nat.le_of_ble_eq_true rfl) (Nat.le_of_ble_eq_true rfl) ?_
      refine lv_astore (lv' := [(7, .ref q9), (0, .ref x), (1, .int a0), (2, .int a1), (3, .int a2), (4, .int a3), (5, .int a4), (6, .ref ou)]) hx hb dL_selectLength_19 hl (by decide) rfl (fun ls hl => ?_)
      refine lv_iconst (v := 1) hx hb dL_selectLength_21 (by decide) ?_
      have hP9 := hP.sub (ws' := []) [] rfl
      have hD9 := hD.sub (ws' := []) [] (by decide) rfl
      refine W.widen (k := 6) (n := 36) (Nat.le_of_ble_eq_true rfl) (Nat.le_of_ble_eq_true rfl) ?_
      exact vx_ret (W.iret (v := 1) hx hb hr (fun t ht hW => ⟨⟨1, (), rfl, Or.inr (Or.inr (Or.inl ⟨rfl, c_5, c_6, c_7⟩)), by rw [ht]; exact hP9, hD9⟩, hS.F ht⟩) hS.2.2 dL_selectLength_22)
    · have c_8 : 0 ≤ a0.toInt := e_0
      have c_9 : a0.toInt < 6 := e_1
      have c_10 : 0 ≤ a4.toInt := e_2
      have c_11 : 6 ≤ a4.toInt := e_3
      refine vx_catch hown (tableOf []) ⟨0, 16, 19, 20⟩ (tableOf [(0, 16, 23, 15)]) (by rw [htab]; rfl) (xpass0) (by decide) (by decide) w_1 (va_Nw.use rfl hV.2.2.2.2.2.1.2.2) hq9 hcv hcl ?_
      have hP : va_P D vwCl [] H_1 := fun k q h => by simp at h
      have hD : va_D A [] := ⟨fun i j p q h => by simp at h, fun k q h => by simp at h⟩
      refine W.widen (k := 6) (n := 36) (Nat.le_of_ble_eq_true rfl) (Nat.le_of_ble_eq_true rfl) ?_
      refine lv_astore (lv' := [(7, .ref q9), (0, .ref x), (1, .int a0), (2, .int a1), (3, .int a2), (4, .int a3), (5, .int a4), (6, .ref ou)]) hx hb dL_selectLength_19 hl (by decide) rfl (fun ls hl => ?_)
      refine lv_iconst (v := 1) hx hb dL_selectLength_21 (by decide) ?_
      have hP9 := hP.sub (ws' := []) [] rfl
      have hD9 := hD.sub (ws' := []) [] (by decide) rfl
      refine W.widen (k := 6) (n := 36) (Nat.le_of_ble_eq_true rfl) (Nat.le_of_ble_eq_true rfl) ?_
      exact vx_ret (W.iret (v := 1) hx hb hr (fun t ht hW => ⟨⟨1, (), rfl, Or.inr (Or.inr (Or.inr (Or.inl ⟨rfl, c_8, c_9, c_10, c_11⟩))), by rw [ht]; exact hP9, hD9⟩, hS.F ht⟩) hS.2.2 dL_selectLength_22)
    · have c_12 : 0 ≤ a0.toInt := e_0
      have c_13 : a0.toInt < 6 := e_1
      have c_14 : 0 ≤ a4.toInt := e_2
      have c_15 : a4.toInt < 6 := e_3
      have c_16 : a1.toInt < 0 := e_4
      refine vx_catch hown (tableOf []) ⟨0, 16, 19, 20⟩ (tableOf [(0, 16, 23, 15)]) (by rw [htab]; rfl) (xpass0) (by decide) (by decide) w_1 (va_Nw.use rfl hV.2.2.2.2.2.1.2.2) hq9 hcv hcl ?_
      have hP : va_P D vwCl [] H_1 := fun k q h => by simp at h
      have hD : va_D A [] := ⟨fun i j p q h => by simp at h, fun k q h => by simp at h⟩
      refine W.widen (k := 6) (n := 36) (Nat.le_of_ble_eq_true rfl) (Nat.le_of_ble_eq_true rfl) ?_
      refine lv_astore (lv' := [(7, .ref q9), (0, .ref x), (1, .int a0), (2, .int a1), (3, .int a2), (4, .int a3), (5, .int a4), (6, .ref ou)]) hx hb dL_selectLength_19 hl (by decide) rfl (fun ls hl => ?_)
      refine lv_iconst (v := 1) hx hb dL_selectLength_21 (by decide) ?_
      have hP9 := hP.sub (ws' := []) [] rfl
      have hD9 := hD.sub (ws' := []) [] (by decide) rfl
      refine W.widen (k := 6) (n := 36) (Nat.le_of_ble_eq_true rfl) (Nat.le_of_ble_eq_true rfl) ?_
      exact vx_ret (W.iret (v := 1) hx hb hr (fun t ht hW => ⟨⟨1, (), rfl, Or.inr (Or.inr (Or.inr (Or.inr (Or.inl ⟨rfl, c_12, c_13, c_14, c_15, c_16⟩)))), by rw [ht]; exact hP9, hD9⟩, hS.F ht⟩) hS.2.2 dL_selectLength_22)
    · have c_17 : 0 ≤ a0.toInt := e_0
      have c_18 : a0.toInt < 6 := e_1
      have c_19 : 0 ≤ a4.toInt := e_2
      have c_20 : a4.toInt < 6 := e_3
      have c_21 : 0 ≤ a1.toInt := e_4
      have c_22 : 3 ≤ a1.toInt := e_5
      refine vx_catch hown (tableOf []) ⟨0, 16, 19, 20⟩ (tableOf [(0, 16, 23, 15)]) (by rw [htab]; rfl) (xpass0) (by decide) (by decide) w_1 (va_Nw.use rfl hV.2.2.2.2.2.1.2.2) hq9 hcv hcl ?_
      have hP : va_P D vwCl [] H_1 := fun k q h => by simp at h
      have hD : va_D A [] := ⟨fun i j p q h => by simp at h, fun k q h => by simp at h⟩
      refine W.widen (k := 6) (n := 36) (Nat.le_of_ble_eq_true rfl) (Nat.le_of_ble_eq_true rfl) ?_
      refine lv_astore (lv' := [(7, .ref q9), (0, .ref x), (1, .int a0), (2, .int a1), (3, .int a2), (4, .int a3), (5, .int a4), (6, .ref ou)]) hx hb dL_selectLength_19 hl (by decide) rfl (fun ls hl => ?_)
      refine lv_iconst (v := 1) hx hb dL_selectLength_21 (by decide) ?_
      have hP9 := hP.sub (ws' := []) [] rfl
      have hD9 := hD.sub (ws' := []) [] (by decide) rfl
      refine W.widen (k := 6) (n := 36) (Nat.le_of_ble_eq_true rfl) (Nat.le_of_ble_eq_true rfl) ?_
      exact vx_ret (W.iret (v := 1) hx hb hr (fun t ht hW => ⟨⟨1, (), rfl, Or.inr (Or.inr (Or.inr (Or.inr (Or.inr (Or.inl ⟨rfl, c_17, c_18, c_19, c_20, c_21, c_22⟩))))), by rw [ht]; exact hP9, hD9⟩, hS.F ht⟩) hS.2.2 dL_selectLength_22)
    · have c_23 : 0 ≤ a0.toInt := e_0
      have c_24 : a0.toInt < 6 := e_1
      have c_25 : 0 ≤ a4.toInt := e_2
      have c_26 : a4.toInt < 6 := e_3
      have c_27 : 0 ≤ a1.toInt := e_4
      have c_28 : a1.toInt < 3 := e_5
      have c_29 : 0 ≤ a1.toInt := e_6
      have c_30 : a1.toInt < 3 := e_7
      have c_31 : 0 ≤ a0.toInt := e_8
      have c_32 : a0.toInt < 6 := e_9
      refine vx_catch hown (tableOf [(0, 16, 19, 20)]) ⟨0, 16, 23, 15⟩ (tableOf []) (by rw [htab]; rfl) (xpass1 (Or.inr ⟨by decide, iob, w_1, hV.2.2.2.2.2.2.1.1⟩)) (by decide) (by decide) w_2 (va_Nw.use rfl hV.2.2.2.2.2.1.2.1) hq9 hcv hcl ?_
      have hP : va_P D vwCl [] H_1 := fun k q h => by simp at h
      have hD : va_D A [] := ⟨fun i j p q h => by simp at h, fun k q h => by simp at h⟩
      refine W.widen (k := 6) (n := 36) (Nat.le_of_ble_eq_true rfl) (Nat.le_of_ble_eq_true rfl) ?_
      refine lv_astore (lv' := [(7, .ref q9), (0, .ref x), (1, .int a0), (2, .int a1), (3, .int a2), (4, .int a3), (5, .int a4), (6, .ref ou)]) hx hb dL_selectLength_23 hl (by decide) rfl (fun ls hl => ?_)
      refine lv_iconst (v := 2) hx hb dL_selectLength_25 (by decide) ?_
      have hP9 := hP.sub (ws' := []) [] rfl
      have hD9 := hD.sub (ws' := []) [] (by decide) rfl
      refine W.widen (k := 6) (n := 36) (Nat.le_of_ble_eq_true rfl) (Nat.le_of_ble_eq_true rfl) ?_
      exact vx_ret (W.iret (v := 2) hx hb hr (fun t ht hW => ⟨⟨2, (), rfl, Or.inr (Or.inr (Or.inr (Or.inr (Or.inr (Or.inr ⟨rfl, c_23, c_24, c_25, c_26, c_27, c_28, c_29, c_30, c_31, c_32⟩))))), by rw [ht]; exact hP9, hD9⟩, hS.F ht⟩) hS.2.2 dL_selectLength_26)
  · exact hw.elim
def wk_L_selectRelation : List Cond := .codeWith yL_selectRelation cL_selectRelation 8 (some .int) [(0, 16, 19, 20), (0, 16, 23, 13), (0, 16, 27, 15)] :: (([.classLink RL 20 iob, .classLink RL 13 iae, .classLink RL 15 ise, .methodLink RL 80 yX10_selectRelation, .instanceMethod yX10_selectRelation, .selects RX10 yX10_selectRelation yX10_selectRelation, .initialized RX10, .code yX10_selectRelation cX10_selectRelation 9 (some .int), .classLink RX10 70 iae, .initialized iae, .methodLink RX10 241 yX10_checkSelection, .static yX10_checkSelection, .code yX10_checkSelection cX10_checkSelection 4 none, .methodLink RX10 138 yX10_checkSlot, .static yX10_checkSlot, .code yX10_checkSlot cX10_checkSlot 1 none, .classLink RX10 91 iob, .initialized iob, .methodLink RX10 189 yX10_checkVariable, .static yX10_checkVariable, .code yX10_checkVariable cX10_checkVariable 1 none, .methodLink RX10 153 yX10_tableIn, .instanceMethod yX10_tableIn, .selects RX10 yX10_tableIn yX10_tableIn, .code yX10_tableIn cX10_tableIn 2 (some (.object "DocumentSpanner$SortedInts")), .fieldLink RX10 12 "DocumentSpanner" "state" "LDocumentSpanner$State;", .fieldLink RX10 96 "DocumentSpanner$State" "filled" "[Z", .classLink RX10 80 ise, .initialized ise] : List Cond) ++ wsX100 ++ wsX80 ++ (vx_atS RX10 74 iae ["java/lang/RuntimeException", "java/lang/Exception"]).filter goodWord ++ (vx_atS RX10 84 ise ["java/lang/RuntimeException", "java/lang/Exception"]).filter goodWord ++ (vx_atS RX10 95 iob ["java/lang/RuntimeException", "java/lang/Exception"]).filter goodWord)
set_option maxRecDepth 20000 in
theorem ggk_L_selectRelation_X10_selectRelation : GoodIn wk_L_selectRelation wk_X10_selectRelation := goodIn_ca (goodIn_ca (goodIn_ca (goodIn_ca (goodIn_ca (goodIn_r _ [8, 9, 10, 11, 12, 7, 13, 14, 15, 16, 17, 18, 19, 20, 21, 22, 23, 24, 25, 26, 27, 28, 29] (by decide +kernel) (by decide +kernel)) (goodIn_sub (fun _ h => List.mem_cons_of_mem _ (List.mem_append_left _ (List.mem_append_left _ (List.mem_append_left _ (List.mem_append_left _ (List.mem_append_right _ h)))))) (by decide +kernel))) (goodIn_sub (fun _ h => List.mem_cons_of_mem _ (List.mem_append_left _ (List.mem_append_left _ (List.mem_append_left _ (List.mem_append_right _ h))))) (by decide +kernel))) (goodIn_sub (fun _ h => List.mem_cons_of_mem _ (List.mem_append_left _ (List.mem_append_left _ (List.mem_append_right _ h)))) (by decide +kernel))) (goodIn_sub (fun _ h => List.mem_cons_of_mem _ (List.mem_append_left _ (List.mem_append_right _ h))) (by decide +kernel))) (goodIn_sub (fun _ h => List.mem_cons_of_mem _ (List.mem_append_right _ h)) (by decide +kernel))
set_option maxRecDepth 20000 in
theorem gk_L_selectRelation_X10_selectRelation : GoodIn wk_L_selectRelation (wsV RL 80 RX10 yX10_selectRelation wk_X10_selectRelation) := goodIn_app (goodIn_r _ [4, 5, 6, 7] (by decide +kernel) (by decide +kernel)) ggk_L_selectRelation_X10_selectRelation
set_option maxHeartbeats 4000000 in
set_option maxRecDepth 100000 in
theorem k_L_selectRelation (l : Launch) (htr : l.stackTraces = false) (D : va_G) (cI cJ cZ : ClassId) (x : Nat) (st : Nat) (kp : Nat) (bf : Nat) (o1 : Nat) (o2 : Nat) (o3 : Nat) (o4 : Nat) (o5 : Nat) (o6 : Nat) (lt : Nat) (tb : Nat) (fl : Nat) (wt : Nat) (ou : Nat) (a0 : Int32) (a1 : Int32) (a2 : Int32) (a3 : Int32) (a4 : Int32) (sz : Nat) : vx_Met l yL_selectRelation wk_L_selectRelation ({ frames := 9, cells := 6, slots := 36, locals := 153 }) (xPc D cI cJ cZ [.ref x, .int a0, .int a1, .int a2, .int a3, .int a4, .ref ou] [(x, .inr (9, [.ref st, .ref kp, .int 0, .ref bf, .int 0, .int (-1), .int (-1), .int 0, .ref o1, .ref o2, .ref o3, .ref o4, .ref o5, .ref o6])), (st, .inr (8, [.ref lt, .ref tb, .ref fl, .ref wt, .int 0, .null])), (fl, .inl (cZ, 6, .inl (fun _ => 0))), (ou, .inl (cJ, 1, .inr (.inl (fun _ => 0))))] sz) (va_Qi (fun (r : Int32) (u : Unit) => (r = 1 ∧ a0.toInt < 0) ∨ (r = 1 ∧ 0 ≤ a0.toInt ∧ 6 ≤ a0.toInt) ∨ (r = 1 ∧ 0 ≤ a0.toInt ∧ a0.toInt < 6 ∧ a4.toInt < 0) ∨ (r = 1 ∧ 0 ≤ a0.toInt ∧ a0.toInt < 6 ∧ 0 ≤ a4.toInt ∧ 6 ≤ a4.toInt) ∨ (r = 1 ∧ 0 ≤ a0.toInt ∧ a0.toInt < 6 ∧ 0 ≤ a4.toInt ∧ a4.toInt < 6 ∧ a1.toInt < 0) ∨ (r = 1 ∧ 0 ≤ a0.toInt ∧ a0.toInt < 6 ∧ 0 ≤ a4.toInt ∧ a4.toInt < 6 ∧ 0 ≤ a1.toInt ∧ 3 ≤ a1.toInt) ∨ (r = 1 ∧ 0 ≤ a0.toInt ∧ a0.toInt < 6 ∧ 0 ≤ a4.toInt ∧ a4.toInt < 6 ∧ 0 ≤ a1.toInt ∧ a1.toInt < 3 ∧ a2.toInt < 0) ∨ (r = 1 ∧ 0 ≤ a0.toInt ∧ a0.toInt < 6 ∧ 0 ≤ a4.toInt ∧ a4.toInt < 6 ∧ 0 ≤ a1.toInt ∧ a1.toInt < 3 ∧ 0 ≤ a2.toInt ∧ 3 ≤ a2.toInt) ∨ (r = 2 ∧ 0 ≤ a0.toInt ∧ a0.toInt < 6 ∧ 0 ≤ a4.toInt ∧ a4.toInt < 6 ∧ 0 ≤ a1.toInt ∧ a1.toInt < 3 ∧ 0 ≤ a2.toInt ∧ a2.toInt < 3 ∧ a3.toInt < 0) ∨ (r = 3 ∧ 0 ≤ a0.toInt ∧ a0.toInt < 6 ∧ 0 ≤ a4.toInt ∧ a4.toInt < 6 ∧ 0 ≤ a1.toInt ∧ a1.toInt < 3 ∧ 0 ≤ a2.toInt ∧ a2.toInt < 3 ∧ 0 ≤ a3.toInt ∧ a3.toInt < 4 ∧ 0 ≤ a0.toInt ∧ a0.toInt < 6) ∨ (r = 2 ∧ 0 ≤ a0.toInt ∧ a0.toInt < 6 ∧ 0 ≤ a4.toInt ∧ a4.toInt < 6 ∧ 0 ≤ a1.toInt ∧ a1.toInt < 3 ∧ 0 ≤ a2.toInt ∧ a2.toInt < 3 ∧ 0 ≤ a3.toInt ∧ 4 ≤ a3.toInt)) (fun (u : Unit) (t : State) => va_P D vwCl ([] : va_W) t.heap ∧ va_D (va_A [(x, .inr (9, [.ref st, .ref kp, .int 0, .ref bf, .int 0, .int (-1), .int (-1), .int 0, .ref o1, .ref o2, .ref o3, .ref o4, .ref o5, .ref o6])), (st, .inr (8, [.ref lt, .ref tb, .ref fl, .ref wt, .int 0, .null])), (fl, .inl (cZ, 6, .inl (fun _ => 0))), (ou, .inl (cJ, 1, .inr (.inl (fun _ => 0))))] sz) ([] : va_W)) (va_A [(x, .inr (9, [.ref st, .ref kp, .int 0, .ref bf, .int 0, .int (-1), .int (-1), .int 0, .ref o1, .ref o2, .ref o3, .ref o4, .ref o5, .ref o6])), (st, .inr (8, [.ref lt, .ref tb, .ref fl, .ref wt, .int 0, .null])), (fl, .inl (cZ, 6, .inl (fun _ => 0))), (ou, .inl (cJ, 1, .inr (.inl (fun _ => 0))))] sz)) (vx_X (fun _ : Unit => True) (fun (E : String) (_ : Unit) (_ : State) => False) (va_A [(x, .inr (9, [.ref st, .ref kp, .int 0, .ref bf, .int 0, .int (-1), .int (-1), .int 0, .ref o1, .ref o2, .ref o3, .ref o4, .ref o5, .ref o6])), (st, .inr (8, [.ref lt, .ref tb, .ref fl, .ref wt, .int 0, .null])), (fl, .inl (cZ, 6, .inl (fun _ => 0))), (ou, .inl (cJ, 1, .inr (.inl (fun _ => 0))))] sz)) 6 36 (va_A [(x, .inr (9, [.ref st, .ref kp, .int 0, .ref bf, .int 0, .int (-1), .int (-1), .int 0, .ref o1, .ref o2, .ref o3, .ref o4, .ref o5, .ref o6])), (st, .inr (8, [.ref lt, .ref tb, .ref fl, .ref wt, .int 0, .null])), (fl, .inl (cZ, 6, .inl (fun _ => 0))), (ou, .inl (cJ, 1, .inr (.inl (fun _ => 0))))] sz) := by
  refine vx_ofWH (cc := cL_selectRelation) (maxL := 8) (ret := (some .int)) (by decide) rfl ?_
  intro p e s m args below meth c s₁ B hml hv
  obtain ⟨rfl, hsz, hP, hK, hD0, hE, hV⟩ := hv
  have hx := B.exec
  have hb := B.bytes
  have hr := B.returns
  have hts := atoms_spec (ws := wk_L_selectRelation) B.pre
  have hown : s.vm.findClass RL = some m.cls := findClass_of_methodNamed B.named
  have hlocks := B.notSynchronized
  have htab : c.exceptionTable.toList = tableOf [(0, 16, 19, 20), (0, 16, 23, 13), (0, 16, 27, 15)] := vx_table (x := yL_selectRelation) B (hts _ List.mem_cons_self)
  have w_1 := hts (.classLink RL 20 iob) (List.mem_of_getElem? (i := 1) rfl)
  have w_2 := hts (.classLink RL 13 iae) (List.mem_of_getElem? (i := 2) rfl)
  have w_3 := hts (.classLink RL 15 ise) (List.mem_of_getElem? (i := 3) rfl)
  subst hsz
  have hD := hD0.self (sz := s.heap.size)
  generalize hAe : va_A [(x, .inr (9, [.ref st, .ref kp, .int 0, .ref bf, .int 0, .int (-1), .int (-1), .int 0, .ref o1, .ref o2, .ref o3, .ref o4, .ref o5, .ref o6])), (st, .inr (8, [.ref lt, .ref tb, .ref fl, .ref wt, .int 0, .null])), (fl, .inl (cZ, 6, .inl (fun _ => 0))), (ou, .inl (cJ, 1, .inr (.inl (fun _ => 0))))] s.heap.size = A at hD hE ⊢
  have hA : ∀ q : Nat, s.heap.size ≤ q → A q := fun q h => by rw [← hAe]; exact Or.inr h
  have hS : va_S A s.heap s.heap [] := va_S.rf
  have hP : va_P D vwCl [(x, .inr (9, [.ref st, .ref kp, .int 0, .ref bf, .int 0, .int (-1), .int (-1), .int 0, .ref o1, .ref o2, .ref o3, .ref o4, .ref o5, .ref o6])), (st, .inr (8, [.ref lt, .ref tb, .ref fl, .ref wt, .int 0, .null])), (fl, .inl (cZ, 6, .inl (fun _ => 0))), (ou, .inl (cJ, 1, .inr (.inl (fun _ => 0))))] s.heap := hP
  have hl := lv_entry ([.ref x, .int a0, .int a1, .int a2, .int a3, .int a4, .ref ou]) (n := 8) (Nat.le_of_ble_eq_true rfl)
  rw [lg_entry_eq]
  generalize (lg_sl ([.ref x, .int a0, .int a1, .int a2, .int a3, .int a4, .ref ou]) ++ List.replicate (8 - (lg_sl ([.ref x, .int a0, .int a1, .int a2, .int a3, .int a4, .ref ou])).length) Slot.unset).toArray = ls at hl ⊢
  have hl : lv_has ls 8 [(0, .ref x), (1, .int a0), (2, .int a1), (3, .int a2), (4, .int a3), (5, .int a4), (6, .ref ou)] := hl
  refine lv_aload hx hb dL_selectRelation_0 (lv_at hl 6 rfl) ?_
  refine lv_iconst (v := 0) hx hb dL_selectRelation_2 (by decide) ?_
  refine lv_aload_n hx hb dL_selectRelation_3 rfl (lv_at hl 0 rfl) ?_
  refine lv_iload_n hx hb dL_selectRelation_4 rfl (lv_at hl 1 rfl) ?_
  refine lv_iload_n hx hb dL_selectRelation_5 rfl (lv_at hl 2 rfl) ?_
  refine lv_iload_n hx hb dL_selectRelation_6 rfl (lv_at hl 3 rfl) ?_
  refine lv_iload hx hb dL_selectRelation_7 (lv_at hl 4 rfl) ?_
  refine lv_iload hx hb dL_selectRelation_9 (lv_at hl 5 rfl) ?_
  have hPc := hP.sub (ws' := [(x, .inr (9, [.ref st, .ref kp, .int 0, .ref bf, .int 0, .int (-1), .int (-1), .int 0, .ref o1, .ref o2, .ref o3, .ref o4, .ref o5, .ref o6])), (st, .inr (8, [.ref lt, .ref tb, .ref fl, .ref wt, .int 0, .null])), (fl, .inl (cZ, 6, .inl (fun _ => 0)))]) [0, 1, 2] rfl
  have hDc := hD.sub (ws' := [(x, .inr (9, [.ref st, .ref kp, .int 0, .ref bf, .int 0, .int (-1), .int (-1), .int 0, .ref o1, .ref o2, .ref o3, .ref o4, .ref o5, .ref o6])), (st, .inr (8, [.ref lt, .ref tb, .ref fl, .ref wt, .int 0, .null])), (fl, .inl (cZ, 6, .inl (fun _ => 0)))]) [0, 1, 2] (by decide) rfl
  have hFc := va_free (wc := [(x, .inr (9, [.ref st, .ref kp, .int 0, .ref bf, .int 0, .int (-1), .int (-1), .int 0, .ref o1, .ref o2, .ref o3, .ref o4, .ref o5, .ref o6])), (st, .inr (8, [.ref lt, .ref tb, .ref fl, .ref wt, .int 0, .null])), (fl, .inl (cZ, 6, .inl (fun _ => 0)))]) hD hS hA [0, 1, 2] rfl
  refine vx_calli (vx_runV (As := [.int a0, .int a1, .int a2, .int a3, .int a4]) (rest := [.int 0, .ref ou]) ⟨hx, hb, hml, hown, hts⟩ (k_X10_selectRelation l htr D cI cJ cZ x st kp bf o1 o2 o3 o4 o5 o6 lt tb fl wt a0 a1 a2 a3 a4 s.heap.size) (cwV 5 hts gk_L_selectRelation_X10_selectRelation rfl rfl rfl (by decide +kernel) ⟨Nat.le_of_ble_eq_true rfl, Nat.le_of_ble_eq_true rfl⟩) ⟨xPc_blind, va_recv hK hP (ci := 9) (q0 := 0) rfl rfl, xPc_pre hPc hK hDc hE hS hFc hV⟩ rfl rfl hl.1 rfl (lv_room (Nat.le_of_ble_eq_true rfl)) dL_selectRelation_11 ⟨Nat.le_of_ble_eq_true rfl, Nat.le_of_ble_eq_true rfl⟩) hS (fun q _ h => hFc q h) hFc (fun q _ h => hFc q h) (fun E ce q9 u t H_1 locs ht hvm hpx hBX hz1 hk1 hS hq9 hcv hcl => ?_) (fun r u t H_1 locs ht hvm hw hB hz1 hk1 hS => ?_)
  · rcases hBX with ⟨rfl, e_0⟩ | ⟨rfl, e_0, e_1⟩ | ⟨rfl, e_0, e_1, e_2⟩ | ⟨rfl, e_0, e_1, e_2, e_3⟩ | ⟨rfl, e_0, e_1, e_2, e_3, e_4⟩ | ⟨rfl, e_0, e_1, e_2, e_3, e_4, e_5⟩ | ⟨rfl, e_0, e_1, e_2, e_3, e_4, e_5, e_6⟩ | ⟨rfl, e_0, e_1, e_2, e_3, e_4, e_5, e_6, e_7⟩ | ⟨rfl, e_0, e_1, e_2, e_3, e_4, e_5, e_6, e_7, e_8⟩ | ⟨rfl, e_0, e_1, e_2, e_3, e_4, e_5, e_6, e_7, e_8, e_9, e_10, e_11⟩ | ⟨rfl, e_0, e_1, e_2, e_3, e_4, e_5, e_6, e_7, e_8, e_9⟩
    · have c_2 : a0.toInt < 0 := e_0
      refine vx_catch hown (tableOf []) ⟨0, 16, 19, 20⟩ (tableOf [(0, 16, 23, 13), (0, 16, 27, 15)]) (by rw [htab]; rfl) (xpass0) (by decide) (by decide) w_1 (va_Nw.use rfl hV.2.2.2.2.2.1.2.2) hq9 hcv hcl ?_
      have hP : va_P D vwCl [] H_1 := fun k q h => by simp at h
      have hD : va_D A [] := ⟨fun i j p q h => by simp at h, fun k q h => by simp at h⟩
      refine W.widen (k := 6) (n := 36) (Nat.le_of_ble_eq_true rfl) (Nat.le_of_ble_eq_true rfl) ?_
      refine lv_astore (lv' := [(7, .ref q9), (0, .ref x), (1, .int a0), (2, .int a1), (3, .int a2), (4, .int a3), (5, .int a4), (6, .ref ou)]) hx hb dL_selectRelation_19 hl (by decide) rfl (fun ls hl => ?_)
      refine lv_iconst (v := 1) hx hb dL_selectRelation_21 (by decide) ?_
      have hP9 := hP.sub (ws' := []) [] rfl
      have hD9 := hD.sub (ws' := []) [] (by decide) rfl
      refine W.widen (k := 6) (n := 36) (Nat.le_of_ble_eq_true rfl) (Nat.le_of_ble_eq_true rfl) ?_
      exact vx_ret (W.iret (v := 1) hx hb hr (fun t ht hW => ⟨⟨1, (), rfl, Or.inl ⟨rfl, c_2⟩, by rw [ht]; exact hP9, hD9⟩, hS.F ht⟩) hS.2.2 dL_selectRelation_22)
    · have c_3 : 0 ≤ a0.toInt := e_0
      have c_4 : 6 ≤ a0.toInt := e_1
      refine vx_catch hown (tableOf []) ⟨0, 16, 19, 20⟩ (tableOf [(0, 16, 23, 13), (0, 16, 27, 15)]) (by rw [htab]; rfl) (xpass0) (by decide) (by decide) w_1 (va_Nw.use rfl hV.2.2.2.2.2.1.2.2) hq9 hcv hcl ?_
      have hP : va_P D vwCl [] H_1 := fun k q h => by simp at h
      have hD : va_D A [] := ⟨fun i j p q h => by simp at h, fun k q h => by simp at h⟩
      refine W.widen (k := 6) (n := 36) (Nat.le_of_ble_eq_true rfl) (Nat.le_of_ble_eq_true rfl) ?_
      refine lv_astore (lv' := [(7, .ref q9), (0, .ref x), (1, .int a0), (2, .int a1), (3, .int a2), (4, .int a3), (5, .int a4), (6, .ref ou)]) hx hb dL_selectRelation_19 hl (by decide) rfl (fun ls hl => ?_)
      refine lv_iconst (v := 1) hx hb dL_selectRelation_21 (by decide) ?_
      have hP9 := hP.sub (ws' := []) [] rfl
      have hD9 := hD.sub (ws' := []) [] (by decide) rfl
      refine W.widen (k := 6) (n := 36) (Nat.le_of_ble_eq_true rfl) (Nat.le_of_ble_eq_true rfl) ?_
      exact vx_ret (W.iret (v := 1) hx hb hr (fun t ht hW => ⟨⟨1, (), rfl, Or.inr (Or.inl ⟨rfl, c_3, c_4⟩), by rw [ht]; exact hP9, hD9⟩, hS.F ht⟩) hS.2.2 dL_selectRelation_22)
    · have c_5 : 0 ≤ a0.toInt := e_0
      have c_6 : a0.toInt < 6 := e_1
      have c_7 : a4.toInt < 0 := e_2
      refine vx_catch hown (tableOf []) ⟨0, 16, 19, 20⟩ (tableOf [(0, 16, 23, 13), (0, 16, 27, 15)]) (by rw [htab]; rfl) (xpass0) (by decide) (by decide) w_1 (va_Nw.use rfl hV.2.2.2.2.2.1.2.2) hq9 hcv hcl ?_
      have hP : va_P D vwCl [] H_1 := fun k q h => by simp at h
      have hD : va_D A [] := ⟨fun i j p q h => by simp at h, fun k q h => by simp at h⟩
      refine W.widen (k := 6) (n := 36) (Nat.le_of_ble_eq_true rfl) (Nat.le_of_ble_eq_true rfl) ?_
      refine lv_astore (lv' := [(7, .ref q9), (0, .ref x), (1, .int a0), (2, .int a1), (3, .int a2), (4, .int a3), (5, .int a4), (6, .ref ou)]) hx hb dL_selectRelation_19 hl (by decide) rfl (fun ls hl => ?_)
      refine lv_iconst (v := 1) hx hb dL_selectRelation_21 (by decide) ?_
      have hP9 := hP.sub (ws' := []) [] rfl
      have hD9 := hD.sub (ws' := []) [] (by decide) rfl
      refine W.widen (k := 6) (n := 36) (Nat.le_of_ble_eq_true rfl) (Nat.le_of_ble_eq_true rfl) ?_
      exact vx_ret (W.iret (v := 1) hx hb hr (fun t ht hW => ⟨⟨1, (), rfl, Or.inr (Or.inr (Or.inl ⟨rfl, c_5, c_6, c_7⟩)), by rw [ht]; exact hP9, hD9⟩, hS.F ht⟩) hS.2.2 dL_selectRelation_22)
    · have c_8 : 0 ≤ a0.toInt := e_0
      have c_9 : a0.toInt < 6 := e_1
      have c_10 : 0 ≤ a4.toInt := e_2
      have c_11 : 6 ≤ a4.toInt := e_3
      refine vx_catch hown (tableOf []) ⟨0, 16, 19, 20⟩ (tableOf [(0, 16, 23, 13), (0, 16, 27, 15)]) (by rw [htab]; rfl) (xpass0) (by decide) (by decide) w_1 (va_Nw.use rfl hV.2.2.2.2.2.1.2.2) hq9 hcv hcl ?_
      have hP : va_P D vwCl [] H_1 := fun k q h => by simp at h
      have hD : va_D A [] := ⟨fun i j p q h => by simp at h, fun k q h => by simp at h⟩
      refine W.widen (k := 6) (n := 36) (Nat.le_of_ble_eq_true rfl) (Nat.le_of_ble_eq_true rfl) ?_
      refine lv_astore (lv' := [(7, .ref q9), (0, .ref x), (1, .int a0), (2, .int a1), (3, .int a2), (4, .int a3), (5, .int a4), (6, .ref ou)]) hx hb dL_selectRelation_19 hl (by decide) rfl (fun ls hl => ?_)
      refine lv_iconst (v := 1) hx hb dL_selectRelation_21 (by decide) ?_
      have hP9 := hP.sub (ws' := []) [] rfl
      have hD9 := hD.sub (ws' := []) [] (by decide) rfl
      refine W.widen (k := 6) (n := 36) (Nat.le_of_ble_eq_true rfl) (Nat.le_of_ble_eq_true rfl) ?_
      exact vx_ret (W.iret (v := 1) hx hb hr (fun t ht hW => ⟨⟨1, (), rfl, Or.inr (Or.inr (Or.inr (Or.inl ⟨rfl, c_8, c_9, c_10, c_11⟩))), by rw [ht]; exact hP9, hD9⟩, hS.F ht⟩) hS.2.2 dL_selectRelation_22)
    · have c_12 : 0 ≤ a0.toInt := e_0
      have c_13 : a0.toInt < 6 := e_1
      have c_14 : 0 ≤ a4.toInt := e_2
      have c_15 : a4.toInt < 6 := e_3
      have c_16 : a1.toInt < 0 := e_4
      refine vx_catch hown (tableOf []) ⟨0, 16, 19, 20⟩ (tableOf [(0, 16, 23, 13), (0, 16, 27, 15)]) (by rw [htab]; rfl) (xpass0) (by decide) (by decide) w_1 (va_Nw.use rfl hV.2.2.2.2.2.1.2.2) hq9 hcv hcl ?_
      have hP : va_P D vwCl [] H_1 := fun k q h => by simp at h
      have hD : va_D A [] := ⟨fun i j p q h => by simp at h, fun k q h => by simp at h⟩
      refine W.widen (k := 6) (n := 36) (Nat.le_of_ble_eq_true rfl) (Nat.le_of_ble_eq_true rfl) ?_
      refine lv_astore (lv' := [(7, .ref q9), (0, .ref x), (1, .int a0), (2, .int a1), (3, .int a2), (4, .int a3), (5, .int a4), (6, .ref ou)]) hx hb dL_selectRelation_19 hl (by decide) rfl (fun ls hl => ?_)
      refine lv_iconst (v := 1) hx hb dL_selectRelation_21 (by decide) ?_
      have hP9 := hP.sub (ws' := []) [] rfl
      have hD9 := hD.sub (ws' := []) [] (by decide) rfl
      refine W.widen (k := 6) (n := 36) (Nat.le_of_ble_eq_true rfl) (Nat.le_of_ble_eq_true rfl) ?_
      exact vx_ret (W.iret (v := 1) hx hb hr (fun t ht hW => ⟨⟨1, (), rfl, Or.inr (Or.inr (Or.inr (Or.inr (Or.inl ⟨rfl, c_12, c_13, c_14, c_15, c_16⟩)))), by rw [ht]; exact hP9, hD9⟩, hS.F ht⟩) hS.2.2 dL_selectRelation_22)
    · have c_17 : 0 ≤ a0.toInt := e_0
      have c_18 : a0.toInt < 6 := e_1
      have c_19 : 0 ≤ a4.toInt := e_2
      have c_20 : a4.toInt < 6 := e_3
      have c_21 : 0 ≤ a1.toInt := e_4
      have c_22 : 3 ≤ a1.toInt := e_5
      refine vx_catch hown (tableOf []) ⟨0, 16, 19, 20⟩ (tableOf [(0, 16, 23, 13), (0, 16, 27, 15)]) (by rw [htab]; rfl) (xpass0) (by decide) (by decide) w_1 (va_Nw.use rfl hV.2.2.2.2.2.1.2.2) hq9 hcv hcl ?_
      have hP : va_P D vwCl [] H_1 := fun k q h => by simp at h
      have hD : va_D A [] := ⟨fun i j p q h => by simp at h, fun k q h => by simp at h⟩
      refine W.widen (k := 6) (n := 36) (Nat.le_of_ble_eq_true rfl) (Nat.le_of_ble_eq_true rfl) ?_
      refine lv_astore (lv' := [(7, .ref q9), (0, .ref x), (1, .int a0), (2, .int a1), (3, .int a2), (4, .int a3), (5, .int a4), (6, .ref ou)]) hx hb dL_selectRelation_19 hl (by decide) rfl (fun ls hl => ?_)
      refine lv_iconst (v := 1) hx hb dL_selectRelation_21 (by decide) ?_
      have hP9 := hP.sub (ws' := []) [] rfl
      have hD9 := hD.sub (ws' := []) [] (by decide) rfl
      refine W.widen (k := 6) (n := 36) (Nat.le_of_ble_eq_true rfl) (Nat.le_of_ble_eq_true rfl) ?_
      exact vx_ret (W.iret (v := 1) hx hb hr (fun t ht hW => ⟨⟨1, (), rfl, Or.inr (Or.inr (Or.inr (Or.inr (Or.inr (Or.inl ⟨rfl, c_17, c_18, c_19, c_20, c_21, c_22⟩))))), by rw [ht]; exact hP9, hD9⟩, hS.F ht⟩) hS.2.2 dL_selectRelation_22)
    · have c_23 : 0 ≤ a0.toInt := e_0
      have c_24 : a0.toInt < 6 := e_1
      have c_25 : 0 ≤ a4.toInt := e_2
      have c_26 : a4.toInt < 6 := e_3
      have c_27 : 0 ≤ a1.toInt := e_4
      have c_28 : a1.toInt < 3 := e_5
      have c_29 : a2.toInt < 0 := e_6
      refine vx_catch hown (tableOf []) ⟨0, 16, 19, 20⟩ (tableOf [(0, 16, 23, 13), (0, 16, 27, 15)]) (by rw [htab]; rfl) (xpass0) (by decide) (by decide) w_1 (va_Nw.use rfl hV.2.2.2.2.2.1.2.2) hq9 hcv hcl ?_
      have hP : va_P D vwCl [] H_1 := fun k q h => by simp at h
      have hD : va_D A [] := ⟨fun i j p q h => by simp at h, fun k q h => by simp at h⟩
      refine W.widen (k := 6) (n := 36) (Nat.le_of_ble_eq_true rfl) (Nat.le_of_ble_eq_true rfl) ?_
      refine lv_astore (lv' := [(7, .ref q9), (0, .ref x), (1, .int a0), (2, .int a1), (3, .int a2), (4, .int a3), (5, .int a4), (6, .ref ou)]) hx hb dL_selectRelation_19 hl (by decide) rfl (fun ls hl => ?_)
      refine lv_iconst (v := 1) hx hb dL_selectRelation_21 (by decide) ?_
      have hP9 := hP.sub (ws' := []) [] rfl
      have hD9 := hD.sub (ws' := []) [] (by decide) rfl
      refine W.widen (k := 6) (n := 36) (Nat.le_of_ble_eq_true rfl) (Nat.le_of_ble_eq_true rfl) ?_
      exact vx_ret (W.iret (v := 1) hx hb hr (fun t ht hW => ⟨⟨1, (), rfl, Or.inr (Or.inr (Or.inr (Or.inr (Or.inr (Or.inr (Or.inl ⟨rfl, c_23, c_24, c_25, c_26, c_27, c_28, c_29⟩)))))), by rw [ht]; exact hP9, hD9⟩, hS.F ht⟩) hS.2.2 dL_selectRelation_22)
    · have c_30 : 0 ≤ a0.toInt := e_0
      have c_31 : a0.toInt < 6 := e_1
      have c_32 : 0 ≤ a4.toInt := e_2
      have c_33 : a4.toInt < 6 := e_3
      have c_34 : 0 ≤ a1.toInt := e_4
      have c_35 : a1.toInt < 3 := e_5
      have c_36 : 0 ≤ a2.toInt := e_6
      have c_37 : 3 ≤ a2.toInt := e_7
      refine vx_catch hown (tableOf []) ⟨0, 16, 19, 20⟩ (tableOf [(0, 16, 23, 13), (0, 16, 27, 15)]) (by rw [htab]; rfl) (xpass0) (by decide) (by decide) w_1 (va_Nw.use rfl hV.2.2.2.2.2.1.2.2) hq9 hcv hcl ?_
      have hP : va_P D vwCl [] H_1 := fun k q h => by simp at h
      have hD : va_D A [] := ⟨fun i j p q h => by simp at h, fun k q h => by simp at h⟩
      refine W.widen (k := 6) (n := 36) (Nat.le_of_ble_eq_true rfl) (Nat.le_of_ble_eq_true rfl) ?_
      refine lv_astore (lv' := [(7, .ref q9), (0, .ref x), (1, .int a0), (2, .int a1), (3, .int a2), (4, .int a3), (5, .int a4), (6, .ref ou)]) hx hb dL_selectRelation_19 hl (by decide) rfl (fun ls hl => ?_)
      refine lv_iconst (v := 1) hx hb dL_selectRelation_21 (by decide) ?_
      have hP9 := hP.sub (ws' := []) [] rfl
      have hD9 := hD.sub (ws' := []) [] (by decide) rfl
      refine W.widen (k := 6) (n := 36) (Nat.le_of_ble_eq_true rfl) (Nat.le_of_ble_eq_true rfl) ?_
      exact vx_ret (W.iret (v := 1) hx hb hr (fun t ht hW => ⟨⟨1, (), rfl, Or.inr (Or.inr (Or.inr (Or.inr (Or.inr (Or.inr (Or.inr (Or.inl ⟨rfl, c_30, c_31, c_32, c_33, c_34, c_35, c_36, c_37⟩))))))), by rw [ht]; exact hP9, hD9⟩, hS.F ht⟩) hS.2.2 dL_selectRelation_22)
    · have c_38 : 0 ≤ a0.toInt := e_0
      have c_39 : a0.toInt < 6 := e_1
      have c_40 : 0 ≤ a4.toInt := e_2
      have c_41 : a4.toInt < 6 := e_3
      have c_42 : 0 ≤ a1.toInt := e_4
      have c_43 : a1.toInt < 3 := e_5
      have c_44 : 0 ≤ a2.toInt := e_6
      have c_45 : a2.toInt < 3 := e_7
      have c_46 : a3.toInt < 0 := e_8
      refine vx_catch hown (tableOf [(0, 16, 19, 20)]) ⟨0, 16, 23, 13⟩ (tableOf [(0, 16, 27, 15)]) (by rw [htab]; rfl) (xpass1 (Or.inr ⟨by decide, iob, w_1, hV.2.2.2.2.2.2.1.2.2⟩)) (by decide) (by decide) w_2 (va_Nw.use rfl hV.2.2.2.2.2.1.1) hq9 hcv hcl ?_
      have hP : va_P D vwCl [] H_1 := fun k q h => by simp at h
      have hD : va_D A [] := ⟨fun i j p q h => by simp at h, fun k q h => by simp at h⟩
      refine W.widen (k := 6) (n := 36) (Nat.le_of_ble_eq_true rfl) (Nat.le_of_ble_eq_true rfl) ?_
      refine lv_astore (lv' := [(7, .ref q9), (0, .ref x), (1, .int a0), (2, .int a1), (3, .int a2), (4, .int a3), (5, .int a4), (6, .ref ou)]) hx hb dL_selectRelation_23 hl (by decide) rfl (fun ls hl => ?_)
      refine lv_iconst (v := 2) hx hb dL_selectRelation_25 (by decide) ?_
      have hP9 := hP.sub (ws' := []) [] rfl
      have hD9 := hD.sub (ws' := []) [] (by decide) rfl
      refine W.widen (k := 6) (n := 36) (Nat.le_of_ble_eq_true rfl) (Nat.le_of_ble_eq_true rfl) ?_
      exact vx_ret (W.iret (v := 2) hx hb hr (fun t ht hW => ⟨⟨2, (), rfl, Or.inr (Or.inr (Or.inr (Or.inr (Or.inr (Or.inr (Or.inr (Or.inr (Or.inl ⟨rfl, c_38, c_39, c_40, c_41, c_42, c_43, c_44, c_45, c_46⟩)))))))), by rw [ht]; exact hP9, hD9⟩, hS.F ht⟩) hS.2.2 dL_selectRelation_26)
    · have c_47 : 0 ≤ a0.toInt := e_0
      have c_48 : a0.toInt < 6 := e_1
      have c_49 : 0 ≤ a4.toInt := e_2
      have c_50 : a4.toInt < 6 := e_3
      have c_51 : 0 ≤ a1.toInt := e_4
      have c_52 : a1.toInt < 3 := e_5
      have c_53 : 0 ≤ a2.toInt := e_6
      have c_54 : a2.toInt < 3 := e_7
      have c_55 : 0 ≤ a3.toInt := e_8
      have c_56 : a3.toInt < 4 := e_9
      have c_57 : 0 ≤ a0.toInt := e_10
      have c_58 : a0.toInt < 6 := e_11
      refine vx_catch hown (tableOf [(0, 16, 19, 20), (0, 16, 23, 13)]) ⟨0, 16, 27, 15⟩ (tableOf []) (by rw [htab]; rfl) (xpass2 (Or.inr ⟨by decide, iob, w_1, hV.2.2.2.2.2.2.1.1⟩) (Or.inr ⟨by decide, iae, w_2, hV.2.2.2.2.2.2.1.2.1⟩)) (by decide) (by decide) w_3 (va_Nw.use rfl hV.2.2.2.2.2.1.2.1) hq9 hcv hcl ?_
      have hP : va_P D vwCl [] H_1 := fun k q h => by simp at h
      have hD : va_D A [] := ⟨fun i j p q h => by simp at h, fun k q h => by simp at h⟩
      refine W.widen (k := 6) (n := 36) (Nat.le_of_ble_eq_true rfl) (Nat.le_of_ble_eq_true rfl) ?_
      refine lv_astore (lv' := [(7, .ref q9), (0, .ref x), (1, .int a0), (2, .int a1), (3, .int a2), (4, .int a3), (5, .int a4), (6, .ref ou)]) hx hb dL_selectRelation_27 hl (by decide) rfl (fun ls hl => ?_)
      refine lv_iconst (v := 3) hx hb dL_selectRelation_29 (by decide) ?_
      have hP9 := hP.sub (ws' := []) [] rfl
      have hD9 := hD.sub (ws' := []) [] (by decide) rfl
      refine W.widen (k := 6) (n := 36) (Nat.le_of_ble_eq_true rfl) (Nat.le_of_ble_eq_true rfl) ?_
      exact vx_ret (W.iret (v := 3) hx hb hr (fun t ht hW => ⟨⟨3, (), rfl, Or.inr (Or.inr (Or.inr (Or.inr (Or.inr (Or.inr (Or.inr (Or.inr (Or.inr (Or.inl ⟨rfl, c_47, c_48, c_49, c_50, c_51, c_52, c_53, c_54, c_55, c_56, c_57, c_58⟩))))))))), by rw [ht]; exact hP9, hD9⟩, hS.F ht⟩) hS.2.2 dL_selectRelation_30)
    · have c_59 : 0 ≤ a0.toInt := e_0
      have c_60 : a0.toInt < 6 := e_1
      have c_61 : 0 ≤ a4.toInt := e_2
      have c_62 : a4.toInt < 6 := e_3
      have c_63 : 0 ≤ a1.toInt := e_4
      have c_64 : a1.toInt < 3 := e_5
      have c_65 : 0 ≤ a2.toInt := e_6
      have c_66 : a2.toInt < 3 := e_7
      have c_67 : 0 ≤ a3.toInt := e_8
      have c_68 : 4 ≤ a3.toInt := e_9
      refine vx_catch hown (tableOf [(0, 16, 19, 20)]) ⟨0, 16, 23, 13⟩ (tableOf [(0, 16, 27, 15)]) (by rw [htab]; rfl) (xpass1 (Or.inr ⟨by decide, iob, w_1, hV.2.2.2.2.2.2.1.2.2⟩)) (by decide) (by decide) w_2 (va_Nw.use rfl hV.2.2.2.2.2.1.1) hq9 hcv hcl ?_
      have hP : va_P D vwCl [] H_1 := fun k q h => by simp at h
      have hD : va_D A [] := ⟨fun i j p q h => by simp at h, fun k q h => by simp at h⟩
      refine W.widen (k := 6) (n := 36) (Nat.le_of_ble_eq_true rfl) (Nat.le_of_ble_eq_true rfl) ?_
      refine lv_astore (lv' := [(7, .ref q9), (0, .ref x), (1, .int a0), (2, .int a1), (3, .int a2), (4, .int a3), (5, .int a4), (6, .ref ou)]) hx hb dL_selectRelation_23 hl (by decide) rfl (fun ls hl => ?_)
      refine lv_iconst (v := 2) hx hb dL_selectRelation_25 (by decide) ?_
      have hP9 := hP.sub (ws' := []) [] rfl
      have hD9 := hD.sub (ws' := []) [] (by decide) rfl
      refine W.widen (k := 6) (n := 36) (Nat.le_of_ble_eq_true rfl) (Nat.le_of_ble_eq_true rfl) ?_
      exact vx_ret (W.iret (v := 2) hx hb hr (fun t ht hW => ⟨⟨2, (), rfl, Or.inr (Or.inr (Or.inr (Or.inr (Or.inr (Or.inr (Or.inr (Or.inr (Or.inr (Or.inr ⟨rfl, c_59, c_60, c_61, c_62, c_63, c_64, c_65, c_66, c_67, c_68⟩))))))))), by rw [ht]; exact hP9, hD9⟩, hS.F ht⟩) hS.2.2 dL_selectRelation_26)
  · exact hw.elim
def wk_L_contained : List Cond := .codeWith yL_contained cL_contained 5 (some .int) [(0, 17, 20, 20), (0, 17, 24, 15)] :: (([.classLink RL 20 iob, .classLink RL 15 ise, .methodLink RL 83 yX10_contained, .instanceMethod yX10_contained, .selects RX10 yX10_contained yX10_contained, .initialized RX10, .code yX10_contained cX10_contained 6 (some .boolean), .methodLink RX10 138 yX10_checkSlot, .static yX10_checkSlot, .code yX10_checkSlot cX10_checkSlot 1 none, .classLink RX10 91 iob, .initialized iob, .methodLink RX10 153 yX10_tableIn, .instanceMethod yX10_tableIn, .selects RX10 yX10_tableIn yX10_tableIn, .code yX10_tableIn cX10_tableIn 2 (some (.object "DocumentSpanner$SortedInts")), .fieldLink RX10 12 "DocumentSpanner" "state" "LDocumentSpanner$State;", .fieldLink RX10 96 "DocumentSpanner$State" "filled" "[Z", .classLink RX10 80 ise, .initialized ise] : List Cond) ++ wsX100 ++ wsX80 ++ (vx_atS RX10 84 ise ["java/lang/RuntimeException", "java/lang/Exception"]).filter goodWord ++ (vx_atS RX10 95 iob ["java/lang/RuntimeException", "java/lang/Exception"]).filter goodWord)
set_option maxRecDepth 20000 in
theorem ggk_L_contained_X10_contained : GoodIn wk_L_contained wk_X10_contained := goodIn_ca (goodIn_ca (goodIn_ca (goodIn_ca (goodIn_r _ [7, 8, 9, 6, 10, 11, 12, 13, 14, 15, 16, 17, 18, 19, 20] (by decide +kernel) (by decide +kernel)) (goodIn_sub (fun _ h => List.mem_cons_of_mem _ (List.mem_append_left _ (List.mem_append_left _ (List.mem_append_left _ (List.mem_append_right _ h))))) (by decide +kernel))) (goodIn_sub (fun _ h => List.mem_cons_of_mem _ (List.mem_append_left _ (List.mem_append_left _ (List.mem_append_right _ h)))) (by decide +kernel))) (goodIn_sub (fun _ h => List.mem_cons_of_mem _ (List.mem_append_left _ (List.mem_append_right _ h))) (by decide +kernel))) (goodIn_sub (fun _ h => List.mem_cons_of_mem _ (List.mem_append_right _ h)) (by decide +kernel))
set_option maxRecDepth 20000 in
theorem gk_L_contained_X10_contained : GoodIn wk_L_contained (wsV RL 83 RX10 yX10_contained wk_X10_contained) := goodIn_app (goodIn_r _ [3, 4, 5, 6] (by decide +kernel) (by decide +kernel)) ggk_L_contained_X10_contained
set_option maxHeartbeats 4000000 in
set_option maxRecDepth 100000 in
theorem k_L_contained (l : Launch) (htr : l.stackTraces = false) (D : va_G) (cI cJ cZ : ClassId) (x : Nat) (st : Nat) (kp : Nat) (bf : Nat) (o1 : Nat) (o2 : Nat) (o3 : Nat) (o4 : Nat) (o5 : Nat) (o6 : Nat) (lt : Nat) (tb : Nat) (fl : Nat) (wt : Nat) (ou : Nat) (a0 : Int32) (a1 : Int32) (sz : Nat) : vx_Met l yL_contained wk_L_contained ({ frames := 9, cells := 4, slots := 24, locals := 148 }) (xPc D cI cJ cZ [.ref x, .int a0, .int a1, .ref ou] [(x, .inr (9, [.ref st, .ref kp, .int 0, .ref bf, .int 0, .int (-1), .int (-1), .int 0, .ref o1, .ref o2, .ref o3, .ref o4, .ref o5, .ref o6])), (st, .inr (8, [.ref lt, .ref tb, .ref fl, .ref wt, .int 0, .null])), (fl, .inl (cZ, 6, .inl (fun _ => 0))), (ou, .inl (cJ, 1, .inr (.inl (fun _ => 0))))] sz) (va_Qi (fun (r : Int32) (u : Unit) => (r = 1 ∧ a0.toInt < 0) ∨ (r = 1 ∧ 0 ≤ a0.toInt ∧ 6 ≤ a0.toInt) ∨ (r = 1 ∧ 0 ≤ a0.toInt ∧ a0.toInt < 6 ∧ a1.toInt < 0) ∨ (r = 1 ∧ 0 ≤ a0.toInt ∧ a0.toInt < 6 ∧ 0 ≤ a1.toInt ∧ 6 ≤ a1.toInt) ∨ (r = 2 ∧ 0 ≤ a0.toInt ∧ a0.toInt < 6 ∧ 0 ≤ a1.toInt ∧ a1.toInt < 6 ∧ 0 ≤ a0.toInt ∧ a0.toInt < 6)) (fun (u : Unit) (t : State) => va_P D vwCl ([] : va_W) t.heap ∧ va_D (va_A [(x, .inr (9, [.ref st, .ref kp, .int 0, .ref bf, .int 0, .int (-1), .int (-1), .int 0, .ref o1, .ref o2, .ref o3, .ref o4, .ref o5, .ref o6])), (st, .inr (8, [.ref lt, .ref tb, .ref fl, .ref wt, .int 0, .null])), (fl, .inl (cZ, 6, .inl (fun _ => 0))), (ou, .inl (cJ, 1, .inr (.inl (fun _ => 0))))] sz) ([] : va_W)) (va_A [(x, .inr (9, [.ref st, .ref kp, .int 0, .ref bf, .int 0, .int (-1), .int (-1), .int 0, .ref o1, .ref o2, .ref o3, .ref o4, .ref o5, .ref o6])), (st, .inr (8, [.ref lt, .ref tb, .ref fl, .ref wt, .int 0, .null])), (fl, .inl (cZ, 6, .inl (fun _ => 0))), (ou, .inl (cJ, 1, .inr (.inl (fun _ => 0))))] sz)) (vx_X (fun _ : Unit => True) (fun (E : String) (_ : Unit) (_ : State) => False) (va_A [(x, .inr (9, [.ref st, .ref kp, .int 0, .ref bf, .int 0, .int (-1), .int (-1), .int 0, .ref o1, .ref o2, .ref o3, .ref o4, .ref o5, .ref o6])), (st, .inr (8, [.ref lt, .ref tb, .ref fl, .ref wt, .int 0, .null])), (fl, .inl (cZ, 6, .inl (fun _ => 0))), (ou, .inl (cJ, 1, .inr (.inl (fun _ => 0))))] sz)) 4 24 (va_A [(x, .inr (9, [.ref st, .ref kp, .int 0, .ref bf, .int 0, .int (-1), .int (-1), .int 0, .ref o1, .ref o2, .ref o3, .ref o4, .ref o5, .ref o6])), (st, .inr (8, [.ref lt, .ref tb, .ref fl, .ref wt, .int 0, .null])), (fl, .inl (cZ, 6, .inl (fun _ => 0))), (ou, .inl (cJ, 1, .inr (.inl (fun _ => 0))))] sz) := by
  refine vx_ofWH (cc := cL_contained) (maxL := 5) (ret := (some .int)) (by decide) rfl ?_
  intro p e s m args below meth c s₁ B hml hv
  obtain ⟨rfl, hsz, hP, hK, hD0, hE, hV⟩ := hv
  have hx := B.exec
  have hb := B.bytes
  have hr := B.returns
  have hts := atoms_spec (ws := wk_L_contained) B.pre
  have hown : s.vm.findClass RL = some m.cls := findClass_of_methodNamed B.named
  have hlocks := B.notSynchronized
  have htab : c.exceptionTable.toList = tableOf [(0, 17, 20, 20), (0, 17, 24, 15)] := vx_table (x := yL_contained) B (hts _ List.mem_cons_self)
  have w_1 := hts (.classLink RL 20 iob) (List.mem_of_getElem? (i := 1) rfl)
  have w_2 := hts (.classLink RL 15 ise) (List.mem_of_getElem? (i := 2) rfl)
  subst hsz
  have hD := hD0.self (sz := s.heap.size)
  generalize hAe : va_A [(x, .inr (9, [.ref st, .ref kp, .int 0, .ref bf, .int 0, .int (-1), .int (-1), .int 0, .ref o1, .ref o2, .ref o3, .ref o4, .ref o5, .ref o6])), (st, .inr (8, [.ref lt, .ref tb, .ref fl, .ref wt, .int 0, .null])), (fl, .inl (cZ, 6, .inl (fun _ => 0))), (ou, .inl (cJ, 1, .inr (.inl (fun _ => 0))))] s.heap.size = A at hD hE ⊢
  have hA : ∀ q : Nat, s.heap.size ≤ q → A q := fun q h => by rw [← hAe]; exact Or.inr h
  have hS : va_S A s.heap s.heap [] := va_S.rf
  have hP : va_P D vwCl [(x, .inr (9, [.ref st, .ref kp, .int 0, .ref bf, .int 0, .int (-1), .int (-1), .int 0, .ref o1, .ref o2, .ref o3, .ref o4, .ref o5, .ref o6])), (st, .inr (8, [.ref lt, .ref tb, .ref fl, .ref wt, .int 0, .null])), (fl, .inl (cZ, 6, .inl (fun _ => 0))), (ou, .inl (cJ, 1, .inr (.inl (fun _ => 0))))] s.heap := hP
  have hl := lv_entry ([.ref x, .int a0, .int a1, .ref ou]) (n := 5) (Nat.le_of_ble_eq_true rfl)
  rw [lg_entry_eq]
  generalize (lg_sl ([.ref x, .int a0, .int a1, .ref ou]) ++ List.replicate (5 - (lg_sl ([.ref x, .int a0, .int a1, .ref ou])).length) Slot.unset).toArray = ls at hl ⊢
  have hl : lv_has ls 5 [(0, .ref x), (1, .int a0), (2, .int a1), (3, .ref ou)] := hl
  refine lv_aload_n hx hb dL_contained_0 rfl (lv_at hl 3 rfl) ?_
  refine lv_iconst (v := 0) hx hb dL_contained_1 (by decide) ?_
  refine lv_aload_n hx hb dL_contained_2 rfl (lv_at hl 0 rfl) ?_
  refine lv_iload_n hx hb dL_contained_3 rfl (lv_at hl 1 rfl) ?_
  refine lv_iload_n hx hb dL_contained_4 rfl (lv_at hl 2 rfl) ?_
  have hPc := hP.sub (ws' := [(x, .inr (9, [.ref st, .ref kp, .int 0, .ref bf, .int 0, .int (-1), .int (-1), .int 0, .ref o1, .ref o2, .ref o3, .ref o4, .ref o5, .ref o6])), (st, .inr (8, [.ref lt, .ref tb, .ref fl, .ref wt, .int 0, .null])), (fl, .inl (cZ, 6, .inl (fun _ => 0)))]) [0, 1, 2] rfl
  have hDc := hD.sub (ws' := [(x, .inr (9, [.ref st, .ref kp, .int 0, .ref bf, .int 0, .int (-1), .int (-1), .int 0, .ref o1, .ref o2, .ref o3, .ref o4, .ref o5, .ref o6])), (st, .inr (8, [.ref lt, .ref tb, .ref fl, .ref wt, .int 0, .null])), (fl, .inl (cZ, 6, .inl (fun _ => 0)))]) [0, 1, 2] (by decide) rfl
  have hFc := va_free (wc := [(x, .inr (9, [.ref st, .ref kp, .int 0, .ref bf, .int 0, .int (-1), .int (-1), .int 0, .ref o1, .ref o2, .ref o3, .ref o4, .ref o5, .ref o6])), (st, .inr (8, [.ref lt, .ref tb, .ref fl, .ref wt, .int 0, .null])), (fl, .inl (cZ, 6, .inl (fun _ => 0)))]) hD hS hA [0, 1, 2] rfl
  refine vx_calli (vx_runV (As := [.int a0, .int a1]) (rest := [.int 0, .ref ou]) ⟨hx, hb, hml, hown, hts⟩ (k_X10_contained l htr D cI cJ cZ x st kp bf o1 o2 o3 o4 o5 o6 lt tb fl wt a0 a1 s.heap.size) (cwV 2 hts gk_L_contained_X10_contained rfl rfl rfl (by decide +kernel) ⟨Nat.le_of_ble_eq_true rfl, Nat.le_of_ble_eq_true rfl⟩) ⟨xPc_blind, va_recv hK hP (ci := 9) (q0 := 0) rfl rfl, xPc_pre hPc hK hDc hE hS hFc hV⟩ rfl rfl hl.1 rfl (lv_room (Nat.le_of_ble_eq_true rfl)) dL_contained_5 ⟨Nat.le_of_ble_eq_true rfl, Nat.le_of_ble_eq_true rfl⟩) hS (fun q _ h => hFc q h) hFc (fun q _ h => hFc q h) (fun E ce q9 u t H_1 locs ht hvm hpx hBX hz1 hk1 hS hq9 hcv hcl => ?_) (fun r u t H_1 locs ht hvm hw hB hz1 hk1 hS => ?_)
  · rcases hBX with ⟨rfl, e_0⟩ | ⟨rfl, e_0, e_1⟩ | ⟨rfl, e_0, e_1, e_2⟩ | ⟨rfl, e_0, e_1, e_2, e_3⟩ | ⟨rfl, e_0, e_1, e_2, e_3, e_4, e_5⟩
    · have c_2 : a0.toInt < 0 := e_0
      refine vx_catch hown (tableOf []) ⟨0, 17, 20, 20⟩ (tableOf [(0, 17, 24, 15)]) (by rw [htab]; rfl) (xpass0) (by decide) (by decide) w_1 (va_Nw.use rfl hV.2.2.2.2.2.1.2.2) hq9 hcv hcl ?_
      have hP : va_P D vwCl [] H_1 := fun k q h => by simp at h
      have hD : va_D A [] := ⟨fun i j p q h => by simp at h, fun k q h => by simp at h⟩
      refine W.widen (k := 4) (n := 24) (Nat.le_of_ble_eq_true rfl) (Nat.le_of_ble_eq_true rfl) ?_
      refine lv_astore (lv' := [(4, .ref q9), (0, .ref x), (1, .int a0), (2, .int a1), (3, .ref ou)]) hx hb dL_contained_20 hl (by decide) rfl (fun ls hl => ?_)
      refine lv_iconst (v := 1) hx hb dL_contained_22 (by decide) ?_
      have hP9 := hP.sub (ws' := []) [] rfl
      have hD9 := hD.sub (ws' := []) [] (by decide) rfl
      refine W.widen (k := 4) (n := 24) (Nat.le_of_ble_eq_true rfl) (Nat.le_of_ble_eq_true rfl) ?_
      exact vx_ret (W.iret (v := 1) hx hb hr (fun t ht hW => ⟨⟨1, (), rfl, Or.inl ⟨rfl, c_2⟩, by rw [ht]; exact hP9, hD9⟩, hS.F ht⟩) hS.2.2 dL_contained_23)
    · have c_3 : 0 ≤ a0.toInt := e_0
      have c_4 : 6 ≤ a0.toInt := e_1
      refine vx_catch hown (tableOf []) ⟨0, 17, 20, 20⟩ (tableOf [(0, 17, 24, 15)]) (by rw [htab]; rfl) (xpass0) (by decide) (by decide) w_1 (va_Nw.use rfl hV.2.2.2.2.2.1.2.2) hq9 hcv hcl ?_
      have hP : va_P D vwCl [] H_1 := fun k q h => by simp at h
      have hD : va_D A [] := ⟨fun i j p q h => by simp at h, fun k q h => by simp at h⟩
      refine W.widen (k := 4) (n := 24) (Nat.le_of_ble_eq_true rfl) (Nat.le_of_ble_eq_true rfl) ?_
      refine lv_astore (lv' := [(4, .ref q9), (0, .ref x), (1, .int a0), (2, .int a1), (3, .ref ou)]) hx hb dL_contained_20 hl (by decide) rfl (fun ls hl => ?_)
      refine lv_iconst (v := 1) hx hb dL_contained_22 (by decide) ?_
      have hP9 := hP.sub (ws' := []) [] rfl
      have hD9 := hD.sub (ws' := []) [] (by decide) rfl
      refine W.widen (k := 4) (n := 24) (Nat.le_of_ble_eq_true rfl) (Nat.le_of_ble_eq_true rfl) ?_
      exact vx_ret (W.iret (v := 1) hx hb hr (fun t ht hW => ⟨⟨1, (), rfl, Or.inr (Or.inl ⟨rfl, c_3, c_4⟩), by rw [ht]; exact hP9, hD9⟩, hS.F ht⟩) hS.2.2 dL_contained_23)
    · have c_5 : 0 ≤ a0.toInt := e_0
      have c_6 : a0.toInt < 6 := e_1
      have c_7 : a1.toInt < 0 := e_2
      refine vx_catch hown (tableOf []) ⟨0, 17, 20, 20⟩ (tableOf [(0, 17, 24, 15)]) (by rw [htab]; rfl) (xpass0) (by decide) (by decide) w_1 (va_Nw.use rfl hV.2.2.2.2.2.1.2.2) hq9 hcv hcl ?_
      have hP : va_P D vwCl [] H_1 := fun k q h => by simp at h
      have hD : va_D A [] := ⟨fun i j p q h => by simp at h, fun k q h => by simp at h⟩
      refine W.widen (k := 4) (n := 24) (Nat.le_of_ble_eq_true rfl) (Nat.le_of_ble_eq_true rfl) ?_
      refine lv_astore (lv' := [(4, .ref q9), (0, .ref x), (1, .int a0), (2, .int a1), (3, .ref ou)]) hx hb dL_contained_20 hl (by decide) rfl (fun ls hl => ?_)
      refine lv_iconst (v := 1) hx hb dL_contained_22 (by decide) ?_
      have hP9 := hP.sub (ws' := []) [] rfl
      have hD9 := hD.sub (ws' := []) [] (by decide) rfl
      refine W.widen (k := 4) (n := 24) (Nat.le_of_ble_eq_true rfl) (Nat.le_of_ble_eq_true rfl) ?_
      exact vx_ret (W.iret (v := 1) hx hb hr (fun t ht hW => ⟨⟨1, (), rfl, Or.inr (Or.inr (Or.inl ⟨rfl, c_5, c_6, c_7⟩)), by rw [ht]; exact hP9, hD9⟩, hS.F ht⟩) hS.2.2 dL_contained_23)
    · have c_8 : 0 ≤ a0.toInt := e_0
      have c_9 : a0.toInt < 6 := e_1
      have c_10 : 0 ≤ a1.toInt := e_2
      have c_11 : 6 ≤ a1.toInt := e_3
      refine vx_catch hown (tableOf []) ⟨0, 17, 20, 20⟩ (tableOf [(0, 17, 24, 15)]) (by rw [htab]; rfl) (xpass0) (by decide) (by decide) w_1 (va_Nw.use rfl hV.2.2.2.2.2.1.2.2) hq9 hcv hcl ?_
      have hP : va_P D vwCl [] H_1 := fun k q h => by simp at h
      have hD : va_D A [] := ⟨fun i j p q h => by simp at h, fun k q h => by simp at h⟩
      refine W.widen (k := 4) (n := 24) (Nat.le_of_ble_eq_true rfl) (Nat.le_of_ble_eq_true rfl) ?_
      refine lv_astore (lv' := [(4, .ref q9), (0, .ref x), (1, .int a0), (2, .int a1), (3, .ref ou)]) hx hb dL_contained_20 hl (by decide) rfl (fun ls hl => ?_)
      refine lv_iconst (v := 1) hx hb dL_contained_22 (by decide) ?_
      have hP9 := hP.sub (ws' := []) [] rfl
      have hD9 := hD.sub (ws' := []) [] (by decide) rfl
      refine W.widen (k := 4) (n := 24) (Nat.le_of_ble_eq_true rfl) (Nat.le_of_ble_eq_true rfl) ?_
      exact vx_ret (W.iret (v := 1) hx hb hr (fun t ht hW => ⟨⟨1, (), rfl, Or.inr (Or.inr (Or.inr (Or.inl ⟨rfl, c_8, c_9, c_10, c_11⟩))), by rw [ht]; exact hP9, hD9⟩, hS.F ht⟩) hS.2.2 dL_contained_23)
    · have c_12 : 0 ≤ a0.toInt := e_0
      have c_13 : a0.toInt < 6 := e_1
      have c_14 : 0 ≤ a1.toInt := e_2
      have c_15 : a1.toInt < 6 := e_3
      have c_16 : 0 ≤ a0.toInt := e_4
      have c_17 : a0.toInt < 6 := e_5
      refine vx_catch hown (tableOf [(0, 17, 20, 20)]) ⟨0, 17, 24, 15⟩ (tableOf []) (by rw [htab]; rfl) (xpass1 (Or.inr ⟨by decide, iob, w_1, hV.2.2.2.2.2.2.1.1⟩)) (by decide) (by decide) w_2 (va_Nw.use rfl hV.2.2.2.2.2.1.2.1) hq9 hcv hcl ?_
      have hP : va_P D vwCl [] H_1 := fun k q h => by simp at h
      have hD : va_D A [] := ⟨fun i j p q h => by simp at h, fun k q h => by simp at h⟩
      refine W.widen (k := 4) (n := 24) (Nat.le_of_ble_eq_true rfl) (Nat.le_of_ble_eq_true rfl) ?_
      refine lv_astore (lv' := [(4, .ref q9), (0, .ref x), (1, .int a0), (2, .int a1), (3, .ref ou)]) hx hb dL_contained_24 hl (by decide) rfl (fun ls hl => ?_)
      refine lv_iconst (v := 2) hx hb dL_contained_26 (by decide) ?_
      have hP9 := hP.sub (ws' := []) [] rfl
      have hD9 := hD.sub (ws' := []) [] (by decide) rfl
      refine W.widen (k := 4) (n := 24) (Nat.le_of_ble_eq_true rfl) (Nat.le_of_ble_eq_true rfl) ?_
      exact vx_ret (W.iret (v := 2) hx hb hr (fun t ht hW => ⟨⟨2, (), rfl, Or.inr (Or.inr (Or.inr (Or.inr ⟨rfl, c_12, c_13, c_14, c_15, c_16, c_17⟩))), by rw [ht]; exact hP9, hD9⟩, hS.F ht⟩) hS.2.2 dL_contained_27)
  · exact hw.elim
def wk_L_disjoint : List Cond := .codeWith yL_disjoint cL_disjoint 4 (some .int) [(0, 16, 19, 20), (0, 16, 22, 15)] :: (([.classLink RL 20 iob, .classLink RL 15 ise, .methodLink RL 87 yX10_disjoint, .instanceMethod yX10_disjoint, .selects RX10 yX10_disjoint yX10_disjoint, .initialized RX10, .code yX10_disjoint cX10_disjoint 6 (some .boolean), .methodLink RX10 153 yX10_tableIn, .instanceMethod yX10_tableIn, .selects RX10 yX10_tableIn yX10_tableIn, .code yX10_tableIn cX10_tableIn 2 (some (.object "DocumentSpanner$SortedInts")), .fieldLink RX10 12 "DocumentSpanner" "state" "LDocumentSpanner$State;", .fieldLink RX10 96 "DocumentSpanner$State" "filled" "[Z", .classLink RX10 80 ise, .initialized ise, .methodLink RX10 138 yX10_checkSlot, .static yX10_checkSlot, .code yX10_checkSlot cX10_checkSlot 1 none, .classLink RX10 91 iob, .initialized iob] : List Cond) ++ wsX100 ++ wsX80 ++ (vx_atS RX10 84 ise ["java/lang/RuntimeException", "java/lang/Exception"]).filter goodWord ++ (vx_atS RX10 95 iob ["java/lang/RuntimeException", "java/lang/Exception"]).filter goodWord)
set_option maxRecDepth 20000 in
theorem ggk_L_disjoint_X10_disjoint : GoodIn wk_L_disjoint wk_X10_disjoint := goodIn_ca (goodIn_ca (goodIn_ca (goodIn_ca (goodIn_r _ [7, 8, 9, 10, 6, 11, 12, 13, 14, 15, 16, 17, 18, 19, 20] (by decide +kernel) (by decide +kernel)) (goodIn_sub (fun _ h => List.mem_cons_of_mem _ (List.mem_append_left _ (List.mem_append_left _ (List.mem_append_left _ (List.mem_append_right _ h))))) (by decide +kernel))) (goodIn_sub (fun _ h => List.mem_cons_of_mem _ (List.mem_append_left _ (List.mem_append_left _ (List.mem_append_right _ h)))) (by decide +kernel))) (goodIn_sub (fun _ h => List.mem_cons_of_mem _ (List.mem_append_left _ (List.mem_append_right _ h))) (by decide +kernel))) (goodIn_sub (fun _ h => List.mem_cons_of_mem _ (List.mem_append_right _ h)) (by decide +kernel))
set_option maxRecDepth 20000 in
theorem gk_L_disjoint_X10_disjoint : GoodIn wk_L_disjoint (wsV RL 87 RX10 yX10_disjoint wk_X10_disjoint) := goodIn_app (goodIn_r _ [3, 4, 5, 6] (by decide +kernel) (by decide +kernel)) ggk_L_disjoint_X10_disjoint
set_option maxHeartbeats 4000000 in
set_option maxRecDepth 100000 in
theorem k_L_disjoint (l : Launch) (htr : l.stackTraces = false) (D : va_G) (cI cJ cZ : ClassId) (x : Nat) (st : Nat) (kp : Nat) (bf : Nat) (o1 : Nat) (o2 : Nat) (o3 : Nat) (o4 : Nat) (o5 : Nat) (o6 : Nat) (lt : Nat) (tb : Nat) (fl : Nat) (wt : Nat) (ou : Nat) (a0 : Int32) (sz : Nat) : vx_Met l yL_disjoint wk_L_disjoint ({ frames := 9, cells := 2, slots := 12, locals := 148 }) (xPc D cI cJ cZ [.ref x, .int a0, .ref ou] [(x, .inr (9, [.ref st, .ref kp, .int 0, .ref bf, .int 0, .int (-1), .int (-1), .int 0, .ref o1, .ref o2, .ref o3, .ref o4, .ref o5, .ref o6])), (st, .inr (8, [.ref lt, .ref tb, .ref fl, .ref wt, .int 0, .null])), (fl, .inl (cZ, 6, .inl (fun _ => 0))), (ou, .inl (cJ, 1, .inr (.inl (fun _ => 0))))] sz) (va_Qi (fun (r : Int32) (u : Unit) => (r = 1 ∧ a0.toInt < 0) ∨ (r = 1 ∧ 0 ≤ a0.toInt ∧ 6 ≤ a0.toInt) ∨ (r = 2 ∧ 0 ≤ a0.toInt ∧ a0.toInt < 6)) (fun (u : Unit) (t : State) => va_P D vwCl ([] : va_W) t.heap ∧ va_D (va_A [(x, .inr (9, [.ref st, .ref kp, .int 0, .ref bf, .int 0, .int (-1), .int (-1), .int 0, .ref o1, .ref o2, .ref o3, .ref o4, .ref o5, .ref o6])), (st, .inr (8, [.ref lt, .ref tb, .ref fl, .ref wt, .int 0, .null])), (fl, .inl (cZ, 6, .inl (fun _ => 0))), (ou, .inl (cJ, 1, .inr (.inl (fun _ => 0))))] sz) ([] : va_W)) (va_A [(x, .inr (9, [.ref st, .ref kp, .int 0, .ref bf, .int 0, .int (-1), .int (-1), .int 0, .ref o1, .ref o2, .ref o3, .ref o4, .ref o5, .ref o6])), (st, .inr (8, [.ref lt, .ref tb, .ref fl, .ref wt, .int 0, .null])), (fl, .inl (cZ, 6, .inl (fun _ => 0))), (ou, .inl (cJ, 1, .inr (.inl (fun _ => 0))))] sz)) (vx_X (fun _ : Unit => True) (fun (E : String) (_ : Unit) (_ : State) => False) (va_A [(x, .inr (9, [.ref st, .ref kp, .int 0, .ref bf, .int 0, .int (-1), .int (-1), .int 0, .ref o1, .ref o2, .ref o3, .ref o4, .ref o5, .ref o6])), (st, .inr (8, [.ref lt, .ref tb, .ref fl, .ref wt, .int 0, .null])), (fl, .inl (cZ, 6, .inl (fun _ => 0))), (ou, .inl (cJ, 1, .inr (.inl (fun _ => 0))))] sz)) 2 12 (va_A [(x, .inr (9, [.ref st, .ref kp, .int 0, .ref bf, .int 0, .int (-1), .int (-1), .int 0, .ref o1, .ref o2, .ref o3, .ref o4, .ref o5, .ref o6])), (st, .inr (8, [.ref lt, .ref tb, .ref fl, .ref wt, .int 0, .null])), (fl, .inl (cZ, 6, .inl (fun _ => 0))), (ou, .inl (cJ, 1, .inr (.inl (fun _ => 0))))] sz) := by
  refine vx_ofWH (cc := cL_disjoint) (maxL := 4) (ret := (some .int)) (by decide) rfl ?_
  intro p e s m args below meth c s₁ B hml hv
  obtain ⟨rfl, hsz, hP, hK, hD0, hE, hV⟩ := hv
  have hx := B.exec
  have hb := B.bytes
  have hr := B.returns
  have hts := atoms_spec (ws := wk_L_disjoint) B.pre
  have hown : s.vm.findClass RL = some m.cls := findClass_of_methodNamed B.named
  have hlocks := B.notSynchronized
  have htab : c.exceptionTable.toList = tableOf [(0, 16, 19, 20), (0, 16, 22, 15)] := vx_table (x := yL_disjoint) B (hts _ List.mem_cons_self)
  have w_1 := hts (.classLink RL 20 iob) (List.mem_of_getElem? (i := 1) rfl)
  have w_2 := hts (.classLink RL 15 ise) (List.mem_of_getElem? (i := 2) rfl)
  subst hsz
  have hD := hD0.self (sz := s.heap.size)
  generalize hAe : va_A [(x, .inr (9, [.ref st, .ref kp, .int 0, .ref bf, .int 0, .int (-1), .int (-1), .int 0, .ref o1, .ref o2, .ref o3, .ref o4, .ref o5, .ref o6])), (st, .inr (8, [.ref lt, .ref tb, .ref fl, .ref wt, .int 0, .null])), (fl, .inl (cZ, 6, .inl (fun _ => 0))), (ou, .inl (cJ, 1, .inr (.inl (fun _ => 0))))] s.heap.size = A at hD hE ⊢
  have hA : ∀ q : Nat, s.heap.size ≤ q → A q := fun q h => by rw [← hAe]; exact Or.inr h
  have hS : va_S A s.heap s.heap [] := va_S.rf
  have hP : va_P D vwCl [(x, .inr (9, [.ref st, .ref kp, .int 0, .ref bf, .int 0, .int (-1), .int (-1), .int 0, .ref o1, .ref o2, .ref o3, .ref o4, .ref o5, .ref o6])), (st, .inr (8, [.ref lt, .ref tb, .ref fl, .ref wt, .int 0, .null])), (fl, .inl (cZ, 6, .inl (fun _ => 0))), (ou, .inl (cJ, 1, .inr (.inl (fun _ => 0))))] s.heap := hP
  have hl := lv_entry ([.ref x, .int a0, .ref ou]) (n := 4) (Nat.le_of_ble_eq_true rfl)
  rw [lg_entry_eq]
  generalize (lg_sl ([.ref x, .int a0, .ref ou]) ++ List.replicate (4 - (lg_sl ([.ref x, .int a0, .ref ou])).length) Slot.unset).toArray = ls at hl ⊢
  have hl : lv_has ls 4 [(0, .ref x), (1, .int a0), (2, .ref ou)] := hl
  refine lv_aload_n hx hb dL_disjoint_0 rfl (lv_at hl 2 rfl) ?_
  refine lv_iconst (v := 0) hx hb dL_disjoint_1 (by decide) ?_
  refine lv_aload_n hx hb dL_disjoint_2 rfl (lv_at hl 0 rfl) ?_
  refine lv_iload_n hx hb dL_disjoint_3 rfl (lv_at hl 1 rfl) ?_
  have hPc := hP.sub (ws' := [(x, .inr (9, [.ref st, .ref kp, .int 0, .ref bf, .int 0, .int (-1), .int (-1), .int 0, .ref o1, .ref o2, .ref o3, .ref o4, .ref o5, .ref o6])), (st, .inr (8, [.ref lt, .ref tb, .ref fl, .ref wt, .int 0, .null])), (fl, .inl (cZ, 6, .inl (fun _ => 0)))]) [0, 1, 2] rfl
  have hDc := hD.sub (ws' := [(x, .inr (9, [.ref st, .ref kp, .int 0, .ref bf, .int 0, .int (-1), .int (-1), .int 0, .ref o1, .ref o2, .ref o3, .ref o4, .ref o5, .ref o6])), (st, .inr (8, [.ref lt, .ref tb, .ref fl, .ref wt, .int 0, .null])), (fl, .inl (cZ, 6, .inl (fun _ => 0)))]) [0, 1, 2] (by decide) rfl
  have hFc := va_free (wc := [(x, .inr (9, [.ref st, .ref kp, .int 0, .ref bf, .int 0, .int (-1), .int (-1), .int 0, .ref o1, .ref o2, .ref o3, .ref o4, .ref o5, .ref o6])), (st, .inr (8, [.ref lt, .ref tb, .ref fl, .ref wt, .int 0, .null])), (fl, .inl (cZ, 6, .inl (fun _ => 0)))]) hD hS hA [0, 1, 2] rfl
  refine vx_calli (vx_runV (As := [.int a0]) (rest := [.int 0, .ref ou]) ⟨hx, hb, hml, hown, hts⟩ (k_X10_disjoint l htr D cI cJ cZ x st kp bf o1 o2 o3 o4 o5 o6 lt tb fl wt a0 s.heap.size) (cwV 1 hts gk_L_disjoint_X10_disjoint rfl rfl rfl (by decide +kernel) ⟨Nat.le_of_ble_eq_true rfl, Nat.le_of_ble_eq_true rfl⟩) ⟨xPc_blind, va_recv hK hP (ci := 9) (q0 := 0) rfl rfl, xPc_pre hPc hK hDc hE hS hFc hV⟩ rfl rfl hl.1 rfl (lv_room (Nat.le_of_ble_eq_true rfl)) dL_disjoint_4 ⟨Nat.le_of_ble_eq_true rfl, Nat.le_of_ble_eq_true rfl⟩) hS (fun q _ h => hFc q h) hFc (fun q _ h => hFc q h) (fun E ce q9 u t H_1 locs ht hvm hpx hBX hz1 hk1 hS hq9 hcv hcl => ?_) (fun r u t H_1 locs ht hvm hw hB hz1 hk1 hS => ?_)
  · rcases hBX with ⟨rfl, e_0⟩ | ⟨rfl, e_0, e_1⟩ | ⟨rfl, e_0, e_1⟩
    · have c_2 : a0.toInt < 0 := e_0
      refine vx_catch hown (tableOf []) ⟨0, 16, 19, 20⟩ (tableOf [(0, 16, 22, 15)]) (by rw [htab]; rfl) (xpass0) (by decide) (by decide) w_1 (va_Nw.use rfl hV.2.2.2.2.2.1.2.2) hq9 hcv hcl ?_
      have hP : va_P D vwCl [] H_1 := fun k q h => by simp at h
      have hD : va_D A [] := ⟨fun i j p q h => by simp at h, fun k q h => by simp at h⟩
      refine W.widen (k := 2) (n := 12) (Nat.le_of_ble_eq_true rfl) (Nat.le_of_ble_eq_true rfl) ?_
      refine lv_astore_n (lv' := [(3, .ref q9), (0, .ref x), (1, .int a0), (2, .ref ou)]) hx hb dL_disjoint_19 rfl hl (by decide) rfl (fun ls hl => ?_)
      refine lv_iconst (v := 1) hx hb dL_disjoint_20 (by decide) ?_
      have hP9 := hP.sub (ws' := []) [] rfl
      have hD9 := hD.sub (ws' := []) [] (by decide) rfl
      refine W.widen (k := 2) (n := 12) (Nat.le_of_ble_eq_true rfl) (Nat.le_of_ble_eq_true rfl) ?_
      exact vx_ret (W.iret (v := 1) hx hb hr (fun t ht hW => ⟨⟨1, (), rfl, Or.inl ⟨rfl, c_2⟩, by rw [ht]; exact hP9, hD9⟩, hS.F ht⟩) hS.2.2 dL_disjoint_21)
    · have c_3 : 0 ≤ a0.toInt := e_0
      have c_4 : 6 ≤ a0.toInt := e_1
      refine vx_catch hown (tableOf []) ⟨0, 16, 19, 20⟩ (tableOf [(0, 16, 22, 15)]) (by rw [htab]; rfl) (xpass0) (by decide) (by decide) w_1 (va_Nw.use rfl hV.2.2.2.2.2.1.2.2) hq9 hcv hcl ?_
      have hP : va_P D vwCl [] H_1 := fun k q h => by simp at h
      have hD : va_D A [] := ⟨fun i j p q h => by simp at h, fun k q h => by simp at h⟩
      refine W.widen (k := 2) (n := 12) (Nat.le_of_ble_eq_true rfl) (Nat.le_of_ble_eq_true rfl) ?_
      refine lv_astore_n (lv' := [(3, .ref q9), (0, .ref x), (1, .int a0), (2, .ref ou)]) hx hb dL_disjoint_19 rfl hl (by decide) rfl (fun ls hl => ?_)
      refine lv_iconst (v := 1) hx hb dL_disjoint_20 (by decide) ?_
      have hP9 := hP.sub (ws' := []) [] rfl
      have hD9 := hD.sub (ws' := []) [] (by decide) rfl
      refine W.widen (k := 2) (n := 12) (Nat.le_of_ble_eq_true rfl) (Nat.le_of_ble_eq_true rfl) ?_
      exact vx_ret (W.iret (v := 1) hx hb hr (fun t ht hW => ⟨⟨1, (), rfl, Or.inr (Or.inl ⟨rfl, c_3, c_4⟩), by rw [ht]; exact hP9, hD9⟩, hS.F ht⟩) hS.2.2 dL_disjoint_21)
    · have c_5 : 0 ≤ a0.toInt := e_0
      have c_6 : a0.toInt < 6 := e_1
      refine vx_catch hown (tableOf [(0, 16, 19, 20)]) ⟨0, 16, 22, 15⟩ (tableOf []) (by rw [htab]; rfl) (xpass1 (Or.inr ⟨by decide, iob, w_1, hV.2.2.2.2.2.2.1.1⟩)) (by decide) (by decide) w_2 (va_Nw.use rfl hV.2.2.2.2.2.1.2.1) hq9 hcv hcl ?_
      have hP : va_P D vwCl [] H_1 := fun k q h => by simp at h
      have hD : va_D A [] := ⟨fun i j p q h => by simp at h, fun k q h => by simp at h⟩
      refine W.widen (k := 2) (n := 12) (Nat.le_of_ble_eq_true rfl) (Nat.le_of_ble_eq_true rfl) ?_
      refine lv_astore_n (lv' := [(3, .ref q9), (0, .ref x), (1, .int a0), (2, .ref ou)]) hx hb dL_disjoint_22 rfl hl (by decide) rfl (fun ls hl => ?_)
      refine lv_iconst (v := 2) hx hb dL_disjoint_23 (by decide) ?_
      have hP9 := hP.sub (ws' := []) [] rfl
      have hD9 := hD.sub (ws' := []) [] (by decide) rfl
      refine W.widen (k := 2) (n := 12) (Nat.le_of_ble_eq_true rfl) (Nat.le_of_ble_eq_true rfl) ?_
      exact vx_ret (W.iret (v := 2) hx hb hr (fun t ht hW => ⟨⟨2, (), rfl, Or.inr (Or.inr ⟨rfl, c_5, c_6⟩), by rw [ht]; exact hP9, hD9⟩, hS.F ht⟩) hS.2.2 dL_disjoint_24)
  · exact hw.elim
def wk_L_extractSplit : List Cond := .codeWith yL_extractSplit cL_extractSplit 5 (some .int) [(0, 10, 13, 20), (0, 10, 17, 15)] :: (([.classLink RL 20 iob, .classLink RL 15 ise, .methodLink RL 91 yX10_extractSplit, .instanceMethod yX10_extractSplit, .selects RX10 yX10_extractSplit yX10_extractSplit, .initialized RX10, .code yX10_extractSplit cX10_extractSplit 5 (some .int), .methodLink RX10 138 yX10_checkSlot, .static yX10_checkSlot, .code yX10_checkSlot cX10_checkSlot 1 none, .classLink RX10 91 iob, .initialized iob, .methodLink RX10 153 yX10_tableIn, .instanceMethod yX10_tableIn, .selects RX10 yX10_tableIn yX10_tableIn, .code yX10_tableIn cX10_tableIn 2 (some (.object "DocumentSpanner$SortedInts")), .fieldLink RX10 12 "DocumentSpanner" "state" "LDocumentSpanner$State;", .fieldLink RX10 96 "DocumentSpanner$State" "filled" "[Z", .classLink RX10 80 ise, .initialized ise] : List Cond) ++ wsX100 ++ wsX80 ++ (vx_atS RX10 84 ise ["java/lang/RuntimeException", "java/lang/Exception"]).filter goodWord ++ (vx_atS RX10 95 iob ["java/lang/RuntimeException", "java/lang/Exception"]).filter goodWord)
set_option maxRecDepth 20000 in
theorem ggk_L_extractSplit_X10_extractSplit : GoodIn wk_L_extractSplit wk_X10_extractSplit := goodIn_ca (goodIn_ca (goodIn_ca (goodIn_ca (goodIn_r _ [7, 8, 9, 6, 10, 11, 12, 13, 14, 15, 16, 17, 18, 19, 20] (by decide +kernel) (by decide +kernel)) (goodIn_sub (fun _ h => List.mem_cons_of_mem _ (List.mem_append_left _ (List.mem_append_left _ (List.mem_append_left _ (List.mem_append_right _ h))))) (by decide +kernel))) (goodIn_sub (fun _ h => List.mem_cons_of_mem _ (List.mem_append_left _ (List.mem_append_left _ (List.mem_append_right _ h)))) (by decide +kernel))) (goodIn_sub (fun _ h => List.mem_cons_of_mem _ (List.mem_append_left _ (List.mem_append_right _ h))) (by decide +kernel))) (goodIn_sub (fun _ h => List.mem_cons_of_mem _ (List.mem_append_right _ h)) (by decide +kernel))
set_option maxRecDepth 20000 in
theorem gk_L_extractSplit_X10_extractSplit : GoodIn wk_L_extractSplit (wsV RL 91 RX10 yX10_extractSplit wk_X10_extractSplit) := goodIn_app (goodIn_r _ [3, 4, 5, 6] (by decide +kernel) (by decide +kernel)) ggk_L_extractSplit_X10_extractSplit
set_option maxHeartbeats 4000000 in
set_option maxRecDepth 100000 in
theorem k_L_extractSplit (l : Launch) (htr : l.stackTraces = false) (D : va_G) (cI cJ cZ : ClassId) (x : Nat) (st : Nat) (kp : Nat) (bf : Nat) (o1 : Nat) (o2 : Nat) (o3 : Nat) (o4 : Nat) (o5 : Nat) (o6 : Nat) (lt : Nat) (tb : Nat) (fl : Nat) (wt : Nat) (ou : Nat) (a0 : Int32) (a1 : Int32) (sz : Nat) : vx_Met l yL_extractSplit wk_L_extractSplit ({ frames := 9, cells := 4, slots := 24, locals := 147 }) (xPc D cI cJ cZ [.ref x, .int a0, .int a1, .ref ou] [(x, .inr (9, [.ref st, .ref kp, .int 0, .ref bf, .int 0, .int (-1), .int (-1), .int 0, .ref o1, .ref o2, .ref o3, .ref o4, .ref o5, .ref o6])), (st, .inr (8, [.ref lt, .ref tb, .ref fl, .ref wt, .int 0, .null])), (fl, .inl (cZ, 6, .inl (fun _ => 0))), (ou, .inl (cJ, 1, .inr (.inl (fun _ => 0))))] sz) (va_Qi (fun (r : Int32) (u : Unit) => (r = 1 ∧ a0.toInt < 0) ∨ (r = 1 ∧ 0 ≤ a0.toInt ∧ 6 ≤ a0.toInt) ∨ (r = 1 ∧ 0 ≤ a0.toInt ∧ a0.toInt < 6 ∧ a1.toInt < 0) ∨ (r = 1 ∧ 0 ≤ a0.toInt ∧ a0.toInt < 6 ∧ 0 ≤ a1.toInt ∧ 6 ≤ a1.toInt) ∨ (r = 2 ∧ 0 ≤ a0.toInt ∧ a0.toInt < 6 ∧ 0 ≤ a1.toInt ∧ a1.toInt < 6 ∧ 0 ≤ a0.toInt ∧ a0.toInt < 6)) (fun (u : Unit) (t : State) => va_P D vwCl ([] : va_W) t.heap ∧ va_D (va_A [(x, .inr (9, [.ref st, .ref kp, .int 0, .ref bf, .int 0, .int (-1), .int (-1), .int 0, .ref o1, .ref o2, .ref o3, .ref o4, .ref o5, .ref o6])), (st, .inr (8, [.ref lt, .ref tb, .ref fl, .ref wt, .int 0, .null])), (fl, .inl (cZ, 6, .inl (fun _ => 0))), (ou, .inl (cJ, 1, .inr (.inl (fun _ => 0))))] sz) ([] : va_W)) (va_A [(x, .inr (9, [.ref st, .ref kp, .int 0, .ref bf, .int 0, .int (-1), .int (-1), .int 0, .ref o1, .ref o2, .ref o3, .ref o4, .ref o5, .ref o6])), (st, .inr (8, [.ref lt, .ref tb, .ref fl, .ref wt, .int 0, .null])), (fl, .inl (cZ, 6, .inl (fun _ => 0))), (ou, .inl (cJ, 1, .inr (.inl (fun _ => 0))))] sz)) (vx_X (fun _ : Unit => True) (fun (E : String) (_ : Unit) (_ : State) => False) (va_A [(x, .inr (9, [.ref st, .ref kp, .int 0, .ref bf, .int 0, .int (-1), .int (-1), .int 0, .ref o1, .ref o2, .ref o3, .ref o4, .ref o5, .ref o6])), (st, .inr (8, [.ref lt, .ref tb, .ref fl, .ref wt, .int 0, .null])), (fl, .inl (cZ, 6, .inl (fun _ => 0))), (ou, .inl (cJ, 1, .inr (.inl (fun _ => 0))))] sz)) 4 24 (va_A [(x, .inr (9, [.ref st, .ref kp, .int 0, .ref bf, .int 0, .int (-1), .int (-1), .int 0, .ref o1, .ref o2, .ref o3, .ref o4, .ref o5, .ref o6])), (st, .inr (8, [.ref lt, .ref tb, .ref fl, .ref wt, .int 0, .null])), (fl, .inl (cZ, 6, .inl (fun _ => 0))), (ou, .inl (cJ, 1, .inr (.inl (fun _ => 0))))] sz) := by
  refine vx_ofWH (cc := cL_extractSplit) (maxL := 5) (ret := (some .int)) (by decide) rfl ?_
  intro p e s m args below meth c s₁ B hml hv
  obtain ⟨rfl, hsz, hP, hK, hD0, hE, hV⟩ := hv
  have hx := B.exec
  have hb := B.bytes
  have hr := B.returns
  have hts := atoms_spec (ws := wk_L_extractSplit) B.pre
  have hown : s.vm.findClass RL = some m.cls := findClass_of_methodNamed B.named
  have hlocks := B.notSynchronized
  have htab : c.exceptionTable.toList = tableOf [(0, 10, 13, 20), (0, 10, 17, 15)] := vx_table (x := yL_extractSplit) B (hts _ List.mem_cons_self)
  have w_1 := hts (.classLink RL 20 iob) (List.mem_of_getElem? (i := 1) rfl)
  have w_2 := hts (.classLink RL 15 ise) (List.mem_of_getElem? (i := 2) rfl)
  subst hsz
  have hD := hD0.self (sz := s.heap.size)
  generalize hAe : va_A [(x, .inr (9, [.ref st, .ref kp, .int 0, .ref bf, .int 0, .int (-1), .int (-1), .int 0, .ref o1, .ref o2, .ref o3, .ref o4, .ref o5, .ref o6])), (st, .inr (8, [.ref lt, .ref tb, .ref fl, .ref wt, .int 0, .null])), (fl, .inl (cZ, 6, .inl (fun _ => 0))), (ou, .inl (cJ, 1, .inr (.inl (fun _ => 0))))] s.heap.size = A at hD hE ⊢
  have hA : ∀ q : Nat, s.heap.size ≤ q → A q := fun q h => by rw [← hAe]; exact Or.inr h
  have hS : va_S A s.heap s.heap [] := va_S.rf
  have hP : va_P D vwCl [(x, .inr (9, [.ref st, .ref kp, .int 0, .ref bf, .int 0, .int (-1), .int (-1), .int 0, .ref o1, .ref o2, .ref o3, .ref o4, .ref o5, .ref o6])), (st, .inr (8, [.ref lt, .ref tb, .ref fl, .ref wt, .int 0, .null])), (fl, .inl (cZ, 6, .inl (fun _ => 0))), (ou, .inl (cJ, 1, .inr (.inl (fun _ => 0))))] s.heap := hP
  have hl := lv_entry ([.ref x, .int a0, .int a1, .ref ou]) (n := 5) (Nat.le_of_ble_eq_true rfl)
  rw [lg_entry_eq]
  generalize (lg_sl ([.ref x, .int a0, .int a1, .ref ou]) ++ List.replicate (5 - (lg_sl ([.ref x, .int a0, .int a1, .ref ou])).length) Slot.unset).toArray = ls at hl ⊢
  have hl : lv_has ls 5 [(0, .ref x), (1, .int a0), (2, .int a1), (3, .ref ou)] := hl
  refine lv_aload_n hx hb dL_extractSplit_0 rfl (lv_at hl 3 rfl) ?_
  refine lv_iconst (v := 0) hx hb dL_extractSplit_1 (by decide) ?_
  refine lv_aload_n hx hb dL_extractSplit_2 rfl (lv_at hl 0 rfl) ?_
  refine lv_iload_n hx hb dL_extractSplit_3 rfl (lv_at hl 1 rfl) ?_
  refine lv_iload_n hx hb dL_extractSplit_4 rfl (lv_at hl 2 rfl) ?_
  have hPc := hP.sub (ws' := [(x, .inr (9, [.ref st, .ref kp, .int 0, .ref bf, .int 0, .int (-1), .int (-1), .int 0, .ref o1, .ref o2, .ref o3, .ref o4, .ref o5, .ref o6])), (st, .inr (8, [.ref lt, .ref tb, .ref fl, .ref wt, .int 0, .null])), (fl, .inl (cZ, 6, .inl (fun _ => 0)))]) [0, 1, 2] rfl
  have hDc := hD.sub (ws' := [(x, .inr (9, [.ref st, .ref kp, .int 0, .ref bf, .int 0, .int (-1), .int (-1), .int 0, .ref o1, .ref o2, .ref o3, .ref o4, .ref o5, .ref o6])), (st, .inr (8, [.ref lt, .ref tb, .ref fl, .ref wt, .int 0, .null])), (fl, .inl (cZ, 6, .inl (fun _ => 0)))]) [0, 1, 2] (by decide) rfl
  have hFc := va_free (wc := [(x, .inr (9, [.ref st, .ref kp, .int 0, .ref bf, .int 0, .int (-1), .int (-1), .int 0, .ref o1, .ref o2, .ref o3, .ref o4, .ref o5, .ref o6])), (st, .inr (8, [.ref lt, .ref tb, .ref fl, .ref wt, .int 0, .null])), (fl, .inl (cZ, 6, .inl (fun _ => 0)))]) hD hS hA [0, 1, 2] rfl
  refine vx_calli (vx_runV (As := [.int a0, .int a1]) (rest := [.int 0, .ref ou]) ⟨hx, hb, hml, hown, hts⟩ (k_X10_extractSplit l htr D cI cJ cZ x st kp bf o1 o2 o3 o4 o5 o6 lt tb fl wt a0 a1 s.heap.size) (cwV 2 hts gk_L_extractSplit_X10_extractSplit rfl rfl rfl (by decide +kernel) ⟨Nat.le_of_ble_eq_true rfl, Nat.le_of_ble_eq_true rfl⟩) ⟨xPc_blind, va_recv hK hP (ci := 9) (q0 := 0) rfl rfl, xPc_pre hPc hK hDc hE hS hFc hV⟩ rfl rfl hl.1 rfl (lv_room (Nat.le_of_ble_eq_true rfl)) dL_extractSplit_5 ⟨Nat.le_of_ble_eq_true rfl, Nat.le_of_ble_eq_true rfl⟩) hS (fun q _ h => hFc q h) hFc (fun q _ h => hFc q h) (fun E ce q9 u t H_1 locs ht hvm hpx hBX hz1 hk1 hS hq9 hcv hcl => ?_) (fun r u t H_1 locs ht hvm hw hB hz1 hk1 hS => ?_)
  · rcases hBX with ⟨rfl, e_0⟩ | ⟨rfl, e_0, e_1⟩ | ⟨rfl, e_0, e_1, e_2⟩ | ⟨rfl, e_0, e_1, e_2, e_3⟩ | ⟨rfl, e_0, e_1, e_2, e_3, e_4, e_5⟩
    · have c_2 : a0.toInt < 0 := e_0
      refine vx_catch hown (tableOf []) ⟨0, 10, 13, 20⟩ (tableOf [(0, 10, 17, 15)]) (by rw [htab]; rfl) (xpass0) (by decide) (by decide) w_1 (va_Nw.use rfl hV.2.2.2.2.2.1.2.2) hq9 hcv hcl ?_
      have hP : va_P D vwCl [] H_1 := fun k q h => by simp at h
      have hD : va_D A [] := ⟨fun i j p q h => by simp at h, fun k q h => by simp at h⟩
      refine W.widen (k := 4) (n := 24) (Nat.le_of_ble_eq_true rfl) (Nat.le_of_ble_eq_true rfl) ?_
      refine lv_astore (lv' := [(4, .ref q9), (0, .ref x), (1, .int a0), (2, .int a1), (3, .ref ou)]) hx hb dL_extractSplit_13 hl (by decide) rfl (fun ls hl => ?_)
      refine lv_iconst (v := 1) hx hb dL_extractSplit_15 (by decide) ?_
      have hP9 := hP.sub (ws' := []) [] rfl
      have hD9 := hD.sub (ws' := []) [] (by decide) rfl
      refine W.widen (k := 4) (n := 24) (Nat.le_of_ble_eq_true rfl) (Nat.le_of_ble_eq_true rfl) ?_
      exact vx_ret (W.iret (v := 1) hx hb hr (fun t ht hW => ⟨⟨1, (), rfl, Or.inl ⟨rfl, c_2⟩, by rw [ht]; exact hP9, hD9⟩, hS.F ht⟩) hS.2.2 dL_extractSplit_16)
    · have c_3 : 0 ≤ a0.toInt := e_0
      have c_4 : 6 ≤ a0.toInt := e_1
      refine vx_catch hown (tableOf []) ⟨0, 10, 13, 20⟩ (tableOf [(0, 10, 17, 15)]) (by rw [htab]; rfl) (xpass0) (by decide) (by decide) w_1 (va_Nw.use rfl hV.2.2.2.2.2.1.2.2) hq9 hcv hcl ?_
      have hP : va_P D vwCl [] H_1 := fun k q h => by simp at h
      have hD : va_D A [] := ⟨fun i j p q h => by simp at h, fun k q h => by simp at h⟩
      refine W.widen (k := 4) (n := 24) (Nat.le_of_ble_eq_true rfl) (Nat.le_of_ble_eq_true rfl) ?_
      refine lv_astore (lv' := [(4, .ref q9), (0, .ref x), (1, .int a0), (2, .int a1), (3, .ref ou)]) hx hb dL_extractSplit_13 hl (by decide) rfl (fun ls hl => ?_)
      refine lv_iconst (v := 1) hx hb dL_extractSplit_15 (by decide) ?_
      have hP9 := hP.sub (ws' := []) [] rfl
      have hD9 := hD.sub (ws' := []) [] (by decide) rfl
      refine W.widen (k := 4) (n := 24) (Nat.le_of_ble_eq_true rfl) (Nat.le_of_ble_eq_true rfl) ?_
      exact vx_ret (W.iret (v := 1) hx hb hr (fun t ht hW => ⟨⟨1, (), rfl, Or.inr (Or.inl ⟨rfl, c_3, c_4⟩), by rw [ht]; exact hP9, hD9⟩, hS.F ht⟩) hS.2.2 dL_extractSplit_16)
    · have c_5 : 0 ≤ a0.toInt := e_0
      have c_6 : a0.toInt < 6 := e_1
      have c_7 : a1.toInt < 0 := e_2
      refine vx_catch hown (tableOf []) ⟨0, 10, 13, 20⟩ (tableOf [(0, 10, 17, 15)]) (by rw [htab]; rfl) (xpass0) (by decide) (by decide) w_1 (va_Nw.use rfl hV.2.2.2.2.2.1.2.2) hq9 hcv hcl ?_
      have hP : va_P D vwCl [] H_1 := fun k q h => by simp at h
      have hD : va_D A [] := ⟨fun i j p q h => by simp at h, fun k q h => by simp at h⟩
      refine W.widen (k := 4) (n := 24) (Nat.le_of_ble_eq_true rfl) (Nat.le_of_ble_eq_true rfl) ?_
      refine lv_astore (lv' := [(4, .ref q9), (0, .ref x), (1, .int a0), (2, .int a1), (3, .ref ou)]) hx hb dL_extractSplit_13 hl (by decide) rfl (fun ls hl => ?_)
      refine lv_iconst (v := 1) hx hb dL_extractSplit_15 (by decide) ?_
      have hP9 := hP.sub (ws' := []) [] rfl
      have hD9 := hD.sub (ws' := []) [] (by decide) rfl
      refine W.widen (k := 4) (n := 24) (Nat.le_of_ble_eq_true rfl) (Nat.le_of_ble_eq_true rfl) ?_
      exact vx_ret (W.iret (v := 1) hx hb hr (fun t ht hW => ⟨⟨1, (), rfl, Or.inr (Or.inr (Or.inl ⟨rfl, c_5, c_6, c_7⟩)), by rw [ht]; exact hP9, hD9⟩, hS.F ht⟩) hS.2.2 dL_extractSplit_16)
    · have c_8 : 0 ≤ a0.toInt := e_0
      have c_9 : a0.toInt < 6 := e_1
      have c_10 : 0 ≤ a1.toInt := e_2
      have c_11 : 6 ≤ a1.toInt := e_3
      refine vx_catch hown (tableOf []) ⟨0, 10, 13, 20⟩ (tableOf [(0, 10, 17, 15)]) (by rw [htab]; rfl) (xpass0) (by decide) (by decide) w_1 (va_Nw.use rfl hV.2.2.2.2.2.1.2.2) hq9 hcv hcl ?_
      have hP : va_P D vwCl [] H_1 := fun k q h => by simp at h
      have hD : va_D A [] := ⟨fun i j p q h => by simp at h, fun k q h => by simp at h⟩
      refine W.widen (k := 4) (n := 24) (Nat.le_of_ble_eq_true rfl) (Nat.le_of_ble_eq_true rfl) ?_
      refine lv_astore (lv' := [(4, .ref q9), (0, .ref x), (1, .int a0), (2, .int a1), (3, .ref ou)]) hx hb dL_extractSplit_13 hl (by decide) rfl (fun ls hl => ?_)
      refine lv_iconst (v := 1) hx hb dL_extractSplit_15 (by decide) ?_
      have hP9 := hP.sub (ws' := []) [] rfl
      have hD9 := hD.sub (ws' := []) [] (by decide) rfl
      refine W.widen (k := 4) (n := 24) (Nat.le_of_ble_eq_true rfl) (Nat.le_of_ble_eq_true rfl) ?_
      exact vx_ret (W.iret (v := 1) hx hb hr (fun t ht hW => ⟨⟨1, (), rfl, Or.inr (Or.inr (Or.inr (Or.inl ⟨rfl, c_8, c_9, c_10, c_11⟩))), by rw [ht]; exact hP9, hD9⟩, hS.F ht⟩) hS.2.2 dL_extractSplit_16)
    · have c_12 : 0 ≤ a0.toInt := e_0
      have c_13 : a0.toInt < 6 := e_1
      have c_14 : 0 ≤ a1.toInt := e_2
      have c_15 : a1.toInt < 6 := e_3
      have c_16 : 0 ≤ a0.toInt := e_4
      have c_17 : a0.toInt < 6 := e_5
      refine vx_catch hown (tableOf [(0, 10, 13, 20)]) ⟨0, 10, 17, 15⟩ (tableOf []) (by rw [htab]; rfl) (xpass1 (Or.inr ⟨by decide, iob, w_1, hV.2.2.2.2.2.2.1.1⟩)) (by decide) (by decide) w_2 (va_Nw.use rfl hV.2.2.2.2.2.1.2.1) hq9 hcv hcl ?_
      have hP : va_P D vwCl [] H_1 := fun k q h => by simp at h
      have hD : va_D A [] := ⟨fun i j p q h => by simp at h, fun k q h => by simp at h⟩
      refine W.widen (k := 4) (n := 24) (Nat.le_of_ble_eq_true rfl) (Nat.le_of_ble_eq_true rfl) ?_
      refine lv_astore (lv' := [(4, .ref q9), (0, .ref x), (1, .int a0), (2, .int a1), (3, .ref ou)]) hx hb dL_extractSplit_17 hl (by decide) rfl (fun ls hl => ?_)
      refine lv_iconst (v := 2) hx hb dL_extractSplit_19 (by decide) ?_
      have hP9 := hP.sub (ws' := []) [] rfl
      have hD9 := hD.sub (ws' := []) [] (by decide) rfl
      refine W.widen (k := 4) (n := 24) (Nat.le_of_ble_eq_true rfl) (Nat.le_of_ble_eq_true rfl) ?_
      exact vx_ret (W.iret (v := 2) hx hb hr (fun t ht hW => ⟨⟨2, (), rfl, Or.inr (Or.inr (Or.inr (Or.inr ⟨rfl, c_12, c_13, c_14, c_15, c_16, c_17⟩))), by rw [ht]; exact hP9, hD9⟩, hS.F ht⟩) hS.2.2 dL_extractSplit_20)
  · exact hw.elim
def wk_L_splitCorrect : List Cond := .codeWith yL_splitCorrect cL_splitCorrect 4 (some .int) [(0, 16, 19, 20), (0, 16, 22, 15)] :: (([.classLink RL 20 iob, .classLink RL 15 ise, .methodLink RL 95 yX10_splitCorrect, .instanceMethod yX10_splitCorrect, .selects RX10 yX10_splitCorrect yX10_splitCorrect, .initialized RX10, .code yX10_splitCorrect cX10_splitCorrect 4 (some .boolean), .methodLink RX10 153 yX10_tableIn, .instanceMethod yX10_tableIn, .selects RX10 yX10_tableIn yX10_tableIn, .code yX10_tableIn cX10_tableIn 2 (some (.object "DocumentSpanner$SortedInts")), .fieldLink RX10 12 "DocumentSpanner" "state" "LDocumentSpanner$State;", .fieldLink RX10 96 "DocumentSpanner$State" "filled" "[Z", .classLink RX10 80 ise, .initialized ise, .methodLink RX10 138 yX10_checkSlot, .static yX10_checkSlot, .code yX10_checkSlot cX10_checkSlot 1 none, .classLink RX10 91 iob, .initialized iob] : List Cond) ++ wsX100 ++ wsX80 ++ (vx_atS RX10 84 ise ["java/lang/RuntimeException", "java/lang/Exception"]).filter goodWord ++ (vx_atS RX10 95 iob ["java/lang/RuntimeException", "java/lang/Exception"]).filter goodWord)
set_option maxRecDepth 20000 in
theorem ggk_L_splitCorrect_X10_splitCorrect : GoodIn wk_L_splitCorrect wk_X10_splitCorrect := goodIn_ca (goodIn_ca (goodIn_ca (goodIn_ca (goodIn_r _ [7, 8, 9, 10, 6, 11, 12, 13, 14, 15, 16, 17, 18, 19, 20] (by decide +kernel) (by decide +kernel)) (goodIn_sub (fun _ h => List.mem_cons_of_mem _ (List.mem_append_left _ (List.mem_append_left _ (List.mem_append_left _ (List.mem_append_right _ h))))) (by decide +kernel))) (goodIn_sub (fun _ h => List.mem_cons_of_mem _ (List.mem_append_left _ (List.mem_append_left _ (List.mem_append_right _ h)))) (by decide +kernel))) (goodIn_sub (fun _ h => List.mem_cons_of_mem _ (List.mem_append_left _ (List.mem_append_right _ h))) (by decide +kernel))) (goodIn_sub (fun _ h => List.mem_cons_of_mem _ (List.mem_append_right _ h)) (by decide +kernel))
set_option maxRecDepth 20000 in
theorem gk_L_splitCorrect_X10_splitCorrect : GoodIn wk_L_splitCorrect (wsV RL 95 RX10 yX10_splitCorrect wk_X10_splitCorrect) := goodIn_app (goodIn_r _ [3, 4, 5, 6] (by decide +kernel) (by decide +kernel)) ggk_L_splitCorrect_X10_splitCorrect
set_option maxHeartbeats 4000000 in
set_option maxRecDepth 100000 in
theorem k_L_splitCorrect (l : Launch) (htr : l.stackTraces = false) (D : va_G) (cI cJ cZ : ClassId) (x : Nat) (st : Nat) (kp : Nat) (bf : Nat) (o1 : Nat) (o2 : Nat) (o3 : Nat) (o4 : Nat) (o5 : Nat) (o6 : Nat) (lt : Nat) (tb : Nat) (fl : Nat) (wt : Nat) (ou : Nat) (a0 : Int32) (sz : Nat) : vx_Met l yL_splitCorrect wk_L_splitCorrect ({ frames := 9, cells := 2, slots := 12, locals := 146 }) (xPc D cI cJ cZ [.ref x, .int a0, .ref ou] [(x, .inr (9, [.ref st, .ref kp, .int 0, .ref bf, .int 0, .int (-1), .int (-1), .int 0, .ref o1, .ref o2, .ref o3, .ref o4, .ref o5, .ref o6])), (st, .inr (8, [.ref lt, .ref tb, .ref fl, .ref wt, .int 0, .null])), (fl, .inl (cZ, 6, .inl (fun _ => 0))), (ou, .inl (cJ, 1, .inr (.inl (fun _ => 0))))] sz) (va_Qi (fun (r : Int32) (u : Unit) => (r = 1 ∧ a0.toInt < 0) ∨ (r = 1 ∧ 0 ≤ a0.toInt ∧ 6 ≤ a0.toInt) ∨ (r = 2 ∧ 0 ≤ a0.toInt ∧ a0.toInt < 6)) (fun (u : Unit) (t : State) => va_P D vwCl ([] : va_W) t.heap ∧ va_D (va_A [(x, .inr (9, [.ref st, .ref kp, .int 0, .ref bf, .int 0, .int (-1), .int (-1), .int 0, .ref o1, .ref o2, .ref o3, .ref o4, .ref o5, .ref o6])), (st, .inr (8, [.ref lt, .ref tb, .ref fl, .ref wt, .int 0, .null])), (fl, .inl (cZ, 6, .inl (fun _ => 0))), (ou, .inl (cJ, 1, .inr (.inl (fun _ => 0))))] sz) ([] : va_W)) (va_A [(x, .inr (9, [.ref st, .ref kp, .int 0, .ref bf, .int 0, .int (-1), .int (-1), .int 0, .ref o1, .ref o2, .ref o3, .ref o4, .ref o5, .ref o6])), (st, .inr (8, [.ref lt, .ref tb, .ref fl, .ref wt, .int 0, .null])), (fl, .inl (cZ, 6, .inl (fun _ => 0))), (ou, .inl (cJ, 1, .inr (.inl (fun _ => 0))))] sz)) (vx_X (fun _ : Unit => True) (fun (E : String) (_ : Unit) (_ : State) => False) (va_A [(x, .inr (9, [.ref st, .ref kp, .int 0, .ref bf, .int 0, .int (-1), .int (-1), .int 0, .ref o1, .ref o2, .ref o3, .ref o4, .ref o5, .ref o6])), (st, .inr (8, [.ref lt, .ref tb, .ref fl, .ref wt, .int 0, .null])), (fl, .inl (cZ, 6, .inl (fun _ => 0))), (ou, .inl (cJ, 1, .inr (.inl (fun _ => 0))))] sz)) 2 12 (va_A [(x, .inr (9, [.ref st, .ref kp, .int 0, .ref bf, .int 0, .int (-1), .int (-1), .int 0, .ref o1, .ref o2, .ref o3, .ref o4, .ref o5, .ref o6])), (st, .inr (8, [.ref lt, .ref tb, .ref fl, .ref wt, .int 0, .null])), (fl, .inl (cZ, 6, .inl (fun _ => 0))), (ou, .inl (cJ, 1, .inr (.inl (fun _ => 0))))] sz) := by
  refine vx_ofWH (cc := cL_splitCorrect) (maxL := 4) (ret := (some .int)) (by decide) rfl ?_
  intro p e s m args below meth c s₁ B hml hv
  obtain ⟨rfl, hsz, hP, hK, hD0, hE, hV⟩ := hv
  have hx := B.exec
  have hb := B.bytes
  have hr := B.returns
  have hts := atoms_spec (ws := wk_L_splitCorrect) B.pre
  have hown : s.vm.findClass RL = some m.cls := findClass_of_methodNamed B.named
  have hlocks := B.notSynchronized
  have htab : c.exceptionTable.toList = tableOf [(0, 16, 19, 20), (0, 16, 22, 15)] := vx_table (x := yL_splitCorrect) B (hts _ List.mem_cons_self)
  have w_1 := hts (.classLink RL 20 iob) (List.mem_of_getElem? (i := 1) rfl)
  have w_2 := hts (.classLink RL 15 ise) (List.mem_of_getElem? (i := 2) rfl)
  subst hsz
  have hD := hD0.self (sz := s.heap.size)
  generalize hAe : va_A [(x, .inr (9, [.ref st, .ref kp, .int 0, .ref bf, .int 0, .int (-1), .int (-1), .int 0, .ref o1, .ref o2, .ref o3, .ref o4, .ref o5, .ref o6])), (st, .inr (8, [.ref lt, .ref tb, .ref fl, .ref wt, .int 0, .null])), (fl, .inl (cZ, 6, .inl (fun _ => 0))), (ou, .inl (cJ, 1, .inr (.inl (fun _ => 0))))] s.heap.size = A at hD hE ⊢
  have hA : ∀ q : Nat, s.heap.size ≤ q → A q := fun q h => by rw [← hAe]; exact Or.inr h
  have hS : va_S A s.heap s.heap [] := va_S.rf
  have hP : va_P D vwCl [(x, .inr (9, [.ref st, .ref kp, .int 0, .ref bf, .int 0, .int (-1), .int (-1), .int 0, .ref o1, .ref o2, .ref o3, .ref o4, .ref o5, .ref o6])), (st, .inr (8, [.ref lt, .ref tb, .ref fl, .ref wt, .int 0, .null])), (fl, .inl (cZ, 6, .inl (fun _ => 0))), (ou, .inl (cJ, 1, .inr (.inl (fun _ => 0))))] s.heap := hP
  have hl := lv_entry ([.ref x, .int a0, .ref ou]) (n := 4) (Nat.le_of_ble_eq_true rfl)
  rw [lg_entry_eq]
  generalize (lg_sl ([.ref x, .int a0, .ref ou]) ++ List.replicate (4 - (lg_sl ([.ref x, .int a0, .ref ou])).length) Slot.unset).toArray = ls at hl ⊢
  have hl : lv_has ls 4 [(0, .ref x), (1, .int a0), (2, .ref ou)] := hl
  refine lv_aload_n hx hb dL_splitCorrect_0 rfl (lv_at hl 2 rfl) ?_
  refine lv_iconst (v := 0) hx hb dL_splitCorrect_1 (by decide) ?_
  refine lv_aload_n hx hb dL_splitCorrect_2 rfl (lv_at hl 0 rfl) ?_
  refine lv_iload_n hx hb dL_splitCorrect_3 rfl (lv_at hl 1 rfl) ?_
  have hPc := hP.sub (ws' := [(x, .inr (9, [.ref st, .ref kp, .int 0, .ref bf, .int 0, .int (-1), .int (-1), .int 0, .ref o1, .ref o2, .ref o3, .ref o4, .ref o5, .ref o6])), (st, .inr (8, [.ref lt, .ref tb, .ref fl, .ref wt, .int 0, .null])), (fl, .inl (cZ, 6, .inl (fun _ => 0)))]) [0, 1, 2] rfl
  have hDc := hD.sub (ws' := [(x, .inr (9, [.ref st, .ref kp, .int 0, .ref bf, .int 0, .int (-1), .int (-1), .int 0, .ref o1, .ref o2, .ref o3, .ref o4, .ref o5, .ref o6])), (st, .inr (8, [.ref lt, .ref tb, .ref fl, .ref wt, .int 0, .null])), (fl, .inl (cZ, 6, .inl (fun _ => 0)))]) [0, 1, 2] (by decide) rfl
  have hFc := va_free (wc := [(x, .inr (9, [.ref st, .ref kp, .int 0, .ref bf, .int 0, .int (-1), .int (-1), .int 0, .ref o1, .ref o2, .ref o3, .ref o4, .ref o5, .ref o6])), (st, .inr (8, [.ref lt, .ref tb, .ref fl, .ref wt, .int 0, .null])), (fl, .inl (cZ, 6, .inl (fun _ => 0)))]) hD hS hA [0, 1, 2] rfl
  refine vx_calli (vx_runV (As := [.int a0]) (rest := [.int 0, .ref ou]) ⟨hx, hb, hml, hown, hts⟩ (k_X10_splitCorrect l htr D cI cJ cZ x st kp bf o1 o2 o3 o4 o5 o6 lt tb fl wt a0 s.heap.size) (cwV 1 hts gk_L_splitCorrect_X10_splitCorrect rfl rfl rfl (by decide +kernel) ⟨Nat.le_of_ble_eq_true rfl, Nat.le_of_ble_eq_true rfl⟩) ⟨xPc_blind, va_recv hK hP (ci := 9) (q0 := 0) rfl rfl, xPc_pre hPc hK hDc hE hS hFc hV⟩ rfl rfl hl.1 rfl (lv_room (Nat.le_of_ble_eq_true rfl)) dL_splitCorrect_4 ⟨Nat.le_of_ble_eq_true rfl, Nat.le_of_ble_eq_true rfl⟩) hS (fun q _ h => hFc q h) hFc (fun q _ h => hFc q h) (fun E ce q9 u t H_1 locs ht hvm hpx hBX hz1 hk1 hS hq9 hcv hcl => ?_) (fun r u t H_1 locs ht hvm hw hB hz1 hk1 hS => ?_)
  · rcases hBX with ⟨rfl, e_0⟩ | ⟨rfl, e_0, e_1⟩ | ⟨rfl, e_0, e_1⟩
    · have c_2 : a0.toInt < 0 := e_0
      refine vx_catch hown (tableOf []) ⟨0, 16, 19, 20⟩ (tableOf [(0, 16, 22, 15)]) (by rw [htab]; rfl) (xpass0) (by decide) (by decide) w_1 (va_Nw.use rfl hV.2.2.2.2.2.1.2.2) hq9 hcv hcl ?_
      have hP : va_P D vwCl [] H_1 := fun k q h => by simp at h
      have hD : va_D A [] := ⟨fun i j p q h => by simp at h, fun k q h => by simp at h⟩
      refine W.widen (k := 2) (n := 12) (Nat.le_of_ble_eq_true rfl) (Nat.le_of_ble_eq_true rfl) ?_
      refine lv_astore_n (lv' := [(3, .ref q9), (0, .ref x), (1, .int a0), (2, .ref ou)]) hx hb dL_splitCorrect_19 rfl hl (by decide) rfl (fun ls hl => ?_)
      refine lv_iconst (v := 1) hx hb dL_splitCorrect_20 (by decide) ?_
      have hP9 := hP.sub (ws' := []) [] rfl
      have hD9 := hD.sub (ws' := []) [] (by decide) rfl
      refine W.widen (k := 2) (n := 12) (Nat.le_of_ble_eq_true rfl) (Nat.le_of_ble_eq_true rfl) ?_
      exact vx_ret (W.iret (v := 1) hx hb hr (fun t ht hW => ⟨⟨1, (), rfl, Or.inl ⟨rfl, c_2⟩, by rw [ht]; exact hP9, hD9⟩, hS.F ht⟩) hS.2.2 dL_splitCorrect_21)
    · have c_3 : 0 ≤ a0.toInt := e_0
      have c_4 : 6 ≤ a0.toInt := e_1
      refine vx_catch hown (tableOf []) ⟨0, 16, 19, 20⟩ (tableOf [(0, 16, 22, 15)]) (by rw [htab]; rfl) (xpass0) (by decide) (by decide) w_1 (va_Nw.use rfl hV.2.2.2.2.2.1.2.2) hq9 hcv hcl ?_
      have hP : va_P D vwCl [] H_1 := fun k q h => by simp at h
      have hD : va_D A [] := ⟨fun i j p q h => by simp at h, fun k q h => by simp at h⟩
      refine W.widen (k := 2) (n := 12) (Nat.le_of_ble_eq_true rfl) (Nat.le_of_ble_eq_true rfl) ?_
      refine lv_astore_n (lv' := [(3, .ref q9), (0, .ref x), (1, .int a0), (2, .ref ou)]) hx hb dL_splitCorrect_19 rfl hl (by decide) rfl (fun ls hl => ?_)
      refine lv_iconst (v := 1) hx hb dL_splitCorrect_20 (by decide) ?_
      have hP9 := hP.sub (ws' := []) [] rfl
      have hD9 := hD.sub (ws' := []) [] (by decide) rfl
      refine W.widen (k := 2) (n := 12) (Nat.le_of_ble_eq_true rfl) (Nat.le_of_ble_eq_true rfl) ?_
      exact vx_ret (W.iret (v := 1) hx hb hr (fun t ht hW => ⟨⟨1, (), rfl, Or.inr (Or.inl ⟨rfl, c_3, c_4⟩), by rw [ht]; exact hP9, hD9⟩, hS.F ht⟩) hS.2.2 dL_splitCorrect_21)
    · have c_5 : 0 ≤ a0.toInt := e_0
      have c_6 : a0.toInt < 6 := e_1
      refine vx_catch hown (tableOf [(0, 16, 19, 20)]) ⟨0, 16, 22, 15⟩ (tableOf []) (by rw [htab]; rfl) (xpass1 (Or.inr ⟨by decide, iob, w_1, hV.2.2.2.2.2.2.1.1⟩)) (by decide) (by decide) w_2 (va_Nw.use rfl hV.2.2.2.2.2.1.2.1) hq9 hcv hcl ?_
      have hP : va_P D vwCl [] H_1 := fun k q h => by simp at h
      have hD : va_D A [] := ⟨fun i j p q h => by simp at h, fun k q h => by simp at h⟩
      refine W.widen (k := 2) (n := 12) (Nat.le_of_ble_eq_true rfl) (Nat.le_of_ble_eq_true rfl) ?_
      refine lv_astore_n (lv' := [(3, .ref q9), (0, .ref x), (1, .int a0), (2, .ref ou)]) hx hb dL_splitCorrect_22 rfl hl (by decide) rfl (fun ls hl => ?_)
      refine lv_iconst (v := 2) hx hb dL_splitCorrect_23 (by decide) ?_
      have hP9 := hP.sub (ws' := []) [] rfl
      have hD9 := hD.sub (ws' := []) [] (by decide) rfl
      refine W.widen (k := 2) (n := 12) (Nat.le_of_ble_eq_true rfl) (Nat.le_of_ble_eq_true rfl) ?_
      exact vx_ret (W.iret (v := 2) hx hb hr (fun t ht hW => ⟨⟨2, (), rfl, Or.inr (Or.inr ⟨rfl, c_5, c_6⟩), by rw [ht]; exact hP9, hD9⟩, hS.F ht⟩) hS.2.2 dL_splitCorrect_24)
  · exact hw.elim
def wk_L_openCursor : List Cond := .codeWith yL_openCursor cL_openCursor 4 (some .int) [(0, 9, 12, 20), (0, 9, 15, 15)] :: (([.classLink RL 20 iob, .classLink RL 15 ise, .methodLink RL 98 yX10_openCursor, .instanceMethod yX10_openCursor, .selects RX10 yX10_openCursor yX10_openCursor, .initialized RX10, .code yX10_openCursor cX10_openCursor 3 (some .int), .methodLink RX10 153 yX10_tableIn, .instanceMethod yX10_tableIn, .selects RX10 yX10_tableIn yX10_tableIn, .code yX10_tableIn cX10_tableIn 2 (some (.object "DocumentSpanner$SortedInts")), .fieldLink RX10 12 "DocumentSpanner" "state" "LDocumentSpanner$State;", .fieldLink RX10 96 "DocumentSpanner$State" "filled" "[Z", .classLink RX10 80 ise, .initialized ise, .methodLink RX10 138 yX10_checkSlot, .static yX10_checkSlot, .code yX10_checkSlot cX10_checkSlot 1 none, .classLink RX10 91 iob, .initialized iob] : List Cond) ++ wsX100 ++ wsX80 ++ (vx_atS RX10 84 ise ["java/lang/RuntimeException", "java/lang/Exception"]).filter goodWord ++ (vx_atS RX10 95 iob ["java/lang/RuntimeException", "java/lang/Exception"]).filter goodWord)
set_option maxRecDepth 20000 in
theorem ggk_L_openCursor_X10_openCursor : GoodIn wk_L_openCursor wk_X10_openCursor := goodIn_ca (goodIn_ca (goodIn_ca (goodIn_ca (goodIn_r _ [7, 8, 9, 10, 6, 11, 12, 13, 14, 15, 16, 17, 18, 19, 20] (by decide +kernel) (by decide +kernel)) (goodIn_sub (fun _ h => List.mem_cons_of_mem _ (List.mem_append_left _ (List.mem_append_left _ (List.mem_append_left _ (List.mem_append_right _ h))))) (by decide +kernel))) (goodIn_sub (fun _ h => List.mem_cons_of_mem _ (List.mem_append_left _ (List.mem_append_left _ (List.mem_append_right _ h)))) (by decide +kernel))) (goodIn_sub (fun _ h => List.mem_cons_of_mem _ (List.mem_append_left _ (List.mem_append_right _ h))) (by decide +kernel))) (goodIn_sub (fun _ h => List.mem_cons_of_mem _ (List.mem_append_right _ h)) (by decide +kernel))
set_option maxRecDepth 20000 in
theorem gk_L_openCursor_X10_openCursor : GoodIn wk_L_openCursor (wsV RL 98 RX10 yX10_openCursor wk_X10_openCursor) := goodIn_app (goodIn_r _ [3, 4, 5, 6] (by decide +kernel) (by decide +kernel)) ggk_L_openCursor_X10_openCursor
set_option maxHeartbeats 4000000 in
set_option maxRecDepth 100000 in
theorem k_L_openCursor (l : Launch) (htr : l.stackTraces = false) (D : va_G) (cI cJ cZ : ClassId) (x : Nat) (st : Nat) (kp : Nat) (bf : Nat) (o1 : Nat) (o2 : Nat) (o3 : Nat) (o4 : Nat) (o5 : Nat) (o6 : Nat) (lt : Nat) (tb : Nat) (fl : Nat) (wt : Nat) (ou : Nat) (a0 : Int32) (sz : Nat) : vx_Met l yL_openCursor wk_L_openCursor ({ frames := 9, cells := 2, slots := 12, locals := 145 }) (xPc D cI cJ cZ [.ref x, .int a0, .ref ou] [(x, .inr (9, [.ref st, .ref kp, .int 0, .ref bf, .int 0, .int (-1), .int (-1), .int 0, .ref o1, .ref o2, .ref o3, .ref o4, .ref o5, .ref o6])), (st, .inr (8, [.ref lt, .ref tb, .ref fl, .ref wt, .int 0, .null])), (fl, .inl (cZ, 6, .inl (fun _ => 0))), (ou, .inl (cJ, 1, .inr (.inl (fun _ => 0))))] sz) (va_Qi (fun (r : Int32) (u : Unit) => (r = 1 ∧ a0.toInt < 0) ∨ (r = 1 ∧ 0 ≤ a0.toInt ∧ 6 ≤ a0.toInt) ∨ (r = 2 ∧ 0 ≤ a0.toInt ∧ a0.toInt < 6)) (fun (u : Unit) (t : State) => va_P D vwCl ([] : va_W) t.heap ∧ va_D (va_A [(x, .inr (9, [.ref st, .ref kp, .int 0, .ref bf, .int 0, .int (-1), .int (-1), .int 0, .ref o1, .ref o2, .ref o3, .ref o4, .ref o5, .ref o6])), (st, .inr (8, [.ref lt, .ref tb, .ref fl, .ref wt, .int 0, .null])), (fl, .inl (cZ, 6, .inl (fun _ => 0))), (ou, .inl (cJ, 1, .inr (.inl (fun _ => 0))))] sz) ([] : va_W)) (va_A [(x, .inr (9, [.ref st, .ref kp, .int 0, .ref bf, .int 0, .int (-1), .int (-1), .int 0, .ref o1, .ref o2, .ref o3, .ref o4, .ref o5, .ref o6])), (st, .inr (8, [.ref lt, .ref tb, .ref fl, .ref wt, .int 0, .null])), (fl, .inl (cZ, 6, .inl (fun _ => 0))), (ou, .inl (cJ, 1, .inr (.inl (fun _ => 0))))] sz)) (vx_X (fun _ : Unit => True) (fun (E : String) (_ : Unit) (_ : State) => False) (va_A [(x, .inr (9, [.ref st, .ref kp, .int 0, .ref bf, .int 0, .int (-1), .int (-1), .int 0, .ref o1, .ref o2, .ref o3, .ref o4, .ref o5, .ref o6])), (st, .inr (8, [.ref lt, .ref tb, .ref fl, .ref wt, .int 0, .null])), (fl, .inl (cZ, 6, .inl (fun _ => 0))), (ou, .inl (cJ, 1, .inr (.inl (fun _ => 0))))] sz)) 2 12 (va_A [(x, .inr (9, [.ref st, .ref kp, .int 0, .ref bf, .int 0, .int (-1), .int (-1), .int 0, .ref o1, .ref o2, .ref o3, .ref o4, .ref o5, .ref o6])), (st, .inr (8, [.ref lt, .ref tb, .ref fl, .ref wt, .int 0, .null])), (fl, .inl (cZ, 6, .inl (fun _ => 0))), (ou, .inl (cJ, 1, .inr (.inl (fun _ => 0))))] sz) := by
  refine vx_ofWH (cc := cL_openCursor) (maxL := 4) (ret := (some .int)) (by decide) rfl ?_
  intro p e s m args below meth c s₁ B hml hv
  obtain ⟨rfl, hsz, hP, hK, hD0, hE, hV⟩ := hv
  have hx := B.exec
  have hb := B.bytes
  have hr := B.returns
  have hts := atoms_spec (ws := wk_L_openCursor) B.pre
  have hown : s.vm.findClass RL = some m.cls := findClass_of_methodNamed B.named
  have hlocks := B.notSynchronized
  have htab : c.exceptionTable.toList = tableOf [(0, 9, 12, 20), (0, 9, 15, 15)] := vx_table (x := yL_openCursor) B (hts _ List.mem_cons_self)
  have w_1 := hts (.classLink RL 20 iob) (List.mem_of_getElem? (i := 1) rfl)
  have w_2 := hts (.classLink RL 15 ise) (List.mem_of_getElem? (i := 2) rfl)
  subst hsz
  have hD := hD0.self (sz := s.heap.size)
  generalize hAe : va_A [(x, .inr (9, [.ref st, .ref kp, .int 0, .ref bf, .int 0, .int (-1), .int (-1), .int 0, .ref o1, .ref o2, .ref o3, .ref o4, .ref o5, .ref o6])), (st, .inr (8, [.ref lt, .ref tb, .ref fl, .ref wt, .int 0, .null])), (fl, .inl (cZ, 6, .inl (fun _ => 0))), (ou, .inl (cJ, 1, .inr (.inl (fun _ => 0))))] s.heap.size = A at hD hE ⊢
  have hA : ∀ q : Nat, s.heap.size ≤ q → A q := fun q h => by rw [← hAe]; exact Or.inr h
  have hS : va_S A s.heap s.heap [] := va_S.rf
  have hP : va_P D vwCl [(x, .inr (9, [.ref st, .ref kp, .int 0, .ref bf, .int 0, .int (-1), .int (-1), .int 0, .ref o1, .ref o2, .ref o3, .ref o4, .ref o5, .ref o6])), (st, .inr (8, [.ref lt, .ref tb, .ref fl, .ref wt, .int 0, .null])), (fl, .inl (cZ, 6, .inl (fun _ => 0))), (ou, .inl (cJ, 1, .inr (.inl (fun _ => 0))))] s.heap := hP
  have hl := lv_entry ([.ref x, .int a0, .ref ou]) (n := 4) (Nat.le_of_ble_eq_true rfl)
  rw [lg_entry_eq]
  generalize (lg_sl ([.ref x, .int a0, .ref ou]) ++ List.replicate (4 - (lg_sl ([.ref x, .int a0, .ref ou])).length) Slot.unset).toArray = ls at hl ⊢
  have hl : lv_has ls 4 [(0, .ref x), (1, .int a0), (2, .ref ou)] := hl
  refine lv_aload_n hx hb dL_openCursor_0 rfl (lv_at hl 2 rfl) ?_
  refine lv_iconst (v := 0) hx hb dL_openCursor_1 (by decide) ?_
  refine lv_aload_n hx hb dL_openCursor_2 rfl (lv_at hl 0 rfl) ?_
  refine lv_iload_n hx hb dL_openCursor_3 rfl (lv_at hl 1 rfl) ?_
  have hPc := hP.sub (ws' := [(x, .inr (9, [.ref st, .ref kp, .int 0, .ref bf, .int 0, .int (-1), .int (-1), .int 0, .ref o1, .ref o2, .ref o3, .ref o4, .ref o5, .ref o6])), (st, .inr (8, [.ref lt, .ref tb, .ref fl, .ref wt, .int 0, .null])), (fl, .inl (cZ, 6, .inl (fun _ => 0)))]) [0, 1, 2] rfl
  have hDc := hD.sub (ws' := [(x, .inr (9, [.ref st, .ref kp, .int 0, .ref bf, .int 0, .int (-1), .int (-1), .int 0, .ref o1, .ref o2, .ref o3, .ref o4, .ref o5, .ref o6])), (st, .inr (8, [.ref lt, .ref tb, .ref fl, .ref wt, .int 0, .null])), (fl, .inl (cZ, 6, .inl (fun _ => 0)))]) [0, 1, 2] (by decide) rfl
  have hFc := va_free (wc := [(x, .inr (9, [.ref st, .ref kp, .int 0, .ref bf, .int 0, .int (-1), .int (-1), .int 0, .ref o1, .ref o2, .ref o3, .ref o4, .ref o5, .ref o6])), (st, .inr (8, [.ref lt, .ref tb, .ref fl, .ref wt, .int 0, .null])), (fl, .inl (cZ, 6, .inl (fun _ => 0)))]) hD hS hA [0, 1, 2] rfl
  refine vx_calli (vx_runV (As := [.int a0]) (rest := [.int 0, .ref ou]) ⟨hx, hb, hml, hown, hts⟩ (k_X10_openCursor l htr D cI cJ cZ x st kp bf o1 o2 o3 o4 o5 o6 lt tb fl wt a0 s.heap.size) (cwV 1 hts gk_L_openCursor_X10_openCursor rfl rfl rfl (by decide +kernel) ⟨Nat.le_of_ble_eq_true rfl, Nat.le_of_ble_eq_true rfl⟩) ⟨xPc_blind, va_recv hK hP (ci := 9) (q0 := 0) rfl rfl, xPc_pre hPc hK hDc hE hS hFc hV⟩ rfl rfl hl.1 rfl (lv_room (Nat.le_of_ble_eq_true rfl)) dL_openCursor_4 ⟨Nat.le_of_ble_eq_true rfl, Nat.le_of_ble_eq_true rfl⟩) hS (fun q _ h => hFc q h) hFc (fun q _ h => hFc q h) (fun E ce q9 u t H_1 locs ht hvm hpx hBX hz1 hk1 hS hq9 hcv hcl => ?_) (fun r u t H_1 locs ht hvm hw hB hz1 hk1 hS => ?_)
  · rcases hBX with ⟨rfl, e_0⟩ | ⟨rfl, e_0, e_1⟩ | ⟨rfl, e_0, e_1⟩
    · have c_2 : a0.toInt < 0 := e_0
      refine vx_catch hown (tableOf []) ⟨0, 9, 12, 20⟩ (tableOf [(0, 9, 15, 15)]) (by rw [htab]; rfl) (xpass0) (by decide) (by decide) w_1 (va_Nw.use rfl hV.2.2.2.2.2.1.2.2) hq9 hcv hcl ?_
      have hP : va_P D vwCl [] H_1 := fun k q h => by simp at h
      have hD : va_D A [] := ⟨fun i j p q h => by simp at h, fun k q h => by simp at h⟩
      refine W.widen (k := 2) (n := 12) (Nat.le_of_ble_eq_true rfl) (Nat.le_of_ble_eq_true rfl) ?_
      refine lv_astore_n (lv' := [(3, .ref q9), (0, .ref x), (1, .int a0), (2, .ref ou)]) hx hb dL_openCursor_12 rfl hl (by decide) rfl (fun ls hl => ?_)
      refine lv_iconst (v := 1) hx hb dL_openCursor_13 (by decide) ?_
      have hP9 := hP.sub (ws' := []) [] rfl
      have hD9 := hD.sub (ws' := []) [] (by decide) rfl
      refine W.widen (k := 2) (n := 12) (Nat.le_of_ble_eq_true rfl) (Nat.le_of_ble_eq_true rfl) ?_
      exact vx_ret (W.iret (v := 1) hx hb hr (fun t ht hW => ⟨⟨1, (), rfl, Or.inl ⟨rfl, c_2⟩, by rw [ht]; exact hP9, hD9⟩, hS.F ht⟩) hS.2.2 dL_openCursor_14)
    · have c_3 : 0 ≤ a0.toInt := e_0
      have c_4 : 6 ≤ a0.toInt := e_1
      refine vx_catch hown (tableOf []) ⟨0, 9, 12, 20⟩ (tableOf [(0, 9, 15, 15)]) (by rw [htab]; rfl) (xpass0) (by decide) (by decide) w_1 (va_Nw.use rfl hV.2.2.2.2.2.1.2.2) hq9 hcv hcl ?_
      have hP : va_P D vwCl [] H_1 := fun k q h => by simp at h
      have hD : va_D A [] := ⟨fun i j p q h => by simp at h, fun k q h => by simp at h⟩
      refine W.widen (k := 2) (n := 12) (Nat.le_of_ble_eq_true rfl) (Nat.le_of_ble_eq_true rfl) ?_
      refine lv_astore_n (lv' := [(3, .ref q9), (0, .ref x), (1, .int a0), (2, .ref ou)]) hx hb dL_openCursor_12 rfl hl (by decide) rfl (fun ls hl => ?_)
      refine lv_iconst (v := 1) hx hb dL_openCursor_13 (by decide) ?_
      have hP9 := hP.sub (ws' := []) [] rfl
      have hD9 := hD.sub (ws' := []) [] (by decide) rfl
      refine W.widen (k := 2) (n := 12) (Nat.le_of_ble_eq_true rfl) (Nat.le_of_ble_eq_true rfl) ?_
      exact vx_ret (W.iret (v := 1) hx hb hr (fun t ht hW => ⟨⟨1, (), rfl, Or.inr (Or.inl ⟨rfl, c_3, c_4⟩), by rw [ht]; exact hP9, hD9⟩, hS.F ht⟩) hS.2.2 dL_openCursor_14)
    · have c_5 : 0 ≤ a0.toInt := e_0
      have c_6 : a0.toInt < 6 := e_1
      refine vx_catch hown (tableOf [(0, 9, 12, 20)]) ⟨0, 9, 15, 15⟩ (tableOf []) (by rw [htab]; rfl) (xpass1 (Or.inr ⟨by decide, iob, w_1, hV.2.2.2.2.2.2.1.1⟩)) (by decide) (by decide) w_2 (va_Nw.use rfl hV.2.2.2.2.2.1.2.1) hq9 hcv hcl ?_
      have hP : va_P D vwCl [] H_1 := fun k q h => by simp at h
      have hD : va_D A [] := ⟨fun i j p q h => by simp at h, fun k q h => by simp at h⟩
      refine W.widen (k := 2) (n := 12) (Nat.le_of_ble_eq_true rfl) (Nat.le_of_ble_eq_true rfl) ?_
      refine lv_astore_n (lv' := [(3, .ref q9), (0, .ref x), (1, .int a0), (2, .ref ou)]) hx hb dL_openCursor_15 rfl hl (by decide) rfl (fun ls hl => ?_)
      refine lv_iconst (v := 2) hx hb dL_openCursor_16 (by decide) ?_
      have hP9 := hP.sub (ws' := []) [] rfl
      have hD9 := hD.sub (ws' := []) [] (by decide) rfl
      refine W.widen (k := 2) (n := 12) (Nat.le_of_ble_eq_true rfl) (Nat.le_of_ble_eq_true rfl) ?_
      exact vx_ret (W.iret (v := 2) hx hb hr (fun t ht hW => ⟨⟨2, (), rfl, Or.inr (Or.inr ⟨rfl, c_5, c_6⟩), by rw [ht]; exact hP9, hD9⟩, hS.F ht⟩) hS.2.2 dL_openCursor_17)
  · exact hw.elim
def wk_L_cursorRow : List Cond := .codeWith yL_cursorRow cL_cursorRow 3 (some .int) [(0, 8, 11, 15)] :: (([.classLink RL 15 ise, .methodLink RL 101 yX10_cursorRow, .instanceMethod yX10_cursorRow, .selects RX10 yX10_cursorRow yX10_cursorRow, .initialized RX10, .code yX10_cursorRow cX10_cursorRow 1 (some .int), .methodLink RX10 278 yX10_cursorTable, .instanceMethod yX10_cursorTable, .selects RX10 yX10_cursorTable yX10_cursorTable, .code yX10_cursorTable cX10_cursorTable 1 (some (.object "DocumentSpanner$SortedInts")), .fieldLink RX10 34 "DocumentSpanner" "cursorSlot" "I", .classLink RX10 80 ise, .initialized ise] : List Cond) ++ wsX100 ++ (vx_atS RX10 84 ise ["java/lang/RuntimeException", "java/lang/Exception"]).filter goodWord)
set_option maxRecDepth 20000 in
theorem ggk_L_cursorRow_X10_cursorRow : GoodIn wk_L_cursorRow wk_X10_cursorRow := goodIn_ca (goodIn_ca (goodIn_r _ [6, 7, 8, 9, 5, 10, 11, 12, 13] (by decide +kernel) (by decide +kernel)) (goodIn_sub (fun _ h => List.mem_cons_of_mem _ (List.mem_append_left _ (List.mem_append_right _ h))) (by decide +kernel))) (goodIn_sub (fun _ h => List.mem_cons_of_mem _ (List.mem_append_right _ h)) (by decide +kernel))
set_option maxRecDepth 20000 in
theorem gk_L_cursorRow_X10_cursorRow : GoodIn wk_L_cursorRow (wsV RL 101 RX10 yX10_cursorRow wk_X10_cursorRow) := goodIn_app (goodIn_r _ [2, 3, 4, 5] (by decide +kernel) (by decide +kernel)) ggk_L_cursorRow_X10_cursorRow
set_option maxHeartbeats 4000000 in
set_option maxRecDepth 100000 in
theorem k_L_cursorRow (l : Launch) (htr : l.stackTraces = false) (D : va_G) (cI cJ cZ : ClassId) (x : Nat) (st : Nat) (kp : Nat) (bf : Nat) (o1 : Nat) (o2 : Nat) (o3 : Nat) (o4 : Nat) (o5 : Nat) (o6 : Nat) (ou : Nat) (sz : Nat) : vx_Met l yL_cursorRow wk_L_cursorRow ({ frames := 8, cells := 1, slots := 6, locals := 122 }) (xPc D cI cJ cZ [.ref x, .ref ou] [(x, .inr (9, [.ref st, .ref kp, .int 0, .ref bf, .int 0, .int (-1), .int (-1), .int 0, .ref o1, .ref o2, .ref o3, .ref o4, .ref o5, .ref o6])), (ou, .inl (cJ, 1, .inr (.inl (fun _ => 0))))] sz) (va_Qi (fun (r : Int32) (u : Unit) => (r = 1)) (fun (u : Unit) (t : State) => va_P D vwCl ([] : va_W) t.heap ∧ va_D (va_A [(x, .inr (9, [.ref st, .ref kp, .int 0, .ref bf, .int 0, .int (-1), .int (-1), .int 0, .ref o1, .ref o2, .ref o3, .ref o4, .ref o5, .ref o6])), (ou, .inl (cJ, 1, .inr (.inl (fun _ => 0))))] sz) ([] : va_W)) (va_A [(x, .inr (9, [.ref st, .ref kp, .int 0, .ref bf, .int 0, .int (-1), .int (-1), .int 0, .ref o1, .ref o2, .ref o3, .ref o4, .ref o5, .ref o6])), (ou, .inl (cJ, 1, .inr (.inl (fun _ => 0))))] sz)) (vx_X (fun _ : Unit => True) (fun (E : String) (_ : Unit) (_ : State) => False) (va_A [(x, .inr (9, [.ref st, .ref kp, .int 0, .ref bf, .int 0, .int (-1), .int (-1), .int 0, .ref o1, .ref o2, .ref o3, .ref o4, .ref o5, .ref o6])), (ou, .inl (cJ, 1, .inr (.inl (fun _ => 0))))] sz)) 1 6 (va_A [(x, .inr (9, [.ref st, .ref kp, .int 0, .ref bf, .int 0, .int (-1), .int (-1), .int 0, .ref o1, .ref o2, .ref o3, .ref o4, .ref o5, .ref o6])), (ou, .inl (cJ, 1, .inr (.inl (fun _ => 0))))] sz) := by
  refine vx_ofWH (cc := cL_cursorRow) (maxL := 3) (ret := (some .int)) (by decide) rfl ?_
  intro p e s m args below meth c s₁ B hml hv
  obtain ⟨rfl, hsz, hP, hK, hD0, hE, hV⟩ := hv
  have hx := B.exec
  have hb := B.bytes
  have hr := B.returns
  have hts := atoms_spec (ws := wk_L_cursorRow) B.pre
  have hown : s.vm.findClass RL = some m.cls := findClass_of_methodNamed B.named
  have hlocks := B.notSynchronized
  have htab : c.exceptionTable.toList = tableOf [(0, 8, 11, 15)] := vx_table (x := yL_cursorRow) B (hts _ List.mem_cons_self)
  have w_1 := hts (.classLink RL 15 ise) (List.mem_of_getElem? (i := 1) rfl)
  subst hsz
  have hD := hD0.self (sz := s.heap.size)
  generalize hAe : va_A [(x, .inr (9, [.ref st, .ref kp, .int 0, .ref bf, .int 0, .int (-1), .int (-1), .int 0, .ref o1, .ref o2, .ref o3, .ref o4, .ref o5, .ref o6])), (ou, .inl (cJ, 1, .inr (.inl (fun _ => 0))))] s.heap.size = A at hD hE ⊢
  have hA : ∀ q : Nat, s.heap.size ≤ q → A q := fun q h => by rw [← hAe]; exact Or.inr h
  have hS : va_S A s.heap s.heap [] := va_S.rf
  have hP : va_P D vwCl [(x, .inr (9, [.ref st, .ref kp, .int 0, .ref bf, .int 0, .int (-1), .int (-1), .int 0, .ref o1, .ref o2, .ref o3, .ref o4, .ref o5, .ref o6])), (ou, .inl (cJ, 1, .inr (.inl (fun _ => 0))))] s.heap := hP
  have hl := lv_entry ([.ref x, .ref ou]) (n := 3) (Nat.le_of_ble_eq_true rfl)
  rw [lg_entry_eq]
  generalize (lg_sl ([.ref x, .ref ou]) ++ List.replicate (3 - (lg_sl ([.ref x, .ref ou])).length) Slot.unset).toArray = ls at hl ⊢
  have hl : lv_has ls 3 [(0, .ref x), (1, .ref ou)] := hl
  refine lv_aload_n hx hb dL_cursorRow_0 rfl (lv_at hl 1 rfl) ?_
  refine lv_iconst (v := 0) hx hb dL_cursorRow_1 (by decide) ?_
  refine lv_aload_n hx hb dL_cursorRow_2 rfl (lv_at hl 0 rfl) ?_
  have hPc := hP.sub (ws' := [(x, .inr (9, [.ref st, .ref kp, .int 0, .ref bf, .int 0, .int (-1), .int (-1), .int 0, .ref o1, .ref o2, .ref o3, .ref o4, .ref o5, .ref o6]))]) [0] rfl
  have hDc := hD.sub (ws' := [(x, .inr (9, [.ref st, .ref kp, .int 0, .ref bf, .int 0, .int (-1), .int (-1), .int 0, .ref o1, .ref o2, .ref o3, .ref o4, .ref o5, .ref o6]))]) [0] (by decide) rfl
  have hFc := va_free (wc := [(x, .inr (9, [.ref st, .ref kp, .int 0, .ref bf, .int 0, .int (-1), .int (-1), .int 0, .ref o1, .ref o2, .ref o3, .ref o4, .ref o5, .ref o6]))]) hD hS hA [0] rfl
  refine vx_calli (vx_runV (As := []) (rest := [.int 0, .ref ou]) ⟨hx, hb, hml, hown, hts⟩ (k_X10_cursorRow l htr D cI cJ cZ x st kp bf o1 o2 o3 o4 o5 o6 s.heap.size) (cwV 0 hts gk_L_cursorRow_X10_cursorRow rfl rfl rfl (by decide +kernel) ⟨Nat.le_of_ble_eq_true rfl, Nat.le_of_ble_eq_true rfl⟩) ⟨xPc_blind, va_recv hK hP (ci := 9) (q0 := 0) rfl rfl, xPc_pre hPc hK hDc hE hS hFc hV⟩ rfl rfl hl.1 rfl (lv_room (Nat.le_of_ble_eq_true rfl)) dL_cursorRow_3 ⟨Nat.le_of_ble_eq_true rfl, Nat.le_of_ble_eq_true rfl⟩) hS (fun q _ h => hFc q h) hFc (fun q _ h => hFc q h) (fun E ce q9 u t H_1 locs ht hvm hpx hBX hz1 hk1 hS hq9 hcv hcl => ?_) (fun r u t H_1 locs ht hvm hw hB hz1 hk1 hS => ?_)
  · rcases hBX with rfl
    refine vx_catch hown (tableOf []) ⟨0, 8, 11, 15⟩ (tableOf []) (by rw [htab]; rfl) (xpass0) (by decide) (by decide) w_1 (va_Nw.use rfl hV.2.2.2.2.2.1.2.1) hq9 hcv hcl ?_
    have hP : va_P D vwCl [] H_1 := fun k q h => by simp at h
    have hD : va_D A [] := ⟨fun i j p q h => by simp at h, fun k q h => by simp at h⟩
    refine W.widen (k := 1) (n := 6) (Nat.le_of_ble_eq_true rfl) (Nat.le_of_ble_eq_true rfl) ?_
    refine lv_astore_n (lv' := [(2, .ref q9), (0, .ref x), (1, .ref ou)]) hx hb dL_cursorRow_11 rfl hl (by decide) rfl (fun ls hl => ?_)
    refine lv_iconst (v := 1) hx hb dL_cursorRow_12 (by decide) ?_
    have hP9 := hP.sub (ws' := []) [] rfl
    have hD9 := hD.sub (ws' := []) [] (by decide) rfl
    refine W.widen (k := 1) (n := 6) (Nat.le_of_ble_eq_true rfl) (Nat.le_of_ble_eq_true rfl) ?_
    exact vx_ret (W.iret (v := 1) hx hb hr (fun t ht hW => ⟨⟨1, (), rfl, rfl, by rw [ht]; exact hP9, hD9⟩, hS.F ht⟩) hS.2.2 dL_cursorRow_13)
  · exact hw.elim
def wk_L_advance : List Cond := .codeWith yL_advance cL_advance 4 (some .int) [(0, 9, 12, 13), (0, 9, 15, 15)] :: (([.classLink RL 13 iae, .classLink RL 15 ise, .methodLink RL 104 yX10_advance, .instanceMethod yX10_advance, .selects RX10 yX10_advance yX10_advance, .initialized RX10, .code yX10_advance cX10_advance 3 (some .int), .classLink RX10 70 iae, .initialized iae, .methodLink RX10 278 yX10_cursorTable, .instanceMethod yX10_cursorTable, .selects RX10 yX10_cursorTable yX10_cursorTable, .code yX10_cursorTable cX10_cursorTable 1 (some (.object "DocumentSpanner$SortedInts")), .fieldLink RX10 34 "DocumentSpanner" "cursorSlot" "I", .classLink RX10 80 ise, .initialized ise] : List Cond) ++ wsX100 ++ (vx_atS RX10 74 iae ["java/lang/RuntimeException", "java/lang/Exception"]).filter goodWord ++ (vx_atS RX10 84 ise ["java/lang/RuntimeException", "java/lang/Exception"]).filter goodWord)
set_option maxRecDepth 20000 in
theorem ggk_L_advance_X10_advance : GoodIn wk_L_advance wk_X10_advance := goodIn_ca (goodIn_ca (goodIn_ca (goodIn_r _ [7, 8, 9, 10, 11, 12, 6, 13, 14, 15, 16] (by decide +kernel) (by decide +kernel)) (goodIn_sub (fun _ h => List.mem_cons_of_mem _ (List.mem_append_left _ (List.mem_append_left _ (List.mem_append_right _ h)))) (by decide +kernel))) (goodIn_sub (fun _ h => List.mem_cons_of_mem _ (List.mem_append_left _ (List.mem_append_right _ h))) (by decide +kernel))) (goodIn_sub (fun _ h => List.mem_cons_of_mem _ (List.mem_append_right _ h)) (by decide +kernel))
set_option maxRecDepth 20000 in
theorem gk_L_advance_X10_advance : GoodIn wk_L_advance (wsV RL 104 RX10 yX10_advance wk_X10_advance) := goodIn_app (goodIn_r _ [3, 4, 5, 6] (by decide +kernel) (by decide +kernel)) ggk_L_advance_X10_advance
set_option maxHeartbeats 4000000 in
set_option maxRecDepth 100000 in
theorem k_L_advance (l : Launch) (htr : l.stackTraces = false) (D : va_G) (cI cJ cZ : ClassId) (x : Nat) (st : Nat) (kp : Nat) (bf : Nat) (o1 : Nat) (o2 : Nat) (o3 : Nat) (o4 : Nat) (o5 : Nat) (o6 : Nat) (ou : Nat) (a0 : Int32) (sz : Nat) : vx_Met l yL_advance wk_L_advance ({ frames := 8, cells := 1, slots := 6, locals := 124 }) (xPc D cI cJ cZ [.ref x, .int a0, .ref ou] [(x, .inr (9, [.ref st, .ref kp, .int 0, .ref bf, .int 0, .int (-1), .int (-1), .int 0, .ref o1, .ref o2, .ref o3, .ref o4, .ref o5, .ref o6])), (ou, .inl (cJ, 1, .inr (.inl (fun _ => 0))))] sz) (va_Qi (fun (r : Int32) (u : Unit) => (r = 2 ∧ 0 ≤ a0.toInt) ∨ (r = 1 ∧ a0.toInt < 0)) (fun (u : Unit) (t : State) => va_P D vwCl ([] : va_W) t.heap ∧ va_D (va_A [(x, .inr (9, [.ref st, .ref kp, .int 0, .ref bf, .int 0, .int (-1), .int (-1), .int 0, .ref o1, .ref o2, .ref o3, .ref o4, .ref o5, .ref o6])), (ou, .inl (cJ, 1, .inr (.inl (fun _ => 0))))] sz) ([] : va_W)) (va_A [(x, .inr (9, [.ref st, .ref kp, .int 0, .ref bf, .int 0, .int (-1), .int (-1), .int 0, .ref o1, .ref o2, .ref o3, .ref o4, .ref o5, .ref o6])), (ou, .inl (cJ, 1, .inr (.inl (fun _ => 0))))] sz)) (vx_X (fun _ : Unit => True) (fun (E : String) (_ : Unit) (_ : State) => False) (va_A [(x, .inr (9, [.ref st, .ref kp, .int 0, .ref bf, .int 0, .int (-1), .int (-1), .int 0, .ref o1, .ref o2, .ref o3, .ref o4, .ref o5, .ref o6])), (ou, .inl (cJ, 1, .inr (.inl (fun _ => 0))))] sz)) 1 6 (va_A [(x, .inr (9, [.ref st, .ref kp, .int 0, .ref bf, .int 0, .int (-1), .int (-1), .int 0, .ref o1, .ref o2, .ref o3, .ref o4, .ref o5, .ref o6])), (ou, .inl (cJ, 1, .inr (.inl (fun _ => 0))))] sz) := by
  refine vx_ofWH (cc := cL_advance) (maxL := 4) (ret := (some .int)) (by decide) rfl ?_
  intro p e s m args below meth c s₁ B hml hv
  obtain ⟨rfl, hsz, hP, hK, hD0, hE, hV⟩ := hv
  have hx := B.exec
  have hb := B.bytes
  have hr := B.returns
  have hts := atoms_spec (ws := wk_L_advance) B.pre
  have hown : s.vm.findClass RL = some m.cls := findClass_of_methodNamed B.named
  have hlocks := B.notSynchronized
  have htab : c.exceptionTable.toList = tableOf [(0, 9, 12, 13), (0, 9, 15, 15)] := vx_table (x := yL_advance) B (hts _ List.mem_cons_self)
  have w_1 := hts (.classLink RL 13 iae) (List.mem_of_getElem? (i := 1) rfl)
  have w_2 := hts (.classLink RL 15 ise) (List.mem_of_getElem? (i := 2) rfl)
  subst hsz
  have hD := hD0.self (sz := s.heap.size)
  generalize hAe : va_A [(x, .inr (9, [.ref st, .ref kp, .int 0, .ref bf, .int 0, .int (-1), .int (-1), .int 0, .ref o1, .ref o2, .ref o3, .ref o4, .ref o5, .ref o6])), (ou, .inl (cJ, 1, .inr (.inl (fun _ => 0))))] s.heap.size = A at hD hE ⊢
  have hA : ∀ q : Nat, s.heap.size ≤ q → A q := fun q h => by rw [← hAe]; exact Or.inr h
  have hS : va_S A s.heap s.heap [] := va_S.rf
  have hP : va_P D vwCl [(x, .inr (9, [.ref st, .ref kp, .int 0, .ref bf, .int 0, .int (-1), .int (-1), .int 0, .ref o1, .ref o2, .ref o3, .ref o4, .ref o5, .ref o6])), (ou, .inl (cJ, 1, .inr (.inl (fun _ => 0))))] s.heap := hP
  have hl := lv_entry ([.ref x, .int a0, .ref ou]) (n := 4) (Nat.le_of_ble_eq_true rfl)
  rw [lg_entry_eq]
  generalize (lg_sl ([.ref x, .int a0, .ref ou]) ++ List.replicate (4 - (lg_sl ([.ref x, .int a0, .ref ou])).length) Slot.unset).toArray = ls at hl ⊢
  have hl : lv_has ls 4 [(0, .ref x), (1, .int a0), (2, .ref ou)] := hl
  refine lv_aload_n hx hb dL_advance_0 rfl (lv_at hl 2 rfl) ?_
  refine lv_iconst (v := 0) hx hb dL_advance_1 (by decide) ?_
  refine lv_aload_n hx hb dL_advance_2 rfl (lv_at hl 0 rfl) ?_
  refine lv_iload_n hx hb dL_advance_3 rfl (lv_at hl 1 rfl) ?_
  have hPc := hP.sub (ws' := [(x, .inr (9, [.ref st, .ref kp, .int 0, .ref bf, .int 0, .int (-1), .int (-1), .int 0, .ref o1, .ref o2, .ref o3, .ref o4, .ref o5, .ref o6]))]) [0] rfl
  have hDc := hD.sub (ws' := [(x, .inr (9, [.ref st, .ref kp, .int 0, .ref bf, .int 0, .int (-1), .int (-1), .int 0, .ref o1, .ref o2, .ref o3, .ref o4, .ref o5, .ref o6]))]) [0] (by decide) rfl
  have hFc := va_free (wc := [(x, .inr (9, [.ref st, .ref kp, .int 0, .ref bf, .int 0, .int (-1), .int (-1), .int 0, .ref o1, .ref o2, .ref o3, .ref o4, .ref o5, .ref o6]))]) hD hS hA [0] rfl
  refine vx_calli (vx_runV (As := [.int a0]) (rest := [.int 0, .ref ou]) ⟨hx, hb, hml, hown, hts⟩ (k_X10_advance l htr D cI cJ cZ x st kp bf o1 o2 o3 o4 o5 o6 a0 s.heap.size) (cwV 1 hts gk_L_advance_X10_advance rfl rfl rfl (by decide +kernel) ⟨Nat.le_of_ble_eq_true rfl, Nat.le_of_ble_eq_true rfl⟩) ⟨xPc_blind, va_recv hK hP (ci := 9) (q0 := 0) rfl rfl, xPc_pre hPc hK hDc hE hS hFc hV⟩ rfl rfl hl.1 rfl (lv_room (Nat.le_of_ble_eq_true rfl)) dL_advance_4 ⟨Nat.le_of_ble_eq_true rfl, Nat.le_of_ble_eq_true rfl⟩) hS (fun q _ h => hFc q h) hFc (fun q _ h => hFc q h) (fun E ce q9 u t H_1 locs ht hvm hpx hBX hz1 hk1 hS hq9 hcv hcl => ?_) (fun r u t H_1 locs ht hvm hw hB hz1 hk1 hS => ?_)
  · rcases hBX with ⟨rfl, e_0⟩ | ⟨rfl, e_0⟩
    · have c_2 : 0 ≤ a0.toInt := e_0
      refine vx_catch hown (tableOf [(0, 9, 12, 13)]) ⟨0, 9, 15, 15⟩ (tableOf []) (by rw [htab]; rfl) (xpass1 (Or.inr ⟨by decide, iae, w_1, hV.2.2.2.2.2.2.1.2.1⟩)) (by decide) (by decide) w_2 (va_Nw.use rfl hV.2.2.2.2.2.1.2.1) hq9 hcv hcl ?_
      have hP : va_P D vwCl [] H_1 := fun k q h => by simp at h
      have hD : va_D A [] := ⟨fun i j p q h => by simp at h, fun k q h => by simp at h⟩
      refine W.widen (k := 1) (n := 6) (Nat.le_of_ble_eq_true rfl) (Nat.le_of_ble_eq_true rfl) ?_
      refine lv_astore_n (lv' := [(3, .ref q9), (0, .ref x), (1, .int a0), (2, .ref ou)]) hx hb dL_advance_15 rfl hl (by decide) rfl (fun ls hl => ?_)
      refine lv_iconst (v := 2) hx hb dL_advance_16 (by decide) ?_
      have hP9 := hP.sub (ws' := []) [] rfl
      have hD9 := hD.sub (ws' := []) [] (by decide) rfl
      refine W.widen (k := 1) (n := 6) (Nat.le_of_ble_eq_true rfl) (Nat.le_of_ble_eq_true rfl) ?_
      exact vx_ret (W.iret (v := 2) hx hb hr (fun t ht hW => ⟨⟨2, (), rfl, Or.inl ⟨rfl, c_2⟩, by rw [ht]; exact hP9, hD9⟩, hS.F ht⟩) hS.2.2 dL_advance_17)
    · have c_3 : a0.toInt < 0 := e_0
      refine vx_catch hown (tableOf []) ⟨0, 9, 12, 13⟩ (tableOf [(0, 9, 15, 15)]) (by rw [htab]; rfl) (xpass0) (by decide) (by decide) w_1 (va_Nw.use rfl hV.2.2.2.2.2.1.1) hq9 hcv hcl ?_
      have hP : va_P D vwCl [] H_1 := fun k q h => by simp at h
      have hD : va_D A [] := ⟨fun i j p q h => by simp at h, fun k q h => by simp at h⟩
      refine W.widen (k := 1) (n := 6) (Nat.le_of_ble_eq_true rfl) (Nat.le_of_ble_eq_true rfl) ?_
      refine lv_astore_n (lv' := [(3, .ref q9), (0, .ref x), (1, .int a0), (2, .ref ou)]) hx hb dL_advance_12 rfl hl (by decide) rfl (fun ls hl => ?_)
      refine lv_iconst (v := 1) hx hb dL_advance_13 (by decide) ?_
      have hP9 := hP.sub (ws' := []) [] rfl
      have hD9 := hD.sub (ws' := []) [] (by decide) rfl
      refine W.widen (k := 1) (n := 6) (Nat.le_of_ble_eq_true rfl) (Nat.le_of_ble_eq_true rfl) ?_
      exact vx_ret (W.iret (v := 1) hx hb hr (fun t ht hW => ⟨⟨1, (), rfl, Or.inr ⟨rfl, c_3⟩, by rw [ht]; exact hP9, hD9⟩, hS.F ht⟩) hS.2.2 dL_advance_14)
  · exact hw.elim
def wk_L_skipTo : List Cond := .codeWith yL_skipTo cL_skipTo 4 (some .int) [(0, 9, 12, 15)] :: (([.classLink RL 15 ise, .methodLink RL 107 yX10_skipTo, .instanceMethod yX10_skipTo, .selects RX10 yX10_skipTo yX10_skipTo, .initialized RX10, .code yX10_skipTo cX10_skipTo 4 (some .int), .methodLink RX10 278 yX10_cursorTable, .instanceMethod yX10_cursorTable, .selects RX10 yX10_cursorTable yX10_cursorTable, .code yX10_cursorTable cX10_cursorTable 1 (some (.object "DocumentSpanner$SortedInts")), .fieldLink RX10 34 "DocumentSpanner" "cursorSlot" "I", .classLink RX10 80 ise, .initialized ise] : List Cond) ++ wsX100 ++ (vx_atS RX10 84 ise ["java/lang/RuntimeException", "java/lang/Exception"]).filter goodWord)
set_option maxRecDepth 20000 in
theorem ggk_L_skipTo_X10_skipTo : GoodIn wk_L_skipTo wk_X10_skipTo := goodIn_ca (goodIn_ca (goodIn_r _ [6, 7, 8, 9, 5, 10, 11, 12, 13] (by decide +kernel) (by decide +kernel)) (goodIn_sub (fun _ h => List.mem_cons_of_mem _ (List.mem_append_left _ (List.mem_append_right _ h))) (by decide +kernel))) (goodIn_sub (fun _ h => List.mem_cons_of_mem _ (List.mem_append_right _ h)) (by decide +kernel))
set_option maxRecDepth 20000 in
theorem gk_L_skipTo_X10_skipTo : GoodIn wk_L_skipTo (wsV RL 107 RX10 yX10_skipTo wk_X10_skipTo) := goodIn_app (goodIn_r _ [2, 3, 4, 5] (by decide +kernel) (by decide +kernel)) ggk_L_skipTo_X10_skipTo
set_option maxHeartbeats 4000000 in
set_option maxRecDepth 100000 in
theorem k_L_skipTo (l : Launch) (htr : l.stackTraces = false) (D : va_G) (cI cJ cZ : ClassId) (x : Nat) (st : Nat) (kp : Nat) (bf : Nat) (o1 : Nat) (o2 : Nat) (o3 : Nat) (o4 : Nat) (o5 : Nat) (o6 : Nat) (ou : Nat) (a0 : Int32) (sz : Nat) : vx_Met l yL_skipTo wk_L_skipTo ({ frames := 8, cells := 1, slots := 6, locals := 125 }) (xPc D cI cJ cZ [.ref x, .int a0, .ref ou] [(x, .inr (9, [.ref st, .ref kp, .int 0, .ref bf, .int 0, .int (-1), .int (-1), .int 0, .ref o1, .ref o2, .ref o3, .ref o4, .ref o5, .ref o6])), (ou, .inl (cJ, 1, .inr (.inl (fun _ => 0))))] sz) (va_Qi (fun (r : Int32) (u : Unit) => (r = 1)) (fun (u : Unit) (t : State) => va_P D vwCl ([] : va_W) t.heap ∧ va_D (va_A [(x, .inr (9, [.ref st, .ref kp, .int 0, .ref bf, .int 0, .int (-1), .int (-1), .int 0, .ref o1, .ref o2, .ref o3, .ref o4, .ref o5, .ref o6])), (ou, .inl (cJ, 1, .inr (.inl (fun _ => 0))))] sz) ([] : va_W)) (va_A [(x, .inr (9, [.ref st, .ref kp, .int 0, .ref bf, .int 0, .int (-1), .int (-1), .int 0, .ref o1, .ref o2, .ref o3, .ref o4, .ref o5, .ref o6])), (ou, .inl (cJ, 1, .inr (.inl (fun _ => 0))))] sz)) (vx_X (fun _ : Unit => True) (fun (E : String) (_ : Unit) (_ : State) => False) (va_A [(x, .inr (9, [.ref st, .ref kp, .int 0, .ref bf, .int 0, .int (-1), .int (-1), .int 0, .ref o1, .ref o2, .ref o3, .ref o4, .ref o5, .ref o6])), (ou, .inl (cJ, 1, .inr (.inl (fun _ => 0))))] sz)) 1 6 (va_A [(x, .inr (9, [.ref st, .ref kp, .int 0, .ref bf, .int 0, .int (-1), .int (-1), .int 0, .ref o1, .ref o2, .ref o3, .ref o4, .ref o5, .ref o6])), (ou, .inl (cJ, 1, .inr (.inl (fun _ => 0))))] sz) := by
  refine vx_ofWH (cc := cL_skipTo) (maxL := 4) (ret := (some .int)) (by decide) rfl ?_
  intro p e s m args below meth c s₁ B hml hv
  obtain ⟨rfl, hsz, hP, hK, hD0, hE, hV⟩ := hv
  have hx := B.exec
  have hb := B.bytes
  have hr := B.returns
  have hts := atoms_spec (ws := wk_L_skipTo) B.pre
  have hown : s.vm.findClass RL = some m.cls := findClass_of_methodNamed B.named
  have hlocks := B.notSynchronized
  have htab : c.exceptionTable.toList = tableOf [(0, 9, 12, 15)] := vx_table (x := yL_skipTo) B (hts _ List.mem_cons_self)
  have w_1 := hts (.classLink RL 15 ise) (List.mem_of_getElem? (i := 1) rfl)
  subst hsz
  have hD := hD0.self (sz := s.heap.size)
  generalize hAe : va_A [(x, .inr (9, [.ref st, .ref kp, .int 0, .ref bf, .int 0, .int (-1), .int (-1), .int 0, .ref o1, .ref o2, .ref o3, .ref o4, .ref o5, .ref o6])), (ou, .inl (cJ, 1, .inr (.inl (fun _ => 0))))] s.heap.size = A at hD hE ⊢
  have hA : ∀ q : Nat, s.heap.size ≤ q → A q := fun q h => by rw [← hAe]; exact Or.inr h
  have hS : va_S A s.heap s.heap [] := va_S.rf
  have hP : va_P D vwCl [(x, .inr (9, [.ref st, .ref kp, .int 0, .ref bf, .int 0, .int (-1), .int (-1), .int 0, .ref o1, .ref o2, .ref o3, .ref o4, .ref o5, .ref o6])), (ou, .inl (cJ, 1, .inr (.inl (fun _ => 0))))] s.heap := hP
  have hl := lv_entry ([.ref x, .int a0, .ref ou]) (n := 4) (Nat.le_of_ble_eq_true rfl)
  rw [lg_entry_eq]
  generalize (lg_sl ([.ref x, .int a0, .ref ou]) ++ List.replicate (4 - (lg_sl ([.ref x, .int a0, .ref ou])).length) Slot.unset).toArray = ls at hl ⊢
  have hl : lv_has ls 4 [(0, .ref x), (1, .int a0), (2, .ref ou)] := hl
  refine lv_aload_n hx hb dL_skipTo_0 rfl (lv_at hl 2 rfl) ?_
  refine lv_iconst (v := 0) hx hb dL_skipTo_1 (by decide) ?_
  refine lv_aload_n hx hb dL_skipTo_2 rfl (lv_at hl 0 rfl) ?_
  refine lv_iload_n hx hb dL_skipTo_3 rfl (lv_at hl 1 rfl) ?_
  have hPc := hP.sub (ws' := [(x, .inr (9, [.ref st, .ref kp, .int 0, .ref bf, .int 0, .int (-1), .int (-1), .int 0, .ref o1, .ref o2, .ref o3, .ref o4, .ref o5, .ref o6]))]) [0] rfl
  have hDc := hD.sub (ws' := [(x, .inr (9, [.ref st, .ref kp, .int 0, .ref bf, .int 0, .int (-1), .int (-1), .int 0, .ref o1, .ref o2, .ref o3, .ref o4, .ref o5, .ref o6]))]) [0] (by decide) rfl
  have hFc := va_free (wc := [(x, .inr (9, [.ref st, .ref kp, .int 0, .ref bf, .int 0, .int (-1), .int (-1), .int 0, .ref o1, .ref o2, .ref o3, .ref o4, .ref o5, .ref o6]))]) hD hS hA [0] rfl
  refine vx_calli (vx_runV (As := [.int a0]) (rest := [.int 0, .ref ou]) ⟨hx, hb, hml, hown, hts⟩ (k_X10_skipTo l htr D cI cJ cZ x st kp bf o1 o2 o3 o4 o5 o6 a0 s.heap.size) (cwV 1 hts gk_L_skipTo_X10_skipTo rfl rfl rfl (by decide +kernel) ⟨Nat.le_of_ble_eq_true rfl, Nat.le_of_ble_eq_true rfl⟩) ⟨xPc_blind, va_recv hK hP (ci := 9) (q0 := 0) rfl rfl, xPc_pre hPc hK hDc hE hS hFc hV⟩ rfl rfl hl.1 rfl (lv_room (Nat.le_of_ble_eq_true rfl)) dL_skipTo_4 ⟨Nat.le_of_ble_eq_true rfl, Nat.le_of_ble_eq_true rfl⟩) hS (fun q _ h => hFc q h) hFc (fun q _ h => hFc q h) (fun E ce q9 u t H_1 locs ht hvm hpx hBX hz1 hk1 hS hq9 hcv hcl => ?_) (fun r u t H_1 locs ht hvm hw hB hz1 hk1 hS => ?_)
  · rcases hBX with rfl
    refine vx_catch hown (tableOf []) ⟨0, 9, 12, 15⟩ (tableOf []) (by rw [htab]; rfl) (xpass0) (by decide) (by decide) w_1 (va_Nw.use rfl hV.2.2.2.2.2.1.2.1) hq9 hcv hcl ?_
    have hP : va_P D vwCl [] H_1 := fun k q h => by simp at h
    have hD : va_D A [] := ⟨fun i j p q h => by simp at h, fun k q h => by simp at h⟩
    refine W.widen (k := 1) (n := 6) (Nat.le_of_ble_eq_true rfl) (Nat.le_of_ble_eq_true rfl) ?_
    refine lv_astore_n (lv' := [(3, .ref q9), (0, .ref x), (1, .int a0), (2, .ref ou)]) hx hb dL_skipTo_12 rfl hl (by decide) rfl (fun ls hl => ?_)
    refine lv_iconst (v := 1) hx hb dL_skipTo_13 (by decide) ?_
    have hP9 := hP.sub (ws' := []) [] rfl
    have hD9 := hD.sub (ws' := []) [] (by decide) rfl
    refine W.widen (k := 1) (n := 6) (Nat.le_of_ble_eq_true rfl) (Nat.le_of_ble_eq_true rfl) ?_
    exact vx_ret (W.iret (v := 1) hx hb hr (fun t ht hW => ⟨⟨1, (), rfl, rfl, by rw [ht]; exact hP9, hD9⟩, hS.F ht⟩) hS.2.2 dL_skipTo_14)
  · exact hw.elim
def wk_L_setWeight : List Cond := .codeWith yL_setWeight cL_setWeight 5 (some .int) [(0, 10, 13, 20)] :: (([.classLink RL 20 iob, .methodLink RL 110 yX10_setWeight, .instanceMethod yX10_setWeight, .selects RX10 yX10_setWeight yX10_setWeight, .initialized RX10, .code yX10_setWeight cX10_setWeight 4 (some .int), .fieldLink RX10 12 "DocumentSpanner" "state" "LDocumentSpanner$State;", .fieldLink RX10 293 "DocumentSpanner$State" "weights" "[I", .methodLink RX10 189 yX10_checkVariable, .static yX10_checkVariable, .code yX10_checkVariable cX10_checkVariable 1 none, .classLink RX10 91 iob, .initialized iob] : List Cond) ++ wsX100 ++ wsX80 ++ (vx_atS RX10 95 iob ["java/lang/RuntimeException", "java/lang/Exception"]).filter goodWord)
set_option maxRecDepth 20000 in
theorem ggk_L_setWeight_X10_setWeight : GoodIn wk_L_setWeight wk_X10_setWeight := goodIn_ca (goodIn_ca (goodIn_ca (goodIn_r _ [6, 7, 8, 9, 10, 5, 11, 12, 13] (by decide +kernel) (by decide +kernel)) (goodIn_sub (fun _ h => List.mem_cons_of_mem _ (List.mem_append_left _ (List.mem_append_left _ (List.mem_append_right _ h)))) (by decide +kernel))) (goodIn_sub (fun _ h => List.mem_cons_of_mem _ (List.mem_append_left _ (List.mem_append_right _ h))) (by decide +kernel))) (goodIn_sub (fun _ h => List.mem_cons_of_mem _ (List.mem_append_right _ h)) (by decide +kernel))
set_option maxRecDepth 20000 in
theorem gk_L_setWeight_X10_setWeight : GoodIn wk_L_setWeight (wsV RL 110 RX10 yX10_setWeight wk_X10_setWeight) := goodIn_app (goodIn_r _ [2, 3, 4, 5] (by decide +kernel) (by decide +kernel)) ggk_L_setWeight_X10_setWeight
set_option maxHeartbeats 4000000 in
set_option maxRecDepth 100000 in
theorem k_L_setWeight (l : Launch) (htr : l.stackTraces = false) (D : va_G) (cI cJ cZ : ClassId) (x : Nat) (st : Nat) (kp : Nat) (bf : Nat) (o1 : Nat) (o2 : Nat) (o3 : Nat) (o4 : Nat) (o5 : Nat) (o6 : Nat) (lt : Nat) (tb : Nat) (fl : Nat) (wt : Nat) (ou : Nat) (a0 : Int32) (a1 : Int32) (sz : Nat) : vx_Met l yL_setWeight wk_L_setWeight ({ frames := 8, cells := 1, slots := 6, locals := 125 }) (xPc D cI cJ cZ [.ref x, .int a0, .int a1, .ref ou] [(x, .inr (9, [.ref st, .ref kp, .int 0, .ref bf, .int 0, .int (-1), .int (-1), .int 0, .ref o1, .ref o2, .ref o3, .ref o4, .ref o5, .ref o6])), (st, .inr (8, [.ref lt, .ref tb, .ref fl, .ref wt, .int 0, .null])), (wt, .inl (cI, 3, .inl (fun _ => 1))), (ou, .inl (cJ, 1, .inr (.inl (fun _ => 0))))] sz) (va_Qi (fun (r : Int32) (u : Nat) => (r = 1 ∧ u = 0 ∧ a0.toInt < 0) ∨ (r = 1 ∧ u = 0 ∧ 0 ≤ a0.toInt ∧ 3 ≤ a0.toInt) ∨ (r = 0 ∧ u = 1 ∧ 0 ≤ a0.toInt ∧ a0.toInt < 3)) (fun (u : Nat) (t : State) => va_P D vwCl (match u with | 0 => [] | _ => [(ou, .inl (cJ, 1, .inr (.inl (vp_updL (fun _ => 0) ((0 : Int32).toNatClampNeg) 1))))] : va_W) t.heap ∧ va_D (va_A [(x, .inr (9, [.ref st, .ref kp, .int 0, .ref bf, .int 0, .int (-1), .int (-1), .int 0, .ref o1, .ref o2, .ref o3, .ref o4, .ref o5, .ref o6])), (st, .inr (8, [.ref lt, .ref tb, .ref fl, .ref wt, .int 0, .null])), (wt, .inl (cI, 3, .inl (fun _ => 1))), (ou, .inl (cJ, 1, .inr (.inl (fun _ => 0))))] sz) (match u with | 0 => [] | _ => [(ou, .inl (cJ, 1, .inr (.inl (vp_updL (fun _ => 0) ((0 : Int32).toNatClampNeg) 1))))] : va_W)) (va_A [(x, .inr (9, [.ref st, .ref kp, .int 0, .ref bf, .int 0, .int (-1), .int (-1), .int 0, .ref o1, .ref o2, .ref o3, .ref o4, .ref o5, .ref o6])), (st, .inr (8, [.ref lt, .ref tb, .ref fl, .ref wt, .int 0, .null])), (wt, .inl (cI, 3, .inl (fun _ => 1))), (ou, .inl (cJ, 1, .inr (.inl (fun _ => 0))))] sz)) (vx_X (fun _ : Unit => True) (fun (E : String) (_ : Unit) (_ : State) => False) (va_A [(x, .inr (9, [.ref st, .ref kp, .int 0, .ref bf, .int 0, .int (-1), .int (-1), .int 0, .ref o1, .ref o2, .ref o3, .ref o4, .ref o5, .ref o6])), (st, .inr (8, [.ref lt, .ref tb, .ref fl, .ref wt, .int 0, .null])), (wt, .inl (cI, 3, .inl (fun _ => 1))), (ou, .inl (cJ, 1, .inr (.inl (fun _ => 0))))] sz)) 1 6 (va_A [(x, .inr (9, [.ref st, .ref kp, .int 0, .ref bf, .int 0, .int (-1), .int (-1), .int 0, .ref o1, .ref o2, .ref o3, .ref o4, .ref o5, .ref o6])), (st, .inr (8, [.ref lt, .ref tb, .ref fl, .ref wt, .int 0, .null])), (wt, .inl (cI, 3, .inl (fun _ => 1))), (ou, .inl (cJ, 1, .inr (.inl (fun _ => 0))))] sz) := by
  refine vx_ofWH (cc := cL_setWeight) (maxL := 5) (ret := (some .int)) (by decide) rfl ?_
  intro p e s m args below meth c s₁ B hml hv
  obtain ⟨rfl, hsz, hP, hK, hD0, hE, hV⟩ := hv
  have hx := B.exec
  have hb := B.bytes
  have hr := B.returns
  have hts := atoms_spec (ws := wk_L_setWeight) B.pre
  have hown : s.vm.findClass RL = some m.cls := findClass_of_methodNamed B.named
  have hlocks := B.notSynchronized
  have htab : c.exceptionTable.toList = tableOf [(0, 10, 13, 20)] := vx_table (x := yL_setWeight) B (hts _ List.mem_cons_self)
  have w_1 := hts (.classLink RL 20 iob) (List.mem_of_getElem? (i := 1) rfl)
  subst hsz
  have hD := hD0.self (sz := s.heap.size)
  generalize hAe : va_A [(x, .inr (9, [.ref st, .ref kp, .int 0, .ref bf, .int 0, .int (-1), .int (-1), .int 0, .ref o1, .ref o2, .ref o3, .ref o4, .ref o5, .ref o6])), (st, .inr (8, [.ref lt, .ref tb, .ref fl, .ref wt, .int 0, .null])), (wt, .inl (cI, 3, .inl (fun _ => 1))), (ou, .inl (cJ, 1, .inr (.inl (fun _ => 0))))] s.heap.size = A at hD hE ⊢
  have hA : ∀ q : Nat, s.heap.size ≤ q → A q := fun q h => by rw [← hAe]; exact Or.inr h
  have hS : va_S A s.heap s.heap [] := va_S.rf
  have hP : va_P D vwCl [(x, .inr (9, [.ref st, .ref kp, .int 0, .ref bf, .int 0, .int (-1), .int (-1), .int 0, .ref o1, .ref o2, .ref o3, .ref o4, .ref o5, .ref o6])), (st, .inr (8, [.ref lt, .ref tb, .ref fl, .ref wt, .int 0, .null])), (wt, .inl (cI, 3, .inl (fun _ => 1))), (ou, .inl (cJ, 1, .inr (.inl (fun _ => 0))))] s.heap := hP
  have hl := lv_entry ([.ref x, .int a0, .int a1, .ref ou]) (n := 5) (Nat.le_of_ble_eq_true rfl)
  rw [lg_entry_eq]
  generalize (lg_sl ([.ref x, .int a0, .int a1, .ref ou]) ++ List.replicate (5 - (lg_sl ([.ref x, .int a0, .int a1, .ref ou])).length) Slot.unset).toArray = ls at hl ⊢
  have hl : lv_has ls 5 [(0, .ref x), (1, .int a0), (2, .int a1), (3, .ref ou)] := hl
  refine lv_aload_n hx hb dL_setWeight_0 rfl (lv_at hl 3 rfl) ?_
  refine lv_iconst (v := 0) hx hb dL_setWeight_1 (by decide) ?_
  refine lv_aload_n hx hb dL_setWeight_2 rfl (lv_at hl 0 rfl) ?_
  refine lv_iload_n hx hb dL_setWeight_3 rfl (lv_at hl 1 rfl) ?_
  refine lv_iload_n hx hb dL_setWeight_4 rfl (lv_at hl 2 rfl) ?_
  have hPc := hP.sub (ws' := [(x, .inr (9, [.ref st, .ref kp, .int 0, .ref bf, .int 0, .int (-1), .int (-1), .int 0, .ref o1, .ref o2, .ref o3, .ref o4, .ref o5, .ref o6])), (st, .inr (8, [.ref lt, .ref tb, .ref fl, .ref wt, .int 0, .null])), (wt, .inl (cI, 3, .inl (fun _ => 1)))]) [0, 1, 2] rfl
  have hDc := hD.sub (ws' := [(x, .inr (9, [.ref st, .ref kp, .int 0, .ref bf, .int 0, .int (-1), .int (-1), .int 0, .ref o1, .ref o2, .ref o3, .ref o4, .ref o5, .ref o6])), (st, .inr (8, [.ref lt, .ref tb, .ref fl, .ref wt, .int 0, .null])), (wt, .inl (cI, 3, .inl (fun _ => 1)))]) [0, 1, 2] (by decide) rfl
  have hFc := va_free (wc := [(x, .inr (9, [.ref st, .ref kp, .int 0, .ref bf, .int 0, .int (-1), .int (-1), .int 0, .ref o1, .ref o2, .ref o3, .ref o4, .ref o5, .ref o6])), (st, .inr (8, [.ref lt, .ref tb, .ref fl, .ref wt, .int 0, .null])), (wt, .inl (cI, 3, .inl (fun _ => 1)))]) hD hS hA [0, 1, 2] rfl
  refine vx_calli (vx_runV (As := [.int a0, .int a1]) (rest := [.int 0, .ref ou]) ⟨hx, hb, hml, hown, hts⟩ (k_X10_setWeight l htr D cI cJ cZ x st kp bf o1 o2 o3 o4 o5 o6 lt tb fl wt a0 a1 s.heap.size) (cwV 2 hts gk_L_setWeight_X10_setWeight rfl rfl rfl (by decide +kernel) ⟨Nat.le_of_ble_eq_true rfl, Nat.le_of_ble_eq_true rfl⟩) ⟨xPc_blind, va_recv hK hP (ci := 9) (q0 := 0) rfl rfl, xPc_pre hPc hK hDc hE hS hFc hV⟩ rfl rfl hl.1 rfl (lv_room (Nat.le_of_ble_eq_true rfl)) dL_setWeight_5 ⟨Nat.le_of_ble_eq_true rfl, Nat.le_of_ble_eq_true rfl⟩) hS (fun q _ h => hFc q h) hFc (fun q _ h => hFc q h) (fun E ce q9 u t H_1 locs ht hvm hpx hBX hz1 hk1 hS hq9 hcv hcl => ?_) (fun r u t H_1 locs ht hvm hw hB hz1 hk1 hS => ?_)
  · rcases hBX with ⟨rfl, e_0⟩ | ⟨rfl, e_0, e_1⟩
    · have c_2 : a0.toInt < 0 := e_0
      refine vx_catch hown (tableOf []) ⟨0, 10, 13, 20⟩ (tableOf []) (by rw [htab]; rfl) (xpass0) (by decide) (by decide) w_1 (va_Nw.use rfl hV.2.2.2.2.2.1.2.2) hq9 hcv hcl ?_
      have hP : va_P D vwCl [] H_1 := fun k q h => by simp at h
      have hD : va_D A [] := ⟨fun i j p q h => by simp at h, fun k q h => by simp at h⟩
      refine W.widen (k := 1) (n := 6) (Nat.le_of_ble_eq_true rfl) (Nat.le_of_ble_eq_true rfl) ?_
      refine lv_astore (lv' := [(4, .ref q9), (0, .ref x), (1, .int a0), (2, .int a1), (3, .ref ou)]) hx hb dL_setWeight_13 hl (by decide) rfl (fun ls hl => ?_)
      refine lv_iconst (v := 1) hx hb dL_setWeight_15 (by decide) ?_
      have hP9 := hP.sub (ws' := []) [] rfl
      have hD9 := hD.sub (ws' := []) [] (by decide) rfl
      refine W.widen (k := 1) (n := 6) (Nat.le_of_ble_eq_true rfl) (Nat.le_of_ble_eq_true rfl) ?_
      exact vx_ret (W.iret (v := 1) hx hb hr (fun t ht hW => ⟨⟨1, 0, rfl, Or.inl ⟨rfl, rfl, c_2⟩, by rw [ht]; exact hP9, hD9⟩, hS.F ht⟩) hS.2.2 dL_setWeight_16)
    · have c_3 : 0 ≤ a0.toInt := e_0
      have c_4 : 3 ≤ a0.toInt := e_1
      refine vx_catch hown (tableOf []) ⟨0, 10, 13, 20⟩ (tableOf []) (by rw [htab]; rfl) (xpass0) (by decide) (by decide) w_1 (va_Nw.use rfl hV.2.2.2.2.2.1.2.2) hq9 hcv hcl ?_
      have hP : va_P D vwCl [] H_1 := fun k q h => by simp at h
      have hD : va_D A [] := ⟨fun i j p q h => by simp at h, fun k q h => by simp at h⟩
      refine W.widen (k := 1) (n := 6) (Nat.le_of_ble_eq_true rfl) (Nat.le_of_ble_eq_true rfl) ?_
      refine lv_astore (lv' := [(4, .ref q9), (0, .ref x), (1, .int a0), (2, .int a1), (3, .ref ou)]) hx hb dL_setWeight_13 hl (by decide) rfl (fun ls hl => ?_)
      refine lv_iconst (v := 1) hx hb dL_setWeight_15 (by decide) ?_
      have hP9 := hP.sub (ws' := []) [] rfl
      have hD9 := hD.sub (ws' := []) [] (by decide) rfl
      refine W.widen (k := 1) (n := 6) (Nat.le_of_ble_eq_true rfl) (Nat.le_of_ble_eq_true rfl) ?_
      exact vx_ret (W.iret (v := 1) hx hb hr (fun t ht hW => ⟨⟨1, 0, rfl, Or.inr (Or.inl ⟨rfl, rfl, c_3, c_4⟩), by rw [ht]; exact hP9, hD9⟩, hS.F ht⟩) hS.2.2 dL_setWeight_16)
  · rcases hw with ⟨rfl, e_0, e_1⟩
    have c_5 : 0 ≤ a0.toInt := e_0
    have c_6 : a0.toInt < 3 := e_1
    obtain ⟨hP1, hD1⟩ := hB
    rw [ht] at hP1
    obtain ⟨hP, hD⟩ := va_join (wr := [(ou, .inl (cJ, 1, .inr (.inl (fun _ => 0))))]) (w1 := []) hP hD [0, 1, 2] [3] rfl rfl (by decide) (by decide) hk1 hFc hP1 hD1
    have hP : va_P D vwCl [(ou, .inl (cJ, 1, .inr (.inl (fun _ => 0))))] H_1 := hP
    have hD : va_D A [(ou, .inl (cJ, 1, .inr (.inl (fun _ => 0))))] := hD
    refine W.widen (k := 1) (n := 6) (Nat.le_of_ble_eq_true rfl) (Nat.le_of_ble_eq_true rfl) ?_
    refine lv_i2l (v := 1) hx hb dL_setWeight_8 (by decide) ?_
    refine va_last hx hb hK hP hD hS 0 1 rfl rfl (i := 0) (x := 1) (vp_in_iff.mpr ⟨by decide, by decide⟩) dL_setWeight_9 (fun H_7 locs hP hD hS => ?_)
    have hP : va_P D vwCl [(ou, .inl (cJ, 1, .inr (.inl (vp_updL (fun _ => 0) ((0 : Int32).toNatClampNeg) 1))))] H_7 := hP
    have hD : va_D A [(ou, .inl (cJ, 1, .inr (.inl (vp_updL (fun _ => 0) ((0 : Int32).toNatClampNeg) 1))))] := hD
    refine lv_goto (tgt := 17) hx hb dL_setWeight_10 (by decide) ?_
    refine lv_iconst (v := 0) hx hb dL_setWeight_17 (by decide) ?_
    have hP9 := hP.sub (ws' := [(ou, .inl (cJ, 1, .inr (.inl (vp_updL (fun _ => 0) ((0 : Int32).toNatClampNeg) 1))))]) [0] rfl
    have hD9 := hD.sub (ws' := [(ou, .inl (cJ, 1, .inr (.inl (vp_updL (fun _ => 0) ((0 : Int32).toNatClampNeg) 1))))]) [0] (by decide) rfl
    refine W.widen (k := 1) (n := 6) (Nat.le_of_ble_eq_true rfl) (Nat.le_of_ble_eq_true rfl) ?_
    exact vx_ret (W.iret (v := 0) hx hb hr (fun t ht hW => ⟨⟨0, 1, rfl, Or.inr (Or.inr ⟨rfl, rfl, c_5, c_6⟩), by rw [ht]; exact hP9, hD9⟩, hS.F ht⟩) hS.2.2 dL_setWeight_18)
def wk_L_score : List Cond := .codeWith yL_score cL_score 5 (some .int) [(0, 10, 13, 20), (0, 10, 17, 15), (0, 10, 21, 116)] :: (([.classLink RL 20 iob, .classLink RL 15 ise, .methodLink RL 113 yX10_score, .instanceMethod yX10_score, .selects RX10 yX10_score yX10_score, .initialized RX10, .code yX10_score cX10_score 4 (some .int), .methodLink RX10 153 yX10_tableIn, .instanceMethod yX10_tableIn, .selects RX10 yX10_tableIn yX10_tableIn, .code yX10_tableIn cX10_tableIn 2 (some (.object "DocumentSpanner$SortedInts")), .fieldLink RX10 12 "DocumentSpanner" "state" "LDocumentSpanner$State;", .fieldLink RX10 96 "DocumentSpanner$State" "filled" "[Z", .classLink RX10 80 ise, .initialized ise, .methodLink RX10 138 yX10_checkSlot, .static yX10_checkSlot, .code yX10_checkSlot cX10_checkSlot 1 none, .classLink RX10 91 iob, .initialized iob] : List Cond) ++ wsX100 ++ wsX80 ++ (vx_atS RX10 84 ise ["java/lang/RuntimeException", "java/lang/Exception"]).filter goodWord ++ (vx_atS RX10 95 iob ["java/lang/RuntimeException", "java/lang/Exception"]).filter goodWord)
set_option maxRecDepth 20000 in
theorem ggk_L_score_X10_score : GoodIn wk_L_score wk_X10_score := goodIn_ca (goodIn_ca (goodIn_ca (goodIn_ca (goodIn_r _ [7, 8, 9, 10, 6, 11, 12, 13, 14, 15, 16, 17, 18, 19, 20] (by decide +kernel) (by decide +kernel)) (goodIn_sub (fun _ h => List.mem_cons_of_mem _ (List.mem_append_left _ (List.mem_append_left _ (List.mem_append_left _ (List.mem_append_right _ h))))) (by decide +kernel))) (goodIn_sub (fun _ h => List.mem_cons_of_mem _ (List.mem_append_left _ (List.mem_append_left _ (List.mem_append_right _ h)))) (by decide +kernel))) (goodIn_sub (fun _ h => List.mem_cons_of_mem _ (List.mem_append_left _ (List.mem_append_right _ h))) (by decide +kernel))) (goodIn_sub (fun _ h => List.mem_cons_of_mem _ (List.mem_append_right _ h)) (by decide +kernel))
set_option maxRecDepth 20000 in
theorem gk_L_score_X10_score : GoodIn wk_L_score (wsV RL 113 RX10 yX10_score wk_X10_score) := goodIn_app (goodIn_r _ [3, 4, 5, 6] (by decide +kernel) (by decide +kernel)) ggk_L_score_X10_score
set_option maxHeartbeats 4000000 in
set_option maxRecDepth 100000 in
theorem k_L_score (l : Launch) (htr : l.stackTraces = false) (D : va_G) (cI cJ cZ : ClassId) (x : Nat) (st : Nat) (kp : Nat) (bf : Nat) (o1 : Nat) (o2 : Nat) (o3 : Nat) (o4 : Nat) (o5 : Nat) (o6 : Nat) (lt : Nat) (tb : Nat) (fl : Nat) (wt : Nat) (ou : Nat) (a0 : Int32) (a1 : Int32) (sz : Nat) : vx_Met l yL_score wk_L_score ({ frames := 9, cells := 2, slots := 12, locals := 146 }) (xPc D cI cJ cZ [.ref x, .int a0, .int a1, .ref ou] [(x, .inr (9, [.ref st, .ref kp, .int 0, .ref bf, .int 0, .int (-1), .int (-1), .int 0, .ref o1, .ref o2, .ref o3, .ref o4, .ref o5, .ref o6])), (st, .inr (8, [.ref lt, .ref tb, .ref fl, .ref wt, .int 0, .null])), (fl, .inl (cZ, 6, .inl (fun _ => 0))), (ou, .inl (cJ, 1, .inr (.inl (fun _ => 0))))] sz) (va_Qi (fun (r : Int32) (u : Unit) => (r = 1 ∧ a0.toInt < 0) ∨ (r = 1 ∧ 0 ≤ a0.toInt ∧ 6 ≤ a0.toInt) ∨ (r = 2 ∧ 0 ≤ a0.toInt ∧ a0.toInt < 6)) (fun (u : Unit) (t : State) => va_P D vwCl ([] : va_W) t.heap ∧ va_D (va_A [(x, .inr (9, [.ref st, .ref kp, .int 0, .ref bf, .int 0, .int (-1), .int (-1), .int 0, .ref o1, .ref o2, .ref o3, .ref o4, .ref o5, .ref o6])), (st, .inr (8, [.ref lt, .ref tb, .ref fl, .ref wt, .int 0, .null])), (fl, .inl (cZ, 6, .inl (fun _ => 0))), (ou, .inl (cJ, 1, .inr (.inl (fun _ => 0))))] sz) ([] : va_W)) (va_A [(x, .inr (9, [.ref st, .ref kp, .int 0, .ref bf, .int 0, .int (-1), .int (-1), .int 0, .ref o1, .ref o2, .ref o3, .ref o4, .ref o5, .ref o6])), (st, .inr (8, [.ref lt, .ref tb, .ref fl, .ref wt, .int 0, .null])), (fl, .inl (cZ, 6, .inl (fun _ => 0))), (ou, .inl (cJ, 1, .inr (.inl (fun _ => 0))))] sz)) (vx_X (fun _ : Unit => True) (fun (E : String) (_ : Unit) (_ : State) => False) (va_A [(x, .inr (9, [.ref st, .ref kp, .int 0, .ref bf, .int 0, .int (-1), .int (-1), .int 0, .ref o1, .ref o2, .ref o3, .ref o4, .ref o5, .ref o6])), (st, .inr (8, [.ref lt, .ref tb, .ref fl, .ref wt, .int 0, .null])), (fl, .inl (cZ, 6, .inl (fun _ => 0))), (ou, .inl (cJ, 1, .inr (.inl (fun _ => 0))))] sz)) 2 12 (va_A [(x, .inr (9, [.ref st, .ref kp, .int 0, .ref bf, .int 0, .int (-1), .int (-1), .int 0, .ref o1, .ref o2, .ref o3, .ref o4, .ref o5, .ref o6])), (st, .inr (8, [.ref lt, .ref tb, .ref fl, .ref wt, .int 0, .null])), (fl, .inl (cZ, 6, .inl (fun _ => 0))), (ou, .inl (cJ, 1, .inr (.inl (fun _ => 0))))] sz) := by
  refine vx_ofWH (cc := cL_score) (maxL := 5) (ret := (some .int)) (by decide) rfl ?_
  intro p e s m args below meth c s₁ B hml hv
  obtain ⟨rfl, hsz, hP, hK, hD0, hE, hV⟩ := hv
  have hx := B.exec
  have hb := B.bytes
  have hr := B.returns
  have hts := atoms_spec (ws := wk_L_score) B.pre
  have hown : s.vm.findClass RL = some m.cls := findClass_of_methodNamed B.named
  have hlocks := B.notSynchronized
  have htab : c.exceptionTable.toList = tableOf [(0, 10, 13, 20), (0, 10, 17, 15), (0, 10, 21, 116)] := vx_table (x := yL_score) B (hts _ List.mem_cons_self)
  have w_1 := hts (.classLink RL 20 iob) (List.mem_of_getElem? (i := 1) rfl)
  have w_2 := hts (.classLink RL 15 ise) (List.mem_of_getElem? (i := 2) rfl)
  subst hsz
  have hD := hD0.self (sz := s.heap.size)
  generalize hAe : va_A [(x, .inr (9, [.ref st, .ref kp, .int 0, .ref bf, .int 0, .int (-1), .int (-1), .int 0, .ref o1, .ref o2, .ref o3, .ref o4, .ref o5, .ref o6])), (st, .inr (8, [.ref lt, .ref tb, .ref fl, .ref wt, .int 0, .null])), (fl, .inl (cZ, 6, .inl (fun _ => 0))), (ou, .inl (cJ, 1, .inr (.inl (fun _ => 0))))] s.heap.size = A at hD hE ⊢
  have hA : ∀ q : Nat, s.heap.size ≤ q → A q := fun q h => by rw [← hAe]; exact Or.inr h
  have hS : va_S A s.heap s.heap [] := va_S.rf
  have hP : va_P D vwCl [(x, .inr (9, [.ref st, .ref kp, .int 0, .ref bf, .int 0, .int (-1), .int (-1), .int 0, .ref o1, .ref o2, .ref o3, .ref o4, .ref o5, .ref o6])), (st, .inr (8, [.ref lt, .ref tb, .ref fl, .ref wt, .int 0, .null])), (fl, .inl (cZ, 6, .inl (fun _ => 0))), (ou, .inl (cJ, 1, .inr (.inl (fun _ => 0))))] s.heap := hP
  have hl := lv_entry ([.ref x, .int a0, .int a1, .ref ou]) (n := 5) (Nat.le_of_ble_eq_true rfl)
  rw [lg_entry_eq]
  generalize (lg_sl ([.ref x, .int a0, .int a1, .ref ou]) ++ List.replicate (5 - (lg_sl ([.ref x, .int a0, .int a1, .ref ou])).length) Slot.unset).toArray = ls at hl ⊢
  have hl : lv_has ls 5 [(0, .ref x), (1, .int a0), (2, .int a1), (3, .ref ou)] := hl
  refine lv_aload_n hx hb dL_score_0 rfl (lv_at hl 3 rfl) ?_
  refine lv_iconst (v := 0) hx hb dL_score_1 (by decide) ?_
  refine lv_aload_n hx hb dL_score_2 rfl (lv_at hl 0 rfl) ?_
  refine lv_iload_n hx hb dL_score_3 rfl (lv_at hl 1 rfl) ?_
  refine lv_iload_n hx hb dL_score_4 rfl (lv_at hl 2 rfl) ?_
  have hPc := hP.sub (ws' := [(x, .inr (9, [.ref st, .ref kp, .int 0, .ref bf, .int 0, .int (-1), .int (-1), .int 0, .ref o1, .ref o2, .ref o3, .ref o4, .ref o5, .ref o6])), (st, .inr (8, [.ref lt, .ref tb, .ref fl, .ref wt, .int 0, .null])), (fl, .inl (cZ, 6, .inl (fun _ => 0)))]) [0, 1, 2] rfl
  have hDc := hD.sub (ws' := [(x, .inr (9, [.ref st, .ref kp, .int 0, .ref bf, .int 0, .int (-1), .int (-1), .int 0, .ref o1, .ref o2, .ref o3, .ref o4, .ref o5, .ref o6])), (st, .inr (8, [.ref lt, .ref tb, .ref fl, .ref wt, .int 0, .null])), (fl, .inl (cZ, 6, .inl (fun _ => 0)))]) [0, 1, 2] (by decide) rfl
  have hFc := va_free (wc := [(x, .inr (9, [.ref st, .ref kp, .int 0, .ref bf, .int 0, .int (-1), .int (-1), .int 0, .ref o1, .ref o2, .ref o3, .ref o4, .ref o5, .ref o6])), (st, .inr (8, [.ref lt, .ref tb, .ref fl, .ref wt, .int 0, .null])), (fl, .inl (cZ, 6, .inl (fun _ => 0)))]) hD hS hA [0, 1, 2] rfl
  refine vx_calli (vx_runV (As := [.int a0, .int a1]) (rest := [.int 0, .ref ou]) ⟨hx, hb, hml, hown, hts⟩ (k_X10_score l htr D cI cJ cZ x st kp bf o1 o2 o3 o4 o5 o6 lt tb fl wt a0 a1 s.heap.size) (cwV 2 hts gk_L_score_X10_score rfl rfl rfl (by decide +kernel) ⟨Nat.le_of_ble_eq_true rfl, Nat.le_of_ble_eq_true rfl⟩) ⟨xPc_blind, va_recv hK hP (ci := 9) (q0 := 0) rfl rfl, xPc_pre hPc hK hDc hE hS hFc hV⟩ rfl rfl hl.1 rfl (lv_room (Nat.le_of_ble_eq_true rfl)) dL_score_5 ⟨Nat.le_of_ble_eq_true rfl, Nat.le_of_ble_eq_true rfl⟩) hS (fun q _ h => hFc q h) hFc (fun q _ h => hFc q h) (fun E ce q9 u t H_1 locs ht hvm hpx hBX hz1 hk1 hS hq9 hcv hcl => ?_) (fun r u t H_1 locs ht hvm hw hB hz1 hk1 hS => ?_)
  · rcases hBX with ⟨rfl, e_0⟩ | ⟨rfl, e_0, e_1⟩ | ⟨rfl, e_0, e_1⟩
    · have c_2 : a0.toInt < 0 := e_0
      refine vx_catch hown (tableOf []) ⟨0, 10, 13, 20⟩ (tableOf [(0, 10, 17, 15), (0, 10, 21, 116)]) (by rw [htab]; rfl) (xpass0) (by decide) (by decide) w_1 (va_Nw.use rfl hV.2.2.2.2.2.1.2.2) hq9 hcv hcl ?_
      have hP : va_P D vwCl [] H_1 := fun k q h => by simp at h
      have hD : va_D A [] := ⟨fun i j p q h => by simp at h, fun k q h => by simp at h⟩
      refine W.widen (k := 2) (n := 12) (Nat.le_of_ble_eq_true rfl) (Nat.le_of_ble_eq_true rfl) ?_
      refine lv_astore (lv' := [(4, .ref q9), (0, .ref x), (1, .int a0), (2, .int a1), (3, .ref ou)]) hx hb dL_score_13 hl (by decide) rfl (fun ls hl => ?_)
      refine lv_iconst (v := 1) hx hb dL_score_15 (by decide) ?_
      have hP9 := hP.sub (ws' := []) [] rfl
      have hD9 := hD.sub (ws' := []) [] (by decide) rfl
      refine W.widen (k := 2) (n := 12) (Nat.le_of_ble_eq_true rfl) (Nat.le_of_ble_eq_true rfl) ?_
      exact vx_ret (W.iret (v := 1) hx hb hr (fun t ht hW => ⟨⟨1, (), rfl, Or.inl ⟨rfl, c_2⟩, by rw [ht]; exact hP9, hD9⟩, hS.F ht⟩) hS.2.2 dL_score_16)
    · have c_3 : 0 ≤ a0.toInt := e_0
      have c_4 : 6 ≤ a0.toInt := e_1
      refine vx_catch hown (tableOf []) ⟨0, 10, 13, 20⟩ (tableOf [(0, 10, 17, 15), (0, 10, 21, 116)]) (by rw [htab]; rfl) (xpass0) (by decide) (by decide) w_1 (va_Nw.use rfl hV.2.2.2.2.2.1.2.2) hq9 hcv hcl ?_
      have hP : va_P D vwCl [] H_1 := fun k q h => by simp at h
      have hD : va_D A [] := ⟨fun i j p q h => by simp at h, fun k q h => by simp at h⟩
      refine W.widen (k := 2) (n := 12) (Nat.le_of_ble_eq_true rfl) (Nat.le_of_ble_eq_true rfl) ?_
      refine lv_astore (lv' := [(4, .ref q9), (0, .ref x), (1, .int a0), (2, .int a1), (3, .ref ou)]) hx hb dL_score_13 hl (by decide) rfl (fun ls hl => ?_)
      refine lv_iconst (v := 1) hx hb dL_score_15 (by decide) ?_
      have hP9 := hP.sub (ws' := []) [] rfl
      have hD9 := hD.sub (ws' := []) [] (by decide) rfl
      refine W.widen (k := 2) (n := 12) (Nat.le_of_ble_eq_true rfl) (Nat.le_of_ble_eq_true rfl) ?_
      exact vx_ret (W.iret (v := 1) hx hb hr (fun t ht hW => ⟨⟨1, (), rfl, Or.inr (Or.inl ⟨rfl, c_3, c_4⟩), by rw [ht]; exact hP9, hD9⟩, hS.F ht⟩) hS.2.2 dL_score_16)
    · have c_5 : 0 ≤ a0.toInt := e_0
      have c_6 : a0.toInt < 6 := e_1
      refine vx_catch hown (tableOf [(0, 10, 13, 20)]) ⟨0, 10, 17, 15⟩ (tableOf [(0, 10, 21, 116)]) (by rw [htab]; rfl) (xpass1 (Or.inr ⟨by decide, iob, w_1, hV.2.2.2.2.2.2.1.1⟩)) (by decide) (by decide) w_2 (va_Nw.use rfl hV.2.2.2.2.2.1.2.1) hq9 hcv hcl ?_
      have hP : va_P D vwCl [] H_1 := fun k q h => by simp at h
      have hD : va_D A [] := ⟨fun i j p q h => by simp at h, fun k q h => by simp at h⟩
      refine W.widen (k := 2) (n := 12) (Nat.le_of_ble_eq_true rfl) (Nat.le_of_ble_eq_true rfl) ?_
      refine lv_astore (lv' := [(4, .ref q9), (0, .ref x), (1, .int a0), (2, .int a1), (3, .ref ou)]) hx hb dL_score_17 hl (by decide) rfl (fun ls hl => ?_)
      refine lv_iconst (v := 2) hx hb dL_score_19 (by decide) ?_
      have hP9 := hP.sub (ws' := []) [] rfl
      have hD9 := hD.sub (ws' := []) [] (by decide) rfl
      refine W.widen (k := 2) (n := 12) (Nat.le_of_ble_eq_true rfl) (Nat.le_of_ble_eq_true rfl) ?_
      exact vx_ret (W.iret (v := 2) hx hb hr (fun t ht hW => ⟨⟨2, (), rfl, Or.inr (Or.inr ⟨rfl, c_5, c_6⟩), by rw [ht]; exact hP9, hD9⟩, hS.F ht⟩) hS.2.2 dL_score_20)
  · exact hw.elim
def wk_L_classes : List Cond := .codeWith yL_classes cL_classes 4 (some .int) [(0, 9, 12, 20), (0, 9, 15, 15), (0, 9, 18, 116)] :: (([.classLink RL 20 iob, .classLink RL 15 ise, .methodLink RL 118 yX10_classes, .instanceMethod yX10_classes, .selects RX10 yX10_classes yX10_classes, .initialized RX10, .code yX10_classes cX10_classes 2 (some .int), .methodLink RX10 153 yX10_tableIn, .instanceMethod yX10_tableIn, .selects RX10 yX10_tableIn yX10_tableIn, .code yX10_tableIn cX10_tableIn 2 (some (.object "DocumentSpanner$SortedInts")), .fieldLink RX10 12 "DocumentSpanner" "state" "LDocumentSpanner$State;", .fieldLink RX10 96 "DocumentSpanner$State" "filled" "[Z", .classLink RX10 80 ise, .initialized ise, .methodLink RX10 138 yX10_checkSlot, .static yX10_checkSlot, .code yX10_checkSlot cX10_checkSlot 1 none, .classLink RX10 91 iob, .initialized iob] : List Cond) ++ wsX100 ++ wsX80 ++ (vx_atS RX10 84 ise ["java/lang/RuntimeException", "java/lang/Exception"]).filter goodWord ++ (vx_atS RX10 95 iob ["java/lang/RuntimeException", "java/lang/Exception"]).filter goodWord)
set_option maxRecDepth 20000 in
theorem ggk_L_classes_X10_classes : GoodIn wk_L_classes wk_X10_classes := goodIn_ca (goodIn_ca (goodIn_ca (goodIn_ca (goodIn_r _ [7, 8, 9, 10, 6, 11, 12, 13, 14, 15, 16, 17, 18, 19, 20] (by decide +kernel) (by decide +kernel)) (goodIn_sub (fun _ h => List.mem_cons_of_mem _ (List.mem_append_left _ (List.mem_append_left _ (List.mem_append_left _ (List.mem_append_right _ h))))) (by decide +kernel))) (goodIn_sub (fun _ h => List.mem_cons_of_mem _ (List.mem_append_left _ (List.mem_append_left _ (List.mem_append_right _ h)))) (by decide +kernel))) (goodIn_sub (fun _ h => List.mem_cons_of_mem _ (List.mem_append_left _ (List.mem_append_right _ h))) (by decide +kernel))) (goodIn_sub (fun _ h => List.mem_cons_of_mem _ (List.mem_append_right _ h)) (by decide +kernel))
set_option maxRecDepth 20000 in
theorem gk_L_classes_X10_classes : GoodIn wk_L_classes (wsV RL 118 RX10 yX10_classes wk_X10_classes) := goodIn_app (goodIn_r _ [3, 4, 5, 6] (by decide +kernel) (by decide +kernel)) ggk_L_classes_X10_classes
set_option maxHeartbeats 4000000 in
set_option maxRecDepth 100000 in
theorem k_L_classes (l : Launch) (htr : l.stackTraces = false) (D : va_G) (cI cJ cZ : ClassId) (x : Nat) (st : Nat) (kp : Nat) (bf : Nat) (o1 : Nat) (o2 : Nat) (o3 : Nat) (o4 : Nat) (o5 : Nat) (o6 : Nat) (lt : Nat) (tb : Nat) (fl : Nat) (wt : Nat) (ou : Nat) (a0 : Int32) (sz : Nat) : vx_Met l yL_classes wk_L_classes ({ frames := 9, cells := 2, slots := 12, locals := 144 }) (xPc D cI cJ cZ [.ref x, .int a0, .ref ou] [(x, .inr (9, [.ref st, .ref kp, .int 0, .ref bf, .int 0, .int (-1), .int (-1), .int 0, .ref o1, .ref o2, .ref o3, .ref o4, .ref o5, .ref o6])), (st, .inr (8, [.ref lt, .ref tb, .ref fl, .ref wt, .int 0, .null])), (fl, .inl (cZ, 6, .inl (fun _ => 0))), (ou, .inl (cJ, 1, .inr (.inl (fun _ => 0))))] sz) (va_Qi (fun (r : Int32) (u : Unit) => (r = 1 ∧ a0.toInt < 0) ∨ (r = 1 ∧ 0 ≤ a0.toInt ∧ 6 ≤ a0.toInt) ∨ (r = 2 ∧ 0 ≤ a0.toInt ∧ a0.toInt < 6)) (fun (u : Unit) (t : State) => va_P D vwCl ([] : va_W) t.heap ∧ va_D (va_A [(x, .inr (9, [.ref st, .ref kp, .int 0, .ref bf, .int 0, .int (-1), .int (-1), .int 0, .ref o1, .ref o2, .ref o3, .ref o4, .ref o5, .ref o6])), (st, .inr (8, [.ref lt, .ref tb, .ref fl, .ref wt, .int 0, .null])), (fl, .inl (cZ, 6, .inl (fun _ => 0))), (ou, .inl (cJ, 1, .inr (.inl (fun _ => 0))))] sz) ([] : va_W)) (va_A [(x, .inr (9, [.ref st, .ref kp, .int 0, .ref bf, .int 0, .int (-1), .int (-1), .int 0, .ref o1, .ref o2, .ref o3, .ref o4, .ref o5, .ref o6])), (st, .inr (8, [.ref lt, .ref tb, .ref fl, .ref wt, .int 0, .null])), (fl, .inl (cZ, 6, .inl (fun _ => 0))), (ou, .inl (cJ, 1, .inr (.inl (fun _ => 0))))] sz)) (vx_X (fun _ : Unit => True) (fun (E : String) (_ : Unit) (_ : State) => False) (va_A [(x, .inr (9, [.ref st, .ref kp, .int 0, .ref bf, .int 0, .int (-1), .int (-1), .int 0, .ref o1, .ref o2, .ref o3, .ref o4, .ref o5, .ref o6])), (st, .inr (8, [.ref lt, .ref tb, .ref fl, .ref wt, .int 0, .null])), (fl, .inl (cZ, 6, .inl (fun _ => 0))), (ou, .inl (cJ, 1, .inr (.inl (fun _ => 0))))] sz)) 2 12 (va_A [(x, .inr (9, [.ref st, .ref kp, .int 0, .ref bf, .int 0, .int (-1), .int (-1), .int 0, .ref o1, .ref o2, .ref o3, .ref o4, .ref o5, .ref o6])), (st, .inr (8, [.ref lt, .ref tb, .ref fl, .ref wt, .int 0, .null])), (fl, .inl (cZ, 6, .inl (fun _ => 0))), (ou, .inl (cJ, 1, .inr (.inl (fun _ => 0))))] sz) := by
  refine vx_ofWH (cc := cL_classes) (maxL := 4) (ret := (some .int)) (by decide) rfl ?_
  intro p e s m args below meth c s₁ B hml hv
  obtain ⟨rfl, hsz, hP, hK, hD0, hE, hV⟩ := hv
  have hx := B.exec
  have hb := B.bytes
  have hr := B.returns
  have hts := atoms_spec (ws := wk_L_classes) B.pre
  have hown : s.vm.findClass RL = some m.cls := findClass_of_methodNamed B.named
  have hlocks := B.notSynchronized
  have htab : c.exceptionTable.toList = tableOf [(0, 9, 12, 20), (0, 9, 15, 15), (0, 9, 18, 116)] := vx_table (x := yL_classes) B (hts _ List.mem_cons_self)
  have w_1 := hts (.classLink RL 20 iob) (List.mem_of_getElem? (i := 1) rfl)
  have w_2 := hts (.classLink RL 15 ise) (List.mem_of_getElem? (i := 2) rfl)
  subst hsz
  have hD := hD0.self (sz := s.heap.size)
  generalize hAe : va_A [(x, .inr (9, [.ref st, .ref kp, .int 0, .ref bf, .int 0, .int (-1), .int (-1), .int 0, .ref o1, .ref o2, .ref o3, .ref o4, .ref o5, .ref o6])), (st, .inr (8, [.ref lt, .ref tb, .ref fl, .ref wt, .int 0, .null])), (fl, .inl (cZ, 6, .inl (fun _ => 0))), (ou, .inl (cJ, 1, .inr (.inl (fun _ => 0))))] s.heap.size = A at hD hE ⊢
  have hA : ∀ q : Nat, s.heap.size ≤ q → A q := fun q h => by rw [← hAe]; exact Or.inr h
  have hS : va_S A s.heap s.heap [] := va_S.rf
  have hP : va_P D vwCl [(x, .inr (9, [.ref st, .ref kp, .int 0, .ref bf, .int 0, .int (-1), .int (-1), .int 0, .ref o1, .ref o2, .ref o3, .ref o4, .ref o5, .ref o6])), (st, .inr (8, [.ref lt, .ref tb, .ref fl, .ref wt, .int 0, .null])), (fl, .inl (cZ, 6, .inl (fun _ => 0))), (ou, .inl (cJ, 1, .inr (.inl (fun _ => 0))))] s.heap := hP
  have hl := lv_entry ([.ref x, .int a0, .ref ou]) (n := 4) (Nat.le_of_ble_eq_true rfl)
  rw [lg_entry_eq]
  generalize (lg_sl ([.ref x, .int a0, .ref ou]) ++ List.replicate (4 - (lg_sl ([.ref x, .int a0, .ref ou])).length) Slot.unset).toArray = ls at hl ⊢
  have hl : lv_has ls 4 [(0, .ref x), (1, .int a0), (2, .ref ou)] := hl
  refine lv_aload_n hx hb dL_classes_0 rfl (lv_at hl 2 rfl) ?_
  refine lv_iconst (v := 0) hx hb dL_classes_1 (by decide) ?_
  refine lv_aload_n hx hb dL_classes_2 rfl (lv_at hl 0 rfl) ?_
  refine lv_iload_n hx hb dL_classes_3 rfl (lv_at hl 1 rfl) ?_
  have hPc := hP.sub (ws' := [(x, .inr (9, [.ref st, .ref kp, .int 0, .ref bf, .int 0, .int (-1), .int (-1), .int 0, .ref o1, .ref o2, .ref o3, .ref o4, .ref o5, .ref o6])), (st, .inr (8, [.ref lt, .ref tb, .ref fl, .ref wt, .int 0, .null])), (fl, .inl (cZ, 6, .inl (fun _ => 0)))]) [0, 1, 2] rfl
  have hDc := hD.sub (ws' := [(x, .inr (9, [.ref st, .ref kp, .int 0, .ref bf, .int 0, .int (-1), .int (-1), .int 0, .ref o1, .ref o2, .ref o3, .ref o4, .ref o5, .ref o6])), (st, .inr (8, [.ref lt, .ref tb, .ref fl, .ref wt, .int 0, .null])), (fl, .inl (cZ, 6, .inl (fun _ => 0)))]) [0, 1, 2] (by decide) rfl
  have hFc := va_free (wc := [(x, .inr (9, [.ref st, .ref kp, .int 0, .ref bf, .int 0, .int (-1), .int (-1), .int 0, .ref o1, .ref o2, .ref o3, .ref o4, .ref o5, .ref o6])), (st, .inr (8, [.ref lt, .ref tb, .ref fl, .ref wt, .int 0, .null])), (fl, .inl (cZ, 6, .inl (fun _ => 0)))]) hD hS hA [0, 1, 2] rfl
  refine vx_calli (vx_runV (As := [.int a0]) (rest := [.int 0, .ref ou]) ⟨hx, hb, hml, hown, hts⟩ (k_X10_classes l htr D cI cJ cZ x st kp bf o1 o2 o3 o4 o5 o6 lt tb fl wt a0 s.heap.size) (cwV 1 hts gk_L_classes_X10_classes rfl rfl rfl (by decide +kernel) ⟨Nat.le_of_ble_eq_true rfl, Nat.le_of_ble_eq_true rfl⟩) ⟨xPc_blind, va_recv hK hP (ci := 9) (q0 := 0) rfl rfl, xPc_pre hPc hK hDc hE hS hFc hV⟩ rfl rfl hl.1 rfl (lv_room (Nat.le_of_ble_eq_true rfl)) dL_classes_4 ⟨Nat.le_of_ble_eq_true rfl, Nat.le_of_ble_eq_true rfl⟩) hS (fun q _ h => hFc q h) hFc (fun q _ h => hFc q h) (fun E ce q9 u t H_1 locs ht hvm hpx hBX hz1 hk1 hS hq9 hcv hcl => ?_) (fun r u t H_1 locs ht hvm hw hB hz1 hk1 hS => ?_)
  · rcases hBX with ⟨rfl, e_0⟩ | ⟨rfl, e_0, e_1⟩ | ⟨rfl, e_0, e_1⟩
    · have c_2 : a0.toInt < 0 := e_0
      refine vx_catch hown (tableOf []) ⟨0, 9, 12, 20⟩ (tableOf [(0, 9, 15, 15), (0, 9, 18, 116)]) (by rw [htab]; rfl) (xpass0) (by decide) (by decide) w_1 (va_Nw.use rfl hV.2.2.2.2.2.1.2.2) hq9 hcv hcl ?_
      have hP : va_P D vwCl [] H_1 := fun k q h => by simp at h
      have hD : va_D A [] := ⟨fun i j p q h => by simp at h, fun k q h => by simp at h⟩
      refine W.widen (k := 2) (n := 12) (Nat.le_of_ble_eq_true rfl) (Nat.le_of_ble_eq_true rfl) ?_
      refine lv_astore_n (lv' := [(3, .ref q9), (0, .ref x), (1, .int a0), (2, .ref ou)]) hx hb dL_classes_12 rfl hl (by decide) rfl (fun ls hl => ?_)
      refine lv_iconst (v := 1) hx hb dL_classes_13 (by decide) ?_
      have hP9 := hP.sub (ws' := []) [] rfl
      have hD9 := hD.sub (ws' := []) [] (by decide) rfl
      refine W.widen (k := 2) (n := 12) (Nat.le_of_ble_eq_true rfl) (Nat.le_of_ble_eq_true rfl) ?_
      exact vx_ret (W.iret (v := 1) hx hb hr (fun t ht hW => ⟨⟨1, (), rfl, Or.inl ⟨rfl, c_2⟩, by rw [ht]; exact hP9, hD9⟩, hS.F ht⟩) hS.2.2 dL_classes_14)
    · have c_3 : 0 ≤ a0.toInt := e_0
      have c_4 : 6 ≤ a0.toInt := e_1
      refine vx_catch hown (tableOf []) ⟨0, 9, 12, 20⟩ (tableOf [(0, 9, 15, 15), (0, 9, 18, 116)]) (by rw [htab]; rfl) (xpass0) (by decide) (by decide) w_1 (va_Nw.use rfl hV.2.2.2.2.2.1.2.2) hq9 hcv hcl ?_
      have hP : va_P D vwCl [] H_1 := fun k q h => by simp at h
      have hD : va_D A [] := ⟨fun i j p q h => by simp at h, fun k q h => by simp at h⟩
      refine W.widen (k := 2) (n := 12) (Nat.le_of_ble_eq_true rfl) (Nat.le_of_ble_eq_true rfl) ?_
      refine lv_astore_n (lv' := [(3, .ref q9), (0, .ref x), (1, .int a0), (2, .ref ou)]) hx hb dL_classes_12 rfl hl (by decide) rfl (fun ls hl => ?_)
      refine lv_iconst (v := 1) hx hb dL_classes_13 (by decide) ?_
      have hP9 := hP.sub (ws' := []) [] rfl
      have hD9 := hD.sub (ws' := []) [] (by decide) rfl
      refine W.widen (k := 2) (n := 12) (Nat.le_of_ble_eq_true rfl) (Nat.le_of_ble_eq_true rfl) ?_
      exact vx_ret (W.iret (v := 1) hx hb hr (fun t ht hW => ⟨⟨1, (), rfl, Or.inr (Or.inl ⟨rfl, c_3, c_4⟩), by rw [ht]; exact hP9, hD9⟩, hS.F ht⟩) hS.2.2 dL_classes_14)
    · have c_5 : 0 ≤ a0.toInt := e_0
      have c_6 : a0.toInt < 6 := e_1
      refine vx_catch hown (tableOf [(0, 9, 12, 20)]) ⟨0, 9, 15, 15⟩ (tableOf [(0, 9, 18, 116)]) (by rw [htab]; rfl) (xpass1 (Or.inr ⟨by decide, iob, w_1, hV.2.2.2.2.2.2.1.1⟩)) (by decide) (by decide) w_2 (va_Nw.use rfl hV.2.2.2.2.2.1.2.1) hq9 hcv hcl ?_
      have hP : va_P D vwCl [] H_1 := fun k q h => by simp at h
      have hD : va_D A [] := ⟨fun i j p q h => by simp at h, fun k q h => by simp at h⟩
      refine W.widen (k := 2) (n := 12) (Nat.le_of_ble_eq_true rfl) (Nat.le_of_ble_eq_true rfl) ?_
      refine lv_astore_n (lv' := [(3, .ref q9), (0, .ref x), (1, .int a0), (2, .ref ou)]) hx hb dL_classes_15 rfl hl (by decide) rfl (fun ls hl => ?_)
      refine lv_iconst (v := 2) hx hb dL_classes_16 (by decide) ?_
      have hP9 := hP.sub (ws' := []) [] rfl
      have hD9 := hD.sub (ws' := []) [] (by decide) rfl
      refine W.widen (k := 2) (n := 12) (Nat.le_of_ble_eq_true rfl) (Nat.le_of_ble_eq_true rfl) ?_
      exact vx_ret (W.iret (v := 2) hx hb hr (fun t ht hW => ⟨⟨2, (), rfl, Or.inr (Or.inr ⟨rfl, c_5, c_6⟩), by rw [ht]; exact hP9, hD9⟩, hS.F ht⟩) hS.2.2 dL_classes_17)
  · exact hw.elim
def wk_L_rank : List Cond := .codeWith yL_rank cL_rank 5 (some .int) [(0, 10, 13, 20), (0, 10, 17, 15), (0, 10, 21, 116)] :: (([.classLink RL 20 iob, .classLink RL 15 ise, .methodLink RL 121 yX10_rank, .instanceMethod yX10_rank, .selects RX10 yX10_rank yX10_rank, .initialized RX10, .code yX10_rank cX10_rank 4 (some .int), .methodLink RX10 153 yX10_tableIn, .instanceMethod yX10_tableIn, .selects RX10 yX10_tableIn yX10_tableIn, .code yX10_tableIn cX10_tableIn 2 (some (.object "DocumentSpanner$SortedInts")), .fieldLink RX10 12 "DocumentSpanner" "state" "LDocumentSpanner$State;", .fieldLink RX10 96 "DocumentSpanner$State" "filled" "[Z", .classLink RX10 80 ise, .initialized ise, .methodLink RX10 138 yX10_checkSlot, .static yX10_checkSlot, .code yX10_checkSlot cX10_checkSlot 1 none, .classLink RX10 91 iob, .initialized iob] : List Cond) ++ wsX100 ++ wsX80 ++ (vx_atS RX10 84 ise ["java/lang/RuntimeException", "java/lang/Exception"]).filter goodWord ++ (vx_atS RX10 95 iob ["java/lang/RuntimeException", "java/lang/Exception"]).filter goodWord)
set_option maxRecDepth 20000 in
theorem ggk_L_rank_X10_rank : GoodIn wk_L_rank wk_X10_rank := goodIn_ca (goodIn_ca (goodIn_ca (goodIn_ca (goodIn_r _ [7, 8, 9, 10, 6, 11, 12, 13, 14, 15, 16, 17, 18, 19, 20] (by decide +kernel) (by decide +kernel)) (goodIn_sub (fun _ h => List.mem_cons_of_mem _ (List.mem_append_left _ (List.mem_append_left _ (List.mem_append_left _ (List.mem_append_right _ h))))) (by decide +kernel))) (goodIn_sub (fun _ h => List.mem_cons_of_mem _ (List.mem_append_left _ (List.mem_append_left _ (List.mem_append_right _ h)))) (by decide +kernel))) (goodIn_sub (fun _ h => List.mem_cons_of_mem _ (List.mem_append_left _ (List.mem_append_right _ h))) (by decide +kernel))) (goodIn_sub (fun _ h => List.mem_cons_of_mem _ (List.mem_append_right _ h)) (by decide +kernel))
set_option maxRecDepth 20000 in
theorem gk_L_rank_X10_rank : GoodIn wk_L_rank (wsV RL 121 RX10 yX10_rank wk_X10_rank) := goodIn_app (goodIn_r _ [3, 4, 5, 6] (by decide +kernel) (by decide +kernel)) ggk_L_rank_X10_rank
set_option maxHeartbeats 4000000 in
set_option maxRecDepth 100000 in
theorem k_L_rank (l : Launch) (htr : l.stackTraces = false) (D : va_G) (cI cJ cZ : ClassId) (x : Nat) (st : Nat) (kp : Nat) (bf : Nat) (o1 : Nat) (o2 : Nat) (o3 : Nat) (o4 : Nat) (o5 : Nat) (o6 : Nat) (lt : Nat) (tb : Nat) (fl : Nat) (wt : Nat) (ou : Nat) (a0 : Int32) (a1 : Int32) (sz : Nat) : vx_Met l yL_rank wk_L_rank ({ frames := 9, cells := 2, slots := 12, locals := 146 }) (xPc D cI cJ cZ [.ref x, .int a0, .int a1, .ref ou] [(x, .inr (9, [.ref st, .ref kp, .int 0, .ref bf, .int 0, .int (-1), .int (-1), .int 0, .ref o1, .ref o2, .ref o3, .ref o4, .ref o5, .ref o6])), (st, .inr (8, [.ref lt, .ref tb, .ref fl, .ref wt, .int 0, .null])), (fl, .inl (cZ, 6, .inl (fun _ => 0))), (ou, .inl (cJ, 1, .inr (.inl (fun _ => 0))))] sz) (va_Qi (fun (r : Int32) (u : Unit) => (r = 1 ∧ a0.toInt < 0) ∨ (r = 1 ∧ 0 ≤ a0.toInt ∧ 6 ≤ a0.toInt) ∨ (r = 2 ∧ 0 ≤ a0.toInt ∧ a0.toInt < 6)) (fun (u : Unit) (t : State) => va_P D vwCl ([] : va_W) t.heap ∧ va_D (va_A [(x, .inr (9, [.ref st, .ref kp, .int 0, .ref bf, .int 0, .int (-1), .int (-1), .int 0, .ref o1, .ref o2, .ref o3, .ref o4, .ref o5, .ref o6])), (st, .inr (8, [.ref lt, .ref tb, .ref fl, .ref wt, .int 0, .null])), (fl, .inl (cZ, 6, .inl (fun _ => 0))), (ou, .inl (cJ, 1, .inr (.inl (fun _ => 0))))] sz) ([] : va_W)) (va_A [(x, .inr (9, [.ref st, .ref kp, .int 0, .ref bf, .int 0, .int (-1), .int (-1), .int 0, .ref o1, .ref o2, .ref o3, .ref o4, .ref o5, .ref o6])), (st, .inr (8, [.ref lt, .ref tb, .ref fl, .ref wt, .int 0, .null])), (fl, .inl (cZ, 6, .inl (fun _ => 0))), (ou, .inl (cJ, 1, .inr (.inl (fun _ => 0))))] sz)) (vx_X (fun _ : Unit => True) (fun (E : String) (_ : Unit) (_ : State) => False) (va_A [(x, .inr (9, [.ref st, .ref kp, .int 0, .ref bf, .int 0, .int (-1), .int (-1), .int 0, .ref o1, .ref o2, .ref o3, .ref o4, .ref o5, .ref o6])), (st, .inr (8, [.ref lt, .ref tb, .ref fl, .ref wt, .int 0, .null])), (fl, .inl (cZ, 6, .inl (fun _ => 0))), (ou, .inl (cJ, 1, .inr (.inl (fun _ => 0))))] sz)) 2 12 (va_A [(x, .inr (9, [.ref st, .ref kp, .int 0, .ref bf, .int 0, .int (-1), .int (-1), .int 0, .ref o1, .ref o2, .ref o3, .ref o4, .ref o5, .ref o6])), (st, .inr (8, [.ref lt, .ref tb, .ref fl, .ref wt, .int 0, .null])), (fl, .inl (cZ, 6, .inl (fun _ => 0))), (ou, .inl (cJ, 1, .inr (.inl (fun _ => 0))))] sz) := by
  refine vx_ofWH (cc := cL_rank) (maxL := 5) (ret := (some .int)) (by decide) rfl ?_
  intro p e s m args below meth c s₁ B hml hv
  obtain ⟨rfl, hsz, hP, hK, hD0, hE, hV⟩ := hv
  have hx := B.exec
  have hb := B.bytes
  have hr := B.returns
  have hts := atoms_spec (ws := wk_L_rank) B.pre
  have hown : s.vm.findClass RL = some m.cls := findClass_of_methodNamed B.named
  have hlocks := B.notSynchronized
  have htab : c.exceptionTable.toList = tableOf [(0, 10, 13, 20), (0, 10, 17, 15), (0, 10, 21, 116)] := vx_table (x := yL_rank) B (hts _ List.mem_cons_self)
  have w_1 := hts (.classLink RL 20 iob) (List.mem_of_getElem? (i := 1) rfl)
  have w_2 := hts (.classLink RL 15 ise) (List.mem_of_getElem? (i := 2) rfl)
  subst hsz
  have hD := hD0.self (sz := s.heap.size)
  generalize hAe : va_A [(x, .inr (9, [.ref st, .ref kp, .int 0, .ref bf, .int 0, .int (-1), .int (-1), .int 0, .ref o1, .ref o2, .ref o3, .ref o4, .ref o5, .ref o6])), (st, .inr (8, [.ref lt, .ref tb, .ref fl, .ref wt, .int 0, .null])), (fl, .inl (cZ, 6, .inl (fun _ => 0))), (ou, .inl (cJ, 1, .inr (.inl (fun _ => 0))))] s.heap.size = A at hD hE ⊢
  have hA : ∀ q : Nat, s.heap.size ≤ q → A q := fun q h => by rw [← hAe]; exact Or.inr h
  have hS : va_S A s.heap s.heap [] := va_S.rf
  have hP : va_P D vwCl [(x, .inr (9, [.ref st, .ref kp, .int 0, .ref bf, .int 0, .int (-1), .int (-1), .int 0, .ref o1, .ref o2, .ref o3, .ref o4, .ref o5, .ref o6])), (st, .inr (8, [.ref lt, .ref tb, .ref fl, .ref wt, .int 0, .null])), (fl, .inl (cZ, 6, .inl (fun _ => 0))), (ou, .inl (cJ, 1, .inr (.inl (fun _ => 0))))] s.heap := hP
  have hl := lv_entry ([.ref x, .int a0, .int a1, .ref ou]) (n := 5) (Nat.le_of_ble_eq_true rfl)
  rw [lg_entry_eq]
  generalize (lg_sl ([.ref x, .int a0, .int a1, .ref ou]) ++ List.replicate (5 - (lg_sl ([.ref x, .int a0, .int a1, .ref ou])).length) Slot.unset).toArray = ls at hl ⊢
  have hl : lv_has ls 5 [(0, .ref x), (1, .int a0), (2, .int a1), (3, .ref ou)] := hl
  refine lv_aload_n hx hb dL_rank_0 rfl (lv_at hl 3 rfl) ?_
  refine lv_iconst (v := 0) hx hb dL_rank_1 (by decide) ?_
  refine lv_aload_n hx hb dL_rank_2 rfl (lv_at hl 0 rfl) ?_
  refine lv_iload_n hx hb dL_rank_3 rfl (lv_at hl 1 rfl) ?_
  refine lv_iload_n hx hb dL_rank_4 rfl (lv_at hl 2 rfl) ?_
  have hPc := hP.sub (ws' := [(x, .inr (9, [.ref st, .ref kp, .int 0, .ref bf, .int 0, .int (-1), .int (-1), .int 0, .ref o1, .ref o2, .ref o3, .ref o4, .ref o5, .ref o6])), (st, .inr (8, [.ref lt, .ref tb, .ref fl, .ref wt, .int 0, .null])), (fl, .inl (cZ, 6, .inl (fun _ => 0)))]) [0, 1, 2] rfl
  have hDc := hD.sub (ws' := [(x, .inr (9, [.ref st, .ref kp, .int 0, .ref bf, .int 0, .int (-1), .int (-1), .int 0, .ref o1, .ref o2, .ref o3, .ref o4, .ref o5, .ref o6])), (st, .inr (8, [.ref lt, .ref tb, .ref fl, .ref wt, .int 0, .null])), (fl, .inl (cZ, 6, .inl (fun _ => 0)))]) [0, 1, 2] (by decide) rfl
  have hFc := va_free (wc := [(x, .inr (9, [.ref st, .ref kp, .int 0, .ref bf, .int 0, .int (-1), .int (-1), .int 0, .ref o1, .ref o2, .ref o3, .ref o4, .ref o5, .ref o6])), (st, .inr (8, [.ref lt, .ref tb, .ref fl, .ref wt, .int 0, .null])), (fl, .inl (cZ, 6, .inl (fun _ => 0)))]) hD hS hA [0, 1, 2] rfl
  refine vx_calli (vx_runV (As := [.int a0, .int a1]) (rest := [.int 0, .ref ou]) ⟨hx, hb, hml, hown, hts⟩ (k_X10_rank l htr D cI cJ cZ x st kp bf o1 o2 o3 o4 o5 o6 lt tb fl wt a0 a1 s.heap.size) (cwV 2 hts gk_L_rank_X10_rank rfl rfl rfl (by decide +kernel) ⟨Nat.le_of_ble_eq_true rfl, Nat.le_of_ble_eq_true rfl⟩) ⟨xPc_blind, va_recv hK hP (ci := 9) (q0 := 0) rfl rfl, xPc_pre hPc hK hDc hE hS hFc hV⟩ rfl rfl hl.1 rfl (lv_room (Nat.le_of_ble_eq_true rfl)) dL_rank_5 ⟨Nat.le_of_ble_eq_true rfl, Nat.le_of_ble_eq_true rfl⟩) hS (fun q _ h => hFc q h) hFc (fun q _ h => hFc q h) (fun E ce q9 u t H_1 locs ht hvm hpx hBX hz1 hk1 hS hq9 hcv hcl => ?_) (fun r u t H_1 locs ht hvm hw hB hz1 hk1 hS => ?_)
  · rcases hBX with ⟨rfl, e_0⟩ | ⟨rfl, e_0, e_1⟩ | ⟨rfl, e_0, e_1⟩
    · have c_2 : a0.toInt < 0 := e_0
      refine vx_catch hown (tableOf []) ⟨0, 10, 13, 20⟩ (tableOf [(0, 10, 17, 15), (0, 10, 21, 116)]) (by rw [htab]; rfl) (xpass0) (by decide) (by decide) w_1 (va_Nw.use rfl hV.2.2.2.2.2.1.2.2) hq9 hcv hcl ?_
      have hP : va_P D vwCl [] H_1 := fun k q h => by simp at h
      have hD : va_D A [] := ⟨fun i j p q h => by simp at h, fun k q h => by simp at h⟩
      refine W.widen (k := 2) (n := 12) (Nat.le_of_ble_eq_true rfl) (Nat.le_of_ble_eq_true rfl) ?_
      refine lv_astore (lv' := [(4, .ref q9), (0, .ref x), (1, .int a0), (2, .int a1), (3, .ref ou)]) hx hb dL_rank_13 hl (by decide) rfl (fun ls hl => ?_)
      refine lv_iconst (v := 1) hx hb dL_rank_15 (by decide) ?_
      have hP9 := hP.sub (ws' := []) [] rfl
      have hD9 := hD.sub (ws' := []) [] (by decide) rfl
      refine W.widen (k := 2) (n := 12) (Nat.le_of_ble_eq_true rfl) (Nat.le_of_ble_eq_true rfl) ?_
      exact vx_ret (W.iret (v := 1) hx hb hr (fun t ht hW => ⟨⟨1, (), rfl, Or.inl ⟨rfl, c_2⟩, by rw [ht]; exact hP9, hD9⟩, hS.F ht⟩) hS.2.2 dL_rank_16)
    · have c_3 : 0 ≤ a0.toInt := e_0
      have c_4 : 6 ≤ a0.toInt := e_1
      refine vx_catch hown (tableOf []) ⟨0, 10, 13, 20⟩ (tableOf [(0, 10, 17, 15), (0, 10, 21, 116)]) (by rw [htab]; rfl) (xpass0) (by decide) (by decide) w_1 (va_Nw.use rfl hV.2.2.2.2.2.1.2.2) hq9 hcv hcl ?_
      have hP : va_P D vwCl [] H_1 := fun k q h => by simp at h
      have hD : va_D A [] := ⟨fun i j p q h => by simp at h, fun k q h => by simp at h⟩
      refine W.widen (k := 2) (n := 12) (Nat.le_of_ble_eq_true rfl) (Nat.le_of_ble_eq_true rfl) ?_
      refine lv_astore (lv' := [(4, .ref q9), (0, .ref x), (1, .int a0), (2, .int a1), (3, .ref ou)]) hx hb dL_rank_13 hl (by decide) rfl (fun ls hl => ?_)
      refine lv_iconst (v := 1) hx hb dL_rank_15 (by decide) ?_
      have hP9 := hP.sub (ws' := []) [] rfl
      have hD9 := hD.sub (ws' := []) [] (by decide) rfl
      refine W.widen (k := 2) (n := 12) (Nat.le_of_ble_eq_true rfl) (Nat.le_of_ble_eq_true rfl) ?_
      exact vx_ret (W.iret (v := 1) hx hb hr (fun t ht hW => ⟨⟨1, (), rfl, Or.inr (Or.inl ⟨rfl, c_3, c_4⟩), by rw [ht]; exact hP9, hD9⟩, hS.F ht⟩) hS.2.2 dL_rank_16)
    · have c_5 : 0 ≤ a0.toInt := e_0
      have c_6 : a0.toInt < 6 := e_1
      refine vx_catch hown (tableOf [(0, 10, 13, 20)]) ⟨0, 10, 17, 15⟩ (tableOf [(0, 10, 21, 116)]) (by rw [htab]; rfl) (xpass1 (Or.inr ⟨by decide, iob, w_1, hV.2.2.2.2.2.2.1.1⟩)) (by decide) (by decide) w_2 (va_Nw.use rfl hV.2.2.2.2.2.1.2.1) hq9 hcv hcl ?_
      have hP : va_P D vwCl [] H_1 := fun k q h => by simp at h
      have hD : va_D A [] := ⟨fun i j p q h => by simp at h, fun k q h => by simp at h⟩
      refine W.widen (k := 2) (n := 12) (Nat.le_of_ble_eq_true rfl) (Nat.le_of_ble_eq_true rfl) ?_
      refine lv_astore (lv' := [(4, .ref q9), (0, .ref x), (1, .int a0), (2, .int a1), (3, .ref ou)]) hx hb dL_rank_17 hl (by decide) rfl (fun ls hl => ?_)
      refine lv_iconst (v := 2) hx hb dL_rank_19 (by decide) ?_
      have hP9 := hP.sub (ws' := []) [] rfl
      have hD9 := hD.sub (ws' := []) [] (by decide) rfl
      refine W.widen (k := 2) (n := 12) (Nat.le_of_ble_eq_true rfl) (Nat.le_of_ble_eq_true rfl) ?_
      exact vx_ret (W.iret (v := 2) hx hb hr (fun t ht hW => ⟨⟨2, (), rfl, Or.inr (Or.inr ⟨rfl, c_5, c_6⟩), by rw [ht]; exact hP9, hD9⟩, hS.F ht⟩) hS.2.2 dL_rank_20)
  · exact hw.elim
def wk_L_best : List Cond := .codeWith yL_best cL_best 5 (some .int) [(0, 10, 13, 20), (0, 10, 17, 15), (0, 10, 21, 116)] :: (([.classLink RL 20 iob, .classLink RL 15 ise, .methodLink RL 124 yX10_best, .instanceMethod yX10_best, .selects RX10 yX10_best yX10_best, .initialized RX10, .code yX10_best cX10_best 7 (some .int), .methodLink RX10 153 yX10_tableIn, .instanceMethod yX10_tableIn, .selects RX10 yX10_tableIn yX10_tableIn, .code yX10_tableIn cX10_tableIn 2 (some (.object "DocumentSpanner$SortedInts")), .fieldLink RX10 12 "DocumentSpanner" "state" "LDocumentSpanner$State;", .fieldLink RX10 96 "DocumentSpanner$State" "filled" "[Z", .classLink RX10 80 ise, .initialized ise, .methodLink RX10 138 yX10_checkSlot, .static yX10_checkSlot, .code yX10_checkSlot cX10_checkSlot 1 none, .classLink RX10 91 iob, .initialized iob] : List Cond) ++ wsX100 ++ wsX80 ++ (vx_atS RX10 84 ise ["java/lang/RuntimeException", "java/lang/Exception"]).filter goodWord ++ (vx_atS RX10 95 iob ["java/lang/RuntimeException", "java/lang/Exception"]).filter goodWord)
set_option maxRecDepth 20000 in
theorem ggk_L_best_X10_best : GoodIn wk_L_best wk_X10_best := goodIn_ca (goodIn_ca (goodIn_ca (goodIn_ca (goodIn_r _ [7, 8, 9, 10, 6, 11, 12, 13, 14, 15, 16, 17, 18, 19, 20] (by decide +kernel) (by decide +kernel)) (goodIn_sub (fun _ h => List.mem_cons_of_mem _ (List.mem_append_left _ (List.mem_append_left _ (List.mem_append_left _ (List.mem_append_right _ h))))) (by decide +kernel))) (goodIn_sub (fun _ h => List.mem_cons_of_mem _ (List.mem_append_left _ (List.mem_append_left _ (List.mem_append_right _ h)))) (by decide +kernel))) (goodIn_sub (fun _ h => List.mem_cons_of_mem _ (List.mem_append_left _ (List.mem_append_right _ h))) (by decide +kernel))) (goodIn_sub (fun _ h => List.mem_cons_of_mem _ (List.mem_append_right _ h)) (by decide +kernel))
set_option maxRecDepth 20000 in
theorem gk_L_best_X10_best : GoodIn wk_L_best (wsV RL 124 RX10 yX10_best wk_X10_best) := goodIn_app (goodIn_r _ [3, 4, 5, 6] (by decide +kernel) (by decide +kernel)) ggk_L_best_X10_best
set_option maxHeartbeats 4000000 in
set_option maxRecDepth 100000 in
theorem k_L_best (l : Launch) (htr : l.stackTraces = false) (D : va_G) (cI cJ cZ : ClassId) (x : Nat) (st : Nat) (kp : Nat) (bf : Nat) (o1 : Nat) (o2 : Nat) (o3 : Nat) (o4 : Nat) (o5 : Nat) (o6 : Nat) (lt : Nat) (tb : Nat) (fl : Nat) (wt : Nat) (ou : Nat) (a0 : Int32) (a1 : Int32) (sz : Nat) : vx_Met l yL_best wk_L_best ({ frames := 9, cells := 2, slots := 12, locals := 149 }) (xPc D cI cJ cZ [.ref x, .int a0, .int a1, .ref ou] [(x, .inr (9, [.ref st, .ref kp, .int 0, .ref bf, .int 0, .int (-1), .int (-1), .int 0, .ref o1, .ref o2, .ref o3, .ref o4, .ref o5, .ref o6])), (st, .inr (8, [.ref lt, .ref tb, .ref fl, .ref wt, .int 0, .null])), (fl, .inl (cZ, 6, .inl (fun _ => 0))), (ou, .inl (cJ, 1, .inr (.inl (fun _ => 0))))] sz) (va_Qi (fun (r : Int32) (u : Unit) => (r = 1 ∧ a0.toInt < 0) ∨ (r = 1 ∧ 0 ≤ a0.toInt ∧ 6 ≤ a0.toInt) ∨ (r = 2 ∧ 0 ≤ a0.toInt ∧ a0.toInt < 6)) (fun (u : Unit) (t : State) => va_P D vwCl ([] : va_W) t.heap ∧ va_D (va_A [(x, .inr (9, [.ref st, .ref kp, .int 0, .ref bf, .int 0, .int (-1), .int (-1), .int 0, .ref o1, .ref o2, .ref o3, .ref o4, .ref o5, .ref o6])), (st, .inr (8, [.ref lt, .ref tb, .ref fl, .ref wt, .int 0, .null])), (fl, .inl (cZ, 6, .inl (fun _ => 0))), (ou, .inl (cJ, 1, .inr (.inl (fun _ => 0))))] sz) ([] : va_W)) (va_A [(x, .inr (9, [.ref st, .ref kp, .int 0, .ref bf, .int 0, .int (-1), .int (-1), .int 0, .ref o1, .ref o2, .ref o3, .ref o4, .ref o5, .ref o6])), (st, .inr (8, [.ref lt, .ref tb, .ref fl, .ref wt, .int 0, .null])), (fl, .inl (cZ, 6, .inl (fun _ => 0))), (ou, .inl (cJ, 1, .inr (.inl (fun _ => 0))))] sz)) (vx_X (fun _ : Unit => True) (fun (E : String) (_ : Unit) (_ : State) => False) (va_A [(x, .inr (9, [.ref st, .ref kp, .int 0, .ref bf, .int 0, .int (-1), .int (-1), .int 0, .ref o1, .ref o2, .ref o3, .ref o4, .ref o5, .ref o6])), (st, .inr (8, [.ref lt, .ref tb, .ref fl, .ref wt, .int 0, .null])), (fl, .inl (cZ, 6, .inl (fun _ => 0))), (ou, .inl (cJ, 1, .inr (.inl (fun _ => 0))))] sz)) 2 12 (va_A [(x, .inr (9, [.ref st, .ref kp, .int 0, .ref bf, .int 0, .int (-1), .int (-1), .int 0, .ref o1, .ref o2, .ref o3, .ref o4, .ref o5, .ref o6])), (st, .inr (8, [.ref lt, .ref tb, .ref fl, .ref wt, .int 0, .null])), (fl, .inl (cZ, 6, .inl (fun _ => 0))), (ou, .inl (cJ, 1, .inr (.inl (fun _ => 0))))] sz) := by
  refine vx_ofWH (cc := cL_best) (maxL := 5) (ret := (some .int)) (by decide) rfl ?_
  intro p e s m args below meth c s₁ B hml hv
  obtain ⟨rfl, hsz, hP, hK, hD0, hE, hV⟩ := hv
  have hx := B.exec
  have hb := B.bytes
  have hr := B.returns
  have hts := atoms_spec (ws := wk_L_best) B.pre
  have hown : s.vm.findClass RL = some m.cls := findClass_of_methodNamed B.named
  have hlocks := B.notSynchronized
  have htab : c.exceptionTable.toList = tableOf [(0, 10, 13, 20), (0, 10, 17, 15), (0, 10, 21, 116)] := vx_table (x := yL_best) B (hts _ List.mem_cons_self)
  have w_1 := hts (.classLink RL 20 iob) (List.mem_of_getElem? (i := 1) rfl)
  have w_2 := hts (.classLink RL 15 ise) (List.mem_of_getElem? (i := 2) rfl)
  subst hsz
  have hD := hD0.self (sz := s.heap.size)
  generalize hAe : va_A [(x, .inr (9, [.ref st, .ref kp, .int 0, .ref bf, .int 0, .int (-1), .int (-1), .int 0, .ref o1, .ref o2, .ref o3, .ref o4, .ref o5, .ref o6])), (st, .inr (8, [.ref lt, .ref tb, .ref fl, .ref wt, .int 0, .null])), (fl, .inl (cZ, 6, .inl (fun _ => 0))), (ou, .inl (cJ, 1, .inr (.inl (fun _ => 0))))] s.heap.size = A at hD hE ⊢
  have hA : ∀ q : Nat, s.heap.size ≤ q → A q := fun q h => by rw [← hAe]; exact Or.inr h
  have hS : va_S A s.heap s.heap [] := va_S.rf
  have hP : va_P D vwCl [(x, .inr (9, [.ref st, .ref kp, .int 0, .ref bf, .int 0, .int (-1), .int (-1), .int 0, .ref o1, .ref o2, .ref o3, .ref o4, .ref o5, .ref o6])), (st, .inr (8, [.ref lt, .ref tb, .ref fl, .ref wt, .int 0, .null])), (fl, .inl (cZ, 6, .inl (fun _ => 0))), (ou, .inl (cJ, 1, .inr (.inl (fun _ => 0))))] s.heap := hP
  have hl := lv_entry ([.ref x, .int a0, .int a1, .ref ou]) (n := 5) (Nat.le_of_ble_eq_true rfl)
  rw [lg_entry_eq]
  generalize (lg_sl ([.ref x, .int a0, .int a1, .ref ou]) ++ List.replicate (5 - (lg_sl ([.ref x, .int a0, .int a1, .ref ou])).length) Slot.unset).toArray = ls at hl ⊢
  have hl : lv_has ls 5 [(0, .ref x), (1, .int a0), (2, .int a1), (3, .ref ou)] := hl
  refine lv_aload_n hx hb dL_best_0 rfl (lv_at hl 3 rfl) ?_
  refine lv_iconst (v := 0) hx hb dL_best_1 (by decide) ?_
  refine lv_aload_n hx hb dL_best_2 rfl (lv_at hl 0 rfl) ?_
  refine lv_iload_n hx hb dL_best_3 rfl (lv_at hl 1 rfl) ?_
  refine lv_iload_n hx hb dL_best_4 rfl (lv_at hl 2 rfl) ?_
  have hPc := hP.sub (ws' := [(x, .inr (9, [.ref st, .ref kp, .int 0, .ref bf, .int 0, .int (-1), .int (-1), .int 0, .ref o1, .ref o2, .ref o3, .ref o4, .ref o5, .ref o6])), (st, .inr (8, [.ref lt, .ref tb, .ref fl, .ref wt, .int 0, .null])), (fl, .inl (cZ, 6, .inl (fun _ => 0)))]) [0, 1, 2] rfl
  have hDc := hD.sub (ws' := [(x, .inr (9, [.ref st, .ref kp, .int 0, .ref bf, .int 0, .int (-1), .int (-1), .int 0, .ref o1, .ref o2, .ref o3, .ref o4, .ref o5, .ref o6])), (st, .inr (8, [.ref lt, .ref tb, .ref fl, .ref wt, .int 0, .null])), (fl, .inl (cZ, 6, .inl (fun _ => 0)))]) [0, 1, 2] (by decide) rfl
  have hFc := va_free (wc := [(x, .inr (9, [.ref st, .ref kp, .int 0, .ref bf, .int 0, .int (-1), .int (-1), .int 0, .ref o1, .ref o2, .ref o3, .ref o4, .ref o5, .ref o6])), (st, .inr (8, [.ref lt, .ref tb, .ref fl, .ref wt, .int 0, .null])), (fl, .inl (cZ, 6, .inl (fun _ => 0)))]) hD hS hA [0, 1, 2] rfl
  refine vx_calli (vx_runV (As := [.int a0, .int a1]) (rest := [.int 0, .ref ou]) ⟨hx, hb, hml, hown, hts⟩ (k_X10_best l htr D cI cJ cZ x st kp bf o1 o2 o3 o4 o5 o6 lt tb fl wt a0 a1 s.heap.size) (cwV 2 hts gk_L_best_X10_best rfl rfl rfl (by decide +kernel) ⟨Nat.le_of_ble_eq_true rfl, Nat.le_of_ble_eq_true rfl⟩) ⟨xPc_blind, va_recv hK hP (ci := 9) (q0 := 0) rfl rfl, xPc_pre hPc hK hDc hE hS hFc hV⟩ rfl rfl hl.1 rfl (lv_room (Nat.le_of_ble_eq_true rfl)) dL_best_5 ⟨Nat.le_of_ble_eq_true rfl, Nat.le_of_ble_eq_true rfl⟩) hS (fun q _ h => hFc q h) hFc (fun q _ h => hFc q h) (fun E ce q9 u t H_1 locs ht hvm hpx hBX hz1 hk1 hS hq9 hcv hcl => ?_) (fun r u t H_1 locs ht hvm hw hB hz1 hk1 hS => ?_)
  · rcases hBX with ⟨rfl, e_0⟩ | ⟨rfl, e_0, e_1⟩ | ⟨rfl, e_0, e_1⟩
    · have c_2 : a0.toInt < 0 := e_0
      refine vx_catch hown (tableOf []) ⟨0, 10, 13, 20⟩ (tableOf [(0, 10, 17, 15), (0, 10, 21, 116)]) (by rw [htab]; rfl) (xpass0) (by decide) (by decide) w_1 (va_Nw.use rfl hV.2.2.2.2.2.1.2.2) hq9 hcv hcl ?_
      have hP : va_P D vwCl [] H_1 := fun k q h => by simp at h
      have hD : va_D A [] := ⟨fun i j p q h => by simp at h, fun k q h => by simp at h⟩
      refine W.widen (k := 2) (n := 12) (Nat.le_of_ble_eq_true rfl) (Nat.le_of_ble_eq_true rfl) ?_
      refine lv_astore (lv' := [(4, .ref q9), (0, .ref x), (1, .int a0), (2, .int a1), (3, .ref ou)]) hx hb dL_best_13 hl (by decide) rfl (fun ls hl => ?_)
      refine lv_iconst (v := 1) hx hb dL_best_15 (by decide) ?_
      have hP9 := hP.sub (ws' := []) [] rfl
      have hD9 := hD.sub (ws' := []) [] (by decide) rfl
      refine W.widen (k := 2) (n := 12) (Nat.le_of_ble_eq_true rfl) (Nat.le_of_ble_eq_true rfl) ?_
      exact vx_ret (W.iret (v := 1) hx hb hr (fun t ht hW => ⟨⟨1, (), rfl, Or.inl ⟨rfl, c_2⟩, by rw [ht]; exact hP9, hD9⟩, hS.F ht⟩) hS.2.2 dL_best_16)
    · have c_3 : 0 ≤ a0.toInt := e_0
      have c_4 : 6 ≤ a0.toInt := e_1
      refine vx_catch hown (tableOf []) ⟨0, 10, 13, 20⟩ (tableOf [(0, 10, 17, 15), (0, 10, 21, 116)]) (by rw [htab]; rfl) (xpass0) (by decide) (by decide) w_1 (va_Nw.use rfl hV.2.2.2.2.2.1.2.2) hq9 hcv hcl ?_
      have hP : va_P D vwCl [] H_1 := fun k q h => by simp at h
      have hD : va_D A [] := ⟨fun i j p q h => by simp at h, fun k q h => by simp at h⟩
      refine W.widen (k := 2) (n := 12) (Nat.le_of_ble_eq_true rfl) (Nat.le_of_ble_eq_true rfl) ?_
      refine lv_astore (lv' := [(4, .ref q9), (0, .ref x), (1, .int a0), (2, .int a1), (3, .ref ou)]) hx hb dL_best_13 hl (by decide) rfl (fun ls hl => ?_)
      refine lv_iconst (v := 1) hx hb dL_best_15 (by decide) ?_
      have hP9 := hP.sub (ws' := []) [] rfl
      have hD9 := hD.sub (ws' := []) [] (by decide) rfl
      refine W.widen (k := 2) (n := 12) (Nat.le_of_ble_eq_true rfl) (Nat.le_of_ble_eq_true rfl) ?_
      exact vx_ret (W.iret (v := 1) hx hb hr (fun t ht hW => ⟨⟨1, (), rfl, Or.inr (Or.inl ⟨rfl, c_3, c_4⟩), by rw [ht]; exact hP9, hD9⟩, hS.F ht⟩) hS.2.2 dL_best_16)
    · have c_5 : 0 ≤ a0.toInt := e_0
      have c_6 : a0.toInt < 6 := e_1
      refine vx_catch hown (tableOf [(0, 10, 13, 20)]) ⟨0, 10, 17, 15⟩ (tableOf [(0, 10, 21, 116)]) (by rw [htab]; rfl) (xpass1 (Or.inr ⟨by decide, iob, w_1, hV.2.2.2.2.2.2.1.1⟩)) (by decide) (by decide) w_2 (va_Nw.use rfl hV.2.2.2.2.2.1.2.1) hq9 hcv hcl ?_
      have hP : va_P D vwCl [] H_1 := fun k q h => by simp at h
      have hD : va_D A [] := ⟨fun i j p q h => by simp at h, fun k q h => by simp at h⟩
      refine W.widen (k := 2) (n := 12) (Nat.le_of_ble_eq_true rfl) (Nat.le_of_ble_eq_true rfl) ?_
      refine lv_astore (lv' := [(4, .ref q9), (0, .ref x), (1, .int a0), (2, .int a1), (3, .ref ou)]) hx hb dL_best_17 hl (by decide) rfl (fun ls hl => ?_)
      refine lv_iconst (v := 2) hx hb dL_best_19 (by decide) ?_
      have hP9 := hP.sub (ws' := []) [] rfl
      have hD9 := hD.sub (ws' := []) [] (by decide) rfl
      refine W.widen (k := 2) (n := 12) (Nat.le_of_ble_eq_true rfl) (Nat.le_of_ble_eq_true rfl) ?_
      exact vx_ret (W.iret (v := 2) hx hb hr (fun t ht hW => ⟨⟨2, (), rfl, Or.inr (Or.inr ⟨rfl, c_5, c_6⟩), by rw [ht]; exact hP9, hD9⟩, hS.F ht⟩) hS.2.2 dL_best_20)
  · exact hw.elim
def wk_L_total : List Cond := .codeWith yL_total cL_total 4 (some .int) [(0, 9, 12, 20), (0, 9, 15, 15), (0, 9, 18, 116)] :: (([.classLink RL 20 iob, .classLink RL 15 ise, .methodLink RL 127 yX10_total, .instanceMethod yX10_total, .selects RX10 yX10_total yX10_total, .initialized RX10, .code yX10_total cX10_total 5 (some .int), .methodLink RX10 153 yX10_tableIn, .instanceMethod yX10_tableIn, .selects RX10 yX10_tableIn yX10_tableIn, .code yX10_tableIn cX10_tableIn 2 (some (.object "DocumentSpanner$SortedInts")), .fieldLink RX10 12 "DocumentSpanner" "state" "LDocumentSpanner$State;", .fieldLink RX10 96 "DocumentSpanner$State" "filled" "[Z", .classLink RX10 80 ise, .initialized ise, .methodLink RX10 138 yX10_checkSlot, .static yX10_checkSlot, .code yX10_checkSlot cX10_checkSlot 1 none, .classLink RX10 91 iob, .initialized iob] : List Cond) ++ wsX100 ++ wsX80 ++ (vx_atS RX10 84 ise ["java/lang/RuntimeException", "java/lang/Exception"]).filter goodWord ++ (vx_atS RX10 95 iob ["java/lang/RuntimeException", "java/lang/Exception"]).filter goodWord)
set_option maxRecDepth 20000 in
theorem ggk_L_total_X10_total : GoodIn wk_L_total wk_X10_total := goodIn_ca (goodIn_ca (goodIn_ca (goodIn_ca (goodIn_r _ [7, 8, 9, 10, 6, 11, 12, 13, 14, 15, 16, 17, 18, 19, 20] (by decide +kernel) (by decide +kernel)) (goodIn_sub (fun _ h => List.mem_cons_of_mem _ (List.mem_append_left _ (List.mem_append_left _ (List.mem_append_left _ (List.mem_append_right _ h))))) (by decide +kernel))) (goodIn_sub (fun _ h => List.mem_cons_of_mem _ (List.mem_append_left _ (List.mem_append_left _ (List.mem_append_right _ h)))) (by decide +kernel))) (goodIn_sub (fun _ h => List.mem_cons_of_mem _ (List.mem_append_left _ (List.mem_append_right _ h))) (by decide +kernel))) (goodIn_sub (fun _ h => List.mem_cons_of_mem _ (List.mem_append_right _ h)) (by decide +kernel))
set_option maxRecDepth 20000 in
theorem gk_L_total_X10_total : GoodIn wk_L_total (wsV RL 127 RX10 yX10_total wk_X10_total) := goodIn_app (goodIn_r _ [3, 4, 5, 6] (by decide +kernel) (by decide +kernel)) ggk_L_total_X10_total
set_option maxHeartbeats 4000000 in
set_option maxRecDepth 100000 in
theorem k_L_total (l : Launch) (htr : l.stackTraces = false) (D : va_G) (cI cJ cZ : ClassId) (x : Nat) (st : Nat) (kp : Nat) (bf : Nat) (o1 : Nat) (o2 : Nat) (o3 : Nat) (o4 : Nat) (o5 : Nat) (o6 : Nat) (lt : Nat) (tb : Nat) (fl : Nat) (wt : Nat) (ou : Nat) (a0 : Int32) (sz : Nat) : vx_Met l yL_total wk_L_total ({ frames := 9, cells := 2, slots := 12, locals := 147 }) (xPc D cI cJ cZ [.ref x, .int a0, .ref ou] [(x, .inr (9, [.ref st, .ref kp, .int 0, .ref bf, .int 0, .int (-1), .int (-1), .int 0, .ref o1, .ref o2, .ref o3, .ref o4, .ref o5, .ref o6])), (st, .inr (8, [.ref lt, .ref tb, .ref fl, .ref wt, .int 0, .null])), (fl, .inl (cZ, 6, .inl (fun _ => 0))), (ou, .inl (cJ, 1, .inr (.inl (fun _ => 0))))] sz) (va_Qi (fun (r : Int32) (u : Unit) => (r = 1 ∧ a0.toInt < 0) ∨ (r = 1 ∧ 0 ≤ a0.toInt ∧ 6 ≤ a0.toInt) ∨ (r = 2 ∧ 0 ≤ a0.toInt ∧ a0.toInt < 6)) (fun (u : Unit) (t : State) => va_P D vwCl ([] : va_W) t.heap ∧ va_D (va_A [(x, .inr (9, [.ref st, .ref kp, .int 0, .ref bf, .int 0, .int (-1), .int (-1), .int 0, .ref o1, .ref o2, .ref o3, .ref o4, .ref o5, .ref o6])), (st, .inr (8, [.ref lt, .ref tb, .ref fl, .ref wt, .int 0, .null])), (fl, .inl (cZ, 6, .inl (fun _ => 0))), (ou, .inl (cJ, 1, .inr (.inl (fun _ => 0))))] sz) ([] : va_W)) (va_A [(x, .inr (9, [.ref st, .ref kp, .int 0, .ref bf, .int 0, .int (-1), .int (-1), .int 0, .ref o1, .ref o2, .ref o3, .ref o4, .ref o5, .ref o6])), (st, .inr (8, [.ref lt, .ref tb, .ref fl, .ref wt, .int 0, .null])), (fl, .inl (cZ, 6, .inl (fun _ => 0))), (ou, .inl (cJ, 1, .inr (.inl (fun _ => 0))))] sz)) (vx_X (fun _ : Unit => True) (fun (E : String) (_ : Unit) (_ : State) => False) (va_A [(x, .inr (9, [.ref st, .ref kp, .int 0, .ref bf, .int 0, .int (-1), .int (-1), .int 0, .ref o1, .ref o2, .ref o3, .ref o4, .ref o5, .ref o6])), (st, .inr (8, [.ref lt, .ref tb, .ref fl, .ref wt, .int 0, .null])), (fl, .inl (cZ, 6, .inl (fun _ => 0))), (ou, .inl (cJ, 1, .inr (.inl (fun _ => 0))))] sz)) 2 12 (va_A [(x, .inr (9, [.ref st, .ref kp, .int 0, .ref bf, .int 0, .int (-1), .int (-1), .int 0, .ref o1, .ref o2, .ref o3, .ref o4, .ref o5, .ref o6])), (st, .inr (8, [.ref lt, .ref tb, .ref fl, .ref wt, .int 0, .null])), (fl, .inl (cZ, 6, .inl (fun _ => 0))), (ou, .inl (cJ, 1, .inr (.inl (fun _ => 0))))] sz) := by
  refine vx_ofWH (cc := cL_total) (maxL := 4) (ret := (some .int)) (by decide) rfl ?_
  intro p e s m args below meth c s₁ B hml hv
  obtain ⟨rfl, hsz, hP, hK, hD0, hE, hV⟩ := hv
  have hx := B.exec
  have hb := B.bytes
  have hr := B.returns
  have hts := atoms_spec (ws := wk_L_total) B.pre
  have hown : s.vm.findClass RL = some m.cls := findClass_of_methodNamed B.named
  have hlocks := B.notSynchronized
  have htab : c.exceptionTable.toList = tableOf [(0, 9, 12, 20), (0, 9, 15, 15), (0, 9, 18, 116)] := vx_table (x := yL_total) B (hts _ List.mem_cons_self)
  have w_1 := hts (.classLink RL 20 iob) (List.mem_of_getElem? (i := 1) rfl)
  have w_2 := hts (.classLink RL 15 ise) (List.mem_of_getElem? (i := 2) rfl)
  subst hsz
  have hD := hD0.self (sz := s.heap.size)
  generalize hAe : va_A [(x, .inr (9, [.ref st, .ref kp, .int 0, .ref bf, .int 0, .int (-1), .int (-1), .int 0, .ref o1, .ref o2, .ref o3, .ref o4, .ref o5, .ref o6])), (st, .inr (8, [.ref lt, .ref tb, .ref fl, .ref wt, .int 0, .null])), (fl, .inl (cZ, 6, .inl (fun _ => 0))), (ou, .inl (cJ, 1, .inr (.inl (fun _ => 0))))] s.heap.size = A at hD hE ⊢
  have hA : ∀ q : Nat, s.heap.size ≤ q → A q := fun q h => by rw [← hAe]; exact Or.inr h
  have hS : va_S A s.heap s.heap [] := va_S.rf
  have hP : va_P D vwCl [(x, .inr (9, [.ref st, .ref kp, .int 0, .ref bf, .int 0, .int (-1), .int (-1), .int 0, .ref o1, .ref o2, .ref o3, .ref o4, .ref o5, .ref o6])), (st, .inr (8, [.ref lt, .ref tb, .ref fl, .ref wt, .int 0, .null])), (fl, .inl (cZ, 6, .inl (fun _ => 0))), (ou, .inl (cJ, 1, .inr (.inl (fun _ => 0))))] s.heap := hP
  have hl := lv_entry ([.ref x, .int a0, .ref ou]) (n := 4) (Nat.le_of_ble_eq_true rfl)
  rw [lg_entry_eq]
  generalize (lg_sl ([.ref x, .int a0, .ref ou]) ++ List.replicate (4 - (lg_sl ([.ref x, .int a0, .ref ou])).length) Slot.unset).toArray = ls at hl ⊢
  have hl : lv_has ls 4 [(0, .ref x), (1, .int a0), (2, .ref ou)] := hl
  refine lv_aload_n hx hb dL_total_0 rfl (lv_at hl 2 rfl) ?_
  refine lv_iconst (v := 0) hx hb dL_total_1 (by decide) ?_
  refine lv_aload_n hx hb dL_total_2 rfl (lv_at hl 0 rfl) ?_
  refine lv_iload_n hx hb dL_total_3 rfl (lv_at hl 1 rfl) ?_
  have hPc := hP.sub (ws' := [(x, .inr (9, [.ref st, .ref kp, .int 0, .ref bf, .int 0, .int (-1), .int (-1), .int 0, .ref o1, .ref o2, .ref o3, .ref o4, .ref o5, .ref o6])), (st, .inr (8, [.ref lt, .ref tb, .ref fl, .ref wt, .int 0, .null])), (fl, .inl (cZ, 6, .inl (fun _ => 0)))]) [0, 1, 2] rfl
  have hDc := hD.sub (ws' := [(x, .inr (9, [.ref st, .ref kp, .int 0, .ref bf, .int 0, .int (-1), .int (-1), .int 0, .ref o1, .ref o2, .ref o3, .ref o4, .ref o5, .ref o6])), (st, .inr (8, [.ref lt, .ref tb, .ref fl, .ref wt, .int 0, .null])), (fl, .inl (cZ, 6, .inl (fun _ => 0)))]) [0, 1, 2] (by decide) rfl
  have hFc := va_free (wc := [(x, .inr (9, [.ref st, .ref kp, .int 0, .ref bf, .int 0, .int (-1), .int (-1), .int 0, .ref o1, .ref o2, .ref o3, .ref o4, .ref o5, .ref o6])), (st, .inr (8, [.ref lt, .ref tb, .ref fl, .ref wt, .int 0, .null])), (fl, .inl (cZ, 6, .inl (fun _ => 0)))]) hD hS hA [0, 1, 2] rfl
  refine vx_calli (vx_runV (As := [.int a0]) (rest := [.int 0, .ref ou]) ⟨hx, hb, hml, hown, hts⟩ (k_X10_total l htr D cI cJ cZ x st kp bf o1 o2 o3 o4 o5 o6 lt tb fl wt a0 s.heap.size) (cwV 1 hts gk_L_total_X10_total rfl rfl rfl (by decide +kernel) ⟨Nat.le_of_ble_eq_true rfl, Nat.le_of_ble_eq_true rfl⟩) ⟨xPc_blind, va_recv hK hP (ci := 9) (q0 := 0) rfl rfl, xPc_pre hPc hK hDc hE hS hFc hV⟩ rfl rfl hl.1 rfl (lv_room (Nat.le_of_ble_eq_true rfl)) dL_total_4 ⟨Nat.le_of_ble_eq_true rfl, Nat.le_of_ble_eq_true rfl⟩) hS (fun q _ h => hFc q h) hFc (fun q _ h => hFc q h) (fun E ce q9 u t H_1 locs ht hvm hpx hBX hz1 hk1 hS hq9 hcv hcl => ?_) (fun r u t H_1 locs ht hvm hw hB hz1 hk1 hS => ?_)
  · rcases hBX with ⟨rfl, e_0⟩ | ⟨rfl, e_0, e_1⟩ | ⟨rfl, e_0, e_1⟩
    · have c_2 : a0.toInt < 0 := e_0
      refine vx_catch hown (tableOf []) ⟨0, 9, 12, 20⟩ (tableOf [(0, 9, 15, 15), (0, 9, 18, 116)]) (by rw [htab]; rfl) (xpass0) (by decide) (by decide) w_1 (va_Nw.use rfl hV.2.2.2.2.2.1.2.2) hq9 hcv hcl ?_
      have hP : va_P D vwCl [] H_1 := fun k q h => by simp at h
      have hD : va_D A [] := ⟨fun i j p q h => by simp at h, fun k q h => by simp at h⟩
      refine W.widen (k := 2) (n := 12) (Nat.le_of_ble_eq_true rfl) (Nat.le_of_ble_eq_true rfl) ?_
      refine lv_astore_n (lv' := [(3, .ref q9), (0, .ref x), (1, .int a0), (2, .ref ou)]) hx hb dL_total_12 rfl hl (by decide) rfl (fun ls hl => ?_)
      refine lv_iconst (v := 1) hx hb dL_total_13 (by decide) ?_
      have hP9 := hP.sub (ws' := []) [] rfl
      have hD9 := hD.sub (ws' := []) [] (by decide) rfl
      refine W.widen (k := 2) (n := 12) (Nat.le_of_ble_eq_true rfl) (Nat.le_of_ble_eq_true rfl) ?_
      exact vx_ret (W.iret (v := 1) hx hb hr (fun t ht hW => ⟨⟨1, (), rfl, Or.inl ⟨rfl, c_2⟩, by rw [ht]; exact hP9, hD9⟩, hS.F ht⟩) hS.2.2 dL_total_14)
    · have c_3 : 0 ≤ a0.toInt := e_0
      have c_4 : 6 ≤ a0.toInt := e_1
      refine vx_catch hown (tableOf []) ⟨0, 9, 12, 20⟩ (tableOf [(0, 9, 15, 15), (0, 9, 18, 116)]) (by rw [htab]; rfl) (xpass0) (by decide) (by decide) w_1 (va_Nw.use rfl hV.2.2.2.2.2.1.2.2) hq9 hcv hcl ?_
      have hP : va_P D vwCl [] H_1 := fun k q h => by simp at h
      have hD : va_D A [] := ⟨fun i j p q h => by simp at h, fun k q h => by simp at h⟩
      refine W.widen (k := 2) (n := 12) (Nat.le_of_ble_eq_true rfl) (Nat.le_of_ble_eq_true rfl) ?_
      refine lv_astore_n (lv' := [(3, .ref q9), (0, .ref x), (1, .int a0), (2, .ref ou)]) hx hb dL_total_12 rfl hl (by decide) rfl (fun ls hl => ?_)
      refine lv_iconst (v := 1) hx hb dL_total_13 (by decide) ?_
      have hP9 := hP.sub (ws' := []) [] rfl
      have hD9 := hD.sub (ws' := []) [] (by decide) rfl
      refine W.widen (k := 2) (n := 12) (Nat.le_of_ble_eq_true rfl) (Nat.le_of_ble_eq_true rfl) ?_
      exact vx_ret (W.iret (v := 1) hx hb hr (fun t ht hW => ⟨⟨1, (), rfl, Or.inr (Or.inl ⟨rfl, c_3, c_4⟩), by rw [ht]; exact hP9, hD9⟩, hS.F ht⟩) hS.2.2 dL_total_14)
    · have c_5 : 0 ≤ a0.toInt := e_0
      have c_6 : a0.toInt < 6 := e_1
      refine vx_catch hown (tableOf [(0, 9, 12, 20)]) ⟨0, 9, 15, 15⟩ (tableOf [(0, 9, 18, 116)]) (by rw [htab]; rfl) (xpass1 (Or.inr ⟨by decide, iob, w_1, hV.2.2.2.2.2.2.1.1⟩)) (by decide) (by decide) w_2 (va_Nw.use rfl hV.2.2.2.2.2.1.2.1) hq9 hcv hcl ?_
      have hP : va_P D vwCl [] H_1 := fun k q h => by simp at h
      have hD : va_D A [] := ⟨fun i j p q h => by simp at h, fun k q h => by simp at h⟩
      refine W.widen (k := 2) (n := 12) (Nat.le_of_ble_eq_true rfl) (Nat.le_of_ble_eq_true rfl) ?_
      refine lv_astore_n (lv' := [(3, .ref q9), (0, .ref x), (1, .int a0), (2, .ref ou)]) hx hb dL_total_15 rfl hl (by decide) rfl (fun ls hl => ?_)
      refine lv_iconst (v := 2) hx hb dL_total_16 (by decide) ?_
      have hP9 := hP.sub (ws' := []) [] rfl
      have hD9 := hD.sub (ws' := []) [] (by decide) rfl
      refine W.widen (k := 2) (n := 12) (Nat.le_of_ble_eq_true rfl) (Nat.le_of_ble_eq_true rfl) ?_
      exact vx_ret (W.iret (v := 2) hx hb hr (fun t ht hW => ⟨⟨2, (), rfl, Or.inr (Or.inr ⟨rfl, c_5, c_6⟩), by rw [ht]; exact hP9, hD9⟩, hS.F ht⟩) hS.2.2 dL_total_17)
  · exact hw.elim
def wk_L_restore : List Cond := .codeWith yL_restore cL_restore 3 (some .int) [(0, 8, 11, 15)] :: (([.classLink RL 15 ise, .methodLink RL 130 yX10_restore, .instanceMethod yX10_restore, .selects RX10 yX10_restore yX10_restore, .initialized RX10, .code yX10_restore cX10_restore 1 (some .int), .fieldLink RX10 19 "DocumentSpanner" "isKept" "Z", .classLink RX10 80 ise, .initialized ise] : List Cond) ++ wsX100 ++ (vx_atS RX10 84 ise ["java/lang/RuntimeException", "java/lang/Exception"]).filter goodWord)
set_option maxRecDepth 20000 in
theorem ggk_L_restore_X10_restore : GoodIn wk_L_restore wk_X10_restore := goodIn_ca (goodIn_ca (goodIn_r _ [6, 7, 8, 9] (by decide +kernel) (by decide +kernel)) (goodIn_sub (fun _ h => List.mem_cons_of_mem _ (List.mem_append_left _ (List.mem_append_right _ h))) (by decide +kernel))) (goodIn_sub (fun _ h => List.mem_cons_of_mem _ (List.mem_append_right _ h)) (by decide +kernel))
set_option maxRecDepth 20000 in
theorem gk_L_restore_X10_restore : GoodIn wk_L_restore (wsV RL 130 RX10 yX10_restore wk_X10_restore) := goodIn_app (goodIn_r _ [2, 3, 4, 5] (by decide +kernel) (by decide +kernel)) ggk_L_restore_X10_restore
set_option maxHeartbeats 4000000 in
set_option maxRecDepth 100000 in
theorem k_L_restore (l : Launch) (htr : l.stackTraces = false) (D : va_G) (cI cJ cZ : ClassId) (x : Nat) (st : Nat) (kp : Nat) (bf : Nat) (o1 : Nat) (o2 : Nat) (o3 : Nat) (o4 : Nat) (o5 : Nat) (o6 : Nat) (ou : Nat) (sz : Nat) : vx_Met l yL_restore wk_L_restore ({ frames := 7, cells := 1, slots := 6, locals := 102 }) (xPc D cI cJ cZ [.ref x, .ref ou] [(x, .inr (9, [.ref st, .ref kp, .int 0, .ref bf, .int 0, .int (-1), .int (-1), .int 0, .ref o1, .ref o2, .ref o3, .ref o4, .ref o5, .ref o6])), (ou, .inl (cJ, 1, .inr (.inl (fun _ => 0))))] sz) (va_Qi (fun (r : Int32) (u : Unit) => (r = 1)) (fun (u : Unit) (t : State) => va_P D vwCl ([] : va_W) t.heap ∧ va_D (va_A [(x, .inr (9, [.ref st, .ref kp, .int 0, .ref bf, .int 0, .int (-1), .int (-1), .int 0, .ref o1, .ref o2, .ref o3, .ref o4, .ref o5, .ref o6])), (ou, .inl (cJ, 1, .inr (.inl (fun _ => 0))))] sz) ([] : va_W)) (va_A [(x, .inr (9, [.ref st, .ref kp, .int 0, .ref bf, .int 0, .int (-1), .int (-1), .int 0, .ref o1, .ref o2, .ref o3, .ref o4, .ref o5, .ref o6])), (ou, .inl (cJ, 1, .inr (.inl (fun _ => 0))))] sz)) (vx_X (fun _ : Unit => True) (fun (E : String) (_ : Unit) (_ : State) => False) (va_A [(x, .inr (9, [.ref st, .ref kp, .int 0, .ref bf, .int 0, .int (-1), .int (-1), .int 0, .ref o1, .ref o2, .ref o3, .ref o4, .ref o5, .ref o6])), (ou, .inl (cJ, 1, .inr (.inl (fun _ => 0))))] sz)) 1 6 (va_A [(x, .inr (9, [.ref st, .ref kp, .int 0, .ref bf, .int 0, .int (-1), .int (-1), .int 0, .ref o1, .ref o2, .ref o3, .ref o4, .ref o5, .ref o6])), (ou, .inl (cJ, 1, .inr (.inl (fun _ => 0))))] sz) := by
  refine vx_ofWH (cc := cL_restore) (maxL := 3) (ret := (some .int)) (by decide) rfl ?_
  intro p e s m args below meth c s₁ B hml hv
  obtain ⟨rfl, hsz, hP, hK, hD0, hE, hV⟩ := hv
  have hx := B.exec
  have hb := B.bytes
  have hr := B.returns
  have hts := atoms_spec (ws := wk_L_restore) B.pre
  have hown : s.vm.findClass RL = some m.cls := findClass_of_methodNamed B.named
  have hlocks := B.notSynchronized
  have htab : c.exceptionTable.toList = tableOf [(0, 8, 11, 15)] := vx_table (x := yL_restore) B (hts _ List.mem_cons_self)
  have w_1 := hts (.classLink RL 15 ise) (List.mem_of_getElem? (i := 1) rfl)
  subst hsz
  have hD := hD0.self (sz := s.heap.size)
  generalize hAe : va_A [(x, .inr (9, [.ref st, .ref kp, .int 0, .ref bf, .int 0, .int (-1), .int (-1), .int 0, .ref o1, .ref o2, .ref o3, .ref o4, .ref o5, .ref o6])), (ou, .inl (cJ, 1, .inr (.inl (fun _ => 0))))] s.heap.size = A at hD hE ⊢
  have hA : ∀ q : Nat, s.heap.size ≤ q → A q := fun q h => by rw [← hAe]; exact Or.inr h
  have hS : va_S A s.heap s.heap [] := va_S.rf
  have hP : va_P D vwCl [(x, .inr (9, [.ref st, .ref kp, .int 0, .ref bf, .int 0, .int (-1), .int (-1), .int 0, .ref o1, .ref o2, .ref o3, .ref o4, .ref o5, .ref o6])), (ou, .inl (cJ, 1, .inr (.inl (fun _ => 0))))] s.heap := hP
  have hl := lv_entry ([.ref x, .ref ou]) (n := 3) (Nat.le_of_ble_eq_true rfl)
  rw [lg_entry_eq]
  generalize (lg_sl ([.ref x, .ref ou]) ++ List.replicate (3 - (lg_sl ([.ref x, .ref ou])).length) Slot.unset).toArray = ls at hl ⊢
  have hl : lv_has ls 3 [(0, .ref x), (1, .ref ou)] := hl
  refine lv_aload_n hx hb dL_restore_0 rfl (lv_at hl 1 rfl) ?_
  refine lv_iconst (v := 0) hx hb dL_restore_1 (by decide) ?_
  refine lv_aload_n hx hb dL_restore_2 rfl (lv_at hl 0 rfl) ?_
  have hPc := hP.sub (ws' := [(x, .inr (9, [.ref st, .ref kp, .int 0, .ref bf, .int 0, .int (-1), .int (-1), .int 0, .ref o1, .ref o2, .ref o3, .ref o4, .ref o5, .ref o6]))]) [0] rfl
  have hDc := hD.sub (ws' := [(x, .inr (9, [.ref st, .ref kp, .int 0, .ref bf, .int 0, .int (-1), .int (-1), .int 0, .ref o1, .ref o2, .ref o3, .ref o4, .ref o5, .ref o6]))]) [0] (by decide) rfl
  have hFc := va_free (wc := [(x, .inr (9, [.ref st, .ref kp, .int 0, .ref bf, .int 0, .int (-1), .int (-1), .int 0, .ref o1, .ref o2, .ref o3, .ref o4, .ref o5, .ref o6]))]) hD hS hA [0] rfl
  refine vx_calli (vx_runV (As := []) (rest := [.int 0, .ref ou]) ⟨hx, hb, hml, hown, hts⟩ (k_X10_restore l htr D cI cJ cZ x st kp bf o1 o2 o3 o4 o5 o6 s.heap.size) (cwV 0 hts gk_L_restore_X10_restore rfl rfl rfl (by decide +kernel) ⟨Nat.le_of_ble_eq_true rfl, Nat.le_of_ble_eq_true rfl⟩) ⟨xPc_blind, va_recv hK hP (ci := 9) (q0 := 0) rfl rfl, xPc_pre hPc hK hDc hE hS hFc hV⟩ rfl rfl hl.1 rfl (lv_room (Nat.le_of_ble_eq_true rfl)) dL_restore_3 ⟨Nat.le_of_ble_eq_true rfl, Nat.le_of_ble_eq_true rfl⟩) hS (fun q _ h => hFc q h) hFc (fun q _ h => hFc q h) (fun E ce q9 u t H_1 locs ht hvm hpx hBX hz1 hk1 hS hq9 hcv hcl => ?_) (fun r u t H_1 locs ht hvm hw hB hz1 hk1 hS => ?_)
  · rcases hBX with rfl
    refine vx_catch hown (tableOf []) ⟨0, 8, 11, 15⟩ (tableOf []) (by rw [htab]; rfl) (xpass0) (by decide) (by decide) w_1 (va_Nw.use rfl hV.2.2.2.2.2.1.2.1) hq9 hcv hcl ?_
    have hP : va_P D vwCl [] H_1 := fun k q h => by simp at h
    have hD : va_D A [] := ⟨fun i j p q h => by simp at h, fun k q h => by simp at h⟩
    refine W.widen (k := 1) (n := 6) (Nat.le_of_ble_eq_true rfl) (Nat.le_of_ble_eq_true rfl) ?_
    refine lv_astore_n (lv' := [(2, .ref q9), (0, .ref x), (1, .ref ou)]) hx hb dL_restore_11 rfl hl (by decide) rfl (fun ls hl => ?_)
    refine lv_iconst (v := 1) hx hb dL_restore_12 (by decide) ?_
    have hP9 := hP.sub (ws' := []) [] rfl
    have hD9 := hD.sub (ws' := []) [] (by decide) rfl
    refine W.widen (k := 1) (n := 6) (Nat.le_of_ble_eq_true rfl) (Nat.le_of_ble_eq_true rfl) ?_
    exact vx_ret (W.iret (v := 1) hx hb hr (fun t ht hW => ⟨⟨1, (), rfl, rfl, by rw [ht]; exact hP9, hD9⟩, hS.F ht⟩) hS.2.2 dL_restore_13)
  · exact hw.elim
