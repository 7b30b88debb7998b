def wk_L_appendLetter : List Cond := .codeWith yL_appendLetter cL_appendLetter 4 (some .int) [(0, 9, 12, 13), (0, 9, 15, 15)] :: (([.classLink RL 13 iae, .methodLink RL 7 yX10_appendLetter, .instanceMethod yX10_appendLetter, .selects RX10 yX10_appendLetter yX10_appendLetter, .initialized RX10, .code yX10_appendLetter cX10_appendLetter 2 (some .int), .classLink RX10 70 iae, .initialized iae, .fieldLink RX10 12 "DocumentSpanner" "state" "LDocumentSpanner$State;", .fieldLink RX10 77 "DocumentSpanner$State" "length" "I", .fieldLink RX10 85 "DocumentSpanner$State" "letters" "[I", .methodLink RX10 88 yX10_emptyAllSlots, .instanceMethod yX10_emptyAllSlots, .selects RX10 yX10_emptyAllSlots yX10_emptyAllSlots, .code yX10_emptyAllSlots cX10_emptyAllSlots 2 none, .fieldLink RX10 96 "DocumentSpanner$State" "filled" "[Z", .fieldLink RX10 34 "DocumentSpanner" "cursorSlot" "I"] : List Cond) ++ wsX100 ++ wsX80 ++ (vx_atS RX10 74 iae ["java/lang/RuntimeException", "java/lang/Exception"]).filter goodWord)
set_option maxRecDepth 20000 in
theorem ggk_L_appendLetter_X10_appendLetter : GoodIn wk_L_appendLetter wk_X10_appendLetter := goodIn_ca (goodIn_ca (goodIn_ca (goodIn_r _ [6, 7, 8, 9, 10, 11, 12, 13, 14, 5, 15, 16, 17] (by decide +kernel) (by decide +kernel)) (goodIn_sub (fun _ h => List.mem_cons_of_mem _ (List.mem_append_left _ (List.mem_append_left _ (List.mem_append_right _ h)))) (by decide +kernel))) (goodIn_sub (fun _ h => List.mem_cons_of_mem _ (List.mem_append_left _ (List.mem_append_right _ h))) (by decide +kernel))) (goodIn_sub (fun _ h => List.mem_cons_of_mem _ (List.mem_append_right _ h)) (by decide +kernel))
set_option maxRecDepth 20000 in
theorem gk_L_appendLetter_X10_appendLetter : GoodIn wk_L_appendLetter (wsV RL 7 RX10 yX10_appendLetter wk_X10_appendLetter) := goodIn_app (goodIn_r _ [2, 3, 4, 5] (by decide +kernel) (by decide +kernel)) ggk_L_appendLetter_X10_appendLetter
set_option maxHeartbeats 4000000 in
set_option maxRecDepth 100000 in
theorem k_L_appendLetter (l : Launch) (htr : l.stackTraces = false) (D : va_G) (cI cJ cZ : ClassId) (x : Nat) (st : Nat) (kp : Nat) (bf : Nat) (o1 : Nat) (o2 : Nat) (o3 : Nat) (o4 : Nat) (o5 : Nat) (o6 : Nat) (lt : Nat) (tb : Nat) (fl : Nat) (wt : Nat) (ou : Nat) (a0 : Int32) (sz : Nat) : vx_Met l yL_appendLetter wk_L_appendLetter ({ frames := 7, cells := 1, slots := 6, locals := 103 }) (xPc D cI cJ cZ [.ref x, .int a0, .ref ou] [(x, .inr (9, [.ref st, .ref kp, .int 0, .ref bf, .int 0, .int (-1), .int (-1), .int 0, .ref o1, .ref o2, .ref o3, .ref o4, .ref o5, .ref o6])), (st, .inr (8, [.ref lt, .ref tb, .ref fl, .ref wt, .int 0, .null])), (lt, .inl (cI, 8, .inl (fun _ => 0))), (fl, .inl (cZ, 6, .inl (fun _ => 0))), (ou, .inl (cJ, 1, .inr (.inl (fun _ => 0))))] sz) (va_Qi (fun (r : Int32) (u : Nat) => (r = 1 ∧ u = 0 ∧ a0.toInt < 97) ∨ (r = 1 ∧ u = 0 ∧ 97 ≤ a0.toInt ∧ 122 < a0.toInt) ∨ (r = 0 ∧ u = 1 ∧ 97 ≤ a0.toInt ∧ a0.toInt ≤ 122)) (fun (u : Nat) (t : State) => va_P D vwCl (match u with | 0 => [] | _ => [(ou, .inl (cJ, 1, .inr (.inl (vp_updL (fun _ => 0) ((0 : Int32).toNatClampNeg) 1))))] : va_W) t.heap ∧ va_D (va_A [(x, .inr (9, [.ref st, .ref kp, .int 0, .ref bf, .int 0, .int (-1), .int (-1), .int 0, .ref o1, .ref o2, .ref o3, .ref o4, .ref o5, .ref o6])), (st, .inr (8, [.ref lt, .ref tb, .ref fl, .ref wt, .int 0, .null])), (lt, .inl (cI, 8, .inl (fun _ => 0))), (fl, .inl (cZ, 6, .inl (fun _ => 0))), (ou, .inl (cJ, 1, .inr (.inl (fun _ => 0))))] sz) (match u with | 0 => [] | _ => [(ou, .inl (cJ, 1, .inr (.inl (vp_updL (fun _ => 0) ((0 : Int32).toNatClampNeg) 1))))] : va_W)) (va_A [(x, .inr (9, [.ref st, .ref kp, .int 0, .ref bf, .int 0, .int (-1), .int (-1), .int 0, .ref o1, .ref o2, .ref o3, .ref o4, .ref o5, .ref o6])), (st, .inr (8, [.ref lt, .ref tb, .ref fl, .ref wt, .int 0, .null])), (lt, .inl (cI, 8, .inl (fun _ => 0))), (fl, .inl (cZ, 6, .inl (fun _ => 0))), (ou, .inl (cJ, 1, .inr (.inl (fun _ => 0))))] sz)) (vx_X (fun _ : Unit => True) (fun (E : String) (_ : Unit) (_ : State) => False) (va_A [(x, .inr (9, [.ref st, .ref kp, .int 0, .ref bf, .int 0, .int (-1), .int (-1), .int 0, .ref o1, .ref o2, .ref o3, .ref o4, .ref o5, .ref o6])), (st, .inr (8, [.ref lt, .ref tb, .ref fl, .ref wt, .int 0, .null])), (lt, .inl (cI, 8, .inl (fun _ => 0))), (fl, .inl (cZ, 6, .inl (fun _ => 0))), (ou, .inl (cJ, 1, .inr (.inl (fun _ => 0))))] sz)) 1 6 (va_A [(x, .inr (9, [.ref st, .ref kp, .int 0, .ref bf, .int 0, .int (-1), .int (-1), .int 0, .ref o1, .ref o2, .ref o3, .ref o4, .ref o5, .ref o6])), (st, .inr (8, [.ref lt, .ref tb, .ref fl, .ref wt, .int 0, .null])), (lt, .inl (cI, 8, .inl (fun _ => 0))), (fl, .inl (cZ, 6, .inl (fun _ => 0))), (ou, .inl (cJ, 1, .inr (.inl (fun _ => 0))))] sz) := by
  refine vx_ofWH (cc := cL_appendLetter) (maxL := 4) (ret := (some .int)) (by decide) rfl ?_
  intro p e s m args below meth c s₁ B hml hv
  obtain ⟨rfl, hsz, hP, hK, hD0, hE, hV⟩ := hv
  have hx := B.exec
  have hb := B.bytes
  have hr := B.returns
  have hts := atoms_spec (ws := wk_L_appendLetter) B.pre
  have hown : s.vm.findClass RL = some m.cls := findClass_of_methodNamed B.named
  have hlocks := B.notSynchronized
  have htab : c.exceptionTable.toList = tableOf [(0, 9, 12, 13), (0, 9, 15, 15)] := vx_table (x := yL_appendLetter) B (hts _ List.mem_cons_self)
  have w_1 := hts (.classLink RL 13 iae) (List.mem_of_getElem? (i := 1) rfl)
  subst hsz
  have hD := hD0.self (sz := s.heap.size)
  generalize hAe : va_A [(x, .inr (9, [.ref st, .ref kp, .int 0, .ref bf, .int 0, .int (-1), .int (-1), .int 0, .ref o1, .ref o2, .ref o3, .ref o4, .ref o5, .ref o6])), (st, .inr (8, [.ref lt, .ref tb, .ref fl, .ref wt, .int 0, .null])), (lt, .inl (cI, 8, .inl (fun _ => 0))), (fl, .inl (cZ, 6, .inl (fun _ => 0))), (ou, .inl (cJ, 1, .inr (.inl (fun _ => 0))))] s.heap.size = A at hD hE ⊢
  have hA : ∀ q : Nat, s.heap.size ≤ q → A q := fun q h => by rw [← hAe]; exact Or.inr h
  have hS : va_S A s.heap s.heap [] := va_S.rf
  have hP : va_P D vwCl [(x, .inr (9, [.ref st, .ref kp, .int 0, .ref bf, .int 0, .int (-1), .int (-1), .int 0, .ref o1, .ref o2, .ref o3, .ref o4, .ref o5, .ref o6])), (st, .inr (8, [.ref lt, .ref tb, .ref fl, .ref wt, .int 0, .null])), (lt, .inl (cI, 8, .inl (fun _ => 0))), (fl, .inl (cZ, 6, .inl (fun _ => 0))), (ou, .inl (cJ, 1, .inr (.inl (fun _ => 0))))] s.heap := hP
  have hl := lv_entry ([.ref x, .int a0, .ref ou]) (n := 4) (Nat.le_of_ble_eq_true rfl)
  rw [lg_entry_eq]
  generalize (lg_sl ([.ref x, .int a0, .ref ou]) ++ List.replicate (4 - (lg_sl ([.ref x, .int a0, .ref ou])).length) Slot.unset).toArray = ls at hl ⊢
  have hl : lv_has ls 4 [(0, .ref x), (1, .int a0), (2, .ref ou)] := hl
  refine lv_aload_n hx hb dL_appendLetter_0 rfl (lv_at hl 2 rfl) ?_
  refine lv_iconst (v := 0) hx hb dL_appendLetter_1 (by decide) ?_
  refine lv_aload_n hx hb dL_appendLetter_2 rfl (lv_at hl 0 rfl) ?_
  refine lv_iload_n hx hb dL_appendLetter_3 rfl (lv_at hl 1 rfl) ?_
  have hPc := hP.sub (ws' := [(x, .inr (9, [.ref st, .ref kp, .int 0, .ref bf, .int 0, .int (-1), .int (-1), .int 0, .ref o1, .ref o2, .ref o3, .ref o4, .ref o5, .ref o6])), (st, .inr (8, [.ref lt, .ref tb, .ref fl, .ref wt, .int 0, .null])), (lt, .inl (cI, 8, .inl (fun _ => 0))), (fl, .inl (cZ, 6, .inl (fun _ => 0)))]) [0, 1, 2, 3] rfl
  have hDc := hD.sub (ws' := [(x, .inr (9, [.ref st, .ref kp, .int 0, .ref bf, .int 0, .int (-1), .int (-1), .int 0, .ref o1, .ref o2, .ref o3, .ref o4, .ref o5, .ref o6])), (st, .inr (8, [.ref lt, .ref tb, .ref fl, .ref wt, .int 0, .null])), (lt, .inl (cI, 8, .inl (fun _ => 0))), (fl, .inl (cZ, 6, .inl (fun _ => 0)))]) [0, 1, 2, 3] (by decide) rfl
  have hFc := va_free (wc := [(x, .inr (9, [.ref st, .ref kp, .int 0, .ref bf, .int 0, .int (-1), .int (-1), .int 0, .ref o1, .ref o2, .ref o3, .ref o4, .ref o5, .ref o6])), (st, .inr (8, [.ref lt, .ref tb, .ref fl, .ref wt, .int 0, .null])), (lt, .inl (cI, 8, .inl (fun _ => 0))), (fl, .inl (cZ, 6, .inl (fun _ => 0)))]) hD hS hA [0, 1, 2, 3] rfl
  refine vx_calli (vx_runV (As := [.int a0]) (rest := [.int 0, .ref ou]) ⟨hx, hb, hml, hown, hts⟩ (k_X10_appendLetter l htr D cI cJ cZ x st kp bf o1 o2 o3 o4 o5 o6 lt tb fl wt a0 s.heap.size) (cwV 1 hts gk_L_appendLetter_X10_appendLetter rfl rfl rfl (by decide +kernel) ⟨Nat.le_of_ble_eq_true rfl, Nat.le_of_ble_eq_true rfl⟩) ⟨xPc_blind, va_recv hK hP (ci := 9) (q0 := 0) rfl rfl, xPc_pre hPc hK hDc hE hS hFc hV⟩ rfl rfl hl.1 rfl (lv_room (Nat.le_of_ble_eq_true rfl)) dL_appendLetter_4 ⟨Nat.le_of_ble_eq_true rfl, Nat.le_of_ble_eq_true rfl⟩) hS (fun q _ h => hFc q h) hFc (fun q _ h => hFc q h) (fun E ce q9 u t H_1 locs ht hvm hpx hBX hz1 hk1 hS hq9 hcv hcl => ?_) (fun r u t H_1 locs ht hvm hw hB hz1 hk1 hS => ?_)
  · rcases hBX with ⟨rfl, e_0⟩ | ⟨rfl, e_0, e_1⟩
    · have c_2 : a0.toInt < 97 := e_0
      refine vx_catch hown (tableOf []) ⟨0, 9, 12, 13⟩ (tableOf [(0, 9, 15, 15)]) (by rw [htab]; rfl) (xpass0) (by decide) (by decide) w_1 (va_Nw.use rfl hV.2.2.2.2.2.1.1) hq9 hcv hcl ?_
      have hP : va_P D vwCl [] H_1 := fun k q h => by simp at h
      have hD : va_D A [] := ⟨fun i j p q h => by simp at h, fun k q h => by simp at h⟩
      refine W.widen (k := 1) (n := 6) (Nat.le_of_ble_eq_true rfl) (Nat.le_of_ble_eq_true rfl) ?_
      refine lv_astore_n (lv' := [(3, .ref q9), (0, .ref x), (1, .int a0), (2, .ref ou)]) hx hb dL_appendLetter_12 rfl hl (by decide) rfl (fun ls hl => ?_)
      refine lv_iconst (v := 1) hx hb dL_appendLetter_13 (by decide) ?_
      have hP9 := hP.sub (ws' := []) [] rfl
      have hD9 := hD.sub (ws' := []) [] (by decide) rfl
      refine W.widen (k := 1) (n := 6) (Nat.le_of_ble_eq_true rfl) (Nat.le_of_ble_eq_true rfl) ?_
      exact vx_ret (W.iret (v := 1) hx hb hr (fun t ht hW => ⟨⟨1, 0, rfl, Or.inl ⟨rfl, rfl, c_2⟩, by rw [ht]; exact hP9, hD9⟩, hS.F ht⟩) hS.2.2 dL_appendLetter_14)
    · have c_3 : 97 ≤ a0.toInt := e_0
      have c_4 : 122 < a0.toInt := e_1
      refine vx_catch hown (tableOf []) ⟨0, 9, 12, 13⟩ (tableOf [(0, 9, 15, 15)]) (by rw [htab]; rfl) (xpass0) (by decide) (by decide) w_1 (va_Nw.use rfl hV.2.2.2.2.2.1.1) hq9 hcv hcl ?_
      have hP : va_P D vwCl [] H_1 := fun k q h => by simp at h
      have hD : va_D A [] := ⟨fun i j p q h => by simp at h, fun k q h => by simp at h⟩
      refine W.widen (k := 1) (n := 6) (Nat.le_of_ble_eq_true rfl) (Nat.le_of_ble_eq_true rfl) ?_
      refine lv_astore_n (lv' := [(3, .ref q9), (0, .ref x), (1, .int a0), (2, .ref ou)]) hx hb dL_appendLetter_12 rfl hl (by decide) rfl (fun ls hl => ?_)
      refine lv_iconst (v := 1) hx hb dL_appendLetter_13 (by decide) ?_
      have hP9 := hP.sub (ws' := []) [] rfl
      have hD9 := hD.sub (ws' := []) [] (by decide) rfl
      refine W.widen (k := 1) (n := 6) (Nat.le_of_ble_eq_true rfl) (Nat.le_of_ble_eq_true rfl) ?_
      exact vx_ret (W.iret (v := 1) hx hb hr (fun t ht hW => ⟨⟨1, 0, rfl, Or.inr (Or.inl ⟨rfl, rfl, c_3, c_4⟩), by rw [ht]; exact hP9, hD9⟩, hS.F ht⟩) hS.2.2 dL_appendLetter_14)
  · rcases hw with ⟨rfl, e_0, e_1⟩
    have c_5 : 97 ≤ a0.toInt := e_0
    have c_6 : a0.toInt ≤ 122 := e_1
    obtain ⟨hP1, hD1⟩ := hB
    rw [ht] at hP1
    obtain ⟨hP, hD⟩ := va_join (wr := [(ou, .inl (cJ, 1, .inr (.inl (fun _ => 0))))]) (w1 := []) hP hD [0, 1, 2, 3] [4] rfl rfl (by decide) (by decide) hk1 hFc hP1 hD1
    have hP : va_P D vwCl [(ou, .inl (cJ, 1, .inr (.inl (fun _ => 0))))] H_1 := hP
    have hD : va_D A [(ou, .inl (cJ, 1, .inr (.inl (fun _ => 0))))] := hD
    refine W.widen (k := 1) (n := 6) (Nat.le_of_ble_eq_true rfl) (Nat.le_of_ble_eq_true rfl) ?_
    refine lv_i2l (v := 1) hx hb dL_appendLetter_7 (by decide) ?_
    refine va_last hx hb hK hP hD hS 0 1 rfl rfl (i := 0) (x := 1) (vp_in_iff.mpr ⟨by decide, by decide⟩) dL_appendLetter_8 (fun H_7 locs hP hD hS => ?_)
    have hP : va_P D vwCl [(ou, .inl (cJ, 1, .inr (.inl (vp_updL (fun _ => 0) ((0 : Int32).toNatClampNeg) 1))))] H_7 := hP
    have hD : va_D A [(ou, .inl (cJ, 1, .inr (.inl (vp_updL (fun _ => 0) ((0 : Int32).toNatClampNeg) 1))))] := hD
    refine lv_goto (tgt := 18) hx hb dL_appendLetter_9 (by decide) ?_
    refine lv_iconst (v := 0) hx hb dL_appendLetter_18 (by decide) ?_
    have hP9 := hP.sub (ws' := [(ou, .inl (cJ, 1, .inr (.inl (vp_updL (fun _ => 0) ((0 : Int32).toNatClampNeg) 1))))]) [0] rfl
    have hD9 := hD.sub (ws' := [(ou, .inl (cJ, 1, .inr (.inl (vp_updL (fun _ => 0) ((0 : Int32).toNatClampNeg) 1))))]) [0] (by decide) rfl
    refine W.widen (k := 1) (n := 6) (Nat.le_of_ble_eq_true rfl) (Nat.le_of_ble_eq_true rfl) ?_
    exact vx_ret (W.iret (v := 0) hx hb hr (fun t ht hW => ⟨⟨0, 1, rfl, Or.inr (Or.inr ⟨rfl, rfl, c_5, c_6⟩), by rw [ht]; exact hP9, hD9⟩, hS.F ht⟩) hS.2.2 dL_appendLetter_19)
def wk_L_letter : List Cond := .codeWith yL_letter cL_letter 4 (some .int) [(0, 9, 12, 20)] :: (([.classLink RL 20 iob, .methodLink RL 17 yX10_letter, .instanceMethod yX10_letter, .selects RX10 yX10_letter yX10_letter, .initialized RX10, .code yX10_letter cX10_letter 2 (some .int), .classLink RX10 91 iob, .initialized iob, .fieldLink RX10 12 "DocumentSpanner" "state" "LDocumentSpanner$State;", .fieldLink RX10 77 "DocumentSpanner$State" "length" "I"] : List Cond) ++ wsX100 ++ wsX80 ++ (vx_atS RX10 95 iob ["java/lang/RuntimeException", "java/lang/Exception"]).filter goodWord)
set_option maxRecDepth 20000 in
theorem ggk_L_letter_X10_letter : GoodIn wk_L_letter wk_X10_letter := goodIn_ca (goodIn_ca (goodIn_ca (goodIn_r _ [6, 7, 8, 9, 10] (by decide +kernel) (by decide +kernel)) (goodIn_sub (fun _ h => List.mem_cons_of_mem _ (List.mem_append_left _ (List.mem_append_left _ (List.mem_append_right _ h)))) (by decide +kernel))) (goodIn_sub (fun _ h => List.mem_cons_of_mem _ (List.mem_append_left _ (List.mem_append_right _ h))) (by decide +kernel))) (goodIn_sub (fun _ h => List.mem_cons_of_mem _ (List.mem_append_right _ h)) (by decide +kernel))
set_option maxRecDepth 20000 in
theorem gk_L_letter_X10_letter : GoodIn wk_L_letter (wsV RL 17 RX10 yX10_letter wk_X10_letter) := goodIn_app (goodIn_r _ [2, 3, 4, 5] (by decide +kernel) (by decide +kernel)) ggk_L_letter_X10_letter
set_option maxHeartbeats 4000000 in
set_option maxRecDepth 100000 in
theorem k_L_letter (l : Launch) (htr : l.stackTraces = false) (D : va_G) (cI cJ cZ : ClassId) (x : Nat) (st : Nat) (kp : Nat) (bf : Nat) (o1 : Nat) (o2 : Nat) (o3 : Nat) (o4 : Nat) (o5 : Nat) (o6 : Nat) (lt : Nat) (tb : Nat) (fl : Nat) (wt : Nat) (ou : Nat) (a0 : Int32) (sz : Nat) : vx_Met l yL_letter wk_L_letter ({ frames := 7, cells := 1, slots := 6, locals := 103 }) (xPc D cI cJ cZ [.ref x, .int a0, .ref ou] [(x, .inr (9, [.ref st, .ref kp, .int 0, .ref bf, .int 0, .int (-1), .int (-1), .int 0, .ref o1, .ref o2, .ref o3, .ref o4, .ref o5, .ref o6])), (st, .inr (8, [.ref lt, .ref tb, .ref fl, .ref wt, .int 0, .null])), (ou, .inl (cJ, 1, .inr (.inl (fun _ => 0))))] sz) (va_Qi (fun (r : Int32) (u : Unit) => (r = 1 ∧ a0.toInt < 0) ∨ (r = 1 ∧ 0 ≤ a0.toInt ∧ 0 ≤ a0.toInt)) (fun (u : Unit) (t : State) => va_P D vwCl ([] : va_W) t.heap ∧ va_D (va_A [(x, .inr (9, [.ref st, .ref kp, .int 0, .ref bf, .int 0, .int (-1), .int (-1), .int 0, .ref o1, .ref o2, .ref o3, .ref o4, .ref o5, .ref o6])), (st, .inr (8, [.ref lt, .ref tb, .ref fl, .ref wt, .int 0, .null])), (ou, .inl (cJ, 1, .inr (.inl (fun _ => 0))))] sz) ([] : va_W)) (va_A [(x, .inr (9, [.ref st, .ref kp, .int 0, .ref bf, .int 0, .int (-1), .int (-1), .int 0, .ref o1, .ref o2, .ref o3, .ref o4, .ref o5, .ref o6])), (st, .inr (8, [.ref lt, .ref tb, .ref fl, .ref wt, .int 0, .null])), (ou, .inl (cJ, 1, .inr (.inl (fun _ => 0))))] sz)) (vx_X (fun _ : Unit => True) (fun (E : String) (_ : Unit) (_ : State) => False) (va_A [(x, .inr (9, [.ref st, .ref kp, .int 0, .ref bf, .int 0, .int (-1), .int (-1), .int 0, .ref o1, .ref o2, .ref o3, .ref o4, .ref o5, .ref o6])), (st, .inr (8, [.ref lt, .ref tb, .ref fl, .ref wt, .int 0, .null])), (ou, .inl (cJ, 1, .inr (.inl (fun _ => 0))))] sz)) 1 6 (va_A [(x, .inr (9, [.ref st, .ref kp, .int 0, .ref bf, .int 0, .int (-1), .int (-1), .int 0, .ref o1, .ref o2, .ref o3, .ref o4, .ref o5, .ref o6])), (st, .inr (8, [.ref lt, .ref tb, .ref fl, .ref wt, .int 0, .null])), (ou, .inl (cJ, 1, .inr (.inl (fun _ => 0))))] sz) := by
  refine vx_ofWH (cc := cL_letter) (maxL := 4) (ret := (some .int)) (by decide) rfl ?_
  intro p e s m args below meth c s₁ B hml hv
  obtain ⟨rfl, hsz, hP, hK, hD0, hE, hV⟩ := hv
  have hx := B.exec
  have hb := B.bytes
  have hr := B.returns
  have hts := atoms_spec (ws := wk_L_letter) B.pre
  have hown : s.vm.findClass RL = some m.cls := findClass_of_methodNamed B.named
  have hlocks := B.notSynchronized
  have htab : c.exceptionTable.toList = tableOf [(0, 9, 12, 20)] := vx_table (x := yL_letter) B (hts _ List.mem_cons_self)
  have w_1 := hts (.classLink RL 20 iob) (List.mem_of_getElem? (i := 1) rfl)
  subst hsz
  have hD := hD0.self (sz := s.heap.size)
  generalize hAe : va_A [(x, .inr (9, [.ref st, .ref kp, .int 0, .ref bf, .int 0, .int (-1), .int (-1), .int 0, .ref o1, .ref o2, .ref o3, .ref o4, .ref o5, .ref o6])), (st, .inr (8, [.ref lt, .ref tb, .ref fl, .ref wt, .int 0, .null])), (ou, .inl (cJ, 1, .inr (.inl (fun _ => 0))))] s.heap.size = A at hD hE ⊢
  have hA : ∀ q : Nat, s.heap.size ≤ q → A q := fun q h => by rw [← hAe]; exact Or.inr h
  have hS : va_S A s.heap s.heap [] := va_S.rf
  have hP : va_P D vwCl [(x, .inr (9, [.ref st, .ref kp, .int 0, .ref bf, .int 0, .int (-1), .int (-1), .int 0, .ref o1, .ref o2, .ref o3, .ref o4, .ref o5, .ref o6])), (st, .inr (8, [.ref lt, .ref tb, .ref fl, .ref wt, .int 0, .null])), (ou, .inl (cJ, 1, .inr (.inl (fun _ => 0))))] s.heap := hP
  have hl := lv_entry ([.ref x, .int a0, .ref ou]) (n := 4) (Nat.le_of_ble_eq_true rfl)
  rw [lg_entry_eq]
  generalize (lg_sl ([.ref x, .int a0, .ref ou]) ++ List.replicate (4 - (lg_sl ([.ref x, .int a0, .ref ou])).length) Slot.unset).toArray = ls at hl ⊢
  have hl : lv_has ls 4 [(0, .ref x), (1, .int a0), (2, .ref ou)] := hl
  refine lv_aload_n hx hb dL_letter_0 rfl (lv_at hl 2 rfl) ?_
  refine lv_iconst (v := 0) hx hb dL_letter_1 (by decide) ?_
  refine lv_aload_n hx hb dL_letter_2 rfl (lv_at hl 0 rfl) ?_
  refine lv_iload_n hx hb dL_letter_3 rfl (lv_at hl 1 rfl) ?_
  have hPc := hP.sub (ws' := [(x, .inr (9, [.ref st, .ref kp, .int 0, .ref bf, .int 0, .int (-1), .int (-1), .int 0, .ref o1, .ref o2, .ref o3, .ref o4, .ref o5, .ref o6])), (st, .inr (8, [.ref lt, .ref tb, .ref fl, .ref wt, .int 0, .null]))]) [0, 1] rfl
  have hDc := hD.sub (ws' := [(x, .inr (9, [.ref st, .ref kp, .int 0, .ref bf, .int 0, .int (-1), .int (-1), .int 0, .ref o1, .ref o2, .ref o3, .ref o4, .ref o5, .ref o6])), (st, .inr (8, [.ref lt, .ref tb, .ref fl, .ref wt, .int 0, .null]))]) [0, 1] (by decide) rfl
  have hFc := va_free (wc := [(x, .inr (9, [.ref st, .ref kp, .int 0, .ref bf, .int 0, .int (-1), .int (-1), .int 0, .ref o1, .ref o2, .ref o3, .ref o4, .ref o5, .ref o6])), (st, .inr (8, [.ref lt, .ref tb, .ref fl, .ref wt, .int 0, .null]))]) hD hS hA [0, 1] rfl
  refine vx_calli (vx_runV (As := [.int a0]) (rest := [.int 0, .ref ou]) ⟨hx, hb, hml, hown, hts⟩ (k_X10_letter l htr D cI cJ cZ x st kp bf o1 o2 o3 o4 o5 o6 lt tb fl wt a0 s.heap.size) (cwV 1 hts gk_L_letter_X10_letter rfl rfl rfl (by decide +kernel) ⟨Nat.le_of_ble_eq_true rfl, Nat.le_of_ble_eq_true rfl⟩) ⟨xPc_blind, va_recv hK hP (ci := 9) (q0 := 0) rfl rfl, xPc_pre hPc hK hDc hE hS hFc hV⟩ rfl rfl hl.1 rfl (lv_room (Nat.le_of_ble_eq_true rfl)) dL_letter_4 ⟨Nat.le_of_ble_eq_true rfl, Nat.le_of_ble_eq_true rfl⟩) hS (fun q _ h => hFc q h) hFc (fun q _ h => hFc q h) (fun E ce q9 u t H_1 locs ht hvm hpx hBX hz1 hk1 hS hq9 hcv hcl => ?_) (fun r u t H_1 locs ht hvm hw hB hz1 hk1 hS => ?_)
  · rcases hBX with ⟨rfl, e_0⟩ | ⟨rfl, e_0, e_1⟩
    · have c_2 : a0.toInt < 0 := e_0
      refine vx_catch hown (tableOf []) ⟨0, 9, 12, 20⟩ (tableOf []) (by rw [htab]; rfl) (xpass0) (by decide) (by decide) w_1 (va_Nw.use rfl hV.2.2.2.2.2.1.2.2) hq9 hcv hcl ?_
      have hP : va_P D vwCl [] H_1 := fun k q h => by simp at h
      have hD : va_D A [] := ⟨fun i j p q h => by simp at h, fun k q h => by simp at h⟩
      refine W.widen (k := 1) (n := 6) (Nat.le_of_ble_eq_true rfl) (Nat.le_of_ble_eq_true rfl) ?_
      refine lv_astore_n (lv' := [(3, .ref q9), (0, .ref x), (1, .int a0), (2, .ref ou)]) hx hb dL_letter_12 rfl hl (by decide) rfl (fun ls hl => ?_)
      refine lv_iconst (v := 1) hx hb dL_letter_13 (by decide) ?_
      have hP9 := hP.sub (ws' := []) [] rfl
      have hD9 := hD.sub (ws' := []) [] (by decide) rfl
      refine W.widen (k := 1) (n := 6) (Nat.le_of_ble_eq_true rfl) (Nat.le_of_ble_eq_true rfl) ?_
      exact vx_ret (W.iret (v := 1) hx hb hr (fun t ht hW => ⟨⟨1, (), rfl, Or.inl ⟨rfl, c_2⟩, by rw [ht]; exact hP9, hD9⟩, hS.F ht⟩) hS.2.2 dL_letter_14)
    · have c_3 : 0 ≤ a0.toInt := e_0
      have c_4 : 0 ≤ a0.toInt := e_1
      refine vx_catch hown (tableOf []) ⟨0, 9, 12, 20⟩ (tableOf []) (by rw [htab]; rfl) (xpass0) (by decide) (by decide) w_1 (va_Nw.use rfl hV.2.2.2.2.2.1.2.2) hq9 hcv hcl ?_
      have hP : va_P D vwCl [] H_1 := fun k q h => by simp at h
      have hD : va_D A [] := ⟨fun i j p q h => by simp at h, fun k q h => by simp at h⟩
      refine W.widen (k := 1) (n := 6) (Nat.le_of_ble_eq_true rfl) (Nat.le_of_ble_eq_true rfl) ?_
      refine lv_astore_n (lv' := [(3, .ref q9), (0, .ref x), (1, .int a0), (2, .ref ou)]) hx hb dL_letter_12 rfl hl (by decide) rfl (fun ls hl => ?_)
      refine lv_iconst (v := 1) hx hb dL_letter_13 (by decide) ?_
      have hP9 := hP.sub (ws' := []) [] rfl
      have hD9 := hD.sub (ws' := []) [] (by decide) rfl
      refine W.widen (k := 1) (n := 6) (Nat.le_of_ble_eq_true rfl) (Nat.le_of_ble_eq_true rfl) ?_
      exact vx_ret (W.iret (v := 1) hx hb hr (fun t ht hW => ⟨⟨1, (), rfl, Or.inr ⟨rfl, c_3, c_4⟩, by rw [ht]; exact hP9, hD9⟩, hS.F ht⟩) hS.2.2 dL_letter_14)
  · exact hw.elim
def wk_L_appendCharacter : List Cond := .codeWith yL_appendCharacter cL_appendCharacter 4 (some .int) [(0, 9, 12, 13), (0, 9, 15, 15)] :: (([.classLink RL 13 iae, .methodLink RL 22 yX10_appendCharacter, .instanceMethod yX10_appendCharacter, .selects RX10 yX10_appendCharacter yX10_appendCharacter, .initialized RX10, .code yX10_appendCharacter cX10_appendCharacter 2 (some .int), .classLink RX10 70 iae, .initialized iae, .fieldLink RX10 27 "DocumentSpanner" "bufferLength" "I", .fieldLink RX10 23 "DocumentSpanner" "buffer" "[I"] : List Cond) ++ wsX100 ++ (vx_atS RX10 74 iae ["java/lang/RuntimeException", "java/lang/Exception"]).filter goodWord)
set_option maxRecDepth 20000 in
theorem ggk_L_appendCharacter_X10_appendCharacter : GoodIn wk_L_appendCharacter wk_X10_appendCharacter := goodIn_ca (goodIn_ca (goodIn_r _ [6, 7, 8, 9, 10] (by decide +kernel) (by decide +kernel)) (goodIn_sub (fun _ h => List.mem_cons_of_mem _ (List.mem_append_left _ (List.mem_append_right _ h))) (by decide +kernel))) (goodIn_sub (fun _ h => List.mem_cons_of_mem _ (List.mem_append_right _ h)) (by decide +kernel))
set_option maxRecDepth 20000 in
theorem gk_L_appendCharacter_X10_appendCharacter : GoodIn wk_L_appendCharacter (wsV RL 22 RX10 yX10_appendCharacter wk_X10_appendCharacter) := goodIn_app (goodIn_r _ [2, 3, 4, 5] (by decide +kernel) (by decide +kernel)) ggk_L_appendCharacter_X10_appendCharacter
set_option maxHeartbeats 4000000 in
set_option maxRecDepth 100000 in
theorem k_L_appendCharacter (l : Launch) (htr : l.stackTraces = false) (D : va_G) (cI cJ cZ : ClassId) (x : Nat) (st : Nat) (kp : Nat) (bf : Nat) (o1 : Nat) (o2 : Nat) (o3 : Nat) (o4 : Nat) (o5 : Nat) (o6 : Nat) (ou : Nat) (a0 : Int32) (sz : Nat) : vx_Met l yL_appendCharacter wk_L_appendCharacter ({ frames := 7, cells := 1, slots := 6, locals := 103 }) (xPc D cI cJ cZ [.ref x, .int a0, .ref ou] [(x, .inr (9, [.ref st, .ref kp, .int 0, .ref bf, .int 0, .int (-1), .int (-1), .int 0, .ref o1, .ref o2, .ref o3, .ref o4, .ref o5, .ref o6])), (bf, .inl (cI, 40, .inl (fun _ => 0))), (ou, .inl (cJ, 1, .inr (.inl (fun _ => 0))))] sz) (va_Qi (fun (r : Int32) (u : Nat) => (r = 1 ∧ u = 0 ∧ a0.toInt < 33) ∨ (r = 1 ∧ u = 0 ∧ 33 ≤ a0.toInt ∧ 126 < a0.toInt) ∨ (r = 0 ∧ u = 1 ∧ 33 ≤ a0.toInt ∧ a0.toInt ≤ 126)) (fun (u : Nat) (t : State) => va_P D vwCl (match u with | 0 => [] | _ => [(ou, .inl (cJ, 1, .inr (.inl (vp_updL (fun _ => 0) ((0 : Int32).toNatClampNeg) 1))))] : va_W) t.heap ∧ va_D (va_A [(x, .inr (9, [.ref st, .ref kp, .int 0, .ref bf, .int 0, .int (-1), .int (-1), .int 0, .ref o1, .ref o2, .ref o3, .ref o4, .ref o5, .ref o6])), (bf, .inl (cI, 40, .inl (fun _ => 0))), (ou, .inl (cJ, 1, .inr (.inl (fun _ => 0))))] sz) (match u with | 0 => [] | _ => [(ou, .inl (cJ, 1, .inr (.inl (vp_updL (fun _ => 0) ((0 : Int32).toNatClampNeg) 1))))] : va_W)) (va_A [(x, .inr (9, [.ref st, .ref kp, .int 0, .ref bf, .int 0, .int (-1), .int (-1), .int 0, .ref o1, .ref o2, .ref o3, .ref o4, .ref o5, .ref o6])), (bf, .inl (cI, 40, .inl (fun _ => 0))), (ou, .inl (cJ, 1, .inr (.inl (fun _ => 0))))] sz)) (vx_X (fun _ : Unit => True) (fun (E : String) (_ : Unit) (_ : State) => False) (va_A [(x, .inr (9, [.ref st, .ref kp, .int 0, .ref bf, .int 0, .int (-1), .int (-1), .int 0, .ref o1, .ref o2, .ref o3, .ref o4, .ref o5, .ref o6])), (bf, .inl (cI, 40, .inl (fun _ => 0))), (ou, .inl (cJ, 1, .inr (.inl (fun _ => 0))))] sz)) 1 6 (va_A [(x, .inr (9, [.ref st, .ref kp, .int 0, .ref bf, .int 0, .int (-1), .int (-1), .int 0, .ref o1, .ref o2, .ref o3, .ref o4, .ref o5, .ref o6])), (bf, .inl (cI, 40, .inl (fun _ => 0))), (ou, .inl (cJ, 1, .inr (.inl (fun _ => 0))))] sz) := by
  refine vx_ofWH (cc := cL_appendCharacter) (maxL := 4) (ret := (some .int)) (by decide) rfl ?_
  intro p e s m args below meth c s₁ B hml hv
  obtain ⟨rfl, hsz, hP, hK, hD0, hE, hV⟩ := hv
  have hx := B.exec
  have hb := B.bytes
  have hr := B.returns
  have hts := atoms_spec (ws := wk_L_appendCharacter) B.pre
  have hown : s.vm.findClass RL = some m.cls := findClass_of_methodNamed B.named
  have hlocks := B.notSynchronized
  have htab : c.exceptionTable.toList = tableOf [(0, 9, 12, 13), (0, 9, 15, 15)] := vx_table (x := yL_appendCharacter) B (hts _ List.mem_cons_self)
  have w_1 := hts (.classLink RL 13 iae) (List.mem_of_getElem? (i := 1) rfl)
  subst hsz
  have hD := hD0.self (sz := s.heap.size)
  generalize hAe : va_A [(x, .inr (9, [.ref st, .ref kp, .int 0, .ref bf, .int 0, .int (-1), .int (-1), .int 0, .ref o1, .ref o2, .ref o3, .ref o4, .ref o5, .ref o6])), (bf, .inl (cI, 40, .inl (fun _ => 0))), (ou, .inl (cJ, 1, .inr (.inl (fun _ => 0))))] s.heap.size = A at hD hE ⊢
  have hA : ∀ q : Nat, s.heap.size ≤ q → A q := fun q h => by rw [← hAe]; exact Or.inr h
  have hS : va_S A s.heap s.heap [] := va_S.rf
  have hP : va_P D vwCl [(x, .inr (9, [.ref st, .ref kp, .int 0, .ref bf, .int 0, .int (-1), .int (-1), .int 0, .ref o1, .ref o2, .ref o3, .ref o4, .ref o5, .ref o6])), (bf, .inl (cI, 40, .inl (fun _ => 0))), (ou, .inl (cJ, 1, .inr (.inl (fun _ => 0))))] s.heap := hP
  have hl := lv_entry ([.ref x, .int a0, .ref ou]) (n := 4) (Nat.le_of_ble_eq_true rfl)
  rw [lg_entry_eq]
  generalize (lg_sl ([.ref x, .int a0, .ref ou]) ++ List.replicate (4 - (lg_sl ([.ref x, .int a0, .ref ou])).length) Slot.unset).toArray = ls at hl ⊢
  have hl : lv_has ls 4 [(0, .ref x), (1, .int a0), (2, .ref ou)] := hl
  refine lv_aload_n hx hb dL_appendCharacter_0 rfl (lv_at hl 2 rfl) ?_
  refine lv_iconst (v := 0) hx hb dL_appendCharacter_1 (by decide) ?_
  refine lv_aload_n hx hb dL_appendCharacter_2 rfl (lv_at hl 0 rfl) ?_
  refine lv_iload_n hx hb dL_appendCharacter_3 rfl (lv_at hl 1 rfl) ?_
  have hPc := hP.sub (ws' := [(x, .inr (9, [.ref st, .ref kp, .int 0, .ref bf, .int 0, .int (-1), .int (-1), .int 0, .ref o1, .ref o2, .ref o3, .ref o4, .ref o5, .ref o6])), (bf, .inl (cI, 40, .inl (fun _ => 0)))]) [0, 1] rfl
  have hDc := hD.sub (ws' := [(x, .inr (9, [.ref st, .ref kp, .int 0, .ref bf, .int 0, .int (-1), .int (-1), .int 0, .ref o1, .ref o2, .ref o3, .ref o4, .ref o5, .ref o6])), (bf, .inl (cI, 40, .inl (fun _ => 0)))]) [0, 1] (by decide) rfl
  have hFc := va_free (wc := [(x, .inr (9, [.ref st, .ref kp, .int 0, .ref bf, .int 0, .int (-1), .int (-1), .int 0, .ref o1, .ref o2, .ref o3, .ref o4, .ref o5, .ref o6])), (bf, .inl (cI, 40, .inl (fun _ => 0)))]) hD hS hA [0, 1] rfl
  refine vx_calli (vx_runV (As := [.int a0]) (rest := [.int 0, .ref ou]) ⟨hx, hb, hml, hown, hts⟩ (k_X10_appendCharacter l htr D cI cJ cZ x st kp bf o1 o2 o3 o4 o5 o6 a0 s.heap.size) (cwV 1 hts gk_L_appendCharacter_X10_appendCharacter rfl rfl rfl (by decide +kernel) ⟨Nat.le_of_ble_eq_true rfl, Nat.le_of_ble_eq_true rfl⟩) ⟨xPc_blind, va_recv hK hP (ci := 9) (q0 := 0) rfl rfl, xPc_pre hPc hK hDc hE hS hFc hV⟩ rfl rfl hl.1 rfl (lv_room (Nat.le_of_ble_eq_true rfl)) dL_appendCharacter_4 ⟨Nat.le_of_ble_eq_true rfl, Nat.le_of_ble_eq_true rfl⟩) hS (fun q _ h => hFc q h) hFc (fun q _ h => hFc q h) (fun E ce q9 u t H_1 locs ht hvm hpx hBX hz1 hk1 hS hq9 hcv hcl => ?_) (fun r u t H_1 locs ht hvm hw hB hz1 hk1 hS => ?_)
  · rcases hBX with ⟨rfl, e_0⟩ | ⟨rfl, e_0, e_1⟩
    · have c_2 : a0.toInt < 33 := e_0
      refine vx_catch hown (tableOf []) ⟨0, 9, 12, 13⟩ (tableOf [(0, 9, 15, 15)]) (by rw [htab]; rfl) (xpass0) (by decide) (by decide) w_1 (va_Nw.use rfl hV.2.2.2.2.2.1.1) hq9 hcv hcl ?_
      have hP : va_P D vwCl [] H_1 := fun k q h => by simp at h
      have hD : va_D A [] := ⟨fun i j p q h => by simp at h, fun k q h => by simp at h⟩
      refine W.widen (k := 1) (n := 6) (Nat.le_of_ble_eq_true rfl) (Nat.le_of_ble_eq_true rfl) ?_
      refine lv_astore_n (lv' := [(3, .ref q9), (0, .ref x), (1, .int a0), (2, .ref ou)]) hx hb dL_appendCharacter_12 rfl hl (by decide) rfl (fun ls hl => ?_)
      refine lv_iconst (v := 1) hx hb dL_appendCharacter_13 (by decide) ?_
      have hP9 := hP.sub (ws' := []) [] rfl
      have hD9 := hD.sub (ws' := []) [] (by decide) rfl
      refine W.widen (k := 1) (n := 6) (Nat.le_of_ble_eq_true rfl) (Nat.le_of_ble_eq_true rfl) ?_
      exact vx_ret (W.iret (v := 1) hx hb hr (fun t ht hW => ⟨⟨1, 0, rfl, Or.inl ⟨rfl, rfl, c_2⟩, by rw [ht]; exact hP9, hD9⟩, hS.F ht⟩) hS.2.2 dL_appendCharacter_14)
    · have c_3 : 33 ≤ a0.toInt := e_0
      have c_4 : 126 < a0.toInt := e_1
      refine vx_catch hown (tableOf []) ⟨0, 9, 12, 13⟩ (tableOf [(0, 9, 15, 15)]) (by rw [htab]; rfl) (xpass0) (by decide) (by decide) w_1 (va_Nw.use rfl hV.2.2.2.2.2.1.1) hq9 hcv hcl ?_
      have hP : va_P D vwCl [] H_1 := fun k q h => by simp at h
      have hD : va_D A [] := ⟨fun i j p q h => by simp at h, fun k q h => by simp at h⟩
      refine W.widen (k := 1) (n := 6) (Nat.le_of_ble_eq_true rfl) (Nat.le_of_ble_eq_true rfl) ?_
      refine lv_astore_n (lv' := [(3, .ref q9), (0, .ref x), (1, .int a0), (2, .ref ou)]) hx hb dL_appendCharacter_12 rfl hl (by decide) rfl (fun ls hl => ?_)
      refine lv_iconst (v := 1) hx hb dL_appendCharacter_13 (by decide) ?_
      have hP9 := hP.sub (ws' := []) [] rfl
      have hD9 := hD.sub (ws' := []) [] (by decide) rfl
      refine W.widen (k := 1) (n := 6) (Nat.le_of_ble_eq_true rfl) (Nat.le_of_ble_eq_true rfl) ?_
      exact vx_ret (W.iret (v := 1) hx hb hr (fun t ht hW => ⟨⟨1, 0, rfl, Or.inr (Or.inl ⟨rfl, rfl, c_3, c_4⟩), by rw [ht]; exact hP9, hD9⟩, hS.F ht⟩) hS.2.2 dL_appendCharacter_14)
  · rcases hw with ⟨rfl, e_0, e_1⟩
    have c_5 : 33 ≤ a0.toInt := e_0
    have c_6 : a0.toInt ≤ 126 := e_1
    obtain ⟨hP1, hD1⟩ := hB
    rw [ht] at hP1
    obtain ⟨hP, hD⟩ := va_join (wr := [(ou, .inl (cJ, 1, .inr (.inl (fun _ => 0))))]) (w1 := []) hP hD [0, 1] [2] rfl rfl (by decide) (by decide) hk1 hFc hP1 hD1
    have hP : va_P D vwCl [(ou, .inl (cJ, 1, .inr (.inl (fun _ => 0))))] H_1 := hP
    have hD : va_D A [(ou, .inl (cJ, 1, .inr (.inl (fun _ => 0))))] := hD
    refine W.widen (k := 1) (n := 6) (Nat.le_of_ble_eq_true rfl) (Nat.le_of_ble_eq_true rfl) ?_
    refine lv_i2l (v := 1) hx hb dL_appendCharacter_7 (by decide) ?_
    refine va_last hx hb hK hP hD hS 0 1 rfl rfl (i := 0) (x := 1) (vp_in_iff.mpr ⟨by decide, by decide⟩) dL_appendCharacter_8 (fun H_7 locs hP hD hS => ?_)
    have hP : va_P D vwCl [(ou, .inl (cJ, 1, .inr (.inl (vp_updL (fun _ => 0) ((0 : Int32).toNatClampNeg) 1))))] H_7 := hP
    have hD : va_D A [(ou, .inl (cJ, 1, .inr (.inl (vp_updL (fun _ => 0) ((0 : Int32).toNatClampNeg) 1))))] := hD
    refine lv_goto (tgt := 18) hx hb dL_appendCharacter_9 (by decide) ?_
    refine lv_iconst (v := 0) hx hb dL_appendCharacter_18 (by decide) ?_
    have hP9 := hP.sub (ws' := [(ou, .inl (cJ, 1, .inr (.inl (vp_updL (fun _ => 0) ((0 : Int32).toNatClampNeg) 1))))]) [0] rfl
    have hD9 := hD.sub (ws' := [(ou, .inl (cJ, 1, .inr (.inl (vp_updL (fun _ => 0) ((0 : Int32).toNatClampNeg) 1))))]) [0] (by decide) rfl
    refine W.widen (k := 1) (n := 6) (Nat.le_of_ble_eq_true rfl) (Nat.le_of_ble_eq_true rfl) ?_
    exact vx_ret (W.iret (v := 0) hx hb hr (fun t ht hW => ⟨⟨0, 1, rfl, Or.inr (Or.inr ⟨rfl, rfl, c_5, c_6⟩), by rw [ht]; exact hP9, hD9⟩, hS.F ht⟩) hS.2.2 dL_appendCharacter_19)
def wk_L_parse : List Cond := .codeWith yL_parse cL_parse 3 (some .int) [(0, 8, 11, 13)] :: (([.methodLink RL 25 yX10_parse, .instanceMethod yX10_parse, .selects RX10 yX10_parse yX10_parse, .initialized RX10, .code yX10_parse cX10_parse 2 (some .int), .fieldLink RX10 27 "DocumentSpanner" "bufferLength" "I", .fieldLink RX10 23 "DocumentSpanner" "buffer" "[I", .fieldLink RX10 31 "DocumentSpanner" "faultPosition" "I", .fieldLink RX10 12 "DocumentSpanner" "state" "LDocumentSpanner$State;", .classLink RX10 112 RX2, .instantiable RX2 6, .initialized RX2, .methodLink RX10 114 yX2_init, .instanceMethod yX2_init, .fieldLink RX10 121 "DocumentSpanner$State" "formula" "LDocumentSpanner$Formula;", .methodLink RX10 104 yX9_firstFault, .static yX9_firstFault, .initialized RX9, .code yX9_firstFault cX9_firstFault 8 (some .int), .arrayClass .int, .methodLink RX9 19 yX9_isVariable, .static yX9_isVariable, .code yX9_isVariable cX9_isVariable 1 (some .boolean), .code yX2_init cX2_init 3 none, .methodLink RX2 3 objectInit, .instanceMethod objectInit, .code objectInit ⟨#[0xb1]⟩ 1 none, .arrayClass .long, .fieldLink RX2 9 "DocumentSpanner$FormulaReader" "markers" "[J", .fieldLink RX2 15 "DocumentSpanner$FormulaReader" "at" "I", .fieldLink RX2 19 "DocumentSpanner$FormulaReader" "sequential" "Z", .fieldLink RX2 23 "DocumentSpanner$FormulaReader" "functional" "Z", .methodLink RX2 26 Lib.Math.min.name, .static Lib.Math.min.name, .initialized "java/lang/Math", .code Lib.Math.min.name Lib.Math.min.code 2 (some .int), .methodLink RX2 32 Lib.Math.max.name, .static Lib.Math.max.name, .code Lib.Math.max.name Lib.Math.max.code 2 (some .int), .fieldLink RX2 41 "DocumentSpanner$FormulaReader" "text" "[I", .fieldLink RX2 45 "DocumentSpanner$FormulaReader" "follow" "[J", .methodLink RX2 35 yJ7_copyOf_59c91, .static yJ7_copyOf_59c91, .initialized RJ7, .code yJ7_copyOf_59c91 cJ7_copyOf_59c91 3 (some (.array .int)), .methodLink RJ7 304 Lib.Math.min.name, .methodLink RJ7 150 arraycopyName, .native arraycopyName, .static arraycopyName, .initialized "java/lang/System", .methodLink RX10 117 yX2_read, .instanceMethod yX2_read, .selects RX2 yX2_read yX2_read, .code yX2_read cX2_read 3 (some (.object "DocumentSpanner$Formula")), .fieldLink RX2 52 "DocumentSpanner$Part" "last" "J", .classLink RX2 62 RX1, .instantiable RX1 8, .initialized RX1, .methodLink RX2 64 yX1_init, .instanceMethod yX1_init, .methodLink RX2 48 yX2_readFormula, .instanceMethod yX2_readFormula, .selects RX2 yX2_readFormula yX2_readFormula, .code yX2_readFormula cX2_readFormula 5 (some (.object "DocumentSpanner$Part")), .methodLink RX2 71 yX2_readSequence, .instanceMethod yX2_readSequence, .selects RX2 yX2_readSequence yX2_readSequence, .code yX2_readSequence cX2_readSequence 5 (some (.object "DocumentSpanner$Part")), .methodLink RX2 67 yX5_ofNothing, .static yX5_ofNothing, .initialized RX5, .code yX5_ofNothing cX5_ofNothing 0 (some (.object "DocumentSpanner$Part")), .classLink RX5 8 RX5, .instantiable RX5 4, .methodLink RX5 24 yX5_init, .instanceMethod yX5_init, .code yX5_init cX5_init 7 none, .methodLink RX5 1 objectInit, .fieldLink RX5 7 "DocumentSpanner$Part" "nullable" "Z", .fieldLink RX5 13 "DocumentSpanner$Part" "first" "J", .fieldLink RX5 17 "DocumentSpanner$Part" "last" "J", .fieldLink RX5 20 "DocumentSpanner$Part" "mentioned" "I", .methodLink RX2 58 yX2_link, .instanceMethod yX2_link, .selects RX2 yX2_link yX2_link, .code yX2_link cX2_link 6 none, .code yX1_init cX1_init 9 none, .methodLink RX1 1 objectInit, .fieldLink RX1 7 "DocumentSpanner$Formula" "text" "[I", .fieldLink RX1 13 "DocumentSpanner$Formula" "follow" "[J", .fieldLink RX1 17 "DocumentSpanner$Formula" "markers" "[J", .fieldLink RX1 20 "DocumentSpanner$Part" "mentioned" "I", .fieldLink RX1 26 "DocumentSpanner$Formula" "mentioned" "I", .fieldLink RX1 27 "DocumentSpanner$Formula" "kind" "I", .fieldLink RX1 30 "DocumentSpanner$Formula" "accept" "J", .fieldLink RX1 34 "DocumentSpanner$Part" "nullable" "Z", .fieldLink RX1 38 "DocumentSpanner$Part" "first" "J", .fieldLink RX1 41 "DocumentSpanner$Formula" "first" "J", .fieldLink RX1 42 "DocumentSpanner$Formula" "allMarkers" "J"] : List Cond) ++ wsX10 ++ wsX100 ++ wsX20 ++ wsX50 ++ wsX80)
set_option maxRecDepth 20000 in
theorem ggk_L_parse_X10_parse : GoodIn wk_L_parse wk_X10_parse := goodIn_ca (goodIn_ca (goodIn_ca (goodIn_ca (goodIn_ca (goodIn_r _ [5, 6, 7, 8, 9, 10, 11, 12, 13, 14, 15, 16, 17, 18, 19, 20, 21, 22, 23, 24, 25, 26, 27, 28, 29, 30, 31, 32, 33, 34, 35, 36, 37, 38, 39, 40, 41, 42, 43, 44, 45, 46, 47, 48, 49, 50, 51, 52, 53, 54, 55, 56, 57, 58, 59, 60, 61, 62, 63, 64, 65, 66, 67, 68, 69, 70, 71, 72, 73, 74, 75, 76, 77, 78, 79, 80, 81, 82, 83, 84, 85, 86, 87, 88, 89, 90, 91, 92, 93, 94, 95, 96, 97, 98, 99] (by decide +kernel) (by decide +kernel)) (goodIn_sub (fun _ h => List.mem_cons_of_mem _ (List.mem_append_left _ (List.mem_append_left _ (List.mem_append_left _ (List.mem_append_left _ (List.mem_append_right _ h)))))) (by decide +kernel))) (goodIn_sub (fun _ h => List.mem_cons_of_mem _ (List.mem_append_left _ (List.mem_append_left _ (List.mem_append_left _ (List.mem_append_right _ h))))) (by decide +kernel))) (goodIn_sub (fun _ h => List.mem_cons_of_mem _ (List.mem_append_left _ (List.mem_append_left _ (List.mem_append_right _ h)))) (by decide +kernel))) (goodIn_sub (fun _ h => List.mem_cons_of_mem _ (List.mem_append_left _ (List.mem_append_right _ h))) (by decide +kernel))) (goodIn_sub (fun _ h => List.mem_cons_of_mem _ (List.mem_append_right _ h)) (by decide +kernel))
set_option maxRecDepth 20000 in
theorem gk_L_parse_X10_parse : GoodIn wk_L_parse (wsV RL 25 RX10 yX10_parse wk_X10_parse) := goodIn_app (goodIn_r _ [1, 2, 3, 4] (by decide +kernel) (by decide +kernel)) ggk_L_parse_X10_parse
set_option maxHeartbeats 4000000 in
set_option maxRecDepth 100000 in
theorem k_L_parse (l : Launch) (htr : l.stackTraces = false) (D : va_G) (cI cJ cZ : ClassId) (x : Nat) (st : Nat) (kp : Nat) (bf : Nat) (o1 : Nat) (o2 : Nat) (o3 : Nat) (o4 : Nat) (o5 : Nat) (o6 : Nat) (lt : Nat) (tb : Nat) (fl : Nat) (wt : Nat) (ou : Nat) (sz : Nat) : vx_Met l yL_parse wk_L_parse ({ frames := 7, cells := 7, slots := 30, locals := 148 }) (xPc D cI cJ cZ [.ref x, .ref ou] [(x, .inr (9, [.ref st, .ref kp, .int 0, .ref bf, .int 0, .int (-1), .int (-1), .int 0, .ref o1, .ref o2, .ref o3, .ref o4, .ref o5, .ref o6])), (st, .inr (8, [.ref lt, .ref tb, .ref fl, .ref wt, .int 0, .null])), (bf, .inl (cI, 40, .inl (fun _ => 0))), (ou, .inl (cJ, 1, .inr (.inl (fun _ => 0))))] sz) (va_Qi (fun (r : Int32) (u : Unit) => (r = 0)) (fun (u : Unit) (t : State) => va_P D vwCl ([(ou, .inl (cJ, 1, .inr (.inl (fun _ => 0))))] : va_W) t.heap ∧ va_D (va_A [(x, .inr (9, [.ref st, .ref kp, .int 0, .ref bf, .int 0, .int (-1), .int (-1), .int 0, .ref o1, .ref o2, .ref o3, .ref o4, .ref o5, .ref o6])), (st, .inr (8, [.ref lt, .ref tb, .ref fl, .ref wt, .int 0, .null])), (bf, .inl (cI, 40, .inl (fun _ => 0))), (ou, .inl (cJ, 1, .inr (.inl (fun _ => 0))))] sz) ([(ou, .inl (cJ, 1, .inr (.inl (fun _ => 0))))] : va_W)) (va_A [(x, .inr (9, [.ref st, .ref kp, .int 0, .ref bf, .int 0, .int (-1), .int (-1), .int 0, .ref o1, .ref o2, .ref o3, .ref o4, .ref o5, .ref o6])), (st, .inr (8, [.ref lt, .ref tb, .ref fl, .ref wt, .int 0, .null])), (bf, .inl (cI, 40, .inl (fun _ => 0))), (ou, .inl (cJ, 1, .inr (.inl (fun _ => 0))))] sz)) (vx_X (fun _ : Unit => True) (fun (E : String) (_ : Unit) (_ : State) => False) (va_A [(x, .inr (9, [.ref st, .ref kp, .int 0, .ref bf, .int 0, .int (-1), .int (-1), .int 0, .ref o1, .ref o2, .ref o3, .ref o4, .ref o5, .ref o6])), (st, .inr (8, [.ref lt, .ref tb, .ref fl, .ref wt, .int 0, .null])), (bf, .inl (cI, 40, .inl (fun _ => 0))), (ou, .inl (cJ, 1, .inr (.inl (fun _ => 0))))] sz)) 7 30 (va_A [(x, .inr (9, [.ref st, .ref kp, .int 0, .ref bf, .int 0, .int (-1), .int (-1), .int 0, .ref o1, .ref o2, .ref o3, .ref o4, .ref o5, .ref o6])), (st, .inr (8, [.ref lt, .ref tb, .ref fl, .ref wt, .int 0, .null])), (bf, .inl (cI, 40, .inl (fun _ => 0))), (ou, .inl (cJ, 1, .inr (.inl (fun _ => 0))))] sz) := by
  refine vx_ofWH (cc := cL_parse) (maxL := 3) (ret := (some .int)) (by decide) rfl ?_
  intro p e s m args below meth c s₁ B hml hv
  obtain ⟨rfl, hsz, hP, hK, hD0, hE, hV⟩ := hv
  have hx := B.exec
  have hb := B.bytes
  have hr := B.returns
  have hts := atoms_spec (ws := wk_L_parse) B.pre
  have hown : s.vm.findClass RL = some m.cls := findClass_of_methodNamed B.named
  have hlocks := B.notSynchronized
  have htab : c.exceptionTable.toList = tableOf [(0, 8, 11, 13)] := vx_table (x := yL_parse) B (hts _ List.mem_cons_self)
  subst hsz
  have hD := hD0.self (sz := s.heap.size)
  generalize hAe : va_A [(x, .inr (9, [.ref st, .ref kp, .int 0, .ref bf, .int 0, .int (-1), .int (-1), .int 0, .ref o1, .ref o2, .ref o3, .ref o4, .ref o5, .ref o6])), (st, .inr (8, [.ref lt, .ref tb, .ref fl, .ref wt, .int 0, .null])), (bf, .inl (cI, 40, .inl (fun _ => 0))), (ou, .inl (cJ, 1, .inr (.inl (fun _ => 0))))] s.heap.size = A at hD hE ⊢
  have hA : ∀ q : Nat, s.heap.size ≤ q → A q := fun q h => by rw [← hAe]; exact Or.inr h
  have hS : va_S A s.heap s.heap [] := va_S.rf
  have hP : va_P D vwCl [(x, .inr (9, [.ref st, .ref kp, .int 0, .ref bf, .int 0, .int (-1), .int (-1), .int 0, .ref o1, .ref o2, .ref o3, .ref o4, .ref o5, .ref o6])), (st, .inr (8, [.ref lt, .ref tb, .ref fl, .ref wt, .int 0, .null])), (bf, .inl (cI, 40, .inl (fun _ => 0))), (ou, .inl (cJ, 1, .inr (.inl (fun _ => 0))))] s.heap := hP
  have hl := lv_entry ([.ref x, .ref ou]) (n := 3) (Nat.le_of_ble_eq_true rfl)
  rw [lg_entry_eq]
  generalize (lg_sl ([.ref x, .ref ou]) ++ List.replicate (3 - (lg_sl ([.ref x, .ref ou])).length) Slot.unset).toArray = ls at hl ⊢
  have hl : lv_has ls 3 [(0, .ref x), (1, .ref ou)] := hl
  refine lv_aload_n hx hb dL_parse_0 rfl (lv_at hl 1 rfl) ?_
  refine lv_iconst (v := 0) hx hb dL_parse_1 (by decide) ?_
  refine lv_aload_n hx hb dL_parse_2 rfl (lv_at hl 0 rfl) ?_
  have hPc := hP.sub (ws' := [(x, .inr (9, [.ref st, .ref kp, .int 0, .ref bf, .int 0, .int (-1), .int (-1), .int 0, .ref o1, .ref o2, .ref o3, .ref o4, .ref o5, .ref o6])), (st, .inr (8, [.ref lt, .ref tb, .ref fl, .ref wt, .int 0, .null])), (bf, .inl (cI, 40, .inl (fun _ => 0)))]) [0, 1, 2] rfl
  have hDc := hD.sub (ws' := [(x, .inr (9, [.ref st, .ref kp, .int 0, .ref bf, .int 0, .int (-1), .int (-1), .int 0, .ref o1, .ref o2, .ref o3, .ref o4, .ref o5, .ref o6])), (st, .inr (8, [.ref lt, .ref tb, .ref fl, .ref wt, .int 0, .null])), (bf, .inl (cI, 40, .inl (fun _ => 0)))]) [0, 1, 2] (by decide) rfl
  have hFc := va_free (wc := [(x, .inr (9, [.ref st, .ref kp, .int 0, .ref bf, .int 0, .int (-1), .int (-1), .int 0, .ref o1, .ref o2, .ref o3, .ref o4, .ref o5, .ref o6])), (st, .inr (8, [.ref lt, .ref tb, .ref fl, .ref wt, .int 0, .null])), (bf, .inl (cI, 40, .inl (fun _ => 0)))]) hD hS hA [0, 1, 2] rfl
  refine va_calli (va_runV (As := []) (rest := [.int 0, .ref ou]) ⟨hx, hb, hml, hown, hts⟩ (k_X10_parse l htr D cI cJ cZ x st kp bf o1 o2 o3 o4 o5 o6 lt tb fl wt s.heap.size) (cwV 0 hts gk_L_parse_X10_parse rfl rfl rfl (by decide +kernel) ⟨Nat.le_of_ble_eq_true rfl, Nat.le_of_ble_eq_true rfl⟩) ⟨xPc_blind, va_recv hK hP (ci := 9) (q0 := 0) rfl rfl, xPc_pre hPc hK hDc hE hS hFc hV⟩ rfl rfl hl.1 rfl (lv_room (Nat.le_of_ble_eq_true rfl)) dL_parse_3 ⟨Nat.le_of_ble_eq_true rfl, Nat.le_of_ble_eq_true rfl⟩) hS (fun q _ h => hFc q h) hFc (fun r u t H_1 locs ht hvm hw hB hz1 hk1 hS => ?_)
  rcases hw with rfl
  obtain ⟨hP1, hD1⟩ := hB
  rw [ht] at hP1
  obtain ⟨hP, hD⟩ := va_join (wr := [(ou, .inl (cJ, 1, .inr (.inl (fun _ => 0))))]) (w1 := []) hP hD [0, 1, 2] [3] rfl rfl (by decide) (by decide) hk1 hFc hP1 hD1
  have hP : va_P D vwCl [(ou, .inl (cJ, 1, .inr (.inl (fun _ => 0))))] H_1 := hP
  have hD : va_D A [(ou, .inl (cJ, 1, .inr (.inl (fun _ => 0))))] := hD
  refine W.widen (k := 7) (n := 30) (Nat.le_of_ble_eq_true rfl) (Nat.le_of_ble_eq_true rfl) ?_
  refine lv_i2l (v := 0) hx hb dL_parse_6 (by decide) ?_
  refine va_last hx hb hK hP hD hS 0 1 rfl rfl (i := 0) (x := 0) (vp_in_iff.mpr ⟨by decide, by decide⟩) dL_parse_7 (fun H_2 locs hP hD hS => ?_)
  have hP : va_P D vwCl [(ou, .inl (cJ, 1, .inr (.inl (vp_updL (fun _ => 0) ((0 : Int32).toNatClampNeg) 0))))] H_2 := hP
  have hD : va_D A [(ou, .inl (cJ, 1, .inr (.inl (vp_updL (fun _ => 0) ((0 : Int32).toNatClampNeg) 0))))] := hD
  rw [xUpdL] at hP hD
  have hP : va_P D vwCl [(ou, .inl (cJ, 1, .inr (.inl (fun _ => 0))))] H_2 := hP
  have hD : va_D A [(ou, .inl (cJ, 1, .inr (.inl (fun _ => 0))))] := hD
  refine lv_goto (tgt := 14) hx hb dL_parse_8 (by decide) ?_
  refine lv_iconst (v := 0) hx hb dL_parse_14 (by decide) ?_
  have hP9 := hP.sub (ws' := [(ou, .inl (cJ, 1, .inr (.inl (fun _ => 0))))]) [0] rfl
  have hD9 := hD.sub (ws' := [(ou, .inl (cJ, 1, .inr (.inl (fun _ => 0))))]) [0] (by decide) rfl
  refine W.widen (k := 7) (n := 30) (Nat.le_of_ble_eq_true rfl) (Nat.le_of_ble_eq_true rfl) ?_
  exact vx_ret (W.iret (v := 0) hx hb hr (fun t ht hW => ⟨⟨0, (), rfl, rfl, by rw [ht]; exact hP9, hD9⟩, hS.F ht⟩) hS.2.2 dL_parse_15)
def wk_L_formulaVariables : List Cond := .codeWith yL_formulaVariables cL_formulaVariables 3 (some .int) [(0, 8, 11, 15)] :: (([.classLink RL 15 ise, .methodLink RL 29 yX10_formulaVariables, .instanceMethod yX10_formulaVariables, .selects RX10 yX10_formulaVariables yX10_formulaVariables, .initialized RX10, .code yX10_formulaVariables cX10_formulaVariables 1 (some .int), .methodLink RX10 125 yX10_currentFormula, .instanceMethod yX10_currentFormula, .selects RX10 yX10_currentFormula yX10_currentFormula, .code yX10_currentFormula cX10_currentFormula 2 (some (.object "DocumentSpanner$Formula")), .fieldLink RX10 12 "DocumentSpanner" "state" "LDocumentSpanner$State;", .fieldLink RX10 121 "DocumentSpanner$State" "formula" "LDocumentSpanner$Formula;", .classLink RX10 80 ise, .initialized ise] : List Cond) ++ wsX100 ++ wsX80 ++ (vx_atS RX10 84 ise ["java/lang/RuntimeException", "java/lang/Exception"]).filter goodWord)
set_option maxRecDepth 20000 in
theorem ggk_L_formulaVariables_X10_formulaVariables : GoodIn wk_L_formulaVariables wk_X10_formulaVariables := goodIn_ca (goodIn_ca (goodIn_ca (goodIn_r _ [6, 7, 8, 9, 5, 10, 11, 12, 13, 14] (by decide +kernel) (by decide +kernel)) (goodIn_sub (fun _ h => List.mem_cons_of_mem _ (List.mem_append_left _ (List.mem_append_left _ (List.mem_append_right _ h)))) (by decide +kernel))) (goodIn_sub (fun _ h => List.mem_cons_of_mem _ (List.mem_append_left _ (List.mem_append_right _ h))) (by decide +kernel))) (goodIn_sub (fun _ h => List.mem_cons_of_mem _ (List.mem_append_right _ h)) (by decide +kernel))
set_option maxRecDepth 20000 in
theorem gk_L_formulaVariables_X10_formulaVariables : GoodIn wk_L_formulaVariables (wsV RL 29 RX10 yX10_formulaVariables wk_X10_formulaVariables) := goodIn_app (goodIn_r _ [2, 3, 4, 5] (by decide +kernel) (by decide +kernel)) ggk_L_formulaVariables_X10_formulaVariables
set_option maxHeartbeats 4000000 in
set_option maxRecDepth 100000 in
theorem k_L_formulaVariables (l : Launch) (htr : l.stackTraces = false) (D : va_G) (cI cJ cZ : ClassId) (x : Nat) (st : Nat) (kp : Nat) (bf : Nat) (o1 : Nat) (o2 : Nat) (o3 : Nat) (o4 : Nat) (o5 : Nat) (o6 : Nat) (lt : Nat) (tb : Nat) (fl : Nat) (wt : Nat) (ou : Nat) (sz : Nat) : vx_Met l yL_formulaVariables wk_L_formulaVariables ({ frames := 8, cells := 1, slots := 6, locals := 123 }) (xPc D cI cJ cZ [.ref x, .ref ou] [(x, .inr (9, [.ref st, .ref kp, .int 0, .ref bf, .int 0, .int (-1), .int (-1), .int 0, .ref o1, .ref o2, .ref o3, .ref o4, .ref o5, .ref o6])), (st, .inr (8, [.ref lt, .ref tb, .ref fl, .ref wt, .int 0, .null])), (ou, .inl (cJ, 1, .inr (.inl (fun _ => 0))))] sz) (va_Qi (fun (r : Int32) (u : Unit) => (r = 1)) (fun (u : Unit) (t : State) => va_P D vwCl ([] : va_W) t.heap ∧ va_D (va_A [(x, .inr (9, [.ref st, .ref kp, .int 0, .ref bf, .int 0, .int (-1), .int (-1), .int 0, .ref o1, .ref o2, .ref o3, .ref o4, .ref o5, .ref o6])), (st, .inr (8, [.ref lt, .ref tb, .ref fl, .ref wt, .int 0, .null])), (ou, .inl (cJ, 1, .inr (.inl (fun _ => 0))))] sz) ([] : va_W)) (va_A [(x, .inr (9, [.ref st, .ref kp, .int 0, .ref bf, .int 0, .int (-1), .int (-1), .int 0, .ref o1, .ref o2, .ref o3, .ref o4, .ref o5, .ref o6])), (st, .inr (8, [.ref lt, .ref tb, .ref fl, .ref wt, .int 0, .null])), (ou, .inl (cJ, 1, .inr (.inl (fun _ => 0))))] sz)) (vx_X (fun _ : Unit => True) (fun (E : String) (_ : Unit) (_ : State) => False) (va_A [(x, .inr (9, [.ref st, .ref kp, .int 0, .ref bf, .int 0, .int (-1), .int (-1), .int 0, .ref o1, .ref o2, .ref o3, .ref o4, .ref o5, .ref o6])), (st, .inr (8, [.ref lt, .ref tb, .ref fl, .ref wt, .int 0, .null])), (ou, .inl (cJ, 1, .inr (.inl (fun _ => 0))))] sz)) 1 6 (va_A [(x, .inr (9, [.ref st, .ref kp, .int 0, .ref bf, .int 0, .int (-1), .int (-1), .int 0, .ref o1, .ref o2, .ref o3, .ref o4, .ref o5, .ref o6])), (st, .inr (8, [.ref lt, .ref tb, .ref fl, .ref wt, .int 0, .null])), (ou, .inl (cJ, 1, .inr (.inl (fun _ => 0))))] sz) := by
  refine vx_ofWH (cc := cL_formulaVariables) (maxL := 3) (ret := (some .int)) (by decide) rfl ?_
  intro p e s m args below meth c s₁ B hml hv
  obtain ⟨rfl, hsz, hP, hK, hD0, hE, hV⟩ := hv
  have hx := B.exec
  have hb := B.bytes
  have hr := B.returns
  have hts := atoms_spec (ws := wk_L_formulaVariables) B.pre
  have hown : s.vm.findClass RL = some m.cls := findClass_of_methodNamed B.named
  have hlocks := B.notSynchronized
  have htab : c.exceptionTable.toList = tableOf [(0, 8, 11, 15)] := vx_table (x := yL_formulaVariables) B (hts _ List.mem_cons_self)
  have w_1 := hts (.classLink RL 15 ise) (List.mem_of_getElem? (i := 1) rfl)
  subst hsz
  have hD := hD0.self (sz := s.heap.size)
  generalize hAe : va_A [(x, .inr (9, [.ref st, .ref kp, .int 0, .ref bf, .int 0, .int (-1), .int (-1), .int 0, .ref o1, .ref o2, .ref o3, .ref o4, .ref o5, .ref o6])), (st, .inr (8, [.ref lt, .ref tb, .ref fl, .ref wt, .int 0, .null])), (ou, .inl (cJ, 1, .inr (.inl (fun _ => 0))))] s.heap.size = A at hD hE ⊢
  have hA : ∀ q : Nat, s.heap.size ≤ q → A q := fun q h => by rw [← hAe]; exact Or.inr h
  have hS : va_S A s.heap s.heap [] := va_S.rf
  have hP : va_P D vwCl [(x, .inr (9, [.ref st, .ref kp, .int 0, .ref bf, .int 0, .int (-1), .int (-1), .int 0, .ref o1, .ref o2, .ref o3, .ref o4, .ref o5, .ref o6])), (st, .inr (8, [.ref lt, .ref tb, .ref fl, .ref wt, .int 0, .null])), (ou, .inl (cJ, 1, .inr (.inl (fun _ => 0))))] s.heap := hP
  have hl := lv_entry ([.ref x, .ref ou]) (n := 3) (Nat.le_of_ble_eq_true rfl)
  rw [lg_entry_eq]
  generalize (lg_sl ([.ref x, .ref ou]) ++ List.replicate (3 - (lg_sl ([.ref x, .ref ou])).length) Slot.unset).toArray = ls at hl ⊢
  have hl : lv_has ls 3 [(0, .ref x), (1, .ref ou)] := hl
  refine lv_aload_n hx hb dL_formulaVariables_0 rfl (lv_at hl 1 rfl) ?_
  refine lv_iconst (v := 0) hx hb dL_formulaVariables_1 (by decide) ?_
  refine lv_aload_n hx hb dL_formulaVariables_2 rfl (lv_at hl 0 rfl) ?_
  have hPc := hP.sub (ws' := [(x, .inr (9, [.ref st, .ref kp, .int 0, .ref bf, .int 0, .int (-1), .int (-1), .int 0, .ref o1, .ref o2, .ref o3, .ref o4, .ref o5, .ref o6])), (st, .inr (8, [.ref lt, .ref tb, .ref fl, .ref wt, .int 0, .null]))]) [0, 1] rfl
  have hDc := hD.sub (ws' := [(x, .inr (9, [.ref st, .ref kp, .int 0, .ref bf, .int 0, .int (-1), .int (-1), .int 0, .ref o1, .ref o2, .ref o3, .ref o4, .ref o5, .ref o6])), (st, .inr (8, [.ref lt, .ref tb, .ref fl, .ref wt, .int 0, .null]))]) [0, 1] (by decide) rfl
  have hFc := va_free (wc := [(x, .inr (9, [.ref st, .ref kp, .int 0, .ref bf, .int 0, .int (-1), .int (-1), .int 0, .ref o1, .ref o2, .ref o3, .ref o4, .ref o5, .ref o6])), (st, .inr (8, [.ref lt, .ref tb, .ref fl, .ref wt, .int 0, .null]))]) hD hS hA [0, 1] rfl
  refine vx_calli (vx_runV (As := []) (rest := [.int 0, .ref ou]) ⟨hx, hb, hml, hown, hts⟩ (k_X10_formulaVariables l htr D cI cJ cZ x st kp bf o1 o2 o3 o4 o5 o6 lt tb fl wt s.heap.size) (cwV 0 hts gk_L_formulaVariables_X10_formulaVariables rfl rfl rfl (by decide +kernel) ⟨Nat.le_of_ble_eq_true rfl, Nat.le_of_ble_eq_true rfl⟩) ⟨xPc_blind, va_recv hK hP (ci := 9) (q0 := 0) rfl rfl, xPc_pre hPc hK hDc hE hS hFc hV⟩ rfl rfl hl.1 rfl (lv_room (Nat.le_of_ble_eq_true rfl)) dL_formulaVariables_3 ⟨Nat.le_of_ble_eq_true rfl, Nat.le_of_ble_eq_true rfl⟩) hS (fun q _ h => hFc q h) hFc (fun q _ h => hFc q h) (fun E ce q9 u t H_1 locs ht hvm hpx hBX hz1 hk1 hS hq9 hcv hcl => ?_) (fun r u t H_1 locs ht hvm hw hB hz1 hk1 hS => ?_)
  · rcases hBX with rfl
    refine vx_catch hown (tableOf []) ⟨0, 8, 11, 15⟩ (tableOf []) (by rw [htab]; rfl) (xpass0) (by decide) (by decide) w_1 (va_Nw.use rfl hV.2.2.2.2.2.1.2.1) hq9 hcv hcl ?_
    have hP : va_P D vwCl [] H_1 := fun k q h => by simp at h
    have hD : va_D A [] := ⟨fun i j p q h => by simp at h, fun k q h => by simp at h⟩
    refine W.widen (k := 1) (n := 6) (Nat.le_of_ble_eq_true rfl) (Nat.le_of_ble_eq_true rfl) ?_
    refine lv_astore_n (lv' := [(2, .ref q9), (0, .ref x), (1, .ref ou)]) hx hb dL_formulaVariables_11 rfl hl (by decide) rfl (fun ls hl => ?_)
    refine lv_iconst (v := 1) hx hb dL_formulaVariables_12 (by decide) ?_
    have hP9 := hP.sub (ws' := []) [] rfl
    have hD9 := hD.sub (ws' := []) [] (by decide) rfl
    refine W.widen (k := 1) (n := 6) (Nat.le_of_ble_eq_true rfl) (Nat.le_of_ble_eq_true rfl) ?_
    exact vx_ret (W.iret (v := 1) hx hb hr (fun t ht hW => ⟨⟨1, (), rfl, rfl, by rw [ht]; exact hP9, hD9⟩, hS.F ht⟩) hS.2.2 dL_formulaVariables_13)
  · exact hw.elim
def wk_L_formulaKind : List Cond := .codeWith yL_formulaKind cL_formulaKind 3 (some .int) [(0, 8, 11, 15)] :: (([.classLink RL 15 ise, .methodLink RL 32 yX10_formulaKind, .instanceMethod yX10_formulaKind, .selects RX10 yX10_formulaKind yX10_formulaKind, .initialized RX10, .code yX10_formulaKind cX10_formulaKind 1 (some .int), .methodLink RX10 125 yX10_currentFormula, .instanceMethod yX10_currentFormula, .selects RX10 yX10_currentFormula yX10_currentFormula, .code yX10_currentFormula cX10_currentFormula 2 (some (.object "DocumentSpanner$Formula")), .fieldLink RX10 12 "DocumentSpanner" "state" "LDocumentSpanner$State;", .fieldLink RX10 121 "DocumentSpanner$State" "formula" "LDocumentSpanner$Formula;", .classLink RX10 80 ise, .initialized ise] : List Cond) ++ wsX100 ++ wsX80 ++ (vx_atS RX10 84 ise ["java/lang/RuntimeException", "java/lang/Exception"]).filter goodWord)
set_option maxRecDepth 20000 in
theorem ggk_L_formulaKind_X10_formulaKind : GoodIn wk_L_formulaKind wk_X10_formulaKind := goodIn_ca (goodIn_ca (goodIn_ca (goodIn_r _ [6, 7, 8, 9, 5, 10, 11, 12, 13, 14] (by decide +kernel) (by decide +kernel)) (goodIn_sub (fun _ h => List.mem_cons_of_mem _ (List.mem_append_left _ (List.mem_append_left _ (List.mem_append_right _ h)))) (by decide +kernel))) (goodIn_sub (fun _ h => List.mem_cons_of_mem _ (List.mem_append_left _ (List.mem_append_right _ h))) (by decide +kernel))) (goodIn_sub (fun _ h => List.mem_cons_of_mem _ (List.mem_append_right _ h)) (by decide +kernel))
set_option maxRecDepth 20000 in
theorem gk_L_formulaKind_X10_formulaKind : GoodIn wk_L_formulaKind (wsV RL 32 RX10 yX10_formulaKind wk_X10_formulaKind) := goodIn_app (goodIn_r _ [2, 3, 4, 5] (by decide +kernel) (by decide +kernel)) ggk_L_formulaKind_X10_formulaKind
set_option maxHeartbeats 4000000 in
set_option maxRecDepth 100000 in
theorem k_L_formulaKind (l : Launch) (htr : l.stackTraces = false) (D : va_G) (cI cJ cZ : ClassId) (x : Nat) (st : Nat) (kp : Nat) (bf : Nat) (o1 : Nat) (o2 : Nat) (o3 : Nat) (o4 : Nat) (o5 : Nat) (o6 : Nat) (lt : Nat) (tb : Nat) (fl : Nat) (wt : Nat) (ou : Nat) (sz : Nat) : vx_Met l yL_formulaKind wk_L_formulaKind ({ frames := 8, cells := 1, slots := 6, locals := 123 }) (xPc D cI cJ cZ [.ref x, .ref ou] [(x, .inr (9, [.ref st, .ref kp, .int 0, .ref bf, .int 0, .int (-1), .int (-1), .int 0, .ref o1, .ref o2, .ref o3, .ref o4, .ref o5, .ref o6])), (st, .inr (8, [.ref lt, .ref tb, .ref fl, .ref wt, .int 0, .null])), (ou, .inl (cJ, 1, .inr (.inl (fun _ => 0))))] sz) (va_Qi (fun (r : Int32) (u : Unit) => (r = 1)) (fun (u : Unit) (t : State) => va_P D vwCl ([] : va_W) t.heap ∧ va_D (va_A [(x, .inr (9, [.ref st, .ref kp, .int 0, .ref bf, .int 0, .int (-1), .int (-1), .int 0, .ref o1, .ref o2, .ref o3, .ref o4, .ref o5, .ref o6])), (st, .inr (8, [.ref lt, .ref tb, .ref fl, .ref wt, .int 0, .null])), (ou, .inl (cJ, 1, .inr (.inl (fun _ => 0))))] sz) ([] : va_W)) (va_A [(x, .inr (9, [.ref st, .ref kp, .int 0, .ref bf, .int 0, .int (-1), .int (-1), .int 0, .ref o1, .ref o2, .ref o3, .ref o4, .ref o5, .ref o6])), (st, .inr (8, [.ref lt, .ref tb, .ref fl, .ref wt, .int 0, .null])), (ou, .inl (cJ, 1, .inr (.inl (fun _ => 0))))] sz)) (vx_X (fun _ : Unit => True) (fun (E : String) (_ : Unit) (_ : State) => False) (va_A [(x, .inr (9, [.ref st, .ref kp, .int 0, .ref bf, .int 0, .int (-1), .int (-1), .int 0, .ref o1, .ref o2, .ref o3, .ref o4, .ref o5, .ref o6])), (st, .inr (8, [.ref lt, .ref tb, .ref fl, .ref wt, .int 0, .null])), (ou, .inl (cJ, 1, .inr (.inl (fun _ => 0))))] sz)) 1 6 (va_A [(x, .inr (9, [.ref st, .ref kp, .int 0, .ref bf, .int 0, .int (-1), .int (-1), .int 0, .ref o1, .ref o2, .ref o3, .ref o4, .ref o5, .ref o6])), (st, .inr (8, [.ref lt, .ref tb, .ref fl, .ref wt, .int 0, .null])), (ou, .inl (cJ, 1, .inr (.inl (fun _ => 0))))] sz) := by
  refine vx_ofWH (cc := cL_formulaKind) (maxL := 3) (ret := (some .int)) (by decide) rfl ?_
  intro p e s m args below meth c s₁ B hml hv
  obtain ⟨rfl, hsz, hP, hK, hD0, hE, hV⟩ := hv
  have hx := B.exec
  have hb := B.bytes
  have hr := B.returns
  have hts := atoms_spec (ws := wk_L_formulaKind) B.pre
  have hown : s.vm.findClass RL = some m.cls := findClass_of_methodNamed B.named
  have hlocks := B.notSynchronized
  have htab : c.exceptionTable.toList = tableOf [(0, 8, 11, 15)] := vx_table (x := yL_formulaKind) B (hts _ List.mem_cons_self)
  have w_1 := hts (.classLink RL 15 ise) (List.mem_of_getElem? (i := 1) rfl)
  subst hsz
  have hD := hD0.self (sz := s.heap.size)
  generalize hAe : va_A [(x, .inr (9, [.ref st, .ref kp, .int 0, .ref bf, .int 0, .int (-1), .int (-1), .int 0, .ref o1, .ref o2, .ref o3, .ref o4, .ref o5, .ref o6])), (st, .inr (8, [.ref lt, .ref tb, .ref fl, .ref wt, .int 0, .null])), (ou, .inl (cJ, 1, .inr (.inl (fun _ => 0))))] s.heap.size = A at hD hE ⊢
  have hA : ∀ q : Nat, s.heap.size ≤ q → A q := fun q h => by rw [← hAe]; exact Or.inr h
  have hS : va_S A s.heap s.heap [] := va_S.rf
  have hP : va_P D vwCl [(x, .inr (9, [.ref st, .ref kp, .int 0, .ref bf, .int 0, .int (-1), .int (-1), .int 0, .ref o1, .ref o2, .ref o3, .ref o4, .ref o5, .ref o6])), (st, .inr (8, [.ref lt, .ref tb, .ref fl, .ref wt, .int 0, .null])), (ou, .inl (cJ, 1, .inr (.inl (fun _ => 0))))] s.heap := hP
  have hl := lv_entry ([.ref x, .ref ou]) (n := 3) (Nat.le_of_ble_eq_true rfl)
  rw [lg_entry_eq]
  generalize (lg_sl ([.ref x, .ref ou]) ++ List.replicate (3 - (lg_sl ([.ref x, .ref ou])).length) Slot.unset).toArray = ls at hl ⊢
  have hl : lv_has ls 3 [(0, .ref x), (1, .ref ou)] := hl
  refine lv_aload_n hx hb dL_formulaKind_0 rfl (lv_at hl 1 rfl) ?_
  refine lv_iconst (v := 0) hx hb dL_formulaKind_1 (by decide) ?_
  refine lv_aload_n hx hb dL_formulaKind_2 rfl (lv_at hl 0 rfl) ?_
  have hPc := hP.sub (ws' := [(x, .inr (9, [.ref st, .ref kp, .int 0, .ref bf, .int 0, .int (-1), .int (-1), .int 0, .ref o1, .ref o2, .ref o3, .ref o4, .ref o5, .ref o6])), (st, .inr (8, [.ref lt, .ref tb, .ref fl, .ref wt, .int 0, .null]))]) [0, 1] rfl
  have hDc := hD.sub (ws' := [(x, .inr (9, [.ref st, .ref kp, .int 0, .ref bf, .int 0, .int (-1), .int (-1), .int 0, .ref o1, .ref o2, .ref o3, .ref o4, .ref o5, .ref o6])), (st, .inr (8, [.ref lt, .ref tb, .ref fl, .ref wt, .int 0, .null]))]) [0, 1] (by decide) rfl
  have hFc := va_free (wc := [(x, .inr (9, [.ref st, .ref kp, .int 0, .ref bf, .int 0, .int (-1), .int (-1), .int 0, .ref o1, .ref o2, .ref o3, .ref o4, .ref o5, .ref o6])), (st, .inr (8, [.ref lt, .ref tb, .ref fl, .ref wt, .int 0, .null]))]) hD hS hA [0, 1] rfl
  refine vx_calli (vx_runV (As := []) (rest := [.int 0, .ref ou]) ⟨hx, hb, hml, hown, hts⟩ (k_X10_formulaKind l htr D cI cJ cZ x st kp bf o1 o2 o3 o4 o5 o6 lt tb fl wt s.heap.size) (cwV 0 hts gk_L_formulaKind_X10_formulaKind rfl rfl rfl (by decide +kernel) ⟨Nat.le_of_ble_eq_true rfl, Nat.le_of_ble_eq_true rfl⟩) ⟨xPc_blind, va_recv hK hP (ci := 9) (q0 := 0) rfl rfl, xPc_pre hPc hK hDc hE hS hFc hV⟩ rfl rfl hl.1 rfl (lv_room (Nat.le_of_ble_eq_true rfl)) dL_formulaKind_3 ⟨Nat.le_of_ble_eq_true rfl, Nat.le_of_ble_eq_true rfl⟩) hS (fun q _ h => hFc q h) hFc (fun q _ h => hFc q h) (fun E ce q9 u t H_1 locs ht hvm hpx hBX hz1 hk1 hS hq9 hcv hcl => ?_) (fun r u t H_1 locs ht hvm hw hB hz1 hk1 hS => ?_)
  · rcases hBX with rfl
    refine vx_catch hown (tableOf []) ⟨0, 8, 11, 15⟩ (tableOf []) (by rw [htab]; rfl) (xpass0) (by decide) (by decide) w_1 (va_Nw.use rfl hV.2.2.2.2.2.1.2.1) hq9 hcv hcl ?_
    have hP : va_P D vwCl [] H_1 := fun k q h => by simp at h
    have hD : va_D A [] := ⟨fun i j p q h => by simp at h, fun k q h => by simp at h⟩
    refine W.widen (k := 1) (n := 6) (Nat.le_of_ble_eq_true rfl) (Nat.le_of_ble_eq_true rfl) ?_
    refine lv_astore_n (lv' := [(2, .ref q9), (0, .ref x), (1, .ref ou)]) hx hb dL_formulaKind_11 rfl hl (by decide) rfl (fun ls hl => ?_)
    refine lv_iconst (v := 1) hx hb dL_formulaKind_12 (by decide) ?_
    have hP9 := hP.sub (ws' := []) [] rfl
    have hD9 := hD.sub (ws' := []) [] (by decide) rfl
    refine W.widen (k := 1) (n := 6) (Nat.le_of_ble_eq_true rfl) (Nat.le_of_ble_eq_true rfl) ?_
    exact vx_ret (W.iret (v := 1) hx hb hr (fun t ht hW => ⟨⟨1, (), rfl, rfl, by rw [ht]; exact hP9, hD9⟩, hS.F ht⟩) hS.2.2 dL_formulaKind_13)
  · exact hw.elim
def wk_L_extract : List Cond := .codeWith yL_extract cL_extract 4 (some .int) [(0, 9, 12, 20), (0, 9, 15, 15)] :: (([.classLink RL 20 iob, .classLink RL 15 ise, .methodLink RL 35 yX10_extract, .instanceMethod yX10_extract, .selects RX10 yX10_extract yX10_extract, .initialized RX10, .code yX10_extract cX10_extract 3 (some .int), .methodLink RX10 138 yX10_checkSlot, .static yX10_checkSlot, .code yX10_checkSlot cX10_checkSlot 1 none, .classLink RX10 91 iob, .initialized iob, .methodLink RX10 125 yX10_currentFormula, .instanceMethod yX10_currentFormula, .selects RX10 yX10_currentFormula yX10_currentFormula, .code yX10_currentFormula cX10_currentFormula 2 (some (.object "DocumentSpanner$Formula")), .fieldLink RX10 12 "DocumentSpanner" "state" "LDocumentSpanner$State;", .fieldLink RX10 121 "DocumentSpanner$State" "formula" "LDocumentSpanner$Formula;", .classLink RX10 80 ise, .initialized ise] : List Cond) ++ wsX100 ++ wsX80 ++ (vx_atS RX10 84 ise ["java/lang/RuntimeException", "java/lang/Exception"]).filter goodWord ++ (vx_atS RX10 95 iob ["java/lang/RuntimeException", "java/lang/Exception"]).filter goodWord)
set_option maxRecDepth 20000 in
theorem ggk_L_extract_X10_extract : GoodIn wk_L_extract wk_X10_extract := goodIn_ca (goodIn_ca (goodIn_ca (goodIn_ca (goodIn_r _ [7, 8, 9, 6, 10, 11, 12, 13, 14, 15, 16, 17, 18, 19, 20] (by decide +kernel) (by decide +kernel)) (goodIn_sub (fun _ h => List.mem_cons_of_mem _ (List.mem_append_left _ (List.mem_append_left _ (List.mem_append_left _ (List.mem_append_right _ h))))) (by decide +kernel))) (goodIn_sub (fun _ h => List.mem_cons_of_mem _ (List.mem_append_left _ (List.mem_append_left _ (List.mem_append_right _ h)))) (by decide +kernel))) (goodIn_sub (fun _ h => List.mem_cons_of_mem _ (List.mem_append_left _ (List.mem_append_right _ h))) (by decide +kernel))) (goodIn_sub (fun _ h => List.mem_cons_of_mem _ (List.mem_append_right _ h)) (by decide +kernel))
set_option maxRecDepth 20000 in
theorem gk_L_extract_X10_extract : GoodIn wk_L_extract (wsV RL 35 RX10 yX10_extract wk_X10_extract) := goodIn_app (goodIn_r _ [3, 4, 5, 6] (by decide +kernel) (by decide +kernel)) ggk_L_extract_X10_extract
set_option maxHeartbeats 4000000 in
set_option maxRecDepth 100000 in
theorem k_L_extract (l : Launch) (htr : l.stackTraces = false) (D : va_G) (cI cJ cZ : ClassId) (x : Nat) (st : Nat) (kp : Nat) (bf : Nat) (o1 : Nat) (o2 : Nat) (o3 : Nat) (o4 : Nat) (o5 : Nat) (o6 : Nat) (lt : Nat) (tb : Nat) (fl : Nat) (wt : Nat) (ou : Nat) (a0 : Int32) (sz : Nat) : vx_Met l yL_extract wk_L_extract ({ frames := 8, cells := 2, slots := 12, locals := 125 }) (xPc D cI cJ cZ [.ref x, .int a0, .ref ou] [(x, .inr (9, [.ref st, .ref kp, .int 0, .ref bf, .int 0, .int (-1), .int (-1), .int 0, .ref o1, .ref o2, .ref o3, .ref o4, .ref o5, .ref o6])), (st, .inr (8, [.ref lt, .ref tb, .ref fl, .ref wt, .int 0, .null])), (ou, .inl (cJ, 1, .inr (.inl (fun _ => 0))))] sz) (va_Qi (fun (r : Int32) (u : Unit) => (r = 1 ∧ a0.toInt < 0) ∨ (r = 1 ∧ 0 ≤ a0.toInt ∧ 6 ≤ a0.toInt) ∨ (r = 2 ∧ 0 ≤ a0.toInt ∧ a0.toInt < 6)) (fun (u : Unit) (t : State) => va_P D vwCl ([] : va_W) t.heap ∧ va_D (va_A [(x, .inr (9, [.ref st, .ref kp, .int 0, .ref bf, .int 0, .int (-1), .int (-1), .int 0, .ref o1, .ref o2, .ref o3, .ref o4, .ref o5, .ref o6])), (st, .inr (8, [.ref lt, .ref tb, .ref fl, .ref wt, .int 0, .null])), (ou, .inl (cJ, 1, .inr (.inl (fun _ => 0))))] sz) ([] : va_W)) (va_A [(x, .inr (9, [.ref st, .ref kp, .int 0, .ref bf, .int 0, .int (-1), .int (-1), .int 0, .ref o1, .ref o2, .ref o3, .ref o4, .ref o5, .ref o6])), (st, .inr (8, [.ref lt, .ref tb, .ref fl, .ref wt, .int 0, .null])), (ou, .inl (cJ, 1, .inr (.inl (fun _ => 0))))] sz)) (vx_X (fun _ : Unit => True) (fun (E : String) (_ : Unit) (_ : State) => False) (va_A [(x, .inr (9, [.ref st, .ref kp, .int 0, .ref bf, .int 0, .int (-1), .int (-1), .int 0, .ref o1, .ref o2, .ref o3, .ref o4, .ref o5, .ref o6])), (st, .inr (8, [.ref lt, .ref tb, .ref fl, .ref wt, .int 0, .null])), (ou, .inl (cJ, 1, .inr (.inl (fun _ => 0))))] sz)) 2 12 (va_A [(x, .inr (9, [.ref st, .ref kp, .int 0, .ref bf, .int 0, .int (-1), .int (-1), .int 0, .ref o1, .ref o2, .ref o3, .ref o4, .ref o5, .ref o6])), (st, .inr (8, [.ref lt, .ref tb, .ref fl, .ref wt, .int 0, .null])), (ou, .inl (cJ, 1, .inr (.inl (fun _ => 0))))] sz) := by
  refine vx_ofWH (cc := cL_extract) (maxL := 4) (ret := (some .int)) (by decide) rfl ?_
  intro p e s m args below meth c s₁ B hml hv
  obtain ⟨rfl, hsz, hP, hK, hD0, hE, hV⟩ := hv
  have hx := B.exec
  have hb := B.bytes
  have hr := B.returns
  have hts := atoms_spec (ws := wk_L_extract) B.pre
  have hown : s.vm.findClass RL = some m.cls := findClass_of_methodNamed B.named
  have hlocks := B.notSynchronized
  have htab : c.exceptionTable.toList = tableOf [(0, 9, 12, 20), (0, 9, 15, 15)] := vx_table (x := yL_extract) B (hts _ List.mem_cons_self)
  have w_1 := hts (.classLink RL 20 iob) (List.mem_of_getElem? (i := 1) rfl)
  have w_2 := hts (.classLink RL 15 ise) (List.mem_of_getElem? (i := 2) rfl)
  subst hsz
  have hD := hD0.self (sz := s.heap.size)
  generalize hAe : va_A [(x, .inr (9, [.ref st, .ref kp, .int 0, .ref bf, .int 0, .int (-1), .int (-1), .int 0, .ref o1, .ref o2, .ref o3, .ref o4, .ref o5, .ref o6])), (st, .inr (8, [.ref lt, .ref tb, .ref fl, .ref wt, .int 0, .null])), (ou, .inl (cJ, 1, .inr (.inl (fun _ => 0))))] s.heap.size = A at hD hE ⊢
  have hA : ∀ q : Nat, s.heap.size ≤ q → A q := fun q h => by rw [← hAe]; exact Or.inr h
  have hS : va_S A s.heap s.heap [] := va_S.rf
  have hP : va_P D vwCl [(x, .inr (9, [.ref st, .ref kp, .int 0, .ref bf, .int 0, .int (-1), .int (-1), .int 0, .ref o1, .ref o2, .ref o3, .ref o4, .ref o5, .ref o6])), (st, .inr (8, [.ref lt, .ref tb, .ref fl, .ref wt, .int 0, .null])), (ou, .inl (cJ, 1, .inr (.inl (fun _ => 0))))] s.heap := hP
  have hl := lv_entry ([.ref x, .int a0, .ref ou]) (n := 4) (Nat.le_of_ble_eq_true rfl)
  rw [lg_entry_eq]
  generalize (lg_sl ([.ref x, .int a0, .ref ou]) ++ List.replicate (4 - (lg_sl ([.ref x, .int a0, .ref ou])).length) Slot.unset).toArray = ls at hl ⊢
  have hl : lv_has ls 4 [(0, .ref x), (1, .int a0), (2, .ref ou)] := hl
  refine lv_aload_n hx hb dL_extract_0 rfl (lv_at hl 2 rfl) ?_
  refine lv_iconst (v := 0) hx hb dL_extract_1 (by decide) ?_
  refine lv_aload_n hx hb dL_extract_2 rfl (lv_at hl 0 rfl) ?_
  refine lv_iload_n hx hb dL_extract_3 rfl (lv_at hl 1 rfl) ?_
  have hPc := hP.sub (ws' := [(x, .inr (9, [.ref st, .ref kp, .int 0, .ref bf, .int 0, .int (-1), .int (-1), .int 0, .ref o1, .ref o2, .ref o3, .ref o4, .ref o5, .ref o6])), (st, .inr (8, [.ref lt, .ref tb, .ref fl, .ref wt, .int 0, .null]))]) [0, 1] rfl
  have hDc := hD.sub (ws' := [(x, .inr (9, [.ref st, .ref kp, .int 0, .ref bf, .int 0, .int (-1), .int (-1), .int 0, .ref o1, .ref o2, .ref o3, .ref o4, .ref o5, .ref o6])), (st, .inr (8, [.ref lt, .ref tb, .ref fl, .ref wt, .int 0, .null]))]) [0, 1] (by decide) rfl
  have hFc := va_free (wc := [(x, .inr (9, [.ref st, .ref kp, .int 0, .ref bf, .int 0, .int (-1), .int (-1), .int 0, .ref o1, .ref o2, .ref o3, .ref o4, .ref o5, .ref o6])), (st, .inr (8, [.ref lt, .ref tb, .ref fl, .ref wt, .int 0, .null]))]) hD hS hA [0, 1] rfl
  refine vx_calli (vx_runV (As := [.int a0]) (rest := [.int 0, .ref ou]) ⟨hx, hb, hml, hown, hts⟩ (k_X10_extract l htr D cI cJ cZ x st kp bf o1 o2 o3 o4 o5 o6 lt tb fl wt a0 s.heap.size) (cwV 1 hts gk_L_extract_X10_extract rfl rfl rfl (by decide +kernel) ⟨Nat.le_of_ble_eq_true rfl, Nat.le_of_ble_eq_true rfl⟩) ⟨xPc_blind, va_recv hK hP (ci := 9) (q0 := 0) rfl rfl, xPc_pre hPc hK hDc hE hS hFc hV⟩ rfl rfl hl.1 rfl (lv_room (Nat.le_of_ble_eq_true rfl)) dL_extract_4 ⟨Nat.le_of_ble_eq_true rfl, Nat.le_of_ble_eq_true rfl⟩) hS (fun q _ h => hFc q h) hFc (fun q _ h => hFc q h) (fun E ce q9 u t H_1 locs ht hvm hpx hBX hz1 hk1 hS hq9 hcv hcl => ?_) (fun r u t H_1 locs ht hvm hw hB hz1 hk1 hS => ?_)
  · rcases hBX with ⟨rfl, e_0⟩ | ⟨rfl, e_0, e_1⟩ | ⟨rfl, e_0, e_1⟩
    · have c_2 : a0.toInt < 0 := e_0
      refine vx_catch hown (tableOf []) ⟨0, 9, 12, 20⟩ (tableOf [(0, 9, 15, 15)]) (by rw [htab]; rfl) (xpass0) (by decide) (by decide) w_1 (va_Nw.use rfl hV.2.2.2.2.2.1.2.2) hq9 hcv hcl ?_
      have hP : va_P D vwCl [] H_1 := fun k q h => by simp at h
      have hD : va_D A [] := ⟨fun i j p q h => by simp at h, fun k q h => by simp at h⟩
      refine W.widen (k := 2) (n := 12) (Nat.le_of_ble_eq_true rfl) (Nat.le_of_ble_eq_true rfl) ?_
      refine lv_astore_n (lv' := [(3, .ref q9), (0, .ref x), (1, .int a0), (2, .ref ou)]) hx hb dL_extract_12 rfl hl (by decide) rfl (fun ls hl => ?_)
      refine lv_iconst (v := 1) hx hb dL_extract_13 (by decide) ?_
      have hP9 := hP.sub (ws' := []) [] rfl
      have hD9 := hD.sub (ws' := []) [] (by decide) rfl
      refine W.widen (k := 2) (n := 12) (Nat.le_of_ble_eq_true rfl) (Nat.le_of_ble_eq_true rfl) ?_
      exact vx_ret (W.iret (v := 1) hx hb hr (fun t ht hW => ⟨⟨1, (), rfl, Or.inl ⟨rfl, c_2⟩, by rw [ht]; exact hP9, hD9⟩, hS.F ht⟩) hS.2.2 dL_extract_14)
    · have c_3 : 0 ≤ a0.toInt := e_0
      have c_4 : 6 ≤ a0.toInt := e_1
      refine vx_catch hown (tableOf []) ⟨0, 9, 12, 20⟩ (tableOf [(0, 9, 15, 15)]) (by rw [htab]; rfl) (xpass0) (by decide) (by decide) w_1 (va_Nw.use rfl hV.2.2.2.2.2.1.2.2) hq9 hcv hcl ?_
      have hP : va_P D vwCl [] H_1 := fun k q h => by simp at h
      have hD : va_D A [] := ⟨fun i j p q h => by simp at h, fun k q h => by simp at h⟩
      refine W.widen (k := 2) (n := 12) (Nat.le_of_ble_eq_true rfl) (Nat.le_of_ble_eq_true rfl) ?_
      refine lv_astore_n (lv' := [(3, .ref q9), (0, .ref x), (1, .int a0), (2, .ref ou)]) hx hb dL_extract_12 rfl hl (by decide) rfl (fun ls hl => ?_)
      refine lv_iconst (v := 1) hx hb dL_extract_13 (by decide) ?_
      have hP9 := hP.sub (ws' := []) [] rfl
      have hD9 := hD.sub (ws' := []) [] (by decide) rfl
      refine W.widen (k := 2) (n := 12) (Nat.le_of_ble_eq_true rfl) (Nat.le_of_ble_eq_true rfl) ?_
      exact vx_ret (W.iret (v := 1) hx hb hr (fun t ht hW => ⟨⟨1, (), rfl, Or.inr (Or.inl ⟨rfl, c_3, c_4⟩), by rw [ht]; exact hP9, hD9⟩, hS.F ht⟩) hS.2.2 dL_extract_14)
    · have c_5 : 0 ≤ a0.toInt := e_0
      have c_6 : a0.toInt < 6 := e_1
      refine vx_catch hown (tableOf [(0, 9, 12, 20)]) ⟨0, 9, 15, 15⟩ (tableOf []) (by rw [htab]; rfl) (xpass1 (Or.inr ⟨by decide, iob, w_1, hV.2.2.2.2.2.2.1.1⟩)) (by decide) (by decide) w_2 (va_Nw.use rfl hV.2.2.2.2.2.1.2.1) hq9 hcv hcl ?_
      have hP : va_P D vwCl [] H_1 := fun k q h => by simp at h
      have hD : va_D A [] := ⟨fun i j p q h => by simp at h, fun k q h => by simp at h⟩
      refine W.widen (k := 2) (n := 12) (Nat.le_of_ble_eq_true rfl) (Nat.le_of_ble_eq_true rfl) ?_
      refine lv_astore_n (lv' := [(3, .ref q9), (0, .ref x), (1, .int a0), (2, .ref ou)]) hx hb dL_extract_15 rfl hl (by decide) rfl (fun ls hl => ?_)
      refine lv_iconst (v := 2) hx hb dL_extract_16 (by decide) ?_
      have hP9 := hP.sub (ws' := []) [] rfl
      have hD9 := hD.sub (ws' := []) [] (by decide) rfl
      refine W.widen (k := 2) (n := 12) (Nat.le_of_ble_eq_true rfl) (Nat.le_of_ble_eq_true rfl) ?_
      exact vx_ret (W.iret (v := 2) hx hb hr (fun t ht hW => ⟨⟨2, (), rfl, Or.inr (Or.inr ⟨rfl, c_5, c_6⟩), by rw [ht]; exact hP9, hD9⟩, hS.F ht⟩) hS.2.2 dL_extract_17)
  · exact hw.elim
def wk_L_size : List Cond := .codeWith yL_size cL_size 4 (some .int) [(0, 9, 12, 20), (0, 9, 15, 15)] :: (([.classLink RL 20 iob, .classLink RL 15 ise, .methodLink RL 38 yX10_size, .instanceMethod yX10_size, .selects RX10 yX10_size yX10_size, .initialized RX10, .code yX10_size cX10_size 2 (some .int), .methodLink RX10 153 yX10_tableIn, .instanceMethod yX10_tableIn, .selects RX10 yX10_tableIn yX10_tableIn, .code yX10_tableIn cX10_tableIn 2 (some (.object "DocumentSpanner$SortedInts")), .fieldLink RX10 12 "DocumentSpanner" "state" "LDocumentSpanner$State;", .fieldLink RX10 96 "DocumentSpanner$State" "filled" "[Z", .classLink RX10 80 ise, .initialized ise, .methodLink RX10 138 yX10_checkSlot, .static yX10_checkSlot, .code yX10_checkSlot cX10_checkSlot 1 none, .classLink RX10 91 iob, .initialized iob] : List Cond) ++ wsX100 ++ wsX80 ++ (vx_atS RX10 84 ise ["java/lang/RuntimeException", "java/lang/Exception"]).filter goodWord ++ (vx_atS RX10 95 iob ["java/lang/RuntimeException", "java/lang/Exception"]).filter goodWord)
set_option maxRecDepth 20000 in
theorem ggk_L_size_X10_size : GoodIn wk_L_size wk_X10_size := goodIn_ca (goodIn_ca (goodIn_ca (goodIn_ca (goodIn_r _ [7, 8, 9, 10, 6, 11, 12, 13, 14, 15, 16, 17, 18, 19, 20] (by decide +kernel) (by decide +kernel)) (goodIn_sub (fun _ h => List.mem_cons_of_mem _ (List.mem_append_left _ (List.mem_append_left _ (List.mem_append_left _ (List.mem_append_right _ h))))) (by decide +kernel))) (goodIn_sub (fun _ h => List.mem_cons_of_mem _ (List.mem_append_left _ (List.mem_append_left _ (List.mem_append_right _ h)))) (by decide +kernel))) (goodIn_sub (fun _ h => List.mem_cons_of_mem _ (List.mem_append_left _ (List.mem_append_right _ h))) (by decide +kernel))) (goodIn_sub (fun _ h => List.mem_cons_of_mem _ (List.mem_append_right _ h)) (by decide +kernel))
set_option maxRecDepth 20000 in
theorem gk_L_size_X10_size : GoodIn wk_L_size (wsV RL 38 RX10 yX10_size wk_X10_size) := goodIn_app (goodIn_r _ [3, 4, 5, 6] (by decide +kernel) (by decide +kernel)) ggk_L_size_X10_size
set_option maxHeartbeats 4000000 in
set_option maxRecDepth 100000 in
theorem k_L_size (l : Launch) (htr : l.stackTraces = false) (D : va_G) (cI cJ cZ : ClassId) (x : Nat) (st : Nat) (kp : Nat) (bf : Nat) (o1 : Nat) (o2 : Nat) (o3 : Nat) (o4 : Nat) (o5 : Nat) (o6 : Nat) (lt : Nat) (tb : Nat) (fl : Nat) (wt : Nat) (ou : Nat) (a0 : Int32) (sz : Nat) : vx_Met l yL_size wk_L_size ({ frames := 9, cells := 2, slots := 12, locals := 144 }) (xPc D cI cJ cZ [.ref x, .int a0, .ref ou] [(x, .inr (9, [.ref st, .ref kp, .int 0, .ref bf, .int 0, .int (-1), .int (-1), .int 0, .ref o1, .ref o2, .ref o3, .ref o4, .ref o5, .ref o6])), (st, .inr (8, [.ref lt, .ref tb, .ref fl, .ref wt, .int 0, .null])), (fl, .inl (cZ, 6, .inl (fun _ => 0))), (ou, .inl (cJ, 1, .inr (.inl (fun _ => 0))))] sz) (va_Qi (fun (r : Int32) (u : Unit) => (r = 1 ∧ a0.toInt < 0) ∨ (r = 1 ∧ 0 ≤ a0.toInt ∧ 6 ≤ a0.toInt) ∨ (r = 2 ∧ 0 ≤ a0.toInt ∧ a0.toInt < 6)) (fun (u : Unit) (t : State) => va_P D vwCl ([] : va_W) t.heap ∧ va_D (va_A [(x, .inr (9, [.ref st, .ref kp, .int 0, .ref bf, .int 0, .int (-1), .int (-1), .int 0, .ref o1, .ref o2, .ref o3, .ref o4, .ref o5, .ref o6])), (st, .inr (8, [.ref lt, .ref tb, .ref fl, .ref wt, .int 0, .null])), (fl, .inl (cZ, 6, .inl (fun _ => 0))), (ou, .inl (cJ, 1, .inr (.inl (fun _ => 0))))] sz) ([] : va_W)) (va_A [(x, .inr (9, [.ref st, .ref kp, .int 0, .ref bf, .int 0, .int (-1), .int (-1), .int 0, .ref o1, .ref o2, .ref o3, .ref o4, .ref o5, .ref o6])), (st, .inr (8, [.ref lt, .ref tb, .ref fl, .ref wt, .int 0, .null])), (fl, .inl (cZ, 6, .inl (fun _ => 0))), (ou, .inl (cJ, 1, .inr (.inl (fun _ => 0))))] sz)) (vx_X (fun _ : Unit => True) (fun (E : String) (_ : Unit) (_ : State) => False) (va_A [(x, .inr (9, [.ref st, .ref kp, .int 0, .ref bf, .int 0, .int (-1), .int (-1), .int 0, .ref o1, .ref o2, .ref o3, .ref o4, .ref o5, .ref o6])), (st, .inr (8, [.ref lt, .ref tb, .ref fl, .ref wt, .int 0, .null])), (fl, .inl (cZ, 6, .inl (fun _ => 0))), (ou, .inl (cJ, 1, .inr (.inl (fun _ => 0))))] sz)) 2 12 (va_A [(x, .inr (9, [.ref st, .ref kp, .int 0, .ref bf, .int 0, .int (-1), .int (-1), .int 0, .ref o1, .ref o2, .ref o3, .ref o4, .ref o5, .ref o6])), (st, .inr (8, [.ref lt, .ref tb, .ref fl, .ref wt, .int 0, .null])), (fl, .inl (cZ, 6, .inl (fun _ => 0))), (ou, .inl (cJ, 1, .inr (.inl (fun _ => 0))))] sz) := by
  refine vx_ofWH (cc := cL_size) (maxL := 4) (ret := (some .int)) (by decide) rfl ?_
  intro p e s m args below meth c s₁ B hml hv
  obtain ⟨rfl, hsz, hP, hK, hD0, hE, hV⟩ := hv
  have hx := B.exec
  have hb := B.bytes
  have hr := B.returns
  have hts := atoms_spec (ws := wk_L_size) B.pre
  have hown : s.vm.findClass RL = some m.cls := findClass_of_methodNamed B.named
  have hlocks := B.notSynchronized
  have htab : c.exceptionTable.toList = tableOf [(0, 9, 12, 20), (0, 9, 15, 15)] := vx_table (x := yL_size) B (hts _ List.mem_cons_self)
  have w_1 := hts (.classLink RL 20 iob) (List.mem_of_getElem? (i := 1) rfl)
  have w_2 := hts (.classLink RL 15 ise) (List.mem_of_getElem? (i := 2) rfl)
  subst hsz
  have hD := hD0.self (sz := s.heap.size)
  generalize hAe : va_A [(x, .inr (9, [.ref st, .ref kp, .int 0, .ref bf, .int 0, .int (-1), .int (-1), .int 0, .ref o1, .ref o2, .ref o3, .ref o4, .ref o5, .ref o6])), (st, .inr (8, [.ref lt, .ref tb, .ref fl, .ref wt, .int 0, .null])), (fl, .inl (cZ, 6, .inl (fun _ => 0))), (ou, .inl (cJ, 1, .inr (.inl (fun _ => 0))))] s.heap.size = A at hD hE ⊢
  have hA : ∀ q : Nat, s.heap.size ≤ q → A q := fun q h => by rw [← hAe]; exact Or.inr h
  have hS : va_S A s.heap s.heap [] := va_S.rf
  have hP : va_P D vwCl [(x, .inr (9, [.ref st, .ref kp, .int 0, .ref bf, .int 0, .int (-1), .int (-1), .int 0, .ref o1, .ref o2, .ref o3, .ref o4, .ref o5, .ref o6])), (st, .inr (8, [.ref lt, .ref tb, .ref fl, .ref wt, .int 0, .null])), (fl, .inl (cZ, 6, .inl (fun _ => 0))), (ou, .inl (cJ, 1, .inr (.inl (fun _ => 0))))] s.heap := hP
  have hl := lv_entry ([.ref x, .int a0, .ref ou]) (n := 4) (Nat.le_of_ble_eq_true rfl)
  rw [lg_entry_eq]
  generalize (lg_sl ([.ref x, .int a0, .ref ou]) ++ List.replicate (4 - (lg_sl ([.ref x, .int a0, .ref ou])).length) Slot.unset).toArray = ls at hl ⊢
  have hl : lv_has ls 4 [(0, .ref x), (1, .int a0), (2, .ref ou)] := hl
  refine lv_aload_n hx hb dL_size_0 rfl (lv_at hl 2 rfl) ?_
  refine lv_iconst (v := 0) hx hb dL_size_1 (by decide) ?_
  refine lv_aload_n hx hb dL_size_2 rfl (lv_at hl 0 rfl) ?_
  refine lv_iload_n hx hb dL_size_3 rfl (lv_at hl 1 rfl) ?_
  have hPc := hP.sub (ws' := [(x, .inr (9, [.ref st, .ref kp, .int 0, .ref bf, .int 0, .int (-1), .int (-1), .int 0, .ref o1, .ref o2, .ref o3, .ref o4, .ref o5, .ref o6])), (st, .inr (8, [.ref lt, .ref tb, .ref fl, .ref wt, .int 0, .null])), (fl, .inl (cZ, 6, .inl (fun _ => 0)))]) [0, 1, 2] rfl
  have hDc := hD.sub (ws' := [(x, .inr (9, [.ref st, .ref kp, .int 0, .ref bf, .int 0, .int (-1), .int (-1), .int 0, .ref o1, .ref o2, .ref o3, .ref o4, .ref o5, .ref o6])), (st, .inr (8, [.ref lt, .ref tb, .ref fl, .ref wt, .int 0, .null])), (fl, .inl (cZ, 6, .inl (fun _ => 0)))]) [0, 1, 2] (by decide) rfl
  have hFc := va_free (wc := [(x, .inr (9, [.ref st, .ref kp, .int 0, .ref bf, .int 0, .int (-1), .int (-1), .int 0, .ref o1, .ref o2, .ref o3, .ref o4, .ref o5, .ref o6])), (st, .inr (8, [.ref lt, .ref tb, .ref fl, .ref wt, .int 0, .null])), (fl, .inl (cZ, 6, .inl (fun _ => 0)))]) hD hS hA [0, 1, 2] rfl
  refine vx_calli (vx_runV (As := [.int a0]) (rest := [.int 0, .ref ou]) ⟨hx, hb, hml, hown, hts⟩ (k_X10_size l htr D cI cJ cZ x st kp bf o1 o2 o3 o4 o5 o6 lt tb fl wt a0 s.heap.size) (cwV 1 hts gk_L_size_X10_size rfl rfl rfl (by decide +kernel) ⟨Nat.le_of_ble_eq_true rfl, Nat.le_of_ble_eq_true rfl⟩) ⟨xPc_blind, va_recv hK hP (ci := 9) (q0 := 0) rfl rfl, xPc_pre hPc hK hDc hE hS hFc hV⟩ rfl rfl hl.1 rfl (lv_room (Nat.le_of_ble_eq_true rfl)) dL_size_4 ⟨Nat.le_of_ble_eq_true rfl, Nat.le_of_ble_eq_true rfl⟩) hS (fun q _ h => hFc q h) hFc (fun q _ h => hFc q h) (fun E ce q9 u t H_1 locs ht hvm hpx hBX hz1 hk1 hS hq9 hcv hcl => ?_) (fun r u t H_1 locs ht hvm hw hB hz1 hk1 hS => ?_)
  · rcases hBX with ⟨rfl, e_0⟩ | ⟨rfl, e_0, e_1⟩ | ⟨rfl, e_0, e_1⟩
    · have c_2 : a0.toInt < 0 := e_0
      refine vx_catch hown (tableOf []) ⟨0, 9, 12, 20⟩ (tableOf [(0, 9, 15, 15)]) (by rw [htab]; rfl) (xpass0) (by decide) (by decide) w_1 (va_Nw.use rfl hV.2.2.2.2.2.1.2.2) hq9 hcv hcl ?_
      have hP : va_P D vwCl [] H_1 := fun k q h => by simp at h
      have hD : va_D A [] := ⟨fun i j p q h => by simp at h, fun k q h => by simp at h⟩
      refine W.widen (k := 2) (n := 12) (Nat.le_of_ble_eq_true rfl) (Nat.le_of_ble_eq_true rfl) ?_
      refine lv_astore_n (lv' := [(3, .ref q9), (0, .ref x), (1, .int a0), (2, .ref ou)]) hx hb dL_size_12 rfl hl (by decide) rfl (fun ls hl => ?_)
      refine lv_iconst (v := 1) hx hb dL_size_13 (by decide) ?_
      have hP9 := hP.sub (ws' := []) [] rfl
      have hD9 := hD.sub (ws' := []) [] (by decide) rfl
      refine W.widen (k := 2) (n := 12) (Nat.le_of_ble_eq_true rfl) (Nat.le_of_ble_eq_true rfl) ?_
      exact vx_ret (W.iret (v := 1) hx hb hr (fun t ht hW => ⟨⟨1, (), rfl, Or.inl ⟨rfl, c_2⟩, by rw [ht]; exact hP9, hD9⟩, hS.F ht⟩) hS.2.2 dL_size_14)
    · have c_3 : 0 ≤ a0.toInt := e_0
      have c_4 : 6 ≤ a0.toInt := e_1
      refine vx_catch hown (tableOf []) ⟨0, 9, 12, 20⟩ (tableOf [(0, 9, 15, 15)]) (by rw [htab]; rfl) (xpass0) (by decide) (by decide) w_1 (va_Nw.use rfl hV.2.2.2.2.2.1.2.2) hq9 hcv hcl ?_
      have hP : va_P D vwCl [] H_1 := fun k q h => by simp at h
      have hD : va_D A [] := ⟨fun i j p q h => by simp at h, fun k q h => by simp at h⟩
      refine W.widen (k := 2) (n := 12) (Nat.le_of_ble_eq_true rfl) (Nat.le_of_ble_eq_true rfl) ?_
      refine lv_astore_n (lv' := [(3, .ref q9), (0, .ref x), (1, .int a0), (2, .ref ou)]) hx hb dL_size_12 rfl hl (by decide) rfl (fun ls hl => ?_)
      refine lv_iconst (v := 1) hx hb dL_size_13 (by decide) ?_
      have hP9 := hP.sub (ws' := []) [] rfl
      have hD9 := hD.sub (ws' := []) [] (by decide) rfl
      refine W.widen (k := 2) (n := 12) (Nat.le_of_ble_eq_true rfl) (Nat.le_of_ble_eq_true rfl) ?_
      exact vx_ret (W.iret (v := 1) hx hb hr (fun t ht hW => ⟨⟨1, (), rfl, Or.inr (Or.inl ⟨rfl, c_3, c_4⟩), by rw [ht]; exact hP9, hD9⟩, hS.F ht⟩) hS.2.2 dL_size_14)
    · have c_5 : 0 ≤ a0.toInt := e_0
      have c_6 : a0.toInt < 6 := e_1
      refine vx_catch hown (tableOf [(0, 9, 12, 20)]) ⟨0, 9, 15, 15⟩ (tableOf []) (by rw [htab]; rfl) (xpass1 (Or.inr ⟨by decide, iob, w_1, hV.2.2.2.2.2.2.1.1⟩)) (by decide) (by decide) w_2 (va_Nw.use rfl hV.2.2.2.2.2.1.2.1) hq9 hcv hcl ?_
      have hP : va_P D vwCl [] H_1 := fun k q h => by simp at h
      have hD : va_D A [] := ⟨fun i j p q h => by simp at h, fun k q h => by simp at h⟩
      refine W.widen (k := 2) (n := 12) (Nat.le_of_ble_eq_true rfl) (Nat.le_of_ble_eq_true rfl) ?_
      refine lv_astore_n (lv' := [(3, .ref q9), (0, .ref x), (1, .int a0), (2, .ref ou)]) hx hb dL_size_15 rfl hl (by decide) rfl (fun ls hl => ?_)
      refine lv_iconst (v := 2) hx hb dL_size_16 (by decide) ?_
      have hP9 := hP.sub (ws' := []) [] rfl
      have hD9 := hD.sub (ws' := []) [] (by decide) rfl
      refine W.widen (k := 2) (n := 12) (Nat.le_of_ble_eq_true rfl) (Nat.le_of_ble_eq_true rfl) ?_
      exact vx_ret (W.iret (v := 2) hx hb hr (fun t ht hW => ⟨⟨2, (), rfl, Or.inr (Or.inr ⟨rfl, c_5, c_6⟩), by rw [ht]; exact hP9, hD9⟩, hS.F ht⟩) hS.2.2 dL_size_17)
  · exact hw.elim
def wk_L_start : List Cond := .codeWith yL_start cL_start 6 (some .int) [(0, 12, 15, 20), (0, 12, 19, 15)] :: (([.classLink RL 20 iob, .classLink RL 15 ise, .methodLink RL 41 yX10_start, .instanceMethod yX10_start, .selects RX10 yX10_start yX10_start, .initialized RX10, .code yX10_start cX10_start 4 (some .int), .methodLink RX10 160 yX10_spanAt, .instanceMethod yX10_spanAt, .selects RX10 yX10_spanAt yX10_spanAt, .code yX10_spanAt cX10_spanAt 5 (some .int), .methodLink RX10 153 yX10_tableIn, .instanceMethod yX10_tableIn, .selects RX10 yX10_tableIn yX10_tableIn, .code yX10_tableIn cX10_tableIn 2 (some (.object "DocumentSpanner$SortedInts")), .fieldLink RX10 12 "DocumentSpanner" "state" "LDocumentSpanner$State;", .fieldLink RX10 96 "DocumentSpanner$State" "filled" "[Z", .classLink RX10 80 ise, .initialized ise, .methodLink RX10 138 yX10_checkSlot, .static yX10_checkSlot, .code yX10_checkSlot cX10_checkSlot 1 none, .classLink RX10 91 iob, .initialized iob] : List Cond) ++ wsX100 ++ wsX80 ++ (vx_atS RX10 84 ise ["java/lang/RuntimeException", "java/lang/Exception"]).filter goodWord ++ (vx_atS RX10 95 iob ["java/lang/RuntimeException", "java/lang/Exception"]).filter goodWord)
set_option maxRecDepth 20000 in
theorem ggk_L_start_X10_start : GoodIn wk_L_start wk_X10_start := goodIn_ca (goodIn_ca (goodIn_ca (goodIn_ca (goodIn_r _ [7, 8, 9, 10, 6, 11, 12, 13, 14, 15, 16, 17, 18, 19, 20, 21, 22, 23, 24] (by decide +kernel) (by decide +kernel)) (goodIn_sub (fun _ h => List.mem_cons_of_mem _ (List.mem_append_left _ (List.mem_append_left _ (List.mem_append_left _ (List.mem_append_right _ h))))) (by decide +kernel))) (goodIn_sub (fun _ h => List.mem_cons_of_mem _ (List.mem_append_left _ (List.mem_append_left _ (List.mem_append_right _ h)))) (by decide +kernel))) (goodIn_sub (fun _ h => List.mem_cons_of_mem _ (List.mem_append_left _ (List.mem_append_right _ h))) (by decide +kernel))) (goodIn_sub (fun _ h => List.mem_cons_of_mem _ (List.mem_append_right _ h)) (by decide +kernel))
set_option maxRecDepth 20000 in
theorem gk_L_start_X10_start : GoodIn wk_L_start (wsV RL 41 RX10 yX10_start wk_X10_start) := goodIn_app (goodIn_r _ [3, 4, 5, 6] (by decide +kernel) (by decide +kernel)) ggk_L_start_X10_start
set_option maxHeartbeats 4000000 in
set_option maxRecDepth 100000 in
theorem k_L_start (l : Launch) (htr : l.stackTraces = false) (D : va_G) (cI cJ cZ : ClassId) (x : Nat) (st : Nat) (kp : Nat) (bf : Nat) (o1 : Nat) (o2 : Nat) (o3 : Nat) (o4 : Nat) (o5 : Nat) (o6 : Nat) (lt : Nat) (tb : Nat) (fl : Nat) (wt : Nat) (ou : Nat) (a0 : Int32) (a1 : Int32) (a2 : Int32) (sz : Nat) : vx_Met l yL_start wk_L_start ({ frames := 10, cells := 2, slots := 12, locals := 170 }) (xPc D cI cJ cZ [.ref x, .int a0, .int a1, .int a2, .ref ou] [(x, .inr (9, [.ref st, .ref kp, .int 0, .ref bf, .int 0, .int (-1), .int (-1), .int 0, .ref o1, .ref o2, .ref o3, .ref o4, .ref o5, .ref o6])), (st, .inr (8, [.ref lt, .ref tb, .ref fl, .ref wt, .int 0, .null])), (fl, .inl (cZ, 6, .inl (fun _ => 0))), (ou, .inl (cJ, 1, .inr (.inl (fun _ => 0))))] sz) (va_Qi (fun (r : Int32) (u : Unit) => (r = 1 ∧ a0.toInt < 0) ∨ (r = 1 ∧ 0 ≤ a0.toInt ∧ 6 ≤ a0.toInt) ∨ (r = 2 ∧ 0 ≤ a0.toInt ∧ a0.toInt < 6)) (fun (u : Unit) (t : State) => va_P D vwCl ([] : va_W) t.heap ∧ va_D (va_A [(x, .inr (9, [.ref st, .ref kp, .int 0, .ref bf, .int 0, .int (-1), .int (-1), .int 0, .ref o1, .ref o2, .ref o3, .ref o4, .ref o5, .ref o6])), (st, .inr (8, [.ref lt, .ref tb, .ref fl, .ref wt, .int 0, .null])), (fl, .inl (cZ, 6, .inl (fun _ => 0))), (ou, .inl (cJ, 1, .inr (.inl (fun _ => 0))))] sz) ([] : va_W)) (va_A [(x, .inr (9, [.ref st, .ref kp, .int 0, .ref bf, .int 0, .int (-1), .int (-1), .int 0, .ref o1, .ref o2, .ref o3, .ref o4, .ref o5, .ref o6])), (st, .inr (8, [.ref lt, .ref tb, .ref fl, .ref wt, .int 0, .null])), (fl, .inl (cZ, 6, .inl (fun _ => 0))), (ou, .inl (cJ, 1, .inr (.inl (fun _ => 0))))] sz)) (vx_X (fun _ : Unit => True) (fun (E : String) (_ : Unit) (_ : State) => False) (va_A [(x, .inr (9, [.ref st, .ref kp, .int 0, .ref bf, .int 0, .int (-1), .int (-1), .int 0, .ref o1, .ref o2, .ref o3, .ref o4, .ref o5, .ref o6])), (st, .inr (8, [.ref lt, .ref tb, .ref fl, .ref wt, .int 0, .null])), (fl, .inl (cZ, 6, .inl (fun _ => 0))), (ou, .inl (cJ, 1, .inr (.inl (fun _ => 0))))] sz)) 2 12 (va_A [(x, .inr (9, [.ref st, .ref kp, .int 0, .ref bf, .int 0, .int (-1), .int (-1), .int 0, .ref o1, .ref o2, .ref o3, .ref o4, .ref o5, .ref o6])), (st, .inr (8, [.ref lt, .ref tb, .ref fl, .ref wt, .int 0, .null])), (fl, .inl (cZ, 6, .inl (fun _ => 0))), (ou, .inl (cJ, 1, .inr (.inl (fun _ => 0))))] sz) := by
  refine vx_ofWH (cc := cL_start) (maxL := 6) (ret := (some .int)) (by decide) rfl ?_
  intro p e s m args below meth c s₁ B hml hv
  obtain ⟨rfl, hsz, hP, hK, hD0, hE, hV⟩ := hv
  have hx := B.exec
  have hb := B.bytes
  have hr := B.returns
  have hts := atoms_spec (ws := wk_L_start) B.pre
  have hown : s.vm.findClass RL = some m.cls := findClass_of_methodNamed B.named
  have hlocks := B.notSynchronized
  have htab : c.exceptionTable.toList = tableOf [(0, 12, 15, 20), (0, 12, 19, 15)] := vx_table (x := yL_start) B (hts _ List.mem_cons_self)
  have w_1 := hts (.classLink RL 20 iob) (List.mem_of_getElem? (i := 1) rfl)
  have w_2 := hts (.classLink RL 15 ise) (List.mem_of_getElem? (i := 2) rfl)
  subst hsz
  have hD := hD0.self (sz := s.heap.size)
  generalize hAe : va_A [(x, .inr (9, [.ref st, .ref kp, .int 0, .ref bf, .int 0, .int (-1), .int (-1), .int 0, .ref o1, .ref o2, .ref o3, .ref o4, .ref o5, .ref o6])), (st, .inr (8, [.ref lt, .ref tb, .ref fl, .ref wt, .int 0, .null])), (fl, .inl (cZ, 6, .inl (fun _ => 0))), (ou, .inl (cJ, 1, .inr (.inl (fun _ => 0))))] s.heap.size = A at hD hE ⊢
  have hA : ∀ q : Nat, s.heap.size ≤ q → A q := fun q h => by rw [← hAe]; exact Or.inr h
  have hS : va_S A s.heap s.heap [] := va_S.rf
  have hP : va_P D vwCl [(x, .inr (9, [.ref st, .ref kp, .int 0, .ref bf, .int 0, .int (-1), .int (-1), .int 0, .ref o1, .ref o2, .ref o3, .ref o4, .ref o5, .ref o6])), (st, .inr (8, [.ref lt, .ref tb, .ref fl, .ref wt, .int 0, .null])), (fl, .inl (cZ, 6, .inl (fun _ => 0))), (ou, .inl (cJ, 1, .inr (.inl (fun _ => 0))))] s.heap := hP
  have hl := lv_entry ([.ref x, .int a0, .int a1, .int a2, .ref ou]) (n := 6) (Nat.le_of_ble_eq_true rfl)
  rw [lg_entry_eq]
  generalize (lg_sl ([.ref x, .int a0, .int a1, .int a2, .ref ou]) ++ List.replicate (6 - (lg_sl ([.ref x, .int a0, .int a1, .int a2, .ref ou])).length) Slot.unset).toArray = ls at hl ⊢
  have hl : lv_has ls 6 [(0, .ref x), (1, .int a0), (2, .int a1), (3, .int a2), (4, .ref ou)] := hl
  refine lv_aload hx hb dL_start_0 (lv_at hl 4 rfl) ?_
  refine lv_iconst (v := 0) hx hb dL_start_2 (by decide) ?_
  refine lv_aload_n hx hb dL_start_3 rfl (lv_at hl 0 rfl) ?_
  refine lv_iload_n hx hb dL_start_4 rfl (lv_at hl 1 rfl) ?_
  refine lv_iload_n hx hb dL_start_5 rfl (lv_at hl 2 rfl) ?_
  refine lv_iload_n hx hb dL_start_6 rfl (lv_at hl 3 rfl) ?_
  have hPc := hP.sub (ws' := [(x, .inr (9, [.ref st, .ref kp, .int 0, .ref bf, .int 0, .int (-1), .int (-1), .int 0, .ref o1, .ref o2, .ref o3, .ref o4, .ref o5, .ref o6])), (st, .inr (8, [.ref lt, .ref tb, .ref fl, .ref wt, .int 0, .null])), (fl, .inl (cZ, 6, .inl (fun _ => 0)))]) [0, 1, 2] rfl
  have hDc := hD.sub (ws' := [(x, .inr (9, [.ref st, .ref kp, .int 0, .ref bf, .int 0, .int (-1), .int (-1), .int 0, .ref o1, .ref o2, .ref o3, .ref o4, .ref o5, .ref o6])), (st, .inr (8, [.ref lt, .ref tb, .ref fl, .ref wt, .int 0, .null])), (fl, .inl (cZ, 6, .inl (fun _ => 0)))]) [0, 1, 2] (by decide) rfl
  have hFc := va_free (wc := [(x, .inr (9, [.ref st, .ref kp, .int 0, .ref bf, .int 0, .int (-1), .int (-1), .int 0, .ref o1, .ref o2, .ref o3, .ref o4, .ref o5, .ref o6])), (st, .inr (8, [.ref lt, .ref tb, .ref fl, .ref wt, .int 0, .null])), (fl, .inl (cZ, 6, .inl (fun _ => 0)))]) hD hS hA [0, 1, 2] rfl
  refine vx_calli (vx_runV (As := [.int a0, .int a1, .int a2]) (rest := [.int 0, .ref ou]) ⟨hx, hb, hml, hown, hts⟩ (k_X10_start l htr D cI cJ cZ x st kp bf o1 o2 o3 o4 o5 o6 lt tb fl wt a0 a1 a2 s.heap.size) (cwV 3 hts gk_L_start_X10_start rfl rfl rfl (by decide +kernel) ⟨Nat.le_of_ble_eq_true rfl, Nat.le_of_ble_eq_true rfl⟩) ⟨xPc_blind, va_recv hK hP (ci := 9) (q0 := 0) rfl rfl, xPc_pre hPc hK hDc hE hS hFc hV⟩ rfl rfl hl.1 rfl (lv_room (Nat.le_of_ble_eq_true rfl)) dL_start_7 ⟨Nat.le_of_ble_eq_true rfl, Nat.le_of_ble_eq_true rfl⟩) hS (fun q _ h => hFc q h) hFc (fun q _ h => hFc q h) (fun E ce q9 u t H_1 locs ht hvm hpx hBX hz1 hk1 hS hq9 hcv hcl => ?_) (fun r u t H_1 locs ht hvm hw hB hz1 hk1 hS => ?_)
  · rcases hBX with ⟨rfl, e_0⟩ | ⟨rfl, e_0, e_1⟩ | ⟨rfl, e_0, e_1⟩
    · have c_2 : a0.toInt < 0 := e_0
      refine vx_catch hown (tableOf []) ⟨0, 12, 15, 20⟩ (tableOf [(0, 12, 19, 15)]) (by rw [htab]; rfl) (xpass0) (by decide) (by decide) w_1 (va_Nw.use rfl hV.2.2.2.2.2.1.2.2) hq9 hcv hcl ?_
      have hP : va_P D vwCl [] H_1 := fun k q h => by simp at h
      have hD : va_D A [] := ⟨fun i j p q h => by simp at h, fun k q h => by simp at h⟩
      refine W.widen (k := 2) (n := 12) (Nat.le_of_ble_eq_true rfl) (Nat.le_of_ble_eq_true rfl) ?_
      refine lv_astore (lv' := [(5, .ref q9), (0, .ref x), (1, .int a0), (2, .int a1), (3, .int a2), (4, .ref ou)]) hx hb dL_start_15 hl (by decide) rfl (fun ls hl => ?_)
      refine lv_iconst (v := 1) hx hb dL_start_17 (by decide) ?_
      have hP9 := hP.sub (ws' := []) [] rfl
      have hD9 := hD.sub (ws' := []) [] (by decide) rfl
      refine W.widen (k := 2) (n := 12) (Nat.le_of_ble_eq_true rfl) (Nat.le_of_ble_eq_true rfl) ?_
      exact vx_ret (W.iret (v := 1) hx hb hr (fun t ht hW => ⟨⟨1, (), rfl, Or.inl ⟨rfl, c_2⟩, by rw [ht]; exact hP9, hD9⟩, hS.F ht⟩) hS.2.2 dL_start_18)
    · have c_3 : 0 ≤ a0.toInt := e_0
      have c_4 : 6 ≤ a0.toInt := e_1
      refine vx_catch hown (tableOf []) ⟨0, 12, 15, 20⟩ (tableOf [(0, 12, 19, 15)]) (by rw [htab]; rfl) (xpass0) (by decide) (by decide) w_1 (va_Nw.use rfl hV.2.2.2.2.2.1.2.2) hq9 hcv hcl ?_
      have hP : va_P D vwCl [] H_1 := fun k q h => by simp at h
      have hD : va_D A [] := ⟨fun i j p q h => by simp at h, fun k q h => by simp at h⟩
      refine W.widen (k := 2) (n := 12) (Nat.le_of_ble_eq_true rfl) (Nat.le_of_ble_eq_true rfl) ?_
      refine lv_astore (lv' := [(5, .ref q9), (0, .ref x), (1, .int a0), (2, .int a1), (3, .int a2), (4, .ref ou)]) hx hb dL_start_15 hl (by decide) rfl (fun ls hl => ?_)
      refine lv_iconst (v := 1) hx hb dL_start_17 (by decide) ?_
      have hP9 := hP.sub (ws' := []) [] rfl
      have hD9 := hD.sub (ws' := []) [] (by decide) rfl
      refine W.widen (k := 2) (n := 12) (Nat.le_of_ble_eq_true rfl) (Nat.le_of_ble_eq_true rfl) ?_
      exact vx_ret (W.iret (v := 1) hx hb hr (fun t ht hW => ⟨⟨1, (), rfl, Or.inr (Or.inl ⟨rfl, c_3, c_4⟩), by rw [ht]; exact hP9, hD9⟩, hS.F ht⟩) hS.2.2 dL_start_18)
    · have c_5 : 0 ≤ a0.toInt := e_0
      have c_6 : a0.toInt < 6 := e_1
      refine vx_catch hown (tableOf [(0, 12, 15, 20)]) ⟨0, 12, 19, 15⟩ (tableOf []) (by rw [htab]; rfl) (xpass1 (Or.inr ⟨by decide, iob, w_1, hV.2.2.2.2.2.2.1.1⟩)) (by decide) (by decide) w_2 (va_Nw.use rfl hV.2.2.2.2.2.1.2.1) hq9 hcv hcl ?_
      have hP : va_P D vwCl [] H_1 := fun k q h => by simp at h
      have hD : va_D A [] := ⟨fun i j p q h => by simp at h, fun k q h => by simp at h⟩
      refine W.widen (k := 2) (n := 12) (Nat.le_of_ble_eq_true rfl) (Nat.le_of_ble_eq_true rfl) ?_
      refine lv_astore (lv' := [(5, .ref q9), (0, .ref x), (1, .int a0), (2, .int a1), (3, .int a2), (4, .ref ou)]) hx hb dL_start_19 hl (by decide) rfl (fun ls hl => ?_)
      refine lv_iconst (v := 2) hx hb dL_start_21 (by decide) ?_
      have hP9 := hP.sub (ws' := []) [] rfl
      have hD9 := hD.sub (ws' := []) [] (by decide) rfl
      refine W.widen (k := 2) (n := 12) (Nat.le_of_ble_eq_true rfl) (Nat.le_of_ble_eq_true rfl) ?_
      exact vx_ret (W.iret (v := 2) hx hb hr (fun t ht hW => ⟨⟨2, (), rfl, Or.inr (Or.inr ⟨rfl, c_5, c_6⟩), by rw [ht]; exact hP9, hD9⟩, hS.F ht⟩) hS.2.2 dL_start_22)
  · exact hw.elim
def wk_L_end : List Cond := .codeWith yL_end cL_end 6 (some .int) [(0, 12, 15, 20), (0, 12, 19, 15)] :: (([.classLink RL 20 iob, .classLink RL 15 ise, .methodLink RL 45 yX10_end, .instanceMethod yX10_end, .selects RX10 yX10_end yX10_end, .initialized RX10, .code yX10_end cX10_end 4 (some .int), .methodLink RX10 160 yX10_spanAt, .instanceMethod yX10_spanAt, .selects RX10 yX10_spanAt yX10_spanAt, .code yX10_spanAt cX10_spanAt 5 (some .int), .methodLink RX10 153 yX10_tableIn, .instanceMethod yX10_tableIn, .selects RX10 yX10_tableIn yX10_tableIn, .code yX10_tableIn cX10_tableIn 2 (some (.object "DocumentSpanner$SortedInts")), .fieldLink RX10 12 "DocumentSpanner" "state" "LDocumentSpanner$State;", .fieldLink RX10 96 "DocumentSpanner$State" "filled" "[Z", .classLink RX10 80 ise, .initialized ise, .methodLink RX10 138 yX10_checkSlot, .static yX10_checkSlot, .code yX10_checkSlot cX10_checkSlot 1 none, .classLink RX10 91 iob, .initialized iob] : List Cond) ++ wsX100 ++ wsX80 ++ (vx_atS RX10 84 ise ["java/lang/RuntimeException", "java/lang/Exception"]).filter goodWord ++ (vx_atS RX10 95 iob ["java/lang/RuntimeException", "java/lang/Exception"]).filter goodWord)
set_option maxRecDepth 20000 in
theorem ggk_L_end_X10_end : GoodIn wk_L_end wk_X10_end := goodIn_ca (goodIn_ca (goodIn_ca (goodIn_ca (goodIn_r _ [7, 8, 9, 10, 6, 11, 12, 13, 14, 15, 16, 17, 18, 19, 20, 21, 22, 23, 24] (by decide +kernel) (by decide +kernel)) (goodIn_sub (fun _ h => List.mem_cons_of_mem _ (List.mem_append_left _ (List.mem_append_left _ (List.mem_append_left _ (List.mem_append_right _ h))))) (by decide +kernel))) (goodIn_sub (fun _ h => List.mem_cons_of_mem _ (List.mem_append_left _ (List.mem_append_left _ (List.mem_append_right _ h)))) (by decide +kernel))) (goodIn_sub (fun _ h => List.mem_cons_of_mem _ (List.mem_append_left _ (List.mem_append_right _ h))) (by decide +kernel))) (goodIn_sub (fun _ h => List.mem_cons_of_mem _ (List.mem_append_right _ h)) (by decide +kernel))
set_option maxRecDepth 20000 in
theorem gk_L_end_X10_end : GoodIn wk_L_end (wsV RL 45 RX10 yX10_end wk_X10_end) := goodIn_app (goodIn_r _ [3, 4, 5, 6] (by decide +kernel) (by decide +kernel)) ggk_L_end_X10_end
set_option maxHeartbeats 4000000 in
set_option maxRecDepth 100000 in
theorem k_L_end (l : Launch) (htr : l.stackTraces = false) (D : va_G) (cI cJ cZ : ClassId) (x : Nat) (st : Nat) (kp : Nat) (bf : Nat) (o1 : Nat) (o2 : Nat) (o3 : Nat) (o4 : Nat) (o5 : Nat) (o6 : Nat) (lt : Nat) (tb : Nat) (fl : Nat) (wt : Nat) (ou : Nat) (a0 : Int32) (a1 : Int32) (a2 : Int32) (sz : Nat) : vx_Met l yL_end wk_L_end ({ frames := 10, cells := 2, slots := 12, locals := 170 }) (xPc D cI cJ cZ [.ref x, .int a0, .int a1, .int a2, .ref ou] [(x, .inr (9, [.ref st, .ref kp, .int 0, .ref bf, .int 0, .int (-1), .int (-1), .int 0, .ref o1, .ref o2, .ref o3, .ref o4, .ref o5, .ref o6])), (st, .inr (8, [.ref lt, .ref tb, .ref fl, .ref wt, .int 0, .null])), (fl, .inl (cZ, 6, .inl (fun _ => 0))), (ou, .inl (cJ, 1, .inr (.inl (fun _ => 0))))] sz) (va_Qi (fun (r : Int32) (u : Unit) => (r = 1 ∧ a0.toInt < 0) ∨ (r = 1 ∧ 0 ≤ a0.toInt ∧ 6 ≤ a0.toInt) ∨ (r = 2 ∧ 0 ≤ a0.toInt ∧ a0.toInt < 6)) (fun (u : Unit) (t : State) => va_P D vwCl ([] : va_W) t.heap ∧ va_D (va_A [(x, .inr (9, [.ref st, .ref kp, .int 0, .ref bf, .int 0, .int (-1), .int (-1), .int 0, .ref o1, .ref o2, .ref o3, .ref o4, .ref o5, .ref o6])), (st, .inr (8, [.ref lt, .ref tb, .ref fl, .ref wt, .int 0, .null])), (fl, .inl (cZ, 6, .inl (fun _ => 0))), (ou, .inl (cJ, 1, .inr (.inl (fun _ => 0))))] sz) ([] : va_W)) (va_A [(x, .inr (9, [.ref st, .ref kp, .int 0, .ref bf, .int 0, .int (-1), .int (-1), .int 0, .ref o1, .ref o2, .ref o3, .ref o4, .ref o5, .ref o6])), (st, .inr (8, [.ref lt, .ref tb, .ref fl, .ref wt, .int 0, .null])), (fl, .inl (cZ, 6, .inl (fun _ => 0))), (ou, .inl (cJ, 1, .inr (.inl (fun _ => 0))))] sz)) (vx_X (fun _ : Unit => True) (fun (E : String) (_ : Unit) (_ : State) => False) (va_A [(x, .inr (9, [.ref st, .ref kp, .int 0, .ref bf, .int 0, .int (-1), .int (-1), .int 0, .ref o1, .ref o2, .ref o3, .ref o4, .ref o5, .ref o6])), (st, .inr (8, [.ref lt, .ref tb, .ref fl, .ref wt, .int 0, .null])), (fl, .inl (cZ, 6, .inl (fun _ => 0))), (ou, .inl (cJ, 1, .inr (.inl (fun _ => 0))))] sz)) 2 12 (va_A [(x, .inr (9, [.ref st, .ref kp, .int 0, .ref bf, .int 0, .int (-1), .int (-1), .int 0, .ref o1, .ref o2, .ref o3, .ref o4, .ref o5, .ref o6])), (st, .inr (8, [.ref lt, .ref tb, .ref fl, .ref wt, .int 0, .null])), (fl, .inl (cZ, 6, .inl (fun _ => 0))), (ou, .inl (cJ, 1, .inr (.inl (fun _ => 0))))] sz) := by
  refine vx_ofWH (cc := cL_end) (maxL := 6) (ret := (some .int)) (by decide) rfl ?_
  intro p e s m args below meth c s₁ B hml hv
  obtain ⟨rfl, hsz, hP, hK, hD0, hE, hV⟩ := hv
  have hx := B.exec
  have hb := B.bytes
  have hr := B.returns
  have hts := atoms_spec (ws := wk_L_end) B.pre
  have hown : s.vm.findClass RL = some m.cls := findClass_of_methodNamed B.named
  have hlocks := B.notSynchronized
  have htab : c.exceptionTable.toList = tableOf [(0, 12, 15, 20), (0, 12, 19, 15)] := vx_table (x := yL_end) B (hts _ List.mem_cons_self)
  have w_1 := hts (.classLink RL 20 iob) (List.mem_of_getElem? (i := 1) rfl)
  have w_2 := hts (.classLink RL 15 ise) (List.mem_of_getElem? (i := 2) rfl)
  subst hsz
  have hD := hD0.self (sz := s.heap.size)
  generalize hAe : va_A [(x, .inr (9, [.ref st, .ref kp, .int 0, .ref bf, .int 0, .int (-1), .int (-1), .int 0, .ref o1, .ref o2, .ref o3, .ref o4, .ref o5, .ref o6])), (st, .inr (8, [.ref lt, .ref tb, .ref fl, .ref wt, .int 0, .null])), (fl, .inl (cZ, 6, .inl (fun _ => 0))), (ou, .inl (cJ, 1, .inr (.inl (fun _ => 0))))] s.heap.size = A at hD hE ⊢
  have hA : ∀ q : Nat, s.heap.size ≤ q → A q := fun q h => by rw [← hAe]; exact Or.inr h
  have hS : va_S A s.heap s.heap [] := va_S.rf
  have hP : va_P D vwCl [(x, .inr (9, [.ref st, .ref kp, .int 0, .ref bf, .int 0, .int (-1), .int (-1), .int 0, .ref o1, .ref o2, .ref o3, .ref o4, .ref o5, .ref o6])), (st, .inr (8, [.ref lt, .ref tb, .ref fl, .ref wt, .int 0, .null])), (fl, .inl (cZ, 6, .inl (fun _ => 0))), (ou, .inl (cJ, 1, .inr (.inl (fun _ => 0))))] s.heap := hP
  have hl := lv_entry ([.ref x, .int a0, .int a1, .int a2, .ref ou]) (n := 6) (Nat.le_of_ble_eq_true rfl)
  rw [lg_entry_eq]
  generalize (lg_sl ([.ref x, .int a0, .int a1, .int a2, .ref ou]) ++ List.replicate (6 - (lg_sl ([.ref x, .int a0, .int a1, .int a2, .ref ou])).length) Slot.unset).toArray = ls at hl ⊢
  have hl : lv_has ls 6 [(0, .ref x), (1, .int a0), (2, .int a1), (3, .int a2), (4, .ref ou)] := hl
  refine lv_aload hx hb dL_end_0 (lv_at hl 4 rfl) ?_
  refine lv_iconst (v := 0) hx hb dL_end_2 (by decide) ?_
  refine lv_aload_n hx hb dL_end_3 rfl (lv_at hl 0 rfl) ?_
  refine lv_iload_n hx hb dL_end_4 rfl (lv_at hl 1 rfl) ?_
  refine lv_iload_n hx hb dL_end_5 rfl (lv_at hl 2 rfl) ?_
  refine lv_iload_n hx hb dL_end_6 rfl (lv_at hl 3 rfl) ?_
  have hPc := hP.sub (ws' := [(x, .inr (9, [.ref st, .ref kp, .int 0, .ref bf, .int 0, .int (-1), .int (-1), .int 0, .ref o1, .ref o2, .ref o3, .ref o4, .ref o5, .ref o6])), (st, .inr (8, [.ref lt, .ref tb, .ref fl, .ref wt, .int 0, .null])), (fl, .inl (cZ, 6, .inl (fun _ => 0)))]) [0, 1, 2] rfl
  have hDc := hD.sub (ws' := [(x, .inr (9, [.ref st, .ref kp, .int 0, .ref bf, .int 0, .int (-1), .int (-1), .int 0, .ref o1, .ref o2, .ref o3, .ref o4, .ref o5, .ref o6])), (st, .inr (8, [.ref lt, .ref tb, .ref fl, .ref wt, .int 0, .null])), (fl, .inl (cZ, 6, .inl (fun _ => 0)))]) [0, 1, 2] (by decide) rfl
  have hFc := va_free (wc := [(x, .inr (9, [.ref st, .ref kp, .int 0, .ref bf, .int 0, .int (-1), .int (-1), .int 0, .ref o1, .ref o2, .ref o3, .ref o4, .ref o5, .ref o6])), (st, .inr (8, [.ref lt, .ref tb, .ref fl, .ref wt, .int 0, .null])), (fl, .inl (cZ, 6, .inl (fun _ => 0)))]) hD hS hA [0, 1, 2] rfl
  refine vx_calli (vx_runV (As := [.int a0, .int a1, .int a2]) (rest := [.int 0, .ref ou]) ⟨hx, hb, hml, hown, hts⟩ (k_X10_end l htr D cI cJ cZ x st kp bf o1 o2 o3 o4 o5 o6 lt tb fl wt a0 a1 a2 s.heap.size) (cwV 3 hts gk_L_end_X10_end rfl rfl rfl (by decide +kernel) ⟨Nat.le_of_ble_eq_true rfl, Nat.le_of_ble_eq_true rfl⟩) ⟨xPc_blind, va_recv hK hP (ci := 9) (q0 := 0) rfl rfl, xPc_pre hPc hK hDc hE hS hFc hV⟩ rfl rfl hl.1 rfl (lv_room (Nat.le_of_ble_eq_true rfl)) dL_end_7 ⟨Nat.le_of_ble_eq_true rfl, Nat.le_of_ble_eq_true rfl⟩) hS (fun q _ h => hFc q h) hFc (fun q _ h => hFc q h) (fun E ce q9 u t H_1 locs ht hvm hpx hBX hz1 hk1 hS hq9 hcv hcl => ?_) (fun r u t H_1 locs ht hvm hw hB hz1 hk1 hS => ?_)
  · rcases hBX with ⟨rfl, e_0⟩ | ⟨rfl, e_0, e_1⟩ | ⟨rfl, e_0, e_1⟩
    · have c_2 : a0.toInt < 0 := e_0
      refine vx_catch hown (tableOf []) ⟨0, 12, 15, 20⟩ (tableOf [(0, 12, 19, 15)]) (by rw [htab]; rfl) (xpass0) (by decide) (by decide) w_1 (va_Nw.use rfl hV.2.2.2.2.2.1.2.2) hq9 hcv hcl ?_
      have hP : va_P D vwCl [] H_1 := fun k q h => by simp at h
      have hD : va_D A [] := ⟨fun i j p q h => by simp at h, fun k q h => by simp at h⟩
      refine W.widen (k := 2) (n := 12) (Nat.le_of_ble_eq_true rfl) (Nat.le_of_ble_eq_true rfl) ?_
      refine lv_astore (lv' := [(5, .ref q9), (0, .ref x), (1, .int a0), (2, .int a1), (3, .int a2), (4, .ref ou)]) hx hb dL_end_15 hl (by decide) rfl (fun ls hl => ?_)
      refine lv_iconst (v := 1) hx hb dL_end_17 (by decide) ?_
      have hP9 := hP.sub (ws' := []) [] rfl
      have hD9 := hD.sub (ws' := []) [] (by decide) rfl
      refine W.widen (k := 2) (n := 12) (Nat.le_of_ble_eq_true rfl) (Nat.le_of_ble_eq_true rfl) ?_
      exact vx_ret (W.iret (v := 1) hx hb hr (fun t ht hW => ⟨⟨1, (), rfl, Or.inl ⟨rfl, c_2⟩, by rw [ht]; exact hP9, hD9⟩, hS.F ht⟩) hS.2.2 dL_end_18)
    · have c_3 : 0 ≤ a0.toInt := e_0
      have c_4 : 6 ≤ a0.toInt := e_1
      refine vx_catch hown (tableOf []) ⟨0, 12, 15, 20⟩ (tableOf [(0, 12, 19, 15)]) (by rw [htab]; rfl) (xpass0) (by decide) (by decide) w_1 (va_Nw.use rfl hV.2.2.2.2.2.1.2.2) hq9 hcv hcl ?_
      have hP : va_P D vwCl [] H_1 := fun k q h => by simp at h
      have hD : va_D A [] := ⟨fun i j p q h => by simp at h, fun k q h => by simp at h⟩
      refine W.widen (k := 2) (n := 12) (Nat.le_of_ble_eq_true rfl) (Nat.le_of_ble_eq_true rfl) ?_
      refine lv_astore (lv' := [(5, .ref q9), (0, .ref x), (1, .int a0), (2, .int a1), (3, .int a2), (4, .ref ou)]) hx hb dL_end_15 hl (by decide) rfl (fun ls hl => ?_)
      refine lv_iconst (v := 1) hx hb dL_end_17 (by decide) ?_
      have hP9 := hP.sub (ws' := []) [] rfl
      have hD9 := hD.sub (ws' := []) [] (by decide) rfl
      refine W.widen (k := 2) (n := 12) (Nat.le_of_ble_eq_true rfl) (Nat.le_of_ble_eq_true rfl) ?_
      exact vx_ret (W.iret (v := 1) hx hb hr (fun t ht hW => ⟨⟨1, (), rfl, Or.inr (Or.inl ⟨rfl, c_3, c_4⟩), by rw [ht]; exact hP9, hD9⟩, hS.F ht⟩) hS.2.2 dL_end_18)
    · have c_5 : 0 ≤ a0.toInt := e_0
      have c_6 : a0.toInt < 6 := e_1
      refine vx_catch hown (tableOf [(0, 12, 15, 20)]) ⟨0, 12, 19, 15⟩ (tableOf []) (by rw [htab]; rfl) (xpass1 (Or.inr ⟨by decide, iob, w_1, hV.2.2.2.2.2.2.1.1⟩)) (by decide) (by decide) w_2 (va_Nw.use rfl hV.2.2.2.2.2.1.2.1) hq9 hcv hcl ?_
      have hP : va_P D vwCl [] H_1 := fun k q h => by simp at h
      have hD : va_D A [] := ⟨fun i j p q h => by simp at h, fun k q h => by simp at h⟩
      refine W.widen (k := 2) (n := 12) (Nat.le_of_ble_eq_true rfl) (Nat.le_of_ble_eq_true rfl) ?_
      refine lv_astore (lv' := [(5, .ref q9), (0, .ref x), (1, .int a0), (2, .int a1), (3, .int a2), (4, .ref ou)]) hx hb dL_end_19 hl (by decide) rfl (fun ls hl => ?_)
      refine lv_iconst (v := 2) hx hb dL_end_21 (by decide) ?_
      have hP9 := hP.sub (ws' := []) [] rfl
      have hD9 := hD.sub (ws' := []) [] (by decide) rfl
      refine W.widen (k := 2) (n := 12) (Nat.le_of_ble_eq_true rfl) (Nat.le_of_ble_eq_true rfl) ?_
      exact vx_ret (W.iret (v := 2) hx hb hr (fun t ht hW => ⟨⟨2, (), rfl, Or.inr (Or.inr ⟨rfl, c_5, c_6⟩), by rw [ht]; exact hP9, hD9⟩, hS.F ht⟩) hS.2.2 dL_end_22)
  · exact hw.elim
def wk_L_domain : List Cond := .codeWith yL_domain cL_domain 4 (some .int) [(0, 9, 12, 20), (0, 9, 15, 15)] :: (([.classLink RL 20 iob, .classLink RL 15 ise, .methodLink RL 48 yX10_domain, .instanceMethod yX10_domain, .selects RX10 yX10_domain yX10_domain, .initialized RX10, .code yX10_domain cX10_domain 5 (some .int), .methodLink RX10 153 yX10_tableIn, .instanceMethod yX10_tableIn, .selects RX10 yX10_tableIn yX10_tableIn, .code yX10_tableIn cX10_tableIn 2 (some (.object "DocumentSpanner$SortedInts")), .fieldLink RX10 12 "DocumentSpanner" "state" "LDocumentSpanner$State;", .fieldLink RX10 96 "DocumentSpanner$State" "filled" "[Z", .classLink RX10 80 ise, .initialized ise, .methodLink RX10 138 yX10_checkSlot, .static yX10_checkSlot, .code yX10_checkSlot cX10_checkSlot 1 none, .classLink RX10 91 iob, .initialized iob] : List Cond) ++ wsX100 ++ wsX80 ++ (vx_atS RX10 84 ise ["java/lang/RuntimeException", "java/lang/Exception"]).filter goodWord ++ (vx_atS RX10 95 iob ["java/lang/RuntimeException", "java/lang/Exception"]).filter goodWord)
set_option maxRecDepth 20000 in
theorem ggk_L_domain_X10_domain : GoodIn wk_L_domain wk_X10_domain := goodIn_ca (goodIn_ca (goodIn_ca (goodIn_ca (goodIn_r _ [7, 8, 9, 10, 6, 11, 12, 13, 14, 15, 16, 17, 18, 19, 20] (by decide +kernel) (by decide +kernel)) (goodIn_sub (fun _ h => List.mem_cons_of_mem _ (List.mem_append_left _ (List.mem_append_left _ (List.mem_append_left _ (List.mem_append_right _ h))))) (by decide +kernel))) (goodIn_sub (fun _ h => List.mem_cons_of_mem _ (List.mem_append_left _ (List.mem_append_left _ (List.mem_append_right _ h)))) (by decide +kernel))) (goodIn_sub (fun _ h => List.mem_cons_of_mem _ (List.mem_append_left _ (List.mem_append_right _ h))) (by decide +kernel))) (goodIn_sub (fun _ h => List.mem_cons_of_mem _ (List.mem_append_right _ h)) (by decide +kernel))
set_option maxRecDepth 20000 in
theorem gk_L_domain_X10_domain : GoodIn wk_L_domain (wsV RL 48 RX10 yX10_domain wk_X10_domain) := goodIn_app (goodIn_r _ [3, 4, 5, 6] (by decide +kernel) (by decide +kernel)) ggk_L_domain_X10_domain
set_option maxHeartbeats 4000000 in
set_option maxRecDepth 100000 in
theorem k_L_domain (l : Launch) (htr : l.stackTraces = false) (D : va_G) (cI cJ cZ : ClassId) (x : Nat) (st : Nat) (kp : Nat) (bf : Nat) (o1 : Nat) (o2 : Nat) (o3 : Nat) (o4 : Nat) (o5 : Nat) (o6 : Nat) (lt : Nat) (tb : Nat) (fl : Nat) (wt : Nat) (ou : Nat) (a0 : Int32) (sz : Nat) : vx_Met l yL_domain wk_L_domain ({ frames := 9, cells := 2, slots := 12, locals := 147 }) (xPc D cI cJ cZ [.ref x, .int a0, .ref ou] [(x, .inr (9, [.ref st, .ref kp, .int 0, .ref bf, .int 0, .int (-1), .int (-1), .int 0, .ref o1, .ref o2, .ref o3, .ref o4, .ref o5, .ref o6])), (st, .inr (8, [.ref lt, .ref tb, .ref fl, .ref wt, .int 0, .null])), (fl, .inl (cZ, 6, .inl (fun _ => 0))), (ou, .inl (cJ, 1, .inr (.inl (fun _ => 0))))] sz) (va_Qi (fun (r : Int32) (u : Unit) => (r = 1 ∧ a0.toInt < 0) ∨ (r = 1 ∧ 0 ≤ a0.toInt ∧ 6 ≤ a0.toInt) ∨ (r = 2 ∧ 0 ≤ a0.toInt ∧ a0.toInt < 6)) (fun (u : Unit) (t : State) => va_P D vwCl ([] : va_W) t.heap ∧ va_D (va_A [(x, .inr (9, [.ref st, .ref kp, .int 0, .ref bf, .int 0, .int (-1), .int (-1), .int 0, .ref o1, .ref o2, .ref o3, .ref o4, .ref o5, .ref o6])), (st, .inr (8, [.ref lt, .ref tb, .ref fl, .ref wt, .int 0, .null])), (fl, .inl (cZ, 6, .inl (fun _ => 0))), (ou, .inl (cJ, 1, .inr (.inl (fun _ => 0))))] sz) ([] : va_W)) (va_A [(x, .inr (9, [.ref st, .ref kp, .int 0, .ref bf, .int 0, .int (-1), .int (-1), .int 0, .ref o1, .ref o2, .ref o3, .ref o4, .ref o5, .ref o6])), (st, .inr (8, [.ref lt, .ref tb, .ref fl, .ref wt, .int 0, .null])), (fl, .inl (cZ, 6, .inl (fun _ => 0))), (ou, .inl (cJ, 1, .inr (.inl (fun _ => 0))))] sz)) (vx_X (fun _ : Unit => True) (fun (E : String) (_ : Unit) (_ : State) => False) (va_A [(x, .inr (9, [.ref st, .ref kp, .int 0, .ref bf, .int 0, .int (-1), .int (-1), .int 0, .ref o1, .ref o2, .ref o3, .ref o4, .ref o5, .ref o6])), (st, .inr (8, [.ref lt, .ref tb, .ref fl, .ref wt, .int 0, .null])), (fl, .inl (cZ, 6, .inl (fun _ => 0))), (ou, .inl (cJ, 1, .inr (.inl (fun _ => 0))))] sz)) 2 12 (va_A [(x, .inr (9, [.ref st, .ref kp, .int 0, .ref bf, .int 0, .int (-1), .int (-1), .int 0, .ref o1, .ref o2, .ref o3, .ref o4, .ref o5, .ref o6])), (st, .inr (8, [.ref lt, .ref tb, .ref fl, .ref wt, .int 0, .null])), (fl, .inl (cZ, 6, .inl (fun _ => 0))), (ou, .inl (cJ, 1, .inr (.inl (fun _ => 0))))] sz) := by
  refine vx_ofWH (cc := cL_domain) (maxL := 4) (ret := (some .int)) (by decide) rfl ?_
  intro p e s m args below meth c s₁ B hml hv
  obtain ⟨rfl, hsz, hP, hK, hD0, hE, hV⟩ := hv
  have hx := B.exec
  have hb := B.bytes
  have hr := B.returns
  have hts := atoms_spec (ws := wk_L_domain) B.pre
  have hown : s.vm.findClass RL = some m.cls := findClass_of_methodNamed B.named
  have hlocks := B.notSynchronized
  have htab : c.exceptionTable.toList = tableOf [(0, 9, 12, 20), (0, 9, 15, 15)] := vx_table (x := yL_domain) B (hts _ List.mem_cons_self)
  have w_1 := hts (.classLink RL 20 iob) (List.mem_of_getElem? (i := 1) rfl)
  have w_2 := hts (.classLink RL 15 ise) (List.mem_of_getElem? (i := 2) rfl)
  subst hsz
  have hD := hD0.self (sz := s.heap.size)
  generalize hAe : va_A [(x, .inr (9, [.ref st, .ref kp, .int 0, .ref bf, .int 0, .int (-1), .int (-1), .int 0, .ref o1, .ref o2, .ref o3, .ref o4, .ref o5, .ref o6])), (st, .inr (8, [.ref lt, .ref tb, .ref fl, .ref wt, .int 0, .null])), (fl, .inl (cZ, 6, .inl (fun _ => 0))), (ou, .inl (cJ, 1, .inr (.inl (fun _ => 0))))] s.heap.size = A at hD hE ⊢
  have hA : ∀ q : Nat, s.heap.size ≤ q → A q := fun q h => by rw [← hAe]; exact Or.inr h
  have hS : va_S A s.heap s.heap [] := va_S.rf
  have hP : va_P D vwCl [(x, .inr (9, [.ref st, .ref kp, .int 0, .ref bf, .int 0, .int (-1), .int (-1), .int 0, .ref o1, .ref o2, .ref o3, .ref o4, .ref o5, .ref o6])), (st, .inr (8, [.ref lt, .ref tb, .ref fl, .ref wt, .int 0, .null])), (fl, .inl (cZ, 6, .inl (fun _ => 0))), (ou, .inl (cJ, 1, .inr (.inl (fun _ => 0))))] s.heap := hP
  have hl := lv_entry ([.ref x, .int a0, .ref ou]) (n := 4) (Nat.le_of_ble_eq_true rfl)
  rw [lg_entry_eq]
  generalize (lg_sl ([.ref x, .int a0, .ref ou]) ++ List.replicate (4 - (lg_sl ([.ref x, .int a0, .ref ou])).length) Slot.unset).toArray = ls at hl ⊢
  have hl : lv_has ls 4 [(0, .ref x), (1, .int a0), (2, .ref ou)] := hl
  refine lv_aload_n hx hb dL_domain_0 rfl (lv_at hl 2 rfl) ?_
  refine lv_iconst (v := 0) hx hb dL_domain_1 (by decide) ?_
  refine lv_aload_n hx hb dL_domain_2 rfl (lv_at hl 0 rfl) ?_
  refine lv_iload_n hx hb dL_domain_3 rfl (lv_at hl 1 rfl) ?_
  have hPc := hP.sub (ws' := [(x, .inr (9, [.ref st, .ref kp, .int 0, .ref bf, .int 0, .int (-1), .int (-1), .int 0, .ref o1, .ref o2, .ref o3, .ref o4, .ref o5, .ref o6])), (st, .inr (8, [.ref lt, .ref tb, .ref fl, .ref wt, .int 0, .null])), (fl, .inl (cZ, 6, .inl (fun _ => 0)))]) [0, 1, 2] rfl
  have hDc := hD.sub (ws' := [(x, .inr (9, [.ref st, .ref kp, .int 0, .ref bf, .int 0, .int (-1), .int (-1), .int 0, .ref o1, .ref o2, .ref o3, .ref o4, .ref o5, .ref o6])), (st, .inr (8, [.ref lt, .ref tb, .ref fl, .ref wt, .int 0, .null])), (fl, .inl (cZ, 6, .inl (fun _ => 0)))]) [0, 1, 2] (by decide) rfl
  have hFc := va_free (wc := [(x, .inr (9, [.ref st, .ref kp, .int 0, .ref bf, .int 0, .int (-1), .int (-1), .int 0, .ref o1, .ref o2, .ref o3, .ref o4, .ref o5, .ref o6])), (st, .inr (8, [.ref lt, .ref tb, .ref fl, .ref wt, .int 0, .null])), (fl, .inl (cZ, 6, .inl (fun _ => 0)))]) hD hS hA [0, 1, 2] rfl
  refine vx_calli (vx_runV (As := [.int a0]) (rest := [.int 0, .ref ou]) ⟨hx, hb, hml, hown, hts⟩ (k_X10_domain l htr D cI cJ cZ x st kp bf o1 o2 o3 o4 o5 o6 lt tb fl wt a0 s.heap.size) (cwV 1 hts gk_L_domain_X10_domain rfl rfl rfl (by decide +kernel) ⟨Nat.le_of_ble_eq_true rfl, Nat.le_of_ble_eq_true rfl⟩) ⟨xPc_blind, va_recv hK hP (ci := 9) (q0 := 0) rfl rfl, xPc_pre hPc hK hDc hE hS hFc hV⟩ rfl rfl hl.1 rfl (lv_room (Nat.le_of_ble_eq_true rfl)) dL_domain_4 ⟨Nat.le_of_ble_eq_true rfl, Nat.le_of_ble_eq_true rfl⟩) hS (fun q _ h => hFc q h) hFc (fun q _ h => hFc q h) (fun E ce q9 u t H_1 locs ht hvm hpx hBX hz1 hk1 hS hq9 hcv hcl => ?_) (fun r u t H_1 locs ht hvm hw hB hz1 hk1 hS => ?_)
  · rcases hBX with ⟨rfl, e_0⟩ | ⟨rfl, e_0, e_1⟩ | ⟨rfl, e_0, e_1⟩
    · have c_2 : a0.toInt < 0 := e_0
      refine vx_catch hown (tableOf []) ⟨0, 9, 12, 20⟩ (tableOf [(0, 9, 15, 15)]) (by rw [htab]; rfl) (xpass0) (by decide) (by decide) w_1 (va_Nw.use rfl hV.2.2.2.2.2.1.2.2) hq9 hcv hcl ?_
      have hP : va_P D vwCl [] H_1 := fun k q h => by simp at h
      have hD : va_D A [] := ⟨fun i j p q h => by simp at h, fun k q h => by simp at h⟩
      refine W.widen (k := 2) (n := 12) (Nat.le_of_ble_eq_true rfl) (Nat.le_of_ble_eq_true rfl) ?_
      refine lv_astore_n (lv' := [(3, .ref q9), (0, .ref x), (1, .int a0), (2, .ref ou)]) hx hb dL_domain_12 rfl hl (by decide) rfl (fun ls hl => ?_)
      refine lv_iconst (v := 1) hx hb dL_domain_13 (by decide) ?_
      have hP9 := hP.sub (ws' := []) [] rfl
      have hD9 := hD.sub (ws' := []) [] (by decide) rfl
      refine W.widen (k := 2) (n := 12) (Nat.le_of_ble_eq_true rfl) (Nat.le_of_ble_eq_true rfl) ?_
      exact vx_ret (W.iret (v := 1) hx hb hr (fun t ht hW => ⟨⟨1, (), rfl, Or.inl ⟨rfl, c_2⟩, by rw [ht]; exact hP9, hD9⟩, hS.F ht⟩) hS.2.2 dL_domain_14)
    · have c_3 : 0 ≤ a0.toInt := e_0
      have c_4 : 6 ≤ a0.toInt := e_1
      refine vx_catch hown (tableOf []) ⟨0, 9, 12, 20⟩ (tableOf [(0, 9, 15, 15)]) (by rw [htab]; rfl) (xpass0) (by decide) (by decide) w_1 (va_Nw.use rfl hV.2.2.2.2.2.1.2.2) hq9 hcv hcl ?_
      have hP : va_P D vwCl [] H_1 := fun k q h => by simp at h
      have hD : va_D A [] := ⟨fun i j p q h => by simp at h, fun k q h => by simp at h⟩
      refine W.widen (k := 2) (n := 12) (Nat.le_of_ble_eq_true rfl) (Nat.le_of_ble_eq_true rfl) ?_
      refine lv_astore_n (lv' := [(3, .ref q9), (0, .ref x), (1, .int a0), (2, .ref ou)]) hx hb dL_domain_12 rfl hl (by decide) rfl (fun ls hl => ?_)
      refine lv_iconst (v := 1) hx hb dL_domain_13 (by decide) ?_
      have hP9 := hP.sub (ws' := []) [] rfl
      have hD9 := hD.sub (ws' := []) [] (by decide) rfl
      refine W.widen (k := 2) (n := 12) (Nat.le_of_ble_eq_true rfl) (Nat.le_of_ble_eq_true rfl) ?_
      exact vx_ret (W.iret (v := 1) hx hb hr (fun t ht hW => ⟨⟨1, (), rfl, Or.inr (Or.inl ⟨rfl, c_3, c_4⟩), by rw [ht]; exact hP9, hD9⟩, hS.F ht⟩) hS.2.2 dL_domain_14)
    · have c_5 : 0 ≤ a0.toInt := e_0
      have c_6 : a0.toInt < 6 := e_1
      refine vx_catch hown (tableOf [(0, 9, 12, 20)]) ⟨0, 9, 15, 15⟩ (tableOf []) (by rw [htab]; rfl) (xpass1 (Or.inr ⟨by decide, iob, w_1, hV.2.2.2.2.2.2.1.1⟩)) (by decide) (by decide) w_2 (va_Nw.use rfl hV.2.2.2.2.2.1.2.1) hq9 hcv hcl ?_
      have hP : va_P D vwCl [] H_1 := fun k q h => by simp at h
      have hD : va_D A [] := ⟨fun i j p q h => by simp at h, fun k q h => by simp at h⟩
      refine W.widen (k := 2) (n := 12) (Nat.le_of_ble_eq_true rfl) (Nat.le_of_ble_eq_true rfl) ?_
      refine lv_astore_n (lv' := [(3, .ref q9), (0, .ref x), (1, .int a0), (2, .ref ou)]) hx hb dL_domain_15 rfl hl (by decide) rfl (fun ls hl => ?_)
      refine lv_iconst (v := 2) hx hb dL_domain_16 (by decide) ?_
      have hP9 := hP.sub (ws' := []) [] rfl
      have hD9 := hD.sub (ws' := []) [] (by decide) rfl
      refine W.widen (k := 2) (n := 12) (Nat.le_of_ble_eq_true rfl) (Nat.le_of_ble_eq_true rfl) ?_
      exact vx_ret (W.iret (v := 2) hx hb hr (fun t ht hW => ⟨⟨2, (), rfl, Or.inr (Or.inr ⟨rfl, c_5, c_6⟩), by rw [ht]; exact hP9, hD9⟩, hS.F ht⟩) hS.2.2 dL_domain_17)
  · exact hw.elim
def wk_L_clear : List Cond := .codeWith yL_clear cL_clear 4 (some .int) [(0, 9, 12, 20)] :: (([.classLink RL 20 iob, .methodLink RL 51 yX10_clear, .instanceMethod yX10_clear, .selects RX10 yX10_clear yX10_clear, .initialized RX10, .code yX10_clear cX10_clear 3 (some .int), .fieldLink RX10 12 "DocumentSpanner" "state" "LDocumentSpanner$State;", .fieldLink RX10 96 "DocumentSpanner$State" "filled" "[Z", .methodLink RX10 138 yX10_checkSlot, .static yX10_checkSlot, .code yX10_checkSlot cX10_checkSlot 1 none, .classLink RX10 91 iob, .initialized iob, .methodLink RX10 182 yX10_leaveSlot, .instanceMethod yX10_leaveSlot, .selects RX10 yX10_leaveSlot yX10_leaveSlot, .code yX10_leaveSlot cX10_leaveSlot 2 none, .fieldLink RX10 34 "DocumentSpanner" "cursorSlot" "I"] : List Cond) ++ wsX100 ++ wsX80 ++ (vx_atS RX10 95 iob ["java/lang/RuntimeException", "java/lang/Exception"]).filter goodWord)
set_option maxRecDepth 20000 in
theorem ggk_L_clear_X10_clear : GoodIn wk_L_clear wk_X10_clear := goodIn_ca (goodIn_ca (goodIn_ca (goodIn_r _ [6, 7, 8, 9, 10, 5, 11, 12, 13, 14, 15, 16, 17, 18] (by decide +kernel) (by decide +kernel)) (goodIn_sub (fun _ h => List.mem_cons_of_mem _ (List.mem_append_left _ (List.mem_append_left _ (List.mem_append_right _ h)))) (by decide +kernel))) (goodIn_sub (fun _ h => List.mem_cons_of_mem _ (List.mem_append_left _ (List.mem_append_right _ h))) (by decide +kernel))) (goodIn_sub (fun _ h => List.mem_cons_of_mem _ (List.mem_append_right _ h)) (by decide +kernel))
set_option maxRecDepth 20000 in
theorem gk_L_clear_X10_clear : GoodIn wk_L_clear (wsV RL 51 RX10 yX10_clear wk_X10_clear) := goodIn_app (goodIn_r _ [2, 3, 4, 5] (by decide +kernel) (by decide +kernel)) ggk_L_clear_X10_clear
set_option maxHeartbeats 4000000 in
set_option maxRecDepth 100000 in
theorem k_L_clear (l : Launch) (htr : l.stackTraces = false) (D : va_G) (cI cJ cZ : ClassId) (x : Nat) (st : Nat) (kp : Nat) (bf : Nat) (o1 : Nat) (o2 : Nat) (o3 : Nat) (o4 : Nat) (o5 : Nat) (o6 : Nat) (lt : Nat) (tb : Nat) (fl : Nat) (wt : Nat) (ou : Nat) (a0 : Int32) (sz : Nat) : vx_Met l yL_clear wk_L_clear ({ frames := 8, cells := 1, slots := 6, locals := 124 }) (xPc D cI cJ cZ [.ref x, .int a0, .ref ou] [(x, .inr (9, [.ref st, .ref kp, .int 0, .ref bf, .int 0, .int (-1), .int (-1), .int 0, .ref o1, .ref o2, .ref o3, .ref o4, .ref o5, .ref o6])), (st, .inr (8, [.ref lt, .ref tb, .ref fl, .ref wt, .int 0, .null])), (fl, .inl (cZ, 6, .inl (fun _ => 0))), (ou, .inl (cJ, 1, .inr (.inl (fun _ => 0))))] sz) (va_Qi (fun (r : Int32) (u : Nat) => (r = 1 ∧ u = 0 ∧ a0.toInt < 0) ∨ (r = 1 ∧ u = 0 ∧ 0 ≤ a0.toInt ∧ 6 ≤ a0.toInt) ∨ (r = 0 ∧ u = 1 ∧ 0 ≤ a0.toInt ∧ a0.toInt < 6 ∧ (-1) ≠ a0.toInt)) (fun (u : Nat) (t : State) => va_P D vwCl (match u with | 0 => [] | _ => [(ou, .inl (cJ, 1, .inr (.inl (vp_updL (fun _ => 0) ((0 : Int32).toNatClampNeg) (-1)))))] : va_W) t.heap ∧ va_D (va_A [(x, .inr (9, [.ref st, .ref kp, .int 0, .ref bf, .int 0, .int (-1), .int (-1), .int 0, .ref o1, .ref o2, .ref o3, .ref o4, .ref o5, .ref o6])), (st, .inr (8, [.ref lt, .ref tb, .ref fl, .ref wt, .int 0, .null])), (fl, .inl (cZ, 6, .inl (fun _ => 0))), (ou, .inl (cJ, 1, .inr (.inl (fun _ => 0))))] sz) (match u with | 0 => [] | _ => [(ou, .inl (cJ, 1, .inr (.inl (vp_updL (fun _ => 0) ((0 : Int32).toNatClampNeg) (-1)))))] : va_W)) (va_A [(x, .inr (9, [.ref st, .ref kp, .int 0, .ref bf, .int 0, .int (-1), .int (-1), .int 0, .ref o1, .ref o2, .ref o3, .ref o4, .ref o5, .ref o6])), (st, .inr (8, [.ref lt, .ref tb, .ref fl, .ref wt, .int 0, .null])), (fl, .inl (cZ, 6, .inl (fun _ => 0))), (ou, .inl (cJ, 1, .inr (.inl (fun _ => 0))))] sz)) (vx_X (fun _ : Unit => True) (fun (E : String) (_ : Unit) (_ : State) => False) (va_A [(x, .inr (9, [.ref st, .ref kp, .int 0, .ref bf, .int 0, .int (-1), .int (-1), .int 0, .ref o1, .ref o2, .ref o3, .ref o4, .ref o5, .ref o6])), (st, .inr (8, [.ref lt, .ref tb, .ref fl, .ref wt, .int 0, .null])), (fl, .inl (cZ, 6, .inl (fun _ => 0))), (ou, .inl (cJ, 1, .inr (.inl (fun _ => 0))))] sz)) 1 6 (va_A [(x, .inr (9, [.ref st, .ref kp, .int 0, .ref bf, .int 0, .int (-1), .int (-1), .int 0, .ref o1, .ref o2, .ref o3, .ref o4, .ref o5, .ref o6])), (st, .inr (8, [.ref lt, .ref tb, .ref fl, .ref wt, .int 0, .null])), (fl, .inl (cZ, 6, .inl (fun _ => 0))), (ou, .inl (cJ, 1, .inr (.inl (fun _ => 0))))] sz) := by
  refine vx_ofWH (cc := cL_clear) (maxL := 4) (ret := (some .int)) (by decide) rfl ?_
  intro p e s m args below meth c s₁ B hml hv
  obtain ⟨rfl, hsz, hP, hK, hD0, hE, hV⟩ := hv
  have hx := B.exec
  have hb := B.bytes
  have hr := B.returns
  have hts := atoms_spec (ws := wk_L_clear) B.pre
  have hown : s.vm.findClass RL = some m.cls := findClass_of_methodNamed B.named
  have hlocks := B.notSynchronized
  have htab : c.exceptionTable.toList = tableOf [(0, 9, 12, 20)] := vx_table (x := yL_clear) B (hts _ List.mem_cons_self)
  have w_1 := hts (.classLink RL 20 iob) (List.mem_of_getElem? (i := 1) rfl)
  subst hsz
  have hD := hD0.self (sz := s.heap.size)
  generalize hAe : va_A [(x, .inr (9, [.ref st, .ref kp, .int 0, .ref bf, .int 0, .int (-1), .int (-1), .int 0, .ref o1, .ref o2, .ref o3, .ref o4, .ref o5, .ref o6])), (st, .inr (8, [.ref lt, .ref tb, .ref fl, .ref wt, .int 0, .null])), (fl, .inl (cZ, 6, .inl (fun _ => 0))), (ou, .inl (cJ, 1, .inr (.inl (fun _ => 0))))] s.heap.size = A at hD hE ⊢
  have hA : ∀ q : Nat, s.heap.size ≤ q → A q := fun q h => by rw [← hAe]; exact Or.inr h
  have hS : va_S A s.heap s.heap [] := va_S.rf
  have hP : va_P D vwCl [(x, .inr (9, [.ref st, .ref kp, .int 0, .ref bf, .int 0, .int (-1), .int (-1), .int 0, .ref o1, .ref o2, .ref o3, .ref o4, .ref o5, .ref o6])), (st, .inr (8, [.ref lt, .ref tb, .ref fl, .ref wt, .int 0, .null])), (fl, .inl (cZ, 6, .inl (fun _ => 0))), (ou, .inl (cJ, 1, .inr (.inl (fun _ => 0))))] s.heap := hP
  have hl := lv_entry ([.ref x, .int a0, .ref ou]) (n := 4) (Nat.le_of_ble_eq_true rfl)
  rw [lg_entry_eq]
  generalize (lg_sl ([.ref x, .int a0, .ref ou]) ++ List.replicate (4 - (lg_sl ([.ref x, .int a0, .ref ou])).length) Slot.unset).toArray = ls at hl ⊢
  have hl : lv_has ls 4 [(0, .ref x), (1, .int a0), (2, .ref ou)] := hl
  refine lv_aload_n hx hb dL_clear_0 rfl (lv_at hl 2 rfl) ?_
  refine lv_iconst (v := 0) hx hb dL_clear_1 (by decide) ?_
  refine lv_aload_n hx hb dL_clear_2 rfl (lv_at hl 0 rfl) ?_
  refine lv_iload_n hx hb dL_clear_3 rfl (lv_at hl 1 rfl) ?_
  have hPc := hP.sub (ws' := [(x, .inr (9, [.ref st, .ref kp, .int 0, .ref bf, .int 0, .int (-1), .int (-1), .int 0, .ref o1, .ref o2, .ref o3, .ref o4, .ref o5, .ref o6])), (st, .inr (8, [.ref lt, .ref tb, .ref fl, .ref wt, .int 0, .null])), (fl, .inl (cZ, 6, .inl (fun _ => 0)))]) [0, 1, 2] rfl
  have hDc := hD.sub (ws' := [(x, .inr (9, [.ref st, .ref kp, .int 0, .ref bf, .int 0, .int (-1), .int (-1), .int 0, .ref o1, .ref o2, .ref o3, .ref o4, .ref o5, .ref o6])), (st, .inr (8, [.ref lt, .ref tb, .ref fl, .ref wt, .int 0, .null])), (fl, .inl (cZ, 6, .inl (fun _ => 0)))]) [0, 1, 2] (by decide) rfl
  have hFc := va_free (wc := [(x, .inr (9, [.ref st, .ref kp, .int 0, .ref bf, .int 0, .int (-1), .int (-1), .int 0, .ref o1, .ref o2, .ref o3, .ref o4, .ref o5, .ref o6])), (st, .inr (8, [.ref lt, .ref tb, .ref fl, .ref wt, .int 0, .null])), (fl, .inl (cZ, 6, .inl (fun _ => 0)))]) hD hS hA [0, 1, 2] rfl
  refine vx_calli (vx_runV (As := [.int a0]) (rest := [.int 0, .ref ou]) ⟨hx, hb, hml, hown, hts⟩ (k_X10_clear l htr D cI cJ cZ x st kp bf o1 o2 o3 o4 o5 o6 lt tb fl wt a0 s.heap.size) (cwV 1 hts gk_L_clear_X10_clear rfl rfl rfl (by decide +kernel) ⟨Nat.le_of_ble_eq_true rfl, Nat.le_of_ble_eq_true rfl⟩) ⟨xPc_blind, va_recv hK hP (ci := 9) (q0 := 0) rfl rfl, xPc_pre hPc hK hDc hE hS hFc hV⟩ rfl rfl hl.1 rfl (lv_room (Nat.le_of_ble_eq_true rfl)) dL_clear_4 ⟨Nat.le_of_ble_eq_true rfl, Nat.le_of_ble_eq_true rfl⟩) hS (fun q _ h => hFc q h) hFc (fun q _ h => hFc q h) (fun E ce q9 u t H_1 locs ht hvm hpx hBX hz1 hk1 hS hq9 hcv hcl => ?_) (fun r u t H_1 locs ht hvm hw hB hz1 hk1 hS => ?_)
  · rcases hBX with ⟨rfl, e_0⟩ | ⟨rfl, e_0, e_1⟩
    · have c_2 : a0.toInt < 0 := e_0
      refine vx_catch hown (tableOf []) ⟨0, 9, 12, 20⟩ (tableOf []) (by rw [htab]; rfl) (xpass0) (by decide) (by decide) w_1 (va_Nw.use rfl hV.2.2.2.2.2.1.2.2) hq9 hcv hcl ?_
      have hP : va_P D vwCl [] H_1 := fun k q h => by simp at h
      have hD : va_D A [] := ⟨fun i j p q h => by simp at h, fun k q h => by simp at h⟩
      refine W.widen (k := 1) (n := 6) (Nat.le_of_ble_eq_true rfl) (Nat.le_of_ble_eq_true rfl) ?_
      refine lv_astore_n (lv' := [(3, .ref q9), (0, .ref x), (1, .int a0), (2, .ref ou)]) hx hb dL_clear_12 rfl hl (by decide) rfl (fun ls hl => ?_)
      refine lv_iconst (v := 1) hx hb dL_clear_13 (by decide) ?_
      have hP9 := hP.sub (ws' := []) [] rfl
      have hD9 := hD.sub (ws' := []) [] (by decide) rfl
      refine W.widen (k := 1) (n := 6) (Nat.le_of_ble_eq_true rfl) (Nat.le_of_ble_eq_true rfl) ?_
      exact vx_ret (W.iret (v := 1) hx hb hr (fun t ht hW => ⟨⟨1, 0, rfl, Or.inl ⟨rfl, rfl, c_2⟩, by rw [ht]; exact hP9, hD9⟩, hS.F ht⟩) hS.2.2 dL_clear_14)
    · have c_3 : 0 ≤ a0.toInt := e_0
      have c_4 : 6 ≤ a0.toInt := e_1
      refine vx_catch hown (tableOf []) ⟨0, 9, 12, 20⟩ (tableOf []) (by rw [htab]; rfl) (xpass0) (by decide) (by decide) w_1 (va_Nw.use rfl hV.2.2.2.2.2.1.2.2) hq9 hcv hcl ?_
      have hP : va_P D vwCl [] H_1 := fun k q h => by simp at h
      have hD : va_D A [] := ⟨fun i j p q h => by simp at h, fun k q h => by simp at h⟩
      refine W.widen (k := 1) (n := 6) (Nat.le_of_ble_eq_true rfl) (Nat.le_of_ble_eq_true rfl) ?_
      refine lv_astore_n (lv' := [(3, .ref q9), (0, .ref x), (1, .int a0), (2, .ref ou)]) hx hb dL_clear_12 rfl hl (by decide) rfl (fun ls hl => ?_)
      refine lv_iconst (v := 1) hx hb dL_clear_13 (by decide) ?_
      have hP9 := hP.sub (ws' := []) [] rfl
      have hD9 := hD.sub (ws' := []) [] (by decide) rfl
      refine W.widen (k := 1) (n := 6) (Nat.le_of_ble_eq_true rfl) (Nat.le_of_ble_eq_true rfl) ?_
      exact vx_ret (W.iret (v := 1) hx hb hr (fun t ht hW => ⟨⟨1, 0, rfl, Or.inr (Or.inl ⟨rfl, rfl, c_3, c_4⟩), by rw [ht]; exact hP9, hD9⟩, hS.F ht⟩) hS.2.2 dL_clear_14)
  · rcases hw with ⟨rfl, e_0, e_1, e_2⟩
    have c_5 : 0 ≤ a0.toInt := e_0
    have c_6 : a0.toInt < 6 := e_1
    have c_7 : (-1) ≠ a0.toInt := e_2
    obtain ⟨hP1, hD1⟩ := hB
    rw [ht] at hP1
    obtain ⟨hP, hD⟩ := va_join (wr := [(ou, .inl (cJ, 1, .inr (.inl (fun _ => 0))))]) (w1 := []) hP hD [0, 1, 2] [3] rfl rfl (by decide) (by decide) hk1 hFc hP1 hD1
    have hP : va_P D vwCl [(ou, .inl (cJ, 1, .inr (.inl (fun _ => 0))))] H_1 := hP
    have hD : va_D A [(ou, .inl (cJ, 1, .inr (.inl (fun _ => 0))))] := hD
    refine W.widen (k := 1) (n := 6) (Nat.le_of_ble_eq_true rfl) (Nat.le_of_ble_eq_true rfl) ?_
    refine lv_i2l (v := (-1)) hx hb dL_clear_7 (by decide) ?_
    refine va_last hx hb hK hP hD hS 0 1 rfl rfl (i := 0) (x := (-1)) (vp_in_iff.mpr ⟨by decide, by decide⟩) dL_clear_8 (fun H_8 locs hP hD hS => ?_)
    have hP : va_P D vwCl [(ou, .inl (cJ, 1, .inr (.inl (vp_updL (fun _ => 0) ((0 : Int32).toNatClampNeg) (-1)))))] H_8 := hP
    have hD : va_D A [(ou, .inl (cJ, 1, .inr (.inl (vp_updL (fun _ => 0) ((0 : Int32).toNatClampNeg) (-1)))))] := hD
    refine lv_goto (tgt := 15) hx hb dL_clear_9 (by decide) ?_
    refine lv_iconst (v := 0) hx hb dL_clear_15 (by decide) ?_
    have hP9 := hP.sub (ws' := [(ou, .inl (cJ, 1, .inr (.inl (vp_updL (fun _ => 0) ((0 : Int32).toNatClampNeg) (-1)))))]) [0] rfl
    have hD9 := hD.sub (ws' := [(ou, .inl (cJ, 1, .inr (.inl (vp_updL (fun _ => 0) ((0 : Int32).toNatClampNeg) (-1)))))]) [0] (by decide) rfl
    refine W.widen (k := 1) (n := 6) (Nat.le_of_ble_eq_true rfl) (Nat.le_of_ble_eq_true rfl) ?_
    exact vx_ret (W.iret (v := 0) hx hb hr (fun t ht hW => ⟨⟨0, 1, rfl, Or.inr (Or.inr ⟨rfl, rfl, c_5, c_6, c_7⟩), by rw [ht]; exact hP9, hD9⟩, hS.F ht⟩) hS.2.2 dL_clear_16)
def wk_L_union : List Cond := .codeWith yL_union cL_union 6 (some .int) [(0, 12, 15, 20), (0, 12, 19, 15)] :: (([.classLink RL 20 iob, .classLink RL 15 ise, .methodLink RL 54 yX10_union, .instanceMethod yX10_union, .selects RX10 yX10_union yX10_union, .initialized RX10, .code yX10_union cX10_union 7 (some .int), .methodLink RX10 213 yX10_checkSlots, .static yX10_checkSlots, .code yX10_checkSlots cX10_checkSlots 3 none, .methodLink RX10 138 yX10_checkSlot, .static yX10_checkSlot, .code yX10_checkSlot cX10_checkSlot 1 none, .classLink RX10 91 iob, .initialized iob, .methodLink RX10 153 yX10_tableIn, .instanceMethod yX10_tableIn, .selects RX10 yX10_tableIn yX10_tableIn, .code yX10_tableIn cX10_tableIn 2 (some (.object "DocumentSpanner$SortedInts")), .fieldLink RX10 12 "DocumentSpanner" "state" "LDocumentSpanner$State;", .fieldLink RX10 96 "DocumentSpanner$State" "filled" "[Z", .classLink RX10 80 ise, .initialized ise] : List Cond) ++ wsX100 ++ wsX80 ++ (vx_atS RX10 84 ise ["java/lang/RuntimeException", "java/lang/Exception"]).filter goodWord ++ (vx_atS RX10 95 iob ["java/lang/RuntimeException", "java/lang/Exception"]).filter goodWord)
set_option maxRecDepth 20000 in
theorem ggk_L_union_X10_union : GoodIn wk_L_union wk_X10_union := goodIn_ca (goodIn_ca (goodIn_ca (goodIn_ca (goodIn_r _ [7, 8, 9, 6, 10, 11, 12, 13, 14, 15, 16, 17, 18, 19, 20, 21, 22, 23] (by decide +kernel) (by decide +kernel)) (goodIn_sub (fun _ h => List.mem_cons_of_mem _ (List.mem_append_left _ (List.mem_append_left _ (List.mem_append_left _ (List.mem_append_right _ h))))) (by decide +kernel))) (goodIn_sub (fun _ h => List.mem_cons_of_mem _ (List.mem_append_left _ (List.mem_append_left _ (List.mem_append_right _ h)))) (by decide +kernel))) (goodIn_sub (fun _ h => List.mem_cons_of_mem _ (List.mem_append_left _ (List.mem_append_right _ h))) (by decide +kernel))) (goodIn_sub (fun _ h => List.mem_cons_of_mem _ (List.mem_append_right _ h)) (by decide +kernel))
set_option maxRecDepth 20000 in
theorem gk_L_union_X10_union : GoodIn wk_L_union (wsV RL 54 RX10 yX10_union wk_X10_union) := goodIn_app (goodIn_r _ [3, 4, 5, 6] (by decide +kernel) (by decide +kernel)) ggk_L_union_X10_union
set_option maxHeartbeats 4000000 in
set_option maxRecDepth 100000 in
theorem k_L_union (l : Launch) (htr : l.stackTraces = false) (D : va_G) (cI cJ cZ : ClassId) (x : Nat) (st : Nat) (kp : Nat) (bf : Nat) (o1 : Nat) (o2 : Nat) (o3 : Nat) (o4 : Nat) (o5 : Nat) (o6 : Nat) (lt : Nat) (tb : Nat) (fl : Nat) (wt : Nat) (ou : Nat) (a0 : Int32) (a1 : Int32) (a2 : Int32) (sz : Nat) : vx_Met l yL_union wk_L_union ({ frames := 9, cells := 5, slots := 30, locals := 150 }) (xPc D cI cJ cZ [.ref x, .int a0, .int a1, .int a2, .ref ou] [(x, .inr (9, [.ref st, .ref kp, .int 0, .ref bf, .int 0, .int (-1), .int (-1), .int 0, .ref o1, .ref o2, .ref o3, .ref o4, .ref o5, .ref o6])), (st, .inr (8, [.ref lt, .ref tb, .ref fl, .ref wt, .int 0, .null])), (fl, .inl (cZ, 6, .inl (fun _ => 0))), (ou, .inl (cJ, 1, .inr (.inl (fun _ => 0))))] sz) (va_Qi (fun (r : Int32) (u : Unit) => (r = 1 ∧ a0.toInt < 0) ∨ (r = 1 ∧ 0 ≤ a0.toInt ∧ 6 ≤ a0.toInt) ∨ (r = 1 ∧ 0 ≤ a0.toInt ∧ a0.toInt < 6 ∧ a1.toInt < 0) ∨ (r = 1 ∧ 0 ≤ a0.toInt ∧ a0.toInt < 6 ∧ 0 ≤ a1.toInt ∧ 6 ≤ a1.toInt) ∨ (r = 1 ∧ 0 ≤ a0.toInt ∧ a0.toInt < 6 ∧ 0 ≤ a1.toInt ∧ a1.toInt < 6 ∧ a2.toInt < 0) ∨ (r = 1 ∧ 0 ≤ a0.toInt ∧ a0.toInt < 6 ∧ 0 ≤ a1.toInt ∧ a1.toInt < 6 ∧ 0 ≤ a2.toInt ∧ 6 ≤ a2.toInt) ∨ (r = 2 ∧ 0 ≤ a0.toInt ∧ a0.toInt < 6 ∧ 0 ≤ a1.toInt ∧ a1.toInt < 6 ∧ 0 ≤ a2.toInt ∧ a2.toInt < 6 ∧ 0 ≤ a0.toInt ∧ a0.toInt < 6)) (fun (u : Unit) (t : State) => va_P D vwCl ([] : va_W) t.heap ∧ va_D (va_A [(x, .inr (9, [.ref st, .ref kp, .int 0, .ref bf, .int 0, .int (-1), .int (-1), .int 0, .ref o1, .ref o2, .ref o3, .ref o4, .ref o5, .ref o6])), (st, .inr (8, [.ref lt, .ref tb, .ref fl, .ref wt, .int 0, .null])), (fl, .inl (cZ, 6, .inl (fun _ => 0))), (ou, .inl (cJ, 1, .inr (.inl (fun _ => 0))))] sz) ([] : va_W)) (va_A [(x, .inr (9, [.ref st, .ref kp, .int 0, .ref bf, .int 0, .int (-1), .int (-1), .int 0, .ref o1, .ref o2, .ref o3, .ref o4, .ref o5, .ref o6])), (st, .inr (8, [.ref lt, .ref tb, .ref fl, .ref wt, .int 0, .null])), (fl, .inl (cZ, 6, .inl (fun _ => 0))), (ou, .inl (cJ, 1, .inr (.inl (fun _ => 0))))] sz)) (vx_X (fun _ : Unit => True) (fun (E : String) (_ : Unit) (_ : State) => False) (va_A [(x, .inr (9, [.ref st, .ref kp, .int 0, .ref bf, .int 0, .int (-1), .int (-1), .int 0, .ref o1, .ref o2, .ref o3, .ref o4, .ref o5, .ref o6])), (st, .inr (8, [.ref lt, .ref tb, .ref fl, .ref wt, .int 0, .null])), (fl, .inl (cZ, 6, .inl (fun _ => 0))), (ou, .inl (cJ, 1, .inr (.inl (fun _ => 0))))] sz)) 5 30 (va_A [(x, .inr (9, [.ref st, .ref kp, .int 0, .ref bf, .int 0, .int (-1), .int (-1), .int 0, .ref o1, .ref o2, .ref o3, .ref o4, .ref o5, .ref o6])), (st, .inr (8, [.ref lt, .ref tb, .ref fl, .ref wt, .int 0, .null])), (fl, .inl (cZ, 6, .inl (fun _ => 0))), (ou, .inl (cJ, 1, .inr (.inl (fun _ => 0))))] sz) := by
  refine vx_ofWH (cc := cL_union) (maxL := 6) (ret := (some .int)) (by decide) rfl ?_
  intro p e s m args below meth c s₁ B hml hv
  obtain ⟨rfl, hsz, hP, hK, hD0, hE, hV⟩ := hv
  have hx := B.exec
  have hb := B.bytes
  have hr := B.returns
  have hts := atoms_spec (ws := wk_L_union) B.pre
  have hown : s.vm.findClass RL = some m.cls := findClass_of_methodNamed B.named
  have hlocks := B.notSynchronized
  have htab : c.exceptionTable.toList = tableOf [(0, 12, 15, 20), (0, 12, 19, 15)] := vx_table (x := yL_union) B (hts _ List.mem_cons_self)
  have w_1 := hts (.classLink RL 20 iob) (List.mem_of_getElem? (i := 1) rfl)
  have w_2 := hts (.classLink RL 15 ise) (List.mem_of_getElem? (i := 2) rfl)
  subst hsz
  have hD := hD0.self (sz := s.heap.size)
  generalize hAe : va_A [(x, .inr (9, [.ref st, .ref kp, .int 0, .ref bf, .int 0, .int (-1), .int (-1), .int 0, .ref o1, .ref o2, .ref o3, .ref o4, .ref o5, .ref o6])), (st, .inr (8, [.ref lt, .ref tb, .ref fl, .ref wt, .int 0, .null])), (fl, .inl (cZ, 6, .inl (fun _ => 0))), (ou, .inl (cJ, 1, .inr (.inl (fun _ => 0))))] s.heap.size = A at hD hE ⊢
  have hA : ∀ q : Nat, s.heap.size ≤ q → A q := fun q h => by rw [← hAe]; exact Or.inr h
  have hS : va_S A s.heap s.heap [] := va_S.rf
  have hP : va_P D vwCl [(x, .inr (9, [.ref st, .ref kp, .int 0, .ref bf, .int 0, .int (-1), .int (-1), .int 0, .ref o1, .ref o2, .ref o3, .ref o4, .ref o5, .ref o6])), (st, .inr (8, [.ref lt, .ref tb, .ref fl, .ref wt, .int 0, .null])), (fl, .inl (cZ, 6, .inl (fun _ => 0))), (ou, .inl (cJ, 1, .inr (.inl (fun _ => 0))))] s.heap := hP
  have hl := lv_entry ([.ref x, .int a0, .int a1, .int a2, .ref ou]) (n := 6) (Nat.le_of_ble_eq_true rfl)
  rw [lg_entry_eq]
  generalize (lg_sl ([.ref x, .int a0, .int a1, .int a2, .ref ou]) ++ List.replicate (6 - (lg_sl ([.ref x, .int a0, .int a1, .int a2, .ref ou])).length) Slot.unset).toArray = ls at hl ⊢
  have hl : lv_has ls 6 [(0, .ref x), (1, .int a0), (2, .int a1), (3, .int a2), (4, .ref ou)] := hl
  refine lv_aload hx hb dL_union_0 (lv_at hl 4 rfl) ?_
  refine lv_iconst (v := 0) hx hb dL_union_2 (by decide) ?_
  refine lv_aload_n hx hb dL_union_3 rfl (lv_at hl 0 rfl) ?_
  refine lv_iload_n hx hb dL_union_4 rfl (lv_at hl 1 rfl) ?_
  refine lv_iload_n hx hb dL_union_5 rfl (lv_at hl 2 rfl) ?_
  refine lv_iload_n hx hb dL_union_6 rfl (lv_at hl 3 rfl) ?_
  have hPc := hP.sub (ws' := [(x, .inr (9, [.ref st, .ref kp, .int 0, .ref bf, .int 0, .int (-1), .int (-1), .int 0, .ref o1, .ref o2, .ref o3, .ref o4, .ref o5, .ref o6])), (st, .inr (8, [.ref lt, .ref tb, .ref fl, .ref wt, .int 0, .null])), (fl, .inl (cZ, 6, .inl (fun _ => 0)))]) [0, 1, 2] rfl
  have hDc := hD.sub (ws' := [(x, .inr (9, [.ref st, .ref kp, .int 0, .ref bf, .int 0, .int (-1), .int (-1), .int 0, .ref o1, .ref o2, .ref o3, .ref o4, .ref o5, .ref o6])), (st, .inr (8, [.ref lt, .ref tb, .ref fl, .ref wt, .int 0, .null])), (fl, .inl (cZ, 6, .inl (fun _ => 0)))]) [0, 1, 2] (by decide) rfl
  have hFc := va_free (wc := [(x, .inr (9, [.ref st, .ref kp, .int 0, .ref bf, .int 0, .int (-1), .int (-1), .int 0, .ref o1, .ref o2, .ref o3, .ref o4, .ref o5, .ref o6])), (st, .inr (8, [.ref lt, .ref tb, .ref fl, .ref wt, .int 0, .null])), (fl, .inl (cZ, 6, .inl (fun _ => 0)))]) hD hS hA [0, 1, 2] rfl
  refine vx_calli (vx_runV (As := [.int a0, .int a1, .int a2]) (rest := [.int 0, .ref ou]) ⟨hx, hb, hml, hown, hts⟩ (k_X10_union l htr D cI cJ cZ x st kp bf o1 o2 o3 o4 o5 o6 lt tb fl wt a0 a1 a2 s.heap.size) (cwV 3 hts gk_L_union_X10_union rfl rfl rfl (by decide +kernel) ⟨Nat.le_of_ble_eq_true rfl, Nat.le_of_ble_eq_true rfl⟩) ⟨xPc_blind, va_recv hK hP (ci := 9) (q0 := 0) rfl rfl, xPc_pre hPc hK hDc hE hS hFc hV⟩ rfl rfl hl.1 rfl (lv_room (Nat.le_of_ble_eq_true rfl)) dL_union_7 ⟨Nat.le_of_ble_eq_true rfl, Nat.le_of_ble_eq_true rfl⟩) hS (fun q _ h => hFc q h) hFc (fun q _ h => hFc q h) (fun E ce q9 u t H_1 locs ht hvm hpx hBX hz1 hk1 hS hq9 hcv hcl => ?_) (fun r u t H_1 locs ht hvm hw hB hz1 hk1 hS => ?_)
  · rcases hBX with ⟨rfl, e_0⟩ | ⟨rfl, e_0, e_1⟩ | ⟨rfl, e_0, e_1, e_2⟩ | ⟨rfl, e_0, e_1, e_2, e_3⟩ | ⟨rfl, e_0, e_1, e_2, e_3, e_4⟩ | ⟨rfl, e_0, e_1, e_2, e_3, e_4, e_5⟩ | ⟨rfl, e_0, e_1, e_2, e_3, e_4, e_5, e_6, e_7⟩
    · have c_2 : a0.toInt < 0 := e_0
      refine vx_catch hown (tableOf []) ⟨0, 12, 15, 20⟩ (tableOf [(0, 12, 19, 15)]) (by rw [htab]; rfl) (xpass0) (by decide) (by decide) w_1 (va_Nw.use rfl hV.2.2.2.2.2.1.2.2) hq9 hcv hcl ?_
      have hP : va_P D vwCl [] H_1 := fun k q h => by simp at h
      have hD : va_D A [] := ⟨fun i j p q h => by simp at h, fun k q h => by simp at h⟩
      refine W.widen (k := 5) (n := 30) (Nat.le_of_ble_eq_true rfl) (Nat.le_of_ble_eq_true rfl) ?_
      refine lv_astore (lv' := [(5, .ref q9), (0, .ref x), (1, .int a0), (2, .int a1), (3, .int a2), (4, .ref ou)]) hx hb dL_union_15 hl (by decide) rfl (fun ls hl => ?_)
      refine lv_iconst (v := 1) hx hb dL_union_17 (by decide) ?_
      have hP9 := hP.sub (ws' := []) [] rfl
      have hD9 := hD.sub (ws' := []) [] (by decide) rfl
      refine W.widen (k := 5) (n := 30) (Nat.le_of_ble_eq_true rfl) (Nat.le_of_ble_eq_true rfl) ?_
      exact vx_ret (W.iret (v := 1) hx hb hr (fun t ht hW => ⟨⟨1, (), rfl, Or.inl ⟨rfl, c_2⟩, by rw [ht]; exact hP9, hD9⟩, hS.F ht⟩) hS.2.2 dL_union_18)
    · have c_3 : 0 ≤ a0.toInt := e_0
      have c_4 : 6 ≤ a0.toInt := e_1
      refine vx_catch hown (tableOf []) ⟨0, 12, 15, 20⟩ (tableOf [(0, 12, 19, 15)]) (by rw [htab]; rfl) (xpass0) (by decide) (by decide) w_1 (va_Nw.use rfl hV.2.2.2.2.2.1.2.2) hq9 hcv hcl ?_
      have hP : va_P D vwCl [] H_1 := fun k q h => by simp at h
      have hD : va_D A [] := ⟨fun i j p q h => by simp at h, fun k q h => by simp at h⟩
      refine W.widen (k := 5) (n := 30) (Nat.le_of_ble_eq_true rfl) (Nat.le_of_ble_eq_true rfl) ?_
      refine lv_astore (lv' := [(5, .ref q9), (0, .ref x), (1, .int a0), (2, .int a1), (3, .int a2), (4, .ref ou)]) hx hb dL_union_15 hl (by decide) rfl (fun ls hl => ?_)
      refine lv_iconst (v := 1) hx hb dL_union_17 (by decide) ?_
      have hP9 := hP.sub (ws' := []) [] rfl
      have hD9 := hD.sub (ws' := []) [] (by decide) rfl
      refine W.widen (k := 5) (n := 30) (Nat.le_of_ble_eq_true rfl) (Nat.le_of_ble_eq_true rfl) ?_
      exact vx_ret (W.iret (v := 1) hx hb hr (fun t ht hW => ⟨⟨1, (), rfl, Or.inr (Or.inl ⟨rfl, c_3, c_4⟩), by rw [ht]; exact hP9, hD9⟩, hS.F ht⟩) hS.2.2 dL_union_18)
    · have c_5 : 0 ≤ a0.toInt := e_0
      have c_6 : a0.toInt < 6 := e_1
      have c_7 : a1.toInt < 0 := e_2
      refine vx_catch hown (tableOf []) ⟨0, 12, 15, 20⟩ (tableOf [(0, 12, 19, 15)]) (by rw [htab]; rfl) (xpass0) (by decide) (by decide) w_1 (va_Nw.use rfl hV.2.2.2.2.2.1.2.2) hq9 hcv hcl ?_
      have hP : va_P D vwCl [] H_1 := fun k q h => by simp at h
      have hD : va_D A [] := ⟨fun i j p q h => by simp at h, fun k q h => by simp at h⟩
      refine W.widen (k := 5) (n := 30) (Nat.le_of_ble_eq_true rfl) (Nat.le_of_ble_eq_true rfl) ?_
      refine lv_astore (lv' := [(5, .ref q9), (0, .ref x), (1, .int a0), (2, .int a1), (3, .int a2), (4, .ref ou)]) hx hb dL_union_15 hl (by decide) rfl (fun ls hl => ?_)
      refine lv_iconst (v := 1) hx hb dL_union_17 (by decide) ?_
      have hP9 := hP.sub (ws' := []) [] rfl
      have hD9 := hD.sub (ws' := []) [] (by decide) rfl
      refine W.widen (k := 5) (n := 30) (Nat.le_of_ble_eq_true rfl) (Nat.le_of_ble_eq_true rfl) ?_
      exact vx_ret (W.iret (v := 1) hx hb hr (fun t ht hW => ⟨⟨1, (), rfl, Or.inr (Or.inr (Or.inl ⟨rfl, c_5, c_6, c_7⟩)), by rw [ht]; exact hP9, hD9⟩, hS.F ht⟩) hS.2.2 dL_union_18)
    · have c_8 : 0 ≤ a0.toInt := e_0
      have c_9 : a0.toInt < 6 := e_1
      have c_10 : 0 ≤ a1.toInt := e_2
      have c_11 : 6 ≤ a1.toInt := e_3
      refine vx_catch hown (tableOf []) ⟨0, 12, 15, 20⟩ (tableOf [(0, 12, 19, 15)]) (by rw [htab]; rfl) (xpass0) (by decide) (by decide) w_1 (va_Nw.use rfl hV.2.2.2.2.2.1.2.2) hq9 hcv hcl ?_
      have hP : va_P D vwCl [] H_1 := fun k q h => by simp at h
      have hD : va_D A [] := ⟨fun i j p q h => by simp at h, fun k q h => by simp at h⟩
      refine W.widen (k := 5) (n := 30) (Nat.le_of_ble_eq_true rfl) (Nat.le_of_ble_eq_true rfl) ?_
      refine lv_astore (lv' := [(5, .ref q9), (0, .ref x), (1, .int a0), (2, .int a1), (3, .int a2), (4, .ref ou)]) hx hb dL_union_15 hl (by decide) rfl (fun ls hl => ?_)
      refine lv_iconst (v := 1) hx hb dL_union_17 (by decide) ?_
      have hP9 := hP.sub (ws' := []) [] rfl
      have hD9 := hD.sub (ws' := []) [] (by decide) rfl
      refine W.widen (k := 5) (n := 30) (Nat.le_of_ble_eq_true rfl) (Nat.le_of_ble_eq_true rfl) ?_
      exact vx_ret (W.iret (v := 1) hx hb hr (fun t ht hW => ⟨⟨1, (), rfl, Or.inr (Or.inr (Or.inr (Or.inl ⟨rfl, c_8, c_9, c_10, c_11⟩))), by rw [ht]; exact hP9, hD9⟩, hS.F ht⟩) hS.2.2 dL_union_18)
    · have c_12 : 0 ≤ a0.toInt := e_0
      have c_13 : a0.toInt < 6 := e_1
      have c_14 : 0 ≤ a1.toInt := e_2
      have c_15 : a1.toInt < 6 := e_3
      have c_16 : a2.toInt < 0 := e_4
      refine vx_catch hown (tableOf []) ⟨0, 12, 15, 20⟩ (tableOf [(0, 12, 19, 15)]) (by rw [htab]; rfl) (xpass0) (by decide) (by decide) w_1 (va_Nw.use rfl hV.2.2.2.2.2.1.2.2) hq9 hcv hcl ?_
      have hP : va_P D vwCl [] H_1 := fun k q h => by simp at h
      have hD : va_D A [] := ⟨fun i j p q h => by simp at h, fun k q h => by simp at h⟩
      refine W.widen (k := 5) (n := 30) (Nat.le_of_ble_eq_true rfl) (Nat.le_of_ble_eq_true rfl) ?_
      refine lv_astore (lv' := [(5, .ref q9), (0, .ref x), (1, .int a0), (2, .int a1), (3, .int a2), (4, .ref ou)]) hx hb dL_union_15 hl (by decide) rfl (fun ls hl => ?_)
      refine lv_iconst (v := 1) hx hb dL_union_17 (by decide) ?_
      have hP9 := hP.sub (ws' := []) [] rfl
      have hD9 := hD.sub (ws' := []) [] (by decide) rfl
      refine W.widen (k := 5) (n := 30) (Nat.le_of_ble_eq_true rfl) (Nat.le_of_ble_eq_true rfl) ?_
      exact vx_ret (W.iret (v := 1) hx hb hr (fun t ht hW => ⟨⟨1, (), rfl, Or.inr (Or.inr (Or.inr (Or.inr (Or.inl ⟨rfl, c_12, c_13, c_14, c_15, c_16⟩)))), by rw [ht]; exact hP9, hD9⟩, hS.F ht⟩) hS.2.2 dL_union_18)
    · have c_17 : 0 ≤ a0.toInt := e_0
      have c_18 : a0.toInt < 6 := e_1
      have c_19 : 0 ≤ a1.toInt := e_2
      have c_20 : a1.toInt < 6 := e_3
      have c_21 : 0 ≤ a2.toInt := e_4
      have c_22 : 6 ≤ a2.toInt := e_5
      refine vx_catch hown (tableOf []) ⟨0, 12, 15, 20⟩ (tableOf [(0, 12, 19, 15)]) (by rw [htab]; rfl) (xpass0) (by decide) (by decide) w_1 (va_Nw.use rfl hV.2.2.2.2.2.1.2.2) hq9 hcv hcl ?_
      have hP : va_P D vwCl [] H_1 := fun k q h => by simp at h
      have hD : va_D A [] := ⟨fun i j p q h => by simp at h, fun k q h => by simp at h⟩
      refine W.widen (k := 5) (n := 30) (Nat.le_of_ble_eq_true rfl) (Nat.le_of_ble_eq_true rfl) ?_
      refine lv_astore (lv' := [(5, .ref q9), (0, .ref x), (1, .int a0), (2, .int a1), (3, .int a2), (4, .ref ou)]) hx hb dL_union_15 hl (by decide) rfl (fun ls hl => ?_)
      refine lv_iconst (v := 1) hx hb dL_union_17 (by decide) ?_
      have hP9 := hP.sub (ws' := []) [] rfl
      have hD9 := hD.sub (ws' := []) [] (by decide) rfl
      refine W.widen (k := 5) (n := 30) (Nat.le_of_ble_eq_true rfl) (Nat.le_of_ble_eq_true rfl) ?_
      exact vx_ret (W.iret (v := 1) hx hb hr (fun t ht hW => ⟨⟨1, (), rfl, Or.inr (Or.inr (Or.inr (Or.inr (Or.inr (Or.inl ⟨rfl, c_17, c_18, c_19, c_20, c_21, c_22⟩))))), by rw [ht]; exact hP9, hD9⟩, hS.F ht⟩) hS.2.2 dL_union_18)
    · have c_23 : 0 ≤ a0.toInt := e_0
      have c_24 : a0.toInt < 6 := e_1
      have c_25 : 0 ≤ a1.toInt := e_2
      have c_26 : a1.toInt < 6 := e_3
      have c_27 : 0 ≤ a2.toInt := e_4
      have c_28 : a2.toInt < 6 := e_5
      have c_29 : 0 ≤ a0.toInt := e_6
      have c_30 : a0.toInt < 6 := e_7
      refine vx_catch hown (tableOf [(0, 12, 15, 20)]) ⟨0, 12, 19, 15⟩ (tableOf []) (by rw [htab]; rfl) (xpass1 (Or.inr ⟨by decide, iob, w_1, hV.2.2.2.2.2.2.1.1⟩)) (by decide) (by decide) w_2 (va_Nw.use rfl hV.2.2.2.2.2.1.2.1) hq9 hcv hcl ?_
      have hP : va_P D vwCl [] H_1 := fun k q h => by simp at h
      have hD : va_D A [] := ⟨fun i j p q h => by simp at h, fun k q h => by simp at h⟩
      refine W.widen (k := 5) (n := 30) (Nat.le_of_ble_eq_true rfl) (Nat.le_of_ble_eq_true rfl) ?_
      refine lv_astore (lv' := [(5, .ref q9), (0, .ref x), (1, .int a0), (2, .int a1), (3, .int a2), (4, .ref ou)]) hx hb dL_union_19 hl (by decide) rfl (fun ls hl => ?_)
      refine lv_iconst (v := 2) hx hb dL_union_21 (by decide) ?_
      have hP9 := hP.sub (ws' := []) [] rfl
      have hD9 := hD.sub (ws' := []) [] (by decide) rfl
      refine W.widen (k := 5) (n := 30) (Nat.le_of_ble_eq_true rfl) (Nat.le_of_ble_eq_true rfl) ?_
      exact vx_ret (W.iret (v := 2) hx hb hr (fun t ht hW => ⟨⟨2, (), rfl, Or.inr (Or.inr (Or.inr (Or.inr (Or.inr (Or.inr ⟨rfl, c_23, c_24, c_25, c_26, c_27, c_28, c_29, c_30⟩))))), by rw [ht]; exact hP9, hD9⟩, hS.F ht⟩) hS.2.2 dL_union_22)
  · exact hw.elim
def wk_L_join : List Cond := .codeWith yL_join cL_join 6 (some .int) [(0, 12, 15, 20), (0, 12, 19, 15)] :: (([.classLink RL 20 iob, .classLink RL 15 ise, .methodLink RL 57 yX10_join, .instanceMethod yX10_join, .selects RX10 yX10_join yX10_join, .initialized RX10, .code yX10_join cX10_join 7 (some .int), .methodLink RX10 213 yX10_checkSlots, .static yX10_checkSlots, .code yX10_checkSlots cX10_checkSlots 3 none, .methodLink RX10 138 yX10_checkSlot, .static yX10_checkSlot, .code yX10_checkSlot cX10_checkSlot 1 none, .classLink RX10 91 iob, .initialized iob, .methodLink RX10 153 yX10_tableIn, .instanceMethod yX10_tableIn, .selects RX10 yX10_tableIn yX10_tableIn, .code yX10_tableIn cX10_tableIn 2 (some (.object "DocumentSpanner$SortedInts")), .fieldLink RX10 12 "DocumentSpanner" "state" "LDocumentSpanner$State;", .fieldLink RX10 96 "DocumentSpanner$State" "filled" "[Z", .classLink RX10 80 ise, .initialized ise] : List Cond) ++ wsX100 ++ wsX80 ++ (vx_atS RX10 84 ise ["java/lang/RuntimeException", "java/lang/Exception"]).filter goodWord ++ (vx_atS RX10 95 iob ["java/lang/RuntimeException", "java/lang/Exception"]).filter goodWord)
set_option maxRecDepth 20000 in
theorem ggk_L_join_X10_join : GoodIn wk_L_join wk_X10_join := goodIn_ca (goodIn_ca (goodIn_ca (goodIn_ca (goodIn_r _ [7, 8, 9, 6, 10, 11, 12, 13, 14, 15, 16, 17, 18, 19, 20, 21, 22, 23] (by decide +kernel) (by decide +kernel)) (goodIn_sub (fun _ h => List.mem_cons_of_mem _ (List.mem_append_left _ (List.mem_append_left _ (List.mem_append_left _ (List.mem_append_right _ h))))) (by decide +kernel))) (goodIn_sub (fun _ h => List.mem_cons_of_mem _ (List.mem_append_left _ (List.mem_append_left _ (List.mem_append_right _ h)))) (by decide +kernel))) (goodIn_sub (fun _ h => List.mem_cons_of_mem _ (List.mem_append_left _ (List.mem_append_right _ h))) (by decide +kernel))) (goodIn_sub (fun _ h => List.mem_cons_of_mem _ (List.mem_append_right _ h)) (by decide +kernel))
set_option maxRecDepth 20000 in
theorem gk_L_join_X10_join : GoodIn wk_L_join (wsV RL 57 RX10 yX10_join wk_X10_join) := goodIn_app (goodIn_r _ [3, 4, 5, 6] (by decide +kernel) (by decide +kernel)) ggk_L_join_X10_join
set_option maxHeartbeats 4000000 in
set_option maxRecDepth 100000 in
theorem k_L_join (l : Launch) (htr : l.stackTraces = false) (D : va_G) (cI cJ cZ : ClassId) (x : Nat) (st : Nat) (kp : Nat) (bf : Nat) (o1 : Nat) (o2 : Nat) (o3 : Nat) (o4 : Nat) (o5 : Nat) (o6 : Nat) (lt : Nat) (tb : Nat) (fl : Nat) (wt : Nat) (ou : Nat) (a0 : Int32) (a1 : Int32) (a2 : Int32) (sz : Nat) : vx_Met l yL_join wk_L_join ({ frames := 9, cells := 5, slots := 30, locals := 150 }) (xPc D cI cJ cZ [.ref x, .int a0, .int a1, .int a2, .ref ou] [(x, .inr (9, [.ref st, .ref kp, .int 0, .ref bf, .int 0, .int (-1), .int (-1), .int 0, .ref o1, .ref o2, .ref o3, .ref o4, .ref o5, .ref o6])), (st, .inr (8, [.ref lt, .ref tb, .ref fl, .ref wt, .int 0, .null])), (fl, .inl (cZ, 6, .inl (fun _ => 0))), (ou, .inl (cJ, 1, .inr (.inl (fun _ => 0))))] sz) (va_Qi (fun (r : Int32) (u : Unit) => (r = 1 ∧ a0.toInt < 0) ∨ (r = 1 ∧ 0 ≤ a0.toInt ∧ 6 ≤ a0.toInt) ∨ (r = 1 ∧ 0 ≤ a0.toInt ∧ a0.toInt < 6 ∧ a1.toInt < 0) ∨ (r = 1 ∧ 0 ≤ a0.toInt ∧ a0.toInt < 6 ∧ 0 ≤ a1.toInt ∧ 6 ≤ a1.toInt) ∨ (r = 1 ∧ 0 ≤ a0.toInt ∧ a0.toInt < 6 ∧ 0 ≤ a1.toInt ∧ a1.toInt < 6 ∧ a2.toInt < 0) ∨ (r = 1 ∧ 0 ≤ a0.toInt ∧ a0.toInt < 6 ∧ 0 ≤ a1.toInt ∧ a1.toInt < 6 ∧ 0 ≤ a2.toInt ∧ 6 ≤ a2.toInt) ∨ (r = 2 ∧ 0 ≤ a0.toInt ∧ a0.toInt < 6 ∧ 0 ≤ a1.toInt ∧ a1.toInt < 6 ∧ 0 ≤ a2.toInt ∧ a2.toInt < 6 ∧ 0 ≤ a0.toInt ∧ a0.toInt < 6)) (fun (u : Unit) (t : State) => va_P D vwCl ([] : va_W) t.heap ∧ va_D (va_A [(x, .inr (9, [.ref st, .ref kp, .int 0, .ref bf, .int 0, .int (-1), .int (-1), .int 0, .ref o1, .ref o2, .ref o3, .ref o4, .ref o5, .ref o6])), (st, .inr (8, [.ref lt, .ref tb, .ref fl, .ref wt, .int 0, .null])), (fl, .inl (cZ, 6, .inl (fun _ => 0))), (ou, .inl (cJ, 1, .inr (.inl (fun _ => 0))))] sz) ([] : va_W)) (va_A [(x, .inr (9, [.ref st, .ref kp, .int 0, .ref bf, .int 0, .int (-1), .int (-1), .int 0, .ref o1, .ref o2, .ref o3, .ref o4, .ref o5, .ref o6])), (st, .inr (8, [.ref lt, .ref tb, .ref fl, .ref wt, .int 0, .null])), (fl, .inl (cZ, 6, .inl (fun _ => 0))), (ou, .inl (cJ, 1, .inr (.inl (fun _ => 0))))] sz)) (vx_X (fun _ : Unit => True) (fun (E : String) (_ : Unit) (_ : State) => False) (va_A [(x, .inr (9, [.ref st, .ref kp, .int 0, .ref bf, .int 0, .int (-1), .int (-1), .int 0, .ref o1, .ref o2, .ref o3, .ref o4, .ref o5, .ref o6])), (st, .inr (8, [.ref lt, .ref tb, .ref fl, .ref wt, .int 0, .null])), (fl, .inl (cZ, 6, .inl (fun _ => 0))), (ou, .inl (cJ, 1, .inr (.inl (fun _ => 0))))] sz)) 5 30 (va_A [(x, .inr (9, [.ref st, .ref kp, .int 0, .ref bf, .int 0, .int (-1), .int (-1), .int 0, .ref o1, .ref o2, .ref o3, .ref o4, .ref o5, .ref o6])), (st, .inr (8, [.ref lt, .ref tb, .ref fl, .ref wt, .int 0, .null])), (fl, .inl (cZ, 6, .inl (fun _ => 0))), (ou, .inl (cJ, 1, .inr (.inl (fun _ => 0))))] sz) := by
  refine vx_ofWH (cc := cL_join) (maxL := 6) (ret := (some .int)) (by decide) rfl ?_
  intro p e s m args below meth c s₁ B hml hv
  obtain ⟨rfl, hsz, hP, hK, hD0, hE, hV⟩ := hv
  have hx := B.exec
  have hb := B.bytes
  have hr := B.returns
  have hts := atoms_spec (ws := wk_L_join) B.pre
  have hown : s.vm.findClass RL = some m.cls := findClass_of_methodNamed B.named
  have hlocks := B.notSynchronized
  have htab : c.exceptionTable.toList = tableOf [(0, 12, 15, 20), (0, 12, 19, 15)] := vx_table (x := yL_join) B (hts _ List.mem_cons_self)
  have w_1 := hts (.classLink RL 20 iob) (List.mem_of_getElem? (i := 1) rfl)
  have w_2 := hts (.classLink RL 15 ise) (List.mem_of_getElem? (i := 2) rfl)
  subst hsz
  have hD := hD0.self (sz := s.heap.size)
  generalize hAe : va_A [(x, .inr (9, [.ref st, .ref kp, .int 0, .ref bf, .int 0, .int (-1), .int (-1), .int 0, .ref o1, .ref o2, .ref o3, .ref o4, .ref o5, .ref o6])), (st, .inr (8, [.ref lt, .ref tb, .ref fl, .ref wt, .int 0, .null])), (fl, .inl (cZ, 6, .inl (fun _ => 0))), (ou, .inl (cJ, 1, .inr (.inl (fun _ => 0))))] s.heap.size = A at hD hE ⊢
  have hA : ∀ q : Nat, s.heap.size ≤ q → A q := fun q h => by rw [← hAe]; exact Or.inr h
  have hS : va_S A s.heap s.heap [] := va_S.rf
  have hP : va_P D vwCl [(x, .inr (9, [.ref st, .ref kp, .int 0, .ref bf, .int 0, .int (-1), .int (-1), .int 0, .ref o1, .ref o2, .ref o3, .ref o4, .ref o5, .ref o6])), (st, .inr (8, [.ref lt, .ref tb, .ref fl, .ref wt, .int 0, .null])), (fl, .inl (cZ, 6, .inl (fun _ => 0))), (ou, .inl (cJ, 1, .inr (.inl (fun _ => 0))))] s.heap := hP
  have hl := lv_entry ([.ref x, .int a0, .int a1, .int a2, .ref ou]) (n := 6) (Nat.le_of_ble_eq_true rfl)
  rw [lg_entry_eq]
  generalize (lg_sl ([.ref x, .int a0, .int a1, .int a2, .ref ou]) ++ List.replicate (6 - (lg_sl ([.ref x, .int a0, .int a1, .int a2, .ref ou])).length) Slot.unset).toArray = ls at hl ⊢
  have hl : lv_has ls 6 [(0, .ref x), (1, .int a0), (2, .int a1), (3, .int a2), (4, .ref ou)] := hl
  refine lv_aload hx hb dL_join_0 (lv_at hl 4 rfl) ?_
  refine lv_iconst (v := 0) hx hb dL_join_2 (by decide) ?_
  refine lv_aload_n hx hb dL_join_3 rfl (lv_at hl 0 rfl) ?_
  refine lv_iload_n hx hb dL_join_4 rfl (lv_at hl 1 rfl) ?_
  refine lv_iload_n hx hb dL_join_5 rfl (lv_at hl 2 rfl) ?_
  refine lv_iload_n hx hb dL_join_6 rfl (lv_at hl 3 rfl) ?_
  have hPc := hP.sub (ws' := [(x, .inr (9, [.ref st, .ref kp, .int 0, .ref bf, .int 0, .int (-1), .int (-1), .int 0, .ref o1, .ref o2, .ref o3, .ref o4, .ref o5, .ref o6])), (st, .inr (8, [.ref lt, .ref tb, .ref fl, .ref wt, .int 0, .null])), (fl, .inl (cZ, 6, .inl (fun _ => 0)))]) [0, 1, 2] rfl
  have hDc := hD.sub (ws' := [(x, .inr (9, [.ref st, .ref kp, .int 0, .ref bf, .int 0, .int (-1), .int (-1), .int 0, .ref o1, .ref o2, .ref o3, .ref o4, .ref o5, .ref o6])), (st, .inr (8, [.ref lt, .ref tb, .ref fl, .ref wt, .int 0, .null])), (fl, .inl (cZ, 6, .inl (fun _ => 0)))]) [0, 1, 2] (by decide) rfl
  have hFc := va_free (wc := [(x, .inr (9, [.ref st, .ref kp, .int 0, .ref bf, .int 0, .int (-1), .int (-1), .int 0, .ref o1, .ref o2, .ref o3, .ref o4, .ref o5, .ref o6])), (st, .inr (8, [.ref lt, .ref tb, .ref fl, .ref wt, .int 0, .null])), (fl, .inl (cZ, 6, .inl (fun _ => 0)))]) hD hS hA [0, 1, 2] rfl
  refine vx_calli (vx_runV (As := [.int a0, .int a1, .int a2]) (rest := [.int 0, .ref ou]) ⟨hx, hb, hml, hown, hts⟩ (k_X10_join l htr D cI cJ cZ x st kp bf o1 o2 o3 o4 o5 o6 lt tb fl wt a0 a1 a2 s.heap.size) (cwV 3 hts gk_L_join_X10_join rfl rfl rfl (by decide +kernel) ⟨Nat.le_of_ble_eq_true rfl, Nat.le_of_ble_eq_true rfl⟩) ⟨xPc_blind, va_recv hK hP (ci := 9) (q0 := 0) rfl rfl, xPc_pre hPc hK hDc hE hS hFc hV⟩ rfl rfl hl.1 rfl (lv_room (Nat.le_of_ble_eq_true rfl)) dL_join_7 ⟨Nat.le_of_ble_eq_true rfl, Nat.le_of_ble_eq_true rfl⟩) hS (fun q _ h => hFc q h) hFc (fun q _ h => hFc q h) (fun E ce q9 u t H_1 locs ht hvm hpx hBX hz1 hk1 hS hq9 hcv hcl => ?_) (fun r u t H_1 locs ht hvm hw hB hz1 hk1 hS => ?_)
  · rcases hBX with ⟨rfl, e_0⟩ | ⟨rfl, e_0, e_1⟩ | ⟨rfl, e_0, e_1, e_2⟩ | ⟨rfl, e_0, e_1, e_2, e_3⟩ | ⟨rfl, e_0, e_1, e_2, e_3, e_4⟩ | ⟨rfl, e_0, e_1, e_2, e_3, e_4, e_5⟩ | ⟨rfl, e_0, e_1, e_2, e_3, e_4, e_5, e_6, e_7⟩
    · have c_2 : a0.toInt < 0 := e_0
      refine vx_catch hown (tableOf []) ⟨0, 12, 15, 20⟩ (tableOf [(0, 12, 19, 15)]) (by rw [htab]; rfl) (xpass0) (by decide) (by decide) w_1 (va_Nw.use rfl hV.2.2.2.2.2.1.2.2) hq9 hcv hcl ?_
      have hP : va_P D vwCl [] H_1 := fun k q h => by simp at h
      have hD : va_D A [] := ⟨fun i j p q h => by simp at h, fun k q h => by simp at h⟩
      refine W.widen (k := 5) (n := 30) (Nat.le_of_ble_eq_true rfl) (Nat.le_of_ble_eq_true rfl) ?_
      refine lv_astore (lv' := [(5, .ref q9), (0, .ref x), (1, .int a0), (2, .int a1), (3, .int a2), (4, .ref ou)]) hx hb dL_join_15 hl (by decide) rfl (fun ls hl => ?_)
      refine lv_iconst (v := 1) hx hb dL_join_17 (by decide) ?_
      have hP9 := hP.sub (ws' := []) [] rfl
      have hD9 := hD.sub (ws' := []) [] (by decide) rfl
      refine W.widen (k := 5) (n := 30) (Nat.le_of_ble_eq_true rfl) (Nat.le_of_ble_eq_true rfl) ?_
      exact vx_ret (W.iret (v := 1) hx hb hr (fun t ht hW => ⟨⟨1, (), rfl, Or.inl ⟨rfl, c_2⟩, by rw [ht]; exact hP9, hD9⟩, hS.F ht⟩) hS.2.2 dL_join_18)
    · have c_3 : 0 ≤ a0.toInt := e_0
      have c_4 : 6 ≤ a0.toInt := e_1
      refine vx_catch hown (tableOf []) ⟨0, 12, 15, 20⟩ (tableOf [(0, 12, 19, 15)]) (by rw [htab]; rfl) (xpass0) (by decide) (by decide) w_1 (va_Nw.use rfl hV.2.2.2.2.2.1.2.2) hq9 hcv hcl ?_
      have hP : va_P D vwCl [] H_1 := fun k q h => by simp at h
      have hD : va_D A [] := ⟨fun i j p q h => by simp at h, fun k q h => by simp at h⟩
      refine W.widen (k := 5) (n := 30) (Nat.le_of_ble_eq_true rfl) (Nat.le_of_ble_eq_true rfl) ?_
      refine lv_astore (lv' := [(5, .ref q9), (0, .ref x), (1, .int a0), (2, .int a1), (3, .int a2), (4, .ref ou)]) hx hb dL_join_15 hl (by decide) rfl (fun ls hl => ?_)
      refine lv_iconst (v := 1) hx hb dL_join_17 (by decide) ?_
      have hP9 := hP.sub (ws' := []) [] rfl
      have hD9 := hD.sub (ws' := []) [] (by decide) rfl
      refine W.widen (k := 5) (n := 30) (Nat.le_of_ble_eq_true rfl) (Nat.le_of_ble_eq_true rfl) ?_
      exact vx_ret (W.iret (v := 1) hx hb hr (fun t ht hW => ⟨⟨1, (), rfl, Or.inr (Or.inl ⟨rfl, c_3, c_4⟩), by rw [ht]; exact hP9, hD9⟩, hS.F ht⟩) hS.2.2 dL_join_18)
    · have c_5 : 0 ≤ a0.toInt := e_0
      have c_6 : a0.toInt < 6 := e_1
      have c_7 : a1.toInt < 0 := e_2
      refine vx_catch hown (tableOf []) ⟨0, 12, 15, 20⟩ (tableOf [(0, 12, 19, 15)]) (by rw [htab]; rfl) (xpass0) (by decide) (by decide) w_1 (va_Nw.use rfl hV.2.2.2.2.2.1.2.2) hq9 hcv hcl ?_
      have hP : va_P D vwCl [] H_1 := fun k q h => by simp at h
      have hD : va_D A [] := ⟨fun i j p q h => by simp at h, fun k q h => by simp at h⟩
      refine W.widen (k := 5) (n := 30) (Nat.le_of_ble_eq_true rfl) (Nat.le_of_ble_eq_true rfl) ?_
      refine lv_astore (lv' := [(5, .ref q9), (0, .ref x), (1, .int a0), (2, .int a1), (3, .int a2), (4, .ref ou)]) hx hb dL_join_15 hl (by decide) rfl (fun ls hl => ?_)
      refine lv_iconst (v := 1) hx hb dL_join_17 (by decide) ?_
      have hP9 := hP.sub (ws' := []) [] rfl
      have hD9 := hD.sub (ws' := []) [] (by decide) rfl
      refine W.widen (k := 5) (n := 30) (Nat.le_of_ble_eq_true rfl) (Nat.le_of_ble_eq_true rfl) ?_
      exact vx_ret (W.iret (v := 1) hx hb hr (fun t ht hW => ⟨⟨1, (), rfl, Or.inr (Or.inr (Or.inl ⟨rfl, c_5, c_6, c_7⟩)), by rw [ht]; exact hP9, hD9⟩, hS.F ht⟩) hS.2.2 dL_join_18)
    · have c_8 : 0 ≤ a0.toInt := e_0
      have c_9 : a0.toInt < 6 := e_1
      have c_10 : 0 ≤ a1.toInt := e_2
      have c_11 : 6 ≤ a1.toInt := e_3
      refine vx_catch hown (tableOf []) ⟨0, 12, 15, 20⟩ (tableOf [(0, 12, 19, 15)]) (by rw [htab]; rfl) (xpass0) (by decide) (by decide) w_1 (va_Nw.use rfl hV.2.2.2.2.2.1.2.2) hq9 hcv hcl ?_
      have hP : va_P D vwCl [] H_1 := fun k q h => by simp at h
      have hD : va_D A [] := ⟨fun i j p q h => by simp at h, fun k q h => by simp at h⟩
      refine W.widen (k := 5) (n := 30) (Nat.le_of_ble_eq_true rfl) (Nat.le_of_ble_eq_true rfl) ?_
      refine lv_astore (lv' := [(5, .ref q9), (0, .ref x), (1, .int a0), (2, .int a1), (3, .int a2), (4, .ref ou)]) hx hb dL_join_15 hl (by decide) rfl (fun ls hl => ?_)
      refine lv_iconst (v := 1) hx hb dL_join_17 (by decide) ?_
      have hP9 := hP.sub (ws' := []) [] rfl
      have hD9 := hD.sub (ws' := []) [] (by decide) rfl
      refine W.widen (k := 5) (n := 30) (Nat.le_of_ble_eq_true rfl) (Nat.le_of_ble_eq_true rfl) ?_
      exact vx_ret (W.iret (v := 1) hx hb hr (fun t ht hW => ⟨⟨1, (), rfl, Or.inr (Or.inr (Or.inr (Or.inl ⟨rfl, c_8, c_9, c_10, c_11⟩))), by rw [ht]; exact hP9, hD9⟩, hS.F ht⟩) hS.2.2 dL_join_18)
    · have c_12 : 0 ≤ a0.toInt := e_0
      have c_13 : a0.toInt < 6 := e_1
      have c_14 : 0 ≤ a1.toInt := e_2
      have c_15 : a1.toInt < 6 := e_3
      have c_16 : a2.toInt < 0 := e_4
      refine vx_catch hown (tableOf []) ⟨0, 12, 15, 20⟩ (tableOf [(0, 12, 19, 15)]) (by rw [htab]; rfl) (xpass0) (by decide) (by decide) w_1 (va_Nw.use rfl hV.2.2.2.2.2.1.2.2) hq9 hcv hcl ?_
      have hP : va_P D vwCl [] H_1 := fun k q h => by simp at h
      have hD : va_D A [] := ⟨fun i j p q h => by simp at h, fun k q h => by simp at h⟩
      refine W.widen (k := 5) (n := 30) (Nat.le_of_ble_eq_true rfl) (Nat.le_of_ble_eq_true rfl) ?_
      refine lv_astore (lv' := [(5, .ref q9), (0, .ref x), (1, .int a0), (2, .int a1), (3, .int a2), (4, .ref ou)]) hx hb dL_join_15 hl (by decide) rfl (fun ls hl => ?_)
      refine lv_iconst (v := 1) hx hb dL_join_17 (by decide) ?_
      have hP9 := hP.sub (ws' := []) [] rfl
      have hD9 := hD.sub (ws' := []) [] (by decide) rfl
      refine W.widen (k := 5) (n := 30) (Nat.le_of_ble_eq_true rfl) (Nat.le_of_ble_eq_true rfl) ?_
      exact vx_ret (W.iret (v := 1) hx hb hr (fun t ht hW => ⟨⟨1, (), rfl, Or.inr (Or.inr (Or.inr (Or.inr (Or.inl ⟨rfl, c_12, c_13, c_14, c_15, c_16⟩)))), by rw [ht]; exact hP9, hD9⟩, hS.F ht⟩) hS.2.2 dL_join_18)
    · have c_17 : 0 ≤ a0.toInt := e_0
      have c_18 : a0.toInt < 6 := e_1
      have c_19 : 0 ≤ a1.toInt := e_2
      have c_20 : a1.toInt < 6 := e_3
      have c_21 : 0 ≤ a2.toInt := e_4
      have c_22 : 6 ≤ a2.toInt := e_5
      refine vx_catch hown (tableOf []) ⟨0, 12, 15, 20⟩ (tableOf [(0, 12, 19, 15)]) (by rw [htab]; rfl) (xpass0) (by decide) (by decide) w_1 (va_Nw.use rfl hV.2.2.2.2.2.1.2.2) hq9 hcv hcl ?_
      have hP : va_P D vwCl [] H_1 := fun k q h => by simp at h
      have hD : va_D A [] := ⟨fun i j p q h => by simp at h, fun k q h => by simp at h⟩
      refine W.widen (k := 5) (n := 30) (Nat.le_of_ble_eq_true rfl) (Nat.le_of_ble_eq_true rfl) ?_
      refine lv_astore (lv' := [(5, .ref q9), (0, .ref x), (1, .int a0), (2, .int a1), (3, .int a2), (4, .ref ou)]) hx hb dL_join_15 hl (by decide) rfl (fun ls hl => ?_)
      refine lv_iconst (v := 1) hx hb dL_join_17 (by decide) ?_
      have hP9 := hP.sub (ws' := []) [] rfl
      have hD9 := hD.sub (ws' := []) [] (by decide) rfl
      refine W.widen (k := 5) (n := 30) (Nat.le_of_ble_eq_true rfl) (Nat.le_of_ble_eq_true rfl) ?_
      exact vx_ret (W.iret (v := 1) hx hb hr (fun t ht hW => ⟨⟨1, (), rfl, Or.inr (Or.inr (Or.inr (Or.inr (Or.inr (Or.inl ⟨rfl, c_17, c_18, c_19, c_20, c_21, c_22⟩))))), by rw [ht]; exact hP9, hD9⟩, hS.F ht⟩) hS.2.2 dL_join_18)
    · have c_23 : 0 ≤ a0.toInt := e_0
      have c_24 : a0.toInt < 6 := e_1
      have c_25 : 0 ≤ a1.toInt := e_2
      have c_26 : a1.toInt < 6 := e_3
      have c_27 : 0 ≤ a2.toInt := e_4
      have c_28 : a2.toInt < 6 := e_5
      have c_29 : 0 ≤ a0.toInt := e_6
      have c_30 : a0.toInt < 6 := e_7
      refine vx_catch hown (tableOf [(0, 12, 15, 20)]) ⟨0, 12, 19, 15⟩ (tableOf []) (by rw [htab]; rfl) (xpass1 (Or.inr ⟨by decide, iob, w_1, hV.2.2.2.2.2.2.1.1⟩)) (by decide) (by decide) w_2 (va_Nw.use rfl hV.2.2.2.2.2.1.2.1) hq9 hcv hcl ?_
      have hP : va_P D vwCl [] H_1 := fun k q h => by simp at h
      have hD : va_D A [] := ⟨fun i j p q h => by simp at h, fun k q h => by simp at h⟩
      refine W.widen (k := 5) (n := 30) (Nat.le_of_ble_eq_true rfl) (Nat.le_of_ble_eq_true rfl) ?_
      refine lv_astore (lv' := [(5, .ref q9), (0, .ref x), (1, .int a0), (2, .int a1), (3, .int a2), (4, .ref ou)]) hx hb dL_join_19 hl (by decide) rfl (fun ls hl => ?_)
      refine lv_iconst (v := 2) hx hb dL_join_21 (by decide) ?_
      have hP9 := hP.sub (ws' := []) [] rfl
      have hD9 := hD.sub (ws' := []) [] (by decide) rfl
      refine W.widen (k := 5) (n := 30) (Nat.le_of_ble_eq_true rfl) (Nat.le_of_ble_eq_true rfl) ?_
      exact vx_ret (W.iret (v := 2) hx hb hr (fun t ht hW => ⟨⟨2, (), rfl, Or.inr (Or.inr (Or.inr (Or.inr (Or.inr (Or.inr ⟨rfl, c_23, c_24, c_25, c_26, c_27, c_28, c_29, c_30⟩))))), by rw [ht]; exact hP9, hD9⟩, hS.F ht⟩) hS.2.2 dL_join_22)
  · exact hw.elim
def wk_L_minus : List Cond := .codeWith yL_minus cL_minus 6 (some .int) [(0, 12, 15, 20), (0, 12, 19, 15)] :: (([.classLink RL 20 iob, .classLink RL 15 ise, .methodLink RL 60 yX10_minus, .instanceMethod yX10_minus, .selects RX10 yX10_minus yX10_minus, .initialized RX10, .code yX10_minus cX10_minus 7 (some .int), .methodLink RX10 213 yX10_checkSlots, .static yX10_checkSlots, .code yX10_checkSlots cX10_checkSlots 3 none, .methodLink RX10 138 yX10_checkSlot, .static yX10_checkSlot, .code yX10_checkSlot cX10_checkSlot 1 none, .classLink RX10 91 iob, .initialized iob, .methodLink RX10 153 yX10_tableIn, .instanceMethod yX10_tableIn, .selects RX10 yX10_tableIn yX10_tableIn, .code yX10_tableIn cX10_tableIn 2 (some (.object "DocumentSpanner$SortedInts")), .fieldLink RX10 12 "DocumentSpanner" "state" "LDocumentSpanner$State;", .fieldLink RX10 96 "DocumentSpanner$State" "filled" "[Z", .classLink RX10 80 ise, .initialized ise] : List Cond) ++ wsX100 ++ wsX80 ++ (vx_atS RX10 84 ise ["java/lang/RuntimeException", "java/lang/Exception"]).filter goodWord ++ (vx_atS RX10 95 iob ["java/lang/RuntimeException", "java/lang/Exception"]).filter goodWord)
set_option maxRecDepth 20000 in
theorem ggk_L_minus_X10_minus : GoodIn wk_L_minus wk_X10_minus := goodIn_ca (goodIn_ca (goodIn_ca (goodIn_ca (goodIn_r _ [7, 8, 9, 6, 10, 11, 12, 13, 14, 15, 16, 17, 18, 19, 20, 21, 22, 23] (by decide +kernel) (by decide +kernel)) (goodIn_sub (fun _ h => List.mem_cons_of_mem _ (List.mem_append_left _ (List.mem_append_left _ (List.mem_append_left _ (List.mem_append_right _ h))))) (by decide +kernel))) (goodIn_sub (fun _ h => List.mem_cons_of_mem _ (List.mem_append_left _ (List.mem_append_left _ (List.mem_append_right _ h)))) (by decide +kernel))) (goodIn_sub (fun _ h => List.mem_cons_of_mem _ (List.mem_append_left _ (List.mem_append_right _ h))) (by decide +kernel))) (goodIn_sub (fun _ h => List.mem_cons_of_mem _ (List.mem_append_right _ h)) (by decide +kernel))
set_option maxRecDepth 20000 in
theorem gk_L_minus_X10_minus : GoodIn wk_L_minus (wsV RL 60 RX10 yX10_minus wk_X10_minus) := goodIn_app (goodIn_r _ [3, 4, 5, 6] (by decide +kernel) (by decide +kernel)) ggk_L_minus_X10_minus
set_option maxHeartbeats 4000000 in
set_option maxRecDepth 100000 in
theorem k_L_minus (l : Launch) (htr : l.stackTraces = false) (D : va_G) (cI cJ cZ : ClassId) (x : Nat) (st : Nat) (kp : Nat) (bf : Nat) (o1 : Nat) (o2 : Nat) (o3 : Nat) (o4 : Nat) (o5 : Nat) (o6 : Nat) (lt : Nat) (tb : Nat) (fl : Nat) (wt : Nat) (ou : Nat) (a0 : Int32) (a1 : Int32) (a2 : Int32) (sz : Nat) : vx_Met l yL_minus wk_L_minus ({ frames := 9, cells := 5, slots := 30, locals := 150 }) (xPc D cI cJ cZ [.ref x, .int a0, .int a1, .int a2, .ref ou] [(x, .inr (9, [.ref st, .ref kp, .int 0, .ref bf, .int 0, .int (-1), .int (-1), .int 0, .ref o1, .ref o2, .ref o3, .ref o4, .ref o5, .ref o6])), (st, .inr (8, [.ref lt, .ref tb, .ref fl, .ref wt, .int 0, .null])), (fl, .inl (cZ, 6, .inl (fun _ => 0))), (ou, .inl (cJ, 1, .inr (.inl (fun _ => 0))))] sz) (va_Qi (fun (r : Int32) (u : Unit) => (r = 1 ∧ a0.toInt < 0) ∨ (r = 1 ∧ 0 ≤ a0.toInt ∧ 6 ≤ a0.toInt) ∨ (r = 1 ∧ 0 ≤ a0.toInt ∧ a0.toInt < 6 ∧ a1.toInt < 0) ∨ (r = 1 ∧ 0 ≤ a0.toInt ∧ a0.toInt < 6 ∧ 0 ≤ a1.toInt ∧ 6 ≤ a1.toInt) ∨ (r = 1 ∧ 0 ≤ a0.toInt ∧ a0.toInt < 6 ∧ 0 ≤ a1.toInt ∧ a1.toInt < 6 ∧ a2.toInt < 0) ∨ (r = 1 ∧ 0 ≤ a0.toInt ∧ a0.toInt < 6 ∧ 0 ≤ a1.toInt ∧ a1.toInt < 6 ∧ 0 ≤ a2.toInt ∧ 6 ≤ a2.toInt) ∨ (r = 2 ∧ 0 ≤ a0.toInt ∧ a0.toInt < 6 ∧ 0 ≤ a1.toInt ∧ a1.toInt < 6 ∧ 0 ≤ a2.toInt ∧ a2.toInt < 6 ∧ 0 ≤ a0.toInt ∧ a0.toInt < 6)) (fun (u : Unit) (t : State) => va_P D vwCl ([] : va_W) t.heap ∧ va_D (va_A [(x, .inr (9, [.ref st, .ref kp, .int 0, .ref bf, .int 0, .int (-1), .int (-1), .int 0, .ref o1, .ref o2, .ref o3, .ref o4, .ref o5, .ref o6])), (st, .inr (8, [.ref lt, .ref tb, .ref fl, .ref wt, .int 0, .null])), (fl, .inl (cZ, 6, .inl (fun _ => 0))), (ou, .inl (cJ, 1, .inr (.inl (fun _ => 0))))] sz) ([] : va_W)) (va_A [(x, .inr (9, [.ref st, .ref kp, .int 0, .ref bf, .int 0, .int (-1), .int (-1), .int 0, .ref o1, .ref o2, .ref o3, .ref o4, .ref o5, .ref o6])), (st, .inr (8, [.ref lt, .ref tb, .ref fl, .ref wt, .int 0, .null])), (fl, .inl (cZ, 6, .inl (fun _ => 0))), (ou, .inl (cJ, 1, .inr (.inl (fun _ => 0))))] sz)) (vx_X (fun _ : Unit => True) (fun (E : String) (_ : Unit) (_ : State) => False) (va_A [(x, .inr (9, [.ref st, .ref kp, .int 0, .ref bf, .int 0, .int (-1), .int (-1), .int 0, .ref o1, .ref o2, .ref o3, .ref o4, .ref o5, .ref o6])), (st, .inr (8, [.ref lt, .ref tb, .ref fl, .ref wt, .int 0, .null])), (fl, .inl (cZ, 6, .inl (fun _ => 0))), (ou, .inl (cJ, 1, .inr (.inl (fun _ => 0))))] sz)) 5 30 (va_A [(x, .inr (9, [.ref st, .ref kp, .int 0, .ref bf, .int 0, .int (-1), .int (-1), .int 0, .ref o1, .ref o2, .ref o3, .ref o4, .ref o5, .ref o6])), (st, .inr (8, [.ref lt, .ref tb, .ref fl, .ref wt, .int 0, .null])), (fl, .inl (cZ, 6, .inl (fun _ => 0))), (ou, .inl (cJ, 1, .inr (.inl (fun _ => 0))))] sz) := by
  refine vx_ofWH (cc := cL_minus) (maxL := 6) (ret := (some .int)) (by decide) rfl ?_
  intro p e s m args below meth c s₁ B hml hv
  obtain ⟨rfl, hsz, hP, hK, hD0, hE, hV⟩ := hv
  have hx := B.exec
  have hb := B.bytes
  have hr := B.returns
  have hts := atoms_spec (ws := wk_L_minus) B.pre
  have hown : s.vm.findClass RL = some m.cls := findClass_of_methodNamed B.named
  have hlocks := B.notSynchronized
  have htab : c.exceptionTable.toList = tableOf [(0, 12, 15, 20), (0, 12, 19, 15)] := vx_table (x := yL_minus) B (hts _ List.mem_cons_self)
  have w_1 := hts (.classLink RL 20 iob) (List.mem_of_getElem? (i := 1) rfl)
  have w_2 := hts (.classLink RL 15 ise) (List.mem_of_getElem? (i := 2) rfl)
  subst hsz
  have hD := hD0.self (sz := s.heap.size)
  generalize hAe : va_A [(x, .inr (9, [.ref st, .ref kp, .int 0, .ref bf, .int 0, .int (-1), .int (-1), .int 0, .ref o1, .ref o2, .ref o3, .ref o4, .ref o5, .ref o6])), (st, .inr (8, [.ref lt, .ref tb, .ref fl, .ref wt, .int 0, .null])), (fl, .inl (cZ, 6, .inl (fun _ => 0))), (ou, .inl (cJ, 1, .inr (.inl (fun _ => 0))))] s.heap.size = A at hD hE ⊢
  have hA : ∀ q : Nat, s.heap.size ≤ q → A q := fun q h => by rw [← hAe]; exact Or.inr h
  have hS : va_S A s.heap s.heap [] := va_S.rf
  have hP : va_P D vwCl [(x, .inr (9, [.ref st, .ref kp, .int 0, .ref bf, .int 0, .int (-1), .int (-1), .int 0, .ref o1, .ref o2, .ref o3, .ref o4, .ref o5, .ref o6])), (st, .inr (8, [.ref lt, .ref tb, .ref fl, .ref wt, .int 0, .null])), (fl, .inl (cZ, 6, .inl (fun _ => 0))), (ou, .inl (cJ, 1, .inr (.inl (fun _ => 0))))] s.heap := hP
  have hl := lv_entry ([.ref x, .int a0, .int a1, .int a2, .ref ou]) (n := 6) (Nat.le_of_ble_eq_true rfl)
  rw [lg_entry_eq]
  generalize (lg_sl ([.ref x, .int a0, .int a1, .int a2, .ref ou]) ++ List.replicate (6 - (lg_sl ([.ref x, .int a0, .int a1, .int a2, .ref ou])).length) Slot.unset).toArray = ls at hl ⊢
  have hl : lv_has ls 6 [(0, .ref x), (1, .int a0), (2, .int a1), (3, .int a2), (4, .ref ou)] := hl
  refine lv_aload hx hb dL_minus_0 (lv_at hl 4 rfl) ?_
  refine lv_iconst (v := 0) hx hb dL_minus_2 (by decide) ?_
  refine lv_aload_n hx hb dL_minus_3 rfl (lv_at hl 0 rfl) ?_
  refine lv_iload_n hx hb dL_minus_4 rfl (lv_at hl 1 rfl) ?_
  refine lv_iload_n hx hb dL_minus_5 rfl (lv_at hl 2 rfl) ?_
  refine lv_iload_n hx hb dL_minus_6 rfl (lv_at hl 3 rfl) ?_
  have hPc := hP.sub (ws' := [(x, .inr (9, [.ref st, .ref kp, .int 0, .ref bf, .int 0, .int (-1), .int (-1), .int 0, .ref o1, .ref o2, .ref o3, .ref o4, .ref o5, .ref o6])), (st, .inr (8, [.ref lt, .ref tb, .ref fl, .ref wt, .int 0, .null])), (fl, .inl (cZ, 6, .inl (fun _ => 0)))]) [0, 1, 2] rfl
  have hDc := hD.sub (ws' := [(x, .inr (9, [.ref st, .ref kp, .int 0, .ref bf, .int 0, .int (-1), .int (-1), .int 0, .ref o1, .ref o2, .ref o3, .ref o4, .ref o5, .ref o6])), (st, .inr (8, [.ref lt, .ref tb, .ref fl, .ref wt, .int 0, .null])), (fl, .inl (cZ, 6, .inl (fun _ => 0)))]) [0, 1, 2] (by decide) rfl
  have hFc := va_free (wc := [(x, .inr (9, [.ref st, .ref kp, .int 0, .ref bf, .int 0, .int (-1), .int (-1), .int 0, .ref o1, .ref o2, .ref o3, .ref o4, .ref o5, .ref o6])), (st, .inr (8, [.ref lt, .ref tb, .ref fl, .ref wt, .int 0, .null])), (fl, .inl (cZ, 6, .inl (fun _ => 0)))]) hD hS hA [0, 1, 2] rfl
  refine vx_calli (vx_runV (As := [.int a0, .int a1, .int a2]) (rest := [.int 0, .ref ou]) ⟨hx, hb, hml, hown, hts⟩ (k_X10_minus l htr D cI cJ cZ x st kp bf o1 o2 o3 o4 o5 o6 lt tb fl wt a0 a1 a2 s.heap.size) (cwV 3 hts gk_L_minus_X10_minus rfl rfl rfl (by decide +kernel) ⟨Nat.le_of_ble_eq_true rfl, Nat.le_of_ble_eq_true rfl⟩) ⟨xPc_blind, va_recv hK hP (ci := 9) (q0 := 0) rfl rfl, xPc_pre hPc hK hDc hE hS hFc hV⟩ rfl rfl hl.1 rfl (lv_room (Nat.le_of_ble_eq_true rfl)) dL_minus_7 ⟨Nat.le_of_ble_eq_true rfl, Nat.le_of_ble_eq_true rfl⟩) hS (fun q _ h => hFc q h) hFc (fun q _ h => hFc q h) (fun E ce q9 u t H_1 locs ht hvm hpx hBX hz1 hk1 hS hq9 hcv hcl => ?_) (fun r u t H_1 locs ht hvm hw hB hz1 hk1 hS => ?_)
  · rcases hBX with ⟨rfl, e_0⟩ | ⟨rfl, e_0, e_1⟩ | ⟨rfl, e_0, e_1, e_2⟩ | ⟨rfl, e_0, e_1, e_2, e_3⟩ | ⟨rfl, e_0, e_1, e_2, e_3, e_4⟩ | ⟨rfl, e_0, e_1, e_2, e_3, e_4, e_5⟩ | ⟨rfl, e_0, e_1, e_2, e_3, e_4, e_5, e_6, e_7⟩
    · have c_2 : a0.toInt < 0 := e_0
      refine vx_catch hown (tableOf []) ⟨0, 12, 15, 20⟩ (tableOf [(0, 12, 19, 15)]) (by rw [htab]; rfl) (xpass0) (by decide) (by decide) w_1 (va_Nw.use rfl hV.2.2.2.2.2.1.2.2) hq9 hcv hcl ?_
      have hP : va_P D vwCl [] H_1 := fun k q h => by simp at h
      have hD : va_D A [] := ⟨fun i j p q h => by simp at h, fun k q h => by simp at h⟩
      refine W.widen (k := 5) (n := 30) (Nat.le_of_ble_eq_true rfl) (Nat.le_of_ble_eq_true rfl) ?_
      refine lv_astore (lv' := [(5, .ref q9), (0, .ref x), (1, .int a0), (2, .int a1), (3, .int a2), (4, .ref ou)]) hx hb dL_minus_15 hl (by decide) rfl (fun ls hl => ?_)
      refine lv_iconst (v := 1) hx hb dL_minus_17 (by decide) ?_
      have hP9 := hP.sub (ws' := []) [] rfl
      have hD9 := hD.sub (ws' := []) [] (by decide) rfl
      refine W.widen (k := 5) (n := 30) (Nat.le_of_ble_eq_true rfl) (Nat.le_of_ble_eq_true rfl) ?_
      exact vx_ret (W.iret (v := 1) hx hb hr (fun t ht hW => ⟨⟨1, (), rfl, Or.inl ⟨rfl, c_2⟩, by rw [ht]; exact hP9, hD9⟩, hS.F ht⟩) hS.2.2 dL_minus_18)
    · have c_3 : 0 ≤ a0.toInt := e_0
      have c_4 : 6 ≤ a0.toInt := e_1
      refine vx_catch hown (tableOf []) ⟨0, 12, 15, 20⟩ (tableOf [(0, 12, 19, 15)]) (by rw [htab]; rfl) (xpass0) (by decide) (by decide) w_1 (va_Nw.use rfl hV.2.2.2.2.2.1.2.2) hq9 hcv hcl ?_
      have hP : va_P D vwCl [] H_1 := fun k q h => by simp at h
      have hD : va_D A [] := ⟨fun i j p q h => by simp at h, fun k q h => by simp at h⟩
      refine W.widen (k := 5) (n := 30) (Nat.le_of_ble_eq_true rfl) (Nat.le_of_ble_eq_true rfl) ?_
      refine lv_astore (lv' := [(5, .ref q9), (0, .ref x), (1, .int a0), (2, .int a1), (3, .int a2), (4, .ref ou)]) hx hb dL_minus_15 hl (by decide) rfl (fun ls hl => ?_)
      refine lv_iconst (v := 1) hx hb dL_minus_17 (by decide) ?_
      have hP9 := hP.sub (ws' := []) [] rfl
      have hD9 := hD.sub (ws' := []) [] (by decide) rfl
      refine W.widen (k := 5) (n := 30) (Nat.le_of_ble_eq_true rfl) (Nat.le_of_ble_eq_true rfl) ?_
      exact vx_ret (W.iret (v := 1) hx hb hr (fun t ht hW => ⟨⟨1, (), rfl, Or.inr (Or.inl ⟨rfl, c_3, c_4⟩), by rw [ht]; exact hP9, hD9⟩, hS.F ht⟩) hS.2.2 dL_minus_18)
    · have c_5 : 0 ≤ a0.toInt := e_0
      have c_6 : a0.toInt < 6 := e_1
      have c_7 : a1.toInt < 0 := e_2
      refine vx_catch hown (tableOf []) ⟨0, 12, 15, 20⟩ (tableOf [(0, 12, 19, 15)]) (by rw [htab]; rfl) (xpass0) (by decide) (by decide) w_1 (va_Nw.use rfl hV.2.2.2.2.2.1.2.2) hq9 hcv hcl ?_
      have hP : va_P D vwCl [] H_1 := fun k q h => by simp at h
      have hD : va_D A [] := ⟨fun i j p q h => by simp at h, fun k q h => by simp at h⟩
      refine W.widen (k := 5) (n := 30) (Nat.le_of_ble_eq_true rfl) (Nat.le_of_ble_eq_true rfl) ?_
      refine lv_astore (lv' := [(5, .ref q9), (0, .ref x), (1, .int a0), (2, .int a1), (3, .int a2), (4, .ref ou)]) hx hb dL_minus_15 hl (by decide) rfl (fun ls hl => ?_)
      refine lv_iconst (v := 1) hx hb dL_minus_17 (by decide) ?_
      have hP9 := hP.sub (ws' := []) [] rfl
      have hD9 := hD.sub (ws' := []) [] (by decide) rfl
      refine W.widen (k := 5) (n := 30) (Nat.le_of_ble_eq_true rfl) (Nat.le_of_ble_eq_true rfl) ?_
      exact vx_ret (W.iret (v := 1) hx hb hr (fun t ht hW => ⟨⟨1, (), rfl, Or.inr (Or.inr (Or.inl ⟨rfl, c_5, c_6, c_7⟩)), by rw [ht]; exact hP9, hD9⟩, hS.F ht⟩) hS.2.2 dL_minus_18)
    · have c_8 : 0 ≤ a0.toInt := e_0
      have c_9 : a0.toInt < 6 := e_1
      have c_10 : 0 ≤ a1.toInt := e_2
      have c_11 : 6 ≤ a1.toInt := e_3
      refine vx_catch hown (tableOf []) ⟨0, 12, 15, 20⟩ (tableOf [(0, 12, 19, 15)]) (by rw [htab]; rfl) (xpass0) (by decide) (by decide) w_1 (va_Nw.use rfl hV.2.2.2.2.2.1.2.2) hq9 hcv hcl ?_
      have hP : va_P D vwCl [] H_1 := fun k q h => by simp at h
      have hD : va_D A [] := ⟨fun i j p q h => by simp at h, fun k q h => by simp at h⟩
      refine W.widen (k := 5) (n := 30) (Nat.le_of_ble_eq_true rfl) (Nat.le_of_ble_eq_true rfl) ?_
      refine lv_astore (lv' := [(5, .ref q9), (0, .ref x), (1, .int a0), (2, .int a1), (3, .int a2), (4, .ref ou)]) hx hb dL_minus_15 hl (by decide) rfl (fun ls hl => ?_)
      refine lv_iconst (v := 1) hx hb dL_minus_17 (by decide) ?_
      have hP9 := hP.sub (ws' := []) [] rfl
      have hD9 := hD.sub (ws' := []) [] (by decide) rfl
      refine W.widen (k := 5) (n := 30) (Nat.le_of_ble_eq_true rfl) (Nat.le_of_ble_eq_true rfl) ?_
      exact vx_ret (W.iret (v := 1) hx hb hr (fun t ht hW => ⟨⟨1, (), rfl, Or.inr (Or.inr (Or.inr (Or.inl ⟨rfl, c_8, c_9, c_10, c_11⟩))), by rw [ht]; exact hP9, hD9⟩, hS.F ht⟩) hS.2.2 dL_minus_18)
    · have c_12 : 0 ≤ a0.toInt := e_0
      have c_13 : a0.toInt < 6 := e_1
      have c_14 : 0 ≤ a1.toInt := e_2
      have c_15 : a1.toInt < 6 := e_3
      have c_16 : a2.toInt < 0 := e_4
      refine vx_catch hown (tableOf []) ⟨0, 12, 15, 20⟩ (tableOf [(0, 12, 19, 15)]) (by rw [htab]; rfl) (xpass0) (by decide) (by decide) w_1 (va_Nw.use rfl hV.2.2.2.2.2.1.2.2) hq9 hcv hcl ?_
      have hP : va_P D vwCl [] H_1 := fun k q h => by simp at h
      have hD : va_D A [] := ⟨fun i j p q h => by simp at h, fun k q h => by simp at h⟩
      refine W.widen (k := 5) (n := 30) (Nat.le_of_ble_eq_true rfl) (Nat.le_of_ble_eq_true rfl) ?_
      refine lv_astore (lv' := [(5, .ref q9), (0, .ref x), (1, .int a0), (2, .int a1), (3, .int a2), (4, .ref ou)]) hx hb dL_minus_15 hl (by decide) rfl (fun ls hl => ?_)
      refine lv_iconst (v := 1) hx hb dL_minus_17 (by decide) ?_
      have hP9 := hP.sub (ws' := []) [] rfl
      have hD9 := hD.sub (ws' := []) [] (by decide) rfl
      refine W.widen (k := 5) (n := 30) (Nat.le_of_ble_eq_true rfl) (Nat.le_of_ble_eq_true rfl) ?_
      exact vx_ret (W.iret (v := 1) hx hb hr (fun t ht hW => ⟨⟨1, (), rfl, Or.inr (Or.inr (Or.inr (Or.inr (Or.inl ⟨rfl, c_12, c_13, c_14, c_15, c_16⟩)))), by rw [ht]; exact hP9, hD9⟩, hS.F ht⟩) hS.2.2 dL_minus_18)
    · have c_17 : 0 ≤ a0.toInt := e_0
      have c_18 : a0.toInt < 6 := e_1
      have c_19 : 0 ≤ a1.toInt := e_2
      have c_20 : a1.toInt < 6 := e_3
      have c_21 : 0 ≤ a2.toInt := e_4
      have c_22 : 6 ≤ a2.toInt := e_5
      refine vx_catch hown (tableOf []) ⟨0, 12, 15, 20⟩ (tableOf [(0, 12, 19, 15)]) (by rw [htab]; rfl) (xpass0) (by decide) (by decide) w_1 (va_Nw.use rfl hV.2.2.2.2.2.1.2.2) hq9 hcv hcl ?_
      have hP : va_P D vwCl [] H_1 := fun k q h => by simp at h
      have hD : va_D A [] := ⟨fun i j p q h => by simp at h, fun k q h => by simp at h⟩
      refine W.widen (k := 5) (n := 30) (Nat.le_of_ble_eq_true rfl) (Nat.le_of_ble_eq_true rfl) ?_
      refine lv_astore (lv' := [(5, .ref q9), (0, .ref x), (1, .int a0), (2, .int a1), (3, .int a2), (4, .ref ou)]) hx hb dL_minus_15 hl (by decide) rfl (fun ls hl => ?_)
      refine lv_iconst (v := 1) hx hb dL_minus_17 (by decide) ?_
      have hP9 := hP.sub (ws' := []) [] rfl
      have hD9 := hD.sub (ws' := []) [] (by decide) rfl
      refine W.widen (k := 5) (n := 30) (Nat.le_of_ble_eq_true rfl) (Nat.le_of_ble_eq_true rfl) ?_
      exact vx_ret (W.iret (v := 1) hx hb hr (fun t ht hW => ⟨⟨1, (), rfl, Or.inr (Or.inr (Or.inr (Or.inr (Or.inr (Or.inl ⟨rfl, c_17, c_18, c_19, c_20, c_21, c_22⟩))))), by rw [ht]; exact hP9, hD9⟩, hS.F ht⟩) hS.2.2 dL_minus_18)
    · have c_23 : 0 ≤ a0.toInt := e_0
      have c_24 : a0.toInt < 6 := e_1
      have c_25 : 0 ≤ a1.toInt := e_2
      have c_26 : a1.toInt < 6 := e_3
      have c_27 : 0 ≤ a2.toInt := e_4
      have c_28 : a2.toInt < 6 := e_5
      have c_29 : 0 ≤ a0.toInt := e_6
      have c_30 : a0.toInt < 6 := e_7
      refine vx_catch hown (tableOf [(0, 12, 15, 20)]) ⟨0, 12, 19, 15⟩ (tableOf []) (by rw [htab]; rfl) (xpass1 (Or.inr ⟨by decide, iob, w_1, hV.2.2.2.2.2.2.1.1⟩)) (by decide) (by decide) w_2 (va_Nw.use rfl hV.2.2.2.2.2.1.2.1) hq9 hcv hcl ?_
      have hP : va_P D vwCl [] H_1 := fun k q h => by simp at h
      have hD : va_D A [] := ⟨fun i j p q h => by simp at h, fun k q h => by simp at h⟩
      refine W.widen (k := 5) (n := 30) (Nat.le_of_ble_eq_true rfl) (Nat.le_of_ble_eq_true rfl) ?_
      refine lv_astore (lv' := [(5, .ref q9), (0, .ref x), (1, .int a0), (2, .int a1), (3, .int a2), (4, .ref ou)]) hx hb dL_minus_19 hl (by decide) rfl (fun ls hl => ?_)
      refine lv_iconst (v := 2) hx hb dL_minus_21 (by decide) ?_
      have hP9 := hP.sub (ws' := []) [] rfl
      have hD9 := hD.sub (ws' := []) [] (by decide) rfl
      refine W.widen (k := 5) (n := 30) (Nat.le_of_ble_eq_true rfl) (Nat.le_of_ble_eq_true rfl) ?_
      exact vx_ret (W.iret (v := 2) hx hb hr (fun t ht hW => ⟨⟨2, (), rfl, Or.inr (Or.inr (Or.inr (Or.inr (Or.inr (Or.inr ⟨rfl, c_23, c_24, c_25, c_26, c_27, c_28, c_29, c_30⟩))))), by rw [ht]; exact hP9, hD9⟩, hS.F ht⟩) hS.2.2 dL_minus_22)
  · exact hw.elim
def wk_L_antijoin : List Cond := .codeWith yL_antijoin cL_antijoin 6 (some .int) [(0, 12, 15, 20), (0, 12, 19, 15)] :: (([.classLink RL 20 iob, .classLink RL 15 ise, .methodLink RL 63 yX10_antijoin, .instanceMethod yX10_antijoin, .selects RX10 yX10_antijoin yX10_antijoin, .initialized RX10, .code yX10_antijoin cX10_antijoin 7 (some .int), .methodLink RX10 213 yX10_checkSlots, .static yX10_checkSlots, .code yX10_checkSlots cX10_checkSlots 3 none, .methodLink RX10 138 yX10_checkSlot, .static yX10_checkSlot, .code yX10_checkSlot cX10_checkSlot 1 none, .classLink RX10 91 iob, .initialized iob, .methodLink RX10 153 yX10_tableIn, .instanceMethod yX10_tableIn, .selects RX10 yX10_tableIn yX10_tableIn, .code yX10_tableIn cX10_tableIn 2 (some (.object "DocumentSpanner$SortedInts")), .fieldLink RX10 12 "DocumentSpanner" "state" "LDocumentSpanner$State;", .fieldLink RX10 96 "DocumentSpanner$State" "filled" "[Z", .classLink RX10 80 ise, .initialized ise] : List Cond) ++ wsX100 ++ wsX80 ++ (vx_atS RX10 84 ise ["java/lang/RuntimeException", "java/lang/Exception"]).filter goodWord ++ (vx_atS RX10 95 iob ["java/lang/RuntimeException", "java/lang/Exception"]).filter goodWord)
set_option maxRecDepth 20000 in
theorem ggk_L_antijoin_X10_antijoin : GoodIn wk_L_antijoin wk_X10_antijoin := goodIn_ca (goodIn_ca (goodIn_ca (goodIn_ca (goodIn_r _ [7, 8, 9, 6, 10, 11, 12, 13, 14, 15, 16, 17, 18, 19, 20, 21, 22, 23] (by decide +kernel) (by decide +kernel)) (goodIn_sub (fun _ h => List.mem_cons_of_mem _ (List.mem_append_left _ (List.mem_append_left _ (List.mem_append_left _ (List.mem_append_right _ h))))) (by decide +kernel))) (goodIn_sub (fun _ h => List.mem_cons_of_mem _ (List.mem_append_left _ (List.mem_append_left _ (List.mem_append_right _ h)))) (by decide +kernel))) (goodIn_sub (fun _ h => List.mem_cons_of_mem _ (List.mem_append_left _ (List.mem_append_right _ h))) (by decide +kernel))) (goodIn_sub (fun _ h => List.mem_cons_of_mem _ (List.mem_append_right _ h)) (by decide +kernel))
set_option maxRecDepth 20000 in
theorem gk_L_antijoin_X10_antijoin : GoodIn wk_L_antijoin (wsV RL 63 RX10 yX10_antijoin wk_X10_antijoin) := goodIn_app (goodIn_r _ [3, 4, 5, 6] (by decide +kernel) (by decide +kernel)) ggk_L_antijoin_X10_antijoin
set_option maxHeartbeats 4000000 in
set_option maxRecDepth 100000 in
theorem k_L_antijoin (l : Launch) (htr : l.stackTraces = false) (D : va_G) (cI cJ cZ : ClassId) (x : Nat) (st : Nat) (kp : Nat) (bf : Nat) (o1 : Nat) (o2 : Nat) (o3 : Nat) (o4 : Nat) (o5 : Nat) (o6 : Nat) (lt : Nat) (tb : Nat) (fl : Nat) (wt : Nat) (ou : Nat) (a0 : Int32) (a1 : Int32) (a2 : Int32) (sz : Nat) : vx_Met l yL_antijoin wk_L_antijoin ({ frames := 9, cells := 5, slots := 30, locals := 150 }) (xPc D cI cJ cZ [.ref x, .int a0, .int a1, .int a2, .ref ou] [(x, .inr (9, [.ref st, .ref kp, .int 0, .ref bf, .int 0, .int (-1), .int (-1), .int 0, .ref o1, .ref o2, .ref o3, .ref o4, .ref o5, .ref o6])), (st, .inr (8, [.ref lt, .ref tb, .ref fl, .ref wt, .int 0, .null])), (fl, .inl (cZ, 6, .inl (fun _ => 0))), (ou, .inl (cJ, 1, .inr (.inl (fun _ => 0))))] sz) (va_Qi (fun (r : Int32) (u : Unit) => (r = 1 ∧ a0.toInt < 0) ∨ (r = 1 ∧ 0 ≤ a0.toInt ∧ 6 ≤ a0.toInt) ∨ (r = 1 ∧ 0 ≤ a0.toInt ∧ a0.toInt < 6 ∧ a1.toInt < 0) ∨ (r = 1 ∧ 0 ≤ a0.toInt ∧ a0.toInt < 6 ∧ 0 ≤ a1.toInt ∧ 6 ≤ a1.toInt) ∨ (r = 1 ∧ 0 ≤ a0.toInt ∧ a0.toInt < 6 ∧ 0 ≤ a1.toInt ∧ a1.toInt < 6 ∧ a2.toInt < 0) ∨ (r = 1 ∧ 0 ≤ a0.toInt ∧ a0.toInt < 6 ∧ 0 ≤ a1.toInt ∧ a1.toInt < 6 ∧ 0 ≤ a2.toInt ∧ 6 ≤ a2.toInt) ∨ (r = 2 ∧ 0 ≤ a0.toInt ∧ a0.toInt < 6 ∧ 0 ≤ a1.toInt ∧ a1.toInt < 6 ∧ 0 ≤ a2.toInt ∧ a2.toInt < 6 ∧ 0 ≤ a0.toInt ∧ a0.toInt < 6)) (fun (u : Unit) (t : State) => va_P D vwCl ([] : va_W) t.heap ∧ va_D (va_A [(x, .inr (9, [.ref st, .ref kp, .int 0, .ref bf, .int 0, .int (-1), .int (-1), .int 0, .ref o1, .ref o2, .ref o3, .ref o4, .ref o5, .ref o6])), (st, .inr (8, [.ref lt, .ref tb, .ref fl, .ref wt, .int 0, .null])), (fl, .inl (cZ, 6, .inl (fun _ => 0))), (ou, .inl (cJ, 1, .inr (.inl (fun _ => 0))))] sz) ([] : va_W)) (va_A [(x, .inr (9, [.ref st, .ref kp, .int 0, .ref bf, .int 0, .int (-1), .int (-1), .int 0, .ref o1, .ref o2, .ref o3, .ref o4, .ref o5, .ref o6])), (st, .inr (8, [.ref lt, .ref tb, .ref fl, .ref wt, .int 0, .null])), (fl, .inl (cZ, 6, .inl (fun _ => 0))), (ou, .inl (cJ, 1, .inr (.inl (fun _ => 0))))] sz)) (vx_X (fun _ : Unit => True) (fun (E : String) (_ : Unit) (_ : State) => False) (va_A [(x, .inr (9, [.ref st, .ref kp, .int 0, .ref bf, .int 0, .int (-1), .int (-1), .int 0, .ref o1, .ref o2, .ref o3, .ref o4, .ref o5, .ref o6])), (st, .inr (8, [.ref lt, .ref tb, .ref fl, .ref wt, .int 0, .null])), (fl, .inl (cZ, 6, .inl (fun _ => 0))), (ou, .inl (cJ, 1, .inr (.inl (fun _ => 0))))] sz)) 5 30 (va_A [(x, .inr (9, [.ref st, .ref kp, .int 0, .ref bf, .int 0, .int (-1), .int (-1), .int 0, .ref o1, .ref o2, .ref o3, .ref o4, .ref o5, .ref o6])), (st, .inr (8, [.ref lt, .ref tb, .ref fl, .ref wt, .int 0, .null])), (fl, .inl (cZ, 6, .inl (fun _ => 0))), (ou, .inl (cJ, 1, .inr (.inl (fun _ => 0))))] sz) := by
  refine vx_ofWH (cc := cL_antijoin) (maxL := 6) (ret := (some .int)) (by decide) rfl ?_
  intro p e s m args below meth c s₁ B hml hv
  obtain ⟨rfl, hsz, hP, hK, hD0, hE, hV⟩ := hv
  have hx := B.exec
  have hb := B.bytes
  have hr := B.returns
  have hts := atoms_spec (ws := wk_L_antijoin) B.pre
  have hown : s.vm.findClass RL = some m.cls := findClass_of_methodNamed B.named
  have hlocks := B.notSynchronized
  have htab : c.exceptionTable.toList = tableOf [(0, 12, 15, 20), (0, 12, 19, 15)] := vx_table (x := yL_antijoin) B (hts _ List.mem_cons_self)
  have w_1 := hts (.classLink RL 20 iob) (List.mem_of_getElem? (i := 1) rfl)
  have w_2 := hts (.classLink RL 15 ise) (List.mem_of_getElem? (i := 2) rfl)
  subst hsz
  have hD := hD0.self (sz := s.heap.size)
  generalize hAe : va_A [(x, .inr (9, [.ref st, .ref kp, .int 0, .ref bf, .int 0, .int (-1), .int (-1), .int 0, .ref o1, .ref o2, .ref o3, .ref o4, .ref o5, .ref o6])), (st, .inr (8, [.ref lt, .ref tb, .ref fl, .ref wt, .int 0, .null])), (fl, .inl (cZ, 6, .inl (fun _ => 0))), (ou, .inl (cJ, 1, .inr (.inl (fun _ => 0))))] s.heap.size = A at hD hE ⊢
  have hA : ∀ q : Nat, s.heap.size ≤ q → A q := fun q h => by rw [← hAe]; exact Or.inr h
  have hS : va_S A s.heap s.heap [] := va_S.rf
  have hP : va_P D vwCl [(x, .inr (9, [.ref st, .ref kp, .int 0, .ref bf, .int 0, .int (-1), .int (-1), .int 0, .ref o1, .ref o2, .ref o3, .ref o4, .ref o5, .ref o6])), (st, .inr (8, [.ref lt, .ref tb, .ref fl, .ref wt, .int 0, .null])), (fl, .inl (cZ, 6, .inl (fun _ => 0))), (ou, .inl (cJ, 1, .inr (.inl (fun _ => 0))))] s.heap := hP
  have hl := lv_entry ([.ref x, .int a0, .int a1, .int a2, .ref ou]) (n := 6) (Nat.le_of_ble_eq_true rfl)
  rw [lg_entry_eq]
  generalize (lg_sl ([.ref x, .int a0, .int a1, .int a2, .ref ou]) ++ List.replicate (6 - (lg_sl ([.ref x, .int a0, .int a1, .int a2, .ref ou])).length) Slot.unset).toArray = ls at hl ⊢
  have hl : lv_has ls 6 [(0, .ref x), (1, .int a0), (2, .int a1), (3, .int a2), (4, .ref ou)] := hl
  refine lv_aload hx hb dL_antijoin_0 (lv_at hl 4 rfl) ?_
  refine lv_iconst (v := 0) hx hb dL_antijoin_2 (by decide) ?_
  refine lv_aload_n hx hb dL_antijoin_3 rfl (lv_at hl 0 rfl) ?_
  refine lv_iload_n hx hb dL_antijoin_4 rfl (lv_at hl 1 rfl) ?_
  refine lv_iload_n hx hb dL_antijoin_5 rfl (lv_at hl 2 rfl) ?_
  refine lv_iload_n hx hb dL_antijoin_6 rfl (lv_at hl 3 rfl) ?_
  have hPc := hP.sub (ws' := [(x, .inr (9, [.ref st, .ref kp, .int 0, .ref bf, .int 0, .int (-1), .int (-1), .int 0, .ref o1, .ref o2, .ref o3, .ref o4, .ref o5, .ref o6])), (st, .inr (8, [.ref lt, .ref tb, .ref fl, .ref wt, .int 0, .null])), (fl, .inl (cZ, 6, .inl (fun _ => 0)))]) [0, 1, 2] rfl
  have hDc := hD.sub (ws' := [(x, .inr (9, [.ref st, .ref kp, .int 0, .ref bf, .int 0, .int (-1), .int (-1), .int 0, .ref o1, .ref o2, .ref o3, .ref o4, .ref o5, .ref o6])), (st, .inr (8, [.ref lt, .ref tb, .ref fl, .ref wt, .int 0, .null])), (fl, .inl (cZ, 6, .inl (fun _ => 0)))]) [0, 1, 2] (by decide) rfl
  have hFc := va_free (wc := [(x, .inr (9, [.ref st, .ref kp, .int 0, .ref bf, .int 0, .int (-1), .int (-1), .int 0, .ref o1, .ref o2, .ref o3, .ref o4, .ref o5, .ref o6])), (st, .inr (8, [.ref lt, .ref tb, .ref fl, .ref wt, .int 0, .null])), (fl, .inl (cZ, 6, .inl (fun _ => 0)))]) hD hS hA [0, 1, 2] rfl
  refine vx_calli (vx_runV (As := [.int a0, .int a1, .int a2]) (rest := [.int 0, .ref ou]) ⟨hx, hb, hml, hown, hts⟩ (k_X10_antijoin l htr D cI cJ cZ x st kp bf o1 o2 o3 o4 o5 o6 lt tb fl wt a0 a1 a2 s.heap.size) (cwV 3 hts gk_L_antijoin_X10_antijoin rfl rfl rfl (by decide +kernel) ⟨Nat.le_of_ble_eq_true rfl, Nat.le_of_ble_eq_true rfl⟩) ⟨xPc_blind, va_recv hK hP (ci := 9) (q0 := 0) rfl rfl, xPc_pre hPc hK hDc hE hS hFc hV⟩ rfl rfl hl.1 rfl (lv_room (Nat.le_of_ble_eq_true rfl)) dL_antijoin_7 ⟨Nat.le_of_ble_eq_true rfl, Nat.le_of_ble_eq_true rfl⟩) hS (fun q _ h => hFc q h) hFc (fun q _ h => hFc q h) (fun E ce q9 u t H_1 locs ht hvm hpx hBX hz1 hk1 hS hq9 hcv hcl => ?_) (fun r u t H_1 locs ht hvm hw hB hz1 hk1 hS => ?_)
  · rcases hBX with ⟨rfl, e_0⟩ | ⟨rfl, e_0, e_1⟩ | ⟨rfl, e_0, e_1, e_2⟩ | ⟨rfl, e_0, e_1, e_2, e_3⟩ | ⟨rfl, e_0, e_1, e_2, e_3, e_4⟩ | ⟨rfl, e_0, e_1, e_2, e_3, e_4, e_5⟩ | ⟨rfl, e_0, e_1, e_2, e_3, e_4, e_5, e_6, e_7⟩
    · have c_2 : a0.toInt < 0 := e_0
      refine vx_catch hown (tableOf []) ⟨0, 12, 15, 20⟩ (tableOf [(0, 12, 19, 15)]) (by rw [htab]; rfl) (xpass0) (by decide) (by decide) w_1 (va_Nw.use rfl hV.2.2.2.2.2.1.2.2) hq9 hcv hcl ?_
      have hP : va_P D vwCl [] H_1 := fun k q h => by simp at h
      have hD : va_D A [] := ⟨fun i j p q h => by simp at h, fun k q h => by simp at h⟩
      refine W.widen (k := 5) (n := 30) (Nat.le_of_ble_eq_true rfl) (Nat.le_of_ble_eq_true rfl) ?_
      refine lv_astore (lv' := [(5, .ref q9), (0, .ref x), (1, .int a0), (2, .int a1), (3, .int a2), (4, .ref ou)]) hx hb dL_antijoin_15 hl (by decide) rfl (fun ls hl => ?_)
      refine lv_iconst (v := 1) hx hb dL_antijoin_17 (by decide) ?_
      have hP9 := hP.sub (ws' := []) [] rfl
      have hD9 := hD.sub (ws' := []) [] (by decide) rfl
      refine W.widen (k := 5) (n := 30) (Nat.le_of_ble_eq_true rfl) (Nat.le_of_ble_eq_true rfl) ?_
      exact vx_ret (W.iret (v := 1) hx hb hr (fun t ht hW => ⟨⟨1, (), rfl, Or.inl ⟨rfl, c_2⟩, by rw [ht]; exact hP9, hD9⟩, hS.F ht⟩) hS.2.2 dL_antijoin_18)
    · have c_3 : 0 ≤ a0.toInt := e_0
      have c_4 : 6 ≤ a0.toInt := e_1
      refine vx_catch hown (tableOf []) ⟨0, 12, 15, 20⟩ (tableOf [(0, 12, 19, 15)]) (by rw [htab]; rfl) (xpass0) (by decide) (by decide) w_1 (va_Nw.use rfl hV.2.2.2.2.2.1.2.2) hq9 hcv hcl ?_
      have hP : va_P D vwCl [] H_1 := fun k q h => by simp at h
      have hD : va_D A [] := ⟨fun i j p q h => by simp at h, fun k q h => by simp at h⟩
      refine W.widen (k := 5) (n := 30) (Nat.le_of_ble_eq_true rfl) (Nat.le_of_ble_eq_true rfl) ?_
      refine lv_astore (lv' := [(5, .ref q9), (0, .ref x), (1, .int a0), (2, .int a1), (3, .int a2), (4, .ref ou)]) hx hb dL_antijoin_15 hl (by decide) rfl (fun ls hl => ?_)
      refine lv_iconst (v := 1) hx hb dL_antijoin_17 (by decide) ?_
      have hP9 := hP.sub (ws' := []) [] rfl
      have hD9 := hD.sub (ws' := []) [] (by decide) rfl
      refine W.widen (k := 5) (n := 30) (Nat.le_of_ble_eq_true rfl) (Nat.le_of_ble_eq_true rfl) ?_
      exact vx_ret (W.iret (v := 1) hx hb hr (fun t ht hW => ⟨⟨1, (), rfl, Or.inr (Or.inl ⟨rfl, c_3, c_4⟩), by rw [ht]; exact hP9, hD9⟩, hS.F ht⟩) hS.2.2 dL_antijoin_18)
    · have c_5 : 0 ≤ a0.toInt := e_0
      have c_6 : a0.toInt < 6 := e_1
      have c_7 : a1.toInt < 0 := e_2
      refine vx_catch hown (tableOf []) ⟨0, 12, 15, 20⟩ (tableOf [(0, 12, 19, 15)]) (by rw [htab]; rfl) (xpass0) (by decide) (by decide) w_1 (va_Nw.use rfl hV.2.2.2.2.2.1.2.2) hq9 hcv hcl ?_
      have hP : va_P D vwCl [] H_1 := fun k q h => by simp at h
      have hD : va_D A [] := ⟨fun i j p q h => by simp at h, fun k q h => by simp at h⟩
      refine W.widen (k := 5) (n := 30) (Nat.le_of_ble_eq_true rfl) (Nat.le_of_ble_eq_true rfl) ?_
      refine lv_astore (lv' := [(5, .ref q9), (0, .ref x), (1, .int a0), (2, .int a1), (3, .int a2), (4, .ref ou)]) hx hb dL_antijoin_15 hl (by decide) rfl (fun ls hl => ?_)
      refine lv_iconst (v := 1) hx hb dL_antijoin_17 (by decide) ?_
      have hP9 := hP.sub (ws' := []) [] rfl
      have hD9 := hD.sub (ws' := []) [] (by decide) rfl
      refine W.widen (k := 5) (n := 30) (Nat.le_of_ble_eq_true rfl) (Nat.le_of_ble_eq_true rfl) ?_
      exact vx_ret (W.iret (v := 1) hx hb hr (fun t ht hW => ⟨⟨1, (), rfl, Or.inr (Or.inr (Or.inl ⟨rfl, c_5, c_6, c_7⟩)), by rw [ht]; exact hP9, hD9⟩, hS.F ht⟩) hS.2.2 dL_antijoin_18)
    · have c_8 : 0 ≤ a0.toInt := e_0
      have c_9 : a0.toInt < 6 := e_1
      have c_10 : 0 ≤ a1.toInt := e_2
      have c_11 : 6 ≤ a1.toInt := e_3
      refine vx_catch hown (tableOf []) ⟨0, 12, 15, 20⟩ (tableOf [(0, 12, 19, 15)]) (by rw [htab]; rfl) (xpass0) (by decide) (by decide) w_1 (va_Nw.use rfl hV.2.2.2.2.2.1.2.2) hq9 hcv hcl ?_
      have hP : va_P D vwCl [] H_1 := fun k q h => by simp at h
      have hD : va_D A [] := ⟨fun i j p q h => by simp at h, fun k q h => by simp at h⟩
      refine W.widen (k := 5) (n := 30) (Nat.le_of_ble_eq_true rfl) (Nat.le_of_ble_eq_true rfl) ?_
      refine lv_astore (lv' := [(5, .ref q9), (0, .ref x), (1, .int a0), (2, .int a1), (3, .int a2), (4, .ref ou)]) hx hb dL_antijoin_15 hl (by decide) rfl (fun ls hl => ?_)
      refine lv_iconst (v := 1) hx hb dL_antijoin_17 (by decide) ?_
      have hP9 := hP.sub (ws' := []) [] rfl
      have hD9 := hD.sub (ws' := []) [] (by decide) rfl
      refine W.widen (k := 5) (n := 30) (Nat.le_of_ble_eq_true rfl) (Nat.le_of_ble_eq_true rfl) ?_
      exact vx_ret (W.iret (v := 1) hx hb hr (fun t ht hW => ⟨⟨1, (), rfl, Or.inr (Or.inr (Or.inr (Or.inl ⟨rfl, c_8, c_9, c_10, c_11⟩))), by rw [ht]; exact hP9, hD9⟩, hS.F ht⟩) hS.2.2 dL_antijoin_18)
    · have c_12 : 0 ≤ a0.toInt := e_0
      have c_13 : a0.toInt < 6 := e_1
      have c_14 : 0 ≤ a1.toInt := e_2
      have c_15 : a1.toInt < 6 := e_3
      have c_16 : a2.toInt < 0 := e_4
      refine vx_catch hown (tableOf []) ⟨0, 12, 15, 20⟩ (tableOf [(0, 12, 19, 15)]) (by rw [htab]; rfl) (xpass0) (by decide) (by decide) w_1 (va_Nw.use rfl hV.2.2.2.2.2.1.2.2) hq9 hcv hcl ?_
      have hP : va_P D vwCl [] H_1 := fun k q h => by simp at h
      have hD : va_D A [] := ⟨fun i j p q h => by simp at h, fun k q h => by simp at h⟩
      refine W.widen (k := 5) (n := 30) (Nat.le_of_ble_eq_true rfl) (Nat.le_of_ble_eq_true rfl) ?_
      refine lv_astore (lv' := [(5, .ref q9), (0, .ref x), (1, .int a0), (2, .int a1), (3, .int a2), (4, .ref ou)]) hx hb dL_antijoin_15 hl (by decide) rfl (fun ls hl => ?_)
      refine lv_iconst (v := 1) hx hb dL_antijoin_17 (by decide) ?_
      have hP9 := hP.sub (ws' := []) [] rfl
      have hD9 := hD.sub (ws' := []) [] (by decide) rfl
      refine W.widen (k := 5) (n := 30) (Nat.le_of_ble_eq_true rfl) (Nat.le_of_ble_eq_true rfl) ?_
      exact vx_ret (W.iret (v := 1) hx hb hr (fun t ht hW => ⟨⟨1, (), rfl, Or.inr (Or.inr (Or.inr (Or.inr (Or.inl ⟨rfl, c_12, c_13, c_14, c_15, c_16⟩)))), by rw [ht]; exact hP9, hD9⟩, hS.F ht⟩) hS.2.2 dL_antijoin_18)
    · have c_17 : 0 ≤ a0.toInt := e_0
      have c_18 : a0.toInt < 6 := e_1
      have c_19 : 0 ≤ a1.toInt := e_2
      have c_20 : a1.toInt < 6 := e_3
      have c_21 : 0 ≤ a2.toInt := e_4
      have c_22 : 6 ≤ a2.toInt := e_5
      refine vx_catch hown (tableOf []) ⟨0, 12, 15, 20⟩ (tableOf [(0, 12, 19, 15)]) (by rw [htab]; rfl) (xpass0) (by decide) (by decide) w_1 (va_Nw.use rfl hV.2.2.2.2.2.1.2.2) hq9 hcv hcl ?_
      have hP : va_P D vwCl [] H_1 := fun k q h => by simp at h
      have hD : va_D A [] := ⟨fun i j p q h => by simp at h, fun k q h => by simp at h⟩
      refine W.widen (k := 5) (n := 30) (Nat.le_of_ble_eq_true rfl) (Nat.le_of_ble_eq_true rfl) ?_
      refine lv_astore (lv' := [(5, .ref q9), (0, .ref x), (1, .int a0), (2, .int a1), (3, .int a2), (4, .ref ou)]) hx hb dL_antijoin_15 hl (by decide) rfl (fun ls hl => ?_)
      refine lv_iconst (v := 1) hx hb dL_antijoin_17 (by decide) ?_
      have hP9 := hP.sub (ws' := []) [] rfl
      have hD9 := hD.sub (ws' := []) [] (by decide) rfl
      refine W.widen (k := 5) (n := 30) (Nat.le_of_ble_eq_true rfl) (Nat.le_of_ble_eq_true rfl) ?_
      exact vx_ret (W.iret (v := 1) hx hb hr (fun t ht hW => ⟨⟨1, (), rfl, Or.inr (Or.inr (Or.inr (Or.inr (Or.inr (Or.inl ⟨rfl, c_17, c_18, c_19, c_20, c_21, c_22⟩))))), by rw [ht]; exact hP9, hD9⟩, hS.F ht⟩) hS.2.2 dL_antijoin_18)
    · have c_23 : 0 ≤ a0.toInt := e_0
      have c_24 : a0.toInt < 6 := e_1
      have c_25 : 0 ≤ a1.toInt := e_2
      have c_26 : a1.toInt < 6 := e_3
      have c_27 : 0 ≤ a2.toInt := e_4
      have c_28 : a2.toInt < 6 := e_5
      have c_29 : 0 ≤ a0.toInt := e_6
      have c_30 : a0.toInt < 6 := e_7
      refine vx_catch hown (tableOf [(0, 12, 15, 20)]) ⟨0, 12, 19, 15⟩ (tableOf []) (by rw [htab]; rfl) (xpass1 (Or.inr ⟨by decide, iob, w_1, hV.2.2.2.2.2.2.1.1⟩)) (by decide) (by decide) w_2 (va_Nw.use rfl hV.2.2.2.2.2.1.2.1) hq9 hcv hcl ?_
      have hP : va_P D vwCl [] H_1 := fun k q h => by simp at h
      have hD : va_D A [] := ⟨fun i j p q h => by simp at h, fun k q h => by simp at h⟩
      refine W.widen (k := 5) (n := 30) (Nat.le_of_ble_eq_true rfl) (Nat.le_of_ble_eq_true rfl) ?_
      refine lv_astore (lv' := [(5, .ref q9), (0, .ref x), (1, .int a0), (2, .int a1), (3, .int a2), (4, .ref ou)]) hx hb dL_antijoin_19 hl (by decide) rfl (fun ls hl => ?_)
      refine lv_iconst (v := 2) hx hb dL_antijoin_21 (by decide) ?_
      have hP9 := hP.sub (ws' := []) [] rfl
      have hD9 := hD.sub (ws' := []) [] (by decide) rfl
      refine W.widen (k := 5) (n := 30) (Nat.le_of_ble_eq_true rfl) (Nat.le_of_ble_eq_true rfl) ?_
      exact vx_ret (W.iret (v := 2) hx hb hr (fun t ht hW => ⟨⟨2, (), rfl, Or.inr (Or.inr (Or.inr (Or.inr (Or.inr (Or.inr ⟨rfl, c_23, c_24, c_25, c_26, c_27, c_28, c_29, c_30⟩))))), by rw [ht]; exact hP9, hD9⟩, hS.F ht⟩) hS.2.2 dL_antijoin_22)
  · exact hw.elim
def wk_L_project : List Cond := .codeWith yL_project cL_project 6 (some .int) [(0, 12, 15, 20), (0, 12, 19, 13), (0, 12, 23, 15)] :: (([.classLink RL 20 iob, .classLink RL 13 iae, .classLink RL 15 ise, .methodLink RL 66 yX10_project, .instanceMethod yX10_project, .selects RX10 yX10_project yX10_project, .initialized RX10, .code yX10_project cX10_project 7 (some .int), .classLink RX10 70 iae, .initialized iae, .methodLink RX10 138 yX10_checkSlot, .static yX10_checkSlot, .code yX10_checkSlot cX10_checkSlot 1 none, .classLink RX10 91 iob, .initialized iob, .methodLink RX10 153 yX10_tableIn, .instanceMethod yX10_tableIn, .selects RX10 yX10_tableIn yX10_tableIn, .code yX10_tableIn cX10_tableIn 2 (some (.object "DocumentSpanner$SortedInts")), .fieldLink RX10 12 "DocumentSpanner" "state" "LDocumentSpanner$State;", .fieldLink RX10 96 "DocumentSpanner$State" "filled" "[Z", .classLink RX10 80 ise, .initialized ise] : List Cond) ++ wsX100 ++ wsX80 ++ (vx_atS RX10 74 iae ["java/lang/RuntimeException", "java/lang/Exception"]).filter goodWord ++ (vx_atS RX10 84 ise ["java/lang/RuntimeException", "java/lang/Exception"]).filter goodWord ++ (vx_atS RX10 95 iob ["java/lang/RuntimeException", "java/lang/Exception"]).filter goodWord)
set_option maxRecDepth 20000 in
theorem ggk_L_project_X10_project : GoodIn wk_L_project wk_X10_project := goodIn_ca (goodIn_ca (goodIn_ca (goodIn_ca (goodIn_ca (goodIn_r _ [8, 9, 10, 11, 12, 7, 13, 14, 15, 16, 17, 18, 19, 20, 21, 22, 23] (by decide +kernel) (by decide +kernel)) (goodIn_sub (fun _ h => List.mem_cons_of_mem _ (List.mem_append_left _ (List.mem_append_left _ (List.mem_append_left _ (List.mem_append_left _ (List.mem_append_right _ h)))))) (by decide +kernel))) (goodIn_sub (fun _ h => List.mem_cons_of_mem _ (List.mem_append_left _ (List.mem_append_left _ (List.mem_append_left _ (List.mem_append_right _ h))))) (by decide +kernel))) (goodIn_sub (fun _ h => List.mem_cons_of_mem _ (List.mem_append_left _ (List.mem_append_left _ (List.mem_append_right _ h)))) (by decide +kernel))) (goodIn_sub (fun _ h => List.mem_cons_of_mem _ (List.mem_append_left _ (List.mem_append_right _ h))) (by decide +kernel))) (goodIn_sub (fun _ h => List.mem_cons_of_mem _ (List.mem_append_right _ h)) (by decide +kernel))
set_option maxRecDepth 20000 in
theorem gk_L_project_X10_project : GoodIn wk_L_project (wsV RL 66 RX10 yX10_project wk_X10_project) := goodIn_app (goodIn_r _ [4, 5, 6, 7] (by decide +kernel) (by decide +kernel)) ggk_L_project_X10_project
set_option maxHeartbeats 4000000 in
set_option maxRecDepth 100000 in
theorem k_L_project (l : Launch) (htr : l.stackTraces = false) (D : va_G) (cI cJ cZ : ClassId) (x : Nat) (st : Nat) (kp : Nat) (bf : Nat) (o1 : Nat) (o2 : Nat) (o3 : Nat) (o4 : Nat) (o5 : Nat) (o6 : Nat) (lt : Nat) (tb : Nat) (fl : Nat) (wt : Nat) (ou : Nat) (a0 : Int32) (a1 : Int32) (a2 : Int32) (sz : Nat) : vx_Met l yL_project wk_L_project ({ frames := 9, cells := 4, slots := 24, locals := 149 }) (xPc D cI cJ cZ [.ref x, .int a0, .int a1, .int a2, .ref ou] [(x, .inr (9, [.ref st, .ref kp, .int 0, .ref bf, .int 0, .int (-1), .int (-1), .int 0, .ref o1, .ref o2, .ref o3, .ref o4, .ref o5, .ref o6])), (st, .inr (8, [.ref lt, .ref tb, .ref fl, .ref wt, .int 0, .null])), (fl, .inl (cZ, 6, .inl (fun _ => 0))), (ou, .inl (cJ, 1, .inr (.inl (fun _ => 0))))] sz) (va_Qi (fun (r : Int32) (u : Unit) => (r = 1 ∧ a0.toInt < 0) ∨ (r = 1 ∧ 0 ≤ a0.toInt ∧ 6 ≤ a0.toInt) ∨ (r = 1 ∧ 0 ≤ a0.toInt ∧ a0.toInt < 6 ∧ a2.toInt < 0) ∨ (r = 1 ∧ 0 ≤ a0.toInt ∧ a0.toInt < 6 ∧ 0 ≤ a2.toInt ∧ 6 ≤ a2.toInt) ∨ (r = 2 ∧ 0 ≤ a0.toInt ∧ a0.toInt < 6 ∧ 0 ≤ a2.toInt ∧ a2.toInt < 6 ∧ a1.toInt < 0) ∨ (r = 3 ∧ 0 ≤ a0.toInt ∧ a0.toInt < 6 ∧ 0 ≤ a2.toInt ∧ a2.toInt < 6 ∧ 0 ≤ a1.toInt ∧ a1.toInt < 8 ∧ 0 ≤ a0.toInt ∧ a0.toInt < 6) ∨ (r = 2 ∧ 0 ≤ a0.toInt ∧ a0.toInt < 6 ∧ 0 ≤ a2.toInt ∧ a2.toInt < 6 ∧ 0 ≤ a1.toInt ∧ 8 ≤ a1.toInt)) (fun (u : Unit) (t : State) => va_P D vwCl ([] : va_W) t.heap ∧ va_D (va_A [(x, .inr (9, [.ref st, .ref kp, .int 0, .ref bf, .int 0, .int (-1), .int (-1), .int 0, .ref o1, .ref o2, .ref o3, .ref o4, .ref o5, .ref o6])), (st, .inr (8, [.ref lt, .ref tb, .ref fl, .ref wt, .int 0, .null])), (fl, .inl (cZ, 6, .inl (fun _ => 0))), (ou, .inl (cJ, 1, .inr (.inl (fun _ => 0))))] sz) ([] : va_W)) (va_A [(x, .inr (9, [.ref st, .ref kp, .int 0, .ref bf, .int 0, .int (-1), .int (-1), .int 0, .ref o1, .ref o2, .ref o3, .ref o4, .ref o5, .ref o6])), (st, .inr (8, [.ref lt, .ref tb, .ref fl, .ref wt, .int 0, .null])), (fl, .inl (cZ, 6, .inl (fun _ => 0))), (ou, .inl (cJ, 1, .inr (.inl (fun _ => 0))))] sz)) (vx_X (fun _ : Unit => True) (fun (E : String) (_ : Unit) (_ : State) => False) (va_A [(x, .inr (9, [.ref st, .ref kp, .int 0, .ref bf, .int 0, .int (-1), .int (-1), .int 0, .ref o1, .ref o2, .ref o3, .ref o4, .ref o5, .ref o6])), (st, .inr (8, [.ref lt, .ref tb, .ref fl, .ref wt, .int 0, .null])), (fl, .inl (cZ, 6, .inl (fun _ => 0))), (ou, .inl (cJ, 1, .inr (.inl (fun _ => 0))))] sz)) 4 24 (va_A [(x, .inr (9, [.ref st, .ref kp, .int 0, .ref bf, .int 0, .int (-1), .int (-1), .int 0, .ref o1, .ref o2, .ref o3, .ref o4, .ref o5, .ref o6])), (st, .inr (8, [.ref lt, .ref tb, .ref fl, .ref wt, .int 0, .null])), (fl, .inl (cZ, 6, .inl (fun _ => 0))), (ou, .inl (cJ, 1, .inr (.inl (fun _ => 0))))] sz) := by
  refine vx_ofWH (cc := cL_project) (maxL := 6) (ret := (some .int)) (by decide) rfl ?_
  intro p e s m args below meth c s₁ B hml hv
  obtain ⟨rfl, hsz, hP, hK, hD0, hE, hV⟩ := hv
  have hx := B.exec
  have hb := B.bytes
  have hr := B.returns
  have hts := atoms_spec (ws := wk_L_project) B.pre
  have hown : s.vm.findClass RL = some m.cls := findClass_of_methodNamed B.named
  have hlocks := B.notSynchronized
  have htab : c.exceptionTable.toList = tableOf [(0, 12, 15, 20), (0, 12, 19, 13), (0, 12, 23, 15)] := vx_table (x := yL_project) B (hts _ List.mem_cons_self)
  have w_1 := hts (.classLink RL 20 iob) (List.mem_of_getElem? (i := 1) rfl)
  have w_2 := hts (.classLink RL 13 iae) (List.mem_of_getElem? (i := 2) rfl)
  have w_3 := hts (.classLink RL 15 ise) (List.mem_of_getElem? (i := 3) rfl)
  subst hsz
  have hD := hD0.self (sz := s.heap.size)
  generalize hAe : va_A [(x, .inr (9, [.ref st, .ref kp, .int 0, .ref bf, .int 0, .int (-1), .int (-1), .int 0, .ref o1, .ref o2, .ref o3, .ref o4, .ref o5, .ref o6])), (st, .inr (8, [.ref lt, .ref tb, .ref fl, .ref wt, .int 0, .null])), (fl, .inl (cZ, 6, .inl (fun _ => 0))), (ou, .inl (cJ, 1, .inr (.inl (fun _ => 0))))] s.heap.size = A at hD hE ⊢
  have hA : ∀ q : Nat, s.heap.size ≤ q → A q := fun q h => by rw [← hAe]; exact Or.inr h
  have hS : va_S A s.heap s.heap [] := va_S.rf
  have hP : va_P D vwCl [(x, .inr (9, [.ref st, .ref kp, .int 0, .ref bf, .int 0, .int (-1), .int (-1), .int 0, .ref o1, .ref o2, .ref o3, .ref o4, .ref o5, .ref o6])), (st, .inr (8, [.ref lt, .ref tb, .ref fl, .ref wt, .int 0, .null])), (fl, .inl (cZ, 6, .inl (fun _ => 0))), (ou, .inl (cJ, 1, .inr (.inl (fun _ => 0))))] s.heap := hP
  have hl := lv_entry ([.ref x, .int a0, .int a1, .int a2, .ref ou]) (n := 6) (Nat.le_of_ble_eq_true rfl)
  rw [lg_entry_eq]
  generalize (lg_sl ([.ref x, .int a0, .int a1, .int a2, .ref ou]) ++ List.replicate (6 - (lg_sl ([.ref x, .int a0, .int a1, .int a2, .ref ou])).length) Slot.unset).toArray = ls at hl ⊢
  have hl : lv_has ls 6 [(0, .ref x), (1, .int a0), (2, .int a1), (3, .int a2), (4, .ref ou)] := hl
  refine lv_aload hx hb dL_project_0 (lv_at hl 4 rfl) ?_
  refine lv_iconst (v := 0) hx hb dL_project_2 (by decide) ?_
  refine lv_aload_n hx hb dL_project_3 rfl (lv_at hl 0 rfl) ?_
  refine lv_iload_n hx hb dL_project_4 rfl (lv_at hl 1 rfl) ?_
  refine lv_iload_n hx hb dL_project_5 rfl (lv_at hl 2 rfl) ?_
  refine lv_iload_n hx hb dL_project_6 rfl (lv_at hl 3 rfl) ?_
  have hPc := hP.sub (ws' := [(x, .inr (9, [.ref st, .ref kp, .int 0, .ref bf, .int 0, .int (-1), .int (-1), .int 0, .ref o1, .ref o2, .ref o3, .ref o4, .ref o5, .ref o6])), (st, .inr (8, [.ref lt, .ref tb, .ref fl, .ref wt, .int 0, .null])), (fl, .inl (cZ, 6, .inl (fun _ => 0)))]) [0, 1, 2] rfl
  have hDc := hD.sub (ws' := [(x, .inr (9, [.ref st, .ref kp, .int 0, .ref bf, .int 0, .int (-1), .int (-1), .int 0, .ref o1, .ref o2, .ref o3, .ref o4, .ref o5, .ref o6])), (st, .inr (8, [.ref lt, .ref tb, .ref fl, .ref wt, .int 0, .null])), (fl, .inl (cZ, 6, .inl (fun _ => 0)))]) [0, 1, 2] (by decide) rfl
  have hFc := va_free (wc := [(x, .inr (9, [.ref st, .ref kp, .int 0, .ref bf, .int 0, .int (-1), .int (-1), .int 0, .ref o1, .ref o2, .ref o3, .ref o4, .ref o5, .ref o6])), (st, .inr (8, [.ref lt, .ref tb, .ref fl, .ref wt, .int 0, .null])), (fl, .inl (cZ, 6, .inl (fun _ => 0)))]) hD hS hA [0, 1, 2] rfl
  refine vx_calli (vx_runV (As := [.int a0, .int a1, .int a2]) (rest := [.int 0, .ref ou]) ⟨hx, hb, hml, hown, hts⟩ (k_X10_project l htr D cI cJ cZ x st kp bf o1 o2 o3 o4 o5 o6 lt tb fl wt a0 a1 a2 s.heap.size) (cwV 3 hts gk_L_project_X10_project rfl rfl rfl (by decide +kernel) ⟨Nat.le_of_ble_eq_true rfl, Nat.le_of_ble_eq_true rfl⟩) ⟨xPc_blind, va_recv hK hP (ci := 9) (q0 := 0) rfl rfl, xPc_pre hPc hK hDc hE hS hFc hV⟩ rfl rfl hl.1 rfl (lv_room (Nat.le_of_ble_eq_true rfl)) dL_project_7 ⟨Nat.le_of_ble_eq_true rfl, Nat.le_of_ble_eq_true rfl⟩) hS (fun q _ h => hFc q h) hFc (fun q _ h => hFc q h) (fun E ce q9 u t H_1 locs ht hvm hpx hBX hz1 hk1 hS hq9 hcv hcl => ?_) (fun r u t H_1 locs ht hvm hw hB hz1 hk1 hS => ?_)
  · rcases hBX with ⟨rfl, e_0⟩ | ⟨rfl, e_0, e_1⟩ | ⟨rfl, e_0, e_1, e_2⟩ | ⟨rfl, e_0, e_1, e_2, e_3⟩ | ⟨rfl, e_0, e_1, e_2, e_3, e_4⟩ | ⟨rfl, e_0, e_1, e_2, e_3, e_4, e_5, e_6, e_7⟩ | ⟨rfl, e_0, e_1, e_2, e_3, e_4, e_5⟩
    · have c_2 : a0.toInt < 0 := e_0
      refine vx_catch hown (tableOf []) ⟨0, 12, 15, 20⟩ (tableOf [(0, 12, 19, 13), (0, 12, 23, 15)]) (by rw [htab]; rfl) (xpass0) (by decide) (by decide) w_1 (va_Nw.use rfl hV.2.2.2.2.2.1.2.2) hq9 hcv hcl ?_
      have hP : va_P D vwCl [] H_1 := fun k q h => by simp at h
      have hD : va_D A [] := ⟨fun i j p q h => by simp at h, fun k q h => by simp at h⟩
      refine W.widen (k := 4) (n := 24) (Nat.le_of_ble_eq_true rfl) (Nat.le_of_ble_eq_true rfl) ?_
      refine lv_astore (lv' := [(5, .ref q9), (0, .ref x), (1, .int a0), (2, .int a1), (3, .int a2), (4, .ref ou)]) hx hb dL_project_15 hl (by decide) rfl (fun ls hl => ?_)
      refine lv_iconst (v := 1) hx hb dL_project_17 (by decide) ?_
      have hP9 := hP.sub (ws' := []) [] rfl
      have hD9 := hD.sub (ws' := []) [] (by decide) rfl
      refine W.widen (k := 4) (n := 24) (Nat.le_of_ble_eq_true rfl) (Nat.le_of_ble_eq_true rfl) ?_
      exact vx_ret (W.iret (v := 1) hx hb hr (fun t ht hW => ⟨⟨1, (), rfl, Or.inl ⟨rfl, c_2⟩, by rw [ht]; exact hP9, hD9⟩, hS.F ht⟩) hS.2.2 dL_project_18)
    · have c_3 : 0 ≤ a0.toInt := e_0
      have c_4 : 6 ≤ a0.toInt := e_1
      refine vx_catch hown (tableOf []) ⟨0, 12, 15, 20⟩ (tableOf [(0, 12, 19, 13), (0, 12, 23, 15)]) (by rw [htab]; rfl) (xpass0) (by decide) (by decide) w_1 (va_Nw.use rfl hV.2.2.2.2.2.1.2.2) hq9 hcv hcl ?_
      have hP : va_P D vwCl [] H_1 := fun k q h => by simp at h
      have hD : va_D A [] := ⟨fun i j p q h => by simp at h, fun k q h => by simp at h⟩
      refine W.widen (k := 4) (n := 24) (Nat.le_of_ble_eq_true rfl) (Nat.le_of_ble_eq_true rfl) ?_
      refine lv_astore (lv' := [(5, .ref q9), (0, .ref x), (1, .int a0), (2, .int a1), (3, .int a2), (4, .ref ou)]) hx hb dL_project_15 hl (by decide) rfl (fun ls hl => ?_)
      refine lv_iconst (v := 1) hx hb dL_project_17 (by decide) ?_
      have hP9 := hP.sub (ws' := []) [] rfl
      have hD9 := hD.sub (ws' := []) [] (by decide) rfl
      refine W.widen (k := 4) (n := 24) (Nat.le_of_ble_eq_true rfl) (Nat.le_of_ble_eq_true rfl) ?_
      exact vx_ret (W.iret (v := 1) hx hb hr (fun t ht hW => ⟨⟨1, (), rfl, Or.inr (Or.inl ⟨rfl, c_3, c_4⟩), by rw [ht]; exact hP9, hD9⟩, hS.F ht⟩) hS.2.2 dL_project_18)
    · have c_5 : 0 ≤ a0.toInt := e_0
      have c_6 : a0.toInt < 6 := e_1
      have c_7 : a2.toInt < 0 := e_2
      refine vx_catch hown (tableOf []) ⟨0, 12, 15, 20⟩ (tableOf [(0, 12, 19, 13), (0, 12, 23, 15)]) (by rw [htab]; rfl) (xpass0) (by decide) (by decide) w_1 (va_Nw.use rfl hV.2.2.2.2.2.1.2.2) hq9 hcv hcl ?_
      have hP : va_P D vwCl [] H_1 := fun k q h => by simp at h
      have hD : va_D A [] := ⟨fun i j p q h => by simp at h, fun k q h => by simp at h⟩
      refine W.widen (k := 4) (n := 24) (Nat.le_of_ble_eq_true rfl) (Nat.le_of_ble_eq_true rfl) ?_
      refine lv_astore (lv' := [(5, .ref q9), (0, .ref x), (1, .int a0), (2, .int a1), (3, .int a2), (4, .ref ou)]) hx hb dL_project_15 hl (by decide) rfl (fun ls hl => ?_)
      refine lv_iconst (v := 1) hx hb dL_project_17 (by decide) ?_
      have hP9 := hP.sub (ws' := []) [] rfl
      have hD9 := hD.sub (ws' := []) [] (by decide) rfl
      refine W.widen (k := 4) (n := 24) (Nat.le_of_ble_eq_true rfl) (Nat.le_of_ble_eq_true rfl) ?_
      exact vx_ret (W.iret (v := 1) hx hb hr (fun t ht hW => ⟨⟨1, (), rfl, Or.inr (Or.inr (Or.inl ⟨rfl, c_5, c_6, c_7⟩)), by rw [ht]; exact hP9, hD9⟩, hS.F ht⟩) hS.2.2 dL_project_18)
    · have c_8 : 0 ≤ a0.toInt := e_0
      have c_9 : a0.toInt < 6 := e_1
      have c_10 : 0 ≤ a2.toInt := e_2
      have c_11 : 6 ≤ a2.toInt := e_3
      refine vx_catch hown (tableOf []) ⟨0, 12, 15, 20⟩ (tableOf [(0, 12, 19, 13), (0, 12, 23, 15)]) (by rw [htab]; rfl) (xpass0) (by decide) (by decide) w_1 (va_Nw.use rfl hV.2.2.2.2.2.1.2.2) hq9 hcv hcl ?_
      have hP : va_P D vwCl [] H_1 := fun k q h => by simp at h
      have hD : va_D A [] := ⟨fun i j p q h => by simp at h, fun k q h => by simp at h⟩
      refine W.widen (k := 4) (n := 24) (Nat.le_of_ble_eq_true rfl) (Nat.le_of_ble_eq_true rfl) ?_
      refine lv_astore (lv' := [(5, .ref q9), (0, .ref x), (1, .int a0), (2, .int a1), (3, .int a2), (4, .ref ou)]) hx hb dL_project_15 hl (by decide) rfl (fun ls hl => ?_)
      refine lv_iconst (v := 1) hx hb dL_project_17 (by decide) ?_
      have hP9 := hP.sub (ws' := []) [] rfl
      have hD9 := hD.sub (ws' := []) [] (by decide) rfl
      refine W.widen (k := 4) (n := 24) (Nat.le_of_ble_eq_true rfl) (Nat.le_of_ble_eq_true rfl) ?_
      exact vx_ret (W.iret (v := 1) hx hb hr (fun t ht hW => ⟨⟨1, (), rfl, Or.inr (Or.inr (Or.inr (Or.inl ⟨rfl, c_8, c_9, c_10, c_11⟩))), by rw [ht]; exact hP9, hD9⟩, hS.F ht⟩) hS.2.2 dL_project_18)
    · have c_12 : 0 ≤ a0.toInt := e_0
      have c_13 : a0.toInt < 6 := e_1
      have c_14 : 0 ≤ a2.toInt := e_2
      have c_15 : a2.toInt < 6 := e_3
      have c_16 : a1.toInt < 0 := e_4
      refine vx_catch hown (tableOf [(0, 12, 15, 20)]) ⟨0, 12, 19, 13⟩ (tableOf [(0, 12, 23, 15)]) (by rw [htab]; rfl) (xpass1 (Or.inr ⟨by decide, iob, w_1, hV.2.2.2.2.2.2.1.2.2⟩)) (by decide) (by decide) w_2 (va_Nw.use rfl hV.2.2.2.2.2.1.1) hq9 hcv hcl ?_
      have hP : va_P D vwCl [] H_1 := fun k q h => by simp at h
      have hD : va_D A [] := ⟨fun i j p q h => by simp at h, fun k q h => by simp at h⟩
      refine W.widen (k := 4) (n := 24) (Nat.le_of_ble_eq_true rfl) (Nat.le_of_ble_eq_true rfl) ?_
      refine lv_astore (lv' := [(5, .ref q9), (0, .ref x), (1, .int a0), (2, .int a1), (3, .int a2), (4, .ref ou)]) hx hb dL_project_19 hl (by decide) rfl (fun ls hl => ?_)
      refine lv_iconst (v := 2) hx hb dL_project_21 (by decide) ?_
      have hP9 := hP.sub (ws' := []) [] rfl
      have hD9 := hD.sub (ws' := []) [] (by decide) rfl
      refine W.widen (k := 4) (n := 24) (Nat.le_of_ble_eq_true rfl) (Nat.le_of_ble_eq_true rfl) ?_
      exact vx_ret (W.iret (v := 2) hx hb hr (fun t ht hW => ⟨⟨2, (), rfl, Or.inr (Or.inr (Or.inr (Or.inr (Or.inl ⟨rfl, c_12, c_13, c_14, c_15, c_16⟩)))), by rw [ht]; exact hP9, hD9⟩, hS.F ht⟩) hS.2.2 dL_project_22)
    · have c_17 : 0 ≤ a0.toInt := e_0
      have c_18 : a0.toInt < 6 := e_1
      have c_19 : 0 ≤ a2.toInt := e_2
      have c_20 : a2.toInt < 6 := e_3
      have c_21 : 0 ≤ a1.toInt := e_4
      have c_22 : a1.toInt < 8 := e_5
      have c_23 : 0 ≤ a0.toInt := e_6
      have c_24 : a0.toInt < 6 := e_7
      refine vx_catch hown (tableOf [(0, 12, 15, 20), (0, 12, 19, 13)]) ⟨0, 12, 23, 15⟩ (tableOf []) (by rw [htab]; rfl) (xpass2 (Or.inr ⟨by decide, iob, w_1, hV.2.2.2.2.2.2.1.1⟩) (Or.inr ⟨by decide, iae, w_2, hV.2.2.2.2.2.2.1.2.1⟩)) (by decide) (by decide) w_3 (va_Nw.use rfl hV.2.2.2.2.2.1.2.1) hq9 hcv hcl ?_
      have hP : va_P D vwCl [] H_1 := fun k q h => by simp at h
      have hD : va_D A [] := ⟨fun i j p q h => by simp at h, fun k q h => by simp at h⟩
      refine W.widen (k := 4) (n := 24) (Nat.le_of_ble_eq_true rfl) (Nat.le_of_ble_eq_true rfl) ?_
      refine lv_astore (lv' := [(5, .ref q9), (0, .ref x), (1, .int a0), (2, .int a1), (3, .int a2), (4, .ref ou)]) hx hb dL_project_23 hl (by decide) rfl (fun ls hl => ?_)
      refine lv_iconst (v := 3) hx hb dL_project_25 (by decide) ?_
      have hP9 := hP.sub (ws' := []) [] rfl
      have hD9 := hD.sub (ws' := []) [] (by decide) rfl
      refine W.widen (k := 4) (n := 24) (Nat.le_of_ble_eq_true rfl) (Nat.le_of_ble_eq_true rfl) ?_
      exact vx_ret (W.iret (v := 3) hx hb hr (fun t ht hW => ⟨⟨3, (), rfl, Or.inr (Or.inr (Or.inr (Or.inr (Or.inr (Or.inl ⟨rfl, c_17, c_18, c_19, c_20, c_21, c_22, c_23, c_24⟩))))), by rw [ht]; exact hP9, hD9⟩, hS.F ht⟩) hS.2.2 dL_project_26)
    · have c_25 : 0 ≤ a0.toInt := e_0
      have c_26 : a0.toInt < 6 := e_1
      have c_27 : 0 ≤ a2.toInt := e_2
      have c_28 : a2.toInt < 6 := e_3
      have c_29 : 0 ≤ a1.toInt := e_4
      have c_30 : 8 ≤ a1.toInt := e_5
      refine vx_catch hown (tableOf [(0, 12, 15, 20)]) ⟨0, 12, 19, 13⟩ (tableOf [(0, 12, 23, 15)]) (by rw [htab]; rfl) (xpass1 (Or.inr ⟨by decide, iob, w_1, hV.2.2.2.2.2.2.1.2.2⟩)) (by decide) (by decide) w_2 (va_Nw.use rfl hV.2.2.2.2.2.1.1) hq9 hcv hcl ?_
      have hP : va_P D vwCl [] H_1 := fun k q h => by simp at h
      have hD : va_D A [] := ⟨fun i j p q h => by simp at h, fun k q h => by simp at h⟩
      refine W.widen (k := 4) (n := 24) (Nat.le_of_ble_eq_true rfl) (Nat.le_of_ble_eq_true rfl) ?_
      refine lv_astore (lv' := [(5, .ref q9), (0, .ref x), (1, .int a0), (2, .int a1), (3, .int a2), (4, .ref ou)]) hx hb dL_project_19 hl (by decide) rfl (fun ls hl => ?_)
      refine lv_iconst (v := 2) hx hb dL_project_21 (by decide) ?_
      have hP9 := hP.sub (ws' := []) [] rfl
      have hD9 := hD.sub (ws' := []) [] (by decide) rfl
      refine W.widen (k := 4) (n := 24) (Nat.le_of_ble_eq_true rfl) (Nat.le_of_ble_eq_true rfl) ?_
      exact vx_ret (W.iret (v := 2) hx hb hr (fun t ht hW => ⟨⟨2, (), rfl, Or.inr (Or.inr (Or.inr (Or.inr (Or.inr (Or.inr ⟨rfl, c_25, c_26, c_27, c_28, c_29, c_30⟩))))), by rw [ht]; exact hP9, hD9⟩, hS.F ht⟩) hS.2.2 dL_project_22)
  · exact hw.elim
def wk_L_exchange : List Cond := .codeWith yL_exchange cL_exchange 7 (some .int) [(0, 14, 17, 20), (0, 14, 21, 15)] :: (([.classLink RL 20 iob, .classLink RL 15 ise, .methodLink RL 69 yX10_exchange, .instanceMethod yX10_exchange, .selects RX10 yX10_exchange yX10_exchange, .initialized RX10, .code yX10_exchange cX10_exchange 7 (some .int), .methodLink RX10 241 yX10_checkSelection, .static yX10_checkSelection, .code yX10_checkSelection cX10_checkSelection 4 none, .methodLink RX10 138 yX10_checkSlot, .static yX10_checkSlot, .code yX10_checkSlot cX10_checkSlot 1 none, .classLink RX10 91 iob, .initialized iob, .methodLink RX10 189 yX10_checkVariable, .static yX10_checkVariable, .code yX10_checkVariable cX10_checkVariable 1 none, .methodLink RX10 153 yX10_tableIn, .instanceMethod yX10_tableIn, .selects RX10 yX10_tableIn yX10_tableIn, .code yX10_tableIn cX10_tableIn 2 (some (.object "DocumentSpanner$SortedInts")), .fieldLink RX10 12 "DocumentSpanner" "state" "LDocumentSpanner$State;", .fieldLink RX10 96 "DocumentSpanner$State" "filled" "[Z", .classLink RX10 80 ise, .initialized ise] : List Cond) ++ wsX100 ++ wsX80 ++ (vx_atS RX10 84 ise ["java/lang/RuntimeException", "java/lang/Exception"]).filter goodWord ++ (vx_atS RX10 95 iob ["java/lang/RuntimeException", "java/lang/Exception"]).filter goodWord)
set_option maxRecDepth 20000 in
theorem ggk_L_exchange_X10_exchange : GoodIn wk_L_exchange wk_X10_exchange := goodIn_ca (goodIn_ca (goodIn_ca (goodIn_ca (goodIn_r _ [7, 8, 9, 6, 10, 11, 12, 13, 14, 15, 16, 17, 18, 19, 20, 21, 22, 23, 24, 25, 26] (by decide +kernel) (by decide +kernel)) (goodIn_sub (fun _ h => List.mem_cons_of_mem _ (List.mem_append_left _ (List.mem_append_left _ (List.mem_append_left _ (List.mem_append_right _ h))))) (by decide +kernel))) (goodIn_sub (fun _ h => List.mem_cons_of_mem _ (List.mem_append_left _ (List.mem_append_left _ (List.mem_append_right _ h)))) (by decide +kernel))) (goodIn_sub (fun _ h => List.mem_cons_of_mem _ (List.mem_append_left _ (List.mem_append_right _ h))) (by decide +kernel))) (goodIn_sub (fun _ h => List.mem_cons_of_mem _ (List.mem_append_right _ h)) (by decide +kernel))
set_option maxRecDepth 20000 in
theorem gk_L_exchange_X10_exchange : GoodIn wk_L_exchange (wsV RL 69 RX10 yX10_exchange wk_X10_exchange) := goodIn_app (goodIn_r _ [3, 4, 5, 6] (by decide +kernel) (by decide +kernel)) ggk_L_exchange_X10_exchange
set_option maxHeartbeats 4000000 in
set_option maxRecDepth 100000 in
theorem k_L_exchange (l : Launch) (htr : l.stackTraces = false) (D : va_G) (cI cJ cZ : ClassId) (x : Nat) (st : Nat) (kp : Nat) (bf : Nat) (o1 : Nat) (o2 : Nat) (o3 : Nat) (o4 : Nat) (o5 : Nat) (o6 : Nat) (lt : Nat) (tb : Nat) (fl : Nat) (wt : Nat) (ou : Nat) (a0 : Int32) (a1 : Int32) (a2 : Int32) (a3 : Int32) (sz : Nat) : vx_Met l yL_exchange wk_L_exchange ({ frames := 9, cells := 6, slots := 36, locals := 151 }) (xPc D cI cJ cZ [.ref x, .int a0, .int a1, .int a2, .int a3, .ref ou] [(x, .inr (9, [.ref st, .ref kp, .int 0, .ref bf, .int 0, .int (-1), .int (-1), .int 0, .ref o1, .ref o2, .ref o3, .ref o4, .ref o5, .ref o6])), (st, .inr (8, [.ref lt, .ref tb, .ref fl, .ref wt, .int 0, .null])), (fl, .inl (cZ, 6, .inl (fun _ => 0))), (ou, .inl (cJ, 1, .inr (.inl (fun _ => 0))))] sz) (va_Qi (fun (r : Int32) (u : Unit) => (r = 1 ∧ a0.toInt < 0) ∨ (r = 1 ∧ 0 ≤ a0.toInt ∧ 6 ≤ a0.toInt) ∨ (r = 1 ∧ 0 ≤ a0.toInt ∧ a0.toInt < 6 ∧ a3.toInt < 0) ∨ (r = 1 ∧ 0 ≤ a0.toInt ∧ a0.toInt < 6 ∧ 0 ≤ a3.toInt ∧ 6 ≤ a3.toInt) ∨ (r = 1 ∧ 0 ≤ a0.toInt ∧ a0.toInt < 6 ∧ 0 ≤ a3.toInt ∧ a3.toInt < 6 ∧ a1.toInt < 0) ∨ (r = 1 ∧ 0 ≤ a0.toInt ∧ a0.toInt < 6 ∧ 0 ≤ a3.toInt ∧ a3.toInt < 6 ∧ 0 ≤ a1.toInt ∧ 3 ≤ a1.toInt) ∨ (r = 1 ∧ 0 ≤ a0.toInt ∧ a0.toInt < 6 ∧ 0 ≤ a3.toInt ∧ a3.toInt < 6 ∧ 0 ≤ a1.toInt ∧ a1.toInt < 3 ∧ a2.toInt < 0) ∨ (r = 1 ∧ 0 ≤ a0.toInt ∧ a0.toInt < 6 ∧ 0 ≤ a3.toInt ∧ a3.toInt < 6 ∧ 0 ≤ a1.toInt ∧ a1.toInt < 3 ∧ 0 ≤ a2.toInt ∧ 3 ≤ a2.toInt) ∨ (r = 2 ∧ 0 ≤ a0.toInt ∧ a0.toInt < 6 ∧ 0 ≤ a3.toInt ∧ a3.toInt < 6 ∧ 0 ≤ a1.toInt ∧ a1.toInt < 3 ∧ 0 ≤ a2.toInt ∧ a2.toInt < 3 ∧ 0 ≤ a0.toInt ∧ a0.toInt < 6)) (fun (u : Unit) (t : State) => va_P D vwCl ([] : va_W) t.heap ∧ va_D (va_A [(x, .inr (9, [.ref st, .ref kp, .int 0, .ref bf, .int 0, .int (-1), .int (-1), .int 0, .ref o1, .ref o2, .ref o3, .ref o4, .ref o5, .ref o6])), (st, .inr (8, [.ref lt, .ref tb, .ref fl, .ref wt, .int 0, .null])), (fl, .inl (cZ, 6, .inl (fun _ => 0))), (ou, .inl (cJ, 1, .inr (.inl (fun _ => 0))))] sz) ([] : va_W)) (va_A [(x, .inr (9, [.ref st, .ref kp, .int 0, .ref bf, .int 0, .int (-1), .int (-1), .int 0, .ref o1, .ref o2, .ref o3, .ref o4, .ref o5, .ref o6])), (st, .inr (8, [.ref lt, .ref tb, .ref fl, .ref wt, .int 0, .null])), (fl, .inl (cZ, 6, .inl (fun _ => 0))), (ou, .inl (cJ, 1, .inr (.inl (fun _ => 0))))] sz)) (vx_X (fun _ : Unit => True) (fun (E : String) (_ : Unit) (_ : State) => False) (va_A [(x, .inr (9, [.ref st, .ref kp, .int 0, .ref bf, .int 0, .int (-1), .int (-1), .int 0, .ref o1, .ref o2, .ref o3, .ref o4, .ref o5, .ref o6])), (st, .inr (8, [.ref lt, .ref tb, .ref fl, .ref wt, .int 0, .null])), (fl, .inl (cZ, 6, .inl (fun _ => 0))), (ou, .inl (cJ, 1, .inr (.inl (fun _ => 0))))] sz)) 6 36 (va_A [(x, .inr (9, [.ref st, .ref kp, .int 0, .ref bf, .int 0, .int (-1), .int (-1), .int 0, .ref o1, .ref o2, .ref o3, .ref o4, .ref o5, .ref o6])), (st, .inr (8, [.ref lt, .ref tb, .ref fl, .ref wt, .int 0, .null])), (fl, .inl (cZ, 6, .inl (fun _ => 0))), (ou, .inl (cJ, 1, .inr (.inl (fun _ => 0))))] sz) := by
  refine vx_ofWH (cc := cL_exchange) (maxL := 7) (ret := (some .int)) (by decide) rfl ?_
  intro p e s m args below meth c s₁ B hml hv
  obtain ⟨rfl, hsz, hP, hK, hD0, hE, hV⟩ := hv
  have hx := B.exec
  have hb := B.bytes
  have hr := B.returns
  have hts := atoms_spec (ws := wk_L_exchange) B.pre
  have hown : s.vm.findClass RL = some m.cls := findClass_of_methodNamed B.named
  have hlocks := B.notSynchronized
  have htab : c.exceptionTable.toList = tableOf [(0, 14, 17, 20), (0, 14, 21, 15)] := vx_table (x := yL_exchange) B (hts _ List.mem_cons_self)
  have w_1 := hts (.classLink RL 20 iob) (List.mem_of_getElem? (i := 1) rfl)
  have w_2 := hts (.classLink RL 15 ise) (List.mem_of_getElem? (i := 2) rfl)
  subst hsz
  have hD := hD0.self (sz := s.heap.size)
  generalize hAe : va_A [(x, .inr (9, [.ref st, .ref kp, .int 0, .ref bf, .int 0, .int (-1), .int (-1), .int 0, .ref o1, .ref o2, .ref o3, .ref o4, .ref o5, .ref o6])), (st, .inr (8, [.ref lt, .ref tb, .ref fl, .ref wt, .int 0, .null])), (fl, .inl (cZ, 6, .inl (fun _ => 0))), (ou, .inl (cJ, 1, .inr (.inl (fun _ => 0))))] s.heap.size = A at hD hE ⊢
  have hA : ∀ q : Nat, s.heap.size ≤ q → A q := fun q h => by rw [← hAe]; exact Or.inr h
  have hS : va_S A s.heap s.heap [] := va_S.rf
  have hP : va_P D vwCl [(x, .inr (9, [.ref st, .ref kp, .int 0, .ref bf, .int 0, .int (-1), .int (-1), .int 0, .ref o1, .ref o2, .ref o3, .ref o4, .ref o5, .ref o6])), (st, .inr (8, [.ref lt, .ref tb, .ref fl, .ref wt, .int 0, .null])), (fl, .inl (cZ, 6, .inl (fun _ => 0))), (ou, .inl (cJ, 1, .inr (.inl (fun _ => 0))))] s.heap := hP
  have hl := lv_entry ([.ref x, .int a0, .int a1, .int a2, .int a3, .ref ou]) (n := 7) (Nat.le_of_ble_eq_true rfl)
  rw [lg_entry_eq]
  generalize (lg_sl ([.ref x, .int a0, .int a1, .int a2, .int a3, .ref ou]) ++ List.replicate (7 - (lg_sl ([.ref x, .int a0, .int a1, .int a2, .int a3, .ref ou])).length) Slot.unset).toArray = ls at hl ⊢
  have hl : lv_has ls 7 [(0, .ref x), (1, .int a0), (2, .int a1), (3, .int a2), (4, .int a3), (5, .ref ou)] := hl
  refine lv_aload hx hb dL_exchange_0 (lv_at hl 5 rfl) ?_
  refine lv_iconst (v := 0) hx hb dL_exchange_2 (by decide) ?_
  refine lv_aload_n hx hb dL_exchange_3 rfl (lv_at hl 0 rfl) ?_
  refine lv_iload_n hx hb dL_exchange_4 rfl (lv_at hl 1 rfl) ?_
  refine lv_iload_n hx hb dL_exchange_5 rfl (lv_at hl 2 rfl) ?_
  refine lv_iload_n hx hb dL_exchange_6 rfl (lv_at hl 3 rfl) ?_
  refine lv_iload hx hb dL_exchange_7 (lv_at hl 4 rfl) ?_
  have hPc := hP.sub (ws' := [(x, .inr (9, [.ref st, .ref kp, .int 0, .ref bf, .int 0, .int (-1), .int (-1), .int 0, .ref o1, .ref o2, .ref o3, .ref o4, .ref o5, .ref o6])), (st, .inr (8, [.ref lt, .ref tb, .ref fl, .ref wt, .int 0, .null])), (fl, .inl (cZ, 6, .inl (fun _ => 0)))]) [0, 1, 2] rfl
  have hDc := hD.sub (ws' := [(x, .inr (9, [.ref st, .ref kp, .int 0, .ref bf, .int 0, .int (-1), .int (-1), .int 0, .ref o1, .ref o2, .ref o3, .ref o4, .ref o5, .ref o6])), (st, .inr (8, [.ref lt, .ref tb, .ref fl, .ref wt, .int 0, .null])), (fl, .inl (cZ, 6, .inl (fun _ => 0)))]) [0, 1, 2] (by decide) rfl
  have hFc := va_free (wc := [(x, .inr (9, [.ref st, .ref kp, .int 0, .ref bf, .int 0, .int (-1), .int (-1), .int 0, .ref o1, .ref o2, .ref o3, .ref o4, .ref o5, .ref o6])), (st, .inr (8, [.ref lt, .ref tb, .ref fl, .ref wt, .int 0, .null])), (fl, .inl (cZ, 6, .inl (fun _ => 0)))]) hD hS hA [0, 1, 2] rfl
  refine vx_calli (vx_runV (As := [.int a0, .int a1, .int a2, .int a3]) (rest := [.int 0, .ref ou]) ⟨hx, hb, hml, hown, hts⟩ (k_X10_exchange l htr D cI cJ cZ x st kp bf o1 o2 o3 o4 o5 o6 lt tb fl wt a0 a1 a2 a3 s.heap.size) (cwV 4 hts gk_L_exchange_X10_exchange rfl rfl rfl (by decide +kernel) ⟨Nat.le_of_ble_eq_true rfl, Nat.le_of_ble_eq_true rfl⟩) ⟨xPc_blind, va_recv hK hP (ci := 9) (q0 := 0) rfl rfl, xPc_pre hPc hK hDc hE hS hFc hV⟩ rfl rfl hl.1 rfl (lv_room (Nat.le_of_ble_eq_true rfl)) dL_exchange_9 ⟨Nat.le_of_ble_eq_true rfl, Nat.le_of_ble_eq_true rfl⟩) hS (fun q _ h => hFc q h) hFc (fun q _ h => hFc q h) (fun E ce q9 u t H_1 locs ht hvm hpx hBX hz1 hk1 hS hq9 hcv hcl => ?_) (fun r u t H_1 locs ht hvm hw hB hz1 hk1 hS => ?_)
  · rcases hBX with ⟨rfl, e_0⟩ | ⟨rfl, e_0, e_1⟩ | ⟨rfl, e_0, e_1, e_2⟩ | ⟨rfl, e_0, e_1, e_2, e_3⟩ | ⟨rfl, e_0, e_1, e_2, e_3, e_4⟩ | ⟨rfl, e_0, e_1, e_2, e_3, e_4, e_5⟩ | ⟨rfl, e_0, e_1, e_2, e_3, e_4, e_5, e_6⟩ | ⟨rfl, e_0, e_1, e_2, e_3, e_4, e_5, e_6, e_7⟩ | ⟨rfl, e_0, e_1, e_2, e_3, e_4, e_5, e_6, e_7, e_8, e_9⟩
    · have c_2 : a0.toInt < 0 := e_0
      refine vx_catch hown (tableOf []) ⟨0, 14, 17, 20⟩ (tableOf [(0, 14, 21, 15)]) (by rw [htab]; rfl) (xpass0) (by decide) (by decide) w_1 (va_Nw.use rfl hV.2.2.2.2.2.1.2.2) hq9 hcv hcl ?_
      have hP : va_P D vwCl [] H_1 := fun k q h => by simp at h
      have hD : va_D A [] := ⟨fun i j p q h => by simp at h, fun k q h => by simp at h⟩
      refine W.widen (k := 6) (n := 36) (Nat.le_of_ble_eq_true rfl) (Nat.le_of_ble_eq_true rfl) ?_
      refine lv_astore (lv' := [(6, .ref q9), (0, .ref x), (1, .int a0), (2, .int a1), (3, .int a2), (4, .int a3), (5, .ref ou)]) hx hb dL_exchange_17 hl (by decide) rfl (fun ls hl => ?_)
      refine lv_iconst (v := 1) hx hb dL_exchange_19 (by decide) ?_
      have hP9 := hP.sub (ws' := []) [] rfl
      have hD9 := hD.sub (ws' := []) [] (by decide) rfl
      refine W.widen (k := 6) (n := 36) (Nat.le_of_ble_eq_true rfl) (Nat.le_of_ble_eq_true rfl) ?_
      exact vx_ret (W.iret (v := 1) hx hb hr (fun t ht hW => ⟨⟨1, (), rfl, Or.inl ⟨rfl, c_2⟩, by rw [ht]; exact hP9, hD9⟩, hS.F ht⟩) hS.2.2 dL_exchange_20)
    · have c_3 : 0 ≤ a0.toInt := e_0
      have c_4 : 6 ≤ a0.toInt := e_1
      refine vx_catch hown (tableOf []) ⟨0, 14, 17, 20⟩ (tableOf [(0, 14, 21, 15)]) (by rw [htab]; rfl) (xpass0) (by decide) (by decide) w_1 (va_Nw.use rfl hV.2.2.2.2.2.1.2.2) hq9 hcv hcl ?_
      have hP : va_P D vwCl [] H_1 := fun k q h => by simp at h
      have hD : va_D A [] := ⟨fun i j p q h => by simp at h, fun k q h => by simp at h⟩
      refine W.widen (k := 6) (n := 36) (Nat.le_of_ble_eq_true rfl) (Nat.le_of_ble_eq_true rfl) ?_
      refine lv_astore (lv' := [(6, .ref q9), (0, .ref x), (1, .int a0), (2, .int a1), (3, .int a2), (4, .int a3), (5, .ref ou)]) hx hb dL_exchange_17 hl (by decide) rfl (fun ls hl => ?_)
      refine lv_iconst (v := 1) hx hb dL_exchange_19 (by decide) ?_
      have hP9 := hP.sub (ws' := []) [] rfl
      have hD9 := hD.sub (ws' := []) [] (by decide) rfl
      refine W.widen (k := 6) (n := 36) (Nat.le_of_ble_eq_true rfl) (Nat.le_of_ble_eq_true rfl) ?_
      exact vx_ret (W.iret (v := 1) hx hb hr (fun t ht hW => ⟨⟨1, (), rfl, Or.inr (Or.inl ⟨rfl, c_3, c_4⟩), by rw [ht]; exact hP9, hD9⟩, hS.F ht⟩) hS.2.2 dL_exchange_20)
    · have c_5 : 0 ≤ a0.toInt := e_0
      have c_6 : a0.toInt < 6 := e_1
      have c_7 : a3.toInt < 0 := e_2
      refine vx_catch hown (tableOf []) ⟨0, 14, 17, 20⟩ (tableOf [(0, 14, 21, 15)]) (by rw [htab]; rfl) (xpass0) (by decide) (by decide) w_1 (va_Nw.use rfl hV.2.2.2.2.2.1.2.2) hq9 hcv hcl ?_
      have hP : va_P D vwCl [] H_1 := fun k q h => by simp at h
      have hD : va_D A [] := ⟨fun i j p q h => by simp at h, fun k q h => by simp at h⟩
      refine W.widen (k := 6) (n := 36) (Nat.le_of_ble_eq_true rfl) (Nat.le_of_ble_eq_true rfl) ?_
      refine lv_astore (lv' := [(6, .ref q9), (0, .ref x), (1, .int a0), (2, .int a1), (3, .int a2), (4, .int a3), (5, .ref ou)]) hx hb dL_exchange_17 hl (by decide) rfl (fun ls hl => ?_)
      refine lv_iconst (v := 1) hx hb dL_exchange_19 (by decide) ?_
      have hP9 := hP.sub (ws' := []) [] rfl
      have hD9 := hD.sub (ws' := []) [] (by decide) rfl
      refine W.widen (k := 6) (n := 36) (Nat.le_of_ble_eq_true rfl) (Nat.le_of_ble_eq_true rfl) ?_
      exact vx_ret (W.iret (v := 1) hx hb hr (fun t ht hW => ⟨⟨1, (), rfl, Or.inr (Or.inr (Or.inl ⟨rfl, c_5, c_6, c_7⟩)), by rw [ht]; exact hP9, hD9⟩, hS.F ht⟩) hS.2.2 dL_exchange_20)
    · have c_8 : 0 ≤ a0.toInt := e_0
      have c_9 : a0.toInt < 6 := e_1
      have c_10 : 0 ≤ a3.toInt := e_2
      have c_11 : 6 ≤ a3.toInt := e_3
      refine vx_catch hown (tableOf []) ⟨0, 14, 17, 20⟩ (tableOf [(0, 14, 21, 15)]) (by rw [htab]; rfl) (xpass0) (by decide) (by decide) w_1 (va_Nw.use rfl hV.2.2.2.2.2.1.2.2) hq9 hcv hcl ?_
      have hP : va_P D vwCl [] H_1 := fun k q h => by simp at h
      have hD : va_D A [] := ⟨fun i j p q h => by simp at h, fun k q h => by simp at h⟩
      refine W.widen (k := 6) (n := 36) (Nat.le_of_ble_eq_true rfl) (Nat.le_of_ble_eq_true rfl) ?_
      refine lv_astore (lv' := [(6, .ref q9), (0, .ref x), (1, .int a0), (2, .int a1), (3, .int a2), (4, .int a3), (5, .ref ou)]) hx hb dL_exchange_17 hl (by decide) rfl (fun ls hl => ?_)
      refine lv_iconst (v := 1) hx hb dL_exchange_19 (by decide) ?_
      have hP9 := hP.sub (ws' := []) [] rfl
      have hD9 := hD.sub (ws' := []) [] (by decide) rfl
      refine W.widen (k := 6) (n := 36) (Nat.le_of_ble_eq_true rfl) (Nat.le_of_ble_eq_true rfl) ?_
      exact vx_ret (W.iret (v := 1) hx hb hr (fun t ht hW => ⟨⟨1, (), rfl, Or.inr (Or.inr (Or.inr (Or.inl ⟨rfl, c_8, c_9, c_10, c_11⟩))), by rw [ht]; exact hP9, hD9⟩, hS.F ht⟩) hS.2.2 dL_exchange_20)
    · have c_12 : 0 ≤ a0.toInt := e_0
      have c_13 : a0.toInt < 6 := e_1
      have c_14 : 0 ≤ a3.toInt := e_2
      have c_15 : a3.toInt < 6 := e_3
      have c_16 : a1.toInt < 0 := e_4
      refine vx_catch hown (tableOf []) ⟨0, 14, 17, 20⟩ (tableOf [(0, 14, 21, 15)]) (by rw [htab]; rfl) (xpass0) (by decide) (by decide) w_1 (va_Nw.use rfl hV.2.2.2.2.2.1.2.2) hq9 hcv hcl ?_
      have hP : va_P D vwCl [] H_1 := fun k q h => by simp at h
      have hD : va_D A [] := ⟨fun i j p q h => by simp at h, fun k q h => by simp at h⟩
      refine W.widen (k := 6) (n := 36) (Nat.le_of_ble_eq_true rfl) (Nat.le_of_ble_eq_true rfl) ?_
      refine lv_astore (lv' := [(6, .ref q9), (0, .ref x), (1, .int a0), (2, .int a1), (3, .int a2), (4, .int a3), (5, .ref ou)]) hx hb dL_exchange_17 hl (by decide) rfl (fun ls hl => ?_)
      refine lv_iconst (v := 1) hx hb dL_exchange_19 (by decide) ?_
      have hP9 := hP.sub (ws' := []) [] rfl
      have hD9 := hD.sub (ws' := []) [] (by decide) rfl
      refine W.widen (k := 6) (n := 36) (Nat.le_of_ble_eq_true rfl) (Nat.le_of_ble_eq_true rfl) ?_
      exact vx_ret (W.iret (v := 1) hx hb hr (fun t ht hW => ⟨⟨1, (), rfl, Or.inr (Or.inr (Or.inr (Or.inr (Or.inl ⟨rfl, c_12, c_13, c_14, c_15, c_16⟩)))), by rw [ht]; exact hP9, hD9⟩, hS.F ht⟩) hS.2.2 dL_exchange_20)
    · have c_17 : 0 ≤ a0.toInt := e_0
      have c_18 : a0.toInt < 6 := e_1
      have c_19 : 0 ≤ a3.toInt := e_2
      have c_20 : a3.toInt < 6 := e_3
      have c_21 : 0 ≤ a1.toInt := e_4
      have c_22 : 3 ≤ a1.toInt := e_5
      refine vx_catch hown (tableOf []) ⟨0, 14, 17, 20⟩ (tableOf [(0, 14, 21, 15)]) (by rw [htab]; rfl) (xpass0) (by decide) (by decide) w_1 (va_Nw.use rfl hV.2.2.2.2.2.1.2.2) hq9 hcv hcl ?_
      have hP : va_P D vwCl [] H_1 := fun k q h => by simp at h
      have hD : va_D A [] := ⟨fun i j p q h => by simp at h, fun k q h => by simp at h⟩
      refine W.widen (k := 6) (n := 36) (Nat.le_of_ble_eq_true rfl) (Nat.le_of_ble_eq_true rfl) ?_
      refine lv_astore (lv' := [(6, .ref q9), (0, .ref x), (1, .int a0), (2, .int a1), (3, .int a2), (4, .int a3), (5, .ref ou)]) hx hb dL_exchange_17 hl (by decide) rfl (fun ls hl => ?_)
      refine lv_iconst (v := 1) hx hb dL_exchange_19 (by decide) ?_
      have hP9 := hP.sub (ws' := []) [] rfl
      have hD9 := hD.sub (ws' := []) [] (by decide) rfl
      refine W.widen (k := 6) (n := 36) (Nat.le_of_ble_eq_true rfl) (Nat.le_of_ble_eq_true rfl) ?_
      exact vx_ret (W.iret (v := 1) hx hb hr (fun t ht hW => ⟨⟨1, (), rfl, Or.inr (Or.inr (Or.inr (Or.inr (Or.inr (Or.inl ⟨rfl, c_17, c_18, c_19, c_20, c_21, c_22⟩))))), by rw [ht]; exact hP9, hD9⟩, hS.F ht⟩) hS.2.2 dL_exchange_20)
    · have c_23 : 0 ≤ a0.toInt := e_0
      have c_24 : a0.toInt < 6 := e_1
      have c_25 : 0 ≤ a3.toInt := e_2
      have c_26 : a3.toInt < 6 := e_3
      have c_27 : 0 ≤ a1.toInt := e_4
      have c_28 : a1.toInt < 3 := e_5
      have c_29 : a2.toInt < 0 := e_6
      refine vx_catch hown (tableOf []) ⟨0, 14, 17, 20⟩ (tableOf [(0, 14, 21, 15)]) (by rw [htab]; rfl) (xpass0) (by decide) (by decide) w_1 (va_Nw.use rfl hV.2.2.2.2.2.1.2.2) hq9 hcv hcl ?_
      have hP : va_P D vwCl [] H_1 := fun k q h => by simp at h
      have hD : va_D A [] := ⟨fun i j p q h => by simp at h, fun k q h => by simp at h⟩
      refine W.widen (k := 6) (n := 36) (Nat.le_of_ble_eq_true rfl) (Nat.le_of_ble_eq_true rfl) ?_
      refine lv_astore (lv' := [(6, .ref q9), (0, .ref x), (1, .int a0), (2, .int a1), (3, .int a2), (4, .int a3), (5, .ref ou)]) hx hb dL_exchange_17 hl (by decide) rfl (fun ls hl => ?_)
      refine lv_iconst (v := 1) hx hb dL_exchange_19 (by decide) ?_
      have hP9 := hP.sub (ws' := []) [] rfl
      have hD9 := hD.sub (ws' := []) [] (by decide) rfl
      refine W.widen (k := 6) (n := 36) (Nat.le_of_ble_eq_true rfl) (Nat.le_of_ble_eq_true rfl) ?_
      exact vx_ret (W.iret (v := 1) hx hb hr (fun t ht hW => ⟨⟨1, (), rfl, Or.inr (Or.inr (Or.inr (Or.inr (Or.inr (Or.inr (Or.inl ⟨rfl, c_23, c_24, c_25, c_26, c_27, c_28, c_29⟩)))))), by rw [ht]; exact hP9, hD9⟩, hS.F ht⟩) hS.2.2 dL_exchange_20)
    · have c_30 : 0 ≤ a0.toInt := e_0
      have c_31 : a0.toInt < 6 := e_1
      have c_32 : 0 ≤ a3.toInt := e_2
      have c_33 : a3.toInt < 6 := e_3
      have c_34 : 0 ≤ a1.toInt := e_4
      have c_35 : a1.toInt < 3 := e_5
      have c_36 : 0 ≤ a2.toInt := e_6
      have c_37 : 3 ≤ a2.toInt := e_7
      refine vx_catch hown (tableOf []) ⟨0, 14, 17, 20⟩ (tableOf [(0, 14, 21, 15)]) (by rw [htab]; rfl) (xpass0) (by decide) (by decide) w_1 (va_Nw.use rfl hV.2.2.2.2.2.1.2.2) hq9 hcv hcl ?_
      have hP : va_P D vwCl [] H_1 := fun k q h => by simp at h
      have hD : va_D A [] := ⟨fun i j p q h => by simp at h, fun k q h => by simp at h⟩
      refine W.widen (k := 6) (n := 36) (Nat.le_of_ble_eq_true rfl) (Nat.le_of_ble_eq_true rfl) ?_
      refine lv_astore (lv' := [(6, .ref q9), (0, .ref x), (1, .int a0), (2, .int a1), (3, .int a2), (4, .int a3), (5, .ref ou)]) hx hb dL_exchange_17 hl (by decide) rfl (fun ls hl => ?_)
      refine lv_iconst (v := 1) hx hb dL_exchange_19 (by decide) ?_
      have hP9 := hP.sub (ws' := []) [] rfl
      have hD9 := hD.sub (ws' := []) [] (by decide) rfl
      refine W.widen (k := 6) (n := 36) (Nat.le_of_ble_eq_true rfl) (Nat.le_of_ble_eq_true rfl) ?_
      exact vx_ret (W.iret (v := 1) hx hb hr (fun t ht hW => ⟨⟨1, (), rfl, Or.inr (Or.inr (Or.inr (Or.inr (Or.inr (Or.inr (Or.inr (Or.inl ⟨rfl, c_30, c_31, c_32, c_33, c_34, c_35, c_36, c_37⟩))))))), by rw [ht]; exact hP9, hD9⟩, hS.F ht⟩) hS.2.2 dL_exchange_20)
    · have c_38 : 0 ≤ a0.toInt := e_0
      have c_39 : a0.toInt < 6 := e_1
      have c_40 : 0 ≤ a3.toInt := e_2
      have c_41 : a3.toInt < 6 := e_3
      have c_42 : 0 ≤ a1.toInt := e_4
      have c_43 : a1.toInt < 3 := e_5
      have c_44 : 0 ≤ a2.toInt := e_6
      have c_45 : a2.toInt < 3 := e_7
      have c_46 : 0 ≤ a0.toInt := e_8
      have c_47 : a0.toInt < 6 := e_9
      refine vx_catch hown (tableOf [(0, 14, 17, 20)]) ⟨0, 14, 21, 15⟩ (tableOf []) (by rw [htab]; rfl) (xpass1 (Or.inr ⟨by decide, iob, w_1, hV.2.2.2.2.2.2.1.1⟩)) (by decide) (by decide) w_2 (va_Nw.use rfl hV.2.2.2.2.2.1.2.1) hq9 hcv hcl ?_
      have hP : va_P D vwCl [] H_1 := fun k q h => by simp at h
      have hD : va_D A [] := ⟨fun i j p q h => by simp at h, fun k q h => by simp at h⟩
      refine W.widen (k := 6) (n := 36) (Nat.le_of_ble_eq_true rfl) (Nat.le_of_ble_eq_true rfl) ?_
      refine lv_astore (lv' := [(6, .ref q9), (0, .ref x), (1, .int a0), (2, .int a1), (3, .int a2), (4, .int a3), (5, .ref ou)]) hx hb dL_exchange_21 hl (by decide) rfl (fun ls hl => ?_)
      refine lv_iconst (v := 2) hx hb dL_exchange_23 (by decide) ?_
      have hP9 := hP.sub (ws' := []) [] rfl
      have hD9 := hD.sub (ws' := []) [] (by decide) rfl
      refine W.widen (k := 6) (n := 36) (Nat.le_of_ble_eq_true rfl) (Nat.le_of_ble_eq_true rfl) ?_
      exact vx_ret (W.iret (v := 2) hx hb hr (fun t ht hW => ⟨⟨2, (), rfl, Or.inr (Or.inr (Or.inr (Or.inr (Or.inr (Or.inr (Or.inr (Or.inr ⟨rfl, c_38, c_39, c_40, c_41, c_42, c_43, c_44, c_45, c_46, c_47⟩))))))), by rw [ht]; exact hP9, hD9⟩, hS.F ht⟩) hS.2.2 dL_exchange_24)
  · exact hw.elim
