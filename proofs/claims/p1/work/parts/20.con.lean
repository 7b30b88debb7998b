def wk_X10_checkSlot : List Cond := .code yX10_checkSlot cX10_checkSlot 1 none :: (([.classLink RX10 91 iob, .initialized iob] : List Cond) ++ (vx_atS RX10 95 iob ["java/lang/RuntimeException", "java/lang/Exception"]).filter goodWord)
set_option maxHeartbeats 4000000 in
set_option maxRecDepth 100000 in
theorem k_X10_checkSlot (l : Launch) (htr : l.stackTraces = false) (D : va_G) (cI cJ cZ : ClassId) (a0 : Int32) (sz : Nat) : vx_Met l yX10_checkSlot wk_X10_checkSlot ({ frames := 6, cells := 1, slots := 6, locals := 82 }) (xPc D cI cJ cZ [.int a0] [] sz) (va_Qv (fun (u : Unit) => (0 ≤ a0.toInt ∧ a0.toInt < 6)) (fun (u : Unit) (t : State) => va_P D vwCl ([] : va_W) t.heap ∧ va_D (va_A [] sz) ([] : va_W)) (va_A [] sz)) (vx_X (fun _ : Unit => True) (fun (E : String) (_ : Unit) (_ : State) => (E = iob ∧ a0.toInt < 0) ∨ (E = iob ∧ 0 ≤ a0.toInt ∧ 6 ≤ a0.toInt)) (va_A [] sz)) 1 6 (va_A [] sz) := by
  refine vx_ofW (cc := cX10_checkSlot) (maxL := 1) (ret := none) (by decide) rfl ?_
  intro p e s m args below meth c s₁ B hml htab hv
  obtain ⟨rfl, hsz, hP, hK, hD0, hE, hV⟩ := hv
  have hx := B.exec
  have hb := B.bytes
  have hr := B.returns
  have hts := atoms_spec (ws := wk_X10_checkSlot) B.pre
  have hown : s.vm.findClass RX10 = some m.cls := findClass_of_methodNamed B.named
  have hlocks := B.notSynchronized
  have w_1 := hts (.classLink RX10 91 iob) (List.mem_of_getElem? (i := 1) rfl)
  have w_2 := hts (.initialized iob) (List.mem_of_getElem? (i := 2) rfl)
  have w_3 := xat_95 (fun w h => hts w (List.mem_cons_of_mem _ (List.mem_append_right _ h))) hV
  subst hsz
  have hD := hD0.self (sz := s.heap.size)
  generalize hAe : va_A [] s.heap.size = A at hD hE ⊢
  have hA : ∀ q : Nat, s.heap.size ≤ q → A q := fun q h => by rw [← hAe]; exact Or.inr h
  have hS : va_S A s.heap s.heap [] := va_S.rf
  have hP : va_P D vwCl [] s.heap := hP
  have hl := lv_entry ([.int a0]) (n := 1) (Nat.le_of_ble_eq_true rfl)
  rw [lg_entry_eq]
  generalize (lg_sl ([.int a0]) ++ List.replicate (1 - (lg_sl ([.int a0])).length) Slot.unset).toArray = ls at hl ⊢
  have hl : lv_has ls 1 [(0, .int a0)] := hl
  refine lv_iload_n hx hb dX10_checkSlot_0 rfl (lv_at hl 0 rfl) ?_
  refine lv_if_lt (tgt := 10) hx hb dX10_checkSlot_1 (by decide) (fun c_1 => ?_) (fun c_1 => ?_)
  · have c_1 : a0.toInt < 0 := xlt c_1
    obtain ⟨sa, hstr⟩ := hV.1 (196, "a slot is 0 to 5") (by decide)
    exact vx_throwS (names := ["java/lang/RuntimeException", "java/lang/Exception"]) hx hb htr hown (by decide +kernel) (by decide +kernel) w_1 w_2 hstr w_3 xgood_91_95 hE.1 hE.2 hS (hl.1.trans hml.symm) dX10_checkSlot_10 dX10_checkSlot_13 dX10_checkSlot_14 dX10_checkSlot_16 dX10_checkSlot_19 (fun x hx => (htab x hx).elim) (Nat.le_of_ble_eq_true rfl) (Nat.le_of_ble_eq_true rfl) (Nat.le_of_ble_eq_true rfl) (Nat.le_of_ble_eq_true rfl) hlocks (fun t h1 h2 h3 => ⟨(), trivial, Or.inl ⟨rfl, c_1⟩, xF hS h2 h3⟩) hS.2.2 (Nat.le_of_ble_eq_true rfl) (Nat.le_of_ble_eq_true rfl)
  · have c_1 : 0 ≤ a0.toInt := xnlt c_1
    refine lv_iload_n hx hb dX10_checkSlot_4 rfl (lv_at hl 0 rfl) ?_
    refine lv_bipush (v := 6) hx hb dX10_checkSlot_5 (by decide) ?_
    refine lv_icmp_lt (tgt := 20) hx hb dX10_checkSlot_7 (by decide) (fun c_2 => ?_) (fun c_2 => ?_)
    · have c_2 : a0.toInt < 6 := xlt c_2
      have hP9 := hP.sub (ws' := []) [] rfl
      have hD9 := hD.sub (ws' := []) [] (by decide) rfl
      refine W.widen (k := 1) (n := 6) (Nat.le_of_ble_eq_true rfl) (Nat.le_of_ble_eq_true rfl) ?_
      exact vx_ret (W.vret hx hb hr (fun t ht hW => ⟨⟨(), rfl, ⟨c_1, c_2⟩, by rw [ht]; exact hP9, hD9⟩, hS.F ht⟩) hS.2.2 dX10_checkSlot_20)
    · have c_2 : 6 ≤ a0.toInt := xnlt c_2
      obtain ⟨sa, hstr⟩ := hV.1 (196, "a slot is 0 to 5") (by decide)
      exact vx_throwS (names := ["java/lang/RuntimeException", "java/lang/Exception"]) hx hb htr hown (by decide +kernel) (by decide +kernel) w_1 w_2 hstr w_3 xgood_91_95 hE.1 hE.2 hS (hl.1.trans hml.symm) dX10_checkSlot_10 dX10_checkSlot_13 dX10_checkSlot_14 dX10_checkSlot_16 dX10_checkSlot_19 (fun x hx => (htab x hx).elim) (Nat.le_of_ble_eq_true rfl) (Nat.le_of_ble_eq_true rfl) (Nat.le_of_ble_eq_true rfl) (Nat.le_of_ble_eq_true rfl) hlocks (fun t h1 h2 h3 => ⟨(), trivial, Or.inr ⟨rfl, c_1, c_2⟩, xF hS h2 h3⟩) hS.2.2 (Nat.le_of_ble_eq_true rfl) (Nat.le_of_ble_eq_true rfl)
def wk_X10_checkVariable : List Cond := .code yX10_checkVariable cX10_checkVariable 1 none :: (([.classLink RX10 91 iob, .initialized iob] : List Cond) ++ (vx_atS RX10 95 iob ["java/lang/RuntimeException", "java/lang/Exception"]).filter goodWord)
set_option maxHeartbeats 4000000 in
set_option maxRecDepth 100000 in
theorem k_X10_checkVariable (l : Launch) (htr : l.stackTraces = false) (D : va_G) (cI cJ cZ : ClassId) (a0 : Int32) (sz : Nat) : vx_Met l yX10_checkVariable wk_X10_checkVariable ({ frames := 6, cells := 1, slots := 6, locals := 82 }) (xPc D cI cJ cZ [.int a0] [] sz) (va_Qv (fun (u : Unit) => (0 ≤ a0.toInt ∧ a0.toInt < 3)) (fun (u : Unit) (t : State) => va_P D vwCl ([] : va_W) t.heap ∧ va_D (va_A [] sz) ([] : va_W)) (va_A [] sz)) (vx_X (fun _ : Unit => True) (fun (E : String) (_ : Unit) (_ : State) => (E = iob ∧ a0.toInt < 0) ∨ (E = iob ∧ 0 ≤ a0.toInt ∧ 3 ≤ a0.toInt)) (va_A [] sz)) 1 6 (va_A [] sz) := by
  refine vx_ofW (cc := cX10_checkVariable) (maxL := 1) (ret := none) (by decide) rfl ?_
  intro p e s m args below meth c s₁ B hml htab hv
  obtain ⟨rfl, hsz, hP, hK, hD0, hE, hV⟩ := hv
  have hx := B.exec
  have hb := B.bytes
  have hr := B.returns
  have hts := atoms_spec (ws := wk_X10_checkVariable) B.pre
  have hown : s.vm.findClass RX10 = some m.cls := findClass_of_methodNamed B.named
  have hlocks := B.notSynchronized
  have w_1 := hts (.classLink RX10 91 iob) (List.mem_of_getElem? (i := 1) rfl)
  have w_2 := hts (.initialized iob) (List.mem_of_getElem? (i := 2) rfl)
  have w_3 := xat_95 (fun w h => hts w (List.mem_cons_of_mem _ (List.mem_append_right _ h))) hV
  subst hsz
  have hD := hD0.self (sz := s.heap.size)
  generalize hAe : va_A [] s.heap.size = A at hD hE ⊢
  have hA : ∀ q : Nat, s.heap.size ≤ q → A q := fun q h => by rw [← hAe]; exact Or.inr h
  have hS : va_S A s.heap s.heap [] := va_S.rf
  have hP : va_P D vwCl [] s.heap := hP
  have hl := lv_entry ([.int a0]) (n := 1) (Nat.le_of_ble_eq_true rfl)
  rw [lg_entry_eq]
  generalize (lg_sl ([.int a0]) ++ List.replicate (1 - (lg_sl ([.int a0])).length) Slot.unset).toArray = ls at hl ⊢
  have hl : lv_has ls 1 [(0, .int a0)] := hl
  refine lv_iload_n hx hb dX10_checkVariable_0 rfl (lv_at hl 0 rfl) ?_
  refine lv_if_lt (tgt := 9) hx hb dX10_checkVariable_1 (by decide) (fun c_1 => ?_) (fun c_1 => ?_)
  · have c_1 : a0.toInt < 0 := xlt c_1
    obtain ⟨sa, hstr⟩ := hV.1 (198, "a variable is 0 to 2") (by decide)
    exact vx_throwS (names := ["java/lang/RuntimeException", "java/lang/Exception"]) hx hb htr hown (by decide +kernel) (by decide +kernel) w_1 w_2 hstr w_3 xgood_91_95 hE.1 hE.2 hS (hl.1.trans hml.symm) dX10_checkVariable_9 dX10_checkVariable_12 dX10_checkVariable_13 dX10_checkVariable_15 dX10_checkVariable_18 (fun x hx => (htab x hx).elim) (Nat.le_of_ble_eq_true rfl) (Nat.le_of_ble_eq_true rfl) (Nat.le_of_ble_eq_true rfl) (Nat.le_of_ble_eq_true rfl) hlocks (fun t h1 h2 h3 => ⟨(), trivial, Or.inl ⟨rfl, c_1⟩, xF hS h2 h3⟩) hS.2.2 (Nat.le_of_ble_eq_true rfl) (Nat.le_of_ble_eq_true rfl)
  · have c_1 : 0 ≤ a0.toInt := xnlt c_1
    refine lv_iload_n hx hb dX10_checkVariable_4 rfl (lv_at hl 0 rfl) ?_
    refine lv_iconst (v := 3) hx hb dX10_checkVariable_5 (by decide) ?_
    refine lv_icmp_lt (tgt := 19) hx hb dX10_checkVariable_6 (by decide) (fun c_2 => ?_) (fun c_2 => ?_)
    · have c_2 : a0.toInt < 3 := xlt c_2
      have hP9 := hP.sub (ws' := []) [] rfl
      have hD9 := hD.sub (ws' := []) [] (by decide) rfl
      refine W.widen (k := 1) (n := 6) (Nat.le_of_ble_eq_true rfl) (Nat.le_of_ble_eq_true rfl) ?_
      exact vx_ret (W.vret hx hb hr (fun t ht hW => ⟨⟨(), rfl, ⟨c_1, c_2⟩, by rw [ht]; exact hP9, hD9⟩, hS.F ht⟩) hS.2.2 dX10_checkVariable_19)
    · have c_2 : 3 ≤ a0.toInt := xnlt c_2
      obtain ⟨sa, hstr⟩ := hV.1 (198, "a variable is 0 to 2") (by decide)
      exact vx_throwS (names := ["java/lang/RuntimeException", "java/lang/Exception"]) hx hb htr hown (by decide +kernel) (by decide +kernel) w_1 w_2 hstr w_3 xgood_91_95 hE.1 hE.2 hS (hl.1.trans hml.symm) dX10_checkVariable_9 dX10_checkVariable_12 dX10_checkVariable_13 dX10_checkVariable_15 dX10_checkVariable_18 (fun x hx => (htab x hx).elim) (Nat.le_of_ble_eq_true rfl) (Nat.le_of_ble_eq_true rfl) (Nat.le_of_ble_eq_true rfl) (Nat.le_of_ble_eq_true rfl) hlocks (fun t h1 h2 h3 => ⟨(), trivial, Or.inr ⟨rfl, c_1, c_2⟩, xF hS h2 h3⟩) hS.2.2 (Nat.le_of_ble_eq_true rfl) (Nat.le_of_ble_eq_true rfl)
def wk_X10_checkSlots : List Cond := .code yX10_checkSlots cX10_checkSlots 3 none :: (([.methodLink RX10 138 yX10_checkSlot, .static yX10_checkSlot, .initialized RX10, .code yX10_checkSlot cX10_checkSlot 1 none, .classLink RX10 91 iob, .initialized iob] : List Cond) ++ (vx_atS RX10 95 iob ["java/lang/RuntimeException", "java/lang/Exception"]).filter goodWord)
set_option maxRecDepth 20000 in
theorem ggk_X10_checkSlots_X10_checkSlot : GoodIn wk_X10_checkSlots wk_X10_checkSlot := goodIn_ca (goodIn_r _ [4, 5, 6] (by decide +kernel) (by decide +kernel)) (goodIn_sub (fun _ h => List.mem_cons_of_mem _ (List.mem_append_right _ h)) (by decide +kernel))
set_option maxRecDepth 20000 in
theorem gk_X10_checkSlots_X10_checkSlot : GoodIn wk_X10_checkSlots (va_wsS RX10 138 yX10_checkSlot wk_X10_checkSlot) := goodIn_app (goodIn_r _ [1, 2, 3] (by decide +kernel) (by decide +kernel)) ggk_X10_checkSlots_X10_checkSlot
set_option maxHeartbeats 4000000 in
set_option maxRecDepth 100000 in
theorem k_X10_checkSlots (l : Launch) (htr : l.stackTraces = false) (D : va_G) (cI cJ cZ : ClassId) (a0 : Int32) (a1 : Int32) (a2 : Int32) (sz : Nat) : vx_Met l yX10_checkSlots wk_X10_checkSlots ({ frames := 7, cells := 3, slots := 18, locals := 102 }) (xPc D cI cJ cZ [.int a0, .int a1, .int a2] [] sz) (va_Qv (fun (u : Unit) => (0 ≤ a0.toInt ∧ a0.toInt < 6 ∧ 0 ≤ a1.toInt ∧ a1.toInt < 6 ∧ 0 ≤ a2.toInt ∧ a2.toInt < 6)) (fun (u : Unit) (t : State) => va_P D vwCl ([] : va_W) t.heap ∧ va_D (va_A [] sz) ([] : va_W)) (va_A [] sz)) (vx_X (fun _ : Unit => True) (fun (E : String) (_ : Unit) (_ : State) => (E = iob ∧ a0.toInt < 0) ∨ (E = iob ∧ 0 ≤ a0.toInt ∧ 6 ≤ a0.toInt) ∨ (E = iob ∧ 0 ≤ a0.toInt ∧ a0.toInt < 6 ∧ a1.toInt < 0) ∨ (E = iob ∧ 0 ≤ a0.toInt ∧ a0.toInt < 6 ∧ 0 ≤ a1.toInt ∧ 6 ≤ a1.toInt) ∨ (E = iob ∧ 0 ≤ a0.toInt ∧ a0.toInt < 6 ∧ 0 ≤ a1.toInt ∧ a1.toInt < 6 ∧ a2.toInt < 0) ∨ (E = iob ∧ 0 ≤ a0.toInt ∧ a0.toInt < 6 ∧ 0 ≤ a1.toInt ∧ a1.toInt < 6 ∧ 0 ≤ a2.toInt ∧ 6 ≤ a2.toInt)) (va_A [] sz)) 3 18 (va_A [] sz) := by
  refine vx_ofW (cc := cX10_checkSlots) (maxL := 3) (ret := none) (by decide) rfl ?_
  intro p e s m args below meth c s₁ B hml htab hv
  obtain ⟨rfl, hsz, hP, hK, hD0, hE, hV⟩ := hv
  have hx := B.exec
  have hb := B.bytes
  have hr := B.returns
  have hts := atoms_spec (ws := wk_X10_checkSlots) B.pre
  have hown : s.vm.findClass RX10 = some m.cls := findClass_of_methodNamed B.named
  have hlocks := B.notSynchronized
  subst hsz
  have hD := hD0.self (sz := s.heap.size)
  generalize hAe : va_A [] s.heap.size = A at hD hE ⊢
  have hA : ∀ q : Nat, s.heap.size ≤ q → A q := fun q h => by rw [← hAe]; exact Or.inr h
  have hS : va_S A s.heap s.heap [] := va_S.rf
  have hP : va_P D vwCl [] s.heap := hP
  have hl := lv_entry ([.int a0, .int a1, .int a2]) (n := 3) (Nat.le_of_ble_eq_true rfl)
  rw [lg_entry_eq]
  generalize (lg_sl ([.int a0, .int a1, .int a2]) ++ List.replicate (3 - (lg_sl ([.int a0, .int a1, .int a2])).length) Slot.unset).toArray = ls at hl ⊢
  have hl : lv_has ls 3 [(0, .int a0), (1, .int a1), (2, .int a2)] := hl
  refine lv_iload_n hx hb dX10_checkSlots_0 rfl (lv_at hl 0 rfl) ?_
  have hPc := hP.sub (ws' := []) [] rfl
  have hDc := hD.sub (ws' := []) [] (by decide) rfl
  have hFc := va_free (wc := []) hD hS hA [] rfl
  refine vx_callv (vx_runS (As := [.int a0]) (rest := []) ⟨hx, hb, hml, hown, hts⟩ (k_X10_checkSlot l htr D cI cJ cZ a0 s.heap.size) (va_cwS 1 hts gk_X10_checkSlots_X10_checkSlot rfl rfl rfl (by decide +kernel) ⟨Nat.le_of_ble_eq_true rfl, Nat.le_of_ble_eq_true rfl⟩) ⟨xPc_blind, xPc_pre hPc hK hDc hE hS hFc hV⟩ rfl rfl hl.1 rfl (lv_room (Nat.le_of_ble_eq_true rfl)) dX10_checkSlots_1 ⟨Nat.le_of_ble_eq_true rfl, Nat.le_of_ble_eq_true rfl⟩) hS (fun q _ h => hFc q h) hFc (fun q _ h => hFc q h) (fun E ce q9 u t H_1 locs ht hvm hpx hBX hz1 hk1 hS hq9 hcv hcl => ?_) (fun u t H_1 locs ht hvm hw hB hz1 hk1 hS => ?_)
  · rcases hBX with ⟨rfl, e_0⟩ | ⟨rfl, e_0, e_1⟩
    · have c_2 : a0.toInt < 0 := e_0
      exact vx_out (fun x hx => (htab x hx).elim) hlocks hq9 hcv hcl (fun t ht hW => ⟨(), trivial, Or.inl ⟨rfl, c_2⟩, hS.F ht⟩) hS.2.2 (Nat.le_of_ble_eq_true rfl) (Nat.le_of_ble_eq_true rfl)
    · have c_3 : 0 ≤ a0.toInt := e_0
      have c_4 : 6 ≤ a0.toInt := e_1
      exact vx_out (fun x hx => (htab x hx).elim) hlocks hq9 hcv hcl (fun t ht hW => ⟨(), trivial, Or.inr (Or.inl ⟨rfl, c_3, c_4⟩), hS.F ht⟩) hS.2.2 (Nat.le_of_ble_eq_true rfl) (Nat.le_of_ble_eq_true rfl)
  · rcases hw with ⟨e_0, e_1⟩
    have c_5 : 0 ≤ a0.toInt := e_0
    have c_6 : a0.toInt < 6 := e_1
    obtain ⟨hP1, hD1⟩ := hB
    rw [ht] at hP1
    obtain ⟨hP, hD⟩ := va_join (wr := []) (w1 := []) hP hD [] [] rfl rfl (by decide) (by decide) hk1 hFc hP1 hD1
    have hP : va_P D vwCl [] H_1 := hP
    have hD : va_D A [] := hD
    refine W.widen (k := 1) (n := 6) (Nat.le_of_ble_eq_true rfl) (Nat.le_of_ble_eq_true rfl) ?_
    refine lv_iload_n hx hb dX10_checkSlots_4 rfl (lv_at hl 1 rfl) ?_
    have hPc := hP.sub (ws' := []) [] rfl
    have hDc := hD.sub (ws' := []) [] (by decide) rfl
    have hFc := va_free (wc := []) hD hS hA [] rfl
    refine vx_callv (vx_runS (As := [.int a1]) (rest := []) ⟨hx, hb, hml, hown, hts⟩ (k_X10_checkSlot l htr D cI cJ cZ a1 H_1.size) (va_cwS 1 hts gk_X10_checkSlots_X10_checkSlot rfl rfl rfl (by decide +kernel) ⟨Nat.le_of_ble_eq_true rfl, Nat.le_of_ble_eq_true rfl⟩) ⟨xPc_blind, xPc_pre hPc hK hDc hE hS hFc hV⟩ rfl rfl hl.1 rfl (lv_room (Nat.le_of_ble_eq_true rfl)) dX10_checkSlots_5 ⟨Nat.le_of_ble_eq_true rfl, Nat.le_of_ble_eq_true rfl⟩) hS (fun q _ h => hFc q h) hFc (fun q _ h => hFc q h) (fun E ce q9 u t H_7 locs ht hvm hpx hBX hz1 hk1 hS hq9 hcv hcl => ?_) (fun u t H_7 locs ht hvm hw hB hz1 hk1 hS => ?_)
    · rcases hBX with ⟨rfl, e_0⟩ | ⟨rfl, e_0, e_1⟩
      · have c_8 : a1.toInt < 0 := e_0
        exact vx_out (fun x hx => (htab x hx).elim) hlocks hq9 hcv hcl (fun t ht hW => ⟨(), trivial, Or.inr (Or.inr (Or.inl ⟨rfl, c_5, c_6, c_8⟩)), hS.F ht⟩) hS.2.2 (Nat.le_of_ble_eq_true rfl) (Nat.le_of_ble_eq_true rfl)
      · have c_9 : 0 ≤ a1.toInt := e_0
        have c_10 : 6 ≤ a1.toInt := e_1
        exact vx_out (fun x hx => (htab x hx).elim) hlocks hq9 hcv hcl (fun t ht hW => ⟨(), trivial, Or.inr (Or.inr (Or.inr (Or.inl ⟨rfl, c_5, c_6, c_9, c_10⟩))), hS.F ht⟩) hS.2.2 (Nat.le_of_ble_eq_true rfl) (Nat.le_of_ble_eq_true rfl)
    · rcases hw with ⟨e_0, e_1⟩
      have c_11 : 0 ≤ a1.toInt := e_0
      have c_12 : a1.toInt < 6 := e_1
      obtain ⟨hP1, hD1⟩ := hB
      rw [ht] at hP1
      obtain ⟨hP, hD⟩ := va_join (wr := []) (w1 := []) hP hD [] [] rfl rfl (by decide) (by decide) hk1 hFc hP1 hD1
      have hP : va_P D vwCl [] H_7 := hP
      have hD : va_D A [] := hD
      refine W.widen (k := 2) (n := 12) (Nat.le_of_ble_eq_true rfl) (Nat.le_of_ble_eq_true rfl) ?_
      refine lv_iload_n hx hb dX10_checkSlots_8 rfl (lv_at hl 2 rfl) ?_
      have hPc := hP.sub (ws' := []) [] rfl
      have hDc := hD.sub (ws' := []) [] (by decide) rfl
      have hFc := va_free (wc := []) hD hS hA [] rfl
      refine vx_callv (vx_runS (As := [.int a2]) (rest := []) ⟨hx, hb, hml, hown, hts⟩ (k_X10_checkSlot l htr D cI cJ cZ a2 H_7.size) (va_cwS 1 hts gk_X10_checkSlots_X10_checkSlot rfl rfl rfl (by decide +kernel) ⟨Nat.le_of_ble_eq_true rfl, Nat.le_of_ble_eq_true rfl⟩) ⟨xPc_blind, xPc_pre hPc hK hDc hE hS hFc hV⟩ rfl rfl hl.1 rfl (lv_room (Nat.le_of_ble_eq_true rfl)) dX10_checkSlots_9 ⟨Nat.le_of_ble_eq_true rfl, Nat.le_of_ble_eq_true rfl⟩) hS (fun q _ h => hFc q h) hFc (fun q _ h => hFc q h) (fun E ce q9 u t H_13 locs ht hvm hpx hBX hz1 hk1 hS hq9 hcv hcl => ?_) (fun u t H_13 locs ht hvm hw hB hz1 hk1 hS => ?_)
      · rcases hBX with ⟨rfl, e_0⟩ | ⟨rfl, e_0, e_1⟩
        · have c_14 : a2.toInt < 0 := e_0
          exact vx_out (fun x hx => (htab x hx).elim) hlocks hq9 hcv hcl (fun t ht hW => ⟨(), trivial, Or.inr (Or.inr (Or.inr (Or.inr (Or.inl ⟨rfl, c_5, c_6, c_11, c_12, c_14⟩)))), hS.F ht⟩) hS.2.2 (Nat.le_of_ble_eq_true rfl) (Nat.le_of_ble_eq_true rfl)
        · have c_15 : 0 ≤ a2.toInt := e_0
          have c_16 : 6 ≤ a2.toInt := e_1
          exact vx_out (fun x hx => (htab x hx).elim) hlocks hq9 hcv hcl (fun t ht hW => ⟨(), trivial, Or.inr (Or.inr (Or.inr (Or.inr (Or.inr ⟨rfl, c_5, c_6, c_11, c_12, c_15, c_16⟩)))), hS.F ht⟩) hS.2.2 (Nat.le_of_ble_eq_true rfl) (Nat.le_of_ble_eq_true rfl)
      · rcases hw with ⟨e_0, e_1⟩
        have c_17 : 0 ≤ a2.toInt := e_0
        have c_18 : a2.toInt < 6 := e_1
        obtain ⟨hP1, hD1⟩ := hB
        rw [ht] at hP1
        obtain ⟨hP, hD⟩ := va_join (wr := []) (w1 := []) hP hD [] [] rfl rfl (by decide) (by decide) hk1 hFc hP1 hD1
        have hP : va_P D vwCl [] H_13 := hP
        have hD : va_D A [] := hD
        refine W.widen (k := 3) (n := 18) (Nat.le_of_ble_eq_true rfl) (Nat.le_of_ble_eq_true rfl) ?_
        have hP9 := hP.sub (ws' := []) [] rfl
        have hD9 := hD.sub (ws' := []) [] (by decide) rfl
        refine W.widen (k := 3) (n := 18) (Nat.le_of_ble_eq_true rfl) (Nat.le_of_ble_eq_true rfl) ?_
        exact vx_ret (W.vret hx hb hr (fun t ht hW => ⟨⟨(), rfl, ⟨c_5, c_6, c_11, c_12, c_17, c_18⟩, by rw [ht]; exact hP9, hD9⟩, hS.F ht⟩) hS.2.2 dX10_checkSlots_12)
def wk_X10_checkSelection : List Cond := .code yX10_checkSelection cX10_checkSelection 4 none :: (([.methodLink RX10 138 yX10_checkSlot, .static yX10_checkSlot, .initialized RX10, .code yX10_checkSlot cX10_checkSlot 1 none, .classLink RX10 91 iob, .initialized iob, .methodLink RX10 189 yX10_checkVariable, .static yX10_checkVariable, .code yX10_checkVariable cX10_checkVariable 1 none] : List Cond) ++ (vx_atS RX10 95 iob ["java/lang/RuntimeException", "java/lang/Exception"]).filter goodWord)
set_option maxRecDepth 20000 in
theorem ggk_X10_checkSelection_X10_checkSlot : GoodIn wk_X10_checkSelection wk_X10_checkSlot := goodIn_ca (goodIn_r _ [4, 5, 6] (by decide +kernel) (by decide +kernel)) (goodIn_sub (fun _ h => List.mem_cons_of_mem _ (List.mem_append_right _ h)) (by decide +kernel))
set_option maxRecDepth 20000 in
theorem gk_X10_checkSelection_X10_checkSlot : GoodIn wk_X10_checkSelection (va_wsS RX10 138 yX10_checkSlot wk_X10_checkSlot) := goodIn_app (goodIn_r _ [1, 2, 3] (by decide +kernel) (by decide +kernel)) ggk_X10_checkSelection_X10_checkSlot
set_option maxRecDepth 20000 in
theorem ggk_X10_checkSelection_X10_checkVariable : GoodIn wk_X10_checkSelection wk_X10_checkVariable := goodIn_ca (goodIn_r _ [9, 5, 6] (by decide +kernel) (by decide +kernel)) (goodIn_sub (fun _ h => List.mem_cons_of_mem _ (List.mem_append_right _ h)) (by decide +kernel))
set_option maxRecDepth 20000 in
theorem gk_X10_checkSelection_X10_checkVariable : GoodIn wk_X10_checkSelection (va_wsS RX10 189 yX10_checkVariable wk_X10_checkVariable) := goodIn_app (goodIn_r _ [7, 8, 3] (by decide +kernel) (by decide +kernel)) ggk_X10_checkSelection_X10_checkVariable
set_option maxHeartbeats 4000000 in
set_option maxRecDepth 100000 in
theorem k_X10_checkSelection (l : Launch) (htr : l.stackTraces = false) (D : va_G) (cI cJ cZ : ClassId) (a0 : Int32) (a1 : Int32) (a2 : Int32) (a3 : Int32) (sz : Nat) : vx_Met l yX10_checkSelection wk_X10_checkSelection ({ frames := 7, cells := 4, slots := 24, locals := 102 }) (xPc D cI cJ cZ [.int a0, .int a1, .int a2, .int a3] [] sz) (va_Qv (fun (u : Unit) => (0 ≤ a0.toInt ∧ a0.toInt < 6 ∧ 0 ≤ a3.toInt ∧ a3.toInt < 6 ∧ 0 ≤ a1.toInt ∧ a1.toInt < 3 ∧ 0 ≤ a2.toInt ∧ a2.toInt < 3)) (fun (u : Unit) (t : State) => va_P D vwCl ([] : va_W) t.heap ∧ va_D (va_A [] sz) ([] : va_W)) (va_A [] sz)) (vx_X (fun _ : Unit => True) (fun (E : String) (_ : Unit) (_ : State) => (E = iob ∧ a0.toInt < 0) ∨ (E = iob ∧ 0 ≤ a0.toInt ∧ 6 ≤ a0.toInt) ∨ (E = iob ∧ 0 ≤ a0.toInt ∧ a0.toInt < 6 ∧ a3.toInt < 0) ∨ (E = iob ∧ 0 ≤ a0.toInt ∧ a0.toInt < 6 ∧ 0 ≤ a3.toInt ∧ 6 ≤ a3.toInt) ∨ (E = iob ∧ 0 ≤ a0.toInt ∧ a0.toInt < 6 ∧ 0 ≤ a3.toInt ∧ a3.toInt < 6 ∧ a1.toInt < 0) ∨ (E = iob ∧ 0 ≤ a0.toInt ∧ a0.toInt < 6 ∧ 0 ≤ a3.toInt ∧ a3.toInt < 6 ∧ 0 ≤ a1.toInt ∧ 3 ≤ a1.toInt) ∨ (E = iob ∧ 0 ≤ a0.toInt ∧ a0.toInt < 6 ∧ 0 ≤ a3.toInt ∧ a3.toInt < 6 ∧ 0 ≤ a1.toInt ∧ a1.toInt < 3 ∧ a2.toInt < 0) ∨ (E = iob ∧ 0 ≤ a0.toInt ∧ a0.toInt < 6 ∧ 0 ≤ a3.toInt ∧ a3.toInt < 6 ∧ 0 ≤ a1.toInt ∧ a1.toInt < 3 ∧ 0 ≤ a2.toInt ∧ 3 ≤ a2.toInt)) (va_A [] sz)) 4 24 (va_A [] sz) := by
  refine vx_ofW (cc := cX10_checkSelection) (maxL := 4) (ret := none) (by decide) rfl ?_
  intro p e s m args below meth c s₁ B hml htab hv
  obtain ⟨rfl, hsz, hP, hK, hD0, hE, hV⟩ := hv
  have hx := B.exec
  have hb := B.bytes
  have hr := B.returns
  have hts := atoms_spec (ws := wk_X10_checkSelection) B.pre
  have hown : s.vm.findClass RX10 = some m.cls := findClass_of_methodNamed B.named
  have hlocks := B.notSynchronized
  subst hsz
  have hD := hD0.self (sz := s.heap.size)
  generalize hAe : va_A [] s.heap.size = A at hD hE ⊢
  have hA : ∀ q : Nat, s.heap.size ≤ q → A q := fun q h => by rw [← hAe]; exact Or.inr h
  have hS : va_S A s.heap s.heap [] := va_S.rf
  have hP : va_P D vwCl [] s.heap := hP
  have hl := lv_entry ([.int a0, .int a1, .int a2, .int a3]) (n := 4) (Nat.le_of_ble_eq_true rfl)
  rw [lg_entry_eq]
  generalize (lg_sl ([.int a0, .int a1, .int a2, .int a3]) ++ List.replicate (4 - (lg_sl ([.int a0, .int a1, .int a2, .int a3])).length) Slot.unset).toArray = ls at hl ⊢
  have hl : lv_has ls 4 [(0, .int a0), (1, .int a1), (2, .int a2), (3, .int a3)] := hl
  refine lv_iload_n hx hb dX10_checkSelection_0 rfl (lv_at hl 0 rfl) ?_
  have hPc := hP.sub (ws' := []) [] rfl
  have hDc := hD.sub (ws' := []) [] (by decide) rfl
  have hFc := va_free (wc := []) hD hS hA [] rfl
  refine vx_callv (vx_runS (As := [.int a0]) (rest := []) ⟨hx, hb, hml, hown, hts⟩ (k_X10_checkSlot l htr D cI cJ cZ a0 s.heap.size) (va_cwS 1 hts gk_X10_checkSelection_X10_checkSlot rfl rfl rfl (by decide +kernel) ⟨Nat.le_of_ble_eq_true rfl, Nat.le_of_ble_eq_true rfl⟩) ⟨xPc_blind, xPc_pre hPc hK hDc hE hS hFc hV⟩ rfl rfl hl.1 rfl (lv_room (Nat.le_of_ble_eq_true rfl)) dX10_checkSelection_1 ⟨Nat.le_of_ble_eq_true rfl, Nat.le_of_ble_eq_true rfl⟩) hS (fun q _ h => hFc q h) hFc (fun q _ h => hFc q h) (fun E ce q9 u t H_1 locs ht hvm hpx hBX hz1 hk1 hS hq9 hcv hcl => ?_) (fun u t H_1 locs ht hvm hw hB hz1 hk1 hS => ?_)
  · rcases hBX with ⟨rfl, e_0⟩ | ⟨rfl, e_0, e_1⟩
    · have c_2 : a0.toInt < 0 := e_0
      exact vx_out (fun x hx => (htab x hx).elim) hlocks hq9 hcv hcl (fun t ht hW => ⟨(), trivial, Or.inl ⟨rfl, c_2⟩, hS.F ht⟩) hS.2.2 (Nat.le_of_ble_eq_true rfl) (Nat.le_of_ble_eq_true rfl)
    · have c_3 : 0 ≤ a0.toInt := e_0
      have c_4 : 6 ≤ a0.toInt := e_1
      exact vx_out (fun x hx => (htab x hx).elim) hlocks hq9 hcv hcl (fun t ht hW => ⟨(), trivial, Or.inr (Or.inl ⟨rfl, c_3, c_4⟩), hS.F ht⟩) hS.2.2 (Nat.le_of_ble_eq_true rfl) (Nat.le_of_ble_eq_true rfl)
  · rcases hw with ⟨e_0, e_1⟩
    have c_5 : 0 ≤ a0.toInt := e_0
    have c_6 : a0.toInt < 6 := e_1
    obtain ⟨hP1, hD1⟩ := hB
    rw [ht] at hP1
    obtain ⟨hP, hD⟩ := va_join (wr := []) (w1 := []) hP hD [] [] rfl rfl (by decide) (by decide) hk1 hFc hP1 hD1
    have hP : va_P D vwCl [] H_1 := hP
    have hD : va_D A [] := hD
    refine W.widen (k := 1) (n := 6) (Nat.le_of_ble_eq_true rfl) (Nat.le_of_ble_eq_true rfl) ?_
    refine lv_iload_n hx hb dX10_checkSelection_4 rfl (lv_at hl 3 rfl) ?_
    have hPc := hP.sub (ws' := []) [] rfl
    have hDc := hD.sub (ws' := []) [] (by decide) rfl
    have hFc := va_free (wc := []) hD hS hA [] rfl
    refine vx_callv (vx_runS (As := [.int a3]) (rest := []) ⟨hx, hb, hml, hown, hts⟩ (k_X10_checkSlot l htr D cI cJ cZ a3 H_1.size) (va_cwS 1 hts gk_X10_checkSelection_X10_checkSlot rfl rfl rfl (by decide +kernel) ⟨Nat.le_of_ble_eq_true rfl, Nat.le_of_ble_eq_true rfl⟩) ⟨xPc_blind, xPc_pre hPc hK hDc hE hS hFc hV⟩ rfl rfl hl.1 rfl (lv_room (Nat.le_of_ble_eq_true rfl)) dX10_checkSelection_5 ⟨Nat.le_of_ble_eq_true rfl, Nat.le_of_ble_eq_true rfl⟩) hS (fun q _ h => hFc q h) hFc (fun q _ h => hFc q h) (fun E ce q9 u t H_7 locs ht hvm hpx hBX hz1 hk1 hS hq9 hcv hcl => ?_) (fun u t H_7 locs ht hvm hw hB hz1 hk1 hS => ?_)
    · rcases hBX with ⟨rfl, e_0⟩ | ⟨rfl, e_0, e_1⟩
      · have c_8 : a3.toInt < 0 := e_0
        exact vx_out (fun x hx => (htab x hx).elim) hlocks hq9 hcv hcl (fun t ht hW => ⟨(), trivial, Or.inr (Or.inr (Or.inl ⟨rfl, c_5, c_6, c_8⟩)), hS.F ht⟩) hS.2.2 (Nat.le_of_ble_eq_true rfl) (Nat.le_of_ble_eq_true rfl)
      · have c_9 : 0 ≤ a3.toInt := e_0
        have c_10 : 6 ≤ a3.toInt := e_1
        exact vx_out (fun x hx => (htab x hx).elim) hlocks hq9 hcv hcl (fun t ht hW => ⟨(), trivial, Or.inr (Or.inr (Or.inr (Or.inl ⟨rfl, c_5, c_6, c_9, c_10⟩))), hS.F ht⟩) hS.2.2 (Nat.le_of_ble_eq_true rfl) (Nat.le_of_ble_eq_true rfl)
    · rcases hw with ⟨e_0, e_1⟩
      have c_11 : 0 ≤ a3.toInt := e_0
      have c_12 : a3.toInt < 6 := e_1
      obtain ⟨hP1, hD1⟩ := hB
      rw [ht] at hP1
      obtain ⟨hP, hD⟩ := va_join (wr := []) (w1 := []) hP hD [] [] rfl rfl (by decide) (by decide) hk1 hFc hP1 hD1
      have hP : va_P D vwCl [] H_7 := hP
      have hD : va_D A [] := hD
      refine W.widen (k := 2) (n := 12) (Nat.le_of_ble_eq_true rfl) (Nat.le_of_ble_eq_true rfl) ?_
      refine lv_iload_n hx hb dX10_checkSelection_8 rfl (lv_at hl 1 rfl) ?_
      have hPc := hP.sub (ws' := []) [] rfl
      have hDc := hD.sub (ws' := []) [] (by decide) rfl
      have hFc := va_free (wc := []) hD hS hA [] rfl
      refine vx_callv (vx_runS (As := [.int a1]) (rest := []) ⟨hx, hb, hml, hown, hts⟩ (k_X10_checkVariable l htr D cI cJ cZ a1 H_7.size) (va_cwS 1 hts gk_X10_checkSelection_X10_checkVariable rfl rfl rfl (by decide +kernel) ⟨Nat.le_of_ble_eq_true rfl, Nat.le_of_ble_eq_true rfl⟩) ⟨xPc_blind, xPc_pre hPc hK hDc hE hS hFc hV⟩ rfl rfl hl.1 rfl (lv_room (Nat.le_of_ble_eq_true rfl)) dX10_checkSelection_9 ⟨Nat.le_of_ble_eq_true rfl, Nat.le_of_ble_eq_true rfl⟩) hS (fun q _ h => hFc q h) hFc (fun q _ h => hFc q h) (fun E ce q9 u t H_13 locs ht hvm hpx hBX hz1 hk1 hS hq9 hcv hcl => ?_) (fun u t H_13 locs ht hvm hw hB hz1 hk1 hS => ?_)
      · rcases hBX with ⟨rfl, e_0⟩ | ⟨rfl, e_0, e_1⟩
        · have c_14 : a1.toInt < 0 := e_0
          exact vx_out (fun x hx => (htab x hx).elim) hlocks hq9 hcv hcl (fun t ht hW => ⟨(), trivial, Or.inr (Or.inr (Or.inr (Or.inr (Or.inl ⟨rfl, c_5, c_6, c_11, c_12, c_14⟩)))), hS.F ht⟩) hS.2.2 (Nat.le_of_ble_eq_true rfl) (Nat.le_of_ble_eq_true rfl)
        · have c_15 : 0 ≤ a1.toInt := e_0
          have c_16 : 3 ≤ a1.toInt := e_1
          exact vx_out (fun x hx => (htab x hx).elim) hlocks hq9 hcv hcl (fun t ht hW => ⟨(), trivial, Or.inr (Or.inr (Or.inr (Or.inr (Or.inr (Or.inl ⟨rfl, c_5, c_6, c_11, c_12, c_15, c_16⟩))))), hS.F ht⟩) hS.2.2 (Nat.le_of_ble_eq_true rfl) (Nat.le_of_ble_eq_true rfl)
      · rcases hw with ⟨e_0, e_1⟩
        have c_17 : 0 ≤ a1.toInt := e_0
        have c_18 : a1.toInt < 3 := e_1
        obtain ⟨hP1, hD1⟩ := hB
        rw [ht] at hP1
        obtain ⟨hP, hD⟩ := va_join (wr := []) (w1 := []) hP hD [] [] rfl rfl (by decide) (by decide) hk1 hFc hP1 hD1
        have hP : va_P D vwCl [] H_13 := hP
        have hD : va_D A [] := hD
        refine W.widen (k := 3) (n := 18) (Nat.le_of_ble_eq_true rfl) (Nat.le_of_ble_eq_true rfl) ?_
        refine lv_iload_n hx hb dX10_checkSelection_12 rfl (lv_at hl 2 rfl) ?_
        have hPc := hP.sub (ws' := []) [] rfl
        have hDc := hD.sub (ws' := []) [] (by decide) rfl
        have hFc := va_free (wc := []) hD hS hA [] rfl
        refine vx_callv (vx_runS (As := [.int a2]) (rest := []) ⟨hx, hb, hml, hown, hts⟩ (k_X10_checkVariable l htr D cI cJ cZ a2 H_13.size) (va_cwS 1 hts gk_X10_checkSelection_X10_checkVariable rfl rfl rfl (by decide +kernel) ⟨Nat.le_of_ble_eq_true rfl, Nat.le_of_ble_eq_true rfl⟩) ⟨xPc_blind, xPc_pre hPc hK hDc hE hS hFc hV⟩ rfl rfl hl.1 rfl (lv_room (Nat.le_of_ble_eq_true rfl)) dX10_checkSelection_13 ⟨Nat.le_of_ble_eq_true rfl, Nat.le_of_ble_eq_true rfl⟩) hS (fun q _ h => hFc q h) hFc (fun q _ h => hFc q h) (fun E ce q9 u t H_19 locs ht hvm hpx hBX hz1 hk1 hS hq9 hcv hcl => ?_) (fun u t H_19 locs ht hvm hw hB hz1 hk1 hS => ?_)
        · rcases hBX with ⟨rfl, e_0⟩ | ⟨rfl, e_0, e_1⟩
          · have c_20 : a2.toInt < 0 := e_0
            exact vx_out (fun x hx => (htab x hx).elim) hlocks hq9 hcv hcl (fun t ht hW => ⟨(), trivial, Or.inr (Or.inr (Or.inr (Or.inr (Or.inr (Or.inr (Or.inl ⟨rfl, c_5, c_6, c_11, c_12, c_17, c_18, c_20⟩)))))), hS.F ht⟩) hS.2.2 (Nat.le_of_ble_eq_true rfl) (Nat.le_of_ble_eq_true rfl)
          · have c_21 : 0 ≤ a2.toInt := e_0
            have c_22 : 3 ≤ a2.toInt := e_1
            exact vx_out (fun x hx => (htab x hx).elim) hlocks hq9 hcv hcl (fun t ht hW => ⟨(), trivial, Or.inr (Or.inr (Or.inr (Or.inr (Or.inr (Or.inr (Or.inr ⟨rfl, c_5, c_6, c_11, c_12, c_17, c_18, c_21, c_22⟩)))))), hS.F ht⟩) hS.2.2 (Nat.le_of_ble_eq_true rfl) (Nat.le_of_ble_eq_true rfl)
        · rcases hw with ⟨e_0, e_1⟩
          have c_23 : 0 ≤ a2.toInt := e_0
          have c_24 : a2.toInt < 3 := e_1
          obtain ⟨hP1, hD1⟩ := hB
          rw [ht] at hP1
          obtain ⟨hP, hD⟩ := va_join (wr := []) (w1 := []) hP hD [] [] rfl rfl (by decide) (by decide) hk1 hFc hP1 hD1
          have hP : va_P D vwCl [] H_19 := hP
          have hD : va_D A [] := hD
          refine W.widen (k := 4) (n := 24) (Nat.le_of_ble_eq_true rfl) (Nat.le_of_ble_eq_true rfl) ?_
          have hP9 := hP.sub (ws' := []) [] rfl
          have hD9 := hD.sub (ws' := []) [] (by decide) rfl
          refine W.widen (k := 4) (n := 24) (Nat.le_of_ble_eq_true rfl) (Nat.le_of_ble_eq_true rfl) ?_
          exact vx_ret (W.vret hx hb hr (fun t ht hW => ⟨⟨(), rfl, ⟨c_5, c_6, c_11, c_12, c_17, c_18, c_23, c_24⟩, by rw [ht]; exact hP9, hD9⟩, hS.F ht⟩) hS.2.2 dX10_checkSelection_16)
def wk_X10_tableIn : List Cond := .code yX10_tableIn cX10_tableIn 2 (some (.object "DocumentSpanner$SortedInts")) :: (([.fieldLink RX10 12 "DocumentSpanner" "state" "LDocumentSpanner$State;", .fieldLink RX10 96 "DocumentSpanner$State" "filled" "[Z", .classLink RX10 80 ise, .initialized ise, .methodLink RX10 138 yX10_checkSlot, .static yX10_checkSlot, .initialized RX10, .code yX10_checkSlot cX10_checkSlot 1 none, .classLink RX10 91 iob, .initialized iob] : List Cond) ++ wsX100 ++ wsX80 ++ (vx_atS RX10 84 ise ["java/lang/RuntimeException", "java/lang/Exception"]).filter goodWord ++ (vx_atS RX10 95 iob ["java/lang/RuntimeException", "java/lang/Exception"]).filter goodWord)
set_option maxRecDepth 20000 in
theorem ggk_X10_tableIn_X10_checkSlot : GoodIn wk_X10_tableIn wk_X10_checkSlot := goodIn_ca (goodIn_r _ [8, 9, 10] (by decide +kernel) (by decide +kernel)) (goodIn_sub (fun _ h => List.mem_cons_of_mem _ (List.mem_append_right _ h)) (by decide +kernel))
set_option maxRecDepth 20000 in
theorem gk_X10_tableIn_X10_checkSlot : GoodIn wk_X10_tableIn (va_wsS RX10 138 yX10_checkSlot wk_X10_checkSlot) := goodIn_app (goodIn_r _ [5, 6, 7] (by decide +kernel) (by decide +kernel)) ggk_X10_tableIn_X10_checkSlot
set_option maxHeartbeats 4000000 in
set_option maxRecDepth 100000 in
theorem k_X10_tableIn (l : Launch) (htr : l.stackTraces = false) (D : va_G) (cI cJ cZ : ClassId) (x : Nat) (st : Nat) (kp : Nat) (bf : Nat) (o1 : Nat) (o2 : Nat) (o3 : Nat) (o4 : Nat) (o5 : Nat) (o6 : Nat) (lt : Nat) (tb : Nat) (fl : Nat) (wt : Nat) (a0 : Int32) (sz : Nat) : vx_Met l yX10_tableIn wk_X10_tableIn ({ frames := 7, cells := 2, slots := 12, locals := 102 }) (xPc D cI cJ cZ [.ref x, .int a0] [(x, .inr (9, [.ref st, .ref kp, .int 0, .ref bf, .int 0, .int (-1), .int (-1), .int 0, .ref o1, .ref o2, .ref o3, .ref o4, .ref o5, .ref o6])), (st, .inr (8, [.ref lt, .ref tb, .ref fl, .ref wt, .int 0, .null])), (fl, .inl (cZ, 6, .inl (fun _ => 0)))] sz) (va_Qq (fun (r : Option Nat) (u : Unit) => False) (fun (u : Unit) (t : State) => va_P D vwCl ([] : va_W) t.heap ∧ va_D (va_A [(x, .inr (9, [.ref st, .ref kp, .int 0, .ref bf, .int 0, .int (-1), .int (-1), .int 0, .ref o1, .ref o2, .ref o3, .ref o4, .ref o5, .ref o6])), (st, .inr (8, [.ref lt, .ref tb, .ref fl, .ref wt, .int 0, .null])), (fl, .inl (cZ, 6, .inl (fun _ => 0)))] sz) ([] : va_W)) (va_A [(x, .inr (9, [.ref st, .ref kp, .int 0, .ref bf, .int 0, .int (-1), .int (-1), .int 0, .ref o1, .ref o2, .ref o3, .ref o4, .ref o5, .ref o6])), (st, .inr (8, [.ref lt, .ref tb, .ref fl, .ref wt, .int 0, .null])), (fl, .inl (cZ, 6, .inl (fun _ => 0)))] sz)) (vx_X (fun _ : Unit => True) (fun (E : String) (_ : Unit) (_ : State) => (E = iob ∧ a0.toInt < 0) ∨ (E = iob ∧ 0 ≤ a0.toInt ∧ 6 ≤ a0.toInt) ∨ (E = ise ∧ 0 ≤ a0.toInt ∧ a0.toInt < 6)) (va_A [(x, .inr (9, [.ref st, .ref kp, .int 0, .ref bf, .int 0, .int (-1), .int (-1), .int 0, .ref o1, .ref o2, .ref o3, .ref o4, .ref o5, .ref o6])), (st, .inr (8, [.ref lt, .ref tb, .ref fl, .ref wt, .int 0, .null])), (fl, .inl (cZ, 6, .inl (fun _ => 0)))] sz)) 2 12 (va_A [(x, .inr (9, [.ref st, .ref kp, .int 0, .ref bf, .int 0, .int (-1), .int (-1), .int 0, .ref o1, .ref o2, .ref o3, .ref o4, .ref o5, .ref o6])), (st, .inr (8, [.ref lt, .ref tb, .ref fl, .ref wt, .int 0, .null])), (fl, .inl (cZ, 6, .inl (fun _ => 0)))] sz) := by
  refine vx_ofW (cc := cX10_tableIn) (maxL := 2) (ret := (some (.object "DocumentSpanner$SortedInts"))) (by decide) rfl ?_
  intro p e s m args below meth c s₁ B hml htab hv
  obtain ⟨rfl, hsz, hP, hK, hD0, hE, hV⟩ := hv
  have hx := B.exec
  have hb := B.bytes
  have hr := B.returns
  have hts := atoms_spec (ws := wk_X10_tableIn) B.pre
  have hown : s.vm.findClass RX10 = some m.cls := findClass_of_methodNamed B.named
  have hlocks := B.notSynchronized
  have i_X10 : ∀ w ∈ wsX100, w ∈ wk_X10_tableIn := fun _ h => List.mem_cons_of_mem _ (List.mem_append_left _ (List.mem_append_left _ (List.mem_append_left _ (List.mem_append_right _ h))))
  have i_X8 : ∀ w ∈ wsX80, w ∈ wk_X10_tableIn := fun _ h => List.mem_cons_of_mem _ (List.mem_append_left _ (List.mem_append_left _ (List.mem_append_right _ h)))
  have w_1 := hts (.fieldLink RX10 12 "DocumentSpanner" "state" "LDocumentSpanner$State;") (List.mem_of_getElem? (i := 1) rfl)
  have w_2 := hts (.fieldLink RX10 96 "DocumentSpanner$State" "filled" "[Z") (List.mem_of_getElem? (i := 2) rfl)
  have w_3 := hts (.classLink RX10 80 ise) (List.mem_of_getElem? (i := 3) rfl)
  have w_4 := hts (.initialized ise) (List.mem_of_getElem? (i := 4) rfl)
  have w_5 := xat_84 (fun w h => hts w (List.mem_cons_of_mem _ (List.mem_append_left _ (List.mem_append_right _ h)))) hV
  subst hsz
  have hD := hD0.self (sz := s.heap.size)
  generalize hAe : va_A [(x, .inr (9, [.ref st, .ref kp, .int 0, .ref bf, .int 0, .int (-1), .int (-1), .int 0, .ref o1, .ref o2, .ref o3, .ref o4, .ref o5, .ref o6])), (st, .inr (8, [.ref lt, .ref tb, .ref fl, .ref wt, .int 0, .null])), (fl, .inl (cZ, 6, .inl (fun _ => 0)))] s.heap.size = A at hD hE ⊢
  have hA : ∀ q : Nat, s.heap.size ≤ q → A q := fun q h => by rw [← hAe]; exact Or.inr h
  have hS : va_S A s.heap s.heap [] := va_S.rf
  have hP : va_P D vwCl [(x, .inr (9, [.ref st, .ref kp, .int 0, .ref bf, .int 0, .int (-1), .int (-1), .int 0, .ref o1, .ref o2, .ref o3, .ref o4, .ref o5, .ref o6])), (st, .inr (8, [.ref lt, .ref tb, .ref fl, .ref wt, .int 0, .null])), (fl, .inl (cZ, 6, .inl (fun _ => 0)))] s.heap := hP
  have hl := lv_entry ([.ref x, .int a0]) (n := 2) (Nat.le_of_ble_eq_true rfl)
  rw [lg_entry_eq]
  generalize (lg_sl ([.ref x, .int a0]) ++ List.replicate (2 - (lg_sl ([.ref x, .int a0])).length) Slot.unset).toArray = ls at hl ⊢
  have hl : lv_has ls 2 [(0, .ref x), (1, .int a0)] := hl
  refine lv_iload_n hx hb dX10_tableIn_0 rfl (lv_at hl 1 rfl) ?_
  have hPc := hP.sub (ws' := []) [] rfl
  have hDc := hD.sub (ws' := []) [] (by decide) rfl
  have hFc := va_free (wc := []) hD hS hA [] rfl
  refine vx_callv (vx_runS (As := [.int a0]) (rest := []) ⟨hx, hb, hml, hown, hts⟩ (k_X10_checkSlot l htr D cI cJ cZ a0 s.heap.size) (va_cwS 1 hts gk_X10_tableIn_X10_checkSlot rfl rfl rfl (by decide +kernel) ⟨Nat.le_of_ble_eq_true rfl, Nat.le_of_ble_eq_true rfl⟩) ⟨xPc_blind, xPc_pre hPc hK hDc hE hS hFc hV⟩ rfl rfl hl.1 rfl (lv_room (Nat.le_of_ble_eq_true rfl)) dX10_tableIn_1 ⟨Nat.le_of_ble_eq_true rfl, Nat.le_of_ble_eq_true rfl⟩) hS (fun q _ h => hFc q h) hFc (fun q _ h => hFc q h) (fun E ce q9 u t H_1 locs ht hvm hpx hBX hz1 hk1 hS hq9 hcv hcl => ?_) (fun u t H_1 locs ht hvm hw hB hz1 hk1 hS => ?_)
  · rcases hBX with ⟨rfl, e_0⟩ | ⟨rfl, e_0, e_1⟩
    · have c_2 : a0.toInt < 0 := e_0
      exact vx_out (fun x hx => (htab x hx).elim) hlocks hq9 hcv hcl (fun t ht hW => ⟨(), trivial, Or.inl ⟨rfl, c_2⟩, hS.F ht⟩) hS.2.2 (Nat.le_of_ble_eq_true rfl) (Nat.le_of_ble_eq_true rfl)
    · have c_3 : 0 ≤ a0.toInt := e_0
      have c_4 : 6 ≤ a0.toInt := e_1
      exact vx_out (fun x hx => (htab x hx).elim) hlocks hq9 hcv hcl (fun t ht hW => ⟨(), trivial, Or.inr (Or.inl ⟨rfl, c_3, c_4⟩), hS.F ht⟩) hS.2.2 (Nat.le_of_ble_eq_true rfl) (Nat.le_of_ble_eq_true rfl)
  · rcases hw with ⟨e_0, e_1⟩
    have c_5 : 0 ≤ a0.toInt := e_0
    have c_6 : a0.toInt < 6 := e_1
    obtain ⟨hP1, hD1⟩ := hB
    rw [ht] at hP1
    obtain ⟨hP, hD⟩ := va_join (wr := [(x, .inr (9, [.ref st, .ref kp, .int 0, .ref bf, .int 0, .int (-1), .int (-1), .int 0, .ref o1, .ref o2, .ref o3, .ref o4, .ref o5, .ref o6])), (st, .inr (8, [.ref lt, .ref tb, .ref fl, .ref wt, .int 0, .null])), (fl, .inl (cZ, 6, .inl (fun _ => 0)))]) (w1 := []) hP hD [] [0, 1, 2] rfl rfl (by decide) (by decide) hk1 hFc hP1 hD1
    have hP : va_P D vwCl [(x, .inr (9, [.ref st, .ref kp, .int 0, .ref bf, .int 0, .int (-1), .int (-1), .int 0, .ref o1, .ref o2, .ref o3, .ref o4, .ref o5, .ref o6])), (st, .inr (8, [.ref lt, .ref tb, .ref fl, .ref wt, .int 0, .null])), (fl, .inl (cZ, 6, .inl (fun _ => 0)))] H_1 := hP
    have hD : va_D A [(x, .inr (9, [.ref st, .ref kp, .int 0, .ref bf, .int 0, .int (-1), .int (-1), .int 0, .ref o1, .ref o2, .ref o3, .ref o4, .ref o5, .ref o6])), (st, .inr (8, [.ref lt, .ref tb, .ref fl, .ref wt, .int 0, .null])), (fl, .inl (cZ, 6, .inl (fun _ => 0)))] := hD
    refine W.widen (k := 1) (n := 6) (Nat.le_of_ble_eq_true rfl) (Nat.le_of_ble_eq_true rfl) ?_
    refine lv_aload_n hx hb dX10_tableIn_4 rfl (lv_at hl 0 rfl) ?_
    refine va_get (D := D) (ci := 9) (v := .ref st) (C := RX10) (T := TX10) (N := 14) hx hb hts i_X10 hown hK hP 0 rfl rfl 0 (by decide) w_1 (fun _ h9 => h9) rfl dX10_tableIn_5 ?_
    refine va_get (D := D) (ci := 8) (v := .ref fl) (C := RX8) (T := TX8) (N := 6) hx hb hts i_X8 hown hK hP 1 rfl rfl 2 (by decide) w_2 (fun _ h9 => h9) rfl dX10_tableIn_8 ?_
    refine lv_iload_n hx hb dX10_tableIn_11 rfl (lv_at hl 1 rfl) ?_
    refine va_zald hx hb hK hP 2 2 rfl rfl (i := a0) (vp_in_iff.mpr ⟨by omega, by omega⟩) dX10_tableIn_12 ?_
    refine W.eq (g2 := F0 m 13 ls [.int 0]) rfl ?_
    refine lv_if_ne (tgt := 26) hx hb dX10_tableIn_13 (by decide) (fun h9 => absurd h9 (by decide)) (fun _ => ?_)
    obtain ⟨sa, hstr⟩ := hV.1 (202, "there is no table in the slot") (by decide)
    exact vx_throwS (names := ["java/lang/RuntimeException", "java/lang/Exception"]) hx hb htr hown (by decide +kernel) (by decide +kernel) w_3 w_4 hstr w_5 xgood_80_84 hE.1 hE.2 hS (hl.1.trans hml.symm) dX10_tableIn_16 dX10_tableIn_19 dX10_tableIn_20 dX10_tableIn_22 dX10_tableIn_25 (fun x hx => (htab x hx).elim) (Nat.le_of_ble_eq_true rfl) (Nat.le_of_ble_eq_true rfl) (Nat.le_of_ble_eq_true rfl) (Nat.le_of_ble_eq_true rfl) hlocks (fun t h1 h2 h3 => ⟨(), trivial, Or.inr (Or.inr ⟨rfl, c_5, c_6⟩), xF hS h2 h3⟩) hS.2.2 (Nat.le_of_ble_eq_true rfl) (Nat.le_of_ble_eq_true rfl)
def wk_X10_currentFormula : List Cond := .code yX10_currentFormula cX10_currentFormula 2 (some (.object "DocumentSpanner$Formula")) :: (([.fieldLink RX10 12 "DocumentSpanner" "state" "LDocumentSpanner$State;", .fieldLink RX10 121 "DocumentSpanner$State" "formula" "LDocumentSpanner$Formula;", .classLink RX10 80 ise, .initialized ise] : List Cond) ++ wsX100 ++ wsX80 ++ (vx_atS RX10 84 ise ["java/lang/RuntimeException", "java/lang/Exception"]).filter goodWord)
set_option maxHeartbeats 4000000 in
set_option maxRecDepth 100000 in
theorem k_X10_currentFormula (l : Launch) (htr : l.stackTraces = false) (D : va_G) (cI cJ cZ : ClassId) (x : Nat) (st : Nat) (kp : Nat) (bf : Nat) (o1 : Nat) (o2 : Nat) (o3 : Nat) (o4 : Nat) (o5 : Nat) (o6 : Nat) (lt : Nat) (tb : Nat) (fl : Nat) (wt : Nat) (sz : Nat) : vx_Met l yX10_currentFormula wk_X10_currentFormula ({ frames := 6, cells := 1, slots := 6, locals := 82 }) (xPc D cI cJ cZ [.ref x] [(x, .inr (9, [.ref st, .ref kp, .int 0, .ref bf, .int 0, .int (-1), .int (-1), .int 0, .ref o1, .ref o2, .ref o3, .ref o4, .ref o5, .ref o6])), (st, .inr (8, [.ref lt, .ref tb, .ref fl, .ref wt, .int 0, .null]))] sz) (va_Qq (fun (r : Option Nat) (u : Unit) => False) (fun (u : Unit) (t : State) => va_P D vwCl ([] : va_W) t.heap ∧ va_D (va_A [(x, .inr (9, [.ref st, .ref kp, .int 0, .ref bf, .int 0, .int (-1), .int (-1), .int 0, .ref o1, .ref o2, .ref o3, .ref o4, .ref o5, .ref o6])), (st, .inr (8, [.ref lt, .ref tb, .ref fl, .ref wt, .int 0, .null]))] sz) ([] : va_W)) (va_A [(x, .inr (9, [.ref st, .ref kp, .int 0, .ref bf, .int 0, .int (-1), .int (-1), .int 0, .ref o1, .ref o2, .ref o3, .ref o4, .ref o5, .ref o6])), (st, .inr (8, [.ref lt, .ref tb, .ref fl, .ref wt, .int 0, .null]))] sz)) (vx_X (fun _ : Unit => True) (fun (E : String) (_ : Unit) (_ : State) => (E = ise)) (va_A [(x, .inr (9, [.ref st, .ref kp, .int 0, .ref bf, .int 0, .int (-1), .int (-1), .int 0, .ref o1, .ref o2, .ref o3, .ref o4, .ref o5, .ref o6])), (st, .inr (8, [.ref lt, .ref tb, .ref fl, .ref wt, .int 0, .null]))] sz)) 1 6 (va_A [(x, .inr (9, [.ref st, .ref kp, .int 0, .ref bf, .int 0, .int (-1), .int (-1), .int 0, .ref o1, .ref o2, .ref o3, .ref o4, .ref o5, .ref o6])), (st, .inr (8, [.ref lt, .ref tb, .ref fl, .ref wt, .int 0, .null]))] sz) := by
  refine vx_ofW (cc := cX10_currentFormula) (maxL := 2) (ret := (some (.object "DocumentSpanner$Formula"))) (by decide) rfl ?_
  intro p e s m args below meth c s₁ B hml htab hv
  obtain ⟨rfl, hsz, hP, hK, hD0, hE, hV⟩ := hv
  have hx := B.exec
  have hb := B.bytes
  have hr := B.returns
  have hts := atoms_spec (ws := wk_X10_currentFormula) B.pre
  have hown : s.vm.findClass RX10 = some m.cls := findClass_of_methodNamed B.named
  have hlocks := B.notSynchronized
  have i_X10 : ∀ w ∈ wsX100, w ∈ wk_X10_currentFormula := fun _ h => List.mem_cons_of_mem _ (List.mem_append_left _ (List.mem_append_left _ (List.mem_append_right _ h)))
  have i_X8 : ∀ w ∈ wsX80, w ∈ wk_X10_currentFormula := fun _ h => List.mem_cons_of_mem _ (List.mem_append_left _ (List.mem_append_right _ h))
  have w_1 := hts (.fieldLink RX10 12 "DocumentSpanner" "state" "LDocumentSpanner$State;") (List.mem_of_getElem? (i := 1) rfl)
  have w_2 := hts (.fieldLink RX10 121 "DocumentSpanner$State" "formula" "LDocumentSpanner$Formula;") (List.mem_of_getElem? (i := 2) rfl)
  have w_3 := hts (.classLink RX10 80 ise) (List.mem_of_getElem? (i := 3) rfl)
  have w_4 := hts (.initialized ise) (List.mem_of_getElem? (i := 4) rfl)
  have w_5 := xat_84 (fun w h => hts w (List.mem_cons_of_mem _ (List.mem_append_right _ h))) hV
  subst hsz
  have hD := hD0.self (sz := s.heap.size)
  generalize hAe : va_A [(x, .inr (9, [.ref st, .ref kp, .int 0, .ref bf, .int 0, .int (-1), .int (-1), .int 0, .ref o1, .ref o2, .ref o3, .ref o4, .ref o5, .ref o6])), (st, .inr (8, [.ref lt, .ref tb, .ref fl, .ref wt, .int 0, .null]))] s.heap.size = A at hD hE ⊢
  have hA : ∀ q : Nat, s.heap.size ≤ q → A q := fun q h => by rw [← hAe]; exact Or.inr h
  have hS : va_S A s.heap s.heap [] := va_S.rf
  have hP : va_P D vwCl [(x, .inr (9, [.ref st, .ref kp, .int 0, .ref bf, .int 0, .int (-1), .int (-1), .int 0, .ref o1, .ref o2, .ref o3, .ref o4, .ref o5, .ref o6])), (st, .inr (8, [.ref lt, .ref tb, .ref fl, .ref wt, .int 0, .null]))] s.heap := hP
  have hl := lv_entry ([.ref x]) (n := 2) (Nat.le_of_ble_eq_true rfl)
  rw [lg_entry_eq]
  generalize (lg_sl ([.ref x]) ++ List.replicate (2 - (lg_sl ([.ref x])).length) Slot.unset).toArray = ls at hl ⊢
  have hl : lv_has ls 2 [(0, .ref x)] := hl
  refine lv_aload_n hx hb dX10_currentFormula_0 rfl (lv_at hl 0 rfl) ?_
  refine va_get (D := D) (ci := 9) (v := .ref st) (C := RX10) (T := TX10) (N := 14) hx hb hts i_X10 hown hK hP 0 rfl rfl 0 (by decide) w_1 (fun _ h9 => h9) rfl dX10_currentFormula_1 ?_
  refine va_get (D := D) (ci := 8) (v := .null) (C := RX8) (T := TX8) (N := 6) hx hb hts i_X8 hown hK hP 1 rfl rfl 5 (by decide) w_2 (fun _ h9 => h9) rfl dX10_currentFormula_4 ?_
  refine lv_astore_nN (lv' := [(1, .null), (0, .ref x)]) hx hb dX10_currentFormula_7 rfl hl (by decide) rfl (fun ls hl => ?_)
  refine lv_aload_nN hx hb dX10_currentFormula_8 rfl (lv_at hl 0 rfl) ?_
  refine lv_ifnonnullN hx hb dX10_currentFormula_9 ?_
  obtain ⟨sa, hstr⟩ := hV.1 (136, "there is no current formula") (by decide)
  exact vx_throwS (names := ["java/lang/RuntimeException", "java/lang/Exception"]) hx hb htr hown (by decide +kernel) (by decide +kernel) w_3 w_4 hstr w_5 xgood_80_84 hE.1 hE.2 hS (hl.1.trans hml.symm) dX10_currentFormula_12 dX10_currentFormula_15 dX10_currentFormula_16 dX10_currentFormula_18 dX10_currentFormula_21 (fun x hx => (htab x hx).elim) (Nat.le_of_ble_eq_true rfl) (Nat.le_of_ble_eq_true rfl) (Nat.le_of_ble_eq_true rfl) (Nat.le_of_ble_eq_true rfl) hlocks (fun t h1 h2 h3 => ⟨(), trivial, rfl, xF hS h2 h3⟩) hS.2.2 (Nat.le_of_ble_eq_true rfl) (Nat.le_of_ble_eq_true rfl)
def wk_X10_cursorTable : List Cond := .code yX10_cursorTable cX10_cursorTable 1 (some (.object "DocumentSpanner$SortedInts")) :: (([.fieldLink RX10 34 "DocumentSpanner" "cursorSlot" "I", .classLink RX10 80 ise, .initialized ise] : List Cond) ++ wsX100 ++ (vx_atS RX10 84 ise ["java/lang/RuntimeException", "java/lang/Exception"]).filter goodWord)
set_option maxHeartbeats 4000000 in
set_option maxRecDepth 100000 in
theorem k_X10_cursorTable (l : Launch) (htr : l.stackTraces = false) (D : va_G) (cI cJ cZ : ClassId) (x : Nat) (st : Nat) (kp : Nat) (bf : Nat) (o1 : Nat) (o2 : Nat) (o3 : Nat) (o4 : Nat) (o5 : Nat) (o6 : Nat) (sz : Nat) : vx_Met l yX10_cursorTable wk_X10_cursorTable ({ frames := 6, cells := 1, slots := 6, locals := 82 }) (xPc D cI cJ cZ [.ref x] [(x, .inr (9, [.ref st, .ref kp, .int 0, .ref bf, .int 0, .int (-1), .int (-1), .int 0, .ref o1, .ref o2, .ref o3, .ref o4, .ref o5, .ref o6]))] sz) (va_Qq (fun (r : Option Nat) (u : Unit) => False) (fun (u : Unit) (t : State) => va_P D vwCl ([] : va_W) t.heap ∧ va_D (va_A [(x, .inr (9, [.ref st, .ref kp, .int 0, .ref bf, .int 0, .int (-1), .int (-1), .int 0, .ref o1, .ref o2, .ref o3, .ref o4, .ref o5, .ref o6]))] sz) ([] : va_W)) (va_A [(x, .inr (9, [.ref st, .ref kp, .int 0, .ref bf, .int 0, .int (-1), .int (-1), .int 0, .ref o1, .ref o2, .ref o3, .ref o4, .ref o5, .ref o6]))] sz)) (vx_X (fun _ : Unit => True) (fun (E : String) (_ : Unit) (_ : State) => (E = ise)) (va_A [(x, .inr (9, [.ref st, .ref kp, .int 0, .ref bf, .int 0, .int (-1), .int (-1), .int 0, .ref o1, .ref o2, .ref o3, .ref o4, .ref o5, .ref o6]))] sz)) 1 6 (va_A [(x, .inr (9, [.ref st, .ref kp, .int 0, .ref bf, .int 0, .int (-1), .int (-1), .int 0, .ref o1, .ref o2, .ref o3, .ref o4, .ref o5, .ref o6]))] sz) := by
  refine vx_ofW (cc := cX10_cursorTable) (maxL := 1) (ret := (some (.object "DocumentSpanner$SortedInts"))) (by decide) rfl ?_
  intro p e s m args below meth c s₁ B hml htab hv
  obtain ⟨rfl, hsz, hP, hK, hD0, hE, hV⟩ := hv
  have hx := B.exec
  have hb := B.bytes
  have hr := B.returns
  have hts := atoms_spec (ws := wk_X10_cursorTable) B.pre
  have hown : s.vm.findClass RX10 = some m.cls := findClass_of_methodNamed B.named
  have hlocks := B.notSynchronized
  have i_X10 : ∀ w ∈ wsX100, w ∈ wk_X10_cursorTable := fun _ h => List.mem_cons_of_mem _ (List.mem_append_left _ (List.mem_append_right _ h))
  have w_1 := hts (.fieldLink RX10 34 "DocumentSpanner" "cursorSlot" "I") (List.mem_of_getElem? (i := 1) rfl)
  have w_2 := hts (.classLink RX10 80 ise) (List.mem_of_getElem? (i := 2) rfl)
  have w_3 := hts (.initialized ise) (List.mem_of_getElem? (i := 3) rfl)
  have w_4 := xat_84 (fun w h => hts w (List.mem_cons_of_mem _ (List.mem_append_right _ h))) hV
  subst hsz
  have hD := hD0.self (sz := s.heap.size)
  generalize hAe : va_A [(x, .inr (9, [.ref st, .ref kp, .int 0, .ref bf, .int 0, .int (-1), .int (-1), .int 0, .ref o1, .ref o2, .ref o3, .ref o4, .ref o5, .ref o6]))] s.heap.size = A at hD hE ⊢
  have hA : ∀ q : Nat, s.heap.size ≤ q → A q := fun q h => by rw [← hAe]; exact Or.inr h
  have hS : va_S A s.heap s.heap [] := va_S.rf
  have hP : va_P D vwCl [(x, .inr (9, [.ref st, .ref kp, .int 0, .ref bf, .int 0, .int (-1), .int (-1), .int 0, .ref o1, .ref o2, .ref o3, .ref o4, .ref o5, .ref o6]))] s.heap := hP
  have hl := lv_entry ([.ref x]) (n := 1) (Nat.le_of_ble_eq_true rfl)
  rw [lg_entry_eq]
  generalize (lg_sl ([.ref x]) ++ List.replicate (1 - (lg_sl ([.ref x])).length) Slot.unset).toArray = ls at hl ⊢
  have hl : lv_has ls 1 [(0, .ref x)] := hl
  refine lv_aload_n hx hb dX10_cursorTable_0 rfl (lv_at hl 0 rfl) ?_
  refine va_get (D := D) (ci := 9) (v := .int (-1)) (C := RX10) (T := TX10) (N := 14) hx hb hts i_X10 hown hK hP 0 rfl rfl 6 (by decide) w_1 (fun _ h9 => h9) rfl dX10_cursorTable_1 ?_
  refine lv_iconst (v := (-1)) hx hb dX10_cursorTable_4 (by decide) ?_
  refine lv_icmp_ne (tgt := 19) hx hb dX10_cursorTable_5 (by decide) (fun h9 => absurd h9 (by decide)) (fun _ => ?_)
  obtain ⟨sa, hstr⟩ := hV.1 (291, "the cursor is closed") (by decide)
  exact vx_throwSW (names := ["java/lang/RuntimeException", "java/lang/Exception"]) hx hb htr hown (by decide +kernel) (by decide +kernel) w_2 w_3 hstr w_4 xgood_80_84 hE.1 hE.2 hS (hl.1.trans hml.symm) dX10_cursorTable_8 dX10_cursorTable_11 dX10_cursorTable_12 dX10_cursorTable_15 dX10_cursorTable_18 (fun x hx => (htab x hx).elim) (Nat.le_of_ble_eq_true rfl) (Nat.le_of_ble_eq_true rfl) (Nat.le_of_ble_eq_true rfl) (Nat.le_of_ble_eq_true rfl) hlocks (fun t h1 h2 h3 => ⟨(), trivial, rfl, xF hS h2 h3⟩) hS.2.2 (Nat.le_of_ble_eq_true rfl) (Nat.le_of_ble_eq_true rfl)
def wk_X10_emptyAllSlots : List Cond := .code yX10_emptyAllSlots cX10_emptyAllSlots 2 none :: (([.fieldLink RX10 12 "DocumentSpanner" "state" "LDocumentSpanner$State;", .fieldLink RX10 96 "DocumentSpanner$State" "filled" "[Z", .fieldLink RX10 34 "DocumentSpanner" "cursorSlot" "I"] : List Cond) ++ wsX100 ++ wsX80)
set_option maxHeartbeats 4000000 in
set_option maxRecDepth 100000 in
theorem k_X10_emptyAllSlots (l : Launch) (htr : l.stackTraces = false) (D : va_G) (cI cJ cZ : ClassId) (x : Nat) (st : Nat) (kp : Nat) (bf : Nat) (o1 : Nat) (o2 : Nat) (o3 : Nat) (o4 : Nat) (o5 : Nat) (o6 : Nat) (lt : Nat) (tb : Nat) (fl : Nat) (wt : Nat) (sz : Nat) : Met l yX10_emptyAllSlots wk_X10_emptyAllSlots ({ frames := 0, cells := 0, slots := 0, locals := 0 }) (xPc D cI cJ cZ [.ref x] [(x, .inr (9, [.ref st, .ref kp, .int 0, .ref bf, .int 0, .int (-1), .int (-1), .int 0, .ref o1, .ref o2, .ref o3, .ref o4, .ref o5, .ref o6])), (st, .inr (8, [.ref lt, .ref tb, .ref fl, .ref wt, .int 0, .null])), (fl, .inl (cZ, 6, .inl (fun _ => 0)))] sz) (va_Qv (fun (u : Unit) => True) (fun (u : Unit) (t : State) => va_P D vwCl ([(x, .inr (9, [.ref st, .ref kp, .int 0, .ref bf, .int 0, .int (-1), .int (-1), .int 0, .ref o1, .ref o2, .ref o3, .ref o4, .ref o5, .ref o6])), (st, .inr (8, [.ref lt, .ref tb, .ref fl, .ref wt, .int 0, .null]))] : va_W) t.heap ∧ va_D (va_A [(x, .inr (9, [.ref st, .ref kp, .int 0, .ref bf, .int 0, .int (-1), .int (-1), .int 0, .ref o1, .ref o2, .ref o3, .ref o4, .ref o5, .ref o6])), (st, .inr (8, [.ref lt, .ref tb, .ref fl, .ref wt, .int 0, .null])), (fl, .inl (cZ, 6, .inl (fun _ => 0)))] sz) ([(x, .inr (9, [.ref st, .ref kp, .int 0, .ref bf, .int 0, .int (-1), .int (-1), .int 0, .ref o1, .ref o2, .ref o3, .ref o4, .ref o5, .ref o6])), (st, .inr (8, [.ref lt, .ref tb, .ref fl, .ref wt, .int 0, .null]))] : va_W)) (va_A [(x, .inr (9, [.ref st, .ref kp, .int 0, .ref bf, .int 0, .int (-1), .int (-1), .int 0, .ref o1, .ref o2, .ref o3, .ref o4, .ref o5, .ref o6])), (st, .inr (8, [.ref lt, .ref tb, .ref fl, .ref wt, .int 0, .null])), (fl, .inl (cZ, 6, .inl (fun _ => 0)))] sz)) 0 0 (va_A [(x, .inr (9, [.ref st, .ref kp, .int 0, .ref bf, .int 0, .int (-1), .int (-1), .int 0, .ref o1, .ref o2, .ref o3, .ref o4, .ref o5, .ref o6])), (st, .inr (8, [.ref lt, .ref tb, .ref fl, .ref wt, .int 0, .null])), (fl, .inl (cZ, 6, .inl (fun _ => 0)))] sz) := by
  refine Met.ofW (cc := cX10_emptyAllSlots) (maxL := 2) (ret := none) (by decide) rfl ?_
  intro p e s m args below meth c s₁ B hml hv
  obtain ⟨rfl, hsz, hP, hK, hD0, hE, hV⟩ := hv
  have hx := B.exec
  have hb := B.bytes
  have hr := B.returns
  have hts := atoms_spec (ws := wk_X10_emptyAllSlots) B.pre
  have hown : s.vm.findClass RX10 = some m.cls := findClass_of_methodNamed B.named
  have hlocks := B.notSynchronized
  have i_X10 : ∀ w ∈ wsX100, w ∈ wk_X10_emptyAllSlots := fun _ h => List.mem_cons_of_mem _ (List.mem_append_left _ (List.mem_append_right _ h))
  have i_X8 : ∀ w ∈ wsX80, w ∈ wk_X10_emptyAllSlots := fun _ h => List.mem_cons_of_mem _ (List.mem_append_right _ h)
  have w_1 := hts (.fieldLink RX10 12 "DocumentSpanner" "state" "LDocumentSpanner$State;") (List.mem_of_getElem? (i := 1) rfl)
  have w_2 := hts (.fieldLink RX10 96 "DocumentSpanner$State" "filled" "[Z") (List.mem_of_getElem? (i := 2) rfl)
  have w_3 := hts (.fieldLink RX10 34 "DocumentSpanner" "cursorSlot" "I") (List.mem_of_getElem? (i := 3) rfl)
  subst hsz
  have hD := hD0.self (sz := s.heap.size)
  generalize hAe : va_A [(x, .inr (9, [.ref st, .ref kp, .int 0, .ref bf, .int 0, .int (-1), .int (-1), .int 0, .ref o1, .ref o2, .ref o3, .ref o4, .ref o5, .ref o6])), (st, .inr (8, [.ref lt, .ref tb, .ref fl, .ref wt, .int 0, .null])), (fl, .inl (cZ, 6, .inl (fun _ => 0)))] s.heap.size = A at hD hE ⊢
  have hA : ∀ q : Nat, s.heap.size ≤ q → A q := fun q h => by rw [← hAe]; exact Or.inr h
  have hS : va_S A s.heap s.heap [] := va_S.rf
  have hP : va_P D vwCl [(x, .inr (9, [.ref st, .ref kp, .int 0, .ref bf, .int 0, .int (-1), .int (-1), .int 0, .ref o1, .ref o2, .ref o3, .ref o4, .ref o5, .ref o6])), (st, .inr (8, [.ref lt, .ref tb, .ref fl, .ref wt, .int 0, .null])), (fl, .inl (cZ, 6, .inl (fun _ => 0)))] s.heap := hP
  have hl := lv_entry ([.ref x]) (n := 2) (Nat.le_of_ble_eq_true rfl)
  rw [lg_entry_eq]
  generalize (lg_sl ([.ref x]) ++ List.replicate (2 - (lg_sl ([.ref x])).length) Slot.unset).toArray = ls at hl ⊢
  have hl : lv_has ls 2 [(0, .ref x)] := hl
  refine lv_iconst (v := 0) hx hb dX10_emptyAllSlots_0 (by decide) ?_
  refine lv_istore_n (lv' := [(1, .int 0), (0, .ref x)]) hx hb dX10_emptyAllSlots_1 rfl hl (by decide) rfl (fun ls hl => ?_)
  refine lv_iload_n hx hb dX10_emptyAllSlots_2 rfl (lv_at hl 0 rfl) ?_
  refine lv_bipush (v := 6) hx hb dX10_emptyAllSlots_3 (by decide) ?_
  refine lv_icmp_ge (tgt := 24) hx hb dX10_emptyAllSlots_5 (by decide) (fun h9 => absurd h9 (by decide)) (fun _ => ?_)
  refine lv_aload_n hx hb dX10_emptyAllSlots_8 rfl (lv_at hl 1 rfl) ?_
  refine va_get (D := D) (ci := 9) (v := .ref st) (C := RX10) (T := TX10) (N := 14) hx hb hts i_X10 hown hK hP 0 rfl rfl 0 (by decide) w_1 (fun _ h9 => h9) rfl dX10_emptyAllSlots_9 ?_
  refine va_get (D := D) (ci := 8) (v := .ref fl) (C := RX8) (T := TX8) (N := 6) hx hb hts i_X8 hown hK hP 1 rfl rfl 2 (by decide) w_2 (fun _ h9 => h9) rfl dX10_emptyAllSlots_12 ?_
  refine lv_iload_n hx hb dX10_emptyAllSlots_15 rfl (lv_at hl 0 rfl) ?_
  refine lv_iconst (v := 0) hx hb dX10_emptyAllSlots_16 (by decide) ?_
  refine va_zast hx hb hK hP hD hS 2 2 rfl rfl (i := 0) (x := 0) (vp_in_iff.mpr ⟨by decide, by decide⟩) dX10_emptyAllSlots_17 (fun H_1 locs hP hD hS => ?_)
  have hP : va_P D vwCl [(x, .inr (9, [.ref st, .ref kp, .int 0, .ref bf, .int 0, .int (-1), .int (-1), .int 0, .ref o1, .ref o2, .ref o3, .ref o4, .ref o5, .ref o6])), (st, .inr (8, [.ref lt, .ref tb, .ref fl, .ref wt, .int 0, .null])), (fl, .inl (cZ, 6, .inl (upd (fun _ => 0) ((0 : Int32).toNatClampNeg) (vp_nar .boolean 0))))] H_1 := hP
  have hD : va_D A [(x, .inr (9, [.ref st, .ref kp, .int 0, .ref bf, .int 0, .int (-1), .int (-1), .int 0, .ref o1, .ref o2, .ref o3, .ref o4, .ref o5, .ref o6])), (st, .inr (8, [.ref lt, .ref tb, .ref fl, .ref wt, .int 0, .null])), (fl, .inl (cZ, 6, .inl (upd (fun _ => 0) ((0 : Int32).toNatClampNeg) (vp_nar .boolean 0))))] := hD
  rw [xUpdZ] at hP hD
  have hP : va_P D vwCl [(x, .inr (9, [.ref st, .ref kp, .int 0, .ref bf, .int 0, .int (-1), .int (-1), .int 0, .ref o1, .ref o2, .ref o3, .ref o4, .ref o5, .ref o6])), (st, .inr (8, [.ref lt, .ref tb, .ref fl, .ref wt, .int 0, .null])), (fl, .inl (cZ, 6, .inl (fun _ => 0)))] H_1 := hP
  have hD : va_D A [(x, .inr (9, [.ref st, .ref kp, .int 0, .ref bf, .int 0, .int (-1), .int (-1), .int 0, .ref o1, .ref o2, .ref o3, .ref o4, .ref o5, .ref o6])), (st, .inr (8, [.ref lt, .ref tb, .ref fl, .ref wt, .int 0, .null])), (fl, .inl (cZ, 6, .inl (fun _ => 0)))] := hD
  refine lv_iinc (v := 1) (lv' := [(1, .int 1), (0, .ref x)]) hx hb dX10_emptyAllSlots_18 hl (k := 0) rfl (by decide) (by decide) rfl (fun ls hl => ?_)
  refine lv_goto (tgt := 2) hx hb dX10_emptyAllSlots_21 (by decide) ?_
  refine lv_iload_n hx hb dX10_emptyAllSlots_2 rfl (lv_at hl 0 rfl) ?_
  refine lv_bipush (v := 6) hx hb dX10_emptyAllSlots_3 (by decide) ?_
  refine lv_icmp_ge (tgt := 24) hx hb dX10_emptyAllSlots_5 (by decide) (fun h9 => absurd h9 (by decide)) (fun _ => ?_)
  refine lv_aload_n hx hb dX10_emptyAllSlots_8 rfl (lv_at hl 1 rfl) ?_
  refine va_get (D := D) (ci := 9) (v := .ref st) (C := RX10) (T := TX10) (N := 14) hx hb hts i_X10 hown hK hP 0 rfl rfl 0 (by decide) w_1 (fun _ h9 => h9) rfl dX10_emptyAllSlots_9 ?_
  refine va_get (D := D) (ci := 8) (v := .ref fl) (C := RX8) (T := TX8) (N := 6) hx hb hts i_X8 hown hK hP 1 rfl rfl 2 (by decide) w_2 (fun _ h9 => h9) rfl dX10_emptyAllSlots_12 ?_
  refine lv_iload_n hx hb dX10_emptyAllSlots_15 rfl (lv_at hl 0 rfl) ?_
  refine lv_iconst (v := 0) hx hb dX10_emptyAllSlots_16 (by decide) ?_
  refine va_zast hx hb hK hP hD hS 2 2 rfl rfl (i := 1) (x := 0) (vp_in_iff.mpr ⟨by decide, by decide⟩) dX10_emptyAllSlots_17 (fun H_2 locs hP hD hS => ?_)
  have hP : va_P D vwCl [(x, .inr (9, [.ref st, .ref kp, .int 0, .ref bf, .int 0, .int (-1), .int (-1), .int 0, .ref o1, .ref o2, .ref o3, .ref o4, .ref o5, .ref o6])), (st, .inr (8, [.ref lt, .ref tb, .ref fl, .ref wt, .int 0, .null])), (fl, .inl (cZ, 6, .inl (upd (fun _ => 0) ((1 : Int32).toNatClampNeg) (vp_nar .boolean 0))))] H_2 := hP
  have hD : va_D A [(x, .inr (9, [.ref st, .ref kp, .int 0, .ref bf, .int 0, .int (-1), .int (-1), .int 0, .ref o1, .ref o2, .ref o3, .ref o4, .ref o5, .ref o6])), (st, .inr (8, [.ref lt, .ref tb, .ref fl, .ref wt, .int 0, .null])), (fl, .inl (cZ, 6, .inl (upd (fun _ => 0) ((1 : Int32).toNatClampNeg) (vp_nar .boolean 0))))] := hD
  rw [xUpdZ] at hP hD
  have hP : va_P D vwCl [(x, .inr (9, [.ref st, .ref kp, .int 0, .ref bf, .int 0, .int (-1), .int (-1), .int 0, .ref o1, .ref o2, .ref o3, .ref o4, .ref o5, .ref o6])), (st, .inr (8, [.ref lt, .ref tb, .ref fl, .ref wt, .int 0, .null])), (fl, .inl (cZ, 6, .inl (fun _ => 0)))] H_2 := hP
  have hD : va_D A [(x, .inr (9, [.ref st, .ref kp, .int 0, .ref bf, .int 0, .int (-1), .int (-1), .int 0, .ref o1, .ref o2, .ref o3, .ref o4, .ref o5, .ref o6])), (st, .inr (8, [.ref lt, .ref tb, .ref fl, .ref wt, .int 0, .null])), (fl, .inl (cZ, 6, .inl (fun _ => 0)))] := hD
  refine lv_iinc (v := 2) (lv' := [(1, .int 2), (0, .ref x)]) hx hb dX10_emptyAllSlots_18 hl (k := 0) rfl (by decide) (by decide) rfl (fun ls hl => ?_)
  refine lv_goto (tgt := 2) hx hb dX10_emptyAllSlots_21 (by decide) ?_
  refine lv_iload_n hx hb dX10_emptyAllSlots_2 rfl (lv_at hl 0 rfl) ?_
  refine lv_bipush (v := 6) hx hb dX10_emptyAllSlots_3 (by decide) ?_
  refine lv_icmp_ge (tgt := 24) hx hb dX10_emptyAllSlots_5 (by decide) (fun h9 => absurd h9 (by decide)) (fun _ => ?_)
  refine lv_aload_n hx hb dX10_emptyAllSlots_8 rfl (lv_at hl 1 rfl) ?_
  refine va_get (D := D) (ci := 9) (v := .ref st) (C := RX10) (T := TX10) (N := 14) hx hb hts i_X10 hown hK hP 0 rfl rfl 0 (by decide) w_1 (fun _ h9 => h9) rfl dX10_emptyAllSlots_9 ?_
  refine va_get (D := D) (ci := 8) (v := .ref fl) (C := RX8) (T := TX8) (N := 6) hx hb hts i_X8 hown hK hP 1 rfl rfl 2 (by decide) w_2 (fun _ h9 => h9) rfl dX10_emptyAllSlots_12 ?_
  refine lv_iload_n hx hb dX10_emptyAllSlots_15 rfl (lv_at hl 0 rfl) ?_
  refine lv_iconst (v := 0) hx hb dX10_emptyAllSlots_16 (by decide) ?_
  refine va_zast hx hb hK hP hD hS 2 2 rfl rfl (i := 2) (x := 0) (vp_in_iff.mpr ⟨by decide, by decide⟩) dX10_emptyAllSlots_17 (fun H_3 locs hP hD hS => ?_)
  have hP : va_P D vwCl [(x, .inr (9, [.ref st, .ref kp, .int 0, .ref bf, .int 0, .int (-1), .int (-1), .int 0, .ref o1, .ref o2, .ref o3, .ref o4, .ref o5, .ref o6])), (st, .inr (8, [.ref lt, .ref tb, .ref fl, .ref wt, .int 0, .null])), (fl, .inl (cZ, 6, .inl (upd (fun _ => 0) ((2 : Int32).toNatClampNeg) (vp_nar .boolean 0))))] H_3 := hP
  have hD : va_D A [(x, .inr (9, [.ref st, .ref kp, .int 0, .ref bf, .int 0, .int (-1), .int (-1), .int 0, .ref o1, .ref o2, .ref o3, .ref o4, .ref o5, .ref o6])), (st, .inr (8, [.ref lt, .ref tb, .ref fl, .ref wt, .int 0, .null])), (fl, .inl (cZ, 6, .inl (upd (fun _ => 0) ((2 : Int32).toNatClampNeg) (vp_nar .boolean 0))))] := hD
  rw [xUpdZ] at hP hD
  have hP : va_P D vwCl [(x, .inr (9, [.ref st, .ref kp, .int 0, .ref bf, .int 0, .int (-1), .int (-1), .int 0, .ref o1, .ref o2, .ref o3, .ref o4, .ref o5, .ref o6])), (st, .inr (8, [.ref lt, .ref tb, .ref fl, .ref wt, .int 0, .null])), (fl, .inl (cZ, 6, .inl (fun _ => 0)))] H_3 := hP
  have hD : va_D A [(x, .inr (9, [.ref st, .ref kp, .int 0, .ref bf, .int 0, .int (-1), .int (-1), .int 0, .ref o1, .ref o2, .ref o3, .ref o4, .ref o5, .ref o6])), (st, .inr (8, [.ref lt, .ref tb, .ref fl, .ref wt, .int 0, .null])), (fl, .inl (cZ, 6, .inl (fun _ => 0)))] := hD
  refine lv_iinc (v := 3) (lv' := [(1, .int 3), (0, .ref x)]) hx hb dX10_emptyAllSlots_18 hl (k := 0) rfl (by decide) (by decide) rfl (fun ls hl => ?_)
  refine lv_goto (tgt := 2) hx hb dX10_emptyAllSlots_21 (by decide) ?_
  refine lv_iload_n hx hb dX10_emptyAllSlots_2 rfl (lv_at hl 0 rfl) ?_
  refine lv_bipush (v := 6) hx hb dX10_emptyAllSlots_3 (by decide) ?_
  refine lv_icmp_ge (tgt := 24) hx hb dX10_emptyAllSlots_5 (by decide) (fun h9 => absurd h9 (by decide)) (fun _ => ?_)
  refine lv_aload_n hx hb dX10_emptyAllSlots_8 rfl (lv_at hl 1 rfl) ?_
  refine va_get (D := D) (ci := 9) (v := .ref st) (C := RX10) (T := TX10) (N := 14) hx hb hts i_X10 hown hK hP 0 rfl rfl 0 (by decide) w_1 (fun _ h9 => h9) rfl dX10_emptyAllSlots_9 ?_
  refine va_get (D := D) (ci := 8) (v := .ref fl) (C := RX8) (T := TX8) (N := 6) hx hb hts i_X8 hown hK hP 1 rfl rfl 2 (by decide) w_2 (fun _ h9 => h9) rfl dX10_emptyAllSlots_12 ?_
  refine lv_iload_n hx hb dX10_emptyAllSlots_15 rfl (lv_at hl 0 rfl) ?_
  refine lv_iconst (v := 0) hx hb dX10_emptyAllSlots_16 (by decide) ?_
  refine va_zast hx hb hK hP hD hS 2 2 rfl rfl (i := 3) (x := 0) (vp_in_iff.mpr ⟨by decide, by decide⟩) dX10_emptyAllSlots_17 (fun H_4 locs hP hD hS => ?_)
  have hP : va_P D vwCl [(x, .inr (9, [.ref st, .ref kp, .int 0, .ref bf, .int 0, .int (-1), .int (-1), .int 0, .ref o1, .ref o2, .ref o3, .ref o4, .ref o5, .ref o6])), (st, .inr (8, [.ref lt, .ref tb, .ref fl, .ref wt, .int 0, .null])), (fl, .inl (cZ, 6, .inl (upd (fun _ => 0) ((3 : Int32).toNatClampNeg) (vp_nar .boolean 0))))] H_4 := hP
  have hD : va_D A [(x, .inr (9, [.ref st, .ref kp, .int 0, .ref bf, .int 0, .int (-1), .int (-1), .int 0, .ref o1, .ref o2, .ref o3, .ref o4, .ref o5, .ref o6])), (st, .inr (8, [.ref lt, .ref tb, .ref fl, .ref wt, .int 0, .null])), (fl, .inl (cZ, 6, .inl (upd (fun _ => 0) ((3 : Int32).toNatClampNeg) (vp_nar .boolean 0))))] := hD
  rw [xUpdZ] at hP hD
  have hP : va_P D vwCl [(x, .inr (9, [.ref st, .ref kp, .int 0, .ref bf, .int 0, .int (-1), .int (-1), .int 0, .ref o1, .ref o2, .ref o3, .ref o4, .ref o5, .ref o6])), (st, .inr (8, [.ref lt, .ref tb, .ref fl, .ref wt, .int 0, .null])), (fl, .inl (cZ, 6, .inl (fun _ => 0)))] H_4 := hP
  have hD : va_D A [(x, .inr (9, [.ref st, .ref kp, .int 0, .ref bf, .int 0, .int (-1), .int (-1), .int 0, .ref o1, .ref o2, .ref o3, .ref o4, .ref o5, .ref o6])), (st, .inr (8, [.ref lt, .ref tb, .ref fl, .ref wt, .int 0, .null])), (fl, .inl (cZ, 6, .inl (fun _ => 0)))] := hD
  refine lv_iinc (v := 4) (lv' := [(1, .int 4), (0, .ref x)]) hx hb dX10_emptyAllSlots_18 hl (k := 0) rfl (by decide) (by decide) rfl (fun ls hl => ?_)
  refine lv_goto (tgt := 2) hx hb dX10_emptyAllSlots_21 (by decide) ?_
  refine lv_iload_n hx hb dX10_emptyAllSlots_2 rfl (lv_at hl 0 rfl) ?_
  refine lv_bipush (v := 6) hx hb dX10_emptyAllSlots_3 (by decide) ?_
  refine lv_icmp_ge (tgt := 24) hx hb dX10_emptyAllSlots_5 (by decide) (fun h9 => absurd h9 (by decide)) (fun _ => ?_)
  refine lv_aload_n hx hb dX10_emptyAllSlots_8 rfl (lv_at hl 1 rfl) ?_
  refine va_get (D := D) (ci := 9) (v := .ref st) (C := RX10) (T := TX10) (N := 14) hx hb hts i_X10 hown hK hP 0 rfl rfl 0 (by decide) w_1 (fun _ h9 => h9) rfl dX10_emptyAllSlots_9 ?_
  refine va_get (D := D) (ci := 8) (v := .ref fl) (C := RX8) (T := TX8) (N := 6) hx hb hts i_X8 hown hK hP 1 rfl rfl 2 (by decide) w_2 (fun _ h9 => h9) rfl dX10_emptyAllSlots_12 ?_
  refine lv_iload_n hx hb dX10_emptyAllSlots_15 rfl (lv_at hl 0 rfl) ?_
  refine lv_iconst (v := 0) hx hb dX10_emptyAllSlots_16 (by decide) ?_
  refine va_zast hx hb hK hP hD hS 2 2 rfl rfl (i := 4) (x := 0) (vp_in_iff.mpr ⟨by decide, by decide⟩) dX10_emptyAllSlots_17 (fun H_5 locs hP hD hS => ?_)
  have hP : va_P D vwCl [(x, .inr (9, [.ref st, .ref kp, .int 0, .ref bf, .int 0, .int (-1), .int (-1), .int 0, .ref o1, .ref o2, .ref o3, .ref o4, .ref o5, .ref o6])), (st, .inr (8, [.ref lt, .ref tb, .ref fl, .ref wt, .int 0, .null])), (fl, .inl (cZ, 6, .inl (upd (fun _ => 0) ((4 : Int32).toNatClampNeg) (vp_nar .boolean 0))))] H_5 := hP
  have hD : va_D A [(x, .inr (9, [.ref st, .ref kp, .int 0, .ref bf, .int 0, .int (-1), .int (-1), .int 0, .ref o1, .ref o2, .ref o3, .ref o4, .ref o5, .ref o6])), (st, .inr (8, [.ref lt, .ref tb, .ref fl, .ref wt, .int 0, .null])), (fl, .inl (cZ, 6, .inl (upd (fun _ => 0) ((4 : Int32).toNatClampNeg) (vp_nar .boolean 0))))] := hD
  rw [xUpdZ] at hP hD
  have hP : va_P D vwCl [(x, .inr (9, [.ref st, .ref kp, .int 0, .ref bf, .int 0, .int (-1), .int (-1), .int 0, .ref o1, .ref o2, .ref o3, .ref o4, .ref o5, .ref o6])), (st, .inr (8, [.ref lt, .ref tb, .ref fl, .ref wt, .int 0, .null])), (fl, .inl (cZ, 6, .inl (fun _ => 0)))] H_5 := hP
  have hD : va_D A [(x, .inr (9, [.ref st, .ref kp, .int 0, .ref bf, .int 0, .int (-1), .int (-1), .int 0, .ref o1, .ref o2, .ref o3, .ref o4, .ref o5, .ref o6])), (st, .inr (8, [.ref lt, .ref tb, .ref fl, .ref wt, .int 0, .null])), (fl, .inl (cZ, 6, .inl (fun _ => 0)))] := hD
  refine lv_iinc (v := 5) (lv' := [(1, .int 5), (0, .ref x)]) hx hb dX10_emptyAllSlots_18 hl (k := 0) rfl (by decide) (by decide) rfl (fun ls hl => ?_)
  refine lv_goto (tgt := 2) hx hb dX10_emptyAllSlots_21 (by decide) ?_
  refine lv_iload_n hx hb dX10_emptyAllSlots_2 rfl (lv_at hl 0 rfl) ?_
  refine lv_bipush (v := 6) hx hb dX10_emptyAllSlots_3 (by decide) ?_
  refine lv_icmp_ge (tgt := 24) hx hb dX10_emptyAllSlots_5 (by decide) (fun h9 => absurd h9 (by decide)) (fun _ => ?_)
  refine lv_aload_n hx hb dX10_emptyAllSlots_8 rfl (lv_at hl 1 rfl) ?_
  refine va_get (D := D) (ci := 9) (v := .ref st) (C := RX10) (T := TX10) (N := 14) hx hb hts i_X10 hown hK hP 0 rfl rfl 0 (by decide) w_1 (fun _ h9 => h9) rfl dX10_emptyAllSlots_9 ?_
  refine va_get (D := D) (ci := 8) (v := .ref fl) (C := RX8) (T := TX8) (N := 6) hx hb hts i_X8 hown hK hP 1 rfl rfl 2 (by decide) w_2 (fun _ h9 => h9) rfl dX10_emptyAllSlots_12 ?_
  refine lv_iload_n hx hb dX10_emptyAllSlots_15 rfl (lv_at hl 0 rfl) ?_
  refine lv_iconst (v := 0) hx hb dX10_emptyAllSlots_16 (by decide) ?_
  refine va_zast hx hb hK hP hD hS 2 2 rfl rfl (i := 5) (x := 0) (vp_in_iff.mpr ⟨by decide, by decide⟩) dX10_emptyAllSlots_17 (fun H_6 locs hP hD hS => ?_)
  have hP : va_P D vwCl [(x, .inr (9, [.ref st, .ref kp, .int 0, .ref bf, .int 0, .int (-1), .int (-1), .int 0, .ref o1, .ref o2, .ref o3, .ref o4, .ref o5, .ref o6])), (st, .inr (8, [.ref lt, .ref tb, .ref fl, .ref wt, .int 0, .null])), (fl, .inl (cZ, 6, .inl (upd (fun _ => 0) ((5 : Int32).toNatClampNeg) (vp_nar .boolean 0))))] H_6 := hP
  have hD : va_D A [(x, .inr (9, [.ref st, .ref kp, .int 0, .ref bf, .int 0, .int (-1), .int (-1), .int 0, .ref o1, .ref o2, .ref o3, .ref o4, .ref o5, .ref o6])), (st, .inr (8, [.ref lt, .ref tb, .ref fl, .ref wt, .int 0, .null])), (fl, .inl (cZ, 6, .inl (upd (fun _ => 0) ((5 : Int32).toNatClampNeg) (vp_nar .boolean 0))))] := hD
  rw [xUpdZ] at hP hD
  have hP : va_P D vwCl [(x, .inr (9, [.ref st, .ref kp, .int 0, .ref bf, .int 0, .int (-1), .int (-1), .int 0, .ref o1, .ref o2, .ref o3, .ref o4, .ref o5, .ref o6])), (st, .inr (8, [.ref lt, .ref tb, .ref fl, .ref wt, .int 0, .null])), (fl, .inl (cZ, 6, .inl (fun _ => 0)))] H_6 := hP
  have hD : va_D A [(x, .inr (9, [.ref st, .ref kp, .int 0, .ref bf, .int 0, .int (-1), .int (-1), .int 0, .ref o1, .ref o2, .ref o3, .ref o4, .ref o5, .ref o6])), (st, .inr (8, [.ref lt, .ref tb, .ref fl, .ref wt, .int 0, .null])), (fl, .inl (cZ, 6, .inl (fun _ => 0)))] := hD
  refine lv_iinc (v := 6) (lv' := [(1, .int 6), (0, .ref x)]) hx hb dX10_emptyAllSlots_18 hl (k := 0) rfl (by decide) (by decide) rfl (fun ls hl => ?_)
  refine lv_goto (tgt := 2) hx hb dX10_emptyAllSlots_21 (by decide) ?_
  refine lv_iload_n hx hb dX10_emptyAllSlots_2 rfl (lv_at hl 0 rfl) ?_
  refine lv_bipush (v := 6) hx hb dX10_emptyAllSlots_3 (by decide) ?_
  refine lv_icmp_ge (tgt := 24) hx hb dX10_emptyAllSlots_5 (by decide) (fun _ => ?_) (fun h9 => absurd h9 (by decide))
  refine lv_aload_n hx hb dX10_emptyAllSlots_24 rfl (lv_at hl 1 rfl) ?_
  refine lv_iconst (v := (-1)) hx hb dX10_emptyAllSlots_25 (by decide) ?_
  refine va_put (D := D) (ci := 9) (v := .int (-1)) (ty := .int) (C := RX10) (T := TX10) (N := 14) hx hb hts i_X10 tyX10 tyX10_ok nmX10 hown hK hP hD hS 0 rfl rfl 6 (by decide) w_3 (fun _ h9 => h9) rfl (by decide +kernel) rfl rfl (Nat.le_of_ble_eq_true rfl) dX10_emptyAllSlots_26 (fun H_7 locs hP hD hS => ?_)
  have hP : va_P D vwCl [(x, .inr (9, [.ref st, .ref kp, .int 0, .ref bf, .int 0, .int (-1), .int (-1), .int 0, .ref o1, .ref o2, .ref o3, .ref o4, .ref o5, .ref o6])), (st, .inr (8, [.ref lt, .ref tb, .ref fl, .ref wt, .int 0, .null])), (fl, .inl (cZ, 6, .inl (fun _ => 0)))] H_7 := hP
  have hD : va_D A [(x, .inr (9, [.ref st, .ref kp, .int 0, .ref bf, .int 0, .int (-1), .int (-1), .int 0, .ref o1, .ref o2, .ref o3, .ref o4, .ref o5, .ref o6])), (st, .inr (8, [.ref lt, .ref tb, .ref fl, .ref wt, .int 0, .null])), (fl, .inl (cZ, 6, .inl (fun _ => 0)))] := hD
  have hP9 := hP.sub (ws' := [(x, .inr (9, [.ref st, .ref kp, .int 0, .ref bf, .int 0, .int (-1), .int (-1), .int 0, .ref o1, .ref o2, .ref o3, .ref o4, .ref o5, .ref o6])), (st, .inr (8, [.ref lt, .ref tb, .ref fl, .ref wt, .int 0, .null]))]) [0, 1] rfl
  have hD9 := hD.sub (ws' := [(x, .inr (9, [.ref st, .ref kp, .int 0, .ref bf, .int 0, .int (-1), .int (-1), .int 0, .ref o1, .ref o2, .ref o3, .ref o4, .ref o5, .ref o6])), (st, .inr (8, [.ref lt, .ref tb, .ref fl, .ref wt, .int 0, .null]))]) [0, 1] (by decide) rfl
  refine W.widen (k := 0) (n := 0) (Nat.le_of_ble_eq_true rfl) (Nat.le_of_ble_eq_true rfl) ?_
  exact W.vret hx hb hr (fun t ht hW => ⟨⟨(), rfl, trivial, by rw [ht]; exact hP9, hD9⟩, hS.F ht⟩) hS.2.2 dX10_emptyAllSlots_29
def wk_X10_emptyAllSlots_1 : List Cond := .code yX10_emptyAllSlots cX10_emptyAllSlots 2 none :: (([.fieldLink RX10 12 "DocumentSpanner" "state" "LDocumentSpanner$State;", .fieldLink RX10 96 "DocumentSpanner$State" "filled" "[Z", .fieldLink RX10 34 "DocumentSpanner" "cursorSlot" "I"] : List Cond) ++ wsX100 ++ wsX80)
set_option maxHeartbeats 4000000 in
set_option maxRecDepth 100000 in
theorem k_X10_emptyAllSlots_1 (l : Launch) (htr : l.stackTraces = false) (D : va_G) (cI cJ cZ : ClassId) (x : Nat) (st : Nat) (kp : Nat) (bf : Nat) (o1 : Nat) (o2 : Nat) (o3 : Nat) (o4 : Nat) (o5 : Nat) (o6 : Nat) (lt : Nat) (tb : Nat) (fl : Nat) (wt : Nat) (sz : Nat) : Met l yX10_emptyAllSlots wk_X10_emptyAllSlots_1 ({ frames := 0, cells := 0, slots := 0, locals := 0 }) (xPc D cI cJ cZ [.ref x] [(x, .inr (9, [.ref st, .ref kp, .int 0, .ref bf, .int 0, .int (-1), .int (-1), .int 0, .ref o1, .ref o2, .ref o3, .ref o4, .ref o5, .ref o6])), (st, .inr (8, [.ref lt, .ref tb, .ref fl, .ref wt, .int 1, .null])), (fl, .inl (cZ, 6, .inl (fun _ => 0)))] sz) (va_Qv (fun (u : Unit) => True) (fun (u : Unit) (t : State) => va_P D vwCl ([(x, .inr (9, [.ref st, .ref kp, .int 0, .ref bf, .int 0, .int (-1), .int (-1), .int 0, .ref o1, .ref o2, .ref o3, .ref o4, .ref o5, .ref o6])), (st, .inr (8, [.ref lt, .ref tb, .ref fl, .ref wt, .int 1, .null]))] : va_W) t.heap ∧ va_D (va_A [(x, .inr (9, [.ref st, .ref kp, .int 0, .ref bf, .int 0, .int (-1), .int (-1), .int 0, .ref o1, .ref o2, .ref o3, .ref o4, .ref o5, .ref o6])), (st, .inr (8, [.ref lt, .ref tb, .ref fl, .ref wt, .int 1, .null])), (fl, .inl (cZ, 6, .inl (fun _ => 0)))] sz) ([(x, .inr (9, [.ref st, .ref kp, .int 0, .ref bf, .int 0, .int (-1), .int (-1), .int 0, .ref o1, .ref o2, .ref o3, .ref o4, .ref o5, .ref o6])), (st, .inr (8, [.ref lt, .ref tb, .ref fl, .ref wt, .int 1, .null]))] : va_W)) (va_A [(x, .inr (9, [.ref st, .ref kp, .int 0, .ref bf, .int 0, .int (-1), .int (-1), .int 0, .ref o1, .ref o2, .ref o3, .ref o4, .ref o5, .ref o6])), (st, .inr (8, [.ref lt, .ref tb, .ref fl, .ref wt, .int 1, .null])), (fl, .inl (cZ, 6, .inl (fun _ => 0)))] sz)) 0 0 (va_A [(x, .inr (9, [.ref st, .ref kp, .int 0, .ref bf, .int 0, .int (-1), .int (-1), .int 0, .ref o1, .ref o2, .ref o3, .ref o4, .ref o5, .ref o6])), (st, .inr (8, [.ref lt, .ref tb, .ref fl, .ref wt, .int 1, .null])), (fl, .inl (cZ, 6, .inl (fun _ => 0)))] sz) := by
  refine Met.ofW (cc := cX10_emptyAllSlots) (maxL := 2) (ret := none) (by decide) rfl ?_
  intro p e s m args below meth c s₁ B hml hv
  obtain ⟨rfl, hsz, hP, hK, hD0, hE, hV⟩ := hv
  have hx := B.exec
  have hb := B.bytes
  have hr := B.returns
  have hts := atoms_spec (ws := wk_X10_emptyAllSlots_1) B.pre
  have hown : s.vm.findClass RX10 = some m.cls := findClass_of_methodNamed B.named
  have hlocks := B.notSynchronized
  have i_X10 : ∀ w ∈ wsX100, w ∈ wk_X10_emptyAllSlots_1 := fun _ h => List.mem_cons_of_mem _ (List.mem_append_left _ (List.mem_append_right _ h))
  have i_X8 : ∀ w ∈ wsX80, w ∈ wk_X10_emptyAllSlots_1 := fun _ h => List.mem_cons_of_mem _ (List.mem_append_right _ h)
  have w_1 := hts (.fieldLink RX10 12 "DocumentSpanner" "state" "LDocumentSpanner$State;") (List.mem_of_getElem? (i := 1) rfl)
  have w_2 := hts (.fieldLink RX10 96 "DocumentSpanner$State" "filled" "[Z") (List.mem_of_getElem? (i := 2) rfl)
  have w_3 := hts (.fieldLink RX10 34 "DocumentSpanner" "cursorSlot" "I") (List.mem_of_getElem? (i := 3) rfl)
  subst hsz
  have hD := hD0.self (sz := s.heap.size)
  generalize hAe : va_A [(x, .inr (9, [.ref st, .ref kp, .int 0, .ref bf, .int 0, .int (-1), .int (-1), .int 0, .ref o1, .ref o2, .ref o3, .ref o4, .ref o5, .ref o6])), (st, .inr (8, [.ref lt, .ref tb, .ref fl, .ref wt, .int 1, .null])), (fl, .inl (cZ, 6, .inl (fun _ => 0)))] s.heap.size = A at hD hE ⊢
  have hA : ∀ q : Nat, s.heap.size ≤ q → A q := fun q h => by rw [← hAe]; exact Or.inr h
  have hS : va_S A s.heap s.heap [] := va_S.rf
  have hP : va_P D vwCl [(x, .inr (9, [.ref st, .ref kp, .int 0, .ref bf, .int 0, .int (-1), .int (-1), .int 0, .ref o1, .ref o2, .ref o3, .ref o4, .ref o5, .ref o6])), (st, .inr (8, [.ref lt, .ref tb, .ref fl, .ref wt, .int 1, .null])), (fl, .inl (cZ, 6, .inl (fun _ => 0)))] s.heap := hP
  have hl := lv_entry ([.ref x]) (n := 2) (Nat.le_of_ble_eq_true rfl)
  rw [lg_entry_eq]
  generalize (lg_sl ([.ref x]) ++ List.replicate (2 - (lg_sl ([.ref x])).length) Slot.unset).toArray = ls at hl ⊢
  have hl : lv_has ls 2 [(0, .ref x)] := hl
  refine lv_iconst (v := 0) hx hb dX10_emptyAllSlots_0 (by decide) ?_
  refine lv_istore_n (lv' := [(1, .int 0), (0, .ref x)]) hx hb dX10_emptyAllSlots_1 rfl hl (by decide) rfl (fun ls hl => ?_)
  refine lv_iload_n hx hb dX10_emptyAllSlots_2 rfl (lv_at hl 0 rfl) ?_
  refine lv_bipush (v := 6) hx hb dX10_emptyAllSlots_3 (by decide) ?_
  refine lv_icmp_ge (tgt := 24) hx hb dX10_emptyAllSlots_5 (by decide) (fun h9 => absurd h9 (by decide)) (fun _ => ?_)
  refine lv_aload_n hx hb dX10_emptyAllSlots_8 rfl (lv_at hl 1 rfl) ?_
  refine va_get (D := D) (ci := 9) (v := .ref st) (C := RX10) (T := TX10) (N := 14) hx hb hts i_X10 hown hK hP 0 rfl rfl 0 (by decide) w_1 (fun _ h9 => h9) rfl dX10_emptyAllSlots_9 ?_
  refine va_get (D := D) (ci := 8) (v := .ref fl) (C := RX8) (T := TX8) (N := 6) hx hb hts i_X8 hown hK hP 1 rfl rfl 2 (by decide) w_2 (fun _ h9 => h9) rfl dX10_emptyAllSlots_12 ?_
  refine lv_iload_n hx hb dX10_emptyAllSlots_15 rfl (lv_at hl 0 rfl) ?_
  refine lv_iconst (v := 0) hx hb dX10_emptyAllSlots_16 (by decide) ?_
  refine va_zast hx hb hK hP hD hS 2 2 rfl rfl (i := 0) (x := 0) (vp_in_iff.mpr ⟨by decide, by decide⟩) dX10_emptyAllSlots_17 (fun H_1 locs hP hD hS => ?_)
  have hP : va_P D vwCl [(x, .inr (9, [.ref st, .ref kp, .int 0, .ref bf, .int 0, .int (-1), .int (-1), .int 0, .ref o1, .ref o2, .ref o3, .ref o4, .ref o5, .ref o6])), (st, .inr (8, [.ref lt, .ref tb, .ref fl, .ref wt, .int 1, .null])), (fl, .inl (cZ, 6, .inl (upd (fun _ => 0) ((0 : Int32).toNatClampNeg) (vp_nar .boolean 0))))] H_1 := hP
  have hD : va_D A [(x, .inr (9, [.ref st, .ref kp, .int 0, .ref bf, .int 0, .int (-1), .int (-1), .int 0, .ref o1, .ref o2, .ref o3, .ref o4, .ref o5, .ref o6])), (st, .inr (8, [.ref lt, .ref tb, .ref fl, .ref wt, .int 1, .null])), (fl, .inl (cZ, 6, .inl (upd (fun _ => 0) ((0 : Int32).toNatClampNeg) (vp_nar .boolean 0))))] := hD
  rw [xUpdZ] at hP hD
  have hP : va_P D vwCl [(x, .inr (9, [.ref st, .ref kp, .int 0, .ref bf, .int 0, .int (-1), .int (-1), .int 0, .ref o1, .ref o2, .ref o3, .ref o4, .ref o5, .ref o6])), (st, .inr (8, [.ref lt, .ref tb, .ref fl, .ref wt, .int 1, .null])), (fl, .inl (cZ, 6, .inl (fun _ => 0)))] H_1 := hP
  have hD : va_D A [(x, .inr (9, [.ref st, .ref kp, .int 0, .ref bf, .int 0, .int (-1), .int (-1), .int 0, .ref o1, .ref o2, .ref o3, .ref o4, .ref o5, .ref o6])), (st, .inr (8, [.ref lt, .ref tb, .ref fl, .ref wt, .int 1, .null])), (fl, .inl (cZ, 6, .inl (fun _ => 0)))] := hD
  refine lv_iinc (v := 1) (lv' := [(1, .int 1), (0, .ref x)]) hx hb dX10_emptyAllSlots_18 hl (k := 0) rfl (by decide) (by decide) rfl (fun ls hl => ?_)
  refine lv_goto (tgt := 2) hx hb dX10_emptyAllSlots_21 (by decide) ?_
  refine lv_iload_n hx hb dX10_emptyAllSlots_2 rfl (lv_at hl 0 rfl) ?_
  refine lv_bipush (v := 6) hx hb dX10_emptyAllSlots_3 (by decide) ?_
  refine lv_icmp_ge (tgt := 24) hx hb dX10_emptyAllSlots_5 (by decide) (fun h9 => absurd h9 (by decide)) (fun _ => ?_)
  refine lv_aload_n hx hb dX10_emptyAllSlots_8 rfl (lv_at hl 1 rfl) ?_
  refine va_get (D := D) (ci := 9) (v := .ref st) (C := RX10) (T := TX10) (N := 14) hx hb hts i_X10 hown hK hP 0 rfl rfl 0 (by decide) w_1 (fun _ h9 => h9) rfl dX10_emptyAllSlots_9 ?_
  refine va_get (D := D) (ci := 8) (v := .ref fl) (C := RX8) (T := TX8) (N := 6) hx hb hts i_X8 hown hK hP 1 rfl rfl 2 (by decide) w_2 (fun _ h9 => h9) rfl dX10_emptyAllSlots_12 ?_
  refine lv_iload_n hx hb dX10_emptyAllSlots_15 rfl (lv_at hl 0 rfl) ?_
  refine lv_iconst (v := 0) hx hb dX10_emptyAllSlots_16 (by decide) ?_
  refine va_zast hx hb hK hP hD hS 2 2 rfl rfl (i := 1) (x := 0) (vp_in_iff.mpr ⟨by decide, by decide⟩) dX10_emptyAllSlots_17 (fun H_2 locs hP hD hS => ?_)
  have hP : va_P D vwCl [(x, .inr (9, [.ref st, .ref kp, .int 0, .ref bf, .int 0, .int (-1), .int (-1), .int 0, .ref o1, .ref o2, .ref o3, .ref o4, .ref o5, .ref o6])), (st, .inr (8, [.ref lt, .ref tb, .ref fl, .ref wt, .int 1, .null])), (fl, .inl (cZ, 6, .inl (upd (fun _ => 0) ((1 : Int32).toNatClampNeg) (vp_nar .boolean 0))))] H_2 := hP
  have hD : va_D A [(x, .inr (9, [.ref st, .ref kp, .int 0, .ref bf, .int 0, .int (-1), .int (-1), .int 0, .ref o1, .ref o2, .ref o3, .ref o4, .ref o5, .ref o6])), (st, .inr (8, [.ref lt, .ref tb, .ref fl, .ref wt, .int 1, .null])), (fl, .inl (cZ, 6, .inl (upd (fun _ => 0) ((1 : Int32).toNatClampNeg) (vp_nar .boolean 0))))] := hD
  rw [xUpdZ] at hP hD
  have hP : va_P D vwCl [(x, .inr (9, [.ref st, .ref kp, .int 0, .ref bf, .int 0, .int (-1), .int (-1), .int 0, .ref o1, .ref o2, .ref o3, .ref o4, .ref o5, .ref o6])), (st, .inr (8, [.ref lt, .ref tb, .ref fl, .ref wt, .int 1, .null])), (fl, .inl (cZ, 6, .inl (fun _ => 0)))] H_2 := hP
  have hD : va_D A [(x, .inr (9, [.ref st, .ref kp, .int 0, .ref bf, .int 0, .int (-1), .int (-1), .int 0, .ref o1, .ref o2, .ref o3, .ref o4, .ref o5, .ref o6])), (st, .inr (8, [.ref lt, .ref tb, .ref fl, .ref wt, .int 1, .null])), (fl, .inl (cZ, 6, .inl (fun _ => 0)))] := hD
  refine lv_iinc (v := 2) (lv' := [(1, .int 2), (0, .ref x)]) hx hb dX10_emptyAllSlots_18 hl (k := 0) rfl (by decide) (by decide) rfl (fun ls hl => ?_)
  refine lv_goto (tgt := 2) hx hb dX10_emptyAllSlots_21 (by decide) ?_
  refine lv_iload_n hx hb dX10_emptyAllSlots_2 rfl (lv_at hl 0 rfl) ?_
  refine lv_bipush (v := 6) hx hb dX10_emptyAllSlots_3 (by decide) ?_
  refine lv_icmp_ge (tgt := 24) hx hb dX10_emptyAllSlots_5 (by decide) (fun h9 => absurd h9 (by decide)) (fun _ => ?_)
  refine lv_aload_n hx hb dX10_emptyAllSlots_8 rfl (lv_at hl 1 rfl) ?_
  refine va_get (D := D) (ci := 9) (v := .ref st) (C := RX10) (T := TX10) (N := 14) hx hb hts i_X10 hown hK hP 0 rfl rfl 0 (by decide) w_1 (fun _ h9 => h9) rfl dX10_emptyAllSlots_9 ?_
  refine va_get (D := D) (ci := 8) (v := .ref fl) (C := RX8) (T := TX8) (N := 6) hx hb hts i_X8 hown hK hP 1 rfl rfl 2 (by decide) w_2 (fun _ h9 => h9) rfl dX10_emptyAllSlots_12 ?_
  refine lv_iload_n hx hb dX10_emptyAllSlots_15 rfl (lv_at hl 0 rfl) ?_
  refine lv_iconst (v := 0) hx hb dX10_emptyAllSlots_16 (by decide) ?_
  refine va_zast hx hb hK hP hD hS 2 2 rfl rfl (i := 2) (x := 0) (vp_in_iff.mpr ⟨by decide, by decide⟩) dX10_emptyAllSlots_17 (fun H_3 locs hP hD hS => ?_)
  have hP : va_P D vwCl [(x, .inr (9, [.ref st, .ref kp, .int 0, .ref bf, .int 0, .int (-1), .int (-1), .int 0, .ref o1, .ref o2, .ref o3, .ref o4, .ref o5, .ref o6])), (st, .inr (8, [.ref lt, .ref tb, .ref fl, .ref wt, .int 1, .null])), (fl, .inl (cZ, 6, .inl (upd (fun _ => 0) ((2 : Int32).toNatClampNeg) (vp_nar .boolean 0))))] H_3 := hP
  have hD : va_D A [(x, .inr (9, [.ref st, .ref kp, .int 0, .ref bf, .int 0, .int (-1), .int (-1), .int 0, .ref o1, .ref o2, .ref o3, .ref o4, .ref o5, .ref o6])), (st, .inr (8, [.ref lt, .ref tb, .ref fl, .ref wt, .int 1, .null])), (fl, .inl (cZ, 6, .inl (upd (fun _ => 0) ((2 : Int32).toNatClampNeg) (vp_nar .boolean 0))))] := hD
  rw [xUpdZ] at hP hD
  have hP : va_P D vwCl [(x, .inr (9, [.ref st, .ref kp, .int 0, .ref bf, .int 0, .int (-1), .int (-1), .int 0, .ref o1, .ref o2, .ref o3, .ref o4, .ref o5, .ref o6])), (st, .inr (8, [.ref lt, .ref tb, .ref fl, .ref wt, .int 1, .null])), (fl, .inl (cZ, 6, .inl (fun _ => 0)))] H_3 := hP
  have hD : va_D A [(x, .inr (9, [.ref st, .ref kp, .int 0, .ref bf, .int 0, .int (-1), .int (-1), .int 0, .ref o1, .ref o2, .ref o3, .ref o4, .ref o5, .ref o6])), (st, .inr (8, [.ref lt, .ref tb, .ref fl, .ref wt, .int 1, .null])), (fl, .inl (cZ, 6, .inl (fun _ => 0)))] := hD
  refine lv_iinc (v := 3) (lv' := [(1, .int 3), (0, .ref x)]) hx hb dX10_emptyAllSlots_18 hl (k := 0) rfl (by decide) (by decide) rfl (fun ls hl => ?_)
  refine lv_goto (tgt := 2) hx hb dX10_emptyAllSlots_21 (by decide) ?_
  refine lv_iload_n hx hb dX10_emptyAllSlots_2 rfl (lv_at hl 0 rfl) ?_
  refine lv_bipush (v := 6) hx hb dX10_emptyAllSlots_3 (by decide) ?_
  refine lv_icmp_ge (tgt := 24) hx hb dX10_emptyAllSlots_5 (by decide) (fun h9 => absurd h9 (by decide)) (fun _ => ?_)
  refine lv_aload_n hx hb dX10_emptyAllSlots_8 rfl (lv_at hl 1 rfl) ?_
  refine va_get (D := D) (ci := 9) (v := .ref st) (C := RX10) (T := TX10) (N := 14) hx hb hts i_X10 hown hK hP 0 rfl rfl 0 (by decide) w_1 (fun _ h9 => h9) rfl dX10_emptyAllSlots_9 ?_
  refine va_get (D := D) (ci := 8) (v := .ref fl) (C := RX8) (T := TX8) (N := 6) hx hb hts i_X8 hown hK hP 1 rfl rfl 2 (by decide) w_2 (fun _ h9 => h9) rfl dX10_emptyAllSlots_12 ?_
  refine lv_iload_n hx hb dX10_emptyAllSlots_15 rfl (lv_at hl 0 rfl) ?_
  refine lv_iconst (v := 0) hx hb dX10_emptyAllSlots_16 (by decide) ?_
  refine va_zast hx hb hK hP hD hS 2 2 rfl rfl (i := 3) (x := 0) (vp_in_iff.mpr ⟨by decide, by decide⟩) dX10_emptyAllSlots_17 (fun H_4 locs hP hD hS => ?_)
  have hP : va_P D vwCl [(x, .inr (9, [.ref st, .ref kp, .int 0, .ref bf, .int 0, .int (-1), .int (-1), .int 0, .ref o1, .ref o2, .ref o3, .ref o4, .ref o5, .ref o6])), (st, .inr (8, [.ref lt, .ref tb, .ref fl, .ref wt, .int 1, .null])), (fl, .inl (cZ, 6, .inl (upd (fun _ => 0) ((3 : Int32).toNatClampNeg) (vp_nar .boolean 0))))] H_4 := hP
  have hD : va_D A [(x, .inr (9, [.ref st, .ref kp, .int 0, .ref bf, .int 0, .int (-1), .int (-1), .int 0, .ref o1, .ref o2, .ref o3, .ref o4, .ref o5, .ref o6])), (st, .inr (8, [.ref lt, .ref tb, .ref fl, .ref wt, .int 1, .null])), (fl, .inl (cZ, 6, .inl (upd (fun _ => 0) ((3 : Int32).toNatClampNeg) (vp_nar .boolean 0))))] := hD
  rw [xUpdZ] at hP hD
  have hP : va_P D vwCl [(x, .inr (9, [.ref st, .ref kp, .int 0, .ref bf, .int 0, .int (-1), .int (-1), .int 0, .ref o1, .ref o2, .ref o3, .ref o4, .ref o5, .ref o6])), (st, .inr (8, [.ref lt, .ref tb, .ref fl, .ref wt, .int 1, .null])), (fl, .inl (cZ, 6, .inl (fun _ => 0)))] H_4 := hP
  have hD : va_D A [(x, .inr (9, [.ref st, .ref kp, .int 0, .ref bf, .int 0, .int (-1), .int (-1), .int 0, .ref o1, .ref o2, .ref o3, .ref o4, .ref o5, .ref o6])), (st, .inr (8, [.ref lt, .ref tb, .ref fl, .ref wt, .int 1, .null])), (fl, .inl (cZ, 6, .inl (fun _ => 0)))] := hD
  refine lv_iinc (v := 4) (lv' := [(1, .int 4), (0, .ref x)]) hx hb dX10_emptyAllSlots_18 hl (k := 0) rfl (by decide) (by decide) rfl (fun ls hl => ?_)
  refine lv_goto (tgt := 2) hx hb dX10_emptyAllSlots_21 (by decide) ?_
  refine lv_iload_n hx hb dX10_emptyAllSlots_2 rfl (lv_at hl 0 rfl) ?_
  refine lv_bipush (v := 6) hx hb dX10_emptyAllSlots_3 (by decide) ?_
  refine lv_icmp_ge (tgt := 24) hx hb dX10_emptyAllSlots_5 (by decide) (fun h9 => absurd h9 (by decide)) (fun _ => ?_)
  refine lv_aload_n hx hb dX10_emptyAllSlots_8 rfl (lv_at hl 1 rfl) ?_
  refine va_get (D := D) (ci := 9) (v := .ref st) (C := RX10) (T := TX10) (N := 14) hx hb hts i_X10 hown hK hP 0 rfl rfl 0 (by decide) w_1 (fun _ h9 => h9) rfl dX10_emptyAllSlots_9 ?_
  refine va_get (D := D) (ci := 8) (v := .ref fl) (C := RX8) (T := TX8) (N := 6) hx hb hts i_X8 hown hK hP 1 rfl rfl 2 (by decide) w_2 (fun _ h9 => h9) rfl dX10_emptyAllSlots_12 ?_
  refine lv_iload_n hx hb dX10_emptyAllSlots_15 rfl (lv_at hl 0 rfl) ?_
  refine lv_iconst (v := 0) hx hb dX10_emptyAllSlots_16 (by decide) ?_
  refine va_zast hx hb hK hP hD hS 2 2 rfl rfl (i := 4) (x := 0) (vp_in_iff.mpr ⟨by decide, by decide⟩) dX10_emptyAllSlots_17 (fun H_5 locs hP hD hS => ?_)
  have hP : va_P D vwCl [(x, .inr (9, [.ref st, .ref kp, .int 0, .ref bf, .int 0, .int (-1), .int (-1), .int 0, .ref o1, .ref o2, .ref o3, .ref o4, .ref o5, .ref o6])), (st, .inr (8, [.ref lt, .ref tb, .ref fl, .ref wt, .int 1, .null])), (fl, .inl (cZ, 6, .inl (upd (fun _ => 0) ((4 : Int32).toNatClampNeg) (vp_nar .boolean 0))))] H_5 := hP
  have hD : va_D A [(x, .inr (9, [.ref st, .ref kp, .int 0, .ref bf, .int 0, .int (-1), .int (-1), .int 0, .ref o1, .ref o2, .ref o3, .ref o4, .ref o5, .ref o6])), (st, .inr (8, [.ref lt, .ref tb, .ref fl, .ref wt, .int 1, .null])), (fl, .inl (cZ, 6, .inl (upd (fun _ => 0) ((4 : Int32).toNatClampNeg) (vp_nar .boolean 0))))] := hD
  rw [xUpdZ] at hP hD
  have hP : va_P D vwCl [(x, .inr (9, [.ref st, .ref kp, .int 0, .ref bf, .int 0, .int (-1), .int (-1), .int 0, .ref o1, .ref o2, .ref o3, .ref o4, .ref o5, .ref o6])), (st, .inr (8, [.ref lt, .ref tb, .ref fl, .ref wt, .int 1, .null])), (fl, .inl (cZ, 6, .inl (fun _ => 0)))] H_5 := hP
  have hD : va_D A [(x, .inr (9, [.ref st, .ref kp, .int 0, .ref bf, .int 0, .int (-1), .int (-1), .int 0, .ref o1, .ref o2, .ref o3, .ref o4, .ref o5, .ref o6])), (st, .inr (8, [.ref lt, .ref tb, .ref fl, .ref wt, .int 1, .null])), (fl, .inl (cZ, 6, .inl (fun _ => 0)))] := hD
  refine lv_iinc (v := 5) (lv' := [(1, .int 5), (0, .ref x)]) hx hb dX10_emptyAllSlots_18 hl (k := 0) rfl (by decide) (by decide) rfl (fun ls hl => ?_)
  refine lv_goto (tgt := 2) hx hb dX10_emptyAllSlots_21 (by decide) ?_
  refine lv_iload_n hx hb dX10_emptyAllSlots_2 rfl (lv_at hl 0 rfl) ?_
  refine lv_bipush (v := 6) hx hb dX10_emptyAllSlots_3 (by decide) ?_
  refine lv_icmp_ge (tgt := 24) hx hb dX10_emptyAllSlots_5 (by decide) (fun h9 => absurd h9 (by decide)) (fun _ => ?_)
  refine lv_aload_n hx hb dX10_emptyAllSlots_8 rfl (lv_at hl 1 rfl) ?_
  refine va_get (D := D) (ci := 9) (v := .ref st) (C := RX10) (T := TX10) (N := 14) hx hb hts i_X10 hown hK hP 0 rfl rfl 0 (by decide) w_1 (fun _ h9 => h9) rfl dX10_emptyAllSlots_9 ?_
  refine va_get (D := D) (ci := 8) (v := .ref fl) (C := RX8) (T := TX8) (N := 6) hx hb hts i_X8 hown hK hP 1 rfl rfl 2 (by decide) w_2 (fun _ h9 => h9) rfl dX10_emptyAllSlots_12 ?_
  refine lv_iload_n hx hb dX10_emptyAllSlots_15 rfl (lv_at hl 0 rfl) ?_
  refine lv_iconst (v := 0) hx hb dX10_emptyAllSlots_16 (by decide) ?_
  refine va_zast hx hb hK hP hD hS 2 2 rfl rfl (i := 5) (x := 0) (vp_in_iff.mpr ⟨by decide, by decide⟩) dX10_emptyAllSlots_17 (fun H_6 locs hP hD hS => ?_)
  have hP : va_P D vwCl [(x, .inr (9, [.ref st, .ref kp, .int 0, .ref bf, .int 0, .int (-1), .int (-1), .int 0, .ref o1, .ref o2, .ref o3, .ref o4, .ref o5, .ref o6])), (st, .inr (8, [.ref lt, .ref tb, .ref fl, .ref wt, .int 1, .null])), (fl, .inl (cZ, 6, .inl (upd (fun _ => 0) ((5 : Int32).toNatClampNeg) (vp_nar .boolean 0))))] H_6 := hP
  have hD : va_D A [(x, .inr (9, [.ref st, .ref kp, .int 0, .ref bf, .int 0, .int (-1), .int (-1), .int 0, .ref o1, .ref o2, .ref o3, .ref o4, .ref o5, .ref o6])), (st, .inr (8, [.ref lt, .ref tb, .ref fl, .ref wt, .int 1, .null])), (fl, .inl (cZ, 6, .inl (upd (fun _ => 0) ((5 : Int32).toNatClampNeg) (vp_nar .boolean 0))))] := hD
  rw [xUpdZ] at hP hD
  have hP : va_P D vwCl [(x, .inr (9, [.ref st, .ref kp, .int 0, .ref bf, .int 0, .int (-1), .int (-1), .int 0, .ref o1, .ref o2, .ref o3, .ref o4, .ref o5, .ref o6])), (st, .inr (8, [.ref lt, .ref tb, .ref fl, .ref wt, .int 1, .null])), (fl, .inl (cZ, 6, .inl (fun _ => 0)))] H_6 := hP
  have hD : va_D A [(x, .inr (9, [.ref st, .ref kp, .int 0, .ref bf, .int 0, .int (-1), .int (-1), .int 0, .ref o1, .ref o2, .ref o3, .ref o4, .ref o5, .ref o6])), (st, .inr (8, [.ref lt, .ref tb, .ref fl, .ref wt, .int 1, .null])), (fl, .inl (cZ, 6, .inl (fun _ => 0)))] := hD
  refine lv_iinc (v := 6) (lv' := [(1, .int 6), (0, .ref x)]) hx hb dX10_emptyAllSlots_18 hl (k := 0) rfl (by decide) (by decide) rfl (fun ls hl => ?_)
  refine lv_goto (tgt := 2) hx hb dX10_emptyAllSlots_21 (by decide) ?_
  refine lv_iload_n hx hb dX10_emptyAllSlots_2 rfl (lv_at hl 0 rfl) ?_
  refine lv_bipush (v := 6) hx hb dX10_emptyAllSlots_3 (by decide) ?_
  refine lv_icmp_ge (tgt := 24) hx hb dX10_emptyAllSlots_5 (by decide) (fun _ => ?_) (fun h9 => absurd h9 (by decide))
  refine lv_aload_n hx hb dX10_emptyAllSlots_24 rfl (lv_at hl 1 rfl) ?_
  refine lv_iconst (v := (-1)) hx hb dX10_emptyAllSlots_25 (by decide) ?_
  refine va_put (D := D) (ci := 9) (v := .int (-1)) (ty := .int) (C := RX10) (T := TX10) (N := 14) hx hb hts i_X10 tyX10 tyX10_ok nmX10 hown hK hP hD hS 0 rfl rfl 6 (by decide) w_3 (fun _ h9 => h9) rfl (by decide +kernel) rfl rfl (Nat.le_of_ble_eq_true rfl) dX10_emptyAllSlots_26 (fun H_7 locs hP hD hS => ?_)
  have hP : va_P D vwCl [(x, .inr (9, [.ref st, .ref kp, .int 0, .ref bf, .int 0, .int (-1), .int (-1), .int 0, .ref o1, .ref o2, .ref o3, .ref o4, .ref o5, .ref o6])), (st, .inr (8, [.ref lt, .ref tb, .ref fl, .ref wt, .int 1, .null])), (fl, .inl (cZ, 6, .inl (fun _ => 0)))] H_7 := hP
  have hD : va_D A [(x, .inr (9, [.ref st, .ref kp, .int 0, .ref bf, .int 0, .int (-1), .int (-1), .int 0, .ref o1, .ref o2, .ref o3, .ref o4, .ref o5, .ref o6])), (st, .inr (8, [.ref lt, .ref tb, .ref fl, .ref wt, .int 1, .null])), (fl, .inl (cZ, 6, .inl (fun _ => 0)))] := hD
  have hP9 := hP.sub (ws' := [(x, .inr (9, [.ref st, .ref kp, .int 0, .ref bf, .int 0, .int (-1), .int (-1), .int 0, .ref o1, .ref o2, .ref o3, .ref o4, .ref o5, .ref o6])), (st, .inr (8, [.ref lt, .ref tb, .ref fl, .ref wt, .int 1, .null]))]) [0, 1] rfl
  have hD9 := hD.sub (ws' := [(x, .inr (9, [.ref st, .ref kp, .int 0, .ref bf, .int 0, .int (-1), .int (-1), .int 0, .ref o1, .ref o2, .ref o3, .ref o4, .ref o5, .ref o6])), (st, .inr (8, [.ref lt, .ref tb, .ref fl, .ref wt, .int 1, .null]))]) [0, 1] (by decide) rfl
  refine W.widen (k := 0) (n := 0) (Nat.le_of_ble_eq_true rfl) (Nat.le_of_ble_eq_true rfl) ?_
  exact W.vret hx hb hr (fun t ht hW => ⟨⟨(), rfl, trivial, by rw [ht]; exact hP9, hD9⟩, hS.F ht⟩) hS.2.2 dX10_emptyAllSlots_29
def wk_X10_appendLetter : List Cond := .code yX10_appendLetter cX10_appendLetter 2 (some .int) :: (([.classLink RX10 70 iae, .initialized iae, .fieldLink RX10 12 "DocumentSpanner" "state" "LDocumentSpanner$State;", .fieldLink RX10 77 "DocumentSpanner$State" "length" "I", .fieldLink RX10 85 "DocumentSpanner$State" "letters" "[I", .methodLink RX10 88 yX10_emptyAllSlots, .instanceMethod yX10_emptyAllSlots, .selects RX10 yX10_emptyAllSlots yX10_emptyAllSlots, .initialized RX10, .code yX10_emptyAllSlots cX10_emptyAllSlots 2 none, .fieldLink RX10 96 "DocumentSpanner$State" "filled" "[Z", .fieldLink RX10 34 "DocumentSpanner" "cursorSlot" "I"] : List Cond) ++ wsX100 ++ wsX80 ++ (vx_atS RX10 74 iae ["java/lang/RuntimeException", "java/lang/Exception"]).filter goodWord)
set_option maxRecDepth 20000 in
theorem ggk_X10_appendLetter_X10_emptyAllSlots_1 : GoodIn wk_X10_appendLetter wk_X10_emptyAllSlots_1 := goodIn_ca (goodIn_ca (goodIn_r _ [10, 3, 11, 12] (by decide +kernel) (by decide +kernel)) (goodIn_sub (fun _ h => List.mem_cons_of_mem _ (List.mem_append_left _ (List.mem_append_left _ (List.mem_append_right _ h)))) (by decide +kernel))) (goodIn_sub (fun _ h => List.mem_cons_of_mem _ (List.mem_append_left _ (List.mem_append_right _ h))) (by decide +kernel))
set_option maxRecDepth 20000 in
theorem gk_X10_appendLetter_X10_emptyAllSlots_1 : GoodIn wk_X10_appendLetter (wsV RX10 88 RX10 yX10_emptyAllSlots wk_X10_emptyAllSlots_1) := goodIn_app (goodIn_r _ [6, 7, 8, 9] (by decide +kernel) (by decide +kernel)) ggk_X10_appendLetter_X10_emptyAllSlots_1
set_option maxHeartbeats 4000000 in
set_option maxRecDepth 100000 in
theorem k_X10_appendLetter (l : Launch) (htr : l.stackTraces = false) (D : va_G) (cI cJ cZ : ClassId) (x : Nat) (st : Nat) (kp : Nat) (bf : Nat) (o1 : Nat) (o2 : Nat) (o3 : Nat) (o4 : Nat) (o5 : Nat) (o6 : Nat) (lt : Nat) (tb : Nat) (fl : Nat) (wt : Nat) (a0 : Int32) (sz : Nat) : vx_Met l yX10_appendLetter wk_X10_appendLetter ({ frames := 6, cells := 1, slots := 6, locals := 82 }) (xPc D cI cJ cZ [.ref x, .int a0] [(x, .inr (9, [.ref st, .ref kp, .int 0, .ref bf, .int 0, .int (-1), .int (-1), .int 0, .ref o1, .ref o2, .ref o3, .ref o4, .ref o5, .ref o6])), (st, .inr (8, [.ref lt, .ref tb, .ref fl, .ref wt, .int 0, .null])), (lt, .inl (cI, 8, .inl (fun _ => 0))), (fl, .inl (cZ, 6, .inl (fun _ => 0)))] sz) (va_Qi (fun (r : Int32) (u : Unit) => (r = 1 ∧ 97 ≤ a0.toInt ∧ a0.toInt ≤ 122)) (fun (u : Unit) (t : State) => va_P D vwCl ([] : va_W) t.heap ∧ va_D (va_A [(x, .inr (9, [.ref st, .ref kp, .int 0, .ref bf, .int 0, .int (-1), .int (-1), .int 0, .ref o1, .ref o2, .ref o3, .ref o4, .ref o5, .ref o6])), (st, .inr (8, [.ref lt, .ref tb, .ref fl, .ref wt, .int 0, .null])), (lt, .inl (cI, 8, .inl (fun _ => 0))), (fl, .inl (cZ, 6, .inl (fun _ => 0)))] sz) ([] : va_W)) (va_A [(x, .inr (9, [.ref st, .ref kp, .int 0, .ref bf, .int 0, .int (-1), .int (-1), .int 0, .ref o1, .ref o2, .ref o3, .ref o4, .ref o5, .ref o6])), (st, .inr (8, [.ref lt, .ref tb, .ref fl, .ref wt, .int 0, .null])), (lt, .inl (cI, 8, .inl (fun _ => 0))), (fl, .inl (cZ, 6, .inl (fun _ => 0)))] sz)) (vx_X (fun _ : Unit => True) (fun (E : String) (_ : Unit) (_ : State) => (E = iae ∧ a0.toInt < 97) ∨ (E = iae ∧ 97 ≤ a0.toInt ∧ 122 < a0.toInt)) (va_A [(x, .inr (9, [.ref st, .ref kp, .int 0, .ref bf, .int 0, .int (-1), .int (-1), .int 0, .ref o1, .ref o2, .ref o3, .ref o4, .ref o5, .ref o6])), (st, .inr (8, [.ref lt, .ref tb, .ref fl, .ref wt, .int 0, .null])), (lt, .inl (cI, 8, .inl (fun _ => 0))), (fl, .inl (cZ, 6, .inl (fun _ => 0)))] sz)) 1 6 (va_A [(x, .inr (9, [.ref st, .ref kp, .int 0, .ref bf, .int 0, .int (-1), .int (-1), .int 0, .ref o1, .ref o2, .ref o3, .ref o4, .ref o5, .ref o6])), (st, .inr (8, [.ref lt, .ref tb, .ref fl, .ref wt, .int 0, .null])), (lt, .inl (cI, 8, .inl (fun _ => 0))), (fl, .inl (cZ, 6, .inl (fun _ => 0)))] sz) := by
  refine vx_ofW (cc := cX10_appendLetter) (maxL := 2) (ret := (some .int)) (by decide) rfl ?_
  intro p e s m args below meth c s₁ B hml htab hv
  obtain ⟨rfl, hsz, hP, hK, hD0, hE, hV⟩ := hv
  have hx := B.exec
  have hb := B.bytes
  have hr := B.returns
  have hts := atoms_spec (ws := wk_X10_appendLetter) B.pre
  have hown : s.vm.findClass RX10 = some m.cls := findClass_of_methodNamed B.named
  have hlocks := B.notSynchronized
  have i_X10 : ∀ w ∈ wsX100, w ∈ wk_X10_appendLetter := fun _ h => List.mem_cons_of_mem _ (List.mem_append_left _ (List.mem_append_left _ (List.mem_append_right _ h)))
  have i_X8 : ∀ w ∈ wsX80, w ∈ wk_X10_appendLetter := fun _ h => List.mem_cons_of_mem _ (List.mem_append_left _ (List.mem_append_right _ h))
  have w_1 := hts (.classLink RX10 70 iae) (List.mem_of_getElem? (i := 1) rfl)
  have w_2 := hts (.initialized iae) (List.mem_of_getElem? (i := 2) rfl)
  have w_3 := xat_74 (fun w h => hts w (List.mem_cons_of_mem _ (List.mem_append_right _ h))) hV
  have w_4 := hts (.fieldLink RX10 12 "DocumentSpanner" "state" "LDocumentSpanner$State;") (List.mem_of_getElem? (i := 3) rfl)
  have w_5 := hts (.fieldLink RX10 77 "DocumentSpanner$State" "length" "I") (List.mem_of_getElem? (i := 4) rfl)
  have w_6 := hts (.fieldLink RX10 85 "DocumentSpanner$State" "letters" "[I") (List.mem_of_getElem? (i := 5) rfl)
  subst hsz
  have hD := hD0.self (sz := s.heap.size)
  generalize hAe : va_A [(x, .inr (9, [.ref st, .ref kp, .int 0, .ref bf, .int 0, .int (-1), .int (-1), .int 0, .ref o1, .ref o2, .ref o3, .ref o4, .ref o5, .ref o6])), (st, .inr (8, [.ref lt, .ref tb, .ref fl, .ref wt, .int 0, .null])), (lt, .inl (cI, 8, .inl (fun _ => 0))), (fl, .inl (cZ, 6, .inl (fun _ => 0)))] s.heap.size = A at hD hE ⊢
  have hA : ∀ q : Nat, s.heap.size ≤ q → A q := fun q h => by rw [← hAe]; exact Or.inr h
  have hS : va_S A s.heap s.heap [] := va_S.rf
  have hP : va_P D vwCl [(x, .inr (9, [.ref st, .ref kp, .int 0, .ref bf, .int 0, .int (-1), .int (-1), .int 0, .ref o1, .ref o2, .ref o3, .ref o4, .ref o5, .ref o6])), (st, .inr (8, [.ref lt, .ref tb, .ref fl, .ref wt, .int 0, .null])), (lt, .inl (cI, 8, .inl (fun _ => 0))), (fl, .inl (cZ, 6, .inl (fun _ => 0)))] s.heap := hP
  have hl := lv_entry ([.ref x, .int a0]) (n := 2) (Nat.le_of_ble_eq_true rfl)
  rw [lg_entry_eq]
  generalize (lg_sl ([.ref x, .int a0]) ++ List.replicate (2 - (lg_sl ([.ref x, .int a0])).length) Slot.unset).toArray = ls at hl ⊢
  have hl : lv_has ls 2 [(0, .ref x), (1, .int a0)] := hl
  refine lv_iload_n hx hb dX10_appendLetter_0 rfl (lv_at hl 1 rfl) ?_
  refine lv_bipush (v := 97) hx hb dX10_appendLetter_1 (by decide) ?_
  refine lv_icmp_lt (tgt := 12) hx hb dX10_appendLetter_3 (by decide) (fun c_1 => ?_) (fun c_1 => ?_)
  · have c_1 : a0.toInt < 97 := xlt c_1
    obtain ⟨sa, hstr⟩ := hV.1 (72, "a letter is 97 to 122") (by decide)
    exact vx_throwS (names := ["java/lang/RuntimeException", "java/lang/Exception"]) hx hb htr hown (by decide +kernel) (by decide +kernel) w_1 w_2 hstr w_3 xgood_70_74 hE.1 hE.2 hS (hl.1.trans hml.symm) dX10_appendLetter_12 dX10_appendLetter_15 dX10_appendLetter_16 dX10_appendLetter_18 dX10_appendLetter_21 (fun x hx => (htab x hx).elim) (Nat.le_of_ble_eq_true rfl) (Nat.le_of_ble_eq_true rfl) (Nat.le_of_ble_eq_true rfl) (Nat.le_of_ble_eq_true rfl) hlocks (fun t h1 h2 h3 => ⟨(), trivial, Or.inl ⟨rfl, c_1⟩, xF hS h2 h3⟩) hS.2.2 (Nat.le_of_ble_eq_true rfl) (Nat.le_of_ble_eq_true rfl)
  · have c_1 : 97 ≤ a0.toInt := xnlt c_1
    refine lv_iload_n hx hb dX10_appendLetter_6 rfl (lv_at hl 1 rfl) ?_
    refine lv_bipush (v := 122) hx hb dX10_appendLetter_7 (by decide) ?_
    refine lv_icmp_le (tgt := 22) hx hb dX10_appendLetter_9 (by decide) (fun c_2 => ?_) (fun c_2 => ?_)
    · have c_2 : a0.toInt ≤ 122 := xle c_2
      refine lv_aload_n hx hb dX10_appendLetter_22 rfl (lv_at hl 0 rfl) ?_
      refine va_get (D := D) (ci := 9) (v := .ref st) (C := RX10) (T := TX10) (N := 14) hx hb hts i_X10 hown hK hP 0 rfl rfl 0 (by decide) w_4 (fun _ h9 => h9) rfl dX10_appendLetter_23 ?_
      refine va_get (D := D) (ci := 8) (v := .int 0) (C := RX8) (T := TX8) (N := 6) hx hb hts i_X8 hown hK hP 1 rfl rfl 4 (by decide) w_5 (fun _ h9 => h9) rfl dX10_appendLetter_26 ?_
      refine lv_bipush (v := 8) hx hb dX10_appendLetter_29 (by decide) ?_
      refine lv_icmp_lt (tgt := 44) hx hb dX10_appendLetter_31 (by decide) (fun _ => ?_) (fun h9 => absurd h9 (by decide))
      refine lv_aload_n hx hb dX10_appendLetter_44 rfl (lv_at hl 0 rfl) ?_
      refine va_get (D := D) (ci := 9) (v := .ref st) (C := RX10) (T := TX10) (N := 14) hx hb hts i_X10 hown hK hP 0 rfl rfl 0 (by decide) w_4 (fun _ h9 => h9) rfl dX10_appendLetter_45 ?_
      refine va_get (D := D) (ci := 8) (v := .ref lt) (C := RX8) (T := TX8) (N := 6) hx hb hts i_X8 hown hK hP 1 rfl rfl 0 (by decide) w_6 (fun _ h9 => h9) rfl dX10_appendLetter_48 ?_
      refine lv_aload_n hx hb dX10_appendLetter_51 rfl (lv_at hl 0 rfl) ?_
      refine va_get (D := D) (ci := 9) (v := .ref st) (C := RX10) (T := TX10) (N := 14) hx hb hts i_X10 hown hK hP 0 rfl rfl 0 (by decide) w_4 (fun _ h9 => h9) rfl dX10_appendLetter_52 ?_
      refine va_get (D := D) (ci := 8) (v := .int 0) (C := RX8) (T := TX8) (N := 6) hx hb hts i_X8 hown hK hP 1 rfl rfl 4 (by decide) w_5 (fun _ h9 => h9) rfl dX10_appendLetter_55 ?_
      refine lv_iload_n hx hb dX10_appendLetter_58 rfl (lv_at hl 1 rfl) ?_
      refine va_iast hx hb hK hP hD hS 2 0 rfl rfl (i := 0) (x := a0) (vp_in_iff.mpr ⟨by decide, by decide⟩) dX10_appendLetter_59 (fun H_3 locs hP hD hS => ?_)
      have hP : va_P D vwCl [(x, .inr (9, [.ref st, .ref kp, .int 0, .ref bf, .int 0, .int (-1), .int (-1), .int 0, .ref o1, .ref o2, .ref o3, .ref o4, .ref o5, .ref o6])), (st, .inr (8, [.ref lt, .ref tb, .ref fl, .ref wt, .int 0, .null])), (lt, .inl (cI, 8, .inl (upd (fun _ => 0) ((0 : Int32).toNatClampNeg) a0))), (fl, .inl (cZ, 6, .inl (fun _ => 0)))] H_3 := hP
      have hD : va_D A [(x, .inr (9, [.ref st, .ref kp, .int 0, .ref bf, .int 0, .int (-1), .int (-1), .int 0, .ref o1, .ref o2, .ref o3, .ref o4, .ref o5, .ref o6])), (st, .inr (8, [.ref lt, .ref tb, .ref fl, .ref wt, .int 0, .null])), (lt, .inl (cI, 8, .inl (upd (fun _ => 0) ((0 : Int32).toNatClampNeg) a0))), (fl, .inl (cZ, 6, .inl (fun _ => 0)))] := hD
      refine lv_aload_n hx hb dX10_appendLetter_60 rfl (lv_at hl 0 rfl) ?_
      refine va_get (D := D) (ci := 9) (v := .ref st) (C := RX10) (T := TX10) (N := 14) hx hb hts i_X10 hown hK hP 0 rfl rfl 0 (by decide) w_4 (fun _ h9 => h9) rfl dX10_appendLetter_61 ?_
      refine lv_dup hx hb dX10_appendLetter_64 rfl ?_
      refine va_get (D := D) (ci := 8) (v := .int 0) (C := RX8) (T := TX8) (N := 6) hx hb hts i_X8 hown hK hP 1 rfl rfl 4 (by decide) w_5 (fun _ h9 => h9) rfl dX10_appendLetter_65 ?_
      refine lv_iconst (v := 1) hx hb dX10_appendLetter_68 (by decide) ?_
      refine lv_iadd hx hb dX10_appendLetter_69 ?_
      refine W.eq (g2 := F0 m 70 ls [.int 1, .ref st]) rfl ?_
      refine va_put (D := D) (ci := 8) (v := .int 1) (ty := .int) (C := RX8) (T := TX8) (N := 6) hx hb hts i_X8 tyX8 tyX8_ok nmX8 hown hK hP hD hS 1 rfl rfl 4 (by decide) w_5 (fun _ h9 => h9) rfl (by decide +kernel) rfl rfl (Nat.le_of_ble_eq_true rfl) dX10_appendLetter_70 (fun H_4 locs hP hD hS => ?_)
      have hP : va_P D vwCl [(x, .inr (9, [.ref st, .ref kp, .int 0, .ref bf, .int 0, .int (-1), .int (-1), .int 0, .ref o1, .ref o2, .ref o3, .ref o4, .ref o5, .ref o6])), (st, .inr (8, [.ref lt, .ref tb, .ref fl, .ref wt, .int 1, .null])), (lt, .inl (cI, 8, .inl (upd (fun _ => 0) ((0 : Int32).toNatClampNeg) a0))), (fl, .inl (cZ, 6, .inl (fun _ => 0)))] H_4 := hP
      have hD : va_D A [(x, .inr (9, [.ref st, .ref kp, .int 0, .ref bf, .int 0, .int (-1), .int (-1), .int 0, .ref o1, .ref o2, .ref o3, .ref o4, .ref o5, .ref o6])), (st, .inr (8, [.ref lt, .ref tb, .ref fl, .ref wt, .int 1, .null])), (lt, .inl (cI, 8, .inl (upd (fun _ => 0) ((0 : Int32).toNatClampNeg) a0))), (fl, .inl (cZ, 6, .inl (fun _ => 0)))] := hD
      refine lv_aload_n hx hb dX10_appendLetter_73 rfl (lv_at hl 0 rfl) ?_
      have hPc := hP.sub (ws' := [(x, .inr (9, [.ref st, .ref kp, .int 0, .ref bf, .int 0, .int (-1), .int (-1), .int 0, .ref o1, .ref o2, .ref o3, .ref o4, .ref o5, .ref o6])), (st, .inr (8, [.ref lt, .ref tb, .ref fl, .ref wt, .int 1, .null])), (fl, .inl (cZ, 6, .inl (fun _ => 0)))]) [0, 1, 3] rfl
      have hDc := hD.sub (ws' := [(x, .inr (9, [.ref st, .ref kp, .int 0, .ref bf, .int 0, .int (-1), .int (-1), .int 0, .ref o1, .ref o2, .ref o3, .ref o4, .ref o5, .ref o6])), (st, .inr (8, [.ref lt, .ref tb, .ref fl, .ref wt, .int 1, .null])), (fl, .inl (cZ, 6, .inl (fun _ => 0)))]) [0, 1, 3] (by decide) rfl
      have hFc := va_free (wc := [(x, .inr (9, [.ref st, .ref kp, .int 0, .ref bf, .int 0, .int (-1), .int (-1), .int 0, .ref o1, .ref o2, .ref o3, .ref o4, .ref o5, .ref o6])), (st, .inr (8, [.ref lt, .ref tb, .ref fl, .ref wt, .int 1, .null])), (fl, .inl (cZ, 6, .inl (fun _ => 0)))]) hD hS hA [0, 1, 3] rfl
      refine va_callv (va_runV (As := []) (rest := []) ⟨hx, hb, hml, hown, hts⟩ (k_X10_emptyAllSlots_1 l htr D cI cJ cZ x st kp bf o1 o2 o3 o4 o5 o6 lt tb fl wt H_4.size) (cwV 0 hts gk_X10_appendLetter_X10_emptyAllSlots_1 rfl rfl rfl (by decide +kernel) ⟨Nat.le_of_ble_eq_true rfl, Nat.le_of_ble_eq_true rfl⟩) ⟨xPc_blind, va_recv hK hP (ci := 9) (q0 := 0) rfl rfl, xPc_pre hPc hK hDc hE hS hFc hV⟩ rfl rfl hl.1 rfl (lv_room (Nat.le_of_ble_eq_true rfl)) dX10_appendLetter_74 ⟨Nat.le_of_ble_eq_true rfl, Nat.le_of_ble_eq_true rfl⟩) hS (fun q _ h => hFc q h) hFc (fun u t H_5 locs ht hvm hw hB hz1 hk1 hS => ?_)
      rcases hw with -
      obtain ⟨hP1, hD1⟩ := hB
      rw [ht] at hP1
      obtain ⟨hP, hD⟩ := va_join (wr := [(lt, .inl (cI, 8, .inl (upd (fun _ => 0) ((0 : Int32).toNatClampNeg) a0)))]) (w1 := [(x, .inr (9, [.ref st, .ref kp, .int 0, .ref bf, .int 0, .int (-1), .int (-1), .int 0, .ref o1, .ref o2, .ref o3, .ref o4, .ref o5, .ref o6])), (st, .inr (8, [.ref lt, .ref tb, .ref fl, .ref wt, .int 1, .null]))]) hP hD [0, 1, 3] [2] rfl rfl (by decide) (by decide) hk1 hFc hP1 hD1
      have hP : va_P D vwCl [(lt, .inl (cI, 8, .inl (upd (fun _ => 0) ((0 : Int32).toNatClampNeg) a0))), (x, .inr (9, [.ref st, .ref kp, .int 0, .ref bf, .int 0, .int (-1), .int (-1), .int 0, .ref o1, .ref o2, .ref o3, .ref o4, .ref o5, .ref o6])), (st, .inr (8, [.ref lt, .ref tb, .ref fl, .ref wt, .int 1, .null]))] H_5 := hP
      have hD : va_D A [(lt, .inl (cI, 8, .inl (upd (fun _ => 0) ((0 : Int32).toNatClampNeg) a0))), (x, .inr (9, [.ref st, .ref kp, .int 0, .ref bf, .int 0, .int (-1), .int (-1), .int 0, .ref o1, .ref o2, .ref o3, .ref o4, .ref o5, .ref o6])), (st, .inr (8, [.ref lt, .ref tb, .ref fl, .ref wt, .int 1, .null]))] := hD
      refine W.widen (k := 0) (n := 0) (Nat.le_of_ble_eq_true rfl) (Nat.le_of_ble_eq_true rfl) ?_
      refine lv_aload_n hx hb dX10_appendLetter_77 rfl (lv_at hl 0 rfl) ?_
      refine va_get (D := D) (ci := 9) (v := .ref st) (C := RX10) (T := TX10) (N := 14) hx hb hts i_X10 hown hK hP 1 rfl rfl 0 (by decide) w_4 (fun _ h9 => h9) rfl dX10_appendLetter_78 ?_
      refine va_get (D := D) (ci := 8) (v := .int 1) (C := RX8) (T := TX8) (N := 6) hx hb hts i_X8 hown hK hP 2 rfl rfl 4 (by decide) w_5 (fun _ h9 => h9) rfl dX10_appendLetter_81 ?_
      have hP9 := hP.sub (ws' := []) [] rfl
      have hD9 := hD.sub (ws' := []) [] (by decide) rfl
      refine W.widen (k := 1) (n := 6) (Nat.le_of_ble_eq_true rfl) (Nat.le_of_ble_eq_true rfl) ?_
      exact vx_ret (W.iret (v := 1) hx hb hr (fun t ht hW => ⟨⟨1, (), rfl, ⟨rfl, c_1, c_2⟩, by rw [ht]; exact hP9, hD9⟩, hS.F ht⟩) hS.2.2 dX10_appendLetter_84)
    · have c_2 : 122 < a0.toInt := xnle c_2
      obtain ⟨sa, hstr⟩ := hV.1 (72, "a letter is 97 to 122") (by decide)
      exact vx_throwS (names := ["java/lang/RuntimeException", "java/lang/Exception"]) hx hb htr hown (by decide +kernel) (by decide +kernel) w_1 w_2 hstr w_3 xgood_70_74 hE.1 hE.2 hS (hl.1.trans hml.symm) dX10_appendLetter_12 dX10_appendLetter_15 dX10_appendLetter_16 dX10_appendLetter_18 dX10_appendLetter_21 (fun x hx => (htab x hx).elim) (Nat.le_of_ble_eq_true rfl) (Nat.le_of_ble_eq_true rfl) (Nat.le_of_ble_eq_true rfl) (Nat.le_of_ble_eq_true rfl) hlocks (fun t h1 h2 h3 => ⟨(), trivial, Or.inr ⟨rfl, c_1, c_2⟩, xF hS h2 h3⟩) hS.2.2 (Nat.le_of_ble_eq_true rfl) (Nat.le_of_ble_eq_true rfl)
def wk_X10_clearDocument : List Cond := .code yX10_clearDocument cX10_clearDocument 2 (some .int) :: (([.fieldLink RX10 12 "DocumentSpanner" "state" "LDocumentSpanner$State;", .fieldLink RX10 77 "DocumentSpanner$State" "length" "I", .methodLink RX10 88 yX10_emptyAllSlots, .instanceMethod yX10_emptyAllSlots, .selects RX10 yX10_emptyAllSlots yX10_emptyAllSlots, .initialized RX10, .code yX10_emptyAllSlots cX10_emptyAllSlots 2 none, .fieldLink RX10 96 "DocumentSpanner$State" "filled" "[Z", .fieldLink RX10 34 "DocumentSpanner" "cursorSlot" "I"] : List Cond) ++ wsX100 ++ wsX80)
set_option maxRecDepth 20000 in
theorem ggk_X10_clearDocument_X10_emptyAllSlots : GoodIn wk_X10_clearDocument wk_X10_emptyAllSlots := goodIn_ca (goodIn_ca (goodIn_r _ [7, 1, 8, 9] (by decide +kernel) (by decide +kernel)) (goodIn_sub (fun _ h => List.mem_cons_of_mem _ (List.mem_append_left _ (List.mem_append_right _ h))) (by decide +kernel))) (goodIn_sub (fun _ h => List.mem_cons_of_mem _ (List.mem_append_right _ h)) (by decide +kernel))
set_option maxRecDepth 20000 in
theorem gk_X10_clearDocument_X10_emptyAllSlots : GoodIn wk_X10_clearDocument (wsV RX10 88 RX10 yX10_emptyAllSlots wk_X10_emptyAllSlots) := goodIn_app (goodIn_r _ [3, 4, 5, 6] (by decide +kernel) (by decide +kernel)) ggk_X10_clearDocument_X10_emptyAllSlots
set_option maxHeartbeats 4000000 in
set_option maxRecDepth 100000 in
theorem k_X10_clearDocument (l : Launch) (htr : l.stackTraces = false) (D : va_G) (cI cJ cZ : ClassId) (x : Nat) (st : Nat) (kp : Nat) (bf : Nat) (o1 : Nat) (o2 : Nat) (o3 : Nat) (o4 : Nat) (o5 : Nat) (o6 : Nat) (lt : Nat) (tb : Nat) (fl : Nat) (wt : Nat) (sz : Nat) : Met l yX10_clearDocument wk_X10_clearDocument ({ frames := 1, cells := 0, slots := 0, locals := 21 }) (xPc D cI cJ cZ [.ref x] [(x, .inr (9, [.ref st, .ref kp, .int 0, .ref bf, .int 0, .int (-1), .int (-1), .int 0, .ref o1, .ref o2, .ref o3, .ref o4, .ref o5, .ref o6])), (st, .inr (8, [.ref lt, .ref tb, .ref fl, .ref wt, .int 0, .null])), (fl, .inl (cZ, 6, .inl (fun _ => 0)))] sz) (va_Qi (fun (r : Int32) (u : Unit) => (r = 0)) (fun (u : Unit) (t : State) => va_P D vwCl ([] : va_W) t.heap ∧ va_D (va_A [(x, .inr (9, [.ref st, .ref kp, .int 0, .ref bf, .int 0, .int (-1), .int (-1), .int 0, .ref o1, .ref o2, .ref o3, .ref o4, .ref o5, .ref o6])), (st, .inr (8, [.ref lt, .ref tb, .ref fl, .ref wt, .int 0, .null])), (fl, .inl (cZ, 6, .inl (fun _ => 0)))] sz) ([] : va_W)) (va_A [(x, .inr (9, [.ref st, .ref kp, .int 0, .ref bf, .int 0, .int (-1), .int (-1), .int 0, .ref o1, .ref o2, .ref o3, .ref o4, .ref o5, .ref o6])), (st, .inr (8, [.ref lt, .ref tb, .ref fl, .ref wt, .int 0, .null])), (fl, .inl (cZ, 6, .inl (fun _ => 0)))] sz)) 0 0 (va_A [(x, .inr (9, [.ref st, .ref kp, .int 0, .ref bf, .int 0, .int (-1), .int (-1), .int 0, .ref o1, .ref o2, .ref o3, .ref o4, .ref o5, .ref o6])), (st, .inr (8, [.ref lt, .ref tb, .ref fl, .ref wt, .int 0, .null])), (fl, .inl (cZ, 6, .inl (fun _ => 0)))] sz) := by
  refine Met.ofW (cc := cX10_clearDocument) (maxL := 2) (ret := (some .int)) (by decide) rfl ?_
  intro p e s m args below meth c s₁ B hml hv
  obtain ⟨rfl, hsz, hP, hK, hD0, hE, hV⟩ := hv
  have hx := B.exec
  have hb := B.bytes
  have hr := B.returns
  have hts := atoms_spec (ws := wk_X10_clearDocument) B.pre
  have hown : s.vm.findClass RX10 = some m.cls := findClass_of_methodNamed B.named
  have hlocks := B.notSynchronized
  have i_X10 : ∀ w ∈ wsX100, w ∈ wk_X10_clearDocument := fun _ h => List.mem_cons_of_mem _ (List.mem_append_left _ (List.mem_append_right _ h))
  have i_X8 : ∀ w ∈ wsX80, w ∈ wk_X10_clearDocument := fun _ h => List.mem_cons_of_mem _ (List.mem_append_right _ h)
  have w_1 := hts (.fieldLink RX10 12 "DocumentSpanner" "state" "LDocumentSpanner$State;") (List.mem_of_getElem? (i := 1) rfl)
  have w_2 := hts (.fieldLink RX10 77 "DocumentSpanner$State" "length" "I") (List.mem_of_getElem? (i := 2) rfl)
  subst hsz
  have hD := hD0.self (sz := s.heap.size)
  generalize hAe : va_A [(x, .inr (9, [.ref st, .ref kp, .int 0, .ref bf, .int 0, .int (-1), .int (-1), .int 0, .ref o1, .ref o2, .ref o3, .ref o4, .ref o5, .ref o6])), (st, .inr (8, [.ref lt, .ref tb, .ref fl, .ref wt, .int 0, .null])), (fl, .inl (cZ, 6, .inl (fun _ => 0)))] s.heap.size = A at hD hE ⊢
  have hA : ∀ q : Nat, s.heap.size ≤ q → A q := fun q h => by rw [← hAe]; exact Or.inr h
  have hS : va_S A s.heap s.heap [] := va_S.rf
  have hP : va_P D vwCl [(x, .inr (9, [.ref st, .ref kp, .int 0, .ref bf, .int 0, .int (-1), .int (-1), .int 0, .ref o1, .ref o2, .ref o3, .ref o4, .ref o5, .ref o6])), (st, .inr (8, [.ref lt, .ref tb, .ref fl, .ref wt, .int 0, .null])), (fl, .inl (cZ, 6, .inl (fun _ => 0)))] s.heap := hP
  have hl := lv_entry ([.ref x]) (n := 2) (Nat.le_of_ble_eq_true rfl)
  rw [lg_entry_eq]
  generalize (lg_sl ([.ref x]) ++ List.replicate (2 - (lg_sl ([.ref x])).length) Slot.unset).toArray = ls at hl ⊢
  have hl : lv_has ls 2 [(0, .ref x)] := hl
  refine lv_aload_n hx hb dX10_clearDocument_0 rfl (lv_at hl 0 rfl) ?_
  refine va_get (D := D) (ci := 9) (v := .ref st) (C := RX10) (T := TX10) (N := 14) hx hb hts i_X10 hown hK hP 0 rfl rfl 0 (by decide) w_1 (fun _ h9 => h9) rfl dX10_clearDocument_1 ?_
  refine va_get (D := D) (ci := 8) (v := .int 0) (C := RX8) (T := TX8) (N := 6) hx hb hts i_X8 hown hK hP 1 rfl rfl 4 (by decide) w_2 (fun _ h9 => h9) rfl dX10_clearDocument_4 ?_
  refine lv_istore_n (lv' := [(1, .int 0), (0, .ref x)]) hx hb dX10_clearDocument_7 rfl hl (by decide) rfl (fun ls hl => ?_)
  refine lv_aload_n hx hb dX10_clearDocument_8 rfl (lv_at hl 1 rfl) ?_
  refine va_get (D := D) (ci := 9) (v := .ref st) (C := RX10) (T := TX10) (N := 14) hx hb hts i_X10 hown hK hP 0 rfl rfl 0 (by decide) w_1 (fun _ h9 => h9) rfl dX10_clearDocument_9 ?_
  refine lv_iconst (v := 0) hx hb dX10_clearDocument_12 (by decide) ?_
  refine va_put (D := D) (ci := 8) (v := .int 0) (ty := .int) (C := RX8) (T := TX8) (N := 6) hx hb hts i_X8 tyX8 tyX8_ok nmX8 hown hK hP hD hS 1 rfl rfl 4 (by decide) w_2 (fun _ h9 => h9) rfl (by decide +kernel) rfl rfl (Nat.le_of_ble_eq_true rfl) dX10_clearDocument_13 (fun H_1 locs hP hD hS => ?_)
  have hP : va_P D vwCl [(x, .inr (9, [.ref st, .ref kp, .int 0, .ref bf, .int 0, .int (-1), .int (-1), .int 0, .ref o1, .ref o2, .ref o3, .ref o4, .ref o5, .ref o6])), (st, .inr (8, [.ref lt, .ref tb, .ref fl, .ref wt, .int 0, .null])), (fl, .inl (cZ, 6, .inl (fun _ => 0)))] H_1 := hP
  have hD : va_D A [(x, .inr (9, [.ref st, .ref kp, .int 0, .ref bf, .int 0, .int (-1), .int (-1), .int 0, .ref o1, .ref o2, .ref o3, .ref o4, .ref o5, .ref o6])), (st, .inr (8, [.ref lt, .ref tb, .ref fl, .ref wt, .int 0, .null])), (fl, .inl (cZ, 6, .inl (fun _ => 0)))] := hD
  refine lv_aload_n hx hb dX10_clearDocument_16 rfl (lv_at hl 1 rfl) ?_
  have hPc := hP.sub (ws' := [(x, .inr (9, [.ref st, .ref kp, .int 0, .ref bf, .int 0, .int (-1), .int (-1), .int 0, .ref o1, .ref o2, .ref o3, .ref o4, .ref o5, .ref o6])), (st, .inr (8, [.ref lt, .ref tb, .ref fl, .ref wt, .int 0, .null])), (fl, .inl (cZ, 6, .inl (fun _ => 0)))]) [0, 1, 2] rfl
  have hDc := hD.sub (ws' := [(x, .inr (9, [.ref st, .ref kp, .int 0, .ref bf, .int 0, .int (-1), .int (-1), .int 0, .ref o1, .ref o2, .ref o3, .ref o4, .ref o5, .ref o6])), (st, .inr (8, [.ref lt, .ref tb, .ref fl, .ref wt, .int 0, .null])), (fl, .inl (cZ, 6, .inl (fun _ => 0)))]) [0, 1, 2] (by decide) rfl
  have hFc := va_free (wc := [(x, .inr (9, [.ref st, .ref kp, .int 0, .ref bf, .int 0, .int (-1), .int (-1), .int 0, .ref o1, .ref o2, .ref o3, .ref o4, .ref o5, .ref o6])), (st, .inr (8, [.ref lt, .ref tb, .ref fl, .ref wt, .int 0, .null])), (fl, .inl (cZ, 6, .inl (fun _ => 0)))]) hD hS hA [0, 1, 2] rfl
  refine va_callv (va_runV (As := []) (rest := []) ⟨hx, hb, hml, hown, hts⟩ (k_X10_emptyAllSlots l htr D cI cJ cZ x st kp bf o1 o2 o3 o4 o5 o6 lt tb fl wt H_1.size) (cwV 0 hts gk_X10_clearDocument_X10_emptyAllSlots rfl rfl rfl (by decide +kernel) ⟨Nat.le_of_ble_eq_true rfl, Nat.le_of_ble_eq_true rfl⟩) ⟨xPc_blind, va_recv hK hP (ci := 9) (q0 := 0) rfl rfl, xPc_pre hPc hK hDc hE hS hFc hV⟩ rfl rfl hl.1 rfl (lv_room (Nat.le_of_ble_eq_true rfl)) dX10_clearDocument_17 ⟨Nat.le_of_ble_eq_true rfl, Nat.le_of_ble_eq_true rfl⟩) hS (fun q _ h => hFc q h) hFc (fun u t H_2 locs ht hvm hw hB hz1 hk1 hS => ?_)
  rcases hw with -
  obtain ⟨hP1, hD1⟩ := hB
  rw [ht] at hP1
  obtain ⟨hP, hD⟩ := va_join (wr := []) (w1 := [(x, .inr (9, [.ref st, .ref kp, .int 0, .ref bf, .int 0, .int (-1), .int (-1), .int 0, .ref o1, .ref o2, .ref o3, .ref o4, .ref o5, .ref o6])), (st, .inr (8, [.ref lt, .ref tb, .ref fl, .ref wt, .int 0, .null]))]) hP hD [0, 1, 2] [] rfl rfl (by decide) (by decide) hk1 hFc hP1 hD1
  have hP : va_P D vwCl [(x, .inr (9, [.ref st, .ref kp, .int 0, .ref bf, .int 0, .int (-1), .int (-1), .int 0, .ref o1, .ref o2, .ref o3, .ref o4, .ref o5, .ref o6])), (st, .inr (8, [.ref lt, .ref tb, .ref fl, .ref wt, .int 0, .null]))] H_2 := hP
  have hD : va_D A [(x, .inr (9, [.ref st, .ref kp, .int 0, .ref bf, .int 0, .int (-1), .int (-1), .int 0, .ref o1, .ref o2, .ref o3, .ref o4, .ref o5, .ref o6])), (st, .inr (8, [.ref lt, .ref tb, .ref fl, .ref wt, .int 0, .null]))] := hD
  refine W.widen (k := 0) (n := 0) (Nat.le_of_ble_eq_true rfl) (Nat.le_of_ble_eq_true rfl) ?_
  refine lv_iload_n hx hb dX10_clearDocument_20 rfl (lv_at hl 0 rfl) ?_
  have hP9 := hP.sub (ws' := []) [] rfl
  have hD9 := hD.sub (ws' := []) [] (by decide) rfl
  refine W.widen (k := 0) (n := 0) (Nat.le_of_ble_eq_true rfl) (Nat.le_of_ble_eq_true rfl) ?_
  exact W.iret (v := 0) hx hb hr (fun t ht hW => ⟨⟨0, (), rfl, rfl, by rw [ht]; exact hP9, hD9⟩, hS.F ht⟩) hS.2.2 dX10_clearDocument_21
def wk_X10_letter : List Cond := .code yX10_letter cX10_letter 2 (some .int) :: (([.classLink RX10 91 iob, .initialized iob, .fieldLink RX10 12 "DocumentSpanner" "state" "LDocumentSpanner$State;", .fieldLink RX10 77 "DocumentSpanner$State" "length" "I"] : List Cond) ++ wsX100 ++ wsX80 ++ (vx_atS RX10 95 iob ["java/lang/RuntimeException", "java/lang/Exception"]).filter goodWord)
set_option maxHeartbeats 4000000 in
set_option maxRecDepth 100000 in
theorem k_X10_letter (l : Launch) (htr : l.stackTraces = false) (D : va_G) (cI cJ cZ : ClassId) (x : Nat) (st : Nat) (kp : Nat) (bf : Nat) (o1 : Nat) (o2 : Nat) (o3 : Nat) (o4 : Nat) (o5 : Nat) (o6 : Nat) (lt : Nat) (tb : Nat) (fl : Nat) (wt : Nat) (a0 : Int32) (sz : Nat) : vx_Met l yX10_letter wk_X10_letter ({ frames := 6, cells := 1, slots := 6, locals := 82 }) (xPc D cI cJ cZ [.ref x, .int a0] [(x, .inr (9, [.ref st, .ref kp, .int 0, .ref bf, .int 0, .int (-1), .int (-1), .int 0, .ref o1, .ref o2, .ref o3, .ref o4, .ref o5, .ref o6])), (st, .inr (8, [.ref lt, .ref tb, .ref fl, .ref wt, .int 0, .null]))] sz) (va_Qi (fun (r : Int32) (u : Unit) => False) (fun (u : Unit) (t : State) => va_P D vwCl ([] : va_W) t.heap ∧ va_D (va_A [(x, .inr (9, [.ref st, .ref kp, .int 0, .ref bf, .int 0, .int (-1), .int (-1), .int 0, .ref o1, .ref o2, .ref o3, .ref o4, .ref o5, .ref o6])), (st, .inr (8, [.ref lt, .ref tb, .ref fl, .ref wt, .int 0, .null]))] sz) ([] : va_W)) (va_A [(x, .inr (9, [.ref st, .ref kp, .int 0, .ref bf, .int 0, .int (-1), .int (-1), .int 0, .ref o1, .ref o2, .ref o3, .ref o4, .ref o5, .ref o6])), (st, .inr (8, [.ref lt, .ref tb, .ref fl, .ref wt, .int 0, .null]))] sz)) (vx_X (fun _ : Unit => True) (fun (E : String) (_ : Unit) (_ : State) => (E = iob ∧ a0.toInt < 0) ∨ (E = iob ∧ 0 ≤ a0.toInt ∧ 0 ≤ a0.toInt)) (va_A [(x, .inr (9, [.ref st, .ref kp, .int 0, .ref bf, .int 0, .int (-1), .int (-1), .int 0, .ref o1, .ref o2, .ref o3, .ref o4, .ref o5, .ref o6])), (st, .inr (8, [.ref lt, .ref tb, .ref fl, .ref wt, .int 0, .null]))] sz)) 1 6 (va_A [(x, .inr (9, [.ref st, .ref kp, .int 0, .ref bf, .int 0, .int (-1), .int (-1), .int 0, .ref o1, .ref o2, .ref o3, .ref o4, .ref o5, .ref o6])), (st, .inr (8, [.ref lt, .ref tb, .ref fl, .ref wt, .int 0, .null]))] sz) := by
  refine vx_ofW (cc := cX10_letter) (maxL := 2) (ret := (some .int)) (by decide) rfl ?_
  intro p e s m args below meth c s₁ B hml htab hv
  obtain ⟨rfl, hsz, hP, hK, hD0, hE, hV⟩ := hv
  have hx := B.exec
  have hb := B.bytes
  have hr := B.returns
  have hts := atoms_spec (ws := wk_X10_letter) B.pre
  have hown : s.vm.findClass RX10 = some m.cls := findClass_of_methodNamed B.named
  have hlocks := B.notSynchronized
  have i_X10 : ∀ w ∈ wsX100, w ∈ wk_X10_letter := fun _ h => List.mem_cons_of_mem _ (List.mem_append_left _ (List.mem_append_left _ (List.mem_append_right _ h)))
  have i_X8 : ∀ w ∈ wsX80, w ∈ wk_X10_letter := fun _ h => List.mem_cons_of_mem _ (List.mem_append_left _ (List.mem_append_right _ h))
  have w_1 := hts (.classLink RX10 91 iob) (List.mem_of_getElem? (i := 1) rfl)
  have w_2 := hts (.initialized iob) (List.mem_of_getElem? (i := 2) rfl)
  have w_3 := xat_95 (fun w h => hts w (List.mem_cons_of_mem _ (List.mem_append_right _ h))) hV
  have w_4 := hts (.fieldLink RX10 12 "DocumentSpanner" "state" "LDocumentSpanner$State;") (List.mem_of_getElem? (i := 3) rfl)
  have w_5 := hts (.fieldLink RX10 77 "DocumentSpanner$State" "length" "I") (List.mem_of_getElem? (i := 4) rfl)
  subst hsz
  have hD := hD0.self (sz := s.heap.size)
  generalize hAe : va_A [(x, .inr (9, [.ref st, .ref kp, .int 0, .ref bf, .int 0, .int (-1), .int (-1), .int 0, .ref o1, .ref o2, .ref o3, .ref o4, .ref o5, .ref o6])), (st, .inr (8, [.ref lt, .ref tb, .ref fl, .ref wt, .int 0, .null]))] s.heap.size = A at hD hE ⊢
  have hA : ∀ q : Nat, s.heap.size ≤ q → A q := fun q h => by rw [← hAe]; exact Or.inr h
  have hS : va_S A s.heap s.heap [] := va_S.rf
  have hP : va_P D vwCl [(x, .inr (9, [.ref st, .ref kp, .int 0, .ref bf, .int 0, .int (-1), .int (-1), .int 0, .ref o1, .ref o2, .ref o3, .ref o4, .ref o5, .ref o6])), (st, .inr (8, [.ref lt, .ref tb, .ref fl, .ref wt, .int 0, .null]))] s.heap := hP
  have hl := lv_entry ([.ref x, .int a0]) (n := 2) (Nat.le_of_ble_eq_true rfl)
  rw [lg_entry_eq]
  generalize (lg_sl ([.ref x, .int a0]) ++ List.replicate (2 - (lg_sl ([.ref x, .int a0])).length) Slot.unset).toArray = ls at hl ⊢
  have hl : lv_has ls 2 [(0, .ref x), (1, .int a0)] := hl
  refine lv_iload_n hx hb dX10_letter_0 rfl (lv_at hl 1 rfl) ?_
  refine lv_if_lt (tgt := 15) hx hb dX10_letter_1 (by decide) (fun c_1 => ?_) (fun c_1 => ?_)
  · have c_1 : a0.toInt < 0 := xlt c_1
    obtain ⟨sa, hstr⟩ := hV.1 (93, "no letter at this position") (by decide)
    exact vx_throwS (names := ["java/lang/RuntimeException", "java/lang/Exception"]) hx hb htr hown (by decide +kernel) (by decide +kernel) w_1 w_2 hstr w_3 xgood_91_95 hE.1 hE.2 hS (hl.1.trans hml.symm) dX10_letter_15 dX10_letter_18 dX10_letter_19 dX10_letter_21 dX10_letter_24 (fun x hx => (htab x hx).elim) (Nat.le_of_ble_eq_true rfl) (Nat.le_of_ble_eq_true rfl) (Nat.le_of_ble_eq_true rfl) (Nat.le_of_ble_eq_true rfl) hlocks (fun t h1 h2 h3 => ⟨(), trivial, Or.inl ⟨rfl, c_1⟩, xF hS h2 h3⟩) hS.2.2 (Nat.le_of_ble_eq_true rfl) (Nat.le_of_ble_eq_true rfl)
  · have c_1 : 0 ≤ a0.toInt := xnlt c_1
    refine lv_iload_n hx hb dX10_letter_4 rfl (lv_at hl 1 rfl) ?_
    refine lv_aload_n hx hb dX10_letter_5 rfl (lv_at hl 0 rfl) ?_
    refine va_get (D := D) (ci := 9) (v := .ref st) (C := RX10) (T := TX10) (N := 14) hx hb hts i_X10 hown hK hP 0 rfl rfl 0 (by decide) w_4 (fun _ h9 => h9) rfl dX10_letter_6 ?_
    refine va_get (D := D) (ci := 8) (v := .int 0) (C := RX8) (T := TX8) (N := 6) hx hb hts i_X8 hown hK hP 1 rfl rfl 4 (by decide) w_5 (fun _ h9 => h9) rfl dX10_letter_9 ?_
    refine lv_icmp_lt (tgt := 25) hx hb dX10_letter_12 (by decide) (fun c_2 => ?_) (fun c_2 => ?_)
    · have c_2 : a0.toInt < 0 := xlt c_2
      exfalso; omega
    · have c_2 : 0 ≤ a0.toInt := xnlt c_2
      obtain ⟨sa, hstr⟩ := hV.1 (93, "no letter at this position") (by decide)
      exact vx_throwS (names := ["java/lang/RuntimeException", "java/lang/Exception"]) hx hb htr hown (by decide +kernel) (by decide +kernel) w_1 w_2 hstr w_3 xgood_91_95 hE.1 hE.2 hS (hl.1.trans hml.symm) dX10_letter_15 dX10_letter_18 dX10_letter_19 dX10_letter_21 dX10_letter_24 (fun x hx => (htab x hx).elim) (Nat.le_of_ble_eq_true rfl) (Nat.le_of_ble_eq_true rfl) (Nat.le_of_ble_eq_true rfl) (Nat.le_of_ble_eq_true rfl) hlocks (fun t h1 h2 h3 => ⟨(), trivial, Or.inr ⟨rfl, c_1, c_2⟩, xF hS h2 h3⟩) hS.2.2 (Nat.le_of_ble_eq_true rfl) (Nat.le_of_ble_eq_true rfl)
def wk_X10_appendCharacter : List Cond := .code yX10_appendCharacter cX10_appendCharacter 2 (some .int) :: (([.classLink RX10 70 iae, .initialized iae, .fieldLink RX10 27 "DocumentSpanner" "bufferLength" "I", .fieldLink RX10 23 "DocumentSpanner" "buffer" "[I"] : List Cond) ++ wsX100 ++ (vx_atS RX10 74 iae ["java/lang/RuntimeException", "java/lang/Exception"]).filter goodWord)
set_option maxHeartbeats 4000000 in
set_option maxRecDepth 100000 in
theorem k_X10_appendCharacter (l : Launch) (htr : l.stackTraces = false) (D : va_G) (cI cJ cZ : ClassId) (x : Nat) (st : Nat) (kp : Nat) (bf : Nat) (o1 : Nat) (o2 : Nat) (o3 : Nat) (o4 : Nat) (o5 : Nat) (o6 : Nat) (a0 : Int32) (sz : Nat) : vx_Met l yX10_appendCharacter wk_X10_appendCharacter ({ frames := 6, cells := 1, slots := 6, locals := 82 }) (xPc D cI cJ cZ [.ref x, .int a0] [(x, .inr (9, [.ref st, .ref kp, .int 0, .ref bf, .int 0, .int (-1), .int (-1), .int 0, .ref o1, .ref o2, .ref o3, .ref o4, .ref o5, .ref o6])), (bf, .inl (cI, 40, .inl (fun _ => 0)))] sz) (va_Qi (fun (r : Int32) (u : Unit) => (r = 1 ∧ 33 ≤ a0.toInt ∧ a0.toInt ≤ 126)) (fun (u : Unit) (t : State) => va_P D vwCl ([] : va_W) t.heap ∧ va_D (va_A [(x, .inr (9, [.ref st, .ref kp, .int 0, .ref bf, .int 0, .int (-1), .int (-1), .int 0, .ref o1, .ref o2, .ref o3, .ref o4, .ref o5, .ref o6])), (bf, .inl (cI, 40, .inl (fun _ => 0)))] sz) ([] : va_W)) (va_A [(x, .inr (9, [.ref st, .ref kp, .int 0, .ref bf, .int 0, .int (-1), .int (-1), .int 0, .ref o1, .ref o2, .ref o3, .ref o4, .ref o5, .ref o6])), (bf, .inl (cI, 40, .inl (fun _ => 0)))] sz)) (vx_X (fun _ : Unit => True) (fun (E : String) (_ : Unit) (_ : State) => (E = iae ∧ a0.toInt < 33) ∨ (E = iae ∧ 33 ≤ a0.toInt ∧ 126 < a0.toInt)) (va_A [(x, .inr (9, [.ref st, .ref kp, .int 0, .ref bf, .int 0, .int (-1), .int (-1), .int 0, .ref o1, .ref o2, .ref o3, .ref o4, .ref o5, .ref o6])), (bf, .inl (cI, 40, .inl (fun _ => 0)))] sz)) 1 6 (va_A [(x, .inr (9, [.ref st, .ref kp, .int 0, .ref bf, .int 0, .int (-1), .int (-1), .int 0, .ref o1, .ref o2, .ref o3, .ref o4, .ref o5, .ref o6])), (bf, .inl (cI, 40, .inl (fun _ => 0)))] sz) := by
  refine vx_ofW (cc := cX10_appendCharacter) (maxL := 2) (ret := (some .int)) (by decide) rfl ?_
  intro p e s m args below meth c s₁ B hml htab hv
  obtain ⟨rfl, hsz, hP, hK, hD0, hE, hV⟩ := hv
  have hx := B.exec
  have hb := B.bytes
  have hr := B.returns
  have hts := atoms_spec (ws := wk_X10_appendCharacter) B.pre
  have hown : s.vm.findClass RX10 = some m.cls := findClass_of_methodNamed B.named
  have hlocks := B.notSynchronized
  have i_X10 : ∀ w ∈ wsX100, w ∈ wk_X10_appendCharacter := fun _ h => List.mem_cons_of_mem _ (List.mem_append_left _ (List.mem_append_right _ h))
  have w_1 := hts (.classLink RX10 70 iae) (List.mem_of_getElem? (i := 1) rfl)
  have w_2 := hts (.initialized iae) (List.mem_of_getElem? (i := 2) rfl)
  have w_3 := xat_74 (fun w h => hts w (List.mem_cons_of_mem _ (List.mem_append_right _ h))) hV
  have w_4 := hts (.fieldLink RX10 27 "DocumentSpanner" "bufferLength" "I") (List.mem_of_getElem? (i := 3) rfl)
  have w_5 := hts (.fieldLink RX10 23 "DocumentSpanner" "buffer" "[I") (List.mem_of_getElem? (i := 4) rfl)
  subst hsz
  have hD := hD0.self (sz := s.heap.size)
  generalize hAe : va_A [(x, .inr (9, [.ref st, .ref kp, .int 0, .ref bf, .int 0, .int (-1), .int (-1), .int 0, .ref o1, .ref o2, .ref o3, .ref o4, .ref o5, .ref o6])), (bf, .inl (cI, 40, .inl (fun _ => 0)))] s.heap.size = A at hD hE ⊢
  have hA : ∀ q : Nat, s.heap.size ≤ q → A q := fun q h => by rw [← hAe]; exact Or.inr h
  have hS : va_S A s.heap s.heap [] := va_S.rf
  have hP : va_P D vwCl [(x, .inr (9, [.ref st, .ref kp, .int 0, .ref bf, .int 0, .int (-1), .int (-1), .int 0, .ref o1, .ref o2, .ref o3, .ref o4, .ref o5, .ref o6])), (bf, .inl (cI, 40, .inl (fun _ => 0)))] s.heap := hP
  have hl := lv_entry ([.ref x, .int a0]) (n := 2) (Nat.le_of_ble_eq_true rfl)
  rw [lg_entry_eq]
  generalize (lg_sl ([.ref x, .int a0]) ++ List.replicate (2 - (lg_sl ([.ref x, .int a0])).length) Slot.unset).toArray = ls at hl ⊢
  have hl : lv_has ls 2 [(0, .ref x), (1, .int a0)] := hl
  refine lv_iload_n hx hb dX10_appendCharacter_0 rfl (lv_at hl 1 rfl) ?_
  refine lv_bipush (v := 33) hx hb dX10_appendCharacter_1 (by decide) ?_
  refine lv_icmp_lt (tgt := 12) hx hb dX10_appendCharacter_3 (by decide) (fun c_1 => ?_) (fun c_1 => ?_)
  · have c_1 : a0.toInt < 33 := xlt c_1
    obtain ⟨sa, hstr⟩ := hV.1 (100, "a character is 33 to 126") (by decide)
    exact vx_throwS (names := ["java/lang/RuntimeException", "java/lang/Exception"]) hx hb htr hown (by decide +kernel) (by decide +kernel) w_1 w_2 hstr w_3 xgood_70_74 hE.1 hE.2 hS (hl.1.trans hml.symm) dX10_appendCharacter_12 dX10_appendCharacter_15 dX10_appendCharacter_16 dX10_appendCharacter_18 dX10_appendCharacter_21 (fun x hx => (htab x hx).elim) (Nat.le_of_ble_eq_true rfl) (Nat.le_of_ble_eq_true rfl) (Nat.le_of_ble_eq_true rfl) (Nat.le_of_ble_eq_true rfl) hlocks (fun t h1 h2 h3 => ⟨(), trivial, Or.inl ⟨rfl, c_1⟩, xF hS h2 h3⟩) hS.2.2 (Nat.le_of_ble_eq_true rfl) (Nat.le_of_ble_eq_true rfl)
  · have c_1 : 33 ≤ a0.toInt := xnlt c_1
    refine lv_iload_n hx hb dX10_appendCharacter_6 rfl (lv_at hl 1 rfl) ?_
    refine lv_bipush (v := 126) hx hb dX10_appendCharacter_7 (by decide) ?_
    refine lv_icmp_le (tgt := 22) hx hb dX10_appendCharacter_9 (by decide) (fun c_2 => ?_) (fun c_2 => ?_)
    · have c_2 : a0.toInt ≤ 126 := xle c_2
      refine lv_aload_n hx hb dX10_appendCharacter_22 rfl (lv_at hl 0 rfl) ?_
      refine va_get (D := D) (ci := 9) (v := .int 0) (C := RX10) (T := TX10) (N := 14) hx hb hts i_X10 hown hK hP 0 rfl rfl 4 (by decide) w_4 (fun _ h9 => h9) rfl dX10_appendCharacter_23 ?_
      refine lv_bipush (v := 40) hx hb dX10_appendCharacter_26 (by decide) ?_
      refine lv_icmp_lt (tgt := 41) hx hb dX10_appendCharacter_28 (by decide) (fun _ => ?_) (fun h9 => absurd h9 (by decide))
      refine lv_aload_n hx hb dX10_appendCharacter_41 rfl (lv_at hl 0 rfl) ?_
      refine va_get (D := D) (ci := 9) (v := .ref bf) (C := RX10) (T := TX10) (N := 14) hx hb hts i_X10 hown hK hP 0 rfl rfl 3 (by decide) w_5 (fun _ h9 => h9) rfl dX10_appendCharacter_42 ?_
      refine lv_aload_n hx hb dX10_appendCharacter_45 rfl (lv_at hl 0 rfl) ?_
      refine va_get (D := D) (ci := 9) (v := .int 0) (C := RX10) (T := TX10) (N := 14) hx hb hts i_X10 hown hK hP 0 rfl rfl 4 (by decide) w_4 (fun _ h9 => h9) rfl dX10_appendCharacter_46 ?_
      refine lv_iload_n hx hb dX10_appendCharacter_49 rfl (lv_at hl 1 rfl) ?_
      refine va_iast hx hb hK hP hD hS 1 0 rfl rfl (i := 0) (x := a0) (vp_in_iff.mpr ⟨by decide, by decide⟩) dX10_appendCharacter_50 (fun H_3 locs hP hD hS => ?_)
      have hP : va_P D vwCl [(x, .inr (9, [.ref st, .ref kp, .int 0, .ref bf, .int 0, .int (-1), .int (-1), .int 0, .ref o1, .ref o2, .ref o3, .ref o4, .ref o5, .ref o6])), (bf, .inl (cI, 40, .inl (upd (fun _ => 0) ((0 : Int32).toNatClampNeg) a0)))] H_3 := hP
      have hD : va_D A [(x, .inr (9, [.ref st, .ref kp, .int 0, .ref bf, .int 0, .int (-1), .int (-1), .int 0, .ref o1, .ref o2, .ref o3, .ref o4, .ref o5, .ref o6])), (bf, .inl (cI, 40, .inl (upd (fun _ => 0) ((0 : Int32).toNatClampNeg) a0)))] := hD
      refine lv_aload_n hx hb dX10_appendCharacter_51 rfl (lv_at hl 0 rfl) ?_
      refine lv_dup hx hb dX10_appendCharacter_52 rfl ?_
      refine va_get (D := D) (ci := 9) (v := .int 0) (C := RX10) (T := TX10) (N := 14) hx hb hts i_X10 hown hK hP 0 rfl rfl 4 (by decide) w_4 (fun _ h9 => h9) rfl dX10_appendCharacter_53 ?_
      refine lv_iconst (v := 1) hx hb dX10_appendCharacter_56 (by decide) ?_
      refine lv_iadd hx hb dX10_appendCharacter_57 ?_
      refine W.eq (g2 := F0 m 58 ls [.int 1, .ref x]) rfl ?_
      refine va_put (D := D) (ci := 9) (v := .int 1) (ty := .int) (C := RX10) (T := TX10) (N := 14) hx hb hts i_X10 tyX10 tyX10_ok nmX10 hown hK hP hD hS 0 rfl rfl 4 (by decide) w_4 (fun _ h9 => h9) rfl (by decide +kernel) rfl rfl (Nat.le_of_ble_eq_true rfl) dX10_appendCharacter_58 (fun H_4 locs hP hD hS => ?_)
      have hP : va_P D vwCl [(x, .inr (9, [.ref st, .ref kp, .int 0, .ref bf, .int 1, .int (-1), .int (-1), .int 0, .ref o1, .ref o2, .ref o3, .ref o4, .ref o5, .ref o6])), (bf, .inl (cI, 40, .inl (upd (fun _ => 0) ((0 : Int32).toNatClampNeg) a0)))] H_4 := hP
      have hD : va_D A [(x, .inr (9, [.ref st, .ref kp, .int 0, .ref bf, .int 1, .int (-1), .int (-1), .int 0, .ref o1, .ref o2, .ref o3, .ref o4, .ref o5, .ref o6])), (bf, .inl (cI, 40, .inl (upd (fun _ => 0) ((0 : Int32).toNatClampNeg) a0)))] := hD
      refine lv_aload_n hx hb dX10_appendCharacter_61 rfl (lv_at hl 0 rfl) ?_
      refine va_get (D := D) (ci := 9) (v := .int 1) (C := RX10) (T := TX10) (N := 14) hx hb hts i_X10 hown hK hP 0 rfl rfl 4 (by decide) w_4 (fun _ h9 => h9) rfl dX10_appendCharacter_62 ?_
      have hP9 := hP.sub (ws' := []) [] rfl
      have hD9 := hD.sub (ws' := []) [] (by decide) rfl
      refine W.widen (k := 1) (n := 6) (Nat.le_of_ble_eq_true rfl) (Nat.le_of_ble_eq_true rfl) ?_
      exact vx_ret (W.iret (v := 1) hx hb hr (fun t ht hW => ⟨⟨1, (), rfl, ⟨rfl, c_1, c_2⟩, by rw [ht]; exact hP9, hD9⟩, hS.F ht⟩) hS.2.2 dX10_appendCharacter_65)
    · have c_2 : 126 < a0.toInt := xnle c_2
      obtain ⟨sa, hstr⟩ := hV.1 (100, "a character is 33 to 126") (by decide)
      exact vx_throwS (names := ["java/lang/RuntimeException", "java/lang/Exception"]) hx hb htr hown (by decide +kernel) (by decide +kernel) w_1 w_2 hstr w_3 xgood_70_74 hE.1 hE.2 hS (hl.1.trans hml.symm) dX10_appendCharacter_12 dX10_appendCharacter_15 dX10_appendCharacter_16 dX10_appendCharacter_18 dX10_appendCharacter_21 (fun x hx => (htab x hx).elim) (Nat.le_of_ble_eq_true rfl) (Nat.le_of_ble_eq_true rfl) (Nat.le_of_ble_eq_true rfl) (Nat.le_of_ble_eq_true rfl) hlocks (fun t h1 h2 h3 => ⟨(), trivial, Or.inr ⟨rfl, c_1, c_2⟩, xF hS h2 h3⟩) hS.2.2 (Nat.le_of_ble_eq_true rfl) (Nat.le_of_ble_eq_true rfl)
def wk_X10_errorPosition : List Cond := .code yX10_errorPosition cX10_errorPosition 1 (some .int) :: (([.fieldLink RX10 31 "DocumentSpanner" "faultPosition" "I"] : List Cond) ++ wsX100)
set_option maxHeartbeats 4000000 in
set_option maxRecDepth 100000 in
theorem k_X10_errorPosition (l : Launch) (htr : l.stackTraces = false) (D : va_G) (cI cJ cZ : ClassId) (x : Nat) (st : Nat) (kp : Nat) (bf : Nat) (o1 : Nat) (o2 : Nat) (o3 : Nat) (o4 : Nat) (o5 : Nat) (o6 : Nat) (sz : Nat) : Met l yX10_errorPosition wk_X10_errorPosition ({ frames := 0, cells := 0, slots := 0, locals := 0 }) (xPc D cI cJ cZ [.ref x] [(x, .inr (9, [.ref st, .ref kp, .int 0, .ref bf, .int 0, .int (-1), .int (-1), .int 0, .ref o1, .ref o2, .ref o3, .ref o4, .ref o5, .ref o6]))] sz) (va_Qi (fun (r : Int32) (u : Unit) => (r = (-1))) (fun (u : Unit) (t : State) => va_P D vwCl ([] : va_W) t.heap ∧ va_D (va_A [(x, .inr (9, [.ref st, .ref kp, .int 0, .ref bf, .int 0, .int (-1), .int (-1), .int 0, .ref o1, .ref o2, .ref o3, .ref o4, .ref o5, .ref o6]))] sz) ([] : va_W)) (va_A [(x, .inr (9, [.ref st, .ref kp, .int 0, .ref bf, .int 0, .int (-1), .int (-1), .int 0, .ref o1, .ref o2, .ref o3, .ref o4, .ref o5, .ref o6]))] sz)) 0 0 (va_A [(x, .inr (9, [.ref st, .ref kp, .int 0, .ref bf, .int 0, .int (-1), .int (-1), .int 0, .ref o1, .ref o2, .ref o3, .ref o4, .ref o5, .ref o6]))] sz) := by
  refine Met.ofW (cc := cX10_errorPosition) (maxL := 1) (ret := (some .int)) (by decide) rfl ?_
  intro p e s m args below meth c s₁ B hml hv
  obtain ⟨rfl, hsz, hP, hK, hD0, hE, hV⟩ := hv
  have hx := B.exec
  have hb := B.bytes
  have hr := B.returns
  have hts := atoms_spec (ws := wk_X10_errorPosition) B.pre
  have hown : s.vm.findClass RX10 = some m.cls := findClass_of_methodNamed B.named
  have hlocks := B.notSynchronized
  have i_X10 : ∀ w ∈ wsX100, w ∈ wk_X10_errorPosition := fun _ h => List.mem_cons_of_mem _ (List.mem_append_right _ h)
  have w_1 := hts (.fieldLink RX10 31 "DocumentSpanner" "faultPosition" "I") (List.mem_of_getElem? (i := 1) rfl)
  subst hsz
  have hD := hD0.self (sz := s.heap.size)
  generalize hAe : va_A [(x, .inr (9, [.ref st, .ref kp, .int 0, .ref bf, .int 0, .int (-1), .int (-1), .int 0, .ref o1, .ref o2, .ref o3, .ref o4, .ref o5, .ref o6]))] s.heap.size = A at hD hE ⊢
  have hA : ∀ q : Nat, s.heap.size ≤ q → A q := fun q h => by rw [← hAe]; exact Or.inr h
  have hS : va_S A s.heap s.heap [] := va_S.rf
  have hP : va_P D vwCl [(x, .inr (9, [.ref st, .ref kp, .int 0, .ref bf, .int 0, .int (-1), .int (-1), .int 0, .ref o1, .ref o2, .ref o3, .ref o4, .ref o5, .ref o6]))] s.heap := hP
  have hl := lv_entry ([.ref x]) (n := 1) (Nat.le_of_ble_eq_true rfl)
  rw [lg_entry_eq]
  generalize (lg_sl ([.ref x]) ++ List.replicate (1 - (lg_sl ([.ref x])).length) Slot.unset).toArray = ls at hl ⊢
  have hl : lv_has ls 1 [(0, .ref x)] := hl
  refine lv_aload_n hx hb dX10_errorPosition_0 rfl (lv_at hl 0 rfl) ?_
  refine va_get (D := D) (ci := 9) (v := .int (-1)) (C := RX10) (T := TX10) (N := 14) hx hb hts i_X10 hown hK hP 0 rfl rfl 5 (by decide) w_1 (fun _ h9 => h9) rfl dX10_errorPosition_1 ?_
  have hP9 := hP.sub (ws' := []) [] rfl
  have hD9 := hD.sub (ws' := []) [] (by decide) rfl
  refine W.widen (k := 0) (n := 0) (Nat.le_of_ble_eq_true rfl) (Nat.le_of_ble_eq_true rfl) ?_
  exact W.iret (v := (-1)) hx hb hr (fun t ht hW => ⟨⟨(-1), (), rfl, rfl, by rw [ht]; exact hP9, hD9⟩, hS.F ht⟩) hS.2.2 dX10_errorPosition_4
