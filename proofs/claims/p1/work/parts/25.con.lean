def wk_X2_readSequence : List Cond := .code yX2_readSequence cX2_readSequence 5 (some (.object "DocumentSpanner$Part")) :: (([.fieldLink RX2 41 "DocumentSpanner$FormulaReader" "text" "[I", .methodLink RX2 67 yX5_ofNothing, .static yX5_ofNothing, .initialized RX5, .code yX5_ofNothing cX5_ofNothing 0 (some (.object "DocumentSpanner$Part")), .classLink RX5 8 RX5, .instantiable RX5 4, .methodLink RX5 24 yX5_init, .instanceMethod yX5_init, .code yX5_init cX5_init 7 none, .methodLink RX5 1 objectInit, .instanceMethod objectInit, .code objectInit ⟨#[0xb1]⟩ 1 none, .fieldLink RX5 7 "DocumentSpanner$Part" "nullable" "Z", .fieldLink RX5 13 "DocumentSpanner$Part" "first" "J", .fieldLink RX5 17 "DocumentSpanner$Part" "last" "J", .fieldLink RX5 20 "DocumentSpanner$Part" "mentioned" "I"] : List Cond) ++ wsX20 ++ wsX50)
set_option maxRecDepth 20000 in
theorem ggk_X2_readSequence_X5_ofNothing : GoodIn wk_X2_readSequence wk_X5_ofNothing := goodIn_ca (goodIn_r _ [5, 6, 7, 4, 8, 9, 10, 11, 12, 13, 14, 15, 16, 17] (by decide +kernel) (by decide +kernel)) (goodIn_sub (fun _ h => List.mem_cons_of_mem _ (List.mem_append_right _ h)) (by decide +kernel))
set_option maxRecDepth 20000 in
theorem gk_X2_readSequence_X5_ofNothing : GoodIn wk_X2_readSequence (va_wsS RX2 67 yX5_ofNothing wk_X5_ofNothing) := goodIn_app (goodIn_r _ [2, 3, 4] (by decide +kernel) (by decide +kernel)) ggk_X2_readSequence_X5_ofNothing
set_option maxHeartbeats 4000000 in
set_option maxRecDepth 100000 in
theorem k_X2_readSequence (l : Launch) (htr : l.stackTraces = false) (D : va_G) (cI cJ cZ : ClassId) (rd : Nat) (tx : Nat) (fo : Nat) (mk : Nat) (ft : Nat → Int32) (sz : Nat) : Met l yX2_readSequence wk_X2_readSequence ({ frames := 3, cells := 1, slots := 4, locals := 57 }) (xPc D cI cJ cZ [.ref rd, .int 0] [(rd, .inr (3, [.ref tx, .ref fo, .ref mk, .int 0, .int 1, .int 1])), (tx, .inl (cI, 0, .inl (ft)))] sz) (va_Qr (fun (u : Unit) => True) (fun (u : Unit) (ra_2 : Nat) (t : State) => va_P D vwCl ([(ra_2, .inr (5, [.int 1, .long 0, .long 0, .int 0])), (rd, .inr (3, [.ref tx, .ref fo, .ref mk, .int 0, .int 1, .int 1])), (tx, .inl (cI, 0, .inl (ft)))] : va_W) t.heap ∧ va_D (va_A [(rd, .inr (3, [.ref tx, .ref fo, .ref mk, .int 0, .int 1, .int 1])), (tx, .inl (cI, 0, .inl (ft)))] sz) ([(ra_2, .inr (5, [.int 1, .long 0, .long 0, .int 0])), (rd, .inr (3, [.ref tx, .ref fo, .ref mk, .int 0, .int 1, .int 1])), (tx, .inl (cI, 0, .inl (ft)))] : va_W)) (va_A [(rd, .inr (3, [.ref tx, .ref fo, .ref mk, .int 0, .int 1, .int 1])), (tx, .inl (cI, 0, .inl (ft)))] sz)) 1 4 (va_A [(rd, .inr (3, [.ref tx, .ref fo, .ref mk, .int 0, .int 1, .int 1])), (tx, .inl (cI, 0, .inl (ft)))] sz) := by
  refine Met.ofW (cc := cX2_readSequence) (maxL := 5) (ret := (some (.object "DocumentSpanner$Part"))) (by decide) rfl ?_
  intro p e s m args below meth c s₁ B hml hv
  obtain ⟨rfl, hsz, hP, hK, hD0, hE, hV⟩ := hv
  have hx := B.exec
  have hb := B.bytes
  have hr := B.returns
  have hts := atoms_spec (ws := wk_X2_readSequence) B.pre
  have hown : s.vm.findClass RX2 = some m.cls := findClass_of_methodNamed B.named
  have hlocks := B.notSynchronized
  have i_X2 : ∀ w ∈ wsX20, w ∈ wk_X2_readSequence := fun _ h => List.mem_cons_of_mem _ (List.mem_append_left _ (List.mem_append_right _ h))
  have w_1 := hts (.fieldLink RX2 41 "DocumentSpanner$FormulaReader" "text" "[I") (List.mem_of_getElem? (i := 1) rfl)
  subst hsz
  have hD := hD0.self (sz := s.heap.size)
  generalize hAe : va_A [(rd, .inr (3, [.ref tx, .ref fo, .ref mk, .int 0, .int 1, .int 1])), (tx, .inl (cI, 0, .inl (ft)))] s.heap.size = A at hD hE ⊢
  have hA : ∀ q : Nat, s.heap.size ≤ q → A q := fun q h => by rw [← hAe]; exact Or.inr h
  have hS : va_S A s.heap s.heap [] := va_S.rf
  have hP : va_P D vwCl [(rd, .inr (3, [.ref tx, .ref fo, .ref mk, .int 0, .int 1, .int 1])), (tx, .inl (cI, 0, .inl (ft)))] s.heap := hP
  have hl := lv_entry ([.ref rd, .int 0]) (n := 5) (Nat.le_of_ble_eq_true rfl)
  rw [lg_entry_eq]
  generalize (lg_sl ([.ref rd, .int 0]) ++ List.replicate (5 - (lg_sl ([.ref rd, .int 0])).length) Slot.unset).toArray = ls at hl ⊢
  have hl : lv_has ls 5 [(0, .ref rd), (1, .int 0)] := hl
  have hPc := hP.sub (ws' := []) [] rfl
  have hDc := hD.sub (ws' := []) [] (by decide) rfl
  have hFc := va_free (wc := []) hD hS hA [] rfl
  refine va_callr (va_runS (As := []) (rest := []) ⟨hx, hb, hml, hown, hts⟩ (k_X5_ofNothing l htr D cI cJ cZ  s.heap.size) (va_cwS 0 hts gk_X2_readSequence_X5_ofNothing rfl rfl rfl (by decide +kernel) ⟨Nat.le_of_ble_eq_true rfl, Nat.le_of_ble_eq_true rfl⟩) ⟨xPc_blind, xPc_pre hPc hK hDc hE hS hFc hV⟩ rfl rfl hl.1 rfl (lv_room (Nat.le_of_ble_eq_true rfl)) dX2_readSequence_0 ⟨Nat.le_of_ble_eq_true rfl, Nat.le_of_ble_eq_true rfl⟩) hS (fun q _ h => hFc q h) hFc (fun u ra_2 t H_1 locs ht hvm hw hB hz1 hk1 hS => ?_)
  rcases hw with -
  obtain ⟨hP1, hD1⟩ := hB
  rw [ht] at hP1
  obtain ⟨hP, hD⟩ := va_join (wr := [(rd, .inr (3, [.ref tx, .ref fo, .ref mk, .int 0, .int 1, .int 1])), (tx, .inl (cI, 0, .inl (ft)))]) (w1 := [(ra_2, .inr (5, [.int 1, .long 0, .long 0, .int 0]))]) hP hD [] [0, 1] rfl rfl (by decide) (by decide) hk1 hFc hP1 hD1
  have hP : va_P D vwCl [(rd, .inr (3, [.ref tx, .ref fo, .ref mk, .int 0, .int 1, .int 1])), (tx, .inl (cI, 0, .inl (ft))), (ra_2, .inr (5, [.int 1, .long 0, .long 0, .int 0]))] H_1 := hP
  have hD : va_D A [(rd, .inr (3, [.ref tx, .ref fo, .ref mk, .int 0, .int 1, .int 1])), (tx, .inl (cI, 0, .inl (ft))), (ra_2, .inr (5, [.int 1, .long 0, .long 0, .int 0]))] := hD
  refine W.widen (k := 1) (n := 4) (Nat.le_of_ble_eq_true rfl) (Nat.le_of_ble_eq_true rfl) ?_
  refine lv_astore_n (lv' := [(2, .ref ra_2), (0, .ref rd), (1, .int 0)]) hx hb dX2_readSequence_3 rfl hl (by decide) rfl (fun ls hl => ?_)
  refine lv_iconst (v := 0) hx hb dX2_readSequence_4 (by decide) ?_
  refine lv_istore_n (lv' := [(3, .int 0), (2, .ref ra_2), (0, .ref rd), (1, .int 0)]) hx hb dX2_readSequence_5 rfl hl (by decide) rfl (fun ls hl => ?_)
  refine lv_iload_n hx hb dX2_readSequence_6 rfl (lv_at hl 0 rfl) ?_
  refine lv_aload_n hx hb dX2_readSequence_7 rfl (lv_at hl 2 rfl) ?_
  refine va_get (D := D) (ci := 3) (v := .ref tx) (C := RX2) (T := TX2) (N := 6) hx hb hts i_X2 hown hK hP 0 rfl rfl 0 (by decide) w_1 (fun _ h9 => h9) rfl dX2_readSequence_8 ?_
  refine va_alen (v := 0) hx hb hK hP 1 0 rfl rfl rfl dX2_readSequence_11 ?_
  refine lv_icmp_ge (tgt := 73) hx hb dX2_readSequence_12 (by decide) (fun _ => ?_) (fun h9 => absurd h9 (by decide))
  refine lv_aload_n hx hb dX2_readSequence_73 rfl (lv_at hl 1 rfl) ?_
  have hP9 := hP.sub (ws' := [(ra_2, .inr (5, [.int 1, .long 0, .long 0, .int 0])), (rd, .inr (3, [.ref tx, .ref fo, .ref mk, .int 0, .int 1, .int 1])), (tx, .inl (cI, 0, .inl (ft)))]) [2, 0, 1] rfl
  have hD9 := hD.sub (ws' := [(ra_2, .inr (5, [.int 1, .long 0, .long 0, .int 0])), (rd, .inr (3, [.ref tx, .ref fo, .ref mk, .int 0, .int 1, .int 1])), (tx, .inl (cI, 0, .inl (ft)))]) [2, 0, 1] (by decide) rfl
  refine W.widen (k := 1) (n := 4) (Nat.le_of_ble_eq_true rfl) (Nat.le_of_ble_eq_true rfl) ?_
  exact W.aret (v := .ref ra_2) hx hb hr (Or.inl ⟨_, rfl⟩) (Or.inr ⟨_, rfl⟩) (fun t ht hW => ⟨⟨(), ra_2, rfl, trivial, by rw [ht]; exact hP9, hD9⟩, hS.F ht⟩) hS.2.2 dX2_readSequence_74
def wk_X2_readFormula : List Cond := .code yX2_readFormula cX2_readFormula 5 (some (.object "DocumentSpanner$Part")) :: (([.fieldLink RX2 41 "DocumentSpanner$FormulaReader" "text" "[I", .methodLink RX2 71 yX2_readSequence, .instanceMethod yX2_readSequence, .selects RX2 yX2_readSequence yX2_readSequence, .initialized RX2, .code yX2_readSequence cX2_readSequence 5 (some (.object "DocumentSpanner$Part")), .methodLink RX2 67 yX5_ofNothing, .static yX5_ofNothing, .initialized RX5, .code yX5_ofNothing cX5_ofNothing 0 (some (.object "DocumentSpanner$Part")), .classLink RX5 8 RX5, .instantiable RX5 4, .methodLink RX5 24 yX5_init, .instanceMethod yX5_init, .code yX5_init cX5_init 7 none, .methodLink RX5 1 objectInit, .instanceMethod objectInit, .code objectInit ⟨#[0xb1]⟩ 1 none, .fieldLink RX5 7 "DocumentSpanner$Part" "nullable" "Z", .fieldLink RX5 13 "DocumentSpanner$Part" "first" "J", .fieldLink RX5 17 "DocumentSpanner$Part" "last" "J", .fieldLink RX5 20 "DocumentSpanner$Part" "mentioned" "I"] : List Cond) ++ wsX20 ++ wsX50)
set_option maxRecDepth 20000 in
theorem ggk_X2_readFormula_X2_readSequence : GoodIn wk_X2_readFormula wk_X2_readSequence := goodIn_ca (goodIn_ca (goodIn_r _ [6, 1, 7, 8, 9, 10, 11, 12, 13, 14, 15, 16, 17, 18, 19, 20, 21, 22] (by decide +kernel) (by decide +kernel)) (goodIn_sub (fun _ h => List.mem_cons_of_mem _ (List.mem_append_left _ (List.mem_append_right _ h))) (by decide +kernel))) (goodIn_sub (fun _ h => List.mem_cons_of_mem _ (List.mem_append_right _ h)) (by decide +kernel))
set_option maxRecDepth 20000 in
theorem gk_X2_readFormula_X2_readSequence : GoodIn wk_X2_readFormula (wsV RX2 71 RX2 yX2_readSequence wk_X2_readSequence) := goodIn_app (goodIn_r _ [2, 3, 4, 5] (by decide +kernel) (by decide +kernel)) ggk_X2_readFormula_X2_readSequence
set_option maxHeartbeats 4000000 in
set_option maxRecDepth 100000 in
theorem k_X2_readFormula (l : Launch) (htr : l.stackTraces = false) (D : va_G) (cI cJ cZ : ClassId) (rd : Nat) (tx : Nat) (fo : Nat) (mk : Nat) (ft : Nat → Int32) (sz : Nat) : Met l yX2_readFormula wk_X2_readFormula ({ frames := 4, cells := 1, slots := 4, locals := 81 }) (xPc D cI cJ cZ [.ref rd, .int 0] [(rd, .inr (3, [.ref tx, .ref fo, .ref mk, .int 0, .int 1, .int 1])), (tx, .inl (cI, 0, .inl (ft)))] sz) (va_Qr (fun (u : Unit) => True) (fun (u : Unit) (ra_2 : Nat) (t : State) => va_P D vwCl ([(ra_2, .inr (5, [.int 1, .long 0, .long 0, .int 0])), (rd, .inr (3, [.ref tx, .ref fo, .ref mk, .int 0, .int 1, .int 1])), (tx, .inl (cI, 0, .inl ((ft))))] : va_W) t.heap ∧ va_D (va_A [(rd, .inr (3, [.ref tx, .ref fo, .ref mk, .int 0, .int 1, .int 1])), (tx, .inl (cI, 0, .inl (ft)))] sz) ([(ra_2, .inr (5, [.int 1, .long 0, .long 0, .int 0])), (rd, .inr (3, [.ref tx, .ref fo, .ref mk, .int 0, .int 1, .int 1])), (tx, .inl (cI, 0, .inl ((ft))))] : va_W)) (va_A [(rd, .inr (3, [.ref tx, .ref fo, .ref mk, .int 0, .int 1, .int 1])), (tx, .inl (cI, 0, .inl (ft)))] sz)) 1 4 (va_A [(rd, .inr (3, [.ref tx, .ref fo, .ref mk, .int 0, .int 1, .int 1])), (tx, .inl (cI, 0, .inl (ft)))] sz) := by
  refine Met.ofW (cc := cX2_readFormula) (maxL := 5) (ret := (some (.object "DocumentSpanner$Part"))) (by decide) rfl ?_
  intro p e s m args below meth c s₁ B hml hv
  obtain ⟨rfl, hsz, hP, hK, hD0, hE, hV⟩ := hv
  have hx := B.exec
  have hb := B.bytes
  have hr := B.returns
  have hts := atoms_spec (ws := wk_X2_readFormula) B.pre
  have hown : s.vm.findClass RX2 = some m.cls := findClass_of_methodNamed B.named
  have hlocks := B.notSynchronized
  have i_X2 : ∀ w ∈ wsX20, w ∈ wk_X2_readFormula := fun _ h => List.mem_cons_of_mem _ (List.mem_append_left _ (List.mem_append_right _ h))
  have w_1 := hts (.fieldLink RX2 41 "DocumentSpanner$FormulaReader" "text" "[I") (List.mem_of_getElem? (i := 1) rfl)
  subst hsz
  have hD := hD0.self (sz := s.heap.size)
  generalize hAe : va_A [(rd, .inr (3, [.ref tx, .ref fo, .ref mk, .int 0, .int 1, .int 1])), (tx, .inl (cI, 0, .inl (ft)))] s.heap.size = A at hD hE ⊢
  have hA : ∀ q : Nat, s.heap.size ≤ q → A q := fun q h => by rw [← hAe]; exact Or.inr h
  have hS : va_S A s.heap s.heap [] := va_S.rf
  have hP : va_P D vwCl [(rd, .inr (3, [.ref tx, .ref fo, .ref mk, .int 0, .int 1, .int 1])), (tx, .inl (cI, 0, .inl (ft)))] s.heap := hP
  have hl := lv_entry ([.ref rd, .int 0]) (n := 5) (Nat.le_of_ble_eq_true rfl)
  rw [lg_entry_eq]
  generalize (lg_sl ([.ref rd, .int 0]) ++ List.replicate (5 - (lg_sl ([.ref rd, .int 0])).length) Slot.unset).toArray = ls at hl ⊢
  have hl : lv_has ls 5 [(0, .ref rd), (1, .int 0)] := hl
  refine lv_iload_n hx hb dX2_readFormula_0 rfl (lv_at hl 1 rfl) ?_
  refine lv_bipush (v := 6) hx hb dX2_readFormula_1 (by decide) ?_
  refine lv_icmp_le (tgt := 10) hx hb dX2_readFormula_3 (by decide) (fun _ => ?_) (fun h9 => absurd h9 (by decide))
  refine lv_aload_n hx hb dX2_readFormula_10 rfl (lv_at hl 0 rfl) ?_
  refine lv_iload_n hx hb dX2_readFormula_11 rfl (lv_at hl 1 rfl) ?_
  have hPc := hP.sub (ws' := [(rd, .inr (3, [.ref tx, .ref fo, .ref mk, .int 0, .int 1, .int 1])), (tx, .inl (cI, 0, .inl (ft)))]) [0, 1] rfl
  have hDc := hD.sub (ws' := [(rd, .inr (3, [.ref tx, .ref fo, .ref mk, .int 0, .int 1, .int 1])), (tx, .inl (cI, 0, .inl (ft)))]) [0, 1] (by decide) rfl
  have hFc := va_free (wc := [(rd, .inr (3, [.ref tx, .ref fo, .ref mk, .int 0, .int 1, .int 1])), (tx, .inl (cI, 0, .inl (ft)))]) hD hS hA [0, 1] rfl
  refine va_callr (va_runV (As := [.int 0]) (rest := []) ⟨hx, hb, hml, hown, hts⟩ (k_X2_readSequence l htr D cI cJ cZ rd tx fo mk (ft) s.heap.size) (cwV 1 hts gk_X2_readFormula_X2_readSequence rfl rfl rfl (by decide +kernel) ⟨Nat.le_of_ble_eq_true rfl, Nat.le_of_ble_eq_true rfl⟩) ⟨xPc_blind, va_recv hK hP (ci := 3) (q0 := 0) rfl rfl, xPc_pre hPc hK hDc hE hS hFc hV⟩ rfl rfl hl.1 rfl (lv_room (Nat.le_of_ble_eq_true rfl)) dX2_readFormula_12 ⟨Nat.le_of_ble_eq_true rfl, Nat.le_of_ble_eq_true rfl⟩) hS (fun q _ h => hFc q h) hFc (fun u ra_2 t H_1 locs ht hvm hw hB hz1 hk1 hS => ?_)
  rcases hw with -
  obtain ⟨hP1, hD1⟩ := hB
  rw [ht] at hP1
  obtain ⟨hP, hD⟩ := va_join (wr := []) (w1 := [(ra_2, .inr (5, [.int 1, .long 0, .long 0, .int 0])), (rd, .inr (3, [.ref tx, .ref fo, .ref mk, .int 0, .int 1, .int 1])), (tx, .inl (cI, 0, .inl ((ft))))]) hP hD [0, 1] [] rfl rfl (by decide) (by decide) hk1 hFc hP1 hD1
  have hP : va_P D vwCl [(ra_2, .inr (5, [.int 1, .long 0, .long 0, .int 0])), (rd, .inr (3, [.ref tx, .ref fo, .ref mk, .int 0, .int 1, .int 1])), (tx, .inl (cI, 0, .inl ((ft))))] H_1 := hP
  have hD : va_D A [(ra_2, .inr (5, [.int 1, .long 0, .long 0, .int 0])), (rd, .inr (3, [.ref tx, .ref fo, .ref mk, .int 0, .int 1, .int 1])), (tx, .inl (cI, 0, .inl ((ft))))] := hD
  refine W.widen (k := 1) (n := 4) (Nat.le_of_ble_eq_true rfl) (Nat.le_of_ble_eq_true rfl) ?_
  refine lv_astore_n (lv' := [(2, .ref ra_2), (0, .ref rd), (1, .int 0)]) hx hb dX2_readFormula_15 rfl hl (by decide) rfl (fun ls hl => ?_)
  refine lv_iconst (v := 0) hx hb dX2_readFormula_16 (by decide) ?_
  refine lv_istore_n (lv' := [(3, .int 0), (2, .ref ra_2), (0, .ref rd), (1, .int 0)]) hx hb dX2_readFormula_17 rfl hl (by decide) rfl (fun ls hl => ?_)
  refine lv_iload_n hx hb dX2_readFormula_18 rfl (lv_at hl 0 rfl) ?_
  refine lv_aload_n hx hb dX2_readFormula_19 rfl (lv_at hl 2 rfl) ?_
  refine va_get (D := D) (ci := 3) (v := .ref tx) (C := RX2) (T := TX2) (N := 6) hx hb hts i_X2 hown hK hP 1 rfl rfl 0 (by decide) w_1 (fun _ h9 => h9) rfl dX2_readFormula_20 ?_
  refine va_alen (v := 0) hx hb hK hP 2 0 rfl rfl rfl dX2_readFormula_23 ?_
  refine lv_icmp_ge (tgt := 83) hx hb dX2_readFormula_24 (by decide) (fun _ => ?_) (fun h9 => absurd h9 (by decide))
  refine lv_aload_n hx hb dX2_readFormula_83 rfl (lv_at hl 1 rfl) ?_
  have hP9 := hP.sub (ws' := [(ra_2, .inr (5, [.int 1, .long 0, .long 0, .int 0])), (rd, .inr (3, [.ref tx, .ref fo, .ref mk, .int 0, .int 1, .int 1])), (tx, .inl (cI, 0, .inl ((ft))))]) [0, 1, 2] rfl
  have hD9 := hD.sub (ws' := [(ra_2, .inr (5, [.int 1, .long 0, .long 0, .int 0])), (rd, .inr (3, [.ref tx, .ref fo, .ref mk, .int 0, .int 1, .int 1])), (tx, .inl (cI, 0, .inl ((ft))))]) [0, 1, 2] (by decide) rfl
  refine W.widen (k := 1) (n := 4) (Nat.le_of_ble_eq_true rfl) (Nat.le_of_ble_eq_true rfl) ?_
  exact W.aret (v := .ref ra_2) hx hb hr (Or.inl ⟨_, rfl⟩) (Or.inr ⟨_, rfl⟩) (fun t ht hW => ⟨⟨(), ra_2, rfl, trivial, by rw [ht]; exact hP9, hD9⟩, hS.F ht⟩) hS.2.2 dX2_readFormula_84
def wk_X2_link : List Cond := .code yX2_link cX2_link 6 none :: (([.fieldLink RX2 45 "DocumentSpanner$FormulaReader" "follow" "[J"] : List Cond) ++ wsX20)
set_option maxHeartbeats 4000000 in
set_option maxRecDepth 100000 in
theorem k_X2_link (l : Launch) (htr : l.stackTraces = false) (D : va_G) (cI cJ cZ : ClassId) (rd : Nat) (tx : Nat) (fo : Nat) (mk : Nat) (sz : Nat) : Met l yX2_link wk_X2_link ({ frames := 0, cells := 0, slots := 0, locals := 0 }) (xPc D cI cJ cZ [.ref rd, .long 0, .long 1] [(rd, .inr (3, [.ref tx, .ref fo, .ref mk, .int 0, .int 1, .int 1])), (fo, .inl (cJ, 0, .inr (.inl (fun _ => 0))))] sz) (va_Qv (fun (u : Unit) => True) (fun (u : Unit) (t : State) => va_P D vwCl ([(rd, .inr (3, [.ref tx, .ref fo, .ref mk, .int 0, .int 1, .int 1]))] : va_W) t.heap ∧ va_D (va_A [(rd, .inr (3, [.ref tx, .ref fo, .ref mk, .int 0, .int 1, .int 1])), (fo, .inl (cJ, 0, .inr (.inl (fun _ => 0))))] sz) ([(rd, .inr (3, [.ref tx, .ref fo, .ref mk, .int 0, .int 1, .int 1]))] : va_W)) (va_A [(rd, .inr (3, [.ref tx, .ref fo, .ref mk, .int 0, .int 1, .int 1])), (fo, .inl (cJ, 0, .inr (.inl (fun _ => 0))))] sz)) 0 0 (va_A [(rd, .inr (3, [.ref tx, .ref fo, .ref mk, .int 0, .int 1, .int 1])), (fo, .inl (cJ, 0, .inr (.inl (fun _ => 0))))] sz) := by
  refine Met.ofW (cc := cX2_link) (maxL := 6) (ret := none) (by decide) rfl ?_
  intro p e s m args below meth c s₁ B hml hv
  obtain ⟨rfl, hsz, hP, hK, hD0, hE, hV⟩ := hv
  have hx := B.exec
  have hb := B.bytes
  have hr := B.returns
  have hts := atoms_spec (ws := wk_X2_link) B.pre
  have hown : s.vm.findClass RX2 = some m.cls := findClass_of_methodNamed B.named
  have hlocks := B.notSynchronized
  have i_X2 : ∀ w ∈ wsX20, w ∈ wk_X2_link := fun _ h => List.mem_cons_of_mem _ (List.mem_append_right _ h)
  have w_1 := hts (.fieldLink RX2 45 "DocumentSpanner$FormulaReader" "follow" "[J") (List.mem_of_getElem? (i := 1) rfl)
  subst hsz
  have hD := hD0.self (sz := s.heap.size)
  generalize hAe : va_A [(rd, .inr (3, [.ref tx, .ref fo, .ref mk, .int 0, .int 1, .int 1])), (fo, .inl (cJ, 0, .inr (.inl (fun _ => 0))))] s.heap.size = A at hD hE ⊢
  have hA : ∀ q : Nat, s.heap.size ≤ q → A q := fun q h => by rw [← hAe]; exact Or.inr h
  have hS : va_S A s.heap s.heap [] := va_S.rf
  have hP : va_P D vwCl [(rd, .inr (3, [.ref tx, .ref fo, .ref mk, .int 0, .int 1, .int 1])), (fo, .inl (cJ, 0, .inr (.inl (fun _ => 0))))] s.heap := hP
  have hl := lv_entry ([.ref rd, .long 0, .long 1]) (n := 6) (Nat.le_of_ble_eq_true rfl)
  rw [lg_entry_eq]
  generalize (lg_sl ([.ref rd, .long 0, .long 1]) ++ List.replicate (6 - (lg_sl ([.ref rd, .long 0, .long 1])).length) Slot.unset).toArray = ls at hl ⊢
  have hl : lv_has ls 6 [(0, .ref rd), (1, .long 0), (3, .long 1)] := hl
  refine lv_iconst (v := 0) hx hb dX2_link_0 (by decide) ?_
  refine lv_istore (lv' := [(5, .int 0), (0, .ref rd), (1, .long 0), (3, .long 1)]) hx hb dX2_link_1 hl (by decide) rfl (fun ls hl => ?_)
  refine lv_iload hx hb dX2_link_3 (lv_at hl 0 rfl) ?_
  refine lv_aload_n hx hb dX2_link_5 rfl (lv_at hl 1 rfl) ?_
  refine va_get (D := D) (ci := 3) (v := .ref fo) (C := RX2) (T := TX2) (N := 6) hx hb hts i_X2 hown hK hP 0 rfl rfl 1 (by decide) w_1 (fun _ h9 => h9) rfl dX2_link_6 ?_
  refine va_alen (v := 0) hx hb hK hP 1 1 rfl rfl rfl dX2_link_9 ?_
  refine lv_icmp_ge (tgt := 41) hx hb dX2_link_10 (by decide) (fun _ => ?_) (fun h9 => absurd h9 (by decide))
  have hP9 := hP.sub (ws' := [(rd, .inr (3, [.ref tx, .ref fo, .ref mk, .int 0, .int 1, .int 1]))]) [0] rfl
  have hD9 := hD.sub (ws' := [(rd, .inr (3, [.ref tx, .ref fo, .ref mk, .int 0, .int 1, .int 1]))]) [0] (by decide) rfl
  refine W.widen (k := 0) (n := 0) (Nat.le_of_ble_eq_true rfl) (Nat.le_of_ble_eq_true rfl) ?_
  exact W.vret hx hb hr (fun t ht hW => ⟨⟨(), rfl, trivial, by rw [ht]; exact hP9, hD9⟩, hS.F ht⟩) hS.2.2 dX2_link_41
def wk_X1_init : List Cond := .code yX1_init cX1_init 9 none :: (([.methodLink RX1 1 objectInit, .instanceMethod objectInit, .code objectInit ⟨#[0xb1]⟩ 1 none, .fieldLink RX1 7 "DocumentSpanner$Formula" "text" "[I", .fieldLink RX1 13 "DocumentSpanner$Formula" "follow" "[J", .fieldLink RX1 17 "DocumentSpanner$Formula" "markers" "[J", .fieldLink RX1 20 "DocumentSpanner$Part" "mentioned" "I", .fieldLink RX1 26 "DocumentSpanner$Formula" "mentioned" "I", .fieldLink RX1 27 "DocumentSpanner$Formula" "kind" "I", .fieldLink RX1 30 "DocumentSpanner$Formula" "accept" "J", .fieldLink RX1 34 "DocumentSpanner$Part" "nullable" "Z", .fieldLink RX1 38 "DocumentSpanner$Part" "first" "J", .fieldLink RX1 41 "DocumentSpanner$Formula" "first" "J", .fieldLink RX1 42 "DocumentSpanner$Formula" "allMarkers" "J"] : List Cond) ++ wsX10 ++ wsX50)
set_option maxHeartbeats 4000000 in
set_option maxRecDepth 100000 in
theorem k_X1_init (l : Launch) (htr : l.stackTraces = false) (D : va_G) (cI cJ cZ : ClassId) (fm : Nat) (tx : Nat) (pt : Nat) (fo : Nat) (mk : Nat) (ft : Nat → Int32) (sz : Nat) : Met l yX1_init wk_X1_init ({ frames := 1, cells := 0, slots := 0, locals := 12 }) (xPc D cI cJ cZ [.ref fm, .ref tx, .ref pt, .ref fo, .ref mk, .int 2] [(fm, .inr (2, [.null, .null, .long 0, .long 0, .null, .long 0, .int 0, .int 0])), (tx, .inl (cI, 0, .inl (ft))), (pt, .inr (5, [.int 1, .long 0, .long 0, .int 0])), (mk, .inl (cJ, 6, .inr (.inl (fun _ => 0))))] sz) (va_Qv (fun (u : Unit) => True) (fun (u : Unit) (t : State) => va_P D vwCl ([] : va_W) t.heap ∧ va_D (va_A [(fm, .inr (2, [.null, .null, .long 0, .long 0, .null, .long 0, .int 0, .int 0])), (tx, .inl (cI, 0, .inl (ft))), (pt, .inr (5, [.int 1, .long 0, .long 0, .int 0])), (mk, .inl (cJ, 6, .inr (.inl (fun _ => 0))))] sz) ([] : va_W)) (va_A [(fm, .inr (2, [.null, .null, .long 0, .long 0, .null, .long 0, .int 0, .int 0])), (tx, .inl (cI, 0, .inl (ft))), (pt, .inr (5, [.int 1, .long 0, .long 0, .int 0])), (mk, .inl (cJ, 6, .inr (.inl (fun _ => 0))))] sz)) 0 0 (va_A [(fm, .inr (2, [.null, .null, .long 0, .long 0, .null, .long 0, .int 0, .int 0])), (tx, .inl (cI, 0, .inl (ft))), (pt, .inr (5, [.int 1, .long 0, .long 0, .int 0])), (mk, .inl (cJ, 6, .inr (.inl (fun _ => 0))))] sz) := by
  refine Met.ofW (cc := cX1_init) (maxL := 9) (ret := none) (by decide) rfl ?_
  intro p e s m args below meth c s₁ B hml hv
  obtain ⟨rfl, hsz, hP, hK, hD0, hE, hV⟩ := hv
  have hx := B.exec
  have hb := B.bytes
  have hr := B.returns
  have hts := atoms_spec (ws := wk_X1_init) B.pre
  have hown : s.vm.findClass RX1 = some m.cls := findClass_of_methodNamed B.named
  have hlocks := B.notSynchronized
  have hin : meth.name = "<init>" := (name_of_methodNamed B.named B.method).1
  have i_X1 : ∀ w ∈ wsX10, w ∈ wk_X1_init := fun _ h => List.mem_cons_of_mem _ (List.mem_append_left _ (List.mem_append_right _ h))
  have i_X5 : ∀ w ∈ wsX50, w ∈ wk_X1_init := fun _ h => List.mem_cons_of_mem _ (List.mem_append_right _ h)
  have w_1 := hts (.methodLink RX1 1 objectInit) (List.mem_of_getElem? (i := 1) rfl)
  have w_2 := hts (.instanceMethod objectInit) (List.mem_of_getElem? (i := 2) rfl)
  have w_3 := hts (.code objectInit ⟨#[0xb1]⟩ 1 none) (List.mem_of_getElem? (i := 3) rfl)
  have w_4 := hts (.fieldLink RX1 7 "DocumentSpanner$Formula" "text" "[I") (List.mem_of_getElem? (i := 4) rfl)
  have w_5 := hts (.fieldLink RX1 13 "DocumentSpanner$Formula" "follow" "[J") (List.mem_of_getElem? (i := 5) rfl)
  have w_6 := hts (.fieldLink RX1 17 "DocumentSpanner$Formula" "markers" "[J") (List.mem_of_getElem? (i := 6) rfl)
  have w_7 := hts (.fieldLink RX1 20 "DocumentSpanner$Part" "mentioned" "I") (List.mem_of_getElem? (i := 7) rfl)
  have w_8 := hts (.fieldLink RX1 26 "DocumentSpanner$Formula" "mentioned" "I") (List.mem_of_getElem? (i := 8) rfl)
  have w_9 := hts (.fieldLink RX1 27 "DocumentSpanner$Formula" "kind" "I") (List.mem_of_getElem? (i := 9) rfl)
  have w_10 := hts (.fieldLink RX1 30 "DocumentSpanner$Formula" "accept" "J") (List.mem_of_getElem? (i := 10) rfl)
  have w_11 := hts (.fieldLink RX1 34 "DocumentSpanner$Part" "nullable" "Z") (List.mem_of_getElem? (i := 11) rfl)
  have w_12 := hts (.fieldLink RX1 38 "DocumentSpanner$Part" "first" "J") (List.mem_of_getElem? (i := 12) rfl)
  have w_13 := hts (.fieldLink RX1 41 "DocumentSpanner$Formula" "first" "J") (List.mem_of_getElem? (i := 13) rfl)
  have w_14 := hts (.fieldLink RX1 42 "DocumentSpanner$Formula" "allMarkers" "J") (List.mem_of_getElem? (i := 14) rfl)
  subst hsz
  have hD := hD0.self (sz := s.heap.size)
  generalize hAe : va_A [(fm, .inr (2, [.null, .null, .long 0, .long 0, .null, .long 0, .int 0, .int 0])), (tx, .inl (cI, 0, .inl (ft))), (pt, .inr (5, [.int 1, .long 0, .long 0, .int 0])), (mk, .inl (cJ, 6, .inr (.inl (fun _ => 0))))] s.heap.size = A at hD hE ⊢
  have hA : ∀ q : Nat, s.heap.size ≤ q → A q := fun q h => by rw [← hAe]; exact Or.inr h
  have hS : va_S A s.heap s.heap [] := va_S.rf
  have hP : va_P D vwCl [(fm, .inr (2, [.null, .null, .long 0, .long 0, .null, .long 0, .int 0, .int 0])), (tx, .inl (cI, 0, .inl (ft))), (pt, .inr (5, [.int 1, .long 0, .long 0, .int 0])), (mk, .inl (cJ, 6, .inr (.inl (fun _ => 0))))] s.heap := hP
  have hl := lv_entry ([.ref fm, .ref tx, .ref pt, .ref fo, .ref mk, .int 2]) (n := 9) (Nat.le_of_ble_eq_true rfl)
  rw [lg_entry_eq]
  generalize (lg_sl ([.ref fm, .ref tx, .ref pt, .ref fo, .ref mk, .int 2]) ++ List.replicate (9 - (lg_sl ([.ref fm, .ref tx, .ref pt, .ref fo, .ref mk, .int 2])).length) Slot.unset).toArray = ls at hl ⊢
  have hl : lv_has ls 9 [(0, .ref fm), (1, .ref tx), (2, .ref pt), (3, .ref fo), (4, .ref mk), (5, .int 2)] := hl
  refine lv_aload_n hx hb dX1_init_0 rfl (lv_at hl 0 rfl) ?_
  refine W.objInit hx hb hown w_1 w_2 w_3 rfl (by rw [hml]; exact hl.1) rfl dX1_init_1 (Nat.le_of_ble_eq_true rfl) (Nat.le_of_ble_eq_true rfl) ?_
  refine W.eq (g2 := F0 m 4 ls []) rfl ?_
  refine lv_aload_n hx hb dX1_init_4 rfl (lv_at hl 0 rfl) ?_
  refine lv_aload_n hx hb dX1_init_5 rfl (lv_at hl 1 rfl) ?_
  refine va_putF (D := D) (ci := 2) (v := .ref tx) (ty := (.array .int)) (C := RX1) (T := TX1) (N := 8) hx hb hts i_X1 tyX1 tyX1_ok nmX1 hown hK hP hD hS 0 rfl rfl 0 (by decide) w_4 (fun _ h9 => h9) rfl hin rfl (by decide +kernel) rfl rfl (Nat.le_of_ble_eq_true rfl) dX1_init_6 (fun H_1 locs hP hD hS => ?_)
  have hP : va_P D vwCl [(fm, .inr (2, [.ref tx, .null, .long 0, .long 0, .null, .long 0, .int 0, .int 0])), (tx, .inl (cI, 0, .inl (ft))), (pt, .inr (5, [.int 1, .long 0, .long 0, .int 0])), (mk, .inl (cJ, 6, .inr (.inl (fun _ => 0))))] H_1 := hP
  have hD : va_D A [(fm, .inr (2, [.ref tx, .null, .long 0, .long 0, .null, .long 0, .int 0, .int 0])), (tx, .inl (cI, 0, .inl (ft))), (pt, .inr (5, [.int 1, .long 0, .long 0, .int 0])), (mk, .inl (cJ, 6, .inr (.inl (fun _ => 0))))] := hD
  refine lv_aload_n hx hb dX1_init_9 rfl (lv_at hl 0 rfl) ?_
  refine lv_aload_n hx hb dX1_init_10 rfl (lv_at hl 3 rfl) ?_
  refine va_putF (D := D) (ci := 2) (v := .ref fo) (ty := (.array .long)) (C := RX1) (T := TX1) (N := 8) hx hb hts i_X1 tyX1 tyX1_ok nmX1 hown hK hP hD hS 0 rfl rfl 1 (by decide) w_5 (fun _ h9 => h9) rfl hin rfl (by decide +kernel) rfl rfl (Nat.le_of_ble_eq_true rfl) dX1_init_11 (fun H_2 locs hP hD hS => ?_)
  have hP : va_P D vwCl [(fm, .inr (2, [.ref tx, .ref fo, .long 0, .long 0, .null, .long 0, .int 0, .int 0])), (tx, .inl (cI, 0, .inl (ft))), (pt, .inr (5, [.int 1, .long 0, .long 0, .int 0])), (mk, .inl (cJ, 6, .inr (.inl (fun _ => 0))))] H_2 := hP
  have hD : va_D A [(fm, .inr (2, [.ref tx, .ref fo, .long 0, .long 0, .null, .long 0, .int 0, .int 0])), (tx, .inl (cI, 0, .inl (ft))), (pt, .inr (5, [.int 1, .long 0, .long 0, .int 0])), (mk, .inl (cJ, 6, .inr (.inl (fun _ => 0))))] := hD
  refine lv_aload_n hx hb dX1_init_14 rfl (lv_at hl 0 rfl) ?_
  refine lv_aload hx hb dX1_init_15 (lv_at hl 4 rfl) ?_
  refine va_putF (D := D) (ci := 2) (v := .ref mk) (ty := (.array .long)) (C := RX1) (T := TX1) (N := 8) hx hb hts i_X1 tyX1 tyX1_ok nmX1 hown hK hP hD hS 0 rfl rfl 4 (by decide) w_6 (fun _ h9 => h9) rfl hin rfl (by decide +kernel) rfl rfl (Nat.le_of_ble_eq_true rfl) dX1_init_17 (fun H_3 locs hP hD hS => ?_)
  have hP : va_P D vwCl [(fm, .inr (2, [.ref tx, .ref fo, .long 0, .long 0, .ref mk, .long 0, .int 0, .int 0])), (tx, .inl (cI, 0, .inl (ft))), (pt, .inr (5, [.int 1, .long 0, .long 0, .int 0])), (mk, .inl (cJ, 6, .inr (.inl (fun _ => 0))))] H_3 := hP
  have hD : va_D A [(fm, .inr (2, [.ref tx, .ref fo, .long 0, .long 0, .ref mk, .long 0, .int 0, .int 0])), (tx, .inl (cI, 0, .inl (ft))), (pt, .inr (5, [.int 1, .long 0, .long 0, .int 0])), (mk, .inl (cJ, 6, .inr (.inl (fun _ => 0))))] := hD
  refine lv_aload_n hx hb dX1_init_20 rfl (lv_at hl 0 rfl) ?_
  refine lv_aload_n hx hb dX1_init_21 rfl (lv_at hl 2 rfl) ?_
  refine va_get (D := D) (ci := 5) (v := .int 0) (C := RX5) (T := TX5) (N := 4) hx hb hts i_X5 hown hK hP 2 rfl rfl 3 (by decide) w_7 (fun _ h9 => h9) rfl dX1_init_22 ?_
  refine va_putF (D := D) (ci := 2) (v := .int 0) (ty := .int) (C := RX1) (T := TX1) (N := 8) hx hb hts i_X1 tyX1 tyX1_ok nmX1 hown hK hP hD hS 0 rfl rfl 6 (by decide) w_8 (fun _ h9 => h9) rfl hin rfl (by decide +kernel) rfl rfl (Nat.le_of_ble_eq_true rfl) dX1_init_25 (fun H_4 locs hP hD hS => ?_)
  have hP : va_P D vwCl [(fm, .inr (2, [.ref tx, .ref fo, .long 0, .long 0, .ref mk, .long 0, .int 0, .int 0])), (tx, .inl (cI, 0, .inl (ft))), (pt, .inr (5, [.int 1, .long 0, .long 0, .int 0])), (mk, .inl (cJ, 6, .inr (.inl (fun _ => 0))))] H_4 := hP
  have hD : va_D A [(fm, .inr (2, [.ref tx, .ref fo, .long 0, .long 0, .ref mk, .long 0, .int 0, .int 0])), (tx, .inl (cI, 0, .inl (ft))), (pt, .inr (5, [.int 1, .long 0, .long 0, .int 0])), (mk, .inl (cJ, 6, .inr (.inl (fun _ => 0))))] := hD
  refine lv_aload_n hx hb dX1_init_28 rfl (lv_at hl 0 rfl) ?_
  refine lv_iload hx hb dX1_init_29 (lv_at hl 5 rfl) ?_
  refine va_putF (D := D) (ci := 2) (v := .int 2) (ty := .int) (C := RX1) (T := TX1) (N := 8) hx hb hts i_X1 tyX1 tyX1_ok nmX1 hown hK hP hD hS 0 rfl rfl 7 (by decide) w_9 (fun _ h9 => h9) rfl hin rfl (by decide +kernel) rfl rfl (Nat.le_of_ble_eq_true rfl) dX1_init_31 (fun H_5 locs hP hD hS => ?_)
  have hP : va_P D vwCl [(fm, .inr (2, [.ref tx, .ref fo, .long 0, .long 0, .ref mk, .long 0, .int 0, .int 2])), (tx, .inl (cI, 0, .inl (ft))), (pt, .inr (5, [.int 1, .long 0, .long 0, .int 0])), (mk, .inl (cJ, 6, .inr (.inl (fun _ => 0))))] H_5 := hP
  have hD : va_D A [(fm, .inr (2, [.ref tx, .ref fo, .long 0, .long 0, .ref mk, .long 0, .int 0, .int 2])), (tx, .inl (cI, 0, .inl (ft))), (pt, .inr (5, [.int 1, .long 0, .long 0, .int 0])), (mk, .inl (cJ, 6, .inr (.inl (fun _ => 0))))] := hD
  refine lv_aload_n hx hb dX1_init_34 rfl (lv_at hl 0 rfl) ?_
  refine lv_lconst (v := 1) hx hb dX1_init_35 (by decide) ?_
  refine lv_aload_n hx hb dX1_init_36 rfl (lv_at hl 1 rfl) ?_
  refine va_alen (v := 0) hx hb hK hP 1 0 rfl rfl rfl dX1_init_37 ?_
  refine lv_lshl (v := 1) hx hb dX1_init_38 (by decide) ?_
  refine va_putF (D := D) (ci := 2) (v := .long 1) (ty := .long) (C := RX1) (T := TX1) (N := 8) hx hb hts i_X1 tyX1 tyX1_ok nmX1 hown hK hP hD hS 0 rfl rfl 3 (by decide) w_10 (fun _ h9 => h9) rfl hin rfl (by decide +kernel) rfl rfl (Nat.le_of_ble_eq_true rfl) dX1_init_39 (fun H_6 locs hP hD hS => ?_)
  have hP : va_P D vwCl [(fm, .inr (2, [.ref tx, .ref fo, .long 0, .long 1, .ref mk, .long 0, .int 0, .int 2])), (tx, .inl (cI, 0, .inl (ft))), (pt, .inr (5, [.int 1, .long 0, .long 0, .int 0])), (mk, .inl (cJ, 6, .inr (.inl (fun _ => 0))))] H_6 := hP
  have hD : va_D A [(fm, .inr (2, [.ref tx, .ref fo, .long 0, .long 1, .ref mk, .long 0, .int 0, .int 2])), (tx, .inl (cI, 0, .inl (ft))), (pt, .inr (5, [.int 1, .long 0, .long 0, .int 0])), (mk, .inl (cJ, 6, .inr (.inl (fun _ => 0))))] := hD
  refine lv_aload_n hx hb dX1_init_42 rfl (lv_at hl 0 rfl) ?_
  refine lv_aload_n hx hb dX1_init_43 rfl (lv_at hl 2 rfl) ?_
  refine va_get (D := D) (ci := 5) (v := .int 1) (C := RX5) (T := TX5) (N := 4) hx hb hts i_X5 hown hK hP 2 rfl rfl 0 (by decide) w_11 (fun _ h9 => h9) rfl dX1_init_44 ?_
  refine lv_if_eq (tgt := 62) hx hb dX1_init_47 (by decide) (fun h9 => absurd h9 (by decide)) (fun _ => ?_)
  refine lv_aload_n hx hb dX1_init_50 rfl (lv_at hl 2 rfl) ?_
  refine va_get (D := D) (ci := 5) (v := .long 0) (C := RX5) (T := TX5) (N := 4) hx hb hts i_X5 hown hK hP 2 rfl rfl 1 (by decide) w_12 (fun _ h9 => h9) rfl dX1_init_51 ?_
  refine lv_aload_n hx hb dX1_init_54 rfl (lv_at hl 0 rfl) ?_
  refine va_get (D := D) (ci := 2) (v := .long 1) (C := RX1) (T := TX1) (N := 8) hx hb hts i_X1 hown hK hP 0 rfl rfl 3 (by decide) w_10 (fun _ h9 => h9) rfl dX1_init_55 ?_
  refine lv_lor hx hb dX1_init_58 ?_
  refine W.eq (g2 := F0 m 59 ls [.long 1, .ref fm]) rfl ?_
  refine lv_goto (tgt := 66) hx hb dX1_init_59 (by decide) ?_
  refine va_putF (D := D) (ci := 2) (v := .long 1) (ty := .long) (C := RX1) (T := TX1) (N := 8) hx hb hts i_X1 tyX1 tyX1_ok nmX1 hown hK hP hD hS 0 rfl rfl 2 (by decide) w_13 (fun _ h9 => h9) rfl hin rfl (by decide +kernel) rfl rfl (Nat.le_of_ble_eq_true rfl) dX1_init_66 (fun H_7 locs hP hD hS => ?_)
  have hP : va_P D vwCl [(fm, .inr (2, [.ref tx, .ref fo, .long 1, .long 1, .ref mk, .long 0, .int 0, .int 2])), (tx, .inl (cI, 0, .inl (ft))), (pt, .inr (5, [.int 1, .long 0, .long 0, .int 0])), (mk, .inl (cJ, 6, .inr (.inl (fun _ => 0))))] H_7 := hP
  have hD : va_D A [(fm, .inr (2, [.ref tx, .ref fo, .long 1, .long 1, .ref mk, .long 0, .int 0, .int 2])), (tx, .inl (cI, 0, .inl (ft))), (pt, .inr (5, [.int 1, .long 0, .long 0, .int 0])), (mk, .inl (cJ, 6, .inr (.inl (fun _ => 0))))] := hD
  refine lv_lconst (v := 0) hx hb dX1_init_69 (by decide) ?_
  refine lv_lstore (lv' := [(6, .long 0), (0, .ref fm), (1, .ref tx), (2, .ref pt), (3, .ref fo), (4, .ref mk), (5, .int 2)]) hx hb dX1_init_70 hl (by decide) rfl (fun ls hl => ?_)
  refine lv_iconst (v := 0) hx hb dX1_init_72 (by decide) ?_
  refine lv_istore (lv' := [(8, .int 0), (6, .long 0), (0, .ref fm), (1, .ref tx), (2, .ref pt), (3, .ref fo), (4, .ref mk), (5, .int 2)]) hx hb dX1_init_73 hl (by decide) rfl (fun ls hl => ?_)
  refine lv_iload hx hb dX1_init_75 (lv_at hl 0 rfl) ?_
  refine lv_aload hx hb dX1_init_77 (lv_at hl 6 rfl) ?_
  refine va_alen (v := 6) hx hb hK hP 3 1 rfl rfl rfl dX1_init_79 ?_
  refine lv_icmp_ge (tgt := 99) hx hb dX1_init_80 (by decide) (fun h9 => absurd h9 (by decide)) (fun _ => ?_)
  refine lv_lload hx hb dX1_init_83 (lv_at hl 1 rfl) ?_
  refine lv_aload hx hb dX1_init_85 (lv_at hl 6 rfl) ?_
  refine lv_iload hx hb dX1_init_87 (lv_at hl 0 rfl) ?_
  refine va_lald hx hb hK hP 3 1 rfl rfl (i := 0) (vp_in_iff.mpr ⟨by decide, by decide⟩) dX1_init_89 ?_
  refine W.eq (g2 := F0 m 90 ls [.long 0, .long 0]) rfl ?_
  refine lv_lor hx hb dX1_init_90 ?_
  refine W.eq (g2 := F0 m 91 ls [.long 0]) rfl ?_
  refine lv_lstore (lv' := [(6, .long 0), (8, .int 0), (0, .ref fm), (1, .ref tx), (2, .ref pt), (3, .ref fo), (4, .ref mk), (5, .int 2)]) hx hb dX1_init_91 hl (by decide) rfl (fun ls hl => ?_)
  refine lv_iinc (v := 1) (lv' := [(8, .int 1), (6, .long 0), (0, .ref fm), (1, .ref tx), (2, .ref pt), (3, .ref fo), (4, .ref mk), (5, .int 2)]) hx hb dX1_init_93 hl (k := 1) rfl (by decide) (by decide) rfl (fun ls hl => ?_)
  refine lv_goto (tgt := 75) hx hb dX1_init_96 (by decide) ?_
  refine lv_iload hx hb dX1_init_75 (lv_at hl 0 rfl) ?_
  refine lv_aload hx hb dX1_init_77 (lv_at hl 6 rfl) ?_
  refine va_alen (v := 6) hx hb hK hP 3 1 rfl rfl rfl dX1_init_79 ?_
  refine lv_icmp_ge (tgt := 99) hx hb dX1_init_80 (by decide) (fun h9 => absurd h9 (by decide)) (fun _ => ?_)
  refine lv_lload hx hb dX1_init_83 (lv_at hl 1 rfl) ?_
  refine lv_aload hx hb dX1_init_85 (lv_at hl 6 rfl) ?_
  refine lv_iload hx hb dX1_init_87 (lv_at hl 0 rfl) ?_
  refine va_lald hx hb hK hP 3 1 rfl rfl (i := 1) (vp_in_iff.mpr ⟨by decide, by decide⟩) dX1_init_89 ?_
  refine W.eq (g2 := F0 m 90 ls [.long 0, .long 0]) rfl ?_
  refine lv_lor hx hb dX1_init_90 ?_
  refine W.eq (g2 := F0 m 91 ls [.long 0]) rfl ?_
  refine lv_lstore (lv' := [(6, .long 0), (8, .int 1), (0, .ref fm), (1, .ref tx), (2, .ref pt), (3, .ref fo), (4, .ref mk), (5, .int 2)]) hx hb dX1_init_91 hl (by decide) rfl (fun ls hl => ?_)
  refine lv_iinc (v := 2) (lv' := [(8, .int 2), (6, .long 0), (0, .ref fm), (1, .ref tx), (2, .ref pt), (3, .ref fo), (4, .ref mk), (5, .int 2)]) hx hb dX1_init_93 hl (k := 1) rfl (by decide) (by decide) rfl (fun ls hl => ?_)
  refine lv_goto (tgt := 75) hx hb dX1_init_96 (by decide) ?_
  refine lv_iload hx hb dX1_init_75 (lv_at hl 0 rfl) ?_
  refine lv_aload hx hb dX1_init_77 (lv_at hl 6 rfl) ?_
  refine va_alen (v := 6) hx hb hK hP 3 1 rfl rfl rfl dX1_init_79 ?_
  refine lv_icmp_ge (tgt := 99) hx hb dX1_init_80 (by decide) (fun h9 => absurd h9 (by decide)) (fun _ => ?_)
  refine lv_lload hx hb dX1_init_83 (lv_at hl 1 rfl) ?_
  refine lv_aload hx hb dX1_init_85 (lv_at hl 6 rfl) ?_
  refine lv_iload hx hb dX1_init_87 (lv_at hl 0 rfl) ?_
  refine va_lald hx hb hK hP 3 1 rfl rfl (i := 2) (vp_in_iff.mpr ⟨by decide, by decide⟩) dX1_init_89 ?_
  refine W.eq (g2 := F0 m 90 ls [.long 0, .long 0]) rfl ?_
  refine lv_lor hx hb dX1_init_90 ?_
  refine W.eq (g2 := F0 m 91 ls [.long 0]) rfl ?_
  refine lv_lstore (lv' := [(6, .long 0), (8, .int 2), (0, .ref fm), (1, .ref tx), (2, .ref pt), (3, .ref fo), (4, .ref mk), (5, .int 2)]) hx hb dX1_init_91 hl (by decide) rfl (fun ls hl => ?_)
  refine lv_iinc (v := 3) (lv' := [(8, .int 3), (6, .long 0), (0, .ref fm), (1, .ref tx), (2, .ref pt), (3, .ref fo), (4, .ref mk), (5, .int 2)]) hx hb dX1_init_93 hl (k := 1) rfl (by decide) (by decide) rfl (fun ls hl => ?_)
  refine lv_goto (tgt := 75) hx hb dX1_init_96 (by decide) ?_
  refine lv_iload hx hb dX1_init_75 (lv_at hl 0 rfl) ?_
  refine lv_aload hx hb dX1_init_77 (lv_at hl 6 rfl) ?_
  refine va_alen (v := 6) hx hb hK hP 3 1 rfl rfl rfl dX1_init_79 ?_
  refine lv_icmp_ge (tgt := 99) hx hb dX1_init_80 (by decide) (fun h9 => absurd h9 (by decide)) (fun _ => ?_)
  refine lv_lload hx hb dX1_init_83 (lv_at hl 1 rfl) ?_
  refine lv_aload hx hb dX1_init_85 (lv_at hl 6 rfl) ?_
  refine lv_iload hx hb dX1_init_87 (lv_at hl 0 rfl) ?_
  refine va_lald hx hb hK hP 3 1 rfl rfl (i := 3) (vp_in_iff.mpr ⟨by decide, by decide⟩) dX1_init_89 ?_
  refine W.eq (g2 := F0 m 90 ls [.long 0, .long 0]) rfl ?_
  refine lv_lor hx hb dX1_init_90 ?_
  refine W.eq (g2 := F0 m 91 ls [.long 0]) rfl ?_
  refine lv_lstore (lv' := [(6, .long 0), (8, .int 3), (0, .ref fm), (1, .ref tx), (2, .ref pt), (3, .ref fo), (4, .ref mk), (5, .int 2)]) hx hb dX1_init_91 hl (by decide) rfl (fun ls hl => ?_)
  refine lv_iinc (v := 4) (lv' := [(8, .int 4), (6, .long 0), (0, .ref fm), (1, .ref tx), (2, .ref pt), (3, .ref fo), (4, .ref mk), (5, .int 2)]) hx hb dX1_init_93 hl (k := 1) rfl (by decide) (by decide) rfl (fun ls hl => ?_)
  refine lv_goto (tgt := 75) hx hb dX1_init_96 (by decide) ?_
  refine lv_iload hx hb dX1_init_75 (lv_at hl 0 rfl) ?_
  refine lv_aload hx hb dX1_init_77 (lv_at hl 6 rfl) ?_
  refine va_alen (v := 6) hx hb hK hP 3 1 rfl rfl rfl dX1_init_79 ?_
  refine lv_icmp_ge (tgt := 99) hx hb dX1_init_80 (by decide) (fun h9 => absurd h9 (by decide)) (fun _ => ?_)
  refine lv_lload hx hb dX1_init_83 (lv_at hl 1 rfl) ?_
  refine lv_aload hx hb dX1_init_85 (lv_at hl 6 rfl) ?_
  refine lv_iload hx hb dX1_init_87 (lv_at hl 0 rfl) ?_
  refine va_lald hx hb hK hP 3 1 rfl rfl (i := 4) (vp_in_iff.mpr ⟨by decide, by decide⟩) dX1_init_89 ?_
  refine W.eq (g2 := F0 m 90 ls [.long 0, .long 0]) rfl ?_
  refine lv_lor hx hb dX1_init_90 ?_
  refine W.eq (g2 := F0 m 91 ls [.long 0]) rfl ?_
  refine lv_lstore (lv' := [(6, .long 0), (8, .int 4), (0, .ref fm), (1, .ref tx), (2, .ref pt), (3, .ref fo), (4, .ref mk), (5, .int 2)]) hx hb dX1_init_91 hl (by decide) rfl (fun ls hl => ?_)
  refine lv_iinc (v := 5) (lv' := [(8, .int 5), (6, .long 0), (0, .ref fm), (1, .ref tx), (2, .ref pt), (3, .ref fo), (4, .ref mk), (5, .int 2)]) hx hb dX1_init_93 hl (k := 1) rfl (by decide) (by decide) rfl (fun ls hl => ?_)
  refine lv_goto (tgt := 75) hx hb dX1_init_96 (by decide) ?_
  refine lv_iload hx hb dX1_init_75 (lv_at hl 0 rfl) ?_
  refine lv_aload hx hb dX1_init_77 (lv_at hl 6 rfl) ?_
  refine va_alen (v := 6) hx hb hK hP 3 1 rfl rfl rfl dX1_init_79 ?_
  refine lv_icmp_ge (tgt := 99) hx hb dX1_init_80 (by decide) (fun h9 => absurd h9 (by decide)) (fun _ => ?_)
  refine lv_lload hx hb dX1_init_83 (lv_at hl 1 rfl) ?_
  refine lv_aload hx hb dX1_init_85 (lv_at hl 6 rfl) ?_
  refine lv_iload hx hb dX1_init_87 (lv_at hl 0 rfl) ?_
  refine va_lald hx hb hK hP 3 1 rfl rfl (i := 5) (vp_in_iff.mpr ⟨by decide, by decide⟩) dX1_init_89 ?_
  refine W.eq (g2 := F0 m 90 ls [.long 0, .long 0]) rfl ?_
  refine lv_lor hx hb dX1_init_90 ?_
  refine W.eq (g2 := F0 m 91 ls [.long 0]) rfl ?_
  refine lv_lstore (lv' := [(6, .long 0), (8, .int 5), (0, .ref fm), (1, .ref tx), (2, .ref pt), (3, .ref fo), (4, .ref mk), (5, .int 2)]) hx hb dX1_init_91 hl (by decide) rfl (fun ls hl => ?_)
  refine lv_iinc (v := 6) (lv' := [(8, .int 6), (6, .long 0), (0, .ref fm), (1, .ref tx), (2, .ref pt), (3, .ref fo), (4, .ref mk), (5, .int 2)]) hx hb dX1_init_93 hl (k := 1) rfl (by decide) (by decide) rfl (fun ls hl => ?_)
  refine lv_goto (tgt := 75) hx hb dX1_init_96 (by decide) ?_
  refine lv_iload hx hb dX1_init_75 (lv_at hl 0 rfl) ?_
  refine lv_aload hx hb dX1_init_77 (lv_at hl 6 rfl) ?_
  refine va_alen (v := 6) hx hb hK hP 3 1 rfl rfl rfl dX1_init_79 ?_
  refine lv_icmp_ge (tgt := 99) hx hb dX1_init_80 (by decide) (fun _ => ?_) (fun h9 => absurd h9 (by decide))
  refine lv_aload_n hx hb dX1_init_99 rfl (lv_at hl 2 rfl) ?_
  refine lv_lload hx hb dX1_init_100 (lv_at hl 1 rfl) ?_
  refine va_putF (D := D) (ci := 2) (v := .long 0) (ty := .long) (C := RX1) (T := TX1) (N := 8) hx hb hts i_X1 tyX1 tyX1_ok nmX1 hown hK hP hD hS 0 rfl rfl 5 (by decide) w_14 (fun _ h9 => h9) rfl hin rfl (by decide +kernel) rfl rfl (Nat.le_of_ble_eq_true rfl) dX1_init_102 (fun H_8 locs hP hD hS => ?_)
  have hP : va_P D vwCl [(fm, .inr (2, [.ref tx, .ref fo, .long 1, .long 1, .ref mk, .long 0, .int 0, .int 2])), (tx, .inl (cI, 0, .inl (ft))), (pt, .inr (5, [.int 1, .long 0, .long 0, .int 0])), (mk, .inl (cJ, 6, .inr (.inl (fun _ => 0))))] H_8 := hP
  have hD : va_D A [(fm, .inr (2, [.ref tx, .ref fo, .long 1, .long 1, .ref mk, .long 0, .int 0, .int 2])), (tx, .inl (cI, 0, .inl (ft))), (pt, .inr (5, [.int 1, .long 0, .long 0, .int 0])), (mk, .inl (cJ, 6, .inr (.inl (fun _ => 0))))] := hD
  have hP9 := hP.sub (ws' := []) [] rfl
  have hD9 := hD.sub (ws' := []) [] (by decide) rfl
  refine W.widen (k := 0) (n := 0) (Nat.le_of_ble_eq_true rfl) (Nat.le_of_ble_eq_true rfl) ?_
  exact W.vret hx hb hr (fun t ht hW => ⟨⟨(), rfl, trivial, by rw [ht]; exact hP9, hD9⟩, hS.F ht⟩) hS.2.2 dX1_init_105
def wk_X2_read : List Cond := .code yX2_read cX2_read 3 (some (.object "DocumentSpanner$Formula")) :: (([.fieldLink RX2 52 "DocumentSpanner$Part" "last" "J", .fieldLink RX2 41 "DocumentSpanner$FormulaReader" "text" "[I", .fieldLink RX2 19 "DocumentSpanner$FormulaReader" "sequential" "Z", .fieldLink RX2 23 "DocumentSpanner$FormulaReader" "functional" "Z", .classLink RX2 62 RX1, .instantiable RX1 8, .initialized RX1, .fieldLink RX2 45 "DocumentSpanner$FormulaReader" "follow" "[J", .fieldLink RX2 9 "DocumentSpanner$FormulaReader" "markers" "[J", .methodLink RX2 64 yX1_init, .instanceMethod yX1_init, .methodLink RX2 48 yX2_readFormula, .instanceMethod yX2_readFormula, .selects RX2 yX2_readFormula yX2_readFormula, .initialized RX2, .code yX2_readFormula cX2_readFormula 5 (some (.object "DocumentSpanner$Part")), .methodLink RX2 71 yX2_readSequence, .instanceMethod yX2_readSequence, .selects RX2 yX2_readSequence yX2_readSequence, .code yX2_readSequence cX2_readSequence 5 (some (.object "DocumentSpanner$Part")), .methodLink RX2 67 yX5_ofNothing, .static yX5_ofNothing, .initialized RX5, .code yX5_ofNothing cX5_ofNothing 0 (some (.object "DocumentSpanner$Part")), .classLink RX5 8 RX5, .instantiable RX5 4, .methodLink RX5 24 yX5_init, .instanceMethod yX5_init, .code yX5_init cX5_init 7 none, .methodLink RX5 1 objectInit, .instanceMethod objectInit, .code objectInit ⟨#[0xb1]⟩ 1 none, .fieldLink RX5 7 "DocumentSpanner$Part" "nullable" "Z", .fieldLink RX5 13 "DocumentSpanner$Part" "first" "J", .fieldLink RX5 17 "DocumentSpanner$Part" "last" "J", .fieldLink RX5 20 "DocumentSpanner$Part" "mentioned" "I", .methodLink RX2 58 yX2_link, .instanceMethod yX2_link, .selects RX2 yX2_link yX2_link, .code yX2_link cX2_link 6 none, .code yX1_init cX1_init 9 none, .methodLink RX1 1 objectInit, .fieldLink RX1 7 "DocumentSpanner$Formula" "text" "[I", .fieldLink RX1 13 "DocumentSpanner$Formula" "follow" "[J", .fieldLink RX1 17 "DocumentSpanner$Formula" "markers" "[J", .fieldLink RX1 20 "DocumentSpanner$Part" "mentioned" "I", .fieldLink RX1 26 "DocumentSpanner$Formula" "mentioned" "I", .fieldLink RX1 27 "DocumentSpanner$Formula" "kind" "I", .fieldLink RX1 30 "DocumentSpanner$Formula" "accept" "J", .fieldLink RX1 34 "DocumentSpanner$Part" "nullable" "Z", .fieldLink RX1 38 "DocumentSpanner$Part" "first" "J", .fieldLink RX1 41 "DocumentSpanner$Formula" "first" "J", .fieldLink RX1 42 "DocumentSpanner$Formula" "allMarkers" "J"] : List Cond) ++ wsX10 ++ wsX20 ++ wsX50)
set_option maxRecDepth 20000 in
theorem ggk_X2_read_X2_readFormula : GoodIn wk_X2_read wk_X2_readFormula := goodIn_ca (goodIn_ca (goodIn_r _ [16, 2, 17, 18, 19, 15, 20, 21, 22, 23, 24, 25, 26, 27, 28, 29, 30, 31, 32, 33, 34, 35, 36] (by decide +kernel) (by decide +kernel)) (goodIn_sub (fun _ h => List.mem_cons_of_mem _ (List.mem_append_left _ (List.mem_append_right _ h))) (by decide +kernel))) (goodIn_sub (fun _ h => List.mem_cons_of_mem _ (List.mem_append_right _ h)) (by decide +kernel))
set_option maxRecDepth 20000 in
theorem gk_X2_read_X2_readFormula : GoodIn wk_X2_read (wsV RX2 48 RX2 yX2_readFormula wk_X2_readFormula) := goodIn_app (goodIn_r _ [12, 13, 14, 15] (by decide +kernel) (by decide +kernel)) ggk_X2_read_X2_readFormula
set_option maxRecDepth 20000 in
theorem ggk_X2_read_X2_link : GoodIn wk_X2_read wk_X2_link := goodIn_ca (goodIn_r _ [40, 8] (by decide +kernel) (by decide +kernel)) (goodIn_sub (fun _ h => List.mem_cons_of_mem _ (List.mem_append_left _ (List.mem_append_right _ h))) (by decide +kernel))
set_option maxRecDepth 20000 in
theorem gk_X2_read_X2_link : GoodIn wk_X2_read (wsV RX2 58 RX2 yX2_link wk_X2_link) := goodIn_app (goodIn_r _ [37, 38, 39, 15] (by decide +kernel) (by decide +kernel)) ggk_X2_read_X2_link
set_option maxRecDepth 20000 in
theorem ggk_X2_read_X1_init : GoodIn wk_X2_read wk_X1_init := goodIn_ca (goodIn_ca (goodIn_r _ [41, 42, 31, 32, 43, 44, 45, 46, 47, 48, 49, 50, 51, 52, 53] (by decide +kernel) (by decide +kernel)) (goodIn_sub (fun _ h => List.mem_cons_of_mem _ (List.mem_append_left _ (List.mem_append_left _ (List.mem_append_right _ h)))) (by decide +kernel))) (goodIn_sub (fun _ h => List.mem_cons_of_mem _ (List.mem_append_right _ h)) (by decide +kernel))
theorem gk_X2_read_X1_init : GoodIn wk_X2_read wk_X1_init := ggk_X2_read_X1_init
set_option maxHeartbeats 4000000 in
set_option maxRecDepth 100000 in
theorem k_X2_read (l : Launch) (htr : l.stackTraces = false) (D : va_G) (cI cJ cZ : ClassId) (rd : Nat) (tx : Nat) (fo : Nat) (mk : Nat) (ft : Nat → Int32) (sz : Nat) : Met l yX2_read wk_X2_read ({ frames := 5, cells := 2, slots := 12, locals := 105 }) (xPc D cI cJ cZ [.ref rd] [(rd, .inr (3, [.ref tx, .ref fo, .ref mk, .int 0, .int 1, .int 1])), (tx, .inl (cI, 0, .inl (ft))), (fo, .inl (cJ, 0, .inr (.inl (fun _ => 0)))), (mk, .inl (cJ, 6, .inr (.inl (fun _ => 0))))] sz) (va_Qr (fun (u : Unit) => True) (fun (u : Unit) (q_4 : Nat) (t : State) => va_P D vwCl ([] : va_W) t.heap ∧ va_D (va_A [(rd, .inr (3, [.ref tx, .ref fo, .ref mk, .int 0, .int 1, .int 1])), (tx, .inl (cI, 0, .inl (ft))), (fo, .inl (cJ, 0, .inr (.inl (fun _ => 0)))), (mk, .inl (cJ, 6, .inr (.inl (fun _ => 0))))] sz) ([] : va_W)) (va_A [(rd, .inr (3, [.ref tx, .ref fo, .ref mk, .int 0, .int 1, .int 1])), (tx, .inl (cI, 0, .inl (ft))), (fo, .inl (cJ, 0, .inr (.inl (fun _ => 0)))), (mk, .inl (cJ, 6, .inr (.inl (fun _ => 0))))] sz)) 2 12 (va_A [(rd, .inr (3, [.ref tx, .ref fo, .ref mk, .int 0, .int 1, .int 1])), (tx, .inl (cI, 0, .inl (ft))), (fo, .inl (cJ, 0, .inr (.inl (fun _ => 0)))), (mk, .inl (cJ, 6, .inr (.inl (fun _ => 0))))] sz) := by
  refine Met.ofW (cc := cX2_read) (maxL := 3) (ret := (some (.object "DocumentSpanner$Formula"))) (by decide) rfl ?_
  intro p e s m args below meth c s₁ B hml hv
  obtain ⟨rfl, hsz, hP, hK, hD0, hE, hV⟩ := hv
  have hx := B.exec
  have hb := B.bytes
  have hr := B.returns
  have hts := atoms_spec (ws := wk_X2_read) B.pre
  have hown : s.vm.findClass RX2 = some m.cls := findClass_of_methodNamed B.named
  have hlocks := B.notSynchronized
  have i_X1 : ∀ w ∈ wsX10, w ∈ wk_X2_read := fun _ h => List.mem_cons_of_mem _ (List.mem_append_left _ (List.mem_append_left _ (List.mem_append_right _ h)))
  have i_X2 : ∀ w ∈ wsX20, w ∈ wk_X2_read := fun _ h => List.mem_cons_of_mem _ (List.mem_append_left _ (List.mem_append_right _ h))
  have i_X5 : ∀ w ∈ wsX50, w ∈ wk_X2_read := fun _ h => List.mem_cons_of_mem _ (List.mem_append_right _ h)
  have w_1 := hts (.fieldLink RX2 52 "DocumentSpanner$Part" "last" "J") (List.mem_of_getElem? (i := 1) rfl)
  have w_2 := hts (.fieldLink RX2 41 "DocumentSpanner$FormulaReader" "text" "[I") (List.mem_of_getElem? (i := 2) rfl)
  have w_3 := hts (.fieldLink RX2 19 "DocumentSpanner$FormulaReader" "sequential" "Z") (List.mem_of_getElem? (i := 3) rfl)
  have w_4 := hts (.fieldLink RX2 23 "DocumentSpanner$FormulaReader" "functional" "Z") (List.mem_of_getElem? (i := 4) rfl)
  have w_5 := hts (.classLink RX2 62 RX1) (List.mem_of_getElem? (i := 5) rfl)
  have w_6 := hts (.instantiable RX1 8) (List.mem_of_getElem? (i := 6) rfl)
  have w_7 := hts (.initialized RX1) (List.mem_of_getElem? (i := 7) rfl)
  have w_8 := hts (.fieldLink RX2 45 "DocumentSpanner$FormulaReader" "follow" "[J") (List.mem_of_getElem? (i := 8) rfl)
  have w_9 := hts (.fieldLink RX2 9 "DocumentSpanner$FormulaReader" "markers" "[J") (List.mem_of_getElem? (i := 9) rfl)
  have w_10 := hts (.methodLink RX2 64 yX1_init) (List.mem_of_getElem? (i := 10) rfl)
  have w_11 := hts (.instanceMethod yX1_init) (List.mem_of_getElem? (i := 11) rfl)
  subst hsz
  have hD := hD0.self (sz := s.heap.size)
  generalize hAe : va_A [(rd, .inr (3, [.ref tx, .ref fo, .ref mk, .int 0, .int 1, .int 1])), (tx, .inl (cI, 0, .inl (ft))), (fo, .inl (cJ, 0, .inr (.inl (fun _ => 0)))), (mk, .inl (cJ, 6, .inr (.inl (fun _ => 0))))] s.heap.size = A at hD hE ⊢
  have hA : ∀ q : Nat, s.heap.size ≤ q → A q := fun q h => by rw [← hAe]; exact Or.inr h
  have hS : va_S A s.heap s.heap [] := va_S.rf
  have hP : va_P D vwCl [(rd, .inr (3, [.ref tx, .ref fo, .ref mk, .int 0, .int 1, .int 1])), (tx, .inl (cI, 0, .inl (ft))), (fo, .inl (cJ, 0, .inr (.inl (fun _ => 0)))), (mk, .inl (cJ, 6, .inr (.inl (fun _ => 0))))] s.heap := hP
  have hl := lv_entry ([.ref rd]) (n := 3) (Nat.le_of_ble_eq_true rfl)
  rw [lg_entry_eq]
  generalize (lg_sl ([.ref rd]) ++ List.replicate (3 - (lg_sl ([.ref rd])).length) Slot.unset).toArray = ls at hl ⊢
  have hl : lv_has ls 3 [(0, .ref rd)] := hl
  refine lv_aload_n hx hb dX2_read_0 rfl (lv_at hl 0 rfl) ?_
  refine lv_iconst (v := 0) hx hb dX2_read_1 (by decide) ?_
  have hPc := hP.sub (ws' := [(rd, .inr (3, [.ref tx, .ref fo, .ref mk, .int 0, .int 1, .int 1])), (tx, .inl (cI, 0, .inl (ft)))]) [0, 1] rfl
  have hDc := hD.sub (ws' := [(rd, .inr (3, [.ref tx, .ref fo, .ref mk, .int 0, .int 1, .int 1])), (tx, .inl (cI, 0, .inl (ft)))]) [0, 1] (by decide) rfl
  have hFc := va_free (wc := [(rd, .inr (3, [.ref tx, .ref fo, .ref mk, .int 0, .int 1, .int 1])), (tx, .inl (cI, 0, .inl (ft)))]) hD hS hA [0, 1] rfl
  refine va_callr (va_runV (As := [.int 0]) (rest := []) ⟨hx, hb, hml, hown, hts⟩ (k_X2_readFormula l htr D cI cJ cZ rd tx fo mk (ft) s.heap.size) (cwV 1 hts gk_X2_read_X2_readFormula rfl rfl rfl (by decide +kernel) ⟨Nat.le_of_ble_eq_true rfl, Nat.le_of_ble_eq_true rfl⟩) ⟨xPc_blind, va_recv hK hP (ci := 3) (q0 := 0) rfl rfl, xPc_pre hPc hK hDc hE hS hFc hV⟩ rfl rfl hl.1 rfl (lv_room (Nat.le_of_ble_eq_true rfl)) dX2_read_2 ⟨Nat.le_of_ble_eq_true rfl, Nat.le_of_ble_eq_true rfl⟩) hS (fun q _ h => hFc q h) hFc (fun u ra_2 t H_1 locs ht hvm hw hB hz1 hk1 hS => ?_)
  rcases hw with -
  obtain ⟨hP1, hD1⟩ := hB
  rw [ht] at hP1
  obtain ⟨hP, hD⟩ := va_join (wr := [(fo, .inl (cJ, 0, .inr (.inl (fun _ => 0)))), (mk, .inl (cJ, 6, .inr (.inl (fun _ => 0))))]) (w1 := [(ra_2, .inr (5, [.int 1, .long 0, .long 0, .int 0])), (rd, .inr (3, [.ref tx, .ref fo, .ref mk, .int 0, .int 1, .int 1])), (tx, .inl (cI, 0, .inl (((ft)))))]) hP hD [0, 1] [2, 3] rfl rfl (by decide) (by decide) hk1 hFc hP1 hD1
  have hP : va_P D vwCl [(fo, .inl (cJ, 0, .inr (.inl (fun _ => 0)))), (mk, .inl (cJ, 6, .inr (.inl (fun _ => 0)))), (ra_2, .inr (5, [.int 1, .long 0, .long 0, .int 0])), (rd, .inr (3, [.ref tx, .ref fo, .ref mk, .int 0, .int 1, .int 1])), (tx, .inl (cI, 0, .inl (((ft)))))] H_1 := hP
  have hD : va_D A [(fo, .inl (cJ, 0, .inr (.inl (fun _ => 0)))), (mk, .inl (cJ, 6, .inr (.inl (fun _ => 0)))), (ra_2, .inr (5, [.int 1, .long 0, .long 0, .int 0])), (rd, .inr (3, [.ref tx, .ref fo, .ref mk, .int 0, .int 1, .int 1])), (tx, .inl (cI, 0, .inl (((ft)))))] := hD
  refine W.widen (k := 1) (n := 4) (Nat.le_of_ble_eq_true rfl) (Nat.le_of_ble_eq_true rfl) ?_
  refine lv_astore_n (lv' := [(1, .ref ra_2), (0, .ref rd)]) hx hb dX2_read_5 rfl hl (by decide) rfl (fun ls hl => ?_)
  refine lv_aload_n hx hb dX2_read_6 rfl (lv_at hl 1 rfl) ?_
  refine lv_aload_n hx hb dX2_read_7 rfl (lv_at hl 0 rfl) ?_
  refine va_get (D := D) (ci := 5) (v := .long 0) (C := RX5) (T := TX5) (N := 4) hx hb hts i_X5 hown hK hP 2 rfl rfl 2 (by decide) w_1 (fun _ h9 => h9) rfl dX2_read_8 ?_
  refine lv_lconst (v := 1) hx hb dX2_read_11 (by decide) ?_
  refine lv_aload_n hx hb dX2_read_12 rfl (lv_at hl 1 rfl) ?_
  refine va_get (D := D) (ci := 3) (v := .ref tx) (C := RX2) (T := TX2) (N := 6) hx hb hts i_X2 hown hK hP 3 rfl rfl 0 (by decide) w_2 (fun _ h9 => h9) rfl dX2_read_13 ?_
  refine va_alen (v := 0) hx hb hK hP 4 0 rfl rfl rfl dX2_read_16 ?_
  refine lv_lshl (v := 1) hx hb dX2_read_17 (by decide) ?_
  have hPc := hP.sub (ws' := [(rd, .inr (3, [.ref tx, .ref fo, .ref mk, .int 0, .int 1, .int 1])), (fo, .inl (cJ, 0, .inr (.inl (fun _ => 0))))]) [3, 0] rfl
  have hDc := hD.sub (ws' := [(rd, .inr (3, [.ref tx, .ref fo, .ref mk, .int 0, .int 1, .int 1])), (fo, .inl (cJ, 0, .inr (.inl (fun _ => 0))))]) [3, 0] (by decide) rfl
  have hFc := va_free (wc := [(rd, .inr (3, [.ref tx, .ref fo, .ref mk, .int 0, .int 1, .int 1])), (fo, .inl (cJ, 0, .inr (.inl (fun _ => 0))))]) hD hS hA [3, 0] rfl
  refine va_callv (va_runV (As := [.long 0, .long 1]) (rest := []) ⟨hx, hb, hml, hown, hts⟩ (k_X2_link l htr D cI cJ cZ rd tx fo mk H_1.size) (cwV 2 hts gk_X2_read_X2_link rfl rfl rfl (by decide +kernel) ⟨Nat.le_of_ble_eq_true rfl, Nat.le_of_ble_eq_true rfl⟩) ⟨xPc_blind, va_recv hK hP (ci := 3) (q0 := 3) rfl rfl, xPc_pre hPc hK hDc hE hS hFc hV⟩ rfl rfl hl.1 rfl (lv_room (Nat.le_of_ble_eq_true rfl)) dX2_read_18 ⟨Nat.le_of_ble_eq_true rfl, Nat.le_of_ble_eq_true rfl⟩) hS (fun q _ h => hFc q h) hFc (fun u t H_3 locs ht hvm hw hB hz1 hk1 hS => ?_)
  rcases hw with -
  obtain ⟨hP1, hD1⟩ := hB
  rw [ht] at hP1
  obtain ⟨hP, hD⟩ := va_join (wr := [(mk, .inl (cJ, 6, .inr (.inl (fun _ => 0)))), (ra_2, .inr (5, [.int 1, .long 0, .long 0, .int 0])), (tx, .inl (cI, 0, .inl (((ft)))))]) (w1 := [(rd, .inr (3, [.ref tx, .ref fo, .ref mk, .int 0, .int 1, .int 1]))]) hP hD [3, 0] [1, 2, 4] rfl rfl (by decide) (by decide) hk1 hFc hP1 hD1
  have hP : va_P D vwCl [(mk, .inl (cJ, 6, .inr (.inl (fun _ => 0)))), (ra_2, .inr (5, [.int 1, .long 0, .long 0, .int 0])), (tx, .inl (cI, 0, .inl (((ft))))), (rd, .inr (3, [.ref tx, .ref fo, .ref mk, .int 0, .int 1, .int 1]))] H_3 := hP
  have hD : va_D A [(mk, .inl (cJ, 6, .inr (.inl (fun _ => 0)))), (ra_2, .inr (5, [.int 1, .long 0, .long 0, .int 0])), (tx, .inl (cI, 0, .inl (((ft))))), (rd, .inr (3, [.ref tx, .ref fo, .ref mk, .int 0, .int 1, .int 1]))] := hD
  refine W.widen (k := 1) (n := 4) (Nat.le_of_ble_eq_true rfl) (Nat.le_of_ble_eq_true rfl) ?_
  refine lv_iconst (v := 0) hx hb dX2_read_21 (by decide) ?_
  refine lv_istore_n (lv' := [(2, .int 0), (1, .ref ra_2), (0, .ref rd)]) hx hb dX2_read_22 rfl hl (by decide) rfl (fun ls hl => ?_)
  refine lv_aload_n hx hb dX2_read_23 rfl (lv_at hl 2 rfl) ?_
  refine va_get (D := D) (ci := 3) (v := .int 1) (C := RX2) (T := TX2) (N := 6) hx hb hts i_X2 hown hK hP 3 rfl rfl 4 (by decide) w_3 (fun _ h9 => h9) rfl dX2_read_24 ?_
  refine lv_if_eq (tgt := 43) hx hb dX2_read_27 (by decide) (fun h9 => absurd h9 (by decide)) (fun _ => ?_)
  refine lv_aload_n hx hb dX2_read_30 rfl (lv_at hl 2 rfl) ?_
  refine va_get (D := D) (ci := 3) (v := .int 1) (C := RX2) (T := TX2) (N := 6) hx hb hts i_X2 hown hK hP 3 rfl rfl 5 (by decide) w_4 (fun _ h9 => h9) rfl dX2_read_31 ?_
  refine lv_if_eq (tgt := 41) hx hb dX2_read_34 (by decide) (fun h9 => absurd h9 (by decide)) (fun _ => ?_)
  refine lv_iconst (v := 2) hx hb dX2_read_37 (by decide) ?_
  refine lv_goto (tgt := 42) hx hb dX2_read_38 (by decide) ?_
  refine lv_istore_n (lv' := [(2, .int 2), (1, .ref ra_2), (0, .ref rd)]) hx hb dX2_read_42 rfl hl (by decide) rfl (fun ls hl => ?_)
  refine va_new (ci := 2) (fs := [.null, .null, .long 0, .long 0, .null, .long 0, .int 0, .int 0]) (C := RX1) (T := TX1) (N := 8) hx hb hts i_X1 tyX1 tyX1_ok hown w_5 w_6 w_7 hK hP hD hS hA rfl (by decide) (Nat.le_of_ble_eq_true rfl) (Nat.le_of_ble_eq_true rfl) dX2_read_43 (fun q_4 H_5 hP hD hS => ?_)
  have hP : va_P D vwCl [(mk, .inl (cJ, 6, .inr (.inl (fun _ => 0)))), (ra_2, .inr (5, [.int 1, .long 0, .long 0, .int 0])), (tx, .inl (cI, 0, .inl (((ft))))), (rd, .inr (3, [.ref tx, .ref fo, .ref mk, .int 0, .int 1, .int 1])), (q_4, .inr (2, [.null, .null, .long 0, .long 0, .null, .long 0, .int 0, .int 0]))] H_5 := hP
  have hD : va_D A [(mk, .inl (cJ, 6, .inr (.inl (fun _ => 0)))), (ra_2, .inr (5, [.int 1, .long 0, .long 0, .int 0])), (tx, .inl (cI, 0, .inl (((ft))))), (rd, .inr (3, [.ref tx, .ref fo, .ref mk, .int 0, .int 1, .int 1])), (q_4, .inr (2, [.null, .null, .long 0, .long 0, .null, .long 0, .int 0, .int 0]))] := hD
  refine W.widen (k := 2) (n := 12) (Nat.le_of_ble_eq_true rfl) (Nat.le_of_ble_eq_true rfl) ?_
  refine lv_dup hx hb dX2_read_46 rfl ?_
  refine lv_aload_n hx hb dX2_read_47 rfl (lv_at hl 2 rfl) ?_
  refine va_get (D := D) (ci := 3) (v := .ref tx) (C := RX2) (T := TX2) (N := 6) hx hb hts i_X2 hown hK hP 3 rfl rfl 0 (by decide) w_2 (fun _ h9 => h9) rfl dX2_read_48 ?_
  refine lv_aload_n hx hb dX2_read_51 rfl (lv_at hl 1 rfl) ?_
  refine lv_aload_n hx hb dX2_read_52 rfl (lv_at hl 2 rfl) ?_
  refine va_get (D := D) (ci := 3) (v := .ref fo) (C := RX2) (T := TX2) (N := 6) hx hb hts i_X2 hown hK hP 3 rfl rfl 1 (by decide) w_8 (fun _ h9 => h9) rfl dX2_read_53 ?_
  refine lv_aload_n hx hb dX2_read_56 rfl (lv_at hl 2 rfl) ?_
  refine va_get (D := D) (ci := 3) (v := .ref mk) (C := RX2) (T := TX2) (N := 6) hx hb hts i_X2 hown hK hP 3 rfl rfl 2 (by decide) w_9 (fun _ h9 => h9) rfl dX2_read_57 ?_
  refine lv_iload_n hx hb dX2_read_60 rfl (lv_at hl 0 rfl) ?_
  have hPc := hP.sub (ws' := [(q_4, .inr (2, [.null, .null, .long 0, .long 0, .null, .long 0, .int 0, .int 0])), (tx, .inl (cI, 0, .inl (((ft))))), (ra_2, .inr (5, [.int 1, .long 0, .long 0, .int 0])), (mk, .inl (cJ, 6, .inr (.inl (fun _ => 0))))]) [4, 2, 1, 0] rfl
  have hDc := hD.sub (ws' := [(q_4, .inr (2, [.null, .null, .long 0, .long 0, .null, .long 0, .int 0, .int 0])), (tx, .inl (cI, 0, .inl (((ft))))), (ra_2, .inr (5, [.int 1, .long 0, .long 0, .int 0])), (mk, .inl (cJ, 6, .inr (.inl (fun _ => 0))))]) [4, 2, 1, 0] (by decide) rfl
  have hFc := va_free (wc := [(q_4, .inr (2, [.null, .null, .long 0, .long 0, .null, .long 0, .int 0, .int 0])), (tx, .inl (cI, 0, .inl (((ft))))), (ra_2, .inr (5, [.int 1, .long 0, .long 0, .int 0])), (mk, .inl (cJ, 6, .inr (.inl (fun _ => 0))))]) hD hS hA [4, 2, 1, 0] rfl
  refine va_callv (va_runI (As := [.ref tx, .ref ra_2, .ref fo, .ref mk, .int 2]) (rest := [.ref q_4]) ⟨hx, hb, hml, hown, hts⟩ (k_X1_init l htr D cI cJ cZ q_4 tx ra_2 fo mk ((((ft)))) H_5.size) (cwI 5 hts gk_X2_read_X1_init rfl rfl rfl w_7 w_10 w_11 rfl (by decide +kernel) ⟨Nat.le_of_ble_eq_true rfl, Nat.le_of_ble_eq_true rfl⟩) ⟨xPc_blind, xPc_pre hPc hK hDc hE hS hFc hV⟩ rfl rfl hl.1 rfl (lv_room (Nat.le_of_ble_eq_true rfl)) dX2_read_61 ⟨Nat.le_of_ble_eq_true rfl, Nat.le_of_ble_eq_true rfl⟩) hS (fun q _ h => hFc q h) hFc (fun u t H_6 locs ht hvm hw hB hz1 hk1 hS => ?_)
  rcases hw with -
  obtain ⟨hP1, hD1⟩ := hB
  rw [ht] at hP1
  obtain ⟨hP, hD⟩ := va_join (wr := [(rd, .inr (3, [.ref tx, .ref fo, .ref mk, .int 0, .int 1, .int 1]))]) (w1 := []) hP hD [4, 2, 1, 0] [3] rfl rfl (by decide) (by decide) hk1 hFc hP1 hD1
  have hP : va_P D vwCl [(rd, .inr (3, [.ref tx, .ref fo, .ref mk, .int 0, .int 1, .int 1]))] H_6 := hP
  have hD : va_D A [(rd, .inr (3, [.ref tx, .ref fo, .ref mk, .int 0, .int 1, .int 1]))] := hD
  refine W.widen (k := 2) (n := 12) (Nat.le_of_ble_eq_true rfl) (Nat.le_of_ble_eq_true rfl) ?_
  have hP9 := hP.sub (ws' := []) [] rfl
  have hD9 := hD.sub (ws' := []) [] (by decide) rfl
  refine W.widen (k := 2) (n := 12) (Nat.le_of_ble_eq_true rfl) (Nat.le_of_ble_eq_true rfl) ?_
  exact W.aret (v := .ref q_4) hx hb hr (Or.inl ⟨_, rfl⟩) (Or.inr ⟨_, rfl⟩) (fun t ht hW => ⟨⟨(), q_4, rfl, trivial, by rw [ht]; exact hP9, hD9⟩, hS.F ht⟩) hS.2.2 dX2_read_64
def wk_X10_parse : List Cond := .code yX10_parse cX10_parse 2 (some .int) :: (([.fieldLink RX10 27 "DocumentSpanner" "bufferLength" "I", .fieldLink RX10 23 "DocumentSpanner" "buffer" "[I", .fieldLink RX10 31 "DocumentSpanner" "faultPosition" "I", .fieldLink RX10 12 "DocumentSpanner" "state" "LDocumentSpanner$State;", .classLink RX10 112 RX2, .instantiable RX2 6, .initialized RX2, .methodLink RX10 114 yX2_init, .instanceMethod yX2_init, .fieldLink RX10 121 "DocumentSpanner$State" "formula" "LDocumentSpanner$Formula;", .methodLink RX10 104 yX9_firstFault, .static yX9_firstFault, .initialized RX9, .code yX9_firstFault cX9_firstFault 8 (some .int), .arrayClass .int, .methodLink RX9 19 yX9_isVariable, .static yX9_isVariable, .code yX9_isVariable cX9_isVariable 1 (some .boolean), .code yX2_init cX2_init 3 none, .methodLink RX2 3 objectInit, .instanceMethod objectInit, .code objectInit ⟨#[0xb1]⟩ 1 none, .arrayClass .long, .fieldLink RX2 9 "DocumentSpanner$FormulaReader" "markers" "[J", .fieldLink RX2 15 "DocumentSpanner$FormulaReader" "at" "I", .fieldLink RX2 19 "DocumentSpanner$FormulaReader" "sequential" "Z", .fieldLink RX2 23 "DocumentSpanner$FormulaReader" "functional" "Z", .methodLink RX2 26 Lib.Math.min.name, .static Lib.Math.min.name, .initialized "java/lang/Math", .code Lib.Math.min.name Lib.Math.min.code 2 (some .int), .methodLink RX2 32 Lib.Math.max.name, .static Lib.Math.max.name, .code Lib.Math.max.name Lib.Math.max.code 2 (some .int), .fieldLink RX2 41 "DocumentSpanner$FormulaReader" "text" "[I", .fieldLink RX2 45 "DocumentSpanner$FormulaReader" "follow" "[J", .methodLink RX2 35 yJ7_copyOf_59c91, .static yJ7_copyOf_59c91, .initialized RJ7, .code yJ7_copyOf_59c91 cJ7_copyOf_59c91 3 (some (.array .int)), .methodLink RJ7 304 Lib.Math.min.name, .methodLink RJ7 150 arraycopyName, .native arraycopyName, .static arraycopyName, .initialized "java/lang/System", .methodLink RX10 117 yX2_read, .instanceMethod yX2_read, .selects RX2 yX2_read yX2_read, .code yX2_read cX2_read 3 (some (.object "DocumentSpanner$Formula")), .fieldLink RX2 52 "DocumentSpanner$Part" "last" "J", .classLink RX2 62 RX1, .instantiable RX1 8, .initialized RX1, .methodLink RX2 64 yX1_init, .instanceMethod yX1_init, .methodLink RX2 48 yX2_readFormula, .instanceMethod yX2_readFormula, .selects RX2 yX2_readFormula yX2_readFormula, .code yX2_readFormula cX2_readFormula 5 (some (.object "DocumentSpanner$Part")), .methodLink RX2 71 yX2_readSequence, .instanceMethod yX2_readSequence, .selects RX2 yX2_readSequence yX2_readSequence, .code yX2_readSequence cX2_readSequence 5 (some (.object "DocumentSpanner$Part")), .methodLink RX2 67 yX5_ofNothing, .static yX5_ofNothing, .initialized RX5, .code yX5_ofNothing cX5_ofNothing 0 (some (.object "DocumentSpanner$Part")), .classLink RX5 8 RX5, .instantiable RX5 4, .methodLink RX5 24 yX5_init, .instanceMethod yX5_init, .code yX5_init cX5_init 7 none, .methodLink RX5 1 objectInit, .fieldLink RX5 7 "DocumentSpanner$Part" "nullable" "Z", .fieldLink RX5 13 "DocumentSpanner$Part" "first" "J", .fieldLink RX5 17 "DocumentSpanner$Part" "last" "J", .fieldLink RX5 20 "DocumentSpanner$Part" "mentioned" "I", .methodLink RX2 58 yX2_link, .instanceMethod yX2_link, .selects RX2 yX2_link yX2_link, .code yX2_link cX2_link 6 none, .code yX1_init cX1_init 9 none, .methodLink RX1 1 objectInit, .fieldLink RX1 7 "DocumentSpanner$Formula" "text" "[I", .fieldLink RX1 13 "DocumentSpanner$Formula" "follow" "[J", .fieldLink RX1 17 "DocumentSpanner$Formula" "markers" "[J", .fieldLink RX1 20 "DocumentSpanner$Part" "mentioned" "I", .fieldLink RX1 26 "DocumentSpanner$Formula" "mentioned" "I", .fieldLink RX1 27 "DocumentSpanner$Formula" "kind" "I", .fieldLink RX1 30 "DocumentSpanner$Formula" "accept" "J", .fieldLink RX1 34 "DocumentSpanner$Part" "nullable" "Z", .fieldLink RX1 38 "DocumentSpanner$Part" "first" "J", .fieldLink RX1 41 "DocumentSpanner$Formula" "first" "J", .fieldLink RX1 42 "DocumentSpanner$Formula" "allMarkers" "J"] : List Cond) ++ wsX10 ++ wsX100 ++ wsX20 ++ wsX50 ++ wsX80)
set_option maxRecDepth 20000 in
theorem ggk_X10_parse_X9_firstFault : GoodIn wk_X10_parse wk_X9_firstFault := goodIn_r _ [14, 15, 16, 17, 13, 18] (by decide +kernel) (by decide +kernel)
set_option maxRecDepth 20000 in
theorem gk_X10_parse_X9_firstFault : GoodIn wk_X10_parse (va_wsS RX10 104 yX9_firstFault wk_X9_firstFault) := goodIn_app (goodIn_r _ [11, 12, 13] (by decide +kernel) (by decide +kernel)) ggk_X10_parse_X9_firstFault
set_option maxRecDepth 20000 in
theorem ggk_X10_parse_X2_init : GoodIn wk_X10_parse wk_X2_init := goodIn_ca (goodIn_r _ [19, 20, 21, 22, 23, 24, 25, 26, 27, 28, 29, 30, 31, 32, 33, 34, 35, 36, 37, 38, 39, 40, 15, 41, 42, 43, 44, 45] (by decide +kernel) (by decide +kernel)) (goodIn_sub (fun _ h => List.mem_cons_of_mem _ (List.mem_append_left _ (List.mem_append_left _ (List.mem_append_right _ h)))) (by decide +kernel))
theorem gk_X10_parse_X2_init : GoodIn wk_X10_parse wk_X2_init := ggk_X10_parse_X2_init
set_option maxRecDepth 20000 in
theorem ggk_X10_parse_X2_read : GoodIn wk_X10_parse wk_X2_read := goodIn_ca (goodIn_ca (goodIn_ca (goodIn_r _ [49, 50, 35, 26, 27, 51, 52, 53, 36, 24, 54, 55, 56, 57, 58, 7, 59, 60, 61, 62, 63, 64, 65, 66, 67, 68, 69, 70, 71, 72, 73, 21, 22, 74, 75, 76, 77, 78, 79, 80, 81, 82, 83, 84, 85, 86, 87, 88, 89, 90, 91, 92, 93, 94] (by decide +kernel) (by decide +kernel)) (goodIn_sub (fun _ h => List.mem_cons_of_mem _ (List.mem_append_left _ (List.mem_append_left _ (List.mem_append_left _ (List.mem_append_left _ (List.mem_append_right _ h)))))) (by decide +kernel))) (goodIn_sub (fun _ h => List.mem_cons_of_mem _ (List.mem_append_left _ (List.mem_append_left _ (List.mem_append_right _ h)))) (by decide +kernel))) (goodIn_sub (fun _ h => List.mem_cons_of_mem _ (List.mem_append_left _ (List.mem_append_right _ h))) (by decide +kernel))
set_option maxRecDepth 20000 in
theorem gk_X10_parse_X2_read : GoodIn wk_X10_parse (wsV RX10 117 RX2 yX2_read wk_X2_read) := goodIn_app (goodIn_r _ [46, 47, 48, 7] (by decide +kernel) (by decide +kernel)) ggk_X10_parse_X2_read
set_option maxHeartbeats 4000000 in
set_option maxRecDepth 100000 in
theorem k_X10_parse (l : Launch) (htr : l.stackTraces = false) (D : va_G) (cI cJ cZ : ClassId) (x : Nat) (st : Nat) (kp : Nat) (bf : Nat) (o1 : Nat) (o2 : Nat) (o3 : Nat) (o4 : Nat) (o5 : Nat) (o6 : Nat) (lt : Nat) (tb : Nat) (fl : Nat) (wt : Nat) (sz : Nat) : Met l yX10_parse wk_X10_parse ({ frames := 6, cells := 7, slots := 30, locals := 127 }) (xPc D cI cJ cZ [.ref x] [(x, .inr (9, [.ref st, .ref kp, .int 0, .ref bf, .int 0, .int (-1), .int (-1), .int 0, .ref o1, .ref o2, .ref o3, .ref o4, .ref o5, .ref o6])), (st, .inr (8, [.ref lt, .ref tb, .ref fl, .ref wt, .int 0, .null])), (bf, .inl (cI, 40, .inl (fun _ => 0)))] sz) (va_Qi (fun (r : Int32) (u : Unit) => (r = 0)) (fun (u : Unit) (t : State) => va_P D vwCl ([] : va_W) t.heap ∧ va_D (va_A [(x, .inr (9, [.ref st, .ref kp, .int 0, .ref bf, .int 0, .int (-1), .int (-1), .int 0, .ref o1, .ref o2, .ref o3, .ref o4, .ref o5, .ref o6])), (st, .inr (8, [.ref lt, .ref tb, .ref fl, .ref wt, .int 0, .null])), (bf, .inl (cI, 40, .inl (fun _ => 0)))] sz) ([] : va_W)) (va_A [(x, .inr (9, [.ref st, .ref kp, .int 0, .ref bf, .int 0, .int (-1), .int (-1), .int 0, .ref o1, .ref o2, .ref o3, .ref o4, .ref o5, .ref o6])), (st, .inr (8, [.ref lt, .ref tb, .ref fl, .ref wt, .int 0, .null])), (bf, .inl (cI, 40, .inl (fun _ => 0)))] sz)) 7 30 (va_A [(x, .inr (9, [.ref st, .ref kp, .int 0, .ref bf, .int 0, .int (-1), .int (-1), .int 0, .ref o1, .ref o2, .ref o3, .ref o4, .ref o5, .ref o6])), (st, .inr (8, [.ref lt, .ref tb, .ref fl, .ref wt, .int 0, .null])), (bf, .inl (cI, 40, .inl (fun _ => 0)))] sz) := by
  refine Met.ofW (cc := cX10_parse) (maxL := 2) (ret := (some .int)) (by decide) rfl ?_
  intro p e s m args below meth c s₁ B hml hv
  obtain ⟨rfl, hsz, hP, hK, hD0, hE, hV⟩ := hv
  have hx := B.exec
  have hb := B.bytes
  have hr := B.returns
  have hts := atoms_spec (ws := wk_X10_parse) B.pre
  have hown : s.vm.findClass RX10 = some m.cls := findClass_of_methodNamed B.named
  have hlocks := B.notSynchronized
  have i_X10 : ∀ w ∈ wsX100, w ∈ wk_X10_parse := fun _ h => List.mem_cons_of_mem _ (List.mem_append_left _ (List.mem_append_left _ (List.mem_append_left _ (List.mem_append_right _ h))))
  have i_X2 : ∀ w ∈ wsX20, w ∈ wk_X10_parse := fun _ h => List.mem_cons_of_mem _ (List.mem_append_left _ (List.mem_append_left _ (List.mem_append_right _ h)))
  have i_X8 : ∀ w ∈ wsX80, w ∈ wk_X10_parse := fun _ h => List.mem_cons_of_mem _ (List.mem_append_right _ h)
  have w_1 := hts (.fieldLink RX10 27 "DocumentSpanner" "bufferLength" "I") (List.mem_of_getElem? (i := 1) rfl)
  have w_2 := hts (.fieldLink RX10 23 "DocumentSpanner" "buffer" "[I") (List.mem_of_getElem? (i := 2) rfl)
  have w_3 := hts (.fieldLink RX10 31 "DocumentSpanner" "faultPosition" "I") (List.mem_of_getElem? (i := 3) rfl)
  have w_4 := hts (.fieldLink RX10 12 "DocumentSpanner" "state" "LDocumentSpanner$State;") (List.mem_of_getElem? (i := 4) rfl)
  have w_5 := hts (.classLink RX10 112 RX2) (List.mem_of_getElem? (i := 5) rfl)
  have w_6 := hts (.instantiable RX2 6) (List.mem_of_getElem? (i := 6) rfl)
  have w_7 := hts (.initialized RX2) (List.mem_of_getElem? (i := 7) rfl)
  have w_8 := hts (.methodLink RX10 114 yX2_init) (List.mem_of_getElem? (i := 8) rfl)
  have w_9 := hts (.instanceMethod yX2_init) (List.mem_of_getElem? (i := 9) rfl)
  have w_10 := hts (.fieldLink RX10 121 "DocumentSpanner$State" "formula" "LDocumentSpanner$Formula;") (List.mem_of_getElem? (i := 10) rfl)
  subst hsz
  have hD := hD0.self (sz := s.heap.size)
  generalize hAe : va_A [(x, .inr (9, [.ref st, .ref kp, .int 0, .ref bf, .int 0, .int (-1), .int (-1), .int 0, .ref o1, .ref o2, .ref o3, .ref o4, .ref o5, .ref o6])), (st, .inr (8, [.ref lt, .ref tb, .ref fl, .ref wt, .int 0, .null])), (bf, .inl (cI, 40, .inl (fun _ => 0)))] s.heap.size = A at hD hE ⊢
  have hA : ∀ q : Nat, s.heap.size ≤ q → A q := fun q h => by rw [← hAe]; exact Or.inr h
  have hS : va_S A s.heap s.heap [] := va_S.rf
  have hP : va_P D vwCl [(x, .inr (9, [.ref st, .ref kp, .int 0, .ref bf, .int 0, .int (-1), .int (-1), .int 0, .ref o1, .ref o2, .ref o3, .ref o4, .ref o5, .ref o6])), (st, .inr (8, [.ref lt, .ref tb, .ref fl, .ref wt, .int 0, .null])), (bf, .inl (cI, 40, .inl (fun _ => 0)))] s.heap := hP
  have hl := lv_entry ([.ref x]) (n := 2) (Nat.le_of_ble_eq_true rfl)
  rw [lg_entry_eq]
  generalize (lg_sl ([.ref x]) ++ List.replicate (2 - (lg_sl ([.ref x])).length) Slot.unset).toArray = ls at hl ⊢
  have hl : lv_has ls 2 [(0, .ref x)] := hl
  refine lv_aload_n hx hb dX10_parse_0 rfl (lv_at hl 0 rfl) ?_
  refine va_get (D := D) (ci := 9) (v := .int 0) (C := RX10) (T := TX10) (N := 14) hx hb hts i_X10 hown hK hP 0 rfl rfl 4 (by decide) w_1 (fun _ h9 => h9) rfl dX10_parse_1 ?_
  refine lv_istore_n (lv' := [(1, .int 0), (0, .ref x)]) hx hb dX10_parse_4 rfl hl (by decide) rfl (fun ls hl => ?_)
  refine lv_aload_n hx hb dX10_parse_5 rfl (lv_at hl 1 rfl) ?_
  refine lv_iconst (v := 0) hx hb dX10_parse_6 (by decide) ?_
  refine va_put (D := D) (ci := 9) (v := .int 0) (ty := .int) (C := RX10) (T := TX10) (N := 14) hx hb hts i_X10 tyX10 tyX10_ok nmX10 hown hK hP hD hS 0 rfl rfl 4 (by decide) w_1 (fun _ h9 => h9) rfl (by decide +kernel) rfl rfl (Nat.le_of_ble_eq_true rfl) dX10_parse_7 (fun H_1 locs hP hD hS => ?_)
  have hP : va_P D vwCl [(x, .inr (9, [.ref st, .ref kp, .int 0, .ref bf, .int 0, .int (-1), .int (-1), .int 0, .ref o1, .ref o2, .ref o3, .ref o4, .ref o5, .ref o6])), (st, .inr (8, [.ref lt, .ref tb, .ref fl, .ref wt, .int 0, .null])), (bf, .inl (cI, 40, .inl (fun _ => 0)))] H_1 := hP
  have hD : va_D A [(x, .inr (9, [.ref st, .ref kp, .int 0, .ref bf, .int 0, .int (-1), .int (-1), .int 0, .ref o1, .ref o2, .ref o3, .ref o4, .ref o5, .ref o6])), (st, .inr (8, [.ref lt, .ref tb, .ref fl, .ref wt, .int 0, .null])), (bf, .inl (cI, 40, .inl (fun _ => 0)))] := hD
  refine lv_aload_n hx hb dX10_parse_10 rfl (lv_at hl 1 rfl) ?_
  refine lv_aload_n hx hb dX10_parse_11 rfl (lv_at hl 1 rfl) ?_
  refine va_get (D := D) (ci := 9) (v := .ref bf) (C := RX10) (T := TX10) (N := 14) hx hb hts i_X10 hown hK hP 0 rfl rfl 3 (by decide) w_2 (fun _ h9 => h9) rfl dX10_parse_12 ?_
  refine lv_iload_n hx hb dX10_parse_15 rfl (lv_at hl 0 rfl) ?_
  have hPc := hP.sub (ws' := [(bf, .inl (cI, 40, .inl (fun _ => 0)))]) [2] rfl
  have hDc := hD.sub (ws' := [(bf, .inl (cI, 40, .inl (fun _ => 0)))]) [2] (by decide) rfl
  have hFc := va_free (wc := [(bf, .inl (cI, 40, .inl (fun _ => 0)))]) hD hS hA [2] rfl
  refine va_calli (va_runS (As := [.ref bf, .int 0]) (rest := [.ref x]) ⟨hx, hb, hml, hown, hts⟩ (k_X9_firstFault l htr D cI cJ cZ bf H_1.size) (va_cwS 2 hts gk_X10_parse_X9_firstFault rfl rfl rfl (by decide +kernel) ⟨Nat.le_of_ble_eq_true rfl, Nat.le_of_ble_eq_true rfl⟩) ⟨xPc_blind, xPc_pre hPc hK hDc hE hS hFc hV⟩ rfl rfl hl.1 rfl (lv_room (Nat.le_of_ble_eq_true rfl)) dX10_parse_16 ⟨Nat.le_of_ble_eq_true rfl, Nat.le_of_ble_eq_true rfl⟩) hS (fun q _ h => hFc q h) hFc (fun r u t H_2 locs ht hvm hw hB hz1 hk1 hS => ?_)
  rcases hw with rfl
  obtain ⟨hP1, hD1⟩ := hB
  rw [ht] at hP1
  obtain ⟨hP, hD⟩ := va_join (wr := [(x, .inr (9, [.ref st, .ref kp, .int 0, .ref bf, .int 0, .int (-1), .int (-1), .int 0, .ref o1, .ref o2, .ref o3, .ref o4, .ref o5, .ref o6])), (st, .inr (8, [.ref lt, .ref tb, .ref fl, .ref wt, .int 0, .null]))]) (w1 := [(bf, .inl (cI, 40, .inl (fun _ => 0)))]) hP hD [2] [0, 1] rfl rfl (by decide) (by decide) hk1 hFc hP1 hD1
  have hP : va_P D vwCl [(x, .inr (9, [.ref st, .ref kp, .int 0, .ref bf, .int 0, .int (-1), .int (-1), .int 0, .ref o1, .ref o2, .ref o3, .ref o4, .ref o5, .ref o6])), (st, .inr (8, [.ref lt, .ref tb, .ref fl, .ref wt, .int 0, .null])), (bf, .inl (cI, 40, .inl (fun _ => 0)))] H_2 := hP
  have hD : va_D A [(x, .inr (9, [.ref st, .ref kp, .int 0, .ref bf, .int 0, .int (-1), .int (-1), .int 0, .ref o1, .ref o2, .ref o3, .ref o4, .ref o5, .ref o6])), (st, .inr (8, [.ref lt, .ref tb, .ref fl, .ref wt, .int 0, .null])), (bf, .inl (cI, 40, .inl (fun _ => 0)))] := hD
  refine W.widen (k := 1) (n := 6) (Nat.le_of_ble_eq_true rfl) (Nat.le_of_ble_eq_true rfl) ?_
  refine va_put (D := D) (ci := 9) (v := .int (-1)) (ty := .int) (C := RX10) (T := TX10) (N := 14) hx hb hts i_X10 tyX10 tyX10_ok nmX10 hown hK hP hD hS 0 rfl rfl 5 (by decide) w_3 (fun _ h9 => h9) rfl (by decide +kernel) rfl rfl (Nat.le_of_ble_eq_true rfl) dX10_parse_19 (fun H_3 locs hP hD hS => ?_)
  have hP : va_P D vwCl [(x, .inr (9, [.ref st, .ref kp, .int 0, .ref bf, .int 0, .int (-1), .int (-1), .int 0, .ref o1, .ref o2, .ref o3, .ref o4, .ref o5, .ref o6])), (st, .inr (8, [.ref lt, .ref tb, .ref fl, .ref wt, .int 0, .null])), (bf, .inl (cI, 40, .inl (fun _ => 0)))] H_3 := hP
  have hD : va_D A [(x, .inr (9, [.ref st, .ref kp, .int 0, .ref bf, .int 0, .int (-1), .int (-1), .int 0, .ref o1, .ref o2, .ref o3, .ref o4, .ref o5, .ref o6])), (st, .inr (8, [.ref lt, .ref tb, .ref fl, .ref wt, .int 0, .null])), (bf, .inl (cI, 40, .inl (fun _ => 0)))] := hD
  refine lv_aload_n hx hb dX10_parse_22 rfl (lv_at hl 1 rfl) ?_
  refine va_get (D := D) (ci := 9) (v := .int (-1)) (C := RX10) (T := TX10) (N := 14) hx hb hts i_X10 hown hK hP 0 rfl rfl 5 (by decide) w_3 (fun _ h9 => h9) rfl dX10_parse_23 ?_
  refine lv_iconst (v := (-1)) hx hb dX10_parse_26 (by decide) ?_
  refine lv_icmp_eq (tgt := 40) hx hb dX10_parse_27 (by decide) (fun _ => ?_) (fun h9 => absurd h9 (by decide))
  refine lv_aload_n hx hb dX10_parse_40 rfl (lv_at hl 1 rfl) ?_
  refine va_get (D := D) (ci := 9) (v := .ref st) (C := RX10) (T := TX10) (N := 14) hx hb hts i_X10 hown hK hP 0 rfl rfl 0 (by decide) w_4 (fun _ h9 => h9) rfl dX10_parse_41 ?_
  refine va_new (ci := 3) (fs := [.null, .null, .null, .int 0, .int 0, .int 0]) (C := RX2) (T := TX2) (N := 6) hx hb hts i_X2 tyX2 tyX2_ok hown w_5 w_6 w_7 hK hP hD hS hA rfl (by decide) (Nat.le_of_ble_eq_true rfl) (Nat.le_of_ble_eq_true rfl) dX10_parse_44 (fun q_4 H_5 hP hD hS => ?_)
  have hP : va_P D vwCl [(x, .inr (9, [.ref st, .ref kp, .int 0, .ref bf, .int 0, .int (-1), .int (-1), .int 0, .ref o1, .ref o2, .ref o3, .ref o4, .ref o5, .ref o6])), (st, .inr (8, [.ref lt, .ref tb, .ref fl, .ref wt, .int 0, .null])), (bf, .inl (cI, 40, .inl (fun _ => 0))), (q_4, .inr (3, [.null, .null, .null, .int 0, .int 0, .int 0]))] H_5 := hP
  have hD : va_D A [(x, .inr (9, [.ref st, .ref kp, .int 0, .ref bf, .int 0, .int (-1), .int (-1), .int 0, .ref o1, .ref o2, .ref o3, .ref o4, .ref o5, .ref o6])), (st, .inr (8, [.ref lt, .ref tb, .ref fl, .ref wt, .int 0, .null])), (bf, .inl (cI, 40, .inl (fun _ => 0))), (q_4, .inr (3, [.null, .null, .null, .int 0, .int 0, .int 0]))] := hD
  refine W.widen (k := 2) (n := 12) (Nat.le_of_ble_eq_true rfl) (Nat.le_of_ble_eq_true rfl) ?_
  refine lv_dup hx hb dX10_parse_47 rfl ?_
  refine lv_aload_n hx hb dX10_parse_48 rfl (lv_at hl 1 rfl) ?_
  refine va_get (D := D) (ci := 9) (v := .ref bf) (C := RX10) (T := TX10) (N := 14) hx hb hts i_X10 hown hK hP 0 rfl rfl 3 (by decide) w_2 (fun _ h9 => h9) rfl dX10_parse_49 ?_
  refine lv_iload_n hx hb dX10_parse_52 rfl (lv_at hl 0 rfl) ?_
  have hPc := hP.sub (ws' := [(q_4, .inr (3, [.null, .null, .null, .int 0, .int 0, .int 0])), (bf, .inl (cI, 40, .inl (fun _ => 0)))]) [3, 2] rfl
  have hDc := hD.sub (ws' := [(q_4, .inr (3, [.null, .null, .null, .int 0, .int 0, .int 0])), (bf, .inl (cI, 40, .inl (fun _ => 0)))]) [3, 2] (by decide) rfl
  have hFc := va_free (wc := [(q_4, .inr (3, [.null, .null, .null, .int 0, .int 0, .int 0])), (bf, .inl (cI, 40, .inl (fun _ => 0)))]) hD hS hA [3, 2] rfl
  refine va_callv (va_runI (As := [.ref bf, .int 0]) (rest := [.ref q_4, .ref st]) ⟨hx, hb, hml, hown, hts⟩ (k_X2_init l htr D cI cJ cZ q_4 bf H_5.size) (cwI 2 hts gk_X10_parse_X2_init rfl rfl rfl w_7 w_8 w_9 rfl (by decide +kernel) ⟨Nat.le_of_ble_eq_true rfl, Nat.le_of_ble_eq_true rfl⟩) ⟨xPc_blind, xPc_pre hPc hK hDc hE hS hFc hV⟩ rfl rfl hl.1 rfl (lv_room (Nat.le_of_ble_eq_true rfl)) dX10_parse_53 ⟨Nat.le_of_ble_eq_true rfl, Nat.le_of_ble_eq_true rfl⟩) hS (fun q _ h => hFc q h) hFc (fun u t H_6 locs ht hvm hw hB hz1 hk1 hS => ?_)
  obtain ⟨n_7, n_8, n_9⟩ := u
  rcases hw with -
  obtain ⟨hP1, hD1⟩ := hB
  rw [ht] at hP1
  obtain ⟨hP, hD⟩ := va_join (wr := [(x, .inr (9, [.ref st, .ref kp, .int 0, .ref bf, .int 0, .int (-1), .int (-1), .int 0, .ref o1, .ref o2, .ref o3, .ref o4, .ref o5, .ref o6])), (st, .inr (8, [.ref lt, .ref tb, .ref fl, .ref wt, .int 0, .null]))]) (w1 := [(q_4, .inr (3, [.ref n_7, .ref n_8, .ref n_9, .int 0, .int 1, .int 1])), (n_7, .inl (cI, 0, .inl (va_cpy (fun _ => 0) (fun _ => 0) (0 : Int32).toNatClampNeg (0 : Int32).toNatClampNeg (0 : Int32).toNatClampNeg))), (n_8, .inl (cJ, 0, .inr (.inl (fun _ => 0)))), (n_9, .inl (cJ, 6, .inr (.inl (fun _ => 0))))]) hP hD [3, 2] [0, 1] rfl rfl (by decide) (by decide) hk1 hFc hP1 hD1
  have hP : va_P D vwCl [(x, .inr (9, [.ref st, .ref kp, .int 0, .ref bf, .int 0, .int (-1), .int (-1), .int 0, .ref o1, .ref o2, .ref o3, .ref o4, .ref o5, .ref o6])), (st, .inr (8, [.ref lt, .ref tb, .ref fl, .ref wt, .int 0, .null])), (q_4, .inr (3, [.ref n_7, .ref n_8, .ref n_9, .int 0, .int 1, .int 1])), (n_7, .inl (cI, 0, .inl (va_cpy (fun _ => 0) (fun _ => 0) (0 : Int32).toNatClampNeg (0 : Int32).toNatClampNeg (0 : Int32).toNatClampNeg))), (n_8, .inl (cJ, 0, .inr (.inl (fun _ => 0)))), (n_9, .inl (cJ, 6, .inr (.inl (fun _ => 0))))] H_6 := hP
  have hD : va_D A [(x, .inr (9, [.ref st, .ref kp, .int 0, .ref bf, .int 0, .int (-1), .int (-1), .int 0, .ref o1, .ref o2, .ref o3, .ref o4, .ref o5, .ref o6])), (st, .inr (8, [.ref lt, .ref tb, .ref fl, .ref wt, .int 0, .null])), (q_4, .inr (3, [.ref n_7, .ref n_8, .ref n_9, .int 0, .int 1, .int 1])), (n_7, .inl (cI, 0, .inl (va_cpy (fun _ => 0) (fun _ => 0) (0 : Int32).toNatClampNeg (0 : Int32).toNatClampNeg (0 : Int32).toNatClampNeg))), (n_8, .inl (cJ, 0, .inr (.inl (fun _ => 0)))), (n_9, .inl (cJ, 6, .inr (.inl (fun _ => 0))))] := hD
  refine W.widen (k := 5) (n := 18) (Nat.le_of_ble_eq_true rfl) (Nat.le_of_ble_eq_true rfl) ?_
  have hPc := hP.sub (ws' := [(q_4, .inr (3, [.ref n_7, .ref n_8, .ref n_9, .int 0, .int 1, .int 1])), (n_7, .inl (cI, 0, .inl (va_cpy (fun _ => 0) (fun _ => 0) (0 : Int32).toNatClampNeg (0 : Int32).toNatClampNeg (0 : Int32).toNatClampNeg))), (n_8, .inl (cJ, 0, .inr (.inl (fun _ => 0)))), (n_9, .inl (cJ, 6, .inr (.inl (fun _ => 0))))]) [2, 3, 4, 5] rfl
  have hDc := hD.sub (ws' := [(q_4, .inr (3, [.ref n_7, .ref n_8, .ref n_9, .int 0, .int 1, .int 1])), (n_7, .inl (cI, 0, .inl (va_cpy (fun _ => 0) (fun _ => 0) (0 : Int32).toNatClampNeg (0 : Int32).toNatClampNeg (0 : Int32).toNatClampNeg))), (n_8, .inl (cJ, 0, .inr (.inl (fun _ => 0)))), (n_9, .inl (cJ, 6, .inr (.inl (fun _ => 0))))]) [2, 3, 4, 5] (by decide) rfl
  have hFc := va_free (wc := [(q_4, .inr (3, [.ref n_7, .ref n_8, .ref n_9, .int 0, .int 1, .int 1])), (n_7, .inl (cI, 0, .inl (va_cpy (fun _ => 0) (fun _ => 0) (0 : Int32).toNatClampNeg (0 : Int32).toNatClampNeg (0 : Int32).toNatClampNeg))), (n_8, .inl (cJ, 0, .inr (.inl (fun _ => 0)))), (n_9, .inl (cJ, 6, .inr (.inl (fun _ => 0))))]) hD hS hA [2, 3, 4, 5] rfl
  refine va_callr (va_runV (As := []) (rest := [.ref st]) ⟨hx, hb, hml, hown, hts⟩ (k_X2_read l htr D cI cJ cZ q_4 n_7 n_8 n_9 ((va_cpy (fun _ => 0) (fun _ => 0) (0 : Int32).toNatClampNeg (0 : Int32).toNatClampNeg (0 : Int32).toNatClampNeg)) H_6.size) (cwV 0 hts gk_X10_parse_X2_read rfl rfl rfl (by decide +kernel) ⟨Nat.le_of_ble_eq_true rfl, Nat.le_of_ble_eq_true rfl⟩) ⟨xPc_blind, va_recv hK hP (ci := 3) (q0 := 2) rfl rfl, xPc_pre hPc hK hDc hE hS hFc hV⟩ rfl rfl hl.1 rfl (lv_room (Nat.le_of_ble_eq_true rfl)) dX10_parse_56 ⟨Nat.le_of_ble_eq_true rfl, Nat.le_of_ble_eq_true rfl⟩) hS (fun q _ h => hFc q h) hFc (fun u ra_11 t H_10 locs ht hvm hw hB hz1 hk1 hS => ?_)
  rcases hw with -
  obtain ⟨hP1, hD1⟩ := hB
  rw [ht] at hP1
  obtain ⟨hP, hD⟩ := va_join (wr := [(x, .inr (9, [.ref st, .ref kp, .int 0, .ref bf, .int 0, .int (-1), .int (-1), .int 0, .ref o1, .ref o2, .ref o3, .ref o4, .ref o5, .ref o6])), (st, .inr (8, [.ref lt, .ref tb, .ref fl, .ref wt, .int 0, .null]))]) (w1 := []) hP hD [2, 3, 4, 5] [0, 1] rfl rfl (by decide) (by decide) hk1 hFc hP1 hD1
  have hP : va_P D vwCl [(x, .inr (9, [.ref st, .ref kp, .int 0, .ref bf, .int 0, .int (-1), .int (-1), .int 0, .ref o1, .ref o2, .ref o3, .ref o4, .ref o5, .ref o6])), (st, .inr (8, [.ref lt, .ref tb, .ref fl, .ref wt, .int 0, .null]))] H_10 := hP
  have hD : va_D A [(x, .inr (9, [.ref st, .ref kp, .int 0, .ref bf, .int 0, .int (-1), .int (-1), .int 0, .ref o1, .ref o2, .ref o3, .ref o4, .ref o5, .ref o6])), (st, .inr (8, [.ref lt, .ref tb, .ref fl, .ref wt, .int 0, .null]))] := hD
  refine W.widen (k := 7) (n := 30) (Nat.le_of_ble_eq_true rfl) (Nat.le_of_ble_eq_true rfl) ?_
  refine va_put (D := D) (ci := 8) (v := .ref ra_11) (ty := (.object "DocumentSpanner$Formula")) (C := RX8) (T := TX8) (N := 6) hx hb hts i_X8 tyX8 tyX8_ok nmX8 hown hK hP hD hS 1 rfl rfl 5 (by decide) w_10 (fun _ h9 => h9) rfl (by decide +kernel) rfl rfl (Nat.le_of_ble_eq_true rfl) dX10_parse_59 (fun H_12 locs hP hD hS => ?_)
  have hP : va_P D vwCl [(x, .inr (9, [.ref st, .ref kp, .int 0, .ref bf, .int 0, .int (-1), .int (-1), .int 0, .ref o1, .ref o2, .ref o3, .ref o4, .ref o5, .ref o6])), (st, .inr (8, [.ref lt, .ref tb, .ref fl, .ref wt, .int 0, .ref ra_11]))] H_12 := hP
  have hD : va_D A [(x, .inr (9, [.ref st, .ref kp, .int 0, .ref bf, .int 0, .int (-1), .int (-1), .int 0, .ref o1, .ref o2, .ref o3, .ref o4, .ref o5, .ref o6])), (st, .inr (8, [.ref lt, .ref tb, .ref fl, .ref wt, .int 0, .ref ra_11]))] := hD
  refine lv_iload_n hx hb dX10_parse_62 rfl (lv_at hl 0 rfl) ?_
  have hP9 := hP.sub (ws' := []) [] rfl
  have hD9 := hD.sub (ws' := []) [] (by decide) rfl
  refine W.widen (k := 7) (n := 30) (Nat.le_of_ble_eq_true rfl) (Nat.le_of_ble_eq_true rfl) ?_
  exact W.iret (v := 0) hx hb hr (fun t ht hW => ⟨⟨0, (), rfl, rfl, by rw [ht]; exact hP9, hD9⟩, hS.F ht⟩) hS.2.2 dX10_parse_63
