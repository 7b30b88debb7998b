def wk_X0_init : List Cond := .code yX0_init cX0_init 1 none :: (([.methodLink RX0 1 objectInit, .instanceMethod objectInit, .code objectInit ⟨#[0xb1]⟩ 1 none] : List Cond))
set_option maxHeartbeats 4000000 in
set_option maxRecDepth 100000 in
theorem k_X0_init (l : Launch) (htr : l.stackTraces = false) (D : va_G) (cI cJ cZ : ClassId) (c0 : Nat) (sz : Nat) : Met l yX0_init wk_X0_init ({ frames := 1, cells := 0, slots := 0, locals := 12 }) (xPc D cI cJ cZ [.ref c0] [] sz) (va_Qv (fun (u : Unit) => True) (fun (u : Unit) (t : State) => va_P D vwCl ([] : va_W) t.heap ∧ va_D (va_A [] sz) ([] : va_W)) (va_A [] sz)) 0 0 (va_A [] sz) := by
  refine Met.ofW (cc := cX0_init) (maxL := 1) (ret := none) (by decide) rfl ?_
  intro p e s m args below meth c s₁ B hml hv
  obtain ⟨rfl, hsz, hP, hK, hD0, hE, hV⟩ := hv
  have hx := B.exec
  have hb := B.bytes
  have hr := B.returns
  have hts := atoms_spec (ws := wk_X0_init) B.pre
  have hown : s.vm.findClass RX0 = some m.cls := findClass_of_methodNamed B.named
  have hlocks := B.notSynchronized
  have hin : meth.name = "<init>" := (name_of_methodNamed B.named B.method).1
  have w_1 := hts (.methodLink RX0 1 objectInit) (List.mem_of_getElem? (i := 1) rfl)
  have w_2 := hts (.instanceMethod objectInit) (List.mem_of_getElem? (i := 2) rfl)
  have w_3 := hts (.code objectInit ⟨#[0xb1]⟩ 1 none) (List.mem_of_getElem? (i := 3) rfl)
  subst hsz
  have hD := hD0.self (sz := s.heap.size)
  generalize hAe : va_A [] s.heap.size = A at hD hE ⊢
  have hA : ∀ q : Nat, s.heap.size ≤ q → A q := fun q h => by rw [← hAe]; exact Or.inr h
  have hS : va_S A s.heap s.heap [] := va_S.rf
  have hP : va_P D vwCl [] s.heap := hP
  have hl := lv_entry ([.ref c0]) (n := 1) (Nat.le_of_ble_eq_true rfl)
  rw [lg_entry_eq]
  generalize (lg_sl ([.ref c0]) ++ List.replicate (1 - (lg_sl ([.ref c0])).length) Slot.unset).toArray = ls at hl ⊢
  have hl : lv_has ls 1 [(0, .ref c0)] := hl
  refine lv_aload_n hx hb dX0_init_0 rfl (lv_at hl 0 rfl) ?_
  refine W.objInit hx hb hown w_1 w_2 w_3 rfl (by rw [hml]; exact hl.1) rfl dX0_init_1 (Nat.le_of_ble_eq_true rfl) (Nat.le_of_ble_eq_true rfl) ?_
  refine W.eq (g2 := F0 m 4 ls []) rfl ?_
  have hP9 := hP.sub (ws' := []) [] rfl
  have hD9 := hD.sub (ws' := []) [] (by decide) rfl
  refine W.widen (k := 0) (n := 0) (Nat.le_of_ble_eq_true rfl) (Nat.le_of_ble_eq_true rfl) ?_
  exact W.vret hx hb hr (fun t ht hW => ⟨⟨(), rfl, trivial, by rw [ht]; exact hP9, hD9⟩, hS.F ht⟩) hS.2.2 dX0_init_4
def wk_X7_init : List Cond := .code yX7_init cX7_init 1 none :: (([.initialized RX0, .instanceMethod yX0_init, .arrayClass .int, .fieldLink RX7 9 "DocumentSpanner$SortedInts" "values" "[I", .fieldLink RX7 15 "DocumentSpanner$SortedInts" "count" "I", .fieldLink RX7 19 "DocumentSpanner$SortedInts" "overfull" "Z", .code yX0_init cX0_init 1 none, .methodLink RX0 1 objectInit, .instanceMethod objectInit, .code objectInit ⟨#[0xb1]⟩ 1 none] : List Cond) ++ wsX70)
set_option maxRecDepth 20000 in
theorem ggk_X7_init_X0_init : GoodIn wk_X7_init wk_X0_init := goodIn_r _ [7, 8, 9, 10] (by decide +kernel) (by decide +kernel)
theorem gk_X7_init_X0_init : GoodIn wk_X7_init wk_X0_init := ggk_X7_init_X0_init
set_option maxHeartbeats 4000000 in
set_option maxRecDepth 100000 in
theorem k_X7_init (l : Launch) (htr : l.stackTraces = false) (D : va_G) (cI cJ cZ : ClassId) (sv : Nat) (sz : Nat) : Met l yX7_init wk_X7_init ({ frames := 2, cells := 1, slots := 200, locals := 32 }) (xPc D cI cJ cZ [.ref sv] [(sv, .inr (7, [.null, .int 0, .int 0]))] sz) (va_Qv (fun (u : Nat) => True) (fun (q_2 : Nat) (t : State) => va_P D vwCl ([(sv, .inr (7, [.ref q_2, .int 0, .int 0]))] : va_W) t.heap ∧ va_D (va_A [(sv, .inr (7, [.null, .int 0, .int 0]))] sz) ([(sv, .inr (7, [.ref q_2, .int 0, .int 0]))] : va_W)) (va_A [(sv, .inr (7, [.null, .int 0, .int 0]))] sz)) 1 200 (va_A [(sv, .inr (7, [.null, .int 0, .int 0]))] sz) := by
  refine Met.ofW (cc := cX7_init) (maxL := 1) (ret := none) (by decide) rfl ?_
  intro p e s m args below meth c s₁ B hml hv
  obtain ⟨rfl, hsz, hP, hK, hD0, hE, hV⟩ := hv
  have hx := B.exec
  have hb := B.bytes
  have hr := B.returns
  have hts := atoms_spec (ws := wk_X7_init) B.pre
  have hown : s.vm.findClass RX7 = some m.cls := findClass_of_methodNamed B.named
  have hlocks := B.notSynchronized
  have hin : meth.name = "<init>" := (name_of_methodNamed B.named B.method).1
  have i_X7 : ∀ w ∈ wsX70, w ∈ wk_X7_init := fun _ h => List.mem_cons_of_mem _ (List.mem_append_right _ h)
  have w_1 := hts (.initialized RX0) (List.mem_of_getElem? (i := 1) rfl)
  have w_2 := hts (.instanceMethod yX0_init) (List.mem_of_getElem? (i := 2) rfl)
  have w_3 := hts (.arrayClass .int) (List.mem_of_getElem? (i := 3) rfl)
  have w_4 := hts (.fieldLink RX7 9 "DocumentSpanner$SortedInts" "values" "[I") (List.mem_of_getElem? (i := 4) rfl)
  have w_5 := hts (.fieldLink RX7 15 "DocumentSpanner$SortedInts" "count" "I") (List.mem_of_getElem? (i := 5) rfl)
  have w_6 := hts (.fieldLink RX7 19 "DocumentSpanner$SortedInts" "overfull" "Z") (List.mem_of_getElem? (i := 6) rfl)
  subst hsz
  have hD := hD0.self (sz := s.heap.size)
  generalize hAe : va_A [(sv, .inr (7, [.null, .int 0, .int 0]))] s.heap.size = A at hD hE ⊢
  have hA : ∀ q : Nat, s.heap.size ≤ q → A q := fun q h => by rw [← hAe]; exact Or.inr h
  have hS : va_S A s.heap s.heap [] := va_S.rf
  have hP : va_P D vwCl [(sv, .inr (7, [.null, .int 0, .int 0]))] s.heap := hP
  have hl := lv_entry ([.ref sv]) (n := 1) (Nat.le_of_ble_eq_true rfl)
  rw [lg_entry_eq]
  generalize (lg_sl ([.ref sv]) ++ List.replicate (1 - (lg_sl ([.ref sv])).length) Slot.unset).toArray = ls at hl ⊢
  have hl : lv_has ls 1 [(0, .ref sv)] := hl
  refine lv_aload_n hx hb dX7_init_0 rfl (lv_at hl 0 rfl) ?_
  have hPc := hP.sub (ws' := []) [] rfl
  have hDc := hD.sub (ws' := []) [] (by decide) rfl
  have hFc := va_free (wc := []) hD hS hA [] rfl
  refine va_callv (va_runIN (As := []) (rest := []) ⟨hx, hb, hml, hown, hts⟩ (k_X0_init l htr D cI cJ cZ sv s.heap.size) ⟨va_cnB 0 hts gk_X7_init_X0_init rfl rfl rfl hV.2.2.2.2.1.2.1 w_1 (by decide +kernel) ⟨Nat.le_of_ble_eq_true rfl, Nat.le_of_ble_eq_true rfl⟩, rfl, w_2⟩ ⟨xPc_blind, xPc_pre hPc hK hDc hE hS hFc hV⟩ rfl rfl hl.1 rfl (lv_room (Nat.le_of_ble_eq_true rfl)) dX7_init_1 ⟨Nat.le_of_ble_eq_true rfl, Nat.le_of_ble_eq_true rfl⟩) hS (fun q _ h => hFc q h) hFc (fun u t H_1 locs ht hvm hw hB hz1 hk1 hS => ?_)
  rcases hw with -
  obtain ⟨hP1, hD1⟩ := hB
  rw [ht] at hP1
  obtain ⟨hP, hD⟩ := va_join (wr := [(sv, .inr (7, [.null, .int 0, .int 0]))]) (w1 := []) hP hD [] [0] rfl rfl (by decide) (by decide) hk1 hFc hP1 hD1
  have hP : va_P D vwCl [(sv, .inr (7, [.null, .int 0, .int 0]))] H_1 := hP
  have hD : va_D A [(sv, .inr (7, [.null, .int 0, .int 0]))] := hD
  refine W.widen (k := 0) (n := 0) (Nat.le_of_ble_eq_true rfl) (Nat.le_of_ble_eq_true rfl) ?_
  refine lv_aload_n hx hb dX7_init_4 rfl (lv_at hl 0 rfl) ?_
  refine lv_sipush (v := 200) hx hb dX7_init_5 (by decide) ?_
  refine xNewa (atype := .int) (ty := .int) (a0 := (200, .inl (fun _ => 0))) (N' := 200) hx hb w_3 rfl (fun _ h => h) 0 rfl hK hP hD hS hA (fun _ => rfl) (by decide) (by decide) (Nat.le_of_ble_eq_true rfl) (Nat.le_of_ble_eq_true rfl) (Nat.le_of_ble_eq_true rfl) dX7_init_8 (fun q_2 H_3 hP hD hS => ?_)
  have hP : va_P D vwCl [(sv, .inr (7, [.null, .int 0, .int 0])), (q_2, .inl (cI, 200, .inl (fun _ => 0)))] H_3 := hP
  have hD : va_D A [(sv, .inr (7, [.null, .int 0, .int 0])), (q_2, .inl (cI, 200, .inl (fun _ => 0)))] := hD
  refine W.widen (k := 1) (n := 200) (Nat.le_of_ble_eq_true rfl) (Nat.le_of_ble_eq_true rfl) ?_
  refine va_putF (D := D) (ci := 7) (v := .ref q_2) (ty := (.array .int)) (C := RX7) (T := TX7) (N := 3) hx hb hts i_X7 tyX7 tyX7_ok nmX7 hown hK hP hD hS 0 rfl rfl 0 (by decide) w_4 (fun _ h9 => h9) rfl hin rfl (by decide +kernel) rfl rfl (Nat.le_of_ble_eq_true rfl) dX7_init_10 (fun H_4 locs hP hD hS => ?_)
  have hP : va_P D vwCl [(sv, .inr (7, [.ref q_2, .int 0, .int 0])), (q_2, .inl (cI, 200, .inl (fun _ => 0)))] H_4 := hP
  have hD : va_D A [(sv, .inr (7, [.ref q_2, .int 0, .int 0])), (q_2, .inl (cI, 200, .inl (fun _ => 0)))] := hD
  refine lv_aload_n hx hb dX7_init_13 rfl (lv_at hl 0 rfl) ?_
  refine lv_iconst (v := 0) hx hb dX7_init_14 (by decide) ?_
  refine va_put (D := D) (ci := 7) (v := .int 0) (ty := .int) (C := RX7) (T := TX7) (N := 3) hx hb hts i_X7 tyX7 tyX7_ok nmX7 hown hK hP hD hS 0 rfl rfl 1 (by decide) w_5 (fun _ h9 => h9) rfl (by decide +kernel) rfl rfl (Nat.le_of_ble_eq_true rfl) dX7_init_15 (fun H_5 locs hP hD hS => ?_)
  have hP : va_P D vwCl [(sv, .inr (7, [.ref q_2, .int 0, .int 0])), (q_2, .inl (cI, 200, .inl (fun _ => 0)))] H_5 := hP
  have hD : va_D A [(sv, .inr (7, [.ref q_2, .int 0, .int 0])), (q_2, .inl (cI, 200, .inl (fun _ => 0)))] := hD
  refine lv_aload_n hx hb dX7_init_18 rfl (lv_at hl 0 rfl) ?_
  refine lv_iconst (v := 0) hx hb dX7_init_19 (by decide) ?_
  refine va_put (D := D) (ci := 7) (v := .int 0) (ty := .boolean) (C := RX7) (T := TX7) (N := 3) hx hb hts i_X7 tyX7 tyX7_ok nmX7 hown hK hP hD hS 0 rfl rfl 2 (by decide) w_6 (fun _ h9 => h9) rfl (by decide +kernel) rfl rfl (Nat.le_of_ble_eq_true rfl) dX7_init_20 (fun H_6 locs hP hD hS => ?_)
  have hP : va_P D vwCl [(sv, .inr (7, [.ref q_2, .int 0, .int 0])), (q_2, .inl (cI, 200, .inl (fun _ => 0)))] H_6 := hP
  have hD : va_D A [(sv, .inr (7, [.ref q_2, .int 0, .int 0])), (q_2, .inl (cI, 200, .inl (fun _ => 0)))] := hD
  have hP9 := hP.sub (ws' := [(sv, .inr (7, [.ref q_2, .int 0, .int 0]))]) [0] rfl
  have hD9 := hD.sub (ws' := [(sv, .inr (7, [.ref q_2, .int 0, .int 0]))]) [0] (by decide) rfl
  refine W.widen (k := 1) (n := 200) (Nat.le_of_ble_eq_true rfl) (Nat.le_of_ble_eq_true rfl) ?_
  exact W.vret hx hb hr (fun t ht hW => ⟨⟨q_2, rfl, trivial, by rw [ht]; exact hP9, hD9⟩, hS.F ht⟩) hS.2.2 dX7_init_23
def wk_X4_init : List Cond := .code yX4_init cX4_init 1 none :: (([.initialized RX0, .instanceMethod yX0_init, .arrayClass .long, .fieldLink RX4 9 "DocumentSpanner$MappingSet" "words" "[J", .code yX0_init cX0_init 1 none, .methodLink RX0 1 objectInit, .instanceMethod objectInit, .code objectInit ⟨#[0xb1]⟩ 1 none] : List Cond) ++ wsX40)
set_option maxRecDepth 20000 in
theorem ggk_X4_init_X0_init : GoodIn wk_X4_init wk_X0_init := goodIn_r _ [5, 6, 7, 8] (by decide +kernel) (by decide +kernel)
theorem gk_X4_init_X0_init : GoodIn wk_X4_init wk_X0_init := ggk_X4_init_X0_init
set_option maxHeartbeats 4000000 in
set_option maxRecDepth 100000 in
theorem k_X4_init (l : Launch) (htr : l.stackTraces = false) (D : va_G) (cI cJ cZ : ClassId) (ms : Nat) (sz : Nat) : Met l yX4_init wk_X4_init ({ frames := 2, cells := 1, slots := 2926, locals := 32 }) (xPc D cI cJ cZ [.ref ms] [(ms, .inr (4, [.null]))] sz) (va_Qv (fun (u : Unit) => True) (fun (u : Unit) (t : State) => va_P D vwCl ([] : va_W) t.heap ∧ va_D (va_A [(ms, .inr (4, [.null]))] sz) ([] : va_W)) (va_A [(ms, .inr (4, [.null]))] sz)) 1 2926 (va_A [(ms, .inr (4, [.null]))] sz) := by
  refine Met.ofW (cc := cX4_init) (maxL := 1) (ret := none) (by decide) rfl ?_
  intro p e s m args below meth c s₁ B hml hv
  obtain ⟨rfl, hsz, hP, hK, hD0, hE, hV⟩ := hv
  have hx := B.exec
  have hb := B.bytes
  have hr := B.returns
  have hts := atoms_spec (ws := wk_X4_init) B.pre
  have hown : s.vm.findClass RX4 = some m.cls := findClass_of_methodNamed B.named
  have hlocks := B.notSynchronized
  have hin : meth.name = "<init>" := (name_of_methodNamed B.named B.method).1
  have i_X4 : ∀ w ∈ wsX40, w ∈ wk_X4_init := fun _ h => List.mem_cons_of_mem _ (List.mem_append_right _ h)
  have w_1 := hts (.initialized RX0) (List.mem_of_getElem? (i := 1) rfl)
  have w_2 := hts (.instanceMethod yX0_init) (List.mem_of_getElem? (i := 2) rfl)
  have w_3 := hts (.arrayClass .long) (List.mem_of_getElem? (i := 3) rfl)
  have w_4 := hts (.fieldLink RX4 9 "DocumentSpanner$MappingSet" "words" "[J") (List.mem_of_getElem? (i := 4) rfl)
  subst hsz
  have hD := hD0.self (sz := s.heap.size)
  generalize hAe : va_A [(ms, .inr (4, [.null]))] s.heap.size = A at hD hE ⊢
  have hA : ∀ q : Nat, s.heap.size ≤ q → A q := fun q h => by rw [← hAe]; exact Or.inr h
  have hS : va_S A s.heap s.heap [] := va_S.rf
  have hP : va_P D vwCl [(ms, .inr (4, [.null]))] s.heap := hP
  have hl := lv_entry ([.ref ms]) (n := 1) (Nat.le_of_ble_eq_true rfl)
  rw [lg_entry_eq]
  generalize (lg_sl ([.ref ms]) ++ List.replicate (1 - (lg_sl ([.ref ms])).length) Slot.unset).toArray = ls at hl ⊢
  have hl : lv_has ls 1 [(0, .ref ms)] := hl
  refine lv_aload_n hx hb dX4_init_0 rfl (lv_at hl 0 rfl) ?_
  have hPc := hP.sub (ws' := []) [] rfl
  have hDc := hD.sub (ws' := []) [] (by decide) rfl
  have hFc := va_free (wc := []) hD hS hA [] rfl
  refine va_callv (va_runIN (As := []) (rest := []) ⟨hx, hb, hml, hown, hts⟩ (k_X0_init l htr D cI cJ cZ ms s.heap.size) ⟨va_cnB 0 hts gk_X4_init_X0_init rfl rfl rfl hV.2.2.2.2.1.2.2.2.2.2 w_1 (by decide +kernel) ⟨Nat.le_of_ble_eq_true rfl, Nat.le_of_ble_eq_true rfl⟩, rfl, w_2⟩ ⟨xPc_blind, xPc_pre hPc hK hDc hE hS hFc hV⟩ rfl rfl hl.1 rfl (lv_room (Nat.le_of_ble_eq_true rfl)) dX4_init_1 ⟨Nat.le_of_ble_eq_true rfl, Nat.le_of_ble_eq_true rfl⟩) hS (fun q _ h => hFc q h) hFc (fun u t H_1 locs ht hvm hw hB hz1 hk1 hS => ?_)
  rcases hw with -
  obtain ⟨hP1, hD1⟩ := hB
  rw [ht] at hP1
  obtain ⟨hP, hD⟩ := va_join (wr := [(ms, .inr (4, [.null]))]) (w1 := []) hP hD [] [0] rfl rfl (by decide) (by decide) hk1 hFc hP1 hD1
  have hP : va_P D vwCl [(ms, .inr (4, [.null]))] H_1 := hP
  have hD : va_D A [(ms, .inr (4, [.null]))] := hD
  refine W.widen (k := 0) (n := 0) (Nat.le_of_ble_eq_true rfl) (Nat.le_of_ble_eq_true rfl) ?_
  refine lv_aload_n hx hb dX4_init_4 rfl (lv_at hl 0 rfl) ?_
  refine lv_sipush (v := 2926) hx hb dX4_init_5 (by decide) ?_
  refine xNewa (atype := .long) (ty := .long) (a0 := (2926, .inr (.inl (fun _ => 0)))) (N' := 2926) hx hb w_3 rfl (fun _ h => h) 1 rfl hK hP hD hS hA (fun _ => rfl) (by decide) (by decide) (Nat.le_of_ble_eq_true rfl) (Nat.le_of_ble_eq_true rfl) (Nat.le_of_ble_eq_true rfl) dX4_init_8 (fun q_2 H_3 hP hD hS => ?_)
  have hP : va_P D vwCl [(ms, .inr (4, [.null])), (q_2, .inl (cJ, 2926, .inr (.inl (fun _ => 0))))] H_3 := hP
  have hD : va_D A [(ms, .inr (4, [.null])), (q_2, .inl (cJ, 2926, .inr (.inl (fun _ => 0))))] := hD
  refine W.widen (k := 1) (n := 2926) (Nat.le_of_ble_eq_true rfl) (Nat.le_of_ble_eq_true rfl) ?_
  refine va_putF (D := D) (ci := 4) (v := .ref q_2) (ty := (.array .long)) (C := RX4) (T := TX4) (N := 1) hx hb hts i_X4 tyX4 tyX4_ok nmX4 hown hK hP hD hS 0 rfl rfl 0 (by decide) w_4 (fun _ h9 => h9) rfl hin rfl (by decide +kernel) rfl rfl (Nat.le_of_ble_eq_true rfl) dX4_init_10 (fun H_4 locs hP hD hS => ?_)
  have hP : va_P D vwCl [(ms, .inr (4, [.ref q_2])), (q_2, .inl (cJ, 2926, .inr (.inl (fun _ => 0))))] H_4 := hP
  have hD : va_D A [(ms, .inr (4, [.ref q_2])), (q_2, .inl (cJ, 2926, .inr (.inl (fun _ => 0))))] := hD
  have hP9 := hP.sub (ws' := []) [] rfl
  have hD9 := hD.sub (ws' := []) [] (by decide) rfl
  refine W.widen (k := 1) (n := 2926) (Nat.le_of_ble_eq_true rfl) (Nat.le_of_ble_eq_true rfl) ?_
  exact W.vret hx hb hr (fun t ht hW => ⟨⟨(), rfl, trivial, by rw [ht]; exact hP9, hD9⟩, hS.F ht⟩) hS.2.2 dX4_init_13
def wk_X6_init : List Cond := .code yX6_init cX6_init 1 none :: (([.methodLink RX6 3 objectInit, .instanceMethod objectInit, .code objectInit ⟨#[0xb1]⟩ 1 none, .classLink RX6 9 "[[J", .arrayClass .long, .fieldLink RX6 11 "DocumentSpanner$Search" "alive" "[[J", .fieldLink RX6 16 "DocumentSpanner$Search" "reached" "[[J", .classLink RX6 19 "[[I", .arrayClass .int, .fieldLink RX6 21 "DocumentSpanner$Search" "queues" "[[I", .fieldLink RX6 24 "DocumentSpanner$Search" "reading" "[J", .fieldLink RX6 28 "DocumentSpanner$Search" "openedAt" "[I", .fieldLink RX6 32 "DocumentSpanner$Search" "formula" "LDocumentSpanner$Formula;", .fieldLink RX6 36 "DocumentSpanner$Search" "found" "LDocumentSpanner$Collector;", .fieldLink RX6 40 "DocumentSpanner$Search" "end" "I"] : List Cond) ++ wsX60)
set_option maxHeartbeats 4000000 in
set_option maxRecDepth 100000 in
theorem k_X6_init (l : Launch) (htr : l.stackTraces = false) (D : va_G) (cI cJ cZ : ClassId) (sr : Nat) (sz : Nat) : Met l yX6_init wk_X6_init ({ frames := 1, cells := 32, slots := 1262, locals := 12 }) (xPc D cI cJ cZ [.ref sr] [(sr, .inr (6, [.null, .null, .null, .null, .null, .null, .null, .int 0]))] sz) (va_Qv (fun (u : Unit) => True) (fun (u : Unit) (t : State) => va_P D vwCl ([] : va_W) t.heap ∧ va_D (va_A [(sr, .inr (6, [.null, .null, .null, .null, .null, .null, .null, .int 0]))] sz) ([] : va_W)) (va_A [(sr, .inr (6, [.null, .null, .null, .null, .null, .null, .null, .int 0]))] sz)) 32 1262 (va_A [(sr, .inr (6, [.null, .null, .null, .null, .null, .null, .null, .int 0]))] sz) := by
  refine Met.ofW (cc := cX6_init) (maxL := 1) (ret := none) (by decide) rfl ?_
  intro p e s m args below meth c s₁ B hml hv
  obtain ⟨rfl, hsz, hP, hK, hD0, hE, hV⟩ := hv
  have hx := B.exec
  have hb := B.bytes
  have hr := B.returns
  have hts := atoms_spec (ws := wk_X6_init) B.pre
  have hown : s.vm.findClass RX6 = some m.cls := findClass_of_methodNamed B.named
  have hlocks := B.notSynchronized
  have hin : meth.name = "<init>" := (name_of_methodNamed B.named B.method).1
  have i_X6 : ∀ w ∈ wsX60, w ∈ wk_X6_init := fun _ h => List.mem_cons_of_mem _ (List.mem_append_right _ h)
  have w_1 := hts (.methodLink RX6 3 objectInit) (List.mem_of_getElem? (i := 1) rfl)
  have w_2 := hts (.instanceMethod objectInit) (List.mem_of_getElem? (i := 2) rfl)
  have w_3 := hts (.code objectInit ⟨#[0xb1]⟩ 1 none) (List.mem_of_getElem? (i := 3) rfl)
  have w_4 := hts (.classLink RX6 9 "[[J") (List.mem_of_getElem? (i := 4) rfl)
  have w_5 := hts (.arrayClass .long) (List.mem_of_getElem? (i := 5) rfl)
  have w_6 := hts (.fieldLink RX6 11 "DocumentSpanner$Search" "alive" "[[J") (List.mem_of_getElem? (i := 6) rfl)
  have w_7 := hts (.fieldLink RX6 16 "DocumentSpanner$Search" "reached" "[[J") (List.mem_of_getElem? (i := 7) rfl)
  have w_8 := hts (.classLink RX6 19 "[[I") (List.mem_of_getElem? (i := 8) rfl)
  have w_9 := hts (.arrayClass .int) (List.mem_of_getElem? (i := 9) rfl)
  have w_10 := hts (.fieldLink RX6 21 "DocumentSpanner$Search" "queues" "[[I") (List.mem_of_getElem? (i := 10) rfl)
  have w_11 := hts (.fieldLink RX6 24 "DocumentSpanner$Search" "reading" "[J") (List.mem_of_getElem? (i := 11) rfl)
  have w_12 := hts (.fieldLink RX6 28 "DocumentSpanner$Search" "openedAt" "[I") (List.mem_of_getElem? (i := 12) rfl)
  have w_13 := hts (.fieldLink RX6 32 "DocumentSpanner$Search" "formula" "LDocumentSpanner$Formula;") (List.mem_of_getElem? (i := 13) rfl)
  have w_14 := hts (.fieldLink RX6 36 "DocumentSpanner$Search" "found" "LDocumentSpanner$Collector;") (List.mem_of_getElem? (i := 14) rfl)
  have w_15 := hts (.fieldLink RX6 40 "DocumentSpanner$Search" "end" "I") (List.mem_of_getElem? (i := 15) rfl)
  subst hsz
  have hD := hD0.self (sz := s.heap.size)
  generalize hAe : va_A [(sr, .inr (6, [.null, .null, .null, .null, .null, .null, .null, .int 0]))] s.heap.size = A at hD hE ⊢
  have hA : ∀ q : Nat, s.heap.size ≤ q → A q := fun q h => by rw [← hAe]; exact Or.inr h
  have hS : va_S A s.heap s.heap [] := va_S.rf
  have hP : va_P D vwCl [(sr, .inr (6, [.null, .null, .null, .null, .null, .null, .null, .int 0]))] s.heap := hP
  have hl := lv_entry ([.ref sr]) (n := 1) (Nat.le_of_ble_eq_true rfl)
  rw [lg_entry_eq]
  generalize (lg_sl ([.ref sr]) ++ List.replicate (1 - (lg_sl ([.ref sr])).length) Slot.unset).toArray = ls at hl ⊢
  have hl : lv_has ls 1 [(0, .ref sr)] := hl
  refine lv_aload_n hx hb dX6_init_0 rfl (lv_at hl 0 rfl) ?_
  refine W.objInit hx hb hown w_1 w_2 w_3 rfl (by rw [hml]; exact hl.1) rfl dX6_init_1 (Nat.le_of_ble_eq_true rfl) (Nat.le_of_ble_eq_true rfl) ?_
  refine W.eq (g2 := F0 m 4 ls []) rfl ?_
  refine lv_aload_n hx hb dX6_init_4 rfl (lv_at hl 0 rfl) ?_
  refine lv_bipush (v := 9) hx hb dX6_init_5 (by decide) ?_
  refine lv_bipush (v := 8) hx hb dX6_init_7 (by decide) ?_
  refine xMna (ty := .long) (cy := cJ) (N' := 9) (K' := 8) (z := (8, .inr (.inl (fun _ => 0)))) hx hb hown w_4 hV.2.2.1 w_5 (hK.2 1 _ rfl).2 hK hP hD hS hA (by decide) (by decide) (by decide) (by decide) (Nat.le_of_ble_eq_true rfl) (Nat.le_of_ble_eq_true rfl) (Nat.le_of_ble_eq_true rfl) rfl rfl (Nat.le_of_ble_eq_true rfl) (Nat.le_of_ble_eq_true rfl) (fun _ => xInner _ _ _) dX6_init_9 (fun q_1 H_2 hP hD hS => ?_)
  have hP : va_P D vwCl [(sr, .inr (6, [.null, .null, .null, .null, .null, .null, .null, .int 0]))] H_2 := hP
  have hD : va_D A [(sr, .inr (6, [.null, .null, .null, .null, .null, .null, .null, .int 0]))] := hD
  refine W.widen (k := 10) (n := 81) (Nat.le_of_ble_eq_true rfl) (Nat.le_of_ble_eq_true rfl) ?_
  refine va_putF (D := D) (ci := 6) (v := .ref q_1) (ty := (.array (.array .long))) (C := RX6) (T := TX6) (N := 8) hx hb hts i_X6 tyX6 tyX6_ok nmX6 hown hK hP hD hS 0 rfl rfl 0 (by decide) w_6 (fun _ h9 => h9) rfl hin rfl (by decide +kernel) rfl rfl (Nat.le_of_ble_eq_true rfl) dX6_init_13 (fun H_3 locs hP hD hS => ?_)
  have hP : va_P D vwCl [(sr, .inr (6, [.ref q_1, .null, .null, .null, .null, .null, .null, .int 0]))] H_3 := hP
  have hD : va_D A [(sr, .inr (6, [.ref q_1, .null, .null, .null, .null, .null, .null, .int 0]))] := hD
  refine lv_aload_n hx hb dX6_init_16 rfl (lv_at hl 0 rfl) ?_
  refine lv_bipush (v := 9) hx hb dX6_init_17 (by decide) ?_
  refine lv_bipush (v := 64) hx hb dX6_init_19 (by decide) ?_
  refine xMna (ty := .long) (cy := cJ) (N' := 9) (K' := 64) (z := (64, .inr (.inl (fun _ => 0)))) hx hb hown w_4 hV.2.2.1 w_5 (hK.2 1 _ rfl).2 hK hP hD hS hA (by decide) (by decide) (by decide) (by decide) (Nat.le_of_ble_eq_true rfl) (Nat.le_of_ble_eq_true rfl) (Nat.le_of_ble_eq_true rfl) rfl rfl (Nat.le_of_ble_eq_true rfl) (Nat.le_of_ble_eq_true rfl) (fun _ => xInner _ _ _) dX6_init_21 (fun q_4 H_5 hP hD hS => ?_)
  have hP : va_P D vwCl [(sr, .inr (6, [.ref q_1, .null, .null, .null, .null, .null, .null, .int 0]))] H_5 := hP
  have hD : va_D A [(sr, .inr (6, [.ref q_1, .null, .null, .null, .null, .null, .null, .int 0]))] := hD
  refine W.widen (k := 20) (n := 666) (Nat.le_of_ble_eq_true rfl) (Nat.le_of_ble_eq_true rfl) ?_
  refine va_putF (D := D) (ci := 6) (v := .ref q_4) (ty := (.array (.array .long))) (C := RX6) (T := TX6) (N := 8) hx hb hts i_X6 tyX6 tyX6_ok nmX6 hown hK hP hD hS 0 rfl rfl 1 (by decide) w_7 (fun _ h9 => h9) rfl hin rfl (by decide +kernel) rfl rfl (Nat.le_of_ble_eq_true rfl) dX6_init_25 (fun H_6 locs hP hD hS => ?_)
  have hP : va_P D vwCl [(sr, .inr (6, [.ref q_1, .ref q_4, .null, .null, .null, .null, .null, .int 0]))] H_6 := hP
  have hD : va_D A [(sr, .inr (6, [.ref q_1, .ref q_4, .null, .null, .null, .null, .null, .int 0]))] := hD
  refine lv_aload_n hx hb dX6_init_28 rfl (lv_at hl 0 rfl) ?_
  refine lv_bipush (v := 9) hx hb dX6_init_29 (by decide) ?_
  refine lv_bipush (v := 64) hx hb dX6_init_31 (by decide) ?_
  refine xMna (ty := .int) (cy := cI) (N' := 9) (K' := 64) (z := (64, .inl (fun _ => 0))) hx hb hown w_8 hV.2.2.2.1 w_9 (hK.2 0 _ rfl).2 hK hP hD hS hA (by decide) (by decide) (by decide) (by decide) (Nat.le_of_ble_eq_true rfl) (Nat.le_of_ble_eq_true rfl) (Nat.le_of_ble_eq_true rfl) rfl rfl (Nat.le_of_ble_eq_true rfl) (Nat.le_of_ble_eq_true rfl) (fun _ => xInner _ _ _) dX6_init_33 (fun q_7 H_8 hP hD hS => ?_)
  have hP : va_P D vwCl [(sr, .inr (6, [.ref q_1, .ref q_4, .null, .null, .null, .null, .null, .int 0]))] H_8 := hP
  have hD : va_D A [(sr, .inr (6, [.ref q_1, .ref q_4, .null, .null, .null, .null, .null, .int 0]))] := hD
  refine W.widen (k := 30) (n := 1251) (Nat.le_of_ble_eq_true rfl) (Nat.le_of_ble_eq_true rfl) ?_
  refine va_putF (D := D) (ci := 6) (v := .ref q_7) (ty := (.array (.array .int))) (C := RX6) (T := TX6) (N := 8) hx hb hts i_X6 tyX6 tyX6_ok nmX6 hown hK hP hD hS 0 rfl rfl 2 (by decide) w_10 (fun _ h9 => h9) rfl hin rfl (by decide +kernel) rfl rfl (Nat.le_of_ble_eq_true rfl) dX6_init_37 (fun H_9 locs hP hD hS => ?_)
  have hP : va_P D vwCl [(sr, .inr (6, [.ref q_1, .ref q_4, .ref q_7, .null, .null, .null, .null, .int 0]))] H_9 := hP
  have hD : va_D A [(sr, .inr (6, [.ref q_1, .ref q_4, .ref q_7, .null, .null, .null, .null, .int 0]))] := hD
  refine lv_aload_n hx hb dX6_init_40 rfl (lv_at hl 0 rfl) ?_
  refine lv_bipush (v := 8) hx hb dX6_init_41 (by decide) ?_
  refine xNewa (atype := .long) (ty := .long) (a0 := (8, .inr (.inl (fun _ => 0)))) (N' := 8) hx hb w_5 rfl (fun _ h => h) 1 rfl hK hP hD hS hA (fun _ => rfl) (by decide) (by decide) (Nat.le_of_ble_eq_true rfl) (Nat.le_of_ble_eq_true rfl) (Nat.le_of_ble_eq_true rfl) dX6_init_43 (fun q_10 H_11 hP hD hS => ?_)
  have hP : va_P D vwCl [(sr, .inr (6, [.ref q_1, .ref q_4, .ref q_7, .null, .null, .null, .null, .int 0])), (q_10, .inl (cJ, 8, .inr (.inl (fun _ => 0))))] H_11 := hP
  have hD : va_D A [(sr, .inr (6, [.ref q_1, .ref q_4, .ref q_7, .null, .null, .null, .null, .int 0])), (q_10, .inl (cJ, 8, .inr (.inl (fun _ => 0))))] := hD
  refine W.widen (k := 31) (n := 1259) (Nat.le_of_ble_eq_true rfl) (Nat.le_of_ble_eq_true rfl) ?_
  refine va_putF (D := D) (ci := 6) (v := .ref q_10) (ty := (.array .long)) (C := RX6) (T := TX6) (N := 8) hx hb hts i_X6 tyX6 tyX6_ok nmX6 hown hK hP hD hS 0 rfl rfl 3 (by decide) w_11 (fun _ h9 => h9) rfl hin rfl (by decide +kernel) rfl rfl (Nat.le_of_ble_eq_true rfl) dX6_init_45 (fun H_12 locs hP hD hS => ?_)
  have hP : va_P D vwCl [(sr, .inr (6, [.ref q_1, .ref q_4, .ref q_7, .ref q_10, .null, .null, .null, .int 0])), (q_10, .inl (cJ, 8, .inr (.inl (fun _ => 0))))] H_12 := hP
  have hD : va_D A [(sr, .inr (6, [.ref q_1, .ref q_4, .ref q_7, .ref q_10, .null, .null, .null, .int 0])), (q_10, .inl (cJ, 8, .inr (.inl (fun _ => 0))))] := hD
  refine lv_aload_n hx hb dX6_init_48 rfl (lv_at hl 0 rfl) ?_
  refine lv_iconst (v := 3) hx hb dX6_init_49 (by decide) ?_
  refine xNewa (atype := .int) (ty := .int) (a0 := (3, .inl (fun _ => 0))) (N' := 3) hx hb w_9 rfl (fun _ h => h) 0 rfl hK hP hD hS hA (fun _ => rfl) (by decide) (by decide) (Nat.le_of_ble_eq_true rfl) (Nat.le_of_ble_eq_true rfl) (Nat.le_of_ble_eq_true rfl) dX6_init_50 (fun q_13 H_14 hP hD hS => ?_)
  have hP : va_P D vwCl [(sr, .inr (6, [.ref q_1, .ref q_4, .ref q_7, .ref q_10, .null, .null, .null, .int 0])), (q_10, .inl (cJ, 8, .inr (.inl (fun _ => 0)))), (q_13, .inl (cI, 3, .inl (fun _ => 0)))] H_14 := hP
  have hD : va_D A [(sr, .inr (6, [.ref q_1, .ref q_4, .ref q_7, .ref q_10, .null, .null, .null, .int 0])), (q_10, .inl (cJ, 8, .inr (.inl (fun _ => 0)))), (q_13, .inl (cI, 3, .inl (fun _ => 0)))] := hD
  refine W.widen (k := 32) (n := 1262) (Nat.le_of_ble_eq_true rfl) (Nat.le_of_ble_eq_true rfl) ?_
  refine va_putF (D := D) (ci := 6) (v := .ref q_13) (ty := (.array .int)) (C := RX6) (T := TX6) (N := 8) hx hb hts i_X6 tyX6 tyX6_ok nmX6 hown hK hP hD hS 0 rfl rfl 4 (by decide) w_12 (fun _ h9 => h9) rfl hin rfl (by decide +kernel) rfl rfl (Nat.le_of_ble_eq_true rfl) dX6_init_52 (fun H_15 locs hP hD hS => ?_)
  have hP : va_P D vwCl [(sr, .inr (6, [.ref q_1, .ref q_4, .ref q_7, .ref q_10, .ref q_13, .null, .null, .int 0])), (q_10, .inl (cJ, 8, .inr (.inl (fun _ => 0)))), (q_13, .inl (cI, 3, .inl (fun _ => 0)))] H_15 := hP
  have hD : va_D A [(sr, .inr (6, [.ref q_1, .ref q_4, .ref q_7, .ref q_10, .ref q_13, .null, .null, .int 0])), (q_10, .inl (cJ, 8, .inr (.inl (fun _ => 0)))), (q_13, .inl (cI, 3, .inl (fun _ => 0)))] := hD
  refine lv_aload_n hx hb dX6_init_55 rfl (lv_at hl 0 rfl) ?_
  refine lv_null hx hb dX6_init_56 ?_
  refine va_put (D := D) (ci := 6) (v := .null) (ty := (.object "DocumentSpanner$Formula")) (C := RX6) (T := TX6) (N := 8) hx hb hts i_X6 tyX6 tyX6_ok nmX6 hown hK hP hD hS 0 rfl rfl 5 (by decide) w_13 (fun _ h9 => h9) rfl (by decide +kernel) rfl rfl (Nat.le_of_ble_eq_true rfl) dX6_init_57 (fun H_16 locs hP hD hS => ?_)
  have hP : va_P D vwCl [(sr, .inr (6, [.ref q_1, .ref q_4, .ref q_7, .ref q_10, .ref q_13, .null, .null, .int 0])), (q_10, .inl (cJ, 8, .inr (.inl (fun _ => 0)))), (q_13, .inl (cI, 3, .inl (fun _ => 0)))] H_16 := hP
  have hD : va_D A [(sr, .inr (6, [.ref q_1, .ref q_4, .ref q_7, .ref q_10, .ref q_13, .null, .null, .int 0])), (q_10, .inl (cJ, 8, .inr (.inl (fun _ => 0)))), (q_13, .inl (cI, 3, .inl (fun _ => 0)))] := hD
  refine lv_aload_n hx hb dX6_init_60 rfl (lv_at hl 0 rfl) ?_
  refine lv_null hx hb dX6_init_61 ?_
  refine va_put (D := D) (ci := 6) (v := .null) (ty := (.object "DocumentSpanner$Collector")) (C := RX6) (T := TX6) (N := 8) hx hb hts i_X6 tyX6 tyX6_ok nmX6 hown hK hP hD hS 0 rfl rfl 6 (by decide) w_14 (fun _ h9 => h9) rfl (by decide +kernel) rfl rfl (Nat.le_of_ble_eq_true rfl) dX6_init_62 (fun H_17 locs hP hD hS => ?_)
  have hP : va_P D vwCl [(sr, .inr (6, [.ref q_1, .ref q_4, .ref q_7, .ref q_10, .ref q_13, .null, .null, .int 0])), (q_10, .inl (cJ, 8, .inr (.inl (fun _ => 0)))), (q_13, .inl (cI, 3, .inl (fun _ => 0)))] H_17 := hP
  have hD : va_D A [(sr, .inr (6, [.ref q_1, .ref q_4, .ref q_7, .ref q_10, .ref q_13, .null, .null, .int 0])), (q_10, .inl (cJ, 8, .inr (.inl (fun _ => 0)))), (q_13, .inl (cI, 3, .inl (fun _ => 0)))] := hD
  refine lv_aload_n hx hb dX6_init_65 rfl (lv_at hl 0 rfl) ?_
  refine lv_iconst (v := 0) hx hb dX6_init_66 (by decide) ?_
  refine va_put (D := D) (ci := 6) (v := .int 0) (ty := .int) (C := RX6) (T := TX6) (N := 8) hx hb hts i_X6 tyX6 tyX6_ok nmX6 hown hK hP hD hS 0 rfl rfl 7 (by decide) w_15 (fun _ h9 => h9) rfl (by decide +kernel) rfl rfl (Nat.le_of_ble_eq_true rfl) dX6_init_67 (fun H_18 locs hP hD hS => ?_)
  have hP : va_P D vwCl [(sr, .inr (6, [.ref q_1, .ref q_4, .ref q_7, .ref q_10, .ref q_13, .null, .null, .int 0])), (q_10, .inl (cJ, 8, .inr (.inl (fun _ => 0)))), (q_13, .inl (cI, 3, .inl (fun _ => 0)))] H_18 := hP
  have hD : va_D A [(sr, .inr (6, [.ref q_1, .ref q_4, .ref q_7, .ref q_10, .ref q_13, .null, .null, .int 0])), (q_10, .inl (cJ, 8, .inr (.inl (fun _ => 0)))), (q_13, .inl (cI, 3, .inl (fun _ => 0)))] := hD
  have hP9 := hP.sub (ws' := []) [] rfl
  have hD9 := hD.sub (ws' := []) [] (by decide) rfl
  refine W.widen (k := 32) (n := 1262) (Nat.le_of_ble_eq_true rfl) (Nat.le_of_ble_eq_true rfl) ?_
  exact W.vret hx hb hr (fun t ht hW => ⟨⟨(), rfl, trivial, by rw [ht]; exact hP9, hD9⟩, hS.F ht⟩) hS.2.2 dX6_init_70
