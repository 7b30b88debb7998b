def wk_X9_isVariable : List Cond := .code yX9_isVariable cX9_isVariable 1 (some .boolean) :: (([] : List Cond))
set_option maxHeartbeats 4000000 in
set_option maxRecDepth 100000 in
theorem k_X9_isVariable (l : Launch) (htr : l.stackTraces = false) (D : va_G) (cI cJ cZ : ClassId) (a0 : Int32) (sz : Nat) : Met l yX9_isVariable wk_X9_isVariable ({ frames := 0, cells := 0, slots := 0, locals := 0 }) (xPc D cI cJ cZ [.int a0] [] sz) (va_Qi (fun (r : Int32) (u : Unit) => (r = 0 ∧ a0.toInt < 88) ∨ (r = 0 ∧ 88 ≤ a0.toInt ∧ 90 < a0.toInt) ∨ (r = 1 ∧ 88 ≤ a0.toInt ∧ a0.toInt ≤ 90)) (fun (u : Unit) (t : State) => va_P D vwCl ([] : va_W) t.heap ∧ va_D (va_A [] sz) ([] : va_W)) (va_A [] sz)) 0 0 (va_A [] sz) := by
  refine Met.ofW (cc := cX9_isVariable) (maxL := 1) (ret := (some .boolean)) (by decide) rfl ?_
  intro p e s m args below meth c s₁ B hml hv
  obtain ⟨rfl, hsz, hP, hK, hD0, hE, hV⟩ := hv
  have hx := B.exec
  have hb := B.bytes
  have hr := B.returns
  have hts := atoms_spec (ws := wk_X9_isVariable) B.pre
  have hown : s.vm.findClass RX9 = some m.cls := findClass_of_methodNamed B.named
  have hlocks := B.notSynchronized
  subst hsz
  have hD := hD0.self (sz := s.heap.size)
  generalize hAe : va_A [] s.heap.size = A at hD hE ⊢
  have hA : ∀ q : Nat, s.heap.size ≤ q → A q := fun q h => by rw [← hAe]; exact Or.inr h
  have hS : va_S A s.heap s.heap [] := va_S.rf
  have hP : va_P D vwCl [] s.heap := hP
  have hl := lv_entry ([.int a0]) (n := 1) (Nat.le_of_ble_eq_true rfl)
  rw [lg_entry_eq]
  generalize (lg_sl ([.int a0]) ++ List.replicate (1 - (lg_sl ([.int a0])).length) Slot.unset).toArray = ls at hl ⊢
  have hl : lv_has ls 1 [(0, .int a0)] := hl
  refine lv_iload_n hx hb dX9_isVariable_0 rfl (lv_at hl 0 rfl) ?_
  refine lv_bipush (v := 88) hx hb dX9_isVariable_1 (by decide) ?_
  refine lv_icmp_lt (tgt := 16) hx hb dX9_isVariable_3 (by decide) (fun c_1 => ?_) (fun c_1 => ?_)
  · have c_1 : a0.toInt < 88 := xlt c_1
    refine lv_iconst (v := 0) hx hb dX9_isVariable_16 (by decide) ?_
    have hP9 := hP.sub (ws' := []) [] rfl
    have hD9 := hD.sub (ws' := []) [] (by decide) rfl
    refine W.widen (k := 0) (n := 0) (Nat.le_of_ble_eq_true rfl) (Nat.le_of_ble_eq_true rfl) ?_
    exact W.zret (v := 0) (ty := .boolean) hx hb hr rfl (fun t ht hW => ⟨⟨0, (), rfl, Or.inl ⟨rfl, c_1⟩, by rw [ht]; exact hP9, hD9⟩, hS.F ht⟩) hS.2.2 dX9_isVariable_17
  · have c_1 : 88 ≤ a0.toInt := xnlt c_1
    refine lv_iload_n hx hb dX9_isVariable_6 rfl (lv_at hl 0 rfl) ?_
    refine lv_bipush (v := 90) hx hb dX9_isVariable_7 (by decide) ?_
    refine lv_icmp_gt (tgt := 16) hx hb dX9_isVariable_9 (by decide) (fun c_2 => ?_) (fun c_2 => ?_)
    · have c_2 : 90 < a0.toInt := xlt c_2
      refine lv_iconst (v := 0) hx hb dX9_isVariable_16 (by decide) ?_
      have hP9 := hP.sub (ws' := []) [] rfl
      have hD9 := hD.sub (ws' := []) [] (by decide) rfl
      refine W.widen (k := 0) (n := 0) (Nat.le_of_ble_eq_true rfl) (Nat.le_of_ble_eq_true rfl) ?_
      exact W.zret (v := 0) (ty := .boolean) hx hb hr rfl (fun t ht hW => ⟨⟨0, (), rfl, Or.inr (Or.inl ⟨rfl, c_1, c_2⟩), by rw [ht]; exact hP9, hD9⟩, hS.F ht⟩) hS.2.2 dX9_isVariable_17
    · have c_2 : a0.toInt ≤ 90 := xnlt c_2
      refine lv_iconst (v := 1) hx hb dX9_isVariable_12 (by decide) ?_
      refine lv_goto (tgt := 17) hx hb dX9_isVariable_13 (by decide) ?_
      have hP9 := hP.sub (ws' := []) [] rfl
      have hD9 := hD.sub (ws' := []) [] (by decide) rfl
      refine W.widen (k := 0) (n := 0) (Nat.le_of_ble_eq_true rfl) (Nat.le_of_ble_eq_true rfl) ?_
      exact W.zret (v := 1) (ty := .boolean) hx hb hr rfl (fun t ht hW => ⟨⟨1, (), rfl, Or.inr (Or.inr ⟨rfl, c_1, c_2⟩), by rw [ht]; exact hP9, hD9⟩, hS.F ht⟩) hS.2.2 dX9_isVariable_17
def wk_X9_firstFault : List Cond := .code yX9_firstFault cX9_firstFault 8 (some .int) :: (([.arrayClass .int, .methodLink RX9 19 yX9_isVariable, .static yX9_isVariable, .initialized RX9, .code yX9_isVariable cX9_isVariable 1 (some .boolean)] : List Cond))
set_option maxRecDepth 20000 in
theorem ggk_X9_firstFault_X9_isVariable : GoodIn wk_X9_firstFault wk_X9_isVariable := goodIn_r _ [5] (by decide +kernel) (by decide +kernel)
set_option maxRecDepth 20000 in
theorem gk_X9_firstFault_X9_isVariable : GoodIn wk_X9_firstFault (va_wsS RX9 19 yX9_isVariable wk_X9_isVariable) := goodIn_app (goodIn_r _ [2, 3, 4] (by decide +kernel) (by decide +kernel)) ggk_X9_firstFault_X9_isVariable
set_option maxHeartbeats 4000000 in
set_option maxRecDepth 100000 in
theorem k_X9_firstFault (l : Launch) (htr : l.stackTraces = false) (D : va_G) (cI cJ cZ : ClassId) (bf : Nat) (sz : Nat) : Met l yX9_firstFault wk_X9_firstFault ({ frames := 1, cells := 1, slots := 6, locals := 20 }) (xPc D cI cJ cZ [.ref bf, .int 0] [(bf, .inl (cI, 40, .inl (fun _ => 0)))] sz) (va_Qi (fun (r : Int32) (u : Unit) => (r = (-1))) (fun (u : Unit) (t : State) => va_P D vwCl ([(bf, .inl (cI, 40, .inl (fun _ => 0)))] : va_W) t.heap ∧ va_D (va_A [(bf, .inl (cI, 40, .inl (fun _ => 0)))] sz) ([(bf, .inl (cI, 40, .inl (fun _ => 0)))] : va_W)) (va_A [(bf, .inl (cI, 40, .inl (fun _ => 0)))] sz)) 1 6 (va_A [(bf, .inl (cI, 40, .inl (fun _ => 0)))] sz) := by
  refine Met.ofW (cc := cX9_firstFault) (maxL := 8) (ret := (some .int)) (by decide) rfl ?_
  intro p e s m args below meth c s₁ B hml hv
  obtain ⟨rfl, hsz, hP, hK, hD0, hE, hV⟩ := hv
  have hx := B.exec
  have hb := B.bytes
  have hr := B.returns
  have hts := atoms_spec (ws := wk_X9_firstFault) B.pre
  have hown : s.vm.findClass RX9 = some m.cls := findClass_of_methodNamed B.named
  have hlocks := B.notSynchronized
  have w_1 := hts (.arrayClass .int) (List.mem_of_getElem? (i := 1) rfl)
  subst hsz
  have hD := hD0.self (sz := s.heap.size)
  generalize hAe : va_A [(bf, .inl (cI, 40, .inl (fun _ => 0)))] s.heap.size = A at hD hE ⊢
  have hA : ∀ q : Nat, s.heap.size ≤ q → A q := fun q h => by rw [← hAe]; exact Or.inr h
  have hS : va_S A s.heap s.heap [] := va_S.rf
  have hP : va_P D vwCl [(bf, .inl (cI, 40, .inl (fun _ => 0)))] s.heap := hP
  have hl := lv_entry ([.ref bf, .int 0]) (n := 8) (Nat.le_of_ble_eq_true rfl)
  rw [lg_entry_eq]
  generalize (lg_sl ([.ref bf, .int 0]) ++ List.replicate (8 - (lg_sl ([.ref bf, .int 0])).length) Slot.unset).toArray = ls at hl ⊢
  have hl : lv_has ls 8 [(0, .ref bf), (1, .int 0)] := hl
  refine lv_bipush (v := 6) hx hb dX9_firstFault_0 (by decide) ?_
  refine xNewa (atype := .int) (ty := .int) (a0 := (6, .inl (fun _ => 0))) (N' := 6) hx hb w_1 rfl (fun _ h => h) 0 rfl hK hP hD hS hA (fun _ => rfl) (by decide) (by decide) (Nat.le_of_ble_eq_true rfl) (Nat.le_of_ble_eq_true rfl) (Nat.le_of_ble_eq_true rfl) dX9_firstFault_2 (fun q_1 H_2 hP hD hS => ?_)
  have hP : va_P D vwCl [(bf, .inl (cI, 40, .inl (fun _ => 0))), (q_1, .inl (cI, 6, .inl (fun _ => 0)))] H_2 := hP
  have hD : va_D A [(bf, .inl (cI, 40, .inl (fun _ => 0))), (q_1, .inl (cI, 6, .inl (fun _ => 0)))] := hD
  refine W.widen (k := 1) (n := 6) (Nat.le_of_ble_eq_true rfl) (Nat.le_of_ble_eq_true rfl) ?_
  refine lv_astore_n (lv' := [(2, .ref q_1), (0, .ref bf), (1, .int 0)]) hx hb dX9_firstFault_4 rfl hl (by decide) rfl (fun ls hl => ?_)
  refine lv_iconst (v := 0) hx hb dX9_firstFault_5 (by decide) ?_
  refine lv_istore_n (lv' := [(3, .int 0), (2, .ref q_1), (0, .ref bf), (1, .int 0)]) hx hb dX9_firstFault_6 rfl hl (by decide) rfl (fun ls hl => ?_)
  refine lv_iconst (v := (-1)) hx hb dX9_firstFault_7 (by decide) ?_
  refine lv_istore (lv' := [(4, .int (-1)), (3, .int 0), (2, .ref q_1), (0, .ref bf), (1, .int 0)]) hx hb dX9_firstFault_8 hl (by decide) rfl (fun ls hl => ?_)
  refine lv_iconst (v := 0) hx hb dX9_firstFault_10 (by decide) ?_
  refine lv_istore (lv' := [(5, .int 0), (4, .int (-1)), (3, .int 0), (2, .ref q_1), (0, .ref bf), (1, .int 0)]) hx hb dX9_firstFault_11 hl (by decide) rfl (fun ls hl => ?_)
  refine lv_iload hx hb dX9_firstFault_13 (lv_at hl 0 rfl) ?_
  refine lv_iload_n hx hb dX9_firstFault_15 rfl (lv_at hl 5 rfl) ?_
  refine lv_icmp_ge (tgt := 135) hx hb dX9_firstFault_16 (by decide) (fun _ => ?_) (fun h9 => absurd h9 (by decide))
  refine lv_iload_n hx hb dX9_firstFault_135 rfl (lv_at hl 2 rfl) ?_
  refine lv_if_gt (tgt := 147) hx hb dX9_firstFault_136 (by decide) (fun h9 => absurd h9 (by decide)) (fun _ => ?_)
  refine lv_iload hx hb dX9_firstFault_139 (lv_at hl 1 rfl) ?_
  have hPc := hP.sub (ws' := []) [] rfl
  have hDc := hD.sub (ws' := []) [] (by decide) rfl
  have hFc := va_free (wc := []) hD hS hA [] rfl
  refine va_calli (va_runS (As := [.int (-1)]) (rest := []) ⟨hx, hb, hml, hown, hts⟩ (k_X9_isVariable l htr D cI cJ cZ ((-1)) H_2.size) (va_cwS 1 hts gk_X9_firstFault_X9_isVariable rfl rfl rfl (by decide +kernel) ⟨Nat.le_of_ble_eq_true rfl, Nat.le_of_ble_eq_true rfl⟩) ⟨xPc_blind, xPc_pre hPc hK hDc hE hS hFc hV⟩ rfl rfl hl.1 rfl (lv_room (Nat.le_of_ble_eq_true rfl)) dX9_firstFault_141 ⟨Nat.le_of_ble_eq_true rfl, Nat.le_of_ble_eq_true rfl⟩) hS (fun q _ h => hFc q h) hFc (fun r u t H_3 locs ht hvm hw hB hz1 hk1 hS => ?_)
  rcases hw with ⟨rfl, e_0⟩ | ⟨rfl, e_0, e_1⟩ | ⟨rfl, e_0, e_1⟩
  · obtain ⟨hP1, hD1⟩ := hB
    rw [ht] at hP1
    obtain ⟨hP, hD⟩ := va_join (wr := [(bf, .inl (cI, 40, .inl (fun _ => 0))), (q_1, .inl (cI, 6, .inl (fun _ => 0)))]) (w1 := []) hP hD [] [0, 1] rfl rfl (by decide) (by decide) hk1 hFc hP1 hD1
    have hP : va_P D vwCl [(bf, .inl (cI, 40, .inl (fun _ => 0))), (q_1, .inl (cI, 6, .inl (fun _ => 0)))] H_3 := hP
    have hD : va_D A [(bf, .inl (cI, 40, .inl (fun _ => 0))), (q_1, .inl (cI, 6, .inl (fun _ => 0)))] := hD
    refine W.widen (k := 1) (n := 6) (Nat.le_of_ble_eq_true rfl) (Nat.le_of_ble_eq_true rfl) ?_
    refine lv_if_eq (tgt := 151) hx hb dX9_firstFault_144 (by decide) (fun _ => ?_) (fun h9 => absurd h9 (by decide))
    refine lv_iconst (v := (-1)) hx hb dX9_firstFault_151 (by decide) ?_
    have hP9 := hP.sub (ws' := [(bf, .inl (cI, 40, .inl (fun _ => 0)))]) [0] rfl
    have hD9 := hD.sub (ws' := [(bf, .inl (cI, 40, .inl (fun _ => 0)))]) [0] (by decide) rfl
    refine W.widen (k := 1) (n := 6) (Nat.le_of_ble_eq_true rfl) (Nat.le_of_ble_eq_true rfl) ?_
    exact W.iret (v := (-1)) hx hb hr (fun t ht hW => ⟨⟨(-1), (), rfl, rfl, by rw [ht]; exact hP9, hD9⟩, hS.F ht⟩) hS.2.2 dX9_firstFault_152
  · have c_4 : 88 ≤ (-1) := e_0
    exact absurd c_4 (by decide)
  · have c_5 : 88 ≤ (-1) := e_0
    exact absurd c_5 (by decide)
def wk_J7_copyOf_59c91 : List Cond := .code yJ7_copyOf_59c91 cJ7_copyOf_59c91 3 (some (.array .int)) :: (([.arrayClass .int, .methodLink RJ7 304 Lib.Math.min.name, .static Lib.Math.min.name, .initialized "java/lang/Math", .code Lib.Math.min.name Lib.Math.min.code 2 (some .int), .methodLink RJ7 150 arraycopyName, .native arraycopyName, .static arraycopyName, .initialized "java/lang/System"] : List Cond))
set_option maxHeartbeats 4000000 in
set_option maxRecDepth 100000 in
theorem k_J7_copyOf_59c91 (l : Launch) (htr : l.stackTraces = false) (D : va_G) (cI cJ cZ : ClassId) (bf : Nat) (sz : Nat) : Met l yJ7_copyOf_59c91 wk_J7_copyOf_59c91 ({ frames := 1, cells := 1, slots := 0, locals := 60 }) (xPc D cI cJ cZ [.ref bf, .int 0] [(bf, .inl (cI, 40, .inl (fun _ => 0)))] sz) (va_Qr (fun (u : Unit) => True) (fun (u : Unit) (q_1 : Nat) (t : State) => va_P D vwCl ([(q_1, .inl (cI, 0, .inl (va_cpy (fun _ => 0) (fun _ => 0) (0 : Int32).toNatClampNeg (0 : Int32).toNatClampNeg (0 : Int32).toNatClampNeg)))] : va_W) t.heap ∧ va_D (va_A [(bf, .inl (cI, 40, .inl (fun _ => 0)))] sz) ([(q_1, .inl (cI, 0, .inl (va_cpy (fun _ => 0) (fun _ => 0) (0 : Int32).toNatClampNeg (0 : Int32).toNatClampNeg (0 : Int32).toNatClampNeg)))] : va_W)) (va_A [(bf, .inl (cI, 40, .inl (fun _ => 0)))] sz)) 1 0 (va_A [(bf, .inl (cI, 40, .inl (fun _ => 0)))] sz) := by
  refine Met.ofW (cc := cJ7_copyOf_59c91) (maxL := 3) (ret := (some (.array .int))) (by decide) rfl ?_
  intro p e s m args below meth c s₁ B hml hv
  obtain ⟨rfl, hsz, hP, hK, hD0, hE, hV⟩ := hv
  have hx := B.exec
  have hb := B.bytes
  have hr := B.returns
  have hts := atoms_spec (ws := wk_J7_copyOf_59c91) B.pre
  have hown : s.vm.findClass RJ7 = some m.cls := findClass_of_methodNamed B.named
  have hlocks := B.notSynchronized
  have w_1 := hts (.arrayClass .int) (List.mem_of_getElem? (i := 1) rfl)
  have w_2 := hts (.methodLink RJ7 304 Lib.Math.min.name) (List.mem_of_getElem? (i := 2) rfl)
  have w_3 := hts (.static Lib.Math.min.name) (List.mem_of_getElem? (i := 3) rfl)
  have w_4 := hts (.initialized "java/lang/Math") (List.mem_of_getElem? (i := 4) rfl)
  have w_5 := hts (.code Lib.Math.min.name Lib.Math.min.code 2 (some .int)) (List.mem_of_getElem? (i := 5) rfl)
  have w_6 := hts (.methodLink RJ7 150 arraycopyName) (List.mem_of_getElem? (i := 6) rfl)
  have w_7 := hts (.native arraycopyName) (List.mem_of_getElem? (i := 7) rfl)
  have w_8 := hts (.static arraycopyName) (List.mem_of_getElem? (i := 8) rfl)
  have w_9 := hts (.initialized "java/lang/System") (List.mem_of_getElem? (i := 9) rfl)
  subst hsz
  have hD := hD0.self (sz := s.heap.size)
  generalize hAe : va_A [(bf, .inl (cI, 40, .inl (fun _ => 0)))] s.heap.size = A at hD hE ⊢
  have hA : ∀ q : Nat, s.heap.size ≤ q → A q := fun q h => by rw [← hAe]; exact Or.inr h
  have hS : va_S A s.heap s.heap [] := va_S.rf
  have hP : va_P D vwCl [(bf, .inl (cI, 40, .inl (fun _ => 0)))] s.heap := hP
  have hl := lv_entry ([.ref bf, .int 0]) (n := 3) (Nat.le_of_ble_eq_true rfl)
  rw [lg_entry_eq]
  generalize (lg_sl ([.ref bf, .int 0]) ++ List.replicate (3 - (lg_sl ([.ref bf, .int 0])).length) Slot.unset).toArray = ls at hl ⊢
  have hl : lv_has ls 3 [(0, .ref bf), (1, .int 0)] := hl
  refine lv_iload_n hx hb dJ7_copyOf_59c91_0 rfl (lv_at hl 1 rfl) ?_
  refine lv_aload_n hx hb dJ7_copyOf_59c91_1 rfl (lv_at hl 0 rfl) ?_
  refine va_alen (v := 40) hx hb hK hP 0 0 rfl rfl rfl dJ7_copyOf_59c91_2 ?_
  refine lv_icmp_ne (tgt := 14) hx hb dJ7_copyOf_59c91_3 (by decide) (fun _ => ?_) (fun h9 => absurd h9 (by decide))
  refine lv_iload_n hx hb dJ7_copyOf_59c91_14 rfl (lv_at hl 1 rfl) ?_
  refine xNewa (atype := .int) (ty := .int) (a0 := (0, .inl (fun _ => 0))) (N' := 0) hx hb w_1 rfl (fun _ h => h) 0 rfl hK hP hD hS hA (fun _ => rfl) (by decide) (by decide) (Nat.le_of_ble_eq_true rfl) (Nat.le_of_ble_eq_true rfl) (Nat.le_of_ble_eq_true rfl) dJ7_copyOf_59c91_15 (fun q_1 H_2 hP hD hS => ?_)
  have hP : va_P D vwCl [(bf, .inl (cI, 40, .inl (fun _ => 0))), (q_1, .inl (cI, 0, .inl (fun _ => 0)))] H_2 := hP
  have hD : va_D A [(bf, .inl (cI, 40, .inl (fun _ => 0))), (q_1, .inl (cI, 0, .inl (fun _ => 0)))] := hD
  refine W.widen (k := 1) (n := 0) (Nat.le_of_ble_eq_true rfl) (Nat.le_of_ble_eq_true rfl) ?_
  refine lv_astore_n (lv' := [(2, .ref q_1), (0, .ref bf), (1, .int 0)]) hx hb dJ7_copyOf_59c91_17 rfl hl (by decide) rfl (fun ls hl => ?_)
  refine lv_aload_n hx hb dJ7_copyOf_59c91_18 rfl (lv_at hl 1 rfl) ?_
  refine lv_iconst (v := 0) hx hb dJ7_copyOf_59c91_19 (by decide) ?_
  refine lv_aload_n hx hb dJ7_copyOf_59c91_20 rfl (lv_at hl 0 rfl) ?_
  refine lv_iconst (v := 0) hx hb dJ7_copyOf_59c91_21 (by decide) ?_
  refine lv_aload_n hx hb dJ7_copyOf_59c91_22 rfl (lv_at hl 1 rfl) ?_
  refine va_alen (v := 40) hx hb hK hP 0 0 rfl rfl rfl dJ7_copyOf_59c91_23 ?_
  refine lv_iload_n hx hb dJ7_copyOf_59c91_24 rfl (lv_at hl 2 rfl) ?_
  refine va_mmin (x := 40) (y := 0) hx hb (hml.trans hl.1.symm) hown w_2 w_3 w_4 w_5 (Nat.le_of_ble_eq_true rfl) (Nat.le_of_ble_eq_true rfl) (Nat.le_of_ble_eq_true rfl) (Nat.le_of_ble_eq_true rfl) dJ7_copyOf_59c91_25 ?_
  refine W.eq (g2 := F0 m 28 ls [.int 0, .int 0, .ref q_1, .int 0, .ref bf]) rfl ?_
  refine va_copyi (ty := .int) (sp := 0) (dp := 0) (n := 0) hx hb (hml.trans hl.1.symm) hown w_6 w_7 w_8 w_9 hK hP hD hS 0 1 0 0 rfl rfl rfl rfl rfl (by decide) (by decide) (by decide) (by decide) (by decide) (fun _ _ => rfl) (Nat.le_of_ble_eq_true rfl) (by decide +kernel) dJ7_copyOf_59c91_28 (fun H_3 locs hP hD hS => ?_)
  have hP : va_P D vwCl [(bf, .inl (cI, 40, .inl (fun _ => 0))), (q_1, .inl (cI, 0, .inl (va_cpy (fun _ => 0) (fun _ => 0) (0 : Int32).toNatClampNeg (0 : Int32).toNatClampNeg (0 : Int32).toNatClampNeg)))] H_3 := hP
  have hD : va_D A [(bf, .inl (cI, 40, .inl (fun _ => 0))), (q_1, .inl (cI, 0, .inl (va_cpy (fun _ => 0) (fun _ => 0) (0 : Int32).toNatClampNeg (0 : Int32).toNatClampNeg (0 : Int32).toNatClampNeg)))] := hD
  refine lv_aload_n hx hb dJ7_copyOf_59c91_31 rfl (lv_at hl 0 rfl) ?_
  have hP9 := hP.sub (ws' := [(q_1, .inl (cI, 0, .inl (va_cpy (fun _ => 0) (fun _ => 0) (0 : Int32).toNatClampNeg (0 : Int32).toNatClampNeg (0 : Int32).toNatClampNeg)))]) [1] rfl
  have hD9 := hD.sub (ws' := [(q_1, .inl (cI, 0, .inl (va_cpy (fun _ => 0) (fun _ => 0) (0 : Int32).toNatClampNeg (0 : Int32).toNatClampNeg (0 : Int32).toNatClampNeg)))]) [1] (by decide) rfl
  refine W.widen (k := 1) (n := 0) (Nat.le_of_ble_eq_true rfl) (Nat.le_of_ble_eq_true rfl) ?_
  exact W.aret (v := .ref q_1) hx hb hr (Or.inr ⟨_, rfl⟩) (Or.inr ⟨_, rfl⟩) (fun t ht hW => ⟨⟨(), q_1, rfl, trivial, by rw [ht]; exact hP9, hD9⟩, hS.F ht⟩) hS.2.2 dJ7_copyOf_59c91_32
def wk_X2_init : List Cond := .code yX2_init cX2_init 3 none :: (([.methodLink RX2 3 objectInit, .instanceMethod objectInit, .code objectInit ⟨#[0xb1]⟩ 1 none, .arrayClass .long, .fieldLink RX2 9 "DocumentSpanner$FormulaReader" "markers" "[J", .fieldLink RX2 15 "DocumentSpanner$FormulaReader" "at" "I", .fieldLink RX2 19 "DocumentSpanner$FormulaReader" "sequential" "Z", .fieldLink RX2 23 "DocumentSpanner$FormulaReader" "functional" "Z", .methodLink RX2 26 Lib.Math.min.name, .static Lib.Math.min.name, .initialized "java/lang/Math", .code Lib.Math.min.name Lib.Math.min.code 2 (some .int), .methodLink RX2 32 Lib.Math.max.name, .static Lib.Math.max.name, .code Lib.Math.max.name Lib.Math.max.code 2 (some .int), .fieldLink RX2 41 "DocumentSpanner$FormulaReader" "text" "[I", .fieldLink RX2 45 "DocumentSpanner$FormulaReader" "follow" "[J", .methodLink RX2 35 yJ7_copyOf_59c91, .static yJ7_copyOf_59c91, .initialized RJ7, .code yJ7_copyOf_59c91 cJ7_copyOf_59c91 3 (some (.array .int)), .arrayClass .int, .methodLink RJ7 304 Lib.Math.min.name, .methodLink RJ7 150 arraycopyName, .native arraycopyName, .static arraycopyName, .initialized "java/lang/System"] : List Cond) ++ wsX20)
set_option maxRecDepth 20000 in
theorem ggk_X2_init_J7_copyOf_59c91 : GoodIn wk_X2_init wk_J7_copyOf_59c91 := goodIn_r _ [21, 22, 23, 10, 11, 12, 24, 25, 26, 27] (by decide +kernel) (by decide +kernel)
set_option maxRecDepth 20000 in
theorem gk_X2_init_J7_copyOf_59c91 : GoodIn wk_X2_init (va_wsS RX2 35 yJ7_copyOf_59c91 wk_J7_copyOf_59c91) := goodIn_app (goodIn_r _ [18, 19, 20] (by decide +kernel) (by decide +kernel)) ggk_X2_init_J7_copyOf_59c91
set_option maxHeartbeats 4000000 in
set_option maxRecDepth 100000 in
theorem k_X2_init (l : Launch) (htr : l.stackTraces = false) (D : va_G) (cI cJ cZ : ClassId) (rd : Nat) (bf : Nat) (sz : Nat) : Met l yX2_init wk_X2_init ({ frames := 2, cells := 3, slots := 6, locals := 82 }) (xPc D cI cJ cZ [.ref rd, .ref bf, .int 0] [(rd, .inr (3, [.null, .null, .null, .int 0, .int 0, .int 0])), (bf, .inl (cI, 40, .inl (fun _ => 0)))] sz) (va_Qv (fun (u : Nat × Nat × Nat) => True) (fun (u : Nat × Nat × Nat) (t : State) => match u with | (ra_8, q_10, q_1) => va_P D vwCl ([(rd, .inr (3, [.ref ra_8, .ref q_10, .ref q_1, .int 0, .int 1, .int 1])), (ra_8, .inl (cI, 0, .inl (va_cpy (fun _ => 0) (fun _ => 0) (0 : Int32).toNatClampNeg (0 : Int32).toNatClampNeg (0 : Int32).toNatClampNeg))), (q_10, .inl (cJ, 0, .inr (.inl (fun _ => 0)))), (q_1, .inl (cJ, 6, .inr (.inl (fun _ => 0))))] : va_W) t.heap ∧ va_D (va_A [(rd, .inr (3, [.null, .null, .null, .int 0, .int 0, .int 0])), (bf, .inl (cI, 40, .inl (fun _ => 0)))] sz) ([(rd, .inr (3, [.ref ra_8, .ref q_10, .ref q_1, .int 0, .int 1, .int 1])), (ra_8, .inl (cI, 0, .inl (va_cpy (fun _ => 0) (fun _ => 0) (0 : Int32).toNatClampNeg (0 : Int32).toNatClampNeg (0 : Int32).toNatClampNeg))), (q_10, .inl (cJ, 0, .inr (.inl (fun _ => 0)))), (q_1, .inl (cJ, 6, .inr (.inl (fun _ => 0))))] : va_W)) (va_A [(rd, .inr (3, [.null, .null, .null, .int 0, .int 0, .int 0])), (bf, .inl (cI, 40, .inl (fun _ => 0)))] sz)) 3 6 (va_A [(rd, .inr (3, [.null, .null, .null, .int 0, .int 0, .int 0])), (bf, .inl (cI, 40, .inl (fun _ => 0)))] sz) := by
  refine Met.ofW (cc := cX2_init) (maxL := 3) (ret := none) (by decide) rfl ?_
  intro p e s m args below meth c s₁ B hml hv
  obtain ⟨rfl, hsz, hP, hK, hD0, hE, hV⟩ := hv
  have hx := B.exec
  have hb := B.bytes
  have hr := B.returns
  have hts := atoms_spec (ws := wk_X2_init) B.pre
  have hown : s.vm.findClass RX2 = some m.cls := findClass_of_methodNamed B.named
  have hlocks := B.notSynchronized
  have hin : meth.name = "<init>" := (name_of_methodNamed B.named B.method).1
  have i_X2 : ∀ w ∈ wsX20, w ∈ wk_X2_init := fun _ h => List.mem_cons_of_mem _ (List.mem_append_right _ h)
  have w_1 := hts (.methodLink RX2 3 objectInit) (List.mem_of_getElem? (i := 1) rfl)
  have w_2 := hts (.instanceMethod objectInit) (List.mem_of_getElem? (i := 2) rfl)
  have w_3 := hts (.code objectInit ⟨#[0xb1]⟩ 1 none) (List.mem_of_getElem? (i := 3) rfl)
  have w_4 := hts (.arrayClass .long) (List.mem_of_getElem? (i := 4) rfl)
  have w_5 := hts (.fieldLink RX2 9 "DocumentSpanner$FormulaReader" "markers" "[J") (List.mem_of_getElem? (i := 5) rfl)
  have w_6 := hts (.fieldLink RX2 15 "DocumentSpanner$FormulaReader" "at" "I") (List.mem_of_getElem? (i := 6) rfl)
  have w_7 := hts (.fieldLink RX2 19 "DocumentSpanner$FormulaReader" "sequential" "Z") (List.mem_of_getElem? (i := 7) rfl)
  have w_8 := hts (.fieldLink RX2 23 "DocumentSpanner$FormulaReader" "functional" "Z") (List.mem_of_getElem? (i := 8) rfl)
  have w_9 := hts (.methodLink RX2 26 Lib.Math.min.name) (List.mem_of_getElem? (i := 9) rfl)
  have w_10 := hts (.static Lib.Math.min.name) (List.mem_of_getElem? (i := 10) rfl)
  have w_11 := hts (.initialized "java/lang/Math") (List.mem_of_getElem? (i := 11) rfl)
  have w_12 := hts (.code Lib.Math.min.name Lib.Math.min.code 2 (some .int)) (List.mem_of_getElem? (i := 12) rfl)
  have w_13 := hts (.methodLink RX2 32 Lib.Math.max.name) (List.mem_of_getElem? (i := 13) rfl)
  have w_14 := hts (.static Lib.Math.max.name) (List.mem_of_getElem? (i := 14) rfl)
  have w_15 := hts (.code Lib.Math.max.name Lib.Math.max.code 2 (some .int)) (List.mem_of_getElem? (i := 15) rfl)
  have w_16 := hts (.fieldLink RX2 41 "DocumentSpanner$FormulaReader" "text" "[I") (List.mem_of_getElem? (i := 16) rfl)
  have w_17 := hts (.fieldLink RX2 45 "DocumentSpanner$FormulaReader" "follow" "[J") (List.mem_of_getElem? (i := 17) rfl)
  subst hsz
  have hD := hD0.self (sz := s.heap.size)
  generalize hAe : va_A [(rd, .inr (3, [.null, .null, .null, .int 0, .int 0, .int 0])), (bf, .inl (cI, 40, .inl (fun _ => 0)))] s.heap.size = A at hD hE ⊢
  have hA : ∀ q : Nat, s.heap.size ≤ q → A q := fun q h => by rw [← hAe]; exact Or.inr h
  have hS : va_S A s.heap s.heap [] := va_S.rf
  have hP : va_P D vwCl [(rd, .inr (3, [.null, .null, .null, .int 0, .int 0, .int 0])), (bf, .inl (cI, 40, .inl (fun _ => 0)))] s.heap := hP
  have hl := lv_entry ([.ref rd, .ref bf, .int 0]) (n := 3) (Nat.le_of_ble_eq_true rfl)
  rw [lg_entry_eq]
  generalize (lg_sl ([.ref rd, .ref bf, .int 0]) ++ List.replicate (3 - (lg_sl ([.ref rd, .ref bf, .int 0])).length) Slot.unset).toArray = ls at hl ⊢
  have hl : lv_has ls 3 [(0, .ref rd), (1, .ref bf), (2, .int 0)] := hl
  refine lv_aload_n hx hb dX2_init_0 rfl (lv_at hl 0 rfl) ?_
  refine W.objInit hx hb hown w_1 w_2 w_3 rfl (by rw [hml]; exact hl.1) rfl dX2_init_1 (Nat.le_of_ble_eq_true rfl) (Nat.le_of_ble_eq_true rfl) ?_
  refine W.eq (g2 := F0 m 4 ls []) rfl ?_
  refine lv_aload_n hx hb dX2_init_4 rfl (lv_at hl 0 rfl) ?_
  refine lv_bipush (v := 6) hx hb dX2_init_5 (by decide) ?_
  refine xNewa (atype := .long) (ty := .long) (a0 := (6, .inr (.inl (fun _ => 0)))) (N' := 6) hx hb w_4 rfl (fun _ h => h) 1 rfl hK hP hD hS hA (fun _ => rfl) (by decide) (by decide) (Nat.le_of_ble_eq_true rfl) (Nat.le_of_ble_eq_true rfl) (Nat.le_of_ble_eq_true rfl) dX2_init_7 (fun q_1 H_2 hP hD hS => ?_)
  have hP : va_P D vwCl [(rd, .inr (3, [.null, .null, .null, .int 0, .int 0, .int 0])), (bf, .inl (cI, 40, .inl (fun _ => 0))), (q_1, .inl (cJ, 6, .inr (.inl (fun _ => 0))))] H_2 := hP
  have hD : va_D A [(rd, .inr (3, [.null, .null, .null, .int 0, .int 0, .int 0])), (bf, .inl (cI, 40, .inl (fun _ => 0))), (q_1, .inl (cJ, 6, .inr (.inl (fun _ => 0))))] := hD
  refine W.widen (k := 1) (n := 6) (Nat.le_of_ble_eq_true rfl) (Nat.le_of_ble_eq_true rfl) ?_
  refine va_putF (D := D) (ci := 3) (v := .ref q_1) (ty := (.array .long)) (C := RX2) (T := TX2) (N := 6) hx hb hts i_X2 tyX2 tyX2_ok nmX2 hown hK hP hD hS 0 rfl rfl 2 (by decide) w_5 (fun _ h9 => h9) rfl hin rfl (by decide +kernel) rfl rfl (Nat.le_of_ble_eq_true rfl) dX2_init_9 (fun H_3 locs hP hD hS => ?_)
  have hP : va_P D vwCl [(rd, .inr (3, [.null, .null, .ref q_1, .int 0, .int 0, .int 0])), (bf, .inl (cI, 40, .inl (fun _ => 0))), (q_1, .inl (cJ, 6, .inr (.inl (fun _ => 0))))] H_3 := hP
  have hD : va_D A [(rd, .inr (3, [.null, .null, .ref q_1, .int 0, .int 0, .int 0])), (bf, .inl (cI, 40, .inl (fun _ => 0))), (q_1, .inl (cJ, 6, .inr (.inl (fun _ => 0))))] := hD
  refine lv_aload_n hx hb dX2_init_12 rfl (lv_at hl 0 rfl) ?_
  refine lv_iconst (v := 0) hx hb dX2_init_13 (by decide) ?_
  refine va_put (D := D) (ci := 3) (v := .int 0) (ty := .int) (C := RX2) (T := TX2) (N := 6) hx hb hts i_X2 tyX2 tyX2_ok nmX2 hown hK hP hD hS 0 rfl rfl 3 (by decide) w_6 (fun _ h9 => h9) rfl (by decide +kernel) rfl rfl (Nat.le_of_ble_eq_true rfl) dX2_init_14 (fun H_4 locs hP hD hS => ?_)
  have hP : va_P D vwCl [(rd, .inr (3, [.null, .null, .ref q_1, .int 0, .int 0, .int 0])), (bf, .inl (cI, 40, .inl (fun _ => 0))), (q_1, .inl (cJ, 6, .inr (.inl (fun _ => 0))))] H_4 := hP
  have hD : va_D A [(rd, .inr (3, [.null, .null, .ref q_1, .int 0, .int 0, .int 0])), (bf, .inl (cI, 40, .inl (fun _ => 0))), (q_1, .inl (cJ, 6, .inr (.inl (fun _ => 0))))] := hD
  refine lv_aload_n hx hb dX2_init_17 rfl (lv_at hl 0 rfl) ?_
  refine lv_iconst (v := 1) hx hb dX2_init_18 (by decide) ?_
  refine va_put (D := D) (ci := 3) (v := .int 1) (ty := .boolean) (C := RX2) (T := TX2) (N := 6) hx hb hts i_X2 tyX2 tyX2_ok nmX2 hown hK hP hD hS 0 rfl rfl 4 (by decide) w_7 (fun _ h9 => h9) rfl (by decide +kernel) rfl rfl (Nat.le_of_ble_eq_true rfl) dX2_init_19 (fun H_5 locs hP hD hS => ?_)
  have hP : va_P D vwCl [(rd, .inr (3, [.null, .null, .ref q_1, .int 0, .int 1, .int 0])), (bf, .inl (cI, 40, .inl (fun _ => 0))), (q_1, .inl (cJ, 6, .inr (.inl (fun _ => 0))))] H_5 := hP
  have hD : va_D A [(rd, .inr (3, [.null, .null, .ref q_1, .int 0, .int 1, .int 0])), (bf, .inl (cI, 40, .inl (fun _ => 0))), (q_1, .inl (cJ, 6, .inr (.inl (fun _ => 0))))] := hD
  refine lv_aload_n hx hb dX2_init_22 rfl (lv_at hl 0 rfl) ?_
  refine lv_iconst (v := 1) hx hb dX2_init_23 (by decide) ?_
  refine va_put (D := D) (ci := 3) (v := .int 1) (ty := .boolean) (C := RX2) (T := TX2) (N := 6) hx hb hts i_X2 tyX2 tyX2_ok nmX2 hown hK hP hD hS 0 rfl rfl 5 (by decide) w_8 (fun _ h9 => h9) rfl (by decide +kernel) rfl rfl (Nat.le_of_ble_eq_true rfl) dX2_init_24 (fun H_6 locs hP hD hS => ?_)
  have hP : va_P D vwCl [(rd, .inr (3, [.null, .null, .ref q_1, .int 0, .int 1, .int 1])), (bf, .inl (cI, 40, .inl (fun _ => 0))), (q_1, .inl (cJ, 6, .inr (.inl (fun _ => 0))))] H_6 := hP
  have hD : va_D A [(rd, .inr (3, [.null, .null, .ref q_1, .int 0, .int 1, .int 1])), (bf, .inl (cI, 40, .inl (fun _ => 0))), (q_1, .inl (cJ, 6, .inr (.inl (fun _ => 0))))] := hD
  refine lv_aload_n hx hb dX2_init_27 rfl (lv_at hl 0 rfl) ?_
  refine lv_aload_n hx hb dX2_init_28 rfl (lv_at hl 1 rfl) ?_
  refine lv_iconst (v := 0) hx hb dX2_init_29 (by decide) ?_
  refine lv_iload_n hx hb dX2_init_30 rfl (lv_at hl 2 rfl) ?_
  refine lv_aload_n hx hb dX2_init_31 rfl (lv_at hl 1 rfl) ?_
  refine va_alen (v := 40) hx hb hK hP 1 0 rfl rfl rfl dX2_init_32 ?_
  refine va_mmin (x := 0) (y := 40) hx hb (hml.trans hl.1.symm) hown w_9 w_10 w_11 w_12 (Nat.le_of_ble_eq_true rfl) (Nat.le_of_ble_eq_true rfl) (Nat.le_of_ble_eq_true rfl) (Nat.le_of_ble_eq_true rfl) dX2_init_33 ?_
  refine W.eq (g2 := F0 m 36 ls [.int 0, .int 0, .ref bf, .ref rd]) rfl ?_
  refine va_mmax (x := 0) (y := 0) hx hb (hml.trans hl.1.symm) hown w_13 w_14 w_11 w_15 (Nat.le_of_ble_eq_true rfl) (Nat.le_of_ble_eq_true rfl) (Nat.le_of_ble_eq_true rfl) (Nat.le_of_ble_eq_true rfl) dX2_init_36 ?_
  refine W.eq (g2 := F0 m 39 ls [.int 0, .ref bf, .ref rd]) rfl ?_
  have hPc := hP.sub (ws' := [(bf, .inl (cI, 40, .inl (fun _ => 0)))]) [1] rfl
  have hDc := hD.sub (ws' := [(bf, .inl (cI, 40, .inl (fun _ => 0)))]) [1] (by decide) rfl
  have hFc := va_free (wc := [(bf, .inl (cI, 40, .inl (fun _ => 0)))]) hD hS hA [1] rfl
  refine va_callr (va_runS (As := [.ref bf, .int 0]) (rest := [.ref rd]) ⟨hx, hb, hml, hown, hts⟩ (k_J7_copyOf_59c91 l htr D cI cJ cZ bf H_6.size) (va_cwS 2 hts gk_X2_init_J7_copyOf_59c91 rfl rfl rfl (by decide +kernel) ⟨Nat.le_of_ble_eq_true rfl, Nat.le_of_ble_eq_true rfl⟩) ⟨xPc_blind, xPc_pre hPc hK hDc hE hS hFc hV⟩ rfl rfl hl.1 rfl (lv_room (Nat.le_of_ble_eq_true rfl)) dX2_init_39 ⟨Nat.le_of_ble_eq_true rfl, Nat.le_of_ble_eq_true rfl⟩) hS (fun q _ h => hFc q h) hFc (fun u ra_8 t H_7 locs ht hvm hw hB hz1 hk1 hS => ?_)
  rcases hw with -
  obtain ⟨hP1, hD1⟩ := hB
  rw [ht] at hP1
  obtain ⟨hP, hD⟩ := va_join (wr := [(rd, .inr (3, [.null, .null, .ref q_1, .int 0, .int 1, .int 1])), (q_1, .inl (cJ, 6, .inr (.inl (fun _ => 0))))]) (w1 := [(ra_8, .inl (cI, 0, .inl (va_cpy (fun _ => 0) (fun _ => 0) (0 : Int32).toNatClampNeg (0 : Int32).toNatClampNeg (0 : Int32).toNatClampNeg)))]) hP hD [1] [0, 2] rfl rfl (by decide) (by decide) hk1 hFc hP1 hD1
  have hP : va_P D vwCl [(rd, .inr (3, [.null, .null, .ref q_1, .int 0, .int 1, .int 1])), (q_1, .inl (cJ, 6, .inr (.inl (fun _ => 0)))), (ra_8, .inl (cI, 0, .inl (va_cpy (fun _ => 0) (fun _ => 0) (0 : Int32).toNatClampNeg (0 : Int32).toNatClampNeg (0 : Int32).toNatClampNeg)))] H_7 := hP
  have hD : va_D A [(rd, .inr (3, [.null, .null, .ref q_1, .int 0, .int 1, .int 1])), (q_1, .inl (cJ, 6, .inr (.inl (fun _ => 0)))), (ra_8, .inl (cI, 0, .inl (va_cpy (fun _ => 0) (fun _ => 0) (0 : Int32).toNatClampNeg (0 : Int32).toNatClampNeg (0 : Int32).toNatClampNeg)))] := hD
  refine W.widen (k := 2) (n := 6) (Nat.le_of_ble_eq_true rfl) (Nat.le_of_ble_eq_true rfl) ?_
  refine va_putF (D := D) (ci := 3) (v := .ref ra_8) (ty := (.array .int)) (C := RX2) (T := TX2) (N := 6) hx hb hts i_X2 tyX2 tyX2_ok nmX2 hown hK hP hD hS 0 rfl rfl 0 (by decide) w_16 (fun _ h9 => h9) rfl hin rfl (by decide +kernel) rfl rfl (Nat.le_of_ble_eq_true rfl) dX2_init_42 (fun H_9 locs hP hD hS => ?_)
  have hP : va_P D vwCl [(rd, .inr (3, [.ref ra_8, .null, .ref q_1, .int 0, .int 1, .int 1])), (q_1, .inl (cJ, 6, .inr (.inl (fun _ => 0)))), (ra_8, .inl (cI, 0, .inl (va_cpy (fun _ => 0) (fun _ => 0) (0 : Int32).toNatClampNeg (0 : Int32).toNatClampNeg (0 : Int32).toNatClampNeg)))] H_9 := hP
  have hD : va_D A [(rd, .inr (3, [.ref ra_8, .null, .ref q_1, .int 0, .int 1, .int 1])), (q_1, .inl (cJ, 6, .inr (.inl (fun _ => 0)))), (ra_8, .inl (cI, 0, .inl (va_cpy (fun _ => 0) (fun _ => 0) (0 : Int32).toNatClampNeg (0 : Int32).toNatClampNeg (0 : Int32).toNatClampNeg)))] := hD
  refine lv_aload_n hx hb dX2_init_45 rfl (lv_at hl 0 rfl) ?_
  refine lv_aload_n hx hb dX2_init_46 rfl (lv_at hl 0 rfl) ?_
  refine va_get (D := D) (ci := 3) (v := .ref ra_8) (C := RX2) (T := TX2) (N := 6) hx hb hts i_X2 hown hK hP 0 rfl rfl 0 (by decide) w_16 (fun _ h9 => h9) rfl dX2_init_47 ?_
  refine va_alen (v := 0) hx hb hK hP 2 0 rfl rfl rfl dX2_init_50 ?_
  refine xNewa (atype := .long) (ty := .long) (a0 := (0, .inr (.inl (fun _ => 0)))) (N' := 0) hx hb w_4 rfl (fun _ h => h) 1 rfl hK hP hD hS hA (fun _ => rfl) (by decide) (by decide) (Nat.le_of_ble_eq_true rfl) (Nat.le_of_ble_eq_true rfl) (Nat.le_of_ble_eq_true rfl) dX2_init_51 (fun q_10 H_11 hP hD hS => ?_)
  have hP : va_P D vwCl [(rd, .inr (3, [.ref ra_8, .null, .ref q_1, .int 0, .int 1, .int 1])), (q_1, .inl (cJ, 6, .inr (.inl (fun _ => 0)))), (ra_8, .inl (cI, 0, .inl (va_cpy (fun _ => 0) (fun _ => 0) (0 : Int32).toNatClampNeg (0 : Int32).toNatClampNeg (0 : Int32).toNatClampNeg))), (q_10, .inl (cJ, 0, .inr (.inl (fun _ => 0))))] H_11 := hP
  have hD : va_D A [(rd, .inr (3, [.ref ra_8, .null, .ref q_1, .int 0, .int 1, .int 1])), (q_1, .inl (cJ, 6, .inr (.inl (fun _ => 0)))), (ra_8, .inl (cI, 0, .inl (va_cpy (fun _ => 0) (fun _ => 0) (0 : Int32).toNatClampNeg (0 : Int32).toNatClampNeg (0 : Int32).toNatClampNeg))), (q_10, .inl (cJ, 0, .inr (.inl (fun _ => 0))))] := hD
  refine W.widen (k := 3) (n := 6) (Nat.le_of_ble_eq_true rfl) (Nat.le_of_ble_eq_true rfl) ?_
  refine va_putF (D := D) (ci := 3) (v := .ref q_10) (ty := (.array .long)) (C := RX2) (T := TX2) (N := 6) hx hb hts i_X2 tyX2 tyX2_ok nmX2 hown hK hP hD hS 0 rfl rfl 1 (by decide) w_17 (fun _ h9 => h9) rfl hin rfl (by decide +kernel) rfl rfl (Nat.le_of_ble_eq_true rfl) dX2_init_53 (fun H_12 locs hP hD hS => ?_)
  have hP : va_P D vwCl [(rd, .inr (3, [.ref ra_8, .ref q_10, .ref q_1, .int 0, .int 1, .int 1])), (q_1, .inl (cJ, 6, .inr (.inl (fun _ => 0)))), (ra_8, .inl (cI, 0, .inl (va_cpy (fun _ => 0) (fun _ => 0) (0 : Int32).toNatClampNeg (0 : Int32).toNatClampNeg (0 : Int32).toNatClampNeg))), (q_10, .inl (cJ, 0, .inr (.inl (fun _ => 0))))] H_12 := hP
  have hD : va_D A [(rd, .inr (3, [.ref ra_8, .ref q_10, .ref q_1, .int 0, .int 1, .int 1])), (q_1, .inl (cJ, 6, .inr (.inl (fun _ => 0)))), (ra_8, .inl (cI, 0, .inl (va_cpy (fun _ => 0) (fun _ => 0) (0 : Int32).toNatClampNeg (0 : Int32).toNatClampNeg (0 : Int32).toNatClampNeg))), (q_10, .inl (cJ, 0, .inr (.inl (fun _ => 0))))] := hD
  have hP9 := hP.sub (ws' := [(rd, .inr (3, [.ref ra_8, .ref q_10, .ref q_1, .int 0, .int 1, .int 1])), (ra_8, .inl (cI, 0, .inl (va_cpy (fun _ => 0) (fun _ => 0) (0 : Int32).toNatClampNeg (0 : Int32).toNatClampNeg (0 : Int32).toNatClampNeg))), (q_10, .inl (cJ, 0, .inr (.inl (fun _ => 0)))), (q_1, .inl (cJ, 6, .inr (.inl (fun _ => 0))))]) [0, 2, 3, 1] rfl
  have hD9 := hD.sub (ws' := [(rd, .inr (3, [.ref ra_8, .ref q_10, .ref q_1, .int 0, .int 1, .int 1])), (ra_8, .inl (cI, 0, .inl (va_cpy (fun _ => 0) (fun _ => 0) (0 : Int32).toNatClampNeg (0 : Int32).toNatClampNeg (0 : Int32).toNatClampNeg))), (q_10, .inl (cJ, 0, .inr (.inl (fun _ => 0)))), (q_1, .inl (cJ, 6, .inr (.inl (fun _ => 0))))]) [0, 2, 3, 1] (by decide) rfl
  refine W.widen (k := 3) (n := 6) (Nat.le_of_ble_eq_true rfl) (Nat.le_of_ble_eq_true rfl) ?_
  exact W.vret hx hb hr (fun t ht hW => ⟨⟨(ra_8, q_10, q_1), rfl, trivial, by rw [ht]; exact hP9, hD9⟩, hS.F ht⟩) hS.2.2 dX2_init_56
def wk_X5_init : List Cond := .code yX5_init cX5_init 7 none :: (([.methodLink RX5 1 objectInit, .instanceMethod objectInit, .code objectInit ⟨#[0xb1]⟩ 1 none, .fieldLink RX5 7 "DocumentSpanner$Part" "nullable" "Z", .fieldLink RX5 13 "DocumentSpanner$Part" "first" "J", .fieldLink RX5 17 "DocumentSpanner$Part" "last" "J", .fieldLink RX5 20 "DocumentSpanner$Part" "mentioned" "I"] : List Cond) ++ wsX50)
set_option maxHeartbeats 4000000 in
set_option maxRecDepth 100000 in
theorem k_X5_init (l : Launch) (htr : l.stackTraces = false) (D : va_G) (cI cJ cZ : ClassId) (pt : Nat) (sz : Nat) : Met l yX5_init wk_X5_init ({ frames := 1, cells := 0, slots := 0, locals := 12 }) (xPc D cI cJ cZ [.ref pt, .int 1, .long 0, .long 0, .int 0] [(pt, .inr (5, [.int 0, .long 0, .long 0, .int 0]))] sz) (va_Qv (fun (u : Unit) => True) (fun (u : Unit) (t : State) => va_P D vwCl ([(pt, .inr (5, [.int 1, .long 0, .long 0, .int 0]))] : va_W) t.heap ∧ va_D (va_A [(pt, .inr (5, [.int 0, .long 0, .long 0, .int 0]))] sz) ([(pt, .inr (5, [.int 1, .long 0, .long 0, .int 0]))] : va_W)) (va_A [(pt, .inr (5, [.int 0, .long 0, .long 0, .int 0]))] sz)) 0 0 (va_A [(pt, .inr (5, [.int 0, .long 0, .long 0, .int 0]))] sz) := by
  refine Met.ofW (cc := cX5_init) (maxL := 7) (ret := none) (by decide) rfl ?_
  intro p e s m args below meth c s₁ B hml hv
  obtain ⟨rfl, hsz, hP, hK, hD0, hE, hV⟩ := hv
  have hx := B.exec
  have hb := B.bytes
  have hr := B.returns
  have hts := atoms_spec (ws := wk_X5_init) B.pre
  have hown : s.vm.findClass RX5 = some m.cls := findClass_of_methodNamed B.named
  have hlocks := B.notSynchronized
  have hin : meth.name = "<init>" := (name_of_methodNamed B.named B.method).1
  have i_X5 : ∀ w ∈ wsX50, w ∈ wk_X5_init := fun _ h => List.mem_cons_of_mem _ (List.mem_append_right _ h)
  have w_1 := hts (.methodLink RX5 1 objectInit) (List.mem_of_getElem? (i := 1) rfl)
  have w_2 := hts (.instanceMethod objectInit) (List.mem_of_getElem? (i := 2) rfl)
  have w_3 := hts (.code objectInit ⟨#[0xb1]⟩ 1 none) (List.mem_of_getElem? (i := 3) rfl)
  have w_4 := hts (.fieldLink RX5 7 "DocumentSpanner$Part" "nullable" "Z") (List.mem_of_getElem? (i := 4) rfl)
  have w_5 := hts (.fieldLink RX5 13 "DocumentSpanner$Part" "first" "J") (List.mem_of_getElem? (i := 5) rfl)
  have w_6 := hts (.fieldLink RX5 17 "DocumentSpanner$Part" "last" "J") (List.mem_of_getElem? (i := 6) rfl)
  have w_7 := hts (.fieldLink RX5 20 "DocumentSpanner$Part" "mentioned" "I") (List.mem_of_getElem? (i := 7) rfl)
  subst hsz
  have hD := hD0.self (sz := s.heap.size)
  generalize hAe : va_A [(pt, .inr (5, [.int 0, .long 0, .long 0, .int 0]))] s.heap.size = A at hD hE ⊢
  have hA : ∀ q : Nat, s.heap.size ≤ q → A q := fun q h => by rw [← hAe]; exact Or.inr h
  have hS : va_S A s.heap s.heap [] := va_S.rf
  have hP : va_P D vwCl [(pt, .inr (5, [.int 0, .long 0, .long 0, .int 0]))] s.heap := hP
  have hl := lv_entry ([.ref pt, .int 1, .long 0, .long 0, .int 0]) (n := 7) (Nat.le_of_ble_eq_true rfl)
  rw [lg_entry_eq]
  generalize (lg_sl ([.ref pt, .int 1, .long 0, .long 0, .int 0]) ++ List.replicate (7 - (lg_sl ([.ref pt, .int 1, .long 0, .long 0, .int 0])).length) Slot.unset).toArray = ls at hl ⊢
  have hl : lv_has ls 7 [(0, .ref pt), (1, .int 1), (2, .long 0), (4, .long 0), (6, .int 0)] := hl
  refine lv_aload_n hx hb dX5_init_0 rfl (lv_at hl 0 rfl) ?_
  refine W.objInit hx hb hown w_1 w_2 w_3 rfl (by rw [hml]; exact hl.1) rfl dX5_init_1 (Nat.le_of_ble_eq_true rfl) (Nat.le_of_ble_eq_true rfl) ?_
  refine W.eq (g2 := F0 m 4 ls []) rfl ?_
  refine lv_aload_n hx hb dX5_init_4 rfl (lv_at hl 0 rfl) ?_
  refine lv_iload_n hx hb dX5_init_5 rfl (lv_at hl 1 rfl) ?_
  refine va_putF (D := D) (ci := 5) (v := .int 1) (ty := .boolean) (C := RX5) (T := TX5) (N := 4) hx hb hts i_X5 tyX5 tyX5_ok nmX5 hown hK hP hD hS 0 rfl rfl 0 (by decide) w_4 (fun _ h9 => h9) rfl hin rfl (by decide +kernel) rfl rfl (Nat.le_of_ble_eq_true rfl) dX5_init_6 (fun H_1 locs hP hD hS => ?_)
  have hP : va_P D vwCl [(pt, .inr (5, [.int 1, .long 0, .long 0, .int 0]))] H_1 := hP
  have hD : va_D A [(pt, .inr (5, [.int 1, .long 0, .long 0, .int 0]))] := hD
  refine lv_aload_n hx hb dX5_init_9 rfl (lv_at hl 0 rfl) ?_
  refine lv_lload_n hx hb dX5_init_10 rfl (lv_at hl 2 rfl) ?_
  refine va_putF (D := D) (ci := 5) (v := .long 0) (ty := .long) (C := RX5) (T := TX5) (N := 4) hx hb hts i_X5 tyX5 tyX5_ok nmX5 hown hK hP hD hS 0 rfl rfl 1 (by decide) w_5 (fun _ h9 => h9) rfl hin rfl (by decide +kernel) rfl rfl (Nat.le_of_ble_eq_true rfl) dX5_init_11 (fun H_2 locs hP hD hS => ?_)
  have hP : va_P D vwCl [(pt, .inr (5, [.int 1, .long 0, .long 0, .int 0]))] H_2 := hP
  have hD : va_D A [(pt, .inr (5, [.int 1, .long 0, .long 0, .int 0]))] := hD
  refine lv_aload_n hx hb dX5_init_14 rfl (lv_at hl 0 rfl) ?_
  refine lv_lload hx hb dX5_init_15 (lv_at hl 3 rfl) ?_
  refine va_putF (D := D) (ci := 5) (v := .long 0) (ty := .long) (C := RX5) (T := TX5) (N := 4) hx hb hts i_X5 tyX5 tyX5_ok nmX5 hown hK hP hD hS 0 rfl rfl 2 (by decide) w_6 (fun _ h9 => h9) rfl hin rfl (by decide +kernel) rfl rfl (Nat.le_of_ble_eq_true rfl) dX5_init_17 (fun H_3 locs hP hD hS => ?_)
  have hP : va_P D vwCl [(pt, .inr (5, [.int 1, .long 0, .long 0, .int 0]))] H_3 := hP
  have hD : va_D A [(pt, .inr (5, [.int 1, .long 0, .long 0, .int 0]))] := hD
  refine lv_aload_n hx hb dX5_init_20 rfl (lv_at hl 0 rfl) ?_
  refine lv_iload hx hb dX5_init_21 (lv_at hl 4 rfl) ?_
  refine va_putF (D := D) (ci := 5) (v := .int 0) (ty := .int) (C := RX5) (T := TX5) (N := 4) hx hb hts i_X5 tyX5 tyX5_ok nmX5 hown hK hP hD hS 0 rfl rfl 3 (by decide) w_7 (fun _ h9 => h9) rfl hin rfl (by decide +kernel) rfl rfl (Nat.le_of_ble_eq_true rfl) dX5_init_23 (fun H_4 locs hP hD hS => ?_)
  have hP : va_P D vwCl [(pt, .inr (5, [.int 1, .long 0, .long 0, .int 0]))] H_4 := hP
  have hD : va_D A [(pt, .inr (5, [.int 1, .long 0, .long 0, .int 0]))] := hD
  have hP9 := hP.sub (ws' := [(pt, .inr (5, [.int 1, .long 0, .long 0, .int 0]))]) [0] rfl
  have hD9 := hD.sub (ws' := [(pt, .inr (5, [.int 1, .long 0, .long 0, .int 0]))]) [0] (by decide) rfl
  refine W.widen (k := 0) (n := 0) (Nat.le_of_ble_eq_true rfl) (Nat.le_of_ble_eq_true rfl) ?_
  exact W.vret hx hb hr (fun t ht hW => ⟨⟨(), rfl, trivial, by rw [ht]; exact hP9, hD9⟩, hS.F ht⟩) hS.2.2 dX5_init_26
def wk_X5_ofNothing : List Cond := .code yX5_ofNothing cX5_ofNothing 0 (some (.object "DocumentSpanner$Part")) :: (([.classLink RX5 8 RX5, .instantiable RX5 4, .initialized RX5, .methodLink RX5 24 yX5_init, .instanceMethod yX5_init, .code yX5_init cX5_init 7 none, .methodLink RX5 1 objectInit, .instanceMethod objectInit, .code objectInit ⟨#[0xb1]⟩ 1 none, .fieldLink RX5 7 "DocumentSpanner$Part" "nullable" "Z", .fieldLink RX5 13 "DocumentSpanner$Part" "first" "J", .fieldLink RX5 17 "DocumentSpanner$Part" "last" "J", .fieldLink RX5 20 "DocumentSpanner$Part" "mentioned" "I"] : List Cond) ++ wsX50)
set_option maxRecDepth 20000 in
theorem ggk_X5_ofNothing_X5_init : GoodIn wk_X5_ofNothing wk_X5_init := goodIn_ca (goodIn_r _ [6, 7, 8, 9, 10, 11, 12, 13] (by decide +kernel) (by decide +kernel)) (goodIn_sub (fun _ h => List.mem_cons_of_mem _ (List.mem_append_right _ h)) (by decide +kernel))
theorem gk_X5_ofNothing_X5_init : GoodIn wk_X5_ofNothing wk_X5_init := ggk_X5_ofNothing_X5_init
set_option maxHeartbeats 4000000 in
set_option maxRecDepth 100000 in
theorem k_X5_ofNothing (l : Launch) (htr : l.stackTraces = false) (D : va_G) (cI cJ cZ : ClassId)  (sz : Nat) : Met l yX5_ofNothing wk_X5_ofNothing ({ frames := 2, cells := 1, slots := 4, locals := 38 }) (xPc D cI cJ cZ [] [] sz) (va_Qr (fun (u : Unit) => True) (fun (u : Unit) (q_1 : Nat) (t : State) => va_P D vwCl ([(q_1, .inr (5, [.int 1, .long 0, .long 0, .int 0]))] : va_W) t.heap ∧ va_D (va_A [] sz) ([(q_1, .inr (5, [.int 1, .long 0, .long 0, .int 0]))] : va_W)) (va_A [] sz)) 1 4 (va_A [] sz) := by
  refine Met.ofW (cc := cX5_ofNothing) (maxL := 0) (ret := (some (.object "DocumentSpanner$Part"))) (by decide) rfl ?_
  intro p e s m args below meth c s₁ B hml hv
  obtain ⟨rfl, hsz, hP, hK, hD0, hE, hV⟩ := hv
  have hx := B.exec
  have hb := B.bytes
  have hr := B.returns
  have hts := atoms_spec (ws := wk_X5_ofNothing) B.pre
  have hown : s.vm.findClass RX5 = some m.cls := findClass_of_methodNamed B.named
  have hlocks := B.notSynchronized
  have i_X5 : ∀ w ∈ wsX50, w ∈ wk_X5_ofNothing := fun _ h => List.mem_cons_of_mem _ (List.mem_append_right _ h)
  have w_1 := hts (.classLink RX5 8 RX5) (List.mem_of_getElem? (i := 1) rfl)
  have w_2 := hts (.instantiable RX5 4) (List.mem_of_getElem? (i := 2) rfl)
  have w_3 := hts (.initialized RX5) (List.mem_of_getElem? (i := 3) rfl)
  have w_4 := hts (.methodLink RX5 24 yX5_init) (List.mem_of_getElem? (i := 4) rfl)
  have w_5 := hts (.instanceMethod yX5_init) (List.mem_of_getElem? (i := 5) rfl)
  subst hsz
  have hD := hD0.self (sz := s.heap.size)
  generalize hAe : va_A [] s.heap.size = A at hD hE ⊢
  have hA : ∀ q : Nat, s.heap.size ≤ q → A q := fun q h => by rw [← hAe]; exact Or.inr h
  have hS : va_S A s.heap s.heap [] := va_S.rf
  have hP : va_P D vwCl [] s.heap := hP
  have hl := lv_entry ([]) (n := 0) (Nat.le_of_ble_eq_true rfl)
  rw [lg_entry_eq]
  generalize (lg_sl ([]) ++ List.replicate (0 - (lg_sl ([])).length) Slot.unset).toArray = ls at hl ⊢
  have hl : lv_has ls 0 [] := hl
  refine va_new (ci := 5) (fs := [.int 0, .long 0, .long 0, .int 0]) (C := RX5) (T := TX5) (N := 4) hx hb hts i_X5 tyX5 tyX5_ok hown w_1 w_2 w_3 hK hP hD hS hA rfl (by decide) (Nat.le_of_ble_eq_true rfl) (Nat.le_of_ble_eq_true rfl) dX5_ofNothing_0 (fun q_1 H_2 hP hD hS => ?_)
  have hP : va_P D vwCl [(q_1, .inr (5, [.int 0, .long 0, .long 0, .int 0]))] H_2 := hP
  have hD : va_D A [(q_1, .inr (5, [.int 0, .long 0, .long 0, .int 0]))] := hD
  refine W.widen (k := 1) (n := 4) (Nat.le_of_ble_eq_true rfl) (Nat.le_of_ble_eq_true rfl) ?_
  refine lv_dup hx hb dX5_ofNothing_3 rfl ?_
  refine lv_iconst (v := 1) hx hb dX5_ofNothing_4 (by decide) ?_
  refine lv_lconst (v := 0) hx hb dX5_ofNothing_5 (by decide) ?_
  refine lv_lconst (v := 0) hx hb dX5_ofNothing_6 (by decide) ?_
  refine lv_iconst (v := 0) hx hb dX5_ofNothing_7 (by decide) ?_
  have hPc := hP.sub (ws' := [(q_1, .inr (5, [.int 0, .long 0, .long 0, .int 0]))]) [0] rfl
  have hDc := hD.sub (ws' := [(q_1, .inr (5, [.int 0, .long 0, .long 0, .int 0]))]) [0] (by decide) rfl
  have hFc := va_free (wc := [(q_1, .inr (5, [.int 0, .long 0, .long 0, .int 0]))]) hD hS hA [0] rfl
  refine va_callv (va_runI (As := [.int 1, .long 0, .long 0, .int 0]) (rest := [.ref q_1]) ⟨hx, hb, hml, hown, hts⟩ (k_X5_init l htr D cI cJ cZ q_1 H_2.size) (cwI 4 hts gk_X5_ofNothing_X5_init rfl rfl rfl w_3 w_4 w_5 rfl (by decide +kernel) ⟨Nat.le_of_ble_eq_true rfl, Nat.le_of_ble_eq_true rfl⟩) ⟨xPc_blind, xPc_pre hPc hK hDc hE hS hFc hV⟩ rfl rfl hl.1 rfl (lv_room (Nat.le_of_ble_eq_true rfl)) dX5_ofNothing_8 ⟨Nat.le_of_ble_eq_true rfl, Nat.le_of_ble_eq_true rfl⟩) hS (fun q _ h => hFc q h) hFc (fun u t H_3 locs ht hvm hw hB hz1 hk1 hS => ?_)
  rcases hw with -
  obtain ⟨hP1, hD1⟩ := hB
  rw [ht] at hP1
  obtain ⟨hP, hD⟩ := va_join (wr := []) (w1 := [(q_1, .inr (5, [.int 1, .long 0, .long 0, .int 0]))]) hP hD [0] [] rfl rfl (by decide) (by decide) hk1 hFc hP1 hD1
  have hP : va_P D vwCl [(q_1, .inr (5, [.int 1, .long 0, .long 0, .int 0]))] H_3 := hP
  have hD : va_D A [(q_1, .inr (5, [.int 1, .long 0, .long 0, .int 0]))] := hD
  refine W.widen (k := 1) (n := 4) (Nat.le_of_ble_eq_true rfl) (Nat.le_of_ble_eq_true rfl) ?_
  have hP9 := hP.sub (ws' := [(q_1, .inr (5, [.int 1, .long 0, .long 0, .int 0]))]) [0] rfl
  have hD9 := hD.sub (ws' := [(q_1, .inr (5, [.int 1, .long 0, .long 0, .int 0]))]) [0] (by decide) rfl
  refine W.widen (k := 1) (n := 4) (Nat.le_of_ble_eq_true rfl) (Nat.le_of_ble_eq_true rfl) ?_
  exact W.aret (v := .ref q_1) hx hb hr (Or.inl ⟨_, rfl⟩) (Or.inr ⟨_, rfl⟩) (fun t ht hW => ⟨⟨(), q_1, rfl, trivial, by rw [ht]; exact hP9, hD9⟩, hS.F ht⟩) hS.2.2 dX5_ofNothing_11
