set_option maxHeartbeats 4000000 in
set_option maxRecDepth 100000 in
theorem k_L_appendLetter (l : Launch) (htr : l.stackTraces = false) (D : va_G) (cI cJ cZ : ClassId) (x : Nat) (st : Nat) (kp : Nat) (bf : Nat) (o1 : Nat) (o2 : Nat) (o3 : Nat) (o4 : Nat) (o5 : Nat) (o6 : Nat) (lt : Nat) (tb : Nat) (fl : Nat) (wt : Nat) (ou : Nat) (a0 : Int32) (sz : Nat) : vx_Met l yL_appendLetter wsL_appendLetter ({ frames := 7, cells := 1, slots := 6, locals := 103 }) (xPc D cI cJ cZ [.ref x, .int a0, .ref ou] [(x, .inr (9, [.ref st, .ref kp, .int 0, .ref bf, .int 0, .int (-1), .int (-1), .int 0, .ref o1, .ref o2, .ref o3, .ref o4, .ref o5, .ref o6])), (st, .inr (8, [.ref lt, .ref tb, .ref fl, .ref wt, .int 0, .null])), (lt, .inl (cI, 8, .inl (fun _ => 0))), (fl, .inl (cZ, 6, .inl (fun _ => 0))), (ou, .inl (cJ, 1, .inr (.inl (fun _ => 0))))] sz) (va_Qi (fun (r : Int32) (u : Nat) => (r = 1 ∧ u = 0 ∧ a0.toInt < 97) ∨ (r = 1 ∧ u = 0 ∧ 97 ≤ a0.toInt ∧ 122 < a0.toInt) ∨ (r = 0 ∧ u = 1 ∧ 97 ≤ a0.toInt ∧ a0.toInt ≤ 122)) (fun (u : Nat) (t : State) => va_P D vwCl (match u with | 0 => [] | _ => [(ou, .inl (cJ, 1, .inr (.inl (vp_updL (fun _ => 0) ((0 : Int32).toNatClampNeg) 1))))] : va_W) t.heap ∧ va_D (va_A [(x, .inr (9, [.ref st, .ref kp, .int 0, .ref bf, .int 0, .int (-1), .int (-1), .int 0, .ref o1, .ref o2, .ref o3, .ref o4, .ref o5, .ref o6])), (st, .inr (8, [.ref lt, .ref tb, .ref fl, .ref wt, .int 0, .null])), (lt, .inl (cI, 8, .inl (fun _ => 0))), (fl, .inl (cZ, 6, .inl (fun _ => 0))), (ou, .inl (cJ, 1, .inr (.inl (fun _ => 0))))] sz) (match u with | 0 => [] | _ => [(ou, .inl (cJ, 1, .inr (.inl (vp_updL (fun _ => 0) ((0 : Int32).toNatClampNeg) 1))))] : va_W)) (va_A [(x, .inr (9, [.ref st, .ref kp, .int 0, .ref bf, .int 0, .int (-1), .int (-1), .int 0, .ref o1, .ref o2, .ref o3, .ref o4, .ref o5, .ref o6])), (st, .inr (8, [.ref lt, .ref tb, .ref fl, .ref wt, .int 0, .null])), (lt, .inl (cI, 8, .inl (fun _ => 0))), (fl, .inl (cZ, 6, .inl (fun _ => 0))), (ou, .inl (cJ, 1, .inr (.inl (fun _ => 0))))] sz)) (vx_X (fun _ : Unit => True) (fun (E : String) (_ : Unit) (_ : State) => False) (va_A [(x, .inr (9, [.ref st, .ref kp, .int 0, .ref bf, .int 0, .int (-1), .int (-1), .int 0, .ref o1, .ref o2, .ref o3, .ref o4, .ref o5, .ref o6])), (st, .inr (8, [.ref lt, .ref tb, .ref fl, .ref wt, .int 0, .null])), (lt, .inl (cI, 8, .inl (fun _ => 0))), (fl, .inl (cZ, 6, .inl (fun _ => 0))), (ou, .inl (cJ, 1, .inr (.inl (fun _ => 0))))] sz)) 1 6 (va_A [(x, .inr (9, [.ref st, .ref kp, .int 0, .ref bf, .int 0, .int (-1), .int (-1), .int 0, .ref o1, .ref o2, .ref o3, .ref o4, .ref o5, .ref o6])), (st, .inr (8, [.ref lt, .ref tb, .ref fl, .ref wt, .int 0, .null])), (lt, .inl (cI, 8, .inl (fun _ => 0))), (fl, .inl (cZ, 6, .inl (fun _ => 0))), (ou, .inl (cJ, 1, .inr (.inl (fun _ => 0))))] sz) := by
  refine vx_ofWH (cc := cL_appendLetter) (maxL := 4) (ret := (some .int)) (by decide) rfl ?_
  intro p e s m args below meth c s₁ B hml hv
  obtain ⟨rfl, hsz, hP, hK, hD0, hE, hV⟩ := hv
  have hx := B.exec
  have hb := B.bytes
  have hr := B.returns
  have hts := atoms_spec (ws := wsL_appendLetter) B.pre
  have hown : s.vm.findClass RL = some m.cls := findClass_of_methodNamed B.named
  have hlocks := B.notSynchronized
  have htab : c.exceptionTable.toList = tableOf [(0, 9, 12, 13), (0, 9, 15, 15)] := vx_table (x := yL_appendLetter) B (hts _ List.mem_cons_self)
  have w_1 := hts (.classLink RL 13 iae) (by decide +kernel)
  subst hsz
  have hD := hD0.self (sz := s.heap.size)
  generalize hAe : va_A [(x, .inr (9, [.ref st, .ref kp, .int 0, .ref bf, .int 0, .int (-1), .int (-1), .int 0, .ref o1, .ref o2, .ref o3, .ref o4, .ref o5, .ref o6])), (st, .inr (8, [.ref lt, .ref tb, .ref fl, .ref wt, .int 0, .null])), (lt, .inl (cI, 8, .inl (fun _ => 0))), (fl, .inl (cZ, 6, .inl (fun _ => 0))), (ou, .inl (cJ, 1, .inr (.inl (fun _ => 0))))] s.heap.size = A at hD hE ⊢
  have hA : ∀ q : Nat, s.heap.size ≤ q → A q := fun q h => by rw [← hAe]; exact Or.inr h
  have hS : va_S A s.heap s.heap [] := va_S.rf
  have hP : va_P D vwCl [(x, .inr (9, [.ref st, .ref kp, .int 0, .ref bf, .int 0, .int (-1), .int (-1), .int 0, .ref o1, .ref o2, .ref o3, .ref o4, .ref o5, .ref o6])), (st, .inr (8, [.ref lt, .ref tb, .ref fl, .ref wt, .int 0, .null])), (lt, .inl (cI, 8, .inl (fun _ => 0))), (fl, .inl (cZ, 6, .inl (fun _ => 0))), (ou, .inl (cJ, 1, .inr (.inl (fun _ => 0))))] s.heap := hP
  have hl := lv_entry ([.ref x, .int a0, .ref ou]) (n := 4) (Nat.le_of_ble_eq_true rfl)
  rw [lg_entry_eq]
  generalize (lg_sl ([.ref x, .int a0, .ref ou]) ++ List.replicate (4 - (lg_sl ([.ref x, .int a0, .ref ou])).length) Slot.unset).toArray = ls at hl ⊢
  have hl : lv_has ls 4 [(0, .ref x), (1, .int a0), (2, .ref ou)] := hl
  refine lv_aload_n hx hb dL_appendLetter_0 rfl (lv_at hl 2 rfl) ?_
  refine lv_iconst (v := 0) hx hb dL_appendLetter_1 (by decide) ?_
  refine lv_aload_n hx hb dL_appendLetter_2 rfl (lv_at hl 0 rfl) ?_
  refine lv_iload_n hx hb dL_appendLetter_3 rfl (lv_at hl 1 rfl) ?_
  have hPc := hP.sub (ws' := [(x, .inr (9, [.ref st, .ref kp, .int 0, .ref bf, .int 0, .int (-1), .int (-1), .int 0, .ref o1, .ref o2, .ref o3, .ref o4, .ref o5, .ref o6])), (st, .inr (8, [.ref lt, .ref tb, .ref fl, .ref wt, .int 0, .null])), (lt, .inl (cI, 8, .inl (fun _ => 0))), (fl, .inl (cZ, 6, .inl (fun _ => 0)))]) [0, 1, 2, 3] rfl
  have hDc := hD.sub (ws' := [(x, .inr (9, [.ref st, .ref kp, .int 0, .ref bf, .int 0, .int (-1), .int (-1), .int 0, .ref o1, .ref o2, .ref o3, .ref o4, .ref o5, .ref o6])), (st, .inr (8, [.ref lt, .ref tb, .ref fl, .ref wt, .int 0, .null])), (lt, .inl (cI, 8, .inl (fun _ => 0))), (fl, .inl (cZ, 6, .inl (fun _ => 0)))]) [0, 1, 2, 3] (by decide) rfl
  have hFc := va_free (wc := [(x, .inr (9, [.ref st, .ref kp, .int 0, .ref bf, .int 0, .int (-1), .int (-1), .int 0, .ref o1, .ref o2, .ref o3, .ref o4, .ref o5, .ref o6])), (st, .inr (8, [.ref lt, .ref tb, .ref fl, .ref wt, .int 0, .null])), (lt, .inl (cI, 8, .inl (fun _ => 0))), (fl, .inl (cZ, 6, .inl (fun _ => 0)))]) hD hS hA [0, 1, 2, 3] rfl
  refine vx_calli (vx_runV (As := [.int a0]) (rest := [.int 0, .ref ou]) ⟨hx, hb, hml, hown, hts⟩ (k_X10_appendLetter l htr D cI cJ cZ x st kp bf o1 o2 o3 o4 o5 o6 lt tb fl wt a0 s.heap.size) (cwV 1 hts gL_appendLetter_X10_appendLetter rfl rfl rfl (by decide +kernel) ⟨Nat.le_of_ble_eq_true rfl, Nat.le_of_ble_eq_true rfl⟩) ⟨xPc_blind, va_recv hK hP (ci := 9) (q0 := 0) rfl rfl, xPc_pre hPc hK hDc hE hS hFc hV⟩ rfl rfl hl.1 rfl (lv_room (Nat.le_of_ble_eq_true rfl)) dL_appendLetter_4 ⟨Nat.le_of_ble_eq_true rfl, Nat.le_of_ble_eq_true rfl⟩) hS (fun q _ h => hFc q h) hFc (fun q _ h => hFc q h) (fun E ce q9 u t H_1 locs ht hvm hpx hBX hz1 hk1 hS hq9 hcv hcl => ?_) (fun r u t H_1 locs ht hvm hw hB hz1 hk1 hS => ?_)
  · rcases hBX with ⟨rfl, e_0⟩ | ⟨rfl, e_0, e_1⟩
    · have c_2 : a0.toInt < 97 := e_0
      refine vx_catch hown (tableOf []) ⟨0, 9, 12, 13⟩ (tableOf [(0, 9, 15, 15)]) (by rw [htab]; rfl) (xpass0) (by decide) (by decide) w_1 (va_Nw.use rfl hV.2.2.2.2.2.1.1) hq9 hcv hcl ?_
      have hP : va_P D vwCl [] H_1 := fun k q h => by simp at h
      have hD : va_D A [] := ⟨fun i j p q h => by simp at h, fun k q h => by simp at h⟩
      refine W.widen (k := 1) (n := 6) (Nat.le_of_ble_eq_true rfl) (Nat.le_of_ble_eq_true rfl) ?_
      refine lv_astore_n (lv' := [(3, .ref q9), (0, .ref x), (1, .int a0), (2, .ref ou)]) hx hb dL_appendLetter_12 rfl hl (by decide) rfl (fun ls hl => ?_)
      refine lv_iconst (v := 1) hx hb dL_appendLetter_13 (by decide) ?_
      have hP9 := hP.sub (ws' := []) [] rfl
      have hD9 := hD.sub (ws' := []) [] (by decide) rfl
      refine W.widen (k := 1) (n := 6) (Nat.le_of_ble_eq_true rfl) (Nat.le_of_ble_eq_true rfl) ?_
      exact vx_ret (W.iret (v := 1) hx hb hr (fun t ht hW => ⟨⟨1, 0, rfl, Or.inl ⟨rfl, rfl, c_2⟩, by rw [ht]; exact hP9, hD9⟩, hS.F ht⟩) hS.2.2 dL_appendLetter_14)
    · have c_3 : 97 ≤ a0.toInt := e_0
      have c_4 : 122 < a0.toInt := e_1
      refine vx_catch hown (tableOf []) ⟨0, 9, 12, 13⟩ (tableOf [(0, 9, 15, 15)]) (by rw [htab]; rfl) (xpass0) (by decide) (by decide) w_1 (va_Nw.use rfl hV.2.2.2.2.2.1.1) hq9 hcv hcl ?_
      have hP : va_P D vwCl [] H_1 := fun k q h => by simp at h
      have hD : va_D A [] := ⟨fun i j p q h => by simp at h, fun k q h => by simp at h⟩
      refine W.widen (k := 1) (n := 6) (Nat.le_of_ble_eq_true rfl) (Nat.le_of_ble_eq_true rfl) ?_
      refine lv_astore_n (lv' := [(3, .ref q9), (0, .ref x), (1, .int a0), (2, .ref ou)]) hx hb dL_appendLetter_12 rfl hl (by decide) rfl (fun ls hl => ?_)
      refine lv_iconst (v := 1) hx hb dL_appendLetter_13 (by decide) ?_
      have hP9 := hP.sub (ws' := []) [] rfl
      have hD9 := hD.sub (ws' := []) [] (by decide) rfl
      refine W.widen (k := 1) (n := 6) (Nat.le_of_ble_eq_true rfl) (Nat.le_of_ble_eq_true rfl) ?_
      exact vx_ret (W.iret (v := 1) hx hb hr (fun t ht hW => ⟨⟨1, 0, rfl, Or.inr (Or.inl ⟨rfl, rfl, c_3, c_4⟩), by rw [ht]; exact hP9, hD9⟩, hS.F ht⟩) hS.2.2 dL_appendLetter_14)
  · rcases hw with ⟨rfl, e_0, e_1⟩
    have c_5 : 97 ≤ a0.toInt := e_0
    have c_6 : a0.toInt ≤ 122 := e_1
    obtain ⟨hP1, hD1⟩ := hB
    rw [ht] at hP1
    obtain ⟨hP, hD⟩ := va_join (wr := [(ou, .inl (cJ, 1, .inr (.inl (fun _ => 0))))]) (w1 := []) hP hD [0, 1, 2, 3] [4] rfl rfl (by decide) (by decide) hk1 hFc hP1 hD1
    have hP : va_P D vwCl [(ou, .inl (cJ, 1, .inr (.inl (fun _ => 0))))] H_1 := hP
    have hD : va_D A [(ou, .inl (cJ, 1, .inr (.inl (fun _ => 0))))] := hD
    refine W.widen (k := 1) (n := 6) (Nat.le_of_ble_eq_true rfl) (Nat.le_of_ble_eq_true rfl) ?_
    refine lv_i2l (v := 1) hx hb dL_appendLetter_7 (by decide) ?_
    refine va_last hx hb hK hP hD hS 0 1 rfl rfl (i := 0) (x := 1) (vp_in_iff.mpr ⟨by decide, by decide⟩) dL_appendLetter_8 (fun H_7 locs hP hD hS => ?_)
    have hP : va_P D vwCl [(ou, .inl (cJ, 1, .inr (.inl (vp_updL (fun _ => 0) ((0 : Int32).toNatClampNeg) 1))))] H_7 := hP
    have hD : va_D A [(ou, .inl (cJ, 1, .inr (.inl (vp_updL (fun _ => 0) ((0 : Int32).toNatClampNeg) 1))))] := hD
    refine lv_goto (tgt := 18) hx hb dL_appendLetter_9 (by decide) ?_
    refine lv_iconst (v := 0) hx hb dL_appendLetter_18 (by decide) ?_
    have hP9 := hP.sub (ws' := [(ou, .inl (cJ, 1, .inr (.inl (vp_updL (fun _ => 0) ((0 : Int32).toNatClampNeg) 1))))]) [0] rfl
    have hD9 := hD.sub (ws' := [(ou, .inl (cJ, 1, .inr (.inl (vp_updL (fun _ => 0) ((0 : Int32).toNatClampNeg) 1))))]) [0] (by decide) rfl
    refine W.widen (k := 1) (n := 6) (Nat.le_of_ble_eq_true rfl) (Nat.le_of_ble_eq_true rfl) ?_
    exact vx_ret (W.iret (v := 0) hx hb hr (fun t ht hW => ⟨⟨0, 1, rfl, Or.inr (Or.inr ⟨rfl, rfl, c_5, c_6⟩), by rw [ht]; exact hP9, hD9⟩, hS.F ht⟩) hS.2.2 dL_appendLetter_19)
set_option maxHeartbeats 4000000 in
set_option maxRecDepth 100000 in
theorem k_L_letter (l : Launch) (htr : l.stackTraces = false) (D : va_G) (cI cJ cZ : ClassId) (x : Nat) (st : Nat) (kp : Nat) (bf : Nat) (o1 : Nat) (o2 : Nat) (o3 : Nat) (o4 : Nat) (o5 : Nat) (o6 : Nat) (lt : Nat) (tb : Nat) (fl : Nat) (wt : Nat) (ou : Nat) (a0 : Int32) (sz : Nat) : vx_Met l yL_letter wsL_letter ({ frames := 7, cells := 1, slots := 6, locals := 103 }) (xPc D cI cJ cZ [.ref x, .int a0, .ref ou] [(x, .inr (9, [.ref st, .ref kp, .int 0, .ref bf, .int 0, .int (-1), .int (-1), .int 0, .ref o1, .ref o2, .ref o3, .ref o4, .ref o5, .ref o6])), (st, .inr (8, [.ref lt, .ref tb, .ref fl, .ref wt, .int 0, .null])), (ou, .inl (cJ, 1, .inr (.inl (fun _ => 0))))] sz) (va_Qi (fun (r : Int32) (u : Unit) => (r = 1 ∧ a0.toInt < 0) ∨ (r = 1 ∧ 0 ≤ a0.toInt ∧ 0 ≤ a0.toInt)) (fun (u : Unit) (t : State) => va_P D vwCl ([] : va_W) t.heap ∧ va_D (va_A [(x, .inr (9, [.ref st, .ref kp, .int 0, .ref bf, .int 0, .int (-1), .int (-1), .int 0, .ref o1, .ref o2, .ref o3, .ref o4, .ref o5, .ref o6])), (st, .inr (8, [.ref lt, .ref tb, .ref fl, .ref wt, .int 0, .null])), (ou, .inl (cJ, 1, .inr (.inl (fun _ => 0))))] sz) ([] : va_W)) (va_A [(x, .inr (9, [.ref st, .ref kp, .int 0, .ref bf, .int 0, .int (-1), .int (-1), .int 0, .ref o1, .ref o2, .ref o3, .ref o4, .ref o5, .ref o6])), (st, .inr (8, [.ref lt, .ref tb, .ref fl, .ref wt, .int 0, .null])), (ou, .inl (cJ, 1, .inr (.inl (fun _ => 0))))] sz)) (vx_X (fun _ : Unit => True) (fun (E : String) (_ : Unit) (_ : State) => False) (va_A [(x, .inr (9, [.ref st, .ref kp, .int 0, .ref bf, .int 0, .int (-1), .int (-1), .int 0, .ref o1, .ref o2, .ref o3, .ref o4, .ref o5, .ref o6])), (st, .inr (8, [.ref lt, .ref tb, .ref fl, .ref wt, .int 0, .null])), (ou, .inl (cJ, 1, .inr (.inl (fun _ => 0))))] sz)) 1 6 (va_A [(x, .inr (9, [.ref st, .ref kp, .int 0, .ref bf, .int 0, .int (-1), .int (-1), .int 0, .ref o1, .ref o2, .ref o3, .ref o4, .ref o5, .ref o6])), (st, .inr (8, [.ref lt, .ref tb, .ref fl, .ref wt, .int 0, .null])), (ou, .inl (cJ, 1, .inr (.inl (fun _ => 0))))] sz) := by
  refine vx_ofWH (cc := cL_letter) (maxL := 4) (ret := (some .int)) (by decide) rfl ?_
  intro p e s m args below meth c s₁ B hml hv
  obtain ⟨rfl, hsz, hP, hK, hD0, hE, hV⟩ := hv
  have hx := B.exec
  have hb := B.bytes
  have hr := B.returns
  have hts := atoms_spec (ws := wsL_letter) B.pre
  have hown : s.vm.findClass RL = some m.cls := findClass_of_methodNamed B.named
  have hlocks := B.notSynchronized
  have htab : c.exceptionTable.toList = tableOf [(0, 9, 12, 20)] := vx_table (x := yL_letter) B (hts _ List.mem_cons_self)
  have w_1 := hts (.classLink RL 20 iob) (by decide +kernel)
  subst hsz
  have hD := hD0.self (sz := s.heap.size)
  generalize hAe : va_A [(x, .inr (9, [.ref st, .ref kp, .int 0, .ref bf, .int 0, .int (-1), .int (-1), .int 0, .ref o1, .ref o2, .ref o3, .ref o4, .ref o5, .ref o6])), (st, .inr (8, [.ref lt, .ref tb, .ref fl, .ref wt, .int 0, .null])), (ou, .inl (cJ, 1, .inr (.inl (fun _ => 0))))] s.heap.size = A at hD hE ⊢
  have hA : ∀ q : Nat, s.heap.size ≤ q → A q := fun q h => by rw [← hAe]; exact Or.inr h
  have hS : va_S A s.heap s.heap [] := va_S.rf
  have hP : va_P D vwCl [(x, .inr (9, [.ref st, .ref kp, .int 0, .ref bf, .int 0, .int (-1), .int (-1), .int 0, .ref o1, .ref o2, .ref o3, .ref o4, .ref o5, .ref o6])), (st, .inr (8, [.ref lt, .ref tb, .ref fl, .ref wt, .int 0, .null])), (ou, .inl (cJ, 1, .inr (.inl (fun _ => 0))))] s.heap := hP
  have hl := lv_entry ([.ref x, .int a0, .ref ou]) (n := 4) (Nat.le_of_ble_eq_true rfl)
  rw [lg_entry_eq]
  generalize (lg_sl ([.ref x, .int a0, .ref ou]) ++ List.replicate (4 - (lg_sl ([.ref x, .int a0, .ref ou])).length) Slot.unset).toArray = ls at hl ⊢
  have hl : lv_has ls 4 [(0, .ref x), (1, .int a0), (2, .ref ou)] := hl
  refine lv_aload_n hx hb dL_letter_0 rfl (lv_at hl 2 rfl) ?_
  refine lv_iconst (v := 0) hx hb dL_letter_1 (by decide) ?_
  refine lv_aload_n hx hb dL_letter_2 rfl (lv_at hl 0 rfl) ?_
  refine lv_iload_n hx hb dL_letter_3 rfl (lv_at hl 1 rfl) ?_
  have hPc := hP.sub (ws' := [(x, .inr (9, [.ref st, .ref kp, .int 0, .ref bf, .int 0, .int (-1), .int (-1), .int 0, .ref o1, .ref o2, .ref o3, .ref o4, .ref o5, .ref o6])), (st, .inr (8, [.ref lt, .ref tb, .ref fl, .ref wt, .int 0, .null]))]) [0, 1] rfl
  have hDc := hD.sub (ws' := [(x, .inr (9, [.ref st, .ref kp, .int 0, .ref bf, .int 0, .int (-1), .int (-1), .int 0, .ref o1, .ref o2, .ref o3, .ref o4, .ref o5, .ref o6])), (st, .inr (8, [.ref lt, .ref tb, .ref fl, .ref wt, .int 0, .null]))]) [0, 1] (by decide) rfl
  have hFc := va_free (wc := [(x, .inr (9, [.ref st, .ref kp, .int 0, .ref bf, .int 0, .int (-1), .int (-1), .int 0, .ref o1, .ref o2, .ref o3, .ref o4, .ref o5, .ref o6])), (st, .inr (8, [.ref lt, .ref tb, .ref fl, .ref wt, .int 0, .null]))]) hD hS hA [0, 1] rfl
  refine vx_calli (vx_runV (As := [.int a0]) (rest := [.int 0, .ref ou]) ⟨hx, hb, hml, hown, hts⟩ (k_X10_letter l htr D cI cJ cZ x st kp bf o1 o2 o3 o4 o5 o6 lt tb fl wt a0 s.heap.size) (cwV 1 hts gL_letter_X10_letter rfl rfl rfl (by decide +kernel) ⟨Nat.le_of_ble_eq_true rfl, Nat.le_of_ble_eq_true rfl⟩) ⟨xPc_blind, va_recv hK hP (ci := 9) (q0 := 0) rfl rfl, xPc_pre hPc hK hDc hE hS hFc hV⟩ rfl rfl hl.1 rfl (lv_room (Nat.le_of_ble_eq_true rfl)) dL_letter_4 ⟨Nat.le_of_ble_eq_true rfl, Nat.le_of_ble_eq_true rfl⟩) hS (fun q _ h => hFc q h) hFc (fun q _ h => hFc q h) (fun E ce q9 u t H_1 locs ht hvm hpx hBX hz1 hk1 hS hq9 hcv hcl => ?_) (fun r u t H_1 locs ht hvm hw hB hz1 hk1 hS => ?_)
  · rcases hBX with ⟨rfl, e_0⟩ | ⟨rfl, e_0, e_1⟩
    · have c_2 : a0.toInt < 0 := e_0
      refine vx_catch hown (tableOf []) ⟨0, 9, 12, 20⟩ (tableOf []) (by rw [htab]; rfl) (xpass0) (by decide) (by decide) w_1 (va_Nw.use rfl hV.2.2.2.2.2.1.2.2) hq9 hcv hcl ?_
      have hP : va_P D vwCl [] H_1 := fun k q h => by simp at h
      have hD : va_D A [] := ⟨fun i j p q h => by simp at h, fun k q h => by simp at h⟩
      refine W.widen (k := 1) (n := 6) (Nat.le_of_ble_eq_true rfl) (Nat.le_of_ble_eq_true rfl) ?_
      refine lv_astore_n (lv' := [(3, .ref q9), (0, .ref x), (1, .int a0), (2, .ref ou)]) hx hb dL_letter_12 rfl hl (by decide) rfl (fun ls hl => ?_)
      refine lv_iconst (v := 1) hx hb dL_letter_13 (by decide) ?_
      have hP9 := hP.sub (ws' := []) [] rfl
      have hD9 := hD.sub (ws' := []) [] (by decide) rfl
      refine W.widen (k := 1) (n := 6) (Nat.le_of_ble_eq_true rfl) (Nat.le_of_ble_eq_true rfl) ?_
      exact vx_ret (W.iret (v := 1) hx hb hr (fun t ht hW => ⟨⟨1, (), rfl, Or.inl ⟨rfl, c_2⟩, by rw [ht]; exact hP9, hD9⟩, hS.F ht⟩) hS.2.2 dL_letter_14)
    · have c_3 : 0 ≤ a0.toInt := e_0
      have c_4 : 0 ≤ a0.toInt := e_1
      refine vx_catch hown (tableOf []) ⟨0, 9, 12, 20⟩ (tableOf []) (by rw [htab]; rfl) (xpass0) (by decide) (by decide) w_1 (va_Nw.use rfl hV.2.2.2.2.2.1.2.2) hq9 hcv hcl ?_
      have hP : va_P D vwCl [] H_1 := fun k q h => by simp at h
      have hD : va_D A [] := ⟨fun i j p q h => by simp at h, fun k q h => by simp at h⟩
      refine W.widen (k := 1) (n := 6) (Nat.le_of_ble_eq_true rfl) (Nat.le_of_ble_eq_true rfl) ?_
      refine lv_astore_n (lv' := [(3, .ref q9), (0, .ref x), (1, .int a0), (2, .ref ou)]) hx hb dL_letter_12 rfl hl (by decide) rfl (fun ls hl => ?_)
      refine lv_iconst (v := 1) hx hb dL_letter_13 (by decide) ?_
      have hP9 := hP.sub (ws' := []) [] rfl
      have hD9 := hD.sub (ws' := []) [] (by decide) rfl
      refine W.widen (k := 1) (n := 6) (Nat.le_of_ble_eq_true rfl) (Nat.le_of_ble_eq_true rfl) ?_
      exact vx_ret (W.iret (v := 1) hx hb hr (fun t ht hW => ⟨⟨1, (), rfl, Or.inr ⟨rfl, c_3, c_4⟩, by rw [ht]; exact hP9, hD9⟩, hS.F ht⟩) hS.2.2 dL_letter_14)
  · exact hw.elim
set_option maxHeartbeats 4000000 in
set_option maxRecDepth 100000 in
theorem k_L_appendCharacter (l : Launch) (htr : l.stackTraces = false) (D : va_G) (cI cJ cZ : ClassId) (x : Nat) (st : Nat) (kp : Nat) (bf : Nat) (o1 : Nat) (o2 : Nat) (o3 : Nat) (o4 : Nat) (o5 : Nat) (o6 : Nat) (ou : Nat) (a0 : Int32) (sz : Nat) : vx_Met l yL_appendCharacter wsL_appendCharacter ({ frames := 7, cells := 1, slots := 6, locals := 103 }) (xPc D cI cJ cZ [.ref x, .int a0, .ref ou] [(x, .inr (9, [.ref st, .ref kp, .int 0, .ref bf, .int 0, .int (-1), .int (-1), .int 0, .ref o1, .ref o2, .ref o3, .ref o4, .ref o5, .ref o6])), (bf, .inl (cI, 40, .inl (fun _ => 0))), (ou, .inl (cJ, 1, .inr (.inl (fun _ => 0))))] sz) (va_Qi (fun (r : Int32) (u : Nat) => (r = 1 ∧ u = 0 ∧ a0.toInt < 33) ∨ (r = 1 ∧ u = 0 ∧ 33 ≤ a0.toInt ∧ 126 < a0.toInt) ∨ (r = 0 ∧ u = 1 ∧ 33 ≤ a0.toInt ∧ a0.toInt ≤ 126)) (fun (u : Nat) (t : State) => va_P D vwCl (match u with | 0 => [] | _ => [(ou, .inl (cJ, 1, .inr (.inl (vp_updL (fun _ => 0) ((0 : Int32).toNatClampNeg) 1))))] : va_W) t.heap ∧ va_D (va_A [(x, .inr (9, [.ref st, .ref kp, .int 0, .ref bf, .int 0, .int (-1), .int (-1), .int 0, .ref o1, .ref o2, .ref o3, .ref o4, .ref o5, .ref o6])), (bf, .inl (cI, 40, .inl (fun _ => 0))), (ou, .inl (cJ, 1, .inr (.inl (fun _ => 0))))] sz) (match u with | 0 => [] | _ => [(ou, .inl (cJ, 1, .inr (.inl (vp_updL (fun _ => 0) ((0 : Int32).toNatClampNeg) 1))))] : va_W)) (va_A [(x, .inr (9, [.ref st, .ref kp, .int 0, .ref bf, .int 0, .int (-1), .int (-1), .int 0, .ref o1, .ref o2, .ref o3, .ref o4, .ref o5, .ref o6])), (bf, .inl (cI, 40, .inl (fun _ => 0))), (ou, .inl (cJ, 1, .inr (.inl (fun _ => 0))))] sz)) (vx_X (fun _ : Unit => True) (fun (E : String) (_ : Unit) (_ : State) => False) (va_A [(x, .inr (9, [.ref st, .ref kp, .int 0, .ref bf, .int 0, .int (-1), .int (-1), .int 0, .ref o1, .ref o2, .ref o3, .ref o4, .ref o5, .ref o6])), (bf, .inl (cI, 40, .inl (fun _ => 0))), (ou, .inl (cJ, 1, .inr (.inl (fun _ => 0))))] sz)) 1 6 (va_A [(x, .inr (9, [.ref st, .ref kp, .int 0, .ref bf, .int 0, .int (-1), .int (-1), .int 0, .ref o1, .ref o2, .ref o3, .ref o4, .ref o5, .ref o6])), (bf, .inl (cI, 40, .inl (fun _ => 0))), (ou, .inl (cJ, 1, .inr (.inl (fun _ => 0))))] sz) := by
  refine vx_ofWH (cc := cL_appendCharacter) (maxL := 4) (ret := (some .int)) (by decide) rfl ?_
  intro p e s m args below meth c s₁ B hml hv
  obtain ⟨rfl, hsz, hP, hK, hD0, hE, hV⟩ := hv
  have hx := B.exec
  have hb := B.bytes
  have hr := B.returns
  have hts := atoms_spec (ws := wsL_appendCharacter) B.pre
  have hown : s.vm.findClass RL = some m.cls := findClass_of_methodNamed B.named
  have hlocks := B.notSynchronized
  have htab : c.exceptionTable.toList = tableOf [(0, 9, 12, 13), (0, 9, 15, 15)] := vx_table (x := yL_appendCharacter) B (hts _ List.mem_cons_self)
  have w_1 := hts (.classLink RL 13 iae) (by decide +kernel)
  subst hsz
  have hD := hD0.self (sz := s.heap.size)
  generalize hAe : va_A [(x, .inr (9, [.ref st, .ref kp, .int 0, .ref bf, .int 0, .int (-1), .int (-1), .int 0, .ref o1, .ref o2, .ref o3, .ref o4, .ref o5, .ref o6])), (bf, .inl (cI, 40, .inl (fun _ => 0))), (ou, .inl (cJ, 1, .inr (.inl (fun _ => 0))))] s.heap.size = A at hD hE ⊢
  have hA : ∀ q : Nat, s.heap.size ≤ q → A q := fun q h => by rw [← hAe]; exact Or.inr h
  have hS : va_S A s.heap s.heap [] := va_S.rf
  have hP : va_P D vwCl [(x, .inr (9, [.ref st, .ref kp, .int 0, .ref bf, .int 0, .int (-1), .int (-1), .int 0, .ref o1, .ref o2, .ref o3, .ref o4, .ref o5, .ref o6])), (bf, .inl (cI, 40, .inl (fun _ => 0))), (ou, .inl (cJ, 1, .inr (.inl (fun _ => 0))))] s.heap := hP
  have hl := lv_entry ([.ref x, .int a0, .ref ou]) (n := 4) (Nat.le_of_ble_eq_true rfl)
  rw [lg_entry_eq]
  generalize (lg_sl ([.ref x, .int a0, .ref ou]) ++ List.replicate (4 - (lg_sl ([.ref x, .int a0, .ref ou])).length) Slot.unset).toArray = ls at hl ⊢
  have hl : lv_has ls 4 [(0, .ref x), (1, .int a0), (2, .ref ou)] := hl
  refine lv_aload_n hx hb dL_appendCharacter_0 rfl (lv_at hl 2 rfl) ?_
  refine lv_iconst (v := 0) hx hb dL_appendCharacter_1 (by decide) ?_
  refine lv_aload_n hx hb dL_appendCharacter_2 rfl (lv_at hl 0 rfl) ?_
  refine lv_iload_n hx hb dL_appendCharacter_3 rfl (lv_at hl 1 rfl) ?_
  have hPc := hP.sub (ws' := [(x, .inr (9, [.ref st, .ref kp, .int 0, .ref bf, .int 0, .int (-1), .int (-1), .int 0, .ref o1, .ref o2, .ref o3, .ref o4, .ref o5, .ref o6])), (bf, .inl (cI, 40, .inl (fun _ => 0)))]) [0, 1] rfl
  have hDc := hD.sub (ws' := [(x, .inr (9, [.ref st, .ref kp, .int 0, .ref bf, .int 0, .int (-1), .int (-1), .int 0, .ref o1, .ref o2, .ref o3, .ref o4, .ref o5, .ref o6])), (bf, .inl (cI, 40, .inl (fun _ => 0)))]) [0, 1] (by decide) rfl
  have hFc := va_free (wc := [(x, .inr (9, [.ref st, .ref kp, .int 0, .ref bf, .int 0, .int (-1), .int (-1), .int 0, .ref o1, .ref o2, .ref o3, .ref o4, .ref o5, .ref o6])), (bf, .inl (cI, 40, .inl (fun _ => 0)))]) hD hS hA [0, 1] rfl
  refine vx_calli (vx_runV (As := [.int a0]) (rest := [.int 0, .ref ou]) ⟨hx, hb, hml, hown, hts⟩ (k_X10_appendCharacter l htr D cI cJ cZ x st kp bf o1 o2 o3 o4 o5 o6 a0 s.heap.size) (cwV 1 hts gL_appendCharacter_X10_appendCharacter rfl rfl rfl (by decide +kernel) ⟨Nat.le_of_ble_eq_true rfl, Nat.le_of_ble_eq_true rfl⟩) ⟨xPc_blind, va_recv hK hP (ci := 9) (q0 := 0) rfl rfl, xPc_pre hPc hK hDc hE hS hFc hV⟩ rfl rfl hl.1 rfl (lv_room (Nat.le_of_ble_eq_true rfl)) dL_appendCharacter_4 ⟨Nat.le_of_ble_eq_true rfl, Nat.le_of_ble_eq_true rfl⟩) hS (fun q _ h => hFc q h) hFc (fun q _ h => hFc q h) (fun E ce q9 u t H_1 locs ht hvm hpx hBX hz1 hk1 hS hq9 hcv hcl => ?_) (fun r u t H_1 locs ht hvm hw hB hz1 hk1 hS => ?_)
  · rcases hBX with ⟨rfl, e_0⟩ | ⟨rfl, e_0, e_1⟩
    · have c_2 : a0.toInt < 33 := e_0
      refine vx_catch hown (tableOf []) ⟨0, 9, 12, 13⟩ (tableOf [(0, 9, 15, 15)]) (by rw [htab]; rfl) (xpass0) (by decide) (by decide) w_1 (va_Nw.use rfl hV.2.2.2.2.2.1.1) hq9 hcv hcl ?_
      have hP : va_P D vwCl [] H_1 := fun k q h => by simp at h
      have hD : va_D A [] := ⟨fun i j p q h => by simp at h, fun k q h => by simp at h⟩
      refine W.widen (k := 1) (n := 6) (Nat.le_of_ble_eq_true rfl) (Nat.le_of_ble_eq_true rfl) ?_
      refine lv_astore_n (lv' := [(3, .ref q9), (0, .ref x), (1, .int a0), (2, .ref ou)]) hx hb dL_appendCharacter_12 rfl hl (by decide) rfl (fun ls hl => ?_)
      refine lv_iconst (v := 1) hx hb dL_appendCharacter_13 (by decide) ?_
      have hP9 := hP.sub (ws' := []) [] rfl
      have hD9 := hD.sub (ws' := []) [] (by decide) rfl
      refine W.widen (k := 1) (n := 6) (Nat.le_of_ble_eq_true rfl) (Nat.le_of_ble_eq_true rfl) ?_
      exact vx_ret (W.iret (v := 1) hx hb hr (fun t ht hW => ⟨⟨1, 0, rfl, Or.inl ⟨rfl, rfl, c_2⟩, by rw [ht]; exact hP9, hD9⟩, hS.F ht⟩) hS.2.2 dL_appendCharacter_14)
    · have c_3 : 33 ≤ a0.toInt := e_0
      have c_4 : 126 < a0.toInt := e_1
      refine vx_catch hown (tableOf []) ⟨0, 9, 12, 13⟩ (tableOf [(0, 9, 15, 15)]) (by rw [htab]; rfl) (xpass0) (by decide) (by decide) w_1 (va_Nw.use rfl hV.2.2.2.2.2.1.1) hq9 hcv hcl ?_
      have hP : va_P D vwCl [] H_1 := fun k q h => by simp at h
      have hD : va_D A [] := ⟨fun i j p q h => by simp at h, fun k q h => by simp at h⟩
      refine W.widen (k := 1) (n := 6) (Nat.le_of_ble_eq_true rfl) (Nat.le_of_ble_eq_true rfl) ?_
      refine lv_astore_n (lv' := [(3, .ref q9), (0, .ref x), (1, .int a0), (2, .ref ou)]) hx hb dL_appendCharacter_12 rfl hl (by decide) rfl (fun ls hl => ?_)
      refine lv_iconst (v := 1) hx hb dL_appendCharacter_13 (by decide) ?_
      have hP9 := hP.sub (ws' := []) [] rfl
      have hD9 := hD.sub (ws' := []) [] (by decide) rfl
      refine W.widen (k := 1) (n := 6) (Nat.le_of_ble_eq_true rfl) (Nat.le_of_ble_eq_true rfl) ?_
      exact vx_ret (W.iret (v := 1) hx hb hr (fun t ht hW => ⟨⟨1, 0, rfl, Or.inr (Or.inl ⟨rfl, rfl, c_3, c_4⟩), by rw [ht]; exact hP9, hD9⟩, hS.F ht⟩) hS.2.2 dL_appendCharacter_14)
  · rcases hw with ⟨rfl, e_0, e_1⟩
    have c_5 : 33 ≤ a0.toInt := e_0
    have c_6 : a0.toInt ≤ 126 := e_1
    obtain ⟨hP1, hD1⟩ := hB
    rw [ht] at hP1
    obtain ⟨hP, hD⟩ := va_join (wr := [(ou, .inl (cJ, 1, .inr (.inl (fun _ => 0))))]) (w1 := []) hP hD [0, 1] [2] rfl rfl (by decide) (by decide) hk1 hFc hP1 hD1
    have hP : va_P D vwCl [(ou, .inl (cJ, 1, .inr (.inl (fun _ => 0))))] H_1 := hP
    have hD : va_D A [(ou, .inl (cJ, 1, .inr (.inl (fun _ => 0))))] := hD
    refine W.widen (k := 1) (n := 6) (Nat.le_of_ble_eq_true rfl) (Nat.le_of_ble_eq_true rfl) ?_
    refine lv_i2l (v := 1) hx hb dL_appendCharacter_7 (by decide) ?_
    refine va_last hx hb hK hP hD hS 0 1 rfl rfl (i := 0) (x := 1) (vp_in_iff.mpr ⟨by decide, by decide⟩) dL_appendCharacter_8 (fun H_7 locs hP hD hS => ?_)
    have hP : va_P D vwCl [(ou, .inl (cJ, 1, .inr (.inl (vp_updL (fun _ => 0) ((0 : Int32).toNatClampNeg) 1))))] H_7 := hP
    have hD : va_D A [(ou, .inl (cJ, 1, .inr (.inl (vp_updL (fun _ => 0) ((0 : Int32).toNatClampNeg) 1))))] := hD
    refine lv_goto (tgt := 18) hx hb dL_appendCharacter_9 (by decide) ?_
    refine lv_iconst (v := 0) hx hb dL_appendCharacter_18 (by decide) ?_
    have hP9 := hP.sub (ws' := [(ou, .inl (cJ, 1, .inr (.inl (vp_updL (fun _ => 0) ((0 : Int32).toNatClampNeg) 1))))]) [0] rfl
    have hD9 := hD.sub (ws' := [(ou, .inl (cJ, 1, .inr (.inl (vp_updL (fun _ => 0) ((0 : Int32).toNatClampNeg) 1))))]) [0] (by decide) rfl
    refine W.widen (k := 1) (n := 6) (Nat.le_of_ble_eq_true rfl) (Nat.le_of_ble_eq_true rfl) ?_
    exact vx_ret (W.iret (v := 0) hx hb hr (fun t ht hW => ⟨⟨0, 1, rfl, Or.inr (Or.inr ⟨rfl, rfl, c_5, c_6⟩), by rw [ht]; exact hP9, hD9⟩, hS.F ht⟩) hS.2.2 dL_appendCharacter_19)
set_option maxHeartbeats 4000000 in
set_option maxRecDepth 100000 in
theorem k_L_parse (l : Launch) (htr : l.stackTraces = false) (D : va_G) (cI cJ cZ : ClassId) (x : Nat) (st : Nat) (kp : Nat) (bf : Nat) (o1 : Nat) (o2 : Nat) (o3 : Nat) (o4 : Nat) (o5 : Nat) (o6 : Nat) (lt : Nat) (tb : Nat) (fl : Nat) (wt : Nat) (ou : Nat) (sz : Nat) : vx_Met l yL_parse wsL_parse ({ frames := 7, cells := 7, slots := 30, locals := 148 }) (xPc D cI cJ cZ [.ref x, .ref ou] [(x, .inr (9, [.ref st, .ref kp, .int 0, .ref bf, .int 0, .int (-1), .int (-1), .int 0, .ref o1, .ref o2, .ref o3, .ref o4, .ref o5, .ref o6])), (st, .inr (8, [.ref lt, .ref tb, .ref fl, .ref wt, .int 0, .null])), (bf, .inl (cI, 40, .inl (fun _ => 0))), (ou, .inl (cJ, 1, .inr (.inl (fun _ => 0))))] sz) (va_Qi (fun (r : Int32) (u : Unit) => (r = 0)) (fun (u : Unit) (t : State) => va_P D vwCl ([(ou, .inl (cJ, 1, .inr (.inl (fun _ => 0))))] : va_W) t.heap ∧ va_D (va_A [(x, .inr (9, [.ref st, .ref kp, .int 0, .ref bf, .int 0, .int (-1), .int (-1), .int 0, .ref o1, .ref o2, .ref o3, .ref o4, .ref o5, .ref o6])), (st, .inr (8, [.ref lt, .ref tb, .ref fl, .ref wt, .int 0, .null])), (bf, .inl (cI, 40, .inl (fun _ => 0))), (ou, .inl (cJ, 1, .inr (.inl (fun _ => 0))))] sz) ([(ou, .inl (cJ, 1, .inr (.inl (fun _ => 0))))] : va_W)) (va_A [(x, .inr (9, [.ref st, .ref kp, .int 0, .ref bf, .int 0, .int (-1), .int (-1), .int 0, .ref o1, .ref o2, .ref o3, .ref o4, .ref o5, .ref o6])), (st, .inr (8, [.ref lt, .ref tb, .ref fl, .ref wt, .int 0, .null])), (bf, .inl (cI, 40, .inl (fun _ => 0))), (ou, .inl (cJ, 1, .inr (.inl (fun _ => 0))))] sz)) (vx_X (fun _ : Unit => True) (fun (E : String) (_ : Unit) (_ : State) => False) (va_A [(x, .inr (9, [.ref st, .ref kp, .int 0, .ref bf, .int 0, .int (-1), .int (-1), .int 0, .ref o1, .ref o2, .ref o3, .ref o4, .ref o5, .ref o6])), (st, .inr (8, [.ref lt, .ref tb, .ref fl, .ref wt, .int 0, .null])), (bf, .inl (cI, 40, .inl (fun _ => 0))), (ou, .inl (cJ, 1, .inr (.inl (fun _ => 0))))] sz)) 7 30 (va_A [(x, .inr (9, [.ref st, .ref kp, .int 0, .ref bf, .int 0, .int (-1), .int (-1), .int 0, .ref o1, .ref o2, .ref o3, .ref o4, .ref o5, .ref o6])), (st, .inr (8, [.ref lt, .ref tb, .ref fl, .ref wt, .int 0, .null])), (bf, .inl (cI, 40, .inl (fun _ => 0))), (ou, .inl (cJ, 1, .inr (.inl (fun _ => 0))))] sz) := by
  refine vx_ofWH (cc := cL_parse) (maxL := 3) (ret := (some .int)) (by decide) rfl ?_
  intro p e s m args below meth c s₁ B hml hv
  obtain ⟨rfl, hsz, hP, hK, hD0, hE, hV⟩ := hv
  have hx := B.exec
  have hb := B.bytes
  have hr := B.returns
  have hts := atoms_spec (ws := wsL_parse) B.pre
  have hown : s.vm.findClass RL = some m.cls := findClass_of_methodNamed B.named
  have hlocks := B.notSynchronized
  have htab : c.exceptionTable.toList = tableOf [(0, 8, 11, 13)] := vx_table (x := yL_parse) B (hts _ List.mem_cons_self)
  subst hsz
  have hD := hD0.self (sz := s.heap.size)
  generalize hAe : va_A [(x, .inr (9, [.ref st, .ref kp, .int 0, .ref bf, .int 0, .int (-1), .int (-1), .int 0, .ref o1, .ref o2, .ref o3, .ref o4, .ref o5, .ref o6])), (st, .inr (8, [.ref lt, .ref tb, .ref fl, .ref wt, .int 0, .null])), (bf, .inl (cI, 40, .inl (fun _ => 0))), (ou, .inl (cJ, 1, .inr (.inl (fun _ => 0))))] s.heap.size = A at hD hE ⊢
  have hA : ∀ q : Nat, s.heap.size ≤ q → A q := fun q h => by rw [← hAe]; exact Or.inr h
  have hS : va_S A s.heap s.heap [] := va_S.rf
  have hP : va_P D vwCl [(x, .inr (9, [.ref st, .ref kp, .int 0, .ref bf, .int 0, .int (-1), .int (-1), .int 0, .ref o1, .ref o2, .ref o3, .ref o4, .ref o5, .ref o6])), (st, .inr (8, [.ref lt, .ref tb, .ref fl, .ref wt, .int 0, .null])), (bf, .inl (cI, 40, .inl (fun _ => 0))), (ou, .inl (cJ, 1, .inr (.inl (fun _ => 0))))] s.heap := hP
  have hl := lv_entry ([.ref x, .ref ou]) (n := 3) (Nat.le_of_ble_eq_true rfl)
  rw [lg_entry_eq]
  generalize (lg_sl ([.ref x, .ref ou]) ++ List.replicate (3 - (lg_sl ([.ref x, .ref ou])).length) Slot.unset).toArray = ls at hl ⊢
  have hl : lv_has ls 3 [(0, .ref x), (1, .ref ou)] := hl
  refine lv_aload_n hx hb dL_parse_0 rfl (lv_at hl 1 rfl) ?_
  refine lv_iconst (v := 0) hx hb dL_parse_1 (by decide) ?_
  refine lv_aload_n hx hb dL_parse_2 rfl (lv_at hl 0 rfl) ?_
  have hPc := hP.sub (ws' := [(x, .inr (9, [.ref st, .ref kp, .int 0, .ref bf, .int 0, .int (-1), .int (-1), .int 0, .ref o1, .ref o2, .ref o3, .ref o4, .ref o5, .ref o6])), (st, .inr (8, [.ref lt, .ref tb, .ref fl, .ref wt, .int 0, .null])), (bf, .inl (cI, 40, .inl (fun _ => 0)))]) [0, 1, 2] rfl
  have hDc := hD.sub (ws' := [(x, .inr (9, [.ref st, .ref kp, .int 0, .ref bf, .int 0, .int (-1), .int (-1), .int 0, .ref o1, .ref o2, .ref o3, .ref o4, .ref o5, .ref o6])), (st, .inr (8, [.ref lt, .ref tb, .ref fl, .ref wt, .int 0, .null])), (bf, .inl (cI, 40, .inl (fun _ => 0)))]) [0, 1, 2] (by decide) rfl
  have hFc := va_free (wc := [(x, .inr (9, [.ref st, .ref kp, .int 0, .ref bf, .int 0, .int (-1), .int (-1), .int 0, .ref o1, .ref o2, .ref o3, .ref o4, .ref o5, .ref o6])), (st, .inr (8, [.ref lt, .ref tb, .ref fl, .ref wt, .int 0, .null])), (bf, .inl (cI, 40, .inl (fun _ => 0)))]) hD hS hA [0, 1, 2] rfl
  refine va_calli (va_runV (As := []) (rest := [.int 0, .ref ou]) ⟨hx, hb, hml, hown, hts⟩ (k_X10_parse l htr D cI cJ cZ x st kp bf o1 o2 o3 o4 o5 o6 lt tb fl wt s.heap.size) (cwV 0 hts gL_parse_X10_parse rfl rfl rfl (by decide +kernel) ⟨Nat.le_of_ble_eq_true rfl, Nat.le_of_ble_eq_true rfl⟩) ⟨xPc_blind, va_recv hK hP (ci := 9) (q0 := 0) rfl rfl, xPc_pre hPc hK hDc hE hS hFc hV⟩ rfl rfl hl.1 rfl (lv_room (Nat.le_of_ble_eq_true rfl)) dL_parse_3 ⟨Nat.le_of_ble_eq_true rfl, Nat.le_of_ble_eq_true rfl⟩) hS (fun q _ h => hFc q h) hFc (fun r u t H_1 locs ht hvm hw hB hz1 hk1 hS => ?_)
  rcases hw with rfl
  obtain ⟨hP1, hD1⟩ := hB
  rw [ht] at hP1
  obtain ⟨hP, hD⟩ := va_join (wr := [(ou, .inl (cJ, 1, .inr (.inl (fun _ => 0))))]) (w1 := []) hP hD [0, 1, 2] [3] rfl rfl (by decide) (by decide) hk1 hFc hP1 hD1
  have hP : va_P D vwCl [(ou, .inl (cJ, 1, .inr (.inl (fun _ => 0))))] H_1 := hP
  have hD : va_D A [(ou, .inl (cJ, 1, .inr (.inl (fun _ => 0))))] := hD
  refine W.widen (k := 7) (n := 30) (Nat.le_of_ble_eq_true rfl) (Nat.le_of_ble_eq_true rfl) ?_
  refine lv_i2l (v := 0) hx hb dL_parse_6 (by decide) ?_
  refine va_last hx hb hK hP hD hS 0 1 rfl rfl (i := 0) (x := 0) (vp_in_iff.mpr ⟨by decide, by decide⟩) dL_parse_7 (fun H_2 locs hP hD hS => ?_)
  have hP : va_P D vwCl [(ou, .inl (cJ, 1, .inr (.inl (vp_updL (fun _ => 0) ((0 : Int32).toNatClampNeg) 0))))] H_2 := hP
  have hD : va_D A [(ou, .inl (cJ, 1, .inr (.inl (vp_updL (fun _ => 0) ((0 : Int32).toNatClampNeg) 0))))] := hD
  rw [xUpdL] at hP hD
  have hP : va_P D vwCl [(ou, .inl (cJ, 1, .inr (.inl (fun _ => 0))))] H_2 := hP
  have hD : va_D A [(ou, .inl (cJ, 1, .inr (.inl (fun _ => 0))))] := hD
  refine lv_goto (tgt := 14) hx hb dL_parse_8 (by decide) ?_
  refine lv_iconst (v := 0) hx hb dL_parse_14 (by decide) ?_
  have hP9 := hP.sub (ws' := [(ou, .inl (cJ, 1, .inr (.inl (fun _ => 0))))]) [0] rfl
  have hD9 := hD.sub (ws' := [(ou, .inl (cJ, 1, .inr (.inl (fun _ => 0))))]) [0] (by decide) rfl
  refine W.widen (k := 7) (n := 30) (Nat.le_of_ble_eq_true rfl) (Nat.le_of_ble_eq_true rfl) ?_
  exact vx_ret (W.iret (v := 0) hx hb hr (fun t ht hW => ⟨⟨0, (), rfl, rfl, by rw [ht]; exact hP9, hD9⟩, hS.F ht⟩) hS.2.2 dL_parse_15)
set_option maxHeartbeats 4000000 in
set_option maxRecDepth 100000 in
theorem k_L_formulaVariables (l : Launch) (htr : l.stackTraces = false) (D : va_G) (cI cJ cZ : ClassId) (x : Nat) (st : Nat) (kp : Nat) (bf : Nat) (o1 : Nat) (o2 : Nat) (o3 : Nat) (o4 : Nat) (o5 : Nat) (o6 : Nat) (lt : Nat) (tb : Nat) (fl : Nat) (wt : Nat) (ou : Nat) (sz : Nat) : vx_Met l yL_formulaVariables wsL_formulaVariables ({ frames := 8, cells := 1, slots := 6, locals := 123 }) (xPc D cI cJ cZ [.ref x, .ref ou] [(x, .inr (9, [.ref st, .ref kp, .int 0, .ref bf, .int 0, .int (-1), .int (-1), .int 0, .ref o1, .ref o2, .ref o3, .ref o4, .ref o5, .ref o6])), (st, .inr (8, [.ref lt, .ref tb, .ref fl, .ref wt, .int 0, .null])), (ou, .inl (cJ, 1, .inr (.inl (fun _ => 0))))] sz) (va_Qi (fun (r : Int32) (u : Unit) => (r = 1)) (fun (u : Unit) (t : State) => va_P D vwCl ([] : va_W) t.heap ∧ va_D (va_A [(x, .inr (9, [.ref st, .ref kp, .int 0, .ref bf, .int 0, .int (-1), .int (-1), .int 0, .ref o1, .ref o2, .ref o3, .ref o4, .ref o5, .ref o6])), (st, .inr (8, [.ref lt, .ref tb, .ref fl, .ref wt, .int 0, .null])), (ou, .inl (cJ, 1, .inr (.inl (fun _ => 0))))] sz) ([] : va_W)) (va_A [(x, .inr (9, [.ref st, .ref kp, .int 0, .ref bf, .int 0, .int (-1), .int (-1), .int 0, .ref o1, .ref o2, .ref o3, .ref o4, .ref o5, .ref o6])), (st, .inr (8, [.ref lt, .ref tb, .ref fl, .ref wt, .int 0, .null])), (ou, .inl (cJ, 1, .inr (.inl (fun _ => 0))))] sz)) (vx_X (fun _ : Unit => True) (fun (E : String) (_ : Unit) (_ : State) => False) (va_A [(x, .inr (9, [.ref st, .ref kp, .int 0, .ref bf, .int 0, .int (-1), .int (-1), .int 0, .ref o1, .ref o2, .ref o3, .ref o4, .ref o5, .ref o6])), (st, .inr (8, [.ref lt, .ref tb, .ref fl, .ref wt, .int 0, .null])), (ou, .inl (cJ, 1, .inr (.inl (fun _ => 0))))] sz)) 1 6 (va_A [(x, .inr (9, [.ref st, .ref kp, .int 0, .ref bf, .int 0, .int (-1), .int (-1), .int 0, .ref o1, .ref o2, .ref o3, .ref o4, .ref o5, .ref o6])), (st, .inr (8, [.ref lt, .ref tb, .ref fl, .ref wt, .int 0, .null])), (ou, .inl (cJ, 1, .inr (.inl (fun _ => 0))))] sz) := by
  refine vx_ofWH (cc := cL_formulaVariables) (maxL := 3) (ret := (some .int)) (by decide) rfl ?_
  intro p e s m args below meth c s₁ B hml hv
  obtain ⟨rfl, hsz, hP, hK, hD0, hE, hV⟩ := hv
  have hx := B.exec
  have hb := B.bytes
  have hr := B.returns
  have hts := atoms_spec (ws := wsL_formulaVariables) B.pre
  have hown : s.vm.findClass RL = some m.cls := findClass_of_methodNamed B.named
  have hlocks := B.notSynchronized
  have htab : c.exceptionTable.toList = tableOf [(0, 8, 11, 15)] := vx_table (x := yL_formulaVariables) B (hts _ List.mem_cons_self)
  have w_1 := hts (.classLink RL 15 ise) (by decide +kernel)
  subst hsz
  have hD := hD0.self (sz := s.heap.size)
  generalize hAe : va_A [(x, .inr (9, [.ref st, .ref kp, .int 0, .ref bf, .int 0, .int (-1), .int (-1), .int 0, .ref o1, .ref o2, .ref o3, .ref o4, .ref o5, .ref o6])), (st, .inr (8, [.ref lt, .ref tb, .ref fl, .ref wt, .int 0, .null])), (ou, .inl (cJ, 1, .inr (.inl (fun _ => 0))))] s.heap.size = A at hD hE ⊢
  have hA : ∀ q : Nat, s.heap.size ≤ q → A q := fun q h => by rw [← hAe]; exact Or.inr h
  have hS : va_S A s.heap s.heap [] := va_S.rf
  have hP : va_P D vwCl [(x, .inr (9, [.ref st, .ref kp, .int 0, .ref bf, .int 0, .int (-1), .int (-1), .int 0, .ref o1, .ref o2, .ref o3, .ref o4, .ref o5, .ref o6])), (st, .inr (8, [.ref lt, .ref tb, .ref fl, .ref wt, .int 0, .null])), (ou, .inl (cJ, 1, .inr (.inl (fun _ => 0))))] s.heap := hP
  have hl := lv_entry ([.ref x, .ref ou]) (n := 3) (Nat.le_of_ble_eq_true rfl)
  rw [lg_entry_eq]
  generalize (lg_sl ([.ref x, .ref ou]) ++ List.replicate (3 - (lg_sl ([.ref x, .ref ou])).length) Slot.unset).toArray = ls at hl ⊢
  have hl : lv_has ls 3 [(0, .ref x), (1, .ref ou)] := hl
  refine lv_aload_n hx hb dL_formulaVariables_0 rfl (lv_at hl 1 rfl) ?_
  refine lv_iconst (v := 0) hx hb dL_formulaVariables_1 (by decide) ?_
  refine lv_aload_n hx hb dL_formulaVariables_2 rfl (lv_at hl 0 rfl) ?_
  have hPc := hP.sub (ws' := [(x, .inr (9, [.ref st, .ref kp, .int 0, .ref bf, .int 0, .int (-1), .int (-1), .int 0, .ref o1, .ref o2, .ref o3, .ref o4, .ref o5, .ref o6])), (st, .inr (8, [.ref lt, .ref tb, .ref fl, .ref wt, .int 0, .null]))]) [0, 1] rfl
  have hDc := hD.sub (ws' := [(x, .inr (9, [.ref st, .ref kp, .int 0, .ref bf, .int 0, .int (-1), .int (-1), .int 0, .ref o1, .ref o2, .ref o3, .ref o4, .ref o5, .ref o6])), (st, .inr (8, [.ref lt, .ref tb, .ref fl, .ref wt, .int 0, .null]))]) [0, 1] (by decide) rfl
  have hFc := va_free (wc := [(x, .inr (9, [.ref st, .ref kp, .int 0, .ref bf, .int 0, .int (-1), .int (-1), .int 0, .ref o1, .ref o2, .ref o3, .ref o4, .ref o5, .ref o6])), (st, .inr (8, [.ref lt, .ref tb, .ref fl, .ref wt, .int 0, .null]))]) hD hS hA [0, 1] rfl
  refine vx_calli (vx_runV (As := []) (rest := [.int 0, .ref ou]) ⟨hx, hb, hml, hown, hts⟩ (k_X10_formulaVariables l htr D cI cJ cZ x st kp bf o1 o2 o3 o4 o5 o6 lt tb fl wt s.heap.size) (cwV 0 hts gL_formulaVariables_X10_formulaVariables rfl rfl rfl (by decide +kernel) ⟨Nat.le_of_ble_eq_true rfl, Nat.le_of_ble_eq_true rfl⟩) ⟨xPc_blind, va_recv hK hP (ci := 9) (q0 := 0) rfl rfl, xPc_pre hPc hK hDc hE hS hFc hV⟩ rfl rfl hl.1 rfl (lv_room (Nat.le_of_ble_eq_true rfl)) dL_formulaVariables_3 ⟨Nat.le_of_ble_eq_true rfl, Nat.le_of_ble_eq_true rfl⟩) hS (fun q _ h => hFc q h) hFc (fun q _ h => hFc q h) (fun E ce q9 u t H_1 locs ht hvm hpx hBX hz1 hk1 hS hq9 hcv hcl => ?_) (fun r u t H_1 locs ht hvm hw hB hz1 hk1 hS => ?_)
  · rcases hBX with rfl
    refine vx_catch hown (tableOf []) ⟨0, 8, 11, 15⟩ (tableOf []) (by rw [htab]; rfl) (xpass0) (by decide) (by decide) w_1 (va_Nw.use rfl hV.2.2.2.2.2.1.2.1) hq9 hcv hcl ?_
    have hP : va_P D vwCl [] H_1 := fun k q h => by simp at h
    have hD : va_D A [] := ⟨fun i j p q h => by simp at h, fun k q h => by simp at h⟩
    refine W.widen (k := 1) (n := 6) (Nat.le_of_ble_eq_true rfl) (Nat.le_of_ble_eq_true rfl) ?_
    refine lv_astore_n (lv' := [(2, .ref q9), (0, .ref x), (1, .ref ou)]) hx hb dL_formulaVariables_11 rfl hl (by decide) rfl (fun ls hl => ?_)
    refine lv_iconst (v := 1) hx hb dL_formulaVariables_12 (by decide) ?_
    have hP9 := hP.sub (ws' := []) [] rfl
    have hD9 := hD.sub (ws' := []) [] (by decide) rfl
    refine W.widen (k := 1) (n := 6) (Nat.le_of_ble_eq_true rfl) (Nat.le_of_ble_eq_true rfl) ?_
    exact vx_ret (W.iret (v := 1) hx hb hr (fun t ht hW => ⟨⟨1, (), rfl, rfl, by rw [ht]; exact hP9, hD9⟩, hS.F ht⟩) hS.2.2 dL_formulaVariables_13)
  · exact hw.elim
set_option maxHeartbeats 4000000 in
set_option maxRecDepth 100000 in
theorem k_L_formulaKind (l : Launch) (htr : l.stackTraces = false) (D : va_G) (cI cJ cZ : ClassId) (x : Nat) (st : Nat) (kp : Nat) (bf : Nat) (o1 : Nat) (o2 : Nat) (o3 : Nat) (o4 : Nat) (o5 : Nat) (o6 : Nat) (lt : Nat) (tb : Nat) (fl : Nat) (wt : Nat) (ou : Nat) (sz : Nat) : vx_Met l yL_formulaKind wsL_formulaKind ({ frames := 8, cells := 1, slots := 6, locals := 123 }) (xPc D cI cJ cZ [.ref x, .ref ou] [(x, .inr (9, [.ref st, .ref kp, .int 0, .ref bf, .int 0, .int (-1), .int (-1), .int 0, .ref o1, .ref o2, .ref o3, .ref o4, .ref o5, .ref o6])), (st, .inr (8, [.ref lt, .ref tb, .ref fl, .ref wt, .int 0, .null])), (ou, .inl (cJ, 1, .inr (.inl (fun _ => 0))))] sz) (va_Qi (fun (r : Int32) (u : Unit) => (r = 1)) (fun (u : Unit) (t : State) => va_P D vwCl ([] : va_W) t.heap ∧ va_D (va_A [(x, .inr (9, [.ref st, .ref kp, .int 0, .ref bf, .int 0, .int (-1), .int (-1), .int 0, .ref o1, .ref o2, .ref o3, .ref o4, .ref o5, .ref o6])), (st, .inr (8, [.ref lt, .ref tb, .ref fl, .ref wt, .int 0, .null])), (ou, .inl (cJ, 1, .inr (.inl (fun _ => 0))))] sz) ([] : va_W)) (va_A [(x, .inr (9, [.ref st, .ref kp, .int 0, .ref bf, .int 0, .int (-1), .int (-1), .int 0, .ref o1, .ref o2, .ref o3, .ref o4, .ref o5, .ref o6])), (st, .inr (8, [.ref lt, .ref tb, .ref fl, .ref wt, .int 0, .null])), (ou, .inl (cJ, 1, .inr (.inl (fun _ => 0))))] sz)) (vx_X (fun _ : Unit => True) (fun (E : String) (_ : Unit) (_ : State) => False) (va_A [(x, .inr (9, [.ref st, .ref kp, .int 0, .ref bf, .int 0, .int (-1), .int (-1), .int 0, .ref o1, .ref o2, .ref o3, .ref o4, .ref o5, .ref o6])), (st, .inr (8, [.ref lt, .ref tb, .ref fl, .ref wt, .int 0, .null])), (ou, .inl (cJ, 1, .inr (.inl (fun _ => 0))))] sz)) 1 6 (va_A [(x, .inr (9, [.ref st, .ref kp, .int 0, .ref bf, .int 0, .int (-1), .int (-1), .int 0, .ref o1, .ref o2, .ref o3, .ref o4, .ref o5, .ref o6])), (st, .inr (8, [.ref lt, .ref tb, .ref fl, .ref wt, .int 0, .null])), (ou, .inl (cJ, 1, .inr (.inl (fun _ => 0))))] sz) := by
  refine vx_ofWH (cc := cL_formulaKind) (maxL := 3) (ret := (some .int)) (by decide) rfl ?_
  intro p e s m args below meth c s₁ B hml hv
  obtain ⟨rfl, hsz, hP, hK, hD0, hE, hV⟩ := hv
  have hx := B.exec
  have hb := B.bytes
  have hr := B.returns
  have hts := atoms_spec (ws := wsL_formulaKind) B.pre
  have hown : s.vm.findClass RL = some m.cls := findClass_of_methodNamed B.named
  have hlocks := B.notSynchronized
  have htab : c.exceptionTable.toList = tableOf [(0, 8, 11, 15)] := vx_table (x := yL_formulaKind) B (hts _ List.mem_cons_self)
  have w_1 := hts (.classLink RL 15 ise) (by decide +kernel)
  subst hsz
  have hD := hD0.self (sz := s.heap.size)
  generalize hAe : va_A [(x, .inr (9, [.ref st, .ref kp, .int 0, .ref bf, .int 0, .int (-1), .int (-1), .int 0, .ref o1, .ref o2, .ref o3, .ref o4, .ref o5, .ref o6])), (st, .inr (8, [.ref lt, .ref tb, .ref fl, .ref wt, .int 0, .null])), (ou, .inl (cJ, 1, .inr (.inl (fun _ => 0))))] s.heap.size = A at hD hE ⊢
  have hA : ∀ q : Nat, s.heap.size ≤ q → A q := fun q h => by rw [← hAe]; exact Or.inr h
  have hS : va_S A s.heap s.heap [] := va_S.rf
  have hP : va_P D vwCl [(x, .inr (9, [.ref st, .ref kp, .int 0, .ref bf, .int 0, .int (-1), .int (-1), .int 0, .ref o1, .ref o2, .ref o3, .ref o4, .ref o5, .ref o6])), (st, .inr (8, [.ref lt, .ref tb, .ref fl, .ref wt, .int 0, .null])), (ou, .inl (cJ, 1, .inr (.inl (fun _ => 0))))] s.heap := hP
  have hl := lv_entry ([.ref x, .ref ou]) (n := 3) (Nat.le_of_ble_eq_true rfl)
  rw [lg_entry_eq]
  generalize (lg_sl ([.ref x, .ref ou]) ++ List.replicate (3 - (lg_sl ([.ref x, .ref ou])).length) Slot.unset).toArray = ls at hl ⊢
  have hl : lv_has ls 3 [(0, .ref x), (1, .ref ou)] := hl
  refine lv_aload_n hx hb dL_formulaKind_0 rfl (lv_at hl 1 rfl) ?_
  refine lv_iconst (v := 0) hx hb dL_formulaKind_1 (by decide) ?_
  refine lv_aload_n hx hb dL_formulaKind_2 rfl (lv_at hl 0 rfl) ?_
  have hPc := hP.sub (ws' := [(x, .inr (9, [.ref st, .ref kp, .int 0, .ref bf, .int 0, .int (-1), .int (-1), .int 0, .ref o1, .ref o2, .ref o3, .ref o4, .ref o5, .ref o6])), (st, .inr (8, [.ref lt, .ref tb, .ref fl, .ref wt, .int 0, .null]))]) [0, 1] rfl
  have hDc := hD.sub (ws' := [(x, .inr (9, [.ref st, .ref kp, .int 0, .ref bf, .int 0, .int (-1), .int (-1), .int 0, .ref o1, .ref o2, .ref o3, .ref o4, .ref o5, .ref o6])), (st, .inr (8, [.ref lt, .ref tb, .ref fl, .ref wt, .int 0, .null]))]) [0, 1] (by decide) rfl
  have hFc := va_free (wc := [(x, .inr (9, [.ref st, .ref kp, .int 0, .ref bf, .int 0, .int (-1), .int (-1), .int 0, .ref o1, .ref o2, .ref o3, .ref o4, .ref o5, .ref o6])), (st, .inr (8, [.ref lt, .ref tb, .ref fl, .ref wt, .int 0, .null]))]) hD hS hA [0, 1] rfl
  refine vx_calli (vx_runV (As := []) (rest := [.int 0, .ref ou]) ⟨hx, hb, hml, hown, hts⟩ (k_X10_formulaKind l htr D cI cJ cZ x st kp bf o1 o2 o3 o4 o5 o6 lt tb fl wt s.heap.size) (cwV 0 hts gL_formulaKind_X10_formulaKind rfl rfl rfl (by decide +kernel) ⟨Nat.le_of_ble_eq_true rfl, Nat.le_of_ble_eq_true rfl⟩) ⟨xPc_blind, va_recv hK hP (ci := 9) (q0 := 0) rfl rfl, xPc_pre hPc hK hDc hE hS hFc hV⟩ rfl rfl hl.1 rfl (lv_room (Nat.le_of_ble_eq_true rfl)) dL_formulaKind_3 ⟨Nat.le_of_ble_eq_true rfl, Nat.le_of_ble_eq_true rfl⟩) hS (fun q _ h => hFc q h) hFc (fun q _ h => hFc q h) (fun E ce q9 u t H_1 locs ht hvm hpx hBX hz1 hk1 hS hq9 hcv hcl => ?_) (fun r u t H_1 locs ht hvm hw hB hz1 hk1 hS => ?_)
  · rcases hBX with rfl
    refine vx_catch hown (tableOf []) ⟨0, 8, 11, 15⟩ (tableOf []) (by rw [htab]; rfl) (xpass0) (by decide) (by decide) w_1 (va_Nw.use rfl hV.2.2.2.2.2.1.2.1) hq9 hcv hcl ?_
    have hP : va_P D vwCl [] H_1 := fun k q h => by simp at h
    have hD : va_D A [] := ⟨fun i j p q h => by simp at h, fun k q h => by simp at h⟩
    refine W.widen (k := 1) (n := 6) (Nat.le_of_ble_eq_true rfl) (Nat.le_of_ble_eq_true rfl) ?_
    refine lv_astore_n (lv' := [(2, .ref q9), (0, .ref x), (1, .ref ou)]) hx hb dL_formulaKind_11 rfl hl (by decide) rfl (fun ls hl => ?_)
    refine lv_iconst (v := 1) hx hb dL_formulaKind_12 (by decide) ?_
    have hP9 := hP.sub (ws' := []) [] rfl
    have hD9 := hD.sub (ws' := []) [] (by decide) rfl
    refine W.widen (k := 1) (n := 6) (Nat.le_of_ble_eq_true rfl) (Nat.le_of_ble_eq_true rfl) ?_
    exact vx_ret (W.iret (v := 1) hx hb hr (fun t ht hW => ⟨⟨1, (), rfl, rfl, by rw [ht]; exact hP9, hD9⟩, hS.F ht⟩) hS.2.2 dL_formulaKind_13)
  · exact hw.elim
set_option maxHeartbeats 4000000 in
set_option maxRecDepth 100000 in
theorem k_L_extract (l : Launch) (htr : l.stackTraces = false) (D : va_G) (cI cJ cZ : ClassId) (x : Nat) (st : Nat) (kp : Nat) (bf : Nat) (o1 : Nat) (o2 : Nat) (o3 : Nat) (o4 : Nat) (o5 : Nat) (o6 : Nat) (lt : Nat) (tb : Nat) (fl : Nat) (wt : Nat) (ou : Nat) (a0 : Int32) (sz : Nat) : vx_Met l yL_extract wsL_extract ({ frames := 8, cells := 2, slots := 12, locals := 125 }) (xPc D cI cJ cZ [.ref x, .int a0, .ref ou] [(x, .inr (9, [.ref st, .ref kp, .int 0, .ref bf, .int 0, .int (-1), .int (-1), .int 0, .ref o1, .ref o2, .ref o3, .ref o4, .ref o5, .ref o6])), (st, .inr (8, [.ref lt, .ref tb, .ref fl, .ref wt, .int 0, .null])), (ou, .inl (cJ, 1, .inr (.inl (fun _ => 0))))] sz) (va_Qi (fun (r : Int32) (u : Unit) => (r = 1 ∧ a0.toInt < 0) ∨ (r = 1 ∧ 0 ≤ a0.toInt ∧ 6 ≤ a0.toInt) ∨ (r = 2 ∧ 0 ≤ a0.toInt ∧ a0.toInt < 6)) (fun (u : Unit) (t : State) => va_P D vwCl ([] : va_W) t.heap ∧ va_D (va_A [(x, .inr (9, [.ref st, .ref kp, .int 0, .ref bf, .int 0, .int (-1), .int (-1), .int 0, .ref o1, .ref o2, .ref o3, .ref o4, .ref o5, .ref o6])), (st, .inr (8, [.ref lt, .ref tb, .ref fl, .ref wt, .int 0, .null])), (ou, .inl (cJ, 1, .inr (.inl (fun _ => 0))))] sz) ([] : va_W)) (va_A [(x, .inr (9, [.ref st, .ref kp, .int 0, .ref bf, .int 0, .int (-1), .int (-1), .int 0, .ref o1, .ref o2, .ref o3, .ref o4, .ref o5, .ref o6])), (st, .inr (8, [.ref lt, .ref tb, .ref fl, .ref wt, .int 0, .null])), (ou, .inl (cJ, 1, .inr (.inl (fun _ => 0))))] sz)) (vx_X (fun _ : Unit => True) (fun (E : String) (_ : Unit) (_ : State) => False) (va_A [(x, .inr (9, [.ref st, .ref kp, .int 0, .ref bf, .int 0, .int (-1), .int (-1), .int 0, .ref o1, .ref o2, .ref o3, .ref o4, .ref o5, .ref o6])), (st, .inr (8, [.ref lt, .ref tb, .ref fl, .ref wt, .int 0, .null])), (ou, .inl (cJ, 1, .inr (.inl (fun _ => 0))))] sz)) 2 12 (va_A [(x, .inr (9, [.ref st, .ref kp, .int 0, .ref bf, .int 0, .int (-1), .int (-1), .int 0, .ref o1, .ref o2, .ref o3, .ref o4, .ref o5, .ref o6])), (st, .inr (8, [.ref lt, .ref tb, .ref fl, .ref wt, .int 0, .null])), (ou, .inl (cJ, 1, .inr (.inl (fun _ => 0))))] sz) := by
  refine vx_ofWH (cc := cL_extract) (maxL := 4) (ret := (some .int)) (by decide) rfl ?_
  intro p e s m args below meth c s₁ B hml hv
  obtain ⟨rfl, hsz, hP, hK, hD0, hE, hV⟩ := hv
  have hx := B.exec
  have hb := B.bytes
  have hr := B.returns
  have hts := atoms_spec (ws := wsL_extract) B.pre
  have hown : s.vm.findClass RL = some m.cls := findClass_of_methodNamed B.named
  have hlocks := B.notSynchronized
  have htab : c.exceptionTable.toList = tableOf [(0, 9, 12, 20), (0, 9, 15, 15)] := vx_table (x := yL_extract) B (hts _ List.mem_cons_self)
  have w_1 := hts (.classLink RL 20 iob) (by decide +kernel)
  have w_2 := hts (.classLink RL 15 ise) (by decide +kernel)
  subst hsz
  have hD := hD0.self (sz := s.heap.size)
  generalize hAe : va_A [(x, .inr (9, [.ref st, .ref kp, .int 0, .ref bf, .int 0, .int (-1), .int (-1), .int 0, .ref o1, .ref o2, .ref o3, .ref o4, .ref o5, .ref o6])), (st, .inr (8, [.ref lt, .ref tb, .ref fl, .ref wt, .int 0, .null])), (ou, .inl (cJ, 1, .inr (.inl (fun _ => 0))))] s.heap.size = A at hD hE ⊢
  have hA : ∀ q : Nat, s.heap.size ≤ q → A q := fun q h => by rw [← hAe]; exact Or.inr h
  have hS : va_S A s.heap s.heap [] := va_S.rf
  have hP : va_P D vwCl [(x, .inr (9, [.ref st, .ref kp, .int 0, .ref bf, .int 0, .int (-1), .int (-1), .int 0, .ref o1, .ref o2, .ref o3, .ref o4, .ref o5, .ref o6])), (st, .inr (8, [.ref lt, .ref tb, .ref fl, .ref wt, .int 0, .null])), (ou, .inl (cJ, 1, .inr (.inl (fun _ => 0))))] s.heap := hP
  have hl := lv_entry ([.ref x, .int a0, .ref ou]) (n := 4) (Nat.le_of_ble_eq_true rfl)
  rw [lg_entry_eq]
  generalize (lg_sl ([.ref x, .int a0, .ref ou]) ++ List.replicate (4 - (lg_sl ([.ref x, .int a0, .ref ou])).length) Slot.unset).toArray = ls at hl ⊢
  have hl : lv_has ls 4 [(0, .ref x), (1, .int a0), (2, .ref ou)] := hl
  refine lv_aload_n hx hb dL_extract_0 rfl (lv_at hl 2 rfl) ?_
  refine lv_iconst (v := 0) hx hb dL_extract_1 (by decide) ?_
  refine lv_aload_n hx hb dL_extract_2 rfl (lv_at hl 0 rfl) ?_
  refine lv_iload_n hx hb dL_extract_3 rfl (lv_at hl 1 rfl) ?_
  have hPc := hP.sub (ws' := [(x, .inr (9, [.ref st, .ref kp, .int 0, .ref bf, .int 0, .int (-1), .int (-1), .int 0, .ref o1, .ref o2, .ref o3, .ref o4, .ref o5, .ref o6])), (st, .inr (8, [.ref lt, .ref tb, .ref fl, .ref wt, .int 0, .null]))]) [0, 1] rfl
  have hDc := hD.sub (ws' := [(x, .inr (9, [.ref st, .ref kp, .int 0, .ref bf, .int 0, .int (-1), .int (-1), .int 0, .ref o1, .ref o2, .ref o3, .ref o4, .ref o5, .ref o6])), (st, .inr (8, [.ref lt, .ref tb, .ref fl, .ref wt, .int 0, .null]))]) [0, 1] (by decide) rfl
  have hFc := va_free (wc := [(x, .inr (9, [.ref st, .ref kp, .int 0, .ref bf, .int 0, .int (-1), .int (-1), .int 0, .ref o1, .ref o2, .ref o3, .ref o4, .ref o5, .ref o6])), (st, .inr (8, [.ref lt, .ref tb, .ref fl, .ref wt, .int 0, .null]))]) hD hS hA [0, 1] rfl
  refine vx_calli (vx_runV (As := [.int a0]) (rest := [.int 0, .ref ou]) ⟨hx, hb, hml, hown, hts⟩ (k_X10_extract l htr D cI cJ cZ x st kp bf o1 o2 o3 o4 o5 o6 lt tb fl wt a0 s.heap.size) (cwV 1 hts gL_extract_X10_extract rfl rfl rfl (by decide +kernel) ⟨Nat.le_of_ble_eq_true rfl, Nat.le_of_ble_eq_true rfl⟩) ⟨xPc_blind, va_recv hK hP (ci := 9) (q0 := 0) rfl rfl, xPc_pre hPc hK hDc hE hS hFc hV⟩ rfl rfl hl.1 rfl (lv_room (Nat.le_of_ble_eq_true rfl)) dL_extract_4 ⟨Nat.le_of_ble_eq_true rfl, Nat.le_of_ble_eq_true rfl⟩) hS (fun q _ h => hFc q h) hFc (fun q _ h => hFc q h) (fun E ce q9 u t H_1 locs ht hvm hpx hBX hz1 hk1 hS hq9 hcv hcl => ?_) (fun r u t H_1 locs ht hvm hw hB hz1 hk1 hS => ?_)
  · rcases hBX with ⟨rfl, e_0⟩ | ⟨rfl, e_0, e_1⟩ | ⟨rfl, e_0, e_1⟩
    · have c_2 : a0.toInt < 0 := e_0
      refine vx_catch hown (tableOf []) ⟨0, 9, 12, 20⟩ (tableOf [(0, 9, 15, 15)]) (by rw [htab]; rfl) (xpass0) (by decide) (by decide) w_1 (va_Nw.use rfl hV.2.2.2.2.2.1.2.2) hq9 hcv hcl ?_
      have hP : va_P D vwCl [] H_1 := fun k q h => by simp at h
      have hD : va_D A [] := ⟨fun i j p q h => by simp at h, fun k q h => by simp at h⟩
      refine W.widen (k := 2) (n := 12) (Nat.le_of_ble_eq_true rfl) (Nat.le_of_ble_eq_true rfl) ?_
      refine lv_astore_n (lv' := [(3, .ref q9), (0, .ref x), (1, .int a0), (2, .ref ou)]) hx hb dL_extract_12 rfl hl (by decide) rfl (fun ls hl => ?_)
      refine lv_iconst (v := 1) hx hb dL_extract_13 (by decide) ?_
      have hP9 := hP.sub (ws' := []) [] rfl
      have hD9 := hD.sub (ws' := []) [] (by decide) rfl
      refine W.widen (k := 2) (n := 12) (Nat.le_of_ble_eq_true rfl) (Nat.le_of_ble_eq_true rfl) ?_
      exact vx_ret (W.iret (v := 1) hx hb hr (fun t ht hW => ⟨⟨1, (), rfl, Or.inl ⟨rfl, c_2⟩, by rw [ht]; exact hP9, hD9⟩, hS.F ht⟩) hS.2.2 dL_extract_14)
    · have c_3 : 0 ≤ a0.toInt := e_0
      have c_4 : 6 ≤ a0.toInt := e_1
      refine vx_catch hown (tableOf []) ⟨0, 9, 12, 20⟩ (tableOf [(0, 9, 15, 15)]) (by rw [htab]; rfl) (xpass0) (by decide) (by decide) w_1 (va_Nw.use rfl hV.2.2.2.2.2.1.2.2) hq9 hcv hcl ?_
      have hP : va_P D vwCl [] H_1 := fun k q h => by simp at h
      have hD : va_D A [] := ⟨fun i j p q h => by simp at h, fun k q h => by simp at h⟩
      refine W.widen (k := 2) (n := 12) (Nat.le_of_ble_eq_true rfl) (Nat.le_of_ble_eq_true rfl) ?_
      refine lv_astore_n (lv' := [(3, .ref q9), (0, .ref x), (1, .int a0), (2, .ref ou)]) hx hb dL_extract_12 rfl hl (by decide) rfl (fun ls hl => ?_)
      refine lv_iconst (v := 1) hx hb dL_extract_13 (by decide) ?_
      have hP9 := hP.sub (ws' := []) [] rfl
      have hD9 := hD.sub (ws' := []) [] (by decide) rfl
      refine W.widen (k := 2) (n := 12) (Nat.le_of_ble_eq_true rfl) (Nat.le_of_ble_eq_true rfl) ?_
      exact vx_ret (W.iret (v := 1) hx hb hr (fun t ht hW => ⟨⟨1, (), rfl, Or.inr (Or.inl ⟨rfl, c_3, c_4⟩), by rw [ht]; exact hP9, hD9⟩, hS.F ht⟩) hS.2.2 dL_extract_14)
    · have c_5 : 0 ≤ a0.toInt := e_0
      have c_6 : a0.toInt < 6 := e_1
      refine vx_catch hown (tableOf [(0, 9, 12, 20)]) ⟨0, 9, 15, 15⟩ (tableOf []) (by rw [htab]; rfl) (xpass1 (Or.inr ⟨by decide, iob, w_1, hV.2.2.2.2.2.2.1.1⟩)) (by decide) (by decide) w_2 (va_Nw.use rfl hV.2.2.2.2.2.1.2.1) hq9 hcv hcl ?_
      have hP : va_P D vwCl [] H_1 := fun k q h => by simp at h
      have hD : va_D A [] := ⟨fun i j p q h => by simp at h, fun k q h => by simp at h⟩
      refine W.widen (k := 2) (n := 12) (Nat.le_of_ble_eq_true rfl) (Nat.le_of_ble_eq_true rfl) ?_
      refine lv_astore_n (lv' := [(3, .ref q9), (0, .ref x), (1, .int a0), (2, .ref ou)]) hx hb dL_extract_15 rfl hl (by decide) rfl (fun ls hl => ?_)
      refine lv_iconst (v := 2) hx hb dL_extract_16 (by decide) ?_
      have hP9 := hP.sub (ws' := []) [] rfl
      have hD9 := hD.sub (ws' := []) [] (by decide) rfl
      refine W.widen (k := 2) (n := 12) (Nat.le_of_ble_eq_true rfl) (Nat.le_of_ble_eq_true rfl) ?_
      exact vx_ret (W.iret (v := 2) hx hb hr (fun t ht hW => ⟨⟨2, (), rfl, Or.inr (Or.inr ⟨rfl, c_5, c_6⟩), by rw [ht]; exact hP9, hD9⟩, hS.F ht⟩) hS.2.2 dL_extract_17)
  · exact hw.elim
set_option maxHeartbeats 4000000 in
set_option maxRecDepth 100000 in
theorem k_L_size (l : Launch) (htr : l.stackTraces = false) (D : va_G) (cI cJ cZ : ClassId) (x : Nat) (st : Nat) (kp : Nat) (bf : Nat) (o1 : Nat) (o2 : Nat) (o3 : Nat) (o4 : Nat) (o5 : Nat) (o6 : Nat) (lt : Nat) (tb : Nat) (fl : Nat) (wt : Nat) (ou : Nat) (a0 : Int32) (sz : Nat) : vx_Met l yL_size wsL_size ({ frames := 9, cells := 2, slots := 12, locals := 144 }) (xPc D cI cJ cZ [.ref x, .int a0, .ref ou] [(x, .inr (9, [.ref st, .ref kp, .int 0, .ref bf, .int 0, .int (-1), .int (-1), .int 0, .ref o1, .ref o2, .ref o3, .ref o4, .ref o5, .ref o6])), (st, .inr (8, [.ref lt, .ref tb, .ref fl, .ref wt, .int 0, .null])), (fl, .inl (cZ, 6, .inl (fun _ => 0))), (ou, .inl (cJ, 1, .inr (.inl (fun _ => 0))))] sz) (va_Qi (fun (r : Int32) (u : Unit) => (r = 1 ∧ a0.toInt < 0) ∨ (r = 1 ∧ 0 ≤ a0.toInt ∧ 6 ≤ a0.toInt) ∨ (r = 2 ∧ 0 ≤ a0.toInt ∧ a0.toInt < 6)) (fun (u : Unit) (t : State) => va_P D vwCl ([] : va_W) t.heap ∧ va_D (va_A [(x, .inr (9, [.ref st, .ref kp, .int 0, .ref bf, .int 0, .int (-1), .int (-1), .int 0, .ref o1, .ref o2, .ref o3, .ref o4, .ref o5, .ref o6])), (st, .inr (8, [.ref lt, .ref tb, .ref fl, .ref wt, .int 0, .null])), (fl, .inl (cZ, 6, .inl (fun _ => 0))), (ou, .inl (cJ, 1, .inr (.inl (fun _ => 0))))] sz) ([] : va_W)) (va_A [(x, .inr (9, [.ref st, .ref kp, .int 0, .ref bf, .int 0, .int (-1), .int (-1), .int 0, .ref o1, .ref o2, .ref o3, .ref o4, .ref o5, .ref o6])), (st, .inr (8, [.ref lt, .ref tb, .ref fl, .ref wt, .int 0, .null])), (fl, .inl (cZ, 6, .inl (fun _ => 0))), (ou, .inl (cJ, 1, .inr (.inl (fun _ => 0))))] sz)) (vx_X (fun _ : Unit => True) (fun (E : String) (_ : Unit) (_ : State) => False) (va_A [(x, .inr (9, [.ref st, .ref kp, .int 0, .ref bf, .int 0, .int (-1), .int (-1), .int 0, .ref o1, .ref o2, .ref o3, .ref o4, .ref o5, .ref o6])), (st, .inr (8, [.ref lt, .ref tb, .ref fl, .ref wt, .int 0, .null])), (fl, .inl (cZ, 6, .inl (fun _ => 0))), (ou, .inl (cJ, 1, .inr (.inl (fun _ => 0))))] sz)) 2 12 (va_A [(x, .inr (9, [.ref st, .ref kp, .int 0, .ref bf, .int 0, .int (-1), .int (-1), .int 0, .ref o1, .ref o2, .ref o3, .ref o4, .ref o5, .ref o6])), (st, .inr (8, [.ref lt, .ref tb, .ref fl, .ref wt, .int 0, .null])), (fl, .inl (cZ, 6, .inl (fun _ => 0))), (ou, .inl (cJ, 1, .inr (.inl (fun _ => 0))))] sz) := by
  refine vx_ofWH (cc := cL_size) (maxL := 4) (ret := (some .int)) (by decide) rfl ?_
  intro p e s m args below meth c s₁ B hml hv
  obtain ⟨rfl, hsz, hP, hK, hD0, hE, hV⟩ := hv
  have hx := B.exec
  have hb := B.bytes
  have hr := B.returns
  have hts := atoms_spec (ws := wsL_size) B.pre
  have hown : s.vm.findClass RL = some m.cls := findClass_of_methodNamed B.named
  have hlocks := B.notSynchronized
  have htab : c.exceptionTable.toList = tableOf [(0, 9, 12, 20), (0, 9, 15, 15)] := vx_table (x := yL_size) B (hts _ List.mem_cons_self)
  have w_1 := hts (.classLink RL 20 iob) (by decide +kernel)
  have w_2 := hts (.classLink RL 15 ise) (by decide +kernel)
  subst hsz
  have hD := hD0.self (sz := s.heap.size)
  generalize hAe : va_A [(x, .inr (9, [.ref st, .ref kp, .int 0, .ref bf, .int 0, .int (-1), .int (-1), .int 0, .ref o1, .ref o2, .ref o3, .ref o4, .ref o5, .ref o6])), (st, .inr (8, [.ref lt, .ref tb, .ref fl, .ref wt, .int 0, .null])), (fl, .inl (cZ, 6, .inl (fun _ => 0))), (ou, .inl (cJ, 1, .inr (.inl (fun _ => 0))))] s.heap.size = A at hD hE ⊢
  have hA : ∀ q : Nat, s.heap.size ≤ q → A q := fun q h => by rw [← hAe]; exact Or.inr h
  have hS : va_S A s.heap s.heap [] := va_S.rf
  have hP : va_P D vwCl [(x, .inr (9, [.ref st, .ref kp, .int 0, .ref bf, .int 0, .int (-1), .int (-1), .int 0, .ref o1, .ref o2, .ref o3, .ref o4, .ref o5, .ref o6])), (st, .inr (8, [.ref lt, .ref tb, .ref fl, .ref wt, .int 0, .null])), (fl, .inl (cZ, 6, .inl (fun _ => 0))), (ou, .inl (cJ, 1, .inr (.inl (fun _ => 0))))] s.heap := hP
  have hl := lv_entry ([.ref x, .int a0, .ref ou]) (n := 4) (Nat.le_of_ble_eq_true rfl)
  rw [lg_entry_eq]
  generalize (lg_sl ([.ref x, .int a0, .ref ou]) ++ List.replicate (4 - (lg_sl ([.ref x, .int a0, .ref ou])).length) Slot.unset).toArray = ls at hl ⊢
  have hl : lv_has ls 4 [(0, .ref x), (1, .int a0), (2, .ref ou)] := hl
  refine lv_aload_n hx hb dL_size_0 rfl (lv_at hl 2 rfl) ?_
  refine lv_iconst (v := 0) hx hb dL_size_1 (by decide) ?_
  refine lv_aload_n hx hb dL_size_2 rfl (lv_at hl 0 rfl) ?_
  refine lv_iload_n hx hb dL_size_3 rfl (lv_at hl 1 rfl) ?_
  have hPc := hP.sub (ws' := [(x, .inr (9, [.ref st, .ref kp, .int 0, .ref bf, .int 0, .int (-1), .int (-1), .int 0, .ref o1, .ref o2, .ref o3, .ref o4, .ref o5, .ref o6])), (st, .inr (8, [.ref lt, .ref tb, .ref fl, .ref wt, .int 0, .null])), (fl, .inl (cZ, 6, .inl (fun _ => 0)))]) [0, 1, 2] rfl
  have hDc := hD.sub (ws' := [(x, .inr (9, [.ref st, .ref kp, .int 0, .ref bf, .int 0, .int (-1), .int (-1), .int 0, .ref o1, .ref o2, .ref o3, .ref o4, .ref o5, .ref o6])), (st, .inr (8, [.ref lt, .ref tb, .ref fl, .ref wt, .int 0, .null])), (fl, .inl (cZ, 6, .inl (fun _ => 0)))]) [0, 1, 2] (by decide) rfl
  have hFc := va_free (wc := [(x, .inr (9, [.ref st, .ref kp, .int 0, .ref bf, .int 0, .int (-1), .int (-1), .int 0, .ref o1, .ref o2, .ref o3, .ref o4, .ref o5, .ref o6])), (st, .inr (8, [.ref lt, .ref tb, .ref fl, .ref wt, .int 0, .null])), (fl, .inl (cZ, 6, .inl (fun _ => 0)))]) hD hS hA [0, 1, 2] rfl
  refine vx_calli (vx_runV (As := [.int a0]) (rest := [.int 0, .ref ou]) ⟨hx, hb, hml, hown, hts⟩ (k_X10_size l htr D cI cJ cZ x st kp bf o1 o2 o3 o4 o5 o6 lt tb fl wt a0 s.heap.size) (cwV 1 hts gL_size_X10_size rfl rfl rfl (by decide +kernel) ⟨Nat.le_of_ble_eq_true rfl, Nat.le_of_ble_eq_true rfl⟩) ⟨xPc_blind, va_recv hK hP (ci := 9) (q0 := 0) rfl rfl, xPc_pre hPc hK hDc hE hS hFc hV⟩ rfl rfl hl.1 rfl (lv_room (Nat.le_of_ble_eq_true rfl)) dL_size_4 ⟨Nat.le_of_ble_eq_true rfl, Nat.le_of_ble_eq_true rfl⟩) hS (fun q _ h => hFc q h) hFc (fun q _ h => hFc q h) (fun E ce q9 u t H_1 locs ht hvm hpx hBX hz1 hk1 hS hq9 hcv hcl => ?_) (fun r u t H_1 locs ht hvm hw hB hz1 hk1 hS => ?_)
  · rcases hBX with ⟨rfl, e_0⟩ | ⟨rfl, e_0, e_1⟩ | ⟨rfl, e_0, e_1⟩
    · have c_2 : a0.toInt < 0 := e_0
      refine vx_catch hown (tableOf []) ⟨0, 9, 12, 20⟩ (tableOf [(0, 9, 15, 15)]) (by rw [htab]; rfl) (xpass0) (by decide) (by decide) w_1 (va_Nw.use rfl hV.2.2.2.2.2.1.2.2) hq9 hcv hcl ?_
      have hP : va_P D vwCl [] H_1 := fun k q h => by simp at h
      have hD : va_D A [] := ⟨fun i j p q h => by simp at h, fun k q h => by simp at h⟩
      refine W.widen (k := 2) (n := 12) (Nat.le_of_ble_eq_true rfl) (Nat.le_of_ble_eq_true rfl) ?_
      refine lv_astore_n (lv' := [(3, .ref q9), (0, .ref x), (1, .int a0), (2, .ref ou)]) hx hb dL_size_12 rfl hl (by decide) rfl (fun ls hl => ?_)
      refine lv_iconst (v := 1) hx hb dL_size_13 (by decide) ?_
      have hP9 := hP.sub (ws' := []) [] rfl
      have hD9 := hD.sub (ws' := []) [] (by decide) rfl
      refine W.widen (k := 2) (n := 12) (Nat.le_of_ble_eq_true rfl) (Nat.le_of_ble_eq_true rfl) ?_
      exact vx_ret (W.iret (v := 1) hx hb hr (fun t ht hW => ⟨⟨1, (), rfl, Or.inl ⟨rfl, c_2⟩, by rw [ht]; exact hP9, hD9⟩, hS.F ht⟩) hS.2.2 dL_size_14)
    · have c_3 : 0 ≤ a0.toInt := e_0
      have c_4 : 6 ≤ a0.toInt := e_1
      refine vx_catch hown (tableOf []) ⟨0, 9, 12, 20⟩ (tableOf [(0, 9, 15, 15)]) (by rw [htab]; rfl) (xpass0) (by decide) (by decide) w_1 (va_Nw.use rfl hV.2.2.2.2.2.1.2.2) hq9 hcv hcl ?_
      have hP : va_P D vwCl [] H_1 := fun k q h => by simp at h
      have hD : va_D A [] := ⟨fun i j p q h => by simp at h, fun k q h => by simp at h⟩
      refine W.widen (k := 2) (n := 12) (Nat.le_of_ble_eq_true rfl) (Nat.le_of_ble_eq_true rfl) ?_
      refine lv_astore_n (lv' := [(3, .ref q9), (0, .ref x), (1, .int a0), (2, .ref ou)]) hx hb dL_size_12 rfl hl (by decide) rfl (fun ls hl => ?_)
      refine lv_iconst (v := 1) hx hb dL_size_13 (by decide) ?_
      have hP9 := hP.sub (ws' := []) [] rfl
      have hD9 := hD.sub (ws' := []) [] (by decide) rfl
      refine W.widen (k := 2) (n := 12) (Nat.le_of_ble_eq_true rfl) (Nat.le_of_ble_eq_true rfl) ?_
      exact vx_ret (W.iret (v := 1) hx hb hr (fun t ht hW => ⟨⟨1, (), rfl, Or.inr (Or.inl ⟨rfl, c_3, c_4⟩), by rw [ht]; exact hP9, hD9⟩, hS.F ht⟩) hS.2.2 dL_size_14)
    · have c_5 : 0 ≤ a0.toInt := e_0
      have c_6 : a0.toInt < 6 := e_1
      refine vx_catch hown (tableOf [(0, 9, 12, 20)]) ⟨0, 9, 15, 15⟩ (tableOf []) (by rw [htab]; rfl) (xpass1 (Or.inr ⟨by decide, iob, w_1, hV.2.2.2.2.2.2.1.1⟩)) (by decide) (by decide) w_2 (va_Nw.use rfl hV.2.2.2.2.2.1.2.1) hq9 hcv hcl ?_
      have hP : va_P D vwCl [] H_1 := fun k q h => by simp at h
      have hD : va_D A [] := ⟨fun i j p q h => by simp at h, fun k q h => by simp at h⟩
      refine W.widen (k := 2) (n := 12) (Nat.le_of_ble_eq_true rfl) (Nat.le_of_ble_eq_true rfl) ?_
      refine lv_astore_n (lv' := [(3, .ref q9), (0, .ref x), (1, .int a0), (2, .ref ou)]) hx hb dL_size_15 rfl hl (by decide) rfl (fun ls hl => ?_)
      refine lv_iconst (v := 2) hx hb dL_size_16 (by decide) ?_
      have hP9 := hP.sub (ws' := []) [] rfl
      have hD9 := hD.sub (ws' := []) [] (by decide) rfl
      refine W.widen (k := 2) (n := 12) (Nat.le_of_ble_eq_true rfl) (Nat.le_of_ble_eq_true rfl) ?_
      exact vx_ret (W.iret (v := 2) hx hb hr (fun t ht hW => ⟨⟨2, (), rfl, Or.inr (Or.inr ⟨rfl, c_5, c_6⟩), by rw [ht]; exact hP9, hD9⟩, hS.F ht⟩) hS.2.2 dL_size_17)
  · exact hw.elim
set_option maxHeartbeats 4000000 in
set_option maxRecDepth 100000 in
theorem k_L_start (l : Launch) (htr : l.stackTraces = false) (D : va_G) (cI cJ cZ : ClassId) (x : Nat) (st : Nat) (kp : Nat) (bf : Nat) (o1 : Nat) (o2 : Nat) (o3 : Nat) (o4 : Nat) (o5 : Nat) (o6 : Nat) (lt : Nat) (tb : Nat) (fl : Nat) (wt : Nat) (ou : Nat) (a0 : Int32) (a1 : Int32) (a2 : Int32) (sz : Nat) : vx_Met l yL_start wsL_start ({ frames := 10, cells := 2, slots := 12, locals := 170 }) (xPc D cI cJ cZ [.ref x, .int a0, .int a1, .int a2, .ref ou] [(x, .inr (9, [.ref st, .ref kp, .int 0, .ref bf, .int 0, .int (-1), .int (-1), .int 0, .ref o1, .ref o2, .ref o3, .ref o4, .ref o5, .ref o6])), (st, .inr (8, [.ref lt, .ref tb, .ref fl, .ref wt, .int 0, .null])), (fl, .inl (cZ, 6, .inl (fun _ => 0))), (ou, .inl (cJ, 1, .inr (.inl (fun _ => 0))))] sz) (va_Qi (fun (r : Int32) (u : Unit) => (r = 1 ∧ a0.toInt < 0) ∨ (r = 1 ∧ 0 ≤ a0.toInt ∧ 6 ≤ a0.toInt) ∨ (r = 2 ∧ 0 ≤ a0.toInt ∧ a0.toInt < 6)) (fun (u : Unit) (t : State) => va_P D vwCl ([] : va_W) t.heap ∧ va_D (va_A [(x, .inr (9, [.ref st, .ref kp, .int 0, .ref bf, .int 0, .int (-1), .int (-1), .int 0, .ref o1, .ref o2, .ref o3, .ref o4, .ref o5, .ref o6])), (st, .inr (8, [.ref lt, .ref tb, .ref fl, .ref wt, .int 0, .null])), (fl, .inl (cZ, 6, .inl (fun _ => 0))), (ou, .inl (cJ, 1, .inr (.inl (fun _ => 0))))] sz) ([] : va_W)) (va_A [(x, .inr (9, [.ref st, .ref kp, .int 0, .ref bf, .int 0, .int (-1), .int (-1), .int 0, .ref o1, .ref o2, .ref o3, .ref o4, .ref o5, .ref o6])), (st, .inr (8, [.ref lt, .ref tb, .ref fl, .ref wt, .int 0, .null])), (fl, .inl (cZ, 6, .inl (fun _ => 0))), (ou, .inl (cJ, 1, .inr (.inl (fun _ => 0))))] sz)) (vx_X (fun _ : Unit => True) (fun (E : String) (_ : Unit) (_ : State) => False) (va_A [(x, .inr (9, [.ref st, .ref kp, .int 0, .ref bf, .int 0, .int (-1), .int (-1), .int 0, .ref o1, .ref o2, .ref o3, .ref o4, .ref o5, .ref o6])), (st, .inr (8, [.ref lt, .ref tb, .ref fl, .ref wt, .int 0, .null])), (fl, .inl (cZ, 6, .inl (fun _ => 0))), (ou, .inl (cJ, 1, .inr (.inl (fun _ => 0))))] sz)) 2 12 (va_A [(x, .inr (9, [.ref st, .ref kp, .int 0, .ref bf, .int 0, .int (-1), .int (-1), .int 0, .ref o1, .ref o2, .ref o3, .ref o4, .ref o5, .ref o6])), (st, .inr (8, [.ref lt, .ref tb, .ref fl, .ref wt, .int 0, .null])), (fl, .inl (cZ, 6, .inl (fun _ => 0))), (ou, .inl (cJ, 1, .inr (.inl (fun _ => 0))))] sz) := by
  refine vx_ofWH (cc := cL_start) (maxL := 6) (ret := (some .int)) (by decide) rfl ?_
  intro p e s m args below meth c s₁ B hml hv
  obtain ⟨rfl, hsz, hP, hK, hD0, hE, hV⟩ := hv
  have hx := B.exec
  have hb := B.bytes
  have hr := B.returns
  have hts := atoms_spec (ws := wsL_start) B.pre
  have hown : s.vm.findClass RL = some m.cls := findClass_of_methodNamed B.named
  have hlocks := B.notSynchronized
  have htab : c.exceptionTable.toList = tableOf [(0, 12, 15, 20), (0, 12, 19, 15)] := vx_table (x := yL_start) B (hts _ List.mem_cons_self)
  have w_1 := hts (.classLink RL 20 iob) (by decide +kernel)
  have w_2 := hts (.classLink RL 15 ise) (by decide +kernel)
  subst hsz
  have hD := hD0.self (sz := s.heap.size)
  generalize hAe : va_A [(x, .inr (9, [.ref st, .ref kp, .int 0, .ref bf, .int 0, .int (-1), .int (-1), .int 0, .ref o1, .ref o2, .ref o3, .ref o4, .ref o5, .ref o6])), (st, .inr (8, [.ref lt, .ref tb, .ref fl, .ref wt, .int 0, .null])), (fl, .inl (cZ, 6, .inl (fun _ => 0))), (ou, .inl (cJ, 1, .inr (.inl (fun _ => 0))))] s.heap.size = A at hD hE ⊢
  have hA : ∀ q : Nat, s.heap.size ≤ q → A q := fun q h => by rw [← hAe]; exact Or.inr h
  have hS : va_S A s.heap s.heap [] := va_S.rf
  have hP : va_P D vwCl [(x, .inr (9, [.ref st, .ref kp, .int 0, .ref bf, .int 0, .int (-1), .int (-1), .int 0, .ref o1, .ref o2, .ref o3, .ref o4, .ref o5, .ref o6])), (st, .inr (8, [.ref lt, .ref tb, .ref fl, .ref wt, .int 0, .null])), (fl, .inl (cZ, 6, .inl (fun _ => 0))), (ou, .inl (cJ, 1, .inr (.inl (fun _ => 0))))] s.heap := hP
  have hl := lv_entry ([.ref x, .int a0, .int a1, .int a2, .ref ou]) (n := 6) (Nat.le_of_ble_eq_true rfl)
  rw [lg_entry_eq]
  generalize (lg_sl ([.ref x, .int a0, .int a1, .int a2, .ref ou]) ++ List.replicate (6 - (lg_sl ([.ref x, .int a0, .int a1, .int a2, .ref ou])).length) Slot.unset).toArray = ls at hl ⊢
  have hl : lv_has ls 6 [(0, .ref x), (1, .int a0), (2, .int a1), (3, .int a2), (4, .ref ou)] := hl
  refine lv_aload hx hb dL_start_0 (lv_at hl 4 rfl) ?_
  refine lv_iconst (v := 0) hx hb dL_start_2 (by decide) ?_
  refine lv_aload_n hx hb dL_start_3 rfl (lv_at hl 0 rfl) ?_
  refine lv_iload_n hx hb dL_start_4 rfl (lv_at hl 1 rfl) ?_
  refine lv_iload_n hx hb dL_start_5 rfl (lv_at hl 2 rfl) ?_
  refine lv_iload_n hx hb dL_start_6 rfl (lv_at hl 3 rfl) ?_
  have hPc := hP.sub (ws' := [(x, .inr (9, [.ref st, .ref kp, .int 0, .ref bf, .int 0, .int (-1), .int (-1), .int 0, .ref o1, .ref o2, .ref o3, .ref o4, .ref o5, .ref o6])), (st, .inr (8, [.ref lt, .ref tb, .ref fl, .ref wt, .int 0, .null])), (fl, .inl (cZ, 6, .inl (fun _ => 0)))]) [0, 1, 2] rfl
  have hDc := hD.sub (ws' := [(x, .inr (9, [.ref st, .ref kp, .int 0, .ref bf, .int 0, .int (-1), .int (-1), .int 0, .ref o1, .ref o2, .ref o3, .ref o4, .ref o5, .ref o6])), (st, .inr (8, [.ref lt, .ref tb, .ref fl, .ref wt, .int 0, .null])), (fl, .inl (cZ, 6, .inl (fun _ => 0)))]) [0, 1, 2] (by decide) rfl
  have hFc := va_free (wc := [(x, .inr (9, [.ref st, .ref kp, .int 0, .ref bf, .int 0, .int (-1), .int (-1), .int 0, .ref o1, .ref o2, .ref o3, .ref o4, .ref o5, .ref o6])), (st, .inr (8, [.ref lt, .ref tb, .ref fl, .ref wt, .int 0, .null])), (fl, .inl (cZ, 6, .inl (fun _ => 0)))]) hD hS hA [0, 1, 2] rfl
  refine vx_calli (vx_runV (As := [.int a0, .int a1, .int a2]) (rest := [.int 0, .ref ou]) ⟨hx, hb, hml, hown, hts⟩ (k_X10_start l htr D cI cJ cZ x st kp bf o1 o2 o3 o4 o5 o6 lt tb fl wt a0 a1 a2 s.heap.size) (cwV 3 hts gL_start_X10_start rfl rfl rfl (by decide +kernel) ⟨Nat.le_of_ble_eq_true rfl, Nat.le_of_ble_eq_true rfl⟩) ⟨xPc_blind, va_recv hK hP (ci := 9) (q0 := 0) rfl rfl, xPc_pre hPc hK hDc hE hS hFc hV⟩ rfl rfl hl.1 rfl (lv_room (Nat.le_of_ble_eq_true rfl)) dL_start_7 ⟨Nat.le_of_ble_eq_true rfl, Nat.le_of_ble_eq_true rfl⟩) hS (fun q _ h => hFc q h) hFc (fun q _ h => hFc q h) (fun E ce q9 u t H_1 locs ht hvm hpx hBX hz1 hk1 hS hq9 hcv hcl => ?_) (fun r u t H_1 locs ht hvm hw hB hz1 hk1 hS => ?_)
  · rcases hBX with ⟨rfl, e_0⟩ | ⟨rfl, e_0, e_1⟩ | ⟨rfl, e_0, e_1⟩
    · have c_2 : a0.toInt < 0 := e_0
      refine vx_catch hown (tableOf []) ⟨0, 12, 15, 20⟩ (tableOf [(0, 12, 19, 15)]) (by rw [htab]; rfl) (xpass0) (by decide) (by decide) w_1 (va_Nw.use rfl hV.2.2.2.2.2.1.2.2) hq9 hcv hcl ?_
      have hP : va_P D vwCl [] H_1 := fun k q h => by simp at h
      have hD : va_D A [] := ⟨fun i j p q h => by simp at h, fun k q h => by simp at h⟩
      refine W.widen (k := 2) (n := 12) (Nat.le_of_ble_eq_true rfl) (Nat.le_of_ble_eq_true rfl) ?_
      refine lv_astore (lv' := [(5, .ref q9), (0, .ref x), (1, .int a0), (2, .int a1), (3, .int a2), (4, .ref ou)]) hx hb dL_start_15 hl (by decide) rfl (fun ls hl => ?_)
      refine lv_iconst (v := 1) hx hb dL_start_17 (by decide) ?_
      have hP9 := hP.sub (ws' := []) [] rfl
      have hD9 := hD.sub (ws' := []) [] (by decide) rfl
      refine W.widen (k := 2) (n := 12) (Nat.le_of_ble_eq_true rfl) (Nat.le_of_ble_eq_true rfl) ?_
      exact vx_ret (W.iret (v := 1) hx hb hr (fun t ht hW => ⟨⟨1, (), rfl, Or.inl ⟨rfl, c_2⟩, by rw [ht]; exact hP9, hD9⟩, hS.F ht⟩) hS.2.2 dL_start_18)
    · have c_3 : 0 ≤ a0.toInt := e_0
      have c_4 : 6 ≤ a0.toInt := e_1
      refine vx_catch hown (tableOf []) ⟨0, 12, 15, 20⟩ (tableOf [(0, 12, 19, 15)]) (by rw [htab]; rfl) (xpass0) (by decide) (by decide) w_1 (va_Nw.use rfl hV.2.2.2.2.2.1.2.2) hq9 hcv hcl ?_
      have hP : va_P D vwCl [] H_1 := fun k q h => by simp at h
      have hD : va_D A [] := ⟨fun i j p q h => by simp at h, fun k q h => by simp at h⟩
      refine W.widen (k := 2) (n := 12) (Nat.le_of_ble_eq_true rfl) (Nat.le_of_ble_eq_true rfl) ?_
      refine lv_astore (lv' := [(5, .ref q9), (0, .ref x), (1, .int a0), (2, .int a1), (3, .int a2), (4, .ref ou)]) hx hb dL_start_15 hl (by decide) rfl (fun ls hl => ?_)
      refine lv_iconst (v := 1) hx hb dL_start_17 (by decide) ?_
      have hP9 := hP.sub (ws' := []) [] rfl
      have hD9 := hD.sub (ws' := []) [] (by decide) rfl
      refine W.widen (k := 2) (n := 12) (Nat.le_of_ble_eq_true rfl) (Nat.le_of_ble_eq_true rfl) ?_
      exact vx_ret (W.iret (v := 1) hx hb hr (fun t ht hW => ⟨⟨1, (), rfl, Or.inr (Or.inl ⟨rfl, c_3, c_4⟩), by rw [ht]; exact hP9, hD9⟩, hS.F ht⟩) hS.2.2 dL_start_18)
    · have c_5 : 0 ≤ a0.toInt := e_0
      have c_6 : a0.toInt < 6 := e_1
      refine vx_catch hown (tableOf [(0, 12, 15, 20)]) ⟨0, 12, 19, 15⟩ (tableOf []) (by rw [htab]; rfl) (xpass1 (Or.inr ⟨by decide, iob, w_1, hV.2.2.2.2.2.2.1.1⟩)) (by decide) (by decide) w_2 (va_Nw.use rfl hV.2.2.2.2.2.1.2.1) hq9 hcv hcl ?_
      have hP : va_P D vwCl [] H_1 := fun k q h => by simp at h
      have hD : va_D A [] := ⟨fun i j p q h => by simp at h, fun k q h => by simp at h⟩
      refine W.widen (k := 2) (n := 12) (Nat.le_of_ble_eq_true rfl) (Nat.le_of_ble_eq_true rfl) ?_
      refine lv_astore (lv' := [(5, .ref q9), (0, .ref x), (1, .int a0), (2, .int a1), (3, .int a2), (4, .ref ou)]) hx hb dL_start_19 hl (by decide) rfl (fun ls hl => ?_)
      refine lv_iconst (v := 2) hx hb dL_start_21 (by decide) ?_
      have hP9 := hP.sub (ws' := []) [] rfl
      have hD9 := hD.sub (ws' := []) [] (by decide) rfl
      refine W.widen (k := 2) (n := 12) (Nat.le_of_ble_eq_true rfl) (Nat.le_of_ble_eq_true rfl) ?_
      exact vx_ret (W.iret (v := 2) hx hb hr (fun t ht hW => ⟨⟨2, (), rfl, Or.inr (Or.inr ⟨rfl, c_5, c_6⟩), by rw [ht]; exact hP9, hD9⟩, hS.F ht⟩) hS.2.2 dL_start_22)
  · exact hw.elim
set_option maxHeartbeats 4000000 in
set_option maxRecDepth 100000 in
theorem k_L_end (l : Launch) (htr : l.stackTraces = false) (D : va_G) (cI cJ cZ : ClassId) (x : Nat) (st : Nat) (kp : Nat) (bf : Nat) (o1 : Nat) (o2 : Nat) (o3 : Nat) (o4 : Nat) (o5 : Nat) (o6 : Nat) (lt : Nat) (tb : Nat) (fl : Nat) (wt : Nat) (ou : Nat) (a0 : Int32) (a1 : Int32) (a2 : Int32) (sz : Nat) : vx_Met l yL_end wsL_end ({ frames := 10, cells := 2, slots := 12, locals := 170 }) (xPc D cI cJ cZ [.ref x, .int a0, .int a1, .int a2, .ref ou] [(x, .inr (9, [.ref st, .ref kp, .int 0, .ref bf, .int 0, .int (-1), .int (-1), .int 0, .ref o1, .ref o2, .ref o3, .ref o4, .ref o5, .ref o6])), (st, .inr (8, [.ref lt, .ref tb, .ref fl, .ref wt, .int 0, .null])), (fl, .inl (cZ, 6, .inl (fun _ => 0))), (ou, .inl (cJ, 1, .inr (.inl (fun _ => 0))))] sz) (va_Qi (fun (r : Int32) (u : Unit) => (r = 1 ∧ a0.toInt < 0) ∨ (r = 1 ∧ 0 ≤ a0.toInt ∧ 6 ≤ a0.toInt) ∨ (r = 2 ∧ 0 ≤ a0.toInt ∧ a0.toInt < 6)) (fun (u : Unit) (t : State) => va_P D vwCl ([] : va_W) t.heap ∧ va_D (va_A [(x, .inr (9, [.ref st, .ref kp, .int 0, .ref bf, .int 0, .int (-1), .int (-1), .int 0, .ref o1, .ref o2, .ref o3, .ref o4, .ref o5, .ref o6])), (st, .inr (8, [.ref lt, .ref tb, .ref fl, .ref wt, .int 0, .null])), (fl, .inl (cZ, 6, .inl (fun _ => 0))), (ou, .inl (cJ, 1, .inr (.inl (fun _ => 0))))] sz) ([] : va_W)) (va_A [(x, .inr (9, [.ref st, .ref kp, .int 0, .ref bf, .int 0, .int (-1), .int (-1), .int 0, .ref o1, .ref o2, .ref o3, .ref o4, .ref o5, .ref o6])), (st, .inr (8, [.ref lt, .ref tb, .ref fl, .ref wt, .int 0, .null])), (fl, .inl (cZ, 6, .inl (fun _ => 0))), (ou, .inl (cJ, 1, .inr (.inl (fun _ => 0))))] sz)) (vx_X (fun _ : Unit => True) (fun (E : String) (_ : Unit) (_ : State) => False) (va_A [(x, .inr (9, [.ref st, .ref kp, .int 0, .ref bf, .int 0, .int (-1), .int (-1), .int 0, .ref o1, .ref o2, .ref o3, .ref o4, .ref o5, .ref o6])), (st, .inr (8, [.ref lt, .ref tb, .ref fl, .ref wt, .int 0, .null])), (fl, .inl (cZ, 6, .inl (fun _ => 0))), (ou, .inl (cJ, 1, .inr (.inl (fun _ => 0))))] sz)) 2 12 (va_A [(x, .inr (9, [.ref st, .ref kp, .int 0, .ref bf, .int 0, .int (-1), .int (-1), .int 0, .ref o1, .ref o2, .ref o3, .ref o4, .ref o5, .ref o6])), (st, .inr (8, [.ref lt, .ref tb, .ref fl, .ref wt, .int 0, .null])), (fl, .inl (cZ, 6, .inl (fun _ => 0))), (ou, .inl (cJ, 1, .inr (.inl (fun _ => 0))))] sz) := by
  refine vx_ofWH (cc := cL_end) (maxL := 6) (ret := (some .int)) (by decide) rfl ?_
  intro p e s m args below meth c s₁ B hml hv
  obtain ⟨rfl, hsz, hP, hK, hD0, hE, hV⟩ := hv
  have hx := B.exec
  have hb := B.bytes
  have hr := B.returns
  have hts := atoms_spec (ws := wsL_end) B.pre
  have hown : s.vm.findClass RL = some m.cls := findClass_of_methodNamed B.named
  have hlocks := B.notSynchronized
  have htab : c.exceptionTable.toList = tableOf [(0, 12, 15, 20), (0, 12, 19, 15)] := vx_table (x := yL_end) B (hts _ List.mem_cons_self)
  have w_1 := hts (.classLink RL 20 iob) (by decide +kernel)
  have w_2 := hts (.classLink RL 15 ise) (by decide +kernel)
  subst hsz
  have hD := hD0.self (sz := s.heap.size)
  generalize hAe : va_A [(x, .inr (9, [.ref st, .ref kp, .int 0, .ref bf, .int 0, .int (-1), .int (-1), .int 0, .ref o1, .ref o2, .ref o3, .ref o4, .ref o5, .ref o6])), (st, .inr (8, [.ref lt, .ref tb, .ref fl, .ref wt, .int 0, .null])), (fl, .inl (cZ, 6, .inl (fun _ => 0))), (ou, .inl (cJ, 1, .inr (.inl (fun _ => 0))))] s.heap.size = A at hD hE ⊢
  have hA : ∀ q : Nat, s.heap.size ≤ q → A q := fun q h => by rw [← hAe]; exact Or.inr h
  have hS : va_S A s.heap s.heap [] := va_S.rf
  have hP : va_P D vwCl [(x, .inr (9, [.ref st, .ref kp, .int 0, .ref bf, .int 0, .int (-1), .int (-1), .int 0, .ref o1, .ref o2, .ref o3, .ref o4, .ref o5, .ref o6])), (st, .inr (8, [.ref lt, .ref tb, .ref fl, .ref wt, .int 0, .null])), (fl, .inl (cZ, 6, .inl (fun _ => 0))), (ou, .inl (cJ, 1, .inr (.inl (fun _ => 0))))] s.heap := hP
  have hl := lv_entry ([.ref x, .int a0, .int a1, .int a2, .ref ou]) (n := 6) (Nat.le_of_ble_eq_true rfl)
  rw [lg_entry_eq]
  generalize (lg_sl ([.ref x, .int a0, .int a1, .int a2, .ref ou]) ++ List.replicate (6 - (lg_sl ([.ref x, .int a0, .int a1, .int a2, .ref ou])).length) Slot.unset).toArray = ls at hl ⊢
  have hl : lv_has ls 6 [(0, .ref x), (1, .int a0), (2, .int a1), (3, .int a2), (4, .ref ou)] := hl
  refine lv_aload hx hb dL_end_0 (lv_at hl 4 rfl) ?_
  refine lv_iconst (v := 0) hx hb dL_end_2 (by decide) ?_
  refine lv_aload_n hx hb dL_end_3 rfl (lv_at hl 0 rfl) ?_
  refine lv_iload_n hx hb dL_end_4 rfl (lv_at hl 1 rfl) ?_
  refine lv_iload_n hx hb dL_end_5 rfl (lv_at hl 2 rfl) ?_
  refine lv_iload_n hx hb dL_end_6 rfl (lv_at hl 3 rfl) ?_
  have hPc := hP.sub (ws' := [(x, .inr (9, [.ref st, .ref kp, .int 0, .ref bf, .int 0, .int (-1), .int (-1), .int 0, .ref o1, .ref o2, .ref o3, .ref o4, .ref o5, .ref o6])), (st, .inr (8, [.ref lt, .ref tb, .ref fl, .ref wt, .int 0, .null])), (fl, .inl (cZ, 6, .inl (fun _ => 0)))]) [0, 1, 2] rfl
  have hDc := hD.sub (ws' := [(x, .inr (9, [.ref st, .ref kp, .int 0, .ref bf, .int 0, .int (-1), .int (-1), .int 0, .ref o1, .ref o2, .ref o3, .ref o4, .ref o5, .ref o6])), (st, .inr (8, [.ref lt, .ref tb, .ref fl, .ref wt, .int 0, .null])), (fl, .inl (cZ, 6, .inl (fun _ => 0)))]) [0, 1, 2] (by decide) rfl
  have hFc := va_free (wc := [(x, .inr (9, [.ref st, .ref kp, .int 0, .ref bf, .int 0, .int (-1), .int (-1), .int 0, .ref o1, .ref o2, .ref o3, .ref o4, .ref o5, .ref o6])), (st, .inr (8, [.ref lt, .ref tb, .ref fl, .ref wt, .int 0, .null])), (fl, .inl (cZ, 6, .inl (fun _ => 0)))]) hD hS hA [0, 1, 2] rfl
  refine vx_calli (vx_runV (As := [.int a0, .int a1, .int a2]) (rest := [.int 0, .ref ou]) ⟨hx, hb, hml, hown, hts⟩ (k_X10_end l htr D cI cJ cZ x st kp bf o1 o2 o3 o4 o5 o6 lt tb fl wt a0 a1 a2 s.heap.size) (cwV 3 hts gL_end_X10_end rfl rfl rfl (by decide +kernel) ⟨Nat.le_of_ble_eq_true rfl, Nat.le_of_ble_eq_true rfl⟩) ⟨xPc_blind, va_recv hK hP (ci := 9) (q0 := 0) rfl rfl, xPc_pre hPc hK hDc hE hS hFc hV⟩ rfl rfl hl.1 rfl (lv_room (Nat.le_of_ble_eq_true rfl)) dL_end_7 ⟨Nat.le_of_ble_eq_true rfl, Nat.le_of_ble_eq_true rfl⟩) hS (fun q _ h => hFc q h) hFc (fun q _ h => hFc q h) (fun E ce q9 u t H_1 locs ht hvm hpx hBX hz1 hk1 hS hq9 hcv hcl => ?_) (fun r u t H_1 locs ht hvm hw hB hz1 hk1 hS => ?_)
  · rcases hBX with ⟨rfl, e_0⟩ | ⟨rfl, e_0, e_1⟩ | ⟨rfl, e_0, e_1⟩
    · have c_2 : a0.toInt < 0 := e_0
      refine vx_catch hown (tableOf []) ⟨0, 12, 15, 20⟩ (tableOf [(0, 12, 19, 15)]) (by rw [htab]; rfl) (xpass0) (by decide) (by decide) w_1 (va_Nw.use rfl hV.2.2.2.2.2.1.2.2) hq9 hcv hcl ?_
      have hP : va_P D vwCl [] H_1 := fun k q h => by simp at h
      have hD : va_D A [] := ⟨fun i j p q h => by simp at h, fun k q h => by simp at h⟩
      refine W.widen (k := 2) (n := 12) (Nat.le_of_ble_eq_true rfl) (Nat.le_of_ble_eq_true rfl) ?_
      refine lv_astore (lv' := [(5, .ref q9), (0, .ref x), (1, .int a0), (2, .int a1), (3, .int a2), (4, .ref ou)]) hx hb dL_end_15 hl (by decide) rfl (fun ls hl => ?_)
      refine lv_iconst (v := 1) hx hb dL_end_17 (by decide) ?_
      have hP9 := hP.sub (ws' := []) [] rfl
      have hD9 := hD.sub (ws' := []) [] (by decide) rfl
      refine W.widen (k := 2) (n := 12) (Nat.le_of_ble_eq_true rfl) (Nat.le_of_ble_eq_true rfl) ?_
      exact vx_ret (W.iret (v := 1) hx hb hr (fun t ht hW => ⟨⟨1, (), rfl, Or.inl ⟨rfl, c_2⟩, by rw [ht]; exact hP9, hD9⟩, hS.F ht⟩) hS.2.2 dL_end_18)
    · have c_3 : 0 ≤ a0.toInt := e_0
      have c_4 : 6 ≤ a0.toInt := e_1
      refine vx_catch hown (tableOf []) ⟨0, 12, 15, 20⟩ (tableOf [(0, 12, 19, 15)]) (by rw [htab]; rfl) (xpass0) (by decide) (by decide) w_1 (va_Nw.use rfl hV.2.2.2.2.2.1.2.2) hq9 hcv hcl ?_
      have hP : va_P D vwCl [] H_1 := fun k q h => by simp at h
      have hD : va_D A [] := ⟨fun i j p q h => by simp at h, fun k q h => by simp at h⟩
      refine W.widen (k := 2) (n := 12) (Nat.le_of_ble_eq_true rfl) (Nat.le_of_ble_eq_true rfl) ?_
      refine lv_astore (lv' := [(5, .ref q9), (0, .ref x), (1, .int a0), (2, .int a1), (3, .int a2), (4, .ref ou)]) hx hb dL_end_15 hl (by decide) rfl (fun ls hl => ?_)
      refine lv_iconst (v := 1) hx hb dL_end_17 (by decide) ?_
      have hP9 := hP.sub (ws' := []) [] rfl
      have hD9 := hD.sub (ws' := []) [] (by decide) rfl
      refine W.widen (k := 2) (n := 12) (Nat.le_of_ble_eq_true rfl) (Nat.le_of_ble_eq_true rfl) ?_
      exact vx_ret (W.iret (v := 1) hx hb hr (fun t ht hW => ⟨⟨1, (), rfl, Or.inr (Or.inl ⟨rfl, c_3, c_4⟩), by rw [ht]; exact hP9, hD9⟩, hS.F ht⟩) hS.2.2 dL_end_18)
    · have c_5 : 0 ≤ a0.toInt := e_0
      have c_6 : a0.toInt < 6 := e_1
      refine vx_catch hown (tableOf [(0, 12, 15, 20)]) ⟨0, 12, 19, 15⟩ (tableOf []) (by rw [htab]; rfl) (xpass1 (Or.inr ⟨by decide, iob, w_1, hV.2.2.2.2.2.2.1.1⟩)) (by decide) (by decide) w_2 (va_Nw.use rfl hV.2.2.2.2.2.1.2.1) hq9 hcv hcl ?_
      have hP : va_P D vwCl [] H_1 := fun k q h => by simp at h
      have hD : va_D A [] := ⟨fun i j p q h => by simp at h, fun k q h => by simp at h⟩
      refine W.widen (k := 2) (n := 12) (Nat.le_of_ble_eq_true rfl) (Nat.le_of_ble_eq_true rfl) ?_
      refine lv_astore (lv' := [(5, .ref q9), (0, .ref x), (1, .int a0), (2, .int a1), (3, .int a2), (4, .ref ou)]) hx hb dL_end_19 hl (by decide) rfl (fun ls hl => ?_)
      refine lv_iconst (v := 2) hx hb dL_end_21 (by decide) ?_
      have hP9 := hP.sub (ws' := []) [] rfl
      have hD9 := hD.sub (ws' := []) [] (by decide) rfl
      refine W.widen (k := 2) (n := 12) (Nat.le_of_ble_eq_true rfl) (Nat.le_of_ble_eq_true rfl) ?_
      exact vx_ret (W.iret (v := 2) hx hb hr (fun t ht hW => ⟨⟨2, (), rfl, Or.inr (Or.inr ⟨rfl, c_5, c_6⟩), by rw [ht]; exact hP9, hD9⟩, hS.F ht⟩) hS.2.2 dL_end_22)
  · exact hw.elim
set_option maxHeartbeats 4000000 in
set_option maxRecDepth 100000 in
theorem k_L_domain (l : Launch) (htr : l.stackTraces = false) (D : va_G) (cI cJ cZ : ClassId) (x : Nat) (st : Nat) (kp : Nat) (bf : Nat) (o1 : Nat) (o2 : Nat) (o3 : Nat) (o4 : Nat) (o5 : Nat) (o6 : Nat) (lt : Nat) (tb : Nat) (fl : Nat) (wt : Nat) (ou : Nat) (a0 : Int32) (sz : Nat) : vx_Met l yL_domain wsL_domain ({ frames := 9, cells := 2, slots := 12, locals := 147 }) (xPc D cI cJ cZ [.ref x, .int a0, .ref ou] [(x, .inr (9, [.ref st, .ref kp, .int 0, .ref bf, .int 0, .int (-1), .int (-1), .int 0, .ref o1, .ref o2, .ref o3, .ref o4, .ref o5, .ref o6])), (st, .inr (8, [.ref lt, .ref tb, .ref fl, .ref wt, .int 0, .null])), (fl, .inl (cZ, 6, .inl (fun _ => 0))), (ou, .inl (cJ, 1, .inr (.inl (fun _ => 0))))] sz) (va_Qi (fun (r : Int32) (u : Unit) => (r = 1 ∧ a0.toInt < 0) ∨ (r = 1 ∧ 0 ≤ a0.toInt ∧ 6 ≤ a0.toInt) ∨ (r = 2 ∧ 0 ≤ a0.toInt ∧ a0.toInt < 6)) (fun (u : Unit) (t : State) => va_P D vwCl ([] : va_W) t.heap ∧ va_D (va_A [(x, .inr (9, [.ref st, .ref kp, .int 0, .ref bf, .int 0, .int (-1), .int (-1), .int 0, .ref o1, .ref o2, .ref o3, .ref o4, .ref o5, .ref o6])), (st, .inr (8, [.ref lt, .ref tb, .ref fl, .ref wt, .int 0, .null])), (fl, .inl (cZ, 6, .inl (fun _ => 0))), (ou, .inl (cJ, 1, .inr (.inl (fun _ => 0))))] sz) ([] : va_W)) (va_A [(x, .inr (9, [.ref st, .ref kp, .int 0, .ref bf, .int 0, .int (-1), .int (-1), .int 0, .ref o1, .ref o2, .ref o3, .ref o4, .ref o5, .ref o6])), (st, .inr (8, [.ref lt, .ref tb, .ref fl, .ref wt, .int 0, .null])), (fl, .inl (cZ, 6, .inl (fun _ => 0))), (ou, .inl (cJ, 1, .inr (.inl (fun _ => 0))))] sz)) (vx_X (fun _ : Unit => True) (fun (E : String) (_ : Unit) (_ : State) => False) (va_A [(x, .inr (9, [.ref st, .ref kp, .int 0, .ref bf, .int 0, .int (-1), .int (-1), .int 0, .ref o1, .ref o2, .ref o3, .ref o4, .ref o5, .ref o6])), (st, .inr (8, [.ref lt, .ref tb, .ref fl, .ref wt, .int 0, .null])), (fl, .inl (cZ, 6, .inl (fun _ => 0))), (ou, .inl (cJ, 1, .inr (.inl (fun _ => 0))))] sz)) 2 12 (va_A [(x, .inr (9, [.ref st, .ref kp, .int 0, .ref bf, .int 0, .int (-1), .int (-1), .int 0, .ref o1, .ref o2, .ref o3, .ref o4, .ref o5, .ref o6])), (st, .inr (8, [.ref lt, .ref tb, .ref fl, .ref wt, .int 0, .null])), (fl, .inl (cZ, 6, .inl (fun _ => 0))), (ou, .inl (cJ, 1, .inr (.inl (fun _ => 0))))] sz) := by
  refine vx_ofWH (cc := cL_domain) (maxL := 4) (ret := (some .int)) (by decide) rfl ?_
  intro p e s m args below meth c s₁ B hml hv
  obtain ⟨rfl, hsz, hP, hK, hD0, hE, hV⟩ := hv
  have hx := B.exec
  have hb := B.bytes
  have hr := B.returns
  have hts := atoms_spec (ws := wsL_domain) B.pre
  have hown : s.vm.findClass RL = some m.cls := findClass_of_methodNamed B.named
  have hlocks := B.notSynchronized
  have htab : c.exceptionTable.toList = tableOf [(0, 9, 12, 20), (0, 9, 15, 15)] := vx_table (x := yL_domain) B (hts _ List.mem_cons_self)
  have w_1 := hts (.classLink RL 20 iob) (by decide +kernel)
  have w_2 := hts (.classLink RL 15 ise) (by decide +kernel)
  subst hsz
  have hD := hD0.self (sz := s.heap.size)
  generalize hAe : va_A [(x, .inr (9, [.ref st, .ref kp, .int 0, .ref bf, .int 0, .int (-1), .int (-1), .int 0, .ref o1, .ref o2, .ref o3, .ref o4, .ref o5, .ref o6])), (st, .inr (8, [.ref lt, .ref tb, .ref fl, .ref wt, .int 0, .null])), (fl, .inl (cZ, 6, .inl (fun _ => 0))), (ou, .inl (cJ, 1, .inr (.inl (fun _ => 0))))] s.heap.size = A at hD hE ⊢
  have hA : ∀ q : Nat, s.heap.size ≤ q → A q := fun q h => by rw [← hAe]; exact Or.inr h
  have hS : va_S A s.heap s.heap [] := va_S.rf
  have hP : va_P D vwCl [(x, .inr (9, [.ref st, .ref kp, .int 0, .ref bf, .int 0, .int (-1), .int (-1), .int 0, .ref o1, .ref o2, .ref o3, .ref o4, .ref o5, .ref o6])), (st, .inr (8, [.ref lt, .ref tb, .ref fl, .ref wt, .int 0, .null])), (fl, .inl (cZ, 6, .inl (fun _ => 0))), (ou, .inl (cJ, 1, .inr (.inl (fun _ => 0))))] s.heap := hP
  have hl := lv_entry ([.ref x, .int a0, .ref ou]) (n := 4) (Nat.le_of_ble_eq_true rfl)
  rw [lg_entry_eq]
  generalize (lg_sl ([.ref x, .int a0, .ref ou]) ++ List.replicate (4 - (lg_sl ([.ref x, .int a0, .ref ou])).length) Slot.unset).toArray = ls at hl ⊢
  have hl : lv_has ls 4 [(0, .ref x), (1, .int a0), (2, .ref ou)] := hl
  refine lv_aload_n hx hb dL_domain_0 rfl (lv_at hl 2 rfl) ?_
  refine lv_iconst (v := 0) hx hb dL_domain_1 (by decide) ?_
  refine lv_aload_n hx hb dL_domain_2 rfl (lv_at hl 0 rfl) ?_
  refine lv_iload_n hx hb dL_domain_3 rfl (lv_at hl 1 rfl) ?_
  have hPc := hP.sub (ws' := [(x, .inr (9, [.ref st, .ref kp, .int 0, .ref bf, .int 0, .int (-1), .int (-1), .int 0, .ref o1, .ref o2, .ref o3, .ref o4, .ref o5, .ref o6])), (st, .inr (8, [.ref lt, .ref tb, .ref fl, .ref wt, .int 0, .null])), (fl, .inl (cZ, 6, .inl (fun _ => 0)))]) [0, 1, 2] rfl
  have hDc := hD.sub (ws' := [(x, .inr (9, [.ref st, .ref kp, .int 0, .ref bf, .int 0, .int (-1), .int (-1), .int 0, .ref o1, .ref o2, .ref o3, .ref o4, .ref o5, .ref o6])), (st, .inr (8, [.ref lt, .ref tb, .ref fl, .ref wt, .int 0, .null])), (fl, .inl (cZ, 6, .inl (fun _ => 0)))]) [0, 1, 2] (by decide) rfl
  have hFc := va_free (wc := [(x, .inr (9, [.ref st, .ref kp, .int 0, .ref bf, .int 0, .int (-1), .int (-1), .int 0, .ref o1, .ref o2, .ref o3, .ref o4, .ref o5, .ref o6])), (st, .inr (8, [.ref lt, .ref tb, .ref fl, .ref wt, .int 0, .null])), (fl, .inl (cZ, 6, .inl (fun _ => 0)))]) hD hS hA [0, 1, 2] rfl
  refine vx_calli (vx_runV (As := [.int a0]) (rest := [.int 0, .ref ou]) ⟨hx, hb, hml, hown, hts⟩ (k_X10_domain l htr D cI cJ cZ x st kp bf o1 o2 o3 o4 o5 o6 lt tb fl wt a0 s.heap.size) (cwV 1 hts gL_domain_X10_domain rfl rfl rfl (by decide +kernel) ⟨Nat.le_of_ble_eq_true rfl, Nat.le_of_ble_eq_true rfl⟩) ⟨xPc_blind, va_recv hK hP (ci := 9) (q0 := 0) rfl rfl, xPc_pre hPc hK hDc hE hS hFc hV⟩ rfl rfl hl.1 rfl (lv_room (Nat.le_of_ble_eq_true rfl)) dL_domain_4 ⟨Nat.le_of_ble_eq_true rfl, Nat.le_of_ble_eq_true rfl⟩) hS (fun q _ h => hFc q h) hFc (fun q _ h => hFc q h) (fun E ce q9 u t H_1 locs ht hvm hpx hBX hz1 hk1 hS hq9 hcv hcl => ?_) (fun r u t H_1 locs ht hvm hw hB hz1 hk1 hS => ?_)
  · rcases hBX with ⟨rfl, e_0⟩ | ⟨rfl, e_0, e_1⟩ | ⟨rfl, e_0, e_1⟩
    · have c_2 : a0.toInt < 0 := e_0
      refine vx_catch hown (tableOf []) ⟨0, 9, 12, 20⟩ (tableOf [(0, 9, 15, 15)]) (by rw [htab]; rfl) (xpass0) (by decide) (by decide) w_1 (va_Nw.use rfl hV.2.2.2.2.2.1.2.2) hq9 hcv hcl ?_
      have hP : va_P D vwCl [] H_1 := fun k q h => by simp at h
      have hD : va_D A [] := ⟨fun i j p q h => by simp at h, fun k q h => by simp at h⟩
      refine W.widen (k := 2) (n := 12) (Nat.le_of_ble_eq_true rfl) (Nat.le_of_ble_eq_true rfl) ?_
      refine lv_astore_n (lv' := [(3, .ref q9), (0, .ref x), (1, .int a0), (2, .ref ou)]) hx hb dL_domain_12 rfl hl (by decide) rfl (fun ls hl => ?_)
      refine lv_iconst (v := 1) hx hb dL_domain_13 (by decide) ?_
      have hP9 := hP.sub (ws' := []) [] rfl
      have hD9 := hD.sub (ws' := []) [] (by decide) rfl
      refine W.widen (k := 2) (n := 12) (Nat.le_of_ble_eq_true rfl) (Nat.le_of_ble_eq_true rfl) ?_
      exact vx_ret (W.iret (v := 1) hx hb hr (fun t ht hW => ⟨⟨1, (), rfl, Or.inl ⟨rfl, c_2⟩, by rw [ht]; exact hP9, hD9⟩, hS.F ht⟩) hS.2.2 dL_domain_14)
    · have c_3 : 0 ≤ a0.toInt := e_0
      have c_4 : 6 ≤ a0.toInt := e_1
      refine vx_catch hown (tableOf []) ⟨0, 9, 12, 20⟩ (tableOf [(0, 9, 15, 15)]) (by rw [htab]; rfl) (xpass0) (by decide) (by decide) w_1 (va_Nw.use rfl hV.2.2.2.2.2.1.2.2) hq9 hcv hcl ?_
      have hP : va_P D vwCl [] H_1 := fun k q h => by simp at h
      have hD : va_D A [] := ⟨fun i j p q h => by simp at h, fun k q h => by simp at h⟩
      refine W.widen (k := 2) (n := 12) (Nat.le_of_ble_eq_true rfl) (Nat.le_of_ble_eq_true rfl) ?_
      refine lv_astore_n (lv' := [(3, .ref q9), (0, .ref x), (1, .int a0), (2, .ref ou)]) hx hb dL_domain_12 rfl hl (by decide) rfl (fun ls hl => ?_)
      refine lv_iconst (v := 1) hx hb dL_domain_13 (by decide) ?_
      have hP9 := hP.sub (ws' := []) [] rfl
      have hD9 := hD.sub (ws' := []) [] (by decide) rfl
      refine W.widen (k := 2) (n := 12) (Nat.le_of_ble_eq_true rfl) (Nat.le_of_ble_eq_true rfl) ?_
      exact vx_ret (W.iret (v := 1) hx hb hr (fun t ht hW => ⟨⟨1, (), rfl, Or.inr (Or.inl ⟨rfl, c_3, c_4⟩), by rw [ht]; exact hP9, hD9⟩, hS.F ht⟩) hS.2.2 dL_domain_14)
    · have c_5 : 0 ≤ a0.toInt := e_0
      have c_6 : a0.toInt < 6 := e_1
      refine vx_catch hown (tableOf [(0, 9, 12, 20)]) ⟨0, 9, 15, 15⟩ (tableOf []) (by rw [htab]; rfl) (xpass1 (Or.inr ⟨by decide, iob, w_1, hV.2.2.2.2.2.2.1.1⟩)) (by decide) (by decide) w_2 (va_Nw.use rfl hV.2.2.2.2.2.1.2.1) hq9 hcv hcl ?_
      have hP : va_P D vwCl [] H_1 := fun k q h => by simp at h
      have hD : va_D A [] := ⟨fun i j p q h => by simp at h, fun k q h => by simp at h⟩
      refine W.widen (k := 2) (n := 12) (Nat.le_of_ble_eq_true rfl) (Nat.le_of_ble_eq_true rfl) ?_
      refine lv_astore_n (lv' := [(3, .ref q9), (0, .ref x), (1, .int a0), (2, .ref ou)]) hx hb dL_domain_15 rfl hl (by decide) rfl (fun ls hl => ?_)
      refine lv_iconst (v := 2) hx hb dL_domain_16 (by decide) ?_
      have hP9 := hP.sub (ws' := []) [] rfl
      have hD9 := hD.sub (ws' := []) [] (by decide) rfl
      refine W.widen (k := 2) (n := 12) (Nat.le_of_ble_eq_true rfl) (Nat.le_of_ble_eq_true rfl) ?_
      exact vx_ret (W.iret (v := 2) hx hb hr (fun t ht hW => ⟨⟨2, (), rfl, Or.inr (Or.inr ⟨rfl, c_5, c_6⟩), by rw [ht]; exact hP9, hD9⟩, hS.F ht⟩) hS.2.2 dL_domain_17)
  · exact hw.elim
set_option maxHeartbeats 4000000 in
set_option maxRecDepth 100000 in
theorem k_L_clear (l : Launch) (htr : l.stackTraces = false) (D : va_G) (cI cJ cZ : ClassId) (x : Nat) (st : Nat) (kp : Nat) (bf : Nat) (o1 : Nat) (o2 : Nat) (o3 : Nat) (o4 : Nat) (o5 : Nat) (o6 : Nat) (lt : Nat) (tb : Nat) (fl : Nat) (wt : Nat) (ou : Nat) (a0 : Int32) (sz : Nat) : vx_Met l yL_clear wsL_clear ({ frames := 8, cells := 1, slots := 6, locals := 124 }) (xPc D cI cJ cZ [.ref x, .int a0, .ref ou] [(x, .inr (9, [.ref st, .ref kp, .int 0, .ref bf, .int 0, .int (-1), .int (-1), .int 0, .ref o1, .ref o2, .ref o3, .ref o4, .ref o5, .ref o6])), (st, .inr (8, [.ref lt, .ref tb, .ref fl, .ref wt, .int 0, .null])), (fl, .inl (cZ, 6, .inl (fun _ => 0))), (ou, .inl (cJ, 1, .inr (.inl (fun _ => 0))))] sz) (va_Qi (fun (r : Int32) (u : Nat) => (r = 1 ∧ u = 0 ∧ a0.toInt < 0) ∨ (r = 1 ∧ u = 0 ∧ 0 ≤ a0.toInt ∧ 6 ≤ a0.toInt) ∨ (r = 0 ∧ u = 1 ∧ 0 ≤ a0.toInt ∧ a0.toInt < 6 ∧ (-1) ≠ a0.toInt)) (fun (u : Nat) (t : State) => va_P D vwCl (match u with | 0 => [] | _ => [(ou, .inl (cJ, 1, .inr (.inl (vp_updL (fun _ => 0) ((0 : Int32).toNatClampNeg) (-1)))))] : va_W) t.heap ∧ va_D (va_A [(x, .inr (9, [.ref st, .ref kp, .int 0, .ref bf, .int 0, .int (-1), .int (-1), .int 0, .ref o1, .ref o2, .ref o3, .ref o4, .ref o5, .ref o6])), (st, .inr (8, [.ref lt, .ref tb, .ref fl, .ref wt, .int 0, .null])), (fl, .inl (cZ, 6, .inl (fun _ => 0))), (ou, .inl (cJ, 1, .inr (.inl (fun _ => 0))))] sz) (match u with | 0 => [] | _ => [(ou, .inl (cJ, 1, .inr (.inl (vp_updL (fun _ => 0) ((0 : Int32).toNatClampNeg) (-1)))))] : va_W)) (va_A [(x, .inr (9, [.ref st, .ref kp, .int 0, .ref bf, .int 0, .int (-1), .int (-1), .int 0, .ref o1, .ref o2, .ref o3, .ref o4, .ref o5, .ref o6])), (st, .inr (8, [.ref lt, .ref tb, .ref fl, .ref wt, .int 0, .null])), (fl, .inl (cZ, 6, .inl (fun _ => 0))), (ou, .inl (cJ, 1, .inr (.inl (fun _ => 0))))] sz)) (vx_X (fun _ : Unit => True) (fun (E : String) (_ : Unit) (_ : State) => False) (va_A [(x, .inr (9, [.ref st, .ref kp, .int 0, .ref bf, .int 0, .int (-1), .int (-1), .int 0, .ref o1, .ref o2, .ref o3, .ref o4, .ref o5, .ref o6])), (st, .inr (8, [.ref lt, .ref tb, .ref fl, .ref wt, .int 0, .null])), (fl, .inl (cZ, 6, .inl (fun _ => 0))), (ou, .inl (cJ, 1, .inr (.inl (fun _ => 0))))] sz)) 1 6 (va_A [(x, .inr (9, [.ref st, .ref kp, .int 0, .ref bf, .int 0, .int (-1), .int (-1), .int 0, .ref o1, .ref o2, .ref o3, .ref o4, .ref o5, .ref o6])), (st, .inr (8, [.ref lt, .ref tb, .ref fl, .ref wt, .int 0, .null])), (fl, .inl (cZ, 6, .inl (fun _ => 0))), (ou, .inl (cJ, 1, .inr (.inl (fun _ => 0))))] sz) := by
  refine vx_ofWH (cc := cL_clear) (maxL := 4) (ret := (some .int)) (by decide) rfl ?_
  intro p e s m args below meth c s₁ B hml hv
  obtain ⟨rfl, hsz, hP, hK, hD0, hE, hV⟩ := hv
  have hx := B.exec
  have hb := B.bytes
  have hr := B.returns
  have hts := atoms_spec (ws := wsL_clear) B.pre
  have hown : s.vm.findClass RL = some m.cls := findClass_of_methodNamed B.named
  have hlocks := B.notSynchronized
  have htab : c.exceptionTable.toList = tableOf [(0, 9, 12, 20)] := vx_table (x := yL_clear) B (hts _ List.mem_cons_self)
  have w_1 := hts (.classLink RL 20 iob) (by decide +kernel)
  subst hsz
  have hD := hD0.self (sz := s.heap.size)
  generalize hAe : va_A [(x, .inr (9, [.ref st, .ref kp, .int 0, .ref bf, .int 0, .int (-1), .int (-1), .int 0, .ref o1, .ref o2, .ref o3, .ref o4, .ref o5, .ref o6])), (st, .inr (8, [.ref lt, .ref tb, .ref fl, .ref wt, .int 0, .null])), (fl, .inl (cZ, 6, .inl (fun _ => 0))), (ou, .inl (cJ, 1, .inr (.inl (fun _ => 0))))] s.heap.size = A at hD hE ⊢
  have hA : ∀ q : Nat, s.heap.size ≤ q → A q := fun q h => by rw [← hAe]; exact Or.inr h
  have hS : va_S A s.heap s.heap [] := va_S.rf
  have hP : va_P D vwCl [(x, .inr (9, [.ref st, .ref kp, .int 0, .ref bf, .int 0, .int (-1), .int (-1), .int 0, .ref o1, .ref o2, .ref o3, .ref o4, .ref o5, .ref o6])), (st, .inr (8, [.ref lt, .ref tb, .ref fl, .ref wt, .int 0, .null])), (fl, .inl (cZ, 6, .inl (fun _ => 0))), (ou, .inl (cJ, 1, .inr (.inl (fun _ => 0))))] s.heap := hP
  have hl := lv_entry ([.ref x, .int a0, .ref ou]) (n := 4) (Nat.le_of_ble_eq_true rfl)
  rw [lg_entry_eq]
  generalize (lg_sl ([.ref x, .int a0, .ref ou]) ++ List.replicate (4 - (lg_sl ([.ref x, .int a0, .ref ou])).length) Slot.unset).toArray = ls at hl ⊢
  have hl : lv_has ls 4 [(0, .ref x), (1, .int a0), (2, .ref ou)] := hl
  refine lv_aload_n hx hb dL_clear_0 rfl (lv_at hl 2 rfl) ?_
  refine lv_iconst (v := 0) hx hb dL_clear_1 (by decide) ?_
  refine lv_aload_n hx hb dL_clear_2 rfl (lv_at hl 0 rfl) ?_
  refine lv_iload_n hx hb dL_clear_3 rfl (lv_at hl 1 rfl) ?_
  have hPc := hP.sub (ws' := [(x, .inr (9, [.ref st, .ref kp, .int 0, .ref bf, .int 0, .int (-1), .int (-1), .int 0, .ref o1, .ref o2, .ref o3, .ref o4, .ref o5, .ref o6])), (st, .inr (8, [.ref lt, .ref tb, .ref fl, .ref wt, .int 0, .null])), (fl, .inl (cZ, 6, .inl (fun _ => 0)))]) [0, 1, 2] rfl
  have hDc := hD.sub (ws' := [(x, .inr (9, [.ref st, .ref kp, .int 0, .ref bf, .int 0, .int (-1), .int (-1), .int 0, .ref o1, .ref o2, .ref o3, .ref o4, .ref o5, .ref o6])), (st, .inr (8, [.ref lt, .ref tb, .ref fl, .ref wt, .int 0, .null])), (fl, .inl (cZ, 6, .inl (fun _ => 0)))]) [0, 1, 2] (by decide) rfl
  have hFc := va_free (wc := [(x, .inr (9, [.ref st, .ref kp, .int 0, .ref bf, .int 0, .int (-1), .int (-1), .int 0, .ref o1, .ref o2, .ref o3, .ref o4, .ref o5, .ref o6])), (st, .inr (8, [.ref lt, .ref tb, .ref fl, .ref wt, .int 0, .null])), (fl, .inl (cZ, 6, .inl (fun _ => 0)))]) hD hS hA [0, 1, 2] rfl
  refine vx_calli (vx_runV (As := [.int a0]) (rest := [.int 0, .ref ou]) ⟨hx, hb, hml, hown, hts⟩ (k_X10_clear l htr D cI cJ cZ x st kp bf o1 o2 o3 o4 o5 o6 lt tb fl wt a0 s.heap.size) (cwV 1 hts gL_clear_X10_clear rfl rfl rfl (by decide +kernel) ⟨Nat.le_of_ble_eq_true rfl, Nat.le_of_ble_eq_true rfl⟩) ⟨xPc_blind, va_recv hK hP (ci := 9) (q0 := 0) rfl rfl, xPc_pre hPc hK hDc hE hS hFc hV⟩ rfl rfl hl.1 rfl (lv_room (Nat.le_of_ble_eq_true rfl)) dL_clear_4 ⟨Nat.le_of_ble_eq_true rfl, Nat.le_of_ble_eq_true rfl⟩) hS (fun q _ h => hFc q h) hFc (fun q _ h => hFc q h) (fun E ce q9 u t H_1 locs ht hvm hpx hBX hz1 hk1 hS hq9 hcv hcl => ?_) (fun r u t H_1 locs ht hvm hw hB hz1 hk1 hS => ?_)
  · rcases hBX with ⟨rfl, e_0⟩ | ⟨rfl, e_0, e_1⟩
    · have c_2 : a0.toInt < 0 := e_0
      refine vx_catch hown (tableOf []) ⟨0, 9, 12, 20⟩ (tableOf []) (by rw [htab]; rfl) (xpass0) (by decide) (by decide) w_1 (va_Nw.use rfl hV.2.2.2.2.2.1.2.2) hq9 hcv hcl ?_
      have hP : va_P D vwCl [] H_1 := fun k q h => by simp at h
      have hD : va_D A [] := ⟨fun i j p q h => by simp at h, fun k q h => by simp at h⟩
      refine W.widen (k := 1) (n := 6) (Nat.le_of_ble_eq_true rfl) (Nat.le_of_ble_eq_true rfl) ?_
      refine lv_astore_n (lv' := [(3, .ref q9), (0, .ref x), (1, .int a0), (2, .ref ou)]) hx hb dL_clear_12 rfl hl (by decide) rfl (fun ls hl => ?_)
      refine lv_iconst (v := 1) hx hb dL_clear_13 (by decide) ?_
      have hP9 := hP.sub (ws' := []) [] rfl
      have hD9 := hD.sub (ws' := []) [] (by decide) rfl
      refine W.widen (k := 1) (n := 6) (Nat.le_of_ble_eq_true rfl) (Nat.le_of_ble_eq_true rfl) ?_
      exact vx_ret (W.iret (v := 1) hx hb hr (fun t ht hW => ⟨⟨1, 0, rfl, Or.inl ⟨rfl, rfl, c_2⟩, by rw [ht]; exact hP9, hD9⟩, hS.F ht⟩) hS.2.2 dL_clear_14)
    · have c_3 : 0 ≤ a0.toInt := e_0
      have c_4 : 6 ≤ a0.toInt := e_1
      refine vx_catch hown (tableOf []) ⟨0, 9, 12, 20⟩ (tableOf []) (by rw [htab]; rfl) (xpass0) (by decide) (by decide) w_1 (va_Nw.use rfl hV.2.2.2.2.2.1.2.2) hq9 hcv hcl ?_
      have hP : va_P D vwCl [] H_1 := fun k q h => by simp at h
      have hD : va_D A [] := ⟨fun i j p q h => by simp at h, fun k q h => by simp at h⟩
      refine W.widen (k := 1) (n := 6) (Nat.le_of_ble_eq_true rfl) (Nat.le_of_ble_eq_true rfl) ?_
      refine lv_astore_n (lv' := [(3, .ref q9), (0, .ref x), (1, .int a0), (2, .ref ou)]) hx hb dL_clear_12 rfl hl (by decide) rfl (fun ls hl => ?_)
      refine lv_iconst (v := 1) hx hb dL_clear_13 (by decide) ?_
      have hP9 := hP.sub (ws' := []) [] rfl
      have hD9 := hD.sub (ws' := []) [] (by decide) rfl
      refine W.widen (k := 1) (n := 6) (Nat.le_of_ble_eq_true rfl) (Nat.le_of_ble_eq_true rfl) ?_
      exact vx_ret (W.iret (v := 1) hx hb hr (fun t ht hW => ⟨⟨1, 0, rfl, Or.inr (Or.inl ⟨rfl, rfl, c_3, c_4⟩), by rw [ht]; exact hP9, hD9⟩, hS.F ht⟩) hS.2.2 dL_clear_14)
  · rcases hw with ⟨rfl, e_0, e_1, e_2⟩
    have c_5 : 0 ≤ a0.toInt := e_0
    have c_6 : a0.toInt < 6 := e_1
    have c_7 : (-1) ≠ a0.toInt := e_2
    obtain ⟨hP1, hD1⟩ := hB
    rw [ht] at hP1
    obtain ⟨hP, hD⟩ := va_join (wr := [(ou, .inl (cJ, 1, .inr (.inl (fun _ => 0))))]) (w1 := []) hP hD [0, 1, 2] [3] rfl rfl (by decide) (by decide) hk1 hFc hP1 hD1
    have hP : va_P D vwCl [(ou, .inl (cJ, 1, .inr (.inl (fun _ => 0))))] H_1 := hP
    have hD : va_D A [(ou, .inl (cJ, 1, .inr (.inl (fun _ => 0))))] := hD
    refine W.widen (k := 1) (n := 6) (Nat.le_of_ble_eq_true rfl) (Nat.le_of_ble_eq_true rfl) ?_
    refine lv_i2l (v := (-1)) hx hb dL_clear_7 (by decide) ?_
    refine va_last hx hb hK hP hD hS 0 1 rfl rfl (i := 0) (x := (-1)) (vp_in_iff.mpr ⟨by decide, by decide⟩) dL_clear_8 (fun H_8 locs hP hD hS => ?_)
    have hP : va_P D vwCl [(ou, .inl (cJ, 1, .inr (.inl (vp_updL (fun _ => 0) ((0 : Int32).toNatClampNeg) (-1)))))] H_8 := hP
    have hD : va_D A [(ou, .inl (cJ, 1, .inr (.inl (vp_updL (fun _ => 0) ((0 : Int32).toNatClampNeg) (-1)))))] := hD
    refine lv_goto (tgt := 15) hx hb dL_clear_9 (by decide) ?_
    refine lv_iconst (v := 0) hx hb dL_clear_15 (by decide) ?_
    have hP9 := hP.sub (ws' := [(ou, .inl (cJ, 1, .inr (.inl (vp_updL (fun _ => 0) ((0 : Int32).toNatClampNeg) (-1)))))]) [0] rfl
    have hD9 := hD.sub (ws' := [(ou, .inl (cJ, 1, .inr (.inl (vp_updL (fun _ => 0) ((0 : Int32).toNatClampNeg) (-1)))))]) [0] (by decide) rfl
    refine W.widen (k := 1) (n := 6) (Nat.le_of_ble_eq_true rfl) (Nat.le_of_ble_eq_true rfl) ?_
    exact vx_ret (W.iret (v := 0) hx hb hr (fun t ht hW => ⟨⟨0, 1, rfl, Or.inr (Or.inr ⟨rfl, rfl, c_5, c_6, c_7⟩), by rw [ht]; exact hP9, hD9⟩, hS.F ht⟩) hS.2.2 dL_clear_16)
set_option maxHeartbeats 4000000 in
set_option maxRecDepth 100000 in
theorem k_L_union (l : Launch) (htr : l.stackTraces = false) (D : va_G) (cI cJ cZ : ClassId) (x : Nat) (st : Nat) (kp : Nat) (bf : Nat) (o1 : Nat) (o2 : Nat) (o3 : Nat) (o4 : Nat) (o5 : Nat) (o6 : Nat) (lt : Nat) (tb : Nat) (fl : Nat) (wt : Nat) (ou : Nat) (a0 : Int32) (a1 : Int32) (a2 : Int32) (sz : Nat) : vx_Met l yL_union wsL_union ({ frames := 9, cells := 5, slots := 30, locals := 150 }) (xPc D cI cJ cZ [.ref x, .int a0, .int a1, .int a2, .ref ou] [(x, .inr (9, [.ref st, .ref kp, .int 0, .ref bf, .int 0, .int (-1), .int (-1), .int 0, .ref o1, .ref o2, .ref o3, .ref o4, .ref o5, .ref o6])), (st, .inr (8, [.ref lt, .ref tb, .ref fl, .ref wt, .int 0, .null])), (fl, .inl (cZ, 6, .inl (fun _ => 0))), (ou, .inl (cJ, 1, .inr (.inl (fun _ => 0))))] sz) (va_Qi (fun (r : Int32) (u : Unit) => (r = 1 ∧ a0.toInt < 0) ∨ (r = 1 ∧ 0 ≤ a0.toInt ∧ 6 ≤ a0.toInt) ∨ (r = 1 ∧ 0 ≤ a0.toInt ∧ a0.toInt < 6 ∧ a1.toInt < 0) ∨ (r = 1 ∧ 0 ≤ a0.toInt ∧ a0.toInt < 6 ∧ 0 ≤ a1.toInt ∧ 6 ≤ a1.toInt) ∨ (r = 1 ∧ 0 ≤ a0.toInt ∧ a0.toInt < 6 ∧ 0 ≤ a1.toInt ∧ a1.toInt < 6 ∧ a2.toInt < 0) ∨ (r = 1 ∧ 0 ≤ a0.toInt ∧ a0.toInt < 6 ∧ 0 ≤ a1.toInt ∧ a1.toInt < 6 ∧ 0 ≤ a2.toInt ∧ 6 ≤ a2.toInt) ∨ (r = 2 ∧ 0 ≤ a0.toInt ∧ a0.toInt < 6 ∧ 0 ≤ a1.toInt ∧ a1.toInt < 6 ∧ 0 ≤ a2.toInt ∧ a2.toInt < 6 ∧ 0 ≤ a0.toInt ∧ a0.toInt < 6)) (fun (u : Unit) (t : State) => va_P D vwCl ([] : va_W) t.heap ∧ va_D (va_A [(x, .inr (9, [.ref st, .ref kp, .int 0, .ref bf, .int 0, .int (-1), .int (-1), .int 0, .ref o1, .ref o2, .ref o3, .ref o4, .ref o5, .ref o6])), (st, .inr (8, [.ref lt, .ref tb, .ref fl, .ref wt, .int 0, .null])), (fl, .inl (cZ, 6, .inl (fun _ => 0))), (ou, .inl (cJ, 1, .inr (.inl (fun _ => 0))))] sz) ([] : va_W)) (va_A [(x, .inr (9, [.ref st, .ref kp, .int 0, .ref bf, .int 0, .int (-1), .int (-1), .int 0, .ref o1, .ref o2, .ref o3, .ref o4, .ref o5, .ref o6])), (st, .inr (8, [.ref lt, .ref tb, .ref fl, .ref wt, .int 0, .null])), (fl, .inl (cZ, 6, .inl (fun _ => 0))), (ou, .inl (cJ, 1, .inr (.inl (fun _ => 0))))] sz)) (vx_X (fun _ : Unit => True) (fun (E : String) (_ : Unit) (_ : State) => False) (va_A [(x, .inr (9, [.ref st, .ref kp, .int 0, .ref bf, .int 0, .int (-1), .int (-1), .int 0, .ref o1, .ref o2, .ref o3, .ref o4, .ref o5, .ref o6])), (st, .inr (8, [.ref lt, .ref tb, .ref fl, .ref wt, .int 0, .null])), (fl, .inl (cZ, 6, .inl (fun _ => 0))), (ou, .inl (cJ, 1, .inr (.inl (fun _ => 0))))] sz)) 5 30 (va_A [(x, .inr (9, [.ref st, .ref kp, .int 0, .ref bf, .int 0, .int (-1), .int (-1), .int 0, .ref o1, .ref o2, .ref o3, .ref o4, .ref o5, .ref o6])), (st, .inr (8, [.ref lt, .ref tb, .ref fl, .ref wt, .int 0, .null])), (fl, .inl (cZ, 6, .inl (fun _ => 0))), (ou, .inl (cJ, 1, .inr (.inl (fun _ => 0))))] sz) := by
  refine vx_ofWH (cc := cL_union) (maxL := 6) (ret := (some .int)) (by decide) rfl ?_
  intro p e s m args below meth c s₁ B hml hv
  obtain ⟨rfl, hsz, hP, hK, hD0, hE, hV⟩ := hv
  have hx := B.exec
  have hb := B.bytes
  have hr := B.returns
  have hts := atoms_spec (ws := wsL_union) B.pre
  have hown : s.vm.findClass RL = some m.cls := findClass_of_methodNamed B.named
  have hlocks := B.notSynchronized
  have htab : c.exceptionTable.toList = tableOf [(0, 12, 15, 20), (0, 12, 19, 15)] := vx_table (x := yL_union) B (hts _ List.mem_cons_self)
  have w_1 := hts (.classLink RL 20 iob) (by decide +kernel)
  have w_2 := hts (.classLink RL 15 ise) (by decide +kernel)
  subst hsz
  have hD := hD0.self (sz := s.heap.size)
  generalize hAe : va_A [(x, .inr (9, [.ref st, .ref kp, .int 0, .ref bf, .int 0, .int (-1), .int (-1), .int 0, .ref o1, .ref o2, .ref o3, .ref o4, .ref o5, .ref o6])), (st, .inr (8, [.ref lt, .ref tb, .ref fl, .ref wt, .int 0, .null])), (fl, .inl (cZ, 6, .inl (fun _ => 0))), (ou, .inl (cJ, 1, .inr (.inl (fun _ => 0))))] s.heap.size = A at hD hE ⊢
  have hA : ∀ q : Nat, s.heap.size ≤ q → A q := fun q h => by rw [← hAe]; exact Or.inr h
  have hS : va_S A s.heap s.heap [] := va_S.rf
  have hP : va_P D vwCl [(x, .inr (9, [.ref st, .ref kp, .int 0, .ref bf, .int 0, .int (-1), .int (-1), .int 0, .ref o1, .ref o2, .ref o3, .ref o4, .ref o5, .ref o6])), (st, .inr (8, [.ref lt, .ref tb, .ref fl, .ref wt, .int 0, .null])), (fl, .inl (cZ, 6, .inl (fun _ => 0))), (ou, .inl (cJ, 1, .inr (.inl (fun _ => 0))))] s.heap := hP
  have hl := lv_entry ([.ref x, .int a0, .int a1, .int a2, .ref ou]) (n := 6) (Nat.le_of_ble_eq_true rfl)
  rw [lg_entry_eq]
  generalize (lg_sl ([.ref x, .int a0, .int a1, .int a2, .ref ou]) ++ List.replicate (6 - (lg_sl ([.ref x, .int a0, .int a1, .int a2, .ref ou])).length) Slot.unset).toArray = ls at hl ⊢
  have hl : lv_has ls 6 [(0, .ref x), (1, .int a0), (2, .int a1), (3, .int a2), (4, .ref ou)] := hl
  refine lv_aload hx hb dL_union_0 (lv_at hl 4 rfl) ?_
  refine lv_iconst (v := 0) hx hb dL_union_2 (by decide) ?_
  refine lv_aload_n hx hb dL_union_3 rfl (lv_at hl 0 rfl) ?_
  refine lv_iload_n hx hb dL_union_4 rfl (lv_at hl 1 rfl) ?_
  refine lv_iload_n hx hb dL_union_5 rfl (lv_at hl 2 rfl) ?_
  refine lv_iload_n hx hb dL_union_6 rfl (lv_at hl 3 rfl) ?_
  have hPc := hP.sub (ws' := [(x, .inr (9, [.ref st, .ref kp, .int 0, .ref bf, .int 0, .int (-1), .int (-1), .int 0, .ref o1, .ref o2, .ref o3, .ref o4, .ref o5, .ref o6])), (st, .inr (8, [.ref lt, .ref tb, .ref fl, .ref wt, .int 0, .null])), (fl, .inl (cZ, 6, .inl (fun _ => 0)))]) [0, 1, 2] rfl
  have hDc := hD.sub (ws' := [(x, .inr (9, [.ref st, .ref kp, .int 0, .ref bf, .int 0, .int (-1), .int (-1), .int 0, .ref o1, .ref o2, .ref o3, .ref o4, .ref o5, .ref o6])), (st, .inr (8, [.ref lt, .ref tb, .ref fl, .ref wt, .int 0, .null])), (fl, .inl (cZ, 6, .inl (fun _ => 0)))]) [0, 1, 2] (by decide) rfl
  have hFc := va_free (wc := [(x, .inr (9, [.ref st, .ref kp, .int 0, .ref bf, .int 0, .int (-1), .int (-1), .int 0, .ref o1, .ref o2, .ref o3, .ref o4, .ref o5, .ref o6])), (st, .inr (8, [.ref lt, .ref tb, .ref fl, .ref wt, .int 0, .null])), (fl, .inl (cZ, 6, .inl (fun _ => 0)))]) hD hS hA [0, 1, 2] rfl
  refine vx_calli (vx_runV (As := [.int a0, .int a1, .int a2]) (rest := [.int 0, .ref ou]) ⟨hx, hb, hml, hown, hts⟩ (k_X10_union l htr D cI cJ cZ x st kp bf o1 o2 o3 o4 o5 o6 lt tb fl wt a0 a1 a2 s.heap.size) (cwV 3 hts gL_union_X10_union rfl rfl rfl (by decide +kernel) ⟨Nat.le_of_ble_eq_true rfl, Nat.le_of_ble_eq_true rfl⟩) ⟨xPc_blind, va_recv hK hP (ci := 9) (q0 := 0) rfl rfl, xPc_pre hPc hK hDc hE hS hFc hV⟩ rfl rfl hl.1 rfl (lv_room (Nat.le_of_ble_eq_true rfl)) dL_union_7 ⟨Nat.le_of_ble_eq_true rfl, Nat.le_of_ble_eq_true rfl⟩) hS (fun q _ h => hFc q h) hFc (fun q _ h => hFc q h) (fun E ce q9 u t H_1 locs ht hvm hpx hBX hz1 hk1 hS hq9 hcv hcl => ?_) (fun r u t H_1 locs ht hvm hw hB hz1 hk1 hS => ?_)
  · rcases hBX with ⟨rfl, e_0⟩ | ⟨rfl, e_0, e_1⟩ | ⟨rfl, e_0, e_1, e_2⟩ | ⟨rfl, e_0, e_1, e_2, e_3⟩ | ⟨rfl, e_0, e_1, e_2, e_3, e_4⟩ | ⟨rfl, e_0, e_1, e_2, e_3, e_4, e_5⟩ | ⟨rfl, e_0, e_1, e_2, e_3, e_4, e_5, e_6, e_7⟩
    · have c_2 : a0.toInt < 0 := e_0
      refine vx_catch hown (tableOf []) ⟨0, 12, 15, 20⟩ (tableOf [(0, 12, 19, 15)]) (by rw [htab]; rfl) (xpass0) (by decide) (by decide) w_1 (va_Nw.use rfl hV.2.2.2.2.2.1.2.2) hq9 hcv hcl ?_
      have hP : va_P D vwCl [] H_1 := fun k q h => by simp at h
      have hD : va_D A [] := ⟨fun i j p q h => by simp at h, fun k q h => by simp at h⟩
      refine W.widen (k := 5) (n := 30) (Nat.le_of_ble_eq_true rfl) (Nat.le_of_ble_eq_true rfl) ?_
      refine lv_astore (lv' := [(5, .ref q9), (0, .ref x), (1, .int a0), (2, .int a1), (3, .int a2), (4, .ref ou)]) hx hb dL_union_15 hl (by decide) rfl (fun ls hl => ?_)
      refine lv_iconst (v := 1) hx hb dL_union_17 (by decide) ?_
      have hP9 := hP.sub (ws' := []) [] rfl
      have hD9 := hD.sub (ws' := []) [] (by decide) rfl
      refine W.widen (k := 5) (n := 30) (Nat.le_of_ble_eq_true rfl) (Nat.le_of_ble_eq_true rfl) ?_
      exact vx_ret (W.iret (v := 1) hx hb hr (fun t ht hW => ⟨⟨1, (), rfl, Or.inl ⟨rfl, c_2⟩, by rw [ht]; exact hP9, hD9⟩, hS.F ht⟩) hS.2.2 dL_union_18)
    · have c_3 : 0 ≤ a0.toInt := e_0
      have c_4 : 6 ≤ a0.toInt := e_1
      refine vx_catch hown (tableOf []) ⟨0, 12, 15, 20⟩ (tableOf [(0, 12, 19, 15)]) (by rw [htab]; rfl) (xpass0) (by decide) (by decide) w_1 (va_Nw.use rfl hV.2.2.2.2.2.1.2.2) hq9 hcv hcl ?_
      have hP : va_P D vwCl [] H_1 := fun k q h => by simp at h
      have hD : va_D A [] := ⟨fun i j p q h => by simp at h, fun k q h => by simp at h⟩
      refine W.widen (k := 5) (n := 30) (Nat.le_of_ble_eq_true rfl) (Nat.le_of_ble_eq_true rfl) ?_
      refine lv_astore (lv' := [(5, .ref q9), (0, .ref x), (1, .int a0), (2, .int a1), (3, .int a2), (4, .ref ou)]) hx hb dL_union_15 hl (by decide) rfl (fun ls hl => ?_)
      refine lv_iconst (v := 1) hx hb dL_union_17 (by decide) ?_
      have hP9 := hP.sub (ws' := []) [] rfl
      have hD9 := hD.sub (ws' := []) [] (by decide) rfl
      refine W.widen (k := 5) (n := 30) (Nat.le_of_ble_eq_true rfl) (Nat.le_of_ble_eq_true rfl) ?_
      exact vx_ret (W.iret (v := 1) hx hb hr (fun t ht hW => ⟨⟨1, (), rfl, Or.inr (Or.inl ⟨rfl, c_3, c_4⟩), by rw [ht]; exact hP9, hD9⟩, hS.F ht⟩) hS.2.2 dL_union_18)
    · have c_5 : 0 ≤ a0.toInt := e_0
      have c_6 : a0.toInt < 6 := e_1
      have c_7 : a1.toInt < 0 := e_2
      refine vx_catch hown (tableOf []) ⟨0, 12, 15, 20⟩ (tableOf [(0, 12, 19, 15)]) (by rw [htab]; rfl) (xpass0) (by decide) (by decide) w_1 (va_Nw.use rfl hV.2.2.2.2.2.1.2.2) hq9 hcv hcl ?_
      have hP : va_P D vwCl [] H_1 := fun k q h => by simp at h
      have hD : va_D A [] := ⟨fun i j p q h => by simp at h, fun k q h => by simp at h⟩
      refine W.widen (k := 5) (n := 30) (Nat.le_of_ble_eq_true rfl) (Nat.le_of_ble_eq_true rfl) ?_
      refine lv_astore (lv' := [(5, .ref q9), (0, .ref x), (1, .int a0), (2, .int a1), (3, .int a2), (4, .ref ou)]) hx hb dL_union_15 hl (by decide) rfl (fun ls hl => ?_)
      refine lv_iconst (v := 1) hx hb dL_union_17 (by decide) ?_
      have hP9 := hP.sub (ws' := []) [] rfl
      have hD9 := hD.sub (ws' := []) [] (by decide) rfl
      refine W.widen (k := 5) (n := 30) (Nat.le_of_ble_eq_true rfl) (Nat.le_of_ble_eq_true rfl) ?_
      exact vx_ret (W.iret (v := 1) hx hb hr (fun t ht hW => ⟨⟨1, (), rfl, Or.inr (Or.inr (Or.inl ⟨rfl, c_5, c_6, c_7⟩)), by rw [ht]; exact hP9, hD9⟩, hS.F ht⟩) hS.2.2 dL_union_18)
    · have c_8 : 0 ≤ a0.toInt := e_0
      have c_9 : a0.toInt < 6 := e_1
      have c_10 : 0 ≤ a1.toInt := e_2
      have c_11 : 6 ≤ a1.toInt := e_3
      refine vx_catch hown (tableOf []) ⟨0, 12, 15, 20⟩ (tableOf [(0, 12, 19, 15)]) (by rw [htab]; rfl) (xpass0) (by decide) (by decide) w_1 (va_Nw.use rfl hV.2.2.2.2.2.1.2.2) hq9 hcv hcl ?_
      have hP : va_P D vwCl [] H_1 := fun k q h => by simp at h
      have hD : va_D A [] := ⟨fun i j p q h => by simp at h, fun k q h => by simp at h⟩
      refine W.widen (k := 5) (n := 30) (Nat.le_of_ble_eq_true rfl) (Nat.le_of_ble_eq_true rfl) ?_
      refine lv_astore (lv' := [(5, .ref q9), (0, .ref x), (1, .int a0), (2, .int a1), (3, .int a2), (4, .ref ou)]) hx hb dL_union_15 hl (by decide) rfl (fun ls hl => ?_)
      refine lv_iconst (v := 1) hx hb dL_union_17 (by decide) ?_
      have hP9 := hP.sub (ws' := []) [] rfl
      have hD9 := hD.sub (ws' := []) [] (by decide) rfl
      refine W.widen (k := 5) (n := 30) (Nat.le_of_ble_eq_true rfl) (Nat.le_of_ble_eq_true rfl) ?_
      exact vx_ret (W.iret (v := 1) hx hb hr (fun t ht hW => ⟨⟨1, (), rfl, Or.inr (Or.inr (Or.inr (Or.inl ⟨rfl, c_8, c_9, c_10, c_11⟩))), by rw [ht]; exact hP9, hD9⟩, hS.F ht⟩) hS.2.2 dL_union_18)
    · have c_12 : 0 ≤ a0.toInt := e_0
      have c_13 : a0.toInt < 6 := e_1
      have c_14 : 0 ≤ a1.toInt := e_2
      have c_15 : a1.toInt < 6 := e_3
      have c_16 : a2.toInt < 0 := e_4
      refine vx_catch hown (tableOf []) ⟨0, 12, 15, 20⟩ (tableOf [(0, 12, 19, 15)]) (by rw [htab]; rfl) (xpass0) (by decide) (by decide) w_1 (va_Nw.use rfl hV.2.2.2.2.2.1.2.2) hq9 hcv hcl ?_
      have hP : va_P D vwCl [] H_1 := fun k q h => by simp at h
      have hD : va_D A [] := ⟨fun i j p q h => by simp at h, fun k q h => by simp at h⟩
      refine W.widen (k := 5) (n := 30) (Nat.le_of_ble_eq_true rfl) (Nat.le_of_ble_eq_true rfl) ?_
      refine lv_astore (lv' := [(5, .ref q9), (0, .ref x), (1, .int a0), (2, .int a1), (3, .int a2), (4, .ref ou)]) hx hb dL_union_15 hl (by decide) rfl (fun ls hl => ?_)
      refine lv_iconst (v := 1) hx hb dL_union_17 (by decide) ?_
      have hP9 := hP.sub (ws' := []) [] rfl
      have hD9 := hD.sub (ws' := []) [] (by decide) rfl
      refine W.widen (k := 5) (n := 30) (Nat.le_of_ble_eq_true rfl) (Nat.le_of_ble_eq_true rfl) ?_
      exact vx_ret (W.iret (v := 1) hx hb hr (fun t ht hW => ⟨⟨1, (), rfl, Or.inr (Or.inr (Or.inr (Or.inr (Or.inl ⟨rfl, c_12, c_13, c_14, c_15, c_16⟩)))), by rw [ht]; exact hP9, hD9⟩, hS.F ht⟩) hS.2.2 dL_union_18)
    · have c_17 : 0 ≤ a0.toInt := e_0
      have c_18 : a0.toInt < 6 := e_1
      have c_19 : 0 ≤ a1.toInt := e_2
      have c_20 : a1.toInt < 6 := e_3
      have c_21 : 0 ≤ a2.toInt := e_4
      have c_22 : 6 ≤ a2.toInt := e_5
      refine vx_catch hown (tableOf []) ⟨0, 12, 15, 20⟩ (tableOf [(0, 12, 19, 15)]) (by rw [htab]; rfl) (xpass0) (by decide) (by decide) w_1 (va_Nw.use rfl hV.2.2.2.2.2.1.2.2) hq9 hcv hcl ?_
      have hP : va_P D vwCl [] H_1 := fun k q h => by simp at h
      have hD : va_D A [] := ⟨fun i j p q h => by simp at h, fun k q h => by simp at h⟩
      refine W.widen (k := 5) (n := 30) (Nat.le_of_ble_eq_true rfl) (Nat.le_of_ble_eq_true rfl) ?_
      refine lv_astore (lv' := [(5, .ref q9), (0, .ref x), (1, .int a0), (2, .int a1), (3, .int a2), (4, .ref ou)]) hx hb dL_union_15 hl (by decide) rfl (fun ls hl => ?_)
      refine lv_iconst (v := 1) hx hb dL_union_17 (by decide) ?_
      have hP9 := hP.sub (ws' := []) [] rfl
      have hD9 := hD.sub (ws' := []) [] (by decide) rfl
      refine W.widen (k := 5) (n := 30) (Nat.le_of_ble_eq_true rfl) (Nat.le_of_ble_eq_true rfl) ?_
      exact vx_ret (W.iret (v := 1) hx hb hr (fun t ht hW => ⟨⟨1, (), rfl, Or.inr (Or.inr (Or.inr (Or.inr (Or.inr (Or.inl ⟨rfl, c_17, c_18, c_19, c_20, c_21, c_22⟩))))), by rw [ht]; exact hP9, hD9⟩, hS.F ht⟩) hS.2.2 dL_union_18)
    · have c_23 : 0 ≤ a0.toInt := e_0
      have c_24 : a0.toInt < 6 := e_1
      have c_25 : 0 ≤ a1.toInt := e_2
      have c_26 : a1.toInt < 6 := e_3
      have c_27 : 0 ≤ a2.toInt := e_4
      have c_28 : a2.toInt < 6 := e_5
      have c_29 : 0 ≤ a0.toInt := e_6
      have c_30 : a0.toInt < 6 := e_7
      refine vx_catch hown (tableOf [(0, 12, 15, 20)]) ⟨0, 12, 19, 15⟩ (tableOf []) (by rw [htab]; rfl) (xpass1 (Or.inr ⟨by decide, iob, w_1, hV.2.2.2.2.2.2.1.1⟩)) (by decide) (by decide) w_2 (va_Nw.use rfl hV.2.2.2.2.2.1.2.1) hq9 hcv hcl ?_
      have hP : va_P D vwCl [] H_1 := fun k q h => by simp at h
      have hD : va_D A [] := ⟨fun i j p q h => by simp at h, fun k q h => by simp at h⟩
      refine W.widen (k := 5) (n := 30) (Nat.le_of_ble_eq_true rfl) (Nat.le_of_ble_eq_true rfl) ?_
      refine lv_astore (lv' := [(5, .ref q9), (0, .ref x), (1, .int a0), (2, .int a1), (3, .int a2), (4, .ref ou)]) hx hb dL_union_19 hl (by decide) rfl (fun ls hl => ?_)
      refine lv_iconst (v := 2) hx hb dL_union_21 (by decide) ?_
      have hP9 := hP.sub (ws' := []) [] rfl
      have hD9 := hD.sub (ws' := []) [] (by decide) rfl
      refine W.widen (k := 5) (n := 30) (Nat.le_of_ble_eq_true rfl) (Nat.le_of_ble_eq_true rfl) ?_
      exact vx_ret (W.iret (v := 2) hx hb hr (fun t ht hW => ⟨⟨2, (), rfl, Or.inr (Or.inr (Or.inr (Or.inr (Or.inr (Or.inr ⟨rfl, c_23, c_24, c_25, c_26, c_27, c_28, c_29, c_30⟩))))), by rw [ht]; exact hP9, hD9⟩, hS.F ht⟩) hS.2.2 dL_union_22)
  · exact hw.elim
set_option maxHeartbeats 4000000 in
set_option maxRecDepth 100000 in
theorem k_L_join (l : Launch) (htr : l.stackTraces = false) (D : va_G) (cI cJ cZ : ClassId) (x : Nat) (st : Nat) (kp : Nat) (bf : Nat) (o1 : Nat) (o2 : Nat) (o3 : Nat) (o4 : Nat) (o5 : Nat) (o6 : Nat) (lt : Nat) (tb : Nat) (fl : Nat) (wt : Nat) (ou : Nat) (a0 : Int32) (a1 : Int32) (a2 : Int32) (sz : Nat) : vx_Met l yL_join wsL_join ({ frames := 9, cells := 5, slots := 30, locals := 150 }) (xPc D cI cJ cZ [.ref x, .int a0, .int a1, .int a2, .ref ou] [(x, .inr (9, [.ref st, .ref kp, .int 0, .ref bf, .int 0, .int (-1), .int (-1), .int 0, .ref o1, .ref o2, .ref o3, .ref o4, .ref o5, .ref o6])), (st, .inr (8, [.ref lt, .ref tb, .ref fl, .ref wt, .int 0, .null])), (fl, .inl (cZ, 6, .inl (fun _ => 0))), (ou, .inl (cJ, 1, .inr (.inl (fun _ => 0))))] sz) (va_Qi (fun (r : Int32) (u : Unit) => (r = 1 ∧ a0.toInt < 0) ∨ (r = 1 ∧ 0 ≤ a0.toInt ∧ 6 ≤ a0.toInt) ∨ (r = 1 ∧ 0 ≤ a0.toInt ∧ a0.toInt < 6 ∧ a1.toInt < 0) ∨ (r = 1 ∧ 0 ≤ a0.toInt ∧ a0.toInt < 6 ∧ 0 ≤ a1.toInt ∧ 6 ≤ a1.toInt) ∨ (r = 1 ∧ 0 ≤ a0.toInt ∧ a0.toInt < 6 ∧ 0 ≤ a1.toInt ∧ a1.toInt < 6 ∧ a2.toInt < 0) ∨ (r = 1 ∧ 0 ≤ a0.toInt ∧ a0.toInt < 6 ∧ 0 ≤ a1.toInt ∧ a1.toInt < 6 ∧ 0 ≤ a2.toInt ∧ 6 ≤ a2.toInt) ∨ (r = 2 ∧ 0 ≤ a0.toInt ∧ a0.toInt < 6 ∧ 0 ≤ a1.toInt ∧ a1.toInt < 6 ∧ 0 ≤ a2.toInt ∧ a2.toInt < 6 ∧ 0 ≤ a0.toInt ∧ a0.toInt < 6)) (fun (u : Unit) (t : State) => va_P D vwCl ([] : va_W) t.heap ∧ va_D (va_A [(x, .inr (9, [.ref st, .ref kp, .int 0, .ref bf, .int 0, .int (-1), .int (-1), .int 0, .ref o1, .ref o2, .ref o3, .ref o4, .ref o5, .ref o6])), (st, .inr (8, [.ref lt, .ref tb, .ref fl, .ref wt, .int 0, .null])), (fl, .inl (cZ, 6, .inl (fun _ => 0))), (ou, .inl (cJ, 1, .inr (.inl (fun _ => 0))))] sz) ([] : va_W)) (va_A [(x, .inr (9, [.ref st, .ref kp, .int 0, .ref bf, .int 0, .int (-1), .int (-1), .int 0, .ref o1, .ref o2, .ref o3, .ref o4, .ref o5, .ref o6])), (st, .inr (8, [.ref lt, .ref tb, .ref fl, .ref wt, .int 0, .null])), (fl, .inl (cZ, 6, .inl (fun _ => 0))), (ou, .inl (cJ, 1, .inr (.inl (fun _ => 0))))] sz)) (vx_X (fun _ : Unit => True) (fun (E : String) (_ : Unit) (_ : State) => False) (va_A [(x, .inr (9, [.ref st, .ref kp, .int 0, .ref bf, .int 0, .int (-1), .int (-1), .int 0, .ref o1, .ref o2, .ref o3, .ref o4, .ref o5, .ref o6])), (st, .inr (8, [.ref lt, .ref tb, .ref fl, .ref wt, .int 0, .null])), (fl, .inl (cZ, 6, .inl (fun _ => 0))), (ou, .inl (cJ, 1, .inr (.inl (fun _ => 0))))] sz)) 5 30 (va_A [(x, .inr (9, [.ref st, .ref kp, .int 0, .ref bf, .int 0, .int (-1), .int (-1), .int 0, .ref o1, .ref o2, .ref o3, .ref o4, .ref o5, .ref o6])), (st, .inr (8, [.ref lt, .ref tb, .ref fl, .ref wt, .int 0, .null])), (fl, .inl (cZ, 6, .inl (fun _ => 0))), (ou, .inl (cJ, 1, .inr (.inl (fun _ => 0))))] sz) := by
  refine vx_ofWH (cc := cL_join) (maxL := 6) (ret := (some .int)) (by decide) rfl ?_
  intro p e s m args below meth c s₁ B hml hv
  obtain ⟨rfl, hsz, hP, hK, hD0, hE, hV⟩ := hv
  have hx := B.exec
  have hb := B.bytes
  have hr := B.returns
  have hts := atoms_spec (ws := wsL_join) B.pre
  have hown : s.vm.findClass RL = some m.cls := findClass_of_methodNamed B.named
  have hlocks := B.notSynchronized
  have htab : c.exceptionTable.toList = tableOf [(0, 12, 15, 20), (0, 12, 19, 15)] := vx_table (x := yL_join) B (hts _ List.mem_cons_self)
  have w_1 := hts (.classLink RL 20 iob) (by decide +kernel)
  have w_2 := hts (.classLink RL 15 ise) (by decide +kernel)
  subst hsz
  have hD := hD0.self (sz := s.heap.size)
  generalize hAe : va_A [(x, .inr (9, [.ref st, .ref kp, .int 0, .ref bf, .int 0, .int (-1), .int (-1), .int 0, .ref o1, .ref o2, .ref o3, .ref o4, .ref o5, .ref o6])), (st, .inr (8, [.ref lt, .ref tb, .ref fl, .ref wt, .int 0, .null])), (fl, .inl (cZ, 6, .inl (fun _ => 0))), (ou, .inl (cJ, 1, .inr (.inl (fun _ => 0))))] s.heap.size = A at hD hE ⊢
  have hA : ∀ q : Nat, s.heap.size ≤ q → A q := fun q h => by rw [← hAe]; exact Or.inr h
  have hS : va_S A s.heap s.heap [] := va_S.rf
  have hP : va_P D vwCl [(x, .inr (9, [.ref st, .ref kp, .int 0, .ref bf, .int 0, .int (-1), .int (-1), .int 0, .ref o1, .ref o2, .ref o3, .ref o4, .ref o5, .ref o6])), (st, .inr (8, [.ref lt, .ref tb, .ref fl, .ref wt, .int 0, .null])), (fl, .inl (cZ, 6, .inl (fun _ => 0))), (ou, .inl (cJ, 1, .inr (.inl (fun _ => 0))))] s.heap := hP
  have hl := lv_entry ([.ref x, .int a0, .int a1, .int a2, .ref ou]) (n := 6) (Nat.le_of_ble_eq_true rfl)
  rw [lg_entry_eq]
  generalize (lg_sl ([.ref x, .int a0, .int a1, .int a2, .ref ou]) ++ List.replicate (6 - (lg_sl ([.ref x, .int a0, .int a1, .int a2, .ref ou])).length) Slot.unset).toArray = ls at hl ⊢
  have hl : lv_has ls 6 [(0, .ref x), (1, .int a0), (2, .int a1), (3, .int a2), (4, .ref ou)] := hl
  refine lv_aload hx hb dL_join_0 (lv_at hl 4 rfl) ?_
  refine lv_iconst (v := 0) hx hb dL_join_2 (by decide) ?_
  refine lv_aload_n hx hb dL_join_3 rfl (lv_at hl 0 rfl) ?_
  refine lv_iload_n hx hb dL_join_4 rfl (lv_at hl 1 rfl) ?_
  refine lv_iload_n hx hb dL_join_5 rfl (lv_at hl 2 rfl) ?_
  refine lv_iload_n hx hb dL_join_6 rfl (lv_at hl 3 rfl) ?_
  have hPc := hP.sub (ws' := [(x, .inr (9, [.ref st, .ref kp, .int 0, .ref bf, .int 0, .int (-1), .int (-1), .int 0, .ref o1, .ref o2, .ref o3, .ref o4, .ref o5, .ref o6])), (st, .inr (8, [.ref lt, .ref tb, .ref fl, .ref wt, .int 0, .null])), (fl, .inl (cZ, 6, .inl (fun _ => 0)))]) [0, 1, 2] rfl
  have hDc := hD.sub (ws' := [(x, .inr (9, [.ref st, .ref kp, .int 0, .ref bf, .int 0, .int (-1), .int (-1), .int 0, .ref o1, .ref o2, .ref o3, .ref o4, .ref o5, .ref o6])), (st, .inr (8, [.ref lt, .ref tb, .ref fl, .ref wt, .int 0, .null])), (fl, .inl (cZ, 6, .inl (fun _ => 0)))]) [0, 1, 2] (by decide) rfl
  have hFc := va_free (wc := [(x, .inr (9, [.ref st, .ref kp, .int 0, .ref bf, .int 0, .int (-1), .int (-1), .int 0, .ref o1, .ref o2, .ref o3, .ref o4, .ref o5, .ref o6])), (st, .inr (8, [.ref lt, .ref tb, .ref fl, .ref wt, .int 0, .null])), (fl, .inl (cZ, 6, .inl (fun _ => 0)))]) hD hS hA [0, 1, 2] rfl
  refine vx_calli (vx_runV (As := [.int a0, .int a1, .int a2]) (rest := [.int 0, .ref ou]) ⟨hx, hb, hml, hown, hts⟩ (k_X10_join l htr D cI cJ cZ x st kp bf o1 o2 o3 o4 o5 o6 lt tb fl wt a0 a1 a2 s.heap.size) (cwV 3 hts gL_join_X10_join rfl rfl rfl (by decide +kernel) ⟨Nat.le_of_ble_eq_true rfl, Nat.le_of_ble_eq_true rfl⟩) ⟨xPc_blind, va_recv hK hP (ci := 9) (q0 := 0) rfl rfl, xPc_pre hPc hK hDc hE hS hFc hV⟩ rfl rfl hl.1 rfl (lv_room (Nat.le_of_ble_eq_true rfl)) dL_join_7 ⟨Nat.le_of_ble_eq_true rfl, Nat.le_of_ble_eq_true rfl⟩) hS (fun q _ h => hFc q h) hFc (fun q _ h => hFc q h) (fun E ce q9 u t H_1 locs ht hvm hpx hBX hz1 hk1 hS hq9 hcv hcl => ?_) (fun r u t H_1 locs ht hvm hw hB hz1 hk1 hS => ?_)
  · rcases hBX with ⟨rfl, e_0⟩ | ⟨rfl, e_0, e_1⟩ | ⟨rfl, e_0, e_1, e_2⟩ | ⟨rfl, e_0, e_1, e_2, e_3⟩ | ⟨rfl, e_0, e_1, e_2, e_3, e_4⟩ | ⟨rfl, e_0, e_1, e_2, e_3, e_4, e_5⟩ | ⟨rfl, e_0, e_1, e_2, e_3, e_4, e_5, e_6, e_7⟩
    · have c_2 : a0.toInt < 0 := e_0
      refine vx_catch hown (tableOf []) ⟨0, 12, 15, 20⟩ (tableOf [(0, 12, 19, 15)]) (by rw [htab]; rfl) (xpass0) (by decide) (by decide) w_1 (va_Nw.use rfl hV.2.2.2.2.2.1.2.2) hq9 hcv hcl ?_
      have hP : va_P D vwCl [] H_1 := fun k q h => by simp at h
      have hD : va_D A [] := ⟨fun i j p q h => by simp at h, fun k q h => by simp at h⟩
      refine W.widen (k := 5) (n := 30) (Nat.le_of_ble_eq_true rfl) (Nat.le_of_ble_eq_true rfl) ?_
      refine lv_astore (lv' := [(5, .ref q9), (0, .ref x), (1, .int a0), (2, .int a1), (3, .int a2), (4, .ref ou)]) hx hb dL_join_15 hl (by decide) rfl (fun ls hl => ?_)
      refine lv_iconst (v := 1) hx hb dL_join_17 (by decide) ?_
      have hP9 := hP.sub (ws' := []) [] rfl
      have hD9 := hD.sub (ws' := []) [] (by decide) rfl
      refine W.widen (k := 5) (n := 30) (Nat.le_of_ble_eq_true rfl) (Nat.le_of_ble_eq_true rfl) ?_
      exact vx_ret (W.iret (v := 1) hx hb hr (fun t ht hW => ⟨⟨1, (), rfl, Or.inl ⟨rfl, c_2⟩, by rw [ht]; exact hP9, hD9⟩, hS.F ht⟩) hS.2.2 dL_join_18)
    · have c_3 : 0 ≤ a0.toInt := e_0
      have c_4 : 6 ≤ a0.toInt := e_1
      refine vx_catch hown (tableOf []) ⟨0, 12, 15, 20⟩ (tableOf [(0, 12, 19, 15)]) (by rw [htab]; rfl) (xpass0) (by decide) (by decide) w_1 (va_Nw.use rfl hV.2.2.2.2.2.1.2.2) hq9 hcv hcl ?_
      have hP : va_P D vwCl [] H_1 := fun k q h => by simp at h
      have hD : va_D A [] := ⟨fun i j p q h => by simp at h, fun k q h => by simp at h⟩
      refine W.widen (k := 5) (n := 30) (Nat.le_of_ble_eq_true rfl) (Nat.le_of_ble_eq_true rfl) ?_
      refine lv_astore (lv' := [(5, .ref q9), (0, .ref x), (1, .int a0), (2, .int a1), (3, .int a2), (4, .ref ou)]) hx hb dL_join_15 hl (by decide) rfl (fun ls hl => ?_)
      refine lv_iconst (v := 1) hx hb dL_join_17 (by decide) ?_
      have hP9 := hP.sub (ws' := []) [] rfl
      have hD9 := hD.sub (ws' := []) [] (by decide) rfl
      refine W.widen (k := 5) (n := 30) (Nat.le_of_ble_eq_true rfl) (Nat.le_of_ble_eq_true rfl) ?_
      exact vx_ret (W.iret (v := 1) hx hb hr (fun t ht hW => ⟨⟨1, (), rfl, Or.inr (Or.inl ⟨rfl, c_3, c_4⟩), by rw [ht]; exact hP9, hD9⟩, hS.F ht⟩) hS.2.2 dL_join_18)
    · have c_5 : 0 ≤ a0.toInt := e_0
      have c_6 : a0.toInt < 6 := e_1
      have c_7 : a1.toInt < 0 := e_2
      refine vx_catch hown (tableOf []) ⟨0, 12, 15, 20⟩ (tableOf [(0, 12, 19, 15)]) (by rw [htab]; rfl) (xpass0) (by decide) (by decide) w_1 (va_Nw.use rfl hV.2.2.2.2.2.1.2.2) hq9 hcv hcl ?_
      have hP : va_P D vwCl [] H_1 := fun k q h => by simp at h
      have hD : va_D A [] := ⟨fun i j p q h => by simp at h, fun k q h => by simp at h⟩
      refine W.widen (k := 5) (n := 30) (Nat.le_of_ble_eq_true rfl) (Nat.le_of_ble_eq_true rfl) ?_
      refine lv_astore (lv' := [(5, .ref q9), (0, .ref x), (1, .int a0), (2, .int a1), (3, .int a2), (4, .ref ou)]) hx hb dL_join_15 hl (by decide) rfl (fun ls hl => ?_)
      refine lv_iconst (v := 1) hx hb dL_join_17 (by decide) ?_
      have hP9 := hP.sub (ws' := []) [] rfl
      have hD9 := hD.sub (ws' := []) [] (by decide) rfl
      refine W.widen (k := 5) (n := 30) (Nat.le_of_ble_eq_true rfl) (Nat.le_of_ble_eq_true rfl) ?_
      exact vx_ret (W.iret (v := 1) hx hb hr (fun t ht hW => ⟨⟨1, (), rfl, Or.inr (Or.inr (Or.inl ⟨rfl, c_5, c_6, c_7⟩)), by rw [ht]; exact hP9, hD9⟩, hS.F ht⟩) hS.2.2 dL_join_18)
    · have c_8 : 0 ≤ a0.toInt := e_0
      have c_9 : a0.toInt < 6 := e_1
      have c_10 : 0 ≤ a1.toInt := e_2
      have c_11 : 6 ≤ a1.toInt := e_3
      refine vx_catch hown (tableOf []) ⟨0, 12, 15, 20⟩ (tableOf [(0, 12, 19, 15)]) (by rw [htab]; rfl) (xpass0) (by decide) (by decide) w_1 (va_Nw.use rfl hV.2.2.2.2.2.1.2.2) hq9 hcv hcl ?_
      have hP : va_P D vwCl [] H_1 := fun k q h => by simp at h
      have hD : va_D A [] := ⟨fun i j p q h => by simp at h, fun k q h => by simp at h⟩
      refine W.widen (k := 5) (n := 30) (Nat.le_of_ble_eq_true rfl) (Nat.le_of_ble_eq_true rfl) ?_
      refine lv_astore (lv' := [(5, .ref q9), (0, .ref x), (1, .int a0), (2, .int a1), (3, .int a2), (4, .ref ou)]) hx hb dL_join_15 hl (by decide) rfl (fun ls hl => ?_)
      refine lv_iconst (v := 1) hx hb dL_join_17 (by decide) ?_
      have hP9 := hP.sub (ws' := []) [] rfl
      have hD9 := hD.sub (ws' := []) [] (by decide) rfl
      refine W.widen (k := 5) (n := 30) (Nat.le_of_ble_eq_true rfl) (Nat.le_of_ble_eq_true rfl) ?_
      exact vx_ret (W.iret (v := 1) hx hb hr (fun t ht hW => ⟨⟨1, (), rfl, Or.inr (Or.inr (Or.inr (Or.inl ⟨rfl, c_8, c_9, c_10, c_11⟩))), by rw [ht]; exact hP9, hD9⟩, hS.F ht⟩) hS.2.2 dL_join_18)
    · have c_12 : 0 ≤ a0.toInt := e_0
      have c_13 : a0.toInt < 6 := e_1
      have c_14 : 0 ≤ a1.toInt := e_2
      have c_15 : a1.toInt < 6 := e_3
      have c_16 : a2.toInt < 0 := e_4
      refine vx_catch hown (tableOf []) ⟨0, 12, 15, 20⟩ (tableOf [(0, 12, 19, 15)]) (by rw [htab]; rfl) (xpass0) (by decide) (by decide) w_1 (va_Nw.use rfl hV.2.2.2.2.2.1.2.2) hq9 hcv hcl ?_
      have hP : va_P D vwCl [] H_1 := fun k q h => by simp at h
      have hD : va_D A [] := ⟨fun i j p q h => by simp at h, fun k q h => by simp at h⟩
      refine W.widen (k := 5) (n := 30) (Nat.le_of_ble_eq_true rfl) (Nat.le_of_ble_eq_true rfl) ?_
      refine lv_astore (lv' := [(5, .ref q9), (0, .ref x), (1, .int a0), (2, .int a1), (3, .int a2), (4, .ref ou)]) hx hb dL_join_15 hl (by decide) rfl (fun ls hl => ?_)
      refine lv_iconst (v := 1) hx hb dL_join_17 (by decide) ?_
      have hP9 := hP.sub (ws' := []) [] rfl
      have hD9 := hD.sub (ws' := []) [] (by decide) rfl
      refine W.widen (k := 5) (n := 30) (Nat.le_of_ble_eq_true rfl) (Nat.le_of_ble_eq_true rfl) ?_
      exact vx_ret (W.iret (v := 1) hx hb hr (fun t ht hW => ⟨⟨1, (), rfl, Or.inr (Or.inr (Or.inr (Or.inr (Or.inl ⟨rfl, c_12, c_13, c_14, c_15, c_16⟩)))), by rw [ht]; exact hP9, hD9⟩, hS.F ht⟩) hS.2.2 dL_join_18)
    · have c_17 : 0 ≤ a0.toInt := e_0
      have c_18 : a0.toInt < 6 := e_1
      have c_19 : 0 ≤ a1.toInt := e_2
      have c_20 : a1.toInt < 6 := e_3
      have c_21 : 0 ≤ a2.toInt := e_4
      have c_22 : 6 ≤ a2.toInt := e_5
      refine vx_catch hown (tableOf []) ⟨0, 12, 15, 20⟩ (tableOf [(0, 12, 19, 15)]) (by rw [htab]; rfl) (xpass0) (by decide) (by decide) w_1 (va_Nw.use rfl hV.2.2.2.2.2.1.2.2) hq9 hcv hcl ?_
      have hP : va_P D vwCl [] H_1 := fun k q h => by simp at h
      have hD : va_D A [] := ⟨fun i j p q h => by simp at h, fun k q h => by simp at h⟩
      refine W.widen (k := 5) (n := 30) (Nat.le_of_ble_eq_true rfl) (Nat.le_of_ble_eq_true rfl) ?_
      refine lv_astore (lv' := [(5, .ref q9), (0, .ref x), (1, .int a0), (2, .int a1), (3, .int a2), (4, .ref ou)]) hx hb dL_join_15 hl (by decide) rfl (fun ls hl => ?_)
      refine lv_iconst (v := 1) hx hb dL_join_17 (by decide) ?_
      have hP9 := hP.sub (ws' := []) [] rfl
      have hD9 := hD.sub (ws' := []) [] (by decide) rfl
      refine W.widen (k := 5) (n := 30) (Nat.le_of_ble_eq_true rfl) (Nat.le_of_ble_eq_true rfl) ?_
      exact vx_ret (W.iret (v := 1) hx hb hr (fun t ht hW => ⟨⟨1, (), rfl, Or.inr (Or.inr (Or.inr (Or.inr (Or.inr (Or.inl ⟨rfl, c_17, c_18, c_19, c_20, c_21, c_22⟩))))), by rw [ht]; exact hP9, hD9⟩, hS.F ht⟩) hS.2.2 dL_join_18)
    · have c_23 : 0 ≤ a0.toInt := e_0
      have c_24 : a0.toInt < 6 := e_1
      have c_25 : 0 ≤ a1.toInt := e_2
      have c_26 : a1.toInt < 6 := e_3
      have c_27 : 0 ≤ a2.toInt := e_4
      have c_28 : a2.toInt < 6 := e_5
      have c_29 : 0 ≤ a0.toInt := e_6
      have c_30 : a0.toInt < 6 := e_7
      refine vx_catch hown (tableOf [(0, 12, 15, 20)]) ⟨0, 12, 19, 15⟩ (tableOf []) (by rw [htab]; rfl) (xpass1 (Or.inr ⟨by decide, iob, w_1, hV.2.2.2.2.2.2.1.1⟩)) (by decide) (by decide) w_2 (va_Nw.use rfl hV.2.2.2.2.2.1.2.1) hq9 hcv hcl ?_
      have hP : va_P D vwCl [] H_1 := fun k q h => by simp at h
      have hD : va_D A [] := ⟨fun i j p q h => by simp at h, fun k q h => by simp at h⟩
      refine W.widen (k := 5) (n := 30) (Nat.le_of_ble_eq_true rfl) (Nat.le_of_ble_eq_true rfl) ?_
      refine lv_astore (lv' := [(5, .ref q9), (0, .ref x), (1, .int a0), (2, .int a1), (3, .int a2), (4, .ref ou)]) hx hb dL_join_19 hl (by decide) rfl (fun ls hl => ?_)
      refine lv_iconst (v := 2) hx hb dL_join_21 (by decide) ?_
      have hP9 := hP.sub (ws' := []) [] rfl
      have hD9 := hD.sub (ws' := []) [] (by decide) rfl
      refine W.widen (k := 5) (n := 30) (Nat.le_of_ble_eq_true rfl) (Nat.le_of_ble_eq_true rfl) ?_
      exact vx_ret (W.iret (v := 2) hx hb hr (fun t ht hW => ⟨⟨2, (), rfl, Or.inr (Or.inr (Or.inr (Or.inr (Or.inr (Or.inr ⟨rfl, c_23, c_24, c_25, c_26, c_27, c_28, c_29, c_30⟩))))), by rw [ht]; exact hP9, hD9⟩, hS.F ht⟩) hS.2.2 dL_join_22)
  · exact hw.elim
set_option maxHeartbeats 4000000 in
set_option maxRecDepth 100000 in
theorem k_L_minus (l : Launch) (htr : l.stackTraces = false) (D : va_G) (cI cJ cZ : ClassId) (x : Nat) (st : Nat) (kp : Nat) (bf : Nat) (o1 : Nat) (o2 : Nat) (o3 : Nat) (o4 : Nat) (o5 : Nat) (o6 : Nat) (lt : Nat) (tb : Nat) (fl : Nat) (wt : Nat) (ou : Nat) (a0 : Int32) (a1 : Int32) (a2 : Int32) (sz : Nat) : vx_Met l yL_minus wsL_minus ({ frames := 9, cells := 5, slots := 30, locals := 150 }) (xPc D cI cJ cZ [.ref x, .int a0, .int a1, .int a2, .ref ou] [(x, .inr (9, [.ref st, .ref kp, .int 0, .ref bf, .int 0, .int (-1), .int (-1), .int 0, .ref o1, .ref o2, .ref o3, .ref o4, .ref o5, .ref o6])), (st, .inr (8, [.ref lt, .ref tb, .ref fl, .ref wt, .int 0, .null])), (fl, .inl (cZ, 6, .inl (fun _ => 0))), (ou, .inl (cJ, 1, .inr (.inl (fun _ => 0))))] sz) (va_Qi (fun (r : Int32) (u : Unit) => (r = 1 ∧ a0.toInt < 0) ∨ (r = 1 ∧ 0 ≤ a0.toInt ∧ 6 ≤ a0.toInt) ∨ (r = 1 ∧ 0 ≤ a0.toInt ∧ a0.toInt < 6 ∧ a1.toInt < 0) ∨ (r = 1 ∧ 0 ≤ a0.toInt ∧ a0.toInt < 6 ∧ 0 ≤ a1.toInt ∧ 6 ≤ a1.toInt) ∨ (r = 1 ∧ 0 ≤ a0.toInt ∧ a0.toInt < 6 ∧ 0 ≤ a1.toInt ∧ a1.toInt < 6 ∧ a2.toInt < 0) ∨ (r = 1 ∧ 0 ≤ a0.toInt ∧ a0.toInt < 6 ∧ 0 ≤ a1.toInt ∧ a1.toInt < 6 ∧ 0 ≤ a2.toInt ∧ 6 ≤ a2.toInt) ∨ (r = 2 ∧ 0 ≤ a0.toInt ∧ a0.toInt < 6 ∧ 0 ≤ a1.toInt ∧ a1.toInt < 6 ∧ 0 ≤ a2.toInt ∧ a2.toInt < 6 ∧ 0 ≤ a0.toInt ∧ a0.toInt < 6)) (fun (u : Unit) (t : State) => va_P D vwCl ([] : va_W) t.heap ∧ va_D (va_A [(x, .inr (9, [.ref st, .ref kp, .int 0, .ref bf, .int 0, .int (-1), .int (-1), .int 0, .ref o1, .ref o2, .ref o3, .ref o4, .ref o5, .ref o6])), (st, .inr (8, [.ref lt, .ref tb, .ref fl, .ref wt, .int 0, .null])), (fl, .inl (cZ, 6, .inl (fun _ => 0))), (ou, .inl (cJ, 1, .inr (.inl (fun _ => 0))))] sz) ([] : va_W)) (va_A [(x, .inr (9, [.ref st, .ref kp, .int 0, .ref bf, .int 0, .int (-1), .int (-1), .int 0, .ref o1, .ref o2, .ref o3, .ref o4, .ref o5, .ref o6])), (st, .inr (8, [.ref lt, .ref tb, .ref fl, .ref wt, .int 0, .null])), (fl, .inl (cZ, 6, .inl (fun _ => 0))), (ou, .inl (cJ, 1, .inr (.inl (fun _ => 0))))] sz)) (vx_X (fun _ : Unit => True) (fun (E : String) (_ : Unit) (_ : State) => False) (va_A [(x, .inr (9, [.ref st, .ref kp, .int 0, .ref bf, .int 0, .int (-1), .int (-1), .int 0, .ref o1, .ref o2, .ref o3, .ref o4, .ref o5, .ref o6])), (st, .inr (8, [.ref lt, .ref tb, .ref fl, .ref wt, .int 0, .null])), (fl, .inl (cZ, 6, .inl (fun _ => 0))), (ou, .inl (cJ, 1, .inr (.inl (fun _ => 0))))] sz)) 5 30 (va_A [(x, .inr (9, [.ref st, .ref kp, .int 0, .ref bf, .int 0, .int (-1), .int (-1), .int 0, .ref o1, .ref o2, .ref o3, .ref o4, .ref o5, .ref o6])), (st, .inr (8, [.ref lt, .ref tb, .ref fl, .ref wt, .int 0, .null])), (fl, .inl (cZ, 6, .inl (fun _ => 0))), (ou, .inl (cJ, 1, .inr (.inl (fun _ => 0))))] sz) := by
  refine vx_ofWH (cc := cL_minus) (maxL := 6) (ret := (some .int)) (by decide) rfl ?_
  intro p e s m args below meth c s₁ B hml hv
  obtain ⟨rfl, hsz, hP, hK, hD0, hE, hV⟩ := hv
  have hx := B.exec
  have hb := B.bytes
  have hr := B.returns
  have hts := atoms_spec (ws := wsL_minus) B.pre
  have hown : s.vm.findClass RL = some m.cls := findClass_of_methodNamed B.named
  have hlocks := B.notSynchronized
  have htab : c.exceptionTable.toList = tableOf [(0, 12, 15, 20), (0, 12, 19, 15)] := vx_table (x := yL_minus) B (hts _ List.mem_cons_self)
  have w_1 := hts (.classLink RL 20 iob) (by decide +kernel)
  have w_2 := hts (.classLink RL 15 ise) (by decide +kernel)
  subst hsz
  have hD := hD0.self (sz := s.heap.size)
  generalize hAe : va_A [(x, .inr (9, [.ref st, .ref kp, .int 0, .ref bf, .int 0, .int (-1), .int (-1), .int 0, .ref o1, .ref o2, .ref o3, .ref o4, .ref o5, .ref o6])), (st, .inr (8, [.ref lt, .ref tb, .ref fl, .ref wt, .int 0, .null])), (fl, .inl (cZ, 6, .inl (fun _ => 0))), (ou, .inl (cJ, 1, .inr (.inl (fun _ => 0))))] s.heap.size = A at hD hE ⊢
  have hA : ∀ q : Nat, s.heap.size ≤ q → A q := fun q h => by rw [← hAe]; exact Or.inr h
  have hS : va_S A s.heap s.heap [] := va_S.rf
  have hP : va_P D vwCl [(x, .inr (9, [.ref st, .ref kp, .int 0, .ref bf, .int 0, .int (-1), .int (-1), .int 0, .ref o1, .ref o2, .ref o3, .ref o4, .ref o5, .ref o6])), (st, .inr (8, [.ref lt, .ref tb, .ref fl, .ref wt, .int 0, .null])), (fl, .inl (cZ, 6, .inl (fun _ => 0))), (ou, .inl (cJ, 1, .inr (.inl (fun _ => 0))))] s.heap := hP
  have hl := lv_entry ([.ref x, .int a0, .int a1, .int a2, .ref ou]) (n := 6) (Nat.le_of_ble_eq_true rfl)
  rw [lg_entry_eq]
  generalize (lg_sl ([.ref x, .int a0, .int a1, .int a2, .ref ou]) ++ List.replicate (6 - (lg_sl ([.ref x, .int a0, .int a1, .int a2, .ref ou])).length) Slot.unset).toArray = ls at hl ⊢
  have hl : lv_has ls 6 [(0, .ref x), (1, .int a0), (2, .int a1), (3, .int a2), (4, .ref ou)] := hl
  refine lv_aload hx hb dL_minus_0 (lv_at hl 4 rfl) ?_
  refine lv_iconst (v := 0) hx hb dL_minus_2 (by decide) ?_
  refine lv_aload_n hx hb dL_minus_3 rfl (lv_at hl 0 rfl) ?_
  refine lv_iload_n hx hb dL_minus_4 rfl (lv_at hl 1 rfl) ?_
  refine lv_iload_n hx hb dL_minus_5 rfl (lv_at hl 2 rfl) ?_
  refine lv_iload_n hx hb dL_minus_6 rfl (lv_at hl 3 rfl) ?_
  have hPc := hP.sub (ws' := [(x, .inr (9, [.ref st, .ref kp, .int 0, .ref bf, .int 0, .int (-1), .int (-1), .int 0, .ref o1, .ref o2, .ref o3, .ref o4, .ref o5, .ref o6])), (st, .inr (8, [.ref lt, .ref tb, .ref fl, .ref wt, .int 0, .null])), (fl, .inl (cZ, 6, .inl (fun _ => 0)))]) [0, 1, 2] rfl
  have hDc := hD.sub (ws' := [(x, .inr (9, [.ref st, .ref kp, .int 0, .ref bf, .int 0, .int (-1), .int (-1), .int 0, .ref o1, .ref o2, .ref o3, .ref o4, .ref o5, .ref o6])), (st, .inr (8, [.ref lt, .ref tb, .ref fl, .ref wt, .int 0, .null])), (fl, .inl (cZ, 6, .inl (fun _ => 0)))]) [0, 1, 2] (by decide) rfl
  have hFc := va_free (wc := [(x, .inr (9, [.ref st, .ref kp, .int 0, .ref bf, .int 0, .int (-1), .int (-1), .int 0, .ref o1, .ref o2, .ref o3, .ref o4, .ref o5, .ref o6])), (st, .inr (8, [.ref lt, .ref tb, .ref fl, .ref wt, .int 0, .null])), (fl, .inl (cZ, 6, .inl (fun _ => 0)))]) hD hS hA [0, 1, 2] rfl
  refine vx_calli (vx_runV (As := [.int a0, .int a1, .int a2]) (rest := [.int 0, .ref ou]) ⟨hx, hb, hml, hown, hts⟩ (k_X10_minus l htr D cI cJ cZ x st kp bf o1 o2 o3 o4 o5 o6 lt tb fl wt a0 a1 a2 s.heap.size) (cwV 3 hts gL_minus_X10_minus rfl rfl rfl (by decide +kernel) ⟨Nat.le_of_ble_eq_true rfl, Nat.le_of_ble_eq_true rfl⟩) ⟨xPc_blind, va_recv hK hP (ci := 9) (q0 := 0) rfl rfl, xPc_pre hPc hK hDc hE hS hFc hV⟩ rfl rfl hl.1 rfl (lv_room (Nat.le_of_ble_eq_true rfl)) dL_minus_7 ⟨Nat.le_of_ble_eq_true rfl, Nat.le_of_ble_eq_true rfl⟩) hS (fun q _ h => hFc q h) hFc (fun q _ h => hFc q h) (fun E ce q9 u t H_1 locs ht hvm hpx hBX hz1 hk1 hS hq9 hcv hcl => ?_) (fun r u t H_1 locs ht hvm hw hB hz1 hk1 hS => ?_)
  · rcases hBX with ⟨rfl, e_0⟩ | ⟨rfl, e_0, e_1⟩ | ⟨rfl, e_0, e_1, e_2⟩ | ⟨rfl, e_0, e_1, e_2, e_3⟩ | ⟨rfl, e_0, e_1, e_2, e_3, e_4⟩ | ⟨rfl, e_0, e_1, e_2, e_3, e_4, e_5⟩ | ⟨rfl, e_0, e_1, e_2, e_3, e_4, e_5, e_6, e_7⟩
    · have c_2 : a0.toInt < 0 := e_0
      refine vx_catch hown (tableOf []) ⟨0, 12, 15, 20⟩ (tableOf [(0, 12, 19, 15)]) (by rw [htab]; rfl) (xpass0) (by decide) (by decide) w_1 (va_Nw.use rfl hV.2.2.2.2.2.1.2.2) hq9 hcv hcl ?_
      have hP : va_P D vwCl [] H_1 := fun k q h => by simp at h
      have hD : va_D A [] := ⟨fun i j p q h => by simp at h, fun k q h => by simp at h⟩
      refine W.widen (k := 5) (n := 30) (Nat.le_of_ble_eq_true rfl) (Nat.le_of_ble_eq_true rfl) ?_
      refine lv_astore (lv' := [(5, .ref q9), (0, .ref x), (1, .int a0), (2, .int a1), (3, .int a2), (4, .ref ou)]) hx hb dL_minus_15 hl (by decide) rfl (fun ls hl => ?_)
      refine lv_iconst (v := 1) hx hb dL_minus_17 (by decide) ?_
      have hP9 := hP.sub (ws' := []) [] rfl
      have hD9 := hD.sub (ws' := []) [] (by decide) rfl
      refine W.widen (k := 5) (n := 30) (Nat.le_of_ble_eq_true rfl) (Nat.le_of_ble_eq_true rfl) ?_
      exact vx_ret (W.iret (v := 1) hx hb hr (fun t ht hW => ⟨⟨1, (), rfl, Or.inl ⟨rfl, c_2⟩, by rw [ht]; exact hP9, hD9⟩, hS.F ht⟩) hS.2.2 dL_minus_18)
    · have c_3 : 0 ≤ a0.toInt := e_0
      have c_4 : 6 ≤ a0.toInt := e_1
      refine vx_catch hown (tableOf []) ⟨0, 12, 15, 20⟩ (tableOf [(0, 12, 19, 15)]) (by rw [htab]; rfl) (xpass0) (by decide) (by decide) w_1 (va_Nw.use rfl hV.2.2.2.2.2.1.2.2) hq9 hcv hcl ?_
      have hP : va_P D vwCl [] H_1 := fun k q h => by simp at h
      have hD : va_D A [] := ⟨fun i j p q h => by simp at h, fun k q h => by simp at h⟩
      refine W.widen (k := 5) (n := 30) (Nat.le_of_ble_eq_true rfl) (Nat.le_of_ble_eq_true rfl) ?_
      refine lv_astore (lv' := [(5, .ref q9), (0, .ref x), (1, .int a0), (2, .int a1), (3, .int a2), (4, .ref ou)]) hx hb dL_minus_15 hl (by decide) rfl (fun ls hl => ?_)
      refine lv_iconst (v := 1) hx hb dL_minus_17 (by decide) ?_
      have hP9 := hP.sub (ws' := []) [] rfl
      have hD9 := hD.sub (ws' := []) [] (by decide) rfl
      refine W.widen (k := 5) (n := 30) (Nat.le_of_ble_eq_true rfl) (Nat.le_of_ble_eq_true rfl) ?_
      exact vx_ret (W.iret (v := 1) hx hb hr (fun t ht hW => ⟨⟨1, (), rfl, Or.inr (Or.inl ⟨rfl, c_3, c_4⟩), by rw [ht]; exact hP9, hD9⟩, hS.F ht⟩) hS.2.2 dL_minus_18)
    · have c_5 : 0 ≤ a0.toInt := e_0
      have c_6 : a0.toInt < 6 := e_1
      have c_7 : a1.toInt < 0 := e_2
      refine vx_catch hown (tableOf []) ⟨0, 12, 15, 20⟩ (tableOf [(0, 12, 19, 15)]) (by rw [htab]; rfl) (xpass0) (by decide) (by decide) w_1 (va_Nw.use rfl hV.2.2.2.2.2.1.2.2) hq9 hcv hcl ?_
      have hP : va_P D vwCl [] H_1 := fun k q h => by simp at h
      have hD : va_D A [] := ⟨fun i j p q h => by simp at h, fun k q h => by simp at h⟩
      refine W.widen (k := 5) (n := 30) (Nat.le_of_ble_eq_true rfl) (Nat.le_of_ble_eq_true rfl) ?_
      refine lv_astore (lv' := [(5, .ref q9), (0, .ref x), (1, .int a0), (2, .int a1), (3, .int a2), (4, .ref ou)]) hx hb dL_minus_15 hl (by decide) rfl (fun ls hl => ?_)
      refine lv_iconst (v := 1) hx hb dL_minus_17 (by decide) ?_
      have hP9 := hP.sub (ws' := []) [] rfl
      have hD9 := hD.sub (ws' := []) [] (by decide) rfl
      refine W.widen (k := 5) (n := 30) (Nat.le_of_ble_eq_true rfl) (Nat.le_of_ble_eq_true rfl) ?_
      exact vx_ret (W.iret (v := 1) hx hb hr (fun t ht hW => ⟨⟨1, (), rfl, Or.inr (Or.inr (Or.inl ⟨rfl, c_5, c_6, c_7⟩)), by rw [ht]; exact hP9, hD9⟩, hS.F ht⟩) hS.2.2 dL_minus_18)
    · have c_8 : 0 ≤ a0.toInt := e_0
      have c_9 : a0.toInt < 6 := e_1
      have c_10 : 0 ≤ a1.toInt := e_2
      have c_11 : 6 ≤ a1.toInt := e_3
      refine vx_catch hown (tableOf []) ⟨0, 12, 15, 20⟩ (tableOf [(0, 12, 19, 15)]) (by rw [htab]; rfl) (xpass0) (by decide) (by decide) w_1 (va_Nw.use rfl hV.2.2.2.2.2.1.2.2) hq9 hcv hcl ?_
      have hP : va_P D vwCl [] H_1 := fun k q h => by simp at h
      have hD : va_D A [] := ⟨fun i j p q h => by simp at h, fun k q h => by simp at h⟩
      refine W.widen (k := 5) (n := 30) (Nat.le_of_ble_eq_true rfl) (Nat.le_of_ble_eq_true rfl) ?_
      refine lv_astore (lv' := [(5, .ref q9), (0, .ref x), (1, .int a0), (2, .int a1), (3, .int a2), (4, .ref ou)]) hx hb dL_minus_15 hl (by decide) rfl (fun ls hl => ?_)
      refine lv_iconst (v := 1) hx hb dL_minus_17 (by decide) ?_
      have hP9 := hP.sub (ws' := []) [] rfl
      have hD9 := hD.sub (ws' := []) [] (by decide) rfl
      refine W.widen (k := 5) (n := 30) (Nat.le_of_ble_eq_true rfl) (Nat.le_of_ble_eq_true rfl) ?_
      exact vx_ret (W.iret (v := 1) hx hb hr (fun t ht hW => ⟨⟨1, (), rfl, Or.inr (Or.inr (Or.inr (Or.inl ⟨rfl, c_8, c_9, c_10, c_11⟩))), by rw [ht]; exact hP9, hD9⟩, hS.F ht⟩) hS.2.2 dL_minus_18)
    · have c_12 : 0 ≤ a0.toInt := e_0
      have c_13 : a0.toInt < 6 := e_1
      have c_14 : 0 ≤ a1.toInt := e_2
      have c_15 : a1.toInt < 6 := e_3
      have c_16 : a2.toInt < 0 := e_4
      refine vx_catch hown (tableOf []) ⟨0, 12, 15, 20⟩ (tableOf [(0, 12, 19, 15)]) (by rw [htab]; rfl) (xpass0) (by decide) (by decide) w_1 (va_Nw.use rfl hV.2.2.2.2.2.1.2.2) hq9 hcv hcl ?_
      have hP : va_P D vwCl [] H_1 := fun k q h => by simp at h
      have hD : va_D A [] := ⟨fun i j p q h => by simp at h, fun k q h => by simp at h⟩
      refine W.widen (k := 5) (n := 30) (Nat.le_of_ble_eq_true rfl) (Nat.le_of_ble_eq_true rfl) ?_
      refine lv_astore (lv' := [(5, .ref q9), (0, .ref x), (1, .int a0), (2, .int a1), (3, .int a2), (4, .ref ou)]) hx hb dL_minus_15 hl (by decide) rfl (fun ls hl => ?_)
      refine lv_iconst (v := 1) hx hb dL_minus_17 (by decide) ?_
      have hP9 := hP.sub (ws' := []) [] rfl
      have hD9 := hD.sub (ws' := []) [] (by decide) rfl
      refine W.widen (k := 5) (n := 30) (Nat.le_of_ble_eq_true rfl) (Nat.le_of_ble_eq_true rfl) ?_
      exact vx_ret (W.iret (v := 1) hx hb hr (fun t ht hW => ⟨⟨1, (), rfl, Or.inr (Or.inr (Or.inr (Or.inr (Or.inl ⟨rfl, c_12, c_13, c_14, c_15, c_16⟩)))), by rw [ht]; exact hP9, hD9⟩, hS.F ht⟩) hS.2.2 dL_minus_18)
    · have c_17 : 0 ≤ a0.toInt := e_0
      have c_18 : a0.toInt < 6 := e_1
      have c_19 : 0 ≤ a1.toInt := e_2
      have c_20 : a1.toInt < 6 := e_3
      have c_21 : 0 ≤ a2.toInt := e_4
      have c_22 : 6 ≤ a2.toInt := e_5
      refine vx_catch hown (tableOf []) ⟨0, 12, 15, 20⟩ (tableOf [(0, 12, 19, 15)]) (by rw [htab]; rfl) (xpass0) (by decide) (by decide) w_1 (va_Nw.use rfl hV.2.2.2.2.2.1.2.2) hq9 hcv hcl ?_
      have hP : va_P D vwCl [] H_1 := fun k q h => by simp at h
      have hD : va_D A [] := ⟨fun i j p q h => by simp at h, fun k q h => by simp at h⟩
      refine W.widen (k := 5) (n := 30) (Nat.le_of_ble_eq_true rfl) (Nat.le_of_ble_eq_true rfl) ?_
      refine lv_astore (lv' := [(5, .ref q9), (0, .ref x), (1, .int a0), (2, .int a1), (3, .int a2), (4, .ref ou)]) hx hb dL_minus_15 hl (by decide) rfl (fun ls hl => ?_)
      refine lv_iconst (v := 1) hx hb dL_minus_17 (by decide) ?_
      have hP9 := hP.sub (ws' := []) [] rfl
      have hD9 := hD.sub (ws' := []) [] (by decide) rfl
      refine W.widen (k := 5) (n := 30) (Nat.le_of_ble_eq_true rfl) (Nat.le_of_ble_eq_true rfl) ?_
      exact vx_ret (W.iret (v := 1) hx hb hr (fun t ht hW => ⟨⟨1, (), rfl, Or.inr (Or.inr (Or.inr (Or.inr (Or.inr (Or.inl ⟨rfl, c_17, c_18, c_19, c_20, c_21, c_22⟩))))), by rw [ht]; exact hP9, hD9⟩, hS.F ht⟩) hS.2.2 dL_minus_18)
    · have c_23 : 0 ≤ a0.toInt := e_0
      have c_24 : a0.toInt < 6 := e_1
      have c_25 : 0 ≤ a1.toInt := e_2
      have c_26 : a1.toInt < 6 := e_3
      have c_27 : 0 ≤ a2.toInt := e_4
      have c_28 : a2.toInt < 6 := e_5
      have c_29 : 0 ≤ a0.toInt := e_6
      have c_30 : a0.toInt < 6 := e_7
      refine vx_catch hown (tableOf [(0, 12, 15, 20)]) ⟨0, 12, 19, 15⟩ (tableOf []) (by rw [htab]; rfl) (xpass1 (Or.inr ⟨by decide, iob, w_1, hV.2.2.2.2.2.2.1.1⟩)) (by decide) (by decide) w_2 (va_Nw.use rfl hV.2.2.2.2.2.1.2.1) hq9 hcv hcl ?_
      have hP : va_P D vwCl [] H_1 := fun k q h => by simp at h
      have hD : va_D A [] := ⟨fun i j p q h => by simp at h, fun k q h => by simp at h⟩
      refine W.widen (k := 5) (n := 30) (Nat.le_of_ble_eq_true rfl) (Nat.le_of_ble_eq_true rfl) ?_
      refine lv_astore (lv' := [(5, .ref q9), (0, .ref x), (1, .int a0), (2, .int a1), (3, .int a2), (4, .ref ou)]) hx hb dL_minus_19 hl (by decide) rfl (fun ls hl => ?_)
      refine lv_iconst (v := 2) hx hb dL_minus_21 (by decide) ?_
      have hP9 := hP.sub (ws' := []) [] rfl
      have hD9 := hD.sub (ws' := []) [] (by decide) rfl
      refine W.widen (k := 5) (n := 30) (Nat.le_of_ble_eq_true rfl) (Nat.le_of_ble_eq_true rfl) ?_
      exact vx_ret (W.iret (v := 2) hx hb hr (fun t ht hW => ⟨⟨2, (), rfl, Or.inr (Or.inr (Or.inr (Or.inr (Or.inr (Or.inr ⟨rfl, c_23, c_24, c_25, c_26, c_27, c_28, c_29, c_30⟩))))), by rw [ht]; exact hP9, hD9⟩, hS.F ht⟩) hS.2.2 dL_minus_22)
  · exact hw.elim
set_option maxHeartbeats 4000000 in
set_option maxRecDepth 100000 in
theorem k_L_antijoin (l : Launch) (htr : l.stackTraces = false) (D : va_G) (cI cJ cZ : ClassId) (x : Nat) (st : Nat) (kp : Nat) (bf : Nat) (o1 : Nat) (o2 : Nat) (o3 : Nat) (o4 : Nat) (o5 : Nat) (o6 : Nat) (lt : Nat) (tb : Nat) (fl : Nat) (wt : Nat) (ou : Nat) (a0 : Int32) (a1 : Int32) (a2 : Int32) (sz : Nat) : vx_Met l yL_antijoin wsL_antijoin ({ frames := 9, cells := 5, slots := 30, locals := 150 }) (xPc D cI cJ cZ [.ref x, .int a0, .int a1, .int a2, .ref ou] [(x, .inr (9, [.ref st, .ref kp, .int 0, .ref bf, .int 0, .int (-1), .int (-1), .int 0, .ref o1, .ref o2, .ref o3, .ref o4, .ref o5, .ref o6])), (st, .inr (8, [.ref lt, .ref tb, .ref fl, .ref wt, .int 0, .null])), (fl, .inl (cZ, 6, .inl (fun _ => 0))), (ou, .inl (cJ, 1, .inr (.inl (fun _ => 0))))] sz) (va_Qi (fun (r : Int32) (u : Unit) => (r = 1 ∧ a0.toInt < 0) ∨ (r = 1 ∧ 0 ≤ a0.toInt ∧ 6 ≤ a0.toInt) ∨ (r = 1 ∧ 0 ≤ a0.toInt ∧ a0.toInt < 6 ∧ a1.toInt < 0) ∨ (r = 1 ∧ 0 ≤ a0.toInt ∧ a0.toInt < 6 ∧ 0 ≤ a1.toInt ∧ 6 ≤ a1.toInt) ∨ (r = 1 ∧ 0 ≤ a0.toInt ∧ a0.toInt < 6 ∧ 0 ≤ a1.toInt ∧ a1.toInt < 6 ∧ a2.toInt < 0) ∨ (r = 1 ∧ 0 ≤ a0.toInt ∧ a0.toInt < 6 ∧ 0 ≤ a1.toInt ∧ a1.toInt < 6 ∧ 0 ≤ a2.toInt ∧ 6 ≤ a2.toInt) ∨ (r = 2 ∧ 0 ≤ a0.toInt ∧ a0.toInt < 6 ∧ 0 ≤ a1.toInt ∧ a1.toInt < 6 ∧ 0 ≤ a2.toInt ∧ a2.toInt < 6 ∧ 0 ≤ a0.toInt ∧ a0.toInt < 6)) (fun (u : Unit) (t : State) => va_P D vwCl ([] : va_W) t.heap ∧ va_D (va_A [(x, .inr (9, [.ref st, .ref kp, .int 0, .ref bf, .int 0, .int (-1), .int (-1), .int 0, .ref o1, .ref o2, .ref o3, .ref o4, .ref o5, .ref o6])), (st, .inr (8, [.ref lt, .ref tb, .ref fl, .ref wt, .int 0, .null])), (fl, .inl (cZ, 6, .inl (fun _ => 0))), (ou, .inl (cJ, 1, .inr (.inl (fun _ => 0))))] sz) ([] : va_W)) (va_A [(x, .inr (9, [.ref st, .ref kp, .int 0, .ref bf, .int 0, .int (-1), .int (-1), .int 0, .ref o1, .ref o2, .ref o3, .ref o4, .ref o5, .ref o6])), (st, .inr (8, [.ref lt, .ref tb, .ref fl, .ref wt, .int 0, .null])), (fl, .inl (cZ, 6, .inl (fun _ => 0))), (ou, .inl (cJ, 1, .inr (.inl (fun _ => 0))))] sz)) (vx_X (fun _ : Unit => True) (fun (E : String) (_ : Unit) (_ : State) => False) (va_A [(x, .inr (9, [.ref st, .ref kp, .int 0, .ref bf, .int 0, .int (-1), .int (-1), .int 0, .ref o1, .ref o2, .ref o3, .ref o4, .ref o5, .ref o6])), (st, .inr (8, [.ref lt, .ref tb, .ref fl, .ref wt, .int 0, .null])), (fl, .inl (cZ, 6, .inl (fun _ => 0))), (ou, .inl (cJ, 1, .inr (.inl (fun _ => 0))))] sz)) 5 30 (va_A [(x, .inr (9, [.ref st, .ref kp, .int 0, .ref bf, .int 0, .int (-1), .int (-1), .int 0, .ref o1, .ref o2, .ref o3, .ref o4, .ref o5, .ref o6])), (st, .inr (8, [.ref lt, .ref tb, .ref fl, .ref wt, .int 0, .null])), (fl, .inl (cZ, 6, .inl (fun _ => 0))), (ou, .inl (cJ, 1, .inr (.inl (fun _ => 0))))] sz) := by
  refine vx_ofWH (cc := cL_antijoin) (maxL := 6) (ret := (some .int)) (by decide) rfl ?_
  intro p e s m args below meth c s₁ B hml hv
  obtain ⟨rfl, hsz, hP, hK, hD0, hE, hV⟩ := hv
  have hx := B.exec
  have hb := B.bytes
  have hr := B.returns
  have hts := atoms_spec (ws := wsL_antijoin) B.pre
  have hown : s.vm.findClass RL = some m.cls := findClass_of_methodNamed B.named
  have hlocks := B.notSynchronized
  have htab : c.exceptionTable.toList = tableOf [(0, 12, 15, 20), (0, 12, 19, 15)] := vx_table (x := yL_antijoin) B (hts _ List.mem_cons_self)
  have w_1 := hts (.classLink RL 20 iob) (by decide +kernel)
  have w_2 := hts (.classLink RL 15 ise) (by decide +kernel)
  subst hsz
  have hD := hD0.self (sz := s.heap.size)
  generalize hAe : va_A [(x, .inr (9, [.ref st, .ref kp, .int 0, .ref bf, .int 0, .int (-1), .int (-1), .int 0, .ref o1, .ref o2, .ref o3, .ref o4, .ref o5, .ref o6])), (st, .inr (8, [.ref lt, .ref tb, .ref fl, .ref wt, .int 0, .null])), (fl, .inl (cZ, 6, .inl (fun _ => 0))), (ou, .inl (cJ, 1, .inr (.inl (fun _ => 0))))] s.heap.size = A at hD hE ⊢
  have hA : ∀ q : Nat, s.heap.size ≤ q → A q := fun q h => by rw [← hAe]; exact Or.inr h
  have hS : va_S A s.heap s.heap [] := va_S.rf
  have hP : va_P D vwCl [(x, .inr (9, [.ref st, .ref kp, .int 0, .ref bf, .int 0, .int (-1), .int (-1), .int 0, .ref o1, .ref o2, .ref o3, .ref o4, .ref o5, .ref o6])), (st, .inr (8, [.ref lt, .ref tb, .ref fl, .ref wt, .int 0, .null])), (fl, .inl (cZ, 6, .inl (fun _ => 0))), (ou, .inl (cJ, 1, .inr (.inl (fun _ => 0))))] s.heap := hP
  have hl := lv_entry ([.ref x, .int a0, .int a1, .int a2, .ref ou]) (n := 6) (Nat.le_of_ble_eq_true rfl)
  rw [lg_entry_eq]
  generalize (lg_sl ([.ref x, .int a0, .int a1, .int a2, .ref ou]) ++ List.replicate (6 - (lg_sl ([.ref x, .int a0, .int a1, .int a2, .ref ou])).length) Slot.unset).toArray = ls at hl ⊢
  have hl : lv_has ls 6 [(0, .ref x), (1, .int a0), (2, .int a1), (3, .int a2), (4, .ref ou)] := hl
  refine lv_aload hx hb dL_antijoin_0 (lv_at hl 4 rfl) ?_
  refine lv_iconst (v := 0) hx hb dL_antijoin_2 (by decide) ?_
  refine lv_aload_n hx hb dL_antijoin_3 rfl (lv_at hl 0 rfl) ?_
  refine lv_iload_n hx hb dL_antijoin_4 rfl (lv_at hl 1 rfl) ?_
  refine lv_iload_n hx hb dL_antijoin_5 rfl (lv_at hl 2 rfl) ?_
  refine lv_iload_n hx hb dL_antijoin_6 rfl (lv_at hl 3 rfl) ?_
  have hPc := hP.sub (ws' := [(x, .inr (9, [.ref st, .ref kp, .int 0, .ref bf, .int 0, .int (-1), .int (-1), .int 0, .ref o1, .ref o2, .ref o3, .ref o4, .ref o5, .ref o6])), (st, .inr (8, [.ref lt, .ref tb, .ref fl, .ref wt, .int 0, .null])), (fl, .inl (cZ, 6, .inl (fun _ => 0)))]) [0, 1, 2] rfl
  have hDc := hD.sub (ws' := [(x, .inr (9, [.ref st, .ref kp, .int 0, .ref bf, .int 0, .int (-1), .int (-1), .int 0, .ref o1, .ref o2, .ref o3, .ref o4, .ref o5, .ref o6])), (st, .inr (8, [.ref lt, .ref tb, .ref fl, .ref wt, .int 0, .null])), (fl, .inl (cZ, 6, .inl (fun _ => 0)))]) [0, 1, 2] (by decide) rfl
  have hFc := va_free (wc := [(x, .inr (9, [.ref st, .ref kp, .int 0, .ref bf, .int 0, .int (-1), .int (-1), .int 0, .ref o1, .ref o2, .ref o3, .ref o4, .ref o5, .ref o6])), (st, .inr (8, [.ref lt, .ref tb, .ref fl, .ref wt, .int 0, .null])), (fl, .inl (cZ, 6, .inl (fun _ => 0)))]) hD hS hA [0, 1, 2] rfl
  refine vx_calli (vx_runV (As := [.int a0, .int a1, .int a2]) (rest := [.int 0, .ref ou]) ⟨hx, hb, hml, hown, hts⟩ (k_X10_antijoin l htr D cI cJ cZ x st kp bf o1 o2 o3 o4 o5 o6 lt tb fl wt a0 a1 a2 s.heap.size) (cwV 3 hts gL_antijoin_X10_antijoin rfl rfl rfl (by decide +kernel) ⟨Nat.le_of_ble_eq_true rfl, Nat.le_of_ble_eq_true rfl⟩) ⟨xPc_blind, va_recv hK hP (ci := 9) (q0 := 0) rfl rfl, xPc_pre hPc hK hDc hE hS hFc hV⟩ rfl rfl hl.1 rfl (lv_room (Nat.le_of_ble_eq_true rfl)) dL_antijoin_7 ⟨Nat.le_of_ble_eq_true rfl, Nat.le_of_ble_eq_true rfl⟩) hS (fun q _ h => hFc q h) hFc (fun q _ h => hFc q h) (fun E ce q9 u t H_1 locs ht hvm hpx hBX hz1 hk1 hS hq9 hcv hcl => ?_) (fun r u t H_1 locs ht hvm hw hB hz1 hk1 hS => ?_)
  · rcases hBX with ⟨rfl, e_0⟩ | ⟨rfl, e_0, e_1⟩ | ⟨rfl, e_0, e_1, e_2⟩ | ⟨rfl, e_0, e_1, e_2, e_3⟩ | ⟨rfl, e_0, e_1, e_2, e_3, e_4⟩ | ⟨rfl, e_0, e_1, e_2, e_3, e_4, e_5⟩ | ⟨rfl, e_0, e_1, e_2, e_3, e_4, e_5, e_6, e_7⟩
    · have c_2 : a0.toInt < 0 := e_0
      refine vx_catch hown (tableOf []) ⟨0, 12, 15, 20⟩ (tableOf [(0, 12, 19, 15)]) (by rw [htab]; rfl) (xpass0) (by decide) (by decide) w_1 (va_Nw.use rfl hV.2.2.2.2.2.1.2.2) hq9 hcv hcl ?_
      have hP : va_P D vwCl [] H_1 := fun k q h => by simp at h
      have hD : va_D A [] := ⟨fun i j p q h => by simp at h, fun k q h => by simp at h⟩
      refine W.widen (k := 5) (n := 30) (Nat.le_of_ble_eq_true rfl) (Nat.le_of_ble_eq_true rfl) ?_
      refine lv_astore (lv' := [(5, .ref q9), (0, .ref x), (1, .int a0), (2, .int a1), (3, .int a2), (4, .ref ou)]) hx hb dL_antijoin_15 hl (by decide) rfl (fun ls hl => ?_)
      refine lv_iconst (v := 1) hx hb dL_antijoin_17 (by decide) ?_
      have hP9 := hP.sub (ws' := []) [] rfl
      have hD9 := hD.sub (ws' := []) [] (by decide) rfl
      refine W.widen (k := 5) (n := 30) (Nat.le_of_ble_eq_true rfl) (Nat.le_of_ble_eq_true rfl) ?_
      exact vx_ret (W.iret (v := 1) hx hb hr (fun t ht hW => ⟨⟨1, (), rfl, Or.inl ⟨rfl, c_2⟩, by rw [ht]; exact hP9, hD9⟩, hS.F ht⟩) hS.2.2 dL_antijoin_18)
    · have c_3 : 0 ≤ a0.toInt := e_0
      have c_4 : 6 ≤ a0.toInt := e_1
      refine vx_catch hown (tableOf []) ⟨0, 12, 15, 20⟩ (tableOf [(0, 12, 19, 15)]) (by rw [htab]; rfl) (xpass0) (by decide) (by decide) w_1 (va_Nw.use rfl hV.2.2.2.2.2.1.2.2) hq9 hcv hcl ?_
      have hP : va_P D vwCl [] H_1 := fun k q h => by simp at h
      have hD : va_D A [] := ⟨fun i j p q h => by simp at h, fun k q h => by simp at h⟩
      refine W.widen (k := 5) (n := 30) (Nat.le_of_ble_eq_true rfl) (Nat.le_of_ble_eq_true rfl) ?_
      refine lv_astore (lv' := [(5, .ref q9), (0, .ref x), (1, .int a0), (2, .int a1), (3, .int a2), (4, .ref ou)]) hx hb dL_antijoin_15 hl (by decide) rfl (fun ls hl => ?_)
      refine lv_iconst (v := 1) hx hb dL_antijoin_17 (by decide) ?_
      have hP9 := hP.sub (ws' := []) [] rfl
      have hD9 := hD.sub (ws' := []) [] (by decide) rfl
      refine W.widen (k := 5) (n := 30) (Nat.le_of_ble_eq_true rfl) (Nat.le_of_ble_eq_true rfl) ?_
      exact vx_ret (W.iret (v := 1) hx hb hr (fun t ht hW => ⟨⟨1, (), rfl, Or.inr (Or.inl ⟨rfl, c_3, c_4⟩), by rw [ht]; exact hP9, hD9⟩, hS.F ht⟩) hS.2.2 dL_antijoin_18)
    · have c_5 : 0 ≤ a0.toInt := e_0
      have c_6 : a0.toInt < 6 := e_1
      have c_7 : a1.toInt < 0 := e_2
      refine vx_catch hown (tableOf []) ⟨0, 12, 15, 20⟩ (tableOf [(0, 12, 19, 15)]) (by rw [htab]; rfl) (xpass0) (by decide) (by decide) w_1 (va_Nw.use rfl hV.2.2.2.2.2.1.2.2) hq9 hcv hcl ?_
      have hP : va_P D vwCl [] H_1 := fun k q h => by simp at h
      have hD : va_D A [] := ⟨fun i j p q h => by simp at h, fun k q h => by simp at h⟩
      refine W.widen (k := 5) (n := 30) (Nat.le_of_ble_eq_true rfl) (Nat.le_of_ble_eq_true rfl) ?_
      refine lv_astore (lv' := [(5, .ref q9), (0, .ref x), (1, .int a0), (2, .int a1), (3, .int a2), (4, .ref ou)]) hx hb dL_antijoin_15 hl (by decide) rfl (fun ls hl => ?_)
      refine lv_iconst (v := 1) hx hb dL_antijoin_17 (by decide) ?_
      have hP9 := hP.sub (ws' := []) [] rfl
      have hD9 := hD.sub (ws' := []) [] (by decide) rfl
      refine W.widen (k := 5) (n := 30) (Nat.le_of_ble_eq_true rfl) (Nat.le_of_ble_eq_true rfl) ?_
      exact vx_ret (W.iret (v := 1) hx hb hr (fun t ht hW => ⟨⟨1, (), rfl, Or.inr (Or.inr (Or.inl ⟨rfl, c_5, c_6, c_7⟩)), by rw [ht]; exact hP9, hD9⟩, hS.F ht⟩) hS.2.2 dL_antijoin_18)
    · have c_8 : 0 ≤ a0.toInt := e_0
      have c_9 : a0.toInt < 6 := e_1
      have c_10 : 0 ≤ a1.toInt := e_2
      have c_11 : 6 ≤ a1.toInt := e_3
      refine vx_catch hown (tableOf []) ⟨0, 12, 15, 20⟩ (tableOf [(0, 12, 19, 15)]) (by rw [htab]; rfl) (xpass0) (by decide) (by decide) w_1 (va_Nw.use rfl hV.2.2.2.2.2.1.2.2) hq9 hcv hcl ?_
      have hP : va_P D vwCl [] H_1 := fun k q h => by simp at h
      have hD : va_D A [] := ⟨fun i j p q h => by simp at h, fun k q h => by simp at h⟩
      refine W.widen (k := 5) (n := 30) (Nat.le_of_ble_eq_true rfl) (Nat.le_of_ble_eq_true rfl) ?_
      refine lv_astore (lv' := [(5, .ref q9), (0, .ref x), (1, .int a0), (2, .int a1), (3, .int a2), (4, .ref ou)]) hx hb dL_antijoin_15 hl (by decide) rfl (fun ls hl => ?_)
      refine lv_iconst (v := 1) hx hb dL_antijoin_17 (by decide) ?_
      have hP9 := hP.sub (ws' := []) [] rfl
      have hD9 := hD.sub (ws' := []) [] (by decide) rfl
      refine W.widen (k := 5) (n := 30) (Nat.le_of_ble_eq_true rfl) (Nat.le_of_ble_eq_true rfl) ?_
      exact vx_ret (W.iret (v := 1) hx hb hr (fun t ht hW => ⟨⟨1, (), rfl, Or.inr (Or.inr (Or.inr (Or.inl ⟨rfl, c_8, c_9, c_10, c_11⟩))), by rw [ht]; exact hP9, hD9⟩, hS.F ht⟩) hS.2.2 dL_antijoin_18)
    · have c_12 : 0 ≤ a0.toInt := e_0
      have c_13 : a0.toInt < 6 := e_1
      have c_14 : 0 ≤ a1.toInt := e_2
      have c_15 : a1.toInt < 6 := e_3
      have c_16 : a2.toInt < 0 := e_4
      refine vx_catch hown (tableOf []) ⟨0, 12, 15, 20⟩ (tableOf [(0, 12, 19, 15)]) (by rw [htab]; rfl) (xpass0) (by decide) (by decide) w_1 (va_Nw.use rfl hV.2.2.2.2.2.1.2.2) hq9 hcv hcl ?_
      have hP : va_P D vwCl [] H_1 := fun k q h => by simp at h
      have hD : va_D A [] := ⟨fun i j p q h => by simp at h, fun k q h => by simp at h⟩
      refine W.widen (k := 5) (n := 30) (Nat.le_of_ble_eq_true rfl) (Nat.le_of_ble_eq_true rfl) ?_
      refine lv_astore (lv' := [(5, .ref q9), (0, .ref x), (1, .int a0), (2, .int a1), (3, .int a2), (4, .ref ou)]) hx hb dL_antijoin_15 hl (by decide) rfl (fun ls hl => ?_)
      refine lv_iconst (v := 1) hx hb dL_antijoin_17 (by decide) ?_
      have hP9 := hP.sub (ws' := []) [] rfl
      have hD9 := hD.sub (ws' := []) [] (by decide) rfl
      refine W.widen (k := 5) (n := 30) (Nat.le_of_ble_eq_true rfl) (Nat.le_of_ble_eq_true rfl) ?_
      exact vx_ret (W.iret (v := 1) hx hb hr (fun t ht hW => ⟨⟨1, (), rfl, Or.inr (Or.inr (Or.inr (Or.inr (Or.inl ⟨rfl, c_12, c_13, c_14, c_15, c_16⟩)))), by rw [ht]; exact hP9, hD9⟩, hS.F ht⟩) hS.2.2 dL_antijoin_18)
    · have c_17 : 0 ≤ a0.toInt := e_0
      have c_18 : a0.toInt < 6 := e_1
      have c_19 : 0 ≤ a1.toInt := e_2
      have c_20 : a1.toInt < 6 := e_3
      have c_21 : 0 ≤ a2.toInt := e_4
      have c_22 : 6 ≤ a2.toInt := e_5
      refine vx_catch hown (tableOf []) ⟨0, 12, 15, 20⟩ (tableOf [(0, 12, 19, 15)]) (by rw [htab]; rfl) (xpass0) (by decide) (by decide) w_1 (va_Nw.use rfl hV.2.2.2.2.2.1.2.2) hq9 hcv hcl ?_
      have hP : va_P D vwCl [] H_1 := fun k q h => by simp at h
      have hD : va_D A [] := ⟨fun i j p q h => by simp at h, fun k q h => by simp at h⟩
      refine W.widen (k := 5) (n := 30) (Nat.le_of_ble_eq_true rfl) (Nat.le_of_ble_eq_true rfl) ?_
      refine lv_astore (lv' := [(5, .ref q9), (0, .ref x), (1, .int a0), (2, .int a1), (3, .int a2), (4, .ref ou)]) hx hb dL_antijoin_15 hl (by decide) rfl (fun ls hl => ?_)
      refine lv_iconst (v := 1) hx hb dL_antijoin_17 (by decide) ?_
      have hP9 := hP.sub (ws' := []) [] rfl
      have hD9 := hD.sub (ws' := []) [] (by decide) rfl
      refine W.widen (k := 5) (n := 30) (Nat.le_of_ble_eq_true rfl) (Nat.le_of_ble_eq_true rfl) ?_
      exact vx_ret (W.iret (v := 1) hx hb hr (fun t ht hW => ⟨⟨1, (), rfl, Or.inr (Or.inr (Or.inr (Or.inr (Or.inr (Or.inl ⟨rfl, c_17, c_18, c_19, c_20, c_21, c_22⟩))))), by rw [ht]; exact hP9, hD9⟩, hS.F ht⟩) hS.2.2 dL_antijoin_18)
    · have c_23 : 0 ≤ a0.toInt := e_0
      have c_24 : a0.toInt < 6 := e_1
      have c_25 : 0 ≤ a1.toInt := e_2
      have c_26 : a1.toInt < 6 := e_3
      have c_27 : 0 ≤ a2.toInt := e_4
      have c_28 : a2.toInt < 6 := e_5
      have c_29 : 0 ≤ a0.toInt := e_6
      have c_30 : a0.toInt < 6 := e_7
      refine vx_catch hown (tableOf [(0, 12, 15, 20)]) ⟨0, 12, 19, 15⟩ (tableOf []) (by rw [htab]; rfl) (xpass1 (Or.inr ⟨by decide, iob, w_1, hV.2.2.2.2.2.2.1.1⟩)) (by decide) (by decide) w_2 (va_Nw.use rfl hV.2.2.2.2.2.1.2.1) hq9 hcv hcl ?_
      have hP : va_P D vwCl [] H_1 := fun k q h => by simp at h
      have hD : va_D A [] := ⟨fun i j p q h => by simp at h, fun k q h => by simp at h⟩
      refine W.widen (k := 5) (n := 30) (Nat.le_of_ble_eq_true rfl) (Nat.le_of_ble_eq_true rfl) ?_
      refine lv_astore (lv' := [(5, .ref q9), (0, .ref x), (1, .int a0), (2, .int a1), (3, .int a2), (4, .ref ou)]) hx hb dL_antijoin_19 hl (by decide) rfl (fun ls hl => ?_)
      refine lv_iconst (v := 2) hx hb dL_antijoin_21 (by decide) ?_
      have hP9 := hP.sub (ws' := []) [] rfl
      have hD9 := hD.sub (ws' := []) [] (by decide) rfl
      refine W.widen (k := 5) (n := 30) (Nat.le_of_ble_eq_true rfl) (Nat.le_of_ble_eq_true rfl) ?_
      exact vx_ret (W.iret (v := 2) hx hb hr (fun t ht hW => ⟨⟨2, (), rfl, Or.inr (Or.inr (Or.inr (Or.inr (Or.inr (Or.inr ⟨rfl, c_23, c_24, c_25, c_26, c_27, c_28, c_29, c_30⟩))))), by rw [ht]; exact hP9, hD9⟩, hS.F ht⟩) hS.2.2 dL_antijoin_22)
  · exact hw.elim
set_option maxHeartbeats 4000000 in
set_option maxRecDepth 100000 in
theorem k_L_project (l : Launch) (htr : l.stackTraces = false) (D : va_G) (cI cJ cZ : ClassId) (x : Nat) (st : Nat) (kp : Nat) (bf : Nat) (o1 : Nat) (o2 : Nat) (o3 : Nat) (o4 : Nat) (o5 : Nat) (o6 : Nat) (lt : Nat) (tb : Nat) (fl : Nat) (wt : Nat) (ou : Nat) (a0 : Int32) (a1 : Int32) (a2 : Int32) (sz : Nat) : vx_Met l yL_project wsL_project ({ frames := 9, cells := 4, slots := 24, locals := 149 }) (xPc D cI cJ cZ [.ref x, .int a0, .int a1, .int a2, .ref ou] [(x, .inr (9, [.ref st, .ref kp, .int 0, .ref bf, .int 0, .int (-1), .int (-1), .int 0, .ref o1, .ref o2, .ref o3, .ref o4, .ref o5, .ref o6])), (st, .inr (8, [.ref lt, .ref tb, .ref fl, .ref wt, .int 0, .null])), (fl, .inl (cZ, 6, .inl (fun _ => 0))), (ou, .inl (cJ, 1, .inr (.inl (fun _ => 0))))] sz) (va_Qi (fun (r : Int32) (u : Unit) => (r = 1 ∧ a0.toInt < 0) ∨ (r = 1 ∧ 0 ≤ a0.toInt ∧ 6 ≤ a0.toInt) ∨ (r = 1 ∧ 0 ≤ a0.toInt ∧ a0.toInt < 6 ∧ a2.toInt < 0) ∨ (r = 1 ∧ 0 ≤ a0.toInt ∧ a0.toInt < 6 ∧ 0 ≤ a2.toInt ∧ 6 ≤ a2.toInt) ∨ (r = 2 ∧ 0 ≤ a0.toInt ∧ a0.toInt < 6 ∧ 0 ≤ a2.toInt ∧ a2.toInt < 6 ∧ a1.toInt < 0) ∨ (r = 3 ∧ 0 ≤ a0.toInt ∧ a0.toInt < 6 ∧ 0 ≤ a2.toInt ∧ a2.toInt < 6 ∧ 0 ≤ a1.toInt ∧ a1.toInt < 8 ∧ 0 ≤ a0.toInt ∧ a0.toInt < 6) ∨ (r = 2 ∧ 0 ≤ a0.toInt ∧ a0.toInt < 6 ∧ 0 ≤ a2.toInt ∧ a2.toInt < 6 ∧ 0 ≤ a1.toInt ∧ 8 ≤ a1.toInt)) (fun (u : Unit) (t : State) => va_P D vwCl ([] : va_W) t.heap ∧ va_D (va_A [(x, .inr (9, [.ref st, .ref kp, .int 0, .ref bf, .int 0, .int (-1), .int (-1), .int 0, .ref o1, .ref o2, .ref o3, .ref o4, .ref o5, .ref o6])), (st, .inr (8, [.ref lt, .ref tb, .ref fl, .ref wt, .int 0, .null])), (fl, .inl (cZ, 6, .inl (fun _ => 0))), (ou, .inl (cJ, 1, .inr (.inl (fun _ => 0))))] sz) ([] : va_W)) (va_A [(x, .inr (9, [.ref st, .ref kp, .int 0, .ref bf, .int 0, .int (-1), .int (-1), .int 0, .ref o1, .ref o2, .ref o3, .ref o4, .ref o5, .ref o6])), (st, .inr (8, [.ref lt, .ref tb, .ref fl, .ref wt, .int 0, .null])), (fl, .inl (cZ, 6, .inl (fun _ => 0))), (ou, .inl (cJ, 1, .inr (.inl (fun _ => 0))))] sz)) (vx_X (fun _ : Unit => True) (fun (E : String) (_ : Unit) (_ : State) => False) (va_A [(x, .inr (9, [.ref st, .ref kp, .int 0, .ref bf, .int 0, .int (-1), .int (-1), .int 0, .ref o1, .ref o2, .ref o3, .ref o4, .ref o5, .ref o6])), (st, .inr (8, [.ref lt, .ref tb, .ref fl, .ref wt, .int 0, .null])), (fl, .inl (cZ, 6, .inl (fun _ => 0))), (ou, .inl (cJ, 1, .inr (.inl (fun _ => 0))))] sz)) 4 24 (va_A [(x, .inr (9, [.ref st, .ref kp, .int 0, .ref bf, .int 0, .int (-1), .int (-1), .int 0, .ref o1, .ref o2, .ref o3, .ref o4, .ref o5, .ref o6])), (st, .inr (8, [.ref lt, .ref tb, .ref fl, .ref wt, .int 0, .null])), (fl, .inl (cZ, 6, .inl (fun _ => 0))), (ou, .inl (cJ, 1, .inr (.inl (fun _ => 0))))] sz) := by
  refine vx_ofWH (cc := cL_project) (maxL := 6) (ret := (some .int)) (by decide) rfl ?_
  intro p e s m args below meth c s₁ B hml hv
  obtain ⟨rfl, hsz, hP, hK, hD0, hE, hV⟩ := hv
  have hx := B.exec
  have hb := B.bytes
  have hr := B.returns
  have hts := atoms_spec (ws := wsL_project) B.pre
  have hown : s.vm.findClass RL = some m.cls := findClass_of_methodNamed B.named
  have hlocks := B.notSynchronized
  have htab : c.exceptionTable.toList = tableOf [(0, 12, 15, 20), (0, 12, 19, 13), (0, 12, 23, 15)] := vx_table (x := yL_project) B (hts _ List.mem_cons_self)
  have w_1 := hts (.classLink RL 20 iob) (by decide +kernel)
  have w_2 := hts (.classLink RL 13 iae) (by decide +kernel)
  have w_3 := hts (.classLink RL 15 ise) (by decide +kernel)
  subst hsz
  have hD := hD0.self (sz := s.heap.size)
  generalize hAe : va_A [(x, .inr (9, [.ref st, .ref kp, .int 0, .ref bf, .int 0, .int (-1), .int (-1), .int 0, .ref o1, .ref o2, .ref o3, .ref o4, .ref o5, .ref o6])), (st, .inr (8, [.ref lt, .ref tb, .ref fl, .ref wt, .int 0, .null])), (fl, .inl (cZ, 6, .inl (fun _ => 0))), (ou, .inl (cJ, 1, .inr (.inl (fun _ => 0))))] s.heap.size = A at hD hE ⊢
  have hA : ∀ q : Nat, s.heap.size ≤ q → A q := fun q h => by rw [← hAe]; exact Or.inr h
  have hS : va_S A s.heap s.heap [] := va_S.rf
  have hP : va_P D vwCl [(x, .inr (9, [.ref st, .ref kp, .int 0, .ref bf, .int 0, .int (-1), .int (-1), .int 0, .ref o1, .ref o2, .ref o3, .ref o4, .ref o5, .ref o6])), (st, .inr (8, [.ref lt, .ref tb, .ref fl, .ref wt, .int 0, .null])), (fl, .inl (cZ, 6, .inl (fun _ => 0))), (ou, .inl (cJ, 1, .inr (.inl (fun _ => 0))))] s.heap := hP
  have hl := lv_entry ([.ref x, .int a0, .int a1, .int a2, .ref ou]) (n := 6) (Nat.le_of_ble_eq_true rfl)
  rw [lg_entry_eq]
  generalize (lg_sl ([.ref x, .int a0, .int a1, .int a2, .ref ou]) ++ List.replicate (6 - (lg_sl ([.ref x, .int a0, .int a1, .int a2, .ref ou])).length) Slot.unset).toArray = ls at hl ⊢
  have hl : lv_has ls 6 [(0, .ref x), (1, .int a0), (2, .int a1), (3, .int a2), (4, .ref ou)] := hl
  refine lv_aload hx hb dL_project_0 (lv_at hl 4 rfl) ?_
  refine lv_iconst (v := 0) hx hb dL_project_2 (by decide) ?_
  refine lv_aload_n hx hb dL_project_3 rfl (lv_at hl 0 rfl) ?_
  refine lv_iload_n hx hb dL_project_4 rfl (lv_at hl 1 rfl) ?_
  refine lv_iload_n hx hb dL_project_5 rfl (lv_at hl 2 rfl) ?_
  refine lv_iload_n hx hb dL_project_6 rfl (lv_at hl 3 rfl) ?_
  have hPc := hP.sub (ws' := [(x, .inr (9, [.ref st, .ref kp, .int 0, .ref bf, .int 0, .int (-1), .int (-1), .int 0, .ref o1, .ref o2, .ref o3, .ref o4, .ref o5, .ref o6])), (st, .inr (8, [.ref lt, .ref tb, .ref fl, .ref wt, .int 0, .null])), (fl, .inl (cZ, 6, .inl (fun _ => 0)))]) [0, 1, 2] rfl
  have hDc := hD.sub (ws' := [(x, .inr (9, [.ref st, .ref kp, .int 0, .ref bf, .int 0, .int (-1), .int (-1), .int 0, .ref o1, .ref o2, .ref o3, .ref o4, .ref o5, .ref o6])), (st, .inr (8, [.ref lt, .ref tb, .ref fl, .ref wt, .int 0, .null])), (fl, .inl (cZ, 6, .inl (fun _ => 0)))]) [0, 1, 2] (by decide) rfl
  have hFc := va_free (wc := [(x, .inr (9, [.ref st, .ref kp, .int 0, .ref bf, .int 0, .int (-1), .int (-1), .int 0, .ref o1, .ref o2, .ref o3, .ref o4, .ref o5, .ref o6])), (st, .inr (8, [.ref lt, .ref tb, .ref fl, .ref wt, .int 0, .null])), (fl, .inl (cZ, 6, .inl (fun _ => 0)))]) hD hS hA [0, 1, 2] rfl
  refine vx_calli (vx_runV (As := [.int a0, .int a1, .int a2]) (rest := [.int 0, .ref ou]) ⟨hx, hb, hml, hown, hts⟩ (k_X10_project l htr D cI cJ cZ x st kp bf o1 o2 o3 o4 o5 o6 lt tb fl wt a0 a1 a2 s.heap.size) (cwV 3 hts gL_project_X10_project rfl rfl rfl (by decide +kernel) ⟨Nat.le_of_ble_eq_true rfl, Nat.le_of_ble_eq_true rfl⟩) ⟨xPc_blind, va_recv hK hP (ci := 9) (q0 := 0) rfl rfl, xPc_pre hPc hK hDc hE hS hFc hV⟩ rfl rfl hl.1 rfl (lv_room (Nat.le_of_ble_eq_true rfl)) dL_project_7 ⟨Nat.le_of_ble_eq_true rfl, Nat.le_of_ble_eq_true rfl⟩) hS (fun q _ h => hFc q h) hFc (fun q _ h => hFc q h) (fun E ce q9 u t H_1 locs ht hvm hpx hBX hz1 hk1 hS hq9 hcv hcl => ?_) (fun r u t H_1 locs ht hvm hw hB hz1 hk1 hS => ?_)
  · rcases hBX with ⟨rfl, e_0⟩ | ⟨rfl, e_0, e_1⟩ | ⟨rfl, e_0, e_1, e_2⟩ | ⟨rfl, e_0, e_1, e_2, e_3⟩ | ⟨rfl, e_0, e_1, e_2, e_3, e_4⟩ | ⟨rfl, e_0, e_1, e_2, e_3, e_4, e_5, e_6, e_7⟩ | ⟨rfl, e_0, e_1, e_2, e_3, e_4, e_5⟩
    · have c_2 : a0.toInt < 0 := e_0
      refine vx_catch hown (tableOf []) ⟨0, 12, 15, 20⟩ (tableOf [(0, 12, 19, 13), (0, 12, 23, 15)]) (by rw [htab]; rfl) (xpass0) (by decide) (by decide) w_1 (va_Nw.use rfl hV.2.2.2.2.2.1.2.2) hq9 hcv hcl ?_
      have hP : va_P D vwCl [] H_1 := fun k q h => by simp at h
      have hD : va_D A [] := ⟨fun i j p q h => by simp at h, fun k q h => by simp at h⟩
      refine W.widen (k := 4) (n := 24) (Nat.le_of_ble_eq_true rfl) (Nat.le_of_ble_eq_true rfl) ?_
      refine lv_astore (lv' := [(5, .ref q9), (0, .ref x), (1, .int a0), (2, .int a1), (3, .int a2), (4, .ref ou)]) hx hb dL_project_15 hl (by decide) rfl (fun ls hl => ?_)
      refine lv_iconst (v := 1) hx hb dL_project_17 (by decide) ?_
      have hP9 := hP.sub (ws' := []) [] rfl
      have hD9 := hD.sub (ws' := []) [] (by decide) rfl
      refine W.widen (k := 4) (n := 24) (Nat.le_of_ble_eq_true rfl) (Nat.le_of_ble_eq_true rfl) ?_
      exact vx_ret (W.iret (v := 1) hx hb hr (fun t ht hW => ⟨⟨1, (), rfl, Or.inl ⟨rfl, c_2⟩, by rw [ht]; exact hP9, hD9⟩, hS.F ht⟩) hS.2.2 dL_project_18)
    · have c_3 : 0 ≤ a0.toInt := e_0
      have c_4 : 6 ≤ a0.toInt := e_1
      refine vx_catch hown (tableOf []) ⟨0, 12, 15, 20⟩ (tableOf [(0, 12, 19, 13), (0, 12, 23, 15)]) (by rw [htab]; rfl) (xpass0) (by decide) (by decide) w_1 (va_Nw.use rfl hV.2.2.2.2.2.1.2.2) hq9 hcv hcl ?_
      have hP : va_P D vwCl [] H_1 := fun k q h => by simp at h
      have hD : va_D A [] := ⟨fun i j p q h => by simp at h, fun k q h => by simp at h⟩
      refine W.widen (k := 4) (n := 24) (Nat.le_of_ble_eq_true rfl) (Nat.le_of_ble_eq_true rfl) ?_
      refine lv_astore (lv' := [(5, .ref q9), (0, .ref x), (1, .int a0), (2, .int a1), (3, .int a2), (4, .ref ou)]) hx hb dL_project_15 hl (by decide) rfl (fun ls hl => ?_)
      refine lv_iconst (v := 1) hx hb dL_project_17 (by decide) ?_
      have hP9 := hP.sub (ws' := []) [] rfl
      have hD9 := hD.sub (ws' := []) [] (by decide) rfl
      refine W.widen (k := 4) (n := 24) (Nat.le_of_ble_eq_true rfl) (Nat.le_of_ble_eq_true rfl) ?_
      exact vx_ret (W.iret (v := 1) hx hb hr (fun t ht hW => ⟨⟨1, (), rfl, Or.inr (Or.inl ⟨rfl, c_3, c_4⟩), by rw [ht]; exact hP9, hD9⟩, hS.F ht⟩) hS.2.2 dL_project_18)
    · have c_5 : 0 ≤ a0.toInt := e_0
      have c_6 : a0.toInt < 6 := e_1
      have c_7 : a2.toInt < 0 := e_2
      refine vx_catch hown (tableOf []) ⟨0, 12, 15, 20⟩ (tableOf [(0, 12, 19, 13), (0, 12, 23, 15)]) (by rw [htab]; rfl) (xpass0) (by decide) (by decide) w_1 (va_Nw.use rfl hV.2.2.2.2.2.1.2.2) hq9 hcv hcl ?_
      have hP : va_P D vwCl [] H_1 := fun k q h => by simp at h
      have hD : va_D A [] := ⟨fun i j p q h => by simp at h, fun k q h => by simp at h⟩
      refine W.widen (k := 4) (n := 24) (Nat.le_of_ble_eq_true rfl) (Nat.le_of_ble_eq_true rfl) ?_
      refine lv_astore (lv' := [(5, .ref q9), (0, .ref x), (1, .int a0), (2, .int a1), (3, .int a2), (4, .ref ou)]) hx hb dL_project_15 hl (by decide) rfl (fun ls hl => ?_)
      refine lv_iconst (v := 1) hx hb dL_project_17 (by decide) ?_
      have hP9 := hP.sub (ws' := []) [] rfl
      have hD9 := hD.sub (ws' := []) [] (by decide) rfl
      refine W.widen (k := 4) (n := 24) (Nat.le_of_ble_eq_true rfl) (Nat.le_of_ble_eq_true rfl) ?_
      exact vx_ret (W.iret (v := 1) hx hb hr (fun t ht hW => ⟨⟨1, (), rfl, Or.inr (Or.inr (Or.inl ⟨rfl, c_5, c_6, c_7⟩)), by rw [ht]; exact hP9, hD9⟩, hS.F ht⟩) hS.2.2 dL_project_18)
    · have c_8 : 0 ≤ a0.toInt := e_0
      have c_9 : a0.toInt < 6 := e_1
      have c_10 : 0 ≤ a2.toInt := e_2
      have c_11 : 6 ≤ a2.toInt := e_3
      refine vx_catch hown (tableOf []) ⟨0, 12, 15, 20⟩ (tableOf [(0, 12, 19, 13), (0, 12, 23, 15)]) (by rw [htab]; rfl) (xpass0) (by decide) (by decide) w_1 (va_Nw.use rfl hV.2.2.2.2.2.1.2.2) hq9 hcv hcl ?_
      have hP : va_P D vwCl [] H_1 := fun k q h => by simp at h
      have hD : va_D A [] := ⟨fun i j p q h => by simp at h, fun k q h => by simp at h⟩
      refine W.widen (k := 4) (n := 24) (Nat.le_of_ble_eq_true rfl) (Nat.le_of_ble_eq_true rfl) ?_
      refine lv_astore (lv' := [(5, .ref q9), (0, .ref x), (1, .int a0), (2, .int a1), (3, .int a2), (4, .ref ou)]) hx hb dL_project_15 hl (by decide) rfl (fun ls hl => ?_)
      refine lv_iconst (v := 1) hx hb dL_project_17 (by decide) ?_
      have hP9 := hP.sub (ws' := []) [] rfl
      have hD9 := hD.sub (ws' := []) [] (by decide) rfl
      refine W.widen (k := 4) (n := 24) (Nat.le_of_ble_eq_true rfl) (Nat.le_of_ble_eq_true rfl) ?_
      exact vx_ret (W.iret (v := 1) hx hb hr (fun t ht hW => ⟨⟨1, (), rfl, Or.inr (Or.inr (Or.inr (Or.inl ⟨rfl, c_8, c_9, c_10, c_11⟩))), by rw [ht]; exact hP9, hD9⟩, hS.F ht⟩) hS.2.2 dL_project_18)
    · have c_12 : 0 ≤ a0.toInt := e_0
      have c_13 : a0.toInt < 6 := e_1
      have c_14 : 0 ≤ a2.toInt := e_2
      have c_15 : a2.toInt < 6 := e_3
      have c_16 : a1.toInt < 0 := e_4
      refine vx_catch hown (tableOf [(0, 12, 15, 20)]) ⟨0, 12, 19, 13⟩ (tableOf [(0, 12, 23, 15)]) (by rw [htab]; rfl) (xpass1 (Or.inr ⟨by decide, iob, w_1, hV.2.2.2.2.2.2.1.2.2⟩)) (by decide) (by decide) w_2 (va_Nw.use rfl hV.2.2.2.2.2.1.1) hq9 hcv hcl ?_
      have hP : va_P D vwCl [] H_1 := fun k q h => by simp at h
      have hD : va_D A [] := ⟨fun i j p q h => by simp at h, fun k q h => by simp at h⟩
      refine W.widen (k := 4) (n := 24) (Nat.le_of_ble_eq_true rfl) (Nat.le_of_ble_eq_true rfl) ?_
      refine lv_astore (lv' := [(5, .ref q9), (0, .ref x), (1, .int a0), (2, .int a1), (3, .int a2), (4, .ref ou)]) hx hb dL_project_19 hl (by decide) rfl (fun ls hl => ?_)
      refine lv_iconst (v := 2) hx hb dL_project_21 (by decide) ?_
      have hP9 := hP.sub (ws' := []) [] rfl
      have hD9 := hD.sub (ws' := []) [] (by decide) rfl
      refine W.widen (k := 4) (n := 24) (Nat.le_of_ble_eq_true rfl) (Nat.le_of_ble_eq_true rfl) ?_
      exact vx_ret (W.iret (v := 2) hx hb hr (fun t ht hW => ⟨⟨2, (), rfl, Or.inr (Or.inr (Or.inr (Or.inr (Or.inl ⟨rfl, c_12, c_13, c_14, c_15, c_16⟩)))), by rw [ht]; exact hP9, hD9⟩, hS.F ht⟩) hS.2.2 dL_project_22)
    · have c_17 : 0 ≤ a0.toInt := e_0
      have c_18 : a0.toInt < 6 := e_1
      have c_19 : 0 ≤ a2.toInt := e_2
      have c_20 : a2.toInt < 6 := e_3
      have c_21 : 0 ≤ a1.toInt := e_4
      have c_22 : a1.toInt < 8 := e_5
      have c_23 : 0 ≤ a0.toInt := e_6
      have c_24 : a0.toInt < 6 := e_7
      refine vx_catch hown (tableOf [(0, 12, 15, 20), (0, 12, 19, 13)]) ⟨0, 12, 23, 15⟩ (tableOf []) (by rw [htab]; rfl) (xpass2 (Or.inr ⟨by decide, iob, w_1, hV.2.2.2.2.2.2.1.1⟩) (Or.inr ⟨by decide, iae, w_2, hV.2.2.2.2.2.2.1.2.1⟩)) (by decide) (by decide) w_3 (va_Nw.use rfl hV.2.2.2.2.2.1.2.1) hq9 hcv hcl ?_
      have hP : va_P D vwCl [] H_1 := fun k q h => by simp at h
      have hD : va_D A [] := ⟨fun i j p q h => by simp at h, fun k q h => by simp at h⟩
      refine W.widen (k := 4) (n := 24) (Nat.le_of_ble_eq_true rfl) (Nat.le_of_ble_eq_true rfl) ?_
      refine lv_astore (lv' := [(5, .ref q9), (0, .ref x), (1, .int a0), (2, .int a1), (3, .int a2), (4, .ref ou)]) hx hb dL_project_23 hl (by decide) rfl (fun ls hl => ?_)
      refine lv_iconst (v := 3) hx hb dL_project_25 (by decide) ?_
      have hP9 := hP.sub (ws' := []) [] rfl
      have hD9 := hD.sub (ws' := []) [] (by decide) rfl
      refine W.widen (k := 4) (n := 24) (Nat.le_of_ble_eq_true rfl) (Nat.le_of_ble_eq_true rfl) ?_
      exact vx_ret (W.iret (v := 3) hx hb hr (fun t ht hW => ⟨⟨3, (), rfl, Or.inr (Or.inr (Or.inr (Or.inr (Or.inr (Or.inl ⟨rfl, c_17, c_18, c_19, c_20, c_21, c_22, c_23, c_24⟩))))), by rw [ht]; exact hP9, hD9⟩, hS.F ht⟩) hS.2.2 dL_project_26)
    · have c_25 : 0 ≤ a0.toInt := e_0
      have c_26 : a0.toInt < 6 := e_1
      have c_27 : 0 ≤ a2.toInt := e_2
      have c_28 : a2.toInt < 6 := e_3
      have c_29 : 0 ≤ a1.toInt := e_4
      have c_30 : 8 ≤ a1.toInt := e_5
      refine vx_catch hown (tableOf [(0, 12, 15, 20)]) ⟨0, 12, 19, 13⟩ (tableOf [(0, 12, 23, 15)]) (by rw [htab]; rfl) (xpass1 (Or.inr ⟨by decide, iob, w_1, hV.2.2.2.2.2.2.1.2.2⟩)) (by decide) (by decide) w_2 (va_Nw.use rfl hV.2.2.2.2.2.1.1) hq9 hcv hcl ?_
      have hP : va_P D vwCl [] H_1 := fun k q h => by simp at h
      have hD : va_D A [] := ⟨fun i j p q h => by simp at h, fun k q h => by simp at h⟩
      refine W.widen (k := 4) (n := 24) (Nat.le_of_ble_eq_true rfl) (Nat.le_of_ble_eq_true rfl) ?_
      refine lv_astore (lv' := [(5, .ref q9), (0, .ref x), (1, .int a0), (2, .int a1), (3, .int a2), (4, .ref ou)]) hx hb dL_project_19 hl (by decide) rfl (fun ls hl => ?_)
      refine lv_iconst (v := 2) hx hb dL_project_21 (by decide) ?_
      have hP9 := hP.sub (ws' := []) [] rfl
      have hD9 := hD.sub (ws' := []) [] (by decide) rfl
      refine W.widen (k := 4) (n := 24) (Nat.le_of_ble_eq_true rfl) (Nat.le_of_ble_eq_true rfl) ?_
      exact vx_ret (W.iret (v := 2) hx hb hr (fun t ht hW => ⟨⟨2, (), rfl, Or.inr (Or.inr (Or.inr (Or.inr (Or.inr (Or.inr ⟨rfl, c_25, c_26, c_27, c_28, c_29, c_30⟩))))), by rw [ht]; exact hP9, hD9⟩, hS.F ht⟩) hS.2.2 dL_project_22)
  · exact hw.elim
set_option maxHeartbeats 4000000 in
set_option maxRecDepth 100000 in
theorem k_L_exchange (l : Launch) (htr : l.stackTraces = false) (D : va_G) (cI cJ cZ : ClassId) (x : Nat) (st : Nat) (kp : Nat) (bf : Nat) (o1 : Nat) (o2 : Nat) (o3 : Nat) (o4 : Nat) (o5 : Nat) (o6 : Nat) (lt : Nat) (tb : Nat) (fl : Nat) (wt : Nat) (ou : Nat) (a0 : Int32) (a1 : Int32) (a2 : Int32) (a3 : Int32) (sz : Nat) : vx_Met l yL_exchange wsL_exchange ({ frames := 9, cells := 6, slots := 36, locals := 151 }) (xPc D cI cJ cZ [.ref x, .int a0, .int a1, .int a2, .int a3, .ref ou] [(x, .inr (9, [.ref st, .ref kp, .int 0, .ref bf, .int 0, .int (-1), .int (-1), .int 0, .ref o1, .ref o2, .ref o3, .ref o4, .ref o5, .ref o6])), (st, .inr (8, [.ref lt, .ref tb, .ref fl, .ref wt, .int 0, .null])), (fl, .inl (cZ, 6, .inl (fun _ => 0))), (ou, .inl (cJ, 1, .inr (.inl (fun _ => 0))))] sz) (va_Qi (fun (r : Int32) (u : Unit) => (r = 1 ∧ a0.toInt < 0) ∨ (r = 1 ∧ 0 ≤ a0.toInt ∧ 6 ≤ a0.toInt) ∨ (r = 1 ∧ 0 ≤ a0.toInt ∧ a0.toInt < 6 ∧ a3.toInt < 0) ∨ (r = 1 ∧ 0 ≤ a0.toInt ∧ a0.toInt < 6 ∧ 0 ≤ a3.toInt ∧ 6 ≤ a3.toInt) ∨ (r = 1 ∧ 0 ≤ a0.toInt ∧ a0.toInt < 6 ∧ 0 ≤ a3.toInt ∧ a3.toInt < 6 ∧ a1.toInt < 0) ∨ (r = 1 ∧ 0 ≤ a0.toInt ∧ a0.toInt < 6 ∧ 0 ≤ a3.toInt ∧ a3.toInt < 6 ∧ 0 ≤ a1.toInt ∧ 3 ≤ a1.toInt) ∨ (r = 1 ∧ 0 ≤ a0.toInt ∧ a0.toInt < 6 ∧ 0 ≤ a3.toInt ∧ a3.toInt < 6 ∧ 0 ≤ a1.toInt ∧ a1.toInt < 3 ∧ a2.toInt < 0) ∨ (r = 1 ∧ 0 ≤ a0.toInt ∧ a0.toInt < 6 ∧ 0 ≤ a3.toInt ∧ a3.toInt < 6 ∧ 0 ≤ a1.toInt ∧ a1.toInt < 3 ∧ 0 ≤ a2.toInt ∧ 3 ≤ a2.toInt) ∨ (r = 2 ∧ 0 ≤ a0.toInt ∧ a0.toInt < 6 ∧ 0 ≤ a3.toInt ∧ a3.toInt < 6 ∧ 0 ≤ a1.toInt ∧ a1.toInt < 3 ∧ 0 ≤ a2.toInt ∧ a2.toInt < 3 ∧ 0 ≤ a0.toInt ∧ a0.toInt < 6)) (fun (u : Unit) (t : State) => va_P D vwCl ([] : va_W) t.heap ∧ va_D (va_A [(x, .inr (9, [.ref st, .ref kp, .int 0, .ref bf, .int 0, .int (-1), .int (-1), .int 0, .ref o1, .ref o2, .ref o3, .ref o4, .ref o5, .ref o6])), (st, .inr (8, [.ref lt, .ref tb, .ref fl, .ref wt, .int 0, .null])), (fl, .inl (cZ, 6, .inl (fun _ => 0))), (ou, .inl (cJ, 1, .inr (.inl (fun _ => 0))))] sz) ([] : va_W)) (va_A [(x, .inr (9, [.ref st, .ref kp, .int 0, .ref bf, .int 0, .int (-1), .int (-1), .int 0, .ref o1, .ref o2, .ref o3, .ref o4, .ref o5, .ref o6])), (st, .inr (8, [.ref lt, .ref tb, .ref fl, .ref wt, .int 0, .null])), (fl, .inl (cZ, 6, .inl (fun _ => 0))), (ou, .inl (cJ, 1, .inr (.inl (fun _ => 0))))] sz)) (vx_X (fun _ : Unit => True) (fun (E : String) (_ : Unit) (_ : State) => False) (va_A [(x, .inr (9, [.ref st, .ref kp, .int 0, .ref bf, .int 0, .int (-1), .int (-1), .int 0, .ref o1, .ref o2, .ref o3, .ref o4, .ref o5, .ref o6])), (st, .inr (8, [.ref lt, .ref tb, .ref fl, .ref wt, .int 0, .null])), (fl, .inl (cZ, 6, .inl (fun _ => 0))), (ou, .inl (cJ, 1, .inr (.inl (fun _ => 0))))] sz)) 6 36 (va_A [(x, .inr (9, [.ref st, .ref kp, .int 0, .ref bf, .int 0, .int (-1), .int (-1), .int 0, .ref o1, .ref o2, .ref o3, .ref o4, .ref o5, .ref o6])), (st, .inr (8, [.ref lt, .ref tb, .ref fl, .ref wt, .int 0, .null])), (fl, .inl (cZ, 6, .inl (fun _ => 0))), (ou, .inl (cJ, 1, .inr (.inl (fun _ => 0))))] sz) := by
  refine vx_ofWH (cc := cL_exchange) (maxL := 7) (ret := (some .int)) (by decide) rfl ?_
  intro p e s m args below meth c s₁ B hml hv
  obtain ⟨rfl, hsz, hP, hK, hD0, hE, hV⟩ := hv
  have hx := B.exec
  have hb := B.bytes
  have hr := B.returns
  have hts := atoms_spec (ws := wsL_exchange) B.pre
  have hown : s.vm.findClass RL = some m.cls := findClass_of_methodNamed B.named
  have hlocks := B.notSynchronized
  have htab : c.exceptionTable.toList = tableOf [(0, 14, 17, 20), (0, 14, 21, 15)] := vx_table (x := yL_exchange) B (hts _ List.mem_cons_self)
  have w_1 := hts (.classLink RL 20 iob) (by decide +kernel)
  have w_2 := hts (.classLink RL 15 ise) (by decide +kernel)
  subst hsz
  have hD := hD0.self (sz := s.heap.size)
  generalize hAe : va_A [(x, .inr (9, [.ref st, .ref kp, .int 0, .ref bf, .int 0, .int (-1), .int (-1), .int 0, .ref o1, .ref o2, .ref o3, .ref o4, .ref o5, .ref o6])), (st, .inr (8, [.ref lt, .ref tb, .ref fl, .ref wt, .int 0, .null])), (fl, .inl (cZ, 6, .inl (fun _ => 0))), (ou, .inl (cJ, 1, .inr (.inl (fun _ => 0))))] s.heap.size = A at hD hE ⊢
  have hA : ∀ q : Nat, s.heap.size ≤ q → A q := fun q h => by rw [← hAe]; exact Or.inr h
  have hS : va_S A s.heap s.heap [] := va_S.rf
  have hP : va_P D vwCl [(x, .inr (9, [.ref st, .ref kp, .int 0, .ref bf, .int 0, .int (-1), .int (-1), .int 0, .ref o1, .ref o2, .ref o3, .ref o4, .ref o5, .ref o6])), (st, .inr (8, [.ref lt, .ref tb, .ref fl, .ref wt, .int 0, .null])), (fl, .inl (cZ, 6, .inl (fun _ => 0))), (ou, .inl (cJ, 1, .inr (.inl (fun _ => 0))))] s.heap := hP
  have hl := lv_entry ([.ref x, .int a0, .int a1, .int a2, .int a3, .ref ou]) (n := 7) (Nat.le_of_ble_eq_true rfl)
  rw [lg_entry_eq]
  generalize (lg_sl ([.ref x, .int a0, .int a1, .int a2, .int a3, .ref ou]) ++ List.replicate (7 - (lg_sl ([.ref x, .int a0, .int a1, .int a2, .int a3, .ref ou])).length) Slot.unset).toArray = ls at hl ⊢
  have hl : lv_has ls 7 [(0, .ref x), (1, .int a0), (2, .int a1), (3, .int a2), (4, .int a3), (5, .ref ou)] := hl
  refine lv_aload hx hb dL_exchange_0 (lv_at hl 5 rfl) ?_
  refine lv_iconst (v := 0) hx hb dL_exchange_2 (by decide) ?_
  refine lv_aload_n hx hb dL_exchange_3 rfl (lv_at hl 0 rfl) ?_
  refine lv_iload_n hx hb dL_exchange_4 rfl (lv_at hl 1 rfl) ?_
  refine lv_iload_n hx hb dL_exchange_5 rfl (lv_at hl 2 rfl) ?_
  refine lv_iload_n hx hb dL_exchange_6 rfl (lv_at hl 3 rfl) ?_
  refine lv_iload hx hb dL_exchange_7 (lv_at hl 4 rfl) ?_
  have hPc := hP.sub (ws' := [(x, .inr (9, [.ref st, .ref kp, .int 0, .ref bf, .int 0, .int (-1), .int (-1), .int 0, .ref o1, .ref o2, .ref o3, .ref o4, .ref o5, .ref o6])), (st, .inr (8, [.ref lt, .ref tb, .ref fl, .ref wt, .int 0, .null])), (fl, .inl (cZ, 6, .inl (fun _ => 0)))]) [0, 1, 2] rfl
  have hDc := hD.sub (ws' := [(x, .inr (9, [.ref st, .ref kp, .int 0, .ref bf, .int 0, .int (-1), .int (-1), .int 0, .ref o1, .ref o2, .ref o3, .ref o4, .ref o5, .ref o6])), (st, .inr (8, [.ref lt, .ref tb, .ref fl, .ref wt, .int 0, .null])), (fl, .inl (cZ, 6, .inl (fun _ => 0)))]) [0, 1, 2] (by decide) rfl
  have hFc := va_free (wc := [(x, .inr (9, [.ref st, .ref kp, .int 0, .ref bf, .int 0, .int (-1), .int (-1), .int 0, .ref o1, .ref o2, .ref o3, .ref o4, .ref o5, .ref o6])), (st, .inr (8, [.ref lt, .ref tb, .ref fl, .ref wt, .int 0, .null])), (fl, .inl (cZ, 6, .inl (fun _ => 0)))]) hD hS hA [0, 1, 2] rfl
  refine vx_calli (vx_runV (As := [.int a0, .int a1, .int a2, .int a3]) (rest := [.int 0, .ref ou]) ⟨hx, hb, hml, hown, hts⟩ (k_X10_exchange l htr D cI cJ cZ x st kp bf o1 o2 o3 o4 o5 o6 lt tb fl wt a0 a1 a2 a3 s.heap.size) (cwV 4 hts gL_exchange_X10_exchange rfl rfl rfl (by decide +kernel) ⟨Nat.le_of_ble_eq_true rfl, Nat.le_of_ble_eq_true rfl⟩) ⟨xPc_blind, va_recv hK hP (ci := 9) (q0 := 0) rfl rfl, xPc_pre hPc hK hDc hE hS hFc hV⟩ rfl rfl hl.1 rfl (lv_room (Nat.le_of_ble_eq_true rfl)) dL_exchange_9 ⟨Nat.le_of_ble_eq_true rfl, Nat.le_of_ble_eq_true rfl⟩) hS (fun q _ h => hFc q h) hFc (fun q _ h => hFc q h) (fun E ce q9 u t H_1 locs ht hvm hpx hBX hz1 hk1 hS hq9 hcv hcl => ?_) (fun r u t H_1 locs ht hvm hw hB hz1 hk1 hS => ?_)
  · rcases hBX with ⟨rfl, e_0⟩ | ⟨rfl, e_0, e_1⟩ | ⟨rfl, e_0, e_1, e_2⟩ | ⟨rfl, e_0, e_1, e_2, e_3⟩ | ⟨rfl, e_0, e_1, e_2, e_3, e_4⟩ | ⟨rfl, e_0, e_1, e_2, e_3, e_4, e_5⟩ | ⟨rfl, e_0, e_1, e_2, e_3, e_4, e_5, e_6⟩ | ⟨rfl, e_0, e_1, e_2, e_3, e_4, e_5, e_6, e_7⟩ | ⟨rfl, e_0, e_1, e_2, e_3, e_4, e_5, e_6, e_7, e_8, e_9⟩
    · have c_2 : a0.toInt < 0 := e_0
      refine vx_catch hown (tableOf []) ⟨0, 14, 17, 20⟩ (tableOf [(0, 14, 21, 15)]) (by rw [htab]; rfl) (xpass0) (by decide) (by decide) w_1 (va_Nw.use rfl hV.2.2.2.2.2.1.2.2) hq9 hcv hcl ?_
      have hP : va_P D vwCl [] H_1 := fun k q h => by simp at h
      have hD : va_D A [] := ⟨fun i j p q h => by simp at h, fun k q h => by simp at h⟩
      refine W.widen (k := 6) (n := 36) (Nat.le_of_ble_eq_true rfl) (Nat.le_of_ble_eq_true rfl) ?_
      refine lv_astore (lv' := [(6, .ref q9), (0, .ref x), (1, .int a0), (2, .int a1), (3, .int a2), (4, .int a3), (5, .ref ou)]) hx hb dL_exchange_17 hl (by decide) rfl (fun ls hl => ?_)
      refine lv_iconst (v := 1) hx hb dL_exchange_19 (by decide) ?_
      have hP9 := hP.sub (ws' := []) [] rfl
      have hD9 := hD.sub (ws' := []) [] (by decide) rfl
      refine W.widen (k := 6) (n := 36) (Nat.le_of_ble_eq_true rfl) (Nat.le_of_ble_eq_true rfl) ?_
      exact vx_ret (W.iret (v := 1) hx hb hr (fun t ht hW => ⟨⟨1, (), rfl, Or.inl ⟨rfl, c_2⟩, by rw [ht]; exact hP9, hD9⟩, hS.F ht⟩) hS.2.2 dL_exchange_20)
    · have c_3 : 0 ≤ a0.toInt := e_0
      have c_4 : 6 ≤ a0.toInt := e_1
      refine vx_catch hown (tableOf []) ⟨0, 14, 17, 20⟩ (tableOf [(0, 14, 21, 15)]) (by rw [htab]; rfl) (xpass0) (by decide) (by decide) w_1 (va_Nw.use rfl hV.2.2.2.2.2.1.2.2) hq9 hcv hcl ?_
      have hP : va_P D vwCl [] H_1 := fun k q h => by simp at h
      have hD : va_D A [] := ⟨fun i j p q h => by simp at h, fun k q h => by simp at h⟩
      refine W.widen (k := 6) (n := 36) (Nat.le_of_ble_eq_true rfl) (Nat.le_of_ble_eq_true rfl) ?_
      refine lv_astore (lv' := [(6, .ref q9), (0, .ref x), (1, .int a0), (2, .int a1), (3, .int a2), (4, .int a3), (5, .ref ou)]) hx hb dL_exchange_17 hl (by decide) rfl (fun ls hl => ?_)
      refine lv_iconst (v := 1) hx hb dL_exchange_19 (by decide) ?_
      have hP9 := hP.sub (ws' := []) [] rfl
      have hD9 := hD.sub (ws' := []) [] (by decide) rfl
      refine W.widen (k := 6) (n := 36) (Nat.le_of_ble_eq_true rfl) (Nat.le_of_ble_eq_true rfl) ?_
      exact vx_ret (W.iret (v := 1) hx hb hr (fun t ht hW => ⟨⟨1, (), rfl, Or.inr (Or.inl ⟨rfl, c_3, c_4⟩), by rw [ht]; exact hP9, hD9⟩, hS.F ht⟩) hS.2.2 dL_exchange_20)
    · have c_5 : 0 ≤ a0.toInt := e_0
      have c_6 : a0.toInt < 6 := e_1
      have c_7 : a3.toInt < 0 := e_2
      refine vx_catch hown (tableOf []) ⟨0, 14, 17, 20⟩ (tableOf [(0, 14, 21, 15)]) (by rw [htab]; rfl) (xpass0) (by decide) (by decide) w_1 (va_Nw.use rfl hV.2.2.2.2.2.1.2.2) hq9 hcv hcl ?_
      have hP : va_P D vwCl [] H_1 := fun k q h => by simp at h
      have hD : va_D A [] := ⟨fun i j p q h => by simp at h, fun k q h => by simp at h⟩
      refine W.widen (k := 6) (n := 36) (Nat.le_of_ble_eq_true rfl) (Nat.le_of_ble_eq_true rfl) ?_
      refine lv_astore (lv' := [(6, .ref q9), (0, .ref x), (1, .int a0), (2, .int a1), (3, .int a2), (4, .int a3), (5, .ref ou)]) hx hb dL_exchange_17 hl (by decide) rfl (fun ls hl => ?_)
      refine lv_iconst (v := 1) hx hb dL_exchange_19 (by decide) ?_
      have hP9 := hP.sub (ws' := []) [] rfl
      have hD9 := hD.sub (ws' := []) [] (by decide) rfl
      refine W.widen (k := 6) (n := 36) (Nat.le_of_ble_eq_true rfl) (Nat.le_of_ble_eq_true rfl) ?_
      exact vx_ret (W.iret (v := 1) hx hb hr (fun t ht hW => ⟨⟨1, (), rfl, Or.inr (Or.inr (Or.inl ⟨rfl, c_5, c_6, c_7⟩)), by rw [ht]; exact hP9, hD9⟩, hS.F ht⟩) hS.2.2 dL_exchange_20)
    · have c_8 : 0 ≤ a0.toInt := e_0
      have c_9 : a0.toInt < 6 := e_1
      have c_10 : 0 ≤ a3.toInt := e_2
      have c_11 : 6 ≤ a3.toInt := e_3
      refine vx_catch hown (tableOf []) ⟨0, 14, 17, 20⟩ (tableOf [(0, 14, 21, 15)]) (by rw [htab]; rfl) (xpass0) (by decide) (by decide) w_1 (va_Nw.use rfl hV.2.2.2.2.2.1.2.2) hq9 hcv hcl ?_
      have hP : va_P D vwCl [] H_1 := fun k q h => by simp at h
      have hD : va_D A [] := ⟨fun i j p q h => by simp at h, fun k q h => by simp at h⟩
      refine W.widen (k := 6) (n := 36) (Nat.le_of_ble_eq_true rfl) (Nat.le_of_ble_eq_true rfl) ?_
      refine lv_astore (lv' := [(6, .ref q9), (0, .ref x), (1, .int a0), (2, .int a1), (3, .int a2), (4, .int a3), (5, .ref ou)]) hx hb dL_exchange_17 hl (by decide) rfl (fun ls hl => ?_)
      refine lv_iconst (v := 1) hx hb dL_exchange_19 (by decide) ?_
      have hP9 := hP.sub (ws' := []) [] rfl
      have hD9 := hD.sub (ws' := []) [] (by decide) rfl
      refine W.widen (k := 6) (n := 36) (Nat.le_of_ble_eq_true rfl) (Nat.le_of_ble_eq_true rfl) ?_
      exact vx_ret (W.iret (v := 1) hx hb hr (fun t ht hW => ⟨⟨1, (), rfl, Or.inr (Or.inr (Or.inr (Or.inl ⟨rfl, c_8, c_9, c_10, c_11⟩))), by rw [ht]; exact hP9, hD9⟩, hS.F ht⟩) hS.2.2 dL_exchange_20)
    · have c_12 : 0 ≤ a0.toInt := e_0
      have c_13 : a0.toInt < 6 := e_1
      have c_14 : 0 ≤ a3.toInt := e_2
      have c_15 : a3.toInt < 6 := e_3
      have c_16 : a1.toInt < 0 := e_4
      refine vx_catch hown (tableOf []) ⟨0, 14, 17, 20⟩ (tableOf [(0, 14, 21, 15)]) (by rw [htab]; rfl) (xpass0) (by decide) (by decide) w_1 (va_Nw.use rfl hV.2.2.2.2.2.1.2.2) hq9 hcv hcl ?_
      have hP : va_P D vwCl [] H_1 := fun k q h => by simp at h
      have hD : va_D A [] := ⟨fun i j p q h => by simp at h, fun k q h => by simp at h⟩
      refine W.widen (k := 6) (n := 36) (Nat.le_of_ble_eq_true rfl) (Nat.le_of_ble_eq_true rfl) ?_
      refine lv_astore (lv' := [(6, .ref q9), (0, .ref x), (1, .int a0), (2, .int a1), (3, .int a2), (4, .int a3), (5, .ref ou)]) hx hb dL_exchange_17 hl (by decide) rfl (fun ls hl => ?_)
      refine lv_iconst (v := 1) hx hb dL_exchange_19 (by decide) ?_
      have hP9 := hP.sub (ws' := []) [] rfl
      have hD9 := hD.sub (ws' := []) [] (by decide) rfl
      refine W.widen (k := 6) (n := 36) (Nat.le_of_ble_eq_true rfl) (Nat.le_of_ble_eq_true rfl) ?_
      exact vx_ret (W.iret (v := 1) hx hb hr (fun t ht hW => ⟨⟨1, (), rfl, Or.inr (Or.inr (Or.inr (Or.inr (Or.inl ⟨rfl, c_12, c_13, c_14, c_15, c_16⟩)))), by rw [ht]; exact hP9, hD9⟩, hS.F ht⟩) hS.2.2 dL_exchange_20)
    · have c_17 : 0 ≤ a0.toInt := e_0
      have c_18 : a0.toInt < 6 := e_1
      have c_19 : 0 ≤ a3.toInt := e_2
      have c_20 : a3.toInt < 6 := e_3
      have c_21 : 0 ≤ a1.toInt := e_4
      have c_22 : 3 ≤ a1.toInt := e_5
      refine vx_catch hown (tableOf []) ⟨0, 14, 17, 20⟩ (tableOf [(0, 14, 21, 15)]) (by rw [htab]; rfl) (xpass0) (by decide) (by decide) w_1 (va_Nw.use rfl hV.2.2.2.2.2.1.2.2) hq9 hcv hcl ?_
      have hP : va_P D vwCl [] H_1 := fun k q h => by simp at h
      have hD : va_D A [] := ⟨fun i j p q h => by simp at h, fun k q h => by simp at h⟩
      refine W.widen (k := 6) (n := 36) (Nat.le_of_ble_eq_true rfl) (Nat.le_of_ble_eq_true rfl) ?_
      refine lv_astore (lv' := [(6, .ref q9), (0, .ref x), (1, .int a0), (2, .int a1), (3, .int a2), (4, .int a3), (5, .ref ou)]) hx hb dL_exchange_17 hl (by decide) rfl (fun ls hl => ?_)
      refine lv_iconst (v := 1) hx hb dL_exchange_19 (by decide) ?_
      have hP9 := hP.sub (ws' := []) [] rfl
      have hD9 := hD.sub (ws' := []) [] (by decide) rfl
      refine W.widen (k := 6) (n := 36) (Nat.le_of_ble_eq_true rfl) (Nat.le_of_ble_eq_true rfl) ?_
      exact vx_ret (W.iret (v := 1) hx hb hr (fun t ht hW => ⟨⟨1, (), rfl, Or.inr (Or.inr (Or.inr (Or.inr (Or.inr (Or.inl ⟨rfl, c_17, c_18, c_19, c_20, c_21, c_22⟩))))), by rw [ht]; exact hP9, hD9⟩, hS.F ht⟩) hS.2.2 dL_exchange_20)
    · have c_23 : 0 ≤ a0.toInt := e_0
      have c_24 : a0.toInt < 6 := e_1
      have c_25 : 0 ≤ a3.toInt := e_2
      have c_26 : a3.toInt < 6 := e_3
      have c_27 : 0 ≤ a1.toInt := e_4
      have c_28 : a1.toInt < 3 := e_5
      have c_29 : a2.toInt < 0 := e_6
      refine vx_catch hown (tableOf []) ⟨0, 14, 17, 20⟩ (tableOf [(0, 14, 21, 15)]) (by rw [htab]; rfl) (xpass0) (by decide) (by decide) w_1 (va_Nw.use rfl hV.2.2.2.2.2.1.2.2) hq9 hcv hcl ?_
      have hP : va_P D vwCl [] H_1 := fun k q h => by simp at h
      have hD : va_D A [] := ⟨fun i j p q h => by simp at h, fun k q h => by simp at h⟩
      refine W.widen (k := 6) (n := 36) (Nat.le_of_ble_eq_true rfl) (Nat.le_of_ble_eq_true rfl) ?_
      refine lv_astore (lv' := [(6, .ref q9), (0, .ref x), (1, .int a0), (2, .int a1), (3, .int a2), (4, .int a3), (5, .ref ou)]) hx hb dL_exchange_17 hl (by decide) rfl (fun ls hl => ?_)
      refine lv_iconst (v := 1) hx hb dL_exchange_19 (by decide) ?_
      have hP9 := hP.sub (ws' := []) [] rfl
      have hD9 := hD.sub (ws' := []) [] (by decide) rfl
      refine W.widen (k := 6) (n := 36) (Nat.le_of_ble_eq_true rfl) (Nat.le_of_ble_eq_true rfl) ?_
      exact vx_ret (W.iret (v := 1) hx hb hr (fun t ht hW => ⟨⟨1, (), rfl, Or.inr (Or.inr (Or.inr (Or.inr (Or.inr (Or.inr (Or.inl ⟨rfl, c_23, c_24, c_25, c_26, c_27, c_28, c_29⟩)))))), by rw [ht]; exact hP9, hD9⟩, hS.F ht⟩) hS.2.2 dL_exchange_20)
    · have c_30 : 0 ≤ a0.toInt := e_0
      have c_31 : a0.toInt < 6 := e_1
      have c_32 : 0 ≤ a3.toInt := e_2
      have c_33 : a3.toInt < 6 := e_3
      have c_34 : 0 ≤ a1.toInt := e_4
      have c_35 : a1.toInt < 3 := e_5
      have c_36 : 0 ≤ a2.toInt := e_6
      have c_37 : 3 ≤ a2.toInt := e_7
      refine vx_catch hown (tableOf []) ⟨0, 14, 17, 20⟩ (tableOf [(0, 14, 21, 15)]) (by rw [htab]; rfl) (xpass0) (by decide) (by decide) w_1 (va_Nw.use rfl hV.2.2.2.2.2.1.2.2) hq9 hcv hcl ?_
      have hP : va_P D vwCl [] H_1 := fun k q h => by simp at h
      have hD : va_D A [] := ⟨fun i j p q h => by simp at h, fun k q h => by simp at h⟩
      refine W.widen (k := 6) (n := 36) (Nat.le_of_ble_eq_true rfl) (Nat.le_of_ble_eq_true rfl) ?_
      refine lv_astore (lv' := [(6, .ref q9), (0, .ref x), (1, .int a0), (2, .int a1), (3, .int a2), (4, .int a3), (5, .ref ou)]) hx hb dL_exchange_17 hl (by decide) rfl (fun ls hl => ?_)
      refine lv_iconst (v := 1) hx hb dL_exchange_19 (by decide) ?_
      have hP9 := hP.sub (ws' := []) [] rfl
      have hD9 := hD.sub (ws' := []) [] (by decide) rfl
      refine W.widen (k := 6) (n := 36) (Nat.le_of_ble_eq_true rfl) (Nat.le_of_ble_eq_true rfl) ?_
      exact vx_ret (W.iret (v := 1) hx hb hr (fun t ht hW => ⟨⟨1, (), rfl, Or.inr (Or.inr (Or.inr (Or.inr (Or.inr (Or.inr (Or.inr (Or.inl ⟨rfl, c_30, c_31, c_32, c_33, c_34, c_35, c_36, c_37⟩))))))), by rw [ht]; exact hP9, hD9⟩, hS.F ht⟩) hS.2.2 dL_exchange_20)
    · have c_38 : 0 ≤ a0.toInt := e_0
      have c_39 : a0.toInt < 6 := e_1
      have c_40 : 0 ≤ a3.toInt := e_2
      have c_41 : a3.toInt < 6 := e_3
      have c_42 : 0 ≤ a1.toInt := e_4
      have c_43 : a1.toInt < 3 := e_5
      have c_44 : 0 ≤ a2.toInt := e_6
      have c_45 : a2.toInt < 3 := e_7
      have c_46 : 0 ≤ a0.toInt := e_8
      have c_47 : a0.toInt < 6 := e_9
      refine vx_catch hown (tableOf [(0, 14, 17, 20)]) ⟨0, 14, 21, 15⟩ (tableOf []) (by rw [htab]; rfl) (xpass1 (Or.inr ⟨by decide, iob, w_1, hV.2.2.2.2.2.2.1.1⟩)) (by decide) (by decide) w_2 (va_Nw.use rfl hV.2.2.2.2.2.1.2.1) hq9 hcv hcl ?_
      have hP : va_P D vwCl [] H_1 := fun k q h => by simp at h
      have hD : va_D A [] := ⟨fun i j p q h => by simp at h, fun k q h => by simp at h⟩
      refine W.widen (k := 6) (n := 36) (Nat.le_of_ble_eq_true rfl) (Nat.le_of_ble_eq_true rfl) ?_
      refine lv_astore (lv' := [(6, .ref q9), (0, .ref x), (1, .int a0), (2, .int a1), (3, .int a2), (4, .int a3), (5, .ref ou)]) hx hb dL_exchange_21 hl (by decide) rfl (fun ls hl => ?_)
      refine lv_iconst (v := 2) hx hb dL_exchange_23 (by decide) ?_
      have hP9 := hP.sub (ws' := []) [] rfl
      have hD9 := hD.sub (ws' := []) [] (by decide) rfl
      refine W.widen (k := 6) (n := 36) (Nat.le_of_ble_eq_true rfl) (Nat.le_of_ble_eq_true rfl) ?_
      exact vx_ret (W.iret (v := 2) hx hb hr (fun t ht hW => ⟨⟨2, (), rfl, Or.inr (Or.inr (Or.inr (Or.inr (Or.inr (Or.inr (Or.inr (Or.inr ⟨rfl, c_38, c_39, c_40, c_41, c_42, c_43, c_44, c_45, c_46, c_47⟩))))))), by rw [ht]; exact hP9, hD9⟩, hS.F ht⟩) hS.2.2 dL_exchange_24)
  · exact hw.elim
