def wk_X8_copyFrom : List Cond := .code yX8_copyFrom cX8_copyFrom 3 none :: (([.fieldLink RX8 9 "DocumentSpanner$State" "letters" "[I", .methodLink RX8 37 arraycopyName, .native arraycopyName, .static arraycopyName, .initialized "java/lang/System", .fieldLink RX8 25 "DocumentSpanner$State" "weights" "[I", .fieldLink RX8 28 "DocumentSpanner$State" "length" "I", .fieldLink RX8 32 "DocumentSpanner$State" "formula" "LDocumentSpanner$Formula;", .fieldLink RX8 21 "DocumentSpanner$State" "filled" "[Z"] : List Cond) ++ wsX80)
set_option maxHeartbeats 4000000 in
set_option maxRecDepth 100000 in
theorem k_X8_copyFrom (l : Launch) (htr : l.stackTraces = false) (D : va_G) (cI cJ cZ : ClassId) (kp : Nat) (st : Nat) (klt : Nat) (ktb : Nat) (kfl : Nat) (kwt : Nat) (lt : Nat) (tb : Nat) (fl : Nat) (wt : Nat) (sz : Nat) : Met l yX8_copyFrom wk_X8_copyFrom ({ frames := 1, cells := 0, slots := 0, locals := 60 }) (xPc D cI cJ cZ [.ref kp, .ref st] [(kp, .inr (8, [.ref klt, .ref ktb, .ref kfl, .ref kwt, .int 0, .null])), (st, .inr (8, [.ref lt, .ref tb, .ref fl, .ref wt, .int 0, .null])), (lt, .inl (cI, 8, .inl (fun _ => 0))), (klt, .inl (cI, 8, .inl (fun _ => 0))), (wt, .inl (cI, 3, .inl (fun _ => 1))), (kwt, .inl (cI, 3, .inl (fun _ => 1))), (fl, .inl (cZ, 6, .inl (fun _ => 0))), (kfl, .inl (cZ, 6, .inl (fun _ => 0)))] sz) (va_Qv (fun (u : Unit) => True) (fun (u : Unit) (t : State) => va_P D vwCl ([(st, .inr (8, [.ref lt, .ref tb, .ref fl, .ref wt, .int 0, .null])), (fl, .inl (cZ, 6, .inl (fun _ => 0)))] : va_W) t.heap ∧ va_D (va_A [(kp, .inr (8, [.ref klt, .ref ktb, .ref kfl, .ref kwt, .int 0, .null])), (st, .inr (8, [.ref lt, .ref tb, .ref fl, .ref wt, .int 0, .null])), (lt, .inl (cI, 8, .inl (fun _ => 0))), (klt, .inl (cI, 8, .inl (fun _ => 0))), (wt, .inl (cI, 3, .inl (fun _ => 1))), (kwt, .inl (cI, 3, .inl (fun _ => 1))), (fl, .inl (cZ, 6, .inl (fun _ => 0))), (kfl, .inl (cZ, 6, .inl (fun _ => 0)))] sz) ([(st, .inr (8, [.ref lt, .ref tb, .ref fl, .ref wt, .int 0, .null])), (fl, .inl (cZ, 6, .inl (fun _ => 0)))] : va_W)) (va_A [(kp, .inr (8, [.ref klt, .ref ktb, .ref kfl, .ref kwt, .int 0, .null])), (st, .inr (8, [.ref lt, .ref tb, .ref fl, .ref wt, .int 0, .null])), (lt, .inl (cI, 8, .inl (fun _ => 0))), (klt, .inl (cI, 8, .inl (fun _ => 0))), (wt, .inl (cI, 3, .inl (fun _ => 1))), (kwt, .inl (cI, 3, .inl (fun _ => 1))), (fl, .inl (cZ, 6, .inl (fun _ => 0))), (kfl, .inl (cZ, 6, .inl (fun _ => 0)))] sz)) 0 0 (va_A [(kp, .inr (8, [.ref klt, .ref ktb, .ref kfl, .ref kwt, .int 0, .null])), (st, .inr (8, [.ref lt, .ref tb, .ref fl, .ref wt, .int 0, .null])), (lt, .inl (cI, 8, .inl (fun _ => 0))), (klt, .inl (cI, 8, .inl (fun _ => 0))), (wt, .inl (cI, 3, .inl (fun _ => 1))), (kwt, .inl (cI, 3, .inl (fun _ => 1))), (fl, .inl (cZ, 6, .inl (fun _ => 0))), (kfl, .inl (cZ, 6, .inl (fun _ => 0)))] sz) := by
  refine Met.ofW (cc := cX8_copyFrom) (maxL := 3) (ret := none) (by decide) rfl ?_
  intro p e s m args below meth c s₁ B hml hv
  obtain ⟨rfl, hsz, hP, hK, hD0, hE, hV⟩ := hv
  have hx := B.exec
  have hb := B.bytes
  have hr := B.returns
  have hts := atoms_spec (ws := wk_X8_copyFrom) B.pre
  have hown : s.vm.findClass RX8 = some m.cls := findClass_of_methodNamed B.named
  have hlocks := B.notSynchronized
  have i_X8 : ∀ w ∈ wsX80, w ∈ wk_X8_copyFrom := fun _ h => List.mem_cons_of_mem _ (List.mem_append_right _ h)
  have w_1 := hts (.fieldLink RX8 9 "DocumentSpanner$State" "letters" "[I") (List.mem_of_getElem? (i := 1) rfl)
  have w_2 := hts (.methodLink RX8 37 arraycopyName) (List.mem_of_getElem? (i := 2) rfl)
  have w_3 := hts (.native arraycopyName) (List.mem_of_getElem? (i := 3) rfl)
  have w_4 := hts (.static arraycopyName) (List.mem_of_getElem? (i := 4) rfl)
  have w_5 := hts (.initialized "java/lang/System") (List.mem_of_getElem? (i := 5) rfl)
  have w_6 := hts (.fieldLink RX8 25 "DocumentSpanner$State" "weights" "[I") (List.mem_of_getElem? (i := 6) rfl)
  have w_7 := hts (.fieldLink RX8 28 "DocumentSpanner$State" "length" "I") (List.mem_of_getElem? (i := 7) rfl)
  have w_8 := hts (.fieldLink RX8 32 "DocumentSpanner$State" "formula" "LDocumentSpanner$Formula;") (List.mem_of_getElem? (i := 8) rfl)
  have w_9 := hts (.fieldLink RX8 21 "DocumentSpanner$State" "filled" "[Z") (List.mem_of_getElem? (i := 9) rfl)
  subst hsz
  have hD := hD0.self (sz := s.heap.size)
  generalize hAe : va_A [(kp, .inr (8, [.ref klt, .ref ktb, .ref kfl, .ref kwt, .int 0, .null])), (st, .inr (8, [.ref lt, .ref tb, .ref fl, .ref wt, .int 0, .null])), (lt, .inl (cI, 8, .inl (fun _ => 0))), (klt, .inl (cI, 8, .inl (fun _ => 0))), (wt, .inl (cI, 3, .inl (fun _ => 1))), (kwt, .inl (cI, 3, .inl (fun _ => 1))), (fl, .inl (cZ, 6, .inl (fun _ => 0))), (kfl, .inl (cZ, 6, .inl (fun _ => 0)))] s.heap.size = A at hD hE ⊢
  have hA : ∀ q : Nat, s.heap.size ≤ q → A q := fun q h => by rw [← hAe]; exact Or.inr h
  have hS : va_S A s.heap s.heap [] := va_S.rf
  have hP : va_P D vwCl [(kp, .inr (8, [.ref klt, .ref ktb, .ref kfl, .ref kwt, .int 0, .null])), (st, .inr (8, [.ref lt, .ref tb, .ref fl, .ref wt, .int 0, .null])), (lt, .inl (cI, 8, .inl (fun _ => 0))), (klt, .inl (cI, 8, .inl (fun _ => 0))), (wt, .inl (cI, 3, .inl (fun _ => 1))), (kwt, .inl (cI, 3, .inl (fun _ => 1))), (fl, .inl (cZ, 6, .inl (fun _ => 0))), (kfl, .inl (cZ, 6, .inl (fun _ => 0)))] s.heap := hP
  have hl := lv_entry ([.ref kp, .ref st]) (n := 3) (Nat.le_of_ble_eq_true rfl)
  rw [lg_entry_eq]
  generalize (lg_sl ([.ref kp, .ref st]) ++ List.replicate (3 - (lg_sl ([.ref kp, .ref st])).length) Slot.unset).toArray = ls at hl ⊢
  have hl : lv_has ls 3 [(0, .ref kp), (1, .ref st)] := hl
  refine lv_aload_n hx hb dX8_copyFrom_0 rfl (lv_at hl 1 rfl) ?_
  refine va_get (D := D) (ci := 8) (v := .ref lt) (C := RX8) (T := TX8) (N := 6) hx hb hts i_X8 hown hK hP 1 rfl rfl 0 (by decide) w_1 (fun _ h9 => h9) rfl dX8_copyFrom_1 ?_
  refine lv_iconst (v := 0) hx hb dX8_copyFrom_4 (by decide) ?_
  refine lv_aload_n hx hb dX8_copyFrom_5 rfl (lv_at hl 0 rfl) ?_
  refine va_get (D := D) (ci := 8) (v := .ref klt) (C := RX8) (T := TX8) (N := 6) hx hb hts i_X8 hown hK hP 0 rfl rfl 0 (by decide) w_1 (fun _ h9 => h9) rfl dX8_copyFrom_6 ?_
  refine lv_iconst (v := 0) hx hb dX8_copyFrom_9 (by decide) ?_
  refine lv_bipush (v := 8) hx hb dX8_copyFrom_10 (by decide) ?_
  refine va_copyi (ty := .int) (sp := 0) (dp := 0) (n := 8) hx hb (hml.trans hl.1.symm) hown w_2 w_3 w_4 w_5 hK hP hD hS 2 3 0 0 rfl rfl rfl rfl rfl (by decide) (by decide) (by decide) (by decide) (by decide) (fun _ _ => rfl) (Nat.le_of_ble_eq_true rfl) (by decide +kernel) dX8_copyFrom_12 (fun H_1 locs hP hD hS => ?_)
  have hP : va_P D vwCl [(kp, .inr (8, [.ref klt, .ref ktb, .ref kfl, .ref kwt, .int 0, .null])), (st, .inr (8, [.ref lt, .ref tb, .ref fl, .ref wt, .int 0, .null])), (lt, .inl (cI, 8, .inl (fun _ => 0))), (klt, .inl (cI, 8, .inl (va_cpy (fun _ => 0) (fun _ => 0) (0 : Int32).toNatClampNeg (0 : Int32).toNatClampNeg (8 : Int32).toNatClampNeg))), (wt, .inl (cI, 3, .inl (fun _ => 1))), (kwt, .inl (cI, 3, .inl (fun _ => 1))), (fl, .inl (cZ, 6, .inl (fun _ => 0))), (kfl, .inl (cZ, 6, .inl (fun _ => 0)))] H_1 := hP
  have hD : va_D A [(kp, .inr (8, [.ref klt, .ref ktb, .ref kfl, .ref kwt, .int 0, .null])), (st, .inr (8, [.ref lt, .ref tb, .ref fl, .ref wt, .int 0, .null])), (lt, .inl (cI, 8, .inl (fun _ => 0))), (klt, .inl (cI, 8, .inl (va_cpy (fun _ => 0) (fun _ => 0) (0 : Int32).toNatClampNeg (0 : Int32).toNatClampNeg (8 : Int32).toNatClampNeg))), (wt, .inl (cI, 3, .inl (fun _ => 1))), (kwt, .inl (cI, 3, .inl (fun _ => 1))), (fl, .inl (cZ, 6, .inl (fun _ => 0))), (kfl, .inl (cZ, 6, .inl (fun _ => 0)))] := hD
  refine lv_aload_n hx hb dX8_copyFrom_15 rfl (lv_at hl 1 rfl) ?_
  refine va_get (D := D) (ci := 8) (v := .ref wt) (C := RX8) (T := TX8) (N := 6) hx hb hts i_X8 hown hK hP 1 rfl rfl 3 (by decide) w_6 (fun _ h9 => h9) rfl dX8_copyFrom_16 ?_
  refine lv_iconst (v := 0) hx hb dX8_copyFrom_19 (by decide) ?_
  refine lv_aload_n hx hb dX8_copyFrom_20 rfl (lv_at hl 0 rfl) ?_
  refine va_get (D := D) (ci := 8) (v := .ref kwt) (C := RX8) (T := TX8) (N := 6) hx hb hts i_X8 hown hK hP 0 rfl rfl 3 (by decide) w_6 (fun _ h9 => h9) rfl dX8_copyFrom_21 ?_
  refine lv_iconst (v := 0) hx hb dX8_copyFrom_24 (by decide) ?_
  refine lv_iconst (v := 3) hx hb dX8_copyFrom_25 (by decide) ?_
  refine va_copyi (ty := .int) (sp := 0) (dp := 0) (n := 3) hx hb (hml.trans hl.1.symm) hown w_2 w_3 w_4 w_5 hK hP hD hS 4 5 0 0 rfl rfl rfl rfl rfl (by decide) (by decide) (by decide) (by decide) (by decide) (fun _ _ => rfl) (Nat.le_of_ble_eq_true rfl) (by decide +kernel) dX8_copyFrom_26 (fun H_2 locs hP hD hS => ?_)
  have hP : va_P D vwCl [(kp, .inr (8, [.ref klt, .ref ktb, .ref kfl, .ref kwt, .int 0, .null])), (st, .inr (8, [.ref lt, .ref tb, .ref fl, .ref wt, .int 0, .null])), (lt, .inl (cI, 8, .inl (fun _ => 0))), (klt, .inl (cI, 8, .inl (va_cpy (fun _ => 0) (fun _ => 0) (0 : Int32).toNatClampNeg (0 : Int32).toNatClampNeg (8 : Int32).toNatClampNeg))), (wt, .inl (cI, 3, .inl (fun _ => 1))), (kwt, .inl (cI, 3, .inl (va_cpy (fun _ => 1) (fun _ => 1) (0 : Int32).toNatClampNeg (0 : Int32).toNatClampNeg (3 : Int32).toNatClampNeg))), (fl, .inl (cZ, 6, .inl (fun _ => 0))), (kfl, .inl (cZ, 6, .inl (fun _ => 0)))] H_2 := hP
  have hD : va_D A [(kp, .inr (8, [.ref klt, .ref ktb, .ref kfl, .ref kwt, .int 0, .null])), (st, .inr (8, [.ref lt, .ref tb, .ref fl, .ref wt, .int 0, .null])), (lt, .inl (cI, 8, .inl (fun _ => 0))), (klt, .inl (cI, 8, .inl (va_cpy (fun _ => 0) (fun _ => 0) (0 : Int32).toNatClampNeg (0 : Int32).toNatClampNeg (8 : Int32).toNatClampNeg))), (wt, .inl (cI, 3, .inl (fun _ => 1))), (kwt, .inl (cI, 3, .inl (va_cpy (fun _ => 1) (fun _ => 1) (0 : Int32).toNatClampNeg (0 : Int32).toNatClampNeg (3 : Int32).toNatClampNeg))), (fl, .inl (cZ, 6, .inl (fun _ => 0))), (kfl, .inl (cZ, 6, .inl (fun _ => 0)))] := hD
  refine lv_aload_n hx hb dX8_copyFrom_29 rfl (lv_at hl 0 rfl) ?_
  refine lv_aload_n hx hb dX8_copyFrom_30 rfl (lv_at hl 1 rfl) ?_
  refine va_get (D := D) (ci := 8) (v := .int 0) (C := RX8) (T := TX8) (N := 6) hx hb hts i_X8 hown hK hP 1 rfl rfl 4 (by decide) w_7 (fun _ h9 => h9) rfl dX8_copyFrom_31 ?_
  refine va_put (D := D) (ci := 8) (v := .int 0) (ty := .int) (C := RX8) (T := TX8) (N := 6) hx hb hts i_X8 tyX8 tyX8_ok nmX8 hown hK hP hD hS 0 rfl rfl 4 (by decide) w_7 (fun _ h9 => h9) rfl (by decide +kernel) rfl rfl (Nat.le_of_ble_eq_true rfl) dX8_copyFrom_34 (fun H_3 locs hP hD hS => ?_)
  have hP : va_P D vwCl [(kp, .inr (8, [.ref klt, .ref ktb, .ref kfl, .ref kwt, .int 0, .null])), (st, .inr (8, [.ref lt, .ref tb, .ref fl, .ref wt, .int 0, .null])), (lt, .inl (cI, 8, .inl (fun _ => 0))), (klt, .inl (cI, 8, .inl (va_cpy (fun _ => 0) (fun _ => 0) (0 : Int32).toNatClampNeg (0 : Int32).toNatClampNeg (8 : Int32).toNatClampNeg))), (wt, .inl (cI, 3, .inl (fun _ => 1))), (kwt, .inl (cI, 3, .inl (va_cpy (fun _ => 1) (fun _ => 1) (0 : Int32).toNatClampNeg (0 : Int32).toNatClampNeg (3 : Int32).toNatClampNeg))), (fl, .inl (cZ, 6, .inl (fun _ => 0))), (kfl, .inl (cZ, 6, .inl (fun _ => 0)))] H_3 := hP
  have hD : va_D A [(kp, .inr (8, [.ref klt, .ref ktb, .ref kfl, .ref kwt, .int 0, .null])), (st, .inr (8, [.ref lt, .ref tb, .ref fl, .ref wt, .int 0, .null])), (lt, .inl (cI, 8, .inl (fun _ => 0))), (klt, .inl (cI, 8, .inl (va_cpy (fun _ => 0) (fun _ => 0) (0 : Int32).toNatClampNeg (0 : Int32).toNatClampNeg (8 : Int32).toNatClampNeg))), (wt, .inl (cI, 3, .inl (fun _ => 1))), (kwt, .inl (cI, 3, .inl (va_cpy (fun _ => 1) (fun _ => 1) (0 : Int32).toNatClampNeg (0 : Int32).toNatClampNeg (3 : Int32).toNatClampNeg))), (fl, .inl (cZ, 6, .inl (fun _ => 0))), (kfl, .inl (cZ, 6, .inl (fun _ => 0)))] := hD
  refine lv_aload_n hx hb dX8_copyFrom_37 rfl (lv_at hl 0 rfl) ?_
  refine lv_aload_n hx hb dX8_copyFrom_38 rfl (lv_at hl 1 rfl) ?_
  refine va_get (D := D) (ci := 8) (v := .null) (C := RX8) (T := TX8) (N := 6) hx hb hts i_X8 hown hK hP 1 rfl rfl 5 (by decide) w_8 (fun _ h9 => h9) rfl dX8_copyFrom_39 ?_
  refine va_put (D := D) (ci := 8) (v := .null) (ty := (.object "DocumentSpanner$Formula")) (C := RX8) (T := TX8) (N := 6) hx hb hts i_X8 tyX8 tyX8_ok nmX8 hown hK hP hD hS 0 rfl rfl 5 (by decide) w_8 (fun _ h9 => h9) rfl (by decide +kernel) rfl rfl (Nat.le_of_ble_eq_true rfl) dX8_copyFrom_42 (fun H_4 locs hP hD hS => ?_)
  have hP : va_P D vwCl [(kp, .inr (8, [.ref klt, .ref ktb, .ref kfl, .ref kwt, .int 0, .null])), (st, .inr (8, [.ref lt, .ref tb, .ref fl, .ref wt, .int 0, .null])), (lt, .inl (cI, 8, .inl (fun _ => 0))), (klt, .inl (cI, 8, .inl (va_cpy (fun _ => 0) (fun _ => 0) (0 : Int32).toNatClampNeg (0 : Int32).toNatClampNeg (8 : Int32).toNatClampNeg))), (wt, .inl (cI, 3, .inl (fun _ => 1))), (kwt, .inl (cI, 3, .inl (va_cpy (fun _ => 1) (fun _ => 1) (0 : Int32).toNatClampNeg (0 : Int32).toNatClampNeg (3 : Int32).toNatClampNeg))), (fl, .inl (cZ, 6, .inl (fun _ => 0))), (kfl, .inl (cZ, 6, .inl (fun _ => 0)))] H_4 := hP
  have hD : va_D A [(kp, .inr (8, [.ref klt, .ref ktb, .ref kfl, .ref kwt, .int 0, .null])), (st, .inr (8, [.ref lt, .ref tb, .ref fl, .ref wt, .int 0, .null])), (lt, .inl (cI, 8, .inl (fun _ => 0))), (klt, .inl (cI, 8, .inl (va_cpy (fun _ => 0) (fun _ => 0) (0 : Int32).toNatClampNeg (0 : Int32).toNatClampNeg (8 : Int32).toNatClampNeg))), (wt, .inl (cI, 3, .inl (fun _ => 1))), (kwt, .inl (cI, 3, .inl (va_cpy (fun _ => 1) (fun _ => 1) (0 : Int32).toNatClampNeg (0 : Int32).toNatClampNeg (3 : Int32).toNatClampNeg))), (fl, .inl (cZ, 6, .inl (fun _ => 0))), (kfl, .inl (cZ, 6, .inl (fun _ => 0)))] := hD
  refine lv_iconst (v := 0) hx hb dX8_copyFrom_45 (by decide) ?_
  refine lv_istore_n (lv' := [(2, .int 0), (0, .ref kp), (1, .ref st)]) hx hb dX8_copyFrom_46 rfl hl (by decide) rfl (fun ls hl => ?_)
  refine lv_iload_n hx hb dX8_copyFrom_47 rfl (lv_at hl 0 rfl) ?_
  refine lv_bipush (v := 6) hx hb dX8_copyFrom_48 (by decide) ?_
  refine lv_icmp_ge (tgt := 95) hx hb dX8_copyFrom_50 (by decide) (fun h9 => absurd h9 (by decide)) (fun _ => ?_)
  refine lv_aload_n hx hb dX8_copyFrom_53 rfl (lv_at hl 1 rfl) ?_
  refine va_get (D := D) (ci := 8) (v := .ref kfl) (C := RX8) (T := TX8) (N := 6) hx hb hts i_X8 hown hK hP 0 rfl rfl 2 (by decide) w_9 (fun _ h9 => h9) rfl dX8_copyFrom_54 ?_
  refine lv_iload_n hx hb dX8_copyFrom_57 rfl (lv_at hl 0 rfl) ?_
  refine lv_aload_n hx hb dX8_copyFrom_58 rfl (lv_at hl 2 rfl) ?_
  refine va_get (D := D) (ci := 8) (v := .ref fl) (C := RX8) (T := TX8) (N := 6) hx hb hts i_X8 hown hK hP 1 rfl rfl 2 (by decide) w_9 (fun _ h9 => h9) rfl dX8_copyFrom_59 ?_
  refine lv_iload_n hx hb dX8_copyFrom_62 rfl (lv_at hl 0 rfl) ?_
  refine va_zald hx hb hK hP 6 2 rfl rfl (i := 0) (vp_in_iff.mpr ⟨by decide, by decide⟩) dX8_copyFrom_63 ?_
  refine W.eq (g2 := F0 m 64 ls [.int 0, .int 0, .ref kfl]) rfl ?_
  refine va_zast hx hb hK hP hD hS 7 2 rfl rfl (i := 0) (x := 0) (vp_in_iff.mpr ⟨by decide, by decide⟩) dX8_copyFrom_64 (fun H_5 locs hP hD hS => ?_)
  have hP : va_P D vwCl [(kp, .inr (8, [.ref klt, .ref ktb, .ref kfl, .ref kwt, .int 0, .null])), (st, .inr (8, [.ref lt, .ref tb, .ref fl, .ref wt, .int 0, .null])), (lt, .inl (cI, 8, .inl (fun _ => 0))), (klt, .inl (cI, 8, .inl (va_cpy (fun _ => 0) (fun _ => 0) (0 : Int32).toNatClampNeg (0 : Int32).toNatClampNeg (8 : Int32).toNatClampNeg))), (wt, .inl (cI, 3, .inl (fun _ => 1))), (kwt, .inl (cI, 3, .inl (va_cpy (fun _ => 1) (fun _ => 1) (0 : Int32).toNatClampNeg (0 : Int32).toNatClampNeg (3 : Int32).toNatClampNeg))), (fl, .inl (cZ, 6, .inl (fun _ => 0))), (kfl, .inl (cZ, 6, .inl (upd (fun _ => 0) ((0 : Int32).toNatClampNeg) (vp_nar .boolean 0))))] H_5 := hP
  have hD : va_D A [(kp, .inr (8, [.ref klt, .ref ktb, .ref kfl, .ref kwt, .int 0, .null])), (st, .inr (8, [.ref lt, .ref tb, .ref fl, .ref wt, .int 0, .null])), (lt, .inl (cI, 8, .inl (fun _ => 0))), (klt, .inl (cI, 8, .inl (va_cpy (fun _ => 0) (fun _ => 0) (0 : Int32).toNatClampNeg (0 : Int32).toNatClampNeg (8 : Int32).toNatClampNeg))), (wt, .inl (cI, 3, .inl (fun _ => 1))), (kwt, .inl (cI, 3, .inl (va_cpy (fun _ => 1) (fun _ => 1) (0 : Int32).toNatClampNeg (0 : Int32).toNatClampNeg (3 : Int32).toNatClampNeg))), (fl, .inl (cZ, 6, .inl (fun _ => 0))), (kfl, .inl (cZ, 6, .inl (upd (fun _ => 0) ((0 : Int32).toNatClampNeg) (vp_nar .boolean 0))))] := hD
  rw [xUpdZ] at hP hD
  have hP : va_P D vwCl [(kp, .inr (8, [.ref klt, .ref ktb, .ref kfl, .ref kwt, .int 0, .null])), (st, .inr (8, [.ref lt, .ref tb, .ref fl, .ref wt, .int 0, .null])), (lt, .inl (cI, 8, .inl (fun _ => 0))), (klt, .inl (cI, 8, .inl (va_cpy (fun _ => 0) (fun _ => 0) (0 : Int32).toNatClampNeg (0 : Int32).toNatClampNeg (8 : Int32).toNatClampNeg))), (wt, .inl (cI, 3, .inl (fun _ => 1))), (kwt, .inl (cI, 3, .inl (va_cpy (fun _ => 1) (fun _ => 1) (0 : Int32).toNatClampNeg (0 : Int32).toNatClampNeg (3 : Int32).toNatClampNeg))), (fl, .inl (cZ, 6, .inl (fun _ => 0))), (kfl, .inl (cZ, 6, .inl (fun _ => 0)))] H_5 := hP
  have hD : va_D A [(kp, .inr (8, [.ref klt, .ref ktb, .ref kfl, .ref kwt, .int 0, .null])), (st, .inr (8, [.ref lt, .ref tb, .ref fl, .ref wt, .int 0, .null])), (lt, .inl (cI, 8, .inl (fun _ => 0))), (klt, .inl (cI, 8, .inl (va_cpy (fun _ => 0) (fun _ => 0) (0 : Int32).toNatClampNeg (0 : Int32).toNatClampNeg (8 : Int32).toNatClampNeg))), (wt, .inl (cI, 3, .inl (fun _ => 1))), (kwt, .inl (cI, 3, .inl (va_cpy (fun _ => 1) (fun _ => 1) (0 : Int32).toNatClampNeg (0 : Int32).toNatClampNeg (3 : Int32).toNatClampNeg))), (fl, .inl (cZ, 6, .inl (fun _ => 0))), (kfl, .inl (cZ, 6, .inl (fun _ => 0)))] := hD
  refine lv_aload_n hx hb dX8_copyFrom_65 rfl (lv_at hl 1 rfl) ?_
  refine va_get (D := D) (ci := 8) (v := .ref kfl) (C := RX8) (T := TX8) (N := 6) hx hb hts i_X8 hown hK hP 0 rfl rfl 2 (by decide) w_9 (fun _ h9 => h9) rfl dX8_copyFrom_66 ?_
  refine lv_iload_n hx hb dX8_copyFrom_69 rfl (lv_at hl 0 rfl) ?_
  refine va_zald hx hb hK hP 7 2 rfl rfl (i := 0) (vp_in_iff.mpr ⟨by decide, by decide⟩) dX8_copyFrom_70 ?_
  refine W.eq (g2 := F0 m 71 ls [.int 0]) rfl ?_
  refine lv_if_eq (tgt := 89) hx hb dX8_copyFrom_71 (by decide) (fun _ => ?_) (fun h9 => absurd h9 (by decide))
  refine lv_iinc (v := 1) (lv' := [(2, .int 1), (0, .ref kp), (1, .ref st)]) hx hb dX8_copyFrom_89 hl (k := 0) rfl (by decide) (by decide) rfl (fun ls hl => ?_)
  refine lv_goto (tgt := 47) hx hb dX8_copyFrom_92 (by decide) ?_
  refine lv_iload_n hx hb dX8_copyFrom_47 rfl (lv_at hl 0 rfl) ?_
  refine lv_bipush (v := 6) hx hb dX8_copyFrom_48 (by decide) ?_
  refine lv_icmp_ge (tgt := 95) hx hb dX8_copyFrom_50 (by decide) (fun h9 => absurd h9 (by decide)) (fun _ => ?_)
  refine lv_aload_n hx hb dX8_copyFrom_53 rfl (lv_at hl 1 rfl) ?_
  refine va_get (D := D) (ci := 8) (v := .ref kfl) (C := RX8) (T := TX8) (N := 6) hx hb hts i_X8 hown hK hP 0 rfl rfl 2 (by decide) w_9 (fun _ h9 => h9) rfl dX8_copyFrom_54 ?_
  refine lv_iload_n hx hb dX8_copyFrom_57 rfl (lv_at hl 0 rfl) ?_
  refine lv_aload_n hx hb dX8_copyFrom_58 rfl (lv_at hl 2 rfl) ?_
  refine va_get (D := D) (ci := 8) (v := .ref fl) (C := RX8) (T := TX8) (N := 6) hx hb hts i_X8 hown hK hP 1 rfl rfl 2 (by decide) w_9 (fun _ h9 => h9) rfl dX8_copyFrom_59 ?_
  refine lv_iload_n hx hb dX8_copyFrom_62 rfl (lv_at hl 0 rfl) ?_
  refine va_zald hx hb hK hP 6 2 rfl rfl (i := 1) (vp_in_iff.mpr ⟨by decide, by decide⟩) dX8_copyFrom_63 ?_
  refine W.eq (g2 := F0 m 64 ls [.int 0, .int 1, .ref kfl]) rfl ?_
  refine va_zast hx hb hK hP hD hS 7 2 rfl rfl (i := 1) (x := 0) (vp_in_iff.mpr ⟨by decide, by decide⟩) dX8_copyFrom_64 (fun H_6 locs hP hD hS => ?_)
  have hP : va_P D vwCl [(kp, .inr (8, [.ref klt, .ref ktb, .ref kfl, .ref kwt, .int 0, .null])), (st, .inr (8, [.ref lt, .ref tb, .ref fl, .ref wt, .int 0, .null])), (lt, .inl (cI, 8, .inl (fun _ => 0))), (klt, .inl (cI, 8, .inl (va_cpy (fun _ => 0) (fun _ => 0) (0 : Int32).toNatClampNeg (0 : Int32).toNatClampNeg (8 : Int32).toNatClampNeg))), (wt, .inl (cI, 3, .inl (fun _ => 1))), (kwt, .inl (cI, 3, .inl (va_cpy (fun _ => 1) (fun _ => 1) (0 : Int32).toNatClampNeg (0 : Int32).toNatClampNeg (3 : Int32).toNatClampNeg))), (fl, .inl (cZ, 6, .inl (fun _ => 0))), (kfl, .inl (cZ, 6, .inl (upd (fun _ => 0) ((1 : Int32).toNatClampNeg) (vp_nar .boolean 0))))] H_6 := hP
  have hD : va_D A [(kp, .inr (8, [.ref klt, .ref ktb, .ref kfl, .ref kwt, .int 0, .null])), (st, .inr (8, [.ref lt, .ref tb, .ref fl, .ref wt, .int 0, .null])), (lt, .inl (cI, 8, .inl (fun _ => 0))), (klt, .inl (cI, 8, .inl (va_cpy (fun _ => 0) (fun _ => 0) (0 : Int32).toNatClampNeg (0 : Int32).toNatClampNeg (8 : Int32).toNatClampNeg))), (wt, .inl (cI, 3, .inl (fun _ => 1))), (kwt, .inl (cI, 3, .inl (va_cpy (fun _ => 1) (fun _ => 1) (0 : Int32).toNatClampNeg (0 : Int32).toNatClampNeg (3 : Int32).toNatClampNeg))), (fl, .inl (cZ, 6, .inl (fun _ => 0))), (kfl, .inl (cZ, 6, .inl (upd (fun _ => 0) ((1 : Int32).toNatClampNeg) (vp_nar .boolean 0))))] := hD
  rw [xUpdZ] at hP hD
  have hP : va_P D vwCl [(kp, .inr (8, [.ref klt, .ref ktb, .ref kfl, .ref kwt, .int 0, .null])), (st, .inr (8, [.ref lt, .ref tb, .ref fl, .ref wt, .int 0, .null])), (lt, .inl (cI, 8, .inl (fun _ => 0))), (klt, .inl (cI, 8, .inl (va_cpy (fun _ => 0) (fun _ => 0) (0 : Int32).toNatClampNeg (0 : Int32).toNatClampNeg (8 : Int32).toNatClampNeg))), (wt, .inl (cI, 3, .inl (fun _ => 1))), (kwt, .inl (cI, 3, .inl (va_cpy (fun _ => 1) (fun _ => 1) (0 : Int32).toNatClampNeg (0 : Int32).toNatClampNeg (3 : Int32).toNatClampNeg))), (fl, .inl (cZ, 6, .inl (fun _ => 0))), (kfl, .inl (cZ, 6, .inl (fun _ => 0)))] H_6 := hP
  have hD : va_D A [(kp, .inr (8, [.ref klt, .ref ktb, .ref kfl, .ref kwt, .int 0, .null])), (st, .inr (8, [.ref lt, .ref tb, .ref fl, .ref wt, .int 0, .null])), (lt, .inl (cI, 8, .inl (fun _ => 0))), (klt, .inl (cI, 8, .inl (va_cpy (fun _ => 0) (fun _ => 0) (0 : Int32).toNatClampNeg (0 : Int32).toNatClampNeg (8 : Int32).toNatClampNeg))), (wt, .inl (cI, 3, .inl (fun _ => 1))), (kwt, .inl (cI, 3, .inl (va_cpy (fun _ => 1) (fun _ => 1) (0 : Int32).toNatClampNeg (0 : Int32).toNatClampNeg (3 : Int32).toNatClampNeg))), (fl, .inl (cZ, 6, .inl (fun _ => 0))), (kfl, .inl (cZ, 6, .inl (fun _ => 0)))] := hD
  refine lv_aload_n hx hb dX8_copyFrom_65 rfl (lv_at hl 1 rfl) ?_
  refine va_get (D := D) (ci := 8) (v := .ref kfl) (C := RX8) (T := TX8) (N := 6) hx hb hts i_X8 hown hK hP 0 rfl rfl 2 (by decide) w_9 (fun _ h9 => h9) rfl dX8_copyFrom_66 ?_
  refine lv_iload_n hx hb dX8_copyFrom_69 rfl (lv_at hl 0 rfl) ?_
  refine va_zald hx hb hK hP 7 2 rfl rfl (i := 1) (vp_in_iff.mpr ⟨by decide, by decide⟩) dX8_copyFrom_70 ?_
  refine W.eq (g2 := F0 m 71 ls [.int 0]) rfl ?_
  refine lv_if_eq (tgt := 89) hx hb dX8_copyFrom_71 (by decide) (fun _ => ?_) (fun h9 => absurd h9 (by decide))
  refine lv_iinc (v := 2) (lv' := [(2, .int 2), (0, .ref kp), (1, .ref st)]) hx hb dX8_copyFrom_89 hl (k := 0) rfl (by decide) (by decide) rfl (fun ls hl => ?_)
  refine lv_goto (tgt := 47) hx hb dX8_copyFrom_92 (by decide) ?_
  refine lv_iload_n hx hb dX8_copyFrom_47 rfl (lv_at hl 0 rfl) ?_
  refine lv_bipush (v := 6) hx hb dX8_copyFrom_48 (by decide) ?_
  refine lv_icmp_ge (tgt := 95) hx hb dX8_copyFrom_50 (by decide) (fun h9 => absurd h9 (by decide)) (fun _ => ?_)
  refine lv_aload_n hx hb dX8_copyFrom_53 rfl (lv_at hl 1 rfl) ?_
  refine va_get (D := D) (ci := 8) (v := .ref kfl) (C := RX8) (T := TX8) (N := 6) hx hb hts i_X8 hown hK hP 0 rfl rfl 2 (by decide) w_9 (fun _ h9 => h9) rfl dX8_copyFrom_54 ?_
  refine lv_iload_n hx hb dX8_copyFrom_57 rfl (lv_at hl 0 rfl) ?_
  refine lv_aload_n hx hb dX8_copyFrom_58 rfl (lv_at hl 2 rfl) ?_
  refine va_get (D := D) (ci := 8) (v := .ref fl) (C := RX8) (T := TX8) (N := 6) hx hb hts i_X8 hown hK hP 1 rfl rfl 2 (by decide) w_9 (fun _ h9 => h9) rfl dX8_copyFrom_59 ?_
  refine lv_iload_n hx hb dX8_copyFrom_62 rfl (lv_at hl 0 rfl) ?_
  refine va_zald hx hb hK hP 6 2 rfl rfl (i := 2) (vp_in_iff.mpr ⟨by decide, by decide⟩) dX8_copyFrom_63 ?_
  refine W.eq (g2 := F0 m 64 ls [.int 0, .int 2, .ref kfl]) rfl ?_
  refine va_zast hx hb hK hP hD hS 7 2 rfl rfl (i := 2) (x := 0) (vp_in_iff.mpr ⟨by decide, by decide⟩) dX8_copyFrom_64 (fun H_7 locs hP hD hS => ?_)
  have hP : va_P D vwCl [(kp, .inr (8, [.ref klt, .ref ktb, .ref kfl, .ref kwt, .int 0, .null])), (st, .inr (8, [.ref lt, .ref tb, .ref fl, .ref wt, .int 0, .null])), (lt, .inl (cI, 8, .inl (fun _ => 0))), (klt, .inl (cI, 8, .inl (va_cpy (fun _ => 0) (fun _ => 0) (0 : Int32).toNatClampNeg (0 : Int32).toNatClampNeg (8 : Int32).toNatClampNeg))), (wt, .inl (cI, 3, .inl (fun _ => 1))), (kwt, .inl (cI, 3, .inl (va_cpy (fun _ => 1) (fun _ => 1) (0 : Int32).toNatClampNeg (0 : Int32).toNatClampNeg (3 : Int32).toNatClampNeg))), (fl, .inl (cZ, 6, .inl (fun _ => 0))), (kfl, .inl (cZ, 6, .inl (upd (fun _ => 0) ((2 : Int32).toNatClampNeg) (vp_nar .boolean 0))))] H_7 := hP
  have hD : va_D A [(kp, .inr (8, [.ref klt, .ref ktb, .ref kfl, .ref kwt, .int 0, .null])), (st, .inr (8, [.ref lt, .ref tb, .ref fl, .ref wt, .int 0, .null])), (lt, .inl (cI, 8, .inl (fun _ => 0))), (klt, .inl (cI, 8, .inl (va_cpy (fun _ => 0) (fun _ => 0) (0 : Int32).toNatClampNeg (0 : Int32).toNatClampNeg (8 : Int32).toNatClampNeg))), (wt, .inl (cI, 3, .inl (fun _ => 1))), (kwt, .inl (cI, 3, .inl (va_cpy (fun _ => 1) (fun _ => 1) (0 : Int32).toNatClampNeg (0 : Int32).toNatClampNeg (3 : Int32).toNatClampNeg))), (fl, .inl (cZ, 6, .inl (fun _ => 0))), (kfl, .inl (cZ, 6, .inl (upd (fun _ => 0) ((2 : Int32).toNatClampNeg) (vp_nar .boolean 0))))] := hD
  rw [xUpdZ] at hP hD
  have hP : va_P D vwCl [(kp, .inr (8, [.ref klt, .ref ktb, .ref kfl, .ref kwt, .int 0, .null])), (st, .inr (8, [.ref lt, .ref tb, .ref fl, .ref wt, .int 0, .null])), (lt, .inl (cI, 8, .inl (fun _ => 0))), (klt, .inl (cI, 8, .inl (va_cpy (fun _ => 0) (fun _ => 0) (0 : Int32).toNatClampNeg (0 : Int32).toNatClampNeg (8 : Int32).toNatClampNeg))), (wt, .inl (cI, 3, .inl (fun _ => 1))), (kwt, .inl (cI, 3, .inl (va_cpy (fun _ => 1) (fun _ => 1) (0 : Int32).toNatClampNeg (0 : Int32).toNatClampNeg (3 : Int32).toNatClampNeg))), (fl, .inl (cZ, 6, .inl (fun _ => 0))), (kfl, .inl (cZ, 6, .inl (fun _ => 0)))] H_7 := hP
  have hD : va_D A [(kp, .inr (8, [.ref klt, .ref ktb, .ref kfl, .ref kwt, .int 0, .null])), (st, .inr (8, [.ref lt, .ref tb, .ref fl, .ref wt, .int 0, .null])), (lt, .inl (cI, 8, .inl (fun _ => 0))), (klt, .inl (cI, 8, .inl (va_cpy (fun _ => 0) (fun _ => 0) (0 : Int32).toNatClampNeg (0 : Int32).toNatClampNeg (8 : Int32).toNatClampNeg))), (wt, .inl (cI, 3, .inl (fun _ => 1))), (kwt, .inl (cI, 3, .inl (va_cpy (fun _ => 1) (fun _ => 1) (0 : Int32).toNatClampNeg (0 : Int32).toNatClampNeg (3 : Int32).toNatClampNeg))), (fl, .inl (cZ, 6, .inl (fun _ => 0))), (kfl, .inl (cZ, 6, .inl (fun _ => 0)))] := hD
  refine lv_aload_n hx hb dX8_copyFrom_65 rfl (lv_at hl 1 rfl) ?_
  refine va_get (D := D) (ci := 8) (v := .ref kfl) (C := RX8) (T := TX8) (N := 6) hx hb hts i_X8 hown hK hP 0 rfl rfl 2 (by decide) w_9 (fun _ h9 => h9) rfl dX8_copyFrom_66 ?_
  refine lv_iload_n hx hb dX8_copyFrom_69 rfl (lv_at hl 0 rfl) ?_
  refine va_zald hx hb hK hP 7 2 rfl rfl (i := 2) (vp_in_iff.mpr ⟨by decide, by decide⟩) dX8_copyFrom_70 ?_
  refine W.eq (g2 := F0 m 71 ls [.int 0]) rfl ?_
  refine lv_if_eq (tgt := 89) hx hb dX8_copyFrom_71 (by decide) (fun _ => ?_) (fun h9 => absurd h9 (by decide))
  refine lv_iinc (v := 3) (lv' := [(2, .int 3), (0, .ref kp), (1, .ref st)]) hx hb dX8_copyFrom_89 hl (k := 0) rfl (by decide) (by decide) rfl (fun ls hl => ?_)
  refine lv_goto (tgt := 47) hx hb dX8_copyFrom_92 (by decide) ?_
  refine lv_iload_n hx hb dX8_copyFrom_47 rfl (lv_at hl 0 rfl) ?_
  refine lv_bipush (v := 6) hx hb dX8_copyFrom_48 (by decide) ?_
  refine lv_icmp_ge (tgt := 95) hx hb dX8_copyFrom_50 (by decide) (fun h9 => absurd h9 (by decide)) (fun _ => ?_)
  refine lv_aload_n hx hb dX8_copyFrom_53 rfl (lv_at hl 1 rfl) ?_
  refine va_get (D := D) (ci := 8) (v := .ref kfl) (C := RX8) (T := TX8) (N := 6) hx hb hts i_X8 hown hK hP 0 rfl rfl 2 (by decide) w_9 (fun _ h9 => h9) rfl dX8_copyFrom_54 ?_
  refine lv_iload_n hx hb dX8_copyFrom_57 rfl (lv_at hl 0 rfl) ?_
  refine lv_aload_n hx hb dX8_copyFrom_58 rfl (lv_at hl 2 rfl) ?_
  refine va_get (D := D) (ci := 8) (v := .ref fl) (C := RX8) (T := TX8) (N := 6) hx hb hts i_X8 hown hK hP 1 rfl rfl 2 (by decide) w_9 (fun _ h9 => h9) rfl dX8_copyFrom_59 ?_
  refine lv_iload_n hx hb dX8_copyFrom_62 rfl (lv_at hl 0 rfl) ?_
  refine va_zald hx hb hK hP 6 2 rfl rfl (i := 3) (vp_in_iff.mpr ⟨by decide, by decide⟩) dX8_copyFrom_63 ?_
  refine W.eq (g2 := F0 m 64 ls [.int 0, .int 3, .ref kfl]) rfl ?_
  refine va_zast hx hb hK hP hD hS 7 2 rfl rfl (i := 3) (x := 0) (vp_in_iff.mpr ⟨by decide, by decide⟩) dX8_copyFrom_64 (fun H_8 locs hP hD hS => ?_)
  have hP : va_P D vwCl [(kp, .inr (8, [.ref klt, .ref ktb, .ref kfl, .ref kwt, .int 0, .null])), (st, .inr (8, [.ref lt, .ref tb, .ref fl, .ref wt, .int 0, .null])), (lt, .inl (cI, 8, .inl (fun _ => 0))), (klt, .inl (cI, 8, .inl (va_cpy (fun _ => 0) (fun _ => 0) (0 : Int32).toNatClampNeg (0 : Int32).toNatClampNeg (8 : Int32).toNatClampNeg))), (wt, .inl (cI, 3, .inl (fun _ => 1))), (kwt, .inl (cI, 3, .inl (va_cpy (fun _ => 1) (fun _ => 1) (0 : Int32).toNatClampNeg (0 : Int32).toNatClampNeg (3 : Int32).toNatClampNeg))), (fl, .inl (cZ, 6, .inl (fun _ => 0))), (kfl, .inl (cZ, 6, .inl (upd (fun _ => 0) ((3 : Int32).toNatClampNeg) (vp_nar .boolean 0))))] H_8 := hP
  have hD : va_D A [(kp, .inr (8, [.ref klt, .ref ktb, .ref kfl, .ref kwt, .int 0, .null])), (st, .inr (8, [.ref lt, .ref tb, .ref fl, .ref wt, .int 0, .null])), (lt, .inl (cI, 8, .inl (fun _ => 0))), (klt, .inl (cI, 8, .inl (va_cpy (fun _ => 0) (fun _ => 0) (0 : Int32).toNatClampNeg (0 : Int32).toNatClampNeg (8 : Int32).toNatClampNeg))), (wt, .inl (cI, 3, .inl (fun _ => 1))), (kwt, .inl (cI, 3, .inl (va_cpy (fun _ => 1) (fun _ => 1) (0 : Int32).toNatClampNeg (0 : Int32).toNatClampNeg (3 : Int32).toNatClampNeg))), (fl, .inl (cZ, 6, .inl (fun _ => 0))), (kfl, .inl (cZ, 6, .inl (upd (fun _ => 0) ((3 : Int32).toNatClampNeg) (vp_nar .boolean 0))))] := hD
  rw [xUpdZ] at hP hD
  have hP : va_P D vwCl [(kp, .inr (8, [.ref klt, .ref ktb, .ref kfl, .ref kwt, .int 0, .null])), (st, .inr (8, [.ref lt, .ref tb, .ref fl, .ref wt, .int 0, .null])), (lt, .inl (cI, 8, .inl (fun _ => 0))), (klt, .inl (cI, 8, .inl (va_cpy (fun _ => 0) (fun _ => 0) (0 : Int32).toNatClampNeg (0 : Int32).toNatClampNeg (8 : Int32).toNatClampNeg))), (wt, .inl (cI, 3, .inl (fun _ => 1))), (kwt, .inl (cI, 3, .inl (va_cpy (fun _ => 1) (fun _ => 1) (0 : Int32).toNatClampNeg (0 : Int32).toNatClampNeg (3 : Int32).toNatClampNeg))), (fl, .inl (cZ, 6, .inl (fun _ => 0))), (kfl, .inl (cZ, 6, .inl (fun _ => 0)))] H_8 := hP
  have hD : va_D A [(kp, .inr (8, [.ref klt, .ref ktb, .ref kfl, .ref kwt, .int 0, .null])), (st, .inr (8, [.ref lt, .ref tb, .ref fl, .ref wt, .int 0, .null])), (lt, .inl (cI, 8, .inl (fun _ => 0))), (klt, .inl (cI, 8, .inl (va_cpy (fun _ => 0) (fun _ => 0) (0 : Int32).toNatClampNeg (0 : Int32).toNatClampNeg (8 : Int32).toNatClampNeg))), (wt, .inl (cI, 3, .inl (fun _ => 1))), (kwt, .inl (cI, 3, .inl (va_cpy (fun _ => 1) (fun _ => 1) (0 : Int32).toNatClampNeg (0 : Int32).toNatClampNeg (3 : Int32).toNatClampNeg))), (fl, .inl (cZ, 6, .inl (fun _ => 0))), (kfl, .inl (cZ, 6, .inl (fun _ => 0)))] := hD
  refine lv_aload_n hx hb dX8_copyFrom_65 rfl (lv_at hl 1 rfl) ?_
  refine va_get (D := D) (ci := 8) (v := .ref kfl) (C := RX8) (T := TX8) (N := 6) hx hb hts i_X8 hown hK hP 0 rfl rfl 2 (by decide) w_9 (fun _ h9 => h9) rfl dX8_copyFrom_66 ?_
  refine lv_iload_n hx hb dX8_copyFrom_69 rfl (lv_at hl 0 rfl) ?_
  refine va_zald hx hb hK hP 7 2 rfl rfl (i := 3) (vp_in_iff.mpr ⟨by decide, by decide⟩) dX8_copyFrom_70 ?_
  refine W.eq (g2 := F0 m 71 ls [.int 0]) rfl ?_
  refine lv_if_eq (tgt := 89) hx hb dX8_copyFrom_71 (by decide) (fun _ => ?_) (fun h9 => absurd h9 (by decide))
  refine lv_iinc (v := 4) (lv' := [(2, .int 4), (0, .ref kp), (1, .ref st)]) hx hb dX8_copyFrom_89 hl (k := 0) rfl (by decide) (by decide) rfl (fun ls hl => ?_)
  refine lv_goto (tgt := 47) hx hb dX8_copyFrom_92 (by decide) ?_
  refine lv_iload_n hx hb dX8_copyFrom_47 rfl (lv_at hl 0 rfl) ?_
  refine lv_bipush (v := 6) hx hb dX8_copyFrom_48 (by decide) ?_
  refine lv_icmp_ge (tgt := 95) hx hb dX8_copyFrom_50 (by decide) (fun h9 => absurd h9 (by decide)) (fun _ => ?_)
  refine lv_aload_n hx hb dX8_copyFrom_53 rfl (lv_at hl 1 rfl) ?_
  refine va_get (D := D) (ci := 8) (v := .ref kfl) (C := RX8) (T := TX8) (N := 6) hx hb hts i_X8 hown hK hP 0 rfl rfl 2 (by decide) w_9 (fun _ h9 => h9) rfl dX8_copyFrom_54 ?_
  refine lv_iload_n hx hb dX8_copyFrom_57 rfl (lv_at hl 0 rfl) ?_
  refine lv_aload_n hx hb dX8_copyFrom_58 rfl (lv_at hl 2 rfl) ?_
  refine va_get (D := D) (ci := 8) (v := .ref fl) (C := RX8) (T := TX8) (N := 6) hx hb hts i_X8 hown hK hP 1 rfl rfl 2 (by decide) w_9 (fun _ h9 => h9) rfl dX8_copyFrom_59 ?_
  refine lv_iload_n hx hb dX8_copyFrom_62 rfl (lv_at hl 0 rfl) ?_
  refine va_zald hx hb hK hP 6 2 rfl rfl (i := 4) (vp_in_iff.mpr ⟨by decide, by decide⟩) dX8_copyFrom_63 ?_
  refine W.eq (g2 := F0 m 64 ls [.int 0, .int 4, .ref kfl]) rfl ?_
  refine va_zast hx hb hK hP hD hS 7 2 rfl rfl (i := 4) (x := 0) (vp_in_iff.mpr ⟨by decide, by decide⟩) dX8_copyFrom_64 (fun H_9 locs hP hD hS => ?_)
  have hP : va_P D vwCl [(kp, .inr (8, [.ref klt, .ref ktb, .ref kfl, .ref kwt, .int 0, .null])), (st, .inr (8, [.ref lt, .ref tb, .ref fl, .ref wt, .int 0, .null])), (lt, .inl (cI, 8, .inl (fun _ => 0))), (klt, .inl (cI, 8, .inl (va_cpy (fun _ => 0) (fun _ => 0) (0 : Int32).toNatClampNeg (0 : Int32).toNatClampNeg (8 : Int32).toNatClampNeg))), (wt, .inl (cI, 3, .inl (fun _ => 1))), (kwt, .inl (cI, 3, .inl (va_cpy (fun _ => 1) (fun _ => 1) (0 : Int32).toNatClampNeg (0 : Int32).toNatClampNeg (3 : Int32).toNatClampNeg))), (fl, .inl (cZ, 6, .inl (fun _ => 0))), (kfl, .inl (cZ, 6, .inl (upd (fun _ => 0) ((4 : Int32).toNatClampNeg) (vp_nar .boolean 0))))] H_9 := hP
  have hD : va_D A [(kp, .inr (8, [.ref klt, .ref ktb, .ref kfl, .ref kwt, .int 0, .null])), (st, .inr (8, [.ref lt, .ref tb, .ref fl, .ref wt, .int 0, .null])), (lt, .inl (cI, 8, .inl (fun _ => 0))), (klt, .inl (cI, 8, .inl (va_cpy (fun _ => 0) (fun _ => 0) (0 : Int32).toNatClampNeg (0 : Int32).toNatClampNeg (8 : Int32).toNatClampNeg))), (wt, .inl (cI, 3, .inl (fun _ => 1))), (kwt, .inl (cI, 3, .inl (va_cpy (fun _ => 1) (fun _ => 1) (0 : Int32).toNatClampNeg (0 : Int32).toNatClampNeg (3 : Int32).toNatClampNeg))), (fl, .inl (cZ, 6, .inl (fun _ => 0))), (kfl, .inl (cZ, 6, .inl (upd (fun _ => 0) ((4 : Int32).toNatClampNeg) (vp_nar .boolean 0))))] := hD
  rw [xUpdZ] at hP hD
  have hP : va_P D vwCl [(kp, .inr (8, [.ref klt, .ref ktb, .ref kfl, .ref kwt, .int 0, .null])), (st, .inr (8, [.ref lt, .ref tb, .ref fl, .ref wt, .int 0, .null])), (lt, .inl (cI, 8, .inl (fun _ => 0))), (klt, .inl (cI, 8, .inl (va_cpy (fun _ => 0) (fun _ => 0) (0 : Int32).toNatClampNeg (0 : Int32).toNatClampNeg (8 : Int32).toNatClampNeg))), (wt, .inl (cI, 3, .inl (fun _ => 1))), (kwt, .inl (cI, 3, .inl (va_cpy (fun _ => 1) (fun _ => 1) (0 : Int32).toNatClampNeg (0 : Int32).toNatClampNeg (3 : Int32).toNatClampNeg))), (fl, .inl (cZ, 6, .inl (fun _ => 0))), (kfl, .inl (cZ, 6, .inl (fun _ => 0)))] H_9 := hP
  have hD : va_D A [(kp, .inr (8, [.ref klt, .ref ktb, .ref kfl, .ref kwt, .int 0, .null])), (st, .inr (8, [.ref lt, .ref tb, .ref fl, .ref wt, .int 0, .null])), (lt, .inl (cI, 8, .inl (fun _ => 0))), (klt, .inl (cI, 8, .inl (va_cpy (fun _ => 0) (fun _ => 0) (0 : Int32).toNatClampNeg (0 : Int32).toNatClampNeg (8 : Int32).toNatClampNeg))), (wt, .inl (cI, 3, .inl (fun _ => 1))), (kwt, .inl (cI, 3, .inl (va_cpy (fun _ => 1) (fun _ => 1) (0 : Int32).toNatClampNeg (0 : Int32).toNatClampNeg (3 : Int32).toNatClampNeg))), (fl, .inl (cZ, 6, .inl (fun _ => 0))), (kfl, .inl (cZ, 6, .inl (fun _ => 0)))] := hD
  refine lv_aload_n hx hb dX8_copyFrom_65 rfl (lv_at hl 1 rfl) ?_
  refine va_get (D := D) (ci := 8) (v := .ref kfl) (C := RX8) (T := TX8) (N := 6) hx hb hts i_X8 hown hK hP 0 rfl rfl 2 (by decide) w_9 (fun _ h9 => h9) rfl dX8_copyFrom_66 ?_
  refine lv_iload_n hx hb dX8_copyFrom_69 rfl (lv_at hl 0 rfl) ?_
  refine va_zald hx hb hK hP 7 2 rfl rfl (i := 4) (vp_in_iff.mpr ⟨by decide, by decide⟩) dX8_copyFrom_70 ?_
  refine W.eq (g2 := F0 m 71 ls [.int 0]) rfl ?_
  refine lv_if_eq (tgt := 89) hx hb dX8_copyFrom_71 (by decide) (fun _ => ?_) (fun h9 => absurd h9 (by decide))
  refine lv_iinc (v := 5) (lv' := [(2, .int 5), (0, .ref kp), (1, .ref st)]) hx hb dX8_copyFrom_89 hl (k := 0) rfl (by decide) (by decide) rfl (fun ls hl => ?_)
  refine lv_goto (tgt := 47) hx hb dX8_copyFrom_92 (by decide) ?_
  refine lv_iload_n hx hb dX8_copyFrom_47 rfl (lv_at hl 0 rfl) ?_
  refine lv_bipush (v := 6) hx hb dX8_copyFrom_48 (by decide) ?_
  refine lv_icmp_ge (tgt := 95) hx hb dX8_copyFrom_50 (by decide) (fun h9 => absurd h9 (by decide)) (fun _ => ?_)
  refine lv_aload_n hx hb dX8_copyFrom_53 rfl (lv_at hl 1 rfl) ?_
  refine va_get (D := D) (ci := 8) (v := .ref kfl) (C := RX8) (T := TX8) (N := 6) hx hb hts i_X8 hown hK hP 0 rfl rfl 2 (by decide) w_9 (fun _ h9 => h9) rfl dX8_copyFrom_54 ?_
  refine lv_iload_n hx hb dX8_copyFrom_57 rfl (lv_at hl 0 rfl) ?_
  refine lv_aload_n hx hb dX8_copyFrom_58 rfl (lv_at hl 2 rfl) ?_
  refine va_get (D := D) (ci := 8) (v := .ref fl) (C := RX8) (T := TX8) (N := 6) hx hb hts i_X8 hown hK hP 1 rfl rfl 2 (by decide) w_9 (fun _ h9 => h9) rfl dX8_copyFrom_59 ?_
  refine lv_iload_n hx hb dX8_copyFrom_62 rfl (lv_at hl 0 rfl) ?_
  refine va_zald hx hb hK hP 6 2 rfl rfl (i := 5) (vp_in_iff.mpr ⟨by decide, by decide⟩) dX8_copyFrom_63 ?_
  refine W.eq (g2 := F0 m 64 ls [.int 0, .int 5, .ref kfl]) rfl ?_
  refine va_zast hx hb hK hP hD hS 7 2 rfl rfl (i := 5) (x := 0) (vp_in_iff.mpr ⟨by decide, by decide⟩) dX8_copyFrom_64 (fun H_10 locs hP hD hS => ?_)
  have hP : va_P D vwCl [(kp, .inr (8, [.ref klt, .ref ktb, .ref kfl, .ref kwt, .int 0, .null])), (st, .inr (8, [.ref lt, .ref tb, .ref fl, .ref wt, .int 0, .null])), (lt, .inl (cI, 8, .inl (fun _ => 0))), (klt, .inl (cI, 8, .inl (va_cpy (fun _ => 0) (fun _ => 0) (0 : Int32).toNatClampNeg (0 : Int32).toNatClampNeg (8 : Int32).toNatClampNeg))), (wt, .inl (cI, 3, .inl (fun _ => 1))), (kwt, .inl (cI, 3, .inl (va_cpy (fun _ => 1) (fun _ => 1) (0 : Int32).toNatClampNeg (0 : Int32).toNatClampNeg (3 : Int32).toNatClampNeg))), (fl, .inl (cZ, 6, .inl (fun _ => 0))), (kfl, .inl (cZ, 6, .inl (upd (fun _ => 0) ((5 : Int32).toNatClampNeg) (vp_nar .boolean 0))))] H_10 := hP
  have hD : va_D A [(kp, .inr (8, [.ref klt, .ref ktb, .ref kfl, .ref kwt, .int 0, .null])), (st, .inr (8, [.ref lt, .ref tb, .ref fl, .ref wt, .int 0, .null])), (lt, .inl (cI, 8, .inl (fun _ => 0))), (klt, .inl (cI, 8, .inl (va_cpy (fun _ => 0) (fun _ => 0) (0 : Int32).toNatClampNeg (0 : Int32).toNatClampNeg (8 : Int32).toNatClampNeg))), (wt, .inl (cI, 3, .inl (fun _ => 1))), (kwt, .inl (cI, 3, .inl (va_cpy (fun _ => 1) (fun _ => 1) (0 : Int32).toNatClampNeg (0 : Int32).toNatClampNeg (3 : Int32).toNatClampNeg))), (fl, .inl (cZ, 6, .inl (fun _ => 0))), (kfl, .inl (cZ, 6, .inl (upd (fun _ => 0) ((5 : Int32).toNatClampNeg) (vp_nar .boolean 0))))] := hD
  rw [xUpdZ] at hP hD
  have hP : va_P D vwCl [(kp, .inr (8, [.ref klt, .ref ktb, .ref kfl, .ref kwt, .int 0, .null])), (st, .inr (8, [.ref lt, .ref tb, .ref fl, .ref wt, .int 0, .null])), (lt, .inl (cI, 8, .inl (fun _ => 0))), (klt, .inl (cI, 8, .inl (va_cpy (fun _ => 0) (fun _ => 0) (0 : Int32).toNatClampNeg (0 : Int32).toNatClampNeg (8 : Int32).toNatClampNeg))), (wt, .inl (cI, 3, .inl (fun _ => 1))), (kwt, .inl (cI, 3, .inl (va_cpy (fun _ => 1) (fun _ => 1) (0 : Int32).toNatClampNeg (0 : Int32).toNatClampNeg (3 : Int32).toNatClampNeg))), (fl, .inl (cZ, 6, .inl (fun _ => 0))), (kfl, .inl (cZ, 6, .inl (fun _ => 0)))] H_10 := hP
  have hD : va_D A [(kp, .inr (8, [.ref klt, .ref ktb, .ref kfl, .ref kwt, .int 0, .null])), (st, .inr (8, [.ref lt, .ref tb, .ref fl, .ref wt, .int 0, .null])), (lt, .inl (cI, 8, .inl (fun _ => 0))), (klt, .inl (cI, 8, .inl (va_cpy (fun _ => 0) (fun _ => 0) (0 : Int32).toNatClampNeg (0 : Int32).toNatClampNeg (8 : Int32).toNatClampNeg))), (wt, .inl (cI, 3, .inl (fun _ => 1))), (kwt, .inl (cI, 3, .inl (va_cpy (fun _ => 1) (fun _ => 1) (0 : Int32).toNatClampNeg (0 : Int32).toNatClampNeg (3 : Int32).toNatClampNeg))), (fl, .inl (cZ, 6, .inl (fun _ => 0))), (kfl, .inl (cZ, 6, .inl (fun _ => 0)))] := hD
  refine lv_aload_n hx hb dX8_copyFrom_65 rfl (lv_at hl 1 rfl) ?_
  refine va_get (D := D) (ci := 8) (v := .ref kfl) (C := RX8) (T := TX8) (N := 6) hx hb hts i_X8 hown hK hP 0 rfl rfl 2 (by decide) w_9 (fun _ h9 => h9) rfl dX8_copyFrom_66 ?_
  refine lv_iload_n hx hb dX8_copyFrom_69 rfl (lv_at hl 0 rfl) ?_
  refine va_zald hx hb hK hP 7 2 rfl rfl (i := 5) (vp_in_iff.mpr ⟨by decide, by decide⟩) dX8_copyFrom_70 ?_
  refine W.eq (g2 := F0 m 71 ls [.int 0]) rfl ?_
  refine lv_if_eq (tgt := 89) hx hb dX8_copyFrom_71 (by decide) (fun _ => ?_) (fun h9 => absurd h9 (by decide))
  refine lv_iinc (v := 6) (lv' := [(2, .int 6), (0, .ref kp), (1, .ref st)]) hx hb dX8_copyFrom_89 hl (k := 0) rfl (by decide) (by decide) rfl (fun ls hl => ?_)
  refine lv_goto (tgt := 47) hx hb dX8_copyFrom_92 (by decide) ?_
  refine lv_iload_n hx hb dX8_copyFrom_47 rfl (lv_at hl 0 rfl) ?_
  refine lv_bipush (v := 6) hx hb dX8_copyFrom_48 (by decide) ?_
  refine lv_icmp_ge (tgt := 95) hx hb dX8_copyFrom_50 (by decide) (fun _ => ?_) (fun h9 => absurd h9 (by decide))
  have hP9 := hP.sub (ws' := [(st, .inr (8, [.ref lt, .ref tb, .ref fl, .ref wt, .int 0, .null])), (fl, .inl (cZ, 6, .inl (fun _ => 0)))]) [1, 6] rfl
  have hD9 := hD.sub (ws' := [(st, .inr (8, [.ref lt, .ref tb, .ref fl, .ref wt, .int 0, .null])), (fl, .inl (cZ, 6, .inl (fun _ => 0)))]) [1, 6] (by decide) rfl
  refine W.widen (k := 0) (n := 0) (Nat.le_of_ble_eq_true rfl) (Nat.le_of_ble_eq_true rfl) ?_
  exact W.vret hx hb hr (fun t ht hW => ⟨⟨(), rfl, trivial, by rw [ht]; exact hP9, hD9⟩, hS.F ht⟩) hS.2.2 dX8_copyFrom_95
def wk_X8_countTables : List Cond := .code yX8_countTables cX8_countTables 3 (some .int) :: (([.fieldLink RX8 21 "DocumentSpanner$State" "filled" "[Z"] : List Cond) ++ wsX80)
set_option maxHeartbeats 4000000 in
set_option maxRecDepth 100000 in
theorem k_X8_countTables (l : Launch) (htr : l.stackTraces = false) (D : va_G) (cI cJ cZ : ClassId) (st : Nat) (lt : Nat) (tb : Nat) (fl : Nat) (wt : Nat) (sz : Nat) : Met l yX8_countTables wk_X8_countTables ({ frames := 0, cells := 0, slots := 0, locals := 0 }) (xPc D cI cJ cZ [.ref st] [(st, .inr (8, [.ref lt, .ref tb, .ref fl, .ref wt, .int 0, .null])), (fl, .inl (cZ, 6, .inl (fun _ => 0)))] sz) (va_Qi (fun (r : Int32) (u : Unit) => (r = 0)) (fun (u : Unit) (t : State) => va_P D vwCl ([] : va_W) t.heap ∧ va_D (va_A [(st, .inr (8, [.ref lt, .ref tb, .ref fl, .ref wt, .int 0, .null])), (fl, .inl (cZ, 6, .inl (fun _ => 0)))] sz) ([] : va_W)) (va_A [(st, .inr (8, [.ref lt, .ref tb, .ref fl, .ref wt, .int 0, .null])), (fl, .inl (cZ, 6, .inl (fun _ => 0)))] sz)) 0 0 (va_A [(st, .inr (8, [.ref lt, .ref tb, .ref fl, .ref wt, .int 0, .null])), (fl, .inl (cZ, 6, .inl (fun _ => 0)))] sz) := by
  refine Met.ofW (cc := cX8_countTables) (maxL := 3) (ret := (some .int)) (by decide) rfl ?_
  intro p e s m args below meth c s₁ B hml hv
  obtain ⟨rfl, hsz, hP, hK, hD0, hE, hV⟩ := hv
  have hx := B.exec
  have hb := B.bytes
  have hr := B.returns
  have hts := atoms_spec (ws := wk_X8_countTables) B.pre
  have hown : s.vm.findClass RX8 = some m.cls := findClass_of_methodNamed B.named
  have hlocks := B.notSynchronized
  have i_X8 : ∀ w ∈ wsX80, w ∈ wk_X8_countTables := fun _ h => List.mem_cons_of_mem _ (List.mem_append_right _ h)
  have w_1 := hts (.fieldLink RX8 21 "DocumentSpanner$State" "filled" "[Z") (List.mem_of_getElem? (i := 1) rfl)
  subst hsz
  have hD := hD0.self (sz := s.heap.size)
  generalize hAe : va_A [(st, .inr (8, [.ref lt, .ref tb, .ref fl, .ref wt, .int 0, .null])), (fl, .inl (cZ, 6, .inl (fun _ => 0)))] s.heap.size = A at hD hE ⊢
  have hA : ∀ q : Nat, s.heap.size ≤ q → A q := fun q h => by rw [← hAe]; exact Or.inr h
  have hS : va_S A s.heap s.heap [] := va_S.rf
  have hP : va_P D vwCl [(st, .inr (8, [.ref lt, .ref tb, .ref fl, .ref wt, .int 0, .null])), (fl, .inl (cZ, 6, .inl (fun _ => 0)))] s.heap := hP
  have hl := lv_entry ([.ref st]) (n := 3) (Nat.le_of_ble_eq_true rfl)
  rw [lg_entry_eq]
  generalize (lg_sl ([.ref st]) ++ List.replicate (3 - (lg_sl ([.ref st])).length) Slot.unset).toArray = ls at hl ⊢
  have hl : lv_has ls 3 [(0, .ref st)] := hl
  refine lv_iconst (v := 0) hx hb dX8_countTables_0 (by decide) ?_
  refine lv_istore_n (lv' := [(1, .int 0), (0, .ref st)]) hx hb dX8_countTables_1 rfl hl (by decide) rfl (fun ls hl => ?_)
  refine lv_iconst (v := 0) hx hb dX8_countTables_2 (by decide) ?_
  refine lv_istore_n (lv' := [(2, .int 0), (1, .int 0), (0, .ref st)]) hx hb dX8_countTables_3 rfl hl (by decide) rfl (fun ls hl => ?_)
  refine lv_iload_n hx hb dX8_countTables_4 rfl (lv_at hl 0 rfl) ?_
  refine lv_bipush (v := 6) hx hb dX8_countTables_5 (by decide) ?_
  refine lv_icmp_ge (tgt := 28) hx hb dX8_countTables_7 (by decide) (fun h9 => absurd h9 (by decide)) (fun _ => ?_)
  refine lv_aload_n hx hb dX8_countTables_10 rfl (lv_at hl 2 rfl) ?_
  refine va_get (D := D) (ci := 8) (v := .ref fl) (C := RX8) (T := TX8) (N := 6) hx hb hts i_X8 hown hK hP 0 rfl rfl 2 (by decide) w_1 (fun _ h9 => h9) rfl dX8_countTables_11 ?_
  refine lv_iload_n hx hb dX8_countTables_14 rfl (lv_at hl 0 rfl) ?_
  refine va_zald hx hb hK hP 1 2 rfl rfl (i := 0) (vp_in_iff.mpr ⟨by decide, by decide⟩) dX8_countTables_15 ?_
  refine W.eq (g2 := F0 m 16 ls [.int 0]) rfl ?_
  refine lv_if_eq (tgt := 22) hx hb dX8_countTables_16 (by decide) (fun _ => ?_) (fun h9 => absurd h9 (by decide))
  refine lv_iinc (v := 1) (lv' := [(2, .int 1), (1, .int 0), (0, .ref st)]) hx hb dX8_countTables_22 hl (k := 0) rfl (by decide) (by decide) rfl (fun ls hl => ?_)
  refine lv_goto (tgt := 4) hx hb dX8_countTables_25 (by decide) ?_
  refine lv_iload_n hx hb dX8_countTables_4 rfl (lv_at hl 0 rfl) ?_
  refine lv_bipush (v := 6) hx hb dX8_countTables_5 (by decide) ?_
  refine lv_icmp_ge (tgt := 28) hx hb dX8_countTables_7 (by decide) (fun h9 => absurd h9 (by decide)) (fun _ => ?_)
  refine lv_aload_n hx hb dX8_countTables_10 rfl (lv_at hl 2 rfl) ?_
  refine va_get (D := D) (ci := 8) (v := .ref fl) (C := RX8) (T := TX8) (N := 6) hx hb hts i_X8 hown hK hP 0 rfl rfl 2 (by decide) w_1 (fun _ h9 => h9) rfl dX8_countTables_11 ?_
  refine lv_iload_n hx hb dX8_countTables_14 rfl (lv_at hl 0 rfl) ?_
  refine va_zald hx hb hK hP 1 2 rfl rfl (i := 1) (vp_in_iff.mpr ⟨by decide, by decide⟩) dX8_countTables_15 ?_
  refine W.eq (g2 := F0 m 16 ls [.int 0]) rfl ?_
  refine lv_if_eq (tgt := 22) hx hb dX8_countTables_16 (by decide) (fun _ => ?_) (fun h9 => absurd h9 (by decide))
  refine lv_iinc (v := 2) (lv' := [(2, .int 2), (1, .int 0), (0, .ref st)]) hx hb dX8_countTables_22 hl (k := 0) rfl (by decide) (by decide) rfl (fun ls hl => ?_)
  refine lv_goto (tgt := 4) hx hb dX8_countTables_25 (by decide) ?_
  refine lv_iload_n hx hb dX8_countTables_4 rfl (lv_at hl 0 rfl) ?_
  refine lv_bipush (v := 6) hx hb dX8_countTables_5 (by decide) ?_
  refine lv_icmp_ge (tgt := 28) hx hb dX8_countTables_7 (by decide) (fun h9 => absurd h9 (by decide)) (fun _ => ?_)
  refine lv_aload_n hx hb dX8_countTables_10 rfl (lv_at hl 2 rfl) ?_
  refine va_get (D := D) (ci := 8) (v := .ref fl) (C := RX8) (T := TX8) (N := 6) hx hb hts i_X8 hown hK hP 0 rfl rfl 2 (by decide) w_1 (fun _ h9 => h9) rfl dX8_countTables_11 ?_
  refine lv_iload_n hx hb dX8_countTables_14 rfl (lv_at hl 0 rfl) ?_
  refine va_zald hx hb hK hP 1 2 rfl rfl (i := 2) (vp_in_iff.mpr ⟨by decide, by decide⟩) dX8_countTables_15 ?_
  refine W.eq (g2 := F0 m 16 ls [.int 0]) rfl ?_
  refine lv_if_eq (tgt := 22) hx hb dX8_countTables_16 (by decide) (fun _ => ?_) (fun h9 => absurd h9 (by decide))
  refine lv_iinc (v := 3) (lv' := [(2, .int 3), (1, .int 0), (0, .ref st)]) hx hb dX8_countTables_22 hl (k := 0) rfl (by decide) (by decide) rfl (fun ls hl => ?_)
  refine lv_goto (tgt := 4) hx hb dX8_countTables_25 (by decide) ?_
  refine lv_iload_n hx hb dX8_countTables_4 rfl (lv_at hl 0 rfl) ?_
  refine lv_bipush (v := 6) hx hb dX8_countTables_5 (by decide) ?_
  refine lv_icmp_ge (tgt := 28) hx hb dX8_countTables_7 (by decide) (fun h9 => absurd h9 (by decide)) (fun _ => ?_)
  refine lv_aload_n hx hb dX8_countTables_10 rfl (lv_at hl 2 rfl) ?_
  refine va_get (D := D) (ci := 8) (v := .ref fl) (C := RX8) (T := TX8) (N := 6) hx hb hts i_X8 hown hK hP 0 rfl rfl 2 (by decide) w_1 (fun _ h9 => h9) rfl dX8_countTables_11 ?_
  refine lv_iload_n hx hb dX8_countTables_14 rfl (lv_at hl 0 rfl) ?_
  refine va_zald hx hb hK hP 1 2 rfl rfl (i := 3) (vp_in_iff.mpr ⟨by decide, by decide⟩) dX8_countTables_15 ?_
  refine W.eq (g2 := F0 m 16 ls [.int 0]) rfl ?_
  refine lv_if_eq (tgt := 22) hx hb dX8_countTables_16 (by decide) (fun _ => ?_) (fun h9 => absurd h9 (by decide))
  refine lv_iinc (v := 4) (lv' := [(2, .int 4), (1, .int 0), (0, .ref st)]) hx hb dX8_countTables_22 hl (k := 0) rfl (by decide) (by decide) rfl (fun ls hl => ?_)
  refine lv_goto (tgt := 4) hx hb dX8_countTables_25 (by decide) ?_
  refine lv_iload_n hx hb dX8_countTables_4 rfl (lv_at hl 0 rfl) ?_
  refine lv_bipush (v := 6) hx hb dX8_countTables_5 (by decide) ?_
  refine lv_icmp_ge (tgt := 28) hx hb dX8_countTables_7 (by decide) (fun h9 => absurd h9 (by decide)) (fun _ => ?_)
  refine lv_aload_n hx hb dX8_countTables_10 rfl (lv_at hl 2 rfl) ?_
  refine va_get (D := D) (ci := 8) (v := .ref fl) (C := RX8) (T := TX8) (N := 6) hx hb hts i_X8 hown hK hP 0 rfl rfl 2 (by decide) w_1 (fun _ h9 => h9) rfl dX8_countTables_11 ?_
  refine lv_iload_n hx hb dX8_countTables_14 rfl (lv_at hl 0 rfl) ?_
  refine va_zald hx hb hK hP 1 2 rfl rfl (i := 4) (vp_in_iff.mpr ⟨by decide, by decide⟩) dX8_countTables_15 ?_
  refine W.eq (g2 := F0 m 16 ls [.int 0]) rfl ?_
  refine lv_if_eq (tgt := 22) hx hb dX8_countTables_16 (by decide) (fun _ => ?_) (fun h9 => absurd h9 (by decide))
  refine lv_iinc (v := 5) (lv' := [(2, .int 5), (1, .int 0), (0, .ref st)]) hx hb dX8_countTables_22 hl (k := 0) rfl (by decide) (by decide) rfl (fun ls hl => ?_)
  refine lv_goto (tgt := 4) hx hb dX8_countTables_25 (by decide) ?_
  refine lv_iload_n hx hb dX8_countTables_4 rfl (lv_at hl 0 rfl) ?_
  refine lv_bipush (v := 6) hx hb dX8_countTables_5 (by decide) ?_
  refine lv_icmp_ge (tgt := 28) hx hb dX8_countTables_7 (by decide) (fun h9 => absurd h9 (by decide)) (fun _ => ?_)
  refine lv_aload_n hx hb dX8_countTables_10 rfl (lv_at hl 2 rfl) ?_
  refine va_get (D := D) (ci := 8) (v := .ref fl) (C := RX8) (T := TX8) (N := 6) hx hb hts i_X8 hown hK hP 0 rfl rfl 2 (by decide) w_1 (fun _ h9 => h9) rfl dX8_countTables_11 ?_
  refine lv_iload_n hx hb dX8_countTables_14 rfl (lv_at hl 0 rfl) ?_
  refine va_zald hx hb hK hP 1 2 rfl rfl (i := 5) (vp_in_iff.mpr ⟨by decide, by decide⟩) dX8_countTables_15 ?_
  refine W.eq (g2 := F0 m 16 ls [.int 0]) rfl ?_
  refine lv_if_eq (tgt := 22) hx hb dX8_countTables_16 (by decide) (fun _ => ?_) (fun h9 => absurd h9 (by decide))
  refine lv_iinc (v := 6) (lv' := [(2, .int 6), (1, .int 0), (0, .ref st)]) hx hb dX8_countTables_22 hl (k := 0) rfl (by decide) (by decide) rfl (fun ls hl => ?_)
  refine lv_goto (tgt := 4) hx hb dX8_countTables_25 (by decide) ?_
  refine lv_iload_n hx hb dX8_countTables_4 rfl (lv_at hl 0 rfl) ?_
  refine lv_bipush (v := 6) hx hb dX8_countTables_5 (by decide) ?_
  refine lv_icmp_ge (tgt := 28) hx hb dX8_countTables_7 (by decide) (fun _ => ?_) (fun h9 => absurd h9 (by decide))
  refine lv_iload_n hx hb dX8_countTables_28 rfl (lv_at hl 1 rfl) ?_
  have hP9 := hP.sub (ws' := []) [] rfl
  have hD9 := hD.sub (ws' := []) [] (by decide) rfl
  refine W.widen (k := 0) (n := 0) (Nat.le_of_ble_eq_true rfl) (Nat.le_of_ble_eq_true rfl) ?_
  exact W.iret (v := 0) hx hb hr (fun t ht hW => ⟨⟨0, (), rfl, rfl, by rw [ht]; exact hP9, hD9⟩, hS.F ht⟩) hS.2.2 dX8_countTables_29
def wk_X10_save : List Cond := .code yX10_save cX10_save 1 (some .int) :: (([.fieldLink RX10 16 "DocumentSpanner" "kept" "LDocumentSpanner$State;", .fieldLink RX10 12 "DocumentSpanner" "state" "LDocumentSpanner$State;", .fieldLink RX10 19 "DocumentSpanner" "isKept" "Z", .methodLink RX10 314 yX8_copyFrom, .instanceMethod yX8_copyFrom, .selects RX8 yX8_copyFrom yX8_copyFrom, .initialized RX8, .code yX8_copyFrom cX8_copyFrom 3 none, .fieldLink RX8 9 "DocumentSpanner$State" "letters" "[I", .methodLink RX8 37 arraycopyName, .native arraycopyName, .static arraycopyName, .initialized "java/lang/System", .fieldLink RX8 25 "DocumentSpanner$State" "weights" "[I", .fieldLink RX8 28 "DocumentSpanner$State" "length" "I", .fieldLink RX8 32 "DocumentSpanner$State" "formula" "LDocumentSpanner$Formula;", .fieldLink RX8 21 "DocumentSpanner$State" "filled" "[Z", .methodLink RX10 317 yX8_countTables, .instanceMethod yX8_countTables, .selects RX8 yX8_countTables yX8_countTables, .code yX8_countTables cX8_countTables 3 (some .int)] : List Cond) ++ wsX100 ++ wsX80)
set_option maxRecDepth 20000 in
theorem ggk_X10_save_X8_copyFrom : GoodIn wk_X10_save wk_X8_copyFrom := goodIn_ca (goodIn_r _ [8, 9, 10, 11, 12, 13, 14, 15, 16, 17] (by decide +kernel) (by decide +kernel)) (goodIn_sub (fun _ h => List.mem_cons_of_mem _ (List.mem_append_right _ h)) (by decide +kernel))
set_option maxRecDepth 20000 in
theorem gk_X10_save_X8_copyFrom : GoodIn wk_X10_save (wsV RX10 314 RX8 yX8_copyFrom wk_X8_copyFrom) := goodIn_app (goodIn_r _ [4, 5, 6, 7] (by decide +kernel) (by decide +kernel)) ggk_X10_save_X8_copyFrom
set_option maxRecDepth 20000 in
theorem ggk_X10_save_X8_countTables : GoodIn wk_X10_save wk_X8_countTables := goodIn_ca (goodIn_r _ [21, 17] (by decide +kernel) (by decide +kernel)) (goodIn_sub (fun _ h => List.mem_cons_of_mem _ (List.mem_append_right _ h)) (by decide +kernel))
set_option maxRecDepth 20000 in
theorem gk_X10_save_X8_countTables : GoodIn wk_X10_save (wsV RX10 317 RX8 yX8_countTables wk_X8_countTables) := goodIn_app (goodIn_r _ [18, 19, 20, 7] (by decide +kernel) (by decide +kernel)) ggk_X10_save_X8_countTables
set_option maxHeartbeats 4000000 in
set_option maxRecDepth 100000 in
theorem k_X10_save (l : Launch) (htr : l.stackTraces = false) (D : va_G) (cI cJ cZ : ClassId) (x : Nat) (st : Nat) (kp : Nat) (bf : Nat) (o1 : Nat) (o2 : Nat) (o3 : Nat) (o4 : Nat) (o5 : Nat) (o6 : Nat) (lt : Nat) (tb : Nat) (fl : Nat) (wt : Nat) (klt : Nat) (ktb : Nat) (kfl : Nat) (kwt : Nat) (sz : Nat) : Met l yX10_save wk_X10_save ({ frames := 2, cells := 0, slots := 0, locals := 82 }) (xPc D cI cJ cZ [.ref x] [(x, .inr (9, [.ref st, .ref kp, .int 0, .ref bf, .int 0, .int (-1), .int (-1), .int 0, .ref o1, .ref o2, .ref o3, .ref o4, .ref o5, .ref o6])), (kp, .inr (8, [.ref klt, .ref ktb, .ref kfl, .ref kwt, .int 0, .null])), (st, .inr (8, [.ref lt, .ref tb, .ref fl, .ref wt, .int 0, .null])), (lt, .inl (cI, 8, .inl (fun _ => 0))), (klt, .inl (cI, 8, .inl (fun _ => 0))), (wt, .inl (cI, 3, .inl (fun _ => 1))), (kwt, .inl (cI, 3, .inl (fun _ => 1))), (fl, .inl (cZ, 6, .inl (fun _ => 0))), (kfl, .inl (cZ, 6, .inl (fun _ => 0)))] sz) (va_Qi (fun (r : Int32) (u : Unit) => (r = 0)) (fun (u : Unit) (t : State) => va_P D vwCl ([] : va_W) t.heap ∧ va_D (va_A [(x, .inr (9, [.ref st, .ref kp, .int 0, .ref bf, .int 0, .int (-1), .int (-1), .int 0, .ref o1, .ref o2, .ref o3, .ref o4, .ref o5, .ref o6])), (kp, .inr (8, [.ref klt, .ref ktb, .ref kfl, .ref kwt, .int 0, .null])), (st, .inr (8, [.ref lt, .ref tb, .ref fl, .ref wt, .int 0, .null])), (lt, .inl (cI, 8, .inl (fun _ => 0))), (klt, .inl (cI, 8, .inl (fun _ => 0))), (wt, .inl (cI, 3, .inl (fun _ => 1))), (kwt, .inl (cI, 3, .inl (fun _ => 1))), (fl, .inl (cZ, 6, .inl (fun _ => 0))), (kfl, .inl (cZ, 6, .inl (fun _ => 0)))] sz) ([] : va_W)) (va_A [(x, .inr (9, [.ref st, .ref kp, .int 0, .ref bf, .int 0, .int (-1), .int (-1), .int 0, .ref o1, .ref o2, .ref o3, .ref o4, .ref o5, .ref o6])), (kp, .inr (8, [.ref klt, .ref ktb, .ref kfl, .ref kwt, .int 0, .null])), (st, .inr (8, [.ref lt, .ref tb, .ref fl, .ref wt, .int 0, .null])), (lt, .inl (cI, 8, .inl (fun _ => 0))), (klt, .inl (cI, 8, .inl (fun _ => 0))), (wt, .inl (cI, 3, .inl (fun _ => 1))), (kwt, .inl (cI, 3, .inl (fun _ => 1))), (fl, .inl (cZ, 6, .inl (fun _ => 0))), (kfl, .inl (cZ, 6, .inl (fun _ => 0)))] sz)) 0 0 (va_A [(x, .inr (9, [.ref st, .ref kp, .int 0, .ref bf, .int 0, .int (-1), .int (-1), .int 0, .ref o1, .ref o2, .ref o3, .ref o4, .ref o5, .ref o6])), (kp, .inr (8, [.ref klt, .ref ktb, .ref kfl, .ref kwt, .int 0, .null])), (st, .inr (8, [.ref lt, .ref tb, .ref fl, .ref wt, .int 0, .null])), (lt, .inl (cI, 8, .inl (fun _ => 0))), (klt, .inl (cI, 8, .inl (fun _ => 0))), (wt, .inl (cI, 3, .inl (fun _ => 1))), (kwt, .inl (cI, 3, .inl (fun _ => 1))), (fl, .inl (cZ, 6, .inl (fun _ => 0))), (kfl, .inl (cZ, 6, .inl (fun _ => 0)))] sz) := by
  refine Met.ofW (cc := cX10_save) (maxL := 1) (ret := (some .int)) (by decide) rfl ?_
  intro p e s m args below meth c s₁ B hml hv
  obtain ⟨rfl, hsz, hP, hK, hD0, hE, hV⟩ := hv
  have hx := B.exec
  have hb := B.bytes
  have hr := B.returns
  have hts := atoms_spec (ws := wk_X10_save) B.pre
  have hown : s.vm.findClass RX10 = some m.cls := findClass_of_methodNamed B.named
  have hlocks := B.notSynchronized
  have i_X10 : ∀ w ∈ wsX100, w ∈ wk_X10_save := fun _ h => List.mem_cons_of_mem _ (List.mem_append_left _ (List.mem_append_right _ h))
  have w_1 := hts (.fieldLink RX10 16 "DocumentSpanner" "kept" "LDocumentSpanner$State;") (List.mem_of_getElem? (i := 1) rfl)
  have w_2 := hts (.fieldLink RX10 12 "DocumentSpanner" "state" "LDocumentSpanner$State;") (List.mem_of_getElem? (i := 2) rfl)
  have w_3 := hts (.fieldLink RX10 19 "DocumentSpanner" "isKept" "Z") (List.mem_of_getElem? (i := 3) rfl)
  subst hsz
  have hD := hD0.self (sz := s.heap.size)
  generalize hAe : va_A [(x, .inr (9, [.ref st, .ref kp, .int 0, .ref bf, .int 0, .int (-1), .int (-1), .int 0, .ref o1, .ref o2, .ref o3, .ref o4, .ref o5, .ref o6])), (kp, .inr (8, [.ref klt, .ref ktb, .ref kfl, .ref kwt, .int 0, .null])), (st, .inr (8, [.ref lt, .ref tb, .ref fl, .ref wt, .int 0, .null])), (lt, .inl (cI, 8, .inl (fun _ => 0))), (klt, .inl (cI, 8, .inl (fun _ => 0))), (wt, .inl (cI, 3, .inl (fun _ => 1))), (kwt, .inl (cI, 3, .inl (fun _ => 1))), (fl, .inl (cZ, 6, .inl (fun _ => 0))), (kfl, .inl (cZ, 6, .inl (fun _ => 0)))] s.heap.size = A at hD hE ⊢
  have hA : ∀ q : Nat, s.heap.size ≤ q → A q := fun q h => by rw [← hAe]; exact Or.inr h
  have hS : va_S A s.heap s.heap [] := va_S.rf
  have hP : va_P D vwCl [(x, .inr (9, [.ref st, .ref kp, .int 0, .ref bf, .int 0, .int (-1), .int (-1), .int 0, .ref o1, .ref o2, .ref o3, .ref o4, .ref o5, .ref o6])), (kp, .inr (8, [.ref klt, .ref ktb, .ref kfl, .ref kwt, .int 0, .null])), (st, .inr (8, [.ref lt, .ref tb, .ref fl, .ref wt, .int 0, .null])), (lt, .inl (cI, 8, .inl (fun _ => 0))), (klt, .inl (cI, 8, .inl (fun _ => 0))), (wt, .inl (cI, 3, .inl (fun _ => 1))), (kwt, .inl (cI, 3, .inl (fun _ => 1))), (fl, .inl (cZ, 6, .inl (fun _ => 0))), (kfl, .inl (cZ, 6, .inl (fun _ => 0)))] s.heap := hP
  have hl := lv_entry ([.ref x]) (n := 1) (Nat.le_of_ble_eq_true rfl)
  rw [lg_entry_eq]
  generalize (lg_sl ([.ref x]) ++ List.replicate (1 - (lg_sl ([.ref x])).length) Slot.unset).toArray = ls at hl ⊢
  have hl : lv_has ls 1 [(0, .ref x)] := hl
  refine lv_aload_n hx hb dX10_save_0 rfl (lv_at hl 0 rfl) ?_
  refine va_get (D := D) (ci := 9) (v := .ref kp) (C := RX10) (T := TX10) (N := 14) hx hb hts i_X10 hown hK hP 0 rfl rfl 1 (by decide) w_1 (fun _ h9 => h9) rfl dX10_save_1 ?_
  refine lv_aload_n hx hb dX10_save_4 rfl (lv_at hl 0 rfl) ?_
  refine va_get (D := D) (ci := 9) (v := .ref st) (C := RX10) (T := TX10) (N := 14) hx hb hts i_X10 hown hK hP 0 rfl rfl 0 (by decide) w_2 (fun _ h9 => h9) rfl dX10_save_5 ?_
  have hPc := hP.sub (ws' := [(kp, .inr (8, [.ref klt, .ref ktb, .ref kfl, .ref kwt, .int 0, .null])), (st, .inr (8, [.ref lt, .ref tb, .ref fl, .ref wt, .int 0, .null])), (lt, .inl (cI, 8, .inl (fun _ => 0))), (klt, .inl (cI, 8, .inl (fun _ => 0))), (wt, .inl (cI, 3, .inl (fun _ => 1))), (kwt, .inl (cI, 3, .inl (fun _ => 1))), (fl, .inl (cZ, 6, .inl (fun _ => 0))), (kfl, .inl (cZ, 6, .inl (fun _ => 0)))]) [1, 2, 3, 4, 5, 6, 7, 8] rfl
  have hDc := hD.sub (ws' := [(kp, .inr (8, [.ref klt, .ref ktb, .ref kfl, .ref kwt, .int 0, .null])), (st, .inr (8, [.ref lt, .ref tb, .ref fl, .ref wt, .int 0, .null])), (lt, .inl (cI, 8, .inl (fun _ => 0))), (klt, .inl (cI, 8, .inl (fun _ => 0))), (wt, .inl (cI, 3, .inl (fun _ => 1))), (kwt, .inl (cI, 3, .inl (fun _ => 1))), (fl, .inl (cZ, 6, .inl (fun _ => 0))), (kfl, .inl (cZ, 6, .inl (fun _ => 0)))]) [1, 2, 3, 4, 5, 6, 7, 8] (by decide) rfl
  have hFc := va_free (wc := [(kp, .inr (8, [.ref klt, .ref ktb, .ref kfl, .ref kwt, .int 0, .null])), (st, .inr (8, [.ref lt, .ref tb, .ref fl, .ref wt, .int 0, .null])), (lt, .inl (cI, 8, .inl (fun _ => 0))), (klt, .inl (cI, 8, .inl (fun _ => 0))), (wt, .inl (cI, 3, .inl (fun _ => 1))), (kwt, .inl (cI, 3, .inl (fun _ => 1))), (fl, .inl (cZ, 6, .inl (fun _ => 0))), (kfl, .inl (cZ, 6, .inl (fun _ => 0)))]) hD hS hA [1, 2, 3, 4, 5, 6, 7, 8] rfl
  refine va_callv (va_runV (As := [.ref st]) (rest := []) ⟨hx, hb, hml, hown, hts⟩ (k_X8_copyFrom l htr D cI cJ cZ kp st klt ktb kfl kwt lt tb fl wt s.heap.size) (cwV 1 hts gk_X10_save_X8_copyFrom rfl rfl rfl (by decide +kernel) ⟨Nat.le_of_ble_eq_true rfl, Nat.le_of_ble_eq_true rfl⟩) ⟨xPc_blind, va_recv hK hP (ci := 8) (q0 := 1) rfl rfl, xPc_pre hPc hK hDc hE hS hFc hV⟩ rfl rfl hl.1 rfl (lv_room (Nat.le_of_ble_eq_true rfl)) dX10_save_8 ⟨Nat.le_of_ble_eq_true rfl, Nat.le_of_ble_eq_true rfl⟩) hS (fun q _ h => hFc q h) hFc (fun u t H_1 locs ht hvm hw hB hz1 hk1 hS => ?_)
  rcases hw with -
  obtain ⟨hP1, hD1⟩ := hB
  rw [ht] at hP1
  obtain ⟨hP, hD⟩ := va_join (wr := [(x, .inr (9, [.ref st, .ref kp, .int 0, .ref bf, .int 0, .int (-1), .int (-1), .int 0, .ref o1, .ref o2, .ref o3, .ref o4, .ref o5, .ref o6]))]) (w1 := [(st, .inr (8, [.ref lt, .ref tb, .ref fl, .ref wt, .int 0, .null])), (fl, .inl (cZ, 6, .inl (fun _ => 0)))]) hP hD [1, 2, 3, 4, 5, 6, 7, 8] [0] rfl rfl (by decide) (by decide) hk1 hFc hP1 hD1
  have hP : va_P D vwCl [(x, .inr (9, [.ref st, .ref kp, .int 0, .ref bf, .int 0, .int (-1), .int (-1), .int 0, .ref o1, .ref o2, .ref o3, .ref o4, .ref o5, .ref o6])), (st, .inr (8, [.ref lt, .ref tb, .ref fl, .ref wt, .int 0, .null])), (fl, .inl (cZ, 6, .inl (fun _ => 0)))] H_1 := hP
  have hD : va_D A [(x, .inr (9, [.ref st, .ref kp, .int 0, .ref bf, .int 0, .int (-1), .int (-1), .int 0, .ref o1, .ref o2, .ref o3, .ref o4, .ref o5, .ref o6])), (st, .inr (8, [.ref lt, .ref tb, .ref fl, .ref wt, .int 0, .null])), (fl, .inl (cZ, 6, .inl (fun _ => 0)))] := hD
  refine W.widen (k := 0) (n := 0) (Nat.le_of_ble_eq_true rfl) (Nat.le_of_ble_eq_true rfl) ?_
  refine lv_aload_n hx hb dX10_save_11 rfl (lv_at hl 0 rfl) ?_
  refine lv_iconst (v := 1) hx hb dX10_save_12 (by decide) ?_
  refine va_put (D := D) (ci := 9) (v := .int 1) (ty := .boolean) (C := RX10) (T := TX10) (N := 14) hx hb hts i_X10 tyX10 tyX10_ok nmX10 hown hK hP hD hS 0 rfl rfl 2 (by decide) w_3 (fun _ h9 => h9) rfl (by decide +kernel) rfl rfl (Nat.le_of_ble_eq_true rfl) dX10_save_13 (fun H_2 locs hP hD hS => ?_)
  have hP : va_P D vwCl [(x, .inr (9, [.ref st, .ref kp, .int 1, .ref bf, .int 0, .int (-1), .int (-1), .int 0, .ref o1, .ref o2, .ref o3, .ref o4, .ref o5, .ref o6])), (st, .inr (8, [.ref lt, .ref tb, .ref fl, .ref wt, .int 0, .null])), (fl, .inl (cZ, 6, .inl (fun _ => 0)))] H_2 := hP
  have hD : va_D A [(x, .inr (9, [.ref st, .ref kp, .int 1, .ref bf, .int 0, .int (-1), .int (-1), .int 0, .ref o1, .ref o2, .ref o3, .ref o4, .ref o5, .ref o6])), (st, .inr (8, [.ref lt, .ref tb, .ref fl, .ref wt, .int 0, .null])), (fl, .inl (cZ, 6, .inl (fun _ => 0)))] := hD
  refine lv_aload_n hx hb dX10_save_16 rfl (lv_at hl 0 rfl) ?_
  refine va_get (D := D) (ci := 9) (v := .ref st) (C := RX10) (T := TX10) (N := 14) hx hb hts i_X10 hown hK hP 0 rfl rfl 0 (by decide) w_2 (fun _ h9 => h9) rfl dX10_save_17 ?_
  have hPc := hP.sub (ws' := [(st, .inr (8, [.ref lt, .ref tb, .ref fl, .ref wt, .int 0, .null])), (fl, .inl (cZ, 6, .inl (fun _ => 0)))]) [1, 2] rfl
  have hDc := hD.sub (ws' := [(st, .inr (8, [.ref lt, .ref tb, .ref fl, .ref wt, .int 0, .null])), (fl, .inl (cZ, 6, .inl (fun _ => 0)))]) [1, 2] (by decide) rfl
  have hFc := va_free (wc := [(st, .inr (8, [.ref lt, .ref tb, .ref fl, .ref wt, .int 0, .null])), (fl, .inl (cZ, 6, .inl (fun _ => 0)))]) hD hS hA [1, 2] rfl
  refine va_calli (va_runV (As := []) (rest := []) ⟨hx, hb, hml, hown, hts⟩ (k_X8_countTables l htr D cI cJ cZ st lt tb fl wt H_2.size) (cwV 0 hts gk_X10_save_X8_countTables rfl rfl rfl (by decide +kernel) ⟨Nat.le_of_ble_eq_true rfl, Nat.le_of_ble_eq_true rfl⟩) ⟨xPc_blind, va_recv hK hP (ci := 8) (q0 := 1) rfl rfl, xPc_pre hPc hK hDc hE hS hFc hV⟩ rfl rfl hl.1 rfl (lv_room (Nat.le_of_ble_eq_true rfl)) dX10_save_20 ⟨Nat.le_of_ble_eq_true rfl, Nat.le_of_ble_eq_true rfl⟩) hS (fun q _ h => hFc q h) hFc (fun r u t H_3 locs ht hvm hw hB hz1 hk1 hS => ?_)
  rcases hw with rfl
  obtain ⟨hP1, hD1⟩ := hB
  rw [ht] at hP1
  obtain ⟨hP, hD⟩ := va_join (wr := [(x, .inr (9, [.ref st, .ref kp, .int 1, .ref bf, .int 0, .int (-1), .int (-1), .int 0, .ref o1, .ref o2, .ref o3, .ref o4, .ref o5, .ref o6]))]) (w1 := []) hP hD [1, 2] [0] rfl rfl (by decide) (by decide) hk1 hFc hP1 hD1
  have hP : va_P D vwCl [(x, .inr (9, [.ref st, .ref kp, .int 1, .ref bf, .int 0, .int (-1), .int (-1), .int 0, .ref o1, .ref o2, .ref o3, .ref o4, .ref o5, .ref o6]))] H_3 := hP
  have hD : va_D A [(x, .inr (9, [.ref st, .ref kp, .int 1, .ref bf, .int 0, .int (-1), .int (-1), .int 0, .ref o1, .ref o2, .ref o3, .ref o4, .ref o5, .ref o6]))] := hD
  refine W.widen (k := 0) (n := 0) (Nat.le_of_ble_eq_true rfl) (Nat.le_of_ble_eq_true rfl) ?_
  have hP9 := hP.sub (ws' := []) [] rfl
  have hD9 := hD.sub (ws' := []) [] (by decide) rfl
  refine W.widen (k := 0) (n := 0) (Nat.le_of_ble_eq_true rfl) (Nat.le_of_ble_eq_true rfl) ?_
  exact W.iret (v := 0) hx hb hr (fun t ht hW => ⟨⟨0, (), rfl, rfl, by rw [ht]; exact hP9, hD9⟩, hS.F ht⟩) hS.2.2 dX10_save_23
