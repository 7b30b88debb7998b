/-! What holds at the law's entry, in the words of the contracts. -/
theorem xTr {l : Launch} (h : l.flags = flags0) : l.stackTraces = false := by
  unfold Launch.stackTraces
  rw [h]
  decide +kernel
theorem xArr {args : Array Value} {s : State} {t : FieldType} (h : (Cond.arrayClass t).before args s = true) (ho : ∀ C, t ≠ .object C) : ∃ c : ClassId, ArrOfT s c t ∧ va_RA s c t := by
  obtain ⟨c, k, comp, h1, h2, h3⟩ := Cond.arrayClass_spec h
  refine ⟨c, fun N z => ⟨(fun q hq => by cases hq), k, h2, comp, h3⟩, ?_⟩
  cases t <;> first | exact h1 | exact absurd rfl (ho _)
set_option maxRecDepth 100000 in
theorem xV_of {p : Program} {s : State} {m : MethodId} {meth : Method} {c : Code} {b L : Nat} {xs : Nat → Int32} (C0 : lw_At p s m meth c b L xs) : xV s := by
  obtain ⟨hx, hb, hr, hml, hown, hts, hX, hbl, hlocks, hgv⟩ := C0
  have hs := flat_of_before _ hgv
  have k1 : ∀ q ∈ xStrs, Cond.stringRef RX10 q.1 q.2 ∈ lw_tbl := by decide +kernel
  have k2 : ∀ q ∈ xStrs, Cond.exactly (.string RX10 q.1) "java/lang/String" ∈ flatC (Jvm.Cond.and given_1 narrow_1) := by decide +kernel
  refine ⟨fun q hq => ?_, va_AO.of (hts (.arrayOver (.object "DocumentSpanner$SortedInts")) (by decide +kernel)), va_AOA.of (hts (.arrayOver (.array .long)) (by decide +kernel)), va_AOA.of (hts (.arrayOver (.array .int)) (by decide +kernel)),
    ⟨va_Nw.of rfl (hts (.methodLinkNest RX8 36 yX7_init "DocumentSpanner") (by decide +kernel)), va_Nw.of rfl (hts (.methodLinkNest RX7 3 yX0_init "DocumentSpanner") (by decide +kernel)), va_Nw.of rfl (hts (.methodLinkNest RX10 42 yX6_init "DocumentSpanner") (by decide +kernel)), va_Nw.of rfl (hts (.methodLinkNest RX10 49 yX7_init "DocumentSpanner") (by decide +kernel)), va_Nw.of rfl (hts (.methodLinkNest RX10 56 yX4_init "DocumentSpanner") (by decide +kernel)), va_Nw.of rfl (hts (.methodLinkNest RX4 1 yX0_init "DocumentSpanner") (by decide +kernel))⟩,
    ⟨va_Nw.of rfl (hts (.castable iae iae) (by decide +kernel)), va_Nw.of rfl (hts (.castable ise ise) (by decide +kernel)), va_Nw.of rfl (hts (.castable iob iob) (by decide +kernel))⟩,
    ⟨va_Nc.of (hs (.not (.castable ise iob)) (by decide +kernel)), va_Nc.of (hs (.not (.castable ise iae)) (by decide +kernel)), va_Nc.of (hs (.not (.castable iae iob)) (by decide +kernel))⟩,
    ⟨va_Nw.of rfl (hts (.declares (Bundle.initS "java/lang/RuntimeException")) (by decide +kernel)), va_Nw.of rfl (hts (.declares (Bundle.initS "java/lang/Exception")) (by decide +kernel)), va_Nw.of rfl (hts (.declares (Bundle.initS Bundle.tN)) (by decide +kernel))⟩⟩
  obtain ⟨a, c0, cell, k, ha, -⟩ := Cond.exactly_spec (hs _ (k2 q hq))
  exact ⟨a, vk_R.of (hts _ (k1 q hq)) ha⟩
theorem xE_of {p : Program} {s : State} {m : MethodId} {meth : Method} {c : Code} {b L : Nat} {xs : Nat → Int32} (C0 : lw_At p s m meth c b L xs) : xE (fun q : Nat => s.heap.size ≤ q) s s.heap := by
  obtain ⟨hx, hb, hr, hml, hown, hts, hX, hbl, hlocks, hgv⟩ := C0
  have hs := flat_of_before _ hgv
  exact ⟨vx_Zqof (hts (.laysStatic Bundle.tN "UNASSIGNED_STACK" Bundle.steD) (by decide +kernel)) (hts (.initialized Bundle.tN) (by decide +kernel)) (hs (.isRef (.static Bundle.tN "UNASSIGNED_STACK" Bundle.steD)) (by decide +kernel)) (fun a h1 h2 => absurd h1 (Nat.not_lt.mpr h2)),
    vx_Zqof (hts (.laysStatic Bundle.tN "SUPPRESSED_SENTINEL" Bundle.listD) (by decide +kernel)) (hts (.initialized Bundle.tN) (by decide +kernel)) (hs (.isRef (.static Bundle.tN "SUPPRESSED_SENTINEL" Bundle.listD)) (by decide +kernel)) (fun a h1 h2 => absurd h1 (Nat.not_lt.mpr h2))⟩
theorem xK_of {p : Program} {s : State} {m : MethodId} {meth : Method} {c : Code} {b L : Nat} {xs : Nat → Int32} (C0 : lw_At p s m meth c b L xs) : ∃ (D : va_G) (cI cJ cZ : ClassId), va_K D vwCl (xT cI cJ cZ) s := by
  obtain ⟨hx, hb, hr, hml, hown, hts, hX, hbl, hlocks, hgv⟩ := C0
  obtain ⟨c0, iS0, hKn0⟩ := u_known (C := RJ0) (T := TJ0) (N := 2) (n := 4) hts in_J0 (hts (.instantiable RJ0 4) (by decide +kernel))
  obtain ⟨c1, iS1, hKn1⟩ := u_known (C := RJx00060) (T := TJx00060) (N := 6) (n := 6) hts in_Jx00060 (hts (.instantiable RJx00060 6) (by decide +kernel))
  obtain ⟨c2, iS2, hKn2⟩ := u_known (C := RX1) (T := TX1) (N := 8) (n := 8) hts in_X1 (hts (.instantiable RX1 8) (by decide +kernel))
  obtain ⟨c3, iS3, hKn3⟩ := u_known (C := RX2) (T := TX2) (N := 6) (n := 6) hts in_X2 (hts (.instantiable RX2 6) (by decide +kernel))
  obtain ⟨c4, iS4, hKn4⟩ := u_known (C := RX4) (T := TX4) (N := 1) (n := 1) hts in_X4 (hts (.instantiable RX4 1) (by decide +kernel))
  obtain ⟨c5, iS5, hKn5⟩ := u_known (C := RX5) (T := TX5) (N := 4) (n := 4) hts in_X5 (hts (.instantiable RX5 4) (by decide +kernel))
  obtain ⟨c6, iS6, hKn6⟩ := u_known (C := RX6) (T := TX6) (N := 8) (n := 8) hts in_X6 (hts (.instantiable RX6 8) (by decide +kernel))
  obtain ⟨c7, iS7, hKn7⟩ := u_known (C := RX7) (T := TX7) (N := 3) (n := 3) hts in_X7 (hts (.instantiable RX7 3) (by decide +kernel))
  obtain ⟨c8, iS8, hKn8⟩ := u_known (C := RX8) (T := TX8) (N := 6) (n := 6) hts in_X8 (hts (.instantiable RX8 6) (by decide +kernel))
  obtain ⟨c9, iS9, hKn9⟩ := u_known (C := RX10) (T := TX10) (N := 14) (n := 14) hts in_X10 (hts (.instantiable RX10 14) (by decide +kernel))
  obtain ⟨c10, iS10, hKn10⟩ := u_known (C := RX11) (T := TX11) (N := 48) (n := 48) hts in_X11 (hts (.instantiable RX11 48) (by decide +kernel))
  obtain ⟨cI, hI⟩ := xArr (hts (.arrayClass .int) (by decide +kernel)) (fun _ h => by cases h)
  obtain ⟨cJ, hJ⟩ := xArr (hts (.arrayClass .long) (by decide +kernel)) (fun _ h => by cases h)
  obtain ⟨cZ, hZ⟩ := xArr (hts (.arrayClass .boolean) (by decide +kernel)) (fun _ h => by cases h)
  refine ⟨(fun k => if k = 0 then c0 else if k = 1 then c1 else if k = 2 then c2 else if k = 3 then c3 else if k = 4 then c4 else if k = 5 then c5 else if k = 6 then c6 else if k = 7 then c7 else if k = 8 then c8 else if k = 9 then c9 else c10, fun k => if k = 0 then iS0 else if k = 1 then iS1 else if k = 2 then iS2 else if k = 3 then iS3 else if k = 4 then iS4 else if k = 5 then iS5 else if k = 6 then iS6 else if k = 7 then iS7 else if k = 8 then iS8 else if k = 9 then iS9 else iS10), cI, cJ, cZ, ?_, ?_⟩
  · intro k q hq
    match k, hq with
    | 0, hq => cases hq; exact hKn0
    | 1, hq => cases hq; exact hKn1
    | 2, hq => cases hq; exact hKn2
    | 3, hq => cases hq; exact hKn3
    | 4, hq => cases hq; exact hKn4
    | 5, hq => cases hq; exact hKn5
    | 6, hq => cases hq; exact hKn6
    | 7, hq => cases hq; exact hKn7
    | 8, hq => cases hq; exact hKn8
    | 9, hq => cases hq; exact hKn9
    | 10, hq => cases hq; exact hKn10
    | k + 11, hq => simp [vwCl] at hq
  · intro k q hq
    match k, hq with
    | 0, hq => cases hq; exact hI
    | 1, hq => cases hq; exact hJ
    | 2, hq => cases hq; exact hZ
    | k + 3, hq => simp at hq
/-- behind the one call: the next turn isn't taken, the law answers 1 -/
theorem law_end {p : Program} {l : Launch} {e : Env} {s : State} {m : MethodId} {below : List Frame} {meth : Method} {c : Code} {b : Nat} {xs : Nat → Int32} {A : Nat → Prop} (C0 : lw_At p s m meth c b 6 xs) (hA2 : ∀ q, A q → s.heap.size ≤ q) {H : Heap} {locs : List Loc} {cells slots : Nat} {ls : Array Slot} (hS : va_S A s.heap H locs) (hc : cells ≤ 600006) (hs : slots ≤ 7301992) (hl : lv_has ls 7 [(0, .ref b), (4, .int 0)]) :
    W p l e room_1 s m #[Value.ref b] below meth c H locs cells slots (lw_Z below #[Value.ref b] s) (F0 m 2636 ls []) := by
  obtain ⟨hx, hb, hr, hml, hown, hts, hX, hbl, hlocks, hgv⟩ := C0
  have hbA : ¬ A b := fun h => absurd (hA2 b h) (Nat.not_le.mpr hbl)
  refine lv_iinc (v := 6) (lv' := [(4, .int 6), (0, .ref b)]) hx hb dL_law_2636 hl (k := 1) rfl (by decide) (by decide) rfl (fun ls hl => ?_)
  refine lv_goto (tgt := 23) hx hb dL_law_2639 (by decide) ?_
  refine lv_iload hx hb dL_law_23 (lv_at hl 0 rfl) ?_
  refine lv_aload_n hx hb dL_law_25 rfl (lv_at hl 1 rfl) ?_
  refine va_slen hx hb hX hbl hbA hS dL_law_26 ?_
  refine lv_bipush (v := 6) hx hb dL_law_27 (by decide) ?_
  refine lv_isub hx hb dL_law_29 ?_
  refine lv_icmp_gt (tgt := 2642) hx hb dL_law_30 (by decide) (fun _ => ?_) (fun h => absurd (show Int32.ofNat 6 - 6 < 6 by decide) h)
  refine lv_iconst (v := 1) hx hb dL_law_2642 (by decide) ?_
  refine va_forget (fun q hq => hA2 _ (hS.2.2 q hq)) ?_
  refine W.widen (k := 600006) (n := 7301992) hc hs ?_
  exact lw_ret hx hb hr hlocks dL_law_2643
/-- a script of fewer than six ints: no turn -/
theorem law_stop {p : Program} {l : Launch} {e : Env} {s : State} {m : MethodId} {below : List Frame} {meth : Method} {c : Code} {b L : Nat} {xs : Nat → Int32} {A : Nat → Prop} (hL : L < 6) (C0 : lw_At p s m meth c b L xs) (hA2 : ∀ q, A q → s.heap.size ≤ q) {H : Heap} {locs : List Loc} {cells slots : Nat} {ls : Array Slot} (hS : va_S A s.heap H locs) (hc : cells ≤ 600006) (hs : slots ≤ 7301992) (hl : lv_has ls 7 [(0, .ref b), (4, .int 0)]) :
    W p l e room_1 s m #[Value.ref b] below meth c H locs cells slots (lw_Z below #[Value.ref b] s) (F0 m 23 ls []) := by
  obtain ⟨hx, hb, hr, hml, hown, hts, hX, hbl, hlocks, hgv⟩ := C0
  have hbA : ¬ A b := fun h => absurd (hA2 b h) (Nat.not_le.mpr hbl)
  refine lv_iload hx hb dL_law_23 (lv_at hl 1 rfl) ?_
  refine lv_aload_n hx hb dL_law_25 rfl (lv_at hl 0 rfl) ?_
  refine va_slen hx hb hX hbl hbA hS dL_law_26 ?_
  refine lv_bipush (v := 6) hx hb dL_law_27 (by decide) ?_
  refine lv_isub hx hb dL_law_29 ?_
  have hlt : Int32.ofNat L - 6 < 0 := by
    rcases (show L = 0 ∨ L = 1 ∨ L = 2 ∨ L = 3 ∨ L = 4 ∨ L = 5 by omega) with rfl | rfl | rfl | rfl | rfl | rfl <;> decide
  refine lv_icmp_gt (tgt := 2642) hx hb dL_law_30 (by decide) (fun _ => ?_) (fun h => absurd hlt h)
  refine lv_iconst (v := 1) hx hb dL_law_2642 (by decide) ?_
  refine va_forget (fun q hq => hA2 _ (hS.2.2 q hq)) ?_
  refine W.widen (k := 600006) (n := 7301992) hc hs ?_
  exact lw_ret hx hb hr hlocks dL_law_2643
theorem and63 (x : Int32) : 0 ≤ (x &&& 63).toInt ∧ (x &&& 63).toInt ≤ 63 := by
  have h : (x &&& 63).toInt = ((x.toBitVec &&& 63#32) : BitVec 32).toInt := rfl
  have h2 : (x.toBitVec &&& 63#32).toNat ≤ 63 := by
    rw [BitVec.toNat_and]
    exact Nat.and_le_right
  rw [h, BitVec.toInt_eq_toNat_cond]
  split <;> omega
