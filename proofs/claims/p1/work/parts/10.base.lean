/-! What every contract of this claim begins with: the tables' words that aren't in a method's own list, the statics that a new exception reads, one form of a contract's start, rows for ints by their values, new arrays of a known class. -/
/-- the statics that a new exception reads -/
def xE (A : Nat → Prop) (U : State) (H : Heap) : Prop := vx_Zq Bundle.tN "UNASSIGNED_STACK" Bundle.steD A U H ∧ vx_Zq Bundle.tN "SUPPRESSED_SENTINEL" Bundle.listD A U H
theorem xE.moved {A : Nat → Prop} {u U : State} {H : Heap} (hvm : u.vm.Alike U.vm) (h : xE A u H) : xE A U H := ⟨h.1.moved hvm, h.2.moved hvm⟩
theorem xE.kept {A : Nat → Prop} {U : State} {H H1 : Heap} (h : xE A U H) (hq : ∀ a : Nat, a < H.size → ¬ A a → H1[a]? = H[a]?) : xE A U H1 := ⟨h.1.kept hq, h.2.kept hq⟩
theorem xE.narrow {A B : Nat → Prop} {U : State} {H : Heap} (h : xE A U H) (hAB : ∀ q, B q → A q) : xE B U H := ⟨h.1.narrow hAB, h.2.narrow hAB⟩
theorem va_AOA.moved {t : FieldType} {u U : State} (hvm : u.vm.Alike U.vm) (h : va_AOA t u) : va_AOA t U := by
  obtain ⟨comp, c, k, h1, h2, h3, h4, h5⟩ := arrayOverA_spec h
  obtain ⟨k', hk', he⟩ := hvm.2.2 _ _ h3
  have hi : (U.vm.classes.findIdx? fun (x : Class) => match x.kind with | .array component _ => component == comp | _ => false) = some c := by
    have e1 := va_idx_bare U.vm comp
    have e2 := va_idx_bare u.vm comp
    first | rw [hvm.bare_eq] at e2 | rw [← hvm.bare_eq] at e2
    exact e1.symm.trans (e2.trans h2)
  have hkind : k'.kind = .array comp (.array t) := by rw [he]; exact h4
  have f1 : U.vm.findClass (FieldType.array t).toString = some comp := by rw [hvm.findClass]; exact h1
  have f2 : U.vm.findClass ("[" ++ (FieldType.array t).toString) = some c := by rw [hvm.findClass]; exact h5
  unfold va_AOA Cond.before Cond.holds
  simp only [Cond.value]
  rw [f1, Option.bind_some]
  refine (congrArg (fun o : Option Nat => (o.bind (fun c => (U.vm.classes[c]?).map fun (k : Class) => match k.kind with | .array _ ty => decide (ty = FieldType.array t) && decide (U.vm.findClass ("[" ++ (FieldType.array t).toString) = some c) | _ => false) == some true)) hi).trans ?_
  simp [hk', hkind, f2]
abbrev iae : String := "java/lang/IllegalArgumentException"
abbrev ise : String := "java/lang/IllegalStateException"
abbrev iob : String := "java/lang/IndexOutOfBoundsException"
/-- the texts of the exceptions, by their places in the class file -/
def xStrs : List (Nat × String) := [(72, "a letter is 97 to 122"), (82, "the document has 8 letters"), (93, "no letter at this position"), (100, "a character is 33 to 126"), (102, "the buffer has 40 characters"), (110, "the buffer does not contain a formula"), (136, "there is no current formula"), (196, "a slot is 0 to 5"), (198, "a variable is 0 to 2"), (200, "no such row"), (202, "there is no table in the slot"), (207, "the result has more than 200 mappings"), (236, "a set of variables is 0 to 7"), (258, "a relation is 0 to 3"), (286, "the number of rows is negative"), (291, "the cursor is closed"), (311, "a score overflows"), (321, "nothing was saved")]
/-- what the tables say beside the methods' own lists -/
def xV (U : State) : Prop :=
  (∀ q ∈ xStrs, ∃ a, vk_R RX10 q.1 q.2 a U) ∧ va_AO "DocumentSpanner$SortedInts" U ∧ va_AOA .long U ∧ va_AOA .int U ∧
  (va_Nw (.methodLinkNest RX8 36 yX7_init "DocumentSpanner") U ∧ va_Nw (.methodLinkNest RX7 3 yX0_init "DocumentSpanner") U ∧ va_Nw (.methodLinkNest RX10 42 yX6_init "DocumentSpanner") U ∧ va_Nw (.methodLinkNest RX10 49 yX7_init "DocumentSpanner") U ∧ va_Nw (.methodLinkNest RX10 56 yX4_init "DocumentSpanner") U ∧ va_Nw (.methodLinkNest RX4 1 yX0_init "DocumentSpanner") U) ∧
  (va_Nw (.castable iae iae) U ∧ va_Nw (.castable ise ise) U ∧ va_Nw (.castable iob iob) U) ∧
  (va_Nc ise iob U ∧ va_Nc ise iae U ∧ va_Nc iae iob U) ∧
  (va_Nw (.declares (Bundle.initS "java/lang/RuntimeException")) U ∧ va_Nw (.declares (Bundle.initS "java/lang/Exception")) U ∧ va_Nw (.declares (Bundle.initS Bundle.tN)) U)
theorem xV.warm {s U : State} (hW : s.WarmedH U.vm) (h : xV s) : xV U := by
  obtain ⟨h1, h2, h3, h4, ⟨n1, n2, n3, n4, n5, n6⟩, ⟨c1, c2, c3⟩, ⟨d1, d2, d3⟩, ⟨f1, f2, f3⟩⟩ := h
  exact ⟨fun q hq => (h1 q hq).imp (fun a ha => ha.warm hW), h2.moved hW.alike, h3.moved hW.alike, h4.moved hW.alike,
    ⟨n1.warmM hW, n2.warmM hW, n3.warmM hW, n4.warmM hW, n5.warmM hW, n6.warmM hW⟩, ⟨c1.warmC hW, c2.warmC hW, c3.warmC hW⟩, ⟨d1.moved hW.alike, d2.moved hW.alike, d3.moved hW.alike⟩, ⟨f1.warmD hW, f2.warmD hW, f3.warmD hW⟩⟩
theorem xV.same {u U : State} (hv : U.vm = u.vm) (h : xV u) : xV U := by
  obtain ⟨h1, h2, h3, h4, ⟨n1, n2, n3, n4, n5, n6⟩, ⟨c1, c2, c3⟩, ⟨d1, d2, d3⟩, ⟨f1, f2, f3⟩⟩ := h
  have ha : u.vm.Alike U.vm := by rw [hv]; exact Vm.Alike.refl u.vm
  exact ⟨fun q hq => (h1 q hq).imp (fun a ha => ha.same hv), h2.moved ha, h3.moved ha, h4.moved ha,
    ⟨n1.same rfl hv.symm, n2.same rfl hv.symm, n3.same rfl hv.symm, n4.same rfl hv.symm, n5.same rfl hv.symm, n6.same rfl hv.symm⟩, ⟨c1.same rfl hv.symm, c2.same rfl hv.symm, c3.same rfl hv.symm⟩, ⟨d1.moved ha, d2.moved ha, d3.moved ha⟩, ⟨f1.same rfl hv.symm, f2.same rfl hv.symm, f3.same rfl hv.symm⟩⟩
/-- the array classes: of int, long, boolean -/
abbrev xT (cI cJ cZ : ClassId) : List (ClassId × FieldType) := [(cI, .int), (cJ, .long), (cZ, .boolean)]
/-- a contract's start: the arguments, the cells -/
def xPc (D : va_G) (cI cJ cZ : ClassId) (av : List Value) (w : va_W) (sz : Nat) : Array Value → State → Prop := va_Pc av (fun U => U.heap.size = sz ∧ va_P D vwCl w U.heap ∧ va_K D vwCl (xT cI cJ cZ) U ∧ va_D (fun _ => True) w ∧ xE (va_A w sz) U U.heap ∧ xV U)
theorem xPc_blind {D : va_G} {cI cJ cZ : ClassId} {av : List Value} {w : va_W} {sz : Nat} : FrameBlind (xPc D cI cJ cZ av w sz) := fun a U g mk q => by
  obtain ⟨q0, q1, qP, qK, qD, qE, qV⟩ := q
  exact ⟨q0, q1, qP, va_K.moved (u := U) (U := U.calling g mk a) (Vm.Alike.refl U.vm) qK, qD, qE.moved (U := U.calling g mk a) (Vm.Alike.refl U.vm), xV.same (U := U.calling g mk a) rfl qV⟩
theorem xPc_pre {D : va_G} {cI cJ cZ : ClassId} {av : List Value} {wc : va_W} {s : State} {H : Heap} {A : Nat → Prop} {locs : List Loc} (hP : va_P D vwCl wc H) (hK : va_K D vwCl (xT cI cJ cZ) s) (hD : va_D A wc) (hE : xE A s s.heap) (hS : va_S A s.heap H locs) (hF : ∀ q, va_A wc H.size q → A q) (hV : xV s) :
    ∀ U : State, U.heap = H → s.WarmedH U.vm → xPc D cI cJ cZ av wc H.size av.toArray U := fun U hU hW =>
  ⟨rfl, by rw [hU], by rw [hU]; exact hP, va_K.moved hW.alike hK, hD.weaken (fun _ _ _ _ => trivial), by rw [hU]; exact ((hE.kept hS.2.1).narrow hF).moved hW.alike, hV.warm hW⟩
/-- behind a throw nothing else has changed -/
theorem xF {A : Nat → Prop} {s t : State} {H : Heap} {locs : List Loc} (hS : va_S A s.heap H locs) (h2 : H.size ≤ t.heap.size) (h3 : ∀ q : Nat, q < H.size → t.heap[q]? = H[q]?) : va_F A s t :=
  ⟨Nat.le_trans hS.1 h2, fun q a b => (h3 q (Nat.lt_of_lt_of_le a hS.1)).trans (hS.2.1 q a b)⟩
theorem xlt {a b : Int32} (h : a < b) : a.toInt < b.toInt := Int32.lt_iff_toInt_lt.mp h
theorem xle {a b : Int32} (h : a ≤ b) : a.toInt ≤ b.toInt := Int32.le_iff_toInt_le.mp h
theorem xnlt {a b : Int32} (h : ¬ a < b) : b.toInt ≤ a.toInt := by
  rw [Int32.lt_iff_toInt_lt] at h
  omega
theorem xnle {a b : Int32} (h : ¬ a ≤ b) : b.toInt < a.toInt := by
  rw [Int32.le_iff_toInt_le] at h
  omega
theorem xeq {a b : Int32} (h : a = b) : a.toInt = b.toInt := by rw [h]
theorem xne {a b : Int32} (h : ¬ a = b) : a.toInt ≠ b.toInt := fun q => h (Int32.toInt_inj.mp q)
/-- the words of a throw: the good ones out of a method's own list, the cast out of xV -/
theorem xat_74 {args : Array Value} {s : State} (h1 : ∀ w ∈ (vx_atS RX10 74 iae ["java/lang/RuntimeException", "java/lang/Exception"]).filter goodWord, w.before args s = true) (hV : xV s) : ∀ w ∈ vx_atS RX10 74 iae ["java/lang/RuntimeException", "java/lang/Exception"], w.before args s = true :=
  vx_hat (B := [Cond.castable iae iae, .declares (Bundle.initS "java/lang/RuntimeException"), .declares (Bundle.initS "java/lang/Exception"), .declares (Bundle.initS Bundle.tN)]) h1 (by decide +kernel) (vx_c (va_Nw.use rfl hV.2.2.2.2.2.1.1) (vx_c (va_Nw.use rfl hV.2.2.2.2.2.2.2.1) (vx_c (va_Nw.use rfl hV.2.2.2.2.2.2.2.2.1) (vx_c (va_Nw.use rfl hV.2.2.2.2.2.2.2.2.2) vx_n))))
theorem xat_84 {args : Array Value} {s : State} (h1 : ∀ w ∈ (vx_atS RX10 84 ise ["java/lang/RuntimeException", "java/lang/Exception"]).filter goodWord, w.before args s = true) (hV : xV s) : ∀ w ∈ vx_atS RX10 84 ise ["java/lang/RuntimeException", "java/lang/Exception"], w.before args s = true :=
  vx_hat (B := [Cond.castable ise ise, .declares (Bundle.initS "java/lang/RuntimeException"), .declares (Bundle.initS "java/lang/Exception"), .declares (Bundle.initS Bundle.tN)]) h1 (by decide +kernel) (vx_c (va_Nw.use rfl hV.2.2.2.2.2.1.2.1) (vx_c (va_Nw.use rfl hV.2.2.2.2.2.2.2.1) (vx_c (va_Nw.use rfl hV.2.2.2.2.2.2.2.2.1) (vx_c (va_Nw.use rfl hV.2.2.2.2.2.2.2.2.2) vx_n))))
theorem xat_95 {args : Array Value} {s : State} (h1 : ∀ w ∈ (vx_atS RX10 95 iob ["java/lang/RuntimeException", "java/lang/Exception"]).filter goodWord, w.before args s = true) (hV : xV s) : ∀ w ∈ vx_atS RX10 95 iob ["java/lang/RuntimeException", "java/lang/Exception"], w.before args s = true :=
  vx_hat (B := [Cond.castable iob iob, .declares (Bundle.initS "java/lang/RuntimeException"), .declares (Bundle.initS "java/lang/Exception"), .declares (Bundle.initS Bundle.tN)]) h1 (by decide +kernel) (vx_c (va_Nw.use rfl hV.2.2.2.2.2.1.2.2) (vx_c (va_Nw.use rfl hV.2.2.2.2.2.2.2.1) (vx_c (va_Nw.use rfl hV.2.2.2.2.2.2.2.2.1) (vx_c (va_Nw.use rfl hV.2.2.2.2.2.2.2.2.2) vx_n))))
theorem xgood_70_74 : ∀ w ∈ Cond.classLink RX10 70 iae :: Cond.initialized iae :: vx_atS RX10 74 iae ["java/lang/RuntimeException", "java/lang/Exception"], vx_ot w = true := by decide +kernel
theorem xgood_80_84 : ∀ w ∈ Cond.classLink RX10 80 ise :: Cond.initialized ise :: vx_atS RX10 84 ise ["java/lang/RuntimeException", "java/lang/Exception"], vx_ot w = true := by decide +kernel
theorem xgood_91_95 : ∀ w ∈ Cond.classLink RX10 91 iob :: Cond.initialized iob :: vx_atS RX10 95 iob ["java/lang/RuntimeException", "java/lang/Exception"], vx_ot w = true := by decide +kernel
section XNEW
variable {p : Program} {l : Launch} {e : Env} {R : Room} {s : State} {m : MethodId} {args : Array Value} {below : List Frame} {meth : Method} {c : Code} {H : Heap} {locs : List Loc} {cells slots : Nat} {Q : State → Prop}
variable {cc : ByteArray} {pc : Nat} {ls : Array Slot} {rest : List Value} {D : va_G} {cl : List vw_C} {A : Nat → Prop} {tys : List (ClassId × FieldType)} {ws : va_W} {H0 : Heap}
/-- a new array, its class the one that is known -/
theorem xNewa (hexec : p.tables.exec = Jvm.exec) (hb : c.code = cc) {atype : ArrayType} (harr : (Cond.arrayClass (newarray.typeOf atype)).before args s = true) {ty : FieldType} (hty : newarray.typeOf atype = ty) (hra : ∀ x : ClassId, va_RA s x ty → s.vm.findClass ("[" ++ ty.toString) = some x) (t0 : Nat) {cA : ClassId} (ht : tys[t0]? = some (cA, ty)) (hK : va_K D cl tys s) (hP : va_P D cl ws H) (hD : va_D A ws) (hS : va_S A H0 H locs) (hA : ∀ q, H0.size ≤ q → A q)
    {n : Int32} {N' : Nat} {a0 : vp_A} (ha : ∀ cA : ClassId, vp_cell cA a0 = arrV cA N' (fun _ => defaultValue ty)) (hn : ¬ n < 0) (hN : n.toNatClampNeg = N') (hbytes : N' * componentBytes ty ≤ 536870912) (hcells : cells + 1 ≤ R.cells) (hslots : slots + N' ≤ R.slots) (hdg : decode cc pc = .ok (.newarray atype, 2))
    (kk : ∀ (q : Nat) (H1 : Heap), va_P D cl (ws ++ [(q, .inl (cA, a0))]) H1 → va_D A (ws ++ [(q, .inl (cA, a0))]) → va_S A H0 H1 locs →
      W p l e R s m args below meth c H1 locs (cells + 1) (slots + N') Q (F0 m (pc + 2) ls (.ref q :: rest))) : W p l e R s m args below meth c H locs cells slots Q (F0 m pc ls (.int n :: rest)) := by
  refine va_newa hexec hb harr hty hK hP hD hS hA ha hn hN hbytes hcells hslots hdg (fun q cB H1 hK1 hP hD hS => ?_)
  have e1 := hra _ (hK1.2 tys.length (cB, ty) (by simp)).2
  have e2 := hra _ (hK.2 t0 _ ht).2
  cases Option.some.inj (e1.symm.trans e2)
  exact kk q H1 hP hD hS
end XNEW
/-! ===== BEGIN .. of methods that hand back an object of the pool ===== -/
section
variable {p : Program} {l : Launch} {e : Env} {R : Room} {s : State} {m : MethodId} {args : Array Value} {below : List Frame} {meth : Method} {c : Code} {H : Heap} {locs : List Loc} {cells slots : Nat} {Q : State → Prop}
variable {mc ms : Nat} {free : Addr → Prop} {A0 A1 : Nat → Prop} {H0 : Heap} {a : Array Value} {pc : Nat} {ls : Array Slot} {st0 rest : List Value}
theorem vx_callq {S SX : Type} {post : Option Nat → S → Prop} {px : SX → Prop} {B : S → State → Prop} {BX : String → SX → State → Prop} {AX : Nat → Prop} (hr : vx_Run p l e R s m args below meth c H locs cells slots mc ms (F0 m pc ls st0) rest (va_Qq post B A1 a) (vx_X px BX AX) free) (hS : va_S A0 H0 H locs) (hA : ∀ q, q < H.size → A1 q → A0 q) (hf : ∀ q, free q → A0 q) (hAX : ∀ q, q < H.size → AX q → A0 q)
    (kx : ∀ (E : String) (ce : Cell) (q9 : Addr) (u : SX) (t : State) (H1 : Heap) (locs1 : List Loc), t.heap = H1 → s.vm.Alike t.vm → px u → BX E u t → H.size ≤ H1.size → (∀ q : Nat, q < H.size → ¬ AX q → H1[q]? = H[q]?) → va_S A0 H0 H1 locs1 → H1[q9]? = some ce → ce.vm = .none → s.vm.findClass E = some ce.cls → vx_W p l e R s m args below meth c H1 locs1 (cells + mc) (slots + ms) Q (F0 m pc ls rest) q9)
    (kk : ∀ (r : Option Nat) (u : S) (t : State) (H1 : Heap) (locs1 : List Loc), t.heap = H1 → s.vm.Alike t.vm → post r u → B u t → H.size ≤ H1.size → (∀ q : Nat, q < H.size → ¬ A1 q → H1[q]? = H[q]?) → va_S A0 H0 H1 locs1 → W p l e R s m args below meth c H1 locs1 (cells + mc) (slots + ms) Q (F0 m (pc + 3) ls (va_rf r :: rest))) : W p l e R s m args below meth c H locs cells slots Q (F0 m pc ls st0) := by
  intro T hT X
  rcases hr T hT X with ⟨v, st₀, t, T', L, h0, X', hL, e1, e2, ⟨⟨r, u, hv, hp, hb⟩, hF⟩, st⟩ | ⟨q, st₀, t, T', L, E, ce, h0, X', hL, e1, e2, ⟨u, hp, hb, hF⟩, hce, hcv, hcl, st⟩
  · cases hv
    obtain ⟨k1, k2, k3⟩ := vx_keep h0 e1 hS hA hf hL hF
    obtain ⟨t2, a1, b1⟩ := kk r u t T'.heap (locs ++ L) e1.symm (by rw [← e2]; exact X'.warmed.alike) hp hb k1 k2 k3 T' rfl X'
    exact ⟨t2, st t2 a1, b1⟩
  · obtain ⟨k1, k2, k3⟩ := vx_keep h0 e1 hS hAX hf hL hF
    obtain ⟨t2, a1, b1⟩ := kx E ce q u t T'.heap (locs ++ L) e1.symm (by rw [← e2]; exact X'.warmed.alike) hp hb k1 k2 k3 (by rw [e1]; exact hce) hcv hcl T' rfl X'
    exact ⟨t2, st.trans a1, b1⟩
end
/-! ===== END ===== -/
theorem xpass0 {P : ExceptionTableEntry → Prop} : ∀ z ∈ tableOf [], P z := fun _ h => by cases h
theorem xpass1 {P : ExceptionTableEntry → Prop} {a : Nat × Nat × Nat × Nat} (h : P ⟨a.1, a.2.1, a.2.2.1, a.2.2.2⟩) : ∀ z ∈ tableOf [a], P z := fun z hz => by
  rcases List.mem_singleton.mp hz with rfl
  exact h
theorem xpass2 {P : ExceptionTableEntry → Prop} {a b : Nat × Nat × Nat × Nat} (h : P ⟨a.1, a.2.1, a.2.2.1, a.2.2.2⟩) (h2 : P ⟨b.1, b.2.1, b.2.2.1, b.2.2.2⟩) : ∀ z ∈ tableOf [a, b], P z := fun z hz => by
  rcases List.mem_cons.mp hz with rfl | hz
  · exact h
  · rcases List.mem_singleton.mp hz with rfl
    exact h2
theorem xInner (c : ClassId) (K : Nat) (v : Value) : Jvm.Free.Multi.innerC c K v = arrV c K (fun _ => v) := by
  unfold Jvm.Free.Multi.innerC arrV
  congr 1
  apply Array.ext
  · simp
  · intro i h1 h2
    simp
section XMNA
variable {p : Program} {l : Launch} {e : Env} {R : Room} {s : State} {m : MethodId} {args : Array Value} {below : List Frame} {meth : Method} {c : Code} {H : Heap} {locs : List Loc} {cells slots : Nat} {Q : State → Prop}
variable {cc : ByteArray} {pc : Nat} {ls : Array Slot} {rest : List Value} {D : va_G} {cl : List vw_C} {A : Nat → Prop} {tys : List (ClassId × FieldType)} {ws : va_W} {H0 : Heap}
/-- new T[n][m], of which nothing is kept but its address -/
theorem xMna (hexec : p.tables.exec = Jvm.exec) (hb : c.code = cc) {own : String} {index : Nat} {ty : FieldType} {cy : ClassId} (hown : s.vm.findClass own = some m.cls) (hclink : (Cond.classLink own index ("[" ++ (FieldType.array ty).toString)).before args s = true) (hover : va_AOA ty s) (harr : (Cond.arrayClass ty).before args s = true) (hcy : s.vm.findClass (FieldType.array ty).toString = some cy)
    (hK : va_K D cl tys s) (hP : va_P D cl ws H) (hD : va_D A ws) (hS : va_S A H0 H locs) (hA : ∀ q, H0.size ≤ q → A q) {n k : Int32} {N' K' : Nat} {z : vp_A} (hn : ¬ n < 0) (hk : ¬ k < 0) (hN : n.toNatClampNeg = N') (hM : k.toNatClampNeg = K')
    (hb1 : N' * 4 ≤ 536870912) (hb2 : K' * componentBytes ty ≤ 536870912) (hb3 : K' ≤ 536870912) (hdf : fits ty (defaultValue ty) = true) (hdd : (defaultValue ty).isDefault = true) (hcells : cells + (1 + N') ≤ R.cells) (hslots : slots + (N' + N' * K') ≤ R.slots) (hz : ∀ c : ClassId, Jvm.Free.Multi.innerC c K' (defaultValue ty) = vp_cell c z) (hdg : decode cc pc = .ok (.multianewarray index 2, 4))
    (kk : ∀ (q : Nat) (H1 : Heap), va_P D cl ws H1 → va_D A ws → va_S A H0 H1 locs → W p l e R s m args below meth c H1 locs (cells + 1 + N') (slots + N' + N' * K') Q (F0 m (pc + 4) ls (.ref q :: rest))) : W p l e R s m args below meth c H locs cells slots Q (F0 m pc ls (.int k :: .int n :: rest)) := by
  have e0 : ws ++ va_pl [] (fun _ => .inr (0, [])) = ws := List.append_nil ws
  refine va_mna (X := ws) (L := []) (f := fun _ => .inr (0, [])) hexec hb hown hclink hover harr hcy hK (by rw [e0]; exact hP) (by rw [e0]; exact hD) hS hA hn hk hN hM hb1 hb2 hb3 hdf hdd hcells hslots hz hdg (fun q r cA H1 _ _ _ hP1 _ hS1 => ?_)
  refine kk q H1 (hP1.by (fun i => i) (fun i x hx => ?_)) hD hS1
  have hi : i < ws.length := (List.getElem?_eq_some_iff.mp hx).1
  rw [List.append_assoc, List.getElem?_append_left hi]
  exact hx
end XMNA
