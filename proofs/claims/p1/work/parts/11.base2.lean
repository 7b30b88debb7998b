/-- a constant row stays one -/
theorem xUpdZ (k : Nat) : upd (fun _ => 0) k (vp_nar .boolean 0) = fun _ => 0 := by
  funext j
  show (if j = k then (vp_nar .boolean 0) else 0) = 0
  split <;> rfl
theorem xUpdI (c : Int32) (k : Nat) : upd (fun _ => c) k c = fun _ => c := by
  funext j
  show (if j = k then c else c) = c
  split <;> rfl
theorem xUpdL (c : Int64) (k : Nat) : vp_updL (fun _ => c) k c = fun _ => c := by
  funext j
  show (if j = k then c else c) = c
  split <;> rfl
/-- what a row holds beyond its end is free -/
theorem xRe {D : va_G} {cl : List vw_C} {ws : va_W} {H : Heap} {a : Nat} {cA : ClassId} {n : Nat} {f : Nat → Int32} (g : Nat → Int32) (k : Nat) (hk : ws[k]? = some (a, .inl (cA, n, .inl f))) (h : ∀ j, j < n → f j = g j) (hP : va_P D cl ws H) : va_P D cl (ws.set k (a, .inl (cA, n, .inl g))) H := by
  intro i q hq
  by_cases e : k = i
  · subst e
    rw [List.getElem?_set_self (List.getElem?_eq_some_iff.mp hk).1] at hq
    cases hq
    have h1 : H[a]? = some (vp_cell cA (n, .inl f)) := hP k _ hk
    have h2 : vp_cell cA (n, .inl f) = vp_cell cA (n, .inl g) := by
      show arrV cA n (fun j => .int (f j)) = arrV cA n (fun j => .int (g j))
      unfold arrV
      congr 1
      congr 1
      funext j
      show Value.int (f j.val) = Value.int (g j.val)
      rw [h j.val j.isLt]
    show H[a]? = some (vp_cell cA (n, .inl g))
    rw [← h2]
    exact h1
  · rw [List.getElem?_set_ne e] at hq
    exact hP i q hq
theorem xReD {A : Nat → Prop} {ws : va_W} {a : Nat} {cA : ClassId} {n : Nat} {f : Nat → Int32} (g : Nat → Int32) (k : Nat) (hk : ws[k]? = some (a, .inl (cA, n, .inl f))) (hD : va_D A ws) : va_D A (ws.set k (a, .inl (cA, n, .inl g))) := hD.set hk
