/-! cells looked up and written, one by one -/
theorem zC_c {ws w : va_W} {i : Nat} {is : List Nat} {x : Nat × va_E} (h : ws[i]? = some x) (h2 : is.map (fun i => ws[i]?) = w.map some) : (i :: is).map (fun i => ws[i]?) = (x :: w).map some := by
  rw [List.map_cons, List.map_cons, h, h2]
theorem zPut_seg (pre a b w : va_W) (is : List Nat) (his : is = List.range' pre.length a.length) (hw : w.length = a.length) : zPut (pre ++ (a ++ b)) is w = pre ++ (w ++ b) := by
  subst his
  induction a generalizing pre w with
  | nil =>
    cases w with
    | nil => rfl
    | cons _ _ => simp at hw
  | cons x a ih =>
    cases w with
    | nil => simp at hw
    | cons q w =>
      show zPut ((pre ++ (x :: a ++ b)).set pre.length q) (List.range' (pre.length + 1) a.length) w = _
      have e : (pre ++ (x :: a ++ b)).set pre.length q = (pre ++ [q]) ++ (a ++ b) := by simp
      have e2 := ih (pre ++ [q]) w (by simpa using hw)
      rw [e]
      rw [show (pre ++ [q]).length = pre.length + 1 by simp] at e2
      rw [e2]
      simp
theorem zPut_id : ∀ (is : List Nat) (w ws : va_W), is.map (fun i => ws[i]?) = w.map some → zPut ws is w = ws := by
  intro is
  induction is with
  | nil => intro w ws h; cases w <;> rfl
  | cons i is ih =>
    intro w ws h
    cases w with
    | nil => rfl
    | cons q w =>
      simp only [List.map_cons, List.cons.injEq] at h
      have e : ws.set i q = ws := by
        refine List.ext_getElem? (fun k => ?_)
        by_cases hk : i = k
        · subst hk
          rw [List.getElem?_set_self (List.getElem?_eq_some_iff.mp h.1).1, h.1]
        · rw [List.getElem?_set_ne hk]
      show zPut (ws.set i q) is w = ws
      rw [e]
      exact ih w ws h.2
theorem zPut_one : ∀ (ws : va_W) (is1 is2 : List Nat) (w1 w2 : va_W) (k : Nat) (q : Nat × va_E), is1.map (fun i => ws[i]?) = w1.map some → is2.map (fun i => (ws.set k q)[i]?) = w2.map some → zPut ws (is1 ++ k :: is2) (w1 ++ q :: w2) = ws.set k q := by
  intro ws is1
  induction is1 with
  | nil =>
    intro is2 w1 w2 k q h1 h2
    cases w1 with
    | nil => exact zPut_id is2 w2 (ws.set k q) h2
    | cons _ _ => simp at h1
  | cons i is1 ih =>
    intro is2 w1 w2 k q h1 h2
    cases w1 with
    | nil => simp at h1
    | cons x w1 =>
      simp only [List.map_cons, List.cons.injEq] at h1
      have e : ws.set i x = ws := by
        have := zPut_id [i] [x] ws (by simp [h1.1])
        exact this
      show zPut (ws.set i x) (is1 ++ k :: is2) (w1 ++ q :: w2) = _
      rw [e]
      exact ih is2 w1 w2 k q h1.2 h2
