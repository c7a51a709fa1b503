/-! contracts that say just what comes back: silent ones, and ones that write their own cells; their calls -/
def zSil (v : Option Value) : Array Value → State → Outcome → State → Prop := fun _ st o t => o = .returned v ∧ t.heap = st.heap
def zWr (D : va_G) (cl : List vw_C) (v : Option Value) (ws' : va_W) (A : Nat → Prop) : Array Value → State → Outcome → State → Prop := fun _ st o t => o = .returned v ∧ va_P D cl ws' t.heap ∧ va_F A st t
def zPut : va_W → List Nat → va_W → va_W
  | ws, i :: is, q :: w => zPut (ws.set i q) is w
  | ws, _, _ => ws
theorem zPut_get : ∀ (is : List Nat) (w ws : va_W), is.length = w.length → ∀ (k : Nat) (q : Nat × va_E), (zPut ws is w)[k]? = some q → (∃ j : Nat, is[j]? = some k ∧ w[j]? = some q) ∨ (ws[k]? = some q ∧ k ∉ is) := by
  intro is
  induction is with
  | nil =>
    intro w ws hl k q h
    cases w with
    | nil => exact Or.inr ⟨h, by simp⟩
    | cons _ _ => simp at hl
  | cons i is ih =>
    intro w ws hl k q h
    cases w with
    | nil => simp at hl
    | cons q0 w =>
      rcases ih w (ws.set i q0) (by simpa using hl) k q h with ⟨j, h1, h2⟩ | ⟨h1, h2⟩
      · exact Or.inl ⟨j + 1, by simpa using h1, by simpa using h2⟩
      · by_cases hk : i = k
        · subst hk
          have hlt : i < ws.length := by have := (List.getElem?_eq_some_iff.mp h1).1; simpa using this
          rw [List.getElem?_set_self hlt] at h1
          exact Or.inl ⟨0, rfl, h1⟩
        · rw [List.getElem?_set_ne hk] at h1
          exact Or.inr ⟨h1, by simp only [List.mem_cons, not_or]; exact ⟨fun e => hk e.symm, h2⟩⟩
theorem z_at {is : List Nat} {ws w : va_W} (h : is.map (fun i => ws[i]?) = w.map some) {j k : Nat} (hj : is[j]? = some k) : ∃ q, w[j]? = some q ∧ ws[k]? = some q := by
  have h1 : (is.map (fun i => ws[i]?))[j]? = some (ws[k]?) := by rw [List.getElem?_map, hj]; rfl
  rw [h, List.getElem?_map] at h1
  cases hq : w[j]? with
  | none => rw [hq] at h1; cases h1
  | some q => rw [hq] at h1; exact ⟨q, rfl, (Option.some.inj h1).symm⟩
theorem z_at2 {is : List Nat} {ws w : va_W} (h : is.map (fun i => ws[i]?) = w.map some) {k : Nat} {q : Nat × va_E} (hq : w[k]? = some q) : ∃ i, is[k]? = some i ∧ ws[i]? = some q := by
  have h1 : (is.map (fun i => ws[i]?))[k]? = some (some q) := by rw [h, List.getElem?_map, hq]; rfl
  rw [List.getElem?_map] at h1
  cases hi : is[k]? with
  | none => rw [hi] at h1; cases h1
  | some i => rw [hi] at h1; exact ⟨i, rfl, Option.some.inj h1⟩
theorem z_adr {w w' : va_W} (had : w'.map (fun x => x.1) = w.map (fun x => x.1)) {j : Nat} {q q' : Nat × va_E} (h : w[j]? = some q) (h' : w'[j]? = some q') : q'.1 = q.1 := by
  have e := congrArg (fun l => l[j]?) had
  simp only [List.getElem?_map, h, h', Option.map_some] at e
  exact Option.some.inj e
theorem z_len {is : List Nat} {ws w w' : va_W} (h : is.map (fun i => ws[i]?) = w.map some) (had : w'.map (fun x => x.1) = w.map (fun x => x.1)) : is.length = w'.length := by
  have e1 := congrArg List.length h
  have e2 := congrArg List.length had
  simp only [List.length_map] at e1 e2
  omega
theorem zw_P {D : va_G} {cl : List vw_C} {A0 : Nat → Prop} {ws wc wc' : va_W} {H H1 : Heap} (hP : va_P D cl ws H) (hD : va_D A0 ws) (isC : List Nat) (hC : isC.map (fun i => ws[i]?) = wc.map some) (had : wc'.map (fun x => x.1) = wc.map (fun x => x.1))
    (hk : ∀ q : Nat, q < H.size → ¬ va_A wc H.size q → H1[q]? = H[q]?) (hP1 : va_P D cl wc' H1) : va_P D cl (zPut ws isC wc') H1 ∧ va_D A0 (zPut ws isC wc') := by
  have hl := z_len hC had
  have key : ∀ (k : Nat) (q : Nat × va_E), (zPut ws isC wc')[k]? = some q → ∃ q0, ws[k]? = some q0 ∧ q0.1 = q.1 := by
    intro k q h
    rcases zPut_get isC wc' ws hl k q h with ⟨j, h1, h2⟩ | ⟨h1, h2⟩
    · obtain ⟨q0, g1, g2⟩ := z_at hC h1
      exact ⟨q0, g2, (z_adr had g1 h2).symm⟩
    · exact ⟨q, h1, rfl⟩
  refine ⟨fun k q h => ?_, ⟨fun i j x y hi hj hxy => ?_, fun k q h => ?_⟩⟩
  · rcases zPut_get isC wc' ws hl k q h with ⟨j, h1, h2⟩ | ⟨h1, h2⟩
    · exact hP1 j q h2
    · refine (hP k q h1).kept (hk q.1 (hP k q h1).lt (fun hA => ?_))
      rcases hA with ⟨k2, e, h3⟩ | h3
      · obtain ⟨i, g1, g2⟩ := z_at2 hC h3
        have hij := hD.1 k i q (q.1, e) h1 g2 rfl
        subst hij
        exact h2 (List.mem_of_getElem? g1)
      · have := (hP k q h1).lt
        omega
  · obtain ⟨x0, g1, g2⟩ := key i x hi
    obtain ⟨y0, g3, g4⟩ := key j y hj
    exact hD.1 i j x0 y0 g1 g3 (by rw [g2, g4, hxy])
  · obtain ⟨q0, g1, g2⟩ := key k q h
    rw [← g2]
    exact hD.2 k q0 g1
section ZC
variable {p : Program} {l : Launch} {e : Env} {R : Room} {s : State} {m : MethodId} {args : Array Value} {below : List Frame} {meth : Method} {c : Code} {H : Heap} {locs : List Loc} {cells slots : Nat} {Q : State → Prop}
variable {pc : Nat} {ls : Array Slot} {rest st0 : List Value} {a : Array Value} {A0 : Nat → Prop} {H0 : Heap} {mc ms : Nat} {D : va_G} {cl : List vw_C}
theorem zs_call {v : Option Value} (hr : va_Run p l e R s m args below meth c H locs cells slots 0 0 (F0 m pc ls st0) rest (zSil v a) (fun _ => False))
    (kk : W p l e R s m args below meth c H locs cells slots Q (F0 m (pc + 3) ls (v.toList ++ rest))) : W p l e R s m args below meth c H locs cells slots Q (F0 m pc ls st0) := by
  intro T hT X
  obtain ⟨v', st₀, t, T', L, h0, X', hL, e1, e2, ⟨hv, hh⟩, st⟩ := hr T hT X
  cases hv
  obtain ⟨t2, a1, b1⟩ := kk T' (by rw [e1, hh, h0]) (Stand.forget X' (fun q h => (hL q h).elim))
  exact ⟨t2, st t2 a1, b1⟩
theorem zw_call {v : Option Value} {ws wc wc' : va_W} (hr : va_Run p l e R s m args below meth c H locs cells slots mc ms (F0 m pc ls st0) rest (zWr D cl v wc' (va_A wc H.size) a) (va_A wc H.size)) (hP : va_P D cl ws H) (hD : va_D A0 ws) (hS : va_S A0 H0 H locs) (hA : ∀ q, H0.size ≤ q → A0 q)
    (isC : List Nat) (hC : isC.map (fun i => ws[i]?) = wc.map some) (had : wc'.map (fun x => x.1) = wc.map (fun x => x.1))
    (kk : ∀ (H1 : Heap) (locs1 : List Loc), va_P D cl (zPut ws isC wc') H1 → va_D A0 (zPut ws isC wc') → va_S A0 H0 H1 locs1 → W p l e R s m args below meth c H1 locs1 (cells + mc) (slots + ms) Q (F0 m (pc + 3) ls (v.toList ++ rest))) : W p l e R s m args below meth c H locs cells slots Q (F0 m pc ls st0) := by
  have hF := va_free hD hS hA isC hC
  intro T hT X
  obtain ⟨v', st₀, t, T', L, h0, X', hL, e1, e2, ⟨hv, hp, hz, hk⟩, st⟩ := hr T hT X
  cases hv
  rw [h0] at hz hk
  have hk1 : ∀ q : Nat, q < H.size → ¬ va_A wc H.size q → T'.heap[q]? = H[q]? := fun q h1 h2 => by rw [e1]; exact hk q h1 h2
  obtain ⟨g1, g2⟩ := zw_P hP hD isC hC had hk1 (by rw [e1]; exact hp)
  obtain ⟨t2, a1, b1⟩ := kk T'.heap (locs ++ L) g1 g2
    ⟨Nat.le_trans hS.1 (by rw [e1]; exact hz), fun q h1 h2 => by rw [hk1 q (Nat.lt_of_lt_of_le h1 hS.1) (fun z => h2 (hF q z))]; exact hS.2.1 q h1 h2, fun q hq => by
      rcases List.mem_append.mp hq with h | h
      · exact hS.2.2 q h
      · exact hF _ (hL q h)⟩ T' rfl X'
  exact ⟨t2, st t2 a1, b1⟩
end ZC
