/-! a contract over some cells serves over more of them -/
section ZFR
variable {l : Launch} {y : MethodName} {cc : ByteArray} {maxL : Nat} {ret : Option FieldType} {hh : List (Nat × Nat × Nat × Nat)} {rm : Room} {g : zGl} {ST : (Nat → Prop) → zStt} {As : List Value} {ws big : va_W} {v : Option Value} {ws' : zJ → va_W} {mc ms : Nat}
theorem zA_sub {sz : Nat} {isC : List Nat} (hC : isC.map (fun i => big[i]?) = ws.map some) : ∀ q, va_A ws sz q → va_A big sz q := fun q h => by
  rcases h with ⟨k, e, hk⟩ | h
  · obtain ⟨i, -, h2⟩ := z_at2 hC hk
    exact Or.inl ⟨i, e, h2⟩
  · exact Or.inr h
theorem zPw_sub {sz : Nat} {isC : List Nat} (hC : isC.map (fun i => big[i]?) = ws.map some) (hnd : va_nd isC = true) (hST : ∀ (A B : Nat → Prop) (U : State) (H : Heap), ST A U H → (∀ q, B q → A q) → ST B U H) {U : State} (h : zPw g ST big sz U) : zPw g ST ws sz U :=
  ⟨h.1, h.2.1, hST _ _ _ _ h.2.2.1 (zA_sub hC), fun k q hk => by
    obtain ⟨i, -, h2⟩ := z_at2 hC hk
    exact h.2.2.2.1 i q h2, h.2.2.2.2.sub isC hnd hC⟩
theorem zQJ_sub {sz : Nat} {isC : List Nat} {a : Array Value} {st t : State} {o : Outcome} (hC : isC.map (fun i => big[i]?) = ws.map some) (had : ∀ u, (ws' u).map (fun x => x.1) = ws.map (fun x => x.1)) (h : zPw g ST big sz st) (hq : zQJ g v ws' (va_A ws sz) a st o t) : zQJ g v (fun u => zPut big isC (ws' u)) (va_A big sz) a st o t := by
  obtain ⟨q1, ⟨u, q2⟩, q3, q4⟩ := hq
  have hk1 : ∀ q : Nat, q < st.heap.size → ¬ va_A ws st.heap.size q → t.heap[q]? = st.heap[q]? := fun q h1 h2 => q4 q h1 (by rw [← h.1]; exact h2)
  obtain ⟨g1, -⟩ := zw_P h.2.2.2.1 h.2.2.2.2 isC hC (had u) hk1 q2
  exact ⟨q1, ⟨u, g1⟩, q3, fun q h1 h2 => q4 q h1 (fun z => h2 (zA_sub hC q z))⟩
theorem zC_frame (h : zCi l y cc maxL ret hh rm g ST As ws v ws' mc ms) (big : va_W) (isC : List Nat) (hC : isC.map (fun i => big[i]?) = ws.map some) (hnd : va_nd isC = true) (had : ∀ u, (ws' u).map (fun x => x.1) = ws.map (fun x => x.1)) (hST : ∀ (A B : Nat → Prop) (U : State) (H : Heap), ST A U H → (∀ q, B q → A q) → ST B U H) : zCi l y cc maxL ret hh rm g ST As big v (fun u => zPut big isC (ws' u)) mc ms := fun sz =>
  Jvm.Free.MetFree.mono (h sz) (fun a s hp => ⟨hp.1, zPw_sub hC hnd hST hp.2⟩) (fun _ _ _ _ _ k => k) (fun a s o t hp hq => ⟨zQJ_sub hC had hp.2 hq.1, by
    obtain ⟨L, hF, hL⟩ := hq.2
    exact ⟨L, hF, fun q hq2 => zA_sub hC _ (hL q hq2)⟩⟩)
theorem zJ_frame (h : zJi l y cc maxL ret rm g ST As ws v ws' mc ms) (big : va_W) (isC : List Nat) (hC : isC.map (fun i => big[i]?) = ws.map some) (hnd : va_nd isC = true) (had : ∀ u, (ws' u).map (fun x => x.1) = ws.map (fun x => x.1)) (hST : ∀ (A B : Nat → Prop) (U : State) (H : Heap), ST A U H → (∀ q, B q → A q) → ST B U H) : zJi l y cc maxL ret rm g ST As big v (fun u => zPut big isC (ws' u)) mc ms := fun sz =>
  Jvm.Free.MetFree.mono (h sz) (fun a s hp => ⟨hp.1, zPw_sub hC hnd hST hp.2⟩) (fun _ _ _ _ _ k => k) (fun a s o t hp hq => ⟨zQJ_sub hC had hp.2 hq.1, by
    obtain ⟨L, hF, hL⟩ := hq.2
    exact ⟨L, hF, fun q hq2 => zA_sub hC _ (hL q hq2)⟩⟩)
end ZFR
