/-! arrays of arrays; constructors whose new cells are many; String arrays -/
theorem zP_sub {D : va_G} {cl : List vw_C} {ws wc : va_W} {H : Heap} (hP : va_P D cl ws H) (is : List Nat) (hC : is.map (fun i => ws[i]?) = wc.map some) : va_P D cl wc H := fun k q hk => by
  obtain ⟨i, -, h⟩ := z_at2 hC hk
  exact hP i q h
/-- the class of arrays of arrays of t stands over the class of arrays of t -/
def zAo (t : FieldType) (U : State) : Prop := ∃ (comp c : ClassId) (k : Class), U.vm.findClass (FieldType.array t).toString = some comp ∧ U.vm.classes[c]? = some k ∧ k.kind = .array comp (.array t) ∧ U.vm.findClass ("[" ++ (FieldType.array t).toString) = some c
theorem zAo_mv {t : FieldType} {u U : State} (hvm : u.vm.Alike U.vm) (h : zAo t u) : zAo t U := by
  obtain ⟨comp, c, k, h1, h2, h3, h4⟩ := h
  obtain ⟨k', hk', he⟩ := hvm.2.2 _ _ h2
  exact ⟨comp, c, k', by rw [hvm.findClass]; exact h1, hk', by rw [he]; exact h3, by rw [hvm.findClass]; exact h4⟩
theorem zAo_of {t : FieldType} {args : Array Value} {s : State} (h : (Cond.arrayOver (.array t)).before args s = true) : zAo t s := by
  obtain ⟨comp, c, k, h1, -, h2, h3, h4⟩ := arrayOverA_spec h
  exact ⟨comp, c, k, h1, h2, h3, h4⟩
theorem arrV_e {c : ClassId} {N : Nat} {f f' : Nat → Value} (h : ∀ j, j < N → f j = f' j) : arrV c N f = arrV c N f' := by
  unfold arrV
  exact congrArg (fun F : Fin N → Value => ({ cls := c, slots := Array.ofFn F, vm := .none } : Cell)) (funext fun j => h j.val j.isLt)
/-- an array of arrays, i of its places filled -/
def zou (c : ClassId) (N h i : Nat) : Cell := arrV c N (fun j => if j < i then .ref (h + 1 + j) else .null)
theorem zou_0 (c : ClassId) (N h : Nat) : ({ cls := c, slots := Array.replicate N .null, vm := .none } : Cell) = zou c N h 0 := by
  rw [arrV_new]
  exact arrV_e (fun j _ => (if_neg (Nat.not_lt_zero j)).symm)
theorem zou_s (c : ClassId) (N h i : Nat) : (zou c N h i).setSlot i (.ref (h + 1 + i)) = zou c N h (i + 1) := by
  unfold zou
  rw [arrV_store]
  refine arrV_e (fun j _ => ?_)
  unfold updV
  by_cases e : j = i
  · subst e
    rw [if_pos rfl, if_pos (Nat.lt_succ_self _)]
  · rw [if_neg e]
    show (if j < i then (.ref (h + 1 + j) : Value) else .null) = _
    by_cases h2 : j < i
    · rw [if_pos h2, if_pos (by omega)]
    · rw [if_neg h2, if_neg (by omega)]
theorem zou_n (c : ClassId) (N h : Nat) : zou c N h N = vp_cell c (N, .inr (.inr (.inr (.inr (zaR (fun i => h + 1 + i)))))) := by
  rw [vp_cell_q]
  exact arrV_e (fun j hj => if_pos hj)
/-- an array of arrays and i rows x behind it -/
def zfl (s : State) (c : ClassId) (N : Nat) (x : Cell) : Nat → State
  | 0 => s.pushCell (zou c N s.heap.size 0)
  | i + 1 => ((zfl s c N x i).pushCell x).setCell s.heap.size (zou c N s.heap.size (i + 1))
theorem zfl_f (s : State) (c : ClassId) (N : Nat) (x : Cell) (i : Nat) : (zfl s c N x i).heap.size = s.heap.size + 1 + i ∧ (zfl s c N x i).heap[s.heap.size]? = some (zou c N s.heap.size i) ∧ (zfl s c N x i).vm = s.vm ∧ (zfl s c N x i).slotsUsed = s.slotsUsed + N + i * x.slots.size := by
  induction i with
  | zero =>
    refine ⟨by simp [zfl], State.heap_pushCell_size _ _, rfl, ?_⟩
    simp [zfl, zou, arrV_size]
  | succ i ih =>
    obtain ⟨a, b, d, u⟩ := ih
    have hlt : s.heap.size < (zfl s c N x i).heap.size := by omega
    have hb : ((zfl s c N x i).pushCell x).heap[s.heap.size]? = some (zou c N s.heap.size i) := by
      rw [State.heap_pushCell_of_lt (h := hlt)]; exact b
    refine ⟨?_, State.heap_setCell_self hb, by simp [zfl, d], ?_⟩
    · simp [zfl, State.setCell, a]; omega
    · simp [zfl, u, Nat.succ_mul]; omega
theorem zfl_old (s : State) (c : ClassId) (N : Nat) (x : Cell) {a : Nat} (ha : a < s.heap.size) (i : Nat) : (zfl s c N x i).heap[a]? = s.heap[a]? := by
  induction i with
  | zero => exact State.heap_pushCell_of_lt _ _ ha
  | succ i ih =>
    have f1 := (zfl_f s c N x i).1
    have hlt : a < (zfl s c N x i).heap.size := by omega
    show (((zfl s c N x i).pushCell x).setCell s.heap.size _).heap[a]? = _
    rw [State.heap_setCell_other (Nat.ne_of_gt ha), State.heap_pushCell_of_lt (h := hlt)]
    exact ih
theorem zfl_in (s : State) (c : ClassId) (N : Nat) (x : Cell) (i j : Nat) (h : j < i) : (zfl s c N x i).heap[s.heap.size + 1 + j]? = some x := by
  induction i with
  | zero => omega
  | succ i ih =>
    have f1 := (zfl_f s c N x i).1
    show (((zfl s c N x i).pushCell x).setCell s.heap.size _).heap[s.heap.size + 1 + j]? = _
    rw [State.heap_setCell_other (show s.heap.size ≠ s.heap.size + 1 + j by omega)]
    by_cases hj : j < i
    · have hlt : s.heap.size + 1 + j < (zfl s c N x i).heap.size := by omega
      rw [State.heap_pushCell_of_lt (h := hlt)]
      exact ih hj
    · rw [show s.heap.size + 1 + j = (zfl s c N x i).heap.size by omega]
      exact State.heap_pushCell_size _ _
theorem zfl_top (s : State) (f : JFrame) (c : ClassId) (N : Nat) (x : Cell) (i : Nat) : zfl (s.setTop f) c N x i = (zfl s c N x i).setTop f := by
  induction i with
  | zero => rfl
  | succ i ih => simp only [zfl, ih, State.heap_setTop, State.pushCell_setTop, State.setCell_setTop]
theorem zD_blk {D : va_G} {cl : List vw_C} {A : Nat → Prop} {ws B : va_W} {H : Heap} (hP : va_P D cl ws H) (hD : va_D A ws) (hB : ∀ (k : Nat) (q : Nat × va_E), B[k]? = some q → q.1 = H.size + k) (hA : ∀ q : Nat, H.size ≤ q → A q) : va_D A (ws ++ B) :=
  hD.app ⟨fun i j p q hi hj e => by
    have h1 := hB i p hi
    have h2 := hB j q hj
    omega, fun k q hk => hA _ (by rw [hB k q hk]; omega)⟩ (fun i j p q hi hj e => by
    have h1 := (hP i p hi).lt
    have h2 := hB j q hj
    omega)
theorem z_row {N h : Nat} {e : va_E} {k : Nat} {q : Nat × va_E} (hk : ((List.range N).map (fun i => (h + i, e)))[k]? = some q) : k < N ∧ q = (h + k, e) := by
  by_cases hl : k < N
  · rw [List.getElem?_map, List.getElem?_range hl] at hk
    simp only [Option.map_some, Option.some.injEq] at hk
    exact ⟨hl, hk.symm⟩
  · rw [List.getElem?_eq_none (by simp; omega)] at hk
    cases hk
section ZMW
variable {E : CtlPost} {e : Env} {d : Bool} {acts : List Action} {s : State}
theorem z_fits {t : FieldType} (h : t.isReference = true) (v : Value) (hv : v = .null ∨ ∃ a, v = .ref a) : fits t v = true := by
  rcases hv with rfl | ⟨a, rfl⟩ <;> cases t <;> simp [FieldType.isReference] at h <;> rfl
theorem zwp_na {c comp : ClassId} {k : Class} {ty : FieldType} {len : Nat} {init : Value} (hk : s.vm.classes[c]? = some k) (hkind : k.kind = .array comp ty) (hl : ¬ len > e.platform.arrayLengthLimit) (hh : ¬ len * componentBytes ty > e.platform.maxHeapBytes) (hf : fits ty init = true) (hd : init.isDefault = true) {Q : Addr → Pre} (h1 : s.heap.size < e.platform.maxCells) (h2 : s.slotsUsed + len ≤ e.platform.maxSlots) (hq : Q s.heap.size d acts (s.pushCell (arrV c len (fun _ => init)))) : wp (Jvm.newArray c len init) Q E e d acts s := by
  rw [← arrV_new] at hq
  have g1 : ∀ i v, (Array.replicate len init)[i]? = some v → s.fitsSlot c .none i v = true := by
    intro i v hv
    rw [Array.getElem?_replicate] at hv
    split at hv
    · cases hv
      simp [State.fitsSlot, State.slotType?, hk, hkind, hf]
    · cases hv
  have g2 : allocActs (Array.replicate len init) s.heap.size acts = acts := by
    unfold allocActs
    rw [if_pos (by rw [Array.all_replicate]; split <;> simp [hd])]
  simp only [Jvm.newArray, Jvm.arrayFits, wp_bind', W.ask, W.ite, hl, if_false, wp_pure', W.theClass, hk, hkind, hh, W.alloc, W.stop, Option.some.injEq, exists_eq_left', Array.size_replicate, g2]
  rw [if_neg (by omega)]
  exact ⟨h1, h2, g1, hq⟩
theorem zwp_1 {c cc : ClassId} {k : Class} {ty : FieldType} {m : Int32} (hk : s.vm.classes[c]? = some k) (hkind : k.kind = .array cc ty) (hm : ¬ m < 0) (hl : ¬ m.toNatClampNeg > e.platform.arrayLengthLimit) (hh : ¬ m.toNatClampNeg * componentBytes ty > e.platform.maxHeapBytes) (hf : fits ty (defaultValue ty) = true) (hd : (defaultValue ty).isDefault = true) (h1 : s.heap.size < e.platform.maxCells) (h2 : s.slotsUsed + m.toNatClampNeg ≤ e.platform.maxSlots) {Q : Addr → Pre} (hq : Q s.heap.size d acts (s.pushCell (arrV c m.toNatClampNeg (fun _ => defaultValue ty)))) : wp (multianewarray.make c [m]) Q E e d acts s := by
  rw [multianewarray.make]
  simp only [wp_bind', W.ite, hm, if_false, wp_pure', W.theClass, hk, hkind, Option.some.injEq, exists_eq_left']
  exact zwp_na hk hkind hl hh hf hd h1 h2 hq
theorem zwp_2 {c c2 cc : ClassId} {k k2 : Class} {t0 ty : FieldType} {n m : Int32} (hk : s.vm.classes[c]? = some k) (hkind : k.kind = .array c2 t0) (href : t0.isReference = true) (hk2 : s.vm.classes[c2]? = some k2) (hkind2 : k2.kind = .array cc ty) (hn : ¬ n < 0) (hm : ¬ m < 0) (hl1 : ¬ n.toNatClampNeg > e.platform.arrayLengthLimit) (hh1 : ¬ n.toNatClampNeg * componentBytes t0 > e.platform.maxHeapBytes) (hl2 : ¬ m.toNatClampNeg > e.platform.arrayLengthLimit) (hh2 : ¬ m.toNatClampNeg * componentBytes ty > e.platform.maxHeapBytes)
    (hf : fits ty (defaultValue ty) = true) (hd : (defaultValue ty).isDefault = true) (hc : s.heap.size + 1 + n.toNatClampNeg ≤ e.platform.maxCells) (hs : s.slotsUsed + n.toNatClampNeg + n.toNatClampNeg * m.toNatClampNeg ≤ e.platform.maxSlots) {Q : Addr → Pre} (hq : ∀ d' acts', Q s.heap.size d' acts' (zfl s c n.toNatClampNeg (arrV c2 m.toNatClampNeg (fun _ => defaultValue ty)) n.toNatClampNeg)) : wp (multianewarray.make c [n, m]) Q E e d acts s := by
  obtain ⟨X, hX⟩ : ∃ X, X = arrV c2 m.toNatClampNeg (fun _ => defaultValue ty) := ⟨_, rfl⟩
  have hXs : X.slots.size = m.toNatClampNeg := by rw [hX, arrV_size]
  rw [← hX] at hq
  have hfind : ([m].find? (· < 0)) = none := by simp [hm]
  rw [multianewarray.make]
  simp only [wp_bind', W.ite, hn, if_false, wp_pure', W.theClass, hk, hkind, Option.some.injEq, exists_eq_left']
  refine zwp_na hk hkind hl1 hh1 (z_fits href _ (Or.inl rfl)) rfl (by omega) (by have := Nat.zero_le (n.toNatClampNeg * m.toNatClampNeg); omega) ?_
  simp only [hfind]
  rw [ite_self, wp_bind', Std.Legacy.Range.forIn_eq_forIn_range', ← arrV_new, zou_0 c n.toNatClampNeg s.heap.size]
  have hsz : ([:n.toNatClampNeg] : Std.Legacy.Range).size = n.toNatClampNeg := by simp [Std.Legacy.Range.size]
  rw [hsz]
  show wp (forIn (List.range' 0 n.toNatClampNeg 1) PUnit.unit _) _ E e d acts (zfl s c n.toNatClampNeg X 0)
  refine wp_forIn_inv (fun rest s' => ∃ i, i ≤ n.toNatClampNeg ∧ rest = List.range' i (n.toNatClampNeg - i) ∧ s' = zfl s c n.toNatClampNeg X i) _ _ ⟨0, Nat.zero_le _, rfl, rfl⟩ ?_ ?_
  · rintro x rest s' d' acts' Q' ⟨i, hi, hl, rfl⟩ hnext
    have hlt : i < n.toNatClampNeg := by
      rcases Nat.lt_or_ge i n.toNatClampNeg with h | h
      · exact h
      · rw [show n.toNatClampNeg - i = 0 by omega] at hl; cases hl
    rw [show n.toNatClampNeg - i = (n.toNatClampNeg - (i + 1)) + 1 by omega, List.range'_succ] at hl
    obtain ⟨rfl, hrest⟩ := List.cons.inj hl
    obtain ⟨f1, f2, f3, f4⟩ := zfl_f s c n.toNatClampNeg X x
    rw [hXs] at f4
    have hmul : x * m.toNatClampNeg + m.toNatClampNeg ≤ n.toNatClampNeg * m.toNatClampNeg := by
      have := Nat.mul_le_mul_right m.toNatClampNeg (show x + 1 ≤ n.toNatClampNeg from hlt)
      rw [Nat.succ_mul] at this; exact this
    simp only [wp_bind']
    refine zwp_1 (by rw [f3]; exact hk2) hkind2 hm hl2 hh2 hf hd (by rw [f1]; omega) (by rw [f4]; omega) ?_
    rw [← hX]
    have hlt0 : s.heap.size < (zfl s c n.toNatClampNeg X x).heap.size := by rw [f1]; omega
    simp only [wp_bind', W.writeLoc, wp_pure']
    refine ⟨zou c n.toNatClampNeg s.heap.size x, by rw [State.heap_pushCell_of_lt (h := hlt0)]; exact f2, by simp [zou, arrV], by rw [zou, arrV_size]; exact hlt, ?_, hnext _ _ _ ⟨x + 1, hlt, hrest, ?_⟩⟩
    · show State.fitsSlot _ c .none _ _ = true
      simp [State.fitsSlot, State.slotType?, f3, hk, hkind, z_fits href _ (Or.inr ⟨_, rfl⟩)]
    · rw [f1, zou_s]; rfl
  · rintro s' d' acts' ⟨i, hi, hl, rfl⟩
    have hiN : i = n.toNatClampNeg := by
      rcases Nat.lt_or_ge i n.toNatClampNeg with h | h
      · rw [show n.toNatClampNeg - i = (n.toNatClampNeg - (i + 1)) + 1 by omega, List.range'_succ] at hl; cases hl
      · omega
    subst hiN
    simp only [wp_pure']
    exact hq _ _
theorem zwp_3 {c c1 c2 cc : ClassId} {k0 k1 k2 : Class} {t0 t1 ty : FieldType} {n m : Int32} (hk : s.vm.classes[c]? = some k0) (hkind : k0.kind = .array c1 t0) (href : t0.isReference = true) (hk1 : s.vm.classes[c1]? = some k1) (hkind1 : k1.kind = .array c2 t1) (href1 : t1.isReference = true)
    (hk2 : s.vm.classes[c2]? = some k2) (hkind2 : k2.kind = .array cc ty) (hn : ¬ n < 0) (hm : ¬ m < 0) (hl0 : ¬ 1 > e.platform.arrayLengthLimit) (hh0 : ¬ 1 * componentBytes t0 > e.platform.maxHeapBytes)
    (hl1 : ¬ n.toNatClampNeg > e.platform.arrayLengthLimit) (hh1 : ¬ n.toNatClampNeg * componentBytes t1 > e.platform.maxHeapBytes) (hl2 : ¬ m.toNatClampNeg > e.platform.arrayLengthLimit) (hh2 : ¬ m.toNatClampNeg * componentBytes ty > e.platform.maxHeapBytes)
    (hf : fits ty (defaultValue ty) = true) (hd : (defaultValue ty).isDefault = true) (hc : s.heap.size + 1 + 1 + n.toNatClampNeg ≤ e.platform.maxCells) (hs : s.slotsUsed + 1 + n.toNatClampNeg + n.toNatClampNeg * m.toNatClampNeg ≤ e.platform.maxSlots)
    {Q : Addr → Pre} (hq : ∀ d' acts', Q s.heap.size d' acts' ((zfl (s.pushCell (zou c 1 s.heap.size 0)) c1 n.toNatClampNeg (arrV c2 m.toNatClampNeg (fun _ => defaultValue ty)) n.toNatClampNeg).setCell s.heap.size (zou c 1 s.heap.size 1))) :
    wp (multianewarray.make c [1, n, m]) Q E e d acts s := by
  have hfind : ([n, m].find? (· < 0)) = none := by simp [hn, hm]
  have h1 : ¬ (1 : Int32) < 0 := by decide
  have h11 : (1 : Int32).toNatClampNeg = 1 := by decide
  rw [multianewarray.make]
  simp only [wp_bind', W.ite, h1, if_false, wp_pure', W.theClass, hk, hkind, Option.some.injEq, exists_eq_left', h11]
  refine zwp_na hk hkind hl0 hh0 (z_fits href _ (Or.inl rfl)) rfl (by omega) (by have := Nat.zero_le (n.toNatClampNeg * m.toNatClampNeg); omega) ?_
  simp only [hfind]
  rw [ite_self, wp_bind', Std.Legacy.Range.forIn_eq_forIn_range', ← arrV_new, zou_0 c 1 s.heap.size]
  have hsz : ([:1] : Std.Legacy.Range).size = 1 := by simp [Std.Legacy.Range.size]
  rw [hsz]
  have z1 : (s.pushCell (zou c 1 s.heap.size 0)).heap.size = s.heap.size + 1 := by simp
  have z2 : (s.pushCell (zou c 1 s.heap.size 0)).slotsUsed = s.slotsUsed + 1 := by simp [zou, arrV_size]
  have z3 : (s.pushCell (zou c 1 s.heap.size 0)).vm = s.vm := rfl
  have z4 : (s.pushCell (zou c 1 s.heap.size 0)).heap[s.heap.size]? = some (zou c 1 s.heap.size 0) := State.heap_pushCell_size _ _
  show wp (forIn (List.range' 0 1 1) PUnit.unit _) _ E e d acts (s.pushCell (zou c 1 s.heap.size 0))
  generalize s.pushCell (zou c 1 s.heap.size 0) = U at z1 z2 z3 z4 hq ⊢
  obtain ⟨X, hX⟩ : ∃ X, X = arrV c2 m.toNatClampNeg (fun _ => defaultValue ty) := ⟨_, rfl⟩
  rw [← hX] at hq
  refine wp_forIn_inv (fun rest s' => (rest = [0] ∧ s' = U) ∨ (rest = [] ∧ s' = (zfl U c1 n.toNatClampNeg X n.toNatClampNeg).setCell s.heap.size (zou c 1 s.heap.size 1))) _ _ (Or.inl ⟨rfl, rfl⟩) ?_ ?_
  · rintro x rest s' d' acts' Q' (⟨hl, rfl⟩ | ⟨hl, -⟩) hnext
    · obtain ⟨rfl, rfl⟩ := List.cons.inj hl
      simp only [wp_bind']
      refine zwp_2 (by rw [z3]; exact hk1) hkind1 href1 (by rw [z3]; exact hk2) hkind2 hn hm hl1 hh1 hl2 hh2 hf hd (by rw [z1]; omega) (by rw [z2]; omega) (fun d'' acts'' => ?_)
      rw [← hX]
      have f3 := (zfl_f s' c1 n.toNatClampNeg X n.toNatClampNeg).2.2.1
      have hold : (zfl s' c1 n.toNatClampNeg X n.toNatClampNeg).heap[s.heap.size]? = some (zou c 1 s.heap.size 0) := by
        rw [zfl_old _ _ _ _ (by rw [z1]; omega)]
        exact z4
      simp only [wp_bind', W.writeLoc, wp_pure']
      refine ⟨zou c 1 s.heap.size 0, hold, by simp [zou, arrV], by rw [zou, arrV_size]; decide, ?_, hnext _ _ _ (Or.inr ⟨rfl, ?_⟩)⟩
      · show State.fitsSlot _ c .none _ _ = true
        simp [State.fitsSlot, State.slotType?, f3, z3, hk, hkind, z_fits href _ (Or.inr ⟨_, rfl⟩)]
      · rw [z1]
        exact congrArg (fun y => State.setCell _ s.heap.size y) (zou_s c 1 s.heap.size 0)
    · cases hl
  · rintro s' d' acts' (⟨hl, -⟩ | ⟨-, rfl⟩)
    · cases hl
    · simp only [wp_pure']
      exact hq _ _
end ZMW
section ZMT
variable {p : Program} {l : Launch} {e : Env} {R : Room} {s : State} {m : MethodId} {args : Array Value} {below : List Frame} {meth : Method} {c : Code} {T : State} {locs : List Loc} {cells slots : Nat}
theorem zst_fl (X : Stand p l e R s m args below meth c T locs cells slots) (cA : ClassId) (N : Nat) (x : Cell) (i : Nat) : Stand p l e R s m args below meth c (zfl T cA N x i) locs (cells + 1 + i) (slots + N + i * x.slots.size) := by
  induction i with
  | zero =>
    have h := X.pushed (zou cA N T.heap.size 0)
    rw [show (zou cA N T.heap.size 0).slots.size = N from arrV_size _ _ _] at h
    simpa [zfl] using h
  | succ i ih =>
    obtain ⟨f1, f2, -, -⟩ := zfl_f T cA N x i
    have hc : ((zfl T cA N x i).pushCell x).heap[T.heap.size]? = some (zou cA N T.heap.size i) := by
      have hlt : T.heap.size < (zfl T cA N x i).heap.size := by omega
      rw [State.heap_pushCell_of_lt (h := hlt)]; exact f2
    have h := (ih.pushed x).stored hc i (.ref (T.heap.size + 1 + i))
    rw [zou_s] at h
    have h2 := Stand.forget h (fun y hy => by
      cases List.mem_singleton.mp hy
      exact X.same.2.1)
    have e3 : slots + N + (i + 1) * x.slots.size = slots + N + i * x.slots.size + x.slots.size := by rw [Nat.succ_mul]; omega
    rw [e3]
    exact h2
theorem zst_3 (X : Stand p l e R s m args below meth c T locs cells slots) (cA cB : ClassId) (N : Nat) (x : Cell) : Stand p l e R s m args below meth c ((zfl (T.pushCell (zou cA 1 T.heap.size 0)) cB N x N).setCell T.heap.size (zou cA 1 T.heap.size 1)) locs (cells + 1 + 1 + N) (slots + 1 + N + N * x.slots.size) := by
  have h0 := X.pushed (zou cA 1 T.heap.size 0)
  rw [show (zou cA 1 T.heap.size 0).slots.size = 1 from arrV_size _ _ _] at h0
  have h1 := zst_fl h0 cB N x N
  have z1 : (T.pushCell (zou cA 1 T.heap.size 0)).heap.size = T.heap.size + 1 := by simp
  have hold : (zfl (T.pushCell (zou cA 1 T.heap.size 0)) cB N x N).heap[T.heap.size]? = some (zou cA 1 T.heap.size 0) := by
    rw [zfl_old _ _ _ _ (by rw [z1]; omega)]
    exact State.heap_pushCell_size _ _
  have h2 := h1.stored hold 0 (.ref (T.heap.size + 1 + 0))
  rw [zou_s] at h2
  exact Stand.forget h2 (fun y hy => by
    cases List.mem_singleton.mp hy
    exact X.same.2.1)
end ZMT
section ZMS2
variable {p : Program} {l : Launch} {e : Env} {R : Room} {s : State} {m : MethodId} {args : Array Value} {below : List Frame} {meth : Method} {c : Code} {T : State} {locs : List Loc} {cells slots : Nat}
theorem zma2 (X : Stand p l e R s m args below meth c T locs cells slots) (hexec : p.tables.exec = Jvm.exec) {own nm : String} {index : Nat} {ty : FieldType} {cB cC cD : ClassId} {kB kC : Class} (hown : s.vm.findClass own = some m.cls) (hclink : (Cond.classLink own index nm).before args s = true) (hnm : s.vm.findClass nm = some cB) (hkB : s.vm.classes[cB]? = some kB) (hkindB : kB.kind = .array cC (.array ty)) (hkC : s.vm.classes[cC]? = some kC) (hkindC : kC.kind = .array cD ty)
    {g : JFrame} (hg : g.method = m) (hdg : decode c.code g.pc = .ok (.multianewarray index 2, 4)) {n k : Int32} {rest : List Value} (hstack : g.stack = .int k :: .int n :: rest) (hn : ¬ n < 0) (hk : ¬ k < 0) (hb1 : n.toNatClampNeg * 4 ≤ 536870912) (hb2 : k.toNatClampNeg * componentBytes ty ≤ 536870912) (hb3 : k.toNatClampNeg ≤ 536870912) (hdf : fits ty (defaultValue ty) = true) (hdd : (defaultValue ty).isDefault = true) (hcells : cells + (1 + n.toNatClampNeg) ≤ R.cells) (hslots : slots + (n.toNatClampNeg + n.toNatClampNeg * k.toNatClampNeg) ≤ R.slots) :
    ∃ vm₁ : Vm, Stand p l e R s m args below meth c (zfl (T.setVm vm₁) cB n.toNatClampNeg (arrV cC k.toNatClampNeg (fun _ => defaultValue ty)) n.toNatClampNeg) locs (cells + 1 + n.toNatClampNeg) (slots + n.toNatClampNeg + n.toNatClampNeg * k.toNatClampNeg) ∧ ∀ target, Steps p.tables e below ((zfl (T.setVm vm₁) cB n.toNatClampNeg (arrV cC k.toNatClampNeg (fun _ => defaultValue ty)) n.toNatClampNeg).setTop { g with pc := g.pc + 4, stack := .ref T.heap.size :: rest }) target → Steps p.tables e below (T.setTop g) target := by
  subst hg
  have hpl : e.platform.magicAccessors = ({} : Platform).magicAccessors := by rw [X.admits.platform]
  obtain ⟨c0, hfc0, hcl⟩ := Cond.classLink_spec hown hclink e.platform hpl
  cases hnm.symm.trans hfc0
  obtain ⟨hg₁, hwarm₁, hready₁⟩ := State.classEntry (e := e) X.warmed hcl
  generalize T.vm.noted g.method.cls index (.cls cB) = vm₁ at hg₁ hwarm₁ hready₁
  have hal : s.vm.Alike vm₁ := hwarm₁.alike
  obtain ⟨qB, hqB, heB⟩ := hal.2.2 _ _ hkB
  obtain ⟨qC, hqC, heC⟩ := hal.2.2 _ _ hkC
  have hiB : qB.kind = .array cC (.array ty) := by rw [heB]; exact hkindB
  have hiC : qC.kind = .array cD ty := by rw [heC]; exact hkindC
  have X₁ := X.noted hwarm₁
  obtain ⟨hr1, hr2⟩ := X.roomAbove hcells hslots
  have XF : Stand p l e R s g.method args below meth c (zfl (T.setVm vm₁) cB n.toNatClampNeg (arrV cC k.toNatClampNeg (fun _ => defaultValue ty)) n.toNatClampNeg) locs (cells + 1 + n.toNatClampNeg) (slots + n.toNatClampNeg + n.toNatClampNeg * k.toNatClampNeg) := by
    have h9 := zst_fl X₁ cB n.toNatClampNeg (arrV cC k.toNatClampNeg (fun _ => defaultValue ty)) n.toNatClampNeg
    rw [show (arrV cC k.toNatClampNeg (fun _ => defaultValue ty)).slots.size = k.toNatClampNeg from arrV_size _ _ _] at h9
    exact h9
  refine ⟨vm₁, XF, fun target hrest => ?_⟩
  have hl1 : ¬ n.toNatClampNeg > e.platform.arrayLengthLimit := by rw [Launch.admits_arrayLengthLimit X.admits]; omega
  have hh1 : ¬ n.toNatClampNeg * componentBytes (.array ty) > e.platform.maxHeapBytes := by
    rw [Launch.admits_maxHeapBytes X.admits]; show ¬ n.toNatClampNeg * 4 > 536870912; omega
  have hl2 : ¬ k.toNatClampNeg > e.platform.arrayLengthLimit := by rw [Launch.admits_arrayLengthLimit X.admits]; omega
  have hh2 : ¬ k.toNatClampNeg * componentBytes ty > e.platform.maxHeapBytes := by rw [Launch.admits_maxHeapBytes X.admits]; omega
  jvm_step X.here [hexec, hdg]
  simp only [multianewarray.sem, wp_bind', W.resolveClassAt_links (State.method?_setTop g X.here.top) hg₁]
  rw [W.popN, if_neg (by decide)]
  refine ⟨g, State.topJava?_setTop' (s := T.setVm vm₁) g X.here.top, [.int n, .int k], rest, rfl, hstack, ?_⟩
  simp only [List.mapM_cons, List.mapM_nil, wp_bind', wp_pure']
  refine zwp_2 (k := qB) (k2 := qC) (c2 := cC) (cc := cD) (t0 := .array ty) (ty := ty) hqB hiB rfl hqC hiC hn hk hl1 hh1 hl2 hh2 hdf hdd (by show T.heap.size + 1 + _ ≤ _; omega) (by show T.slotsUsed + _ + _ ≤ _; omega) (fun d' acts' => ?_)
  have eS : ((T.setTop g).setVm vm₁).setTop { g with stack := rest } = (T.setVm vm₁).setTop { g with stack := rest } := by
    show ((T.setVm vm₁).setTop g).setTop _ = _
    rw [State.setTop_setTop]
  rw [eS]
  simp only [State.heap_setTop, State.pushCell_setTop, zfl_top, State.setCell_setTop]
  have XG : Stand p l e R s g.method args below meth c (zfl (T.setVm vm₁) cB n.toNatClampNeg (arrV cC k.toNatClampNeg (fun _ => defaultValue ty)) n.toNatClampNeg) locs (cells + 1 + n.toNatClampNeg) (slots + n.toNatClampNeg + n.toNatClampNeg * k.toNatClampNeg) := XF
  simp only [wp_bind', W.mark, W.pushRef, State.topJava?_setTop' _ XG.here.top, Option.some.injEq, exists_eq_left', State.setTop_setTop, State.heap_setTop]
  intro acts
  simp [jvm, XG.here.top]
  exact hrest
end ZMS2
section ZMS3
variable {p : Program} {l : Launch} {e : Env} {R : Room} {s : State} {m : MethodId} {args : Array Value} {below : List Frame} {meth : Method} {c : Code} {T : State} {locs : List Loc} {cells slots : Nat}
theorem zma3 (X : Stand p l e R s m args below meth c T locs cells slots) (hexec : p.tables.exec = Jvm.exec) {own nm : String} {index : Nat} {ty : FieldType} {cA cB cC cD : ClassId} {kA kB kC : Class} (hown : s.vm.findClass own = some m.cls) (hclink : (Cond.classLink own index nm).before args s = true) (hnm : s.vm.findClass nm = some cA) (hkA : s.vm.classes[cA]? = some kA) (hkindA : kA.kind = .array cB (.array (.array ty))) (hkB : s.vm.classes[cB]? = some kB) (hkindB : kB.kind = .array cC (.array ty)) (hkC : s.vm.classes[cC]? = some kC) (hkindC : kC.kind = .array cD ty)
    {g : JFrame} (hg : g.method = m) (hdg : decode c.code g.pc = .ok (.multianewarray index 3, 4)) {n k : Int32} {rest : List Value} (hstack : g.stack = .int k :: .int n :: .int 1 :: rest) (hn : ¬ n < 0) (hk : ¬ k < 0) (hb1 : n.toNatClampNeg * 4 ≤ 536870912) (hb2 : k.toNatClampNeg * componentBytes ty ≤ 536870912) (hb3 : k.toNatClampNeg ≤ 536870912) (hdf : fits ty (defaultValue ty) = true) (hdd : (defaultValue ty).isDefault = true) (hcells : cells + (1 + 1 + n.toNatClampNeg) ≤ R.cells) (hslots : slots + (1 + n.toNatClampNeg + n.toNatClampNeg * k.toNatClampNeg) ≤ R.slots) :
    ∃ vm₁ : Vm, Stand p l e R s m args below meth c ((zfl ((T.setVm vm₁).pushCell (zou cA 1 T.heap.size 0)) cB n.toNatClampNeg (arrV cC k.toNatClampNeg (fun _ => defaultValue ty)) n.toNatClampNeg).setCell T.heap.size (zou cA 1 T.heap.size 1)) locs (cells + 1 + 1 + n.toNatClampNeg) (slots + 1 + n.toNatClampNeg + n.toNatClampNeg * k.toNatClampNeg) ∧ ∀ target, Steps p.tables e below (((zfl ((T.setVm vm₁).pushCell (zou cA 1 T.heap.size 0)) cB n.toNatClampNeg (arrV cC k.toNatClampNeg (fun _ => defaultValue ty)) n.toNatClampNeg).setCell T.heap.size (zou cA 1 T.heap.size 1)).setTop { g with pc := g.pc + 4, stack := .ref T.heap.size :: rest }) target → Steps p.tables e below (T.setTop g) target := by
  subst hg
  have hpl : e.platform.magicAccessors = ({} : Platform).magicAccessors := by rw [X.admits.platform]
  obtain ⟨c0, hfc0, hcl⟩ := Cond.classLink_spec hown hclink e.platform hpl
  cases hnm.symm.trans hfc0
  obtain ⟨hg₁, hwarm₁, hready₁⟩ := State.classEntry (e := e) X.warmed hcl
  generalize T.vm.noted g.method.cls index (.cls cA) = vm₁ at hg₁ hwarm₁ hready₁
  have hal : s.vm.Alike vm₁ := hwarm₁.alike
  obtain ⟨qA, hqA, heA⟩ := hal.2.2 _ _ hkA
  obtain ⟨qB, hqB, heB⟩ := hal.2.2 _ _ hkB
  obtain ⟨qC, hqC, heC⟩ := hal.2.2 _ _ hkC
  have hiA : qA.kind = .array cB (.array (.array ty)) := by rw [heA]; exact hkindA
  have hiB : qB.kind = .array cC (.array ty) := by rw [heB]; exact hkindB
  have hiC : qC.kind = .array cD ty := by rw [heC]; exact hkindC
  have X₁ := X.noted hwarm₁
  obtain ⟨hr1, hr2⟩ := X.roomAbove hcells hslots
  have XF : Stand p l e R s g.method args below meth c ((zfl ((T.setVm vm₁).pushCell (zou cA 1 T.heap.size 0)) cB n.toNatClampNeg (arrV cC k.toNatClampNeg (fun _ => defaultValue ty)) n.toNatClampNeg).setCell T.heap.size (zou cA 1 T.heap.size 1)) locs (cells + 1 + 1 + n.toNatClampNeg) (slots + 1 + n.toNatClampNeg + n.toNatClampNeg * k.toNatClampNeg) := by
    have h9 := zst_3 X₁ cA cB n.toNatClampNeg (arrV cC k.toNatClampNeg (fun _ => defaultValue ty))
    rw [show (arrV cC k.toNatClampNeg (fun _ => defaultValue ty)).slots.size = k.toNatClampNeg from arrV_size _ _ _] at h9
    exact h9
  refine ⟨vm₁, XF, fun target hrest => ?_⟩
  have hl1 : ¬ n.toNatClampNeg > e.platform.arrayLengthLimit := by rw [Launch.admits_arrayLengthLimit X.admits]; omega
  have hh1 : ¬ n.toNatClampNeg * componentBytes (.array ty) > e.platform.maxHeapBytes := by
    rw [Launch.admits_maxHeapBytes X.admits]; show ¬ n.toNatClampNeg * 4 > 536870912; omega
  have hl2 : ¬ k.toNatClampNeg > e.platform.arrayLengthLimit := by rw [Launch.admits_arrayLengthLimit X.admits]; omega
  have hh2 : ¬ k.toNatClampNeg * componentBytes ty > e.platform.maxHeapBytes := by rw [Launch.admits_maxHeapBytes X.admits]; omega
  have hl0 : ¬ 1 > e.platform.arrayLengthLimit := by rw [Launch.admits_arrayLengthLimit X.admits]; omega
  have hh0 : ¬ 1 * componentBytes (.array (.array ty)) > e.platform.maxHeapBytes := by
    rw [Launch.admits_maxHeapBytes X.admits]; show ¬ 1 * 4 > 536870912; omega
  jvm_step X.here [hexec, hdg]
  simp only [multianewarray.sem, wp_bind', W.resolveClassAt_links (State.method?_setTop g X.here.top) hg₁]
  rw [W.popN, if_neg (by decide)]
  refine ⟨g, State.topJava?_setTop' (s := T.setVm vm₁) g X.here.top, [.int 1, .int n, .int k], rest, rfl, hstack, ?_⟩
  simp only [List.mapM_cons, List.mapM_nil, wp_bind', wp_pure']
  refine zwp_3 (k0 := qA) (k1 := qB) (k2 := qC) (c1 := cB) (c2 := cC) (cc := cD) (t0 := .array (.array ty)) (t1 := .array ty) (ty := ty) hqA hiA rfl hqB hiB rfl hqC hiC hn hk hl0 hh0 hl1 hh1 hl2 hh2 hdf hdd (by show T.heap.size + 1 + 1 + _ ≤ _; omega) (by show T.slotsUsed + 1 + _ + _ ≤ _; omega) (fun d' acts' => ?_)
  have eS : ((T.setTop g).setVm vm₁).setTop { g with stack := rest } = (T.setVm vm₁).setTop { g with stack := rest } := by
    show ((T.setVm vm₁).setTop g).setTop _ = _
    rw [State.setTop_setTop]
  rw [eS]
  simp only [State.heap_setTop, State.pushCell_setTop, zfl_top, State.setCell_setTop]
  have XG : Stand p l e R s g.method args below meth c ((zfl ((T.setVm vm₁).pushCell (zou cA 1 (T.setVm vm₁).heap.size 0)) cB n.toNatClampNeg (arrV cC k.toNatClampNeg (fun _ => defaultValue ty)) n.toNatClampNeg).setCell (T.setVm vm₁).heap.size (zou cA 1 (T.setVm vm₁).heap.size 1)) locs (cells + 1 + 1 + n.toNatClampNeg) (slots + 1 + n.toNatClampNeg + n.toNatClampNeg * k.toNatClampNeg) := XF
  simp only [wp_bind', W.mark, W.pushRef, State.topJava?_setTop' _ XG.here.top, Option.some.injEq, exists_eq_left', State.setTop_setTop, State.heap_setTop]
  intro acts
  simp [jvm, XG.here.top]
  exact hrest
end ZMS3
section ZMX
variable {p : Program} {l : Launch} {e : Env} {R : Room} {s : State} {m : MethodId} {args : Array Value} {below : List Frame} {meth : Method} {c : Code} {H : Heap} {locs : List Loc} {cells slots : Nat} {Q : State → Prop}
variable {cc : ByteArray} {pc : Nat} {ls : Array Slot} {rest : List Value} {A : Nat → Prop} {ws : va_W} {g : zGl}
theorem z_RA {U : State} {c : ClassId} {ty : FieldType} (h : va_RA U c ty) (hp : zPrm ty) : U.vm.findClass ("[" ++ ty.toString) = some c := by
  cases ty <;> first | exact h | exact hp.elim
theorem zi_mna2 {k0 k1 N' K' : Nat} {n k : Int32} {ty : FieldType} {z : vp_A} (hx : p.tables.exec = Jvm.exec) (hb : c.code = cc) {own : String} {index : Nat} (hown : s.vm.findClass own = some m.cls) (hclink : (Cond.classLink own index ("[" ++ (FieldType.array ty).toString)).before args s = true) (hov : zAo ty s) (hK : zK g s) (hP : va_P g.1 zCl ws H) (hD : va_D A ws) (hS : va_S A s.heap H locs) (hA : ∀ q, s.heap.size ≤ q → A q) (hn : ¬ n < 0) (hk : ¬ k < 0) (hN : n.toNatClampNeg = N') (hM : k.toNatClampNeg = K')
    (hb1 : N' * 4 ≤ 536870912) (hb2 : K' * componentBytes ty ≤ 536870912) (hb3 : K' ≤ 536870912) (hdf : fits ty (defaultValue ty) = true) (hdd : (defaultValue ty).isDefault = true) (hcells : cells + (1 + N') ≤ R.cells) (hslots : slots + (N' + N' * K') ≤ R.slots) (hz : ∀ c : ClassId, vp_cell c z = arrV c K' (fun _ => defaultValue ty)) (hdg : decode cc pc = .ok (.multianewarray index 2, 4)) (hk0 : (zTy g.2)[k0]? = some (g.2 k0, .array ty)) (hk1 : (zTy g.2)[k1]? = some (g.2 k1, ty)) (hp : zPrm ty)
    (kk : ∀ (q : Nat) (r : Nat → Nat) (H1 : Heap) (locs1 : List Loc), va_P g.1 zCl (ws ++ ((q, .inl (g.2 k0, N', .inr (.inr (.inr (.inr (zaR r)))))) :: (List.range N').map (fun i => (r i, .inl (g.2 k1, z))))) H1 → va_D A (ws ++ ((q, .inl (g.2 k0, N', .inr (.inr (.inr (.inr (zaR r)))))) :: (List.range N').map (fun i => (r i, .inl (g.2 k1, z))))) → va_S A s.heap H1 locs1 → W p l e R s m args below meth c H1 locs1 (cells + 1 + N') (slots + N' + N' * K') Q (F0 m (pc + 4) ls (.ref q :: rest))) : W p l e R s m args below meth c H locs cells slots Q (F0 m pc ls (.int k :: .int n :: rest)) := by
  subst hN; subst hM
  intro T hT X
  obtain ⟨cC, cB, kB, g1, g2, g3, g4⟩ := hov
  have eB : cB = g.2 k0 := Option.some.inj (g4.symm.trans (hK.2 k0 _ hk0).2)
  have eC : cC = g.2 k1 := Option.some.inj (g1.symm.trans (z_RA (hK.2 k1 _ hk1).2 hp))
  subst eB; subst eC
  obtain ⟨-, kC, hkC, cD, hkindC⟩ := (hK.2 k1 _ hk1).1 0 (fun _ => .null)
  have hkC : s.vm.classes[g.2 k1]? = some kC := hkC
  obtain ⟨vm₁, X', step⟩ := zma2 X hx hown hclink g4 g2 g3 hkC hkindC (g := F0 m pc ls (.int k :: .int n :: rest)) rfl (by rw [hb]; exact hdg) rfl hn hk hb1 hb2 hb3 hdf hdd hcells hslots
  obtain ⟨f1, f2, -, -⟩ := zfl_f (T.setVm vm₁) (g.2 k0) n.toNatClampNeg (arrV (g.2 k1) k.toNatClampNeg (fun _ => defaultValue ty)) n.toNatClampNeg
  have hU2 : ∀ x : Nat, x < T.heap.size → (zfl (T.setVm vm₁) (g.2 k0) n.toNatClampNeg (arrV (g.2 k1) k.toNatClampNeg (fun _ => defaultValue ty)) n.toNatClampNeg).heap[x]? = T.heap[x]? := fun x hx => zfl_old (T.setVm vm₁) (g.2 k0) n.toNatClampNeg (arrV (g.2 k1) k.toNatClampNeg (fun _ => defaultValue ty)) hx n.toNatClampNeg
  have hU3 : ∀ j : Nat, j < n.toNatClampNeg → (zfl (T.setVm vm₁) (g.2 k0) n.toNatClampNeg (arrV (g.2 k1) k.toNatClampNeg (fun _ => defaultValue ty)) n.toNatClampNeg).heap[T.heap.size + 1 + j]? = some (arrV (g.2 k1) k.toNatClampNeg (fun _ => defaultValue ty)) := fun j hj => zfl_in (T.setVm vm₁) (g.2 k0) n.toNatClampNeg (arrV (g.2 k1) k.toNatClampNeg (fun _ => defaultValue ty)) n.toNatClampNeg j hj
  have f1 : (zfl (T.setVm vm₁) (g.2 k0) n.toNatClampNeg (arrV (g.2 k1) k.toNatClampNeg (fun _ => defaultValue ty)) n.toNatClampNeg).heap.size = T.heap.size + 1 + n.toNatClampNeg := f1
  have f2 : (zfl (T.setVm vm₁) (g.2 k0) n.toNatClampNeg (arrV (g.2 k1) k.toNatClampNeg (fun _ => defaultValue ty)) n.toNatClampNeg).heap[T.heap.size]? = some (zou (g.2 k0) n.toNatClampNeg T.heap.size n.toNatClampNeg) := f2
  generalize zfl (T.setVm vm₁) (g.2 k0) n.toNatClampNeg (arrV (g.2 k1) k.toNatClampNeg (fun _ => defaultValue ty)) n.toNatClampNeg = F at X' step f1 f2 hU2 hU3
  have hsz : T.heap.size = H.size := by rw [hT]
  have hold : ∀ x : Nat, x < H.size → F.heap[x]? = H[x]? := fun x hx => by rw [hU2 x (by omega), hT]
  have hr1 : F.heap[H.size]? = some (vp_cell (g.2 k0) (n.toNatClampNeg, .inr (.inr (.inr (.inr (zaR (fun i => H.size + 1 + i))))))) := by
    rw [← zou_n, ← hsz]; exact f2
  have hr2 : ∀ j : Nat, j < n.toNatClampNeg → F.heap[H.size + 1 + j]? = some (vp_cell (g.2 k1) z) := fun j hj => by
    rw [hz, ← hsz]; exact hU3 j hj
  have hB : ∀ (k9 : Nat) (q : Nat × va_E), ((H.size, .inl (g.2 k0, n.toNatClampNeg, .inr (.inr (.inr (.inr (zaR (fun i => H.size + 1 + i))))))) :: (List.range n.toNatClampNeg).map (fun i => (H.size + 1 + i, (.inl (g.2 k1, z) : va_E))) : va_W)[k9]? = some q → q.1 = H.size + k9 ∧ va_at g.1 zCl q F.heap := fun k9 q hq => by
    match k9, hq with
    | 0, hq => cases hq; exact ⟨rfl, hr1⟩
    | k9 + 1, hq =>
      obtain ⟨hl, rfl⟩ := z_row (k := k9) hq
      exact ⟨by show H.size + 1 + k9 = H.size + (k9 + 1); omega, hr2 k9 hl⟩
  have hA2 : ∀ q : Nat, H.size ≤ q → A q := fun q h => hA q (Nat.le_trans hS.1 h)
  obtain ⟨t, a1, b1⟩ := kk H.size (fun i => H.size + 1 + i) F.heap locs ((hP.kept (fun k9 x hx => hold x.1 ((hP k9 x hx).lt))).app (fun k9 q hq => (hB k9 q hq).2)) (zD_blk hP hD (fun k9 q hq => (hB k9 q hq).1) hA2)
    ⟨Nat.le_trans hS.1 (by rw [f1]; omega), fun q h1 h2 => (hold q (Nat.lt_of_lt_of_le h1 hS.1)).trans (hS.2.1 q h1 h2), hS.2.2⟩ F rfl X'
  exact ⟨t, step t (by rw [hsz]; exact a1), b1⟩
theorem zi_mna3 {k0 k1 k3 N' K' : Nat} {n k o1 : Int32} {ty : FieldType} {z : vp_A} (hx : p.tables.exec = Jvm.exec) (hb : c.code = cc) {own : String} {index : Nat} (hown : s.vm.findClass own = some m.cls) (hclink : (Cond.classLink own index ("[" ++ (FieldType.array (.array ty)).toString)).before args s = true) (hov : zAo ty s) (hov3 : zAo (.array ty) s) (hK : zK g s) (hP : va_P g.1 zCl ws H) (hD : va_D A ws) (hS : va_S A s.heap H locs) (hA : ∀ q, s.heap.size ≤ q → A q) (ho1 : o1 = 1) (hn : ¬ n < 0) (hk : ¬ k < 0) (hN : n.toNatClampNeg = N') (hM : k.toNatClampNeg = K')
    (hb1 : N' * 4 ≤ 536870912) (hb2 : K' * componentBytes ty ≤ 536870912) (hb3 : K' ≤ 536870912) (hdf : fits ty (defaultValue ty) = true) (hdd : (defaultValue ty).isDefault = true) (hcells : cells + (1 + 1 + N') ≤ R.cells) (hslots : slots + (1 + N' + N' * K') ≤ R.slots) (hz : ∀ c : ClassId, vp_cell c z = arrV c K' (fun _ => defaultValue ty)) (hdg : decode cc pc = .ok (.multianewarray index 3, 4)) (hk0 : (zTy g.2)[k0]? = some (g.2 k0, .array ty)) (hk1 : (zTy g.2)[k1]? = some (g.2 k1, ty)) (hp : zPrm ty) (hk3 : (zTy g.2)[k3]? = some (g.2 k3, .array (.array ty)))
    (kk : ∀ (q3 : Nat) (r3 r : Nat → Nat) (H1 : Heap) (locs1 : List Loc), va_P g.1 zCl (ws ++ ((q3, .inl (g.2 k3, 1, .inr (.inr (.inr (.inr (zaR r3)))))) :: (r3 0, .inl (g.2 k0, N', .inr (.inr (.inr (.inr (zaR r)))))) :: (List.range N').map (fun i => (r i, .inl (g.2 k1, z))))) H1 → va_D A (ws ++ ((q3, .inl (g.2 k3, 1, .inr (.inr (.inr (.inr (zaR r3)))))) :: (r3 0, .inl (g.2 k0, N', .inr (.inr (.inr (.inr (zaR r)))))) :: (List.range N').map (fun i => (r i, .inl (g.2 k1, z))))) → va_S A s.heap H1 locs1 → W p l e R s m args below meth c H1 locs1 (cells + 1 + 1 + N') (slots + 1 + N' + N' * K') Q (F0 m (pc + 4) ls (.ref q3 :: rest))) : W p l e R s m args below meth c H locs cells slots Q (F0 m pc ls (.int k :: .int n :: .int o1 :: rest)) := by
  subst hN; subst hM; subst ho1
  intro T hT X
  obtain ⟨cC, cB, kB, g1, g2, g3, g4⟩ := hov
  have eB : cB = g.2 k0 := Option.some.inj (g4.symm.trans (hK.2 k0 _ hk0).2)
  have eC : cC = g.2 k1 := Option.some.inj (g1.symm.trans (z_RA (hK.2 k1 _ hk1).2 hp))
  subst eB; subst eC
  obtain ⟨-, kC, hkC, cD, hkindC⟩ := (hK.2 k1 _ hk1).1 0 (fun _ => .null)
  have hkC : s.vm.classes[g.2 k1]? = some kC := hkC
  obtain ⟨cB', cA, kA, j1, j2, j3, j4⟩ := hov3
  have eA : cA = g.2 k3 := Option.some.inj (j4.symm.trans (hK.2 k3 _ hk3).2)
  have eB' : cB' = g.2 k0 := Option.some.inj (j1.symm.trans g4)
  subst eA; subst eB'
  obtain ⟨vm₁, X', step⟩ := zma3 X hx hown hclink j4 j2 j3 g2 g3 hkC hkindC (g := F0 m pc ls (.int k :: .int n :: .int 1 :: rest)) rfl (by rw [hb]; exact hdg) rfl hn hk hb1 hb2 hb3 hdf hdd hcells hslots
  have z1 : ((T.setVm vm₁).pushCell (zou (g.2 k3) 1 T.heap.size 0)).heap.size = T.heap.size + 1 := by simp
  have hUo : ∀ x : Nat, x < T.heap.size → ((T.setVm vm₁).pushCell (zou (g.2 k3) 1 T.heap.size 0)).heap[x]? = T.heap[x]? := fun x hx => State.heap_pushCell_of_lt (T.setVm vm₁) _ hx
  generalize (T.setVm vm₁).pushCell (zou (g.2 k3) 1 T.heap.size 0) = U at X' step z1 hUo
  obtain ⟨f1, f2, -, -⟩ := zfl_f U (g.2 k0) n.toNatClampNeg (arrV (g.2 k1) k.toNatClampNeg (fun _ => defaultValue ty)) n.toNatClampNeg
  have hU2 : ∀ x : Nat, x < U.heap.size → (zfl U (g.2 k0) n.toNatClampNeg (arrV (g.2 k1) k.toNatClampNeg (fun _ => defaultValue ty)) n.toNatClampNeg).heap[x]? = U.heap[x]? := fun x hx => zfl_old U (g.2 k0) n.toNatClampNeg (arrV (g.2 k1) k.toNatClampNeg (fun _ => defaultValue ty)) hx n.toNatClampNeg
  have hU3 : ∀ j : Nat, j < n.toNatClampNeg → (zfl U (g.2 k0) n.toNatClampNeg (arrV (g.2 k1) k.toNatClampNeg (fun _ => defaultValue ty)) n.toNatClampNeg).heap[U.heap.size + 1 + j]? = some (arrV (g.2 k1) k.toNatClampNeg (fun _ => defaultValue ty)) := fun j hj => zfl_in U (g.2 k0) n.toNatClampNeg (arrV (g.2 k1) k.toNatClampNeg (fun _ => defaultValue ty)) n.toNatClampNeg j hj
  generalize zfl U (g.2 k0) n.toNatClampNeg (arrV (g.2 k1) k.toNatClampNeg (fun _ => defaultValue ty)) n.toNatClampNeg = V at X' step f1 f2 hU2 hU3
  rw [z1] at f1 f2 hU3
  generalize hF : V.setCell T.heap.size (zou (g.2 k3) 1 T.heap.size 1) = F at X' step
  have q1 : F.heap.size = V.heap.size := by rw [← hF]; simp [State.setCell]
  have hv : T.heap.size < V.heap.size := by rw [f1]; omega
  have q0 : F.heap[T.heap.size]? = some (zou (g.2 k3) 1 T.heap.size 1) := by
    rw [← hF]
    exact heapAt_setCell_self _ hv
  have q2 : ∀ x : Nat, x ≠ T.heap.size → F.heap[x]? = V.heap[x]? := fun x hx => by
    rw [← hF]
    exact heapAt_setCell_ne _ (Ne.symm hx)
  have hsz : T.heap.size = H.size := by rw [hT]
  have hold : ∀ x : Nat, x < H.size → F.heap[x]? = H[x]? := fun x hx => by rw [q2 x (by omega), hU2 x (by omega), hUo x (by omega), hT]
  have hr0 : F.heap[H.size]? = some (vp_cell (g.2 k3) (1, .inr (.inr (.inr (.inr (zaR (fun i => H.size + 1 + i))))))) := by
    rw [← zou_n, ← hsz]; exact q0
  have hr1 : F.heap[H.size + 1]? = some (vp_cell (g.2 k0) (n.toNatClampNeg, .inr (.inr (.inr (.inr (zaR (fun i => H.size + 1 + 1 + i))))))) := by
    rw [← zou_n, ← hsz, q2 _ (by omega)]; exact f2
  have hr2 : ∀ j : Nat, j < n.toNatClampNeg → F.heap[H.size + 1 + 1 + j]? = some (vp_cell (g.2 k1) z) := fun j hj => by
    rw [hz, ← hsz, q2 _ (by omega)]; exact hU3 j hj
  have hB : ∀ (k9 : Nat) (q : Nat × va_E), ((H.size, .inl (g.2 k3, 1, .inr (.inr (.inr (.inr (zaR (fun i => H.size + 1 + i))))))) :: (H.size + 1, .inl (g.2 k0, n.toNatClampNeg, .inr (.inr (.inr (.inr (zaR (fun i => H.size + 1 + 1 + i))))))) :: (List.range n.toNatClampNeg).map (fun i => (H.size + 1 + 1 + i, (.inl (g.2 k1, z) : va_E))) : va_W)[k9]? = some q → q.1 = H.size + k9 ∧ va_at g.1 zCl q F.heap := fun k9 q hq => by
    match k9, hq with
    | 0, hq => cases hq; exact ⟨rfl, hr0⟩
    | 1, hq => cases hq; exact ⟨rfl, hr1⟩
    | k9 + 2, hq =>
      obtain ⟨hl, rfl⟩ := z_row (k := k9) hq
      exact ⟨by show H.size + 1 + 1 + k9 = H.size + (k9 + 2); omega, hr2 k9 hl⟩
  have hA2 : ∀ q : Nat, H.size ≤ q → A q := fun q h => hA q (Nat.le_trans hS.1 h)
  obtain ⟨t, a1, b1⟩ := kk H.size (fun i => H.size + 1 + i) (fun i => H.size + 1 + 1 + i) F.heap locs ((hP.kept (fun k9 x hx => hold x.1 ((hP k9 x hx).lt))).app (fun k9 q hq => (hB k9 q hq).2)) (zD_blk hP hD (fun k9 q hq => (hB k9 q hq).1) hA2)
    ⟨Nat.le_trans hS.1 (by rw [q1, f1]; omega), fun q h1 h2 => (hold q (Nat.lt_of_lt_of_le h1 hS.1)).trans (hS.2.1 q h1 h2), hS.2.2⟩ F rfl X'
  exact ⟨t, step t (by rw [hsz]; exact a1), b1⟩
def zuq (k : Nat) (f : Nat → Nat) : Nat → Option Nat := fun j => if j < k then some (f j) else none
theorem zuq_s {k : Nat} {f : Nat → Nat} : va_up (zuq k f) k (some (f k)) = zuq (k + 1) f := by
  funext j
  unfold va_up zuq
  by_cases h : j = k
  · subst h; rw [if_pos rfl, if_pos (by omega)]
  · rw [if_neg h]
    by_cases h2 : j < k
    · rw [if_pos h2, if_pos (by omega)]
    · rw [if_neg h2, if_neg (by omega)]
theorem zi_newq {N' : Nat} {n : Int32} {mq : Nat → Nat} (hx : p.tables.exec = Jvm.exec) (hb : c.code = cc) {own : String} {index : Nat} (hown : s.vm.findClass own = some m.cls) (hclink : (Cond.classLink own index "java/lang/String").before args s = true) (hov : va_AO "java/lang/String" s) (hK : zK g s) (hP : va_P g.1 zCl ws H) (hD : va_D A ws) (hS : va_S A s.heap H locs) (hA : ∀ q, s.heap.size ≤ q → A q)
    (hn : ¬ n < 0) (hN : n.toNatClampNeg = N') (hbytes : N' * 4 ≤ 536870912) (hcells : cells + 1 ≤ R.cells) (hslots : slots + N' ≤ R.slots) (hdg : decode cc pc = .ok (.anewarray index, 3))
    (kk : ∀ (q : Nat) (H1 : Heap), va_P g.1 zCl (ws ++ [(q, .inl (g.2 8, N', .inr (.inr (.inr (.inr (zuq 0 mq))))))]) H1 → va_D A (ws ++ [(q, .inl (g.2 8, N', .inr (.inr (.inr (.inr (zuq 0 mq))))))]) → va_S A s.heap H1 locs →
      W p l e R s m args below meth c H1 locs (cells + 1) (slots + N') Q (F0 m (pc + 3) ls (.ref q :: rest))) : W p l e R s m args below meth c H locs cells slots Q (F0 m pc ls (.int n :: rest)) := by
  refine va_newq hx hb hown hclink hov hK hP hD hS hA hn hN hbytes hcells hslots hdg (fun q cA H1 hK2 hP2 hD2 hS2 => ?_)
  obtain ⟨_, _, _, _, _, h1⟩ := (hK2.2 (zTy g.2).length (cA, .object "java/lang/String") (by rw [List.getElem?_append_right (Nat.le_refl _), Nat.sub_self]; rfl)).2
  obtain ⟨_, _, _, _, _, h2⟩ := (hK.2 8 (g.2 8, .object "java/lang/String") rfl).2
  have e : cA = g.2 8 := Option.some.inj (h1.symm.trans h2)
  subst e
  have e0 : (fun _ : Nat => (none : Option Nat)) = zuq 0 mq := funext fun j => by unfold zuq; rw [if_neg (by omega)]
  rw [e0] at hP2 hD2
  exact kk q H1 hP2 hD2 hS2
theorem zi_astS {x : Int32} {k n a : Nat} {mq : Nat → Nat} (hx : p.tables.exec = Jvm.exec) (hb : c.code = cc) (hK : zK g s) (hP : va_P g.1 zCl ws H) (hD : va_D A ws) (hS : va_S A s.heap H locs) (q0 : Nat) (ha : ws[q0]? = some (a, .inl (g.2 8, n, .inr (.inr (.inr (.inr (zuq k mq))))))) (hr : ∃ cellV : Cell, H[mq k]? = some cellV ∧ cellV.vm.isStatics = false ∧ s.vm.findClass "java/lang/String" = some cellV.cls) (hxk : x.toNatClampNeg = k) (hin : vp_in x n) (hdg : decode cc pc = .ok (.aastore, 1))
    (kk : ∀ (H1 : Heap) (locs1 : List Loc), va_P g.1 zCl (ws.set q0 (a, .inl (g.2 8, n, .inr (.inr (.inr (.inr (zuq (k + 1) mq))))))) H1 → va_D A (ws.set q0 (a, .inl (g.2 8, n, .inr (.inr (.inr (.inr (zuq (k + 1) mq))))))) → va_S A s.heap H1 locs1 → W p l e R s m args below meth c H1 locs1 cells slots Q (F0 m (pc + 1) ls rest)) : W p l e R s m args below meth c H locs cells slots Q (F0 m pc ls (.ref (mq k) :: .int x :: .ref a :: rest)) := by
  refine vb_astq (E := "java/lang/String") (C := "java/lang/String") hx hb hK hP hD hS q0 8 ha rfl hr (fun comp c0 h1 h2 => vb_asgS comp c0 h1 h2) hin hdg (fun H1 locs1 hP1 hD1 hS1 => ?_)
  rw [hxk, zuq_s] at hP1 hD1
  exact kk H1 locs1 hP1 hD1 hS1
theorem zq_cell {c : ClassId} {n : Nat} {f f' : Nat → Option Nat} (h : ∀ j, j < n → f j = f' j) : vp_cell c (n, .inr (.inr (.inr (.inr f)))) = vp_cell c (n, .inr (.inr (.inr (.inr f')))) := by
  rw [vp_cell_q, vp_cell_q]
  exact arrV_e (fun j hj => by rw [h j hj])
theorem zP_q {D : va_G} {cl : List vw_C} {a n : Nat} {cA : ClassId} {f f' : Nat → Option Nat} (hP : va_P D cl ws H) (k0 : Nat) (ha : ws[k0]? = some (a, .inl (cA, n, .inr (.inr (.inr (.inr f)))))) (h : ∀ j, j < n → f j = f' j) : va_P D cl (ws.set k0 (a, .inl (cA, n, .inr (.inr (.inr (.inr f')))))) H := by
  intro k q hk
  by_cases e : k0 = k
  · subst e
    rw [List.getElem?_set_self (List.getElem?_eq_some_iff.mp ha).1] at hk
    cases hk
    have h1 := hP k0 _ ha
    show H[a]? = some (vp_cell cA (n, .inr (.inr (.inr (.inr f')))))
    rw [← zq_cell h]
    exact h1
  · rw [List.getElem?_set_ne e] at hk
    exact hP k q hk
end ZMX
