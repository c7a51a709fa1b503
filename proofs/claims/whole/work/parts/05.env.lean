/-! the form of a contract here: its words are its own code and zW; its world is a list of cells; ST: what it takes of the statics -/
abbrev zGl : Type := va_G × (Nat → ClassId)
def zTy (CA : Nat → ClassId) : List (ClassId × FieldType) := [(CA 0, .int), (CA 1, .boolean), (CA 2, .char), (CA 3, .byte), (CA 4, .long), (CA 5, .array .boolean), (CA 6, .array (.array .boolean)), (CA 7, .array .int), (CA 8, .object "java/lang/String")]
abbrev zStt : Type := State → Heap → Prop
def zMv (ST : zStt) : Prop := ∀ (u U : State) (H : Heap), u.WarmedH U.vm → ST u H → ST U H
def zN : zStt := fun _ _ => True
theorem zN_mv : zMv zN := fun _ _ _ _ h => h
abbrev zK (g : zGl) (s : State) : Prop := va_K g.1 zCl (zTy g.2) s
def zPs (g : zGl) (ST : zStt) (ws : va_W) (U : State) : Prop := zK g U ∧ ST U U.heap ∧ va_P g.1 zCl ws U.heap
def zPw (g : zGl) (ST : (Nat → Prop) → zStt) (ws : va_W) (sz : Nat) (U : State) : Prop := U.heap.size = sz ∧ zK g U ∧ ST (va_A ws sz) U U.heap ∧ va_P g.1 zCl ws U.heap ∧ va_D (fun _ => True) ws
/-- silent -/
def zSi (l : Launch) (y : MethodName) (cc : ByteArray) (maxL : Nat) (ret : Option FieldType) (rm : Room) (g : zGl) (ST : zStt) (As : List Value) (ws : va_W) (v : Option Value) : Prop :=
  Met l y (Cond.code y cc maxL ret :: zW) rm (va_Pc As (zPs g ST ws)) (zSil v) 0 0 (fun _ => False)
/-- writing its own cells, making mc cells of ms slots -/
def zWi (l : Launch) (y : MethodName) (cc : ByteArray) (maxL : Nat) (ret : Option FieldType) (rm : Room) (g : zGl) (ST : (Nat → Prop) → zStt) (As : List Value) (ws : va_W) (v : Option Value) (ws' : va_W) (mc ms : Nat) : Prop :=
  ∀ sz : Nat, Met l y (Cond.code y cc maxL ret :: zW) rm (va_Pc As (zPw g ST ws sz)) (zWr g.1 zCl v ws' (va_A ws sz)) mc ms (va_A ws sz)
theorem zG_S {c0 : Cond} {own : String} {index : Nat} {y : MethodName} {cc : ByteArray} {maxL : Nat} {ret : Option FieldType} (h1 : Cond.methodLink own index y ∈ zW) (h2 : Cond.static y ∈ zW) (h3 : Cond.initialized y.cls ∈ zW) (h4 : Cond.code y cc maxL ret ∈ zW) : GoodIn (c0 :: zW) (va_wsS own index y (Cond.code y cc maxL ret :: zW)) := by
  intro w hw
  have : w ∈ zW := by
    simp only [va_wsS, List.cons_append, List.nil_append, List.mem_cons] at hw
    rcases hw with rfl | rfl | rfl | rfl | h <;> assumption
  exact ⟨List.mem_cons_of_mem _ this, good_of_word (zW_good w this)⟩
theorem zG_V {c0 : Cond} {own C : String} {index : Nat} {y : MethodName} {cc : ByteArray} {maxL : Nat} {ret : Option FieldType} (h1 : Cond.methodLink own index y ∈ zW) (h2 : Cond.instanceMethod y ∈ zW) (h3 : Cond.selects C y y ∈ zW) (h4 : Cond.initialized C ∈ zW) (h5 : Cond.code y cc maxL ret ∈ zW) : GoodIn (c0 :: zW) (wsV own index C y (Cond.code y cc maxL ret :: zW)) := by
  intro w hw
  have : w ∈ zW := by
    simp only [wsV, List.cons_append, List.nil_append, List.mem_cons] at hw
    rcases hw with rfl | rfl | rfl | rfl | rfl | h <;> assumption
  exact ⟨List.mem_cons_of_mem _ this, good_of_word (zW_good w this)⟩
theorem zG_I {c0 : Cond} {y : MethodName} {cc : ByteArray} {maxL : Nat} {ret : Option FieldType} (h5 : Cond.code y cc maxL ret ∈ zW) : GoodIn (c0 :: zW) (Cond.code y cc maxL ret :: zW) := by
  intro w hw
  have : w ∈ zW := by
    simp only [List.mem_cons] at hw
    rcases hw with rfl | h <;> assumption
  exact ⟨List.mem_cons_of_mem _ this, good_of_word (zW_good w this)⟩
section ZO
variable {l : Launch} {y : MethodName} {cc : ByteArray} {maxL : Nat} {ret : Option FieldType} {rm : Room} {g : zGl} {As : List Value} {ws ws' : va_W} {v : Option Value} {mc ms : Nat}
theorem zs_open {ST : zStt} (hy : plainFor y = true) (hsl : (lg_sl As).length ≤ maxL)
    (body : ∀ (p : Program) (e : Env) (s : State) (m : MethodId) (below : List Frame) (meth : Method) (c : Code) (ls : Array Slot), p.tables.exec = Jvm.exec → c.code = cc → c.maxLocals = maxL → meth.sig.returnType = ret → meth.locks = false → s.vm.findClass y.cls = some m.cls →
      (∀ w ∈ zW, w.before As.toArray s = true) → zK g s → ST s s.heap → va_P g.1 zCl ws s.heap → lv_has ls maxL (lv_args 0 As) →
      W p l e rm s m As.toArray below meth c s.heap [] 0 0 (MQ below (zSil v) As.toArray s 0 0 (fun _ => False)) (F0 m 0 ls [])) : zSi l y cc maxL ret rm g ST As ws v := by
  refine va_MetF (cc := cc) (maxL := maxL) (ret := ret) hy rfl ?_
  intro p e s m args below meth c s₁ B hml hv
  obtain ⟨rfl, hK, hT, hP⟩ := hv
  have hts := atoms_spec (ws := Cond.code y cc maxL ret :: zW) B.pre
  have hl := lv_entry As (n := maxL) hsl
  rw [lg_entry_eq]
  generalize (lg_sl As ++ List.replicate (maxL - (lg_sl As).length) Slot.unset).toArray = ls at hl ⊢
  exact body p e s m below meth c ls B.exec B.bytes hml B.returns B.notSynchronized (findClass_of_methodNamed B.named) (fun w h => hts w (List.mem_cons_of_mem _ h)) hK hT hP hl
theorem zw_open {ST : (Nat → Prop) → zStt} (hy : plainFor y = true) (hsl : (lg_sl As).length ≤ maxL)
    (body : ∀ (p : Program) (e : Env) (s : State) (m : MethodId) (below : List Frame) (meth : Method) (c : Code) (ls : Array Slot) (A : Nat → Prop), p.tables.exec = Jvm.exec → c.code = cc → c.maxLocals = maxL → meth.sig.returnType = ret → meth.locks = false → s.vm.findClass y.cls = some m.cls → (y.name = "<init>" → meth.name = "<init>") →
      (∀ w ∈ zW, w.before As.toArray s = true) → zK g s → ST A s s.heap → va_P g.1 zCl ws s.heap → va_D A ws → va_S A s.heap s.heap [] → (∀ q : Nat, s.heap.size ≤ q → A q) → lv_has ls maxL (lv_args 0 As) →
      W p l e rm s m As.toArray below meth c s.heap [] 0 0 (MQ below (zWr g.1 zCl v ws' A) As.toArray s mc ms A) (F0 m 0 ls [])) : zWi l y cc maxL ret rm g ST As ws v ws' mc ms := by
  intro sz
  refine va_MetF (cc := cc) (maxL := maxL) (ret := ret) hy rfl ?_
  intro p e s m args below meth c s₁ B hml hv
  obtain ⟨rfl, hsz, hK, hT, hP, hD⟩ := hv
  subst hsz
  have hts := atoms_spec (ws := Cond.code y cc maxL ret :: zW) B.pre
  have hl := lv_entry As (n := maxL) hsl
  rw [lg_entry_eq]
  generalize (lg_sl As ++ List.replicate (maxL - (lg_sl As).length) Slot.unset).toArray = ls at hl ⊢
  exact body p e s m below meth c ls (va_A ws s.heap.size) B.exec B.bytes hml B.returns B.notSynchronized (findClass_of_methodNamed B.named) (fun h => (name_of_methodNamed B.named B.method).1.trans h) (fun w h => hts w (List.mem_cons_of_mem _ h)) hK hT hP hD.self va_S.rf (fun q h => Or.inr h) hl
end ZO
section ZR
variable {p : Program} {l : Launch} {e : Env} {R : Room} {s : State} {m : MethodId} {args : Array Value} {below : List Frame} {meth : Method} {c : Code} {H : Heap} {locs : List Loc} {cells slots : Nat} {Q : State → Prop}
variable {cc : ByteArray} {pc : Nat} {ls : Array Slot} {rest st0 : List Value} {D : va_G} {cl : List vw_C} {A : Nat → Prop} {ws : va_W}
theorem zs_iret {x : Int32} (hx : p.tables.exec = Jvm.exec) (hb : c.code = cc) (hr : meth.sig.returnType = some .int) (hlk : meth.locks = false) (hdg : decode cc pc = .ok (.ireturn, 1)) : W p l e R s m args below meth c s.heap [] 0 0 (MQ below (zSil (some (.int x))) args s 0 0 (fun _ => False)) (F0 m pc ls [.int x]) :=
  W.iret hx hb hr (fun t ht _ => ⟨rfl, ht⟩) (fun q h => absurd h List.not_mem_nil) hdg hlk
theorem zs_zret {x : Bool} (hx : p.tables.exec = Jvm.exec) (hb : c.code = cc) (hr : meth.sig.returnType = some .boolean) (hlk : meth.locks = false) (hdg : decode cc pc = .ok (.ireturn, 1)) : W p l e R s m args below meth c s.heap [] 0 0 (MQ below (zSil (some (.int (iI (bI x))))) args s 0 0 (fun _ => False)) (F0 m pc ls [.int (iI (bI x))]) :=
  W.zret hx hb hr (by cases x <;> decide) (fun t ht _ => ⟨rfl, ht⟩) (fun q h => absurd h List.not_mem_nil) hdg hlk
theorem zs_lret {x : Int64} (hx : p.tables.exec = Jvm.exec) (hb : c.code = cc) (hr : meth.sig.returnType = some .long) (hlk : meth.locks = false) (hdg : decode cc pc = .ok (.lreturn, 1)) : W p l e R s m args below meth c s.heap [] 0 0 (MQ below (zSil (some (.long x))) args s 0 0 (fun _ => False)) (F0 m pc ls [.long x]) :=
  W.lret hx hb hr (fun t ht _ => ⟨rfl, ht⟩) (fun q h => absurd h List.not_mem_nil) hdg hlk
theorem zs_aret {q : Nat} {n : String} (hx : p.tables.exec = Jvm.exec) (hb : c.code = cc) (hr : meth.sig.returnType = some (.object n)) (hlk : meth.locks = false) (hdg : decode cc pc = .ok (.areturn, 1)) : W p l e R s m args below meth c s.heap [] 0 0 (MQ below (zSil (some (.ref q))) args s 0 0 (fun _ => False)) (F0 m pc ls [.ref q]) :=
  W.aret hx hb hr (Or.inl ⟨n, rfl⟩) (Or.inr ⟨q, rfl⟩) (fun t ht _ => ⟨rfl, ht⟩) (fun q h => absurd h List.not_mem_nil) hdg hlk
theorem zs_vret (hx : p.tables.exec = Jvm.exec) (hb : c.code = cc) (hr : meth.sig.returnType = none) (hlk : meth.locks = false) (hdg : decode cc pc = .ok (.return_, 1)) : W p l e R s m args below meth c s.heap [] 0 0 (MQ below (zSil none) args s 0 0 (fun _ => False)) (F0 m pc ls []) :=
  W.vret hx hb hr (fun t ht _ => ⟨rfl, ht⟩) (fun q h => absurd h List.not_mem_nil) hdg hlk
theorem zw_iret {x : Int32} (hx : p.tables.exec = Jvm.exec) (hb : c.code = cc) (hr : meth.sig.returnType = some .int) (hlk : meth.locks = false) (hP : va_P D cl ws H) (hS : va_S A s.heap H locs) (hdg : decode cc pc = .ok (.ireturn, 1)) : W p l e R s m args below meth c H locs cells slots (MQ below (zWr D cl (some (.int x)) ws A) args s cells slots A) (F0 m pc ls [.int x]) :=
  W.iret hx hb hr (fun t ht _ => ⟨rfl, by rw [ht]; exact hP, hS.F ht⟩) hS.2.2 hdg hlk
theorem zw_zret {x : Bool} (hx : p.tables.exec = Jvm.exec) (hb : c.code = cc) (hr : meth.sig.returnType = some .boolean) (hlk : meth.locks = false) (hP : va_P D cl ws H) (hS : va_S A s.heap H locs) (hdg : decode cc pc = .ok (.ireturn, 1)) : W p l e R s m args below meth c H locs cells slots (MQ below (zWr D cl (some (.int (iI (bI x)))) ws A) args s cells slots A) (F0 m pc ls [.int (iI (bI x))]) :=
  W.zret hx hb hr (by cases x <;> decide) (fun t ht _ => ⟨rfl, by rw [ht]; exact hP, hS.F ht⟩) hS.2.2 hdg hlk
theorem zw_lret {x : Int64} (hx : p.tables.exec = Jvm.exec) (hb : c.code = cc) (hr : meth.sig.returnType = some .long) (hlk : meth.locks = false) (hP : va_P D cl ws H) (hS : va_S A s.heap H locs) (hdg : decode cc pc = .ok (.lreturn, 1)) : W p l e R s m args below meth c H locs cells slots (MQ below (zWr D cl (some (.long x)) ws A) args s cells slots A) (F0 m pc ls [.long x]) :=
  W.lret hx hb hr (fun t ht _ => ⟨rfl, by rw [ht]; exact hP, hS.F ht⟩) hS.2.2 hdg hlk
theorem zw_vret (hx : p.tables.exec = Jvm.exec) (hb : c.code = cc) (hr : meth.sig.returnType = none) (hlk : meth.locks = false) (hP : va_P D cl ws H) (hS : va_S A s.heap H locs) (hdg : decode cc pc = .ok (.return_, 1)) : W p l e R s m args below meth c H locs cells slots (MQ below (zWr D cl none ws A) args s cells slots A) (F0 m pc ls []) :=
  W.vret hx hb hr (fun t ht _ => ⟨rfl, by rw [ht]; exact hP, hS.F ht⟩) hS.2.2 hdg hlk
end ZR
section ZK
variable {p : Program} {l : Launch} {e : Env} {R : Room} {s : State} {m : MethodId} {args : Array Value} {below : List Frame} {meth : Method} {c : Code} {H : Heap} {locs : List Loc} {cells slots : Nat} {Q : State → Prop}
variable {cc cy : ByteArray} {pc nL maxL index mc ms np : Nat} {ls : Array Slot} {rest st0 As : List Value} {A : Nat → Prop} {ws wc wc' : va_W} {own C : String} {y : MethodName} {ret : Option FieldType} {rm : Room} {g : zGl} {v : Option Value} {b : Nat}
theorem zW_all {c0 : Cond} (hw : ∀ w ∈ zW, w.before args s = true) (h0 : c0.before args s = true) : ∀ w ∈ c0 :: zW, w.before args s = true := fun w h => (List.mem_cons.mp h).elim (fun e => by rw [e]; exact h0) (hw w)
theorem zPs_blind {ST : zStt} (hm : zMv ST) : FrameBlind (va_Pc As (zPs g ST ws)) := fun a U g' mk q => ⟨q.1, va_K.moved (u := U) (U := U.calling g' mk a) (Vm.Alike.refl U.vm) q.2.1, hm U (U.calling g' mk a) U.heap (State.WarmedH.refl U) q.2.2.1, q.2.2.2⟩
theorem zPs_at {ST : zStt} (hm : zMv ST) (hK : zK g s) (hT : ST s H) (hP : va_P g.1 zCl ws H) : ∀ U : State, U.heap = H → s.WarmedH U.vm → va_Pc As (zPs g ST ws) As.toArray U := fun U hU hW => ⟨rfl, va_K.moved hW.alike hK, by rw [hU]; exact hm s U H hW hT, by rw [hU]; exact hP⟩
theorem zPw_blind {ST : (Nat → Prop) → zStt} {sz : Nat} (hm : ∀ A, zMv (ST A)) : FrameBlind (va_Pc As (zPw g ST ws sz)) := fun a U g' mk q => ⟨q.1, q.2.1, va_K.moved (u := U) (U := U.calling g' mk a) (Vm.Alike.refl U.vm) q.2.2.1, hm _ U (U.calling g' mk a) U.heap (State.WarmedH.refl U) q.2.2.2.1, q.2.2.2.2⟩
theorem zPw_at {ST : (Nat → Prop) → zStt} (hm : ∀ A, zMv (ST A)) (hK : zK g s) (hT : ST (va_A ws H.size) s H) (hP : va_P g.1 zCl ws H) (hD : va_D A ws) : ∀ U : State, U.heap = H → s.WarmedH U.vm → va_Pc As (zPw g ST ws H.size) As.toArray U := fun U hU hW => ⟨rfl, by rw [hU], va_K.moved hW.alike hK, by rw [hU]; exact hm _ s U H hW hT, by rw [hU]; exact hP, hD.weaken (fun _ _ _ _ => trivial)⟩
/-- a static method that keeps silent -/
theorem zk_S {ST : zStt} (hx : p.tables.exec = Jvm.exec) (hb : c.code = cc) (hml : c.maxLocals = nL) (hown : s.vm.findClass own = some m.cls) (hw : ∀ w ∈ zW, w.before args s = true) (hM : zSi l y cy maxL ret rm g ST As wc v)
    (h1 : Cond.methodLink own index y ∈ zW) (h2 : Cond.static y ∈ zW) (h3 : Cond.initialized y.cls ∈ zW) (h4 : Cond.code y cy maxL ret ∈ zW)
    (hd : y.cls ≠ "java/lang/invoke/MethodHandle" ∧ y.cls ≠ "java/lang/invoke/VarHandle" ∧ (parseMethodDescriptor y.desc).map (fun d => d.parameters.length) = some np) (hnp : As.length = np)
    (hR : rm.cells = 0 ∧ rm.slots = 0 ∧ rm.frames + 1 ≤ R.frames ∧ 8 + (maxL + 11) + rm.locals ≤ R.locals) (hm : zMv ST) (hK : zK g s) (hT : ST s H) (hP : va_P g.1 zCl wc H) (hsz : ls.size = nL) (hst : st0 = As.reverse ++ rest) (hrm : (rest.map fun v => v.category).sum ≤ 8)
    (hf : cells ≤ R.cells ∧ slots ≤ R.slots) (hdg : decode cc pc = .ok (.invokestatic index, 3)) (kk : W p l e R s m args below meth c H locs cells slots Q (F0 m (pc + 3) ls (v.toList ++ rest))) : W p l e R s m args below meth c H locs cells slots Q (F0 m pc ls st0) := by
  refine zs_call (va_runS (rest := rest) ⟨hx, hb, hml, hown, zW_all hw (hw _ h4)⟩ hM (va_cwS np (zW_all hw (hw _ h4)) (zG_S h1 h2 h3 h4) rfl hR.1 hR.2.1 hd hR.2.2) ⟨zPs_blind hm, zPs_at hm hK hT hP⟩ rfl hnp hsz hst (lv_room hrm) hdg hf) kk
/-- a method of an object that keeps silent -/
theorem zk_V {ST : zStt} (hx : p.tables.exec = Jvm.exec) (hb : c.code = cc) (hml : c.maxLocals = nL) (hown : s.vm.findClass own = some m.cls) (hw : ∀ w ∈ zW, w.before args s = true) (hM : zSi l y cy maxL ret rm g ST (.ref b :: As) wc v)
    (h1 : Cond.methodLink own index y ∈ zW) (h2 : Cond.instanceMethod y ∈ zW) (h3 : Cond.selects y.cls y y ∈ zW) (h4 : Cond.initialized y.cls ∈ zW) (h5 : Cond.code y cy maxL ret ∈ zW)
    (hd : y.cls ≠ "java/lang/invoke/MethodHandle" ∧ y.cls ≠ "java/lang/invoke/VarHandle" ∧ (parseMethodDescriptor y.desc).map (fun d => d.parameters.length) = some np) (hnp : As.length = np)
    (hR : rm.cells = 0 ∧ rm.slots = 0 ∧ rm.frames + 1 ≤ R.frames ∧ 8 + (maxL + 11) + rm.locals ≤ R.locals) (hm : zMv ST) (hK : zK g s) (hT : ST s H) (hP : va_P g.1 zCl wc H) (hrc : ∃ cell : Cell, H[b]? = some cell ∧ cell.vm.isStatics = false ∧ s.vm.findClass y.cls = some cell.cls) (hsz : ls.size = nL) (hst : st0 = As.reverse ++ .ref b :: rest) (hrm : (rest.map fun v => v.category).sum ≤ 8)
    (hf : cells ≤ R.cells ∧ slots ≤ R.slots) (hdg : decode cc pc = .ok (.invokevirtual index, 3)) (kk : W p l e R s m args below meth c H locs cells slots Q (F0 m (pc + 3) ls (v.toList ++ rest))) : W p l e R s m args below meth c H locs cells slots Q (F0 m pc ls st0) := by
  refine zs_call (va_runV (C := y.cls) (rest := rest) ⟨hx, hb, hml, hown, zW_all hw (hw _ h5)⟩ hM (cwV np (zW_all hw (hw _ h5)) (zG_V h1 h2 h3 h4 h5) rfl hR.1 hR.2.1 ⟨rfl, hd⟩ hR.2.2) ⟨zPs_blind hm, hrc, zPs_at hm hK hT hP⟩ rfl hnp hsz hst (lv_room hrm) hdg hf) kk
/-- a method of an object that writes its own cells -/
theorem zk_W {ST : (Nat → Prop) → zStt} (hx : p.tables.exec = Jvm.exec) (hb : c.code = cc) (hml : c.maxLocals = nL) (hown : s.vm.findClass own = some m.cls) (hw : ∀ w ∈ zW, w.before args s = true) (hM : zWi l y cy maxL ret rm g ST (.ref b :: As) wc v wc' mc ms)
    (h1 : Cond.methodLink own index y ∈ zW) (h2 : Cond.instanceMethod y ∈ zW) (h3 : Cond.selects y.cls y y ∈ zW) (h4 : Cond.initialized y.cls ∈ zW) (h5 : Cond.code y cy maxL ret ∈ zW)
    (hd : y.cls ≠ "java/lang/invoke/MethodHandle" ∧ y.cls ≠ "java/lang/invoke/VarHandle" ∧ (parseMethodDescriptor y.desc).map (fun d => d.parameters.length) = some np) (hnp : As.length = np)
    (hR : rm.cells = mc ∧ rm.slots = ms ∧ rm.frames + 1 ≤ R.frames ∧ 8 + (maxL + 11) + rm.locals ≤ R.locals) (hm : ∀ A, zMv (ST A)) (hK : zK g s) (hT : ST (va_A wc H.size) s H) (hP : va_P g.1 zCl ws H) (hD : va_D A ws) (hS : va_S A s.heap H locs) (hA : ∀ q : Nat, s.heap.size ≤ q → A q)
    (isC : List Nat) (hC : isC.map (fun i => ws[i]?) = wc.map some) (hnd : va_nd isC = true) (had : wc'.map (fun x => x.1) = wc.map (fun x => x.1)) (hrc : ∃ cell : Cell, H[b]? = some cell ∧ cell.vm.isStatics = false ∧ s.vm.findClass y.cls = some cell.cls) (hsz : ls.size = nL) (hst : st0 = As.reverse ++ .ref b :: rest) (hrm : (rest.map fun v => v.category).sum ≤ 8)
    (hf : cells + mc ≤ R.cells ∧ slots + ms ≤ R.slots) (hdg : decode cc pc = .ok (.invokevirtual index, 3))
    (kk : ∀ (H1 : Heap) (locs1 : List Loc), va_P g.1 zCl (zPut ws isC wc') H1 → va_D A (zPut ws isC wc') → va_S A s.heap H1 locs1 → W p l e R s m args below meth c H1 locs1 (cells + mc) (slots + ms) Q (F0 m (pc + 3) ls (v.toList ++ rest))) : W p l e R s m args below meth c H locs cells slots Q (F0 m pc ls st0) := by
  have hPc : va_P g.1 zCl wc H := fun k q hk => by
    obtain ⟨i, -, h⟩ := z_at2 hC hk
    exact hP i q h
  have hDc : va_D A wc := hD.sub isC hnd hC
  refine zw_call (va_runV (C := y.cls) (rest := rest) ⟨hx, hb, hml, hown, zW_all hw (hw _ h5)⟩ (hM H.size) (cwV np (zW_all hw (hw _ h5)) (zG_V h1 h2 h3 h4 h5) rfl hR.1 hR.2.1 ⟨rfl, hd⟩ hR.2.2) ⟨zPw_blind hm, hrc, zPw_at hm hK hT hPc hDc⟩ rfl hnp hsz hst (lv_room hrm) hdg hf) hP hD hS hA isC hC had kk
end ZK
