/-! exceptions: the form of a contract that may throw, its rows -/
/-- what nobody asks for, of the cells behind a call -/
abbrev zJ : Type := (Nat → Int) × (Nat → Nat → Bool)
def zj (a : List Int) : Nat → Int := fun i => a.getD i 0
def zXC (g : zGl) (ok : Prop) (E : String) (wx : zJ → va_W) (A : Nat → Prop) : String → State → State → Prop := vx_X (fun _ : zJ => ¬ ok) (fun E' u t => E' = E ∧ va_P g.1 zCl (wx u) t.heap) A
def zQJ (g : zGl) (v : Option Value) (ws' : zJ → va_W) (A : Nat → Prop) : Array Value → State → Outcome → State → Prop := fun _ st o t => o = .returned v ∧ (∃ u, va_P g.1 zCl (ws' u) t.heap) ∧ va_F A st t
def zQC (g : zGl) (ok : Prop) (v : Option Value) (ws' : zJ → va_W) (A : Nat → Prop) : Array Value → State → Outcome → State → Prop := fun a st o t => ok ∧ zQJ g v ws' A a st o t
/-- writing, with what nobody asks for left open -/
def zJi (l : Launch) (y : MethodName) (cc : ByteArray) (maxL : Nat) (ret : Option FieldType) (rm : Room) (g : zGl) (ST : (Nat → Prop) → zStt) (As : List Value) (ws : va_W) (v : Option Value) (ws' : zJ → va_W) (mc ms : Nat) : Prop :=
  ∀ sz : Nat, Met l y (Cond.code y cc maxL ret :: zW) rm (va_Pc As (zPw g ST ws sz)) (zQJ g v ws' (va_A ws sz)) mc ms (va_A ws sz)
/-- where ok holds it answers v, its cells are then ws'; else it throws E, its cells are then wx -/
def zEi (l : Launch) (y : MethodName) (cc : ByteArray) (maxL : Nat) (ret : Option FieldType) (rm : Room) (g : zGl) (ST : (Nat → Prop) → zStt) (As : List Value) (ws : va_W) (ok : Prop) (v : Option Value) (ws' : zJ → va_W) (E : String) (wx : zJ → va_W) (mc ms : Nat) : Prop :=
  ∀ sz : Nat, vx_Met l y (Cond.code y cc maxL ret :: zW) rm (va_Pc As (zPw g ST ws sz)) (zQC g ok v ws' (va_A ws sz)) (zXC g ok E wx (va_A ws sz)) mc ms (va_A ws sz)
/-- throws E whatever; its cells are then wx -/
abbrev zXi (l : Launch) (y : MethodName) (cc : ByteArray) (maxL : Nat) (ret : Option FieldType) (rm : Room) (g : zGl) (ST : (Nat → Prop) → zStt) (As : List Value) (ws : va_W) (E : String) (wx : zJ → va_W) (mc ms : Nat) : Prop := zEi l y cc maxL ret rm g ST As ws False none (fun _ => []) E wx mc ms
def zHm (ok : Prop) (mc ms : Nat) : Prop := (ok ∧ mc = 0 ∧ ms = 0) ∨ (¬ ok ∧ mc = 1 ∧ ms = 6)
theorem zHm_y {ok : Prop} {mc ms : Nat} (h : zHm ok mc ms) (hok : ok) : mc = 0 ∧ ms = 0 := by
  rcases h with h | h
  · exact h.2
  · exact absurd hok h.1
theorem zHm_n {ok : Prop} {mc ms : Nat} (h : zHm ok mc ms) (hok : ¬ ok) : mc = 1 ∧ ms = 6 := by
  rcases h with h | h
  · exact absurd h.1 hok
  · exact h.2
theorem zHm_1 {ok : Prop} {mc ms : Nat} (h : zHm ok mc ms) (hok : ¬ ok) : 0 + 1 ≤ mc ∧ 0 + 6 ≤ ms := by
  have := zHm_n h hok
  omega
section ZXO
variable {l : Launch} {y : MethodName} {cc : ByteArray} {maxL : Nat} {ret : Option FieldType} {rm : Room} {g : zGl} {As : List Value} {ws w1 : va_W} {ws' wx : zJ → va_W} {E : String} {mc ms : Nat} {ST : (Nat → Prop) → zStt} {ok : Prop} {v : Option Value}
theorem zE_y (h : zEi l y cc maxL ret rm g ST As ws ok v (fun _ => w1) E wx mc ms) (hok : ok) : zWi l y cc maxL ret rm g ST As ws v w1 mc ms := fun sz =>
  MetFree.imp (h sz) (fun a st o t q => by
    rcases q with ⟨⟨-, q1, ⟨u, q3⟩, q4⟩, q2⟩ | ⟨q, -, E9, ce, L, ⟨u, hn, -⟩, -⟩
    · exact ⟨⟨q1, q3, q4⟩, q2⟩
    · exact absurd hok hn)
theorem zE_j (h : zEi l y cc maxL ret rm g ST As ws ok v ws' E wx mc ms) (hok : ok) : zJi l y cc maxL ret rm g ST As ws v ws' mc ms := fun sz =>
  MetFree.imp (h sz) (fun a st o t q => by
    rcases q with ⟨⟨-, q1⟩, q2⟩ | ⟨q, -, E9, ce, L, ⟨u, hn, -⟩, -⟩
    · exact ⟨q1, q2⟩
    · exact absurd hok hn)
theorem zE_n (h : zEi l y cc maxL ret rm g ST As ws ok v ws' E wx mc ms) (hok : ¬ ok) : zXi l y cc maxL ret rm g ST As ws E wx mc ms := fun sz =>
  MetFree.imp (h sz) (fun a st o t q => by
    rcases q with ⟨⟨q1, -⟩, -⟩ | ⟨q, q0, E9, ce, L, ⟨u, -, q1⟩, q2⟩
    · exact absurd q1 hok
    · exact Or.inr ⟨q, q0, E9, ce, L, ⟨u, id, q1⟩, q2⟩)
theorem ze_open (hy : plainName y.cls = true) (hsl : (lg_sl As).length ≤ maxL)
    (body : ∀ (p : Program) (e : Env) (s : State) (m : MethodId) (below : List Frame) (meth : Method) (c : Code) (ls : Array Slot) (A : Nat → Prop), p.tables.exec = Jvm.exec → c.code = cc → c.maxLocals = maxL → meth.sig.returnType = ret → (∀ x ∈ c.exceptionTable.toList, False) → meth.locks = false → s.vm.findClass y.cls = some m.cls →
      (∀ w ∈ zW, w.before As.toArray s = true) → zK g s → ST A s s.heap → va_P g.1 zCl ws s.heap → va_D A ws → va_S A s.heap s.heap [] → (∀ q : Nat, s.heap.size ≤ q → A q) → lv_has ls maxL (lv_args 0 As) →
      W p l e rm s m As.toArray below meth c s.heap [] 0 0 (vx_MQ below (zQC g ok v ws' A) (zXC g ok E wx A) As.toArray s mc ms A) (F0 m 0 ls [])) : zEi l y cc maxL ret rm g ST As ws ok v ws' E wx mc ms := by
  intro sz
  refine vx_ofW (cc := cc) (maxL := maxL) (ret := ret) hy rfl ?_
  intro p e s m args below meth c s₁ B hml hno hv
  obtain ⟨rfl, hsz, hK, hT, hP, hD⟩ := hv
  subst hsz
  have hts := atoms_spec (ws := Cond.code y cc maxL ret :: zW) B.pre
  have hl := lv_entry As (n := maxL) hsl
  rw [lg_entry_eq]
  generalize (lg_sl As ++ List.replicate (maxL - (lg_sl As).length) Slot.unset).toArray = ls at hl ⊢
  exact body p e s m below meth c ls (va_A ws s.heap.size) B.exec B.bytes hml B.returns hno B.notSynchronized (findClass_of_methodNamed B.named) (fun w h => hts w (List.mem_cons_of_mem _ h)) hK hT hP hD.self va_S.rf (fun q h => Or.inr h) hl
end ZXO
section ZX
variable {p : Program} {l : Launch} {e : Env} {R : Room} {s : State} {m : MethodId} {args : Array Value} {below : List Frame} {meth : Method} {c : Code} {H : Heap} {locs : List Loc} {cells slots mc ms : Nat}
variable {cc : ByteArray} {pc : Nat} {ls : Array Slot} {rest : List Value} {A : Nat → Prop} {ws : va_W} {wx ws' : zJ → va_W} {u : zJ} {g : zGl} {Qc : Array Value → State → Outcome → State → Prop} {XC : String → State → State → Prop} {ok : Prop}
theorem zx_throw {cls text : String} {ik is ic sa : Nat} (hx : p.tables.exec = Jvm.exec) (hb : c.code = cc) (hl0 : l.stackTraces = false) (hown : s.vm.findClass "CronFinder" = some m.cls) (hw : ∀ w ∈ zW, w.before args s = true) (hcls : Bundle.fit cls = true) (hk : Cond.classLink "CronFinder" ik cls ∈ zW) (hini : Cond.initialized cls ∈ zW) (hstr : vk_R "CronFinder" is text sa s)
    (hat : ∀ w ∈ vx_atS "CronFinder" ic cls zUp, w.before args s = true) (hgood : ∀ w ∈ Cond.classLink "CronFinder" ik cls :: Cond.initialized cls :: vx_atS "CronFinder" ic cls zUp, vx_ot w = true) (hT : zTh A s s.heap) (u : zJ) (hP : va_P g.1 zCl (wx u) H) (hS : va_S A s.heap H locs) (hsz : ls.size = c.maxLocals)
    (d0 : decode cc pc = .ok (.new ik, 3)) (d3 : decode cc (pc + 3) = .ok (.dup, 1)) (d4 : decode cc (pc + 4) = .ok (.ldc is, 2)) (d6 : decode cc (pc + 6) = .ok (.invokespecial ic, 3)) (d9 : decode cc (pc + 9) = .ok (.athrow, 1)) (hno : ∀ x ∈ c.exceptionTable.toList, False)
    (hR : 5 < R.frames ∧ (rest.map fun v => v.category).sum + 82 ≤ R.locals ∧ cells + 1 ≤ R.cells ∧ slots + 6 ≤ R.slots) (hlk : meth.locks = false) (hc : cells + 1 ≤ mc ∧ slots + 6 ≤ ms) (hnk : ¬ ok) :
    W p l e R s m args below meth c H locs cells slots (vx_MQ below Qc (zXC g ok cls wx A) args s mc ms A) (F0 m pc ls rest) :=
  vx_throwS hx hb hl0 hown hcls (by decide +kernel) (hw _ hk) (hw _ hini) hstr hat hgood hT.2.1 hT.2.2 hS hsz d0 d3 d4 d6 d9 (fun x h => (hno x h).elim) hR.1 hR.2.1 hR.2.2.1 hR.2.2.2 hlk
    (fun t ha hz hk => ⟨u, hnk, ⟨rfl, hP.kept (fun k x h9 => hk x.1 ((hP k x h9).lt))⟩, Nat.le_trans hS.1 hz, fun q h1 h2 => (hk q (Nat.lt_of_lt_of_le h1 hS.1)).trans (hS.2.1 q h1 h2)⟩) hS.2.2 hc.1 hc.2
theorem zx_throw0 {cls : String} {ik ic : Nat} (hx : p.tables.exec = Jvm.exec) (hb : c.code = cc) (hl0 : l.stackTraces = false) (hown : s.vm.findClass "CronFinderModel" = some m.cls) (hw : ∀ w ∈ zW, w.before args s = true) (hcls : Bundle.fit cls = true) (hk : Cond.classLink "CronFinderModel" ik cls ∈ zW) (hini : Cond.initialized cls ∈ zW)
    (hat : ∀ w ∈ vx_at0 "CronFinderModel" ic cls zUp, w.before args s = true) (hgood : ∀ w ∈ Cond.classLink "CronFinderModel" ik cls :: Cond.initialized cls :: vx_at0 "CronFinderModel" ic cls zUp, vx_ot w = true) (hT : zTh A s s.heap) (u : zJ) (hP : va_P g.1 zCl (wx u) H) (hS : va_S A s.heap H locs) (hsz : ls.size = c.maxLocals)
    (d0 : decode cc pc = .ok (.new ik, 3)) (d3 : decode cc (pc + 3) = .ok (.dup, 1)) (d4 : decode cc (pc + 4) = .ok (.invokespecial ic, 3)) (d7 : decode cc (pc + 7) = .ok (.athrow, 1)) (hno : ∀ x ∈ c.exceptionTable.toList, False)
    (hR : 5 < R.frames ∧ (rest.map fun v => v.category).sum + 81 ≤ R.locals ∧ cells + 1 ≤ R.cells ∧ slots + 6 ≤ R.slots) (hlk : meth.locks = false) (hc : cells + 1 ≤ mc ∧ slots + 6 ≤ ms) (hnk : ¬ ok) :
    W p l e R s m args below meth c H locs cells slots (vx_MQ below Qc (zXC g ok cls wx A) args s mc ms A) (F0 m pc ls rest) :=
  vx_throw0 hx hb hl0 hown hcls (by decide +kernel) (hw _ hk) (hw _ hini) hat hgood hT.2.1 hT.2.2 hS hsz d0 d3 d4 d7 (fun x h => (hno x h).elim) hR.1 hR.2.1 hR.2.2.1 hR.2.2.2 hlk
    (fun t ha hz hk => ⟨u, hnk, ⟨rfl, hP.kept (fun k x h9 => hk x.1 ((hP k x h9).lt))⟩, Nat.le_trans hS.1 hz, fun q h1 h2 => (hk q (Nat.lt_of_lt_of_le h1 hS.1)).trans (hS.2.1 q h1 h2)⟩) hS.2.2 hc.1 hc.2
theorem zq_iret {x : Int32} (hx : p.tables.exec = Jvm.exec) (hb : c.code = cc) (hr : meth.sig.returnType = some .int) (hlk : meth.locks = false) (u : zJ) (hP : va_P g.1 zCl (ws' u) H) (hS : va_S A s.heap H locs) (hok : ok) (hm : mc = cells ∧ ms = slots) (hdg : decode cc pc = .ok (.ireturn, 1)) : W p l e R s m args below meth c H locs cells slots (vx_MQ below (zQC g ok (some (.int x)) ws' A) XC args s mc ms A) (F0 m pc ls [.int x]) := by
  obtain ⟨rfl, rfl⟩ := hm
  exact vx_ret (W.iret hx hb hr (fun t ht _ => ⟨hok, rfl, ⟨u, by rw [ht]; exact hP⟩, hS.F ht⟩) hS.2.2 hdg hlk)
theorem zq_zret {x : Bool} (hx : p.tables.exec = Jvm.exec) (hb : c.code = cc) (hr : meth.sig.returnType = some .boolean) (hlk : meth.locks = false) (u : zJ) (hP : va_P g.1 zCl (ws' u) H) (hS : va_S A s.heap H locs) (hok : ok) (hm : mc = cells ∧ ms = slots) (hdg : decode cc pc = .ok (.ireturn, 1)) : W p l e R s m args below meth c H locs cells slots (vx_MQ below (zQC g ok (some (.int (iI (bI x)))) ws' A) XC args s mc ms A) (F0 m pc ls [.int (iI (bI x))]) := by
  obtain ⟨rfl, rfl⟩ := hm
  exact vx_ret (W.zret hx hb hr (by cases x <;> decide) (fun t ht _ => ⟨hok, rfl, ⟨u, by rw [ht]; exact hP⟩, hS.F ht⟩) hS.2.2 hdg hlk)
theorem zq_lret {x : Int64} (hx : p.tables.exec = Jvm.exec) (hb : c.code = cc) (hr : meth.sig.returnType = some .long) (hlk : meth.locks = false) (u : zJ) (hP : va_P g.1 zCl (ws' u) H) (hS : va_S A s.heap H locs) (hok : ok) (hm : mc = cells ∧ ms = slots) (hdg : decode cc pc = .ok (.lreturn, 1)) : W p l e R s m args below meth c H locs cells slots (vx_MQ below (zQC g ok (some (.long x)) ws' A) XC args s mc ms A) (F0 m pc ls [.long x]) := by
  obtain ⟨rfl, rfl⟩ := hm
  exact vx_ret (W.lret hx hb hr (fun t ht _ => ⟨hok, rfl, ⟨u, by rw [ht]; exact hP⟩, hS.F ht⟩) hS.2.2 hdg hlk)
theorem zq_vret (hx : p.tables.exec = Jvm.exec) (hb : c.code = cc) (hr : meth.sig.returnType = none) (hlk : meth.locks = false) (u : zJ) (hP : va_P g.1 zCl (ws' u) H) (hS : va_S A s.heap H locs) (hok : ok) (hm : mc = cells ∧ ms = slots) (hdg : decode cc pc = .ok (.return_, 1)) : W p l e R s m args below meth c H locs cells slots (vx_MQ below (zQC g ok none ws' A) XC args s mc ms A) (F0 m pc ls []) := by
  obtain ⟨rfl, rfl⟩ := hm
  exact vx_ret (W.vret hx hb hr (fun t ht _ => ⟨hok, rfl, ⟨u, by rw [ht]; exact hP⟩, hS.F ht⟩) hS.2.2 hdg hlk)
end ZX
section ZXK
variable {p : Program} {l : Launch} {e : Env} {R : Room} {s : State} {m : MethodId} {args : Array Value} {below : List Frame} {meth : Method} {c : Code} {H : Heap} {locs : List Loc} {cells slots : Nat}
variable {cc cy : ByteArray} {pc nL maxL index mc ms mc' ms' np : Nat} {ls : Array Slot} {rest st0 As : List Value} {A : Nat → Prop} {ws wc : va_W} {wc' wx : zJ → va_W} {own E : String} {y : MethodName} {ret : Option FieldType} {rm : Room} {g : zGl} {b : Nat} {Qc : Array Value → State → Outcome → State → Prop} {ok : Prop}
/-- a call that throws, and nothing here catches it -/
theorem zk_X {ST : (Nat → Prop) → zStt} (hx : p.tables.exec = Jvm.exec) (hb : c.code = cc) (hml : c.maxLocals = nL) (hown : s.vm.findClass own = some m.cls) (hw : ∀ w ∈ zW, w.before args s = true) (hM : zXi l y cy maxL ret rm g ST (.ref b :: As) wc E wc' mc ms)
    (h1 : Cond.methodLink own index y ∈ zW) (h2 : Cond.instanceMethod y ∈ zW) (h3 : Cond.selects y.cls y y ∈ zW) (h4 : Cond.initialized y.cls ∈ zW) (h5 : Cond.code y cy maxL ret ∈ zW)
    (hd : y.cls ≠ "java/lang/invoke/MethodHandle" ∧ y.cls ≠ "java/lang/invoke/VarHandle" ∧ (parseMethodDescriptor y.desc).map (fun d => d.parameters.length) = some np) (hnp : As.length = np)
    (hR : rm.cells = mc ∧ rm.slots = ms ∧ rm.frames + 1 ≤ R.frames ∧ 8 + (maxL + 11) + rm.locals ≤ R.locals) (hm : ∀ A, zMv (ST A)) (hK : zK g s) (hT : ST (va_A wc H.size) s H) (hP : va_P g.1 zCl ws H) (hD : va_D A ws) (hS : va_S A s.heap H locs) (hA : ∀ q : Nat, s.heap.size ≤ q → A q)
    (isC : List Nat) (hC : isC.map (fun i => ws[i]?) = wc.map some) (hnd : va_nd isC = true) (had : ∀ u, (wc' u).map (fun x => x.1) = wc.map (fun x => x.1)) (hrc : ∃ cell : Cell, H[b]? = some cell ∧ cell.vm.isStatics = false ∧ s.vm.findClass y.cls = some cell.cls) (hsz : ls.size = nL) (hst : st0 = As.reverse ++ .ref b :: rest) (hrm : (rest.map fun v => v.category).sum ≤ 8)
    (hf : cells + mc ≤ R.cells ∧ slots + ms ≤ R.slots) (hdg : decode cc pc = .ok (.invokevirtual index, 3)) (hno : ∀ x ∈ c.exceptionTable.toList, False) (hlk : meth.locks = false) (hnk : ¬ ok) (hwx : ∀ (u : zJ) (H1 : Heap), va_P g.1 zCl (zPut ws isC (wc' u)) H1 → ∃ u', va_P g.1 zCl (wx u') H1) (hc : cells + mc ≤ mc' ∧ slots + ms ≤ ms') :
    W p l e R s m args below meth c H locs cells slots (vx_MQ below Qc (zXC g ok E wx A) args s mc' ms' A) (F0 m pc ls st0) := by
  have hPc : va_P g.1 zCl wc H := fun k q hk => by
    obtain ⟨i, -, h⟩ := z_at2 hC hk
    exact hP i q h
  have hDc : va_D A wc := hD.sub isC hnd hC
  have hF := va_free hD hS hA isC hC
  intro T hT0 X
  rcases vx_runV (C := y.cls) (rest := rest) (g := F0 m pc ls st0) ⟨hx, hb, hml, hown, zW_all hw (hw _ h5)⟩ (hM H.size) (cwV np (zW_all hw (hw _ h5)) (zG_V h1 h2 h3 h4 h5) rfl hR.1 hR.2.1 ⟨rfl, hd⟩ hR.2.2) ⟨zPw_blind hm, hrc, zPw_at hm hK hT hPc hDc⟩ rfl hnp hsz hst (lv_room hrm) hdg hf T hT0 X with ⟨v, st₀, t, T', L, h0, X', hL, e1, e2, ⟨hv, -⟩, st⟩ | ⟨q, st₀, t, T', L, E', ce, h0, X', hL, e1, e2, ⟨u, -, ⟨rfl, hp⟩, hz, hk⟩, hce, hcv, hcl, st⟩
  · exact hv.elim
  · rw [h0] at hz hk
    have hk1 : ∀ q : Nat, q < H.size → ¬ va_A wc H.size q → T'.heap[q]? = H[q]? := fun q h1 h2 => by rw [e1]; exact hk q h1 h2
    obtain ⟨g1, g2⟩ := zw_P hP hD isC hC (had u) hk1 (by rw [e1]; exact hp)
    obtain ⟨u', g3⟩ := hwx u T'.heap g1
    have hS1 : va_S A s.heap T'.heap (locs ++ L) := ⟨Nat.le_trans hS.1 (by rw [e1]; exact hz), fun q h1 h2 => by rw [hk1 q (Nat.lt_of_lt_of_le h1 hS.1) (fun z => h2 (hF q z))]; exact hS.2.1 q h1 h2, fun q hq => by
      rcases List.mem_append.mp hq with h | h
      · exact hS.2.2 q h
      · exact hF _ (hL q h)⟩
    obtain ⟨t2, a1, b1⟩ := vx_out (pc := pc) (ls := ls) (rest := rest) (Qc := Qc) (XC := zXC g ok E' wx A) (free := A) (below := below) (fun x h => (hno x h).elim) hlk (by rw [e1]; exact hce) hcv hcl (fun t ht _ => ⟨u', hnk, ⟨rfl, by rw [ht]; exact g3⟩, hS1.F ht⟩) hS1.2.2 hc.1 hc.2 T' rfl X'
    exact ⟨t2, st.trans a1, b1⟩
/-- a method of an object that writes its own cells, with what nobody asks for -/
theorem zk_J {ST : (Nat → Prop) → zStt} {Q : State → Prop} {v : Option Value} (hx : p.tables.exec = Jvm.exec) (hb : c.code = cc) (hml : c.maxLocals = nL) (hown : s.vm.findClass own = some m.cls) (hw : ∀ w ∈ zW, w.before args s = true) (hM : zJi l y cy maxL ret rm g ST (.ref b :: As) wc v wc' mc ms)
    (h1 : Cond.methodLink own index y ∈ zW) (h2 : Cond.instanceMethod y ∈ zW) (h3 : Cond.selects y.cls y y ∈ zW) (h4 : Cond.initialized y.cls ∈ zW) (h5 : Cond.code y cy maxL ret ∈ zW)
    (hd : y.cls ≠ "java/lang/invoke/MethodHandle" ∧ y.cls ≠ "java/lang/invoke/VarHandle" ∧ (parseMethodDescriptor y.desc).map (fun d => d.parameters.length) = some np) (hnp : As.length = np)
    (hR : rm.cells = mc ∧ rm.slots = ms ∧ rm.frames + 1 ≤ R.frames ∧ 8 + (maxL + 11) + rm.locals ≤ R.locals) (hm : ∀ A, zMv (ST A)) (hK : zK g s) (hT : ST (va_A wc H.size) s H) (hP : va_P g.1 zCl ws H) (hD : va_D A ws) (hS : va_S A s.heap H locs) (hA : ∀ q : Nat, s.heap.size ≤ q → A q)
    (isC : List Nat) (hC : isC.map (fun i => ws[i]?) = wc.map some) (hnd : va_nd isC = true) (had : ∀ u, (wc' u).map (fun x => x.1) = wc.map (fun x => x.1)) (hrc : ∃ cell : Cell, H[b]? = some cell ∧ cell.vm.isStatics = false ∧ s.vm.findClass y.cls = some cell.cls) (hsz : ls.size = nL) (hst : st0 = As.reverse ++ .ref b :: rest) (hrm : (rest.map fun v => v.category).sum ≤ 8)
    (hf : cells + mc ≤ R.cells ∧ slots + ms ≤ R.slots) (hdg : decode cc pc = .ok (.invokevirtual index, 3))
    (kk : ∀ (u : zJ) (H1 : Heap) (locs1 : List Loc), va_P g.1 zCl (zPut ws isC (wc' u)) H1 → va_D A (zPut ws isC (wc' u)) → va_S A s.heap H1 locs1 → W p l e R s m args below meth c H1 locs1 (cells + mc) (slots + ms) Q (F0 m (pc + 3) ls (v.toList ++ rest))) : W p l e R s m args below meth c H locs cells slots Q (F0 m pc ls st0) := by
  have hPc : va_P g.1 zCl wc H := fun k q hk => by
    obtain ⟨i, -, h⟩ := z_at2 hC hk
    exact hP i q h
  have hDc : va_D A wc := hD.sub isC hnd hC
  have hF := va_free hD hS hA isC hC
  intro T hT0 X
  obtain ⟨v', st₀, t, T', L, h0, X', hL, e1, e2, ⟨hv, ⟨u, hp⟩, hz, hk⟩, st⟩ := va_runV (C := y.cls) (rest := rest) (g := F0 m pc ls st0) ⟨hx, hb, hml, hown, zW_all hw (hw _ h5)⟩ (hM H.size) (cwV np (zW_all hw (hw _ h5)) (zG_V h1 h2 h3 h4 h5) rfl hR.1 hR.2.1 ⟨rfl, hd⟩ hR.2.2) ⟨zPw_blind hm, hrc, zPw_at hm hK hT hPc hDc⟩ rfl hnp hsz hst (lv_room hrm) hdg hf T hT0 X
  cases hv
  rw [h0] at hz hk
  have hk1 : ∀ q : Nat, q < H.size → ¬ va_A wc H.size q → T'.heap[q]? = H[q]? := fun q h1 h2 => by rw [e1]; exact hk q h1 h2
  obtain ⟨g1, g2⟩ := zw_P hP hD isC hC (had u) hk1 (by rw [e1]; exact hp)
  have hS1 : va_S A s.heap T'.heap (locs ++ L) := ⟨Nat.le_trans hS.1 (by rw [e1]; exact hz), fun q h1 h2 => by rw [hk1 q (Nat.lt_of_lt_of_le h1 hS.1) (fun z => h2 (hF q z))]; exact hS.2.1 q h1 h2, fun q hq => by
    rcases List.mem_append.mp hq with h | h
    · exact hS.2.2 q h
    · exact hF _ (hL q h)⟩
  obtain ⟨t2, a1, b1⟩ := kk u T'.heap (locs ++ L) g1 g2 hS1 T' rfl X'
  exact ⟨t2, st t2 a1, b1⟩
end ZXK
theorem zx_ia_t : ∀ w ∈ Cond.classLink "CronFinder" 49 "java/lang/IllegalArgumentException" :: Cond.initialized "java/lang/IllegalArgumentException" :: vx_atS "CronFinder" 53 "java/lang/IllegalArgumentException" zUp, vx_ot w = true := by decide +kernel
theorem zx_io_t : ∀ w ∈ Cond.classLink "CronFinder" 39 "java/lang/IndexOutOfBoundsException" :: Cond.initialized "java/lang/IndexOutOfBoundsException" :: vx_atS "CronFinder" 43 "java/lang/IndexOutOfBoundsException" zUp, vx_ot w = true := by decide +kernel
theorem zx_uo_t : ∀ w ∈ Cond.classLink "CronFinder" 63 "java/lang/UnsupportedOperationException" :: Cond.initialized "java/lang/UnsupportedOperationException" :: vx_atS "CronFinder" 67 "java/lang/UnsupportedOperationException" zUp, vx_ot w = true := by decide +kernel
theorem zx_q0_g : zIn ((vx_at0 "CronFinderModel" 126 "java/lang/UnsupportedOperationException" zUp).filter goodWord) = true := by decide +kernel
theorem zx_q0_f : ∀ w ∈ (vx_at0 "CronFinderModel" 126 "java/lang/UnsupportedOperationException" zUp).filter (fun w => !goodWord w), w ∈ zFx := by decide +kernel
theorem zx_q0 {A : Nat → Prop} {args : Array Value} {s : State} {H : Heap} (hw : ∀ w ∈ zW, w.before args s = true) (h : zTh A s H) : ∀ w ∈ vx_at0 "CronFinderModel" 126 "java/lang/UnsupportedOperationException" zUp, w.before args s = true := vx_hat (B := zFx) (fun w hx => hw w (zIn_ok zx_q0_g w hx)) zx_q0_f (fun w hx => va_tabs (zFx_f w hx).2 rfl (h.1 w hx))
theorem zx_q0_t : ∀ w ∈ Cond.classLink "CronFinderModel" 124 "java/lang/UnsupportedOperationException" :: Cond.initialized "java/lang/UnsupportedOperationException" :: vx_at0 "CronFinderModel" 126 "java/lang/UnsupportedOperationException" zUp, vx_ot w = true := by decide +kernel
def zFs (k : Nat → Nat) (A : Nat → Prop) : zStt := fun U H => zTh A U H ∧ vk_R "CronFinder" 51 "not a length of the tape" (k 0) U ∧ vk_R "CronFinder" 41 "the tape is full" (k 1) U ∧ vk_R "CronFinder" 69 "not a day" (k 2) U ∧ vk_R "CronFinder" 78 "too many holidays" (k 3) U ∧ vk_R "CronFinder" 94 "not a count of fires" (k 4) U ∧ vk_R "CronFinder" 112 "not a time" (k 5) U ∧ vk_R "CronFinder" 65 "the text is broken" (k 6) U
theorem zFs_now {k : Nat → Nat} {A : Nat → Prop} {s : State} {H : Heap} {locs : List Loc} (h : zFs k A s s.heap) (hS : va_S A s.heap H locs) : zFs k A s H := ⟨zTh_now h.1 hS, h.2⟩
theorem zFs_nar {k : Nat → Nat} {A B : Nat → Prop} {s : State} {H : Heap} (h : zFs k A s H) (hAB : ∀ q, B q → A q) : zFs k B s H := ⟨zTh_nar h.1 hAB, h.2⟩
theorem zFs_mv (k : Nat → Nat) (A : Nat → Prop) : zMv (zFs k A) := fun u U H hW h => ⟨zTh_mv A u U H hW h.1, vk_R.warm hW h.2.1, vk_R.warm hW h.2.2.1, vk_R.warm hW h.2.2.2.1, vk_R.warm hW h.2.2.2.2.1, vk_R.warm hW h.2.2.2.2.2.1, vk_R.warm hW h.2.2.2.2.2.2.1, vk_R.warm hW h.2.2.2.2.2.2.2⟩
