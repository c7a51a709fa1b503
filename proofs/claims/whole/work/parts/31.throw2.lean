/-! exceptions: the form of a contract that throws, the row of a throw -/
def zXC (g : zGl) (E : String) (ws' : va_W) (A : Nat → Prop) : String → State → State → Prop := vx_X (fun _ : Unit => True) (fun E' _ t => E' = E ∧ va_P g.1 zCl ws' t.heap) A
/-- throws E whatever; its cells are then ws' -/
def zXi (l : Launch) (y : MethodName) (cc : ByteArray) (maxL : Nat) (ret : Option FieldType) (rm : Room) (g : zGl) (ST : (Nat → Prop) → zStt) (As : List Value) (ws : va_W) (E : String) (ws' : va_W) (mc ms : Nat) : Prop :=
  ∀ (sz : Nat) (Qc : Array Value → State → Outcome → State → Prop), vx_Met l y (Cond.code y cc maxL ret :: zW) rm (va_Pc As (zPw g ST ws sz)) Qc (zXC g E ws' (va_A ws sz)) mc ms (va_A ws sz)
theorem zx_open {l : Launch} {y : MethodName} {cc : ByteArray} {maxL : Nat} {ret : Option FieldType} {rm : Room} {g : zGl} {As : List Value} {ws ws' : va_W} {E : String} {mc ms : Nat} {ST : (Nat → Prop) → zStt} (hy : plainName y.cls = true) (hsl : (lg_sl As).length ≤ maxL)
    (body : ∀ (p : Program) (e : Env) (s : State) (m : MethodId) (below : List Frame) (meth : Method) (c : Code) (ls : Array Slot) (A : Nat → Prop) (Qc : Array Value → State → Outcome → State → Prop), p.tables.exec = Jvm.exec → c.code = cc → c.maxLocals = maxL → (∀ x ∈ c.exceptionTable.toList, False) → meth.locks = false → s.vm.findClass y.cls = some m.cls →
      (∀ w ∈ zW, w.before As.toArray s = true) → zK g s → ST A s s.heap → va_P g.1 zCl ws s.heap → va_D A ws → va_S A s.heap s.heap [] → (∀ q : Nat, s.heap.size ≤ q → A q) → lv_has ls maxL (lv_args 0 As) →
      W p l e rm s m As.toArray below meth c s.heap [] 0 0 (vx_MQ below Qc (zXC g E ws' A) As.toArray s mc ms A) (F0 m 0 ls [])) : zXi l y cc maxL ret rm g ST As ws E ws' mc ms := by
  intro sz Qc
  refine vx_ofW (cc := cc) (maxL := maxL) (ret := ret) hy rfl ?_
  intro p e s m args below meth c s₁ B hml hno hv
  obtain ⟨rfl, hsz, hK, hT, hP, hD⟩ := hv
  subst hsz
  have hts := atoms_spec (ws := Cond.code y cc maxL ret :: zW) B.pre
  have hl := lv_entry As (n := maxL) hsl
  rw [lg_entry_eq]
  generalize (lg_sl As ++ List.replicate (maxL - (lg_sl As).length) Slot.unset).toArray = ls at hl ⊢
  exact body p e s m below meth c ls (va_A ws s.heap.size) Qc B.exec B.bytes hml hno B.notSynchronized (findClass_of_methodNamed B.named) (fun w h => hts w (List.mem_cons_of_mem _ h)) hK hT hP hD.self va_S.rf (fun q h => Or.inr h) hl
section ZX
variable {p : Program} {l : Launch} {e : Env} {R : Room} {s : State} {m : MethodId} {args : Array Value} {below : List Frame} {meth : Method} {c : Code} {H : Heap} {locs : List Loc} {cells slots mc ms : Nat}
variable {cc : ByteArray} {pc : Nat} {ls : Array Slot} {rest : List Value} {A : Nat → Prop} {ws : va_W} {g : zGl} {Qc : Array Value → State → Outcome → State → Prop}
theorem zx_throw {cls text : String} {ik is ic sa : Nat} (hx : p.tables.exec = Jvm.exec) (hb : c.code = cc) (hl0 : l.stackTraces = false) (hown : s.vm.findClass "CronFinder" = some m.cls) (hw : ∀ w ∈ zW, w.before args s = true) (hcls : Bundle.fit cls = true) (hk : Cond.classLink "CronFinder" ik cls ∈ zW) (hini : Cond.initialized cls ∈ zW) (hstr : vk_R "CronFinder" is text sa s)
    (hat : ∀ w ∈ vx_atS "CronFinder" ic cls zUp, w.before args s = true) (hgood : ∀ w ∈ Cond.classLink "CronFinder" ik cls :: Cond.initialized cls :: vx_atS "CronFinder" ic cls zUp, vx_ot w = true) (hT : zTh A s s.heap) (hP : va_P g.1 zCl ws H) (hS : va_S A s.heap H locs) (hsz : ls.size = c.maxLocals)
    (d0 : decode cc pc = .ok (.new ik, 3)) (d3 : decode cc (pc + 3) = .ok (.dup, 1)) (d4 : decode cc (pc + 4) = .ok (.ldc is, 2)) (d6 : decode cc (pc + 6) = .ok (.invokespecial ic, 3)) (d9 : decode cc (pc + 9) = .ok (.athrow, 1)) (hno : ∀ x ∈ c.exceptionTable.toList, False)
    (hR : 5 < R.frames ∧ (rest.map fun v => v.category).sum + 82 ≤ R.locals ∧ cells + 1 ≤ R.cells ∧ slots + 6 ≤ R.slots) (hlk : meth.locks = false) (hc : cells + 1 ≤ mc ∧ slots + 6 ≤ ms) :
    W p l e R s m args below meth c H locs cells slots (vx_MQ below Qc (zXC g cls ws A) args s mc ms A) (F0 m pc ls rest) :=
  vx_throwS hx hb hl0 hown hcls (by decide +kernel) (hw _ hk) (hw _ hini) hstr hat hgood hT.2.1 hT.2.2 hS hsz d0 d3 d4 d6 d9 (fun x h => (hno x h).elim) hR.1 hR.2.1 hR.2.2.1 hR.2.2.2 hlk
    (fun t ha hz hk => ⟨(), trivial, ⟨rfl, hP.kept (fun k x h9 => hk x.1 ((hP k x h9).lt))⟩, Nat.le_trans hS.1 hz, fun q h1 h2 => (hk q (Nat.lt_of_lt_of_le h1 hS.1)).trans (hS.2.1 q h1 h2)⟩) hS.2.2 hc.1 hc.2
end ZX
theorem zx_ia_t : ∀ w ∈ Cond.classLink "CronFinder" 49 "java/lang/IllegalArgumentException" :: Cond.initialized "java/lang/IllegalArgumentException" :: vx_atS "CronFinder" 53 "java/lang/IllegalArgumentException" zUp, vx_ot w = true := by decide +kernel
theorem zx_io_t : ∀ w ∈ Cond.classLink "CronFinder" 39 "java/lang/IndexOutOfBoundsException" :: Cond.initialized "java/lang/IndexOutOfBoundsException" :: vx_atS "CronFinder" 43 "java/lang/IndexOutOfBoundsException" zUp, vx_ot w = true := by decide +kernel
theorem zx_uo_t : ∀ w ∈ Cond.classLink "CronFinder" 63 "java/lang/UnsupportedOperationException" :: Cond.initialized "java/lang/UnsupportedOperationException" :: vx_atS "CronFinder" 67 "java/lang/UnsupportedOperationException" zUp, vx_ot w = true := by decide +kernel
