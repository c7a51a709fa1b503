/-! constructors: the rows they take, Row, DaySet, Reader -/
theorem zd_O_init_0 : decode zc_O_init 0 = .ok (.aload_n 0, 1) := by decide +kernel
theorem zd_O_init_1 : decode zc_O_init 1 = .ok (.invokespecial 3, 3) := by decide +kernel
theorem zd_O_init_4 : decode zc_O_init 4 = .ok (.aload_n 0, 1) := by decide +kernel
theorem zd_O_init_5 : decode zc_O_init 5 = .ok (.iload_n 1, 1) := by decide +kernel
theorem zd_O_init_6 : decode zc_O_init 6 = .ok (.putfield 9, 3) := by decide +kernel
theorem zd_O_init_9 : decode zc_O_init 9 = .ok (.aload_n 0, 1) := by decide +kernel
theorem zd_O_init_10 : decode zc_O_init 10 = .ok (.iload_n 2, 1) := by decide +kernel
theorem zd_O_init_11 : decode zc_O_init 11 = .ok (.putfield 15, 3) := by decide +kernel
theorem zd_O_init_14 : decode zc_O_init 14 = .ok (.aload_n 0, 1) := by decide +kernel
theorem zd_O_init_15 : decode zc_O_init 15 = .ok (.iload_n 2, 1) := by decide +kernel
theorem zd_O_init_16 : decode zc_O_init 16 = .ok (.iload_n 1, 1) := by decide +kernel
theorem zd_O_init_17 : decode zc_O_init 17 = .ok (.isub, 1) := by decide +kernel
theorem zd_O_init_18 : decode zc_O_init 18 = .ok (.iconst 1, 1) := by decide +kernel
theorem zd_O_init_19 : decode zc_O_init 19 = .ok (.iadd, 1) := by decide +kernel
theorem zd_O_init_20 : decode zc_O_init 20 = .ok (.newarray .boolean, 2) := by decide +kernel
theorem zd_O_init_22 : decode zc_O_init 22 = .ok (.putfield 18, 3) := by decide +kernel
theorem zd_O_init_25 : decode zc_O_init 25 = .ok (.return_, 1) := by decide +kernel
theorem zd_S_init_0 : decode zc_S_init 0 = .ok (.aload_n 0, 1) := by decide +kernel
theorem zd_S_init_1 : decode zc_S_init 1 = .ok (.invokespecial 1, 3) := by decide +kernel
theorem zd_S_init_4 : decode zc_S_init 4 = .ok (.aload_n 0, 1) := by decide +kernel
theorem zd_S_init_5 : decode zc_S_init 5 = .ok (.iload_n 1, 1) := by decide +kernel
theorem zd_S_init_6 : decode zc_S_init 6 = .ok (.newarray .int, 2) := by decide +kernel
theorem zd_S_init_8 : decode zc_S_init 8 = .ok (.putfield 7, 3) := by decide +kernel
theorem zd_S_init_11 : decode zc_S_init 11 = .ok (.aload_n 0, 1) := by decide +kernel
theorem zd_S_init_12 : decode zc_S_init 12 = .ok (.iconst 0, 1) := by decide +kernel
theorem zd_S_init_13 : decode zc_S_init 13 = .ok (.putfield 13, 3) := by decide +kernel
theorem zd_S_init_16 : decode zc_S_init 16 = .ok (.return_, 1) := by decide +kernel
theorem zd_R_init_0 : decode zc_R_init 0 = .ok (.aload_n 0, 1) := by decide +kernel
theorem zd_R_init_1 : decode zc_R_init 1 = .ok (.invokespecial 3, 3) := by decide +kernel
theorem zd_R_init_4 : decode zc_R_init 4 = .ok (.aload_n 0, 1) := by decide +kernel
theorem zd_R_init_5 : decode zc_R_init 5 = .ok (.aload_n 1, 1) := by decide +kernel
theorem zd_R_init_6 : decode zc_R_init 6 = .ok (.putfield 9, 3) := by decide +kernel
theorem zd_R_init_9 : decode zc_R_init 9 = .ok (.aload_n 0, 1) := by decide +kernel
theorem zd_R_init_10 : decode zc_R_init 10 = .ok (.iload_n 2, 1) := by decide +kernel
theorem zd_R_init_11 : decode zc_R_init 11 = .ok (.putfield 15, 3) := by decide +kernel
theorem zd_R_init_14 : decode zc_R_init 14 = .ok (.aload_n 0, 1) := by decide +kernel
theorem zd_R_init_15 : decode zc_R_init 15 = .ok (.aload_n 3, 1) := by decide +kernel
theorem zd_R_init_16 : decode zc_R_init 16 = .ok (.putfield 19, 3) := by decide +kernel
theorem zd_R_init_19 : decode zc_R_init 19 = .ok (.aload_n 0, 1) := by decide +kernel
theorem zd_R_init_20 : decode zc_R_init 20 = .ok (.iconst 0, 1) := by decide +kernel
theorem zd_R_init_21 : decode zc_R_init 21 = .ok (.putfield 23, 3) := by decide +kernel
theorem zd_R_init_24 : decode zc_R_init 24 = .ok (.aload_n 0, 1) := by decide +kernel
theorem zd_R_init_25 : decode zc_R_init 25 = .ok (.iconst 0, 1) := by decide +kernel
theorem zd_R_init_26 : decode zc_R_init 26 = .ok (.putfield 26, 3) := by decide +kernel
theorem zd_R_init_29 : decode zc_R_init 29 = .ok (.aload_n 0, 1) := by decide +kernel
theorem zd_R_init_30 : decode zc_R_init 30 = .ok (.iconst 0, 1) := by decide +kernel
theorem zd_R_init_31 : decode zc_R_init 31 = .ok (.putfield 29, 3) := by decide +kernel
theorem zd_R_init_34 : decode zc_R_init 34 = .ok (.return_, 1) := by decide +kernel
/-- a constructor: its own cells, and new ones at addresses q 0, q 1 .. -/
def zNe (g : zGl) (ws' : (Nat → Nat) → va_W) (A : Nat → Prop) : Array Value → State → Outcome → State → Prop := va_Qv (fun _ : Nat → Nat => True) (fun q U => va_P g.1 zCl (ws' q) U.heap ∧ va_D A (ws' q)) A
def zNi (l : Launch) (y : MethodName) (cc : ByteArray) (maxL : Nat) (rm : Room) (g : zGl) (ST : (Nat → Prop) → zStt) (As : List Value) (ws : va_W) (ws' : (Nat → Nat) → va_W) (mc ms : Nat) : Prop :=
  ∀ sz : Nat, Met l y (Cond.code y cc maxL none :: zW) rm (va_Pc As (zPw g ST ws sz)) (zNe g ws' (va_A ws sz)) mc ms (va_A ws sz)
theorem zn_open {l : Launch} {y : MethodName} {cc : ByteArray} {maxL : Nat} {rm : Room} {g : zGl} {As : List Value} {ws : va_W} {ws' : (Nat → Nat) → va_W} {mc ms : Nat} {ST : (Nat → Prop) → zStt} (hy : plainFor y = true) (hsl : (lg_sl As).length ≤ maxL)
    (body : ∀ (p : Program) (e : Env) (s : State) (m : MethodId) (below : List Frame) (meth : Method) (c : Code) (ls : Array Slot) (A : Nat → Prop), p.tables.exec = Jvm.exec → c.code = cc → c.maxLocals = maxL → meth.sig.returnType = none → meth.locks = false → s.vm.findClass y.cls = some m.cls → (y.name = "<init>" → meth.name = "<init>") →
      (∀ w ∈ zW, w.before As.toArray s = true) → zK g s → ST A s s.heap → va_P g.1 zCl ws s.heap → va_D A ws → va_S A s.heap s.heap [] → (∀ q : Nat, s.heap.size ≤ q → A q) → lv_has ls maxL (lv_args 0 As) →
      W p l e rm s m As.toArray below meth c s.heap [] 0 0 (MQ below (zNe g ws' A) As.toArray s mc ms A) (F0 m 0 ls [])) : zNi l y cc maxL rm g ST As ws ws' mc ms := by
  intro sz
  refine va_MetF (cc := cc) (maxL := maxL) (ret := none) hy rfl ?_
  intro p e s m args below meth c s₁ B hml hv
  obtain ⟨rfl, hsz, hK, hT, hP, hD⟩ := hv
  subst hsz
  have hts := atoms_spec (ws := Cond.code y cc maxL none :: zW) B.pre
  have hl := lv_entry As (n := maxL) hsl
  rw [lg_entry_eq]
  generalize (lg_sl As ++ List.replicate (maxL - (lg_sl As).length) Slot.unset).toArray = ls at hl ⊢
  exact body p e s m below meth c ls (va_A ws s.heap.size) B.exec B.bytes hml B.returns B.notSynchronized (findClass_of_methodNamed B.named) (fun h => (name_of_methodNamed B.named B.method).1.trans h) (fun w h => hts w (List.mem_cons_of_mem _ h)) hK hT hP hD.self va_S.rf (fun q h => Or.inr h) hl
section ZN
variable {p : Program} {l : Launch} {e : Env} {R : Room} {s : State} {m : MethodId} {args : Array Value} {below : List Frame} {meth : Method} {c : Code} {H : Heap} {locs : List Loc} {cells slots : Nat} {Q : State → Prop}
variable {cc : ByteArray} {pc : Nat} {ls : Array Slot} {rest : List Value} {A : Nat → Prop} {ws : va_W} {ws' : (Nat → Nat) → va_W} {g : zGl}
theorem zn_vret (q : Nat → Nat) (hx : p.tables.exec = Jvm.exec) (hb : c.code = cc) (hr : meth.sig.returnType = none) (hlk : meth.locks = false) (hP : va_P g.1 zCl (ws' q) H) (hD : va_D A (ws' q)) (hS : va_S A s.heap H locs) (hdg : decode cc pc = .ok (.return_, 1)) : W p l e R s m args below meth c H locs cells slots (MQ below (zNe g ws' A) args s cells slots A) (F0 m pc ls []) :=
  W.vret hx hb hr (fun t ht _ => ⟨⟨q, rfl, trivial, by rw [ht]; exact hP, hD⟩, hS.F ht⟩) hS.2.2 hdg hlk
def zPrm (ty : FieldType) : Prop := match ty with
  | .object _ => False
  | _ => True
theorem z_cA {s : State} {x y : ClassId} {ty : FieldType} (h1 : va_RA s x ty) (h2 : va_RA s y ty) (hp : zPrm ty) : x = y := by
  cases ty <;> first | exact Option.some.inj (h1.symm.trans h2) | exact hp.elim
theorem zi_newa {k N' : Nat} {n : Int32} {ty : FieldType} {a0 : vp_A} {atype : ArrayType} (hx : p.tables.exec = Jvm.exec) (hb : c.code = cc) (harr : (Cond.arrayClass (newarray.typeOf atype)).before args s = true) (hty : newarray.typeOf atype = ty) (hK : zK g s) (hP : va_P g.1 zCl ws H) (hD : va_D A ws) (hS : va_S A s.heap H locs) (hA : ∀ q, s.heap.size ≤ q → A q)
    (ha : ∀ cA : ClassId, vp_cell cA a0 = arrV cA N' (fun _ => defaultValue ty)) (hn : ¬ n < 0) (hN : n.toNatClampNeg = N') (hbytes : N' * componentBytes ty ≤ 536870912) (hcells : cells + 1 ≤ R.cells) (hslots : slots + N' ≤ R.slots) (hdg : decode cc pc = .ok (.newarray atype, 2)) (hk : (zTy g.2)[k]? = some (g.2 k, ty)) (hp : zPrm ty)
    (kk : ∀ (q : Nat) (H1 : Heap), va_P g.1 zCl (ws ++ [(q, .inl (g.2 k, a0))]) H1 → va_D A (ws ++ [(q, .inl (g.2 k, a0))]) → va_S A s.heap H1 locs →
      W p l e R s m args below meth c H1 locs (cells + 1) (slots + N') Q (F0 m (pc + 2) ls (.ref q :: rest))) : W p l e R s m args below meth c H locs cells slots Q (F0 m pc ls (.int n :: rest)) := by
  refine va_newa hx hb harr hty hK hP hD hS hA ha hn hN hbytes hcells hslots hdg (fun q cA H1 hK2 hP2 hD2 hS2 => ?_)
  have e := z_cA (hK2.2 (zTy g.2).length (cA, ty) (by rw [List.getElem?_append_right (Nat.le_refl _), Nat.sub_self]; rfl)).2 (hK.2 k _ hk).2 hp
  subst e
  exact kk q H1 hP2 hD2 hS2
end ZN
theorem zaB_00 : (fun j => Value.int (zaB (fun _ => false) j)) = (fun _ : Nat => defaultValue .boolean) := funext (fun _ => by show Value.int (iI 0) = Value.int 0; rw [iI_0])
theorem zaI_00 : (fun j => Value.int (zaI (fun _ => 0) j)) = (fun _ : Nat => defaultValue .int) := funext (fun _ => by show Value.int (iI 0) = Value.int 0; rw [iI_0])
theorem zaC_00 : (fun j => Value.int (zaI (fun _ => 0) j)) = (fun _ : Nat => defaultValue .char) := funext (fun _ => by show Value.int (iI 0) = Value.int 0; rw [iI_0])
set_option maxHeartbeats 4000000 in
set_option maxRecDepth 100000 in
theorem c_O_init_24 (l : Launch) (g : zGl) (r : Nat) : zNi l zy_O_init zc_O_init 3 ({ frames := 1, cells := 1, slots := 24, locals := 40 }) g (fun _ => zN) [.ref (r), .int (iI (0)), .int (iI (23))] [(r, .inr (2, [.int 0, .int 0, .null]))] (fun q => [(r, .inr (2, [.int (iI (0)), .int (iI (23)), .ref (q 0)])), (q 0, .inl (g.2 1, 24, .inl (zaB (fun _ => false))))]) 1 24 := by
  refine zn_open (by decide +kernel) (Nat.le_of_ble_eq_true rfl) ?_
  intro p e s m below meth c ls A hx hb hml hr hlk hown hin hw hK hT hP hD hS hA hl
  have hin := hin rfl
  have hown : s.vm.findClass "CronFinder$Row" = some m.cls := hown
  have hl : lv_has ls 3 [(0, .ref (r)), (1, .int (iI (0))), (2, .int (iI (23)))] := hl
  refine lv_aload_n hx hb zd_O_init_0 rfl (lv_at hl 0 rfl) ?_
  refine W.objInit hx hb hown (hw _ zw_1_43) (hw _ zw_1_30) (hw _ zw_1_31) rfl (by rw [hml]; exact hl.1) rfl zd_O_init_1 (Nat.le_of_ble_eq_true rfl) (Nat.le_of_ble_eq_true rfl) ?_
  refine W.eq (g2 := F0 m 4 ls []) rfl ?_
  refine lv_aload_n hx hb zd_O_init_4 rfl (lv_at hl 0 rfl) ?_
  refine lv_iload_n hx hb zd_O_init_5 rfl (lv_at hl 1 rfl) ?_
  refine va_putF (D := g.1) (ci := 2) (v := .int (iI (0))) (ty := .int) (C := zR_O) (T := zT_O) (N := 3) hx hb hw zin_O zt_O zto_O zn_O hown hK hP hD hS 0 rfl rfl 0 (by decide) (hw _ zw_1_44) (fun _ h9 => h9) rfl hin rfl (by decide +kernel) rfl rfl (Nat.le_of_ble_eq_true rfl) zd_O_init_6 (fun H locs hP hD hS => ?_)
  have hP : va_P g.1 zCl [(r, .inr (2, [.int (iI (0)), .int 0, .null]))] H := hP
  have hD : va_D A [(r, .inr (2, [.int (iI (0)), .int 0, .null]))] := hD
  refine lv_aload_n hx hb zd_O_init_9 rfl (lv_at hl 0 rfl) ?_
  refine lv_iload_n hx hb zd_O_init_10 rfl (lv_at hl 2 rfl) ?_
  refine va_putF (D := g.1) (ci := 2) (v := .int (iI (23))) (ty := .int) (C := zR_O) (T := zT_O) (N := 3) hx hb hw zin_O zt_O zto_O zn_O hown hK hP hD hS 0 rfl rfl 1 (by decide) (hw _ zw_1_45) (fun _ h9 => h9) rfl hin rfl (by decide +kernel) rfl rfl (Nat.le_of_ble_eq_true rfl) zd_O_init_11 (fun H locs hP hD hS => ?_)
  have hP : va_P g.1 zCl [(r, .inr (2, [.int (iI (0)), .int (iI (23)), .null]))] H := hP
  have hD : va_D A [(r, .inr (2, [.int (iI (0)), .int (iI (23)), .null]))] := hD
  refine lv_aload_n hx hb zd_O_init_14 rfl (lv_at hl 0 rfl) ?_
  refine lv_iload_n hx hb zd_O_init_15 rfl (lv_at hl 2 rfl) ?_
  refine lv_iload_n hx hb zd_O_init_16 rfl (lv_at hl 1 rfl) ?_
  refine zi_isub hx hb zd_O_init_17 ?_
  refine zi_iconst hx hb zd_O_init_18 ?_
  refine zi_iadd hx hb zd_O_init_19 ?_
  refine zi_newa (atype := .boolean) (ty := .boolean) (k := 1) (a0 := (24, .inl (zaB (fun _ => false)))) (N' := 24) hx hb (hw _ zw_1_55) rfl hK hP hD hS hA (fun cA => by rw [vp_cell_i, zaB_00]) (by decide) (by decide) (by decide) (by decide) (by decide) zd_O_init_20 rfl trivial (fun q20 H hP hD hS => ?_)
  have hP : va_P g.1 zCl [(r, .inr (2, [.int (iI (0)), .int (iI (23)), .null])), (q20, .inl (g.2 1, 24, .inl (zaB (fun _ => false))))] H := hP
  have hD : va_D A [(r, .inr (2, [.int (iI (0)), .int (iI (23)), .null])), (q20, .inl (g.2 1, 24, .inl (zaB (fun _ => false))))] := hD
  refine va_putF (D := g.1) (ci := 2) (v := .ref (q20)) (ty := (.array .boolean)) (C := zR_O) (T := zT_O) (N := 3) hx hb hw zin_O zt_O zto_O zn_O hown hK hP hD hS 0 rfl rfl 2 (by decide) (hw _ zw_1_46) (fun _ h9 => h9) rfl hin rfl (by decide +kernel) rfl rfl (Nat.le_of_ble_eq_true rfl) zd_O_init_22 (fun H locs hP hD hS => ?_)
  have hP : va_P g.1 zCl [(r, .inr (2, [.int (iI (0)), .int (iI (23)), .ref (q20)])), (q20, .inl (g.2 1, 24, .inl (zaB (fun _ => false))))] H := hP
  have hD : va_D A [(r, .inr (2, [.int (iI (0)), .int (iI (23)), .ref (q20)])), (q20, .inl (g.2 1, 24, .inl (zaB (fun _ => false))))] := hD
  exact zn_vret (fun i => ([q20] : List Nat).getD i 0) hx hb hr hlk hP hD hS zd_O_init_25
set_option maxHeartbeats 4000000 in
set_option maxRecDepth 100000 in
theorem c_O_init_60 (l : Launch) (g : zGl) (r : Nat) : zNi l zy_O_init zc_O_init 3 ({ frames := 1, cells := 1, slots := 60, locals := 40 }) g (fun _ => zN) [.ref (r), .int (iI (0)), .int (iI (59))] [(r, .inr (2, [.int 0, .int 0, .null]))] (fun q => [(r, .inr (2, [.int (iI (0)), .int (iI (59)), .ref (q 0)])), (q 0, .inl (g.2 1, 60, .inl (zaB (fun _ => false))))]) 1 60 := by
  refine zn_open (by decide +kernel) (Nat.le_of_ble_eq_true rfl) ?_
  intro p e s m below meth c ls A hx hb hml hr hlk hown hin hw hK hT hP hD hS hA hl
  have hin := hin rfl
  have hown : s.vm.findClass "CronFinder$Row" = some m.cls := hown
  have hl : lv_has ls 3 [(0, .ref (r)), (1, .int (iI (0))), (2, .int (iI (59)))] := hl
  refine lv_aload_n hx hb zd_O_init_0 rfl (lv_at hl 0 rfl) ?_
  refine W.objInit hx hb hown (hw _ zw_1_43) (hw _ zw_1_30) (hw _ zw_1_31) rfl (by rw [hml]; exact hl.1) rfl zd_O_init_1 (Nat.le_of_ble_eq_true rfl) (Nat.le_of_ble_eq_true rfl) ?_
  refine W.eq (g2 := F0 m 4 ls []) rfl ?_
  refine lv_aload_n hx hb zd_O_init_4 rfl (lv_at hl 0 rfl) ?_
  refine lv_iload_n hx hb zd_O_init_5 rfl (lv_at hl 1 rfl) ?_
  refine va_putF (D := g.1) (ci := 2) (v := .int (iI (0))) (ty := .int) (C := zR_O) (T := zT_O) (N := 3) hx hb hw zin_O zt_O zto_O zn_O hown hK hP hD hS 0 rfl rfl 0 (by decide) (hw _ zw_1_44) (fun _ h9 => h9) rfl hin rfl (by decide +kernel) rfl rfl (Nat.le_of_ble_eq_true rfl) zd_O_init_6 (fun H locs hP hD hS => ?_)
  have hP : va_P g.1 zCl [(r, .inr (2, [.int (iI (0)), .int 0, .null]))] H := hP
  have hD : va_D A [(r, .inr (2, [.int (iI (0)), .int 0, .null]))] := hD
  refine lv_aload_n hx hb zd_O_init_9 rfl (lv_at hl 0 rfl) ?_
  refine lv_iload_n hx hb zd_O_init_10 rfl (lv_at hl 2 rfl) ?_
  refine va_putF (D := g.1) (ci := 2) (v := .int (iI (59))) (ty := .int) (C := zR_O) (T := zT_O) (N := 3) hx hb hw zin_O zt_O zto_O zn_O hown hK hP hD hS 0 rfl rfl 1 (by decide) (hw _ zw_1_45) (fun _ h9 => h9) rfl hin rfl (by decide +kernel) rfl rfl (Nat.le_of_ble_eq_true rfl) zd_O_init_11 (fun H locs hP hD hS => ?_)
  have hP : va_P g.1 zCl [(r, .inr (2, [.int (iI (0)), .int (iI (59)), .null]))] H := hP
  have hD : va_D A [(r, .inr (2, [.int (iI (0)), .int (iI (59)), .null]))] := hD
  refine lv_aload_n hx hb zd_O_init_14 rfl (lv_at hl 0 rfl) ?_
  refine lv_iload_n hx hb zd_O_init_15 rfl (lv_at hl 2 rfl) ?_
  refine lv_iload_n hx hb zd_O_init_16 rfl (lv_at hl 1 rfl) ?_
  refine zi_isub hx hb zd_O_init_17 ?_
  refine zi_iconst hx hb zd_O_init_18 ?_
  refine zi_iadd hx hb zd_O_init_19 ?_
  refine zi_newa (atype := .boolean) (ty := .boolean) (k := 1) (a0 := (60, .inl (zaB (fun _ => false)))) (N' := 60) hx hb (hw _ zw_1_55) rfl hK hP hD hS hA (fun cA => by rw [vp_cell_i, zaB_00]) (by decide) (by decide) (by decide) (by decide) (by decide) zd_O_init_20 rfl trivial (fun q20 H hP hD hS => ?_)
  have hP : va_P g.1 zCl [(r, .inr (2, [.int (iI (0)), .int (iI (59)), .null])), (q20, .inl (g.2 1, 60, .inl (zaB (fun _ => false))))] H := hP
  have hD : va_D A [(r, .inr (2, [.int (iI (0)), .int (iI (59)), .null])), (q20, .inl (g.2 1, 60, .inl (zaB (fun _ => false))))] := hD
  refine va_putF (D := g.1) (ci := 2) (v := .ref (q20)) (ty := (.array .boolean)) (C := zR_O) (T := zT_O) (N := 3) hx hb hw zin_O zt_O zto_O zn_O hown hK hP hD hS 0 rfl rfl 2 (by decide) (hw _ zw_1_46) (fun _ h9 => h9) rfl hin rfl (by decide +kernel) rfl rfl (Nat.le_of_ble_eq_true rfl) zd_O_init_22 (fun H locs hP hD hS => ?_)
  have hP : va_P g.1 zCl [(r, .inr (2, [.int (iI (0)), .int (iI (59)), .ref (q20)])), (q20, .inl (g.2 1, 60, .inl (zaB (fun _ => false))))] H := hP
  have hD : va_D A [(r, .inr (2, [.int (iI (0)), .int (iI (59)), .ref (q20)])), (q20, .inl (g.2 1, 60, .inl (zaB (fun _ => false))))] := hD
  exact zn_vret (fun i => ([q20] : List Nat).getD i 0) hx hb hr hlk hP hD hS zd_O_init_25
set_option maxHeartbeats 4000000 in
set_option maxRecDepth 100000 in
theorem c_O_init_7 (l : Launch) (g : zGl) (r : Nat) : zNi l zy_O_init zc_O_init 3 ({ frames := 1, cells := 1, slots := 7, locals := 40 }) g (fun _ => zN) [.ref (r), .int (iI (1)), .int (iI (7))] [(r, .inr (2, [.int 0, .int 0, .null]))] (fun q => [(r, .inr (2, [.int (iI (1)), .int (iI (7)), .ref (q 0)])), (q 0, .inl (g.2 1, 7, .inl (zaB (fun _ => false))))]) 1 7 := by
  refine zn_open (by decide +kernel) (Nat.le_of_ble_eq_true rfl) ?_
  intro p e s m below meth c ls A hx hb hml hr hlk hown hin hw hK hT hP hD hS hA hl
  have hin := hin rfl
  have hown : s.vm.findClass "CronFinder$Row" = some m.cls := hown
  have hl : lv_has ls 3 [(0, .ref (r)), (1, .int (iI (1))), (2, .int (iI (7)))] := hl
  refine lv_aload_n hx hb zd_O_init_0 rfl (lv_at hl 0 rfl) ?_
  refine W.objInit hx hb hown (hw _ zw_1_43) (hw _ zw_1_30) (hw _ zw_1_31) rfl (by rw [hml]; exact hl.1) rfl zd_O_init_1 (Nat.le_of_ble_eq_true rfl) (Nat.le_of_ble_eq_true rfl) ?_
  refine W.eq (g2 := F0 m 4 ls []) rfl ?_
  refine lv_aload_n hx hb zd_O_init_4 rfl (lv_at hl 0 rfl) ?_
  refine lv_iload_n hx hb zd_O_init_5 rfl (lv_at hl 1 rfl) ?_
  refine va_putF (D := g.1) (ci := 2) (v := .int (iI (1))) (ty := .int) (C := zR_O) (T := zT_O) (N := 3) hx hb hw zin_O zt_O zto_O zn_O hown hK hP hD hS 0 rfl rfl 0 (by decide) (hw _ zw_1_44) (fun _ h9 => h9) rfl hin rfl (by decide +kernel) rfl rfl (Nat.le_of_ble_eq_true rfl) zd_O_init_6 (fun H locs hP hD hS => ?_)
  have hP : va_P g.1 zCl [(r, .inr (2, [.int (iI (1)), .int 0, .null]))] H := hP
  have hD : va_D A [(r, .inr (2, [.int (iI (1)), .int 0, .null]))] := hD
  refine lv_aload_n hx hb zd_O_init_9 rfl (lv_at hl 0 rfl) ?_
  refine lv_iload_n hx hb zd_O_init_10 rfl (lv_at hl 2 rfl) ?_
  refine va_putF (D := g.1) (ci := 2) (v := .int (iI (7))) (ty := .int) (C := zR_O) (T := zT_O) (N := 3) hx hb hw zin_O zt_O zto_O zn_O hown hK hP hD hS 0 rfl rfl 1 (by decide) (hw _ zw_1_45) (fun _ h9 => h9) rfl hin rfl (by decide +kernel) rfl rfl (Nat.le_of_ble_eq_true rfl) zd_O_init_11 (fun H locs hP hD hS => ?_)
  have hP : va_P g.1 zCl [(r, .inr (2, [.int (iI (1)), .int (iI (7)), .null]))] H := hP
  have hD : va_D A [(r, .inr (2, [.int (iI (1)), .int (iI (7)), .null]))] := hD
  refine lv_aload_n hx hb zd_O_init_14 rfl (lv_at hl 0 rfl) ?_
  refine lv_iload_n hx hb zd_O_init_15 rfl (lv_at hl 2 rfl) ?_
  refine lv_iload_n hx hb zd_O_init_16 rfl (lv_at hl 1 rfl) ?_
  refine zi_isub hx hb zd_O_init_17 ?_
  refine zi_iconst hx hb zd_O_init_18 ?_
  refine zi_iadd hx hb zd_O_init_19 ?_
  refine zi_newa (atype := .boolean) (ty := .boolean) (k := 1) (a0 := (7, .inl (zaB (fun _ => false)))) (N' := 7) hx hb (hw _ zw_1_55) rfl hK hP hD hS hA (fun cA => by rw [vp_cell_i, zaB_00]) (by decide) (by decide) (by decide) (by decide) (by decide) zd_O_init_20 rfl trivial (fun q20 H hP hD hS => ?_)
  have hP : va_P g.1 zCl [(r, .inr (2, [.int (iI (1)), .int (iI (7)), .null])), (q20, .inl (g.2 1, 7, .inl (zaB (fun _ => false))))] H := hP
  have hD : va_D A [(r, .inr (2, [.int (iI (1)), .int (iI (7)), .null])), (q20, .inl (g.2 1, 7, .inl (zaB (fun _ => false))))] := hD
  refine va_putF (D := g.1) (ci := 2) (v := .ref (q20)) (ty := (.array .boolean)) (C := zR_O) (T := zT_O) (N := 3) hx hb hw zin_O zt_O zto_O zn_O hown hK hP hD hS 0 rfl rfl 2 (by decide) (hw _ zw_1_46) (fun _ h9 => h9) rfl hin rfl (by decide +kernel) rfl rfl (Nat.le_of_ble_eq_true rfl) zd_O_init_22 (fun H locs hP hD hS => ?_)
  have hP : va_P g.1 zCl [(r, .inr (2, [.int (iI (1)), .int (iI (7)), .ref (q20)])), (q20, .inl (g.2 1, 7, .inl (zaB (fun _ => false))))] H := hP
  have hD : va_D A [(r, .inr (2, [.int (iI (1)), .int (iI (7)), .ref (q20)])), (q20, .inl (g.2 1, 7, .inl (zaB (fun _ => false))))] := hD
  exact zn_vret (fun i => ([q20] : List Nat).getD i 0) hx hb hr hlk hP hD hS zd_O_init_25
set_option maxHeartbeats 4000000 in
set_option maxRecDepth 100000 in
theorem c_O_init_12 (l : Launch) (g : zGl) (r : Nat) : zNi l zy_O_init zc_O_init 3 ({ frames := 1, cells := 1, slots := 12, locals := 40 }) g (fun _ => zN) [.ref (r), .int (iI (1)), .int (iI (12))] [(r, .inr (2, [.int 0, .int 0, .null]))] (fun q => [(r, .inr (2, [.int (iI (1)), .int (iI (12)), .ref (q 0)])), (q 0, .inl (g.2 1, 12, .inl (zaB (fun _ => false))))]) 1 12 := by
  refine zn_open (by decide +kernel) (Nat.le_of_ble_eq_true rfl) ?_
  intro p e s m below meth c ls A hx hb hml hr hlk hown hin hw hK hT hP hD hS hA hl
  have hin := hin rfl
  have hown : s.vm.findClass "CronFinder$Row" = some m.cls := hown
  have hl : lv_has ls 3 [(0, .ref (r)), (1, .int (iI (1))), (2, .int (iI (12)))] := hl
  refine lv_aload_n hx hb zd_O_init_0 rfl (lv_at hl 0 rfl) ?_
  refine W.objInit hx hb hown (hw _ zw_1_43) (hw _ zw_1_30) (hw _ zw_1_31) rfl (by rw [hml]; exact hl.1) rfl zd_O_init_1 (Nat.le_of_ble_eq_true rfl) (Nat.le_of_ble_eq_true rfl) ?_
  refine W.eq (g2 := F0 m 4 ls []) rfl ?_
  refine lv_aload_n hx hb zd_O_init_4 rfl (lv_at hl 0 rfl) ?_
  refine lv_iload_n hx hb zd_O_init_5 rfl (lv_at hl 1 rfl) ?_
  refine va_putF (D := g.1) (ci := 2) (v := .int (iI (1))) (ty := .int) (C := zR_O) (T := zT_O) (N := 3) hx hb hw zin_O zt_O zto_O zn_O hown hK hP hD hS 0 rfl rfl 0 (by decide) (hw _ zw_1_44) (fun _ h9 => h9) rfl hin rfl (by decide +kernel) rfl rfl (Nat.le_of_ble_eq_true rfl) zd_O_init_6 (fun H locs hP hD hS => ?_)
  have hP : va_P g.1 zCl [(r, .inr (2, [.int (iI (1)), .int 0, .null]))] H := hP
  have hD : va_D A [(r, .inr (2, [.int (iI (1)), .int 0, .null]))] := hD
  refine lv_aload_n hx hb zd_O_init_9 rfl (lv_at hl 0 rfl) ?_
  refine lv_iload_n hx hb zd_O_init_10 rfl (lv_at hl 2 rfl) ?_
  refine va_putF (D := g.1) (ci := 2) (v := .int (iI (12))) (ty := .int) (C := zR_O) (T := zT_O) (N := 3) hx hb hw zin_O zt_O zto_O zn_O hown hK hP hD hS 0 rfl rfl 1 (by decide) (hw _ zw_1_45) (fun _ h9 => h9) rfl hin rfl (by decide +kernel) rfl rfl (Nat.le_of_ble_eq_true rfl) zd_O_init_11 (fun H locs hP hD hS => ?_)
  have hP : va_P g.1 zCl [(r, .inr (2, [.int (iI (1)), .int (iI (12)), .null]))] H := hP
  have hD : va_D A [(r, .inr (2, [.int (iI (1)), .int (iI (12)), .null]))] := hD
  refine lv_aload_n hx hb zd_O_init_14 rfl (lv_at hl 0 rfl) ?_
  refine lv_iload_n hx hb zd_O_init_15 rfl (lv_at hl 2 rfl) ?_
  refine lv_iload_n hx hb zd_O_init_16 rfl (lv_at hl 1 rfl) ?_
  refine zi_isub hx hb zd_O_init_17 ?_
  refine zi_iconst hx hb zd_O_init_18 ?_
  refine zi_iadd hx hb zd_O_init_19 ?_
  refine zi_newa (atype := .boolean) (ty := .boolean) (k := 1) (a0 := (12, .inl (zaB (fun _ => false)))) (N' := 12) hx hb (hw _ zw_1_55) rfl hK hP hD hS hA (fun cA => by rw [vp_cell_i, zaB_00]) (by decide) (by decide) (by decide) (by decide) (by decide) zd_O_init_20 rfl trivial (fun q20 H hP hD hS => ?_)
  have hP : va_P g.1 zCl [(r, .inr (2, [.int (iI (1)), .int (iI (12)), .null])), (q20, .inl (g.2 1, 12, .inl (zaB (fun _ => false))))] H := hP
  have hD : va_D A [(r, .inr (2, [.int (iI (1)), .int (iI (12)), .null])), (q20, .inl (g.2 1, 12, .inl (zaB (fun _ => false))))] := hD
  refine va_putF (D := g.1) (ci := 2) (v := .ref (q20)) (ty := (.array .boolean)) (C := zR_O) (T := zT_O) (N := 3) hx hb hw zin_O zt_O zto_O zn_O hown hK hP hD hS 0 rfl rfl 2 (by decide) (hw _ zw_1_46) (fun _ h9 => h9) rfl hin rfl (by decide +kernel) rfl rfl (Nat.le_of_ble_eq_true rfl) zd_O_init_22 (fun H locs hP hD hS => ?_)
  have hP : va_P g.1 zCl [(r, .inr (2, [.int (iI (1)), .int (iI (12)), .ref (q20)])), (q20, .inl (g.2 1, 12, .inl (zaB (fun _ => false))))] H := hP
  have hD : va_D A [(r, .inr (2, [.int (iI (1)), .int (iI (12)), .ref (q20)])), (q20, .inl (g.2 1, 12, .inl (zaB (fun _ => false))))] := hD
  exact zn_vret (fun i => ([q20] : List Nat).getD i 0) hx hb hr hlk hP hD hS zd_O_init_25
set_option maxHeartbeats 4000000 in
set_option maxRecDepth 100000 in
theorem c_O_init_31 (l : Launch) (g : zGl) (r : Nat) : zNi l zy_O_init zc_O_init 3 ({ frames := 1, cells := 1, slots := 31, locals := 40 }) g (fun _ => zN) [.ref (r), .int (iI (1)), .int (iI (31))] [(r, .inr (2, [.int 0, .int 0, .null]))] (fun q => [(r, .inr (2, [.int (iI (1)), .int (iI (31)), .ref (q 0)])), (q 0, .inl (g.2 1, 31, .inl (zaB (fun _ => false))))]) 1 31 := by
  refine zn_open (by decide +kernel) (Nat.le_of_ble_eq_true rfl) ?_
  intro p e s m below meth c ls A hx hb hml hr hlk hown hin hw hK hT hP hD hS hA hl
  have hin := hin rfl
  have hown : s.vm.findClass "CronFinder$Row" = some m.cls := hown
  have hl : lv_has ls 3 [(0, .ref (r)), (1, .int (iI (1))), (2, .int (iI (31)))] := hl
  refine lv_aload_n hx hb zd_O_init_0 rfl (lv_at hl 0 rfl) ?_
  refine W.objInit hx hb hown (hw _ zw_1_43) (hw _ zw_1_30) (hw _ zw_1_31) rfl (by rw [hml]; exact hl.1) rfl zd_O_init_1 (Nat.le_of_ble_eq_true rfl) (Nat.le_of_ble_eq_true rfl) ?_
  refine W.eq (g2 := F0 m 4 ls []) rfl ?_
  refine lv_aload_n hx hb zd_O_init_4 rfl (lv_at hl 0 rfl) ?_
  refine lv_iload_n hx hb zd_O_init_5 rfl (lv_at hl 1 rfl) ?_
  refine va_putF (D := g.1) (ci := 2) (v := .int (iI (1))) (ty := .int) (C := zR_O) (T := zT_O) (N := 3) hx hb hw zin_O zt_O zto_O zn_O hown hK hP hD hS 0 rfl rfl 0 (by decide) (hw _ zw_1_44) (fun _ h9 => h9) rfl hin rfl (by decide +kernel) rfl rfl (Nat.le_of_ble_eq_true rfl) zd_O_init_6 (fun H locs hP hD hS => ?_)
  have hP : va_P g.1 zCl [(r, .inr (2, [.int (iI (1)), .int 0, .null]))] H := hP
  have hD : va_D A [(r, .inr (2, [.int (iI (1)), .int 0, .null]))] := hD
  refine lv_aload_n hx hb zd_O_init_9 rfl (lv_at hl 0 rfl) ?_
  refine lv_iload_n hx hb zd_O_init_10 rfl (lv_at hl 2 rfl) ?_
  refine va_putF (D := g.1) (ci := 2) (v := .int (iI (31))) (ty := .int) (C := zR_O) (T := zT_O) (N := 3) hx hb hw zin_O zt_O zto_O zn_O hown hK hP hD hS 0 rfl rfl 1 (by decide) (hw _ zw_1_45) (fun _ h9 => h9) rfl hin rfl (by decide +kernel) rfl rfl (Nat.le_of_ble_eq_true rfl) zd_O_init_11 (fun H locs hP hD hS => ?_)
  have hP : va_P g.1 zCl [(r, .inr (2, [.int (iI (1)), .int (iI (31)), .null]))] H := hP
  have hD : va_D A [(r, .inr (2, [.int (iI (1)), .int (iI (31)), .null]))] := hD
  refine lv_aload_n hx hb zd_O_init_14 rfl (lv_at hl 0 rfl) ?_
  refine lv_iload_n hx hb zd_O_init_15 rfl (lv_at hl 2 rfl) ?_
  refine lv_iload_n hx hb zd_O_init_16 rfl (lv_at hl 1 rfl) ?_
  refine zi_isub hx hb zd_O_init_17 ?_
  refine zi_iconst hx hb zd_O_init_18 ?_
  refine zi_iadd hx hb zd_O_init_19 ?_
  refine zi_newa (atype := .boolean) (ty := .boolean) (k := 1) (a0 := (31, .inl (zaB (fun _ => false)))) (N' := 31) hx hb (hw _ zw_1_55) rfl hK hP hD hS hA (fun cA => by rw [vp_cell_i, zaB_00]) (by decide) (by decide) (by decide) (by decide) (by decide) zd_O_init_20 rfl trivial (fun q20 H hP hD hS => ?_)
  have hP : va_P g.1 zCl [(r, .inr (2, [.int (iI (1)), .int (iI (31)), .null])), (q20, .inl (g.2 1, 31, .inl (zaB (fun _ => false))))] H := hP
  have hD : va_D A [(r, .inr (2, [.int (iI (1)), .int (iI (31)), .null])), (q20, .inl (g.2 1, 31, .inl (zaB (fun _ => false))))] := hD
  refine va_putF (D := g.1) (ci := 2) (v := .ref (q20)) (ty := (.array .boolean)) (C := zR_O) (T := zT_O) (N := 3) hx hb hw zin_O zt_O zto_O zn_O hown hK hP hD hS 0 rfl rfl 2 (by decide) (hw _ zw_1_46) (fun _ h9 => h9) rfl hin rfl (by decide +kernel) rfl rfl (Nat.le_of_ble_eq_true rfl) zd_O_init_22 (fun H locs hP hD hS => ?_)
  have hP : va_P g.1 zCl [(r, .inr (2, [.int (iI (1)), .int (iI (31)), .ref (q20)])), (q20, .inl (g.2 1, 31, .inl (zaB (fun _ => false))))] H := hP
  have hD : va_D A [(r, .inr (2, [.int (iI (1)), .int (iI (31)), .ref (q20)])), (q20, .inl (g.2 1, 31, .inl (zaB (fun _ => false))))] := hD
  exact zn_vret (fun i => ([q20] : List Nat).getD i 0) hx hb hr hlk hP hD hS zd_O_init_25
set_option maxHeartbeats 4000000 in
set_option maxRecDepth 100000 in
theorem c_O_init_330 (l : Launch) (g : zGl) (r : Nat) : zNi l zy_O_init zc_O_init 3 ({ frames := 1, cells := 1, slots := 330, locals := 40 }) g (fun _ => zN) [.ref (r), .int (iI (1970)), .int (iI (2299))] [(r, .inr (2, [.int 0, .int 0, .null]))] (fun q => [(r, .inr (2, [.int (iI (1970)), .int (iI (2299)), .ref (q 0)])), (q 0, .inl (g.2 1, 330, .inl (zaB (fun _ => false))))]) 1 330 := by
  refine zn_open (by decide +kernel) (Nat.le_of_ble_eq_true rfl) ?_
  intro p e s m below meth c ls A hx hb hml hr hlk hown hin hw hK hT hP hD hS hA hl
  have hin := hin rfl
  have hown : s.vm.findClass "CronFinder$Row" = some m.cls := hown
  have hl : lv_has ls 3 [(0, .ref (r)), (1, .int (iI (1970))), (2, .int (iI (2299)))] := hl
  refine lv_aload_n hx hb zd_O_init_0 rfl (lv_at hl 0 rfl) ?_
  refine W.objInit hx hb hown (hw _ zw_1_43) (hw _ zw_1_30) (hw _ zw_1_31) rfl (by rw [hml]; exact hl.1) rfl zd_O_init_1 (Nat.le_of_ble_eq_true rfl) (Nat.le_of_ble_eq_true rfl) ?_
  refine W.eq (g2 := F0 m 4 ls []) rfl ?_
  refine lv_aload_n hx hb zd_O_init_4 rfl (lv_at hl 0 rfl) ?_
  refine lv_iload_n hx hb zd_O_init_5 rfl (lv_at hl 1 rfl) ?_
  refine va_putF (D := g.1) (ci := 2) (v := .int (iI (1970))) (ty := .int) (C := zR_O) (T := zT_O) (N := 3) hx hb hw zin_O zt_O zto_O zn_O hown hK hP hD hS 0 rfl rfl 0 (by decide) (hw _ zw_1_44) (fun _ h9 => h9) rfl hin rfl (by decide +kernel) rfl rfl (Nat.le_of_ble_eq_true rfl) zd_O_init_6 (fun H locs hP hD hS => ?_)
  have hP : va_P g.1 zCl [(r, .inr (2, [.int (iI (1970)), .int 0, .null]))] H := hP
  have hD : va_D A [(r, .inr (2, [.int (iI (1970)), .int 0, .null]))] := hD
  refine lv_aload_n hx hb zd_O_init_9 rfl (lv_at hl 0 rfl) ?_
  refine lv_iload_n hx hb zd_O_init_10 rfl (lv_at hl 2 rfl) ?_
  refine va_putF (D := g.1) (ci := 2) (v := .int (iI (2299))) (ty := .int) (C := zR_O) (T := zT_O) (N := 3) hx hb hw zin_O zt_O zto_O zn_O hown hK hP hD hS 0 rfl rfl 1 (by decide) (hw _ zw_1_45) (fun _ h9 => h9) rfl hin rfl (by decide +kernel) rfl rfl (Nat.le_of_ble_eq_true rfl) zd_O_init_11 (fun H locs hP hD hS => ?_)
  have hP : va_P g.1 zCl [(r, .inr (2, [.int (iI (1970)), .int (iI (2299)), .null]))] H := hP
  have hD : va_D A [(r, .inr (2, [.int (iI (1970)), .int (iI (2299)), .null]))] := hD
  refine lv_aload_n hx hb zd_O_init_14 rfl (lv_at hl 0 rfl) ?_
  refine lv_iload_n hx hb zd_O_init_15 rfl (lv_at hl 2 rfl) ?_
  refine lv_iload_n hx hb zd_O_init_16 rfl (lv_at hl 1 rfl) ?_
  refine zi_isub hx hb zd_O_init_17 ?_
  refine zi_iconst hx hb zd_O_init_18 ?_
  refine zi_iadd hx hb zd_O_init_19 ?_
  refine zi_newa (atype := .boolean) (ty := .boolean) (k := 1) (a0 := (330, .inl (zaB (fun _ => false)))) (N' := 330) hx hb (hw _ zw_1_55) rfl hK hP hD hS hA (fun cA => by rw [vp_cell_i, zaB_00]) (by decide) (by decide) (by decide) (by decide) (by decide) zd_O_init_20 rfl trivial (fun q20 H hP hD hS => ?_)
  have hP : va_P g.1 zCl [(r, .inr (2, [.int (iI (1970)), .int (iI (2299)), .null])), (q20, .inl (g.2 1, 330, .inl (zaB (fun _ => false))))] H := hP
  have hD : va_D A [(r, .inr (2, [.int (iI (1970)), .int (iI (2299)), .null])), (q20, .inl (g.2 1, 330, .inl (zaB (fun _ => false))))] := hD
  refine va_putF (D := g.1) (ci := 2) (v := .ref (q20)) (ty := (.array .boolean)) (C := zR_O) (T := zT_O) (N := 3) hx hb hw zin_O zt_O zto_O zn_O hown hK hP hD hS 0 rfl rfl 2 (by decide) (hw _ zw_1_46) (fun _ h9 => h9) rfl hin rfl (by decide +kernel) rfl rfl (Nat.le_of_ble_eq_true rfl) zd_O_init_22 (fun H locs hP hD hS => ?_)
  have hP : va_P g.1 zCl [(r, .inr (2, [.int (iI (1970)), .int (iI (2299)), .ref (q20)])), (q20, .inl (g.2 1, 330, .inl (zaB (fun _ => false))))] H := hP
  have hD : va_D A [(r, .inr (2, [.int (iI (1970)), .int (iI (2299)), .ref (q20)])), (q20, .inl (g.2 1, 330, .inl (zaB (fun _ => false))))] := hD
  exact zn_vret (fun i => ([q20] : List Nat).getD i 0) hx hb hr hlk hP hD hS zd_O_init_25
set_option maxHeartbeats 4000000 in
set_option maxRecDepth 100000 in
theorem c_S_init (l : Launch) (g : zGl) (r : Nat) : zNi l zy_S_init zc_S_init 2 ({ frames := 1, cells := 1, slots := 200, locals := 40 }) g (fun _ => zN) [.ref (r), .int (iI (200))] [(r, .inr (1, [.null, .int 0]))] (fun q => [(r, .inr (1, [.ref (q 0), .int (iI (0))])), (q 0, .inl (g.2 0, 200, .inl (zaI (fun _ => 0))))]) 1 200 := by
  refine zn_open (by decide +kernel) (Nat.le_of_ble_eq_true rfl) ?_
  intro p e s m below meth c ls A hx hb hml hr hlk hown hin hw hK hT hP hD hS hA hl
  have hin := hin rfl
  have hown : s.vm.findClass "CronFinder$DaySet" = some m.cls := hown
  have hl : lv_has ls 2 [(0, .ref (r)), (1, .int (iI (200)))] := hl
  refine lv_aload_n hx hb zd_S_init_0 rfl (lv_at hl 0 rfl) ?_
  refine W.objInit hx hb hown (hw _ zw_1_97) (hw _ zw_1_30) (hw _ zw_1_31) rfl (by rw [hml]; exact hl.1) rfl zd_S_init_1 (Nat.le_of_ble_eq_true rfl) (Nat.le_of_ble_eq_true rfl) ?_
  refine W.eq (g2 := F0 m 4 ls []) rfl ?_
  refine lv_aload_n hx hb zd_S_init_4 rfl (lv_at hl 0 rfl) ?_
  refine lv_iload_n hx hb zd_S_init_5 rfl (lv_at hl 1 rfl) ?_
  refine zi_newa (atype := .int) (ty := .int) (k := 0) (a0 := (200, .inl (zaI (fun _ => 0)))) (N' := 200) hx hb (hw _ zw_1_105) rfl hK hP hD hS hA (fun cA => by rw [vp_cell_i, zaI_00]) (by decide) (by decide) (by decide) (by decide) (by decide) zd_S_init_6 rfl trivial (fun q6 H hP hD hS => ?_)
  have hP : va_P g.1 zCl [(r, .inr (1, [.null, .int 0])), (q6, .inl (g.2 0, 200, .inl (zaI (fun _ => 0))))] H := hP
  have hD : va_D A [(r, .inr (1, [.null, .int 0])), (q6, .inl (g.2 0, 200, .inl (zaI (fun _ => 0))))] := hD
  refine va_putF (D := g.1) (ci := 1) (v := .ref (q6)) (ty := (.array .int)) (C := zR_S) (T := zT_S) (N := 2) hx hb hw zin_S zt_S zto_S zn_S hown hK hP hD hS 0 rfl rfl 0 (by decide) (hw _ zw_1_98) (fun _ h9 => h9) rfl hin rfl (by decide +kernel) rfl rfl (Nat.le_of_ble_eq_true rfl) zd_S_init_8 (fun H locs hP hD hS => ?_)
  have hP : va_P g.1 zCl [(r, .inr (1, [.ref (q6), .int 0])), (q6, .inl (g.2 0, 200, .inl (zaI (fun _ => 0))))] H := hP
  have hD : va_D A [(r, .inr (1, [.ref (q6), .int 0])), (q6, .inl (g.2 0, 200, .inl (zaI (fun _ => 0))))] := hD
  refine lv_aload_n hx hb zd_S_init_11 rfl (lv_at hl 0 rfl) ?_
  refine zi_iconst hx hb zd_S_init_12 ?_
  refine va_put (D := g.1) (ci := 1) (v := .int (iI (0))) (ty := .int) (C := zR_S) (T := zT_S) (N := 2) hx hb hw zin_S zt_S zto_S zn_S hown hK hP hD hS 0 rfl rfl 1 (by decide) (hw _ zw_1_99) (fun _ h9 => h9) rfl  (by decide +kernel) rfl rfl (Nat.le_of_ble_eq_true rfl) zd_S_init_13 (fun H locs hP hD hS => ?_)
  have hP : va_P g.1 zCl [(r, .inr (1, [.ref (q6), .int (iI (0))])), (q6, .inl (g.2 0, 200, .inl (zaI (fun _ => 0))))] H := hP
  have hD : va_D A [(r, .inr (1, [.ref (q6), .int (iI (0))])), (q6, .inl (g.2 0, 200, .inl (zaI (fun _ => 0))))] := hD
  exact zn_vret (fun i => ([q6] : List Nat).getD i 0) hx hb hr hlk hP hD hS zd_S_init_16
set_option maxHeartbeats 4000000 in
set_option maxRecDepth 100000 in
theorem c_R_init (l : Launch) (g : zGl) (r tx pq : Nat) (ln : Int) : zNi l zy_R_init zc_R_init 4 ({ frames := 1, cells := 0, slots := 0, locals := 40 }) g (fun _ => zN) [.ref (r), .ref (tx), .int (iI (ln)), .ref (pq)] [(r, .inr (4, [.null, .int 0, .null, .int 0, .int 0, .int 0]))] (fun q => [(r, .inr (4, [.ref (tx), .int (iI (ln)), .ref (pq), .int (iI (0)), .int (iI (0)), .int (iI (bI (false)))]))]) 0 0 := by
  refine zn_open (by decide +kernel) (Nat.le_of_ble_eq_true rfl) ?_
  intro p e s m below meth c ls A hx hb hml hr hlk hown hin hw hK hT hP hD hS hA hl
  have hin := hin rfl
  have hown : s.vm.findClass "CronFinder$Reader" = some m.cls := hown
  have hl : lv_has ls 4 [(0, .ref (r)), (1, .ref (tx)), (2, .int (iI (ln))), (3, .ref (pq))] := hl
  refine lv_aload_n hx hb zd_R_init_0 rfl (lv_at hl 0 rfl) ?_
  refine W.objInit hx hb hown (hw _ zw_2_6) (hw _ zw_1_30) (hw _ zw_1_31) rfl (by rw [hml]; exact hl.1) rfl zd_R_init_1 (Nat.le_of_ble_eq_true rfl) (Nat.le_of_ble_eq_true rfl) ?_
  refine W.eq (g2 := F0 m 4 ls []) rfl ?_
  refine lv_aload_n hx hb zd_R_init_4 rfl (lv_at hl 0 rfl) ?_
  refine lv_aload_n hx hb zd_R_init_5 rfl (lv_at hl 1 rfl) ?_
  refine va_putF (D := g.1) (ci := 4) (v := .ref (tx)) (ty := (.array .char)) (C := zR_R) (T := zT_R) (N := 6) hx hb hw zin_R zt_R zto_R zn_R hown hK hP hD hS 0 rfl rfl 0 (by decide) (hw _ zw_2_7) (fun _ h9 => h9) rfl hin rfl (by decide +kernel) rfl rfl (Nat.le_of_ble_eq_true rfl) zd_R_init_6 (fun H locs hP hD hS => ?_)
  have hP : va_P g.1 zCl [(r, .inr (4, [.ref (tx), .int 0, .null, .int 0, .int 0, .int 0]))] H := hP
  have hD : va_D A [(r, .inr (4, [.ref (tx), .int 0, .null, .int 0, .int 0, .int 0]))] := hD
  refine lv_aload_n hx hb zd_R_init_9 rfl (lv_at hl 0 rfl) ?_
  refine lv_iload_n hx hb zd_R_init_10 rfl (lv_at hl 2 rfl) ?_
  refine va_putF (D := g.1) (ci := 4) (v := .int (iI (ln))) (ty := .int) (C := zR_R) (T := zT_R) (N := 6) hx hb hw zin_R zt_R zto_R zn_R hown hK hP hD hS 0 rfl rfl 1 (by decide) (hw _ zw_2_8) (fun _ h9 => h9) rfl hin rfl (by decide +kernel) rfl rfl (Nat.le_of_ble_eq_true rfl) zd_R_init_11 (fun H locs hP hD hS => ?_)
  have hP : va_P g.1 zCl [(r, .inr (4, [.ref (tx), .int (iI (ln)), .null, .int 0, .int 0, .int 0]))] H := hP
  have hD : va_D A [(r, .inr (4, [.ref (tx), .int (iI (ln)), .null, .int 0, .int 0, .int 0]))] := hD
  refine lv_aload_n hx hb zd_R_init_14 rfl (lv_at hl 0 rfl) ?_
  refine lv_aload_n hx hb zd_R_init_15 rfl (lv_at hl 3 rfl) ?_
  refine va_putF (D := g.1) (ci := 4) (v := .ref (pq)) (ty := (.object "CronFinder$Plan")) (C := zR_R) (T := zT_R) (N := 6) hx hb hw zin_R zt_R zto_R zn_R hown hK hP hD hS 0 rfl rfl 2 (by decide) (hw _ zw_2_9) (fun _ h9 => h9) rfl hin rfl (by decide +kernel) rfl rfl (Nat.le_of_ble_eq_true rfl) zd_R_init_16 (fun H locs hP hD hS => ?_)
  have hP : va_P g.1 zCl [(r, .inr (4, [.ref (tx), .int (iI (ln)), .ref (pq), .int 0, .int 0, .int 0]))] H := hP
  have hD : va_D A [(r, .inr (4, [.ref (tx), .int (iI (ln)), .ref (pq), .int 0, .int 0, .int 0]))] := hD
  refine lv_aload_n hx hb zd_R_init_19 rfl (lv_at hl 0 rfl) ?_
  refine zi_iconst hx hb zd_R_init_20 ?_
  refine va_put (D := g.1) (ci := 4) (v := .int (iI (0))) (ty := .int) (C := zR_R) (T := zT_R) (N := 6) hx hb hw zin_R zt_R zto_R zn_R hown hK hP hD hS 0 rfl rfl 3 (by decide) (hw _ zw_2_10) (fun _ h9 => h9) rfl  (by decide +kernel) rfl rfl (Nat.le_of_ble_eq_true rfl) zd_R_init_21 (fun H locs hP hD hS => ?_)
  have hP : va_P g.1 zCl [(r, .inr (4, [.ref (tx), .int (iI (ln)), .ref (pq), .int (iI (0)), .int 0, .int 0]))] H := hP
  have hD : va_D A [(r, .inr (4, [.ref (tx), .int (iI (ln)), .ref (pq), .int (iI (0)), .int 0, .int 0]))] := hD
  refine lv_aload_n hx hb zd_R_init_24 rfl (lv_at hl 0 rfl) ?_
  refine zi_iconst hx hb zd_R_init_25 ?_
  refine va_put (D := g.1) (ci := 4) (v := .int (iI (0))) (ty := .int) (C := zR_R) (T := zT_R) (N := 6) hx hb hw zin_R zt_R zto_R zn_R hown hK hP hD hS 0 rfl rfl 4 (by decide) (hw _ zw_2_11) (fun _ h9 => h9) rfl  (by decide +kernel) rfl rfl (Nat.le_of_ble_eq_true rfl) zd_R_init_26 (fun H locs hP hD hS => ?_)
  have hP : va_P g.1 zCl [(r, .inr (4, [.ref (tx), .int (iI (ln)), .ref (pq), .int (iI (0)), .int (iI (0)), .int 0]))] H := hP
  have hD : va_D A [(r, .inr (4, [.ref (tx), .int (iI (ln)), .ref (pq), .int (iI (0)), .int (iI (0)), .int 0]))] := hD
  refine lv_aload_n hx hb zd_R_init_29 rfl (lv_at hl 0 rfl) ?_
  refine zi_iconst hx hb zd_R_init_30 ?_
  refine zb_as (x := false) rfl ?_
  refine va_put (D := g.1) (ci := 4) (v := .int (iI (bI (false)))) (ty := .boolean) (C := zR_R) (T := zT_R) (N := 6) hx hb hw zin_R zt_R zto_R zn_R hown hK hP hD hS 0 rfl rfl 5 (by decide) (hw _ zw_2_12) (fun _ h9 => h9) rfl  (by decide +kernel) (zaB_nn _) (zaB_ff _) (Nat.le_of_ble_eq_true rfl) zd_R_init_31 (fun H locs hP hD hS => ?_)
  have hP : va_P g.1 zCl [(r, .inr (4, [.ref (tx), .int (iI (ln)), .ref (pq), .int (iI (0)), .int (iI (0)), .int (iI (bI (false)))]))] H := hP
  have hD : va_D A [(r, .inr (4, [.ref (tx), .int (iI (ln)), .ref (pq), .int (iI (0)), .int (iI (0)), .int (iI (bI (false)))]))] := hD
  exact zn_vret (fun i => ([] : List Nat).getD i 0) hx hb hr hlk hP hD hS zd_R_init_34
