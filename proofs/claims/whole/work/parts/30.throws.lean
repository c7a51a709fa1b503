/-! exceptions: what a throw takes -/
abbrev zUp : List String := ["java/lang/RuntimeException", "java/lang/Exception"]
def zIn (L : List Cond) : Bool := L.all (fun w => decide (w ∈ lw_tbl) && goodWord w)
theorem zIn_ok {L : List Cond} (h : zIn L = true) : ∀ w ∈ L, w ∈ zW := fun w hw => by
  have h1 := List.all_eq_true.mp h w hw
  simp only [Bool.and_eq_true, decide_eq_true_eq] at h1
  exact List.mem_filter.mpr h1
theorem zx_ia_g : zIn ((vx_atS "CronFinder" 53 "java/lang/IllegalArgumentException" zUp).filter goodWord) = true := by decide +kernel
theorem zx_io_g : zIn ((vx_atS "CronFinder" 43 "java/lang/IndexOutOfBoundsException" zUp).filter goodWord) = true := by decide +kernel
theorem zx_uo_g : zIn ((vx_atS "CronFinder" 67 "java/lang/UnsupportedOperationException" zUp).filter goodWord) = true := by decide +kernel
def zFx : List Cond := [.declares (Bundle.init0 "java/lang/RuntimeException"), .declares (Bundle.init0 "java/lang/Exception"), .declares (Bundle.init0 Bundle.tN), .declares (Bundle.initS "java/lang/RuntimeException"), .declares (Bundle.initS "java/lang/Exception"), .declares (Bundle.initS Bundle.tN), .castable "java/lang/IllegalArgumentException" "java/lang/IllegalArgumentException", .castable "java/lang/IndexOutOfBoundsException" "java/lang/IndexOutOfBoundsException", .castable "java/lang/UnsupportedOperationException" "java/lang/UnsupportedOperationException"]
theorem zFx_f : ∀ w ∈ zFx, w.faceAtom = true ∧ w.onTables = true := by decide +kernel
/-- what a throw takes of the statics -/
def zTh (A : Nat → Prop) : zStt := fun U H => (∀ w ∈ zFx, w.before #[] U = true) ∧ vx_Zq Bundle.tN "UNASSIGNED_STACK" Bundle.steD A U H ∧ vx_Zq Bundle.tN "SUPPRESSED_SENTINEL" Bundle.listD A U H
theorem zTh_mv (A : Nat → Prop) : zMv (zTh A) := fun u U H hW h => ⟨fun w hw => va_tabs (zFx_f w hw).2 (u := u.setVm U.vm) rfl (Cond.faceAtom_setVm hW.alike w (zFx_f w hw).1 (h.1 w hw)), vx_Zq.moved hW.alike h.2.1, vx_Zq.moved hW.alike h.2.2⟩
theorem zTh_now {A : Nat → Prop} {s : State} {H : Heap} {locs : List Loc} (h : zTh A s s.heap) (hS : va_S A s.heap H locs) : zTh A s H := ⟨h.1, h.2.1.kept hS.2.1, h.2.2.kept hS.2.1⟩
theorem zTh_nar {A B : Nat → Prop} {s : State} {H : Heap} (h : zTh A s H) (hAB : ∀ q, B q → A q) : zTh B s H := ⟨h.1, h.2.1.narrow hAB, h.2.2.narrow hAB⟩
theorem zx_ia_f : ∀ w ∈ (vx_atS "CronFinder" 53 "java/lang/IllegalArgumentException" zUp).filter (fun w => !goodWord w), w ∈ zFx := by decide +kernel
theorem zx_ia {A : Nat → Prop} {args : Array Value} {s : State} {H : Heap} (hw : ∀ w ∈ zW, w.before args s = true) (h : zTh A s H) : ∀ w ∈ vx_atS "CronFinder" 53 "java/lang/IllegalArgumentException" zUp, w.before args s = true := vx_hat (B := zFx) (fun w hx => hw w (zIn_ok zx_ia_g w hx)) zx_ia_f (fun w hx => va_tabs (zFx_f w hx).2 rfl (h.1 w hx))
theorem zx_io_f : ∀ w ∈ (vx_atS "CronFinder" 43 "java/lang/IndexOutOfBoundsException" zUp).filter (fun w => !goodWord w), w ∈ zFx := by decide +kernel
theorem zx_io {A : Nat → Prop} {args : Array Value} {s : State} {H : Heap} (hw : ∀ w ∈ zW, w.before args s = true) (h : zTh A s H) : ∀ w ∈ vx_atS "CronFinder" 43 "java/lang/IndexOutOfBoundsException" zUp, w.before args s = true := vx_hat (B := zFx) (fun w hx => hw w (zIn_ok zx_io_g w hx)) zx_io_f (fun w hx => va_tabs (zFx_f w hx).2 rfl (h.1 w hx))
theorem zx_uo_f : ∀ w ∈ (vx_atS "CronFinder" 67 "java/lang/UnsupportedOperationException" zUp).filter (fun w => !goodWord w), w ∈ zFx := by decide +kernel
theorem zx_uo {A : Nat → Prop} {args : Array Value} {s : State} {H : Heap} (hw : ∀ w ∈ zW, w.before args s = true) (h : zTh A s H) : ∀ w ∈ vx_atS "CronFinder" 67 "java/lang/UnsupportedOperationException" zUp, w.before args s = true := vx_hat (B := zFx) (fun w hx => hw w (zIn_ok zx_uo_g w hx)) zx_uo_f (fun w hx => va_tabs (zFx_f w hx).2 rfl (h.1 w hx))
