/-! exceptions: what a throw takes -/
abbrev zUp : List String := ["java/lang/RuntimeException", "java/lang/Exception"]
def zIn (L : List Cond) : Bool := L.all (fun w => decide (w ∈ lw_tbl) && goodWord w)
theorem zIn_ok {L : List Cond} (h : zIn L = true) : ∀ w ∈ L, w ∈ zW := fun w hw => by
  have h1 := List.all_eq_true.mp h w hw
  simp only [Bool.and_eq_true, decide_eq_true_eq] at h1
  exact List.mem_filter.mpr h1
theorem zx_ia_g : zIn ((vx_atS "CronFinder" 53 "java/lang/IllegalArgumentException" zUp).filter goodWord) = true := by decide +kernel
theorem zx_io_g : zIn ((vx_atS "CronFinder" 43 "java/lang/IndexOutOfBoundsException" zUp).filter goodWord) = true := by decide +kernel
theorem zx_uo_g : zIn ((vx_atS "CronFinder" 67 "java/lang/UnsupportedOperationException" zUp).filter goodWord) = true := by decide +kernel
