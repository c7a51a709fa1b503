/-! ints and longs by their numbers: iI z, lI z; one-instruction rows over them -/
def iI (z : Int) : Int32 := Int32.ofInt z
def lI (z : Int) : Int64 := Int64.ofInt z
def bI (b : Bool) : Int := if b = true then 1 else 0
theorem iI_self (x : Int32) : iI x.toInt = x := Int32.ofInt_toInt x
theorem lI_self (x : Int64) : lI x.toInt = x := Int64.ofInt_toInt x
theorem iI_rg (x : Int32) : -2147483648 ≤ x.toInt ∧ x.toInt < 2147483648 := ⟨by have := Int32.le_toInt x; omega, by have := Int32.toInt_lt x; omega⟩
theorem lI_rg (x : Int64) : -9223372036854775808 ≤ x.toInt ∧ x.toInt < 9223372036854775808 := ⟨by have := Int64.le_toInt x; omega, by have := Int64.toInt_lt x; omega⟩
theorem iI_t {z : Int} (h : -2147483648 ≤ z ∧ z < 2147483648) : (iI z).toInt = z := Int32.toInt_ofInt_of_le (by omega) (by omega)
theorem lI_t {z : Int} (h : -9223372036854775808 ≤ z ∧ z < 9223372036854775808) : (lI z).toInt = z := Int64.toInt_ofInt_of_le (by omega) (by omega)
theorem iI_lt {a b : Int} (h : -2147483648 ≤ a ∧ a < 2147483648 ∧ -2147483648 ≤ b ∧ b < 2147483648) : iI a < iI b ↔ a < b := by
  rw [Int32.lt_iff_toInt_lt, iI_t ⟨h.1, h.2.1⟩, iI_t h.2.2]
theorem iI_le {a b : Int} (h : -2147483648 ≤ a ∧ a < 2147483648 ∧ -2147483648 ≤ b ∧ b < 2147483648) : iI a ≤ iI b ↔ a ≤ b := by
  rw [Int32.le_iff_toInt_le, iI_t ⟨h.1, h.2.1⟩, iI_t h.2.2]
theorem iI_eq {a b : Int} (h : -2147483648 ≤ a ∧ a < 2147483648 ∧ -2147483648 ≤ b ∧ b < 2147483648) : iI a = iI b ↔ a = b := by
  rw [← Int32.toInt_inj, iI_t ⟨h.1, h.2.1⟩, iI_t h.2.2]
theorem lI_lt {a b : Int} (h : -9223372036854775808 ≤ a ∧ a < 9223372036854775808 ∧ -9223372036854775808 ≤ b ∧ b < 9223372036854775808) : lI a < lI b ↔ a < b := by
  rw [Int64.lt_iff_toInt_lt, lI_t ⟨h.1, h.2.1⟩, lI_t h.2.2]
theorem lI_eq {a b : Int} (h : -9223372036854775808 ≤ a ∧ a < 9223372036854775808 ∧ -9223372036854775808 ≤ b ∧ b < 9223372036854775808) : lI a = lI b ↔ a = b := by
  rw [← Int64.toInt_inj, lI_t ⟨h.1, h.2.1⟩, lI_t h.2.2]
theorem iI_0 : (0 : Int32) = iI 0 := rfl
theorem iI_add (a b : Int) : iI a + iI b = iI (a + b) := (Int32.ofInt_add a b).symm
theorem iI_sub (a b : Int) : iI a - iI b = iI (a - b) := (Int32.ofInt_sub a b).symm
theorem iI_mul (a b : Int) : iI a * iI b = iI (a * b) := (Int32.ofInt_mul a b).symm
theorem iI_neg (a : Int) : - iI a = iI (-a) := (Int32.ofInt_neg a).symm
theorem lI_add (a b : Int) : lI a + lI b = lI (a + b) := (Int64.ofInt_add a b).symm
theorem lI_sub (a b : Int) : lI a - lI b = lI (a - b) := (Int64.ofInt_sub a b).symm
theorem lI_mul (a b : Int) : lI a * lI b = lI (a * b) := (Int64.ofInt_mul a b).symm
theorem iI_min : Int32.minValue.toInt = -2147483648 := by decide
theorem iI_max : Int32.maxValue.toInt = 2147483647 := by decide
theorem lI_min : Int64.minValue.toInt = -9223372036854775808 := by decide
theorem lI_max : Int64.maxValue.toInt = 9223372036854775807 := by decide
theorem iI_div {a b : Int} (h : 0 ≤ a ∧ a < 2147483648 ∧ 0 < b ∧ b < 2147483648) : iI a / iI b = iI (a / b) := by
  have e := Int32.ofInt_tdiv (a := a) (b := b) (by rw [iI_min]; omega) (by rw [iI_max]; omega) (by rw [iI_min]; omega) (by rw [iI_max]; omega)
  rw [Int.tdiv_eq_ediv_of_nonneg h.1] at e
  exact e.symm
theorem iI_rem {a b : Int} (h : 0 ≤ a ∧ a < 2147483648 ∧ 0 < b ∧ b < 2147483648) : iI a - iI a / iI b * iI b = iI (a % b) := by
  rw [iI_div h, iI_mul, iI_sub, Int.emod_def, Int.mul_comm b]
theorem lI_div {a b : Int} (h : 0 ≤ a ∧ a < 9223372036854775808 ∧ 0 < b ∧ b < 9223372036854775808) : lI a / lI b = lI (a / b) := by
  have e := Int64.ofInt_tdiv (a := a) (b := b) (by rw [lI_min]; omega) (by rw [lI_max]; omega) (by rw [lI_min]; omega) (by rw [lI_max]; omega)
  rw [Int.tdiv_eq_ediv_of_nonneg h.1] at e
  exact e.symm
theorem lI_rem {a b : Int} (h : 0 ≤ a ∧ a < 9223372036854775808 ∧ 0 < b ∧ b < 9223372036854775808) : lI a - lI a / lI b * lI b = lI (a % b) := by
  rw [lI_div h, lI_mul, lI_sub, Int.emod_def, Int.mul_comm b]
theorem iI_cl {z : Int} (h : 0 ≤ z ∧ z < 2147483648) : (iI z).toNatClampNeg = z.toNat := Int32.toNatClampNeg_ofInt_of_le (by omega) (by omega)
theorem iI_in {z : Int} {n : Nat} (h : 0 ≤ z ∧ z < (n : Int) ∧ z < 2147483648) : vp_in (iI z) n := vp_in_iff.mpr (by rw [iI_t (by omega)]; omega)
theorem iI_nat (n : Nat) : Int32.ofNat n = iI (n : Int) := Int32.ofInt_eq_ofNat.symm
theorem iI_l {z : Int} (h : -2147483648 ≤ z ∧ z < 2147483648) : (iI z).toInt64 = lI z := Int32.toInt64_ofInt (by rw [iI_min]; omega) (by rw [iI_max]; omega)
theorem lI_i (z : Int) : (lI z).toInt32 = iI z := Int64.toInt32_ofInt
theorem bI_rg (b : Bool) : 0 ≤ bI b ∧ bI b ≤ 1 := by cases b <;> decide
theorem bI_1 {b : Bool} (h : ¬ bI b = 0) : b = true := by cases b <;> simp_all [bI]
theorem bI_0 {b : Bool} (h : bI b = 0) : b = false := by cases b <;> simp_all [bI]
theorem bI_t {b : Bool} (h : b = true) : (1 : Int) = bI b := by rw [h]; rfl
theorem bI_f {b : Bool} (h : b = false) : (0 : Int) = bI b := by rw [h]; rfl
theorem bI_ti {b : Bool} (h : b = true) : iI 1 = iI (bI b) := by rw [h]; rfl
theorem bI_fi {b : Bool} (h : b = false) : iI 0 = iI (bI b) := by rw [h]; rfl
theorem zi_p {a b : Int} (h : a = b) : iI a = iI b := by rw [h]
theorem zl_p {a b : Int} (h : a = b) : lI a = lI b := by rw [h]
/-- arrays by numbers -/
def zaI (f : Nat → Int) : Nat → Int32 := fun j => iI (f j)
def zaB (f : Nat → Bool) : Nat → Int32 := fun j => iI (bI (f j))
def zaL (f : Nat → Int) : Nat → Int64 := fun j => lI (f j)
def zu {α : Type} (f : Nat → α) (k : Nat) (v : α) : Nat → α := fun j => if j = k then v else f j
theorem zu_s {α : Type} (f : Nat → α) (k : Nat) (v : α) : zu f k v k = v := by simp [zu]
theorem zu_n {α : Type} (f : Nat → α) {k j : Nat} (v : α) (h : j ≠ k) : zu f k v j = f j := by simp [zu, h]
theorem zaB_nar (b : Bool) : vp_nar .boolean (iI (bI b)) = iI (bI b) := by cases b <;> decide
theorem zaB_upd (f : Nat → Bool) (k : Nat) (b : Bool) : upd (zaB f) k (vp_nar .boolean (iI (bI b))) = zaB (zu f k b) := by
  rw [zaB_nar]
  funext j
  by_cases h : j = k <;> simp [upd, zaB, zu, h]
theorem zaI_upd (f : Nat → Int) (k : Nat) (z : Int) : upd (zaI f) k (iI z) = zaI (zu f k z) := by
  funext j
  by_cases h : j = k <;> simp [upd, zaI, zu, h]
theorem zaL_upd (f : Nat → Int) (k : Nat) (z : Int) : vp_updL (zaL f) k (lI z) = zaL (zu f k z) := by
  funext j
  by_cases h : j = k <;> simp [vp_updL, zaL, zu, h]
section ZI
variable {p : Program} {l : Launch} {e : Env} {R : Room} {s : State} {m : MethodId} {args : Array Value} {below : List Frame} {meth : Method} {c : Code} {H : Heap} {locs : List Loc} {cells slots : Nat} {Q : State → Prop}
variable {cc : ByteArray} {pc : Nat} {ls : Array Slot} {rest : List Value} {a b : Int}
theorem zi_iconst (hx : p.tables.exec = Jvm.exec) (hb : c.code = cc) {n : Int} (hdg : decode cc pc = .ok (.iconst n, 1))
    (k : W p l e R s m args below meth c H locs cells slots Q (F0 m (pc + 1) ls (.int (iI n) :: rest))) : W p l e R s m args below meth c H locs cells slots Q (F0 m pc ls rest) := lv_iconst hx hb hdg rfl k
theorem zi_bipush (hx : p.tables.exec = Jvm.exec) (hb : c.code = cc) {n : Int} (hdg : decode cc pc = .ok (.bipush n, 2)) (hv : (Int8.ofInt n).toInt32 = iI n)
    (k : W p l e R s m args below meth c H locs cells slots Q (F0 m (pc + 2) ls (.int (iI n) :: rest))) : W p l e R s m args below meth c H locs cells slots Q (F0 m pc ls rest) := lv_bipush hx hb hdg hv k
theorem zi_sipush (hx : p.tables.exec = Jvm.exec) (hb : c.code = cc) {n : Int} (hdg : decode cc pc = .ok (.sipush n, 3)) (hv : (Int16.ofInt n).toInt32 = iI n)
    (k : W p l e R s m args below meth c H locs cells slots Q (F0 m (pc + 3) ls (.int (iI n) :: rest))) : W p l e R s m args below meth c H locs cells slots Q (F0 m pc ls rest) := lv_sipush hx hb hdg hv k
theorem zi_iadd (hx : p.tables.exec = Jvm.exec) (hb : c.code = cc) (hdg : decode cc pc = .ok (.iadd, 1))
    (k : W p l e R s m args below meth c H locs cells slots Q (F0 m (pc + 1) ls (.int (iI (a + b)) :: rest))) : W p l e R s m args below meth c H locs cells slots Q (F0 m pc ls (.int (iI b) :: .int (iI a) :: rest)) := lv_iadd hx hb hdg (by rw [iI_add]; exact k)
theorem zi_isub (hx : p.tables.exec = Jvm.exec) (hb : c.code = cc) (hdg : decode cc pc = .ok (.isub, 1))
    (k : W p l e R s m args below meth c H locs cells slots Q (F0 m (pc + 1) ls (.int (iI (a - b)) :: rest))) : W p l e R s m args below meth c H locs cells slots Q (F0 m pc ls (.int (iI b) :: .int (iI a) :: rest)) := lv_isub hx hb hdg (by rw [iI_sub]; exact k)
theorem zi_imul (hx : p.tables.exec = Jvm.exec) (hb : c.code = cc) (hdg : decode cc pc = .ok (.imul, 1))
    (k : W p l e R s m args below meth c H locs cells slots Q (F0 m (pc + 1) ls (.int (iI (a * b)) :: rest))) : W p l e R s m args below meth c H locs cells slots Q (F0 m pc ls (.int (iI b) :: .int (iI a) :: rest)) := lv_imul hx hb hdg (by rw [iI_mul]; exact k)
theorem zi_idiv (hx : p.tables.exec = Jvm.exec) (hb : c.code = cc) (hdg : decode cc pc = .ok (.idiv, 1)) (h : 0 ≤ a ∧ a < 2147483648 ∧ 0 < b ∧ b < 2147483648)
    (k : W p l e R s m args below meth c H locs cells slots Q (F0 m (pc + 1) ls (.int (iI (a / b)) :: rest))) : W p l e R s m args below meth c H locs cells slots Q (F0 m pc ls (.int (iI b) :: .int (iI a) :: rest)) := lv_idiv hx hb hdg (by rw [iI_0, iI_eq (by omega)]; omega) (by rw [iI_div h]; exact k)
theorem zi_irem (hx : p.tables.exec = Jvm.exec) (hb : c.code = cc) (hdg : decode cc pc = .ok (.irem, 1)) (h : 0 ≤ a ∧ a < 2147483648 ∧ 0 < b ∧ b < 2147483648)
    (k : W p l e R s m args below meth c H locs cells slots Q (F0 m (pc + 1) ls (.int (iI (a % b)) :: rest))) : W p l e R s m args below meth c H locs cells slots Q (F0 m pc ls (.int (iI b) :: .int (iI a) :: rest)) := lv_irem hx hb hdg (by rw [iI_0, iI_eq (by omega)]; omega) (by rw [iI_rem h]; exact k)
theorem zi_i2l (hx : p.tables.exec = Jvm.exec) (hb : c.code = cc) (hdg : decode cc pc = .ok (.i2l, 1)) (h : -2147483648 ≤ a ∧ a < 2147483648)
    (k : W p l e R s m args below meth c H locs cells slots Q (F0 m (pc + 1) ls (.long (lI a) :: rest))) : W p l e R s m args below meth c H locs cells slots Q (F0 m pc ls (.int (iI a) :: rest)) := lv_i2l hx hb hdg (iI_l h) k
theorem zi_l2i (hx : p.tables.exec = Jvm.exec) (hb : c.code = cc) (hdg : decode cc pc = .ok (.l2i, 1))
    (k : W p l e R s m args below meth c H locs cells slots Q (F0 m (pc + 1) ls (.int (iI a) :: rest))) : W p l e R s m args below meth c H locs cells slots Q (F0 m pc ls (.long (lI a) :: rest)) := lv_l2i hx hb hdg (lI_i a) k
theorem zi_ladd (hx : p.tables.exec = Jvm.exec) (hb : c.code = cc) (hdg : decode cc pc = .ok (.ladd, 1))
    (k : W p l e R s m args below meth c H locs cells slots Q (F0 m (pc + 1) ls (.long (lI (a + b)) :: rest))) : W p l e R s m args below meth c H locs cells slots Q (F0 m pc ls (.long (lI b) :: .long (lI a) :: rest)) := lv_ladd hx hb hdg (by rw [lI_add]; exact k)
theorem zi_lsub (hx : p.tables.exec = Jvm.exec) (hb : c.code = cc) (hdg : decode cc pc = .ok (.lsub, 1))
    (k : W p l e R s m args below meth c H locs cells slots Q (F0 m (pc + 1) ls (.long (lI (a - b)) :: rest))) : W p l e R s m args below meth c H locs cells slots Q (F0 m pc ls (.long (lI b) :: .long (lI a) :: rest)) := lv_lsub hx hb hdg (by rw [lI_sub]; exact k)
theorem zi_lmul (hx : p.tables.exec = Jvm.exec) (hb : c.code = cc) (hdg : decode cc pc = .ok (.lmul, 1))
    (k : W p l e R s m args below meth c H locs cells slots Q (F0 m (pc + 1) ls (.long (lI (a * b)) :: rest))) : W p l e R s m args below meth c H locs cells slots Q (F0 m pc ls (.long (lI b) :: .long (lI a) :: rest)) := lv_lmul hx hb hdg (by rw [lI_mul]; exact k)
theorem zi_ldiv (hx : p.tables.exec = Jvm.exec) (hb : c.code = cc) (hdg : decode cc pc = .ok (.ldiv, 1)) (h : 0 ≤ a ∧ a < 9223372036854775808 ∧ 0 < b ∧ b < 9223372036854775808)
    (k : W p l e R s m args below meth c H locs cells slots Q (F0 m (pc + 1) ls (.long (lI (a / b)) :: rest))) : W p l e R s m args below meth c H locs cells slots Q (F0 m pc ls (.long (lI b) :: .long (lI a) :: rest)) := lv_ldiv hx hb hdg (by rw [show (0 : Int64) = lI 0 from rfl, lI_eq (by omega)]; omega) (by rw [lI_div h]; exact k)
theorem zi_lrem (hx : p.tables.exec = Jvm.exec) (hb : c.code = cc) (hdg : decode cc pc = .ok (.lrem, 1)) (h : 0 ≤ a ∧ a < 9223372036854775808 ∧ 0 < b ∧ b < 9223372036854775808)
    (k : W p l e R s m args below meth c H locs cells slots Q (F0 m (pc + 1) ls (.long (lI (a % b)) :: rest))) : W p l e R s m args below meth c H locs cells slots Q (F0 m pc ls (.long (lI b) :: .long (lI a) :: rest)) := lv_lrem hx hb hdg (by rw [show (0 : Int64) = lI 0 from rfl, lI_eq (by omega)]; omega) (by rw [lI_rem h]; exact k)
theorem zi_icmp_eq (hx : p.tables.exec = Jvm.exec) (hb : c.code = cc) {off : Int} {tgt : Nat} (hdg : decode cc pc = .ok (.if_icmp .eq off, 3)) (ht : (pc : Int) + off = (tgt : Int)) (h : -2147483648 ≤ a ∧ a < 2147483648 ∧ -2147483648 ≤ b ∧ b < 2147483648)
    (kt : a = b → W p l e R s m args below meth c H locs cells slots Q (F0 m tgt ls rest)) (kf : ¬ a = b → W p l e R s m args below meth c H locs cells slots Q (F0 m (pc + 3) ls rest)) : W p l e R s m args below meth c H locs cells slots Q (F0 m pc ls (.int (iI b) :: .int (iI a) :: rest)) :=
  lv_icmp_eq hx hb hdg ht (fun q => kt (by first | exact (iI_eq (by omega)).mp q | exact (iI_lt (by omega)).mp q | exact (iI_le (by omega)).mp q | (rw [iI_eq (by omega)] at q; exact q))) (fun q => kf (by first | (rw [iI_eq (by omega)] at q; omega) | (rw [iI_lt (by omega)] at q; omega) | (rw [iI_le (by omega)] at q; omega)))
theorem zi_icmp_ne (hx : p.tables.exec = Jvm.exec) (hb : c.code = cc) {off : Int} {tgt : Nat} (hdg : decode cc pc = .ok (.if_icmp .ne off, 3)) (ht : (pc : Int) + off = (tgt : Int)) (h : -2147483648 ≤ a ∧ a < 2147483648 ∧ -2147483648 ≤ b ∧ b < 2147483648)
    (kt : ¬ a = b → W p l e R s m args below meth c H locs cells slots Q (F0 m tgt ls rest)) (kf : a = b → W p l e R s m args below meth c H locs cells slots Q (F0 m (pc + 3) ls rest)) : W p l e R s m args below meth c H locs cells slots Q (F0 m pc ls (.int (iI b) :: .int (iI a) :: rest)) :=
  lv_icmp_ne hx hb hdg ht (fun q => kt (by first | exact (iI_eq (by omega)).mp q | exact (iI_lt (by omega)).mp q | exact (iI_le (by omega)).mp q | (rw [iI_eq (by omega)] at q; exact q))) (fun q => kf (by first | (rw [iI_eq (by omega)] at q; omega) | (rw [iI_lt (by omega)] at q; omega) | (rw [iI_le (by omega)] at q; omega)))
theorem zi_icmp_lt (hx : p.tables.exec = Jvm.exec) (hb : c.code = cc) {off : Int} {tgt : Nat} (hdg : decode cc pc = .ok (.if_icmp .lt off, 3)) (ht : (pc : Int) + off = (tgt : Int)) (h : -2147483648 ≤ a ∧ a < 2147483648 ∧ -2147483648 ≤ b ∧ b < 2147483648)
    (kt : a < b → W p l e R s m args below meth c H locs cells slots Q (F0 m tgt ls rest)) (kf : b ≤ a → W p l e R s m args below meth c H locs cells slots Q (F0 m (pc + 3) ls rest)) : W p l e R s m args below meth c H locs cells slots Q (F0 m pc ls (.int (iI b) :: .int (iI a) :: rest)) :=
  lv_icmp_lt hx hb hdg ht (fun q => kt (by first | exact (iI_eq (by omega)).mp q | exact (iI_lt (by omega)).mp q | exact (iI_le (by omega)).mp q | (rw [iI_eq (by omega)] at q; exact q))) (fun q => kf (by first | (rw [iI_eq (by omega)] at q; omega) | (rw [iI_lt (by omega)] at q; omega) | (rw [iI_le (by omega)] at q; omega)))
theorem zi_icmp_ge (hx : p.tables.exec = Jvm.exec) (hb : c.code = cc) {off : Int} {tgt : Nat} (hdg : decode cc pc = .ok (.if_icmp .ge off, 3)) (ht : (pc : Int) + off = (tgt : Int)) (h : -2147483648 ≤ a ∧ a < 2147483648 ∧ -2147483648 ≤ b ∧ b < 2147483648)
    (kt : b ≤ a → W p l e R s m args below meth c H locs cells slots Q (F0 m tgt ls rest)) (kf : a < b → W p l e R s m args below meth c H locs cells slots Q (F0 m (pc + 3) ls rest)) : W p l e R s m args below meth c H locs cells slots Q (F0 m pc ls (.int (iI b) :: .int (iI a) :: rest)) :=
  lv_icmp_ge hx hb hdg ht (fun q => kt (by first | exact (iI_eq (by omega)).mp q | exact (iI_lt (by omega)).mp q | exact (iI_le (by omega)).mp q | (rw [iI_eq (by omega)] at q; exact q))) (fun q => kf (by first | (rw [iI_eq (by omega)] at q; omega) | (rw [iI_lt (by omega)] at q; omega) | (rw [iI_le (by omega)] at q; omega)))
theorem zi_icmp_gt (hx : p.tables.exec = Jvm.exec) (hb : c.code = cc) {off : Int} {tgt : Nat} (hdg : decode cc pc = .ok (.if_icmp .gt off, 3)) (ht : (pc : Int) + off = (tgt : Int)) (h : -2147483648 ≤ a ∧ a < 2147483648 ∧ -2147483648 ≤ b ∧ b < 2147483648)
    (kt : b < a → W p l e R s m args below meth c H locs cells slots Q (F0 m tgt ls rest)) (kf : a ≤ b → W p l e R s m args below meth c H locs cells slots Q (F0 m (pc + 3) ls rest)) : W p l e R s m args below meth c H locs cells slots Q (F0 m pc ls (.int (iI b) :: .int (iI a) :: rest)) :=
  lv_icmp_gt hx hb hdg ht (fun q => kt (by first | exact (iI_eq (by omega)).mp q | exact (iI_lt (by omega)).mp q | exact (iI_le (by omega)).mp q | (rw [iI_eq (by omega)] at q; exact q))) (fun q => kf (by first | (rw [iI_eq (by omega)] at q; omega) | (rw [iI_lt (by omega)] at q; omega) | (rw [iI_le (by omega)] at q; omega)))
theorem zi_icmp_le (hx : p.tables.exec = Jvm.exec) (hb : c.code = cc) {off : Int} {tgt : Nat} (hdg : decode cc pc = .ok (.if_icmp .le off, 3)) (ht : (pc : Int) + off = (tgt : Int)) (h : -2147483648 ≤ a ∧ a < 2147483648 ∧ -2147483648 ≤ b ∧ b < 2147483648)
    (kt : a ≤ b → W p l e R s m args below meth c H locs cells slots Q (F0 m tgt ls rest)) (kf : b < a → W p l e R s m args below meth c H locs cells slots Q (F0 m (pc + 3) ls rest)) : W p l e R s m args below meth c H locs cells slots Q (F0 m pc ls (.int (iI b) :: .int (iI a) :: rest)) :=
  lv_icmp_le hx hb hdg ht (fun q => kt (by first | exact (iI_eq (by omega)).mp q | exact (iI_lt (by omega)).mp q | exact (iI_le (by omega)).mp q | (rw [iI_eq (by omega)] at q; exact q))) (fun q => kf (by first | (rw [iI_eq (by omega)] at q; omega) | (rw [iI_lt (by omega)] at q; omega) | (rw [iI_le (by omega)] at q; omega)))
theorem zi_if_eq (hx : p.tables.exec = Jvm.exec) (hb : c.code = cc) {off : Int} {tgt : Nat} (hdg : decode cc pc = .ok (.ifCond .eq off, 3)) (ht : (pc : Int) + off = (tgt : Int)) (h : -2147483648 ≤ a ∧ a < 2147483648)
    (kt : a = 0 → W p l e R s m args below meth c H locs cells slots Q (F0 m tgt ls rest)) (kf : ¬ a = 0 → W p l e R s m args below meth c H locs cells slots Q (F0 m (pc + 3) ls rest)) : W p l e R s m args below meth c H locs cells slots Q (F0 m pc ls (.int (iI a) :: rest)) :=
  lv_if_eq hx hb hdg ht (fun q => kt (by rw [iI_0] at q; first | exact (iI_eq (by omega)).mp q | exact (iI_lt (by omega)).mp q | exact (iI_le (by omega)).mp q | (rw [iI_eq (by omega)] at q; exact q))) (fun q => kf (by rw [iI_0] at q; first | (rw [iI_eq (by omega)] at q; omega) | (rw [iI_lt (by omega)] at q; omega) | (rw [iI_le (by omega)] at q; omega)))
theorem zi_if_ne (hx : p.tables.exec = Jvm.exec) (hb : c.code = cc) {off : Int} {tgt : Nat} (hdg : decode cc pc = .ok (.ifCond .ne off, 3)) (ht : (pc : Int) + off = (tgt : Int)) (h : -2147483648 ≤ a ∧ a < 2147483648)
    (kt : ¬ a = 0 → W p l e R s m args below meth c H locs cells slots Q (F0 m tgt ls rest)) (kf : a = 0 → W p l e R s m args below meth c H locs cells slots Q (F0 m (pc + 3) ls rest)) : W p l e R s m args below meth c H locs cells slots Q (F0 m pc ls (.int (iI a) :: rest)) :=
  lv_if_ne hx hb hdg ht (fun q => kt (by rw [iI_0] at q; first | exact (iI_eq (by omega)).mp q | exact (iI_lt (by omega)).mp q | exact (iI_le (by omega)).mp q | (rw [iI_eq (by omega)] at q; exact q))) (fun q => kf (by rw [iI_0] at q; first | (rw [iI_eq (by omega)] at q; omega) | (rw [iI_lt (by omega)] at q; omega) | (rw [iI_le (by omega)] at q; omega)))
theorem zi_if_lt (hx : p.tables.exec = Jvm.exec) (hb : c.code = cc) {off : Int} {tgt : Nat} (hdg : decode cc pc = .ok (.ifCond .lt off, 3)) (ht : (pc : Int) + off = (tgt : Int)) (h : -2147483648 ≤ a ∧ a < 2147483648)
    (kt : a < 0 → W p l e R s m args below meth c H locs cells slots Q (F0 m tgt ls rest)) (kf : 0 ≤ a → W p l e R s m args below meth c H locs cells slots Q (F0 m (pc + 3) ls rest)) : W p l e R s m args below meth c H locs cells slots Q (F0 m pc ls (.int (iI a) :: rest)) :=
  lv_if_lt hx hb hdg ht (fun q => kt (by rw [iI_0] at q; first | exact (iI_eq (by omega)).mp q | exact (iI_lt (by omega)).mp q | exact (iI_le (by omega)).mp q | (rw [iI_eq (by omega)] at q; exact q))) (fun q => kf (by rw [iI_0] at q; first | (rw [iI_eq (by omega)] at q; omega) | (rw [iI_lt (by omega)] at q; omega) | (rw [iI_le (by omega)] at q; omega)))
theorem zi_if_ge (hx : p.tables.exec = Jvm.exec) (hb : c.code = cc) {off : Int} {tgt : Nat} (hdg : decode cc pc = .ok (.ifCond .ge off, 3)) (ht : (pc : Int) + off = (tgt : Int)) (h : -2147483648 ≤ a ∧ a < 2147483648)
    (kt : 0 ≤ a → W p l e R s m args below meth c H locs cells slots Q (F0 m tgt ls rest)) (kf : a < 0 → W p l e R s m args below meth c H locs cells slots Q (F0 m (pc + 3) ls rest)) : W p l e R s m args below meth c H locs cells slots Q (F0 m pc ls (.int (iI a) :: rest)) :=
  lv_if_ge hx hb hdg ht (fun q => kt (by rw [iI_0] at q; first | exact (iI_eq (by omega)).mp q | exact (iI_lt (by omega)).mp q | exact (iI_le (by omega)).mp q | (rw [iI_eq (by omega)] at q; exact q))) (fun q => kf (by rw [iI_0] at q; first | (rw [iI_eq (by omega)] at q; omega) | (rw [iI_lt (by omega)] at q; omega) | (rw [iI_le (by omega)] at q; omega)))
theorem zi_if_gt (hx : p.tables.exec = Jvm.exec) (hb : c.code = cc) {off : Int} {tgt : Nat} (hdg : decode cc pc = .ok (.ifCond .gt off, 3)) (ht : (pc : Int) + off = (tgt : Int)) (h : -2147483648 ≤ a ∧ a < 2147483648)
    (kt : 0 < a → W p l e R s m args below meth c H locs cells slots Q (F0 m tgt ls rest)) (kf : a ≤ 0 → W p l e R s m args below meth c H locs cells slots Q (F0 m (pc + 3) ls rest)) : W p l e R s m args below meth c H locs cells slots Q (F0 m pc ls (.int (iI a) :: rest)) :=
  lv_if_gt hx hb hdg ht (fun q => kt (by rw [iI_0] at q; first | exact (iI_eq (by omega)).mp q | exact (iI_lt (by omega)).mp q | exact (iI_le (by omega)).mp q | (rw [iI_eq (by omega)] at q; exact q))) (fun q => kf (by rw [iI_0] at q; first | (rw [iI_eq (by omega)] at q; omega) | (rw [iI_lt (by omega)] at q; omega) | (rw [iI_le (by omega)] at q; omega)))
theorem zi_if_le (hx : p.tables.exec = Jvm.exec) (hb : c.code = cc) {off : Int} {tgt : Nat} (hdg : decode cc pc = .ok (.ifCond .le off, 3)) (ht : (pc : Int) + off = (tgt : Int)) (h : -2147483648 ≤ a ∧ a < 2147483648)
    (kt : a ≤ 0 → W p l e R s m args below meth c H locs cells slots Q (F0 m tgt ls rest)) (kf : 0 < a → W p l e R s m args below meth c H locs cells slots Q (F0 m (pc + 3) ls rest)) : W p l e R s m args below meth c H locs cells slots Q (F0 m pc ls (.int (iI a) :: rest)) :=
  lv_if_le hx hb hdg ht (fun q => kt (by rw [iI_0] at q; first | exact (iI_eq (by omega)).mp q | exact (iI_lt (by omega)).mp q | exact (iI_le (by omega)).mp q | (rw [iI_eq (by omega)] at q; exact q))) (fun q => kf (by rw [iI_0] at q; first | (rw [iI_eq (by omega)] at q; omega) | (rw [iI_lt (by omega)] at q; omega) | (rw [iI_le (by omega)] at q; omega)))
theorem zb_if_eq (hx : p.tables.exec = Jvm.exec) (hb : c.code = cc) {x : Bool} {off : Int} {tgt : Nat} (hdg : decode cc pc = .ok (.ifCond .eq off, 3)) (ht : (pc : Int) + off = (tgt : Int))
    (kt : x = false → W p l e R s m args below meth c H locs cells slots Q (F0 m tgt ls rest)) (kf : x = true → W p l e R s m args below meth c H locs cells slots Q (F0 m (pc + 3) ls rest)) : W p l e R s m args below meth c H locs cells slots Q (F0 m pc ls (.int (iI (bI x)) :: rest)) :=
  zi_if_eq hx hb hdg ht (by have := bI_rg x; omega) (fun q => kt (bI_0 q)) (fun q => kf (bI_1 q))
theorem zb_if_ne (hx : p.tables.exec = Jvm.exec) (hb : c.code = cc) {x : Bool} {off : Int} {tgt : Nat} (hdg : decode cc pc = .ok (.ifCond .ne off, 3)) (ht : (pc : Int) + off = (tgt : Int))
    (kt : x = true → W p l e R s m args below meth c H locs cells slots Q (F0 m tgt ls rest)) (kf : x = false → W p l e R s m args below meth c H locs cells slots Q (F0 m (pc + 3) ls rest)) : W p l e R s m args below meth c H locs cells slots Q (F0 m pc ls (.int (iI (bI x)) :: rest)) :=
  zi_if_ne hx hb hdg ht (by have := bI_rg x; omega) (fun q => kt (bI_1 q)) (fun q => kf (bI_0 q))
theorem zi_as (b : Int) (h : a = b) (k : W p l e R s m args below meth c H locs cells slots Q (F0 m pc ls (.int (iI b) :: rest))) : W p l e R s m args below meth c H locs cells slots Q (F0 m pc ls (.int (iI a) :: rest)) := by rw [h]; exact k
theorem zl_as (b : Int) (h : a = b) (k : W p l e R s m args below meth c H locs cells slots Q (F0 m pc ls (.long (lI b) :: rest))) : W p l e R s m args below meth c H locs cells slots Q (F0 m pc ls (.long (lI a) :: rest)) := by rw [h]; exact k
theorem zi_asx (x : Int32) (b : Int) (h : x = iI b) (k : W p l e R s m args below meth c H locs cells slots Q (F0 m pc ls (.int (iI b) :: rest))) : W p l e R s m args below meth c H locs cells slots Q (F0 m pc ls (.int x :: rest)) := by rw [h]; exact k
theorem zc_cmp (h : -9223372036854775808 ≤ a ∧ a < 9223372036854775808 ∧ -9223372036854775808 ≤ b ∧ b < 9223372036854775808) : lg_cmp (lI a) (lI b) = iI (if b < a then 1 else if a = b then 0 else -1) := by
  unfold lg_cmp
  by_cases h1 : b < a
  · rw [if_pos ((lI_lt (by omega)).mpr h1), if_pos h1]; rfl
  · rw [if_neg (fun q => h1 ((lI_lt (by omega)).mp q)), if_neg h1]
    by_cases h2 : a = b
    · rw [if_pos (by rw [h2]), if_pos h2]; rfl
    · rw [if_neg (fun q => h2 ((lI_eq (by omega)).mp q)), if_neg h2]; rfl
theorem zc_3 (a b : Int) : ∃ z : Int, (if b < a then (1 : Int) else if a = b then 0 else -1) = z ∧ ((b < a ∧ z = 1) ∨ (a = b ∧ z = 0) ∨ (a < b ∧ z = -1)) := by
  by_cases h1 : b < a
  · exact ⟨1, by rw [if_pos h1], Or.inl ⟨h1, rfl⟩⟩
  · by_cases h2 : a = b
    · exact ⟨0, by rw [if_neg h1, if_pos h2], Or.inr (Or.inl ⟨h2, rfl⟩)⟩
    · exact ⟨-1, by rw [if_neg h1, if_neg h2], Or.inr (Or.inr ⟨by omega, rfl⟩)⟩
theorem zl_cmp_eq (hx : p.tables.exec = Jvm.exec) (hb : c.code = cc) {off : Int} {tgt : Nat} (hd1 : decode cc pc = .ok (.lcmp, 1)) (hdg : decode cc (pc + 1) = .ok (.ifCond .eq off, 3)) (ht : ((pc + 1 : Nat) : Int) + off = (tgt : Int)) (h : -9223372036854775808 ≤ a ∧ a < 9223372036854775808 ∧ -9223372036854775808 ≤ b ∧ b < 9223372036854775808)
    (kt : a = b → W p l e R s m args below meth c H locs cells slots Q (F0 m tgt ls rest)) (kf : ¬ a = b → W p l e R s m args below meth c H locs cells slots Q (F0 m (pc + 4) ls rest)) : W p l e R s m args below meth c H locs cells slots Q (F0 m pc ls (.long (lI b) :: .long (lI a) :: rest)) := by
  refine W.lcmp hx hb hd1 ?_
  obtain ⟨z, e1, e2⟩ := zc_3 a b
  rw [zc_cmp h, e1]
  exact zi_if_eq hx hb hdg ht (by omega) (fun q => kt (by omega)) (fun q => kf (by omega))
theorem zl_cmp_ne (hx : p.tables.exec = Jvm.exec) (hb : c.code = cc) {off : Int} {tgt : Nat} (hd1 : decode cc pc = .ok (.lcmp, 1)) (hdg : decode cc (pc + 1) = .ok (.ifCond .ne off, 3)) (ht : ((pc + 1 : Nat) : Int) + off = (tgt : Int)) (h : -9223372036854775808 ≤ a ∧ a < 9223372036854775808 ∧ -9223372036854775808 ≤ b ∧ b < 9223372036854775808)
    (kt : ¬ a = b → W p l e R s m args below meth c H locs cells slots Q (F0 m tgt ls rest)) (kf : a = b → W p l e R s m args below meth c H locs cells slots Q (F0 m (pc + 4) ls rest)) : W p l e R s m args below meth c H locs cells slots Q (F0 m pc ls (.long (lI b) :: .long (lI a) :: rest)) := by
  refine W.lcmp hx hb hd1 ?_
  obtain ⟨z, e1, e2⟩ := zc_3 a b
  rw [zc_cmp h, e1]
  exact zi_if_ne hx hb hdg ht (by omega) (fun q => kt (by omega)) (fun q => kf (by omega))
theorem zl_cmp_lt (hx : p.tables.exec = Jvm.exec) (hb : c.code = cc) {off : Int} {tgt : Nat} (hd1 : decode cc pc = .ok (.lcmp, 1)) (hdg : decode cc (pc + 1) = .ok (.ifCond .lt off, 3)) (ht : ((pc + 1 : Nat) : Int) + off = (tgt : Int)) (h : -9223372036854775808 ≤ a ∧ a < 9223372036854775808 ∧ -9223372036854775808 ≤ b ∧ b < 9223372036854775808)
    (kt : a < b → W p l e R s m args below meth c H locs cells slots Q (F0 m tgt ls rest)) (kf : b ≤ a → W p l e R s m args below meth c H locs cells slots Q (F0 m (pc + 4) ls rest)) : W p l e R s m args below meth c H locs cells slots Q (F0 m pc ls (.long (lI b) :: .long (lI a) :: rest)) := by
  refine W.lcmp hx hb hd1 ?_
  obtain ⟨z, e1, e2⟩ := zc_3 a b
  rw [zc_cmp h, e1]
  exact zi_if_lt hx hb hdg ht (by omega) (fun q => kt (by omega)) (fun q => kf (by omega))
theorem zl_cmp_ge (hx : p.tables.exec = Jvm.exec) (hb : c.code = cc) {off : Int} {tgt : Nat} (hd1 : decode cc pc = .ok (.lcmp, 1)) (hdg : decode cc (pc + 1) = .ok (.ifCond .ge off, 3)) (ht : ((pc + 1 : Nat) : Int) + off = (tgt : Int)) (h : -9223372036854775808 ≤ a ∧ a < 9223372036854775808 ∧ -9223372036854775808 ≤ b ∧ b < 9223372036854775808)
    (kt : b ≤ a → W p l e R s m args below meth c H locs cells slots Q (F0 m tgt ls rest)) (kf : a < b → W p l e R s m args below meth c H locs cells slots Q (F0 m (pc + 4) ls rest)) : W p l e R s m args below meth c H locs cells slots Q (F0 m pc ls (.long (lI b) :: .long (lI a) :: rest)) := by
  refine W.lcmp hx hb hd1 ?_
  obtain ⟨z, e1, e2⟩ := zc_3 a b
  rw [zc_cmp h, e1]
  exact zi_if_ge hx hb hdg ht (by omega) (fun q => kt (by omega)) (fun q => kf (by omega))
theorem zl_cmp_gt (hx : p.tables.exec = Jvm.exec) (hb : c.code = cc) {off : Int} {tgt : Nat} (hd1 : decode cc pc = .ok (.lcmp, 1)) (hdg : decode cc (pc + 1) = .ok (.ifCond .gt off, 3)) (ht : ((pc + 1 : Nat) : Int) + off = (tgt : Int)) (h : -9223372036854775808 ≤ a ∧ a < 9223372036854775808 ∧ -9223372036854775808 ≤ b ∧ b < 9223372036854775808)
    (kt : b < a → W p l e R s m args below meth c H locs cells slots Q (F0 m tgt ls rest)) (kf : a ≤ b → W p l e R s m args below meth c H locs cells slots Q (F0 m (pc + 4) ls rest)) : W p l e R s m args below meth c H locs cells slots Q (F0 m pc ls (.long (lI b) :: .long (lI a) :: rest)) := by
  refine W.lcmp hx hb hd1 ?_
  obtain ⟨z, e1, e2⟩ := zc_3 a b
  rw [zc_cmp h, e1]
  exact zi_if_gt hx hb hdg ht (by omega) (fun q => kt (by omega)) (fun q => kf (by omega))
theorem zl_cmp_le (hx : p.tables.exec = Jvm.exec) (hb : c.code = cc) {off : Int} {tgt : Nat} (hd1 : decode cc pc = .ok (.lcmp, 1)) (hdg : decode cc (pc + 1) = .ok (.ifCond .le off, 3)) (ht : ((pc + 1 : Nat) : Int) + off = (tgt : Int)) (h : -9223372036854775808 ≤ a ∧ a < 9223372036854775808 ∧ -9223372036854775808 ≤ b ∧ b < 9223372036854775808)
    (kt : a ≤ b → W p l e R s m args below meth c H locs cells slots Q (F0 m tgt ls rest)) (kf : b < a → W p l e R s m args below meth c H locs cells slots Q (F0 m (pc + 4) ls rest)) : W p l e R s m args below meth c H locs cells slots Q (F0 m pc ls (.long (lI b) :: .long (lI a) :: rest)) := by
  refine W.lcmp hx hb hd1 ?_
  obtain ⟨z, e1, e2⟩ := zc_3 a b
  rw [zc_cmp h, e1]
  exact zi_if_le hx hb hdg ht (by omega) (fun q => kt (by omega)) (fun q => kf (by omega))
end ZI
