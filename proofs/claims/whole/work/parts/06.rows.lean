/-! arrays by numbers; further rows -/
theorem zn_char {z : Int} (h : 0 ≤ z ∧ z < 65536) : vp_nar .char (iI z) = iI z := by
  have e : iI z = nI z.toNat := by rw [show nI z.toNat = iI (z.toNat : Int) from iI_nat _, Int.toNat_of_nonneg h.1]
  unfold vp_nar
  rw [e, (pk_charN (by omega)).1]
theorem zaB_nn (x : Bool) : narrow .boolean (.int (iI (bI x))) = .int (iI (bI x)) := by cases x <;> decide
theorem zaB_ff (x : Bool) : fits .boolean (.int (iI (bI x))) = true := by cases x <;> decide
theorem zaB_gt (x : Bool) (k : Bool) (h : x = k) : iI (bI x) = iI (bI k) := by rw [h]
theorem zt_rem {a b : Int} (h : -2147483648 ≤ a ∧ a < 2147483648 ∧ 0 < b ∧ b < 2147483648) : iI a - iI a / iI b * iI b = iI (a.tmod b) := by
  have e := Int32.ofInt_tdiv (a := a) (b := b) (by rw [iI_min]; omega) (by rw [iI_max]; omega) (by rw [iI_min]; omega) (by rw [iI_max]; omega)
  have e2 : iI a / iI b = iI (a.tdiv b) := e.symm
  rw [e2, iI_mul, iI_sub, Int.tmod_def, Int.mul_comm b]
theorem zt_div {a b : Int} (h : -2147483648 ≤ a ∧ a < 2147483648 ∧ 0 < b ∧ b < 2147483648) : iI a / iI b = iI (a.tdiv b) :=
  (Int32.ofInt_tdiv (a := a) (b := b) (by rw [iI_min]; omega) (by rw [iI_max]; omega) (by rw [iI_min]; omega) (by rw [iI_max]; omega)).symm
theorem zt_neg (x : Int32) : x < 0 ↔ x.toBitVec.msb = true := by
  rw [Int32.lt_iff_toInt_lt, BitVec.msb_eq_toInt, decide_eq_true_iff, show (0 : Int32).toInt = 0 from by decide]
  exact Iff.rfl
theorem zt_xor {a b : Int} (h : -2147483648 ≤ a ∧ a < 2147483648 ∧ 0 < b ∧ b < 2147483648) : (iI a ^^^ iI b) < 0 ↔ a < 0 := by
  have h1 : iI a < 0 ↔ a < 0 := by rw [iI_0, iI_lt (by omega)]
  have h2 : ¬ iI b < 0 := by rw [iI_0, iI_lt (by omega)]; omega
  rw [zt_neg] at h1 h2 ⊢
  rw [← h1, Int32.toBitVec_xor, BitVec.msb_xor]
  cases hm : (iI b).toBitVec.msb
  · simp
  · exact absurd hm h2
theorem zt_fm {a b : Int} (hb : 0 < b) : (a.tmod b = 0 → a % b = 0) ∧ (0 ≤ a → a.tmod b = a % b) ∧ (a < 0 → ¬ a.tmod b = 0 → a.tmod b + b = a % b) ∧ -b < a.tmod b ∧ a.tmod b < b := by
  have e := Int.tmod_eq_emod (a := a) (b := b)
  have h1 := Int.emod_nonneg a (show b ≠ 0 by omega)
  have h2 := Int.emod_lt_of_pos a hb
  by_cases h : 0 ≤ a ∨ b ∣ a
  · rw [if_pos h] at e
    refine ⟨by omega, by omega, fun h3 h4 => ?_, by omega, by omega⟩
    rcases h with h | h
    · omega
    · exact absurd (Int.tmod_eq_zero_of_dvd h) h4
  · rw [if_neg h] at e
    have h3 : ¬ 0 ≤ a := fun q => h (Or.inl q)
    have h4 : ¬ a % b = 0 := fun q => h (Or.inr (Int.dvd_of_emod_eq_zero q))
    refine ⟨by omega, by omega, by omega, by omega, by omega⟩
section ZA
variable {p : Program} {l : Launch} {e : Env} {R : Room} {s : State} {m : MethodId} {args : Array Value} {below : List Frame} {meth : Method} {c : Code} {H : Heap} {locs : List Loc} {cells slots : Nat} {Q : State → Prop}
variable {cc : ByteArray} {pc : Nat} {ls : Array Slot} {rest : List Value} {D : va_G} {cl : List vw_C} {A : Nat → Prop} {a : Nat} {tys : List (ClassId × FieldType)} {ws : va_W} {H0 : Heap} {cA : ClassId} {n : Nat} {z : Int}
theorem zl_asx (x : Int64) (b : Int) (h : x = lI b) (k : W p l e R s m args below meth c H locs cells slots Q (F0 m pc ls (.long (lI b) :: rest))) : W p l e R s m args below meth c H locs cells slots Q (F0 m pc ls (.long x :: rest)) := by rw [h]; exact k
theorem zb_as {x : Bool} (h : z = bI x) (k : W p l e R s m args below meth c H locs cells slots Q (F0 m pc ls (.int (iI (bI x)) :: rest))) : W p l e R s m args below meth c H locs cells slots Q (F0 m pc ls (.int (iI z) :: rest)) := by rw [h]; exact k
theorem zb_eq {x : Bool} (k : Bool) (h : x = k) (kk : W p l e R s m args below meth c H locs cells slots Q (F0 m pc ls (.int (iI (bI k)) :: rest))) : W p l e R s m args below meth c H locs cells slots Q (F0 m pc ls (.int (iI (bI x)) :: rest)) := by rw [h]; exact kk
theorem zi_lconst (hx : p.tables.exec = Jvm.exec) (hb : c.code = cc) {k : Fin 2} (hdg : decode cc pc = .ok (.lconst k, 1)) (hv : Int64.ofNat (k : Nat) = lI z) (kk : W p l e R s m args below meth c H locs cells slots Q (F0 m (pc + 1) ls (.long (lI z) :: rest))) : W p l e R s m args below meth c H locs cells slots Q (F0 m pc ls rest) := lv_lconst hx hb hdg hv kk
theorem zi_iremT {a b : Int} (hx : p.tables.exec = Jvm.exec) (hb : c.code = cc) (hdg : decode cc pc = .ok (.irem, 1)) (h : -2147483648 ≤ a ∧ a < 2147483648 ∧ 0 < b ∧ b < 2147483648) (k : W p l e R s m args below meth c H locs cells slots Q (F0 m (pc + 1) ls (.int (iI (a.tmod b)) :: rest))) : W p l e R s m args below meth c H locs cells slots Q (F0 m pc ls (.int (iI b) :: .int (iI a) :: rest)) := lv_irem hx hb hdg (by rw [iI_0, iI_eq (by omega)]; omega) (by rw [zt_rem h]; exact k)
theorem zi_idivT {a b : Int} (hx : p.tables.exec = Jvm.exec) (hb : c.code = cc) (hdg : decode cc pc = .ok (.idiv, 1)) (h : -2147483648 ≤ a ∧ a < 2147483648 ∧ 0 < b ∧ b < 2147483648) (k : W p l e R s m args below meth c H locs cells slots Q (F0 m (pc + 1) ls (.int (iI (a.tdiv b)) :: rest))) : W p l e R s m args below meth c H locs cells slots Q (F0 m pc ls (.int (iI b) :: .int (iI a) :: rest)) := lv_idiv hx hb hdg (by rw [iI_0, iI_eq (by omega)]; omega) (by rw [zt_div h]; exact k)
theorem zi_xorge {a b : Int} {off : Int} {tgt : Nat} (hx : p.tables.exec = Jvm.exec) (hb : c.code = cc) (h : -2147483648 ≤ a ∧ a < 2147483648 ∧ 0 < b ∧ b < 2147483648) (hd1 : decode cc pc = .ok (.ixor, 1)) (hdg : decode cc (pc + 1) = .ok (.ifCond .ge off, 3)) (ht : ((pc + 1 : Nat) : Int) + off = (tgt : Int))
    (kt : 0 ≤ a → W p l e R s m args below meth c H locs cells slots Q (F0 m tgt ls rest)) (kf : a < 0 → W p l e R s m args below meth c H locs cells slots Q (F0 m (pc + 4) ls rest)) : W p l e R s m args below meth c H locs cells slots Q (F0 m pc ls (.int (iI b) :: .int (iI a) :: rest)) := by
  refine lv_ixor hx hb hd1 ?_
  refine lv_if_ge hx hb hdg ht (fun q => kt ?_) (fun q => kf ?_)
  · have : ¬ (iI a ^^^ iI b) < 0 := by rw [Int32.lt_iff_toInt_lt]; rw [Int32.le_iff_toInt_le] at q; omega
    rw [zt_xor h] at this; omega
  · have : (iI a ^^^ iI b) < 0 := by rw [Int32.lt_iff_toInt_lt]; rw [Int32.le_iff_toInt_le] at q; omega
    exact (zt_xor h).mp this
theorem zi_iald {f : Nat → Int} (hx : p.tables.exec = Jvm.exec) (hb : c.code = cc) (hK : va_K D cl tys s) (hP : va_P D cl ws H) (q0 t0 : Nat) (ha : ws[q0]? = some (a, .inl (cA, n, .inl (zaI f)))) (ht : tys[t0]? = some (cA, .int)) (h : 0 ≤ z ∧ z < (n : Int) ∧ z < 2147483648) (hdg : decode cc pc = .ok (.iaload, 1))
    (kk : W p l e R s m args below meth c H locs cells slots Q (F0 m (pc + 1) ls (.int (iI (f z.toNat)) :: rest))) : W p l e R s m args below meth c H locs cells slots Q (F0 m pc ls (.int (iI z) :: .ref a :: rest)) := va_iald hx hb hK hP q0 t0 ha ht (iI_in h) hdg (by rw [iI_cl (by omega)]; exact kk)
theorem zi_cald {f : Nat → Int} (hx : p.tables.exec = Jvm.exec) (hb : c.code = cc) (hK : va_K D cl tys s) (hP : va_P D cl ws H) (q0 t0 : Nat) (ha : ws[q0]? = some (a, .inl (cA, n, .inl (zaI f)))) (ht : tys[t0]? = some (cA, .char)) (h : 0 ≤ z ∧ z < (n : Int) ∧ z < 2147483648) (hdg : decode cc pc = .ok (.caload, 1))
    (kk : W p l e R s m args below meth c H locs cells slots Q (F0 m (pc + 1) ls (.int (iI (f z.toNat)) :: rest))) : W p l e R s m args below meth c H locs cells slots Q (F0 m pc ls (.int (iI z) :: .ref a :: rest)) := va_cald hx hb hK hP q0 t0 ha ht (iI_in h) hdg (by rw [iI_cl (by omega)]; exact kk)
theorem zi_bald {f : Nat → Int} (hx : p.tables.exec = Jvm.exec) (hb : c.code = cc) (hK : va_K D cl tys s) (hP : va_P D cl ws H) (q0 t0 : Nat) (ha : ws[q0]? = some (a, .inl (cA, n, .inl (zaI f)))) (ht : tys[t0]? = some (cA, .byte)) (h : 0 ≤ z ∧ z < (n : Int) ∧ z < 2147483648) (hdg : decode cc pc = .ok (.baload, 1))
    (kk : W p l e R s m args below meth c H locs cells slots Q (F0 m (pc + 1) ls (.int (iI (f z.toNat)) :: rest))) : W p l e R s m args below meth c H locs cells slots Q (F0 m pc ls (.int (iI z) :: .ref a :: rest)) := va_bald hx hb hK hP q0 t0 ha ht (iI_in h) hdg (by rw [iI_cl (by omega)]; exact kk)
theorem zi_zald {f : Nat → Bool} (hx : p.tables.exec = Jvm.exec) (hb : c.code = cc) (hK : va_K D cl tys s) (hP : va_P D cl ws H) (q0 t0 : Nat) (ha : ws[q0]? = some (a, .inl (cA, n, .inl (zaB f)))) (ht : tys[t0]? = some (cA, .boolean)) (h : 0 ≤ z ∧ z < (n : Int) ∧ z < 2147483648) (hdg : decode cc pc = .ok (.baload, 1))
    (kk : W p l e R s m args below meth c H locs cells slots Q (F0 m (pc + 1) ls (.int (iI (bI (f z.toNat))) :: rest))) : W p l e R s m args below meth c H locs cells slots Q (F0 m pc ls (.int (iI z) :: .ref a :: rest)) := va_zald hx hb hK hP q0 t0 ha ht (iI_in h) hdg (by rw [iI_cl (by omega)]; exact kk)
theorem zi_lald {f : Nat → Int} (hx : p.tables.exec = Jvm.exec) (hb : c.code = cc) (hK : va_K D cl tys s) (hP : va_P D cl ws H) (q0 t0 : Nat) (ha : ws[q0]? = some (a, .inl (cA, n, .inr (.inl (zaL f))))) (ht : tys[t0]? = some (cA, .long)) (h : 0 ≤ z ∧ z < (n : Int) ∧ z < 2147483648) (hdg : decode cc pc = .ok (.laload, 1))
    (kk : W p l e R s m args below meth c H locs cells slots Q (F0 m (pc + 1) ls (.long (lI (f z.toNat)) :: rest))) : W p l e R s m args below meth c H locs cells slots Q (F0 m pc ls (.int (iI z) :: .ref a :: rest)) := va_lald hx hb hK hP q0 t0 ha ht (iI_in h) hdg (by rw [iI_cl (by omega)]; exact kk)
theorem zi_iast {f : Nat → Int} {x : Int} (hx : p.tables.exec = Jvm.exec) (hb : c.code = cc) (hK : va_K D cl tys s) (hP : va_P D cl ws H) (hD : va_D A ws) (hS : va_S A H0 H locs) (q0 t0 : Nat) (ha : ws[q0]? = some (a, .inl (cA, n, .inl (zaI f)))) (ht : tys[t0]? = some (cA, .int)) (h : 0 ≤ z ∧ z < (n : Int) ∧ z < 2147483648) (hdg : decode cc pc = .ok (.iastore, 1))
    (kk : ∀ (H1 : Heap) (locs1 : List Loc), va_P D cl (ws.set q0 (a, .inl (cA, n, .inl (zaI (zu f z.toNat x))))) H1 → va_D A (ws.set q0 (a, .inl (cA, n, .inl (zaI (zu f z.toNat x))))) → va_S A H0 H1 locs1 → W p l e R s m args below meth c H1 locs1 cells slots Q (F0 m (pc + 1) ls rest)) : W p l e R s m args below meth c H locs cells slots Q (F0 m pc ls (.int (iI x) :: .int (iI z) :: .ref a :: rest)) := va_iast hx hb hK hP hD hS q0 t0 ha ht (iI_in h) hdg (by rw [iI_cl (by omega), zaI_upd]; exact kk)
theorem zi_zast {f : Nat → Bool} {x : Bool} (hx : p.tables.exec = Jvm.exec) (hb : c.code = cc) (hK : va_K D cl tys s) (hP : va_P D cl ws H) (hD : va_D A ws) (hS : va_S A H0 H locs) (q0 t0 : Nat) (ha : ws[q0]? = some (a, .inl (cA, n, .inl (zaB f)))) (ht : tys[t0]? = some (cA, .boolean)) (h : 0 ≤ z ∧ z < (n : Int) ∧ z < 2147483648) (hdg : decode cc pc = .ok (.bastore, 1))
    (kk : ∀ (H1 : Heap) (locs1 : List Loc), va_P D cl (ws.set q0 (a, .inl (cA, n, .inl (zaB (zu f z.toNat x))))) H1 → va_D A (ws.set q0 (a, .inl (cA, n, .inl (zaB (zu f z.toNat x))))) → va_S A H0 H1 locs1 → W p l e R s m args below meth c H1 locs1 cells slots Q (F0 m (pc + 1) ls rest)) : W p l e R s m args below meth c H locs cells slots Q (F0 m pc ls (.int (iI (bI x)) :: .int (iI z) :: .ref a :: rest)) := va_zast hx hb hK hP hD hS q0 t0 ha ht (iI_in h) hdg (by rw [iI_cl (by omega), zaB_upd]; exact kk)
theorem zi_cast {f : Nat → Int} {x : Int} (hx : p.tables.exec = Jvm.exec) (hb : c.code = cc) (hK : va_K D cl tys s) (hP : va_P D cl ws H) (hD : va_D A ws) (hS : va_S A H0 H locs) (q0 t0 : Nat) (ha : ws[q0]? = some (a, .inl (cA, n, .inl (zaI f)))) (ht : tys[t0]? = some (cA, .char)) (h : 0 ≤ z ∧ z < (n : Int) ∧ z < 2147483648) (hv : 0 ≤ x ∧ x < 65536) (hdg : decode cc pc = .ok (.castore, 1))
    (kk : ∀ (H1 : Heap) (locs1 : List Loc), va_P D cl (ws.set q0 (a, .inl (cA, n, .inl (zaI (zu f z.toNat x))))) H1 → va_D A (ws.set q0 (a, .inl (cA, n, .inl (zaI (zu f z.toNat x))))) → va_S A H0 H1 locs1 → W p l e R s m args below meth c H1 locs1 cells slots Q (F0 m (pc + 1) ls rest)) : W p l e R s m args below meth c H locs cells slots Q (F0 m pc ls (.int (iI x) :: .int (iI z) :: .ref a :: rest)) := va_cast hx hb hK hP hD hS q0 t0 ha ht (iI_in h) hdg (by rw [iI_cl (by omega), zn_char hv, zaI_upd]; exact kk)
theorem zi_last {f : Nat → Int} {x : Int} (hx : p.tables.exec = Jvm.exec) (hb : c.code = cc) (hK : va_K D cl tys s) (hP : va_P D cl ws H) (hD : va_D A ws) (hS : va_S A H0 H locs) (q0 t0 : Nat) (ha : ws[q0]? = some (a, .inl (cA, n, .inr (.inl (zaL f))))) (ht : tys[t0]? = some (cA, .long)) (h : 0 ≤ z ∧ z < (n : Int) ∧ z < 2147483648) (hdg : decode cc pc = .ok (.lastore, 1))
    (kk : ∀ (H1 : Heap) (locs1 : List Loc), va_P D cl (ws.set q0 (a, .inl (cA, n, .inr (.inl (zaL (zu f z.toNat x)))))) H1 → va_D A (ws.set q0 (a, .inl (cA, n, .inr (.inl (zaL (zu f z.toNat x)))))) → va_S A H0 H1 locs1 → W p l e R s m args below meth c H1 locs1 cells slots Q (F0 m (pc + 1) ls rest)) : W p l e R s m args below meth c H locs cells slots Q (F0 m pc ls (.long (lI x) :: .int (iI z) :: .ref a :: rest)) := va_last hx hb hK hP hD hS q0 t0 ha ht (iI_in h) hdg (by rw [iI_cl (by omega), zaL_upd]; exact kk)
end ZA
