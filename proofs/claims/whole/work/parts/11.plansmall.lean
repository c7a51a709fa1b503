/-! bits, by the numbers of their places; the small methods of Plan -/
def bt (x : Int32) (i : Nat) : Bool := x.toBitVec.getLsbD i
theorem b_ext {x y : Int32} (h : ∀ i, i < 32 → bt x i = bt y i) : x = y := Int32.toBitVec_inj.mp (BitVec.eq_of_getLsbD_eq (fun i hi => h i hi))
theorem b_or (x y : Int32) (i : Nat) : bt (x ||| y) i = (bt x i || bt y i) := by unfold bt; rw [Int32.toBitVec_or, BitVec.getLsbD_or]
theorem b_and (x y : Int32) (i : Nat) : bt (x &&& y) i = (bt x i && bt y i) := by unfold bt; rw [Int32.toBitVec_and, BitVec.getLsbD_and]
theorem b_big {x : Int32} {i : Nat} (h : 32 ≤ i) : bt x i = false := BitVec.getLsbD_of_ge _ _ h
theorem b_0 (i : Nat) : bt 0 i = false := BitVec.getLsbD_zero
theorem s_l : ∀ n, n < 32 → ((nI n &&& 31).toBitVec.smod 32).toNat = n := by decide +kernel
theorem s_u : ∀ n, n < 32 → (((nI n).toUInt32 &&& Int32.toUInt32 31).toBitVec % 32).toNat = n := by decide +kernel
theorem b_shl (n : Nat) (hn : n < 32) (x : Int32) {i : Nat} (hi : i < 32) : bt (x <<< (nI n &&& 31)) i = (decide (n ≤ i) && bt x (i - n)) := by
  unfold bt
  rw [Int32.toBitVec_shiftLeft]
  show (x.toBitVec <<< ((nI n &&& 31).toBitVec.smod 32).toNat).getLsbD i = _
  rw [s_l n hn, BitVec.getLsbD_shiftLeft]
  rcases Nat.lt_or_ge i n with h | h
  · simp [h, Nat.not_le.mpr h]
  · simp [hi, h, Nat.not_lt.mpr h]
theorem b_ushr (n : Nat) (hn : n < 32) (x : Int32) (i : Nat) : bt ((x.toUInt32 >>> ((nI n).toUInt32 &&& Int32.toUInt32 31)).toInt32) i = bt x (n + i) := by
  show (x.toUInt32 >>> ((nI n).toUInt32 &&& Int32.toUInt32 31)).toBitVec.getLsbD i = x.toUInt32.toBitVec.getLsbD (n + i)
  rw [UInt32.toBitVec_shiftRight]
  show (x.toUInt32.toBitVec >>> (((nI n).toUInt32 &&& Int32.toUInt32 31).toBitVec % 32).toNat).getLsbD i = _
  rw [s_u n hn, BitVec.getLsbD_ushiftRight]
def zbv (f : Nat → Bool) : Nat → BitVec 32
  | 0 => 0#32
  | n + 1 => zbv f n ||| (if f n = true then BitVec.twoPow 32 n else 0#32)
theorem zbv_get (f : Nat → Bool) (n i : Nat) (hi : i < 32) : (zbv f n).getLsbD i = (decide (i < n) && f i) := by
  induction n with
  | zero => simp [zbv]
  | succ n ih =>
    rw [zbv, BitVec.getLsbD_or, ih]
    by_cases h : f n = true
    · rw [if_pos h, BitVec.getLsbD_twoPow]
      by_cases e : i = n
      · subst e; simp [h, hi]
      · have e2 : ¬ n = i := fun q => e q.symm
        have e3 : (i < n + 1) ↔ i < n := by omega
        simp [e2, e3]
    · rw [if_neg h]
      by_cases e : i = n
      · subst e; simp [h]
      · have e3 : (i < n + 1) ↔ i < n := by omega
        simp [e3]
def zbits (f : Nat → Bool) : Int32 := Int32.ofBitVec (zbv f 32)
theorem zbits_get (f : Nat → Bool) {i : Nat} (hi : i < 32) : bt (zbits f) i = f i := by
  show (zbv f 32).getLsbD i = f i
  rw [zbv_get f 32 i hi, decide_eq_true hi, Bool.true_and]
theorem zbits_ext {x : Int32} {f : Nat → Bool} (h : ∀ i, i < 32 → bt x i = f i) : x = zbits f := b_ext fun i hi => by rw [h i hi, zbits_get f hi]
theorem zbits_fe {f f' : Nat → Bool} (h : ∀ i, i < 32 → f i = f' i) : zbits f = zbits f' := zbits_ext fun i hi => by rw [zbits_get f hi, h i hi]
theorem zbits_0 : iI 0 = zbits (fun _ => false) := zbits_ext fun i _ => b_0 i
theorem zbits_or (f f' : Nat → Bool) : zbits f ||| zbits f' = zbits (fun i => f i || f' i) := zbits_ext fun i hi => by rw [b_or, zbits_get f hi, zbits_get f' hi]
theorem zbits_and (f f' : Nat → Bool) : zbits f &&& zbits f' = zbits (fun i => f i && f' i) := zbits_ext fun i hi => by rw [b_and, zbits_get f hi, zbits_get f' hi]
theorem iI_nI {k : Int} (h : 0 ≤ k) : iI k = nI k.toNat := by rw [show nI k.toNat = iI (k.toNat : Int) from iI_nat _, Int.toNat_of_nonneg h]
theorem zbits_1 : ∀ i, i < 32 → bt (iI 1) i = decide (i = 0) := by decide +kernel
theorem zbits_shl {k : Int} (h : 0 ≤ k ∧ k < 32) : iI 1 <<< (iI k &&& 31) = zbits (fun i => decide ((i : Int) = k)) := zbits_ext fun i hi => by
  rw [iI_nI h.1, b_shl _ (by omega) _ hi]
  by_cases e : (i : Int) = k
  · rw [decide_eq_true (by omega : k.toNat ≤ i), show i - k.toNat = 0 by omega, zbits_1 0 (by omega), decide_eq_true e]; rfl
  · rw [decide_eq_false e]
    by_cases e2 : k.toNat ≤ i
    · rw [zbits_1 _ (by omega), decide_eq_false (by omega : ¬ i - k.toNat = 0), Bool.and_false]
    · rw [decide_eq_false e2, Bool.false_and]
theorem zbits_mask0 : ∀ n, n < 32 → iI 1 <<< (nI n &&& 31) - iI 1 = zbits (fun i => decide (i < n)) := by decide +kernel
theorem zbits_mask {k : Int} (h : 0 ≤ k ∧ k < 32) : iI 1 <<< (iI k &&& 31) - iI 1 = zbits (fun i => decide ((i : Int) < k)) := by
  rw [iI_nI h.1, zbits_mask0 _ (by omega)]
  exact zbits_fe fun i hi => by congr 1; simp only [eq_iff_iff]; omega
theorem zbits_bit (f : Nat → Bool) {k : Int} (h : 0 ≤ k ∧ k < 32) : ((zbits f).toUInt32 >>> ((iI k).toUInt32 &&& Int32.toUInt32 31)).toInt32 &&& iI 1 = iI (bI (f k.toNat)) := by
  apply b_ext
  intro i hi
  rw [b_and, iI_nI h.1, b_ushr _ (by omega), zbits_1 i hi]
  by_cases e : i = 0
  · subst e
    rw [Nat.add_zero, zbits_get f (by omega)]
    cases f k.toNat <;> decide
  · rw [decide_eq_false e, Bool.and_false]
    cases f k.toNat
    · exact (b_0 i).symm
    · show false = bt (iI 1) i
      rw [zbits_1 i hi, decide_eq_false e]
theorem zbits_ne {f : Nat → Bool} : (zbits f = 0 ↔ ∀ i, i < 32 → f i = false) := by
  constructor
  · intro h i hi
    rw [← zbits_get f hi, h]; exact b_0 i
  · intro h
    exact (b_ext fun i hi => by rw [zbits_get f hi, h i hi]; exact (b_0 i).symm)
section ZWB
variable {p : Program} {l : Launch} {e : Env} {R : Room} {s : State} {m : MethodId} {args : Array Value} {below : List Frame} {meth : Method} {c : Code} {H : Heap} {locs : List Loc} {cells slots : Nat} {Q : State → Prop}
variable {cc : ByteArray} {pc : Nat} {ls : Array Slot} {rest : List Value}
theorem zw_as {x : Int32} (f : Nat → Bool) (h : x = zbits f) (k : W p l e R s m args below meth c H locs cells slots Q (F0 m pc ls (.int (zbits f) :: rest))) : W p l e R s m args below meth c H locs cells slots Q (F0 m pc ls (.int x :: rest)) := by rw [h]; exact k
theorem zw_bit {f : Nat → Bool} {k : Int} (hx : p.tables.exec = Jvm.exec) (hb : c.code = cc) (h : 0 ≤ k ∧ k < 32) (d1 : decode cc pc = .ok (.iushr, 1)) (d2 : decode cc (pc + 1) = .ok (.iconst 1, 1)) (d3 : decode cc (pc + 2) = .ok (.iand, 1))
    (kk : W p l e R s m args below meth c H locs cells slots Q (F0 m (pc + 3) ls (.int (iI (bI (f k.toNat))) :: rest))) : W p l e R s m args below meth c H locs cells slots Q (F0 m pc ls (.int (iI k) :: .int (zbits f) :: rest)) := by
  refine lv_iushr hx hb d1 rfl ?_
  refine zi_iconst hx hb d2 ?_
  refine lv_iand hx hb d3 ?_
  rw [zbits_bit f h]
  exact kk
theorem zw_ifeq {f : Nat → Bool} {off : Int} {tgt : Nat} (hx : p.tables.exec = Jvm.exec) (hb : c.code = cc) (hdg : decode cc pc = .ok (.ifCond .eq off, 3)) (ht : (pc : Int) + off = (tgt : Int)) (kt : (∀ i, i < 32 → f i = false) → W p l e R s m args below meth c H locs cells slots Q (F0 m tgt ls rest)) (kf : W p l e R s m args below meth c H locs cells slots Q (F0 m (pc + 3) ls rest)) : W p l e R s m args below meth c H locs cells slots Q (F0 m pc ls (.int (zbits f) :: rest)) :=
  lv_if_eq hx hb hdg ht (fun q => kt (zbits_ne.mp q)) (fun _ => kf)
end ZWB
def pDB (day len : Int) : Nat → Bool := fun i => decide (1 ≤ day ∧ day ≤ len ∧ (i : Int) + 1 = day)
def pNear (day fw len : Int) : Int := if (fw + day - 2) % 7 + 1 = 7 then (if 1 < day then day - 1 else day + 2) else if (fw + day - 2) % 7 + 1 = 1 then (if day < len then day + 1 else day - 2) else day
def pLW (f : Nat → Bool) (fw len : Int) : Nat → Bool := fun i => decide ((i : Int) < len) && oHas f 1 7 ((fw + ((i : Int) + 1) - 2) % 7 + 1)
theorem zd_P_dayBit_0 : decode zc_P_dayBit 0 = .ok (.iload_n 1, 1) := by decide +kernel
theorem zd_P_dayBit_1 : decode zc_P_dayBit 1 = .ok (.iconst 1, 1) := by decide +kernel
theorem zd_P_dayBit_2 : decode zc_P_dayBit 2 = .ok (.if_icmp .lt 8, 3) := by decide +kernel
theorem zd_P_dayBit_5 : decode zc_P_dayBit 5 = .ok (.iload_n 1, 1) := by decide +kernel
theorem zd_P_dayBit_6 : decode zc_P_dayBit 6 = .ok (.iload_n 2, 1) := by decide +kernel
theorem zd_P_dayBit_7 : decode zc_P_dayBit 7 = .ok (.if_icmp .le 7, 3) := by decide +kernel
theorem zd_P_dayBit_10 : decode zc_P_dayBit 10 = .ok (.iconst 0, 1) := by decide +kernel
theorem zd_P_dayBit_11 : decode zc_P_dayBit 11 = .ok (.goto 8, 3) := by decide +kernel
theorem zd_P_dayBit_14 : decode zc_P_dayBit 14 = .ok (.iconst 1, 1) := by decide +kernel
theorem zd_P_dayBit_15 : decode zc_P_dayBit 15 = .ok (.iload_n 1, 1) := by decide +kernel
theorem zd_P_dayBit_16 : decode zc_P_dayBit 16 = .ok (.iconst 1, 1) := by decide +kernel
theorem zd_P_dayBit_17 : decode zc_P_dayBit 17 = .ok (.isub, 1) := by decide +kernel
theorem zd_P_dayBit_18 : decode zc_P_dayBit 18 = .ok (.ishl, 1) := by decide +kernel
theorem zd_P_dayBit_19 : decode zc_P_dayBit 19 = .ok (.ireturn, 1) := by decide +kernel
theorem zd_P_weekdayIn_0 : decode zc_P_weekdayIn 0 = .ok (.iload_n 2, 1) := by decide +kernel
theorem zd_P_weekdayIn_1 : decode zc_P_weekdayIn 1 = .ok (.iload_n 1, 1) := by decide +kernel
theorem zd_P_weekdayIn_2 : decode zc_P_weekdayIn 2 = .ok (.iadd, 1) := by decide +kernel
theorem zd_P_weekdayIn_3 : decode zc_P_weekdayIn 3 = .ok (.iconst 2, 1) := by decide +kernel
theorem zd_P_weekdayIn_4 : decode zc_P_weekdayIn 4 = .ok (.isub, 1) := by decide +kernel
theorem zd_P_weekdayIn_5 : decode zc_P_weekdayIn 5 = .ok (.bipush 7, 2) := by decide +kernel
theorem zd_P_weekdayIn_7 : decode zc_P_weekdayIn 7 = .ok (.irem, 1) := by decide +kernel
theorem zd_P_weekdayIn_8 : decode zc_P_weekdayIn 8 = .ok (.iconst 1, 1) := by decide +kernel
theorem zd_P_weekdayIn_9 : decode zc_P_weekdayIn 9 = .ok (.iadd, 1) := by decide +kernel
theorem zd_P_weekdayIn_10 : decode zc_P_weekdayIn 10 = .ok (.ireturn, 1) := by decide +kernel
theorem zd_P_nearestWorkday_0 : decode zc_P_nearestWorkday 0 = .ok (.aload_n 0, 1) := by decide +kernel
theorem zd_P_nearestWorkday_1 : decode zc_P_nearestWorkday 1 = .ok (.iload_n 1, 1) := by decide +kernel
theorem zd_P_nearestWorkday_2 : decode zc_P_nearestWorkday 2 = .ok (.iload_n 2, 1) := by decide +kernel
theorem zd_P_nearestWorkday_3 : decode zc_P_nearestWorkday 3 = .ok (.invokevirtual 130, 3) := by decide +kernel
theorem zd_P_nearestWorkday_6 : decode zc_P_nearestWorkday 6 = .ok (.istore 4, 2) := by decide +kernel
theorem zd_P_nearestWorkday_8 : decode zc_P_nearestWorkday 8 = .ok (.iload 4, 2) := by decide +kernel
theorem zd_P_nearestWorkday_10 : decode zc_P_nearestWorkday 10 = .ok (.bipush 7, 2) := by decide +kernel
theorem zd_P_nearestWorkday_12 : decode zc_P_nearestWorkday 12 = .ok (.if_icmp .ne 18, 3) := by decide +kernel
theorem zd_P_nearestWorkday_15 : decode zc_P_nearestWorkday 15 = .ok (.iload_n 1, 1) := by decide +kernel
theorem zd_P_nearestWorkday_16 : decode zc_P_nearestWorkday 16 = .ok (.iconst 1, 1) := by decide +kernel
theorem zd_P_nearestWorkday_17 : decode zc_P_nearestWorkday 17 = .ok (.if_icmp .le 9, 3) := by decide +kernel
theorem zd_P_nearestWorkday_20 : decode zc_P_nearestWorkday 20 = .ok (.iload_n 1, 1) := by decide +kernel
theorem zd_P_nearestWorkday_21 : decode zc_P_nearestWorkday 21 = .ok (.iconst 1, 1) := by decide +kernel
theorem zd_P_nearestWorkday_22 : decode zc_P_nearestWorkday 22 = .ok (.isub, 1) := by decide +kernel
theorem zd_P_nearestWorkday_23 : decode zc_P_nearestWorkday 23 = .ok (.goto 6, 3) := by decide +kernel
theorem zd_P_nearestWorkday_26 : decode zc_P_nearestWorkday 26 = .ok (.iload_n 1, 1) := by decide +kernel
theorem zd_P_nearestWorkday_27 : decode zc_P_nearestWorkday 27 = .ok (.iconst 2, 1) := by decide +kernel
theorem zd_P_nearestWorkday_28 : decode zc_P_nearestWorkday 28 = .ok (.iadd, 1) := by decide +kernel
theorem zd_P_nearestWorkday_29 : decode zc_P_nearestWorkday 29 = .ok (.ireturn, 1) := by decide +kernel
theorem zd_P_nearestWorkday_30 : decode zc_P_nearestWorkday 30 = .ok (.iload 4, 2) := by decide +kernel
theorem zd_P_nearestWorkday_32 : decode zc_P_nearestWorkday 32 = .ok (.iconst 1, 1) := by decide +kernel
theorem zd_P_nearestWorkday_33 : decode zc_P_nearestWorkday 33 = .ok (.if_icmp .ne 18, 3) := by decide +kernel
theorem zd_P_nearestWorkday_36 : decode zc_P_nearestWorkday 36 = .ok (.iload_n 1, 1) := by decide +kernel
theorem zd_P_nearestWorkday_37 : decode zc_P_nearestWorkday 37 = .ok (.iload_n 3, 1) := by decide +kernel
theorem zd_P_nearestWorkday_38 : decode zc_P_nearestWorkday 38 = .ok (.if_icmp .ge 9, 3) := by decide +kernel
theorem zd_P_nearestWorkday_41 : decode zc_P_nearestWorkday 41 = .ok (.iload_n 1, 1) := by decide +kernel
theorem zd_P_nearestWorkday_42 : decode zc_P_nearestWorkday 42 = .ok (.iconst 1, 1) := by decide +kernel
theorem zd_P_nearestWorkday_43 : decode zc_P_nearestWorkday 43 = .ok (.iadd, 1) := by decide +kernel
theorem zd_P_nearestWorkday_44 : decode zc_P_nearestWorkday 44 = .ok (.goto 6, 3) := by decide +kernel
theorem zd_P_nearestWorkday_47 : decode zc_P_nearestWorkday 47 = .ok (.iload_n 1, 1) := by decide +kernel
theorem zd_P_nearestWorkday_48 : decode zc_P_nearestWorkday 48 = .ok (.iconst 2, 1) := by decide +kernel
theorem zd_P_nearestWorkday_49 : decode zc_P_nearestWorkday 49 = .ok (.isub, 1) := by decide +kernel
theorem zd_P_nearestWorkday_50 : decode zc_P_nearestWorkday 50 = .ok (.ireturn, 1) := by decide +kernel
theorem zd_P_nearestWorkday_51 : decode zc_P_nearestWorkday 51 = .ok (.iload_n 1, 1) := by decide +kernel
theorem zd_P_nearestWorkday_52 : decode zc_P_nearestWorkday 52 = .ok (.ireturn, 1) := by decide +kernel
theorem zd_P_secondOf_0 : decode zc_P_secondOf 0 = .ok (.iload_n 1, 1) := by decide +kernel
theorem zd_P_secondOf_1 : decode zc_P_secondOf 1 = .ok (.bipush 60, 2) := by decide +kernel
theorem zd_P_secondOf_3 : decode zc_P_secondOf 3 = .ok (.imul, 1) := by decide +kernel
theorem zd_P_secondOf_4 : decode zc_P_secondOf 4 = .ok (.iload_n 2, 1) := by decide +kernel
theorem zd_P_secondOf_5 : decode zc_P_secondOf 5 = .ok (.iadd, 1) := by decide +kernel
theorem zd_P_secondOf_6 : decode zc_P_secondOf 6 = .ok (.bipush 60, 2) := by decide +kernel
theorem zd_P_secondOf_8 : decode zc_P_secondOf 8 = .ok (.imul, 1) := by decide +kernel
theorem zd_P_secondOf_9 : decode zc_P_secondOf 9 = .ok (.iload_n 3, 1) := by decide +kernel
theorem zd_P_secondOf_10 : decode zc_P_secondOf 10 = .ok (.iadd, 1) := by decide +kernel
theorem zd_P_secondOf_11 : decode zc_P_secondOf 11 = .ok (.ireturn, 1) := by decide +kernel
theorem zd_P_firstSubject_0 : decode zc_P_firstSubject 0 = .ok (.iconst 1, 1) := by decide +kernel
theorem zd_P_firstSubject_1 : decode zc_P_firstSubject 1 = .ok (.aload_n 0, 1) := by decide +kernel
theorem zd_P_firstSubject_2 : decode zc_P_firstSubject 2 = .ok (.getfield 49, 3) := by decide +kernel
theorem zd_P_firstSubject_5 : decode zc_P_firstSubject 5 = .ok (.iload_n 1, 1) := by decide +kernel
theorem zd_P_firstSubject_6 : decode zc_P_firstSubject 6 = .ok (.isub, 1) := by decide +kernel
theorem zd_P_firstSubject_7 : decode zc_P_firstSubject 7 = .ok (.bipush 7, 2) := by decide +kernel
theorem zd_P_firstSubject_9 : decode zc_P_firstSubject 9 = .ok (.invokestatic 133, 3) := by decide +kernel
theorem zd_P_firstSubject_12 : decode zc_P_firstSubject 12 = .ok (.iadd, 1) := by decide +kernel
theorem zd_P_firstSubject_13 : decode zc_P_firstSubject 13 = .ok (.ireturn, 1) := by decide +kernel
theorem zd_P_lastSubject_0 : decode zc_P_lastSubject 0 = .ok (.iload_n 2, 1) := by decide +kernel
theorem zd_P_lastSubject_1 : decode zc_P_lastSubject 1 = .ok (.aload_n 0, 1) := by decide +kernel
theorem zd_P_lastSubject_2 : decode zc_P_lastSubject 2 = .ok (.iload_n 2, 1) := by decide +kernel
theorem zd_P_lastSubject_3 : decode zc_P_lastSubject 3 = .ok (.iload_n 1, 1) := by decide +kernel
theorem zd_P_lastSubject_4 : decode zc_P_lastSubject 4 = .ok (.invokevirtual 130, 3) := by decide +kernel
theorem zd_P_lastSubject_7 : decode zc_P_lastSubject 7 = .ok (.aload_n 0, 1) := by decide +kernel
theorem zd_P_lastSubject_8 : decode zc_P_lastSubject 8 = .ok (.getfield 49, 3) := by decide +kernel
theorem zd_P_lastSubject_11 : decode zc_P_lastSubject 11 = .ok (.isub, 1) := by decide +kernel
theorem zd_P_lastSubject_12 : decode zc_P_lastSubject 12 = .ok (.bipush 7, 2) := by decide +kernel
theorem zd_P_lastSubject_14 : decode zc_P_lastSubject 14 = .ok (.invokestatic 133, 3) := by decide +kernel
theorem zd_P_lastSubject_17 : decode zc_P_lastSubject 17 = .ok (.isub, 1) := by decide +kernel
theorem zd_P_lastSubject_18 : decode zc_P_lastSubject 18 = .ok (.ireturn, 1) := by decide +kernel
theorem zd_P_row_0 : decode zc_P_row 0 = .ok (.iload_n 1, 1) := by decide +kernel
theorem zd_P_row_1 : decode zc_P_row 1 = .ok (.tableswitch 69 0 5 #[39, 44, 49, 54, 59, 64], 39) := by decide +kernel
theorem zd_P_row_40 : decode zc_P_row 40 = .ok (.aload_n 0, 1) := by decide +kernel
theorem zd_P_row_41 : decode zc_P_row 41 = .ok (.getfield 14, 3) := by decide +kernel
theorem zd_P_row_44 : decode zc_P_row 44 = .ok (.areturn, 1) := by decide +kernel
theorem zd_P_row_45 : decode zc_P_row 45 = .ok (.aload_n 0, 1) := by decide +kernel
theorem zd_P_row_46 : decode zc_P_row 46 = .ok (.getfield 20, 3) := by decide +kernel
theorem zd_P_row_49 : decode zc_P_row 49 = .ok (.areturn, 1) := by decide +kernel
theorem zd_P_row_50 : decode zc_P_row 50 = .ok (.aload_n 0, 1) := by decide +kernel
theorem zd_P_row_51 : decode zc_P_row 51 = .ok (.getfield 23, 3) := by decide +kernel
theorem zd_P_row_54 : decode zc_P_row 54 = .ok (.areturn, 1) := by decide +kernel
theorem zd_P_row_55 : decode zc_P_row 55 = .ok (.aload_n 0, 1) := by decide +kernel
theorem zd_P_row_56 : decode zc_P_row 56 = .ok (.getfield 26, 3) := by decide +kernel
theorem zd_P_row_59 : decode zc_P_row 59 = .ok (.areturn, 1) := by decide +kernel
theorem zd_P_row_60 : decode zc_P_row 60 = .ok (.aload_n 0, 1) := by decide +kernel
theorem zd_P_row_61 : decode zc_P_row 61 = .ok (.getfield 29, 3) := by decide +kernel
theorem zd_P_row_64 : decode zc_P_row 64 = .ok (.areturn, 1) := by decide +kernel
theorem zd_P_row_65 : decode zc_P_row 65 = .ok (.aload_n 0, 1) := by decide +kernel
theorem zd_P_row_66 : decode zc_P_row 66 = .ok (.getfield 32, 3) := by decide +kernel
theorem zd_P_row_69 : decode zc_P_row 69 = .ok (.areturn, 1) := by decide +kernel
theorem zd_P_row_70 : decode zc_P_row 70 = .ok (.aload_n 0, 1) := by decide +kernel
theorem zd_P_row_71 : decode zc_P_row 71 = .ok (.getfield 37, 3) := by decide +kernel
theorem zd_P_row_74 : decode zc_P_row 74 = .ok (.areturn, 1) := by decide +kernel
theorem zd_P_choose_0 : decode zc_P_choose 0 = .ok (.aload_n 0, 1) := by decide +kernel
theorem zd_P_choose_1 : decode zc_P_choose 1 = .ok (.aload_n 1, 1) := by decide +kernel
theorem zd_P_choose_2 : decode zc_P_choose 2 = .ok (.putfield 46, 3) := by decide +kernel
theorem zd_P_choose_5 : decode zc_P_choose 5 = .ok (.aload_n 0, 1) := by decide +kernel
theorem zd_P_choose_6 : decode zc_P_choose 6 = .ok (.iload_n 2, 1) := by decide +kernel
theorem zd_P_choose_7 : decode zc_P_choose 7 = .ok (.putfield 49, 3) := by decide +kernel
theorem zd_P_choose_10 : decode zc_P_choose 10 = .ok (.aload_n 0, 1) := by decide +kernel
theorem zd_P_choose_11 : decode zc_P_choose 11 = .ok (.iload_n 3, 1) := by decide +kernel
theorem zd_P_choose_12 : decode zc_P_choose 12 = .ok (.putfield 53, 3) := by decide +kernel
theorem zd_P_choose_15 : decode zc_P_choose 15 = .ok (.return_, 1) := by decide +kernel
theorem zd_P_listedWeekdays_0 : decode zc_P_listedWeekdays 0 = .ok (.iconst 0, 1) := by decide +kernel
theorem zd_P_listedWeekdays_1 : decode zc_P_listedWeekdays 1 = .ok (.istore_n 3, 1) := by decide +kernel
theorem zd_P_listedWeekdays_2 : decode zc_P_listedWeekdays 2 = .ok (.iconst 1, 1) := by decide +kernel
theorem zd_P_listedWeekdays_3 : decode zc_P_listedWeekdays 3 = .ok (.istore 4, 2) := by decide +kernel
theorem zd_P_listedWeekdays_5 : decode zc_P_listedWeekdays 5 = .ok (.iload 4, 2) := by decide +kernel
theorem zd_P_listedWeekdays_7 : decode zc_P_listedWeekdays 7 = .ok (.iload_n 2, 1) := by decide +kernel
theorem zd_P_listedWeekdays_8 : decode zc_P_listedWeekdays 8 = .ok (.if_icmp .gt 36, 3) := by decide +kernel
theorem zd_P_listedWeekdays_11 : decode zc_P_listedWeekdays 11 = .ok (.aload_n 0, 1) := by decide +kernel
theorem zd_P_listedWeekdays_12 : decode zc_P_listedWeekdays 12 = .ok (.getfield 32, 3) := by decide +kernel
theorem zd_P_listedWeekdays_15 : decode zc_P_listedWeekdays 15 = .ok (.aload_n 0, 1) := by decide +kernel
theorem zd_P_listedWeekdays_16 : decode zc_P_listedWeekdays 16 = .ok (.iload 4, 2) := by decide +kernel
theorem zd_P_listedWeekdays_18 : decode zc_P_listedWeekdays 18 = .ok (.iload_n 1, 1) := by decide +kernel
theorem zd_P_listedWeekdays_19 : decode zc_P_listedWeekdays 19 = .ok (.invokevirtual 130, 3) := by decide +kernel
theorem zd_P_listedWeekdays_22 : decode zc_P_listedWeekdays 22 = .ok (.invokevirtual 72, 3) := by decide +kernel
theorem zd_P_listedWeekdays_25 : decode zc_P_listedWeekdays 25 = .ok (.ifCond .eq 13, 3) := by decide +kernel
theorem zd_P_listedWeekdays_28 : decode zc_P_listedWeekdays 28 = .ok (.iload_n 3, 1) := by decide +kernel
theorem zd_P_listedWeekdays_29 : decode zc_P_listedWeekdays 29 = .ok (.aload_n 0, 1) := by decide +kernel
theorem zd_P_listedWeekdays_30 : decode zc_P_listedWeekdays 30 = .ok (.iload 4, 2) := by decide +kernel
theorem zd_P_listedWeekdays_32 : decode zc_P_listedWeekdays 32 = .ok (.iload_n 2, 1) := by decide +kernel
theorem zd_P_listedWeekdays_33 : decode zc_P_listedWeekdays 33 = .ok (.invokevirtual 114, 3) := by decide +kernel
theorem zd_P_listedWeekdays_36 : decode zc_P_listedWeekdays 36 = .ok (.ior, 1) := by decide +kernel
theorem zd_P_listedWeekdays_37 : decode zc_P_listedWeekdays 37 = .ok (.istore_n 3, 1) := by decide +kernel
theorem zd_P_listedWeekdays_38 : decode zc_P_listedWeekdays 38 = .ok (.iinc 4 1, 3) := by decide +kernel
theorem zd_P_listedWeekdays_41 : decode zc_P_listedWeekdays 41 = .ok (.goto (-36), 3) := by decide +kernel
theorem zd_P_listedWeekdays_44 : decode zc_P_listedWeekdays 44 = .ok (.iload_n 3, 1) := by decide +kernel
theorem zd_P_listedWeekdays_45 : decode zc_P_listedWeekdays 45 = .ok (.ireturn, 1) := by decide +kernel
set_option maxHeartbeats 4000000 in
set_option maxRecDepth 100000 in
theorem c_P_dayBit (l : Launch) (g : zGl) (pq : Nat) (day len : Int) (hd : -100 ≤ day ∧ day ≤ 100 ∧ 0 ≤ len ∧ len ≤ 31) : zSi l zy_P_dayBit zc_P_dayBit 3 (some .int) ({ frames := 0, cells := 0, slots := 0, locals := 0 }) g zN [.ref (pq), .int (iI (day)), .int (iI (len))] [] (some (.int (zbits (pDB day len)))) := by
  refine zs_open (by decide +kernel) (Nat.le_of_ble_eq_true rfl) ?_
  intro p e s m below meth c ls hx hb hml hr hlk hown hw hK hT hP hl
  have hown : s.vm.findClass "CronFinder$Plan" = some m.cls := hown
  have hl : lv_has ls 3 [(0, .ref (pq)), (1, .int (iI (day))), (2, .int (iI (len)))] := hl
  refine lv_iload_n hx hb zd_P_dayBit_0 rfl (lv_at hl 1 rfl) ?_
  refine zi_iconst hx hb zd_P_dayBit_1 ?_
  refine zi_icmp_lt (tgt := 10) hx hb zd_P_dayBit_2 (by decide) (by omega) (fun c2 => ?_) (fun c2 => ?_)
  · refine zi_iconst hx hb zd_P_dayBit_10 ?_
    refine lv_goto (tgt := 19) hx hb zd_P_dayBit_11 (by decide) ?_
    refine zw_as (pDB day len) (by first | (rw [zbits_0]; exact zbits_fe fun i hi => by unfold pDB; rw [decide_eq_false (by omega)]) | (exact zbits_fe fun i hi => by unfold pDB; congr 1; simp only [eq_iff_iff]; omega)) ?_
    exact zs_iret hx hb hr hlk zd_P_dayBit_19
  · refine lv_iload_n hx hb zd_P_dayBit_5 rfl (lv_at hl 1 rfl) ?_
    refine lv_iload_n hx hb zd_P_dayBit_6 rfl (lv_at hl 2 rfl) ?_
    refine zi_icmp_le (tgt := 14) hx hb zd_P_dayBit_7 (by decide) (by omega) (fun c7 => ?_) (fun c7 => ?_)
    · refine zi_iconst hx hb zd_P_dayBit_14 ?_
      refine lv_iload_n hx hb zd_P_dayBit_15 rfl (lv_at hl 1 rfl) ?_
      refine zi_iconst hx hb zd_P_dayBit_16 ?_
      refine zi_isub hx hb zd_P_dayBit_17 ?_
      refine lv_ishl hx hb zd_P_dayBit_18 ?_
      refine zw_as _ (zbits_shl (by omega)) ?_
      refine zw_as (pDB day len) (by first | (rw [zbits_0]; exact zbits_fe fun i hi => by unfold pDB; rw [decide_eq_false (by omega)]) | (exact zbits_fe fun i hi => by unfold pDB; congr 1; simp only [eq_iff_iff]; omega)) ?_
      exact zs_iret hx hb hr hlk zd_P_dayBit_19
    · refine zi_iconst hx hb zd_P_dayBit_10 ?_
      refine lv_goto (tgt := 19) hx hb zd_P_dayBit_11 (by decide) ?_
      refine zw_as (pDB day len) (by first | (rw [zbits_0]; exact zbits_fe fun i hi => by unfold pDB; rw [decide_eq_false (by omega)]) | (exact zbits_fe fun i hi => by unfold pDB; congr 1; simp only [eq_iff_iff]; omega)) ?_
      exact zs_iret hx hb hr hlk zd_P_dayBit_19
set_option maxHeartbeats 4000000 in
set_option maxRecDepth 100000 in
theorem c_P_weekdayIn (l : Launch) (g : zGl) (pq : Nat) (day fw : Int) (hd : 1 ≤ day ∧ day ≤ 100 ∧ 1 ≤ fw ∧ fw ≤ 7) : zSi l zy_P_weekdayIn zc_P_weekdayIn 3 (some .int) ({ frames := 0, cells := 0, slots := 0, locals := 0 }) g zN [.ref (pq), .int (iI (day)), .int (iI (fw))] [] (some (.int (iI ((fw + day - 2) % 7 + 1)))) := by
  refine zs_open (by decide +kernel) (Nat.le_of_ble_eq_true rfl) ?_
  intro p e s m below meth c ls hx hb hml hr hlk hown hw hK hT hP hl
  have hown : s.vm.findClass "CronFinder$Plan" = some m.cls := hown
  have hl : lv_has ls 3 [(0, .ref (pq)), (1, .int (iI (day))), (2, .int (iI (fw)))] := hl
  refine lv_iload_n hx hb zd_P_weekdayIn_0 rfl (lv_at hl 2 rfl) ?_
  refine lv_iload_n hx hb zd_P_weekdayIn_1 rfl (lv_at hl 1 rfl) ?_
  refine zi_iadd hx hb zd_P_weekdayIn_2 ?_
  refine zi_iconst hx hb zd_P_weekdayIn_3 ?_
  refine zi_isub hx hb zd_P_weekdayIn_4 ?_
  refine zi_bipush hx hb zd_P_weekdayIn_5 (by decide) ?_
  refine zi_irem hx hb zd_P_weekdayIn_7 (by omega) ?_
  refine zi_iconst hx hb zd_P_weekdayIn_8 ?_
  refine zi_iadd hx hb zd_P_weekdayIn_9 ?_
  refine zi_as ((fw + day - 2) % 7 + 1) (rfl) ?_
  exact zs_iret hx hb hr hlk zd_P_weekdayIn_10
set_option maxHeartbeats 4000000 in
set_option maxRecDepth 100000 in
theorem c_P_nearestWorkday (l : Launch) (g : zGl) (pq : Nat) (ra : Nat → Nat) (rl : Nat) (sub od : Int) (bits : Nat → Bool) (day fw len : Int) (hd : 1 ≤ day ∧ day ≤ 100 ∧ 1 ≤ fw ∧ fw ≤ 7 ∧ 1 ≤ len ∧ len ≤ 31) : zSi l zy_P_nearestWorkday zc_P_nearestWorkday 5 (some .int) ({ frames := 1, cells := 0, slots := 0, locals := 22 }) g zN [.ref (pq), .int (iI (day)), .int (iI (fw)), .int (iI (len))] [(pq, .inr (3, [.ref (ra 0), .ref (ra 1), .ref (ra 2), .ref (ra 3), .ref (ra 4), .ref (ra 5), .ref (ra 6), .ref (rl), .int (iI (sub)), .int (iI (od)), .int (zbits (bits))]))] (some (.int (iI (pNear day fw len)))) := by
  refine zs_open (by decide +kernel) (Nat.le_of_ble_eq_true rfl) ?_
  intro p e s m below meth c ls hx hb hml hr hlk hown hw hK hT hP hl
  have hown : s.vm.findClass "CronFinder$Plan" = some m.cls := hown
  have hl : lv_has ls 5 [(0, .ref (pq)), (1, .int (iI (day))), (2, .int (iI (fw))), (3, .int (iI (len)))] := hl
  refine lv_aload_n hx hb zd_P_nearestWorkday_0 rfl (lv_at hl 0 rfl) ?_
  refine lv_iload_n hx hb zd_P_nearestWorkday_1 rfl (lv_at hl 1 rfl) ?_
  refine lv_iload_n hx hb zd_P_nearestWorkday_2 rfl (lv_at hl 2 rfl) ?_
  refine zk_V (As := [.int (iI (day)), .int (iI (fw))]) (b := pq) (own := "CronFinder$Plan") (nL := 5) (rest := []) hx hb hml hown hw (c_P_weekdayIn l g (pq) (day) (fw) (by omega)) zw_3_81 zw_3_83 zw_0_20 zw_1_2 zw_3_84 (np := 2) (by decide +kernel) rfl (by decide) zN_mv hK trivial (hP.sub (ws' := []) [] rfl) (va_recv hK hP (ci := 3) (q0 := 0) rfl rfl) hl.1 rfl (Nat.le_of_ble_eq_true rfl) (by decide) zd_P_nearestWorkday_3 ?_
  refine lv_istore (lv' := [(4, .int (iI ((fw + day - 2) % 7 + 1))), (0, .ref (pq)), (1, .int (iI (day))), (2, .int (iI (fw))), (3, .int (iI (len)))]) hx hb zd_P_nearestWorkday_6 hl (by decide) rfl (fun ls hl => ?_)
  refine lv_iload hx hb zd_P_nearestWorkday_8 (lv_at hl 0 rfl) ?_
  refine zi_bipush hx hb zd_P_nearestWorkday_10 (by decide) ?_
  refine zi_icmp_ne (tgt := 30) hx hb zd_P_nearestWorkday_12 (by decide) (by omega) (fun c12 => ?_) (fun c12 => ?_)
  · refine lv_iload hx hb zd_P_nearestWorkday_30 (lv_at hl 0 rfl) ?_
    refine zi_iconst hx hb zd_P_nearestWorkday_32 ?_
    refine zi_icmp_ne (tgt := 51) hx hb zd_P_nearestWorkday_33 (by decide) (by omega) (fun c33 => ?_) (fun c33 => ?_)
    · refine lv_iload_n hx hb zd_P_nearestWorkday_51 rfl (lv_at hl 2 rfl) ?_
      refine zi_as (pNear day fw len) (by unfold pNear; repeat (first | rw [if_pos (by omega)] | rw [if_neg (by omega)])) ?_
      exact zs_iret hx hb hr hlk zd_P_nearestWorkday_52
    · refine lv_iload_n hx hb zd_P_nearestWorkday_36 rfl (lv_at hl 2 rfl) ?_
      refine lv_iload_n hx hb zd_P_nearestWorkday_37 rfl (lv_at hl 4 rfl) ?_
      refine zi_icmp_ge (tgt := 47) hx hb zd_P_nearestWorkday_38 (by decide) (by omega) (fun c38 => ?_) (fun c38 => ?_)
      · refine lv_iload_n hx hb zd_P_nearestWorkday_47 rfl (lv_at hl 2 rfl) ?_
        refine zi_iconst hx hb zd_P_nearestWorkday_48 ?_
        refine zi_isub hx hb zd_P_nearestWorkday_49 ?_
        refine zi_as (pNear day fw len) (by unfold pNear; repeat (first | rw [if_pos (by omega)] | rw [if_neg (by omega)])) ?_
        exact zs_iret hx hb hr hlk zd_P_nearestWorkday_50
      · refine lv_iload_n hx hb zd_P_nearestWorkday_41 rfl (lv_at hl 2 rfl) ?_
        refine zi_iconst hx hb zd_P_nearestWorkday_42 ?_
        refine zi_iadd hx hb zd_P_nearestWorkday_43 ?_
        refine lv_goto (tgt := 50) hx hb zd_P_nearestWorkday_44 (by decide) ?_
        refine zi_as (pNear day fw len) (by unfold pNear; repeat (first | rw [if_pos (by omega)] | rw [if_neg (by omega)])) ?_
        exact zs_iret hx hb hr hlk zd_P_nearestWorkday_50
  · refine lv_iload_n hx hb zd_P_nearestWorkday_15 rfl (lv_at hl 2 rfl) ?_
    refine zi_iconst hx hb zd_P_nearestWorkday_16 ?_
    refine zi_icmp_le (tgt := 26) hx hb zd_P_nearestWorkday_17 (by decide) (by omega) (fun c17 => ?_) (fun c17 => ?_)
    · refine lv_iload_n hx hb zd_P_nearestWorkday_26 rfl (lv_at hl 2 rfl) ?_
      refine zi_iconst hx hb zd_P_nearestWorkday_27 ?_
      refine zi_iadd hx hb zd_P_nearestWorkday_28 ?_
      refine zi_as (pNear day fw len) (by unfold pNear; repeat (first | rw [if_pos (by omega)] | rw [if_neg (by omega)])) ?_
      exact zs_iret hx hb hr hlk zd_P_nearestWorkday_29
    · refine lv_iload_n hx hb zd_P_nearestWorkday_20 rfl (lv_at hl 2 rfl) ?_
      refine zi_iconst hx hb zd_P_nearestWorkday_21 ?_
      refine zi_isub hx hb zd_P_nearestWorkday_22 ?_
      refine lv_goto (tgt := 29) hx hb zd_P_nearestWorkday_23 (by decide) ?_
      refine zi_as (pNear day fw len) (by unfold pNear; repeat (first | rw [if_pos (by omega)] | rw [if_neg (by omega)])) ?_
      exact zs_iret hx hb hr hlk zd_P_nearestWorkday_29
set_option maxHeartbeats 4000000 in
set_option maxRecDepth 100000 in
theorem c_P_secondOf (l : Launch) (g : zGl) (pq : Nat) (hh mm ss : Int) : zSi l zy_P_secondOf zc_P_secondOf 4 (some .int) ({ frames := 0, cells := 0, slots := 0, locals := 0 }) g zN [.ref (pq), .int (iI (hh)), .int (iI (mm)), .int (iI (ss))] [] (some (.int (iI ((hh * 60 + mm) * 60 + ss)))) := by
  refine zs_open (by decide +kernel) (Nat.le_of_ble_eq_true rfl) ?_
  intro p e s m below meth c ls hx hb hml hr hlk hown hw hK hT hP hl
  have hown : s.vm.findClass "CronFinder$Plan" = some m.cls := hown
  have hl : lv_has ls 4 [(0, .ref (pq)), (1, .int (iI (hh))), (2, .int (iI (mm))), (3, .int (iI (ss)))] := hl
  refine lv_iload_n hx hb zd_P_secondOf_0 rfl (lv_at hl 1 rfl) ?_
  refine zi_bipush hx hb zd_P_secondOf_1 (by decide) ?_
  refine zi_imul hx hb zd_P_secondOf_3 ?_
  refine lv_iload_n hx hb zd_P_secondOf_4 rfl (lv_at hl 2 rfl) ?_
  refine zi_iadd hx hb zd_P_secondOf_5 ?_
  refine zi_bipush hx hb zd_P_secondOf_6 (by decide) ?_
  refine zi_imul hx hb zd_P_secondOf_8 ?_
  refine lv_iload_n hx hb zd_P_secondOf_9 rfl (lv_at hl 3 rfl) ?_
  refine zi_iadd hx hb zd_P_secondOf_10 ?_
  refine zi_as ((hh * 60 + mm) * 60 + ss) (rfl) ?_
  exact zs_iret hx hb hr hlk zd_P_secondOf_11
set_option maxHeartbeats 4000000 in
set_option maxRecDepth 100000 in
theorem c_P_firstSubject (l : Launch) (g : zGl) (pq : Nat) (ra : Nat → Nat) (rl : Nat) (sub od : Int) (bits : Nat → Bool) (fw : Int) (hd : 0 ≤ sub ∧ sub ≤ 100 ∧ 1 ≤ fw ∧ fw ≤ 7) : zSi l zy_P_firstSubject zc_P_firstSubject 2 (some .int) ({ frames := 1, cells := 0, slots := 0, locals := 22 }) g zN [.ref (pq), .int (iI (fw))] [(pq, .inr (3, [.ref (ra 0), .ref (ra 1), .ref (ra 2), .ref (ra 3), .ref (ra 4), .ref (ra 5), .ref (ra 6), .ref (rl), .int (iI (sub)), .int (iI (od)), .int (zbits (bits))]))] (some (.int (iI (1 + (sub - fw) % 7)))) := by
  refine zs_open (by decide +kernel) (Nat.le_of_ble_eq_true rfl) ?_
  intro p e s m below meth c ls hx hb hml hr hlk hown hw hK hT hP hl
  have hown : s.vm.findClass "CronFinder$Plan" = some m.cls := hown
  have hl : lv_has ls 2 [(0, .ref (pq)), (1, .int (iI (fw)))] := hl
  refine zi_iconst hx hb zd_P_firstSubject_0 ?_
  refine lv_aload_n hx hb zd_P_firstSubject_1 rfl (lv_at hl 0 rfl) ?_
  refine va_get (D := g.1) (ci := 3) (v := .int (iI (sub))) (C := zR_P) (T := zT_P) (N := 11) hx hb hw zin_P hown hK hP 0 rfl rfl 8 (by decide) (hw _ zw_1_66) (fun _ h9 => h9) rfl zd_P_firstSubject_2 ?_
  refine lv_iload_n hx hb zd_P_firstSubject_5 rfl (lv_at hl 1 rfl) ?_
  refine zi_isub hx hb zd_P_firstSubject_6 ?_
  refine zi_bipush hx hb zd_P_firstSubject_7 (by decide) ?_
  refine zk_S (As := [.int (iI (sub - fw)), .int (iI (7))]) (own := "CronFinder$Plan") (nL := 2) (rest := [.int (iI (1))]) hx hb hml hown hw (c_fm l g (sub - fw) (7) (by omega)) zw_3_93 zw_2_56 zw_1_14 zw_2_57 (np := 2) (by decide +kernel) rfl (by decide) zN_mv hK trivial (hP.sub (ws' := []) [] rfl) hl.1 rfl (Nat.le_of_ble_eq_true rfl) (by decide) zd_P_firstSubject_9 ?_
  refine zi_iadd hx hb zd_P_firstSubject_12 ?_
  refine zi_as (1 + (sub - fw) % 7) (rfl) ?_
  exact zs_iret hx hb hr hlk zd_P_firstSubject_13
set_option maxHeartbeats 4000000 in
set_option maxRecDepth 100000 in
theorem c_P_lastSubject (l : Launch) (g : zGl) (pq : Nat) (ra : Nat → Nat) (rl : Nat) (sub od : Int) (bits : Nat → Bool) (fw len : Int) (hd : 0 ≤ sub ∧ sub ≤ 100 ∧ 1 ≤ fw ∧ fw ≤ 7 ∧ 1 ≤ len ∧ len ≤ 31) : zSi l zy_P_lastSubject zc_P_lastSubject 3 (some .int) ({ frames := 1, cells := 0, slots := 0, locals := 22 }) g zN [.ref (pq), .int (iI (fw)), .int (iI (len))] [(pq, .inr (3, [.ref (ra 0), .ref (ra 1), .ref (ra 2), .ref (ra 3), .ref (ra 4), .ref (ra 5), .ref (ra 6), .ref (rl), .int (iI (sub)), .int (iI (od)), .int (zbits (bits))]))] (some (.int (iI (len - ((fw + len - 2) % 7 + 1 - sub) % 7)))) := by
  refine zs_open (by decide +kernel) (Nat.le_of_ble_eq_true rfl) ?_
  intro p e s m below meth c ls hx hb hml hr hlk hown hw hK hT hP hl
  have hown : s.vm.findClass "CronFinder$Plan" = some m.cls := hown
  have hl : lv_has ls 3 [(0, .ref (pq)), (1, .int (iI (fw))), (2, .int (iI (len)))] := hl
  refine lv_iload_n hx hb zd_P_lastSubject_0 rfl (lv_at hl 2 rfl) ?_
  refine lv_aload_n hx hb zd_P_lastSubject_1 rfl (lv_at hl 0 rfl) ?_
  refine lv_iload_n hx hb zd_P_lastSubject_2 rfl (lv_at hl 2 rfl) ?_
  refine lv_iload_n hx hb zd_P_lastSubject_3 rfl (lv_at hl 1 rfl) ?_
  refine zk_V (As := [.int (iI (len)), .int (iI (fw))]) (b := pq) (own := "CronFinder$Plan") (nL := 3) (rest := [.int (iI (len))]) hx hb hml hown hw (c_P_weekdayIn l g (pq) (len) (fw) (by omega)) zw_3_81 zw_3_83 zw_0_20 zw_1_2 zw_3_84 (np := 2) (by decide +kernel) rfl (by decide) zN_mv hK trivial (hP.sub (ws' := []) [] rfl) (va_recv hK hP (ci := 3) (q0 := 0) rfl rfl) hl.1 rfl (Nat.le_of_ble_eq_true rfl) (by decide) zd_P_lastSubject_4 ?_
  refine lv_aload_n hx hb zd_P_lastSubject_7 rfl (lv_at hl 0 rfl) ?_
  refine va_get (D := g.1) (ci := 3) (v := .int (iI (sub))) (C := zR_P) (T := zT_P) (N := 11) hx hb hw zin_P hown hK hP 0 rfl rfl 8 (by decide) (hw _ zw_1_66) (fun _ h9 => h9) rfl zd_P_lastSubject_8 ?_
  refine zi_isub hx hb zd_P_lastSubject_11 ?_
  refine zi_bipush hx hb zd_P_lastSubject_12 (by decide) ?_
  refine zk_S (As := [.int (iI (((fw + len - 2) % 7 + 1) - sub)), .int (iI (7))]) (own := "CronFinder$Plan") (nL := 3) (rest := [.int (iI (len))]) hx hb hml hown hw (c_fm l g (((fw + len - 2) % 7 + 1) - sub) (7) (by omega)) zw_3_93 zw_2_56 zw_1_14 zw_2_57 (np := 2) (by decide +kernel) rfl (by decide) zN_mv hK trivial (hP.sub (ws' := []) [] rfl) hl.1 rfl (Nat.le_of_ble_eq_true rfl) (by decide) zd_P_lastSubject_14 ?_
  refine zi_isub hx hb zd_P_lastSubject_17 ?_
  refine zi_as (len - ((fw + len - 2) % 7 + 1 - sub) % 7) (rfl) ?_
  exact zs_iret hx hb hr hlk zd_P_lastSubject_18
set_option maxHeartbeats 4000000 in
set_option maxRecDepth 100000 in
theorem c_P_row_0 (l : Launch) (g : zGl) (pq : Nat) (ra : Nat → Nat) (rl : Nat) (sub od : Int) (bits : Nat → Bool) : zSi l zy_P_row zc_P_row 2 (some (.object "CronFinder$Row")) ({ frames := 0, cells := 0, slots := 0, locals := 0 }) g zN [.ref (pq), .int (iI (0))] [(pq, .inr (3, [.ref (ra 0), .ref (ra 1), .ref (ra 2), .ref (ra 3), .ref (ra 4), .ref (ra 5), .ref (ra 6), .ref (rl), .int (iI (sub)), .int (iI (od)), .int (zbits (bits))]))] (some (.ref (ra 0))) := by
  refine zs_open (by decide +kernel) (Nat.le_of_ble_eq_true rfl) ?_
  intro p e s m below meth c ls hx hb hml hr hlk hown hw hK hT hP hl
  have hown : s.vm.findClass "CronFinder$Plan" = some m.cls := hown
  have hl : lv_has ls 2 [(0, .ref (pq)), (1, .int (iI (0)))] := hl
  refine lv_iload_n hx hb zd_P_row_0 rfl (lv_at hl 1 rfl) ?_
  refine lv_tableIn (off := 39) (tgt := 40) hx hb zd_P_row_1 (by decide) (by decide) (by decide) (by decide) ?_
  refine lv_aload_n hx hb zd_P_row_40 rfl (lv_at hl 0 rfl) ?_
  refine va_get (D := g.1) (ci := 3) (v := .ref (ra 0)) (C := zR_P) (T := zT_P) (N := 11) hx hb hw zin_P hown hK hP 0 rfl rfl 0 (by decide) (hw _ zw_1_58) (fun _ h9 => h9) rfl zd_P_row_41 ?_
  exact zs_aret hx hb hr hlk zd_P_row_44
set_option maxHeartbeats 4000000 in
set_option maxRecDepth 100000 in
theorem c_P_row_1 (l : Launch) (g : zGl) (pq : Nat) (ra : Nat → Nat) (rl : Nat) (sub od : Int) (bits : Nat → Bool) : zSi l zy_P_row zc_P_row 2 (some (.object "CronFinder$Row")) ({ frames := 0, cells := 0, slots := 0, locals := 0 }) g zN [.ref (pq), .int (iI (1))] [(pq, .inr (3, [.ref (ra 0), .ref (ra 1), .ref (ra 2), .ref (ra 3), .ref (ra 4), .ref (ra 5), .ref (ra 6), .ref (rl), .int (iI (sub)), .int (iI (od)), .int (zbits (bits))]))] (some (.ref (ra 1))) := by
  refine zs_open (by decide +kernel) (Nat.le_of_ble_eq_true rfl) ?_
  intro p e s m below meth c ls hx hb hml hr hlk hown hw hK hT hP hl
  have hown : s.vm.findClass "CronFinder$Plan" = some m.cls := hown
  have hl : lv_has ls 2 [(0, .ref (pq)), (1, .int (iI (1)))] := hl
  refine lv_iload_n hx hb zd_P_row_0 rfl (lv_at hl 1 rfl) ?_
  refine lv_tableIn (off := 44) (tgt := 45) hx hb zd_P_row_1 (by decide) (by decide) (by decide) (by decide) ?_
  refine lv_aload_n hx hb zd_P_row_45 rfl (lv_at hl 0 rfl) ?_
  refine va_get (D := g.1) (ci := 3) (v := .ref (ra 1)) (C := zR_P) (T := zT_P) (N := 11) hx hb hw zin_P hown hK hP 0 rfl rfl 1 (by decide) (hw _ zw_1_59) (fun _ h9 => h9) rfl zd_P_row_46 ?_
  exact zs_aret hx hb hr hlk zd_P_row_49
set_option maxHeartbeats 4000000 in
set_option maxRecDepth 100000 in
theorem c_P_row_2 (l : Launch) (g : zGl) (pq : Nat) (ra : Nat → Nat) (rl : Nat) (sub od : Int) (bits : Nat → Bool) : zSi l zy_P_row zc_P_row 2 (some (.object "CronFinder$Row")) ({ frames := 0, cells := 0, slots := 0, locals := 0 }) g zN [.ref (pq), .int (iI (2))] [(pq, .inr (3, [.ref (ra 0), .ref (ra 1), .ref (ra 2), .ref (ra 3), .ref (ra 4), .ref (ra 5), .ref (ra 6), .ref (rl), .int (iI (sub)), .int (iI (od)), .int (zbits (bits))]))] (some (.ref (ra 2))) := by
  refine zs_open (by decide +kernel) (Nat.le_of_ble_eq_true rfl) ?_
  intro p e s m below meth c ls hx hb hml hr hlk hown hw hK hT hP hl
  have hown : s.vm.findClass "CronFinder$Plan" = some m.cls := hown
  have hl : lv_has ls 2 [(0, .ref (pq)), (1, .int (iI (2)))] := hl
  refine lv_iload_n hx hb zd_P_row_0 rfl (lv_at hl 1 rfl) ?_
  refine lv_tableIn (off := 49) (tgt := 50) hx hb zd_P_row_1 (by decide) (by decide) (by decide) (by decide) ?_
  refine lv_aload_n hx hb zd_P_row_50 rfl (lv_at hl 0 rfl) ?_
  refine va_get (D := g.1) (ci := 3) (v := .ref (ra 2)) (C := zR_P) (T := zT_P) (N := 11) hx hb hw zin_P hown hK hP 0 rfl rfl 2 (by decide) (hw _ zw_1_60) (fun _ h9 => h9) rfl zd_P_row_51 ?_
  exact zs_aret hx hb hr hlk zd_P_row_54
set_option maxHeartbeats 4000000 in
set_option maxRecDepth 100000 in
theorem c_P_row_3 (l : Launch) (g : zGl) (pq : Nat) (ra : Nat → Nat) (rl : Nat) (sub od : Int) (bits : Nat → Bool) : zSi l zy_P_row zc_P_row 2 (some (.object "CronFinder$Row")) ({ frames := 0, cells := 0, slots := 0, locals := 0 }) g zN [.ref (pq), .int (iI (3))] [(pq, .inr (3, [.ref (ra 0), .ref (ra 1), .ref (ra 2), .ref (ra 3), .ref (ra 4), .ref (ra 5), .ref (ra 6), .ref (rl), .int (iI (sub)), .int (iI (od)), .int (zbits (bits))]))] (some (.ref (ra 3))) := by
  refine zs_open (by decide +kernel) (Nat.le_of_ble_eq_true rfl) ?_
  intro p e s m below meth c ls hx hb hml hr hlk hown hw hK hT hP hl
  have hown : s.vm.findClass "CronFinder$Plan" = some m.cls := hown
  have hl : lv_has ls 2 [(0, .ref (pq)), (1, .int (iI (3)))] := hl
  refine lv_iload_n hx hb zd_P_row_0 rfl (lv_at hl 1 rfl) ?_
  refine lv_tableIn (off := 54) (tgt := 55) hx hb zd_P_row_1 (by decide) (by decide) (by decide) (by decide) ?_
  refine lv_aload_n hx hb zd_P_row_55 rfl (lv_at hl 0 rfl) ?_
  refine va_get (D := g.1) (ci := 3) (v := .ref (ra 3)) (C := zR_P) (T := zT_P) (N := 11) hx hb hw zin_P hown hK hP 0 rfl rfl 3 (by decide) (hw _ zw_1_61) (fun _ h9 => h9) rfl zd_P_row_56 ?_
  exact zs_aret hx hb hr hlk zd_P_row_59
set_option maxHeartbeats 4000000 in
set_option maxRecDepth 100000 in
theorem c_P_row_4 (l : Launch) (g : zGl) (pq : Nat) (ra : Nat → Nat) (rl : Nat) (sub od : Int) (bits : Nat → Bool) : zSi l zy_P_row zc_P_row 2 (some (.object "CronFinder$Row")) ({ frames := 0, cells := 0, slots := 0, locals := 0 }) g zN [.ref (pq), .int (iI (4))] [(pq, .inr (3, [.ref (ra 0), .ref (ra 1), .ref (ra 2), .ref (ra 3), .ref (ra 4), .ref (ra 5), .ref (ra 6), .ref (rl), .int (iI (sub)), .int (iI (od)), .int (zbits (bits))]))] (some (.ref (ra 4))) := by
  refine zs_open (by decide +kernel) (Nat.le_of_ble_eq_true rfl) ?_
  intro p e s m below meth c ls hx hb hml hr hlk hown hw hK hT hP hl
  have hown : s.vm.findClass "CronFinder$Plan" = some m.cls := hown
  have hl : lv_has ls 2 [(0, .ref (pq)), (1, .int (iI (4)))] := hl
  refine lv_iload_n hx hb zd_P_row_0 rfl (lv_at hl 1 rfl) ?_
  refine lv_tableIn (off := 59) (tgt := 60) hx hb zd_P_row_1 (by decide) (by decide) (by decide) (by decide) ?_
  refine lv_aload_n hx hb zd_P_row_60 rfl (lv_at hl 0 rfl) ?_
  refine va_get (D := g.1) (ci := 3) (v := .ref (ra 4)) (C := zR_P) (T := zT_P) (N := 11) hx hb hw zin_P hown hK hP 0 rfl rfl 4 (by decide) (hw _ zw_1_62) (fun _ h9 => h9) rfl zd_P_row_61 ?_
  exact zs_aret hx hb hr hlk zd_P_row_64
set_option maxHeartbeats 4000000 in
set_option maxRecDepth 100000 in
theorem c_P_row_5 (l : Launch) (g : zGl) (pq : Nat) (ra : Nat → Nat) (rl : Nat) (sub od : Int) (bits : Nat → Bool) : zSi l zy_P_row zc_P_row 2 (some (.object "CronFinder$Row")) ({ frames := 0, cells := 0, slots := 0, locals := 0 }) g zN [.ref (pq), .int (iI (5))] [(pq, .inr (3, [.ref (ra 0), .ref (ra 1), .ref (ra 2), .ref (ra 3), .ref (ra 4), .ref (ra 5), .ref (ra 6), .ref (rl), .int (iI (sub)), .int (iI (od)), .int (zbits (bits))]))] (some (.ref (ra 5))) := by
  refine zs_open (by decide +kernel) (Nat.le_of_ble_eq_true rfl) ?_
  intro p e s m below meth c ls hx hb hml hr hlk hown hw hK hT hP hl
  have hown : s.vm.findClass "CronFinder$Plan" = some m.cls := hown
  have hl : lv_has ls 2 [(0, .ref (pq)), (1, .int (iI (5)))] := hl
  refine lv_iload_n hx hb zd_P_row_0 rfl (lv_at hl 1 rfl) ?_
  refine lv_tableIn (off := 64) (tgt := 65) hx hb zd_P_row_1 (by decide) (by decide) (by decide) (by decide) ?_
  refine lv_aload_n hx hb zd_P_row_65 rfl (lv_at hl 0 rfl) ?_
  refine va_get (D := g.1) (ci := 3) (v := .ref (ra 5)) (C := zR_P) (T := zT_P) (N := 11) hx hb hw zin_P hown hK hP 0 rfl rfl 5 (by decide) (hw _ zw_1_63) (fun _ h9 => h9) rfl zd_P_row_66 ?_
  exact zs_aret hx hb hr hlk zd_P_row_69
set_option maxHeartbeats 4000000 in
set_option maxRecDepth 100000 in
theorem c_P_row_6 (l : Launch) (g : zGl) (pq : Nat) (ra : Nat → Nat) (rl : Nat) (sub od : Int) (bits : Nat → Bool) : zSi l zy_P_row zc_P_row 2 (some (.object "CronFinder$Row")) ({ frames := 0, cells := 0, slots := 0, locals := 0 }) g zN [.ref (pq), .int (iI (6))] [(pq, .inr (3, [.ref (ra 0), .ref (ra 1), .ref (ra 2), .ref (ra 3), .ref (ra 4), .ref (ra 5), .ref (ra 6), .ref (rl), .int (iI (sub)), .int (iI (od)), .int (zbits (bits))]))] (some (.ref (ra 6))) := by
  refine zs_open (by decide +kernel) (Nat.le_of_ble_eq_true rfl) ?_
  intro p e s m below meth c ls hx hb hml hr hlk hown hw hK hT hP hl
  have hown : s.vm.findClass "CronFinder$Plan" = some m.cls := hown
  have hl : lv_has ls 2 [(0, .ref (pq)), (1, .int (iI (6)))] := hl
  refine lv_iload_n hx hb zd_P_row_0 rfl (lv_at hl 1 rfl) ?_
  refine lv_tableOut (tgt := 70) hx hb zd_P_row_1 (by decide) (by decide) ?_
  refine lv_aload_n hx hb zd_P_row_70 rfl (lv_at hl 0 rfl) ?_
  refine va_get (D := g.1) (ci := 3) (v := .ref (ra 6)) (C := zR_P) (T := zT_P) (N := 11) hx hb hw zin_P hown hK hP 0 rfl rfl 6 (by decide) (hw _ zw_1_64) (fun _ h9 => h9) rfl zd_P_row_71 ?_
  exact zs_aret hx hb hr hlk zd_P_row_74
theorem c_P_row (l : Launch) (g : zGl) (pq : Nat) (ra : Nat → Nat) (rl : Nat) (sub od : Int) (bits : Nat → Bool) (fd : Nat) (hf : fd < 7) : zSi l zy_P_row zc_P_row 2 (some (.object "CronFinder$Row")) ({ frames := 0, cells := 0, slots := 0, locals := 0 }) g zN [.ref pq, .int (iI (fd : Int))] [(pq, .inr (3, [.ref (ra 0), .ref (ra 1), .ref (ra 2), .ref (ra 3), .ref (ra 4), .ref (ra 5), .ref (ra 6), .ref (rl), .int (iI (sub)), .int (iI (od)), .int (zbits (bits))]))] (some (.ref (ra fd))) := by
  rcases (show fd = 0 ∨ fd = 1 ∨ fd = 2 ∨ fd = 3 ∨ fd = 4 ∨ fd = 5 ∨ fd = 6 by omega) with rfl | rfl | rfl | rfl | rfl | rfl | rfl
  · exact c_P_row_0 l g pq ra rl sub od bits
  · exact c_P_row_1 l g pq ra rl sub od bits
  · exact c_P_row_2 l g pq ra rl sub od bits
  · exact c_P_row_3 l g pq ra rl sub od bits
  · exact c_P_row_4 l g pq ra rl sub od bits
  · exact c_P_row_5 l g pq ra rl sub od bits
  · exact c_P_row_6 l g pq ra rl sub od bits
set_option maxHeartbeats 4000000 in
set_option maxRecDepth 100000 in
theorem c_P_choose (l : Launch) (g : zGl) (pq : Nat) (ra : Nat → Nat) (rl : Nat) (sub od : Int) (bits : Nat → Bool) (rl2 : Nat) (sub2 od2 : Int) : zWi l zy_P_choose zc_P_choose 4 none ({ frames := 0, cells := 0, slots := 0, locals := 0 }) g (fun _ => zN) [.ref (pq), .ref (rl2), .int (iI (sub2)), .int (iI (od2))] [(pq, .inr (3, [.ref (ra 0), .ref (ra 1), .ref (ra 2), .ref (ra 3), .ref (ra 4), .ref (ra 5), .ref (ra 6), .ref (rl), .int (iI (sub)), .int (iI (od)), .int (zbits (bits))]))] (none) [(pq, .inr (3, [.ref (ra 0), .ref (ra 1), .ref (ra 2), .ref (ra 3), .ref (ra 4), .ref (ra 5), .ref (ra 6), .ref (rl2), .int (iI (sub2)), .int (iI (od2)), .int (zbits (bits))]))] 0 0 := by
  refine zw_open (by decide +kernel) (Nat.le_of_ble_eq_true rfl) ?_
  intro p e s m below meth c ls A hx hb hml hr hlk hown hin hw hK hT hP hD hS hA hl
  have hown : s.vm.findClass "CronFinder$Plan" = some m.cls := hown
  have hl : lv_has ls 4 [(0, .ref (pq)), (1, .ref (rl2)), (2, .int (iI (sub2))), (3, .int (iI (od2)))] := hl
  refine lv_aload_n hx hb zd_P_choose_0 rfl (lv_at hl 0 rfl) ?_
  refine lv_aload_n hx hb zd_P_choose_1 rfl (lv_at hl 1 rfl) ?_
  refine va_put (D := g.1) (ci := 3) (v := .ref (rl2)) (ty := (.object "CronFinder$DayRule")) (C := zR_P) (T := zT_P) (N := 11) hx hb hw zin_P zt_P zto_P zn_P hown hK hP hD hS 0 rfl rfl 7 (by decide) (hw _ zw_1_65) (fun _ h9 => h9) rfl  (by decide +kernel) rfl rfl (Nat.le_of_ble_eq_true rfl) zd_P_choose_2 (fun H locs hP hD hS => ?_)
  have hP : va_P g.1 zCl [(pq, .inr (3, [.ref (ra 0), .ref (ra 1), .ref (ra 2), .ref (ra 3), .ref (ra 4), .ref (ra 5), .ref (ra 6), .ref (rl2), .int (iI (sub)), .int (iI (od)), .int (zbits (bits))]))] H := hP
  have hD : va_D A [(pq, .inr (3, [.ref (ra 0), .ref (ra 1), .ref (ra 2), .ref (ra 3), .ref (ra 4), .ref (ra 5), .ref (ra 6), .ref (rl2), .int (iI (sub)), .int (iI (od)), .int (zbits (bits))]))] := hD
  refine lv_aload_n hx hb zd_P_choose_5 rfl (lv_at hl 0 rfl) ?_
  refine lv_iload_n hx hb zd_P_choose_6 rfl (lv_at hl 2 rfl) ?_
  refine va_put (D := g.1) (ci := 3) (v := .int (iI (sub2))) (ty := .int) (C := zR_P) (T := zT_P) (N := 11) hx hb hw zin_P zt_P zto_P zn_P hown hK hP hD hS 0 rfl rfl 8 (by decide) (hw _ zw_1_66) (fun _ h9 => h9) rfl  (by decide +kernel) rfl rfl (Nat.le_of_ble_eq_true rfl) zd_P_choose_7 (fun H locs hP hD hS => ?_)
  have hP : va_P g.1 zCl [(pq, .inr (3, [.ref (ra 0), .ref (ra 1), .ref (ra 2), .ref (ra 3), .ref (ra 4), .ref (ra 5), .ref (ra 6), .ref (rl2), .int (iI (sub2)), .int (iI (od)), .int (zbits (bits))]))] H := hP
  have hD : va_D A [(pq, .inr (3, [.ref (ra 0), .ref (ra 1), .ref (ra 2), .ref (ra 3), .ref (ra 4), .ref (ra 5), .ref (ra 6), .ref (rl2), .int (iI (sub2)), .int (iI (od)), .int (zbits (bits))]))] := hD
  refine lv_aload_n hx hb zd_P_choose_10 rfl (lv_at hl 0 rfl) ?_
  refine lv_iload_n hx hb zd_P_choose_11 rfl (lv_at hl 3 rfl) ?_
  refine va_put (D := g.1) (ci := 3) (v := .int (iI (od2))) (ty := .int) (C := zR_P) (T := zT_P) (N := 11) hx hb hw zin_P zt_P zto_P zn_P hown hK hP hD hS 0 rfl rfl 9 (by decide) (hw _ zw_1_67) (fun _ h9 => h9) rfl  (by decide +kernel) rfl rfl (Nat.le_of_ble_eq_true rfl) zd_P_choose_12 (fun H locs hP hD hS => ?_)
  have hP : va_P g.1 zCl [(pq, .inr (3, [.ref (ra 0), .ref (ra 1), .ref (ra 2), .ref (ra 3), .ref (ra 4), .ref (ra 5), .ref (ra 6), .ref (rl2), .int (iI (sub2)), .int (iI (od2)), .int (zbits (bits))]))] H := hP
  have hD : va_D A [(pq, .inr (3, [.ref (ra 0), .ref (ra 1), .ref (ra 2), .ref (ra 3), .ref (ra 4), .ref (ra 5), .ref (ra 6), .ref (rl2), .int (iI (sub2)), .int (iI (od2)), .int (zbits (bits))]))] := hD
  exact zw_vret hx hb hr hlk (ws := [(pq, .inr (3, [.ref (ra 0), .ref (ra 1), .ref (ra 2), .ref (ra 3), .ref (ra 4), .ref (ra 5), .ref (ra 6), .ref (rl2), .int (iI (sub2)), .int (iI (od2)), .int (zbits (bits))]))]) hP hS zd_P_choose_15
theorem pLW_nx {f ff : Nat → Bool} {fw len dd : Int} (h : ∀ i : Nat, i < 32 → ff i = (decide ((i : Int) + 1 < dd) && oHas f 1 7 ((fw + ((i : Int) + 1) - 2) % 7 + 1))) (hq : oHas f 1 7 ((fw + dd - 2) % 7 + 1) = true) (hl : 1 ≤ dd ∧ dd ≤ len) : ∀ i : Nat, i < 32 → (ff i || pDB dd len i) = (decide ((i : Int) + 1 < dd + 1) && oHas f 1 7 ((fw + ((i : Int) + 1) - 2) % 7 + 1)) := by
  intro i hi
  rw [h i hi]
  unfold pDB
  by_cases e : (i : Int) + 1 = dd
  · rw [decide_eq_false (by omega : ¬ (i : Int) + 1 < dd), decide_eq_true (by omega : 1 ≤ dd ∧ dd ≤ len ∧ (i : Int) + 1 = dd), decide_eq_true (by omega : (i : Int) + 1 < dd + 1), e, hq]; rfl
  · rw [decide_eq_false (by omega : ¬ (1 ≤ dd ∧ dd ≤ len ∧ (i : Int) + 1 = dd)), Bool.or_false]
    congr 2
    simp only [eq_iff_iff]
    omega
theorem pLW_no {f ff : Nat → Bool} {fw dd : Int} (h : ∀ i : Nat, i < 32 → ff i = (decide ((i : Int) + 1 < dd) && oHas f 1 7 ((fw + ((i : Int) + 1) - 2) % 7 + 1))) (hq : oHas f 1 7 ((fw + dd - 2) % 7 + 1) = false) : ∀ i : Nat, i < 32 → ff i = (decide ((i : Int) + 1 < dd + 1) && oHas f 1 7 ((fw + ((i : Int) + 1) - 2) % 7 + 1)) := by
  intro i hi
  rw [h i hi]
  by_cases e : (i : Int) + 1 = dd
  · rw [e, hq, Bool.and_false, Bool.and_false]
  · congr 2
    simp only [eq_iff_iff]
    omega
set_option maxHeartbeats 4000000 in
set_option maxRecDepth 100000 in
theorem c_P_listedWeekdays (l : Launch) (g : zGl) (pq : Nat) (ra aa : Nat → Nat) (rl : Nat) (sub od : Int) (bits : Nat → Bool) (al : Nat → Nat → Bool) (fw len : Int) (hd : 1 ≤ fw ∧ fw ≤ 7 ∧ 1 ≤ len ∧ len ≤ 31) : zSi l zy_P_listedWeekdays zc_P_listedWeekdays 5 (some .int) ({ frames := 1, cells := 0, slots := 0, locals := 22 }) g zN [.ref (pq), .int (iI (fw)), .int (iI (len))] [(pq, .inr (3, [.ref (ra 0), .ref (ra 1), .ref (ra 2), .ref (ra 3), .ref (ra 4), .ref (ra 5), .ref (ra 6), .ref (rl), .int (iI (sub)), .int (iI (od)), .int (zbits (bits))])), (ra 5, .inr (2, [.int (iI (1)), .int (iI (7)), .ref (aa 5)])), (aa 5, .inl (g.2 1, 7, .inl (zaB (al 5))))] (some (.int (zbits (pLW (al 5) fw len)))) := by
  refine zs_open (by decide +kernel) (Nat.le_of_ble_eq_true rfl) ?_
  intro p e s m below meth c ls hx hb hml hr hlk hown hw hK hT hP hl
  have hown : s.vm.findClass "CronFinder$Plan" = some m.cls := hown
  have hl : lv_has ls 5 [(0, .ref (pq)), (1, .int (iI (fw))), (2, .int (iI (len)))] := hl
  refine zi_iconst hx hb zd_P_listedWeekdays_0 ?_
  refine lv_istore_n (lv' := [(3, .int (iI (0))), (0, .ref (pq)), (1, .int (iI (fw))), (2, .int (iI (len)))]) hx hb zd_P_listedWeekdays_1 rfl hl (by decide) rfl (fun ls hl => ?_)
  refine zi_iconst hx hb zd_P_listedWeekdays_2 ?_
  refine lv_istore (lv' := [(4, .int (iI (1))), (3, .int (iI (0))), (0, .ref (pq)), (1, .int (iI (fw))), (2, .int (iI (len)))]) hx hb zd_P_listedWeekdays_3 hl (by decide) rfl (fun ls hl => ?_)
  have loop : ∀ (n : Nat) (dd : Int) (ff : Nat → Bool) (ls : Array Slot), (1 ≤ dd ∧ dd ≤ len + 1) → (∀ i : Nat, i < 32 → ff i = (decide ((i : Int) + 1 < dd) && oHas (al 5) 1 7 ((fw + ((i : Int) + 1) - 2) % 7 + 1))) → ((len + 1 - dd).toNat < n) → lv_has ls 5 [(4, .int (iI (dd))), (3, .int (zbits (ff))), (0, .ref (pq)), (1, .int (iI (fw))), (2, .int (iI (len)))] → W p l e ({ frames := 1, cells := 0, slots := 0, locals := 22 }) s m [.ref (pq), .int (iI (fw)), .int (iI (len))].toArray below meth c s.heap [] 0 0 (MQ below (zSil (some (.int (zbits (pLW (al 5) fw len))))) [.ref (pq), .int (iI (fw)), .int (iI (len))].toArray s 0 0 (fun _ => False)) (F0 m 5 ls []) := by
    intro n
    induction n with
    | zero =>
      intro dd ff ls h1 h3 h2 hl
      exact absurd h2 (by omega)
    | succ n ih =>
      intro dd ff ls h1 h3 h2 hl
      refine lv_iload hx hb zd_P_listedWeekdays_5 (lv_at hl 0 rfl) ?_
      refine lv_iload_n hx hb zd_P_listedWeekdays_7 rfl (lv_at hl 4 rfl) ?_
      refine zi_icmp_gt (tgt := 44) hx hb zd_P_listedWeekdays_8 (by decide) (by omega) (fun c8 => ?_) (fun c8 => ?_)
      · refine lv_iload_n hx hb zd_P_listedWeekdays_44 rfl (lv_at hl 1 rfl) ?_
        refine zw_as (pLW (al 5) fw len) (zbits_fe fun i hi => by rw [h3 i hi]; unfold pLW; congr 2; simp only [eq_iff_iff]; omega) ?_
        exact zs_iret hx hb hr hlk zd_P_listedWeekdays_45
      · refine lv_aload_n hx hb zd_P_listedWeekdays_11 rfl (lv_at hl 2 rfl) ?_
        refine va_get (D := g.1) (ci := 3) (v := .ref (ra 5)) (C := zR_P) (T := zT_P) (N := 11) hx hb hw zin_P hown hK hP 0 rfl rfl 5 (by decide) (hw _ zw_1_63) (fun _ h9 => h9) rfl zd_P_listedWeekdays_12 ?_
        refine lv_aload_n hx hb zd_P_listedWeekdays_15 rfl (lv_at hl 2 rfl) ?_
        refine lv_iload hx hb zd_P_listedWeekdays_16 (lv_at hl 0 rfl) ?_
        refine lv_iload_n hx hb zd_P_listedWeekdays_18 rfl (lv_at hl 3 rfl) ?_
        refine zk_V (As := [.int (iI (dd)), .int (iI (fw))]) (b := pq) (own := "CronFinder$Plan") (nL := 5) (rest := [.ref (ra 5)]) hx hb hml hown hw (c_P_weekdayIn l g (pq) (dd) (fw) (by omega)) zw_3_81 zw_3_83 zw_0_20 zw_1_2 zw_3_84 (np := 2) (by decide +kernel) rfl (by decide) zN_mv hK trivial (hP.sub (ws' := []) [] rfl) (va_recv hK hP (ci := 3) (q0 := 0) rfl rfl) hl.1 rfl (Nat.le_of_ble_eq_true rfl) (by decide) zd_P_listedWeekdays_19 ?_
        refine zk_V (As := [.int (iI ((fw + dd - 2) % 7 + 1))]) (b := ra 5) (own := "CronFinder$Plan") (nL := 5) (rest := []) hx hb hml hown hw (c_O_has l g (ra 5) (aa 5) 1 7 7 (al 5) (by decide) ((fw + dd - 2) % 7 + 1) (by omega)) zw_2_188 zw_2_189 zw_2_190 zw_1_3 zw_2_191 (np := 1) (by decide +kernel) rfl (by decide) zN_mv hK trivial (hP.sub (ws' := [(ra 5, .inr (2, [.int (iI (1)), .int (iI (7)), .ref (aa 5)])), (aa 5, .inl (g.2 1, 7, .inl (zaB (al 5))))]) [1, 2] rfl) (va_recv hK hP (ci := 2) (q0 := 1) rfl rfl) hl.1 rfl (Nat.le_of_ble_eq_true rfl) (by decide) zd_P_listedWeekdays_22 ?_
        refine zb_if_eq (tgt := 38) hx hb zd_P_listedWeekdays_25 (by decide) (fun c25 => ?_) (fun c25 => ?_)
        · refine lv_iinc (v := iI (dd + 1)) (lv' := [(4, .int (iI (dd + 1))), (3, .int (zbits (ff))), (0, .ref (pq)), (1, .int (iI (fw))), (2, .int (iI (len)))]) hx hb zd_P_listedWeekdays_38 hl (k := 0) rfl (iI_add _ _) (by decide) rfl (fun ls hl => ?_)
          refine lv_goto (tgt := 5) hx hb zd_P_listedWeekdays_41 (by decide) ?_
          exact ih (dd + 1) _ ls (by omega) (pLW_no h3 c25) (by omega) (lv_sub hl [0, 1, 2, 3, 4] rfl)
        · refine lv_iload_n hx hb zd_P_listedWeekdays_28 rfl (lv_at hl 1 rfl) ?_
          refine lv_aload_n hx hb zd_P_listedWeekdays_29 rfl (lv_at hl 2 rfl) ?_
          refine lv_iload hx hb zd_P_listedWeekdays_30 (lv_at hl 0 rfl) ?_
          refine lv_iload_n hx hb zd_P_listedWeekdays_32 rfl (lv_at hl 4 rfl) ?_
          refine zk_V (As := [.int (iI (dd)), .int (iI (len))]) (b := pq) (own := "CronFinder$Plan") (nL := 5) (rest := [.int (zbits (ff))]) hx hb hml hown hw (c_P_dayBit l g (pq) (dd) (len) (by omega)) zw_3_73 zw_3_75 zw_0_18 zw_1_2 zw_3_76 (np := 2) (by decide +kernel) rfl (by decide) zN_mv hK trivial (hP.sub (ws' := []) [] rfl) (va_recv hK hP (ci := 3) (q0 := 0) rfl rfl) hl.1 rfl (Nat.le_of_ble_eq_true rfl) (by decide) zd_P_listedWeekdays_33 ?_
          refine lv_ior hx hb zd_P_listedWeekdays_36 ?_
          refine zw_as _ (zbits_or _ _) ?_
          refine lv_istore_n (lv' := [(3, .int (zbits (fun i => ff i || (pDB (dd) (len)) i))), (4, .int (iI (dd))), (0, .ref (pq)), (1, .int (iI (fw))), (2, .int (iI (len)))]) hx hb zd_P_listedWeekdays_37 rfl hl (by decide) rfl (fun ls hl => ?_)
          refine lv_iinc (v := iI (dd + 1)) (lv' := [(4, .int (iI (dd + 1))), (3, .int (zbits (fun i => ff i || (pDB (dd) (len)) i))), (0, .ref (pq)), (1, .int (iI (fw))), (2, .int (iI (len)))]) hx hb zd_P_listedWeekdays_38 hl (k := 1) rfl (iI_add _ _) (by decide) rfl (fun ls hl => ?_)
          refine lv_goto (tgt := 5) hx hb zd_P_listedWeekdays_41 (by decide) ?_
          exact ih (dd + 1) _ ls (by omega) (pLW_nx h3 c25 (by omega)) (by omega) (lv_sub hl [0, 1, 2, 3, 4] rfl)
  exact loop 40 1 (fun _ => false) ls (by omega) (fun i hi => by rw [decide_eq_false (by omega), Bool.false_and]) (by omega) (lv_sub hl [0, 1, 2, 3, 4] rfl)
