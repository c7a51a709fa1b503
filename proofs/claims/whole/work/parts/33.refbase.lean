/-! the reference: rows of arrays of arrays; what says the same of every object; date; peek -/
def zaR (f : Nat → Nat) : Nat → Option Nat := fun j => some (f j)
def zSg (tf : Nat → Int) : Nat → Int := fun j => if tf j < 128 then tf j else tf j - 256
theorem zSg_k : ∀ n : Fin 256, iI (if ((n.val : Nat) : Int) < 128 then ((n.val : Nat) : Int) else ((n.val : Nat) : Int) - 256) &&& iI 255 = iI ((n.val : Nat) : Int) := by decide +kernel
theorem zSg_a {tf : Nat → Int} {j : Nat} (h : 0 ≤ tf j ∧ tf j < 256) : iI (zSg tf j) &&& iI 255 = iI (tf j) := by
  have e := zSg_k ⟨(tf j).toNat, by omega⟩
  have e2 : (((tf j).toNat : Nat) : Int) = tf j := by omega
  dsimp only at e
  rw [e2] at e
  exact e
section ZAA
variable {p : Program} {l : Launch} {e : Env} {R : Room} {s : State} {m : MethodId} {args : Array Value} {below : List Frame} {meth : Method} {c : Code} {H : Heap} {locs : List Loc} {cells slots : Nat} {Q : State → Prop}
variable {cc : ByteArray} {pc : Nat} {ls : Array Slot} {rest : List Value} {D : va_G} {cl : List vw_C} {A : Nat → Prop} {a : Nat} {tys : List (ClassId × FieldType)} {ws : va_W} {H0 : Heap} {cA : ClassId} {n : Nat} {z : Int}
theorem zi_aald {f : Nat → Nat} {t : FieldType} {k : Nat} (hx : p.tables.exec = Jvm.exec) (hb : c.code = cc) (hK : va_K D cl tys s) (hP : va_P D cl ws H) (q0 t0 : Nat) (ha : ws[q0]? = some (a, .inl (cA, n, .inr (.inr (.inr (.inr (zaR f))))))) (ht : tys[t0]? = some (cA, .array t)) (h : 0 ≤ z ∧ z < (n : Int) ∧ z < 2147483648) (hk : z.toNat = k) (hdg : decode cc pc = .ok (.aaload, 1))
    (kk : W p l e R s m args below meth c H locs cells slots Q (F0 m (pc + 1) ls (.ref (f k) :: rest))) : W p l e R s m args below meth c H locs cells slots Q (F0 m pc ls (.int (iI z) :: .ref a :: rest)) := by
  have hlt : (iI z).toNatClampNeg < n := by rw [iI_cl (by omega)]; omega
  have e : (iI z).toNatClampNeg = k := by rw [iI_cl (by omega)]; exact hk
  have hin := iI_in (z := z) (n := n) h
  exact W.aald (v := .ref (f k)) (ty := .array t) hx hb (hP q0 _ ha) ((hK.2 t0 _ ht).1 n (fun j => va_rf (zaR f j))) rfl (fun q => by cases q) (by show ¬ (iI z < 0 ∨ (arrV _ _ _).slots.size ≤ _); rw [arrV_size]; exact hin) (by show (arrV _ _ _).slots[_]? = _; rw [arrV_read _ _ hlt, e]; rfl) rfl rfl hdg kk
theorem zi_aaldS {f : Nat → Nat} {C : String} {k : Nat} (hx : p.tables.exec = Jvm.exec) (hb : c.code = cc) (hK : va_K D cl tys s) (hP : va_P D cl ws H) (q0 t0 : Nat) (ha : ws[q0]? = some (a, .inl (cA, n, .inr (.inr (.inr (.inr (zaR f))))))) (ht : tys[t0]? = some (cA, .object C)) (h : 0 ≤ z ∧ z < (n : Int) ∧ z < 2147483648) (hk : z.toNat = k) (hdg : decode cc pc = .ok (.aaload, 1))
    (kk : W p l e R s m args below meth c H locs cells slots Q (F0 m (pc + 1) ls (.ref (f k) :: rest))) : W p l e R s m args below meth c H locs cells slots Q (F0 m pc ls (.int (iI z) :: .ref a :: rest)) := by
  have e : (iI z).toNatClampNeg = k := by rw [iI_cl (by omega)]; exact hk
  exact va_aldq hx hb hK hP q0 t0 ha ht (iI_in h) hdg (by rw [e]; exact kk)
end ZAA
def qDg (c : Int) : Bool := decide (48 ≤ c) && decide (c ≤ 57)
def qLt (c : Int) : Bool := decide (65 ≤ c) && decide (c ≤ 90)
theorem qDg_i (c : Int) : qDg c = true ↔ 48 ≤ c ∧ c ≤ 57 := by simp [qDg]
theorem qLt_i (c : Int) : qLt c = true ↔ 65 ≤ c ∧ c ≤ 90 := by simp [qLt]
theorem bN {b : Bool} {P : Prop} (h : b = true ↔ P) (hn : ¬ P) : b = false := by cases b <;> simp_all
theorem dLeap_y (y : Int) : dLeap y = true ↔ y % 4 = 0 ∧ (¬ y % 100 = 0 ∨ y % 400 = 0) := by simp [dLeap]
theorem rk_rg (tf : Nat → Int) (ln a : Int) (hch : ∀ j : Nat, 0 ≤ tf j ∧ tf j < 256) : -1 ≤ rk tf ln a ∧ rk tf ln a < 256 := by
  unfold rk
  have := hch a.toNat
  split <;> omega
theorem qN_rg {y m : Int} (h : 1970 ≤ y ∧ y ≤ 2300 ∧ 1 ≤ m ∧ m ≤ 12) : 0 ≤ dM0 ((y - 1970) * 12 + (m - 1)) ∧ dM0 ((y - 1970) * 12 + (m - 1)) ≤ 130000 := by
  have h1 := dM0_le (show 0 ≤ (y - 1970) * 12 + (m - 1) by omega)
  rw [dM0_0] at h1
  omega
theorem qY_up {n : Int} (h : 0 ≤ n) : n < dY0 (1970 + n / 365 + 1) := by
  have h1 := dY0_le (show 1970 ≤ 1970 + n / 365 + 1 by omega)
  have e0 : dY0 1970 = 0 := by decide
  omega
theorem dM0_y {y : Int} : dM0 ((y - 1970) * 12 + (1 - 1)) = dY0 y := by
  rw [show (y - 1970) * 12 + (1 - 1) = 12 * (y - 1970) by omega, dM0_12, show 1970 + (y - 1970) = y by omega]
theorem dM0_yk {y k : Int} (h : 1 ≤ k ∧ k ≤ 12) : dM0 ((y - 1970) * 12 + (k - 1) + 1) = dM0 ((y - 1970) * 12 + (k - 1)) + dMl y (k - 1) := by
  rw [dM0_s, show ((y - 1970) * 12 + (k - 1)) / 12 = y - 1970 by omega, show ((y - 1970) * 12 + (k - 1)) % 12 = k - 1 by omega, show 1970 + (y - 1970) = y by omega]
theorem zd_Q_leap_0 : decode zc_Q_leap 0 = .ok (.iload_n 0, 1) := by decide +kernel
theorem zd_Q_leap_1 : decode zc_Q_leap 1 = .ok (.iconst 4, 1) := by decide +kernel
theorem zd_Q_leap_2 : decode zc_Q_leap 2 = .ok (.irem, 1) := by decide +kernel
theorem zd_Q_leap_3 : decode zc_Q_leap 3 = .ok (.ifCond .ne 10, 3) := by decide +kernel
theorem zd_Q_leap_6 : decode zc_Q_leap 6 = .ok (.iload_n 0, 1) := by decide +kernel
theorem zd_Q_leap_7 : decode zc_Q_leap 7 = .ok (.bipush 100, 2) := by decide +kernel
theorem zd_Q_leap_9 : decode zc_Q_leap 9 = .ok (.irem, 1) := by decide +kernel
theorem zd_Q_leap_10 : decode zc_Q_leap 10 = .ok (.ifCond .ne 11, 3) := by decide +kernel
theorem zd_Q_leap_13 : decode zc_Q_leap 13 = .ok (.iload_n 0, 1) := by decide +kernel
theorem zd_Q_leap_14 : decode zc_Q_leap 14 = .ok (.sipush 400, 3) := by decide +kernel
theorem zd_Q_leap_17 : decode zc_Q_leap 17 = .ok (.irem, 1) := by decide +kernel
theorem zd_Q_leap_18 : decode zc_Q_leap 18 = .ok (.ifCond .ne 7, 3) := by decide +kernel
theorem zd_Q_leap_21 : decode zc_Q_leap 21 = .ok (.iconst 1, 1) := by decide +kernel
theorem zd_Q_leap_22 : decode zc_Q_leap 22 = .ok (.goto 4, 3) := by decide +kernel
theorem zd_Q_leap_25 : decode zc_Q_leap 25 = .ok (.iconst 0, 1) := by decide +kernel
theorem zd_Q_leap_26 : decode zc_Q_leap 26 = .ok (.ireturn, 1) := by decide +kernel
theorem zd_Q_length_0 : decode zc_Q_length 0 = .ok (.iload_n 1, 1) := by decide +kernel
theorem zd_Q_length_1 : decode zc_Q_length 1 = .ok (.iconst 2, 1) := by decide +kernel
theorem zd_Q_length_2 : decode zc_Q_length 2 = .ok (.if_icmp .ne 20, 3) := by decide +kernel
theorem zd_Q_length_5 : decode zc_Q_length 5 = .ok (.iload_n 0, 1) := by decide +kernel
theorem zd_Q_length_6 : decode zc_Q_length 6 = .ok (.invokestatic 96, 3) := by decide +kernel
theorem zd_Q_length_9 : decode zc_Q_length 9 = .ok (.ifCond .eq 8, 3) := by decide +kernel
theorem zd_Q_length_12 : decode zc_Q_length 12 = .ok (.bipush 29, 2) := by decide +kernel
theorem zd_Q_length_14 : decode zc_Q_length 14 = .ok (.goto 38, 3) := by decide +kernel
theorem zd_Q_length_17 : decode zc_Q_length 17 = .ok (.bipush 28, 2) := by decide +kernel
theorem zd_Q_length_19 : decode zc_Q_length 19 = .ok (.goto 33, 3) := by decide +kernel
theorem zd_Q_length_22 : decode zc_Q_length 22 = .ok (.iload_n 1, 1) := by decide +kernel
theorem zd_Q_length_23 : decode zc_Q_length 23 = .ok (.iconst 4, 1) := by decide +kernel
theorem zd_Q_length_24 : decode zc_Q_length 24 = .ok (.if_icmp .eq 21, 3) := by decide +kernel
theorem zd_Q_length_27 : decode zc_Q_length 27 = .ok (.iload_n 1, 1) := by decide +kernel
theorem zd_Q_length_28 : decode zc_Q_length 28 = .ok (.bipush 6, 2) := by decide +kernel
theorem zd_Q_length_30 : decode zc_Q_length 30 = .ok (.if_icmp .eq 15, 3) := by decide +kernel
theorem zd_Q_length_33 : decode zc_Q_length 33 = .ok (.iload_n 1, 1) := by decide +kernel
theorem zd_Q_length_34 : decode zc_Q_length 34 = .ok (.bipush 9, 2) := by decide +kernel
theorem zd_Q_length_36 : decode zc_Q_length 36 = .ok (.if_icmp .eq 9, 3) := by decide +kernel
theorem zd_Q_length_39 : decode zc_Q_length 39 = .ok (.iload_n 1, 1) := by decide +kernel
theorem zd_Q_length_40 : decode zc_Q_length 40 = .ok (.bipush 11, 2) := by decide +kernel
theorem zd_Q_length_42 : decode zc_Q_length 42 = .ok (.if_icmp .ne 8, 3) := by decide +kernel
theorem zd_Q_length_45 : decode zc_Q_length 45 = .ok (.bipush 30, 2) := by decide +kernel
theorem zd_Q_length_47 : decode zc_Q_length 47 = .ok (.goto 5, 3) := by decide +kernel
theorem zd_Q_length_50 : decode zc_Q_length 50 = .ok (.bipush 31, 2) := by decide +kernel
theorem zd_Q_length_52 : decode zc_Q_length 52 = .ok (.ireturn, 1) := by decide +kernel
theorem zd_Q_number_0 : decode zc_Q_number 0 = .ok (.iload_n 0, 1) := by decide +kernel
theorem zd_Q_number_1 : decode zc_Q_number 1 = .ok (.iconst 1, 1) := by decide +kernel
theorem zd_Q_number_2 : decode zc_Q_number 2 = .ok (.isub, 1) := by decide +kernel
theorem zd_Q_number_3 : decode zc_Q_number 3 = .ok (.istore_n 2, 1) := by decide +kernel
theorem zd_Q_number_4 : decode zc_Q_number 4 = .ok (.sipush 365, 3) := by decide +kernel
theorem zd_Q_number_7 : decode zc_Q_number 7 = .ok (.iload_n 0, 1) := by decide +kernel
theorem zd_Q_number_8 : decode zc_Q_number 8 = .ok (.sipush 1970, 3) := by decide +kernel
theorem zd_Q_number_11 : decode zc_Q_number 11 = .ok (.isub, 1) := by decide +kernel
theorem zd_Q_number_12 : decode zc_Q_number 12 = .ok (.imul, 1) := by decide +kernel
theorem zd_Q_number_13 : decode zc_Q_number 13 = .ok (.iload_n 2, 1) := by decide +kernel
theorem zd_Q_number_14 : decode zc_Q_number 14 = .ok (.iconst 4, 1) := by decide +kernel
theorem zd_Q_number_15 : decode zc_Q_number 15 = .ok (.idiv, 1) := by decide +kernel
theorem zd_Q_number_16 : decode zc_Q_number 16 = .ok (.iadd, 1) := by decide +kernel
theorem zd_Q_number_17 : decode zc_Q_number 17 = .ok (.iload_n 2, 1) := by decide +kernel
theorem zd_Q_number_18 : decode zc_Q_number 18 = .ok (.bipush 100, 2) := by decide +kernel
theorem zd_Q_number_20 : decode zc_Q_number 20 = .ok (.idiv, 1) := by decide +kernel
theorem zd_Q_number_21 : decode zc_Q_number 21 = .ok (.isub, 1) := by decide +kernel
theorem zd_Q_number_22 : decode zc_Q_number 22 = .ok (.iload_n 2, 1) := by decide +kernel
theorem zd_Q_number_23 : decode zc_Q_number 23 = .ok (.sipush 400, 3) := by decide +kernel
theorem zd_Q_number_26 : decode zc_Q_number 26 = .ok (.idiv, 1) := by decide +kernel
theorem zd_Q_number_27 : decode zc_Q_number 27 = .ok (.iadd, 1) := by decide +kernel
theorem zd_Q_number_28 : decode zc_Q_number 28 = .ok (.sipush 477, 3) := by decide +kernel
theorem zd_Q_number_31 : decode zc_Q_number 31 = .ok (.isub, 1) := by decide +kernel
theorem zd_Q_number_32 : decode zc_Q_number 32 = .ok (.istore_n 3, 1) := by decide +kernel
theorem zd_Q_number_33 : decode zc_Q_number 33 = .ok (.iconst 1, 1) := by decide +kernel
theorem zd_Q_number_34 : decode zc_Q_number 34 = .ok (.istore 4, 2) := by decide +kernel
theorem zd_Q_number_36 : decode zc_Q_number 36 = .ok (.iload 4, 2) := by decide +kernel
theorem zd_Q_number_38 : decode zc_Q_number 38 = .ok (.iload_n 1, 1) := by decide +kernel
theorem zd_Q_number_39 : decode zc_Q_number 39 = .ok (.if_icmp .ge 18, 3) := by decide +kernel
theorem zd_Q_number_42 : decode zc_Q_number 42 = .ok (.iload_n 3, 1) := by decide +kernel
theorem zd_Q_number_43 : decode zc_Q_number 43 = .ok (.iload_n 0, 1) := by decide +kernel
theorem zd_Q_number_44 : decode zc_Q_number 44 = .ok (.iload 4, 2) := by decide +kernel
theorem zd_Q_number_46 : decode zc_Q_number 46 = .ok (.invokestatic 100, 3) := by decide +kernel
theorem zd_Q_number_49 : decode zc_Q_number 49 = .ok (.iadd, 1) := by decide +kernel
theorem zd_Q_number_50 : decode zc_Q_number 50 = .ok (.istore_n 3, 1) := by decide +kernel
theorem zd_Q_number_51 : decode zc_Q_number 51 = .ok (.iinc 4 1, 3) := by decide +kernel
theorem zd_Q_number_54 : decode zc_Q_number 54 = .ok (.goto (-18), 3) := by decide +kernel
theorem zd_Q_number_57 : decode zc_Q_number 57 = .ok (.iload_n 3, 1) := by decide +kernel
theorem zd_Q_number_58 : decode zc_Q_number 58 = .ok (.ireturn, 1) := by decide +kernel
theorem zd_Q_date_0 : decode zc_Q_date 0 = .ok (.aload_n 0, 1) := by decide +kernel
theorem zd_Q_date_1 : decode zc_Q_date 1 = .ok (.sipush 1970, 3) := by decide +kernel
theorem zd_Q_date_4 : decode zc_Q_date 4 = .ok (.iload_n 1, 1) := by decide +kernel
theorem zd_Q_date_5 : decode zc_Q_date 5 = .ok (.sipush 365, 3) := by decide +kernel
theorem zd_Q_date_8 : decode zc_Q_date 8 = .ok (.invokestatic 104, 3) := by decide +kernel
theorem zd_Q_date_11 : decode zc_Q_date 11 = .ok (.iadd, 1) := by decide +kernel
theorem zd_Q_date_12 : decode zc_Q_date 12 = .ok (.putfield 109, 3) := by decide +kernel
theorem zd_Q_date_15 : decode zc_Q_date 15 = .ok (.aload_n 0, 1) := by decide +kernel
theorem zd_Q_date_16 : decode zc_Q_date 16 = .ok (.getfield 109, 3) := by decide +kernel
theorem zd_Q_date_19 : decode zc_Q_date 19 = .ok (.iconst 1, 1) := by decide +kernel
theorem zd_Q_date_20 : decode zc_Q_date 20 = .ok (.invokestatic 112, 3) := by decide +kernel
theorem zd_Q_date_23 : decode zc_Q_date 23 = .ok (.iload_n 1, 1) := by decide +kernel
theorem zd_Q_date_24 : decode zc_Q_date 24 = .ok (.if_icmp .le 16, 3) := by decide +kernel
theorem zd_Q_date_27 : decode zc_Q_date 27 = .ok (.aload_n 0, 1) := by decide +kernel
theorem zd_Q_date_28 : decode zc_Q_date 28 = .ok (.dup, 1) := by decide +kernel
theorem zd_Q_date_29 : decode zc_Q_date 29 = .ok (.getfield 109, 3) := by decide +kernel
theorem zd_Q_date_32 : decode zc_Q_date 32 = .ok (.iconst 1, 1) := by decide +kernel
theorem zd_Q_date_33 : decode zc_Q_date 33 = .ok (.isub, 1) := by decide +kernel
theorem zd_Q_date_34 : decode zc_Q_date 34 = .ok (.putfield 109, 3) := by decide +kernel
theorem zd_Q_date_37 : decode zc_Q_date 37 = .ok (.goto (-22), 3) := by decide +kernel
theorem zd_Q_date_40 : decode zc_Q_date 40 = .ok (.iload_n 1, 1) := by decide +kernel
theorem zd_Q_date_41 : decode zc_Q_date 41 = .ok (.aload_n 0, 1) := by decide +kernel
theorem zd_Q_date_42 : decode zc_Q_date 42 = .ok (.getfield 109, 3) := by decide +kernel
theorem zd_Q_date_45 : decode zc_Q_date 45 = .ok (.iconst 1, 1) := by decide +kernel
theorem zd_Q_date_46 : decode zc_Q_date 46 = .ok (.invokestatic 112, 3) := by decide +kernel
theorem zd_Q_date_49 : decode zc_Q_date 49 = .ok (.isub, 1) := by decide +kernel
theorem zd_Q_date_50 : decode zc_Q_date 50 = .ok (.istore_n 2, 1) := by decide +kernel
theorem zd_Q_date_51 : decode zc_Q_date 51 = .ok (.aload_n 0, 1) := by decide +kernel
theorem zd_Q_date_52 : decode zc_Q_date 52 = .ok (.iconst 1, 1) := by decide +kernel
theorem zd_Q_date_53 : decode zc_Q_date 53 = .ok (.putfield 115, 3) := by decide +kernel
theorem zd_Q_date_56 : decode zc_Q_date 56 = .ok (.iload_n 2, 1) := by decide +kernel
theorem zd_Q_date_57 : decode zc_Q_date 57 = .ok (.aload_n 0, 1) := by decide +kernel
theorem zd_Q_date_58 : decode zc_Q_date 58 = .ok (.getfield 109, 3) := by decide +kernel
theorem zd_Q_date_61 : decode zc_Q_date 61 = .ok (.aload_n 0, 1) := by decide +kernel
theorem zd_Q_date_62 : decode zc_Q_date 62 = .ok (.getfield 115, 3) := by decide +kernel
theorem zd_Q_date_65 : decode zc_Q_date 65 = .ok (.invokestatic 100, 3) := by decide +kernel
theorem zd_Q_date_68 : decode zc_Q_date 68 = .ok (.if_icmp .lt 30, 3) := by decide +kernel
theorem zd_Q_date_71 : decode zc_Q_date 71 = .ok (.iload_n 2, 1) := by decide +kernel
theorem zd_Q_date_72 : decode zc_Q_date 72 = .ok (.aload_n 0, 1) := by decide +kernel
theorem zd_Q_date_73 : decode zc_Q_date 73 = .ok (.getfield 109, 3) := by decide +kernel
theorem zd_Q_date_76 : decode zc_Q_date 76 = .ok (.aload_n 0, 1) := by decide +kernel
theorem zd_Q_date_77 : decode zc_Q_date 77 = .ok (.getfield 115, 3) := by decide +kernel
theorem zd_Q_date_80 : decode zc_Q_date 80 = .ok (.invokestatic 100, 3) := by decide +kernel
theorem zd_Q_date_83 : decode zc_Q_date 83 = .ok (.isub, 1) := by decide +kernel
theorem zd_Q_date_84 : decode zc_Q_date 84 = .ok (.istore_n 2, 1) := by decide +kernel
theorem zd_Q_date_85 : decode zc_Q_date 85 = .ok (.aload_n 0, 1) := by decide +kernel
theorem zd_Q_date_86 : decode zc_Q_date 86 = .ok (.dup, 1) := by decide +kernel
theorem zd_Q_date_87 : decode zc_Q_date 87 = .ok (.getfield 115, 3) := by decide +kernel
theorem zd_Q_date_90 : decode zc_Q_date 90 = .ok (.iconst 1, 1) := by decide +kernel
theorem zd_Q_date_91 : decode zc_Q_date 91 = .ok (.iadd, 1) := by decide +kernel
theorem zd_Q_date_92 : decode zc_Q_date 92 = .ok (.putfield 115, 3) := by decide +kernel
theorem zd_Q_date_95 : decode zc_Q_date 95 = .ok (.goto (-39), 3) := by decide +kernel
theorem zd_Q_date_98 : decode zc_Q_date 98 = .ok (.aload_n 0, 1) := by decide +kernel
theorem zd_Q_date_99 : decode zc_Q_date 99 = .ok (.iload_n 2, 1) := by decide +kernel
theorem zd_Q_date_100 : decode zc_Q_date 100 = .ok (.iconst 1, 1) := by decide +kernel
theorem zd_Q_date_101 : decode zc_Q_date 101 = .ok (.iadd, 1) := by decide +kernel
theorem zd_Q_date_102 : decode zc_Q_date 102 = .ok (.putfield 118, 3) := by decide +kernel
theorem zd_Q_date_105 : decode zc_Q_date 105 = .ok (.return_, 1) := by decide +kernel
theorem zd_Q_weekday_0 : decode zc_Q_weekday 0 = .ok (.iload_n 0, 1) := by decide +kernel
theorem zd_Q_weekday_1 : decode zc_Q_weekday 1 = .ok (.iconst 4, 1) := by decide +kernel
theorem zd_Q_weekday_2 : decode zc_Q_weekday 2 = .ok (.iadd, 1) := by decide +kernel
theorem zd_Q_weekday_3 : decode zc_Q_weekday 3 = .ok (.bipush 7, 2) := by decide +kernel
theorem zd_Q_weekday_5 : decode zc_Q_weekday 5 = .ok (.invokestatic 121, 3) := by decide +kernel
theorem zd_Q_weekday_8 : decode zc_Q_weekday 8 = .ok (.iconst 1, 1) := by decide +kernel
theorem zd_Q_weekday_9 : decode zc_Q_weekday 9 = .ok (.iadd, 1) := by decide +kernel
theorem zd_Q_weekday_10 : decode zc_Q_weekday 10 = .ok (.ireturn, 1) := by decide +kernel
theorem zd_Q_digit_0 : decode zc_Q_digit 0 = .ok (.iload_n 0, 1) := by decide +kernel
theorem zd_Q_digit_1 : decode zc_Q_digit 1 = .ok (.bipush 48, 2) := by decide +kernel
theorem zd_Q_digit_3 : decode zc_Q_digit 3 = .ok (.if_icmp .lt 13, 3) := by decide +kernel
theorem zd_Q_digit_6 : decode zc_Q_digit 6 = .ok (.iload_n 0, 1) := by decide +kernel
theorem zd_Q_digit_7 : decode zc_Q_digit 7 = .ok (.bipush 57, 2) := by decide +kernel
theorem zd_Q_digit_9 : decode zc_Q_digit 9 = .ok (.if_icmp .gt 7, 3) := by decide +kernel
theorem zd_Q_digit_12 : decode zc_Q_digit 12 = .ok (.iconst 1, 1) := by decide +kernel
theorem zd_Q_digit_13 : decode zc_Q_digit 13 = .ok (.goto 4, 3) := by decide +kernel
theorem zd_Q_digit_16 : decode zc_Q_digit 16 = .ok (.iconst 0, 1) := by decide +kernel
theorem zd_Q_digit_17 : decode zc_Q_digit 17 = .ok (.ireturn, 1) := by decide +kernel
theorem zd_Q_letter_0 : decode zc_Q_letter 0 = .ok (.iload_n 0, 1) := by decide +kernel
theorem zd_Q_letter_1 : decode zc_Q_letter 1 = .ok (.bipush 65, 2) := by decide +kernel
theorem zd_Q_letter_3 : decode zc_Q_letter 3 = .ok (.if_icmp .lt 13, 3) := by decide +kernel
theorem zd_Q_letter_6 : decode zc_Q_letter 6 = .ok (.iload_n 0, 1) := by decide +kernel
theorem zd_Q_letter_7 : decode zc_Q_letter 7 = .ok (.bipush 90, 2) := by decide +kernel
theorem zd_Q_letter_9 : decode zc_Q_letter 9 = .ok (.if_icmp .gt 7, 3) := by decide +kernel
theorem zd_Q_letter_12 : decode zc_Q_letter 12 = .ok (.iconst 1, 1) := by decide +kernel
theorem zd_Q_letter_13 : decode zc_Q_letter 13 = .ok (.goto 4, 3) := by decide +kernel
theorem zd_Q_letter_16 : decode zc_Q_letter 16 = .ok (.iconst 0, 1) := by decide +kernel
theorem zd_Q_letter_17 : decode zc_Q_letter 17 = .ok (.ireturn, 1) := by decide +kernel
theorem zd_Q_peek_0 : decode zc_Q_peek 0 = .ok (.aload_n 0, 1) := by decide +kernel
theorem zd_Q_peek_1 : decode zc_Q_peek 1 = .ok (.getfield 127, 3) := by decide +kernel
theorem zd_Q_peek_4 : decode zc_Q_peek 4 = .ok (.aload_n 0, 1) := by decide +kernel
theorem zd_Q_peek_5 : decode zc_Q_peek 5 = .ok (.getfield 130, 3) := by decide +kernel
theorem zd_Q_peek_8 : decode zc_Q_peek 8 = .ok (.if_icmp .ge 19, 3) := by decide +kernel
theorem zd_Q_peek_11 : decode zc_Q_peek 11 = .ok (.aload_n 0, 1) := by decide +kernel
theorem zd_Q_peek_12 : decode zc_Q_peek 12 = .ok (.getfield 7, 3) := by decide +kernel
theorem zd_Q_peek_15 : decode zc_Q_peek 15 = .ok (.aload_n 0, 1) := by decide +kernel
theorem zd_Q_peek_16 : decode zc_Q_peek 16 = .ok (.getfield 127, 3) := by decide +kernel
theorem zd_Q_peek_19 : decode zc_Q_peek 19 = .ok (.baload, 1) := by decide +kernel
theorem zd_Q_peek_20 : decode zc_Q_peek 20 = .ok (.sipush 255, 3) := by decide +kernel
theorem zd_Q_peek_23 : decode zc_Q_peek 23 = .ok (.iand, 1) := by decide +kernel
theorem zd_Q_peek_24 : decode zc_Q_peek 24 = .ok (.goto 4, 3) := by decide +kernel
theorem zd_Q_peek_27 : decode zc_Q_peek 27 = .ok (.iconst (-1), 1) := by decide +kernel
theorem zd_Q_peek_28 : decode zc_Q_peek 28 = .ok (.ireturn, 1) := by decide +kernel
theorem zd_Q_thrown_0 : decode zc_Q_thrown 0 = .ok (.aload_n 0, 1) := by decide +kernel
theorem zd_Q_thrown_1 : decode zc_Q_thrown 1 = .ok (.getfield 93, 3) := by decide +kernel
theorem zd_Q_thrown_4 : decode zc_Q_thrown 4 = .ok (.ireturn, 1) := by decide +kernel
theorem zd_Q_fail_0 : decode zc_Q_fail 0 = .ok (.aload_n 0, 1) := by decide +kernel
theorem zd_Q_fail_1 : decode zc_Q_fail 1 = .ok (.iload_n 1, 1) := by decide +kernel
theorem zd_Q_fail_2 : decode zc_Q_fail 2 = .ok (.putfield 93, 3) := by decide +kernel
theorem zd_Q_fail_5 : decode zc_Q_fail 5 = .ok (.iconst 0, 1) := by decide +kernel
theorem zd_Q_fail_6 : decode zc_Q_fail 6 = .ok (.ireturn, 1) := by decide +kernel
theorem zd_Q_place_0 : decode zc_Q_place 0 = .ok (.aload_n 0, 1) := by decide +kernel
theorem zd_Q_place_1 : decode zc_Q_place 1 = .ok (.iconst 0, 1) := by decide +kernel
theorem zd_Q_place_2 : decode zc_Q_place 2 = .ok (.putfield 93, 3) := by decide +kernel
theorem zd_Q_place_5 : decode zc_Q_place 5 = .ok (.aload_n 0, 1) := by decide +kernel
theorem zd_Q_place_6 : decode zc_Q_place 6 = .ok (.getfield 13, 3) := by decide +kernel
theorem zd_Q_place_9 : decode zc_Q_place 9 = .ok (.ireturn, 1) := by decide +kernel
set_option maxHeartbeats 4000000 in
set_option maxRecDepth 100000 in
theorem c_fd (l : Launch) (g : zGl) (a b : Int) (h : 0 ≤ a ∧ a < 2147483648 ∧ 0 < b ∧ b < 2147483648) : zSi l zy_JM_floorDiv zc_JM_floorDiv 3 (some .int) ({ frames := 0, cells := 0, slots := 0, locals := 0 }) g zN [.int (iI a), .int (iI b)] [] (some (.int (iI (a / b)))) := by
  refine zs_open (by decide +kernel) (Nat.le_of_ble_eq_true rfl) ?_
  intro p e s m below meth c ls hx hb hml hr hlk hown hw hK hT hP hl
  have hl : lv_has ls 3 [(0, .int (iI a)), (1, .int (iI b))] := hl
  refine lv_iload_n hx hb zd_JM_floorDiv_0 rfl (lv_at hl 0 rfl) ?_
  refine lv_iload_n hx hb zd_JM_floorDiv_1 rfl (lv_at hl 1 rfl) ?_
  refine zi_idiv hx hb zd_JM_floorDiv_2 h ?_
  refine lv_istore_n (lv' := [(2, .int (iI (a / b))), (0, .int (iI a)), (1, .int (iI b))]) hx hb zd_JM_floorDiv_3 rfl hl (by decide) rfl (fun ls hl => ?_)
  refine lv_iload_n hx hb zd_JM_floorDiv_4 rfl (lv_at hl 1 rfl) ?_
  refine lv_iload_n hx hb zd_JM_floorDiv_5 rfl (lv_at hl 2 rfl) ?_
  refine zi_xorge (tgt := 21) hx hb (by omega) zd_JM_floorDiv_6 zd_JM_floorDiv_7 (by decide) (fun _ => ?_) (fun q => absurd q (by omega))
  refine lv_iload_n hx hb zd_JM_floorDiv_21 rfl (lv_at hl 0 rfl) ?_
  exact zs_iret hx hb hr hlk zd_JM_floorDiv_22
set_option maxHeartbeats 4000000 in
set_option maxRecDepth 100000 in
theorem c_Q_digit (l : Launch) (g : zGl) (x : Int) (hx0 : -2147483648 ≤ x ∧ x < 2147483648) : zSi l zy_Q_digit zc_Q_digit 1 (some .boolean) ({ frames := 0, cells := 0, slots := 0, locals := 0 }) g zN [.int (iI (x))] [] (some (.int (iI (bI (qDg x))))) := by
  refine zs_open (by decide +kernel) (Nat.le_of_ble_eq_true rfl) ?_
  intro p e s m below meth c ls hx hb hml hr hlk hown hw hK hT hP hl
  have hown : s.vm.findClass "CronFinderModel" = some m.cls := hown
  have hl : lv_has ls 1 [(0, .int (iI (x)))] := hl
  refine lv_iload_n hx hb zd_Q_digit_0 rfl (lv_at hl 0 rfl) ?_
  refine zi_bipush hx hb zd_Q_digit_1 (by decide) ?_
  refine zi_icmp_lt (tgt := 16) hx hb zd_Q_digit_3 (by decide) (by omega) (fun c3 => ?_) (fun c3 => ?_)
  · refine zi_iconst hx hb zd_Q_digit_16 ?_
    refine zb_as (x := qDg x) (by first | exact bI_t ((qDg_i _).mpr (by omega)) | exact bI_f (bN (qDg_i _) (by omega))) ?_
    exact zs_zret hx hb hr hlk zd_Q_digit_17
  · refine lv_iload_n hx hb zd_Q_digit_6 rfl (lv_at hl 0 rfl) ?_
    refine zi_bipush hx hb zd_Q_digit_7 (by decide) ?_
    refine zi_icmp_gt (tgt := 16) hx hb zd_Q_digit_9 (by decide) (by omega) (fun c9 => ?_) (fun c9 => ?_)
    · refine zi_iconst hx hb zd_Q_digit_16 ?_
      refine zb_as (x := qDg x) (by first | exact bI_t ((qDg_i _).mpr (by omega)) | exact bI_f (bN (qDg_i _) (by omega))) ?_
      exact zs_zret hx hb hr hlk zd_Q_digit_17
    · refine zi_iconst hx hb zd_Q_digit_12 ?_
      refine lv_goto (tgt := 17) hx hb zd_Q_digit_13 (by decide) ?_
      refine zb_as (x := qDg x) (by first | exact bI_t ((qDg_i _).mpr (by omega)) | exact bI_f (bN (qDg_i _) (by omega))) ?_
      exact zs_zret hx hb hr hlk zd_Q_digit_17
set_option maxHeartbeats 4000000 in
set_option maxRecDepth 100000 in
theorem c_Q_letter (l : Launch) (g : zGl) (x : Int) (hx0 : -2147483648 ≤ x ∧ x < 2147483648) : zSi l zy_Q_letter zc_Q_letter 1 (some .boolean) ({ frames := 0, cells := 0, slots := 0, locals := 0 }) g zN [.int (iI (x))] [] (some (.int (iI (bI (qLt x))))) := by
  refine zs_open (by decide +kernel) (Nat.le_of_ble_eq_true rfl) ?_
  intro p e s m below meth c ls hx hb hml hr hlk hown hw hK hT hP hl
  have hown : s.vm.findClass "CronFinderModel" = some m.cls := hown
  have hl : lv_has ls 1 [(0, .int (iI (x)))] := hl
  refine lv_iload_n hx hb zd_Q_letter_0 rfl (lv_at hl 0 rfl) ?_
  refine zi_bipush hx hb zd_Q_letter_1 (by decide) ?_
  refine zi_icmp_lt (tgt := 16) hx hb zd_Q_letter_3 (by decide) (by omega) (fun c3 => ?_) (fun c3 => ?_)
  · refine zi_iconst hx hb zd_Q_letter_16 ?_
    refine zb_as (x := qLt x) (by first | exact bI_t ((qLt_i _).mpr (by omega)) | exact bI_f (bN (qLt_i _) (by omega))) ?_
    exact zs_zret hx hb hr hlk zd_Q_letter_17
  · refine lv_iload_n hx hb zd_Q_letter_6 rfl (lv_at hl 0 rfl) ?_
    refine zi_bipush hx hb zd_Q_letter_7 (by decide) ?_
    refine zi_icmp_gt (tgt := 16) hx hb zd_Q_letter_9 (by decide) (by omega) (fun c9 => ?_) (fun c9 => ?_)
    · refine zi_iconst hx hb zd_Q_letter_16 ?_
      refine zb_as (x := qLt x) (by first | exact bI_t ((qLt_i _).mpr (by omega)) | exact bI_f (bN (qLt_i _) (by omega))) ?_
      exact zs_zret hx hb hr hlk zd_Q_letter_17
    · refine zi_iconst hx hb zd_Q_letter_12 ?_
      refine lv_goto (tgt := 17) hx hb zd_Q_letter_13 (by decide) ?_
      refine zb_as (x := qLt x) (by first | exact bI_t ((qLt_i _).mpr (by omega)) | exact bI_f (bN (qLt_i _) (by omega))) ?_
      exact zs_zret hx hb hr hlk zd_Q_letter_17
set_option maxHeartbeats 4000000 in
set_option maxRecDepth 100000 in
theorem c_Q_leap (l : Launch) (g : zGl) (y : Int) (hx0 : 0 ≤ y ∧ y < 2147483648) : zSi l zy_Q_leap zc_Q_leap 1 (some .boolean) ({ frames := 0, cells := 0, slots := 0, locals := 0 }) g zN [.int (iI (y))] [] (some (.int (iI (bI (dLeap y))))) := by
  refine zs_open (by decide +kernel) (Nat.le_of_ble_eq_true rfl) ?_
  intro p e s m below meth c ls hx hb hml hr hlk hown hw hK hT hP hl
  have hown : s.vm.findClass "CronFinderModel" = some m.cls := hown
  have hl : lv_has ls 1 [(0, .int (iI (y)))] := hl
  refine lv_iload_n hx hb zd_Q_leap_0 rfl (lv_at hl 0 rfl) ?_
  refine zi_iconst hx hb zd_Q_leap_1 ?_
  refine zi_irem hx hb zd_Q_leap_2 (by omega) ?_
  refine zi_if_ne (tgt := 13) hx hb zd_Q_leap_3 (by decide) (by omega) (fun c3 => ?_) (fun c3 => ?_)
  · refine lv_iload_n hx hb zd_Q_leap_13 rfl (lv_at hl 0 rfl) ?_
    refine zi_sipush hx hb zd_Q_leap_14 (by decide) ?_
    refine zi_irem hx hb zd_Q_leap_17 (by omega) ?_
    refine zi_if_ne (tgt := 25) hx hb zd_Q_leap_18 (by decide) (by omega) (fun c18 => ?_) (fun c18 => ?_)
    · refine zi_iconst hx hb zd_Q_leap_25 ?_
      refine zb_as (x := dLeap y) (by first | exact bI_t ((dLeap_y _).mpr (by omega)) | exact bI_f (bN (dLeap_y _) (by omega))) ?_
      exact zs_zret hx hb hr hlk zd_Q_leap_26
    · refine zi_iconst hx hb zd_Q_leap_21 ?_
      refine lv_goto (tgt := 26) hx hb zd_Q_leap_22 (by decide) ?_
      refine zb_as (x := dLeap y) (by first | exact bI_t ((dLeap_y _).mpr (by omega)) | exact bI_f (bN (dLeap_y _) (by omega))) ?_
      exact zs_zret hx hb hr hlk zd_Q_leap_26
  · refine lv_iload_n hx hb zd_Q_leap_6 rfl (lv_at hl 0 rfl) ?_
    refine zi_bipush hx hb zd_Q_leap_7 (by decide) ?_
    refine zi_irem hx hb zd_Q_leap_9 (by omega) ?_
    refine zi_if_ne (tgt := 21) hx hb zd_Q_leap_10 (by decide) (by omega) (fun c10 => ?_) (fun c10 => ?_)
    · refine zi_iconst hx hb zd_Q_leap_21 ?_
      refine lv_goto (tgt := 26) hx hb zd_Q_leap_22 (by decide) ?_
      refine zb_as (x := dLeap y) (by first | exact bI_t ((dLeap_y _).mpr (by omega)) | exact bI_f (bN (dLeap_y _) (by omega))) ?_
      exact zs_zret hx hb hr hlk zd_Q_leap_26
    · refine lv_iload_n hx hb zd_Q_leap_13 rfl (lv_at hl 0 rfl) ?_
      refine zi_sipush hx hb zd_Q_leap_14 (by decide) ?_
      refine zi_irem hx hb zd_Q_leap_17 (by omega) ?_
      refine zi_if_ne (tgt := 25) hx hb zd_Q_leap_18 (by decide) (by omega) (fun c18 => ?_) (fun c18 => ?_)
      · refine zi_iconst hx hb zd_Q_leap_25 ?_
        refine zb_as (x := dLeap y) (by first | exact bI_t ((dLeap_y _).mpr (by omega)) | exact bI_f (bN (dLeap_y _) (by omega))) ?_
        exact zs_zret hx hb hr hlk zd_Q_leap_26
      · refine zi_iconst hx hb zd_Q_leap_21 ?_
        refine lv_goto (tgt := 26) hx hb zd_Q_leap_22 (by decide) ?_
        refine zb_as (x := dLeap y) (by first | exact bI_t ((dLeap_y _).mpr (by omega)) | exact bI_f (bN (dLeap_y _) (by omega))) ?_
        exact zs_zret hx hb hr hlk zd_Q_leap_26
set_option maxHeartbeats 4000000 in
set_option maxRecDepth 100000 in
theorem c_Q_length (l : Launch) (g : zGl) (y k : Int) (hx0 : 0 ≤ y ∧ y < 2147483648 ∧ 1 ≤ k ∧ k ≤ 12) : zSi l zy_Q_length zc_Q_length 2 (some .int) ({ frames := 1, cells := 0, slots := 0, locals := 20 }) g zN [.int (iI (y)), .int (iI (k))] [] (some (.int (iI (dMl y (k - 1))))) := by
  refine zs_open (by decide +kernel) (Nat.le_of_ble_eq_true rfl) ?_
  intro p e s m below meth c ls hx hb hml hr hlk hown hw hK hT hP hl
  have hown : s.vm.findClass "CronFinderModel" = some m.cls := hown
  have hl : lv_has ls 2 [(0, .int (iI (y))), (1, .int (iI (k)))] := hl
  refine lv_iload_n hx hb zd_Q_length_0 rfl (lv_at hl 1 rfl) ?_
  refine zi_iconst hx hb zd_Q_length_1 ?_
  refine zi_icmp_ne (tgt := 22) hx hb zd_Q_length_2 (by decide) (by omega) (fun c2 => ?_) (fun c2 => ?_)
  · refine lv_iload_n hx hb zd_Q_length_22 rfl (lv_at hl 1 rfl) ?_
    refine zi_iconst hx hb zd_Q_length_23 ?_
    refine zi_icmp_eq (tgt := 45) hx hb zd_Q_length_24 (by decide) (by omega) (fun c24 => ?_) (fun c24 => ?_)
    · refine zi_bipush hx hb zd_Q_length_45 (by decide) ?_
      refine lv_goto (tgt := 52) hx hb zd_Q_length_47 (by decide) ?_
      refine zi_as (dMl y (k - 1)) (by first | (rw [dMl, if_pos (by omega), c9]; rfl) | (rw [dMl, if_neg (by omega), if_pos (by omega)]) | (rw [dMl, if_neg (by omega), if_neg (by omega)])) ?_
      exact zs_iret hx hb hr hlk zd_Q_length_52
    · refine lv_iload_n hx hb zd_Q_length_27 rfl (lv_at hl 1 rfl) ?_
      refine zi_bipush hx hb zd_Q_length_28 (by decide) ?_
      refine zi_icmp_eq (tgt := 45) hx hb zd_Q_length_30 (by decide) (by omega) (fun c30 => ?_) (fun c30 => ?_)
      · refine zi_bipush hx hb zd_Q_length_45 (by decide) ?_
        refine lv_goto (tgt := 52) hx hb zd_Q_length_47 (by decide) ?_
        refine zi_as (dMl y (k - 1)) (by first | (rw [dMl, if_pos (by omega), c9]; rfl) | (rw [dMl, if_neg (by omega), if_pos (by omega)]) | (rw [dMl, if_neg (by omega), if_neg (by omega)])) ?_
        exact zs_iret hx hb hr hlk zd_Q_length_52
      · refine lv_iload_n hx hb zd_Q_length_33 rfl (lv_at hl 1 rfl) ?_
        refine zi_bipush hx hb zd_Q_length_34 (by decide) ?_
        refine zi_icmp_eq (tgt := 45) hx hb zd_Q_length_36 (by decide) (by omega) (fun c36 => ?_) (fun c36 => ?_)
        · refine zi_bipush hx hb zd_Q_length_45 (by decide) ?_
          refine lv_goto (tgt := 52) hx hb zd_Q_length_47 (by decide) ?_
          refine zi_as (dMl y (k - 1)) (by first | (rw [dMl, if_pos (by omega), c9]; rfl) | (rw [dMl, if_neg (by omega), if_pos (by omega)]) | (rw [dMl, if_neg (by omega), if_neg (by omega)])) ?_
          exact zs_iret hx hb hr hlk zd_Q_length_52
        · refine lv_iload_n hx hb zd_Q_length_39 rfl (lv_at hl 1 rfl) ?_
          refine zi_bipush hx hb zd_Q_length_40 (by decide) ?_
          refine zi_icmp_ne (tgt := 50) hx hb zd_Q_length_42 (by decide) (by omega) (fun c42 => ?_) (fun c42 => ?_)
          · refine zi_bipush hx hb zd_Q_length_50 (by decide) ?_
            refine zi_as (dMl y (k - 1)) (by first | (rw [dMl, if_pos (by omega), c9]; rfl) | (rw [dMl, if_neg (by omega), if_pos (by omega)]) | (rw [dMl, if_neg (by omega), if_neg (by omega)])) ?_
            exact zs_iret hx hb hr hlk zd_Q_length_52
          · refine zi_bipush hx hb zd_Q_length_45 (by decide) ?_
            refine lv_goto (tgt := 52) hx hb zd_Q_length_47 (by decide) ?_
            refine zi_as (dMl y (k - 1)) (by first | (rw [dMl, if_pos (by omega), c9]; rfl) | (rw [dMl, if_neg (by omega), if_pos (by omega)]) | (rw [dMl, if_neg (by omega), if_neg (by omega)])) ?_
            exact zs_iret hx hb hr hlk zd_Q_length_52
  · refine lv_iload_n hx hb zd_Q_length_5 rfl (lv_at hl 0 rfl) ?_
    refine zk_S (As := [.int (iI (y))]) (own := "CronFinderModel") (nL := 2) (rest := []) hx hb hml hown hw (c_Q_leap l g (y) (by omega)) zw_4_132 zw_4_133 zw_1_7 zw_4_134 (np := 1) (by decide +kernel) rfl (by decide) zN_mv hK trivial (hP.sub (ws' := []) [] rfl) hl.1 rfl (Nat.le_of_ble_eq_true rfl) (by decide) zd_Q_length_6 ?_
    refine zb_if_eq (tgt := 17) hx hb zd_Q_length_9 (by decide) (fun c9 => ?_) (fun c9 => ?_)
    · refine zi_bipush hx hb zd_Q_length_17 (by decide) ?_
      refine lv_goto (tgt := 52) hx hb zd_Q_length_19 (by decide) ?_
      refine zi_as (dMl y (k - 1)) (by first | (rw [dMl, if_pos (by omega), c9]; rfl) | (rw [dMl, if_neg (by omega), if_pos (by omega)]) | (rw [dMl, if_neg (by omega), if_neg (by omega)])) ?_
      exact zs_iret hx hb hr hlk zd_Q_length_52
    · refine zi_bipush hx hb zd_Q_length_12 (by decide) ?_
      refine lv_goto (tgt := 52) hx hb zd_Q_length_14 (by decide) ?_
      refine zi_as (dMl y (k - 1)) (by first | (rw [dMl, if_pos (by omega), c9]; rfl) | (rw [dMl, if_neg (by omega), if_pos (by omega)]) | (rw [dMl, if_neg (by omega), if_neg (by omega)])) ?_
      exact zs_iret hx hb hr hlk zd_Q_length_52
set_option maxHeartbeats 4000000 in
set_option maxRecDepth 100000 in
theorem c_Q_weekday (l : Launch) (g : zGl) (n : Int) (hx0 : 0 ≤ n ∧ n < 2000000000) : zSi l zy_Q_weekday zc_Q_weekday 1 (some .int) ({ frames := 1, cells := 0, slots := 0, locals := 22 }) g zN [.int (iI (n))] [] (some (.int (iI ((n + 4) % 7 + 1)))) := by
  refine zs_open (by decide +kernel) (Nat.le_of_ble_eq_true rfl) ?_
  intro p e s m below meth c ls hx hb hml hr hlk hown hw hK hT hP hl
  have hown : s.vm.findClass "CronFinderModel" = some m.cls := hown
  have hl : lv_has ls 1 [(0, .int (iI (n)))] := hl
  refine lv_iload_n hx hb zd_Q_weekday_0 rfl (lv_at hl 0 rfl) ?_
  refine zi_iconst hx hb zd_Q_weekday_1 ?_
  refine zi_iadd hx hb zd_Q_weekday_2 ?_
  refine zi_bipush hx hb zd_Q_weekday_3 (by decide) ?_
  refine zk_S (As := [.int (iI (n + 4)), .int (iI (7))]) (own := "CronFinderModel") (nL := 1) (rest := []) hx hb hml hown hw (c_fm l g (n + 4) (7) (by omega)) zw_4_90 zw_2_56 zw_1_14 zw_2_57 (np := 2) (by decide +kernel) rfl (by decide) zN_mv hK trivial (hP.sub (ws' := []) [] rfl) hl.1 rfl (Nat.le_of_ble_eq_true rfl) (by decide) zd_Q_weekday_5 ?_
  refine zi_iconst hx hb zd_Q_weekday_8 ?_
  refine zi_iadd hx hb zd_Q_weekday_9 ?_
  refine zi_as ((n + 4) % 7 + 1) (rfl) ?_
  exact zs_iret hx hb hr hlk zd_Q_weekday_10
set_option maxHeartbeats 4000000 in
set_option maxRecDepth 100000 in
theorem c_Q_number (l : Launch) (g : zGl) (y mo : Int) (hx0 : 1970 ≤ y ∧ y ≤ 2300 ∧ 1 ≤ mo ∧ mo ≤ 12) : zSi l zy_Q_number zc_Q_number 5 (some .int) ({ frames := 2, cells := 0, slots := 0, locals := 41 }) g zN [.int (iI (y)), .int (iI (mo))] [] (some (.int (iI (dM0 ((y - 1970) * 12 + (mo - 1)))))) := by
  refine zs_open (by decide +kernel) (Nat.le_of_ble_eq_true rfl) ?_
  intro p e s m below meth c ls hx hb hml hr hlk hown hw hK hT hP hl
  have hown : s.vm.findClass "CronFinderModel" = some m.cls := hown
  have hl : lv_has ls 5 [(0, .int (iI (y))), (1, .int (iI (mo)))] := hl
  refine lv_iload_n hx hb zd_Q_number_0 rfl (lv_at hl 0 rfl) ?_
  refine zi_iconst hx hb zd_Q_number_1 ?_
  refine zi_isub hx hb zd_Q_number_2 ?_
  refine lv_istore_n (lv' := [(2, .int (iI (y - 1))), (0, .int (iI (y))), (1, .int (iI (mo)))]) hx hb zd_Q_number_3 rfl hl (by decide) rfl (fun ls hl => ?_)
  refine zi_sipush hx hb zd_Q_number_4 (by decide) ?_
  refine lv_iload_n hx hb zd_Q_number_7 rfl (lv_at hl 1 rfl) ?_
  refine zi_sipush hx hb zd_Q_number_8 (by decide) ?_
  refine zi_isub hx hb zd_Q_number_11 ?_
  refine zi_imul hx hb zd_Q_number_12 ?_
  refine lv_iload_n hx hb zd_Q_number_13 rfl (lv_at hl 0 rfl) ?_
  refine zi_iconst hx hb zd_Q_number_14 ?_
  refine zi_idiv hx hb zd_Q_number_15 (by omega) ?_
  refine zi_iadd hx hb zd_Q_number_16 ?_
  refine lv_iload_n hx hb zd_Q_number_17 rfl (lv_at hl 0 rfl) ?_
  refine zi_bipush hx hb zd_Q_number_18 (by decide) ?_
  refine zi_idiv hx hb zd_Q_number_20 (by omega) ?_
  refine zi_isub hx hb zd_Q_number_21 ?_
  refine lv_iload_n hx hb zd_Q_number_22 rfl (lv_at hl 0 rfl) ?_
  refine zi_sipush hx hb zd_Q_number_23 (by decide) ?_
  refine zi_idiv hx hb zd_Q_number_26 (by omega) ?_
  refine zi_iadd hx hb zd_Q_number_27 ?_
  refine zi_sipush hx hb zd_Q_number_28 (by decide) ?_
  refine zi_isub hx hb zd_Q_number_31 ?_
  refine lv_istore_n (lv' := [(3, .int (iI (((((365 * (y - 1970)) + ((y - 1) / 4)) - ((y - 1) / 100)) + ((y - 1) / 400)) - 477))), (2, .int (iI (y - 1))), (0, .int (iI (y))), (1, .int (iI (mo)))]) hx hb zd_Q_number_32 rfl hl (by decide) rfl (fun ls hl => ?_)
  refine zi_iconst hx hb zd_Q_number_33 ?_
  refine lv_istore (lv' := [(4, .int (iI (1))), (3, .int (iI (((((365 * (y - 1970)) + ((y - 1) / 4)) - ((y - 1) / 100)) + ((y - 1) / 400)) - 477))), (2, .int (iI (y - 1))), (0, .int (iI (y))), (1, .int (iI (mo)))]) hx hb zd_Q_number_34 hl (by decide) rfl (fun ls hl => ?_)
  have loop : ∀ (n9 : Nat) (k v : Int) (ls : Array Slot), (1 ≤ k ∧ k ≤ mo) → (v = dM0 ((y - 1970) * 12 + (k - 1))) → ((mo - k).toNat < n9) → lv_has ls 5 [(4, .int (iI (k))), (3, .int (iI (v))), (2, .int (iI (y - 1))), (0, .int (iI (y))), (1, .int (iI (mo)))] → W p l e ({ frames := 2, cells := 0, slots := 0, locals := 41 }) s m [.int (iI (y)), .int (iI (mo))].toArray below meth c s.heap [] 0 0 (MQ below (zSil (some (.int (iI (dM0 ((y - 1970) * 12 + (mo - 1))))))) [.int (iI (y)), .int (iI (mo))].toArray s 0 0 (fun _ => False)) (F0 m 36 ls []) := by
    intro n9
    induction n9 with
    | zero =>
      intro k v ls hk hv h2 hl
      exact absurd h2 (by omega)
    | succ n9 ih =>
      intro k v ls hk hv h2 hl
      refine lv_iload hx hb zd_Q_number_36 (lv_at hl 0 rfl) ?_
      refine lv_iload_n hx hb zd_Q_number_38 rfl (lv_at hl 4 rfl) ?_
      refine zi_icmp_ge (tgt := 57) hx hb zd_Q_number_39 (by decide) (by omega) (fun c39 => ?_) (fun c39 => ?_)
      · refine lv_iload_n hx hb zd_Q_number_57 rfl (lv_at hl 1 rfl) ?_
        refine zi_as (dM0 ((y - 1970) * 12 + (mo - 1))) (by rw [hv, show k = mo by omega]) ?_
        exact zs_iret hx hb hr hlk zd_Q_number_58
      · refine lv_iload_n hx hb zd_Q_number_42 rfl (lv_at hl 1 rfl) ?_
        refine lv_iload_n hx hb zd_Q_number_43 rfl (lv_at hl 3 rfl) ?_
        refine lv_iload hx hb zd_Q_number_44 (lv_at hl 0 rfl) ?_
        refine zk_S (As := [.int (iI (y)), .int (iI (k))]) (own := "CronFinderModel") (nL := 5) (rest := [.int (iI (v))]) hx hb hml hown hw (c_Q_length l g (y) (k) (by omega)) zw_4_129 zw_4_130 zw_1_7 zw_4_131 (np := 2) (by decide +kernel) rfl (by decide) zN_mv hK trivial (hP.sub (ws' := []) [] rfl) hl.1 rfl (Nat.le_of_ble_eq_true rfl) (by decide) zd_Q_number_46 ?_
        have hq46 := dMl_rg (y) (k - 1)
        refine zi_iadd hx hb zd_Q_number_49 ?_
        refine lv_istore_n (lv' := [(3, .int (iI (v + (dMl (y) (k - 1))))), (4, .int (iI (k))), (2, .int (iI (y - 1))), (0, .int (iI (y))), (1, .int (iI (mo)))]) hx hb zd_Q_number_50 rfl hl (by decide) rfl (fun ls hl => ?_)
        refine lv_iinc (v := iI (k + 1)) (lv' := [(4, .int (iI (k + 1))), (3, .int (iI (v + (dMl (y) (k - 1))))), (2, .int (iI (y - 1))), (0, .int (iI (y))), (1, .int (iI (mo)))]) hx hb zd_Q_number_51 hl (k := 1) rfl (iI_add _ _) (by decide) rfl (fun ls hl => ?_)
        refine lv_goto (tgt := 36) hx hb zd_Q_number_54 (by decide) ?_
        have hz := dM0_yk (y := y) (k := k) (by omega)
        exact ih (k + 1) _ ls (by omega) (by rw [hv, show (y - 1970) * 12 + (k + 1 - 1) = (y - 1970) * 12 + (k - 1) + 1 by omega, hz]) (by omega) (lv_sub hl [0, 1, 2, 3, 4] rfl)
  exact loop 20 1 _ ls (by omega) (by rw [dM0_y]; unfold dY0; omega) (by omega) (lv_sub hl [0, 1, 2, 3, 4] rfl)
set_option maxHeartbeats 4000000 in
set_option maxRecDepth 100000 in
theorem c_Q_peek (l : Launch) (g : zGl) (qq : Nat) (rf : Nat → Nat) (fl ln pl yy mm dd at0 wa on tw hc : Int) (tf : Nat → Int) (hln : 0 ≤ ln ∧ ln ≤ 400) (hat : 0 ≤ at0 ∧ at0 ≤ ln) (hch : ∀ j : Nat, 0 ≤ tf j ∧ tf j < 256) : zSi l zy_Q_peek zc_Q_peek 1 (some .int) ({ frames := 0, cells := 0, slots := 0, locals := 0 }) g zN [.ref (qq)] [(qq, .inr (5, [.int (iI (fl)), .ref (rf 0), .int (iI (ln)), .int (iI (pl)), .int (iI (yy)), .int (iI (mm)), .int (iI (dd)), .int (iI (at0)), .ref (rf 1), .ref (rf 2), .ref (rf 3), .ref (rf 4), .ref (rf 5), .ref (rf 6), .int (iI (wa)), .int (iI (on)), .int (iI (tw)), .ref (rf 7), .ref (rf 8), .ref (rf 9), .int (iI (hc))])), (rf 0, .inl (g.2 3, 400, .inl (zaI (zSg tf))))] (some (.int (iI (rk tf ln at0)))) := by
  refine zs_open (by decide +kernel) (Nat.le_of_ble_eq_true rfl) ?_
  intro p e s m below meth c ls hx hb hml hr hlk hown hw hK hT hP hl
  have hown : s.vm.findClass "CronFinderModel" = some m.cls := hown
  have hl : lv_has ls 1 [(0, .ref (qq))] := hl
  refine lv_aload_n hx hb zd_Q_peek_0 rfl (lv_at hl 0 rfl) ?_
  refine va_get (D := g.1) (ci := 5) (v := .int (iI (at0))) (C := zR_Q) (T := zT_Q) (N := 21) hx hb hw zin_Q hown hK hP 0 rfl rfl 7 (by decide) (hw _ zw_3_205) (fun _ h9 => h9) rfl zd_Q_peek_1 ?_
  refine lv_aload_n hx hb zd_Q_peek_4 rfl (lv_at hl 0 rfl) ?_
  refine va_get (D := g.1) (ci := 5) (v := .int (iI (ln))) (C := zR_Q) (T := zT_Q) (N := 21) hx hb hw zin_Q hown hK hP 0 rfl rfl 2 (by decide) (hw _ zw_3_200) (fun _ h9 => h9) rfl zd_Q_peek_5 ?_
  refine zi_icmp_ge (tgt := 27) hx hb zd_Q_peek_8 (by decide) (by omega) (fun c8 => ?_) (fun c8 => ?_)
  · refine zi_iconst hx hb zd_Q_peek_27 ?_
    refine zi_as (rk tf ln at0) (by first | exact (rk_in (by omega)).symm | exact (rk_out (by omega)).symm) ?_
    exact zs_iret hx hb hr hlk zd_Q_peek_28
  · refine lv_aload_n hx hb zd_Q_peek_11 rfl (lv_at hl 0 rfl) ?_
    refine va_get (D := g.1) (ci := 5) (v := .ref (rf 0)) (C := zR_Q) (T := zT_Q) (N := 21) hx hb hw zin_Q hown hK hP 0 rfl rfl 1 (by decide) (hw _ zw_3_199) (fun _ h9 => h9) rfl zd_Q_peek_12 ?_
    refine lv_aload_n hx hb zd_Q_peek_15 rfl (lv_at hl 0 rfl) ?_
    refine va_get (D := g.1) (ci := 5) (v := .int (iI (at0))) (C := zR_Q) (T := zT_Q) (N := 21) hx hb hw zin_Q hown hK hP 0 rfl rfl 7 (by decide) (hw _ zw_3_205) (fun _ h9 => h9) rfl zd_Q_peek_16 ?_
    refine zi_bald hx hb hK hP 1 3 rfl rfl (by omega) zd_Q_peek_19 ?_
    refine zi_sipush hx hb zd_Q_peek_20 (by decide) ?_
    refine lv_iand hx hb zd_Q_peek_23 ?_
    refine zi_asx _ (tf (at0).toNat) (zSg_a (hch _)) ?_
    refine lv_goto (tgt := 28) hx hb zd_Q_peek_24 (by decide) ?_
    refine zi_as (rk tf ln at0) (by first | exact (rk_in (by omega)).symm | exact (rk_out (by omega)).symm) ?_
    exact zs_iret hx hb hr hlk zd_Q_peek_28
set_option maxHeartbeats 4000000 in
set_option maxRecDepth 100000 in
theorem c_Q_thrown (l : Launch) (g : zGl) (qq : Nat) (rf : Nat → Nat) (fl ln pl yy mm dd at0 wa on tw hc : Int) : zSi l zy_Q_thrown zc_Q_thrown 1 (some .int) ({ frames := 0, cells := 0, slots := 0, locals := 0 }) g zN [.ref (qq)] [(qq, .inr (5, [.int (iI (fl)), .ref (rf 0), .int (iI (ln)), .int (iI (pl)), .int (iI (yy)), .int (iI (mm)), .int (iI (dd)), .int (iI (at0)), .ref (rf 1), .ref (rf 2), .ref (rf 3), .ref (rf 4), .ref (rf 5), .ref (rf 6), .int (iI (wa)), .int (iI (on)), .int (iI (tw)), .ref (rf 7), .ref (rf 8), .ref (rf 9), .int (iI (hc))]))] (some (.int (iI (fl)))) := by
  refine zs_open (by decide +kernel) (Nat.le_of_ble_eq_true rfl) ?_
  intro p e s m below meth c ls hx hb hml hr hlk hown hw hK hT hP hl
  have hown : s.vm.findClass "CronFinderModel" = some m.cls := hown
  have hl : lv_has ls 1 [(0, .ref (qq))] := hl
  refine lv_aload_n hx hb zd_Q_thrown_0 rfl (lv_at hl 0 rfl) ?_
  refine va_get (D := g.1) (ci := 5) (v := .int (iI (fl))) (C := zR_Q) (T := zT_Q) (N := 21) hx hb hw zin_Q hown hK hP 0 rfl rfl 0 (by decide) (hw _ zw_3_198) (fun _ h9 => h9) rfl zd_Q_thrown_1 ?_
  refine zi_as (fl) (rfl) ?_
  exact zs_iret hx hb hr hlk zd_Q_thrown_4
set_option maxHeartbeats 4000000 in
set_option maxRecDepth 100000 in
theorem c_Q_fail (l : Launch) (g : zGl) (qq : Nat) (rf : Nat → Nat) (fl ln pl yy mm dd at0 wa on tw hc : Int) (x : Int) : zWi l zy_Q_fail zc_Q_fail 2 (some .int) ({ frames := 0, cells := 0, slots := 0, locals := 0 }) g (fun _ => zN) [.ref (qq), .int (iI (x))] [(qq, .inr (5, [.int (iI (fl)), .ref (rf 0), .int (iI (ln)), .int (iI (pl)), .int (iI (yy)), .int (iI (mm)), .int (iI (dd)), .int (iI (at0)), .ref (rf 1), .ref (rf 2), .ref (rf 3), .ref (rf 4), .ref (rf 5), .ref (rf 6), .int (iI (wa)), .int (iI (on)), .int (iI (tw)), .ref (rf 7), .ref (rf 8), .ref (rf 9), .int (iI (hc))]))] (some (.int (iI (0)))) [(qq, .inr (5, [.int (iI (x)), .ref (rf 0), .int (iI (ln)), .int (iI (pl)), .int (iI (yy)), .int (iI (mm)), .int (iI (dd)), .int (iI (at0)), .ref (rf 1), .ref (rf 2), .ref (rf 3), .ref (rf 4), .ref (rf 5), .ref (rf 6), .int (iI (wa)), .int (iI (on)), .int (iI (tw)), .ref (rf 7), .ref (rf 8), .ref (rf 9), .int (iI (hc))]))] 0 0 := by
  refine zw_open (by decide +kernel) (Nat.le_of_ble_eq_true rfl) ?_
  intro p e s m below meth c ls A hx hb hml hr hlk hown hin hw hK hT hP hD hS hA hl
  have hown : s.vm.findClass "CronFinderModel" = some m.cls := hown
  have hl : lv_has ls 2 [(0, .ref (qq)), (1, .int (iI (x)))] := hl
  refine lv_aload_n hx hb zd_Q_fail_0 rfl (lv_at hl 0 rfl) ?_
  refine lv_iload_n hx hb zd_Q_fail_1 rfl (lv_at hl 1 rfl) ?_
  refine va_put (D := g.1) (ci := 5) (v := .int (iI (x))) (ty := .int) (C := zR_Q) (T := zT_Q) (N := 21) hx hb hw zin_Q zt_Q zto_Q zn_Q hown hK hP hD hS 0 rfl rfl 0 (by decide) (hw _ zw_3_198) (fun _ h9 => h9) rfl  (by decide +kernel) rfl rfl (Nat.le_of_ble_eq_true rfl) zd_Q_fail_2 (fun H locs hP hD hS => ?_)
  have hP : va_P g.1 zCl [(qq, .inr (5, [.int (iI (x)), .ref (rf 0), .int (iI (ln)), .int (iI (pl)), .int (iI (yy)), .int (iI (mm)), .int (iI (dd)), .int (iI (at0)), .ref (rf 1), .ref (rf 2), .ref (rf 3), .ref (rf 4), .ref (rf 5), .ref (rf 6), .int (iI (wa)), .int (iI (on)), .int (iI (tw)), .ref (rf 7), .ref (rf 8), .ref (rf 9), .int (iI (hc))]))] H := hP
  have hD : va_D A [(qq, .inr (5, [.int (iI (x)), .ref (rf 0), .int (iI (ln)), .int (iI (pl)), .int (iI (yy)), .int (iI (mm)), .int (iI (dd)), .int (iI (at0)), .ref (rf 1), .ref (rf 2), .ref (rf 3), .ref (rf 4), .ref (rf 5), .ref (rf 6), .int (iI (wa)), .int (iI (on)), .int (iI (tw)), .ref (rf 7), .ref (rf 8), .ref (rf 9), .int (iI (hc))]))] := hD
  refine zi_iconst hx hb zd_Q_fail_5 ?_
  exact zw_iret hx hb hr hlk (ws := [(qq, .inr (5, [.int (iI (x)), .ref (rf 0), .int (iI (ln)), .int (iI (pl)), .int (iI (yy)), .int (iI (mm)), .int (iI (dd)), .int (iI (at0)), .ref (rf 1), .ref (rf 2), .ref (rf 3), .ref (rf 4), .ref (rf 5), .ref (rf 6), .int (iI (wa)), .int (iI (on)), .int (iI (tw)), .ref (rf 7), .ref (rf 8), .ref (rf 9), .int (iI (hc))]))]) hP hS zd_Q_fail_6
set_option maxHeartbeats 4000000 in
set_option maxRecDepth 100000 in
theorem c_Q_place (l : Launch) (g : zGl) (qq : Nat) (rf : Nat → Nat) (fl ln pl yy mm dd at0 wa on tw hc : Int) : zWi l zy_Q_place zc_Q_place 1 (some .int) ({ frames := 0, cells := 0, slots := 0, locals := 0 }) g (fun _ => zN) [.ref (qq)] [(qq, .inr (5, [.int (iI (fl)), .ref (rf 0), .int (iI (ln)), .int (iI (pl)), .int (iI (yy)), .int (iI (mm)), .int (iI (dd)), .int (iI (at0)), .ref (rf 1), .ref (rf 2), .ref (rf 3), .ref (rf 4), .ref (rf 5), .ref (rf 6), .int (iI (wa)), .int (iI (on)), .int (iI (tw)), .ref (rf 7), .ref (rf 8), .ref (rf 9), .int (iI (hc))]))] (some (.int (iI (pl)))) [(qq, .inr (5, [.int (iI (0)), .ref (rf 0), .int (iI (ln)), .int (iI (pl)), .int (iI (yy)), .int (iI (mm)), .int (iI (dd)), .int (iI (at0)), .ref (rf 1), .ref (rf 2), .ref (rf 3), .ref (rf 4), .ref (rf 5), .ref (rf 6), .int (iI (wa)), .int (iI (on)), .int (iI (tw)), .ref (rf 7), .ref (rf 8), .ref (rf 9), .int (iI (hc))]))] 0 0 := by
  refine zw_open (by decide +kernel) (Nat.le_of_ble_eq_true rfl) ?_
  intro p e s m below meth c ls A hx hb hml hr hlk hown hin hw hK hT hP hD hS hA hl
  have hown : s.vm.findClass "CronFinderModel" = some m.cls := hown
  have hl : lv_has ls 1 [(0, .ref (qq))] := hl
  refine lv_aload_n hx hb zd_Q_place_0 rfl (lv_at hl 0 rfl) ?_
  refine zi_iconst hx hb zd_Q_place_1 ?_
  refine va_put (D := g.1) (ci := 5) (v := .int (iI (0))) (ty := .int) (C := zR_Q) (T := zT_Q) (N := 21) hx hb hw zin_Q zt_Q zto_Q zn_Q hown hK hP hD hS 0 rfl rfl 0 (by decide) (hw _ zw_3_198) (fun _ h9 => h9) rfl  (by decide +kernel) rfl rfl (Nat.le_of_ble_eq_true rfl) zd_Q_place_2 (fun H locs hP hD hS => ?_)
  have hP : va_P g.1 zCl [(qq, .inr (5, [.int (iI (0)), .ref (rf 0), .int (iI (ln)), .int (iI (pl)), .int (iI (yy)), .int (iI (mm)), .int (iI (dd)), .int (iI (at0)), .ref (rf 1), .ref (rf 2), .ref (rf 3), .ref (rf 4), .ref (rf 5), .ref (rf 6), .int (iI (wa)), .int (iI (on)), .int (iI (tw)), .ref (rf 7), .ref (rf 8), .ref (rf 9), .int (iI (hc))]))] H := hP
  have hD : va_D A [(qq, .inr (5, [.int (iI (0)), .ref (rf 0), .int (iI (ln)), .int (iI (pl)), .int (iI (yy)), .int (iI (mm)), .int (iI (dd)), .int (iI (at0)), .ref (rf 1), .ref (rf 2), .ref (rf 3), .ref (rf 4), .ref (rf 5), .ref (rf 6), .int (iI (wa)), .int (iI (on)), .int (iI (tw)), .ref (rf 7), .ref (rf 8), .ref (rf 9), .int (iI (hc))]))] := hD
  refine lv_aload_n hx hb zd_Q_place_5 rfl (lv_at hl 0 rfl) ?_
  refine va_get (D := g.1) (ci := 5) (v := .int (iI (pl))) (C := zR_Q) (T := zT_Q) (N := 21) hx hb hw zin_Q hown hK hP 0 rfl rfl 3 (by decide) (hw _ zw_3_201) (fun _ h9 => h9) rfl zd_Q_place_6 ?_
  exact zw_iret hx hb hr hlk (ws := [(qq, .inr (5, [.int (iI (0)), .ref (rf 0), .int (iI (ln)), .int (iI (pl)), .int (iI (yy)), .int (iI (mm)), .int (iI (dd)), .int (iI (at0)), .ref (rf 1), .ref (rf 2), .ref (rf 3), .ref (rf 4), .ref (rf 5), .ref (rf 6), .int (iI (wa)), .int (iI (on)), .int (iI (tw)), .ref (rf 7), .ref (rf 8), .ref (rf 9), .int (iI (hc))]))]) hP hS zd_Q_place_9
set_option maxHeartbeats 4000000 in
set_option maxRecDepth 100000 in
theorem c_Q_date (l : Launch) (g : zGl) (qq : Nat) (rf : Nat → Nat) (fl ln pl yy mm dd at0 wa on tw hc : Int) (n : Int) (hn : 0 ≤ n ∧ n ≤ 120529) : zWi l zy_Q_date zc_Q_date 3 none ({ frames := 3, cells := 0, slots := 0, locals := 65 }) g (fun _ => zN) [.ref (qq), .int (iI (n))] [(qq, .inr (5, [.int (iI (fl)), .ref (rf 0), .int (iI (ln)), .int (iI (pl)), .int (iI (yy)), .int (iI (mm)), .int (iI (dd)), .int (iI (at0)), .ref (rf 1), .ref (rf 2), .ref (rf 3), .ref (rf 4), .ref (rf 5), .ref (rf 6), .int (iI (wa)), .int (iI (on)), .int (iI (tw)), .ref (rf 7), .ref (rf 8), .ref (rf 9), .int (iI (hc))]))] (none) [(qq, .inr (5, [.int (iI (fl)), .ref (rf 0), .int (iI (ln)), .int (iI (pl)), .int (iI (1970 + dMon n / 12)), .int (iI (dMon n % 12 + 1)), .int (iI (n - dM0 (dMon n) + 1)), .int (iI (at0)), .ref (rf 1), .ref (rf 2), .ref (rf 3), .ref (rf 4), .ref (rf 5), .ref (rf 6), .int (iI (wa)), .int (iI (on)), .int (iI (tw)), .ref (rf 7), .ref (rf 8), .ref (rf 9), .int (iI (hc))]))] 0 0 := by
  refine zw_open (by decide +kernel) (Nat.le_of_ble_eq_true rfl) ?_
  intro p e s m below meth c ls A hx hb hml hr hlk hown hin hw hK hT hP hD hS hA hl
  have hown : s.vm.findClass "CronFinderModel" = some m.cls := hown
  have hl : lv_has ls 3 [(0, .ref (qq)), (1, .int (iI (n)))] := hl
  refine lv_aload_n hx hb zd_Q_date_0 rfl (lv_at hl 0 rfl) ?_
  refine zi_sipush hx hb zd_Q_date_1 (by decide) ?_
  refine lv_iload_n hx hb zd_Q_date_4 rfl (lv_at hl 1 rfl) ?_
  refine zi_sipush hx hb zd_Q_date_5 (by decide) ?_
  refine zk_S (As := [.int (iI (n)), .int (iI (365))]) (own := "CronFinderModel") (nL := 3) (rest := [.int (iI (1970)), .ref (qq)]) hx hb hml hown hw (c_fd l g (n) (365) (by omega)) zw_4_123 zw_4_124 zw_1_14 zw_4_125 (np := 2) (by decide +kernel) rfl (by decide) zN_mv hK trivial (hP.sub (ws' := []) [] rfl) hl.1 rfl (Nat.le_of_ble_eq_true rfl) (by decide) zd_Q_date_8 ?_
  refine zi_iadd hx hb zd_Q_date_11 ?_
  refine va_put (D := g.1) (ci := 5) (v := .int (iI (1970 + (n / 365)))) (ty := .int) (C := zR_Q) (T := zT_Q) (N := 21) hx hb hw zin_Q zt_Q zto_Q zn_Q hown hK hP hD hS 0 rfl rfl 4 (by decide) (hw _ zw_3_202) (fun _ h9 => h9) rfl  (by decide +kernel) rfl rfl (Nat.le_of_ble_eq_true rfl) zd_Q_date_12 (fun H locs hP hD hS => ?_)
  have hP : va_P g.1 zCl [(qq, .inr (5, [.int (iI (fl)), .ref (rf 0), .int (iI (ln)), .int (iI (pl)), .int (iI (1970 + (n / 365))), .int (iI (mm)), .int (iI (dd)), .int (iI (at0)), .ref (rf 1), .ref (rf 2), .ref (rf 3), .ref (rf 4), .ref (rf 5), .ref (rf 6), .int (iI (wa)), .int (iI (on)), .int (iI (tw)), .ref (rf 7), .ref (rf 8), .ref (rf 9), .int (iI (hc))]))] H := hP
  have hD : va_D A [(qq, .inr (5, [.int (iI (fl)), .ref (rf 0), .int (iI (ln)), .int (iI (pl)), .int (iI (1970 + (n / 365))), .int (iI (mm)), .int (iI (dd)), .int (iI (at0)), .ref (rf 1), .ref (rf 2), .ref (rf 3), .ref (rf 4), .ref (rf 5), .ref (rf 6), .int (iI (wa)), .int (iI (on)), .int (iI (tw)), .ref (rf 7), .ref (rf 8), .ref (rf 9), .int (iI (hc))]))] := hD
  have loop : ∀ (n9 : Nat) (y : Int) (H : Heap) (locs : List Loc) (ls : Array Slot), (1970 ≤ y ∧ y ≤ 2300) → (n < dY0 (y + 1)) → ((y - 1970).toNat < n9) → va_P g.1 zCl [(qq, .inr (5, [.int (iI (fl)), .ref (rf 0), .int (iI (ln)), .int (iI (pl)), .int (iI (y)), .int (iI (mm)), .int (iI (dd)), .int (iI (at0)), .ref (rf 1), .ref (rf 2), .ref (rf 3), .ref (rf 4), .ref (rf 5), .ref (rf 6), .int (iI (wa)), .int (iI (on)), .int (iI (tw)), .ref (rf 7), .ref (rf 8), .ref (rf 9), .int (iI (hc))]))] H → va_D A [(qq, .inr (5, [.int (iI (fl)), .ref (rf 0), .int (iI (ln)), .int (iI (pl)), .int (iI (y)), .int (iI (mm)), .int (iI (dd)), .int (iI (at0)), .ref (rf 1), .ref (rf 2), .ref (rf 3), .ref (rf 4), .ref (rf 5), .ref (rf 6), .int (iI (wa)), .int (iI (on)), .int (iI (tw)), .ref (rf 7), .ref (rf 8), .ref (rf 9), .int (iI (hc))]))] → va_S A s.heap H locs → lv_has ls 3 [(0, .ref (qq)), (1, .int (iI (n)))] → W p l e ({ frames := 3, cells := 0, slots := 0, locals := 65 }) s m [.ref (qq), .int (iI (n))].toArray below meth c H locs 0 0 (MQ below (zWr g.1 zCl (none) [(qq, .inr (5, [.int (iI (fl)), .ref (rf 0), .int (iI (ln)), .int (iI (pl)), .int (iI (1970 + dMon n / 12)), .int (iI (dMon n % 12 + 1)), .int (iI (n - dM0 (dMon n) + 1)), .int (iI (at0)), .ref (rf 1), .ref (rf 2), .ref (rf 3), .ref (rf 4), .ref (rf 5), .ref (rf 6), .int (iI (wa)), .int (iI (on)), .int (iI (tw)), .ref (rf 7), .ref (rf 8), .ref (rf 9), .int (iI (hc))]))] A) [.ref (qq), .int (iI (n))].toArray s 0 0 A) (F0 m 15 ls []) := by
    intro n9
    induction n9 with
    | zero =>
      intro y H locs ls hy hny h1 hP hD hS hl
      exact absurd h1 (by omega)
    | succ n9 ih =>
      intro y H locs ls hy hny h1 hP hD hS hl
      refine lv_aload_n hx hb zd_Q_date_15 rfl (lv_at hl 0 rfl) ?_
      refine va_get (D := g.1) (ci := 5) (v := .int (iI (y))) (C := zR_Q) (T := zT_Q) (N := 21) hx hb hw zin_Q hown hK hP 0 rfl rfl 4 (by decide) (hw _ zw_3_202) (fun _ h9 => h9) rfl zd_Q_date_16 ?_
      refine zi_iconst hx hb zd_Q_date_19 ?_
      refine zk_S (As := [.int (iI (y)), .int (iI (1))]) (own := "CronFinderModel") (nL := 3) (rest := []) hx hb hml hown hw (c_Q_number l g (y) (1) (by omega)) zw_4_126 zw_4_127 zw_1_7 zw_4_128 (np := 2) (by decide +kernel) rfl (by decide) zN_mv hK trivial (hP.sub (ws' := []) [] rfl) hl.1 rfl (Nat.le_of_ble_eq_true rfl) (by decide) zd_Q_date_20 ?_
      have hn20 := qN_rg (y := y) (m := 1) (by omega)
      refine lv_iload_n hx hb zd_Q_date_23 rfl (lv_at hl 1 rfl) ?_
      have hy0 : dM0 ((y - 1970) * 12 + (1 - 1)) = dY0 y := dM0_y
      have hy7 : dY0 1970 = 0 := by decide
      have hy8 : ¬ y = 1970 ∨ dY0 y = 0 := by by_cases q : y = 1970 <;> simp_all
      refine zi_icmp_le (tgt := 40) hx hb zd_Q_date_24 (by decide) (by omega) (fun c24 => ?_) (fun c24 => ?_)
      · refine lv_iload_n hx hb zd_Q_date_40 rfl (lv_at hl 1 rfl) ?_
        refine lv_aload_n hx hb zd_Q_date_41 rfl (lv_at hl 0 rfl) ?_
        refine va_get (D := g.1) (ci := 5) (v := .int (iI (y))) (C := zR_Q) (T := zT_Q) (N := 21) hx hb hw zin_Q hown hK hP 0 rfl rfl 4 (by decide) (hw _ zw_3_202) (fun _ h9 => h9) rfl zd_Q_date_42 ?_
        refine zi_iconst hx hb zd_Q_date_45 ?_
        refine zk_S (As := [.int (iI (y)), .int (iI (1))]) (own := "CronFinderModel") (nL := 3) (rest := [.int (iI (n))]) hx hb hml hown hw (c_Q_number l g (y) (1) (by omega)) zw_4_126 zw_4_127 zw_1_7 zw_4_128 (np := 2) (by decide +kernel) rfl (by decide) zN_mv hK trivial (hP.sub (ws' := []) [] rfl) hl.1 rfl (Nat.le_of_ble_eq_true rfl) (by decide) zd_Q_date_46 ?_
        have hn46 := qN_rg (y := y) (m := 1) (by omega)
        refine zi_isub hx hb zd_Q_date_49 ?_
        refine lv_istore_n (lv' := [(2, .int (iI (n - (dM0 ((y - 1970) * 12 + (1 - 1)))))), (0, .ref (qq)), (1, .int (iI (n)))]) hx hb zd_Q_date_50 rfl hl (by decide) rfl (fun ls hl => ?_)
        refine lv_aload_n hx hb zd_Q_date_51 rfl (lv_at hl 1 rfl) ?_
        refine zi_iconst hx hb zd_Q_date_52 ?_
        refine va_put (D := g.1) (ci := 5) (v := .int (iI (1))) (ty := .int) (C := zR_Q) (T := zT_Q) (N := 21) hx hb hw zin_Q zt_Q zto_Q zn_Q hown hK hP hD hS 0 rfl rfl 5 (by decide) (hw _ zw_3_203) (fun _ h9 => h9) rfl  (by decide +kernel) rfl rfl (Nat.le_of_ble_eq_true rfl) zd_Q_date_53 (fun H locs hP hD hS => ?_)
        have hP : va_P g.1 zCl [(qq, .inr (5, [.int (iI (fl)), .ref (rf 0), .int (iI (ln)), .int (iI (pl)), .int (iI (y)), .int (iI (1)), .int (iI (dd)), .int (iI (at0)), .ref (rf 1), .ref (rf 2), .ref (rf 3), .ref (rf 4), .ref (rf 5), .ref (rf 6), .int (iI (wa)), .int (iI (on)), .int (iI (tw)), .ref (rf 7), .ref (rf 8), .ref (rf 9), .int (iI (hc))]))] H := hP
        have hD : va_D A [(qq, .inr (5, [.int (iI (fl)), .ref (rf 0), .int (iI (ln)), .int (iI (pl)), .int (iI (y)), .int (iI (1)), .int (iI (dd)), .int (iI (at0)), .ref (rf 1), .ref (rf 2), .ref (rf 3), .ref (rf 4), .ref (rf 5), .ref (rf 6), .int (iI (wa)), .int (iI (on)), .int (iI (tw)), .ref (rf 7), .ref (rf 8), .ref (rf 9), .int (iI (hc))]))] := hD
        have loop2 : ∀ (n8 : Nat) (kk lf : Int) (H : Heap) (locs : List Loc) (ls : Array Slot), (1 ≤ kk ∧ kk ≤ 12) → (lf = n - dM0 ((y - 1970) * 12 + (kk - 1))) → ((12 - kk).toNat < n8 ∧ 0 ≤ lf) → va_P g.1 zCl [(qq, .inr (5, [.int (iI (fl)), .ref (rf 0), .int (iI (ln)), .int (iI (pl)), .int (iI (y)), .int (iI (kk)), .int (iI (dd)), .int (iI (at0)), .ref (rf 1), .ref (rf 2), .ref (rf 3), .ref (rf 4), .ref (rf 5), .ref (rf 6), .int (iI (wa)), .int (iI (on)), .int (iI (tw)), .ref (rf 7), .ref (rf 8), .ref (rf 9), .int (iI (hc))]))] H → va_D A [(qq, .inr (5, [.int (iI (fl)), .ref (rf 0), .int (iI (ln)), .int (iI (pl)), .int (iI (y)), .int (iI (kk)), .int (iI (dd)), .int (iI (at0)), .ref (rf 1), .ref (rf 2), .ref (rf 3), .ref (rf 4), .ref (rf 5), .ref (rf 6), .int (iI (wa)), .int (iI (on)), .int (iI (tw)), .ref (rf 7), .ref (rf 8), .ref (rf 9), .int (iI (hc))]))] → va_S A s.heap H locs → lv_has ls 3 [(2, .int (iI (lf))), (0, .ref (qq)), (1, .int (iI (n)))] → W p l e ({ frames := 3, cells := 0, slots := 0, locals := 65 }) s m [.ref (qq), .int (iI (n))].toArray below meth c H locs 0 0 (MQ below (zWr g.1 zCl (none) [(qq, .inr (5, [.int (iI (fl)), .ref (rf 0), .int (iI (ln)), .int (iI (pl)), .int (iI (1970 + dMon n / 12)), .int (iI (dMon n % 12 + 1)), .int (iI (n - dM0 (dMon n) + 1)), .int (iI (at0)), .ref (rf 1), .ref (rf 2), .ref (rf 3), .ref (rf 4), .ref (rf 5), .ref (rf 6), .int (iI (wa)), .int (iI (on)), .int (iI (tw)), .ref (rf 7), .ref (rf 8), .ref (rf 9), .int (iI (hc))]))] A) [.ref (qq), .int (iI (n))].toArray s 0 0 A) (F0 m 56 ls []) := by
          intro n8
          induction n8 with
          | zero =>
            intro kk lf H locs ls hk hlf h2 hP hD hS hl
            exact absurd h2 (by omega)
          | succ n8 ih2 =>
            intro kk lf H locs ls hk hlf h2 hP hD hS hl
            refine lv_iload_n hx hb zd_Q_date_56 rfl (lv_at hl 0 rfl) ?_
            refine lv_aload_n hx hb zd_Q_date_57 rfl (lv_at hl 1 rfl) ?_
            refine va_get (D := g.1) (ci := 5) (v := .int (iI (y))) (C := zR_Q) (T := zT_Q) (N := 21) hx hb hw zin_Q hown hK hP 0 rfl rfl 4 (by decide) (hw _ zw_3_202) (fun _ h9 => h9) rfl zd_Q_date_58 ?_
            refine lv_aload_n hx hb zd_Q_date_61 rfl (lv_at hl 1 rfl) ?_
            refine va_get (D := g.1) (ci := 5) (v := .int (iI (kk))) (C := zR_Q) (T := zT_Q) (N := 21) hx hb hw zin_Q hown hK hP 0 rfl rfl 5 (by decide) (hw _ zw_3_203) (fun _ h9 => h9) rfl zd_Q_date_62 ?_
            refine zk_S (As := [.int (iI (y)), .int (iI (kk))]) (own := "CronFinderModel") (nL := 3) (rest := [.int (iI (lf))]) hx hb hml hown hw (c_Q_length l g (y) (kk) (by omega)) zw_4_129 zw_4_130 zw_1_7 zw_4_131 (np := 2) (by decide +kernel) rfl (by decide) zN_mv hK trivial (hP.sub (ws' := []) [] rfl) hl.1 rfl (Nat.le_of_ble_eq_true rfl) (by decide) zd_Q_date_65 ?_
            have hq65 := dMl_rg (y) (kk - 1)
            have hz12 : kk = 12 → dM0 ((y - 1970) * 12 + (kk - 1) + 1) = dY0 (y + 1) := fun q => by rw [q, show (y - 1970) * 12 + (12 - 1 : Int) + 1 = 12 * (y - 1970 + 1) by omega, dM0_12, show 1970 + (y - 1970 + 1) = y + 1 by omega]
            have hzk := dM0_yk (y := y) (k := kk) (by omega)
            have hrk := qN_rg (y := y) (m := kk) (by omega)
            refine zi_icmp_lt (tgt := 98) hx hb zd_Q_date_68 (by decide) (by omega) (fun c68 => ?_) (fun c68 => ?_)
            · refine lv_aload_n hx hb zd_Q_date_98 rfl (lv_at hl 1 rfl) ?_
              refine lv_iload_n hx hb zd_Q_date_99 rfl (lv_at hl 0 rfl) ?_
              refine zi_iconst hx hb zd_Q_date_100 ?_
              refine zi_iadd hx hb zd_Q_date_101 ?_
              refine va_put (D := g.1) (ci := 5) (v := .int (iI (lf + 1))) (ty := .int) (C := zR_Q) (T := zT_Q) (N := 21) hx hb hw zin_Q zt_Q zto_Q zn_Q hown hK hP hD hS 0 rfl rfl 6 (by decide) (hw _ zw_3_204) (fun _ h9 => h9) rfl  (by decide +kernel) rfl rfl (Nat.le_of_ble_eq_true rfl) zd_Q_date_102 (fun H locs hP hD hS => ?_)
              have hP : va_P g.1 zCl [(qq, .inr (5, [.int (iI (fl)), .ref (rf 0), .int (iI (ln)), .int (iI (pl)), .int (iI (y)), .int (iI (kk)), .int (iI (lf + 1)), .int (iI (at0)), .ref (rf 1), .ref (rf 2), .ref (rf 3), .ref (rf 4), .ref (rf 5), .ref (rf 6), .int (iI (wa)), .int (iI (on)), .int (iI (tw)), .ref (rf 7), .ref (rf 8), .ref (rf 9), .int (iI (hc))]))] H := hP
              have hD : va_D A [(qq, .inr (5, [.int (iI (fl)), .ref (rf 0), .int (iI (ln)), .int (iI (pl)), .int (iI (y)), .int (iI (kk)), .int (iI (lf + 1)), .int (iI (at0)), .ref (rf 1), .ref (rf 2), .ref (rf 3), .ref (rf 4), .ref (rf 5), .ref (rf 6), .int (iI (wa)), .int (iI (on)), .int (iI (tw)), .ref (rf 7), .ref (rf 8), .ref (rf 9), .int (iI (hc))]))] := hD
              have hz := dM0_yk (y := y) (k := kk) (by omega)
              have e9 : dMon n = (y - 1970) * 12 + (kk - 1) := dMon_eq (by omega) (by omega) (by omega)
              rw [show y = 1970 + dMon n / 12 by omega, show kk = dMon n % 12 + 1 by omega, show lf = n - dM0 (dMon n) by rw [e9]; omega] at hP
              exact zw_vret hx hb hr hlk (ws := [(qq, .inr (5, [.int (iI (fl)), .ref (rf 0), .int (iI (ln)), .int (iI (pl)), .int (iI (1970 + dMon n / 12)), .int (iI (dMon n % 12 + 1)), .int (iI (n - dM0 (dMon n) + 1)), .int (iI (at0)), .ref (rf 1), .ref (rf 2), .ref (rf 3), .ref (rf 4), .ref (rf 5), .ref (rf 6), .int (iI (wa)), .int (iI (on)), .int (iI (tw)), .ref (rf 7), .ref (rf 8), .ref (rf 9), .int (iI (hc))]))]) hP hS zd_Q_date_105
            · refine lv_iload_n hx hb zd_Q_date_71 rfl (lv_at hl 0 rfl) ?_
              refine lv_aload_n hx hb zd_Q_date_72 rfl (lv_at hl 1 rfl) ?_
              refine va_get (D := g.1) (ci := 5) (v := .int (iI (y))) (C := zR_Q) (T := zT_Q) (N := 21) hx hb hw zin_Q hown hK hP 0 rfl rfl 4 (by decide) (hw _ zw_3_202) (fun _ h9 => h9) rfl zd_Q_date_73 ?_
              refine lv_aload_n hx hb zd_Q_date_76 rfl (lv_at hl 1 rfl) ?_
              refine va_get (D := g.1) (ci := 5) (v := .int (iI (kk))) (C := zR_Q) (T := zT_Q) (N := 21) hx hb hw zin_Q hown hK hP 0 rfl rfl 5 (by decide) (hw _ zw_3_203) (fun _ h9 => h9) rfl zd_Q_date_77 ?_
              refine zk_S (As := [.int (iI (y)), .int (iI (kk))]) (own := "CronFinderModel") (nL := 3) (rest := [.int (iI (lf))]) hx hb hml hown hw (c_Q_length l g (y) (kk) (by omega)) zw_4_129 zw_4_130 zw_1_7 zw_4_131 (np := 2) (by decide +kernel) rfl (by decide) zN_mv hK trivial (hP.sub (ws' := []) [] rfl) hl.1 rfl (Nat.le_of_ble_eq_true rfl) (by decide) zd_Q_date_80 ?_
              have hq80 := dMl_rg (y) (kk - 1)
              refine zi_isub hx hb zd_Q_date_83 ?_
              refine lv_istore_n (lv' := [(2, .int (iI (lf - (dMl (y) (kk - 1))))), (0, .ref (qq)), (1, .int (iI (n)))]) hx hb zd_Q_date_84 rfl hl (by decide) rfl (fun ls hl => ?_)
              refine lv_aload_n hx hb zd_Q_date_85 rfl (lv_at hl 1 rfl) ?_
              refine lv_dup hx hb zd_Q_date_86 rfl ?_
              refine va_get (D := g.1) (ci := 5) (v := .int (iI (kk))) (C := zR_Q) (T := zT_Q) (N := 21) hx hb hw zin_Q hown hK hP 0 rfl rfl 5 (by decide) (hw _ zw_3_203) (fun _ h9 => h9) rfl zd_Q_date_87 ?_
              refine zi_iconst hx hb zd_Q_date_90 ?_
              refine zi_iadd hx hb zd_Q_date_91 ?_
              refine va_put (D := g.1) (ci := 5) (v := .int (iI (kk + 1))) (ty := .int) (C := zR_Q) (T := zT_Q) (N := 21) hx hb hw zin_Q zt_Q zto_Q zn_Q hown hK hP hD hS 0 rfl rfl 5 (by decide) (hw _ zw_3_203) (fun _ h9 => h9) rfl  (by decide +kernel) rfl rfl (Nat.le_of_ble_eq_true rfl) zd_Q_date_92 (fun H locs hP hD hS => ?_)
              have hP : va_P g.1 zCl [(qq, .inr (5, [.int (iI (fl)), .ref (rf 0), .int (iI (ln)), .int (iI (pl)), .int (iI (y)), .int (iI (kk + 1)), .int (iI (dd)), .int (iI (at0)), .ref (rf 1), .ref (rf 2), .ref (rf 3), .ref (rf 4), .ref (rf 5), .ref (rf 6), .int (iI (wa)), .int (iI (on)), .int (iI (tw)), .ref (rf 7), .ref (rf 8), .ref (rf 9), .int (iI (hc))]))] H := hP
              have hD : va_D A [(qq, .inr (5, [.int (iI (fl)), .ref (rf 0), .int (iI (ln)), .int (iI (pl)), .int (iI (y)), .int (iI (kk + 1)), .int (iI (dd)), .int (iI (at0)), .ref (rf 1), .ref (rf 2), .ref (rf 3), .ref (rf 4), .ref (rf 5), .ref (rf 6), .int (iI (wa)), .int (iI (on)), .int (iI (tw)), .ref (rf 7), .ref (rf 8), .ref (rf 9), .int (iI (hc))]))] := hD
              refine lv_goto (tgt := 56) hx hb zd_Q_date_95 (by decide) ?_
              exact ih2 (kk + 1) _ H locs ls (by omega) (by rw [show (y - 1970) * 12 + (kk + 1 - 1) = (y - 1970) * 12 + (kk - 1) + 1 by omega]; omega) (by omega) hP hD hS (lv_sub hl [0, 1, 2] rfl)
        exact loop2 12 1 _ H locs ls (by omega) (by rfl) (by rw [dM0_y]; omega) hP hD hS (lv_sub hl [0, 1, 2] rfl)
      · refine lv_aload_n hx hb zd_Q_date_27 rfl (lv_at hl 0 rfl) ?_
        refine lv_dup hx hb zd_Q_date_28 rfl ?_
        refine va_get (D := g.1) (ci := 5) (v := .int (iI (y))) (C := zR_Q) (T := zT_Q) (N := 21) hx hb hw zin_Q hown hK hP 0 rfl rfl 4 (by decide) (hw _ zw_3_202) (fun _ h9 => h9) rfl zd_Q_date_29 ?_
        refine zi_iconst hx hb zd_Q_date_32 ?_
        refine zi_isub hx hb zd_Q_date_33 ?_
        refine va_put (D := g.1) (ci := 5) (v := .int (iI (y - 1))) (ty := .int) (C := zR_Q) (T := zT_Q) (N := 21) hx hb hw zin_Q zt_Q zto_Q zn_Q hown hK hP hD hS 0 rfl rfl 4 (by decide) (hw _ zw_3_202) (fun _ h9 => h9) rfl  (by decide +kernel) rfl rfl (Nat.le_of_ble_eq_true rfl) zd_Q_date_34 (fun H locs hP hD hS => ?_)
        have hP : va_P g.1 zCl [(qq, .inr (5, [.int (iI (fl)), .ref (rf 0), .int (iI (ln)), .int (iI (pl)), .int (iI (y - 1)), .int (iI (mm)), .int (iI (dd)), .int (iI (at0)), .ref (rf 1), .ref (rf 2), .ref (rf 3), .ref (rf 4), .ref (rf 5), .ref (rf 6), .int (iI (wa)), .int (iI (on)), .int (iI (tw)), .ref (rf 7), .ref (rf 8), .ref (rf 9), .int (iI (hc))]))] H := hP
        have hD : va_D A [(qq, .inr (5, [.int (iI (fl)), .ref (rf 0), .int (iI (ln)), .int (iI (pl)), .int (iI (y - 1)), .int (iI (mm)), .int (iI (dd)), .int (iI (at0)), .ref (rf 1), .ref (rf 2), .ref (rf 3), .ref (rf 4), .ref (rf 5), .ref (rf 6), .int (iI (wa)), .int (iI (on)), .int (iI (tw)), .ref (rf 7), .ref (rf 8), .ref (rf 9), .int (iI (hc))]))] := hD
        refine lv_goto (tgt := 15) hx hb zd_Q_date_37 (by decide) ?_
        exact ih (y - 1) H locs ls (by omega) (by rw [show y - 1 + 1 = y by omega]; omega) (by omega) hP hD hS (lv_sub hl [0, 1] rfl)
  exact loop 400 _ H locs ls (by omega) (qY_up hn.1) (by omega) hP hD hS (lv_sub hl [0, 1] rfl)
