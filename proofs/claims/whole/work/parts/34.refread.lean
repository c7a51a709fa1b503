/-! the reference: bad, blanks, ranged, value -/
def fLoI (z : Int) : Int := fLo z.toNat
def fHiI (z : Int) : Int := fHi z.toNat
theorem fLoI_n (j : Nat) : fLoI ((j : Nat) : Int) = fLo j := by unfold fLoI; rw [Int.toNat_natCast]
theorem fHiI_n (j : Nat) : fHiI ((j : Nat) : Int) = fHi j := by unfold fHiI; rw [Int.toNat_natCast]
theorem fLH {j : Nat} (h : j < 7) : 0 ≤ fLo j ∧ fLo j ≤ 1970 ∧ fLo j ≤ fHi j ∧ fHi j ≤ 2299 ∧ ((fNn j : Nat) : Int) = fHi j - fLo j + 1 ∧ fNn j ≤ 330 ∧ 7 ≤ fNn j := by
  have h7 : j = 0 ∨ j = 1 ∨ j = 2 ∨ j = 3 ∨ j = 4 ∨ j = 5 ∨ j = 6 := by omega
  rcases h7 with rfl | rfl | rfl | rfl | rfl | rfl | rfl <;> decide
/-- what the reference takes of the statics -/
def zQl (t1 t2 : Nat) (A : Nat → Prop) : zStt := fun U H => va_Z "CronFinderModel" "LEAST" "[I" (.ref t1) A U H ∧ va_T .int t1 7 (fun j => .int (iI (fLoI (j : Int)))) A U H ∧ va_Z "CronFinderModel" "MOSTS" "[I" (.ref t2) A U H ∧ va_T .int t2 7 (fun j => .int (iI (fHiI (j : Int)))) A U H
def zQn (mq mv : Nat → Nat) (n : Nat) (f : Int → Int) (A : Nat → Prop) : zStt := fun U H => ∀ k : Nat, k < n → zStr (mq k) (mv k) 3 (fun i => f (3 * (k : Int) + i)) A U H
def zQs (t1 t2 : Nat) (mq mv wq wv : Nat → Nat) (A : Nat → Prop) : zStt := fun U H => zTh A U H ∧ zQl t1 t2 A U H ∧ zQn mq mv 12 fMon A U H ∧ zQn wq wv 7 fWd A U H
theorem zQl_mv (t1 t2 : Nat) (A : Nat → Prop) : zMv (zQl t1 t2 A) := fun _ _ _ hW h => ⟨va_Z.moved hW.alike h.1, va_T.moved hW.alike h.2.1, va_Z.moved hW.alike h.2.2.1, va_T.moved hW.alike h.2.2.2⟩
theorem zQs_mv (t1 t2 : Nat) (mq mv wq wv : Nat → Nat) (A : Nat → Prop) : zMv (zQs t1 t2 mq mv wq wv A) := fun u U H hW h => ⟨zTh_mv A u U H hW h.1, zQl_mv t1 t2 A u U H hW h.2.1, fun k hk => zStr_mv _ _ _ _ A u U H hW (h.2.2.1 k hk), fun k hk => zStr_mv _ _ _ _ A u U H hW (h.2.2.2 k hk)⟩
section QST
variable {t1 t2 : Nat} {mq mv wq wv : Nat → Nat} {A B : Nat → Prop} {s : State} {H : Heap} {locs : List Loc}
theorem zQl_now (h : zQl t1 t2 A s s.heap) (hS : va_S A s.heap H locs) : zQl t1 t2 A s H := ⟨h.1.kept hS.2.1, h.2.1.kept hS.2.1, h.2.2.1.kept hS.2.1, h.2.2.2.kept hS.2.1⟩
theorem zQl_nar (h : zQl t1 t2 A s H) (hAB : ∀ q, B q → A q) : zQl t1 t2 B s H := ⟨h.1.narrow hAB, h.2.1.narrow hAB, h.2.2.1.narrow hAB, h.2.2.2.narrow hAB⟩
theorem zQs_now (h : zQs t1 t2 mq mv wq wv A s s.heap) (hS : va_S A s.heap H locs) : zQs t1 t2 mq mv wq wv A s H := ⟨zTh_now h.1 hS, zQl_now h.2.1 hS, fun k hk => zStr_now (h.2.2.1 k hk) hS, fun k hk => zStr_now (h.2.2.2 k hk) hS⟩
theorem zQs_nar (h : zQs t1 t2 mq mv wq wv A s H) (hAB : ∀ q, B q → A q) : zQs t1 t2 mq mv wq wv B s H := ⟨zTh_nar h.1 hAB, zQl_nar h.2.1 hAB, fun k hk => zStr_nar (h.2.2.1 k hk) hAB, fun k hk => zStr_nar (h.2.2.2 k hk) hAB⟩
end QST
section QNUM
variable {tf : Nat → Int} {ln a : Int} {j : Nat}
theorem num_nd (h : qDg (rk tf ln a) = false) : num tf ln a = (a, 0) := by
  have h1 : ¬ (48 ≤ rk tf ln a ∧ rk tf ln a ≤ 57) := fun q => by rw [(qDg_i _).mpr q] at h; cases h
  rw [num, if_neg (by omega)]
  exact nEnd_x h1
theorem rNm_nd {lo hi : Int} (h : qDg (rk tf ln a) = false) : ¬ rNm tf ln lo hi a := fun q => by
  have := q.1
  rw [num_nd h] at this
  exact absurd this (Int.lt_irrefl _)
theorem vOk_0 (h : vNm j ln tf a = 0) : vOk j tf ln a = true ↔ rNm tf ln (fLo j) (fHi j) a := by
  unfold vOk rNm
  rw [decide_eq_false (fun q => q h), Bool.false_or, decide_eq_true_iff]
theorem vVl_0 (h : vNm j ln tf a = 0) : vVl j tf ln a = (num tf ln a).2 := by unfold vVl; rw [if_pos h]
theorem vAt_0 (h : vNm j ln tf a = 0) : vAt j tf ln a = (num tf ln a).1 := by unfold vAt; rw [if_pos h]
theorem vOk_1 (h : ¬ vNm j ln tf a = 0) : vOk j tf ln a = true := by unfold vOk; rw [decide_eq_true h]; rfl
theorem vVl_1 (h : ¬ vNm j ln tf a = 0) : vVl j tf ln a = vNm j ln tf a := by unfold vVl; rw [if_neg h]
theorem vAt_1 (h : ¬ vNm j ln tf a = 0) : vAt j tf ln a = a + 3 := by unfold vAt; rw [if_neg h]
theorem vNm_0 (h : ¬ j = 4) (h1 : ¬ j = 5) : vNm j ln tf a = 0 := by unfold vNm; rw [if_neg h, if_neg h1]
theorem vOk_let (h : vNm j ln tf a = 0) (hl : qLt (rk tf ln a) = true) : ¬ vOk j tf ln a = true := fun q => by
  have hl := (qLt_i _).mp hl
  exact rNm_nd (bN (qDg_i _) (by omega)) ((vOk_0 h).mp q)
theorem nmA_s {f : Int → Int} {n : Int} (h : ln - a < 3) : nmA f n ln tf a = 0 := by unfold nmA; rw [if_pos h]
theorem nmA_l {f : Int → Int} {n : Int} (h : ¬ ln - a < 3) : nmA f n ln tf a = nmF f n tf a 20 0 := by unfold nmA; rw [if_neg h]
theorem nmF_nl {f : Int → Int} {n : Int} (hL : ∀ k : Int, 0 ≤ k → 3 * k + 3 ≤ n → 65 ≤ f (3 * k) ∧ f (3 * k) ≤ 90) (h : ¬ (65 ≤ tf a.toNat ∧ tf a.toNat ≤ 90)) (q : Nat) (k : Int) (hk : 0 ≤ k) : nmF f n tf a q k = 0 := by
  induction q generalizing k with
  | zero => rfl
  | succ q ih =>
    by_cases h1 : 3 * k + 3 ≤ n
    · rw [nmF_n h1 (fun q => h (by have := hL k hk h1; omega))]
      exact ih (k + 1) (by omega)
    · exact nmF_e (by omega)
theorem nmA_nl {f : Int → Int} {n : Int} (hL : ∀ k : Int, 0 ≤ k → 3 * k + 3 ≤ n → 65 ≤ f (3 * k) ∧ f (3 * k) ≤ 90) (h : qLt (rk tf ln a) = false) : nmA f n ln tf a = 0 := by
  by_cases h3 : ln - a < 3
  · exact nmA_s h3
  · rw [nmA_l h3]
    refine nmF_nl hL (fun q => ?_) 20 0 (Int.le_refl _)
    rw [← rk_in (tf := tf) (show a < ln by omega)] at q
    rw [(qLt_i _).mpr q] at h
    cases h
theorem fMon_L : ∀ k : Int, 0 ≤ k → 3 * k + 3 ≤ 36 → 65 ≤ fMon (3 * k) ∧ fMon (3 * k) ≤ 90 := by
  intro k h1 h2
  have h : k = 0 ∨ k = 1 ∨ k = 2 ∨ k = 3 ∨ k = 4 ∨ k = 5 ∨ k = 6 ∨ k = 7 ∨ k = 8 ∨ k = 9 ∨ k = 10 ∨ k = 11 := by omega
  rcases h with rfl | rfl | rfl | rfl | rfl | rfl | rfl | rfl | rfl | rfl | rfl | rfl <;> decide
theorem fWd_L : ∀ k : Int, 0 ≤ k → 3 * k + 3 ≤ 21 → 65 ≤ fWd (3 * k) ∧ fWd (3 * k) ≤ 90 := by
  intro k h1 h2
  have h : k = 0 ∨ k = 1 ∨ k = 2 ∨ k = 3 ∨ k = 4 ∨ k = 5 ∨ k = 6 := by omega
  rcases h with rfl | rfl | rfl | rfl | rfl | rfl | rfl <;> decide
theorem zSg_rg {i : Nat} (h : 0 ≤ tf i ∧ tf i < 256) : -128 ≤ zSg tf i ∧ zSg tf i < 128 := by unfold zSg; split <;> omega
theorem zSg_e {i : Nat} {x : Int} (h : 0 ≤ tf i ∧ tf i < 256) (hx : 0 ≤ x ∧ x < 128) : zSg tf i = x ↔ tf i = x := by unfold zSg; split <;> omega
theorem vNm_4 : vNm 4 ln tf a = nmA fMon 36 ln tf a := rfl
theorem vNm_5 : vNm 5 ln tf a = nmA fWd 21 ln tf a := rfl
theorem nmF_hit {f : Int → Int} {n : Int} {q : Nat} {k : Int} (h3 : ¬ ln - a < 3) (hk : 3 * k + 3 ≤ n) (hF : nmF f n tf a (q + 1) k = nmF f n tf a 20 0) (m : tf a.toNat = f (3 * k) ∧ tf (a + 1).toNat = f (3 * k + 1) ∧ tf (a + 2).toNat = f (3 * k + 2)) : nmA f n ln tf a = k + 1 := by
  rw [nmA_l h3, ← hF, nmF_y hk m]
theorem nmF_go {f : Int → Int} {n : Int} {q : Nat} {k : Int} (hk : 3 * k + 3 ≤ n) (hF : ¬ ln - a < 3 → nmF f n tf a (q + 1) k = nmF f n tf a 20 0) (m : ¬ (¬ ln - a < 3 ∧ tf a.toNat = f (3 * k) ∧ tf (a + 1).toNat = f (3 * k + 1) ∧ tf (a + 2).toNat = f (3 * k + 2))) : ¬ ln - a < 3 → nmF f n tf a q (k + 1) = nmF f n tf a 20 0 := fun h3 => by
  rw [← hF h3, nmF_n hk (fun q => m ⟨h3, q⟩)]
theorem nmF_out {f : Int → Int} {n : Int} {q : Nat} {k : Int} (hk : n < 3 * k + 3) (hF : ¬ ln - a < 3 → nmF f n tf a (q + 1) k = nmF f n tf a 20 0) : nmA f n ln tf a = 0 := by
  by_cases h3 : ln - a < 3
  · exact nmA_s h3
  · rw [nmA_l h3, ← hF h3, nmF_e hk]
end QNUM
theorem zd_Q_bad_0 : decode zc_Q_bad 0 = .ok (.aload_n 0, 1) := by decide +kernel
theorem zd_Q_bad_1 : decode zc_Q_bad 1 = .ok (.iload_n 1, 1) := by decide +kernel
theorem zd_Q_bad_2 : decode zc_Q_bad 2 = .ok (.putfield 13, 3) := by decide +kernel
theorem zd_Q_bad_5 : decode zc_Q_bad 5 = .ok (.new 124, 3) := by decide +kernel
theorem zd_Q_bad_8 : decode zc_Q_bad 8 = .ok (.dup, 1) := by decide +kernel
theorem zd_Q_bad_9 : decode zc_Q_bad 9 = .ok (.invokespecial 126, 3) := by decide +kernel
theorem zd_Q_bad_12 : decode zc_Q_bad 12 = .ok (.athrow, 1) := by decide +kernel
theorem zd_Q_blanks_0 : decode zc_Q_blanks 0 = .ok (.aload_n 0, 1) := by decide +kernel
theorem zd_Q_blanks_1 : decode zc_Q_blanks 1 = .ok (.invokevirtual 133, 3) := by decide +kernel
theorem zd_Q_blanks_4 : decode zc_Q_blanks 4 = .ok (.bipush 32, 2) := by decide +kernel
theorem zd_Q_blanks_6 : decode zc_Q_blanks 6 = .ok (.if_icmp .eq 11, 3) := by decide +kernel
theorem zd_Q_blanks_9 : decode zc_Q_blanks 9 = .ok (.aload_n 0, 1) := by decide +kernel
theorem zd_Q_blanks_10 : decode zc_Q_blanks 10 = .ok (.aload_n 0, 1) := by decide +kernel
theorem zd_Q_blanks_11 : decode zc_Q_blanks 11 = .ok (.getfield 127, 3) := by decide +kernel
theorem zd_Q_blanks_14 : decode zc_Q_blanks 14 = .ok (.invokevirtual 137, 3) := by decide +kernel
theorem zd_Q_blanks_17 : decode zc_Q_blanks 17 = .ok (.aload_n 0, 1) := by decide +kernel
theorem zd_Q_blanks_18 : decode zc_Q_blanks 18 = .ok (.invokevirtual 133, 3) := by decide +kernel
theorem zd_Q_blanks_21 : decode zc_Q_blanks 21 = .ok (.bipush 32, 2) := by decide +kernel
theorem zd_Q_blanks_23 : decode zc_Q_blanks 23 = .ok (.if_icmp .ne 16, 3) := by decide +kernel
theorem zd_Q_blanks_26 : decode zc_Q_blanks 26 = .ok (.aload_n 0, 1) := by decide +kernel
theorem zd_Q_blanks_27 : decode zc_Q_blanks 27 = .ok (.dup, 1) := by decide +kernel
theorem zd_Q_blanks_28 : decode zc_Q_blanks 28 = .ok (.getfield 127, 3) := by decide +kernel
theorem zd_Q_blanks_31 : decode zc_Q_blanks 31 = .ok (.iconst 1, 1) := by decide +kernel
theorem zd_Q_blanks_32 : decode zc_Q_blanks 32 = .ok (.iadd, 1) := by decide +kernel
theorem zd_Q_blanks_33 : decode zc_Q_blanks 33 = .ok (.putfield 127, 3) := by decide +kernel
theorem zd_Q_blanks_36 : decode zc_Q_blanks 36 = .ok (.goto (-19), 3) := by decide +kernel
theorem zd_Q_blanks_39 : decode zc_Q_blanks 39 = .ok (.return_, 1) := by decide +kernel
theorem zd_Q_ranged_0 : decode zc_Q_ranged 0 = .ok (.aload_n 0, 1) := by decide +kernel
theorem zd_Q_ranged_1 : decode zc_Q_ranged 1 = .ok (.getfield 127, 3) := by decide +kernel
theorem zd_Q_ranged_4 : decode zc_Q_ranged 4 = .ok (.istore_n 3, 1) := by decide +kernel
theorem zd_Q_ranged_5 : decode zc_Q_ranged 5 = .ok (.aload_n 0, 1) := by decide +kernel
theorem zd_Q_ranged_6 : decode zc_Q_ranged 6 = .ok (.invokevirtual 133, 3) := by decide +kernel
theorem zd_Q_ranged_9 : decode zc_Q_ranged 9 = .ok (.invokestatic 141, 3) := by decide +kernel
theorem zd_Q_ranged_12 : decode zc_Q_ranged 12 = .ok (.ifCond .ne 11, 3) := by decide +kernel
theorem zd_Q_ranged_15 : decode zc_Q_ranged 15 = .ok (.aload_n 0, 1) := by decide +kernel
theorem zd_Q_ranged_16 : decode zc_Q_ranged 16 = .ok (.aload_n 0, 1) := by decide +kernel
theorem zd_Q_ranged_17 : decode zc_Q_ranged 17 = .ok (.getfield 127, 3) := by decide +kernel
theorem zd_Q_ranged_20 : decode zc_Q_ranged 20 = .ok (.invokevirtual 137, 3) := by decide +kernel
theorem zd_Q_ranged_23 : decode zc_Q_ranged 23 = .ok (.iconst 0, 1) := by decide +kernel
theorem zd_Q_ranged_24 : decode zc_Q_ranged 24 = .ok (.istore 4, 2) := by decide +kernel
theorem zd_Q_ranged_26 : decode zc_Q_ranged 26 = .ok (.aload_n 0, 1) := by decide +kernel
theorem zd_Q_ranged_27 : decode zc_Q_ranged 27 = .ok (.invokevirtual 133, 3) := by decide +kernel
theorem zd_Q_ranged_30 : decode zc_Q_ranged 30 = .ok (.bipush 48, 2) := by decide +kernel
theorem zd_Q_ranged_32 : decode zc_Q_ranged 32 = .ok (.if_icmp .ne 16, 3) := by decide +kernel
theorem zd_Q_ranged_35 : decode zc_Q_ranged 35 = .ok (.aload_n 0, 1) := by decide +kernel
theorem zd_Q_ranged_36 : decode zc_Q_ranged 36 = .ok (.dup, 1) := by decide +kernel
theorem zd_Q_ranged_37 : decode zc_Q_ranged 37 = .ok (.getfield 127, 3) := by decide +kernel
theorem zd_Q_ranged_40 : decode zc_Q_ranged 40 = .ok (.iconst 1, 1) := by decide +kernel
theorem zd_Q_ranged_41 : decode zc_Q_ranged 41 = .ok (.iadd, 1) := by decide +kernel
theorem zd_Q_ranged_42 : decode zc_Q_ranged 42 = .ok (.putfield 127, 3) := by decide +kernel
theorem zd_Q_ranged_45 : decode zc_Q_ranged 45 = .ok (.goto 46, 3) := by decide +kernel
theorem zd_Q_ranged_48 : decode zc_Q_ranged 48 = .ok (.aload_n 0, 1) := by decide +kernel
theorem zd_Q_ranged_49 : decode zc_Q_ranged 49 = .ok (.invokevirtual 133, 3) := by decide +kernel
theorem zd_Q_ranged_52 : decode zc_Q_ranged 52 = .ok (.invokestatic 141, 3) := by decide +kernel
theorem zd_Q_ranged_55 : decode zc_Q_ranged 55 = .ok (.ifCond .eq 36, 3) := by decide +kernel
theorem zd_Q_ranged_58 : decode zc_Q_ranged 58 = .ok (.bipush 10, 2) := by decide +kernel
theorem zd_Q_ranged_60 : decode zc_Q_ranged 60 = .ok (.iload 4, 2) := by decide +kernel
theorem zd_Q_ranged_62 : decode zc_Q_ranged 62 = .ok (.imul, 1) := by decide +kernel
theorem zd_Q_ranged_63 : decode zc_Q_ranged 63 = .ok (.aload_n 0, 1) := by decide +kernel
theorem zd_Q_ranged_64 : decode zc_Q_ranged 64 = .ok (.invokevirtual 133, 3) := by decide +kernel
theorem zd_Q_ranged_67 : decode zc_Q_ranged 67 = .ok (.iadd, 1) := by decide +kernel
theorem zd_Q_ranged_68 : decode zc_Q_ranged 68 = .ok (.bipush 48, 2) := by decide +kernel
theorem zd_Q_ranged_70 : decode zc_Q_ranged 70 = .ok (.isub, 1) := by decide +kernel
theorem zd_Q_ranged_71 : decode zc_Q_ranged 71 = .ok (.ldc 144, 2) := by decide +kernel
theorem zd_Q_ranged_73 : decode zc_Q_ranged 73 = .ok (.invokestatic 145, 3) := by decide +kernel
theorem zd_Q_ranged_76 : decode zc_Q_ranged 76 = .ok (.istore 4, 2) := by decide +kernel
theorem zd_Q_ranged_78 : decode zc_Q_ranged 78 = .ok (.aload_n 0, 1) := by decide +kernel
theorem zd_Q_ranged_79 : decode zc_Q_ranged 79 = .ok (.dup, 1) := by decide +kernel
theorem zd_Q_ranged_80 : decode zc_Q_ranged 80 = .ok (.getfield 127, 3) := by decide +kernel
theorem zd_Q_ranged_83 : decode zc_Q_ranged 83 = .ok (.iconst 1, 1) := by decide +kernel
theorem zd_Q_ranged_84 : decode zc_Q_ranged 84 = .ok (.iadd, 1) := by decide +kernel
theorem zd_Q_ranged_85 : decode zc_Q_ranged 85 = .ok (.putfield 127, 3) := by decide +kernel
theorem zd_Q_ranged_88 : decode zc_Q_ranged 88 = .ok (.goto (-40), 3) := by decide +kernel
theorem zd_Q_ranged_91 : decode zc_Q_ranged 91 = .ok (.iload 4, 2) := by decide +kernel
theorem zd_Q_ranged_93 : decode zc_Q_ranged 93 = .ok (.iload_n 1, 1) := by decide +kernel
theorem zd_Q_ranged_94 : decode zc_Q_ranged 94 = .ok (.if_icmp .lt 9, 3) := by decide +kernel
theorem zd_Q_ranged_97 : decode zc_Q_ranged 97 = .ok (.iload 4, 2) := by decide +kernel
theorem zd_Q_ranged_99 : decode zc_Q_ranged 99 = .ok (.iload_n 2, 1) := by decide +kernel
theorem zd_Q_ranged_100 : decode zc_Q_ranged 100 = .ok (.if_icmp .le 8, 3) := by decide +kernel
theorem zd_Q_ranged_103 : decode zc_Q_ranged 103 = .ok (.aload_n 0, 1) := by decide +kernel
theorem zd_Q_ranged_104 : decode zc_Q_ranged 104 = .ok (.iload_n 3, 1) := by decide +kernel
theorem zd_Q_ranged_105 : decode zc_Q_ranged 105 = .ok (.invokevirtual 137, 3) := by decide +kernel
theorem zd_Q_ranged_108 : decode zc_Q_ranged 108 = .ok (.iload 4, 2) := by decide +kernel
theorem zd_Q_ranged_110 : decode zc_Q_ranged 110 = .ok (.ireturn, 1) := by decide +kernel
theorem zd_Q_value_0 : decode zc_Q_value 0 = .ok (.iload_n 1, 1) := by decide +kernel
theorem zd_Q_value_1 : decode zc_Q_value 1 = .ok (.iconst 4, 1) := by decide +kernel
theorem zd_Q_value_2 : decode zc_Q_value 2 = .ok (.if_icmp .eq 8, 3) := by decide +kernel
theorem zd_Q_value_5 : decode zc_Q_value 5 = .ok (.iload_n 1, 1) := by decide +kernel
theorem zd_Q_value_6 : decode zc_Q_value 6 = .ok (.iconst 5, 1) := by decide +kernel
theorem zd_Q_value_7 : decode zc_Q_value 7 = .ok (.if_icmp .ne 132, 3) := by decide +kernel
theorem zd_Q_value_10 : decode zc_Q_value 10 = .ok (.aload_n 0, 1) := by decide +kernel
theorem zd_Q_value_11 : decode zc_Q_value 11 = .ok (.invokevirtual 133, 3) := by decide +kernel
theorem zd_Q_value_14 : decode zc_Q_value 14 = .ok (.invokestatic 148, 3) := by decide +kernel
theorem zd_Q_value_17 : decode zc_Q_value 17 = .ok (.ifCond .eq 122, 3) := by decide +kernel
theorem zd_Q_value_20 : decode zc_Q_value 20 = .ok (.iload_n 1, 1) := by decide +kernel
theorem zd_Q_value_21 : decode zc_Q_value 21 = .ok (.iconst 4, 1) := by decide +kernel
theorem zd_Q_value_22 : decode zc_Q_value 22 = .ok (.if_icmp .ne 10, 3) := by decide +kernel
theorem zd_Q_value_25 : decode zc_Q_value 25 = .ok (.aload_n 0, 1) := by decide +kernel
theorem zd_Q_value_26 : decode zc_Q_value 26 = .ok (.getfield 68, 3) := by decide +kernel
theorem zd_Q_value_29 : decode zc_Q_value 29 = .ok (.goto 7, 3) := by decide +kernel
theorem zd_Q_value_32 : decode zc_Q_value 32 = .ok (.aload_n 0, 1) := by decide +kernel
theorem zd_Q_value_33 : decode zc_Q_value 33 = .ok (.getfield 86, 3) := by decide +kernel
theorem zd_Q_value_36 : decode zc_Q_value 36 = .ok (.astore_n 2, 1) := by decide +kernel
theorem zd_Q_value_37 : decode zc_Q_value 37 = .ok (.iconst 0, 1) := by decide +kernel
theorem zd_Q_value_38 : decode zc_Q_value 38 = .ok (.istore_n 3, 1) := by decide +kernel
theorem zd_Q_value_39 : decode zc_Q_value 39 = .ok (.iload_n 3, 1) := by decide +kernel
theorem zd_Q_value_40 : decode zc_Q_value 40 = .ok (.aload_n 2, 1) := by decide +kernel
theorem zd_Q_value_41 : decode zc_Q_value 41 = .ok (.arraylength, 1) := by decide +kernel
theorem zd_Q_value_42 : decode zc_Q_value 42 = .ok (.if_icmp .ge 89, 3) := by decide +kernel
theorem zd_Q_value_45 : decode zc_Q_value 45 = .ok (.iconst 1, 1) := by decide +kernel
theorem zd_Q_value_46 : decode zc_Q_value 46 = .ok (.istore 4, 2) := by decide +kernel
theorem zd_Q_value_48 : decode zc_Q_value 48 = .ok (.iconst 0, 1) := by decide +kernel
theorem zd_Q_value_49 : decode zc_Q_value 49 = .ok (.istore 5, 2) := by decide +kernel
theorem zd_Q_value_51 : decode zc_Q_value 51 = .ok (.iload 5, 2) := by decide +kernel
theorem zd_Q_value_53 : decode zc_Q_value 53 = .ok (.iconst 3, 1) := by decide +kernel
theorem zd_Q_value_54 : decode zc_Q_value 54 = .ok (.if_icmp .ge 49, 3) := by decide +kernel
theorem zd_Q_value_57 : decode zc_Q_value 57 = .ok (.aload_n 0, 1) := by decide +kernel
theorem zd_Q_value_58 : decode zc_Q_value 58 = .ok (.getfield 127, 3) := by decide +kernel
theorem zd_Q_value_61 : decode zc_Q_value 61 = .ok (.iload 5, 2) := by decide +kernel
theorem zd_Q_value_63 : decode zc_Q_value 63 = .ok (.iadd, 1) := by decide +kernel
theorem zd_Q_value_64 : decode zc_Q_value 64 = .ok (.aload_n 0, 1) := by decide +kernel
theorem zd_Q_value_65 : decode zc_Q_value 65 = .ok (.getfield 130, 3) := by decide +kernel
theorem zd_Q_value_68 : decode zc_Q_value 68 = .ok (.if_icmp .ge 26, 3) := by decide +kernel
theorem zd_Q_value_71 : decode zc_Q_value 71 = .ok (.aload_n 0, 1) := by decide +kernel
theorem zd_Q_value_72 : decode zc_Q_value 72 = .ok (.getfield 7, 3) := by decide +kernel
theorem zd_Q_value_75 : decode zc_Q_value 75 = .ok (.aload_n 0, 1) := by decide +kernel
theorem zd_Q_value_76 : decode zc_Q_value 76 = .ok (.getfield 127, 3) := by decide +kernel
theorem zd_Q_value_79 : decode zc_Q_value 79 = .ok (.iload 5, 2) := by decide +kernel
theorem zd_Q_value_81 : decode zc_Q_value 81 = .ok (.iadd, 1) := by decide +kernel
theorem zd_Q_value_82 : decode zc_Q_value 82 = .ok (.baload, 1) := by decide +kernel
theorem zd_Q_value_83 : decode zc_Q_value 83 = .ok (.aload_n 2, 1) := by decide +kernel
theorem zd_Q_value_84 : decode zc_Q_value 84 = .ok (.iload_n 3, 1) := by decide +kernel
theorem zd_Q_value_85 : decode zc_Q_value 85 = .ok (.aaload, 1) := by decide +kernel
theorem zd_Q_value_86 : decode zc_Q_value 86 = .ok (.iload 5, 2) := by decide +kernel
theorem zd_Q_value_88 : decode zc_Q_value 88 = .ok (.invokevirtual 151, 3) := by decide +kernel
theorem zd_Q_value_91 : decode zc_Q_value 91 = .ok (.if_icmp .eq 6, 3) := by decide +kernel
theorem zd_Q_value_94 : decode zc_Q_value 94 = .ok (.iconst 0, 1) := by decide +kernel
theorem zd_Q_value_95 : decode zc_Q_value 95 = .ok (.istore 4, 2) := by decide +kernel
theorem zd_Q_value_97 : decode zc_Q_value 97 = .ok (.iinc 5 1, 3) := by decide +kernel
theorem zd_Q_value_100 : decode zc_Q_value 100 = .ok (.goto (-49), 3) := by decide +kernel
theorem zd_Q_value_103 : decode zc_Q_value 103 = .ok (.iload 4, 2) := by decide +kernel
theorem zd_Q_value_105 : decode zc_Q_value 105 = .ok (.ifCond .ne 6, 3) := by decide +kernel
theorem zd_Q_value_108 : decode zc_Q_value 108 = .ok (.goto 17, 3) := by decide +kernel
theorem zd_Q_value_111 : decode zc_Q_value 111 = .ok (.aload_n 0, 1) := by decide +kernel
theorem zd_Q_value_112 : decode zc_Q_value 112 = .ok (.dup, 1) := by decide +kernel
theorem zd_Q_value_113 : decode zc_Q_value 113 = .ok (.getfield 127, 3) := by decide +kernel
theorem zd_Q_value_116 : decode zc_Q_value 116 = .ok (.iconst 3, 1) := by decide +kernel
theorem zd_Q_value_117 : decode zc_Q_value 117 = .ok (.iadd, 1) := by decide +kernel
theorem zd_Q_value_118 : decode zc_Q_value 118 = .ok (.putfield 127, 3) := by decide +kernel
theorem zd_Q_value_121 : decode zc_Q_value 121 = .ok (.iload_n 3, 1) := by decide +kernel
theorem zd_Q_value_122 : decode zc_Q_value 122 = .ok (.iconst 1, 1) := by decide +kernel
theorem zd_Q_value_123 : decode zc_Q_value 123 = .ok (.iadd, 1) := by decide +kernel
theorem zd_Q_value_124 : decode zc_Q_value 124 = .ok (.ireturn, 1) := by decide +kernel
theorem zd_Q_value_125 : decode zc_Q_value 125 = .ok (.iinc 3 1, 3) := by decide +kernel
theorem zd_Q_value_128 : decode zc_Q_value 128 = .ok (.goto (-89), 3) := by decide +kernel
theorem zd_Q_value_131 : decode zc_Q_value 131 = .ok (.aload_n 0, 1) := by decide +kernel
theorem zd_Q_value_132 : decode zc_Q_value 132 = .ok (.aload_n 0, 1) := by decide +kernel
theorem zd_Q_value_133 : decode zc_Q_value 133 = .ok (.getfield 127, 3) := by decide +kernel
theorem zd_Q_value_136 : decode zc_Q_value 136 = .ok (.invokevirtual 137, 3) := by decide +kernel
theorem zd_Q_value_139 : decode zc_Q_value 139 = .ok (.aload_n 0, 1) := by decide +kernel
theorem zd_Q_value_140 : decode zc_Q_value 140 = .ok (.getstatic 155, 3) := by decide +kernel
theorem zd_Q_value_143 : decode zc_Q_value 143 = .ok (.iload_n 1, 1) := by decide +kernel
theorem zd_Q_value_144 : decode zc_Q_value 144 = .ok (.iaload, 1) := by decide +kernel
theorem zd_Q_value_145 : decode zc_Q_value 145 = .ok (.getstatic 159, 3) := by decide +kernel
theorem zd_Q_value_148 : decode zc_Q_value 148 = .ok (.iload_n 1, 1) := by decide +kernel
theorem zd_Q_value_149 : decode zc_Q_value 149 = .ok (.iaload, 1) := by decide +kernel
theorem zd_Q_value_150 : decode zc_Q_value 150 = .ok (.invokevirtual 162, 3) := by decide +kernel
theorem zd_Q_value_153 : decode zc_Q_value 153 = .ok (.ireturn, 1) := by decide +kernel
set_option maxHeartbeats 4000000 in
set_option maxRecDepth 100000 in
theorem c_Q_bad (l : Launch) (g : zGl) (hl0 : l.stackTraces = false) (qq : Nat) (rf : Nat → Nat) (fl ln pl yy mm dd at0 wa on tw hc : Int) (p0 : Int) : zEi l zy_Q_bad zc_Q_bad 2 none ({ frames := 6, cells := 1, slots := 6, locals := 120 }) g zTh [.ref (qq), .int (iI (p0))] [(qq, .inr (5, [.int (iI (fl)), .ref (rf 0), .int (iI (ln)), .int (iI (pl)), .int (iI (yy)), .int (iI (mm)), .int (iI (dd)), .int (iI (at0)), .ref (rf 1), .ref (rf 2), .ref (rf 3), .ref (rf 4), .ref (rf 5), .ref (rf 6), .int (iI (wa)), .int (iI (on)), .int (iI (tw)), .ref (rf 7), .ref (rf 8), .ref (rf 9), .int (iI (hc))]))] (False) (none) (fun _ => []) "java/lang/UnsupportedOperationException" (fun _ => [(qq, .inr (5, [.int (iI (fl)), .ref (rf 0), .int (iI (ln)), .int (iI (p0)), .int (iI (yy)), .int (iI (mm)), .int (iI (dd)), .int (iI (at0)), .ref (rf 1), .ref (rf 2), .ref (rf 3), .ref (rf 4), .ref (rf 5), .ref (rf 6), .int (iI (wa)), .int (iI (on)), .int (iI (tw)), .ref (rf 7), .ref (rf 8), .ref (rf 9), .int (iI (hc))]))]) 1 6 := by
  refine ze_open (by decide +kernel) (Nat.le_of_ble_eq_true rfl) ?_
  intro p e s m below meth c ls A hx hb hml hr hno hlk hown hw hK hT hP hD hS hA hl
  have hown : s.vm.findClass "CronFinderModel" = some m.cls := hown
  have hl : lv_has ls 2 [(0, .ref (qq)), (1, .int (iI (p0)))] := hl
  refine lv_aload_n hx hb zd_Q_bad_0 rfl (lv_at hl 0 rfl) ?_
  refine lv_iload_n hx hb zd_Q_bad_1 rfl (lv_at hl 1 rfl) ?_
  refine va_put (D := g.1) (ci := 5) (v := .int (iI (p0))) (ty := .int) (C := zR_Q) (T := zT_Q) (N := 21) hx hb hw zin_Q zt_Q zto_Q zn_Q hown hK hP hD hS 0 rfl rfl 3 (by decide) (hw _ zw_3_201) (fun _ h9 => h9) rfl  (by decide +kernel) rfl rfl (Nat.le_of_ble_eq_true rfl) zd_Q_bad_2 (fun H locs hP hD hS => ?_)
  have hP : va_P g.1 zCl [(qq, .inr (5, [.int (iI (fl)), .ref (rf 0), .int (iI (ln)), .int (iI (p0)), .int (iI (yy)), .int (iI (mm)), .int (iI (dd)), .int (iI (at0)), .ref (rf 1), .ref (rf 2), .ref (rf 3), .ref (rf 4), .ref (rf 5), .ref (rf 6), .int (iI (wa)), .int (iI (on)), .int (iI (tw)), .ref (rf 7), .ref (rf 8), .ref (rf 9), .int (iI (hc))]))] H := hP
  have hD : va_D A [(qq, .inr (5, [.int (iI (fl)), .ref (rf 0), .int (iI (ln)), .int (iI (p0)), .int (iI (yy)), .int (iI (mm)), .int (iI (dd)), .int (iI (at0)), .ref (rf 1), .ref (rf 2), .ref (rf 3), .ref (rf 4), .ref (rf 5), .ref (rf 6), .int (iI (wa)), .int (iI (on)), .int (iI (tw)), .ref (rf 7), .ref (rf 8), .ref (rf 9), .int (iI (hc))]))] := hD
  exact zx_throw0 hx hb hl0 hown hw (by decide +kernel) zw_4_30 zw_1_19 (zx_q0 hw hT) zx_q0_t hT (fun _ => 0, fun _ _ => false) hP hS (by rw [hml]; exact hl.1) zd_Q_bad_5 zd_Q_bad_8 zd_Q_bad_9 zd_Q_bad_12 hno (by decide) hlk (by decide) id
set_option maxHeartbeats 4000000 in
set_option maxRecDepth 100000 in
theorem c_Q_blanks (l : Launch) (g : zGl) (hl0 : l.stackTraces = false) (qq : Nat) (rf : Nat → Nat) (fl ln pl yy mm dd at0 wa on tw hc : Int) (tf : Nat → Int) (hln : 0 ≤ ln ∧ ln ≤ 400) (hat : 0 ≤ at0 ∧ at0 ≤ ln) (hch : ∀ j : Nat, 0 ≤ tf j ∧ tf j < 256) (mc ms : Nat) (hmc : zHm (rk tf ln at0 = 32) mc ms) : zEi l zy_Q_blanks zc_Q_blanks 1 none ({ frames := 7, cells := mc, slots := ms, locals := 141 }) g zTh [.ref (qq)] [(qq, .inr (5, [.int (iI (fl)), .ref (rf 0), .int (iI (ln)), .int (iI (pl)), .int (iI (yy)), .int (iI (mm)), .int (iI (dd)), .int (iI (at0)), .ref (rf 1), .ref (rf 2), .ref (rf 3), .ref (rf 4), .ref (rf 5), .ref (rf 6), .int (iI (wa)), .int (iI (on)), .int (iI (tw)), .ref (rf 7), .ref (rf 8), .ref (rf 9), .int (iI (hc))])), (rf 0, .inl (g.2 3, 400, .inl (zaI (zSg tf))))] (rk tf ln at0 = 32) (none) (fun _ => [(qq, .inr (5, [.int (iI (fl)), .ref (rf 0), .int (iI (ln)), .int (iI (pl)), .int (iI (yy)), .int (iI (mm)), .int (iI (dd)), .int (iI (bEnd tf ln 401 at0)), .ref (rf 1), .ref (rf 2), .ref (rf 3), .ref (rf 4), .ref (rf 5), .ref (rf 6), .int (iI (wa)), .int (iI (on)), .int (iI (tw)), .ref (rf 7), .ref (rf 8), .ref (rf 9), .int (iI (hc))])), (rf 0, .inl (g.2 3, 400, .inl (zaI (zSg tf))))]) "java/lang/UnsupportedOperationException" (fun _ => [(qq, .inr (5, [.int (iI (fl)), .ref (rf 0), .int (iI (ln)), .int (iI (at0)), .int (iI (yy)), .int (iI (mm)), .int (iI (dd)), .int (iI (at0)), .ref (rf 1), .ref (rf 2), .ref (rf 3), .ref (rf 4), .ref (rf 5), .ref (rf 6), .int (iI (wa)), .int (iI (on)), .int (iI (tw)), .ref (rf 7), .ref (rf 8), .ref (rf 9), .int (iI (hc))])), (rf 0, .inl (g.2 3, 400, .inl (zaI (zSg tf))))]) mc ms := by
  refine ze_open (by decide +kernel) (Nat.le_of_ble_eq_true rfl) ?_
  intro p e s m below meth c ls A hx hb hml hr hno hlk hown hw hK hT hP hD hS hA hl
  have hown : s.vm.findClass "CronFinderModel" = some m.cls := hown
  have hl : lv_has ls 1 [(0, .ref (qq))] := hl
  refine lv_aload_n hx hb zd_Q_blanks_0 rfl (lv_at hl 0 rfl) ?_
  refine zk_V (As := []) (b := qq) (own := "CronFinderModel") (nL := 1) (rest := []) hx hb hml hown hw (c_Q_peek l g qq rf (fl) (ln) (pl) (yy) (mm) (dd) (at0) (wa) (on) (tw) (hc) tf hln (by omega) hch) zw_4_39 zw_4_41 zw_0_30 zw_1_7 zw_4_42 (np := 0) (by decide +kernel) rfl ⟨rfl, rfl, Nat.le_of_ble_eq_true rfl, Nat.le_of_ble_eq_true rfl⟩ zN_mv hK trivial (hP.sub (ws' := [(qq, .inr (5, [.int (iI (fl)), .ref (rf 0), .int (iI (ln)), .int (iI (pl)), .int (iI (yy)), .int (iI (mm)), .int (iI (dd)), .int (iI (at0)), .ref (rf 1), .ref (rf 2), .ref (rf 3), .ref (rf 4), .ref (rf 5), .ref (rf 6), .int (iI (wa)), .int (iI (on)), .int (iI (tw)), .ref (rf 7), .ref (rf 8), .ref (rf 9), .int (iI (hc))])), (rf 0, .inl (g.2 3, 400, .inl (zaI (zSg tf))))]) [0, 1] rfl) (va_recv hK hP (ci := 5) (q0 := 0) rfl rfl) hl.1 rfl (Nat.le_of_ble_eq_true rfl) ⟨Nat.zero_le _, Nat.zero_le _⟩ zd_Q_blanks_1 ?_
  have hk1 := rk_rg tf ln (at0) hch
  refine zi_bipush hx hb zd_Q_blanks_4 (by decide) ?_
  refine zi_icmp_eq (tgt := 17) hx hb zd_Q_blanks_6 (by decide) (by omega) (fun c6 => ?_) (fun c6 => ?_)
  · have hc6 : rk tf ln at0 = 32 := c6
    have loop : ∀ (n9 : Nat) (x : Int) (H : Heap) (locs : List Loc) (ls : Array Slot), (0 ≤ x ∧ x ≤ ln) → (bEnd tf ln n9 x = bEnd tf ln 401 at0) → ((ln - x).toNat < n9) → va_P g.1 zCl [(qq, .inr (5, [.int (iI (fl)), .ref (rf 0), .int (iI (ln)), .int (iI (pl)), .int (iI (yy)), .int (iI (mm)), .int (iI (dd)), .int (iI (x)), .ref (rf 1), .ref (rf 2), .ref (rf 3), .ref (rf 4), .ref (rf 5), .ref (rf 6), .int (iI (wa)), .int (iI (on)), .int (iI (tw)), .ref (rf 7), .ref (rf 8), .ref (rf 9), .int (iI (hc))])), (rf 0, .inl (g.2 3, 400, .inl (zaI (zSg tf))))] H → va_D A [(qq, .inr (5, [.int (iI (fl)), .ref (rf 0), .int (iI (ln)), .int (iI (pl)), .int (iI (yy)), .int (iI (mm)), .int (iI (dd)), .int (iI (x)), .ref (rf 1), .ref (rf 2), .ref (rf 3), .ref (rf 4), .ref (rf 5), .ref (rf 6), .int (iI (wa)), .int (iI (on)), .int (iI (tw)), .ref (rf 7), .ref (rf 8), .ref (rf 9), .int (iI (hc))])), (rf 0, .inl (g.2 3, 400, .inl (zaI (zSg tf))))] → va_S A s.heap H locs → lv_has ls 1 [(0, .ref (qq))] → W p l e ({ frames := 7, cells := mc, slots := ms, locals := 141 }) s m [.ref (qq)].toArray below meth c H locs 0 0 (vx_MQ below (zQC g (rk tf ln at0 = 32) (none) (fun _ => [(qq, .inr (5, [.int (iI (fl)), .ref (rf 0), .int (iI (ln)), .int (iI (pl)), .int (iI (yy)), .int (iI (mm)), .int (iI (dd)), .int (iI (bEnd tf ln 401 at0)), .ref (rf 1), .ref (rf 2), .ref (rf 3), .ref (rf 4), .ref (rf 5), .ref (rf 6), .int (iI (wa)), .int (iI (on)), .int (iI (tw)), .ref (rf 7), .ref (rf 8), .ref (rf 9), .int (iI (hc))])), (rf 0, .inl (g.2 3, 400, .inl (zaI (zSg tf))))]) A) (zXC g (rk tf ln at0 = 32) "java/lang/UnsupportedOperationException" (fun _ => [(qq, .inr (5, [.int (iI (fl)), .ref (rf 0), .int (iI (ln)), .int (iI (at0)), .int (iI (yy)), .int (iI (mm)), .int (iI (dd)), .int (iI (at0)), .ref (rf 1), .ref (rf 2), .ref (rf 3), .ref (rf 4), .ref (rf 5), .ref (rf 6), .int (iI (wa)), .int (iI (on)), .int (iI (tw)), .ref (rf 7), .ref (rf 8), .ref (rf 9), .int (iI (hc))])), (rf 0, .inl (g.2 3, 400, .inl (zaI (zSg tf))))]) A) [.ref (qq)].toArray s mc ms A) (F0 m 17 ls []) := by
      intro n9
      induction n9 with
      | zero =>
        intro x H locs ls h1 hE h2 hP hD hS hl
        exact absurd h2 (by omega)
      | succ n9 ih =>
        intro x H locs ls h1 hE h2 hP hD hS hl
        refine lv_aload_n hx hb zd_Q_blanks_17 rfl (lv_at hl 0 rfl) ?_
        refine zk_V (As := []) (b := qq) (own := "CronFinderModel") (nL := 1) (rest := []) hx hb hml hown hw (c_Q_peek l g qq rf (fl) (ln) (pl) (yy) (mm) (dd) (x) (wa) (on) (tw) (hc) tf hln (by omega) hch) zw_4_39 zw_4_41 zw_0_30 zw_1_7 zw_4_42 (np := 0) (by decide +kernel) rfl ⟨rfl, rfl, Nat.le_of_ble_eq_true rfl, Nat.le_of_ble_eq_true rfl⟩ zN_mv hK trivial (hP.sub (ws' := [(qq, .inr (5, [.int (iI (fl)), .ref (rf 0), .int (iI (ln)), .int (iI (pl)), .int (iI (yy)), .int (iI (mm)), .int (iI (dd)), .int (iI (x)), .ref (rf 1), .ref (rf 2), .ref (rf 3), .ref (rf 4), .ref (rf 5), .ref (rf 6), .int (iI (wa)), .int (iI (on)), .int (iI (tw)), .ref (rf 7), .ref (rf 8), .ref (rf 9), .int (iI (hc))])), (rf 0, .inl (g.2 3, 400, .inl (zaI (zSg tf))))]) [0, 1] rfl) (va_recv hK hP (ci := 5) (q0 := 0) rfl rfl) hl.1 rfl (Nat.le_of_ble_eq_true rfl) ⟨Nat.zero_le _, Nat.zero_le _⟩ zd_Q_blanks_18 ?_
        have hk18 := rk_rg tf ln (x) hch
        refine zi_bipush hx hb zd_Q_blanks_21 (by decide) ?_
        refine zi_icmp_ne (tgt := 39) hx hb zd_Q_blanks_23 (by decide) (by omega) (fun c23 => ?_) (fun c23 => ?_)
        · rw [show x = bEnd tf ln 401 at0 from (bEnd_n c23).symm.trans hE] at hP
          have hok9 := hc6
          exact zq_vret hx hb hr hlk (fun _ => 0, fun _ _ => false) hP hS hok9 (zHm_y hmc hok9) zd_Q_blanks_39
        · have hx9 := rk_lt c23 (by decide)
          refine lv_aload_n hx hb zd_Q_blanks_26 rfl (lv_at hl 0 rfl) ?_
          refine lv_dup hx hb zd_Q_blanks_27 rfl ?_
          refine va_get (D := g.1) (ci := 5) (v := .int (iI (x))) (C := zR_Q) (T := zT_Q) (N := 21) hx hb hw zin_Q hown hK hP 0 rfl rfl 7 (by decide) (hw _ zw_3_205) (fun _ h9 => h9) rfl zd_Q_blanks_28 ?_
          refine zi_iconst hx hb zd_Q_blanks_31 ?_
          refine zi_iadd hx hb zd_Q_blanks_32 ?_
          refine va_put (D := g.1) (ci := 5) (v := .int (iI (x + 1))) (ty := .int) (C := zR_Q) (T := zT_Q) (N := 21) hx hb hw zin_Q zt_Q zto_Q zn_Q hown hK hP hD hS 0 rfl rfl 7 (by decide) (hw _ zw_3_205) (fun _ h9 => h9) rfl  (by decide +kernel) rfl rfl (Nat.le_of_ble_eq_true rfl) zd_Q_blanks_33 (fun H locs hP hD hS => ?_)
          have hP : va_P g.1 zCl [(qq, .inr (5, [.int (iI (fl)), .ref (rf 0), .int (iI (ln)), .int (iI (pl)), .int (iI (yy)), .int (iI (mm)), .int (iI (dd)), .int (iI (x + 1)), .ref (rf 1), .ref (rf 2), .ref (rf 3), .ref (rf 4), .ref (rf 5), .ref (rf 6), .int (iI (wa)), .int (iI (on)), .int (iI (tw)), .ref (rf 7), .ref (rf 8), .ref (rf 9), .int (iI (hc))])), (rf 0, .inl (g.2 3, 400, .inl (zaI (zSg tf))))] H := hP
          have hD : va_D A [(qq, .inr (5, [.int (iI (fl)), .ref (rf 0), .int (iI (ln)), .int (iI (pl)), .int (iI (yy)), .int (iI (mm)), .int (iI (dd)), .int (iI (x + 1)), .ref (rf 1), .ref (rf 2), .ref (rf 3), .ref (rf 4), .ref (rf 5), .ref (rf 6), .int (iI (wa)), .int (iI (on)), .int (iI (tw)), .ref (rf 7), .ref (rf 8), .ref (rf 9), .int (iI (hc))])), (rf 0, .inl (g.2 3, 400, .inl (zaI (zSg tf))))] := hD
          refine lv_goto (tgt := 17) hx hb zd_Q_blanks_36 (by decide) ?_
          exact ih (x + 1) H locs ls (by omega) ((bEnd_y c23).symm.trans hE) (by omega) hP hD hS (lv_sub hl [0] rfl)
    exact loop 401 at0 s.heap [] ls (by omega) rfl (by omega) hP hD hS (lv_sub hl [0] rfl)
  · refine lv_aload_n hx hb zd_Q_blanks_9 rfl (lv_at hl 0 rfl) ?_
    refine lv_aload_n hx hb zd_Q_blanks_10 rfl (lv_at hl 0 rfl) ?_
    refine va_get (D := g.1) (ci := 5) (v := .int (iI (at0))) (C := zR_Q) (T := zT_Q) (N := 21) hx hb hw zin_Q hown hK hP 0 rfl rfl 7 (by decide) (hw _ zw_3_205) (fun _ h9 => h9) rfl zd_Q_blanks_11 ?_
    exact zk_X (As := [.int (iI (at0))]) (b := qq) (own := "CronFinderModel") (nL := 1) (rest := []) hx hb hml hown hw (c_Q_bad l g hl0 qq rf (fl) (ln) (pl) (yy) (mm) (dd) (at0) (wa) (on) (tw) (hc) (at0)) zw_4_43 zw_4_45 zw_0_31 zw_1_7 zw_4_46 (np := 1) (by decide +kernel) rfl ⟨rfl, rfl, Nat.le_of_ble_eq_true rfl, Nat.le_of_ble_eq_true rfl⟩ zTh_mv hK (zTh_nar (zTh_now hT hS) (va_free hD hS hA [0] rfl)) hP hD hS hA [0] rfl (by decide) (fun _ => rfl) (va_recv hK hP (ci := 5) (q0 := 0) rfl rfl) hl.1 rfl (Nat.le_of_ble_eq_true rfl) (zHm_1 hmc c6) zd_Q_blanks_14 hno hlk c6 (fun u _ h => ⟨u, h⟩) (zHm_1 hmc c6)
set_option maxHeartbeats 4000000 in
set_option maxRecDepth 100000 in
theorem c_Q_ranged (l : Launch) (g : zGl) (hl0 : l.stackTraces = false) (qq : Nat) (rf : Nat → Nat) (fl ln pl yy mm dd at0 wa on tw hc : Int) (tf : Nat → Int) (hln : 0 ≤ ln ∧ ln ≤ 400) (hat : 0 ≤ at0 ∧ at0 ≤ ln) (hch : ∀ j : Nat, 0 ≤ tf j ∧ tf j < 256) (lo hi : Int) (hlo : 0 ≤ lo ∧ lo ≤ 2000 ∧ 0 ≤ hi ∧ hi ≤ 2300) (mc ms : Nat) (hmc : zHm (rNm tf ln lo hi at0) mc ms) : zEi l zy_Q_ranged zc_Q_ranged 5 (some .int) ({ frames := 7, cells := mc, slots := ms, locals := 141 }) g zTh [.ref (qq), .int (iI (lo)), .int (iI (hi))] [(qq, .inr (5, [.int (iI (fl)), .ref (rf 0), .int (iI (ln)), .int (iI (pl)), .int (iI (yy)), .int (iI (mm)), .int (iI (dd)), .int (iI (at0)), .ref (rf 1), .ref (rf 2), .ref (rf 3), .ref (rf 4), .ref (rf 5), .ref (rf 6), .int (iI (wa)), .int (iI (on)), .int (iI (tw)), .ref (rf 7), .ref (rf 8), .ref (rf 9), .int (iI (hc))])), (rf 0, .inl (g.2 3, 400, .inl (zaI (zSg tf))))] (rNm tf ln lo hi at0) (some (.int (iI ((num tf ln at0).2)))) (fun _ => [(qq, .inr (5, [.int (iI (fl)), .ref (rf 0), .int (iI (ln)), .int (iI (pl)), .int (iI (yy)), .int (iI (mm)), .int (iI (dd)), .int (iI ((num tf ln at0).1)), .ref (rf 1), .ref (rf 2), .ref (rf 3), .ref (rf 4), .ref (rf 5), .ref (rf 6), .int (iI (wa)), .int (iI (on)), .int (iI (tw)), .ref (rf 7), .ref (rf 8), .ref (rf 9), .int (iI (hc))])), (rf 0, .inl (g.2 3, 400, .inl (zaI (zSg tf))))]) "java/lang/UnsupportedOperationException" (fun u => [(qq, .inr (5, [.int (iI (fl)), .ref (rf 0), .int (iI (ln)), .int (iI (at0)), .int (iI (yy)), .int (iI (mm)), .int (iI (dd)), .int (iI (u.1 0)), .ref (rf 1), .ref (rf 2), .ref (rf 3), .ref (rf 4), .ref (rf 5), .ref (rf 6), .int (iI (wa)), .int (iI (on)), .int (iI (tw)), .ref (rf 7), .ref (rf 8), .ref (rf 9), .int (iI (hc))])), (rf 0, .inl (g.2 3, 400, .inl (zaI (zSg tf))))]) mc ms := by
  refine ze_open (by decide +kernel) (Nat.le_of_ble_eq_true rfl) ?_
  intro p e s m below meth c ls A hx hb hml hr hno hlk hown hw hK hT hP hD hS hA hl
  have hown : s.vm.findClass "CronFinderModel" = some m.cls := hown
  have hl : lv_has ls 5 [(0, .ref (qq)), (1, .int (iI (lo))), (2, .int (iI (hi)))] := hl
  refine lv_aload_n hx hb zd_Q_ranged_0 rfl (lv_at hl 0 rfl) ?_
  refine va_get (D := g.1) (ci := 5) (v := .int (iI (at0))) (C := zR_Q) (T := zT_Q) (N := 21) hx hb hw zin_Q hown hK hP 0 rfl rfl 7 (by decide) (hw _ zw_3_205) (fun _ h9 => h9) rfl zd_Q_ranged_1 ?_
  refine lv_istore_n (lv' := [(3, .int (iI (at0))), (0, .ref (qq)), (1, .int (iI (lo))), (2, .int (iI (hi)))]) hx hb zd_Q_ranged_4 rfl hl (by decide) rfl (fun ls hl => ?_)
  refine lv_aload_n hx hb zd_Q_ranged_5 rfl (lv_at hl 1 rfl) ?_
  refine zk_V (As := []) (b := qq) (own := "CronFinderModel") (nL := 5) (rest := []) hx hb hml hown hw (c_Q_peek l g qq rf (fl) (ln) (pl) (yy) (mm) (dd) (at0) (wa) (on) (tw) (hc) tf hln (by omega) hch) zw_4_39 zw_4_41 zw_0_30 zw_1_7 zw_4_42 (np := 0) (by decide +kernel) rfl ⟨rfl, rfl, Nat.le_of_ble_eq_true rfl, Nat.le_of_ble_eq_true rfl⟩ zN_mv hK trivial (hP.sub (ws' := [(qq, .inr (5, [.int (iI (fl)), .ref (rf 0), .int (iI (ln)), .int (iI (pl)), .int (iI (yy)), .int (iI (mm)), .int (iI (dd)), .int (iI (at0)), .ref (rf 1), .ref (rf 2), .ref (rf 3), .ref (rf 4), .ref (rf 5), .ref (rf 6), .int (iI (wa)), .int (iI (on)), .int (iI (tw)), .ref (rf 7), .ref (rf 8), .ref (rf 9), .int (iI (hc))])), (rf 0, .inl (g.2 3, 400, .inl (zaI (zSg tf))))]) [0, 1] rfl) (va_recv hK hP (ci := 5) (q0 := 0) rfl rfl) hl.1 rfl (Nat.le_of_ble_eq_true rfl) ⟨Nat.zero_le _, Nat.zero_le _⟩ zd_Q_ranged_6 ?_
  have hk6 := rk_rg tf ln (at0) hch
  refine zk_S (As := [.int (iI (rk tf ln (at0)))]) (own := "CronFinderModel") (nL := 5) (rest := []) hx hb hml hown hw (c_Q_digit l g (rk tf ln (at0)) (by omega)) zw_4_65 zw_4_66 zw_1_7 zw_4_67 (np := 1) (by decide +kernel) rfl ⟨rfl, rfl, Nat.le_of_ble_eq_true rfl, Nat.le_of_ble_eq_true rfl⟩ zN_mv hK trivial (hP.sub (ws' := []) [] rfl) hl.1 rfl (Nat.le_of_ble_eq_true rfl) ⟨Nat.zero_le _, Nat.zero_le _⟩ zd_Q_ranged_9 ?_
  refine zb_if_ne (tgt := 23) hx hb zd_Q_ranged_12 (by decide) (fun c12 => ?_) (fun c12 => ?_)
  · refine zi_iconst hx hb zd_Q_ranged_23 ?_
    refine lv_istore (lv' := [(4, .int (iI (0))), (3, .int (iI (at0))), (0, .ref (qq)), (1, .int (iI (lo))), (2, .int (iI (hi)))]) hx hb zd_Q_ranged_24 hl (by decide) rfl (fun ls hl => ?_)
    refine lv_aload_n hx hb zd_Q_ranged_26 rfl (lv_at hl 2 rfl) ?_
    refine zk_V (As := []) (b := qq) (own := "CronFinderModel") (nL := 5) (rest := []) hx hb hml hown hw (c_Q_peek l g qq rf (fl) (ln) (pl) (yy) (mm) (dd) (at0) (wa) (on) (tw) (hc) tf hln (by omega) hch) zw_4_39 zw_4_41 zw_0_30 zw_1_7 zw_4_42 (np := 0) (by decide +kernel) rfl ⟨rfl, rfl, Nat.le_of_ble_eq_true rfl, Nat.le_of_ble_eq_true rfl⟩ zN_mv hK trivial (hP.sub (ws' := [(qq, .inr (5, [.int (iI (fl)), .ref (rf 0), .int (iI (ln)), .int (iI (pl)), .int (iI (yy)), .int (iI (mm)), .int (iI (dd)), .int (iI (at0)), .ref (rf 1), .ref (rf 2), .ref (rf 3), .ref (rf 4), .ref (rf 5), .ref (rf 6), .int (iI (wa)), .int (iI (on)), .int (iI (tw)), .ref (rf 7), .ref (rf 8), .ref (rf 9), .int (iI (hc))])), (rf 0, .inl (g.2 3, 400, .inl (zaI (zSg tf))))]) [0, 1] rfl) (va_recv hK hP (ci := 5) (q0 := 0) rfl rfl) hl.1 rfl (Nat.le_of_ble_eq_true rfl) ⟨Nat.zero_le _, Nat.zero_le _⟩ zd_Q_ranged_27 ?_
    have hk27 := rk_rg tf ln (at0) hch
    refine zi_bipush hx hb zd_Q_ranged_30 (by decide) ?_
    refine zi_icmp_ne (tgt := 48) hx hb zd_Q_ranged_32 (by decide) (by omega) (fun c32 => ?_) (fun c32 => ?_)
    · have hd0 := (qDg_i _).mp c12
      have hnum : num tf ln at0 = nEnd tf ln 401 at0 0 := by rw [num, if_neg c32]
      have loop : ∀ (n9 : Nat) (x v v9 : Int) (H : Heap) (locs : List Loc) (ls : Array Slot), (at0 ≤ x ∧ x ≤ ln) → (v9 = min v 100000) → (0 ≤ v) → (nEnd tf ln n9 x v = num tf ln at0) → ((ln - x).toNat < n9) → va_P g.1 zCl [(qq, .inr (5, [.int (iI (fl)), .ref (rf 0), .int (iI (ln)), .int (iI (pl)), .int (iI (yy)), .int (iI (mm)), .int (iI (dd)), .int (iI (x)), .ref (rf 1), .ref (rf 2), .ref (rf 3), .ref (rf 4), .ref (rf 5), .ref (rf 6), .int (iI (wa)), .int (iI (on)), .int (iI (tw)), .ref (rf 7), .ref (rf 8), .ref (rf 9), .int (iI (hc))])), (rf 0, .inl (g.2 3, 400, .inl (zaI (zSg tf))))] H → va_D A [(qq, .inr (5, [.int (iI (fl)), .ref (rf 0), .int (iI (ln)), .int (iI (pl)), .int (iI (yy)), .int (iI (mm)), .int (iI (dd)), .int (iI (x)), .ref (rf 1), .ref (rf 2), .ref (rf 3), .ref (rf 4), .ref (rf 5), .ref (rf 6), .int (iI (wa)), .int (iI (on)), .int (iI (tw)), .ref (rf 7), .ref (rf 8), .ref (rf 9), .int (iI (hc))])), (rf 0, .inl (g.2 3, 400, .inl (zaI (zSg tf))))] → va_S A s.heap H locs → lv_has ls 5 [(4, .int (iI (v9))), (3, .int (iI (at0))), (0, .ref (qq)), (1, .int (iI (lo))), (2, .int (iI (hi)))] → W p l e ({ frames := 7, cells := mc, slots := ms, locals := 141 }) s m [.ref (qq), .int (iI (lo)), .int (iI (hi))].toArray below meth c H locs 0 0 (vx_MQ below (zQC g (rNm tf ln lo hi at0) (some (.int (iI ((num tf ln at0).2)))) (fun _ => [(qq, .inr (5, [.int (iI (fl)), .ref (rf 0), .int (iI (ln)), .int (iI (pl)), .int (iI (yy)), .int (iI (mm)), .int (iI (dd)), .int (iI ((num tf ln at0).1)), .ref (rf 1), .ref (rf 2), .ref (rf 3), .ref (rf 4), .ref (rf 5), .ref (rf 6), .int (iI (wa)), .int (iI (on)), .int (iI (tw)), .ref (rf 7), .ref (rf 8), .ref (rf 9), .int (iI (hc))])), (rf 0, .inl (g.2 3, 400, .inl (zaI (zSg tf))))]) A) (zXC g (rNm tf ln lo hi at0) "java/lang/UnsupportedOperationException" (fun u => [(qq, .inr (5, [.int (iI (fl)), .ref (rf 0), .int (iI (ln)), .int (iI (at0)), .int (iI (yy)), .int (iI (mm)), .int (iI (dd)), .int (iI (u.1 0)), .ref (rf 1), .ref (rf 2), .ref (rf 3), .ref (rf 4), .ref (rf 5), .ref (rf 6), .int (iI (wa)), .int (iI (on)), .int (iI (tw)), .ref (rf 7), .ref (rf 8), .ref (rf 9), .int (iI (hc))])), (rf 0, .inl (g.2 3, 400, .inl (zaI (zSg tf))))]) A) [.ref (qq), .int (iI (lo)), .int (iI (hi))].toArray s mc ms A) (F0 m 48 ls []) := by
        intro n9
        induction n9 with
        | zero =>
          intro x v v9 H locs ls h1 hv hv0 hE h2 hP hD hS hl
          exact absurd h2 (by omega)
        | succ n9 ih =>
          intro x v v9 H locs ls h1 hv hv0 hE h2 hP hD hS hl
          refine lv_aload_n hx hb zd_Q_ranged_48 rfl (lv_at hl 2 rfl) ?_
          refine zk_V (As := []) (b := qq) (own := "CronFinderModel") (nL := 5) (rest := []) hx hb hml hown hw (c_Q_peek l g qq rf (fl) (ln) (pl) (yy) (mm) (dd) (x) (wa) (on) (tw) (hc) tf hln (by omega) hch) zw_4_39 zw_4_41 zw_0_30 zw_1_7 zw_4_42 (np := 0) (by decide +kernel) rfl ⟨rfl, rfl, Nat.le_of_ble_eq_true rfl, Nat.le_of_ble_eq_true rfl⟩ zN_mv hK trivial (hP.sub (ws' := [(qq, .inr (5, [.int (iI (fl)), .ref (rf 0), .int (iI (ln)), .int (iI (pl)), .int (iI (yy)), .int (iI (mm)), .int (iI (dd)), .int (iI (x)), .ref (rf 1), .ref (rf 2), .ref (rf 3), .ref (rf 4), .ref (rf 5), .ref (rf 6), .int (iI (wa)), .int (iI (on)), .int (iI (tw)), .ref (rf 7), .ref (rf 8), .ref (rf 9), .int (iI (hc))])), (rf 0, .inl (g.2 3, 400, .inl (zaI (zSg tf))))]) [0, 1] rfl) (va_recv hK hP (ci := 5) (q0 := 0) rfl rfl) hl.1 rfl (Nat.le_of_ble_eq_true rfl) ⟨Nat.zero_le _, Nat.zero_le _⟩ zd_Q_ranged_49 ?_
          have hk49 := rk_rg tf ln (x) hch
          refine zk_S (As := [.int (iI (rk tf ln (x)))]) (own := "CronFinderModel") (nL := 5) (rest := []) hx hb hml hown hw (c_Q_digit l g (rk tf ln (x)) (by omega)) zw_4_65 zw_4_66 zw_1_7 zw_4_67 (np := 1) (by decide +kernel) rfl ⟨rfl, rfl, Nat.le_of_ble_eq_true rfl, Nat.le_of_ble_eq_true rfl⟩ zN_mv hK trivial (hP.sub (ws' := []) [] rfl) hl.1 rfl (Nat.le_of_ble_eq_true rfl) ⟨Nat.zero_le _, Nat.zero_le _⟩ zd_Q_ranged_52 ?_
          refine zb_if_eq (tgt := 91) hx hb zd_Q_ranged_55 (by decide) (fun c55 => ?_) (fun c55 => ?_)
          · have hd9 : ¬ (48 ≤ rk tf ln x ∧ rk tf ln x ≤ 57) := fun q => by rw [(qDg_i _).mpr q] at c55; cases c55
            have hE2 := (nEnd_x hd9).symm.trans hE
            have hE3 : (num tf ln at0).1 = x := (congrArg Prod.fst hE2).symm
            have hE4 : (num tf ln at0).2 = v := (congrArg Prod.snd hE2).symm
            have hE5 : ¬ x = at0 := fun q => hd9 (by rw [q]; omega)
            refine lv_iload hx hb zd_Q_ranged_91 (lv_at hl 0 rfl) ?_
            refine lv_iload_n hx hb zd_Q_ranged_93 rfl (lv_at hl 3 rfl) ?_
            refine zi_icmp_lt (tgt := 103) hx hb zd_Q_ranged_94 (by decide) (by omega) (fun c94 => ?_) (fun c94 => ?_)
            · have hnk : ¬ rNm tf ln lo hi at0 := fun q => by have := q.2; omega
              refine lv_aload_n hx hb zd_Q_ranged_103 rfl (lv_at hl 2 rfl) ?_
              refine lv_iload_n hx hb zd_Q_ranged_104 rfl (lv_at hl 1 rfl) ?_
              exact zk_X (As := [.int (iI (at0))]) (b := qq) (own := "CronFinderModel") (nL := 5) (rest := []) hx hb hml hown hw (c_Q_bad l g hl0 qq rf (fl) (ln) (pl) (yy) (mm) (dd) (x) (wa) (on) (tw) (hc) (at0)) zw_4_43 zw_4_45 zw_0_31 zw_1_7 zw_4_46 (np := 1) (by decide +kernel) rfl ⟨rfl, rfl, Nat.le_of_ble_eq_true rfl, Nat.le_of_ble_eq_true rfl⟩ zTh_mv hK (zTh_nar (zTh_now hT hS) (va_free hD hS hA [0] rfl)) hP hD hS hA [0] rfl (by decide) (fun _ => rfl) (va_recv hK hP (ci := 5) (q0 := 0) rfl rfl) hl.1 rfl (Nat.le_of_ble_eq_true rfl) (zHm_1 hmc hnk) zd_Q_ranged_105 hno hlk hnk (fun u _ h => ⟨(zj [x], fun _ => fun _ => false), h⟩) (zHm_1 hmc hnk)
            · refine lv_iload hx hb zd_Q_ranged_97 (lv_at hl 0 rfl) ?_
              refine lv_iload_n hx hb zd_Q_ranged_99 rfl (lv_at hl 4 rfl) ?_
              refine zi_icmp_le (tgt := 108) hx hb zd_Q_ranged_100 (by decide) (by omega) (fun c100 => ?_) (fun c100 => ?_)
              · refine lv_iload hx hb zd_Q_ranged_108 (lv_at hl 0 rfl) ?_
                refine zi_as ((num tf ln at0).2) (by omega) ?_
                rw [show x = (num tf ln at0).1 by omega] at hP
                have hok9 := (show rNm tf ln lo hi at0 from And.intro (by omega) (And.intro (by omega) (by omega)))
                exact zq_iret hx hb hr hlk (fun _ => 0, fun _ _ => false) hP hS hok9 (zHm_y hmc hok9) zd_Q_ranged_110
              · have hnk : ¬ rNm tf ln lo hi at0 := fun q => by have := q.2; omega
                refine lv_aload_n hx hb zd_Q_ranged_103 rfl (lv_at hl 2 rfl) ?_
                refine lv_iload_n hx hb zd_Q_ranged_104 rfl (lv_at hl 1 rfl) ?_
                exact zk_X (As := [.int (iI (at0))]) (b := qq) (own := "CronFinderModel") (nL := 5) (rest := []) hx hb hml hown hw (c_Q_bad l g hl0 qq rf (fl) (ln) (pl) (yy) (mm) (dd) (x) (wa) (on) (tw) (hc) (at0)) zw_4_43 zw_4_45 zw_0_31 zw_1_7 zw_4_46 (np := 1) (by decide +kernel) rfl ⟨rfl, rfl, Nat.le_of_ble_eq_true rfl, Nat.le_of_ble_eq_true rfl⟩ zTh_mv hK (zTh_nar (zTh_now hT hS) (va_free hD hS hA [0] rfl)) hP hD hS hA [0] rfl (by decide) (fun _ => rfl) (va_recv hK hP (ci := 5) (q0 := 0) rfl rfl) hl.1 rfl (Nat.le_of_ble_eq_true rfl) (zHm_1 hmc hnk) zd_Q_ranged_105 hno hlk hnk (fun u _ h => ⟨(zj [x], fun _ => fun _ => false), h⟩) (zHm_1 hmc hnk)
          · have hd9 := (qDg_i _).mp c55
            have hx9 : x < ln := rk_lt (tf := tf) (ch := rk tf ln x) rfl (by omega)
            refine zi_bipush hx hb zd_Q_ranged_58 (by decide) ?_
            refine lv_iload hx hb zd_Q_ranged_60 (lv_at hl 0 rfl) ?_
            refine zi_imul hx hb zd_Q_ranged_62 ?_
            refine lv_aload_n hx hb zd_Q_ranged_63 rfl (lv_at hl 2 rfl) ?_
            refine zk_V (As := []) (b := qq) (own := "CronFinderModel") (nL := 5) (rest := [.int (iI (10 * v9))]) hx hb hml hown hw (c_Q_peek l g qq rf (fl) (ln) (pl) (yy) (mm) (dd) (x) (wa) (on) (tw) (hc) tf hln (by omega) hch) zw_4_39 zw_4_41 zw_0_30 zw_1_7 zw_4_42 (np := 0) (by decide +kernel) rfl ⟨rfl, rfl, Nat.le_of_ble_eq_true rfl, Nat.le_of_ble_eq_true rfl⟩ zN_mv hK trivial (hP.sub (ws' := [(qq, .inr (5, [.int (iI (fl)), .ref (rf 0), .int (iI (ln)), .int (iI (pl)), .int (iI (yy)), .int (iI (mm)), .int (iI (dd)), .int (iI (x)), .ref (rf 1), .ref (rf 2), .ref (rf 3), .ref (rf 4), .ref (rf 5), .ref (rf 6), .int (iI (wa)), .int (iI (on)), .int (iI (tw)), .ref (rf 7), .ref (rf 8), .ref (rf 9), .int (iI (hc))])), (rf 0, .inl (g.2 3, 400, .inl (zaI (zSg tf))))]) [0, 1] rfl) (va_recv hK hP (ci := 5) (q0 := 0) rfl rfl) hl.1 rfl (Nat.le_of_ble_eq_true rfl) ⟨Nat.zero_le _, Nat.zero_le _⟩ zd_Q_ranged_64 ?_
            have hk64 := rk_rg tf ln (x) hch
            refine zi_iadd hx hb zd_Q_ranged_67 ?_
            refine zi_bipush hx hb zd_Q_ranged_68 (by decide) ?_
            refine zi_isub hx hb zd_Q_ranged_70 ?_
            refine lv_ldc hx hb hown (hw _ zw_4_68) zd_Q_ranged_71 ?_
            refine zi_asx _ 100000 (by decide) ?_
            refine zk_S (As := [.int (iI (((10 * v9) + (rk tf ln (x))) - 48)), .int (iI (100000))]) (own := "CronFinderModel") (nL := 5) (rest := []) hx hb hml hown hw (c_min l g (((10 * v9) + (rk tf ln (x))) - 48) (100000) (by omega)) zw_4_69 zw_2_91 zw_1_14 zw_2_92 (np := 2) (by decide +kernel) rfl ⟨rfl, rfl, Nat.le_of_ble_eq_true rfl, Nat.le_of_ble_eq_true rfl⟩ zN_mv hK trivial (hP.sub (ws' := []) [] rfl) hl.1 rfl (Nat.le_of_ble_eq_true rfl) ⟨Nat.zero_le _, Nat.zero_le _⟩ zd_Q_ranged_73 ?_
            refine lv_istore (lv' := [(4, .int (iI (min (((10 * v9) + (rk tf ln (x))) - 48) (100000)))), (3, .int (iI (at0))), (0, .ref (qq)), (1, .int (iI (lo))), (2, .int (iI (hi)))]) hx hb zd_Q_ranged_76 hl (by decide) rfl (fun ls hl => ?_)
            refine lv_aload_n hx hb zd_Q_ranged_78 rfl (lv_at hl 2 rfl) ?_
            refine lv_dup hx hb zd_Q_ranged_79 rfl ?_
            refine va_get (D := g.1) (ci := 5) (v := .int (iI (x))) (C := zR_Q) (T := zT_Q) (N := 21) hx hb hw zin_Q hown hK hP 0 rfl rfl 7 (by decide) (hw _ zw_3_205) (fun _ h9 => h9) rfl zd_Q_ranged_80 ?_
            refine zi_iconst hx hb zd_Q_ranged_83 ?_
            refine zi_iadd hx hb zd_Q_ranged_84 ?_
            refine va_put (D := g.1) (ci := 5) (v := .int (iI (x + 1))) (ty := .int) (C := zR_Q) (T := zT_Q) (N := 21) hx hb hw zin_Q zt_Q zto_Q zn_Q hown hK hP hD hS 0 rfl rfl 7 (by decide) (hw _ zw_3_205) (fun _ h9 => h9) rfl  (by decide +kernel) rfl rfl (Nat.le_of_ble_eq_true rfl) zd_Q_ranged_85 (fun H locs hP hD hS => ?_)
            have hP : va_P g.1 zCl [(qq, .inr (5, [.int (iI (fl)), .ref (rf 0), .int (iI (ln)), .int (iI (pl)), .int (iI (yy)), .int (iI (mm)), .int (iI (dd)), .int (iI (x + 1)), .ref (rf 1), .ref (rf 2), .ref (rf 3), .ref (rf 4), .ref (rf 5), .ref (rf 6), .int (iI (wa)), .int (iI (on)), .int (iI (tw)), .ref (rf 7), .ref (rf 8), .ref (rf 9), .int (iI (hc))])), (rf 0, .inl (g.2 3, 400, .inl (zaI (zSg tf))))] H := hP
            have hD : va_D A [(qq, .inr (5, [.int (iI (fl)), .ref (rf 0), .int (iI (ln)), .int (iI (pl)), .int (iI (yy)), .int (iI (mm)), .int (iI (dd)), .int (iI (x + 1)), .ref (rf 1), .ref (rf 2), .ref (rf 3), .ref (rf 4), .ref (rf 5), .ref (rf 6), .int (iI (wa)), .int (iI (on)), .int (iI (tw)), .ref (rf 7), .ref (rf 8), .ref (rf 9), .int (iI (hc))])), (rf 0, .inl (g.2 3, 400, .inl (zaI (zSg tf))))] := hD
            refine lv_goto (tgt := 48) hx hb zd_Q_ranged_88 (by decide) ?_
            exact ih (x + 1) (10 * v + (rk tf ln x - 48)) _ H locs ls (by omega) (by omega) (by omega) ((nEnd_d ((qDg_i _).mp c55)).symm.trans hE) (by omega) hP hD hS (lv_sub hl [0, 1, 2, 3, 4] rfl)
      exact loop 401 at0 0 0 s.heap [] ls (by omega) (by decide) (by omega) hnum.symm (by omega) hP hD hS (lv_sub hl [0, 1, 2, 3, 4] rfl)
    · have hnum : num tf ln at0 = (at0 + 1, 0) := by rw [num, if_pos c32]
      have hE3 : (num tf ln at0).1 = at0 + 1 := congrArg Prod.fst hnum
      have hE4 : (num tf ln at0).2 = 0 := congrArg Prod.snd hnum
      have hx9 := rk_lt c32 (by decide)
      refine lv_aload_n hx hb zd_Q_ranged_35 rfl (lv_at hl 2 rfl) ?_
      refine lv_dup hx hb zd_Q_ranged_36 rfl ?_
      refine va_get (D := g.1) (ci := 5) (v := .int (iI (at0))) (C := zR_Q) (T := zT_Q) (N := 21) hx hb hw zin_Q hown hK hP 0 rfl rfl 7 (by decide) (hw _ zw_3_205) (fun _ h9 => h9) rfl zd_Q_ranged_37 ?_
      refine zi_iconst hx hb zd_Q_ranged_40 ?_
      refine zi_iadd hx hb zd_Q_ranged_41 ?_
      refine va_put (D := g.1) (ci := 5) (v := .int (iI (at0 + 1))) (ty := .int) (C := zR_Q) (T := zT_Q) (N := 21) hx hb hw zin_Q zt_Q zto_Q zn_Q hown hK hP hD hS 0 rfl rfl 7 (by decide) (hw _ zw_3_205) (fun _ h9 => h9) rfl  (by decide +kernel) rfl rfl (Nat.le_of_ble_eq_true rfl) zd_Q_ranged_42 (fun H locs hP hD hS => ?_)
      have hP : va_P g.1 zCl [(qq, .inr (5, [.int (iI (fl)), .ref (rf 0), .int (iI (ln)), .int (iI (pl)), .int (iI (yy)), .int (iI (mm)), .int (iI (dd)), .int (iI (at0 + 1)), .ref (rf 1), .ref (rf 2), .ref (rf 3), .ref (rf 4), .ref (rf 5), .ref (rf 6), .int (iI (wa)), .int (iI (on)), .int (iI (tw)), .ref (rf 7), .ref (rf 8), .ref (rf 9), .int (iI (hc))])), (rf 0, .inl (g.2 3, 400, .inl (zaI (zSg tf))))] H := hP
      have hD : va_D A [(qq, .inr (5, [.int (iI (fl)), .ref (rf 0), .int (iI (ln)), .int (iI (pl)), .int (iI (yy)), .int (iI (mm)), .int (iI (dd)), .int (iI (at0 + 1)), .ref (rf 1), .ref (rf 2), .ref (rf 3), .ref (rf 4), .ref (rf 5), .ref (rf 6), .int (iI (wa)), .int (iI (on)), .int (iI (tw)), .ref (rf 7), .ref (rf 8), .ref (rf 9), .int (iI (hc))])), (rf 0, .inl (g.2 3, 400, .inl (zaI (zSg tf))))] := hD
      refine lv_goto (tgt := 91) hx hb zd_Q_ranged_45 (by decide) ?_
      refine lv_iload hx hb zd_Q_ranged_91 (lv_at hl 0 rfl) ?_
      refine lv_iload_n hx hb zd_Q_ranged_93 rfl (lv_at hl 3 rfl) ?_
      refine zi_icmp_lt (tgt := 103) hx hb zd_Q_ranged_94 (by decide) (by omega) (fun c94 => ?_) (fun c94 => ?_)
      · have hnk : ¬ rNm tf ln lo hi at0 := fun q => by have := q.2; omega
        refine lv_aload_n hx hb zd_Q_ranged_103 rfl (lv_at hl 2 rfl) ?_
        refine lv_iload_n hx hb zd_Q_ranged_104 rfl (lv_at hl 1 rfl) ?_
        exact zk_X (As := [.int (iI (at0))]) (b := qq) (own := "CronFinderModel") (nL := 5) (rest := []) hx hb hml hown hw (c_Q_bad l g hl0 qq rf (fl) (ln) (pl) (yy) (mm) (dd) (at0 + 1) (wa) (on) (tw) (hc) (at0)) zw_4_43 zw_4_45 zw_0_31 zw_1_7 zw_4_46 (np := 1) (by decide +kernel) rfl ⟨rfl, rfl, Nat.le_of_ble_eq_true rfl, Nat.le_of_ble_eq_true rfl⟩ zTh_mv hK (zTh_nar (zTh_now hT hS) (va_free hD hS hA [0] rfl)) hP hD hS hA [0] rfl (by decide) (fun _ => rfl) (va_recv hK hP (ci := 5) (q0 := 0) rfl rfl) hl.1 rfl (Nat.le_of_ble_eq_true rfl) (zHm_1 hmc hnk) zd_Q_ranged_105 hno hlk hnk (fun u _ h => ⟨(zj [at0 + 1], fun _ => fun _ => false), h⟩) (zHm_1 hmc hnk)
      · refine lv_iload hx hb zd_Q_ranged_97 (lv_at hl 0 rfl) ?_
        refine lv_iload_n hx hb zd_Q_ranged_99 rfl (lv_at hl 4 rfl) ?_
        refine zi_icmp_le (tgt := 108) hx hb zd_Q_ranged_100 (by decide) (by omega) (fun c100 => ?_) (fun c100 => ?_)
        · refine lv_iload hx hb zd_Q_ranged_108 (lv_at hl 0 rfl) ?_
          refine zi_as ((num tf ln at0).2) (by omega) ?_
          rw [show (at0 + 1) = (num tf ln at0).1 by omega] at hP
          have hok9 := (show rNm tf ln lo hi at0 from And.intro (by omega) (And.intro (by omega) (by omega)))
          exact zq_iret hx hb hr hlk (fun _ => 0, fun _ _ => false) hP hS hok9 (zHm_y hmc hok9) zd_Q_ranged_110
        · have hnk : ¬ rNm tf ln lo hi at0 := fun q => by have := q.2; omega
          refine lv_aload_n hx hb zd_Q_ranged_103 rfl (lv_at hl 2 rfl) ?_
          refine lv_iload_n hx hb zd_Q_ranged_104 rfl (lv_at hl 1 rfl) ?_
          exact zk_X (As := [.int (iI (at0))]) (b := qq) (own := "CronFinderModel") (nL := 5) (rest := []) hx hb hml hown hw (c_Q_bad l g hl0 qq rf (fl) (ln) (pl) (yy) (mm) (dd) (at0 + 1) (wa) (on) (tw) (hc) (at0)) zw_4_43 zw_4_45 zw_0_31 zw_1_7 zw_4_46 (np := 1) (by decide +kernel) rfl ⟨rfl, rfl, Nat.le_of_ble_eq_true rfl, Nat.le_of_ble_eq_true rfl⟩ zTh_mv hK (zTh_nar (zTh_now hT hS) (va_free hD hS hA [0] rfl)) hP hD hS hA [0] rfl (by decide) (fun _ => rfl) (va_recv hK hP (ci := 5) (q0 := 0) rfl rfl) hl.1 rfl (Nat.le_of_ble_eq_true rfl) (zHm_1 hmc hnk) zd_Q_ranged_105 hno hlk hnk (fun u _ h => ⟨(zj [at0 + 1], fun _ => fun _ => false), h⟩) (zHm_1 hmc hnk)
  · refine lv_aload_n hx hb zd_Q_ranged_15 rfl (lv_at hl 1 rfl) ?_
    refine lv_aload_n hx hb zd_Q_ranged_16 rfl (lv_at hl 1 rfl) ?_
    refine va_get (D := g.1) (ci := 5) (v := .int (iI (at0))) (C := zR_Q) (T := zT_Q) (N := 21) hx hb hw zin_Q hown hK hP 0 rfl rfl 7 (by decide) (hw _ zw_3_205) (fun _ h9 => h9) rfl zd_Q_ranged_17 ?_
    exact zk_X (As := [.int (iI (at0))]) (b := qq) (own := "CronFinderModel") (nL := 5) (rest := []) hx hb hml hown hw (c_Q_bad l g hl0 qq rf (fl) (ln) (pl) (yy) (mm) (dd) (at0) (wa) (on) (tw) (hc) (at0)) zw_4_43 zw_4_45 zw_0_31 zw_1_7 zw_4_46 (np := 1) (by decide +kernel) rfl ⟨rfl, rfl, Nat.le_of_ble_eq_true rfl, Nat.le_of_ble_eq_true rfl⟩ zTh_mv hK (zTh_nar (zTh_now hT hS) (va_free hD hS hA [0] rfl)) hP hD hS hA [0] rfl (by decide) (fun _ => rfl) (va_recv hK hP (ci := 5) (q0 := 0) rfl rfl) hl.1 rfl (Nat.le_of_ble_eq_true rfl) (zHm_1 hmc (rNm_nd c12)) zd_Q_ranged_20 hno hlk (rNm_nd c12) (fun u _ h => ⟨(zj [at0], fun _ => fun _ => false), h⟩) (zHm_1 hmc (rNm_nd c12))
set_option maxHeartbeats 4000000 in
set_option maxRecDepth 100000 in
theorem c_Q_value_o (l : Launch) (g : zGl) (hl0 : l.stackTraces = false) (qq : Nat) (rf : Nat → Nat) (fl ln pl yy mm dd at0 wa on tw hc : Int) (tf : Nat → Int) (hln : 0 ≤ ln ∧ ln ≤ 400) (hat : 0 ≤ at0 ∧ at0 ≤ ln) (hch : ∀ j : Nat, 0 ≤ tf j ∧ tf j < 256) (t1 t2 : Nat) (mq mv wq wv : Nat → Nat) (j : Nat) (hj : j < 7) (h45 : ¬ j = 4 ∧ ¬ j = 5) (mc ms : Nat) (hmc : zHm (vOk j tf ln at0 = true) mc ms) : zEi l zy_Q_value zc_Q_value 6 (some .int) ({ frames := 8, cells := mc, slots := ms, locals := 165 }) g (zQs t1 t2 mq mv wq wv) [.ref (qq), .int (iI (((j : Nat) : Int)))] [(qq, .inr (5, [.int (iI (fl)), .ref (rf 0), .int (iI (ln)), .int (iI (pl)), .int (iI (yy)), .int (iI (mm)), .int (iI (dd)), .int (iI (at0)), .ref (rf 1), .ref (rf 2), .ref (rf 3), .ref (rf 4), .ref (rf 5), .ref (rf 6), .int (iI (wa)), .int (iI (on)), .int (iI (tw)), .ref (rf 7), .ref (rf 8), .ref (rf 9), .int (iI (hc))])), (rf 0, .inl (g.2 3, 400, .inl (zaI (zSg tf)))), (rf 7, .inl (g.2 8, 12, .inr (.inr (.inr (.inr (zaR mq)))))), (rf 8, .inl (g.2 8, 7, .inr (.inr (.inr (.inr (zaR wq))))))] (vOk j tf ln at0 = true) (some (.int (iI (vVl j tf ln at0)))) (fun _ => [(qq, .inr (5, [.int (iI (fl)), .ref (rf 0), .int (iI (ln)), .int (iI (pl)), .int (iI (yy)), .int (iI (mm)), .int (iI (dd)), .int (iI (vAt j tf ln at0)), .ref (rf 1), .ref (rf 2), .ref (rf 3), .ref (rf 4), .ref (rf 5), .ref (rf 6), .int (iI (wa)), .int (iI (on)), .int (iI (tw)), .ref (rf 7), .ref (rf 8), .ref (rf 9), .int (iI (hc))])), (rf 0, .inl (g.2 3, 400, .inl (zaI (zSg tf)))), (rf 7, .inl (g.2 8, 12, .inr (.inr (.inr (.inr (zaR mq)))))), (rf 8, .inl (g.2 8, 7, .inr (.inr (.inr (.inr (zaR wq))))))]) "java/lang/UnsupportedOperationException" (fun u => [(qq, .inr (5, [.int (iI (fl)), .ref (rf 0), .int (iI (ln)), .int (iI (at0)), .int (iI (yy)), .int (iI (mm)), .int (iI (dd)), .int (iI (u.1 0)), .ref (rf 1), .ref (rf 2), .ref (rf 3), .ref (rf 4), .ref (rf 5), .ref (rf 6), .int (iI (wa)), .int (iI (on)), .int (iI (tw)), .ref (rf 7), .ref (rf 8), .ref (rf 9), .int (iI (hc))])), (rf 0, .inl (g.2 3, 400, .inl (zaI (zSg tf)))), (rf 7, .inl (g.2 8, 12, .inr (.inr (.inr (.inr (zaR mq)))))), (rf 8, .inl (g.2 8, 7, .inr (.inr (.inr (.inr (zaR wq))))))]) mc ms := by
  refine ze_open (by decide +kernel) (Nat.le_of_ble_eq_true rfl) ?_
  intro p e s m below meth c ls A hx hb hml hr hno hlk hown hw hK hT hP hD hS hA hl
  have hown : s.vm.findClass "CronFinderModel" = some m.cls := hown
  have hl : lv_has ls 6 [(0, .ref (qq)), (1, .int (iI (((j : Nat) : Int))))] := hl
  refine lv_iload_n hx hb zd_Q_value_0 rfl (lv_at hl 1 rfl) ?_
  refine zi_iconst hx hb zd_Q_value_1 ?_
  refine zi_icmp_eq (tgt := 10) hx hb zd_Q_value_2 (by decide) (by omega) (fun c2 => ?_) (fun c2 => ?_)
  · omega
  · refine lv_iload_n hx hb zd_Q_value_5 rfl (lv_at hl 1 rfl) ?_
    refine zi_iconst hx hb zd_Q_value_6 ?_
    refine zi_icmp_ne (tgt := 139) hx hb zd_Q_value_7 (by decide) (by omega) (fun c7 => ?_) (fun c7 => ?_)
    · have hv0 : vNm j ln tf at0 = 0 := vNm_0 (by omega) (by omega)
      refine lv_aload_n hx hb zd_Q_value_139 rfl (lv_at hl 0 rfl) ?_
      refine va_gets hx hb hT.2.1.1 hS hown (hw _ zw_4_74) (fun _ h9 => h9) zd_Q_value_140 ?_
      refine lv_iload_n hx hb zd_Q_value_143 rfl (lv_at hl 1 rfl) ?_
      refine zi_ti hx hb hT.2.1.2.1 hS (by omega) zd_Q_value_144 ?_
      refine zi_as (fLo j) (fLoI_n j) ?_
      refine va_gets hx hb hT.2.1.2.2.1 hS hown (hw _ zw_4_76) (fun _ h9 => h9) zd_Q_value_145 ?_
      refine lv_iload_n hx hb zd_Q_value_148 rfl (lv_at hl 1 rfl) ?_
      refine zi_ti hx hb hT.2.1.2.2.2 hS (by omega) zd_Q_value_149 ?_
      refine zi_as (fHi j) (fHiI_n j) ?_
      by_cases ho150 : rNm tf ln (fLo j) (fHi j) (at0)
      · have hu150 := rNm_rg ho150 (by omega)
        refine zk_W (As := [.int (iI (fLo j)), .int (iI (fHi j))]) (b := qq) (own := "CronFinderModel") (nL := 6) (rest := []) hx hb hml hown hw (zE_y (c_Q_ranged l g hl0 qq rf (fl) (ln) (pl) (yy) (mm) (dd) (at0) (wa) (on) (tw) (hc) tf hln (by omega) hch (fLo j) (fHi j) (by have := fLH (j := j) hj; omega) 0 0 (Or.inl ⟨ho150, rfl, rfl⟩)) ho150) zw_4_61 zw_4_63 zw_0_33 zw_1_7 zw_4_64 (np := 2) (by decide +kernel) rfl ⟨rfl, rfl, Nat.le_of_ble_eq_true rfl, Nat.le_of_ble_eq_true rfl⟩ zTh_mv hK (zTh_nar (zTh_now hT.1 hS) (va_free hD hS hA [0, 1] rfl)) hP hD hS hA [0, 1] rfl (by decide) rfl (va_recv hK hP (ci := 5) (q0 := 0) rfl rfl) hl.1 rfl (Nat.le_of_ble_eq_true rfl) ⟨Nat.zero_le _, Nat.zero_le _⟩ zd_Q_value_150 (fun H locs hP hD hS => ?_)
        have hP : va_P g.1 zCl [(qq, .inr (5, [.int (iI (fl)), .ref (rf 0), .int (iI (ln)), .int (iI (pl)), .int (iI (yy)), .int (iI (mm)), .int (iI (dd)), .int (iI ((num tf ln (at0)).1)), .ref (rf 1), .ref (rf 2), .ref (rf 3), .ref (rf 4), .ref (rf 5), .ref (rf 6), .int (iI (wa)), .int (iI (on)), .int (iI (tw)), .ref (rf 7), .ref (rf 8), .ref (rf 9), .int (iI (hc))])), (rf 0, .inl (g.2 3, 400, .inl (zaI (zSg tf)))), (rf 7, .inl (g.2 8, 12, .inr (.inr (.inr (.inr (zaR mq)))))), (rf 8, .inl (g.2 8, 7, .inr (.inr (.inr (.inr (zaR wq))))))] H := hP
        have hD : va_D A [(qq, .inr (5, [.int (iI (fl)), .ref (rf 0), .int (iI (ln)), .int (iI (pl)), .int (iI (yy)), .int (iI (mm)), .int (iI (dd)), .int (iI ((num tf ln (at0)).1)), .ref (rf 1), .ref (rf 2), .ref (rf 3), .ref (rf 4), .ref (rf 5), .ref (rf 6), .int (iI (wa)), .int (iI (on)), .int (iI (tw)), .ref (rf 7), .ref (rf 8), .ref (rf 9), .int (iI (hc))])), (rf 0, .inl (g.2 3, 400, .inl (zaI (zSg tf)))), (rf 7, .inl (g.2 8, 12, .inr (.inr (.inr (.inr (zaR mq)))))), (rf 8, .inl (g.2 8, 7, .inr (.inr (.inr (.inr (zaR wq))))))] := hD
        refine zi_as (vVl j tf ln at0) ((vVl_0 hv0).symm) ?_
        rw [← vAt_0 hv0] at hP
        have hok9 := ((vOk_0 hv0).mpr ho150)
        exact zq_iret hx hb hr hlk (fun _ => 0, fun _ _ => false) hP hS hok9 (zHm_y hmc hok9) zd_Q_value_153
      · exact zk_X (As := [.int (iI (fLo j)), .int (iI (fHi j))]) (b := qq) (own := "CronFinderModel") (nL := 6) (rest := []) hx hb hml hown hw (zE_n (c_Q_ranged l g hl0 qq rf (fl) (ln) (pl) (yy) (mm) (dd) (at0) (wa) (on) (tw) (hc) tf hln (by omega) hch (fLo j) (fHi j) (by have := fLH (j := j) hj; omega) 1 6 (Or.inr ⟨ho150, rfl, rfl⟩)) ho150) zw_4_61 zw_4_63 zw_0_33 zw_1_7 zw_4_64 (np := 2) (by decide +kernel) rfl ⟨rfl, rfl, Nat.le_of_ble_eq_true rfl, Nat.le_of_ble_eq_true rfl⟩ zTh_mv hK (zTh_nar (zTh_now hT.1 hS) (va_free hD hS hA [0, 1] rfl)) hP hD hS hA [0, 1] rfl (by decide) (fun _ => rfl) (va_recv hK hP (ci := 5) (q0 := 0) rfl rfl) hl.1 rfl (Nat.le_of_ble_eq_true rfl) (zHm_1 hmc (fun q => ho150 ((vOk_0 hv0).mp q))) zd_Q_value_150 hno hlk (fun q => ho150 ((vOk_0 hv0).mp q)) (fun u _ h => ⟨u, h⟩) (zHm_1 hmc (fun q => ho150 ((vOk_0 hv0).mp q)))
    · omega
set_option maxHeartbeats 4000000 in
set_option maxRecDepth 100000 in
theorem c_Q_value_4 (l : Launch) (g : zGl) (hl0 : l.stackTraces = false) (qq : Nat) (rf : Nat → Nat) (fl ln pl yy mm dd at0 wa on tw hc : Int) (tf : Nat → Int) (hln : 0 ≤ ln ∧ ln ≤ 400) (hat : 0 ≤ at0 ∧ at0 ≤ ln) (hch : ∀ j : Nat, 0 ≤ tf j ∧ tf j < 256) (t1 t2 : Nat) (mq mv wq wv : Nat → Nat) (mc ms : Nat) (hmc : zHm (vOk 4 tf ln at0 = true) mc ms) : zEi l zy_Q_value zc_Q_value 6 (some .int) ({ frames := 8, cells := mc, slots := ms, locals := 165 }) g (zQs t1 t2 mq mv wq wv) [.ref (qq), .int (iI (4))] [(qq, .inr (5, [.int (iI (fl)), .ref (rf 0), .int (iI (ln)), .int (iI (pl)), .int (iI (yy)), .int (iI (mm)), .int (iI (dd)), .int (iI (at0)), .ref (rf 1), .ref (rf 2), .ref (rf 3), .ref (rf 4), .ref (rf 5), .ref (rf 6), .int (iI (wa)), .int (iI (on)), .int (iI (tw)), .ref (rf 7), .ref (rf 8), .ref (rf 9), .int (iI (hc))])), (rf 0, .inl (g.2 3, 400, .inl (zaI (zSg tf)))), (rf 7, .inl (g.2 8, 12, .inr (.inr (.inr (.inr (zaR mq)))))), (rf 8, .inl (g.2 8, 7, .inr (.inr (.inr (.inr (zaR wq))))))] (vOk 4 tf ln at0 = true) (some (.int (iI (vVl 4 tf ln at0)))) (fun _ => [(qq, .inr (5, [.int (iI (fl)), .ref (rf 0), .int (iI (ln)), .int (iI (pl)), .int (iI (yy)), .int (iI (mm)), .int (iI (dd)), .int (iI (vAt 4 tf ln at0)), .ref (rf 1), .ref (rf 2), .ref (rf 3), .ref (rf 4), .ref (rf 5), .ref (rf 6), .int (iI (wa)), .int (iI (on)), .int (iI (tw)), .ref (rf 7), .ref (rf 8), .ref (rf 9), .int (iI (hc))])), (rf 0, .inl (g.2 3, 400, .inl (zaI (zSg tf)))), (rf 7, .inl (g.2 8, 12, .inr (.inr (.inr (.inr (zaR mq)))))), (rf 8, .inl (g.2 8, 7, .inr (.inr (.inr (.inr (zaR wq))))))]) "java/lang/UnsupportedOperationException" (fun u => [(qq, .inr (5, [.int (iI (fl)), .ref (rf 0), .int (iI (ln)), .int (iI (at0)), .int (iI (yy)), .int (iI (mm)), .int (iI (dd)), .int (iI (u.1 0)), .ref (rf 1), .ref (rf 2), .ref (rf 3), .ref (rf 4), .ref (rf 5), .ref (rf 6), .int (iI (wa)), .int (iI (on)), .int (iI (tw)), .ref (rf 7), .ref (rf 8), .ref (rf 9), .int (iI (hc))])), (rf 0, .inl (g.2 3, 400, .inl (zaI (zSg tf)))), (rf 7, .inl (g.2 8, 12, .inr (.inr (.inr (.inr (zaR mq)))))), (rf 8, .inl (g.2 8, 7, .inr (.inr (.inr (.inr (zaR wq))))))]) mc ms := by
  refine ze_open (by decide +kernel) (Nat.le_of_ble_eq_true rfl) ?_
  intro p e s m below meth c ls A hx hb hml hr hno hlk hown hw hK hT hP hD hS hA hl
  have hown : s.vm.findClass "CronFinderModel" = some m.cls := hown
  have hl : lv_has ls 6 [(0, .ref (qq)), (1, .int (iI (4)))] := hl
  refine lv_iload_n hx hb zd_Q_value_0 rfl (lv_at hl 1 rfl) ?_
  refine zi_iconst hx hb zd_Q_value_1 ?_
  refine zi_icmp_eq (tgt := 10) hx hb zd_Q_value_2 (by decide) (by omega) (fun _ => ?_) (fun c2 => absurd c2 (by decide))
  refine lv_aload_n hx hb zd_Q_value_10 rfl (lv_at hl 0 rfl) ?_
  refine zk_V (As := []) (b := qq) (own := "CronFinderModel") (nL := 6) (rest := []) hx hb hml hown hw (c_Q_peek l g qq rf (fl) (ln) (pl) (yy) (mm) (dd) (at0) (wa) (on) (tw) (hc) tf hln (by omega) hch) zw_4_39 zw_4_41 zw_0_30 zw_1_7 zw_4_42 (np := 0) (by decide +kernel) rfl ⟨rfl, rfl, Nat.le_of_ble_eq_true rfl, Nat.le_of_ble_eq_true rfl⟩ zN_mv hK trivial (hP.sub (ws' := [(qq, .inr (5, [.int (iI (fl)), .ref (rf 0), .int (iI (ln)), .int (iI (pl)), .int (iI (yy)), .int (iI (mm)), .int (iI (dd)), .int (iI (at0)), .ref (rf 1), .ref (rf 2), .ref (rf 3), .ref (rf 4), .ref (rf 5), .ref (rf 6), .int (iI (wa)), .int (iI (on)), .int (iI (tw)), .ref (rf 7), .ref (rf 8), .ref (rf 9), .int (iI (hc))])), (rf 0, .inl (g.2 3, 400, .inl (zaI (zSg tf))))]) [0, 1] rfl) (va_recv hK hP (ci := 5) (q0 := 0) rfl rfl) hl.1 rfl (Nat.le_of_ble_eq_true rfl) ⟨Nat.zero_le _, Nat.zero_le _⟩ zd_Q_value_11 ?_
  have hk11 := rk_rg tf ln (at0) hch
  refine zk_S (As := [.int (iI (rk tf ln (at0)))]) (own := "CronFinderModel") (nL := 6) (rest := []) hx hb hml hown hw (c_Q_letter l g (rk tf ln (at0)) (by omega)) zw_4_82 zw_4_83 zw_1_7 zw_4_84 (np := 1) (by decide +kernel) rfl ⟨rfl, rfl, Nat.le_of_ble_eq_true rfl, Nat.le_of_ble_eq_true rfl⟩ zN_mv hK trivial (hP.sub (ws' := []) [] rfl) hl.1 rfl (Nat.le_of_ble_eq_true rfl) ⟨Nat.zero_le _, Nat.zero_le _⟩ zd_Q_value_14 ?_
  refine zb_if_eq (tgt := 139) hx hb zd_Q_value_17 (by decide) (fun c17 => ?_) (fun c17 => ?_)
  · have hv0 : vNm 4 ln tf at0 = 0 := nmA_nl fMon_L c17
    refine lv_aload_n hx hb zd_Q_value_139 rfl (lv_at hl 0 rfl) ?_
    refine va_gets hx hb hT.2.1.1 hS hown (hw _ zw_4_74) (fun _ h9 => h9) zd_Q_value_140 ?_
    refine lv_iload_n hx hb zd_Q_value_143 rfl (lv_at hl 1 rfl) ?_
    refine zi_ti hx hb hT.2.1.2.1 hS (by omega) zd_Q_value_144 ?_
    refine zi_as (fLo 4) (fLoI_n 4) ?_
    refine va_gets hx hb hT.2.1.2.2.1 hS hown (hw _ zw_4_76) (fun _ h9 => h9) zd_Q_value_145 ?_
    refine lv_iload_n hx hb zd_Q_value_148 rfl (lv_at hl 1 rfl) ?_
    refine zi_ti hx hb hT.2.1.2.2.2 hS (by omega) zd_Q_value_149 ?_
    refine zi_as (fHi 4) (fHiI_n 4) ?_
    by_cases ho150 : rNm tf ln (fLo 4) (fHi 4) (at0)
    · have hu150 := rNm_rg ho150 (by omega)
      refine zk_W (As := [.int (iI (fLo 4)), .int (iI (fHi 4))]) (b := qq) (own := "CronFinderModel") (nL := 6) (rest := []) hx hb hml hown hw (zE_y (c_Q_ranged l g hl0 qq rf (fl) (ln) (pl) (yy) (mm) (dd) (at0) (wa) (on) (tw) (hc) tf hln (by omega) hch (fLo 4) (fHi 4) (by have := fLH (j := 4) (by decide); omega) 0 0 (Or.inl ⟨ho150, rfl, rfl⟩)) ho150) zw_4_61 zw_4_63 zw_0_33 zw_1_7 zw_4_64 (np := 2) (by decide +kernel) rfl ⟨rfl, rfl, Nat.le_of_ble_eq_true rfl, Nat.le_of_ble_eq_true rfl⟩ zTh_mv hK (zTh_nar (zTh_now hT.1 hS) (va_free hD hS hA [0, 1] rfl)) hP hD hS hA [0, 1] rfl (by decide) rfl (va_recv hK hP (ci := 5) (q0 := 0) rfl rfl) hl.1 rfl (Nat.le_of_ble_eq_true rfl) ⟨Nat.zero_le _, Nat.zero_le _⟩ zd_Q_value_150 (fun H locs hP hD hS => ?_)
      have hP : va_P g.1 zCl [(qq, .inr (5, [.int (iI (fl)), .ref (rf 0), .int (iI (ln)), .int (iI (pl)), .int (iI (yy)), .int (iI (mm)), .int (iI (dd)), .int (iI ((num tf ln (at0)).1)), .ref (rf 1), .ref (rf 2), .ref (rf 3), .ref (rf 4), .ref (rf 5), .ref (rf 6), .int (iI (wa)), .int (iI (on)), .int (iI (tw)), .ref (rf 7), .ref (rf 8), .ref (rf 9), .int (iI (hc))])), (rf 0, .inl (g.2 3, 400, .inl (zaI (zSg tf)))), (rf 7, .inl (g.2 8, 12, .inr (.inr (.inr (.inr (zaR mq)))))), (rf 8, .inl (g.2 8, 7, .inr (.inr (.inr (.inr (zaR wq))))))] H := hP
      have hD : va_D A [(qq, .inr (5, [.int (iI (fl)), .ref (rf 0), .int (iI (ln)), .int (iI (pl)), .int (iI (yy)), .int (iI (mm)), .int (iI (dd)), .int (iI ((num tf ln (at0)).1)), .ref (rf 1), .ref (rf 2), .ref (rf 3), .ref (rf 4), .ref (rf 5), .ref (rf 6), .int (iI (wa)), .int (iI (on)), .int (iI (tw)), .ref (rf 7), .ref (rf 8), .ref (rf 9), .int (iI (hc))])), (rf 0, .inl (g.2 3, 400, .inl (zaI (zSg tf)))), (rf 7, .inl (g.2 8, 12, .inr (.inr (.inr (.inr (zaR mq)))))), (rf 8, .inl (g.2 8, 7, .inr (.inr (.inr (.inr (zaR wq))))))] := hD
      refine zi_as (vVl 4 tf ln at0) ((vVl_0 hv0).symm) ?_
      rw [← vAt_0 hv0] at hP
      have hok9 := ((vOk_0 hv0).mpr ho150)
      exact zq_iret hx hb hr hlk (fun _ => 0, fun _ _ => false) hP hS hok9 (zHm_y hmc hok9) zd_Q_value_153
    · exact zk_X (As := [.int (iI (fLo 4)), .int (iI (fHi 4))]) (b := qq) (own := "CronFinderModel") (nL := 6) (rest := []) hx hb hml hown hw (zE_n (c_Q_ranged l g hl0 qq rf (fl) (ln) (pl) (yy) (mm) (dd) (at0) (wa) (on) (tw) (hc) tf hln (by omega) hch (fLo 4) (fHi 4) (by have := fLH (j := 4) (by decide); omega) 1 6 (Or.inr ⟨ho150, rfl, rfl⟩)) ho150) zw_4_61 zw_4_63 zw_0_33 zw_1_7 zw_4_64 (np := 2) (by decide +kernel) rfl ⟨rfl, rfl, Nat.le_of_ble_eq_true rfl, Nat.le_of_ble_eq_true rfl⟩ zTh_mv hK (zTh_nar (zTh_now hT.1 hS) (va_free hD hS hA [0, 1] rfl)) hP hD hS hA [0, 1] rfl (by decide) (fun _ => rfl) (va_recv hK hP (ci := 5) (q0 := 0) rfl rfl) hl.1 rfl (Nat.le_of_ble_eq_true rfl) (zHm_1 hmc (fun q => ho150 ((vOk_0 hv0).mp q))) zd_Q_value_150 hno hlk (fun q => ho150 ((vOk_0 hv0).mp q)) (fun u _ h => ⟨u, h⟩) (zHm_1 hmc (fun q => ho150 ((vOk_0 hv0).mp q)))
  · refine lv_iload_n hx hb zd_Q_value_20 rfl (lv_at hl 1 rfl) ?_
    refine zi_iconst hx hb zd_Q_value_21 ?_
    refine zi_icmp_ne (tgt := 32) hx hb zd_Q_value_22 (by decide) (by omega) (fun c22 => absurd c22 (by decide)) (fun _ => ?_)
    refine lv_aload_n hx hb zd_Q_value_25 rfl (lv_at hl 0 rfl) ?_
    refine va_get (D := g.1) (ci := 5) (v := .ref (rf 7)) (C := zR_Q) (T := zT_Q) (N := 21) hx hb hw zin_Q hown hK hP 0 rfl rfl 17 (by decide) (hw _ zw_3_215) (fun _ h9 => h9) rfl zd_Q_value_26 ?_
    refine lv_goto (tgt := 36) hx hb zd_Q_value_29 (by decide) ?_
    refine lv_astore_n (lv' := [(2, .ref (rf 7)), (0, .ref (qq)), (1, .int (iI (4)))]) hx hb zd_Q_value_36 rfl hl (by decide) rfl (fun ls hl => ?_)
    refine zi_iconst hx hb zd_Q_value_37 ?_
    refine lv_istore_n (lv' := [(3, .int (iI (0))), (2, .ref (rf 7)), (0, .ref (qq)), (1, .int (iI (4)))]) hx hb zd_Q_value_38 rfl hl (by decide) rfl (fun ls hl => ?_)
    have loop : ∀ (n9 : Nat) (k : Nat) (H : Heap) (locs : List Loc) (ls : Array Slot), (k ≤ 12) → (¬ ln - at0 < 3 → nmF fMon 36 tf at0 n9 ((k : Nat) : Int) = nmF fMon 36 tf at0 20 0) → (12 - k < n9) → va_P g.1 zCl [(qq, .inr (5, [.int (iI (fl)), .ref (rf 0), .int (iI (ln)), .int (iI (pl)), .int (iI (yy)), .int (iI (mm)), .int (iI (dd)), .int (iI (at0)), .ref (rf 1), .ref (rf 2), .ref (rf 3), .ref (rf 4), .ref (rf 5), .ref (rf 6), .int (iI (wa)), .int (iI (on)), .int (iI (tw)), .ref (rf 7), .ref (rf 8), .ref (rf 9), .int (iI (hc))])), (rf 0, .inl (g.2 3, 400, .inl (zaI (zSg tf)))), (rf 7, .inl (g.2 8, 12, .inr (.inr (.inr (.inr (zaR mq)))))), (rf 8, .inl (g.2 8, 7, .inr (.inr (.inr (.inr (zaR wq))))))] H → va_D A [(qq, .inr (5, [.int (iI (fl)), .ref (rf 0), .int (iI (ln)), .int (iI (pl)), .int (iI (yy)), .int (iI (mm)), .int (iI (dd)), .int (iI (at0)), .ref (rf 1), .ref (rf 2), .ref (rf 3), .ref (rf 4), .ref (rf 5), .ref (rf 6), .int (iI (wa)), .int (iI (on)), .int (iI (tw)), .ref (rf 7), .ref (rf 8), .ref (rf 9), .int (iI (hc))])), (rf 0, .inl (g.2 3, 400, .inl (zaI (zSg tf)))), (rf 7, .inl (g.2 8, 12, .inr (.inr (.inr (.inr (zaR mq)))))), (rf 8, .inl (g.2 8, 7, .inr (.inr (.inr (.inr (zaR wq))))))] → va_S A s.heap H locs → lv_has ls 6 [(3, .int (iI (((k : Nat) : Int)))), (2, .ref (rf 7)), (0, .ref (qq)), (1, .int (iI (4)))] → W p l e ({ frames := 8, cells := mc, slots := ms, locals := 165 }) s m [.ref (qq), .int (iI (4))].toArray below meth c H locs 0 0 (vx_MQ below (zQC g (vOk 4 tf ln at0 = true) (some (.int (iI (vVl 4 tf ln at0)))) (fun _ => [(qq, .inr (5, [.int (iI (fl)), .ref (rf 0), .int (iI (ln)), .int (iI (pl)), .int (iI (yy)), .int (iI (mm)), .int (iI (dd)), .int (iI (vAt 4 tf ln at0)), .ref (rf 1), .ref (rf 2), .ref (rf 3), .ref (rf 4), .ref (rf 5), .ref (rf 6), .int (iI (wa)), .int (iI (on)), .int (iI (tw)), .ref (rf 7), .ref (rf 8), .ref (rf 9), .int (iI (hc))])), (rf 0, .inl (g.2 3, 400, .inl (zaI (zSg tf)))), (rf 7, .inl (g.2 8, 12, .inr (.inr (.inr (.inr (zaR mq)))))), (rf 8, .inl (g.2 8, 7, .inr (.inr (.inr (.inr (zaR wq))))))]) A) (zXC g (vOk 4 tf ln at0 = true) "java/lang/UnsupportedOperationException" (fun u => [(qq, .inr (5, [.int (iI (fl)), .ref (rf 0), .int (iI (ln)), .int (iI (at0)), .int (iI (yy)), .int (iI (mm)), .int (iI (dd)), .int (iI (u.1 0)), .ref (rf 1), .ref (rf 2), .ref (rf 3), .ref (rf 4), .ref (rf 5), .ref (rf 6), .int (iI (wa)), .int (iI (on)), .int (iI (tw)), .ref (rf 7), .ref (rf 8), .ref (rf 9), .int (iI (hc))])), (rf 0, .inl (g.2 3, 400, .inl (zaI (zSg tf)))), (rf 7, .inl (g.2 8, 12, .inr (.inr (.inr (.inr (zaR mq)))))), (rf 8, .inl (g.2 8, 7, .inr (.inr (.inr (.inr (zaR wq))))))]) A) [.ref (qq), .int (iI (4))].toArray s mc ms A) (F0 m 39 ls []) := by
      intro n9
      induction n9 with
      | zero =>
        intro k H locs ls h1 hF h2 hP hD hS hl
        exact absurd h2 (by omega)
      | succ n9 ih =>
        intro k H locs ls h1 hF h2 hP hD hS hl
        refine lv_iload_n hx hb zd_Q_value_39 rfl (lv_at hl 0 rfl) ?_
        refine lv_aload_n hx hb zd_Q_value_40 rfl (lv_at hl 1 rfl) ?_
        refine va_alen hx hb hK hP 2 8 rfl rfl (v := iI 12) (iI_nat 12) zd_Q_value_41 ?_
        refine zi_icmp_ge (tgt := 131) hx hb zd_Q_value_42 (by decide) (by omega) (fun c42 => ?_) (fun c42 => ?_)
        · have hnk : ¬ vOk 4 tf ln at0 = true := vOk_let (nmF_out (by omega) hF) c17
          refine lv_aload_n hx hb zd_Q_value_131 rfl (lv_at hl 2 rfl) ?_
          refine lv_aload_n hx hb zd_Q_value_132 rfl (lv_at hl 2 rfl) ?_
          refine va_get (D := g.1) (ci := 5) (v := .int (iI (at0))) (C := zR_Q) (T := zT_Q) (N := 21) hx hb hw zin_Q hown hK hP 0 rfl rfl 7 (by decide) (hw _ zw_3_205) (fun _ h9 => h9) rfl zd_Q_value_133 ?_
          exact zk_X (As := [.int (iI (at0))]) (b := qq) (own := "CronFinderModel") (nL := 6) (rest := []) hx hb hml hown hw (c_Q_bad l g hl0 qq rf (fl) (ln) (pl) (yy) (mm) (dd) (at0) (wa) (on) (tw) (hc) (at0)) zw_4_43 zw_4_45 zw_0_31 zw_1_7 zw_4_46 (np := 1) (by decide +kernel) rfl ⟨rfl, rfl, Nat.le_of_ble_eq_true rfl, Nat.le_of_ble_eq_true rfl⟩ zTh_mv hK (zTh_nar (zTh_now hT.1 hS) (va_free hD hS hA [0] rfl)) hP hD hS hA [0] rfl (by decide) (fun _ => rfl) (va_recv hK hP (ci := 5) (q0 := 0) rfl rfl) hl.1 rfl (Nat.le_of_ble_eq_true rfl) (zHm_1 hmc hnk) zd_Q_value_136 hno hlk hnk (fun u _ h => ⟨(zj [at0], fun _ => fun _ => false), h⟩) (zHm_1 hmc hnk)
        · refine zi_iconst hx hb zd_Q_value_45 ?_
          refine lv_istore (lv' := [(4, .int (iI (1))), (3, .int (iI (((k : Nat) : Int)))), (2, .ref (rf 7)), (0, .ref (qq)), (1, .int (iI (4)))]) hx hb zd_Q_value_46 hl (by decide) rfl (fun ls hl => ?_)
          refine zi_iconst hx hb zd_Q_value_48 ?_
          refine lv_istore (lv' := [(5, .int (iI (0))), (4, .int (iI (1))), (3, .int (iI (((k : Nat) : Int)))), (2, .ref (rf 7)), (0, .ref (qq)), (1, .int (iI (4)))]) hx hb zd_Q_value_49 hl (by decide) rfl (fun ls hl => ?_)
          refine lv_iload hx hb zd_Q_value_51 (lv_at hl 0 rfl) ?_
          refine zi_iconst hx hb zd_Q_value_53 ?_
          refine zi_icmp_ge (tgt := 103) hx hb zd_Q_value_54 (by decide) (by omega) (fun c54 => absurd c54 (by decide)) (fun _ => ?_)
          refine lv_aload_n hx hb zd_Q_value_57 rfl (lv_at hl 4 rfl) ?_
          refine va_get (D := g.1) (ci := 5) (v := .int (iI (at0))) (C := zR_Q) (T := zT_Q) (N := 21) hx hb hw zin_Q hown hK hP 0 rfl rfl 7 (by decide) (hw _ zw_3_205) (fun _ h9 => h9) rfl zd_Q_value_58 ?_
          refine lv_iload hx hb zd_Q_value_61 (lv_at hl 0 rfl) ?_
          refine zi_iadd hx hb zd_Q_value_63 ?_
          refine lv_aload_n hx hb zd_Q_value_64 rfl (lv_at hl 4 rfl) ?_
          refine va_get (D := g.1) (ci := 5) (v := .int (iI (ln))) (C := zR_Q) (T := zT_Q) (N := 21) hx hb hw zin_Q hown hK hP 0 rfl rfl 2 (by decide) (hw _ zw_3_200) (fun _ h9 => h9) rfl zd_Q_value_65 ?_
          refine zi_icmp_ge (tgt := 94) hx hb zd_Q_value_68 (by decide) (by omega) (fun c68 => ?_) (fun c68 => ?_)
          · have mf : ¬ (¬ ln - at0 < 3 ∧ tf at0.toNat = fMon (3 * ((k : Nat) : Int)) ∧ tf (at0 + 1).toNat = fMon (3 * ((k : Nat) : Int) + 1) ∧ tf (at0 + 2).toNat = fMon (3 * ((k : Nat) : Int) + 2)) := by first | exact fun q => absurd q.1 (by omega) | exact fun q => c91 ((zSg_e hcc0 hf0).mpr (by first | exact q.2.2.1 | exact q.2.2.2 | (rw [Int.add_zero, Int.add_zero]; exact q.2.1)))
            refine zi_iconst hx hb zd_Q_value_94 ?_
            refine lv_istore (lv' := [(4, .int (iI (0))), (5, .int (iI (0))), (3, .int (iI (((k : Nat) : Int)))), (2, .ref (rf 7)), (0, .ref (qq)), (1, .int (iI (4)))]) hx hb zd_Q_value_95 hl (by decide) rfl (fun ls hl => ?_)
            refine lv_iinc (v := iI (1)) (lv' := [(5, .int (iI (1))), (4, .int (iI (0))), (3, .int (iI (((k : Nat) : Int)))), (2, .ref (rf 7)), (0, .ref (qq)), (1, .int (iI (4)))]) hx hb zd_Q_value_97 hl (k := 1) rfl (by decide) (by decide) rfl (fun ls hl => ?_)
            refine lv_goto (tgt := 51) hx hb zd_Q_value_100 (by decide) ?_
            refine lv_iload hx hb zd_Q_value_51 (lv_at hl 0 rfl) ?_
            refine zi_iconst hx hb zd_Q_value_53 ?_
            refine zi_icmp_ge (tgt := 103) hx hb zd_Q_value_54 (by decide) (by omega) (fun c54 => absurd c54 (by decide)) (fun _ => ?_)
            refine lv_aload_n hx hb zd_Q_value_57 rfl (lv_at hl 4 rfl) ?_
            refine va_get (D := g.1) (ci := 5) (v := .int (iI (at0))) (C := zR_Q) (T := zT_Q) (N := 21) hx hb hw zin_Q hown hK hP 0 rfl rfl 7 (by decide) (hw _ zw_3_205) (fun _ h9 => h9) rfl zd_Q_value_58 ?_
            refine lv_iload hx hb zd_Q_value_61 (lv_at hl 0 rfl) ?_
            refine zi_iadd hx hb zd_Q_value_63 ?_
            refine lv_aload_n hx hb zd_Q_value_64 rfl (lv_at hl 4 rfl) ?_
            refine va_get (D := g.1) (ci := 5) (v := .int (iI (ln))) (C := zR_Q) (T := zT_Q) (N := 21) hx hb hw zin_Q hown hK hP 0 rfl rfl 2 (by decide) (hw _ zw_3_200) (fun _ h9 => h9) rfl zd_Q_value_65 ?_
            refine zi_icmp_ge (tgt := 94) hx hb zd_Q_value_68 (by decide) (by omega) (fun c68 => ?_) (fun c68 => ?_)
            · have mf : ¬ (¬ ln - at0 < 3 ∧ tf at0.toNat = fMon (3 * ((k : Nat) : Int)) ∧ tf (at0 + 1).toNat = fMon (3 * ((k : Nat) : Int) + 1) ∧ tf (at0 + 2).toNat = fMon (3 * ((k : Nat) : Int) + 2)) := by first | exact fun q => absurd q.1 (by omega) | exact fun q => c91 ((zSg_e hcc1 hf1).mpr (by first | exact q.2.2.1 | exact q.2.2.2 | (rw [Int.add_zero, Int.add_zero]; exact q.2.1)))
              refine zi_iconst hx hb zd_Q_value_94 ?_
              refine lv_istore (lv' := [(4, .int (iI (0))), (5, .int (iI (1))), (3, .int (iI (((k : Nat) : Int)))), (2, .ref (rf 7)), (0, .ref (qq)), (1, .int (iI (4)))]) hx hb zd_Q_value_95 hl (by decide) rfl (fun ls hl => ?_)
              refine lv_iinc (v := iI (2)) (lv' := [(5, .int (iI (2))), (4, .int (iI (0))), (3, .int (iI (((k : Nat) : Int)))), (2, .ref (rf 7)), (0, .ref (qq)), (1, .int (iI (4)))]) hx hb zd_Q_value_97 hl (k := 1) rfl (by decide) (by decide) rfl (fun ls hl => ?_)
              refine lv_goto (tgt := 51) hx hb zd_Q_value_100 (by decide) ?_
              refine lv_iload hx hb zd_Q_value_51 (lv_at hl 0 rfl) ?_
              refine zi_iconst hx hb zd_Q_value_53 ?_
              refine zi_icmp_ge (tgt := 103) hx hb zd_Q_value_54 (by decide) (by omega) (fun c54 => absurd c54 (by decide)) (fun _ => ?_)
              refine lv_aload_n hx hb zd_Q_value_57 rfl (lv_at hl 4 rfl) ?_
              refine va_get (D := g.1) (ci := 5) (v := .int (iI (at0))) (C := zR_Q) (T := zT_Q) (N := 21) hx hb hw zin_Q hown hK hP 0 rfl rfl 7 (by decide) (hw _ zw_3_205) (fun _ h9 => h9) rfl zd_Q_value_58 ?_
              refine lv_iload hx hb zd_Q_value_61 (lv_at hl 0 rfl) ?_
              refine zi_iadd hx hb zd_Q_value_63 ?_
              refine lv_aload_n hx hb zd_Q_value_64 rfl (lv_at hl 4 rfl) ?_
              refine va_get (D := g.1) (ci := 5) (v := .int (iI (ln))) (C := zR_Q) (T := zT_Q) (N := 21) hx hb hw zin_Q hown hK hP 0 rfl rfl 2 (by decide) (hw _ zw_3_200) (fun _ h9 => h9) rfl zd_Q_value_65 ?_
              refine zi_icmp_ge (tgt := 94) hx hb zd_Q_value_68 (by decide) (by omega) (fun c68 => ?_) (fun c68 => ?_)
              · have mf : ¬ (¬ ln - at0 < 3 ∧ tf at0.toNat = fMon (3 * ((k : Nat) : Int)) ∧ tf (at0 + 1).toNat = fMon (3 * ((k : Nat) : Int) + 1) ∧ tf (at0 + 2).toNat = fMon (3 * ((k : Nat) : Int) + 2)) := by first | exact fun q => absurd q.1 (by omega) | exact fun q => c91 ((zSg_e hcc2 hf2).mpr (by first | exact q.2.2.1 | exact q.2.2.2 | (rw [Int.add_zero, Int.add_zero]; exact q.2.1)))
                refine zi_iconst hx hb zd_Q_value_94 ?_
                refine lv_istore (lv' := [(4, .int (iI (0))), (5, .int (iI (2))), (3, .int (iI (((k : Nat) : Int)))), (2, .ref (rf 7)), (0, .ref (qq)), (1, .int (iI (4)))]) hx hb zd_Q_value_95 hl (by decide) rfl (fun ls hl => ?_)
                refine lv_iinc (v := iI (3)) (lv' := [(5, .int (iI (3))), (4, .int (iI (0))), (3, .int (iI (((k : Nat) : Int)))), (2, .ref (rf 7)), (0, .ref (qq)), (1, .int (iI (4)))]) hx hb zd_Q_value_97 hl (k := 1) rfl (by decide) (by decide) rfl (fun ls hl => ?_)
                refine lv_goto (tgt := 51) hx hb zd_Q_value_100 (by decide) ?_
                refine lv_iload hx hb zd_Q_value_51 (lv_at hl 0 rfl) ?_
                refine zi_iconst hx hb zd_Q_value_53 ?_
                refine zi_icmp_ge (tgt := 103) hx hb zd_Q_value_54 (by decide) (by omega) (fun _ => ?_) (fun c54 => absurd c54 (by decide))
                refine lv_iload hx hb zd_Q_value_103 (lv_at hl 1 rfl) ?_
                refine zi_if_ne (tgt := 111) hx hb zd_Q_value_105 (by decide) (by omega) (fun c105 => absurd c105 (by decide)) (fun _ => ?_)
                refine lv_goto (tgt := 125) hx hb zd_Q_value_108 (by decide) ?_
                refine lv_iinc (v := iI (((k : Nat) : Int) + 1)) (lv' := [(3, .int (iI (((k : Nat) : Int) + 1))), (5, .int (iI (3))), (4, .int (iI (0))), (2, .ref (rf 7)), (0, .ref (qq)), (1, .int (iI (4)))]) hx hb zd_Q_value_125 hl (k := 2) rfl (iI_add _ _) (by decide) rfl (fun ls hl => ?_)
                refine lv_goto (tgt := 39) hx hb zd_Q_value_128 (by decide) ?_
                exact ih (k + 1) H locs ls (by omega) (nmF_go (by omega) hF mf) (by omega) hP hD hS (lv_sub hl [0, 3, 4, 5] rfl)
              · refine lv_aload_n hx hb zd_Q_value_71 rfl (lv_at hl 4 rfl) ?_
                refine va_get (D := g.1) (ci := 5) (v := .ref (rf 0)) (C := zR_Q) (T := zT_Q) (N := 21) hx hb hw zin_Q hown hK hP 0 rfl rfl 1 (by decide) (hw _ zw_3_199) (fun _ h9 => h9) rfl zd_Q_value_72 ?_
                refine lv_aload_n hx hb zd_Q_value_75 rfl (lv_at hl 4 rfl) ?_
                refine va_get (D := g.1) (ci := 5) (v := .int (iI (at0))) (C := zR_Q) (T := zT_Q) (N := 21) hx hb hw zin_Q hown hK hP 0 rfl rfl 7 (by decide) (hw _ zw_3_205) (fun _ h9 => h9) rfl zd_Q_value_76 ?_
                refine lv_iload hx hb zd_Q_value_79 (lv_at hl 0 rfl) ?_
                refine zi_iadd hx hb zd_Q_value_81 ?_
                refine zi_bald hx hb hK hP 1 3 rfl rfl (by omega) zd_Q_value_82 ?_
                have hsg2 := zSg_rg (tf := tf) (i := (at0 + 2).toNat) (hch _)
                have hcc2 := hch (at0 + 2).toNat
                refine lv_aload_n hx hb zd_Q_value_83 rfl (lv_at hl 3 rfl) ?_
                refine lv_iload_n hx hb zd_Q_value_84 rfl (lv_at hl 2 rfl) ?_
                refine zi_aaldS (k := k) hx hb hK hP 2 8 rfl rfl (by omega) (Int.toNat_natCast _) zd_Q_value_85 ?_
                refine lv_iload hx hb zd_Q_value_86 (lv_at hl 0 rfl) ?_
                refine zk_V (As := [.int (iI (2))]) (b := mq k) (own := "CronFinderModel") (nL := 6) (rest := [.int (iI (((zSg tf)) (at0 + 2).toNat))]) hx hb hml hown hw (c_S_charAt l g (mq k) (mv k) 3 (fun i => fMon (3 * ((k : Nat) : Int) + i)) (2) (by omega) (fun j hj => fMon_rg _ (by omega))) zw_4_85 zw_2_113 zw_2_114 zw_1_15 zw_2_115 (np := 1) (by decide +kernel) rfl ⟨rfl, rfl, Nat.le_of_ble_eq_true rfl, Nat.le_of_ble_eq_true rfl⟩ (zStr_mv (mq k) (mv k) 3 (fun i => fMon (3 * ((k : Nat) : Int) + i)) _) hK (zStr_nar (B := fun _ => False) (zStr_now (hT.2.2.1 k (by omega)) hS) (fun _ h => h.elim)) (hP.sub (ws' := []) [] rfl) (zStr_recv (zStr_nar (B := fun _ => False) (zStr_now (hT.2.2.1 k (by omega)) hS) (fun _ h => h.elim))) hl.1 rfl (Nat.le_of_ble_eq_true rfl) ⟨Nat.zero_le _, Nat.zero_le _⟩ zd_Q_value_88 ?_
                refine zi_as (fMon (3 * ((k : Nat) : Int) + 2)) rfl ?_
                have hf2 := fMon_rg (3 * ((k : Nat) : Int) + 2) (by omega)
                refine zi_icmp_eq (tgt := 97) hx hb zd_Q_value_91 (by decide) (by omega) (fun c91 => ?_) (fun c91 => ?_)
                · refine lv_iinc (v := iI (3)) (lv' := [(5, .int (iI (3))), (4, .int (iI (0))), (3, .int (iI (((k : Nat) : Int)))), (2, .ref (rf 7)), (0, .ref (qq)), (1, .int (iI (4)))]) hx hb zd_Q_value_97 hl (k := 0) rfl (by decide) (by decide) rfl (fun ls hl => ?_)
                  refine lv_goto (tgt := 51) hx hb zd_Q_value_100 (by decide) ?_
                  refine lv_iload hx hb zd_Q_value_51 (lv_at hl 0 rfl) ?_
                  refine zi_iconst hx hb zd_Q_value_53 ?_
                  refine zi_icmp_ge (tgt := 103) hx hb zd_Q_value_54 (by decide) (by omega) (fun _ => ?_) (fun c54 => absurd c54 (by decide))
                  refine lv_iload hx hb zd_Q_value_103 (lv_at hl 1 rfl) ?_
                  refine zi_if_ne (tgt := 111) hx hb zd_Q_value_105 (by decide) (by omega) (fun c105 => absurd c105 (by decide)) (fun _ => ?_)
                  refine lv_goto (tgt := 125) hx hb zd_Q_value_108 (by decide) ?_
                  refine lv_iinc (v := iI (((k : Nat) : Int) + 1)) (lv' := [(3, .int (iI (((k : Nat) : Int) + 1))), (5, .int (iI (3))), (4, .int (iI (0))), (2, .ref (rf 7)), (0, .ref (qq)), (1, .int (iI (4)))]) hx hb zd_Q_value_125 hl (k := 2) rfl (iI_add _ _) (by decide) rfl (fun ls hl => ?_)
                  refine lv_goto (tgt := 39) hx hb zd_Q_value_128 (by decide) ?_
                  exact ih (k + 1) H locs ls (by omega) (nmF_go (by omega) hF mf) (by omega) hP hD hS (lv_sub hl [0, 3, 4, 5] rfl)
                · have mf : ¬ (¬ ln - at0 < 3 ∧ tf at0.toNat = fMon (3 * ((k : Nat) : Int)) ∧ tf (at0 + 1).toNat = fMon (3 * ((k : Nat) : Int) + 1) ∧ tf (at0 + 2).toNat = fMon (3 * ((k : Nat) : Int) + 2)) := by first | exact fun q => absurd q.1 (by omega) | exact fun q => c91 ((zSg_e hcc2 hf2).mpr (by first | exact q.2.2.1 | exact q.2.2.2 | (rw [Int.add_zero, Int.add_zero]; exact q.2.1)))
                  refine zi_iconst hx hb zd_Q_value_94 ?_
                  refine lv_istore (lv' := [(4, .int (iI (0))), (5, .int (iI (2))), (3, .int (iI (((k : Nat) : Int)))), (2, .ref (rf 7)), (0, .ref (qq)), (1, .int (iI (4)))]) hx hb zd_Q_value_95 hl (by decide) rfl (fun ls hl => ?_)
                  refine lv_iinc (v := iI (3)) (lv' := [(5, .int (iI (3))), (4, .int (iI (0))), (3, .int (iI (((k : Nat) : Int)))), (2, .ref (rf 7)), (0, .ref (qq)), (1, .int (iI (4)))]) hx hb zd_Q_value_97 hl (k := 1) rfl (by decide) (by decide) rfl (fun ls hl => ?_)
                  refine lv_goto (tgt := 51) hx hb zd_Q_value_100 (by decide) ?_
                  refine lv_iload hx hb zd_Q_value_51 (lv_at hl 0 rfl) ?_
                  refine zi_iconst hx hb zd_Q_value_53 ?_
                  refine zi_icmp_ge (tgt := 103) hx hb zd_Q_value_54 (by decide) (by omega) (fun _ => ?_) (fun c54 => absurd c54 (by decide))
                  refine lv_iload hx hb zd_Q_value_103 (lv_at hl 1 rfl) ?_
                  refine zi_if_ne (tgt := 111) hx hb zd_Q_value_105 (by decide) (by omega) (fun c105 => absurd c105 (by decide)) (fun _ => ?_)
                  refine lv_goto (tgt := 125) hx hb zd_Q_value_108 (by decide) ?_
                  refine lv_iinc (v := iI (((k : Nat) : Int) + 1)) (lv' := [(3, .int (iI (((k : Nat) : Int) + 1))), (5, .int (iI (3))), (4, .int (iI (0))), (2, .ref (rf 7)), (0, .ref (qq)), (1, .int (iI (4)))]) hx hb zd_Q_value_125 hl (k := 2) rfl (iI_add _ _) (by decide) rfl (fun ls hl => ?_)
                  refine lv_goto (tgt := 39) hx hb zd_Q_value_128 (by decide) ?_
                  exact ih (k + 1) H locs ls (by omega) (nmF_go (by omega) hF mf) (by omega) hP hD hS (lv_sub hl [0, 3, 4, 5] rfl)
            · refine lv_aload_n hx hb zd_Q_value_71 rfl (lv_at hl 4 rfl) ?_
              refine va_get (D := g.1) (ci := 5) (v := .ref (rf 0)) (C := zR_Q) (T := zT_Q) (N := 21) hx hb hw zin_Q hown hK hP 0 rfl rfl 1 (by decide) (hw _ zw_3_199) (fun _ h9 => h9) rfl zd_Q_value_72 ?_
              refine lv_aload_n hx hb zd_Q_value_75 rfl (lv_at hl 4 rfl) ?_
              refine va_get (D := g.1) (ci := 5) (v := .int (iI (at0))) (C := zR_Q) (T := zT_Q) (N := 21) hx hb hw zin_Q hown hK hP 0 rfl rfl 7 (by decide) (hw _ zw_3_205) (fun _ h9 => h9) rfl zd_Q_value_76 ?_
              refine lv_iload hx hb zd_Q_value_79 (lv_at hl 0 rfl) ?_
              refine zi_iadd hx hb zd_Q_value_81 ?_
              refine zi_bald hx hb hK hP 1 3 rfl rfl (by omega) zd_Q_value_82 ?_
              have hsg1 := zSg_rg (tf := tf) (i := (at0 + 1).toNat) (hch _)
              have hcc1 := hch (at0 + 1).toNat
              refine lv_aload_n hx hb zd_Q_value_83 rfl (lv_at hl 3 rfl) ?_
              refine lv_iload_n hx hb zd_Q_value_84 rfl (lv_at hl 2 rfl) ?_
              refine zi_aaldS (k := k) hx hb hK hP 2 8 rfl rfl (by omega) (Int.toNat_natCast _) zd_Q_value_85 ?_
              refine lv_iload hx hb zd_Q_value_86 (lv_at hl 0 rfl) ?_
              refine zk_V (As := [.int (iI (1))]) (b := mq k) (own := "CronFinderModel") (nL := 6) (rest := [.int (iI (((zSg tf)) (at0 + 1).toNat))]) hx hb hml hown hw (c_S_charAt l g (mq k) (mv k) 3 (fun i => fMon (3 * ((k : Nat) : Int) + i)) (1) (by omega) (fun j hj => fMon_rg _ (by omega))) zw_4_85 zw_2_113 zw_2_114 zw_1_15 zw_2_115 (np := 1) (by decide +kernel) rfl ⟨rfl, rfl, Nat.le_of_ble_eq_true rfl, Nat.le_of_ble_eq_true rfl⟩ (zStr_mv (mq k) (mv k) 3 (fun i => fMon (3 * ((k : Nat) : Int) + i)) _) hK (zStr_nar (B := fun _ => False) (zStr_now (hT.2.2.1 k (by omega)) hS) (fun _ h => h.elim)) (hP.sub (ws' := []) [] rfl) (zStr_recv (zStr_nar (B := fun _ => False) (zStr_now (hT.2.2.1 k (by omega)) hS) (fun _ h => h.elim))) hl.1 rfl (Nat.le_of_ble_eq_true rfl) ⟨Nat.zero_le _, Nat.zero_le _⟩ zd_Q_value_88 ?_
              refine zi_as (fMon (3 * ((k : Nat) : Int) + 1)) rfl ?_
              have hf1 := fMon_rg (3 * ((k : Nat) : Int) + 1) (by omega)
              refine zi_icmp_eq (tgt := 97) hx hb zd_Q_value_91 (by decide) (by omega) (fun c91 => ?_) (fun c91 => ?_)
              · refine lv_iinc (v := iI (2)) (lv' := [(5, .int (iI (2))), (4, .int (iI (0))), (3, .int (iI (((k : Nat) : Int)))), (2, .ref (rf 7)), (0, .ref (qq)), (1, .int (iI (4)))]) hx hb zd_Q_value_97 hl (k := 0) rfl (by decide) (by decide) rfl (fun ls hl => ?_)
                refine lv_goto (tgt := 51) hx hb zd_Q_value_100 (by decide) ?_
                refine lv_iload hx hb zd_Q_value_51 (lv_at hl 0 rfl) ?_
                refine zi_iconst hx hb zd_Q_value_53 ?_
                refine zi_icmp_ge (tgt := 103) hx hb zd_Q_value_54 (by decide) (by omega) (fun c54 => absurd c54 (by decide)) (fun _ => ?_)
                refine lv_aload_n hx hb zd_Q_value_57 rfl (lv_at hl 4 rfl) ?_
                refine va_get (D := g.1) (ci := 5) (v := .int (iI (at0))) (C := zR_Q) (T := zT_Q) (N := 21) hx hb hw zin_Q hown hK hP 0 rfl rfl 7 (by decide) (hw _ zw_3_205) (fun _ h9 => h9) rfl zd_Q_value_58 ?_
                refine lv_iload hx hb zd_Q_value_61 (lv_at hl 0 rfl) ?_
                refine zi_iadd hx hb zd_Q_value_63 ?_
                refine lv_aload_n hx hb zd_Q_value_64 rfl (lv_at hl 4 rfl) ?_
                refine va_get (D := g.1) (ci := 5) (v := .int (iI (ln))) (C := zR_Q) (T := zT_Q) (N := 21) hx hb hw zin_Q hown hK hP 0 rfl rfl 2 (by decide) (hw _ zw_3_200) (fun _ h9 => h9) rfl zd_Q_value_65 ?_
                refine zi_icmp_ge (tgt := 94) hx hb zd_Q_value_68 (by decide) (by omega) (fun c68 => ?_) (fun c68 => ?_)
                · have mf : ¬ (¬ ln - at0 < 3 ∧ tf at0.toNat = fMon (3 * ((k : Nat) : Int)) ∧ tf (at0 + 1).toNat = fMon (3 * ((k : Nat) : Int) + 1) ∧ tf (at0 + 2).toNat = fMon (3 * ((k : Nat) : Int) + 2)) := by first | exact fun q => absurd q.1 (by omega) | exact fun q => c91 ((zSg_e hcc2 hf2).mpr (by first | exact q.2.2.1 | exact q.2.2.2 | (rw [Int.add_zero, Int.add_zero]; exact q.2.1)))
                  refine zi_iconst hx hb zd_Q_value_94 ?_
                  refine lv_istore (lv' := [(4, .int (iI (0))), (5, .int (iI (2))), (3, .int (iI (((k : Nat) : Int)))), (2, .ref (rf 7)), (0, .ref (qq)), (1, .int (iI (4)))]) hx hb zd_Q_value_95 hl (by decide) rfl (fun ls hl => ?_)
                  refine lv_iinc (v := iI (3)) (lv' := [(5, .int (iI (3))), (4, .int (iI (0))), (3, .int (iI (((k : Nat) : Int)))), (2, .ref (rf 7)), (0, .ref (qq)), (1, .int (iI (4)))]) hx hb zd_Q_value_97 hl (k := 1) rfl (by decide) (by decide) rfl (fun ls hl => ?_)
                  refine lv_goto (tgt := 51) hx hb zd_Q_value_100 (by decide) ?_
                  refine lv_iload hx hb zd_Q_value_51 (lv_at hl 0 rfl) ?_
                  refine zi_iconst hx hb zd_Q_value_53 ?_
                  refine zi_icmp_ge (tgt := 103) hx hb zd_Q_value_54 (by decide) (by omega) (fun _ => ?_) (fun c54 => absurd c54 (by decide))
                  refine lv_iload hx hb zd_Q_value_103 (lv_at hl 1 rfl) ?_
                  refine zi_if_ne (tgt := 111) hx hb zd_Q_value_105 (by decide) (by omega) (fun c105 => absurd c105 (by decide)) (fun _ => ?_)
                  refine lv_goto (tgt := 125) hx hb zd_Q_value_108 (by decide) ?_
                  refine lv_iinc (v := iI (((k : Nat) : Int) + 1)) (lv' := [(3, .int (iI (((k : Nat) : Int) + 1))), (5, .int (iI (3))), (4, .int (iI (0))), (2, .ref (rf 7)), (0, .ref (qq)), (1, .int (iI (4)))]) hx hb zd_Q_value_125 hl (k := 2) rfl (iI_add _ _) (by decide) rfl (fun ls hl => ?_)
                  refine lv_goto (tgt := 39) hx hb zd_Q_value_128 (by decide) ?_
                  exact ih (k + 1) H locs ls (by omega) (nmF_go (by omega) hF mf) (by omega) hP hD hS (lv_sub hl [0, 3, 4, 5] rfl)
                · refine lv_aload_n hx hb zd_Q_value_71 rfl (lv_at hl 4 rfl) ?_
                  refine va_get (D := g.1) (ci := 5) (v := .ref (rf 0)) (C := zR_Q) (T := zT_Q) (N := 21) hx hb hw zin_Q hown hK hP 0 rfl rfl 1 (by decide) (hw _ zw_3_199) (fun _ h9 => h9) rfl zd_Q_value_72 ?_
                  refine lv_aload_n hx hb zd_Q_value_75 rfl (lv_at hl 4 rfl) ?_
                  refine va_get (D := g.1) (ci := 5) (v := .int (iI (at0))) (C := zR_Q) (T := zT_Q) (N := 21) hx hb hw zin_Q hown hK hP 0 rfl rfl 7 (by decide) (hw _ zw_3_205) (fun _ h9 => h9) rfl zd_Q_value_76 ?_
                  refine lv_iload hx hb zd_Q_value_79 (lv_at hl 0 rfl) ?_
                  refine zi_iadd hx hb zd_Q_value_81 ?_
                  refine zi_bald hx hb hK hP 1 3 rfl rfl (by omega) zd_Q_value_82 ?_
                  have hsg2 := zSg_rg (tf := tf) (i := (at0 + 2).toNat) (hch _)
                  have hcc2 := hch (at0 + 2).toNat
                  refine lv_aload_n hx hb zd_Q_value_83 rfl (lv_at hl 3 rfl) ?_
                  refine lv_iload_n hx hb zd_Q_value_84 rfl (lv_at hl 2 rfl) ?_
                  refine zi_aaldS (k := k) hx hb hK hP 2 8 rfl rfl (by omega) (Int.toNat_natCast _) zd_Q_value_85 ?_
                  refine lv_iload hx hb zd_Q_value_86 (lv_at hl 0 rfl) ?_
                  refine zk_V (As := [.int (iI (2))]) (b := mq k) (own := "CronFinderModel") (nL := 6) (rest := [.int (iI (((zSg tf)) (at0 + 2).toNat))]) hx hb hml hown hw (c_S_charAt l g (mq k) (mv k) 3 (fun i => fMon (3 * ((k : Nat) : Int) + i)) (2) (by omega) (fun j hj => fMon_rg _ (by omega))) zw_4_85 zw_2_113 zw_2_114 zw_1_15 zw_2_115 (np := 1) (by decide +kernel) rfl ⟨rfl, rfl, Nat.le_of_ble_eq_true rfl, Nat.le_of_ble_eq_true rfl⟩ (zStr_mv (mq k) (mv k) 3 (fun i => fMon (3 * ((k : Nat) : Int) + i)) _) hK (zStr_nar (B := fun _ => False) (zStr_now (hT.2.2.1 k (by omega)) hS) (fun _ h => h.elim)) (hP.sub (ws' := []) [] rfl) (zStr_recv (zStr_nar (B := fun _ => False) (zStr_now (hT.2.2.1 k (by omega)) hS) (fun _ h => h.elim))) hl.1 rfl (Nat.le_of_ble_eq_true rfl) ⟨Nat.zero_le _, Nat.zero_le _⟩ zd_Q_value_88 ?_
                  refine zi_as (fMon (3 * ((k : Nat) : Int) + 2)) rfl ?_
                  have hf2 := fMon_rg (3 * ((k : Nat) : Int) + 2) (by omega)
                  refine zi_icmp_eq (tgt := 97) hx hb zd_Q_value_91 (by decide) (by omega) (fun c91 => ?_) (fun c91 => ?_)
                  · refine lv_iinc (v := iI (3)) (lv' := [(5, .int (iI (3))), (4, .int (iI (0))), (3, .int (iI (((k : Nat) : Int)))), (2, .ref (rf 7)), (0, .ref (qq)), (1, .int (iI (4)))]) hx hb zd_Q_value_97 hl (k := 0) rfl (by decide) (by decide) rfl (fun ls hl => ?_)
                    refine lv_goto (tgt := 51) hx hb zd_Q_value_100 (by decide) ?_
                    refine lv_iload hx hb zd_Q_value_51 (lv_at hl 0 rfl) ?_
                    refine zi_iconst hx hb zd_Q_value_53 ?_
                    refine zi_icmp_ge (tgt := 103) hx hb zd_Q_value_54 (by decide) (by omega) (fun _ => ?_) (fun c54 => absurd c54 (by decide))
                    refine lv_iload hx hb zd_Q_value_103 (lv_at hl 1 rfl) ?_
                    refine zi_if_ne (tgt := 111) hx hb zd_Q_value_105 (by decide) (by omega) (fun c105 => absurd c105 (by decide)) (fun _ => ?_)
                    refine lv_goto (tgt := 125) hx hb zd_Q_value_108 (by decide) ?_
                    refine lv_iinc (v := iI (((k : Nat) : Int) + 1)) (lv' := [(3, .int (iI (((k : Nat) : Int) + 1))), (5, .int (iI (3))), (4, .int (iI (0))), (2, .ref (rf 7)), (0, .ref (qq)), (1, .int (iI (4)))]) hx hb zd_Q_value_125 hl (k := 2) rfl (iI_add _ _) (by decide) rfl (fun ls hl => ?_)
                    refine lv_goto (tgt := 39) hx hb zd_Q_value_128 (by decide) ?_
                    exact ih (k + 1) H locs ls (by omega) (nmF_go (by omega) hF mf) (by omega) hP hD hS (lv_sub hl [0, 3, 4, 5] rfl)
                  · have mf : ¬ (¬ ln - at0 < 3 ∧ tf at0.toNat = fMon (3 * ((k : Nat) : Int)) ∧ tf (at0 + 1).toNat = fMon (3 * ((k : Nat) : Int) + 1) ∧ tf (at0 + 2).toNat = fMon (3 * ((k : Nat) : Int) + 2)) := by first | exact fun q => absurd q.1 (by omega) | exact fun q => c91 ((zSg_e hcc2 hf2).mpr (by first | exact q.2.2.1 | exact q.2.2.2 | (rw [Int.add_zero, Int.add_zero]; exact q.2.1)))
                    refine zi_iconst hx hb zd_Q_value_94 ?_
                    refine lv_istore (lv' := [(4, .int (iI (0))), (5, .int (iI (2))), (3, .int (iI (((k : Nat) : Int)))), (2, .ref (rf 7)), (0, .ref (qq)), (1, .int (iI (4)))]) hx hb zd_Q_value_95 hl (by decide) rfl (fun ls hl => ?_)
                    refine lv_iinc (v := iI (3)) (lv' := [(5, .int (iI (3))), (4, .int (iI (0))), (3, .int (iI (((k : Nat) : Int)))), (2, .ref (rf 7)), (0, .ref (qq)), (1, .int (iI (4)))]) hx hb zd_Q_value_97 hl (k := 1) rfl (by decide) (by decide) rfl (fun ls hl => ?_)
                    refine lv_goto (tgt := 51) hx hb zd_Q_value_100 (by decide) ?_
                    refine lv_iload hx hb zd_Q_value_51 (lv_at hl 0 rfl) ?_
                    refine zi_iconst hx hb zd_Q_value_53 ?_
                    refine zi_icmp_ge (tgt := 103) hx hb zd_Q_value_54 (by decide) (by omega) (fun _ => ?_) (fun c54 => absurd c54 (by decide))
                    refine lv_iload hx hb zd_Q_value_103 (lv_at hl 1 rfl) ?_
                    refine zi_if_ne (tgt := 111) hx hb zd_Q_value_105 (by decide) (by omega) (fun c105 => absurd c105 (by decide)) (fun _ => ?_)
                    refine lv_goto (tgt := 125) hx hb zd_Q_value_108 (by decide) ?_
                    refine lv_iinc (v := iI (((k : Nat) : Int) + 1)) (lv' := [(3, .int (iI (((k : Nat) : Int) + 1))), (5, .int (iI (3))), (4, .int (iI (0))), (2, .ref (rf 7)), (0, .ref (qq)), (1, .int (iI (4)))]) hx hb zd_Q_value_125 hl (k := 2) rfl (iI_add _ _) (by decide) rfl (fun ls hl => ?_)
                    refine lv_goto (tgt := 39) hx hb zd_Q_value_128 (by decide) ?_
                    exact ih (k + 1) H locs ls (by omega) (nmF_go (by omega) hF mf) (by omega) hP hD hS (lv_sub hl [0, 3, 4, 5] rfl)
              · have mf : ¬ (¬ ln - at0 < 3 ∧ tf at0.toNat = fMon (3 * ((k : Nat) : Int)) ∧ tf (at0 + 1).toNat = fMon (3 * ((k : Nat) : Int) + 1) ∧ tf (at0 + 2).toNat = fMon (3 * ((k : Nat) : Int) + 2)) := by first | exact fun q => absurd q.1 (by omega) | exact fun q => c91 ((zSg_e hcc1 hf1).mpr (by first | exact q.2.2.1 | exact q.2.2.2 | (rw [Int.add_zero, Int.add_zero]; exact q.2.1)))
                refine zi_iconst hx hb zd_Q_value_94 ?_
                refine lv_istore (lv' := [(4, .int (iI (0))), (5, .int (iI (1))), (3, .int (iI (((k : Nat) : Int)))), (2, .ref (rf 7)), (0, .ref (qq)), (1, .int (iI (4)))]) hx hb zd_Q_value_95 hl (by decide) rfl (fun ls hl => ?_)
                refine lv_iinc (v := iI (2)) (lv' := [(5, .int (iI (2))), (4, .int (iI (0))), (3, .int (iI (((k : Nat) : Int)))), (2, .ref (rf 7)), (0, .ref (qq)), (1, .int (iI (4)))]) hx hb zd_Q_value_97 hl (k := 1) rfl (by decide) (by decide) rfl (fun ls hl => ?_)
                refine lv_goto (tgt := 51) hx hb zd_Q_value_100 (by decide) ?_
                refine lv_iload hx hb zd_Q_value_51 (lv_at hl 0 rfl) ?_
                refine zi_iconst hx hb zd_Q_value_53 ?_
                refine zi_icmp_ge (tgt := 103) hx hb zd_Q_value_54 (by decide) (by omega) (fun c54 => absurd c54 (by decide)) (fun _ => ?_)
                refine lv_aload_n hx hb zd_Q_value_57 rfl (lv_at hl 4 rfl) ?_
                refine va_get (D := g.1) (ci := 5) (v := .int (iI (at0))) (C := zR_Q) (T := zT_Q) (N := 21) hx hb hw zin_Q hown hK hP 0 rfl rfl 7 (by decide) (hw _ zw_3_205) (fun _ h9 => h9) rfl zd_Q_value_58 ?_
                refine lv_iload hx hb zd_Q_value_61 (lv_at hl 0 rfl) ?_
                refine zi_iadd hx hb zd_Q_value_63 ?_
                refine lv_aload_n hx hb zd_Q_value_64 rfl (lv_at hl 4 rfl) ?_
                refine va_get (D := g.1) (ci := 5) (v := .int (iI (ln))) (C := zR_Q) (T := zT_Q) (N := 21) hx hb hw zin_Q hown hK hP 0 rfl rfl 2 (by decide) (hw _ zw_3_200) (fun _ h9 => h9) rfl zd_Q_value_65 ?_
                refine zi_icmp_ge (tgt := 94) hx hb zd_Q_value_68 (by decide) (by omega) (fun c68 => ?_) (fun c68 => ?_)
                · have mf : ¬ (¬ ln - at0 < 3 ∧ tf at0.toNat = fMon (3 * ((k : Nat) : Int)) ∧ tf (at0 + 1).toNat = fMon (3 * ((k : Nat) : Int) + 1) ∧ tf (at0 + 2).toNat = fMon (3 * ((k : Nat) : Int) + 2)) := by first | exact fun q => absurd q.1 (by omega) | exact fun q => c91 ((zSg_e hcc2 hf2).mpr (by first | exact q.2.2.1 | exact q.2.2.2 | (rw [Int.add_zero, Int.add_zero]; exact q.2.1)))
                  refine zi_iconst hx hb zd_Q_value_94 ?_
                  refine lv_istore (lv' := [(4, .int (iI (0))), (5, .int (iI (2))), (3, .int (iI (((k : Nat) : Int)))), (2, .ref (rf 7)), (0, .ref (qq)), (1, .int (iI (4)))]) hx hb zd_Q_value_95 hl (by decide) rfl (fun ls hl => ?_)
                  refine lv_iinc (v := iI (3)) (lv' := [(5, .int (iI (3))), (4, .int (iI (0))), (3, .int (iI (((k : Nat) : Int)))), (2, .ref (rf 7)), (0, .ref (qq)), (1, .int (iI (4)))]) hx hb zd_Q_value_97 hl (k := 1) rfl (by decide) (by decide) rfl (fun ls hl => ?_)
                  refine lv_goto (tgt := 51) hx hb zd_Q_value_100 (by decide) ?_
                  refine lv_iload hx hb zd_Q_value_51 (lv_at hl 0 rfl) ?_
                  refine zi_iconst hx hb zd_Q_value_53 ?_
                  refine zi_icmp_ge (tgt := 103) hx hb zd_Q_value_54 (by decide) (by omega) (fun _ => ?_) (fun c54 => absurd c54 (by decide))
                  refine lv_iload hx hb zd_Q_value_103 (lv_at hl 1 rfl) ?_
                  refine zi_if_ne (tgt := 111) hx hb zd_Q_value_105 (by decide) (by omega) (fun c105 => absurd c105 (by decide)) (fun _ => ?_)
                  refine lv_goto (tgt := 125) hx hb zd_Q_value_108 (by decide) ?_
                  refine lv_iinc (v := iI (((k : Nat) : Int) + 1)) (lv' := [(3, .int (iI (((k : Nat) : Int) + 1))), (5, .int (iI (3))), (4, .int (iI (0))), (2, .ref (rf 7)), (0, .ref (qq)), (1, .int (iI (4)))]) hx hb zd_Q_value_125 hl (k := 2) rfl (iI_add _ _) (by decide) rfl (fun ls hl => ?_)
                  refine lv_goto (tgt := 39) hx hb zd_Q_value_128 (by decide) ?_
                  exact ih (k + 1) H locs ls (by omega) (nmF_go (by omega) hF mf) (by omega) hP hD hS (lv_sub hl [0, 3, 4, 5] rfl)
                · refine lv_aload_n hx hb zd_Q_value_71 rfl (lv_at hl 4 rfl) ?_
                  refine va_get (D := g.1) (ci := 5) (v := .ref (rf 0)) (C := zR_Q) (T := zT_Q) (N := 21) hx hb hw zin_Q hown hK hP 0 rfl rfl 1 (by decide) (hw _ zw_3_199) (fun _ h9 => h9) rfl zd_Q_value_72 ?_
                  refine lv_aload_n hx hb zd_Q_value_75 rfl (lv_at hl 4 rfl) ?_
                  refine va_get (D := g.1) (ci := 5) (v := .int (iI (at0))) (C := zR_Q) (T := zT_Q) (N := 21) hx hb hw zin_Q hown hK hP 0 rfl rfl 7 (by decide) (hw _ zw_3_205) (fun _ h9 => h9) rfl zd_Q_value_76 ?_
                  refine lv_iload hx hb zd_Q_value_79 (lv_at hl 0 rfl) ?_
                  refine zi_iadd hx hb zd_Q_value_81 ?_
                  refine zi_bald hx hb hK hP 1 3 rfl rfl (by omega) zd_Q_value_82 ?_
                  have hsg2 := zSg_rg (tf := tf) (i := (at0 + 2).toNat) (hch _)
                  have hcc2 := hch (at0 + 2).toNat
                  refine lv_aload_n hx hb zd_Q_value_83 rfl (lv_at hl 3 rfl) ?_
                  refine lv_iload_n hx hb zd_Q_value_84 rfl (lv_at hl 2 rfl) ?_
                  refine zi_aaldS (k := k) hx hb hK hP 2 8 rfl rfl (by omega) (Int.toNat_natCast _) zd_Q_value_85 ?_
                  refine lv_iload hx hb zd_Q_value_86 (lv_at hl 0 rfl) ?_
                  refine zk_V (As := [.int (iI (2))]) (b := mq k) (own := "CronFinderModel") (nL := 6) (rest := [.int (iI (((zSg tf)) (at0 + 2).toNat))]) hx hb hml hown hw (c_S_charAt l g (mq k) (mv k) 3 (fun i => fMon (3 * ((k : Nat) : Int) + i)) (2) (by omega) (fun j hj => fMon_rg _ (by omega))) zw_4_85 zw_2_113 zw_2_114 zw_1_15 zw_2_115 (np := 1) (by decide +kernel) rfl ⟨rfl, rfl, Nat.le_of_ble_eq_true rfl, Nat.le_of_ble_eq_true rfl⟩ (zStr_mv (mq k) (mv k) 3 (fun i => fMon (3 * ((k : Nat) : Int) + i)) _) hK (zStr_nar (B := fun _ => False) (zStr_now (hT.2.2.1 k (by omega)) hS) (fun _ h => h.elim)) (hP.sub (ws' := []) [] rfl) (zStr_recv (zStr_nar (B := fun _ => False) (zStr_now (hT.2.2.1 k (by omega)) hS) (fun _ h => h.elim))) hl.1 rfl (Nat.le_of_ble_eq_true rfl) ⟨Nat.zero_le _, Nat.zero_le _⟩ zd_Q_value_88 ?_
                  refine zi_as (fMon (3 * ((k : Nat) : Int) + 2)) rfl ?_
                  have hf2 := fMon_rg (3 * ((k : Nat) : Int) + 2) (by omega)
                  refine zi_icmp_eq (tgt := 97) hx hb zd_Q_value_91 (by decide) (by omega) (fun c91 => ?_) (fun c91 => ?_)
                  · refine lv_iinc (v := iI (3)) (lv' := [(5, .int (iI (3))), (4, .int (iI (0))), (3, .int (iI (((k : Nat) : Int)))), (2, .ref (rf 7)), (0, .ref (qq)), (1, .int (iI (4)))]) hx hb zd_Q_value_97 hl (k := 0) rfl (by decide) (by decide) rfl (fun ls hl => ?_)
                    refine lv_goto (tgt := 51) hx hb zd_Q_value_100 (by decide) ?_
                    refine lv_iload hx hb zd_Q_value_51 (lv_at hl 0 rfl) ?_
                    refine zi_iconst hx hb zd_Q_value_53 ?_
                    refine zi_icmp_ge (tgt := 103) hx hb zd_Q_value_54 (by decide) (by omega) (fun _ => ?_) (fun c54 => absurd c54 (by decide))
                    refine lv_iload hx hb zd_Q_value_103 (lv_at hl 1 rfl) ?_
                    refine zi_if_ne (tgt := 111) hx hb zd_Q_value_105 (by decide) (by omega) (fun c105 => absurd c105 (by decide)) (fun _ => ?_)
                    refine lv_goto (tgt := 125) hx hb zd_Q_value_108 (by decide) ?_
                    refine lv_iinc (v := iI (((k : Nat) : Int) + 1)) (lv' := [(3, .int (iI (((k : Nat) : Int) + 1))), (5, .int (iI (3))), (4, .int (iI (0))), (2, .ref (rf 7)), (0, .ref (qq)), (1, .int (iI (4)))]) hx hb zd_Q_value_125 hl (k := 2) rfl (iI_add _ _) (by decide) rfl (fun ls hl => ?_)
                    refine lv_goto (tgt := 39) hx hb zd_Q_value_128 (by decide) ?_
                    exact ih (k + 1) H locs ls (by omega) (nmF_go (by omega) hF mf) (by omega) hP hD hS (lv_sub hl [0, 3, 4, 5] rfl)
                  · have mf : ¬ (¬ ln - at0 < 3 ∧ tf at0.toNat = fMon (3 * ((k : Nat) : Int)) ∧ tf (at0 + 1).toNat = fMon (3 * ((k : Nat) : Int) + 1) ∧ tf (at0 + 2).toNat = fMon (3 * ((k : Nat) : Int) + 2)) := by first | exact fun q => absurd q.1 (by omega) | exact fun q => c91 ((zSg_e hcc2 hf2).mpr (by first | exact q.2.2.1 | exact q.2.2.2 | (rw [Int.add_zero, Int.add_zero]; exact q.2.1)))
                    refine zi_iconst hx hb zd_Q_value_94 ?_
                    refine lv_istore (lv' := [(4, .int (iI (0))), (5, .int (iI (2))), (3, .int (iI (((k : Nat) : Int)))), (2, .ref (rf 7)), (0, .ref (qq)), (1, .int (iI (4)))]) hx hb zd_Q_value_95 hl (by decide) rfl (fun ls hl => ?_)
                    refine lv_iinc (v := iI (3)) (lv' := [(5, .int (iI (3))), (4, .int (iI (0))), (3, .int (iI (((k : Nat) : Int)))), (2, .ref (rf 7)), (0, .ref (qq)), (1, .int (iI (4)))]) hx hb zd_Q_value_97 hl (k := 1) rfl (by decide) (by decide) rfl (fun ls hl => ?_)
                    refine lv_goto (tgt := 51) hx hb zd_Q_value_100 (by decide) ?_
                    refine lv_iload hx hb zd_Q_value_51 (lv_at hl 0 rfl) ?_
                    refine zi_iconst hx hb zd_Q_value_53 ?_
                    refine zi_icmp_ge (tgt := 103) hx hb zd_Q_value_54 (by decide) (by omega) (fun _ => ?_) (fun c54 => absurd c54 (by decide))
                    refine lv_iload hx hb zd_Q_value_103 (lv_at hl 1 rfl) ?_
                    refine zi_if_ne (tgt := 111) hx hb zd_Q_value_105 (by decide) (by omega) (fun c105 => absurd c105 (by decide)) (fun _ => ?_)
                    refine lv_goto (tgt := 125) hx hb zd_Q_value_108 (by decide) ?_
                    refine lv_iinc (v := iI (((k : Nat) : Int) + 1)) (lv' := [(3, .int (iI (((k : Nat) : Int) + 1))), (5, .int (iI (3))), (4, .int (iI (0))), (2, .ref (rf 7)), (0, .ref (qq)), (1, .int (iI (4)))]) hx hb zd_Q_value_125 hl (k := 2) rfl (iI_add _ _) (by decide) rfl (fun ls hl => ?_)
                    refine lv_goto (tgt := 39) hx hb zd_Q_value_128 (by decide) ?_
                    exact ih (k + 1) H locs ls (by omega) (nmF_go (by omega) hF mf) (by omega) hP hD hS (lv_sub hl [0, 3, 4, 5] rfl)
          · refine lv_aload_n hx hb zd_Q_value_71 rfl (lv_at hl 4 rfl) ?_
            refine va_get (D := g.1) (ci := 5) (v := .ref (rf 0)) (C := zR_Q) (T := zT_Q) (N := 21) hx hb hw zin_Q hown hK hP 0 rfl rfl 1 (by decide) (hw _ zw_3_199) (fun _ h9 => h9) rfl zd_Q_value_72 ?_
            refine lv_aload_n hx hb zd_Q_value_75 rfl (lv_at hl 4 rfl) ?_
            refine va_get (D := g.1) (ci := 5) (v := .int (iI (at0))) (C := zR_Q) (T := zT_Q) (N := 21) hx hb hw zin_Q hown hK hP 0 rfl rfl 7 (by decide) (hw _ zw_3_205) (fun _ h9 => h9) rfl zd_Q_value_76 ?_
            refine lv_iload hx hb zd_Q_value_79 (lv_at hl 0 rfl) ?_
            refine zi_iadd hx hb zd_Q_value_81 ?_
            refine zi_bald hx hb hK hP 1 3 rfl rfl (by omega) zd_Q_value_82 ?_
            have hsg0 := zSg_rg (tf := tf) (i := (at0 + 0).toNat) (hch _)
            have hcc0 := hch (at0 + 0).toNat
            refine lv_aload_n hx hb zd_Q_value_83 rfl (lv_at hl 3 rfl) ?_
            refine lv_iload_n hx hb zd_Q_value_84 rfl (lv_at hl 2 rfl) ?_
            refine zi_aaldS (k := k) hx hb hK hP 2 8 rfl rfl (by omega) (Int.toNat_natCast _) zd_Q_value_85 ?_
            refine lv_iload hx hb zd_Q_value_86 (lv_at hl 0 rfl) ?_
            refine zk_V (As := [.int (iI (0))]) (b := mq k) (own := "CronFinderModel") (nL := 6) (rest := [.int (iI (((zSg tf)) (at0 + 0).toNat))]) hx hb hml hown hw (c_S_charAt l g (mq k) (mv k) 3 (fun i => fMon (3 * ((k : Nat) : Int) + i)) (0) (by omega) (fun j hj => fMon_rg _ (by omega))) zw_4_85 zw_2_113 zw_2_114 zw_1_15 zw_2_115 (np := 1) (by decide +kernel) rfl ⟨rfl, rfl, Nat.le_of_ble_eq_true rfl, Nat.le_of_ble_eq_true rfl⟩ (zStr_mv (mq k) (mv k) 3 (fun i => fMon (3 * ((k : Nat) : Int) + i)) _) hK (zStr_nar (B := fun _ => False) (zStr_now (hT.2.2.1 k (by omega)) hS) (fun _ h => h.elim)) (hP.sub (ws' := []) [] rfl) (zStr_recv (zStr_nar (B := fun _ => False) (zStr_now (hT.2.2.1 k (by omega)) hS) (fun _ h => h.elim))) hl.1 rfl (Nat.le_of_ble_eq_true rfl) ⟨Nat.zero_le _, Nat.zero_le _⟩ zd_Q_value_88 ?_
            refine zi_as (fMon (3 * ((k : Nat) : Int) + 0)) rfl ?_
            have hf0 := fMon_rg (3 * ((k : Nat) : Int) + 0) (by omega)
            refine zi_icmp_eq (tgt := 97) hx hb zd_Q_value_91 (by decide) (by omega) (fun c91 => ?_) (fun c91 => ?_)
            · have mt0 : at0 + 0 < ln ∧ tf (at0 + 0).toNat = fMon (3 * ((k : Nat) : Int) + 0) := ⟨by omega, (zSg_e hcc0 hf0).mp c91⟩
              refine lv_iinc (v := iI (1)) (lv' := [(5, .int (iI (1))), (4, .int (iI (1))), (3, .int (iI (((k : Nat) : Int)))), (2, .ref (rf 7)), (0, .ref (qq)), (1, .int (iI (4)))]) hx hb zd_Q_value_97 hl (k := 0) rfl (by decide) (by decide) rfl (fun ls hl => ?_)
              refine lv_goto (tgt := 51) hx hb zd_Q_value_100 (by decide) ?_
              refine lv_iload hx hb zd_Q_value_51 (lv_at hl 0 rfl) ?_
              refine zi_iconst hx hb zd_Q_value_53 ?_
              refine zi_icmp_ge (tgt := 103) hx hb zd_Q_value_54 (by decide) (by omega) (fun c54 => absurd c54 (by decide)) (fun _ => ?_)
              refine lv_aload_n hx hb zd_Q_value_57 rfl (lv_at hl 4 rfl) ?_
              refine va_get (D := g.1) (ci := 5) (v := .int (iI (at0))) (C := zR_Q) (T := zT_Q) (N := 21) hx hb hw zin_Q hown hK hP 0 rfl rfl 7 (by decide) (hw _ zw_3_205) (fun _ h9 => h9) rfl zd_Q_value_58 ?_
              refine lv_iload hx hb zd_Q_value_61 (lv_at hl 0 rfl) ?_
              refine zi_iadd hx hb zd_Q_value_63 ?_
              refine lv_aload_n hx hb zd_Q_value_64 rfl (lv_at hl 4 rfl) ?_
              refine va_get (D := g.1) (ci := 5) (v := .int (iI (ln))) (C := zR_Q) (T := zT_Q) (N := 21) hx hb hw zin_Q hown hK hP 0 rfl rfl 2 (by decide) (hw _ zw_3_200) (fun _ h9 => h9) rfl zd_Q_value_65 ?_
              refine zi_icmp_ge (tgt := 94) hx hb zd_Q_value_68 (by decide) (by omega) (fun c68 => ?_) (fun c68 => ?_)
              · have mf : ¬ (¬ ln - at0 < 3 ∧ tf at0.toNat = fMon (3 * ((k : Nat) : Int)) ∧ tf (at0 + 1).toNat = fMon (3 * ((k : Nat) : Int) + 1) ∧ tf (at0 + 2).toNat = fMon (3 * ((k : Nat) : Int) + 2)) := by first | exact fun q => absurd q.1 (by omega) | exact fun q => c91 ((zSg_e hcc1 hf1).mpr (by first | exact q.2.2.1 | exact q.2.2.2 | (rw [Int.add_zero, Int.add_zero]; exact q.2.1)))
                refine zi_iconst hx hb zd_Q_value_94 ?_
                refine lv_istore (lv' := [(4, .int (iI (0))), (5, .int (iI (1))), (3, .int (iI (((k : Nat) : Int)))), (2, .ref (rf 7)), (0, .ref (qq)), (1, .int (iI (4)))]) hx hb zd_Q_value_95 hl (by decide) rfl (fun ls hl => ?_)
                refine lv_iinc (v := iI (2)) (lv' := [(5, .int (iI (2))), (4, .int (iI (0))), (3, .int (iI (((k : Nat) : Int)))), (2, .ref (rf 7)), (0, .ref (qq)), (1, .int (iI (4)))]) hx hb zd_Q_value_97 hl (k := 1) rfl (by decide) (by decide) rfl (fun ls hl => ?_)
                refine lv_goto (tgt := 51) hx hb zd_Q_value_100 (by decide) ?_
                refine lv_iload hx hb zd_Q_value_51 (lv_at hl 0 rfl) ?_
                refine zi_iconst hx hb zd_Q_value_53 ?_
                refine zi_icmp_ge (tgt := 103) hx hb zd_Q_value_54 (by decide) (by omega) (fun c54 => absurd c54 (by decide)) (fun _ => ?_)
                refine lv_aload_n hx hb zd_Q_value_57 rfl (lv_at hl 4 rfl) ?_
                refine va_get (D := g.1) (ci := 5) (v := .int (iI (at0))) (C := zR_Q) (T := zT_Q) (N := 21) hx hb hw zin_Q hown hK hP 0 rfl rfl 7 (by decide) (hw _ zw_3_205) (fun _ h9 => h9) rfl zd_Q_value_58 ?_
                refine lv_iload hx hb zd_Q_value_61 (lv_at hl 0 rfl) ?_
                refine zi_iadd hx hb zd_Q_value_63 ?_
                refine lv_aload_n hx hb zd_Q_value_64 rfl (lv_at hl 4 rfl) ?_
                refine va_get (D := g.1) (ci := 5) (v := .int (iI (ln))) (C := zR_Q) (T := zT_Q) (N := 21) hx hb hw zin_Q hown hK hP 0 rfl rfl 2 (by decide) (hw _ zw_3_200) (fun _ h9 => h9) rfl zd_Q_value_65 ?_
                refine zi_icmp_ge (tgt := 94) hx hb zd_Q_value_68 (by decide) (by omega) (fun c68 => ?_) (fun c68 => ?_)
                · have mf : ¬ (¬ ln - at0 < 3 ∧ tf at0.toNat = fMon (3 * ((k : Nat) : Int)) ∧ tf (at0 + 1).toNat = fMon (3 * ((k : Nat) : Int) + 1) ∧ tf (at0 + 2).toNat = fMon (3 * ((k : Nat) : Int) + 2)) := by first | exact fun q => absurd q.1 (by omega) | exact fun q => c91 ((zSg_e hcc2 hf2).mpr (by first | exact q.2.2.1 | exact q.2.2.2 | (rw [Int.add_zero, Int.add_zero]; exact q.2.1)))
                  refine zi_iconst hx hb zd_Q_value_94 ?_
                  refine lv_istore (lv' := [(4, .int (iI (0))), (5, .int (iI (2))), (3, .int (iI (((k : Nat) : Int)))), (2, .ref (rf 7)), (0, .ref (qq)), (1, .int (iI (4)))]) hx hb zd_Q_value_95 hl (by decide) rfl (fun ls hl => ?_)
                  refine lv_iinc (v := iI (3)) (lv' := [(5, .int (iI (3))), (4, .int (iI (0))), (3, .int (iI (((k : Nat) : Int)))), (2, .ref (rf 7)), (0, .ref (qq)), (1, .int (iI (4)))]) hx hb zd_Q_value_97 hl (k := 1) rfl (by decide) (by decide) rfl (fun ls hl => ?_)
                  refine lv_goto (tgt := 51) hx hb zd_Q_value_100 (by decide) ?_
                  refine lv_iload hx hb zd_Q_value_51 (lv_at hl 0 rfl) ?_
                  refine zi_iconst hx hb zd_Q_value_53 ?_
                  refine zi_icmp_ge (tgt := 103) hx hb zd_Q_value_54 (by decide) (by omega) (fun _ => ?_) (fun c54 => absurd c54 (by decide))
                  refine lv_iload hx hb zd_Q_value_103 (lv_at hl 1 rfl) ?_
                  refine zi_if_ne (tgt := 111) hx hb zd_Q_value_105 (by decide) (by omega) (fun c105 => absurd c105 (by decide)) (fun _ => ?_)
                  refine lv_goto (tgt := 125) hx hb zd_Q_value_108 (by decide) ?_
                  refine lv_iinc (v := iI (((k : Nat) : Int) + 1)) (lv' := [(3, .int (iI (((k : Nat) : Int) + 1))), (5, .int (iI (3))), (4, .int (iI (0))), (2, .ref (rf 7)), (0, .ref (qq)), (1, .int (iI (4)))]) hx hb zd_Q_value_125 hl (k := 2) rfl (iI_add _ _) (by decide) rfl (fun ls hl => ?_)
                  refine lv_goto (tgt := 39) hx hb zd_Q_value_128 (by decide) ?_
                  exact ih (k + 1) H locs ls (by omega) (nmF_go (by omega) hF mf) (by omega) hP hD hS (lv_sub hl [0, 3, 4, 5] rfl)
                · refine lv_aload_n hx hb zd_Q_value_71 rfl (lv_at hl 4 rfl) ?_
                  refine va_get (D := g.1) (ci := 5) (v := .ref (rf 0)) (C := zR_Q) (T := zT_Q) (N := 21) hx hb hw zin_Q hown hK hP 0 rfl rfl 1 (by decide) (hw _ zw_3_199) (fun _ h9 => h9) rfl zd_Q_value_72 ?_
                  refine lv_aload_n hx hb zd_Q_value_75 rfl (lv_at hl 4 rfl) ?_
                  refine va_get (D := g.1) (ci := 5) (v := .int (iI (at0))) (C := zR_Q) (T := zT_Q) (N := 21) hx hb hw zin_Q hown hK hP 0 rfl rfl 7 (by decide) (hw _ zw_3_205) (fun _ h9 => h9) rfl zd_Q_value_76 ?_
                  refine lv_iload hx hb zd_Q_value_79 (lv_at hl 0 rfl) ?_
                  refine zi_iadd hx hb zd_Q_value_81 ?_
                  refine zi_bald hx hb hK hP 1 3 rfl rfl (by omega) zd_Q_value_82 ?_
                  have hsg2 := zSg_rg (tf := tf) (i := (at0 + 2).toNat) (hch _)
                  have hcc2 := hch (at0 + 2).toNat
                  refine lv_aload_n hx hb zd_Q_value_83 rfl (lv_at hl 3 rfl) ?_
                  refine lv_iload_n hx hb zd_Q_value_84 rfl (lv_at hl 2 rfl) ?_
                  refine zi_aaldS (k := k) hx hb hK hP 2 8 rfl rfl (by omega) (Int.toNat_natCast _) zd_Q_value_85 ?_
                  refine lv_iload hx hb zd_Q_value_86 (lv_at hl 0 rfl) ?_
                  refine zk_V (As := [.int (iI (2))]) (b := mq k) (own := "CronFinderModel") (nL := 6) (rest := [.int (iI (((zSg tf)) (at0 + 2).toNat))]) hx hb hml hown hw (c_S_charAt l g (mq k) (mv k) 3 (fun i => fMon (3 * ((k : Nat) : Int) + i)) (2) (by omega) (fun j hj => fMon_rg _ (by omega))) zw_4_85 zw_2_113 zw_2_114 zw_1_15 zw_2_115 (np := 1) (by decide +kernel) rfl ⟨rfl, rfl, Nat.le_of_ble_eq_true rfl, Nat.le_of_ble_eq_true rfl⟩ (zStr_mv (mq k) (mv k) 3 (fun i => fMon (3 * ((k : Nat) : Int) + i)) _) hK (zStr_nar (B := fun _ => False) (zStr_now (hT.2.2.1 k (by omega)) hS) (fun _ h => h.elim)) (hP.sub (ws' := []) [] rfl) (zStr_recv (zStr_nar (B := fun _ => False) (zStr_now (hT.2.2.1 k (by omega)) hS) (fun _ h => h.elim))) hl.1 rfl (Nat.le_of_ble_eq_true rfl) ⟨Nat.zero_le _, Nat.zero_le _⟩ zd_Q_value_88 ?_
                  refine zi_as (fMon (3 * ((k : Nat) : Int) + 2)) rfl ?_
                  have hf2 := fMon_rg (3 * ((k : Nat) : Int) + 2) (by omega)
                  refine zi_icmp_eq (tgt := 97) hx hb zd_Q_value_91 (by decide) (by omega) (fun c91 => ?_) (fun c91 => ?_)
                  · refine lv_iinc (v := iI (3)) (lv' := [(5, .int (iI (3))), (4, .int (iI (0))), (3, .int (iI (((k : Nat) : Int)))), (2, .ref (rf 7)), (0, .ref (qq)), (1, .int (iI (4)))]) hx hb zd_Q_value_97 hl (k := 0) rfl (by decide) (by decide) rfl (fun ls hl => ?_)
                    refine lv_goto (tgt := 51) hx hb zd_Q_value_100 (by decide) ?_
                    refine lv_iload hx hb zd_Q_value_51 (lv_at hl 0 rfl) ?_
                    refine zi_iconst hx hb zd_Q_value_53 ?_
                    refine zi_icmp_ge (tgt := 103) hx hb zd_Q_value_54 (by decide) (by omega) (fun _ => ?_) (fun c54 => absurd c54 (by decide))
                    refine lv_iload hx hb zd_Q_value_103 (lv_at hl 1 rfl) ?_
                    refine zi_if_ne (tgt := 111) hx hb zd_Q_value_105 (by decide) (by omega) (fun c105 => absurd c105 (by decide)) (fun _ => ?_)
                    refine lv_goto (tgt := 125) hx hb zd_Q_value_108 (by decide) ?_
                    refine lv_iinc (v := iI (((k : Nat) : Int) + 1)) (lv' := [(3, .int (iI (((k : Nat) : Int) + 1))), (5, .int (iI (3))), (4, .int (iI (0))), (2, .ref (rf 7)), (0, .ref (qq)), (1, .int (iI (4)))]) hx hb zd_Q_value_125 hl (k := 2) rfl (iI_add _ _) (by decide) rfl (fun ls hl => ?_)
                    refine lv_goto (tgt := 39) hx hb zd_Q_value_128 (by decide) ?_
                    exact ih (k + 1) H locs ls (by omega) (nmF_go (by omega) hF mf) (by omega) hP hD hS (lv_sub hl [0, 3, 4, 5] rfl)
                  · have mf : ¬ (¬ ln - at0 < 3 ∧ tf at0.toNat = fMon (3 * ((k : Nat) : Int)) ∧ tf (at0 + 1).toNat = fMon (3 * ((k : Nat) : Int) + 1) ∧ tf (at0 + 2).toNat = fMon (3 * ((k : Nat) : Int) + 2)) := by first | exact fun q => absurd q.1 (by omega) | exact fun q => c91 ((zSg_e hcc2 hf2).mpr (by first | exact q.2.2.1 | exact q.2.2.2 | (rw [Int.add_zero, Int.add_zero]; exact q.2.1)))
                    refine zi_iconst hx hb zd_Q_value_94 ?_
                    refine lv_istore (lv' := [(4, .int (iI (0))), (5, .int (iI (2))), (3, .int (iI (((k : Nat) : Int)))), (2, .ref (rf 7)), (0, .ref (qq)), (1, .int (iI (4)))]) hx hb zd_Q_value_95 hl (by decide) rfl (fun ls hl => ?_)
                    refine lv_iinc (v := iI (3)) (lv' := [(5, .int (iI (3))), (4, .int (iI (0))), (3, .int (iI (((k : Nat) : Int)))), (2, .ref (rf 7)), (0, .ref (qq)), (1, .int (iI (4)))]) hx hb zd_Q_value_97 hl (k := 1) rfl (by decide) (by decide) rfl (fun ls hl => ?_)
                    refine lv_goto (tgt := 51) hx hb zd_Q_value_100 (by decide) ?_
                    refine lv_iload hx hb zd_Q_value_51 (lv_at hl 0 rfl) ?_
                    refine zi_iconst hx hb zd_Q_value_53 ?_
                    refine zi_icmp_ge (tgt := 103) hx hb zd_Q_value_54 (by decide) (by omega) (fun _ => ?_) (fun c54 => absurd c54 (by decide))
                    refine lv_iload hx hb zd_Q_value_103 (lv_at hl 1 rfl) ?_
                    refine zi_if_ne (tgt := 111) hx hb zd_Q_value_105 (by decide) (by omega) (fun c105 => absurd c105 (by decide)) (fun _ => ?_)
                    refine lv_goto (tgt := 125) hx hb zd_Q_value_108 (by decide) ?_
                    refine lv_iinc (v := iI (((k : Nat) : Int) + 1)) (lv' := [(3, .int (iI (((k : Nat) : Int) + 1))), (5, .int (iI (3))), (4, .int (iI (0))), (2, .ref (rf 7)), (0, .ref (qq)), (1, .int (iI (4)))]) hx hb zd_Q_value_125 hl (k := 2) rfl (iI_add _ _) (by decide) rfl (fun ls hl => ?_)
                    refine lv_goto (tgt := 39) hx hb zd_Q_value_128 (by decide) ?_
                    exact ih (k + 1) H locs ls (by omega) (nmF_go (by omega) hF mf) (by omega) hP hD hS (lv_sub hl [0, 3, 4, 5] rfl)
              · refine lv_aload_n hx hb zd_Q_value_71 rfl (lv_at hl 4 rfl) ?_
                refine va_get (D := g.1) (ci := 5) (v := .ref (rf 0)) (C := zR_Q) (T := zT_Q) (N := 21) hx hb hw zin_Q hown hK hP 0 rfl rfl 1 (by decide) (hw _ zw_3_199) (fun _ h9 => h9) rfl zd_Q_value_72 ?_
                refine lv_aload_n hx hb zd_Q_value_75 rfl (lv_at hl 4 rfl) ?_
                refine va_get (D := g.1) (ci := 5) (v := .int (iI (at0))) (C := zR_Q) (T := zT_Q) (N := 21) hx hb hw zin_Q hown hK hP 0 rfl rfl 7 (by decide) (hw _ zw_3_205) (fun _ h9 => h9) rfl zd_Q_value_76 ?_
                refine lv_iload hx hb zd_Q_value_79 (lv_at hl 0 rfl) ?_
                refine zi_iadd hx hb zd_Q_value_81 ?_
                refine zi_bald hx hb hK hP 1 3 rfl rfl (by omega) zd_Q_value_82 ?_
                have hsg1 := zSg_rg (tf := tf) (i := (at0 + 1).toNat) (hch _)
                have hcc1 := hch (at0 + 1).toNat
                refine lv_aload_n hx hb zd_Q_value_83 rfl (lv_at hl 3 rfl) ?_
                refine lv_iload_n hx hb zd_Q_value_84 rfl (lv_at hl 2 rfl) ?_
                refine zi_aaldS (k := k) hx hb hK hP 2 8 rfl rfl (by omega) (Int.toNat_natCast _) zd_Q_value_85 ?_
                refine lv_iload hx hb zd_Q_value_86 (lv_at hl 0 rfl) ?_
                refine zk_V (As := [.int (iI (1))]) (b := mq k) (own := "CronFinderModel") (nL := 6) (rest := [.int (iI (((zSg tf)) (at0 + 1).toNat))]) hx hb hml hown hw (c_S_charAt l g (mq k) (mv k) 3 (fun i => fMon (3 * ((k : Nat) : Int) + i)) (1) (by omega) (fun j hj => fMon_rg _ (by omega))) zw_4_85 zw_2_113 zw_2_114 zw_1_15 zw_2_115 (np := 1) (by decide +kernel) rfl ⟨rfl, rfl, Nat.le_of_ble_eq_true rfl, Nat.le_of_ble_eq_true rfl⟩ (zStr_mv (mq k) (mv k) 3 (fun i => fMon (3 * ((k : Nat) : Int) + i)) _) hK (zStr_nar (B := fun _ => False) (zStr_now (hT.2.2.1 k (by omega)) hS) (fun _ h => h.elim)) (hP.sub (ws' := []) [] rfl) (zStr_recv (zStr_nar (B := fun _ => False) (zStr_now (hT.2.2.1 k (by omega)) hS) (fun _ h => h.elim))) hl.1 rfl (Nat.le_of_ble_eq_true rfl) ⟨Nat.zero_le _, Nat.zero_le _⟩ zd_Q_value_88 ?_
                refine zi_as (fMon (3 * ((k : Nat) : Int) + 1)) rfl ?_
                have hf1 := fMon_rg (3 * ((k : Nat) : Int) + 1) (by omega)
                refine zi_icmp_eq (tgt := 97) hx hb zd_Q_value_91 (by decide) (by omega) (fun c91 => ?_) (fun c91 => ?_)
                · have mt1 : at0 + 1 < ln ∧ tf (at0 + 1).toNat = fMon (3 * ((k : Nat) : Int) + 1) := ⟨by omega, (zSg_e hcc1 hf1).mp c91⟩
                  refine lv_iinc (v := iI (2)) (lv' := [(5, .int (iI (2))), (4, .int (iI (1))), (3, .int (iI (((k : Nat) : Int)))), (2, .ref (rf 7)), (0, .ref (qq)), (1, .int (iI (4)))]) hx hb zd_Q_value_97 hl (k := 0) rfl (by decide) (by decide) rfl (fun ls hl => ?_)
                  refine lv_goto (tgt := 51) hx hb zd_Q_value_100 (by decide) ?_
                  refine lv_iload hx hb zd_Q_value_51 (lv_at hl 0 rfl) ?_
                  refine zi_iconst hx hb zd_Q_value_53 ?_
                  refine zi_icmp_ge (tgt := 103) hx hb zd_Q_value_54 (by decide) (by omega) (fun c54 => absurd c54 (by decide)) (fun _ => ?_)
                  refine lv_aload_n hx hb zd_Q_value_57 rfl (lv_at hl 4 rfl) ?_
                  refine va_get (D := g.1) (ci := 5) (v := .int (iI (at0))) (C := zR_Q) (T := zT_Q) (N := 21) hx hb hw zin_Q hown hK hP 0 rfl rfl 7 (by decide) (hw _ zw_3_205) (fun _ h9 => h9) rfl zd_Q_value_58 ?_
                  refine lv_iload hx hb zd_Q_value_61 (lv_at hl 0 rfl) ?_
                  refine zi_iadd hx hb zd_Q_value_63 ?_
                  refine lv_aload_n hx hb zd_Q_value_64 rfl (lv_at hl 4 rfl) ?_
                  refine va_get (D := g.1) (ci := 5) (v := .int (iI (ln))) (C := zR_Q) (T := zT_Q) (N := 21) hx hb hw zin_Q hown hK hP 0 rfl rfl 2 (by decide) (hw _ zw_3_200) (fun _ h9 => h9) rfl zd_Q_value_65 ?_
                  refine zi_icmp_ge (tgt := 94) hx hb zd_Q_value_68 (by decide) (by omega) (fun c68 => ?_) (fun c68 => ?_)
                  · have mf : ¬ (¬ ln - at0 < 3 ∧ tf at0.toNat = fMon (3 * ((k : Nat) : Int)) ∧ tf (at0 + 1).toNat = fMon (3 * ((k : Nat) : Int) + 1) ∧ tf (at0 + 2).toNat = fMon (3 * ((k : Nat) : Int) + 2)) := by first | exact fun q => absurd q.1 (by omega) | exact fun q => c91 ((zSg_e hcc2 hf2).mpr (by first | exact q.2.2.1 | exact q.2.2.2 | (rw [Int.add_zero, Int.add_zero]; exact q.2.1)))
                    refine zi_iconst hx hb zd_Q_value_94 ?_
                    refine lv_istore (lv' := [(4, .int (iI (0))), (5, .int (iI (2))), (3, .int (iI (((k : Nat) : Int)))), (2, .ref (rf 7)), (0, .ref (qq)), (1, .int (iI (4)))]) hx hb zd_Q_value_95 hl (by decide) rfl (fun ls hl => ?_)
                    refine lv_iinc (v := iI (3)) (lv' := [(5, .int (iI (3))), (4, .int (iI (0))), (3, .int (iI (((k : Nat) : Int)))), (2, .ref (rf 7)), (0, .ref (qq)), (1, .int (iI (4)))]) hx hb zd_Q_value_97 hl (k := 1) rfl (by decide) (by decide) rfl (fun ls hl => ?_)
                    refine lv_goto (tgt := 51) hx hb zd_Q_value_100 (by decide) ?_
                    refine lv_iload hx hb zd_Q_value_51 (lv_at hl 0 rfl) ?_
                    refine zi_iconst hx hb zd_Q_value_53 ?_
                    refine zi_icmp_ge (tgt := 103) hx hb zd_Q_value_54 (by decide) (by omega) (fun _ => ?_) (fun c54 => absurd c54 (by decide))
                    refine lv_iload hx hb zd_Q_value_103 (lv_at hl 1 rfl) ?_
                    refine zi_if_ne (tgt := 111) hx hb zd_Q_value_105 (by decide) (by omega) (fun c105 => absurd c105 (by decide)) (fun _ => ?_)
                    refine lv_goto (tgt := 125) hx hb zd_Q_value_108 (by decide) ?_
                    refine lv_iinc (v := iI (((k : Nat) : Int) + 1)) (lv' := [(3, .int (iI (((k : Nat) : Int) + 1))), (5, .int (iI (3))), (4, .int (iI (0))), (2, .ref (rf 7)), (0, .ref (qq)), (1, .int (iI (4)))]) hx hb zd_Q_value_125 hl (k := 2) rfl (iI_add _ _) (by decide) rfl (fun ls hl => ?_)
                    refine lv_goto (tgt := 39) hx hb zd_Q_value_128 (by decide) ?_
                    exact ih (k + 1) H locs ls (by omega) (nmF_go (by omega) hF mf) (by omega) hP hD hS (lv_sub hl [0, 3, 4, 5] rfl)
                  · refine lv_aload_n hx hb zd_Q_value_71 rfl (lv_at hl 4 rfl) ?_
                    refine va_get (D := g.1) (ci := 5) (v := .ref (rf 0)) (C := zR_Q) (T := zT_Q) (N := 21) hx hb hw zin_Q hown hK hP 0 rfl rfl 1 (by decide) (hw _ zw_3_199) (fun _ h9 => h9) rfl zd_Q_value_72 ?_
                    refine lv_aload_n hx hb zd_Q_value_75 rfl (lv_at hl 4 rfl) ?_
                    refine va_get (D := g.1) (ci := 5) (v := .int (iI (at0))) (C := zR_Q) (T := zT_Q) (N := 21) hx hb hw zin_Q hown hK hP 0 rfl rfl 7 (by decide) (hw _ zw_3_205) (fun _ h9 => h9) rfl zd_Q_value_76 ?_
                    refine lv_iload hx hb zd_Q_value_79 (lv_at hl 0 rfl) ?_
                    refine zi_iadd hx hb zd_Q_value_81 ?_
                    refine zi_bald hx hb hK hP 1 3 rfl rfl (by omega) zd_Q_value_82 ?_
                    have hsg2 := zSg_rg (tf := tf) (i := (at0 + 2).toNat) (hch _)
                    have hcc2 := hch (at0 + 2).toNat
                    refine lv_aload_n hx hb zd_Q_value_83 rfl (lv_at hl 3 rfl) ?_
                    refine lv_iload_n hx hb zd_Q_value_84 rfl (lv_at hl 2 rfl) ?_
                    refine zi_aaldS (k := k) hx hb hK hP 2 8 rfl rfl (by omega) (Int.toNat_natCast _) zd_Q_value_85 ?_
                    refine lv_iload hx hb zd_Q_value_86 (lv_at hl 0 rfl) ?_
                    refine zk_V (As := [.int (iI (2))]) (b := mq k) (own := "CronFinderModel") (nL := 6) (rest := [.int (iI (((zSg tf)) (at0 + 2).toNat))]) hx hb hml hown hw (c_S_charAt l g (mq k) (mv k) 3 (fun i => fMon (3 * ((k : Nat) : Int) + i)) (2) (by omega) (fun j hj => fMon_rg _ (by omega))) zw_4_85 zw_2_113 zw_2_114 zw_1_15 zw_2_115 (np := 1) (by decide +kernel) rfl ⟨rfl, rfl, Nat.le_of_ble_eq_true rfl, Nat.le_of_ble_eq_true rfl⟩ (zStr_mv (mq k) (mv k) 3 (fun i => fMon (3 * ((k : Nat) : Int) + i)) _) hK (zStr_nar (B := fun _ => False) (zStr_now (hT.2.2.1 k (by omega)) hS) (fun _ h => h.elim)) (hP.sub (ws' := []) [] rfl) (zStr_recv (zStr_nar (B := fun _ => False) (zStr_now (hT.2.2.1 k (by omega)) hS) (fun _ h => h.elim))) hl.1 rfl (Nat.le_of_ble_eq_true rfl) ⟨Nat.zero_le _, Nat.zero_le _⟩ zd_Q_value_88 ?_
                    refine zi_as (fMon (3 * ((k : Nat) : Int) + 2)) rfl ?_
                    have hf2 := fMon_rg (3 * ((k : Nat) : Int) + 2) (by omega)
                    refine zi_icmp_eq (tgt := 97) hx hb zd_Q_value_91 (by decide) (by omega) (fun c91 => ?_) (fun c91 => ?_)
                    · have mt2 : at0 + 2 < ln ∧ tf (at0 + 2).toNat = fMon (3 * ((k : Nat) : Int) + 2) := ⟨by omega, (zSg_e hcc2 hf2).mp c91⟩
                      refine lv_iinc (v := iI (3)) (lv' := [(5, .int (iI (3))), (4, .int (iI (1))), (3, .int (iI (((k : Nat) : Int)))), (2, .ref (rf 7)), (0, .ref (qq)), (1, .int (iI (4)))]) hx hb zd_Q_value_97 hl (k := 0) rfl (by decide) (by decide) rfl (fun ls hl => ?_)
                      refine lv_goto (tgt := 51) hx hb zd_Q_value_100 (by decide) ?_
                      refine lv_iload hx hb zd_Q_value_51 (lv_at hl 0 rfl) ?_
                      refine zi_iconst hx hb zd_Q_value_53 ?_
                      refine zi_icmp_ge (tgt := 103) hx hb zd_Q_value_54 (by decide) (by omega) (fun _ => ?_) (fun c54 => absurd c54 (by decide))
                      refine lv_iload hx hb zd_Q_value_103 (lv_at hl 1 rfl) ?_
                      refine zi_if_ne (tgt := 111) hx hb zd_Q_value_105 (by decide) (by omega) (fun _ => ?_) (fun c105 => absurd c105 (by decide))
                      have hvn : vNm 4 ln tf at0 = ((k : Nat) : Int) + 1 := nmF_hit (by omega) (by omega) (hF (by omega)) ⟨by have := mt0.2; rw [Int.add_zero, Int.add_zero] at this; exact this, mt1.2, mt2.2⟩
                      have hv1 : ¬ vNm 4 ln tf at0 = 0 := by omega
                      refine lv_aload_n hx hb zd_Q_value_111 rfl (lv_at hl 4 rfl) ?_
                      refine lv_dup hx hb zd_Q_value_112 rfl ?_
                      refine va_get (D := g.1) (ci := 5) (v := .int (iI (at0))) (C := zR_Q) (T := zT_Q) (N := 21) hx hb hw zin_Q hown hK hP 0 rfl rfl 7 (by decide) (hw _ zw_3_205) (fun _ h9 => h9) rfl zd_Q_value_113 ?_
                      refine zi_iconst hx hb zd_Q_value_116 ?_
                      refine zi_iadd hx hb zd_Q_value_117 ?_
                      refine va_put (D := g.1) (ci := 5) (v := .int (iI (at0 + 3))) (ty := .int) (C := zR_Q) (T := zT_Q) (N := 21) hx hb hw zin_Q zt_Q zto_Q zn_Q hown hK hP hD hS 0 rfl rfl 7 (by decide) (hw _ zw_3_205) (fun _ h9 => h9) rfl  (by decide +kernel) rfl rfl (Nat.le_of_ble_eq_true rfl) zd_Q_value_118 (fun H locs hP hD hS => ?_)
                      have hP : va_P g.1 zCl [(qq, .inr (5, [.int (iI (fl)), .ref (rf 0), .int (iI (ln)), .int (iI (pl)), .int (iI (yy)), .int (iI (mm)), .int (iI (dd)), .int (iI (at0 + 3)), .ref (rf 1), .ref (rf 2), .ref (rf 3), .ref (rf 4), .ref (rf 5), .ref (rf 6), .int (iI (wa)), .int (iI (on)), .int (iI (tw)), .ref (rf 7), .ref (rf 8), .ref (rf 9), .int (iI (hc))])), (rf 0, .inl (g.2 3, 400, .inl (zaI (zSg tf)))), (rf 7, .inl (g.2 8, 12, .inr (.inr (.inr (.inr (zaR mq)))))), (rf 8, .inl (g.2 8, 7, .inr (.inr (.inr (.inr (zaR wq))))))] H := hP
                      have hD : va_D A [(qq, .inr (5, [.int (iI (fl)), .ref (rf 0), .int (iI (ln)), .int (iI (pl)), .int (iI (yy)), .int (iI (mm)), .int (iI (dd)), .int (iI (at0 + 3)), .ref (rf 1), .ref (rf 2), .ref (rf 3), .ref (rf 4), .ref (rf 5), .ref (rf 6), .int (iI (wa)), .int (iI (on)), .int (iI (tw)), .ref (rf 7), .ref (rf 8), .ref (rf 9), .int (iI (hc))])), (rf 0, .inl (g.2 3, 400, .inl (zaI (zSg tf)))), (rf 7, .inl (g.2 8, 12, .inr (.inr (.inr (.inr (zaR mq)))))), (rf 8, .inl (g.2 8, 7, .inr (.inr (.inr (.inr (zaR wq))))))] := hD
                      refine lv_iload_n hx hb zd_Q_value_121 rfl (lv_at hl 2 rfl) ?_
                      refine zi_iconst hx hb zd_Q_value_122 ?_
                      refine zi_iadd hx hb zd_Q_value_123 ?_
                      refine zi_as (vVl 4 tf ln at0) (by rw [vVl_1 hv1, hvn]) ?_
                      rw [← vAt_1 hv1] at hP
                      have hok9 := (vOk_1 hv1)
                      exact zq_iret hx hb hr hlk (fun _ => 0, fun _ _ => false) hP hS hok9 (zHm_y hmc hok9) zd_Q_value_124
                    · have mf : ¬ (¬ ln - at0 < 3 ∧ tf at0.toNat = fMon (3 * ((k : Nat) : Int)) ∧ tf (at0 + 1).toNat = fMon (3 * ((k : Nat) : Int) + 1) ∧ tf (at0 + 2).toNat = fMon (3 * ((k : Nat) : Int) + 2)) := by first | exact fun q => absurd q.1 (by omega) | exact fun q => c91 ((zSg_e hcc2 hf2).mpr (by first | exact q.2.2.1 | exact q.2.2.2 | (rw [Int.add_zero, Int.add_zero]; exact q.2.1)))
                      refine zi_iconst hx hb zd_Q_value_94 ?_
                      refine lv_istore (lv' := [(4, .int (iI (0))), (5, .int (iI (2))), (3, .int (iI (((k : Nat) : Int)))), (2, .ref (rf 7)), (0, .ref (qq)), (1, .int (iI (4)))]) hx hb zd_Q_value_95 hl (by decide) rfl (fun ls hl => ?_)
                      refine lv_iinc (v := iI (3)) (lv' := [(5, .int (iI (3))), (4, .int (iI (0))), (3, .int (iI (((k : Nat) : Int)))), (2, .ref (rf 7)), (0, .ref (qq)), (1, .int (iI (4)))]) hx hb zd_Q_value_97 hl (k := 1) rfl (by decide) (by decide) rfl (fun ls hl => ?_)
                      refine lv_goto (tgt := 51) hx hb zd_Q_value_100 (by decide) ?_
                      refine lv_iload hx hb zd_Q_value_51 (lv_at hl 0 rfl) ?_
                      refine zi_iconst hx hb zd_Q_value_53 ?_
                      refine zi_icmp_ge (tgt := 103) hx hb zd_Q_value_54 (by decide) (by omega) (fun _ => ?_) (fun c54 => absurd c54 (by decide))
                      refine lv_iload hx hb zd_Q_value_103 (lv_at hl 1 rfl) ?_
                      refine zi_if_ne (tgt := 111) hx hb zd_Q_value_105 (by decide) (by omega) (fun c105 => absurd c105 (by decide)) (fun _ => ?_)
                      refine lv_goto (tgt := 125) hx hb zd_Q_value_108 (by decide) ?_
                      refine lv_iinc (v := iI (((k : Nat) : Int) + 1)) (lv' := [(3, .int (iI (((k : Nat) : Int) + 1))), (5, .int (iI (3))), (4, .int (iI (0))), (2, .ref (rf 7)), (0, .ref (qq)), (1, .int (iI (4)))]) hx hb zd_Q_value_125 hl (k := 2) rfl (iI_add _ _) (by decide) rfl (fun ls hl => ?_)
                      refine lv_goto (tgt := 39) hx hb zd_Q_value_128 (by decide) ?_
                      exact ih (k + 1) H locs ls (by omega) (nmF_go (by omega) hF mf) (by omega) hP hD hS (lv_sub hl [0, 3, 4, 5] rfl)
                · have mf : ¬ (¬ ln - at0 < 3 ∧ tf at0.toNat = fMon (3 * ((k : Nat) : Int)) ∧ tf (at0 + 1).toNat = fMon (3 * ((k : Nat) : Int) + 1) ∧ tf (at0 + 2).toNat = fMon (3 * ((k : Nat) : Int) + 2)) := by first | exact fun q => absurd q.1 (by omega) | exact fun q => c91 ((zSg_e hcc1 hf1).mpr (by first | exact q.2.2.1 | exact q.2.2.2 | (rw [Int.add_zero, Int.add_zero]; exact q.2.1)))
                  refine zi_iconst hx hb zd_Q_value_94 ?_
                  refine lv_istore (lv' := [(4, .int (iI (0))), (5, .int (iI (1))), (3, .int (iI (((k : Nat) : Int)))), (2, .ref (rf 7)), (0, .ref (qq)), (1, .int (iI (4)))]) hx hb zd_Q_value_95 hl (by decide) rfl (fun ls hl => ?_)
                  refine lv_iinc (v := iI (2)) (lv' := [(5, .int (iI (2))), (4, .int (iI (0))), (3, .int (iI (((k : Nat) : Int)))), (2, .ref (rf 7)), (0, .ref (qq)), (1, .int (iI (4)))]) hx hb zd_Q_value_97 hl (k := 1) rfl (by decide) (by decide) rfl (fun ls hl => ?_)
                  refine lv_goto (tgt := 51) hx hb zd_Q_value_100 (by decide) ?_
                  refine lv_iload hx hb zd_Q_value_51 (lv_at hl 0 rfl) ?_
                  refine zi_iconst hx hb zd_Q_value_53 ?_
                  refine zi_icmp_ge (tgt := 103) hx hb zd_Q_value_54 (by decide) (by omega) (fun c54 => absurd c54 (by decide)) (fun _ => ?_)
                  refine lv_aload_n hx hb zd_Q_value_57 rfl (lv_at hl 4 rfl) ?_
                  refine va_get (D := g.1) (ci := 5) (v := .int (iI (at0))) (C := zR_Q) (T := zT_Q) (N := 21) hx hb hw zin_Q hown hK hP 0 rfl rfl 7 (by decide) (hw _ zw_3_205) (fun _ h9 => h9) rfl zd_Q_value_58 ?_
                  refine lv_iload hx hb zd_Q_value_61 (lv_at hl 0 rfl) ?_
                  refine zi_iadd hx hb zd_Q_value_63 ?_
                  refine lv_aload_n hx hb zd_Q_value_64 rfl (lv_at hl 4 rfl) ?_
                  refine va_get (D := g.1) (ci := 5) (v := .int (iI (ln))) (C := zR_Q) (T := zT_Q) (N := 21) hx hb hw zin_Q hown hK hP 0 rfl rfl 2 (by decide) (hw _ zw_3_200) (fun _ h9 => h9) rfl zd_Q_value_65 ?_
                  refine zi_icmp_ge (tgt := 94) hx hb zd_Q_value_68 (by decide) (by omega) (fun c68 => ?_) (fun c68 => ?_)
                  · have mf : ¬ (¬ ln - at0 < 3 ∧ tf at0.toNat = fMon (3 * ((k : Nat) : Int)) ∧ tf (at0 + 1).toNat = fMon (3 * ((k : Nat) : Int) + 1) ∧ tf (at0 + 2).toNat = fMon (3 * ((k : Nat) : Int) + 2)) := by first | exact fun q => absurd q.1 (by omega) | exact fun q => c91 ((zSg_e hcc2 hf2).mpr (by first | exact q.2.2.1 | exact q.2.2.2 | (rw [Int.add_zero, Int.add_zero]; exact q.2.1)))
                    refine zi_iconst hx hb zd_Q_value_94 ?_
                    refine lv_istore (lv' := [(4, .int (iI (0))), (5, .int (iI (2))), (3, .int (iI (((k : Nat) : Int)))), (2, .ref (rf 7)), (0, .ref (qq)), (1, .int (iI (4)))]) hx hb zd_Q_value_95 hl (by decide) rfl (fun ls hl => ?_)
                    refine lv_iinc (v := iI (3)) (lv' := [(5, .int (iI (3))), (4, .int (iI (0))), (3, .int (iI (((k : Nat) : Int)))), (2, .ref (rf 7)), (0, .ref (qq)), (1, .int (iI (4)))]) hx hb zd_Q_value_97 hl (k := 1) rfl (by decide) (by decide) rfl (fun ls hl => ?_)
                    refine lv_goto (tgt := 51) hx hb zd_Q_value_100 (by decide) ?_
                    refine lv_iload hx hb zd_Q_value_51 (lv_at hl 0 rfl) ?_
                    refine zi_iconst hx hb zd_Q_value_53 ?_
                    refine zi_icmp_ge (tgt := 103) hx hb zd_Q_value_54 (by decide) (by omega) (fun _ => ?_) (fun c54 => absurd c54 (by decide))
                    refine lv_iload hx hb zd_Q_value_103 (lv_at hl 1 rfl) ?_
                    refine zi_if_ne (tgt := 111) hx hb zd_Q_value_105 (by decide) (by omega) (fun c105 => absurd c105 (by decide)) (fun _ => ?_)
                    refine lv_goto (tgt := 125) hx hb zd_Q_value_108 (by decide) ?_
                    refine lv_iinc (v := iI (((k : Nat) : Int) + 1)) (lv' := [(3, .int (iI (((k : Nat) : Int) + 1))), (5, .int (iI (3))), (4, .int (iI (0))), (2, .ref (rf 7)), (0, .ref (qq)), (1, .int (iI (4)))]) hx hb zd_Q_value_125 hl (k := 2) rfl (iI_add _ _) (by decide) rfl (fun ls hl => ?_)
                    refine lv_goto (tgt := 39) hx hb zd_Q_value_128 (by decide) ?_
                    exact ih (k + 1) H locs ls (by omega) (nmF_go (by omega) hF mf) (by omega) hP hD hS (lv_sub hl [0, 3, 4, 5] rfl)
                  · refine lv_aload_n hx hb zd_Q_value_71 rfl (lv_at hl 4 rfl) ?_
                    refine va_get (D := g.1) (ci := 5) (v := .ref (rf 0)) (C := zR_Q) (T := zT_Q) (N := 21) hx hb hw zin_Q hown hK hP 0 rfl rfl 1 (by decide) (hw _ zw_3_199) (fun _ h9 => h9) rfl zd_Q_value_72 ?_
                    refine lv_aload_n hx hb zd_Q_value_75 rfl (lv_at hl 4 rfl) ?_
                    refine va_get (D := g.1) (ci := 5) (v := .int (iI (at0))) (C := zR_Q) (T := zT_Q) (N := 21) hx hb hw zin_Q hown hK hP 0 rfl rfl 7 (by decide) (hw _ zw_3_205) (fun _ h9 => h9) rfl zd_Q_value_76 ?_
                    refine lv_iload hx hb zd_Q_value_79 (lv_at hl 0 rfl) ?_
                    refine zi_iadd hx hb zd_Q_value_81 ?_
                    refine zi_bald hx hb hK hP 1 3 rfl rfl (by omega) zd_Q_value_82 ?_
                    have hsg2 := zSg_rg (tf := tf) (i := (at0 + 2).toNat) (hch _)
                    have hcc2 := hch (at0 + 2).toNat
                    refine lv_aload_n hx hb zd_Q_value_83 rfl (lv_at hl 3 rfl) ?_
                    refine lv_iload_n hx hb zd_Q_value_84 rfl (lv_at hl 2 rfl) ?_
                    refine zi_aaldS (k := k) hx hb hK hP 2 8 rfl rfl (by omega) (Int.toNat_natCast _) zd_Q_value_85 ?_
                    refine lv_iload hx hb zd_Q_value_86 (lv_at hl 0 rfl) ?_
                    refine zk_V (As := [.int (iI (2))]) (b := mq k) (own := "CronFinderModel") (nL := 6) (rest := [.int (iI (((zSg tf)) (at0 + 2).toNat))]) hx hb hml hown hw (c_S_charAt l g (mq k) (mv k) 3 (fun i => fMon (3 * ((k : Nat) : Int) + i)) (2) (by omega) (fun j hj => fMon_rg _ (by omega))) zw_4_85 zw_2_113 zw_2_114 zw_1_15 zw_2_115 (np := 1) (by decide +kernel) rfl ⟨rfl, rfl, Nat.le_of_ble_eq_true rfl, Nat.le_of_ble_eq_true rfl⟩ (zStr_mv (mq k) (mv k) 3 (fun i => fMon (3 * ((k : Nat) : Int) + i)) _) hK (zStr_nar (B := fun _ => False) (zStr_now (hT.2.2.1 k (by omega)) hS) (fun _ h => h.elim)) (hP.sub (ws' := []) [] rfl) (zStr_recv (zStr_nar (B := fun _ => False) (zStr_now (hT.2.2.1 k (by omega)) hS) (fun _ h => h.elim))) hl.1 rfl (Nat.le_of_ble_eq_true rfl) ⟨Nat.zero_le _, Nat.zero_le _⟩ zd_Q_value_88 ?_
                    refine zi_as (fMon (3 * ((k : Nat) : Int) + 2)) rfl ?_
                    have hf2 := fMon_rg (3 * ((k : Nat) : Int) + 2) (by omega)
                    refine zi_icmp_eq (tgt := 97) hx hb zd_Q_value_91 (by decide) (by omega) (fun c91 => ?_) (fun c91 => ?_)
                    · refine lv_iinc (v := iI (3)) (lv' := [(5, .int (iI (3))), (4, .int (iI (0))), (3, .int (iI (((k : Nat) : Int)))), (2, .ref (rf 7)), (0, .ref (qq)), (1, .int (iI (4)))]) hx hb zd_Q_value_97 hl (k := 0) rfl (by decide) (by decide) rfl (fun ls hl => ?_)
                      refine lv_goto (tgt := 51) hx hb zd_Q_value_100 (by decide) ?_
                      refine lv_iload hx hb zd_Q_value_51 (lv_at hl 0 rfl) ?_
                      refine zi_iconst hx hb zd_Q_value_53 ?_
                      refine zi_icmp_ge (tgt := 103) hx hb zd_Q_value_54 (by decide) (by omega) (fun _ => ?_) (fun c54 => absurd c54 (by decide))
                      refine lv_iload hx hb zd_Q_value_103 (lv_at hl 1 rfl) ?_
                      refine zi_if_ne (tgt := 111) hx hb zd_Q_value_105 (by decide) (by omega) (fun c105 => absurd c105 (by decide)) (fun _ => ?_)
                      refine lv_goto (tgt := 125) hx hb zd_Q_value_108 (by decide) ?_
                      refine lv_iinc (v := iI (((k : Nat) : Int) + 1)) (lv' := [(3, .int (iI (((k : Nat) : Int) + 1))), (5, .int (iI (3))), (4, .int (iI (0))), (2, .ref (rf 7)), (0, .ref (qq)), (1, .int (iI (4)))]) hx hb zd_Q_value_125 hl (k := 2) rfl (iI_add _ _) (by decide) rfl (fun ls hl => ?_)
                      refine lv_goto (tgt := 39) hx hb zd_Q_value_128 (by decide) ?_
                      exact ih (k + 1) H locs ls (by omega) (nmF_go (by omega) hF mf) (by omega) hP hD hS (lv_sub hl [0, 3, 4, 5] rfl)
                    · have mf : ¬ (¬ ln - at0 < 3 ∧ tf at0.toNat = fMon (3 * ((k : Nat) : Int)) ∧ tf (at0 + 1).toNat = fMon (3 * ((k : Nat) : Int) + 1) ∧ tf (at0 + 2).toNat = fMon (3 * ((k : Nat) : Int) + 2)) := by first | exact fun q => absurd q.1 (by omega) | exact fun q => c91 ((zSg_e hcc2 hf2).mpr (by first | exact q.2.2.1 | exact q.2.2.2 | (rw [Int.add_zero, Int.add_zero]; exact q.2.1)))
                      refine zi_iconst hx hb zd_Q_value_94 ?_
                      refine lv_istore (lv' := [(4, .int (iI (0))), (5, .int (iI (2))), (3, .int (iI (((k : Nat) : Int)))), (2, .ref (rf 7)), (0, .ref (qq)), (1, .int (iI (4)))]) hx hb zd_Q_value_95 hl (by decide) rfl (fun ls hl => ?_)
                      refine lv_iinc (v := iI (3)) (lv' := [(5, .int (iI (3))), (4, .int (iI (0))), (3, .int (iI (((k : Nat) : Int)))), (2, .ref (rf 7)), (0, .ref (qq)), (1, .int (iI (4)))]) hx hb zd_Q_value_97 hl (k := 1) rfl (by decide) (by decide) rfl (fun ls hl => ?_)
                      refine lv_goto (tgt := 51) hx hb zd_Q_value_100 (by decide) ?_
                      refine lv_iload hx hb zd_Q_value_51 (lv_at hl 0 rfl) ?_
                      refine zi_iconst hx hb zd_Q_value_53 ?_
                      refine zi_icmp_ge (tgt := 103) hx hb zd_Q_value_54 (by decide) (by omega) (fun _ => ?_) (fun c54 => absurd c54 (by decide))
                      refine lv_iload hx hb zd_Q_value_103 (lv_at hl 1 rfl) ?_
                      refine zi_if_ne (tgt := 111) hx hb zd_Q_value_105 (by decide) (by omega) (fun c105 => absurd c105 (by decide)) (fun _ => ?_)
                      refine lv_goto (tgt := 125) hx hb zd_Q_value_108 (by decide) ?_
                      refine lv_iinc (v := iI (((k : Nat) : Int) + 1)) (lv' := [(3, .int (iI (((k : Nat) : Int) + 1))), (5, .int (iI (3))), (4, .int (iI (0))), (2, .ref (rf 7)), (0, .ref (qq)), (1, .int (iI (4)))]) hx hb zd_Q_value_125 hl (k := 2) rfl (iI_add _ _) (by decide) rfl (fun ls hl => ?_)
                      refine lv_goto (tgt := 39) hx hb zd_Q_value_128 (by decide) ?_
                      exact ih (k + 1) H locs ls (by omega) (nmF_go (by omega) hF mf) (by omega) hP hD hS (lv_sub hl [0, 3, 4, 5] rfl)
            · have mf : ¬ (¬ ln - at0 < 3 ∧ tf at0.toNat = fMon (3 * ((k : Nat) : Int)) ∧ tf (at0 + 1).toNat = fMon (3 * ((k : Nat) : Int) + 1) ∧ tf (at0 + 2).toNat = fMon (3 * ((k : Nat) : Int) + 2)) := by first | exact fun q => absurd q.1 (by omega) | exact fun q => c91 ((zSg_e hcc0 hf0).mpr (by first | exact q.2.2.1 | exact q.2.2.2 | (rw [Int.add_zero, Int.add_zero]; exact q.2.1)))
              refine zi_iconst hx hb zd_Q_value_94 ?_
              refine lv_istore (lv' := [(4, .int (iI (0))), (5, .int (iI (0))), (3, .int (iI (((k : Nat) : Int)))), (2, .ref (rf 7)), (0, .ref (qq)), (1, .int (iI (4)))]) hx hb zd_Q_value_95 hl (by decide) rfl (fun ls hl => ?_)
              refine lv_iinc (v := iI (1)) (lv' := [(5, .int (iI (1))), (4, .int (iI (0))), (3, .int (iI (((k : Nat) : Int)))), (2, .ref (rf 7)), (0, .ref (qq)), (1, .int (iI (4)))]) hx hb zd_Q_value_97 hl (k := 1) rfl (by decide) (by decide) rfl (fun ls hl => ?_)
              refine lv_goto (tgt := 51) hx hb zd_Q_value_100 (by decide) ?_
              refine lv_iload hx hb zd_Q_value_51 (lv_at hl 0 rfl) ?_
              refine zi_iconst hx hb zd_Q_value_53 ?_
              refine zi_icmp_ge (tgt := 103) hx hb zd_Q_value_54 (by decide) (by omega) (fun c54 => absurd c54 (by decide)) (fun _ => ?_)
              refine lv_aload_n hx hb zd_Q_value_57 rfl (lv_at hl 4 rfl) ?_
              refine va_get (D := g.1) (ci := 5) (v := .int (iI (at0))) (C := zR_Q) (T := zT_Q) (N := 21) hx hb hw zin_Q hown hK hP 0 rfl rfl 7 (by decide) (hw _ zw_3_205) (fun _ h9 => h9) rfl zd_Q_value_58 ?_
              refine lv_iload hx hb zd_Q_value_61 (lv_at hl 0 rfl) ?_
              refine zi_iadd hx hb zd_Q_value_63 ?_
              refine lv_aload_n hx hb zd_Q_value_64 rfl (lv_at hl 4 rfl) ?_
              refine va_get (D := g.1) (ci := 5) (v := .int (iI (ln))) (C := zR_Q) (T := zT_Q) (N := 21) hx hb hw zin_Q hown hK hP 0 rfl rfl 2 (by decide) (hw _ zw_3_200) (fun _ h9 => h9) rfl zd_Q_value_65 ?_
              refine zi_icmp_ge (tgt := 94) hx hb zd_Q_value_68 (by decide) (by omega) (fun c68 => ?_) (fun c68 => ?_)
              · have mf : ¬ (¬ ln - at0 < 3 ∧ tf at0.toNat = fMon (3 * ((k : Nat) : Int)) ∧ tf (at0 + 1).toNat = fMon (3 * ((k : Nat) : Int) + 1) ∧ tf (at0 + 2).toNat = fMon (3 * ((k : Nat) : Int) + 2)) := by first | exact fun q => absurd q.1 (by omega) | exact fun q => c91 ((zSg_e hcc1 hf1).mpr (by first | exact q.2.2.1 | exact q.2.2.2 | (rw [Int.add_zero, Int.add_zero]; exact q.2.1)))
                refine zi_iconst hx hb zd_Q_value_94 ?_
                refine lv_istore (lv' := [(4, .int (iI (0))), (5, .int (iI (1))), (3, .int (iI (((k : Nat) : Int)))), (2, .ref (rf 7)), (0, .ref (qq)), (1, .int (iI (4)))]) hx hb zd_Q_value_95 hl (by decide) rfl (fun ls hl => ?_)
                refine lv_iinc (v := iI (2)) (lv' := [(5, .int (iI (2))), (4, .int (iI (0))), (3, .int (iI (((k : Nat) : Int)))), (2, .ref (rf 7)), (0, .ref (qq)), (1, .int (iI (4)))]) hx hb zd_Q_value_97 hl (k := 1) rfl (by decide) (by decide) rfl (fun ls hl => ?_)
                refine lv_goto (tgt := 51) hx hb zd_Q_value_100 (by decide) ?_
                refine lv_iload hx hb zd_Q_value_51 (lv_at hl 0 rfl) ?_
                refine zi_iconst hx hb zd_Q_value_53 ?_
                refine zi_icmp_ge (tgt := 103) hx hb zd_Q_value_54 (by decide) (by omega) (fun c54 => absurd c54 (by decide)) (fun _ => ?_)
                refine lv_aload_n hx hb zd_Q_value_57 rfl (lv_at hl 4 rfl) ?_
                refine va_get (D := g.1) (ci := 5) (v := .int (iI (at0))) (C := zR_Q) (T := zT_Q) (N := 21) hx hb hw zin_Q hown hK hP 0 rfl rfl 7 (by decide) (hw _ zw_3_205) (fun _ h9 => h9) rfl zd_Q_value_58 ?_
                refine lv_iload hx hb zd_Q_value_61 (lv_at hl 0 rfl) ?_
                refine zi_iadd hx hb zd_Q_value_63 ?_
                refine lv_aload_n hx hb zd_Q_value_64 rfl (lv_at hl 4 rfl) ?_
                refine va_get (D := g.1) (ci := 5) (v := .int (iI (ln))) (C := zR_Q) (T := zT_Q) (N := 21) hx hb hw zin_Q hown hK hP 0 rfl rfl 2 (by decide) (hw _ zw_3_200) (fun _ h9 => h9) rfl zd_Q_value_65 ?_
                refine zi_icmp_ge (tgt := 94) hx hb zd_Q_value_68 (by decide) (by omega) (fun c68 => ?_) (fun c68 => ?_)
                · have mf : ¬ (¬ ln - at0 < 3 ∧ tf at0.toNat = fMon (3 * ((k : Nat) : Int)) ∧ tf (at0 + 1).toNat = fMon (3 * ((k : Nat) : Int) + 1) ∧ tf (at0 + 2).toNat = fMon (3 * ((k : Nat) : Int) + 2)) := by first | exact fun q => absurd q.1 (by omega) | exact fun q => c91 ((zSg_e hcc2 hf2).mpr (by first | exact q.2.2.1 | exact q.2.2.2 | (rw [Int.add_zero, Int.add_zero]; exact q.2.1)))
                  refine zi_iconst hx hb zd_Q_value_94 ?_
                  refine lv_istore (lv' := [(4, .int (iI (0))), (5, .int (iI (2))), (3, .int (iI (((k : Nat) : Int)))), (2, .ref (rf 7)), (0, .ref (qq)), (1, .int (iI (4)))]) hx hb zd_Q_value_95 hl (by decide) rfl (fun ls hl => ?_)
                  refine lv_iinc (v := iI (3)) (lv' := [(5, .int (iI (3))), (4, .int (iI (0))), (3, .int (iI (((k : Nat) : Int)))), (2, .ref (rf 7)), (0, .ref (qq)), (1, .int (iI (4)))]) hx hb zd_Q_value_97 hl (k := 1) rfl (by decide) (by decide) rfl (fun ls hl => ?_)
                  refine lv_goto (tgt := 51) hx hb zd_Q_value_100 (by decide) ?_
                  refine lv_iload hx hb zd_Q_value_51 (lv_at hl 0 rfl) ?_
                  refine zi_iconst hx hb zd_Q_value_53 ?_
                  refine zi_icmp_ge (tgt := 103) hx hb zd_Q_value_54 (by decide) (by omega) (fun _ => ?_) (fun c54 => absurd c54 (by decide))
                  refine lv_iload hx hb zd_Q_value_103 (lv_at hl 1 rfl) ?_
                  refine zi_if_ne (tgt := 111) hx hb zd_Q_value_105 (by decide) (by omega) (fun c105 => absurd c105 (by decide)) (fun _ => ?_)
                  refine lv_goto (tgt := 125) hx hb zd_Q_value_108 (by decide) ?_
                  refine lv_iinc (v := iI (((k : Nat) : Int) + 1)) (lv' := [(3, .int (iI (((k : Nat) : Int) + 1))), (5, .int (iI (3))), (4, .int (iI (0))), (2, .ref (rf 7)), (0, .ref (qq)), (1, .int (iI (4)))]) hx hb zd_Q_value_125 hl (k := 2) rfl (iI_add _ _) (by decide) rfl (fun ls hl => ?_)
                  refine lv_goto (tgt := 39) hx hb zd_Q_value_128 (by decide) ?_
                  exact ih (k + 1) H locs ls (by omega) (nmF_go (by omega) hF mf) (by omega) hP hD hS (lv_sub hl [0, 3, 4, 5] rfl)
                · refine lv_aload_n hx hb zd_Q_value_71 rfl (lv_at hl 4 rfl) ?_
                  refine va_get (D := g.1) (ci := 5) (v := .ref (rf 0)) (C := zR_Q) (T := zT_Q) (N := 21) hx hb hw zin_Q hown hK hP 0 rfl rfl 1 (by decide) (hw _ zw_3_199) (fun _ h9 => h9) rfl zd_Q_value_72 ?_
                  refine lv_aload_n hx hb zd_Q_value_75 rfl (lv_at hl 4 rfl) ?_
                  refine va_get (D := g.1) (ci := 5) (v := .int (iI (at0))) (C := zR_Q) (T := zT_Q) (N := 21) hx hb hw zin_Q hown hK hP 0 rfl rfl 7 (by decide) (hw _ zw_3_205) (fun _ h9 => h9) rfl zd_Q_value_76 ?_
                  refine lv_iload hx hb zd_Q_value_79 (lv_at hl 0 rfl) ?_
                  refine zi_iadd hx hb zd_Q_value_81 ?_
                  refine zi_bald hx hb hK hP 1 3 rfl rfl (by omega) zd_Q_value_82 ?_
                  have hsg2 := zSg_rg (tf := tf) (i := (at0 + 2).toNat) (hch _)
                  have hcc2 := hch (at0 + 2).toNat
                  refine lv_aload_n hx hb zd_Q_value_83 rfl (lv_at hl 3 rfl) ?_
                  refine lv_iload_n hx hb zd_Q_value_84 rfl (lv_at hl 2 rfl) ?_
                  refine zi_aaldS (k := k) hx hb hK hP 2 8 rfl rfl (by omega) (Int.toNat_natCast _) zd_Q_value_85 ?_
                  refine lv_iload hx hb zd_Q_value_86 (lv_at hl 0 rfl) ?_
                  refine zk_V (As := [.int (iI (2))]) (b := mq k) (own := "CronFinderModel") (nL := 6) (rest := [.int (iI (((zSg tf)) (at0 + 2).toNat))]) hx hb hml hown hw (c_S_charAt l g (mq k) (mv k) 3 (fun i => fMon (3 * ((k : Nat) : Int) + i)) (2) (by omega) (fun j hj => fMon_rg _ (by omega))) zw_4_85 zw_2_113 zw_2_114 zw_1_15 zw_2_115 (np := 1) (by decide +kernel) rfl ⟨rfl, rfl, Nat.le_of_ble_eq_true rfl, Nat.le_of_ble_eq_true rfl⟩ (zStr_mv (mq k) (mv k) 3 (fun i => fMon (3 * ((k : Nat) : Int) + i)) _) hK (zStr_nar (B := fun _ => False) (zStr_now (hT.2.2.1 k (by omega)) hS) (fun _ h => h.elim)) (hP.sub (ws' := []) [] rfl) (zStr_recv (zStr_nar (B := fun _ => False) (zStr_now (hT.2.2.1 k (by omega)) hS) (fun _ h => h.elim))) hl.1 rfl (Nat.le_of_ble_eq_true rfl) ⟨Nat.zero_le _, Nat.zero_le _⟩ zd_Q_value_88 ?_
                  refine zi_as (fMon (3 * ((k : Nat) : Int) + 2)) rfl ?_
                  have hf2 := fMon_rg (3 * ((k : Nat) : Int) + 2) (by omega)
                  refine zi_icmp_eq (tgt := 97) hx hb zd_Q_value_91 (by decide) (by omega) (fun c91 => ?_) (fun c91 => ?_)
                  · refine lv_iinc (v := iI (3)) (lv' := [(5, .int (iI (3))), (4, .int (iI (0))), (3, .int (iI (((k : Nat) : Int)))), (2, .ref (rf 7)), (0, .ref (qq)), (1, .int (iI (4)))]) hx hb zd_Q_value_97 hl (k := 0) rfl (by decide) (by decide) rfl (fun ls hl => ?_)
                    refine lv_goto (tgt := 51) hx hb zd_Q_value_100 (by decide) ?_
                    refine lv_iload hx hb zd_Q_value_51 (lv_at hl 0 rfl) ?_
                    refine zi_iconst hx hb zd_Q_value_53 ?_
                    refine zi_icmp_ge (tgt := 103) hx hb zd_Q_value_54 (by decide) (by omega) (fun _ => ?_) (fun c54 => absurd c54 (by decide))
                    refine lv_iload hx hb zd_Q_value_103 (lv_at hl 1 rfl) ?_
                    refine zi_if_ne (tgt := 111) hx hb zd_Q_value_105 (by decide) (by omega) (fun c105 => absurd c105 (by decide)) (fun _ => ?_)
                    refine lv_goto (tgt := 125) hx hb zd_Q_value_108 (by decide) ?_
                    refine lv_iinc (v := iI (((k : Nat) : Int) + 1)) (lv' := [(3, .int (iI (((k : Nat) : Int) + 1))), (5, .int (iI (3))), (4, .int (iI (0))), (2, .ref (rf 7)), (0, .ref (qq)), (1, .int (iI (4)))]) hx hb zd_Q_value_125 hl (k := 2) rfl (iI_add _ _) (by decide) rfl (fun ls hl => ?_)
                    refine lv_goto (tgt := 39) hx hb zd_Q_value_128 (by decide) ?_
                    exact ih (k + 1) H locs ls (by omega) (nmF_go (by omega) hF mf) (by omega) hP hD hS (lv_sub hl [0, 3, 4, 5] rfl)
                  · have mf : ¬ (¬ ln - at0 < 3 ∧ tf at0.toNat = fMon (3 * ((k : Nat) : Int)) ∧ tf (at0 + 1).toNat = fMon (3 * ((k : Nat) : Int) + 1) ∧ tf (at0 + 2).toNat = fMon (3 * ((k : Nat) : Int) + 2)) := by first | exact fun q => absurd q.1 (by omega) | exact fun q => c91 ((zSg_e hcc2 hf2).mpr (by first | exact q.2.2.1 | exact q.2.2.2 | (rw [Int.add_zero, Int.add_zero]; exact q.2.1)))
                    refine zi_iconst hx hb zd_Q_value_94 ?_
                    refine lv_istore (lv' := [(4, .int (iI (0))), (5, .int (iI (2))), (3, .int (iI (((k : Nat) : Int)))), (2, .ref (rf 7)), (0, .ref (qq)), (1, .int (iI (4)))]) hx hb zd_Q_value_95 hl (by decide) rfl (fun ls hl => ?_)
                    refine lv_iinc (v := iI (3)) (lv' := [(5, .int (iI (3))), (4, .int (iI (0))), (3, .int (iI (((k : Nat) : Int)))), (2, .ref (rf 7)), (0, .ref (qq)), (1, .int (iI (4)))]) hx hb zd_Q_value_97 hl (k := 1) rfl (by decide) (by decide) rfl (fun ls hl => ?_)
                    refine lv_goto (tgt := 51) hx hb zd_Q_value_100 (by decide) ?_
                    refine lv_iload hx hb zd_Q_value_51 (lv_at hl 0 rfl) ?_
                    refine zi_iconst hx hb zd_Q_value_53 ?_
                    refine zi_icmp_ge (tgt := 103) hx hb zd_Q_value_54 (by decide) (by omega) (fun _ => ?_) (fun c54 => absurd c54 (by decide))
                    refine lv_iload hx hb zd_Q_value_103 (lv_at hl 1 rfl) ?_
                    refine zi_if_ne (tgt := 111) hx hb zd_Q_value_105 (by decide) (by omega) (fun c105 => absurd c105 (by decide)) (fun _ => ?_)
                    refine lv_goto (tgt := 125) hx hb zd_Q_value_108 (by decide) ?_
                    refine lv_iinc (v := iI (((k : Nat) : Int) + 1)) (lv' := [(3, .int (iI (((k : Nat) : Int) + 1))), (5, .int (iI (3))), (4, .int (iI (0))), (2, .ref (rf 7)), (0, .ref (qq)), (1, .int (iI (4)))]) hx hb zd_Q_value_125 hl (k := 2) rfl (iI_add _ _) (by decide) rfl (fun ls hl => ?_)
                    refine lv_goto (tgt := 39) hx hb zd_Q_value_128 (by decide) ?_
                    exact ih (k + 1) H locs ls (by omega) (nmF_go (by omega) hF mf) (by omega) hP hD hS (lv_sub hl [0, 3, 4, 5] rfl)
              · refine lv_aload_n hx hb zd_Q_value_71 rfl (lv_at hl 4 rfl) ?_
                refine va_get (D := g.1) (ci := 5) (v := .ref (rf 0)) (C := zR_Q) (T := zT_Q) (N := 21) hx hb hw zin_Q hown hK hP 0 rfl rfl 1 (by decide) (hw _ zw_3_199) (fun _ h9 => h9) rfl zd_Q_value_72 ?_
                refine lv_aload_n hx hb zd_Q_value_75 rfl (lv_at hl 4 rfl) ?_
                refine va_get (D := g.1) (ci := 5) (v := .int (iI (at0))) (C := zR_Q) (T := zT_Q) (N := 21) hx hb hw zin_Q hown hK hP 0 rfl rfl 7 (by decide) (hw _ zw_3_205) (fun _ h9 => h9) rfl zd_Q_value_76 ?_
                refine lv_iload hx hb zd_Q_value_79 (lv_at hl 0 rfl) ?_
                refine zi_iadd hx hb zd_Q_value_81 ?_
                refine zi_bald hx hb hK hP 1 3 rfl rfl (by omega) zd_Q_value_82 ?_
                have hsg1 := zSg_rg (tf := tf) (i := (at0 + 1).toNat) (hch _)
                have hcc1 := hch (at0 + 1).toNat
                refine lv_aload_n hx hb zd_Q_value_83 rfl (lv_at hl 3 rfl) ?_
                refine lv_iload_n hx hb zd_Q_value_84 rfl (lv_at hl 2 rfl) ?_
                refine zi_aaldS (k := k) hx hb hK hP 2 8 rfl rfl (by omega) (Int.toNat_natCast _) zd_Q_value_85 ?_
                refine lv_iload hx hb zd_Q_value_86 (lv_at hl 0 rfl) ?_
                refine zk_V (As := [.int (iI (1))]) (b := mq k) (own := "CronFinderModel") (nL := 6) (rest := [.int (iI (((zSg tf)) (at0 + 1).toNat))]) hx hb hml hown hw (c_S_charAt l g (mq k) (mv k) 3 (fun i => fMon (3 * ((k : Nat) : Int) + i)) (1) (by omega) (fun j hj => fMon_rg _ (by omega))) zw_4_85 zw_2_113 zw_2_114 zw_1_15 zw_2_115 (np := 1) (by decide +kernel) rfl ⟨rfl, rfl, Nat.le_of_ble_eq_true rfl, Nat.le_of_ble_eq_true rfl⟩ (zStr_mv (mq k) (mv k) 3 (fun i => fMon (3 * ((k : Nat) : Int) + i)) _) hK (zStr_nar (B := fun _ => False) (zStr_now (hT.2.2.1 k (by omega)) hS) (fun _ h => h.elim)) (hP.sub (ws' := []) [] rfl) (zStr_recv (zStr_nar (B := fun _ => False) (zStr_now (hT.2.2.1 k (by omega)) hS) (fun _ h => h.elim))) hl.1 rfl (Nat.le_of_ble_eq_true rfl) ⟨Nat.zero_le _, Nat.zero_le _⟩ zd_Q_value_88 ?_
                refine zi_as (fMon (3 * ((k : Nat) : Int) + 1)) rfl ?_
                have hf1 := fMon_rg (3 * ((k : Nat) : Int) + 1) (by omega)
                refine zi_icmp_eq (tgt := 97) hx hb zd_Q_value_91 (by decide) (by omega) (fun c91 => ?_) (fun c91 => ?_)
                · refine lv_iinc (v := iI (2)) (lv' := [(5, .int (iI (2))), (4, .int (iI (0))), (3, .int (iI (((k : Nat) : Int)))), (2, .ref (rf 7)), (0, .ref (qq)), (1, .int (iI (4)))]) hx hb zd_Q_value_97 hl (k := 0) rfl (by decide) (by decide) rfl (fun ls hl => ?_)
                  refine lv_goto (tgt := 51) hx hb zd_Q_value_100 (by decide) ?_
                  refine lv_iload hx hb zd_Q_value_51 (lv_at hl 0 rfl) ?_
                  refine zi_iconst hx hb zd_Q_value_53 ?_
                  refine zi_icmp_ge (tgt := 103) hx hb zd_Q_value_54 (by decide) (by omega) (fun c54 => absurd c54 (by decide)) (fun _ => ?_)
                  refine lv_aload_n hx hb zd_Q_value_57 rfl (lv_at hl 4 rfl) ?_
                  refine va_get (D := g.1) (ci := 5) (v := .int (iI (at0))) (C := zR_Q) (T := zT_Q) (N := 21) hx hb hw zin_Q hown hK hP 0 rfl rfl 7 (by decide) (hw _ zw_3_205) (fun _ h9 => h9) rfl zd_Q_value_58 ?_
                  refine lv_iload hx hb zd_Q_value_61 (lv_at hl 0 rfl) ?_
                  refine zi_iadd hx hb zd_Q_value_63 ?_
                  refine lv_aload_n hx hb zd_Q_value_64 rfl (lv_at hl 4 rfl) ?_
                  refine va_get (D := g.1) (ci := 5) (v := .int (iI (ln))) (C := zR_Q) (T := zT_Q) (N := 21) hx hb hw zin_Q hown hK hP 0 rfl rfl 2 (by decide) (hw _ zw_3_200) (fun _ h9 => h9) rfl zd_Q_value_65 ?_
                  refine zi_icmp_ge (tgt := 94) hx hb zd_Q_value_68 (by decide) (by omega) (fun c68 => ?_) (fun c68 => ?_)
                  · have mf : ¬ (¬ ln - at0 < 3 ∧ tf at0.toNat = fMon (3 * ((k : Nat) : Int)) ∧ tf (at0 + 1).toNat = fMon (3 * ((k : Nat) : Int) + 1) ∧ tf (at0 + 2).toNat = fMon (3 * ((k : Nat) : Int) + 2)) := by first | exact fun q => absurd q.1 (by omega) | exact fun q => c91 ((zSg_e hcc2 hf2).mpr (by first | exact q.2.2.1 | exact q.2.2.2 | (rw [Int.add_zero, Int.add_zero]; exact q.2.1)))
                    refine zi_iconst hx hb zd_Q_value_94 ?_
                    refine lv_istore (lv' := [(4, .int (iI (0))), (5, .int (iI (2))), (3, .int (iI (((k : Nat) : Int)))), (2, .ref (rf 7)), (0, .ref (qq)), (1, .int (iI (4)))]) hx hb zd_Q_value_95 hl (by decide) rfl (fun ls hl => ?_)
                    refine lv_iinc (v := iI (3)) (lv' := [(5, .int (iI (3))), (4, .int (iI (0))), (3, .int (iI (((k : Nat) : Int)))), (2, .ref (rf 7)), (0, .ref (qq)), (1, .int (iI (4)))]) hx hb zd_Q_value_97 hl (k := 1) rfl (by decide) (by decide) rfl (fun ls hl => ?_)
                    refine lv_goto (tgt := 51) hx hb zd_Q_value_100 (by decide) ?_
                    refine lv_iload hx hb zd_Q_value_51 (lv_at hl 0 rfl) ?_
                    refine zi_iconst hx hb zd_Q_value_53 ?_
                    refine zi_icmp_ge (tgt := 103) hx hb zd_Q_value_54 (by decide) (by omega) (fun _ => ?_) (fun c54 => absurd c54 (by decide))
                    refine lv_iload hx hb zd_Q_value_103 (lv_at hl 1 rfl) ?_
                    refine zi_if_ne (tgt := 111) hx hb zd_Q_value_105 (by decide) (by omega) (fun c105 => absurd c105 (by decide)) (fun _ => ?_)
                    refine lv_goto (tgt := 125) hx hb zd_Q_value_108 (by decide) ?_
                    refine lv_iinc (v := iI (((k : Nat) : Int) + 1)) (lv' := [(3, .int (iI (((k : Nat) : Int) + 1))), (5, .int (iI (3))), (4, .int (iI (0))), (2, .ref (rf 7)), (0, .ref (qq)), (1, .int (iI (4)))]) hx hb zd_Q_value_125 hl (k := 2) rfl (iI_add _ _) (by decide) rfl (fun ls hl => ?_)
                    refine lv_goto (tgt := 39) hx hb zd_Q_value_128 (by decide) ?_
                    exact ih (k + 1) H locs ls (by omega) (nmF_go (by omega) hF mf) (by omega) hP hD hS (lv_sub hl [0, 3, 4, 5] rfl)
                  · refine lv_aload_n hx hb zd_Q_value_71 rfl (lv_at hl 4 rfl) ?_
                    refine va_get (D := g.1) (ci := 5) (v := .ref (rf 0)) (C := zR_Q) (T := zT_Q) (N := 21) hx hb hw zin_Q hown hK hP 0 rfl rfl 1 (by decide) (hw _ zw_3_199) (fun _ h9 => h9) rfl zd_Q_value_72 ?_
                    refine lv_aload_n hx hb zd_Q_value_75 rfl (lv_at hl 4 rfl) ?_
                    refine va_get (D := g.1) (ci := 5) (v := .int (iI (at0))) (C := zR_Q) (T := zT_Q) (N := 21) hx hb hw zin_Q hown hK hP 0 rfl rfl 7 (by decide) (hw _ zw_3_205) (fun _ h9 => h9) rfl zd_Q_value_76 ?_
                    refine lv_iload hx hb zd_Q_value_79 (lv_at hl 0 rfl) ?_
                    refine zi_iadd hx hb zd_Q_value_81 ?_
                    refine zi_bald hx hb hK hP 1 3 rfl rfl (by omega) zd_Q_value_82 ?_
                    have hsg2 := zSg_rg (tf := tf) (i := (at0 + 2).toNat) (hch _)
                    have hcc2 := hch (at0 + 2).toNat
                    refine lv_aload_n hx hb zd_Q_value_83 rfl (lv_at hl 3 rfl) ?_
                    refine lv_iload_n hx hb zd_Q_value_84 rfl (lv_at hl 2 rfl) ?_
                    refine zi_aaldS (k := k) hx hb hK hP 2 8 rfl rfl (by omega) (Int.toNat_natCast _) zd_Q_value_85 ?_
                    refine lv_iload hx hb zd_Q_value_86 (lv_at hl 0 rfl) ?_
                    refine zk_V (As := [.int (iI (2))]) (b := mq k) (own := "CronFinderModel") (nL := 6) (rest := [.int (iI (((zSg tf)) (at0 + 2).toNat))]) hx hb hml hown hw (c_S_charAt l g (mq k) (mv k) 3 (fun i => fMon (3 * ((k : Nat) : Int) + i)) (2) (by omega) (fun j hj => fMon_rg _ (by omega))) zw_4_85 zw_2_113 zw_2_114 zw_1_15 zw_2_115 (np := 1) (by decide +kernel) rfl ⟨rfl, rfl, Nat.le_of_ble_eq_true rfl, Nat.le_of_ble_eq_true rfl⟩ (zStr_mv (mq k) (mv k) 3 (fun i => fMon (3 * ((k : Nat) : Int) + i)) _) hK (zStr_nar (B := fun _ => False) (zStr_now (hT.2.2.1 k (by omega)) hS) (fun _ h => h.elim)) (hP.sub (ws' := []) [] rfl) (zStr_recv (zStr_nar (B := fun _ => False) (zStr_now (hT.2.2.1 k (by omega)) hS) (fun _ h => h.elim))) hl.1 rfl (Nat.le_of_ble_eq_true rfl) ⟨Nat.zero_le _, Nat.zero_le _⟩ zd_Q_value_88 ?_
                    refine zi_as (fMon (3 * ((k : Nat) : Int) + 2)) rfl ?_
                    have hf2 := fMon_rg (3 * ((k : Nat) : Int) + 2) (by omega)
                    refine zi_icmp_eq (tgt := 97) hx hb zd_Q_value_91 (by decide) (by omega) (fun c91 => ?_) (fun c91 => ?_)
                    · refine lv_iinc (v := iI (3)) (lv' := [(5, .int (iI (3))), (4, .int (iI (0))), (3, .int (iI (((k : Nat) : Int)))), (2, .ref (rf 7)), (0, .ref (qq)), (1, .int (iI (4)))]) hx hb zd_Q_value_97 hl (k := 0) rfl (by decide) (by decide) rfl (fun ls hl => ?_)
                      refine lv_goto (tgt := 51) hx hb zd_Q_value_100 (by decide) ?_
                      refine lv_iload hx hb zd_Q_value_51 (lv_at hl 0 rfl) ?_
                      refine zi_iconst hx hb zd_Q_value_53 ?_
                      refine zi_icmp_ge (tgt := 103) hx hb zd_Q_value_54 (by decide) (by omega) (fun _ => ?_) (fun c54 => absurd c54 (by decide))
                      refine lv_iload hx hb zd_Q_value_103 (lv_at hl 1 rfl) ?_
                      refine zi_if_ne (tgt := 111) hx hb zd_Q_value_105 (by decide) (by omega) (fun c105 => absurd c105 (by decide)) (fun _ => ?_)
                      refine lv_goto (tgt := 125) hx hb zd_Q_value_108 (by decide) ?_
                      refine lv_iinc (v := iI (((k : Nat) : Int) + 1)) (lv' := [(3, .int (iI (((k : Nat) : Int) + 1))), (5, .int (iI (3))), (4, .int (iI (0))), (2, .ref (rf 7)), (0, .ref (qq)), (1, .int (iI (4)))]) hx hb zd_Q_value_125 hl (k := 2) rfl (iI_add _ _) (by decide) rfl (fun ls hl => ?_)
                      refine lv_goto (tgt := 39) hx hb zd_Q_value_128 (by decide) ?_
                      exact ih (k + 1) H locs ls (by omega) (nmF_go (by omega) hF mf) (by omega) hP hD hS (lv_sub hl [0, 3, 4, 5] rfl)
                    · have mf : ¬ (¬ ln - at0 < 3 ∧ tf at0.toNat = fMon (3 * ((k : Nat) : Int)) ∧ tf (at0 + 1).toNat = fMon (3 * ((k : Nat) : Int) + 1) ∧ tf (at0 + 2).toNat = fMon (3 * ((k : Nat) : Int) + 2)) := by first | exact fun q => absurd q.1 (by omega) | exact fun q => c91 ((zSg_e hcc2 hf2).mpr (by first | exact q.2.2.1 | exact q.2.2.2 | (rw [Int.add_zero, Int.add_zero]; exact q.2.1)))
                      refine zi_iconst hx hb zd_Q_value_94 ?_
                      refine lv_istore (lv' := [(4, .int (iI (0))), (5, .int (iI (2))), (3, .int (iI (((k : Nat) : Int)))), (2, .ref (rf 7)), (0, .ref (qq)), (1, .int (iI (4)))]) hx hb zd_Q_value_95 hl (by decide) rfl (fun ls hl => ?_)
                      refine lv_iinc (v := iI (3)) (lv' := [(5, .int (iI (3))), (4, .int (iI (0))), (3, .int (iI (((k : Nat) : Int)))), (2, .ref (rf 7)), (0, .ref (qq)), (1, .int (iI (4)))]) hx hb zd_Q_value_97 hl (k := 1) rfl (by decide) (by decide) rfl (fun ls hl => ?_)
                      refine lv_goto (tgt := 51) hx hb zd_Q_value_100 (by decide) ?_
                      refine lv_iload hx hb zd_Q_value_51 (lv_at hl 0 rfl) ?_
                      refine zi_iconst hx hb zd_Q_value_53 ?_
                      refine zi_icmp_ge (tgt := 103) hx hb zd_Q_value_54 (by decide) (by omega) (fun _ => ?_) (fun c54 => absurd c54 (by decide))
                      refine lv_iload hx hb zd_Q_value_103 (lv_at hl 1 rfl) ?_
                      refine zi_if_ne (tgt := 111) hx hb zd_Q_value_105 (by decide) (by omega) (fun c105 => absurd c105 (by decide)) (fun _ => ?_)
                      refine lv_goto (tgt := 125) hx hb zd_Q_value_108 (by decide) ?_
                      refine lv_iinc (v := iI (((k : Nat) : Int) + 1)) (lv' := [(3, .int (iI (((k : Nat) : Int) + 1))), (5, .int (iI (3))), (4, .int (iI (0))), (2, .ref (rf 7)), (0, .ref (qq)), (1, .int (iI (4)))]) hx hb zd_Q_value_125 hl (k := 2) rfl (iI_add _ _) (by decide) rfl (fun ls hl => ?_)
                      refine lv_goto (tgt := 39) hx hb zd_Q_value_128 (by decide) ?_
                      exact ih (k + 1) H locs ls (by omega) (nmF_go (by omega) hF mf) (by omega) hP hD hS (lv_sub hl [0, 3, 4, 5] rfl)
                · have mf : ¬ (¬ ln - at0 < 3 ∧ tf at0.toNat = fMon (3 * ((k : Nat) : Int)) ∧ tf (at0 + 1).toNat = fMon (3 * ((k : Nat) : Int) + 1) ∧ tf (at0 + 2).toNat = fMon (3 * ((k : Nat) : Int) + 2)) := by first | exact fun q => absurd q.1 (by omega) | exact fun q => c91 ((zSg_e hcc1 hf1).mpr (by first | exact q.2.2.1 | exact q.2.2.2 | (rw [Int.add_zero, Int.add_zero]; exact q.2.1)))
                  refine zi_iconst hx hb zd_Q_value_94 ?_
                  refine lv_istore (lv' := [(4, .int (iI (0))), (5, .int (iI (1))), (3, .int (iI (((k : Nat) : Int)))), (2, .ref (rf 7)), (0, .ref (qq)), (1, .int (iI (4)))]) hx hb zd_Q_value_95 hl (by decide) rfl (fun ls hl => ?_)
                  refine lv_iinc (v := iI (2)) (lv' := [(5, .int (iI (2))), (4, .int (iI (0))), (3, .int (iI (((k : Nat) : Int)))), (2, .ref (rf 7)), (0, .ref (qq)), (1, .int (iI (4)))]) hx hb zd_Q_value_97 hl (k := 1) rfl (by decide) (by decide) rfl (fun ls hl => ?_)
                  refine lv_goto (tgt := 51) hx hb zd_Q_value_100 (by decide) ?_
                  refine lv_iload hx hb zd_Q_value_51 (lv_at hl 0 rfl) ?_
                  refine zi_iconst hx hb zd_Q_value_53 ?_
                  refine zi_icmp_ge (tgt := 103) hx hb zd_Q_value_54 (by decide) (by omega) (fun c54 => absurd c54 (by decide)) (fun _ => ?_)
                  refine lv_aload_n hx hb zd_Q_value_57 rfl (lv_at hl 4 rfl) ?_
                  refine va_get (D := g.1) (ci := 5) (v := .int (iI (at0))) (C := zR_Q) (T := zT_Q) (N := 21) hx hb hw zin_Q hown hK hP 0 rfl rfl 7 (by decide) (hw _ zw_3_205) (fun _ h9 => h9) rfl zd_Q_value_58 ?_
                  refine lv_iload hx hb zd_Q_value_61 (lv_at hl 0 rfl) ?_
                  refine zi_iadd hx hb zd_Q_value_63 ?_
                  refine lv_aload_n hx hb zd_Q_value_64 rfl (lv_at hl 4 rfl) ?_
                  refine va_get (D := g.1) (ci := 5) (v := .int (iI (ln))) (C := zR_Q) (T := zT_Q) (N := 21) hx hb hw zin_Q hown hK hP 0 rfl rfl 2 (by decide) (hw _ zw_3_200) (fun _ h9 => h9) rfl zd_Q_value_65 ?_
                  refine zi_icmp_ge (tgt := 94) hx hb zd_Q_value_68 (by decide) (by omega) (fun c68 => ?_) (fun c68 => ?_)
                  · have mf : ¬ (¬ ln - at0 < 3 ∧ tf at0.toNat = fMon (3 * ((k : Nat) : Int)) ∧ tf (at0 + 1).toNat = fMon (3 * ((k : Nat) : Int) + 1) ∧ tf (at0 + 2).toNat = fMon (3 * ((k : Nat) : Int) + 2)) := by first | exact fun q => absurd q.1 (by omega) | exact fun q => c91 ((zSg_e hcc2 hf2).mpr (by first | exact q.2.2.1 | exact q.2.2.2 | (rw [Int.add_zero, Int.add_zero]; exact q.2.1)))
                    refine zi_iconst hx hb zd_Q_value_94 ?_
                    refine lv_istore (lv' := [(4, .int (iI (0))), (5, .int (iI (2))), (3, .int (iI (((k : Nat) : Int)))), (2, .ref (rf 7)), (0, .ref (qq)), (1, .int (iI (4)))]) hx hb zd_Q_value_95 hl (by decide) rfl (fun ls hl => ?_)
                    refine lv_iinc (v := iI (3)) (lv' := [(5, .int (iI (3))), (4, .int (iI (0))), (3, .int (iI (((k : Nat) : Int)))), (2, .ref (rf 7)), (0, .ref (qq)), (1, .int (iI (4)))]) hx hb zd_Q_value_97 hl (k := 1) rfl (by decide) (by decide) rfl (fun ls hl => ?_)
                    refine lv_goto (tgt := 51) hx hb zd_Q_value_100 (by decide) ?_
                    refine lv_iload hx hb zd_Q_value_51 (lv_at hl 0 rfl) ?_
                    refine zi_iconst hx hb zd_Q_value_53 ?_
                    refine zi_icmp_ge (tgt := 103) hx hb zd_Q_value_54 (by decide) (by omega) (fun _ => ?_) (fun c54 => absurd c54 (by decide))
                    refine lv_iload hx hb zd_Q_value_103 (lv_at hl 1 rfl) ?_
                    refine zi_if_ne (tgt := 111) hx hb zd_Q_value_105 (by decide) (by omega) (fun c105 => absurd c105 (by decide)) (fun _ => ?_)
                    refine lv_goto (tgt := 125) hx hb zd_Q_value_108 (by decide) ?_
                    refine lv_iinc (v := iI (((k : Nat) : Int) + 1)) (lv' := [(3, .int (iI (((k : Nat) : Int) + 1))), (5, .int (iI (3))), (4, .int (iI (0))), (2, .ref (rf 7)), (0, .ref (qq)), (1, .int (iI (4)))]) hx hb zd_Q_value_125 hl (k := 2) rfl (iI_add _ _) (by decide) rfl (fun ls hl => ?_)
                    refine lv_goto (tgt := 39) hx hb zd_Q_value_128 (by decide) ?_
                    exact ih (k + 1) H locs ls (by omega) (nmF_go (by omega) hF mf) (by omega) hP hD hS (lv_sub hl [0, 3, 4, 5] rfl)
                  · refine lv_aload_n hx hb zd_Q_value_71 rfl (lv_at hl 4 rfl) ?_
                    refine va_get (D := g.1) (ci := 5) (v := .ref (rf 0)) (C := zR_Q) (T := zT_Q) (N := 21) hx hb hw zin_Q hown hK hP 0 rfl rfl 1 (by decide) (hw _ zw_3_199) (fun _ h9 => h9) rfl zd_Q_value_72 ?_
                    refine lv_aload_n hx hb zd_Q_value_75 rfl (lv_at hl 4 rfl) ?_
                    refine va_get (D := g.1) (ci := 5) (v := .int (iI (at0))) (C := zR_Q) (T := zT_Q) (N := 21) hx hb hw zin_Q hown hK hP 0 rfl rfl 7 (by decide) (hw _ zw_3_205) (fun _ h9 => h9) rfl zd_Q_value_76 ?_
                    refine lv_iload hx hb zd_Q_value_79 (lv_at hl 0 rfl) ?_
                    refine zi_iadd hx hb zd_Q_value_81 ?_
                    refine zi_bald hx hb hK hP 1 3 rfl rfl (by omega) zd_Q_value_82 ?_
                    have hsg2 := zSg_rg (tf := tf) (i := (at0 + 2).toNat) (hch _)
                    have hcc2 := hch (at0 + 2).toNat
                    refine lv_aload_n hx hb zd_Q_value_83 rfl (lv_at hl 3 rfl) ?_
                    refine lv_iload_n hx hb zd_Q_value_84 rfl (lv_at hl 2 rfl) ?_
                    refine zi_aaldS (k := k) hx hb hK hP 2 8 rfl rfl (by omega) (Int.toNat_natCast _) zd_Q_value_85 ?_
                    refine lv_iload hx hb zd_Q_value_86 (lv_at hl 0 rfl) ?_
                    refine zk_V (As := [.int (iI (2))]) (b := mq k) (own := "CronFinderModel") (nL := 6) (rest := [.int (iI (((zSg tf)) (at0 + 2).toNat))]) hx hb hml hown hw (c_S_charAt l g (mq k) (mv k) 3 (fun i => fMon (3 * ((k : Nat) : Int) + i)) (2) (by omega) (fun j hj => fMon_rg _ (by omega))) zw_4_85 zw_2_113 zw_2_114 zw_1_15 zw_2_115 (np := 1) (by decide +kernel) rfl ⟨rfl, rfl, Nat.le_of_ble_eq_true rfl, Nat.le_of_ble_eq_true rfl⟩ (zStr_mv (mq k) (mv k) 3 (fun i => fMon (3 * ((k : Nat) : Int) + i)) _) hK (zStr_nar (B := fun _ => False) (zStr_now (hT.2.2.1 k (by omega)) hS) (fun _ h => h.elim)) (hP.sub (ws' := []) [] rfl) (zStr_recv (zStr_nar (B := fun _ => False) (zStr_now (hT.2.2.1 k (by omega)) hS) (fun _ h => h.elim))) hl.1 rfl (Nat.le_of_ble_eq_true rfl) ⟨Nat.zero_le _, Nat.zero_le _⟩ zd_Q_value_88 ?_
                    refine zi_as (fMon (3 * ((k : Nat) : Int) + 2)) rfl ?_
                    have hf2 := fMon_rg (3 * ((k : Nat) : Int) + 2) (by omega)
                    refine zi_icmp_eq (tgt := 97) hx hb zd_Q_value_91 (by decide) (by omega) (fun c91 => ?_) (fun c91 => ?_)
                    · refine lv_iinc (v := iI (3)) (lv' := [(5, .int (iI (3))), (4, .int (iI (0))), (3, .int (iI (((k : Nat) : Int)))), (2, .ref (rf 7)), (0, .ref (qq)), (1, .int (iI (4)))]) hx hb zd_Q_value_97 hl (k := 0) rfl (by decide) (by decide) rfl (fun ls hl => ?_)
                      refine lv_goto (tgt := 51) hx hb zd_Q_value_100 (by decide) ?_
                      refine lv_iload hx hb zd_Q_value_51 (lv_at hl 0 rfl) ?_
                      refine zi_iconst hx hb zd_Q_value_53 ?_
                      refine zi_icmp_ge (tgt := 103) hx hb zd_Q_value_54 (by decide) (by omega) (fun _ => ?_) (fun c54 => absurd c54 (by decide))
                      refine lv_iload hx hb zd_Q_value_103 (lv_at hl 1 rfl) ?_
                      refine zi_if_ne (tgt := 111) hx hb zd_Q_value_105 (by decide) (by omega) (fun c105 => absurd c105 (by decide)) (fun _ => ?_)
                      refine lv_goto (tgt := 125) hx hb zd_Q_value_108 (by decide) ?_
                      refine lv_iinc (v := iI (((k : Nat) : Int) + 1)) (lv' := [(3, .int (iI (((k : Nat) : Int) + 1))), (5, .int (iI (3))), (4, .int (iI (0))), (2, .ref (rf 7)), (0, .ref (qq)), (1, .int (iI (4)))]) hx hb zd_Q_value_125 hl (k := 2) rfl (iI_add _ _) (by decide) rfl (fun ls hl => ?_)
                      refine lv_goto (tgt := 39) hx hb zd_Q_value_128 (by decide) ?_
                      exact ih (k + 1) H locs ls (by omega) (nmF_go (by omega) hF mf) (by omega) hP hD hS (lv_sub hl [0, 3, 4, 5] rfl)
                    · have mf : ¬ (¬ ln - at0 < 3 ∧ tf at0.toNat = fMon (3 * ((k : Nat) : Int)) ∧ tf (at0 + 1).toNat = fMon (3 * ((k : Nat) : Int) + 1) ∧ tf (at0 + 2).toNat = fMon (3 * ((k : Nat) : Int) + 2)) := by first | exact fun q => absurd q.1 (by omega) | exact fun q => c91 ((zSg_e hcc2 hf2).mpr (by first | exact q.2.2.1 | exact q.2.2.2 | (rw [Int.add_zero, Int.add_zero]; exact q.2.1)))
                      refine zi_iconst hx hb zd_Q_value_94 ?_
                      refine lv_istore (lv' := [(4, .int (iI (0))), (5, .int (iI (2))), (3, .int (iI (((k : Nat) : Int)))), (2, .ref (rf 7)), (0, .ref (qq)), (1, .int (iI (4)))]) hx hb zd_Q_value_95 hl (by decide) rfl (fun ls hl => ?_)
                      refine lv_iinc (v := iI (3)) (lv' := [(5, .int (iI (3))), (4, .int (iI (0))), (3, .int (iI (((k : Nat) : Int)))), (2, .ref (rf 7)), (0, .ref (qq)), (1, .int (iI (4)))]) hx hb zd_Q_value_97 hl (k := 1) rfl (by decide) (by decide) rfl (fun ls hl => ?_)
                      refine lv_goto (tgt := 51) hx hb zd_Q_value_100 (by decide) ?_
                      refine lv_iload hx hb zd_Q_value_51 (lv_at hl 0 rfl) ?_
                      refine zi_iconst hx hb zd_Q_value_53 ?_
                      refine zi_icmp_ge (tgt := 103) hx hb zd_Q_value_54 (by decide) (by omega) (fun _ => ?_) (fun c54 => absurd c54 (by decide))
                      refine lv_iload hx hb zd_Q_value_103 (lv_at hl 1 rfl) ?_
                      refine zi_if_ne (tgt := 111) hx hb zd_Q_value_105 (by decide) (by omega) (fun c105 => absurd c105 (by decide)) (fun _ => ?_)
                      refine lv_goto (tgt := 125) hx hb zd_Q_value_108 (by decide) ?_
                      refine lv_iinc (v := iI (((k : Nat) : Int) + 1)) (lv' := [(3, .int (iI (((k : Nat) : Int) + 1))), (5, .int (iI (3))), (4, .int (iI (0))), (2, .ref (rf 7)), (0, .ref (qq)), (1, .int (iI (4)))]) hx hb zd_Q_value_125 hl (k := 2) rfl (iI_add _ _) (by decide) rfl (fun ls hl => ?_)
                      refine lv_goto (tgt := 39) hx hb zd_Q_value_128 (by decide) ?_
                      exact ih (k + 1) H locs ls (by omega) (nmF_go (by omega) hF mf) (by omega) hP hD hS (lv_sub hl [0, 3, 4, 5] rfl)
    exact loop 20 0 s.heap [] ls (by omega) (fun _ => rfl) (by omega) hP hD hS (lv_sub hl [0, 1, 2, 3] rfl)
set_option maxHeartbeats 4000000 in
set_option maxRecDepth 100000 in
theorem c_Q_value_5 (l : Launch) (g : zGl) (hl0 : l.stackTraces = false) (qq : Nat) (rf : Nat → Nat) (fl ln pl yy mm dd at0 wa on tw hc : Int) (tf : Nat → Int) (hln : 0 ≤ ln ∧ ln ≤ 400) (hat : 0 ≤ at0 ∧ at0 ≤ ln) (hch : ∀ j : Nat, 0 ≤ tf j ∧ tf j < 256) (t1 t2 : Nat) (mq mv wq wv : Nat → Nat) (mc ms : Nat) (hmc : zHm (vOk 5 tf ln at0 = true) mc ms) : zEi l zy_Q_value zc_Q_value 6 (some .int) ({ frames := 8, cells := mc, slots := ms, locals := 165 }) g (zQs t1 t2 mq mv wq wv) [.ref (qq), .int (iI (5))] [(qq, .inr (5, [.int (iI (fl)), .ref (rf 0), .int (iI (ln)), .int (iI (pl)), .int (iI (yy)), .int (iI (mm)), .int (iI (dd)), .int (iI (at0)), .ref (rf 1), .ref (rf 2), .ref (rf 3), .ref (rf 4), .ref (rf 5), .ref (rf 6), .int (iI (wa)), .int (iI (on)), .int (iI (tw)), .ref (rf 7), .ref (rf 8), .ref (rf 9), .int (iI (hc))])), (rf 0, .inl (g.2 3, 400, .inl (zaI (zSg tf)))), (rf 7, .inl (g.2 8, 12, .inr (.inr (.inr (.inr (zaR mq)))))), (rf 8, .inl (g.2 8, 7, .inr (.inr (.inr (.inr (zaR wq))))))] (vOk 5 tf ln at0 = true) (some (.int (iI (vVl 5 tf ln at0)))) (fun _ => [(qq, .inr (5, [.int (iI (fl)), .ref (rf 0), .int (iI (ln)), .int (iI (pl)), .int (iI (yy)), .int (iI (mm)), .int (iI (dd)), .int (iI (vAt 5 tf ln at0)), .ref (rf 1), .ref (rf 2), .ref (rf 3), .ref (rf 4), .ref (rf 5), .ref (rf 6), .int (iI (wa)), .int (iI (on)), .int (iI (tw)), .ref (rf 7), .ref (rf 8), .ref (rf 9), .int (iI (hc))])), (rf 0, .inl (g.2 3, 400, .inl (zaI (zSg tf)))), (rf 7, .inl (g.2 8, 12, .inr (.inr (.inr (.inr (zaR mq)))))), (rf 8, .inl (g.2 8, 7, .inr (.inr (.inr (.inr (zaR wq))))))]) "java/lang/UnsupportedOperationException" (fun u => [(qq, .inr (5, [.int (iI (fl)), .ref (rf 0), .int (iI (ln)), .int (iI (at0)), .int (iI (yy)), .int (iI (mm)), .int (iI (dd)), .int (iI (u.1 0)), .ref (rf 1), .ref (rf 2), .ref (rf 3), .ref (rf 4), .ref (rf 5), .ref (rf 6), .int (iI (wa)), .int (iI (on)), .int (iI (tw)), .ref (rf 7), .ref (rf 8), .ref (rf 9), .int (iI (hc))])), (rf 0, .inl (g.2 3, 400, .inl (zaI (zSg tf)))), (rf 7, .inl (g.2 8, 12, .inr (.inr (.inr (.inr (zaR mq)))))), (rf 8, .inl (g.2 8, 7, .inr (.inr (.inr (.inr (zaR wq))))))]) mc ms := by
  refine ze_open (by decide +kernel) (Nat.le_of_ble_eq_true rfl) ?_
  intro p e s m below meth c ls A hx hb hml hr hno hlk hown hw hK hT hP hD hS hA hl
  have hown : s.vm.findClass "CronFinderModel" = some m.cls := hown
  have hl : lv_has ls 6 [(0, .ref (qq)), (1, .int (iI (5)))] := hl
  refine lv_iload_n hx hb zd_Q_value_0 rfl (lv_at hl 1 rfl) ?_
  refine zi_iconst hx hb zd_Q_value_1 ?_
  refine zi_icmp_eq (tgt := 10) hx hb zd_Q_value_2 (by decide) (by omega) (fun c2 => absurd c2 (by decide)) (fun _ => ?_)
  refine lv_iload_n hx hb zd_Q_value_5 rfl (lv_at hl 1 rfl) ?_
  refine zi_iconst hx hb zd_Q_value_6 ?_
  refine zi_icmp_ne (tgt := 139) hx hb zd_Q_value_7 (by decide) (by omega) (fun c7 => absurd c7 (by decide)) (fun _ => ?_)
  refine lv_aload_n hx hb zd_Q_value_10 rfl (lv_at hl 0 rfl) ?_
  refine zk_V (As := []) (b := qq) (own := "CronFinderModel") (nL := 6) (rest := []) hx hb hml hown hw (c_Q_peek l g qq rf (fl) (ln) (pl) (yy) (mm) (dd) (at0) (wa) (on) (tw) (hc) tf hln (by omega) hch) zw_4_39 zw_4_41 zw_0_30 zw_1_7 zw_4_42 (np := 0) (by decide +kernel) rfl ⟨rfl, rfl, Nat.le_of_ble_eq_true rfl, Nat.le_of_ble_eq_true rfl⟩ zN_mv hK trivial (hP.sub (ws' := [(qq, .inr (5, [.int (iI (fl)), .ref (rf 0), .int (iI (ln)), .int (iI (pl)), .int (iI (yy)), .int (iI (mm)), .int (iI (dd)), .int (iI (at0)), .ref (rf 1), .ref (rf 2), .ref (rf 3), .ref (rf 4), .ref (rf 5), .ref (rf 6), .int (iI (wa)), .int (iI (on)), .int (iI (tw)), .ref (rf 7), .ref (rf 8), .ref (rf 9), .int (iI (hc))])), (rf 0, .inl (g.2 3, 400, .inl (zaI (zSg tf))))]) [0, 1] rfl) (va_recv hK hP (ci := 5) (q0 := 0) rfl rfl) hl.1 rfl (Nat.le_of_ble_eq_true rfl) ⟨Nat.zero_le _, Nat.zero_le _⟩ zd_Q_value_11 ?_
  have hk11 := rk_rg tf ln (at0) hch
  refine zk_S (As := [.int (iI (rk tf ln (at0)))]) (own := "CronFinderModel") (nL := 6) (rest := []) hx hb hml hown hw (c_Q_letter l g (rk tf ln (at0)) (by omega)) zw_4_82 zw_4_83 zw_1_7 zw_4_84 (np := 1) (by decide +kernel) rfl ⟨rfl, rfl, Nat.le_of_ble_eq_true rfl, Nat.le_of_ble_eq_true rfl⟩ zN_mv hK trivial (hP.sub (ws' := []) [] rfl) hl.1 rfl (Nat.le_of_ble_eq_true rfl) ⟨Nat.zero_le _, Nat.zero_le _⟩ zd_Q_value_14 ?_
  refine zb_if_eq (tgt := 139) hx hb zd_Q_value_17 (by decide) (fun c17 => ?_) (fun c17 => ?_)
  · have hv0 : vNm 5 ln tf at0 = 0 := nmA_nl fWd_L c17
    refine lv_aload_n hx hb zd_Q_value_139 rfl (lv_at hl 0 rfl) ?_
    refine va_gets hx hb hT.2.1.1 hS hown (hw _ zw_4_74) (fun _ h9 => h9) zd_Q_value_140 ?_
    refine lv_iload_n hx hb zd_Q_value_143 rfl (lv_at hl 1 rfl) ?_
    refine zi_ti hx hb hT.2.1.2.1 hS (by omega) zd_Q_value_144 ?_
    refine zi_as (fLo 5) (fLoI_n 5) ?_
    refine va_gets hx hb hT.2.1.2.2.1 hS hown (hw _ zw_4_76) (fun _ h9 => h9) zd_Q_value_145 ?_
    refine lv_iload_n hx hb zd_Q_value_148 rfl (lv_at hl 1 rfl) ?_
    refine zi_ti hx hb hT.2.1.2.2.2 hS (by omega) zd_Q_value_149 ?_
    refine zi_as (fHi 5) (fHiI_n 5) ?_
    by_cases ho150 : rNm tf ln (fLo 5) (fHi 5) (at0)
    · have hu150 := rNm_rg ho150 (by omega)
      refine zk_W (As := [.int (iI (fLo 5)), .int (iI (fHi 5))]) (b := qq) (own := "CronFinderModel") (nL := 6) (rest := []) hx hb hml hown hw (zE_y (c_Q_ranged l g hl0 qq rf (fl) (ln) (pl) (yy) (mm) (dd) (at0) (wa) (on) (tw) (hc) tf hln (by omega) hch (fLo 5) (fHi 5) (by have := fLH (j := 5) (by decide); omega) 0 0 (Or.inl ⟨ho150, rfl, rfl⟩)) ho150) zw_4_61 zw_4_63 zw_0_33 zw_1_7 zw_4_64 (np := 2) (by decide +kernel) rfl ⟨rfl, rfl, Nat.le_of_ble_eq_true rfl, Nat.le_of_ble_eq_true rfl⟩ zTh_mv hK (zTh_nar (zTh_now hT.1 hS) (va_free hD hS hA [0, 1] rfl)) hP hD hS hA [0, 1] rfl (by decide) rfl (va_recv hK hP (ci := 5) (q0 := 0) rfl rfl) hl.1 rfl (Nat.le_of_ble_eq_true rfl) ⟨Nat.zero_le _, Nat.zero_le _⟩ zd_Q_value_150 (fun H locs hP hD hS => ?_)
      have hP : va_P g.1 zCl [(qq, .inr (5, [.int (iI (fl)), .ref (rf 0), .int (iI (ln)), .int (iI (pl)), .int (iI (yy)), .int (iI (mm)), .int (iI (dd)), .int (iI ((num tf ln (at0)).1)), .ref (rf 1), .ref (rf 2), .ref (rf 3), .ref (rf 4), .ref (rf 5), .ref (rf 6), .int (iI (wa)), .int (iI (on)), .int (iI (tw)), .ref (rf 7), .ref (rf 8), .ref (rf 9), .int (iI (hc))])), (rf 0, .inl (g.2 3, 400, .inl (zaI (zSg tf)))), (rf 7, .inl (g.2 8, 12, .inr (.inr (.inr (.inr (zaR mq)))))), (rf 8, .inl (g.2 8, 7, .inr (.inr (.inr (.inr (zaR wq))))))] H := hP
      have hD : va_D A [(qq, .inr (5, [.int (iI (fl)), .ref (rf 0), .int (iI (ln)), .int (iI (pl)), .int (iI (yy)), .int (iI (mm)), .int (iI (dd)), .int (iI ((num tf ln (at0)).1)), .ref (rf 1), .ref (rf 2), .ref (rf 3), .ref (rf 4), .ref (rf 5), .ref (rf 6), .int (iI (wa)), .int (iI (on)), .int (iI (tw)), .ref (rf 7), .ref (rf 8), .ref (rf 9), .int (iI (hc))])), (rf 0, .inl (g.2 3, 400, .inl (zaI (zSg tf)))), (rf 7, .inl (g.2 8, 12, .inr (.inr (.inr (.inr (zaR mq)))))), (rf 8, .inl (g.2 8, 7, .inr (.inr (.inr (.inr (zaR wq))))))] := hD
      refine zi_as (vVl 5 tf ln at0) ((vVl_0 hv0).symm) ?_
      rw [← vAt_0 hv0] at hP
      have hok9 := ((vOk_0 hv0).mpr ho150)
      exact zq_iret hx hb hr hlk (fun _ => 0, fun _ _ => false) hP hS hok9 (zHm_y hmc hok9) zd_Q_value_153
    · exact zk_X (As := [.int (iI (fLo 5)), .int (iI (fHi 5))]) (b := qq) (own := "CronFinderModel") (nL := 6) (rest := []) hx hb hml hown hw (zE_n (c_Q_ranged l g hl0 qq rf (fl) (ln) (pl) (yy) (mm) (dd) (at0) (wa) (on) (tw) (hc) tf hln (by omega) hch (fLo 5) (fHi 5) (by have := fLH (j := 5) (by decide); omega) 1 6 (Or.inr ⟨ho150, rfl, rfl⟩)) ho150) zw_4_61 zw_4_63 zw_0_33 zw_1_7 zw_4_64 (np := 2) (by decide +kernel) rfl ⟨rfl, rfl, Nat.le_of_ble_eq_true rfl, Nat.le_of_ble_eq_true rfl⟩ zTh_mv hK (zTh_nar (zTh_now hT.1 hS) (va_free hD hS hA [0, 1] rfl)) hP hD hS hA [0, 1] rfl (by decide) (fun _ => rfl) (va_recv hK hP (ci := 5) (q0 := 0) rfl rfl) hl.1 rfl (Nat.le_of_ble_eq_true rfl) (zHm_1 hmc (fun q => ho150 ((vOk_0 hv0).mp q))) zd_Q_value_150 hno hlk (fun q => ho150 ((vOk_0 hv0).mp q)) (fun u _ h => ⟨u, h⟩) (zHm_1 hmc (fun q => ho150 ((vOk_0 hv0).mp q)))
  · refine lv_iload_n hx hb zd_Q_value_20 rfl (lv_at hl 1 rfl) ?_
    refine zi_iconst hx hb zd_Q_value_21 ?_
    refine zi_icmp_ne (tgt := 32) hx hb zd_Q_value_22 (by decide) (by omega) (fun _ => ?_) (fun c22 => absurd c22 (by decide))
    refine lv_aload_n hx hb zd_Q_value_32 rfl (lv_at hl 0 rfl) ?_
    refine va_get (D := g.1) (ci := 5) (v := .ref (rf 8)) (C := zR_Q) (T := zT_Q) (N := 21) hx hb hw zin_Q hown hK hP 0 rfl rfl 18 (by decide) (hw _ zw_3_216) (fun _ h9 => h9) rfl zd_Q_value_33 ?_
    refine lv_astore_n (lv' := [(2, .ref (rf 8)), (0, .ref (qq)), (1, .int (iI (5)))]) hx hb zd_Q_value_36 rfl hl (by decide) rfl (fun ls hl => ?_)
    refine zi_iconst hx hb zd_Q_value_37 ?_
    refine lv_istore_n (lv' := [(3, .int (iI (0))), (2, .ref (rf 8)), (0, .ref (qq)), (1, .int (iI (5)))]) hx hb zd_Q_value_38 rfl hl (by decide) rfl (fun ls hl => ?_)
    have loop : ∀ (n9 : Nat) (k : Nat) (H : Heap) (locs : List Loc) (ls : Array Slot), (k ≤ 7) → (¬ ln - at0 < 3 → nmF fWd 21 tf at0 n9 ((k : Nat) : Int) = nmF fWd 21 tf at0 20 0) → (7 - k < n9) → va_P g.1 zCl [(qq, .inr (5, [.int (iI (fl)), .ref (rf 0), .int (iI (ln)), .int (iI (pl)), .int (iI (yy)), .int (iI (mm)), .int (iI (dd)), .int (iI (at0)), .ref (rf 1), .ref (rf 2), .ref (rf 3), .ref (rf 4), .ref (rf 5), .ref (rf 6), .int (iI (wa)), .int (iI (on)), .int (iI (tw)), .ref (rf 7), .ref (rf 8), .ref (rf 9), .int (iI (hc))])), (rf 0, .inl (g.2 3, 400, .inl (zaI (zSg tf)))), (rf 7, .inl (g.2 8, 12, .inr (.inr (.inr (.inr (zaR mq)))))), (rf 8, .inl (g.2 8, 7, .inr (.inr (.inr (.inr (zaR wq))))))] H → va_D A [(qq, .inr (5, [.int (iI (fl)), .ref (rf 0), .int (iI (ln)), .int (iI (pl)), .int (iI (yy)), .int (iI (mm)), .int (iI (dd)), .int (iI (at0)), .ref (rf 1), .ref (rf 2), .ref (rf 3), .ref (rf 4), .ref (rf 5), .ref (rf 6), .int (iI (wa)), .int (iI (on)), .int (iI (tw)), .ref (rf 7), .ref (rf 8), .ref (rf 9), .int (iI (hc))])), (rf 0, .inl (g.2 3, 400, .inl (zaI (zSg tf)))), (rf 7, .inl (g.2 8, 12, .inr (.inr (.inr (.inr (zaR mq)))))), (rf 8, .inl (g.2 8, 7, .inr (.inr (.inr (.inr (zaR wq))))))] → va_S A s.heap H locs → lv_has ls 6 [(3, .int (iI (((k : Nat) : Int)))), (2, .ref (rf 8)), (0, .ref (qq)), (1, .int (iI (5)))] → W p l e ({ frames := 8, cells := mc, slots := ms, locals := 165 }) s m [.ref (qq), .int (iI (5))].toArray below meth c H locs 0 0 (vx_MQ below (zQC g (vOk 5 tf ln at0 = true) (some (.int (iI (vVl 5 tf ln at0)))) (fun _ => [(qq, .inr (5, [.int (iI (fl)), .ref (rf 0), .int (iI (ln)), .int (iI (pl)), .int (iI (yy)), .int (iI (mm)), .int (iI (dd)), .int (iI (vAt 5 tf ln at0)), .ref (rf 1), .ref (rf 2), .ref (rf 3), .ref (rf 4), .ref (rf 5), .ref (rf 6), .int (iI (wa)), .int (iI (on)), .int (iI (tw)), .ref (rf 7), .ref (rf 8), .ref (rf 9), .int (iI (hc))])), (rf 0, .inl (g.2 3, 400, .inl (zaI (zSg tf)))), (rf 7, .inl (g.2 8, 12, .inr (.inr (.inr (.inr (zaR mq)))))), (rf 8, .inl (g.2 8, 7, .inr (.inr (.inr (.inr (zaR wq))))))]) A) (zXC g (vOk 5 tf ln at0 = true) "java/lang/UnsupportedOperationException" (fun u => [(qq, .inr (5, [.int (iI (fl)), .ref (rf 0), .int (iI (ln)), .int (iI (at0)), .int (iI (yy)), .int (iI (mm)), .int (iI (dd)), .int (iI (u.1 0)), .ref (rf 1), .ref (rf 2), .ref (rf 3), .ref (rf 4), .ref (rf 5), .ref (rf 6), .int (iI (wa)), .int (iI (on)), .int (iI (tw)), .ref (rf 7), .ref (rf 8), .ref (rf 9), .int (iI (hc))])), (rf 0, .inl (g.2 3, 400, .inl (zaI (zSg tf)))), (rf 7, .inl (g.2 8, 12, .inr (.inr (.inr (.inr (zaR mq)))))), (rf 8, .inl (g.2 8, 7, .inr (.inr (.inr (.inr (zaR wq))))))]) A) [.ref (qq), .int (iI (5))].toArray s mc ms A) (F0 m 39 ls []) := by
      intro n9
      induction n9 with
      | zero =>
        intro k H locs ls h1 hF h2 hP hD hS hl
        exact absurd h2 (by omega)
      | succ n9 ih =>
        intro k H locs ls h1 hF h2 hP hD hS hl
        refine lv_iload_n hx hb zd_Q_value_39 rfl (lv_at hl 0 rfl) ?_
        refine lv_aload_n hx hb zd_Q_value_40 rfl (lv_at hl 1 rfl) ?_
        refine va_alen hx hb hK hP 3 8 rfl rfl (v := iI 7) (iI_nat 7) zd_Q_value_41 ?_
        refine zi_icmp_ge (tgt := 131) hx hb zd_Q_value_42 (by decide) (by omega) (fun c42 => ?_) (fun c42 => ?_)
        · have hnk : ¬ vOk 5 tf ln at0 = true := vOk_let (nmF_out (by omega) hF) c17
          refine lv_aload_n hx hb zd_Q_value_131 rfl (lv_at hl 2 rfl) ?_
          refine lv_aload_n hx hb zd_Q_value_132 rfl (lv_at hl 2 rfl) ?_
          refine va_get (D := g.1) (ci := 5) (v := .int (iI (at0))) (C := zR_Q) (T := zT_Q) (N := 21) hx hb hw zin_Q hown hK hP 0 rfl rfl 7 (by decide) (hw _ zw_3_205) (fun _ h9 => h9) rfl zd_Q_value_133 ?_
          exact zk_X (As := [.int (iI (at0))]) (b := qq) (own := "CronFinderModel") (nL := 6) (rest := []) hx hb hml hown hw (c_Q_bad l g hl0 qq rf (fl) (ln) (pl) (yy) (mm) (dd) (at0) (wa) (on) (tw) (hc) (at0)) zw_4_43 zw_4_45 zw_0_31 zw_1_7 zw_4_46 (np := 1) (by decide +kernel) rfl ⟨rfl, rfl, Nat.le_of_ble_eq_true rfl, Nat.le_of_ble_eq_true rfl⟩ zTh_mv hK (zTh_nar (zTh_now hT.1 hS) (va_free hD hS hA [0] rfl)) hP hD hS hA [0] rfl (by decide) (fun _ => rfl) (va_recv hK hP (ci := 5) (q0 := 0) rfl rfl) hl.1 rfl (Nat.le_of_ble_eq_true rfl) (zHm_1 hmc hnk) zd_Q_value_136 hno hlk hnk (fun u _ h => ⟨(zj [at0], fun _ => fun _ => false), h⟩) (zHm_1 hmc hnk)
        · refine zi_iconst hx hb zd_Q_value_45 ?_
          refine lv_istore (lv' := [(4, .int (iI (1))), (3, .int (iI (((k : Nat) : Int)))), (2, .ref (rf 8)), (0, .ref (qq)), (1, .int (iI (5)))]) hx hb zd_Q_value_46 hl (by decide) rfl (fun ls hl => ?_)
          refine zi_iconst hx hb zd_Q_value_48 ?_
          refine lv_istore (lv' := [(5, .int (iI (0))), (4, .int (iI (1))), (3, .int (iI (((k : Nat) : Int)))), (2, .ref (rf 8)), (0, .ref (qq)), (1, .int (iI (5)))]) hx hb zd_Q_value_49 hl (by decide) rfl (fun ls hl => ?_)
          refine lv_iload hx hb zd_Q_value_51 (lv_at hl 0 rfl) ?_
          refine zi_iconst hx hb zd_Q_value_53 ?_
          refine zi_icmp_ge (tgt := 103) hx hb zd_Q_value_54 (by decide) (by omega) (fun c54 => absurd c54 (by decide)) (fun _ => ?_)
          refine lv_aload_n hx hb zd_Q_value_57 rfl (lv_at hl 4 rfl) ?_
          refine va_get (D := g.1) (ci := 5) (v := .int (iI (at0))) (C := zR_Q) (T := zT_Q) (N := 21) hx hb hw zin_Q hown hK hP 0 rfl rfl 7 (by decide) (hw _ zw_3_205) (fun _ h9 => h9) rfl zd_Q_value_58 ?_
          refine lv_iload hx hb zd_Q_value_61 (lv_at hl 0 rfl) ?_
          refine zi_iadd hx hb zd_Q_value_63 ?_
          refine lv_aload_n hx hb zd_Q_value_64 rfl (lv_at hl 4 rfl) ?_
          refine va_get (D := g.1) (ci := 5) (v := .int (iI (ln))) (C := zR_Q) (T := zT_Q) (N := 21) hx hb hw zin_Q hown hK hP 0 rfl rfl 2 (by decide) (hw _ zw_3_200) (fun _ h9 => h9) rfl zd_Q_value_65 ?_
          refine zi_icmp_ge (tgt := 94) hx hb zd_Q_value_68 (by decide) (by omega) (fun c68 => ?_) (fun c68 => ?_)
          · have mf : ¬ (¬ ln - at0 < 3 ∧ tf at0.toNat = fWd (3 * ((k : Nat) : Int)) ∧ tf (at0 + 1).toNat = fWd (3 * ((k : Nat) : Int) + 1) ∧ tf (at0 + 2).toNat = fWd (3 * ((k : Nat) : Int) + 2)) := by first | exact fun q => absurd q.1 (by omega) | exact fun q => c91 ((zSg_e hcc0 hf0).mpr (by first | exact q.2.2.1 | exact q.2.2.2 | (rw [Int.add_zero, Int.add_zero]; exact q.2.1)))
            refine zi_iconst hx hb zd_Q_value_94 ?_
            refine lv_istore (lv' := [(4, .int (iI (0))), (5, .int (iI (0))), (3, .int (iI (((k : Nat) : Int)))), (2, .ref (rf 8)), (0, .ref (qq)), (1, .int (iI (5)))]) hx hb zd_Q_value_95 hl (by decide) rfl (fun ls hl => ?_)
            refine lv_iinc (v := iI (1)) (lv' := [(5, .int (iI (1))), (4, .int (iI (0))), (3, .int (iI (((k : Nat) : Int)))), (2, .ref (rf 8)), (0, .ref (qq)), (1, .int (iI (5)))]) hx hb zd_Q_value_97 hl (k := 1) rfl (by decide) (by decide) rfl (fun ls hl => ?_)
            refine lv_goto (tgt := 51) hx hb zd_Q_value_100 (by decide) ?_
            refine lv_iload hx hb zd_Q_value_51 (lv_at hl 0 rfl) ?_
            refine zi_iconst hx hb zd_Q_value_53 ?_
            refine zi_icmp_ge (tgt := 103) hx hb zd_Q_value_54 (by decide) (by omega) (fun c54 => absurd c54 (by decide)) (fun _ => ?_)
            refine lv_aload_n hx hb zd_Q_value_57 rfl (lv_at hl 4 rfl) ?_
            refine va_get (D := g.1) (ci := 5) (v := .int (iI (at0))) (C := zR_Q) (T := zT_Q) (N := 21) hx hb hw zin_Q hown hK hP 0 rfl rfl 7 (by decide) (hw _ zw_3_205) (fun _ h9 => h9) rfl zd_Q_value_58 ?_
            refine lv_iload hx hb zd_Q_value_61 (lv_at hl 0 rfl) ?_
            refine zi_iadd hx hb zd_Q_value_63 ?_
            refine lv_aload_n hx hb zd_Q_value_64 rfl (lv_at hl 4 rfl) ?_
            refine va_get (D := g.1) (ci := 5) (v := .int (iI (ln))) (C := zR_Q) (T := zT_Q) (N := 21) hx hb hw zin_Q hown hK hP 0 rfl rfl 2 (by decide) (hw _ zw_3_200) (fun _ h9 => h9) rfl zd_Q_value_65 ?_
            refine zi_icmp_ge (tgt := 94) hx hb zd_Q_value_68 (by decide) (by omega) (fun c68 => ?_) (fun c68 => ?_)
            · have mf : ¬ (¬ ln - at0 < 3 ∧ tf at0.toNat = fWd (3 * ((k : Nat) : Int)) ∧ tf (at0 + 1).toNat = fWd (3 * ((k : Nat) : Int) + 1) ∧ tf (at0 + 2).toNat = fWd (3 * ((k : Nat) : Int) + 2)) := by first | exact fun q => absurd q.1 (by omega) | exact fun q => c91 ((zSg_e hcc1 hf1).mpr (by first | exact q.2.2.1 | exact q.2.2.2 | (rw [Int.add_zero, Int.add_zero]; exact q.2.1)))
              refine zi_iconst hx hb zd_Q_value_94 ?_
              refine lv_istore (lv' := [(4, .int (iI (0))), (5, .int (iI (1))), (3, .int (iI (((k : Nat) : Int)))), (2, .ref (rf 8)), (0, .ref (qq)), (1, .int (iI (5)))]) hx hb zd_Q_value_95 hl (by decide) rfl (fun ls hl => ?_)
              refine lv_iinc (v := iI (2)) (lv' := [(5, .int (iI (2))), (4, .int (iI (0))), (3, .int (iI (((k : Nat) : Int)))), (2, .ref (rf 8)), (0, .ref (qq)), (1, .int (iI (5)))]) hx hb zd_Q_value_97 hl (k := 1) rfl (by decide) (by decide) rfl (fun ls hl => ?_)
              refine lv_goto (tgt := 51) hx hb zd_Q_value_100 (by decide) ?_
              refine lv_iload hx hb zd_Q_value_51 (lv_at hl 0 rfl) ?_
              refine zi_iconst hx hb zd_Q_value_53 ?_
              refine zi_icmp_ge (tgt := 103) hx hb zd_Q_value_54 (by decide) (by omega) (fun c54 => absurd c54 (by decide)) (fun _ => ?_)
              refine lv_aload_n hx hb zd_Q_value_57 rfl (lv_at hl 4 rfl) ?_
              refine va_get (D := g.1) (ci := 5) (v := .int (iI (at0))) (C := zR_Q) (T := zT_Q) (N := 21) hx hb hw zin_Q hown hK hP 0 rfl rfl 7 (by decide) (hw _ zw_3_205) (fun _ h9 => h9) rfl zd_Q_value_58 ?_
              refine lv_iload hx hb zd_Q_value_61 (lv_at hl 0 rfl) ?_
              refine zi_iadd hx hb zd_Q_value_63 ?_
              refine lv_aload_n hx hb zd_Q_value_64 rfl (lv_at hl 4 rfl) ?_
              refine va_get (D := g.1) (ci := 5) (v := .int (iI (ln))) (C := zR_Q) (T := zT_Q) (N := 21) hx hb hw zin_Q hown hK hP 0 rfl rfl 2 (by decide) (hw _ zw_3_200) (fun _ h9 => h9) rfl zd_Q_value_65 ?_
              refine zi_icmp_ge (tgt := 94) hx hb zd_Q_value_68 (by decide) (by omega) (fun c68 => ?_) (fun c68 => ?_)
              · have mf : ¬ (¬ ln - at0 < 3 ∧ tf at0.toNat = fWd (3 * ((k : Nat) : Int)) ∧ tf (at0 + 1).toNat = fWd (3 * ((k : Nat) : Int) + 1) ∧ tf (at0 + 2).toNat = fWd (3 * ((k : Nat) : Int) + 2)) := by first | exact fun q => absurd q.1 (by omega) | exact fun q => c91 ((zSg_e hcc2 hf2).mpr (by first | exact q.2.2.1 | exact q.2.2.2 | (rw [Int.add_zero, Int.add_zero]; exact q.2.1)))
                refine zi_iconst hx hb zd_Q_value_94 ?_
                refine lv_istore (lv' := [(4, .int (iI (0))), (5, .int (iI (2))), (3, .int (iI (((k : Nat) : Int)))), (2, .ref (rf 8)), (0, .ref (qq)), (1, .int (iI (5)))]) hx hb zd_Q_value_95 hl (by decide) rfl (fun ls hl => ?_)
                refine lv_iinc (v := iI (3)) (lv' := [(5, .int (iI (3))), (4, .int (iI (0))), (3, .int (iI (((k : Nat) : Int)))), (2, .ref (rf 8)), (0, .ref (qq)), (1, .int (iI (5)))]) hx hb zd_Q_value_97 hl (k := 1) rfl (by decide) (by decide) rfl (fun ls hl => ?_)
                refine lv_goto (tgt := 51) hx hb zd_Q_value_100 (by decide) ?_
                refine lv_iload hx hb zd_Q_value_51 (lv_at hl 0 rfl) ?_
                refine zi_iconst hx hb zd_Q_value_53 ?_
                refine zi_icmp_ge (tgt := 103) hx hb zd_Q_value_54 (by decide) (by omega) (fun _ => ?_) (fun c54 => absurd c54 (by decide))
                refine lv_iload hx hb zd_Q_value_103 (lv_at hl 1 rfl) ?_
                refine zi_if_ne (tgt := 111) hx hb zd_Q_value_105 (by decide) (by omega) (fun c105 => absurd c105 (by decide)) (fun _ => ?_)
                refine lv_goto (tgt := 125) hx hb zd_Q_value_108 (by decide) ?_
                refine lv_iinc (v := iI (((k : Nat) : Int) + 1)) (lv' := [(3, .int (iI (((k : Nat) : Int) + 1))), (5, .int (iI (3))), (4, .int (iI (0))), (2, .ref (rf 8)), (0, .ref (qq)), (1, .int (iI (5)))]) hx hb zd_Q_value_125 hl (k := 2) rfl (iI_add _ _) (by decide) rfl (fun ls hl => ?_)
                refine lv_goto (tgt := 39) hx hb zd_Q_value_128 (by decide) ?_
                exact ih (k + 1) H locs ls (by omega) (nmF_go (by omega) hF mf) (by omega) hP hD hS (lv_sub hl [0, 3, 4, 5] rfl)
              · refine lv_aload_n hx hb zd_Q_value_71 rfl (lv_at hl 4 rfl) ?_
                refine va_get (D := g.1) (ci := 5) (v := .ref (rf 0)) (C := zR_Q) (T := zT_Q) (N := 21) hx hb hw zin_Q hown hK hP 0 rfl rfl 1 (by decide) (hw _ zw_3_199) (fun _ h9 => h9) rfl zd_Q_value_72 ?_
                refine lv_aload_n hx hb zd_Q_value_75 rfl (lv_at hl 4 rfl) ?_
                refine va_get (D := g.1) (ci := 5) (v := .int (iI (at0))) (C := zR_Q) (T := zT_Q) (N := 21) hx hb hw zin_Q hown hK hP 0 rfl rfl 7 (by decide) (hw _ zw_3_205) (fun _ h9 => h9) rfl zd_Q_value_76 ?_
                refine lv_iload hx hb zd_Q_value_79 (lv_at hl 0 rfl) ?_
                refine zi_iadd hx hb zd_Q_value_81 ?_
                refine zi_bald hx hb hK hP 1 3 rfl rfl (by omega) zd_Q_value_82 ?_
                have hsg2 := zSg_rg (tf := tf) (i := (at0 + 2).toNat) (hch _)
                have hcc2 := hch (at0 + 2).toNat
                refine lv_aload_n hx hb zd_Q_value_83 rfl (lv_at hl 3 rfl) ?_
                refine lv_iload_n hx hb zd_Q_value_84 rfl (lv_at hl 2 rfl) ?_
                refine zi_aaldS (k := k) hx hb hK hP 3 8 rfl rfl (by omega) (Int.toNat_natCast _) zd_Q_value_85 ?_
                refine lv_iload hx hb zd_Q_value_86 (lv_at hl 0 rfl) ?_
                refine zk_V (As := [.int (iI (2))]) (b := wq k) (own := "CronFinderModel") (nL := 6) (rest := [.int (iI (((zSg tf)) (at0 + 2).toNat))]) hx hb hml hown hw (c_S_charAt l g (wq k) (wv k) 3 (fun i => fWd (3 * ((k : Nat) : Int) + i)) (2) (by omega) (fun j hj => fWd_rg _ (by omega))) zw_4_85 zw_2_113 zw_2_114 zw_1_15 zw_2_115 (np := 1) (by decide +kernel) rfl ⟨rfl, rfl, Nat.le_of_ble_eq_true rfl, Nat.le_of_ble_eq_true rfl⟩ (zStr_mv (wq k) (wv k) 3 (fun i => fWd (3 * ((k : Nat) : Int) + i)) _) hK (zStr_nar (B := fun _ => False) (zStr_now (hT.2.2.2 k (by omega)) hS) (fun _ h => h.elim)) (hP.sub (ws' := []) [] rfl) (zStr_recv (zStr_nar (B := fun _ => False) (zStr_now (hT.2.2.2 k (by omega)) hS) (fun _ h => h.elim))) hl.1 rfl (Nat.le_of_ble_eq_true rfl) ⟨Nat.zero_le _, Nat.zero_le _⟩ zd_Q_value_88 ?_
                refine zi_as (fWd (3 * ((k : Nat) : Int) + 2)) rfl ?_
                have hf2 := fWd_rg (3 * ((k : Nat) : Int) + 2) (by omega)
                refine zi_icmp_eq (tgt := 97) hx hb zd_Q_value_91 (by decide) (by omega) (fun c91 => ?_) (fun c91 => ?_)
                · refine lv_iinc (v := iI (3)) (lv' := [(5, .int (iI (3))), (4, .int (iI (0))), (3, .int (iI (((k : Nat) : Int)))), (2, .ref (rf 8)), (0, .ref (qq)), (1, .int (iI (5)))]) hx hb zd_Q_value_97 hl (k := 0) rfl (by decide) (by decide) rfl (fun ls hl => ?_)
                  refine lv_goto (tgt := 51) hx hb zd_Q_value_100 (by decide) ?_
                  refine lv_iload hx hb zd_Q_value_51 (lv_at hl 0 rfl) ?_
                  refine zi_iconst hx hb zd_Q_value_53 ?_
                  refine zi_icmp_ge (tgt := 103) hx hb zd_Q_value_54 (by decide) (by omega) (fun _ => ?_) (fun c54 => absurd c54 (by decide))
                  refine lv_iload hx hb zd_Q_value_103 (lv_at hl 1 rfl) ?_
                  refine zi_if_ne (tgt := 111) hx hb zd_Q_value_105 (by decide) (by omega) (fun c105 => absurd c105 (by decide)) (fun _ => ?_)
                  refine lv_goto (tgt := 125) hx hb zd_Q_value_108 (by decide) ?_
                  refine lv_iinc (v := iI (((k : Nat) : Int) + 1)) (lv' := [(3, .int (iI (((k : Nat) : Int) + 1))), (5, .int (iI (3))), (4, .int (iI (0))), (2, .ref (rf 8)), (0, .ref (qq)), (1, .int (iI (5)))]) hx hb zd_Q_value_125 hl (k := 2) rfl (iI_add _ _) (by decide) rfl (fun ls hl => ?_)
                  refine lv_goto (tgt := 39) hx hb zd_Q_value_128 (by decide) ?_
                  exact ih (k + 1) H locs ls (by omega) (nmF_go (by omega) hF mf) (by omega) hP hD hS (lv_sub hl [0, 3, 4, 5] rfl)
                · have mf : ¬ (¬ ln - at0 < 3 ∧ tf at0.toNat = fWd (3 * ((k : Nat) : Int)) ∧ tf (at0 + 1).toNat = fWd (3 * ((k : Nat) : Int) + 1) ∧ tf (at0 + 2).toNat = fWd (3 * ((k : Nat) : Int) + 2)) := by first | exact fun q => absurd q.1 (by omega) | exact fun q => c91 ((zSg_e hcc2 hf2).mpr (by first | exact q.2.2.1 | exact q.2.2.2 | (rw [Int.add_zero, Int.add_zero]; exact q.2.1)))
                  refine zi_iconst hx hb zd_Q_value_94 ?_
                  refine lv_istore (lv' := [(4, .int (iI (0))), (5, .int (iI (2))), (3, .int (iI (((k : Nat) : Int)))), (2, .ref (rf 8)), (0, .ref (qq)), (1, .int (iI (5)))]) hx hb zd_Q_value_95 hl (by decide) rfl (fun ls hl => ?_)
                  refine lv_iinc (v := iI (3)) (lv' := [(5, .int (iI (3))), (4, .int (iI (0))), (3, .int (iI (((k : Nat) : Int)))), (2, .ref (rf 8)), (0, .ref (qq)), (1, .int (iI (5)))]) hx hb zd_Q_value_97 hl (k := 1) rfl (by decide) (by decide) rfl (fun ls hl => ?_)
                  refine lv_goto (tgt := 51) hx hb zd_Q_value_100 (by decide) ?_
                  refine lv_iload hx hb zd_Q_value_51 (lv_at hl 0 rfl) ?_
                  refine zi_iconst hx hb zd_Q_value_53 ?_
                  refine zi_icmp_ge (tgt := 103) hx hb zd_Q_value_54 (by decide) (by omega) (fun _ => ?_) (fun c54 => absurd c54 (by decide))
                  refine lv_iload hx hb zd_Q_value_103 (lv_at hl 1 rfl) ?_
                  refine zi_if_ne (tgt := 111) hx hb zd_Q_value_105 (by decide) (by omega) (fun c105 => absurd c105 (by decide)) (fun _ => ?_)
                  refine lv_goto (tgt := 125) hx hb zd_Q_value_108 (by decide) ?_
                  refine lv_iinc (v := iI (((k : Nat) : Int) + 1)) (lv' := [(3, .int (iI (((k : Nat) : Int) + 1))), (5, .int (iI (3))), (4, .int (iI (0))), (2, .ref (rf 8)), (0, .ref (qq)), (1, .int (iI (5)))]) hx hb zd_Q_value_125 hl (k := 2) rfl (iI_add _ _) (by decide) rfl (fun ls hl => ?_)
                  refine lv_goto (tgt := 39) hx hb zd_Q_value_128 (by decide) ?_
                  exact ih (k + 1) H locs ls (by omega) (nmF_go (by omega) hF mf) (by omega) hP hD hS (lv_sub hl [0, 3, 4, 5] rfl)
            · refine lv_aload_n hx hb zd_Q_value_71 rfl (lv_at hl 4 rfl) ?_
              refine va_get (D := g.1) (ci := 5) (v := .ref (rf 0)) (C := zR_Q) (T := zT_Q) (N := 21) hx hb hw zin_Q hown hK hP 0 rfl rfl 1 (by decide) (hw _ zw_3_199) (fun _ h9 => h9) rfl zd_Q_value_72 ?_
              refine lv_aload_n hx hb zd_Q_value_75 rfl (lv_at hl 4 rfl) ?_
              refine va_get (D := g.1) (ci := 5) (v := .int (iI (at0))) (C := zR_Q) (T := zT_Q) (N := 21) hx hb hw zin_Q hown hK hP 0 rfl rfl 7 (by decide) (hw _ zw_3_205) (fun _ h9 => h9) rfl zd_Q_value_76 ?_
              refine lv_iload hx hb zd_Q_value_79 (lv_at hl 0 rfl) ?_
              refine zi_iadd hx hb zd_Q_value_81 ?_
              refine zi_bald hx hb hK hP 1 3 rfl rfl (by omega) zd_Q_value_82 ?_
              have hsg1 := zSg_rg (tf := tf) (i := (at0 + 1).toNat) (hch _)
              have hcc1 := hch (at0 + 1).toNat
              refine lv_aload_n hx hb zd_Q_value_83 rfl (lv_at hl 3 rfl) ?_
              refine lv_iload_n hx hb zd_Q_value_84 rfl (lv_at hl 2 rfl) ?_
              refine zi_aaldS (k := k) hx hb hK hP 3 8 rfl rfl (by omega) (Int.toNat_natCast _) zd_Q_value_85 ?_
              refine lv_iload hx hb zd_Q_value_86 (lv_at hl 0 rfl) ?_
              refine zk_V (As := [.int (iI (1))]) (b := wq k) (own := "CronFinderModel") (nL := 6) (rest := [.int (iI (((zSg tf)) (at0 + 1).toNat))]) hx hb hml hown hw (c_S_charAt l g (wq k) (wv k) 3 (fun i => fWd (3 * ((k : Nat) : Int) + i)) (1) (by omega) (fun j hj => fWd_rg _ (by omega))) zw_4_85 zw_2_113 zw_2_114 zw_1_15 zw_2_115 (np := 1) (by decide +kernel) rfl ⟨rfl, rfl, Nat.le_of_ble_eq_true rfl, Nat.le_of_ble_eq_true rfl⟩ (zStr_mv (wq k) (wv k) 3 (fun i => fWd (3 * ((k : Nat) : Int) + i)) _) hK (zStr_nar (B := fun _ => False) (zStr_now (hT.2.2.2 k (by omega)) hS) (fun _ h => h.elim)) (hP.sub (ws' := []) [] rfl) (zStr_recv (zStr_nar (B := fun _ => False) (zStr_now (hT.2.2.2 k (by omega)) hS) (fun _ h => h.elim))) hl.1 rfl (Nat.le_of_ble_eq_true rfl) ⟨Nat.zero_le _, Nat.zero_le _⟩ zd_Q_value_88 ?_
              refine zi_as (fWd (3 * ((k : Nat) : Int) + 1)) rfl ?_
              have hf1 := fWd_rg (3 * ((k : Nat) : Int) + 1) (by omega)
              refine zi_icmp_eq (tgt := 97) hx hb zd_Q_value_91 (by decide) (by omega) (fun c91 => ?_) (fun c91 => ?_)
              · refine lv_iinc (v := iI (2)) (lv' := [(5, .int (iI (2))), (4, .int (iI (0))), (3, .int (iI (((k : Nat) : Int)))), (2, .ref (rf 8)), (0, .ref (qq)), (1, .int (iI (5)))]) hx hb zd_Q_value_97 hl (k := 0) rfl (by decide) (by decide) rfl (fun ls hl => ?_)
                refine lv_goto (tgt := 51) hx hb zd_Q_value_100 (by decide) ?_
                refine lv_iload hx hb zd_Q_value_51 (lv_at hl 0 rfl) ?_
                refine zi_iconst hx hb zd_Q_value_53 ?_
                refine zi_icmp_ge (tgt := 103) hx hb zd_Q_value_54 (by decide) (by omega) (fun c54 => absurd c54 (by decide)) (fun _ => ?_)
                refine lv_aload_n hx hb zd_Q_value_57 rfl (lv_at hl 4 rfl) ?_
                refine va_get (D := g.1) (ci := 5) (v := .int (iI (at0))) (C := zR_Q) (T := zT_Q) (N := 21) hx hb hw zin_Q hown hK hP 0 rfl rfl 7 (by decide) (hw _ zw_3_205) (fun _ h9 => h9) rfl zd_Q_value_58 ?_
                refine lv_iload hx hb zd_Q_value_61 (lv_at hl 0 rfl) ?_
                refine zi_iadd hx hb zd_Q_value_63 ?_
                refine lv_aload_n hx hb zd_Q_value_64 rfl (lv_at hl 4 rfl) ?_
                refine va_get (D := g.1) (ci := 5) (v := .int (iI (ln))) (C := zR_Q) (T := zT_Q) (N := 21) hx hb hw zin_Q hown hK hP 0 rfl rfl 2 (by decide) (hw _ zw_3_200) (fun _ h9 => h9) rfl zd_Q_value_65 ?_
                refine zi_icmp_ge (tgt := 94) hx hb zd_Q_value_68 (by decide) (by omega) (fun c68 => ?_) (fun c68 => ?_)
                · have mf : ¬ (¬ ln - at0 < 3 ∧ tf at0.toNat = fWd (3 * ((k : Nat) : Int)) ∧ tf (at0 + 1).toNat = fWd (3 * ((k : Nat) : Int) + 1) ∧ tf (at0 + 2).toNat = fWd (3 * ((k : Nat) : Int) + 2)) := by first | exact fun q => absurd q.1 (by omega) | exact fun q => c91 ((zSg_e hcc2 hf2).mpr (by first | exact q.2.2.1 | exact q.2.2.2 | (rw [Int.add_zero, Int.add_zero]; exact q.2.1)))
                  refine zi_iconst hx hb zd_Q_value_94 ?_
                  refine lv_istore (lv' := [(4, .int (iI (0))), (5, .int (iI (2))), (3, .int (iI (((k : Nat) : Int)))), (2, .ref (rf 8)), (0, .ref (qq)), (1, .int (iI (5)))]) hx hb zd_Q_value_95 hl (by decide) rfl (fun ls hl => ?_)
                  refine lv_iinc (v := iI (3)) (lv' := [(5, .int (iI (3))), (4, .int (iI (0))), (3, .int (iI (((k : Nat) : Int)))), (2, .ref (rf 8)), (0, .ref (qq)), (1, .int (iI (5)))]) hx hb zd_Q_value_97 hl (k := 1) rfl (by decide) (by decide) rfl (fun ls hl => ?_)
                  refine lv_goto (tgt := 51) hx hb zd_Q_value_100 (by decide) ?_
                  refine lv_iload hx hb zd_Q_value_51 (lv_at hl 0 rfl) ?_
                  refine zi_iconst hx hb zd_Q_value_53 ?_
                  refine zi_icmp_ge (tgt := 103) hx hb zd_Q_value_54 (by decide) (by omega) (fun _ => ?_) (fun c54 => absurd c54 (by decide))
                  refine lv_iload hx hb zd_Q_value_103 (lv_at hl 1 rfl) ?_
                  refine zi_if_ne (tgt := 111) hx hb zd_Q_value_105 (by decide) (by omega) (fun c105 => absurd c105 (by decide)) (fun _ => ?_)
                  refine lv_goto (tgt := 125) hx hb zd_Q_value_108 (by decide) ?_
                  refine lv_iinc (v := iI (((k : Nat) : Int) + 1)) (lv' := [(3, .int (iI (((k : Nat) : Int) + 1))), (5, .int (iI (3))), (4, .int (iI (0))), (2, .ref (rf 8)), (0, .ref (qq)), (1, .int (iI (5)))]) hx hb zd_Q_value_125 hl (k := 2) rfl (iI_add _ _) (by decide) rfl (fun ls hl => ?_)
                  refine lv_goto (tgt := 39) hx hb zd_Q_value_128 (by decide) ?_
                  exact ih (k + 1) H locs ls (by omega) (nmF_go (by omega) hF mf) (by omega) hP hD hS (lv_sub hl [0, 3, 4, 5] rfl)
                · refine lv_aload_n hx hb zd_Q_value_71 rfl (lv_at hl 4 rfl) ?_
                  refine va_get (D := g.1) (ci := 5) (v := .ref (rf 0)) (C := zR_Q) (T := zT_Q) (N := 21) hx hb hw zin_Q hown hK hP 0 rfl rfl 1 (by decide) (hw _ zw_3_199) (fun _ h9 => h9) rfl zd_Q_value_72 ?_
                  refine lv_aload_n hx hb zd_Q_value_75 rfl (lv_at hl 4 rfl) ?_
                  refine va_get (D := g.1) (ci := 5) (v := .int (iI (at0))) (C := zR_Q) (T := zT_Q) (N := 21) hx hb hw zin_Q hown hK hP 0 rfl rfl 7 (by decide) (hw _ zw_3_205) (fun _ h9 => h9) rfl zd_Q_value_76 ?_
                  refine lv_iload hx hb zd_Q_value_79 (lv_at hl 0 rfl) ?_
                  refine zi_iadd hx hb zd_Q_value_81 ?_
                  refine zi_bald hx hb hK hP 1 3 rfl rfl (by omega) zd_Q_value_82 ?_
                  have hsg2 := zSg_rg (tf := tf) (i := (at0 + 2).toNat) (hch _)
                  have hcc2 := hch (at0 + 2).toNat
                  refine lv_aload_n hx hb zd_Q_value_83 rfl (lv_at hl 3 rfl) ?_
                  refine lv_iload_n hx hb zd_Q_value_84 rfl (lv_at hl 2 rfl) ?_
                  refine zi_aaldS (k := k) hx hb hK hP 3 8 rfl rfl (by omega) (Int.toNat_natCast _) zd_Q_value_85 ?_
                  refine lv_iload hx hb zd_Q_value_86 (lv_at hl 0 rfl) ?_
                  refine zk_V (As := [.int (iI (2))]) (b := wq k) (own := "CronFinderModel") (nL := 6) (rest := [.int (iI (((zSg tf)) (at0 + 2).toNat))]) hx hb hml hown hw (c_S_charAt l g (wq k) (wv k) 3 (fun i => fWd (3 * ((k : Nat) : Int) + i)) (2) (by omega) (fun j hj => fWd_rg _ (by omega))) zw_4_85 zw_2_113 zw_2_114 zw_1_15 zw_2_115 (np := 1) (by decide +kernel) rfl ⟨rfl, rfl, Nat.le_of_ble_eq_true rfl, Nat.le_of_ble_eq_true rfl⟩ (zStr_mv (wq k) (wv k) 3 (fun i => fWd (3 * ((k : Nat) : Int) + i)) _) hK (zStr_nar (B := fun _ => False) (zStr_now (hT.2.2.2 k (by omega)) hS) (fun _ h => h.elim)) (hP.sub (ws' := []) [] rfl) (zStr_recv (zStr_nar (B := fun _ => False) (zStr_now (hT.2.2.2 k (by omega)) hS) (fun _ h => h.elim))) hl.1 rfl (Nat.le_of_ble_eq_true rfl) ⟨Nat.zero_le _, Nat.zero_le _⟩ zd_Q_value_88 ?_
                  refine zi_as (fWd (3 * ((k : Nat) : Int) + 2)) rfl ?_
                  have hf2 := fWd_rg (3 * ((k : Nat) : Int) + 2) (by omega)
                  refine zi_icmp_eq (tgt := 97) hx hb zd_Q_value_91 (by decide) (by omega) (fun c91 => ?_) (fun c91 => ?_)
                  · refine lv_iinc (v := iI (3)) (lv' := [(5, .int (iI (3))), (4, .int (iI (0))), (3, .int (iI (((k : Nat) : Int)))), (2, .ref (rf 8)), (0, .ref (qq)), (1, .int (iI (5)))]) hx hb zd_Q_value_97 hl (k := 0) rfl (by decide) (by decide) rfl (fun ls hl => ?_)
                    refine lv_goto (tgt := 51) hx hb zd_Q_value_100 (by decide) ?_
                    refine lv_iload hx hb zd_Q_value_51 (lv_at hl 0 rfl) ?_
                    refine zi_iconst hx hb zd_Q_value_53 ?_
                    refine zi_icmp_ge (tgt := 103) hx hb zd_Q_value_54 (by decide) (by omega) (fun _ => ?_) (fun c54 => absurd c54 (by decide))
                    refine lv_iload hx hb zd_Q_value_103 (lv_at hl 1 rfl) ?_
                    refine zi_if_ne (tgt := 111) hx hb zd_Q_value_105 (by decide) (by omega) (fun c105 => absurd c105 (by decide)) (fun _ => ?_)
                    refine lv_goto (tgt := 125) hx hb zd_Q_value_108 (by decide) ?_
                    refine lv_iinc (v := iI (((k : Nat) : Int) + 1)) (lv' := [(3, .int (iI (((k : Nat) : Int) + 1))), (5, .int (iI (3))), (4, .int (iI (0))), (2, .ref (rf 8)), (0, .ref (qq)), (1, .int (iI (5)))]) hx hb zd_Q_value_125 hl (k := 2) rfl (iI_add _ _) (by decide) rfl (fun ls hl => ?_)
                    refine lv_goto (tgt := 39) hx hb zd_Q_value_128 (by decide) ?_
                    exact ih (k + 1) H locs ls (by omega) (nmF_go (by omega) hF mf) (by omega) hP hD hS (lv_sub hl [0, 3, 4, 5] rfl)
                  · have mf : ¬ (¬ ln - at0 < 3 ∧ tf at0.toNat = fWd (3 * ((k : Nat) : Int)) ∧ tf (at0 + 1).toNat = fWd (3 * ((k : Nat) : Int) + 1) ∧ tf (at0 + 2).toNat = fWd (3 * ((k : Nat) : Int) + 2)) := by first | exact fun q => absurd q.1 (by omega) | exact fun q => c91 ((zSg_e hcc2 hf2).mpr (by first | exact q.2.2.1 | exact q.2.2.2 | (rw [Int.add_zero, Int.add_zero]; exact q.2.1)))
                    refine zi_iconst hx hb zd_Q_value_94 ?_
                    refine lv_istore (lv' := [(4, .int (iI (0))), (5, .int (iI (2))), (3, .int (iI (((k : Nat) : Int)))), (2, .ref (rf 8)), (0, .ref (qq)), (1, .int (iI (5)))]) hx hb zd_Q_value_95 hl (by decide) rfl (fun ls hl => ?_)
                    refine lv_iinc (v := iI (3)) (lv' := [(5, .int (iI (3))), (4, .int (iI (0))), (3, .int (iI (((k : Nat) : Int)))), (2, .ref (rf 8)), (0, .ref (qq)), (1, .int (iI (5)))]) hx hb zd_Q_value_97 hl (k := 1) rfl (by decide) (by decide) rfl (fun ls hl => ?_)
                    refine lv_goto (tgt := 51) hx hb zd_Q_value_100 (by decide) ?_
                    refine lv_iload hx hb zd_Q_value_51 (lv_at hl 0 rfl) ?_
                    refine zi_iconst hx hb zd_Q_value_53 ?_
                    refine zi_icmp_ge (tgt := 103) hx hb zd_Q_value_54 (by decide) (by omega) (fun _ => ?_) (fun c54 => absurd c54 (by decide))
                    refine lv_iload hx hb zd_Q_value_103 (lv_at hl 1 rfl) ?_
                    refine zi_if_ne (tgt := 111) hx hb zd_Q_value_105 (by decide) (by omega) (fun c105 => absurd c105 (by decide)) (fun _ => ?_)
                    refine lv_goto (tgt := 125) hx hb zd_Q_value_108 (by decide) ?_
                    refine lv_iinc (v := iI (((k : Nat) : Int) + 1)) (lv' := [(3, .int (iI (((k : Nat) : Int) + 1))), (5, .int (iI (3))), (4, .int (iI (0))), (2, .ref (rf 8)), (0, .ref (qq)), (1, .int (iI (5)))]) hx hb zd_Q_value_125 hl (k := 2) rfl (iI_add _ _) (by decide) rfl (fun ls hl => ?_)
                    refine lv_goto (tgt := 39) hx hb zd_Q_value_128 (by decide) ?_
                    exact ih (k + 1) H locs ls (by omega) (nmF_go (by omega) hF mf) (by omega) hP hD hS (lv_sub hl [0, 3, 4, 5] rfl)
              · have mf : ¬ (¬ ln - at0 < 3 ∧ tf at0.toNat = fWd (3 * ((k : Nat) : Int)) ∧ tf (at0 + 1).toNat = fWd (3 * ((k : Nat) : Int) + 1) ∧ tf (at0 + 2).toNat = fWd (3 * ((k : Nat) : Int) + 2)) := by first | exact fun q => absurd q.1 (by omega) | exact fun q => c91 ((zSg_e hcc1 hf1).mpr (by first | exact q.2.2.1 | exact q.2.2.2 | (rw [Int.add_zero, Int.add_zero]; exact q.2.1)))
                refine zi_iconst hx hb zd_Q_value_94 ?_
                refine lv_istore (lv' := [(4, .int (iI (0))), (5, .int (iI (1))), (3, .int (iI (((k : Nat) : Int)))), (2, .ref (rf 8)), (0, .ref (qq)), (1, .int (iI (5)))]) hx hb zd_Q_value_95 hl (by decide) rfl (fun ls hl => ?_)
                refine lv_iinc (v := iI (2)) (lv' := [(5, .int (iI (2))), (4, .int (iI (0))), (3, .int (iI (((k : Nat) : Int)))), (2, .ref (rf 8)), (0, .ref (qq)), (1, .int (iI (5)))]) hx hb zd_Q_value_97 hl (k := 1) rfl (by decide) (by decide) rfl (fun ls hl => ?_)
                refine lv_goto (tgt := 51) hx hb zd_Q_value_100 (by decide) ?_
                refine lv_iload hx hb zd_Q_value_51 (lv_at hl 0 rfl) ?_
                refine zi_iconst hx hb zd_Q_value_53 ?_
                refine zi_icmp_ge (tgt := 103) hx hb zd_Q_value_54 (by decide) (by omega) (fun c54 => absurd c54 (by decide)) (fun _ => ?_)
                refine lv_aload_n hx hb zd_Q_value_57 rfl (lv_at hl 4 rfl) ?_
                refine va_get (D := g.1) (ci := 5) (v := .int (iI (at0))) (C := zR_Q) (T := zT_Q) (N := 21) hx hb hw zin_Q hown hK hP 0 rfl rfl 7 (by decide) (hw _ zw_3_205) (fun _ h9 => h9) rfl zd_Q_value_58 ?_
                refine lv_iload hx hb zd_Q_value_61 (lv_at hl 0 rfl) ?_
                refine zi_iadd hx hb zd_Q_value_63 ?_
                refine lv_aload_n hx hb zd_Q_value_64 rfl (lv_at hl 4 rfl) ?_
                refine va_get (D := g.1) (ci := 5) (v := .int (iI (ln))) (C := zR_Q) (T := zT_Q) (N := 21) hx hb hw zin_Q hown hK hP 0 rfl rfl 2 (by decide) (hw _ zw_3_200) (fun _ h9 => h9) rfl zd_Q_value_65 ?_
                refine zi_icmp_ge (tgt := 94) hx hb zd_Q_value_68 (by decide) (by omega) (fun c68 => ?_) (fun c68 => ?_)
                · have mf : ¬ (¬ ln - at0 < 3 ∧ tf at0.toNat = fWd (3 * ((k : Nat) : Int)) ∧ tf (at0 + 1).toNat = fWd (3 * ((k : Nat) : Int) + 1) ∧ tf (at0 + 2).toNat = fWd (3 * ((k : Nat) : Int) + 2)) := by first | exact fun q => absurd q.1 (by omega) | exact fun q => c91 ((zSg_e hcc2 hf2).mpr (by first | exact q.2.2.1 | exact q.2.2.2 | (rw [Int.add_zero, Int.add_zero]; exact q.2.1)))
                  refine zi_iconst hx hb zd_Q_value_94 ?_
                  refine lv_istore (lv' := [(4, .int (iI (0))), (5, .int (iI (2))), (3, .int (iI (((k : Nat) : Int)))), (2, .ref (rf 8)), (0, .ref (qq)), (1, .int (iI (5)))]) hx hb zd_Q_value_95 hl (by decide) rfl (fun ls hl => ?_)
                  refine lv_iinc (v := iI (3)) (lv' := [(5, .int (iI (3))), (4, .int (iI (0))), (3, .int (iI (((k : Nat) : Int)))), (2, .ref (rf 8)), (0, .ref (qq)), (1, .int (iI (5)))]) hx hb zd_Q_value_97 hl (k := 1) rfl (by decide) (by decide) rfl (fun ls hl => ?_)
                  refine lv_goto (tgt := 51) hx hb zd_Q_value_100 (by decide) ?_
                  refine lv_iload hx hb zd_Q_value_51 (lv_at hl 0 rfl) ?_
                  refine zi_iconst hx hb zd_Q_value_53 ?_
                  refine zi_icmp_ge (tgt := 103) hx hb zd_Q_value_54 (by decide) (by omega) (fun _ => ?_) (fun c54 => absurd c54 (by decide))
                  refine lv_iload hx hb zd_Q_value_103 (lv_at hl 1 rfl) ?_
                  refine zi_if_ne (tgt := 111) hx hb zd_Q_value_105 (by decide) (by omega) (fun c105 => absurd c105 (by decide)) (fun _ => ?_)
                  refine lv_goto (tgt := 125) hx hb zd_Q_value_108 (by decide) ?_
                  refine lv_iinc (v := iI (((k : Nat) : Int) + 1)) (lv' := [(3, .int (iI (((k : Nat) : Int) + 1))), (5, .int (iI (3))), (4, .int (iI (0))), (2, .ref (rf 8)), (0, .ref (qq)), (1, .int (iI (5)))]) hx hb zd_Q_value_125 hl (k := 2) rfl (iI_add _ _) (by decide) rfl (fun ls hl => ?_)
                  refine lv_goto (tgt := 39) hx hb zd_Q_value_128 (by decide) ?_
                  exact ih (k + 1) H locs ls (by omega) (nmF_go (by omega) hF mf) (by omega) hP hD hS (lv_sub hl [0, 3, 4, 5] rfl)
                · refine lv_aload_n hx hb zd_Q_value_71 rfl (lv_at hl 4 rfl) ?_
                  refine va_get (D := g.1) (ci := 5) (v := .ref (rf 0)) (C := zR_Q) (T := zT_Q) (N := 21) hx hb hw zin_Q hown hK hP 0 rfl rfl 1 (by decide) (hw _ zw_3_199) (fun _ h9 => h9) rfl zd_Q_value_72 ?_
                  refine lv_aload_n hx hb zd_Q_value_75 rfl (lv_at hl 4 rfl) ?_
                  refine va_get (D := g.1) (ci := 5) (v := .int (iI (at0))) (C := zR_Q) (T := zT_Q) (N := 21) hx hb hw zin_Q hown hK hP 0 rfl rfl 7 (by decide) (hw _ zw_3_205) (fun _ h9 => h9) rfl zd_Q_value_76 ?_
                  refine lv_iload hx hb zd_Q_value_79 (lv_at hl 0 rfl) ?_
                  refine zi_iadd hx hb zd_Q_value_81 ?_
                  refine zi_bald hx hb hK hP 1 3 rfl rfl (by omega) zd_Q_value_82 ?_
                  have hsg2 := zSg_rg (tf := tf) (i := (at0 + 2).toNat) (hch _)
                  have hcc2 := hch (at0 + 2).toNat
                  refine lv_aload_n hx hb zd_Q_value_83 rfl (lv_at hl 3 rfl) ?_
                  refine lv_iload_n hx hb zd_Q_value_84 rfl (lv_at hl 2 rfl) ?_
                  refine zi_aaldS (k := k) hx hb hK hP 3 8 rfl rfl (by omega) (Int.toNat_natCast _) zd_Q_value_85 ?_
                  refine lv_iload hx hb zd_Q_value_86 (lv_at hl 0 rfl) ?_
                  refine zk_V (As := [.int (iI (2))]) (b := wq k) (own := "CronFinderModel") (nL := 6) (rest := [.int (iI (((zSg tf)) (at0 + 2).toNat))]) hx hb hml hown hw (c_S_charAt l g (wq k) (wv k) 3 (fun i => fWd (3 * ((k : Nat) : Int) + i)) (2) (by omega) (fun j hj => fWd_rg _ (by omega))) zw_4_85 zw_2_113 zw_2_114 zw_1_15 zw_2_115 (np := 1) (by decide +kernel) rfl ⟨rfl, rfl, Nat.le_of_ble_eq_true rfl, Nat.le_of_ble_eq_true rfl⟩ (zStr_mv (wq k) (wv k) 3 (fun i => fWd (3 * ((k : Nat) : Int) + i)) _) hK (zStr_nar (B := fun _ => False) (zStr_now (hT.2.2.2 k (by omega)) hS) (fun _ h => h.elim)) (hP.sub (ws' := []) [] rfl) (zStr_recv (zStr_nar (B := fun _ => False) (zStr_now (hT.2.2.2 k (by omega)) hS) (fun _ h => h.elim))) hl.1 rfl (Nat.le_of_ble_eq_true rfl) ⟨Nat.zero_le _, Nat.zero_le _⟩ zd_Q_value_88 ?_
                  refine zi_as (fWd (3 * ((k : Nat) : Int) + 2)) rfl ?_
                  have hf2 := fWd_rg (3 * ((k : Nat) : Int) + 2) (by omega)
                  refine zi_icmp_eq (tgt := 97) hx hb zd_Q_value_91 (by decide) (by omega) (fun c91 => ?_) (fun c91 => ?_)
                  · refine lv_iinc (v := iI (3)) (lv' := [(5, .int (iI (3))), (4, .int (iI (0))), (3, .int (iI (((k : Nat) : Int)))), (2, .ref (rf 8)), (0, .ref (qq)), (1, .int (iI (5)))]) hx hb zd_Q_value_97 hl (k := 0) rfl (by decide) (by decide) rfl (fun ls hl => ?_)
                    refine lv_goto (tgt := 51) hx hb zd_Q_value_100 (by decide) ?_
                    refine lv_iload hx hb zd_Q_value_51 (lv_at hl 0 rfl) ?_
                    refine zi_iconst hx hb zd_Q_value_53 ?_
                    refine zi_icmp_ge (tgt := 103) hx hb zd_Q_value_54 (by decide) (by omega) (fun _ => ?_) (fun c54 => absurd c54 (by decide))
                    refine lv_iload hx hb zd_Q_value_103 (lv_at hl 1 rfl) ?_
                    refine zi_if_ne (tgt := 111) hx hb zd_Q_value_105 (by decide) (by omega) (fun c105 => absurd c105 (by decide)) (fun _ => ?_)
                    refine lv_goto (tgt := 125) hx hb zd_Q_value_108 (by decide) ?_
                    refine lv_iinc (v := iI (((k : Nat) : Int) + 1)) (lv' := [(3, .int (iI (((k : Nat) : Int) + 1))), (5, .int (iI (3))), (4, .int (iI (0))), (2, .ref (rf 8)), (0, .ref (qq)), (1, .int (iI (5)))]) hx hb zd_Q_value_125 hl (k := 2) rfl (iI_add _ _) (by decide) rfl (fun ls hl => ?_)
                    refine lv_goto (tgt := 39) hx hb zd_Q_value_128 (by decide) ?_
                    exact ih (k + 1) H locs ls (by omega) (nmF_go (by omega) hF mf) (by omega) hP hD hS (lv_sub hl [0, 3, 4, 5] rfl)
                  · have mf : ¬ (¬ ln - at0 < 3 ∧ tf at0.toNat = fWd (3 * ((k : Nat) : Int)) ∧ tf (at0 + 1).toNat = fWd (3 * ((k : Nat) : Int) + 1) ∧ tf (at0 + 2).toNat = fWd (3 * ((k : Nat) : Int) + 2)) := by first | exact fun q => absurd q.1 (by omega) | exact fun q => c91 ((zSg_e hcc2 hf2).mpr (by first | exact q.2.2.1 | exact q.2.2.2 | (rw [Int.add_zero, Int.add_zero]; exact q.2.1)))
                    refine zi_iconst hx hb zd_Q_value_94 ?_
                    refine lv_istore (lv' := [(4, .int (iI (0))), (5, .int (iI (2))), (3, .int (iI (((k : Nat) : Int)))), (2, .ref (rf 8)), (0, .ref (qq)), (1, .int (iI (5)))]) hx hb zd_Q_value_95 hl (by decide) rfl (fun ls hl => ?_)
                    refine lv_iinc (v := iI (3)) (lv' := [(5, .int (iI (3))), (4, .int (iI (0))), (3, .int (iI (((k : Nat) : Int)))), (2, .ref (rf 8)), (0, .ref (qq)), (1, .int (iI (5)))]) hx hb zd_Q_value_97 hl (k := 1) rfl (by decide) (by decide) rfl (fun ls hl => ?_)
                    refine lv_goto (tgt := 51) hx hb zd_Q_value_100 (by decide) ?_
                    refine lv_iload hx hb zd_Q_value_51 (lv_at hl 0 rfl) ?_
                    refine zi_iconst hx hb zd_Q_value_53 ?_
                    refine zi_icmp_ge (tgt := 103) hx hb zd_Q_value_54 (by decide) (by omega) (fun _ => ?_) (fun c54 => absurd c54 (by decide))
                    refine lv_iload hx hb zd_Q_value_103 (lv_at hl 1 rfl) ?_
                    refine zi_if_ne (tgt := 111) hx hb zd_Q_value_105 (by decide) (by omega) (fun c105 => absurd c105 (by decide)) (fun _ => ?_)
                    refine lv_goto (tgt := 125) hx hb zd_Q_value_108 (by decide) ?_
                    refine lv_iinc (v := iI (((k : Nat) : Int) + 1)) (lv' := [(3, .int (iI (((k : Nat) : Int) + 1))), (5, .int (iI (3))), (4, .int (iI (0))), (2, .ref (rf 8)), (0, .ref (qq)), (1, .int (iI (5)))]) hx hb zd_Q_value_125 hl (k := 2) rfl (iI_add _ _) (by decide) rfl (fun ls hl => ?_)
                    refine lv_goto (tgt := 39) hx hb zd_Q_value_128 (by decide) ?_
                    exact ih (k + 1) H locs ls (by omega) (nmF_go (by omega) hF mf) (by omega) hP hD hS (lv_sub hl [0, 3, 4, 5] rfl)
          · refine lv_aload_n hx hb zd_Q_value_71 rfl (lv_at hl 4 rfl) ?_
            refine va_get (D := g.1) (ci := 5) (v := .ref (rf 0)) (C := zR_Q) (T := zT_Q) (N := 21) hx hb hw zin_Q hown hK hP 0 rfl rfl 1 (by decide) (hw _ zw_3_199) (fun _ h9 => h9) rfl zd_Q_value_72 ?_
            refine lv_aload_n hx hb zd_Q_value_75 rfl (lv_at hl 4 rfl) ?_
            refine va_get (D := g.1) (ci := 5) (v := .int (iI (at0))) (C := zR_Q) (T := zT_Q) (N := 21) hx hb hw zin_Q hown hK hP 0 rfl rfl 7 (by decide) (hw _ zw_3_205) (fun _ h9 => h9) rfl zd_Q_value_76 ?_
            refine lv_iload hx hb zd_Q_value_79 (lv_at hl 0 rfl) ?_
            refine zi_iadd hx hb zd_Q_value_81 ?_
            refine zi_bald hx hb hK hP 1 3 rfl rfl (by omega) zd_Q_value_82 ?_
            have hsg0 := zSg_rg (tf := tf) (i := (at0 + 0).toNat) (hch _)
            have hcc0 := hch (at0 + 0).toNat
            refine lv_aload_n hx hb zd_Q_value_83 rfl (lv_at hl 3 rfl) ?_
            refine lv_iload_n hx hb zd_Q_value_84 rfl (lv_at hl 2 rfl) ?_
            refine zi_aaldS (k := k) hx hb hK hP 3 8 rfl rfl (by omega) (Int.toNat_natCast _) zd_Q_value_85 ?_
            refine lv_iload hx hb zd_Q_value_86 (lv_at hl 0 rfl) ?_
            refine zk_V (As := [.int (iI (0))]) (b := wq k) (own := "CronFinderModel") (nL := 6) (rest := [.int (iI (((zSg tf)) (at0 + 0).toNat))]) hx hb hml hown hw (c_S_charAt l g (wq k) (wv k) 3 (fun i => fWd (3 * ((k : Nat) : Int) + i)) (0) (by omega) (fun j hj => fWd_rg _ (by omega))) zw_4_85 zw_2_113 zw_2_114 zw_1_15 zw_2_115 (np := 1) (by decide +kernel) rfl ⟨rfl, rfl, Nat.le_of_ble_eq_true rfl, Nat.le_of_ble_eq_true rfl⟩ (zStr_mv (wq k) (wv k) 3 (fun i => fWd (3 * ((k : Nat) : Int) + i)) _) hK (zStr_nar (B := fun _ => False) (zStr_now (hT.2.2.2 k (by omega)) hS) (fun _ h => h.elim)) (hP.sub (ws' := []) [] rfl) (zStr_recv (zStr_nar (B := fun _ => False) (zStr_now (hT.2.2.2 k (by omega)) hS) (fun _ h => h.elim))) hl.1 rfl (Nat.le_of_ble_eq_true rfl) ⟨Nat.zero_le _, Nat.zero_le _⟩ zd_Q_value_88 ?_
            refine zi_as (fWd (3 * ((k : Nat) : Int) + 0)) rfl ?_
            have hf0 := fWd_rg (3 * ((k : Nat) : Int) + 0) (by omega)
            refine zi_icmp_eq (tgt := 97) hx hb zd_Q_value_91 (by decide) (by omega) (fun c91 => ?_) (fun c91 => ?_)
            · have mt0 : at0 + 0 < ln ∧ tf (at0 + 0).toNat = fWd (3 * ((k : Nat) : Int) + 0) := ⟨by omega, (zSg_e hcc0 hf0).mp c91⟩
              refine lv_iinc (v := iI (1)) (lv' := [(5, .int (iI (1))), (4, .int (iI (1))), (3, .int (iI (((k : Nat) : Int)))), (2, .ref (rf 8)), (0, .ref (qq)), (1, .int (iI (5)))]) hx hb zd_Q_value_97 hl (k := 0) rfl (by decide) (by decide) rfl (fun ls hl => ?_)
              refine lv_goto (tgt := 51) hx hb zd_Q_value_100 (by decide) ?_
              refine lv_iload hx hb zd_Q_value_51 (lv_at hl 0 rfl) ?_
              refine zi_iconst hx hb zd_Q_value_53 ?_
              refine zi_icmp_ge (tgt := 103) hx hb zd_Q_value_54 (by decide) (by omega) (fun c54 => absurd c54 (by decide)) (fun _ => ?_)
              refine lv_aload_n hx hb zd_Q_value_57 rfl (lv_at hl 4 rfl) ?_
              refine va_get (D := g.1) (ci := 5) (v := .int (iI (at0))) (C := zR_Q) (T := zT_Q) (N := 21) hx hb hw zin_Q hown hK hP 0 rfl rfl 7 (by decide) (hw _ zw_3_205) (fun _ h9 => h9) rfl zd_Q_value_58 ?_
              refine lv_iload hx hb zd_Q_value_61 (lv_at hl 0 rfl) ?_
              refine zi_iadd hx hb zd_Q_value_63 ?_
              refine lv_aload_n hx hb zd_Q_value_64 rfl (lv_at hl 4 rfl) ?_
              refine va_get (D := g.1) (ci := 5) (v := .int (iI (ln))) (C := zR_Q) (T := zT_Q) (N := 21) hx hb hw zin_Q hown hK hP 0 rfl rfl 2 (by decide) (hw _ zw_3_200) (fun _ h9 => h9) rfl zd_Q_value_65 ?_
              refine zi_icmp_ge (tgt := 94) hx hb zd_Q_value_68 (by decide) (by omega) (fun c68 => ?_) (fun c68 => ?_)
              · have mf : ¬ (¬ ln - at0 < 3 ∧ tf at0.toNat = fWd (3 * ((k : Nat) : Int)) ∧ tf (at0 + 1).toNat = fWd (3 * ((k : Nat) : Int) + 1) ∧ tf (at0 + 2).toNat = fWd (3 * ((k : Nat) : Int) + 2)) := by first | exact fun q => absurd q.1 (by omega) | exact fun q => c91 ((zSg_e hcc1 hf1).mpr (by first | exact q.2.2.1 | exact q.2.2.2 | (rw [Int.add_zero, Int.add_zero]; exact q.2.1)))
                refine zi_iconst hx hb zd_Q_value_94 ?_
                refine lv_istore (lv' := [(4, .int (iI (0))), (5, .int (iI (1))), (3, .int (iI (((k : Nat) : Int)))), (2, .ref (rf 8)), (0, .ref (qq)), (1, .int (iI (5)))]) hx hb zd_Q_value_95 hl (by decide) rfl (fun ls hl => ?_)
                refine lv_iinc (v := iI (2)) (lv' := [(5, .int (iI (2))), (4, .int (iI (0))), (3, .int (iI (((k : Nat) : Int)))), (2, .ref (rf 8)), (0, .ref (qq)), (1, .int (iI (5)))]) hx hb zd_Q_value_97 hl (k := 1) rfl (by decide) (by decide) rfl (fun ls hl => ?_)
                refine lv_goto (tgt := 51) hx hb zd_Q_value_100 (by decide) ?_
                refine lv_iload hx hb zd_Q_value_51 (lv_at hl 0 rfl) ?_
                refine zi_iconst hx hb zd_Q_value_53 ?_
                refine zi_icmp_ge (tgt := 103) hx hb zd_Q_value_54 (by decide) (by omega) (fun c54 => absurd c54 (by decide)) (fun _ => ?_)
                refine lv_aload_n hx hb zd_Q_value_57 rfl (lv_at hl 4 rfl) ?_
                refine va_get (D := g.1) (ci := 5) (v := .int (iI (at0))) (C := zR_Q) (T := zT_Q) (N := 21) hx hb hw zin_Q hown hK hP 0 rfl rfl 7 (by decide) (hw _ zw_3_205) (fun _ h9 => h9) rfl zd_Q_value_58 ?_
                refine lv_iload hx hb zd_Q_value_61 (lv_at hl 0 rfl) ?_
                refine zi_iadd hx hb zd_Q_value_63 ?_
                refine lv_aload_n hx hb zd_Q_value_64 rfl (lv_at hl 4 rfl) ?_
                refine va_get (D := g.1) (ci := 5) (v := .int (iI (ln))) (C := zR_Q) (T := zT_Q) (N := 21) hx hb hw zin_Q hown hK hP 0 rfl rfl 2 (by decide) (hw _ zw_3_200) (fun _ h9 => h9) rfl zd_Q_value_65 ?_
                refine zi_icmp_ge (tgt := 94) hx hb zd_Q_value_68 (by decide) (by omega) (fun c68 => ?_) (fun c68 => ?_)
                · have mf : ¬ (¬ ln - at0 < 3 ∧ tf at0.toNat = fWd (3 * ((k : Nat) : Int)) ∧ tf (at0 + 1).toNat = fWd (3 * ((k : Nat) : Int) + 1) ∧ tf (at0 + 2).toNat = fWd (3 * ((k : Nat) : Int) + 2)) := by first | exact fun q => absurd q.1 (by omega) | exact fun q => c91 ((zSg_e hcc2 hf2).mpr (by first | exact q.2.2.1 | exact q.2.2.2 | (rw [Int.add_zero, Int.add_zero]; exact q.2.1)))
                  refine zi_iconst hx hb zd_Q_value_94 ?_
                  refine lv_istore (lv' := [(4, .int (iI (0))), (5, .int (iI (2))), (3, .int (iI (((k : Nat) : Int)))), (2, .ref (rf 8)), (0, .ref (qq)), (1, .int (iI (5)))]) hx hb zd_Q_value_95 hl (by decide) rfl (fun ls hl => ?_)
                  refine lv_iinc (v := iI (3)) (lv' := [(5, .int (iI (3))), (4, .int (iI (0))), (3, .int (iI (((k : Nat) : Int)))), (2, .ref (rf 8)), (0, .ref (qq)), (1, .int (iI (5)))]) hx hb zd_Q_value_97 hl (k := 1) rfl (by decide) (by decide) rfl (fun ls hl => ?_)
                  refine lv_goto (tgt := 51) hx hb zd_Q_value_100 (by decide) ?_
                  refine lv_iload hx hb zd_Q_value_51 (lv_at hl 0 rfl) ?_
                  refine zi_iconst hx hb zd_Q_value_53 ?_
                  refine zi_icmp_ge (tgt := 103) hx hb zd_Q_value_54 (by decide) (by omega) (fun _ => ?_) (fun c54 => absurd c54 (by decide))
                  refine lv_iload hx hb zd_Q_value_103 (lv_at hl 1 rfl) ?_
                  refine zi_if_ne (tgt := 111) hx hb zd_Q_value_105 (by decide) (by omega) (fun c105 => absurd c105 (by decide)) (fun _ => ?_)
                  refine lv_goto (tgt := 125) hx hb zd_Q_value_108 (by decide) ?_
                  refine lv_iinc (v := iI (((k : Nat) : Int) + 1)) (lv' := [(3, .int (iI (((k : Nat) : Int) + 1))), (5, .int (iI (3))), (4, .int (iI (0))), (2, .ref (rf 8)), (0, .ref (qq)), (1, .int (iI (5)))]) hx hb zd_Q_value_125 hl (k := 2) rfl (iI_add _ _) (by decide) rfl (fun ls hl => ?_)
                  refine lv_goto (tgt := 39) hx hb zd_Q_value_128 (by decide) ?_
                  exact ih (k + 1) H locs ls (by omega) (nmF_go (by omega) hF mf) (by omega) hP hD hS (lv_sub hl [0, 3, 4, 5] rfl)
                · refine lv_aload_n hx hb zd_Q_value_71 rfl (lv_at hl 4 rfl) ?_
                  refine va_get (D := g.1) (ci := 5) (v := .ref (rf 0)) (C := zR_Q) (T := zT_Q) (N := 21) hx hb hw zin_Q hown hK hP 0 rfl rfl 1 (by decide) (hw _ zw_3_199) (fun _ h9 => h9) rfl zd_Q_value_72 ?_
                  refine lv_aload_n hx hb zd_Q_value_75 rfl (lv_at hl 4 rfl) ?_
                  refine va_get (D := g.1) (ci := 5) (v := .int (iI (at0))) (C := zR_Q) (T := zT_Q) (N := 21) hx hb hw zin_Q hown hK hP 0 rfl rfl 7 (by decide) (hw _ zw_3_205) (fun _ h9 => h9) rfl zd_Q_value_76 ?_
                  refine lv_iload hx hb zd_Q_value_79 (lv_at hl 0 rfl) ?_
                  refine zi_iadd hx hb zd_Q_value_81 ?_
                  refine zi_bald hx hb hK hP 1 3 rfl rfl (by omega) zd_Q_value_82 ?_
                  have hsg2 := zSg_rg (tf := tf) (i := (at0 + 2).toNat) (hch _)
                  have hcc2 := hch (at0 + 2).toNat
                  refine lv_aload_n hx hb zd_Q_value_83 rfl (lv_at hl 3 rfl) ?_
                  refine lv_iload_n hx hb zd_Q_value_84 rfl (lv_at hl 2 rfl) ?_
                  refine zi_aaldS (k := k) hx hb hK hP 3 8 rfl rfl (by omega) (Int.toNat_natCast _) zd_Q_value_85 ?_
                  refine lv_iload hx hb zd_Q_value_86 (lv_at hl 0 rfl) ?_
                  refine zk_V (As := [.int (iI (2))]) (b := wq k) (own := "CronFinderModel") (nL := 6) (rest := [.int (iI (((zSg tf)) (at0 + 2).toNat))]) hx hb hml hown hw (c_S_charAt l g (wq k) (wv k) 3 (fun i => fWd (3 * ((k : Nat) : Int) + i)) (2) (by omega) (fun j hj => fWd_rg _ (by omega))) zw_4_85 zw_2_113 zw_2_114 zw_1_15 zw_2_115 (np := 1) (by decide +kernel) rfl ⟨rfl, rfl, Nat.le_of_ble_eq_true rfl, Nat.le_of_ble_eq_true rfl⟩ (zStr_mv (wq k) (wv k) 3 (fun i => fWd (3 * ((k : Nat) : Int) + i)) _) hK (zStr_nar (B := fun _ => False) (zStr_now (hT.2.2.2 k (by omega)) hS) (fun _ h => h.elim)) (hP.sub (ws' := []) [] rfl) (zStr_recv (zStr_nar (B := fun _ => False) (zStr_now (hT.2.2.2 k (by omega)) hS) (fun _ h => h.elim))) hl.1 rfl (Nat.le_of_ble_eq_true rfl) ⟨Nat.zero_le _, Nat.zero_le _⟩ zd_Q_value_88 ?_
                  refine zi_as (fWd (3 * ((k : Nat) : Int) + 2)) rfl ?_
                  have hf2 := fWd_rg (3 * ((k : Nat) : Int) + 2) (by omega)
                  refine zi_icmp_eq (tgt := 97) hx hb zd_Q_value_91 (by decide) (by omega) (fun c91 => ?_) (fun c91 => ?_)
                  · refine lv_iinc (v := iI (3)) (lv' := [(5, .int (iI (3))), (4, .int (iI (0))), (3, .int (iI (((k : Nat) : Int)))), (2, .ref (rf 8)), (0, .ref (qq)), (1, .int (iI (5)))]) hx hb zd_Q_value_97 hl (k := 0) rfl (by decide) (by decide) rfl (fun ls hl => ?_)
                    refine lv_goto (tgt := 51) hx hb zd_Q_value_100 (by decide) ?_
                    refine lv_iload hx hb zd_Q_value_51 (lv_at hl 0 rfl) ?_
                    refine zi_iconst hx hb zd_Q_value_53 ?_
                    refine zi_icmp_ge (tgt := 103) hx hb zd_Q_value_54 (by decide) (by omega) (fun _ => ?_) (fun c54 => absurd c54 (by decide))
                    refine lv_iload hx hb zd_Q_value_103 (lv_at hl 1 rfl) ?_
                    refine zi_if_ne (tgt := 111) hx hb zd_Q_value_105 (by decide) (by omega) (fun c105 => absurd c105 (by decide)) (fun _ => ?_)
                    refine lv_goto (tgt := 125) hx hb zd_Q_value_108 (by decide) ?_
                    refine lv_iinc (v := iI (((k : Nat) : Int) + 1)) (lv' := [(3, .int (iI (((k : Nat) : Int) + 1))), (5, .int (iI (3))), (4, .int (iI (0))), (2, .ref (rf 8)), (0, .ref (qq)), (1, .int (iI (5)))]) hx hb zd_Q_value_125 hl (k := 2) rfl (iI_add _ _) (by decide) rfl (fun ls hl => ?_)
                    refine lv_goto (tgt := 39) hx hb zd_Q_value_128 (by decide) ?_
                    exact ih (k + 1) H locs ls (by omega) (nmF_go (by omega) hF mf) (by omega) hP hD hS (lv_sub hl [0, 3, 4, 5] rfl)
                  · have mf : ¬ (¬ ln - at0 < 3 ∧ tf at0.toNat = fWd (3 * ((k : Nat) : Int)) ∧ tf (at0 + 1).toNat = fWd (3 * ((k : Nat) : Int) + 1) ∧ tf (at0 + 2).toNat = fWd (3 * ((k : Nat) : Int) + 2)) := by first | exact fun q => absurd q.1 (by omega) | exact fun q => c91 ((zSg_e hcc2 hf2).mpr (by first | exact q.2.2.1 | exact q.2.2.2 | (rw [Int.add_zero, Int.add_zero]; exact q.2.1)))
                    refine zi_iconst hx hb zd_Q_value_94 ?_
                    refine lv_istore (lv' := [(4, .int (iI (0))), (5, .int (iI (2))), (3, .int (iI (((k : Nat) : Int)))), (2, .ref (rf 8)), (0, .ref (qq)), (1, .int (iI (5)))]) hx hb zd_Q_value_95 hl (by decide) rfl (fun ls hl => ?_)
                    refine lv_iinc (v := iI (3)) (lv' := [(5, .int (iI (3))), (4, .int (iI (0))), (3, .int (iI (((k : Nat) : Int)))), (2, .ref (rf 8)), (0, .ref (qq)), (1, .int (iI (5)))]) hx hb zd_Q_value_97 hl (k := 1) rfl (by decide) (by decide) rfl (fun ls hl => ?_)
                    refine lv_goto (tgt := 51) hx hb zd_Q_value_100 (by decide) ?_
                    refine lv_iload hx hb zd_Q_value_51 (lv_at hl 0 rfl) ?_
                    refine zi_iconst hx hb zd_Q_value_53 ?_
                    refine zi_icmp_ge (tgt := 103) hx hb zd_Q_value_54 (by decide) (by omega) (fun _ => ?_) (fun c54 => absurd c54 (by decide))
                    refine lv_iload hx hb zd_Q_value_103 (lv_at hl 1 rfl) ?_
                    refine zi_if_ne (tgt := 111) hx hb zd_Q_value_105 (by decide) (by omega) (fun c105 => absurd c105 (by decide)) (fun _ => ?_)
                    refine lv_goto (tgt := 125) hx hb zd_Q_value_108 (by decide) ?_
                    refine lv_iinc (v := iI (((k : Nat) : Int) + 1)) (lv' := [(3, .int (iI (((k : Nat) : Int) + 1))), (5, .int (iI (3))), (4, .int (iI (0))), (2, .ref (rf 8)), (0, .ref (qq)), (1, .int (iI (5)))]) hx hb zd_Q_value_125 hl (k := 2) rfl (iI_add _ _) (by decide) rfl (fun ls hl => ?_)
                    refine lv_goto (tgt := 39) hx hb zd_Q_value_128 (by decide) ?_
                    exact ih (k + 1) H locs ls (by omega) (nmF_go (by omega) hF mf) (by omega) hP hD hS (lv_sub hl [0, 3, 4, 5] rfl)
              · refine lv_aload_n hx hb zd_Q_value_71 rfl (lv_at hl 4 rfl) ?_
                refine va_get (D := g.1) (ci := 5) (v := .ref (rf 0)) (C := zR_Q) (T := zT_Q) (N := 21) hx hb hw zin_Q hown hK hP 0 rfl rfl 1 (by decide) (hw _ zw_3_199) (fun _ h9 => h9) rfl zd_Q_value_72 ?_
                refine lv_aload_n hx hb zd_Q_value_75 rfl (lv_at hl 4 rfl) ?_
                refine va_get (D := g.1) (ci := 5) (v := .int (iI (at0))) (C := zR_Q) (T := zT_Q) (N := 21) hx hb hw zin_Q hown hK hP 0 rfl rfl 7 (by decide) (hw _ zw_3_205) (fun _ h9 => h9) rfl zd_Q_value_76 ?_
                refine lv_iload hx hb zd_Q_value_79 (lv_at hl 0 rfl) ?_
                refine zi_iadd hx hb zd_Q_value_81 ?_
                refine zi_bald hx hb hK hP 1 3 rfl rfl (by omega) zd_Q_value_82 ?_
                have hsg1 := zSg_rg (tf := tf) (i := (at0 + 1).toNat) (hch _)
                have hcc1 := hch (at0 + 1).toNat
                refine lv_aload_n hx hb zd_Q_value_83 rfl (lv_at hl 3 rfl) ?_
                refine lv_iload_n hx hb zd_Q_value_84 rfl (lv_at hl 2 rfl) ?_
                refine zi_aaldS (k := k) hx hb hK hP 3 8 rfl rfl (by omega) (Int.toNat_natCast _) zd_Q_value_85 ?_
                refine lv_iload hx hb zd_Q_value_86 (lv_at hl 0 rfl) ?_
                refine zk_V (As := [.int (iI (1))]) (b := wq k) (own := "CronFinderModel") (nL := 6) (rest := [.int (iI (((zSg tf)) (at0 + 1).toNat))]) hx hb hml hown hw (c_S_charAt l g (wq k) (wv k) 3 (fun i => fWd (3 * ((k : Nat) : Int) + i)) (1) (by omega) (fun j hj => fWd_rg _ (by omega))) zw_4_85 zw_2_113 zw_2_114 zw_1_15 zw_2_115 (np := 1) (by decide +kernel) rfl ⟨rfl, rfl, Nat.le_of_ble_eq_true rfl, Nat.le_of_ble_eq_true rfl⟩ (zStr_mv (wq k) (wv k) 3 (fun i => fWd (3 * ((k : Nat) : Int) + i)) _) hK (zStr_nar (B := fun _ => False) (zStr_now (hT.2.2.2 k (by omega)) hS) (fun _ h => h.elim)) (hP.sub (ws' := []) [] rfl) (zStr_recv (zStr_nar (B := fun _ => False) (zStr_now (hT.2.2.2 k (by omega)) hS) (fun _ h => h.elim))) hl.1 rfl (Nat.le_of_ble_eq_true rfl) ⟨Nat.zero_le _, Nat.zero_le _⟩ zd_Q_value_88 ?_
                refine zi_as (fWd (3 * ((k : Nat) : Int) + 1)) rfl ?_
                have hf1 := fWd_rg (3 * ((k : Nat) : Int) + 1) (by omega)
                refine zi_icmp_eq (tgt := 97) hx hb zd_Q_value_91 (by decide) (by omega) (fun c91 => ?_) (fun c91 => ?_)
                · have mt1 : at0 + 1 < ln ∧ tf (at0 + 1).toNat = fWd (3 * ((k : Nat) : Int) + 1) := ⟨by omega, (zSg_e hcc1 hf1).mp c91⟩
                  refine lv_iinc (v := iI (2)) (lv' := [(5, .int (iI (2))), (4, .int (iI (1))), (3, .int (iI (((k : Nat) : Int)))), (2, .ref (rf 8)), (0, .ref (qq)), (1, .int (iI (5)))]) hx hb zd_Q_value_97 hl (k := 0) rfl (by decide) (by decide) rfl (fun ls hl => ?_)
                  refine lv_goto (tgt := 51) hx hb zd_Q_value_100 (by decide) ?_
                  refine lv_iload hx hb zd_Q_value_51 (lv_at hl 0 rfl) ?_
                  refine zi_iconst hx hb zd_Q_value_53 ?_
                  refine zi_icmp_ge (tgt := 103) hx hb zd_Q_value_54 (by decide) (by omega) (fun c54 => absurd c54 (by decide)) (fun _ => ?_)
                  refine lv_aload_n hx hb zd_Q_value_57 rfl (lv_at hl 4 rfl) ?_
                  refine va_get (D := g.1) (ci := 5) (v := .int (iI (at0))) (C := zR_Q) (T := zT_Q) (N := 21) hx hb hw zin_Q hown hK hP 0 rfl rfl 7 (by decide) (hw _ zw_3_205) (fun _ h9 => h9) rfl zd_Q_value_58 ?_
                  refine lv_iload hx hb zd_Q_value_61 (lv_at hl 0 rfl) ?_
                  refine zi_iadd hx hb zd_Q_value_63 ?_
                  refine lv_aload_n hx hb zd_Q_value_64 rfl (lv_at hl 4 rfl) ?_
                  refine va_get (D := g.1) (ci := 5) (v := .int (iI (ln))) (C := zR_Q) (T := zT_Q) (N := 21) hx hb hw zin_Q hown hK hP 0 rfl rfl 2 (by decide) (hw _ zw_3_200) (fun _ h9 => h9) rfl zd_Q_value_65 ?_
                  refine zi_icmp_ge (tgt := 94) hx hb zd_Q_value_68 (by decide) (by omega) (fun c68 => ?_) (fun c68 => ?_)
                  · have mf : ¬ (¬ ln - at0 < 3 ∧ tf at0.toNat = fWd (3 * ((k : Nat) : Int)) ∧ tf (at0 + 1).toNat = fWd (3 * ((k : Nat) : Int) + 1) ∧ tf (at0 + 2).toNat = fWd (3 * ((k : Nat) : Int) + 2)) := by first | exact fun q => absurd q.1 (by omega) | exact fun q => c91 ((zSg_e hcc2 hf2).mpr (by first | exact q.2.2.1 | exact q.2.2.2 | (rw [Int.add_zero, Int.add_zero]; exact q.2.1)))
                    refine zi_iconst hx hb zd_Q_value_94 ?_
                    refine lv_istore (lv' := [(4, .int (iI (0))), (5, .int (iI (2))), (3, .int (iI (((k : Nat) : Int)))), (2, .ref (rf 8)), (0, .ref (qq)), (1, .int (iI (5)))]) hx hb zd_Q_value_95 hl (by decide) rfl (fun ls hl => ?_)
                    refine lv_iinc (v := iI (3)) (lv' := [(5, .int (iI (3))), (4, .int (iI (0))), (3, .int (iI (((k : Nat) : Int)))), (2, .ref (rf 8)), (0, .ref (qq)), (1, .int (iI (5)))]) hx hb zd_Q_value_97 hl (k := 1) rfl (by decide) (by decide) rfl (fun ls hl => ?_)
                    refine lv_goto (tgt := 51) hx hb zd_Q_value_100 (by decide) ?_
                    refine lv_iload hx hb zd_Q_value_51 (lv_at hl 0 rfl) ?_
                    refine zi_iconst hx hb zd_Q_value_53 ?_
                    refine zi_icmp_ge (tgt := 103) hx hb zd_Q_value_54 (by decide) (by omega) (fun _ => ?_) (fun c54 => absurd c54 (by decide))
                    refine lv_iload hx hb zd_Q_value_103 (lv_at hl 1 rfl) ?_
                    refine zi_if_ne (tgt := 111) hx hb zd_Q_value_105 (by decide) (by omega) (fun c105 => absurd c105 (by decide)) (fun _ => ?_)
                    refine lv_goto (tgt := 125) hx hb zd_Q_value_108 (by decide) ?_
                    refine lv_iinc (v := iI (((k : Nat) : Int) + 1)) (lv' := [(3, .int (iI (((k : Nat) : Int) + 1))), (5, .int (iI (3))), (4, .int (iI (0))), (2, .ref (rf 8)), (0, .ref (qq)), (1, .int (iI (5)))]) hx hb zd_Q_value_125 hl (k := 2) rfl (iI_add _ _) (by decide) rfl (fun ls hl => ?_)
                    refine lv_goto (tgt := 39) hx hb zd_Q_value_128 (by decide) ?_
                    exact ih (k + 1) H locs ls (by omega) (nmF_go (by omega) hF mf) (by omega) hP hD hS (lv_sub hl [0, 3, 4, 5] rfl)
                  · refine lv_aload_n hx hb zd_Q_value_71 rfl (lv_at hl 4 rfl) ?_
                    refine va_get (D := g.1) (ci := 5) (v := .ref (rf 0)) (C := zR_Q) (T := zT_Q) (N := 21) hx hb hw zin_Q hown hK hP 0 rfl rfl 1 (by decide) (hw _ zw_3_199) (fun _ h9 => h9) rfl zd_Q_value_72 ?_
                    refine lv_aload_n hx hb zd_Q_value_75 rfl (lv_at hl 4 rfl) ?_
                    refine va_get (D := g.1) (ci := 5) (v := .int (iI (at0))) (C := zR_Q) (T := zT_Q) (N := 21) hx hb hw zin_Q hown hK hP 0 rfl rfl 7 (by decide) (hw _ zw_3_205) (fun _ h9 => h9) rfl zd_Q_value_76 ?_
                    refine lv_iload hx hb zd_Q_value_79 (lv_at hl 0 rfl) ?_
                    refine zi_iadd hx hb zd_Q_value_81 ?_
                    refine zi_bald hx hb hK hP 1 3 rfl rfl (by omega) zd_Q_value_82 ?_
                    have hsg2 := zSg_rg (tf := tf) (i := (at0 + 2).toNat) (hch _)
                    have hcc2 := hch (at0 + 2).toNat
                    refine lv_aload_n hx hb zd_Q_value_83 rfl (lv_at hl 3 rfl) ?_
                    refine lv_iload_n hx hb zd_Q_value_84 rfl (lv_at hl 2 rfl) ?_
                    refine zi_aaldS (k := k) hx hb hK hP 3 8 rfl rfl (by omega) (Int.toNat_natCast _) zd_Q_value_85 ?_
                    refine lv_iload hx hb zd_Q_value_86 (lv_at hl 0 rfl) ?_
                    refine zk_V (As := [.int (iI (2))]) (b := wq k) (own := "CronFinderModel") (nL := 6) (rest := [.int (iI (((zSg tf)) (at0 + 2).toNat))]) hx hb hml hown hw (c_S_charAt l g (wq k) (wv k) 3 (fun i => fWd (3 * ((k : Nat) : Int) + i)) (2) (by omega) (fun j hj => fWd_rg _ (by omega))) zw_4_85 zw_2_113 zw_2_114 zw_1_15 zw_2_115 (np := 1) (by decide +kernel) rfl ⟨rfl, rfl, Nat.le_of_ble_eq_true rfl, Nat.le_of_ble_eq_true rfl⟩ (zStr_mv (wq k) (wv k) 3 (fun i => fWd (3 * ((k : Nat) : Int) + i)) _) hK (zStr_nar (B := fun _ => False) (zStr_now (hT.2.2.2 k (by omega)) hS) (fun _ h => h.elim)) (hP.sub (ws' := []) [] rfl) (zStr_recv (zStr_nar (B := fun _ => False) (zStr_now (hT.2.2.2 k (by omega)) hS) (fun _ h => h.elim))) hl.1 rfl (Nat.le_of_ble_eq_true rfl) ⟨Nat.zero_le _, Nat.zero_le _⟩ zd_Q_value_88 ?_
                    refine zi_as (fWd (3 * ((k : Nat) : Int) + 2)) rfl ?_
                    have hf2 := fWd_rg (3 * ((k : Nat) : Int) + 2) (by omega)
                    refine zi_icmp_eq (tgt := 97) hx hb zd_Q_value_91 (by decide) (by omega) (fun c91 => ?_) (fun c91 => ?_)
                    · have mt2 : at0 + 2 < ln ∧ tf (at0 + 2).toNat = fWd (3 * ((k : Nat) : Int) + 2) := ⟨by omega, (zSg_e hcc2 hf2).mp c91⟩
                      refine lv_iinc (v := iI (3)) (lv' := [(5, .int (iI (3))), (4, .int (iI (1))), (3, .int (iI (((k : Nat) : Int)))), (2, .ref (rf 8)), (0, .ref (qq)), (1, .int (iI (5)))]) hx hb zd_Q_value_97 hl (k := 0) rfl (by decide) (by decide) rfl (fun ls hl => ?_)
                      refine lv_goto (tgt := 51) hx hb zd_Q_value_100 (by decide) ?_
                      refine lv_iload hx hb zd_Q_value_51 (lv_at hl 0 rfl) ?_
                      refine zi_iconst hx hb zd_Q_value_53 ?_
                      refine zi_icmp_ge (tgt := 103) hx hb zd_Q_value_54 (by decide) (by omega) (fun _ => ?_) (fun c54 => absurd c54 (by decide))
                      refine lv_iload hx hb zd_Q_value_103 (lv_at hl 1 rfl) ?_
                      refine zi_if_ne (tgt := 111) hx hb zd_Q_value_105 (by decide) (by omega) (fun _ => ?_) (fun c105 => absurd c105 (by decide))
                      have hvn : vNm 5 ln tf at0 = ((k : Nat) : Int) + 1 := nmF_hit (by omega) (by omega) (hF (by omega)) ⟨by have := mt0.2; rw [Int.add_zero, Int.add_zero] at this; exact this, mt1.2, mt2.2⟩
                      have hv1 : ¬ vNm 5 ln tf at0 = 0 := by omega
                      refine lv_aload_n hx hb zd_Q_value_111 rfl (lv_at hl 4 rfl) ?_
                      refine lv_dup hx hb zd_Q_value_112 rfl ?_
                      refine va_get (D := g.1) (ci := 5) (v := .int (iI (at0))) (C := zR_Q) (T := zT_Q) (N := 21) hx hb hw zin_Q hown hK hP 0 rfl rfl 7 (by decide) (hw _ zw_3_205) (fun _ h9 => h9) rfl zd_Q_value_113 ?_
                      refine zi_iconst hx hb zd_Q_value_116 ?_
                      refine zi_iadd hx hb zd_Q_value_117 ?_
                      refine va_put (D := g.1) (ci := 5) (v := .int (iI (at0 + 3))) (ty := .int) (C := zR_Q) (T := zT_Q) (N := 21) hx hb hw zin_Q zt_Q zto_Q zn_Q hown hK hP hD hS 0 rfl rfl 7 (by decide) (hw _ zw_3_205) (fun _ h9 => h9) rfl  (by decide +kernel) rfl rfl (Nat.le_of_ble_eq_true rfl) zd_Q_value_118 (fun H locs hP hD hS => ?_)
                      have hP : va_P g.1 zCl [(qq, .inr (5, [.int (iI (fl)), .ref (rf 0), .int (iI (ln)), .int (iI (pl)), .int (iI (yy)), .int (iI (mm)), .int (iI (dd)), .int (iI (at0 + 3)), .ref (rf 1), .ref (rf 2), .ref (rf 3), .ref (rf 4), .ref (rf 5), .ref (rf 6), .int (iI (wa)), .int (iI (on)), .int (iI (tw)), .ref (rf 7), .ref (rf 8), .ref (rf 9), .int (iI (hc))])), (rf 0, .inl (g.2 3, 400, .inl (zaI (zSg tf)))), (rf 7, .inl (g.2 8, 12, .inr (.inr (.inr (.inr (zaR mq)))))), (rf 8, .inl (g.2 8, 7, .inr (.inr (.inr (.inr (zaR wq))))))] H := hP
                      have hD : va_D A [(qq, .inr (5, [.int (iI (fl)), .ref (rf 0), .int (iI (ln)), .int (iI (pl)), .int (iI (yy)), .int (iI (mm)), .int (iI (dd)), .int (iI (at0 + 3)), .ref (rf 1), .ref (rf 2), .ref (rf 3), .ref (rf 4), .ref (rf 5), .ref (rf 6), .int (iI (wa)), .int (iI (on)), .int (iI (tw)), .ref (rf 7), .ref (rf 8), .ref (rf 9), .int (iI (hc))])), (rf 0, .inl (g.2 3, 400, .inl (zaI (zSg tf)))), (rf 7, .inl (g.2 8, 12, .inr (.inr (.inr (.inr (zaR mq)))))), (rf 8, .inl (g.2 8, 7, .inr (.inr (.inr (.inr (zaR wq))))))] := hD
                      refine lv_iload_n hx hb zd_Q_value_121 rfl (lv_at hl 2 rfl) ?_
                      refine zi_iconst hx hb zd_Q_value_122 ?_
                      refine zi_iadd hx hb zd_Q_value_123 ?_
                      refine zi_as (vVl 5 tf ln at0) (by rw [vVl_1 hv1, hvn]) ?_
                      rw [← vAt_1 hv1] at hP
                      have hok9 := (vOk_1 hv1)
                      exact zq_iret hx hb hr hlk (fun _ => 0, fun _ _ => false) hP hS hok9 (zHm_y hmc hok9) zd_Q_value_124
                    · have mf : ¬ (¬ ln - at0 < 3 ∧ tf at0.toNat = fWd (3 * ((k : Nat) : Int)) ∧ tf (at0 + 1).toNat = fWd (3 * ((k : Nat) : Int) + 1) ∧ tf (at0 + 2).toNat = fWd (3 * ((k : Nat) : Int) + 2)) := by first | exact fun q => absurd q.1 (by omega) | exact fun q => c91 ((zSg_e hcc2 hf2).mpr (by first | exact q.2.2.1 | exact q.2.2.2 | (rw [Int.add_zero, Int.add_zero]; exact q.2.1)))
                      refine zi_iconst hx hb zd_Q_value_94 ?_
                      refine lv_istore (lv' := [(4, .int (iI (0))), (5, .int (iI (2))), (3, .int (iI (((k : Nat) : Int)))), (2, .ref (rf 8)), (0, .ref (qq)), (1, .int (iI (5)))]) hx hb zd_Q_value_95 hl (by decide) rfl (fun ls hl => ?_)
                      refine lv_iinc (v := iI (3)) (lv' := [(5, .int (iI (3))), (4, .int (iI (0))), (3, .int (iI (((k : Nat) : Int)))), (2, .ref (rf 8)), (0, .ref (qq)), (1, .int (iI (5)))]) hx hb zd_Q_value_97 hl (k := 1) rfl (by decide) (by decide) rfl (fun ls hl => ?_)
                      refine lv_goto (tgt := 51) hx hb zd_Q_value_100 (by decide) ?_
                      refine lv_iload hx hb zd_Q_value_51 (lv_at hl 0 rfl) ?_
                      refine zi_iconst hx hb zd_Q_value_53 ?_
                      refine zi_icmp_ge (tgt := 103) hx hb zd_Q_value_54 (by decide) (by omega) (fun _ => ?_) (fun c54 => absurd c54 (by decide))
                      refine lv_iload hx hb zd_Q_value_103 (lv_at hl 1 rfl) ?_
                      refine zi_if_ne (tgt := 111) hx hb zd_Q_value_105 (by decide) (by omega) (fun c105 => absurd c105 (by decide)) (fun _ => ?_)
                      refine lv_goto (tgt := 125) hx hb zd_Q_value_108 (by decide) ?_
                      refine lv_iinc (v := iI (((k : Nat) : Int) + 1)) (lv' := [(3, .int (iI (((k : Nat) : Int) + 1))), (5, .int (iI (3))), (4, .int (iI (0))), (2, .ref (rf 8)), (0, .ref (qq)), (1, .int (iI (5)))]) hx hb zd_Q_value_125 hl (k := 2) rfl (iI_add _ _) (by decide) rfl (fun ls hl => ?_)
                      refine lv_goto (tgt := 39) hx hb zd_Q_value_128 (by decide) ?_
                      exact ih (k + 1) H locs ls (by omega) (nmF_go (by omega) hF mf) (by omega) hP hD hS (lv_sub hl [0, 3, 4, 5] rfl)
                · have mf : ¬ (¬ ln - at0 < 3 ∧ tf at0.toNat = fWd (3 * ((k : Nat) : Int)) ∧ tf (at0 + 1).toNat = fWd (3 * ((k : Nat) : Int) + 1) ∧ tf (at0 + 2).toNat = fWd (3 * ((k : Nat) : Int) + 2)) := by first | exact fun q => absurd q.1 (by omega) | exact fun q => c91 ((zSg_e hcc1 hf1).mpr (by first | exact q.2.2.1 | exact q.2.2.2 | (rw [Int.add_zero, Int.add_zero]; exact q.2.1)))
                  refine zi_iconst hx hb zd_Q_value_94 ?_
                  refine lv_istore (lv' := [(4, .int (iI (0))), (5, .int (iI (1))), (3, .int (iI (((k : Nat) : Int)))), (2, .ref (rf 8)), (0, .ref (qq)), (1, .int (iI (5)))]) hx hb zd_Q_value_95 hl (by decide) rfl (fun ls hl => ?_)
                  refine lv_iinc (v := iI (2)) (lv' := [(5, .int (iI (2))), (4, .int (iI (0))), (3, .int (iI (((k : Nat) : Int)))), (2, .ref (rf 8)), (0, .ref (qq)), (1, .int (iI (5)))]) hx hb zd_Q_value_97 hl (k := 1) rfl (by decide) (by decide) rfl (fun ls hl => ?_)
                  refine lv_goto (tgt := 51) hx hb zd_Q_value_100 (by decide) ?_
                  refine lv_iload hx hb zd_Q_value_51 (lv_at hl 0 rfl) ?_
                  refine zi_iconst hx hb zd_Q_value_53 ?_
                  refine zi_icmp_ge (tgt := 103) hx hb zd_Q_value_54 (by decide) (by omega) (fun c54 => absurd c54 (by decide)) (fun _ => ?_)
                  refine lv_aload_n hx hb zd_Q_value_57 rfl (lv_at hl 4 rfl) ?_
                  refine va_get (D := g.1) (ci := 5) (v := .int (iI (at0))) (C := zR_Q) (T := zT_Q) (N := 21) hx hb hw zin_Q hown hK hP 0 rfl rfl 7 (by decide) (hw _ zw_3_205) (fun _ h9 => h9) rfl zd_Q_value_58 ?_
                  refine lv_iload hx hb zd_Q_value_61 (lv_at hl 0 rfl) ?_
                  refine zi_iadd hx hb zd_Q_value_63 ?_
                  refine lv_aload_n hx hb zd_Q_value_64 rfl (lv_at hl 4 rfl) ?_
                  refine va_get (D := g.1) (ci := 5) (v := .int (iI (ln))) (C := zR_Q) (T := zT_Q) (N := 21) hx hb hw zin_Q hown hK hP 0 rfl rfl 2 (by decide) (hw _ zw_3_200) (fun _ h9 => h9) rfl zd_Q_value_65 ?_
                  refine zi_icmp_ge (tgt := 94) hx hb zd_Q_value_68 (by decide) (by omega) (fun c68 => ?_) (fun c68 => ?_)
                  · have mf : ¬ (¬ ln - at0 < 3 ∧ tf at0.toNat = fWd (3 * ((k : Nat) : Int)) ∧ tf (at0 + 1).toNat = fWd (3 * ((k : Nat) : Int) + 1) ∧ tf (at0 + 2).toNat = fWd (3 * ((k : Nat) : Int) + 2)) := by first | exact fun q => absurd q.1 (by omega) | exact fun q => c91 ((zSg_e hcc2 hf2).mpr (by first | exact q.2.2.1 | exact q.2.2.2 | (rw [Int.add_zero, Int.add_zero]; exact q.2.1)))
                    refine zi_iconst hx hb zd_Q_value_94 ?_
                    refine lv_istore (lv' := [(4, .int (iI (0))), (5, .int (iI (2))), (3, .int (iI (((k : Nat) : Int)))), (2, .ref (rf 8)), (0, .ref (qq)), (1, .int (iI (5)))]) hx hb zd_Q_value_95 hl (by decide) rfl (fun ls hl => ?_)
                    refine lv_iinc (v := iI (3)) (lv' := [(5, .int (iI (3))), (4, .int (iI (0))), (3, .int (iI (((k : Nat) : Int)))), (2, .ref (rf 8)), (0, .ref (qq)), (1, .int (iI (5)))]) hx hb zd_Q_value_97 hl (k := 1) rfl (by decide) (by decide) rfl (fun ls hl => ?_)
                    refine lv_goto (tgt := 51) hx hb zd_Q_value_100 (by decide) ?_
                    refine lv_iload hx hb zd_Q_value_51 (lv_at hl 0 rfl) ?_
                    refine zi_iconst hx hb zd_Q_value_53 ?_
                    refine zi_icmp_ge (tgt := 103) hx hb zd_Q_value_54 (by decide) (by omega) (fun _ => ?_) (fun c54 => absurd c54 (by decide))
                    refine lv_iload hx hb zd_Q_value_103 (lv_at hl 1 rfl) ?_
                    refine zi_if_ne (tgt := 111) hx hb zd_Q_value_105 (by decide) (by omega) (fun c105 => absurd c105 (by decide)) (fun _ => ?_)
                    refine lv_goto (tgt := 125) hx hb zd_Q_value_108 (by decide) ?_
                    refine lv_iinc (v := iI (((k : Nat) : Int) + 1)) (lv' := [(3, .int (iI (((k : Nat) : Int) + 1))), (5, .int (iI (3))), (4, .int (iI (0))), (2, .ref (rf 8)), (0, .ref (qq)), (1, .int (iI (5)))]) hx hb zd_Q_value_125 hl (k := 2) rfl (iI_add _ _) (by decide) rfl (fun ls hl => ?_)
                    refine lv_goto (tgt := 39) hx hb zd_Q_value_128 (by decide) ?_
                    exact ih (k + 1) H locs ls (by omega) (nmF_go (by omega) hF mf) (by omega) hP hD hS (lv_sub hl [0, 3, 4, 5] rfl)
                  · refine lv_aload_n hx hb zd_Q_value_71 rfl (lv_at hl 4 rfl) ?_
                    refine va_get (D := g.1) (ci := 5) (v := .ref (rf 0)) (C := zR_Q) (T := zT_Q) (N := 21) hx hb hw zin_Q hown hK hP 0 rfl rfl 1 (by decide) (hw _ zw_3_199) (fun _ h9 => h9) rfl zd_Q_value_72 ?_
                    refine lv_aload_n hx hb zd_Q_value_75 rfl (lv_at hl 4 rfl) ?_
                    refine va_get (D := g.1) (ci := 5) (v := .int (iI (at0))) (C := zR_Q) (T := zT_Q) (N := 21) hx hb hw zin_Q hown hK hP 0 rfl rfl 7 (by decide) (hw _ zw_3_205) (fun _ h9 => h9) rfl zd_Q_value_76 ?_
                    refine lv_iload hx hb zd_Q_value_79 (lv_at hl 0 rfl) ?_
                    refine zi_iadd hx hb zd_Q_value_81 ?_
                    refine zi_bald hx hb hK hP 1 3 rfl rfl (by omega) zd_Q_value_82 ?_
                    have hsg2 := zSg_rg (tf := tf) (i := (at0 + 2).toNat) (hch _)
                    have hcc2 := hch (at0 + 2).toNat
                    refine lv_aload_n hx hb zd_Q_value_83 rfl (lv_at hl 3 rfl) ?_
                    refine lv_iload_n hx hb zd_Q_value_84 rfl (lv_at hl 2 rfl) ?_
                    refine zi_aaldS (k := k) hx hb hK hP 3 8 rfl rfl (by omega) (Int.toNat_natCast _) zd_Q_value_85 ?_
                    refine lv_iload hx hb zd_Q_value_86 (lv_at hl 0 rfl) ?_
                    refine zk_V (As := [.int (iI (2))]) (b := wq k) (own := "CronFinderModel") (nL := 6) (rest := [.int (iI (((zSg tf)) (at0 + 2).toNat))]) hx hb hml hown hw (c_S_charAt l g (wq k) (wv k) 3 (fun i => fWd (3 * ((k : Nat) : Int) + i)) (2) (by omega) (fun j hj => fWd_rg _ (by omega))) zw_4_85 zw_2_113 zw_2_114 zw_1_15 zw_2_115 (np := 1) (by decide +kernel) rfl ⟨rfl, rfl, Nat.le_of_ble_eq_true rfl, Nat.le_of_ble_eq_true rfl⟩ (zStr_mv (wq k) (wv k) 3 (fun i => fWd (3 * ((k : Nat) : Int) + i)) _) hK (zStr_nar (B := fun _ => False) (zStr_now (hT.2.2.2 k (by omega)) hS) (fun _ h => h.elim)) (hP.sub (ws' := []) [] rfl) (zStr_recv (zStr_nar (B := fun _ => False) (zStr_now (hT.2.2.2 k (by omega)) hS) (fun _ h => h.elim))) hl.1 rfl (Nat.le_of_ble_eq_true rfl) ⟨Nat.zero_le _, Nat.zero_le _⟩ zd_Q_value_88 ?_
                    refine zi_as (fWd (3 * ((k : Nat) : Int) + 2)) rfl ?_
                    have hf2 := fWd_rg (3 * ((k : Nat) : Int) + 2) (by omega)
                    refine zi_icmp_eq (tgt := 97) hx hb zd_Q_value_91 (by decide) (by omega) (fun c91 => ?_) (fun c91 => ?_)
                    · refine lv_iinc (v := iI (3)) (lv' := [(5, .int (iI (3))), (4, .int (iI (0))), (3, .int (iI (((k : Nat) : Int)))), (2, .ref (rf 8)), (0, .ref (qq)), (1, .int (iI (5)))]) hx hb zd_Q_value_97 hl (k := 0) rfl (by decide) (by decide) rfl (fun ls hl => ?_)
                      refine lv_goto (tgt := 51) hx hb zd_Q_value_100 (by decide) ?_
                      refine lv_iload hx hb zd_Q_value_51 (lv_at hl 0 rfl) ?_
                      refine zi_iconst hx hb zd_Q_value_53 ?_
                      refine zi_icmp_ge (tgt := 103) hx hb zd_Q_value_54 (by decide) (by omega) (fun _ => ?_) (fun c54 => absurd c54 (by decide))
                      refine lv_iload hx hb zd_Q_value_103 (lv_at hl 1 rfl) ?_
                      refine zi_if_ne (tgt := 111) hx hb zd_Q_value_105 (by decide) (by omega) (fun c105 => absurd c105 (by decide)) (fun _ => ?_)
                      refine lv_goto (tgt := 125) hx hb zd_Q_value_108 (by decide) ?_
                      refine lv_iinc (v := iI (((k : Nat) : Int) + 1)) (lv' := [(3, .int (iI (((k : Nat) : Int) + 1))), (5, .int (iI (3))), (4, .int (iI (0))), (2, .ref (rf 8)), (0, .ref (qq)), (1, .int (iI (5)))]) hx hb zd_Q_value_125 hl (k := 2) rfl (iI_add _ _) (by decide) rfl (fun ls hl => ?_)
                      refine lv_goto (tgt := 39) hx hb zd_Q_value_128 (by decide) ?_
                      exact ih (k + 1) H locs ls (by omega) (nmF_go (by omega) hF mf) (by omega) hP hD hS (lv_sub hl [0, 3, 4, 5] rfl)
                    · have mf : ¬ (¬ ln - at0 < 3 ∧ tf at0.toNat = fWd (3 * ((k : Nat) : Int)) ∧ tf (at0 + 1).toNat = fWd (3 * ((k : Nat) : Int) + 1) ∧ tf (at0 + 2).toNat = fWd (3 * ((k : Nat) : Int) + 2)) := by first | exact fun q => absurd q.1 (by omega) | exact fun q => c91 ((zSg_e hcc2 hf2).mpr (by first | exact q.2.2.1 | exact q.2.2.2 | (rw [Int.add_zero, Int.add_zero]; exact q.2.1)))
                      refine zi_iconst hx hb zd_Q_value_94 ?_
                      refine lv_istore (lv' := [(4, .int (iI (0))), (5, .int (iI (2))), (3, .int (iI (((k : Nat) : Int)))), (2, .ref (rf 8)), (0, .ref (qq)), (1, .int (iI (5)))]) hx hb zd_Q_value_95 hl (by decide) rfl (fun ls hl => ?_)
                      refine lv_iinc (v := iI (3)) (lv' := [(5, .int (iI (3))), (4, .int (iI (0))), (3, .int (iI (((k : Nat) : Int)))), (2, .ref (rf 8)), (0, .ref (qq)), (1, .int (iI (5)))]) hx hb zd_Q_value_97 hl (k := 1) rfl (by decide) (by decide) rfl (fun ls hl => ?_)
                      refine lv_goto (tgt := 51) hx hb zd_Q_value_100 (by decide) ?_
                      refine lv_iload hx hb zd_Q_value_51 (lv_at hl 0 rfl) ?_
                      refine zi_iconst hx hb zd_Q_value_53 ?_
                      refine zi_icmp_ge (tgt := 103) hx hb zd_Q_value_54 (by decide) (by omega) (fun _ => ?_) (fun c54 => absurd c54 (by decide))
                      refine lv_iload hx hb zd_Q_value_103 (lv_at hl 1 rfl) ?_
                      refine zi_if_ne (tgt := 111) hx hb zd_Q_value_105 (by decide) (by omega) (fun c105 => absurd c105 (by decide)) (fun _ => ?_)
                      refine lv_goto (tgt := 125) hx hb zd_Q_value_108 (by decide) ?_
                      refine lv_iinc (v := iI (((k : Nat) : Int) + 1)) (lv' := [(3, .int (iI (((k : Nat) : Int) + 1))), (5, .int (iI (3))), (4, .int (iI (0))), (2, .ref (rf 8)), (0, .ref (qq)), (1, .int (iI (5)))]) hx hb zd_Q_value_125 hl (k := 2) rfl (iI_add _ _) (by decide) rfl (fun ls hl => ?_)
                      refine lv_goto (tgt := 39) hx hb zd_Q_value_128 (by decide) ?_
                      exact ih (k + 1) H locs ls (by omega) (nmF_go (by omega) hF mf) (by omega) hP hD hS (lv_sub hl [0, 3, 4, 5] rfl)
            · have mf : ¬ (¬ ln - at0 < 3 ∧ tf at0.toNat = fWd (3 * ((k : Nat) : Int)) ∧ tf (at0 + 1).toNat = fWd (3 * ((k : Nat) : Int) + 1) ∧ tf (at0 + 2).toNat = fWd (3 * ((k : Nat) : Int) + 2)) := by first | exact fun q => absurd q.1 (by omega) | exact fun q => c91 ((zSg_e hcc0 hf0).mpr (by first | exact q.2.2.1 | exact q.2.2.2 | (rw [Int.add_zero, Int.add_zero]; exact q.2.1)))
              refine zi_iconst hx hb zd_Q_value_94 ?_
              refine lv_istore (lv' := [(4, .int (iI (0))), (5, .int (iI (0))), (3, .int (iI (((k : Nat) : Int)))), (2, .ref (rf 8)), (0, .ref (qq)), (1, .int (iI (5)))]) hx hb zd_Q_value_95 hl (by decide) rfl (fun ls hl => ?_)
              refine lv_iinc (v := iI (1)) (lv' := [(5, .int (iI (1))), (4, .int (iI (0))), (3, .int (iI (((k : Nat) : Int)))), (2, .ref (rf 8)), (0, .ref (qq)), (1, .int (iI (5)))]) hx hb zd_Q_value_97 hl (k := 1) rfl (by decide) (by decide) rfl (fun ls hl => ?_)
              refine lv_goto (tgt := 51) hx hb zd_Q_value_100 (by decide) ?_
              refine lv_iload hx hb zd_Q_value_51 (lv_at hl 0 rfl) ?_
              refine zi_iconst hx hb zd_Q_value_53 ?_
              refine zi_icmp_ge (tgt := 103) hx hb zd_Q_value_54 (by decide) (by omega) (fun c54 => absurd c54 (by decide)) (fun _ => ?_)
              refine lv_aload_n hx hb zd_Q_value_57 rfl (lv_at hl 4 rfl) ?_
              refine va_get (D := g.1) (ci := 5) (v := .int (iI (at0))) (C := zR_Q) (T := zT_Q) (N := 21) hx hb hw zin_Q hown hK hP 0 rfl rfl 7 (by decide) (hw _ zw_3_205) (fun _ h9 => h9) rfl zd_Q_value_58 ?_
              refine lv_iload hx hb zd_Q_value_61 (lv_at hl 0 rfl) ?_
              refine zi_iadd hx hb zd_Q_value_63 ?_
              refine lv_aload_n hx hb zd_Q_value_64 rfl (lv_at hl 4 rfl) ?_
              refine va_get (D := g.1) (ci := 5) (v := .int (iI (ln))) (C := zR_Q) (T := zT_Q) (N := 21) hx hb hw zin_Q hown hK hP 0 rfl rfl 2 (by decide) (hw _ zw_3_200) (fun _ h9 => h9) rfl zd_Q_value_65 ?_
              refine zi_icmp_ge (tgt := 94) hx hb zd_Q_value_68 (by decide) (by omega) (fun c68 => ?_) (fun c68 => ?_)
              · have mf : ¬ (¬ ln - at0 < 3 ∧ tf at0.toNat = fWd (3 * ((k : Nat) : Int)) ∧ tf (at0 + 1).toNat = fWd (3 * ((k : Nat) : Int) + 1) ∧ tf (at0 + 2).toNat = fWd (3 * ((k : Nat) : Int) + 2)) := by first | exact fun q => absurd q.1 (by omega) | exact fun q => c91 ((zSg_e hcc1 hf1).mpr (by first | exact q.2.2.1 | exact q.2.2.2 | (rw [Int.add_zero, Int.add_zero]; exact q.2.1)))
                refine zi_iconst hx hb zd_Q_value_94 ?_
                refine lv_istore (lv' := [(4, .int (iI (0))), (5, .int (iI (1))), (3, .int (iI (((k : Nat) : Int)))), (2, .ref (rf 8)), (0, .ref (qq)), (1, .int (iI (5)))]) hx hb zd_Q_value_95 hl (by decide) rfl (fun ls hl => ?_)
                refine lv_iinc (v := iI (2)) (lv' := [(5, .int (iI (2))), (4, .int (iI (0))), (3, .int (iI (((k : Nat) : Int)))), (2, .ref (rf 8)), (0, .ref (qq)), (1, .int (iI (5)))]) hx hb zd_Q_value_97 hl (k := 1) rfl (by decide) (by decide) rfl (fun ls hl => ?_)
                refine lv_goto (tgt := 51) hx hb zd_Q_value_100 (by decide) ?_
                refine lv_iload hx hb zd_Q_value_51 (lv_at hl 0 rfl) ?_
                refine zi_iconst hx hb zd_Q_value_53 ?_
                refine zi_icmp_ge (tgt := 103) hx hb zd_Q_value_54 (by decide) (by omega) (fun c54 => absurd c54 (by decide)) (fun _ => ?_)
                refine lv_aload_n hx hb zd_Q_value_57 rfl (lv_at hl 4 rfl) ?_
                refine va_get (D := g.1) (ci := 5) (v := .int (iI (at0))) (C := zR_Q) (T := zT_Q) (N := 21) hx hb hw zin_Q hown hK hP 0 rfl rfl 7 (by decide) (hw _ zw_3_205) (fun _ h9 => h9) rfl zd_Q_value_58 ?_
                refine lv_iload hx hb zd_Q_value_61 (lv_at hl 0 rfl) ?_
                refine zi_iadd hx hb zd_Q_value_63 ?_
                refine lv_aload_n hx hb zd_Q_value_64 rfl (lv_at hl 4 rfl) ?_
                refine va_get (D := g.1) (ci := 5) (v := .int (iI (ln))) (C := zR_Q) (T := zT_Q) (N := 21) hx hb hw zin_Q hown hK hP 0 rfl rfl 2 (by decide) (hw _ zw_3_200) (fun _ h9 => h9) rfl zd_Q_value_65 ?_
                refine zi_icmp_ge (tgt := 94) hx hb zd_Q_value_68 (by decide) (by omega) (fun c68 => ?_) (fun c68 => ?_)
                · have mf : ¬ (¬ ln - at0 < 3 ∧ tf at0.toNat = fWd (3 * ((k : Nat) : Int)) ∧ tf (at0 + 1).toNat = fWd (3 * ((k : Nat) : Int) + 1) ∧ tf (at0 + 2).toNat = fWd (3 * ((k : Nat) : Int) + 2)) := by first | exact fun q => absurd q.1 (by omega) | exact fun q => c91 ((zSg_e hcc2 hf2).mpr (by first | exact q.2.2.1 | exact q.2.2.2 | (rw [Int.add_zero, Int.add_zero]; exact q.2.1)))
                  refine zi_iconst hx hb zd_Q_value_94 ?_
                  refine lv_istore (lv' := [(4, .int (iI (0))), (5, .int (iI (2))), (3, .int (iI (((k : Nat) : Int)))), (2, .ref (rf 8)), (0, .ref (qq)), (1, .int (iI (5)))]) hx hb zd_Q_value_95 hl (by decide) rfl (fun ls hl => ?_)
                  refine lv_iinc (v := iI (3)) (lv' := [(5, .int (iI (3))), (4, .int (iI (0))), (3, .int (iI (((k : Nat) : Int)))), (2, .ref (rf 8)), (0, .ref (qq)), (1, .int (iI (5)))]) hx hb zd_Q_value_97 hl (k := 1) rfl (by decide) (by decide) rfl (fun ls hl => ?_)
                  refine lv_goto (tgt := 51) hx hb zd_Q_value_100 (by decide) ?_
                  refine lv_iload hx hb zd_Q_value_51 (lv_at hl 0 rfl) ?_
                  refine zi_iconst hx hb zd_Q_value_53 ?_
                  refine zi_icmp_ge (tgt := 103) hx hb zd_Q_value_54 (by decide) (by omega) (fun _ => ?_) (fun c54 => absurd c54 (by decide))
                  refine lv_iload hx hb zd_Q_value_103 (lv_at hl 1 rfl) ?_
                  refine zi_if_ne (tgt := 111) hx hb zd_Q_value_105 (by decide) (by omega) (fun c105 => absurd c105 (by decide)) (fun _ => ?_)
                  refine lv_goto (tgt := 125) hx hb zd_Q_value_108 (by decide) ?_
                  refine lv_iinc (v := iI (((k : Nat) : Int) + 1)) (lv' := [(3, .int (iI (((k : Nat) : Int) + 1))), (5, .int (iI (3))), (4, .int (iI (0))), (2, .ref (rf 8)), (0, .ref (qq)), (1, .int (iI (5)))]) hx hb zd_Q_value_125 hl (k := 2) rfl (iI_add _ _) (by decide) rfl (fun ls hl => ?_)
                  refine lv_goto (tgt := 39) hx hb zd_Q_value_128 (by decide) ?_
                  exact ih (k + 1) H locs ls (by omega) (nmF_go (by omega) hF mf) (by omega) hP hD hS (lv_sub hl [0, 3, 4, 5] rfl)
                · refine lv_aload_n hx hb zd_Q_value_71 rfl (lv_at hl 4 rfl) ?_
                  refine va_get (D := g.1) (ci := 5) (v := .ref (rf 0)) (C := zR_Q) (T := zT_Q) (N := 21) hx hb hw zin_Q hown hK hP 0 rfl rfl 1 (by decide) (hw _ zw_3_199) (fun _ h9 => h9) rfl zd_Q_value_72 ?_
                  refine lv_aload_n hx hb zd_Q_value_75 rfl (lv_at hl 4 rfl) ?_
                  refine va_get (D := g.1) (ci := 5) (v := .int (iI (at0))) (C := zR_Q) (T := zT_Q) (N := 21) hx hb hw zin_Q hown hK hP 0 rfl rfl 7 (by decide) (hw _ zw_3_205) (fun _ h9 => h9) rfl zd_Q_value_76 ?_
                  refine lv_iload hx hb zd_Q_value_79 (lv_at hl 0 rfl) ?_
                  refine zi_iadd hx hb zd_Q_value_81 ?_
                  refine zi_bald hx hb hK hP 1 3 rfl rfl (by omega) zd_Q_value_82 ?_
                  have hsg2 := zSg_rg (tf := tf) (i := (at0 + 2).toNat) (hch _)
                  have hcc2 := hch (at0 + 2).toNat
                  refine lv_aload_n hx hb zd_Q_value_83 rfl (lv_at hl 3 rfl) ?_
                  refine lv_iload_n hx hb zd_Q_value_84 rfl (lv_at hl 2 rfl) ?_
                  refine zi_aaldS (k := k) hx hb hK hP 3 8 rfl rfl (by omega) (Int.toNat_natCast _) zd_Q_value_85 ?_
                  refine lv_iload hx hb zd_Q_value_86 (lv_at hl 0 rfl) ?_
                  refine zk_V (As := [.int (iI (2))]) (b := wq k) (own := "CronFinderModel") (nL := 6) (rest := [.int (iI (((zSg tf)) (at0 + 2).toNat))]) hx hb hml hown hw (c_S_charAt l g (wq k) (wv k) 3 (fun i => fWd (3 * ((k : Nat) : Int) + i)) (2) (by omega) (fun j hj => fWd_rg _ (by omega))) zw_4_85 zw_2_113 zw_2_114 zw_1_15 zw_2_115 (np := 1) (by decide +kernel) rfl ⟨rfl, rfl, Nat.le_of_ble_eq_true rfl, Nat.le_of_ble_eq_true rfl⟩ (zStr_mv (wq k) (wv k) 3 (fun i => fWd (3 * ((k : Nat) : Int) + i)) _) hK (zStr_nar (B := fun _ => False) (zStr_now (hT.2.2.2 k (by omega)) hS) (fun _ h => h.elim)) (hP.sub (ws' := []) [] rfl) (zStr_recv (zStr_nar (B := fun _ => False) (zStr_now (hT.2.2.2 k (by omega)) hS) (fun _ h => h.elim))) hl.1 rfl (Nat.le_of_ble_eq_true rfl) ⟨Nat.zero_le _, Nat.zero_le _⟩ zd_Q_value_88 ?_
                  refine zi_as (fWd (3 * ((k : Nat) : Int) + 2)) rfl ?_
                  have hf2 := fWd_rg (3 * ((k : Nat) : Int) + 2) (by omega)
                  refine zi_icmp_eq (tgt := 97) hx hb zd_Q_value_91 (by decide) (by omega) (fun c91 => ?_) (fun c91 => ?_)
                  · refine lv_iinc (v := iI (3)) (lv' := [(5, .int (iI (3))), (4, .int (iI (0))), (3, .int (iI (((k : Nat) : Int)))), (2, .ref (rf 8)), (0, .ref (qq)), (1, .int (iI (5)))]) hx hb zd_Q_value_97 hl (k := 0) rfl (by decide) (by decide) rfl (fun ls hl => ?_)
                    refine lv_goto (tgt := 51) hx hb zd_Q_value_100 (by decide) ?_
                    refine lv_iload hx hb zd_Q_value_51 (lv_at hl 0 rfl) ?_
                    refine zi_iconst hx hb zd_Q_value_53 ?_
                    refine zi_icmp_ge (tgt := 103) hx hb zd_Q_value_54 (by decide) (by omega) (fun _ => ?_) (fun c54 => absurd c54 (by decide))
                    refine lv_iload hx hb zd_Q_value_103 (lv_at hl 1 rfl) ?_
                    refine zi_if_ne (tgt := 111) hx hb zd_Q_value_105 (by decide) (by omega) (fun c105 => absurd c105 (by decide)) (fun _ => ?_)
                    refine lv_goto (tgt := 125) hx hb zd_Q_value_108 (by decide) ?_
                    refine lv_iinc (v := iI (((k : Nat) : Int) + 1)) (lv' := [(3, .int (iI (((k : Nat) : Int) + 1))), (5, .int (iI (3))), (4, .int (iI (0))), (2, .ref (rf 8)), (0, .ref (qq)), (1, .int (iI (5)))]) hx hb zd_Q_value_125 hl (k := 2) rfl (iI_add _ _) (by decide) rfl (fun ls hl => ?_)
                    refine lv_goto (tgt := 39) hx hb zd_Q_value_128 (by decide) ?_
                    exact ih (k + 1) H locs ls (by omega) (nmF_go (by omega) hF mf) (by omega) hP hD hS (lv_sub hl [0, 3, 4, 5] rfl)
                  · have mf : ¬ (¬ ln - at0 < 3 ∧ tf at0.toNat = fWd (3 * ((k : Nat) : Int)) ∧ tf (at0 + 1).toNat = fWd (3 * ((k : Nat) : Int) + 1) ∧ tf (at0 + 2).toNat = fWd (3 * ((k : Nat) : Int) + 2)) := by first | exact fun q => absurd q.1 (by omega) | exact fun q => c91 ((zSg_e hcc2 hf2).mpr (by first | exact q.2.2.1 | exact q.2.2.2 | (rw [Int.add_zero, Int.add_zero]; exact q.2.1)))
                    refine zi_iconst hx hb zd_Q_value_94 ?_
                    refine lv_istore (lv' := [(4, .int (iI (0))), (5, .int (iI (2))), (3, .int (iI (((k : Nat) : Int)))), (2, .ref (rf 8)), (0, .ref (qq)), (1, .int (iI (5)))]) hx hb zd_Q_value_95 hl (by decide) rfl (fun ls hl => ?_)
                    refine lv_iinc (v := iI (3)) (lv' := [(5, .int (iI (3))), (4, .int (iI (0))), (3, .int (iI (((k : Nat) : Int)))), (2, .ref (rf 8)), (0, .ref (qq)), (1, .int (iI (5)))]) hx hb zd_Q_value_97 hl (k := 1) rfl (by decide) (by decide) rfl (fun ls hl => ?_)
                    refine lv_goto (tgt := 51) hx hb zd_Q_value_100 (by decide) ?_
                    refine lv_iload hx hb zd_Q_value_51 (lv_at hl 0 rfl) ?_
                    refine zi_iconst hx hb zd_Q_value_53 ?_
                    refine zi_icmp_ge (tgt := 103) hx hb zd_Q_value_54 (by decide) (by omega) (fun _ => ?_) (fun c54 => absurd c54 (by decide))
                    refine lv_iload hx hb zd_Q_value_103 (lv_at hl 1 rfl) ?_
                    refine zi_if_ne (tgt := 111) hx hb zd_Q_value_105 (by decide) (by omega) (fun c105 => absurd c105 (by decide)) (fun _ => ?_)
                    refine lv_goto (tgt := 125) hx hb zd_Q_value_108 (by decide) ?_
                    refine lv_iinc (v := iI (((k : Nat) : Int) + 1)) (lv' := [(3, .int (iI (((k : Nat) : Int) + 1))), (5, .int (iI (3))), (4, .int (iI (0))), (2, .ref (rf 8)), (0, .ref (qq)), (1, .int (iI (5)))]) hx hb zd_Q_value_125 hl (k := 2) rfl (iI_add _ _) (by decide) rfl (fun ls hl => ?_)
                    refine lv_goto (tgt := 39) hx hb zd_Q_value_128 (by decide) ?_
                    exact ih (k + 1) H locs ls (by omega) (nmF_go (by omega) hF mf) (by omega) hP hD hS (lv_sub hl [0, 3, 4, 5] rfl)
              · refine lv_aload_n hx hb zd_Q_value_71 rfl (lv_at hl 4 rfl) ?_
                refine va_get (D := g.1) (ci := 5) (v := .ref (rf 0)) (C := zR_Q) (T := zT_Q) (N := 21) hx hb hw zin_Q hown hK hP 0 rfl rfl 1 (by decide) (hw _ zw_3_199) (fun _ h9 => h9) rfl zd_Q_value_72 ?_
                refine lv_aload_n hx hb zd_Q_value_75 rfl (lv_at hl 4 rfl) ?_
                refine va_get (D := g.1) (ci := 5) (v := .int (iI (at0))) (C := zR_Q) (T := zT_Q) (N := 21) hx hb hw zin_Q hown hK hP 0 rfl rfl 7 (by decide) (hw _ zw_3_205) (fun _ h9 => h9) rfl zd_Q_value_76 ?_
                refine lv_iload hx hb zd_Q_value_79 (lv_at hl 0 rfl) ?_
                refine zi_iadd hx hb zd_Q_value_81 ?_
                refine zi_bald hx hb hK hP 1 3 rfl rfl (by omega) zd_Q_value_82 ?_
                have hsg1 := zSg_rg (tf := tf) (i := (at0 + 1).toNat) (hch _)
                have hcc1 := hch (at0 + 1).toNat
                refine lv_aload_n hx hb zd_Q_value_83 rfl (lv_at hl 3 rfl) ?_
                refine lv_iload_n hx hb zd_Q_value_84 rfl (lv_at hl 2 rfl) ?_
                refine zi_aaldS (k := k) hx hb hK hP 3 8 rfl rfl (by omega) (Int.toNat_natCast _) zd_Q_value_85 ?_
                refine lv_iload hx hb zd_Q_value_86 (lv_at hl 0 rfl) ?_
                refine zk_V (As := [.int (iI (1))]) (b := wq k) (own := "CronFinderModel") (nL := 6) (rest := [.int (iI (((zSg tf)) (at0 + 1).toNat))]) hx hb hml hown hw (c_S_charAt l g (wq k) (wv k) 3 (fun i => fWd (3 * ((k : Nat) : Int) + i)) (1) (by omega) (fun j hj => fWd_rg _ (by omega))) zw_4_85 zw_2_113 zw_2_114 zw_1_15 zw_2_115 (np := 1) (by decide +kernel) rfl ⟨rfl, rfl, Nat.le_of_ble_eq_true rfl, Nat.le_of_ble_eq_true rfl⟩ (zStr_mv (wq k) (wv k) 3 (fun i => fWd (3 * ((k : Nat) : Int) + i)) _) hK (zStr_nar (B := fun _ => False) (zStr_now (hT.2.2.2 k (by omega)) hS) (fun _ h => h.elim)) (hP.sub (ws' := []) [] rfl) (zStr_recv (zStr_nar (B := fun _ => False) (zStr_now (hT.2.2.2 k (by omega)) hS) (fun _ h => h.elim))) hl.1 rfl (Nat.le_of_ble_eq_true rfl) ⟨Nat.zero_le _, Nat.zero_le _⟩ zd_Q_value_88 ?_
                refine zi_as (fWd (3 * ((k : Nat) : Int) + 1)) rfl ?_
                have hf1 := fWd_rg (3 * ((k : Nat) : Int) + 1) (by omega)
                refine zi_icmp_eq (tgt := 97) hx hb zd_Q_value_91 (by decide) (by omega) (fun c91 => ?_) (fun c91 => ?_)
                · refine lv_iinc (v := iI (2)) (lv' := [(5, .int (iI (2))), (4, .int (iI (0))), (3, .int (iI (((k : Nat) : Int)))), (2, .ref (rf 8)), (0, .ref (qq)), (1, .int (iI (5)))]) hx hb zd_Q_value_97 hl (k := 0) rfl (by decide) (by decide) rfl (fun ls hl => ?_)
                  refine lv_goto (tgt := 51) hx hb zd_Q_value_100 (by decide) ?_
                  refine lv_iload hx hb zd_Q_value_51 (lv_at hl 0 rfl) ?_
                  refine zi_iconst hx hb zd_Q_value_53 ?_
                  refine zi_icmp_ge (tgt := 103) hx hb zd_Q_value_54 (by decide) (by omega) (fun c54 => absurd c54 (by decide)) (fun _ => ?_)
                  refine lv_aload_n hx hb zd_Q_value_57 rfl (lv_at hl 4 rfl) ?_
                  refine va_get (D := g.1) (ci := 5) (v := .int (iI (at0))) (C := zR_Q) (T := zT_Q) (N := 21) hx hb hw zin_Q hown hK hP 0 rfl rfl 7 (by decide) (hw _ zw_3_205) (fun _ h9 => h9) rfl zd_Q_value_58 ?_
                  refine lv_iload hx hb zd_Q_value_61 (lv_at hl 0 rfl) ?_
                  refine zi_iadd hx hb zd_Q_value_63 ?_
                  refine lv_aload_n hx hb zd_Q_value_64 rfl (lv_at hl 4 rfl) ?_
                  refine va_get (D := g.1) (ci := 5) (v := .int (iI (ln))) (C := zR_Q) (T := zT_Q) (N := 21) hx hb hw zin_Q hown hK hP 0 rfl rfl 2 (by decide) (hw _ zw_3_200) (fun _ h9 => h9) rfl zd_Q_value_65 ?_
                  refine zi_icmp_ge (tgt := 94) hx hb zd_Q_value_68 (by decide) (by omega) (fun c68 => ?_) (fun c68 => ?_)
                  · have mf : ¬ (¬ ln - at0 < 3 ∧ tf at0.toNat = fWd (3 * ((k : Nat) : Int)) ∧ tf (at0 + 1).toNat = fWd (3 * ((k : Nat) : Int) + 1) ∧ tf (at0 + 2).toNat = fWd (3 * ((k : Nat) : Int) + 2)) := by first | exact fun q => absurd q.1 (by omega) | exact fun q => c91 ((zSg_e hcc2 hf2).mpr (by first | exact q.2.2.1 | exact q.2.2.2 | (rw [Int.add_zero, Int.add_zero]; exact q.2.1)))
                    refine zi_iconst hx hb zd_Q_value_94 ?_
                    refine lv_istore (lv' := [(4, .int (iI (0))), (5, .int (iI (2))), (3, .int (iI (((k : Nat) : Int)))), (2, .ref (rf 8)), (0, .ref (qq)), (1, .int (iI (5)))]) hx hb zd_Q_value_95 hl (by decide) rfl (fun ls hl => ?_)
                    refine lv_iinc (v := iI (3)) (lv' := [(5, .int (iI (3))), (4, .int (iI (0))), (3, .int (iI (((k : Nat) : Int)))), (2, .ref (rf 8)), (0, .ref (qq)), (1, .int (iI (5)))]) hx hb zd_Q_value_97 hl (k := 1) rfl (by decide) (by decide) rfl (fun ls hl => ?_)
                    refine lv_goto (tgt := 51) hx hb zd_Q_value_100 (by decide) ?_
                    refine lv_iload hx hb zd_Q_value_51 (lv_at hl 0 rfl) ?_
                    refine zi_iconst hx hb zd_Q_value_53 ?_
                    refine zi_icmp_ge (tgt := 103) hx hb zd_Q_value_54 (by decide) (by omega) (fun _ => ?_) (fun c54 => absurd c54 (by decide))
                    refine lv_iload hx hb zd_Q_value_103 (lv_at hl 1 rfl) ?_
                    refine zi_if_ne (tgt := 111) hx hb zd_Q_value_105 (by decide) (by omega) (fun c105 => absurd c105 (by decide)) (fun _ => ?_)
                    refine lv_goto (tgt := 125) hx hb zd_Q_value_108 (by decide) ?_
                    refine lv_iinc (v := iI (((k : Nat) : Int) + 1)) (lv' := [(3, .int (iI (((k : Nat) : Int) + 1))), (5, .int (iI (3))), (4, .int (iI (0))), (2, .ref (rf 8)), (0, .ref (qq)), (1, .int (iI (5)))]) hx hb zd_Q_value_125 hl (k := 2) rfl (iI_add _ _) (by decide) rfl (fun ls hl => ?_)
                    refine lv_goto (tgt := 39) hx hb zd_Q_value_128 (by decide) ?_
                    exact ih (k + 1) H locs ls (by omega) (nmF_go (by omega) hF mf) (by omega) hP hD hS (lv_sub hl [0, 3, 4, 5] rfl)
                  · refine lv_aload_n hx hb zd_Q_value_71 rfl (lv_at hl 4 rfl) ?_
                    refine va_get (D := g.1) (ci := 5) (v := .ref (rf 0)) (C := zR_Q) (T := zT_Q) (N := 21) hx hb hw zin_Q hown hK hP 0 rfl rfl 1 (by decide) (hw _ zw_3_199) (fun _ h9 => h9) rfl zd_Q_value_72 ?_
                    refine lv_aload_n hx hb zd_Q_value_75 rfl (lv_at hl 4 rfl) ?_
                    refine va_get (D := g.1) (ci := 5) (v := .int (iI (at0))) (C := zR_Q) (T := zT_Q) (N := 21) hx hb hw zin_Q hown hK hP 0 rfl rfl 7 (by decide) (hw _ zw_3_205) (fun _ h9 => h9) rfl zd_Q_value_76 ?_
                    refine lv_iload hx hb zd_Q_value_79 (lv_at hl 0 rfl) ?_
                    refine zi_iadd hx hb zd_Q_value_81 ?_
                    refine zi_bald hx hb hK hP 1 3 rfl rfl (by omega) zd_Q_value_82 ?_
                    have hsg2 := zSg_rg (tf := tf) (i := (at0 + 2).toNat) (hch _)
                    have hcc2 := hch (at0 + 2).toNat
                    refine lv_aload_n hx hb zd_Q_value_83 rfl (lv_at hl 3 rfl) ?_
                    refine lv_iload_n hx hb zd_Q_value_84 rfl (lv_at hl 2 rfl) ?_
                    refine zi_aaldS (k := k) hx hb hK hP 3 8 rfl rfl (by omega) (Int.toNat_natCast _) zd_Q_value_85 ?_
                    refine lv_iload hx hb zd_Q_value_86 (lv_at hl 0 rfl) ?_
                    refine zk_V (As := [.int (iI (2))]) (b := wq k) (own := "CronFinderModel") (nL := 6) (rest := [.int (iI (((zSg tf)) (at0 + 2).toNat))]) hx hb hml hown hw (c_S_charAt l g (wq k) (wv k) 3 (fun i => fWd (3 * ((k : Nat) : Int) + i)) (2) (by omega) (fun j hj => fWd_rg _ (by omega))) zw_4_85 zw_2_113 zw_2_114 zw_1_15 zw_2_115 (np := 1) (by decide +kernel) rfl ⟨rfl, rfl, Nat.le_of_ble_eq_true rfl, Nat.le_of_ble_eq_true rfl⟩ (zStr_mv (wq k) (wv k) 3 (fun i => fWd (3 * ((k : Nat) : Int) + i)) _) hK (zStr_nar (B := fun _ => False) (zStr_now (hT.2.2.2 k (by omega)) hS) (fun _ h => h.elim)) (hP.sub (ws' := []) [] rfl) (zStr_recv (zStr_nar (B := fun _ => False) (zStr_now (hT.2.2.2 k (by omega)) hS) (fun _ h => h.elim))) hl.1 rfl (Nat.le_of_ble_eq_true rfl) ⟨Nat.zero_le _, Nat.zero_le _⟩ zd_Q_value_88 ?_
                    refine zi_as (fWd (3 * ((k : Nat) : Int) + 2)) rfl ?_
                    have hf2 := fWd_rg (3 * ((k : Nat) : Int) + 2) (by omega)
                    refine zi_icmp_eq (tgt := 97) hx hb zd_Q_value_91 (by decide) (by omega) (fun c91 => ?_) (fun c91 => ?_)
                    · refine lv_iinc (v := iI (3)) (lv' := [(5, .int (iI (3))), (4, .int (iI (0))), (3, .int (iI (((k : Nat) : Int)))), (2, .ref (rf 8)), (0, .ref (qq)), (1, .int (iI (5)))]) hx hb zd_Q_value_97 hl (k := 0) rfl (by decide) (by decide) rfl (fun ls hl => ?_)
                      refine lv_goto (tgt := 51) hx hb zd_Q_value_100 (by decide) ?_
                      refine lv_iload hx hb zd_Q_value_51 (lv_at hl 0 rfl) ?_
                      refine zi_iconst hx hb zd_Q_value_53 ?_
                      refine zi_icmp_ge (tgt := 103) hx hb zd_Q_value_54 (by decide) (by omega) (fun _ => ?_) (fun c54 => absurd c54 (by decide))
                      refine lv_iload hx hb zd_Q_value_103 (lv_at hl 1 rfl) ?_
                      refine zi_if_ne (tgt := 111) hx hb zd_Q_value_105 (by decide) (by omega) (fun c105 => absurd c105 (by decide)) (fun _ => ?_)
                      refine lv_goto (tgt := 125) hx hb zd_Q_value_108 (by decide) ?_
                      refine lv_iinc (v := iI (((k : Nat) : Int) + 1)) (lv' := [(3, .int (iI (((k : Nat) : Int) + 1))), (5, .int (iI (3))), (4, .int (iI (0))), (2, .ref (rf 8)), (0, .ref (qq)), (1, .int (iI (5)))]) hx hb zd_Q_value_125 hl (k := 2) rfl (iI_add _ _) (by decide) rfl (fun ls hl => ?_)
                      refine lv_goto (tgt := 39) hx hb zd_Q_value_128 (by decide) ?_
                      exact ih (k + 1) H locs ls (by omega) (nmF_go (by omega) hF mf) (by omega) hP hD hS (lv_sub hl [0, 3, 4, 5] rfl)
                    · have mf : ¬ (¬ ln - at0 < 3 ∧ tf at0.toNat = fWd (3 * ((k : Nat) : Int)) ∧ tf (at0 + 1).toNat = fWd (3 * ((k : Nat) : Int) + 1) ∧ tf (at0 + 2).toNat = fWd (3 * ((k : Nat) : Int) + 2)) := by first | exact fun q => absurd q.1 (by omega) | exact fun q => c91 ((zSg_e hcc2 hf2).mpr (by first | exact q.2.2.1 | exact q.2.2.2 | (rw [Int.add_zero, Int.add_zero]; exact q.2.1)))
                      refine zi_iconst hx hb zd_Q_value_94 ?_
                      refine lv_istore (lv' := [(4, .int (iI (0))), (5, .int (iI (2))), (3, .int (iI (((k : Nat) : Int)))), (2, .ref (rf 8)), (0, .ref (qq)), (1, .int (iI (5)))]) hx hb zd_Q_value_95 hl (by decide) rfl (fun ls hl => ?_)
                      refine lv_iinc (v := iI (3)) (lv' := [(5, .int (iI (3))), (4, .int (iI (0))), (3, .int (iI (((k : Nat) : Int)))), (2, .ref (rf 8)), (0, .ref (qq)), (1, .int (iI (5)))]) hx hb zd_Q_value_97 hl (k := 1) rfl (by decide) (by decide) rfl (fun ls hl => ?_)
                      refine lv_goto (tgt := 51) hx hb zd_Q_value_100 (by decide) ?_
                      refine lv_iload hx hb zd_Q_value_51 (lv_at hl 0 rfl) ?_
                      refine zi_iconst hx hb zd_Q_value_53 ?_
                      refine zi_icmp_ge (tgt := 103) hx hb zd_Q_value_54 (by decide) (by omega) (fun _ => ?_) (fun c54 => absurd c54 (by decide))
                      refine lv_iload hx hb zd_Q_value_103 (lv_at hl 1 rfl) ?_
                      refine zi_if_ne (tgt := 111) hx hb zd_Q_value_105 (by decide) (by omega) (fun c105 => absurd c105 (by decide)) (fun _ => ?_)
                      refine lv_goto (tgt := 125) hx hb zd_Q_value_108 (by decide) ?_
                      refine lv_iinc (v := iI (((k : Nat) : Int) + 1)) (lv' := [(3, .int (iI (((k : Nat) : Int) + 1))), (5, .int (iI (3))), (4, .int (iI (0))), (2, .ref (rf 8)), (0, .ref (qq)), (1, .int (iI (5)))]) hx hb zd_Q_value_125 hl (k := 2) rfl (iI_add _ _) (by decide) rfl (fun ls hl => ?_)
                      refine lv_goto (tgt := 39) hx hb zd_Q_value_128 (by decide) ?_
                      exact ih (k + 1) H locs ls (by omega) (nmF_go (by omega) hF mf) (by omega) hP hD hS (lv_sub hl [0, 3, 4, 5] rfl)
                · have mf : ¬ (¬ ln - at0 < 3 ∧ tf at0.toNat = fWd (3 * ((k : Nat) : Int)) ∧ tf (at0 + 1).toNat = fWd (3 * ((k : Nat) : Int) + 1) ∧ tf (at0 + 2).toNat = fWd (3 * ((k : Nat) : Int) + 2)) := by first | exact fun q => absurd q.1 (by omega) | exact fun q => c91 ((zSg_e hcc1 hf1).mpr (by first | exact q.2.2.1 | exact q.2.2.2 | (rw [Int.add_zero, Int.add_zero]; exact q.2.1)))
                  refine zi_iconst hx hb zd_Q_value_94 ?_
                  refine lv_istore (lv' := [(4, .int (iI (0))), (5, .int (iI (1))), (3, .int (iI (((k : Nat) : Int)))), (2, .ref (rf 8)), (0, .ref (qq)), (1, .int (iI (5)))]) hx hb zd_Q_value_95 hl (by decide) rfl (fun ls hl => ?_)
                  refine lv_iinc (v := iI (2)) (lv' := [(5, .int (iI (2))), (4, .int (iI (0))), (3, .int (iI (((k : Nat) : Int)))), (2, .ref (rf 8)), (0, .ref (qq)), (1, .int (iI (5)))]) hx hb zd_Q_value_97 hl (k := 1) rfl (by decide) (by decide) rfl (fun ls hl => ?_)
                  refine lv_goto (tgt := 51) hx hb zd_Q_value_100 (by decide) ?_
                  refine lv_iload hx hb zd_Q_value_51 (lv_at hl 0 rfl) ?_
                  refine zi_iconst hx hb zd_Q_value_53 ?_
                  refine zi_icmp_ge (tgt := 103) hx hb zd_Q_value_54 (by decide) (by omega) (fun c54 => absurd c54 (by decide)) (fun _ => ?_)
                  refine lv_aload_n hx hb zd_Q_value_57 rfl (lv_at hl 4 rfl) ?_
                  refine va_get (D := g.1) (ci := 5) (v := .int (iI (at0))) (C := zR_Q) (T := zT_Q) (N := 21) hx hb hw zin_Q hown hK hP 0 rfl rfl 7 (by decide) (hw _ zw_3_205) (fun _ h9 => h9) rfl zd_Q_value_58 ?_
                  refine lv_iload hx hb zd_Q_value_61 (lv_at hl 0 rfl) ?_
                  refine zi_iadd hx hb zd_Q_value_63 ?_
                  refine lv_aload_n hx hb zd_Q_value_64 rfl (lv_at hl 4 rfl) ?_
                  refine va_get (D := g.1) (ci := 5) (v := .int (iI (ln))) (C := zR_Q) (T := zT_Q) (N := 21) hx hb hw zin_Q hown hK hP 0 rfl rfl 2 (by decide) (hw _ zw_3_200) (fun _ h9 => h9) rfl zd_Q_value_65 ?_
                  refine zi_icmp_ge (tgt := 94) hx hb zd_Q_value_68 (by decide) (by omega) (fun c68 => ?_) (fun c68 => ?_)
                  · have mf : ¬ (¬ ln - at0 < 3 ∧ tf at0.toNat = fWd (3 * ((k : Nat) : Int)) ∧ tf (at0 + 1).toNat = fWd (3 * ((k : Nat) : Int) + 1) ∧ tf (at0 + 2).toNat = fWd (3 * ((k : Nat) : Int) + 2)) := by first | exact fun q => absurd q.1 (by omega) | exact fun q => c91 ((zSg_e hcc2 hf2).mpr (by first | exact q.2.2.1 | exact q.2.2.2 | (rw [Int.add_zero, Int.add_zero]; exact q.2.1)))
                    refine zi_iconst hx hb zd_Q_value_94 ?_
                    refine lv_istore (lv' := [(4, .int (iI (0))), (5, .int (iI (2))), (3, .int (iI (((k : Nat) : Int)))), (2, .ref (rf 8)), (0, .ref (qq)), (1, .int (iI (5)))]) hx hb zd_Q_value_95 hl (by decide) rfl (fun ls hl => ?_)
                    refine lv_iinc (v := iI (3)) (lv' := [(5, .int (iI (3))), (4, .int (iI (0))), (3, .int (iI (((k : Nat) : Int)))), (2, .ref (rf 8)), (0, .ref (qq)), (1, .int (iI (5)))]) hx hb zd_Q_value_97 hl (k := 1) rfl (by decide) (by decide) rfl (fun ls hl => ?_)
                    refine lv_goto (tgt := 51) hx hb zd_Q_value_100 (by decide) ?_
                    refine lv_iload hx hb zd_Q_value_51 (lv_at hl 0 rfl) ?_
                    refine zi_iconst hx hb zd_Q_value_53 ?_
                    refine zi_icmp_ge (tgt := 103) hx hb zd_Q_value_54 (by decide) (by omega) (fun _ => ?_) (fun c54 => absurd c54 (by decide))
                    refine lv_iload hx hb zd_Q_value_103 (lv_at hl 1 rfl) ?_
                    refine zi_if_ne (tgt := 111) hx hb zd_Q_value_105 (by decide) (by omega) (fun c105 => absurd c105 (by decide)) (fun _ => ?_)
                    refine lv_goto (tgt := 125) hx hb zd_Q_value_108 (by decide) ?_
                    refine lv_iinc (v := iI (((k : Nat) : Int) + 1)) (lv' := [(3, .int (iI (((k : Nat) : Int) + 1))), (5, .int (iI (3))), (4, .int (iI (0))), (2, .ref (rf 8)), (0, .ref (qq)), (1, .int (iI (5)))]) hx hb zd_Q_value_125 hl (k := 2) rfl (iI_add _ _) (by decide) rfl (fun ls hl => ?_)
                    refine lv_goto (tgt := 39) hx hb zd_Q_value_128 (by decide) ?_
                    exact ih (k + 1) H locs ls (by omega) (nmF_go (by omega) hF mf) (by omega) hP hD hS (lv_sub hl [0, 3, 4, 5] rfl)
                  · refine lv_aload_n hx hb zd_Q_value_71 rfl (lv_at hl 4 rfl) ?_
                    refine va_get (D := g.1) (ci := 5) (v := .ref (rf 0)) (C := zR_Q) (T := zT_Q) (N := 21) hx hb hw zin_Q hown hK hP 0 rfl rfl 1 (by decide) (hw _ zw_3_199) (fun _ h9 => h9) rfl zd_Q_value_72 ?_
                    refine lv_aload_n hx hb zd_Q_value_75 rfl (lv_at hl 4 rfl) ?_
                    refine va_get (D := g.1) (ci := 5) (v := .int (iI (at0))) (C := zR_Q) (T := zT_Q) (N := 21) hx hb hw zin_Q hown hK hP 0 rfl rfl 7 (by decide) (hw _ zw_3_205) (fun _ h9 => h9) rfl zd_Q_value_76 ?_
                    refine lv_iload hx hb zd_Q_value_79 (lv_at hl 0 rfl) ?_
                    refine zi_iadd hx hb zd_Q_value_81 ?_
                    refine zi_bald hx hb hK hP 1 3 rfl rfl (by omega) zd_Q_value_82 ?_
                    have hsg2 := zSg_rg (tf := tf) (i := (at0 + 2).toNat) (hch _)
                    have hcc2 := hch (at0 + 2).toNat
                    refine lv_aload_n hx hb zd_Q_value_83 rfl (lv_at hl 3 rfl) ?_
                    refine lv_iload_n hx hb zd_Q_value_84 rfl (lv_at hl 2 rfl) ?_
                    refine zi_aaldS (k := k) hx hb hK hP 3 8 rfl rfl (by omega) (Int.toNat_natCast _) zd_Q_value_85 ?_
                    refine lv_iload hx hb zd_Q_value_86 (lv_at hl 0 rfl) ?_
                    refine zk_V (As := [.int (iI (2))]) (b := wq k) (own := "CronFinderModel") (nL := 6) (rest := [.int (iI (((zSg tf)) (at0 + 2).toNat))]) hx hb hml hown hw (c_S_charAt l g (wq k) (wv k) 3 (fun i => fWd (3 * ((k : Nat) : Int) + i)) (2) (by omega) (fun j hj => fWd_rg _ (by omega))) zw_4_85 zw_2_113 zw_2_114 zw_1_15 zw_2_115 (np := 1) (by decide +kernel) rfl ⟨rfl, rfl, Nat.le_of_ble_eq_true rfl, Nat.le_of_ble_eq_true rfl⟩ (zStr_mv (wq k) (wv k) 3 (fun i => fWd (3 * ((k : Nat) : Int) + i)) _) hK (zStr_nar (B := fun _ => False) (zStr_now (hT.2.2.2 k (by omega)) hS) (fun _ h => h.elim)) (hP.sub (ws' := []) [] rfl) (zStr_recv (zStr_nar (B := fun _ => False) (zStr_now (hT.2.2.2 k (by omega)) hS) (fun _ h => h.elim))) hl.1 rfl (Nat.le_of_ble_eq_true rfl) ⟨Nat.zero_le _, Nat.zero_le _⟩ zd_Q_value_88 ?_
                    refine zi_as (fWd (3 * ((k : Nat) : Int) + 2)) rfl ?_
                    have hf2 := fWd_rg (3 * ((k : Nat) : Int) + 2) (by omega)
                    refine zi_icmp_eq (tgt := 97) hx hb zd_Q_value_91 (by decide) (by omega) (fun c91 => ?_) (fun c91 => ?_)
                    · refine lv_iinc (v := iI (3)) (lv' := [(5, .int (iI (3))), (4, .int (iI (0))), (3, .int (iI (((k : Nat) : Int)))), (2, .ref (rf 8)), (0, .ref (qq)), (1, .int (iI (5)))]) hx hb zd_Q_value_97 hl (k := 0) rfl (by decide) (by decide) rfl (fun ls hl => ?_)
                      refine lv_goto (tgt := 51) hx hb zd_Q_value_100 (by decide) ?_
                      refine lv_iload hx hb zd_Q_value_51 (lv_at hl 0 rfl) ?_
                      refine zi_iconst hx hb zd_Q_value_53 ?_
                      refine zi_icmp_ge (tgt := 103) hx hb zd_Q_value_54 (by decide) (by omega) (fun _ => ?_) (fun c54 => absurd c54 (by decide))
                      refine lv_iload hx hb zd_Q_value_103 (lv_at hl 1 rfl) ?_
                      refine zi_if_ne (tgt := 111) hx hb zd_Q_value_105 (by decide) (by omega) (fun c105 => absurd c105 (by decide)) (fun _ => ?_)
                      refine lv_goto (tgt := 125) hx hb zd_Q_value_108 (by decide) ?_
                      refine lv_iinc (v := iI (((k : Nat) : Int) + 1)) (lv' := [(3, .int (iI (((k : Nat) : Int) + 1))), (5, .int (iI (3))), (4, .int (iI (0))), (2, .ref (rf 8)), (0, .ref (qq)), (1, .int (iI (5)))]) hx hb zd_Q_value_125 hl (k := 2) rfl (iI_add _ _) (by decide) rfl (fun ls hl => ?_)
                      refine lv_goto (tgt := 39) hx hb zd_Q_value_128 (by decide) ?_
                      exact ih (k + 1) H locs ls (by omega) (nmF_go (by omega) hF mf) (by omega) hP hD hS (lv_sub hl [0, 3, 4, 5] rfl)
                    · have mf : ¬ (¬ ln - at0 < 3 ∧ tf at0.toNat = fWd (3 * ((k : Nat) : Int)) ∧ tf (at0 + 1).toNat = fWd (3 * ((k : Nat) : Int) + 1) ∧ tf (at0 + 2).toNat = fWd (3 * ((k : Nat) : Int) + 2)) := by first | exact fun q => absurd q.1 (by omega) | exact fun q => c91 ((zSg_e hcc2 hf2).mpr (by first | exact q.2.2.1 | exact q.2.2.2 | (rw [Int.add_zero, Int.add_zero]; exact q.2.1)))
                      refine zi_iconst hx hb zd_Q_value_94 ?_
                      refine lv_istore (lv' := [(4, .int (iI (0))), (5, .int (iI (2))), (3, .int (iI (((k : Nat) : Int)))), (2, .ref (rf 8)), (0, .ref (qq)), (1, .int (iI (5)))]) hx hb zd_Q_value_95 hl (by decide) rfl (fun ls hl => ?_)
                      refine lv_iinc (v := iI (3)) (lv' := [(5, .int (iI (3))), (4, .int (iI (0))), (3, .int (iI (((k : Nat) : Int)))), (2, .ref (rf 8)), (0, .ref (qq)), (1, .int (iI (5)))]) hx hb zd_Q_value_97 hl (k := 1) rfl (by decide) (by decide) rfl (fun ls hl => ?_)
                      refine lv_goto (tgt := 51) hx hb zd_Q_value_100 (by decide) ?_
                      refine lv_iload hx hb zd_Q_value_51 (lv_at hl 0 rfl) ?_
                      refine zi_iconst hx hb zd_Q_value_53 ?_
                      refine zi_icmp_ge (tgt := 103) hx hb zd_Q_value_54 (by decide) (by omega) (fun _ => ?_) (fun c54 => absurd c54 (by decide))
                      refine lv_iload hx hb zd_Q_value_103 (lv_at hl 1 rfl) ?_
                      refine zi_if_ne (tgt := 111) hx hb zd_Q_value_105 (by decide) (by omega) (fun c105 => absurd c105 (by decide)) (fun _ => ?_)
                      refine lv_goto (tgt := 125) hx hb zd_Q_value_108 (by decide) ?_
                      refine lv_iinc (v := iI (((k : Nat) : Int) + 1)) (lv' := [(3, .int (iI (((k : Nat) : Int) + 1))), (5, .int (iI (3))), (4, .int (iI (0))), (2, .ref (rf 8)), (0, .ref (qq)), (1, .int (iI (5)))]) hx hb zd_Q_value_125 hl (k := 2) rfl (iI_add _ _) (by decide) rfl (fun ls hl => ?_)
                      refine lv_goto (tgt := 39) hx hb zd_Q_value_128 (by decide) ?_
                      exact ih (k + 1) H locs ls (by omega) (nmF_go (by omega) hF mf) (by omega) hP hD hS (lv_sub hl [0, 3, 4, 5] rfl)
    exact loop 20 0 s.heap [] ls (by omega) (fun _ => rfl) (by omega) hP hD hS (lv_sub hl [0, 1, 2, 3] rfl)
theorem c_Q_value (l : Launch) (g : zGl) (hl0 : l.stackTraces = false) (qq : Nat) (rf : Nat → Nat) (fl ln pl yy mm dd at0 wa on tw hc : Int) (tf : Nat → Int) (hln : 0 ≤ ln ∧ ln ≤ 400) (hat : 0 ≤ at0 ∧ at0 ≤ ln) (hch : ∀ j : Nat, 0 ≤ tf j ∧ tf j < 256) (t1 t2 : Nat) (mq mv wq wv : Nat → Nat) (j : Nat) (hj : j < 7) (mc ms : Nat) (hmc : zHm (vOk j tf ln at0 = true) mc ms) : zEi l zy_Q_value zc_Q_value 6 (some .int) ({ frames := 8, cells := mc, slots := ms, locals := 165 }) g (zQs t1 t2 mq mv wq wv) [.ref qq, .int (iI ((j : Nat) : Int))] [(qq, .inr (5, [.int (iI (fl)), .ref (rf 0), .int (iI (ln)), .int (iI (pl)), .int (iI (yy)), .int (iI (mm)), .int (iI (dd)), .int (iI (at0)), .ref (rf 1), .ref (rf 2), .ref (rf 3), .ref (rf 4), .ref (rf 5), .ref (rf 6), .int (iI (wa)), .int (iI (on)), .int (iI (tw)), .ref (rf 7), .ref (rf 8), .ref (rf 9), .int (iI (hc))])), (rf 0, .inl (g.2 3, 400, .inl (zaI (zSg tf)))), (rf 7, .inl (g.2 8, 12, .inr (.inr (.inr (.inr (zaR mq)))))), (rf 8, .inl (g.2 8, 7, .inr (.inr (.inr (.inr (zaR wq))))))] (vOk j tf ln at0 = true) (some (.int (iI (vVl j tf ln at0)))) (fun _ => [(qq, .inr (5, [.int (iI (fl)), .ref (rf 0), .int (iI (ln)), .int (iI (pl)), .int (iI (yy)), .int (iI (mm)), .int (iI (dd)), .int (iI (vAt j tf ln at0)), .ref (rf 1), .ref (rf 2), .ref (rf 3), .ref (rf 4), .ref (rf 5), .ref (rf 6), .int (iI (wa)), .int (iI (on)), .int (iI (tw)), .ref (rf 7), .ref (rf 8), .ref (rf 9), .int (iI (hc))])), (rf 0, .inl (g.2 3, 400, .inl (zaI (zSg tf)))), (rf 7, .inl (g.2 8, 12, .inr (.inr (.inr (.inr (zaR mq)))))), (rf 8, .inl (g.2 8, 7, .inr (.inr (.inr (.inr (zaR wq))))))]) "java/lang/UnsupportedOperationException" (fun u => [(qq, .inr (5, [.int (iI (fl)), .ref (rf 0), .int (iI (ln)), .int (iI (at0)), .int (iI (yy)), .int (iI (mm)), .int (iI (dd)), .int (iI (u.1 0)), .ref (rf 1), .ref (rf 2), .ref (rf 3), .ref (rf 4), .ref (rf 5), .ref (rf 6), .int (iI (wa)), .int (iI (on)), .int (iI (tw)), .ref (rf 7), .ref (rf 8), .ref (rf 9), .int (iI (hc))])), (rf 0, .inl (g.2 3, 400, .inl (zaI (zSg tf)))), (rf 7, .inl (g.2 8, 12, .inr (.inr (.inr (.inr (zaR mq)))))), (rf 8, .inl (g.2 8, 7, .inr (.inr (.inr (.inr (zaR wq))))))]) mc ms := by
  by_cases h4 : j = 4
  · subst h4; exact c_Q_value_4 l g hl0 qq rf fl ln pl yy mm dd at0 wa on tw hc tf hln hat hch t1 t2 mq mv wq wv mc ms hmc
  · by_cases h5 : j = 5
    · subst h5; exact c_Q_value_5 l g hl0 qq rf fl ln pl yy mm dd at0 wa on tw hc tf hln hat hch t1 t2 mq mv wq wv mc ms hmc
    · exact c_Q_value_o l g hl0 qq rf fl ln pl yy mm dd at0 wa on tw hc tf hln hat hch t1 t2 mq mv wq wv j hj ⟨h4, h5⟩ mc ms hmc
