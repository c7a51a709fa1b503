/-! the days that fire, sought from a day on -/
theorem zd_F_timeOf_0 : decode zc_F_timeOf 0 = .ok (.iload_n 1, 1) := by decide +kernel
theorem zd_F_timeOf_1 : decode zc_F_timeOf 1 = .ok (.i2l, 1) := by decide +kernel
theorem zd_F_timeOf_2 : decode zc_F_timeOf 2 = .ok (.ldc2_w 98, 3) := by decide +kernel
theorem zd_F_timeOf_5 : decode zc_F_timeOf 5 = .ok (.lmul, 1) := by decide +kernel
theorem zd_F_timeOf_6 : decode zc_F_timeOf 6 = .ok (.iload_n 2, 1) := by decide +kernel
theorem zd_F_timeOf_7 : decode zc_F_timeOf 7 = .ok (.i2l, 1) := by decide +kernel
theorem zd_F_timeOf_8 : decode zc_F_timeOf 8 = .ok (.ladd, 1) := by decide +kernel
theorem zd_F_timeOf_9 : decode zc_F_timeOf 9 = .ok (.lreturn, 1) := by decide +kernel
theorem zd_F_firingDayFrom_0 : decode zc_F_firingDayFrom 0 = .ok (.iload_n 1, 1) := by decide +kernel
theorem zd_F_firingDayFrom_1 : decode zc_F_firingDayFrom 1 = .ok (.ldc 68, 2) := by decide +kernel
theorem zd_F_firingDayFrom_3 : decode zc_F_firingDayFrom 3 = .ok (.if_icmp .le 5, 3) := by decide +kernel
theorem zd_F_firingDayFrom_6 : decode zc_F_firingDayFrom 6 = .ok (.iconst (-1), 1) := by decide +kernel
theorem zd_F_firingDayFrom_7 : decode zc_F_firingDayFrom 7 = .ok (.ireturn, 1) := by decide +kernel
theorem zd_F_firingDayFrom_8 : decode zc_F_firingDayFrom 8 = .ok (.iload_n 1, 1) := by decide +kernel
theorem zd_F_firingDayFrom_9 : decode zc_F_firingDayFrom 9 = .ok (.invokestatic 128, 3) := by decide +kernel
theorem zd_F_firingDayFrom_12 : decode zc_F_firingDayFrom 12 = .ok (.istore_n 2, 1) := by decide +kernel
theorem zd_F_firingDayFrom_13 : decode zc_F_firingDayFrom 13 = .ok (.iload_n 2, 1) := by decide +kernel
theorem zd_F_firingDayFrom_14 : decode zc_F_firingDayFrom 14 = .ok (.sipush 3960, 3) := by decide +kernel
theorem zd_F_firingDayFrom_17 : decode zc_F_firingDayFrom 17 = .ok (.if_icmp .ge 81, 3) := by decide +kernel
theorem zd_F_firingDayFrom_20 : decode zc_F_firingDayFrom 20 = .ok (.aload_n 0, 1) := by decide +kernel
theorem zd_F_firingDayFrom_21 : decode zc_F_firingDayFrom 21 = .ok (.getfield 20, 3) := by decide +kernel
theorem zd_F_firingDayFrom_24 : decode zc_F_firingDayFrom 24 = .ok (.iload_n 2, 1) := by decide +kernel
theorem zd_F_firingDayFrom_25 : decode zc_F_firingDayFrom 25 = .ok (.invokevirtual 133, 3) := by decide +kernel
theorem zd_F_firingDayFrom_28 : decode zc_F_firingDayFrom 28 = .ok (.istore_n 3, 1) := by decide +kernel
theorem zd_F_firingDayFrom_29 : decode zc_F_firingDayFrom 29 = .ok (.iload_n 3, 1) := by decide +kernel
theorem zd_F_firingDayFrom_30 : decode zc_F_firingDayFrom 30 = .ok (.ifCond .eq 62, 3) := by decide +kernel
theorem zd_F_firingDayFrom_33 : decode zc_F_firingDayFrom 33 = .ok (.iload_n 2, 1) := by decide +kernel
theorem zd_F_firingDayFrom_34 : decode zc_F_firingDayFrom 34 = .ok (.invokestatic 136, 3) := by decide +kernel
theorem zd_F_firingDayFrom_37 : decode zc_F_firingDayFrom 37 = .ok (.istore 4, 2) := by decide +kernel
theorem zd_F_firingDayFrom_39 : decode zc_F_firingDayFrom 39 = .ok (.iload_n 1, 1) := by decide +kernel
theorem zd_F_firingDayFrom_40 : decode zc_F_firingDayFrom 40 = .ok (.iload 4, 2) := by decide +kernel
theorem zd_F_firingDayFrom_42 : decode zc_F_firingDayFrom 42 = .ok (.isub, 1) := by decide +kernel
theorem zd_F_firingDayFrom_43 : decode zc_F_firingDayFrom 43 = .ok (.iconst 0, 1) := by decide +kernel
theorem zd_F_firingDayFrom_44 : decode zc_F_firingDayFrom 44 = .ok (.invokestatic 139, 3) := by decide +kernel
theorem zd_F_firingDayFrom_47 : decode zc_F_firingDayFrom 47 = .ok (.istore 5, 2) := by decide +kernel
theorem zd_F_firingDayFrom_49 : decode zc_F_firingDayFrom 49 = .ok (.iload 5, 2) := by decide +kernel
theorem zd_F_firingDayFrom_51 : decode zc_F_firingDayFrom 51 = .ok (.bipush 31, 2) := by decide +kernel
theorem zd_F_firingDayFrom_53 : decode zc_F_firingDayFrom 53 = .ok (.if_icmp .ge 39, 3) := by decide +kernel
theorem zd_F_firingDayFrom_56 : decode zc_F_firingDayFrom 56 = .ok (.iload_n 3, 1) := by decide +kernel
theorem zd_F_firingDayFrom_57 : decode zc_F_firingDayFrom 57 = .ok (.iload 5, 2) := by decide +kernel
theorem zd_F_firingDayFrom_59 : decode zc_F_firingDayFrom 59 = .ok (.iushr, 1) := by decide +kernel
theorem zd_F_firingDayFrom_60 : decode zc_F_firingDayFrom 60 = .ok (.iconst 1, 1) := by decide +kernel
theorem zd_F_firingDayFrom_61 : decode zc_F_firingDayFrom 61 = .ok (.iand, 1) := by decide +kernel
theorem zd_F_firingDayFrom_62 : decode zc_F_firingDayFrom 62 = .ok (.ifCond .eq 24, 3) := by decide +kernel
theorem zd_F_firingDayFrom_65 : decode zc_F_firingDayFrom 65 = .ok (.aload_n 0, 1) := by decide +kernel
theorem zd_F_firingDayFrom_66 : decode zc_F_firingDayFrom 66 = .ok (.getfield 35, 3) := by decide +kernel
theorem zd_F_firingDayFrom_69 : decode zc_F_firingDayFrom 69 = .ok (.iload 4, 2) := by decide +kernel
theorem zd_F_firingDayFrom_71 : decode zc_F_firingDayFrom 71 = .ok (.iload 5, 2) := by decide +kernel
theorem zd_F_firingDayFrom_73 : decode zc_F_firingDayFrom 73 = .ok (.iadd, 1) := by decide +kernel
theorem zd_F_firingDayFrom_74 : decode zc_F_firingDayFrom 74 = .ok (.invokevirtual 103, 3) := by decide +kernel
theorem zd_F_firingDayFrom_77 : decode zc_F_firingDayFrom 77 = .ok (.ifCond .ne 9, 3) := by decide +kernel
theorem zd_F_firingDayFrom_80 : decode zc_F_firingDayFrom 80 = .ok (.iload 4, 2) := by decide +kernel
theorem zd_F_firingDayFrom_82 : decode zc_F_firingDayFrom 82 = .ok (.iload 5, 2) := by decide +kernel
theorem zd_F_firingDayFrom_84 : decode zc_F_firingDayFrom 84 = .ok (.iadd, 1) := by decide +kernel
theorem zd_F_firingDayFrom_85 : decode zc_F_firingDayFrom 85 = .ok (.ireturn, 1) := by decide +kernel
theorem zd_F_firingDayFrom_86 : decode zc_F_firingDayFrom 86 = .ok (.iinc 5 1, 3) := by decide +kernel
theorem zd_F_firingDayFrom_89 : decode zc_F_firingDayFrom 89 = .ok (.goto (-40), 3) := by decide +kernel
theorem zd_F_firingDayFrom_92 : decode zc_F_firingDayFrom 92 = .ok (.iinc 2 1, 3) := by decide +kernel
theorem zd_F_firingDayFrom_95 : decode zc_F_firingDayFrom 95 = .ok (.goto (-82), 3) := by decide +kernel
theorem zd_F_firingDayFrom_98 : decode zc_F_firingDayFrom 98 = .ok (.iconst (-1), 1) := by decide +kernel
theorem zd_F_firingDayFrom_99 : decode zc_F_firingDayFrom 99 = .ok (.ireturn, 1) := by decide +kernel
theorem zd_F_firingDayBackFrom_0 : decode zc_F_firingDayBackFrom 0 = .ok (.iload_n 1, 1) := by decide +kernel
theorem zd_F_firingDayBackFrom_1 : decode zc_F_firingDayBackFrom 1 = .ok (.ifCond .ge 5, 3) := by decide +kernel
theorem zd_F_firingDayBackFrom_4 : decode zc_F_firingDayBackFrom 4 = .ok (.iconst (-1), 1) := by decide +kernel
theorem zd_F_firingDayBackFrom_5 : decode zc_F_firingDayBackFrom 5 = .ok (.ireturn, 1) := by decide +kernel
theorem zd_F_firingDayBackFrom_6 : decode zc_F_firingDayBackFrom 6 = .ok (.iload_n 1, 1) := by decide +kernel
theorem zd_F_firingDayBackFrom_7 : decode zc_F_firingDayBackFrom 7 = .ok (.invokestatic 128, 3) := by decide +kernel
theorem zd_F_firingDayBackFrom_10 : decode zc_F_firingDayBackFrom 10 = .ok (.istore_n 2, 1) := by decide +kernel
theorem zd_F_firingDayBackFrom_11 : decode zc_F_firingDayBackFrom 11 = .ok (.iload_n 2, 1) := by decide +kernel
theorem zd_F_firingDayBackFrom_12 : decode zc_F_firingDayBackFrom 12 = .ok (.ifCond .lt 80, 3) := by decide +kernel
theorem zd_F_firingDayBackFrom_15 : decode zc_F_firingDayBackFrom 15 = .ok (.aload_n 0, 1) := by decide +kernel
theorem zd_F_firingDayBackFrom_16 : decode zc_F_firingDayBackFrom 16 = .ok (.getfield 20, 3) := by decide +kernel
theorem zd_F_firingDayBackFrom_19 : decode zc_F_firingDayBackFrom 19 = .ok (.iload_n 2, 1) := by decide +kernel
theorem zd_F_firingDayBackFrom_20 : decode zc_F_firingDayBackFrom 20 = .ok (.invokevirtual 133, 3) := by decide +kernel
theorem zd_F_firingDayBackFrom_23 : decode zc_F_firingDayBackFrom 23 = .ok (.istore_n 3, 1) := by decide +kernel
theorem zd_F_firingDayBackFrom_24 : decode zc_F_firingDayBackFrom 24 = .ok (.iload_n 3, 1) := by decide +kernel
theorem zd_F_firingDayBackFrom_25 : decode zc_F_firingDayBackFrom 25 = .ok (.ifCond .eq 61, 3) := by decide +kernel
theorem zd_F_firingDayBackFrom_28 : decode zc_F_firingDayBackFrom 28 = .ok (.iload_n 2, 1) := by decide +kernel
theorem zd_F_firingDayBackFrom_29 : decode zc_F_firingDayBackFrom 29 = .ok (.invokestatic 136, 3) := by decide +kernel
theorem zd_F_firingDayBackFrom_32 : decode zc_F_firingDayBackFrom 32 = .ok (.istore 4, 2) := by decide +kernel
theorem zd_F_firingDayBackFrom_34 : decode zc_F_firingDayBackFrom 34 = .ok (.iload_n 1, 1) := by decide +kernel
theorem zd_F_firingDayBackFrom_35 : decode zc_F_firingDayBackFrom 35 = .ok (.iload 4, 2) := by decide +kernel
theorem zd_F_firingDayBackFrom_37 : decode zc_F_firingDayBackFrom 37 = .ok (.isub, 1) := by decide +kernel
theorem zd_F_firingDayBackFrom_38 : decode zc_F_firingDayBackFrom 38 = .ok (.bipush 30, 2) := by decide +kernel
theorem zd_F_firingDayBackFrom_40 : decode zc_F_firingDayBackFrom 40 = .ok (.invokestatic 145, 3) := by decide +kernel
theorem zd_F_firingDayBackFrom_43 : decode zc_F_firingDayBackFrom 43 = .ok (.istore 5, 2) := by decide +kernel
theorem zd_F_firingDayBackFrom_45 : decode zc_F_firingDayBackFrom 45 = .ok (.iload 5, 2) := by decide +kernel
theorem zd_F_firingDayBackFrom_47 : decode zc_F_firingDayBackFrom 47 = .ok (.ifCond .lt 39, 3) := by decide +kernel
theorem zd_F_firingDayBackFrom_50 : decode zc_F_firingDayBackFrom 50 = .ok (.iload_n 3, 1) := by decide +kernel
theorem zd_F_firingDayBackFrom_51 : decode zc_F_firingDayBackFrom 51 = .ok (.iload 5, 2) := by decide +kernel
theorem zd_F_firingDayBackFrom_53 : decode zc_F_firingDayBackFrom 53 = .ok (.iushr, 1) := by decide +kernel
theorem zd_F_firingDayBackFrom_54 : decode zc_F_firingDayBackFrom 54 = .ok (.iconst 1, 1) := by decide +kernel
theorem zd_F_firingDayBackFrom_55 : decode zc_F_firingDayBackFrom 55 = .ok (.iand, 1) := by decide +kernel
theorem zd_F_firingDayBackFrom_56 : decode zc_F_firingDayBackFrom 56 = .ok (.ifCond .eq 24, 3) := by decide +kernel
theorem zd_F_firingDayBackFrom_59 : decode zc_F_firingDayBackFrom 59 = .ok (.aload_n 0, 1) := by decide +kernel
theorem zd_F_firingDayBackFrom_60 : decode zc_F_firingDayBackFrom 60 = .ok (.getfield 35, 3) := by decide +kernel
theorem zd_F_firingDayBackFrom_63 : decode zc_F_firingDayBackFrom 63 = .ok (.iload 4, 2) := by decide +kernel
theorem zd_F_firingDayBackFrom_65 : decode zc_F_firingDayBackFrom 65 = .ok (.iload 5, 2) := by decide +kernel
theorem zd_F_firingDayBackFrom_67 : decode zc_F_firingDayBackFrom 67 = .ok (.iadd, 1) := by decide +kernel
theorem zd_F_firingDayBackFrom_68 : decode zc_F_firingDayBackFrom 68 = .ok (.invokevirtual 103, 3) := by decide +kernel
theorem zd_F_firingDayBackFrom_71 : decode zc_F_firingDayBackFrom 71 = .ok (.ifCond .ne 9, 3) := by decide +kernel
theorem zd_F_firingDayBackFrom_74 : decode zc_F_firingDayBackFrom 74 = .ok (.iload 4, 2) := by decide +kernel
theorem zd_F_firingDayBackFrom_76 : decode zc_F_firingDayBackFrom 76 = .ok (.iload 5, 2) := by decide +kernel
theorem zd_F_firingDayBackFrom_78 : decode zc_F_firingDayBackFrom 78 = .ok (.iadd, 1) := by decide +kernel
theorem zd_F_firingDayBackFrom_79 : decode zc_F_firingDayBackFrom 79 = .ok (.ireturn, 1) := by decide +kernel
theorem zd_F_firingDayBackFrom_80 : decode zc_F_firingDayBackFrom 80 = .ok (.iinc 5 (-1), 3) := by decide +kernel
theorem zd_F_firingDayBackFrom_83 : decode zc_F_firingDayBackFrom 83 = .ok (.goto (-38), 3) := by decide +kernel
theorem zd_F_firingDayBackFrom_86 : decode zc_F_firingDayBackFrom 86 = .ok (.iinc 2 (-1), 3) := by decide +kernel
theorem zd_F_firingDayBackFrom_89 : decode zc_F_firingDayBackFrom 89 = .ok (.goto (-78), 3) := by decide +kernel
theorem zd_F_firingDayBackFrom_92 : decode zc_F_firingDayBackFrom 92 = .ok (.iconst (-1), 1) := by decide +kernel
theorem zd_F_firingDayBackFrom_93 : decode zc_F_firingDayBackFrom 93 = .ok (.ireturn, 1) := by decide +kernel
noncomputable def dMon (d : Int) : Int := if h : 0 ≤ d ∧ d < 120530 then Classical.choose (dMon_ex h) else 0
theorem dMon_sp {d : Int} (h : 0 ≤ d ∧ d < 120530) : 0 ≤ dMon d ∧ dMon d < 3960 ∧ dM0 (dMon d) ≤ d ∧ d < dM0 (dMon d + 1) := by
  unfold dMon
  rw [dif_pos h]
  exact Classical.choose_spec (dMon_ex h)
theorem dMon_eq {d m : Int} (h : 0 ≤ d ∧ d < 120530) (h1 : dM0 m ≤ d) (h2 : d < dM0 (m + 1)) : dMon d = m := dMon_un (dMon_sp h).2.2.1 (dMon_sp h).2.2.2 h1 h2
noncomputable def fFit (pD : Int → Nat → Bool) (hol : Int → Bool) (d : Int) : Bool := pD (dMon d) (d - dM0 (dMon d)).toNat && !hol d
theorem fFit_in {pD : Int → Nat → Bool} {hol : Int → Bool} {d m : Int} (h : 0 ≤ m ∧ m < 3960) (h1 : dM0 m ≤ d) (h2 : d < dM0 (m + 1)) : fFit pD hol d = (pD m (d - dM0 m).toNat && !hol d) := by
  have g1 := dM0_rg (m := m) (by omega)
  have g2 := dM0_rg (m := m + 1) (by omega)
  unfold fFit
  rw [dMon_eq (by omega) h1 h2]
def fFD (F : Int → Bool) (x r : Int) : Prop := (r = -1 ∧ ∀ d, x ≤ d → d ≤ 120529 → F d = false) ∨ (x ≤ r ∧ r ≤ 120529 ∧ F r = true ∧ ∀ d, x ≤ d → d < r → F d = false)
def fFB (F : Int → Bool) (x r : Int) : Prop := (r = -1 ∧ ∀ d, 0 ≤ d → d ≤ x → F d = false) ∨ (0 ≤ r ∧ r ≤ x ∧ F r = true ∧ ∀ d, r < d → d ≤ x → F d = false)
theorem fFD_end {F : Int → Bool} {x r : Int} (h : fFD F x r) (h1 : ∀ d, x ≤ d → d ≤ 120529 → F d = false) : -1 = r := by
  rcases h with ⟨h2, -⟩ | ⟨h2, h3, h4, -⟩
  · exact h2.symm
  · rw [h1 r h2 h3] at h4; cases h4
theorem fFD_hit {F : Int → Bool} {x r k : Int} (h : fFD F x r) (h0 : x ≤ k ∧ k ≤ 120529) (h1 : F k = true) (h2 : ∀ d, x ≤ d → d < k → F d = false) : k = r := by
  rcases h with ⟨-, h3⟩ | ⟨h3, h4, h5, h6⟩
  · rw [h3 k h0.1 h0.2] at h1; cases h1
  · by_cases q : k < r
    · rw [h6 k h0.1 q] at h1; cases h1
    · by_cases q2 : r < k
      · rw [h2 r h3 q2] at h5; cases h5
      · omega
theorem fFB_end {F : Int → Bool} {x r : Int} (h : fFB F x r) (h1 : ∀ d, 0 ≤ d → d ≤ x → F d = false) : -1 = r := by
  rcases h with ⟨h2, -⟩ | ⟨h2, h3, h4, -⟩
  · exact h2.symm
  · rw [h1 r h2 h3] at h4; cases h4
theorem fFB_hit {F : Int → Bool} {x r k : Int} (h : fFB F x r) (h0 : 0 ≤ k ∧ k ≤ x) (h1 : F k = true) (h2 : ∀ d, k < d → d ≤ x → F d = false) : k = r := by
  rcases h with ⟨-, h3⟩ | ⟨h3, h4, h5, h6⟩
  · rw [h3 k h0.1 h0.2] at h1; cases h1
  · by_cases q : r < k
    · rw [h6 k q h0.2] at h1; cases h1
    · by_cases q2 : k < r
      · rw [h2 r q2 h4] at h5; cases h5
      · omega
theorem pDB_lt {day len : Int} {i : Nat} (h : pDB day len i = true) : (i : Int) < len := by
  have := of_decide_eq_true h
  omega
theorem pDays_lt {al : Nat → Nat → Bool} {bits : Nat → Bool} {ru : Nat} {sub od mo : Int} {i : Nat} (h : pDays al bits ru sub od mo i = true) : (i : Int) < dM0 (mo + 1) - dM0 mo := by
  unfold pDays at h
  have h2 := (Bool.and_eq_true_iff.mp h).2
  unfold pRule at h2
  split at h2
  · exact of_decide_eq_true (Bool.and_eq_true_iff.mp h2).2
  · exact pDB_lt h2
  · exact pDB_lt h2
  · exact pDB_lt (Bool.and_eq_true_iff.mp h2).2
  · exact of_decide_eq_true (Bool.and_eq_true_iff.mp h2).1
  · exact pDB_lt h2
  · exact pDB_lt h2
section DAYS
variable {pD : Int → Nat → Bool} {hol : Int → Bool} {x k mm : Int}
theorem fin_no (hm : 0 ≤ mm ∧ mm < 3960) (hk : 0 ≤ k) (hI : ∀ d, x ≤ d → d < dM0 mm + k → d < dM0 (mm + 1) → fFit pD hol d = false) (hb : pD mm k.toNat = false ∨ hol (dM0 mm + k) = true) : ∀ d, x ≤ d → d < dM0 mm + (k + 1) → d < dM0 (mm + 1) → fFit pD hol d = false := by
  intro d h1 h2 h3
  by_cases q : d = dM0 mm + k
  · subst q
    rw [fFit_in hm (by omega) h3, show dM0 mm + k - dM0 mm = k by omega]
    rcases hb with hb | hb
    · rw [hb]; rfl
    · rw [hb, Bool.not_true, Bool.and_false]
  · exact hI d h1 (by omega) h3
theorem fin_skip (hm : 0 ≤ mm ∧ mm < 3960) (hI : ∀ d, x ≤ d → d < dM0 mm → fFit pD hol d = false) (hb : ∀ i, i < 32 → pD mm i = false) : ∀ d, x ≤ d → d < dM0 (mm + 1) → fFit pD hol d = false := by
  intro d h1 h2
  by_cases q : d < dM0 mm
  · exact hI d h1 q
  · have := dLen_rg mm
    rw [fFit_in hm (by omega) h2, hb _ (by omega)]; rfl
theorem fin_nob (hm : 0 ≤ mm ∧ mm < 3960) (hk : 0 ≤ k) (hI : ∀ d, dM0 mm + k < d → d ≤ x → dM0 mm ≤ d → fFit pD hol d = false) (hlt : dM0 mm + k < dM0 (mm + 1)) (hb : pD mm k.toNat = false ∨ hol (dM0 mm + k) = true) : ∀ d, dM0 mm + (k + -1) < d → d ≤ x → dM0 mm ≤ d → fFit pD hol d = false := by
  intro d h1 h2 h3
  by_cases q : d = dM0 mm + k
  · subst q
    rw [fFit_in hm (by omega) hlt, show dM0 mm + k - dM0 mm = k by omega]
    rcases hb with hb | hb
    · rw [hb]; rfl
    · rw [hb, Bool.not_true, Bool.and_false]
  · exact hI d (by omega) h2 h3
theorem fin_skipb (hm : 0 ≤ mm ∧ mm < 3960) (hI : ∀ d, dM0 (mm + 1) ≤ d → d ≤ x → fFit pD hol d = false) (hb : ∀ i, i < 32 → pD mm i = false) : ∀ d, dM0 mm ≤ d → d ≤ x → fFit pD hol d = false := by
  intro d h1 h2
  by_cases q : d < dM0 (mm + 1)
  · have := dLen_rg mm
    rw [fFit_in hm h1 q, hb _ (by omega)]; rfl
  · exact hI d (by omega) h2
end DAYS
set_option maxHeartbeats 4000000 in
set_option maxRecDepth 100000 in
theorem c_F_timeOf (l : Launch) (g : zGl) (fq : Nat) (d x : Int) (hd : -1000000 ≤ d ∧ d ≤ 1000000 ∧ -1000000 ≤ x ∧ x ≤ 1000000) : zSi l zy_F_timeOf zc_F_timeOf 3 (some .long) ({ frames := 0, cells := 0, slots := 0, locals := 0 }) g zN [.ref (fq), .int (iI (d)), .int (iI (x))] [] (some (.long (lI (d * 86400 + x)))) := by
  refine zs_open (by decide +kernel) (Nat.le_of_ble_eq_true rfl) ?_
  intro p e s m below meth c ls hx hb hml hr hlk hown hw hK hT hP hl
  have hown : s.vm.findClass "CronFinder" = some m.cls := hown
  have hl : lv_has ls 3 [(0, .ref (fq)), (1, .int (iI (d))), (2, .int (iI (x)))] := hl
  refine lv_iload_n hx hb zd_F_timeOf_0 rfl (lv_at hl 1 rfl) ?_
  refine zi_i2l hx hb zd_F_timeOf_1 (by omega) ?_
  refine lv_ldc2 hx hb hown (hw _ zw_3_27) zd_F_timeOf_2 ?_
  refine zl_asx _ 86400 (by decide) ?_
  refine zi_lmul hx hb zd_F_timeOf_5 ?_
  refine lv_iload_n hx hb zd_F_timeOf_6 rfl (lv_at hl 2 rfl) ?_
  refine zi_i2l hx hb zd_F_timeOf_7 (by omega) ?_
  refine zi_ladd hx hb zd_F_timeOf_8 ?_
  refine zl_as (d * 86400 + x) (rfl) ?_
  exact zs_lret hx hb hr hlk zd_F_timeOf_9
set_option maxHeartbeats 4000000 in
set_option maxRecDepth 100000 in
theorem c_F_firingDayFrom (l : Launch) (g : zGl) (fq tp : Nat) (tl : Int) (sq : Nat) (br : Int) (hq ha : Nat) (h : Nat → Int) (cnt : Int) (hol : Int → Bool) (hR : dsR h cnt hol) (pq : Nat) (ra aa : Nat → Nat) (al : Nat → Nat → Bool) (sub od : Int) (bits : Nat → Bool) (t : Nat) (en : Nat → Nat) (tw : Nat) (hs : 0 ≤ sub ∧ sub ≤ 31 ∧ 0 ≤ od ∧ od ≤ 5) (ru : Nat) (hru : ru < 7 ∧ (ru = 3 → 1 ≤ sub)) (x rr : Int) (hx0 : 0 ≤ x ∧ x ≤ 120530) (hj : fFD (fFit (pDays al bits ru sub od) hol) x rr) : zSi l zy_F_firingDayFrom zc_F_firingDayFrom 6 (some .int) ({ frames := 4, cells := 0, slots := 0, locals := 88 }) g (zS3 t en tw (fun _ => False)) [.ref (fq), .int (iI (x))] [(fq, .inr (0, [.ref (tp), .int (iI (tl)), .ref (pq), .ref (sq), .int (iI (br)), .ref (hq)])), (pq, .inr (3, [.ref (ra 0), .ref (ra 1), .ref (ra 2), .ref (ra 3), .ref (ra 4), .ref (ra 5), .ref (ra 6), .ref (en ru), .int (iI (sub)), .int (iI (od)), .int (zbits (bits))])), (ra 0, .inr (2, [.int (iI (0)), .int (iI (59)), .ref (aa 0)])), (aa 0, .inl (g.2 1, 60, .inl (zaB (al 0)))), (ra 1, .inr (2, [.int (iI (0)), .int (iI (59)), .ref (aa 1)])), (aa 1, .inl (g.2 1, 60, .inl (zaB (al 1)))), (ra 2, .inr (2, [.int (iI (0)), .int (iI (23)), .ref (aa 2)])), (aa 2, .inl (g.2 1, 24, .inl (zaB (al 2)))), (ra 3, .inr (2, [.int (iI (1)), .int (iI (31)), .ref (aa 3)])), (aa 3, .inl (g.2 1, 31, .inl (zaB (al 3)))), (ra 4, .inr (2, [.int (iI (1)), .int (iI (12)), .ref (aa 4)])), (aa 4, .inl (g.2 1, 12, .inl (zaB (al 4)))), (ra 5, .inr (2, [.int (iI (1)), .int (iI (7)), .ref (aa 5)])), (aa 5, .inl (g.2 1, 7, .inl (zaB (al 5)))), (ra 6, .inr (2, [.int (iI (1970)), .int (iI (2299)), .ref (aa 6)])), (aa 6, .inl (g.2 1, 330, .inl (zaB (al 6)))), (hq, .inr (1, [.ref (ha), .int (iI (cnt))])), (ha, .inl (g.2 0, 200, .inl (zaI h)))] (some (.int (iI (rr)))) := by
  refine zs_open (by decide +kernel) (Nat.le_of_ble_eq_true rfl) ?_
  intro p e s m below meth c ls hx hb hml hr hlk hown hw hK hT hP hl
  have hown : s.vm.findClass "CronFinder" = some m.cls := hown
  have hl : lv_has ls 6 [(0, .ref (fq)), (1, .int (iI (x)))] := hl
  refine lv_iload_n hx hb zd_F_firingDayFrom_0 rfl (lv_at hl 1 rfl) ?_
  refine lv_ldc hx hb hown (hw _ zw_2_215) zd_F_firingDayFrom_1 ?_
  refine zi_asx _ 120529 (by decide) ?_
  refine zi_icmp_le (tgt := 8) hx hb zd_F_firingDayFrom_3 (by decide) (by omega) (fun c3 => ?_) (fun c3 => ?_)
  · refine lv_iload_n hx hb zd_F_firingDayFrom_8 rfl (lv_at hl 1 rfl) ?_
    obtain ⟨mo, hm⟩ := dMon_ex (d := x) (by omega)
    refine zk_S (As := [.int (iI (x))]) (own := "CronFinder") (nL := 6) (rest := []) hx hb hml hown hw (c_D_monthOf l g t (x) mo (by omega) hm) zw_3_32 zw_3_33 zw_1_22 zw_3_34 (np := 1) (by decide +kernel) rfl (by decide) (zSd_mv t _) hK hT.1 (hP.sub (ws' := []) [] rfl) hl.1 rfl (Nat.le_of_ble_eq_true rfl) (by decide) zd_F_firingDayFrom_9 ?_
    refine lv_istore_n (lv' := [(2, .int (iI (mo))), (0, .ref (fq)), (1, .int (iI (x)))]) hx hb zd_F_firingDayFrom_12 rfl hl (by decide) rfl (fun ls hl => ?_)
    have loop : ∀ (n : Nat) (mm : Int) (ls : Array Slot), (0 ≤ mm ∧ mm ≤ 3960 ∧ x < dM0 mm + 31) → (∀ d, x ≤ d → d < dM0 mm → fFit (pDays al bits ru sub od) hol d = false) → ((3960 - mm).toNat < n) → lv_has ls 6 [(2, .int (iI (mm))), (0, .ref (fq)), (1, .int (iI (x)))] → W p l e ({ frames := 4, cells := 0, slots := 0, locals := 88 }) s m [.ref (fq), .int (iI (x))].toArray below meth c s.heap [] 0 0 (MQ below (zSil (some (.int (iI (rr))))) [.ref (fq), .int (iI (x))].toArray s 0 0 (fun _ => False)) (F0 m 13 ls []) := by
      intro n
      induction n with
      | zero =>
        intro mm ls h1 h3 h2 hl
        exact absurd h2 (by omega)
      | succ n ih =>
        intro mm ls h1 h3 h2 hl
        refine lv_iload_n hx hb zd_F_firingDayFrom_13 rfl (lv_at hl 0 rfl) ?_
        refine zi_sipush hx hb zd_F_firingDayFrom_14 (by decide) ?_
        refine zi_icmp_ge (tgt := 98) hx hb zd_F_firingDayFrom_17 (by decide) (by omega) (fun c17 => ?_) (fun c17 => ?_)
        · refine zi_iconst hx hb zd_F_firingDayFrom_98 ?_
          refine zi_as (rr) (by exact fFD_end hj (fun d q1 q2 => h3 d q1 (by rw [show mm = 3960 by omega, dM0_end]; omega))) ?_
          exact zs_iret hx hb hr hlk zd_F_firingDayFrom_99
        · have hL := dLen_rg mm
          have hM1 := dM0_rg (m := mm) (by omega)
          have hM2 := dM0_rg (m := mm + 1) (by omega)
          refine lv_aload_n hx hb zd_F_firingDayFrom_20 rfl (lv_at hl 1 rfl) ?_
          refine va_get (D := g.1) (ci := 0) (v := .ref (pq)) (C := zR_F) (T := zT_F) (N := 6) hx hb hw zin_F hown hK hP 0 rfl rfl 2 (by decide) (hw _ zw_1_108) (fun _ h9 => h9) rfl zd_F_firingDayFrom_21 ?_
          refine lv_iload_n hx hb zd_F_firingDayFrom_24 rfl (lv_at hl 0 rfl) ?_
          refine zk_V (As := [.int (iI (mm))]) (b := pq) (own := "CronFinder") (nL := 6) (rest := []) hx hb hml hown hw (c_P_daysOf l g pq ra aa al sub od bits t en tw (mm) (by omega) hs ru hru) zw_3_53 zw_3_54 zw_3_55 zw_1_2 zw_3_56 (np := 1) (by decide +kernel) rfl (by decide) (zS3_mv t en tw _) hK hT (hP.sub (ws' := [(pq, .inr (3, [.ref (ra 0), .ref (ra 1), .ref (ra 2), .ref (ra 3), .ref (ra 4), .ref (ra 5), .ref (ra 6), .ref (en ru), .int (iI (sub)), .int (iI (od)), .int (zbits (bits))])), (ra 0, .inr (2, [.int (iI (0)), .int (iI (59)), .ref (aa 0)])), (aa 0, .inl (g.2 1, 60, .inl (zaB (al 0)))), (ra 1, .inr (2, [.int (iI (0)), .int (iI (59)), .ref (aa 1)])), (aa 1, .inl (g.2 1, 60, .inl (zaB (al 1)))), (ra 2, .inr (2, [.int (iI (0)), .int (iI (23)), .ref (aa 2)])), (aa 2, .inl (g.2 1, 24, .inl (zaB (al 2)))), (ra 3, .inr (2, [.int (iI (1)), .int (iI (31)), .ref (aa 3)])), (aa 3, .inl (g.2 1, 31, .inl (zaB (al 3)))), (ra 4, .inr (2, [.int (iI (1)), .int (iI (12)), .ref (aa 4)])), (aa 4, .inl (g.2 1, 12, .inl (zaB (al 4)))), (ra 5, .inr (2, [.int (iI (1)), .int (iI (7)), .ref (aa 5)])), (aa 5, .inl (g.2 1, 7, .inl (zaB (al 5)))), (ra 6, .inr (2, [.int (iI (1970)), .int (iI (2299)), .ref (aa 6)])), (aa 6, .inl (g.2 1, 330, .inl (zaB (al 6))))]) [1, 2, 3, 4, 5, 6, 7, 8, 9, 10, 11, 12, 13, 14, 15] rfl) (va_recv hK hP (ci := 3) (q0 := 1) rfl rfl) hl.1 rfl (Nat.le_of_ble_eq_true rfl) (by decide) zd_F_firingDayFrom_25 ?_
          refine lv_istore_n (lv' := [(3, .int (zbits (pDays al bits ru sub od (mm)))), (2, .int (iI (mm))), (0, .ref (fq)), (1, .int (iI (x)))]) hx hb zd_F_firingDayFrom_28 rfl hl (by decide) rfl (fun ls hl => ?_)
          refine lv_iload_n hx hb zd_F_firingDayFrom_29 rfl (lv_at hl 0 rfl) ?_
          refine zw_ifeq (tgt := 92) hx hb zd_F_firingDayFrom_30 (by decide) (fun c30 => ?_) ?_
          · refine lv_iinc (v := iI (mm + 1)) (lv' := [(2, .int (iI (mm + 1))), (3, .int (zbits (pDays al bits ru sub od (mm)))), (0, .ref (fq)), (1, .int (iI (x)))]) hx hb zd_F_firingDayFrom_92 hl (k := 1) rfl (iI_add _ _) (by decide) rfl (fun ls hl => ?_)
            refine lv_goto (tgt := 13) hx hb zd_F_firingDayFrom_95 (by decide) ?_
            exact ih (mm + 1) ls ⟨by omega, by omega, by omega⟩ (fin_skip ⟨h1.1, by omega⟩ h3 c30) (by omega) (lv_sub hl [0, 2, 3] rfl)
          · refine lv_iload_n hx hb zd_F_firingDayFrom_33 rfl (lv_at hl 1 rfl) ?_
            refine zk_S (As := [.int (iI (mm))]) (own := "CronFinder") (nL := 6) (rest := []) hx hb hml hown hw (c_D_startOfMonth l g t (mm) (by omega)) zw_3_98 zw_3_42 zw_1_22 zw_3_43 (np := 1) (by decide +kernel) rfl (by decide) (zSd_mv t _) hK hT.1 (hP.sub (ws' := []) [] rfl) hl.1 rfl (Nat.le_of_ble_eq_true rfl) (by decide) zd_F_firingDayFrom_34 ?_
            have hq34 := dM0_rg (m := mm) (by omega)
            refine lv_istore (lv' := [(4, .int (iI (dM0 (mm)))), (3, .int (zbits (pDays al bits ru sub od (mm)))), (2, .int (iI (mm))), (0, .ref (fq)), (1, .int (iI (x)))]) hx hb zd_F_firingDayFrom_37 hl (by decide) rfl (fun ls hl => ?_)
            refine lv_iload_n hx hb zd_F_firingDayFrom_39 rfl (lv_at hl 4 rfl) ?_
            refine lv_iload hx hb zd_F_firingDayFrom_40 (lv_at hl 0 rfl) ?_
            refine zi_isub hx hb zd_F_firingDayFrom_42 ?_
            refine zi_iconst hx hb zd_F_firingDayFrom_43 ?_
            refine zk_S (As := [.int (iI (x - (dM0 (mm)))), .int (iI (0))]) (own := "CronFinder") (nL := 6) (rest := []) hx hb hml hown hw (c_max l g (x - (dM0 (mm))) (0) (by omega)) zw_3_99 zw_2_59 zw_1_14 zw_2_60 (np := 2) (by decide +kernel) rfl (by decide) zN_mv hK trivial (hP.sub (ws' := []) [] rfl) hl.1 rfl (Nat.le_of_ble_eq_true rfl) (by decide) zd_F_firingDayFrom_44 ?_
            refine lv_istore (lv' := [(5, .int (iI (max (x - (dM0 (mm))) (0)))), (4, .int (iI (dM0 (mm)))), (3, .int (zbits (pDays al bits ru sub od (mm)))), (2, .int (iI (mm))), (0, .ref (fq)), (1, .int (iI (x)))]) hx hb zd_F_firingDayFrom_47 hl (by decide) rfl (fun ls hl => ?_)
            have loop2 : ∀ (n2 : Nat) (k : Int) (ls : Array Slot), (max (x - dM0 mm) 0 ≤ k ∧ k ≤ 31) → (∀ d, x ≤ d → d < dM0 mm + k → d < dM0 (mm + 1) → fFit (pDays al bits ru sub od) hol d = false) → ((31 - k).toNat < n2) → lv_has ls 6 [(5, .int (iI (k))), (4, .int (iI (dM0 mm))), (3, .int (zbits (pDays al bits ru sub od mm))), (2, .int (iI (mm))), (0, .ref (fq)), (1, .int (iI (x)))] → W p l e ({ frames := 4, cells := 0, slots := 0, locals := 88 }) s m [.ref (fq), .int (iI (x))].toArray below meth c s.heap [] 0 0 (MQ below (zSil (some (.int (iI (rr))))) [.ref (fq), .int (iI (x))].toArray s 0 0 (fun _ => False)) (F0 m 49 ls []) := by
              intro n2
              induction n2 with
              | zero =>
                intro k ls h4 hI h5 hl
                exact absurd h5 (by omega)
              | succ n2 ih2 =>
                intro k ls h4 hI h5 hl
                refine lv_iload hx hb zd_F_firingDayFrom_49 (lv_at hl 0 rfl) ?_
                refine zi_bipush hx hb zd_F_firingDayFrom_51 (by decide) ?_
                refine zi_icmp_ge (tgt := 92) hx hb zd_F_firingDayFrom_53 (by decide) (by omega) (fun c53 => ?_) (fun c53 => ?_)
                · refine lv_iinc (v := iI (mm + 1)) (lv' := [(2, .int (iI (mm + 1))), (5, .int (iI (k))), (4, .int (iI (dM0 mm))), (3, .int (zbits (pDays al bits ru sub od mm))), (0, .ref (fq)), (1, .int (iI (x)))]) hx hb zd_F_firingDayFrom_92 hl (k := 3) rfl (iI_add _ _) (by decide) rfl (fun ls hl => ?_)
                  refine lv_goto (tgt := 13) hx hb zd_F_firingDayFrom_95 (by decide) ?_
                  exact ih (mm + 1) ls ⟨by omega, by omega, by omega⟩ (fun d q1 q2 => hI d q1 (by omega) q2) (by omega) (lv_sub hl [0, 4, 5] rfl)
                · refine lv_iload_n hx hb zd_F_firingDayFrom_56 rfl (lv_at hl 2 rfl) ?_
                  refine lv_iload hx hb zd_F_firingDayFrom_57 (lv_at hl 0 rfl) ?_
                  refine zw_bit hx hb (by omega) zd_F_firingDayFrom_59 zd_F_firingDayFrom_60 zd_F_firingDayFrom_61 ?_
                  refine zb_if_eq (tgt := 86) hx hb zd_F_firingDayFrom_62 (by decide) (fun c62 => ?_) (fun c62 => ?_)
                  · refine lv_iinc (v := iI (k + 1)) (lv' := [(5, .int (iI (k + 1))), (4, .int (iI (dM0 mm))), (3, .int (zbits (pDays al bits ru sub od mm))), (2, .int (iI (mm))), (0, .ref (fq)), (1, .int (iI (x)))]) hx hb zd_F_firingDayFrom_86 hl (k := 0) rfl (iI_add _ _) (by decide) rfl (fun ls hl => ?_)
                    refine lv_goto (tgt := 49) hx hb zd_F_firingDayFrom_89 (by decide) ?_
                    exact ih2 (k + 1) ls ⟨by omega, by omega⟩ (fin_no ⟨h1.1, by omega⟩ (by omega) hI (by first | exact Or.inl c62 | exact Or.inr c77)) (by omega) (lv_sub hl [0, 1, 2, 3, 4, 5] rfl)
                  · refine lv_aload_n hx hb zd_F_firingDayFrom_65 rfl (lv_at hl 4 rfl) ?_
                    refine va_get (D := g.1) (ci := 0) (v := .ref (hq)) (C := zR_F) (T := zT_F) (N := 6) hx hb hw zin_F hown hK hP 0 rfl rfl 5 (by decide) (hw _ zw_1_111) (fun _ h9 => h9) rfl zd_F_firingDayFrom_66 ?_
                    refine lv_iload hx hb zd_F_firingDayFrom_69 (lv_at hl 1 rfl) ?_
                    refine lv_iload hx hb zd_F_firingDayFrom_71 (lv_at hl 0 rfl) ?_
                    refine zi_iadd hx hb zd_F_firingDayFrom_73 ?_
                    refine zk_V (As := [.int (iI ((dM0 mm) + k))]) (b := hq) (own := "CronFinder") (nL := 6) (rest := []) hx hb hml hown hw (c_S_has l g hq ha h cnt hol hR ((dM0 mm) + k) (by omega)) zw_3_100 zw_2_222 zw_2_223 zw_1_6 zw_2_224 (np := 1) (by decide +kernel) rfl (by decide) zN_mv hK trivial (hP.sub (ws' := [(hq, .inr (1, [.ref (ha), .int (iI (cnt))])), (ha, .inl (g.2 0, 200, .inl (zaI h)))]) [16, 17] rfl) (va_recv hK hP (ci := 1) (q0 := 16) rfl rfl) hl.1 rfl (Nat.le_of_ble_eq_true rfl) (by decide) zd_F_firingDayFrom_74 ?_
                    refine zb_if_ne (tgt := 86) hx hb zd_F_firingDayFrom_77 (by decide) (fun c77 => ?_) (fun c77 => ?_)
                    · refine lv_iinc (v := iI (k + 1)) (lv' := [(5, .int (iI (k + 1))), (4, .int (iI (dM0 mm))), (3, .int (zbits (pDays al bits ru sub od mm))), (2, .int (iI (mm))), (0, .ref (fq)), (1, .int (iI (x)))]) hx hb zd_F_firingDayFrom_86 hl (k := 0) rfl (iI_add _ _) (by decide) rfl (fun ls hl => ?_)
                      refine lv_goto (tgt := 49) hx hb zd_F_firingDayFrom_89 (by decide) ?_
                      exact ih2 (k + 1) ls ⟨by omega, by omega⟩ (fin_no ⟨h1.1, by omega⟩ (by omega) hI (by first | exact Or.inl c62 | exact Or.inr c77)) (by omega) (lv_sub hl [0, 1, 2, 3, 4, 5] rfl)
                    · refine lv_iload hx hb zd_F_firingDayFrom_80 (lv_at hl 1 rfl) ?_
                      refine lv_iload hx hb zd_F_firingDayFrom_82 (lv_at hl 0 rfl) ?_
                      refine zi_iadd hx hb zd_F_firingDayFrom_84 ?_
                      refine zi_as (rr) (by have hb1 := pDays_lt c62; exact fFD_hit hj (by omega) (by rw [fFit_in ⟨h1.1, by omega⟩ (by omega) (by omega), show dM0 mm + k - dM0 mm = k by omega, c62, c77]; rfl) (fun d q1 q2 => hI d q1 q2 (by omega))) ?_
                      exact zs_iret hx hb hr hlk zd_F_firingDayFrom_85
            exact loop2 32 (max (x - dM0 mm) 0) ls ⟨by omega, by omega⟩ (fun d q1 q2 q3 => h3 d q1 (by omega)) (by omega) (lv_sub hl [0, 1, 2, 3, 4, 5] rfl)
    exact loop 3961 mo ls ⟨by omega, by omega, by have := dLen_rg mo; omega⟩ (fun d q1 q2 => by omega) (by omega) (lv_sub hl [0, 1, 2] rfl)
  · refine zi_iconst hx hb zd_F_firingDayFrom_6 ?_
    refine zi_as (rr) (by exact fFD_end hj (fun d q1 q2 => absurd q1 (by omega))) ?_
    exact zs_iret hx hb hr hlk zd_F_firingDayFrom_7
set_option maxHeartbeats 4000000 in
set_option maxRecDepth 100000 in
theorem c_F_firingDayBackFrom (l : Launch) (g : zGl) (fq tp : Nat) (tl : Int) (sq : Nat) (br : Int) (hq ha : Nat) (h : Nat → Int) (cnt : Int) (hol : Int → Bool) (hR : dsR h cnt hol) (pq : Nat) (ra aa : Nat → Nat) (al : Nat → Nat → Bool) (sub od : Int) (bits : Nat → Bool) (t : Nat) (en : Nat → Nat) (tw : Nat) (hs : 0 ≤ sub ∧ sub ≤ 31 ∧ 0 ≤ od ∧ od ≤ 5) (ru : Nat) (hru : ru < 7 ∧ (ru = 3 → 1 ≤ sub)) (x rr : Int) (hx0 : -1 ≤ x ∧ x ≤ 120529) (hj : fFB (fFit (pDays al bits ru sub od) hol) x rr) : zSi l zy_F_firingDayBackFrom zc_F_firingDayBackFrom 6 (some .int) ({ frames := 4, cells := 0, slots := 0, locals := 88 }) g (zS3 t en tw (fun _ => False)) [.ref (fq), .int (iI (x))] [(fq, .inr (0, [.ref (tp), .int (iI (tl)), .ref (pq), .ref (sq), .int (iI (br)), .ref (hq)])), (pq, .inr (3, [.ref (ra 0), .ref (ra 1), .ref (ra 2), .ref (ra 3), .ref (ra 4), .ref (ra 5), .ref (ra 6), .ref (en ru), .int (iI (sub)), .int (iI (od)), .int (zbits (bits))])), (ra 0, .inr (2, [.int (iI (0)), .int (iI (59)), .ref (aa 0)])), (aa 0, .inl (g.2 1, 60, .inl (zaB (al 0)))), (ra 1, .inr (2, [.int (iI (0)), .int (iI (59)), .ref (aa 1)])), (aa 1, .inl (g.2 1, 60, .inl (zaB (al 1)))), (ra 2, .inr (2, [.int (iI (0)), .int (iI (23)), .ref (aa 2)])), (aa 2, .inl (g.2 1, 24, .inl (zaB (al 2)))), (ra 3, .inr (2, [.int (iI (1)), .int (iI (31)), .ref (aa 3)])), (aa 3, .inl (g.2 1, 31, .inl (zaB (al 3)))), (ra 4, .inr (2, [.int (iI (1)), .int (iI (12)), .ref (aa 4)])), (aa 4, .inl (g.2 1, 12, .inl (zaB (al 4)))), (ra 5, .inr (2, [.int (iI (1)), .int (iI (7)), .ref (aa 5)])), (aa 5, .inl (g.2 1, 7, .inl (zaB (al 5)))), (ra 6, .inr (2, [.int (iI (1970)), .int (iI (2299)), .ref (aa 6)])), (aa 6, .inl (g.2 1, 330, .inl (zaB (al 6)))), (hq, .inr (1, [.ref (ha), .int (iI (cnt))])), (ha, .inl (g.2 0, 200, .inl (zaI h)))] (some (.int (iI (rr)))) := by
  refine zs_open (by decide +kernel) (Nat.le_of_ble_eq_true rfl) ?_
  intro p e s m below meth c ls hx hb hml hr hlk hown hw hK hT hP hl
  have hown : s.vm.findClass "CronFinder" = some m.cls := hown
  have hl : lv_has ls 6 [(0, .ref (fq)), (1, .int (iI (x)))] := hl
  refine lv_iload_n hx hb zd_F_firingDayBackFrom_0 rfl (lv_at hl 1 rfl) ?_
  refine zi_if_ge (tgt := 6) hx hb zd_F_firingDayBackFrom_1 (by decide) (by omega) (fun c1 => ?_) (fun c1 => ?_)
  · refine lv_iload_n hx hb zd_F_firingDayBackFrom_6 rfl (lv_at hl 1 rfl) ?_
    obtain ⟨mo, hm⟩ := dMon_ex (d := x) (by omega)
    refine zk_S (As := [.int (iI (x))]) (own := "CronFinder") (nL := 6) (rest := []) hx hb hml hown hw (c_D_monthOf l g t (x) mo (by omega) hm) zw_3_32 zw_3_33 zw_1_22 zw_3_34 (np := 1) (by decide +kernel) rfl (by decide) (zSd_mv t _) hK hT.1 (hP.sub (ws' := []) [] rfl) hl.1 rfl (Nat.le_of_ble_eq_true rfl) (by decide) zd_F_firingDayBackFrom_7 ?_
    refine lv_istore_n (lv' := [(2, .int (iI (mo))), (0, .ref (fq)), (1, .int (iI (x)))]) hx hb zd_F_firingDayBackFrom_10 rfl hl (by decide) rfl (fun ls hl => ?_)
    have loop : ∀ (n : Nat) (mm : Int) (ls : Array Slot), (-1 ≤ mm ∧ mm ≤ mo) → (∀ d, dM0 (mm + 1) ≤ d → d ≤ x → fFit (pDays al bits ru sub od) hol d = false) → ((mm + 1).toNat < n) → lv_has ls 6 [(2, .int (iI (mm))), (0, .ref (fq)), (1, .int (iI (x)))] → W p l e ({ frames := 4, cells := 0, slots := 0, locals := 88 }) s m [.ref (fq), .int (iI (x))].toArray below meth c s.heap [] 0 0 (MQ below (zSil (some (.int (iI (rr))))) [.ref (fq), .int (iI (x))].toArray s 0 0 (fun _ => False)) (F0 m 11 ls []) := by
      intro n
      induction n with
      | zero =>
        intro mm ls h0 h3 h2 hl
        exact absurd h2 (by omega)
      | succ n ih =>
        intro mm ls h0 h3 h2 hl
        refine lv_iload_n hx hb zd_F_firingDayBackFrom_11 rfl (lv_at hl 0 rfl) ?_
        refine zi_if_lt (tgt := 92) hx hb zd_F_firingDayBackFrom_12 (by decide) (by omega) (fun c12 => ?_) (fun c12 => ?_)
        · refine zi_iconst hx hb zd_F_firingDayBackFrom_92 ?_
          refine zi_as (rr) (by exact fFB_end hj (fun d q1 q2 => h3 d (by rw [show mm + 1 = 0 by omega, dM0_0]; exact q1) q2)) ?_
          exact zs_iret hx hb hr hlk zd_F_firingDayBackFrom_93
        · have hL := dLen_rg mm
          have hM1 := dM0_rg (m := mm) (by omega)
          have hM2 := dM0_rg (m := mm + 1) (by omega)
          have h1 : 0 ≤ mm ∧ mm ≤ 3959 ∧ dM0 mm ≤ x := ⟨by omega, by omega, by have := dM0_le (a := mm) (b := mo) (by omega); omega⟩
          refine lv_aload_n hx hb zd_F_firingDayBackFrom_15 rfl (lv_at hl 1 rfl) ?_
          refine va_get (D := g.1) (ci := 0) (v := .ref (pq)) (C := zR_F) (T := zT_F) (N := 6) hx hb hw zin_F hown hK hP 0 rfl rfl 2 (by decide) (hw _ zw_1_108) (fun _ h9 => h9) rfl zd_F_firingDayBackFrom_16 ?_
          refine lv_iload_n hx hb zd_F_firingDayBackFrom_19 rfl (lv_at hl 0 rfl) ?_
          refine zk_V (As := [.int (iI (mm))]) (b := pq) (own := "CronFinder") (nL := 6) (rest := []) hx hb hml hown hw (c_P_daysOf l g pq ra aa al sub od bits t en tw (mm) (by omega) hs ru hru) zw_3_53 zw_3_54 zw_3_55 zw_1_2 zw_3_56 (np := 1) (by decide +kernel) rfl (by decide) (zS3_mv t en tw _) hK hT (hP.sub (ws' := [(pq, .inr (3, [.ref (ra 0), .ref (ra 1), .ref (ra 2), .ref (ra 3), .ref (ra 4), .ref (ra 5), .ref (ra 6), .ref (en ru), .int (iI (sub)), .int (iI (od)), .int (zbits (bits))])), (ra 0, .inr (2, [.int (iI (0)), .int (iI (59)), .ref (aa 0)])), (aa 0, .inl (g.2 1, 60, .inl (zaB (al 0)))), (ra 1, .inr (2, [.int (iI (0)), .int (iI (59)), .ref (aa 1)])), (aa 1, .inl (g.2 1, 60, .inl (zaB (al 1)))), (ra 2, .inr (2, [.int (iI (0)), .int (iI (23)), .ref (aa 2)])), (aa 2, .inl (g.2 1, 24, .inl (zaB (al 2)))), (ra 3, .inr (2, [.int (iI (1)), .int (iI (31)), .ref (aa 3)])), (aa 3, .inl (g.2 1, 31, .inl (zaB (al 3)))), (ra 4, .inr (2, [.int (iI (1)), .int (iI (12)), .ref (aa 4)])), (aa 4, .inl (g.2 1, 12, .inl (zaB (al 4)))), (ra 5, .inr (2, [.int (iI (1)), .int (iI (7)), .ref (aa 5)])), (aa 5, .inl (g.2 1, 7, .inl (zaB (al 5)))), (ra 6, .inr (2, [.int (iI (1970)), .int (iI (2299)), .ref (aa 6)])), (aa 6, .inl (g.2 1, 330, .inl (zaB (al 6))))]) [1, 2, 3, 4, 5, 6, 7, 8, 9, 10, 11, 12, 13, 14, 15] rfl) (va_recv hK hP (ci := 3) (q0 := 1) rfl rfl) hl.1 rfl (Nat.le_of_ble_eq_true rfl) (by decide) zd_F_firingDayBackFrom_20 ?_
          refine lv_istore_n (lv' := [(3, .int (zbits (pDays al bits ru sub od (mm)))), (2, .int (iI (mm))), (0, .ref (fq)), (1, .int (iI (x)))]) hx hb zd_F_firingDayBackFrom_23 rfl hl (by decide) rfl (fun ls hl => ?_)
          refine lv_iload_n hx hb zd_F_firingDayBackFrom_24 rfl (lv_at hl 0 rfl) ?_
          refine zw_ifeq (tgt := 86) hx hb zd_F_firingDayBackFrom_25 (by decide) (fun c25 => ?_) ?_
          · refine lv_iinc (v := iI (mm + (-1))) (lv' := [(2, .int (iI (mm + (-1)))), (3, .int (zbits (pDays al bits ru sub od (mm)))), (0, .ref (fq)), (1, .int (iI (x)))]) hx hb zd_F_firingDayBackFrom_86 hl (k := 1) rfl (iI_add _ _) (by decide) rfl (fun ls hl => ?_)
            refine lv_goto (tgt := 11) hx hb zd_F_firingDayBackFrom_89 (by decide) ?_
            exact ih (mm + (-1)) ls ⟨by omega, by omega⟩ (by rw [show mm + (-1) + 1 = mm by omega]; exact fin_skipb ⟨by omega, by omega⟩ h3 c25) (by omega) (lv_sub hl [0, 2, 3] rfl)
          · refine lv_iload_n hx hb zd_F_firingDayBackFrom_28 rfl (lv_at hl 1 rfl) ?_
            refine zk_S (As := [.int (iI (mm))]) (own := "CronFinder") (nL := 6) (rest := []) hx hb hml hown hw (c_D_startOfMonth l g t (mm) (by omega)) zw_3_98 zw_3_42 zw_1_22 zw_3_43 (np := 1) (by decide +kernel) rfl (by decide) (zSd_mv t _) hK hT.1 (hP.sub (ws' := []) [] rfl) hl.1 rfl (Nat.le_of_ble_eq_true rfl) (by decide) zd_F_firingDayBackFrom_29 ?_
            have hq29 := dM0_rg (m := mm) (by omega)
            refine lv_istore (lv' := [(4, .int (iI (dM0 (mm)))), (3, .int (zbits (pDays al bits ru sub od (mm)))), (2, .int (iI (mm))), (0, .ref (fq)), (1, .int (iI (x)))]) hx hb zd_F_firingDayBackFrom_32 hl (by decide) rfl (fun ls hl => ?_)
            refine lv_iload_n hx hb zd_F_firingDayBackFrom_34 rfl (lv_at hl 4 rfl) ?_
            refine lv_iload hx hb zd_F_firingDayBackFrom_35 (lv_at hl 0 rfl) ?_
            refine zi_isub hx hb zd_F_firingDayBackFrom_37 ?_
            refine zi_bipush hx hb zd_F_firingDayBackFrom_38 (by decide) ?_
            refine zk_S (As := [.int (iI (x - (dM0 (mm)))), .int (iI (30))]) (own := "CronFinder") (nL := 6) (rest := []) hx hb hml hown hw (c_min l g (x - (dM0 (mm))) (30) (by omega)) zw_3_132 zw_2_91 zw_1_14 zw_2_92 (np := 2) (by decide +kernel) rfl (by decide) zN_mv hK trivial (hP.sub (ws' := []) [] rfl) hl.1 rfl (Nat.le_of_ble_eq_true rfl) (by decide) zd_F_firingDayBackFrom_40 ?_
            refine lv_istore (lv' := [(5, .int (iI (min (x - (dM0 (mm))) (30)))), (4, .int (iI (dM0 (mm)))), (3, .int (zbits (pDays al bits ru sub od (mm)))), (2, .int (iI (mm))), (0, .ref (fq)), (1, .int (iI (x)))]) hx hb zd_F_firingDayBackFrom_43 hl (by decide) rfl (fun ls hl => ?_)
            have loop2 : ∀ (n2 : Nat) (k : Int) (ls : Array Slot), (-1 ≤ k ∧ k ≤ min (x - dM0 mm) 30) → (∀ d, dM0 mm + k < d → d ≤ x → dM0 mm ≤ d → fFit (pDays al bits ru sub od) hol d = false) → ((k + 1).toNat < n2) → lv_has ls 6 [(5, .int (iI (k))), (4, .int (iI (dM0 mm))), (3, .int (zbits (pDays al bits ru sub od mm))), (2, .int (iI (mm))), (0, .ref (fq)), (1, .int (iI (x)))] → W p l e ({ frames := 4, cells := 0, slots := 0, locals := 88 }) s m [.ref (fq), .int (iI (x))].toArray below meth c s.heap [] 0 0 (MQ below (zSil (some (.int (iI (rr))))) [.ref (fq), .int (iI (x))].toArray s 0 0 (fun _ => False)) (F0 m 45 ls []) := by
              intro n2
              induction n2 with
              | zero =>
                intro k ls h4 hI h5 hl
                exact absurd h5 (by omega)
              | succ n2 ih2 =>
                intro k ls h4 hI h5 hl
                refine lv_iload hx hb zd_F_firingDayBackFrom_45 (lv_at hl 0 rfl) ?_
                refine zi_if_lt (tgt := 86) hx hb zd_F_firingDayBackFrom_47 (by decide) (by omega) (fun c47 => ?_) (fun c47 => ?_)
                · refine lv_iinc (v := iI (mm + (-1))) (lv' := [(2, .int (iI (mm + (-1)))), (5, .int (iI (k))), (4, .int (iI (dM0 mm))), (3, .int (zbits (pDays al bits ru sub od mm))), (0, .ref (fq)), (1, .int (iI (x)))]) hx hb zd_F_firingDayBackFrom_86 hl (k := 3) rfl (iI_add _ _) (by decide) rfl (fun ls hl => ?_)
                  refine lv_goto (tgt := 11) hx hb zd_F_firingDayBackFrom_89 (by decide) ?_
                  exact ih (mm + (-1)) ls ⟨by omega, by omega⟩ (by rw [show mm + (-1) + 1 = mm by omega]; exact fun d q1 q2 => hI d (by omega) q2 q1) (by omega) (lv_sub hl [0, 4, 5] rfl)
                · refine lv_iload_n hx hb zd_F_firingDayBackFrom_50 rfl (lv_at hl 2 rfl) ?_
                  refine lv_iload hx hb zd_F_firingDayBackFrom_51 (lv_at hl 0 rfl) ?_
                  refine zw_bit hx hb (by omega) zd_F_firingDayBackFrom_53 zd_F_firingDayBackFrom_54 zd_F_firingDayBackFrom_55 ?_
                  refine zb_if_eq (tgt := 80) hx hb zd_F_firingDayBackFrom_56 (by decide) (fun c56 => ?_) (fun c56 => ?_)
                  · refine lv_iinc (v := iI (k + (-1))) (lv' := [(5, .int (iI (k + (-1)))), (4, .int (iI (dM0 mm))), (3, .int (zbits (pDays al bits ru sub od mm))), (2, .int (iI (mm))), (0, .ref (fq)), (1, .int (iI (x)))]) hx hb zd_F_firingDayBackFrom_80 hl (k := 0) rfl (iI_add _ _) (by decide) rfl (fun ls hl => ?_)
                    refine lv_goto (tgt := 45) hx hb zd_F_firingDayBackFrom_83 (by decide) ?_
                    have hb2 : dM0 mm + k < dM0 (mm + 1) ∨ dM0 (mm + 1) ≤ dM0 mm + k := by omega
                    exact ih2 (k + -1) ls ⟨by omega, by omega⟩ (by rcases hb2 with hb2 | hb2; exact fin_nob ⟨h1.1, by omega⟩ (by omega) hI hb2 (by first | exact Or.inl c56 | exact Or.inr c71); exact fun d q1 q2 q3 => by first | exact hI d (by omega) q2 q3 | (by_cases q4 : dM0 mm + k < d; exact hI d q4 q2 q3; exact h3 d (by omega) q2)) (by omega) (lv_sub hl [0, 1, 2, 3, 4, 5] rfl)
                  · refine lv_aload_n hx hb zd_F_firingDayBackFrom_59 rfl (lv_at hl 4 rfl) ?_
                    refine va_get (D := g.1) (ci := 0) (v := .ref (hq)) (C := zR_F) (T := zT_F) (N := 6) hx hb hw zin_F hown hK hP 0 rfl rfl 5 (by decide) (hw _ zw_1_111) (fun _ h9 => h9) rfl zd_F_firingDayBackFrom_60 ?_
                    refine lv_iload hx hb zd_F_firingDayBackFrom_63 (lv_at hl 1 rfl) ?_
                    refine lv_iload hx hb zd_F_firingDayBackFrom_65 (lv_at hl 0 rfl) ?_
                    refine zi_iadd hx hb zd_F_firingDayBackFrom_67 ?_
                    refine zk_V (As := [.int (iI ((dM0 mm) + k))]) (b := hq) (own := "CronFinder") (nL := 6) (rest := []) hx hb hml hown hw (c_S_has l g hq ha h cnt hol hR ((dM0 mm) + k) (by omega)) zw_3_100 zw_2_222 zw_2_223 zw_1_6 zw_2_224 (np := 1) (by decide +kernel) rfl (by decide) zN_mv hK trivial (hP.sub (ws' := [(hq, .inr (1, [.ref (ha), .int (iI (cnt))])), (ha, .inl (g.2 0, 200, .inl (zaI h)))]) [16, 17] rfl) (va_recv hK hP (ci := 1) (q0 := 16) rfl rfl) hl.1 rfl (Nat.le_of_ble_eq_true rfl) (by decide) zd_F_firingDayBackFrom_68 ?_
                    refine zb_if_ne (tgt := 80) hx hb zd_F_firingDayBackFrom_71 (by decide) (fun c71 => ?_) (fun c71 => ?_)
                    · refine lv_iinc (v := iI (k + (-1))) (lv' := [(5, .int (iI (k + (-1)))), (4, .int (iI (dM0 mm))), (3, .int (zbits (pDays al bits ru sub od mm))), (2, .int (iI (mm))), (0, .ref (fq)), (1, .int (iI (x)))]) hx hb zd_F_firingDayBackFrom_80 hl (k := 0) rfl (iI_add _ _) (by decide) rfl (fun ls hl => ?_)
                      refine lv_goto (tgt := 45) hx hb zd_F_firingDayBackFrom_83 (by decide) ?_
                      have hb2 : dM0 mm + k < dM0 (mm + 1) ∨ dM0 (mm + 1) ≤ dM0 mm + k := by omega
                      exact ih2 (k + -1) ls ⟨by omega, by omega⟩ (by rcases hb2 with hb2 | hb2; exact fin_nob ⟨h1.1, by omega⟩ (by omega) hI hb2 (by first | exact Or.inl c56 | exact Or.inr c71); exact fun d q1 q2 q3 => by first | exact hI d (by omega) q2 q3 | (by_cases q4 : dM0 mm + k < d; exact hI d q4 q2 q3; exact h3 d (by omega) q2)) (by omega) (lv_sub hl [0, 1, 2, 3, 4, 5] rfl)
                    · refine lv_iload hx hb zd_F_firingDayBackFrom_74 (lv_at hl 1 rfl) ?_
                      refine lv_iload hx hb zd_F_firingDayBackFrom_76 (lv_at hl 0 rfl) ?_
                      refine zi_iadd hx hb zd_F_firingDayBackFrom_78 ?_
                      refine zi_as (rr) (by have hb1 := pDays_lt c56; exact fFB_hit hj (by omega) (by rw [fFit_in ⟨h1.1, by omega⟩ (by omega) (by omega), show dM0 mm + k - dM0 mm = k by omega, c56, c71]; rfl) (fun d q1 q2 => hI d q1 q2 (by omega))) ?_
                      exact zs_iret hx hb hr hlk zd_F_firingDayBackFrom_79
            exact loop2 33 (min (x - dM0 mm) 30) ls ⟨by omega, by omega⟩ (fun d q1 q2 q3 => h3 d (by omega) q2) (by omega) (lv_sub hl [0, 1, 2, 3, 4, 5] rfl)
    exact loop 3961 mo ls ⟨by omega, by omega⟩ (fun d q1 q2 => by omega) (by omega) (lv_sub hl [0, 1, 2] rfl)
  · refine zi_iconst hx hb zd_F_firingDayBackFrom_4 ?_
    refine zi_as (rr) (by exact fFB_end hj (fun d q1 q2 => absurd q1 (by omega))) ?_
    exact zs_iret hx hb hr hlk zd_F_firingDayBackFrom_5
