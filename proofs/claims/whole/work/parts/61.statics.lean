/-! what the Statement says of the start: the statics -/
abbrev zGv : Cond := Jvm.Cond.and given_1 narrow_1
theorem z_str {args : Array Value} {s : State} {tm : Term} {n : Nat} {f : Int → Int} {A : Nat → Prop} (hex : (Cond.exactly tm "java/lang/String").before args s = true) (hco : (Cond.eq (.field tm "java/lang/String" "coder" "B") (.int 0)).before args s = true) (har : (Cond.arrayOf (.field tm "java/lang/String" "value" "[B") .byte).before args s = true) (hn : n < 2 ^ 31) (hle : (Cond.eq (.length (.field tm "java/lang/String" "value" "[B")) (.int (Int32.ofNat n))).before args s = true)
    (hel : ∀ j : Nat, j < n → (Cond.eq (.elem (.field tm "java/lang/String" "value" "[B") (.int (Int32.ofNat j))) (.int (iI (f (j : Int))))).before args s = true) (hA : ∀ a : Nat, a < s.heap.size → ¬ A a) (hZ : va_Z "java/lang/String" "COMPACT_STRINGS" "Z" (.int (iI 1)) A s s.heap) (hQ : va_Zq "jdk/internal/util/Preconditions" "SIOOBE_FORMATTER" "Ljava/util/function/BiFunction;" A s s.heap) : ∃ q v : Nat, tm.eval args s none [] s = some (.ref q) ∧ zStr q v n f A s s.heap := by
  obtain ⟨a, c, cell, k, q1, q2, q3, q4, q5, q6, -⟩ := Cond.exactly_spec (args := args) (first := s) (o := none) (s := s) (idx := []) (t := tm) (cls := "java/lang/String") hex
  obtain ⟨t, ht, hT⟩ := va_Tof (f := fun j => .int (iI (f (j : Int)))) (A := A) hn har (va_eqt hle) (fun j hj => va_eqt (hel j hj)) hA
  have hc := va_eqt hco
  exact ⟨a, t, q1, ⟨cell, q3, q5, by rw [q6]; exact q2, hA a (Array.getElem?_eq_some_iff.mp q3).1⟩, vk_OFof q1 ht hA, vk_OFof q1 (by rw [← iI_0]; exact hc) hA, hT, hZ, hQ⟩
theorem z_sref {args : Array Value} {s : State} {own tx : String} {k : Nat} (h1 : (Cond.stringRef own k tx).before args s = true) (hex : (Cond.exactly (.string own k) "java/lang/String").before args s = true) : ∃ a : Nat, vk_R own k tx a s := by
  obtain ⟨a, c, cell, k, q1, -⟩ := Cond.exactly_spec (args := args) (first := s) (o := none) (s := s) (idx := []) (t := .string own k) (cls := "java/lang/String") hex
  exact ⟨a, vk_R.of h1 q1⟩
theorem z_arr {args : Array Value} {s : State} {C n : String} {N : Nat} {f : Int → Int} {A : Nat → Prop} (hl : (Cond.laysStatic C n "[I").before args s = true) (hini : (Cond.initialized C).before args s = true) (hN : N < 2 ^ 31) (har : (Cond.arrayOf (.static C n "[I") .int).before args s = true) (hle : (Cond.eq (.length (.static C n "[I")) (.int (Int32.ofNat N))).before args s = true)
    (hel : ∀ j : Nat, j < N → (Cond.eq (.elem (.static C n "[I") (.int (Int32.ofNat j))) (.int (iI (f (j : Int))))).before args s = true) (hA : ∀ a : Nat, a < s.heap.size → ¬ A a) : ∃ t : Nat, va_Z C n "[I" (.ref t) A s s.heap ∧ va_T .int t N (fun j => .int (iI (f (j : Int)))) A s s.heap := by
  obtain ⟨t, ht, hT⟩ := va_Tof (f := fun j => .int (iI (f (j : Int)))) (A := A) hN har (va_eqt hle) (fun j hj => va_eqt (hel j hj)) hA
  exact ⟨t, va_Zref hl hini ht hA, hT⟩
theorem z_fx : ∀ w ∈ zFx, w ∈ lw_tbl := by decide +kernel
theorem zg_dt_0 : Cond.arrayOf (.static "CronFinder$Dates" "DAYS_BEFORE_MONTH" "[I") .int ∈ flatC zGv ∧ Cond.eq (.length (.static "CronFinder$Dates" "DAYS_BEFORE_MONTH" "[I")) (.int (Int32.ofNat 12)) ∈ flatC zGv := by decide +kernel
theorem zg_dt_1 : ∀ j : Nat, j < 12 → Cond.eq (.elem (.static "CronFinder$Dates" "DAYS_BEFORE_MONTH" "[I") (.int (Int32.ofNat j))) (.int (iI (dBM (j : Int)))) ∈ flatC zGv := by decide +kernel
theorem zg_dt_2 : Cond.laysStatic "CronFinder$Dates" "DAYS_BEFORE_MONTH" "[I" ∈ lw_tbl ∧ Cond.initialized "CronFinder$Dates" ∈ lw_tbl := by decide +kernel
theorem zg_sw_0 : Cond.arrayOf (.static "CronFinder$1" "$SwitchMap$CronFinder$DayRule" "[I") .int ∈ flatC zGv ∧ Cond.eq (.length (.static "CronFinder$1" "$SwitchMap$CronFinder$DayRule" "[I")) (.int (Int32.ofNat 7)) ∈ flatC zGv := by decide +kernel
theorem zg_sw_1 : ∀ j : Nat, j < 7 → Cond.eq (.elem (.static "CronFinder$1" "$SwitchMap$CronFinder$DayRule" "[I") (.int (Int32.ofNat j))) (.int (iI (pSw (j : Int)))) ∈ flatC zGv := by decide +kernel
theorem zg_sw_2 : Cond.laysStatic "CronFinder$1" "$SwitchMap$CronFinder$DayRule" "[I" ∈ lw_tbl ∧ Cond.initialized "CronFinder$1" ∈ lw_tbl := by decide +kernel
theorem zg_le_0 : Cond.arrayOf (.static "CronFinderModel" "LEAST" "[I") .int ∈ flatC zGv ∧ Cond.eq (.length (.static "CronFinderModel" "LEAST" "[I")) (.int (Int32.ofNat 7)) ∈ flatC zGv := by decide +kernel
theorem zg_le_1 : ∀ j : Nat, j < 7 → Cond.eq (.elem (.static "CronFinderModel" "LEAST" "[I") (.int (Int32.ofNat j))) (.int (iI (fLoI (j : Int)))) ∈ flatC zGv := by decide +kernel
theorem zg_le_2 : Cond.laysStatic "CronFinderModel" "LEAST" "[I" ∈ lw_tbl ∧ Cond.initialized "CronFinderModel" ∈ lw_tbl := by decide +kernel
theorem zg_mo_0 : Cond.arrayOf (.static "CronFinderModel" "MOSTS" "[I") .int ∈ flatC zGv ∧ Cond.eq (.length (.static "CronFinderModel" "MOSTS" "[I")) (.int (Int32.ofNat 7)) ∈ flatC zGv := by decide +kernel
theorem zg_mo_1 : ∀ j : Nat, j < 7 → Cond.eq (.elem (.static "CronFinderModel" "MOSTS" "[I") (.int (Int32.ofNat j))) (.int (iI (fHiI (j : Int)))) ∈ flatC zGv := by decide +kernel
theorem zg_mo_2 : Cond.laysStatic "CronFinderModel" "MOSTS" "[I" ∈ lw_tbl ∧ Cond.initialized "CronFinderModel" ∈ lw_tbl := by decide +kernel
theorem zg_mn_0 : ∀ k : Nat, k < 12 → Cond.exactly (.string "CronFinderModel" (44 + 2 * k)) "java/lang/String" ∈ flatC zGv := by decide +kernel
theorem zg_mn_1 : ∀ k : Nat, k < 12 → Cond.eq (.field (.string "CronFinderModel" (44 + 2 * k)) "java/lang/String" "coder" "B") (.int 0) ∈ flatC zGv := by decide +kernel
theorem zg_mn_2 : ∀ k : Nat, k < 12 → Cond.arrayOf (.field (.string "CronFinderModel" (44 + 2 * k)) "java/lang/String" "value" "[B") .byte ∈ flatC zGv := by decide +kernel
theorem zg_mn_3 : ∀ k : Nat, k < 12 → Cond.eq (.length (.field (.string "CronFinderModel" (44 + 2 * k)) "java/lang/String" "value" "[B")) (.int (Int32.ofNat 3)) ∈ flatC zGv := by decide +kernel
theorem zg_mn_4 : ∀ k : Nat, k < 12 → ∀ j : Nat, j < 3 → Cond.eq (.elem (.field (.string "CronFinderModel" (44 + 2 * k)) "java/lang/String" "value" "[B") (.int (Int32.ofNat j))) (.int (iI (fMon (3 * (k : Int) + (j : Int))))) ∈ flatC zGv := by decide +kernel
theorem zg_mn_5 : ∀ k : Nat, k < 12 → Cond.stringRef "CronFinderModel" (44 + 2 * k) (zNmM.getD k "") ∈ lw_tbl := by decide +kernel
theorem zg_wk_0 : ∀ k : Nat, k < 7 → Cond.exactly (.string "CronFinderModel" (72 + 2 * k)) "java/lang/String" ∈ flatC zGv := by decide +kernel
theorem zg_wk_1 : ∀ k : Nat, k < 7 → Cond.eq (.field (.string "CronFinderModel" (72 + 2 * k)) "java/lang/String" "coder" "B") (.int 0) ∈ flatC zGv := by decide +kernel
theorem zg_wk_2 : ∀ k : Nat, k < 7 → Cond.arrayOf (.field (.string "CronFinderModel" (72 + 2 * k)) "java/lang/String" "value" "[B") .byte ∈ flatC zGv := by decide +kernel
theorem zg_wk_3 : ∀ k : Nat, k < 7 → Cond.eq (.length (.field (.string "CronFinderModel" (72 + 2 * k)) "java/lang/String" "value" "[B")) (.int (Int32.ofNat 3)) ∈ flatC zGv := by decide +kernel
theorem zg_wk_4 : ∀ k : Nat, k < 7 → ∀ j : Nat, j < 3 → Cond.eq (.elem (.field (.string "CronFinderModel" (72 + 2 * k)) "java/lang/String" "value" "[B") (.int (Int32.ofNat j))) (.int (iI (fWd (3 * (k : Int) + (j : Int))))) ∈ flatC zGv := by decide +kernel
theorem zg_wk_5 : ∀ k : Nat, k < 7 → Cond.stringRef "CronFinderModel" (72 + 2 * k) (zNmW.getD k "") ∈ lw_tbl := by decide +kernel
theorem zg_r1_0 : Cond.exactly (.string "CronFinder$Reader" 123) "java/lang/String" ∈ flatC zGv := by decide +kernel
theorem zg_r1_1 : Cond.eq (.field (.string "CronFinder$Reader" 123) "java/lang/String" "coder" "B") (.int 0) ∈ flatC zGv := by decide +kernel
theorem zg_r1_2 : Cond.arrayOf (.field (.string "CronFinder$Reader" 123) "java/lang/String" "value" "[B") .byte ∈ flatC zGv := by decide +kernel
theorem zg_r1_3 : Cond.eq (.length (.field (.string "CronFinder$Reader" 123) "java/lang/String" "value" "[B")) (.int (Int32.ofNat 36)) ∈ flatC zGv := by decide +kernel
theorem zg_r1_4 : ∀ j : Nat, j < 36 → Cond.eq (.elem (.field (.string "CronFinder$Reader" 123) "java/lang/String" "value" "[B") (.int (Int32.ofNat j))) (.int (iI (fMon (j : Int)))) ∈ flatC zGv := by decide +kernel
theorem zg_r1_5 : Cond.stringRef "CronFinder$Reader" (123) ("JANFEBMARAPRMAYJUNJULAUGSEPOCTNOVDEC") ∈ lw_tbl := by decide +kernel
theorem zg_r2_0 : Cond.exactly (.string "CronFinder$Reader" 129) "java/lang/String" ∈ flatC zGv := by decide +kernel
theorem zg_r2_1 : Cond.eq (.field (.string "CronFinder$Reader" 129) "java/lang/String" "coder" "B") (.int 0) ∈ flatC zGv := by decide +kernel
theorem zg_r2_2 : Cond.arrayOf (.field (.string "CronFinder$Reader" 129) "java/lang/String" "value" "[B") .byte ∈ flatC zGv := by decide +kernel
theorem zg_r2_3 : Cond.eq (.length (.field (.string "CronFinder$Reader" 129) "java/lang/String" "value" "[B")) (.int (Int32.ofNat 21)) ∈ flatC zGv := by decide +kernel
theorem zg_r2_4 : ∀ j : Nat, j < 21 → Cond.eq (.elem (.field (.string "CronFinder$Reader" 129) "java/lang/String" "value" "[B") (.int (Int32.ofNat j))) (.int (iI (fWd (j : Int)))) ∈ flatC zGv := by decide +kernel
theorem zg_r2_5 : Cond.stringRef "CronFinder$Reader" (129) ("SUNMONTUEWEDTHUFRISAT") ∈ lw_tbl := by decide +kernel
theorem zg_k51 : Cond.stringRef "CronFinder" 51 "not a length of the tape" ∈ lw_tbl ∧ Cond.exactly (.string "CronFinder" 51) "java/lang/String" ∈ flatC zGv := by decide +kernel
theorem zg_k41 : Cond.stringRef "CronFinder" 41 "the tape is full" ∈ lw_tbl ∧ Cond.exactly (.string "CronFinder" 41) "java/lang/String" ∈ flatC zGv := by decide +kernel
theorem zg_k69 : Cond.stringRef "CronFinder" 69 "not a day" ∈ lw_tbl ∧ Cond.exactly (.string "CronFinder" 69) "java/lang/String" ∈ flatC zGv := by decide +kernel
theorem zg_k78 : Cond.stringRef "CronFinder" 78 "too many holidays" ∈ lw_tbl ∧ Cond.exactly (.string "CronFinder" 78) "java/lang/String" ∈ flatC zGv := by decide +kernel
theorem zg_k94 : Cond.stringRef "CronFinder" 94 "not a count of fires" ∈ lw_tbl ∧ Cond.exactly (.string "CronFinder" 94) "java/lang/String" ∈ flatC zGv := by decide +kernel
theorem zg_k112 : Cond.stringRef "CronFinder" 112 "not a time" ∈ lw_tbl ∧ Cond.exactly (.string "CronFinder" 112) "java/lang/String" ∈ flatC zGv := by decide +kernel
theorem zg_k65 : Cond.stringRef "CronFinder" 65 "the text is broken" ∈ lw_tbl ∧ Cond.exactly (.string "CronFinder" 65) "java/lang/String" ∈ flatC zGv := by decide +kernel
theorem zg_e0 : (∀ i : Nat, i < 7 → Cond.laysStatic "CronFinder$DayRule" (zEn.getD i "") "LCronFinder$DayRule;" ∈ lw_tbl) ∧ Cond.initialized "CronFinder$DayRule" ∈ lw_tbl := by decide +kernel
theorem zg_e1 : ∀ i : Nat, i < 7 → Cond.exactly (.static "CronFinder$DayRule" (zEn.getD i "") "LCronFinder$DayRule;") "CronFinder$DayRule" ∈ flatC zGv := by decide +kernel
theorem zg_e2 : ∀ q ∈ zEf, ∀ i : Nat, i < 7 → Cond.eq (.field (.static "CronFinder$DayRule" (zEn.getD i "") "LCronFinder$DayRule;") q.1 q.2.1 q.2.2.1) (.int (q.2.2.2.getD i 0)) ∈ flatC zGv := by decide +kernel
theorem zg_e3 : ∀ i : Nat, i < 7 → ∀ j : Nat, j < 7 → i ≠ j → (Cond.not (.eq (.static "CronFinder$DayRule" (zEn.getD i "") "LCronFinder$DayRule;") (.static "CronFinder$DayRule" (zEn.getD j "") "LCronFinder$DayRule;")) ∈ flatC zGv) ∨ (Cond.not (.eq (.static "CronFinder$DayRule" (zEn.getD j "") "LCronFinder$DayRule;") (.static "CronFinder$DayRule" (zEn.getD i "") "LCronFinder$DayRule;")) ∈ flatC zGv) := by decide +kernel
theorem zg_th : (Cond.laysStatic Bundle.tN "UNASSIGNED_STACK" Bundle.steD ∈ lw_tbl ∧ Cond.laysStatic Bundle.tN "SUPPRESSED_SENTINEL" Bundle.listD ∈ lw_tbl ∧ Cond.initialized Bundle.tN ∈ lw_tbl) ∧ Cond.isRef (.static Bundle.tN "UNASSIGNED_STACK" Bundle.steD) ∈ flatC zGv ∧ Cond.isRef (.static Bundle.tN "SUPPRESSED_SENTINEL" Bundle.listD) ∈ flatC zGv := by decide +kernel
theorem zg_cs : (Cond.laysStatic "java/lang/String" "COMPACT_STRINGS" "Z" ∈ lw_tbl ∧ Cond.initialized "java/lang/String" ∈ lw_tbl ∧ Cond.laysStatic "jdk/internal/util/Preconditions" "SIOOBE_FORMATTER" "Ljava/util/function/BiFunction;" ∈ lw_tbl ∧ Cond.initialized "jdk/internal/util/Preconditions" ∈ lw_tbl) ∧ Cond.eq (.static "java/lang/String" "COMPACT_STRINGS" "Z") (.int 1) ∈ flatC zGv ∧ Cond.isRef (.static "jdk/internal/util/Preconditions" "SIOOBE_FORMATTER" "Ljava/util/function/BiFunction;") ∈ flatC zGv := by decide +kernel
theorem zg_nc : Cond.not (.castable "java/lang/IndexOutOfBoundsException" "java/lang/IllegalArgumentException") ∈ flatC zGv := by decide +kernel
theorem zg_ao : Cond.arrayOver (.object "java/lang/String") ∈ lw_tbl ∧ Cond.arrayOver (.array (.array .boolean)) ∈ lw_tbl ∧ Cond.arrayOver (.array .boolean) ∈ lw_tbl ∧ Cond.arrayOver (.array .int) ∈ lw_tbl := by decide +kernel
set_option maxHeartbeats 4000000 in
set_option maxRecDepth 100000 in
theorem z_start {args : Array Value} {s : State} {A : Nat → Prop} (hgv : (Jvm.Cond.and given_1 narrow_1).before args s = true) (hts : ∀ w ∈ lw_tbl, w.before args s = true) (hA : ∀ a : Nat, a < s.heap.size → ¬ A a) : ∃ (t : Nat) (en : Nat → Nat) (tz q1 v1 q2 v2 : Nat) (kt : Nat → Nat) (t1 t2 : Nat) (mq mv wq wv : Nat → Nat), zLw t en tz q1 v1 q2 v2 kt A s s.heap ∧ zQs t1 t2 mq mv wq wv A s s.heap ∧ zQi mq mv wq wv A s s.heap := by
  have hs : ∀ w ∈ flatC zGv, w.before args s = true := flat_of_before _ hgv
  obtain ⟨dtt, hdt, hdt2⟩ := z_arr (f := dBM) (A := A) (hts _ zg_dt_2.1) (hts _ zg_dt_2.2) (by decide) (hs _ zg_dt_0.1) (hs _ zg_dt_0.2) (fun j hj => hs _ (zg_dt_1 j hj)) hA
  obtain ⟨swt, hsw, hsw2⟩ := z_arr (f := pSw) (A := A) (hts _ zg_sw_2.1) (hts _ zg_sw_2.2) (by decide) (hs _ zg_sw_0.1) (hs _ zg_sw_0.2) (fun j hj => hs _ (zg_sw_1 j hj)) hA
  obtain ⟨lett, hle, hle2⟩ := z_arr (f := fLoI) (A := A) (hts _ zg_le_2.1) (hts _ zg_le_2.2) (by decide) (hs _ zg_le_0.1) (hs _ zg_le_0.2) (fun j hj => hs _ (zg_le_1 j hj)) hA
  obtain ⟨mot, hmo, hmo2⟩ := z_arr (f := fHiI) (A := A) (hts _ zg_mo_2.1) (hts _ zg_mo_2.2) (by decide) (hs _ zg_mo_0.1) (hs _ zg_mo_0.2) (fun j hj => hs _ (zg_mo_1 j hj)) hA
  have hCS : va_Z "java/lang/String" "COMPACT_STRINGS" "Z" (.int (iI 1)) A s s.heap := va_Zof (hts _ zg_cs.1.1) (hts _ zg_cs.1.2.1) (va_eqt (hs _ zg_cs.2.1)) hA
  have hFM := va_Zqof (A := A) (hts _ zg_cs.1.2.2.1) (hts _ zg_cs.1.2.2.2) (hs _ zg_cs.2.2) hA
  obtain ⟨mnq, hmn⟩ := Classical.axiomOfChoice (show ∀ k : Nat, ∃ q : Nat × Nat, k < 12 → (Term.string "CronFinderModel" (44 + 2 * k)).eval args s none [] s = some (.ref q.1) ∧ zStr q.1 q.2 3 (fun i => fMon (3 * (k : Int) + i)) A s s.heap from fun k => by
    by_cases hk : k < 12
    · obtain ⟨q, v, h1, h2⟩ := z_str (f := fun i => fMon (3 * (k : Int) + i)) (A := A) (hs _ (zg_mn_0 k hk)) (hs _ (zg_mn_1 k hk)) (hs _ (zg_mn_2 k hk)) (by decide) (hs _ (zg_mn_3 k hk)) (fun j hj => hs _ (zg_mn_4 k hk j hj)) hA hCS hFM
      exact ⟨(q, v), fun _ => ⟨h1, h2⟩⟩
    · exact ⟨(0, 0), fun h => absurd h hk⟩)
  obtain ⟨wkq, hwk⟩ := Classical.axiomOfChoice (show ∀ k : Nat, ∃ q : Nat × Nat, k < 7 → (Term.string "CronFinderModel" (72 + 2 * k)).eval args s none [] s = some (.ref q.1) ∧ zStr q.1 q.2 3 (fun i => fWd (3 * (k : Int) + i)) A s s.heap from fun k => by
    by_cases hk : k < 7
    · obtain ⟨q, v, h1, h2⟩ := z_str (f := fun i => fWd (3 * (k : Int) + i)) (A := A) (hs _ (zg_wk_0 k hk)) (hs _ (zg_wk_1 k hk)) (hs _ (zg_wk_2 k hk)) (by decide) (hs _ (zg_wk_3 k hk)) (fun j hj => hs _ (zg_wk_4 k hk j hj)) hA hCS hFM
      exact ⟨(q, v), fun _ => ⟨h1, h2⟩⟩
    · exact ⟨(0, 0), fun h => absurd h hk⟩)
  obtain ⟨r1q, r1v, hr1, hr12⟩ := z_str (f := fMon) (A := A) (hs _ zg_r1_0) (hs _ zg_r1_1) (hs _ zg_r1_2) (by decide) (hs _ zg_r1_3) (fun j hj => hs _ (zg_r1_4 j hj)) hA hCS hFM
  obtain ⟨r2q, r2v, hr2, hr22⟩ := z_str (f := fWd) (A := A) (hs _ zg_r2_0) (hs _ zg_r2_1) (hs _ zg_r2_2) (by decide) (hs _ zg_r2_3) (fun j hj => hs _ (zg_r2_4 j hj)) hA hCS hFM
  obtain ⟨a51, h51⟩ := z_sref (hts _ zg_k51.1) (hs _ zg_k51.2)
  obtain ⟨a41, h41⟩ := z_sref (hts _ zg_k41.1) (hs _ zg_k41.2)
  obtain ⟨a69, h69⟩ := z_sref (hts _ zg_k69.1) (hs _ zg_k69.2)
  obtain ⟨a78, h78⟩ := z_sref (hts _ zg_k78.1) (hs _ zg_k78.2)
  obtain ⟨a94, h94⟩ := z_sref (hts _ zg_k94.1) (hs _ zg_k94.2)
  obtain ⟨a112, h112⟩ := z_sref (hts _ zg_k112.1) (hs _ zg_k112.2)
  obtain ⟨a65, h65⟩ := z_sref (hts _ zg_k65.1) (hs _ zg_k65.2)
  obtain ⟨en, hen⟩ := va_Enof (nm := zEn) (F := zEf) (A := A) (fun i hi => hts _ (zg_e0.1 i hi)) (hts _ zg_e0.2) (fun i hi => hs _ (zg_e1 i hi)) (fun q hq i hi => hs _ (zg_e2 q hq i hi)) (fun i j hi hj hij => (zg_e3 i hi j hj hij).imp (hs _) (hs _)) hA
  have hth : zTh A s s.heap := ⟨fun w hw => va_tabs (zFx_f w hw).2 rfl (hts w (z_fx w hw)), vx_Zqof (hts _ zg_th.1.1) (hts _ zg_th.1.2.2) (hs _ zg_th.2.1) hA, vx_Zqof (hts _ zg_th.1.2.1) (hts _ zg_th.1.2.2) (hs _ zg_th.2.2) hA⟩
  have hqm : zQn (fun k => (mnq k).1) (fun k => (mnq k).2) 12 fMon A s s.heap := fun k hk => (hmn k hk).2
  have hqw : zQn (fun k => (wkq k).1) (fun k => (wkq k).2) 7 fWd A s s.heap := fun k hk => (hwk k hk).2
  refine ⟨dtt, en, swt, r1q, r1v, r2q, r2v, fun i => ([a51, a41, a69, a78, a94, a112, a65] : List Nat).getD i 0, lett, mot, fun k => (mnq k).1, fun k => (mnq k).2, fun k => (wkq k).1, fun k => (wkq k).2, ?_, ?_, ?_⟩
  · exact ⟨⟨⟨hdt, hdt2⟩, hen, ⟨hsw, hsw2⟩⟩, ⟨vk_R.of (hts _ zg_r1_5) hr1, vk_R.of (hts _ zg_r2_5) hr2, hr12, hr22⟩, ⟨hth, h51, h41, h69, h78, h94, h112, h65⟩, va_Nc.of (hs _ zg_nc)⟩
  · exact ⟨hth, ⟨hle, hle2, hmo, hmo2⟩, hqm, hqw⟩
  · exact ⟨va_AO.of (hts _ zg_ao.1), zAo_of (hts _ zg_ao.2.1), zAo_of (hts _ zg_ao.2.2.1), zAo_of (hts _ zg_ao.2.2.2), fun i hi => vk_R.of (hts _ (zg_mn_5 i hi)) (hmn i hi).1, fun i hi => vk_R.of (hts _ (zg_wk_5 i hi)) (hwk i hi).1, hqm, hqw⟩
