/-! the JDK's small methods, and Dates -/
theorem zd_JM_floorMod_0 : decode zc_JM_floorMod 0 = .ok (.iload_n 0, 1) := by decide +kernel
theorem zd_JM_floorMod_1 : decode zc_JM_floorMod 1 = .ok (.iload_n 1, 1) := by decide +kernel
theorem zd_JM_floorMod_2 : decode zc_JM_floorMod 2 = .ok (.irem, 1) := by decide +kernel
theorem zd_JM_floorMod_3 : decode zc_JM_floorMod 3 = .ok (.istore_n 2, 1) := by decide +kernel
theorem zd_JM_floorMod_4 : decode zc_JM_floorMod 4 = .ok (.iload_n 0, 1) := by decide +kernel
theorem zd_JM_floorMod_5 : decode zc_JM_floorMod 5 = .ok (.iload_n 1, 1) := by decide +kernel
theorem zd_JM_floorMod_6 : decode zc_JM_floorMod 6 = .ok (.ixor, 1) := by decide +kernel
theorem zd_JM_floorMod_7 : decode zc_JM_floorMod 7 = .ok (.ifCond .ge 11, 3) := by decide +kernel
theorem zd_JM_floorMod_10 : decode zc_JM_floorMod 10 = .ok (.iload_n 2, 1) := by decide +kernel
theorem zd_JM_floorMod_11 : decode zc_JM_floorMod 11 = .ok (.ifCond .eq 7, 3) := by decide +kernel
theorem zd_JM_floorMod_14 : decode zc_JM_floorMod 14 = .ok (.iload_n 2, 1) := by decide +kernel
theorem zd_JM_floorMod_15 : decode zc_JM_floorMod 15 = .ok (.iload_n 1, 1) := by decide +kernel
theorem zd_JM_floorMod_16 : decode zc_JM_floorMod 16 = .ok (.iadd, 1) := by decide +kernel
theorem zd_JM_floorMod_17 : decode zc_JM_floorMod 17 = .ok (.ireturn, 1) := by decide +kernel
theorem zd_JM_floorMod_18 : decode zc_JM_floorMod 18 = .ok (.iload_n 2, 1) := by decide +kernel
theorem zd_JM_floorMod_19 : decode zc_JM_floorMod 19 = .ok (.ireturn, 1) := by decide +kernel
theorem zd_JM_floorDiv_0 : decode zc_JM_floorDiv 0 = .ok (.iload_n 0, 1) := by decide +kernel
theorem zd_JM_floorDiv_1 : decode zc_JM_floorDiv 1 = .ok (.iload_n 1, 1) := by decide +kernel
theorem zd_JM_floorDiv_2 : decode zc_JM_floorDiv 2 = .ok (.idiv, 1) := by decide +kernel
theorem zd_JM_floorDiv_3 : decode zc_JM_floorDiv 3 = .ok (.istore_n 2, 1) := by decide +kernel
theorem zd_JM_floorDiv_4 : decode zc_JM_floorDiv 4 = .ok (.iload_n 0, 1) := by decide +kernel
theorem zd_JM_floorDiv_5 : decode zc_JM_floorDiv 5 = .ok (.iload_n 1, 1) := by decide +kernel
theorem zd_JM_floorDiv_6 : decode zc_JM_floorDiv 6 = .ok (.ixor, 1) := by decide +kernel
theorem zd_JM_floorDiv_7 : decode zc_JM_floorDiv 7 = .ok (.ifCond .ge 14, 3) := by decide +kernel
theorem zd_JM_floorDiv_10 : decode zc_JM_floorDiv 10 = .ok (.iload_n 2, 1) := by decide +kernel
theorem zd_JM_floorDiv_11 : decode zc_JM_floorDiv 11 = .ok (.iload_n 1, 1) := by decide +kernel
theorem zd_JM_floorDiv_12 : decode zc_JM_floorDiv 12 = .ok (.imul, 1) := by decide +kernel
theorem zd_JM_floorDiv_13 : decode zc_JM_floorDiv 13 = .ok (.iload_n 0, 1) := by decide +kernel
theorem zd_JM_floorDiv_14 : decode zc_JM_floorDiv 14 = .ok (.if_icmp .eq 7, 3) := by decide +kernel
theorem zd_JM_floorDiv_17 : decode zc_JM_floorDiv 17 = .ok (.iload_n 2, 1) := by decide +kernel
theorem zd_JM_floorDiv_18 : decode zc_JM_floorDiv 18 = .ok (.iconst 1, 1) := by decide +kernel
theorem zd_JM_floorDiv_19 : decode zc_JM_floorDiv 19 = .ok (.isub, 1) := by decide +kernel
theorem zd_JM_floorDiv_20 : decode zc_JM_floorDiv 20 = .ok (.ireturn, 1) := by decide +kernel
theorem zd_JM_floorDiv_21 : decode zc_JM_floorDiv 21 = .ok (.iload_n 2, 1) := by decide +kernel
theorem zd_JM_floorDiv_22 : decode zc_JM_floorDiv 22 = .ok (.ireturn, 1) := by decide +kernel
theorem zd_JM_max_0 : decode zc_JM_max 0 = .ok (.iload_n 0, 1) := by decide +kernel
theorem zd_JM_max_1 : decode zc_JM_max 1 = .ok (.iload_n 1, 1) := by decide +kernel
theorem zd_JM_max_2 : decode zc_JM_max 2 = .ok (.if_icmp .lt 7, 3) := by decide +kernel
theorem zd_JM_max_5 : decode zc_JM_max 5 = .ok (.iload_n 0, 1) := by decide +kernel
theorem zd_JM_max_6 : decode zc_JM_max 6 = .ok (.goto 4, 3) := by decide +kernel
theorem zd_JM_max_9 : decode zc_JM_max 9 = .ok (.iload_n 1, 1) := by decide +kernel
theorem zd_JM_max_10 : decode zc_JM_max 10 = .ok (.ireturn, 1) := by decide +kernel
theorem zd_JM_min_0 : decode zc_JM_min 0 = .ok (.iload_n 0, 1) := by decide +kernel
theorem zd_JM_min_1 : decode zc_JM_min 1 = .ok (.iload_n 1, 1) := by decide +kernel
theorem zd_JM_min_2 : decode zc_JM_min 2 = .ok (.if_icmp .gt 7, 3) := by decide +kernel
theorem zd_JM_min_5 : decode zc_JM_min 5 = .ok (.iload_n 0, 1) := by decide +kernel
theorem zd_JM_min_6 : decode zc_JM_min 6 = .ok (.goto 4, 3) := by decide +kernel
theorem zd_JM_min_9 : decode zc_JM_min 9 = .ok (.iload_n 1, 1) := by decide +kernel
theorem zd_JM_min_10 : decode zc_JM_min 10 = .ok (.ireturn, 1) := by decide +kernel
theorem zd_D_isLeap_0 : decode zc_D_isLeap 0 = .ok (.iload_n 0, 1) := by decide +kernel
theorem zd_D_isLeap_1 : decode zc_D_isLeap 1 = .ok (.iconst 4, 1) := by decide +kernel
theorem zd_D_isLeap_2 : decode zc_D_isLeap 2 = .ok (.irem, 1) := by decide +kernel
theorem zd_D_isLeap_3 : decode zc_D_isLeap 3 = .ok (.ifCond .ne 22, 3) := by decide +kernel
theorem zd_D_isLeap_6 : decode zc_D_isLeap 6 = .ok (.iload_n 0, 1) := by decide +kernel
theorem zd_D_isLeap_7 : decode zc_D_isLeap 7 = .ok (.bipush 100, 2) := by decide +kernel
theorem zd_D_isLeap_9 : decode zc_D_isLeap 9 = .ok (.irem, 1) := by decide +kernel
theorem zd_D_isLeap_10 : decode zc_D_isLeap 10 = .ok (.ifCond .ne 11, 3) := by decide +kernel
theorem zd_D_isLeap_13 : decode zc_D_isLeap 13 = .ok (.iload_n 0, 1) := by decide +kernel
theorem zd_D_isLeap_14 : decode zc_D_isLeap 14 = .ok (.sipush 400, 3) := by decide +kernel
theorem zd_D_isLeap_17 : decode zc_D_isLeap 17 = .ok (.irem, 1) := by decide +kernel
theorem zd_D_isLeap_18 : decode zc_D_isLeap 18 = .ok (.ifCond .ne 7, 3) := by decide +kernel
theorem zd_D_isLeap_21 : decode zc_D_isLeap 21 = .ok (.iconst 1, 1) := by decide +kernel
theorem zd_D_isLeap_22 : decode zc_D_isLeap 22 = .ok (.goto 4, 3) := by decide +kernel
theorem zd_D_isLeap_25 : decode zc_D_isLeap 25 = .ok (.iconst 0, 1) := by decide +kernel
theorem zd_D_isLeap_26 : decode zc_D_isLeap 26 = .ok (.ireturn, 1) := by decide +kernel
theorem zd_D_startOfYear_0 : decode zc_D_startOfYear 0 = .ok (.iload_n 0, 1) := by decide +kernel
theorem zd_D_startOfYear_1 : decode zc_D_startOfYear 1 = .ok (.iconst 1, 1) := by decide +kernel
theorem zd_D_startOfYear_2 : decode zc_D_startOfYear 2 = .ok (.isub, 1) := by decide +kernel
theorem zd_D_startOfYear_3 : decode zc_D_startOfYear 3 = .ok (.istore_n 1, 1) := by decide +kernel
theorem zd_D_startOfYear_4 : decode zc_D_startOfYear 4 = .ok (.iload_n 1, 1) := by decide +kernel
theorem zd_D_startOfYear_5 : decode zc_D_startOfYear 5 = .ok (.iconst 4, 1) := by decide +kernel
theorem zd_D_startOfYear_6 : decode zc_D_startOfYear 6 = .ok (.idiv, 1) := by decide +kernel
theorem zd_D_startOfYear_7 : decode zc_D_startOfYear 7 = .ok (.iload_n 1, 1) := by decide +kernel
theorem zd_D_startOfYear_8 : decode zc_D_startOfYear 8 = .ok (.bipush 100, 2) := by decide +kernel
theorem zd_D_startOfYear_10 : decode zc_D_startOfYear 10 = .ok (.idiv, 1) := by decide +kernel
theorem zd_D_startOfYear_11 : decode zc_D_startOfYear 11 = .ok (.isub, 1) := by decide +kernel
theorem zd_D_startOfYear_12 : decode zc_D_startOfYear 12 = .ok (.iload_n 1, 1) := by decide +kernel
theorem zd_D_startOfYear_13 : decode zc_D_startOfYear 13 = .ok (.sipush 400, 3) := by decide +kernel
theorem zd_D_startOfYear_16 : decode zc_D_startOfYear 16 = .ok (.idiv, 1) := by decide +kernel
theorem zd_D_startOfYear_17 : decode zc_D_startOfYear 17 = .ok (.iadd, 1) := by decide +kernel
theorem zd_D_startOfYear_18 : decode zc_D_startOfYear 18 = .ok (.sipush 477, 3) := by decide +kernel
theorem zd_D_startOfYear_21 : decode zc_D_startOfYear 21 = .ok (.isub, 1) := by decide +kernel
theorem zd_D_startOfYear_22 : decode zc_D_startOfYear 22 = .ok (.istore_n 2, 1) := by decide +kernel
theorem zd_D_startOfYear_23 : decode zc_D_startOfYear 23 = .ok (.iload_n 0, 1) := by decide +kernel
theorem zd_D_startOfYear_24 : decode zc_D_startOfYear 24 = .ok (.sipush 1970, 3) := by decide +kernel
theorem zd_D_startOfYear_27 : decode zc_D_startOfYear 27 = .ok (.isub, 1) := by decide +kernel
theorem zd_D_startOfYear_28 : decode zc_D_startOfYear 28 = .ok (.sipush 365, 3) := by decide +kernel
theorem zd_D_startOfYear_31 : decode zc_D_startOfYear 31 = .ok (.imul, 1) := by decide +kernel
theorem zd_D_startOfYear_32 : decode zc_D_startOfYear 32 = .ok (.iload_n 2, 1) := by decide +kernel
theorem zd_D_startOfYear_33 : decode zc_D_startOfYear 33 = .ok (.iadd, 1) := by decide +kernel
theorem zd_D_startOfYear_34 : decode zc_D_startOfYear 34 = .ok (.ireturn, 1) := by decide +kernel
theorem zd_D_yearOfMonth_0 : decode zc_D_yearOfMonth 0 = .ok (.sipush 1970, 3) := by decide +kernel
theorem zd_D_yearOfMonth_3 : decode zc_D_yearOfMonth 3 = .ok (.iload_n 0, 1) := by decide +kernel
theorem zd_D_yearOfMonth_4 : decode zc_D_yearOfMonth 4 = .ok (.bipush 12, 2) := by decide +kernel
theorem zd_D_yearOfMonth_6 : decode zc_D_yearOfMonth 6 = .ok (.idiv, 1) := by decide +kernel
theorem zd_D_yearOfMonth_7 : decode zc_D_yearOfMonth 7 = .ok (.iadd, 1) := by decide +kernel
theorem zd_D_yearOfMonth_8 : decode zc_D_yearOfMonth 8 = .ok (.ireturn, 1) := by decide +kernel
theorem zd_D_startOfMonth_0 : decode zc_D_startOfMonth 0 = .ok (.iload_n 0, 1) := by decide +kernel
theorem zd_D_startOfMonth_1 : decode zc_D_startOfMonth 1 = .ok (.invokestatic 9, 3) := by decide +kernel
theorem zd_D_startOfMonth_4 : decode zc_D_startOfMonth 4 = .ok (.istore_n 1, 1) := by decide +kernel
theorem zd_D_startOfMonth_5 : decode zc_D_startOfMonth 5 = .ok (.iload_n 0, 1) := by decide +kernel
theorem zd_D_startOfMonth_6 : decode zc_D_startOfMonth 6 = .ok (.bipush 12, 2) := by decide +kernel
theorem zd_D_startOfMonth_8 : decode zc_D_startOfMonth 8 = .ok (.invokestatic 13, 3) := by decide +kernel
theorem zd_D_startOfMonth_11 : decode zc_D_startOfMonth 11 = .ok (.istore_n 2, 1) := by decide +kernel
theorem zd_D_startOfMonth_12 : decode zc_D_startOfMonth 12 = .ok (.iload_n 2, 1) := by decide +kernel
theorem zd_D_startOfMonth_13 : decode zc_D_startOfMonth 13 = .ok (.iconst 2, 1) := by decide +kernel
theorem zd_D_startOfMonth_14 : decode zc_D_startOfMonth 14 = .ok (.if_icmp .lt 14, 3) := by decide +kernel
theorem zd_D_startOfMonth_17 : decode zc_D_startOfMonth 17 = .ok (.iload_n 1, 1) := by decide +kernel
theorem zd_D_startOfMonth_18 : decode zc_D_startOfMonth 18 = .ok (.invokestatic 19, 3) := by decide +kernel
theorem zd_D_startOfMonth_21 : decode zc_D_startOfMonth 21 = .ok (.ifCond .eq 7, 3) := by decide +kernel
theorem zd_D_startOfMonth_24 : decode zc_D_startOfMonth 24 = .ok (.iconst 1, 1) := by decide +kernel
theorem zd_D_startOfMonth_25 : decode zc_D_startOfMonth 25 = .ok (.goto 4, 3) := by decide +kernel
theorem zd_D_startOfMonth_28 : decode zc_D_startOfMonth 28 = .ok (.iconst 0, 1) := by decide +kernel
theorem zd_D_startOfMonth_29 : decode zc_D_startOfMonth 29 = .ok (.istore_n 3, 1) := by decide +kernel
theorem zd_D_startOfMonth_30 : decode zc_D_startOfMonth 30 = .ok (.iload_n 1, 1) := by decide +kernel
theorem zd_D_startOfMonth_31 : decode zc_D_startOfMonth 31 = .ok (.invokestatic 23, 3) := by decide +kernel
theorem zd_D_startOfMonth_34 : decode zc_D_startOfMonth 34 = .ok (.getstatic 26, 3) := by decide +kernel
theorem zd_D_startOfMonth_37 : decode zc_D_startOfMonth 37 = .ok (.iload_n 2, 1) := by decide +kernel
theorem zd_D_startOfMonth_38 : decode zc_D_startOfMonth 38 = .ok (.iaload, 1) := by decide +kernel
theorem zd_D_startOfMonth_39 : decode zc_D_startOfMonth 39 = .ok (.iadd, 1) := by decide +kernel
theorem zd_D_startOfMonth_40 : decode zc_D_startOfMonth 40 = .ok (.iload_n 3, 1) := by decide +kernel
theorem zd_D_startOfMonth_41 : decode zc_D_startOfMonth 41 = .ok (.iadd, 1) := by decide +kernel
theorem zd_D_startOfMonth_42 : decode zc_D_startOfMonth 42 = .ok (.ireturn, 1) := by decide +kernel
theorem zd_D_lengthOfMonth_0 : decode zc_D_lengthOfMonth 0 = .ok (.iload_n 0, 1) := by decide +kernel
theorem zd_D_lengthOfMonth_1 : decode zc_D_lengthOfMonth 1 = .ok (.iconst 1, 1) := by decide +kernel
theorem zd_D_lengthOfMonth_2 : decode zc_D_lengthOfMonth 2 = .ok (.iadd, 1) := by decide +kernel
theorem zd_D_lengthOfMonth_3 : decode zc_D_lengthOfMonth 3 = .ok (.invokestatic 30, 3) := by decide +kernel
theorem zd_D_lengthOfMonth_6 : decode zc_D_lengthOfMonth 6 = .ok (.iload_n 0, 1) := by decide +kernel
theorem zd_D_lengthOfMonth_7 : decode zc_D_lengthOfMonth 7 = .ok (.invokestatic 30, 3) := by decide +kernel
theorem zd_D_lengthOfMonth_10 : decode zc_D_lengthOfMonth 10 = .ok (.isub, 1) := by decide +kernel
theorem zd_D_lengthOfMonth_11 : decode zc_D_lengthOfMonth 11 = .ok (.ireturn, 1) := by decide +kernel
theorem zd_D_weekdayOf_0 : decode zc_D_weekdayOf 0 = .ok (.iload_n 0, 1) := by decide +kernel
theorem zd_D_weekdayOf_1 : decode zc_D_weekdayOf 1 = .ok (.iconst 4, 1) := by decide +kernel
theorem zd_D_weekdayOf_2 : decode zc_D_weekdayOf 2 = .ok (.iadd, 1) := by decide +kernel
theorem zd_D_weekdayOf_3 : decode zc_D_weekdayOf 3 = .ok (.bipush 7, 2) := by decide +kernel
theorem zd_D_weekdayOf_5 : decode zc_D_weekdayOf 5 = .ok (.irem, 1) := by decide +kernel
theorem zd_D_weekdayOf_6 : decode zc_D_weekdayOf 6 = .ok (.iconst 1, 1) := by decide +kernel
theorem zd_D_weekdayOf_7 : decode zc_D_weekdayOf 7 = .ok (.iadd, 1) := by decide +kernel
theorem zd_D_weekdayOf_8 : decode zc_D_weekdayOf 8 = .ok (.ireturn, 1) := by decide +kernel
theorem zd_D_yearOf_0 : decode zc_D_yearOf 0 = .ok (.sipush 1970, 3) := by decide +kernel
theorem zd_D_yearOf_3 : decode zc_D_yearOf 3 = .ok (.iload_n 0, 1) := by decide +kernel
theorem zd_D_yearOf_4 : decode zc_D_yearOf 4 = .ok (.sipush 366, 3) := by decide +kernel
theorem zd_D_yearOf_7 : decode zc_D_yearOf 7 = .ok (.idiv, 1) := by decide +kernel
theorem zd_D_yearOf_8 : decode zc_D_yearOf 8 = .ok (.iadd, 1) := by decide +kernel
theorem zd_D_yearOf_9 : decode zc_D_yearOf 9 = .ok (.istore_n 1, 1) := by decide +kernel
theorem zd_D_yearOf_10 : decode zc_D_yearOf 10 = .ok (.iload_n 1, 1) := by decide +kernel
theorem zd_D_yearOf_11 : decode zc_D_yearOf 11 = .ok (.sipush 2299, 3) := by decide +kernel
theorem zd_D_yearOf_14 : decode zc_D_yearOf 14 = .ok (.if_icmp .ge 19, 3) := by decide +kernel
theorem zd_D_yearOf_17 : decode zc_D_yearOf 17 = .ok (.iload_n 1, 1) := by decide +kernel
theorem zd_D_yearOf_18 : decode zc_D_yearOf 18 = .ok (.iconst 1, 1) := by decide +kernel
theorem zd_D_yearOf_19 : decode zc_D_yearOf 19 = .ok (.iadd, 1) := by decide +kernel
theorem zd_D_yearOf_20 : decode zc_D_yearOf 20 = .ok (.invokestatic 23, 3) := by decide +kernel
theorem zd_D_yearOf_23 : decode zc_D_yearOf 23 = .ok (.iload_n 0, 1) := by decide +kernel
theorem zd_D_yearOf_24 : decode zc_D_yearOf 24 = .ok (.if_icmp .gt 9, 3) := by decide +kernel
theorem zd_D_yearOf_27 : decode zc_D_yearOf 27 = .ok (.iinc 1 1, 3) := by decide +kernel
theorem zd_D_yearOf_30 : decode zc_D_yearOf 30 = .ok (.goto (-20), 3) := by decide +kernel
theorem zd_D_yearOf_33 : decode zc_D_yearOf 33 = .ok (.iload_n 1, 1) := by decide +kernel
theorem zd_D_yearOf_34 : decode zc_D_yearOf 34 = .ok (.ireturn, 1) := by decide +kernel
theorem zd_D_monthOf_0 : decode zc_D_monthOf 0 = .ok (.iload_n 0, 1) := by decide +kernel
theorem zd_D_monthOf_1 : decode zc_D_monthOf 1 = .ok (.invokestatic 33, 3) := by decide +kernel
theorem zd_D_monthOf_4 : decode zc_D_monthOf 4 = .ok (.sipush 1970, 3) := by decide +kernel
theorem zd_D_monthOf_7 : decode zc_D_monthOf 7 = .ok (.isub, 1) := by decide +kernel
theorem zd_D_monthOf_8 : decode zc_D_monthOf 8 = .ok (.bipush 12, 2) := by decide +kernel
theorem zd_D_monthOf_10 : decode zc_D_monthOf 10 = .ok (.imul, 1) := by decide +kernel
theorem zd_D_monthOf_11 : decode zc_D_monthOf 11 = .ok (.istore_n 1, 1) := by decide +kernel
theorem zd_D_monthOf_12 : decode zc_D_monthOf 12 = .ok (.iconst 0, 1) := by decide +kernel
theorem zd_D_monthOf_13 : decode zc_D_monthOf 13 = .ok (.istore_n 2, 1) := by decide +kernel
theorem zd_D_monthOf_14 : decode zc_D_monthOf 14 = .ok (.iload_n 2, 1) := by decide +kernel
theorem zd_D_monthOf_15 : decode zc_D_monthOf 15 = .ok (.bipush 11, 2) := by decide +kernel
theorem zd_D_monthOf_17 : decode zc_D_monthOf 17 = .ok (.if_icmp .ge 22, 3) := by decide +kernel
theorem zd_D_monthOf_20 : decode zc_D_monthOf 20 = .ok (.iload_n 1, 1) := by decide +kernel
theorem zd_D_monthOf_21 : decode zc_D_monthOf 21 = .ok (.iconst 1, 1) := by decide +kernel
theorem zd_D_monthOf_22 : decode zc_D_monthOf 22 = .ok (.iadd, 1) := by decide +kernel
theorem zd_D_monthOf_23 : decode zc_D_monthOf 23 = .ok (.invokestatic 30, 3) := by decide +kernel
theorem zd_D_monthOf_26 : decode zc_D_monthOf 26 = .ok (.iload_n 0, 1) := by decide +kernel
theorem zd_D_monthOf_27 : decode zc_D_monthOf 27 = .ok (.if_icmp .gt 12, 3) := by decide +kernel
theorem zd_D_monthOf_30 : decode zc_D_monthOf 30 = .ok (.iinc 1 1, 3) := by decide +kernel
theorem zd_D_monthOf_33 : decode zc_D_monthOf 33 = .ok (.iinc 2 1, 3) := by decide +kernel
theorem zd_D_monthOf_36 : decode zc_D_monthOf 36 = .ok (.goto (-22), 3) := by decide +kernel
theorem zd_D_monthOf_39 : decode zc_D_monthOf 39 = .ok (.iload_n 1, 1) := by decide +kernel
theorem zd_D_monthOf_40 : decode zc_D_monthOf 40 = .ok (.ireturn, 1) := by decide +kernel
def zSd (t : Nat) (A : Nat → Prop) : zStt := fun U H => va_Z "CronFinder$Dates" "DAYS_BEFORE_MONTH" "[I" (.ref t) A U H ∧ va_T .int t 12 (fun j => .int (iI (dBM (j : Int)))) A U H
theorem zSd_mv (t : Nat) (A : Nat → Prop) : zMv (zSd t A) := fun _ _ _ hvm h => ⟨va_Z.moved hvm.alike h.1, va_T.moved hvm.alike h.2⟩
theorem zSd_now {t : Nat} {A : Nat → Prop} {s : State} {H : Heap} {locs : List Loc} (h : zSd t A s s.heap) (hS : va_S A s.heap H locs) : zSd t A s H := ⟨h.1.kept hS.2.1, h.2.kept hS.2.1⟩
theorem zSd_nar {t : Nat} {A B : Nat → Prop} {s : State} {H : Heap} (h : zSd t A s H) (hAB : ∀ q, B q → A q) : zSd t B s H := ⟨h.1.narrow hAB, h.2.narrow hAB⟩
section ZTI
variable {p : Program} {l : Launch} {e : Env} {R : Room} {s : State} {m : MethodId} {args : Array Value} {below : List Frame} {meth : Method} {c : Code} {H : Heap} {locs : List Loc} {cells slots : Nat} {Q : State → Prop}
variable {cc : ByteArray} {pc : Nat} {ls : Array Slot} {rest : List Value} {A : Nat → Prop} {t N : Nat} {z : Int}
theorem zi_ti {f : Int → Int} (hx : p.tables.exec = Jvm.exec) (hb : c.code = cc) (hT : va_T .int t N (fun j => .int (iI (f (j : Int)))) A s s.heap) (hS : va_S A s.heap H locs) (h : 0 ≤ z ∧ z < (N : Int) ∧ z < 2147483648) (hdg : decode cc pc = .ok (.iaload, 1))
    (kk : W p l e R s m args below meth c H locs cells slots Q (F0 m (pc + 1) ls (.int (iI (f z)) :: rest))) : W p l e R s m args below meth c H locs cells slots Q (F0 m pc ls (.int (iI z) :: .ref t :: rest)) :=
  va_ti hx hb hT hS (iI_in h) (v := .int (iI (f z))) (by rw [iI_cl (by omega)]; show Value.int (iI (f ((z.toNat : Nat) : Int))) = _; rw [Int.toNat_of_nonneg h.1]) hdg kk
end ZTI
set_option maxHeartbeats 4000000 in
set_option maxRecDepth 100000 in
theorem c_max (l : Launch) (g : zGl) (a b : Int) (ha : -2147483648 ≤ a ∧ a < 2147483648 ∧ -2147483648 ≤ b ∧ b < 2147483648) : zSi l zy_JM_max zc_JM_max 2 (some .int) ({ frames := 0, cells := 0, slots := 0, locals := 0 }) g zN [.int (iI (a)), .int (iI (b))] [] (some (.int (iI (max a b)))) := by
  refine zs_open (by decide +kernel) (Nat.le_of_ble_eq_true rfl) ?_
  intro p e s m below meth c ls hx hb hml hr hlk hown hw hK hT hP hl
  have hown : s.vm.findClass "java/lang/Math" = some m.cls := hown
  have hl : lv_has ls 2 [(0, .int (iI (a))), (1, .int (iI (b)))] := hl
  refine lv_iload_n hx hb zd_JM_max_0 rfl (lv_at hl 0 rfl) ?_
  refine lv_iload_n hx hb zd_JM_max_1 rfl (lv_at hl 1 rfl) ?_
  refine zi_icmp_lt (tgt := 9) hx hb zd_JM_max_2 (by decide) (by omega) (fun c2 => ?_) (fun c2 => ?_)
  · refine lv_iload_n hx hb zd_JM_max_9 rfl (lv_at hl 1 rfl) ?_
    refine zi_as (max a b) (by omega) ?_
    exact zs_iret hx hb hr hlk zd_JM_max_10
  · refine lv_iload_n hx hb zd_JM_max_5 rfl (lv_at hl 0 rfl) ?_
    refine lv_goto (tgt := 10) hx hb zd_JM_max_6 (by decide) ?_
    refine zi_as (max a b) (by omega) ?_
    exact zs_iret hx hb hr hlk zd_JM_max_10
set_option maxHeartbeats 4000000 in
set_option maxRecDepth 100000 in
theorem c_min (l : Launch) (g : zGl) (a b : Int) (ha : -2147483648 ≤ a ∧ a < 2147483648 ∧ -2147483648 ≤ b ∧ b < 2147483648) : zSi l zy_JM_min zc_JM_min 2 (some .int) ({ frames := 0, cells := 0, slots := 0, locals := 0 }) g zN [.int (iI (a)), .int (iI (b))] [] (some (.int (iI (min a b)))) := by
  refine zs_open (by decide +kernel) (Nat.le_of_ble_eq_true rfl) ?_
  intro p e s m below meth c ls hx hb hml hr hlk hown hw hK hT hP hl
  have hown : s.vm.findClass "java/lang/Math" = some m.cls := hown
  have hl : lv_has ls 2 [(0, .int (iI (a))), (1, .int (iI (b)))] := hl
  refine lv_iload_n hx hb zd_JM_min_0 rfl (lv_at hl 0 rfl) ?_
  refine lv_iload_n hx hb zd_JM_min_1 rfl (lv_at hl 1 rfl) ?_
  refine zi_icmp_gt (tgt := 9) hx hb zd_JM_min_2 (by decide) (by omega) (fun c2 => ?_) (fun c2 => ?_)
  · refine lv_iload_n hx hb zd_JM_min_9 rfl (lv_at hl 1 rfl) ?_
    refine zi_as (min a b) (by omega) ?_
    exact zs_iret hx hb hr hlk zd_JM_min_10
  · refine lv_iload_n hx hb zd_JM_min_5 rfl (lv_at hl 0 rfl) ?_
    refine lv_goto (tgt := 10) hx hb zd_JM_min_6 (by decide) ?_
    refine zi_as (min a b) (by omega) ?_
    exact zs_iret hx hb hr hlk zd_JM_min_10
set_option maxHeartbeats 4000000 in
set_option maxRecDepth 100000 in
theorem c_fm (l : Launch) (g : zGl) (a b : Int) (h : -2147483648 ≤ a ∧ a < 2147483648 ∧ 0 < b ∧ b < 2147483648) : zSi l zy_JM_floorMod zc_JM_floorMod 3 (some .int) ({ frames := 0, cells := 0, slots := 0, locals := 0 }) g zN [.int (iI a), .int (iI b)] [] (some (.int (iI (a % b)))) := by
  refine zs_open (by decide +kernel) (Nat.le_of_ble_eq_true rfl) ?_
  intro p e s m below meth c ls hx hb hml hr hlk hown hw hK hT hP hl
  have hl : lv_has ls 3 [(0, .int (iI a)), (1, .int (iI b))] := hl
  obtain ⟨h1, h2, h3, h4, h5⟩ := zt_fm (a := a) (b := b) h.2.2.1
  refine lv_iload_n hx hb zd_JM_floorMod_0 rfl (lv_at hl 0 rfl) ?_
  refine lv_iload_n hx hb zd_JM_floorMod_1 rfl (lv_at hl 1 rfl) ?_
  refine zi_iremT hx hb zd_JM_floorMod_2 h ?_
  refine lv_istore_n (lv' := [(2, .int (iI (a.tmod b))), (0, .int (iI a)), (1, .int (iI b))]) hx hb zd_JM_floorMod_3 rfl hl (by decide) rfl (fun ls hl => ?_)
  refine lv_iload_n hx hb zd_JM_floorMod_4 rfl (lv_at hl 1 rfl) ?_
  refine lv_iload_n hx hb zd_JM_floorMod_5 rfl (lv_at hl 2 rfl) ?_
  refine zi_xorge (tgt := 18) hx hb h zd_JM_floorMod_6 zd_JM_floorMod_7 (by decide) (fun c7 => ?_) (fun c7 => ?_)
  · refine lv_iload_n hx hb zd_JM_floorMod_18 rfl (lv_at hl 0 rfl) ?_
    refine zi_as (a % b) (h2 c7) ?_
    exact zs_iret hx hb hr hlk zd_JM_floorMod_19
  · refine lv_iload_n hx hb zd_JM_floorMod_10 rfl (lv_at hl 0 rfl) ?_
    refine zi_if_eq (tgt := 18) hx hb zd_JM_floorMod_11 (by decide) (by omega) (fun c11 => ?_) (fun c11 => ?_)
    · refine lv_iload_n hx hb zd_JM_floorMod_18 rfl (lv_at hl 0 rfl) ?_
      refine zi_as (a % b) (c11.trans (h1 c11).symm) ?_
      exact zs_iret hx hb hr hlk zd_JM_floorMod_19
    · refine lv_iload_n hx hb zd_JM_floorMod_14 rfl (lv_at hl 0 rfl) ?_
      refine lv_iload_n hx hb zd_JM_floorMod_15 rfl (lv_at hl 2 rfl) ?_
      refine zi_iadd hx hb zd_JM_floorMod_16 ?_
      refine zi_as (a % b) (h3 c7 c11) ?_
      exact zs_iret hx hb hr hlk zd_JM_floorMod_17
set_option maxHeartbeats 4000000 in
set_option maxRecDepth 100000 in
theorem c_D_isLeap (l : Launch) (g : zGl) (y : Int) (hy : 0 ≤ y ∧ y < 2147483648) : zSi l zy_D_isLeap zc_D_isLeap 1 (some .boolean) ({ frames := 0, cells := 0, slots := 0, locals := 0 }) g zN [.int (iI (y))] [] (some (.int (iI (bI (dLeap y))))) := by
  refine zs_open (by decide +kernel) (Nat.le_of_ble_eq_true rfl) ?_
  intro p e s m below meth c ls hx hb hml hr hlk hown hw hK hT hP hl
  have hown : s.vm.findClass "CronFinder$Dates" = some m.cls := hown
  have hl : lv_has ls 1 [(0, .int (iI (y)))] := hl
  refine lv_iload_n hx hb zd_D_isLeap_0 rfl (lv_at hl 0 rfl) ?_
  refine zi_iconst hx hb zd_D_isLeap_1 ?_
  refine zi_irem hx hb zd_D_isLeap_2 (by omega) ?_
  refine zi_if_ne (tgt := 25) hx hb zd_D_isLeap_3 (by decide) (by omega) (fun c3 => ?_) (fun c3 => ?_)
  · refine zi_iconst hx hb zd_D_isLeap_25 ?_
    refine zb_as (x := dLeap y) (by rw [dLeap_i]; first | rw [if_pos (by omega)] | rw [if_neg (by omega)]) ?_
    exact zs_zret hx hb hr hlk zd_D_isLeap_26
  · refine lv_iload_n hx hb zd_D_isLeap_6 rfl (lv_at hl 0 rfl) ?_
    refine zi_bipush hx hb zd_D_isLeap_7 (by decide) ?_
    refine zi_irem hx hb zd_D_isLeap_9 (by omega) ?_
    refine zi_if_ne (tgt := 21) hx hb zd_D_isLeap_10 (by decide) (by omega) (fun c10 => ?_) (fun c10 => ?_)
    · refine zi_iconst hx hb zd_D_isLeap_21 ?_
      refine lv_goto (tgt := 26) hx hb zd_D_isLeap_22 (by decide) ?_
      refine zb_as (x := dLeap y) (by rw [dLeap_i]; first | rw [if_pos (by omega)] | rw [if_neg (by omega)]) ?_
      exact zs_zret hx hb hr hlk zd_D_isLeap_26
    · refine lv_iload_n hx hb zd_D_isLeap_13 rfl (lv_at hl 0 rfl) ?_
      refine zi_sipush hx hb zd_D_isLeap_14 (by decide) ?_
      refine zi_irem hx hb zd_D_isLeap_17 (by omega) ?_
      refine zi_if_ne (tgt := 25) hx hb zd_D_isLeap_18 (by decide) (by omega) (fun c18 => ?_) (fun c18 => ?_)
      · refine zi_iconst hx hb zd_D_isLeap_25 ?_
        refine zb_as (x := dLeap y) (by rw [dLeap_i]; first | rw [if_pos (by omega)] | rw [if_neg (by omega)]) ?_
        exact zs_zret hx hb hr hlk zd_D_isLeap_26
      · refine zi_iconst hx hb zd_D_isLeap_21 ?_
        refine lv_goto (tgt := 26) hx hb zd_D_isLeap_22 (by decide) ?_
        refine zb_as (x := dLeap y) (by rw [dLeap_i]; first | rw [if_pos (by omega)] | rw [if_neg (by omega)]) ?_
        exact zs_zret hx hb hr hlk zd_D_isLeap_26
set_option maxHeartbeats 4000000 in
set_option maxRecDepth 100000 in
theorem c_D_startOfYear (l : Launch) (g : zGl) (y : Int) (hy : 1 ≤ y ∧ y ≤ 3000) : zSi l zy_D_startOfYear zc_D_startOfYear 3 (some .int) ({ frames := 0, cells := 0, slots := 0, locals := 0 }) g zN [.int (iI (y))] [] (some (.int (iI (dY0 y)))) := by
  refine zs_open (by decide +kernel) (Nat.le_of_ble_eq_true rfl) ?_
  intro p e s m below meth c ls hx hb hml hr hlk hown hw hK hT hP hl
  have hown : s.vm.findClass "CronFinder$Dates" = some m.cls := hown
  have hl : lv_has ls 3 [(0, .int (iI (y)))] := hl
  refine lv_iload_n hx hb zd_D_startOfYear_0 rfl (lv_at hl 0 rfl) ?_
  refine zi_iconst hx hb zd_D_startOfYear_1 ?_
  refine zi_isub hx hb zd_D_startOfYear_2 ?_
  refine lv_istore_n (lv' := [(1, .int (iI (y - 1))), (0, .int (iI (y)))]) hx hb zd_D_startOfYear_3 rfl hl (by decide) rfl (fun ls hl => ?_)
  refine lv_iload_n hx hb zd_D_startOfYear_4 rfl (lv_at hl 0 rfl) ?_
  refine zi_iconst hx hb zd_D_startOfYear_5 ?_
  refine zi_idiv hx hb zd_D_startOfYear_6 (by omega) ?_
  refine lv_iload_n hx hb zd_D_startOfYear_7 rfl (lv_at hl 0 rfl) ?_
  refine zi_bipush hx hb zd_D_startOfYear_8 (by decide) ?_
  refine zi_idiv hx hb zd_D_startOfYear_10 (by omega) ?_
  refine zi_isub hx hb zd_D_startOfYear_11 ?_
  refine lv_iload_n hx hb zd_D_startOfYear_12 rfl (lv_at hl 0 rfl) ?_
  refine zi_sipush hx hb zd_D_startOfYear_13 (by decide) ?_
  refine zi_idiv hx hb zd_D_startOfYear_16 (by omega) ?_
  refine zi_iadd hx hb zd_D_startOfYear_17 ?_
  refine zi_sipush hx hb zd_D_startOfYear_18 (by decide) ?_
  refine zi_isub hx hb zd_D_startOfYear_21 ?_
  refine lv_istore_n (lv' := [(2, .int (iI (((((y - 1) / 4) - ((y - 1) / 100)) + ((y - 1) / 400)) - 477))), (1, .int (iI (y - 1))), (0, .int (iI (y)))]) hx hb zd_D_startOfYear_22 rfl hl (by decide) rfl (fun ls hl => ?_)
  refine lv_iload_n hx hb zd_D_startOfYear_23 rfl (lv_at hl 2 rfl) ?_
  refine zi_sipush hx hb zd_D_startOfYear_24 (by decide) ?_
  refine zi_isub hx hb zd_D_startOfYear_27 ?_
  refine zi_sipush hx hb zd_D_startOfYear_28 (by decide) ?_
  refine zi_imul hx hb zd_D_startOfYear_31 ?_
  refine lv_iload_n hx hb zd_D_startOfYear_32 rfl (lv_at hl 0 rfl) ?_
  refine zi_iadd hx hb zd_D_startOfYear_33 ?_
  refine zi_as (dY0 y) (by unfold dY0; omega) ?_
  exact zs_iret hx hb hr hlk zd_D_startOfYear_34
set_option maxHeartbeats 4000000 in
set_option maxRecDepth 100000 in
theorem c_D_yearOfMonth (l : Launch) (g : zGl) (mo : Int) (hm : 0 ≤ mo ∧ mo < 2147483648) : zSi l zy_D_yearOfMonth zc_D_yearOfMonth 1 (some .int) ({ frames := 0, cells := 0, slots := 0, locals := 0 }) g zN [.int (iI (mo))] [] (some (.int (iI (1970 + mo / 12)))) := by
  refine zs_open (by decide +kernel) (Nat.le_of_ble_eq_true rfl) ?_
  intro p e s m below meth c ls hx hb hml hr hlk hown hw hK hT hP hl
  have hown : s.vm.findClass "CronFinder$Dates" = some m.cls := hown
  have hl : lv_has ls 1 [(0, .int (iI (mo)))] := hl
  refine zi_sipush hx hb zd_D_yearOfMonth_0 (by decide) ?_
  refine lv_iload_n hx hb zd_D_yearOfMonth_3 rfl (lv_at hl 0 rfl) ?_
  refine zi_bipush hx hb zd_D_yearOfMonth_4 (by decide) ?_
  refine zi_idiv hx hb zd_D_yearOfMonth_6 (by omega) ?_
  refine zi_iadd hx hb zd_D_yearOfMonth_7 ?_
  refine zi_as (1970 + mo / 12) (rfl) ?_
  exact zs_iret hx hb hr hlk zd_D_yearOfMonth_8
set_option maxHeartbeats 4000000 in
set_option maxRecDepth 100000 in
theorem c_D_weekdayOf (l : Launch) (g : zGl) (d : Int) (hd : 0 ≤ d ∧ d < 1000000) : zSi l zy_D_weekdayOf zc_D_weekdayOf 1 (some .int) ({ frames := 0, cells := 0, slots := 0, locals := 0 }) g zN [.int (iI (d))] [] (some (.int (iI ((d + 4) % 7 + 1)))) := by
  refine zs_open (by decide +kernel) (Nat.le_of_ble_eq_true rfl) ?_
  intro p e s m below meth c ls hx hb hml hr hlk hown hw hK hT hP hl
  have hown : s.vm.findClass "CronFinder$Dates" = some m.cls := hown
  have hl : lv_has ls 1 [(0, .int (iI (d)))] := hl
  refine lv_iload_n hx hb zd_D_weekdayOf_0 rfl (lv_at hl 0 rfl) ?_
  refine zi_iconst hx hb zd_D_weekdayOf_1 ?_
  refine zi_iadd hx hb zd_D_weekdayOf_2 ?_
  refine zi_bipush hx hb zd_D_weekdayOf_3 (by decide) ?_
  refine zi_irem hx hb zd_D_weekdayOf_5 (by omega) ?_
  refine zi_iconst hx hb zd_D_weekdayOf_6 ?_
  refine zi_iadd hx hb zd_D_weekdayOf_7 ?_
  refine zi_as ((d + 4) % 7 + 1) (rfl) ?_
  exact zs_iret hx hb hr hlk zd_D_weekdayOf_8
set_option maxHeartbeats 4000000 in
set_option maxRecDepth 100000 in
theorem c_D_startOfMonth (l : Launch) (g : zGl) (t : Nat) (mo : Int) (hm : 0 ≤ mo ∧ mo ≤ 3960) : zSi l zy_D_startOfMonth zc_D_startOfMonth 4 (some .int) ({ frames := 1, cells := 0, slots := 0, locals := 22 }) g (zSd t (fun _ => False)) [.int (iI (mo))] [] (some (.int (iI (dM0 mo)))) := by
  refine zs_open (by decide +kernel) (Nat.le_of_ble_eq_true rfl) ?_
  intro p e s m below meth c ls hx hb hml hr hlk hown hw hK hT hP hl
  have hown : s.vm.findClass "CronFinder$Dates" = some m.cls := hown
  have hl : lv_has ls 4 [(0, .int (iI (mo)))] := hl
  refine lv_iload_n hx hb zd_D_startOfMonth_0 rfl (lv_at hl 0 rfl) ?_
  refine zk_S (As := [.int (iI (mo))]) (own := "CronFinder$Dates") (nL := 4) (rest := []) hx hb hml hown hw (c_D_yearOfMonth l g (mo) (by omega)) zw_3_44 zw_3_45 zw_1_22 zw_3_46 (np := 1) (by decide +kernel) rfl (by decide) zN_mv hK trivial (hP.sub (ws' := []) [] rfl) hl.1 rfl (Nat.le_of_ble_eq_true rfl) (by decide) zd_D_startOfMonth_1 ?_
  refine lv_istore_n (lv' := [(1, .int (iI (1970 + (mo) / 12))), (0, .int (iI (mo)))]) hx hb zd_D_startOfMonth_4 rfl hl (by decide) rfl (fun ls hl => ?_)
  refine lv_iload_n hx hb zd_D_startOfMonth_5 rfl (lv_at hl 1 rfl) ?_
  refine zi_bipush hx hb zd_D_startOfMonth_6 (by decide) ?_
  refine zk_S (As := [.int (iI (mo)), .int (iI (12))]) (own := "CronFinder$Dates") (nL := 4) (rest := []) hx hb hml hown hw (c_fm l g (mo) (12) (by omega)) zw_3_47 zw_2_56 zw_1_14 zw_2_57 (np := 2) (by decide +kernel) rfl (by decide) zN_mv hK trivial (hP.sub (ws' := []) [] rfl) hl.1 rfl (Nat.le_of_ble_eq_true rfl) (by decide) zd_D_startOfMonth_8 ?_
  refine lv_istore_n (lv' := [(2, .int (iI ((mo) % 12))), (1, .int (iI (1970 + (mo) / 12))), (0, .int (iI (mo)))]) hx hb zd_D_startOfMonth_11 rfl hl (by decide) rfl (fun ls hl => ?_)
  refine lv_iload_n hx hb zd_D_startOfMonth_12 rfl (lv_at hl 0 rfl) ?_
  refine zi_iconst hx hb zd_D_startOfMonth_13 ?_
  refine zi_icmp_lt (tgt := 28) hx hb zd_D_startOfMonth_14 (by decide) (by omega) (fun c14 => ?_) (fun c14 => ?_)
  · refine zi_iconst hx hb zd_D_startOfMonth_28 ?_
    refine lv_istore_n (lv' := [(3, .int (iI (0))), (2, .int (iI ((mo) % 12))), (1, .int (iI (1970 + (mo) / 12))), (0, .int (iI (mo)))]) hx hb zd_D_startOfMonth_29 rfl hl (by decide) rfl (fun ls hl => ?_)
    refine lv_iload_n hx hb zd_D_startOfMonth_30 rfl (lv_at hl 2 rfl) ?_
    refine zk_S (As := [.int (iI (1970 + (mo) / 12))]) (own := "CronFinder$Dates") (nL := 4) (rest := []) hx hb hml hown hw (c_D_startOfYear l g (1970 + (mo) / 12) (by omega)) zw_3_38 zw_3_39 zw_1_22 zw_3_40 (np := 1) (by decide +kernel) rfl (by decide) zN_mv hK trivial (hP.sub (ws' := []) [] rfl) hl.1 rfl (Nat.le_of_ble_eq_true rfl) (by decide) zd_D_startOfMonth_31 ?_
    have hq31 := dY0_rg (y := 1970 + (mo) / 12) (by omega)
    refine va_gets hx hb hT.1 va_S.rf hown (hw _ zw_3_51) (fun _ h9 => h9) zd_D_startOfMonth_34 ?_
    refine lv_iload_n hx hb zd_D_startOfMonth_37 rfl (lv_at hl 1 rfl) ?_
    refine zi_ti (f := dBM) hx hb hT.2 va_S.rf (by omega) zd_D_startOfMonth_38 ?_
    refine zi_iadd hx hb zd_D_startOfMonth_39 ?_
    refine lv_iload_n hx hb zd_D_startOfMonth_40 rfl (lv_at hl 0 rfl) ?_
    refine zi_iadd hx hb zd_D_startOfMonth_41 ?_
    refine zi_as (dM0 mo) (by unfold dM0; first | (rw [if_neg (by omega)]) | (rw [if_pos (by omega), c21]; rfl)) ?_
    exact zs_iret hx hb hr hlk zd_D_startOfMonth_42
  · refine lv_iload_n hx hb zd_D_startOfMonth_17 rfl (lv_at hl 1 rfl) ?_
    refine zk_S (As := [.int (iI (1970 + (mo) / 12))]) (own := "CronFinder$Dates") (nL := 4) (rest := []) hx hb hml hown hw (c_D_isLeap l g (1970 + (mo) / 12) (by omega)) zw_3_48 zw_3_49 zw_1_22 zw_3_50 (np := 1) (by decide +kernel) rfl (by decide) zN_mv hK trivial (hP.sub (ws' := []) [] rfl) hl.1 rfl (Nat.le_of_ble_eq_true rfl) (by decide) zd_D_startOfMonth_18 ?_
    refine zb_if_eq (tgt := 28) hx hb zd_D_startOfMonth_21 (by decide) (fun c21 => ?_) (fun c21 => ?_)
    · refine zi_iconst hx hb zd_D_startOfMonth_28 ?_
      refine lv_istore_n (lv' := [(3, .int (iI (0))), (2, .int (iI ((mo) % 12))), (1, .int (iI (1970 + (mo) / 12))), (0, .int (iI (mo)))]) hx hb zd_D_startOfMonth_29 rfl hl (by decide) rfl (fun ls hl => ?_)
      refine lv_iload_n hx hb zd_D_startOfMonth_30 rfl (lv_at hl 2 rfl) ?_
      refine zk_S (As := [.int (iI (1970 + (mo) / 12))]) (own := "CronFinder$Dates") (nL := 4) (rest := []) hx hb hml hown hw (c_D_startOfYear l g (1970 + (mo) / 12) (by omega)) zw_3_38 zw_3_39 zw_1_22 zw_3_40 (np := 1) (by decide +kernel) rfl (by decide) zN_mv hK trivial (hP.sub (ws' := []) [] rfl) hl.1 rfl (Nat.le_of_ble_eq_true rfl) (by decide) zd_D_startOfMonth_31 ?_
      have hq31 := dY0_rg (y := 1970 + (mo) / 12) (by omega)
      refine va_gets hx hb hT.1 va_S.rf hown (hw _ zw_3_51) (fun _ h9 => h9) zd_D_startOfMonth_34 ?_
      refine lv_iload_n hx hb zd_D_startOfMonth_37 rfl (lv_at hl 1 rfl) ?_
      refine zi_ti (f := dBM) hx hb hT.2 va_S.rf (by omega) zd_D_startOfMonth_38 ?_
      refine zi_iadd hx hb zd_D_startOfMonth_39 ?_
      refine lv_iload_n hx hb zd_D_startOfMonth_40 rfl (lv_at hl 0 rfl) ?_
      refine zi_iadd hx hb zd_D_startOfMonth_41 ?_
      refine zi_as (dM0 mo) (by unfold dM0; first | (rw [if_neg (by omega)]) | (rw [if_pos (by omega), c21]; rfl)) ?_
      exact zs_iret hx hb hr hlk zd_D_startOfMonth_42
    · refine zi_iconst hx hb zd_D_startOfMonth_24 ?_
      refine lv_goto (tgt := 29) hx hb zd_D_startOfMonth_25 (by decide) ?_
      refine lv_istore_n (lv' := [(3, .int (iI (1))), (2, .int (iI ((mo) % 12))), (1, .int (iI (1970 + (mo) / 12))), (0, .int (iI (mo)))]) hx hb zd_D_startOfMonth_29 rfl hl (by decide) rfl (fun ls hl => ?_)
      refine lv_iload_n hx hb zd_D_startOfMonth_30 rfl (lv_at hl 2 rfl) ?_
      refine zk_S (As := [.int (iI (1970 + (mo) / 12))]) (own := "CronFinder$Dates") (nL := 4) (rest := []) hx hb hml hown hw (c_D_startOfYear l g (1970 + (mo) / 12) (by omega)) zw_3_38 zw_3_39 zw_1_22 zw_3_40 (np := 1) (by decide +kernel) rfl (by decide) zN_mv hK trivial (hP.sub (ws' := []) [] rfl) hl.1 rfl (Nat.le_of_ble_eq_true rfl) (by decide) zd_D_startOfMonth_31 ?_
      have hq31 := dY0_rg (y := 1970 + (mo) / 12) (by omega)
      refine va_gets hx hb hT.1 va_S.rf hown (hw _ zw_3_51) (fun _ h9 => h9) zd_D_startOfMonth_34 ?_
      refine lv_iload_n hx hb zd_D_startOfMonth_37 rfl (lv_at hl 1 rfl) ?_
      refine zi_ti (f := dBM) hx hb hT.2 va_S.rf (by omega) zd_D_startOfMonth_38 ?_
      refine zi_iadd hx hb zd_D_startOfMonth_39 ?_
      refine lv_iload_n hx hb zd_D_startOfMonth_40 rfl (lv_at hl 0 rfl) ?_
      refine zi_iadd hx hb zd_D_startOfMonth_41 ?_
      refine zi_as (dM0 mo) (by unfold dM0; rw [if_pos (by omega), c21]; rfl) ?_
      exact zs_iret hx hb hr hlk zd_D_startOfMonth_42
set_option maxHeartbeats 4000000 in
set_option maxRecDepth 100000 in
theorem c_D_lengthOfMonth (l : Launch) (g : zGl) (t : Nat) (mo : Int) (hm : 0 ≤ mo ∧ mo < 3960) : zSi l zy_D_lengthOfMonth zc_D_lengthOfMonth 1 (some .int) ({ frames := 2, cells := 0, slots := 0, locals := 45 }) g (zSd t (fun _ => False)) [.int (iI (mo))] [] (some (.int (iI (dM0 (mo + 1) - dM0 mo)))) := by
  refine zs_open (by decide +kernel) (Nat.le_of_ble_eq_true rfl) ?_
  intro p e s m below meth c ls hx hb hml hr hlk hown hw hK hT hP hl
  have hown : s.vm.findClass "CronFinder$Dates" = some m.cls := hown
  have hl : lv_has ls 1 [(0, .int (iI (mo)))] := hl
  refine lv_iload_n hx hb zd_D_lengthOfMonth_0 rfl (lv_at hl 0 rfl) ?_
  refine zi_iconst hx hb zd_D_lengthOfMonth_1 ?_
  refine zi_iadd hx hb zd_D_lengthOfMonth_2 ?_
  refine zk_S (As := [.int (iI (mo + 1))]) (own := "CronFinder$Dates") (nL := 1) (rest := []) hx hb hml hown hw (c_D_startOfMonth l g t (mo + 1) (by omega)) zw_3_41 zw_3_42 zw_1_22 zw_3_43 (np := 1) (by decide +kernel) rfl (by decide) (zSd_mv t _) hK hT (hP.sub (ws' := []) [] rfl) hl.1 rfl (Nat.le_of_ble_eq_true rfl) (by decide) zd_D_lengthOfMonth_3 ?_
  have hq3 := dM0_rg (m := mo + 1) (by omega)
  refine lv_iload_n hx hb zd_D_lengthOfMonth_6 rfl (lv_at hl 0 rfl) ?_
  refine zk_S (As := [.int (iI (mo))]) (own := "CronFinder$Dates") (nL := 1) (rest := [.int (iI (dM0 (mo + 1)))]) hx hb hml hown hw (c_D_startOfMonth l g t (mo) (by omega)) zw_3_41 zw_3_42 zw_1_22 zw_3_43 (np := 1) (by decide +kernel) rfl (by decide) (zSd_mv t _) hK hT (hP.sub (ws' := []) [] rfl) hl.1 rfl (Nat.le_of_ble_eq_true rfl) (by decide) zd_D_lengthOfMonth_7 ?_
  have hq7 := dM0_rg (m := mo) (by omega)
  refine zi_isub hx hb zd_D_lengthOfMonth_10 ?_
  refine zi_as (dM0 (mo + 1) - dM0 mo) (rfl) ?_
  exact zs_iret hx hb hr hlk zd_D_lengthOfMonth_11
set_option maxHeartbeats 4000000 in
set_option maxRecDepth 100000 in
theorem c_D_yearOf (l : Launch) (g : zGl) (d y : Int) (hd : 0 ≤ d ∧ d < 1000000) (hy : 1970 ≤ y ∧ y ≤ 2299 ∧ dY0 y ≤ d ∧ d < dY0 (y + 1)) : zSi l zy_D_yearOf zc_D_yearOf 2 (some .int) ({ frames := 1, cells := 0, slots := 0, locals := 22 }) g zN [.int (iI (d))] [] (some (.int (iI (y)))) := by
  refine zs_open (by decide +kernel) (Nat.le_of_ble_eq_true rfl) ?_
  intro p e s m below meth c ls hx hb hml hr hlk hown hw hK hT hP hl
  have hown : s.vm.findClass "CronFinder$Dates" = some m.cls := hown
  have hl : lv_has ls 2 [(0, .int (iI (d)))] := hl
  refine zi_sipush hx hb zd_D_yearOf_0 (by decide) ?_
  refine lv_iload_n hx hb zd_D_yearOf_3 rfl (lv_at hl 0 rfl) ?_
  refine zi_sipush hx hb zd_D_yearOf_4 (by decide) ?_
  refine zi_idiv hx hb zd_D_yearOf_7 (by omega) ?_
  refine zi_iadd hx hb zd_D_yearOf_8 ?_
  refine lv_istore_n (lv' := [(1, .int (iI (1970 + (d / 366)))), (0, .int (iI (d)))]) hx hb zd_D_yearOf_9 rfl hl (by decide) rfl (fun ls hl => ?_)
  have loop : ∀ (n : Nat) (x : Int) (ls : Array Slot), 1970 ≤ x ∧ x ≤ y → y - x < (n : Int) → lv_has ls 2 [(1, .int (iI (x))), (0, .int (iI (d)))] → W p l e ({ frames := 1, cells := 0, slots := 0, locals := 22 }) s m [.int (iI (d))].toArray below meth c s.heap [] 0 0 (MQ below (zSil (some (.int (iI (y))))) [.int (iI (d))].toArray s 0 0 (fun _ => False)) (F0 m 10 ls []) := by
    intro n
    induction n with
    | zero =>
      intro x ls h1 h2 hl
      exact absurd h2 (by omega)
    | succ n ih =>
      intro x ls h1 h2 hl
      refine lv_iload_n hx hb zd_D_yearOf_10 rfl (lv_at hl 0 rfl) ?_
      refine zi_sipush hx hb zd_D_yearOf_11 (by decide) ?_
      refine zi_icmp_ge (tgt := 33) hx hb zd_D_yearOf_14 (by decide) (by omega) (fun c14 => ?_) (fun c14 => ?_)
      · refine lv_iload_n hx hb zd_D_yearOf_33 rfl (lv_at hl 0 rfl) ?_
        refine zi_as (y) (by have q1 := dY0_le (a := x) (b := y); have q2 := dY0_le (a := x + 1) (b := y); omega) ?_
        exact zs_iret hx hb hr hlk zd_D_yearOf_34
      · refine lv_iload_n hx hb zd_D_yearOf_17 rfl (lv_at hl 0 rfl) ?_
        refine zi_iconst hx hb zd_D_yearOf_18 ?_
        refine zi_iadd hx hb zd_D_yearOf_19 ?_
        refine zk_S (As := [.int (iI (x + 1))]) (own := "CronFinder$Dates") (nL := 2) (rest := []) hx hb hml hown hw (c_D_startOfYear l g (x + 1) (by omega)) zw_3_38 zw_3_39 zw_1_22 zw_3_40 (np := 1) (by decide +kernel) rfl (by decide) zN_mv hK trivial (hP.sub (ws' := []) [] rfl) hl.1 rfl (Nat.le_of_ble_eq_true rfl) (by decide) zd_D_yearOf_20 ?_
        have hq20 := dY0_rg (y := x + 1) (by omega)
        refine lv_iload_n hx hb zd_D_yearOf_23 rfl (lv_at hl 1 rfl) ?_
        refine zi_icmp_gt (tgt := 33) hx hb zd_D_yearOf_24 (by decide) (by omega) (fun c24 => ?_) (fun c24 => ?_)
        · refine lv_iload_n hx hb zd_D_yearOf_33 rfl (lv_at hl 0 rfl) ?_
          refine zi_as (y) (by have q1 := dY0_le (a := x) (b := y); have q2 := dY0_le (a := x + 1) (b := y); omega) ?_
          exact zs_iret hx hb hr hlk zd_D_yearOf_34
        · refine lv_iinc (v := iI (x + 1)) (lv' := [(1, .int (iI (x + 1))), (0, .int (iI (d)))]) hx hb zd_D_yearOf_27 hl (k := 0) rfl (iI_add _ _) (by decide) rfl (fun ls hl => ?_)
          refine lv_goto (tgt := 10) hx hb zd_D_yearOf_30 (by decide) ?_
          exact ih (x + 1) ls ⟨by omega, by have q2 := dY0_le (a := y + 1) (b := x + 1); omega⟩ (by omega) (lv_sub hl [0, 1] rfl)
  exact loop 400 (1970 + d / 366) ls ⟨by omega, by have q := hy.2.2.2; unfold dY0 at q; omega⟩ (by omega) (lv_sub hl [0, 1] rfl)
set_option maxHeartbeats 4000000 in
set_option maxRecDepth 100000 in
theorem c_D_monthOf (l : Launch) (g : zGl) (t : Nat) (d mo : Int) (hd : 0 ≤ d ∧ d < 120530) (hm : 0 ≤ mo ∧ mo < 3960 ∧ dM0 mo ≤ d ∧ d < dM0 (mo + 1)) : zSi l zy_D_monthOf zc_D_monthOf 3 (some .int) ({ frames := 2, cells := 0, slots := 0, locals := 45 }) g (zSd t (fun _ => False)) [.int (iI (d))] [] (some (.int (iI (mo)))) := by
  refine zs_open (by decide +kernel) (Nat.le_of_ble_eq_true rfl) ?_
  intro p e s m below meth c ls hx hb hml hr hlk hown hw hK hT hP hl
  have hown : s.vm.findClass "CronFinder$Dates" = some m.cls := hown
  have hl : lv_has ls 3 [(0, .int (iI (d)))] := hl
  refine lv_iload_n hx hb zd_D_monthOf_0 rfl (lv_at hl 0 rfl) ?_
  refine zk_S (As := [.int (iI (d))]) (own := "CronFinder$Dates") (nL := 3) (rest := []) hx hb hml hown hw (c_D_yearOf l g (d) (1970 + mo / 12) (by omega) ⟨by omega, by omega, (dMon_y hm.2.2.1 hm.2.2.2).1, (dMon_y hm.2.2.1 hm.2.2.2).2⟩) zw_3_35 zw_3_36 zw_1_22 zw_3_37 (np := 1) (by decide +kernel) rfl (by decide) zN_mv hK trivial (hP.sub (ws' := []) [] rfl) hl.1 rfl (Nat.le_of_ble_eq_true rfl) (by decide) zd_D_monthOf_1 ?_
  refine zi_sipush hx hb zd_D_monthOf_4 (by decide) ?_
  refine zi_isub hx hb zd_D_monthOf_7 ?_
  refine zi_bipush hx hb zd_D_monthOf_8 (by decide) ?_
  refine zi_imul hx hb zd_D_monthOf_10 ?_
  refine lv_istore_n (lv' := [(1, .int (iI (((1970 + mo / 12) - 1970) * 12))), (0, .int (iI (d)))]) hx hb zd_D_monthOf_11 rfl hl (by decide) rfl (fun ls hl => ?_)
  refine zi_iconst hx hb zd_D_monthOf_12 ?_
  refine lv_istore_n (lv' := [(2, .int (iI (0))), (1, .int (iI (((1970 + mo / 12) - 1970) * 12))), (0, .int (iI (d)))]) hx hb zd_D_monthOf_13 rfl hl (by decide) rfl (fun ls hl => ?_)
  have loop : ∀ (n : Nat) (k x : Int) (ls : Array Slot), 0 ≤ k ∧ x = 12 * (mo / 12) + k ∧ x ≤ mo → 11 - k < (n : Int) → lv_has ls 3 [(2, .int (iI (k))), (1, .int (iI (x))), (0, .int (iI (d)))] → W p l e ({ frames := 2, cells := 0, slots := 0, locals := 45 }) s m [.int (iI (d))].toArray below meth c s.heap [] 0 0 (MQ below (zSil (some (.int (iI (mo))))) [.int (iI (d))].toArray s 0 0 (fun _ => False)) (F0 m 14 ls []) := by
    intro n
    induction n with
    | zero =>
      intro k x ls h1 h2 hl
      exact absurd h2 (by omega)
    | succ n ih =>
      intro k x ls h1 h2 hl
      refine lv_iload_n hx hb zd_D_monthOf_14 rfl (lv_at hl 0 rfl) ?_
      refine zi_bipush hx hb zd_D_monthOf_15 (by decide) ?_
      refine zi_icmp_ge (tgt := 39) hx hb zd_D_monthOf_17 (by decide) (by omega) (fun c17 => ?_) (fun c17 => ?_)
      · refine lv_iload_n hx hb zd_D_monthOf_39 rfl (lv_at hl 1 rfl) ?_
        refine zi_as (mo) (by have q1 := dM0_le (a := x + 1) (b := mo); omega) ?_
        exact zs_iret hx hb hr hlk zd_D_monthOf_40
      · refine lv_iload_n hx hb zd_D_monthOf_20 rfl (lv_at hl 1 rfl) ?_
        refine zi_iconst hx hb zd_D_monthOf_21 ?_
        refine zi_iadd hx hb zd_D_monthOf_22 ?_
        refine zk_S (As := [.int (iI (x + 1))]) (own := "CronFinder$Dates") (nL := 3) (rest := []) hx hb hml hown hw (c_D_startOfMonth l g t (x + 1) (by omega)) zw_3_41 zw_3_42 zw_1_22 zw_3_43 (np := 1) (by decide +kernel) rfl (by decide) (zSd_mv t _) hK hT (hP.sub (ws' := []) [] rfl) hl.1 rfl (Nat.le_of_ble_eq_true rfl) (by decide) zd_D_monthOf_23 ?_
        have hq23 := dM0_rg (m := x + 1) (by omega)
        refine lv_iload_n hx hb zd_D_monthOf_26 rfl (lv_at hl 2 rfl) ?_
        refine zi_icmp_gt (tgt := 39) hx hb zd_D_monthOf_27 (by decide) (by omega) (fun c27 => ?_) (fun c27 => ?_)
        · refine lv_iload_n hx hb zd_D_monthOf_39 rfl (lv_at hl 1 rfl) ?_
          refine zi_as (mo) (by have q1 := dM0_le (a := x + 1) (b := mo); omega) ?_
          exact zs_iret hx hb hr hlk zd_D_monthOf_40
        · refine lv_iinc (v := iI (x + 1)) (lv' := [(1, .int (iI (x + 1))), (2, .int (iI (k))), (0, .int (iI (d)))]) hx hb zd_D_monthOf_30 hl (k := 1) rfl (iI_add _ _) (by decide) rfl (fun ls hl => ?_)
          refine lv_iinc (v := iI (k + 1)) (lv' := [(2, .int (iI (k + 1))), (1, .int (iI (x + 1))), (0, .int (iI (d)))]) hx hb zd_D_monthOf_33 hl (k := 1) rfl (iI_add _ _) (by decide) rfl (fun ls hl => ?_)
          refine lv_goto (tgt := 14) hx hb zd_D_monthOf_36 (by decide) ?_
          exact ih (k + 1) (x + 1) ls ⟨by omega, by omega, by have q2 := dM0_le (a := mo + 1) (b := x + 1); omega⟩ (by omega) (lv_sub hl [0, 1, 2] rfl)
  exact loop 12 0 ((1970 + mo / 12 - 1970) * 12) ls ⟨by omega, by omega, by omega⟩ (by omega) (lv_sub hl [0, 1, 2] rfl)
