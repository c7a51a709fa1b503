/-! CronFinder: what throws nothing, of end, feed, checkTime, next, last, later, holiday, is -/
theorem zd_F_end_0 : decode zc_F_end 0 = .ok (.iload_n 1, 1) := by decide +kernel
theorem zd_F_end_1 : decode zc_F_end 1 = .ok (.ifCond .lt 11, 3) := by decide +kernel
theorem zd_F_end_4 : decode zc_F_end 4 = .ok (.iload_n 1, 1) := by decide +kernel
theorem zd_F_end_5 : decode zc_F_end 5 = .ok (.aload_n 0, 1) := by decide +kernel
theorem zd_F_end_6 : decode zc_F_end 6 = .ok (.getfield 13, 3) := by decide +kernel
theorem zd_F_end_9 : decode zc_F_end 9 = .ok (.if_icmp .le 13, 3) := by decide +kernel
theorem zd_F_end_12 : decode zc_F_end 12 = .ok (.new 49, 3) := by decide +kernel
theorem zd_F_end_15 : decode zc_F_end 15 = .ok (.dup, 1) := by decide +kernel
theorem zd_F_end_16 : decode zc_F_end 16 = .ok (.ldc 51, 2) := by decide +kernel
theorem zd_F_end_18 : decode zc_F_end 18 = .ok (.invokespecial 53, 3) := by decide +kernel
theorem zd_F_end_21 : decode zc_F_end 21 = .ok (.athrow, 1) := by decide +kernel
theorem zd_F_end_22 : decode zc_F_end 22 = .ok (.aload_n 0, 1) := by decide +kernel
theorem zd_F_end_23 : decode zc_F_end 23 = .ok (.iload_n 1, 1) := by decide +kernel
theorem zd_F_end_24 : decode zc_F_end 24 = .ok (.putfield 13, 3) := by decide +kernel
theorem zd_F_end_27 : decode zc_F_end 27 = .ok (.iload_n 1, 1) := by decide +kernel
theorem zd_F_end_28 : decode zc_F_end 28 = .ok (.ireturn, 1) := by decide +kernel
theorem zd_F_feed_0 : decode zc_F_feed 0 = .ok (.aload_n 0, 1) := by decide +kernel
theorem zd_F_feed_1 : decode zc_F_feed 1 = .ok (.getfield 13, 3) := by decide +kernel
theorem zd_F_feed_4 : decode zc_F_feed 4 = .ok (.bipush 20, 2) := by decide +kernel
theorem zd_F_feed_6 : decode zc_F_feed 6 = .ok (.iadd, 1) := by decide +kernel
theorem zd_F_feed_7 : decode zc_F_feed 7 = .ok (.sipush 400, 3) := by decide +kernel
theorem zd_F_feed_10 : decode zc_F_feed 10 = .ok (.if_icmp .le 13, 3) := by decide +kernel
theorem zd_F_feed_13 : decode zc_F_feed 13 = .ok (.new 39, 3) := by decide +kernel
theorem zd_F_feed_16 : decode zc_F_feed 16 = .ok (.dup, 1) := by decide +kernel
theorem zd_F_feed_17 : decode zc_F_feed 17 = .ok (.ldc 41, 2) := by decide +kernel
theorem zd_F_feed_19 : decode zc_F_feed 19 = .ok (.invokespecial 43, 3) := by decide +kernel
theorem zd_F_feed_22 : decode zc_F_feed 22 = .ok (.athrow, 1) := by decide +kernel
theorem zd_F_feed_23 : decode zc_F_feed 23 = .ok (.aload_n 0, 1) := by decide +kernel
theorem zd_F_feed_24 : decode zc_F_feed 24 = .ok (.iload_n 1, 1) := by decide +kernel
theorem zd_F_feed_25 : decode zc_F_feed 25 = .ok (.invokevirtual 46, 3) := by decide +kernel
theorem zd_F_feed_28 : decode zc_F_feed 28 = .ok (.aload_n 0, 1) := by decide +kernel
theorem zd_F_feed_29 : decode zc_F_feed 29 = .ok (.iload_n 2, 1) := by decide +kernel
theorem zd_F_feed_30 : decode zc_F_feed 30 = .ok (.invokevirtual 46, 3) := by decide +kernel
theorem zd_F_feed_33 : decode zc_F_feed 33 = .ok (.aload_n 0, 1) := by decide +kernel
theorem zd_F_feed_34 : decode zc_F_feed 34 = .ok (.iload_n 3, 1) := by decide +kernel
theorem zd_F_feed_35 : decode zc_F_feed 35 = .ok (.invokevirtual 46, 3) := by decide +kernel
theorem zd_F_feed_38 : decode zc_F_feed 38 = .ok (.aload_n 0, 1) := by decide +kernel
theorem zd_F_feed_39 : decode zc_F_feed 39 = .ok (.iload 4, 2) := by decide +kernel
theorem zd_F_feed_41 : decode zc_F_feed 41 = .ok (.invokevirtual 46, 3) := by decide +kernel
theorem zd_F_feed_44 : decode zc_F_feed 44 = .ok (.aload_n 0, 1) := by decide +kernel
theorem zd_F_feed_45 : decode zc_F_feed 45 = .ok (.iload 5, 2) := by decide +kernel
theorem zd_F_feed_47 : decode zc_F_feed 47 = .ok (.invokevirtual 46, 3) := by decide +kernel
theorem zd_F_feed_50 : decode zc_F_feed 50 = .ok (.aload_n 0, 1) := by decide +kernel
theorem zd_F_feed_51 : decode zc_F_feed 51 = .ok (.getfield 13, 3) := by decide +kernel
theorem zd_F_feed_54 : decode zc_F_feed 54 = .ok (.ireturn, 1) := by decide +kernel
theorem zd_F_checkTime_0 : decode zc_F_checkTime 0 = .ok (.lload_n 1, 1) := by decide +kernel
theorem zd_F_checkTime_1 : decode zc_F_checkTime 1 = .ok (.lconst 0, 1) := by decide +kernel
theorem zd_F_checkTime_2 : decode zc_F_checkTime 2 = .ok (.lcmp, 1) := by decide +kernel
theorem zd_F_checkTime_3 : decode zc_F_checkTime 3 = .ok (.ifCond .lt 11, 3) := by decide +kernel
theorem zd_F_checkTime_6 : decode zc_F_checkTime 6 = .ok (.lload_n 1, 1) := by decide +kernel
theorem zd_F_checkTime_7 : decode zc_F_checkTime 7 = .ok (.ldc2_w 110, 3) := by decide +kernel
theorem zd_F_checkTime_10 : decode zc_F_checkTime 10 = .ok (.lcmp, 1) := by decide +kernel
theorem zd_F_checkTime_11 : decode zc_F_checkTime 11 = .ok (.ifCond .le 13, 3) := by decide +kernel
theorem zd_F_checkTime_14 : decode zc_F_checkTime 14 = .ok (.new 49, 3) := by decide +kernel
theorem zd_F_checkTime_17 : decode zc_F_checkTime 17 = .ok (.dup, 1) := by decide +kernel
theorem zd_F_checkTime_18 : decode zc_F_checkTime 18 = .ok (.ldc 112, 2) := by decide +kernel
theorem zd_F_checkTime_20 : decode zc_F_checkTime 20 = .ok (.invokespecial 53, 3) := by decide +kernel
theorem zd_F_checkTime_23 : decode zc_F_checkTime 23 = .ok (.athrow, 1) := by decide +kernel
theorem zd_F_checkTime_24 : decode zc_F_checkTime 24 = .ok (.return_, 1) := by decide +kernel
theorem zd_F_next_0 : decode zc_F_next 0 = .ok (.aload_n 0, 1) := by decide +kernel
theorem zd_F_next_1 : decode zc_F_next 1 = .ok (.lload_n 1, 1) := by decide +kernel
theorem zd_F_next_2 : decode zc_F_next 2 = .ok (.invokevirtual 83, 3) := by decide +kernel
theorem zd_F_next_5 : decode zc_F_next 5 = .ok (.aload_n 0, 1) := by decide +kernel
theorem zd_F_next_6 : decode zc_F_next 6 = .ok (.lload_n 1, 1) := by decide +kernel
theorem zd_F_next_7 : decode zc_F_next 7 = .ok (.invokevirtual 87, 3) := by decide +kernel
theorem zd_F_next_10 : decode zc_F_next 10 = .ok (.lreturn, 1) := by decide +kernel
theorem zd_F_last_0 : decode zc_F_last 0 = .ok (.aload_n 0, 1) := by decide +kernel
theorem zd_F_last_1 : decode zc_F_last 1 = .ok (.lload_n 1, 1) := by decide +kernel
theorem zd_F_last_2 : decode zc_F_last 2 = .ok (.invokevirtual 83, 3) := by decide +kernel
theorem zd_F_last_5 : decode zc_F_last 5 = .ok (.aload_n 0, 1) := by decide +kernel
theorem zd_F_last_6 : decode zc_F_last 6 = .ok (.lload_n 1, 1) := by decide +kernel
theorem zd_F_last_7 : decode zc_F_last 7 = .ok (.invokevirtual 91, 3) := by decide +kernel
theorem zd_F_last_10 : decode zc_F_last 10 = .ok (.lreturn, 1) := by decide +kernel
theorem zd_F_later_0 : decode zc_F_later 0 = .ok (.aload_n 0, 1) := by decide +kernel
theorem zd_F_later_1 : decode zc_F_later 1 = .ok (.lload_n 1, 1) := by decide +kernel
theorem zd_F_later_2 : decode zc_F_later 2 = .ok (.invokevirtual 83, 3) := by decide +kernel
theorem zd_F_later_5 : decode zc_F_later 5 = .ok (.iload_n 3, 1) := by decide +kernel
theorem zd_F_later_6 : decode zc_F_later 6 = .ok (.iconst 1, 1) := by decide +kernel
theorem zd_F_later_7 : decode zc_F_later 7 = .ok (.if_icmp .lt 9, 3) := by decide +kernel
theorem zd_F_later_10 : decode zc_F_later 10 = .ok (.iload_n 3, 1) := by decide +kernel
theorem zd_F_later_11 : decode zc_F_later 11 = .ok (.bipush 100, 2) := by decide +kernel
theorem zd_F_later_13 : decode zc_F_later 13 = .ok (.if_icmp .le 13, 3) := by decide +kernel
theorem zd_F_later_16 : decode zc_F_later 16 = .ok (.new 49, 3) := by decide +kernel
theorem zd_F_later_19 : decode zc_F_later 19 = .ok (.dup, 1) := by decide +kernel
theorem zd_F_later_20 : decode zc_F_later 20 = .ok (.ldc 94, 2) := by decide +kernel
theorem zd_F_later_22 : decode zc_F_later 22 = .ok (.invokespecial 53, 3) := by decide +kernel
theorem zd_F_later_25 : decode zc_F_later 25 = .ok (.athrow, 1) := by decide +kernel
theorem zd_F_later_26 : decode zc_F_later 26 = .ok (.lload_n 1, 1) := by decide +kernel
theorem zd_F_later_27 : decode zc_F_later 27 = .ok (.lstore 4, 2) := by decide +kernel
theorem zd_F_later_29 : decode zc_F_later 29 = .ok (.iconst 0, 1) := by decide +kernel
theorem zd_F_later_30 : decode zc_F_later 30 = .ok (.istore 6, 2) := by decide +kernel
theorem zd_F_later_32 : decode zc_F_later 32 = .ok (.iload 6, 2) := by decide +kernel
theorem zd_F_later_34 : decode zc_F_later 34 = .ok (.iload_n 3, 1) := by decide +kernel
theorem zd_F_later_35 : decode zc_F_later 35 = .ok (.if_icmp .ge 26, 3) := by decide +kernel
theorem zd_F_later_38 : decode zc_F_later 38 = .ok (.lload 4, 2) := by decide +kernel
theorem zd_F_later_40 : decode zc_F_later 40 = .ok (.ldc2_w 96, 3) := by decide +kernel
theorem zd_F_later_43 : decode zc_F_later 43 = .ok (.lcmp, 1) := by decide +kernel
theorem zd_F_later_44 : decode zc_F_later 44 = .ok (.ifCond .eq 17, 3) := by decide +kernel
theorem zd_F_later_47 : decode zc_F_later 47 = .ok (.aload_n 0, 1) := by decide +kernel
theorem zd_F_later_48 : decode zc_F_later 48 = .ok (.lload 4, 2) := by decide +kernel
theorem zd_F_later_50 : decode zc_F_later 50 = .ok (.invokevirtual 87, 3) := by decide +kernel
theorem zd_F_later_53 : decode zc_F_later 53 = .ok (.lstore 4, 2) := by decide +kernel
theorem zd_F_later_55 : decode zc_F_later 55 = .ok (.iinc 6 1, 3) := by decide +kernel
theorem zd_F_later_58 : decode zc_F_later 58 = .ok (.goto (-26), 3) := by decide +kernel
theorem zd_F_later_61 : decode zc_F_later 61 = .ok (.lload 4, 2) := by decide +kernel
theorem zd_F_later_63 : decode zc_F_later 63 = .ok (.lreturn, 1) := by decide +kernel
theorem zd_F_holiday_0 : decode zc_F_holiday 0 = .ok (.iload_n 1, 1) := by decide +kernel
theorem zd_F_holiday_1 : decode zc_F_holiday 1 = .ok (.ifCond .lt 9, 3) := by decide +kernel
theorem zd_F_holiday_4 : decode zc_F_holiday 4 = .ok (.iload_n 1, 1) := by decide +kernel
theorem zd_F_holiday_5 : decode zc_F_holiday 5 = .ok (.ldc 68, 2) := by decide +kernel
theorem zd_F_holiday_7 : decode zc_F_holiday 7 = .ok (.if_icmp .le 13, 3) := by decide +kernel
theorem zd_F_holiday_10 : decode zc_F_holiday 10 = .ok (.new 49, 3) := by decide +kernel
theorem zd_F_holiday_13 : decode zc_F_holiday 13 = .ok (.dup, 1) := by decide +kernel
theorem zd_F_holiday_14 : decode zc_F_holiday 14 = .ok (.ldc 69, 2) := by decide +kernel
theorem zd_F_holiday_16 : decode zc_F_holiday 16 = .ok (.invokespecial 53, 3) := by decide +kernel
theorem zd_F_holiday_19 : decode zc_F_holiday 19 = .ok (.athrow, 1) := by decide +kernel
theorem zd_F_holiday_20 : decode zc_F_holiday 20 = .ok (.iload_n 2, 1) := by decide +kernel
theorem zd_F_holiday_21 : decode zc_F_holiday 21 = .ok (.ifCond .ne 14, 3) := by decide +kernel
theorem zd_F_holiday_24 : decode zc_F_holiday 24 = .ok (.aload_n 0, 1) := by decide +kernel
theorem zd_F_holiday_25 : decode zc_F_holiday 25 = .ok (.getfield 35, 3) := by decide +kernel
theorem zd_F_holiday_28 : decode zc_F_holiday 28 = .ok (.iload_n 1, 1) := by decide +kernel
theorem zd_F_holiday_29 : decode zc_F_holiday 29 = .ok (.invokevirtual 71, 3) := by decide +kernel
theorem zd_F_holiday_32 : decode zc_F_holiday 32 = .ok (.goto 24, 3) := by decide +kernel
theorem zd_F_holiday_35 : decode zc_F_holiday 35 = .ok (.aload_n 0, 1) := by decide +kernel
theorem zd_F_holiday_36 : decode zc_F_holiday 36 = .ok (.getfield 35, 3) := by decide +kernel
theorem zd_F_holiday_39 : decode zc_F_holiday 39 = .ok (.iload_n 1, 1) := by decide +kernel
theorem zd_F_holiday_40 : decode zc_F_holiday 40 = .ok (.invokevirtual 74, 3) := by decide +kernel
theorem zd_F_holiday_43 : decode zc_F_holiday 43 = .ok (.ifCond .ne 13, 3) := by decide +kernel
theorem zd_F_holiday_46 : decode zc_F_holiday 46 = .ok (.new 39, 3) := by decide +kernel
theorem zd_F_holiday_49 : decode zc_F_holiday 49 = .ok (.dup, 1) := by decide +kernel
theorem zd_F_holiday_50 : decode zc_F_holiday 50 = .ok (.ldc 78, 2) := by decide +kernel
theorem zd_F_holiday_52 : decode zc_F_holiday 52 = .ok (.invokespecial 43, 3) := by decide +kernel
theorem zd_F_holiday_55 : decode zc_F_holiday 55 = .ok (.athrow, 1) := by decide +kernel
theorem zd_F_holiday_56 : decode zc_F_holiday 56 = .ok (.aload_n 0, 1) := by decide +kernel
theorem zd_F_holiday_57 : decode zc_F_holiday 57 = .ok (.getfield 35, 3) := by decide +kernel
theorem zd_F_holiday_60 : decode zc_F_holiday 60 = .ok (.invokevirtual 80, 3) := by decide +kernel
theorem zd_F_holiday_63 : decode zc_F_holiday 63 = .ok (.ireturn, 1) := by decide +kernel
theorem zd_F_is_0 : decode zc_F_is 0 = .ok (.aload_n 0, 1) := by decide +kernel
theorem zd_F_is_1 : decode zc_F_is 1 = .ok (.lload_n 1, 1) := by decide +kernel
theorem zd_F_is_2 : decode zc_F_is 2 = .ok (.invokevirtual 83, 3) := by decide +kernel
theorem zd_F_is_5 : decode zc_F_is 5 = .ok (.lload_n 1, 1) := by decide +kernel
theorem zd_F_is_6 : decode zc_F_is 6 = .ok (.ldc2_w 98, 3) := by decide +kernel
theorem zd_F_is_9 : decode zc_F_is 9 = .ok (.ldiv, 1) := by decide +kernel
theorem zd_F_is_10 : decode zc_F_is 10 = .ok (.l2i, 1) := by decide +kernel
theorem zd_F_is_11 : decode zc_F_is 11 = .ok (.istore_n 3, 1) := by decide +kernel
theorem zd_F_is_12 : decode zc_F_is 12 = .ok (.lload_n 1, 1) := by decide +kernel
theorem zd_F_is_13 : decode zc_F_is 13 = .ok (.ldc2_w 98, 3) := by decide +kernel
theorem zd_F_is_16 : decode zc_F_is 16 = .ok (.lrem, 1) := by decide +kernel
theorem zd_F_is_17 : decode zc_F_is 17 = .ok (.l2i, 1) := by decide +kernel
theorem zd_F_is_18 : decode zc_F_is 18 = .ok (.istore 4, 2) := by decide +kernel
theorem zd_F_is_20 : decode zc_F_is 20 = .ok (.aload_n 0, 1) := by decide +kernel
theorem zd_F_is_21 : decode zc_F_is 21 = .ok (.getfield 20, 3) := by decide +kernel
theorem zd_F_is_24 : decode zc_F_is 24 = .ok (.iload_n 3, 1) := by decide +kernel
theorem zd_F_is_25 : decode zc_F_is 25 = .ok (.invokevirtual 100, 3) := by decide +kernel
theorem zd_F_is_28 : decode zc_F_is 28 = .ok (.ifCond .eq 32, 3) := by decide +kernel
theorem zd_F_is_31 : decode zc_F_is 31 = .ok (.aload_n 0, 1) := by decide +kernel
theorem zd_F_is_32 : decode zc_F_is 32 = .ok (.getfield 35, 3) := by decide +kernel
theorem zd_F_is_35 : decode zc_F_is 35 = .ok (.iload_n 3, 1) := by decide +kernel
theorem zd_F_is_36 : decode zc_F_is 36 = .ok (.invokevirtual 103, 3) := by decide +kernel
theorem zd_F_is_39 : decode zc_F_is 39 = .ok (.ifCond .ne 21, 3) := by decide +kernel
theorem zd_F_is_42 : decode zc_F_is 42 = .ok (.aload_n 0, 1) := by decide +kernel
theorem zd_F_is_43 : decode zc_F_is 43 = .ok (.getfield 20, 3) := by decide +kernel
theorem zd_F_is_46 : decode zc_F_is 46 = .ok (.iload 4, 2) := by decide +kernel
theorem zd_F_is_48 : decode zc_F_is 48 = .ok (.invokevirtual 106, 3) := by decide +kernel
theorem zd_F_is_51 : decode zc_F_is 51 = .ok (.iload 4, 2) := by decide +kernel
theorem zd_F_is_53 : decode zc_F_is 53 = .ok (.if_icmp .ne 7, 3) := by decide +kernel
theorem zd_F_is_56 : decode zc_F_is 56 = .ok (.iconst 1, 1) := by decide +kernel
theorem zd_F_is_57 : decode zc_F_is 57 = .ok (.goto 4, 3) := by decide +kernel
theorem zd_F_is_60 : decode zc_F_is 60 = .ok (.iconst 0, 1) := by decide +kernel
theorem zd_F_is_61 : decode zc_F_is 61 = .ok (.ireturn, 1) := by decide +kernel
set_option maxHeartbeats 4000000 in
set_option maxRecDepth 100000 in
theorem c_F_end (l : Launch) (g : zGl) (fq tp : Nat) (tl : Int) (pq sq : Nat) (br : Int) (hq : Nat) (n : Int) (hn : 0 ≤ n ∧ n ≤ tl ∧ tl ≤ 400) : zWi l zy_F_end zc_F_end 2 (some .int) ({ frames := 5, cells := 0, slots := 0, locals := 124 }) g (fun _ => zN) [.ref (fq), .int (iI (n))] [(fq, .inr (0, [.ref (tp), .int (iI (tl)), .ref (pq), .ref (sq), .int (iI (br)), .ref (hq)]))] (some (.int (iI (n)))) [(fq, .inr (0, [.ref (tp), .int (iI (n)), .ref (pq), .ref (sq), .int (iI (br)), .ref (hq)]))] 0 0 := by
  refine zw_open (by decide +kernel) (Nat.le_of_ble_eq_true rfl) ?_
  intro p e s m below meth c ls A hx hb hml hr hlk hown hin hw hK hT hP hD hS hA hl
  have hown : s.vm.findClass "CronFinder" = some m.cls := hown
  have hl : lv_has ls 2 [(0, .ref (fq)), (1, .int (iI (n)))] := hl
  refine lv_iload_n hx hb zd_F_end_0 rfl (lv_at hl 1 rfl) ?_
  refine zi_if_lt (tgt := 12) hx hb zd_F_end_1 (by decide) (by omega) (fun c1 => ?_) (fun c1 => ?_)
  · omega
  · refine lv_iload_n hx hb zd_F_end_4 rfl (lv_at hl 1 rfl) ?_
    refine lv_aload_n hx hb zd_F_end_5 rfl (lv_at hl 0 rfl) ?_
    refine va_get (D := g.1) (ci := 0) (v := .int (iI (tl))) (C := zR_F) (T := zT_F) (N := 6) hx hb hw zin_F hown hK hP 0 rfl rfl 1 (by decide) (hw _ zw_1_107) (fun _ h9 => h9) rfl zd_F_end_6 ?_
    refine zi_icmp_le (tgt := 22) hx hb zd_F_end_9 (by decide) (by omega) (fun c9 => ?_) (fun c9 => ?_)
    · refine lv_aload_n hx hb zd_F_end_22 rfl (lv_at hl 0 rfl) ?_
      refine lv_iload_n hx hb zd_F_end_23 rfl (lv_at hl 1 rfl) ?_
      refine va_put (D := g.1) (ci := 0) (v := .int (iI (n))) (ty := .int) (C := zR_F) (T := zT_F) (N := 6) hx hb hw zin_F zt_F zto_F zn_F hown hK hP hD hS 0 rfl rfl 1 (by decide) (hw _ zw_1_107) (fun _ h9 => h9) rfl  (by decide +kernel) rfl rfl (Nat.le_of_ble_eq_true rfl) zd_F_end_24 (fun H locs hP hD hS => ?_)
      have hP : va_P g.1 zCl [(fq, .inr (0, [.ref (tp), .int (iI (n)), .ref (pq), .ref (sq), .int (iI (br)), .ref (hq)]))] H := hP
      have hD : va_D A [(fq, .inr (0, [.ref (tp), .int (iI (n)), .ref (pq), .ref (sq), .int (iI (br)), .ref (hq)]))] := hD
      refine lv_iload_n hx hb zd_F_end_27 rfl (lv_at hl 1 rfl) ?_
      exact zw_iret hx hb hr hlk (ws := [(fq, .inr (0, [.ref (tp), .int (iI (n)), .ref (pq), .ref (sq), .int (iI (br)), .ref (hq)]))]) hP hS zd_F_end_28
    · omega
def zP4 (f : Nat → Int) (tl v : Int) : Nat → Int := zu (zu (zu (zu f (tl).toNat (zBy v 24)) (tl + 1).toNat (zBy v 16)) (tl + 1 + 1).toNat (zBy v 8)) (tl + 1 + 1 + 1).toNat (zBy v 0)
def zP20 (f : Nat → Int) (tl v1 v2 v3 v4 v5 : Int) : Nat → Int := zP4 (zP4 (zP4 (zP4 (zP4 f tl v1) (tl + 4) v2) (tl + 4 + 4) v3) (tl + 4 + 4 + 4) v4) (tl + 4 + 4 + 4 + 4) v5
theorem c_F_put4 (l : Launch) (g : zGl) (fq tp : Nat) (tl : Int) (pq sq : Nat) (br : Int) (hq : Nat) (tf : Nat → Int) (v : Int) (htl : 0 ≤ tl ∧ tl ≤ 396) : zWi l zy_F_putBytes zc_F_putBytes 3 none ({ frames := 0, cells := 0, slots := 0, locals := 0 }) g (fun _ => zN) [.ref fq, .int (iI v)] [(fq, .inr (0, [.ref (tp), .int (iI (tl)), .ref (pq), .ref (sq), .int (iI (br)), .ref (hq)])), (tp, .inl (g.2 2, 400, .inl (zaI tf)))] none [(fq, .inr (0, [.ref (tp), .int (iI (tl + 4)), .ref (pq), .ref (sq), .int (iI (br)), .ref (hq)])), (tp, .inl (g.2 2, 400, .inl (zaI (zP4 tf tl v))))] 0 0 := by
  have h := c_F_putBytes l g fq tp tl pq sq br hq tf v htl
  rw [show tl + 1 + 1 + 1 + 1 = tl + 4 by omega] at h
  exact h
set_option maxHeartbeats 4000000 in
set_option maxRecDepth 100000 in
theorem c_F_feed (l : Launch) (g : zGl) (fq tp : Nat) (tl : Int) (pq sq : Nat) (br : Int) (hq : Nat) (tf : Nat → Int) (v1 v2 v3 v4 v5 : Int) (htl : 0 ≤ tl ∧ tl ≤ 380) : zWi l zy_F_feed zc_F_feed 6 (some .int) ({ frames := 5, cells := 0, slots := 0, locals := 124 }) g (fun _ => zN) [.ref (fq), .int (iI (v1)), .int (iI (v2)), .int (iI (v3)), .int (iI (v4)), .int (iI (v5))] [(fq, .inr (0, [.ref (tp), .int (iI (tl)), .ref (pq), .ref (sq), .int (iI (br)), .ref (hq)])), (tp, .inl (g.2 2, 400, .inl (zaI tf)))] (some (.int (iI (tl + 20)))) [(fq, .inr (0, [.ref (tp), .int (iI (tl + 20)), .ref (pq), .ref (sq), .int (iI (br)), .ref (hq)])), (tp, .inl (g.2 2, 400, .inl (zaI (zP20 tf tl v1 v2 v3 v4 v5))))] 0 0 := by
  refine zw_open (by decide +kernel) (Nat.le_of_ble_eq_true rfl) ?_
  intro p e s m below meth c ls A hx hb hml hr hlk hown hin hw hK hT hP hD hS hA hl
  have hown : s.vm.findClass "CronFinder" = some m.cls := hown
  have hl : lv_has ls 6 [(0, .ref (fq)), (1, .int (iI (v1))), (2, .int (iI (v2))), (3, .int (iI (v3))), (4, .int (iI (v4))), (5, .int (iI (v5)))] := hl
  refine lv_aload_n hx hb zd_F_feed_0 rfl (lv_at hl 0 rfl) ?_
  refine va_get (D := g.1) (ci := 0) (v := .int (iI (tl))) (C := zR_F) (T := zT_F) (N := 6) hx hb hw zin_F hown hK hP 0 rfl rfl 1 (by decide) (hw _ zw_1_107) (fun _ h9 => h9) rfl zd_F_feed_1 ?_
  refine zi_bipush hx hb zd_F_feed_4 (by decide) ?_
  refine zi_iadd hx hb zd_F_feed_6 ?_
  refine zi_sipush hx hb zd_F_feed_7 (by decide) ?_
  refine zi_icmp_le (tgt := 23) hx hb zd_F_feed_10 (by decide) (by omega) (fun c10 => ?_) (fun c10 => ?_)
  · refine lv_aload_n hx hb zd_F_feed_23 rfl (lv_at hl 0 rfl) ?_
    refine lv_iload_n hx hb zd_F_feed_24 rfl (lv_at hl 1 rfl) ?_
    refine zk_W (As := [.int (iI (v1))]) (b := fq) (own := "CronFinder") (nL := 6) (rest := []) hx hb hml hown hw (c_F_put4 l g fq tp (tl) pq sq br hq tf v1 (by omega)) zw_1_205 zw_1_207 zw_0_1 zw_1_1 zw_1_208 (np := 1) (by decide +kernel) rfl (by decide) (fun _ => zN_mv) hK trivial hP hD hS hA [0, 1] rfl (by decide) rfl (va_recv hK hP (ci := 0) (q0 := 0) rfl rfl) hl.1 rfl (Nat.le_of_ble_eq_true rfl) (by decide) zd_F_feed_25 (fun H locs hP hD hS => ?_)
    have hP : va_P g.1 zCl [(fq, .inr (0, [.ref (tp), .int (iI (tl + 4)), .ref (pq), .ref (sq), .int (iI (br)), .ref (hq)])), (tp, .inl (g.2 2, 400, .inl (zaI (zP4 tf tl v1))))] H := hP
    have hD : va_D A [(fq, .inr (0, [.ref (tp), .int (iI (tl + 4)), .ref (pq), .ref (sq), .int (iI (br)), .ref (hq)])), (tp, .inl (g.2 2, 400, .inl (zaI (zP4 tf tl v1))))] := hD
    refine lv_aload_n hx hb zd_F_feed_28 rfl (lv_at hl 0 rfl) ?_
    refine lv_iload_n hx hb zd_F_feed_29 rfl (lv_at hl 2 rfl) ?_
    refine zk_W (As := [.int (iI (v2))]) (b := fq) (own := "CronFinder") (nL := 6) (rest := []) hx hb hml hown hw (c_F_put4 l g fq tp (tl + 4) pq sq br hq (zP4 tf tl v1) v2 (by omega)) zw_1_205 zw_1_207 zw_0_1 zw_1_1 zw_1_208 (np := 1) (by decide +kernel) rfl (by decide) (fun _ => zN_mv) hK trivial hP hD hS hA [0, 1] rfl (by decide) rfl (va_recv hK hP (ci := 0) (q0 := 0) rfl rfl) hl.1 rfl (Nat.le_of_ble_eq_true rfl) (by decide) zd_F_feed_30 (fun H locs hP hD hS => ?_)
    have hP : va_P g.1 zCl [(fq, .inr (0, [.ref (tp), .int (iI (tl + 4 + 4)), .ref (pq), .ref (sq), .int (iI (br)), .ref (hq)])), (tp, .inl (g.2 2, 400, .inl (zaI (zP4 (zP4 tf tl v1) (tl + 4) v2))))] H := hP
    have hD : va_D A [(fq, .inr (0, [.ref (tp), .int (iI (tl + 4 + 4)), .ref (pq), .ref (sq), .int (iI (br)), .ref (hq)])), (tp, .inl (g.2 2, 400, .inl (zaI (zP4 (zP4 tf tl v1) (tl + 4) v2))))] := hD
    refine lv_aload_n hx hb zd_F_feed_33 rfl (lv_at hl 0 rfl) ?_
    refine lv_iload_n hx hb zd_F_feed_34 rfl (lv_at hl 3 rfl) ?_
    refine zk_W (As := [.int (iI (v3))]) (b := fq) (own := "CronFinder") (nL := 6) (rest := []) hx hb hml hown hw (c_F_put4 l g fq tp (tl + 4 + 4) pq sq br hq (zP4 (zP4 tf tl v1) (tl + 4) v2) v3 (by omega)) zw_1_205 zw_1_207 zw_0_1 zw_1_1 zw_1_208 (np := 1) (by decide +kernel) rfl (by decide) (fun _ => zN_mv) hK trivial hP hD hS hA [0, 1] rfl (by decide) rfl (va_recv hK hP (ci := 0) (q0 := 0) rfl rfl) hl.1 rfl (Nat.le_of_ble_eq_true rfl) (by decide) zd_F_feed_35 (fun H locs hP hD hS => ?_)
    have hP : va_P g.1 zCl [(fq, .inr (0, [.ref (tp), .int (iI (tl + 4 + 4 + 4)), .ref (pq), .ref (sq), .int (iI (br)), .ref (hq)])), (tp, .inl (g.2 2, 400, .inl (zaI (zP4 (zP4 (zP4 tf tl v1) (tl + 4) v2) (tl + 4 + 4) v3))))] H := hP
    have hD : va_D A [(fq, .inr (0, [.ref (tp), .int (iI (tl + 4 + 4 + 4)), .ref (pq), .ref (sq), .int (iI (br)), .ref (hq)])), (tp, .inl (g.2 2, 400, .inl (zaI (zP4 (zP4 (zP4 tf tl v1) (tl + 4) v2) (tl + 4 + 4) v3))))] := hD
    refine lv_aload_n hx hb zd_F_feed_38 rfl (lv_at hl 0 rfl) ?_
    refine lv_iload hx hb zd_F_feed_39 (lv_at hl 4 rfl) ?_
    refine zk_W (As := [.int (iI (v4))]) (b := fq) (own := "CronFinder") (nL := 6) (rest := []) hx hb hml hown hw (c_F_put4 l g fq tp (tl + 4 + 4 + 4) pq sq br hq (zP4 (zP4 (zP4 tf tl v1) (tl + 4) v2) (tl + 4 + 4) v3) v4 (by omega)) zw_1_205 zw_1_207 zw_0_1 zw_1_1 zw_1_208 (np := 1) (by decide +kernel) rfl (by decide) (fun _ => zN_mv) hK trivial hP hD hS hA [0, 1] rfl (by decide) rfl (va_recv hK hP (ci := 0) (q0 := 0) rfl rfl) hl.1 rfl (Nat.le_of_ble_eq_true rfl) (by decide) zd_F_feed_41 (fun H locs hP hD hS => ?_)
    have hP : va_P g.1 zCl [(fq, .inr (0, [.ref (tp), .int (iI (tl + 4 + 4 + 4 + 4)), .ref (pq), .ref (sq), .int (iI (br)), .ref (hq)])), (tp, .inl (g.2 2, 400, .inl (zaI (zP4 (zP4 (zP4 (zP4 tf tl v1) (tl + 4) v2) (tl + 4 + 4) v3) (tl + 4 + 4 + 4) v4))))] H := hP
    have hD : va_D A [(fq, .inr (0, [.ref (tp), .int (iI (tl + 4 + 4 + 4 + 4)), .ref (pq), .ref (sq), .int (iI (br)), .ref (hq)])), (tp, .inl (g.2 2, 400, .inl (zaI (zP4 (zP4 (zP4 (zP4 tf tl v1) (tl + 4) v2) (tl + 4 + 4) v3) (tl + 4 + 4 + 4) v4))))] := hD
    refine lv_aload_n hx hb zd_F_feed_44 rfl (lv_at hl 0 rfl) ?_
    refine lv_iload hx hb zd_F_feed_45 (lv_at hl 5 rfl) ?_
    refine zk_W (As := [.int (iI (v5))]) (b := fq) (own := "CronFinder") (nL := 6) (rest := []) hx hb hml hown hw (c_F_put4 l g fq tp (tl + 4 + 4 + 4 + 4) pq sq br hq (zP4 (zP4 (zP4 (zP4 tf tl v1) (tl + 4) v2) (tl + 4 + 4) v3) (tl + 4 + 4 + 4) v4) v5 (by omega)) zw_1_205 zw_1_207 zw_0_1 zw_1_1 zw_1_208 (np := 1) (by decide +kernel) rfl (by decide) (fun _ => zN_mv) hK trivial hP hD hS hA [0, 1] rfl (by decide) rfl (va_recv hK hP (ci := 0) (q0 := 0) rfl rfl) hl.1 rfl (Nat.le_of_ble_eq_true rfl) (by decide) zd_F_feed_47 (fun H locs hP hD hS => ?_)
    have hP : va_P g.1 zCl [(fq, .inr (0, [.ref (tp), .int (iI (tl + 4 + 4 + 4 + 4 + 4)), .ref (pq), .ref (sq), .int (iI (br)), .ref (hq)])), (tp, .inl (g.2 2, 400, .inl (zaI (zP4 (zP4 (zP4 (zP4 (zP4 tf tl v1) (tl + 4) v2) (tl + 4 + 4) v3) (tl + 4 + 4 + 4) v4) (tl + 4 + 4 + 4 + 4) v5))))] H := hP
    have hD : va_D A [(fq, .inr (0, [.ref (tp), .int (iI (tl + 4 + 4 + 4 + 4 + 4)), .ref (pq), .ref (sq), .int (iI (br)), .ref (hq)])), (tp, .inl (g.2 2, 400, .inl (zaI (zP4 (zP4 (zP4 (zP4 (zP4 tf tl v1) (tl + 4) v2) (tl + 4 + 4) v3) (tl + 4 + 4 + 4) v4) (tl + 4 + 4 + 4 + 4) v5))))] := hD
    refine lv_aload_n hx hb zd_F_feed_50 rfl (lv_at hl 0 rfl) ?_
    refine va_get (D := g.1) (ci := 0) (v := .int (iI (tl + 4 + 4 + 4 + 4 + 4))) (C := zR_F) (T := zT_F) (N := 6) hx hb hw zin_F hown hK hP 0 rfl rfl 1 (by decide) (hw _ zw_1_107) (fun _ h9 => h9) rfl zd_F_feed_51 ?_
    refine zi_as (tl + 20) (by omega) ?_
    rw [show tl + 4 + 4 + 4 + 4 + 4 = tl + 20 by omega] at hP
    exact zw_iret hx hb hr hlk (ws := [(fq, .inr (0, [.ref (tp), .int (iI (tl + 20)), .ref (pq), .ref (sq), .int (iI (br)), .ref (hq)])), (tp, .inl (g.2 2, 400, .inl (zaI (zP20 tf tl v1 v2 v3 v4 v5))))]) hP hS zd_F_feed_54
  · omega
set_option maxHeartbeats 4000000 in
set_option maxRecDepth 100000 in
theorem c_F_checkTime (l : Launch) (g : zGl) (fq : Nat) (tm : Int) (hx0 : 0 ≤ tm ∧ tm ≤ 10413791999) : zSi l zy_F_checkTime zc_F_checkTime 3 none ({ frames := 5, cells := 0, slots := 0, locals := 124 }) g zN [.ref (fq), .long (lI (tm))] [] (none) := by
  refine zs_open (by decide +kernel) (Nat.le_of_ble_eq_true rfl) ?_
  intro p e s m below meth c ls hx hb hml hr hlk hown hw hK hT hP hl
  have hown : s.vm.findClass "CronFinder" = some m.cls := hown
  have hl : lv_has ls 3 [(0, .ref (fq)), (1, .long (lI (tm)))] := hl
  refine lv_lload_n hx hb zd_F_checkTime_0 rfl (lv_at hl 1 rfl) ?_
  refine zi_lconst (z := 0) hx hb zd_F_checkTime_1 (by decide) ?_
  refine zl_cmp_lt (tgt := 14) hx hb zd_F_checkTime_2 zd_F_checkTime_3 (by decide) (by omega) (fun c2 => ?_) (fun c2 => ?_)
  · omega
  · refine lv_lload_n hx hb zd_F_checkTime_6 rfl (lv_at hl 1 rfl) ?_
    refine lv_ldc2 hx hb hown (hw _ zw_3_20) zd_F_checkTime_7 ?_
    refine zl_asx _ 10413791999 (by decide) ?_
    refine zl_cmp_le (tgt := 24) hx hb zd_F_checkTime_10 zd_F_checkTime_11 (by decide) (by omega) (fun c10 => ?_) (fun c10 => ?_)
    · exact zs_vret hx hb hr hlk zd_F_checkTime_24
    · omega
set_option maxHeartbeats 4000000 in
set_option maxRecDepth 100000 in
theorem c_F_next (l : Launch) (g : zGl) (fq tp : Nat) (tl : Int) (sq : Nat) (br : Int) (hq ha : Nat) (h : Nat → Int) (cnt : Int) (hol : Int → Bool) (hR : dsR h cnt hol) (pq : Nat) (ra aa : Nat → Nat) (al : Nat → Nat → Bool) (sub od : Int) (bits : Nat → Bool) (t : Nat) (en : Nat → Nat) (tw : Nat) (hs : 0 ≤ sub ∧ sub ≤ 31 ∧ 0 ≤ od ∧ od ≤ 5) (ru : Nat) (hru : ru < 7 ∧ (ru = 3 → 1 ≤ sub)) (hok : pOk al (pDays al bits ru sub od)) (tm rr : Int) (hx0 : 0 ≤ tm ∧ tm ≤ 10413791999) (hj : tNF (fFit (pDays al bits ru sub od) hol) (sOk (al 0) (al 1) (al 2)) tm rr) : zSi l zy_F_next zc_F_next 3 (some .long) ({ frames := 6, cells := 0, slots := 0, locals := 146 }) g (zS3 t en tw (fun _ => False)) [.ref (fq), .long (lI (tm))] [(fq, .inr (0, [.ref (tp), .int (iI (tl)), .ref (pq), .ref (sq), .int (iI (br)), .ref (hq)])), (pq, .inr (3, [.ref (ra 0), .ref (ra 1), .ref (ra 2), .ref (ra 3), .ref (ra 4), .ref (ra 5), .ref (ra 6), .ref (en ru), .int (iI (sub)), .int (iI (od)), .int (zbits (bits))])), (ra 0, .inr (2, [.int (iI (0)), .int (iI (59)), .ref (aa 0)])), (aa 0, .inl (g.2 1, 60, .inl (zaB (al 0)))), (ra 1, .inr (2, [.int (iI (0)), .int (iI (59)), .ref (aa 1)])), (aa 1, .inl (g.2 1, 60, .inl (zaB (al 1)))), (ra 2, .inr (2, [.int (iI (0)), .int (iI (23)), .ref (aa 2)])), (aa 2, .inl (g.2 1, 24, .inl (zaB (al 2)))), (ra 3, .inr (2, [.int (iI (1)), .int (iI (31)), .ref (aa 3)])), (aa 3, .inl (g.2 1, 31, .inl (zaB (al 3)))), (ra 4, .inr (2, [.int (iI (1)), .int (iI (12)), .ref (aa 4)])), (aa 4, .inl (g.2 1, 12, .inl (zaB (al 4)))), (ra 5, .inr (2, [.int (iI (1)), .int (iI (7)), .ref (aa 5)])), (aa 5, .inl (g.2 1, 7, .inl (zaB (al 5)))), (ra 6, .inr (2, [.int (iI (1970)), .int (iI (2299)), .ref (aa 6)])), (aa 6, .inl (g.2 1, 330, .inl (zaB (al 6)))), (hq, .inr (1, [.ref (ha), .int (iI (cnt))])), (ha, .inl (g.2 0, 200, .inl (zaI h)))] (some (.long (lI (rr)))) := by
  refine zs_open (by decide +kernel) (Nat.le_of_ble_eq_true rfl) ?_
  intro p e s m below meth c ls hx hb hml hr hlk hown hw hK hT hP hl
  have hown : s.vm.findClass "CronFinder" = some m.cls := hown
  have hl : lv_has ls 3 [(0, .ref (fq)), (1, .long (lI (tm)))] := hl
  refine lv_aload_n hx hb zd_F_next_0 rfl (lv_at hl 0 rfl) ?_
  refine lv_lload_n hx hb zd_F_next_1 rfl (lv_at hl 1 rfl) ?_
  refine zk_V (As := [.long (lI (tm))]) (b := fq) (own := "CronFinder") (nL := 3) (rest := []) hx hb hml hown hw (c_F_checkTime l g fq (tm) (by omega)) zw_3_16 zw_3_18 zw_0_15 zw_1_1 zw_3_19 (np := 1) (by decide +kernel) rfl (by decide) zN_mv hK trivial (hP.sub (ws' := []) [] rfl) (va_recv hK hP (ci := 0) (q0 := 0) rfl rfl) hl.1 rfl (Nat.le_of_ble_eq_true rfl) (by decide) zd_F_next_2 ?_
  refine lv_aload_n hx hb zd_F_next_5 rfl (lv_at hl 0 rfl) ?_
  refine lv_lload_n hx hb zd_F_next_6 rfl (lv_at hl 1 rfl) ?_
  refine zk_V (As := [.long (lI (tm))]) (b := fq) (own := "CronFinder") (nL := 3) (rest := []) hx hb hml hown hw (c_F_fireBehind l g fq tp tl sq br hq ha h cnt hol hR pq ra aa al sub od bits t en tw hs ru hru hok (tm) rr (by omega) hj) zw_3_22 zw_3_24 zw_0_16 zw_1_1 zw_3_25 (np := 1) (by decide +kernel) rfl (by decide) (zS3_mv t en tw _) hK hT (hP.sub (ws' := [(fq, .inr (0, [.ref (tp), .int (iI (tl)), .ref (pq), .ref (sq), .int (iI (br)), .ref (hq)])), (pq, .inr (3, [.ref (ra 0), .ref (ra 1), .ref (ra 2), .ref (ra 3), .ref (ra 4), .ref (ra 5), .ref (ra 6), .ref (en ru), .int (iI (sub)), .int (iI (od)), .int (zbits (bits))])), (ra 0, .inr (2, [.int (iI (0)), .int (iI (59)), .ref (aa 0)])), (aa 0, .inl (g.2 1, 60, .inl (zaB (al 0)))), (ra 1, .inr (2, [.int (iI (0)), .int (iI (59)), .ref (aa 1)])), (aa 1, .inl (g.2 1, 60, .inl (zaB (al 1)))), (ra 2, .inr (2, [.int (iI (0)), .int (iI (23)), .ref (aa 2)])), (aa 2, .inl (g.2 1, 24, .inl (zaB (al 2)))), (ra 3, .inr (2, [.int (iI (1)), .int (iI (31)), .ref (aa 3)])), (aa 3, .inl (g.2 1, 31, .inl (zaB (al 3)))), (ra 4, .inr (2, [.int (iI (1)), .int (iI (12)), .ref (aa 4)])), (aa 4, .inl (g.2 1, 12, .inl (zaB (al 4)))), (ra 5, .inr (2, [.int (iI (1)), .int (iI (7)), .ref (aa 5)])), (aa 5, .inl (g.2 1, 7, .inl (zaB (al 5)))), (ra 6, .inr (2, [.int (iI (1970)), .int (iI (2299)), .ref (aa 6)])), (aa 6, .inl (g.2 1, 330, .inl (zaB (al 6)))), (hq, .inr (1, [.ref (ha), .int (iI (cnt))])), (ha, .inl (g.2 0, 200, .inl (zaI h)))]) [0, 1, 2, 3, 4, 5, 6, 7, 8, 9, 10, 11, 12, 13, 14, 15, 16, 17] rfl) (va_recv hK hP (ci := 0) (q0 := 0) rfl rfl) hl.1 rfl (Nat.le_of_ble_eq_true rfl) (by decide) zd_F_next_7 ?_
  refine zl_as (rr) (rfl) ?_
  exact zs_lret hx hb hr hlk zd_F_next_10
set_option maxHeartbeats 4000000 in
set_option maxRecDepth 100000 in
theorem c_F_last (l : Launch) (g : zGl) (fq tp : Nat) (tl : Int) (sq : Nat) (br : Int) (hq ha : Nat) (h : Nat → Int) (cnt : Int) (hol : Int → Bool) (hR : dsR h cnt hol) (pq : Nat) (ra aa : Nat → Nat) (al : Nat → Nat → Bool) (sub od : Int) (bits : Nat → Bool) (t : Nat) (en : Nat → Nat) (tw : Nat) (hs : 0 ≤ sub ∧ sub ≤ 31 ∧ 0 ≤ od ∧ od ≤ 5) (ru : Nat) (hru : ru < 7 ∧ (ru = 3 → 1 ≤ sub)) (hok : pOk al (pDays al bits ru sub od)) (tm rr : Int) (hx0 : 0 ≤ tm ∧ tm ≤ 10413791999) (hj : tNB (fFit (pDays al bits ru sub od) hol) (sOk (al 0) (al 1) (al 2)) tm rr) : zSi l zy_F_last zc_F_last 3 (some .long) ({ frames := 6, cells := 0, slots := 0, locals := 146 }) g (zS3 t en tw (fun _ => False)) [.ref (fq), .long (lI (tm))] [(fq, .inr (0, [.ref (tp), .int (iI (tl)), .ref (pq), .ref (sq), .int (iI (br)), .ref (hq)])), (pq, .inr (3, [.ref (ra 0), .ref (ra 1), .ref (ra 2), .ref (ra 3), .ref (ra 4), .ref (ra 5), .ref (ra 6), .ref (en ru), .int (iI (sub)), .int (iI (od)), .int (zbits (bits))])), (ra 0, .inr (2, [.int (iI (0)), .int (iI (59)), .ref (aa 0)])), (aa 0, .inl (g.2 1, 60, .inl (zaB (al 0)))), (ra 1, .inr (2, [.int (iI (0)), .int (iI (59)), .ref (aa 1)])), (aa 1, .inl (g.2 1, 60, .inl (zaB (al 1)))), (ra 2, .inr (2, [.int (iI (0)), .int (iI (23)), .ref (aa 2)])), (aa 2, .inl (g.2 1, 24, .inl (zaB (al 2)))), (ra 3, .inr (2, [.int (iI (1)), .int (iI (31)), .ref (aa 3)])), (aa 3, .inl (g.2 1, 31, .inl (zaB (al 3)))), (ra 4, .inr (2, [.int (iI (1)), .int (iI (12)), .ref (aa 4)])), (aa 4, .inl (g.2 1, 12, .inl (zaB (al 4)))), (ra 5, .inr (2, [.int (iI (1)), .int (iI (7)), .ref (aa 5)])), (aa 5, .inl (g.2 1, 7, .inl (zaB (al 5)))), (ra 6, .inr (2, [.int (iI (1970)), .int (iI (2299)), .ref (aa 6)])), (aa 6, .inl (g.2 1, 330, .inl (zaB (al 6)))), (hq, .inr (1, [.ref (ha), .int (iI (cnt))])), (ha, .inl (g.2 0, 200, .inl (zaI h)))] (some (.long (lI (rr)))) := by
  refine zs_open (by decide +kernel) (Nat.le_of_ble_eq_true rfl) ?_
  intro p e s m below meth c ls hx hb hml hr hlk hown hw hK hT hP hl
  have hown : s.vm.findClass "CronFinder" = some m.cls := hown
  have hl : lv_has ls 3 [(0, .ref (fq)), (1, .long (lI (tm)))] := hl
  refine lv_aload_n hx hb zd_F_last_0 rfl (lv_at hl 0 rfl) ?_
  refine lv_lload_n hx hb zd_F_last_1 rfl (lv_at hl 1 rfl) ?_
  refine zk_V (As := [.long (lI (tm))]) (b := fq) (own := "CronFinder") (nL := 3) (rest := []) hx hb hml hown hw (c_F_checkTime l g fq (tm) (by omega)) zw_3_16 zw_3_18 zw_0_15 zw_1_1 zw_3_19 (np := 1) (by decide +kernel) rfl (by decide) zN_mv hK trivial (hP.sub (ws' := []) [] rfl) (va_recv hK hP (ci := 0) (q0 := 0) rfl rfl) hl.1 rfl (Nat.le_of_ble_eq_true rfl) (by decide) zd_F_last_2 ?_
  refine lv_aload_n hx hb zd_F_last_5 rfl (lv_at hl 0 rfl) ?_
  refine lv_lload_n hx hb zd_F_last_6 rfl (lv_at hl 1 rfl) ?_
  refine zk_V (As := [.long (lI (tm))]) (b := fq) (own := "CronFinder") (nL := 3) (rest := []) hx hb hml hown hw (c_F_fireNotBehind l g fq tp tl sq br hq ha h cnt hol hR pq ra aa al sub od bits t en tw hs ru hru hok (tm) rr (by omega) hj) zw_3_124 zw_3_126 zw_0_26 zw_1_1 zw_3_127 (np := 1) (by decide +kernel) rfl (by decide) (zS3_mv t en tw _) hK hT (hP.sub (ws' := [(fq, .inr (0, [.ref (tp), .int (iI (tl)), .ref (pq), .ref (sq), .int (iI (br)), .ref (hq)])), (pq, .inr (3, [.ref (ra 0), .ref (ra 1), .ref (ra 2), .ref (ra 3), .ref (ra 4), .ref (ra 5), .ref (ra 6), .ref (en ru), .int (iI (sub)), .int (iI (od)), .int (zbits (bits))])), (ra 0, .inr (2, [.int (iI (0)), .int (iI (59)), .ref (aa 0)])), (aa 0, .inl (g.2 1, 60, .inl (zaB (al 0)))), (ra 1, .inr (2, [.int (iI (0)), .int (iI (59)), .ref (aa 1)])), (aa 1, .inl (g.2 1, 60, .inl (zaB (al 1)))), (ra 2, .inr (2, [.int (iI (0)), .int (iI (23)), .ref (aa 2)])), (aa 2, .inl (g.2 1, 24, .inl (zaB (al 2)))), (ra 3, .inr (2, [.int (iI (1)), .int (iI (31)), .ref (aa 3)])), (aa 3, .inl (g.2 1, 31, .inl (zaB (al 3)))), (ra 4, .inr (2, [.int (iI (1)), .int (iI (12)), .ref (aa 4)])), (aa 4, .inl (g.2 1, 12, .inl (zaB (al 4)))), (ra 5, .inr (2, [.int (iI (1)), .int (iI (7)), .ref (aa 5)])), (aa 5, .inl (g.2 1, 7, .inl (zaB (al 5)))), (ra 6, .inr (2, [.int (iI (1970)), .int (iI (2299)), .ref (aa 6)])), (aa 6, .inl (g.2 1, 330, .inl (zaB (al 6)))), (hq, .inr (1, [.ref (ha), .int (iI (cnt))])), (ha, .inl (g.2 0, 200, .inl (zaI h)))]) [0, 1, 2, 3, 4, 5, 6, 7, 8, 9, 10, 11, 12, 13, 14, 15, 16, 17] rfl) (va_recv hK hP (ci := 0) (q0 := 0) rfl rfl) hl.1 rfl (Nat.le_of_ble_eq_true rfl) (by decide) zd_F_last_7 ?_
  refine zl_as (rr) (rfl) ?_
  exact zs_lret hx hb hr hlk zd_F_last_10
